section
-- ===== PART A: goes FIRST, ahead of the names: the tables' words, and 'selects' of the private methods out of them =====
/-- a private method of a class that the tables say can be made, by its rows of tables_1 -/
def lw_okq (q : MethodName × Nat) : Prop := (q.1.cls ≠ "java/lang/invoke/MethodHandle" ∧ q.1.cls ≠ "java/lang/invoke/VarHandle") ∧ Cond.instantiable q.1.cls q.2 ∈ tables_1 ∧ Cond.privateMethod q.1 ∈ tables_1 ∧ Cond.instanceMethod q.1 ∈ tables_1
theorem lw_p0 : lw_okq (⟨"RingTasks$Task", "stepOn", "()V"⟩, 6) := ⟨⟨by decide +kernel, by decide +kernel⟩, List.mem_of_getElem? (i := 18) (by decide +kernel), List.mem_of_getElem? (i := 145) (by decide +kernel), List.mem_of_getElem? (i := 146) (by decide +kernel)⟩
theorem lw_p1 : lw_okq (⟨"RingTasks$Task", "lookBack", "(II)V"⟩, 6) := ⟨⟨by decide +kernel, by decide +kernel⟩, List.mem_of_getElem? (i := 18) (by decide +kernel), List.mem_of_getElem? (i := 169) (by decide +kernel), List.mem_of_getElem? (i := 170) (by decide +kernel)⟩
theorem lw_p2 : lw_okq (⟨"RingTasks$Task", "reachedFrom", "(I)I"⟩, 6) := ⟨⟨by decide +kernel, by decide +kernel⟩, List.mem_of_getElem? (i := 18) (by decide +kernel), List.mem_of_getElem? (i := 190) (by decide +kernel), List.mem_of_getElem? (i := 191) (by decide +kernel)⟩
theorem lw_p3 : lw_okq (⟨"RingTasks$Posts", "next", "(I)I"⟩, 3) := ⟨⟨by decide +kernel, by decide +kernel⟩, List.mem_of_getElem? (i := 55) (by decide +kernel), List.mem_of_getElem? (i := 283) (by decide +kernel), List.mem_of_getElem? (i := 284) (by decide +kernel)⟩
theorem lw_p4 : lw_okq (⟨"RingTasks$Posts", "mendStretch", "(IIILRingTasks$Task;)Z"⟩, 3) := ⟨⟨by decide +kernel, by decide +kernel⟩, List.mem_of_getElem? (i := 55) (by decide +kernel), List.mem_of_getElem? (i := 305) (by decide +kernel), List.mem_of_getElem? (i := 306) (by decide +kernel)⟩
theorem lw_p5 : lw_okq (⟨"RingTasks$Posts", "previous", "(I)I"⟩, 3) := ⟨⟨by decide +kernel, by decide +kernel⟩, List.mem_of_getElem? (i := 55) (by decide +kernel), List.mem_of_getElem? (i := 310) (by decide +kernel), List.mem_of_getElem? (i := 311) (by decide +kernel)⟩
theorem lw_p6 : lw_okq (⟨"RingTasksModel", "begin", "(I)V"⟩, 9) := ⟨⟨by decide +kernel, by decide +kernel⟩, List.mem_of_getElem? (i := 395) (by decide +kernel), List.mem_of_getElem? (i := 401) (by decide +kernel), List.mem_of_getElem? (i := 402) (by decide +kernel)⟩
theorem lw_p7 : lw_okq (⟨"RingTasksModel", "lay", "(I)V"⟩, 9) := ⟨⟨by decide +kernel, by decide +kernel⟩, List.mem_of_getElem? (i := 395) (by decide +kernel), List.mem_of_getElem? (i := 405) (by decide +kernel), List.mem_of_getElem? (i := 406) (by decide +kernel)⟩
theorem lw_p8 : lw_okq (⟨"RingTasksModel", "isLabel", "(I)Z"⟩, 9) := ⟨⟨by decide +kernel, by decide +kernel⟩, List.mem_of_getElem? (i := 395) (by decide +kernel), List.mem_of_getElem? (i := 449) (by decide +kernel), List.mem_of_getElem? (i := 450) (by decide +kernel)⟩
theorem lw_p9 : lw_okq (⟨"RingTasksModel", "layMany", "(II)V"⟩, 9) := ⟨⟨by decide +kernel, by decide +kernel⟩, List.mem_of_getElem? (i := 395) (by decide +kernel), List.mem_of_getElem? (i := 465) (by decide +kernel), List.mem_of_getElem? (i := 466) (by decide +kernel)⟩
theorem lw_p10 : lw_okq (⟨"RingTasksModel", "layRing", "(I)Z"⟩, 9) := ⟨⟨by decide +kernel, by decide +kernel⟩, List.mem_of_getElem? (i := 395) (by decide +kernel), List.mem_of_getElem? (i := 482) (by decide +kernel), List.mem_of_getElem? (i := 483) (by decide +kernel)⟩
theorem lw_p11 : lw_okq (⟨"RingTasksModel", "layLeads", "()V"⟩, 9) := ⟨⟨by decide +kernel, by decide +kernel⟩, List.mem_of_getElem? (i := 395) (by decide +kernel), List.mem_of_getElem? (i := 486) (by decide +kernel), List.mem_of_getElem? (i := 487) (by decide +kernel)⟩
theorem lw_p12 : lw_okq (⟨"RingTasksModel", "isWalk", "(III)Z"⟩, 9) := ⟨⟨by decide +kernel, by decide +kernel⟩, List.mem_of_getElem? (i := 395) (by decide +kernel), List.mem_of_getElem? (i := 491) (by decide +kernel), List.mem_of_getElem? (i := 492) (by decide +kernel)⟩
theorem lw_p13 : lw_okq (⟨"RingTasksModel", "next", "(III)I"⟩, 9) := ⟨⟨by decide +kernel, by decide +kernel⟩, List.mem_of_getElem? (i := 395) (by decide +kernel), List.mem_of_getElem? (i := 495) (by decide +kernel), List.mem_of_getElem? (i := 496) (by decide +kernel)⟩
theorem lw_p14 : lw_okq (⟨"RingTasksModel", "blockOf", "(I)I"⟩, 9) := ⟨⟨by decide +kernel, by decide +kernel⟩, List.mem_of_getElem? (i := 395) (by decide +kernel), List.mem_of_getElem? (i := 503) (by decide +kernel), List.mem_of_getElem? (i := 504) (by decide +kernel)⟩
theorem lw_p15 : lw_okq (⟨"RingTasksModel", "isOneBlock", "(II)Z"⟩, 9) := ⟨⟨by decide +kernel, by decide +kernel⟩, List.mem_of_getElem? (i := 395) (by decide +kernel), List.mem_of_getElem? (i := 507) (by decide +kernel), List.mem_of_getElem? (i := 508) (by decide +kernel)⟩
def lw_privs_1 : List (MethodName × Nat) := [(⟨"RingTasks$Task", "stepOn", "()V"⟩, 6), (⟨"RingTasks$Task", "lookBack", "(II)V"⟩, 6), (⟨"RingTasks$Task", "reachedFrom", "(I)I"⟩, 6), (⟨"RingTasks$Posts", "next", "(I)I"⟩, 3), (⟨"RingTasks$Posts", "mendStretch", "(IIILRingTasks$Task;)Z"⟩, 3), (⟨"RingTasks$Posts", "previous", "(I)I"⟩, 3), (⟨"RingTasksModel", "begin", "(I)V"⟩, 9), (⟨"RingTasksModel", "lay", "(I)V"⟩, 9), (⟨"RingTasksModel", "isLabel", "(I)Z"⟩, 9), (⟨"RingTasksModel", "layMany", "(II)V"⟩, 9), (⟨"RingTasksModel", "layRing", "(I)Z"⟩, 9), (⟨"RingTasksModel", "layLeads", "()V"⟩, 9), (⟨"RingTasksModel", "isWalk", "(III)Z"⟩, 9), (⟨"RingTasksModel", "next", "(III)I"⟩, 9), (⟨"RingTasksModel", "blockOf", "(I)I"⟩, 9), (⟨"RingTasksModel", "isOneBlock", "(II)Z"⟩, 9)]
theorem lw_r1 : ∀ q ∈ lw_privs_1, lw_okq q := List.forall_mem_cons.mpr ⟨lw_p0, List.forall_mem_cons.mpr ⟨lw_p1, List.forall_mem_cons.mpr ⟨lw_p2, List.forall_mem_cons.mpr ⟨lw_p3, List.forall_mem_cons.mpr ⟨lw_p4, List.forall_mem_cons.mpr ⟨lw_p5, List.forall_mem_cons.mpr ⟨lw_p6, List.forall_mem_cons.mpr ⟨lw_p7, List.forall_mem_cons.mpr ⟨lw_p8, List.forall_mem_cons.mpr ⟨lw_p9, List.forall_mem_cons.mpr ⟨lw_p10, List.forall_mem_cons.mpr ⟨lw_p11, List.forall_mem_cons.mpr ⟨lw_p12, List.forall_mem_cons.mpr ⟨lw_p13, List.forall_mem_cons.mpr ⟨lw_p14, List.forall_mem_cons.mpr ⟨lw_p15, fun _ h => absurd h List.not_mem_nil⟩⟩⟩⟩⟩⟩⟩⟩⟩⟩⟩⟩⟩⟩⟩⟩
theorem lw_p16 : lw_okq (⟨"RingTasksModel", "paceOf", "(I)I"⟩, 9) := ⟨⟨by decide +kernel, by decide +kernel⟩, List.mem_of_getElem? (i := 395) (by decide +kernel), List.mem_of_getElem? (i := 519) (by decide +kernel), List.mem_of_getElem? (i := 520) (by decide +kernel)⟩
theorem lw_p17 : lw_okq (⟨"RingTasksModel", "behindLast", "(I)I"⟩, 9) := ⟨⟨by decide +kernel, by decide +kernel⟩, List.mem_of_getElem? (i := 395) (by decide +kernel), List.mem_of_getElem? (i := 534) (by decide +kernel), List.mem_of_getElem? (i := 535) (by decide +kernel)⟩
theorem lw_p18 : lw_okq (⟨"RingTasksModel", "isPost", "(I)Z"⟩, 9) := ⟨⟨by decide +kernel, by decide +kernel⟩, List.mem_of_getElem? (i := 395) (by decide +kernel), List.mem_of_getElem? (i := 554) (by decide +kernel), List.mem_of_getElem? (i := 555) (by decide +kernel)⟩
theorem lw_p19 : lw_okq (⟨"RingTasksModel", "isFault", "(I)Z"⟩, 9) := ⟨⟨by decide +kernel, by decide +kernel⟩, List.mem_of_getElem? (i := 395) (by decide +kernel), List.mem_of_getElem? (i := 566) (by decide +kernel), List.mem_of_getElem? (i := 567) (by decide +kernel)⟩
theorem lw_p20 : lw_okq (⟨"RingTasksModel", "place", "(I)I"⟩, 9) := ⟨⟨by decide +kernel, by decide +kernel⟩, List.mem_of_getElem? (i := 395) (by decide +kernel), List.mem_of_getElem? (i := 570) (by decide +kernel), List.mem_of_getElem? (i := 571) (by decide +kernel)⟩
theorem lw_p21 : lw_okq (⟨"RingTasksModel", "layBetween", "(II)Z"⟩, 9) := ⟨⟨by decide +kernel, by decide +kernel⟩, List.mem_of_getElem? (i := 395) (by decide +kernel), List.mem_of_getElem? (i := 582) (by decide +kernel), List.mem_of_getElem? (i := 583) (by decide +kernel)⟩
theorem lw_p22 : lw_okq (⟨"RingTasksModel", "likes", "()I"⟩, 9) := ⟨⟨by decide +kernel, by decide +kernel⟩, List.mem_of_getElem? (i := 395) (by decide +kernel), List.mem_of_getElem? (i := 603) (by decide +kernel), List.mem_of_getElem? (i := 604) (by decide +kernel)⟩
theorem lw_p23 : lw_okq (⟨"RingTasksModel", "goRound", "()V"⟩, 9) := ⟨⟨by decide +kernel, by decide +kernel⟩, List.mem_of_getElem? (i := 395) (by decide +kernel), List.mem_of_getElem? (i := 607) (by decide +kernel), List.mem_of_getElem? (i := 608) (by decide +kernel)⟩
theorem lw_p24 : lw_okq (⟨"RingTasksModel", "greatest", "()I"⟩, 9) := ⟨⟨by decide +kernel, by decide +kernel⟩, List.mem_of_getElem? (i := 395) (by decide +kernel), List.mem_of_getElem? (i := 614) (by decide +kernel), List.mem_of_getElem? (i := 615) (by decide +kernel)⟩
theorem lw_p25 : lw_okq (⟨"RingTasksModel", "unlike", "([I)I"⟩, 9) := ⟨⟨by decide +kernel, by decide +kernel⟩, List.mem_of_getElem? (i := 395) (by decide +kernel), List.mem_of_getElem? (i := 630) (by decide +kernel), List.mem_of_getElem? (i := 631) (by decide +kernel)⟩
def lw_privs_2 : List (MethodName × Nat) := [(⟨"RingTasksModel", "paceOf", "(I)I"⟩, 9), (⟨"RingTasksModel", "behindLast", "(I)I"⟩, 9), (⟨"RingTasksModel", "isPost", "(I)Z"⟩, 9), (⟨"RingTasksModel", "isFault", "(I)Z"⟩, 9), (⟨"RingTasksModel", "place", "(I)I"⟩, 9), (⟨"RingTasksModel", "layBetween", "(II)Z"⟩, 9), (⟨"RingTasksModel", "likes", "()I"⟩, 9), (⟨"RingTasksModel", "goRound", "()V"⟩, 9), (⟨"RingTasksModel", "greatest", "()I"⟩, 9), (⟨"RingTasksModel", "unlike", "([I)I"⟩, 9)]
theorem lw_r2 : ∀ q ∈ lw_privs_2, lw_okq q := List.forall_mem_cons.mpr ⟨lw_p16, List.forall_mem_cons.mpr ⟨lw_p17, List.forall_mem_cons.mpr ⟨lw_p18, List.forall_mem_cons.mpr ⟨lw_p19, List.forall_mem_cons.mpr ⟨lw_p20, List.forall_mem_cons.mpr ⟨lw_p21, List.forall_mem_cons.mpr ⟨lw_p22, List.forall_mem_cons.mpr ⟨lw_p23, List.forall_mem_cons.mpr ⟨lw_p24, List.forall_mem_cons.mpr ⟨lw_p25, fun _ h => absurd h List.not_mem_nil⟩⟩⟩⟩⟩⟩⟩⟩⟩⟩
def lw_privs : List (MethodName × Nat) := lw_privs_1 ++ (lw_privs_2)
def lw_tbl : List Cond := k2_sels lw_privs ++ tables_1
theorem lw_privs_ok : ∀ q ∈ lw_privs, lw_okq q := by
  show ∀ q ∈ lw_privs_1 ++ (lw_privs_2), lw_okq q
  exact List.forall_mem_append.mpr ⟨lw_r1, lw_r2⟩
end
section
/-! ===== BEGIN words of one list among another's, by their places ===== -/
theorem goodIn_r {big : List Cond} (ws : List Cond) (ps : List Nat) (hp : ws = ps.filterMap (fun i => big[i]?)) (h : ws.all goodWord = true) : GoodIn big ws := by
  intro w hw
  have h1 := List.all_eq_true.mp h w hw
  rw [hp] at hw
  obtain ⟨i, -, hi⟩ := List.mem_filterMap.mp hw
  have hm : w ∈ big := by first | exact List.mem_of_getElem? hi | exact List.getElem?_mem hi
  exact ⟨hm, good_of_word h1⟩
theorem goodIn_app {big a b : List Cond} (ha : GoodIn big a) (hb : GoodIn big b) : GoodIn big (a ++ b) := fun w h => (List.mem_append.mp h).elim (ha w) (hb w)
theorem goodIn_ca {big a b : List Cond} {c : Cond} (ha : GoodIn big (c :: a)) (hb : GoodIn big b) : GoodIn big (c :: (a ++ b)) := fun w h => (List.mem_cons.mp h).elim (fun e => ha w (List.mem_cons.mpr (Or.inl e))) (fun h => (List.mem_append.mp h).elim (fun h => ha w (List.mem_cons.mpr (Or.inr h))) (hb w))
theorem goodIn_sub {big ws : List Cond} (hm : ∀ w ∈ ws, w ∈ big) (h : ws.all goodWord = true) : GoodIn big ws := fun w hw => ⟨hm w hw, good_of_word (List.all_eq_true.mp h w hw)⟩
/-! ===== END ===== -/

/-! ===== BEGIN printed: names, fields, word lists, decode rows ===== -/
def RX0 : String := "RingTasks$Posts"
def TX0 : u_T := fun k => match k with
  | 0 => ("RingTasks$Posts", "size", "I", false)
  | 1 => ("RingTasks$Posts", "label", "[I", true)
  | _ => ("RingTasks$Posts", "number", "[I", true)
def tyX0 : Nat → FieldType := fun k => match k with
  | 0 => .int
  | 1 => .array .int
  | _ => .array .int
abbrev wsX00 : List Cond := u_ws RX0 TX0 3
theorem nmX0 : ∀ a, a < 3 → ∀ b, b < 3 → a ≠ b → (TX0 a).2.1 ≠ (TX0 b).2.1 := by decide +kernel
theorem tyX0_ok : ∀ k, k < 3 → parseFieldDescriptor (TX0 k).2.2.1 = some (tyX0 k) := by decide +kernel
abbrev cX0_init : ByteArray := prog_2_method_1_code
def yX0_init : MethodName := ⟨RX0, "<init>", "(I)V"⟩
abbrev cX0_restart : ByteArray := prog_2_method_2_code
def yX0_restart : MethodName := ⟨RX0, "restart", "(I)V"⟩
abbrev cX0_clearLabels : ByteArray := prog_2_method_3_code
def yX0_clearLabels : MethodName := ⟨RX0, "clearLabels", "()V"⟩
abbrev cX0_has : ByteArray := prog_2_method_4_code
def yX0_has : MethodName := ⟨RX0, "has", "(I)Z"⟩
abbrev cX0_next : ByteArray := prog_2_method_5_code
def yX0_next : MethodName := ⟨RX0, "next", "(I)I"⟩
abbrev cX0_previous : ByteArray := prog_2_method_6_code
def yX0_previous : MethodName := ⟨RX0, "previous", "(I)I"⟩
abbrev cX0_isFault : ByteArray := prog_2_method_7_code
def yX0_isFault : MethodName := ⟨RX0, "isFault", "(ILRingTasks$Task;)Z"⟩
abbrev cX0_faultFrom : ByteArray := prog_2_method_8_code
def yX0_faultFrom : MethodName := ⟨RX0, "faultFrom", "(ILRingTasks$Task;)I"⟩
abbrev cX0_mendAround : ByteArray := prog_2_method_9_code
def yX0_mendAround : MethodName := ⟨RX0, "mendAround", "(ILRingTasks$Task;)I"⟩
abbrev cX0_mendStretch : ByteArray := prog_2_method_10_code
def yX0_mendStretch : MethodName := ⟨RX0, "mendStretch", "(IIILRingTasks$Task;)Z"⟩
abbrev cX0_putWalk : ByteArray := prog_2_method_11_code
def yX0_putWalk : MethodName := ⟨RX0, "putWalk", "(IILRingTasks$Task;I)V"⟩
abbrev cX0_likeNeighbours : ByteArray := prog_2_method_12_code
def yX0_likeNeighbours : MethodName := ⟨RX0, "likeNeighbours", "()I"⟩
abbrev cX0_greatestNumber : ByteArray := prog_2_method_13_code
def yX0_greatestNumber : MethodName := ⟨RX0, "greatestNumber", "()I"⟩
abbrev cX0_doRound : ByteArray := prog_2_method_14_code
def yX0_doRound : MethodName := ⟨RX0, "doRound", "()V"⟩
abbrev cX0_shortened : ByteArray := prog_2_method_15_code
def yX0_shortened : MethodName := ⟨RX0, "shortened", "(II)I"⟩
abbrev cX0_giveUpColour : ByteArray := prog_2_method_16_code
def yX0_giveUpColour : MethodName := ⟨RX0, "giveUpColour", "(I)V"⟩
abbrev cX0_leastBeside : ByteArray := prog_2_method_17_code
def yX0_leastBeside : MethodName := ⟨RX0, "leastBeside", "(II)I"⟩
abbrev cX0_takeNumbers : ByteArray := prog_2_method_18_code
def yX0_takeNumbers : MethodName := ⟨RX0, "takeNumbers", "()V"⟩
abbrev cX0_unlike : ByteArray := prog_2_method_19_code
def yX0_unlike : MethodName := ⟨RX0, "unlike", "([I)I"⟩
abbrev cX0_standsBefore : ByteArray := prog_2_method_20_code
def yX0_standsBefore : MethodName := ⟨RX0, "standsBefore", "([II)Z"⟩
def RX1 : String := "RingTasks$Task"
def TX1 : u_T := fun k => match k with
  | 0 => ("RingTasks$Task", "size", "I", false)
  | 1 => ("RingTasks$Task", "behind", "[I", true)
  | 2 => ("RingTasks$Task", "walk", "[I", true)
  | 3 => ("RingTasks$Task", "reaching", "[I", true)
  | 4 => ("RingTasks$Task", "ways", "[J", true)
  | _ => ("RingTasks$Task", "waysOn", "[J", true)
def tyX1 : Nat → FieldType := fun k => match k with
  | 0 => .int
  | 1 => .array .int
  | 2 => .array .int
  | 3 => .array .int
  | 4 => .array .long
  | _ => .array .long
abbrev wsX10 : List Cond := u_ws RX1 TX1 6
theorem nmX1 : ∀ a, a < 6 → ∀ b, b < 6 → a ≠ b → (TX1 a).2.1 ≠ (TX1 b).2.1 := by decide +kernel
theorem tyX1_ok : ∀ k, k < 6 → parseFieldDescriptor (TX1 k).2.2.1 = some (tyX1 k) := by decide +kernel
abbrev cX1_init : ByteArray := prog_3_method_1_code
def yX1_init : MethodName := ⟨RX1, "<init>", "(I)V"⟩
abbrev cX1_restart : ByteArray := prog_3_method_2_code
def yX1_restart : MethodName := ⟨RX1, "restart", "(I)V"⟩
abbrev cX1_has : ByteArray := prog_3_method_3_code
def yX1_has : MethodName := ⟨RX1, "has", "(I)Z"⟩
abbrev cX1_mayFollow : ByteArray := prog_3_method_4_code
def yX1_mayFollow : MethodName := ⟨RX1, "mayFollow", "(II)Z"⟩
abbrev cX1_decide : ByteArray := prog_3_method_5_code
def yX1_decide : MethodName := ⟨RX1, "decide", "(IIZ)V"⟩
abbrev cX1_pairCount : ByteArray := prog_3_method_6_code
def yX1_pairCount : MethodName := ⟨RX1, "pairCount", "()I"⟩
abbrev cX1_ringCount : ByteArray := prog_3_method_7_code
def yX1_ringCount : MethodName := ⟨RX1, "ringCount", "(I)J"⟩
abbrev cX1_walkCount : ByteArray := prog_3_method_8_code
def yX1_walkCount : MethodName := ⟨RX1, "walkCount", "(III)J"⟩
abbrev cX1_stepOn : ByteArray := prog_3_method_9_code
def yX1_stepOn : MethodName := ⟨RX1, "stepOn", "()V"⟩
abbrev cX1_findRing : ByteArray := prog_3_method_10_code
def yX1_findRing : MethodName := ⟨RX1, "findRing", "(I)Z"⟩
abbrev cX1_findWalk : ByteArray := prog_3_method_11_code
def yX1_findWalk : MethodName := ⟨RX1, "findWalk", "(III)Z"⟩
abbrev cX1_lookBack : ByteArray := prog_3_method_12_code
def yX1_lookBack : MethodName := ⟨RX1, "lookBack", "(II)V"⟩
abbrev cX1_leastOfBlock : ByteArray := prog_3_method_13_code
def yX1_leastOfBlock : MethodName := ⟨RX1, "leastOfBlock", "(I)I"⟩
abbrev cX1_reachedFrom : ByteArray := prog_3_method_14_code
def yX1_reachedFrom : MethodName := ⟨RX1, "reachedFrom", "(I)I"⟩
abbrev cX1_paceOf : ByteArray := prog_3_method_15_code
def yX1_paceOf : MethodName := ⟨RX1, "paceOf", "(I)I"⟩
abbrev cX1_dividesAll : ByteArray := prog_3_method_16_code
def yX1_dividesAll : MethodName := ⟨RX1, "dividesAll", "(IJ)Z"⟩
abbrev cX1_returnLengths : ByteArray := prog_3_method_17_code
def yX1_returnLengths : MethodName := ⟨RX1, "returnLengths", "(I)J"⟩
abbrev cX1_ringLengths : ByteArray := prog_3_method_18_code
def yX1_ringLengths : MethodName := ⟨RX1, "ringLengths", "()J"⟩
abbrev cX1_hasPaceOne : ByteArray := prog_3_method_19_code
def yX1_hasPaceOne : MethodName := ⟨RX1, "hasPaceOne", "()Z"⟩
abbrev cX1_kindOfTask : ByteArray := prog_3_method_20_code
def yX1_kindOfTask : MethodName := ⟨RX1, "kindOfTask", "()I"⟩
abbrev cX1_isMirrored : ByteArray := prog_3_method_21_code
def yX1_isMirrored : MethodName := ⟨RX1, "isMirrored", "()Z"⟩
abbrev cX1_holds : ByteArray := prog_3_method_22_code
def yX1_holds : MethodName := ⟨RX1, "holds", "(II)Z"⟩
abbrev cX1_least : ByteArray := prog_3_method_23_code
def yX1_least : MethodName := ⟨RX1, "least", "(I)I"⟩
def RX2 : String := "RingTasks"
def TX2 : u_T := fun k => match k with
  | 0 => ("RingTasks", "task", "LRingTasks$Task;", true)
  | _ => ("RingTasks", "posts", "LRingTasks$Posts;", true)
def tyX2 : Nat → FieldType := fun k => match k with
  | 0 => .object "RingTasks$Task"
  | _ => .object "RingTasks$Posts"
abbrev wsX20 : List Cond := u_ws RX2 TX2 2
theorem nmX2 : ∀ a, a < 2 → ∀ b, b < 2 → a ≠ b → (TX2 a).2.1 ≠ (TX2 b).2.1 := by decide +kernel
theorem tyX2_ok : ∀ k, k < 2 → parseFieldDescriptor (TX2 k).2.2.1 = some (tyX2 k) := by decide +kernel
abbrev cX2_init : ByteArray := prog_1_method_1_code
def yX2_init : MethodName := ⟨RX2, "<init>", "()V"⟩
abbrev cX2_labels : ByteArray := prog_1_method_2_code
def yX2_labels : MethodName := ⟨RX2, "labels", "(I)I"⟩
abbrev cX2_allow : ByteArray := prog_1_method_3_code
def yX2_allow : MethodName := ⟨RX2, "allow", "(IIZ)I"⟩
abbrev cX2_may : ByteArray := prog_1_method_4_code
def yX2_may : MethodName := ⟨RX2, "may", "(II)I"⟩
abbrev cX2_rings : ByteArray := prog_1_method_5_code
def yX2_rings : MethodName := ⟨RX2, "rings", "(I)J"⟩
abbrev cX2_first : ByteArray := prog_1_method_6_code
def yX2_first : MethodName := ⟨RX2, "first", "(II)I"⟩
abbrev cX2_walks : ByteArray := prog_1_method_7_code
def yX2_walks : MethodName := ⟨RX2, "walks", "(III)J"⟩
abbrev cX2_blocks : ByteArray := prog_1_method_8_code
def yX2_blocks : MethodName := ⟨RX2, "blocks", "()I"⟩
abbrev cX2_block : ByteArray := prog_1_method_9_code
def yX2_block : MethodName := ⟨RX2, "block", "(I)I"⟩
abbrev cX2_pace : ByteArray := prog_1_method_10_code
def yX2_pace : MethodName := ⟨RX2, "pace", "(I)I"⟩
abbrev cX2_kind : ByteArray := prog_1_method_11_code
def yX2_kind : MethodName := ⟨RX2, "kind", "()I"⟩
abbrev cX2_sure : ByteArray := prog_1_method_12_code
def yX2_sure : MethodName := ⟨RX2, "sure", "()I"⟩
abbrev cX2_free : ByteArray := prog_1_method_13_code
def yX2_free : MethodName := ⟨RX2, "free", "(I)I"⟩
abbrev cX2_mirrors : ByteArray := prog_1_method_14_code
def yX2_mirrors : MethodName := ⟨RX2, "mirrors", "()I"⟩
abbrev cX2_ring : ByteArray := prog_1_method_15_code
def yX2_ring : MethodName := ⟨RX2, "ring", "(I)I"⟩
abbrev cX2_put : ByteArray := prog_1_method_16_code
def yX2_put : MethodName := ⟨RX2, "put", "(II)I"⟩
abbrev cX2_at : ByteArray := prog_1_method_17_code
def yX2_at : MethodName := ⟨RX2, "at", "(I)I"⟩
abbrev cX2_faults : ByteArray := prog_1_method_18_code
def yX2_faults : MethodName := ⟨RX2, "faults", "()I"⟩
abbrev cX2_fault : ByteArray := prog_1_method_19_code
def yX2_fault : MethodName := ⟨RX2, "fault", "(I)I"⟩
abbrev cX2_mend : ByteArray := prog_1_method_20_code
def yX2_mend : MethodName := ⟨RX2, "mend", "(I)I"⟩
abbrev cX2_fresh : ByteArray := prog_1_method_21_code
def yX2_fresh : MethodName := ⟨RX2, "fresh", "()I"⟩
abbrev cX2_number : ByteArray := prog_1_method_22_code
def yX2_number : MethodName := ⟨RX2, "number", "(II)I"⟩
abbrev cX2_told : ByteArray := prog_1_method_23_code
def yX2_told : MethodName := ⟨RX2, "told", "(I)I"⟩
abbrev cX2_round : ByteArray := prog_1_method_24_code
def yX2_round : MethodName := ⟨RX2, "round", "()I"⟩
abbrev cX2_colours : ByteArray := prog_1_method_25_code
def yX2_colours : MethodName := ⟨RX2, "colours", "()I"⟩
abbrev cX2_take : ByteArray := prog_1_method_26_code
def yX2_take : MethodName := ⟨RX2, "take", "()I"⟩
abbrev cX2_count : ByteArray := prog_1_method_27_code
def yX2_count : MethodName := ⟨RX2, "count", "(I)I"⟩
abbrev cX2_asNumber : ByteArray := prog_1_method_28_code
def yX2_asNumber : MethodName := ⟨RX2, "asNumber", "(Z)I"⟩
abbrev cX2_isRingSize : ByteArray := prog_1_method_29_code
def yX2_isRingSize : MethodName := ⟨RX2, "isRingSize", "(I)Z"⟩
abbrev cX2_endOfGaps : ByteArray := prog_1_method_30_code
def yX2_endOfGaps : MethodName := ⟨RX2, "endOfGaps", "(J)I"⟩
def RX3 : String := "RingTasksModel"
def TX3 : u_T := fun k => match k with
  | 0 => ("RingTasksModel", "labels", "I", false)
  | 1 => ("RingTasksModel", "may", "[Z", true)
  | 2 => ("RingTasksModel", "leads", "[J", true)
  | 3 => ("RingTasksModel", "many", "[J", true)
  | 4 => ("RingTasksModel", "then", "[J", true)
  | 5 => ("RingTasksModel", "row", "[I", true)
  | 6 => ("RingTasksModel", "posts", "I", false)
  | 7 => ("RingTasksModel", "label", "[I", true)
  | _ => ("RingTasksModel", "number", "[I", true)
def tyX3 : Nat → FieldType := fun k => match k with
  | 0 => .int
  | 1 => .array .boolean
  | 2 => .array .long
  | 3 => .array .long
  | 4 => .array .long
  | 5 => .array .int
  | 6 => .int
  | 7 => .array .int
  | _ => .array .int
abbrev wsX30 : List Cond := u_ws RX3 TX3 9
theorem nmX3 : ∀ a, a < 9 → ∀ b, b < 9 → a ≠ b → (TX3 a).2.1 ≠ (TX3 b).2.1 := by decide +kernel
theorem tyX3_ok : ∀ k, k < 9 → parseFieldDescriptor (TX3 k).2.2.1 = some (tyX3 k) := by decide +kernel
abbrev cX3_init : ByteArray := prog_5_method_1_code
def yX3_init : MethodName := ⟨RX3, "<init>", "()V"⟩
abbrev cX3_in : ByteArray := prog_5_method_3_code
def yX3_in : MethodName := ⟨RX3, "in", "(III)Z"⟩
abbrev cX3_isLabel : ByteArray := prog_5_method_4_code
def yX3_isLabel : MethodName := ⟨RX3, "isLabel", "(I)Z"⟩
abbrev cX3_begin : ByteArray := prog_5_method_5_code
def yX3_begin : MethodName := ⟨RX3, "begin", "(I)V"⟩
abbrev cX3_labels : ByteArray := prog_5_method_6_code
def yX3_labels : MethodName := ⟨RX3, "labels", "(I)I"⟩
abbrev cX3_allow : ByteArray := prog_5_method_7_code
def yX3_allow : MethodName := ⟨RX3, "allow", "(IIZ)I"⟩
abbrev cX3_may : ByteArray := prog_5_method_8_code
def yX3_may : MethodName := ⟨RX3, "may", "(II)I"⟩
abbrev cX3_layLeads : ByteArray := prog_5_method_9_code
def yX3_layLeads : MethodName := ⟨RX3, "layLeads", "()V"⟩
abbrev cX3_isWalk : ByteArray := prog_5_method_10_code
def yX3_isWalk : MethodName := ⟨RX3, "isWalk", "(III)Z"⟩
abbrev cX3_layMany : ByteArray := prog_5_method_11_code
def yX3_layMany : MethodName := ⟨RX3, "layMany", "(II)V"⟩
abbrev cX3_cut : ByteArray := prog_5_method_12_code
def yX3_cut : MethodName := ⟨RX3, "cut", "(J)J"⟩
abbrev cX3_isRing : ByteArray := prog_5_method_13_code
def yX3_isRing : MethodName := ⟨RX3, "isRing", "(I)Z"⟩
abbrev cX3_rings : ByteArray := prog_5_method_14_code
def yX3_rings : MethodName := ⟨RX3, "rings", "(I)J"⟩
abbrev cX3_walks : ByteArray := prog_5_method_15_code
def yX3_walks : MethodName := ⟨RX3, "walks", "(III)J"⟩
abbrev cX3_next : ByteArray := prog_5_method_16_code
def yX3_next : MethodName := ⟨RX3, "next", "(III)I"⟩
abbrev cX3_layRing : ByteArray := prog_5_method_17_code
def yX3_layRing : MethodName := ⟨RX3, "layRing", "(I)Z"⟩
abbrev cX3_first : ByteArray := prog_5_method_18_code
def yX3_first : MethodName := ⟨RX3, "first", "(II)I"⟩
abbrev cX3_isOneBlock : ByteArray := prog_5_method_19_code
def yX3_isOneBlock : MethodName := ⟨RX3, "isOneBlock", "(II)Z"⟩
abbrev cX3_blockOf : ByteArray := prog_5_method_20_code
def yX3_blockOf : MethodName := ⟨RX3, "blockOf", "(I)I"⟩
abbrev cX3_blocks : ByteArray := prog_5_method_21_code
def yX3_blocks : MethodName := ⟨RX3, "blocks", "()I"⟩
abbrev cX3_block : ByteArray := prog_5_method_22_code
def yX3_block : MethodName := ⟨RX3, "block", "(I)I"⟩
abbrev cX3_common : ByteArray := prog_5_method_23_code
def yX3_common : MethodName := ⟨RX3, "common", "(II)I"⟩
abbrev cX3_paceOf : ByteArray := prog_5_method_24_code
def yX3_paceOf : MethodName := ⟨RX3, "paceOf", "(I)I"⟩
abbrev cX3_pace : ByteArray := prog_5_method_25_code
def yX3_pace : MethodName := ⟨RX3, "pace", "(I)I"⟩
abbrev cX3_kind : ByteArray := prog_5_method_26_code
def yX3_kind : MethodName := ⟨RX3, "kind", "()I"⟩
abbrev cX3_behindLast : ByteArray := prog_5_method_27_code
def yX3_behindLast : MethodName := ⟨RX3, "behindLast", "(I)I"⟩
abbrev cX3_sure : ByteArray := prog_5_method_28_code
def yX3_sure : MethodName := ⟨RX3, "sure", "()I"⟩
abbrev cX3_free : ByteArray := prog_5_method_29_code
def yX3_free : MethodName := ⟨RX3, "free", "(I)I"⟩
abbrev cX3_mirrors : ByteArray := prog_5_method_30_code
def yX3_mirrors : MethodName := ⟨RX3, "mirrors", "()I"⟩
abbrev cX3_lay : ByteArray := prog_5_method_31_code
def yX3_lay : MethodName := ⟨RX3, "lay", "(I)V"⟩
abbrev cX3_isPost : ByteArray := prog_5_method_32_code
def yX3_isPost : MethodName := ⟨RX3, "isPost", "(I)Z"⟩
abbrev cX3_place : ByteArray := prog_5_method_33_code
def yX3_place : MethodName := ⟨RX3, "place", "(I)I"⟩
abbrev cX3_ring : ByteArray := prog_5_method_34_code
def yX3_ring : MethodName := ⟨RX3, "ring", "(I)I"⟩
abbrev cX3_put : ByteArray := prog_5_method_35_code
def yX3_put : MethodName := ⟨RX3, "put", "(II)I"⟩
abbrev cX3_at : ByteArray := prog_5_method_36_code
def yX3_at : MethodName := ⟨RX3, "at", "(I)I"⟩
abbrev cX3_isFault : ByteArray := prog_5_method_37_code
def yX3_isFault : MethodName := ⟨RX3, "isFault", "(I)Z"⟩
abbrev cX3_faults : ByteArray := prog_5_method_38_code
def yX3_faults : MethodName := ⟨RX3, "faults", "()I"⟩
abbrev cX3_fault : ByteArray := prog_5_method_39_code
def yX3_fault : MethodName := ⟨RX3, "fault", "(I)I"⟩
abbrev cX3_layBetween : ByteArray := prog_5_method_40_code
def yX3_layBetween : MethodName := ⟨RX3, "layBetween", "(II)Z"⟩
abbrev cX3_mend : ByteArray := prog_5_method_41_code
def yX3_mend : MethodName := ⟨RX3, "mend", "(I)I"⟩
abbrev cX3_fresh : ByteArray := prog_5_method_42_code
def yX3_fresh : MethodName := ⟨RX3, "fresh", "()I"⟩
abbrev cX3_number : ByteArray := prog_5_method_43_code
def yX3_number : MethodName := ⟨RX3, "number", "(II)I"⟩
abbrev cX3_told : ByteArray := prog_5_method_44_code
def yX3_told : MethodName := ⟨RX3, "told", "(I)I"⟩
abbrev cX3_likes : ByteArray := prog_5_method_45_code
def yX3_likes : MethodName := ⟨RX3, "likes", "()I"⟩
abbrev cX3_greatest : ByteArray := prog_5_method_46_code
def yX3_greatest : MethodName := ⟨RX3, "greatest", "()I"⟩
abbrev cX3_lowest : ByteArray := prog_5_method_47_code
def yX3_lowest : MethodName := ⟨RX3, "lowest", "(II)I"⟩
abbrev cX3_goRound : ByteArray := prog_5_method_48_code
def yX3_goRound : MethodName := ⟨RX3, "goRound", "()V"⟩
abbrev cX3_round : ByteArray := prog_5_method_49_code
def yX3_round : MethodName := ⟨RX3, "round", "()I"⟩
abbrev cX3_colours : ByteArray := prog_5_method_50_code
def yX3_colours : MethodName := ⟨RX3, "colours", "()I"⟩
abbrev cX3_take : ByteArray := prog_5_method_51_code
def yX3_take : MethodName := ⟨RX3, "take", "()I"⟩
abbrev cX3_unlike : ByteArray := prog_5_method_52_code
def yX3_unlike : MethodName := ⟨RX3, "unlike", "([I)I"⟩
abbrev cX3_count : ByteArray := prog_5_method_53_code
def yX3_count : MethodName := ⟨RX3, "count", "(I)I"⟩
def RJ6 : String := "java/lang/Integer"
def TJ6 : u_T := fun k => match k with
  | _ => ("", "", "", false)
def tyJ6 : Nat → FieldType := fun k => match k with
  | _ => .int
abbrev wsJ60 : List Cond := u_ws RJ6 TJ6 0
theorem nmJ6 : ∀ a, a < 0 → ∀ b, b < 0 → a ≠ b → (TJ6 a).2.1 ≠ (TJ6 b).2.1 := by decide +kernel
theorem tyJ6_ok : ∀ k, k < 0 → parseFieldDescriptor (TJ6 k).2.2.1 = some (tyJ6 k) := by decide +kernel
abbrev cJ6_bitCount_0f7a4 : ByteArray := prog_6_method_49_code
def yJ6_bitCount_0f7a4 : MethodName := ⟨RJ6, "bitCount", "(I)I"⟩
def RJ9 : String := "java/lang/Math"
def TJ9 : u_T := fun k => match k with
  | _ => ("", "", "", false)
def tyJ9 : Nat → FieldType := fun k => match k with
  | _ => .int
abbrev wsJ90 : List Cond := u_ws RJ9 TJ9 0
theorem nmJ9 : ∀ a, a < 0 → ∀ b, b < 0 → a ≠ b → (TJ9 a).2.1 ≠ (TJ9 b).2.1 := by decide +kernel
theorem tyJ9_ok : ∀ k, k < 0 → parseFieldDescriptor (TJ9 k).2.2.1 = some (tyJ9 k) := by decide +kernel
abbrev cJ9_max_7cf53 : ByteArray := prog_7_method_65_code
def yJ9_max_7cf53 : MethodName := ⟨RJ9, "max", "(II)I"⟩
abbrev cJ9_min_7cf53 : ByteArray := prog_7_method_69_code
def yJ9_min_7cf53 : MethodName := ⟨RJ9, "min", "(II)I"⟩
abbrev cJ9_min_f86c9 : ByteArray := prog_7_method_70_code
def yJ9_min_f86c9 : MethodName := ⟨RJ9, "min", "(JJ)J"⟩
def RJ10 : String := "java/lang/System"
def TJ10 : u_T := fun k => match k with
  | _ => ("", "", "", false)
def tyJ10 : Nat → FieldType := fun k => match k with
  | _ => .int
abbrev wsJ100 : List Cond := u_ws RJ10 TJ10 0
theorem nmJ10 : ∀ a, a < 0 → ∀ b, b < 0 → a ≠ b → (TJ10 a).2.1 ≠ (TJ10 b).2.1 := by decide +kernel
theorem tyJ10_ok : ∀ k, k < 0 → parseFieldDescriptor (TJ10 k).2.2.1 = some (tyJ10 k) := by decide +kernel
def RJ7 : String := "java/util/Arrays"
def TJ7 : u_T := fun k => match k with
  | _ => ("", "", "", false)
def tyJ7 : Nat → FieldType := fun k => match k with
  | _ => .int
abbrev wsJ70 : List Cond := u_ws RJ7 TJ7 0
theorem nmJ7 : ∀ a, a < 0 → ∀ b, b < 0 → a ≠ b → (TJ7 a).2.1 ≠ (TJ7 b).2.1 := by decide +kernel
theorem tyJ7_ok : ∀ k, k < 0 → parseFieldDescriptor (TJ7 k).2.2.1 = some (tyJ7 k) := by decide +kernel
abbrev cJ7_fill_d0a16 : ByteArray := prog_9_method_101_code
def yJ7_fill_d0a16 : MethodName := ⟨RJ7, "fill", "([JJ)V"⟩
abbrev cJ7_fill_53178 : ByteArray := prog_9_method_103_code
def yJ7_fill_53178 : MethodName := ⟨RJ7, "fill", "([II)V"⟩
def RL : String := "RingTasksLaw"
abbrev cL_law : ByteArray := code
def yL_law : MethodName := ⟨RL, "law", "([I)Z"⟩
def wsJ7_fill_53178 : List Cond := .code yJ7_fill_53178 cJ7_fill_53178 4 none :: ([])
def wsX0_clearLabels : List Cond := .code yX0_clearLabels cX0_clearLabels 1 none :: ([.fieldLink RX0 9 "RingTasks$Posts" "label" "[I", .methodLink RX0 35 yJ7_fill_53178, .static yJ7_fill_53178, .initialized RJ7, .code yJ7_fill_53178 cJ7_fill_53178 4 none] ++ wsX00)
def wsX0_restart : List Cond := .code yX0_restart cX0_restart 3 none :: ([.methodLink RX0 22 Lib.Math.min.name, .static Lib.Math.min.name, .initialized "java/lang/Math", .code Lib.Math.min.name Lib.Math.min.code 2 (some .int), .fieldLink RX0 28 "RingTasks$Posts" "size" "I", .fieldLink RX0 15 "RingTasks$Posts" "number" "[I", .methodLink RX0 32 yX0_clearLabels, .instanceMethod yX0_clearLabels, .selects RX0 yX0_clearLabels yX0_clearLabels, .initialized RX0, .code yX0_clearLabels cX0_clearLabels 1 none, .fieldLink RX0 9 "RingTasks$Posts" "label" "[I", .methodLink RX0 35 yJ7_fill_53178, .static yJ7_fill_53178, .initialized RJ7, .code yJ7_fill_53178 cJ7_fill_53178 4 none] ++ wsX00)
def wsX0_init : List Cond := .code yX0_init cX0_init 2 none :: ([.methodLink RX0 3 objectInit, .instanceMethod objectInit, .code objectInit ⟨#[0xb1]⟩ 1 none, .arrayClass .int, .fieldLink RX0 9 "RingTasks$Posts" "label" "[I", .fieldLink RX0 15 "RingTasks$Posts" "number" "[I", .methodLink RX0 18 yX0_restart, .instanceMethod yX0_restart, .selects RX0 yX0_restart yX0_restart, .initialized RX0, .code yX0_restart cX0_restart 3 none, .methodLink RX0 22 Lib.Math.min.name, .static Lib.Math.min.name, .initialized "java/lang/Math", .code Lib.Math.min.name Lib.Math.min.code 2 (some .int), .fieldLink RX0 28 "RingTasks$Posts" "size" "I", .methodLink RX0 32 yX0_clearLabels, .instanceMethod yX0_clearLabels, .selects RX0 yX0_clearLabels yX0_clearLabels, .code yX0_clearLabels cX0_clearLabels 1 none, .methodLink RX0 35 yJ7_fill_53178, .static yJ7_fill_53178, .initialized RJ7, .code yJ7_fill_53178 cJ7_fill_53178 4 none] ++ wsX00)
def wsX0_has : List Cond := .code yX0_has cX0_has 2 (some .boolean) :: ([.fieldLink RX0 28 "RingTasks$Posts" "size" "I"] ++ wsX00)
def wsX0_next : List Cond := .code yX0_next cX0_next 2 (some .int) :: ([.fieldLink RX0 28 "RingTasks$Posts" "size" "I"] ++ wsX00)
def wsX0_previous : List Cond := .code yX0_previous cX0_previous 2 (some .int) :: ([.fieldLink RX0 28 "RingTasks$Posts" "size" "I"] ++ wsX00)
def wsX1_has : List Cond := .code yX1_has cX1_has 2 (some .boolean) :: ([.fieldLink RX1 38 "RingTasks$Task" "size" "I"] ++ wsX10)
def wsX1_holds : List Cond := .code yX1_holds cX1_holds 2 (some .boolean) :: ([])
def wsX1_mayFollow : List Cond := .code yX1_mayFollow cX1_mayFollow 3 (some .boolean) :: ([.fieldLink RX1 9 "RingTasks$Task" "behind" "[I", .methodLink RX1 42 yX1_has, .instanceMethod yX1_has, .selects RX1 yX1_has yX1_has, .initialized RX1, .code yX1_has cX1_has 2 (some .boolean), .fieldLink RX1 38 "RingTasks$Task" "size" "I", .methodLink RX1 46 yX1_holds, .static yX1_holds, .code yX1_holds cX1_holds 2 (some .boolean)] ++ wsX10)
def wsX0_isFault : List Cond := .code yX0_isFault cX0_isFault 3 (some .boolean) :: ([.fieldLink RX0 9 "RingTasks$Posts" "label" "[I", .methodLink RX0 41 yX0_next, .instanceMethod yX0_next, .selects RX0 yX0_next yX0_next, .initialized RX0, .code yX0_next cX0_next 2 (some .int), .fieldLink RX0 28 "RingTasks$Posts" "size" "I", .methodLink RX0 45 yX1_mayFollow, .instanceMethod yX1_mayFollow, .selects RX1 yX1_mayFollow yX1_mayFollow, .initialized RX1, .code yX1_mayFollow cX1_mayFollow 3 (some .boolean), .fieldLink RX1 9 "RingTasks$Task" "behind" "[I", .methodLink RX1 42 yX1_has, .instanceMethod yX1_has, .selects RX1 yX1_has yX1_has, .code yX1_has cX1_has 2 (some .boolean), .fieldLink RX1 38 "RingTasks$Task" "size" "I", .methodLink RX1 46 yX1_holds, .static yX1_holds, .code yX1_holds cX1_holds 2 (some .boolean)] ++ wsX00 ++ wsX10)
def wsX0_faultFrom_r1 : List Cond := [Cond.fieldLink RX0 28 "RingTasks$Posts" "size" "I", Cond.methodLink RX0 51 yX0_isFault, Cond.instanceMethod yX0_isFault, Cond.selects RX0 yX0_isFault yX0_isFault, Cond.initialized RX0, Cond.code yX0_isFault cX0_isFault 3 (some .boolean), Cond.fieldLink RX0 9 "RingTasks$Posts" "label" "[I", Cond.methodLink RX0 41 yX0_next, Cond.instanceMethod yX0_next, Cond.selects RX0 yX0_next yX0_next, Cond.code yX0_next cX0_next 2 (some .int), Cond.methodLink RX0 45 yX1_mayFollow, Cond.instanceMethod yX1_mayFollow, Cond.selects RX1 yX1_mayFollow yX1_mayFollow, Cond.initialized RX1, Cond.code yX1_mayFollow cX1_mayFollow 3 (some .boolean), Cond.fieldLink RX1 9 "RingTasks$Task" "behind" "[I", Cond.methodLink RX1 42 yX1_has, Cond.instanceMethod yX1_has, Cond.selects RX1 yX1_has yX1_has, Cond.code yX1_has cX1_has 2 (some .boolean), Cond.fieldLink RX1 38 "RingTasks$Task" "size" "I", Cond.methodLink RX1 46 yX1_holds, Cond.static yX1_holds]
def wsX0_faultFrom_r2 : List Cond := [Cond.code yX1_holds cX1_holds 2 (some .boolean)]
def wsX0_faultFrom : List Cond := .code yX0_faultFrom cX0_faultFrom 5 (some .int) :: ((wsX0_faultFrom_r1 ++ wsX0_faultFrom_r2) ++ wsX00 ++ wsX10)
def wsX1_lookBack : List Cond := .code yX1_lookBack cX1_lookBack 6 none :: ([.fieldLink RX1 18 "RingTasks$Task" "reaching" "[I", .fieldLink RX1 38 "RingTasks$Task" "size" "I", .fieldLink RX1 9 "RingTasks$Task" "behind" "[I"] ++ wsX10)
def wsX1_least : List Cond := .code yX1_least cX1_least 2 (some .int) :: ([.methodLink RX1 46 yX1_holds, .static yX1_holds, .initialized RX1, .code yX1_holds cX1_holds 2 (some .boolean)])
def wsX1_findWalk : List Cond := .code yX1_findWalk cX1_findWalk 6 (some .boolean) :: ([.fieldLink RX1 18 "RingTasks$Task" "reaching" "[I", .fieldLink RX1 15 "RingTasks$Task" "walk" "[I", .fieldLink RX1 9 "RingTasks$Task" "behind" "[I", .methodLink RX1 42 yX1_has, .instanceMethod yX1_has, .selects RX1 yX1_has yX1_has, .initialized RX1, .code yX1_has cX1_has 2 (some .boolean), .fieldLink RX1 38 "RingTasks$Task" "size" "I", .methodLink RX1 87 yX1_lookBack, .instanceMethod yX1_lookBack, .selects RX1 yX1_lookBack yX1_lookBack, .code yX1_lookBack cX1_lookBack 6 none, .methodLink RX1 46 yX1_holds, .static yX1_holds, .code yX1_holds cX1_holds 2 (some .boolean), .methodLink RX1 91 yX1_least, .static yX1_least, .code yX1_least cX1_least 2 (some .int)] ++ wsX10)
def wsX1_findRing : List Cond := .code yX1_findRing cX1_findRing 3 (some .boolean) :: ([.fieldLink RX1 38 "RingTasks$Task" "size" "I", .methodLink RX1 83 yX1_findWalk, .instanceMethod yX1_findWalk, .selects RX1 yX1_findWalk yX1_findWalk, .initialized RX1, .code yX1_findWalk cX1_findWalk 6 (some .boolean), .fieldLink RX1 18 "RingTasks$Task" "reaching" "[I", .fieldLink RX1 15 "RingTasks$Task" "walk" "[I", .fieldLink RX1 9 "RingTasks$Task" "behind" "[I", .methodLink RX1 42 yX1_has, .instanceMethod yX1_has, .selects RX1 yX1_has yX1_has, .code yX1_has cX1_has 2 (some .boolean), .methodLink RX1 87 yX1_lookBack, .instanceMethod yX1_lookBack, .selects RX1 yX1_lookBack yX1_lookBack, .code yX1_lookBack cX1_lookBack 6 none, .methodLink RX1 46 yX1_holds, .static yX1_holds, .code yX1_holds cX1_holds 2 (some .boolean), .methodLink RX1 91 yX1_least, .static yX1_least, .code yX1_least cX1_least 2 (some .int)] ++ wsX10)
def wsX0_putWalk : List Cond := .code yX0_putWalk cX0_putWalk 7 none :: ([.fieldLink RX0 74 "RingTasks$Task" "walk" "[I", .fieldLink RX0 9 "RingTasks$Posts" "label" "[I", .methodLink RX0 41 yX0_next, .instanceMethod yX0_next, .selects RX0 yX0_next yX0_next, .initialized RX0, .code yX0_next cX0_next 2 (some .int), .fieldLink RX0 28 "RingTasks$Posts" "size" "I"] ++ wsX10 ++ wsX00)
def wsX0_mendStretch_r1 : List Cond := [Cond.fieldLink RX0 28 "RingTasks$Posts" "size" "I", Cond.fieldLink RX0 9 "RingTasks$Posts" "label" "[I", Cond.methodLink RX0 62 yX1_findRing, Cond.instanceMethod yX1_findRing, Cond.selects RX1 yX1_findRing yX1_findRing, Cond.initialized RX1, Cond.code yX1_findRing cX1_findRing 3 (some .boolean), Cond.fieldLink RX1 38 "RingTasks$Task" "size" "I", Cond.methodLink RX1 83 yX1_findWalk, Cond.instanceMethod yX1_findWalk, Cond.selects RX1 yX1_findWalk yX1_findWalk, Cond.code yX1_findWalk cX1_findWalk 6 (some .boolean), Cond.fieldLink RX1 18 "RingTasks$Task" "reaching" "[I", Cond.fieldLink RX1 15 "RingTasks$Task" "walk" "[I", Cond.fieldLink RX1 9 "RingTasks$Task" "behind" "[I", Cond.methodLink RX1 42 yX1_has, Cond.instanceMethod yX1_has, Cond.selects RX1 yX1_has yX1_has, Cond.code yX1_has cX1_has 2 (some .boolean), Cond.methodLink RX1 87 yX1_lookBack, Cond.instanceMethod yX1_lookBack, Cond.selects RX1 yX1_lookBack yX1_lookBack, Cond.code yX1_lookBack cX1_lookBack 6 none, Cond.methodLink RX1 46 yX1_holds]
def wsX0_mendStretch_r2 : List Cond := [Cond.static yX1_holds, Cond.code yX1_holds cX1_holds 2 (some .boolean), Cond.methodLink RX1 91 yX1_least, Cond.static yX1_least, Cond.code yX1_least cX1_least 2 (some .int), Cond.methodLink RX0 59 yX0_previous, Cond.instanceMethod yX0_previous, Cond.selects RX0 yX0_previous yX0_previous, Cond.initialized RX0, Cond.code yX0_previous cX0_previous 2 (some .int), Cond.methodLink RX0 41 yX0_next, Cond.instanceMethod yX0_next, Cond.selects RX0 yX0_next yX0_next, Cond.code yX0_next cX0_next 2 (some .int), Cond.methodLink RX0 66 yX1_findWalk, Cond.methodLink RX0 70 yX0_putWalk, Cond.instanceMethod yX0_putWalk, Cond.selects RX0 yX0_putWalk yX0_putWalk, Cond.code yX0_putWalk cX0_putWalk 7 none, Cond.fieldLink RX0 74 "RingTasks$Task" "walk" "[I"]
def wsX0_mendStretch : List Cond := .code yX0_mendStretch cX0_mendStretch 7 (some .boolean) :: ((wsX0_mendStretch_r1 ++ wsX0_mendStretch_r2) ++ wsX00 ++ wsX10)
def wsX0_mendAround_r1 : List Cond := [Cond.fieldLink RX0 28 "RingTasks$Posts" "size" "I", Cond.methodLink RX0 55 yX0_mendStretch, Cond.instanceMethod yX0_mendStretch, Cond.selects RX0 yX0_mendStretch yX0_mendStretch, Cond.initialized RX0, Cond.code yX0_mendStretch cX0_mendStretch 7 (some .boolean), Cond.fieldLink RX0 9 "RingTasks$Posts" "label" "[I", Cond.methodLink RX0 62 yX1_findRing, Cond.instanceMethod yX1_findRing, Cond.selects RX1 yX1_findRing yX1_findRing, Cond.initialized RX1, Cond.code yX1_findRing cX1_findRing 3 (some .boolean), Cond.fieldLink RX1 38 "RingTasks$Task" "size" "I", Cond.methodLink RX1 83 yX1_findWalk, Cond.instanceMethod yX1_findWalk, Cond.selects RX1 yX1_findWalk yX1_findWalk, Cond.code yX1_findWalk cX1_findWalk 6 (some .boolean), Cond.fieldLink RX1 18 "RingTasks$Task" "reaching" "[I", Cond.fieldLink RX1 15 "RingTasks$Task" "walk" "[I", Cond.fieldLink RX1 9 "RingTasks$Task" "behind" "[I", Cond.methodLink RX1 42 yX1_has, Cond.instanceMethod yX1_has, Cond.selects RX1 yX1_has yX1_has, Cond.code yX1_has cX1_has 2 (some .boolean)]
def wsX0_mendAround_r2 : List Cond := [Cond.methodLink RX1 87 yX1_lookBack, Cond.instanceMethod yX1_lookBack, Cond.selects RX1 yX1_lookBack yX1_lookBack, Cond.code yX1_lookBack cX1_lookBack 6 none, Cond.methodLink RX1 46 yX1_holds, Cond.static yX1_holds, Cond.code yX1_holds cX1_holds 2 (some .boolean), Cond.methodLink RX1 91 yX1_least, Cond.static yX1_least, Cond.code yX1_least cX1_least 2 (some .int), Cond.methodLink RX0 59 yX0_previous, Cond.instanceMethod yX0_previous, Cond.selects RX0 yX0_previous yX0_previous, Cond.code yX0_previous cX0_previous 2 (some .int), Cond.methodLink RX0 41 yX0_next, Cond.instanceMethod yX0_next, Cond.selects RX0 yX0_next yX0_next, Cond.code yX0_next cX0_next 2 (some .int), Cond.methodLink RX0 66 yX1_findWalk, Cond.methodLink RX0 70 yX0_putWalk, Cond.instanceMethod yX0_putWalk, Cond.selects RX0 yX0_putWalk yX0_putWalk, Cond.code yX0_putWalk cX0_putWalk 7 none, Cond.fieldLink RX0 74 "RingTasks$Task" "walk" "[I"]
def wsX0_mendAround : List Cond := .code yX0_mendAround cX0_mendAround 6 (some .int) :: ((wsX0_mendAround_r1 ++ wsX0_mendAround_r2) ++ wsX00 ++ wsX10)
def wsX0_likeNeighbours : List Cond := .code yX0_likeNeighbours cX0_likeNeighbours 3 (some .int) :: ([.fieldLink RX0 28 "RingTasks$Posts" "size" "I", .fieldLink RX0 15 "RingTasks$Posts" "number" "[I", .methodLink RX0 41 yX0_next, .instanceMethod yX0_next, .selects RX0 yX0_next yX0_next, .initialized RX0, .code yX0_next cX0_next 2 (some .int)] ++ wsX00)
def wsX0_greatestNumber : List Cond := .code yX0_greatestNumber cX0_greatestNumber 3 (some .int) :: ([.fieldLink RX0 28 "RingTasks$Posts" "size" "I", .fieldLink RX0 15 "RingTasks$Posts" "number" "[I", .methodLink RX0 77 Lib.Math.max.name, .static Lib.Math.max.name, .initialized "java/lang/Math", .code Lib.Math.max.name Lib.Math.max.code 2 (some .int)] ++ wsX00)
def wsJ6_bitCount_0f7a4 : List Cond := .code yJ6_bitCount_0f7a4 cJ6_bitCount_0f7a4 1 (some .int) :: ([.constant RJ6 265 (1431655765), .constant RJ6 266 (858993459), .constant RJ6 267 (252645135)])
def wsX0_shortened : List Cond := .code yX0_shortened cX0_shortened 4 (some .int) :: ([.methodLink RX0 83 yJ6_bitCount_0f7a4, .static yJ6_bitCount_0f7a4, .initialized RJ6, .code yJ6_bitCount_0f7a4 cJ6_bitCount_0f7a4 1 (some .int), .constant RJ6 265 (1431655765), .constant RJ6 266 (858993459), .constant RJ6 267 (252645135)])
def wsX0_doRound : List Cond := .code yX0_doRound cX0_doRound 4 none :: ([.fieldLink RX0 15 "RingTasks$Posts" "number" "[I", .fieldLink RX0 28 "RingTasks$Posts" "size" "I", .methodLink RX0 80 yX0_shortened, .static yX0_shortened, .initialized RX0, .code yX0_shortened cX0_shortened 4 (some .int), .methodLink RX0 83 yJ6_bitCount_0f7a4, .static yJ6_bitCount_0f7a4, .initialized RJ6, .code yJ6_bitCount_0f7a4 cJ6_bitCount_0f7a4 1 (some .int), .constant RJ6 265 (1431655765), .constant RJ6 266 (858993459), .constant RJ6 267 (252645135)] ++ wsX00)
def wsX0_leastBeside : List Cond := .code yX0_leastBeside cX0_leastBeside 3 (some .int) :: ([])
def wsX0_giveUpColour : List Cond := .code yX0_giveUpColour cX0_giveUpColour 3 none :: ([.fieldLink RX0 28 "RingTasks$Posts" "size" "I", .fieldLink RX0 15 "RingTasks$Posts" "number" "[I", .methodLink RX0 59 yX0_previous, .instanceMethod yX0_previous, .selects RX0 yX0_previous yX0_previous, .initialized RX0, .code yX0_previous cX0_previous 2 (some .int), .methodLink RX0 41 yX0_next, .instanceMethod yX0_next, .selects RX0 yX0_next yX0_next, .code yX0_next cX0_next 2 (some .int), .methodLink RX0 88 yX0_leastBeside, .static yX0_leastBeside, .code yX0_leastBeside cX0_leastBeside 3 (some .int)] ++ wsX00)
def wsX0_takeNumbers : List Cond := .code yX0_takeNumbers cX0_takeNumbers 1 none :: ([.fieldLink RX0 15 "RingTasks$Posts" "number" "[I", .fieldLink RX0 9 "RingTasks$Posts" "label" "[I", .fieldLink RX0 28 "RingTasks$Posts" "size" "I", .methodLink RX0 91 arraycopyName, .native arraycopyName, .static arraycopyName, .initialized "java/lang/System"] ++ wsX00)
def wsX0_standsBefore : List Cond := .code yX0_standsBefore cX0_standsBefore 3 (some .boolean) :: ([])
def wsX0_unlike : List Cond := .code yX0_unlike cX0_unlike 4 (some .int) :: ([.fieldLink RX0 28 "RingTasks$Posts" "size" "I", .methodLink RX0 97 yX0_standsBefore, .static yX0_standsBefore, .initialized RX0, .code yX0_standsBefore cX0_standsBefore 3 (some .boolean)] ++ wsX00)
def wsX1_restart : List Cond := .code yX1_restart cX1_restart 4 none :: ([.methodLink RX1 32 Lib.Math.min.name, .static Lib.Math.min.name, .initialized "java/lang/Math", .code Lib.Math.min.name Lib.Math.min.code 2 (some .int), .fieldLink RX1 38 "RingTasks$Task" "size" "I", .fieldLink RX1 9 "RingTasks$Task" "behind" "[I"] ++ wsX10)
def wsX1_init : List Cond := .code yX1_init cX1_init 2 none :: ([.methodLink RX1 3 objectInit, .instanceMethod objectInit, .code objectInit ⟨#[0xb1]⟩ 1 none, .arrayClass .int, .fieldLink RX1 9 "RingTasks$Task" "behind" "[I", .fieldLink RX1 15 "RingTasks$Task" "walk" "[I", .fieldLink RX1 18 "RingTasks$Task" "reaching" "[I", .arrayClass .long, .fieldLink RX1 21 "RingTasks$Task" "ways" "[J", .fieldLink RX1 25 "RingTasks$Task" "waysOn" "[J", .methodLink RX1 28 yX1_restart, .instanceMethod yX1_restart, .selects RX1 yX1_restart yX1_restart, .initialized RX1, .code yX1_restart cX1_restart 4 none, .methodLink RX1 32 Lib.Math.min.name, .static Lib.Math.min.name, .initialized "java/lang/Math", .code Lib.Math.min.name Lib.Math.min.code 2 (some .int), .fieldLink RX1 38 "RingTasks$Task" "size" "I"] ++ wsX10)
def wsX1_decide : List Cond := .code yX1_decide cX1_decide 4 none :: ([.fieldLink RX1 9 "RingTasks$Task" "behind" "[I", .methodLink RX1 42 yX1_has, .instanceMethod yX1_has, .selects RX1 yX1_has yX1_has, .initialized RX1, .code yX1_has cX1_has 2 (some .boolean), .fieldLink RX1 38 "RingTasks$Task" "size" "I"] ++ wsX10)
def wsX1_pairCount : List Cond := .code yX1_pairCount cX1_pairCount 3 (some .int) :: ([.fieldLink RX1 38 "RingTasks$Task" "size" "I", .fieldLink RX1 9 "RingTasks$Task" "behind" "[I", .methodLink RX1 50 yJ6_bitCount_0f7a4, .static yJ6_bitCount_0f7a4, .initialized RJ6, .code yJ6_bitCount_0f7a4 cJ6_bitCount_0f7a4 1 (some .int), .constant RJ6 265 (1431655765), .constant RJ6 266 (858993459), .constant RJ6 267 (252645135)] ++ wsX10)
def wsJ7_fill_d0a16 : List Cond := .code yJ7_fill_d0a16 cJ7_fill_d0a16 5 none :: ([])
def wsX1_stepOn_r1 : List Cond := [Cond.fieldLink RX1 38 "RingTasks$Task" "size" "I", Cond.fieldLink RX1 21 "RingTasks$Task" "ways" "[J", Cond.fieldLink RX1 25 "RingTasks$Task" "waysOn" "[J", Cond.constantLong RX1 60 (1000000000000000000), Cond.methodLink RX1 62 Lib.MathLoose.min_long.x, Cond.static Lib.MathLoose.min_long.x, Cond.initialized "java/lang/Math", Cond.code Lib.MathLoose.min_long.x Lib.MathLoose.min_long.code 4 (some .long), Cond.methodLink RX1 77 arraycopyName, Cond.native arraycopyName, Cond.static arraycopyName, Cond.initialized "java/lang/System", Cond.methodLink RX1 74 yX1_mayFollow, Cond.instanceMethod yX1_mayFollow, Cond.selects RX1 yX1_mayFollow yX1_mayFollow, Cond.initialized RX1, Cond.code yX1_mayFollow cX1_mayFollow 3 (some .boolean), Cond.fieldLink RX1 9 "RingTasks$Task" "behind" "[I", Cond.methodLink RX1 42 yX1_has, Cond.instanceMethod yX1_has, Cond.selects RX1 yX1_has yX1_has, Cond.code yX1_has cX1_has 2 (some .boolean), Cond.methodLink RX1 46 yX1_holds, Cond.static yX1_holds]
def wsX1_stepOn_r2 : List Cond := [Cond.code yX1_holds cX1_holds 2 (some .boolean)]
def wsX1_stepOn : List Cond := .code yX1_stepOn cX1_stepOn 5 none :: ((wsX1_stepOn_r1 ++ wsX1_stepOn_r2) ++ wsX10)
def wsX1_walkCount_r1 : List Cond := [Cond.fieldLink RX1 21 "RingTasks$Task" "ways" "[J", Cond.methodLink RX1 42 yX1_has, Cond.instanceMethod yX1_has, Cond.selects RX1 yX1_has yX1_has, Cond.initialized RX1, Cond.code yX1_has cX1_has 2 (some .boolean), Cond.fieldLink RX1 38 "RingTasks$Task" "size" "I", Cond.methodLink RX1 65 yJ7_fill_d0a16, Cond.static yJ7_fill_d0a16, Cond.initialized RJ7, Cond.code yJ7_fill_d0a16 cJ7_fill_d0a16 5 none, Cond.methodLink RX1 71 yX1_stepOn, Cond.instanceMethod yX1_stepOn, Cond.selects RX1 yX1_stepOn yX1_stepOn, Cond.code yX1_stepOn cX1_stepOn 5 none, Cond.fieldLink RX1 25 "RingTasks$Task" "waysOn" "[J", Cond.constantLong RX1 60 (1000000000000000000), Cond.methodLink RX1 62 Lib.MathLoose.min_long.x, Cond.static Lib.MathLoose.min_long.x, Cond.initialized "java/lang/Math", Cond.code Lib.MathLoose.min_long.x Lib.MathLoose.min_long.code 4 (some .long), Cond.methodLink RX1 77 arraycopyName, Cond.native arraycopyName, Cond.static arraycopyName]
def wsX1_walkCount_r2 : List Cond := [Cond.initialized "java/lang/System", Cond.methodLink RX1 74 yX1_mayFollow, Cond.instanceMethod yX1_mayFollow, Cond.selects RX1 yX1_mayFollow yX1_mayFollow, Cond.code yX1_mayFollow cX1_mayFollow 3 (some .boolean), Cond.fieldLink RX1 9 "RingTasks$Task" "behind" "[I", Cond.methodLink RX1 46 yX1_holds, Cond.static yX1_holds, Cond.code yX1_holds cX1_holds 2 (some .boolean)]
def wsX1_walkCount : List Cond := .code yX1_walkCount cX1_walkCount 5 (some .long) :: ((wsX1_walkCount_r1 ++ wsX1_walkCount_r2) ++ wsX10)
def wsX1_ringCount_r1 : List Cond := [Cond.fieldLink RX1 38 "RingTasks$Task" "size" "I", Cond.constantLong RX1 60 (1000000000000000000), Cond.methodLink RX1 62 Lib.MathLoose.min_long.x, Cond.static Lib.MathLoose.min_long.x, Cond.initialized "java/lang/Math", Cond.code Lib.MathLoose.min_long.x Lib.MathLoose.min_long.code 4 (some .long), Cond.methodLink RX1 56 yX1_walkCount, Cond.instanceMethod yX1_walkCount, Cond.selects RX1 yX1_walkCount yX1_walkCount, Cond.initialized RX1, Cond.code yX1_walkCount cX1_walkCount 5 (some .long), Cond.fieldLink RX1 21 "RingTasks$Task" "ways" "[J", Cond.methodLink RX1 42 yX1_has, Cond.instanceMethod yX1_has, Cond.selects RX1 yX1_has yX1_has, Cond.code yX1_has cX1_has 2 (some .boolean), Cond.methodLink RX1 65 yJ7_fill_d0a16, Cond.static yJ7_fill_d0a16, Cond.initialized RJ7, Cond.code yJ7_fill_d0a16 cJ7_fill_d0a16 5 none, Cond.methodLink RX1 71 yX1_stepOn, Cond.instanceMethod yX1_stepOn, Cond.selects RX1 yX1_stepOn yX1_stepOn, Cond.code yX1_stepOn cX1_stepOn 5 none]
def wsX1_ringCount_r2 : List Cond := [Cond.fieldLink RX1 25 "RingTasks$Task" "waysOn" "[J", Cond.methodLink RX1 77 arraycopyName, Cond.native arraycopyName, Cond.static arraycopyName, Cond.initialized "java/lang/System", Cond.methodLink RX1 74 yX1_mayFollow, Cond.instanceMethod yX1_mayFollow, Cond.selects RX1 yX1_mayFollow yX1_mayFollow, Cond.code yX1_mayFollow cX1_mayFollow 3 (some .boolean), Cond.fieldLink RX1 9 "RingTasks$Task" "behind" "[I", Cond.methodLink RX1 46 yX1_holds, Cond.static yX1_holds, Cond.code yX1_holds cX1_holds 2 (some .boolean)]
def wsX1_ringCount : List Cond := .code yX1_ringCount cX1_ringCount 5 (some .long) :: ((wsX1_ringCount_r1 ++ wsX1_ringCount_r2) ++ wsX10)
def wsX1_reachedFrom : List Cond := .code yX1_reachedFrom cX1_reachedFrom 6 (some .int) :: ([.fieldLink RX1 38 "RingTasks$Task" "size" "I", .fieldLink RX1 9 "RingTasks$Task" "behind" "[I", .methodLink RX1 46 yX1_holds, .static yX1_holds, .initialized RX1, .code yX1_holds cX1_holds 2 (some .boolean)] ++ wsX10)
def wsX1_leastOfBlock : List Cond := .code yX1_leastOfBlock cX1_leastOfBlock 4 (some .int) :: ([.methodLink RX1 94 yX1_reachedFrom, .instanceMethod yX1_reachedFrom, .selects RX1 yX1_reachedFrom yX1_reachedFrom, .initialized RX1, .code yX1_reachedFrom cX1_reachedFrom 6 (some .int), .fieldLink RX1 38 "RingTasks$Task" "size" "I", .fieldLink RX1 9 "RingTasks$Task" "behind" "[I", .methodLink RX1 46 yX1_holds, .static yX1_holds, .code yX1_holds cX1_holds 2 (some .boolean)] ++ wsX10)
def wsX1_returnLengths : List Cond := .code yX1_returnLengths cX1_returnLengths 5 (some .long) :: ([.fieldLink RX1 18 "RingTasks$Task" "reaching" "[I", .methodLink RX1 87 yX1_lookBack, .instanceMethod yX1_lookBack, .selects RX1 yX1_lookBack yX1_lookBack, .initialized RX1, .code yX1_lookBack cX1_lookBack 6 none, .fieldLink RX1 38 "RingTasks$Task" "size" "I", .fieldLink RX1 9 "RingTasks$Task" "behind" "[I", .methodLink RX1 46 yX1_holds, .static yX1_holds, .code yX1_holds cX1_holds 2 (some .boolean)] ++ wsX10)
def wsX1_dividesAll : List Cond := .code yX1_dividesAll cX1_dividesAll 4 (some .boolean) :: ([])
def wsX1_paceOf : List Cond := .code yX1_paceOf cX1_paceOf 5 (some .int) :: ([.constantLong RX1 101 (-2), .fieldLink RX1 38 "RingTasks$Task" "size" "I", .methodLink RX1 97 yX1_returnLengths, .instanceMethod yX1_returnLengths, .selects RX1 yX1_returnLengths yX1_returnLengths, .initialized RX1, .code yX1_returnLengths cX1_returnLengths 5 (some .long), .fieldLink RX1 18 "RingTasks$Task" "reaching" "[I", .methodLink RX1 87 yX1_lookBack, .instanceMethod yX1_lookBack, .selects RX1 yX1_lookBack yX1_lookBack, .code yX1_lookBack cX1_lookBack 6 none, .fieldLink RX1 9 "RingTasks$Task" "behind" "[I", .methodLink RX1 46 yX1_holds, .static yX1_holds, .code yX1_holds cX1_holds 2 (some .boolean), .methodLink RX1 103 yX1_dividesAll, .static yX1_dividesAll, .code yX1_dividesAll cX1_dividesAll 4 (some .boolean)] ++ wsX10)
def wsX1_ringLengths : List Cond := .code yX1_ringLengths cX1_ringLengths 4 (some .long) :: ([.fieldLink RX1 38 "RingTasks$Task" "size" "I", .methodLink RX1 97 yX1_returnLengths, .instanceMethod yX1_returnLengths, .selects RX1 yX1_returnLengths yX1_returnLengths, .initialized RX1, .code yX1_returnLengths cX1_returnLengths 5 (some .long), .fieldLink RX1 18 "RingTasks$Task" "reaching" "[I", .methodLink RX1 87 yX1_lookBack, .instanceMethod yX1_lookBack, .selects RX1 yX1_lookBack yX1_lookBack, .code yX1_lookBack cX1_lookBack 6 none, .fieldLink RX1 9 "RingTasks$Task" "behind" "[I", .methodLink RX1 46 yX1_holds, .static yX1_holds, .code yX1_holds cX1_holds 2 (some .boolean)] ++ wsX10)
def wsX1_hasPaceOne : List Cond := .code yX1_hasPaceOne cX1_hasPaceOne 2 (some .boolean) :: ([.fieldLink RX1 38 "RingTasks$Task" "size" "I", .methodLink RX1 107 yX1_paceOf, .instanceMethod yX1_paceOf, .selects RX1 yX1_paceOf yX1_paceOf, .initialized RX1, .code yX1_paceOf cX1_paceOf 5 (some .int), .constantLong RX1 101 (-2), .methodLink RX1 97 yX1_returnLengths, .instanceMethod yX1_returnLengths, .selects RX1 yX1_returnLengths yX1_returnLengths, .code yX1_returnLengths cX1_returnLengths 5 (some .long), .fieldLink RX1 18 "RingTasks$Task" "reaching" "[I", .methodLink RX1 87 yX1_lookBack, .instanceMethod yX1_lookBack, .selects RX1 yX1_lookBack yX1_lookBack, .code yX1_lookBack cX1_lookBack 6 none, .fieldLink RX1 9 "RingTasks$Task" "behind" "[I", .methodLink RX1 46 yX1_holds, .static yX1_holds, .code yX1_holds cX1_holds 2 (some .boolean), .methodLink RX1 103 yX1_dividesAll, .static yX1_dividesAll, .code yX1_dividesAll cX1_dividesAll 4 (some .boolean)] ++ wsX10)
def wsX1_kindOfTask_r1 : List Cond := [Cond.constantLong RX1 101 (-2), Cond.constantLong RX1 114 (2), Cond.methodLink RX1 110 yX1_ringLengths, Cond.instanceMethod yX1_ringLengths, Cond.selects RX1 yX1_ringLengths yX1_ringLengths, Cond.initialized RX1, Cond.code yX1_ringLengths cX1_ringLengths 4 (some .long), Cond.fieldLink RX1 38 "RingTasks$Task" "size" "I", Cond.methodLink RX1 97 yX1_returnLengths, Cond.instanceMethod yX1_returnLengths, Cond.selects RX1 yX1_returnLengths yX1_returnLengths, Cond.code yX1_returnLengths cX1_returnLengths 5 (some .long), Cond.fieldLink RX1 18 "RingTasks$Task" "reaching" "[I", Cond.methodLink RX1 87 yX1_lookBack, Cond.instanceMethod yX1_lookBack, Cond.selects RX1 yX1_lookBack yX1_lookBack, Cond.code yX1_lookBack cX1_lookBack 6 none, Cond.fieldLink RX1 9 "RingTasks$Task" "behind" "[I", Cond.methodLink RX1 46 yX1_holds, Cond.static yX1_holds, Cond.code yX1_holds cX1_holds 2 (some .boolean), Cond.methodLink RX1 116 yX1_hasPaceOne, Cond.instanceMethod yX1_hasPaceOne, Cond.selects RX1 yX1_hasPaceOne yX1_hasPaceOne]
def wsX1_kindOfTask_r2 : List Cond := [Cond.code yX1_hasPaceOne cX1_hasPaceOne 2 (some .boolean), Cond.methodLink RX1 107 yX1_paceOf, Cond.instanceMethod yX1_paceOf, Cond.selects RX1 yX1_paceOf yX1_paceOf, Cond.code yX1_paceOf cX1_paceOf 5 (some .int), Cond.methodLink RX1 103 yX1_dividesAll, Cond.static yX1_dividesAll, Cond.code yX1_dividesAll cX1_dividesAll 4 (some .boolean)]
def wsX1_kindOfTask : List Cond := .code yX1_kindOfTask cX1_kindOfTask 3 (some .int) :: ((wsX1_kindOfTask_r1 ++ wsX1_kindOfTask_r2) ++ wsX10)
def wsX1_isMirrored : List Cond := .code yX1_isMirrored cX1_isMirrored 4 (some .boolean) :: ([.fieldLink RX1 38 "RingTasks$Task" "size" "I", .methodLink RX1 74 yX1_mayFollow, .instanceMethod yX1_mayFollow, .selects RX1 yX1_mayFollow yX1_mayFollow, .initialized RX1, .code yX1_mayFollow cX1_mayFollow 3 (some .boolean), .fieldLink RX1 9 "RingTasks$Task" "behind" "[I", .methodLink RX1 42 yX1_has, .instanceMethod yX1_has, .selects RX1 yX1_has yX1_has, .code yX1_has cX1_has 2 (some .boolean), .methodLink RX1 46 yX1_holds, .static yX1_holds, .code yX1_holds cX1_holds 2 (some .boolean), .methodLink RX1 120 yX1_leastOfBlock, .instanceMethod yX1_leastOfBlock, .selects RX1 yX1_leastOfBlock yX1_leastOfBlock, .code yX1_leastOfBlock cX1_leastOfBlock 4 (some .int), .methodLink RX1 94 yX1_reachedFrom, .instanceMethod yX1_reachedFrom, .selects RX1 yX1_reachedFrom yX1_reachedFrom, .code yX1_reachedFrom cX1_reachedFrom 6 (some .int)] ++ wsX10)
def wsX2_init_r1 : List Cond := [Cond.methodLink RX2 1 objectInit, Cond.instanceMethod objectInit, Cond.code objectInit ⟨#[0xb1]⟩ 1 none, Cond.classLink RX2 7 RX1, Cond.instantiable RX1 6, Cond.initialized RX1, Cond.fieldLink RX2 12 "RingTasks" "task" "LRingTasks$Task;", Cond.classLink RX2 18 RX0, Cond.instantiable RX0 3, Cond.initialized RX0, Cond.fieldLink RX2 21 "RingTasks" "posts" "LRingTasks$Posts;", Cond.methodLink RX2 9 yX1_init, Cond.instanceMethod yX1_init, Cond.code yX1_init cX1_init 2 none, Cond.methodLink RX1 3 objectInit, Cond.arrayClass .int, Cond.fieldLink RX1 9 "RingTasks$Task" "behind" "[I", Cond.fieldLink RX1 15 "RingTasks$Task" "walk" "[I", Cond.fieldLink RX1 18 "RingTasks$Task" "reaching" "[I", Cond.arrayClass .long, Cond.fieldLink RX1 21 "RingTasks$Task" "ways" "[J", Cond.fieldLink RX1 25 "RingTasks$Task" "waysOn" "[J", Cond.methodLink RX1 28 yX1_restart, Cond.instanceMethod yX1_restart]
def wsX2_init_r2 : List Cond := [Cond.selects RX1 yX1_restart yX1_restart, Cond.code yX1_restart cX1_restart 4 none, Cond.methodLink RX1 32 Lib.Math.min.name, Cond.static Lib.Math.min.name, Cond.initialized "java/lang/Math", Cond.code Lib.Math.min.name Lib.Math.min.code 2 (some .int), Cond.fieldLink RX1 38 "RingTasks$Task" "size" "I", Cond.methodLink RX2 20 yX0_init, Cond.instanceMethod yX0_init, Cond.code yX0_init cX0_init 2 none, Cond.methodLink RX0 3 objectInit, Cond.fieldLink RX0 9 "RingTasks$Posts" "label" "[I", Cond.fieldLink RX0 15 "RingTasks$Posts" "number" "[I", Cond.methodLink RX0 18 yX0_restart, Cond.instanceMethod yX0_restart, Cond.selects RX0 yX0_restart yX0_restart, Cond.code yX0_restart cX0_restart 3 none, Cond.methodLink RX0 22 Lib.Math.min.name, Cond.fieldLink RX0 28 "RingTasks$Posts" "size" "I", Cond.methodLink RX0 32 yX0_clearLabels, Cond.instanceMethod yX0_clearLabels, Cond.selects RX0 yX0_clearLabels yX0_clearLabels, Cond.code yX0_clearLabels cX0_clearLabels 1 none, Cond.methodLink RX0 35 yJ7_fill_53178]
def wsX2_init_r3 : List Cond := [Cond.static yJ7_fill_53178, Cond.initialized RJ7, Cond.code yJ7_fill_53178 cJ7_fill_53178 4 none]
def wsX2_init : List Cond := .code yX2_init cX2_init 1 none :: ((wsX2_init_r1 ++ (wsX2_init_r2 ++ wsX2_init_r3)) ++ wsX10 ++ wsX20 ++ wsX00)
def wsX2_labels : List Cond := .code yX2_labels cX2_labels 3 (some .int) :: ([.fieldLink RX2 12 "RingTasks" "task" "LRingTasks$Task;", .fieldLink RX2 25 "RingTasks$Task" "size" "I", .fieldLink RX2 21 "RingTasks" "posts" "LRingTasks$Posts;", .methodLink RX2 29 yX1_restart, .instanceMethod yX1_restart, .selects RX1 yX1_restart yX1_restart, .initialized RX1, .code yX1_restart cX1_restart 4 none, .methodLink RX1 32 Lib.Math.min.name, .static Lib.Math.min.name, .initialized "java/lang/Math", .code Lib.Math.min.name Lib.Math.min.code 2 (some .int), .fieldLink RX1 38 "RingTasks$Task" "size" "I", .fieldLink RX1 9 "RingTasks$Task" "behind" "[I", .methodLink RX2 32 yX0_clearLabels, .instanceMethod yX0_clearLabels, .selects RX0 yX0_clearLabels yX0_clearLabels, .initialized RX0, .code yX0_clearLabels cX0_clearLabels 1 none, .fieldLink RX0 9 "RingTasks$Posts" "label" "[I", .methodLink RX0 35 yJ7_fill_53178, .static yJ7_fill_53178, .initialized RJ7, .code yJ7_fill_53178 cJ7_fill_53178 4 none] ++ wsX20 ++ wsX10 ++ wsX00)
def wsX2_asNumber : List Cond := .code yX2_asNumber cX2_asNumber 1 (some .int) :: ([])
def wsX2_allow : List Cond := .code yX2_allow cX2_allow 5 (some .int) :: ([.fieldLink RX2 12 "RingTasks" "task" "LRingTasks$Task;", .methodLink RX2 35 yX1_has, .instanceMethod yX1_has, .selects RX1 yX1_has yX1_has, .initialized RX1, .code yX1_has cX1_has 2 (some .boolean), .fieldLink RX1 38 "RingTasks$Task" "size" "I", .methodLink RX2 39 yX1_mayFollow, .instanceMethod yX1_mayFollow, .selects RX1 yX1_mayFollow yX1_mayFollow, .code yX1_mayFollow cX1_mayFollow 3 (some .boolean), .fieldLink RX1 9 "RingTasks$Task" "behind" "[I", .methodLink RX1 42 yX1_has, .methodLink RX1 46 yX1_holds, .static yX1_holds, .code yX1_holds cX1_holds 2 (some .boolean), .methodLink RX2 43 yX2_asNumber, .static yX2_asNumber, .initialized RX2, .code yX2_asNumber cX2_asNumber 1 (some .int), .methodLink RX2 47 yX1_decide, .instanceMethod yX1_decide, .selects RX1 yX1_decide yX1_decide, .code yX1_decide cX1_decide 4 none] ++ wsX20 ++ wsX10)
def wsX2_may : List Cond := .code yX2_may cX2_may 3 (some .int) :: ([.fieldLink RX2 12 "RingTasks" "task" "LRingTasks$Task;", .methodLink RX2 35 yX1_has, .instanceMethod yX1_has, .selects RX1 yX1_has yX1_has, .initialized RX1, .code yX1_has cX1_has 2 (some .boolean), .fieldLink RX1 38 "RingTasks$Task" "size" "I", .methodLink RX2 39 yX1_mayFollow, .instanceMethod yX1_mayFollow, .selects RX1 yX1_mayFollow yX1_mayFollow, .code yX1_mayFollow cX1_mayFollow 3 (some .boolean), .fieldLink RX1 9 "RingTasks$Task" "behind" "[I", .methodLink RX1 42 yX1_has, .methodLink RX1 46 yX1_holds, .static yX1_holds, .code yX1_holds cX1_holds 2 (some .boolean), .methodLink RX2 43 yX2_asNumber, .static yX2_asNumber, .initialized RX2, .code yX2_asNumber cX2_asNumber 1 (some .int)] ++ wsX20 ++ wsX10)
def wsX2_isRingSize : List Cond := .code yX2_isRingSize cX2_isRingSize 1 (some .boolean) :: ([])
def wsX2_rings_r1 : List Cond := [Cond.constantLong RX2 54 (-2), Cond.fieldLink RX2 12 "RingTasks" "task" "LRingTasks$Task;", Cond.methodLink RX2 51 yX2_isRingSize, Cond.static yX2_isRingSize, Cond.initialized RX2, Cond.code yX2_isRingSize cX2_isRingSize 1 (some .boolean), Cond.methodLink RX2 56 yX1_ringCount, Cond.instanceMethod yX1_ringCount, Cond.selects RX1 yX1_ringCount yX1_ringCount, Cond.initialized RX1, Cond.code yX1_ringCount cX1_ringCount 5 (some .long), Cond.fieldLink RX1 38 "RingTasks$Task" "size" "I", Cond.constantLong RX1 60 (1000000000000000000), Cond.methodLink RX1 62 Lib.MathLoose.min_long.x, Cond.static Lib.MathLoose.min_long.x, Cond.initialized "java/lang/Math", Cond.code Lib.MathLoose.min_long.x Lib.MathLoose.min_long.code 4 (some .long), Cond.methodLink RX1 56 yX1_walkCount, Cond.instanceMethod yX1_walkCount, Cond.selects RX1 yX1_walkCount yX1_walkCount, Cond.code yX1_walkCount cX1_walkCount 5 (some .long), Cond.fieldLink RX1 21 "RingTasks$Task" "ways" "[J", Cond.methodLink RX1 42 yX1_has, Cond.instanceMethod yX1_has]
def wsX2_rings_r2 : List Cond := [Cond.selects RX1 yX1_has yX1_has, Cond.code yX1_has cX1_has 2 (some .boolean), Cond.methodLink RX1 65 yJ7_fill_d0a16, Cond.static yJ7_fill_d0a16, Cond.initialized RJ7, Cond.code yJ7_fill_d0a16 cJ7_fill_d0a16 5 none, Cond.methodLink RX1 71 yX1_stepOn, Cond.instanceMethod yX1_stepOn, Cond.selects RX1 yX1_stepOn yX1_stepOn, Cond.code yX1_stepOn cX1_stepOn 5 none, Cond.fieldLink RX1 25 "RingTasks$Task" "waysOn" "[J", Cond.methodLink RX1 77 arraycopyName, Cond.native arraycopyName, Cond.static arraycopyName, Cond.initialized "java/lang/System", Cond.methodLink RX1 74 yX1_mayFollow, Cond.instanceMethod yX1_mayFollow, Cond.selects RX1 yX1_mayFollow yX1_mayFollow, Cond.code yX1_mayFollow cX1_mayFollow 3 (some .boolean), Cond.fieldLink RX1 9 "RingTasks$Task" "behind" "[I", Cond.methodLink RX1 46 yX1_holds, Cond.static yX1_holds, Cond.code yX1_holds cX1_holds 2 (some .boolean)]
def wsX2_rings : List Cond := .code yX2_rings cX2_rings 2 (some .long) :: ((wsX2_rings_r1 ++ wsX2_rings_r2) ++ wsX20 ++ wsX10)
def wsX2_first_r1 : List Cond := [Cond.fieldLink RX2 12 "RingTasks" "task" "LRingTasks$Task;", Cond.fieldLink RX2 63 "RingTasks$Task" "walk" "[I", Cond.methodLink RX2 51 yX2_isRingSize, Cond.static yX2_isRingSize, Cond.initialized RX2, Cond.code yX2_isRingSize cX2_isRingSize 1 (some .boolean), Cond.methodLink RX2 60 yX1_findRing, Cond.instanceMethod yX1_findRing, Cond.selects RX1 yX1_findRing yX1_findRing, Cond.initialized RX1, Cond.code yX1_findRing cX1_findRing 3 (some .boolean), Cond.fieldLink RX1 38 "RingTasks$Task" "size" "I", Cond.methodLink RX1 83 yX1_findWalk, Cond.instanceMethod yX1_findWalk, Cond.selects RX1 yX1_findWalk yX1_findWalk, Cond.code yX1_findWalk cX1_findWalk 6 (some .boolean), Cond.fieldLink RX1 18 "RingTasks$Task" "reaching" "[I", Cond.fieldLink RX1 15 "RingTasks$Task" "walk" "[I", Cond.fieldLink RX1 9 "RingTasks$Task" "behind" "[I", Cond.methodLink RX1 42 yX1_has, Cond.instanceMethod yX1_has, Cond.selects RX1 yX1_has yX1_has, Cond.code yX1_has cX1_has 2 (some .boolean), Cond.methodLink RX1 87 yX1_lookBack]
def wsX2_first_r2 : List Cond := [Cond.instanceMethod yX1_lookBack, Cond.selects RX1 yX1_lookBack yX1_lookBack, Cond.code yX1_lookBack cX1_lookBack 6 none, Cond.methodLink RX1 46 yX1_holds, Cond.static yX1_holds, Cond.code yX1_holds cX1_holds 2 (some .boolean), Cond.methodLink RX1 91 yX1_least, Cond.static yX1_least, Cond.code yX1_least cX1_least 2 (some .int)]
def wsX2_first : List Cond := .code yX2_first cX2_first 3 (some .int) :: ((wsX2_first_r1 ++ wsX2_first_r2) ++ wsX20 ++ wsX10)
def wsX2_walks_r1 : List Cond := [Cond.fieldLink RX2 12 "RingTasks" "task" "LRingTasks$Task;", Cond.constantLong RX2 67 (-1), Cond.constantLong RX2 54 (-2), Cond.methodLink RX2 35 yX1_has, Cond.instanceMethod yX1_has, Cond.selects RX1 yX1_has yX1_has, Cond.initialized RX1, Cond.code yX1_has cX1_has 2 (some .boolean), Cond.fieldLink RX1 38 "RingTasks$Task" "size" "I", Cond.methodLink RX2 69 yX1_walkCount, Cond.instanceMethod yX1_walkCount, Cond.selects RX1 yX1_walkCount yX1_walkCount, Cond.code yX1_walkCount cX1_walkCount 5 (some .long), Cond.fieldLink RX1 21 "RingTasks$Task" "ways" "[J", Cond.methodLink RX1 42 yX1_has, Cond.methodLink RX1 65 yJ7_fill_d0a16, Cond.static yJ7_fill_d0a16, Cond.initialized RJ7, Cond.code yJ7_fill_d0a16 cJ7_fill_d0a16 5 none, Cond.methodLink RX1 71 yX1_stepOn, Cond.instanceMethod yX1_stepOn, Cond.selects RX1 yX1_stepOn yX1_stepOn, Cond.code yX1_stepOn cX1_stepOn 5 none, Cond.fieldLink RX1 25 "RingTasks$Task" "waysOn" "[J"]
def wsX2_walks_r2 : List Cond := [Cond.constantLong RX1 60 (1000000000000000000), Cond.methodLink RX1 62 Lib.MathLoose.min_long.x, Cond.static Lib.MathLoose.min_long.x, Cond.initialized "java/lang/Math", Cond.code Lib.MathLoose.min_long.x Lib.MathLoose.min_long.code 4 (some .long), Cond.methodLink RX1 77 arraycopyName, Cond.native arraycopyName, Cond.static arraycopyName, Cond.initialized "java/lang/System", Cond.methodLink RX1 74 yX1_mayFollow, Cond.instanceMethod yX1_mayFollow, Cond.selects RX1 yX1_mayFollow yX1_mayFollow, Cond.code yX1_mayFollow cX1_mayFollow 3 (some .boolean), Cond.fieldLink RX1 9 "RingTasks$Task" "behind" "[I", Cond.methodLink RX1 46 yX1_holds, Cond.static yX1_holds, Cond.code yX1_holds cX1_holds 2 (some .boolean)]
def wsX2_walks : List Cond := .code yX2_walks cX2_walks 4 (some .long) :: ((wsX2_walks_r1 ++ wsX2_walks_r2) ++ wsX20 ++ wsX10)
def wsX2_blocks : List Cond := .code yX2_blocks cX2_blocks 3 (some .int) :: ([.fieldLink RX2 12 "RingTasks" "task" "LRingTasks$Task;", .fieldLink RX2 25 "RingTasks$Task" "size" "I", .methodLink RX2 73 yX1_leastOfBlock, .instanceMethod yX1_leastOfBlock, .selects RX1 yX1_leastOfBlock yX1_leastOfBlock, .initialized RX1, .code yX1_leastOfBlock cX1_leastOfBlock 4 (some .int), .methodLink RX1 94 yX1_reachedFrom, .instanceMethod yX1_reachedFrom, .selects RX1 yX1_reachedFrom yX1_reachedFrom, .code yX1_reachedFrom cX1_reachedFrom 6 (some .int), .fieldLink RX1 38 "RingTasks$Task" "size" "I", .fieldLink RX1 9 "RingTasks$Task" "behind" "[I", .methodLink RX1 46 yX1_holds, .static yX1_holds, .code yX1_holds cX1_holds 2 (some .boolean)] ++ wsX20 ++ wsX10)
def wsX2_block : List Cond := .code yX2_block cX2_block 2 (some .int) :: ([.fieldLink RX2 12 "RingTasks" "task" "LRingTasks$Task;", .methodLink RX2 35 yX1_has, .instanceMethod yX1_has, .selects RX1 yX1_has yX1_has, .initialized RX1, .code yX1_has cX1_has 2 (some .boolean), .fieldLink RX1 38 "RingTasks$Task" "size" "I", .methodLink RX2 73 yX1_leastOfBlock, .instanceMethod yX1_leastOfBlock, .selects RX1 yX1_leastOfBlock yX1_leastOfBlock, .code yX1_leastOfBlock cX1_leastOfBlock 4 (some .int), .methodLink RX1 94 yX1_reachedFrom, .instanceMethod yX1_reachedFrom, .selects RX1 yX1_reachedFrom yX1_reachedFrom, .code yX1_reachedFrom cX1_reachedFrom 6 (some .int), .fieldLink RX1 9 "RingTasks$Task" "behind" "[I", .methodLink RX1 46 yX1_holds, .static yX1_holds, .code yX1_holds cX1_holds 2 (some .boolean)] ++ wsX20 ++ wsX10)
def wsX2_pace_r1 : List Cond := [Cond.fieldLink RX2 12 "RingTasks" "task" "LRingTasks$Task;", Cond.methodLink RX2 35 yX1_has, Cond.instanceMethod yX1_has, Cond.selects RX1 yX1_has yX1_has, Cond.initialized RX1, Cond.code yX1_has cX1_has 2 (some .boolean), Cond.fieldLink RX1 38 "RingTasks$Task" "size" "I", Cond.methodLink RX2 77 yX1_paceOf, Cond.instanceMethod yX1_paceOf, Cond.selects RX1 yX1_paceOf yX1_paceOf, Cond.code yX1_paceOf cX1_paceOf 5 (some .int), Cond.constantLong RX1 101 (-2), Cond.methodLink RX1 97 yX1_returnLengths, Cond.instanceMethod yX1_returnLengths, Cond.selects RX1 yX1_returnLengths yX1_returnLengths, Cond.code yX1_returnLengths cX1_returnLengths 5 (some .long), Cond.fieldLink RX1 18 "RingTasks$Task" "reaching" "[I", Cond.methodLink RX1 87 yX1_lookBack, Cond.instanceMethod yX1_lookBack, Cond.selects RX1 yX1_lookBack yX1_lookBack, Cond.code yX1_lookBack cX1_lookBack 6 none, Cond.fieldLink RX1 9 "RingTasks$Task" "behind" "[I", Cond.methodLink RX1 46 yX1_holds, Cond.static yX1_holds]
def wsX2_pace_r2 : List Cond := [Cond.code yX1_holds cX1_holds 2 (some .boolean), Cond.methodLink RX1 103 yX1_dividesAll, Cond.static yX1_dividesAll, Cond.code yX1_dividesAll cX1_dividesAll 4 (some .boolean)]
def wsX2_pace : List Cond := .code yX2_pace cX2_pace 2 (some .int) :: ((wsX2_pace_r1 ++ wsX2_pace_r2) ++ wsX20 ++ wsX10)
def wsX2_kind_r1 : List Cond := [Cond.fieldLink RX2 12 "RingTasks" "task" "LRingTasks$Task;", Cond.methodLink RX2 80 yX1_kindOfTask, Cond.instanceMethod yX1_kindOfTask, Cond.selects RX1 yX1_kindOfTask yX1_kindOfTask, Cond.initialized RX1, Cond.code yX1_kindOfTask cX1_kindOfTask 3 (some .int), Cond.constantLong RX1 101 (-2), Cond.constantLong RX1 114 (2), Cond.methodLink RX1 110 yX1_ringLengths, Cond.instanceMethod yX1_ringLengths, Cond.selects RX1 yX1_ringLengths yX1_ringLengths, Cond.code yX1_ringLengths cX1_ringLengths 4 (some .long), Cond.fieldLink RX1 38 "RingTasks$Task" "size" "I", Cond.methodLink RX1 97 yX1_returnLengths, Cond.instanceMethod yX1_returnLengths, Cond.selects RX1 yX1_returnLengths yX1_returnLengths, Cond.code yX1_returnLengths cX1_returnLengths 5 (some .long), Cond.fieldLink RX1 18 "RingTasks$Task" "reaching" "[I", Cond.methodLink RX1 87 yX1_lookBack, Cond.instanceMethod yX1_lookBack, Cond.selects RX1 yX1_lookBack yX1_lookBack, Cond.code yX1_lookBack cX1_lookBack 6 none, Cond.fieldLink RX1 9 "RingTasks$Task" "behind" "[I", Cond.methodLink RX1 46 yX1_holds]
def wsX2_kind_r2 : List Cond := [Cond.static yX1_holds, Cond.code yX1_holds cX1_holds 2 (some .boolean), Cond.methodLink RX1 116 yX1_hasPaceOne, Cond.instanceMethod yX1_hasPaceOne, Cond.selects RX1 yX1_hasPaceOne yX1_hasPaceOne, Cond.code yX1_hasPaceOne cX1_hasPaceOne 2 (some .boolean), Cond.methodLink RX1 107 yX1_paceOf, Cond.instanceMethod yX1_paceOf, Cond.selects RX1 yX1_paceOf yX1_paceOf, Cond.code yX1_paceOf cX1_paceOf 5 (some .int), Cond.methodLink RX1 103 yX1_dividesAll, Cond.static yX1_dividesAll, Cond.code yX1_dividesAll cX1_dividesAll 4 (some .boolean)]
def wsX2_kind : List Cond := .code yX2_kind cX2_kind 1 (some .int) :: ((wsX2_kind_r1 ++ wsX2_kind_r2) ++ wsX20 ++ wsX10)
def wsX2_endOfGaps : List Cond := .code yX2_endOfGaps cX2_endOfGaps 3 (some .int) :: ([])
def wsX2_sure_r1 : List Cond := [Cond.fieldLink RX2 12 "RingTasks" "task" "LRingTasks$Task;", Cond.methodLink RX2 96 Lib.Math.max.name, Cond.static Lib.Math.max.name, Cond.initialized "java/lang/Math", Cond.code Lib.Math.max.name Lib.Math.max.code 2 (some .int), Cond.methodLink RX2 84 yX1_hasPaceOne, Cond.instanceMethod yX1_hasPaceOne, Cond.selects RX1 yX1_hasPaceOne yX1_hasPaceOne, Cond.initialized RX1, Cond.code yX1_hasPaceOne cX1_hasPaceOne 2 (some .boolean), Cond.fieldLink RX1 38 "RingTasks$Task" "size" "I", Cond.methodLink RX1 107 yX1_paceOf, Cond.instanceMethod yX1_paceOf, Cond.selects RX1 yX1_paceOf yX1_paceOf, Cond.code yX1_paceOf cX1_paceOf 5 (some .int), Cond.constantLong RX1 101 (-2), Cond.methodLink RX1 97 yX1_returnLengths, Cond.instanceMethod yX1_returnLengths, Cond.selects RX1 yX1_returnLengths yX1_returnLengths, Cond.code yX1_returnLengths cX1_returnLengths 5 (some .long), Cond.fieldLink RX1 18 "RingTasks$Task" "reaching" "[I", Cond.methodLink RX1 87 yX1_lookBack, Cond.instanceMethod yX1_lookBack, Cond.selects RX1 yX1_lookBack yX1_lookBack]
def wsX2_sure_r2 : List Cond := [Cond.code yX1_lookBack cX1_lookBack 6 none, Cond.fieldLink RX1 9 "RingTasks$Task" "behind" "[I", Cond.methodLink RX1 46 yX1_holds, Cond.static yX1_holds, Cond.code yX1_holds cX1_holds 2 (some .boolean), Cond.methodLink RX1 103 yX1_dividesAll, Cond.static yX1_dividesAll, Cond.code yX1_dividesAll cX1_dividesAll 4 (some .boolean), Cond.methodLink RX2 88 yX1_ringLengths, Cond.instanceMethod yX1_ringLengths, Cond.selects RX1 yX1_ringLengths yX1_ringLengths, Cond.code yX1_ringLengths cX1_ringLengths 4 (some .long), Cond.methodLink RX2 92 yX2_endOfGaps, Cond.static yX2_endOfGaps, Cond.initialized RX2, Cond.code yX2_endOfGaps cX2_endOfGaps 3 (some .int)]
def wsX2_sure : List Cond := .code yX2_sure cX2_sure 1 (some .int) :: ((wsX2_sure_r1 ++ wsX2_sure_r2) ++ wsX20 ++ wsX10)
def wsX2_free_r1 : List Cond := [Cond.fieldLink RX2 12 "RingTasks" "task" "LRingTasks$Task;", Cond.methodLink RX2 35 yX1_has, Cond.instanceMethod yX1_has, Cond.selects RX1 yX1_has yX1_has, Cond.initialized RX1, Cond.code yX1_has cX1_has 2 (some .boolean), Cond.fieldLink RX1 38 "RingTasks$Task" "size" "I", Cond.methodLink RX2 77 yX1_paceOf, Cond.instanceMethod yX1_paceOf, Cond.selects RX1 yX1_paceOf yX1_paceOf, Cond.code yX1_paceOf cX1_paceOf 5 (some .int), Cond.constantLong RX1 101 (-2), Cond.methodLink RX1 97 yX1_returnLengths, Cond.instanceMethod yX1_returnLengths, Cond.selects RX1 yX1_returnLengths yX1_returnLengths, Cond.code yX1_returnLengths cX1_returnLengths 5 (some .long), Cond.fieldLink RX1 18 "RingTasks$Task" "reaching" "[I", Cond.methodLink RX1 87 yX1_lookBack, Cond.instanceMethod yX1_lookBack, Cond.selects RX1 yX1_lookBack yX1_lookBack, Cond.code yX1_lookBack cX1_lookBack 6 none, Cond.fieldLink RX1 9 "RingTasks$Task" "behind" "[I", Cond.methodLink RX1 46 yX1_holds, Cond.static yX1_holds]
def wsX2_free_r2 : List Cond := [Cond.code yX1_holds cX1_holds 2 (some .boolean), Cond.methodLink RX1 103 yX1_dividesAll, Cond.static yX1_dividesAll, Cond.code yX1_dividesAll cX1_dividesAll 4 (some .boolean), Cond.methodLink RX2 102 yX1_returnLengths, Cond.methodLink RX2 92 yX2_endOfGaps, Cond.static yX2_endOfGaps, Cond.initialized RX2, Cond.code yX2_endOfGaps cX2_endOfGaps 3 (some .int)]
def wsX2_free : List Cond := .code yX2_free cX2_free 2 (some .int) :: ((wsX2_free_r1 ++ wsX2_free_r2) ++ wsX20 ++ wsX10)
def wsX2_mirrors_r1 : List Cond := [Cond.fieldLink RX2 12 "RingTasks" "task" "LRingTasks$Task;", Cond.methodLink RX2 105 yX1_isMirrored, Cond.instanceMethod yX1_isMirrored, Cond.selects RX1 yX1_isMirrored yX1_isMirrored, Cond.initialized RX1, Cond.code yX1_isMirrored cX1_isMirrored 4 (some .boolean), Cond.fieldLink RX1 38 "RingTasks$Task" "size" "I", Cond.methodLink RX1 74 yX1_mayFollow, Cond.instanceMethod yX1_mayFollow, Cond.selects RX1 yX1_mayFollow yX1_mayFollow, Cond.code yX1_mayFollow cX1_mayFollow 3 (some .boolean), Cond.fieldLink RX1 9 "RingTasks$Task" "behind" "[I", Cond.methodLink RX1 42 yX1_has, Cond.instanceMethod yX1_has, Cond.selects RX1 yX1_has yX1_has, Cond.code yX1_has cX1_has 2 (some .boolean), Cond.methodLink RX1 46 yX1_holds, Cond.static yX1_holds, Cond.code yX1_holds cX1_holds 2 (some .boolean), Cond.methodLink RX1 120 yX1_leastOfBlock, Cond.instanceMethod yX1_leastOfBlock, Cond.selects RX1 yX1_leastOfBlock yX1_leastOfBlock, Cond.code yX1_leastOfBlock cX1_leastOfBlock 4 (some .int), Cond.methodLink RX1 94 yX1_reachedFrom]
def wsX2_mirrors_r2 : List Cond := [Cond.instanceMethod yX1_reachedFrom, Cond.selects RX1 yX1_reachedFrom yX1_reachedFrom, Cond.code yX1_reachedFrom cX1_reachedFrom 6 (some .int), Cond.methodLink RX2 43 yX2_asNumber, Cond.static yX2_asNumber, Cond.initialized RX2, Cond.code yX2_asNumber cX2_asNumber 1 (some .int)]
def wsX2_mirrors : List Cond := .code yX2_mirrors cX2_mirrors 1 (some .int) :: ((wsX2_mirrors_r1 ++ wsX2_mirrors_r2) ++ wsX20 ++ wsX10)
def wsX2_ring : List Cond := .code yX2_ring cX2_ring 3 (some .int) :: ([.fieldLink RX2 21 "RingTasks" "posts" "LRingTasks$Posts;", .fieldLink RX2 108 "RingTasks$Posts" "size" "I", .methodLink RX2 109 yX0_restart, .instanceMethod yX0_restart, .selects RX0 yX0_restart yX0_restart, .initialized RX0, .code yX0_restart cX0_restart 3 none, .methodLink RX0 22 Lib.Math.min.name, .static Lib.Math.min.name, .initialized "java/lang/Math", .code Lib.Math.min.name Lib.Math.min.code 2 (some .int), .fieldLink RX0 28 "RingTasks$Posts" "size" "I", .fieldLink RX0 15 "RingTasks$Posts" "number" "[I", .methodLink RX0 32 yX0_clearLabels, .instanceMethod yX0_clearLabels, .selects RX0 yX0_clearLabels yX0_clearLabels, .code yX0_clearLabels cX0_clearLabels 1 none, .fieldLink RX0 9 "RingTasks$Posts" "label" "[I", .methodLink RX0 35 yJ7_fill_53178, .static yJ7_fill_53178, .initialized RJ7, .code yJ7_fill_53178 cJ7_fill_53178 4 none] ++ wsX20 ++ wsX00)
def wsX2_put : List Cond := .code yX2_put cX2_put 4 (some .int) :: ([.fieldLink RX2 21 "RingTasks" "posts" "LRingTasks$Posts;", .fieldLink RX2 12 "RingTasks" "task" "LRingTasks$Task;", .fieldLink RX2 111 "RingTasks$Posts" "label" "[I", .methodLink RX2 110 yX0_has, .instanceMethod yX0_has, .selects RX0 yX0_has yX0_has, .initialized RX0, .code yX0_has cX0_has 2 (some .boolean), .fieldLink RX0 28 "RingTasks$Posts" "size" "I", .methodLink RX2 35 yX1_has, .instanceMethod yX1_has, .selects RX1 yX1_has yX1_has, .initialized RX1, .code yX1_has cX1_has 2 (some .boolean), .fieldLink RX1 38 "RingTasks$Task" "size" "I"] ++ wsX20 ++ wsX00 ++ wsX10)
def wsX2_at : List Cond := .code yX2_at cX2_at 2 (some .int) :: ([.fieldLink RX2 21 "RingTasks" "posts" "LRingTasks$Posts;", .fieldLink RX2 111 "RingTasks$Posts" "label" "[I", .methodLink RX2 110 yX0_has, .instanceMethod yX0_has, .selects RX0 yX0_has yX0_has, .initialized RX0, .code yX0_has cX0_has 2 (some .boolean), .fieldLink RX0 28 "RingTasks$Posts" "size" "I"] ++ wsX20 ++ wsX00)
def wsX2_faults_r1 : List Cond := [Cond.fieldLink RX2 21 "RingTasks" "posts" "LRingTasks$Posts;", Cond.fieldLink RX2 108 "RingTasks$Posts" "size" "I", Cond.fieldLink RX2 12 "RingTasks" "task" "LRingTasks$Task;", Cond.methodLink RX2 114 yX0_isFault, Cond.instanceMethod yX0_isFault, Cond.selects RX0 yX0_isFault yX0_isFault, Cond.initialized RX0, Cond.code yX0_isFault cX0_isFault 3 (some .boolean), Cond.fieldLink RX0 9 "RingTasks$Posts" "label" "[I", Cond.methodLink RX0 41 yX0_next, Cond.instanceMethod yX0_next, Cond.selects RX0 yX0_next yX0_next, Cond.code yX0_next cX0_next 2 (some .int), Cond.fieldLink RX0 28 "RingTasks$Posts" "size" "I", Cond.methodLink RX0 45 yX1_mayFollow, Cond.instanceMethod yX1_mayFollow, Cond.selects RX1 yX1_mayFollow yX1_mayFollow, Cond.initialized RX1, Cond.code yX1_mayFollow cX1_mayFollow 3 (some .boolean), Cond.fieldLink RX1 9 "RingTasks$Task" "behind" "[I", Cond.methodLink RX1 42 yX1_has, Cond.instanceMethod yX1_has, Cond.selects RX1 yX1_has yX1_has, Cond.code yX1_has cX1_has 2 (some .boolean)]
def wsX2_faults_r2 : List Cond := [Cond.fieldLink RX1 38 "RingTasks$Task" "size" "I", Cond.methodLink RX1 46 yX1_holds, Cond.static yX1_holds, Cond.code yX1_holds cX1_holds 2 (some .boolean)]
def wsX2_faults : List Cond := .code yX2_faults cX2_faults 3 (some .int) :: ((wsX2_faults_r1 ++ wsX2_faults_r2) ++ wsX20 ++ wsX00 ++ wsX10)
def wsX2_fault_r1 : List Cond := [Cond.fieldLink RX2 21 "RingTasks" "posts" "LRingTasks$Posts;", Cond.fieldLink RX2 12 "RingTasks" "task" "LRingTasks$Task;", Cond.methodLink RX2 110 yX0_has, Cond.instanceMethod yX0_has, Cond.selects RX0 yX0_has yX0_has, Cond.initialized RX0, Cond.code yX0_has cX0_has 2 (some .boolean), Cond.fieldLink RX0 28 "RingTasks$Posts" "size" "I", Cond.methodLink RX2 118 yX0_faultFrom, Cond.instanceMethod yX0_faultFrom, Cond.selects RX0 yX0_faultFrom yX0_faultFrom, Cond.code yX0_faultFrom cX0_faultFrom 5 (some .int), Cond.methodLink RX0 51 yX0_isFault, Cond.instanceMethod yX0_isFault, Cond.selects RX0 yX0_isFault yX0_isFault, Cond.code yX0_isFault cX0_isFault 3 (some .boolean), Cond.fieldLink RX0 9 "RingTasks$Posts" "label" "[I", Cond.methodLink RX0 41 yX0_next, Cond.instanceMethod yX0_next, Cond.selects RX0 yX0_next yX0_next, Cond.code yX0_next cX0_next 2 (some .int), Cond.methodLink RX0 45 yX1_mayFollow, Cond.instanceMethod yX1_mayFollow, Cond.selects RX1 yX1_mayFollow yX1_mayFollow]
def wsX2_fault_r2 : List Cond := [Cond.initialized RX1, Cond.code yX1_mayFollow cX1_mayFollow 3 (some .boolean), Cond.fieldLink RX1 9 "RingTasks$Task" "behind" "[I", Cond.methodLink RX1 42 yX1_has, Cond.instanceMethod yX1_has, Cond.selects RX1 yX1_has yX1_has, Cond.code yX1_has cX1_has 2 (some .boolean), Cond.fieldLink RX1 38 "RingTasks$Task" "size" "I", Cond.methodLink RX1 46 yX1_holds, Cond.static yX1_holds, Cond.code yX1_holds cX1_holds 2 (some .boolean)]
def wsX2_fault : List Cond := .code yX2_fault cX2_fault 2 (some .int) :: ((wsX2_fault_r1 ++ wsX2_fault_r2) ++ wsX20 ++ wsX00 ++ wsX10)
def wsX2_mend_r1 : List Cond := [Cond.fieldLink RX2 21 "RingTasks" "posts" "LRingTasks$Posts;", Cond.fieldLink RX2 12 "RingTasks" "task" "LRingTasks$Task;", Cond.methodLink RX2 110 yX0_has, Cond.instanceMethod yX0_has, Cond.selects RX0 yX0_has yX0_has, Cond.initialized RX0, Cond.code yX0_has cX0_has 2 (some .boolean), Cond.fieldLink RX0 28 "RingTasks$Posts" "size" "I", Cond.methodLink RX2 122 yX0_mendAround, Cond.instanceMethod yX0_mendAround, Cond.selects RX0 yX0_mendAround yX0_mendAround, Cond.code yX0_mendAround cX0_mendAround 6 (some .int), Cond.methodLink RX0 55 yX0_mendStretch, Cond.instanceMethod yX0_mendStretch, Cond.selects RX0 yX0_mendStretch yX0_mendStretch, Cond.code yX0_mendStretch cX0_mendStretch 7 (some .boolean), Cond.fieldLink RX0 9 "RingTasks$Posts" "label" "[I", Cond.methodLink RX0 62 yX1_findRing, Cond.instanceMethod yX1_findRing, Cond.selects RX1 yX1_findRing yX1_findRing, Cond.initialized RX1, Cond.code yX1_findRing cX1_findRing 3 (some .boolean), Cond.fieldLink RX1 38 "RingTasks$Task" "size" "I", Cond.methodLink RX1 83 yX1_findWalk]
def wsX2_mend_r2 : List Cond := [Cond.instanceMethod yX1_findWalk, Cond.selects RX1 yX1_findWalk yX1_findWalk, Cond.code yX1_findWalk cX1_findWalk 6 (some .boolean), Cond.fieldLink RX1 18 "RingTasks$Task" "reaching" "[I", Cond.fieldLink RX1 15 "RingTasks$Task" "walk" "[I", Cond.fieldLink RX1 9 "RingTasks$Task" "behind" "[I", Cond.methodLink RX1 42 yX1_has, Cond.instanceMethod yX1_has, Cond.selects RX1 yX1_has yX1_has, Cond.code yX1_has cX1_has 2 (some .boolean), Cond.methodLink RX1 87 yX1_lookBack, Cond.instanceMethod yX1_lookBack, Cond.selects RX1 yX1_lookBack yX1_lookBack, Cond.code yX1_lookBack cX1_lookBack 6 none, Cond.methodLink RX1 46 yX1_holds, Cond.static yX1_holds, Cond.code yX1_holds cX1_holds 2 (some .boolean), Cond.methodLink RX1 91 yX1_least, Cond.static yX1_least, Cond.code yX1_least cX1_least 2 (some .int), Cond.methodLink RX0 59 yX0_previous, Cond.instanceMethod yX0_previous, Cond.selects RX0 yX0_previous yX0_previous, Cond.code yX0_previous cX0_previous 2 (some .int)]
def wsX2_mend_r3 : List Cond := [Cond.methodLink RX0 41 yX0_next, Cond.instanceMethod yX0_next, Cond.selects RX0 yX0_next yX0_next, Cond.code yX0_next cX0_next 2 (some .int), Cond.methodLink RX0 66 yX1_findWalk, Cond.methodLink RX0 70 yX0_putWalk, Cond.instanceMethod yX0_putWalk, Cond.selects RX0 yX0_putWalk yX0_putWalk, Cond.code yX0_putWalk cX0_putWalk 7 none, Cond.fieldLink RX0 74 "RingTasks$Task" "walk" "[I"]
def wsX2_mend : List Cond := .code yX2_mend cX2_mend 2 (some .int) :: ((wsX2_mend_r1 ++ (wsX2_mend_r2 ++ wsX2_mend_r3)) ++ wsX20 ++ wsX00 ++ wsX10)
def wsX2_fresh_r1 : List Cond := [Cond.fieldLink RX2 12 "RingTasks" "task" "LRingTasks$Task;", Cond.fieldLink RX2 21 "RingTasks" "posts" "LRingTasks$Posts;", Cond.fieldLink RX2 108 "RingTasks$Posts" "size" "I", Cond.methodLink RX2 60 yX1_findRing, Cond.instanceMethod yX1_findRing, Cond.selects RX1 yX1_findRing yX1_findRing, Cond.initialized RX1, Cond.code yX1_findRing cX1_findRing 3 (some .boolean), Cond.fieldLink RX1 38 "RingTasks$Task" "size" "I", Cond.methodLink RX1 83 yX1_findWalk, Cond.instanceMethod yX1_findWalk, Cond.selects RX1 yX1_findWalk yX1_findWalk, Cond.code yX1_findWalk cX1_findWalk 6 (some .boolean), Cond.fieldLink RX1 18 "RingTasks$Task" "reaching" "[I", Cond.fieldLink RX1 15 "RingTasks$Task" "walk" "[I", Cond.fieldLink RX1 9 "RingTasks$Task" "behind" "[I", Cond.methodLink RX1 42 yX1_has, Cond.instanceMethod yX1_has, Cond.selects RX1 yX1_has yX1_has, Cond.code yX1_has cX1_has 2 (some .boolean), Cond.methodLink RX1 87 yX1_lookBack, Cond.instanceMethod yX1_lookBack, Cond.selects RX1 yX1_lookBack yX1_lookBack, Cond.code yX1_lookBack cX1_lookBack 6 none]
def wsX2_fresh_r2 : List Cond := [Cond.methodLink RX1 46 yX1_holds, Cond.static yX1_holds, Cond.code yX1_holds cX1_holds 2 (some .boolean), Cond.methodLink RX1 91 yX1_least, Cond.static yX1_least, Cond.code yX1_least cX1_least 2 (some .int), Cond.methodLink RX2 125 yX0_putWalk, Cond.instanceMethod yX0_putWalk, Cond.selects RX0 yX0_putWalk yX0_putWalk, Cond.initialized RX0, Cond.code yX0_putWalk cX0_putWalk 7 none, Cond.fieldLink RX0 74 "RingTasks$Task" "walk" "[I", Cond.fieldLink RX0 9 "RingTasks$Posts" "label" "[I", Cond.methodLink RX0 41 yX0_next, Cond.instanceMethod yX0_next, Cond.selects RX0 yX0_next yX0_next, Cond.code yX0_next cX0_next 2 (some .int), Cond.fieldLink RX0 28 "RingTasks$Posts" "size" "I"]
def wsX2_fresh : List Cond := .code yX2_fresh cX2_fresh 1 (some .int) :: ((wsX2_fresh_r1 ++ wsX2_fresh_r2) ++ wsX20 ++ wsX00 ++ wsX10)
def wsX2_number : List Cond := .code yX2_number cX2_number 4 (some .int) :: ([.fieldLink RX2 21 "RingTasks" "posts" "LRingTasks$Posts;", .constant RX2 129 (1000000000), .fieldLink RX2 130 "RingTasks$Posts" "number" "[I", .methodLink RX2 110 yX0_has, .instanceMethod yX0_has, .selects RX0 yX0_has yX0_has, .initialized RX0, .code yX0_has cX0_has 2 (some .boolean), .fieldLink RX0 28 "RingTasks$Posts" "size" "I"] ++ wsX20 ++ wsX00)
def wsX2_told : List Cond := .code yX2_told cX2_told 2 (some .int) :: ([.fieldLink RX2 21 "RingTasks" "posts" "LRingTasks$Posts;", .fieldLink RX2 130 "RingTasks$Posts" "number" "[I", .methodLink RX2 110 yX0_has, .instanceMethod yX0_has, .selects RX0 yX0_has yX0_has, .initialized RX0, .code yX0_has cX0_has 2 (some .boolean), .fieldLink RX0 28 "RingTasks$Posts" "size" "I"] ++ wsX20 ++ wsX00)
def wsX2_round_r1 : List Cond := [Cond.fieldLink RX2 21 "RingTasks" "posts" "LRingTasks$Posts;", Cond.methodLink RX2 133 yX0_likeNeighbours, Cond.instanceMethod yX0_likeNeighbours, Cond.selects RX0 yX0_likeNeighbours yX0_likeNeighbours, Cond.initialized RX0, Cond.code yX0_likeNeighbours cX0_likeNeighbours 3 (some .int), Cond.fieldLink RX0 28 "RingTasks$Posts" "size" "I", Cond.fieldLink RX0 15 "RingTasks$Posts" "number" "[I", Cond.methodLink RX0 41 yX0_next, Cond.instanceMethod yX0_next, Cond.selects RX0 yX0_next yX0_next, Cond.code yX0_next cX0_next 2 (some .int), Cond.methodLink RX2 136 yX0_doRound, Cond.instanceMethod yX0_doRound, Cond.selects RX0 yX0_doRound yX0_doRound, Cond.code yX0_doRound cX0_doRound 4 none, Cond.methodLink RX0 80 yX0_shortened, Cond.static yX0_shortened, Cond.code yX0_shortened cX0_shortened 4 (some .int), Cond.methodLink RX0 83 yJ6_bitCount_0f7a4, Cond.static yJ6_bitCount_0f7a4, Cond.initialized RJ6, Cond.code yJ6_bitCount_0f7a4 cJ6_bitCount_0f7a4 1 (some .int), Cond.constant RJ6 265 (1431655765)]
def wsX2_round_r2 : List Cond := [Cond.constant RJ6 266 (858993459), Cond.constant RJ6 267 (252645135), Cond.methodLink RX2 139 yX0_greatestNumber, Cond.instanceMethod yX0_greatestNumber, Cond.selects RX0 yX0_greatestNumber yX0_greatestNumber, Cond.code yX0_greatestNumber cX0_greatestNumber 3 (some .int), Cond.methodLink RX0 77 Lib.Math.max.name, Cond.static Lib.Math.max.name, Cond.initialized "java/lang/Math", Cond.code Lib.Math.max.name Lib.Math.max.code 2 (some .int)]
def wsX2_round : List Cond := .code yX2_round cX2_round 1 (some .int) :: ((wsX2_round_r1 ++ wsX2_round_r2) ++ wsX20 ++ wsX00)
def wsX2_colours_r1 : List Cond := [Cond.fieldLink RX2 21 "RingTasks" "posts" "LRingTasks$Posts;", Cond.methodLink RX2 133 yX0_likeNeighbours, Cond.instanceMethod yX0_likeNeighbours, Cond.selects RX0 yX0_likeNeighbours yX0_likeNeighbours, Cond.initialized RX0, Cond.code yX0_likeNeighbours cX0_likeNeighbours 3 (some .int), Cond.fieldLink RX0 28 "RingTasks$Posts" "size" "I", Cond.fieldLink RX0 15 "RingTasks$Posts" "number" "[I", Cond.methodLink RX0 41 yX0_next, Cond.instanceMethod yX0_next, Cond.selects RX0 yX0_next yX0_next, Cond.code yX0_next cX0_next 2 (some .int), Cond.methodLink RX2 139 yX0_greatestNumber, Cond.instanceMethod yX0_greatestNumber, Cond.selects RX0 yX0_greatestNumber yX0_greatestNumber, Cond.code yX0_greatestNumber cX0_greatestNumber 3 (some .int), Cond.methodLink RX0 77 Lib.Math.max.name, Cond.static Lib.Math.max.name, Cond.initialized "java/lang/Math", Cond.code Lib.Math.max.name Lib.Math.max.code 2 (some .int), Cond.methodLink RX2 136 yX0_doRound, Cond.instanceMethod yX0_doRound, Cond.selects RX0 yX0_doRound yX0_doRound, Cond.code yX0_doRound cX0_doRound 4 none]
def wsX2_colours_r2 : List Cond := [Cond.methodLink RX0 80 yX0_shortened, Cond.static yX0_shortened, Cond.code yX0_shortened cX0_shortened 4 (some .int), Cond.methodLink RX0 83 yJ6_bitCount_0f7a4, Cond.static yJ6_bitCount_0f7a4, Cond.initialized RJ6, Cond.code yJ6_bitCount_0f7a4 cJ6_bitCount_0f7a4 1 (some .int), Cond.constant RJ6 265 (1431655765), Cond.constant RJ6 266 (858993459), Cond.constant RJ6 267 (252645135), Cond.methodLink RX2 142 yX0_giveUpColour, Cond.instanceMethod yX0_giveUpColour, Cond.selects RX0 yX0_giveUpColour yX0_giveUpColour, Cond.code yX0_giveUpColour cX0_giveUpColour 3 none, Cond.methodLink RX0 59 yX0_previous, Cond.instanceMethod yX0_previous, Cond.selects RX0 yX0_previous yX0_previous, Cond.code yX0_previous cX0_previous 2 (some .int), Cond.methodLink RX0 88 yX0_leastBeside, Cond.static yX0_leastBeside, Cond.code yX0_leastBeside cX0_leastBeside 3 (some .int)]
def wsX2_colours : List Cond := .code yX2_colours cX2_colours 3 (some .int) :: ((wsX2_colours_r1 ++ wsX2_colours_r2) ++ wsX20 ++ wsX00)
def wsX2_take : List Cond := .code yX2_take cX2_take 1 (some .int) :: ([.fieldLink RX2 21 "RingTasks" "posts" "LRingTasks$Posts;", .fieldLink RX2 12 "RingTasks" "task" "LRingTasks$Task;", .fieldLink RX2 25 "RingTasks$Task" "size" "I", .methodLink RX2 139 yX0_greatestNumber, .instanceMethod yX0_greatestNumber, .selects RX0 yX0_greatestNumber yX0_greatestNumber, .initialized RX0, .code yX0_greatestNumber cX0_greatestNumber 3 (some .int), .fieldLink RX0 28 "RingTasks$Posts" "size" "I", .fieldLink RX0 15 "RingTasks$Posts" "number" "[I", .methodLink RX0 77 Lib.Math.max.name, .static Lib.Math.max.name, .initialized "java/lang/Math", .code Lib.Math.max.name Lib.Math.max.code 2 (some .int), .methodLink RX2 145 yX0_takeNumbers, .instanceMethod yX0_takeNumbers, .selects RX0 yX0_takeNumbers yX0_takeNumbers, .code yX0_takeNumbers cX0_takeNumbers 1 none, .fieldLink RX0 9 "RingTasks$Posts" "label" "[I", .methodLink RX0 91 arraycopyName, .native arraycopyName, .static arraycopyName, .initialized "java/lang/System"] ++ wsX20 ++ wsX10 ++ wsX00)
def wsX2_count_r1 : List Cond := [Cond.fieldLink RX2 12 "RingTasks" "task" "LRingTasks$Task;", Cond.fieldLink RX2 25 "RingTasks$Task" "size" "I", Cond.fieldLink RX2 21 "RingTasks" "posts" "LRingTasks$Posts;", Cond.fieldLink RX2 108 "RingTasks$Posts" "size" "I", Cond.fieldLink RX2 130 "RingTasks$Posts" "number" "[I", Cond.fieldLink RX2 111 "RingTasks$Posts" "label" "[I", Cond.methodLink RX2 148 yX1_pairCount, Cond.instanceMethod yX1_pairCount, Cond.selects RX1 yX1_pairCount yX1_pairCount, Cond.initialized RX1, Cond.code yX1_pairCount cX1_pairCount 3 (some .int), Cond.fieldLink RX1 38 "RingTasks$Task" "size" "I", Cond.fieldLink RX1 9 "RingTasks$Task" "behind" "[I", Cond.methodLink RX1 50 yJ6_bitCount_0f7a4, Cond.static yJ6_bitCount_0f7a4, Cond.initialized RJ6, Cond.code yJ6_bitCount_0f7a4 cJ6_bitCount_0f7a4 1 (some .int), Cond.constant RJ6 265 (1431655765), Cond.constant RJ6 266 (858993459), Cond.constant RJ6 267 (252645135), Cond.methodLink RX2 151 yX0_unlike, Cond.instanceMethod yX0_unlike, Cond.selects RX0 yX0_unlike yX0_unlike, Cond.initialized RX0]
def wsX2_count_r2 : List Cond := [Cond.code yX0_unlike cX0_unlike 4 (some .int), Cond.fieldLink RX0 28 "RingTasks$Posts" "size" "I", Cond.methodLink RX0 97 yX0_standsBefore, Cond.static yX0_standsBefore, Cond.code yX0_standsBefore cX0_standsBefore 3 (some .boolean), Cond.methodLink RX2 133 yX0_likeNeighbours, Cond.instanceMethod yX0_likeNeighbours, Cond.selects RX0 yX0_likeNeighbours yX0_likeNeighbours, Cond.code yX0_likeNeighbours cX0_likeNeighbours 3 (some .int), Cond.fieldLink RX0 15 "RingTasks$Posts" "number" "[I", Cond.methodLink RX0 41 yX0_next, Cond.instanceMethod yX0_next, Cond.selects RX0 yX0_next yX0_next, Cond.code yX0_next cX0_next 2 (some .int)]
def wsX2_count : List Cond := .code yX2_count cX2_count 2 (some .int) :: ((wsX2_count_r1 ++ wsX2_count_r2) ++ wsX20 ++ wsX10 ++ wsX00)
def wsX3_begin : List Cond := .code yX3_begin cX3_begin 3 none :: ([.fieldLink RX3 40 "RingTasksModel" "labels" "I", .fieldLink RX3 7 "RingTasksModel" "may" "[Z", .fieldLink RX3 27 "RingTasksModel" "label" "[I"] ++ wsX30)
def wsX3_lay : List Cond := .code yX3_lay cX3_lay 3 none :: ([.fieldLink RX3 102 "RingTasksModel" "posts" "I", .fieldLink RX3 27 "RingTasksModel" "label" "[I", .fieldLink RX3 30 "RingTasksModel" "number" "[I"] ++ wsX30)
def wsX3_init : List Cond := .code yX3_init cX3_init 1 none :: ([.methodLink RX3 1 objectInit, .instanceMethod objectInit, .code objectInit ⟨#[0xb1]⟩ 1 none, .arrayClass .boolean, .fieldLink RX3 7 "RingTasksModel" "may" "[Z", .arrayClass .long, .fieldLink RX3 13 "RingTasksModel" "leads" "[J", .fieldLink RX3 17 "RingTasksModel" "many" "[J", .fieldLink RX3 20 "RingTasksModel" "then" "[J", .arrayClass .int, .fieldLink RX3 23 "RingTasksModel" "row" "[I", .fieldLink RX3 27 "RingTasksModel" "label" "[I", .fieldLink RX3 30 "RingTasksModel" "number" "[I", .methodLink RX3 33 yX3_begin, .instanceMethod yX3_begin, .selects RX3 yX3_begin yX3_begin, .initialized RX3, .code yX3_begin cX3_begin 3 none, .fieldLink RX3 40 "RingTasksModel" "labels" "I", .methodLink RX3 37 yX3_lay, .instanceMethod yX3_lay, .selects RX3 yX3_lay yX3_lay, .code yX3_lay cX3_lay 3 none, .fieldLink RX3 102 "RingTasksModel" "posts" "I"] ++ wsX30)
def wsX3_in : List Cond := .code yX3_in cX3_in 3 (some .boolean) :: ([])
def wsX3_isLabel : List Cond := .code yX3_isLabel cX3_isLabel 2 (some .boolean) :: ([.fieldLink RX3 40 "RingTasksModel" "labels" "I", .methodLink RX3 44 yX3_in, .static yX3_in, .initialized RX3, .code yX3_in cX3_in 3 (some .boolean)] ++ wsX30)
def wsX3_labels : List Cond := .code yX3_labels cX3_labels 3 (some .int) :: ([.fieldLink RX3 40 "RingTasksModel" "labels" "I", .methodLink RX3 44 yX3_in, .static yX3_in, .initialized RX3, .code yX3_in cX3_in 3 (some .boolean), .methodLink RX3 33 yX3_begin, .instanceMethod yX3_begin, .selects RX3 yX3_begin yX3_begin, .code yX3_begin cX3_begin 3 none, .fieldLink RX3 7 "RingTasksModel" "may" "[Z", .fieldLink RX3 27 "RingTasksModel" "label" "[I"] ++ wsX30)
def wsX3_allow : List Cond := .code yX3_allow cX3_allow 5 (some .int) :: ([.fieldLink RX3 7 "RingTasksModel" "may" "[Z", .methodLink RX3 48 yX3_isLabel, .instanceMethod yX3_isLabel, .selects RX3 yX3_isLabel yX3_isLabel, .initialized RX3, .code yX3_isLabel cX3_isLabel 2 (some .boolean), .fieldLink RX3 40 "RingTasksModel" "labels" "I", .methodLink RX3 44 yX3_in, .static yX3_in, .code yX3_in cX3_in 3 (some .boolean)] ++ wsX30)
def wsX3_may : List Cond := .code yX3_may cX3_may 3 (some .int) :: ([.fieldLink RX3 7 "RingTasksModel" "may" "[Z", .methodLink RX3 48 yX3_isLabel, .instanceMethod yX3_isLabel, .selects RX3 yX3_isLabel yX3_isLabel, .initialized RX3, .code yX3_isLabel cX3_isLabel 2 (some .boolean), .fieldLink RX3 40 "RingTasksModel" "labels" "I", .methodLink RX3 44 yX3_in, .static yX3_in, .code yX3_in cX3_in 3 (some .boolean)] ++ wsX30)
def wsX3_layLeads : List Cond := .code yX3_layLeads cX3_layLeads 3 none :: ([.fieldLink RX3 13 "RingTasksModel" "leads" "[J", .fieldLink RX3 40 "RingTasksModel" "labels" "I", .fieldLink RX3 7 "RingTasksModel" "may" "[Z", .constantLong RX3 52 (63)] ++ wsX30)
def wsX3_isWalk : List Cond := .code yX3_isWalk cX3_isWalk 4 (some .boolean) :: ([.fieldLink RX3 13 "RingTasksModel" "leads" "[J"] ++ wsX30)
def wsX3_cut : List Cond := .code yX3_cut cX3_cut 2 (some .long) :: ([.constantLong RX3 58 (1000000000000000000)])
def wsX3_layMany : List Cond := .code yX3_layMany cX3_layMany 6 none :: ([.fieldLink RX3 17 "RingTasksModel" "many" "[J", .fieldLink RX3 20 "RingTasksModel" "then" "[J", .fieldLink RX3 7 "RingTasksModel" "may" "[Z", .methodLink RX3 54 yX3_cut, .static yX3_cut, .initialized RX3, .code yX3_cut cX3_cut 2 (some .long), .constantLong RX3 58 (1000000000000000000)] ++ wsX30)
def wsX3_isRing : List Cond := .code yX3_isRing cX3_isRing 1 (some .boolean) :: ([.methodLink RX3 44 yX3_in, .static yX3_in, .initialized RX3, .code yX3_in cX3_in 3 (some .boolean)])
def wsX3_rings : List Cond := .code yX3_rings cX3_rings 5 (some .long) :: ([.constantLong RX3 63 (-2), .fieldLink RX3 40 "RingTasksModel" "labels" "I", .fieldLink RX3 17 "RingTasksModel" "many" "[J", .methodLink RX3 60 yX3_isRing, .static yX3_isRing, .initialized RX3, .code yX3_isRing cX3_isRing 1 (some .boolean), .methodLink RX3 44 yX3_in, .static yX3_in, .code yX3_in cX3_in 3 (some .boolean), .methodLink RX3 65 yX3_layMany, .instanceMethod yX3_layMany, .selects RX3 yX3_layMany yX3_layMany, .code yX3_layMany cX3_layMany 6 none, .fieldLink RX3 20 "RingTasksModel" "then" "[J", .fieldLink RX3 7 "RingTasksModel" "may" "[Z", .methodLink RX3 54 yX3_cut, .static yX3_cut, .code yX3_cut cX3_cut 2 (some .long), .constantLong RX3 58 (1000000000000000000)] ++ wsX30)
def wsX3_walks : List Cond := .code yX3_walks cX3_walks 4 (some .long) :: ([.constantLong RX3 69 (-1), .constantLong RX3 63 (-2), .fieldLink RX3 17 "RingTasksModel" "many" "[J", .methodLink RX3 48 yX3_isLabel, .instanceMethod yX3_isLabel, .selects RX3 yX3_isLabel yX3_isLabel, .initialized RX3, .code yX3_isLabel cX3_isLabel 2 (some .boolean), .fieldLink RX3 40 "RingTasksModel" "labels" "I", .methodLink RX3 44 yX3_in, .static yX3_in, .code yX3_in cX3_in 3 (some .boolean), .methodLink RX3 65 yX3_layMany, .instanceMethod yX3_layMany, .selects RX3 yX3_layMany yX3_layMany, .code yX3_layMany cX3_layMany 6 none, .fieldLink RX3 20 "RingTasksModel" "then" "[J", .fieldLink RX3 7 "RingTasksModel" "may" "[Z", .methodLink RX3 54 yX3_cut, .static yX3_cut, .code yX3_cut cX3_cut 2 (some .long), .constantLong RX3 58 (1000000000000000000)] ++ wsX30)
def wsX3_next : List Cond := .code yX3_next cX3_next 5 (some .int) :: ([.fieldLink RX3 40 "RingTasksModel" "labels" "I", .fieldLink RX3 7 "RingTasksModel" "may" "[Z", .methodLink RX3 71 yX3_isWalk, .instanceMethod yX3_isWalk, .selects RX3 yX3_isWalk yX3_isWalk, .initialized RX3, .code yX3_isWalk cX3_isWalk 4 (some .boolean), .fieldLink RX3 13 "RingTasksModel" "leads" "[J"] ++ wsX30)
def wsX3_layRing : List Cond := .code yX3_layRing cX3_layRing 4 (some .boolean) :: ([.fieldLink RX3 40 "RingTasksModel" "labels" "I", .fieldLink RX3 23 "RingTasksModel" "row" "[I", .methodLink RX3 74 yX3_layLeads, .instanceMethod yX3_layLeads, .selects RX3 yX3_layLeads yX3_layLeads, .initialized RX3, .code yX3_layLeads cX3_layLeads 3 none, .fieldLink RX3 13 "RingTasksModel" "leads" "[J", .fieldLink RX3 7 "RingTasksModel" "may" "[Z", .constantLong RX3 52 (63), .methodLink RX3 71 yX3_isWalk, .instanceMethod yX3_isWalk, .selects RX3 yX3_isWalk yX3_isWalk, .code yX3_isWalk cX3_isWalk 4 (some .boolean), .methodLink RX3 77 yX3_next, .instanceMethod yX3_next, .selects RX3 yX3_next yX3_next, .code yX3_next cX3_next 5 (some .int)] ++ wsX30)
def wsX3_first_r1 : List Cond := [Cond.fieldLink RX3 23 "RingTasksModel" "row" "[I", Cond.methodLink RX3 60 yX3_isRing, Cond.static yX3_isRing, Cond.initialized RX3, Cond.code yX3_isRing cX3_isRing 1 (some .boolean), Cond.methodLink RX3 44 yX3_in, Cond.static yX3_in, Cond.code yX3_in cX3_in 3 (some .boolean), Cond.methodLink RX3 81 yX3_layRing, Cond.instanceMethod yX3_layRing, Cond.selects RX3 yX3_layRing yX3_layRing, Cond.code yX3_layRing cX3_layRing 4 (some .boolean), Cond.fieldLink RX3 40 "RingTasksModel" "labels" "I", Cond.methodLink RX3 74 yX3_layLeads, Cond.instanceMethod yX3_layLeads, Cond.selects RX3 yX3_layLeads yX3_layLeads, Cond.code yX3_layLeads cX3_layLeads 3 none, Cond.fieldLink RX3 13 "RingTasksModel" "leads" "[J", Cond.fieldLink RX3 7 "RingTasksModel" "may" "[Z", Cond.constantLong RX3 52 (63), Cond.methodLink RX3 71 yX3_isWalk, Cond.instanceMethod yX3_isWalk, Cond.selects RX3 yX3_isWalk yX3_isWalk, Cond.code yX3_isWalk cX3_isWalk 4 (some .boolean)]
def wsX3_first_r2 : List Cond := [Cond.methodLink RX3 77 yX3_next, Cond.instanceMethod yX3_next, Cond.selects RX3 yX3_next yX3_next, Cond.code yX3_next cX3_next 5 (some .int)]
def wsX3_first : List Cond := .code yX3_first cX3_first 3 (some .int) :: ((wsX3_first_r1 ++ wsX3_first_r2) ++ wsX30)
def wsX3_isOneBlock : List Cond := .code yX3_isOneBlock cX3_isOneBlock 6 (some .boolean) :: ([.methodLink RX3 71 yX3_isWalk, .instanceMethod yX3_isWalk, .selects RX3 yX3_isWalk yX3_isWalk, .initialized RX3, .code yX3_isWalk cX3_isWalk 4 (some .boolean), .fieldLink RX3 13 "RingTasksModel" "leads" "[J"] ++ wsX30)
def wsX3_blockOf : List Cond := .code yX3_blockOf cX3_blockOf 3 (some .int) :: ([.methodLink RX3 84 yX3_isOneBlock, .instanceMethod yX3_isOneBlock, .selects RX3 yX3_isOneBlock yX3_isOneBlock, .initialized RX3, .code yX3_isOneBlock cX3_isOneBlock 6 (some .boolean), .methodLink RX3 71 yX3_isWalk, .instanceMethod yX3_isWalk, .selects RX3 yX3_isWalk yX3_isWalk, .code yX3_isWalk cX3_isWalk 4 (some .boolean), .fieldLink RX3 13 "RingTasksModel" "leads" "[J"] ++ wsX30)
def wsX3_blocks : List Cond := .code yX3_blocks cX3_blocks 3 (some .int) :: ([.fieldLink RX3 40 "RingTasksModel" "labels" "I", .methodLink RX3 74 yX3_layLeads, .instanceMethod yX3_layLeads, .selects RX3 yX3_layLeads yX3_layLeads, .initialized RX3, .code yX3_layLeads cX3_layLeads 3 none, .fieldLink RX3 13 "RingTasksModel" "leads" "[J", .fieldLink RX3 7 "RingTasksModel" "may" "[Z", .constantLong RX3 52 (63), .methodLink RX3 88 yX3_blockOf, .instanceMethod yX3_blockOf, .selects RX3 yX3_blockOf yX3_blockOf, .code yX3_blockOf cX3_blockOf 3 (some .int), .methodLink RX3 84 yX3_isOneBlock, .instanceMethod yX3_isOneBlock, .selects RX3 yX3_isOneBlock yX3_isOneBlock, .code yX3_isOneBlock cX3_isOneBlock 6 (some .boolean), .methodLink RX3 71 yX3_isWalk, .instanceMethod yX3_isWalk, .selects RX3 yX3_isWalk yX3_isWalk, .code yX3_isWalk cX3_isWalk 4 (some .boolean)] ++ wsX30)
def wsX3_block_r1 : List Cond := [Cond.methodLink RX3 74 yX3_layLeads, Cond.instanceMethod yX3_layLeads, Cond.selects RX3 yX3_layLeads yX3_layLeads, Cond.initialized RX3, Cond.code yX3_layLeads cX3_layLeads 3 none, Cond.fieldLink RX3 13 "RingTasksModel" "leads" "[J", Cond.fieldLink RX3 40 "RingTasksModel" "labels" "I", Cond.fieldLink RX3 7 "RingTasksModel" "may" "[Z", Cond.constantLong RX3 52 (63), Cond.methodLink RX3 48 yX3_isLabel, Cond.instanceMethod yX3_isLabel, Cond.selects RX3 yX3_isLabel yX3_isLabel, Cond.code yX3_isLabel cX3_isLabel 2 (some .boolean), Cond.methodLink RX3 44 yX3_in, Cond.static yX3_in, Cond.code yX3_in cX3_in 3 (some .boolean), Cond.methodLink RX3 88 yX3_blockOf, Cond.instanceMethod yX3_blockOf, Cond.selects RX3 yX3_blockOf yX3_blockOf, Cond.code yX3_blockOf cX3_blockOf 3 (some .int), Cond.methodLink RX3 84 yX3_isOneBlock, Cond.instanceMethod yX3_isOneBlock, Cond.selects RX3 yX3_isOneBlock yX3_isOneBlock, Cond.code yX3_isOneBlock cX3_isOneBlock 6 (some .boolean)]
def wsX3_block_r2 : List Cond := [Cond.methodLink RX3 71 yX3_isWalk, Cond.instanceMethod yX3_isWalk, Cond.selects RX3 yX3_isWalk yX3_isWalk, Cond.code yX3_isWalk cX3_isWalk 4 (some .boolean)]
def wsX3_block : List Cond := .code yX3_block cX3_block 2 (some .int) :: ((wsX3_block_r1 ++ wsX3_block_r2) ++ wsX30)
def wsX3_common : List Cond := .code yX3_common cX3_common 5 (some .int) :: ([])
def wsX3_paceOf : List Cond := .code yX3_paceOf cX3_paceOf 4 (some .int) :: ([.methodLink RX3 71 yX3_isWalk, .instanceMethod yX3_isWalk, .selects RX3 yX3_isWalk yX3_isWalk, .initialized RX3, .code yX3_isWalk cX3_isWalk 4 (some .boolean), .fieldLink RX3 13 "RingTasksModel" "leads" "[J", .methodLink RX3 92 yX3_common, .static yX3_common, .code yX3_common cX3_common 5 (some .int)] ++ wsX30)
def wsX3_pace_r1 : List Cond := [Cond.methodLink RX3 74 yX3_layLeads, Cond.instanceMethod yX3_layLeads, Cond.selects RX3 yX3_layLeads yX3_layLeads, Cond.initialized RX3, Cond.code yX3_layLeads cX3_layLeads 3 none, Cond.fieldLink RX3 13 "RingTasksModel" "leads" "[J", Cond.fieldLink RX3 40 "RingTasksModel" "labels" "I", Cond.fieldLink RX3 7 "RingTasksModel" "may" "[Z", Cond.constantLong RX3 52 (63), Cond.methodLink RX3 48 yX3_isLabel, Cond.instanceMethod yX3_isLabel, Cond.selects RX3 yX3_isLabel yX3_isLabel, Cond.code yX3_isLabel cX3_isLabel 2 (some .boolean), Cond.methodLink RX3 44 yX3_in, Cond.static yX3_in, Cond.code yX3_in cX3_in 3 (some .boolean), Cond.methodLink RX3 96 yX3_paceOf, Cond.instanceMethod yX3_paceOf, Cond.selects RX3 yX3_paceOf yX3_paceOf, Cond.code yX3_paceOf cX3_paceOf 4 (some .int), Cond.methodLink RX3 71 yX3_isWalk, Cond.instanceMethod yX3_isWalk, Cond.selects RX3 yX3_isWalk yX3_isWalk, Cond.code yX3_isWalk cX3_isWalk 4 (some .boolean)]
def wsX3_pace_r2 : List Cond := [Cond.methodLink RX3 92 yX3_common, Cond.static yX3_common, Cond.code yX3_common cX3_common 5 (some .int)]
def wsX3_pace : List Cond := .code yX3_pace cX3_pace 2 (some .int) :: ((wsX3_pace_r1 ++ wsX3_pace_r2) ++ wsX30)
def wsX3_kind : List Cond := .code yX3_kind cX3_kind 6 (some .int) :: ([.fieldLink RX3 40 "RingTasksModel" "labels" "I", .fieldLink RX3 7 "RingTasksModel" "may" "[Z", .methodLink RX3 74 yX3_layLeads, .instanceMethod yX3_layLeads, .selects RX3 yX3_layLeads yX3_layLeads, .initialized RX3, .code yX3_layLeads cX3_layLeads 3 none, .fieldLink RX3 13 "RingTasksModel" "leads" "[J", .constantLong RX3 52 (63), .methodLink RX3 96 yX3_paceOf, .instanceMethod yX3_paceOf, .selects RX3 yX3_paceOf yX3_paceOf, .code yX3_paceOf cX3_paceOf 4 (some .int), .methodLink RX3 71 yX3_isWalk, .instanceMethod yX3_isWalk, .selects RX3 yX3_isWalk yX3_isWalk, .code yX3_isWalk cX3_isWalk 4 (some .boolean), .methodLink RX3 92 yX3_common, .static yX3_common, .code yX3_common cX3_common 5 (some .int)] ++ wsX30)
def wsX3_behindLast : List Cond := .code yX3_behindLast cX3_behindLast 6 (some .int) :: ([.fieldLink RX3 40 "RingTasksModel" "labels" "I", .methodLink RX3 71 yX3_isWalk, .instanceMethod yX3_isWalk, .selects RX3 yX3_isWalk yX3_isWalk, .initialized RX3, .code yX3_isWalk cX3_isWalk 4 (some .boolean), .fieldLink RX3 13 "RingTasksModel" "leads" "[J"] ++ wsX30)
def wsX3_sure : List Cond := .code yX3_sure cX3_sure 3 (some .int) :: ([.fieldLink RX3 40 "RingTasksModel" "labels" "I", .methodLink RX3 74 yX3_layLeads, .instanceMethod yX3_layLeads, .selects RX3 yX3_layLeads yX3_layLeads, .initialized RX3, .code yX3_layLeads cX3_layLeads 3 none, .fieldLink RX3 13 "RingTasksModel" "leads" "[J", .fieldLink RX3 7 "RingTasksModel" "may" "[Z", .constantLong RX3 52 (63), .methodLink RX3 96 yX3_paceOf, .instanceMethod yX3_paceOf, .selects RX3 yX3_paceOf yX3_paceOf, .code yX3_paceOf cX3_paceOf 4 (some .int), .methodLink RX3 71 yX3_isWalk, .instanceMethod yX3_isWalk, .selects RX3 yX3_isWalk yX3_isWalk, .code yX3_isWalk cX3_isWalk 4 (some .boolean), .methodLink RX3 92 yX3_common, .static yX3_common, .code yX3_common cX3_common 5 (some .int), .methodLink RX3 99 yX3_behindLast, .instanceMethod yX3_behindLast, .selects RX3 yX3_behindLast yX3_behindLast, .code yX3_behindLast cX3_behindLast 6 (some .int)] ++ wsX30)
def wsX3_free_r1 : List Cond := [Cond.methodLink RX3 48 yX3_isLabel, Cond.instanceMethod yX3_isLabel, Cond.selects RX3 yX3_isLabel yX3_isLabel, Cond.initialized RX3, Cond.code yX3_isLabel cX3_isLabel 2 (some .boolean), Cond.fieldLink RX3 40 "RingTasksModel" "labels" "I", Cond.methodLink RX3 44 yX3_in, Cond.static yX3_in, Cond.code yX3_in cX3_in 3 (some .boolean), Cond.methodLink RX3 74 yX3_layLeads, Cond.instanceMethod yX3_layLeads, Cond.selects RX3 yX3_layLeads yX3_layLeads, Cond.code yX3_layLeads cX3_layLeads 3 none, Cond.fieldLink RX3 13 "RingTasksModel" "leads" "[J", Cond.fieldLink RX3 7 "RingTasksModel" "may" "[Z", Cond.constantLong RX3 52 (63), Cond.methodLink RX3 96 yX3_paceOf, Cond.instanceMethod yX3_paceOf, Cond.selects RX3 yX3_paceOf yX3_paceOf, Cond.code yX3_paceOf cX3_paceOf 4 (some .int), Cond.methodLink RX3 71 yX3_isWalk, Cond.instanceMethod yX3_isWalk, Cond.selects RX3 yX3_isWalk yX3_isWalk, Cond.code yX3_isWalk cX3_isWalk 4 (some .boolean)]
def wsX3_free_r2 : List Cond := [Cond.methodLink RX3 92 yX3_common, Cond.static yX3_common, Cond.code yX3_common cX3_common 5 (some .int), Cond.methodLink RX3 99 yX3_behindLast, Cond.instanceMethod yX3_behindLast, Cond.selects RX3 yX3_behindLast yX3_behindLast, Cond.code yX3_behindLast cX3_behindLast 6 (some .int)]
def wsX3_free : List Cond := .code yX3_free cX3_free 2 (some .int) :: ((wsX3_free_r1 ++ wsX3_free_r2) ++ wsX30)
def wsX3_mirrors : List Cond := .code yX3_mirrors cX3_mirrors 5 (some .int) :: ([.fieldLink RX3 40 "RingTasksModel" "labels" "I", .fieldLink RX3 7 "RingTasksModel" "may" "[Z", .methodLink RX3 74 yX3_layLeads, .instanceMethod yX3_layLeads, .selects RX3 yX3_layLeads yX3_layLeads, .initialized RX3, .code yX3_layLeads cX3_layLeads 3 none, .fieldLink RX3 13 "RingTasksModel" "leads" "[J", .constantLong RX3 52 (63), .methodLink RX3 84 yX3_isOneBlock, .instanceMethod yX3_isOneBlock, .selects RX3 yX3_isOneBlock yX3_isOneBlock, .code yX3_isOneBlock cX3_isOneBlock 6 (some .boolean), .methodLink RX3 71 yX3_isWalk, .instanceMethod yX3_isWalk, .selects RX3 yX3_isWalk yX3_isWalk, .code yX3_isWalk cX3_isWalk 4 (some .boolean)] ++ wsX30)
def wsX3_isPost : List Cond := .code yX3_isPost cX3_isPost 2 (some .boolean) :: ([.fieldLink RX3 102 "RingTasksModel" "posts" "I", .methodLink RX3 44 yX3_in, .static yX3_in, .initialized RX3, .code yX3_in cX3_in 3 (some .boolean)] ++ wsX30)
def wsX3_place : List Cond := .code yX3_place cX3_place 2 (some .int) :: ([.fieldLink RX3 102 "RingTasksModel" "posts" "I"] ++ wsX30)
def wsX3_ring : List Cond := .code yX3_ring cX3_ring 3 (some .int) :: ([.fieldLink RX3 102 "RingTasksModel" "posts" "I", .methodLink RX3 44 yX3_in, .static yX3_in, .initialized RX3, .code yX3_in cX3_in 3 (some .boolean), .methodLink RX3 37 yX3_lay, .instanceMethod yX3_lay, .selects RX3 yX3_lay yX3_lay, .code yX3_lay cX3_lay 3 none, .fieldLink RX3 27 "RingTasksModel" "label" "[I", .fieldLink RX3 30 "RingTasksModel" "number" "[I"] ++ wsX30)
def wsX3_put : List Cond := .code yX3_put cX3_put 4 (some .int) :: ([.fieldLink RX3 27 "RingTasksModel" "label" "[I", .methodLink RX3 105 yX3_isPost, .instanceMethod yX3_isPost, .selects RX3 yX3_isPost yX3_isPost, .initialized RX3, .code yX3_isPost cX3_isPost 2 (some .boolean), .fieldLink RX3 102 "RingTasksModel" "posts" "I", .methodLink RX3 44 yX3_in, .static yX3_in, .code yX3_in cX3_in 3 (some .boolean), .methodLink RX3 48 yX3_isLabel, .instanceMethod yX3_isLabel, .selects RX3 yX3_isLabel yX3_isLabel, .code yX3_isLabel cX3_isLabel 2 (some .boolean), .fieldLink RX3 40 "RingTasksModel" "labels" "I"] ++ wsX30)
def wsX3_at : List Cond := .code yX3_at cX3_at 2 (some .int) :: ([.fieldLink RX3 27 "RingTasksModel" "label" "[I", .methodLink RX3 105 yX3_isPost, .instanceMethod yX3_isPost, .selects RX3 yX3_isPost yX3_isPost, .initialized RX3, .code yX3_isPost cX3_isPost 2 (some .boolean), .fieldLink RX3 102 "RingTasksModel" "posts" "I", .methodLink RX3 44 yX3_in, .static yX3_in, .code yX3_in cX3_in 3 (some .boolean)] ++ wsX30)
def wsX3_isFault : List Cond := .code yX3_isFault cX3_isFault 2 (some .boolean) :: ([.fieldLink RX3 7 "RingTasksModel" "may" "[Z", .fieldLink RX3 27 "RingTasksModel" "label" "[I", .methodLink RX3 108 yX3_place, .instanceMethod yX3_place, .selects RX3 yX3_place yX3_place, .initialized RX3, .code yX3_place cX3_place 2 (some .int), .fieldLink RX3 102 "RingTasksModel" "posts" "I"] ++ wsX30)
def wsX3_faults : List Cond := .code yX3_faults cX3_faults 3 (some .int) :: ([.fieldLink RX3 102 "RingTasksModel" "posts" "I", .methodLink RX3 111 yX3_isFault, .instanceMethod yX3_isFault, .selects RX3 yX3_isFault yX3_isFault, .initialized RX3, .code yX3_isFault cX3_isFault 2 (some .boolean), .fieldLink RX3 7 "RingTasksModel" "may" "[Z", .fieldLink RX3 27 "RingTasksModel" "label" "[I", .methodLink RX3 108 yX3_place, .instanceMethod yX3_place, .selects RX3 yX3_place yX3_place, .code yX3_place cX3_place 2 (some .int)] ++ wsX30)
def wsX3_fault : List Cond := .code yX3_fault cX3_fault 3 (some .int) :: ([.fieldLink RX3 102 "RingTasksModel" "posts" "I", .methodLink RX3 105 yX3_isPost, .instanceMethod yX3_isPost, .selects RX3 yX3_isPost yX3_isPost, .initialized RX3, .code yX3_isPost cX3_isPost 2 (some .boolean), .methodLink RX3 44 yX3_in, .static yX3_in, .code yX3_in cX3_in 3 (some .boolean), .methodLink RX3 108 yX3_place, .instanceMethod yX3_place, .selects RX3 yX3_place yX3_place, .code yX3_place cX3_place 2 (some .int), .methodLink RX3 111 yX3_isFault, .instanceMethod yX3_isFault, .selects RX3 yX3_isFault yX3_isFault, .code yX3_isFault cX3_isFault 2 (some .boolean), .fieldLink RX3 7 "RingTasksModel" "may" "[Z", .fieldLink RX3 27 "RingTasksModel" "label" "[I"] ++ wsX30)
def wsX3_layBetween_r1 : List Cond := [Cond.fieldLink RX3 102 "RingTasksModel" "posts" "I", Cond.fieldLink RX3 27 "RingTasksModel" "label" "[I", Cond.fieldLink RX3 23 "RingTasksModel" "row" "[I", Cond.methodLink RX3 81 yX3_layRing, Cond.instanceMethod yX3_layRing, Cond.selects RX3 yX3_layRing yX3_layRing, Cond.initialized RX3, Cond.code yX3_layRing cX3_layRing 4 (some .boolean), Cond.fieldLink RX3 40 "RingTasksModel" "labels" "I", Cond.methodLink RX3 74 yX3_layLeads, Cond.instanceMethod yX3_layLeads, Cond.selects RX3 yX3_layLeads yX3_layLeads, Cond.code yX3_layLeads cX3_layLeads 3 none, Cond.fieldLink RX3 13 "RingTasksModel" "leads" "[J", Cond.fieldLink RX3 7 "RingTasksModel" "may" "[Z", Cond.constantLong RX3 52 (63), Cond.methodLink RX3 71 yX3_isWalk, Cond.instanceMethod yX3_isWalk, Cond.selects RX3 yX3_isWalk yX3_isWalk, Cond.code yX3_isWalk cX3_isWalk 4 (some .boolean), Cond.methodLink RX3 77 yX3_next, Cond.instanceMethod yX3_next, Cond.selects RX3 yX3_next yX3_next, Cond.code yX3_next cX3_next 5 (some .int)]
def wsX3_layBetween_r2 : List Cond := [Cond.methodLink RX3 108 yX3_place, Cond.instanceMethod yX3_place, Cond.selects RX3 yX3_place yX3_place, Cond.code yX3_place cX3_place 2 (some .int)]
def wsX3_layBetween : List Cond := .code yX3_layBetween cX3_layBetween 8 (some .boolean) :: ((wsX3_layBetween_r1 ++ wsX3_layBetween_r2) ++ wsX30)
def wsX3_mend_r1 : List Cond := [Cond.fieldLink RX3 102 "RingTasksModel" "posts" "I", Cond.fieldLink RX3 27 "RingTasksModel" "label" "[I", Cond.fieldLink RX3 23 "RingTasksModel" "row" "[I", Cond.methodLink RX3 105 yX3_isPost, Cond.instanceMethod yX3_isPost, Cond.selects RX3 yX3_isPost yX3_isPost, Cond.initialized RX3, Cond.code yX3_isPost cX3_isPost 2 (some .boolean), Cond.methodLink RX3 44 yX3_in, Cond.static yX3_in, Cond.code yX3_in cX3_in 3 (some .boolean), Cond.methodLink RX3 74 yX3_layLeads, Cond.instanceMethod yX3_layLeads, Cond.selects RX3 yX3_layLeads yX3_layLeads, Cond.code yX3_layLeads cX3_layLeads 3 none, Cond.fieldLink RX3 13 "RingTasksModel" "leads" "[J", Cond.fieldLink RX3 40 "RingTasksModel" "labels" "I", Cond.fieldLink RX3 7 "RingTasksModel" "may" "[Z", Cond.constantLong RX3 52 (63), Cond.methodLink RX3 114 yX3_layBetween, Cond.instanceMethod yX3_layBetween, Cond.selects RX3 yX3_layBetween yX3_layBetween, Cond.code yX3_layBetween cX3_layBetween 8 (some .boolean), Cond.methodLink RX3 81 yX3_layRing]
def wsX3_mend_r2 : List Cond := [Cond.instanceMethod yX3_layRing, Cond.selects RX3 yX3_layRing yX3_layRing, Cond.code yX3_layRing cX3_layRing 4 (some .boolean), Cond.methodLink RX3 71 yX3_isWalk, Cond.instanceMethod yX3_isWalk, Cond.selects RX3 yX3_isWalk yX3_isWalk, Cond.code yX3_isWalk cX3_isWalk 4 (some .boolean), Cond.methodLink RX3 77 yX3_next, Cond.instanceMethod yX3_next, Cond.selects RX3 yX3_next yX3_next, Cond.code yX3_next cX3_next 5 (some .int), Cond.methodLink RX3 108 yX3_place, Cond.instanceMethod yX3_place, Cond.selects RX3 yX3_place yX3_place, Cond.code yX3_place cX3_place 2 (some .int)]
def wsX3_mend : List Cond := .code yX3_mend cX3_mend 4 (some .int) :: ((wsX3_mend_r1 ++ wsX3_mend_r2) ++ wsX30)
def wsX3_fresh : List Cond := .code yX3_fresh cX3_fresh 2 (some .int) :: ([.fieldLink RX3 102 "RingTasksModel" "posts" "I", .fieldLink RX3 27 "RingTasksModel" "label" "[I", .fieldLink RX3 23 "RingTasksModel" "row" "[I", .methodLink RX3 81 yX3_layRing, .instanceMethod yX3_layRing, .selects RX3 yX3_layRing yX3_layRing, .initialized RX3, .code yX3_layRing cX3_layRing 4 (some .boolean), .fieldLink RX3 40 "RingTasksModel" "labels" "I", .methodLink RX3 74 yX3_layLeads, .instanceMethod yX3_layLeads, .selects RX3 yX3_layLeads yX3_layLeads, .code yX3_layLeads cX3_layLeads 3 none, .fieldLink RX3 13 "RingTasksModel" "leads" "[J", .fieldLink RX3 7 "RingTasksModel" "may" "[Z", .constantLong RX3 52 (63), .methodLink RX3 71 yX3_isWalk, .instanceMethod yX3_isWalk, .selects RX3 yX3_isWalk yX3_isWalk, .code yX3_isWalk cX3_isWalk 4 (some .boolean), .methodLink RX3 77 yX3_next, .instanceMethod yX3_next, .selects RX3 yX3_next yX3_next, .code yX3_next cX3_next 5 (some .int)] ++ wsX30)
def wsX3_number : List Cond := .code yX3_number cX3_number 4 (some .int) :: ([.constant RX3 117 (1000000000), .fieldLink RX3 30 "RingTasksModel" "number" "[I", .methodLink RX3 105 yX3_isPost, .instanceMethod yX3_isPost, .selects RX3 yX3_isPost yX3_isPost, .initialized RX3, .code yX3_isPost cX3_isPost 2 (some .boolean), .fieldLink RX3 102 "RingTasksModel" "posts" "I", .methodLink RX3 44 yX3_in, .static yX3_in, .code yX3_in cX3_in 3 (some .boolean)] ++ wsX30)
def wsX3_told : List Cond := .code yX3_told cX3_told 2 (some .int) :: ([.fieldLink RX3 30 "RingTasksModel" "number" "[I", .methodLink RX3 105 yX3_isPost, .instanceMethod yX3_isPost, .selects RX3 yX3_isPost yX3_isPost, .initialized RX3, .code yX3_isPost cX3_isPost 2 (some .boolean), .fieldLink RX3 102 "RingTasksModel" "posts" "I", .methodLink RX3 44 yX3_in, .static yX3_in, .code yX3_in cX3_in 3 (some .boolean)] ++ wsX30)
def wsX3_likes : List Cond := .code yX3_likes cX3_likes 3 (some .int) :: ([.fieldLink RX3 102 "RingTasksModel" "posts" "I", .fieldLink RX3 30 "RingTasksModel" "number" "[I", .methodLink RX3 108 yX3_place, .instanceMethod yX3_place, .selects RX3 yX3_place yX3_place, .initialized RX3, .code yX3_place cX3_place 2 (some .int)] ++ wsX30)
def wsX3_greatest : List Cond := .code yX3_greatest cX3_greatest 3 (some .int) :: ([.fieldLink RX3 102 "RingTasksModel" "posts" "I", .fieldLink RX3 30 "RingTasksModel" "number" "[I"] ++ wsX30)
def wsX3_lowest : List Cond := .code yX3_lowest cX3_lowest 3 (some .int) :: ([])
def wsX3_goRound : List Cond := .code yX3_goRound cX3_goRound 2 none :: ([.fieldLink RX3 102 "RingTasksModel" "posts" "I", .fieldLink RX3 23 "RingTasksModel" "row" "[I", .fieldLink RX3 30 "RingTasksModel" "number" "[I", .methodLink RX3 108 yX3_place, .instanceMethod yX3_place, .selects RX3 yX3_place yX3_place, .initialized RX3, .code yX3_place cX3_place 2 (some .int), .methodLink RX3 118 yX3_lowest, .static yX3_lowest, .code yX3_lowest cX3_lowest 3 (some .int)] ++ wsX30)
def wsX3_round : List Cond := .code yX3_round cX3_round 1 (some .int) :: ([.methodLink RX3 121 yX3_likes, .instanceMethod yX3_likes, .selects RX3 yX3_likes yX3_likes, .initialized RX3, .code yX3_likes cX3_likes 3 (some .int), .fieldLink RX3 102 "RingTasksModel" "posts" "I", .fieldLink RX3 30 "RingTasksModel" "number" "[I", .methodLink RX3 108 yX3_place, .instanceMethod yX3_place, .selects RX3 yX3_place yX3_place, .code yX3_place cX3_place 2 (some .int), .methodLink RX3 125 yX3_goRound, .instanceMethod yX3_goRound, .selects RX3 yX3_goRound yX3_goRound, .code yX3_goRound cX3_goRound 2 none, .fieldLink RX3 23 "RingTasksModel" "row" "[I", .methodLink RX3 118 yX3_lowest, .static yX3_lowest, .code yX3_lowest cX3_lowest 3 (some .int), .methodLink RX3 128 yX3_greatest, .instanceMethod yX3_greatest, .selects RX3 yX3_greatest yX3_greatest, .code yX3_greatest cX3_greatest 3 (some .int)] ++ wsX30)
def wsX3_colours : List Cond := .code yX3_colours cX3_colours 5 (some .int) :: ([.fieldLink RX3 102 "RingTasksModel" "posts" "I", .fieldLink RX3 30 "RingTasksModel" "number" "[I", .methodLink RX3 121 yX3_likes, .instanceMethod yX3_likes, .selects RX3 yX3_likes yX3_likes, .initialized RX3, .code yX3_likes cX3_likes 3 (some .int), .methodLink RX3 108 yX3_place, .instanceMethod yX3_place, .selects RX3 yX3_place yX3_place, .code yX3_place cX3_place 2 (some .int), .methodLink RX3 128 yX3_greatest, .instanceMethod yX3_greatest, .selects RX3 yX3_greatest yX3_greatest, .code yX3_greatest cX3_greatest 3 (some .int), .methodLink RX3 125 yX3_goRound, .instanceMethod yX3_goRound, .selects RX3 yX3_goRound yX3_goRound, .code yX3_goRound cX3_goRound 2 none, .fieldLink RX3 23 "RingTasksModel" "row" "[I", .methodLink RX3 118 yX3_lowest, .static yX3_lowest, .code yX3_lowest cX3_lowest 3 (some .int)] ++ wsX30)
def wsX3_take : List Cond := .code yX3_take cX3_take 2 (some .int) :: ([.fieldLink RX3 40 "RingTasksModel" "labels" "I", .fieldLink RX3 102 "RingTasksModel" "posts" "I", .fieldLink RX3 27 "RingTasksModel" "label" "[I", .fieldLink RX3 30 "RingTasksModel" "number" "[I", .methodLink RX3 128 yX3_greatest, .instanceMethod yX3_greatest, .selects RX3 yX3_greatest yX3_greatest, .initialized RX3, .code yX3_greatest cX3_greatest 3 (some .int)] ++ wsX30)
def wsX3_unlike : List Cond := .code yX3_unlike cX3_unlike 6 (some .int) :: ([.fieldLink RX3 102 "RingTasksModel" "posts" "I"] ++ wsX30)
def wsX3_count : List Cond := .code yX3_count cX3_count 4 (some .int) :: ([.fieldLink RX3 7 "RingTasksModel" "may" "[Z", .fieldLink RX3 40 "RingTasksModel" "labels" "I", .fieldLink RX3 102 "RingTasksModel" "posts" "I", .fieldLink RX3 30 "RingTasksModel" "number" "[I", .fieldLink RX3 27 "RingTasksModel" "label" "[I", .methodLink RX3 131 yX3_unlike, .instanceMethod yX3_unlike, .selects RX3 yX3_unlike yX3_unlike, .initialized RX3, .code yX3_unlike cX3_unlike 6 (some .int), .methodLink RX3 121 yX3_likes, .instanceMethod yX3_likes, .selects RX3 yX3_likes yX3_likes, .code yX3_likes cX3_likes 3 (some .int), .methodLink RX3 108 yX3_place, .instanceMethod yX3_place, .selects RX3 yX3_place yX3_place, .code yX3_place cX3_place 2 (some .int)] ++ wsX30)
def wsJ9_max_7cf53 : List Cond := .code yJ9_max_7cf53 cJ9_max_7cf53 2 (some .int) :: ([])
def wsJ9_min_7cf53 : List Cond := .code yJ9_min_7cf53 cJ9_min_7cf53 2 (some .int) :: ([])
def wsJ9_min_f86c9 : List Cond := .code yJ9_min_f86c9 cJ9_min_f86c9 4 (some .long) :: ([])
def wsL_law_r1 : List Cond := [Cond.classLink RL 7 RX2, Cond.instantiable RX2 2, Cond.initialized RX2, Cond.classLink RL 10 RX3, Cond.instantiable RX3 9, Cond.initialized RX3, Cond.methodLink RL 9 yX2_init, Cond.instanceMethod yX2_init, Cond.code yX2_init cX2_init 1 none, Cond.methodLink RX2 1 objectInit, Cond.instanceMethod objectInit, Cond.code objectInit ⟨#[0xb1]⟩ 1 none, Cond.classLink RX2 7 RX1, Cond.instantiable RX1 6, Cond.initialized RX1, Cond.fieldLink RX2 12 "RingTasks" "task" "LRingTasks$Task;", Cond.classLink RX2 18 RX0, Cond.instantiable RX0 3, Cond.initialized RX0, Cond.fieldLink RX2 21 "RingTasks" "posts" "LRingTasks$Posts;", Cond.methodLink RX2 9 yX1_init, Cond.instanceMethod yX1_init, Cond.code yX1_init cX1_init 2 none, Cond.methodLink RX1 3 objectInit]
def wsL_law_r2 : List Cond := [Cond.arrayClass .int, Cond.fieldLink RX1 9 "RingTasks$Task" "behind" "[I", Cond.fieldLink RX1 15 "RingTasks$Task" "walk" "[I", Cond.fieldLink RX1 18 "RingTasks$Task" "reaching" "[I", Cond.arrayClass .long, Cond.fieldLink RX1 21 "RingTasks$Task" "ways" "[J", Cond.fieldLink RX1 25 "RingTasks$Task" "waysOn" "[J", Cond.methodLink RX1 28 yX1_restart, Cond.instanceMethod yX1_restart, Cond.selects RX1 yX1_restart yX1_restart, Cond.code yX1_restart cX1_restart 4 none, Cond.methodLink RX1 32 Lib.Math.min.name, Cond.static Lib.Math.min.name, Cond.initialized "java/lang/Math", Cond.code Lib.Math.min.name Lib.Math.min.code 2 (some .int), Cond.fieldLink RX1 38 "RingTasks$Task" "size" "I", Cond.methodLink RX2 20 yX0_init, Cond.instanceMethod yX0_init, Cond.code yX0_init cX0_init 2 none, Cond.methodLink RX0 3 objectInit, Cond.fieldLink RX0 9 "RingTasks$Posts" "label" "[I", Cond.fieldLink RX0 15 "RingTasks$Posts" "number" "[I", Cond.methodLink RX0 18 yX0_restart, Cond.instanceMethod yX0_restart]
def wsL_law_r3 : List Cond := [Cond.selects RX0 yX0_restart yX0_restart, Cond.code yX0_restart cX0_restart 3 none, Cond.methodLink RX0 22 Lib.Math.min.name, Cond.fieldLink RX0 28 "RingTasks$Posts" "size" "I", Cond.methodLink RX0 32 yX0_clearLabels, Cond.instanceMethod yX0_clearLabels, Cond.selects RX0 yX0_clearLabels yX0_clearLabels, Cond.code yX0_clearLabels cX0_clearLabels 1 none, Cond.methodLink RX0 35 yJ7_fill_53178, Cond.static yJ7_fill_53178, Cond.initialized RJ7, Cond.code yJ7_fill_53178 cJ7_fill_53178 4 none, Cond.methodLink RL 12 yX3_init, Cond.instanceMethod yX3_init, Cond.code yX3_init cX3_init 1 none, Cond.methodLink RX3 1 objectInit, Cond.arrayClass .boolean, Cond.fieldLink RX3 7 "RingTasksModel" "may" "[Z", Cond.fieldLink RX3 13 "RingTasksModel" "leads" "[J", Cond.fieldLink RX3 17 "RingTasksModel" "many" "[J", Cond.fieldLink RX3 20 "RingTasksModel" "then" "[J", Cond.fieldLink RX3 23 "RingTasksModel" "row" "[I", Cond.fieldLink RX3 27 "RingTasksModel" "label" "[I", Cond.fieldLink RX3 30 "RingTasksModel" "number" "[I"]
def wsL_law_r4 : List Cond := [Cond.methodLink RX3 33 yX3_begin, Cond.instanceMethod yX3_begin, Cond.selects RX3 yX3_begin yX3_begin, Cond.code yX3_begin cX3_begin 3 none, Cond.fieldLink RX3 40 "RingTasksModel" "labels" "I", Cond.methodLink RX3 37 yX3_lay, Cond.instanceMethod yX3_lay, Cond.selects RX3 yX3_lay yX3_lay, Cond.code yX3_lay cX3_lay 3 none, Cond.fieldLink RX3 102 "RingTasksModel" "posts" "I", Cond.methodLink RL 13 yX2_labels, Cond.instanceMethod yX2_labels, Cond.selects RX2 yX2_labels yX2_labels, Cond.code yX2_labels cX2_labels 3 (some .int), Cond.fieldLink RX2 25 "RingTasks$Task" "size" "I", Cond.methodLink RX2 29 yX1_restart, Cond.methodLink RX2 32 yX0_clearLabels, Cond.methodLink RL 17 yX3_labels, Cond.instanceMethod yX3_labels, Cond.selects RX3 yX3_labels yX3_labels, Cond.code yX3_labels cX3_labels 3 (some .int), Cond.methodLink RX3 44 yX3_in, Cond.static yX3_in, Cond.code yX3_in cX3_in 3 (some .boolean)]
def wsL_law_r5 : List Cond := [Cond.methodLink RL 18 yX2_allow, Cond.instanceMethod yX2_allow, Cond.selects RX2 yX2_allow yX2_allow, Cond.code yX2_allow cX2_allow 5 (some .int), Cond.methodLink RX2 35 yX1_has, Cond.instanceMethod yX1_has, Cond.selects RX1 yX1_has yX1_has, Cond.code yX1_has cX1_has 2 (some .boolean), Cond.methodLink RX2 39 yX1_mayFollow, Cond.instanceMethod yX1_mayFollow, Cond.selects RX1 yX1_mayFollow yX1_mayFollow, Cond.code yX1_mayFollow cX1_mayFollow 3 (some .boolean), Cond.methodLink RX1 42 yX1_has, Cond.methodLink RX1 46 yX1_holds, Cond.static yX1_holds, Cond.code yX1_holds cX1_holds 2 (some .boolean), Cond.methodLink RX2 43 yX2_asNumber, Cond.static yX2_asNumber, Cond.code yX2_asNumber cX2_asNumber 1 (some .int), Cond.methodLink RX2 47 yX1_decide, Cond.instanceMethod yX1_decide, Cond.selects RX1 yX1_decide yX1_decide, Cond.code yX1_decide cX1_decide 4 none, Cond.methodLink RL 22 yX3_allow]
def wsL_law_r6 : List Cond := [Cond.instanceMethod yX3_allow, Cond.selects RX3 yX3_allow yX3_allow, Cond.code yX3_allow cX3_allow 5 (some .int), Cond.methodLink RX3 48 yX3_isLabel, Cond.instanceMethod yX3_isLabel, Cond.selects RX3 yX3_isLabel yX3_isLabel, Cond.code yX3_isLabel cX3_isLabel 2 (some .boolean), Cond.methodLink RL 23 yX2_may, Cond.instanceMethod yX2_may, Cond.selects RX2 yX2_may yX2_may, Cond.code yX2_may cX2_may 3 (some .int), Cond.methodLink RL 27 yX3_may, Cond.instanceMethod yX3_may, Cond.selects RX3 yX3_may yX3_may, Cond.code yX3_may cX3_may 3 (some .int), Cond.methodLink RL 28 yX2_rings, Cond.instanceMethod yX2_rings, Cond.selects RX2 yX2_rings yX2_rings, Cond.code yX2_rings cX2_rings 2 (some .long), Cond.constantLong RX2 54 (-2), Cond.methodLink RX2 51 yX2_isRingSize, Cond.static yX2_isRingSize, Cond.code yX2_isRingSize cX2_isRingSize 1 (some .boolean), Cond.methodLink RX2 56 yX1_ringCount]
def wsL_law_r7 : List Cond := [Cond.instanceMethod yX1_ringCount, Cond.selects RX1 yX1_ringCount yX1_ringCount, Cond.code yX1_ringCount cX1_ringCount 5 (some .long), Cond.constantLong RX1 60 (1000000000000000000), Cond.methodLink RX1 62 Lib.MathLoose.min_long.x, Cond.static Lib.MathLoose.min_long.x, Cond.code Lib.MathLoose.min_long.x Lib.MathLoose.min_long.code 4 (some .long), Cond.methodLink RX1 56 yX1_walkCount, Cond.instanceMethod yX1_walkCount, Cond.selects RX1 yX1_walkCount yX1_walkCount, Cond.code yX1_walkCount cX1_walkCount 5 (some .long), Cond.methodLink RX1 65 yJ7_fill_d0a16, Cond.static yJ7_fill_d0a16, Cond.code yJ7_fill_d0a16 cJ7_fill_d0a16 5 none, Cond.methodLink RX1 71 yX1_stepOn, Cond.instanceMethod yX1_stepOn, Cond.selects RX1 yX1_stepOn yX1_stepOn, Cond.code yX1_stepOn cX1_stepOn 5 none, Cond.methodLink RX1 77 arraycopyName, Cond.native arraycopyName, Cond.static arraycopyName, Cond.initialized "java/lang/System", Cond.methodLink RX1 74 yX1_mayFollow, Cond.methodLink RL 32 yX3_rings]
def wsL_law_r8 : List Cond := [Cond.instanceMethod yX3_rings, Cond.selects RX3 yX3_rings yX3_rings, Cond.code yX3_rings cX3_rings 5 (some .long), Cond.constantLong RX3 63 (-2), Cond.methodLink RX3 60 yX3_isRing, Cond.static yX3_isRing, Cond.code yX3_isRing cX3_isRing 1 (some .boolean), Cond.methodLink RX3 65 yX3_layMany, Cond.instanceMethod yX3_layMany, Cond.selects RX3 yX3_layMany yX3_layMany, Cond.code yX3_layMany cX3_layMany 6 none, Cond.methodLink RX3 54 yX3_cut, Cond.static yX3_cut, Cond.code yX3_cut cX3_cut 2 (some .long), Cond.constantLong RX3 58 (1000000000000000000), Cond.methodLink RL 33 yX2_first, Cond.instanceMethod yX2_first, Cond.selects RX2 yX2_first yX2_first, Cond.code yX2_first cX2_first 3 (some .int), Cond.fieldLink RX2 63 "RingTasks$Task" "walk" "[I", Cond.methodLink RX2 60 yX1_findRing, Cond.instanceMethod yX1_findRing, Cond.selects RX1 yX1_findRing yX1_findRing, Cond.code yX1_findRing cX1_findRing 3 (some .boolean)]
def wsL_law_r9 : List Cond := [Cond.methodLink RX1 83 yX1_findWalk, Cond.instanceMethod yX1_findWalk, Cond.selects RX1 yX1_findWalk yX1_findWalk, Cond.code yX1_findWalk cX1_findWalk 6 (some .boolean), Cond.methodLink RX1 87 yX1_lookBack, Cond.instanceMethod yX1_lookBack, Cond.selects RX1 yX1_lookBack yX1_lookBack, Cond.code yX1_lookBack cX1_lookBack 6 none, Cond.methodLink RX1 91 yX1_least, Cond.static yX1_least, Cond.code yX1_least cX1_least 2 (some .int), Cond.methodLink RL 36 yX3_first, Cond.instanceMethod yX3_first, Cond.selects RX3 yX3_first yX3_first, Cond.code yX3_first cX3_first 3 (some .int), Cond.methodLink RX3 81 yX3_layRing, Cond.instanceMethod yX3_layRing, Cond.selects RX3 yX3_layRing yX3_layRing, Cond.code yX3_layRing cX3_layRing 4 (some .boolean), Cond.methodLink RX3 74 yX3_layLeads, Cond.instanceMethod yX3_layLeads, Cond.selects RX3 yX3_layLeads yX3_layLeads, Cond.code yX3_layLeads cX3_layLeads 3 none, Cond.constantLong RX3 52 (63)]
def wsL_law_r10 : List Cond := [Cond.methodLink RX3 71 yX3_isWalk, Cond.instanceMethod yX3_isWalk, Cond.selects RX3 yX3_isWalk yX3_isWalk, Cond.code yX3_isWalk cX3_isWalk 4 (some .boolean), Cond.methodLink RX3 77 yX3_next, Cond.instanceMethod yX3_next, Cond.selects RX3 yX3_next yX3_next, Cond.code yX3_next cX3_next 5 (some .int), Cond.methodLink RL 37 yX2_walks, Cond.instanceMethod yX2_walks, Cond.selects RX2 yX2_walks yX2_walks, Cond.code yX2_walks cX2_walks 4 (some .long), Cond.constantLong RX2 67 (-1), Cond.methodLink RX2 69 yX1_walkCount, Cond.methodLink RL 41 yX3_walks, Cond.instanceMethod yX3_walks, Cond.selects RX3 yX3_walks yX3_walks, Cond.code yX3_walks cX3_walks 4 (some .long), Cond.constantLong RX3 69 (-1), Cond.methodLink RL 42 yX2_blocks, Cond.instanceMethod yX2_blocks, Cond.selects RX2 yX2_blocks yX2_blocks, Cond.code yX2_blocks cX2_blocks 3 (some .int), Cond.methodLink RX2 73 yX1_leastOfBlock]
def wsL_law_r11 : List Cond := [Cond.instanceMethod yX1_leastOfBlock, Cond.selects RX1 yX1_leastOfBlock yX1_leastOfBlock, Cond.code yX1_leastOfBlock cX1_leastOfBlock 4 (some .int), Cond.methodLink RX1 94 yX1_reachedFrom, Cond.instanceMethod yX1_reachedFrom, Cond.selects RX1 yX1_reachedFrom yX1_reachedFrom, Cond.code yX1_reachedFrom cX1_reachedFrom 6 (some .int), Cond.methodLink RL 46 yX3_blocks, Cond.instanceMethod yX3_blocks, Cond.selects RX3 yX3_blocks yX3_blocks, Cond.code yX3_blocks cX3_blocks 3 (some .int), Cond.methodLink RX3 88 yX3_blockOf, Cond.instanceMethod yX3_blockOf, Cond.selects RX3 yX3_blockOf yX3_blockOf, Cond.code yX3_blockOf cX3_blockOf 3 (some .int), Cond.methodLink RX3 84 yX3_isOneBlock, Cond.instanceMethod yX3_isOneBlock, Cond.selects RX3 yX3_isOneBlock yX3_isOneBlock, Cond.code yX3_isOneBlock cX3_isOneBlock 6 (some .boolean), Cond.methodLink RL 47 yX2_block, Cond.instanceMethod yX2_block, Cond.selects RX2 yX2_block yX2_block, Cond.code yX2_block cX2_block 2 (some .int), Cond.methodLink RL 50 yX3_block]
def wsL_law_r12 : List Cond := [Cond.instanceMethod yX3_block, Cond.selects RX3 yX3_block yX3_block, Cond.code yX3_block cX3_block 2 (some .int), Cond.methodLink RL 51 yX2_pace, Cond.instanceMethod yX2_pace, Cond.selects RX2 yX2_pace yX2_pace, Cond.code yX2_pace cX2_pace 2 (some .int), Cond.methodLink RX2 77 yX1_paceOf, Cond.instanceMethod yX1_paceOf, Cond.selects RX1 yX1_paceOf yX1_paceOf, Cond.code yX1_paceOf cX1_paceOf 5 (some .int), Cond.constantLong RX1 101 (-2), Cond.methodLink RX1 97 yX1_returnLengths, Cond.instanceMethod yX1_returnLengths, Cond.selects RX1 yX1_returnLengths yX1_returnLengths, Cond.code yX1_returnLengths cX1_returnLengths 5 (some .long), Cond.methodLink RX1 103 yX1_dividesAll, Cond.static yX1_dividesAll, Cond.code yX1_dividesAll cX1_dividesAll 4 (some .boolean), Cond.methodLink RL 54 yX3_pace, Cond.instanceMethod yX3_pace, Cond.selects RX3 yX3_pace yX3_pace, Cond.code yX3_pace cX3_pace 2 (some .int), Cond.methodLink RX3 96 yX3_paceOf]
def wsL_law_r13 : List Cond := [Cond.instanceMethod yX3_paceOf, Cond.selects RX3 yX3_paceOf yX3_paceOf, Cond.code yX3_paceOf cX3_paceOf 4 (some .int), Cond.methodLink RX3 92 yX3_common, Cond.static yX3_common, Cond.code yX3_common cX3_common 5 (some .int), Cond.methodLink RL 55 yX2_kind, Cond.instanceMethod yX2_kind, Cond.selects RX2 yX2_kind yX2_kind, Cond.code yX2_kind cX2_kind 1 (some .int), Cond.methodLink RX2 80 yX1_kindOfTask, Cond.instanceMethod yX1_kindOfTask, Cond.selects RX1 yX1_kindOfTask yX1_kindOfTask, Cond.code yX1_kindOfTask cX1_kindOfTask 3 (some .int), Cond.constantLong RX1 114 (2), Cond.methodLink RX1 110 yX1_ringLengths, Cond.instanceMethod yX1_ringLengths, Cond.selects RX1 yX1_ringLengths yX1_ringLengths, Cond.code yX1_ringLengths cX1_ringLengths 4 (some .long), Cond.methodLink RX1 116 yX1_hasPaceOne, Cond.instanceMethod yX1_hasPaceOne, Cond.selects RX1 yX1_hasPaceOne yX1_hasPaceOne, Cond.code yX1_hasPaceOne cX1_hasPaceOne 2 (some .boolean), Cond.methodLink RX1 107 yX1_paceOf]
def wsL_law_r14 : List Cond := [Cond.methodLink RL 58 yX3_kind, Cond.instanceMethod yX3_kind, Cond.selects RX3 yX3_kind yX3_kind, Cond.code yX3_kind cX3_kind 6 (some .int), Cond.methodLink RL 59 yX2_sure, Cond.instanceMethod yX2_sure, Cond.selects RX2 yX2_sure yX2_sure, Cond.code yX2_sure cX2_sure 1 (some .int), Cond.methodLink RX2 96 Lib.Math.max.name, Cond.static Lib.Math.max.name, Cond.code Lib.Math.max.name Lib.Math.max.code 2 (some .int), Cond.methodLink RX2 84 yX1_hasPaceOne, Cond.methodLink RX2 88 yX1_ringLengths, Cond.methodLink RX2 92 yX2_endOfGaps, Cond.static yX2_endOfGaps, Cond.code yX2_endOfGaps cX2_endOfGaps 3 (some .int), Cond.methodLink RL 62 yX3_sure, Cond.instanceMethod yX3_sure, Cond.selects RX3 yX3_sure yX3_sure, Cond.code yX3_sure cX3_sure 3 (some .int), Cond.methodLink RX3 99 yX3_behindLast, Cond.instanceMethod yX3_behindLast, Cond.selects RX3 yX3_behindLast yX3_behindLast, Cond.code yX3_behindLast cX3_behindLast 6 (some .int)]
def wsL_law_r15 : List Cond := [Cond.methodLink RL 63 yX2_free, Cond.instanceMethod yX2_free, Cond.selects RX2 yX2_free yX2_free, Cond.code yX2_free cX2_free 2 (some .int), Cond.methodLink RX2 102 yX1_returnLengths, Cond.methodLink RL 66 yX3_free, Cond.instanceMethod yX3_free, Cond.selects RX3 yX3_free yX3_free, Cond.code yX3_free cX3_free 2 (some .int), Cond.methodLink RL 67 yX2_mirrors, Cond.instanceMethod yX2_mirrors, Cond.selects RX2 yX2_mirrors yX2_mirrors, Cond.code yX2_mirrors cX2_mirrors 1 (some .int), Cond.methodLink RX2 105 yX1_isMirrored, Cond.instanceMethod yX1_isMirrored, Cond.selects RX1 yX1_isMirrored yX1_isMirrored, Cond.code yX1_isMirrored cX1_isMirrored 4 (some .boolean), Cond.methodLink RX1 120 yX1_leastOfBlock, Cond.methodLink RL 70 yX3_mirrors, Cond.instanceMethod yX3_mirrors, Cond.selects RX3 yX3_mirrors yX3_mirrors, Cond.code yX3_mirrors cX3_mirrors 5 (some .int), Cond.methodLink RL 71 yX2_ring, Cond.instanceMethod yX2_ring]
def wsL_law_r16 : List Cond := [Cond.selects RX2 yX2_ring yX2_ring, Cond.code yX2_ring cX2_ring 3 (some .int), Cond.fieldLink RX2 108 "RingTasks$Posts" "size" "I", Cond.methodLink RX2 109 yX0_restart, Cond.methodLink RL 74 yX3_ring, Cond.instanceMethod yX3_ring, Cond.selects RX3 yX3_ring yX3_ring, Cond.code yX3_ring cX3_ring 3 (some .int), Cond.methodLink RL 75 yX2_put, Cond.instanceMethod yX2_put, Cond.selects RX2 yX2_put yX2_put, Cond.code yX2_put cX2_put 4 (some .int), Cond.fieldLink RX2 111 "RingTasks$Posts" "label" "[I", Cond.methodLink RX2 110 yX0_has, Cond.instanceMethod yX0_has, Cond.selects RX0 yX0_has yX0_has, Cond.code yX0_has cX0_has 2 (some .boolean), Cond.methodLink RL 78 yX3_put, Cond.instanceMethod yX3_put, Cond.selects RX3 yX3_put yX3_put, Cond.code yX3_put cX3_put 4 (some .int), Cond.methodLink RX3 105 yX3_isPost, Cond.instanceMethod yX3_isPost, Cond.selects RX3 yX3_isPost yX3_isPost]
def wsL_law_r17 : List Cond := [Cond.code yX3_isPost cX3_isPost 2 (some .boolean), Cond.methodLink RL 79 yX2_at, Cond.instanceMethod yX2_at, Cond.selects RX2 yX2_at yX2_at, Cond.code yX2_at cX2_at 2 (some .int), Cond.methodLink RL 82 yX3_at, Cond.instanceMethod yX3_at, Cond.selects RX3 yX3_at yX3_at, Cond.code yX3_at cX3_at 2 (some .int), Cond.methodLink RL 83 yX2_faults, Cond.instanceMethod yX2_faults, Cond.selects RX2 yX2_faults yX2_faults, Cond.code yX2_faults cX2_faults 3 (some .int), Cond.methodLink RX2 114 yX0_isFault, Cond.instanceMethod yX0_isFault, Cond.selects RX0 yX0_isFault yX0_isFault, Cond.code yX0_isFault cX0_isFault 3 (some .boolean), Cond.methodLink RX0 41 yX0_next, Cond.instanceMethod yX0_next, Cond.selects RX0 yX0_next yX0_next, Cond.code yX0_next cX0_next 2 (some .int), Cond.methodLink RX0 45 yX1_mayFollow, Cond.methodLink RL 86 yX3_faults, Cond.instanceMethod yX3_faults]
def wsL_law_r18 : List Cond := [Cond.selects RX3 yX3_faults yX3_faults, Cond.code yX3_faults cX3_faults 3 (some .int), Cond.methodLink RX3 111 yX3_isFault, Cond.instanceMethod yX3_isFault, Cond.selects RX3 yX3_isFault yX3_isFault, Cond.code yX3_isFault cX3_isFault 2 (some .boolean), Cond.methodLink RX3 108 yX3_place, Cond.instanceMethod yX3_place, Cond.selects RX3 yX3_place yX3_place, Cond.code yX3_place cX3_place 2 (some .int), Cond.methodLink RL 87 yX2_fault, Cond.instanceMethod yX2_fault, Cond.selects RX2 yX2_fault yX2_fault, Cond.code yX2_fault cX2_fault 2 (some .int), Cond.methodLink RX2 118 yX0_faultFrom, Cond.instanceMethod yX0_faultFrom, Cond.selects RX0 yX0_faultFrom yX0_faultFrom, Cond.code yX0_faultFrom cX0_faultFrom 5 (some .int), Cond.methodLink RX0 51 yX0_isFault, Cond.methodLink RL 90 yX3_fault, Cond.instanceMethod yX3_fault, Cond.selects RX3 yX3_fault yX3_fault, Cond.code yX3_fault cX3_fault 3 (some .int), Cond.methodLink RL 91 yX2_mend]
def wsL_law_r19 : List Cond := [Cond.instanceMethod yX2_mend, Cond.selects RX2 yX2_mend yX2_mend, Cond.code yX2_mend cX2_mend 2 (some .int), Cond.methodLink RX2 122 yX0_mendAround, Cond.instanceMethod yX0_mendAround, Cond.selects RX0 yX0_mendAround yX0_mendAround, Cond.code yX0_mendAround cX0_mendAround 6 (some .int), Cond.methodLink RX0 55 yX0_mendStretch, Cond.instanceMethod yX0_mendStretch, Cond.selects RX0 yX0_mendStretch yX0_mendStretch, Cond.code yX0_mendStretch cX0_mendStretch 7 (some .boolean), Cond.methodLink RX0 62 yX1_findRing, Cond.methodLink RX0 59 yX0_previous, Cond.instanceMethod yX0_previous, Cond.selects RX0 yX0_previous yX0_previous, Cond.code yX0_previous cX0_previous 2 (some .int), Cond.methodLink RX0 66 yX1_findWalk, Cond.methodLink RX0 70 yX0_putWalk, Cond.instanceMethod yX0_putWalk, Cond.selects RX0 yX0_putWalk yX0_putWalk, Cond.code yX0_putWalk cX0_putWalk 7 none, Cond.fieldLink RX0 74 "RingTasks$Task" "walk" "[I", Cond.methodLink RL 94 yX3_mend, Cond.instanceMethod yX3_mend]
def wsL_law_r20 : List Cond := [Cond.selects RX3 yX3_mend yX3_mend, Cond.code yX3_mend cX3_mend 4 (some .int), Cond.methodLink RX3 114 yX3_layBetween, Cond.instanceMethod yX3_layBetween, Cond.selects RX3 yX3_layBetween yX3_layBetween, Cond.code yX3_layBetween cX3_layBetween 8 (some .boolean), Cond.methodLink RL 95 yX2_fresh, Cond.instanceMethod yX2_fresh, Cond.selects RX2 yX2_fresh yX2_fresh, Cond.code yX2_fresh cX2_fresh 1 (some .int), Cond.methodLink RX2 125 yX0_putWalk, Cond.methodLink RL 98 yX3_fresh, Cond.instanceMethod yX3_fresh, Cond.selects RX3 yX3_fresh yX3_fresh, Cond.code yX3_fresh cX3_fresh 2 (some .int), Cond.methodLink RL 99 yX2_number, Cond.instanceMethod yX2_number, Cond.selects RX2 yX2_number yX2_number, Cond.code yX2_number cX2_number 4 (some .int), Cond.constant RX2 129 (1000000000), Cond.fieldLink RX2 130 "RingTasks$Posts" "number" "[I", Cond.methodLink RL 102 yX3_number, Cond.instanceMethod yX3_number, Cond.selects RX3 yX3_number yX3_number]
def wsL_law_r21 : List Cond := [Cond.code yX3_number cX3_number 4 (some .int), Cond.constant RX3 117 (1000000000), Cond.methodLink RL 103 yX2_told, Cond.instanceMethod yX2_told, Cond.selects RX2 yX2_told yX2_told, Cond.code yX2_told cX2_told 2 (some .int), Cond.methodLink RL 106 yX3_told, Cond.instanceMethod yX3_told, Cond.selects RX3 yX3_told yX3_told, Cond.code yX3_told cX3_told 2 (some .int), Cond.methodLink RL 107 yX2_round, Cond.instanceMethod yX2_round, Cond.selects RX2 yX2_round yX2_round, Cond.code yX2_round cX2_round 1 (some .int), Cond.methodLink RX2 133 yX0_likeNeighbours, Cond.instanceMethod yX0_likeNeighbours, Cond.selects RX0 yX0_likeNeighbours yX0_likeNeighbours, Cond.code yX0_likeNeighbours cX0_likeNeighbours 3 (some .int), Cond.methodLink RX2 136 yX0_doRound, Cond.instanceMethod yX0_doRound, Cond.selects RX0 yX0_doRound yX0_doRound, Cond.code yX0_doRound cX0_doRound 4 none, Cond.methodLink RX0 80 yX0_shortened, Cond.static yX0_shortened]
def wsL_law_r22 : List Cond := [Cond.code yX0_shortened cX0_shortened 4 (some .int), Cond.methodLink RX0 83 yJ6_bitCount_0f7a4, Cond.static yJ6_bitCount_0f7a4, Cond.initialized RJ6, Cond.code yJ6_bitCount_0f7a4 cJ6_bitCount_0f7a4 1 (some .int), Cond.constant RJ6 265 (1431655765), Cond.constant RJ6 266 (858993459), Cond.constant RJ6 267 (252645135), Cond.methodLink RX2 139 yX0_greatestNumber, Cond.instanceMethod yX0_greatestNumber, Cond.selects RX0 yX0_greatestNumber yX0_greatestNumber, Cond.code yX0_greatestNumber cX0_greatestNumber 3 (some .int), Cond.methodLink RX0 77 Lib.Math.max.name, Cond.methodLink RL 110 yX3_round, Cond.instanceMethod yX3_round, Cond.selects RX3 yX3_round yX3_round, Cond.code yX3_round cX3_round 1 (some .int), Cond.methodLink RX3 121 yX3_likes, Cond.instanceMethod yX3_likes, Cond.selects RX3 yX3_likes yX3_likes, Cond.code yX3_likes cX3_likes 3 (some .int), Cond.methodLink RX3 125 yX3_goRound, Cond.instanceMethod yX3_goRound, Cond.selects RX3 yX3_goRound yX3_goRound]
def wsL_law_r23 : List Cond := [Cond.code yX3_goRound cX3_goRound 2 none, Cond.methodLink RX3 118 yX3_lowest, Cond.static yX3_lowest, Cond.code yX3_lowest cX3_lowest 3 (some .int), Cond.methodLink RX3 128 yX3_greatest, Cond.instanceMethod yX3_greatest, Cond.selects RX3 yX3_greatest yX3_greatest, Cond.code yX3_greatest cX3_greatest 3 (some .int), Cond.methodLink RL 111 yX2_colours, Cond.instanceMethod yX2_colours, Cond.selects RX2 yX2_colours yX2_colours, Cond.code yX2_colours cX2_colours 3 (some .int), Cond.methodLink RX2 142 yX0_giveUpColour, Cond.instanceMethod yX0_giveUpColour, Cond.selects RX0 yX0_giveUpColour yX0_giveUpColour, Cond.code yX0_giveUpColour cX0_giveUpColour 3 none, Cond.methodLink RX0 88 yX0_leastBeside, Cond.static yX0_leastBeside, Cond.code yX0_leastBeside cX0_leastBeside 3 (some .int), Cond.methodLink RL 114 yX3_colours, Cond.instanceMethod yX3_colours, Cond.selects RX3 yX3_colours yX3_colours, Cond.code yX3_colours cX3_colours 5 (some .int), Cond.methodLink RL 115 yX2_take]
def wsL_law_r24 : List Cond := [Cond.instanceMethod yX2_take, Cond.selects RX2 yX2_take yX2_take, Cond.code yX2_take cX2_take 1 (some .int), Cond.methodLink RX2 145 yX0_takeNumbers, Cond.instanceMethod yX0_takeNumbers, Cond.selects RX0 yX0_takeNumbers yX0_takeNumbers, Cond.code yX0_takeNumbers cX0_takeNumbers 1 none, Cond.methodLink RX0 91 arraycopyName, Cond.methodLink RL 118 yX3_take, Cond.instanceMethod yX3_take, Cond.selects RX3 yX3_take yX3_take, Cond.code yX3_take cX3_take 2 (some .int), Cond.methodLink RL 119 yX2_count, Cond.instanceMethod yX2_count, Cond.selects RX2 yX2_count yX2_count, Cond.code yX2_count cX2_count 2 (some .int), Cond.methodLink RX2 148 yX1_pairCount, Cond.instanceMethod yX1_pairCount, Cond.selects RX1 yX1_pairCount yX1_pairCount, Cond.code yX1_pairCount cX1_pairCount 3 (some .int), Cond.methodLink RX1 50 yJ6_bitCount_0f7a4, Cond.methodLink RX2 151 yX0_unlike, Cond.instanceMethod yX0_unlike, Cond.selects RX0 yX0_unlike yX0_unlike]
def wsL_law_r25 : List Cond := [Cond.code yX0_unlike cX0_unlike 4 (some .int), Cond.methodLink RX0 97 yX0_standsBefore, Cond.static yX0_standsBefore, Cond.code yX0_standsBefore cX0_standsBefore 3 (some .boolean), Cond.methodLink RL 122 yX3_count, Cond.instanceMethod yX3_count, Cond.selects RX3 yX3_count yX3_count, Cond.code yX3_count cX3_count 4 (some .int), Cond.methodLink RX3 131 yX3_unlike, Cond.instanceMethod yX3_unlike, Cond.selects RX3 yX3_unlike yX3_unlike, Cond.code yX3_unlike cX3_unlike 6 (some .int)]
def wsL_law : List Cond := (wsL_law_r1 ++ (wsL_law_r2 ++ (wsL_law_r3 ++ (wsL_law_r4 ++ (wsL_law_r5 ++ (wsL_law_r6 ++ (wsL_law_r7 ++ (wsL_law_r8 ++ (wsL_law_r9 ++ (wsL_law_r10 ++ (wsL_law_r11 ++ (wsL_law_r12 ++ (wsL_law_r13 ++ (wsL_law_r14 ++ (wsL_law_r15 ++ (wsL_law_r16 ++ (wsL_law_r17 ++ (wsL_law_r18 ++ (wsL_law_r19 ++ (wsL_law_r20 ++ (wsL_law_r21 ++ (wsL_law_r22 ++ (wsL_law_r23 ++ (wsL_law_r24 ++ wsL_law_r25)))))))))))))))))))))))) ++ wsX20 ++ wsX30 ++ wsX10 ++ wsX00 ++ ([] : List Cond)
set_option maxRecDepth 20000 in
theorem inlX0 : ∀ w ∈ wsX00, w ∈ wsL_law := fun _ h => List.mem_append_left _ (List.mem_append_right _ h)
theorem inlX1 : ∀ w ∈ wsX10, w ∈ wsL_law := fun _ h => List.mem_append_left _ (List.mem_append_left _ (List.mem_append_right _ h))
theorem inlX2 : ∀ w ∈ wsX20, w ∈ wsL_law := fun _ h => List.mem_append_left _ (List.mem_append_left _ (List.mem_append_left _ (List.mem_append_left _ (List.mem_append_right _ h))))
theorem inlX3 : ∀ w ∈ wsX30, w ∈ wsL_law := fun _ h => List.mem_append_left _ (List.mem_append_left _ (List.mem_append_left _ (List.mem_append_right _ h)))
theorem inJ6 : ∀ w ∈ wsJ60, w ∈ lw_tbl := by decide +kernel
theorem inJ9 : ∀ w ∈ wsJ90, w ∈ lw_tbl := by decide +kernel
theorem inJ10 : ∀ w ∈ wsJ100, w ∈ lw_tbl := by decide +kernel
theorem inJ7 : ∀ w ∈ wsJ70, w ∈ lw_tbl := by decide +kernel
end
section
set_option maxRecDepth 20000 in
theorem ggX0_init_X0_restart : GoodIn wsX0_init wsX0_restart := goodIn_r _ [11, 12, 13, 14, 15, 16, 6, 17, 18, 19, 10, 20, 5, 21, 22, 23, 24, 25, 26, 27] (by decide +kernel) (by decide +kernel)
set_option maxRecDepth 20000 in
theorem gX0_init_X0_restart : GoodIn wsX0_init (wsV RX0 18 RX0 yX0_restart wsX0_restart) := goodIn_app (goodIn_of _ (by decide +kernel)) ggX0_init_X0_restart
theorem dX0_init_0 : decode cX0_init 0 = .ok (.aload_n 0, 1) := by decide +kernel
theorem dX0_init_1 : decode cX0_init 1 = .ok (.invokespecial 3, 3) := by decide +kernel
theorem dX0_init_4 : decode cX0_init 4 = .ok (.aload_n 0, 1) := by decide +kernel
theorem dX0_init_5 : decode cX0_init 5 = .ok (.bipush 60, 2) := by decide +kernel
theorem dX0_init_7 : decode cX0_init 7 = .ok (.newarray .int, 2) := by decide +kernel
theorem dX0_init_9 : decode cX0_init 9 = .ok (.putfield 9, 3) := by decide +kernel
theorem dX0_init_12 : decode cX0_init 12 = .ok (.aload_n 0, 1) := by decide +kernel
theorem dX0_init_13 : decode cX0_init 13 = .ok (.bipush 60, 2) := by decide +kernel
theorem dX0_init_15 : decode cX0_init 15 = .ok (.newarray .int, 2) := by decide +kernel
theorem dX0_init_17 : decode cX0_init 17 = .ok (.putfield 15, 3) := by decide +kernel
theorem dX0_init_20 : decode cX0_init 20 = .ok (.aload_n 0, 1) := by decide +kernel
theorem dX0_init_21 : decode cX0_init 21 = .ok (.iload_n 1, 1) := by decide +kernel
theorem dX0_init_22 : decode cX0_init 22 = .ok (.invokevirtual 18, 3) := by decide +kernel
theorem dX0_init_25 : decode cX0_init 25 = .ok (.return_, 1) := by decide +kernel
set_option maxRecDepth 20000 in
theorem ggX0_restart_X0_clearLabels : GoodIn wsX0_restart wsX0_clearLabels := goodIn_r _ [11, 12, 13, 14, 15, 16, 17, 18, 19] (by decide +kernel) (by decide +kernel)
set_option maxRecDepth 20000 in
theorem gX0_restart_X0_clearLabels : GoodIn wsX0_restart (wsV RX0 32 RX0 yX0_clearLabels wsX0_clearLabels) := goodIn_app (goodIn_of _ (by decide +kernel)) ggX0_restart_X0_clearLabels
theorem dX0_restart_0 : decode cX0_restart 0 = .ok (.aload_n 0, 1) := by decide +kernel
theorem dX0_restart_1 : decode cX0_restart 1 = .ok (.iload_n 1, 1) := by decide +kernel
theorem dX0_restart_2 : decode cX0_restart 2 = .ok (.bipush 60, 2) := by decide +kernel
theorem dX0_restart_4 : decode cX0_restart 4 = .ok (.invokestatic 22, 3) := by decide +kernel
theorem dX0_restart_7 : decode cX0_restart 7 = .ok (.putfield 28, 3) := by decide +kernel
theorem dX0_restart_10 : decode cX0_restart 10 = .ok (.aload_n 0, 1) := by decide +kernel
theorem dX0_restart_11 : decode cX0_restart 11 = .ok (.invokevirtual 32, 3) := by decide +kernel
theorem dX0_restart_14 : decode cX0_restart 14 = .ok (.iconst 0, 1) := by decide +kernel
theorem dX0_restart_15 : decode cX0_restart 15 = .ok (.istore_n 2, 1) := by decide +kernel
theorem dX0_restart_16 : decode cX0_restart 16 = .ok (.iload_n 2, 1) := by decide +kernel
theorem dX0_restart_17 : decode cX0_restart 17 = .ok (.aload_n 0, 1) := by decide +kernel
theorem dX0_restart_18 : decode cX0_restart 18 = .ok (.getfield 28, 3) := by decide +kernel
theorem dX0_restart_21 : decode cX0_restart 21 = .ok (.if_icmp .ge 16, 3) := by decide +kernel
theorem dX0_restart_24 : decode cX0_restart 24 = .ok (.aload_n 0, 1) := by decide +kernel
theorem dX0_restart_25 : decode cX0_restart 25 = .ok (.getfield 15, 3) := by decide +kernel
theorem dX0_restart_28 : decode cX0_restart 28 = .ok (.iload_n 2, 1) := by decide +kernel
theorem dX0_restart_29 : decode cX0_restart 29 = .ok (.iload_n 2, 1) := by decide +kernel
theorem dX0_restart_30 : decode cX0_restart 30 = .ok (.iastore, 1) := by decide +kernel
theorem dX0_restart_31 : decode cX0_restart 31 = .ok (.iinc 2 1, 3) := by decide +kernel
theorem dX0_restart_34 : decode cX0_restart 34 = .ok (.goto (-18), 3) := by decide +kernel
theorem dX0_restart_37 : decode cX0_restart 37 = .ok (.return_, 1) := by decide +kernel
set_option maxRecDepth 20000 in
theorem ggX0_clearLabels_J7_fill_53178 : GoodIn wsX0_clearLabels wsJ7_fill_53178 := goodIn_r _ [5] (by decide +kernel) (by decide +kernel)
set_option maxRecDepth 20000 in
theorem gX0_clearLabels_J7_fill_53178 : GoodIn wsX0_clearLabels (va_wsS RX0 35 yJ7_fill_53178 wsJ7_fill_53178) := goodIn_app (goodIn_of _ (by decide +kernel)) ggX0_clearLabels_J7_fill_53178
theorem dX0_clearLabels_0 : decode cX0_clearLabels 0 = .ok (.aload_n 0, 1) := by decide +kernel
theorem dX0_clearLabels_1 : decode cX0_clearLabels 1 = .ok (.getfield 9, 3) := by decide +kernel
theorem dX0_clearLabels_4 : decode cX0_clearLabels 4 = .ok (.iconst 0, 1) := by decide +kernel
theorem dX0_clearLabels_5 : decode cX0_clearLabels 5 = .ok (.invokestatic 35, 3) := by decide +kernel
theorem dX0_clearLabels_8 : decode cX0_clearLabels 8 = .ok (.return_, 1) := by decide +kernel
theorem dX0_has_0 : decode cX0_has 0 = .ok (.iload_n 1, 1) := by decide +kernel
theorem dX0_has_1 : decode cX0_has 1 = .ok (.ifCond .lt 15, 3) := by decide +kernel
theorem dX0_has_4 : decode cX0_has 4 = .ok (.iload_n 1, 1) := by decide +kernel
theorem dX0_has_5 : decode cX0_has 5 = .ok (.aload_n 0, 1) := by decide +kernel
theorem dX0_has_6 : decode cX0_has 6 = .ok (.getfield 28, 3) := by decide +kernel
theorem dX0_has_9 : decode cX0_has 9 = .ok (.if_icmp .ge 7, 3) := by decide +kernel
theorem dX0_has_12 : decode cX0_has 12 = .ok (.iconst 1, 1) := by decide +kernel
theorem dX0_has_13 : decode cX0_has 13 = .ok (.goto 4, 3) := by decide +kernel
theorem dX0_has_16 : decode cX0_has 16 = .ok (.iconst 0, 1) := by decide +kernel
theorem dX0_has_17 : decode cX0_has 17 = .ok (.ireturn, 1) := by decide +kernel
theorem dX0_next_0 : decode cX0_next 0 = .ok (.iload_n 1, 1) := by decide +kernel
theorem dX0_next_1 : decode cX0_next 1 = .ok (.iconst 1, 1) := by decide +kernel
theorem dX0_next_2 : decode cX0_next 2 = .ok (.iadd, 1) := by decide +kernel
theorem dX0_next_3 : decode cX0_next 3 = .ok (.aload_n 0, 1) := by decide +kernel
theorem dX0_next_4 : decode cX0_next 4 = .ok (.getfield 28, 3) := by decide +kernel
theorem dX0_next_7 : decode cX0_next 7 = .ok (.if_icmp .ge 9, 3) := by decide +kernel
theorem dX0_next_10 : decode cX0_next 10 = .ok (.iload_n 1, 1) := by decide +kernel
theorem dX0_next_11 : decode cX0_next 11 = .ok (.iconst 1, 1) := by decide +kernel
theorem dX0_next_12 : decode cX0_next 12 = .ok (.iadd, 1) := by decide +kernel
theorem dX0_next_13 : decode cX0_next 13 = .ok (.goto 4, 3) := by decide +kernel
theorem dX0_next_16 : decode cX0_next 16 = .ok (.iconst 0, 1) := by decide +kernel
theorem dX0_next_17 : decode cX0_next 17 = .ok (.ireturn, 1) := by decide +kernel
theorem dX0_previous_0 : decode cX0_previous 0 = .ok (.iload_n 1, 1) := by decide +kernel
theorem dX0_previous_1 : decode cX0_previous 1 = .ok (.ifCond .le 9, 3) := by decide +kernel
theorem dX0_previous_4 : decode cX0_previous 4 = .ok (.iload_n 1, 1) := by decide +kernel
theorem dX0_previous_5 : decode cX0_previous 5 = .ok (.iconst 1, 1) := by decide +kernel
theorem dX0_previous_6 : decode cX0_previous 6 = .ok (.isub, 1) := by decide +kernel
theorem dX0_previous_7 : decode cX0_previous 7 = .ok (.goto 9, 3) := by decide +kernel
theorem dX0_previous_10 : decode cX0_previous 10 = .ok (.aload_n 0, 1) := by decide +kernel
theorem dX0_previous_11 : decode cX0_previous 11 = .ok (.getfield 28, 3) := by decide +kernel
theorem dX0_previous_14 : decode cX0_previous 14 = .ok (.iconst 1, 1) := by decide +kernel
theorem dX0_previous_15 : decode cX0_previous 15 = .ok (.isub, 1) := by decide +kernel
theorem dX0_previous_16 : decode cX0_previous 16 = .ok (.ireturn, 1) := by decide +kernel
set_option maxRecDepth 20000 in
theorem ggX0_isFault_X0_next : GoodIn wsX0_isFault wsX0_next := goodIn_r _ [6, 7, 22, 23, 24] (by decide +kernel) (by decide +kernel)
set_option maxRecDepth 20000 in
theorem gX0_isFault_X0_next : GoodIn wsX0_isFault (wsV RX0 41 RX0 yX0_next wsX0_next) := goodIn_app (goodIn_of _ (by decide +kernel)) ggX0_isFault_X0_next
set_option maxRecDepth 20000 in
theorem ggX0_isFault_X1_mayFollow : GoodIn wsX0_isFault wsX1_mayFollow := goodIn_r _ [12, 13, 14, 15, 16, 11, 17, 18, 19, 20, 21, 25, 26, 27, 28, 29, 30] (by decide +kernel) (by decide +kernel)
set_option maxRecDepth 20000 in
theorem gX0_isFault_X1_mayFollow : GoodIn wsX0_isFault (wsV RX0 45 RX1 yX1_mayFollow wsX1_mayFollow) := goodIn_app (goodIn_of _ (by decide +kernel)) ggX0_isFault_X1_mayFollow
theorem dX0_isFault_0 : decode cX0_isFault 0 = .ok (.aload_n 2, 1) := by decide +kernel
theorem dX0_isFault_1 : decode cX0_isFault 1 = .ok (.aload_n 0, 1) := by decide +kernel
theorem dX0_isFault_2 : decode cX0_isFault 2 = .ok (.getfield 9, 3) := by decide +kernel
theorem dX0_isFault_5 : decode cX0_isFault 5 = .ok (.iload_n 1, 1) := by decide +kernel
theorem dX0_isFault_6 : decode cX0_isFault 6 = .ok (.iaload, 1) := by decide +kernel
theorem dX0_isFault_7 : decode cX0_isFault 7 = .ok (.aload_n 0, 1) := by decide +kernel
theorem dX0_isFault_8 : decode cX0_isFault 8 = .ok (.getfield 9, 3) := by decide +kernel
theorem dX0_isFault_11 : decode cX0_isFault 11 = .ok (.aload_n 0, 1) := by decide +kernel
theorem dX0_isFault_12 : decode cX0_isFault 12 = .ok (.iload_n 1, 1) := by decide +kernel
theorem dX0_isFault_13 : decode cX0_isFault 13 = .ok (.invokevirtual 41, 3) := by decide +kernel
theorem dX0_isFault_16 : decode cX0_isFault 16 = .ok (.iaload, 1) := by decide +kernel
theorem dX0_isFault_17 : decode cX0_isFault 17 = .ok (.invokevirtual 45, 3) := by decide +kernel
theorem dX0_isFault_20 : decode cX0_isFault 20 = .ok (.ifCond .ne 7, 3) := by decide +kernel
theorem dX0_isFault_23 : decode cX0_isFault 23 = .ok (.iconst 1, 1) := by decide +kernel
theorem dX0_isFault_24 : decode cX0_isFault 24 = .ok (.goto 4, 3) := by decide +kernel
theorem dX0_isFault_27 : decode cX0_isFault 27 = .ok (.iconst 0, 1) := by decide +kernel
theorem dX0_isFault_28 : decode cX0_isFault 28 = .ok (.ireturn, 1) := by decide +kernel
set_option maxRecDepth 20000 in
theorem ggX0_faultFrom_X0_isFault : GoodIn wsX0_faultFrom wsX0_isFault := goodIn_r _ [6, 7, 8, 9, 10, 5, 11, 1, 12, 13, 14, 15, 16, 17, 18, 19, 20, 21, 22, 23, 24, 25, 26, 27, 28, 29, 30, 31, 32, 33, 34] (by decide +kernel) (by decide +kernel)
set_option maxRecDepth 20000 in
theorem gX0_faultFrom_X0_isFault : GoodIn wsX0_faultFrom (wsV RX0 51 RX0 yX0_isFault wsX0_isFault) := goodIn_app (goodIn_of _ (by decide +kernel)) ggX0_faultFrom_X0_isFault
set_option maxRecDepth 20000 in
theorem ggX0_faultFrom_X0_next : GoodIn wsX0_faultFrom wsX0_next := goodIn_r _ [11, 1, 26, 27, 28] (by decide +kernel) (by decide +kernel)
set_option maxRecDepth 20000 in
theorem gX0_faultFrom_X0_next : GoodIn wsX0_faultFrom (wsV RX0 41 RX0 yX0_next wsX0_next) := goodIn_app (goodIn_of _ (by decide +kernel)) ggX0_faultFrom_X0_next
theorem dX0_faultFrom_0 : decode cX0_faultFrom 0 = .ok (.iload_n 1, 1) := by decide +kernel
theorem dX0_faultFrom_1 : decode cX0_faultFrom 1 = .ok (.istore_n 3, 1) := by decide +kernel
theorem dX0_faultFrom_2 : decode cX0_faultFrom 2 = .ok (.iconst 0, 1) := by decide +kernel
theorem dX0_faultFrom_3 : decode cX0_faultFrom 3 = .ok (.istore 4, 2) := by decide +kernel
theorem dX0_faultFrom_5 : decode cX0_faultFrom 5 = .ok (.iload 4, 2) := by decide +kernel
theorem dX0_faultFrom_7 : decode cX0_faultFrom 7 = .ok (.aload_n 0, 1) := by decide +kernel
theorem dX0_faultFrom_8 : decode cX0_faultFrom 8 = .ok (.getfield 28, 3) := by decide +kernel
theorem dX0_faultFrom_11 : decode cX0_faultFrom 11 = .ok (.if_icmp .ge 26, 3) := by decide +kernel
theorem dX0_faultFrom_14 : decode cX0_faultFrom 14 = .ok (.aload_n 0, 1) := by decide +kernel
theorem dX0_faultFrom_15 : decode cX0_faultFrom 15 = .ok (.iload_n 3, 1) := by decide +kernel
theorem dX0_faultFrom_16 : decode cX0_faultFrom 16 = .ok (.aload_n 2, 1) := by decide +kernel
theorem dX0_faultFrom_17 : decode cX0_faultFrom 17 = .ok (.invokevirtual 51, 3) := by decide +kernel
theorem dX0_faultFrom_20 : decode cX0_faultFrom 20 = .ok (.ifCond .eq 5, 3) := by decide +kernel
theorem dX0_faultFrom_23 : decode cX0_faultFrom 23 = .ok (.iload_n 3, 1) := by decide +kernel
theorem dX0_faultFrom_24 : decode cX0_faultFrom 24 = .ok (.ireturn, 1) := by decide +kernel
theorem dX0_faultFrom_25 : decode cX0_faultFrom 25 = .ok (.aload_n 0, 1) := by decide +kernel
theorem dX0_faultFrom_26 : decode cX0_faultFrom 26 = .ok (.iload_n 3, 1) := by decide +kernel
theorem dX0_faultFrom_27 : decode cX0_faultFrom 27 = .ok (.invokevirtual 41, 3) := by decide +kernel
theorem dX0_faultFrom_30 : decode cX0_faultFrom 30 = .ok (.istore_n 3, 1) := by decide +kernel
theorem dX0_faultFrom_31 : decode cX0_faultFrom 31 = .ok (.iinc 4 1, 3) := by decide +kernel
theorem dX0_faultFrom_34 : decode cX0_faultFrom 34 = .ok (.goto (-29), 3) := by decide +kernel
theorem dX0_faultFrom_37 : decode cX0_faultFrom 37 = .ok (.bipush (-9), 2) := by decide +kernel
theorem dX0_faultFrom_39 : decode cX0_faultFrom 39 = .ok (.ireturn, 1) := by decide +kernel
set_option maxRecDepth 20000 in
theorem ggX0_mendAround_X0_mendStretch : GoodIn wsX0_mendAround wsX0_mendStretch := goodIn_r _ [6, 1, 7, 8, 9, 10, 11, 12, 13, 14, 15, 16, 17, 18, 19, 20, 21, 22, 23, 24, 25, 26, 27, 28, 29, 30, 31, 32, 33, 34, 35, 36, 37, 5, 38, 39, 40, 41, 42, 43, 44, 45, 46, 47, 48, 49, 50, 51, 52, 53, 54, 55, 56, 57] (by decide +kernel) (by decide +kernel)
set_option maxRecDepth 20000 in
theorem gX0_mendAround_X0_mendStretch : GoodIn wsX0_mendAround (wsV RX0 55 RX0 yX0_mendStretch wsX0_mendStretch) := goodIn_app (goodIn_of _ (by decide +kernel)) ggX0_mendAround_X0_mendStretch
set_option maxRecDepth 20000 in
theorem ggX0_mendAround_X0_previous : GoodIn wsX0_mendAround wsX0_previous := goodIn_r _ [38, 1, 49, 50, 51] (by decide +kernel) (by decide +kernel)
set_option maxRecDepth 20000 in
theorem gX0_mendAround_X0_previous : GoodIn wsX0_mendAround (wsV RX0 59 RX0 yX0_previous wsX0_previous) := goodIn_app (goodIn_of _ (by decide +kernel)) ggX0_mendAround_X0_previous
set_option maxRecDepth 20000 in
theorem ggX0_mendAround_X0_next : GoodIn wsX0_mendAround wsX0_next := goodIn_r _ [42, 1, 49, 50, 51] (by decide +kernel) (by decide +kernel)
set_option maxRecDepth 20000 in
theorem gX0_mendAround_X0_next : GoodIn wsX0_mendAround (wsV RX0 41 RX0 yX0_next wsX0_next) := goodIn_app (goodIn_of _ (by decide +kernel)) ggX0_mendAround_X0_next
theorem dX0_mendAround_0 : decode cX0_mendAround 0 = .ok (.iload_n 1, 1) := by decide +kernel
theorem dX0_mendAround_1 : decode cX0_mendAround 1 = .ok (.istore_n 3, 1) := by decide +kernel
theorem dX0_mendAround_2 : decode cX0_mendAround 2 = .ok (.iload_n 1, 1) := by decide +kernel
theorem dX0_mendAround_3 : decode cX0_mendAround 3 = .ok (.istore 4, 2) := by decide +kernel
theorem dX0_mendAround_5 : decode cX0_mendAround 5 = .ok (.iconst 0, 1) := by decide +kernel
theorem dX0_mendAround_6 : decode cX0_mendAround 6 = .ok (.istore 5, 2) := by decide +kernel
theorem dX0_mendAround_8 : decode cX0_mendAround 8 = .ok (.iconst 2, 1) := by decide +kernel
theorem dX0_mendAround_9 : decode cX0_mendAround 9 = .ok (.iload 5, 2) := by decide +kernel
theorem dX0_mendAround_11 : decode cX0_mendAround 11 = .ok (.imul, 1) := by decide +kernel
theorem dX0_mendAround_12 : decode cX0_mendAround 12 = .ok (.iconst 1, 1) := by decide +kernel
theorem dX0_mendAround_13 : decode cX0_mendAround 13 = .ok (.iadd, 1) := by decide +kernel
theorem dX0_mendAround_14 : decode cX0_mendAround 14 = .ok (.aload_n 0, 1) := by decide +kernel
theorem dX0_mendAround_15 : decode cX0_mendAround 15 = .ok (.getfield 28, 3) := by decide +kernel
theorem dX0_mendAround_18 : decode cX0_mendAround 18 = .ok (.if_icmp .gt 43, 3) := by decide +kernel
theorem dX0_mendAround_21 : decode cX0_mendAround 21 = .ok (.aload_n 0, 1) := by decide +kernel
theorem dX0_mendAround_22 : decode cX0_mendAround 22 = .ok (.iload_n 3, 1) := by decide +kernel
theorem dX0_mendAround_23 : decode cX0_mendAround 23 = .ok (.iload 4, 2) := by decide +kernel
theorem dX0_mendAround_25 : decode cX0_mendAround 25 = .ok (.iconst 2, 1) := by decide +kernel
theorem dX0_mendAround_26 : decode cX0_mendAround 26 = .ok (.iload 5, 2) := by decide +kernel
theorem dX0_mendAround_28 : decode cX0_mendAround 28 = .ok (.imul, 1) := by decide +kernel
theorem dX0_mendAround_29 : decode cX0_mendAround 29 = .ok (.iconst 1, 1) := by decide +kernel
theorem dX0_mendAround_30 : decode cX0_mendAround 30 = .ok (.iadd, 1) := by decide +kernel
theorem dX0_mendAround_31 : decode cX0_mendAround 31 = .ok (.aload_n 2, 1) := by decide +kernel
theorem dX0_mendAround_32 : decode cX0_mendAround 32 = .ok (.invokevirtual 55, 3) := by decide +kernel
theorem dX0_mendAround_35 : decode cX0_mendAround 35 = .ok (.ifCond .eq 6, 3) := by decide +kernel
theorem dX0_mendAround_38 : decode cX0_mendAround 38 = .ok (.iload 5, 2) := by decide +kernel
theorem dX0_mendAround_40 : decode cX0_mendAround 40 = .ok (.ireturn, 1) := by decide +kernel
theorem dX0_mendAround_41 : decode cX0_mendAround 41 = .ok (.aload_n 0, 1) := by decide +kernel
theorem dX0_mendAround_42 : decode cX0_mendAround 42 = .ok (.iload_n 3, 1) := by decide +kernel
theorem dX0_mendAround_43 : decode cX0_mendAround 43 = .ok (.invokevirtual 59, 3) := by decide +kernel
theorem dX0_mendAround_46 : decode cX0_mendAround 46 = .ok (.istore_n 3, 1) := by decide +kernel
theorem dX0_mendAround_47 : decode cX0_mendAround 47 = .ok (.aload_n 0, 1) := by decide +kernel
theorem dX0_mendAround_48 : decode cX0_mendAround 48 = .ok (.iload 4, 2) := by decide +kernel
theorem dX0_mendAround_50 : decode cX0_mendAround 50 = .ok (.invokevirtual 41, 3) := by decide +kernel
theorem dX0_mendAround_53 : decode cX0_mendAround 53 = .ok (.istore 4, 2) := by decide +kernel
theorem dX0_mendAround_55 : decode cX0_mendAround 55 = .ok (.iinc 5 1, 3) := by decide +kernel
theorem dX0_mendAround_58 : decode cX0_mendAround 58 = .ok (.goto (-50), 3) := by decide +kernel
theorem dX0_mendAround_61 : decode cX0_mendAround 61 = .ok (.bipush (-9), 2) := by decide +kernel
theorem dX0_mendAround_63 : decode cX0_mendAround 63 = .ok (.ireturn, 1) := by decide +kernel
set_option maxRecDepth 20000 in
theorem ggX0_mendStretch_X1_findRing : GoodIn wsX0_mendStretch wsX1_findRing := goodIn_r _ [7, 8, 9, 10, 11, 6, 12, 13, 14, 15, 16, 17, 18, 19, 20, 21, 22, 23, 24, 25, 26, 27, 28, 29, 48, 49, 50, 51, 52, 53] (by decide +kernel) (by decide +kernel)
set_option maxRecDepth 20000 in
theorem gX0_mendStretch_X1_findRing : GoodIn wsX0_mendStretch (wsV RX0 62 RX1 yX1_findRing wsX1_findRing) := goodIn_app (goodIn_of _ (by decide +kernel)) ggX0_mendStretch_X1_findRing
set_option maxRecDepth 20000 in
theorem ggX0_mendStretch_X0_previous : GoodIn wsX0_mendStretch wsX0_previous := goodIn_r _ [34, 1, 45, 46, 47] (by decide +kernel) (by decide +kernel)
set_option maxRecDepth 20000 in
theorem gX0_mendStretch_X0_previous : GoodIn wsX0_mendStretch (wsV RX0 59 RX0 yX0_previous wsX0_previous) := goodIn_app (goodIn_of _ (by decide +kernel)) ggX0_mendStretch_X0_previous
set_option maxRecDepth 20000 in
theorem ggX0_mendStretch_X0_next : GoodIn wsX0_mendStretch wsX0_next := goodIn_r _ [38, 1, 45, 46, 47] (by decide +kernel) (by decide +kernel)
set_option maxRecDepth 20000 in
theorem gX0_mendStretch_X0_next : GoodIn wsX0_mendStretch (wsV RX0 41 RX0 yX0_next wsX0_next) := goodIn_app (goodIn_of _ (by decide +kernel)) ggX0_mendStretch_X0_next
set_option maxRecDepth 20000 in
theorem ggX0_mendStretch_X1_findWalk : GoodIn wsX0_mendStretch wsX1_findWalk := goodIn_r _ [12, 13, 14, 15, 16, 17, 18, 6, 19, 8, 20, 21, 22, 23, 24, 25, 26, 27, 28, 29, 48, 49, 50, 51, 52, 53] (by decide +kernel) (by decide +kernel)
set_option maxRecDepth 20000 in
theorem gX0_mendStretch_X1_findWalk : GoodIn wsX0_mendStretch (wsV RX0 66 RX1 yX1_findWalk wsX1_findWalk) := goodIn_app (goodIn_of _ (by decide +kernel)) ggX0_mendStretch_X1_findWalk
set_option maxRecDepth 20000 in
theorem ggX0_mendStretch_X0_putWalk : GoodIn wsX0_mendStretch wsX0_putWalk := goodIn_r _ [43, 44, 2, 35, 36, 37, 33, 38, 1, 48, 49, 50, 51, 52, 53, 45, 46, 47] (by decide +kernel) (by decide +kernel)
set_option maxRecDepth 20000 in
theorem gX0_mendStretch_X0_putWalk : GoodIn wsX0_mendStretch (wsV RX0 70 RX0 yX0_putWalk wsX0_putWalk) := goodIn_app (goodIn_of _ (by decide +kernel)) ggX0_mendStretch_X0_putWalk
theorem dX0_mendStretch_0 : decode cX0_mendStretch 0 = .ok (.iload_n 3, 1) := by decide +kernel
theorem dX0_mendStretch_1 : decode cX0_mendStretch 1 = .ok (.aload_n 0, 1) := by decide +kernel
theorem dX0_mendStretch_2 : decode cX0_mendStretch 2 = .ok (.getfield 28, 3) := by decide +kernel
theorem dX0_mendStretch_5 : decode cX0_mendStretch 5 = .ok (.if_icmp .ne 7, 3) := by decide +kernel
theorem dX0_mendStretch_8 : decode cX0_mendStretch 8 = .ok (.iconst 1, 1) := by decide +kernel
theorem dX0_mendStretch_9 : decode cX0_mendStretch 9 = .ok (.goto 4, 3) := by decide +kernel
theorem dX0_mendStretch_12 : decode cX0_mendStretch 12 = .ok (.iconst 0, 1) := by decide +kernel
theorem dX0_mendStretch_13 : decode cX0_mendStretch 13 = .ok (.istore 5, 2) := by decide +kernel
theorem dX0_mendStretch_15 : decode cX0_mendStretch 15 = .ok (.iload 5, 2) := by decide +kernel
theorem dX0_mendStretch_17 : decode cX0_mendStretch 17 = .ok (.ifCond .eq 12, 3) := by decide +kernel
theorem dX0_mendStretch_20 : decode cX0_mendStretch 20 = .ok (.aload 4, 2) := by decide +kernel
theorem dX0_mendStretch_22 : decode cX0_mendStretch 22 = .ok (.iload_n 3, 1) := by decide +kernel
theorem dX0_mendStretch_23 : decode cX0_mendStretch 23 = .ok (.invokevirtual 62, 3) := by decide +kernel
theorem dX0_mendStretch_26 : decode cX0_mendStretch 26 = .ok (.goto 31, 3) := by decide +kernel
theorem dX0_mendStretch_29 : decode cX0_mendStretch 29 = .ok (.aload 4, 2) := by decide +kernel
theorem dX0_mendStretch_31 : decode cX0_mendStretch 31 = .ok (.aload_n 0, 1) := by decide +kernel
theorem dX0_mendStretch_32 : decode cX0_mendStretch 32 = .ok (.getfield 9, 3) := by decide +kernel
theorem dX0_mendStretch_35 : decode cX0_mendStretch 35 = .ok (.aload_n 0, 1) := by decide +kernel
theorem dX0_mendStretch_36 : decode cX0_mendStretch 36 = .ok (.iload_n 1, 1) := by decide +kernel
theorem dX0_mendStretch_37 : decode cX0_mendStretch 37 = .ok (.invokevirtual 59, 3) := by decide +kernel
theorem dX0_mendStretch_40 : decode cX0_mendStretch 40 = .ok (.iaload, 1) := by decide +kernel
theorem dX0_mendStretch_41 : decode cX0_mendStretch 41 = .ok (.aload_n 0, 1) := by decide +kernel
theorem dX0_mendStretch_42 : decode cX0_mendStretch 42 = .ok (.getfield 9, 3) := by decide +kernel
theorem dX0_mendStretch_45 : decode cX0_mendStretch 45 = .ok (.aload_n 0, 1) := by decide +kernel
theorem dX0_mendStretch_46 : decode cX0_mendStretch 46 = .ok (.iload_n 2, 1) := by decide +kernel
theorem dX0_mendStretch_47 : decode cX0_mendStretch 47 = .ok (.invokevirtual 41, 3) := by decide +kernel
theorem dX0_mendStretch_50 : decode cX0_mendStretch 50 = .ok (.iaload, 1) := by decide +kernel
theorem dX0_mendStretch_51 : decode cX0_mendStretch 51 = .ok (.iload_n 3, 1) := by decide +kernel
theorem dX0_mendStretch_52 : decode cX0_mendStretch 52 = .ok (.iconst 1, 1) := by decide +kernel
theorem dX0_mendStretch_53 : decode cX0_mendStretch 53 = .ok (.iadd, 1) := by decide +kernel
theorem dX0_mendStretch_54 : decode cX0_mendStretch 54 = .ok (.invokevirtual 66, 3) := by decide +kernel
theorem dX0_mendStretch_57 : decode cX0_mendStretch 57 = .ok (.istore 6, 2) := by decide +kernel
theorem dX0_mendStretch_59 : decode cX0_mendStretch 59 = .ok (.iload 6, 2) := by decide +kernel
theorem dX0_mendStretch_61 : decode cX0_mendStretch 61 = .ok (.ifCond .eq 21, 3) := by decide +kernel
theorem dX0_mendStretch_64 : decode cX0_mendStretch 64 = .ok (.aload_n 0, 1) := by decide +kernel
theorem dX0_mendStretch_65 : decode cX0_mendStretch 65 = .ok (.iload_n 1, 1) := by decide +kernel
theorem dX0_mendStretch_66 : decode cX0_mendStretch 66 = .ok (.iload_n 3, 1) := by decide +kernel
theorem dX0_mendStretch_67 : decode cX0_mendStretch 67 = .ok (.aload 4, 2) := by decide +kernel
theorem dX0_mendStretch_69 : decode cX0_mendStretch 69 = .ok (.iload 5, 2) := by decide +kernel
theorem dX0_mendStretch_71 : decode cX0_mendStretch 71 = .ok (.ifCond .eq 7, 3) := by decide +kernel
theorem dX0_mendStretch_74 : decode cX0_mendStretch 74 = .ok (.iconst 0, 1) := by decide +kernel
theorem dX0_mendStretch_75 : decode cX0_mendStretch 75 = .ok (.goto 4, 3) := by decide +kernel
theorem dX0_mendStretch_78 : decode cX0_mendStretch 78 = .ok (.iconst 1, 1) := by decide +kernel
theorem dX0_mendStretch_79 : decode cX0_mendStretch 79 = .ok (.invokevirtual 70, 3) := by decide +kernel
theorem dX0_mendStretch_82 : decode cX0_mendStretch 82 = .ok (.iload 6, 2) := by decide +kernel
theorem dX0_mendStretch_84 : decode cX0_mendStretch 84 = .ok (.ireturn, 1) := by decide +kernel
set_option maxRecDepth 20000 in
theorem ggX0_putWalk_X0_next : GoodIn wsX0_putWalk wsX0_next := goodIn_r _ [7, 8, 15, 16, 17] (by decide +kernel) (by decide +kernel)
set_option maxRecDepth 20000 in
theorem gX0_putWalk_X0_next : GoodIn wsX0_putWalk (wsV RX0 41 RX0 yX0_next wsX0_next) := goodIn_app (goodIn_of _ (by decide +kernel)) ggX0_putWalk_X0_next
theorem dX0_putWalk_0 : decode cX0_putWalk 0 = .ok (.iload_n 1, 1) := by decide +kernel
theorem dX0_putWalk_1 : decode cX0_putWalk 1 = .ok (.istore 5, 2) := by decide +kernel
theorem dX0_putWalk_3 : decode cX0_putWalk 3 = .ok (.iload 4, 2) := by decide +kernel
theorem dX0_putWalk_5 : decode cX0_putWalk 5 = .ok (.istore 6, 2) := by decide +kernel
theorem dX0_putWalk_7 : decode cX0_putWalk 7 = .ok (.iload 6, 2) := by decide +kernel
theorem dX0_putWalk_9 : decode cX0_putWalk 9 = .ok (.iload 4, 2) := by decide +kernel
theorem dX0_putWalk_11 : decode cX0_putWalk 11 = .ok (.iload_n 2, 1) := by decide +kernel
theorem dX0_putWalk_12 : decode cX0_putWalk 12 = .ok (.iadd, 1) := by decide +kernel
theorem dX0_putWalk_13 : decode cX0_putWalk 13 = .ok (.if_icmp .ge 41, 3) := by decide +kernel
theorem dX0_putWalk_16 : decode cX0_putWalk 16 = .ok (.iload 6, 2) := by decide +kernel
theorem dX0_putWalk_18 : decode cX0_putWalk 18 = .ok (.aload_n 3, 1) := by decide +kernel
theorem dX0_putWalk_19 : decode cX0_putWalk 19 = .ok (.getfield 74, 3) := by decide +kernel
theorem dX0_putWalk_22 : decode cX0_putWalk 22 = .ok (.arraylength, 1) := by decide +kernel
theorem dX0_putWalk_23 : decode cX0_putWalk 23 = .ok (.if_icmp .ge 31, 3) := by decide +kernel
theorem dX0_putWalk_26 : decode cX0_putWalk 26 = .ok (.aload_n 0, 1) := by decide +kernel
theorem dX0_putWalk_27 : decode cX0_putWalk 27 = .ok (.getfield 9, 3) := by decide +kernel
theorem dX0_putWalk_30 : decode cX0_putWalk 30 = .ok (.iload 5, 2) := by decide +kernel
theorem dX0_putWalk_32 : decode cX0_putWalk 32 = .ok (.aload_n 3, 1) := by decide +kernel
theorem dX0_putWalk_33 : decode cX0_putWalk 33 = .ok (.getfield 74, 3) := by decide +kernel
theorem dX0_putWalk_36 : decode cX0_putWalk 36 = .ok (.iload 6, 2) := by decide +kernel
theorem dX0_putWalk_38 : decode cX0_putWalk 38 = .ok (.iaload, 1) := by decide +kernel
theorem dX0_putWalk_39 : decode cX0_putWalk 39 = .ok (.iastore, 1) := by decide +kernel
theorem dX0_putWalk_40 : decode cX0_putWalk 40 = .ok (.aload_n 0, 1) := by decide +kernel
theorem dX0_putWalk_41 : decode cX0_putWalk 41 = .ok (.iload 5, 2) := by decide +kernel
theorem dX0_putWalk_43 : decode cX0_putWalk 43 = .ok (.invokevirtual 41, 3) := by decide +kernel
theorem dX0_putWalk_46 : decode cX0_putWalk 46 = .ok (.istore 5, 2) := by decide +kernel
theorem dX0_putWalk_48 : decode cX0_putWalk 48 = .ok (.iinc 6 1, 3) := by decide +kernel
theorem dX0_putWalk_51 : decode cX0_putWalk 51 = .ok (.goto (-44), 3) := by decide +kernel
theorem dX0_putWalk_54 : decode cX0_putWalk 54 = .ok (.return_, 1) := by decide +kernel
set_option maxRecDepth 20000 in
theorem ggX0_likeNeighbours_X0_next : GoodIn wsX0_likeNeighbours wsX0_next := goodIn_r _ [7, 1, 8, 9, 10] (by decide +kernel) (by decide +kernel)
set_option maxRecDepth 20000 in
theorem gX0_likeNeighbours_X0_next : GoodIn wsX0_likeNeighbours (wsV RX0 41 RX0 yX0_next wsX0_next) := goodIn_app (goodIn_of _ (by decide +kernel)) ggX0_likeNeighbours_X0_next
theorem dX0_likeNeighbours_0 : decode cX0_likeNeighbours 0 = .ok (.iconst 0, 1) := by decide +kernel
theorem dX0_likeNeighbours_1 : decode cX0_likeNeighbours 1 = .ok (.istore_n 1, 1) := by decide +kernel
theorem dX0_likeNeighbours_2 : decode cX0_likeNeighbours 2 = .ok (.iconst 0, 1) := by decide +kernel
theorem dX0_likeNeighbours_3 : decode cX0_likeNeighbours 3 = .ok (.istore_n 2, 1) := by decide +kernel
theorem dX0_likeNeighbours_4 : decode cX0_likeNeighbours 4 = .ok (.iload_n 2, 1) := by decide +kernel
theorem dX0_likeNeighbours_5 : decode cX0_likeNeighbours 5 = .ok (.aload_n 0, 1) := by decide +kernel
theorem dX0_likeNeighbours_6 : decode cX0_likeNeighbours 6 = .ok (.getfield 28, 3) := by decide +kernel
theorem dX0_likeNeighbours_9 : decode cX0_likeNeighbours 9 = .ok (.if_icmp .ge 31, 3) := by decide +kernel
theorem dX0_likeNeighbours_12 : decode cX0_likeNeighbours 12 = .ok (.aload_n 0, 1) := by decide +kernel
theorem dX0_likeNeighbours_13 : decode cX0_likeNeighbours 13 = .ok (.getfield 15, 3) := by decide +kernel
theorem dX0_likeNeighbours_16 : decode cX0_likeNeighbours 16 = .ok (.iload_n 2, 1) := by decide +kernel
theorem dX0_likeNeighbours_17 : decode cX0_likeNeighbours 17 = .ok (.iaload, 1) := by decide +kernel
theorem dX0_likeNeighbours_18 : decode cX0_likeNeighbours 18 = .ok (.aload_n 0, 1) := by decide +kernel
theorem dX0_likeNeighbours_19 : decode cX0_likeNeighbours 19 = .ok (.getfield 15, 3) := by decide +kernel
theorem dX0_likeNeighbours_22 : decode cX0_likeNeighbours 22 = .ok (.aload_n 0, 1) := by decide +kernel
theorem dX0_likeNeighbours_23 : decode cX0_likeNeighbours 23 = .ok (.iload_n 2, 1) := by decide +kernel
theorem dX0_likeNeighbours_24 : decode cX0_likeNeighbours 24 = .ok (.invokevirtual 41, 3) := by decide +kernel
theorem dX0_likeNeighbours_27 : decode cX0_likeNeighbours 27 = .ok (.iaload, 1) := by decide +kernel
theorem dX0_likeNeighbours_28 : decode cX0_likeNeighbours 28 = .ok (.if_icmp .ne 6, 3) := by decide +kernel
theorem dX0_likeNeighbours_31 : decode cX0_likeNeighbours 31 = .ok (.iinc 1 1, 3) := by decide +kernel
theorem dX0_likeNeighbours_34 : decode cX0_likeNeighbours 34 = .ok (.iinc 2 1, 3) := by decide +kernel
theorem dX0_likeNeighbours_37 : decode cX0_likeNeighbours 37 = .ok (.goto (-33), 3) := by decide +kernel
theorem dX0_likeNeighbours_40 : decode cX0_likeNeighbours 40 = .ok (.iload_n 1, 1) := by decide +kernel
theorem dX0_likeNeighbours_41 : decode cX0_likeNeighbours 41 = .ok (.ireturn, 1) := by decide +kernel
theorem dX0_greatestNumber_0 : decode cX0_greatestNumber 0 = .ok (.iconst 0, 1) := by decide +kernel
theorem dX0_greatestNumber_1 : decode cX0_greatestNumber 1 = .ok (.istore_n 1, 1) := by decide +kernel
theorem dX0_greatestNumber_2 : decode cX0_greatestNumber 2 = .ok (.iconst 0, 1) := by decide +kernel
theorem dX0_greatestNumber_3 : decode cX0_greatestNumber 3 = .ok (.istore_n 2, 1) := by decide +kernel
theorem dX0_greatestNumber_4 : decode cX0_greatestNumber 4 = .ok (.iload_n 2, 1) := by decide +kernel
theorem dX0_greatestNumber_5 : decode cX0_greatestNumber 5 = .ok (.aload_n 0, 1) := by decide +kernel
theorem dX0_greatestNumber_6 : decode cX0_greatestNumber 6 = .ok (.getfield 28, 3) := by decide +kernel
theorem dX0_greatestNumber_9 : decode cX0_greatestNumber 9 = .ok (.if_icmp .ge 20, 3) := by decide +kernel
theorem dX0_greatestNumber_12 : decode cX0_greatestNumber 12 = .ok (.iload_n 1, 1) := by decide +kernel
theorem dX0_greatestNumber_13 : decode cX0_greatestNumber 13 = .ok (.aload_n 0, 1) := by decide +kernel
theorem dX0_greatestNumber_14 : decode cX0_greatestNumber 14 = .ok (.getfield 15, 3) := by decide +kernel
theorem dX0_greatestNumber_17 : decode cX0_greatestNumber 17 = .ok (.iload_n 2, 1) := by decide +kernel
theorem dX0_greatestNumber_18 : decode cX0_greatestNumber 18 = .ok (.iaload, 1) := by decide +kernel
theorem dX0_greatestNumber_19 : decode cX0_greatestNumber 19 = .ok (.invokestatic 77, 3) := by decide +kernel
theorem dX0_greatestNumber_22 : decode cX0_greatestNumber 22 = .ok (.istore_n 1, 1) := by decide +kernel
theorem dX0_greatestNumber_23 : decode cX0_greatestNumber 23 = .ok (.iinc 2 1, 3) := by decide +kernel
theorem dX0_greatestNumber_26 : decode cX0_greatestNumber 26 = .ok (.goto (-22), 3) := by decide +kernel
theorem dX0_greatestNumber_29 : decode cX0_greatestNumber 29 = .ok (.iload_n 1, 1) := by decide +kernel
theorem dX0_greatestNumber_30 : decode cX0_greatestNumber 30 = .ok (.ireturn, 1) := by decide +kernel
set_option maxRecDepth 20000 in
theorem ggX0_doRound_X0_shortened : GoodIn wsX0_doRound wsX0_shortened := goodIn_r _ [6, 7, 8, 9, 10, 11, 12, 13] (by decide +kernel) (by decide +kernel)
set_option maxRecDepth 20000 in
theorem gX0_doRound_X0_shortened : GoodIn wsX0_doRound (va_wsS RX0 80 yX0_shortened wsX0_shortened) := goodIn_app (goodIn_of _ (by decide +kernel)) ggX0_doRound_X0_shortened
theorem dX0_doRound_0 : decode cX0_doRound 0 = .ok (.aload_n 0, 1) := by decide +kernel
theorem dX0_doRound_1 : decode cX0_doRound 1 = .ok (.getfield 15, 3) := by decide +kernel
theorem dX0_doRound_4 : decode cX0_doRound 4 = .ok (.iconst 0, 1) := by decide +kernel
theorem dX0_doRound_5 : decode cX0_doRound 5 = .ok (.iaload, 1) := by decide +kernel
theorem dX0_doRound_6 : decode cX0_doRound 6 = .ok (.istore_n 1, 1) := by decide +kernel
theorem dX0_doRound_7 : decode cX0_doRound 7 = .ok (.iconst 0, 1) := by decide +kernel
theorem dX0_doRound_8 : decode cX0_doRound 8 = .ok (.istore_n 2, 1) := by decide +kernel
theorem dX0_doRound_9 : decode cX0_doRound 9 = .ok (.iload_n 2, 1) := by decide +kernel
theorem dX0_doRound_10 : decode cX0_doRound 10 = .ok (.aload_n 0, 1) := by decide +kernel
theorem dX0_doRound_11 : decode cX0_doRound 11 = .ok (.getfield 28, 3) := by decide +kernel
theorem dX0_doRound_14 : decode cX0_doRound 14 = .ok (.if_icmp .ge 48, 3) := by decide +kernel
theorem dX0_doRound_17 : decode cX0_doRound 17 = .ok (.iload_n 2, 1) := by decide +kernel
theorem dX0_doRound_18 : decode cX0_doRound 18 = .ok (.iconst 1, 1) := by decide +kernel
theorem dX0_doRound_19 : decode cX0_doRound 19 = .ok (.iadd, 1) := by decide +kernel
theorem dX0_doRound_20 : decode cX0_doRound 20 = .ok (.aload_n 0, 1) := by decide +kernel
theorem dX0_doRound_21 : decode cX0_doRound 21 = .ok (.getfield 28, 3) := by decide +kernel
theorem dX0_doRound_24 : decode cX0_doRound 24 = .ok (.if_icmp .ge 14, 3) := by decide +kernel
theorem dX0_doRound_27 : decode cX0_doRound 27 = .ok (.aload_n 0, 1) := by decide +kernel
theorem dX0_doRound_28 : decode cX0_doRound 28 = .ok (.getfield 15, 3) := by decide +kernel
theorem dX0_doRound_31 : decode cX0_doRound 31 = .ok (.iload_n 2, 1) := by decide +kernel
theorem dX0_doRound_32 : decode cX0_doRound 32 = .ok (.iconst 1, 1) := by decide +kernel
theorem dX0_doRound_33 : decode cX0_doRound 33 = .ok (.iadd, 1) := by decide +kernel
theorem dX0_doRound_34 : decode cX0_doRound 34 = .ok (.iaload, 1) := by decide +kernel
theorem dX0_doRound_35 : decode cX0_doRound 35 = .ok (.goto 4, 3) := by decide +kernel
theorem dX0_doRound_38 : decode cX0_doRound 38 = .ok (.iload_n 1, 1) := by decide +kernel
theorem dX0_doRound_39 : decode cX0_doRound 39 = .ok (.istore_n 3, 1) := by decide +kernel
theorem dX0_doRound_40 : decode cX0_doRound 40 = .ok (.aload_n 0, 1) := by decide +kernel
theorem dX0_doRound_41 : decode cX0_doRound 41 = .ok (.getfield 15, 3) := by decide +kernel
theorem dX0_doRound_44 : decode cX0_doRound 44 = .ok (.iload_n 2, 1) := by decide +kernel
theorem dX0_doRound_45 : decode cX0_doRound 45 = .ok (.aload_n 0, 1) := by decide +kernel
theorem dX0_doRound_46 : decode cX0_doRound 46 = .ok (.getfield 15, 3) := by decide +kernel
theorem dX0_doRound_49 : decode cX0_doRound 49 = .ok (.iload_n 2, 1) := by decide +kernel
theorem dX0_doRound_50 : decode cX0_doRound 50 = .ok (.iaload, 1) := by decide +kernel
theorem dX0_doRound_51 : decode cX0_doRound 51 = .ok (.iload_n 3, 1) := by decide +kernel
theorem dX0_doRound_52 : decode cX0_doRound 52 = .ok (.invokestatic 80, 3) := by decide +kernel
theorem dX0_doRound_55 : decode cX0_doRound 55 = .ok (.iastore, 1) := by decide +kernel
theorem dX0_doRound_56 : decode cX0_doRound 56 = .ok (.iinc 2 1, 3) := by decide +kernel
theorem dX0_doRound_59 : decode cX0_doRound 59 = .ok (.goto (-50), 3) := by decide +kernel
theorem dX0_doRound_62 : decode cX0_doRound 62 = .ok (.return_, 1) := by decide +kernel
set_option maxRecDepth 20000 in
theorem ggX0_shortened_J6_bitCount_0f7a4 : GoodIn wsX0_shortened wsJ6_bitCount_0f7a4 := goodIn_r _ [4, 5, 6, 7] (by decide +kernel) (by decide +kernel)
set_option maxRecDepth 20000 in
theorem gX0_shortened_J6_bitCount_0f7a4 : GoodIn wsX0_shortened (va_wsS RX0 83 yJ6_bitCount_0f7a4 wsJ6_bitCount_0f7a4) := goodIn_app (goodIn_of _ (by decide +kernel)) ggX0_shortened_J6_bitCount_0f7a4
theorem dX0_shortened_0 : decode cX0_shortened 0 = .ok (.iload_n 0, 1) := by decide +kernel
theorem dX0_shortened_1 : decode cX0_shortened 1 = .ok (.iload_n 1, 1) := by decide +kernel
theorem dX0_shortened_2 : decode cX0_shortened 2 = .ok (.ixor, 1) := by decide +kernel
theorem dX0_shortened_3 : decode cX0_shortened 3 = .ok (.istore_n 2, 1) := by decide +kernel
theorem dX0_shortened_4 : decode cX0_shortened 4 = .ok (.iload_n 2, 1) := by decide +kernel
theorem dX0_shortened_5 : decode cX0_shortened 5 = .ok (.iload_n 2, 1) := by decide +kernel
theorem dX0_shortened_6 : decode cX0_shortened 6 = .ok (.ineg, 1) := by decide +kernel
theorem dX0_shortened_7 : decode cX0_shortened 7 = .ok (.iand, 1) := by decide +kernel
theorem dX0_shortened_8 : decode cX0_shortened 8 = .ok (.iconst 1, 1) := by decide +kernel
theorem dX0_shortened_9 : decode cX0_shortened 9 = .ok (.isub, 1) := by decide +kernel
theorem dX0_shortened_10 : decode cX0_shortened 10 = .ok (.invokestatic 83, 3) := by decide +kernel
theorem dX0_shortened_13 : decode cX0_shortened 13 = .ok (.istore_n 3, 1) := by decide +kernel
theorem dX0_shortened_14 : decode cX0_shortened 14 = .ok (.iconst 2, 1) := by decide +kernel
theorem dX0_shortened_15 : decode cX0_shortened 15 = .ok (.iload_n 3, 1) := by decide +kernel
theorem dX0_shortened_16 : decode cX0_shortened 16 = .ok (.imul, 1) := by decide +kernel
theorem dX0_shortened_17 : decode cX0_shortened 17 = .ok (.iload_n 0, 1) := by decide +kernel
theorem dX0_shortened_18 : decode cX0_shortened 18 = .ok (.iload_n 3, 1) := by decide +kernel
theorem dX0_shortened_19 : decode cX0_shortened 19 = .ok (.ishr, 1) := by decide +kernel
theorem dX0_shortened_20 : decode cX0_shortened 20 = .ok (.iconst 1, 1) := by decide +kernel
theorem dX0_shortened_21 : decode cX0_shortened 21 = .ok (.iand, 1) := by decide +kernel
theorem dX0_shortened_22 : decode cX0_shortened 22 = .ok (.iadd, 1) := by decide +kernel
theorem dX0_shortened_23 : decode cX0_shortened 23 = .ok (.ireturn, 1) := by decide +kernel
set_option maxRecDepth 20000 in
theorem ggX0_giveUpColour_X0_previous : GoodIn wsX0_giveUpColour wsX0_previous := goodIn_r _ [7, 1, 15, 16, 17] (by decide +kernel) (by decide +kernel)
set_option maxRecDepth 20000 in
theorem gX0_giveUpColour_X0_previous : GoodIn wsX0_giveUpColour (wsV RX0 59 RX0 yX0_previous wsX0_previous) := goodIn_app (goodIn_of _ (by decide +kernel)) ggX0_giveUpColour_X0_previous
set_option maxRecDepth 20000 in
theorem ggX0_giveUpColour_X0_next : GoodIn wsX0_giveUpColour wsX0_next := goodIn_r _ [11, 1, 15, 16, 17] (by decide +kernel) (by decide +kernel)
set_option maxRecDepth 20000 in
theorem gX0_giveUpColour_X0_next : GoodIn wsX0_giveUpColour (wsV RX0 41 RX0 yX0_next wsX0_next) := goodIn_app (goodIn_of _ (by decide +kernel)) ggX0_giveUpColour_X0_next
set_option maxRecDepth 20000 in
theorem ggX0_giveUpColour_X0_leastBeside : GoodIn wsX0_giveUpColour wsX0_leastBeside := goodIn_r _ [14] (by decide +kernel) (by decide +kernel)
set_option maxRecDepth 20000 in
theorem gX0_giveUpColour_X0_leastBeside : GoodIn wsX0_giveUpColour (va_wsS RX0 88 yX0_leastBeside wsX0_leastBeside) := goodIn_app (goodIn_of _ (by decide +kernel)) ggX0_giveUpColour_X0_leastBeside
theorem dX0_giveUpColour_0 : decode cX0_giveUpColour 0 = .ok (.iconst 0, 1) := by decide +kernel
theorem dX0_giveUpColour_1 : decode cX0_giveUpColour 1 = .ok (.istore_n 2, 1) := by decide +kernel
theorem dX0_giveUpColour_2 : decode cX0_giveUpColour 2 = .ok (.iload_n 2, 1) := by decide +kernel
theorem dX0_giveUpColour_3 : decode cX0_giveUpColour 3 = .ok (.aload_n 0, 1) := by decide +kernel
theorem dX0_giveUpColour_4 : decode cX0_giveUpColour 4 = .ok (.getfield 28, 3) := by decide +kernel
theorem dX0_giveUpColour_7 : decode cX0_giveUpColour 7 = .ok (.if_icmp .ge 48, 3) := by decide +kernel
theorem dX0_giveUpColour_10 : decode cX0_giveUpColour 10 = .ok (.aload_n 0, 1) := by decide +kernel
theorem dX0_giveUpColour_11 : decode cX0_giveUpColour 11 = .ok (.getfield 15, 3) := by decide +kernel
theorem dX0_giveUpColour_14 : decode cX0_giveUpColour 14 = .ok (.iload_n 2, 1) := by decide +kernel
theorem dX0_giveUpColour_15 : decode cX0_giveUpColour 15 = .ok (.iaload, 1) := by decide +kernel
theorem dX0_giveUpColour_16 : decode cX0_giveUpColour 16 = .ok (.iload_n 1, 1) := by decide +kernel
theorem dX0_giveUpColour_17 : decode cX0_giveUpColour 17 = .ok (.if_icmp .ne 32, 3) := by decide +kernel
theorem dX0_giveUpColour_20 : decode cX0_giveUpColour 20 = .ok (.aload_n 0, 1) := by decide +kernel
theorem dX0_giveUpColour_21 : decode cX0_giveUpColour 21 = .ok (.getfield 15, 3) := by decide +kernel
theorem dX0_giveUpColour_24 : decode cX0_giveUpColour 24 = .ok (.iload_n 2, 1) := by decide +kernel
theorem dX0_giveUpColour_25 : decode cX0_giveUpColour 25 = .ok (.aload_n 0, 1) := by decide +kernel
theorem dX0_giveUpColour_26 : decode cX0_giveUpColour 26 = .ok (.getfield 15, 3) := by decide +kernel
theorem dX0_giveUpColour_29 : decode cX0_giveUpColour 29 = .ok (.aload_n 0, 1) := by decide +kernel
theorem dX0_giveUpColour_30 : decode cX0_giveUpColour 30 = .ok (.iload_n 2, 1) := by decide +kernel
theorem dX0_giveUpColour_31 : decode cX0_giveUpColour 31 = .ok (.invokevirtual 59, 3) := by decide +kernel
theorem dX0_giveUpColour_34 : decode cX0_giveUpColour 34 = .ok (.iaload, 1) := by decide +kernel
theorem dX0_giveUpColour_35 : decode cX0_giveUpColour 35 = .ok (.aload_n 0, 1) := by decide +kernel
theorem dX0_giveUpColour_36 : decode cX0_giveUpColour 36 = .ok (.getfield 15, 3) := by decide +kernel
theorem dX0_giveUpColour_39 : decode cX0_giveUpColour 39 = .ok (.aload_n 0, 1) := by decide +kernel
theorem dX0_giveUpColour_40 : decode cX0_giveUpColour 40 = .ok (.iload_n 2, 1) := by decide +kernel
theorem dX0_giveUpColour_41 : decode cX0_giveUpColour 41 = .ok (.invokevirtual 41, 3) := by decide +kernel
theorem dX0_giveUpColour_44 : decode cX0_giveUpColour 44 = .ok (.iaload, 1) := by decide +kernel
theorem dX0_giveUpColour_45 : decode cX0_giveUpColour 45 = .ok (.invokestatic 88, 3) := by decide +kernel
theorem dX0_giveUpColour_48 : decode cX0_giveUpColour 48 = .ok (.iastore, 1) := by decide +kernel
theorem dX0_giveUpColour_49 : decode cX0_giveUpColour 49 = .ok (.iinc 2 1, 3) := by decide +kernel
theorem dX0_giveUpColour_52 : decode cX0_giveUpColour 52 = .ok (.goto (-50), 3) := by decide +kernel
theorem dX0_giveUpColour_55 : decode cX0_giveUpColour 55 = .ok (.return_, 1) := by decide +kernel
theorem dX0_leastBeside_0 : decode cX0_leastBeside 0 = .ok (.iconst 0, 1) := by decide +kernel
theorem dX0_leastBeside_1 : decode cX0_leastBeside 1 = .ok (.istore_n 2, 1) := by decide +kernel
theorem dX0_leastBeside_2 : decode cX0_leastBeside 2 = .ok (.iload_n 2, 1) := by decide +kernel
theorem dX0_leastBeside_3 : decode cX0_leastBeside 3 = .ok (.iconst 2, 1) := by decide +kernel
theorem dX0_leastBeside_4 : decode cX0_leastBeside 4 = .ok (.if_icmp .ge 21, 3) := by decide +kernel
theorem dX0_leastBeside_7 : decode cX0_leastBeside 7 = .ok (.iload_n 2, 1) := by decide +kernel
theorem dX0_leastBeside_8 : decode cX0_leastBeside 8 = .ok (.iload_n 0, 1) := by decide +kernel
theorem dX0_leastBeside_9 : decode cX0_leastBeside 9 = .ok (.if_icmp .eq 10, 3) := by decide +kernel
theorem dX0_leastBeside_12 : decode cX0_leastBeside 12 = .ok (.iload_n 2, 1) := by decide +kernel
theorem dX0_leastBeside_13 : decode cX0_leastBeside 13 = .ok (.iload_n 1, 1) := by decide +kernel
theorem dX0_leastBeside_14 : decode cX0_leastBeside 14 = .ok (.if_icmp .eq 5, 3) := by decide +kernel
theorem dX0_leastBeside_17 : decode cX0_leastBeside 17 = .ok (.iload_n 2, 1) := by decide +kernel
theorem dX0_leastBeside_18 : decode cX0_leastBeside 18 = .ok (.ireturn, 1) := by decide +kernel
theorem dX0_leastBeside_19 : decode cX0_leastBeside 19 = .ok (.iinc 2 1, 3) := by decide +kernel
theorem dX0_leastBeside_22 : decode cX0_leastBeside 22 = .ok (.goto (-20), 3) := by decide +kernel
theorem dX0_leastBeside_25 : decode cX0_leastBeside 25 = .ok (.iconst 2, 1) := by decide +kernel
theorem dX0_leastBeside_26 : decode cX0_leastBeside 26 = .ok (.ireturn, 1) := by decide +kernel
theorem dX0_takeNumbers_0 : decode cX0_takeNumbers 0 = .ok (.aload_n 0, 1) := by decide +kernel
theorem dX0_takeNumbers_1 : decode cX0_takeNumbers 1 = .ok (.getfield 15, 3) := by decide +kernel
theorem dX0_takeNumbers_4 : decode cX0_takeNumbers 4 = .ok (.iconst 0, 1) := by decide +kernel
theorem dX0_takeNumbers_5 : decode cX0_takeNumbers 5 = .ok (.aload_n 0, 1) := by decide +kernel
theorem dX0_takeNumbers_6 : decode cX0_takeNumbers 6 = .ok (.getfield 9, 3) := by decide +kernel
theorem dX0_takeNumbers_9 : decode cX0_takeNumbers 9 = .ok (.iconst 0, 1) := by decide +kernel
theorem dX0_takeNumbers_10 : decode cX0_takeNumbers 10 = .ok (.aload_n 0, 1) := by decide +kernel
theorem dX0_takeNumbers_11 : decode cX0_takeNumbers 11 = .ok (.getfield 28, 3) := by decide +kernel
theorem dX0_takeNumbers_14 : decode cX0_takeNumbers 14 = .ok (.invokestatic 91, 3) := by decide +kernel
theorem dX0_takeNumbers_17 : decode cX0_takeNumbers 17 = .ok (.return_, 1) := by decide +kernel
set_option maxRecDepth 20000 in
theorem ggX0_unlike_X0_standsBefore : GoodIn wsX0_unlike wsX0_standsBefore := goodIn_r _ [5] (by decide +kernel) (by decide +kernel)
end
section
set_option maxRecDepth 20000 in
theorem gX0_unlike_X0_standsBefore : GoodIn wsX0_unlike (va_wsS RX0 97 yX0_standsBefore wsX0_standsBefore) := goodIn_app (goodIn_of _ (by decide +kernel)) ggX0_unlike_X0_standsBefore
theorem dX0_unlike_0 : decode cX0_unlike 0 = .ok (.iconst 0, 1) := by decide +kernel
theorem dX0_unlike_1 : decode cX0_unlike 1 = .ok (.istore_n 2, 1) := by decide +kernel
theorem dX0_unlike_2 : decode cX0_unlike 2 = .ok (.iconst 0, 1) := by decide +kernel
theorem dX0_unlike_3 : decode cX0_unlike 3 = .ok (.istore_n 3, 1) := by decide +kernel
theorem dX0_unlike_4 : decode cX0_unlike 4 = .ok (.iload_n 3, 1) := by decide +kernel
theorem dX0_unlike_5 : decode cX0_unlike 5 = .ok (.aload_n 0, 1) := by decide +kernel
theorem dX0_unlike_6 : decode cX0_unlike 6 = .ok (.getfield 28, 3) := by decide +kernel
theorem dX0_unlike_9 : decode cX0_unlike 9 = .ok (.if_icmp .ge 26, 3) := by decide +kernel
theorem dX0_unlike_12 : decode cX0_unlike 12 = .ok (.iload_n 3, 1) := by decide +kernel
theorem dX0_unlike_13 : decode cX0_unlike 13 = .ok (.aload_n 1, 1) := by decide +kernel
theorem dX0_unlike_14 : decode cX0_unlike 14 = .ok (.arraylength, 1) := by decide +kernel
theorem dX0_unlike_15 : decode cX0_unlike 15 = .ok (.if_icmp .ge 20, 3) := by decide +kernel
theorem dX0_unlike_18 : decode cX0_unlike 18 = .ok (.aload_n 1, 1) := by decide +kernel
theorem dX0_unlike_19 : decode cX0_unlike 19 = .ok (.iload_n 3, 1) := by decide +kernel
theorem dX0_unlike_20 : decode cX0_unlike 20 = .ok (.invokestatic 97, 3) := by decide +kernel
theorem dX0_unlike_23 : decode cX0_unlike 23 = .ok (.ifCond .ne 6, 3) := by decide +kernel
theorem dX0_unlike_26 : decode cX0_unlike 26 = .ok (.iinc 2 1, 3) := by decide +kernel
theorem dX0_unlike_29 : decode cX0_unlike 29 = .ok (.iinc 3 1, 3) := by decide +kernel
theorem dX0_unlike_32 : decode cX0_unlike 32 = .ok (.goto (-28), 3) := by decide +kernel
theorem dX0_unlike_35 : decode cX0_unlike 35 = .ok (.iload_n 2, 1) := by decide +kernel
theorem dX0_unlike_36 : decode cX0_unlike 36 = .ok (.ireturn, 1) := by decide +kernel
theorem dX0_standsBefore_0 : decode cX0_standsBefore 0 = .ok (.iconst 0, 1) := by decide +kernel
theorem dX0_standsBefore_1 : decode cX0_standsBefore 1 = .ok (.istore_n 2, 1) := by decide +kernel
theorem dX0_standsBefore_2 : decode cX0_standsBefore 2 = .ok (.iload_n 2, 1) := by decide +kernel
theorem dX0_standsBefore_3 : decode cX0_standsBefore 3 = .ok (.iload_n 1, 1) := by decide +kernel
theorem dX0_standsBefore_4 : decode cX0_standsBefore 4 = .ok (.if_icmp .ge 20, 3) := by decide +kernel
theorem dX0_standsBefore_7 : decode cX0_standsBefore 7 = .ok (.aload_n 0, 1) := by decide +kernel
theorem dX0_standsBefore_8 : decode cX0_standsBefore 8 = .ok (.iload_n 2, 1) := by decide +kernel
theorem dX0_standsBefore_9 : decode cX0_standsBefore 9 = .ok (.iaload, 1) := by decide +kernel
theorem dX0_standsBefore_10 : decode cX0_standsBefore 10 = .ok (.aload_n 0, 1) := by decide +kernel
theorem dX0_standsBefore_11 : decode cX0_standsBefore 11 = .ok (.iload_n 1, 1) := by decide +kernel
theorem dX0_standsBefore_12 : decode cX0_standsBefore 12 = .ok (.iaload, 1) := by decide +kernel
theorem dX0_standsBefore_13 : decode cX0_standsBefore 13 = .ok (.if_icmp .ne 5, 3) := by decide +kernel
theorem dX0_standsBefore_16 : decode cX0_standsBefore 16 = .ok (.iconst 1, 1) := by decide +kernel
theorem dX0_standsBefore_17 : decode cX0_standsBefore 17 = .ok (.ireturn, 1) := by decide +kernel
theorem dX0_standsBefore_18 : decode cX0_standsBefore 18 = .ok (.iinc 2 1, 3) := by decide +kernel
theorem dX0_standsBefore_21 : decode cX0_standsBefore 21 = .ok (.goto (-19), 3) := by decide +kernel
theorem dX0_standsBefore_24 : decode cX0_standsBefore 24 = .ok (.iconst 0, 1) := by decide +kernel
theorem dX0_standsBefore_25 : decode cX0_standsBefore 25 = .ok (.ireturn, 1) := by decide +kernel
set_option maxRecDepth 20000 in
theorem ggX1_init_X1_restart : GoodIn wsX1_init wsX1_restart := goodIn_r _ [15, 16, 17, 18, 19, 20, 5, 21, 22, 23, 24, 25, 26] (by decide +kernel) (by decide +kernel)
set_option maxRecDepth 20000 in
theorem gX1_init_X1_restart : GoodIn wsX1_init (wsV RX1 28 RX1 yX1_restart wsX1_restart) := goodIn_app (goodIn_of _ (by decide +kernel)) ggX1_init_X1_restart
theorem dX1_init_0 : decode cX1_init 0 = .ok (.aload_n 0, 1) := by decide +kernel
theorem dX1_init_1 : decode cX1_init 1 = .ok (.invokespecial 3, 3) := by decide +kernel
theorem dX1_init_4 : decode cX1_init 4 = .ok (.aload_n 0, 1) := by decide +kernel
theorem dX1_init_5 : decode cX1_init 5 = .ok (.bipush 6, 2) := by decide +kernel
theorem dX1_init_7 : decode cX1_init 7 = .ok (.newarray .int, 2) := by decide +kernel
theorem dX1_init_9 : decode cX1_init 9 = .ok (.putfield 9, 3) := by decide +kernel
theorem dX1_init_12 : decode cX1_init 12 = .ok (.aload_n 0, 1) := by decide +kernel
theorem dX1_init_13 : decode cX1_init 13 = .ok (.bipush 61, 2) := by decide +kernel
theorem dX1_init_15 : decode cX1_init 15 = .ok (.newarray .int, 2) := by decide +kernel
theorem dX1_init_17 : decode cX1_init 17 = .ok (.putfield 15, 3) := by decide +kernel
theorem dX1_init_20 : decode cX1_init 20 = .ok (.aload_n 0, 1) := by decide +kernel
theorem dX1_init_21 : decode cX1_init 21 = .ok (.bipush 61, 2) := by decide +kernel
theorem dX1_init_23 : decode cX1_init 23 = .ok (.newarray .int, 2) := by decide +kernel
theorem dX1_init_25 : decode cX1_init 25 = .ok (.putfield 18, 3) := by decide +kernel
theorem dX1_init_28 : decode cX1_init 28 = .ok (.aload_n 0, 1) := by decide +kernel
theorem dX1_init_29 : decode cX1_init 29 = .ok (.bipush 6, 2) := by decide +kernel
theorem dX1_init_31 : decode cX1_init 31 = .ok (.newarray .long, 2) := by decide +kernel
theorem dX1_init_33 : decode cX1_init 33 = .ok (.putfield 21, 3) := by decide +kernel
theorem dX1_init_36 : decode cX1_init 36 = .ok (.aload_n 0, 1) := by decide +kernel
theorem dX1_init_37 : decode cX1_init 37 = .ok (.bipush 6, 2) := by decide +kernel
theorem dX1_init_39 : decode cX1_init 39 = .ok (.newarray .long, 2) := by decide +kernel
theorem dX1_init_41 : decode cX1_init 41 = .ok (.putfield 25, 3) := by decide +kernel
theorem dX1_init_44 : decode cX1_init 44 = .ok (.aload_n 0, 1) := by decide +kernel
theorem dX1_init_45 : decode cX1_init 45 = .ok (.iload_n 1, 1) := by decide +kernel
theorem dX1_init_46 : decode cX1_init 46 = .ok (.invokevirtual 28, 3) := by decide +kernel
theorem dX1_init_49 : decode cX1_init 49 = .ok (.return_, 1) := by decide +kernel
theorem dX1_restart_0 : decode cX1_restart 0 = .ok (.aload_n 0, 1) := by decide +kernel
theorem dX1_restart_1 : decode cX1_restart 1 = .ok (.iload_n 1, 1) := by decide +kernel
theorem dX1_restart_2 : decode cX1_restart 2 = .ok (.bipush 6, 2) := by decide +kernel
theorem dX1_restart_4 : decode cX1_restart 4 = .ok (.invokestatic 32, 3) := by decide +kernel
theorem dX1_restart_7 : decode cX1_restart 7 = .ok (.putfield 38, 3) := by decide +kernel
theorem dX1_restart_10 : decode cX1_restart 10 = .ok (.iconst 1, 1) := by decide +kernel
theorem dX1_restart_11 : decode cX1_restart 11 = .ok (.aload_n 0, 1) := by decide +kernel
theorem dX1_restart_12 : decode cX1_restart 12 = .ok (.getfield 38, 3) := by decide +kernel
theorem dX1_restart_15 : decode cX1_restart 15 = .ok (.ishl, 1) := by decide +kernel
theorem dX1_restart_16 : decode cX1_restart 16 = .ok (.iconst 1, 1) := by decide +kernel
theorem dX1_restart_17 : decode cX1_restart 17 = .ok (.isub, 1) := by decide +kernel
theorem dX1_restart_18 : decode cX1_restart 18 = .ok (.istore_n 2, 1) := by decide +kernel
theorem dX1_restart_19 : decode cX1_restart 19 = .ok (.iconst 0, 1) := by decide +kernel
theorem dX1_restart_20 : decode cX1_restart 20 = .ok (.istore_n 3, 1) := by decide +kernel
theorem dX1_restart_21 : decode cX1_restart 21 = .ok (.iload_n 3, 1) := by decide +kernel
theorem dX1_restart_22 : decode cX1_restart 22 = .ok (.aload_n 0, 1) := by decide +kernel
theorem dX1_restart_23 : decode cX1_restart 23 = .ok (.getfield 38, 3) := by decide +kernel
theorem dX1_restart_26 : decode cX1_restart 26 = .ok (.if_icmp .ge 22, 3) := by decide +kernel
theorem dX1_restart_29 : decode cX1_restart 29 = .ok (.aload_n 0, 1) := by decide +kernel
theorem dX1_restart_30 : decode cX1_restart 30 = .ok (.getfield 9, 3) := by decide +kernel
theorem dX1_restart_33 : decode cX1_restart 33 = .ok (.iload_n 3, 1) := by decide +kernel
theorem dX1_restart_34 : decode cX1_restart 34 = .ok (.iload_n 2, 1) := by decide +kernel
theorem dX1_restart_35 : decode cX1_restart 35 = .ok (.iconst 1, 1) := by decide +kernel
theorem dX1_restart_36 : decode cX1_restart 36 = .ok (.iload_n 3, 1) := by decide +kernel
theorem dX1_restart_37 : decode cX1_restart 37 = .ok (.ishl, 1) := by decide +kernel
theorem dX1_restart_38 : decode cX1_restart 38 = .ok (.iconst (-1), 1) := by decide +kernel
theorem dX1_restart_39 : decode cX1_restart 39 = .ok (.ixor, 1) := by decide +kernel
theorem dX1_restart_40 : decode cX1_restart 40 = .ok (.iand, 1) := by decide +kernel
theorem dX1_restart_41 : decode cX1_restart 41 = .ok (.iastore, 1) := by decide +kernel
theorem dX1_restart_42 : decode cX1_restart 42 = .ok (.iinc 3 1, 3) := by decide +kernel
theorem dX1_restart_45 : decode cX1_restart 45 = .ok (.goto (-24), 3) := by decide +kernel
theorem dX1_restart_48 : decode cX1_restart 48 = .ok (.return_, 1) := by decide +kernel
theorem dX1_has_0 : decode cX1_has 0 = .ok (.iload_n 1, 1) := by decide +kernel
theorem dX1_has_1 : decode cX1_has 1 = .ok (.ifCond .lt 15, 3) := by decide +kernel
theorem dX1_has_4 : decode cX1_has 4 = .ok (.iload_n 1, 1) := by decide +kernel
theorem dX1_has_5 : decode cX1_has 5 = .ok (.aload_n 0, 1) := by decide +kernel
theorem dX1_has_6 : decode cX1_has 6 = .ok (.getfield 38, 3) := by decide +kernel
theorem dX1_has_9 : decode cX1_has 9 = .ok (.if_icmp .ge 7, 3) := by decide +kernel
theorem dX1_has_12 : decode cX1_has 12 = .ok (.iconst 1, 1) := by decide +kernel
theorem dX1_has_13 : decode cX1_has 13 = .ok (.goto 4, 3) := by decide +kernel
theorem dX1_has_16 : decode cX1_has 16 = .ok (.iconst 0, 1) := by decide +kernel
theorem dX1_has_17 : decode cX1_has 17 = .ok (.ireturn, 1) := by decide +kernel
set_option maxRecDepth 20000 in
theorem ggX1_mayFollow_X1_has : GoodIn wsX1_mayFollow wsX1_has := goodIn_r _ [6, 7, 11, 12, 13, 14, 15, 16] (by decide +kernel) (by decide +kernel)
set_option maxRecDepth 20000 in
theorem gX1_mayFollow_X1_has : GoodIn wsX1_mayFollow (wsV RX1 42 RX1 yX1_has wsX1_has) := goodIn_app (goodIn_of _ (by decide +kernel)) ggX1_mayFollow_X1_has
set_option maxRecDepth 20000 in
theorem ggX1_mayFollow_X1_holds : GoodIn wsX1_mayFollow wsX1_holds := goodIn_r _ [10] (by decide +kernel) (by decide +kernel)
set_option maxRecDepth 20000 in
theorem gX1_mayFollow_X1_holds : GoodIn wsX1_mayFollow (va_wsS RX1 46 yX1_holds wsX1_holds) := goodIn_app (goodIn_of _ (by decide +kernel)) ggX1_mayFollow_X1_holds
theorem dX1_mayFollow_0 : decode cX1_mayFollow 0 = .ok (.aload_n 0, 1) := by decide +kernel
theorem dX1_mayFollow_1 : decode cX1_mayFollow 1 = .ok (.iload_n 1, 1) := by decide +kernel
theorem dX1_mayFollow_2 : decode cX1_mayFollow 2 = .ok (.invokevirtual 42, 3) := by decide +kernel
theorem dX1_mayFollow_5 : decode cX1_mayFollow 5 = .ok (.ifCond .eq 28, 3) := by decide +kernel
theorem dX1_mayFollow_8 : decode cX1_mayFollow 8 = .ok (.aload_n 0, 1) := by decide +kernel
theorem dX1_mayFollow_9 : decode cX1_mayFollow 9 = .ok (.iload_n 2, 1) := by decide +kernel
theorem dX1_mayFollow_10 : decode cX1_mayFollow 10 = .ok (.invokevirtual 42, 3) := by decide +kernel
theorem dX1_mayFollow_13 : decode cX1_mayFollow 13 = .ok (.ifCond .eq 20, 3) := by decide +kernel
theorem dX1_mayFollow_16 : decode cX1_mayFollow 16 = .ok (.aload_n 0, 1) := by decide +kernel
theorem dX1_mayFollow_17 : decode cX1_mayFollow 17 = .ok (.getfield 9, 3) := by decide +kernel
theorem dX1_mayFollow_20 : decode cX1_mayFollow 20 = .ok (.iload_n 1, 1) := by decide +kernel
theorem dX1_mayFollow_21 : decode cX1_mayFollow 21 = .ok (.iaload, 1) := by decide +kernel
theorem dX1_mayFollow_22 : decode cX1_mayFollow 22 = .ok (.iload_n 2, 1) := by decide +kernel
theorem dX1_mayFollow_23 : decode cX1_mayFollow 23 = .ok (.invokestatic 46, 3) := by decide +kernel
theorem dX1_mayFollow_26 : decode cX1_mayFollow 26 = .ok (.ifCond .eq 7, 3) := by decide +kernel
theorem dX1_mayFollow_29 : decode cX1_mayFollow 29 = .ok (.iconst 1, 1) := by decide +kernel
theorem dX1_mayFollow_30 : decode cX1_mayFollow 30 = .ok (.goto 4, 3) := by decide +kernel
theorem dX1_mayFollow_33 : decode cX1_mayFollow 33 = .ok (.iconst 0, 1) := by decide +kernel
theorem dX1_mayFollow_34 : decode cX1_mayFollow 34 = .ok (.ireturn, 1) := by decide +kernel
set_option maxRecDepth 20000 in
theorem ggX1_decide_X1_has : GoodIn wsX1_decide wsX1_has := goodIn_r _ [6, 7, 8, 9, 10, 11, 12, 13] (by decide +kernel) (by decide +kernel)
set_option maxRecDepth 20000 in
theorem gX1_decide_X1_has : GoodIn wsX1_decide (wsV RX1 42 RX1 yX1_has wsX1_has) := goodIn_app (goodIn_of _ (by decide +kernel)) ggX1_decide_X1_has
theorem dX1_decide_0 : decode cX1_decide 0 = .ok (.aload_n 0, 1) := by decide +kernel
theorem dX1_decide_1 : decode cX1_decide 1 = .ok (.iload_n 1, 1) := by decide +kernel
theorem dX1_decide_2 : decode cX1_decide 2 = .ok (.invokevirtual 42, 3) := by decide +kernel
theorem dX1_decide_5 : decode cX1_decide 5 = .ok (.ifCond .eq 46, 3) := by decide +kernel
theorem dX1_decide_8 : decode cX1_decide 8 = .ok (.aload_n 0, 1) := by decide +kernel
theorem dX1_decide_9 : decode cX1_decide 9 = .ok (.iload_n 2, 1) := by decide +kernel
theorem dX1_decide_10 : decode cX1_decide 10 = .ok (.invokevirtual 42, 3) := by decide +kernel
theorem dX1_decide_13 : decode cX1_decide 13 = .ok (.ifCond .eq 38, 3) := by decide +kernel
theorem dX1_decide_16 : decode cX1_decide 16 = .ok (.aload_n 0, 1) := by decide +kernel
theorem dX1_decide_17 : decode cX1_decide 17 = .ok (.getfield 9, 3) := by decide +kernel
theorem dX1_decide_20 : decode cX1_decide 20 = .ok (.iload_n 1, 1) := by decide +kernel
theorem dX1_decide_21 : decode cX1_decide 21 = .ok (.iload_n 3, 1) := by decide +kernel
theorem dX1_decide_22 : decode cX1_decide 22 = .ok (.ifCond .eq 16, 3) := by decide +kernel
theorem dX1_decide_25 : decode cX1_decide 25 = .ok (.aload_n 0, 1) := by decide +kernel
theorem dX1_decide_26 : decode cX1_decide 26 = .ok (.getfield 9, 3) := by decide +kernel
theorem dX1_decide_29 : decode cX1_decide 29 = .ok (.iload_n 1, 1) := by decide +kernel
theorem dX1_decide_30 : decode cX1_decide 30 = .ok (.iaload, 1) := by decide +kernel
theorem dX1_decide_31 : decode cX1_decide 31 = .ok (.iconst 1, 1) := by decide +kernel
theorem dX1_decide_32 : decode cX1_decide 32 = .ok (.iload_n 2, 1) := by decide +kernel
theorem dX1_decide_33 : decode cX1_decide 33 = .ok (.ishl, 1) := by decide +kernel
theorem dX1_decide_34 : decode cX1_decide 34 = .ok (.ior, 1) := by decide +kernel
theorem dX1_decide_35 : decode cX1_decide 35 = .ok (.goto 15, 3) := by decide +kernel
theorem dX1_decide_38 : decode cX1_decide 38 = .ok (.aload_n 0, 1) := by decide +kernel
theorem dX1_decide_39 : decode cX1_decide 39 = .ok (.getfield 9, 3) := by decide +kernel
theorem dX1_decide_42 : decode cX1_decide 42 = .ok (.iload_n 1, 1) := by decide +kernel
theorem dX1_decide_43 : decode cX1_decide 43 = .ok (.iaload, 1) := by decide +kernel
theorem dX1_decide_44 : decode cX1_decide 44 = .ok (.iconst 1, 1) := by decide +kernel
theorem dX1_decide_45 : decode cX1_decide 45 = .ok (.iload_n 2, 1) := by decide +kernel
theorem dX1_decide_46 : decode cX1_decide 46 = .ok (.ishl, 1) := by decide +kernel
theorem dX1_decide_47 : decode cX1_decide 47 = .ok (.iconst (-1), 1) := by decide +kernel
theorem dX1_decide_48 : decode cX1_decide 48 = .ok (.ixor, 1) := by decide +kernel
theorem dX1_decide_49 : decode cX1_decide 49 = .ok (.iand, 1) := by decide +kernel
theorem dX1_decide_50 : decode cX1_decide 50 = .ok (.iastore, 1) := by decide +kernel
theorem dX1_decide_51 : decode cX1_decide 51 = .ok (.return_, 1) := by decide +kernel
set_option maxRecDepth 20000 in
theorem ggX1_pairCount_J6_bitCount_0f7a4 : GoodIn wsX1_pairCount wsJ6_bitCount_0f7a4 := goodIn_r _ [6, 7, 8, 9] (by decide +kernel) (by decide +kernel)
set_option maxRecDepth 20000 in
theorem gX1_pairCount_J6_bitCount_0f7a4 : GoodIn wsX1_pairCount (va_wsS RX1 50 yJ6_bitCount_0f7a4 wsJ6_bitCount_0f7a4) := goodIn_app (goodIn_of _ (by decide +kernel)) ggX1_pairCount_J6_bitCount_0f7a4
theorem dX1_pairCount_0 : decode cX1_pairCount 0 = .ok (.iconst 0, 1) := by decide +kernel
theorem dX1_pairCount_1 : decode cX1_pairCount 1 = .ok (.istore_n 1, 1) := by decide +kernel
theorem dX1_pairCount_2 : decode cX1_pairCount 2 = .ok (.iconst 0, 1) := by decide +kernel
theorem dX1_pairCount_3 : decode cX1_pairCount 3 = .ok (.istore_n 2, 1) := by decide +kernel
theorem dX1_pairCount_4 : decode cX1_pairCount 4 = .ok (.iload_n 2, 1) := by decide +kernel
theorem dX1_pairCount_5 : decode cX1_pairCount 5 = .ok (.aload_n 0, 1) := by decide +kernel
theorem dX1_pairCount_6 : decode cX1_pairCount 6 = .ok (.getfield 38, 3) := by decide +kernel
theorem dX1_pairCount_9 : decode cX1_pairCount 9 = .ok (.if_icmp .ge 21, 3) := by decide +kernel
theorem dX1_pairCount_12 : decode cX1_pairCount 12 = .ok (.iload_n 1, 1) := by decide +kernel
theorem dX1_pairCount_13 : decode cX1_pairCount 13 = .ok (.aload_n 0, 1) := by decide +kernel
theorem dX1_pairCount_14 : decode cX1_pairCount 14 = .ok (.getfield 9, 3) := by decide +kernel
theorem dX1_pairCount_17 : decode cX1_pairCount 17 = .ok (.iload_n 2, 1) := by decide +kernel
theorem dX1_pairCount_18 : decode cX1_pairCount 18 = .ok (.iaload, 1) := by decide +kernel
theorem dX1_pairCount_19 : decode cX1_pairCount 19 = .ok (.invokestatic 50, 3) := by decide +kernel
theorem dX1_pairCount_22 : decode cX1_pairCount 22 = .ok (.iadd, 1) := by decide +kernel
theorem dX1_pairCount_23 : decode cX1_pairCount 23 = .ok (.istore_n 1, 1) := by decide +kernel
theorem dX1_pairCount_24 : decode cX1_pairCount 24 = .ok (.iinc 2 1, 3) := by decide +kernel
theorem dX1_pairCount_27 : decode cX1_pairCount 27 = .ok (.goto (-23), 3) := by decide +kernel
theorem dX1_pairCount_30 : decode cX1_pairCount 30 = .ok (.iload_n 1, 1) := by decide +kernel
theorem dX1_pairCount_31 : decode cX1_pairCount 31 = .ok (.ireturn, 1) := by decide +kernel
set_option maxRecDepth 20000 in
theorem ggX1_ringCount_X1_walkCount : GoodIn wsX1_ringCount wsX1_walkCount := goodIn_r _ [11, 12, 13, 14, 15, 10, 16, 1, 17, 18, 19, 20, 21, 22, 23, 24, 25, 2, 3, 4, 5, 6, 26, 27, 28, 29, 30, 31, 32, 33, 34, 35, 36, 37, 38, 39, 40, 41, 42, 43] (by decide +kernel) (by decide +kernel)
set_option maxRecDepth 20000 in
theorem gX1_ringCount_X1_walkCount : GoodIn wsX1_ringCount (wsV RX1 56 RX1 yX1_walkCount wsX1_walkCount) := goodIn_app (goodIn_of _ (by decide +kernel)) ggX1_ringCount_X1_walkCount
theorem dX1_ringCount_0 : decode cX1_ringCount 0 = .ok (.lconst 0, 1) := by decide +kernel
theorem dX1_ringCount_1 : decode cX1_ringCount 1 = .ok (.lstore_n 2, 1) := by decide +kernel
theorem dX1_ringCount_2 : decode cX1_ringCount 2 = .ok (.iconst 0, 1) := by decide +kernel
theorem dX1_ringCount_3 : decode cX1_ringCount 3 = .ok (.istore 4, 2) := by decide +kernel
theorem dX1_ringCount_5 : decode cX1_ringCount 5 = .ok (.iload 4, 2) := by decide +kernel
theorem dX1_ringCount_7 : decode cX1_ringCount 7 = .ok (.aload_n 0, 1) := by decide +kernel
theorem dX1_ringCount_8 : decode cX1_ringCount 8 = .ok (.getfield 38, 3) := by decide +kernel
theorem dX1_ringCount_11 : decode cX1_ringCount 11 = .ok (.if_icmp .ge 21, 3) := by decide +kernel
theorem dX1_ringCount_14 : decode cX1_ringCount 14 = .ok (.lload_n 2, 1) := by decide +kernel
theorem dX1_ringCount_15 : decode cX1_ringCount 15 = .ok (.aload_n 0, 1) := by decide +kernel
theorem dX1_ringCount_16 : decode cX1_ringCount 16 = .ok (.iload 4, 2) := by decide +kernel
theorem dX1_ringCount_18 : decode cX1_ringCount 18 = .ok (.iload 4, 2) := by decide +kernel
theorem dX1_ringCount_20 : decode cX1_ringCount 20 = .ok (.iload_n 1, 1) := by decide +kernel
theorem dX1_ringCount_21 : decode cX1_ringCount 21 = .ok (.invokevirtual 56, 3) := by decide +kernel
theorem dX1_ringCount_24 : decode cX1_ringCount 24 = .ok (.ladd, 1) := by decide +kernel
theorem dX1_ringCount_25 : decode cX1_ringCount 25 = .ok (.lstore_n 2, 1) := by decide +kernel
theorem dX1_ringCount_26 : decode cX1_ringCount 26 = .ok (.iinc 4 1, 3) := by decide +kernel
theorem dX1_ringCount_29 : decode cX1_ringCount 29 = .ok (.goto (-24), 3) := by decide +kernel
theorem dX1_ringCount_32 : decode cX1_ringCount 32 = .ok (.lload_n 2, 1) := by decide +kernel
theorem dX1_ringCount_33 : decode cX1_ringCount 33 = .ok (.ldc2_w 60, 3) := by decide +kernel
theorem dX1_ringCount_36 : decode cX1_ringCount 36 = .ok (.invokestatic 62, 3) := by decide +kernel
theorem dX1_ringCount_39 : decode cX1_ringCount 39 = .ok (.lreturn, 1) := by decide +kernel
set_option maxRecDepth 20000 in
theorem ggX1_walkCount_X1_has : GoodIn wsX1_walkCount wsX1_has := goodIn_r _ [6, 7, 34, 35, 36, 37, 38, 39] (by decide +kernel) (by decide +kernel)
set_option maxRecDepth 20000 in
theorem gX1_walkCount_X1_has : GoodIn wsX1_walkCount (wsV RX1 42 RX1 yX1_has wsX1_has) := goodIn_app (goodIn_of _ (by decide +kernel)) ggX1_walkCount_X1_has
set_option maxRecDepth 20000 in
theorem ggX1_walkCount_J7_fill_d0a16 : GoodIn wsX1_walkCount wsJ7_fill_d0a16 := goodIn_r _ [11] (by decide +kernel) (by decide +kernel)
set_option maxRecDepth 20000 in
theorem gX1_walkCount_J7_fill_d0a16 : GoodIn wsX1_walkCount (va_wsS RX1 65 yJ7_fill_d0a16 wsJ7_fill_d0a16) := goodIn_app (goodIn_of _ (by decide +kernel)) ggX1_walkCount_J7_fill_d0a16
set_option maxRecDepth 20000 in
theorem ggX1_walkCount_X1_stepOn : GoodIn wsX1_walkCount wsX1_stepOn := goodIn_r _ [15, 7, 1, 16, 17, 18, 19, 20, 21, 22, 23, 24, 25, 26, 27, 28, 5, 29, 30, 2, 3, 4, 6, 31, 32, 33, 34, 35, 36, 37, 38, 39] (by decide +kernel) (by decide +kernel)
set_option maxRecDepth 20000 in
theorem gX1_walkCount_X1_stepOn : GoodIn wsX1_walkCount (wsV RX1 71 RX1 yX1_stepOn wsX1_stepOn) := goodIn_app (goodIn_of _ (by decide +kernel)) ggX1_walkCount_X1_stepOn
theorem dX1_walkCount_0 : decode cX1_walkCount 0 = .ok (.aload_n 0, 1) := by decide +kernel
theorem dX1_walkCount_1 : decode cX1_walkCount 1 = .ok (.iload_n 1, 1) := by decide +kernel
theorem dX1_walkCount_2 : decode cX1_walkCount 2 = .ok (.invokevirtual 42, 3) := by decide +kernel
theorem dX1_walkCount_5 : decode cX1_walkCount 5 = .ok (.ifCond .eq 11, 3) := by decide +kernel
theorem dX1_walkCount_8 : decode cX1_walkCount 8 = .ok (.aload_n 0, 1) := by decide +kernel
theorem dX1_walkCount_9 : decode cX1_walkCount 9 = .ok (.iload_n 2, 1) := by decide +kernel
theorem dX1_walkCount_10 : decode cX1_walkCount 10 = .ok (.invokevirtual 42, 3) := by decide +kernel
theorem dX1_walkCount_13 : decode cX1_walkCount 13 = .ok (.ifCond .ne 5, 3) := by decide +kernel
theorem dX1_walkCount_16 : decode cX1_walkCount 16 = .ok (.lconst 0, 1) := by decide +kernel
theorem dX1_walkCount_17 : decode cX1_walkCount 17 = .ok (.lreturn, 1) := by decide +kernel
theorem dX1_walkCount_18 : decode cX1_walkCount 18 = .ok (.aload_n 0, 1) := by decide +kernel
theorem dX1_walkCount_19 : decode cX1_walkCount 19 = .ok (.getfield 21, 3) := by decide +kernel
theorem dX1_walkCount_22 : decode cX1_walkCount 22 = .ok (.lconst 0, 1) := by decide +kernel
theorem dX1_walkCount_23 : decode cX1_walkCount 23 = .ok (.invokestatic 65, 3) := by decide +kernel
theorem dX1_walkCount_26 : decode cX1_walkCount 26 = .ok (.aload_n 0, 1) := by decide +kernel
theorem dX1_walkCount_27 : decode cX1_walkCount 27 = .ok (.getfield 21, 3) := by decide +kernel
theorem dX1_walkCount_30 : decode cX1_walkCount 30 = .ok (.iload_n 1, 1) := by decide +kernel
theorem dX1_walkCount_31 : decode cX1_walkCount 31 = .ok (.lconst 1, 1) := by decide +kernel
theorem dX1_walkCount_32 : decode cX1_walkCount 32 = .ok (.lastore, 1) := by decide +kernel
theorem dX1_walkCount_33 : decode cX1_walkCount 33 = .ok (.iconst 0, 1) := by decide +kernel
theorem dX1_walkCount_34 : decode cX1_walkCount 34 = .ok (.istore 4, 2) := by decide +kernel
theorem dX1_walkCount_36 : decode cX1_walkCount 36 = .ok (.iload 4, 2) := by decide +kernel
theorem dX1_walkCount_38 : decode cX1_walkCount 38 = .ok (.iload_n 3, 1) := by decide +kernel
theorem dX1_walkCount_39 : decode cX1_walkCount 39 = .ok (.if_icmp .ge 13, 3) := by decide +kernel
theorem dX1_walkCount_42 : decode cX1_walkCount 42 = .ok (.aload_n 0, 1) := by decide +kernel
theorem dX1_walkCount_43 : decode cX1_walkCount 43 = .ok (.invokevirtual 71, 3) := by decide +kernel
theorem dX1_walkCount_46 : decode cX1_walkCount 46 = .ok (.iinc 4 1, 3) := by decide +kernel
theorem dX1_walkCount_49 : decode cX1_walkCount 49 = .ok (.goto (-13), 3) := by decide +kernel
theorem dX1_walkCount_52 : decode cX1_walkCount 52 = .ok (.aload_n 0, 1) := by decide +kernel
theorem dX1_walkCount_53 : decode cX1_walkCount 53 = .ok (.getfield 21, 3) := by decide +kernel
theorem dX1_walkCount_56 : decode cX1_walkCount 56 = .ok (.iload_n 2, 1) := by decide +kernel
theorem dX1_walkCount_57 : decode cX1_walkCount 57 = .ok (.laload, 1) := by decide +kernel
theorem dX1_walkCount_58 : decode cX1_walkCount 58 = .ok (.lreturn, 1) := by decide +kernel
set_option maxRecDepth 20000 in
theorem ggX1_stepOn_X1_mayFollow : GoodIn wsX1_stepOn wsX1_mayFollow := goodIn_r _ [17, 18, 19, 20, 21, 16, 22, 1, 23, 24, 25, 26, 27, 28, 29, 30, 31] (by decide +kernel) (by decide +kernel)
set_option maxRecDepth 20000 in
theorem gX1_stepOn_X1_mayFollow : GoodIn wsX1_stepOn (wsV RX1 74 RX1 yX1_mayFollow wsX1_mayFollow) := goodIn_app (goodIn_of _ (by decide +kernel)) ggX1_stepOn_X1_mayFollow
theorem dX1_stepOn_0 : decode cX1_stepOn 0 = .ok (.iconst 0, 1) := by decide +kernel
theorem dX1_stepOn_1 : decode cX1_stepOn 1 = .ok (.istore_n 1, 1) := by decide +kernel
theorem dX1_stepOn_2 : decode cX1_stepOn 2 = .ok (.iload_n 1, 1) := by decide +kernel
theorem dX1_stepOn_3 : decode cX1_stepOn 3 = .ok (.aload_n 0, 1) := by decide +kernel
theorem dX1_stepOn_4 : decode cX1_stepOn 4 = .ok (.getfield 38, 3) := by decide +kernel
theorem dX1_stepOn_7 : decode cX1_stepOn 7 = .ok (.if_icmp .ge 62, 3) := by decide +kernel
theorem dX1_stepOn_10 : decode cX1_stepOn 10 = .ok (.lconst 0, 1) := by decide +kernel
theorem dX1_stepOn_11 : decode cX1_stepOn 11 = .ok (.lstore_n 2, 1) := by decide +kernel
theorem dX1_stepOn_12 : decode cX1_stepOn 12 = .ok (.iconst 0, 1) := by decide +kernel
theorem dX1_stepOn_13 : decode cX1_stepOn 13 = .ok (.istore 4, 2) := by decide +kernel
theorem dX1_stepOn_15 : decode cX1_stepOn 15 = .ok (.iload 4, 2) := by decide +kernel
theorem dX1_stepOn_17 : decode cX1_stepOn 17 = .ok (.aload_n 0, 1) := by decide +kernel
theorem dX1_stepOn_18 : decode cX1_stepOn 18 = .ok (.getfield 38, 3) := by decide +kernel
theorem dX1_stepOn_21 : decode cX1_stepOn 21 = .ok (.if_icmp .ge 29, 3) := by decide +kernel
theorem dX1_stepOn_24 : decode cX1_stepOn 24 = .ok (.aload_n 0, 1) := by decide +kernel
theorem dX1_stepOn_25 : decode cX1_stepOn 25 = .ok (.iload 4, 2) := by decide +kernel
theorem dX1_stepOn_27 : decode cX1_stepOn 27 = .ok (.iload_n 1, 1) := by decide +kernel
theorem dX1_stepOn_28 : decode cX1_stepOn 28 = .ok (.invokevirtual 74, 3) := by decide +kernel
theorem dX1_stepOn_31 : decode cX1_stepOn 31 = .ok (.ifCond .eq 13, 3) := by decide +kernel
theorem dX1_stepOn_34 : decode cX1_stepOn 34 = .ok (.lload_n 2, 1) := by decide +kernel
theorem dX1_stepOn_35 : decode cX1_stepOn 35 = .ok (.aload_n 0, 1) := by decide +kernel
theorem dX1_stepOn_36 : decode cX1_stepOn 36 = .ok (.getfield 21, 3) := by decide +kernel
theorem dX1_stepOn_39 : decode cX1_stepOn 39 = .ok (.iload 4, 2) := by decide +kernel
theorem dX1_stepOn_41 : decode cX1_stepOn 41 = .ok (.laload, 1) := by decide +kernel
theorem dX1_stepOn_42 : decode cX1_stepOn 42 = .ok (.ladd, 1) := by decide +kernel
theorem dX1_stepOn_43 : decode cX1_stepOn 43 = .ok (.lstore_n 2, 1) := by decide +kernel
theorem dX1_stepOn_44 : decode cX1_stepOn 44 = .ok (.iinc 4 1, 3) := by decide +kernel
theorem dX1_stepOn_47 : decode cX1_stepOn 47 = .ok (.goto (-32), 3) := by decide +kernel
theorem dX1_stepOn_50 : decode cX1_stepOn 50 = .ok (.aload_n 0, 1) := by decide +kernel
theorem dX1_stepOn_51 : decode cX1_stepOn 51 = .ok (.getfield 25, 3) := by decide +kernel
theorem dX1_stepOn_54 : decode cX1_stepOn 54 = .ok (.iload_n 1, 1) := by decide +kernel
theorem dX1_stepOn_55 : decode cX1_stepOn 55 = .ok (.lload_n 2, 1) := by decide +kernel
theorem dX1_stepOn_56 : decode cX1_stepOn 56 = .ok (.ldc2_w 60, 3) := by decide +kernel
theorem dX1_stepOn_59 : decode cX1_stepOn 59 = .ok (.invokestatic 62, 3) := by decide +kernel
theorem dX1_stepOn_62 : decode cX1_stepOn 62 = .ok (.lastore, 1) := by decide +kernel
theorem dX1_stepOn_63 : decode cX1_stepOn 63 = .ok (.iinc 1 1, 3) := by decide +kernel
theorem dX1_stepOn_66 : decode cX1_stepOn 66 = .ok (.goto (-64), 3) := by decide +kernel
theorem dX1_stepOn_69 : decode cX1_stepOn 69 = .ok (.aload_n 0, 1) := by decide +kernel
theorem dX1_stepOn_70 : decode cX1_stepOn 70 = .ok (.getfield 25, 3) := by decide +kernel
theorem dX1_stepOn_73 : decode cX1_stepOn 73 = .ok (.iconst 0, 1) := by decide +kernel
theorem dX1_stepOn_74 : decode cX1_stepOn 74 = .ok (.aload_n 0, 1) := by decide +kernel
theorem dX1_stepOn_75 : decode cX1_stepOn 75 = .ok (.getfield 21, 3) := by decide +kernel
theorem dX1_stepOn_78 : decode cX1_stepOn 78 = .ok (.iconst 0, 1) := by decide +kernel
theorem dX1_stepOn_79 : decode cX1_stepOn 79 = .ok (.aload_n 0, 1) := by decide +kernel
theorem dX1_stepOn_80 : decode cX1_stepOn 80 = .ok (.getfield 38, 3) := by decide +kernel
theorem dX1_stepOn_83 : decode cX1_stepOn 83 = .ok (.invokestatic 77, 3) := by decide +kernel
theorem dX1_stepOn_86 : decode cX1_stepOn 86 = .ok (.return_, 1) := by decide +kernel
set_option maxRecDepth 20000 in
theorem ggX1_findRing_X1_findWalk : GoodIn wsX1_findRing wsX1_findWalk := goodIn_r _ [6, 7, 8, 9, 10, 11, 12, 5, 13, 1, 14, 15, 16, 17, 18, 19, 20, 21, 22, 23, 24, 25, 26, 27, 28, 29] (by decide +kernel) (by decide +kernel)
set_option maxRecDepth 20000 in
theorem gX1_findRing_X1_findWalk : GoodIn wsX1_findRing (wsV RX1 83 RX1 yX1_findWalk wsX1_findWalk) := goodIn_app (goodIn_of _ (by decide +kernel)) ggX1_findRing_X1_findWalk
theorem dX1_findRing_0 : decode cX1_findRing 0 = .ok (.iconst 0, 1) := by decide +kernel
theorem dX1_findRing_1 : decode cX1_findRing 1 = .ok (.istore_n 2, 1) := by decide +kernel
theorem dX1_findRing_2 : decode cX1_findRing 2 = .ok (.iload_n 2, 1) := by decide +kernel
theorem dX1_findRing_3 : decode cX1_findRing 3 = .ok (.aload_n 0, 1) := by decide +kernel
theorem dX1_findRing_4 : decode cX1_findRing 4 = .ok (.getfield 38, 3) := by decide +kernel
theorem dX1_findRing_7 : decode cX1_findRing 7 = .ok (.if_icmp .ge 21, 3) := by decide +kernel
theorem dX1_findRing_10 : decode cX1_findRing 10 = .ok (.aload_n 0, 1) := by decide +kernel
theorem dX1_findRing_11 : decode cX1_findRing 11 = .ok (.iload_n 2, 1) := by decide +kernel
theorem dX1_findRing_12 : decode cX1_findRing 12 = .ok (.iload_n 2, 1) := by decide +kernel
theorem dX1_findRing_13 : decode cX1_findRing 13 = .ok (.iload_n 1, 1) := by decide +kernel
theorem dX1_findRing_14 : decode cX1_findRing 14 = .ok (.invokevirtual 83, 3) := by decide +kernel
theorem dX1_findRing_17 : decode cX1_findRing 17 = .ok (.ifCond .eq 5, 3) := by decide +kernel
theorem dX1_findRing_20 : decode cX1_findRing 20 = .ok (.iconst 1, 1) := by decide +kernel
theorem dX1_findRing_21 : decode cX1_findRing 21 = .ok (.ireturn, 1) := by decide +kernel
theorem dX1_findRing_22 : decode cX1_findRing 22 = .ok (.iinc 2 1, 3) := by decide +kernel
theorem dX1_findRing_25 : decode cX1_findRing 25 = .ok (.goto (-23), 3) := by decide +kernel
theorem dX1_findRing_28 : decode cX1_findRing 28 = .ok (.iconst 0, 1) := by decide +kernel
theorem dX1_findRing_29 : decode cX1_findRing 29 = .ok (.ireturn, 1) := by decide +kernel
set_option maxRecDepth 20000 in
theorem ggX1_findWalk_X1_has : GoodIn wsX1_findWalk wsX1_has := goodIn_r _ [8, 9, 20, 21, 22, 23, 24, 25] (by decide +kernel) (by decide +kernel)
set_option maxRecDepth 20000 in
theorem gX1_findWalk_X1_has : GoodIn wsX1_findWalk (wsV RX1 42 RX1 yX1_has wsX1_has) := goodIn_app (goodIn_of _ (by decide +kernel)) ggX1_findWalk_X1_has
set_option maxRecDepth 20000 in
theorem ggX1_findWalk_X1_lookBack : GoodIn wsX1_findWalk wsX1_lookBack := goodIn_r _ [13, 1, 9, 3, 20, 21, 22, 23, 24, 25] (by decide +kernel) (by decide +kernel)
set_option maxRecDepth 20000 in
theorem gX1_findWalk_X1_lookBack : GoodIn wsX1_findWalk (wsV RX1 87 RX1 yX1_lookBack wsX1_lookBack) := goodIn_app (goodIn_of _ (by decide +kernel)) ggX1_findWalk_X1_lookBack
set_option maxRecDepth 20000 in
theorem ggX1_findWalk_X1_holds : GoodIn wsX1_findWalk wsX1_holds := goodIn_r _ [16] (by decide +kernel) (by decide +kernel)
set_option maxRecDepth 20000 in
theorem gX1_findWalk_X1_holds : GoodIn wsX1_findWalk (va_wsS RX1 46 yX1_holds wsX1_holds) := goodIn_app (goodIn_of _ (by decide +kernel)) ggX1_findWalk_X1_holds
set_option maxRecDepth 20000 in
theorem ggX1_findWalk_X1_least : GoodIn wsX1_findWalk wsX1_least := goodIn_r _ [19, 14, 15, 7, 16] (by decide +kernel) (by decide +kernel)
set_option maxRecDepth 20000 in
theorem gX1_findWalk_X1_least : GoodIn wsX1_findWalk (va_wsS RX1 91 yX1_least wsX1_least) := goodIn_app (goodIn_of _ (by decide +kernel)) ggX1_findWalk_X1_least
theorem dX1_findWalk_0 : decode cX1_findWalk 0 = .ok (.aload_n 0, 1) := by decide +kernel
theorem dX1_findWalk_1 : decode cX1_findWalk 1 = .ok (.iload_n 1, 1) := by decide +kernel
theorem dX1_findWalk_2 : decode cX1_findWalk 2 = .ok (.invokevirtual 42, 3) := by decide +kernel
theorem dX1_findWalk_5 : decode cX1_findWalk 5 = .ok (.ifCond .eq 21, 3) := by decide +kernel
theorem dX1_findWalk_8 : decode cX1_findWalk 8 = .ok (.aload_n 0, 1) := by decide +kernel
theorem dX1_findWalk_9 : decode cX1_findWalk 9 = .ok (.iload_n 2, 1) := by decide +kernel
theorem dX1_findWalk_10 : decode cX1_findWalk 10 = .ok (.invokevirtual 42, 3) := by decide +kernel
theorem dX1_findWalk_13 : decode cX1_findWalk 13 = .ok (.ifCond .eq 13, 3) := by decide +kernel
theorem dX1_findWalk_16 : decode cX1_findWalk 16 = .ok (.iload_n 3, 1) := by decide +kernel
theorem dX1_findWalk_17 : decode cX1_findWalk 17 = .ok (.ifCond .lt 9, 3) := by decide +kernel
theorem dX1_findWalk_20 : decode cX1_findWalk 20 = .ok (.iload_n 3, 1) := by decide +kernel
theorem dX1_findWalk_21 : decode cX1_findWalk 21 = .ok (.bipush 60, 2) := by decide +kernel
theorem dX1_findWalk_23 : decode cX1_findWalk 23 = .ok (.if_icmp .le 5, 3) := by decide +kernel
theorem dX1_findWalk_26 : decode cX1_findWalk 26 = .ok (.iconst 0, 1) := by decide +kernel
theorem dX1_findWalk_27 : decode cX1_findWalk 27 = .ok (.ireturn, 1) := by decide +kernel
theorem dX1_findWalk_28 : decode cX1_findWalk 28 = .ok (.aload_n 0, 1) := by decide +kernel
theorem dX1_findWalk_29 : decode cX1_findWalk 29 = .ok (.iload_n 2, 1) := by decide +kernel
theorem dX1_findWalk_30 : decode cX1_findWalk 30 = .ok (.iload_n 3, 1) := by decide +kernel
theorem dX1_findWalk_31 : decode cX1_findWalk 31 = .ok (.invokevirtual 87, 3) := by decide +kernel
theorem dX1_findWalk_34 : decode cX1_findWalk 34 = .ok (.aload_n 0, 1) := by decide +kernel
theorem dX1_findWalk_35 : decode cX1_findWalk 35 = .ok (.getfield 18, 3) := by decide +kernel
theorem dX1_findWalk_38 : decode cX1_findWalk 38 = .ok (.iload_n 3, 1) := by decide +kernel
theorem dX1_findWalk_39 : decode cX1_findWalk 39 = .ok (.iaload, 1) := by decide +kernel
theorem dX1_findWalk_40 : decode cX1_findWalk 40 = .ok (.iload_n 1, 1) := by decide +kernel
theorem dX1_findWalk_41 : decode cX1_findWalk 41 = .ok (.invokestatic 46, 3) := by decide +kernel
theorem dX1_findWalk_44 : decode cX1_findWalk 44 = .ok (.ifCond .ne 5, 3) := by decide +kernel
theorem dX1_findWalk_47 : decode cX1_findWalk 47 = .ok (.iconst 0, 1) := by decide +kernel
theorem dX1_findWalk_48 : decode cX1_findWalk 48 = .ok (.ireturn, 1) := by decide +kernel
theorem dX1_findWalk_49 : decode cX1_findWalk 49 = .ok (.aload_n 0, 1) := by decide +kernel
theorem dX1_findWalk_50 : decode cX1_findWalk 50 = .ok (.getfield 15, 3) := by decide +kernel
theorem dX1_findWalk_53 : decode cX1_findWalk 53 = .ok (.iconst 0, 1) := by decide +kernel
theorem dX1_findWalk_54 : decode cX1_findWalk 54 = .ok (.iload_n 1, 1) := by decide +kernel
theorem dX1_findWalk_55 : decode cX1_findWalk 55 = .ok (.iastore, 1) := by decide +kernel
theorem dX1_findWalk_56 : decode cX1_findWalk 56 = .ok (.iload_n 1, 1) := by decide +kernel
theorem dX1_findWalk_57 : decode cX1_findWalk 57 = .ok (.istore 4, 2) := by decide +kernel
theorem dX1_findWalk_59 : decode cX1_findWalk 59 = .ok (.iconst 1, 1) := by decide +kernel
theorem dX1_findWalk_60 : decode cX1_findWalk 60 = .ok (.istore 5, 2) := by decide +kernel
theorem dX1_findWalk_62 : decode cX1_findWalk 62 = .ok (.iload 5, 2) := by decide +kernel
theorem dX1_findWalk_64 : decode cX1_findWalk 64 = .ok (.iload_n 3, 1) := by decide +kernel
theorem dX1_findWalk_65 : decode cX1_findWalk 65 = .ok (.if_icmp .gt 40, 3) := by decide +kernel
theorem dX1_findWalk_68 : decode cX1_findWalk 68 = .ok (.aload_n 0, 1) := by decide +kernel
theorem dX1_findWalk_69 : decode cX1_findWalk 69 = .ok (.getfield 9, 3) := by decide +kernel
theorem dX1_findWalk_72 : decode cX1_findWalk 72 = .ok (.iload 4, 2) := by decide +kernel
theorem dX1_findWalk_74 : decode cX1_findWalk 74 = .ok (.iaload, 1) := by decide +kernel
theorem dX1_findWalk_75 : decode cX1_findWalk 75 = .ok (.aload_n 0, 1) := by decide +kernel
theorem dX1_findWalk_76 : decode cX1_findWalk 76 = .ok (.getfield 18, 3) := by decide +kernel
theorem dX1_findWalk_79 : decode cX1_findWalk 79 = .ok (.iload_n 3, 1) := by decide +kernel
theorem dX1_findWalk_80 : decode cX1_findWalk 80 = .ok (.iload 5, 2) := by decide +kernel
theorem dX1_findWalk_82 : decode cX1_findWalk 82 = .ok (.isub, 1) := by decide +kernel
theorem dX1_findWalk_83 : decode cX1_findWalk 83 = .ok (.iaload, 1) := by decide +kernel
theorem dX1_findWalk_84 : decode cX1_findWalk 84 = .ok (.iand, 1) := by decide +kernel
theorem dX1_findWalk_85 : decode cX1_findWalk 85 = .ok (.invokestatic 91, 3) := by decide +kernel
theorem dX1_findWalk_88 : decode cX1_findWalk 88 = .ok (.istore 4, 2) := by decide +kernel
theorem dX1_findWalk_90 : decode cX1_findWalk 90 = .ok (.aload_n 0, 1) := by decide +kernel
theorem dX1_findWalk_91 : decode cX1_findWalk 91 = .ok (.getfield 15, 3) := by decide +kernel
theorem dX1_findWalk_94 : decode cX1_findWalk 94 = .ok (.iload 5, 2) := by decide +kernel
theorem dX1_findWalk_96 : decode cX1_findWalk 96 = .ok (.iload 4, 2) := by decide +kernel
theorem dX1_findWalk_98 : decode cX1_findWalk 98 = .ok (.iastore, 1) := by decide +kernel
theorem dX1_findWalk_99 : decode cX1_findWalk 99 = .ok (.iinc 5 1, 3) := by decide +kernel
theorem dX1_findWalk_102 : decode cX1_findWalk 102 = .ok (.goto (-40), 3) := by decide +kernel
theorem dX1_findWalk_105 : decode cX1_findWalk 105 = .ok (.iconst 1, 1) := by decide +kernel
theorem dX1_findWalk_106 : decode cX1_findWalk 106 = .ok (.ireturn, 1) := by decide +kernel
theorem dX1_lookBack_0 : decode cX1_lookBack 0 = .ok (.aload_n 0, 1) := by decide +kernel
theorem dX1_lookBack_1 : decode cX1_lookBack 1 = .ok (.getfield 18, 3) := by decide +kernel
theorem dX1_lookBack_4 : decode cX1_lookBack 4 = .ok (.iconst 0, 1) := by decide +kernel
theorem dX1_lookBack_5 : decode cX1_lookBack 5 = .ok (.iconst 1, 1) := by decide +kernel
theorem dX1_lookBack_6 : decode cX1_lookBack 6 = .ok (.iload_n 1, 1) := by decide +kernel
theorem dX1_lookBack_7 : decode cX1_lookBack 7 = .ok (.ishl, 1) := by decide +kernel
theorem dX1_lookBack_8 : decode cX1_lookBack 8 = .ok (.iastore, 1) := by decide +kernel
theorem dX1_lookBack_9 : decode cX1_lookBack 9 = .ok (.iconst 1, 1) := by decide +kernel
theorem dX1_lookBack_10 : decode cX1_lookBack 10 = .ok (.istore_n 3, 1) := by decide +kernel
theorem dX1_lookBack_11 : decode cX1_lookBack 11 = .ok (.iload_n 3, 1) := by decide +kernel
theorem dX1_lookBack_12 : decode cX1_lookBack 12 = .ok (.iload_n 2, 1) := by decide +kernel
theorem dX1_lookBack_13 : decode cX1_lookBack 13 = .ok (.if_icmp .gt 72, 3) := by decide +kernel
theorem dX1_lookBack_16 : decode cX1_lookBack 16 = .ok (.iload_n 3, 1) := by decide +kernel
theorem dX1_lookBack_17 : decode cX1_lookBack 17 = .ok (.bipush 60, 2) := by decide +kernel
theorem dX1_lookBack_19 : decode cX1_lookBack 19 = .ok (.if_icmp .gt 66, 3) := by decide +kernel
theorem dX1_lookBack_22 : decode cX1_lookBack 22 = .ok (.iconst 0, 1) := by decide +kernel
theorem dX1_lookBack_23 : decode cX1_lookBack 23 = .ok (.istore 4, 2) := by decide +kernel
theorem dX1_lookBack_25 : decode cX1_lookBack 25 = .ok (.iconst 0, 1) := by decide +kernel
theorem dX1_lookBack_26 : decode cX1_lookBack 26 = .ok (.istore 5, 2) := by decide +kernel
theorem dX1_lookBack_28 : decode cX1_lookBack 28 = .ok (.iload 5, 2) := by decide +kernel
theorem dX1_lookBack_30 : decode cX1_lookBack 30 = .ok (.aload_n 0, 1) := by decide +kernel
theorem dX1_lookBack_31 : decode cX1_lookBack 31 = .ok (.getfield 38, 3) := by decide +kernel
theorem dX1_lookBack_34 : decode cX1_lookBack 34 = .ok (.if_icmp .ge 37, 3) := by decide +kernel
theorem dX1_lookBack_37 : decode cX1_lookBack 37 = .ok (.aload_n 0, 1) := by decide +kernel
theorem dX1_lookBack_38 : decode cX1_lookBack 38 = .ok (.getfield 9, 3) := by decide +kernel
theorem dX1_lookBack_41 : decode cX1_lookBack 41 = .ok (.iload 5, 2) := by decide +kernel
theorem dX1_lookBack_43 : decode cX1_lookBack 43 = .ok (.iaload, 1) := by decide +kernel
theorem dX1_lookBack_44 : decode cX1_lookBack 44 = .ok (.aload_n 0, 1) := by decide +kernel
theorem dX1_lookBack_45 : decode cX1_lookBack 45 = .ok (.getfield 18, 3) := by decide +kernel
theorem dX1_lookBack_48 : decode cX1_lookBack 48 = .ok (.iload_n 3, 1) := by decide +kernel
theorem dX1_lookBack_49 : decode cX1_lookBack 49 = .ok (.iconst 1, 1) := by decide +kernel
theorem dX1_lookBack_50 : decode cX1_lookBack 50 = .ok (.isub, 1) := by decide +kernel
theorem dX1_lookBack_51 : decode cX1_lookBack 51 = .ok (.iaload, 1) := by decide +kernel
theorem dX1_lookBack_52 : decode cX1_lookBack 52 = .ok (.iand, 1) := by decide +kernel
theorem dX1_lookBack_53 : decode cX1_lookBack 53 = .ok (.ifCond .eq 12, 3) := by decide +kernel
theorem dX1_lookBack_56 : decode cX1_lookBack 56 = .ok (.iload 4, 2) := by decide +kernel
theorem dX1_lookBack_58 : decode cX1_lookBack 58 = .ok (.iconst 1, 1) := by decide +kernel
theorem dX1_lookBack_59 : decode cX1_lookBack 59 = .ok (.iload 5, 2) := by decide +kernel
theorem dX1_lookBack_61 : decode cX1_lookBack 61 = .ok (.ishl, 1) := by decide +kernel
theorem dX1_lookBack_62 : decode cX1_lookBack 62 = .ok (.ior, 1) := by decide +kernel
theorem dX1_lookBack_63 : decode cX1_lookBack 63 = .ok (.istore 4, 2) := by decide +kernel
theorem dX1_lookBack_65 : decode cX1_lookBack 65 = .ok (.iinc 5 1, 3) := by decide +kernel
theorem dX1_lookBack_68 : decode cX1_lookBack 68 = .ok (.goto (-40), 3) := by decide +kernel
theorem dX1_lookBack_71 : decode cX1_lookBack 71 = .ok (.aload_n 0, 1) := by decide +kernel
theorem dX1_lookBack_72 : decode cX1_lookBack 72 = .ok (.getfield 18, 3) := by decide +kernel
theorem dX1_lookBack_75 : decode cX1_lookBack 75 = .ok (.iload_n 3, 1) := by decide +kernel
theorem dX1_lookBack_76 : decode cX1_lookBack 76 = .ok (.iload 4, 2) := by decide +kernel
theorem dX1_lookBack_78 : decode cX1_lookBack 78 = .ok (.iastore, 1) := by decide +kernel
theorem dX1_lookBack_79 : decode cX1_lookBack 79 = .ok (.iinc 3 1, 3) := by decide +kernel
theorem dX1_lookBack_82 : decode cX1_lookBack 82 = .ok (.goto (-71), 3) := by decide +kernel
theorem dX1_lookBack_85 : decode cX1_lookBack 85 = .ok (.return_, 1) := by decide +kernel
set_option maxRecDepth 20000 in
theorem ggX1_leastOfBlock_X1_reachedFrom : GoodIn wsX1_leastOfBlock wsX1_reachedFrom := goodIn_r _ [5, 6, 7, 8, 9, 4, 10, 11, 12, 13, 14, 15, 16] (by decide +kernel) (by decide +kernel)
set_option maxRecDepth 20000 in
theorem gX1_leastOfBlock_X1_reachedFrom : GoodIn wsX1_leastOfBlock (wsV RX1 94 RX1 yX1_reachedFrom wsX1_reachedFrom) := goodIn_app (goodIn_of _ (by decide +kernel)) ggX1_leastOfBlock_X1_reachedFrom
set_option maxRecDepth 20000 in
theorem ggX1_leastOfBlock_X1_holds : GoodIn wsX1_leastOfBlock wsX1_holds := goodIn_r _ [10] (by decide +kernel) (by decide +kernel)
end
section
set_option maxRecDepth 20000 in
theorem gX1_leastOfBlock_X1_holds : GoodIn wsX1_leastOfBlock (va_wsS RX1 46 yX1_holds wsX1_holds) := goodIn_app (goodIn_of _ (by decide +kernel)) ggX1_leastOfBlock_X1_holds
theorem dX1_leastOfBlock_0 : decode cX1_leastOfBlock 0 = .ok (.aload_n 0, 1) := by decide +kernel
theorem dX1_leastOfBlock_1 : decode cX1_leastOfBlock 1 = .ok (.iload_n 1, 1) := by decide +kernel
theorem dX1_leastOfBlock_2 : decode cX1_leastOfBlock 2 = .ok (.invokevirtual 94, 3) := by decide +kernel
theorem dX1_leastOfBlock_5 : decode cX1_leastOfBlock 5 = .ok (.istore_n 2, 1) := by decide +kernel
theorem dX1_leastOfBlock_6 : decode cX1_leastOfBlock 6 = .ok (.iconst 0, 1) := by decide +kernel
theorem dX1_leastOfBlock_7 : decode cX1_leastOfBlock 7 = .ok (.istore_n 3, 1) := by decide +kernel
theorem dX1_leastOfBlock_8 : decode cX1_leastOfBlock 8 = .ok (.iload_n 3, 1) := by decide +kernel
theorem dX1_leastOfBlock_9 : decode cX1_leastOfBlock 9 = .ok (.iload_n 1, 1) := by decide +kernel
theorem dX1_leastOfBlock_10 : decode cX1_leastOfBlock 10 = .ok (.if_icmp .ge 31, 3) := by decide +kernel
theorem dX1_leastOfBlock_13 : decode cX1_leastOfBlock 13 = .ok (.iload_n 2, 1) := by decide +kernel
theorem dX1_leastOfBlock_14 : decode cX1_leastOfBlock 14 = .ok (.iload_n 3, 1) := by decide +kernel
theorem dX1_leastOfBlock_15 : decode cX1_leastOfBlock 15 = .ok (.invokestatic 46, 3) := by decide +kernel
theorem dX1_leastOfBlock_18 : decode cX1_leastOfBlock 18 = .ok (.ifCond .eq 17, 3) := by decide +kernel
theorem dX1_leastOfBlock_21 : decode cX1_leastOfBlock 21 = .ok (.aload_n 0, 1) := by decide +kernel
theorem dX1_leastOfBlock_22 : decode cX1_leastOfBlock 22 = .ok (.iload_n 3, 1) := by decide +kernel
theorem dX1_leastOfBlock_23 : decode cX1_leastOfBlock 23 = .ok (.invokevirtual 94, 3) := by decide +kernel
theorem dX1_leastOfBlock_26 : decode cX1_leastOfBlock 26 = .ok (.iload_n 1, 1) := by decide +kernel
theorem dX1_leastOfBlock_27 : decode cX1_leastOfBlock 27 = .ok (.invokestatic 46, 3) := by decide +kernel
theorem dX1_leastOfBlock_30 : decode cX1_leastOfBlock 30 = .ok (.ifCond .eq 5, 3) := by decide +kernel
theorem dX1_leastOfBlock_33 : decode cX1_leastOfBlock 33 = .ok (.iload_n 3, 1) := by decide +kernel
theorem dX1_leastOfBlock_34 : decode cX1_leastOfBlock 34 = .ok (.ireturn, 1) := by decide +kernel
theorem dX1_leastOfBlock_35 : decode cX1_leastOfBlock 35 = .ok (.iinc 3 1, 3) := by decide +kernel
theorem dX1_leastOfBlock_38 : decode cX1_leastOfBlock 38 = .ok (.goto (-30), 3) := by decide +kernel
theorem dX1_leastOfBlock_41 : decode cX1_leastOfBlock 41 = .ok (.iload_n 1, 1) := by decide +kernel
theorem dX1_leastOfBlock_42 : decode cX1_leastOfBlock 42 = .ok (.ireturn, 1) := by decide +kernel
set_option maxRecDepth 20000 in
theorem ggX1_reachedFrom_X1_holds : GoodIn wsX1_reachedFrom wsX1_holds := goodIn_r _ [6] (by decide +kernel) (by decide +kernel)
set_option maxRecDepth 20000 in
theorem gX1_reachedFrom_X1_holds : GoodIn wsX1_reachedFrom (va_wsS RX1 46 yX1_holds wsX1_holds) := goodIn_app (goodIn_of _ (by decide +kernel)) ggX1_reachedFrom_X1_holds
theorem dX1_reachedFrom_0 : decode cX1_reachedFrom 0 = .ok (.iconst 1, 1) := by decide +kernel
theorem dX1_reachedFrom_1 : decode cX1_reachedFrom 1 = .ok (.iload_n 1, 1) := by decide +kernel
theorem dX1_reachedFrom_2 : decode cX1_reachedFrom 2 = .ok (.ishl, 1) := by decide +kernel
theorem dX1_reachedFrom_3 : decode cX1_reachedFrom 3 = .ok (.istore_n 2, 1) := by decide +kernel
theorem dX1_reachedFrom_4 : decode cX1_reachedFrom 4 = .ok (.iconst 1, 1) := by decide +kernel
theorem dX1_reachedFrom_5 : decode cX1_reachedFrom 5 = .ok (.istore_n 3, 1) := by decide +kernel
theorem dX1_reachedFrom_6 : decode cX1_reachedFrom 6 = .ok (.iload_n 3, 1) := by decide +kernel
theorem dX1_reachedFrom_7 : decode cX1_reachedFrom 7 = .ok (.aload_n 0, 1) := by decide +kernel
theorem dX1_reachedFrom_8 : decode cX1_reachedFrom 8 = .ok (.getfield 38, 3) := by decide +kernel
theorem dX1_reachedFrom_11 : decode cX1_reachedFrom 11 = .ok (.if_icmp .ge 54, 3) := by decide +kernel
theorem dX1_reachedFrom_14 : decode cX1_reachedFrom 14 = .ok (.iload_n 2, 1) := by decide +kernel
theorem dX1_reachedFrom_15 : decode cX1_reachedFrom 15 = .ok (.istore 4, 2) := by decide +kernel
theorem dX1_reachedFrom_17 : decode cX1_reachedFrom 17 = .ok (.iconst 0, 1) := by decide +kernel
theorem dX1_reachedFrom_18 : decode cX1_reachedFrom 18 = .ok (.istore 5, 2) := by decide +kernel
theorem dX1_reachedFrom_20 : decode cX1_reachedFrom 20 = .ok (.iload 5, 2) := by decide +kernel
theorem dX1_reachedFrom_22 : decode cX1_reachedFrom 22 = .ok (.aload_n 0, 1) := by decide +kernel
theorem dX1_reachedFrom_23 : decode cX1_reachedFrom 23 = .ok (.getfield 38, 3) := by decide +kernel
theorem dX1_reachedFrom_26 : decode cX1_reachedFrom 26 = .ok (.if_icmp .ge 30, 3) := by decide +kernel
theorem dX1_reachedFrom_29 : decode cX1_reachedFrom 29 = .ok (.iload_n 2, 1) := by decide +kernel
theorem dX1_reachedFrom_30 : decode cX1_reachedFrom 30 = .ok (.iload 5, 2) := by decide +kernel
theorem dX1_reachedFrom_32 : decode cX1_reachedFrom 32 = .ok (.invokestatic 46, 3) := by decide +kernel
theorem dX1_reachedFrom_35 : decode cX1_reachedFrom 35 = .ok (.ifCond .eq 15, 3) := by decide +kernel
theorem dX1_reachedFrom_38 : decode cX1_reachedFrom 38 = .ok (.iload 4, 2) := by decide +kernel
theorem dX1_reachedFrom_40 : decode cX1_reachedFrom 40 = .ok (.aload_n 0, 1) := by decide +kernel
theorem dX1_reachedFrom_41 : decode cX1_reachedFrom 41 = .ok (.getfield 9, 3) := by decide +kernel
theorem dX1_reachedFrom_44 : decode cX1_reachedFrom 44 = .ok (.iload 5, 2) := by decide +kernel
theorem dX1_reachedFrom_46 : decode cX1_reachedFrom 46 = .ok (.iaload, 1) := by decide +kernel
theorem dX1_reachedFrom_47 : decode cX1_reachedFrom 47 = .ok (.ior, 1) := by decide +kernel
theorem dX1_reachedFrom_48 : decode cX1_reachedFrom 48 = .ok (.istore 4, 2) := by decide +kernel
theorem dX1_reachedFrom_50 : decode cX1_reachedFrom 50 = .ok (.iinc 5 1, 3) := by decide +kernel
theorem dX1_reachedFrom_53 : decode cX1_reachedFrom 53 = .ok (.goto (-33), 3) := by decide +kernel
theorem dX1_reachedFrom_56 : decode cX1_reachedFrom 56 = .ok (.iload 4, 2) := by decide +kernel
theorem dX1_reachedFrom_58 : decode cX1_reachedFrom 58 = .ok (.istore_n 2, 1) := by decide +kernel
theorem dX1_reachedFrom_59 : decode cX1_reachedFrom 59 = .ok (.iinc 3 1, 3) := by decide +kernel
theorem dX1_reachedFrom_62 : decode cX1_reachedFrom 62 = .ok (.goto (-56), 3) := by decide +kernel
theorem dX1_reachedFrom_65 : decode cX1_reachedFrom 65 = .ok (.iload_n 2, 1) := by decide +kernel
theorem dX1_reachedFrom_66 : decode cX1_reachedFrom 66 = .ok (.ireturn, 1) := by decide +kernel
set_option maxRecDepth 20000 in
theorem ggX1_paceOf_X1_returnLengths : GoodIn wsX1_paceOf wsX1_returnLengths := goodIn_r _ [7, 8, 9, 10, 11, 6, 12, 2, 13, 14, 15, 16, 20, 21, 22, 23, 24, 25] (by decide +kernel) (by decide +kernel)
set_option maxRecDepth 20000 in
theorem gX1_paceOf_X1_returnLengths : GoodIn wsX1_paceOf (wsV RX1 97 RX1 yX1_returnLengths wsX1_returnLengths) := goodIn_app (goodIn_of _ (by decide +kernel)) ggX1_paceOf_X1_returnLengths
set_option maxRecDepth 20000 in
theorem ggX1_paceOf_X1_dividesAll : GoodIn wsX1_paceOf wsX1_dividesAll := goodIn_r _ [19] (by decide +kernel) (by decide +kernel)
set_option maxRecDepth 20000 in
theorem gX1_paceOf_X1_dividesAll : GoodIn wsX1_paceOf (va_wsS RX1 103 yX1_dividesAll wsX1_dividesAll) := goodIn_app (goodIn_of _ (by decide +kernel)) ggX1_paceOf_X1_dividesAll
theorem dX1_paceOf_0 : decode cX1_paceOf 0 = .ok (.aload_n 0, 1) := by decide +kernel
theorem dX1_paceOf_1 : decode cX1_paceOf 1 = .ok (.iload_n 1, 1) := by decide +kernel
theorem dX1_paceOf_2 : decode cX1_paceOf 2 = .ok (.invokevirtual 97, 3) := by decide +kernel
theorem dX1_paceOf_5 : decode cX1_paceOf 5 = .ok (.ldc2_w 101, 3) := by decide +kernel
theorem dX1_paceOf_8 : decode cX1_paceOf 8 = .ok (.land, 1) := by decide +kernel
theorem dX1_paceOf_9 : decode cX1_paceOf 9 = .ok (.lstore_n 2, 1) := by decide +kernel
theorem dX1_paceOf_10 : decode cX1_paceOf 10 = .ok (.lload_n 2, 1) := by decide +kernel
theorem dX1_paceOf_11 : decode cX1_paceOf 11 = .ok (.lconst 0, 1) := by decide +kernel
theorem dX1_paceOf_12 : decode cX1_paceOf 12 = .ok (.lcmp, 1) := by decide +kernel
theorem dX1_paceOf_13 : decode cX1_paceOf 13 = .ok (.ifCond .ne 5, 3) := by decide +kernel
theorem dX1_paceOf_16 : decode cX1_paceOf 16 = .ok (.iconst 0, 1) := by decide +kernel
theorem dX1_paceOf_17 : decode cX1_paceOf 17 = .ok (.ireturn, 1) := by decide +kernel
theorem dX1_paceOf_18 : decode cX1_paceOf 18 = .ok (.aload_n 0, 1) := by decide +kernel
theorem dX1_paceOf_19 : decode cX1_paceOf 19 = .ok (.getfield 38, 3) := by decide +kernel
theorem dX1_paceOf_22 : decode cX1_paceOf 22 = .ok (.istore 4, 2) := by decide +kernel
theorem dX1_paceOf_24 : decode cX1_paceOf 24 = .ok (.iload 4, 2) := by decide +kernel
theorem dX1_paceOf_26 : decode cX1_paceOf 26 = .ok (.iconst 1, 1) := by decide +kernel
theorem dX1_paceOf_27 : decode cX1_paceOf 27 = .ok (.if_icmp .le 18, 3) := by decide +kernel
theorem dX1_paceOf_30 : decode cX1_paceOf 30 = .ok (.iload 4, 2) := by decide +kernel
theorem dX1_paceOf_32 : decode cX1_paceOf 32 = .ok (.lload_n 2, 1) := by decide +kernel
theorem dX1_paceOf_33 : decode cX1_paceOf 33 = .ok (.invokestatic 103, 3) := by decide +kernel
theorem dX1_paceOf_36 : decode cX1_paceOf 36 = .ok (.ifCond .ne 9, 3) := by decide +kernel
theorem dX1_paceOf_39 : decode cX1_paceOf 39 = .ok (.iinc 4 (-1), 3) := by decide +kernel
theorem dX1_paceOf_42 : decode cX1_paceOf 42 = .ok (.goto (-18), 3) := by decide +kernel
theorem dX1_paceOf_45 : decode cX1_paceOf 45 = .ok (.iload 4, 2) := by decide +kernel
theorem dX1_paceOf_47 : decode cX1_paceOf 47 = .ok (.ireturn, 1) := by decide +kernel
theorem dX1_dividesAll_0 : decode cX1_dividesAll 0 = .ok (.iconst 0, 1) := by decide +kernel
theorem dX1_dividesAll_1 : decode cX1_dividesAll 1 = .ok (.istore_n 3, 1) := by decide +kernel
theorem dX1_dividesAll_2 : decode cX1_dividesAll 2 = .ok (.iload_n 3, 1) := by decide +kernel
theorem dX1_dividesAll_3 : decode cX1_dividesAll 3 = .ok (.bipush 60, 2) := by decide +kernel
theorem dX1_dividesAll_5 : decode cX1_dividesAll 5 = .ok (.if_icmp .gt 32, 3) := by decide +kernel
theorem dX1_dividesAll_8 : decode cX1_dividesAll 8 = .ok (.lload_n 1, 1) := by decide +kernel
theorem dX1_dividesAll_9 : decode cX1_dividesAll 9 = .ok (.iload_n 3, 1) := by decide +kernel
theorem dX1_dividesAll_10 : decode cX1_dividesAll 10 = .ok (.lshr, 1) := by decide +kernel
theorem dX1_dividesAll_11 : decode cX1_dividesAll 11 = .ok (.lconst 1, 1) := by decide +kernel
theorem dX1_dividesAll_12 : decode cX1_dividesAll 12 = .ok (.land, 1) := by decide +kernel
theorem dX1_dividesAll_13 : decode cX1_dividesAll 13 = .ok (.lconst 1, 1) := by decide +kernel
theorem dX1_dividesAll_14 : decode cX1_dividesAll 14 = .ok (.lcmp, 1) := by decide +kernel
theorem dX1_dividesAll_15 : decode cX1_dividesAll 15 = .ok (.ifCond .ne 16, 3) := by decide +kernel
theorem dX1_dividesAll_18 : decode cX1_dividesAll 18 = .ok (.iload_n 0, 1) := by decide +kernel
theorem dX1_dividesAll_19 : decode cX1_dividesAll 19 = .ok (.iconst 1, 1) := by decide +kernel
theorem dX1_dividesAll_20 : decode cX1_dividesAll 20 = .ok (.if_icmp .lt 9, 3) := by decide +kernel
theorem dX1_dividesAll_23 : decode cX1_dividesAll 23 = .ok (.iload_n 3, 1) := by decide +kernel
theorem dX1_dividesAll_24 : decode cX1_dividesAll 24 = .ok (.iload_n 0, 1) := by decide +kernel
theorem dX1_dividesAll_25 : decode cX1_dividesAll 25 = .ok (.irem, 1) := by decide +kernel
theorem dX1_dividesAll_26 : decode cX1_dividesAll 26 = .ok (.ifCond .eq 5, 3) := by decide +kernel
theorem dX1_dividesAll_29 : decode cX1_dividesAll 29 = .ok (.iconst 0, 1) := by decide +kernel
theorem dX1_dividesAll_30 : decode cX1_dividesAll 30 = .ok (.ireturn, 1) := by decide +kernel
theorem dX1_dividesAll_31 : decode cX1_dividesAll 31 = .ok (.iinc 3 1, 3) := by decide +kernel
theorem dX1_dividesAll_34 : decode cX1_dividesAll 34 = .ok (.goto (-32), 3) := by decide +kernel
theorem dX1_dividesAll_37 : decode cX1_dividesAll 37 = .ok (.iconst 1, 1) := by decide +kernel
theorem dX1_dividesAll_38 : decode cX1_dividesAll 38 = .ok (.ireturn, 1) := by decide +kernel
set_option maxRecDepth 20000 in
theorem ggX1_returnLengths_X1_lookBack : GoodIn wsX1_returnLengths wsX1_lookBack := goodIn_r _ [6, 1, 7, 8, 12, 13, 14, 15, 16, 17] (by decide +kernel) (by decide +kernel)
set_option maxRecDepth 20000 in
theorem gX1_returnLengths_X1_lookBack : GoodIn wsX1_returnLengths (wsV RX1 87 RX1 yX1_lookBack wsX1_lookBack) := goodIn_app (goodIn_of _ (by decide +kernel)) ggX1_returnLengths_X1_lookBack
set_option maxRecDepth 20000 in
theorem ggX1_returnLengths_X1_holds : GoodIn wsX1_returnLengths wsX1_holds := goodIn_r _ [11] (by decide +kernel) (by decide +kernel)
set_option maxRecDepth 20000 in
theorem gX1_returnLengths_X1_holds : GoodIn wsX1_returnLengths (va_wsS RX1 46 yX1_holds wsX1_holds) := goodIn_app (goodIn_of _ (by decide +kernel)) ggX1_returnLengths_X1_holds
theorem dX1_returnLengths_0 : decode cX1_returnLengths 0 = .ok (.aload_n 0, 1) := by decide +kernel
theorem dX1_returnLengths_1 : decode cX1_returnLengths 1 = .ok (.iload_n 1, 1) := by decide +kernel
theorem dX1_returnLengths_2 : decode cX1_returnLengths 2 = .ok (.bipush 60, 2) := by decide +kernel
theorem dX1_returnLengths_4 : decode cX1_returnLengths 4 = .ok (.invokevirtual 87, 3) := by decide +kernel
theorem dX1_returnLengths_7 : decode cX1_returnLengths 7 = .ok (.lconst 0, 1) := by decide +kernel
theorem dX1_returnLengths_8 : decode cX1_returnLengths 8 = .ok (.lstore_n 2, 1) := by decide +kernel
theorem dX1_returnLengths_9 : decode cX1_returnLengths 9 = .ok (.iconst 0, 1) := by decide +kernel
theorem dX1_returnLengths_10 : decode cX1_returnLengths 10 = .ok (.istore 4, 2) := by decide +kernel
theorem dX1_returnLengths_12 : decode cX1_returnLengths 12 = .ok (.iload 4, 2) := by decide +kernel
theorem dX1_returnLengths_14 : decode cX1_returnLengths 14 = .ok (.bipush 60, 2) := by decide +kernel
theorem dX1_returnLengths_16 : decode cX1_returnLengths 16 = .ok (.if_icmp .gt 30, 3) := by decide +kernel
theorem dX1_returnLengths_19 : decode cX1_returnLengths 19 = .ok (.aload_n 0, 1) := by decide +kernel
theorem dX1_returnLengths_20 : decode cX1_returnLengths 20 = .ok (.getfield 18, 3) := by decide +kernel
theorem dX1_returnLengths_23 : decode cX1_returnLengths 23 = .ok (.iload 4, 2) := by decide +kernel
theorem dX1_returnLengths_25 : decode cX1_returnLengths 25 = .ok (.iaload, 1) := by decide +kernel
theorem dX1_returnLengths_26 : decode cX1_returnLengths 26 = .ok (.iload_n 1, 1) := by decide +kernel
theorem dX1_returnLengths_27 : decode cX1_returnLengths 27 = .ok (.invokestatic 46, 3) := by decide +kernel
theorem dX1_returnLengths_30 : decode cX1_returnLengths 30 = .ok (.ifCond .eq 10, 3) := by decide +kernel
theorem dX1_returnLengths_33 : decode cX1_returnLengths 33 = .ok (.lload_n 2, 1) := by decide +kernel
theorem dX1_returnLengths_34 : decode cX1_returnLengths 34 = .ok (.lconst 1, 1) := by decide +kernel
theorem dX1_returnLengths_35 : decode cX1_returnLengths 35 = .ok (.iload 4, 2) := by decide +kernel
theorem dX1_returnLengths_37 : decode cX1_returnLengths 37 = .ok (.lshl, 1) := by decide +kernel
theorem dX1_returnLengths_38 : decode cX1_returnLengths 38 = .ok (.lor, 1) := by decide +kernel
theorem dX1_returnLengths_39 : decode cX1_returnLengths 39 = .ok (.lstore_n 2, 1) := by decide +kernel
theorem dX1_returnLengths_40 : decode cX1_returnLengths 40 = .ok (.iinc 4 1, 3) := by decide +kernel
theorem dX1_returnLengths_43 : decode cX1_returnLengths 43 = .ok (.goto (-31), 3) := by decide +kernel
theorem dX1_returnLengths_46 : decode cX1_returnLengths 46 = .ok (.lload_n 2, 1) := by decide +kernel
theorem dX1_returnLengths_47 : decode cX1_returnLengths 47 = .ok (.lreturn, 1) := by decide +kernel
set_option maxRecDepth 20000 in
theorem ggX1_ringLengths_X1_returnLengths : GoodIn wsX1_ringLengths wsX1_returnLengths := goodIn_r _ [6, 7, 8, 9, 10, 5, 11, 1, 12, 13, 14, 15, 16, 17, 18, 19, 20, 21] (by decide +kernel) (by decide +kernel)
set_option maxRecDepth 20000 in
theorem gX1_ringLengths_X1_returnLengths : GoodIn wsX1_ringLengths (wsV RX1 97 RX1 yX1_returnLengths wsX1_returnLengths) := goodIn_app (goodIn_of _ (by decide +kernel)) ggX1_ringLengths_X1_returnLengths
theorem dX1_ringLengths_0 : decode cX1_ringLengths 0 = .ok (.lconst 0, 1) := by decide +kernel
theorem dX1_ringLengths_1 : decode cX1_ringLengths 1 = .ok (.lstore_n 1, 1) := by decide +kernel
theorem dX1_ringLengths_2 : decode cX1_ringLengths 2 = .ok (.iconst 0, 1) := by decide +kernel
theorem dX1_ringLengths_3 : decode cX1_ringLengths 3 = .ok (.istore_n 3, 1) := by decide +kernel
theorem dX1_ringLengths_4 : decode cX1_ringLengths 4 = .ok (.iload_n 3, 1) := by decide +kernel
theorem dX1_ringLengths_5 : decode cX1_ringLengths 5 = .ok (.aload_n 0, 1) := by decide +kernel
theorem dX1_ringLengths_6 : decode cX1_ringLengths 6 = .ok (.getfield 38, 3) := by decide +kernel
theorem dX1_ringLengths_9 : decode cX1_ringLengths 9 = .ok (.if_icmp .ge 17, 3) := by decide +kernel
theorem dX1_ringLengths_12 : decode cX1_ringLengths 12 = .ok (.lload_n 1, 1) := by decide +kernel
theorem dX1_ringLengths_13 : decode cX1_ringLengths 13 = .ok (.aload_n 0, 1) := by decide +kernel
theorem dX1_ringLengths_14 : decode cX1_ringLengths 14 = .ok (.iload_n 3, 1) := by decide +kernel
theorem dX1_ringLengths_15 : decode cX1_ringLengths 15 = .ok (.invokevirtual 97, 3) := by decide +kernel
theorem dX1_ringLengths_18 : decode cX1_ringLengths 18 = .ok (.lor, 1) := by decide +kernel
theorem dX1_ringLengths_19 : decode cX1_ringLengths 19 = .ok (.lstore_n 1, 1) := by decide +kernel
theorem dX1_ringLengths_20 : decode cX1_ringLengths 20 = .ok (.iinc 3 1, 3) := by decide +kernel
theorem dX1_ringLengths_23 : decode cX1_ringLengths 23 = .ok (.goto (-19), 3) := by decide +kernel
theorem dX1_ringLengths_26 : decode cX1_ringLengths 26 = .ok (.lload_n 1, 1) := by decide +kernel
theorem dX1_ringLengths_27 : decode cX1_ringLengths 27 = .ok (.lreturn, 1) := by decide +kernel
set_option maxRecDepth 20000 in
theorem ggX1_hasPaceOne_X1_paceOf : GoodIn wsX1_hasPaceOne wsX1_paceOf := goodIn_r _ [6, 7, 1, 8, 9, 10, 5, 11, 12, 13, 14, 15, 16, 17, 18, 19, 20, 21, 22, 23, 24, 25, 26, 27, 28, 29] (by decide +kernel) (by decide +kernel)
set_option maxRecDepth 20000 in
theorem gX1_hasPaceOne_X1_paceOf : GoodIn wsX1_hasPaceOne (wsV RX1 107 RX1 yX1_paceOf wsX1_paceOf) := goodIn_app (goodIn_of _ (by decide +kernel)) ggX1_hasPaceOne_X1_paceOf
theorem dX1_hasPaceOne_0 : decode cX1_hasPaceOne 0 = .ok (.iconst 0, 1) := by decide +kernel
theorem dX1_hasPaceOne_1 : decode cX1_hasPaceOne 1 = .ok (.istore_n 1, 1) := by decide +kernel
theorem dX1_hasPaceOne_2 : decode cX1_hasPaceOne 2 = .ok (.iload_n 1, 1) := by decide +kernel
theorem dX1_hasPaceOne_3 : decode cX1_hasPaceOne 3 = .ok (.aload_n 0, 1) := by decide +kernel
theorem dX1_hasPaceOne_4 : decode cX1_hasPaceOne 4 = .ok (.getfield 38, 3) := by decide +kernel
theorem dX1_hasPaceOne_7 : decode cX1_hasPaceOne 7 = .ok (.if_icmp .ge 20, 3) := by decide +kernel
theorem dX1_hasPaceOne_10 : decode cX1_hasPaceOne 10 = .ok (.aload_n 0, 1) := by decide +kernel
theorem dX1_hasPaceOne_11 : decode cX1_hasPaceOne 11 = .ok (.iload_n 1, 1) := by decide +kernel
theorem dX1_hasPaceOne_12 : decode cX1_hasPaceOne 12 = .ok (.invokevirtual 107, 3) := by decide +kernel
theorem dX1_hasPaceOne_15 : decode cX1_hasPaceOne 15 = .ok (.iconst 1, 1) := by decide +kernel
theorem dX1_hasPaceOne_16 : decode cX1_hasPaceOne 16 = .ok (.if_icmp .ne 5, 3) := by decide +kernel
theorem dX1_hasPaceOne_19 : decode cX1_hasPaceOne 19 = .ok (.iconst 1, 1) := by decide +kernel
theorem dX1_hasPaceOne_20 : decode cX1_hasPaceOne 20 = .ok (.ireturn, 1) := by decide +kernel
theorem dX1_hasPaceOne_21 : decode cX1_hasPaceOne 21 = .ok (.iinc 1 1, 3) := by decide +kernel
theorem dX1_hasPaceOne_24 : decode cX1_hasPaceOne 24 = .ok (.goto (-22), 3) := by decide +kernel
theorem dX1_hasPaceOne_27 : decode cX1_hasPaceOne 27 = .ok (.iconst 0, 1) := by decide +kernel
theorem dX1_hasPaceOne_28 : decode cX1_hasPaceOne 28 = .ok (.ireturn, 1) := by decide +kernel
set_option maxRecDepth 20000 in
theorem ggX1_kindOfTask_X1_ringLengths : GoodIn wsX1_kindOfTask wsX1_ringLengths := goodIn_r _ [7, 8, 9, 10, 11, 6, 12, 13, 14, 15, 16, 17, 18, 19, 20, 21, 33, 34, 35, 36, 37, 38] (by decide +kernel) (by decide +kernel)
set_option maxRecDepth 20000 in
theorem gX1_kindOfTask_X1_ringLengths : GoodIn wsX1_kindOfTask (wsV RX1 110 RX1 yX1_ringLengths wsX1_ringLengths) := goodIn_app (goodIn_of _ (by decide +kernel)) ggX1_kindOfTask_X1_ringLengths
set_option maxRecDepth 20000 in
theorem ggX1_kindOfTask_X1_hasPaceOne : GoodIn wsX1_kindOfTask wsX1_hasPaceOne := goodIn_r _ [25, 8, 26, 27, 28, 6, 29, 1, 9, 10, 11, 12, 13, 14, 15, 16, 17, 18, 19, 20, 21, 30, 31, 32, 33, 34, 35, 36, 37, 38] (by decide +kernel) (by decide +kernel)
set_option maxRecDepth 20000 in
theorem gX1_kindOfTask_X1_hasPaceOne : GoodIn wsX1_kindOfTask (wsV RX1 116 RX1 yX1_hasPaceOne wsX1_hasPaceOne) := goodIn_app (goodIn_of _ (by decide +kernel)) ggX1_kindOfTask_X1_hasPaceOne
theorem dX1_kindOfTask_0 : decode cX1_kindOfTask 0 = .ok (.aload_n 0, 1) := by decide +kernel
theorem dX1_kindOfTask_1 : decode cX1_kindOfTask 1 = .ok (.invokevirtual 110, 3) := by decide +kernel
theorem dX1_kindOfTask_4 : decode cX1_kindOfTask 4 = .ok (.ldc2_w 101, 3) := by decide +kernel
theorem dX1_kindOfTask_7 : decode cX1_kindOfTask 7 = .ok (.land, 1) := by decide +kernel
theorem dX1_kindOfTask_8 : decode cX1_kindOfTask 8 = .ok (.lstore_n 1, 1) := by decide +kernel
theorem dX1_kindOfTask_9 : decode cX1_kindOfTask 9 = .ok (.lload_n 1, 1) := by decide +kernel
theorem dX1_kindOfTask_10 : decode cX1_kindOfTask 10 = .ok (.lconst 0, 1) := by decide +kernel
theorem dX1_kindOfTask_11 : decode cX1_kindOfTask 11 = .ok (.lcmp, 1) := by decide +kernel
theorem dX1_kindOfTask_12 : decode cX1_kindOfTask 12 = .ok (.ifCond .ne 5, 3) := by decide +kernel
theorem dX1_kindOfTask_15 : decode cX1_kindOfTask 15 = .ok (.iconst 0, 1) := by decide +kernel
theorem dX1_kindOfTask_16 : decode cX1_kindOfTask 16 = .ok (.ireturn, 1) := by decide +kernel
theorem dX1_kindOfTask_17 : decode cX1_kindOfTask 17 = .ok (.lload_n 1, 1) := by decide +kernel
theorem dX1_kindOfTask_18 : decode cX1_kindOfTask 18 = .ok (.ldc2_w 114, 3) := by decide +kernel
theorem dX1_kindOfTask_21 : decode cX1_kindOfTask 21 = .ok (.land, 1) := by decide +kernel
theorem dX1_kindOfTask_22 : decode cX1_kindOfTask 22 = .ok (.lconst 0, 1) := by decide +kernel
theorem dX1_kindOfTask_23 : decode cX1_kindOfTask 23 = .ok (.lcmp, 1) := by decide +kernel
theorem dX1_kindOfTask_24 : decode cX1_kindOfTask 24 = .ok (.ifCond .eq 5, 3) := by decide +kernel
theorem dX1_kindOfTask_27 : decode cX1_kindOfTask 27 = .ok (.iconst 1, 1) := by decide +kernel
theorem dX1_kindOfTask_28 : decode cX1_kindOfTask 28 = .ok (.ireturn, 1) := by decide +kernel
theorem dX1_kindOfTask_29 : decode cX1_kindOfTask 29 = .ok (.aload_n 0, 1) := by decide +kernel
theorem dX1_kindOfTask_30 : decode cX1_kindOfTask 30 = .ok (.invokevirtual 116, 3) := by decide +kernel
theorem dX1_kindOfTask_33 : decode cX1_kindOfTask 33 = .ok (.ifCond .eq 7, 3) := by decide +kernel
theorem dX1_kindOfTask_36 : decode cX1_kindOfTask 36 = .ok (.iconst 2, 1) := by decide +kernel
theorem dX1_kindOfTask_37 : decode cX1_kindOfTask 37 = .ok (.goto 4, 3) := by decide +kernel
theorem dX1_kindOfTask_40 : decode cX1_kindOfTask 40 = .ok (.iconst 3, 1) := by decide +kernel
theorem dX1_kindOfTask_41 : decode cX1_kindOfTask 41 = .ok (.ireturn, 1) := by decide +kernel
set_option maxRecDepth 20000 in
theorem ggX1_isMirrored_X1_mayFollow : GoodIn wsX1_isMirrored wsX1_mayFollow := goodIn_r _ [6, 7, 8, 9, 10, 5, 11, 1, 12, 13, 14, 23, 24, 25, 26, 27, 28] (by decide +kernel) (by decide +kernel)
set_option maxRecDepth 20000 in
theorem gX1_isMirrored_X1_mayFollow : GoodIn wsX1_isMirrored (wsV RX1 74 RX1 yX1_mayFollow wsX1_mayFollow) := goodIn_app (goodIn_of _ (by decide +kernel)) ggX1_isMirrored_X1_mayFollow
set_option maxRecDepth 20000 in
theorem ggX1_isMirrored_X1_leastOfBlock : GoodIn wsX1_isMirrored wsX1_leastOfBlock := goodIn_r _ [18, 19, 20, 21, 5, 22, 1, 7, 12, 13, 14, 23, 24, 25, 26, 27, 28] (by decide +kernel) (by decide +kernel)
set_option maxRecDepth 20000 in
theorem gX1_isMirrored_X1_leastOfBlock : GoodIn wsX1_isMirrored (wsV RX1 120 RX1 yX1_leastOfBlock wsX1_leastOfBlock) := goodIn_app (goodIn_of _ (by decide +kernel)) ggX1_isMirrored_X1_leastOfBlock
theorem dX1_isMirrored_0 : decode cX1_isMirrored 0 = .ok (.iconst 0, 1) := by decide +kernel
theorem dX1_isMirrored_1 : decode cX1_isMirrored 1 = .ok (.istore_n 1, 1) := by decide +kernel
theorem dX1_isMirrored_2 : decode cX1_isMirrored 2 = .ok (.iload_n 1, 1) := by decide +kernel
theorem dX1_isMirrored_3 : decode cX1_isMirrored 3 = .ok (.aload_n 0, 1) := by decide +kernel
theorem dX1_isMirrored_4 : decode cX1_isMirrored 4 = .ok (.getfield 38, 3) := by decide +kernel
theorem dX1_isMirrored_7 : decode cX1_isMirrored 7 = .ok (.if_icmp .ge 62, 3) := by decide +kernel
theorem dX1_isMirrored_10 : decode cX1_isMirrored 10 = .ok (.iconst 0, 1) := by decide +kernel
theorem dX1_isMirrored_11 : decode cX1_isMirrored 11 = .ok (.istore_n 2, 1) := by decide +kernel
theorem dX1_isMirrored_12 : decode cX1_isMirrored 12 = .ok (.iload_n 2, 1) := by decide +kernel
theorem dX1_isMirrored_13 : decode cX1_isMirrored 13 = .ok (.iload_n 1, 1) := by decide +kernel
theorem dX1_isMirrored_14 : decode cX1_isMirrored 14 = .ok (.if_icmp .ge 49, 3) := by decide +kernel
theorem dX1_isMirrored_17 : decode cX1_isMirrored 17 = .ok (.aload_n 0, 1) := by decide +kernel
theorem dX1_isMirrored_18 : decode cX1_isMirrored 18 = .ok (.iload_n 1, 1) := by decide +kernel
theorem dX1_isMirrored_19 : decode cX1_isMirrored 19 = .ok (.iload_n 2, 1) := by decide +kernel
theorem dX1_isMirrored_20 : decode cX1_isMirrored 20 = .ok (.invokevirtual 74, 3) := by decide +kernel
theorem dX1_isMirrored_23 : decode cX1_isMirrored 23 = .ok (.aload_n 0, 1) := by decide +kernel
theorem dX1_isMirrored_24 : decode cX1_isMirrored 24 = .ok (.iload_n 2, 1) := by decide +kernel
theorem dX1_isMirrored_25 : decode cX1_isMirrored 25 = .ok (.iload_n 1, 1) := by decide +kernel
theorem dX1_isMirrored_26 : decode cX1_isMirrored 26 = .ok (.invokevirtual 74, 3) := by decide +kernel
theorem dX1_isMirrored_29 : decode cX1_isMirrored 29 = .ok (.if_icmp .eq 7, 3) := by decide +kernel
theorem dX1_isMirrored_32 : decode cX1_isMirrored 32 = .ok (.iconst 1, 1) := by decide +kernel
theorem dX1_isMirrored_33 : decode cX1_isMirrored 33 = .ok (.goto 4, 3) := by decide +kernel
theorem dX1_isMirrored_36 : decode cX1_isMirrored 36 = .ok (.iconst 0, 1) := by decide +kernel
theorem dX1_isMirrored_37 : decode cX1_isMirrored 37 = .ok (.istore_n 3, 1) := by decide +kernel
theorem dX1_isMirrored_38 : decode cX1_isMirrored 38 = .ok (.iload_n 3, 1) := by decide +kernel
theorem dX1_isMirrored_39 : decode cX1_isMirrored 39 = .ok (.ifCond .eq 18, 3) := by decide +kernel
theorem dX1_isMirrored_42 : decode cX1_isMirrored 42 = .ok (.aload_n 0, 1) := by decide +kernel
theorem dX1_isMirrored_43 : decode cX1_isMirrored 43 = .ok (.iload_n 1, 1) := by decide +kernel
theorem dX1_isMirrored_44 : decode cX1_isMirrored 44 = .ok (.invokevirtual 120, 3) := by decide +kernel
theorem dX1_isMirrored_47 : decode cX1_isMirrored 47 = .ok (.aload_n 0, 1) := by decide +kernel
theorem dX1_isMirrored_48 : decode cX1_isMirrored 48 = .ok (.iload_n 2, 1) := by decide +kernel
theorem dX1_isMirrored_49 : decode cX1_isMirrored 49 = .ok (.invokevirtual 120, 3) := by decide +kernel
theorem dX1_isMirrored_52 : decode cX1_isMirrored 52 = .ok (.if_icmp .ne 5, 3) := by decide +kernel
theorem dX1_isMirrored_55 : decode cX1_isMirrored 55 = .ok (.iconst 0, 1) := by decide +kernel
theorem dX1_isMirrored_56 : decode cX1_isMirrored 56 = .ok (.ireturn, 1) := by decide +kernel
theorem dX1_isMirrored_57 : decode cX1_isMirrored 57 = .ok (.iinc 2 1, 3) := by decide +kernel
theorem dX1_isMirrored_60 : decode cX1_isMirrored 60 = .ok (.goto (-48), 3) := by decide +kernel
theorem dX1_isMirrored_63 : decode cX1_isMirrored 63 = .ok (.iinc 1 1, 3) := by decide +kernel
theorem dX1_isMirrored_66 : decode cX1_isMirrored 66 = .ok (.goto (-64), 3) := by decide +kernel
theorem dX1_isMirrored_69 : decode cX1_isMirrored 69 = .ok (.iconst 1, 1) := by decide +kernel
theorem dX1_isMirrored_70 : decode cX1_isMirrored 70 = .ok (.ireturn, 1) := by decide +kernel
theorem dX1_holds_0 : decode cX1_holds 0 = .ok (.iload_n 0, 1) := by decide +kernel
theorem dX1_holds_1 : decode cX1_holds 1 = .ok (.iload_n 1, 1) := by decide +kernel
theorem dX1_holds_2 : decode cX1_holds 2 = .ok (.ishr, 1) := by decide +kernel
theorem dX1_holds_3 : decode cX1_holds 3 = .ok (.iconst 1, 1) := by decide +kernel
theorem dX1_holds_4 : decode cX1_holds 4 = .ok (.iand, 1) := by decide +kernel
theorem dX1_holds_5 : decode cX1_holds 5 = .ok (.iconst 1, 1) := by decide +kernel
theorem dX1_holds_6 : decode cX1_holds 6 = .ok (.if_icmp .ne 7, 3) := by decide +kernel
theorem dX1_holds_9 : decode cX1_holds 9 = .ok (.iconst 1, 1) := by decide +kernel
theorem dX1_holds_10 : decode cX1_holds 10 = .ok (.goto 4, 3) := by decide +kernel
theorem dX1_holds_13 : decode cX1_holds 13 = .ok (.iconst 0, 1) := by decide +kernel
theorem dX1_holds_14 : decode cX1_holds 14 = .ok (.ireturn, 1) := by decide +kernel
set_option maxRecDepth 20000 in
theorem ggX1_least_X1_holds : GoodIn wsX1_least wsX1_holds := goodIn_r _ [4] (by decide +kernel) (by decide +kernel)
set_option maxRecDepth 20000 in
theorem gX1_least_X1_holds : GoodIn wsX1_least (va_wsS RX1 46 yX1_holds wsX1_holds) := goodIn_app (goodIn_of _ (by decide +kernel)) ggX1_least_X1_holds
theorem dX1_least_0 : decode cX1_least 0 = .ok (.iconst 0, 1) := by decide +kernel
theorem dX1_least_1 : decode cX1_least 1 = .ok (.istore_n 1, 1) := by decide +kernel
theorem dX1_least_2 : decode cX1_least 2 = .ok (.iload_n 1, 1) := by decide +kernel
theorem dX1_least_3 : decode cX1_least 3 = .ok (.iconst 5, 1) := by decide +kernel
theorem dX1_least_4 : decode cX1_least 4 = .ok (.if_icmp .ge 17, 3) := by decide +kernel
theorem dX1_least_7 : decode cX1_least 7 = .ok (.iload_n 0, 1) := by decide +kernel
theorem dX1_least_8 : decode cX1_least 8 = .ok (.iload_n 1, 1) := by decide +kernel
theorem dX1_least_9 : decode cX1_least 9 = .ok (.invokestatic 46, 3) := by decide +kernel
theorem dX1_least_12 : decode cX1_least 12 = .ok (.ifCond .ne 9, 3) := by decide +kernel
theorem dX1_least_15 : decode cX1_least 15 = .ok (.iinc 1 1, 3) := by decide +kernel
theorem dX1_least_18 : decode cX1_least 18 = .ok (.goto (-16), 3) := by decide +kernel
theorem dX1_least_21 : decode cX1_least 21 = .ok (.iload_n 1, 1) := by decide +kernel
theorem dX1_least_22 : decode cX1_least 22 = .ok (.ireturn, 1) := by decide +kernel
set_option maxRecDepth 20000 in
theorem ggX2_init_X1_init : GoodIn wsX2_init wsX1_init := goodIn_r _ [14, 15, 2, 3, 16, 17, 18, 19, 20, 21, 22, 23, 24, 25, 6, 26, 27, 28, 29, 30, 31, 52, 53, 54, 55, 56, 57] (by decide +kernel) (by decide +kernel)
set_option maxRecDepth 20000 in
theorem gX2_init_X1_init : GoodIn wsX2_init (wsX1_init) := ggX2_init_X1_init
set_option maxRecDepth 20000 in
theorem ggX2_init_X0_init : GoodIn wsX2_init wsX0_init := goodIn_r _ [34, 35, 2, 3, 16, 36, 37, 38, 39, 40, 10, 41, 42, 28, 29, 30, 43, 44, 45, 46, 47, 48, 49, 50, 51, 60, 61, 62] (by decide +kernel) (by decide +kernel)
set_option maxRecDepth 20000 in
theorem gX2_init_X0_init : GoodIn wsX2_init (wsX0_init) := ggX2_init_X0_init
theorem dX2_init_0 : decode cX2_init 0 = .ok (.aload_n 0, 1) := by decide +kernel
theorem dX2_init_1 : decode cX2_init 1 = .ok (.invokespecial 1, 3) := by decide +kernel
theorem dX2_init_4 : decode cX2_init 4 = .ok (.aload_n 0, 1) := by decide +kernel
theorem dX2_init_5 : decode cX2_init 5 = .ok (.new 7, 3) := by decide +kernel
theorem dX2_init_8 : decode cX2_init 8 = .ok (.dup, 1) := by decide +kernel
theorem dX2_init_9 : decode cX2_init 9 = .ok (.iconst 3, 1) := by decide +kernel
theorem dX2_init_10 : decode cX2_init 10 = .ok (.invokespecial 9, 3) := by decide +kernel
theorem dX2_init_13 : decode cX2_init 13 = .ok (.putfield 12, 3) := by decide +kernel
theorem dX2_init_16 : decode cX2_init 16 = .ok (.aload_n 0, 1) := by decide +kernel
theorem dX2_init_17 : decode cX2_init 17 = .ok (.new 18, 3) := by decide +kernel
theorem dX2_init_20 : decode cX2_init 20 = .ok (.dup, 1) := by decide +kernel
theorem dX2_init_21 : decode cX2_init 21 = .ok (.iconst 3, 1) := by decide +kernel
theorem dX2_init_22 : decode cX2_init 22 = .ok (.invokespecial 20, 3) := by decide +kernel
theorem dX2_init_25 : decode cX2_init 25 = .ok (.putfield 21, 3) := by decide +kernel
theorem dX2_init_28 : decode cX2_init 28 = .ok (.return_, 1) := by decide +kernel
set_option maxRecDepth 20000 in
theorem ggX2_labels_X1_restart : GoodIn wsX2_labels wsX1_restart := goodIn_r _ [8, 9, 10, 11, 12, 13, 14, 27, 28, 29, 30, 31, 32] (by decide +kernel) (by decide +kernel)
set_option maxRecDepth 20000 in
theorem gX2_labels_X1_restart : GoodIn wsX2_labels (wsV RX2 29 RX1 yX1_restart wsX1_restart) := goodIn_app (goodIn_of _ (by decide +kernel)) ggX2_labels_X1_restart
set_option maxRecDepth 20000 in
theorem ggX2_labels_X0_clearLabels : GoodIn wsX2_labels wsX0_clearLabels := goodIn_r _ [19, 20, 21, 22, 23, 24, 33, 34, 35] (by decide +kernel) (by decide +kernel)
set_option maxRecDepth 20000 in
theorem gX2_labels_X0_clearLabels : GoodIn wsX2_labels (wsV RX2 32 RX0 yX0_clearLabels wsX0_clearLabels) := goodIn_app (goodIn_of _ (by decide +kernel)) ggX2_labels_X0_clearLabels
theorem dX2_labels_0 : decode cX2_labels 0 = .ok (.iload_n 1, 1) := by decide +kernel
theorem dX2_labels_1 : decode cX2_labels 1 = .ok (.iconst 1, 1) := by decide +kernel
theorem dX2_labels_2 : decode cX2_labels 2 = .ok (.if_icmp .lt 9, 3) := by decide +kernel
theorem dX2_labels_5 : decode cX2_labels 5 = .ok (.iload_n 1, 1) := by decide +kernel
theorem dX2_labels_6 : decode cX2_labels 6 = .ok (.bipush 6, 2) := by decide +kernel
theorem dX2_labels_8 : decode cX2_labels 8 = .ok (.if_icmp .le 6, 3) := by decide +kernel
theorem dX2_labels_11 : decode cX2_labels 11 = .ok (.bipush (-2), 2) := by decide +kernel
theorem dX2_labels_13 : decode cX2_labels 13 = .ok (.ireturn, 1) := by decide +kernel
theorem dX2_labels_14 : decode cX2_labels 14 = .ok (.aload_n 0, 1) := by decide +kernel
theorem dX2_labels_15 : decode cX2_labels 15 = .ok (.getfield 12, 3) := by decide +kernel
theorem dX2_labels_18 : decode cX2_labels 18 = .ok (.getfield 25, 3) := by decide +kernel
theorem dX2_labels_21 : decode cX2_labels 21 = .ok (.istore_n 2, 1) := by decide +kernel
theorem dX2_labels_22 : decode cX2_labels 22 = .ok (.aload_n 0, 1) := by decide +kernel
theorem dX2_labels_23 : decode cX2_labels 23 = .ok (.getfield 12, 3) := by decide +kernel
theorem dX2_labels_26 : decode cX2_labels 26 = .ok (.iload_n 1, 1) := by decide +kernel
theorem dX2_labels_27 : decode cX2_labels 27 = .ok (.invokevirtual 29, 3) := by decide +kernel
theorem dX2_labels_30 : decode cX2_labels 30 = .ok (.aload_n 0, 1) := by decide +kernel
theorem dX2_labels_31 : decode cX2_labels 31 = .ok (.getfield 21, 3) := by decide +kernel
theorem dX2_labels_34 : decode cX2_labels 34 = .ok (.invokevirtual 32, 3) := by decide +kernel
theorem dX2_labels_37 : decode cX2_labels 37 = .ok (.iload_n 2, 1) := by decide +kernel
theorem dX2_labels_38 : decode cX2_labels 38 = .ok (.ireturn, 1) := by decide +kernel
set_option maxRecDepth 20000 in
theorem ggX2_allow_X1_has : GoodIn wsX2_allow wsX1_has := goodIn_r _ [6, 7, 27, 28, 29, 30, 31, 32] (by decide +kernel) (by decide +kernel)
set_option maxRecDepth 20000 in
theorem gX2_allow_X1_has : GoodIn wsX2_allow (wsV RX2 35 RX1 yX1_has wsX1_has) := goodIn_app (goodIn_of _ (by decide +kernel)) ggX2_allow_X1_has
set_option maxRecDepth 20000 in
theorem ggX2_allow_X1_mayFollow : GoodIn wsX2_allow wsX1_mayFollow := goodIn_r _ [11, 12, 13, 3, 4, 5, 6, 7, 14, 15, 16, 27, 28, 29, 30, 31, 32] (by decide +kernel) (by decide +kernel)
set_option maxRecDepth 20000 in
theorem gX2_allow_X1_mayFollow : GoodIn wsX2_allow (wsV RX2 39 RX1 yX1_mayFollow wsX1_mayFollow) := goodIn_app (goodIn_of _ (by decide +kernel)) ggX2_allow_X1_mayFollow
set_option maxRecDepth 20000 in
theorem ggX2_allow_X2_asNumber : GoodIn wsX2_allow wsX2_asNumber := goodIn_r _ [20] (by decide +kernel) (by decide +kernel)
set_option maxRecDepth 20000 in
theorem gX2_allow_X2_asNumber : GoodIn wsX2_allow (va_wsS RX2 43 yX2_asNumber wsX2_asNumber) := goodIn_app (goodIn_of _ (by decide +kernel)) ggX2_allow_X2_asNumber
set_option maxRecDepth 20000 in
theorem ggX2_allow_X1_decide : GoodIn wsX2_allow wsX1_decide := goodIn_r _ [24, 12, 13, 3, 4, 5, 6, 7, 27, 28, 29, 30, 31, 32] (by decide +kernel) (by decide +kernel)
set_option maxRecDepth 20000 in
theorem gX2_allow_X1_decide : GoodIn wsX2_allow (wsV RX2 47 RX1 yX1_decide wsX1_decide) := goodIn_app (goodIn_of _ (by decide +kernel)) ggX2_allow_X1_decide
theorem dX2_allow_0 : decode cX2_allow 0 = .ok (.aload_n 0, 1) := by decide +kernel
theorem dX2_allow_1 : decode cX2_allow 1 = .ok (.getfield 12, 3) := by decide +kernel
theorem dX2_allow_4 : decode cX2_allow 4 = .ok (.iload_n 1, 1) := by decide +kernel
theorem dX2_allow_5 : decode cX2_allow 5 = .ok (.invokevirtual 35, 3) := by decide +kernel
theorem dX2_allow_8 : decode cX2_allow 8 = .ok (.ifCond .eq 14, 3) := by decide +kernel
theorem dX2_allow_11 : decode cX2_allow 11 = .ok (.aload_n 0, 1) := by decide +kernel
theorem dX2_allow_12 : decode cX2_allow 12 = .ok (.getfield 12, 3) := by decide +kernel
theorem dX2_allow_15 : decode cX2_allow 15 = .ok (.iload_n 2, 1) := by decide +kernel
theorem dX2_allow_16 : decode cX2_allow 16 = .ok (.invokevirtual 35, 3) := by decide +kernel
theorem dX2_allow_19 : decode cX2_allow 19 = .ok (.ifCond .ne 5, 3) := by decide +kernel
theorem dX2_allow_22 : decode cX2_allow 22 = .ok (.iconst (-1), 1) := by decide +kernel
theorem dX2_allow_23 : decode cX2_allow 23 = .ok (.ireturn, 1) := by decide +kernel
theorem dX2_allow_24 : decode cX2_allow 24 = .ok (.aload_n 0, 1) := by decide +kernel
theorem dX2_allow_25 : decode cX2_allow 25 = .ok (.getfield 12, 3) := by decide +kernel
theorem dX2_allow_28 : decode cX2_allow 28 = .ok (.iload_n 1, 1) := by decide +kernel
theorem dX2_allow_29 : decode cX2_allow 29 = .ok (.iload_n 2, 1) := by decide +kernel
theorem dX2_allow_30 : decode cX2_allow 30 = .ok (.invokevirtual 39, 3) := by decide +kernel
theorem dX2_allow_33 : decode cX2_allow 33 = .ok (.invokestatic 43, 3) := by decide +kernel
theorem dX2_allow_36 : decode cX2_allow 36 = .ok (.istore 4, 2) := by decide +kernel
theorem dX2_allow_38 : decode cX2_allow 38 = .ok (.aload_n 0, 1) := by decide +kernel
theorem dX2_allow_39 : decode cX2_allow 39 = .ok (.getfield 12, 3) := by decide +kernel
theorem dX2_allow_42 : decode cX2_allow 42 = .ok (.iload_n 1, 1) := by decide +kernel
theorem dX2_allow_43 : decode cX2_allow 43 = .ok (.iload_n 2, 1) := by decide +kernel
theorem dX2_allow_44 : decode cX2_allow 44 = .ok (.iload_n 3, 1) := by decide +kernel
theorem dX2_allow_45 : decode cX2_allow 45 = .ok (.invokevirtual 47, 3) := by decide +kernel
theorem dX2_allow_48 : decode cX2_allow 48 = .ok (.iload 4, 2) := by decide +kernel
theorem dX2_allow_50 : decode cX2_allow 50 = .ok (.ireturn, 1) := by decide +kernel
set_option maxRecDepth 20000 in
theorem ggX2_may_X1_has : GoodIn wsX2_may wsX1_has := goodIn_r _ [6, 7, 23, 24, 25, 26, 27, 28] (by decide +kernel) (by decide +kernel)
set_option maxRecDepth 20000 in
theorem gX2_may_X1_has : GoodIn wsX2_may (wsV RX2 35 RX1 yX1_has wsX1_has) := goodIn_app (goodIn_of _ (by decide +kernel)) ggX2_may_X1_has
set_option maxRecDepth 20000 in
theorem ggX2_may_X1_mayFollow : GoodIn wsX2_may wsX1_mayFollow := goodIn_r _ [11, 12, 13, 3, 4, 5, 6, 7, 14, 15, 16, 23, 24, 25, 26, 27, 28] (by decide +kernel) (by decide +kernel)
set_option maxRecDepth 20000 in
theorem gX2_may_X1_mayFollow : GoodIn wsX2_may (wsV RX2 39 RX1 yX1_mayFollow wsX1_mayFollow) := goodIn_app (goodIn_of _ (by decide +kernel)) ggX2_may_X1_mayFollow
set_option maxRecDepth 20000 in
theorem ggX2_may_X2_asNumber : GoodIn wsX2_may wsX2_asNumber := goodIn_r _ [20] (by decide +kernel) (by decide +kernel)
set_option maxRecDepth 20000 in
theorem gX2_may_X2_asNumber : GoodIn wsX2_may (va_wsS RX2 43 yX2_asNumber wsX2_asNumber) := goodIn_app (goodIn_of _ (by decide +kernel)) ggX2_may_X2_asNumber
theorem dX2_may_0 : decode cX2_may 0 = .ok (.aload_n 0, 1) := by decide +kernel
theorem dX2_may_1 : decode cX2_may 1 = .ok (.getfield 12, 3) := by decide +kernel
theorem dX2_may_4 : decode cX2_may 4 = .ok (.iload_n 1, 1) := by decide +kernel
theorem dX2_may_5 : decode cX2_may 5 = .ok (.invokevirtual 35, 3) := by decide +kernel
theorem dX2_may_8 : decode cX2_may 8 = .ok (.ifCond .eq 14, 3) := by decide +kernel
theorem dX2_may_11 : decode cX2_may 11 = .ok (.aload_n 0, 1) := by decide +kernel
theorem dX2_may_12 : decode cX2_may 12 = .ok (.getfield 12, 3) := by decide +kernel
theorem dX2_may_15 : decode cX2_may 15 = .ok (.iload_n 2, 1) := by decide +kernel
theorem dX2_may_16 : decode cX2_may 16 = .ok (.invokevirtual 35, 3) := by decide +kernel
theorem dX2_may_19 : decode cX2_may 19 = .ok (.ifCond .ne 5, 3) := by decide +kernel
theorem dX2_may_22 : decode cX2_may 22 = .ok (.iconst (-1), 1) := by decide +kernel
theorem dX2_may_23 : decode cX2_may 23 = .ok (.ireturn, 1) := by decide +kernel
theorem dX2_may_24 : decode cX2_may 24 = .ok (.aload_n 0, 1) := by decide +kernel
theorem dX2_may_25 : decode cX2_may 25 = .ok (.getfield 12, 3) := by decide +kernel
theorem dX2_may_28 : decode cX2_may 28 = .ok (.iload_n 1, 1) := by decide +kernel
theorem dX2_may_29 : decode cX2_may 29 = .ok (.iload_n 2, 1) := by decide +kernel
theorem dX2_may_30 : decode cX2_may 30 = .ok (.invokevirtual 39, 3) := by decide +kernel
theorem dX2_may_33 : decode cX2_may 33 = .ok (.invokestatic 43, 3) := by decide +kernel
theorem dX2_may_36 : decode cX2_may 36 = .ok (.ireturn, 1) := by decide +kernel
set_option maxRecDepth 20000 in
theorem ggX2_rings_X2_isRingSize : GoodIn wsX2_rings wsX2_isRingSize := goodIn_r _ [6] (by decide +kernel) (by decide +kernel)
set_option maxRecDepth 20000 in
theorem gX2_rings_X2_isRingSize : GoodIn wsX2_rings (va_wsS RX2 51 yX2_isRingSize wsX2_isRingSize) := goodIn_app (goodIn_of _ (by decide +kernel)) ggX2_rings_X2_isRingSize
set_option maxRecDepth 20000 in
theorem ggX2_rings_X1_ringCount : GoodIn wsX2_rings wsX1_ringCount := goodIn_r _ [11, 12, 13, 14, 15, 16, 17, 18, 19, 20, 10, 21, 22, 23, 24, 25, 26, 27, 28, 29, 30, 31, 32, 33, 34, 35, 36, 37, 38, 39, 40, 41, 42, 43, 44, 45, 46, 47, 50, 51, 52, 53, 54, 55] (by decide +kernel) (by decide +kernel)
set_option maxRecDepth 20000 in
theorem gX2_rings_X1_ringCount : GoodIn wsX2_rings (wsV RX2 56 RX1 yX1_ringCount wsX1_ringCount) := goodIn_app (goodIn_of _ (by decide +kernel)) ggX2_rings_X1_ringCount
theorem dX2_rings_0 : decode cX2_rings 0 = .ok (.iload_n 1, 1) := by decide +kernel
theorem dX2_rings_1 : decode cX2_rings 1 = .ok (.invokestatic 51, 3) := by decide +kernel
theorem dX2_rings_4 : decode cX2_rings 4 = .ok (.ifCond .ne 7, 3) := by decide +kernel
theorem dX2_rings_7 : decode cX2_rings 7 = .ok (.ldc2_w 54, 3) := by decide +kernel
theorem dX2_rings_10 : decode cX2_rings 10 = .ok (.lreturn, 1) := by decide +kernel
theorem dX2_rings_11 : decode cX2_rings 11 = .ok (.aload_n 0, 1) := by decide +kernel
theorem dX2_rings_12 : decode cX2_rings 12 = .ok (.getfield 12, 3) := by decide +kernel
theorem dX2_rings_15 : decode cX2_rings 15 = .ok (.iload_n 1, 1) := by decide +kernel
theorem dX2_rings_16 : decode cX2_rings 16 = .ok (.invokevirtual 56, 3) := by decide +kernel
theorem dX2_rings_19 : decode cX2_rings 19 = .ok (.lreturn, 1) := by decide +kernel
set_option maxRecDepth 20000 in
theorem ggX2_first_X2_isRingSize : GoodIn wsX2_first wsX2_isRingSize := goodIn_r _ [6] (by decide +kernel) (by decide +kernel)
set_option maxRecDepth 20000 in
theorem gX2_first_X2_isRingSize : GoodIn wsX2_first (va_wsS RX2 51 yX2_isRingSize wsX2_isRingSize) := goodIn_app (goodIn_of _ (by decide +kernel)) ggX2_first_X2_isRingSize
set_option maxRecDepth 20000 in
theorem ggX2_first_X1_findRing : GoodIn wsX2_first wsX1_findRing := goodIn_r _ [11, 12, 13, 14, 15, 10, 16, 17, 18, 19, 20, 21, 22, 23, 24, 25, 26, 27, 28, 29, 30, 31, 32, 33, 36, 37, 38, 39, 40, 41] (by decide +kernel) (by decide +kernel)
set_option maxRecDepth 20000 in
theorem gX2_first_X1_findRing : GoodIn wsX2_first (wsV RX2 60 RX1 yX1_findRing wsX1_findRing) := goodIn_app (goodIn_of _ (by decide +kernel)) ggX2_first_X1_findRing
theorem dX2_first_0 : decode cX2_first 0 = .ok (.iload_n 1, 1) := by decide +kernel
theorem dX2_first_1 : decode cX2_first 1 = .ok (.invokestatic 51, 3) := by decide +kernel
theorem dX2_first_4 : decode cX2_first 4 = .ok (.ifCond .ne 6, 3) := by decide +kernel
theorem dX2_first_7 : decode cX2_first 7 = .ok (.bipush (-2), 2) := by decide +kernel
theorem dX2_first_9 : decode cX2_first 9 = .ok (.ireturn, 1) := by decide +kernel
theorem dX2_first_10 : decode cX2_first 10 = .ok (.iload_n 2, 1) := by decide +kernel
theorem dX2_first_11 : decode cX2_first 11 = .ok (.ifCond .lt 8, 3) := by decide +kernel
theorem dX2_first_14 : decode cX2_first 14 = .ok (.iload_n 2, 1) := by decide +kernel
theorem dX2_first_15 : decode cX2_first 15 = .ok (.iload_n 1, 1) := by decide +kernel
theorem dX2_first_16 : decode cX2_first 16 = .ok (.if_icmp .lt 5, 3) := by decide +kernel
theorem dX2_first_19 : decode cX2_first 19 = .ok (.iconst (-1), 1) := by decide +kernel
theorem dX2_first_20 : decode cX2_first 20 = .ok (.ireturn, 1) := by decide +kernel
theorem dX2_first_21 : decode cX2_first 21 = .ok (.aload_n 0, 1) := by decide +kernel
theorem dX2_first_22 : decode cX2_first 22 = .ok (.getfield 12, 3) := by decide +kernel
theorem dX2_first_25 : decode cX2_first 25 = .ok (.iload_n 1, 1) := by decide +kernel
theorem dX2_first_26 : decode cX2_first 26 = .ok (.invokevirtual 60, 3) := by decide +kernel
theorem dX2_first_29 : decode cX2_first 29 = .ok (.ifCond .eq 15, 3) := by decide +kernel
theorem dX2_first_32 : decode cX2_first 32 = .ok (.aload_n 0, 1) := by decide +kernel
theorem dX2_first_33 : decode cX2_first 33 = .ok (.getfield 12, 3) := by decide +kernel
theorem dX2_first_36 : decode cX2_first 36 = .ok (.getfield 63, 3) := by decide +kernel
theorem dX2_first_39 : decode cX2_first 39 = .ok (.iload_n 2, 1) := by decide +kernel
theorem dX2_first_40 : decode cX2_first 40 = .ok (.iaload, 1) := by decide +kernel
theorem dX2_first_41 : decode cX2_first 41 = .ok (.goto 5, 3) := by decide +kernel
theorem dX2_first_44 : decode cX2_first 44 = .ok (.bipush (-9), 2) := by decide +kernel
theorem dX2_first_46 : decode cX2_first 46 = .ok (.ireturn, 1) := by decide +kernel
end
section
set_option maxRecDepth 20000 in
theorem ggX2_walks_X1_has : GoodIn wsX2_walks wsX1_has := goodIn_r _ [8, 9, 44, 45, 46, 47, 48, 49] (by decide +kernel) (by decide +kernel)
set_option maxRecDepth 20000 in
theorem gX2_walks_X1_has : GoodIn wsX2_walks (wsV RX2 35 RX1 yX1_has wsX1_has) := goodIn_app (goodIn_of _ (by decide +kernel)) ggX2_walks_X1_has
set_option maxRecDepth 20000 in
theorem ggX2_walks_X1_walkCount : GoodIn wsX2_walks wsX1_walkCount := goodIn_r _ [13, 14, 15, 5, 6, 7, 8, 9, 16, 17, 18, 19, 20, 21, 22, 23, 24, 25, 26, 27, 28, 29, 30, 31, 32, 33, 34, 35, 36, 37, 38, 39, 40, 41, 44, 45, 46, 47, 48, 49] (by decide +kernel) (by decide +kernel)
set_option maxRecDepth 20000 in
theorem gX2_walks_X1_walkCount : GoodIn wsX2_walks (wsV RX2 69 RX1 yX1_walkCount wsX1_walkCount) := goodIn_app (goodIn_of _ (by decide +kernel)) ggX2_walks_X1_walkCount
theorem dX2_walks_0 : decode cX2_walks 0 = .ok (.aload_n 0, 1) := by decide +kernel
theorem dX2_walks_1 : decode cX2_walks 1 = .ok (.getfield 12, 3) := by decide +kernel
theorem dX2_walks_4 : decode cX2_walks 4 = .ok (.iload_n 1, 1) := by decide +kernel
theorem dX2_walks_5 : decode cX2_walks 5 = .ok (.invokevirtual 35, 3) := by decide +kernel
theorem dX2_walks_8 : decode cX2_walks 8 = .ok (.ifCond .eq 14, 3) := by decide +kernel
theorem dX2_walks_11 : decode cX2_walks 11 = .ok (.aload_n 0, 1) := by decide +kernel
theorem dX2_walks_12 : decode cX2_walks 12 = .ok (.getfield 12, 3) := by decide +kernel
theorem dX2_walks_15 : decode cX2_walks 15 = .ok (.iload_n 2, 1) := by decide +kernel
theorem dX2_walks_16 : decode cX2_walks 16 = .ok (.invokevirtual 35, 3) := by decide +kernel
theorem dX2_walks_19 : decode cX2_walks 19 = .ok (.ifCond .ne 7, 3) := by decide +kernel
theorem dX2_walks_22 : decode cX2_walks 22 = .ok (.ldc2_w 67, 3) := by decide +kernel
theorem dX2_walks_25 : decode cX2_walks 25 = .ok (.lreturn, 1) := by decide +kernel
theorem dX2_walks_26 : decode cX2_walks 26 = .ok (.iload_n 3, 1) := by decide +kernel
theorem dX2_walks_27 : decode cX2_walks 27 = .ok (.ifCond .lt 9, 3) := by decide +kernel
theorem dX2_walks_30 : decode cX2_walks 30 = .ok (.iload_n 3, 1) := by decide +kernel
theorem dX2_walks_31 : decode cX2_walks 31 = .ok (.bipush 60, 2) := by decide +kernel
theorem dX2_walks_33 : decode cX2_walks 33 = .ok (.if_icmp .le 7, 3) := by decide +kernel
theorem dX2_walks_36 : decode cX2_walks 36 = .ok (.ldc2_w 54, 3) := by decide +kernel
theorem dX2_walks_39 : decode cX2_walks 39 = .ok (.lreturn, 1) := by decide +kernel
theorem dX2_walks_40 : decode cX2_walks 40 = .ok (.aload_n 0, 1) := by decide +kernel
theorem dX2_walks_41 : decode cX2_walks 41 = .ok (.getfield 12, 3) := by decide +kernel
theorem dX2_walks_44 : decode cX2_walks 44 = .ok (.iload_n 1, 1) := by decide +kernel
theorem dX2_walks_45 : decode cX2_walks 45 = .ok (.iload_n 2, 1) := by decide +kernel
theorem dX2_walks_46 : decode cX2_walks 46 = .ok (.iload_n 3, 1) := by decide +kernel
theorem dX2_walks_47 : decode cX2_walks 47 = .ok (.invokevirtual 69, 3) := by decide +kernel
theorem dX2_walks_50 : decode cX2_walks 50 = .ok (.lreturn, 1) := by decide +kernel
set_option maxRecDepth 20000 in
theorem ggX2_blocks_X1_leastOfBlock : GoodIn wsX2_blocks wsX1_leastOfBlock := goodIn_r _ [7, 8, 9, 10, 6, 11, 12, 13, 14, 15, 16, 19, 20, 21, 22, 23, 24] (by decide +kernel) (by decide +kernel)
set_option maxRecDepth 20000 in
theorem gX2_blocks_X1_leastOfBlock : GoodIn wsX2_blocks (wsV RX2 73 RX1 yX1_leastOfBlock wsX1_leastOfBlock) := goodIn_app (goodIn_of _ (by decide +kernel)) ggX2_blocks_X1_leastOfBlock
theorem dX2_blocks_0 : decode cX2_blocks 0 = .ok (.iconst 0, 1) := by decide +kernel
theorem dX2_blocks_1 : decode cX2_blocks 1 = .ok (.istore_n 1, 1) := by decide +kernel
theorem dX2_blocks_2 : decode cX2_blocks 2 = .ok (.iconst 0, 1) := by decide +kernel
theorem dX2_blocks_3 : decode cX2_blocks 3 = .ok (.istore_n 2, 1) := by decide +kernel
theorem dX2_blocks_4 : decode cX2_blocks 4 = .ok (.iload_n 2, 1) := by decide +kernel
theorem dX2_blocks_5 : decode cX2_blocks 5 = .ok (.aload_n 0, 1) := by decide +kernel
theorem dX2_blocks_6 : decode cX2_blocks 6 = .ok (.getfield 12, 3) := by decide +kernel
theorem dX2_blocks_9 : decode cX2_blocks 9 = .ok (.getfield 25, 3) := by decide +kernel
theorem dX2_blocks_12 : decode cX2_blocks 12 = .ok (.if_icmp .ge 24, 3) := by decide +kernel
theorem dX2_blocks_15 : decode cX2_blocks 15 = .ok (.aload_n 0, 1) := by decide +kernel
theorem dX2_blocks_16 : decode cX2_blocks 16 = .ok (.getfield 12, 3) := by decide +kernel
theorem dX2_blocks_19 : decode cX2_blocks 19 = .ok (.iload_n 2, 1) := by decide +kernel
theorem dX2_blocks_20 : decode cX2_blocks 20 = .ok (.invokevirtual 73, 3) := by decide +kernel
theorem dX2_blocks_23 : decode cX2_blocks 23 = .ok (.iload_n 2, 1) := by decide +kernel
theorem dX2_blocks_24 : decode cX2_blocks 24 = .ok (.if_icmp .ne 6, 3) := by decide +kernel
theorem dX2_blocks_27 : decode cX2_blocks 27 = .ok (.iinc 1 1, 3) := by decide +kernel
theorem dX2_blocks_30 : decode cX2_blocks 30 = .ok (.iinc 2 1, 3) := by decide +kernel
theorem dX2_blocks_33 : decode cX2_blocks 33 = .ok (.goto (-29), 3) := by decide +kernel
theorem dX2_blocks_36 : decode cX2_blocks 36 = .ok (.iload_n 1, 1) := by decide +kernel
theorem dX2_blocks_37 : decode cX2_blocks 37 = .ok (.ireturn, 1) := by decide +kernel
set_option maxRecDepth 20000 in
theorem ggX2_block_X1_has : GoodIn wsX2_block wsX1_has := goodIn_r _ [6, 7, 22, 23, 24, 25, 26, 27] (by decide +kernel) (by decide +kernel)
set_option maxRecDepth 20000 in
theorem gX2_block_X1_has : GoodIn wsX2_block (wsV RX2 35 RX1 yX1_has wsX1_has) := goodIn_app (goodIn_of _ (by decide +kernel)) ggX2_block_X1_has
set_option maxRecDepth 20000 in
theorem ggX2_block_X1_leastOfBlock : GoodIn wsX2_block wsX1_leastOfBlock := goodIn_r _ [11, 12, 13, 14, 5, 15, 7, 16, 17, 18, 19, 22, 23, 24, 25, 26, 27] (by decide +kernel) (by decide +kernel)
set_option maxRecDepth 20000 in
theorem gX2_block_X1_leastOfBlock : GoodIn wsX2_block (wsV RX2 73 RX1 yX1_leastOfBlock wsX1_leastOfBlock) := goodIn_app (goodIn_of _ (by decide +kernel)) ggX2_block_X1_leastOfBlock
theorem dX2_block_0 : decode cX2_block 0 = .ok (.aload_n 0, 1) := by decide +kernel
theorem dX2_block_1 : decode cX2_block 1 = .ok (.getfield 12, 3) := by decide +kernel
theorem dX2_block_4 : decode cX2_block 4 = .ok (.iload_n 1, 1) := by decide +kernel
theorem dX2_block_5 : decode cX2_block 5 = .ok (.invokevirtual 35, 3) := by decide +kernel
theorem dX2_block_8 : decode cX2_block 8 = .ok (.ifCond .eq 14, 3) := by decide +kernel
theorem dX2_block_11 : decode cX2_block 11 = .ok (.aload_n 0, 1) := by decide +kernel
theorem dX2_block_12 : decode cX2_block 12 = .ok (.getfield 12, 3) := by decide +kernel
theorem dX2_block_15 : decode cX2_block 15 = .ok (.iload_n 1, 1) := by decide +kernel
theorem dX2_block_16 : decode cX2_block 16 = .ok (.invokevirtual 73, 3) := by decide +kernel
theorem dX2_block_19 : decode cX2_block 19 = .ok (.goto 4, 3) := by decide +kernel
theorem dX2_block_22 : decode cX2_block 22 = .ok (.iconst (-1), 1) := by decide +kernel
theorem dX2_block_23 : decode cX2_block 23 = .ok (.ireturn, 1) := by decide +kernel
set_option maxRecDepth 20000 in
theorem ggX2_pace_X1_has : GoodIn wsX2_pace wsX1_has := goodIn_r _ [6, 7, 31, 32, 33, 34, 35, 36] (by decide +kernel) (by decide +kernel)
set_option maxRecDepth 20000 in
theorem gX2_pace_X1_has : GoodIn wsX2_pace (wsV RX2 35 RX1 yX1_has wsX1_has) := goodIn_app (goodIn_of _ (by decide +kernel)) ggX2_pace_X1_has
set_option maxRecDepth 20000 in
theorem ggX2_pace_X1_paceOf : GoodIn wsX2_pace wsX1_paceOf := goodIn_r _ [11, 12, 7, 13, 14, 15, 5, 16, 17, 18, 19, 20, 21, 22, 23, 24, 25, 26, 27, 28, 31, 32, 33, 34, 35, 36] (by decide +kernel) (by decide +kernel)
set_option maxRecDepth 20000 in
theorem gX2_pace_X1_paceOf : GoodIn wsX2_pace (wsV RX2 77 RX1 yX1_paceOf wsX1_paceOf) := goodIn_app (goodIn_of _ (by decide +kernel)) ggX2_pace_X1_paceOf
theorem dX2_pace_0 : decode cX2_pace 0 = .ok (.aload_n 0, 1) := by decide +kernel
theorem dX2_pace_1 : decode cX2_pace 1 = .ok (.getfield 12, 3) := by decide +kernel
theorem dX2_pace_4 : decode cX2_pace 4 = .ok (.iload_n 1, 1) := by decide +kernel
theorem dX2_pace_5 : decode cX2_pace 5 = .ok (.invokevirtual 35, 3) := by decide +kernel
theorem dX2_pace_8 : decode cX2_pace 8 = .ok (.ifCond .eq 14, 3) := by decide +kernel
theorem dX2_pace_11 : decode cX2_pace 11 = .ok (.aload_n 0, 1) := by decide +kernel
theorem dX2_pace_12 : decode cX2_pace 12 = .ok (.getfield 12, 3) := by decide +kernel
theorem dX2_pace_15 : decode cX2_pace 15 = .ok (.iload_n 1, 1) := by decide +kernel
theorem dX2_pace_16 : decode cX2_pace 16 = .ok (.invokevirtual 77, 3) := by decide +kernel
theorem dX2_pace_19 : decode cX2_pace 19 = .ok (.goto 4, 3) := by decide +kernel
theorem dX2_pace_22 : decode cX2_pace 22 = .ok (.iconst (-1), 1) := by decide +kernel
theorem dX2_pace_23 : decode cX2_pace 23 = .ok (.ireturn, 1) := by decide +kernel
set_option maxRecDepth 20000 in
theorem ggX2_kind_X1_kindOfTask : GoodIn wsX2_kind wsX1_kindOfTask := goodIn_r _ [6, 7, 8, 9, 10, 11, 5, 12, 13, 14, 15, 16, 17, 18, 19, 20, 21, 22, 23, 24, 25, 26, 27, 28, 29, 30, 31, 32, 33, 34, 35, 36, 37, 40, 41, 42, 43, 44, 45] (by decide +kernel) (by decide +kernel)
set_option maxRecDepth 20000 in
theorem gX2_kind_X1_kindOfTask : GoodIn wsX2_kind (wsV RX2 80 RX1 yX1_kindOfTask wsX1_kindOfTask) := goodIn_app (goodIn_of _ (by decide +kernel)) ggX2_kind_X1_kindOfTask
theorem dX2_kind_0 : decode cX2_kind 0 = .ok (.aload_n 0, 1) := by decide +kernel
theorem dX2_kind_1 : decode cX2_kind 1 = .ok (.getfield 12, 3) := by decide +kernel
theorem dX2_kind_4 : decode cX2_kind 4 = .ok (.invokevirtual 80, 3) := by decide +kernel
theorem dX2_kind_7 : decode cX2_kind 7 = .ok (.ireturn, 1) := by decide +kernel
set_option maxRecDepth 20000 in
theorem ggX2_sure_X1_hasPaceOne : GoodIn wsX2_sure wsX1_hasPaceOne := goodIn_r _ [10, 11, 12, 13, 14, 9, 15, 16, 17, 18, 19, 20, 21, 22, 23, 24, 25, 26, 27, 28, 29, 30, 31, 32, 43, 44, 45, 46, 47, 48] (by decide +kernel) (by decide +kernel)
set_option maxRecDepth 20000 in
theorem gX2_sure_X1_hasPaceOne : GoodIn wsX2_sure (wsV RX2 84 RX1 yX1_hasPaceOne wsX1_hasPaceOne) := goodIn_app (goodIn_of _ (by decide +kernel)) ggX2_sure_X1_hasPaceOne
set_option maxRecDepth 20000 in
theorem ggX2_sure_X1_ringLengths : GoodIn wsX2_sure wsX1_ringLengths := goodIn_r _ [36, 11, 17, 18, 19, 9, 20, 21, 22, 23, 24, 25, 26, 27, 28, 29, 43, 44, 45, 46, 47, 48] (by decide +kernel) (by decide +kernel)
set_option maxRecDepth 20000 in
theorem gX2_sure_X1_ringLengths : GoodIn wsX2_sure (wsV RX2 88 RX1 yX1_ringLengths wsX1_ringLengths) := goodIn_app (goodIn_of _ (by decide +kernel)) ggX2_sure_X1_ringLengths
set_option maxRecDepth 20000 in
theorem ggX2_sure_X2_endOfGaps : GoodIn wsX2_sure wsX2_endOfGaps := goodIn_r _ [40] (by decide +kernel) (by decide +kernel)
set_option maxRecDepth 20000 in
theorem gX2_sure_X2_endOfGaps : GoodIn wsX2_sure (va_wsS RX2 92 yX2_endOfGaps wsX2_endOfGaps) := goodIn_app (goodIn_of _ (by decide +kernel)) ggX2_sure_X2_endOfGaps
theorem dX2_sure_0 : decode cX2_sure 0 = .ok (.aload_n 0, 1) := by decide +kernel
theorem dX2_sure_1 : decode cX2_sure 1 = .ok (.getfield 12, 3) := by decide +kernel
theorem dX2_sure_4 : decode cX2_sure 4 = .ok (.invokevirtual 84, 3) := by decide +kernel
theorem dX2_sure_7 : decode cX2_sure 7 = .ok (.ifCond .eq 20, 3) := by decide +kernel
theorem dX2_sure_10 : decode cX2_sure 10 = .ok (.iconst 1, 1) := by decide +kernel
theorem dX2_sure_11 : decode cX2_sure 11 = .ok (.aload_n 0, 1) := by decide +kernel
theorem dX2_sure_12 : decode cX2_sure 12 = .ok (.getfield 12, 3) := by decide +kernel
theorem dX2_sure_15 : decode cX2_sure 15 = .ok (.invokevirtual 88, 3) := by decide +kernel
theorem dX2_sure_18 : decode cX2_sure 18 = .ok (.invokestatic 92, 3) := by decide +kernel
theorem dX2_sure_21 : decode cX2_sure 21 = .ok (.invokestatic 96, 3) := by decide +kernel
theorem dX2_sure_24 : decode cX2_sure 24 = .ok (.goto 5, 3) := by decide +kernel
theorem dX2_sure_27 : decode cX2_sure 27 = .ok (.bipush (-9), 2) := by decide +kernel
theorem dX2_sure_29 : decode cX2_sure 29 = .ok (.ireturn, 1) := by decide +kernel
set_option maxRecDepth 20000 in
theorem ggX2_free_X1_has : GoodIn wsX2_free wsX1_has := goodIn_r _ [6, 7, 36, 37, 38, 39, 40, 41] (by decide +kernel) (by decide +kernel)
set_option maxRecDepth 20000 in
theorem gX2_free_X1_has : GoodIn wsX2_free (wsV RX2 35 RX1 yX1_has wsX1_has) := goodIn_app (goodIn_of _ (by decide +kernel)) ggX2_free_X1_has
set_option maxRecDepth 20000 in
theorem ggX2_free_X1_paceOf : GoodIn wsX2_free wsX1_paceOf := goodIn_r _ [11, 12, 7, 13, 14, 15, 5, 16, 17, 18, 19, 20, 21, 22, 23, 24, 25, 26, 27, 28, 36, 37, 38, 39, 40, 41] (by decide +kernel) (by decide +kernel)
set_option maxRecDepth 20000 in
theorem gX2_free_X1_paceOf : GoodIn wsX2_free (wsV RX2 77 RX1 yX1_paceOf wsX1_paceOf) := goodIn_app (goodIn_of _ (by decide +kernel)) ggX2_free_X1_paceOf
set_option maxRecDepth 20000 in
theorem ggX2_free_X1_returnLengths : GoodIn wsX2_free wsX1_returnLengths := goodIn_r _ [16, 17, 18, 19, 20, 5, 21, 7, 22, 23, 24, 25, 36, 37, 38, 39, 40, 41] (by decide +kernel) (by decide +kernel)
set_option maxRecDepth 20000 in
theorem gX2_free_X1_returnLengths : GoodIn wsX2_free (wsV RX2 102 RX1 yX1_returnLengths wsX1_returnLengths) := goodIn_app (goodIn_of _ (by decide +kernel)) ggX2_free_X1_returnLengths
set_option maxRecDepth 20000 in
theorem ggX2_free_X2_endOfGaps : GoodIn wsX2_free wsX2_endOfGaps := goodIn_r _ [33] (by decide +kernel) (by decide +kernel)
set_option maxRecDepth 20000 in
theorem gX2_free_X2_endOfGaps : GoodIn wsX2_free (va_wsS RX2 92 yX2_endOfGaps wsX2_endOfGaps) := goodIn_app (goodIn_of _ (by decide +kernel)) ggX2_free_X2_endOfGaps
theorem dX2_free_0 : decode cX2_free 0 = .ok (.aload_n 0, 1) := by decide +kernel
theorem dX2_free_1 : decode cX2_free 1 = .ok (.getfield 12, 3) := by decide +kernel
theorem dX2_free_4 : decode cX2_free 4 = .ok (.iload_n 1, 1) := by decide +kernel
theorem dX2_free_5 : decode cX2_free 5 = .ok (.invokevirtual 35, 3) := by decide +kernel
theorem dX2_free_8 : decode cX2_free 8 = .ok (.ifCond .ne 5, 3) := by decide +kernel
theorem dX2_free_11 : decode cX2_free 11 = .ok (.iconst (-1), 1) := by decide +kernel
theorem dX2_free_12 : decode cX2_free 12 = .ok (.ireturn, 1) := by decide +kernel
theorem dX2_free_13 : decode cX2_free 13 = .ok (.aload_n 0, 1) := by decide +kernel
theorem dX2_free_14 : decode cX2_free 14 = .ok (.getfield 12, 3) := by decide +kernel
theorem dX2_free_17 : decode cX2_free 17 = .ok (.iload_n 1, 1) := by decide +kernel
theorem dX2_free_18 : decode cX2_free 18 = .ok (.invokevirtual 77, 3) := by decide +kernel
theorem dX2_free_21 : decode cX2_free 21 = .ok (.iconst 1, 1) := by decide +kernel
theorem dX2_free_22 : decode cX2_free 22 = .ok (.if_icmp .ne 17, 3) := by decide +kernel
theorem dX2_free_25 : decode cX2_free 25 = .ok (.aload_n 0, 1) := by decide +kernel
theorem dX2_free_26 : decode cX2_free 26 = .ok (.getfield 12, 3) := by decide +kernel
theorem dX2_free_29 : decode cX2_free 29 = .ok (.iload_n 1, 1) := by decide +kernel
theorem dX2_free_30 : decode cX2_free 30 = .ok (.invokevirtual 102, 3) := by decide +kernel
theorem dX2_free_33 : decode cX2_free 33 = .ok (.invokestatic 92, 3) := by decide +kernel
theorem dX2_free_36 : decode cX2_free 36 = .ok (.goto 5, 3) := by decide +kernel
theorem dX2_free_39 : decode cX2_free 39 = .ok (.bipush (-9), 2) := by decide +kernel
theorem dX2_free_41 : decode cX2_free 41 = .ok (.ireturn, 1) := by decide +kernel
set_option maxRecDepth 20000 in
theorem ggX2_mirrors_X1_isMirrored : GoodIn wsX2_mirrors wsX1_isMirrored := goodIn_r _ [6, 7, 8, 9, 10, 5, 11, 12, 13, 14, 15, 16, 17, 18, 19, 20, 21, 22, 23, 24, 25, 26, 27, 34, 35, 36, 37, 38, 39] (by decide +kernel) (by decide +kernel)
set_option maxRecDepth 20000 in
theorem gX2_mirrors_X1_isMirrored : GoodIn wsX2_mirrors (wsV RX2 105 RX1 yX1_isMirrored wsX1_isMirrored) := goodIn_app (goodIn_of _ (by decide +kernel)) ggX2_mirrors_X1_isMirrored
set_option maxRecDepth 20000 in
theorem ggX2_mirrors_X2_asNumber : GoodIn wsX2_mirrors wsX2_asNumber := goodIn_r _ [31] (by decide +kernel) (by decide +kernel)
set_option maxRecDepth 20000 in
theorem gX2_mirrors_X2_asNumber : GoodIn wsX2_mirrors (va_wsS RX2 43 yX2_asNumber wsX2_asNumber) := goodIn_app (goodIn_of _ (by decide +kernel)) ggX2_mirrors_X2_asNumber
theorem dX2_mirrors_0 : decode cX2_mirrors 0 = .ok (.aload_n 0, 1) := by decide +kernel
theorem dX2_mirrors_1 : decode cX2_mirrors 1 = .ok (.getfield 12, 3) := by decide +kernel
theorem dX2_mirrors_4 : decode cX2_mirrors 4 = .ok (.invokevirtual 105, 3) := by decide +kernel
theorem dX2_mirrors_7 : decode cX2_mirrors 7 = .ok (.invokestatic 43, 3) := by decide +kernel
theorem dX2_mirrors_10 : decode cX2_mirrors 10 = .ok (.ireturn, 1) := by decide +kernel
set_option maxRecDepth 20000 in
theorem ggX2_ring_X0_restart : GoodIn wsX2_ring wsX0_restart := goodIn_r _ [7, 8, 9, 10, 11, 12, 13, 14, 15, 16, 6, 17, 18, 19, 20, 21, 22, 25, 26, 27] (by decide +kernel) (by decide +kernel)
set_option maxRecDepth 20000 in
theorem gX2_ring_X0_restart : GoodIn wsX2_ring (wsV RX2 109 RX0 yX0_restart wsX0_restart) := goodIn_app (goodIn_of _ (by decide +kernel)) ggX2_ring_X0_restart
theorem dX2_ring_0 : decode cX2_ring 0 = .ok (.iload_n 1, 1) := by decide +kernel
theorem dX2_ring_1 : decode cX2_ring 1 = .ok (.iconst 3, 1) := by decide +kernel
theorem dX2_ring_2 : decode cX2_ring 2 = .ok (.if_icmp .lt 9, 3) := by decide +kernel
theorem dX2_ring_5 : decode cX2_ring 5 = .ok (.iload_n 1, 1) := by decide +kernel
theorem dX2_ring_6 : decode cX2_ring 6 = .ok (.bipush 60, 2) := by decide +kernel
theorem dX2_ring_8 : decode cX2_ring 8 = .ok (.if_icmp .le 6, 3) := by decide +kernel
theorem dX2_ring_11 : decode cX2_ring 11 = .ok (.bipush (-2), 2) := by decide +kernel
theorem dX2_ring_13 : decode cX2_ring 13 = .ok (.ireturn, 1) := by decide +kernel
theorem dX2_ring_14 : decode cX2_ring 14 = .ok (.aload_n 0, 1) := by decide +kernel
theorem dX2_ring_15 : decode cX2_ring 15 = .ok (.getfield 21, 3) := by decide +kernel
theorem dX2_ring_18 : decode cX2_ring 18 = .ok (.getfield 108, 3) := by decide +kernel
theorem dX2_ring_21 : decode cX2_ring 21 = .ok (.istore_n 2, 1) := by decide +kernel
theorem dX2_ring_22 : decode cX2_ring 22 = .ok (.aload_n 0, 1) := by decide +kernel
theorem dX2_ring_23 : decode cX2_ring 23 = .ok (.getfield 21, 3) := by decide +kernel
theorem dX2_ring_26 : decode cX2_ring 26 = .ok (.iload_n 1, 1) := by decide +kernel
theorem dX2_ring_27 : decode cX2_ring 27 = .ok (.invokevirtual 109, 3) := by decide +kernel
theorem dX2_ring_30 : decode cX2_ring 30 = .ok (.iload_n 2, 1) := by decide +kernel
theorem dX2_ring_31 : decode cX2_ring 31 = .ok (.ireturn, 1) := by decide +kernel
set_option maxRecDepth 20000 in
theorem ggX2_put_X0_has : GoodIn wsX2_put wsX0_has := goodIn_r _ [8, 9, 18, 19, 20] (by decide +kernel) (by decide +kernel)
set_option maxRecDepth 20000 in
theorem gX2_put_X0_has : GoodIn wsX2_put (wsV RX2 110 RX0 yX0_has wsX0_has) := goodIn_app (goodIn_of _ (by decide +kernel)) ggX2_put_X0_has
set_option maxRecDepth 20000 in
theorem ggX2_put_X1_has : GoodIn wsX2_put wsX1_has := goodIn_r _ [14, 15, 21, 22, 23, 24, 25, 26] (by decide +kernel) (by decide +kernel)
set_option maxRecDepth 20000 in
theorem gX2_put_X1_has : GoodIn wsX2_put (wsV RX2 35 RX1 yX1_has wsX1_has) := goodIn_app (goodIn_of _ (by decide +kernel)) ggX2_put_X1_has
theorem dX2_put_0 : decode cX2_put 0 = .ok (.aload_n 0, 1) := by decide +kernel
theorem dX2_put_1 : decode cX2_put 1 = .ok (.getfield 21, 3) := by decide +kernel
theorem dX2_put_4 : decode cX2_put 4 = .ok (.iload_n 1, 1) := by decide +kernel
theorem dX2_put_5 : decode cX2_put 5 = .ok (.invokevirtual 110, 3) := by decide +kernel
theorem dX2_put_8 : decode cX2_put 8 = .ok (.ifCond .eq 14, 3) := by decide +kernel
theorem dX2_put_11 : decode cX2_put 11 = .ok (.aload_n 0, 1) := by decide +kernel
theorem dX2_put_12 : decode cX2_put 12 = .ok (.getfield 12, 3) := by decide +kernel
theorem dX2_put_15 : decode cX2_put 15 = .ok (.iload_n 2, 1) := by decide +kernel
theorem dX2_put_16 : decode cX2_put 16 = .ok (.invokevirtual 35, 3) := by decide +kernel
theorem dX2_put_19 : decode cX2_put 19 = .ok (.ifCond .ne 5, 3) := by decide +kernel
theorem dX2_put_22 : decode cX2_put 22 = .ok (.iconst (-1), 1) := by decide +kernel
theorem dX2_put_23 : decode cX2_put 23 = .ok (.ireturn, 1) := by decide +kernel
theorem dX2_put_24 : decode cX2_put 24 = .ok (.aload_n 0, 1) := by decide +kernel
theorem dX2_put_25 : decode cX2_put 25 = .ok (.getfield 21, 3) := by decide +kernel
theorem dX2_put_28 : decode cX2_put 28 = .ok (.getfield 111, 3) := by decide +kernel
theorem dX2_put_31 : decode cX2_put 31 = .ok (.iload_n 1, 1) := by decide +kernel
theorem dX2_put_32 : decode cX2_put 32 = .ok (.iaload, 1) := by decide +kernel
theorem dX2_put_33 : decode cX2_put 33 = .ok (.istore_n 3, 1) := by decide +kernel
theorem dX2_put_34 : decode cX2_put 34 = .ok (.aload_n 0, 1) := by decide +kernel
theorem dX2_put_35 : decode cX2_put 35 = .ok (.getfield 21, 3) := by decide +kernel
theorem dX2_put_38 : decode cX2_put 38 = .ok (.getfield 111, 3) := by decide +kernel
theorem dX2_put_41 : decode cX2_put 41 = .ok (.iload_n 1, 1) := by decide +kernel
theorem dX2_put_42 : decode cX2_put 42 = .ok (.iload_n 2, 1) := by decide +kernel
theorem dX2_put_43 : decode cX2_put 43 = .ok (.iastore, 1) := by decide +kernel
theorem dX2_put_44 : decode cX2_put 44 = .ok (.iload_n 3, 1) := by decide +kernel
theorem dX2_put_45 : decode cX2_put 45 = .ok (.ireturn, 1) := by decide +kernel
set_option maxRecDepth 20000 in
theorem ggX2_at_X0_has : GoodIn wsX2_at wsX0_has := goodIn_r _ [7, 8, 11, 12, 13] (by decide +kernel) (by decide +kernel)
set_option maxRecDepth 20000 in
theorem gX2_at_X0_has : GoodIn wsX2_at (wsV RX2 110 RX0 yX0_has wsX0_has) := goodIn_app (goodIn_of _ (by decide +kernel)) ggX2_at_X0_has
theorem dX2_at_0 : decode cX2_at 0 = .ok (.aload_n 0, 1) := by decide +kernel
theorem dX2_at_1 : decode cX2_at 1 = .ok (.getfield 21, 3) := by decide +kernel
theorem dX2_at_4 : decode cX2_at 4 = .ok (.iload_n 1, 1) := by decide +kernel
theorem dX2_at_5 : decode cX2_at 5 = .ok (.invokevirtual 110, 3) := by decide +kernel
theorem dX2_at_8 : decode cX2_at 8 = .ok (.ifCond .eq 15, 3) := by decide +kernel
theorem dX2_at_11 : decode cX2_at 11 = .ok (.aload_n 0, 1) := by decide +kernel
theorem dX2_at_12 : decode cX2_at 12 = .ok (.getfield 21, 3) := by decide +kernel
theorem dX2_at_15 : decode cX2_at 15 = .ok (.getfield 111, 3) := by decide +kernel
theorem dX2_at_18 : decode cX2_at 18 = .ok (.iload_n 1, 1) := by decide +kernel
theorem dX2_at_19 : decode cX2_at 19 = .ok (.iaload, 1) := by decide +kernel
theorem dX2_at_20 : decode cX2_at 20 = .ok (.goto 4, 3) := by decide +kernel
theorem dX2_at_23 : decode cX2_at 23 = .ok (.iconst (-1), 1) := by decide +kernel
theorem dX2_at_24 : decode cX2_at 24 = .ok (.ireturn, 1) := by decide +kernel
set_option maxRecDepth 20000 in
theorem ggX2_faults_X0_isFault : GoodIn wsX2_faults wsX0_isFault := goodIn_r _ [8, 9, 10, 11, 12, 7, 13, 14, 15, 16, 17, 18, 19, 20, 21, 22, 23, 24, 25, 26, 27, 28, 31, 32, 33, 34, 35, 36, 37, 38, 39] (by decide +kernel) (by decide +kernel)
set_option maxRecDepth 20000 in
theorem gX2_faults_X0_isFault : GoodIn wsX2_faults (wsV RX2 114 RX0 yX0_isFault wsX0_isFault) := goodIn_app (goodIn_of _ (by decide +kernel)) ggX2_faults_X0_isFault
theorem dX2_faults_0 : decode cX2_faults 0 = .ok (.iconst 0, 1) := by decide +kernel
theorem dX2_faults_1 : decode cX2_faults 1 = .ok (.istore_n 1, 1) := by decide +kernel
theorem dX2_faults_2 : decode cX2_faults 2 = .ok (.iconst 0, 1) := by decide +kernel
theorem dX2_faults_3 : decode cX2_faults 3 = .ok (.istore_n 2, 1) := by decide +kernel
theorem dX2_faults_4 : decode cX2_faults 4 = .ok (.iload_n 2, 1) := by decide +kernel
theorem dX2_faults_5 : decode cX2_faults 5 = .ok (.aload_n 0, 1) := by decide +kernel
theorem dX2_faults_6 : decode cX2_faults 6 = .ok (.getfield 21, 3) := by decide +kernel
theorem dX2_faults_9 : decode cX2_faults 9 = .ok (.getfield 108, 3) := by decide +kernel
theorem dX2_faults_12 : decode cX2_faults 12 = .ok (.if_icmp .ge 27, 3) := by decide +kernel
theorem dX2_faults_15 : decode cX2_faults 15 = .ok (.aload_n 0, 1) := by decide +kernel
theorem dX2_faults_16 : decode cX2_faults 16 = .ok (.getfield 21, 3) := by decide +kernel
theorem dX2_faults_19 : decode cX2_faults 19 = .ok (.iload_n 2, 1) := by decide +kernel
theorem dX2_faults_20 : decode cX2_faults 20 = .ok (.aload_n 0, 1) := by decide +kernel
theorem dX2_faults_21 : decode cX2_faults 21 = .ok (.getfield 12, 3) := by decide +kernel
theorem dX2_faults_24 : decode cX2_faults 24 = .ok (.invokevirtual 114, 3) := by decide +kernel
theorem dX2_faults_27 : decode cX2_faults 27 = .ok (.ifCond .eq 6, 3) := by decide +kernel
theorem dX2_faults_30 : decode cX2_faults 30 = .ok (.iinc 1 1, 3) := by decide +kernel
theorem dX2_faults_33 : decode cX2_faults 33 = .ok (.iinc 2 1, 3) := by decide +kernel
theorem dX2_faults_36 : decode cX2_faults 36 = .ok (.goto (-32), 3) := by decide +kernel
theorem dX2_faults_39 : decode cX2_faults 39 = .ok (.iload_n 1, 1) := by decide +kernel
theorem dX2_faults_40 : decode cX2_faults 40 = .ok (.ireturn, 1) := by decide +kernel
set_option maxRecDepth 20000 in
theorem ggX2_fault_X0_has : GoodIn wsX2_fault wsX0_has := goodIn_r _ [7, 8, 38, 39, 40] (by decide +kernel) (by decide +kernel)
set_option maxRecDepth 20000 in
theorem gX2_fault_X0_has : GoodIn wsX2_fault (wsV RX2 110 RX0 yX0_has wsX0_has) := goodIn_app (goodIn_of _ (by decide +kernel)) ggX2_fault_X0_has
set_option maxRecDepth 20000 in
theorem ggX2_fault_X0_faultFrom : GoodIn wsX2_fault wsX0_faultFrom := goodIn_r _ [12, 8, 13, 14, 15, 6, 16, 17, 18, 19, 20, 21, 22, 23, 24, 25, 26, 27, 28, 29, 30, 31, 32, 33, 34, 35, 38, 39, 40, 41, 42, 43, 44, 45, 46] (by decide +kernel) (by decide +kernel)
set_option maxRecDepth 20000 in
theorem gX2_fault_X0_faultFrom : GoodIn wsX2_fault (wsV RX2 118 RX0 yX0_faultFrom wsX0_faultFrom) := goodIn_app (goodIn_of _ (by decide +kernel)) ggX2_fault_X0_faultFrom
theorem dX2_fault_0 : decode cX2_fault 0 = .ok (.aload_n 0, 1) := by decide +kernel
theorem dX2_fault_1 : decode cX2_fault 1 = .ok (.getfield 21, 3) := by decide +kernel
theorem dX2_fault_4 : decode cX2_fault 4 = .ok (.iload_n 1, 1) := by decide +kernel
theorem dX2_fault_5 : decode cX2_fault 5 = .ok (.invokevirtual 110, 3) := by decide +kernel
theorem dX2_fault_8 : decode cX2_fault 8 = .ok (.ifCond .eq 18, 3) := by decide +kernel
theorem dX2_fault_11 : decode cX2_fault 11 = .ok (.aload_n 0, 1) := by decide +kernel
theorem dX2_fault_12 : decode cX2_fault 12 = .ok (.getfield 21, 3) := by decide +kernel
theorem dX2_fault_15 : decode cX2_fault 15 = .ok (.iload_n 1, 1) := by decide +kernel
theorem dX2_fault_16 : decode cX2_fault 16 = .ok (.aload_n 0, 1) := by decide +kernel
theorem dX2_fault_17 : decode cX2_fault 17 = .ok (.getfield 12, 3) := by decide +kernel
theorem dX2_fault_20 : decode cX2_fault 20 = .ok (.invokevirtual 118, 3) := by decide +kernel
theorem dX2_fault_23 : decode cX2_fault 23 = .ok (.goto 4, 3) := by decide +kernel
theorem dX2_fault_26 : decode cX2_fault 26 = .ok (.iconst (-1), 1) := by decide +kernel
theorem dX2_fault_27 : decode cX2_fault 27 = .ok (.ireturn, 1) := by decide +kernel
set_option maxRecDepth 20000 in
theorem ggX2_mend_X0_has : GoodIn wsX2_mend wsX0_has := goodIn_r _ [7, 8, 61, 62, 63] (by decide +kernel) (by decide +kernel)
set_option maxRecDepth 20000 in
theorem gX2_mend_X0_has : GoodIn wsX2_mend (wsV RX2 110 RX0 yX0_has wsX0_has) := goodIn_app (goodIn_of _ (by decide +kernel)) ggX2_mend_X0_has
set_option maxRecDepth 20000 in
theorem ggX2_mend_X0_mendAround : GoodIn wsX2_mend wsX0_mendAround := goodIn_r _ [12, 8, 13, 14, 15, 6, 16, 17, 18, 19, 20, 21, 22, 23, 24, 25, 26, 27, 28, 29, 30, 31, 32, 33, 34, 35, 36, 37, 38, 39, 40, 41, 42, 43, 44, 45, 46, 47, 48, 49, 50, 51, 52, 53, 54, 55, 56, 57, 58, 61, 62, 63, 64, 65, 66, 67, 68, 69] (by decide +kernel) (by decide +kernel)
set_option maxRecDepth 20000 in
theorem gX2_mend_X0_mendAround : GoodIn wsX2_mend (wsV RX2 122 RX0 yX0_mendAround wsX0_mendAround) := goodIn_app (goodIn_of _ (by decide +kernel)) ggX2_mend_X0_mendAround
theorem dX2_mend_0 : decode cX2_mend 0 = .ok (.aload_n 0, 1) := by decide +kernel
theorem dX2_mend_1 : decode cX2_mend 1 = .ok (.getfield 21, 3) := by decide +kernel
theorem dX2_mend_4 : decode cX2_mend 4 = .ok (.iload_n 1, 1) := by decide +kernel
theorem dX2_mend_5 : decode cX2_mend 5 = .ok (.invokevirtual 110, 3) := by decide +kernel
theorem dX2_mend_8 : decode cX2_mend 8 = .ok (.ifCond .eq 18, 3) := by decide +kernel
theorem dX2_mend_11 : decode cX2_mend 11 = .ok (.aload_n 0, 1) := by decide +kernel
theorem dX2_mend_12 : decode cX2_mend 12 = .ok (.getfield 21, 3) := by decide +kernel
theorem dX2_mend_15 : decode cX2_mend 15 = .ok (.iload_n 1, 1) := by decide +kernel
theorem dX2_mend_16 : decode cX2_mend 16 = .ok (.aload_n 0, 1) := by decide +kernel
theorem dX2_mend_17 : decode cX2_mend 17 = .ok (.getfield 12, 3) := by decide +kernel
theorem dX2_mend_20 : decode cX2_mend 20 = .ok (.invokevirtual 122, 3) := by decide +kernel
theorem dX2_mend_23 : decode cX2_mend 23 = .ok (.goto 4, 3) := by decide +kernel
theorem dX2_mend_26 : decode cX2_mend 26 = .ok (.iconst (-1), 1) := by decide +kernel
theorem dX2_mend_27 : decode cX2_mend 27 = .ok (.ireturn, 1) := by decide +kernel
set_option maxRecDepth 20000 in
theorem ggX2_fresh_X1_findRing : GoodIn wsX2_fresh wsX1_findRing := goodIn_r _ [8, 9, 10, 11, 12, 7, 13, 14, 15, 16, 17, 18, 19, 20, 21, 22, 23, 24, 25, 26, 27, 28, 29, 30, 48, 49, 50, 51, 52, 53] (by decide +kernel) (by decide +kernel)
set_option maxRecDepth 20000 in
theorem gX2_fresh_X1_findRing : GoodIn wsX2_fresh (wsV RX2 60 RX1 yX1_findRing wsX1_findRing) := goodIn_app (goodIn_of _ (by decide +kernel)) ggX2_fresh_X1_findRing
set_option maxRecDepth 20000 in
theorem ggX2_fresh_X0_putWalk : GoodIn wsX2_fresh wsX0_putWalk := goodIn_r _ [35, 36, 37, 38, 39, 40, 34, 41, 42, 48, 49, 50, 51, 52, 53, 45, 46, 47] (by decide +kernel) (by decide +kernel)
set_option maxRecDepth 20000 in
theorem gX2_fresh_X0_putWalk : GoodIn wsX2_fresh (wsV RX2 125 RX0 yX0_putWalk wsX0_putWalk) := goodIn_app (goodIn_of _ (by decide +kernel)) ggX2_fresh_X0_putWalk
theorem dX2_fresh_0 : decode cX2_fresh 0 = .ok (.aload_n 0, 1) := by decide +kernel
theorem dX2_fresh_1 : decode cX2_fresh 1 = .ok (.getfield 12, 3) := by decide +kernel
theorem dX2_fresh_4 : decode cX2_fresh 4 = .ok (.aload_n 0, 1) := by decide +kernel
theorem dX2_fresh_5 : decode cX2_fresh 5 = .ok (.getfield 21, 3) := by decide +kernel
theorem dX2_fresh_8 : decode cX2_fresh 8 = .ok (.getfield 108, 3) := by decide +kernel
theorem dX2_fresh_11 : decode cX2_fresh 11 = .ok (.invokevirtual 60, 3) := by decide +kernel
theorem dX2_fresh_14 : decode cX2_fresh 14 = .ok (.ifCond .ne 6, 3) := by decide +kernel
theorem dX2_fresh_17 : decode cX2_fresh 17 = .ok (.bipush (-9), 2) := by decide +kernel
theorem dX2_fresh_19 : decode cX2_fresh 19 = .ok (.ireturn, 1) := by decide +kernel
theorem dX2_fresh_20 : decode cX2_fresh 20 = .ok (.aload_n 0, 1) := by decide +kernel
theorem dX2_fresh_21 : decode cX2_fresh 21 = .ok (.getfield 21, 3) := by decide +kernel
theorem dX2_fresh_24 : decode cX2_fresh 24 = .ok (.iconst 0, 1) := by decide +kernel
theorem dX2_fresh_25 : decode cX2_fresh 25 = .ok (.aload_n 0, 1) := by decide +kernel
theorem dX2_fresh_26 : decode cX2_fresh 26 = .ok (.getfield 21, 3) := by decide +kernel
theorem dX2_fresh_29 : decode cX2_fresh 29 = .ok (.getfield 108, 3) := by decide +kernel
theorem dX2_fresh_32 : decode cX2_fresh 32 = .ok (.aload_n 0, 1) := by decide +kernel
theorem dX2_fresh_33 : decode cX2_fresh 33 = .ok (.getfield 12, 3) := by decide +kernel
theorem dX2_fresh_36 : decode cX2_fresh 36 = .ok (.iconst 0, 1) := by decide +kernel
theorem dX2_fresh_37 : decode cX2_fresh 37 = .ok (.invokevirtual 125, 3) := by decide +kernel
theorem dX2_fresh_40 : decode cX2_fresh 40 = .ok (.iconst 1, 1) := by decide +kernel
theorem dX2_fresh_41 : decode cX2_fresh 41 = .ok (.ireturn, 1) := by decide +kernel
set_option maxRecDepth 20000 in
theorem ggX2_number_X0_has : GoodIn wsX2_number wsX0_has := goodIn_r _ [8, 9, 12, 13, 14] (by decide +kernel) (by decide +kernel)
set_option maxRecDepth 20000 in
theorem gX2_number_X0_has : GoodIn wsX2_number (wsV RX2 110 RX0 yX0_has wsX0_has) := goodIn_app (goodIn_of _ (by decide +kernel)) ggX2_number_X0_has
theorem dX2_number_0 : decode cX2_number 0 = .ok (.aload_n 0, 1) := by decide +kernel
theorem dX2_number_1 : decode cX2_number 1 = .ok (.getfield 21, 3) := by decide +kernel
theorem dX2_number_4 : decode cX2_number 4 = .ok (.iload_n 1, 1) := by decide +kernel
theorem dX2_number_5 : decode cX2_number 5 = .ok (.invokevirtual 110, 3) := by decide +kernel
theorem dX2_number_8 : decode cX2_number 8 = .ok (.ifCond .ne 5, 3) := by decide +kernel
theorem dX2_number_11 : decode cX2_number 11 = .ok (.iconst (-1), 1) := by decide +kernel
theorem dX2_number_12 : decode cX2_number 12 = .ok (.ireturn, 1) := by decide +kernel
theorem dX2_number_13 : decode cX2_number 13 = .ok (.iload_n 2, 1) := by decide +kernel
theorem dX2_number_14 : decode cX2_number 14 = .ok (.ifCond .lt 9, 3) := by decide +kernel
theorem dX2_number_17 : decode cX2_number 17 = .ok (.iload_n 2, 1) := by decide +kernel
theorem dX2_number_18 : decode cX2_number 18 = .ok (.ldc 129, 2) := by decide +kernel
theorem dX2_number_20 : decode cX2_number 20 = .ok (.if_icmp .le 6, 3) := by decide +kernel
theorem dX2_number_23 : decode cX2_number 23 = .ok (.bipush (-2), 2) := by decide +kernel
theorem dX2_number_25 : decode cX2_number 25 = .ok (.ireturn, 1) := by decide +kernel
theorem dX2_number_26 : decode cX2_number 26 = .ok (.aload_n 0, 1) := by decide +kernel
theorem dX2_number_27 : decode cX2_number 27 = .ok (.getfield 21, 3) := by decide +kernel
theorem dX2_number_30 : decode cX2_number 30 = .ok (.getfield 130, 3) := by decide +kernel
theorem dX2_number_33 : decode cX2_number 33 = .ok (.iload_n 1, 1) := by decide +kernel
theorem dX2_number_34 : decode cX2_number 34 = .ok (.iaload, 1) := by decide +kernel
theorem dX2_number_35 : decode cX2_number 35 = .ok (.istore_n 3, 1) := by decide +kernel
theorem dX2_number_36 : decode cX2_number 36 = .ok (.aload_n 0, 1) := by decide +kernel
theorem dX2_number_37 : decode cX2_number 37 = .ok (.getfield 21, 3) := by decide +kernel
theorem dX2_number_40 : decode cX2_number 40 = .ok (.getfield 130, 3) := by decide +kernel
theorem dX2_number_43 : decode cX2_number 43 = .ok (.iload_n 1, 1) := by decide +kernel
theorem dX2_number_44 : decode cX2_number 44 = .ok (.iload_n 2, 1) := by decide +kernel
theorem dX2_number_45 : decode cX2_number 45 = .ok (.iastore, 1) := by decide +kernel
theorem dX2_number_46 : decode cX2_number 46 = .ok (.iload_n 3, 1) := by decide +kernel
theorem dX2_number_47 : decode cX2_number 47 = .ok (.ireturn, 1) := by decide +kernel
set_option maxRecDepth 20000 in
theorem ggX2_told_X0_has : GoodIn wsX2_told wsX0_has := goodIn_r _ [7, 8, 11, 12, 13] (by decide +kernel) (by decide +kernel)
set_option maxRecDepth 20000 in
theorem gX2_told_X0_has : GoodIn wsX2_told (wsV RX2 110 RX0 yX0_has wsX0_has) := goodIn_app (goodIn_of _ (by decide +kernel)) ggX2_told_X0_has
theorem dX2_told_0 : decode cX2_told 0 = .ok (.aload_n 0, 1) := by decide +kernel
theorem dX2_told_1 : decode cX2_told 1 = .ok (.getfield 21, 3) := by decide +kernel
theorem dX2_told_4 : decode cX2_told 4 = .ok (.iload_n 1, 1) := by decide +kernel
theorem dX2_told_5 : decode cX2_told 5 = .ok (.invokevirtual 110, 3) := by decide +kernel
theorem dX2_told_8 : decode cX2_told 8 = .ok (.ifCond .eq 15, 3) := by decide +kernel
theorem dX2_told_11 : decode cX2_told 11 = .ok (.aload_n 0, 1) := by decide +kernel
theorem dX2_told_12 : decode cX2_told 12 = .ok (.getfield 21, 3) := by decide +kernel
theorem dX2_told_15 : decode cX2_told 15 = .ok (.getfield 130, 3) := by decide +kernel
theorem dX2_told_18 : decode cX2_told 18 = .ok (.iload_n 1, 1) := by decide +kernel
theorem dX2_told_19 : decode cX2_told 19 = .ok (.iaload, 1) := by decide +kernel
theorem dX2_told_20 : decode cX2_told 20 = .ok (.goto 4, 3) := by decide +kernel
theorem dX2_told_23 : decode cX2_told 23 = .ok (.iconst (-1), 1) := by decide +kernel
theorem dX2_told_24 : decode cX2_told 24 = .ok (.ireturn, 1) := by decide +kernel
set_option maxRecDepth 20000 in
theorem ggX2_round_X0_likeNeighbours : GoodIn wsX2_round wsX0_likeNeighbours := goodIn_r _ [6, 7, 8, 9, 10, 11, 5, 12, 37, 38, 39] (by decide +kernel) (by decide +kernel)
set_option maxRecDepth 20000 in
theorem gX2_round_X0_likeNeighbours : GoodIn wsX2_round (wsV RX2 133 RX0 yX0_likeNeighbours wsX0_likeNeighbours) := goodIn_app (goodIn_of _ (by decide +kernel)) ggX2_round_X0_likeNeighbours
set_option maxRecDepth 20000 in
theorem ggX2_round_X0_doRound : GoodIn wsX2_round wsX0_doRound := goodIn_r _ [16, 8, 7, 17, 18, 5, 19, 20, 21, 22, 23, 24, 25, 26, 37, 38, 39] (by decide +kernel) (by decide +kernel)
set_option maxRecDepth 20000 in
theorem gX2_round_X0_doRound : GoodIn wsX2_round (wsV RX2 136 RX0 yX0_doRound wsX0_doRound) := goodIn_app (goodIn_of _ (by decide +kernel)) ggX2_round_X0_doRound
set_option maxRecDepth 20000 in
theorem ggX2_round_X0_greatestNumber : GoodIn wsX2_round wsX0_greatestNumber := goodIn_r _ [30, 7, 8, 31, 32, 33, 34, 37, 38, 39] (by decide +kernel) (by decide +kernel)
set_option maxRecDepth 20000 in
theorem gX2_round_X0_greatestNumber : GoodIn wsX2_round (wsV RX2 139 RX0 yX0_greatestNumber wsX0_greatestNumber) := goodIn_app (goodIn_of _ (by decide +kernel)) ggX2_round_X0_greatestNumber
theorem dX2_round_0 : decode cX2_round 0 = .ok (.aload_n 0, 1) := by decide +kernel
theorem dX2_round_1 : decode cX2_round 1 = .ok (.getfield 21, 3) := by decide +kernel
theorem dX2_round_4 : decode cX2_round 4 = .ok (.invokevirtual 133, 3) := by decide +kernel
theorem dX2_round_7 : decode cX2_round 7 = .ok (.ifCond .le 6, 3) := by decide +kernel
theorem dX2_round_10 : decode cX2_round 10 = .ok (.bipush (-3), 2) := by decide +kernel
theorem dX2_round_12 : decode cX2_round 12 = .ok (.ireturn, 1) := by decide +kernel
theorem dX2_round_13 : decode cX2_round 13 = .ok (.aload_n 0, 1) := by decide +kernel
theorem dX2_round_14 : decode cX2_round 14 = .ok (.getfield 21, 3) := by decide +kernel
theorem dX2_round_17 : decode cX2_round 17 = .ok (.invokevirtual 136, 3) := by decide +kernel
theorem dX2_round_20 : decode cX2_round 20 = .ok (.aload_n 0, 1) := by decide +kernel
theorem dX2_round_21 : decode cX2_round 21 = .ok (.getfield 21, 3) := by decide +kernel
theorem dX2_round_24 : decode cX2_round 24 = .ok (.invokevirtual 139, 3) := by decide +kernel
theorem dX2_round_27 : decode cX2_round 27 = .ok (.ireturn, 1) := by decide +kernel
set_option maxRecDepth 20000 in
theorem ggX2_colours_X0_likeNeighbours : GoodIn wsX2_colours wsX0_likeNeighbours := goodIn_r _ [6, 7, 8, 9, 10, 11, 5, 12, 48, 49, 50] (by decide +kernel) (by decide +kernel)
set_option maxRecDepth 20000 in
theorem gX2_colours_X0_likeNeighbours : GoodIn wsX2_colours (wsV RX2 133 RX0 yX0_likeNeighbours wsX0_likeNeighbours) := goodIn_app (goodIn_of _ (by decide +kernel)) ggX2_colours_X0_likeNeighbours
set_option maxRecDepth 20000 in
theorem ggX2_colours_X0_greatestNumber : GoodIn wsX2_colours wsX0_greatestNumber := goodIn_r _ [16, 7, 8, 17, 18, 19, 20, 48, 49, 50] (by decide +kernel) (by decide +kernel)
set_option maxRecDepth 20000 in
theorem gX2_colours_X0_greatestNumber : GoodIn wsX2_colours (wsV RX2 139 RX0 yX0_greatestNumber wsX0_greatestNumber) := goodIn_app (goodIn_of _ (by decide +kernel)) ggX2_colours_X0_greatestNumber
set_option maxRecDepth 20000 in
theorem ggX2_colours_X0_doRound : GoodIn wsX2_colours wsX0_doRound := goodIn_r _ [24, 8, 7, 25, 26, 5, 27, 28, 29, 30, 31, 32, 33, 34, 48, 49, 50] (by decide +kernel) (by decide +kernel)
set_option maxRecDepth 20000 in
theorem gX2_colours_X0_doRound : GoodIn wsX2_colours (wsV RX2 136 RX0 yX0_doRound wsX0_doRound) := goodIn_app (goodIn_of _ (by decide +kernel)) ggX2_colours_X0_doRound
set_option maxRecDepth 20000 in
theorem ggX2_colours_X0_giveUpColour : GoodIn wsX2_colours wsX0_giveUpColour := goodIn_r _ [38, 7, 8, 39, 40, 41, 5, 42, 9, 10, 11, 12, 43, 44, 45, 48, 49, 50] (by decide +kernel) (by decide +kernel)
set_option maxRecDepth 20000 in
theorem gX2_colours_X0_giveUpColour : GoodIn wsX2_colours (wsV RX2 142 RX0 yX0_giveUpColour wsX0_giveUpColour) := goodIn_app (goodIn_of _ (by decide +kernel)) ggX2_colours_X0_giveUpColour
theorem dX2_colours_0 : decode cX2_colours 0 = .ok (.aload_n 0, 1) := by decide +kernel
theorem dX2_colours_1 : decode cX2_colours 1 = .ok (.getfield 21, 3) := by decide +kernel
theorem dX2_colours_4 : decode cX2_colours 4 = .ok (.invokevirtual 133, 3) := by decide +kernel
theorem dX2_colours_7 : decode cX2_colours 7 = .ok (.ifCond .le 6, 3) := by decide +kernel
theorem dX2_colours_10 : decode cX2_colours 10 = .ok (.bipush (-3), 2) := by decide +kernel
theorem dX2_colours_12 : decode cX2_colours 12 = .ok (.ireturn, 1) := by decide +kernel
theorem dX2_colours_13 : decode cX2_colours 13 = .ok (.iconst 0, 1) := by decide +kernel
theorem dX2_colours_14 : decode cX2_colours 14 = .ok (.istore_n 1, 1) := by decide +kernel
theorem dX2_colours_15 : decode cX2_colours 15 = .ok (.iload_n 1, 1) := by decide +kernel
theorem dX2_colours_16 : decode cX2_colours 16 = .ok (.bipush 100, 2) := by decide +kernel
theorem dX2_colours_18 : decode cX2_colours 18 = .ok (.if_icmp .ge 27, 3) := by decide +kernel
theorem dX2_colours_21 : decode cX2_colours 21 = .ok (.aload_n 0, 1) := by decide +kernel
theorem dX2_colours_22 : decode cX2_colours 22 = .ok (.getfield 21, 3) := by decide +kernel
theorem dX2_colours_25 : decode cX2_colours 25 = .ok (.invokevirtual 139, 3) := by decide +kernel
theorem dX2_colours_28 : decode cX2_colours 28 = .ok (.iconst 5, 1) := by decide +kernel
theorem dX2_colours_29 : decode cX2_colours 29 = .ok (.if_icmp .le 16, 3) := by decide +kernel
theorem dX2_colours_32 : decode cX2_colours 32 = .ok (.aload_n 0, 1) := by decide +kernel
theorem dX2_colours_33 : decode cX2_colours 33 = .ok (.getfield 21, 3) := by decide +kernel
theorem dX2_colours_36 : decode cX2_colours 36 = .ok (.invokevirtual 136, 3) := by decide +kernel
theorem dX2_colours_39 : decode cX2_colours 39 = .ok (.iinc 1 1, 3) := by decide +kernel
theorem dX2_colours_42 : decode cX2_colours 42 = .ok (.goto (-27), 3) := by decide +kernel
theorem dX2_colours_45 : decode cX2_colours 45 = .ok (.iconst 5, 1) := by decide +kernel
theorem dX2_colours_46 : decode cX2_colours 46 = .ok (.istore_n 2, 1) := by decide +kernel
theorem dX2_colours_47 : decode cX2_colours 47 = .ok (.iload_n 2, 1) := by decide +kernel
theorem dX2_colours_48 : decode cX2_colours 48 = .ok (.iconst 2, 1) := by decide +kernel
theorem dX2_colours_49 : decode cX2_colours 49 = .ok (.if_icmp .le 17, 3) := by decide +kernel
theorem dX2_colours_52 : decode cX2_colours 52 = .ok (.aload_n 0, 1) := by decide +kernel
theorem dX2_colours_53 : decode cX2_colours 53 = .ok (.getfield 21, 3) := by decide +kernel
theorem dX2_colours_56 : decode cX2_colours 56 = .ok (.iload_n 2, 1) := by decide +kernel
theorem dX2_colours_57 : decode cX2_colours 57 = .ok (.invokevirtual 142, 3) := by decide +kernel
theorem dX2_colours_60 : decode cX2_colours 60 = .ok (.iinc 2 (-1), 3) := by decide +kernel
theorem dX2_colours_63 : decode cX2_colours 63 = .ok (.goto (-16), 3) := by decide +kernel
theorem dX2_colours_66 : decode cX2_colours 66 = .ok (.iload_n 1, 1) := by decide +kernel
theorem dX2_colours_67 : decode cX2_colours 67 = .ok (.ireturn, 1) := by decide +kernel
set_option maxRecDepth 20000 in
theorem ggX2_take_X0_greatestNumber : GoodIn wsX2_take wsX0_greatestNumber := goodIn_r _ [8, 9, 10, 11, 12, 13, 14, 32, 33, 34] (by decide +kernel) (by decide +kernel)
set_option maxRecDepth 20000 in
theorem gX2_take_X0_greatestNumber : GoodIn wsX2_take (wsV RX2 139 RX0 yX0_greatestNumber wsX0_greatestNumber) := goodIn_app (goodIn_of _ (by decide +kernel)) ggX2_take_X0_greatestNumber
end
section
set_option maxRecDepth 20000 in
theorem ggX2_take_X0_takeNumbers : GoodIn wsX2_take wsX0_takeNumbers := goodIn_r _ [18, 10, 19, 9, 20, 21, 22, 23, 32, 33, 34] (by decide +kernel) (by decide +kernel)
set_option maxRecDepth 20000 in
theorem gX2_take_X0_takeNumbers : GoodIn wsX2_take (wsV RX2 145 RX0 yX0_takeNumbers wsX0_takeNumbers) := goodIn_app (goodIn_of _ (by decide +kernel)) ggX2_take_X0_takeNumbers
theorem dX2_take_0 : decode cX2_take 0 = .ok (.aload_n 0, 1) := by decide +kernel
theorem dX2_take_1 : decode cX2_take 1 = .ok (.getfield 21, 3) := by decide +kernel
theorem dX2_take_4 : decode cX2_take 4 = .ok (.invokevirtual 139, 3) := by decide +kernel
theorem dX2_take_7 : decode cX2_take 7 = .ok (.aload_n 0, 1) := by decide +kernel
theorem dX2_take_8 : decode cX2_take 8 = .ok (.getfield 12, 3) := by decide +kernel
theorem dX2_take_11 : decode cX2_take 11 = .ok (.getfield 25, 3) := by decide +kernel
theorem dX2_take_14 : decode cX2_take 14 = .ok (.if_icmp .lt 6, 3) := by decide +kernel
theorem dX2_take_17 : decode cX2_take 17 = .ok (.bipush (-3), 2) := by decide +kernel
theorem dX2_take_19 : decode cX2_take 19 = .ok (.ireturn, 1) := by decide +kernel
theorem dX2_take_20 : decode cX2_take 20 = .ok (.aload_n 0, 1) := by decide +kernel
theorem dX2_take_21 : decode cX2_take 21 = .ok (.getfield 21, 3) := by decide +kernel
theorem dX2_take_24 : decode cX2_take 24 = .ok (.invokevirtual 145, 3) := by decide +kernel
theorem dX2_take_27 : decode cX2_take 27 = .ok (.iconst 1, 1) := by decide +kernel
theorem dX2_take_28 : decode cX2_take 28 = .ok (.ireturn, 1) := by decide +kernel
set_option maxRecDepth 20000 in
theorem ggX2_count_X1_pairCount : GoodIn wsX2_count wsX1_pairCount := goodIn_r _ [11, 12, 13, 14, 15, 16, 17, 18, 19, 20, 41, 42, 43, 44, 45, 46] (by decide +kernel) (by decide +kernel)
set_option maxRecDepth 20000 in
theorem gX2_count_X1_pairCount : GoodIn wsX2_count (wsV RX2 148 RX1 yX1_pairCount wsX1_pairCount) := goodIn_app (goodIn_of _ (by decide +kernel)) ggX2_count_X1_pairCount
set_option maxRecDepth 20000 in
theorem ggX2_count_X0_unlike : GoodIn wsX2_count wsX0_unlike := goodIn_r _ [25, 26, 27, 28, 24, 29, 47, 48, 49] (by decide +kernel) (by decide +kernel)
set_option maxRecDepth 20000 in
theorem gX2_count_X0_unlike : GoodIn wsX2_count (wsV RX2 151 RX0 yX0_unlike wsX0_unlike) := goodIn_app (goodIn_of _ (by decide +kernel)) ggX2_count_X0_unlike
set_option maxRecDepth 20000 in
theorem ggX2_count_X0_likeNeighbours : GoodIn wsX2_count wsX0_likeNeighbours := goodIn_r _ [33, 26, 34, 35, 36, 37, 24, 38, 47, 48, 49] (by decide +kernel) (by decide +kernel)
set_option maxRecDepth 20000 in
theorem gX2_count_X0_likeNeighbours : GoodIn wsX2_count (wsV RX2 133 RX0 yX0_likeNeighbours wsX0_likeNeighbours) := goodIn_app (goodIn_of _ (by decide +kernel)) ggX2_count_X0_likeNeighbours
theorem dX2_count_0 : decode cX2_count 0 = .ok (.iload_n 1, 1) := by decide +kernel
theorem dX2_count_1 : decode cX2_count 1 = .ok (.tableswitch 101 0 5 #[39, 47, 55, 63, 78, 86], 39) := by decide +kernel
theorem dX2_count_40 : decode cX2_count 40 = .ok (.aload_n 0, 1) := by decide +kernel
theorem dX2_count_41 : decode cX2_count 41 = .ok (.getfield 12, 3) := by decide +kernel
theorem dX2_count_44 : decode cX2_count 44 = .ok (.getfield 25, 3) := by decide +kernel
theorem dX2_count_47 : decode cX2_count 47 = .ok (.ireturn, 1) := by decide +kernel
theorem dX2_count_48 : decode cX2_count 48 = .ok (.aload_n 0, 1) := by decide +kernel
theorem dX2_count_49 : decode cX2_count 49 = .ok (.getfield 12, 3) := by decide +kernel
theorem dX2_count_52 : decode cX2_count 52 = .ok (.invokevirtual 148, 3) := by decide +kernel
theorem dX2_count_55 : decode cX2_count 55 = .ok (.ireturn, 1) := by decide +kernel
theorem dX2_count_56 : decode cX2_count 56 = .ok (.aload_n 0, 1) := by decide +kernel
theorem dX2_count_57 : decode cX2_count 57 = .ok (.getfield 21, 3) := by decide +kernel
theorem dX2_count_60 : decode cX2_count 60 = .ok (.getfield 108, 3) := by decide +kernel
theorem dX2_count_63 : decode cX2_count 63 = .ok (.ireturn, 1) := by decide +kernel
theorem dX2_count_64 : decode cX2_count 64 = .ok (.aload_n 0, 1) := by decide +kernel
theorem dX2_count_65 : decode cX2_count 65 = .ok (.getfield 21, 3) := by decide +kernel
theorem dX2_count_68 : decode cX2_count 68 = .ok (.aload_n 0, 1) := by decide +kernel
theorem dX2_count_69 : decode cX2_count 69 = .ok (.getfield 21, 3) := by decide +kernel
theorem dX2_count_72 : decode cX2_count 72 = .ok (.getfield 130, 3) := by decide +kernel
theorem dX2_count_75 : decode cX2_count 75 = .ok (.invokevirtual 151, 3) := by decide +kernel
theorem dX2_count_78 : decode cX2_count 78 = .ok (.ireturn, 1) := by decide +kernel
theorem dX2_count_79 : decode cX2_count 79 = .ok (.aload_n 0, 1) := by decide +kernel
theorem dX2_count_80 : decode cX2_count 80 = .ok (.getfield 21, 3) := by decide +kernel
theorem dX2_count_83 : decode cX2_count 83 = .ok (.invokevirtual 133, 3) := by decide +kernel
theorem dX2_count_86 : decode cX2_count 86 = .ok (.ireturn, 1) := by decide +kernel
theorem dX2_count_87 : decode cX2_count 87 = .ok (.aload_n 0, 1) := by decide +kernel
theorem dX2_count_88 : decode cX2_count 88 = .ok (.getfield 21, 3) := by decide +kernel
theorem dX2_count_91 : decode cX2_count 91 = .ok (.aload_n 0, 1) := by decide +kernel
theorem dX2_count_92 : decode cX2_count 92 = .ok (.getfield 21, 3) := by decide +kernel
theorem dX2_count_95 : decode cX2_count 95 = .ok (.getfield 111, 3) := by decide +kernel
theorem dX2_count_98 : decode cX2_count 98 = .ok (.invokevirtual 151, 3) := by decide +kernel
theorem dX2_count_101 : decode cX2_count 101 = .ok (.ireturn, 1) := by decide +kernel
theorem dX2_count_102 : decode cX2_count 102 = .ok (.bipush (-2), 2) := by decide +kernel
theorem dX2_count_104 : decode cX2_count 104 = .ok (.ireturn, 1) := by decide +kernel
theorem dX2_asNumber_0 : decode cX2_asNumber 0 = .ok (.iload_n 0, 1) := by decide +kernel
theorem dX2_asNumber_1 : decode cX2_asNumber 1 = .ok (.ifCond .eq 7, 3) := by decide +kernel
theorem dX2_asNumber_4 : decode cX2_asNumber 4 = .ok (.iconst 1, 1) := by decide +kernel
theorem dX2_asNumber_5 : decode cX2_asNumber 5 = .ok (.goto 4, 3) := by decide +kernel
theorem dX2_asNumber_8 : decode cX2_asNumber 8 = .ok (.iconst 0, 1) := by decide +kernel
theorem dX2_asNumber_9 : decode cX2_asNumber 9 = .ok (.ireturn, 1) := by decide +kernel
theorem dX2_isRingSize_0 : decode cX2_isRingSize 0 = .ok (.iload_n 0, 1) := by decide +kernel
theorem dX2_isRingSize_1 : decode cX2_isRingSize 1 = .ok (.iconst 1, 1) := by decide +kernel
theorem dX2_isRingSize_2 : decode cX2_isRingSize 2 = .ok (.if_icmp .lt 13, 3) := by decide +kernel
theorem dX2_isRingSize_5 : decode cX2_isRingSize 5 = .ok (.iload_n 0, 1) := by decide +kernel
theorem dX2_isRingSize_6 : decode cX2_isRingSize 6 = .ok (.bipush 60, 2) := by decide +kernel
theorem dX2_isRingSize_8 : decode cX2_isRingSize 8 = .ok (.if_icmp .gt 7, 3) := by decide +kernel
theorem dX2_isRingSize_11 : decode cX2_isRingSize 11 = .ok (.iconst 1, 1) := by decide +kernel
theorem dX2_isRingSize_12 : decode cX2_isRingSize 12 = .ok (.goto 4, 3) := by decide +kernel
theorem dX2_isRingSize_15 : decode cX2_isRingSize 15 = .ok (.iconst 0, 1) := by decide +kernel
theorem dX2_isRingSize_16 : decode cX2_isRingSize 16 = .ok (.ireturn, 1) := by decide +kernel
theorem dX2_endOfGaps_0 : decode cX2_endOfGaps 0 = .ok (.bipush 61, 2) := by decide +kernel
theorem dX2_endOfGaps_2 : decode cX2_endOfGaps 2 = .ok (.istore_n 2, 1) := by decide +kernel
theorem dX2_endOfGaps_3 : decode cX2_endOfGaps 3 = .ok (.iload_n 2, 1) := by decide +kernel
theorem dX2_endOfGaps_4 : decode cX2_endOfGaps 4 = .ok (.ifCond .le 21, 3) := by decide +kernel
theorem dX2_endOfGaps_7 : decode cX2_endOfGaps 7 = .ok (.lload_n 0, 1) := by decide +kernel
theorem dX2_endOfGaps_8 : decode cX2_endOfGaps 8 = .ok (.iload_n 2, 1) := by decide +kernel
theorem dX2_endOfGaps_9 : decode cX2_endOfGaps 9 = .ok (.iconst 1, 1) := by decide +kernel
theorem dX2_endOfGaps_10 : decode cX2_endOfGaps 10 = .ok (.isub, 1) := by decide +kernel
theorem dX2_endOfGaps_11 : decode cX2_endOfGaps 11 = .ok (.lshr, 1) := by decide +kernel
theorem dX2_endOfGaps_12 : decode cX2_endOfGaps 12 = .ok (.lconst 1, 1) := by decide +kernel
theorem dX2_endOfGaps_13 : decode cX2_endOfGaps 13 = .ok (.land, 1) := by decide +kernel
theorem dX2_endOfGaps_14 : decode cX2_endOfGaps 14 = .ok (.lconst 1, 1) := by decide +kernel
theorem dX2_endOfGaps_15 : decode cX2_endOfGaps 15 = .ok (.lcmp, 1) := by decide +kernel
theorem dX2_endOfGaps_16 : decode cX2_endOfGaps 16 = .ok (.ifCond .ne 9, 3) := by decide +kernel
theorem dX2_endOfGaps_19 : decode cX2_endOfGaps 19 = .ok (.iinc 2 (-1), 3) := by decide +kernel
theorem dX2_endOfGaps_22 : decode cX2_endOfGaps 22 = .ok (.goto (-19), 3) := by decide +kernel
theorem dX2_endOfGaps_25 : decode cX2_endOfGaps 25 = .ok (.iload_n 2, 1) := by decide +kernel
theorem dX2_endOfGaps_26 : decode cX2_endOfGaps 26 = .ok (.ireturn, 1) := by decide +kernel
set_option maxRecDepth 20000 in
theorem ggX3_init_X3_begin : GoodIn wsX3_init wsX3_begin := goodIn_r _ [18, 19, 5, 12, 25, 26, 27, 28, 29, 30, 31, 32, 33] (by decide +kernel) (by decide +kernel)
set_option maxRecDepth 20000 in
theorem gX3_init_X3_begin : GoodIn wsX3_init (wsV RX3 33 RX3 yX3_begin wsX3_begin) := goodIn_app (goodIn_of _ (by decide +kernel)) ggX3_init_X3_begin
set_option maxRecDepth 20000 in
theorem ggX3_init_X3_lay : GoodIn wsX3_init wsX3_lay := goodIn_r _ [23, 24, 12, 13, 25, 26, 27, 28, 29, 30, 31, 32, 33] (by decide +kernel) (by decide +kernel)
set_option maxRecDepth 20000 in
theorem gX3_init_X3_lay : GoodIn wsX3_init (wsV RX3 37 RX3 yX3_lay wsX3_lay) := goodIn_app (goodIn_of _ (by decide +kernel)) ggX3_init_X3_lay
theorem dX3_init_0 : decode cX3_init 0 = .ok (.aload_n 0, 1) := by decide +kernel
theorem dX3_init_1 : decode cX3_init 1 = .ok (.invokespecial 1, 3) := by decide +kernel
theorem dX3_init_4 : decode cX3_init 4 = .ok (.aload_n 0, 1) := by decide +kernel
theorem dX3_init_5 : decode cX3_init 5 = .ok (.bipush 36, 2) := by decide +kernel
theorem dX3_init_7 : decode cX3_init 7 = .ok (.newarray .boolean, 2) := by decide +kernel
theorem dX3_init_9 : decode cX3_init 9 = .ok (.putfield 7, 3) := by decide +kernel
theorem dX3_init_12 : decode cX3_init 12 = .ok (.aload_n 0, 1) := by decide +kernel
theorem dX3_init_13 : decode cX3_init 13 = .ok (.bipush 61, 2) := by decide +kernel
theorem dX3_init_15 : decode cX3_init 15 = .ok (.newarray .long, 2) := by decide +kernel
theorem dX3_init_17 : decode cX3_init 17 = .ok (.putfield 13, 3) := by decide +kernel
theorem dX3_init_20 : decode cX3_init 20 = .ok (.aload_n 0, 1) := by decide +kernel
theorem dX3_init_21 : decode cX3_init 21 = .ok (.bipush 6, 2) := by decide +kernel
theorem dX3_init_23 : decode cX3_init 23 = .ok (.newarray .long, 2) := by decide +kernel
theorem dX3_init_25 : decode cX3_init 25 = .ok (.putfield 17, 3) := by decide +kernel
theorem dX3_init_28 : decode cX3_init 28 = .ok (.aload_n 0, 1) := by decide +kernel
theorem dX3_init_29 : decode cX3_init 29 = .ok (.bipush 6, 2) := by decide +kernel
theorem dX3_init_31 : decode cX3_init 31 = .ok (.newarray .long, 2) := by decide +kernel
theorem dX3_init_33 : decode cX3_init 33 = .ok (.putfield 20, 3) := by decide +kernel
theorem dX3_init_36 : decode cX3_init 36 = .ok (.aload_n 0, 1) := by decide +kernel
theorem dX3_init_37 : decode cX3_init 37 = .ok (.bipush 60, 2) := by decide +kernel
theorem dX3_init_39 : decode cX3_init 39 = .ok (.newarray .int, 2) := by decide +kernel
theorem dX3_init_41 : decode cX3_init 41 = .ok (.putfield 23, 3) := by decide +kernel
theorem dX3_init_44 : decode cX3_init 44 = .ok (.aload_n 0, 1) := by decide +kernel
theorem dX3_init_45 : decode cX3_init 45 = .ok (.bipush 60, 2) := by decide +kernel
theorem dX3_init_47 : decode cX3_init 47 = .ok (.newarray .int, 2) := by decide +kernel
theorem dX3_init_49 : decode cX3_init 49 = .ok (.putfield 27, 3) := by decide +kernel
theorem dX3_init_52 : decode cX3_init 52 = .ok (.aload_n 0, 1) := by decide +kernel
theorem dX3_init_53 : decode cX3_init 53 = .ok (.bipush 60, 2) := by decide +kernel
theorem dX3_init_55 : decode cX3_init 55 = .ok (.newarray .int, 2) := by decide +kernel
theorem dX3_init_57 : decode cX3_init 57 = .ok (.putfield 30, 3) := by decide +kernel
theorem dX3_init_60 : decode cX3_init 60 = .ok (.aload_n 0, 1) := by decide +kernel
theorem dX3_init_61 : decode cX3_init 61 = .ok (.iconst 3, 1) := by decide +kernel
theorem dX3_init_62 : decode cX3_init 62 = .ok (.invokevirtual 33, 3) := by decide +kernel
theorem dX3_init_65 : decode cX3_init 65 = .ok (.aload_n 0, 1) := by decide +kernel
theorem dX3_init_66 : decode cX3_init 66 = .ok (.iconst 3, 1) := by decide +kernel
theorem dX3_init_67 : decode cX3_init 67 = .ok (.invokevirtual 37, 3) := by decide +kernel
theorem dX3_init_70 : decode cX3_init 70 = .ok (.return_, 1) := by decide +kernel
theorem dX3_in_0 : decode cX3_in 0 = .ok (.iload_n 0, 1) := by decide +kernel
theorem dX3_in_1 : decode cX3_in 1 = .ok (.iload_n 1, 1) := by decide +kernel
theorem dX3_in_2 : decode cX3_in 2 = .ok (.if_icmp .lt 12, 3) := by decide +kernel
theorem dX3_in_5 : decode cX3_in 5 = .ok (.iload_n 0, 1) := by decide +kernel
theorem dX3_in_6 : decode cX3_in 6 = .ok (.iload_n 2, 1) := by decide +kernel
theorem dX3_in_7 : decode cX3_in 7 = .ok (.if_icmp .gt 7, 3) := by decide +kernel
theorem dX3_in_10 : decode cX3_in 10 = .ok (.iconst 1, 1) := by decide +kernel
theorem dX3_in_11 : decode cX3_in 11 = .ok (.goto 4, 3) := by decide +kernel
theorem dX3_in_14 : decode cX3_in 14 = .ok (.iconst 0, 1) := by decide +kernel
theorem dX3_in_15 : decode cX3_in 15 = .ok (.ireturn, 1) := by decide +kernel
set_option maxRecDepth 20000 in
theorem ggX3_isLabel_X3_in : GoodIn wsX3_isLabel wsX3_in := goodIn_r _ [5] (by decide +kernel) (by decide +kernel)
set_option maxRecDepth 20000 in
theorem gX3_isLabel_X3_in : GoodIn wsX3_isLabel (va_wsS RX3 44 yX3_in wsX3_in) := goodIn_app (goodIn_of _ (by decide +kernel)) ggX3_isLabel_X3_in
theorem dX3_isLabel_0 : decode cX3_isLabel 0 = .ok (.iload_n 1, 1) := by decide +kernel
theorem dX3_isLabel_1 : decode cX3_isLabel 1 = .ok (.iconst 0, 1) := by decide +kernel
theorem dX3_isLabel_2 : decode cX3_isLabel 2 = .ok (.aload_n 0, 1) := by decide +kernel
theorem dX3_isLabel_3 : decode cX3_isLabel 3 = .ok (.getfield 40, 3) := by decide +kernel
theorem dX3_isLabel_6 : decode cX3_isLabel 6 = .ok (.iconst 1, 1) := by decide +kernel
theorem dX3_isLabel_7 : decode cX3_isLabel 7 = .ok (.isub, 1) := by decide +kernel
theorem dX3_isLabel_8 : decode cX3_isLabel 8 = .ok (.invokestatic 44, 3) := by decide +kernel
theorem dX3_isLabel_11 : decode cX3_isLabel 11 = .ok (.ireturn, 1) := by decide +kernel
theorem dX3_begin_0 : decode cX3_begin 0 = .ok (.aload_n 0, 1) := by decide +kernel
theorem dX3_begin_1 : decode cX3_begin 1 = .ok (.iload_n 1, 1) := by decide +kernel
theorem dX3_begin_2 : decode cX3_begin 2 = .ok (.putfield 40, 3) := by decide +kernel
theorem dX3_begin_5 : decode cX3_begin 5 = .ok (.iconst 0, 1) := by decide +kernel
theorem dX3_begin_6 : decode cX3_begin 6 = .ok (.istore_n 2, 1) := by decide +kernel
theorem dX3_begin_7 : decode cX3_begin 7 = .ok (.iload_n 2, 1) := by decide +kernel
theorem dX3_begin_8 : decode cX3_begin 8 = .ok (.bipush 36, 2) := by decide +kernel
theorem dX3_begin_10 : decode cX3_begin 10 = .ok (.if_icmp .ge 47, 3) := by decide +kernel
theorem dX3_begin_13 : decode cX3_begin 13 = .ok (.aload_n 0, 1) := by decide +kernel
theorem dX3_begin_14 : decode cX3_begin 14 = .ok (.getfield 7, 3) := by decide +kernel
theorem dX3_begin_17 : decode cX3_begin 17 = .ok (.iload_n 2, 1) := by decide +kernel
theorem dX3_begin_18 : decode cX3_begin 18 = .ok (.iload_n 2, 1) := by decide +kernel
theorem dX3_begin_19 : decode cX3_begin 19 = .ok (.bipush 6, 2) := by decide +kernel
theorem dX3_begin_21 : decode cX3_begin 21 = .ok (.idiv, 1) := by decide +kernel
theorem dX3_begin_22 : decode cX3_begin 22 = .ok (.iload_n 2, 1) := by decide +kernel
theorem dX3_begin_23 : decode cX3_begin 23 = .ok (.bipush 6, 2) := by decide +kernel
theorem dX3_begin_25 : decode cX3_begin 25 = .ok (.irem, 1) := by decide +kernel
theorem dX3_begin_26 : decode cX3_begin 26 = .ok (.if_icmp .eq 23, 3) := by decide +kernel
theorem dX3_begin_29 : decode cX3_begin 29 = .ok (.iload_n 2, 1) := by decide +kernel
theorem dX3_begin_30 : decode cX3_begin 30 = .ok (.bipush 6, 2) := by decide +kernel
theorem dX3_begin_32 : decode cX3_begin 32 = .ok (.idiv, 1) := by decide +kernel
theorem dX3_begin_33 : decode cX3_begin 33 = .ok (.iload_n 1, 1) := by decide +kernel
theorem dX3_begin_34 : decode cX3_begin 34 = .ok (.if_icmp .ge 15, 3) := by decide +kernel
theorem dX3_begin_37 : decode cX3_begin 37 = .ok (.iload_n 2, 1) := by decide +kernel
theorem dX3_begin_38 : decode cX3_begin 38 = .ok (.bipush 6, 2) := by decide +kernel
theorem dX3_begin_40 : decode cX3_begin 40 = .ok (.irem, 1) := by decide +kernel
theorem dX3_begin_41 : decode cX3_begin 41 = .ok (.iload_n 1, 1) := by decide +kernel
theorem dX3_begin_42 : decode cX3_begin 42 = .ok (.if_icmp .ge 7, 3) := by decide +kernel
theorem dX3_begin_45 : decode cX3_begin 45 = .ok (.iconst 1, 1) := by decide +kernel
theorem dX3_begin_46 : decode cX3_begin 46 = .ok (.goto 4, 3) := by decide +kernel
theorem dX3_begin_49 : decode cX3_begin 49 = .ok (.iconst 0, 1) := by decide +kernel
theorem dX3_begin_50 : decode cX3_begin 50 = .ok (.bastore, 1) := by decide +kernel
theorem dX3_begin_51 : decode cX3_begin 51 = .ok (.iinc 2 1, 3) := by decide +kernel
theorem dX3_begin_54 : decode cX3_begin 54 = .ok (.goto (-47), 3) := by decide +kernel
theorem dX3_begin_57 : decode cX3_begin 57 = .ok (.iconst 0, 1) := by decide +kernel
theorem dX3_begin_58 : decode cX3_begin 58 = .ok (.istore_n 2, 1) := by decide +kernel
theorem dX3_begin_59 : decode cX3_begin 59 = .ok (.iload_n 2, 1) := by decide +kernel
theorem dX3_begin_60 : decode cX3_begin 60 = .ok (.bipush 60, 2) := by decide +kernel
theorem dX3_begin_62 : decode cX3_begin 62 = .ok (.if_icmp .ge 16, 3) := by decide +kernel
theorem dX3_begin_65 : decode cX3_begin 65 = .ok (.aload_n 0, 1) := by decide +kernel
theorem dX3_begin_66 : decode cX3_begin 66 = .ok (.getfield 27, 3) := by decide +kernel
theorem dX3_begin_69 : decode cX3_begin 69 = .ok (.iload_n 2, 1) := by decide +kernel
theorem dX3_begin_70 : decode cX3_begin 70 = .ok (.iconst 0, 1) := by decide +kernel
theorem dX3_begin_71 : decode cX3_begin 71 = .ok (.iastore, 1) := by decide +kernel
theorem dX3_begin_72 : decode cX3_begin 72 = .ok (.iinc 2 1, 3) := by decide +kernel
theorem dX3_begin_75 : decode cX3_begin 75 = .ok (.goto (-16), 3) := by decide +kernel
theorem dX3_begin_78 : decode cX3_begin 78 = .ok (.return_, 1) := by decide +kernel
set_option maxRecDepth 20000 in
theorem ggX3_labels_X3_in : GoodIn wsX3_labels wsX3_in := goodIn_r _ [5] (by decide +kernel) (by decide +kernel)
set_option maxRecDepth 20000 in
theorem gX3_labels_X3_in : GoodIn wsX3_labels (va_wsS RX3 44 yX3_in wsX3_in) := goodIn_app (goodIn_of _ (by decide +kernel)) ggX3_labels_X3_in
set_option maxRecDepth 20000 in
theorem ggX3_labels_X3_begin : GoodIn wsX3_labels wsX3_begin := goodIn_r _ [9, 1, 10, 11, 12, 13, 14, 15, 16, 17, 18, 19, 20] (by decide +kernel) (by decide +kernel)
set_option maxRecDepth 20000 in
theorem gX3_labels_X3_begin : GoodIn wsX3_labels (wsV RX3 33 RX3 yX3_begin wsX3_begin) := goodIn_app (goodIn_of _ (by decide +kernel)) ggX3_labels_X3_begin
theorem dX3_labels_0 : decode cX3_labels 0 = .ok (.iload_n 1, 1) := by decide +kernel
theorem dX3_labels_1 : decode cX3_labels 1 = .ok (.iconst 1, 1) := by decide +kernel
theorem dX3_labels_2 : decode cX3_labels 2 = .ok (.bipush 6, 2) := by decide +kernel
theorem dX3_labels_4 : decode cX3_labels 4 = .ok (.invokestatic 44, 3) := by decide +kernel
theorem dX3_labels_7 : decode cX3_labels 7 = .ok (.ifCond .ne 6, 3) := by decide +kernel
theorem dX3_labels_10 : decode cX3_labels 10 = .ok (.bipush (-2), 2) := by decide +kernel
theorem dX3_labels_12 : decode cX3_labels 12 = .ok (.ireturn, 1) := by decide +kernel
theorem dX3_labels_13 : decode cX3_labels 13 = .ok (.aload_n 0, 1) := by decide +kernel
theorem dX3_labels_14 : decode cX3_labels 14 = .ok (.getfield 40, 3) := by decide +kernel
theorem dX3_labels_17 : decode cX3_labels 17 = .ok (.istore_n 2, 1) := by decide +kernel
theorem dX3_labels_18 : decode cX3_labels 18 = .ok (.aload_n 0, 1) := by decide +kernel
theorem dX3_labels_19 : decode cX3_labels 19 = .ok (.iload_n 1, 1) := by decide +kernel
theorem dX3_labels_20 : decode cX3_labels 20 = .ok (.invokevirtual 33, 3) := by decide +kernel
theorem dX3_labels_23 : decode cX3_labels 23 = .ok (.iload_n 2, 1) := by decide +kernel
theorem dX3_labels_24 : decode cX3_labels 24 = .ok (.ireturn, 1) := by decide +kernel
set_option maxRecDepth 20000 in
theorem ggX3_allow_X3_isLabel : GoodIn wsX3_allow wsX3_isLabel := goodIn_r _ [6, 7, 8, 9, 5, 10, 11, 12, 13, 14, 15, 16, 17, 18, 19] (by decide +kernel) (by decide +kernel)
set_option maxRecDepth 20000 in
theorem gX3_allow_X3_isLabel : GoodIn wsX3_allow (wsV RX3 48 RX3 yX3_isLabel wsX3_isLabel) := goodIn_app (goodIn_of _ (by decide +kernel)) ggX3_allow_X3_isLabel
theorem dX3_allow_0 : decode cX3_allow 0 = .ok (.aload_n 0, 1) := by decide +kernel
theorem dX3_allow_1 : decode cX3_allow 1 = .ok (.iload_n 1, 1) := by decide +kernel
theorem dX3_allow_2 : decode cX3_allow 2 = .ok (.invokevirtual 48, 3) := by decide +kernel
theorem dX3_allow_5 : decode cX3_allow 5 = .ok (.ifCond .eq 11, 3) := by decide +kernel
theorem dX3_allow_8 : decode cX3_allow 8 = .ok (.aload_n 0, 1) := by decide +kernel
theorem dX3_allow_9 : decode cX3_allow 9 = .ok (.iload_n 2, 1) := by decide +kernel
theorem dX3_allow_10 : decode cX3_allow 10 = .ok (.invokevirtual 48, 3) := by decide +kernel
theorem dX3_allow_13 : decode cX3_allow 13 = .ok (.ifCond .ne 5, 3) := by decide +kernel
theorem dX3_allow_16 : decode cX3_allow 16 = .ok (.iconst (-1), 1) := by decide +kernel
theorem dX3_allow_17 : decode cX3_allow 17 = .ok (.ireturn, 1) := by decide +kernel
theorem dX3_allow_18 : decode cX3_allow 18 = .ok (.aload_n 0, 1) := by decide +kernel
theorem dX3_allow_19 : decode cX3_allow 19 = .ok (.getfield 7, 3) := by decide +kernel
theorem dX3_allow_22 : decode cX3_allow 22 = .ok (.bipush 6, 2) := by decide +kernel
theorem dX3_allow_24 : decode cX3_allow 24 = .ok (.iload_n 1, 1) := by decide +kernel
theorem dX3_allow_25 : decode cX3_allow 25 = .ok (.imul, 1) := by decide +kernel
theorem dX3_allow_26 : decode cX3_allow 26 = .ok (.iload_n 2, 1) := by decide +kernel
theorem dX3_allow_27 : decode cX3_allow 27 = .ok (.iadd, 1) := by decide +kernel
theorem dX3_allow_28 : decode cX3_allow 28 = .ok (.baload, 1) := by decide +kernel
theorem dX3_allow_29 : decode cX3_allow 29 = .ok (.ifCond .eq 7, 3) := by decide +kernel
theorem dX3_allow_32 : decode cX3_allow 32 = .ok (.iconst 1, 1) := by decide +kernel
theorem dX3_allow_33 : decode cX3_allow 33 = .ok (.goto 4, 3) := by decide +kernel
theorem dX3_allow_36 : decode cX3_allow 36 = .ok (.iconst 0, 1) := by decide +kernel
theorem dX3_allow_37 : decode cX3_allow 37 = .ok (.istore 4, 2) := by decide +kernel
theorem dX3_allow_39 : decode cX3_allow 39 = .ok (.aload_n 0, 1) := by decide +kernel
theorem dX3_allow_40 : decode cX3_allow 40 = .ok (.getfield 7, 3) := by decide +kernel
theorem dX3_allow_43 : decode cX3_allow 43 = .ok (.bipush 6, 2) := by decide +kernel
theorem dX3_allow_45 : decode cX3_allow 45 = .ok (.iload_n 1, 1) := by decide +kernel
theorem dX3_allow_46 : decode cX3_allow 46 = .ok (.imul, 1) := by decide +kernel
theorem dX3_allow_47 : decode cX3_allow 47 = .ok (.iload_n 2, 1) := by decide +kernel
theorem dX3_allow_48 : decode cX3_allow 48 = .ok (.iadd, 1) := by decide +kernel
theorem dX3_allow_49 : decode cX3_allow 49 = .ok (.iload_n 3, 1) := by decide +kernel
theorem dX3_allow_50 : decode cX3_allow 50 = .ok (.bastore, 1) := by decide +kernel
theorem dX3_allow_51 : decode cX3_allow 51 = .ok (.iload 4, 2) := by decide +kernel
theorem dX3_allow_53 : decode cX3_allow 53 = .ok (.ireturn, 1) := by decide +kernel
set_option maxRecDepth 20000 in
theorem ggX3_may_X3_isLabel : GoodIn wsX3_may wsX3_isLabel := goodIn_r _ [6, 7, 8, 9, 5, 10, 11, 12, 13, 14, 15, 16, 17, 18, 19] (by decide +kernel) (by decide +kernel)
set_option maxRecDepth 20000 in
theorem gX3_may_X3_isLabel : GoodIn wsX3_may (wsV RX3 48 RX3 yX3_isLabel wsX3_isLabel) := goodIn_app (goodIn_of _ (by decide +kernel)) ggX3_may_X3_isLabel
theorem dX3_may_0 : decode cX3_may 0 = .ok (.aload_n 0, 1) := by decide +kernel
theorem dX3_may_1 : decode cX3_may 1 = .ok (.iload_n 1, 1) := by decide +kernel
theorem dX3_may_2 : decode cX3_may 2 = .ok (.invokevirtual 48, 3) := by decide +kernel
theorem dX3_may_5 : decode cX3_may 5 = .ok (.ifCond .eq 11, 3) := by decide +kernel
theorem dX3_may_8 : decode cX3_may 8 = .ok (.aload_n 0, 1) := by decide +kernel
theorem dX3_may_9 : decode cX3_may 9 = .ok (.iload_n 2, 1) := by decide +kernel
theorem dX3_may_10 : decode cX3_may 10 = .ok (.invokevirtual 48, 3) := by decide +kernel
theorem dX3_may_13 : decode cX3_may 13 = .ok (.ifCond .ne 7, 3) := by decide +kernel
theorem dX3_may_16 : decode cX3_may 16 = .ok (.iconst (-1), 1) := by decide +kernel
theorem dX3_may_17 : decode cX3_may 17 = .ok (.goto 22, 3) := by decide +kernel
theorem dX3_may_20 : decode cX3_may 20 = .ok (.aload_n 0, 1) := by decide +kernel
theorem dX3_may_21 : decode cX3_may 21 = .ok (.getfield 7, 3) := by decide +kernel
theorem dX3_may_24 : decode cX3_may 24 = .ok (.bipush 6, 2) := by decide +kernel
theorem dX3_may_26 : decode cX3_may 26 = .ok (.iload_n 1, 1) := by decide +kernel
theorem dX3_may_27 : decode cX3_may 27 = .ok (.imul, 1) := by decide +kernel
theorem dX3_may_28 : decode cX3_may 28 = .ok (.iload_n 2, 1) := by decide +kernel
theorem dX3_may_29 : decode cX3_may 29 = .ok (.iadd, 1) := by decide +kernel
theorem dX3_may_30 : decode cX3_may 30 = .ok (.baload, 1) := by decide +kernel
theorem dX3_may_31 : decode cX3_may 31 = .ok (.ifCond .eq 7, 3) := by decide +kernel
theorem dX3_may_34 : decode cX3_may 34 = .ok (.iconst 1, 1) := by decide +kernel
theorem dX3_may_35 : decode cX3_may 35 = .ok (.goto 4, 3) := by decide +kernel
theorem dX3_may_38 : decode cX3_may 38 = .ok (.iconst 0, 1) := by decide +kernel
theorem dX3_may_39 : decode cX3_may 39 = .ok (.ireturn, 1) := by decide +kernel
theorem dX3_layLeads_0 : decode cX3_layLeads 0 = .ok (.aload_n 0, 1) := by decide +kernel
theorem dX3_layLeads_1 : decode cX3_layLeads 1 = .ok (.getfield 13, 3) := by decide +kernel
theorem dX3_layLeads_4 : decode cX3_layLeads 4 = .ok (.iconst 0, 1) := by decide +kernel
theorem dX3_layLeads_5 : decode cX3_layLeads 5 = .ok (.lconst 0, 1) := by decide +kernel
theorem dX3_layLeads_6 : decode cX3_layLeads 6 = .ok (.lastore, 1) := by decide +kernel
theorem dX3_layLeads_7 : decode cX3_layLeads 7 = .ok (.iconst 0, 1) := by decide +kernel
theorem dX3_layLeads_8 : decode cX3_layLeads 8 = .ok (.istore_n 1, 1) := by decide +kernel
theorem dX3_layLeads_9 : decode cX3_layLeads 9 = .ok (.iload_n 1, 1) := by decide +kernel
theorem dX3_layLeads_10 : decode cX3_layLeads 10 = .ok (.aload_n 0, 1) := by decide +kernel
theorem dX3_layLeads_11 : decode cX3_layLeads 11 = .ok (.getfield 40, 3) := by decide +kernel
theorem dX3_layLeads_14 : decode cX3_layLeads 14 = .ok (.if_icmp .ge 24, 3) := by decide +kernel
theorem dX3_layLeads_17 : decode cX3_layLeads 17 = .ok (.aload_n 0, 1) := by decide +kernel
theorem dX3_layLeads_18 : decode cX3_layLeads 18 = .ok (.getfield 13, 3) := by decide +kernel
theorem dX3_layLeads_21 : decode cX3_layLeads 21 = .ok (.iconst 0, 1) := by decide +kernel
theorem dX3_layLeads_22 : decode cX3_layLeads 22 = .ok (.dup2, 1) := by decide +kernel
theorem dX3_layLeads_23 : decode cX3_layLeads 23 = .ok (.laload, 1) := by decide +kernel
theorem dX3_layLeads_24 : decode cX3_layLeads 24 = .ok (.lconst 1, 1) := by decide +kernel
theorem dX3_layLeads_25 : decode cX3_layLeads 25 = .ok (.bipush 7, 2) := by decide +kernel
theorem dX3_layLeads_27 : decode cX3_layLeads 27 = .ok (.iload_n 1, 1) := by decide +kernel
theorem dX3_layLeads_28 : decode cX3_layLeads 28 = .ok (.imul, 1) := by decide +kernel
theorem dX3_layLeads_29 : decode cX3_layLeads 29 = .ok (.lshl, 1) := by decide +kernel
theorem dX3_layLeads_30 : decode cX3_layLeads 30 = .ok (.lor, 1) := by decide +kernel
theorem dX3_layLeads_31 : decode cX3_layLeads 31 = .ok (.lastore, 1) := by decide +kernel
theorem dX3_layLeads_32 : decode cX3_layLeads 32 = .ok (.iinc 1 1, 3) := by decide +kernel
theorem dX3_layLeads_35 : decode cX3_layLeads 35 = .ok (.goto (-26), 3) := by decide +kernel
theorem dX3_layLeads_38 : decode cX3_layLeads 38 = .ok (.iconst 1, 1) := by decide +kernel
theorem dX3_layLeads_39 : decode cX3_layLeads 39 = .ok (.istore_n 1, 1) := by decide +kernel
theorem dX3_layLeads_40 : decode cX3_layLeads 40 = .ok (.iload_n 1, 1) := by decide +kernel
theorem dX3_layLeads_41 : decode cX3_layLeads 41 = .ok (.bipush 60, 2) := by decide +kernel
theorem dX3_layLeads_43 : decode cX3_layLeads 43 = .ok (.if_icmp .gt 76, 3) := by decide +kernel
theorem dX3_layLeads_46 : decode cX3_layLeads 46 = .ok (.aload_n 0, 1) := by decide +kernel
theorem dX3_layLeads_47 : decode cX3_layLeads 47 = .ok (.getfield 13, 3) := by decide +kernel
theorem dX3_layLeads_50 : decode cX3_layLeads 50 = .ok (.iload_n 1, 1) := by decide +kernel
theorem dX3_layLeads_51 : decode cX3_layLeads 51 = .ok (.lconst 0, 1) := by decide +kernel
theorem dX3_layLeads_52 : decode cX3_layLeads 52 = .ok (.lastore, 1) := by decide +kernel
theorem dX3_layLeads_53 : decode cX3_layLeads 53 = .ok (.iconst 0, 1) := by decide +kernel
theorem dX3_layLeads_54 : decode cX3_layLeads 54 = .ok (.istore_n 2, 1) := by decide +kernel
theorem dX3_layLeads_55 : decode cX3_layLeads 55 = .ok (.iload_n 2, 1) := by decide +kernel
theorem dX3_layLeads_56 : decode cX3_layLeads 56 = .ok (.bipush 36, 2) := by decide +kernel
theorem dX3_layLeads_58 : decode cX3_layLeads 58 = .ok (.if_icmp .ge 55, 3) := by decide +kernel
theorem dX3_layLeads_61 : decode cX3_layLeads 61 = .ok (.aload_n 0, 1) := by decide +kernel
theorem dX3_layLeads_62 : decode cX3_layLeads 62 = .ok (.getfield 7, 3) := by decide +kernel
theorem dX3_layLeads_65 : decode cX3_layLeads 65 = .ok (.iload_n 2, 1) := by decide +kernel
theorem dX3_layLeads_66 : decode cX3_layLeads 66 = .ok (.baload, 1) := by decide +kernel
theorem dX3_layLeads_67 : decode cX3_layLeads 67 = .ok (.ifCond .eq 40, 3) := by decide +kernel
theorem dX3_layLeads_70 : decode cX3_layLeads 70 = .ok (.aload_n 0, 1) := by decide +kernel
theorem dX3_layLeads_71 : decode cX3_layLeads 71 = .ok (.getfield 13, 3) := by decide +kernel
theorem dX3_layLeads_74 : decode cX3_layLeads 74 = .ok (.iload_n 1, 1) := by decide +kernel
theorem dX3_layLeads_75 : decode cX3_layLeads 75 = .ok (.dup2, 1) := by decide +kernel
theorem dX3_layLeads_76 : decode cX3_layLeads 76 = .ok (.laload, 1) := by decide +kernel
theorem dX3_layLeads_77 : decode cX3_layLeads 77 = .ok (.aload_n 0, 1) := by decide +kernel
theorem dX3_layLeads_78 : decode cX3_layLeads 78 = .ok (.getfield 13, 3) := by decide +kernel
theorem dX3_layLeads_81 : decode cX3_layLeads 81 = .ok (.iload_n 1, 1) := by decide +kernel
theorem dX3_layLeads_82 : decode cX3_layLeads 82 = .ok (.iconst 1, 1) := by decide +kernel
theorem dX3_layLeads_83 : decode cX3_layLeads 83 = .ok (.isub, 1) := by decide +kernel
theorem dX3_layLeads_84 : decode cX3_layLeads 84 = .ok (.laload, 1) := by decide +kernel
theorem dX3_layLeads_85 : decode cX3_layLeads 85 = .ok (.bipush 6, 2) := by decide +kernel
theorem dX3_layLeads_87 : decode cX3_layLeads 87 = .ok (.iload_n 2, 1) := by decide +kernel
theorem dX3_layLeads_88 : decode cX3_layLeads 88 = .ok (.bipush 6, 2) := by decide +kernel
theorem dX3_layLeads_90 : decode cX3_layLeads 90 = .ok (.irem, 1) := by decide +kernel
theorem dX3_layLeads_91 : decode cX3_layLeads 91 = .ok (.imul, 1) := by decide +kernel
theorem dX3_layLeads_92 : decode cX3_layLeads 92 = .ok (.lshr, 1) := by decide +kernel
theorem dX3_layLeads_93 : decode cX3_layLeads 93 = .ok (.ldc2_w 52, 3) := by decide +kernel
theorem dX3_layLeads_96 : decode cX3_layLeads 96 = .ok (.land, 1) := by decide +kernel
theorem dX3_layLeads_97 : decode cX3_layLeads 97 = .ok (.bipush 6, 2) := by decide +kernel
theorem dX3_layLeads_99 : decode cX3_layLeads 99 = .ok (.iload_n 2, 1) := by decide +kernel
theorem dX3_layLeads_100 : decode cX3_layLeads 100 = .ok (.bipush 6, 2) := by decide +kernel
theorem dX3_layLeads_102 : decode cX3_layLeads 102 = .ok (.idiv, 1) := by decide +kernel
theorem dX3_layLeads_103 : decode cX3_layLeads 103 = .ok (.imul, 1) := by decide +kernel
theorem dX3_layLeads_104 : decode cX3_layLeads 104 = .ok (.lshl, 1) := by decide +kernel
theorem dX3_layLeads_105 : decode cX3_layLeads 105 = .ok (.lor, 1) := by decide +kernel
theorem dX3_layLeads_106 : decode cX3_layLeads 106 = .ok (.lastore, 1) := by decide +kernel
theorem dX3_layLeads_107 : decode cX3_layLeads 107 = .ok (.iinc 2 1, 3) := by decide +kernel
theorem dX3_layLeads_110 : decode cX3_layLeads 110 = .ok (.goto (-55), 3) := by decide +kernel
theorem dX3_layLeads_113 : decode cX3_layLeads 113 = .ok (.iinc 1 1, 3) := by decide +kernel
theorem dX3_layLeads_116 : decode cX3_layLeads 116 = .ok (.goto (-76), 3) := by decide +kernel
theorem dX3_layLeads_119 : decode cX3_layLeads 119 = .ok (.return_, 1) := by decide +kernel
theorem dX3_isWalk_0 : decode cX3_isWalk 0 = .ok (.aload_n 0, 1) := by decide +kernel
theorem dX3_isWalk_1 : decode cX3_isWalk 1 = .ok (.getfield 13, 3) := by decide +kernel
theorem dX3_isWalk_4 : decode cX3_isWalk 4 = .ok (.iload_n 3, 1) := by decide +kernel
theorem dX3_isWalk_5 : decode cX3_isWalk 5 = .ok (.laload, 1) := by decide +kernel
theorem dX3_isWalk_6 : decode cX3_isWalk 6 = .ok (.bipush 6, 2) := by decide +kernel
theorem dX3_isWalk_8 : decode cX3_isWalk 8 = .ok (.iload_n 1, 1) := by decide +kernel
theorem dX3_isWalk_9 : decode cX3_isWalk 9 = .ok (.imul, 1) := by decide +kernel
theorem dX3_isWalk_10 : decode cX3_isWalk 10 = .ok (.iload_n 2, 1) := by decide +kernel
theorem dX3_isWalk_11 : decode cX3_isWalk 11 = .ok (.iadd, 1) := by decide +kernel
theorem dX3_isWalk_12 : decode cX3_isWalk 12 = .ok (.lshr, 1) := by decide +kernel
theorem dX3_isWalk_13 : decode cX3_isWalk 13 = .ok (.lconst 1, 1) := by decide +kernel
theorem dX3_isWalk_14 : decode cX3_isWalk 14 = .ok (.land, 1) := by decide +kernel
theorem dX3_isWalk_15 : decode cX3_isWalk 15 = .ok (.lconst 1, 1) := by decide +kernel
theorem dX3_isWalk_16 : decode cX3_isWalk 16 = .ok (.lcmp, 1) := by decide +kernel
theorem dX3_isWalk_17 : decode cX3_isWalk 17 = .ok (.ifCond .ne 7, 3) := by decide +kernel
theorem dX3_isWalk_20 : decode cX3_isWalk 20 = .ok (.iconst 1, 1) := by decide +kernel
theorem dX3_isWalk_21 : decode cX3_isWalk 21 = .ok (.goto 4, 3) := by decide +kernel
theorem dX3_isWalk_24 : decode cX3_isWalk 24 = .ok (.iconst 0, 1) := by decide +kernel
theorem dX3_isWalk_25 : decode cX3_isWalk 25 = .ok (.ireturn, 1) := by decide +kernel
set_option maxRecDepth 20000 in
theorem ggX3_layMany_X3_cut : GoodIn wsX3_layMany wsX3_cut := goodIn_r _ [7, 8] (by decide +kernel) (by decide +kernel)
set_option maxRecDepth 20000 in
theorem gX3_layMany_X3_cut : GoodIn wsX3_layMany (va_wsS RX3 54 yX3_cut wsX3_cut) := goodIn_app (goodIn_of _ (by decide +kernel)) ggX3_layMany_X3_cut
theorem dX3_layMany_0 : decode cX3_layMany 0 = .ok (.iconst 0, 1) := by decide +kernel
theorem dX3_layMany_1 : decode cX3_layMany 1 = .ok (.istore_n 3, 1) := by decide +kernel
theorem dX3_layMany_2 : decode cX3_layMany 2 = .ok (.iload_n 3, 1) := by decide +kernel
theorem dX3_layMany_3 : decode cX3_layMany 3 = .ok (.bipush 6, 2) := by decide +kernel
theorem dX3_layMany_5 : decode cX3_layMany 5 = .ok (.if_icmp .ge 25, 3) := by decide +kernel
theorem dX3_layMany_8 : decode cX3_layMany 8 = .ok (.aload_n 0, 1) := by decide +kernel
theorem dX3_layMany_9 : decode cX3_layMany 9 = .ok (.getfield 17, 3) := by decide +kernel
theorem dX3_layMany_12 : decode cX3_layMany 12 = .ok (.iload_n 3, 1) := by decide +kernel
theorem dX3_layMany_13 : decode cX3_layMany 13 = .ok (.iload_n 3, 1) := by decide +kernel
theorem dX3_layMany_14 : decode cX3_layMany 14 = .ok (.iload_n 1, 1) := by decide +kernel
theorem dX3_layMany_15 : decode cX3_layMany 15 = .ok (.if_icmp .ne 7, 3) := by decide +kernel
theorem dX3_layMany_18 : decode cX3_layMany 18 = .ok (.lconst 1, 1) := by decide +kernel
theorem dX3_layMany_19 : decode cX3_layMany 19 = .ok (.goto 4, 3) := by decide +kernel
theorem dX3_layMany_22 : decode cX3_layMany 22 = .ok (.lconst 0, 1) := by decide +kernel
theorem dX3_layMany_23 : decode cX3_layMany 23 = .ok (.lastore, 1) := by decide +kernel
theorem dX3_layMany_24 : decode cX3_layMany 24 = .ok (.iinc 3 1, 3) := by decide +kernel
theorem dX3_layMany_27 : decode cX3_layMany 27 = .ok (.goto (-25), 3) := by decide +kernel
theorem dX3_layMany_30 : decode cX3_layMany 30 = .ok (.iconst 0, 1) := by decide +kernel
theorem dX3_layMany_31 : decode cX3_layMany 31 = .ok (.istore_n 3, 1) := by decide +kernel
theorem dX3_layMany_32 : decode cX3_layMany 32 = .ok (.iload_n 3, 1) := by decide +kernel
theorem dX3_layMany_33 : decode cX3_layMany 33 = .ok (.iload_n 2, 1) := by decide +kernel
theorem dX3_layMany_34 : decode cX3_layMany 34 = .ok (.if_icmp .ge 130, 3) := by decide +kernel
theorem dX3_layMany_37 : decode cX3_layMany 37 = .ok (.iconst 0, 1) := by decide +kernel
theorem dX3_layMany_38 : decode cX3_layMany 38 = .ok (.istore 4, 2) := by decide +kernel
theorem dX3_layMany_40 : decode cX3_layMany 40 = .ok (.iload 4, 2) := by decide +kernel
theorem dX3_layMany_42 : decode cX3_layMany 42 = .ok (.bipush 6, 2) := by decide +kernel
theorem dX3_layMany_44 : decode cX3_layMany 44 = .ok (.if_icmp .ge 84, 3) := by decide +kernel
theorem dX3_layMany_47 : decode cX3_layMany 47 = .ok (.aload_n 0, 1) := by decide +kernel
theorem dX3_layMany_48 : decode cX3_layMany 48 = .ok (.getfield 20, 3) := by decide +kernel
theorem dX3_layMany_51 : decode cX3_layMany 51 = .ok (.iload 4, 2) := by decide +kernel
theorem dX3_layMany_53 : decode cX3_layMany 53 = .ok (.lconst 0, 1) := by decide +kernel
theorem dX3_layMany_54 : decode cX3_layMany 54 = .ok (.lastore, 1) := by decide +kernel
theorem dX3_layMany_55 : decode cX3_layMany 55 = .ok (.iconst 0, 1) := by decide +kernel
theorem dX3_layMany_56 : decode cX3_layMany 56 = .ok (.istore 5, 2) := by decide +kernel
theorem dX3_layMany_58 : decode cX3_layMany 58 = .ok (.iload 5, 2) := by decide +kernel
theorem dX3_layMany_60 : decode cX3_layMany 60 = .ok (.bipush 6, 2) := by decide +kernel
theorem dX3_layMany_62 : decode cX3_layMany 62 = .ok (.if_icmp .ge 60, 3) := by decide +kernel
theorem dX3_layMany_65 : decode cX3_layMany 65 = .ok (.aload_n 0, 1) := by decide +kernel
theorem dX3_layMany_66 : decode cX3_layMany 66 = .ok (.getfield 20, 3) := by decide +kernel
theorem dX3_layMany_69 : decode cX3_layMany 69 = .ok (.iload 4, 2) := by decide +kernel
theorem dX3_layMany_71 : decode cX3_layMany 71 = .ok (.aload_n 0, 1) := by decide +kernel
theorem dX3_layMany_72 : decode cX3_layMany 72 = .ok (.getfield 7, 3) := by decide +kernel
theorem dX3_layMany_75 : decode cX3_layMany 75 = .ok (.bipush 6, 2) := by decide +kernel
theorem dX3_layMany_77 : decode cX3_layMany 77 = .ok (.iload 5, 2) := by decide +kernel
theorem dX3_layMany_79 : decode cX3_layMany 79 = .ok (.imul, 1) := by decide +kernel
theorem dX3_layMany_80 : decode cX3_layMany 80 = .ok (.iload 4, 2) := by decide +kernel
theorem dX3_layMany_82 : decode cX3_layMany 82 = .ok (.iadd, 1) := by decide +kernel
theorem dX3_layMany_83 : decode cX3_layMany 83 = .ok (.baload, 1) := by decide +kernel
theorem dX3_layMany_84 : decode cX3_layMany 84 = .ok (.ifCond .eq 24, 3) := by decide +kernel
theorem dX3_layMany_87 : decode cX3_layMany 87 = .ok (.aload_n 0, 1) := by decide +kernel
theorem dX3_layMany_88 : decode cX3_layMany 88 = .ok (.getfield 20, 3) := by decide +kernel
theorem dX3_layMany_91 : decode cX3_layMany 91 = .ok (.iload 4, 2) := by decide +kernel
theorem dX3_layMany_93 : decode cX3_layMany 93 = .ok (.laload, 1) := by decide +kernel
theorem dX3_layMany_94 : decode cX3_layMany 94 = .ok (.aload_n 0, 1) := by decide +kernel
theorem dX3_layMany_95 : decode cX3_layMany 95 = .ok (.getfield 17, 3) := by decide +kernel
theorem dX3_layMany_98 : decode cX3_layMany 98 = .ok (.iload 5, 2) := by decide +kernel
theorem dX3_layMany_100 : decode cX3_layMany 100 = .ok (.laload, 1) := by decide +kernel
theorem dX3_layMany_101 : decode cX3_layMany 101 = .ok (.ladd, 1) := by decide +kernel
theorem dX3_layMany_102 : decode cX3_layMany 102 = .ok (.invokestatic 54, 3) := by decide +kernel
theorem dX3_layMany_105 : decode cX3_layMany 105 = .ok (.goto 10, 3) := by decide +kernel
theorem dX3_layMany_108 : decode cX3_layMany 108 = .ok (.aload_n 0, 1) := by decide +kernel
theorem dX3_layMany_109 : decode cX3_layMany 109 = .ok (.getfield 20, 3) := by decide +kernel
theorem dX3_layMany_112 : decode cX3_layMany 112 = .ok (.iload 4, 2) := by decide +kernel
theorem dX3_layMany_114 : decode cX3_layMany 114 = .ok (.laload, 1) := by decide +kernel
theorem dX3_layMany_115 : decode cX3_layMany 115 = .ok (.lastore, 1) := by decide +kernel
theorem dX3_layMany_116 : decode cX3_layMany 116 = .ok (.iinc 5 1, 3) := by decide +kernel
theorem dX3_layMany_119 : decode cX3_layMany 119 = .ok (.goto (-61), 3) := by decide +kernel
theorem dX3_layMany_122 : decode cX3_layMany 122 = .ok (.iinc 4 1, 3) := by decide +kernel
theorem dX3_layMany_125 : decode cX3_layMany 125 = .ok (.goto (-85), 3) := by decide +kernel
theorem dX3_layMany_128 : decode cX3_layMany 128 = .ok (.iconst 0, 1) := by decide +kernel
theorem dX3_layMany_129 : decode cX3_layMany 129 = .ok (.istore 4, 2) := by decide +kernel
theorem dX3_layMany_131 : decode cX3_layMany 131 = .ok (.iload 4, 2) := by decide +kernel
theorem dX3_layMany_133 : decode cX3_layMany 133 = .ok (.bipush 6, 2) := by decide +kernel
theorem dX3_layMany_135 : decode cX3_layMany 135 = .ok (.if_icmp .ge 23, 3) := by decide +kernel
theorem dX3_layMany_138 : decode cX3_layMany 138 = .ok (.aload_n 0, 1) := by decide +kernel
theorem dX3_layMany_139 : decode cX3_layMany 139 = .ok (.getfield 17, 3) := by decide +kernel
theorem dX3_layMany_142 : decode cX3_layMany 142 = .ok (.iload 4, 2) := by decide +kernel
theorem dX3_layMany_144 : decode cX3_layMany 144 = .ok (.aload_n 0, 1) := by decide +kernel
theorem dX3_layMany_145 : decode cX3_layMany 145 = .ok (.getfield 20, 3) := by decide +kernel
theorem dX3_layMany_148 : decode cX3_layMany 148 = .ok (.iload 4, 2) := by decide +kernel
theorem dX3_layMany_150 : decode cX3_layMany 150 = .ok (.laload, 1) := by decide +kernel
theorem dX3_layMany_151 : decode cX3_layMany 151 = .ok (.lastore, 1) := by decide +kernel
theorem dX3_layMany_152 : decode cX3_layMany 152 = .ok (.iinc 4 1, 3) := by decide +kernel
theorem dX3_layMany_155 : decode cX3_layMany 155 = .ok (.goto (-24), 3) := by decide +kernel
theorem dX3_layMany_158 : decode cX3_layMany 158 = .ok (.iinc 3 1, 3) := by decide +kernel
theorem dX3_layMany_161 : decode cX3_layMany 161 = .ok (.goto (-129), 3) := by decide +kernel
theorem dX3_layMany_164 : decode cX3_layMany 164 = .ok (.return_, 1) := by decide +kernel
theorem dX3_cut_0 : decode cX3_cut 0 = .ok (.lload_n 0, 1) := by decide +kernel
theorem dX3_cut_1 : decode cX3_cut 1 = .ok (.ldc2_w 58, 3) := by decide +kernel
theorem dX3_cut_4 : decode cX3_cut 4 = .ok (.lcmp, 1) := by decide +kernel
theorem dX3_cut_5 : decode cX3_cut 5 = .ok (.ifCond .le 9, 3) := by decide +kernel
theorem dX3_cut_8 : decode cX3_cut 8 = .ok (.ldc2_w 58, 3) := by decide +kernel
theorem dX3_cut_11 : decode cX3_cut 11 = .ok (.goto 4, 3) := by decide +kernel
theorem dX3_cut_14 : decode cX3_cut 14 = .ok (.lload_n 0, 1) := by decide +kernel
theorem dX3_cut_15 : decode cX3_cut 15 = .ok (.lreturn, 1) := by decide +kernel
end
section
set_option maxRecDepth 20000 in
theorem ggX3_isRing_X3_in : GoodIn wsX3_isRing wsX3_in := goodIn_r _ [4] (by decide +kernel) (by decide +kernel)
set_option maxRecDepth 20000 in
theorem gX3_isRing_X3_in : GoodIn wsX3_isRing (va_wsS RX3 44 yX3_in wsX3_in) := goodIn_app (goodIn_of _ (by decide +kernel)) ggX3_isRing_X3_in
theorem dX3_isRing_0 : decode cX3_isRing 0 = .ok (.iload_n 0, 1) := by decide +kernel
theorem dX3_isRing_1 : decode cX3_isRing 1 = .ok (.iconst 1, 1) := by decide +kernel
theorem dX3_isRing_2 : decode cX3_isRing 2 = .ok (.bipush 60, 2) := by decide +kernel
theorem dX3_isRing_4 : decode cX3_isRing 4 = .ok (.invokestatic 44, 3) := by decide +kernel
theorem dX3_isRing_7 : decode cX3_isRing 7 = .ok (.ireturn, 1) := by decide +kernel
set_option maxRecDepth 20000 in
theorem ggX3_rings_X3_isRing : GoodIn wsX3_rings wsX3_isRing := goodIn_r _ [7, 8, 9, 6, 10] (by decide +kernel) (by decide +kernel)
set_option maxRecDepth 20000 in
theorem gX3_rings_X3_isRing : GoodIn wsX3_rings (va_wsS RX3 60 yX3_isRing wsX3_isRing) := goodIn_app (goodIn_of _ (by decide +kernel)) ggX3_rings_X3_isRing
set_option maxRecDepth 20000 in
theorem ggX3_rings_X3_layMany : GoodIn wsX3_rings wsX3_layMany := goodIn_r _ [14, 3, 15, 16, 17, 18, 6, 19, 20, 21, 22, 23, 24, 25, 26, 27, 28, 29] (by decide +kernel) (by decide +kernel)
set_option maxRecDepth 20000 in
theorem gX3_rings_X3_layMany : GoodIn wsX3_rings (wsV RX3 65 RX3 yX3_layMany wsX3_layMany) := goodIn_app (goodIn_of _ (by decide +kernel)) ggX3_rings_X3_layMany
set_option maxRecDepth 20000 in
theorem ggX3_rings_X3_cut : GoodIn wsX3_rings wsX3_cut := goodIn_r _ [19, 20] (by decide +kernel) (by decide +kernel)
set_option maxRecDepth 20000 in
theorem gX3_rings_X3_cut : GoodIn wsX3_rings (va_wsS RX3 54 yX3_cut wsX3_cut) := goodIn_app (goodIn_of _ (by decide +kernel)) ggX3_rings_X3_cut
theorem dX3_rings_0 : decode cX3_rings 0 = .ok (.iload_n 1, 1) := by decide +kernel
theorem dX3_rings_1 : decode cX3_rings 1 = .ok (.invokestatic 60, 3) := by decide +kernel
theorem dX3_rings_4 : decode cX3_rings 4 = .ok (.ifCond .ne 7, 3) := by decide +kernel
theorem dX3_rings_7 : decode cX3_rings 7 = .ok (.ldc2_w 63, 3) := by decide +kernel
theorem dX3_rings_10 : decode cX3_rings 10 = .ok (.lreturn, 1) := by decide +kernel
theorem dX3_rings_11 : decode cX3_rings 11 = .ok (.lconst 0, 1) := by decide +kernel
theorem dX3_rings_12 : decode cX3_rings 12 = .ok (.lstore_n 2, 1) := by decide +kernel
theorem dX3_rings_13 : decode cX3_rings 13 = .ok (.iconst 0, 1) := by decide +kernel
theorem dX3_rings_14 : decode cX3_rings 14 = .ok (.istore 4, 2) := by decide +kernel
theorem dX3_rings_16 : decode cX3_rings 16 = .ok (.iload 4, 2) := by decide +kernel
theorem dX3_rings_18 : decode cX3_rings 18 = .ok (.aload_n 0, 1) := by decide +kernel
theorem dX3_rings_19 : decode cX3_rings 19 = .ok (.getfield 40, 3) := by decide +kernel
theorem dX3_rings_22 : decode cX3_rings 22 = .ok (.if_icmp .ge 29, 3) := by decide +kernel
theorem dX3_rings_25 : decode cX3_rings 25 = .ok (.aload_n 0, 1) := by decide +kernel
theorem dX3_rings_26 : decode cX3_rings 26 = .ok (.iload 4, 2) := by decide +kernel
theorem dX3_rings_28 : decode cX3_rings 28 = .ok (.iload_n 1, 1) := by decide +kernel
theorem dX3_rings_29 : decode cX3_rings 29 = .ok (.invokevirtual 65, 3) := by decide +kernel
theorem dX3_rings_32 : decode cX3_rings 32 = .ok (.lload_n 2, 1) := by decide +kernel
theorem dX3_rings_33 : decode cX3_rings 33 = .ok (.aload_n 0, 1) := by decide +kernel
theorem dX3_rings_34 : decode cX3_rings 34 = .ok (.getfield 17, 3) := by decide +kernel
theorem dX3_rings_37 : decode cX3_rings 37 = .ok (.iload 4, 2) := by decide +kernel
theorem dX3_rings_39 : decode cX3_rings 39 = .ok (.laload, 1) := by decide +kernel
theorem dX3_rings_40 : decode cX3_rings 40 = .ok (.ladd, 1) := by decide +kernel
theorem dX3_rings_41 : decode cX3_rings 41 = .ok (.invokestatic 54, 3) := by decide +kernel
theorem dX3_rings_44 : decode cX3_rings 44 = .ok (.lstore_n 2, 1) := by decide +kernel
theorem dX3_rings_45 : decode cX3_rings 45 = .ok (.iinc 4 1, 3) := by decide +kernel
theorem dX3_rings_48 : decode cX3_rings 48 = .ok (.goto (-32), 3) := by decide +kernel
theorem dX3_rings_51 : decode cX3_rings 51 = .ok (.lload_n 2, 1) := by decide +kernel
theorem dX3_rings_52 : decode cX3_rings 52 = .ok (.lreturn, 1) := by decide +kernel
set_option maxRecDepth 20000 in
theorem ggX3_walks_X3_isLabel : GoodIn wsX3_walks wsX3_isLabel := goodIn_r _ [8, 9, 10, 11, 7, 12, 23, 24, 25, 26, 27, 28, 29, 30, 31] (by decide +kernel) (by decide +kernel)
set_option maxRecDepth 20000 in
theorem gX3_walks_X3_isLabel : GoodIn wsX3_walks (wsV RX3 48 RX3 yX3_isLabel wsX3_isLabel) := goodIn_app (goodIn_of _ (by decide +kernel)) ggX3_walks_X3_isLabel
set_option maxRecDepth 20000 in
theorem ggX3_walks_X3_in : GoodIn wsX3_walks wsX3_in := goodIn_r _ [12] (by decide +kernel) (by decide +kernel)
set_option maxRecDepth 20000 in
theorem gX3_walks_X3_in : GoodIn wsX3_walks (va_wsS RX3 44 yX3_in wsX3_in) := goodIn_app (goodIn_of _ (by decide +kernel)) ggX3_walks_X3_in
set_option maxRecDepth 20000 in
theorem ggX3_walks_X3_layMany : GoodIn wsX3_walks wsX3_layMany := goodIn_r _ [16, 3, 17, 18, 19, 20, 7, 21, 22, 23, 24, 25, 26, 27, 28, 29, 30, 31] (by decide +kernel) (by decide +kernel)
set_option maxRecDepth 20000 in
theorem gX3_walks_X3_layMany : GoodIn wsX3_walks (wsV RX3 65 RX3 yX3_layMany wsX3_layMany) := goodIn_app (goodIn_of _ (by decide +kernel)) ggX3_walks_X3_layMany
theorem dX3_walks_0 : decode cX3_walks 0 = .ok (.aload_n 0, 1) := by decide +kernel
theorem dX3_walks_1 : decode cX3_walks 1 = .ok (.iload_n 1, 1) := by decide +kernel
theorem dX3_walks_2 : decode cX3_walks 2 = .ok (.invokevirtual 48, 3) := by decide +kernel
theorem dX3_walks_5 : decode cX3_walks 5 = .ok (.ifCond .eq 11, 3) := by decide +kernel
theorem dX3_walks_8 : decode cX3_walks 8 = .ok (.aload_n 0, 1) := by decide +kernel
theorem dX3_walks_9 : decode cX3_walks 9 = .ok (.iload_n 2, 1) := by decide +kernel
theorem dX3_walks_10 : decode cX3_walks 10 = .ok (.invokevirtual 48, 3) := by decide +kernel
theorem dX3_walks_13 : decode cX3_walks 13 = .ok (.ifCond .ne 7, 3) := by decide +kernel
theorem dX3_walks_16 : decode cX3_walks 16 = .ok (.ldc2_w 69, 3) := by decide +kernel
theorem dX3_walks_19 : decode cX3_walks 19 = .ok (.lreturn, 1) := by decide +kernel
theorem dX3_walks_20 : decode cX3_walks 20 = .ok (.iload_n 3, 1) := by decide +kernel
theorem dX3_walks_21 : decode cX3_walks 21 = .ok (.iconst 0, 1) := by decide +kernel
theorem dX3_walks_22 : decode cX3_walks 22 = .ok (.bipush 60, 2) := by decide +kernel
theorem dX3_walks_24 : decode cX3_walks 24 = .ok (.invokestatic 44, 3) := by decide +kernel
theorem dX3_walks_27 : decode cX3_walks 27 = .ok (.ifCond .ne 7, 3) := by decide +kernel
theorem dX3_walks_30 : decode cX3_walks 30 = .ok (.ldc2_w 63, 3) := by decide +kernel
theorem dX3_walks_33 : decode cX3_walks 33 = .ok (.lreturn, 1) := by decide +kernel
theorem dX3_walks_34 : decode cX3_walks 34 = .ok (.aload_n 0, 1) := by decide +kernel
theorem dX3_walks_35 : decode cX3_walks 35 = .ok (.iload_n 1, 1) := by decide +kernel
theorem dX3_walks_36 : decode cX3_walks 36 = .ok (.iload_n 3, 1) := by decide +kernel
theorem dX3_walks_37 : decode cX3_walks 37 = .ok (.invokevirtual 65, 3) := by decide +kernel
theorem dX3_walks_40 : decode cX3_walks 40 = .ok (.aload_n 0, 1) := by decide +kernel
theorem dX3_walks_41 : decode cX3_walks 41 = .ok (.getfield 17, 3) := by decide +kernel
theorem dX3_walks_44 : decode cX3_walks 44 = .ok (.iload_n 2, 1) := by decide +kernel
theorem dX3_walks_45 : decode cX3_walks 45 = .ok (.laload, 1) := by decide +kernel
theorem dX3_walks_46 : decode cX3_walks 46 = .ok (.lreturn, 1) := by decide +kernel
set_option maxRecDepth 20000 in
theorem ggX3_next_X3_isWalk : GoodIn wsX3_next wsX3_isWalk := goodIn_r _ [7, 8, 9, 10, 11, 12, 13, 14, 15, 16, 17] (by decide +kernel) (by decide +kernel)
set_option maxRecDepth 20000 in
theorem gX3_next_X3_isWalk : GoodIn wsX3_next (wsV RX3 71 RX3 yX3_isWalk wsX3_isWalk) := goodIn_app (goodIn_of _ (by decide +kernel)) ggX3_next_X3_isWalk
theorem dX3_next_0 : decode cX3_next 0 = .ok (.iconst 0, 1) := by decide +kernel
theorem dX3_next_1 : decode cX3_next 1 = .ok (.istore 4, 2) := by decide +kernel
theorem dX3_next_3 : decode cX3_next 3 = .ok (.iload 4, 2) := by decide +kernel
theorem dX3_next_5 : decode cX3_next 5 = .ok (.aload_n 0, 1) := by decide +kernel
theorem dX3_next_6 : decode cX3_next 6 = .ok (.getfield 40, 3) := by decide +kernel
theorem dX3_next_9 : decode cX3_next 9 = .ok (.if_icmp .ge 35, 3) := by decide +kernel
theorem dX3_next_12 : decode cX3_next 12 = .ok (.aload_n 0, 1) := by decide +kernel
theorem dX3_next_13 : decode cX3_next 13 = .ok (.getfield 7, 3) := by decide +kernel
theorem dX3_next_16 : decode cX3_next 16 = .ok (.bipush 6, 2) := by decide +kernel
theorem dX3_next_18 : decode cX3_next 18 = .ok (.iload_n 1, 1) := by decide +kernel
theorem dX3_next_19 : decode cX3_next 19 = .ok (.imul, 1) := by decide +kernel
theorem dX3_next_20 : decode cX3_next 20 = .ok (.iload 4, 2) := by decide +kernel
theorem dX3_next_22 : decode cX3_next 22 = .ok (.iadd, 1) := by decide +kernel
theorem dX3_next_23 : decode cX3_next 23 = .ok (.baload, 1) := by decide +kernel
theorem dX3_next_24 : decode cX3_next 24 = .ok (.ifCond .eq 14, 3) := by decide +kernel
theorem dX3_next_27 : decode cX3_next 27 = .ok (.aload_n 0, 1) := by decide +kernel
theorem dX3_next_28 : decode cX3_next 28 = .ok (.iload 4, 2) := by decide +kernel
theorem dX3_next_30 : decode cX3_next 30 = .ok (.iload_n 3, 1) := by decide +kernel
theorem dX3_next_31 : decode cX3_next 31 = .ok (.iload_n 2, 1) := by decide +kernel
theorem dX3_next_32 : decode cX3_next 32 = .ok (.invokevirtual 71, 3) := by decide +kernel
theorem dX3_next_35 : decode cX3_next 35 = .ok (.ifCond .ne 9, 3) := by decide +kernel
theorem dX3_next_38 : decode cX3_next 38 = .ok (.iinc 4 1, 3) := by decide +kernel
theorem dX3_next_41 : decode cX3_next 41 = .ok (.goto (-38), 3) := by decide +kernel
theorem dX3_next_44 : decode cX3_next 44 = .ok (.iload 4, 2) := by decide +kernel
theorem dX3_next_46 : decode cX3_next 46 = .ok (.aload_n 0, 1) := by decide +kernel
theorem dX3_next_47 : decode cX3_next 47 = .ok (.getfield 40, 3) := by decide +kernel
theorem dX3_next_50 : decode cX3_next 50 = .ok (.if_icmp .ne 8, 3) := by decide +kernel
theorem dX3_next_53 : decode cX3_next 53 = .ok (.bipush (-9), 2) := by decide +kernel
theorem dX3_next_55 : decode cX3_next 55 = .ok (.goto 5, 3) := by decide +kernel
theorem dX3_next_58 : decode cX3_next 58 = .ok (.iload 4, 2) := by decide +kernel
theorem dX3_next_60 : decode cX3_next 60 = .ok (.ireturn, 1) := by decide +kernel
set_option maxRecDepth 20000 in
theorem ggX3_layRing_X3_layLeads : GoodIn wsX3_layRing wsX3_layLeads := goodIn_r _ [7, 8, 1, 9, 10, 19, 20, 21, 22, 23, 24, 25, 26, 27] (by decide +kernel) (by decide +kernel)
set_option maxRecDepth 20000 in
theorem gX3_layRing_X3_layLeads : GoodIn wsX3_layRing (wsV RX3 74 RX3 yX3_layLeads wsX3_layLeads) := goodIn_app (goodIn_of _ (by decide +kernel)) ggX3_layRing_X3_layLeads
set_option maxRecDepth 20000 in
theorem ggX3_layRing_X3_isWalk : GoodIn wsX3_layRing wsX3_isWalk := goodIn_r _ [14, 8, 19, 20, 21, 22, 23, 24, 25, 26, 27] (by decide +kernel) (by decide +kernel)
set_option maxRecDepth 20000 in
theorem gX3_layRing_X3_isWalk : GoodIn wsX3_layRing (wsV RX3 71 RX3 yX3_isWalk wsX3_isWalk) := goodIn_app (goodIn_of _ (by decide +kernel)) ggX3_layRing_X3_isWalk
set_option maxRecDepth 20000 in
theorem ggX3_layRing_X3_next : GoodIn wsX3_layRing wsX3_next := goodIn_r _ [18, 1, 9, 11, 12, 13, 6, 14, 8, 19, 20, 21, 22, 23, 24, 25, 26, 27] (by decide +kernel) (by decide +kernel)
set_option maxRecDepth 20000 in
theorem gX3_layRing_X3_next : GoodIn wsX3_layRing (wsV RX3 77 RX3 yX3_next wsX3_next) := goodIn_app (goodIn_of _ (by decide +kernel)) ggX3_layRing_X3_next
theorem dX3_layRing_0 : decode cX3_layRing 0 = .ok (.aload_n 0, 1) := by decide +kernel
theorem dX3_layRing_1 : decode cX3_layRing 1 = .ok (.invokevirtual 74, 3) := by decide +kernel
theorem dX3_layRing_4 : decode cX3_layRing 4 = .ok (.iconst 0, 1) := by decide +kernel
theorem dX3_layRing_5 : decode cX3_layRing 5 = .ok (.istore_n 2, 1) := by decide +kernel
theorem dX3_layRing_6 : decode cX3_layRing 6 = .ok (.iload_n 2, 1) := by decide +kernel
theorem dX3_layRing_7 : decode cX3_layRing 7 = .ok (.aload_n 0, 1) := by decide +kernel
theorem dX3_layRing_8 : decode cX3_layRing 8 = .ok (.getfield 40, 3) := by decide +kernel
theorem dX3_layRing_11 : decode cX3_layRing 11 = .ok (.if_icmp .ge 19, 3) := by decide +kernel
theorem dX3_layRing_14 : decode cX3_layRing 14 = .ok (.aload_n 0, 1) := by decide +kernel
theorem dX3_layRing_15 : decode cX3_layRing 15 = .ok (.iload_n 2, 1) := by decide +kernel
theorem dX3_layRing_16 : decode cX3_layRing 16 = .ok (.iload_n 2, 1) := by decide +kernel
theorem dX3_layRing_17 : decode cX3_layRing 17 = .ok (.iload_n 1, 1) := by decide +kernel
theorem dX3_layRing_18 : decode cX3_layRing 18 = .ok (.invokevirtual 71, 3) := by decide +kernel
theorem dX3_layRing_21 : decode cX3_layRing 21 = .ok (.ifCond .ne 9, 3) := by decide +kernel
theorem dX3_layRing_24 : decode cX3_layRing 24 = .ok (.iinc 2 1, 3) := by decide +kernel
theorem dX3_layRing_27 : decode cX3_layRing 27 = .ok (.goto (-21), 3) := by decide +kernel
theorem dX3_layRing_30 : decode cX3_layRing 30 = .ok (.iload_n 2, 1) := by decide +kernel
theorem dX3_layRing_31 : decode cX3_layRing 31 = .ok (.aload_n 0, 1) := by decide +kernel
theorem dX3_layRing_32 : decode cX3_layRing 32 = .ok (.getfield 40, 3) := by decide +kernel
theorem dX3_layRing_35 : decode cX3_layRing 35 = .ok (.if_icmp .ne 5, 3) := by decide +kernel
theorem dX3_layRing_38 : decode cX3_layRing 38 = .ok (.iconst 0, 1) := by decide +kernel
theorem dX3_layRing_39 : decode cX3_layRing 39 = .ok (.ireturn, 1) := by decide +kernel
theorem dX3_layRing_40 : decode cX3_layRing 40 = .ok (.aload_n 0, 1) := by decide +kernel
theorem dX3_layRing_41 : decode cX3_layRing 41 = .ok (.getfield 23, 3) := by decide +kernel
theorem dX3_layRing_44 : decode cX3_layRing 44 = .ok (.iconst 0, 1) := by decide +kernel
theorem dX3_layRing_45 : decode cX3_layRing 45 = .ok (.iload_n 2, 1) := by decide +kernel
theorem dX3_layRing_46 : decode cX3_layRing 46 = .ok (.iastore, 1) := by decide +kernel
theorem dX3_layRing_47 : decode cX3_layRing 47 = .ok (.iconst 1, 1) := by decide +kernel
theorem dX3_layRing_48 : decode cX3_layRing 48 = .ok (.istore_n 3, 1) := by decide +kernel
theorem dX3_layRing_49 : decode cX3_layRing 49 = .ok (.iload_n 3, 1) := by decide +kernel
theorem dX3_layRing_50 : decode cX3_layRing 50 = .ok (.iload_n 1, 1) := by decide +kernel
theorem dX3_layRing_51 : decode cX3_layRing 51 = .ok (.if_icmp .ge 31, 3) := by decide +kernel
theorem dX3_layRing_54 : decode cX3_layRing 54 = .ok (.aload_n 0, 1) := by decide +kernel
theorem dX3_layRing_55 : decode cX3_layRing 55 = .ok (.getfield 23, 3) := by decide +kernel
theorem dX3_layRing_58 : decode cX3_layRing 58 = .ok (.iload_n 3, 1) := by decide +kernel
theorem dX3_layRing_59 : decode cX3_layRing 59 = .ok (.aload_n 0, 1) := by decide +kernel
theorem dX3_layRing_60 : decode cX3_layRing 60 = .ok (.aload_n 0, 1) := by decide +kernel
theorem dX3_layRing_61 : decode cX3_layRing 61 = .ok (.getfield 23, 3) := by decide +kernel
theorem dX3_layRing_64 : decode cX3_layRing 64 = .ok (.iload_n 3, 1) := by decide +kernel
theorem dX3_layRing_65 : decode cX3_layRing 65 = .ok (.iconst 1, 1) := by decide +kernel
theorem dX3_layRing_66 : decode cX3_layRing 66 = .ok (.isub, 1) := by decide +kernel
theorem dX3_layRing_67 : decode cX3_layRing 67 = .ok (.iaload, 1) := by decide +kernel
theorem dX3_layRing_68 : decode cX3_layRing 68 = .ok (.iload_n 1, 1) := by decide +kernel
theorem dX3_layRing_69 : decode cX3_layRing 69 = .ok (.iload_n 3, 1) := by decide +kernel
theorem dX3_layRing_70 : decode cX3_layRing 70 = .ok (.isub, 1) := by decide +kernel
theorem dX3_layRing_71 : decode cX3_layRing 71 = .ok (.iload_n 2, 1) := by decide +kernel
theorem dX3_layRing_72 : decode cX3_layRing 72 = .ok (.invokevirtual 77, 3) := by decide +kernel
theorem dX3_layRing_75 : decode cX3_layRing 75 = .ok (.iastore, 1) := by decide +kernel
theorem dX3_layRing_76 : decode cX3_layRing 76 = .ok (.iinc 3 1, 3) := by decide +kernel
theorem dX3_layRing_79 : decode cX3_layRing 79 = .ok (.goto (-30), 3) := by decide +kernel
theorem dX3_layRing_82 : decode cX3_layRing 82 = .ok (.iconst 1, 1) := by decide +kernel
theorem dX3_layRing_83 : decode cX3_layRing 83 = .ok (.ireturn, 1) := by decide +kernel
set_option maxRecDepth 20000 in
theorem ggX3_first_X3_isRing : GoodIn wsX3_first wsX3_isRing := goodIn_r _ [5, 6, 7, 4, 8] (by decide +kernel) (by decide +kernel)
set_option maxRecDepth 20000 in
theorem gX3_first_X3_isRing : GoodIn wsX3_first (va_wsS RX3 60 yX3_isRing wsX3_isRing) := goodIn_app (goodIn_of _ (by decide +kernel)) ggX3_first_X3_isRing
set_option maxRecDepth 20000 in
theorem ggX3_first_X3_in : GoodIn wsX3_first wsX3_in := goodIn_r _ [8] (by decide +kernel) (by decide +kernel)
set_option maxRecDepth 20000 in
theorem gX3_first_X3_in : GoodIn wsX3_first (va_wsS RX3 44 yX3_in wsX3_in) := goodIn_app (goodIn_of _ (by decide +kernel)) ggX3_first_X3_in
set_option maxRecDepth 20000 in
theorem ggX3_first_X3_layRing : GoodIn wsX3_first wsX3_layRing := goodIn_r _ [12, 13, 1, 14, 15, 16, 4, 17, 18, 19, 20, 21, 22, 23, 24, 25, 26, 27, 28, 29, 30, 31, 32, 33, 34, 35, 36, 37] (by decide +kernel) (by decide +kernel)
set_option maxRecDepth 20000 in
theorem gX3_first_X3_layRing : GoodIn wsX3_first (wsV RX3 81 RX3 yX3_layRing wsX3_layRing) := goodIn_app (goodIn_of _ (by decide +kernel)) ggX3_first_X3_layRing
theorem dX3_first_0 : decode cX3_first 0 = .ok (.iload_n 1, 1) := by decide +kernel
theorem dX3_first_1 : decode cX3_first 1 = .ok (.invokestatic 60, 3) := by decide +kernel
theorem dX3_first_4 : decode cX3_first 4 = .ok (.ifCond .ne 6, 3) := by decide +kernel
theorem dX3_first_7 : decode cX3_first 7 = .ok (.bipush (-2), 2) := by decide +kernel
theorem dX3_first_9 : decode cX3_first 9 = .ok (.ireturn, 1) := by decide +kernel
theorem dX3_first_10 : decode cX3_first 10 = .ok (.iload_n 2, 1) := by decide +kernel
theorem dX3_first_11 : decode cX3_first 11 = .ok (.iconst 0, 1) := by decide +kernel
theorem dX3_first_12 : decode cX3_first 12 = .ok (.iload_n 1, 1) := by decide +kernel
theorem dX3_first_13 : decode cX3_first 13 = .ok (.iconst 1, 1) := by decide +kernel
theorem dX3_first_14 : decode cX3_first 14 = .ok (.isub, 1) := by decide +kernel
theorem dX3_first_15 : decode cX3_first 15 = .ok (.invokestatic 44, 3) := by decide +kernel
theorem dX3_first_18 : decode cX3_first 18 = .ok (.ifCond .ne 5, 3) := by decide +kernel
theorem dX3_first_21 : decode cX3_first 21 = .ok (.iconst (-1), 1) := by decide +kernel
theorem dX3_first_22 : decode cX3_first 22 = .ok (.ireturn, 1) := by decide +kernel
theorem dX3_first_23 : decode cX3_first 23 = .ok (.aload_n 0, 1) := by decide +kernel
theorem dX3_first_24 : decode cX3_first 24 = .ok (.iload_n 1, 1) := by decide +kernel
theorem dX3_first_25 : decode cX3_first 25 = .ok (.invokevirtual 81, 3) := by decide +kernel
theorem dX3_first_28 : decode cX3_first 28 = .ok (.ifCond .eq 12, 3) := by decide +kernel
theorem dX3_first_31 : decode cX3_first 31 = .ok (.aload_n 0, 1) := by decide +kernel
theorem dX3_first_32 : decode cX3_first 32 = .ok (.getfield 23, 3) := by decide +kernel
theorem dX3_first_35 : decode cX3_first 35 = .ok (.iload_n 2, 1) := by decide +kernel
theorem dX3_first_36 : decode cX3_first 36 = .ok (.iaload, 1) := by decide +kernel
theorem dX3_first_37 : decode cX3_first 37 = .ok (.goto 5, 3) := by decide +kernel
theorem dX3_first_40 : decode cX3_first 40 = .ok (.bipush (-9), 2) := by decide +kernel
theorem dX3_first_42 : decode cX3_first 42 = .ok (.ireturn, 1) := by decide +kernel
set_option maxRecDepth 20000 in
theorem ggX3_isOneBlock_X3_isWalk : GoodIn wsX3_isOneBlock wsX3_isWalk := goodIn_r _ [5, 6, 7, 8, 9, 10, 11, 12, 13, 14, 15] (by decide +kernel) (by decide +kernel)
set_option maxRecDepth 20000 in
theorem gX3_isOneBlock_X3_isWalk : GoodIn wsX3_isOneBlock (wsV RX3 71 RX3 yX3_isWalk wsX3_isWalk) := goodIn_app (goodIn_of _ (by decide +kernel)) ggX3_isOneBlock_X3_isWalk
theorem dX3_isOneBlock_0 : decode cX3_isOneBlock 0 = .ok (.iconst 0, 1) := by decide +kernel
theorem dX3_isOneBlock_1 : decode cX3_isOneBlock 1 = .ok (.istore_n 3, 1) := by decide +kernel
theorem dX3_isOneBlock_2 : decode cX3_isOneBlock 2 = .ok (.iconst 0, 1) := by decide +kernel
theorem dX3_isOneBlock_3 : decode cX3_isOneBlock 3 = .ok (.istore 4, 2) := by decide +kernel
theorem dX3_isOneBlock_5 : decode cX3_isOneBlock 5 = .ok (.iconst 0, 1) := by decide +kernel
theorem dX3_isOneBlock_6 : decode cX3_isOneBlock 6 = .ok (.istore 5, 2) := by decide +kernel
theorem dX3_isOneBlock_8 : decode cX3_isOneBlock 8 = .ok (.iload 5, 2) := by decide +kernel
theorem dX3_isOneBlock_10 : decode cX3_isOneBlock 10 = .ok (.bipush 6, 2) := by decide +kernel
theorem dX3_isOneBlock_12 : decode cX3_isOneBlock 12 = .ok (.if_icmp .ge 53, 3) := by decide +kernel
theorem dX3_isOneBlock_15 : decode cX3_isOneBlock 15 = .ok (.iload_n 3, 1) := by decide +kernel
theorem dX3_isOneBlock_16 : decode cX3_isOneBlock 16 = .ok (.ifCond .ne 14, 3) := by decide +kernel
theorem dX3_isOneBlock_19 : decode cX3_isOneBlock 19 = .ok (.aload_n 0, 1) := by decide +kernel
theorem dX3_isOneBlock_20 : decode cX3_isOneBlock 20 = .ok (.iload_n 1, 1) := by decide +kernel
theorem dX3_isOneBlock_21 : decode cX3_isOneBlock 21 = .ok (.iload_n 2, 1) := by decide +kernel
theorem dX3_isOneBlock_22 : decode cX3_isOneBlock 22 = .ok (.iload 5, 2) := by decide +kernel
theorem dX3_isOneBlock_24 : decode cX3_isOneBlock 24 = .ok (.invokevirtual 71, 3) := by decide +kernel
theorem dX3_isOneBlock_27 : decode cX3_isOneBlock 27 = .ok (.ifCond .eq 7, 3) := by decide +kernel
theorem dX3_isOneBlock_30 : decode cX3_isOneBlock 30 = .ok (.iconst 1, 1) := by decide +kernel
theorem dX3_isOneBlock_31 : decode cX3_isOneBlock 31 = .ok (.goto 4, 3) := by decide +kernel
theorem dX3_isOneBlock_34 : decode cX3_isOneBlock 34 = .ok (.iconst 0, 1) := by decide +kernel
theorem dX3_isOneBlock_35 : decode cX3_isOneBlock 35 = .ok (.istore_n 3, 1) := by decide +kernel
theorem dX3_isOneBlock_36 : decode cX3_isOneBlock 36 = .ok (.iload 4, 2) := by decide +kernel
theorem dX3_isOneBlock_38 : decode cX3_isOneBlock 38 = .ok (.ifCond .ne 14, 3) := by decide +kernel
theorem dX3_isOneBlock_41 : decode cX3_isOneBlock 41 = .ok (.aload_n 0, 1) := by decide +kernel
theorem dX3_isOneBlock_42 : decode cX3_isOneBlock 42 = .ok (.iload_n 2, 1) := by decide +kernel
theorem dX3_isOneBlock_43 : decode cX3_isOneBlock 43 = .ok (.iload_n 1, 1) := by decide +kernel
theorem dX3_isOneBlock_44 : decode cX3_isOneBlock 44 = .ok (.iload 5, 2) := by decide +kernel
theorem dX3_isOneBlock_46 : decode cX3_isOneBlock 46 = .ok (.invokevirtual 71, 3) := by decide +kernel
theorem dX3_isOneBlock_49 : decode cX3_isOneBlock 49 = .ok (.ifCond .eq 7, 3) := by decide +kernel
theorem dX3_isOneBlock_52 : decode cX3_isOneBlock 52 = .ok (.iconst 1, 1) := by decide +kernel
theorem dX3_isOneBlock_53 : decode cX3_isOneBlock 53 = .ok (.goto 4, 3) := by decide +kernel
theorem dX3_isOneBlock_56 : decode cX3_isOneBlock 56 = .ok (.iconst 0, 1) := by decide +kernel
theorem dX3_isOneBlock_57 : decode cX3_isOneBlock 57 = .ok (.istore 4, 2) := by decide +kernel
theorem dX3_isOneBlock_59 : decode cX3_isOneBlock 59 = .ok (.iinc 5 1, 3) := by decide +kernel
theorem dX3_isOneBlock_62 : decode cX3_isOneBlock 62 = .ok (.goto (-54), 3) := by decide +kernel
theorem dX3_isOneBlock_65 : decode cX3_isOneBlock 65 = .ok (.iload_n 3, 1) := by decide +kernel
theorem dX3_isOneBlock_66 : decode cX3_isOneBlock 66 = .ok (.ifCond .eq 12, 3) := by decide +kernel
theorem dX3_isOneBlock_69 : decode cX3_isOneBlock 69 = .ok (.iload 4, 2) := by decide +kernel
theorem dX3_isOneBlock_71 : decode cX3_isOneBlock 71 = .ok (.ifCond .eq 7, 3) := by decide +kernel
theorem dX3_isOneBlock_74 : decode cX3_isOneBlock 74 = .ok (.iconst 1, 1) := by decide +kernel
theorem dX3_isOneBlock_75 : decode cX3_isOneBlock 75 = .ok (.goto 4, 3) := by decide +kernel
theorem dX3_isOneBlock_78 : decode cX3_isOneBlock 78 = .ok (.iconst 0, 1) := by decide +kernel
theorem dX3_isOneBlock_79 : decode cX3_isOneBlock 79 = .ok (.ireturn, 1) := by decide +kernel
set_option maxRecDepth 20000 in
theorem ggX3_blockOf_X3_isOneBlock : GoodIn wsX3_blockOf wsX3_isOneBlock := goodIn_r _ [5, 6, 7, 8, 4, 9, 10, 11, 12, 13, 14, 15, 16, 17, 18, 19] (by decide +kernel) (by decide +kernel)
set_option maxRecDepth 20000 in
theorem gX3_blockOf_X3_isOneBlock : GoodIn wsX3_blockOf (wsV RX3 84 RX3 yX3_isOneBlock wsX3_isOneBlock) := goodIn_app (goodIn_of _ (by decide +kernel)) ggX3_blockOf_X3_isOneBlock
theorem dX3_blockOf_0 : decode cX3_blockOf 0 = .ok (.iconst 0, 1) := by decide +kernel
theorem dX3_blockOf_1 : decode cX3_blockOf 1 = .ok (.istore_n 2, 1) := by decide +kernel
theorem dX3_blockOf_2 : decode cX3_blockOf 2 = .ok (.aload_n 0, 1) := by decide +kernel
theorem dX3_blockOf_3 : decode cX3_blockOf 3 = .ok (.iload_n 1, 1) := by decide +kernel
theorem dX3_blockOf_4 : decode cX3_blockOf 4 = .ok (.iload_n 2, 1) := by decide +kernel
theorem dX3_blockOf_5 : decode cX3_blockOf 5 = .ok (.invokevirtual 84, 3) := by decide +kernel
theorem dX3_blockOf_8 : decode cX3_blockOf 8 = .ok (.ifCond .ne 9, 3) := by decide +kernel
theorem dX3_blockOf_11 : decode cX3_blockOf 11 = .ok (.iinc 2 1, 3) := by decide +kernel
theorem dX3_blockOf_14 : decode cX3_blockOf 14 = .ok (.goto (-12), 3) := by decide +kernel
theorem dX3_blockOf_17 : decode cX3_blockOf 17 = .ok (.iload_n 2, 1) := by decide +kernel
theorem dX3_blockOf_18 : decode cX3_blockOf 18 = .ok (.ireturn, 1) := by decide +kernel
set_option maxRecDepth 20000 in
theorem ggX3_blocks_X3_layLeads : GoodIn wsX3_blocks wsX3_layLeads := goodIn_r _ [6, 7, 1, 8, 9, 22, 23, 24, 25, 26, 27, 28, 29, 30] (by decide +kernel) (by decide +kernel)
set_option maxRecDepth 20000 in
theorem gX3_blocks_X3_layLeads : GoodIn wsX3_blocks (wsV RX3 74 RX3 yX3_layLeads wsX3_layLeads) := goodIn_app (goodIn_of _ (by decide +kernel)) ggX3_blocks_X3_layLeads
set_option maxRecDepth 20000 in
theorem ggX3_blocks_X3_blockOf : GoodIn wsX3_blocks wsX3_blockOf := goodIn_r _ [13, 14, 15, 16, 5, 17, 18, 19, 20, 21, 7, 22, 23, 24, 25, 26, 27, 28, 29, 30] (by decide +kernel) (by decide +kernel)
set_option maxRecDepth 20000 in
theorem gX3_blocks_X3_blockOf : GoodIn wsX3_blocks (wsV RX3 88 RX3 yX3_blockOf wsX3_blockOf) := goodIn_app (goodIn_of _ (by decide +kernel)) ggX3_blocks_X3_blockOf
theorem dX3_blocks_0 : decode cX3_blocks 0 = .ok (.aload_n 0, 1) := by decide +kernel
theorem dX3_blocks_1 : decode cX3_blocks 1 = .ok (.invokevirtual 74, 3) := by decide +kernel
theorem dX3_blocks_4 : decode cX3_blocks 4 = .ok (.iconst 0, 1) := by decide +kernel
theorem dX3_blocks_5 : decode cX3_blocks 5 = .ok (.istore_n 1, 1) := by decide +kernel
theorem dX3_blocks_6 : decode cX3_blocks 6 = .ok (.iconst 0, 1) := by decide +kernel
theorem dX3_blocks_7 : decode cX3_blocks 7 = .ok (.istore_n 2, 1) := by decide +kernel
theorem dX3_blocks_8 : decode cX3_blocks 8 = .ok (.iload_n 2, 1) := by decide +kernel
theorem dX3_blocks_9 : decode cX3_blocks 9 = .ok (.aload_n 0, 1) := by decide +kernel
theorem dX3_blocks_10 : decode cX3_blocks 10 = .ok (.getfield 40, 3) := by decide +kernel
theorem dX3_blocks_13 : decode cX3_blocks 13 = .ok (.if_icmp .ge 26, 3) := by decide +kernel
theorem dX3_blocks_16 : decode cX3_blocks 16 = .ok (.iload_n 1, 1) := by decide +kernel
theorem dX3_blocks_17 : decode cX3_blocks 17 = .ok (.aload_n 0, 1) := by decide +kernel
theorem dX3_blocks_18 : decode cX3_blocks 18 = .ok (.iload_n 2, 1) := by decide +kernel
theorem dX3_blocks_19 : decode cX3_blocks 19 = .ok (.invokevirtual 88, 3) := by decide +kernel
theorem dX3_blocks_22 : decode cX3_blocks 22 = .ok (.iload_n 2, 1) := by decide +kernel
theorem dX3_blocks_23 : decode cX3_blocks 23 = .ok (.if_icmp .ne 7, 3) := by decide +kernel
theorem dX3_blocks_26 : decode cX3_blocks 26 = .ok (.iconst 1, 1) := by decide +kernel
theorem dX3_blocks_27 : decode cX3_blocks 27 = .ok (.goto 4, 3) := by decide +kernel
theorem dX3_blocks_30 : decode cX3_blocks 30 = .ok (.iconst 0, 1) := by decide +kernel
theorem dX3_blocks_31 : decode cX3_blocks 31 = .ok (.iadd, 1) := by decide +kernel
theorem dX3_blocks_32 : decode cX3_blocks 32 = .ok (.istore_n 1, 1) := by decide +kernel
theorem dX3_blocks_33 : decode cX3_blocks 33 = .ok (.iinc 2 1, 3) := by decide +kernel
theorem dX3_blocks_36 : decode cX3_blocks 36 = .ok (.goto (-28), 3) := by decide +kernel
theorem dX3_blocks_39 : decode cX3_blocks 39 = .ok (.iload_n 1, 1) := by decide +kernel
theorem dX3_blocks_40 : decode cX3_blocks 40 = .ok (.ireturn, 1) := by decide +kernel
set_option maxRecDepth 20000 in
theorem ggX3_block_X3_layLeads : GoodIn wsX3_block wsX3_layLeads := goodIn_r _ [5, 6, 7, 8, 9, 29, 30, 31, 32, 33, 34, 35, 36, 37] (by decide +kernel) (by decide +kernel)
set_option maxRecDepth 20000 in
theorem gX3_block_X3_layLeads : GoodIn wsX3_block (wsV RX3 74 RX3 yX3_layLeads wsX3_layLeads) := goodIn_app (goodIn_of _ (by decide +kernel)) ggX3_block_X3_layLeads
set_option maxRecDepth 20000 in
theorem ggX3_block_X3_isLabel : GoodIn wsX3_block wsX3_isLabel := goodIn_r _ [13, 7, 14, 15, 4, 16, 29, 30, 31, 32, 33, 34, 35, 36, 37] (by decide +kernel) (by decide +kernel)
set_option maxRecDepth 20000 in
theorem gX3_block_X3_isLabel : GoodIn wsX3_block (wsV RX3 48 RX3 yX3_isLabel wsX3_isLabel) := goodIn_app (goodIn_of _ (by decide +kernel)) ggX3_block_X3_isLabel
set_option maxRecDepth 20000 in
theorem ggX3_block_X3_blockOf : GoodIn wsX3_block wsX3_blockOf := goodIn_r _ [20, 21, 22, 23, 4, 24, 25, 26, 27, 28, 6, 29, 30, 31, 32, 33, 34, 35, 36, 37] (by decide +kernel) (by decide +kernel)
set_option maxRecDepth 20000 in
theorem gX3_block_X3_blockOf : GoodIn wsX3_block (wsV RX3 88 RX3 yX3_blockOf wsX3_blockOf) := goodIn_app (goodIn_of _ (by decide +kernel)) ggX3_block_X3_blockOf
theorem dX3_block_0 : decode cX3_block 0 = .ok (.aload_n 0, 1) := by decide +kernel
theorem dX3_block_1 : decode cX3_block 1 = .ok (.invokevirtual 74, 3) := by decide +kernel
theorem dX3_block_4 : decode cX3_block 4 = .ok (.aload_n 0, 1) := by decide +kernel
theorem dX3_block_5 : decode cX3_block 5 = .ok (.iload_n 1, 1) := by decide +kernel
theorem dX3_block_6 : decode cX3_block 6 = .ok (.invokevirtual 48, 3) := by decide +kernel
theorem dX3_block_9 : decode cX3_block 9 = .ok (.ifCond .eq 11, 3) := by decide +kernel
theorem dX3_block_12 : decode cX3_block 12 = .ok (.aload_n 0, 1) := by decide +kernel
theorem dX3_block_13 : decode cX3_block 13 = .ok (.iload_n 1, 1) := by decide +kernel
theorem dX3_block_14 : decode cX3_block 14 = .ok (.invokevirtual 88, 3) := by decide +kernel
theorem dX3_block_17 : decode cX3_block 17 = .ok (.goto 4, 3) := by decide +kernel
theorem dX3_block_20 : decode cX3_block 20 = .ok (.iconst (-1), 1) := by decide +kernel
theorem dX3_block_21 : decode cX3_block 21 = .ok (.ireturn, 1) := by decide +kernel
theorem dX3_common_0 : decode cX3_common 0 = .ok (.iload_n 0, 1) := by decide +kernel
theorem dX3_common_1 : decode cX3_common 1 = .ok (.istore_n 2, 1) := by decide +kernel
theorem dX3_common_2 : decode cX3_common 2 = .ok (.iload_n 1, 1) := by decide +kernel
theorem dX3_common_3 : decode cX3_common 3 = .ok (.istore_n 3, 1) := by decide +kernel
theorem dX3_common_4 : decode cX3_common 4 = .ok (.iload_n 3, 1) := by decide +kernel
theorem dX3_common_5 : decode cX3_common 5 = .ok (.ifCond .le 16, 3) := by decide +kernel
theorem dX3_common_8 : decode cX3_common 8 = .ok (.iload_n 2, 1) := by decide +kernel
theorem dX3_common_9 : decode cX3_common 9 = .ok (.iload_n 3, 1) := by decide +kernel
theorem dX3_common_10 : decode cX3_common 10 = .ok (.irem, 1) := by decide +kernel
theorem dX3_common_11 : decode cX3_common 11 = .ok (.istore 4, 2) := by decide +kernel
theorem dX3_common_13 : decode cX3_common 13 = .ok (.iload_n 3, 1) := by decide +kernel
theorem dX3_common_14 : decode cX3_common 14 = .ok (.istore_n 2, 1) := by decide +kernel
theorem dX3_common_15 : decode cX3_common 15 = .ok (.iload 4, 2) := by decide +kernel
theorem dX3_common_17 : decode cX3_common 17 = .ok (.istore_n 3, 1) := by decide +kernel
theorem dX3_common_18 : decode cX3_common 18 = .ok (.goto (-14), 3) := by decide +kernel
theorem dX3_common_21 : decode cX3_common 21 = .ok (.iload_n 2, 1) := by decide +kernel
theorem dX3_common_22 : decode cX3_common 22 = .ok (.ireturn, 1) := by decide +kernel
set_option maxRecDepth 20000 in
theorem ggX3_paceOf_X3_isWalk : GoodIn wsX3_paceOf wsX3_isWalk := goodIn_r _ [5, 6, 10, 11, 12, 13, 14, 15, 16, 17, 18] (by decide +kernel) (by decide +kernel)
set_option maxRecDepth 20000 in
theorem gX3_paceOf_X3_isWalk : GoodIn wsX3_paceOf (wsV RX3 71 RX3 yX3_isWalk wsX3_isWalk) := goodIn_app (goodIn_of _ (by decide +kernel)) ggX3_paceOf_X3_isWalk
set_option maxRecDepth 20000 in
theorem ggX3_paceOf_X3_common : GoodIn wsX3_paceOf wsX3_common := goodIn_r _ [9] (by decide +kernel) (by decide +kernel)
set_option maxRecDepth 20000 in
theorem gX3_paceOf_X3_common : GoodIn wsX3_paceOf (va_wsS RX3 92 yX3_common wsX3_common) := goodIn_app (goodIn_of _ (by decide +kernel)) ggX3_paceOf_X3_common
theorem dX3_paceOf_0 : decode cX3_paceOf 0 = .ok (.iconst 0, 1) := by decide +kernel
theorem dX3_paceOf_1 : decode cX3_paceOf 1 = .ok (.istore_n 2, 1) := by decide +kernel
theorem dX3_paceOf_2 : decode cX3_paceOf 2 = .ok (.iconst 1, 1) := by decide +kernel
theorem dX3_paceOf_3 : decode cX3_paceOf 3 = .ok (.istore_n 3, 1) := by decide +kernel
theorem dX3_paceOf_4 : decode cX3_paceOf 4 = .ok (.iload_n 3, 1) := by decide +kernel
theorem dX3_paceOf_5 : decode cX3_paceOf 5 = .ok (.bipush 60, 2) := by decide +kernel
theorem dX3_paceOf_7 : decode cX3_paceOf 7 = .ok (.if_icmp .gt 29, 3) := by decide +kernel
theorem dX3_paceOf_10 : decode cX3_paceOf 10 = .ok (.aload_n 0, 1) := by decide +kernel
theorem dX3_paceOf_11 : decode cX3_paceOf 11 = .ok (.iload_n 1, 1) := by decide +kernel
theorem dX3_paceOf_12 : decode cX3_paceOf 12 = .ok (.iload_n 1, 1) := by decide +kernel
theorem dX3_paceOf_13 : decode cX3_paceOf 13 = .ok (.iload_n 3, 1) := by decide +kernel
theorem dX3_paceOf_14 : decode cX3_paceOf 14 = .ok (.invokevirtual 71, 3) := by decide +kernel
theorem dX3_paceOf_17 : decode cX3_paceOf 17 = .ok (.ifCond .eq 11, 3) := by decide +kernel
theorem dX3_paceOf_20 : decode cX3_paceOf 20 = .ok (.iload_n 3, 1) := by decide +kernel
theorem dX3_paceOf_21 : decode cX3_paceOf 21 = .ok (.iload_n 2, 1) := by decide +kernel
theorem dX3_paceOf_22 : decode cX3_paceOf 22 = .ok (.invokestatic 92, 3) := by decide +kernel
theorem dX3_paceOf_25 : decode cX3_paceOf 25 = .ok (.goto 4, 3) := by decide +kernel
theorem dX3_paceOf_28 : decode cX3_paceOf 28 = .ok (.iload_n 2, 1) := by decide +kernel
theorem dX3_paceOf_29 : decode cX3_paceOf 29 = .ok (.istore_n 2, 1) := by decide +kernel
theorem dX3_paceOf_30 : decode cX3_paceOf 30 = .ok (.iinc 3 1, 3) := by decide +kernel
theorem dX3_paceOf_33 : decode cX3_paceOf 33 = .ok (.goto (-29), 3) := by decide +kernel
theorem dX3_paceOf_36 : decode cX3_paceOf 36 = .ok (.iload_n 2, 1) := by decide +kernel
theorem dX3_paceOf_37 : decode cX3_paceOf 37 = .ok (.ireturn, 1) := by decide +kernel
set_option maxRecDepth 20000 in
theorem ggX3_pace_X3_layLeads : GoodIn wsX3_pace wsX3_layLeads := goodIn_r _ [5, 6, 7, 8, 9, 28, 29, 30, 31, 32, 33, 34, 35, 36] (by decide +kernel) (by decide +kernel)
set_option maxRecDepth 20000 in
theorem gX3_pace_X3_layLeads : GoodIn wsX3_pace (wsV RX3 74 RX3 yX3_layLeads wsX3_layLeads) := goodIn_app (goodIn_of _ (by decide +kernel)) ggX3_pace_X3_layLeads
set_option maxRecDepth 20000 in
theorem ggX3_pace_X3_isLabel : GoodIn wsX3_pace wsX3_isLabel := goodIn_r _ [13, 7, 14, 15, 4, 16, 28, 29, 30, 31, 32, 33, 34, 35, 36] (by decide +kernel) (by decide +kernel)
set_option maxRecDepth 20000 in
theorem gX3_pace_X3_isLabel : GoodIn wsX3_pace (wsV RX3 48 RX3 yX3_isLabel wsX3_isLabel) := goodIn_app (goodIn_of _ (by decide +kernel)) ggX3_pace_X3_isLabel
set_option maxRecDepth 20000 in
theorem ggX3_pace_X3_paceOf : GoodIn wsX3_pace wsX3_paceOf := goodIn_r _ [20, 21, 22, 23, 4, 24, 6, 25, 26, 27, 28, 29, 30, 31, 32, 33, 34, 35, 36] (by decide +kernel) (by decide +kernel)
set_option maxRecDepth 20000 in
theorem gX3_pace_X3_paceOf : GoodIn wsX3_pace (wsV RX3 96 RX3 yX3_paceOf wsX3_paceOf) := goodIn_app (goodIn_of _ (by decide +kernel)) ggX3_pace_X3_paceOf
theorem dX3_pace_0 : decode cX3_pace 0 = .ok (.aload_n 0, 1) := by decide +kernel
theorem dX3_pace_1 : decode cX3_pace 1 = .ok (.invokevirtual 74, 3) := by decide +kernel
theorem dX3_pace_4 : decode cX3_pace 4 = .ok (.aload_n 0, 1) := by decide +kernel
theorem dX3_pace_5 : decode cX3_pace 5 = .ok (.iload_n 1, 1) := by decide +kernel
theorem dX3_pace_6 : decode cX3_pace 6 = .ok (.invokevirtual 48, 3) := by decide +kernel
theorem dX3_pace_9 : decode cX3_pace 9 = .ok (.ifCond .eq 11, 3) := by decide +kernel
theorem dX3_pace_12 : decode cX3_pace 12 = .ok (.aload_n 0, 1) := by decide +kernel
theorem dX3_pace_13 : decode cX3_pace 13 = .ok (.iload_n 1, 1) := by decide +kernel
theorem dX3_pace_14 : decode cX3_pace 14 = .ok (.invokevirtual 96, 3) := by decide +kernel
theorem dX3_pace_17 : decode cX3_pace 17 = .ok (.goto 4, 3) := by decide +kernel
theorem dX3_pace_20 : decode cX3_pace 20 = .ok (.iconst (-1), 1) := by decide +kernel
theorem dX3_pace_21 : decode cX3_pace 21 = .ok (.ireturn, 1) := by decide +kernel
set_option maxRecDepth 20000 in
theorem ggX3_kind_X3_layLeads : GoodIn wsX3_kind wsX3_layLeads := goodIn_r _ [7, 8, 1, 2, 9, 21, 22, 23, 24, 25, 26, 27, 28, 29] (by decide +kernel) (by decide +kernel)
set_option maxRecDepth 20000 in
theorem gX3_kind_X3_layLeads : GoodIn wsX3_kind (wsV RX3 74 RX3 yX3_layLeads wsX3_layLeads) := goodIn_app (goodIn_of _ (by decide +kernel)) ggX3_kind_X3_layLeads
set_option maxRecDepth 20000 in
theorem ggX3_kind_X3_paceOf : GoodIn wsX3_kind wsX3_paceOf := goodIn_r _ [13, 14, 15, 16, 6, 17, 8, 18, 19, 20, 21, 22, 23, 24, 25, 26, 27, 28, 29] (by decide +kernel) (by decide +kernel)
set_option maxRecDepth 20000 in
theorem gX3_kind_X3_paceOf : GoodIn wsX3_kind (wsV RX3 96 RX3 yX3_paceOf wsX3_paceOf) := goodIn_app (goodIn_of _ (by decide +kernel)) ggX3_kind_X3_paceOf
theorem dX3_kind_0 : decode cX3_kind 0 = .ok (.aload_n 0, 1) := by decide +kernel
theorem dX3_kind_1 : decode cX3_kind 1 = .ok (.invokevirtual 74, 3) := by decide +kernel
theorem dX3_kind_4 : decode cX3_kind 4 = .ok (.iconst 0, 1) := by decide +kernel
theorem dX3_kind_5 : decode cX3_kind 5 = .ok (.istore_n 1, 1) := by decide +kernel
theorem dX3_kind_6 : decode cX3_kind 6 = .ok (.iconst 0, 1) := by decide +kernel
theorem dX3_kind_7 : decode cX3_kind 7 = .ok (.istore_n 2, 1) := by decide +kernel
theorem dX3_kind_8 : decode cX3_kind 8 = .ok (.iconst 0, 1) := by decide +kernel
theorem dX3_kind_9 : decode cX3_kind 9 = .ok (.istore_n 3, 1) := by decide +kernel
theorem dX3_kind_10 : decode cX3_kind 10 = .ok (.iconst 0, 1) := by decide +kernel
theorem dX3_kind_11 : decode cX3_kind 11 = .ok (.istore 4, 2) := by decide +kernel
theorem dX3_kind_13 : decode cX3_kind 13 = .ok (.iload 4, 2) := by decide +kernel
theorem dX3_kind_15 : decode cX3_kind 15 = .ok (.aload_n 0, 1) := by decide +kernel
theorem dX3_kind_16 : decode cX3_kind 16 = .ok (.getfield 40, 3) := by decide +kernel
theorem dX3_kind_19 : decode cX3_kind 19 = .ok (.if_icmp .ge 71, 3) := by decide +kernel
theorem dX3_kind_22 : decode cX3_kind 22 = .ok (.aload_n 0, 1) := by decide +kernel
theorem dX3_kind_23 : decode cX3_kind 23 = .ok (.iload 4, 2) := by decide +kernel
theorem dX3_kind_25 : decode cX3_kind 25 = .ok (.invokevirtual 96, 3) := by decide +kernel
theorem dX3_kind_28 : decode cX3_kind 28 = .ok (.istore 5, 2) := by decide +kernel
theorem dX3_kind_30 : decode cX3_kind 30 = .ok (.iload_n 1, 1) := by decide +kernel
theorem dX3_kind_31 : decode cX3_kind 31 = .ok (.ifCond .ne 8, 3) := by decide +kernel
theorem dX3_kind_34 : decode cX3_kind 34 = .ok (.iload 5, 2) := by decide +kernel
theorem dX3_kind_36 : decode cX3_kind 36 = .ok (.ifCond .le 7, 3) := by decide +kernel
theorem dX3_kind_39 : decode cX3_kind 39 = .ok (.iconst 1, 1) := by decide +kernel
theorem dX3_kind_40 : decode cX3_kind 40 = .ok (.goto 4, 3) := by decide +kernel
theorem dX3_kind_43 : decode cX3_kind 43 = .ok (.iconst 0, 1) := by decide +kernel
theorem dX3_kind_44 : decode cX3_kind 44 = .ok (.istore_n 1, 1) := by decide +kernel
theorem dX3_kind_45 : decode cX3_kind 45 = .ok (.iload_n 2, 1) := by decide +kernel
theorem dX3_kind_46 : decode cX3_kind 46 = .ok (.ifCond .ne 16, 3) := by decide +kernel
theorem dX3_kind_49 : decode cX3_kind 49 = .ok (.aload_n 0, 1) := by decide +kernel
theorem dX3_kind_50 : decode cX3_kind 50 = .ok (.getfield 7, 3) := by decide +kernel
theorem dX3_kind_53 : decode cX3_kind 53 = .ok (.bipush 7, 2) := by decide +kernel
theorem dX3_kind_55 : decode cX3_kind 55 = .ok (.iload 4, 2) := by decide +kernel
theorem dX3_kind_57 : decode cX3_kind 57 = .ok (.imul, 1) := by decide +kernel
theorem dX3_kind_58 : decode cX3_kind 58 = .ok (.baload, 1) := by decide +kernel
theorem dX3_kind_59 : decode cX3_kind 59 = .ok (.ifCond .eq 7, 3) := by decide +kernel
theorem dX3_kind_62 : decode cX3_kind 62 = .ok (.iconst 1, 1) := by decide +kernel
theorem dX3_kind_63 : decode cX3_kind 63 = .ok (.goto 4, 3) := by decide +kernel
theorem dX3_kind_66 : decode cX3_kind 66 = .ok (.iconst 0, 1) := by decide +kernel
theorem dX3_kind_67 : decode cX3_kind 67 = .ok (.istore_n 2, 1) := by decide +kernel
theorem dX3_kind_68 : decode cX3_kind 68 = .ok (.iload_n 3, 1) := by decide +kernel
theorem dX3_kind_69 : decode cX3_kind 69 = .ok (.ifCond .ne 9, 3) := by decide +kernel
theorem dX3_kind_72 : decode cX3_kind 72 = .ok (.iload 5, 2) := by decide +kernel
theorem dX3_kind_74 : decode cX3_kind 74 = .ok (.iconst 1, 1) := by decide +kernel
theorem dX3_kind_75 : decode cX3_kind 75 = .ok (.if_icmp .ne 7, 3) := by decide +kernel
theorem dX3_kind_78 : decode cX3_kind 78 = .ok (.iconst 1, 1) := by decide +kernel
theorem dX3_kind_79 : decode cX3_kind 79 = .ok (.goto 4, 3) := by decide +kernel
theorem dX3_kind_82 : decode cX3_kind 82 = .ok (.iconst 0, 1) := by decide +kernel
theorem dX3_kind_83 : decode cX3_kind 83 = .ok (.istore_n 3, 1) := by decide +kernel
theorem dX3_kind_84 : decode cX3_kind 84 = .ok (.iinc 4 1, 3) := by decide +kernel
theorem dX3_kind_87 : decode cX3_kind 87 = .ok (.goto (-74), 3) := by decide +kernel
theorem dX3_kind_90 : decode cX3_kind 90 = .ok (.iload_n 1, 1) := by decide +kernel
theorem dX3_kind_91 : decode cX3_kind 91 = .ok (.ifCond .ne 7, 3) := by decide +kernel
theorem dX3_kind_94 : decode cX3_kind 94 = .ok (.iconst 0, 1) := by decide +kernel
theorem dX3_kind_95 : decode cX3_kind 95 = .ok (.goto 20, 3) := by decide +kernel
theorem dX3_kind_98 : decode cX3_kind 98 = .ok (.iload_n 2, 1) := by decide +kernel
theorem dX3_kind_99 : decode cX3_kind 99 = .ok (.ifCond .eq 7, 3) := by decide +kernel
theorem dX3_kind_102 : decode cX3_kind 102 = .ok (.iconst 1, 1) := by decide +kernel
theorem dX3_kind_103 : decode cX3_kind 103 = .ok (.goto 12, 3) := by decide +kernel
theorem dX3_kind_106 : decode cX3_kind 106 = .ok (.iload_n 3, 1) := by decide +kernel
theorem dX3_kind_107 : decode cX3_kind 107 = .ok (.ifCond .eq 7, 3) := by decide +kernel
theorem dX3_kind_110 : decode cX3_kind 110 = .ok (.iconst 2, 1) := by decide +kernel
theorem dX3_kind_111 : decode cX3_kind 111 = .ok (.goto 4, 3) := by decide +kernel
theorem dX3_kind_114 : decode cX3_kind 114 = .ok (.iconst 3, 1) := by decide +kernel
theorem dX3_kind_115 : decode cX3_kind 115 = .ok (.ireturn, 1) := by decide +kernel
end
section
set_option maxRecDepth 20000 in
theorem ggX3_behindLast_X3_isWalk : GoodIn wsX3_behindLast wsX3_isWalk := goodIn_r _ [6, 7, 8, 9, 10, 11, 12, 13, 14, 15, 16] (by decide +kernel) (by decide +kernel)
set_option maxRecDepth 20000 in
theorem gX3_behindLast_X3_isWalk : GoodIn wsX3_behindLast (wsV RX3 71 RX3 yX3_isWalk wsX3_isWalk) := goodIn_app (goodIn_of _ (by decide +kernel)) ggX3_behindLast_X3_isWalk
theorem dX3_behindLast_0 : decode cX3_behindLast 0 = .ok (.iconst (-1), 1) := by decide +kernel
theorem dX3_behindLast_1 : decode cX3_behindLast 1 = .ok (.istore_n 2, 1) := by decide +kernel
theorem dX3_behindLast_2 : decode cX3_behindLast 2 = .ok (.iconst 0, 1) := by decide +kernel
theorem dX3_behindLast_3 : decode cX3_behindLast 3 = .ok (.istore_n 3, 1) := by decide +kernel
theorem dX3_behindLast_4 : decode cX3_behindLast 4 = .ok (.iload_n 3, 1) := by decide +kernel
theorem dX3_behindLast_5 : decode cX3_behindLast 5 = .ok (.bipush 60, 2) := by decide +kernel
theorem dX3_behindLast_7 : decode cX3_behindLast 7 = .ok (.if_icmp .gt 77, 3) := by decide +kernel
theorem dX3_behindLast_10 : decode cX3_behindLast 10 = .ok (.iconst 0, 1) := by decide +kernel
theorem dX3_behindLast_11 : decode cX3_behindLast 11 = .ok (.istore 4, 2) := by decide +kernel
theorem dX3_behindLast_13 : decode cX3_behindLast 13 = .ok (.iconst 0, 1) := by decide +kernel
theorem dX3_behindLast_14 : decode cX3_behindLast 14 = .ok (.istore 5, 2) := by decide +kernel
theorem dX3_behindLast_16 : decode cX3_behindLast 16 = .ok (.iload 5, 2) := by decide +kernel
theorem dX3_behindLast_18 : decode cX3_behindLast 18 = .ok (.aload_n 0, 1) := by decide +kernel
theorem dX3_behindLast_19 : decode cX3_behindLast 19 = .ok (.getfield 40, 3) := by decide +kernel
theorem dX3_behindLast_22 : decode cX3_behindLast 22 = .ok (.if_icmp .ge 45, 3) := by decide +kernel
theorem dX3_behindLast_25 : decode cX3_behindLast 25 = .ok (.iload 4, 2) := by decide +kernel
theorem dX3_behindLast_27 : decode cX3_behindLast 27 = .ok (.ifCond .ne 27, 3) := by decide +kernel
theorem dX3_behindLast_30 : decode cX3_behindLast 30 = .ok (.iload_n 1, 1) := by decide +kernel
theorem dX3_behindLast_31 : decode cX3_behindLast 31 = .ok (.bipush (-9), 2) := by decide +kernel
theorem dX3_behindLast_33 : decode cX3_behindLast 33 = .ok (.if_icmp .eq 9, 3) := by decide +kernel
theorem dX3_behindLast_36 : decode cX3_behindLast 36 = .ok (.iload_n 1, 1) := by decide +kernel
theorem dX3_behindLast_37 : decode cX3_behindLast 37 = .ok (.iload 5, 2) := by decide +kernel
theorem dX3_behindLast_39 : decode cX3_behindLast 39 = .ok (.if_icmp .ne 19, 3) := by decide +kernel
theorem dX3_behindLast_42 : decode cX3_behindLast 42 = .ok (.aload_n 0, 1) := by decide +kernel
theorem dX3_behindLast_43 : decode cX3_behindLast 43 = .ok (.iload 5, 2) := by decide +kernel
theorem dX3_behindLast_45 : decode cX3_behindLast 45 = .ok (.iload 5, 2) := by decide +kernel
theorem dX3_behindLast_47 : decode cX3_behindLast 47 = .ok (.iload_n 3, 1) := by decide +kernel
theorem dX3_behindLast_48 : decode cX3_behindLast 48 = .ok (.invokevirtual 71, 3) := by decide +kernel
theorem dX3_behindLast_51 : decode cX3_behindLast 51 = .ok (.ifCond .eq 7, 3) := by decide +kernel
theorem dX3_behindLast_54 : decode cX3_behindLast 54 = .ok (.iconst 1, 1) := by decide +kernel
theorem dX3_behindLast_55 : decode cX3_behindLast 55 = .ok (.goto 4, 3) := by decide +kernel
theorem dX3_behindLast_58 : decode cX3_behindLast 58 = .ok (.iconst 0, 1) := by decide +kernel
theorem dX3_behindLast_59 : decode cX3_behindLast 59 = .ok (.istore 4, 2) := by decide +kernel
theorem dX3_behindLast_61 : decode cX3_behindLast 61 = .ok (.iinc 5 1, 3) := by decide +kernel
theorem dX3_behindLast_64 : decode cX3_behindLast 64 = .ok (.goto (-48), 3) := by decide +kernel
theorem dX3_behindLast_67 : decode cX3_behindLast 67 = .ok (.iload 4, 2) := by decide +kernel
theorem dX3_behindLast_69 : decode cX3_behindLast 69 = .ok (.ifCond .eq 7, 3) := by decide +kernel
theorem dX3_behindLast_72 : decode cX3_behindLast 72 = .ok (.iload_n 2, 1) := by decide +kernel
theorem dX3_behindLast_73 : decode cX3_behindLast 73 = .ok (.goto 4, 3) := by decide +kernel
theorem dX3_behindLast_76 : decode cX3_behindLast 76 = .ok (.iload_n 3, 1) := by decide +kernel
theorem dX3_behindLast_77 : decode cX3_behindLast 77 = .ok (.istore_n 2, 1) := by decide +kernel
theorem dX3_behindLast_78 : decode cX3_behindLast 78 = .ok (.iinc 3 1, 3) := by decide +kernel
theorem dX3_behindLast_81 : decode cX3_behindLast 81 = .ok (.goto (-77), 3) := by decide +kernel
theorem dX3_behindLast_84 : decode cX3_behindLast 84 = .ok (.iload_n 2, 1) := by decide +kernel
theorem dX3_behindLast_85 : decode cX3_behindLast 85 = .ok (.iconst 1, 1) := by decide +kernel
theorem dX3_behindLast_86 : decode cX3_behindLast 86 = .ok (.iadd, 1) := by decide +kernel
theorem dX3_behindLast_87 : decode cX3_behindLast 87 = .ok (.ireturn, 1) := by decide +kernel
set_option maxRecDepth 20000 in
theorem ggX3_sure_X3_layLeads : GoodIn wsX3_sure wsX3_layLeads := goodIn_r _ [6, 7, 1, 8, 9, 25, 26, 27, 28, 29, 30, 31, 32, 33] (by decide +kernel) (by decide +kernel)
set_option maxRecDepth 20000 in
theorem gX3_sure_X3_layLeads : GoodIn wsX3_sure (wsV RX3 74 RX3 yX3_layLeads wsX3_layLeads) := goodIn_app (goodIn_of _ (by decide +kernel)) ggX3_sure_X3_layLeads
set_option maxRecDepth 20000 in
theorem ggX3_sure_X3_paceOf : GoodIn wsX3_sure wsX3_paceOf := goodIn_r _ [13, 14, 15, 16, 5, 17, 7, 18, 19, 20, 25, 26, 27, 28, 29, 30, 31, 32, 33] (by decide +kernel) (by decide +kernel)
set_option maxRecDepth 20000 in
theorem gX3_sure_X3_paceOf : GoodIn wsX3_sure (wsV RX3 96 RX3 yX3_paceOf wsX3_paceOf) := goodIn_app (goodIn_of _ (by decide +kernel)) ggX3_sure_X3_paceOf
set_option maxRecDepth 20000 in
theorem ggX3_sure_X3_behindLast : GoodIn wsX3_sure wsX3_behindLast := goodIn_r _ [24, 1, 14, 15, 16, 5, 17, 7, 25, 26, 27, 28, 29, 30, 31, 32, 33] (by decide +kernel) (by decide +kernel)
set_option maxRecDepth 20000 in
theorem gX3_sure_X3_behindLast : GoodIn wsX3_sure (wsV RX3 99 RX3 yX3_behindLast wsX3_behindLast) := goodIn_app (goodIn_of _ (by decide +kernel)) ggX3_sure_X3_behindLast
theorem dX3_sure_0 : decode cX3_sure 0 = .ok (.aload_n 0, 1) := by decide +kernel
theorem dX3_sure_1 : decode cX3_sure 1 = .ok (.invokevirtual 74, 3) := by decide +kernel
theorem dX3_sure_4 : decode cX3_sure 4 = .ok (.iconst 0, 1) := by decide +kernel
theorem dX3_sure_5 : decode cX3_sure 5 = .ok (.istore_n 1, 1) := by decide +kernel
theorem dX3_sure_6 : decode cX3_sure 6 = .ok (.iconst 0, 1) := by decide +kernel
theorem dX3_sure_7 : decode cX3_sure 7 = .ok (.istore_n 2, 1) := by decide +kernel
theorem dX3_sure_8 : decode cX3_sure 8 = .ok (.iload_n 2, 1) := by decide +kernel
theorem dX3_sure_9 : decode cX3_sure 9 = .ok (.aload_n 0, 1) := by decide +kernel
theorem dX3_sure_10 : decode cX3_sure 10 = .ok (.getfield 40, 3) := by decide +kernel
theorem dX3_sure_13 : decode cX3_sure 13 = .ok (.if_icmp .ge 28, 3) := by decide +kernel
theorem dX3_sure_16 : decode cX3_sure 16 = .ok (.iload_n 1, 1) := by decide +kernel
theorem dX3_sure_17 : decode cX3_sure 17 = .ok (.ifCond .ne 12, 3) := by decide +kernel
theorem dX3_sure_20 : decode cX3_sure 20 = .ok (.aload_n 0, 1) := by decide +kernel
theorem dX3_sure_21 : decode cX3_sure 21 = .ok (.iload_n 2, 1) := by decide +kernel
theorem dX3_sure_22 : decode cX3_sure 22 = .ok (.invokevirtual 96, 3) := by decide +kernel
theorem dX3_sure_25 : decode cX3_sure 25 = .ok (.iconst 1, 1) := by decide +kernel
theorem dX3_sure_26 : decode cX3_sure 26 = .ok (.if_icmp .ne 7, 3) := by decide +kernel
theorem dX3_sure_29 : decode cX3_sure 29 = .ok (.iconst 1, 1) := by decide +kernel
theorem dX3_sure_30 : decode cX3_sure 30 = .ok (.goto 4, 3) := by decide +kernel
theorem dX3_sure_33 : decode cX3_sure 33 = .ok (.iconst 0, 1) := by decide +kernel
theorem dX3_sure_34 : decode cX3_sure 34 = .ok (.istore_n 1, 1) := by decide +kernel
theorem dX3_sure_35 : decode cX3_sure 35 = .ok (.iinc 2 1, 3) := by decide +kernel
theorem dX3_sure_38 : decode cX3_sure 38 = .ok (.goto (-30), 3) := by decide +kernel
theorem dX3_sure_41 : decode cX3_sure 41 = .ok (.aload_n 0, 1) := by decide +kernel
theorem dX3_sure_42 : decode cX3_sure 42 = .ok (.bipush (-9), 2) := by decide +kernel
theorem dX3_sure_44 : decode cX3_sure 44 = .ok (.invokevirtual 99, 3) := by decide +kernel
theorem dX3_sure_47 : decode cX3_sure 47 = .ok (.istore_n 2, 1) := by decide +kernel
theorem dX3_sure_48 : decode cX3_sure 48 = .ok (.iload_n 1, 1) := by decide +kernel
theorem dX3_sure_49 : decode cX3_sure 49 = .ok (.ifCond .ne 8, 3) := by decide +kernel
theorem dX3_sure_52 : decode cX3_sure 52 = .ok (.bipush (-9), 2) := by decide +kernel
theorem dX3_sure_54 : decode cX3_sure 54 = .ok (.goto 13, 3) := by decide +kernel
theorem dX3_sure_57 : decode cX3_sure 57 = .ok (.iload_n 2, 1) := by decide +kernel
theorem dX3_sure_58 : decode cX3_sure 58 = .ok (.iconst 1, 1) := by decide +kernel
theorem dX3_sure_59 : decode cX3_sure 59 = .ok (.if_icmp .ge 7, 3) := by decide +kernel
theorem dX3_sure_62 : decode cX3_sure 62 = .ok (.iconst 1, 1) := by decide +kernel
theorem dX3_sure_63 : decode cX3_sure 63 = .ok (.goto 4, 3) := by decide +kernel
theorem dX3_sure_66 : decode cX3_sure 66 = .ok (.iload_n 2, 1) := by decide +kernel
theorem dX3_sure_67 : decode cX3_sure 67 = .ok (.ireturn, 1) := by decide +kernel
set_option maxRecDepth 20000 in
theorem ggX3_free_X3_isLabel : GoodIn wsX3_free wsX3_isLabel := goodIn_r _ [5, 6, 7, 8, 4, 9, 32, 33, 34, 35, 36, 37, 38, 39, 40] (by decide +kernel) (by decide +kernel)
set_option maxRecDepth 20000 in
theorem gX3_free_X3_isLabel : GoodIn wsX3_free (wsV RX3 48 RX3 yX3_isLabel wsX3_isLabel) := goodIn_app (goodIn_of _ (by decide +kernel)) ggX3_free_X3_isLabel
set_option maxRecDepth 20000 in
theorem ggX3_free_X3_layLeads : GoodIn wsX3_free wsX3_layLeads := goodIn_r _ [13, 14, 6, 15, 16, 32, 33, 34, 35, 36, 37, 38, 39, 40] (by decide +kernel) (by decide +kernel)
set_option maxRecDepth 20000 in
theorem gX3_free_X3_layLeads : GoodIn wsX3_free (wsV RX3 74 RX3 yX3_layLeads wsX3_layLeads) := goodIn_app (goodIn_of _ (by decide +kernel)) ggX3_free_X3_layLeads
set_option maxRecDepth 20000 in
theorem ggX3_free_X3_paceOf : GoodIn wsX3_free wsX3_paceOf := goodIn_r _ [20, 21, 22, 23, 4, 24, 14, 25, 26, 27, 32, 33, 34, 35, 36, 37, 38, 39, 40] (by decide +kernel) (by decide +kernel)
set_option maxRecDepth 20000 in
theorem gX3_free_X3_paceOf : GoodIn wsX3_free (wsV RX3 96 RX3 yX3_paceOf wsX3_paceOf) := goodIn_app (goodIn_of _ (by decide +kernel)) ggX3_free_X3_paceOf
set_option maxRecDepth 20000 in
theorem ggX3_free_X3_behindLast : GoodIn wsX3_free wsX3_behindLast := goodIn_r _ [31, 6, 21, 22, 23, 4, 24, 14, 32, 33, 34, 35, 36, 37, 38, 39, 40] (by decide +kernel) (by decide +kernel)
set_option maxRecDepth 20000 in
theorem gX3_free_X3_behindLast : GoodIn wsX3_free (wsV RX3 99 RX3 yX3_behindLast wsX3_behindLast) := goodIn_app (goodIn_of _ (by decide +kernel)) ggX3_free_X3_behindLast
theorem dX3_free_0 : decode cX3_free 0 = .ok (.aload_n 0, 1) := by decide +kernel
theorem dX3_free_1 : decode cX3_free 1 = .ok (.iload_n 1, 1) := by decide +kernel
theorem dX3_free_2 : decode cX3_free 2 = .ok (.invokevirtual 48, 3) := by decide +kernel
theorem dX3_free_5 : decode cX3_free 5 = .ok (.ifCond .ne 5, 3) := by decide +kernel
theorem dX3_free_8 : decode cX3_free 8 = .ok (.iconst (-1), 1) := by decide +kernel
theorem dX3_free_9 : decode cX3_free 9 = .ok (.ireturn, 1) := by decide +kernel
theorem dX3_free_10 : decode cX3_free 10 = .ok (.aload_n 0, 1) := by decide +kernel
theorem dX3_free_11 : decode cX3_free 11 = .ok (.invokevirtual 74, 3) := by decide +kernel
theorem dX3_free_14 : decode cX3_free 14 = .ok (.aload_n 0, 1) := by decide +kernel
theorem dX3_free_15 : decode cX3_free 15 = .ok (.iload_n 1, 1) := by decide +kernel
theorem dX3_free_16 : decode cX3_free 16 = .ok (.invokevirtual 96, 3) := by decide +kernel
theorem dX3_free_19 : decode cX3_free 19 = .ok (.iconst 1, 1) := by decide +kernel
theorem dX3_free_20 : decode cX3_free 20 = .ok (.if_icmp .ne 11, 3) := by decide +kernel
theorem dX3_free_23 : decode cX3_free 23 = .ok (.aload_n 0, 1) := by decide +kernel
theorem dX3_free_24 : decode cX3_free 24 = .ok (.iload_n 1, 1) := by decide +kernel
theorem dX3_free_25 : decode cX3_free 25 = .ok (.invokevirtual 99, 3) := by decide +kernel
theorem dX3_free_28 : decode cX3_free 28 = .ok (.goto 5, 3) := by decide +kernel
theorem dX3_free_31 : decode cX3_free 31 = .ok (.bipush (-9), 2) := by decide +kernel
theorem dX3_free_33 : decode cX3_free 33 = .ok (.ireturn, 1) := by decide +kernel
set_option maxRecDepth 20000 in
theorem ggX3_mirrors_X3_layLeads : GoodIn wsX3_mirrors wsX3_layLeads := goodIn_r _ [7, 8, 1, 2, 9, 18, 19, 20, 21, 22, 23, 24, 25, 26] (by decide +kernel) (by decide +kernel)
set_option maxRecDepth 20000 in
theorem gX3_mirrors_X3_layLeads : GoodIn wsX3_mirrors (wsV RX3 74 RX3 yX3_layLeads wsX3_layLeads) := goodIn_app (goodIn_of _ (by decide +kernel)) ggX3_mirrors_X3_layLeads
set_option maxRecDepth 20000 in
theorem ggX3_mirrors_X3_isOneBlock : GoodIn wsX3_mirrors wsX3_isOneBlock := goodIn_r _ [13, 14, 15, 16, 6, 17, 8, 18, 19, 20, 21, 22, 23, 24, 25, 26] (by decide +kernel) (by decide +kernel)
set_option maxRecDepth 20000 in
theorem gX3_mirrors_X3_isOneBlock : GoodIn wsX3_mirrors (wsV RX3 84 RX3 yX3_isOneBlock wsX3_isOneBlock) := goodIn_app (goodIn_of _ (by decide +kernel)) ggX3_mirrors_X3_isOneBlock
theorem dX3_mirrors_0 : decode cX3_mirrors 0 = .ok (.aload_n 0, 1) := by decide +kernel
theorem dX3_mirrors_1 : decode cX3_mirrors 1 = .ok (.invokevirtual 74, 3) := by decide +kernel
theorem dX3_mirrors_4 : decode cX3_mirrors 4 = .ok (.iconst 1, 1) := by decide +kernel
theorem dX3_mirrors_5 : decode cX3_mirrors 5 = .ok (.istore_n 1, 1) := by decide +kernel
theorem dX3_mirrors_6 : decode cX3_mirrors 6 = .ok (.iconst 0, 1) := by decide +kernel
theorem dX3_mirrors_7 : decode cX3_mirrors 7 = .ok (.istore_n 2, 1) := by decide +kernel
theorem dX3_mirrors_8 : decode cX3_mirrors 8 = .ok (.iload_n 2, 1) := by decide +kernel
theorem dX3_mirrors_9 : decode cX3_mirrors 9 = .ok (.bipush 36, 2) := by decide +kernel
theorem dX3_mirrors_11 : decode cX3_mirrors 11 = .ok (.if_icmp .ge 78, 3) := by decide +kernel
theorem dX3_mirrors_14 : decode cX3_mirrors 14 = .ok (.iload_n 2, 1) := by decide +kernel
theorem dX3_mirrors_15 : decode cX3_mirrors 15 = .ok (.bipush 6, 2) := by decide +kernel
theorem dX3_mirrors_17 : decode cX3_mirrors 17 = .ok (.idiv, 1) := by decide +kernel
theorem dX3_mirrors_18 : decode cX3_mirrors 18 = .ok (.istore_n 3, 1) := by decide +kernel
theorem dX3_mirrors_19 : decode cX3_mirrors 19 = .ok (.iload_n 2, 1) := by decide +kernel
theorem dX3_mirrors_20 : decode cX3_mirrors 20 = .ok (.bipush 6, 2) := by decide +kernel
theorem dX3_mirrors_22 : decode cX3_mirrors 22 = .ok (.irem, 1) := by decide +kernel
theorem dX3_mirrors_23 : decode cX3_mirrors 23 = .ok (.istore 4, 2) := by decide +kernel
theorem dX3_mirrors_25 : decode cX3_mirrors 25 = .ok (.iload_n 1, 1) := by decide +kernel
theorem dX3_mirrors_26 : decode cX3_mirrors 26 = .ok (.ifCond .eq 55, 3) := by decide +kernel
theorem dX3_mirrors_29 : decode cX3_mirrors 29 = .ok (.iload_n 3, 1) := by decide +kernel
theorem dX3_mirrors_30 : decode cX3_mirrors 30 = .ok (.aload_n 0, 1) := by decide +kernel
theorem dX3_mirrors_31 : decode cX3_mirrors 31 = .ok (.getfield 40, 3) := by decide +kernel
theorem dX3_mirrors_34 : decode cX3_mirrors 34 = .ok (.if_icmp .ge 43, 3) := by decide +kernel
theorem dX3_mirrors_37 : decode cX3_mirrors 37 = .ok (.iload 4, 2) := by decide +kernel
theorem dX3_mirrors_39 : decode cX3_mirrors 39 = .ok (.aload_n 0, 1) := by decide +kernel
theorem dX3_mirrors_40 : decode cX3_mirrors 40 = .ok (.getfield 40, 3) := by decide +kernel
theorem dX3_mirrors_43 : decode cX3_mirrors 43 = .ok (.if_icmp .ge 34, 3) := by decide +kernel
theorem dX3_mirrors_46 : decode cX3_mirrors 46 = .ok (.aload_n 0, 1) := by decide +kernel
theorem dX3_mirrors_47 : decode cX3_mirrors 47 = .ok (.iload_n 3, 1) := by decide +kernel
theorem dX3_mirrors_48 : decode cX3_mirrors 48 = .ok (.iload 4, 2) := by decide +kernel
theorem dX3_mirrors_50 : decode cX3_mirrors 50 = .ok (.invokevirtual 84, 3) := by decide +kernel
theorem dX3_mirrors_53 : decode cX3_mirrors 53 = .ok (.ifCond .eq 24, 3) := by decide +kernel
theorem dX3_mirrors_56 : decode cX3_mirrors 56 = .ok (.aload_n 0, 1) := by decide +kernel
theorem dX3_mirrors_57 : decode cX3_mirrors 57 = .ok (.getfield 7, 3) := by decide +kernel
theorem dX3_mirrors_60 : decode cX3_mirrors 60 = .ok (.iload_n 2, 1) := by decide +kernel
theorem dX3_mirrors_61 : decode cX3_mirrors 61 = .ok (.baload, 1) := by decide +kernel
theorem dX3_mirrors_62 : decode cX3_mirrors 62 = .ok (.aload_n 0, 1) := by decide +kernel
theorem dX3_mirrors_63 : decode cX3_mirrors 63 = .ok (.getfield 7, 3) := by decide +kernel
theorem dX3_mirrors_66 : decode cX3_mirrors 66 = .ok (.bipush 6, 2) := by decide +kernel
theorem dX3_mirrors_68 : decode cX3_mirrors 68 = .ok (.iload 4, 2) := by decide +kernel
theorem dX3_mirrors_70 : decode cX3_mirrors 70 = .ok (.imul, 1) := by decide +kernel
theorem dX3_mirrors_71 : decode cX3_mirrors 71 = .ok (.iload_n 3, 1) := by decide +kernel
theorem dX3_mirrors_72 : decode cX3_mirrors 72 = .ok (.iadd, 1) := by decide +kernel
theorem dX3_mirrors_73 : decode cX3_mirrors 73 = .ok (.baload, 1) := by decide +kernel
theorem dX3_mirrors_74 : decode cX3_mirrors 74 = .ok (.if_icmp .ne 7, 3) := by decide +kernel
theorem dX3_mirrors_77 : decode cX3_mirrors 77 = .ok (.iconst 1, 1) := by decide +kernel
theorem dX3_mirrors_78 : decode cX3_mirrors 78 = .ok (.goto 4, 3) := by decide +kernel
theorem dX3_mirrors_81 : decode cX3_mirrors 81 = .ok (.iconst 0, 1) := by decide +kernel
theorem dX3_mirrors_82 : decode cX3_mirrors 82 = .ok (.istore_n 1, 1) := by decide +kernel
theorem dX3_mirrors_83 : decode cX3_mirrors 83 = .ok (.iinc 2 1, 3) := by decide +kernel
theorem dX3_mirrors_86 : decode cX3_mirrors 86 = .ok (.goto (-78), 3) := by decide +kernel
theorem dX3_mirrors_89 : decode cX3_mirrors 89 = .ok (.iload_n 1, 1) := by decide +kernel
theorem dX3_mirrors_90 : decode cX3_mirrors 90 = .ok (.ifCond .eq 7, 3) := by decide +kernel
theorem dX3_mirrors_93 : decode cX3_mirrors 93 = .ok (.iconst 1, 1) := by decide +kernel
theorem dX3_mirrors_94 : decode cX3_mirrors 94 = .ok (.goto 4, 3) := by decide +kernel
theorem dX3_mirrors_97 : decode cX3_mirrors 97 = .ok (.iconst 0, 1) := by decide +kernel
theorem dX3_mirrors_98 : decode cX3_mirrors 98 = .ok (.ireturn, 1) := by decide +kernel
theorem dX3_lay_0 : decode cX3_lay 0 = .ok (.aload_n 0, 1) := by decide +kernel
theorem dX3_lay_1 : decode cX3_lay 1 = .ok (.iload_n 1, 1) := by decide +kernel
theorem dX3_lay_2 : decode cX3_lay 2 = .ok (.putfield 102, 3) := by decide +kernel
theorem dX3_lay_5 : decode cX3_lay 5 = .ok (.iconst 0, 1) := by decide +kernel
theorem dX3_lay_6 : decode cX3_lay 6 = .ok (.istore_n 2, 1) := by decide +kernel
theorem dX3_lay_7 : decode cX3_lay 7 = .ok (.iload_n 2, 1) := by decide +kernel
theorem dX3_lay_8 : decode cX3_lay 8 = .ok (.bipush 60, 2) := by decide +kernel
theorem dX3_lay_10 : decode cX3_lay 10 = .ok (.if_icmp .ge 23, 3) := by decide +kernel
theorem dX3_lay_13 : decode cX3_lay 13 = .ok (.aload_n 0, 1) := by decide +kernel
theorem dX3_lay_14 : decode cX3_lay 14 = .ok (.getfield 27, 3) := by decide +kernel
theorem dX3_lay_17 : decode cX3_lay 17 = .ok (.iload_n 2, 1) := by decide +kernel
theorem dX3_lay_18 : decode cX3_lay 18 = .ok (.iconst 0, 1) := by decide +kernel
theorem dX3_lay_19 : decode cX3_lay 19 = .ok (.iastore, 1) := by decide +kernel
theorem dX3_lay_20 : decode cX3_lay 20 = .ok (.aload_n 0, 1) := by decide +kernel
theorem dX3_lay_21 : decode cX3_lay 21 = .ok (.getfield 30, 3) := by decide +kernel
theorem dX3_lay_24 : decode cX3_lay 24 = .ok (.iload_n 2, 1) := by decide +kernel
theorem dX3_lay_25 : decode cX3_lay 25 = .ok (.iload_n 2, 1) := by decide +kernel
theorem dX3_lay_26 : decode cX3_lay 26 = .ok (.iastore, 1) := by decide +kernel
theorem dX3_lay_27 : decode cX3_lay 27 = .ok (.iinc 2 1, 3) := by decide +kernel
theorem dX3_lay_30 : decode cX3_lay 30 = .ok (.goto (-23), 3) := by decide +kernel
theorem dX3_lay_33 : decode cX3_lay 33 = .ok (.return_, 1) := by decide +kernel
set_option maxRecDepth 20000 in
theorem ggX3_isPost_X3_in : GoodIn wsX3_isPost wsX3_in := goodIn_r _ [5] (by decide +kernel) (by decide +kernel)
set_option maxRecDepth 20000 in
theorem gX3_isPost_X3_in : GoodIn wsX3_isPost (va_wsS RX3 44 yX3_in wsX3_in) := goodIn_app (goodIn_of _ (by decide +kernel)) ggX3_isPost_X3_in
theorem dX3_isPost_0 : decode cX3_isPost 0 = .ok (.iload_n 1, 1) := by decide +kernel
theorem dX3_isPost_1 : decode cX3_isPost 1 = .ok (.iconst 0, 1) := by decide +kernel
theorem dX3_isPost_2 : decode cX3_isPost 2 = .ok (.aload_n 0, 1) := by decide +kernel
theorem dX3_isPost_3 : decode cX3_isPost 3 = .ok (.getfield 102, 3) := by decide +kernel
theorem dX3_isPost_6 : decode cX3_isPost 6 = .ok (.iconst 1, 1) := by decide +kernel
theorem dX3_isPost_7 : decode cX3_isPost 7 = .ok (.isub, 1) := by decide +kernel
theorem dX3_isPost_8 : decode cX3_isPost 8 = .ok (.invokestatic 44, 3) := by decide +kernel
theorem dX3_isPost_11 : decode cX3_isPost 11 = .ok (.ireturn, 1) := by decide +kernel
theorem dX3_place_0 : decode cX3_place 0 = .ok (.iload_n 1, 1) := by decide +kernel
theorem dX3_place_1 : decode cX3_place 1 = .ok (.aload_n 0, 1) := by decide +kernel
theorem dX3_place_2 : decode cX3_place 2 = .ok (.getfield 102, 3) := by decide +kernel
theorem dX3_place_5 : decode cX3_place 5 = .ok (.irem, 1) := by decide +kernel
theorem dX3_place_6 : decode cX3_place 6 = .ok (.aload_n 0, 1) := by decide +kernel
theorem dX3_place_7 : decode cX3_place 7 = .ok (.getfield 102, 3) := by decide +kernel
theorem dX3_place_10 : decode cX3_place 10 = .ok (.iadd, 1) := by decide +kernel
theorem dX3_place_11 : decode cX3_place 11 = .ok (.aload_n 0, 1) := by decide +kernel
theorem dX3_place_12 : decode cX3_place 12 = .ok (.getfield 102, 3) := by decide +kernel
theorem dX3_place_15 : decode cX3_place 15 = .ok (.irem, 1) := by decide +kernel
theorem dX3_place_16 : decode cX3_place 16 = .ok (.ireturn, 1) := by decide +kernel
set_option maxRecDepth 20000 in
theorem ggX3_ring_X3_in : GoodIn wsX3_ring wsX3_in := goodIn_r _ [5] (by decide +kernel) (by decide +kernel)
set_option maxRecDepth 20000 in
theorem gX3_ring_X3_in : GoodIn wsX3_ring (va_wsS RX3 44 yX3_in wsX3_in) := goodIn_app (goodIn_of _ (by decide +kernel)) ggX3_ring_X3_in
set_option maxRecDepth 20000 in
theorem ggX3_ring_X3_lay : GoodIn wsX3_ring wsX3_lay := goodIn_r _ [9, 1, 10, 11, 12, 13, 14, 15, 16, 17, 18, 19, 20] (by decide +kernel) (by decide +kernel)
set_option maxRecDepth 20000 in
theorem gX3_ring_X3_lay : GoodIn wsX3_ring (wsV RX3 37 RX3 yX3_lay wsX3_lay) := goodIn_app (goodIn_of _ (by decide +kernel)) ggX3_ring_X3_lay
theorem dX3_ring_0 : decode cX3_ring 0 = .ok (.iload_n 1, 1) := by decide +kernel
theorem dX3_ring_1 : decode cX3_ring 1 = .ok (.iconst 3, 1) := by decide +kernel
theorem dX3_ring_2 : decode cX3_ring 2 = .ok (.bipush 60, 2) := by decide +kernel
theorem dX3_ring_4 : decode cX3_ring 4 = .ok (.invokestatic 44, 3) := by decide +kernel
theorem dX3_ring_7 : decode cX3_ring 7 = .ok (.ifCond .ne 6, 3) := by decide +kernel
theorem dX3_ring_10 : decode cX3_ring 10 = .ok (.bipush (-2), 2) := by decide +kernel
theorem dX3_ring_12 : decode cX3_ring 12 = .ok (.ireturn, 1) := by decide +kernel
theorem dX3_ring_13 : decode cX3_ring 13 = .ok (.aload_n 0, 1) := by decide +kernel
theorem dX3_ring_14 : decode cX3_ring 14 = .ok (.getfield 102, 3) := by decide +kernel
theorem dX3_ring_17 : decode cX3_ring 17 = .ok (.istore_n 2, 1) := by decide +kernel
theorem dX3_ring_18 : decode cX3_ring 18 = .ok (.aload_n 0, 1) := by decide +kernel
theorem dX3_ring_19 : decode cX3_ring 19 = .ok (.iload_n 1, 1) := by decide +kernel
theorem dX3_ring_20 : decode cX3_ring 20 = .ok (.invokevirtual 37, 3) := by decide +kernel
theorem dX3_ring_23 : decode cX3_ring 23 = .ok (.iload_n 2, 1) := by decide +kernel
theorem dX3_ring_24 : decode cX3_ring 24 = .ok (.ireturn, 1) := by decide +kernel
set_option maxRecDepth 20000 in
theorem ggX3_put_X3_isPost : GoodIn wsX3_put wsX3_isPost := goodIn_r _ [6, 7, 8, 9, 5, 10, 16, 17, 18, 19, 20, 21, 22, 23, 24] (by decide +kernel) (by decide +kernel)
set_option maxRecDepth 20000 in
theorem gX3_put_X3_isPost : GoodIn wsX3_put (wsV RX3 105 RX3 yX3_isPost wsX3_isPost) := goodIn_app (goodIn_of _ (by decide +kernel)) ggX3_put_X3_isPost
set_option maxRecDepth 20000 in
theorem ggX3_put_X3_isLabel : GoodIn wsX3_put wsX3_isLabel := goodIn_r _ [14, 15, 8, 9, 5, 10, 16, 17, 18, 19, 20, 21, 22, 23, 24] (by decide +kernel) (by decide +kernel)
set_option maxRecDepth 20000 in
theorem gX3_put_X3_isLabel : GoodIn wsX3_put (wsV RX3 48 RX3 yX3_isLabel wsX3_isLabel) := goodIn_app (goodIn_of _ (by decide +kernel)) ggX3_put_X3_isLabel
theorem dX3_put_0 : decode cX3_put 0 = .ok (.aload_n 0, 1) := by decide +kernel
theorem dX3_put_1 : decode cX3_put 1 = .ok (.iload_n 1, 1) := by decide +kernel
theorem dX3_put_2 : decode cX3_put 2 = .ok (.invokevirtual 105, 3) := by decide +kernel
theorem dX3_put_5 : decode cX3_put 5 = .ok (.ifCond .eq 11, 3) := by decide +kernel
theorem dX3_put_8 : decode cX3_put 8 = .ok (.aload_n 0, 1) := by decide +kernel
theorem dX3_put_9 : decode cX3_put 9 = .ok (.iload_n 2, 1) := by decide +kernel
theorem dX3_put_10 : decode cX3_put 10 = .ok (.invokevirtual 48, 3) := by decide +kernel
theorem dX3_put_13 : decode cX3_put 13 = .ok (.ifCond .ne 5, 3) := by decide +kernel
theorem dX3_put_16 : decode cX3_put 16 = .ok (.iconst (-1), 1) := by decide +kernel
theorem dX3_put_17 : decode cX3_put 17 = .ok (.ireturn, 1) := by decide +kernel
theorem dX3_put_18 : decode cX3_put 18 = .ok (.aload_n 0, 1) := by decide +kernel
theorem dX3_put_19 : decode cX3_put 19 = .ok (.getfield 27, 3) := by decide +kernel
theorem dX3_put_22 : decode cX3_put 22 = .ok (.iload_n 1, 1) := by decide +kernel
theorem dX3_put_23 : decode cX3_put 23 = .ok (.iaload, 1) := by decide +kernel
theorem dX3_put_24 : decode cX3_put 24 = .ok (.istore_n 3, 1) := by decide +kernel
theorem dX3_put_25 : decode cX3_put 25 = .ok (.aload_n 0, 1) := by decide +kernel
theorem dX3_put_26 : decode cX3_put 26 = .ok (.getfield 27, 3) := by decide +kernel
theorem dX3_put_29 : decode cX3_put 29 = .ok (.iload_n 1, 1) := by decide +kernel
theorem dX3_put_30 : decode cX3_put 30 = .ok (.iload_n 2, 1) := by decide +kernel
theorem dX3_put_31 : decode cX3_put 31 = .ok (.iastore, 1) := by decide +kernel
theorem dX3_put_32 : decode cX3_put 32 = .ok (.iload_n 3, 1) := by decide +kernel
theorem dX3_put_33 : decode cX3_put 33 = .ok (.ireturn, 1) := by decide +kernel
set_option maxRecDepth 20000 in
theorem ggX3_at_X3_isPost : GoodIn wsX3_at wsX3_isPost := goodIn_r _ [6, 7, 8, 9, 5, 10, 11, 12, 13, 14, 15, 16, 17, 18, 19] (by decide +kernel) (by decide +kernel)
set_option maxRecDepth 20000 in
theorem gX3_at_X3_isPost : GoodIn wsX3_at (wsV RX3 105 RX3 yX3_isPost wsX3_isPost) := goodIn_app (goodIn_of _ (by decide +kernel)) ggX3_at_X3_isPost
theorem dX3_at_0 : decode cX3_at 0 = .ok (.aload_n 0, 1) := by decide +kernel
theorem dX3_at_1 : decode cX3_at 1 = .ok (.iload_n 1, 1) := by decide +kernel
theorem dX3_at_2 : decode cX3_at 2 = .ok (.invokevirtual 105, 3) := by decide +kernel
theorem dX3_at_5 : decode cX3_at 5 = .ok (.ifCond .eq 12, 3) := by decide +kernel
theorem dX3_at_8 : decode cX3_at 8 = .ok (.aload_n 0, 1) := by decide +kernel
theorem dX3_at_9 : decode cX3_at 9 = .ok (.getfield 27, 3) := by decide +kernel
theorem dX3_at_12 : decode cX3_at 12 = .ok (.iload_n 1, 1) := by decide +kernel
theorem dX3_at_13 : decode cX3_at 13 = .ok (.iaload, 1) := by decide +kernel
theorem dX3_at_14 : decode cX3_at 14 = .ok (.goto 4, 3) := by decide +kernel
theorem dX3_at_17 : decode cX3_at 17 = .ok (.iconst (-1), 1) := by decide +kernel
theorem dX3_at_18 : decode cX3_at 18 = .ok (.ireturn, 1) := by decide +kernel
set_option maxRecDepth 20000 in
theorem ggX3_isFault_X3_place : GoodIn wsX3_isFault wsX3_place := goodIn_r _ [7, 8, 9, 10, 11, 12, 13, 14, 15, 16, 17] (by decide +kernel) (by decide +kernel)
set_option maxRecDepth 20000 in
theorem gX3_isFault_X3_place : GoodIn wsX3_isFault (wsV RX3 108 RX3 yX3_place wsX3_place) := goodIn_app (goodIn_of _ (by decide +kernel)) ggX3_isFault_X3_place
theorem dX3_isFault_0 : decode cX3_isFault 0 = .ok (.aload_n 0, 1) := by decide +kernel
theorem dX3_isFault_1 : decode cX3_isFault 1 = .ok (.getfield 7, 3) := by decide +kernel
theorem dX3_isFault_4 : decode cX3_isFault 4 = .ok (.bipush 6, 2) := by decide +kernel
theorem dX3_isFault_6 : decode cX3_isFault 6 = .ok (.aload_n 0, 1) := by decide +kernel
theorem dX3_isFault_7 : decode cX3_isFault 7 = .ok (.getfield 27, 3) := by decide +kernel
theorem dX3_isFault_10 : decode cX3_isFault 10 = .ok (.iload_n 1, 1) := by decide +kernel
theorem dX3_isFault_11 : decode cX3_isFault 11 = .ok (.iaload, 1) := by decide +kernel
theorem dX3_isFault_12 : decode cX3_isFault 12 = .ok (.imul, 1) := by decide +kernel
theorem dX3_isFault_13 : decode cX3_isFault 13 = .ok (.aload_n 0, 1) := by decide +kernel
theorem dX3_isFault_14 : decode cX3_isFault 14 = .ok (.getfield 27, 3) := by decide +kernel
theorem dX3_isFault_17 : decode cX3_isFault 17 = .ok (.aload_n 0, 1) := by decide +kernel
theorem dX3_isFault_18 : decode cX3_isFault 18 = .ok (.iload_n 1, 1) := by decide +kernel
theorem dX3_isFault_19 : decode cX3_isFault 19 = .ok (.iconst 1, 1) := by decide +kernel
theorem dX3_isFault_20 : decode cX3_isFault 20 = .ok (.iadd, 1) := by decide +kernel
theorem dX3_isFault_21 : decode cX3_isFault 21 = .ok (.invokevirtual 108, 3) := by decide +kernel
theorem dX3_isFault_24 : decode cX3_isFault 24 = .ok (.iaload, 1) := by decide +kernel
theorem dX3_isFault_25 : decode cX3_isFault 25 = .ok (.iadd, 1) := by decide +kernel
theorem dX3_isFault_26 : decode cX3_isFault 26 = .ok (.baload, 1) := by decide +kernel
theorem dX3_isFault_27 : decode cX3_isFault 27 = .ok (.ifCond .ne 7, 3) := by decide +kernel
theorem dX3_isFault_30 : decode cX3_isFault 30 = .ok (.iconst 1, 1) := by decide +kernel
theorem dX3_isFault_31 : decode cX3_isFault 31 = .ok (.goto 4, 3) := by decide +kernel
theorem dX3_isFault_34 : decode cX3_isFault 34 = .ok (.iconst 0, 1) := by decide +kernel
theorem dX3_isFault_35 : decode cX3_isFault 35 = .ok (.ireturn, 1) := by decide +kernel
set_option maxRecDepth 20000 in
theorem ggX3_faults_X3_isFault : GoodIn wsX3_faults wsX3_isFault := goodIn_r _ [6, 7, 8, 9, 10, 11, 5, 12, 1, 13, 14, 15, 16, 17, 18, 19, 20, 21] (by decide +kernel) (by decide +kernel)
set_option maxRecDepth 20000 in
theorem gX3_faults_X3_isFault : GoodIn wsX3_faults (wsV RX3 111 RX3 yX3_isFault wsX3_isFault) := goodIn_app (goodIn_of _ (by decide +kernel)) ggX3_faults_X3_isFault
theorem dX3_faults_0 : decode cX3_faults 0 = .ok (.iconst 0, 1) := by decide +kernel
theorem dX3_faults_1 : decode cX3_faults 1 = .ok (.istore_n 1, 1) := by decide +kernel
theorem dX3_faults_2 : decode cX3_faults 2 = .ok (.iconst 0, 1) := by decide +kernel
theorem dX3_faults_3 : decode cX3_faults 3 = .ok (.istore_n 2, 1) := by decide +kernel
theorem dX3_faults_4 : decode cX3_faults 4 = .ok (.iload_n 2, 1) := by decide +kernel
theorem dX3_faults_5 : decode cX3_faults 5 = .ok (.aload_n 0, 1) := by decide +kernel
theorem dX3_faults_6 : decode cX3_faults 6 = .ok (.getfield 102, 3) := by decide +kernel
theorem dX3_faults_9 : decode cX3_faults 9 = .ok (.if_icmp .ge 25, 3) := by decide +kernel
theorem dX3_faults_12 : decode cX3_faults 12 = .ok (.iload_n 1, 1) := by decide +kernel
theorem dX3_faults_13 : decode cX3_faults 13 = .ok (.aload_n 0, 1) := by decide +kernel
theorem dX3_faults_14 : decode cX3_faults 14 = .ok (.iload_n 2, 1) := by decide +kernel
theorem dX3_faults_15 : decode cX3_faults 15 = .ok (.invokevirtual 111, 3) := by decide +kernel
theorem dX3_faults_18 : decode cX3_faults 18 = .ok (.ifCond .eq 7, 3) := by decide +kernel
theorem dX3_faults_21 : decode cX3_faults 21 = .ok (.iconst 1, 1) := by decide +kernel
theorem dX3_faults_22 : decode cX3_faults 22 = .ok (.goto 4, 3) := by decide +kernel
theorem dX3_faults_25 : decode cX3_faults 25 = .ok (.iconst 0, 1) := by decide +kernel
theorem dX3_faults_26 : decode cX3_faults 26 = .ok (.iadd, 1) := by decide +kernel
theorem dX3_faults_27 : decode cX3_faults 27 = .ok (.istore_n 1, 1) := by decide +kernel
theorem dX3_faults_28 : decode cX3_faults 28 = .ok (.iinc 2 1, 3) := by decide +kernel
theorem dX3_faults_31 : decode cX3_faults 31 = .ok (.goto (-27), 3) := by decide +kernel
theorem dX3_faults_34 : decode cX3_faults 34 = .ok (.iload_n 1, 1) := by decide +kernel
theorem dX3_faults_35 : decode cX3_faults 35 = .ok (.ireturn, 1) := by decide +kernel
set_option maxRecDepth 20000 in
theorem ggX3_fault_X3_isPost : GoodIn wsX3_fault wsX3_isPost := goodIn_r _ [6, 1, 7, 8, 5, 9, 20, 21, 22, 23, 24, 25, 26, 27, 28] (by decide +kernel) (by decide +kernel)
set_option maxRecDepth 20000 in
theorem gX3_fault_X3_isPost : GoodIn wsX3_fault (wsV RX3 105 RX3 yX3_isPost wsX3_isPost) := goodIn_app (goodIn_of _ (by decide +kernel)) ggX3_fault_X3_isPost
set_option maxRecDepth 20000 in
theorem ggX3_fault_X3_place : GoodIn wsX3_fault wsX3_place := goodIn_r _ [13, 1, 20, 21, 22, 23, 24, 25, 26, 27, 28] (by decide +kernel) (by decide +kernel)
set_option maxRecDepth 20000 in
theorem gX3_fault_X3_place : GoodIn wsX3_fault (wsV RX3 108 RX3 yX3_place wsX3_place) := goodIn_app (goodIn_of _ (by decide +kernel)) ggX3_fault_X3_place
set_option maxRecDepth 20000 in
theorem ggX3_fault_X3_isFault : GoodIn wsX3_fault wsX3_isFault := goodIn_r _ [17, 18, 19, 10, 11, 12, 5, 13, 1, 20, 21, 22, 23, 24, 25, 26, 27, 28] (by decide +kernel) (by decide +kernel)
set_option maxRecDepth 20000 in
theorem gX3_fault_X3_isFault : GoodIn wsX3_fault (wsV RX3 111 RX3 yX3_isFault wsX3_isFault) := goodIn_app (goodIn_of _ (by decide +kernel)) ggX3_fault_X3_isFault
theorem dX3_fault_0 : decode cX3_fault 0 = .ok (.aload_n 0, 1) := by decide +kernel
theorem dX3_fault_1 : decode cX3_fault 1 = .ok (.iload_n 1, 1) := by decide +kernel
theorem dX3_fault_2 : decode cX3_fault 2 = .ok (.invokevirtual 105, 3) := by decide +kernel
theorem dX3_fault_5 : decode cX3_fault 5 = .ok (.ifCond .ne 5, 3) := by decide +kernel
theorem dX3_fault_8 : decode cX3_fault 8 = .ok (.iconst (-1), 1) := by decide +kernel
theorem dX3_fault_9 : decode cX3_fault 9 = .ok (.ireturn, 1) := by decide +kernel
theorem dX3_fault_10 : decode cX3_fault 10 = .ok (.iconst 0, 1) := by decide +kernel
theorem dX3_fault_11 : decode cX3_fault 11 = .ok (.istore_n 2, 1) := by decide +kernel
theorem dX3_fault_12 : decode cX3_fault 12 = .ok (.iload_n 2, 1) := by decide +kernel
theorem dX3_fault_13 : decode cX3_fault 13 = .ok (.aload_n 0, 1) := by decide +kernel
theorem dX3_fault_14 : decode cX3_fault 14 = .ok (.getfield 102, 3) := by decide +kernel
theorem dX3_fault_17 : decode cX3_fault 17 = .ok (.if_icmp .ge 31, 3) := by decide +kernel
theorem dX3_fault_20 : decode cX3_fault 20 = .ok (.aload_n 0, 1) := by decide +kernel
theorem dX3_fault_21 : decode cX3_fault 21 = .ok (.aload_n 0, 1) := by decide +kernel
theorem dX3_fault_22 : decode cX3_fault 22 = .ok (.iload_n 1, 1) := by decide +kernel
theorem dX3_fault_23 : decode cX3_fault 23 = .ok (.iload_n 2, 1) := by decide +kernel
theorem dX3_fault_24 : decode cX3_fault 24 = .ok (.iadd, 1) := by decide +kernel
theorem dX3_fault_25 : decode cX3_fault 25 = .ok (.invokevirtual 108, 3) := by decide +kernel
theorem dX3_fault_28 : decode cX3_fault 28 = .ok (.invokevirtual 111, 3) := by decide +kernel
theorem dX3_fault_31 : decode cX3_fault 31 = .ok (.ifCond .eq 11, 3) := by decide +kernel
theorem dX3_fault_34 : decode cX3_fault 34 = .ok (.aload_n 0, 1) := by decide +kernel
theorem dX3_fault_35 : decode cX3_fault 35 = .ok (.iload_n 1, 1) := by decide +kernel
theorem dX3_fault_36 : decode cX3_fault 36 = .ok (.iload_n 2, 1) := by decide +kernel
theorem dX3_fault_37 : decode cX3_fault 37 = .ok (.iadd, 1) := by decide +kernel
theorem dX3_fault_38 : decode cX3_fault 38 = .ok (.invokevirtual 108, 3) := by decide +kernel
theorem dX3_fault_41 : decode cX3_fault 41 = .ok (.ireturn, 1) := by decide +kernel
theorem dX3_fault_42 : decode cX3_fault 42 = .ok (.iinc 2 1, 3) := by decide +kernel
theorem dX3_fault_45 : decode cX3_fault 45 = .ok (.goto (-33), 3) := by decide +kernel
theorem dX3_fault_48 : decode cX3_fault 48 = .ok (.bipush (-9), 2) := by decide +kernel
theorem dX3_fault_50 : decode cX3_fault 50 = .ok (.ireturn, 1) := by decide +kernel
set_option maxRecDepth 20000 in
theorem ggX3_layBetween_X3_layRing : GoodIn wsX3_layBetween wsX3_layRing := goodIn_r _ [8, 9, 3, 10, 11, 12, 7, 13, 14, 15, 16, 17, 18, 19, 20, 21, 22, 23, 24, 29, 30, 31, 32, 33, 34, 35, 36, 37] (by decide +kernel) (by decide +kernel)
set_option maxRecDepth 20000 in
theorem gX3_layBetween_X3_layRing : GoodIn wsX3_layBetween (wsV RX3 81 RX3 yX3_layRing wsX3_layRing) := goodIn_app (goodIn_of _ (by decide +kernel)) ggX3_layBetween_X3_layRing
set_option maxRecDepth 20000 in
theorem ggX3_layBetween_X3_place : GoodIn wsX3_layBetween wsX3_place := goodIn_r _ [28, 1, 29, 30, 31, 32, 33, 34, 35, 36, 37] (by decide +kernel) (by decide +kernel)
set_option maxRecDepth 20000 in
theorem gX3_layBetween_X3_place : GoodIn wsX3_layBetween (wsV RX3 108 RX3 yX3_place wsX3_place) := goodIn_app (goodIn_of _ (by decide +kernel)) ggX3_layBetween_X3_place
set_option maxRecDepth 20000 in
theorem ggX3_layBetween_X3_next : GoodIn wsX3_layBetween wsX3_next := goodIn_r _ [24, 9, 15, 17, 18, 19, 7, 20, 14, 29, 30, 31, 32, 33, 34, 35, 36, 37] (by decide +kernel) (by decide +kernel)
set_option maxRecDepth 20000 in
theorem gX3_layBetween_X3_next : GoodIn wsX3_layBetween (wsV RX3 77 RX3 yX3_next wsX3_next) := goodIn_app (goodIn_of _ (by decide +kernel)) ggX3_layBetween_X3_next
theorem dX3_layBetween_0 : decode cX3_layBetween 0 = .ok (.iconst 2, 1) := by decide +kernel
theorem dX3_layBetween_1 : decode cX3_layBetween 1 = .ok (.iload_n 2, 1) := by decide +kernel
theorem dX3_layBetween_2 : decode cX3_layBetween 2 = .ok (.imul, 1) := by decide +kernel
theorem dX3_layBetween_3 : decode cX3_layBetween 3 = .ok (.iconst 1, 1) := by decide +kernel
theorem dX3_layBetween_4 : decode cX3_layBetween 4 = .ok (.iadd, 1) := by decide +kernel
theorem dX3_layBetween_5 : decode cX3_layBetween 5 = .ok (.istore_n 3, 1) := by decide +kernel
theorem dX3_layBetween_6 : decode cX3_layBetween 6 = .ok (.iload_n 3, 1) := by decide +kernel
theorem dX3_layBetween_7 : decode cX3_layBetween 7 = .ok (.aload_n 0, 1) := by decide +kernel
theorem dX3_layBetween_8 : decode cX3_layBetween 8 = .ok (.getfield 102, 3) := by decide +kernel
theorem dX3_layBetween_11 : decode cX3_layBetween 11 = .ok (.if_icmp .ne 9, 3) := by decide +kernel
theorem dX3_layBetween_14 : decode cX3_layBetween 14 = .ok (.aload_n 0, 1) := by decide +kernel
theorem dX3_layBetween_15 : decode cX3_layBetween 15 = .ok (.iload_n 3, 1) := by decide +kernel
theorem dX3_layBetween_16 : decode cX3_layBetween 16 = .ok (.invokevirtual 81, 3) := by decide +kernel
theorem dX3_layBetween_19 : decode cX3_layBetween 19 = .ok (.ireturn, 1) := by decide +kernel
theorem dX3_layBetween_20 : decode cX3_layBetween 20 = .ok (.aload_n 0, 1) := by decide +kernel
theorem dX3_layBetween_21 : decode cX3_layBetween 21 = .ok (.getfield 27, 3) := by decide +kernel
theorem dX3_layBetween_24 : decode cX3_layBetween 24 = .ok (.aload_n 0, 1) := by decide +kernel
theorem dX3_layBetween_25 : decode cX3_layBetween 25 = .ok (.iload_n 1, 1) := by decide +kernel
theorem dX3_layBetween_26 : decode cX3_layBetween 26 = .ok (.iload_n 2, 1) := by decide +kernel
theorem dX3_layBetween_27 : decode cX3_layBetween 27 = .ok (.isub, 1) := by decide +kernel
theorem dX3_layBetween_28 : decode cX3_layBetween 28 = .ok (.iconst 1, 1) := by decide +kernel
theorem dX3_layBetween_29 : decode cX3_layBetween 29 = .ok (.isub, 1) := by decide +kernel
theorem dX3_layBetween_30 : decode cX3_layBetween 30 = .ok (.invokevirtual 108, 3) := by decide +kernel
theorem dX3_layBetween_33 : decode cX3_layBetween 33 = .ok (.iaload, 1) := by decide +kernel
theorem dX3_layBetween_34 : decode cX3_layBetween 34 = .ok (.istore 4, 2) := by decide +kernel
theorem dX3_layBetween_36 : decode cX3_layBetween 36 = .ok (.aload_n 0, 1) := by decide +kernel
theorem dX3_layBetween_37 : decode cX3_layBetween 37 = .ok (.getfield 27, 3) := by decide +kernel
theorem dX3_layBetween_40 : decode cX3_layBetween 40 = .ok (.aload_n 0, 1) := by decide +kernel
theorem dX3_layBetween_41 : decode cX3_layBetween 41 = .ok (.iload_n 1, 1) := by decide +kernel
theorem dX3_layBetween_42 : decode cX3_layBetween 42 = .ok (.iload_n 2, 1) := by decide +kernel
theorem dX3_layBetween_43 : decode cX3_layBetween 43 = .ok (.iadd, 1) := by decide +kernel
theorem dX3_layBetween_44 : decode cX3_layBetween 44 = .ok (.iconst 1, 1) := by decide +kernel
theorem dX3_layBetween_45 : decode cX3_layBetween 45 = .ok (.iadd, 1) := by decide +kernel
theorem dX3_layBetween_46 : decode cX3_layBetween 46 = .ok (.invokevirtual 108, 3) := by decide +kernel
theorem dX3_layBetween_49 : decode cX3_layBetween 49 = .ok (.iaload, 1) := by decide +kernel
theorem dX3_layBetween_50 : decode cX3_layBetween 50 = .ok (.istore 5, 2) := by decide +kernel
theorem dX3_layBetween_52 : decode cX3_layBetween 52 = .ok (.iconst 0, 1) := by decide +kernel
theorem dX3_layBetween_53 : decode cX3_layBetween 53 = .ok (.istore 6, 2) := by decide +kernel
theorem dX3_layBetween_55 : decode cX3_layBetween 55 = .ok (.iload 6, 2) := by decide +kernel
theorem dX3_layBetween_57 : decode cX3_layBetween 57 = .ok (.iload_n 3, 1) := by decide +kernel
theorem dX3_layBetween_58 : decode cX3_layBetween 58 = .ok (.if_icmp .ge 58, 3) := by decide +kernel
theorem dX3_layBetween_61 : decode cX3_layBetween 61 = .ok (.aload_n 0, 1) := by decide +kernel
theorem dX3_layBetween_62 : decode cX3_layBetween 62 = .ok (.iload 6, 2) := by decide +kernel
theorem dX3_layBetween_64 : decode cX3_layBetween 64 = .ok (.ifCond .ne 8, 3) := by decide +kernel
theorem dX3_layBetween_67 : decode cX3_layBetween 67 = .ok (.iload 4, 2) := by decide +kernel
theorem dX3_layBetween_69 : decode cX3_layBetween 69 = .ok (.goto 12, 3) := by decide +kernel
theorem dX3_layBetween_72 : decode cX3_layBetween 72 = .ok (.aload_n 0, 1) := by decide +kernel
theorem dX3_layBetween_73 : decode cX3_layBetween 73 = .ok (.getfield 23, 3) := by decide +kernel
theorem dX3_layBetween_76 : decode cX3_layBetween 76 = .ok (.iload 6, 2) := by decide +kernel
theorem dX3_layBetween_78 : decode cX3_layBetween 78 = .ok (.iconst 1, 1) := by decide +kernel
theorem dX3_layBetween_79 : decode cX3_layBetween 79 = .ok (.isub, 1) := by decide +kernel
theorem dX3_layBetween_80 : decode cX3_layBetween 80 = .ok (.iaload, 1) := by decide +kernel
theorem dX3_layBetween_81 : decode cX3_layBetween 81 = .ok (.iload_n 3, 1) := by decide +kernel
theorem dX3_layBetween_82 : decode cX3_layBetween 82 = .ok (.iload 6, 2) := by decide +kernel
theorem dX3_layBetween_84 : decode cX3_layBetween 84 = .ok (.isub, 1) := by decide +kernel
theorem dX3_layBetween_85 : decode cX3_layBetween 85 = .ok (.iload 5, 2) := by decide +kernel
theorem dX3_layBetween_87 : decode cX3_layBetween 87 = .ok (.invokevirtual 77, 3) := by decide +kernel
theorem dX3_layBetween_90 : decode cX3_layBetween 90 = .ok (.istore 7, 2) := by decide +kernel
theorem dX3_layBetween_92 : decode cX3_layBetween 92 = .ok (.iload 7, 2) := by decide +kernel
theorem dX3_layBetween_94 : decode cX3_layBetween 94 = .ok (.bipush (-9), 2) := by decide +kernel
theorem dX3_layBetween_96 : decode cX3_layBetween 96 = .ok (.if_icmp .ne 5, 3) := by decide +kernel
theorem dX3_layBetween_99 : decode cX3_layBetween 99 = .ok (.iconst 0, 1) := by decide +kernel
theorem dX3_layBetween_100 : decode cX3_layBetween 100 = .ok (.ireturn, 1) := by decide +kernel
theorem dX3_layBetween_101 : decode cX3_layBetween 101 = .ok (.aload_n 0, 1) := by decide +kernel
theorem dX3_layBetween_102 : decode cX3_layBetween 102 = .ok (.getfield 23, 3) := by decide +kernel
theorem dX3_layBetween_105 : decode cX3_layBetween 105 = .ok (.iload 6, 2) := by decide +kernel
theorem dX3_layBetween_107 : decode cX3_layBetween 107 = .ok (.iload 7, 2) := by decide +kernel
theorem dX3_layBetween_109 : decode cX3_layBetween 109 = .ok (.iastore, 1) := by decide +kernel
theorem dX3_layBetween_110 : decode cX3_layBetween 110 = .ok (.iinc 6 1, 3) := by decide +kernel
theorem dX3_layBetween_113 : decode cX3_layBetween 113 = .ok (.goto (-58), 3) := by decide +kernel
theorem dX3_layBetween_116 : decode cX3_layBetween 116 = .ok (.iconst 1, 1) := by decide +kernel
theorem dX3_layBetween_117 : decode cX3_layBetween 117 = .ok (.ireturn, 1) := by decide +kernel
end
section
set_option maxRecDepth 20000 in
theorem ggX3_mend_X3_isPost : GoodIn wsX3_mend wsX3_isPost := goodIn_r _ [8, 1, 9, 10, 7, 11, 40, 41, 42, 43, 44, 45, 46, 47, 48] (by decide +kernel) (by decide +kernel)
set_option maxRecDepth 20000 in
theorem gX3_mend_X3_isPost : GoodIn wsX3_mend (wsV RX3 105 RX3 yX3_isPost wsX3_isPost) := goodIn_app (goodIn_of _ (by decide +kernel)) ggX3_mend_X3_isPost
set_option maxRecDepth 20000 in
theorem ggX3_mend_X3_layLeads : GoodIn wsX3_mend wsX3_layLeads := goodIn_r _ [15, 16, 17, 18, 19, 40, 41, 42, 43, 44, 45, 46, 47, 48] (by decide +kernel) (by decide +kernel)
set_option maxRecDepth 20000 in
theorem gX3_mend_X3_layLeads : GoodIn wsX3_mend (wsV RX3 74 RX3 yX3_layLeads wsX3_layLeads) := goodIn_app (goodIn_of _ (by decide +kernel)) ggX3_mend_X3_layLeads
set_option maxRecDepth 20000 in
theorem ggX3_mend_X3_layBetween : GoodIn wsX3_mend wsX3_layBetween := goodIn_r _ [23, 1, 2, 3, 24, 25, 26, 7, 27, 17, 12, 13, 14, 15, 16, 18, 19, 28, 29, 30, 31, 32, 33, 34, 35, 36, 37, 38, 39, 40, 41, 42, 43, 44, 45, 46, 47, 48] (by decide +kernel) (by decide +kernel)
set_option maxRecDepth 20000 in
theorem gX3_mend_X3_layBetween : GoodIn wsX3_mend (wsV RX3 114 RX3 yX3_layBetween wsX3_layBetween) := goodIn_app (goodIn_of _ (by decide +kernel)) ggX3_mend_X3_layBetween
set_option maxRecDepth 20000 in
theorem ggX3_mend_X3_place : GoodIn wsX3_mend wsX3_place := goodIn_r _ [39, 1, 40, 41, 42, 43, 44, 45, 46, 47, 48] (by decide +kernel) (by decide +kernel)
set_option maxRecDepth 20000 in
theorem gX3_mend_X3_place : GoodIn wsX3_mend (wsV RX3 108 RX3 yX3_place wsX3_place) := goodIn_app (goodIn_of _ (by decide +kernel)) ggX3_mend_X3_place
theorem dX3_mend_0 : decode cX3_mend 0 = .ok (.aload_n 0, 1) := by decide +kernel
theorem dX3_mend_1 : decode cX3_mend 1 = .ok (.iload_n 1, 1) := by decide +kernel
theorem dX3_mend_2 : decode cX3_mend 2 = .ok (.invokevirtual 105, 3) := by decide +kernel
theorem dX3_mend_5 : decode cX3_mend 5 = .ok (.ifCond .ne 5, 3) := by decide +kernel
theorem dX3_mend_8 : decode cX3_mend 8 = .ok (.iconst (-1), 1) := by decide +kernel
theorem dX3_mend_9 : decode cX3_mend 9 = .ok (.ireturn, 1) := by decide +kernel
theorem dX3_mend_10 : decode cX3_mend 10 = .ok (.aload_n 0, 1) := by decide +kernel
theorem dX3_mend_11 : decode cX3_mend 11 = .ok (.invokevirtual 74, 3) := by decide +kernel
theorem dX3_mend_14 : decode cX3_mend 14 = .ok (.iconst 0, 1) := by decide +kernel
theorem dX3_mend_15 : decode cX3_mend 15 = .ok (.istore_n 2, 1) := by decide +kernel
theorem dX3_mend_16 : decode cX3_mend 16 = .ok (.iconst 2, 1) := by decide +kernel
theorem dX3_mend_17 : decode cX3_mend 17 = .ok (.iload_n 2, 1) := by decide +kernel
theorem dX3_mend_18 : decode cX3_mend 18 = .ok (.imul, 1) := by decide +kernel
theorem dX3_mend_19 : decode cX3_mend 19 = .ok (.iconst 1, 1) := by decide +kernel
theorem dX3_mend_20 : decode cX3_mend 20 = .ok (.iadd, 1) := by decide +kernel
theorem dX3_mend_21 : decode cX3_mend 21 = .ok (.aload_n 0, 1) := by decide +kernel
theorem dX3_mend_22 : decode cX3_mend 22 = .ok (.getfield 102, 3) := by decide +kernel
theorem dX3_mend_25 : decode cX3_mend 25 = .ok (.if_icmp .gt 55, 3) := by decide +kernel
theorem dX3_mend_28 : decode cX3_mend 28 = .ok (.aload_n 0, 1) := by decide +kernel
theorem dX3_mend_29 : decode cX3_mend 29 = .ok (.iload_n 1, 1) := by decide +kernel
theorem dX3_mend_30 : decode cX3_mend 30 = .ok (.iload_n 2, 1) := by decide +kernel
theorem dX3_mend_31 : decode cX3_mend 31 = .ok (.invokevirtual 114, 3) := by decide +kernel
theorem dX3_mend_34 : decode cX3_mend 34 = .ok (.ifCond .eq 40, 3) := by decide +kernel
theorem dX3_mend_37 : decode cX3_mend 37 = .ok (.iconst 0, 1) := by decide +kernel
theorem dX3_mend_38 : decode cX3_mend 38 = .ok (.istore_n 3, 1) := by decide +kernel
theorem dX3_mend_39 : decode cX3_mend 39 = .ok (.iload_n 3, 1) := by decide +kernel
theorem dX3_mend_40 : decode cX3_mend 40 = .ok (.iconst 2, 1) := by decide +kernel
theorem dX3_mend_41 : decode cX3_mend 41 = .ok (.iload_n 2, 1) := by decide +kernel
theorem dX3_mend_42 : decode cX3_mend 42 = .ok (.imul, 1) := by decide +kernel
theorem dX3_mend_43 : decode cX3_mend 43 = .ok (.if_icmp .gt 29, 3) := by decide +kernel
theorem dX3_mend_46 : decode cX3_mend 46 = .ok (.aload_n 0, 1) := by decide +kernel
theorem dX3_mend_47 : decode cX3_mend 47 = .ok (.getfield 27, 3) := by decide +kernel
theorem dX3_mend_50 : decode cX3_mend 50 = .ok (.aload_n 0, 1) := by decide +kernel
theorem dX3_mend_51 : decode cX3_mend 51 = .ok (.iload_n 1, 1) := by decide +kernel
theorem dX3_mend_52 : decode cX3_mend 52 = .ok (.iload_n 2, 1) := by decide +kernel
theorem dX3_mend_53 : decode cX3_mend 53 = .ok (.isub, 1) := by decide +kernel
theorem dX3_mend_54 : decode cX3_mend 54 = .ok (.iload_n 3, 1) := by decide +kernel
theorem dX3_mend_55 : decode cX3_mend 55 = .ok (.iadd, 1) := by decide +kernel
theorem dX3_mend_56 : decode cX3_mend 56 = .ok (.invokevirtual 108, 3) := by decide +kernel
theorem dX3_mend_59 : decode cX3_mend 59 = .ok (.aload_n 0, 1) := by decide +kernel
theorem dX3_mend_60 : decode cX3_mend 60 = .ok (.getfield 23, 3) := by decide +kernel
theorem dX3_mend_63 : decode cX3_mend 63 = .ok (.iload_n 3, 1) := by decide +kernel
theorem dX3_mend_64 : decode cX3_mend 64 = .ok (.iaload, 1) := by decide +kernel
theorem dX3_mend_65 : decode cX3_mend 65 = .ok (.iastore, 1) := by decide +kernel
theorem dX3_mend_66 : decode cX3_mend 66 = .ok (.iinc 3 1, 3) := by decide +kernel
theorem dX3_mend_69 : decode cX3_mend 69 = .ok (.goto (-30), 3) := by decide +kernel
theorem dX3_mend_72 : decode cX3_mend 72 = .ok (.iload_n 2, 1) := by decide +kernel
theorem dX3_mend_73 : decode cX3_mend 73 = .ok (.ireturn, 1) := by decide +kernel
theorem dX3_mend_74 : decode cX3_mend 74 = .ok (.iinc 2 1, 3) := by decide +kernel
theorem dX3_mend_77 : decode cX3_mend 77 = .ok (.goto (-61), 3) := by decide +kernel
theorem dX3_mend_80 : decode cX3_mend 80 = .ok (.bipush (-9), 2) := by decide +kernel
theorem dX3_mend_82 : decode cX3_mend 82 = .ok (.ireturn, 1) := by decide +kernel
set_option maxRecDepth 20000 in
theorem ggX3_fresh_X3_layRing : GoodIn wsX3_fresh wsX3_layRing := goodIn_r _ [8, 9, 3, 10, 11, 12, 7, 13, 14, 15, 16, 17, 18, 19, 20, 21, 22, 23, 24, 25, 26, 27, 28, 29, 30, 31, 32, 33] (by decide +kernel) (by decide +kernel)
set_option maxRecDepth 20000 in
theorem gX3_fresh_X3_layRing : GoodIn wsX3_fresh (wsV RX3 81 RX3 yX3_layRing wsX3_layRing) := goodIn_app (goodIn_of _ (by decide +kernel)) ggX3_fresh_X3_layRing
theorem dX3_fresh_0 : decode cX3_fresh 0 = .ok (.aload_n 0, 1) := by decide +kernel
theorem dX3_fresh_1 : decode cX3_fresh 1 = .ok (.aload_n 0, 1) := by decide +kernel
theorem dX3_fresh_2 : decode cX3_fresh 2 = .ok (.getfield 102, 3) := by decide +kernel
theorem dX3_fresh_5 : decode cX3_fresh 5 = .ok (.invokevirtual 81, 3) := by decide +kernel
theorem dX3_fresh_8 : decode cX3_fresh 8 = .ok (.ifCond .ne 6, 3) := by decide +kernel
theorem dX3_fresh_11 : decode cX3_fresh 11 = .ok (.bipush (-9), 2) := by decide +kernel
theorem dX3_fresh_13 : decode cX3_fresh 13 = .ok (.ireturn, 1) := by decide +kernel
theorem dX3_fresh_14 : decode cX3_fresh 14 = .ok (.iconst 0, 1) := by decide +kernel
theorem dX3_fresh_15 : decode cX3_fresh 15 = .ok (.istore_n 1, 1) := by decide +kernel
theorem dX3_fresh_16 : decode cX3_fresh 16 = .ok (.iload_n 1, 1) := by decide +kernel
theorem dX3_fresh_17 : decode cX3_fresh 17 = .ok (.aload_n 0, 1) := by decide +kernel
theorem dX3_fresh_18 : decode cX3_fresh 18 = .ok (.getfield 102, 3) := by decide +kernel
theorem dX3_fresh_21 : decode cX3_fresh 21 = .ok (.if_icmp .ge 21, 3) := by decide +kernel
theorem dX3_fresh_24 : decode cX3_fresh 24 = .ok (.aload_n 0, 1) := by decide +kernel
theorem dX3_fresh_25 : decode cX3_fresh 25 = .ok (.getfield 27, 3) := by decide +kernel
theorem dX3_fresh_28 : decode cX3_fresh 28 = .ok (.iload_n 1, 1) := by decide +kernel
theorem dX3_fresh_29 : decode cX3_fresh 29 = .ok (.aload_n 0, 1) := by decide +kernel
theorem dX3_fresh_30 : decode cX3_fresh 30 = .ok (.getfield 23, 3) := by decide +kernel
theorem dX3_fresh_33 : decode cX3_fresh 33 = .ok (.iload_n 1, 1) := by decide +kernel
theorem dX3_fresh_34 : decode cX3_fresh 34 = .ok (.iaload, 1) := by decide +kernel
theorem dX3_fresh_35 : decode cX3_fresh 35 = .ok (.iastore, 1) := by decide +kernel
theorem dX3_fresh_36 : decode cX3_fresh 36 = .ok (.iinc 1 1, 3) := by decide +kernel
theorem dX3_fresh_39 : decode cX3_fresh 39 = .ok (.goto (-23), 3) := by decide +kernel
theorem dX3_fresh_42 : decode cX3_fresh 42 = .ok (.iconst 1, 1) := by decide +kernel
theorem dX3_fresh_43 : decode cX3_fresh 43 = .ok (.ireturn, 1) := by decide +kernel
set_option maxRecDepth 20000 in
theorem ggX3_number_X3_isPost : GoodIn wsX3_number wsX3_isPost := goodIn_r _ [7, 8, 9, 10, 6, 11, 12, 13, 14, 15, 16, 17, 18, 19, 20] (by decide +kernel) (by decide +kernel)
set_option maxRecDepth 20000 in
theorem gX3_number_X3_isPost : GoodIn wsX3_number (wsV RX3 105 RX3 yX3_isPost wsX3_isPost) := goodIn_app (goodIn_of _ (by decide +kernel)) ggX3_number_X3_isPost
set_option maxRecDepth 20000 in
theorem ggX3_number_X3_in : GoodIn wsX3_number wsX3_in := goodIn_r _ [11] (by decide +kernel) (by decide +kernel)
set_option maxRecDepth 20000 in
theorem gX3_number_X3_in : GoodIn wsX3_number (va_wsS RX3 44 yX3_in wsX3_in) := goodIn_app (goodIn_of _ (by decide +kernel)) ggX3_number_X3_in
theorem dX3_number_0 : decode cX3_number 0 = .ok (.aload_n 0, 1) := by decide +kernel
theorem dX3_number_1 : decode cX3_number 1 = .ok (.iload_n 1, 1) := by decide +kernel
theorem dX3_number_2 : decode cX3_number 2 = .ok (.invokevirtual 105, 3) := by decide +kernel
theorem dX3_number_5 : decode cX3_number 5 = .ok (.ifCond .ne 5, 3) := by decide +kernel
theorem dX3_number_8 : decode cX3_number 8 = .ok (.iconst (-1), 1) := by decide +kernel
theorem dX3_number_9 : decode cX3_number 9 = .ok (.ireturn, 1) := by decide +kernel
theorem dX3_number_10 : decode cX3_number 10 = .ok (.iload_n 2, 1) := by decide +kernel
theorem dX3_number_11 : decode cX3_number 11 = .ok (.iconst 0, 1) := by decide +kernel
theorem dX3_number_12 : decode cX3_number 12 = .ok (.ldc 117, 2) := by decide +kernel
theorem dX3_number_14 : decode cX3_number 14 = .ok (.invokestatic 44, 3) := by decide +kernel
theorem dX3_number_17 : decode cX3_number 17 = .ok (.ifCond .ne 6, 3) := by decide +kernel
theorem dX3_number_20 : decode cX3_number 20 = .ok (.bipush (-2), 2) := by decide +kernel
theorem dX3_number_22 : decode cX3_number 22 = .ok (.ireturn, 1) := by decide +kernel
theorem dX3_number_23 : decode cX3_number 23 = .ok (.aload_n 0, 1) := by decide +kernel
theorem dX3_number_24 : decode cX3_number 24 = .ok (.getfield 30, 3) := by decide +kernel
theorem dX3_number_27 : decode cX3_number 27 = .ok (.iload_n 1, 1) := by decide +kernel
theorem dX3_number_28 : decode cX3_number 28 = .ok (.iaload, 1) := by decide +kernel
theorem dX3_number_29 : decode cX3_number 29 = .ok (.istore_n 3, 1) := by decide +kernel
theorem dX3_number_30 : decode cX3_number 30 = .ok (.aload_n 0, 1) := by decide +kernel
theorem dX3_number_31 : decode cX3_number 31 = .ok (.getfield 30, 3) := by decide +kernel
theorem dX3_number_34 : decode cX3_number 34 = .ok (.iload_n 1, 1) := by decide +kernel
theorem dX3_number_35 : decode cX3_number 35 = .ok (.iload_n 2, 1) := by decide +kernel
theorem dX3_number_36 : decode cX3_number 36 = .ok (.iastore, 1) := by decide +kernel
theorem dX3_number_37 : decode cX3_number 37 = .ok (.iload_n 3, 1) := by decide +kernel
theorem dX3_number_38 : decode cX3_number 38 = .ok (.ireturn, 1) := by decide +kernel
set_option maxRecDepth 20000 in
theorem ggX3_told_X3_isPost : GoodIn wsX3_told wsX3_isPost := goodIn_r _ [6, 7, 8, 9, 5, 10, 11, 12, 13, 14, 15, 16, 17, 18, 19] (by decide +kernel) (by decide +kernel)
set_option maxRecDepth 20000 in
theorem gX3_told_X3_isPost : GoodIn wsX3_told (wsV RX3 105 RX3 yX3_isPost wsX3_isPost) := goodIn_app (goodIn_of _ (by decide +kernel)) ggX3_told_X3_isPost
theorem dX3_told_0 : decode cX3_told 0 = .ok (.aload_n 0, 1) := by decide +kernel
theorem dX3_told_1 : decode cX3_told 1 = .ok (.iload_n 1, 1) := by decide +kernel
theorem dX3_told_2 : decode cX3_told 2 = .ok (.invokevirtual 105, 3) := by decide +kernel
theorem dX3_told_5 : decode cX3_told 5 = .ok (.ifCond .eq 12, 3) := by decide +kernel
theorem dX3_told_8 : decode cX3_told 8 = .ok (.aload_n 0, 1) := by decide +kernel
theorem dX3_told_9 : decode cX3_told 9 = .ok (.getfield 30, 3) := by decide +kernel
theorem dX3_told_12 : decode cX3_told 12 = .ok (.iload_n 1, 1) := by decide +kernel
theorem dX3_told_13 : decode cX3_told 13 = .ok (.iaload, 1) := by decide +kernel
theorem dX3_told_14 : decode cX3_told 14 = .ok (.goto 4, 3) := by decide +kernel
theorem dX3_told_17 : decode cX3_told 17 = .ok (.iconst (-1), 1) := by decide +kernel
theorem dX3_told_18 : decode cX3_told 18 = .ok (.ireturn, 1) := by decide +kernel
set_option maxRecDepth 20000 in
theorem ggX3_likes_X3_place : GoodIn wsX3_likes wsX3_place := goodIn_r _ [7, 1, 8, 9, 10, 11, 12, 13, 14, 15, 16] (by decide +kernel) (by decide +kernel)
set_option maxRecDepth 20000 in
theorem gX3_likes_X3_place : GoodIn wsX3_likes (wsV RX3 108 RX3 yX3_place wsX3_place) := goodIn_app (goodIn_of _ (by decide +kernel)) ggX3_likes_X3_place
theorem dX3_likes_0 : decode cX3_likes 0 = .ok (.iconst 0, 1) := by decide +kernel
theorem dX3_likes_1 : decode cX3_likes 1 = .ok (.istore_n 1, 1) := by decide +kernel
theorem dX3_likes_2 : decode cX3_likes 2 = .ok (.iconst 0, 1) := by decide +kernel
theorem dX3_likes_3 : decode cX3_likes 3 = .ok (.istore_n 2, 1) := by decide +kernel
theorem dX3_likes_4 : decode cX3_likes 4 = .ok (.iload_n 2, 1) := by decide +kernel
theorem dX3_likes_5 : decode cX3_likes 5 = .ok (.aload_n 0, 1) := by decide +kernel
theorem dX3_likes_6 : decode cX3_likes 6 = .ok (.getfield 102, 3) := by decide +kernel
theorem dX3_likes_9 : decode cX3_likes 9 = .ok (.if_icmp .ge 38, 3) := by decide +kernel
theorem dX3_likes_12 : decode cX3_likes 12 = .ok (.iload_n 1, 1) := by decide +kernel
theorem dX3_likes_13 : decode cX3_likes 13 = .ok (.aload_n 0, 1) := by decide +kernel
theorem dX3_likes_14 : decode cX3_likes 14 = .ok (.getfield 30, 3) := by decide +kernel
theorem dX3_likes_17 : decode cX3_likes 17 = .ok (.iload_n 2, 1) := by decide +kernel
theorem dX3_likes_18 : decode cX3_likes 18 = .ok (.iaload, 1) := by decide +kernel
theorem dX3_likes_19 : decode cX3_likes 19 = .ok (.aload_n 0, 1) := by decide +kernel
theorem dX3_likes_20 : decode cX3_likes 20 = .ok (.getfield 30, 3) := by decide +kernel
theorem dX3_likes_23 : decode cX3_likes 23 = .ok (.aload_n 0, 1) := by decide +kernel
theorem dX3_likes_24 : decode cX3_likes 24 = .ok (.iload_n 2, 1) := by decide +kernel
theorem dX3_likes_25 : decode cX3_likes 25 = .ok (.iconst 1, 1) := by decide +kernel
theorem dX3_likes_26 : decode cX3_likes 26 = .ok (.iadd, 1) := by decide +kernel
theorem dX3_likes_27 : decode cX3_likes 27 = .ok (.invokevirtual 108, 3) := by decide +kernel
theorem dX3_likes_30 : decode cX3_likes 30 = .ok (.iaload, 1) := by decide +kernel
theorem dX3_likes_31 : decode cX3_likes 31 = .ok (.if_icmp .ne 7, 3) := by decide +kernel
theorem dX3_likes_34 : decode cX3_likes 34 = .ok (.iconst 1, 1) := by decide +kernel
theorem dX3_likes_35 : decode cX3_likes 35 = .ok (.goto 4, 3) := by decide +kernel
theorem dX3_likes_38 : decode cX3_likes 38 = .ok (.iconst 0, 1) := by decide +kernel
theorem dX3_likes_39 : decode cX3_likes 39 = .ok (.iadd, 1) := by decide +kernel
theorem dX3_likes_40 : decode cX3_likes 40 = .ok (.istore_n 1, 1) := by decide +kernel
theorem dX3_likes_41 : decode cX3_likes 41 = .ok (.iinc 2 1, 3) := by decide +kernel
theorem dX3_likes_44 : decode cX3_likes 44 = .ok (.goto (-40), 3) := by decide +kernel
theorem dX3_likes_47 : decode cX3_likes 47 = .ok (.iload_n 1, 1) := by decide +kernel
theorem dX3_likes_48 : decode cX3_likes 48 = .ok (.ireturn, 1) := by decide +kernel
theorem dX3_greatest_0 : decode cX3_greatest 0 = .ok (.iconst 0, 1) := by decide +kernel
theorem dX3_greatest_1 : decode cX3_greatest 1 = .ok (.istore_n 1, 1) := by decide +kernel
theorem dX3_greatest_2 : decode cX3_greatest 2 = .ok (.iconst 0, 1) := by decide +kernel
theorem dX3_greatest_3 : decode cX3_greatest 3 = .ok (.istore_n 2, 1) := by decide +kernel
theorem dX3_greatest_4 : decode cX3_greatest 4 = .ok (.iload_n 2, 1) := by decide +kernel
theorem dX3_greatest_5 : decode cX3_greatest 5 = .ok (.aload_n 0, 1) := by decide +kernel
theorem dX3_greatest_6 : decode cX3_greatest 6 = .ok (.getfield 102, 3) := by decide +kernel
theorem dX3_greatest_9 : decode cX3_greatest 9 = .ok (.if_icmp .ge 30, 3) := by decide +kernel
theorem dX3_greatest_12 : decode cX3_greatest 12 = .ok (.aload_n 0, 1) := by decide +kernel
theorem dX3_greatest_13 : decode cX3_greatest 13 = .ok (.getfield 30, 3) := by decide +kernel
theorem dX3_greatest_16 : decode cX3_greatest 16 = .ok (.iload_n 2, 1) := by decide +kernel
theorem dX3_greatest_17 : decode cX3_greatest 17 = .ok (.iaload, 1) := by decide +kernel
theorem dX3_greatest_18 : decode cX3_greatest 18 = .ok (.iload_n 1, 1) := by decide +kernel
theorem dX3_greatest_19 : decode cX3_greatest 19 = .ok (.if_icmp .le 12, 3) := by decide +kernel
theorem dX3_greatest_22 : decode cX3_greatest 22 = .ok (.aload_n 0, 1) := by decide +kernel
theorem dX3_greatest_23 : decode cX3_greatest 23 = .ok (.getfield 30, 3) := by decide +kernel
theorem dX3_greatest_26 : decode cX3_greatest 26 = .ok (.iload_n 2, 1) := by decide +kernel
theorem dX3_greatest_27 : decode cX3_greatest 27 = .ok (.iaload, 1) := by decide +kernel
theorem dX3_greatest_28 : decode cX3_greatest 28 = .ok (.goto 4, 3) := by decide +kernel
theorem dX3_greatest_31 : decode cX3_greatest 31 = .ok (.iload_n 1, 1) := by decide +kernel
theorem dX3_greatest_32 : decode cX3_greatest 32 = .ok (.istore_n 1, 1) := by decide +kernel
theorem dX3_greatest_33 : decode cX3_greatest 33 = .ok (.iinc 2 1, 3) := by decide +kernel
theorem dX3_greatest_36 : decode cX3_greatest 36 = .ok (.goto (-32), 3) := by decide +kernel
theorem dX3_greatest_39 : decode cX3_greatest 39 = .ok (.iload_n 1, 1) := by decide +kernel
theorem dX3_greatest_40 : decode cX3_greatest 40 = .ok (.ireturn, 1) := by decide +kernel
theorem dX3_lowest_0 : decode cX3_lowest 0 = .ok (.iconst 0, 1) := by decide +kernel
theorem dX3_lowest_1 : decode cX3_lowest 1 = .ok (.istore_n 2, 1) := by decide +kernel
theorem dX3_lowest_2 : decode cX3_lowest 2 = .ok (.iload_n 0, 1) := by decide +kernel
theorem dX3_lowest_3 : decode cX3_lowest 3 = .ok (.iload_n 2, 1) := by decide +kernel
theorem dX3_lowest_4 : decode cX3_lowest 4 = .ok (.ishr, 1) := by decide +kernel
theorem dX3_lowest_5 : decode cX3_lowest 5 = .ok (.iconst 1, 1) := by decide +kernel
theorem dX3_lowest_6 : decode cX3_lowest 6 = .ok (.iand, 1) := by decide +kernel
theorem dX3_lowest_7 : decode cX3_lowest 7 = .ok (.iload_n 1, 1) := by decide +kernel
theorem dX3_lowest_8 : decode cX3_lowest 8 = .ok (.iload_n 2, 1) := by decide +kernel
theorem dX3_lowest_9 : decode cX3_lowest 9 = .ok (.ishr, 1) := by decide +kernel
theorem dX3_lowest_10 : decode cX3_lowest 10 = .ok (.iconst 1, 1) := by decide +kernel
theorem dX3_lowest_11 : decode cX3_lowest 11 = .ok (.iand, 1) := by decide +kernel
theorem dX3_lowest_12 : decode cX3_lowest 12 = .ok (.if_icmp .ne 9, 3) := by decide +kernel
theorem dX3_lowest_15 : decode cX3_lowest 15 = .ok (.iinc 2 1, 3) := by decide +kernel
theorem dX3_lowest_18 : decode cX3_lowest 18 = .ok (.goto (-16), 3) := by decide +kernel
theorem dX3_lowest_21 : decode cX3_lowest 21 = .ok (.iconst 2, 1) := by decide +kernel
theorem dX3_lowest_22 : decode cX3_lowest 22 = .ok (.iload_n 2, 1) := by decide +kernel
theorem dX3_lowest_23 : decode cX3_lowest 23 = .ok (.imul, 1) := by decide +kernel
theorem dX3_lowest_24 : decode cX3_lowest 24 = .ok (.iload_n 0, 1) := by decide +kernel
theorem dX3_lowest_25 : decode cX3_lowest 25 = .ok (.iload_n 2, 1) := by decide +kernel
theorem dX3_lowest_26 : decode cX3_lowest 26 = .ok (.ishr, 1) := by decide +kernel
theorem dX3_lowest_27 : decode cX3_lowest 27 = .ok (.iconst 1, 1) := by decide +kernel
theorem dX3_lowest_28 : decode cX3_lowest 28 = .ok (.iand, 1) := by decide +kernel
theorem dX3_lowest_29 : decode cX3_lowest 29 = .ok (.iadd, 1) := by decide +kernel
theorem dX3_lowest_30 : decode cX3_lowest 30 = .ok (.ireturn, 1) := by decide +kernel
set_option maxRecDepth 20000 in
theorem ggX3_goRound_X3_place : GoodIn wsX3_goRound wsX3_place := goodIn_r _ [8, 1, 12, 13, 14, 15, 16, 17, 18, 19, 20] (by decide +kernel) (by decide +kernel)
set_option maxRecDepth 20000 in
theorem gX3_goRound_X3_place : GoodIn wsX3_goRound (wsV RX3 108 RX3 yX3_place wsX3_place) := goodIn_app (goodIn_of _ (by decide +kernel)) ggX3_goRound_X3_place
set_option maxRecDepth 20000 in
theorem ggX3_goRound_X3_lowest : GoodIn wsX3_goRound wsX3_lowest := goodIn_r _ [11] (by decide +kernel) (by decide +kernel)
set_option maxRecDepth 20000 in
theorem gX3_goRound_X3_lowest : GoodIn wsX3_goRound (va_wsS RX3 118 yX3_lowest wsX3_lowest) := goodIn_app (goodIn_of _ (by decide +kernel)) ggX3_goRound_X3_lowest
theorem dX3_goRound_0 : decode cX3_goRound 0 = .ok (.iconst 0, 1) := by decide +kernel
theorem dX3_goRound_1 : decode cX3_goRound 1 = .ok (.istore_n 1, 1) := by decide +kernel
theorem dX3_goRound_2 : decode cX3_goRound 2 = .ok (.iload_n 1, 1) := by decide +kernel
theorem dX3_goRound_3 : decode cX3_goRound 3 = .ok (.aload_n 0, 1) := by decide +kernel
theorem dX3_goRound_4 : decode cX3_goRound 4 = .ok (.getfield 102, 3) := by decide +kernel
theorem dX3_goRound_7 : decode cX3_goRound 7 = .ok (.if_icmp .ge 36, 3) := by decide +kernel
theorem dX3_goRound_10 : decode cX3_goRound 10 = .ok (.aload_n 0, 1) := by decide +kernel
theorem dX3_goRound_11 : decode cX3_goRound 11 = .ok (.getfield 23, 3) := by decide +kernel
theorem dX3_goRound_14 : decode cX3_goRound 14 = .ok (.iload_n 1, 1) := by decide +kernel
theorem dX3_goRound_15 : decode cX3_goRound 15 = .ok (.aload_n 0, 1) := by decide +kernel
theorem dX3_goRound_16 : decode cX3_goRound 16 = .ok (.getfield 30, 3) := by decide +kernel
theorem dX3_goRound_19 : decode cX3_goRound 19 = .ok (.iload_n 1, 1) := by decide +kernel
theorem dX3_goRound_20 : decode cX3_goRound 20 = .ok (.iaload, 1) := by decide +kernel
theorem dX3_goRound_21 : decode cX3_goRound 21 = .ok (.aload_n 0, 1) := by decide +kernel
theorem dX3_goRound_22 : decode cX3_goRound 22 = .ok (.getfield 30, 3) := by decide +kernel
theorem dX3_goRound_25 : decode cX3_goRound 25 = .ok (.aload_n 0, 1) := by decide +kernel
theorem dX3_goRound_26 : decode cX3_goRound 26 = .ok (.iload_n 1, 1) := by decide +kernel
theorem dX3_goRound_27 : decode cX3_goRound 27 = .ok (.iconst 1, 1) := by decide +kernel
theorem dX3_goRound_28 : decode cX3_goRound 28 = .ok (.iadd, 1) := by decide +kernel
theorem dX3_goRound_29 : decode cX3_goRound 29 = .ok (.invokevirtual 108, 3) := by decide +kernel
theorem dX3_goRound_32 : decode cX3_goRound 32 = .ok (.iaload, 1) := by decide +kernel
theorem dX3_goRound_33 : decode cX3_goRound 33 = .ok (.invokestatic 118, 3) := by decide +kernel
theorem dX3_goRound_36 : decode cX3_goRound 36 = .ok (.iastore, 1) := by decide +kernel
theorem dX3_goRound_37 : decode cX3_goRound 37 = .ok (.iinc 1 1, 3) := by decide +kernel
theorem dX3_goRound_40 : decode cX3_goRound 40 = .ok (.goto (-38), 3) := by decide +kernel
theorem dX3_goRound_43 : decode cX3_goRound 43 = .ok (.iconst 0, 1) := by decide +kernel
theorem dX3_goRound_44 : decode cX3_goRound 44 = .ok (.istore_n 1, 1) := by decide +kernel
theorem dX3_goRound_45 : decode cX3_goRound 45 = .ok (.iload_n 1, 1) := by decide +kernel
theorem dX3_goRound_46 : decode cX3_goRound 46 = .ok (.aload_n 0, 1) := by decide +kernel
theorem dX3_goRound_47 : decode cX3_goRound 47 = .ok (.getfield 102, 3) := by decide +kernel
theorem dX3_goRound_50 : decode cX3_goRound 50 = .ok (.if_icmp .ge 21, 3) := by decide +kernel
theorem dX3_goRound_53 : decode cX3_goRound 53 = .ok (.aload_n 0, 1) := by decide +kernel
theorem dX3_goRound_54 : decode cX3_goRound 54 = .ok (.getfield 30, 3) := by decide +kernel
theorem dX3_goRound_57 : decode cX3_goRound 57 = .ok (.iload_n 1, 1) := by decide +kernel
theorem dX3_goRound_58 : decode cX3_goRound 58 = .ok (.aload_n 0, 1) := by decide +kernel
theorem dX3_goRound_59 : decode cX3_goRound 59 = .ok (.getfield 23, 3) := by decide +kernel
theorem dX3_goRound_62 : decode cX3_goRound 62 = .ok (.iload_n 1, 1) := by decide +kernel
theorem dX3_goRound_63 : decode cX3_goRound 63 = .ok (.iaload, 1) := by decide +kernel
theorem dX3_goRound_64 : decode cX3_goRound 64 = .ok (.iastore, 1) := by decide +kernel
theorem dX3_goRound_65 : decode cX3_goRound 65 = .ok (.iinc 1 1, 3) := by decide +kernel
theorem dX3_goRound_68 : decode cX3_goRound 68 = .ok (.goto (-23), 3) := by decide +kernel
theorem dX3_goRound_71 : decode cX3_goRound 71 = .ok (.return_, 1) := by decide +kernel
set_option maxRecDepth 20000 in
theorem ggX3_round_X3_likes : GoodIn wsX3_round wsX3_likes := goodIn_r _ [5, 6, 7, 8, 9, 10, 4, 11, 24, 25, 26, 27, 28, 29, 30, 31, 32] (by decide +kernel) (by decide +kernel)
set_option maxRecDepth 20000 in
theorem gX3_round_X3_likes : GoodIn wsX3_round (wsV RX3 121 RX3 yX3_likes wsX3_likes) := goodIn_app (goodIn_of _ (by decide +kernel)) ggX3_round_X3_likes
set_option maxRecDepth 20000 in
theorem ggX3_round_X3_goRound : GoodIn wsX3_round wsX3_goRound := goodIn_r _ [15, 6, 16, 7, 8, 9, 10, 4, 11, 17, 18, 19, 24, 25, 26, 27, 28, 29, 30, 31, 32] (by decide +kernel) (by decide +kernel)
set_option maxRecDepth 20000 in
theorem gX3_round_X3_goRound : GoodIn wsX3_round (wsV RX3 125 RX3 yX3_goRound wsX3_goRound) := goodIn_app (goodIn_of _ (by decide +kernel)) ggX3_round_X3_goRound
set_option maxRecDepth 20000 in
theorem ggX3_round_X3_greatest : GoodIn wsX3_round wsX3_greatest := goodIn_r _ [23, 6, 7, 24, 25, 26, 27, 28, 29, 30, 31, 32] (by decide +kernel) (by decide +kernel)
set_option maxRecDepth 20000 in
theorem gX3_round_X3_greatest : GoodIn wsX3_round (wsV RX3 128 RX3 yX3_greatest wsX3_greatest) := goodIn_app (goodIn_of _ (by decide +kernel)) ggX3_round_X3_greatest
theorem dX3_round_0 : decode cX3_round 0 = .ok (.aload_n 0, 1) := by decide +kernel
theorem dX3_round_1 : decode cX3_round 1 = .ok (.invokevirtual 121, 3) := by decide +kernel
theorem dX3_round_4 : decode cX3_round 4 = .ok (.ifCond .le 6, 3) := by decide +kernel
theorem dX3_round_7 : decode cX3_round 7 = .ok (.bipush (-3), 2) := by decide +kernel
theorem dX3_round_9 : decode cX3_round 9 = .ok (.ireturn, 1) := by decide +kernel
theorem dX3_round_10 : decode cX3_round 10 = .ok (.aload_n 0, 1) := by decide +kernel
theorem dX3_round_11 : decode cX3_round 11 = .ok (.invokevirtual 125, 3) := by decide +kernel
theorem dX3_round_14 : decode cX3_round 14 = .ok (.aload_n 0, 1) := by decide +kernel
theorem dX3_round_15 : decode cX3_round 15 = .ok (.invokevirtual 128, 3) := by decide +kernel
theorem dX3_round_18 : decode cX3_round 18 = .ok (.ireturn, 1) := by decide +kernel
set_option maxRecDepth 20000 in
theorem ggX3_colours_X3_likes : GoodIn wsX3_colours wsX3_likes := goodIn_r _ [7, 1, 2, 8, 9, 10, 6, 11, 24, 25, 26, 27, 28, 29, 30, 31, 32] (by decide +kernel) (by decide +kernel)
set_option maxRecDepth 20000 in
theorem gX3_colours_X3_likes : GoodIn wsX3_colours (wsV RX3 121 RX3 yX3_likes wsX3_likes) := goodIn_app (goodIn_of _ (by decide +kernel)) ggX3_colours_X3_likes
set_option maxRecDepth 20000 in
theorem ggX3_colours_X3_greatest : GoodIn wsX3_colours wsX3_greatest := goodIn_r _ [15, 1, 2, 24, 25, 26, 27, 28, 29, 30, 31, 32] (by decide +kernel) (by decide +kernel)
set_option maxRecDepth 20000 in
theorem gX3_colours_X3_greatest : GoodIn wsX3_colours (wsV RX3 128 RX3 yX3_greatest wsX3_greatest) := goodIn_app (goodIn_of _ (by decide +kernel)) ggX3_colours_X3_greatest
set_option maxRecDepth 20000 in
theorem ggX3_colours_X3_goRound : GoodIn wsX3_colours wsX3_goRound := goodIn_r _ [19, 1, 20, 2, 8, 9, 10, 6, 11, 21, 22, 23, 24, 25, 26, 27, 28, 29, 30, 31, 32] (by decide +kernel) (by decide +kernel)
set_option maxRecDepth 20000 in
theorem gX3_colours_X3_goRound : GoodIn wsX3_colours (wsV RX3 125 RX3 yX3_goRound wsX3_goRound) := goodIn_app (goodIn_of _ (by decide +kernel)) ggX3_colours_X3_goRound
set_option maxRecDepth 20000 in
theorem ggX3_colours_X3_place : GoodIn wsX3_colours wsX3_place := goodIn_r _ [11, 1, 24, 25, 26, 27, 28, 29, 30, 31, 32] (by decide +kernel) (by decide +kernel)
set_option maxRecDepth 20000 in
theorem gX3_colours_X3_place : GoodIn wsX3_colours (wsV RX3 108 RX3 yX3_place wsX3_place) := goodIn_app (goodIn_of _ (by decide +kernel)) ggX3_colours_X3_place
theorem dX3_colours_0 : decode cX3_colours 0 = .ok (.aload_n 0, 1) := by decide +kernel
theorem dX3_colours_1 : decode cX3_colours 1 = .ok (.invokevirtual 121, 3) := by decide +kernel
theorem dX3_colours_4 : decode cX3_colours 4 = .ok (.ifCond .le 6, 3) := by decide +kernel
theorem dX3_colours_7 : decode cX3_colours 7 = .ok (.bipush (-3), 2) := by decide +kernel
theorem dX3_colours_9 : decode cX3_colours 9 = .ok (.ireturn, 1) := by decide +kernel
theorem dX3_colours_10 : decode cX3_colours 10 = .ok (.iconst 0, 1) := by decide +kernel
theorem dX3_colours_11 : decode cX3_colours 11 = .ok (.istore_n 1, 1) := by decide +kernel
theorem dX3_colours_12 : decode cX3_colours 12 = .ok (.aload_n 0, 1) := by decide +kernel
theorem dX3_colours_13 : decode cX3_colours 13 = .ok (.invokevirtual 128, 3) := by decide +kernel
theorem dX3_colours_16 : decode cX3_colours 16 = .ok (.iconst 5, 1) := by decide +kernel
theorem dX3_colours_17 : decode cX3_colours 17 = .ok (.if_icmp .le 13, 3) := by decide +kernel
theorem dX3_colours_20 : decode cX3_colours 20 = .ok (.aload_n 0, 1) := by decide +kernel
theorem dX3_colours_21 : decode cX3_colours 21 = .ok (.invokevirtual 125, 3) := by decide +kernel
theorem dX3_colours_24 : decode cX3_colours 24 = .ok (.iinc 1 1, 3) := by decide +kernel
theorem dX3_colours_27 : decode cX3_colours 27 = .ok (.goto (-15), 3) := by decide +kernel
theorem dX3_colours_30 : decode cX3_colours 30 = .ok (.iconst 5, 1) := by decide +kernel
theorem dX3_colours_31 : decode cX3_colours 31 = .ok (.istore_n 2, 1) := by decide +kernel
theorem dX3_colours_32 : decode cX3_colours 32 = .ok (.iload_n 2, 1) := by decide +kernel
theorem dX3_colours_33 : decode cX3_colours 33 = .ok (.iconst 2, 1) := by decide +kernel
theorem dX3_colours_34 : decode cX3_colours 34 = .ok (.if_icmp .le 86, 3) := by decide +kernel
theorem dX3_colours_37 : decode cX3_colours 37 = .ok (.iconst 0, 1) := by decide +kernel
theorem dX3_colours_38 : decode cX3_colours 38 = .ok (.istore_n 3, 1) := by decide +kernel
theorem dX3_colours_39 : decode cX3_colours 39 = .ok (.iload_n 3, 1) := by decide +kernel
theorem dX3_colours_40 : decode cX3_colours 40 = .ok (.aload_n 0, 1) := by decide +kernel
theorem dX3_colours_41 : decode cX3_colours 41 = .ok (.getfield 102, 3) := by decide +kernel
theorem dX3_colours_44 : decode cX3_colours 44 = .ok (.if_icmp .ge 70, 3) := by decide +kernel
theorem dX3_colours_47 : decode cX3_colours 47 = .ok (.aload_n 0, 1) := by decide +kernel
theorem dX3_colours_48 : decode cX3_colours 48 = .ok (.getfield 30, 3) := by decide +kernel
theorem dX3_colours_51 : decode cX3_colours 51 = .ok (.iload_n 3, 1) := by decide +kernel
theorem dX3_colours_52 : decode cX3_colours 52 = .ok (.iaload, 1) := by decide +kernel
theorem dX3_colours_53 : decode cX3_colours 53 = .ok (.iload_n 2, 1) := by decide +kernel
theorem dX3_colours_54 : decode cX3_colours 54 = .ok (.if_icmp .ne 54, 3) := by decide +kernel
theorem dX3_colours_57 : decode cX3_colours 57 = .ok (.iconst 0, 1) := by decide +kernel
theorem dX3_colours_58 : decode cX3_colours 58 = .ok (.istore 4, 2) := by decide +kernel
theorem dX3_colours_60 : decode cX3_colours 60 = .ok (.aload_n 0, 1) := by decide +kernel
theorem dX3_colours_61 : decode cX3_colours 61 = .ok (.getfield 30, 3) := by decide +kernel
theorem dX3_colours_64 : decode cX3_colours 64 = .ok (.aload_n 0, 1) := by decide +kernel
theorem dX3_colours_65 : decode cX3_colours 65 = .ok (.iload_n 3, 1) := by decide +kernel
theorem dX3_colours_66 : decode cX3_colours 66 = .ok (.iconst 1, 1) := by decide +kernel
theorem dX3_colours_67 : decode cX3_colours 67 = .ok (.isub, 1) := by decide +kernel
theorem dX3_colours_68 : decode cX3_colours 68 = .ok (.invokevirtual 108, 3) := by decide +kernel
theorem dX3_colours_71 : decode cX3_colours 71 = .ok (.iaload, 1) := by decide +kernel
theorem dX3_colours_72 : decode cX3_colours 72 = .ok (.iload 4, 2) := by decide +kernel
theorem dX3_colours_74 : decode cX3_colours 74 = .ok (.if_icmp .eq 20, 3) := by decide +kernel
theorem dX3_colours_77 : decode cX3_colours 77 = .ok (.aload_n 0, 1) := by decide +kernel
theorem dX3_colours_78 : decode cX3_colours 78 = .ok (.getfield 30, 3) := by decide +kernel
theorem dX3_colours_81 : decode cX3_colours 81 = .ok (.aload_n 0, 1) := by decide +kernel
theorem dX3_colours_82 : decode cX3_colours 82 = .ok (.iload_n 3, 1) := by decide +kernel
theorem dX3_colours_83 : decode cX3_colours 83 = .ok (.iconst 1, 1) := by decide +kernel
theorem dX3_colours_84 : decode cX3_colours 84 = .ok (.iadd, 1) := by decide +kernel
theorem dX3_colours_85 : decode cX3_colours 85 = .ok (.invokevirtual 108, 3) := by decide +kernel
theorem dX3_colours_88 : decode cX3_colours 88 = .ok (.iaload, 1) := by decide +kernel
theorem dX3_colours_89 : decode cX3_colours 89 = .ok (.iload 4, 2) := by decide +kernel
theorem dX3_colours_91 : decode cX3_colours 91 = .ok (.if_icmp .ne 9, 3) := by decide +kernel
theorem dX3_colours_94 : decode cX3_colours 94 = .ok (.iinc 4 1, 3) := by decide +kernel
theorem dX3_colours_97 : decode cX3_colours 97 = .ok (.goto (-37), 3) := by decide +kernel
theorem dX3_colours_100 : decode cX3_colours 100 = .ok (.aload_n 0, 1) := by decide +kernel
theorem dX3_colours_101 : decode cX3_colours 101 = .ok (.getfield 30, 3) := by decide +kernel
theorem dX3_colours_104 : decode cX3_colours 104 = .ok (.iload_n 3, 1) := by decide +kernel
theorem dX3_colours_105 : decode cX3_colours 105 = .ok (.iload 4, 2) := by decide +kernel
theorem dX3_colours_107 : decode cX3_colours 107 = .ok (.iastore, 1) := by decide +kernel
theorem dX3_colours_108 : decode cX3_colours 108 = .ok (.iinc 3 1, 3) := by decide +kernel
theorem dX3_colours_111 : decode cX3_colours 111 = .ok (.goto (-72), 3) := by decide +kernel
theorem dX3_colours_114 : decode cX3_colours 114 = .ok (.iinc 2 (-1), 3) := by decide +kernel
theorem dX3_colours_117 : decode cX3_colours 117 = .ok (.goto (-85), 3) := by decide +kernel
theorem dX3_colours_120 : decode cX3_colours 120 = .ok (.iload_n 1, 1) := by decide +kernel
theorem dX3_colours_121 : decode cX3_colours 121 = .ok (.ireturn, 1) := by decide +kernel
set_option maxRecDepth 20000 in
theorem ggX3_take_X3_greatest : GoodIn wsX3_take wsX3_greatest := goodIn_r _ [9, 2, 4, 10, 11, 12, 13, 14, 15, 16, 17, 18] (by decide +kernel) (by decide +kernel)
set_option maxRecDepth 20000 in
theorem gX3_take_X3_greatest : GoodIn wsX3_take (wsV RX3 128 RX3 yX3_greatest wsX3_greatest) := goodIn_app (goodIn_of _ (by decide +kernel)) ggX3_take_X3_greatest
theorem dX3_take_0 : decode cX3_take 0 = .ok (.aload_n 0, 1) := by decide +kernel
theorem dX3_take_1 : decode cX3_take 1 = .ok (.invokevirtual 128, 3) := by decide +kernel
theorem dX3_take_4 : decode cX3_take 4 = .ok (.aload_n 0, 1) := by decide +kernel
theorem dX3_take_5 : decode cX3_take 5 = .ok (.getfield 40, 3) := by decide +kernel
theorem dX3_take_8 : decode cX3_take 8 = .ok (.if_icmp .lt 6, 3) := by decide +kernel
theorem dX3_take_11 : decode cX3_take 11 = .ok (.bipush (-3), 2) := by decide +kernel
theorem dX3_take_13 : decode cX3_take 13 = .ok (.ireturn, 1) := by decide +kernel
theorem dX3_take_14 : decode cX3_take 14 = .ok (.iconst 0, 1) := by decide +kernel
theorem dX3_take_15 : decode cX3_take 15 = .ok (.istore_n 1, 1) := by decide +kernel
theorem dX3_take_16 : decode cX3_take 16 = .ok (.iload_n 1, 1) := by decide +kernel
theorem dX3_take_17 : decode cX3_take 17 = .ok (.aload_n 0, 1) := by decide +kernel
theorem dX3_take_18 : decode cX3_take 18 = .ok (.getfield 102, 3) := by decide +kernel
theorem dX3_take_21 : decode cX3_take 21 = .ok (.if_icmp .ge 21, 3) := by decide +kernel
theorem dX3_take_24 : decode cX3_take 24 = .ok (.aload_n 0, 1) := by decide +kernel
theorem dX3_take_25 : decode cX3_take 25 = .ok (.getfield 27, 3) := by decide +kernel
theorem dX3_take_28 : decode cX3_take 28 = .ok (.iload_n 1, 1) := by decide +kernel
theorem dX3_take_29 : decode cX3_take 29 = .ok (.aload_n 0, 1) := by decide +kernel
theorem dX3_take_30 : decode cX3_take 30 = .ok (.getfield 30, 3) := by decide +kernel
theorem dX3_take_33 : decode cX3_take 33 = .ok (.iload_n 1, 1) := by decide +kernel
theorem dX3_take_34 : decode cX3_take 34 = .ok (.iaload, 1) := by decide +kernel
theorem dX3_take_35 : decode cX3_take 35 = .ok (.iastore, 1) := by decide +kernel
theorem dX3_take_36 : decode cX3_take 36 = .ok (.iinc 1 1, 3) := by decide +kernel
theorem dX3_take_39 : decode cX3_take 39 = .ok (.goto (-23), 3) := by decide +kernel
theorem dX3_take_42 : decode cX3_take 42 = .ok (.iconst 1, 1) := by decide +kernel
theorem dX3_take_43 : decode cX3_take 43 = .ok (.ireturn, 1) := by decide +kernel
theorem dX3_unlike_0 : decode cX3_unlike 0 = .ok (.iconst 0, 1) := by decide +kernel
theorem dX3_unlike_1 : decode cX3_unlike 1 = .ok (.istore_n 2, 1) := by decide +kernel
theorem dX3_unlike_2 : decode cX3_unlike 2 = .ok (.iconst 0, 1) := by decide +kernel
theorem dX3_unlike_3 : decode cX3_unlike 3 = .ok (.istore_n 3, 1) := by decide +kernel
theorem dX3_unlike_4 : decode cX3_unlike 4 = .ok (.iload_n 3, 1) := by decide +kernel
theorem dX3_unlike_5 : decode cX3_unlike 5 = .ok (.aload_n 0, 1) := by decide +kernel
theorem dX3_unlike_6 : decode cX3_unlike 6 = .ok (.getfield 102, 3) := by decide +kernel
theorem dX3_unlike_9 : decode cX3_unlike 9 = .ok (.if_icmp .ge 62, 3) := by decide +kernel
theorem dX3_unlike_12 : decode cX3_unlike 12 = .ok (.iconst 1, 1) := by decide +kernel
theorem dX3_unlike_13 : decode cX3_unlike 13 = .ok (.istore 4, 2) := by decide +kernel
theorem dX3_unlike_15 : decode cX3_unlike 15 = .ok (.iconst 0, 1) := by decide +kernel
theorem dX3_unlike_16 : decode cX3_unlike 16 = .ok (.istore 5, 2) := by decide +kernel
theorem dX3_unlike_18 : decode cX3_unlike 18 = .ok (.iload 5, 2) := by decide +kernel
theorem dX3_unlike_20 : decode cX3_unlike 20 = .ok (.iload_n 3, 1) := by decide +kernel
theorem dX3_unlike_21 : decode cX3_unlike 21 = .ok (.if_icmp .ge 31, 3) := by decide +kernel
theorem dX3_unlike_24 : decode cX3_unlike 24 = .ok (.iload 4, 2) := by decide +kernel
theorem dX3_unlike_26 : decode cX3_unlike 26 = .ok (.ifCond .eq 17, 3) := by decide +kernel
theorem dX3_unlike_29 : decode cX3_unlike 29 = .ok (.aload_n 1, 1) := by decide +kernel
theorem dX3_unlike_30 : decode cX3_unlike 30 = .ok (.iload 5, 2) := by decide +kernel
theorem dX3_unlike_32 : decode cX3_unlike 32 = .ok (.iaload, 1) := by decide +kernel
theorem dX3_unlike_33 : decode cX3_unlike 33 = .ok (.aload_n 1, 1) := by decide +kernel
theorem dX3_unlike_34 : decode cX3_unlike 34 = .ok (.iload_n 3, 1) := by decide +kernel
theorem dX3_unlike_35 : decode cX3_unlike 35 = .ok (.iaload, 1) := by decide +kernel
theorem dX3_unlike_36 : decode cX3_unlike 36 = .ok (.if_icmp .eq 7, 3) := by decide +kernel
theorem dX3_unlike_39 : decode cX3_unlike 39 = .ok (.iconst 1, 1) := by decide +kernel
theorem dX3_unlike_40 : decode cX3_unlike 40 = .ok (.goto 4, 3) := by decide +kernel
theorem dX3_unlike_43 : decode cX3_unlike 43 = .ok (.iconst 0, 1) := by decide +kernel
theorem dX3_unlike_44 : decode cX3_unlike 44 = .ok (.istore 4, 2) := by decide +kernel
theorem dX3_unlike_46 : decode cX3_unlike 46 = .ok (.iinc 5 1, 3) := by decide +kernel
theorem dX3_unlike_49 : decode cX3_unlike 49 = .ok (.goto (-31), 3) := by decide +kernel
theorem dX3_unlike_52 : decode cX3_unlike 52 = .ok (.iload_n 2, 1) := by decide +kernel
theorem dX3_unlike_53 : decode cX3_unlike 53 = .ok (.iload 4, 2) := by decide +kernel
theorem dX3_unlike_55 : decode cX3_unlike 55 = .ok (.ifCond .eq 7, 3) := by decide +kernel
theorem dX3_unlike_58 : decode cX3_unlike 58 = .ok (.iconst 1, 1) := by decide +kernel
theorem dX3_unlike_59 : decode cX3_unlike 59 = .ok (.goto 4, 3) := by decide +kernel
theorem dX3_unlike_62 : decode cX3_unlike 62 = .ok (.iconst 0, 1) := by decide +kernel
theorem dX3_unlike_63 : decode cX3_unlike 63 = .ok (.iadd, 1) := by decide +kernel
theorem dX3_unlike_64 : decode cX3_unlike 64 = .ok (.istore_n 2, 1) := by decide +kernel
theorem dX3_unlike_65 : decode cX3_unlike 65 = .ok (.iinc 3 1, 3) := by decide +kernel
theorem dX3_unlike_68 : decode cX3_unlike 68 = .ok (.goto (-64), 3) := by decide +kernel
theorem dX3_unlike_71 : decode cX3_unlike 71 = .ok (.iload_n 2, 1) := by decide +kernel
theorem dX3_unlike_72 : decode cX3_unlike 72 = .ok (.ireturn, 1) := by decide +kernel
set_option maxRecDepth 20000 in
theorem ggX3_count_X3_unlike : GoodIn wsX3_count wsX3_unlike := goodIn_r _ [10, 3, 19, 20, 21, 22, 23, 24, 25, 26, 27] (by decide +kernel) (by decide +kernel)
set_option maxRecDepth 20000 in
theorem gX3_count_X3_unlike : GoodIn wsX3_count (wsV RX3 131 RX3 yX3_unlike wsX3_unlike) := goodIn_app (goodIn_of _ (by decide +kernel)) ggX3_count_X3_unlike
set_option maxRecDepth 20000 in
theorem ggX3_count_X3_likes : GoodIn wsX3_count wsX3_likes := goodIn_r _ [14, 3, 4, 15, 16, 17, 9, 18, 19, 20, 21, 22, 23, 24, 25, 26, 27] (by decide +kernel) (by decide +kernel)
set_option maxRecDepth 20000 in
theorem gX3_count_X3_likes : GoodIn wsX3_count (wsV RX3 121 RX3 yX3_likes wsX3_likes) := goodIn_app (goodIn_of _ (by decide +kernel)) ggX3_count_X3_likes
theorem dX3_count_0 : decode cX3_count 0 = .ok (.iconst 0, 1) := by decide +kernel
theorem dX3_count_1 : decode cX3_count 1 = .ok (.istore_n 2, 1) := by decide +kernel
theorem dX3_count_2 : decode cX3_count 2 = .ok (.iconst 0, 1) := by decide +kernel
theorem dX3_count_3 : decode cX3_count 3 = .ok (.istore_n 3, 1) := by decide +kernel
theorem dX3_count_4 : decode cX3_count 4 = .ok (.iload_n 3, 1) := by decide +kernel
theorem dX3_count_5 : decode cX3_count 5 = .ok (.bipush 36, 2) := by decide +kernel
theorem dX3_count_7 : decode cX3_count 7 = .ok (.if_icmp .ge 26, 3) := by decide +kernel
theorem dX3_count_10 : decode cX3_count 10 = .ok (.iload_n 2, 1) := by decide +kernel
theorem dX3_count_11 : decode cX3_count 11 = .ok (.aload_n 0, 1) := by decide +kernel
theorem dX3_count_12 : decode cX3_count 12 = .ok (.getfield 7, 3) := by decide +kernel
theorem dX3_count_15 : decode cX3_count 15 = .ok (.iload_n 3, 1) := by decide +kernel
theorem dX3_count_16 : decode cX3_count 16 = .ok (.baload, 1) := by decide +kernel
theorem dX3_count_17 : decode cX3_count 17 = .ok (.ifCond .eq 7, 3) := by decide +kernel
theorem dX3_count_20 : decode cX3_count 20 = .ok (.iconst 1, 1) := by decide +kernel
theorem dX3_count_21 : decode cX3_count 21 = .ok (.goto 4, 3) := by decide +kernel
theorem dX3_count_24 : decode cX3_count 24 = .ok (.iconst 0, 1) := by decide +kernel
theorem dX3_count_25 : decode cX3_count 25 = .ok (.iadd, 1) := by decide +kernel
theorem dX3_count_26 : decode cX3_count 26 = .ok (.istore_n 2, 1) := by decide +kernel
theorem dX3_count_27 : decode cX3_count 27 = .ok (.iinc 3 1, 3) := by decide +kernel
theorem dX3_count_30 : decode cX3_count 30 = .ok (.goto (-26), 3) := by decide +kernel
theorem dX3_count_33 : decode cX3_count 33 = .ok (.iload_n 1, 1) := by decide +kernel
theorem dX3_count_34 : decode cX3_count 34 = .ok (.tableswitch 73 0 5 #[38, 43, 45, 50, 59, 64], 38) := by decide +kernel
theorem dX3_count_72 : decode cX3_count 72 = .ok (.aload_n 0, 1) := by decide +kernel
theorem dX3_count_73 : decode cX3_count 73 = .ok (.getfield 40, 3) := by decide +kernel
theorem dX3_count_76 : decode cX3_count 76 = .ok (.ireturn, 1) := by decide +kernel
theorem dX3_count_77 : decode cX3_count 77 = .ok (.iload_n 2, 1) := by decide +kernel
theorem dX3_count_78 : decode cX3_count 78 = .ok (.ireturn, 1) := by decide +kernel
theorem dX3_count_79 : decode cX3_count 79 = .ok (.aload_n 0, 1) := by decide +kernel
theorem dX3_count_80 : decode cX3_count 80 = .ok (.getfield 102, 3) := by decide +kernel
theorem dX3_count_83 : decode cX3_count 83 = .ok (.ireturn, 1) := by decide +kernel
theorem dX3_count_84 : decode cX3_count 84 = .ok (.aload_n 0, 1) := by decide +kernel
theorem dX3_count_85 : decode cX3_count 85 = .ok (.aload_n 0, 1) := by decide +kernel
theorem dX3_count_86 : decode cX3_count 86 = .ok (.getfield 30, 3) := by decide +kernel
theorem dX3_count_89 : decode cX3_count 89 = .ok (.invokevirtual 131, 3) := by decide +kernel
theorem dX3_count_92 : decode cX3_count 92 = .ok (.ireturn, 1) := by decide +kernel
theorem dX3_count_93 : decode cX3_count 93 = .ok (.aload_n 0, 1) := by decide +kernel
theorem dX3_count_94 : decode cX3_count 94 = .ok (.invokevirtual 121, 3) := by decide +kernel
theorem dX3_count_97 : decode cX3_count 97 = .ok (.ireturn, 1) := by decide +kernel
theorem dX3_count_98 : decode cX3_count 98 = .ok (.aload_n 0, 1) := by decide +kernel
theorem dX3_count_99 : decode cX3_count 99 = .ok (.aload_n 0, 1) := by decide +kernel
theorem dX3_count_100 : decode cX3_count 100 = .ok (.getfield 27, 3) := by decide +kernel
theorem dX3_count_103 : decode cX3_count 103 = .ok (.invokevirtual 131, 3) := by decide +kernel
theorem dX3_count_106 : decode cX3_count 106 = .ok (.ireturn, 1) := by decide +kernel
theorem dX3_count_107 : decode cX3_count 107 = .ok (.bipush (-2), 2) := by decide +kernel
theorem dX3_count_109 : decode cX3_count 109 = .ok (.ireturn, 1) := by decide +kernel
theorem dJ6_bitCount_0f7a4_0 : decode cJ6_bitCount_0f7a4 0 = .ok (.iload_n 0, 1) := by decide +kernel
theorem dJ6_bitCount_0f7a4_1 : decode cJ6_bitCount_0f7a4 1 = .ok (.iload_n 0, 1) := by decide +kernel
theorem dJ6_bitCount_0f7a4_2 : decode cJ6_bitCount_0f7a4 2 = .ok (.iconst 1, 1) := by decide +kernel
theorem dJ6_bitCount_0f7a4_3 : decode cJ6_bitCount_0f7a4 3 = .ok (.iushr, 1) := by decide +kernel
theorem dJ6_bitCount_0f7a4_4 : decode cJ6_bitCount_0f7a4 4 = .ok (.ldc_w 265, 3) := by decide +kernel
theorem dJ6_bitCount_0f7a4_7 : decode cJ6_bitCount_0f7a4 7 = .ok (.iand, 1) := by decide +kernel
theorem dJ6_bitCount_0f7a4_8 : decode cJ6_bitCount_0f7a4 8 = .ok (.isub, 1) := by decide +kernel
theorem dJ6_bitCount_0f7a4_9 : decode cJ6_bitCount_0f7a4 9 = .ok (.istore_n 0, 1) := by decide +kernel
theorem dJ6_bitCount_0f7a4_10 : decode cJ6_bitCount_0f7a4 10 = .ok (.iload_n 0, 1) := by decide +kernel
theorem dJ6_bitCount_0f7a4_11 : decode cJ6_bitCount_0f7a4 11 = .ok (.ldc_w 266, 3) := by decide +kernel
theorem dJ6_bitCount_0f7a4_14 : decode cJ6_bitCount_0f7a4 14 = .ok (.iand, 1) := by decide +kernel
theorem dJ6_bitCount_0f7a4_15 : decode cJ6_bitCount_0f7a4 15 = .ok (.iload_n 0, 1) := by decide +kernel
theorem dJ6_bitCount_0f7a4_16 : decode cJ6_bitCount_0f7a4 16 = .ok (.iconst 2, 1) := by decide +kernel
theorem dJ6_bitCount_0f7a4_17 : decode cJ6_bitCount_0f7a4 17 = .ok (.iushr, 1) := by decide +kernel
theorem dJ6_bitCount_0f7a4_18 : decode cJ6_bitCount_0f7a4 18 = .ok (.ldc_w 266, 3) := by decide +kernel
theorem dJ6_bitCount_0f7a4_21 : decode cJ6_bitCount_0f7a4 21 = .ok (.iand, 1) := by decide +kernel
theorem dJ6_bitCount_0f7a4_22 : decode cJ6_bitCount_0f7a4 22 = .ok (.iadd, 1) := by decide +kernel
theorem dJ6_bitCount_0f7a4_23 : decode cJ6_bitCount_0f7a4 23 = .ok (.istore_n 0, 1) := by decide +kernel
theorem dJ6_bitCount_0f7a4_24 : decode cJ6_bitCount_0f7a4 24 = .ok (.iload_n 0, 1) := by decide +kernel
theorem dJ6_bitCount_0f7a4_25 : decode cJ6_bitCount_0f7a4 25 = .ok (.iload_n 0, 1) := by decide +kernel
theorem dJ6_bitCount_0f7a4_26 : decode cJ6_bitCount_0f7a4 26 = .ok (.iconst 4, 1) := by decide +kernel
theorem dJ6_bitCount_0f7a4_27 : decode cJ6_bitCount_0f7a4 27 = .ok (.iushr, 1) := by decide +kernel
theorem dJ6_bitCount_0f7a4_28 : decode cJ6_bitCount_0f7a4 28 = .ok (.iadd, 1) := by decide +kernel
theorem dJ6_bitCount_0f7a4_29 : decode cJ6_bitCount_0f7a4 29 = .ok (.ldc_w 267, 3) := by decide +kernel
theorem dJ6_bitCount_0f7a4_32 : decode cJ6_bitCount_0f7a4 32 = .ok (.iand, 1) := by decide +kernel
theorem dJ6_bitCount_0f7a4_33 : decode cJ6_bitCount_0f7a4 33 = .ok (.istore_n 0, 1) := by decide +kernel
theorem dJ6_bitCount_0f7a4_34 : decode cJ6_bitCount_0f7a4 34 = .ok (.iload_n 0, 1) := by decide +kernel
theorem dJ6_bitCount_0f7a4_35 : decode cJ6_bitCount_0f7a4 35 = .ok (.iload_n 0, 1) := by decide +kernel
theorem dJ6_bitCount_0f7a4_36 : decode cJ6_bitCount_0f7a4 36 = .ok (.bipush 8, 2) := by decide +kernel
theorem dJ6_bitCount_0f7a4_38 : decode cJ6_bitCount_0f7a4 38 = .ok (.iushr, 1) := by decide +kernel
theorem dJ6_bitCount_0f7a4_39 : decode cJ6_bitCount_0f7a4 39 = .ok (.iadd, 1) := by decide +kernel
theorem dJ6_bitCount_0f7a4_40 : decode cJ6_bitCount_0f7a4 40 = .ok (.istore_n 0, 1) := by decide +kernel
theorem dJ6_bitCount_0f7a4_41 : decode cJ6_bitCount_0f7a4 41 = .ok (.iload_n 0, 1) := by decide +kernel
theorem dJ6_bitCount_0f7a4_42 : decode cJ6_bitCount_0f7a4 42 = .ok (.iload_n 0, 1) := by decide +kernel
theorem dJ6_bitCount_0f7a4_43 : decode cJ6_bitCount_0f7a4 43 = .ok (.bipush 16, 2) := by decide +kernel
theorem dJ6_bitCount_0f7a4_45 : decode cJ6_bitCount_0f7a4 45 = .ok (.iushr, 1) := by decide +kernel
theorem dJ6_bitCount_0f7a4_46 : decode cJ6_bitCount_0f7a4 46 = .ok (.iadd, 1) := by decide +kernel
theorem dJ6_bitCount_0f7a4_47 : decode cJ6_bitCount_0f7a4 47 = .ok (.istore_n 0, 1) := by decide +kernel
theorem dJ6_bitCount_0f7a4_48 : decode cJ6_bitCount_0f7a4 48 = .ok (.iload_n 0, 1) := by decide +kernel
theorem dJ6_bitCount_0f7a4_49 : decode cJ6_bitCount_0f7a4 49 = .ok (.bipush 63, 2) := by decide +kernel
theorem dJ6_bitCount_0f7a4_51 : decode cJ6_bitCount_0f7a4 51 = .ok (.iand, 1) := by decide +kernel
theorem dJ6_bitCount_0f7a4_52 : decode cJ6_bitCount_0f7a4 52 = .ok (.ireturn, 1) := by decide +kernel
theorem dJ9_max_7cf53_0 : decode cJ9_max_7cf53 0 = .ok (.iload_n 0, 1) := by decide +kernel
theorem dJ9_max_7cf53_1 : decode cJ9_max_7cf53 1 = .ok (.iload_n 1, 1) := by decide +kernel
theorem dJ9_max_7cf53_2 : decode cJ9_max_7cf53 2 = .ok (.if_icmp .lt 7, 3) := by decide +kernel
theorem dJ9_max_7cf53_5 : decode cJ9_max_7cf53 5 = .ok (.iload_n 0, 1) := by decide +kernel
theorem dJ9_max_7cf53_6 : decode cJ9_max_7cf53 6 = .ok (.goto 4, 3) := by decide +kernel
theorem dJ9_max_7cf53_9 : decode cJ9_max_7cf53 9 = .ok (.iload_n 1, 1) := by decide +kernel
theorem dJ9_max_7cf53_10 : decode cJ9_max_7cf53 10 = .ok (.ireturn, 1) := by decide +kernel
theorem dJ9_min_7cf53_0 : decode cJ9_min_7cf53 0 = .ok (.iload_n 0, 1) := by decide +kernel
theorem dJ9_min_7cf53_1 : decode cJ9_min_7cf53 1 = .ok (.iload_n 1, 1) := by decide +kernel
theorem dJ9_min_7cf53_2 : decode cJ9_min_7cf53 2 = .ok (.if_icmp .gt 7, 3) := by decide +kernel
theorem dJ9_min_7cf53_5 : decode cJ9_min_7cf53 5 = .ok (.iload_n 0, 1) := by decide +kernel
theorem dJ9_min_7cf53_6 : decode cJ9_min_7cf53 6 = .ok (.goto 4, 3) := by decide +kernel
theorem dJ9_min_7cf53_9 : decode cJ9_min_7cf53 9 = .ok (.iload_n 1, 1) := by decide +kernel
theorem dJ9_min_7cf53_10 : decode cJ9_min_7cf53 10 = .ok (.ireturn, 1) := by decide +kernel
theorem dJ9_min_f86c9_0 : decode cJ9_min_f86c9 0 = .ok (.lload_n 0, 1) := by decide +kernel
theorem dJ9_min_f86c9_1 : decode cJ9_min_f86c9 1 = .ok (.lload_n 2, 1) := by decide +kernel
theorem dJ9_min_f86c9_2 : decode cJ9_min_f86c9 2 = .ok (.lcmp, 1) := by decide +kernel
theorem dJ9_min_f86c9_3 : decode cJ9_min_f86c9 3 = .ok (.ifCond .gt 7, 3) := by decide +kernel
theorem dJ9_min_f86c9_6 : decode cJ9_min_f86c9 6 = .ok (.lload_n 0, 1) := by decide +kernel
theorem dJ9_min_f86c9_7 : decode cJ9_min_f86c9 7 = .ok (.goto 4, 3) := by decide +kernel
theorem dJ9_min_f86c9_10 : decode cJ9_min_f86c9 10 = .ok (.lload_n 2, 1) := by decide +kernel
theorem dJ9_min_f86c9_11 : decode cJ9_min_f86c9 11 = .ok (.lreturn, 1) := by decide +kernel
theorem dJ7_fill_d0a16_0 : decode cJ7_fill_d0a16 0 = .ok (.iconst 0, 1) := by decide +kernel
theorem dJ7_fill_d0a16_1 : decode cJ7_fill_d0a16 1 = .ok (.istore_n 3, 1) := by decide +kernel
theorem dJ7_fill_d0a16_2 : decode cJ7_fill_d0a16 2 = .ok (.aload_n 0, 1) := by decide +kernel
theorem dJ7_fill_d0a16_3 : decode cJ7_fill_d0a16 3 = .ok (.arraylength, 1) := by decide +kernel
theorem dJ7_fill_d0a16_4 : decode cJ7_fill_d0a16 4 = .ok (.istore 4, 2) := by decide +kernel
theorem dJ7_fill_d0a16_6 : decode cJ7_fill_d0a16 6 = .ok (.iload_n 3, 1) := by decide +kernel
theorem dJ7_fill_d0a16_7 : decode cJ7_fill_d0a16 7 = .ok (.iload 4, 2) := by decide +kernel
theorem dJ7_fill_d0a16_9 : decode cJ7_fill_d0a16 9 = .ok (.if_icmp .ge 13, 3) := by decide +kernel
theorem dJ7_fill_d0a16_12 : decode cJ7_fill_d0a16 12 = .ok (.aload_n 0, 1) := by decide +kernel
theorem dJ7_fill_d0a16_13 : decode cJ7_fill_d0a16 13 = .ok (.iload_n 3, 1) := by decide +kernel
theorem dJ7_fill_d0a16_14 : decode cJ7_fill_d0a16 14 = .ok (.lload_n 1, 1) := by decide +kernel
theorem dJ7_fill_d0a16_15 : decode cJ7_fill_d0a16 15 = .ok (.lastore, 1) := by decide +kernel
theorem dJ7_fill_d0a16_16 : decode cJ7_fill_d0a16 16 = .ok (.iinc 3 1, 3) := by decide +kernel
theorem dJ7_fill_d0a16_19 : decode cJ7_fill_d0a16 19 = .ok (.goto (-13), 3) := by decide +kernel
theorem dJ7_fill_d0a16_22 : decode cJ7_fill_d0a16 22 = .ok (.return_, 1) := by decide +kernel
theorem dJ7_fill_53178_0 : decode cJ7_fill_53178 0 = .ok (.iconst 0, 1) := by decide +kernel
theorem dJ7_fill_53178_1 : decode cJ7_fill_53178 1 = .ok (.istore_n 2, 1) := by decide +kernel
theorem dJ7_fill_53178_2 : decode cJ7_fill_53178 2 = .ok (.aload_n 0, 1) := by decide +kernel
theorem dJ7_fill_53178_3 : decode cJ7_fill_53178 3 = .ok (.arraylength, 1) := by decide +kernel
theorem dJ7_fill_53178_4 : decode cJ7_fill_53178 4 = .ok (.istore_n 3, 1) := by decide +kernel
theorem dJ7_fill_53178_5 : decode cJ7_fill_53178 5 = .ok (.iload_n 2, 1) := by decide +kernel
theorem dJ7_fill_53178_6 : decode cJ7_fill_53178 6 = .ok (.iload_n 3, 1) := by decide +kernel
theorem dJ7_fill_53178_7 : decode cJ7_fill_53178 7 = .ok (.if_icmp .ge 13, 3) := by decide +kernel
theorem dJ7_fill_53178_10 : decode cJ7_fill_53178 10 = .ok (.aload_n 0, 1) := by decide +kernel
theorem dJ7_fill_53178_11 : decode cJ7_fill_53178 11 = .ok (.iload_n 2, 1) := by decide +kernel
theorem dJ7_fill_53178_12 : decode cJ7_fill_53178 12 = .ok (.iload_n 1, 1) := by decide +kernel
theorem dJ7_fill_53178_13 : decode cJ7_fill_53178 13 = .ok (.iastore, 1) := by decide +kernel
theorem dJ7_fill_53178_14 : decode cJ7_fill_53178 14 = .ok (.iinc 2 1, 3) := by decide +kernel
theorem dJ7_fill_53178_17 : decode cJ7_fill_53178 17 = .ok (.goto (-12), 3) := by decide +kernel
theorem dJ7_fill_53178_20 : decode cJ7_fill_53178 20 = .ok (.return_, 1) := by decide +kernel
end
section
set_option maxRecDepth 20000 in
theorem ggL_law_X2_init : GoodIn wsL_law wsX2_init := goodIn_r _ [8, 9, 10, 11, 12, 13, 14, 15, 16, 17, 18, 19, 20, 21, 22, 23, 24, 25, 26, 27, 28, 29, 30, 31, 32, 33, 34, 35, 36, 37, 38, 39, 40, 41, 42, 43, 44, 45, 46, 47, 48, 49, 50, 51, 52, 53, 54, 55, 56, 57, 58, 59, 599, 600, 601, 602, 603, 604, 588, 589, 605, 606, 607] (by decide +kernel) (by decide +kernel)
set_option maxRecDepth 20000 in
theorem gL_law_X2_init : GoodIn wsL_law (wsX2_init) := ggL_law_X2_init
set_option maxRecDepth 20000 in
theorem ggL_law_X3_init : GoodIn wsL_law wsX3_init := goodIn_r _ [62, 63, 10, 11, 64, 65, 28, 66, 67, 68, 24, 69, 70, 71, 72, 73, 74, 5, 75, 76, 77, 78, 79, 80, 81, 590, 591, 592, 593, 594, 595, 596, 597, 598] (by decide +kernel) (by decide +kernel)
set_option maxRecDepth 20000 in
theorem gL_law_X3_init : GoodIn wsL_law (wsX3_init) := ggL_law_X3_init
set_option maxRecDepth 20000 in
theorem ggL_law_X2_labels : GoodIn wsL_law wsX2_labels := goodIn_r _ [85, 15, 86, 19, 87, 32, 33, 14, 34, 35, 36, 37, 38, 39, 25, 88, 53, 54, 18, 55, 44, 56, 57, 58, 59, 588, 589, 599, 600, 601, 602, 603, 604, 605, 606, 607] (by decide +kernel) (by decide +kernel)
set_option maxRecDepth 20000 in
theorem gL_law_X2_labels : GoodIn wsL_law (wsV RL 13 RX2 yX2_labels wsX2_labels) := goodIn_app (goodIn_of _ (by decide +kernel)) ggL_law_X2_labels
set_option maxRecDepth 20000 in
theorem ggL_law_X3_labels : GoodIn wsL_law wsX3_labels := goodIn_r _ [92, 76, 93, 94, 5, 95, 72, 73, 74, 75, 65, 70, 590, 591, 592, 593, 594, 595, 596, 597, 598] (by decide +kernel) (by decide +kernel)
set_option maxRecDepth 20000 in
theorem gL_law_X3_labels : GoodIn wsL_law (wsV RL 17 RX3 yX3_labels wsX3_labels) := goodIn_app (goodIn_of _ (by decide +kernel)) ggL_law_X3_labels
set_option maxRecDepth 20000 in
theorem ggL_law_X2_allow : GoodIn wsL_law wsX2_allow := goodIn_r _ [99, 15, 100, 101, 102, 14, 103, 39, 104, 105, 106, 107, 25, 108, 109, 110, 111, 112, 113, 2, 114, 115, 116, 117, 118, 588, 589, 599, 600, 601, 602, 603, 604] (by decide +kernel) (by decide +kernel)
set_option maxRecDepth 20000 in
theorem gL_law_X2_allow : GoodIn wsL_law (wsV RL 18 RX2 yX2_allow wsX2_allow) := goodIn_app (goodIn_of _ (by decide +kernel)) ggL_law_X2_allow
set_option maxRecDepth 20000 in
theorem ggL_law_X3_allow : GoodIn wsL_law wsX3_allow := goodIn_r _ [122, 65, 123, 124, 125, 5, 126, 76, 93, 94, 95, 590, 591, 592, 593, 594, 595, 596, 597, 598] (by decide +kernel) (by decide +kernel)
set_option maxRecDepth 20000 in
theorem gL_law_X3_allow : GoodIn wsL_law (wsV RL 22 RX3 yX3_allow wsX3_allow) := goodIn_app (goodIn_of _ (by decide +kernel)) ggL_law_X3_allow
set_option maxRecDepth 20000 in
theorem ggL_law_X2_may : GoodIn wsL_law wsX2_may := goodIn_r _ [130, 15, 100, 101, 102, 14, 103, 39, 104, 105, 106, 107, 25, 108, 109, 110, 111, 112, 113, 2, 114, 588, 589, 599, 600, 601, 602, 603, 604] (by decide +kernel) (by decide +kernel)
set_option maxRecDepth 20000 in
theorem gL_law_X2_may : GoodIn wsL_law (wsV RL 23 RX2 yX2_may wsX2_may) := goodIn_app (goodIn_of _ (by decide +kernel)) ggL_law_X2_may
set_option maxRecDepth 20000 in
theorem ggL_law_X3_may : GoodIn wsL_law wsX3_may := goodIn_r _ [134, 65, 123, 124, 125, 5, 126, 76, 93, 94, 95, 590, 591, 592, 593, 594, 595, 596, 597, 598] (by decide +kernel) (by decide +kernel)
set_option maxRecDepth 20000 in
theorem gL_law_X3_may : GoodIn wsL_law (wsV RL 27 RX3 yX3_may wsX3_may) := goodIn_app (goodIn_of _ (by decide +kernel)) ggL_law_X3_may
set_option maxRecDepth 20000 in
theorem ggL_law_X2_rings : GoodIn wsL_law wsX2_rings := goodIn_r _ [138, 139, 15, 140, 141, 2, 142, 143, 144, 145, 14, 146, 39, 147, 148, 149, 37, 150, 151, 152, 153, 154, 29, 108, 101, 102, 103, 155, 156, 58, 157, 158, 159, 160, 161, 30, 162, 163, 164, 165, 166, 105, 106, 107, 25, 109, 110, 111, 588, 589, 599, 600, 601, 602, 603, 604] (by decide +kernel) (by decide +kernel)
set_option maxRecDepth 20000 in
theorem gL_law_X2_rings : GoodIn wsL_law (wsV RL 28 RX2 yX2_rings wsX2_rings) := goodIn_app (goodIn_of _ (by decide +kernel)) ggL_law_X2_rings
set_option maxRecDepth 20000 in
theorem ggL_law_X3_rings : GoodIn wsL_law wsX3_rings := goodIn_r _ [170, 171, 76, 67, 172, 173, 5, 174, 93, 94, 95, 175, 176, 177, 178, 68, 65, 179, 180, 181, 182, 590, 591, 592, 593, 594, 595, 596, 597, 598] (by decide +kernel) (by decide +kernel)
set_option maxRecDepth 20000 in
theorem gL_law_X3_rings : GoodIn wsL_law (wsV RL 32 RX3 yX3_rings wsX3_rings) := goodIn_app (goodIn_of _ (by decide +kernel)) ggL_law_X3_rings
set_option maxRecDepth 20000 in
theorem ggL_law_X2_first : GoodIn wsL_law wsX2_first := goodIn_r _ [186, 15, 187, 140, 141, 2, 142, 188, 189, 190, 14, 191, 39, 192, 193, 194, 195, 27, 26, 25, 108, 101, 102, 103, 196, 197, 198, 199, 109, 110, 111, 200, 201, 202, 588, 589, 599, 600, 601, 602, 603, 604] (by decide +kernel) (by decide +kernel)
set_option maxRecDepth 20000 in
theorem gL_law_X2_first : GoodIn wsL_law (wsV RL 33 RX2 yX2_first wsX2_first) := goodIn_app (goodIn_of _ (by decide +kernel)) ggL_law_X2_first
set_option maxRecDepth 20000 in
theorem ggL_law_X3_first : GoodIn wsL_law wsX3_first := goodIn_r _ [206, 69, 172, 173, 5, 174, 93, 94, 95, 207, 208, 209, 210, 76, 211, 212, 213, 214, 66, 65, 215, 216, 217, 218, 219, 220, 221, 222, 223, 590, 591, 592, 593, 594, 595, 596, 597, 598] (by decide +kernel) (by decide +kernel)
set_option maxRecDepth 20000 in
theorem gL_law_X3_first : GoodIn wsL_law (wsV RL 36 RX3 yX3_first wsX3_first) := goodIn_app (goodIn_of _ (by decide +kernel)) ggL_law_X3_first
set_option maxRecDepth 20000 in
theorem ggL_law_X2_walks : GoodIn wsL_law wsX2_walks := goodIn_r _ [227, 15, 228, 139, 100, 101, 102, 14, 103, 39, 229, 152, 153, 154, 29, 108, 155, 156, 58, 157, 158, 159, 160, 161, 30, 147, 148, 149, 37, 150, 162, 163, 164, 165, 166, 105, 106, 107, 25, 109, 110, 111, 588, 589, 599, 600, 601, 602, 603, 604] (by decide +kernel) (by decide +kernel)
set_option maxRecDepth 20000 in
theorem gL_law_X2_walks : GoodIn wsL_law (wsV RL 37 RX2 yX2_walks wsX2_walks) := goodIn_app (goodIn_of _ (by decide +kernel)) ggL_law_X2_walks
set_option maxRecDepth 20000 in
theorem ggL_law_X3_walks : GoodIn wsL_law wsX3_walks := goodIn_r _ [233, 234, 171, 67, 123, 124, 125, 5, 126, 76, 93, 94, 95, 175, 176, 177, 178, 68, 65, 179, 180, 181, 182, 590, 591, 592, 593, 594, 595, 596, 597, 598] (by decide +kernel) (by decide +kernel)
set_option maxRecDepth 20000 in
theorem gL_law_X3_walks : GoodIn wsL_law (wsV RL 41 RX3 yX3_walks wsX3_walks) := goodIn_app (goodIn_of _ (by decide +kernel)) ggL_law_X3_walks
set_option maxRecDepth 20000 in
theorem ggL_law_X2_blocks : GoodIn wsL_law wsX2_blocks := goodIn_r _ [238, 15, 86, 239, 240, 241, 14, 242, 243, 244, 245, 246, 39, 25, 109, 110, 111, 588, 589, 599, 600, 601, 602, 603, 604] (by decide +kernel) (by decide +kernel)
set_option maxRecDepth 20000 in
theorem gL_law_X2_blocks : GoodIn wsL_law (wsV RL 42 RX2 yX2_blocks wsX2_blocks) := goodIn_app (goodIn_of _ (by decide +kernel)) ggL_law_X2_blocks
set_option maxRecDepth 20000 in
theorem ggL_law_X3_blocks : GoodIn wsL_law wsX3_blocks := goodIn_r _ [250, 76, 211, 212, 213, 5, 214, 66, 65, 215, 251, 252, 253, 254, 255, 256, 257, 258, 216, 217, 218, 219, 590, 591, 592, 593, 594, 595, 596, 597, 598] (by decide +kernel) (by decide +kernel)
set_option maxRecDepth 20000 in
theorem gL_law_X3_blocks : GoodIn wsL_law (wsV RL 46 RX3 yX3_blocks wsX3_blocks) := goodIn_app (goodIn_of _ (by decide +kernel)) ggL_law_X3_blocks
set_option maxRecDepth 20000 in
theorem ggL_law_X2_block : GoodIn wsL_law wsX2_block := goodIn_r _ [262, 15, 100, 101, 102, 14, 103, 39, 239, 240, 241, 242, 243, 244, 245, 246, 25, 109, 110, 111, 588, 589, 599, 600, 601, 602, 603, 604] (by decide +kernel) (by decide +kernel)
set_option maxRecDepth 20000 in
theorem gL_law_X2_block : GoodIn wsL_law (wsV RL 47 RX2 yX2_block wsX2_block) := goodIn_app (goodIn_of _ (by decide +kernel)) ggL_law_X2_block
set_option maxRecDepth 20000 in
theorem ggL_law_X3_block : GoodIn wsL_law wsX3_block := goodIn_r _ [266, 211, 212, 213, 5, 214, 66, 76, 65, 215, 123, 124, 125, 126, 93, 94, 95, 251, 252, 253, 254, 255, 256, 257, 258, 216, 217, 218, 219, 590, 591, 592, 593, 594, 595, 596, 597, 598] (by decide +kernel) (by decide +kernel)
set_option maxRecDepth 20000 in
theorem gL_law_X3_block : GoodIn wsL_law (wsV RL 50 RX3 yX3_block wsX3_block) := goodIn_app (goodIn_of _ (by decide +kernel)) ggL_law_X3_block
set_option maxRecDepth 20000 in
theorem ggL_law_X2_pace : GoodIn wsL_law wsX2_pace := goodIn_r _ [270, 15, 100, 101, 102, 14, 103, 39, 271, 272, 273, 274, 275, 276, 277, 278, 279, 27, 196, 197, 198, 199, 25, 109, 110, 111, 280, 281, 282, 588, 589, 599, 600, 601, 602, 603, 604] (by decide +kernel) (by decide +kernel)
set_option maxRecDepth 20000 in
theorem gL_law_X2_pace : GoodIn wsL_law (wsV RL 51 RX2 yX2_pace wsX2_pace) := goodIn_app (goodIn_of _ (by decide +kernel)) ggL_law_X2_pace
set_option maxRecDepth 20000 in
theorem ggL_law_X3_pace : GoodIn wsL_law wsX3_pace := goodIn_r _ [286, 211, 212, 213, 5, 214, 66, 76, 65, 215, 123, 124, 125, 126, 93, 94, 95, 287, 288, 289, 290, 216, 217, 218, 219, 291, 292, 293, 590, 591, 592, 593, 594, 595, 596, 597, 598] (by decide +kernel) (by decide +kernel)
set_option maxRecDepth 20000 in
theorem gL_law_X3_pace : GoodIn wsL_law (wsV RL 54 RX3 yX3_pace wsX3_pace) := goodIn_app (goodIn_of _ (by decide +kernel)) ggL_law_X3_pace
set_option maxRecDepth 20000 in
theorem ggL_law_X2_kind : GoodIn wsL_law wsX2_kind := goodIn_r _ [297, 15, 298, 299, 300, 14, 301, 275, 302, 303, 304, 305, 306, 39, 276, 277, 278, 279, 27, 196, 197, 198, 199, 25, 109, 110, 111, 307, 308, 309, 310, 311, 272, 273, 274, 280, 281, 282, 588, 589, 599, 600, 601, 602, 603, 604] (by decide +kernel) (by decide +kernel)
set_option maxRecDepth 20000 in
theorem gL_law_X2_kind : GoodIn wsL_law (wsV RL 55 RX2 yX2_kind wsX2_kind) := goodIn_app (goodIn_of _ (by decide +kernel)) ggL_law_X2_kind
set_option maxRecDepth 20000 in
theorem ggL_law_X3_kind : GoodIn wsL_law wsX3_kind := goodIn_r _ [315, 76, 65, 211, 212, 213, 5, 214, 66, 215, 287, 288, 289, 290, 216, 217, 218, 219, 291, 292, 293, 590, 591, 592, 593, 594, 595, 596, 597, 598] (by decide +kernel) (by decide +kernel)
set_option maxRecDepth 20000 in
theorem gL_law_X3_kind : GoodIn wsL_law (wsV RL 58 RX3 yX3_kind wsX3_kind) := goodIn_app (goodIn_of _ (by decide +kernel)) ggL_law_X3_kind
set_option maxRecDepth 20000 in
theorem ggL_law_X2_sure : GoodIn wsL_law wsX2_sure := goodIn_r _ [319, 15, 320, 321, 37, 322, 323, 308, 309, 14, 310, 39, 311, 272, 273, 274, 275, 276, 277, 278, 279, 27, 196, 197, 198, 199, 25, 109, 110, 111, 280, 281, 282, 324, 304, 305, 306, 325, 326, 2, 327, 588, 589, 599, 600, 601, 602, 603, 604] (by decide +kernel) (by decide +kernel)
set_option maxRecDepth 20000 in
theorem gL_law_X2_sure : GoodIn wsL_law (wsV RL 59 RX2 yX2_sure wsX2_sure) := goodIn_app (goodIn_of _ (by decide +kernel)) ggL_law_X2_sure
set_option maxRecDepth 20000 in
theorem ggL_law_X3_sure : GoodIn wsL_law wsX3_sure := goodIn_r _ [331, 76, 211, 212, 213, 5, 214, 66, 65, 215, 287, 288, 289, 290, 216, 217, 218, 219, 291, 292, 293, 332, 333, 334, 335, 590, 591, 592, 593, 594, 595, 596, 597, 598] (by decide +kernel) (by decide +kernel)
set_option maxRecDepth 20000 in
theorem gL_law_X3_sure : GoodIn wsL_law (wsV RL 62 RX3 yX3_sure wsX3_sure) := goodIn_app (goodIn_of _ (by decide +kernel)) ggL_law_X3_sure
set_option maxRecDepth 20000 in
theorem ggL_law_X2_free : GoodIn wsL_law wsX2_free := goodIn_r _ [339, 15, 100, 101, 102, 14, 103, 39, 271, 272, 273, 274, 275, 276, 277, 278, 279, 27, 196, 197, 198, 199, 25, 109, 110, 111, 280, 281, 282, 340, 325, 326, 2, 327, 588, 589, 599, 600, 601, 602, 603, 604] (by decide +kernel) (by decide +kernel)
set_option maxRecDepth 20000 in
theorem gL_law_X2_free : GoodIn wsL_law (wsV RL 63 RX2 yX2_free wsX2_free) := goodIn_app (goodIn_of _ (by decide +kernel)) ggL_law_X2_free
set_option maxRecDepth 20000 in
theorem ggL_law_X3_free : GoodIn wsL_law wsX3_free := goodIn_r _ [344, 123, 124, 125, 5, 126, 76, 93, 94, 95, 211, 212, 213, 214, 66, 65, 215, 287, 288, 289, 290, 216, 217, 218, 219, 291, 292, 293, 332, 333, 334, 335, 590, 591, 592, 593, 594, 595, 596, 597, 598] (by decide +kernel) (by decide +kernel)
set_option maxRecDepth 20000 in
theorem gL_law_X3_free : GoodIn wsL_law (wsV RL 66 RX3 yX3_free wsX3_free) := goodIn_app (goodIn_of _ (by decide +kernel)) ggL_law_X3_free
set_option maxRecDepth 20000 in
theorem ggL_law_X2_mirrors : GoodIn wsL_law wsX2_mirrors := goodIn_r _ [348, 15, 349, 350, 351, 14, 352, 39, 166, 105, 106, 107, 25, 108, 101, 102, 103, 109, 110, 111, 353, 240, 241, 242, 243, 244, 245, 246, 112, 113, 2, 114, 588, 589, 599, 600, 601, 602, 603, 604] (by decide +kernel) (by decide +kernel)
set_option maxRecDepth 20000 in
theorem gL_law_X2_mirrors : GoodIn wsL_law (wsV RL 67 RX2 yX2_mirrors wsX2_mirrors) := goodIn_app (goodIn_of _ (by decide +kernel)) ggL_law_X2_mirrors
set_option maxRecDepth 20000 in
theorem ggL_law_X3_mirrors : GoodIn wsL_law wsX3_mirrors := goodIn_r _ [357, 76, 65, 211, 212, 213, 5, 214, 66, 215, 255, 256, 257, 258, 216, 217, 218, 219, 590, 591, 592, 593, 594, 595, 596, 597, 598] (by decide +kernel) (by decide +kernel)
set_option maxRecDepth 20000 in
theorem gL_law_X3_mirrors : GoodIn wsL_law (wsV RL 70 RX3 yX3_mirrors wsX3_mirrors) := goodIn_app (goodIn_of _ (by decide +kernel)) ggL_law_X3_mirrors
set_option maxRecDepth 20000 in
theorem ggL_law_X2_ring : GoodIn wsL_law wsX2_ring := goodIn_r _ [361, 19, 362, 363, 47, 48, 18, 49, 50, 36, 37, 38, 51, 45, 52, 53, 54, 55, 44, 56, 57, 58, 59, 588, 589, 605, 606, 607] (by decide +kernel) (by decide +kernel)
set_option maxRecDepth 20000 in
theorem gL_law_X2_ring : GoodIn wsL_law (wsV RL 71 RX2 yX2_ring wsX2_ring) := goodIn_app (goodIn_of _ (by decide +kernel)) ggL_law_X2_ring
set_option maxRecDepth 20000 in
theorem ggL_law_X3_ring : GoodIn wsL_law wsX3_ring := goodIn_r _ [367, 81, 93, 94, 5, 95, 77, 78, 79, 80, 70, 71, 590, 591, 592, 593, 594, 595, 596, 597, 598] (by decide +kernel) (by decide +kernel)
set_option maxRecDepth 20000 in
theorem gL_law_X3_ring : GoodIn wsL_law (wsV RL 74 RX3 yX3_ring wsX3_ring) := goodIn_app (goodIn_of _ (by decide +kernel)) ggL_law_X3_ring
set_option maxRecDepth 20000 in
theorem ggL_law_X2_put : GoodIn wsL_law wsX2_put := goodIn_r _ [371, 19, 15, 372, 373, 374, 375, 18, 376, 51, 100, 101, 102, 14, 103, 39, 588, 589, 605, 606, 607, 599, 600, 601, 602, 603, 604] (by decide +kernel) (by decide +kernel)
set_option maxRecDepth 20000 in
theorem gL_law_X2_put : GoodIn wsL_law (wsV RL 75 RX2 yX2_put wsX2_put) := goodIn_app (goodIn_of _ (by decide +kernel)) ggL_law_X2_put
set_option maxRecDepth 20000 in
theorem ggL_law_X3_put : GoodIn wsL_law wsX3_put := goodIn_r _ [380, 70, 381, 382, 383, 5, 384, 81, 93, 94, 95, 123, 124, 125, 126, 76, 590, 591, 592, 593, 594, 595, 596, 597, 598] (by decide +kernel) (by decide +kernel)
set_option maxRecDepth 20000 in
theorem gL_law_X3_put : GoodIn wsL_law (wsV RL 78 RX3 yX3_put wsX3_put) := goodIn_app (goodIn_of _ (by decide +kernel)) ggL_law_X3_put
set_option maxRecDepth 20000 in
theorem ggL_law_X2_at : GoodIn wsL_law wsX2_at := goodIn_r _ [388, 19, 372, 373, 374, 375, 18, 376, 51, 588, 589, 605, 606, 607] (by decide +kernel) (by decide +kernel)
set_option maxRecDepth 20000 in
theorem gL_law_X2_at : GoodIn wsL_law (wsV RL 79 RX2 yX2_at wsX2_at) := goodIn_app (goodIn_of _ (by decide +kernel)) ggL_law_X2_at
set_option maxRecDepth 20000 in
theorem ggL_law_X3_at : GoodIn wsL_law wsX3_at := goodIn_r _ [392, 70, 381, 382, 383, 5, 384, 81, 93, 94, 95, 590, 591, 592, 593, 594, 595, 596, 597, 598] (by decide +kernel) (by decide +kernel)
set_option maxRecDepth 20000 in
theorem gL_law_X3_at : GoodIn wsL_law (wsV RL 82 RX3 yX3_at wsX3_at) := goodIn_app (goodIn_of _ (by decide +kernel)) ggL_law_X3_at
set_option maxRecDepth 20000 in
theorem ggL_law_X2_faults : GoodIn wsL_law wsX2_faults := goodIn_r _ [396, 19, 362, 15, 397, 398, 399, 18, 400, 44, 401, 402, 403, 404, 51, 405, 105, 106, 14, 107, 25, 108, 101, 102, 103, 39, 109, 110, 111, 588, 589, 605, 606, 607, 599, 600, 601, 602, 603, 604] (by decide +kernel) (by decide +kernel)
set_option maxRecDepth 20000 in
theorem gL_law_X2_faults : GoodIn wsL_law (wsV RL 83 RX2 yX2_faults wsX2_faults) := goodIn_app (goodIn_of _ (by decide +kernel)) ggL_law_X2_faults
set_option maxRecDepth 20000 in
theorem ggL_law_X3_faults : GoodIn wsL_law wsX3_faults := goodIn_r _ [409, 81, 410, 411, 412, 5, 413, 65, 70, 414, 415, 416, 417, 590, 591, 592, 593, 594, 595, 596, 597, 598] (by decide +kernel) (by decide +kernel)
set_option maxRecDepth 20000 in
theorem gL_law_X3_faults : GoodIn wsL_law (wsV RL 86 RX3 yX3_faults wsX3_faults) := goodIn_app (goodIn_of _ (by decide +kernel)) ggL_law_X3_faults
set_option maxRecDepth 20000 in
theorem ggL_law_X2_fault : GoodIn wsL_law wsX2_fault := goodIn_r _ [421, 19, 15, 373, 374, 375, 18, 376, 51, 422, 423, 424, 425, 426, 398, 399, 400, 44, 401, 402, 403, 404, 405, 105, 106, 14, 107, 25, 108, 101, 102, 103, 39, 109, 110, 111, 588, 589, 605, 606, 607, 599, 600, 601, 602, 603, 604] (by decide +kernel) (by decide +kernel)
set_option maxRecDepth 20000 in
theorem gL_law_X2_fault : GoodIn wsL_law (wsV RL 87 RX2 yX2_fault wsX2_fault) := goodIn_app (goodIn_of _ (by decide +kernel)) ggL_law_X2_fault
set_option maxRecDepth 20000 in
theorem ggL_law_X3_fault : GoodIn wsL_law wsX3_fault := goodIn_r _ [430, 81, 381, 382, 383, 5, 384, 93, 94, 95, 414, 415, 416, 417, 410, 411, 412, 413, 65, 70, 590, 591, 592, 593, 594, 595, 596, 597, 598] (by decide +kernel) (by decide +kernel)
set_option maxRecDepth 20000 in
theorem gL_law_X3_fault : GoodIn wsL_law (wsV RL 90 RX3 yX3_fault wsX3_fault) := goodIn_app (goodIn_of _ (by decide +kernel)) ggL_law_X3_fault
set_option maxRecDepth 20000 in
theorem ggL_law_X2_mend : GoodIn wsL_law wsX2_mend := goodIn_r _ [434, 19, 15, 373, 374, 375, 18, 376, 51, 435, 436, 437, 438, 439, 440, 441, 442, 44, 443, 189, 190, 14, 191, 39, 192, 193, 194, 195, 27, 26, 25, 108, 101, 102, 103, 196, 197, 198, 199, 109, 110, 111, 200, 201, 202, 444, 445, 446, 447, 401, 402, 403, 404, 448, 449, 450, 451, 452, 453, 588, 589, 605, 606, 607, 599, 600, 601, 602, 603, 604] (by decide +kernel) (by decide +kernel)
set_option maxRecDepth 20000 in
theorem gL_law_X2_mend : GoodIn wsL_law (wsV RL 91 RX2 yX2_mend wsX2_mend) := goodIn_app (goodIn_of _ (by decide +kernel)) ggL_law_X2_mend
set_option maxRecDepth 20000 in
theorem ggL_law_X3_mend : GoodIn wsL_law wsX3_mend := goodIn_r _ [457, 81, 70, 69, 381, 382, 383, 5, 384, 93, 94, 95, 211, 212, 213, 214, 66, 76, 65, 215, 458, 459, 460, 461, 207, 208, 209, 210, 216, 217, 218, 219, 220, 221, 222, 223, 414, 415, 416, 417, 590, 591, 592, 593, 594, 595, 596, 597, 598] (by decide +kernel) (by decide +kernel)
set_option maxRecDepth 20000 in
theorem gL_law_X3_mend : GoodIn wsL_law (wsV RL 94 RX3 yX3_mend wsX3_mend) := goodIn_app (goodIn_of _ (by decide +kernel)) ggL_law_X3_mend
set_option maxRecDepth 20000 in
theorem ggL_law_X2_fresh : GoodIn wsL_law wsX2_fresh := goodIn_r _ [465, 15, 19, 362, 188, 189, 190, 14, 191, 39, 192, 193, 194, 195, 27, 26, 25, 108, 101, 102, 103, 196, 197, 198, 199, 109, 110, 111, 200, 201, 202, 466, 450, 451, 18, 452, 453, 44, 401, 402, 403, 404, 51, 588, 589, 605, 606, 607, 599, 600, 601, 602, 603, 604] (by decide +kernel) (by decide +kernel)
set_option maxRecDepth 20000 in
theorem gL_law_X2_fresh : GoodIn wsL_law (wsV RL 95 RX2 yX2_fresh wsX2_fresh) := goodIn_app (goodIn_of _ (by decide +kernel)) ggL_law_X2_fresh
set_option maxRecDepth 20000 in
theorem ggL_law_X3_fresh : GoodIn wsL_law wsX3_fresh := goodIn_r _ [470, 81, 70, 69, 207, 208, 209, 5, 210, 76, 211, 212, 213, 214, 66, 65, 215, 216, 217, 218, 219, 220, 221, 222, 223, 590, 591, 592, 593, 594, 595, 596, 597, 598] (by decide +kernel) (by decide +kernel)
set_option maxRecDepth 20000 in
theorem gL_law_X3_fresh : GoodIn wsL_law (wsV RL 98 RX3 yX3_fresh wsX3_fresh) := goodIn_app (goodIn_of _ (by decide +kernel)) ggL_law_X3_fresh
set_option maxRecDepth 20000 in
theorem ggL_law_X2_number : GoodIn wsL_law wsX2_number := goodIn_r _ [474, 19, 475, 476, 373, 374, 375, 18, 376, 51, 588, 589, 605, 606, 607] (by decide +kernel) (by decide +kernel)
set_option maxRecDepth 20000 in
theorem gL_law_X2_number : GoodIn wsL_law (wsV RL 99 RX2 yX2_number wsX2_number) := goodIn_app (goodIn_of _ (by decide +kernel)) ggL_law_X2_number
set_option maxRecDepth 20000 in
theorem ggL_law_X3_number : GoodIn wsL_law wsX3_number := goodIn_r _ [480, 481, 71, 381, 382, 383, 5, 384, 81, 93, 94, 95, 590, 591, 592, 593, 594, 595, 596, 597, 598] (by decide +kernel) (by decide +kernel)
set_option maxRecDepth 20000 in
theorem gL_law_X3_number : GoodIn wsL_law (wsV RL 102 RX3 yX3_number wsX3_number) := goodIn_app (goodIn_of _ (by decide +kernel)) ggL_law_X3_number
set_option maxRecDepth 20000 in
theorem ggL_law_X2_told : GoodIn wsL_law wsX2_told := goodIn_r _ [485, 19, 476, 373, 374, 375, 18, 376, 51, 588, 589, 605, 606, 607] (by decide +kernel) (by decide +kernel)
set_option maxRecDepth 20000 in
theorem gL_law_X2_told : GoodIn wsL_law (wsV RL 103 RX2 yX2_told wsX2_told) := goodIn_app (goodIn_of _ (by decide +kernel)) ggL_law_X2_told
set_option maxRecDepth 20000 in
theorem ggL_law_X3_told : GoodIn wsL_law wsX3_told := goodIn_r _ [489, 71, 381, 382, 383, 5, 384, 81, 93, 94, 95, 590, 591, 592, 593, 594, 595, 596, 597, 598] (by decide +kernel) (by decide +kernel)
set_option maxRecDepth 20000 in
theorem gL_law_X3_told : GoodIn wsL_law (wsV RL 106 RX3 yX3_told wsX3_told) := goodIn_app (goodIn_of _ (by decide +kernel)) ggL_law_X3_told
set_option maxRecDepth 20000 in
theorem ggL_law_X2_round : GoodIn wsL_law wsX2_round := goodIn_r _ [493, 19, 494, 495, 496, 18, 497, 51, 45, 401, 402, 403, 404, 498, 499, 500, 501, 502, 503, 504, 505, 506, 507, 508, 509, 510, 511, 512, 513, 514, 515, 516, 321, 37, 322, 588, 589, 605, 606, 607] (by decide +kernel) (by decide +kernel)
set_option maxRecDepth 20000 in
theorem gL_law_X2_round : GoodIn wsL_law (wsV RL 107 RX2 yX2_round wsX2_round) := goodIn_app (goodIn_of _ (by decide +kernel)) ggL_law_X2_round
set_option maxRecDepth 20000 in
theorem ggL_law_X3_round : GoodIn wsL_law wsX3_round := goodIn_r _ [520, 521, 522, 523, 5, 524, 81, 71, 414, 415, 416, 417, 525, 526, 527, 528, 69, 529, 530, 531, 532, 533, 534, 535, 590, 591, 592, 593, 594, 595, 596, 597, 598] (by decide +kernel) (by decide +kernel)
set_option maxRecDepth 20000 in
theorem gL_law_X3_round : GoodIn wsL_law (wsV RL 110 RX3 yX3_round wsX3_round) := goodIn_app (goodIn_of _ (by decide +kernel)) ggL_law_X3_round
set_option maxRecDepth 20000 in
theorem ggL_law_X2_colours : GoodIn wsL_law wsX2_colours := goodIn_r _ [539, 19, 494, 495, 496, 18, 497, 51, 45, 401, 402, 403, 404, 512, 513, 514, 515, 516, 321, 37, 322, 498, 499, 500, 501, 502, 503, 504, 505, 506, 507, 508, 509, 510, 511, 540, 541, 542, 543, 444, 445, 446, 447, 544, 545, 546, 588, 589, 605, 606, 607] (by decide +kernel) (by decide +kernel)
set_option maxRecDepth 20000 in
theorem gL_law_X2_colours : GoodIn wsL_law (wsV RL 111 RX2 yX2_colours wsX2_colours) := goodIn_app (goodIn_of _ (by decide +kernel)) ggL_law_X2_colours
set_option maxRecDepth 20000 in
theorem ggL_law_X3_colours : GoodIn wsL_law wsX3_colours := goodIn_r _ [550, 81, 71, 521, 522, 523, 5, 524, 414, 415, 416, 417, 532, 533, 534, 535, 525, 526, 527, 528, 69, 529, 530, 531, 590, 591, 592, 593, 594, 595, 596, 597, 598] (by decide +kernel) (by decide +kernel)
set_option maxRecDepth 20000 in
theorem gL_law_X3_colours : GoodIn wsL_law (wsV RL 114 RX3 yX3_colours wsX3_colours) := goodIn_app (goodIn_of _ (by decide +kernel)) ggL_law_X3_colours
set_option maxRecDepth 20000 in
theorem ggL_law_X2_take : GoodIn wsL_law wsX2_take := goodIn_r _ [554, 19, 15, 86, 512, 513, 514, 18, 515, 51, 45, 516, 321, 37, 322, 555, 556, 557, 558, 44, 559, 163, 164, 165, 588, 589, 599, 600, 601, 602, 603, 604, 605, 606, 607] (by decide +kernel) (by decide +kernel)
set_option maxRecDepth 20000 in
theorem gL_law_X2_take : GoodIn wsL_law (wsV RL 115 RX2 yX2_take wsX2_take) := goodIn_app (goodIn_of _ (by decide +kernel)) ggL_law_X2_take
set_option maxRecDepth 20000 in
theorem ggL_law_X3_take : GoodIn wsL_law wsX3_take := goodIn_r _ [563, 76, 81, 70, 71, 532, 533, 534, 5, 535, 590, 591, 592, 593, 594, 595, 596, 597, 598] (by decide +kernel) (by decide +kernel)
set_option maxRecDepth 20000 in
theorem gL_law_X3_take : GoodIn wsL_law (wsV RL 118 RX3 yX3_take wsX3_take) := goodIn_app (goodIn_of _ (by decide +kernel)) ggL_law_X3_take
set_option maxRecDepth 20000 in
theorem ggL_law_X2_count : GoodIn wsL_law wsX2_count := goodIn_r _ [567, 15, 86, 19, 362, 476, 372, 568, 569, 570, 14, 571, 39, 25, 572, 506, 507, 508, 509, 510, 511, 573, 574, 575, 18, 576, 51, 577, 578, 579, 494, 495, 496, 497, 45, 401, 402, 403, 404, 588, 589, 599, 600, 601, 602, 603, 604, 605, 606, 607] (by decide +kernel) (by decide +kernel)
set_option maxRecDepth 20000 in
theorem gL_law_X2_count : GoodIn wsL_law (wsV RL 119 RX2 yX2_count wsX2_count) := goodIn_app (goodIn_of _ (by decide +kernel)) ggL_law_X2_count
set_option maxRecDepth 20000 in
theorem ggL_law_X3_count : GoodIn wsL_law wsX3_count := goodIn_r _ [583, 65, 76, 81, 71, 70, 584, 585, 586, 5, 587, 521, 522, 523, 524, 414, 415, 416, 417, 590, 591, 592, 593, 594, 595, 596, 597, 598] (by decide +kernel) (by decide +kernel)
set_option maxRecDepth 20000 in
theorem gL_law_X3_count : GoodIn wsL_law (wsV RL 122 RX3 yX3_count wsX3_count) := goodIn_app (goodIn_of _ (by decide +kernel)) ggL_law_X3_count
theorem dL_law_0 : decode cL_law 0 = .ok (.new 7, 3) := by decide +kernel
theorem dL_law_3 : decode cL_law 3 = .ok (.dup, 1) := by decide +kernel
theorem dL_law_4 : decode cL_law 4 = .ok (.invokespecial 9, 3) := by decide +kernel
theorem dL_law_7 : decode cL_law 7 = .ok (.astore_n 1, 1) := by decide +kernel
theorem dL_law_8 : decode cL_law 8 = .ok (.new 10, 3) := by decide +kernel
theorem dL_law_11 : decode cL_law 11 = .ok (.dup, 1) := by decide +kernel
theorem dL_law_12 : decode cL_law 12 = .ok (.invokespecial 12, 3) := by decide +kernel
theorem dL_law_15 : decode cL_law 15 = .ok (.astore_n 2, 1) := by decide +kernel
theorem dL_law_16 : decode cL_law 16 = .ok (.iconst 0, 1) := by decide +kernel
theorem dL_law_17 : decode cL_law 17 = .ok (.istore_n 3, 1) := by decide +kernel
theorem dL_law_18 : decode cL_law 18 = .ok (.iload_n 3, 1) := by decide +kernel
theorem dL_law_19 : decode cL_law 19 = .ok (.aload_n 0, 1) := by decide +kernel
theorem dL_law_20 : decode cL_law 20 = .ok (.arraylength, 1) := by decide +kernel
theorem dL_law_21 : decode cL_law 21 = .ok (.iconst 4, 1) := by decide +kernel
theorem dL_law_22 : decode cL_law 22 = .ok (.isub, 1) := by decide +kernel
theorem dL_law_23 : decode cL_law 23 = .ok (.if_icmp .gt 741, 3) := by decide +kernel
theorem dL_law_26 : decode cL_law 26 = .ok (.aload_n 0, 1) := by decide +kernel
theorem dL_law_27 : decode cL_law 27 = .ok (.iload_n 3, 1) := by decide +kernel
theorem dL_law_28 : decode cL_law 28 = .ok (.iaload, 1) := by decide +kernel
theorem dL_law_29 : decode cL_law 29 = .ok (.bipush 31, 2) := by decide +kernel
theorem dL_law_31 : decode cL_law 31 = .ok (.iand, 1) := by decide +kernel
theorem dL_law_32 : decode cL_law 32 = .ok (.tableswitch 726 0 25 #[120, 143, 202, 235, 259, 292, 336, 349, 372, 395, 408, 421, 444, 457, 480, 513, 536, 549, 572, 595, 608, 641, 664, 677, 690, 703], 120) := by decide +kernel
theorem dL_law_152 : decode cL_law 152 = .ok (.aload_n 1, 1) := by decide +kernel
theorem dL_law_153 : decode cL_law 153 = .ok (.aload_n 0, 1) := by decide +kernel
theorem dL_law_154 : decode cL_law 154 = .ok (.iload_n 3, 1) := by decide +kernel
theorem dL_law_155 : decode cL_law 155 = .ok (.iconst 1, 1) := by decide +kernel
theorem dL_law_156 : decode cL_law 156 = .ok (.iadd, 1) := by decide +kernel
theorem dL_law_157 : decode cL_law 157 = .ok (.iaload, 1) := by decide +kernel
theorem dL_law_158 : decode cL_law 158 = .ok (.invokevirtual 13, 3) := by decide +kernel
theorem dL_law_161 : decode cL_law 161 = .ok (.aload_n 2, 1) := by decide +kernel
theorem dL_law_162 : decode cL_law 162 = .ok (.aload_n 0, 1) := by decide +kernel
theorem dL_law_163 : decode cL_law 163 = .ok (.iload_n 3, 1) := by decide +kernel
theorem dL_law_164 : decode cL_law 164 = .ok (.iconst 1, 1) := by decide +kernel
theorem dL_law_165 : decode cL_law 165 = .ok (.iadd, 1) := by decide +kernel
theorem dL_law_166 : decode cL_law 166 = .ok (.iaload, 1) := by decide +kernel
theorem dL_law_167 : decode cL_law 167 = .ok (.invokevirtual 17, 3) := by decide +kernel
theorem dL_law_170 : decode cL_law 170 = .ok (.if_icmp .eq 588, 3) := by decide +kernel
theorem dL_law_173 : decode cL_law 173 = .ok (.iconst 0, 1) := by decide +kernel
theorem dL_law_174 : decode cL_law 174 = .ok (.ireturn, 1) := by decide +kernel
theorem dL_law_175 : decode cL_law 175 = .ok (.aload_n 1, 1) := by decide +kernel
theorem dL_law_176 : decode cL_law 176 = .ok (.aload_n 0, 1) := by decide +kernel
theorem dL_law_177 : decode cL_law 177 = .ok (.iload_n 3, 1) := by decide +kernel
theorem dL_law_178 : decode cL_law 178 = .ok (.iconst 1, 1) := by decide +kernel
theorem dL_law_179 : decode cL_law 179 = .ok (.iadd, 1) := by decide +kernel
theorem dL_law_180 : decode cL_law 180 = .ok (.iaload, 1) := by decide +kernel
theorem dL_law_181 : decode cL_law 181 = .ok (.aload_n 0, 1) := by decide +kernel
theorem dL_law_182 : decode cL_law 182 = .ok (.iload_n 3, 1) := by decide +kernel
theorem dL_law_183 : decode cL_law 183 = .ok (.iconst 2, 1) := by decide +kernel
theorem dL_law_184 : decode cL_law 184 = .ok (.iadd, 1) := by decide +kernel
theorem dL_law_185 : decode cL_law 185 = .ok (.iaload, 1) := by decide +kernel
theorem dL_law_186 : decode cL_law 186 = .ok (.aload_n 0, 1) := by decide +kernel
theorem dL_law_187 : decode cL_law 187 = .ok (.iload_n 3, 1) := by decide +kernel
theorem dL_law_188 : decode cL_law 188 = .ok (.iconst 3, 1) := by decide +kernel
theorem dL_law_189 : decode cL_law 189 = .ok (.iadd, 1) := by decide +kernel
theorem dL_law_190 : decode cL_law 190 = .ok (.iaload, 1) := by decide +kernel
theorem dL_law_191 : decode cL_law 191 = .ok (.ifCond .eq 7, 3) := by decide +kernel
theorem dL_law_194 : decode cL_law 194 = .ok (.iconst 1, 1) := by decide +kernel
theorem dL_law_195 : decode cL_law 195 = .ok (.goto 4, 3) := by decide +kernel
theorem dL_law_198 : decode cL_law 198 = .ok (.iconst 0, 1) := by decide +kernel
theorem dL_law_199 : decode cL_law 199 = .ok (.invokevirtual 18, 3) := by decide +kernel
theorem dL_law_202 : decode cL_law 202 = .ok (.aload_n 2, 1) := by decide +kernel
theorem dL_law_203 : decode cL_law 203 = .ok (.aload_n 0, 1) := by decide +kernel
theorem dL_law_204 : decode cL_law 204 = .ok (.iload_n 3, 1) := by decide +kernel
theorem dL_law_205 : decode cL_law 205 = .ok (.iconst 1, 1) := by decide +kernel
theorem dL_law_206 : decode cL_law 206 = .ok (.iadd, 1) := by decide +kernel
theorem dL_law_207 : decode cL_law 207 = .ok (.iaload, 1) := by decide +kernel
theorem dL_law_208 : decode cL_law 208 = .ok (.aload_n 0, 1) := by decide +kernel
theorem dL_law_209 : decode cL_law 209 = .ok (.iload_n 3, 1) := by decide +kernel
theorem dL_law_210 : decode cL_law 210 = .ok (.iconst 2, 1) := by decide +kernel
theorem dL_law_211 : decode cL_law 211 = .ok (.iadd, 1) := by decide +kernel
theorem dL_law_212 : decode cL_law 212 = .ok (.iaload, 1) := by decide +kernel
theorem dL_law_213 : decode cL_law 213 = .ok (.aload_n 0, 1) := by decide +kernel
theorem dL_law_214 : decode cL_law 214 = .ok (.iload_n 3, 1) := by decide +kernel
theorem dL_law_215 : decode cL_law 215 = .ok (.iconst 3, 1) := by decide +kernel
theorem dL_law_216 : decode cL_law 216 = .ok (.iadd, 1) := by decide +kernel
theorem dL_law_217 : decode cL_law 217 = .ok (.iaload, 1) := by decide +kernel
theorem dL_law_218 : decode cL_law 218 = .ok (.ifCond .eq 7, 3) := by decide +kernel
theorem dL_law_221 : decode cL_law 221 = .ok (.iconst 1, 1) := by decide +kernel
theorem dL_law_222 : decode cL_law 222 = .ok (.goto 4, 3) := by decide +kernel
theorem dL_law_225 : decode cL_law 225 = .ok (.iconst 0, 1) := by decide +kernel
theorem dL_law_226 : decode cL_law 226 = .ok (.invokevirtual 22, 3) := by decide +kernel
theorem dL_law_229 : decode cL_law 229 = .ok (.if_icmp .eq 529, 3) := by decide +kernel
theorem dL_law_232 : decode cL_law 232 = .ok (.iconst 0, 1) := by decide +kernel
theorem dL_law_233 : decode cL_law 233 = .ok (.ireturn, 1) := by decide +kernel
theorem dL_law_234 : decode cL_law 234 = .ok (.aload_n 1, 1) := by decide +kernel
theorem dL_law_235 : decode cL_law 235 = .ok (.aload_n 0, 1) := by decide +kernel
theorem dL_law_236 : decode cL_law 236 = .ok (.iload_n 3, 1) := by decide +kernel
theorem dL_law_237 : decode cL_law 237 = .ok (.iconst 1, 1) := by decide +kernel
theorem dL_law_238 : decode cL_law 238 = .ok (.iadd, 1) := by decide +kernel
theorem dL_law_239 : decode cL_law 239 = .ok (.iaload, 1) := by decide +kernel
theorem dL_law_240 : decode cL_law 240 = .ok (.aload_n 0, 1) := by decide +kernel
theorem dL_law_241 : decode cL_law 241 = .ok (.iload_n 3, 1) := by decide +kernel
theorem dL_law_242 : decode cL_law 242 = .ok (.iconst 2, 1) := by decide +kernel
theorem dL_law_243 : decode cL_law 243 = .ok (.iadd, 1) := by decide +kernel
theorem dL_law_244 : decode cL_law 244 = .ok (.iaload, 1) := by decide +kernel
theorem dL_law_245 : decode cL_law 245 = .ok (.invokevirtual 23, 3) := by decide +kernel
theorem dL_law_248 : decode cL_law 248 = .ok (.aload_n 2, 1) := by decide +kernel
theorem dL_law_249 : decode cL_law 249 = .ok (.aload_n 0, 1) := by decide +kernel
theorem dL_law_250 : decode cL_law 250 = .ok (.iload_n 3, 1) := by decide +kernel
theorem dL_law_251 : decode cL_law 251 = .ok (.iconst 1, 1) := by decide +kernel
theorem dL_law_252 : decode cL_law 252 = .ok (.iadd, 1) := by decide +kernel
theorem dL_law_253 : decode cL_law 253 = .ok (.iaload, 1) := by decide +kernel
theorem dL_law_254 : decode cL_law 254 = .ok (.aload_n 0, 1) := by decide +kernel
theorem dL_law_255 : decode cL_law 255 = .ok (.iload_n 3, 1) := by decide +kernel
theorem dL_law_256 : decode cL_law 256 = .ok (.iconst 2, 1) := by decide +kernel
theorem dL_law_257 : decode cL_law 257 = .ok (.iadd, 1) := by decide +kernel
theorem dL_law_258 : decode cL_law 258 = .ok (.iaload, 1) := by decide +kernel
theorem dL_law_259 : decode cL_law 259 = .ok (.invokevirtual 27, 3) := by decide +kernel
theorem dL_law_262 : decode cL_law 262 = .ok (.if_icmp .eq 496, 3) := by decide +kernel
theorem dL_law_265 : decode cL_law 265 = .ok (.iconst 0, 1) := by decide +kernel
theorem dL_law_266 : decode cL_law 266 = .ok (.ireturn, 1) := by decide +kernel
theorem dL_law_267 : decode cL_law 267 = .ok (.aload_n 1, 1) := by decide +kernel
theorem dL_law_268 : decode cL_law 268 = .ok (.aload_n 0, 1) := by decide +kernel
theorem dL_law_269 : decode cL_law 269 = .ok (.iload_n 3, 1) := by decide +kernel
theorem dL_law_270 : decode cL_law 270 = .ok (.iconst 1, 1) := by decide +kernel
theorem dL_law_271 : decode cL_law 271 = .ok (.iadd, 1) := by decide +kernel
theorem dL_law_272 : decode cL_law 272 = .ok (.iaload, 1) := by decide +kernel
theorem dL_law_273 : decode cL_law 273 = .ok (.invokevirtual 28, 3) := by decide +kernel
theorem dL_law_276 : decode cL_law 276 = .ok (.aload_n 2, 1) := by decide +kernel
theorem dL_law_277 : decode cL_law 277 = .ok (.aload_n 0, 1) := by decide +kernel
theorem dL_law_278 : decode cL_law 278 = .ok (.iload_n 3, 1) := by decide +kernel
theorem dL_law_279 : decode cL_law 279 = .ok (.iconst 1, 1) := by decide +kernel
theorem dL_law_280 : decode cL_law 280 = .ok (.iadd, 1) := by decide +kernel
theorem dL_law_281 : decode cL_law 281 = .ok (.iaload, 1) := by decide +kernel
theorem dL_law_282 : decode cL_law 282 = .ok (.invokevirtual 32, 3) := by decide +kernel
theorem dL_law_285 : decode cL_law 285 = .ok (.lcmp, 1) := by decide +kernel
theorem dL_law_286 : decode cL_law 286 = .ok (.ifCond .eq 472, 3) := by decide +kernel
theorem dL_law_289 : decode cL_law 289 = .ok (.iconst 0, 1) := by decide +kernel
theorem dL_law_290 : decode cL_law 290 = .ok (.ireturn, 1) := by decide +kernel
theorem dL_law_291 : decode cL_law 291 = .ok (.aload_n 1, 1) := by decide +kernel
theorem dL_law_292 : decode cL_law 292 = .ok (.aload_n 0, 1) := by decide +kernel
theorem dL_law_293 : decode cL_law 293 = .ok (.iload_n 3, 1) := by decide +kernel
theorem dL_law_294 : decode cL_law 294 = .ok (.iconst 1, 1) := by decide +kernel
theorem dL_law_295 : decode cL_law 295 = .ok (.iadd, 1) := by decide +kernel
theorem dL_law_296 : decode cL_law 296 = .ok (.iaload, 1) := by decide +kernel
theorem dL_law_297 : decode cL_law 297 = .ok (.aload_n 0, 1) := by decide +kernel
theorem dL_law_298 : decode cL_law 298 = .ok (.iload_n 3, 1) := by decide +kernel
theorem dL_law_299 : decode cL_law 299 = .ok (.iconst 2, 1) := by decide +kernel
theorem dL_law_300 : decode cL_law 300 = .ok (.iadd, 1) := by decide +kernel
theorem dL_law_301 : decode cL_law 301 = .ok (.iaload, 1) := by decide +kernel
theorem dL_law_302 : decode cL_law 302 = .ok (.invokevirtual 33, 3) := by decide +kernel
theorem dL_law_305 : decode cL_law 305 = .ok (.aload_n 2, 1) := by decide +kernel
theorem dL_law_306 : decode cL_law 306 = .ok (.aload_n 0, 1) := by decide +kernel
theorem dL_law_307 : decode cL_law 307 = .ok (.iload_n 3, 1) := by decide +kernel
theorem dL_law_308 : decode cL_law 308 = .ok (.iconst 1, 1) := by decide +kernel
theorem dL_law_309 : decode cL_law 309 = .ok (.iadd, 1) := by decide +kernel
theorem dL_law_310 : decode cL_law 310 = .ok (.iaload, 1) := by decide +kernel
theorem dL_law_311 : decode cL_law 311 = .ok (.aload_n 0, 1) := by decide +kernel
theorem dL_law_312 : decode cL_law 312 = .ok (.iload_n 3, 1) := by decide +kernel
theorem dL_law_313 : decode cL_law 313 = .ok (.iconst 2, 1) := by decide +kernel
theorem dL_law_314 : decode cL_law 314 = .ok (.iadd, 1) := by decide +kernel
theorem dL_law_315 : decode cL_law 315 = .ok (.iaload, 1) := by decide +kernel
theorem dL_law_316 : decode cL_law 316 = .ok (.invokevirtual 36, 3) := by decide +kernel
theorem dL_law_319 : decode cL_law 319 = .ok (.if_icmp .eq 439, 3) := by decide +kernel
theorem dL_law_322 : decode cL_law 322 = .ok (.iconst 0, 1) := by decide +kernel
theorem dL_law_323 : decode cL_law 323 = .ok (.ireturn, 1) := by decide +kernel
theorem dL_law_324 : decode cL_law 324 = .ok (.aload_n 1, 1) := by decide +kernel
theorem dL_law_325 : decode cL_law 325 = .ok (.aload_n 0, 1) := by decide +kernel
theorem dL_law_326 : decode cL_law 326 = .ok (.iload_n 3, 1) := by decide +kernel
theorem dL_law_327 : decode cL_law 327 = .ok (.iconst 1, 1) := by decide +kernel
theorem dL_law_328 : decode cL_law 328 = .ok (.iadd, 1) := by decide +kernel
theorem dL_law_329 : decode cL_law 329 = .ok (.iaload, 1) := by decide +kernel
theorem dL_law_330 : decode cL_law 330 = .ok (.aload_n 0, 1) := by decide +kernel
theorem dL_law_331 : decode cL_law 331 = .ok (.iload_n 3, 1) := by decide +kernel
theorem dL_law_332 : decode cL_law 332 = .ok (.iconst 2, 1) := by decide +kernel
theorem dL_law_333 : decode cL_law 333 = .ok (.iadd, 1) := by decide +kernel
theorem dL_law_334 : decode cL_law 334 = .ok (.iaload, 1) := by decide +kernel
theorem dL_law_335 : decode cL_law 335 = .ok (.aload_n 0, 1) := by decide +kernel
theorem dL_law_336 : decode cL_law 336 = .ok (.iload_n 3, 1) := by decide +kernel
theorem dL_law_337 : decode cL_law 337 = .ok (.iconst 3, 1) := by decide +kernel
theorem dL_law_338 : decode cL_law 338 = .ok (.iadd, 1) := by decide +kernel
theorem dL_law_339 : decode cL_law 339 = .ok (.iaload, 1) := by decide +kernel
theorem dL_law_340 : decode cL_law 340 = .ok (.invokevirtual 37, 3) := by decide +kernel
theorem dL_law_343 : decode cL_law 343 = .ok (.aload_n 2, 1) := by decide +kernel
theorem dL_law_344 : decode cL_law 344 = .ok (.aload_n 0, 1) := by decide +kernel
theorem dL_law_345 : decode cL_law 345 = .ok (.iload_n 3, 1) := by decide +kernel
theorem dL_law_346 : decode cL_law 346 = .ok (.iconst 1, 1) := by decide +kernel
theorem dL_law_347 : decode cL_law 347 = .ok (.iadd, 1) := by decide +kernel
theorem dL_law_348 : decode cL_law 348 = .ok (.iaload, 1) := by decide +kernel
theorem dL_law_349 : decode cL_law 349 = .ok (.aload_n 0, 1) := by decide +kernel
theorem dL_law_350 : decode cL_law 350 = .ok (.iload_n 3, 1) := by decide +kernel
theorem dL_law_351 : decode cL_law 351 = .ok (.iconst 2, 1) := by decide +kernel
theorem dL_law_352 : decode cL_law 352 = .ok (.iadd, 1) := by decide +kernel
theorem dL_law_353 : decode cL_law 353 = .ok (.iaload, 1) := by decide +kernel
theorem dL_law_354 : decode cL_law 354 = .ok (.aload_n 0, 1) := by decide +kernel
theorem dL_law_355 : decode cL_law 355 = .ok (.iload_n 3, 1) := by decide +kernel
theorem dL_law_356 : decode cL_law 356 = .ok (.iconst 3, 1) := by decide +kernel
theorem dL_law_357 : decode cL_law 357 = .ok (.iadd, 1) := by decide +kernel
theorem dL_law_358 : decode cL_law 358 = .ok (.iaload, 1) := by decide +kernel
theorem dL_law_359 : decode cL_law 359 = .ok (.invokevirtual 41, 3) := by decide +kernel
theorem dL_law_362 : decode cL_law 362 = .ok (.lcmp, 1) := by decide +kernel
theorem dL_law_363 : decode cL_law 363 = .ok (.ifCond .eq 395, 3) := by decide +kernel
theorem dL_law_366 : decode cL_law 366 = .ok (.iconst 0, 1) := by decide +kernel
theorem dL_law_367 : decode cL_law 367 = .ok (.ireturn, 1) := by decide +kernel
theorem dL_law_368 : decode cL_law 368 = .ok (.aload_n 1, 1) := by decide +kernel
theorem dL_law_369 : decode cL_law 369 = .ok (.invokevirtual 42, 3) := by decide +kernel
theorem dL_law_372 : decode cL_law 372 = .ok (.aload_n 2, 1) := by decide +kernel
theorem dL_law_373 : decode cL_law 373 = .ok (.invokevirtual 46, 3) := by decide +kernel
theorem dL_law_376 : decode cL_law 376 = .ok (.if_icmp .eq 382, 3) := by decide +kernel
theorem dL_law_379 : decode cL_law 379 = .ok (.iconst 0, 1) := by decide +kernel
theorem dL_law_380 : decode cL_law 380 = .ok (.ireturn, 1) := by decide +kernel
theorem dL_law_381 : decode cL_law 381 = .ok (.aload_n 1, 1) := by decide +kernel
theorem dL_law_382 : decode cL_law 382 = .ok (.aload_n 0, 1) := by decide +kernel
theorem dL_law_383 : decode cL_law 383 = .ok (.iload_n 3, 1) := by decide +kernel
theorem dL_law_384 : decode cL_law 384 = .ok (.iconst 1, 1) := by decide +kernel
theorem dL_law_385 : decode cL_law 385 = .ok (.iadd, 1) := by decide +kernel
theorem dL_law_386 : decode cL_law 386 = .ok (.iaload, 1) := by decide +kernel
theorem dL_law_387 : decode cL_law 387 = .ok (.invokevirtual 47, 3) := by decide +kernel
theorem dL_law_390 : decode cL_law 390 = .ok (.aload_n 2, 1) := by decide +kernel
theorem dL_law_391 : decode cL_law 391 = .ok (.aload_n 0, 1) := by decide +kernel
theorem dL_law_392 : decode cL_law 392 = .ok (.iload_n 3, 1) := by decide +kernel
theorem dL_law_393 : decode cL_law 393 = .ok (.iconst 1, 1) := by decide +kernel
theorem dL_law_394 : decode cL_law 394 = .ok (.iadd, 1) := by decide +kernel
theorem dL_law_395 : decode cL_law 395 = .ok (.iaload, 1) := by decide +kernel
theorem dL_law_396 : decode cL_law 396 = .ok (.invokevirtual 50, 3) := by decide +kernel
theorem dL_law_399 : decode cL_law 399 = .ok (.if_icmp .eq 359, 3) := by decide +kernel
theorem dL_law_402 : decode cL_law 402 = .ok (.iconst 0, 1) := by decide +kernel
theorem dL_law_403 : decode cL_law 403 = .ok (.ireturn, 1) := by decide +kernel
theorem dL_law_404 : decode cL_law 404 = .ok (.aload_n 1, 1) := by decide +kernel
theorem dL_law_405 : decode cL_law 405 = .ok (.aload_n 0, 1) := by decide +kernel
theorem dL_law_406 : decode cL_law 406 = .ok (.iload_n 3, 1) := by decide +kernel
theorem dL_law_407 : decode cL_law 407 = .ok (.iconst 1, 1) := by decide +kernel
theorem dL_law_408 : decode cL_law 408 = .ok (.iadd, 1) := by decide +kernel
theorem dL_law_409 : decode cL_law 409 = .ok (.iaload, 1) := by decide +kernel
theorem dL_law_410 : decode cL_law 410 = .ok (.invokevirtual 51, 3) := by decide +kernel
theorem dL_law_413 : decode cL_law 413 = .ok (.aload_n 2, 1) := by decide +kernel
theorem dL_law_414 : decode cL_law 414 = .ok (.aload_n 0, 1) := by decide +kernel
theorem dL_law_415 : decode cL_law 415 = .ok (.iload_n 3, 1) := by decide +kernel
theorem dL_law_416 : decode cL_law 416 = .ok (.iconst 1, 1) := by decide +kernel
theorem dL_law_417 : decode cL_law 417 = .ok (.iadd, 1) := by decide +kernel
theorem dL_law_418 : decode cL_law 418 = .ok (.iaload, 1) := by decide +kernel
theorem dL_law_419 : decode cL_law 419 = .ok (.invokevirtual 54, 3) := by decide +kernel
theorem dL_law_422 : decode cL_law 422 = .ok (.if_icmp .eq 336, 3) := by decide +kernel
theorem dL_law_425 : decode cL_law 425 = .ok (.iconst 0, 1) := by decide +kernel
theorem dL_law_426 : decode cL_law 426 = .ok (.ireturn, 1) := by decide +kernel
theorem dL_law_427 : decode cL_law 427 = .ok (.aload_n 1, 1) := by decide +kernel
theorem dL_law_428 : decode cL_law 428 = .ok (.invokevirtual 55, 3) := by decide +kernel
theorem dL_law_431 : decode cL_law 431 = .ok (.aload_n 2, 1) := by decide +kernel
theorem dL_law_432 : decode cL_law 432 = .ok (.invokevirtual 58, 3) := by decide +kernel
theorem dL_law_435 : decode cL_law 435 = .ok (.if_icmp .eq 323, 3) := by decide +kernel
theorem dL_law_438 : decode cL_law 438 = .ok (.iconst 0, 1) := by decide +kernel
theorem dL_law_439 : decode cL_law 439 = .ok (.ireturn, 1) := by decide +kernel
theorem dL_law_440 : decode cL_law 440 = .ok (.aload_n 1, 1) := by decide +kernel
theorem dL_law_441 : decode cL_law 441 = .ok (.invokevirtual 59, 3) := by decide +kernel
theorem dL_law_444 : decode cL_law 444 = .ok (.aload_n 2, 1) := by decide +kernel
theorem dL_law_445 : decode cL_law 445 = .ok (.invokevirtual 62, 3) := by decide +kernel
theorem dL_law_448 : decode cL_law 448 = .ok (.if_icmp .eq 310, 3) := by decide +kernel
theorem dL_law_451 : decode cL_law 451 = .ok (.iconst 0, 1) := by decide +kernel
theorem dL_law_452 : decode cL_law 452 = .ok (.ireturn, 1) := by decide +kernel
theorem dL_law_453 : decode cL_law 453 = .ok (.aload_n 1, 1) := by decide +kernel
theorem dL_law_454 : decode cL_law 454 = .ok (.aload_n 0, 1) := by decide +kernel
theorem dL_law_455 : decode cL_law 455 = .ok (.iload_n 3, 1) := by decide +kernel
theorem dL_law_456 : decode cL_law 456 = .ok (.iconst 1, 1) := by decide +kernel
theorem dL_law_457 : decode cL_law 457 = .ok (.iadd, 1) := by decide +kernel
theorem dL_law_458 : decode cL_law 458 = .ok (.iaload, 1) := by decide +kernel
theorem dL_law_459 : decode cL_law 459 = .ok (.invokevirtual 63, 3) := by decide +kernel
theorem dL_law_462 : decode cL_law 462 = .ok (.aload_n 2, 1) := by decide +kernel
theorem dL_law_463 : decode cL_law 463 = .ok (.aload_n 0, 1) := by decide +kernel
theorem dL_law_464 : decode cL_law 464 = .ok (.iload_n 3, 1) := by decide +kernel
theorem dL_law_465 : decode cL_law 465 = .ok (.iconst 1, 1) := by decide +kernel
theorem dL_law_466 : decode cL_law 466 = .ok (.iadd, 1) := by decide +kernel
theorem dL_law_467 : decode cL_law 467 = .ok (.iaload, 1) := by decide +kernel
theorem dL_law_468 : decode cL_law 468 = .ok (.invokevirtual 66, 3) := by decide +kernel
theorem dL_law_471 : decode cL_law 471 = .ok (.if_icmp .eq 287, 3) := by decide +kernel
theorem dL_law_474 : decode cL_law 474 = .ok (.iconst 0, 1) := by decide +kernel
theorem dL_law_475 : decode cL_law 475 = .ok (.ireturn, 1) := by decide +kernel
theorem dL_law_476 : decode cL_law 476 = .ok (.aload_n 1, 1) := by decide +kernel
theorem dL_law_477 : decode cL_law 477 = .ok (.invokevirtual 67, 3) := by decide +kernel
theorem dL_law_480 : decode cL_law 480 = .ok (.aload_n 2, 1) := by decide +kernel
theorem dL_law_481 : decode cL_law 481 = .ok (.invokevirtual 70, 3) := by decide +kernel
theorem dL_law_484 : decode cL_law 484 = .ok (.if_icmp .eq 274, 3) := by decide +kernel
theorem dL_law_487 : decode cL_law 487 = .ok (.iconst 0, 1) := by decide +kernel
theorem dL_law_488 : decode cL_law 488 = .ok (.ireturn, 1) := by decide +kernel
theorem dL_law_489 : decode cL_law 489 = .ok (.aload_n 1, 1) := by decide +kernel
theorem dL_law_490 : decode cL_law 490 = .ok (.aload_n 0, 1) := by decide +kernel
theorem dL_law_491 : decode cL_law 491 = .ok (.iload_n 3, 1) := by decide +kernel
theorem dL_law_492 : decode cL_law 492 = .ok (.iconst 1, 1) := by decide +kernel
theorem dL_law_493 : decode cL_law 493 = .ok (.iadd, 1) := by decide +kernel
theorem dL_law_494 : decode cL_law 494 = .ok (.iaload, 1) := by decide +kernel
theorem dL_law_495 : decode cL_law 495 = .ok (.invokevirtual 71, 3) := by decide +kernel
theorem dL_law_498 : decode cL_law 498 = .ok (.aload_n 2, 1) := by decide +kernel
theorem dL_law_499 : decode cL_law 499 = .ok (.aload_n 0, 1) := by decide +kernel
theorem dL_law_500 : decode cL_law 500 = .ok (.iload_n 3, 1) := by decide +kernel
theorem dL_law_501 : decode cL_law 501 = .ok (.iconst 1, 1) := by decide +kernel
theorem dL_law_502 : decode cL_law 502 = .ok (.iadd, 1) := by decide +kernel
theorem dL_law_503 : decode cL_law 503 = .ok (.iaload, 1) := by decide +kernel
theorem dL_law_504 : decode cL_law 504 = .ok (.invokevirtual 74, 3) := by decide +kernel
theorem dL_law_507 : decode cL_law 507 = .ok (.if_icmp .eq 251, 3) := by decide +kernel
theorem dL_law_510 : decode cL_law 510 = .ok (.iconst 0, 1) := by decide +kernel
theorem dL_law_511 : decode cL_law 511 = .ok (.ireturn, 1) := by decide +kernel
theorem dL_law_512 : decode cL_law 512 = .ok (.aload_n 1, 1) := by decide +kernel
theorem dL_law_513 : decode cL_law 513 = .ok (.aload_n 0, 1) := by decide +kernel
theorem dL_law_514 : decode cL_law 514 = .ok (.iload_n 3, 1) := by decide +kernel
theorem dL_law_515 : decode cL_law 515 = .ok (.iconst 1, 1) := by decide +kernel
theorem dL_law_516 : decode cL_law 516 = .ok (.iadd, 1) := by decide +kernel
theorem dL_law_517 : decode cL_law 517 = .ok (.iaload, 1) := by decide +kernel
theorem dL_law_518 : decode cL_law 518 = .ok (.aload_n 0, 1) := by decide +kernel
theorem dL_law_519 : decode cL_law 519 = .ok (.iload_n 3, 1) := by decide +kernel
theorem dL_law_520 : decode cL_law 520 = .ok (.iconst 2, 1) := by decide +kernel
theorem dL_law_521 : decode cL_law 521 = .ok (.iadd, 1) := by decide +kernel
theorem dL_law_522 : decode cL_law 522 = .ok (.iaload, 1) := by decide +kernel
theorem dL_law_523 : decode cL_law 523 = .ok (.invokevirtual 75, 3) := by decide +kernel
theorem dL_law_526 : decode cL_law 526 = .ok (.aload_n 2, 1) := by decide +kernel
theorem dL_law_527 : decode cL_law 527 = .ok (.aload_n 0, 1) := by decide +kernel
theorem dL_law_528 : decode cL_law 528 = .ok (.iload_n 3, 1) := by decide +kernel
theorem dL_law_529 : decode cL_law 529 = .ok (.iconst 1, 1) := by decide +kernel
theorem dL_law_530 : decode cL_law 530 = .ok (.iadd, 1) := by decide +kernel
theorem dL_law_531 : decode cL_law 531 = .ok (.iaload, 1) := by decide +kernel
theorem dL_law_532 : decode cL_law 532 = .ok (.aload_n 0, 1) := by decide +kernel
theorem dL_law_533 : decode cL_law 533 = .ok (.iload_n 3, 1) := by decide +kernel
theorem dL_law_534 : decode cL_law 534 = .ok (.iconst 2, 1) := by decide +kernel
theorem dL_law_535 : decode cL_law 535 = .ok (.iadd, 1) := by decide +kernel
theorem dL_law_536 : decode cL_law 536 = .ok (.iaload, 1) := by decide +kernel
theorem dL_law_537 : decode cL_law 537 = .ok (.invokevirtual 78, 3) := by decide +kernel
theorem dL_law_540 : decode cL_law 540 = .ok (.if_icmp .eq 218, 3) := by decide +kernel
theorem dL_law_543 : decode cL_law 543 = .ok (.iconst 0, 1) := by decide +kernel
theorem dL_law_544 : decode cL_law 544 = .ok (.ireturn, 1) := by decide +kernel
theorem dL_law_545 : decode cL_law 545 = .ok (.aload_n 1, 1) := by decide +kernel
theorem dL_law_546 : decode cL_law 546 = .ok (.aload_n 0, 1) := by decide +kernel
theorem dL_law_547 : decode cL_law 547 = .ok (.iload_n 3, 1) := by decide +kernel
theorem dL_law_548 : decode cL_law 548 = .ok (.iconst 1, 1) := by decide +kernel
theorem dL_law_549 : decode cL_law 549 = .ok (.iadd, 1) := by decide +kernel
theorem dL_law_550 : decode cL_law 550 = .ok (.iaload, 1) := by decide +kernel
theorem dL_law_551 : decode cL_law 551 = .ok (.invokevirtual 79, 3) := by decide +kernel
theorem dL_law_554 : decode cL_law 554 = .ok (.aload_n 2, 1) := by decide +kernel
theorem dL_law_555 : decode cL_law 555 = .ok (.aload_n 0, 1) := by decide +kernel
theorem dL_law_556 : decode cL_law 556 = .ok (.iload_n 3, 1) := by decide +kernel
theorem dL_law_557 : decode cL_law 557 = .ok (.iconst 1, 1) := by decide +kernel
theorem dL_law_558 : decode cL_law 558 = .ok (.iadd, 1) := by decide +kernel
theorem dL_law_559 : decode cL_law 559 = .ok (.iaload, 1) := by decide +kernel
theorem dL_law_560 : decode cL_law 560 = .ok (.invokevirtual 82, 3) := by decide +kernel
theorem dL_law_563 : decode cL_law 563 = .ok (.if_icmp .eq 195, 3) := by decide +kernel
theorem dL_law_566 : decode cL_law 566 = .ok (.iconst 0, 1) := by decide +kernel
theorem dL_law_567 : decode cL_law 567 = .ok (.ireturn, 1) := by decide +kernel
theorem dL_law_568 : decode cL_law 568 = .ok (.aload_n 1, 1) := by decide +kernel
theorem dL_law_569 : decode cL_law 569 = .ok (.invokevirtual 83, 3) := by decide +kernel
theorem dL_law_572 : decode cL_law 572 = .ok (.aload_n 2, 1) := by decide +kernel
theorem dL_law_573 : decode cL_law 573 = .ok (.invokevirtual 86, 3) := by decide +kernel
theorem dL_law_576 : decode cL_law 576 = .ok (.if_icmp .eq 182, 3) := by decide +kernel
theorem dL_law_579 : decode cL_law 579 = .ok (.iconst 0, 1) := by decide +kernel
theorem dL_law_580 : decode cL_law 580 = .ok (.ireturn, 1) := by decide +kernel
theorem dL_law_581 : decode cL_law 581 = .ok (.aload_n 1, 1) := by decide +kernel
theorem dL_law_582 : decode cL_law 582 = .ok (.aload_n 0, 1) := by decide +kernel
theorem dL_law_583 : decode cL_law 583 = .ok (.iload_n 3, 1) := by decide +kernel
theorem dL_law_584 : decode cL_law 584 = .ok (.iconst 1, 1) := by decide +kernel
theorem dL_law_585 : decode cL_law 585 = .ok (.iadd, 1) := by decide +kernel
theorem dL_law_586 : decode cL_law 586 = .ok (.iaload, 1) := by decide +kernel
theorem dL_law_587 : decode cL_law 587 = .ok (.invokevirtual 87, 3) := by decide +kernel
theorem dL_law_590 : decode cL_law 590 = .ok (.aload_n 2, 1) := by decide +kernel
theorem dL_law_591 : decode cL_law 591 = .ok (.aload_n 0, 1) := by decide +kernel
theorem dL_law_592 : decode cL_law 592 = .ok (.iload_n 3, 1) := by decide +kernel
theorem dL_law_593 : decode cL_law 593 = .ok (.iconst 1, 1) := by decide +kernel
theorem dL_law_594 : decode cL_law 594 = .ok (.iadd, 1) := by decide +kernel
theorem dL_law_595 : decode cL_law 595 = .ok (.iaload, 1) := by decide +kernel
theorem dL_law_596 : decode cL_law 596 = .ok (.invokevirtual 90, 3) := by decide +kernel
theorem dL_law_599 : decode cL_law 599 = .ok (.if_icmp .eq 159, 3) := by decide +kernel
theorem dL_law_602 : decode cL_law 602 = .ok (.iconst 0, 1) := by decide +kernel
theorem dL_law_603 : decode cL_law 603 = .ok (.ireturn, 1) := by decide +kernel
theorem dL_law_604 : decode cL_law 604 = .ok (.aload_n 1, 1) := by decide +kernel
theorem dL_law_605 : decode cL_law 605 = .ok (.aload_n 0, 1) := by decide +kernel
theorem dL_law_606 : decode cL_law 606 = .ok (.iload_n 3, 1) := by decide +kernel
theorem dL_law_607 : decode cL_law 607 = .ok (.iconst 1, 1) := by decide +kernel
theorem dL_law_608 : decode cL_law 608 = .ok (.iadd, 1) := by decide +kernel
theorem dL_law_609 : decode cL_law 609 = .ok (.iaload, 1) := by decide +kernel
theorem dL_law_610 : decode cL_law 610 = .ok (.invokevirtual 91, 3) := by decide +kernel
theorem dL_law_613 : decode cL_law 613 = .ok (.aload_n 2, 1) := by decide +kernel
theorem dL_law_614 : decode cL_law 614 = .ok (.aload_n 0, 1) := by decide +kernel
theorem dL_law_615 : decode cL_law 615 = .ok (.iload_n 3, 1) := by decide +kernel
theorem dL_law_616 : decode cL_law 616 = .ok (.iconst 1, 1) := by decide +kernel
theorem dL_law_617 : decode cL_law 617 = .ok (.iadd, 1) := by decide +kernel
theorem dL_law_618 : decode cL_law 618 = .ok (.iaload, 1) := by decide +kernel
theorem dL_law_619 : decode cL_law 619 = .ok (.invokevirtual 94, 3) := by decide +kernel
theorem dL_law_622 : decode cL_law 622 = .ok (.if_icmp .eq 136, 3) := by decide +kernel
theorem dL_law_625 : decode cL_law 625 = .ok (.iconst 0, 1) := by decide +kernel
theorem dL_law_626 : decode cL_law 626 = .ok (.ireturn, 1) := by decide +kernel
theorem dL_law_627 : decode cL_law 627 = .ok (.aload_n 1, 1) := by decide +kernel
theorem dL_law_628 : decode cL_law 628 = .ok (.invokevirtual 95, 3) := by decide +kernel
theorem dL_law_631 : decode cL_law 631 = .ok (.aload_n 2, 1) := by decide +kernel
theorem dL_law_632 : decode cL_law 632 = .ok (.invokevirtual 98, 3) := by decide +kernel
theorem dL_law_635 : decode cL_law 635 = .ok (.if_icmp .eq 123, 3) := by decide +kernel
theorem dL_law_638 : decode cL_law 638 = .ok (.iconst 0, 1) := by decide +kernel
theorem dL_law_639 : decode cL_law 639 = .ok (.ireturn, 1) := by decide +kernel
theorem dL_law_640 : decode cL_law 640 = .ok (.aload_n 1, 1) := by decide +kernel
theorem dL_law_641 : decode cL_law 641 = .ok (.aload_n 0, 1) := by decide +kernel
theorem dL_law_642 : decode cL_law 642 = .ok (.iload_n 3, 1) := by decide +kernel
theorem dL_law_643 : decode cL_law 643 = .ok (.iconst 1, 1) := by decide +kernel
theorem dL_law_644 : decode cL_law 644 = .ok (.iadd, 1) := by decide +kernel
theorem dL_law_645 : decode cL_law 645 = .ok (.iaload, 1) := by decide +kernel
theorem dL_law_646 : decode cL_law 646 = .ok (.aload_n 0, 1) := by decide +kernel
theorem dL_law_647 : decode cL_law 647 = .ok (.iload_n 3, 1) := by decide +kernel
theorem dL_law_648 : decode cL_law 648 = .ok (.iconst 2, 1) := by decide +kernel
theorem dL_law_649 : decode cL_law 649 = .ok (.iadd, 1) := by decide +kernel
theorem dL_law_650 : decode cL_law 650 = .ok (.iaload, 1) := by decide +kernel
theorem dL_law_651 : decode cL_law 651 = .ok (.invokevirtual 99, 3) := by decide +kernel
theorem dL_law_654 : decode cL_law 654 = .ok (.aload_n 2, 1) := by decide +kernel
theorem dL_law_655 : decode cL_law 655 = .ok (.aload_n 0, 1) := by decide +kernel
theorem dL_law_656 : decode cL_law 656 = .ok (.iload_n 3, 1) := by decide +kernel
theorem dL_law_657 : decode cL_law 657 = .ok (.iconst 1, 1) := by decide +kernel
theorem dL_law_658 : decode cL_law 658 = .ok (.iadd, 1) := by decide +kernel
theorem dL_law_659 : decode cL_law 659 = .ok (.iaload, 1) := by decide +kernel
theorem dL_law_660 : decode cL_law 660 = .ok (.aload_n 0, 1) := by decide +kernel
theorem dL_law_661 : decode cL_law 661 = .ok (.iload_n 3, 1) := by decide +kernel
theorem dL_law_662 : decode cL_law 662 = .ok (.iconst 2, 1) := by decide +kernel
theorem dL_law_663 : decode cL_law 663 = .ok (.iadd, 1) := by decide +kernel
theorem dL_law_664 : decode cL_law 664 = .ok (.iaload, 1) := by decide +kernel
theorem dL_law_665 : decode cL_law 665 = .ok (.invokevirtual 102, 3) := by decide +kernel
theorem dL_law_668 : decode cL_law 668 = .ok (.if_icmp .eq 90, 3) := by decide +kernel
theorem dL_law_671 : decode cL_law 671 = .ok (.iconst 0, 1) := by decide +kernel
theorem dL_law_672 : decode cL_law 672 = .ok (.ireturn, 1) := by decide +kernel
theorem dL_law_673 : decode cL_law 673 = .ok (.aload_n 1, 1) := by decide +kernel
theorem dL_law_674 : decode cL_law 674 = .ok (.aload_n 0, 1) := by decide +kernel
theorem dL_law_675 : decode cL_law 675 = .ok (.iload_n 3, 1) := by decide +kernel
theorem dL_law_676 : decode cL_law 676 = .ok (.iconst 1, 1) := by decide +kernel
theorem dL_law_677 : decode cL_law 677 = .ok (.iadd, 1) := by decide +kernel
theorem dL_law_678 : decode cL_law 678 = .ok (.iaload, 1) := by decide +kernel
theorem dL_law_679 : decode cL_law 679 = .ok (.invokevirtual 103, 3) := by decide +kernel
theorem dL_law_682 : decode cL_law 682 = .ok (.aload_n 2, 1) := by decide +kernel
theorem dL_law_683 : decode cL_law 683 = .ok (.aload_n 0, 1) := by decide +kernel
theorem dL_law_684 : decode cL_law 684 = .ok (.iload_n 3, 1) := by decide +kernel
theorem dL_law_685 : decode cL_law 685 = .ok (.iconst 1, 1) := by decide +kernel
theorem dL_law_686 : decode cL_law 686 = .ok (.iadd, 1) := by decide +kernel
theorem dL_law_687 : decode cL_law 687 = .ok (.iaload, 1) := by decide +kernel
theorem dL_law_688 : decode cL_law 688 = .ok (.invokevirtual 106, 3) := by decide +kernel
theorem dL_law_691 : decode cL_law 691 = .ok (.if_icmp .eq 67, 3) := by decide +kernel
theorem dL_law_694 : decode cL_law 694 = .ok (.iconst 0, 1) := by decide +kernel
theorem dL_law_695 : decode cL_law 695 = .ok (.ireturn, 1) := by decide +kernel
theorem dL_law_696 : decode cL_law 696 = .ok (.aload_n 1, 1) := by decide +kernel
theorem dL_law_697 : decode cL_law 697 = .ok (.invokevirtual 107, 3) := by decide +kernel
theorem dL_law_700 : decode cL_law 700 = .ok (.aload_n 2, 1) := by decide +kernel
theorem dL_law_701 : decode cL_law 701 = .ok (.invokevirtual 110, 3) := by decide +kernel
theorem dL_law_704 : decode cL_law 704 = .ok (.if_icmp .eq 54, 3) := by decide +kernel
theorem dL_law_707 : decode cL_law 707 = .ok (.iconst 0, 1) := by decide +kernel
theorem dL_law_708 : decode cL_law 708 = .ok (.ireturn, 1) := by decide +kernel
theorem dL_law_709 : decode cL_law 709 = .ok (.aload_n 1, 1) := by decide +kernel
theorem dL_law_710 : decode cL_law 710 = .ok (.invokevirtual 111, 3) := by decide +kernel
theorem dL_law_713 : decode cL_law 713 = .ok (.aload_n 2, 1) := by decide +kernel
theorem dL_law_714 : decode cL_law 714 = .ok (.invokevirtual 114, 3) := by decide +kernel
theorem dL_law_717 : decode cL_law 717 = .ok (.if_icmp .eq 41, 3) := by decide +kernel
theorem dL_law_720 : decode cL_law 720 = .ok (.iconst 0, 1) := by decide +kernel
theorem dL_law_721 : decode cL_law 721 = .ok (.ireturn, 1) := by decide +kernel
theorem dL_law_722 : decode cL_law 722 = .ok (.aload_n 1, 1) := by decide +kernel
theorem dL_law_723 : decode cL_law 723 = .ok (.invokevirtual 115, 3) := by decide +kernel
theorem dL_law_726 : decode cL_law 726 = .ok (.aload_n 2, 1) := by decide +kernel
theorem dL_law_727 : decode cL_law 727 = .ok (.invokevirtual 118, 3) := by decide +kernel
theorem dL_law_730 : decode cL_law 730 = .ok (.if_icmp .eq 28, 3) := by decide +kernel
theorem dL_law_733 : decode cL_law 733 = .ok (.iconst 0, 1) := by decide +kernel
theorem dL_law_734 : decode cL_law 734 = .ok (.ireturn, 1) := by decide +kernel
theorem dL_law_735 : decode cL_law 735 = .ok (.aload_n 1, 1) := by decide +kernel
theorem dL_law_736 : decode cL_law 736 = .ok (.aload_n 0, 1) := by decide +kernel
theorem dL_law_737 : decode cL_law 737 = .ok (.iload_n 3, 1) := by decide +kernel
theorem dL_law_738 : decode cL_law 738 = .ok (.iconst 1, 1) := by decide +kernel
theorem dL_law_739 : decode cL_law 739 = .ok (.iadd, 1) := by decide +kernel
theorem dL_law_740 : decode cL_law 740 = .ok (.iaload, 1) := by decide +kernel
theorem dL_law_741 : decode cL_law 741 = .ok (.invokevirtual 119, 3) := by decide +kernel
theorem dL_law_744 : decode cL_law 744 = .ok (.aload_n 2, 1) := by decide +kernel
theorem dL_law_745 : decode cL_law 745 = .ok (.aload_n 0, 1) := by decide +kernel
theorem dL_law_746 : decode cL_law 746 = .ok (.iload_n 3, 1) := by decide +kernel
theorem dL_law_747 : decode cL_law 747 = .ok (.iconst 1, 1) := by decide +kernel
theorem dL_law_748 : decode cL_law 748 = .ok (.iadd, 1) := by decide +kernel
theorem dL_law_749 : decode cL_law 749 = .ok (.iaload, 1) := by decide +kernel
theorem dL_law_750 : decode cL_law 750 = .ok (.invokevirtual 122, 3) := by decide +kernel
theorem dL_law_753 : decode cL_law 753 = .ok (.if_icmp .eq 5, 3) := by decide +kernel
theorem dL_law_756 : decode cL_law 756 = .ok (.iconst 0, 1) := by decide +kernel
theorem dL_law_757 : decode cL_law 757 = .ok (.ireturn, 1) := by decide +kernel
theorem dL_law_758 : decode cL_law 758 = .ok (.iinc 3 4, 3) := by decide +kernel
theorem dL_law_761 : decode cL_law 761 = .ok (.goto (-743), 3) := by decide +kernel
theorem dL_law_764 : decode cL_law 764 = .ok (.iconst 1, 1) := by decide +kernel
theorem dL_law_765 : decode cL_law 765 = .ok (.ireturn, 1) := by decide +kernel
abbrev vwCl : List vw_C := [(RX0, TX0, 3), (RX1, TX1, 6), (RX2, TX2, 2), (RX3, TX3, 9)]
end
section
/-! helpers: contracts over a fixed list of cells; a call with its frame in one row -/
abbrev aI (q : Nat) (cI : ClassId) (n : Nat) (f : Nat → Int32) : Nat × va_E := (q, .inl (cI, n, .inl f))
abbrev aJ (q : Nat) (cJ : ClassId) (n : Nat) (f : Nat → Int64) : Nat × va_E := (q, .inl (cJ, n, .inr (.inl f)))
abbrev oP (a b1 b2 : Nat) (k : Int32) : Nat × va_E := (a, .inr (0, [.int k, .ref b1, .ref b2]))
abbrev oT (a b1 b2 b3 b4 b5 : Nat) (k : Int32) : Nat × va_E := (a, .inr (1, [.int k, .ref b1, .ref b2, .ref b3, .ref b4, .ref b5]))
abbrev oR (a b1 b2 : Nat) : Nat × va_E := (a, .inr (2, [.ref b1, .ref b2]))
abbrev oM (a b1 b2 b3 b4 b5 b6 b7 : Nat) (k n : Int32) : Nat × va_E := (a, .inr (3, [.int k, .ref b1, .ref b2, .ref b3, .ref b4, .ref b5, .int n, .ref b6, .ref b7]))
abbrev mTy (cI cJ cZ : ClassId) : List (ClassId × FieldType) := [(cI, .int), (cJ, .long), (cZ, .boolean)]
def mP (D : va_G) (tys : List (ClassId × FieldType)) (av : List Value) (wc : va_W) (sz : Nat) : Array Value → State → Prop := va_Pc av (fun U => U.heap.size = sz ∧ va_P D vwCl wc U.heap ∧ va_K D vwCl tys U ∧ va_D (fun _ => True) wc)
def mB {S : Type} (D : va_G) (A : Nat → Prop) (w1 : S → va_W) : S → State → Prop := fun u t => va_P D vwCl (w1 u) t.heap ∧ va_D A (w1 u)
theorem mP_blind {D : va_G} {tys : List (ClassId × FieldType)} {av : List Value} {wc : va_W} {sz : Nat} : FrameBlind (mP D tys av wc sz) := fun a U g mk q => by
  obtain ⟨q0, q1, qP, qK, qD⟩ := q
  exact ⟨q0, q1, qP, va_K.moved (u := U) (U := U.calling g mk a) (Vm.Alike.refl U.vm) qK, qD⟩
theorem mP_here {D : va_G} {tys : List (ClassId × FieldType)} {av : List Value} {wc : va_W} {A : Nat → Prop} {s : State} {H : Heap} (hK : va_K D vwCl tys s) (hPc : va_P D vwCl wc H) (hDc : va_D A wc) : ∀ U : State, U.heap = H → s.WarmedH U.vm → mP D tys av wc H.size av.toArray U :=
  fun U hU hW => ⟨rfl, by rw [hU], by rw [hU]; exact hPc, va_K.moved hW.alike hK, hDc.weaken (fun _ _ _ _ => trivial)⟩
theorem m_fm {α β : Type} {f : α → Option β} {l : List α} {r : List β} (h : l.map f = r.map some) : l.filterMap f = r := by
  have h2 : (l.map f).filterMap id = (r.map some).filterMap id := by rw [h]
  rw [List.filterMap_map, List.filterMap_map] at h2
  simpa using h2
section MC
variable {p : Program} {l : Launch} {e : Env} {R : Room} {s : State} {m : MethodId} {args : Array Value} {below : List Frame} {meth : Method} {c : Code} {H : Heap} {locs : List Loc} {cells slots : Nat} {Q : State → Prop}
variable {pc : Nat} {ls : Array Slot} {rest st0 : List Value} {A : Nat → Prop} {D : va_G} {tys : List (ClassId × FieldType)}
variable {y : MethodName} {bytes cc : ByteArray} {maxL nL n index : Nat} {ret : Option FieldType} {ws : List Cond} {rm : Room} {Ts : List Cond} {own C : String} {b : Addr} {As : List Value} {w0 wc wr : va_W}
theorem mVi {S : Type} {post : Int32 → S → Prop} {w1 : S → va_W} (Fx : CallFix p m c cc nL s args Ts own) (hM : ∀ sz, Met l y ws rm (mP D tys (.ref b :: As) wc sz) (va_Qi post (mB D (va_A wc sz) w1) (va_A wc sz)) 0 0 (va_A wc sz)) (cw : CallW R s args own C index y bytes maxL ret ws rm 0 0 n) (hK : va_K D vwCl tys s) (hP : va_P D vwCl w0 H) (hD : va_D A w0) (hS : va_S A s.heap H locs) (hA : ∀ q, s.heap.size ≤ q → A q) (isC isR : List Nat) (hC : isC.map (fun i => w0[i]?) = wc.map some) (hR : isR.map (fun i => w0[i]?) = wr.map some) (hn : va_nd isC = true) (hn2 : va_nd isR = true) (hdis : ∀ i ∈ isR, i ∉ isC) (ci : Nat) {q : vw_C} {fs : List Value} (hc : vwCl[ci]? = some q) (he : wc[0]? = some (b, .inr (ci, fs))) (hCq : q.1 = C) (hnA : As.length = n) (hsz : ls.size = nL) (hst : st0 = As.reverse ++ .ref b :: rest) (hW : (rest.map fun v => v.category).sum ≤ 8) (hf : cells ≤ R.cells ∧ slots ≤ R.slots) (hdg : decode cc pc = .ok (.invokevirtual index, 3))
    (kk : ∀ (r : Int32) (u : S) (H1 : Heap) (locs1 : List Loc), post r u → va_P D vwCl (wr ++ w1 u) H1 → va_D A (wr ++ w1 u) → va_S A s.heap H1 locs1 → W p l e R s m args below meth c H1 locs1 cells slots Q (F0 m (pc + 3) ls (.int r :: rest))) : W p l e R s m args below meth c H locs cells slots Q (F0 m pc ls st0) := by
  have hPc := hP.sub (ws' := wc) isC (m_fm hC)
  have hDc := hD.sub (ws' := wc) isC hn hC
  have hFc := va_free (wc := wc) hD hS hA isC hC
  subst hCq
  refine va_calli (va_runV (g := F0 m pc ls st0) Fx (hM H.size) cw ⟨mP_blind, va_recv hK hPc hc he, fun U hU hW => mP_here hK hPc hDc U hU hW⟩ rfl hnA hsz hst (lv_room (m := m) (pc := pc) (ls := ls) (rest := st0) hW) hdg hf) hS (fun q _ h => hFc q h) hFc (fun r u t H1 locs1 ht hvm hw hB hz1 hk1 hS1 => ?_)
  obtain ⟨hP1, hD1⟩ := hB
  rw [ht] at hP1
  obtain ⟨hP2, hD2⟩ := va_join (wr := wr) (w1 := w1 u) hP hD isC isR hC hR hn2 hdis hk1 hFc hP1 hD1
  exact kk r u H1 locs1 hw hP2 hD2 hS1
theorem mVl {S : Type} {post : Int64 → S → Prop} {w1 : S → va_W} (Fx : CallFix p m c cc nL s args Ts own) (hM : ∀ sz, Met l y ws rm (mP D tys (.ref b :: As) wc sz) (va_Ql post (mB D (va_A wc sz) w1) (va_A wc sz)) 0 0 (va_A wc sz)) (cw : CallW R s args own C index y bytes maxL ret ws rm 0 0 n) (hK : va_K D vwCl tys s) (hP : va_P D vwCl w0 H) (hD : va_D A w0) (hS : va_S A s.heap H locs) (hA : ∀ q, s.heap.size ≤ q → A q) (isC isR : List Nat) (hC : isC.map (fun i => w0[i]?) = wc.map some) (hR : isR.map (fun i => w0[i]?) = wr.map some) (hn : va_nd isC = true) (hn2 : va_nd isR = true) (hdis : ∀ i ∈ isR, i ∉ isC) (ci : Nat) {q : vw_C} {fs : List Value} (hc : vwCl[ci]? = some q) (he : wc[0]? = some (b, .inr (ci, fs))) (hCq : q.1 = C) (hnA : As.length = n) (hsz : ls.size = nL) (hst : st0 = As.reverse ++ .ref b :: rest) (hW : (rest.map fun v => v.category).sum ≤ 8) (hf : cells ≤ R.cells ∧ slots ≤ R.slots) (hdg : decode cc pc = .ok (.invokevirtual index, 3))
    (kk : ∀ (r : Int64) (u : S) (H1 : Heap) (locs1 : List Loc), post r u → va_P D vwCl (wr ++ w1 u) H1 → va_D A (wr ++ w1 u) → va_S A s.heap H1 locs1 → W p l e R s m args below meth c H1 locs1 cells slots Q (F0 m (pc + 3) ls (.long r :: rest))) : W p l e R s m args below meth c H locs cells slots Q (F0 m pc ls st0) := by
  have hPc := hP.sub (ws' := wc) isC (m_fm hC)
  have hDc := hD.sub (ws' := wc) isC hn hC
  have hFc := va_free (wc := wc) hD hS hA isC hC
  subst hCq
  refine va_calll (va_runV (g := F0 m pc ls st0) Fx (hM H.size) cw ⟨mP_blind, va_recv hK hPc hc he, fun U hU hW => mP_here hK hPc hDc U hU hW⟩ rfl hnA hsz hst (lv_room (m := m) (pc := pc) (ls := ls) (rest := st0) hW) hdg hf) hS (fun q _ h => hFc q h) hFc (fun r u t H1 locs1 ht hvm hw hB hz1 hk1 hS1 => ?_)
  obtain ⟨hP1, hD1⟩ := hB
  rw [ht] at hP1
  obtain ⟨hP2, hD2⟩ := va_join (wr := wr) (w1 := w1 u) hP hD isC isR hC hR hn2 hdis hk1 hFc hP1 hD1
  exact kk r u H1 locs1 hw hP2 hD2 hS1
theorem mVv {S : Type} {post : S → Prop} {w1 : S → va_W} (Fx : CallFix p m c cc nL s args Ts own) (hM : ∀ sz, Met l y ws rm (mP D tys (.ref b :: As) wc sz) (va_Qv post (mB D (va_A wc sz) w1) (va_A wc sz)) 0 0 (va_A wc sz)) (cw : CallW R s args own C index y bytes maxL ret ws rm 0 0 n) (hK : va_K D vwCl tys s) (hP : va_P D vwCl w0 H) (hD : va_D A w0) (hS : va_S A s.heap H locs) (hA : ∀ q, s.heap.size ≤ q → A q) (isC isR : List Nat) (hC : isC.map (fun i => w0[i]?) = wc.map some) (hR : isR.map (fun i => w0[i]?) = wr.map some) (hn : va_nd isC = true) (hn2 : va_nd isR = true) (hdis : ∀ i ∈ isR, i ∉ isC) (ci : Nat) {q : vw_C} {fs : List Value} (hc : vwCl[ci]? = some q) (he : wc[0]? = some (b, .inr (ci, fs))) (hCq : q.1 = C) (hnA : As.length = n) (hsz : ls.size = nL) (hst : st0 = As.reverse ++ .ref b :: rest) (hW : (rest.map fun v => v.category).sum ≤ 8) (hf : cells ≤ R.cells ∧ slots ≤ R.slots) (hdg : decode cc pc = .ok (.invokevirtual index, 3))
    (kk : ∀ (u : S) (H1 : Heap) (locs1 : List Loc), post u → va_P D vwCl (wr ++ w1 u) H1 → va_D A (wr ++ w1 u) → va_S A s.heap H1 locs1 → W p l e R s m args below meth c H1 locs1 cells slots Q (F0 m (pc + 3) ls rest)) : W p l e R s m args below meth c H locs cells slots Q (F0 m pc ls st0) := by
  have hPc := hP.sub (ws' := wc) isC (m_fm hC)
  have hDc := hD.sub (ws' := wc) isC hn hC
  have hFc := va_free (wc := wc) hD hS hA isC hC
  subst hCq
  refine va_callv (va_runV (g := F0 m pc ls st0) Fx (hM H.size) cw ⟨mP_blind, va_recv hK hPc hc he, fun U hU hW => mP_here hK hPc hDc U hU hW⟩ rfl hnA hsz hst (lv_room (m := m) (pc := pc) (ls := ls) (rest := st0) hW) hdg hf) hS (fun q _ h => hFc q h) hFc (fun u t H1 locs1 ht hvm hw hB hz1 hk1 hS1 => ?_)
  obtain ⟨hP1, hD1⟩ := hB
  rw [ht] at hP1
  obtain ⟨hP2, hD2⟩ := va_join (wr := wr) (w1 := w1 u) hP hD isC isR hC hR hn2 hdis hk1 hFc hP1 hD1
  exact kk u H1 locs1 hw hP2 hD2 hS1
theorem mSi {S : Type} {post : Int32 → S → Prop} {w1 : S → va_W} (Fx : CallFix p m c cc nL s args Ts own) (hM : ∀ sz, Met l y ws rm (mP D tys As wc sz) (va_Qi post (mB D (va_A wc sz) w1) (va_A wc sz)) 0 0 (va_A wc sz)) (cw : CallB R s args own index y bytes maxL ret ws rm 0 0 n ∧ (Cond.static y).before args s = true) (hK : va_K D vwCl tys s) (hP : va_P D vwCl w0 H) (hD : va_D A w0) (hS : va_S A s.heap H locs) (hA : ∀ q, s.heap.size ≤ q → A q) (isC isR : List Nat) (hC : isC.map (fun i => w0[i]?) = wc.map some) (hR : isR.map (fun i => w0[i]?) = wr.map some) (hn : va_nd isC = true) (hn2 : va_nd isR = true) (hdis : ∀ i ∈ isR, i ∉ isC) (hnA : As.length = n) (hsz : ls.size = nL) (hst : st0 = As.reverse ++ rest) (hW : (rest.map fun v => v.category).sum ≤ 8) (hf : cells ≤ R.cells ∧ slots ≤ R.slots) (hdg : decode cc pc = .ok (.invokestatic index, 3))
    (kk : ∀ (r : Int32) (u : S) (H1 : Heap) (locs1 : List Loc), post r u → va_P D vwCl (wr ++ w1 u) H1 → va_D A (wr ++ w1 u) → va_S A s.heap H1 locs1 → W p l e R s m args below meth c H1 locs1 cells slots Q (F0 m (pc + 3) ls (.int r :: rest))) : W p l e R s m args below meth c H locs cells slots Q (F0 m pc ls st0) := by
  have hPc := hP.sub (ws' := wc) isC (m_fm hC)
  have hDc := hD.sub (ws' := wc) isC hn hC
  have hFc := va_free (wc := wc) hD hS hA isC hC
  refine va_calli (va_runS (g := F0 m pc ls st0) Fx (hM H.size) cw ⟨mP_blind, fun U hU hW => mP_here hK hPc hDc U hU hW⟩ rfl hnA hsz hst (lv_room (m := m) (pc := pc) (ls := ls) (rest := st0) hW) hdg hf) hS (fun q _ h => hFc q h) hFc (fun r u t H1 locs1 ht hvm hw hB hz1 hk1 hS1 => ?_)
  obtain ⟨hP1, hD1⟩ := hB
  rw [ht] at hP1
  obtain ⟨hP2, hD2⟩ := va_join (wr := wr) (w1 := w1 u) hP hD isC isR hC hR hn2 hdis hk1 hFc hP1 hD1
  exact kk r u H1 locs1 hw hP2 hD2 hS1
theorem mSl {S : Type} {post : Int64 → S → Prop} {w1 : S → va_W} (Fx : CallFix p m c cc nL s args Ts own) (hM : ∀ sz, Met l y ws rm (mP D tys As wc sz) (va_Ql post (mB D (va_A wc sz) w1) (va_A wc sz)) 0 0 (va_A wc sz)) (cw : CallB R s args own index y bytes maxL ret ws rm 0 0 n ∧ (Cond.static y).before args s = true) (hK : va_K D vwCl tys s) (hP : va_P D vwCl w0 H) (hD : va_D A w0) (hS : va_S A s.heap H locs) (hA : ∀ q, s.heap.size ≤ q → A q) (isC isR : List Nat) (hC : isC.map (fun i => w0[i]?) = wc.map some) (hR : isR.map (fun i => w0[i]?) = wr.map some) (hn : va_nd isC = true) (hn2 : va_nd isR = true) (hdis : ∀ i ∈ isR, i ∉ isC) (hnA : As.length = n) (hsz : ls.size = nL) (hst : st0 = As.reverse ++ rest) (hW : (rest.map fun v => v.category).sum ≤ 8) (hf : cells ≤ R.cells ∧ slots ≤ R.slots) (hdg : decode cc pc = .ok (.invokestatic index, 3))
    (kk : ∀ (r : Int64) (u : S) (H1 : Heap) (locs1 : List Loc), post r u → va_P D vwCl (wr ++ w1 u) H1 → va_D A (wr ++ w1 u) → va_S A s.heap H1 locs1 → W p l e R s m args below meth c H1 locs1 cells slots Q (F0 m (pc + 3) ls (.long r :: rest))) : W p l e R s m args below meth c H locs cells slots Q (F0 m pc ls st0) := by
  have hPc := hP.sub (ws' := wc) isC (m_fm hC)
  have hDc := hD.sub (ws' := wc) isC hn hC
  have hFc := va_free (wc := wc) hD hS hA isC hC
  refine va_calll (va_runS (g := F0 m pc ls st0) Fx (hM H.size) cw ⟨mP_blind, fun U hU hW => mP_here hK hPc hDc U hU hW⟩ rfl hnA hsz hst (lv_room (m := m) (pc := pc) (ls := ls) (rest := st0) hW) hdg hf) hS (fun q _ h => hFc q h) hFc (fun r u t H1 locs1 ht hvm hw hB hz1 hk1 hS1 => ?_)
  obtain ⟨hP1, hD1⟩ := hB
  rw [ht] at hP1
  obtain ⟨hP2, hD2⟩ := va_join (wr := wr) (w1 := w1 u) hP hD isC isR hC hR hn2 hdis hk1 hFc hP1 hD1
  exact kk r u H1 locs1 hw hP2 hD2 hS1
theorem mSv {S : Type} {post : S → Prop} {w1 : S → va_W} (Fx : CallFix p m c cc nL s args Ts own) (hM : ∀ sz, Met l y ws rm (mP D tys As wc sz) (va_Qv post (mB D (va_A wc sz) w1) (va_A wc sz)) 0 0 (va_A wc sz)) (cw : CallB R s args own index y bytes maxL ret ws rm 0 0 n ∧ (Cond.static y).before args s = true) (hK : va_K D vwCl tys s) (hP : va_P D vwCl w0 H) (hD : va_D A w0) (hS : va_S A s.heap H locs) (hA : ∀ q, s.heap.size ≤ q → A q) (isC isR : List Nat) (hC : isC.map (fun i => w0[i]?) = wc.map some) (hR : isR.map (fun i => w0[i]?) = wr.map some) (hn : va_nd isC = true) (hn2 : va_nd isR = true) (hdis : ∀ i ∈ isR, i ∉ isC) (hnA : As.length = n) (hsz : ls.size = nL) (hst : st0 = As.reverse ++ rest) (hW : (rest.map fun v => v.category).sum ≤ 8) (hf : cells ≤ R.cells ∧ slots ≤ R.slots) (hdg : decode cc pc = .ok (.invokestatic index, 3))
    (kk : ∀ (u : S) (H1 : Heap) (locs1 : List Loc), post u → va_P D vwCl (wr ++ w1 u) H1 → va_D A (wr ++ w1 u) → va_S A s.heap H1 locs1 → W p l e R s m args below meth c H1 locs1 cells slots Q (F0 m (pc + 3) ls rest)) : W p l e R s m args below meth c H locs cells slots Q (F0 m pc ls st0) := by
  have hPc := hP.sub (ws' := wc) isC (m_fm hC)
  have hDc := hD.sub (ws' := wc) isC hn hC
  have hFc := va_free (wc := wc) hD hS hA isC hC
  refine va_callv (va_runS (g := F0 m pc ls st0) Fx (hM H.size) cw ⟨mP_blind, fun U hU hW => mP_here hK hPc hDc U hU hW⟩ rfl hnA hsz hst (lv_room (m := m) (pc := pc) (ls := ls) (rest := st0) hW) hdg hf) hS (fun q _ h => hFc q h) hFc (fun u t H1 locs1 ht hvm hw hB hz1 hk1 hS1 => ?_)
  obtain ⟨hP1, hD1⟩ := hB
  rw [ht] at hP1
  obtain ⟨hP2, hD2⟩ := va_join (wr := wr) (w1 := w1 u) hP hD isC isR hC hR hn2 hdis hk1 hFc hP1 hD1
  exact kk u H1 locs1 hw hP2 hD2 hS1
end MC
theorem m_b0 : narrow .boolean (.int 0) = .int 0 := by decide
theorem m_b1 : narrow .boolean (.int 1) = .int 1 := by decide
theorem m_bz {v : Int32} (h : v = 0 ∨ v = 1) : narrow .boolean (.int v) = .int v := by
  rcases h with rfl | rfl
  · exact m_b0
  · exact m_b1
end
section
theorem zz_last : True := trivial
end
