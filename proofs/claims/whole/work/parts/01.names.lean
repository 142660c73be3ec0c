-- ===== PART A: goes FIRST, ahead of the names: the tables' words, and 'selects' of the private methods out of them =====
/-- a private method of a class that the tables say can be made, by its rows of tables_1 -/
def lw_okq (q : MethodName × Nat) : Prop := (q.1.cls ≠ "java/lang/invoke/MethodHandle" ∧ q.1.cls ≠ "java/lang/invoke/VarHandle") ∧ Cond.instantiable q.1.cls q.2 ∈ tables_1 ∧ Cond.privateMethod q.1 ∈ tables_1 ∧ Cond.instanceMethod q.1 ∈ tables_1
theorem lw_p0 : lw_okq (⟨"LadderCalls", "whyNoRoad", "(III)I"⟩, 9) := ⟨⟨by decide +kernel, by decide +kernel⟩, List.mem_of_getElem? (i := 12) (by decide +kernel), List.mem_of_getElem? (i := 272) (by decide +kernel), List.mem_of_getElem? (i := 273) (by decide +kernel)⟩
theorem lw_p1 : lw_okq (⟨"LadderCalls", "whyNoCall", "(I)I"⟩, 9) := ⟨⟨by decide +kernel, by decide +kernel⟩, List.mem_of_getElem? (i := 12) (by decide +kernel), List.mem_of_getElem? (i := 365) (by decide +kernel), List.mem_of_getElem? (i := 366) (by decide +kernel)⟩
theorem lw_p2 : lw_okq (⟨"LadderCalls", "serve", "(LLadderCalls$Day;I)I"⟩, 9) := ⟨⟨by decide +kernel, by decide +kernel⟩, List.mem_of_getElem? (i := 12) (by decide +kernel), List.mem_of_getElem? (i := 369) (by decide +kernel), List.mem_of_getElem? (i := 370) (by decide +kernel)⟩
theorem lw_p3 : lw_okq (⟨"LadderCalls$Works", "afterCall", "([III)I"⟩, 5) := ⟨⟨by decide +kernel, by decide +kernel⟩, List.mem_of_getElem? (i := 79) (by decide +kernel), List.mem_of_getElem? (i := 382) (by decide +kernel), List.mem_of_getElem? (i := 383) (by decide +kernel)⟩
theorem lw_p4 : lw_okq (⟨"LadderCalls$Rules", "even", "(LLadderCalls$Day;)I"⟩, 1) := ⟨⟨by decide +kernel, by decide +kernel⟩, List.mem_of_getElem? (i := 192) (by decide +kernel), List.mem_of_getElem? (i := 401) (by decide +kernel), List.mem_of_getElem? (i := 402) (by decide +kernel)⟩
theorem lw_p5 : lw_okq (⟨"LadderCalls$Rules", "near", "(LLadderCalls$Day;)I"⟩, 1) := ⟨⟨by decide +kernel, by decide +kernel⟩, List.mem_of_getElem? (i := 192) (by decide +kernel), List.mem_of_getElem? (i := 410) (by decide +kernel), List.mem_of_getElem? (i := 411) (by decide +kernel)⟩
theorem lw_p6 : lw_okq (⟨"LadderCalls$Rules", "turn", "(LLadderCalls$Day;)I"⟩, 1) := ⟨⟨by decide +kernel, by decide +kernel⟩, List.mem_of_getElem? (i := 192) (by decide +kernel), List.mem_of_getElem? (i := 423) (by decide +kernel), List.mem_of_getElem? (i := 424) (by decide +kernel)⟩
theorem lw_p7 : lw_okq (⟨"LadderCalls$Rules", "ahead", "(LLadderCalls$Day;)I"⟩, 1) := ⟨⟨by decide +kernel, by decide +kernel⟩, List.mem_of_getElem? (i := 192) (by decide +kernel), List.mem_of_getElem? (i := 428) (by decide +kernel), List.mem_of_getElem? (i := 429) (by decide +kernel)⟩
theorem lw_p8 : lw_okq (⟨"LadderCalls$Planner", "cheapest", "(LLadderCalls$Day;II)I"⟩, 3) := ⟨⟨by decide +kernel, by decide +kernel⟩, List.mem_of_getElem? (i := 175) (by decide +kernel), List.mem_of_getElem? (i := 526) (by decide +kernel), List.mem_of_getElem? (i := 527) (by decide +kernel)⟩
theorem lw_p9 : lw_okq (⟨"LadderCalls$Planner", "sending", "(LLadderCalls$Day;III)I"⟩, 3) := ⟨⟨by decide +kernel, by decide +kernel⟩, List.mem_of_getElem? (i := 175) (by decide +kernel), List.mem_of_getElem? (i := 531) (by decide +kernel), List.mem_of_getElem? (i := 532) (by decide +kernel)⟩
theorem lw_p10 : lw_okq (⟨"LadderCalls$Planner", "rest", "(II)I"⟩, 3) := ⟨⟨by decide +kernel, by decide +kernel⟩, List.mem_of_getElem? (i := 175) (by decide +kernel), List.mem_of_getElem? (i := 542) (by decide +kernel), List.mem_of_getElem? (i := 543) (by decide +kernel)⟩
theorem lw_p11 : lw_okq (⟨"LadderCalls$Planner", "firstGoer", "(LLadderCalls$Day;II)I"⟩, 3) := ⟨⟨by decide +kernel, by decide +kernel⟩, List.mem_of_getElem? (i := 175) (by decide +kernel), List.mem_of_getElem? (i := 551) (by decide +kernel), List.mem_of_getElem? (i := 552) (by decide +kernel)⟩
theorem lw_p12 : lw_okq (⟨"LadderCalls", "tryRow", "(II)V"⟩, 9) := ⟨⟨by decide +kernel, by decide +kernel⟩, List.mem_of_getElem? (i := 12) (by decide +kernel), List.mem_of_getElem? (i := 563) (by decide +kernel), List.mem_of_getElem? (i := 564) (by decide +kernel)⟩
theorem lw_p13 : lw_okq (⟨"LadderCalls", "found", "(I)I"⟩, 9) := ⟨⟨by decide +kernel, by decide +kernel⟩, List.mem_of_getElem? (i := 12) (by decide +kernel), List.mem_of_getElem? (i := 576) (by decide +kernel), List.mem_of_getElem? (i := 577) (by decide +kernel)⟩
theorem lw_p14 : lw_okq (⟨"LadderCalls", "whyNoNumber", "(IIII)I"⟩, 9) := ⟨⟨by decide +kernel, by decide +kernel⟩, List.mem_of_getElem? (i := 12) (by decide +kernel), List.mem_of_getElem? (i := 605) (by decide +kernel), List.mem_of_getElem? (i := 606) (by decide +kernel)⟩
theorem lw_p15 : lw_okq (⟨"LadderCalls$Book", "narrowed", "(J)J"⟩, 4) := ⟨⟨by decide +kernel, by decide +kernel⟩, List.mem_of_getElem? (i := 204) (by decide +kernel), List.mem_of_getElem? (i := 627) (by decide +kernel), List.mem_of_getElem? (i := 628) (by decide +kernel)⟩
def lw_privs_1 : List (MethodName × Nat) := [(⟨"LadderCalls", "whyNoRoad", "(III)I"⟩, 9), (⟨"LadderCalls", "whyNoCall", "(I)I"⟩, 9), (⟨"LadderCalls", "serve", "(LLadderCalls$Day;I)I"⟩, 9), (⟨"LadderCalls$Works", "afterCall", "([III)I"⟩, 5), (⟨"LadderCalls$Rules", "even", "(LLadderCalls$Day;)I"⟩, 1), (⟨"LadderCalls$Rules", "near", "(LLadderCalls$Day;)I"⟩, 1), (⟨"LadderCalls$Rules", "turn", "(LLadderCalls$Day;)I"⟩, 1), (⟨"LadderCalls$Rules", "ahead", "(LLadderCalls$Day;)I"⟩, 1), (⟨"LadderCalls$Planner", "cheapest", "(LLadderCalls$Day;II)I"⟩, 3), (⟨"LadderCalls$Planner", "sending", "(LLadderCalls$Day;III)I"⟩, 3), (⟨"LadderCalls$Planner", "rest", "(II)I"⟩, 3), (⟨"LadderCalls$Planner", "firstGoer", "(LLadderCalls$Day;II)I"⟩, 3), (⟨"LadderCalls", "tryRow", "(II)V"⟩, 9), (⟨"LadderCalls", "found", "(I)I"⟩, 9), (⟨"LadderCalls", "whyNoNumber", "(IIII)I"⟩, 9), (⟨"LadderCalls$Book", "narrowed", "(J)J"⟩, 4)]
theorem lw_r1 : ∀ q ∈ lw_privs_1, lw_okq q := List.forall_mem_cons.mpr ⟨lw_p0, List.forall_mem_cons.mpr ⟨lw_p1, List.forall_mem_cons.mpr ⟨lw_p2, List.forall_mem_cons.mpr ⟨lw_p3, List.forall_mem_cons.mpr ⟨lw_p4, List.forall_mem_cons.mpr ⟨lw_p5, List.forall_mem_cons.mpr ⟨lw_p6, List.forall_mem_cons.mpr ⟨lw_p7, List.forall_mem_cons.mpr ⟨lw_p8, List.forall_mem_cons.mpr ⟨lw_p9, List.forall_mem_cons.mpr ⟨lw_p10, List.forall_mem_cons.mpr ⟨lw_p11, List.forall_mem_cons.mpr ⟨lw_p12, List.forall_mem_cons.mpr ⟨lw_p13, List.forall_mem_cons.mpr ⟨lw_p14, List.forall_mem_cons.mpr ⟨lw_p15, fun _ h => absurd h List.not_mem_nil⟩⟩⟩⟩⟩⟩⟩⟩⟩⟩⟩⟩⟩⟩⟩⟩
theorem lw_p16 : lw_okq (⟨"LadderCalls", "roadFrom", "(LLadderCalls$Book;I)I"⟩, 9) := ⟨⟨by decide +kernel, by decide +kernel⟩, List.mem_of_getElem? (i := 12) (by decide +kernel), List.mem_of_getElem? (i := 643) (by decide +kernel), List.mem_of_getElem? (i := 644) (by decide +kernel)⟩
theorem lw_p17 : lw_okq (⟨"LadderCallsModel", "addRoad", "(JJJ)I"⟩, 32) := ⟨⟨by decide +kernel, by decide +kernel⟩, List.mem_of_getElem? (i := 666) (by decide +kernel), List.mem_of_getElem? (i := 778) (by decide +kernel), List.mem_of_getElem? (i := 779) (by decide +kernel)⟩
theorem lw_p18 : lw_okq (⟨"LadderCallsModel", "isPlace", "(I)Z"⟩, 32) := ⟨⟨by decide +kernel, by decide +kernel⟩, List.mem_of_getElem? (i := 666) (by decide +kernel), List.mem_of_getElem? (i := 790) (by decide +kernel), List.mem_of_getElem? (i := 791) (by decide +kernel)⟩
theorem lw_p19 : lw_okq (⟨"LadderCallsModel", "measures", "()V"⟩, 32) := ⟨⟨by decide +kernel, by decide +kernel⟩, List.mem_of_getElem? (i := 666) (by decide +kernel), List.mem_of_getElem? (i := 794) (by decide +kernel), List.mem_of_getElem? (i := 795) (by decide +kernel)⟩
theorem lw_p20 : lw_okq (⟨"LadderCallsModel", "isStand", "(II)Z"⟩, 32) := ⟨⟨by decide +kernel, by decide +kernel⟩, List.mem_of_getElem? (i := 666) (by decide +kernel), List.mem_of_getElem? (i := 808) (by decide +kernel), List.mem_of_getElem? (i := 809) (by decide +kernel)⟩
theorem lw_p21 : lw_okq (⟨"LadderCallsModel", "isTorn", "()Z"⟩, 32) := ⟨⟨by decide +kernel, by decide +kernel⟩, List.mem_of_getElem? (i := 666) (by decide +kernel), List.mem_of_getElem? (i := 812) (by decide +kernel), List.mem_of_getElem? (i := 813) (by decide +kernel)⟩
theorem lw_p22 : lw_okq (⟨"LadderCallsModel", "starts", "([I)V"⟩, 32) := ⟨⟨by decide +kernel, by decide +kernel⟩, List.mem_of_getElem? (i := 666) (by decide +kernel), List.mem_of_getElem? (i := 816) (by decide +kernel), List.mem_of_getElem? (i := 817) (by decide +kernel)⟩
theorem lw_p23 : lw_okq (⟨"LadderCallsModel", "comes", "(I)I"⟩, 32) := ⟨⟨by decide +kernel, by decide +kernel⟩, List.mem_of_getElem? (i := 666) (by decide +kernel), List.mem_of_getElem? (i := 832) (by decide +kernel), List.mem_of_getElem? (i := 833) (by decide +kernel)⟩
theorem lw_p24 : lw_okq (⟨"LadderCallsModel", "chosen", "([I[II[III)I"⟩, 32) := ⟨⟨by decide +kernel, by decide +kernel⟩, List.mem_of_getElem? (i := 666) (by decide +kernel), List.mem_of_getElem? (i := 836) (by decide +kernel), List.mem_of_getElem? (i := 837) (by decide +kernel)⟩
theorem lw_p25 : lw_okq (⟨"LadderCallsModel", "isThere", "([II)Z"⟩, 32) := ⟨⟨by decide +kernel, by decide +kernel⟩, List.mem_of_getElem? (i := 666) (by decide +kernel), List.mem_of_getElem? (i := 840) (by decide +kernel), List.mem_of_getElem? (i := 841) (by decide +kernel)⟩
theorem lw_p26 : lw_okq (⟨"LadderCallsModel", "nearest", "([II)I"⟩, 32) := ⟨⟨by decide +kernel, by decide +kernel⟩, List.mem_of_getElem? (i := 666) (by decide +kernel), List.mem_of_getElem? (i := 844) (by decide +kernel), List.mem_of_getElem? (i := 845) (by decide +kernel)⟩
theorem lw_p27 : lw_okq (⟨"LadderCallsModel", "evenOf", "([I[II)I"⟩, 32) := ⟨⟨by decide +kernel, by decide +kernel⟩, List.mem_of_getElem? (i := 666) (by decide +kernel), List.mem_of_getElem? (i := 848) (by decide +kernel), List.mem_of_getElem? (i := 849) (by decide +kernel)⟩
theorem lw_p28 : lw_okq (⟨"LadderCallsModel", "serves", "([III)V"⟩, 32) := ⟨⟨by decide +kernel, by decide +kernel⟩, List.mem_of_getElem? (i := 666) (by decide +kernel), List.mem_of_getElem? (i := 854) (by decide +kernel), List.mem_of_getElem? (i := 855) (by decide +kernel)⟩
theorem lw_p29 : lw_okq (⟨"LadderCallsModel", "workOf", "([III)I"⟩, 32) := ⟨⟨by decide +kernel, by decide +kernel⟩, List.mem_of_getElem? (i := 666) (by decide +kernel), List.mem_of_getElem? (i := 861) (by decide +kernel), List.mem_of_getElem? (i := 862) (by decide +kernel)⟩
theorem lw_p30 : lw_okq (⟨"LadderCallsModel", "movesOf", "(II)I"⟩, 32) := ⟨⟨by decide +kernel, by decide +kernel⟩, List.mem_of_getElem? (i := 666) (by decide +kernel), List.mem_of_getElem? (i := 865) (by decide +kernel), List.mem_of_getElem? (i := 866) (by decide +kernel)⟩
theorem lw_p31 : lw_okq (⟨"LadderCallsModel", "farOf", "(IIII)I"⟩, 32) := ⟨⟨by decide +kernel, by decide +kernel⟩, List.mem_of_getElem? (i := 666) (by decide +kernel), List.mem_of_getElem? (i := 869) (by decide +kernel), List.mem_of_getElem? (i := 870) (by decide +kernel)⟩
def lw_privs_2 : List (MethodName × Nat) := [(⟨"LadderCalls", "roadFrom", "(LLadderCalls$Book;I)I"⟩, 9), (⟨"LadderCallsModel", "addRoad", "(JJJ)I"⟩, 32), (⟨"LadderCallsModel", "isPlace", "(I)Z"⟩, 32), (⟨"LadderCallsModel", "measures", "()V"⟩, 32), (⟨"LadderCallsModel", "isStand", "(II)Z"⟩, 32), (⟨"LadderCallsModel", "isTorn", "()Z"⟩, 32), (⟨"LadderCallsModel", "starts", "([I)V"⟩, 32), (⟨"LadderCallsModel", "comes", "(I)I"⟩, 32), (⟨"LadderCallsModel", "chosen", "([I[II[III)I"⟩, 32), (⟨"LadderCallsModel", "isThere", "([II)Z"⟩, 32), (⟨"LadderCallsModel", "nearest", "([II)I"⟩, 32), (⟨"LadderCallsModel", "evenOf", "([I[II)I"⟩, 32), (⟨"LadderCallsModel", "serves", "([III)V"⟩, 32), (⟨"LadderCallsModel", "workOf", "([III)I"⟩, 32), (⟨"LadderCallsModel", "movesOf", "(II)I"⟩, 32), (⟨"LadderCallsModel", "farOf", "(IIII)I"⟩, 32)]
theorem lw_r2 : ∀ q ∈ lw_privs_2, lw_okq q := List.forall_mem_cons.mpr ⟨lw_p16, List.forall_mem_cons.mpr ⟨lw_p17, List.forall_mem_cons.mpr ⟨lw_p18, List.forall_mem_cons.mpr ⟨lw_p19, List.forall_mem_cons.mpr ⟨lw_p20, List.forall_mem_cons.mpr ⟨lw_p21, List.forall_mem_cons.mpr ⟨lw_p22, List.forall_mem_cons.mpr ⟨lw_p23, List.forall_mem_cons.mpr ⟨lw_p24, List.forall_mem_cons.mpr ⟨lw_p25, List.forall_mem_cons.mpr ⟨lw_p26, List.forall_mem_cons.mpr ⟨lw_p27, List.forall_mem_cons.mpr ⟨lw_p28, List.forall_mem_cons.mpr ⟨lw_p29, List.forall_mem_cons.mpr ⟨lw_p30, List.forall_mem_cons.mpr ⟨lw_p31, fun _ h => absurd h List.not_mem_nil⟩⟩⟩⟩⟩⟩⟩⟩⟩⟩⟩⟩⟩⟩⟩⟩
theorem lw_p32 : lw_okq (⟨"LadderCallsModel", "costOf", "()I"⟩, 32) := ⟨⟨by decide +kernel, by decide +kernel⟩, List.mem_of_getElem? (i := 666) (by decide +kernel), List.mem_of_getElem? (i := 897) (by decide +kernel), List.mem_of_getElem? (i := 898) (by decide +kernel)⟩
theorem lw_p33 : lw_okq (⟨"LadderCallsModel", "no", "(I)I"⟩, 32) := ⟨⟨by decide +kernel, by decide +kernel⟩, List.mem_of_getElem? (i := 666) (by decide +kernel), List.mem_of_getElem? (i := 933) (by decide +kernel), List.mem_of_getElem? (i := 934) (by decide +kernel)⟩
theorem lw_p34 : lw_okq (⟨"LadderCallsModel", "wrong", "(IIII)I"⟩, 32) := ⟨⟨by decide +kernel, by decide +kernel⟩, List.mem_of_getElem? (i := 666) (by decide +kernel), List.mem_of_getElem? (i := 945) (by decide +kernel), List.mem_of_getElem? (i := 946) (by decide +kernel)⟩
def lw_privs_3 : List (MethodName × Nat) := [(⟨"LadderCallsModel", "costOf", "()I"⟩, 32), (⟨"LadderCallsModel", "no", "(I)I"⟩, 32), (⟨"LadderCallsModel", "wrong", "(IIII)I"⟩, 32)]
theorem lw_r3 : ∀ q ∈ lw_privs_3, lw_okq q := List.forall_mem_cons.mpr ⟨lw_p32, List.forall_mem_cons.mpr ⟨lw_p33, List.forall_mem_cons.mpr ⟨lw_p34, fun _ h => absurd h List.not_mem_nil⟩⟩⟩
def lw_privs : List (MethodName × Nat) := lw_privs_1 ++ (lw_privs_2 ++ (lw_privs_3))
def lw_tbl : List Cond := k2_sels lw_privs ++ tables_1
theorem lw_privs_ok : ∀ q ∈ lw_privs, lw_okq q := by
  show ∀ q ∈ lw_privs_1 ++ (lw_privs_2 ++ (lw_privs_3)), lw_okq q
  exact List.forall_mem_append.mpr ⟨lw_r1, List.forall_mem_append.mpr ⟨lw_r2, lw_r3⟩⟩
-- ===== end of PART A; then your names; then what follows =====
theorem vr_outer (c : ClassId) (N h0 : Nat) : ∀ i : Nat, Jvm.Free.Multi.outerC c N h0 i = arrV c N (fun j => va_rf (if j < i then some (h0 + 1 + j) else none))
  | 0 => by
    show ({ cls := c, slots := Array.replicate N .null, vm := .none } : Cell) = _
    rw [arrV_new]
    refine congrArg (arrV c N) (funext fun j => ?_)
    simp [va_rf]
  | i + 1 => by
    show (Jvm.Free.Multi.outerC c N h0 i).setSlot i (.ref (h0 + 1 + i)) = _
    rw [vr_outer c N h0 i, arrV_store]
    refine congrArg (arrV c N) (funext fun j => ?_)
    by_cases e : j = i
    · subst e
      simp [updV, va_rf]
    · by_cases h : j < i
      · simp [updV, e, h, Nat.lt_succ_of_lt h]
      · simp [updV, e, h, show ¬ j < i + 1 by omega]
def RX0 : String := "LadderCalls$Book"
def TX0 : u_T := fun k => match k with
  | 0 => ("LadderCalls$Book", "sort", "I", false)
  | 1 => ("LadderCalls$Book", "rows", "I", false)
  | 2 => ("LadderCalls$Book", "sizes", "[I", true)
  | _ => ("LadderCalls$Book", "numbers", "[[J", true)
def tyX0 : Nat → FieldType := fun k => match k with
  | 0 => .int
  | 1 => .int
  | 2 => .array .int
  | _ => .array (.array .long)
theorem nmX0 : ∀ a, a < 4 → ∀ b, b < 4 → a ≠ b → (TX0 a).2.1 ≠ (TX0 b).2.1 := by decide +kernel
theorem tyX0_ok : ∀ k, k < 4 → parseFieldDescriptor (TX0 k).2.2.1 = some (tyX0 k) := by decide +kernel
abbrev cX0_init : ByteArray := prog_2_method_1_code
def yX0_init : MethodName := ⟨RX0, "<init>", "()V"⟩
abbrev cX0_isThere : ByteArray := prog_2_method_2_code
def yX0_isThere : MethodName := ⟨RX0, "isThere", "()Z"⟩
abbrev cX0_hasRow : ByteArray := prog_2_method_3_code
def yX0_hasRow : MethodName := ⟨RX0, "hasRow", "(I)Z"⟩
abbrev cX0_hasNumber : ByteArray := prog_2_method_4_code
def yX0_hasNumber : MethodName := ⟨RX0, "hasNumber", "(II)Z"⟩
abbrev cX0_size : ByteArray := prog_2_method_5_code
def yX0_size : MethodName := ⟨RX0, "size", "(I)I"⟩
abbrev cX0_whyNoRow : ByteArray := prog_2_method_6_code
def yX0_whyNoRow : MethodName := ⟨RX0, "whyNoRow", "(I)I"⟩
abbrev cX0_open : ByteArray := prog_2_method_7_code
def yX0_open : MethodName := ⟨RX0, "open", "(II)V"⟩
abbrev cX0_renew : ByteArray := prog_2_method_8_code
def yX0_renew : MethodName := ⟨RX0, "renew", "(II)V"⟩
abbrev cX0_write : ByteArray := prog_2_method_9_code
def yX0_write : MethodName := ⟨RX0, "write", "(IIJ)V"⟩
abbrev cX0_read : ByteArray := prog_2_method_10_code
def yX0_read : MethodName := ⟨RX0, "read", "(II)J"⟩
abbrev cX0_narrowed : ByteArray := prog_2_method_11_code
def yX0_narrowed : MethodName := ⟨RX0, "narrowed", "(J)J"⟩
def RX1 : String := "LadderCalls$Day"
def TX1 : u_T := fun k => match k with
  | 0 => ("LadderCalls$Day", "town", "LLadderCalls$Town;", true)
  | 1 => ("LadderCalls$Day", "stands", "LLadderCalls$Stands;", true)
  | 2 => ("LadderCalls$Day", "works", "LLadderCalls$Works;", true)
  | 3 => ("LadderCalls$Day", "ladders", "I", false)
  | 4 => ("LadderCalls$Day", "calls", "I", false)
  | 5 => ("LadderCalls$Day", "beginning", "I", false)
  | 6 => ("LadderCalls$Day", "turned", "I", false)
  | 7 => ("LadderCalls$Day", "coming", "I", false)
  | 8 => ("LadderCalls$Day", "fars", "[I", true)
  | 9 => ("LadderCalls$Day", "spots", "[I", true)
  | 10 => ("LadderCalls$Day", "sums", "[I", true)
  | 11 => ("LadderCalls$Day", "places", "[I", true)
  | 12 => ("LadderCalls$Day", "goers", "[I", true)
  | 13 => ("LadderCalls$Day", "ways", "[I", true)
  | 14 => ("LadderCalls$Day", "kinds", "[I", true)
  | 15 => ("LadderCalls$Day", "spotsBefore", "[I", true)
  | _ => ("LadderCalls$Day", "turnedBefore", "[I", true)
def tyX1 : Nat → FieldType := fun k => match k with
  | 0 => .object "LadderCalls$Town"
  | 1 => .object "LadderCalls$Stands"
  | 2 => .object "LadderCalls$Works"
  | 3 => .int
  | 4 => .int
  | 5 => .int
  | 6 => .int
  | 7 => .int
  | 8 => .array .int
  | 9 => .array .int
  | 10 => .array .int
  | 11 => .array .int
  | 12 => .array .int
  | 13 => .array .int
  | 14 => .array .int
  | 15 => .array .int
  | _ => .array .int
theorem nmX1 : ∀ a, a < 17 → ∀ b, b < 17 → a ≠ b → (TX1 a).2.1 ≠ (TX1 b).2.1 := by decide +kernel
theorem tyX1_ok : ∀ k, k < 17 → parseFieldDescriptor (TX1 k).2.2.1 = some (tyX1 k) := by decide +kernel
abbrev cX1_init : ByteArray := prog_3_method_1_code
def yX1_init : MethodName := ⟨RX1, "<init>", "(LLadderCalls$Town;LLadderCalls$Stands;I)V"⟩
abbrev cX1_isOn : ByteArray := prog_3_method_2_code
def yX1_isOn : MethodName := ⟨RX1, "isOn", "()Z"⟩
abbrev cX1_start : ByteArray := prog_3_method_3_code
def yX1_start : MethodName := ⟨RX1, "start", "(I)V"⟩
abbrev cX1_rewind : ByteArray := prog_3_method_4_code
def yX1_rewind : MethodName := ⟨RX1, "rewind", "()V"⟩
abbrev cX1_stop : ByteArray := prog_3_method_5_code
def yX1_stop : MethodName := ⟨RX1, "stop", "()V"⟩
abbrev cX1_hear : ByteArray := prog_3_method_6_code
def yX1_hear : MethodName := ⟨RX1, "hear", "(I)V"⟩
abbrev cX1_send : ByteArray := prog_3_method_7_code
def yX1_send : MethodName := ⟨RX1, "send", "(II)V"⟩
abbrev cX1_takeBack : ByteArray := prog_3_method_8_code
def yX1_takeBack : MethodName := ⟨RX1, "takeBack", "()V"⟩
abbrev cX1_standNow : ByteArray := prog_3_method_9_code
def yX1_standNow : MethodName := ⟨RX1, "standNow", "()I"⟩
abbrev cX1_far : ByteArray := prog_3_method_10_code
def yX1_far : MethodName := ⟨RX1, "far", "(I)I"⟩
abbrev cX1_walked : ByteArray := prog_3_method_11_code
def yX1_walked : MethodName := ⟨RX1, "walked", "(I)I"⟩
abbrev cX1_paid : ByteArray := prog_3_method_12_code
def yX1_paid : MethodName := ⟨RX1, "paid", "()I"⟩
abbrev cX1_placeOf : ByteArray := prog_3_method_13_code
def yX1_placeOf : MethodName := ⟨RX1, "placeOf", "(I)I"⟩
abbrev cX1_recorded : ByteArray := prog_3_method_14_code
def yX1_recorded : MethodName := ⟨RX1, "recorded", "(II)I"⟩
abbrev cX1_isCovered : ByteArray := prog_3_method_15_code
def yX1_isCovered : MethodName := ⟨RX1, "isCovered", "(I)Z"⟩
abbrev cX1_firstBare : ByteArray := prog_3_method_16_code
def yX1_firstBare : MethodName := ⟨RX1, "firstBare", "()I"⟩
def RX2 : String := "LadderCalls$Planner"
def TX2 : u_T := fun k => match k with
  | 0 => ("LadderCalls$Planner", "town", "LLadderCalls$Town;", true)
  | 1 => ("LadderCalls$Planner", "stands", "LLadderCalls$Stands;", true)
  | _ => ("LadderCalls$Planner", "still", "[[I", true)
def tyX2 : Nat → FieldType := fun k => match k with
  | 0 => .object "LadderCalls$Town"
  | 1 => .object "LadderCalls$Stands"
  | _ => .array (.array .int)
theorem nmX2 : ∀ a, a < 3 → ∀ b, b < 3 → a ≠ b → (TX2 a).2.1 ≠ (TX2 b).2.1 := by decide +kernel
theorem tyX2_ok : ∀ k, k < 3 → parseFieldDescriptor (TX2 k).2.2.1 = some (tyX2 k) := by decide +kernel
abbrev cX2_init : ByteArray := prog_4_method_1_code
def yX2_init : MethodName := ⟨RX2, "<init>", "(LLadderCalls$Town;LLadderCalls$Stands;)V"⟩
abbrev cX2_look : ByteArray := prog_4_method_2_code
def yX2_look : MethodName := ⟨RX2, "look", "(LLadderCalls$Day;I)V"⟩
abbrev cX2_cheapest : ByteArray := prog_4_method_3_code
def yX2_cheapest : MethodName := ⟨RX2, "cheapest", "(LLadderCalls$Day;II)I"⟩
abbrev cX2_sending : ByteArray := prog_4_method_4_code
def yX2_sending : MethodName := ⟨RX2, "sending", "(LLadderCalls$Day;III)I"⟩
abbrev cX2_rest : ByteArray := prog_4_method_5_code
def yX2_rest : MethodName := ⟨RX2, "rest", "(II)I"⟩
abbrev cX2_goer : ByteArray := prog_4_method_6_code
def yX2_goer : MethodName := ⟨RX2, "goer", "(LLadderCalls$Day;I)I"⟩
abbrev cX2_firstGoer : ByteArray := prog_4_method_7_code
def yX2_firstGoer : MethodName := ⟨RX2, "firstGoer", "(LLadderCalls$Day;II)I"⟩
def RX3 : String := "LadderCalls$Rules"
def TX3 : u_T := fun k => match k with
  | _ => ("LadderCalls$Rules", "trace", "J", false)
def tyX3 : Nat → FieldType := fun k => match k with
  | _ => .long
theorem nmX3 : ∀ a, a < 1 → ∀ b, b < 1 → a ≠ b → (TX3 a).2.1 ≠ (TX3 b).2.1 := by decide +kernel
theorem tyX3_ok : ∀ k, k < 1 → parseFieldDescriptor (TX3 k).2.2.1 = some (tyX3 k) := by decide +kernel
abbrev cX3_init : ByteArray := prog_5_method_1_code
def yX3_init : MethodName := ⟨RX3, "<init>", "()V"⟩
abbrev cX3_pick : ByteArray := prog_5_method_2_code
def yX3_pick : MethodName := ⟨RX3, "pick", "(ILLadderCalls$Day;)I"⟩
abbrev cX3_near : ByteArray := prog_5_method_3_code
def yX3_near : MethodName := ⟨RX3, "near", "(LLadderCalls$Day;)I"⟩
abbrev cX3_even : ByteArray := prog_5_method_4_code
def yX3_even : MethodName := ⟨RX3, "even", "(LLadderCalls$Day;)I"⟩
abbrev cX3_turn : ByteArray := prog_5_method_5_code
def yX3_turn : MethodName := ⟨RX3, "turn", "(LLadderCalls$Day;)I"⟩
abbrev cX3_ahead : ByteArray := prog_5_method_6_code
def yX3_ahead : MethodName := ⟨RX3, "ahead", "(LLadderCalls$Day;)I"⟩
def RX4 : String := "LadderCalls$Stands"
def TX4 : u_T := fun k => match k with
  | 0 => ("LadderCalls$Stands", "town", "LLadderCalls$Town;", true)
  | 1 => ("LadderCalls$Stands", "ladders", "I", false)
  | 2 => ("LadderCalls$Stands", "slots", "I", false)
  | 3 => ("LadderCalls$Stands", "numbers", "[I", true)
  | _ => ("LadderCalls$Stands", "slotOf", "[I", true)
def tyX4 : Nat → FieldType := fun k => match k with
  | 0 => .object "LadderCalls$Town"
  | 1 => .int
  | 2 => .int
  | 3 => .array .int
  | _ => .array .int
theorem nmX4 : ∀ a, a < 5 → ∀ b, b < 5 → a ≠ b → (TX4 a).2.1 ≠ (TX4 b).2.1 := by decide +kernel
theorem tyX4_ok : ∀ k, k < 5 → parseFieldDescriptor (TX4 k).2.2.1 = some (tyX4 k) := by decide +kernel
abbrev cX4_init : ByteArray := prog_6_method_1_code
def yX4_init : MethodName := ⟨RX4, "<init>", "(LLadderCalls$Town;)V"⟩
abbrev cX4_layOut : ByteArray := prog_6_method_2_code
def yX4_layOut : MethodName := ⟨RX4, "layOut", "(I)V"⟩
abbrev cX4_lowestLike : ByteArray := prog_6_method_3_code
def yX4_lowestLike : MethodName := ⟨RX4, "lowestLike", "(I)I"⟩
abbrev cX4_has : ByteArray := prog_6_method_4_code
def yX4_has : MethodName := ⟨RX4, "has", "(I)Z"⟩
abbrev cX4_slot : ByteArray := prog_6_method_5_code
def yX4_slot : MethodName := ⟨RX4, "slot", "(I)I"⟩
abbrev cX4_number : ByteArray := prog_6_method_6_code
def yX4_number : MethodName := ⟨RX4, "number", "(I)I"⟩
abbrev cX4_movingCost : ByteArray := prog_6_method_7_code
def yX4_movingCost : MethodName := ⟨RX4, "movingCost", "(II)I"⟩
def RX5 : String := "LadderCalls$Town"
def TX5 : u_T := fun k => match k with
  | 0 => ("LadderCalls$Town", "places", "I", false)
  | 1 => ("LadderCalls$Town", "roads", "I", false)
  | 2 => ("LadderCalls$Town", "links", "[[I", true)
  | _ => ("LadderCalls$Town", "gaps", "[[I", true)
def tyX5 : Nat → FieldType := fun k => match k with
  | 0 => .int
  | 1 => .int
  | 2 => .array (.array .int)
  | _ => .array (.array .int)
theorem nmX5 : ∀ a, a < 4 → ∀ b, b < 4 → a ≠ b → (TX5 a).2.1 ≠ (TX5 b).2.1 := by decide +kernel
theorem tyX5_ok : ∀ k, k < 4 → parseFieldDescriptor (TX5 k).2.2.1 = some (tyX5 k) := by decide +kernel
abbrev cX5_init : ByteArray := prog_7_method_1_code
def yX5_init : MethodName := ⟨RX5, "<init>", "()V"⟩
abbrev cX5_has : ByteArray := prog_7_method_2_code
def yX5_has : MethodName := ⟨RX5, "has", "(I)Z"⟩
abbrev cX5_hasAll : ByteArray := prog_7_method_3_code
def yX5_hasAll : MethodName := ⟨RX5, "hasAll", "(II)Z"⟩
abbrev cX5_addPlace : ByteArray := prog_7_method_4_code
def yX5_addPlace : MethodName := ⟨RX5, "addPlace", "()I"⟩
abbrev cX5_addRoad : ByteArray := prog_7_method_5_code
def yX5_addRoad : MethodName := ⟨RX5, "addRoad", "(III)I"⟩
abbrev cX5_gap : ByteArray := prog_7_method_6_code
def yX5_gap : MethodName := ⟨RX5, "gap", "(II)I"⟩
abbrev cX5_next : ByteArray := prog_7_method_7_code
def yX5_next : MethodName := ⟨RX5, "next", "(II)I"⟩
abbrev cX5_isTorn : ByteArray := prog_7_method_8_code
def yX5_isTorn : MethodName := ⟨RX5, "isTorn", "()Z"⟩
def RX6 : String := "LadderCalls$Works"
def TX6 : u_T := fun k => match k with
  | 0 => ("LadderCalls$Works", "town", "LLadderCalls$Town;", true)
  | 1 => ("LadderCalls$Works", "stands", "LLadderCalls$Stands;", true)
  | 2 => ("LadderCalls$Works", "rows", "[[I", true)
  | 3 => ("LadderCalls$Works", "heard", "[I", true)
  | _ => ("LadderCalls$Works", "known", "I", false)
def tyX6 : Nat → FieldType := fun k => match k with
  | 0 => .object "LadderCalls$Town"
  | 1 => .object "LadderCalls$Stands"
  | 2 => .array (.array .int)
  | 3 => .array .int
  | _ => .int
theorem nmX6 : ∀ a, a < 5 → ∀ b, b < 5 → a ≠ b → (TX6 a).2.1 ≠ (TX6 b).2.1 := by decide +kernel
theorem tyX6_ok : ∀ k, k < 5 → parseFieldDescriptor (TX6 k).2.2.1 = some (tyX6 k) := by decide +kernel
abbrev cX6_init : ByteArray := prog_8_method_1_code
def yX6_init : MethodName := ⟨RX6, "<init>", "(LLadderCalls$Town;LLadderCalls$Stands;I)V"⟩
abbrev cX6_start : ByteArray := prog_8_method_2_code
def yX6_start : MethodName := ⟨RX6, "start", "(I)V"⟩
abbrev cX6_hear : ByteArray := prog_8_method_3_code
def yX6_hear : MethodName := ⟨RX6, "hear", "(II)V"⟩
abbrev cX6_afterCall : ByteArray := prog_8_method_4_code
def yX6_afterCall : MethodName := ⟨RX6, "afterCall", "([III)I"⟩
abbrev cX6_of : ByteArray := prog_8_method_5_code
def yX6_of : MethodName := ⟨RX6, "of", "(II)I"⟩
abbrev cX6_lowest : ByteArray := prog_8_method_6_code
def yX6_lowest : MethodName := ⟨RX6, "lowest", "(I)I"⟩
def RX7 : String := "LadderCalls"
def TX7 : u_T := fun k => match k with
  | 0 => ("LadderCalls", "town", "LLadderCalls$Town;", true)
  | 1 => ("LadderCalls", "stands", "LLadderCalls$Stands;", true)
  | 2 => ("LadderCalls", "day", "LLadderCalls$Day;", true)
  | 3 => ("LadderCalls", "trial", "LLadderCalls$Day;", true)
  | 4 => ("LadderCalls", "planner", "LLadderCalls$Planner;", true)
  | 5 => ("LadderCalls", "rules", "LLadderCalls$Rules;", true)
  | 6 => ("LadderCalls", "books", "[LLadderCalls$Book;", true)
  | 7 => ("LadderCalls", "kind", "I", false)
  | _ => ("LadderCalls", "status", "I", false)
def tyX7 : Nat → FieldType := fun k => match k with
  | 0 => .object "LadderCalls$Town"
  | 1 => .object "LadderCalls$Stands"
  | 2 => .object "LadderCalls$Day"
  | 3 => .object "LadderCalls$Day"
  | 4 => .object "LadderCalls$Planner"
  | 5 => .object "LadderCalls$Rules"
  | 6 => .array (.object "LadderCalls$Book")
  | 7 => .int
  | _ => .int
theorem nmX7 : ∀ a, a < 9 → ∀ b, b < 9 → a ≠ b → (TX7 a).2.1 ≠ (TX7 b).2.1 := by decide +kernel
theorem tyX7_ok : ∀ k, k < 9 → parseFieldDescriptor (TX7 k).2.2.1 = some (tyX7 k) := by decide +kernel
abbrev cX7_init : ByteArray := prog_1_method_1_code
def yX7_init : MethodName := ⟨RX7, "<init>", "()V"⟩
abbrev cX7_place : ByteArray := prog_1_method_2_code
def yX7_place : MethodName := ⟨RX7, "place", "()I"⟩
abbrev cX7_road : ByteArray := prog_1_method_3_code
def yX7_road : MethodName := ⟨RX7, "road", "(III)I"⟩
abbrev cX7_apart : ByteArray := prog_1_method_4_code
def yX7_apart : MethodName := ⟨RX7, "apart", "(II)I"⟩
abbrev cX7_way : ByteArray := prog_1_method_5_code
def yX7_way : MethodName := ⟨RX7, "way", "(II)I"⟩
abbrev cX7_whyNoRoad : ByteArray := prog_1_method_6_code
def yX7_whyNoRoad : MethodName := ⟨RX7, "whyNoRoad", "(III)I"⟩
abbrev cX7_begin : ByteArray := prog_1_method_7_code
def yX7_begin : MethodName := ⟨RX7, "begin", "(II)I"⟩
abbrev cX7_end : ByteArray := prog_1_method_8_code
def yX7_end : MethodName := ⟨RX7, "end", "()I"⟩
abbrev cX7_rule : ByteArray := prog_1_method_9_code
def yX7_rule : MethodName := ⟨RX7, "rule", "(I)I"⟩
abbrev cX7_call : ByteArray := prog_1_method_10_code
def yX7_call : MethodName := ⟨RX7, "call", "(I)I"⟩
abbrev cX7_back : ByteArray := prog_1_method_11_code
def yX7_back : MethodName := ⟨RX7, "back", "()I"⟩
abbrev cX7_cruel : ByteArray := prog_1_method_12_code
def yX7_cruel : MethodName := ⟨RX7, "cruel", "()I"⟩
abbrev cX7_ask : ByteArray := prog_1_method_13_code
def yX7_ask : MethodName := ⟨RX7, "ask", "(I)I"⟩
abbrev cX7_stand : ByteArray := prog_1_method_14_code
def yX7_stand : MethodName := ⟨RX7, "stand", "()I"⟩
abbrev cX7_told : ByteArray := prog_1_method_15_code
def yX7_told : MethodName := ⟨RX7, "told", "(II)I"⟩
abbrev cX7_cost : ByteArray := prog_1_method_16_code
def yX7_cost : MethodName := ⟨RX7, "cost", "(I)I"⟩
abbrev cX7_whyNoCall : ByteArray := prog_1_method_17_code
def yX7_whyNoCall : MethodName := ⟨RX7, "whyNoCall", "(I)I"⟩
abbrev cX7_serve : ByteArray := prog_1_method_18_code
def yX7_serve : MethodName := ⟨RX7, "serve", "(LLadderCalls$Day;I)I"⟩
abbrev cX7_moves : ByteArray := prog_1_method_19_code
def yX7_moves : MethodName := ⟨RX7, "moves", "(II)I"⟩
abbrev cX7_work : ByteArray := prog_1_method_20_code
def yX7_work : MethodName := ⟨RX7, "work", "(II)I"⟩
abbrev cX7_least : ByteArray := prog_1_method_21_code
def yX7_least : MethodName := ⟨RX7, "least", "(I)I"⟩
abbrev cX7_plan : ByteArray := prog_1_method_22_code
def yX7_plan : MethodName := ⟨RX7, "plan", "(II)I"⟩
abbrev cX7_ratio : ByteArray := prog_1_method_23_code
def yX7_ratio : MethodName := ⟨RX7, "ratio", "()I"⟩
abbrev cX7_worst : ByteArray := prog_1_method_24_code
def yX7_worst : MethodName := ⟨RX7, "worst", "(II)I"⟩
abbrev cX7_tryRow : ByteArray := prog_1_method_25_code
def yX7_tryRow : MethodName := ⟨RX7, "tryRow", "(II)V"⟩
abbrev cX7_book : ByteArray := prog_1_method_26_code
def yX7_book : MethodName := ⟨RX7, "book", "(III)I"⟩
abbrev cX7_row : ByteArray := prog_1_method_27_code
def yX7_row : MethodName := ⟨RX7, "row", "(III)I"⟩
abbrev cX7_put : ByteArray := prog_1_method_28_code
def yX7_put : MethodName := ⟨RX7, "put", "(IIIIJ)I"⟩
abbrev cX7_item : ByteArray := prog_1_method_29_code
def yX7_item : MethodName := ⟨RX7, "item", "(IIII)J"⟩
abbrev cX7_roads : ByteArray := prog_1_method_30_code
def yX7_roads : MethodName := ⟨RX7, "roads", "(I)I"⟩
abbrev cX7_calls : ByteArray := prog_1_method_31_code
def yX7_calls : MethodName := ⟨RX7, "calls", "(II)I"⟩
abbrev cX7_isBook : ByteArray := prog_1_method_32_code
def yX7_isBook : MethodName := ⟨RX7, "isBook", "(I)Z"⟩
abbrev cX7_found : ByteArray := prog_1_method_33_code
def yX7_found : MethodName := ⟨RX7, "found", "(I)I"⟩
abbrev cX7_whyNoNumber : ByteArray := prog_1_method_34_code
def yX7_whyNoNumber : MethodName := ⟨RX7, "whyNoNumber", "(IIII)I"⟩
abbrev cX7_roadFrom : ByteArray := prog_1_method_35_code
def yX7_roadFrom : MethodName := ⟨RX7, "roadFrom", "(LLadderCalls$Book;I)I"⟩
abbrev cX7_fitsInt : ByteArray := prog_1_method_36_code
def yX7_fitsInt : MethodName := ⟨RX7, "fitsInt", "(J)Z"⟩
abbrev cX7_about : ByteArray := prog_1_method_37_code
def yX7_about : MethodName := ⟨RX7, "about", "(I)I"⟩
abbrev cX7_trace : ByteArray := prog_1_method_38_code
def yX7_trace : MethodName := ⟨RX7, "trace", "()J"⟩
abbrev cX7_status : ByteArray := prog_1_method_39_code
def yX7_status : MethodName := ⟨RX7, "status", "()I"⟩
abbrev cX7_digit : ByteArray := prog_1_method_40_code
def yX7_digit : MethodName := ⟨RX7, "digit", "(II)I"⟩
abbrev cX7_withDigit : ByteArray := prog_1_method_41_code
def yX7_withDigit : MethodName := ⟨RX7, "withDigit", "(III)I"⟩
def RX8 : String := "LadderCallsModel"
def TX8 : u_T := fun k => match k with
  | 0 => ("LadderCallsModel", "thrown", "I", false)
  | 1 => ("LadderCallsModel", "status", "I", false)
  | 2 => ("LadderCallsModel", "trace", "J", false)
  | 3 => ("LadderCallsModel", "places", "I", false)
  | 4 => ("LadderCallsModel", "roads", "I", false)
  | 5 => ("LadderCallsModel", "roadA", "[I", true)
  | 6 => ("LadderCallsModel", "roadB", "[I", true)
  | 7 => ("LadderCallsModel", "roadLength", "[I", true)
  | 8 => ("LadderCallsModel", "far", "[I", true)
  | 9 => ("LadderCallsModel", "ladders", "I", false)
  | 10 => ("LadderCallsModel", "beginning", "I", false)
  | 11 => ("LadderCallsModel", "kind", "I", false)
  | 12 => ("LadderCallsModel", "at", "[I", true)
  | 13 => ("LadderCallsModel", "sum", "[I", true)
  | 14 => ("LadderCallsModel", "latest", "I", false)
  | 15 => ("LadderCallsModel", "calls", "I", false)
  | 16 => ("LadderCallsModel", "callPlace", "[I", true)
  | 17 => ("LadderCallsModel", "callLadder", "[I", true)
  | 18 => ("LadderCallsModel", "callFar", "[I", true)
  | 19 => ("LadderCallsModel", "callKind", "[I", true)
  | 20 => ("LadderCallsModel", "callFrom", "[I", true)
  | 21 => ("LadderCallsModel", "callLatest", "[I", true)
  | 22 => ("LadderCallsModel", "least", "[I", true)
  | 23 => ("LadderCallsModel", "tried", "[I", true)
  | 24 => ("LadderCallsModel", "hasBook", "[Z", true)
  | 25 => ("LadderCallsModel", "sort", "[I", true)
  | 26 => ("LadderCallsModel", "bookRows", "[I", true)
  | 27 => ("LadderCallsModel", "rowSize", "[I", true)
  | 28 => ("LadderCallsModel", "cells", "[J", true)
  | 29 => ("LadderCallsModel", "rest", "[I", true)
  | 30 => ("LadderCallsModel", "where", "[I", true)
  | _ => ("LadderCallsModel", "ways", "[I", true)
def tyX8 : Nat → FieldType := fun k => match k with
  | 0 => .int
  | 1 => .int
  | 2 => .long
  | 3 => .int
  | 4 => .int
  | 5 => .array .int
  | 6 => .array .int
  | 7 => .array .int
  | 8 => .array .int
  | 9 => .int
  | 10 => .int
  | 11 => .int
  | 12 => .array .int
  | 13 => .array .int
  | 14 => .int
  | 15 => .int
  | 16 => .array .int
  | 17 => .array .int
  | 18 => .array .int
  | 19 => .array .int
  | 20 => .array .int
  | 21 => .array .int
  | 22 => .array .int
  | 23 => .array .int
  | 24 => .array .boolean
  | 25 => .array .int
  | 26 => .array .int
  | 27 => .array .int
  | 28 => .array .long
  | 29 => .array .int
  | 30 => .array .int
  | _ => .array .int
theorem nmX8 : ∀ a, a < 32 → ∀ b, b < 32 → a ≠ b → (TX8 a).2.1 ≠ (TX8 b).2.1 := by decide +kernel
theorem tyX8_ok : ∀ k, k < 32 → parseFieldDescriptor (TX8 k).2.2.1 = some (tyX8 k) := by decide +kernel
abbrev cX8_init : ByteArray := prog_10_method_1_code
def yX8_init : MethodName := ⟨RX8, "<init>", "()V"⟩
abbrev cX8_in : ByteArray := prog_10_method_3_code
def yX8_in : MethodName := ⟨RX8, "in", "(JJJ)Z"⟩
abbrev cX8_isPlace : ByteArray := prog_10_method_4_code
def yX8_isPlace : MethodName := ⟨RX8, "isPlace", "(I)Z"⟩
abbrev cX8_measures : ByteArray := prog_10_method_5_code
def yX8_measures : MethodName := ⟨RX8, "measures", "()V"⟩
abbrev cX8_isTorn : ByteArray := prog_10_method_6_code
def yX8_isTorn : MethodName := ⟨RX8, "isTorn", "()Z"⟩
abbrev cX8_place : ByteArray := prog_10_method_7_code
def yX8_place : MethodName := ⟨RX8, "place", "()I"⟩
abbrev cX8_addRoad : ByteArray := prog_10_method_8_code
def yX8_addRoad : MethodName := ⟨RX8, "addRoad", "(JJJ)I"⟩
abbrev cX8_road : ByteArray := prog_10_method_9_code
def yX8_road : MethodName := ⟨RX8, "road", "(III)I"⟩
abbrev cX8_apart : ByteArray := prog_10_method_10_code
def yX8_apart : MethodName := ⟨RX8, "apart", "(II)I"⟩
abbrev cX8_way : ByteArray := prog_10_method_11_code
def yX8_way : MethodName := ⟨RX8, "way", "(II)I"⟩
abbrev cX8_isStand : ByteArray := prog_10_method_12_code
def yX8_isStand : MethodName := ⟨RX8, "isStand", "(II)Z"⟩
abbrev cX8_farOf : ByteArray := prog_10_method_13_code
def yX8_farOf : MethodName := ⟨RX8, "farOf", "(IIII)I"⟩
abbrev cX8_movesOf : ByteArray := prog_10_method_14_code
def yX8_movesOf : MethodName := ⟨RX8, "movesOf", "(II)I"⟩
abbrev cX8_moved : ByteArray := prog_10_method_15_code
def yX8_moved : MethodName := ⟨RX8, "moved", "(III)I"⟩
abbrev cX8_serves : ByteArray := prog_10_method_16_code
def yX8_serves : MethodName := ⟨RX8, "serves", "([III)V"⟩
abbrev cX8_starts : ByteArray := prog_10_method_17_code
def yX8_starts : MethodName := ⟨RX8, "starts", "([I)V"⟩
abbrev cX8_leastOf : ByteArray := prog_10_method_18_code
def yX8_leastOf : MethodName := ⟨RX8, "leastOf", "([II)I"⟩
abbrev cX8_workOf : ByteArray := prog_10_method_19_code
def yX8_workOf : MethodName := ⟨RX8, "workOf", "([III)I"⟩
abbrev cX8_nearest : ByteArray := prog_10_method_20_code
def yX8_nearest : MethodName := ⟨RX8, "nearest", "([II)I"⟩
abbrev cX8_isThere : ByteArray := prog_10_method_21_code
def yX8_isThere : MethodName := ⟨RX8, "isThere", "([II)Z"⟩
abbrev cX8_evenOf : ByteArray := prog_10_method_22_code
def yX8_evenOf : MethodName := ⟨RX8, "evenOf", "([I[II)I"⟩
abbrev cX8_chosen : ByteArray := prog_10_method_23_code
def yX8_chosen : MethodName := ⟨RX8, "chosen", "([I[II[III)I"⟩
abbrev cX8_begin : ByteArray := prog_10_method_24_code
def yX8_begin : MethodName := ⟨RX8, "begin", "(II)I"⟩
abbrev cX8_end : ByteArray := prog_10_method_25_code
def yX8_end : MethodName := ⟨RX8, "end", "()I"⟩
abbrev cX8_rule : ByteArray := prog_10_method_26_code
def yX8_rule : MethodName := ⟨RX8, "rule", "(I)I"⟩
abbrev cX8_comes : ByteArray := prog_10_method_27_code
def yX8_comes : MethodName := ⟨RX8, "comes", "(I)I"⟩
abbrev cX8_call : ByteArray := prog_10_method_28_code
def yX8_call : MethodName := ⟨RX8, "call", "(I)I"⟩
abbrev cX8_back : ByteArray := prog_10_method_29_code
def yX8_back : MethodName := ⟨RX8, "back", "()I"⟩
abbrev cX8_cruel : ByteArray := prog_10_method_30_code
def yX8_cruel : MethodName := ⟨RX8, "cruel", "()I"⟩
abbrev cX8_ask : ByteArray := prog_10_method_31_code
def yX8_ask : MethodName := ⟨RX8, "ask", "(I)I"⟩
abbrev cX8_stand : ByteArray := prog_10_method_32_code
def yX8_stand : MethodName := ⟨RX8, "stand", "()I"⟩
abbrev cX8_told : ByteArray := prog_10_method_33_code
def yX8_told : MethodName := ⟨RX8, "told", "(II)I"⟩
abbrev cX8_costOf : ByteArray := prog_10_method_34_code
def yX8_costOf : MethodName := ⟨RX8, "costOf", "()I"⟩
abbrev cX8_cost : ByteArray := prog_10_method_35_code
def yX8_cost : MethodName := ⟨RX8, "cost", "(I)I"⟩
abbrev cX8_moves : ByteArray := prog_10_method_36_code
def yX8_moves : MethodName := ⟨RX8, "moves", "(II)I"⟩
abbrev cX8_work : ByteArray := prog_10_method_37_code
def yX8_work : MethodName := ⟨RX8, "work", "(II)I"⟩
abbrev cX8_least : ByteArray := prog_10_method_38_code
def yX8_least : MethodName := ⟨RX8, "least", "(I)I"⟩
abbrev cX8_plan : ByteArray := prog_10_method_39_code
def yX8_plan : MethodName := ⟨RX8, "plan", "(II)I"⟩
abbrev cX8_ratio : ByteArray := prog_10_method_40_code
def yX8_ratio : MethodName := ⟨RX8, "ratio", "()I"⟩
abbrev cX8_worst : ByteArray := prog_10_method_41_code
def yX8_worst : MethodName := ⟨RX8, "worst", "(II)I"⟩
abbrev cX8_no : ByteArray := prog_10_method_42_code
def yX8_no : MethodName := ⟨RX8, "no", "(I)I"⟩
abbrev cX8_book : ByteArray := prog_10_method_43_code
def yX8_book : MethodName := ⟨RX8, "book", "(III)I"⟩
abbrev cX8_row : ByteArray := prog_10_method_44_code
def yX8_row : MethodName := ⟨RX8, "row", "(III)I"⟩
abbrev cX8_wrong : ByteArray := prog_10_method_45_code
def yX8_wrong : MethodName := ⟨RX8, "wrong", "(IIII)I"⟩
abbrev cX8_put : ByteArray := prog_10_method_46_code
def yX8_put : MethodName := ⟨RX8, "put", "(IIIIJ)I"⟩
abbrev cX8_item : ByteArray := prog_10_method_47_code
def yX8_item : MethodName := ⟨RX8, "item", "(IIII)J"⟩
abbrev cX8_roads : ByteArray := prog_10_method_48_code
def yX8_roads : MethodName := ⟨RX8, "roads", "(I)I"⟩
abbrev cX8_calls : ByteArray := prog_10_method_49_code
def yX8_calls : MethodName := ⟨RX8, "calls", "(II)I"⟩
abbrev cX8_about : ByteArray := prog_10_method_50_code
def yX8_about : MethodName := ⟨RX8, "about", "(I)I"⟩
abbrev cX8_trace : ByteArray := prog_10_method_51_code
def yX8_trace : MethodName := ⟨RX8, "trace", "()J"⟩
abbrev cX8_status : ByteArray := prog_10_method_52_code
def yX8_status : MethodName := ⟨RX8, "status", "()I"⟩
def RL : String := "LadderCallsLaw"
abbrev cL_law : ByteArray := code
def yL_law : MethodName := ⟨RL, "law", "([I)Z"⟩
abbrev vwCl : List vw_C := [(RX0, TX0, 4), (RX1, TX1, 17), (RX2, TX2, 3), (RX3, TX3, 1), (RX4, TX4, 5), (RX5, TX5, 4), (RX6, TX6, 5), (RX7, TX7, 9), (RX8, TX8, 32)]
