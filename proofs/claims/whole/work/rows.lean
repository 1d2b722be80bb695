section
-- ===== PART A: goes FIRST, ahead of the names: the tables' words, and 'selects' of the private methods out of them =====
/-- a private method of a class that the tables say can be made, by its rows of tables_1 -/
def lw_okq (q : MethodName × Nat) : Prop := (q.1.cls ≠ "java/lang/invoke/MethodHandle" ∧ q.1.cls ≠ "java/lang/invoke/VarHandle") ∧ Cond.instantiable q.1.cls q.2 ∈ tables_1 ∧ Cond.privateMethod q.1 ∈ tables_1 ∧ Cond.instanceMethod q.1 ∈ tables_1
theorem lw_p0 : lw_okq (⟨"FrozenDistricts$History", "slotAt", "(I)LFrozenDistricts$State;"⟩, 3) := ⟨⟨by decide +kernel, by decide +kernel⟩, List.mem_of_getElem? (i := 81) (by decide +kernel), List.mem_of_getElem? (i := 171) (by decide +kernel), List.mem_of_getElem? (i := 172) (by decide +kernel)⟩
theorem lw_p1 : lw_okq (⟨"FrozenDistricts", "oneIfCut", "()I"⟩, 7) := ⟨⟨by decide +kernel, by decide +kernel⟩, List.mem_of_getElem? (i := 11) (by decide +kernel), List.mem_of_getElem? (i := 238) (by decide +kernel), List.mem_of_getElem? (i := 239) (by decide +kernel)⟩
theorem lw_p2 : lw_okq (⟨"FrozenDistricts$Judge", "notConnected", "(LFrozenDistricts$State;)I"⟩, 2) := ⟨⟨by decide +kernel, by decide +kernel⟩, List.mem_of_getElem? (i := 114) (by decide +kernel), List.mem_of_getElem? (i := 260) (by decide +kernel), List.mem_of_getElem? (i := 261) (by decide +kernel)⟩
theorem lw_p3 : lw_okq (⟨"FrozenDistricts$Judge", "reachFrom", "(ILFrozenDistricts$Row;I)V"⟩, 2) := ⟨⟨by decide +kernel, by decide +kernel⟩, List.mem_of_getElem? (i := 114) (by decide +kernel), List.mem_of_getElem? (i := 269) (by decide +kernel), List.mem_of_getElem? (i := 270) (by decide +kernel)⟩
theorem lw_p4 : lw_okq (⟨"FrozenDistricts", "planSnake", "(Z)V"⟩, 7) := ⟨⟨by decide +kernel, by decide +kernel⟩, List.mem_of_getElem? (i := 11) (by decide +kernel), List.mem_of_getElem? (i := 281) (by decide +kernel), List.mem_of_getElem? (i := 282) (by decide +kernel)⟩
theorem lw_p5 : lw_okq (⟨"FrozenDistricts$State", "makeDistrict", "(LFrozenDistricts$Row;II)V"⟩, 11) := ⟨⟨by decide +kernel, by decide +kernel⟩, List.mem_of_getElem? (i := 19) (by decide +kernel), List.mem_of_getElem? (i := 311) (by decide +kernel), List.mem_of_getElem? (i := 312) (by decide +kernel)⟩
theorem lw_p6 : lw_okq (⟨"FrozenDistricts$State", "leaveRest", "(I)V"⟩, 11) := ⟨⟨by decide +kernel, by decide +kernel⟩, List.mem_of_getElem? (i := 19) (by decide +kernel), List.mem_of_getElem? (i := 316) (by decide +kernel), List.mem_of_getElem? (i := 317) (by decide +kernel)⟩
theorem lw_p7 : lw_okq (⟨"FrozenDistricts$VoteText", "isAllowed", "(I)Z"⟩, 2) := ⟨⟨by decide +kernel, by decide +kernel⟩, List.mem_of_getElem? (i := 100) (by decide +kernel), List.mem_of_getElem? (i := 348) (by decide +kernel), List.mem_of_getElem? (i := 349) (by decide +kernel)⟩
theorem lw_p8 : lw_okq (⟨"FrozenDistricts$VoteText", "at", "(I)C"⟩, 2) := ⟨⟨by decide +kernel, by decide +kernel⟩, List.mem_of_getElem? (i := 100) (by decide +kernel), List.mem_of_getElem? (i := 352) (by decide +kernel), List.mem_of_getElem? (i := 353) (by decide +kernel)⟩
theorem lw_p9 : lw_okq (⟨"FrozenDistricts", "tellArea", "(LFrozenDistricts$Row;II)I"⟩, 7) := ⟨⟨by decide +kernel, by decide +kernel⟩, List.mem_of_getElem? (i := 11) (by decide +kernel), List.mem_of_getElem? (i := 401) (by decide +kernel), List.mem_of_getElem? (i := 402) (by decide +kernel)⟩
theorem lw_p10 : lw_okq (⟨"FrozenDistrictsModel", "clear", "()V"⟩, 11) := ⟨⟨by decide +kernel, by decide +kernel⟩, List.mem_of_getElem? (i := 505) (by decide +kernel), List.mem_of_getElem? (i := 511) (by decide +kernel), List.mem_of_getElem? (i := 512) (by decide +kernel)⟩
theorem lw_p11 : lw_okq (⟨"FrozenDistrictsModel", "record", "()V"⟩, 11) := ⟨⟨by decide +kernel, by decide +kernel⟩, List.mem_of_getElem? (i := 505) (by decide +kernel), List.mem_of_getElem? (i := 562) (by decide +kernel), List.mem_of_getElem? (i := 563) (by decide +kernel)⟩
theorem lw_p12 : lw_okq (⟨"FrozenDistrictsModel", "size", "()I"⟩, 11) := ⟨⟨by decide +kernel, by decide +kernel⟩, List.mem_of_getElem? (i := 505) (by decide +kernel), List.mem_of_getElem? (i := 580) (by decide +kernel), List.mem_of_getElem? (i := 581) (by decide +kernel)⟩
theorem lw_p13 : lw_okq (⟨"FrozenDistrictsModel", "isOpen", "(I)Z"⟩, 11) := ⟨⟨by decide +kernel, by decide +kernel⟩, List.mem_of_getElem? (i := 505) (by decide +kernel), List.mem_of_getElem? (i := 592) (by decide +kernel), List.mem_of_getElem? (i := 593) (by decide +kernel)⟩
theorem lw_p14 : lw_okq (⟨"FrozenDistrictsModel", "noDraft", "()Z"⟩, 11) := ⟨⟨by decide +kernel, by decide +kernel⟩, List.mem_of_getElem? (i := 505) (by decide +kernel), List.mem_of_getElem? (i := 596) (by decide +kernel), List.mem_of_getElem? (i := 597) (by decide +kernel)⟩
theorem lw_p15 : lw_okq (⟨"FrozenDistrictsModel", "left", "()I"⟩, 11) := ⟨⟨by decide +kernel, by decide +kernel⟩, List.mem_of_getElem? (i := 505) (by decide +kernel), List.mem_of_getElem? (i := 600) (by decide +kernel), List.mem_of_getElem? (i := 601) (by decide +kernel)⟩
def lw_privs_1 : List (MethodName × Nat) := [(⟨"FrozenDistricts$History", "slotAt", "(I)LFrozenDistricts$State;"⟩, 3), (⟨"FrozenDistricts", "oneIfCut", "()I"⟩, 7), (⟨"FrozenDistricts$Judge", "notConnected", "(LFrozenDistricts$State;)I"⟩, 2), (⟨"FrozenDistricts$Judge", "reachFrom", "(ILFrozenDistricts$Row;I)V"⟩, 2), (⟨"FrozenDistricts", "planSnake", "(Z)V"⟩, 7), (⟨"FrozenDistricts$State", "makeDistrict", "(LFrozenDistricts$Row;II)V"⟩, 11), (⟨"FrozenDistricts$State", "leaveRest", "(I)V"⟩, 11), (⟨"FrozenDistricts$VoteText", "isAllowed", "(I)Z"⟩, 2), (⟨"FrozenDistricts$VoteText", "at", "(I)C"⟩, 2), (⟨"FrozenDistricts", "tellArea", "(LFrozenDistricts$Row;II)I"⟩, 7), (⟨"FrozenDistrictsModel", "clear", "()V"⟩, 11), (⟨"FrozenDistrictsModel", "record", "()V"⟩, 11), (⟨"FrozenDistrictsModel", "size", "()I"⟩, 11), (⟨"FrozenDistrictsModel", "isOpen", "(I)Z"⟩, 11), (⟨"FrozenDistrictsModel", "noDraft", "()Z"⟩, 11), (⟨"FrozenDistrictsModel", "left", "()I"⟩, 11)]
theorem lw_r1 : ∀ q ∈ lw_privs_1, lw_okq q := List.forall_mem_cons.mpr ⟨lw_p0, List.forall_mem_cons.mpr ⟨lw_p1, List.forall_mem_cons.mpr ⟨lw_p2, List.forall_mem_cons.mpr ⟨lw_p3, List.forall_mem_cons.mpr ⟨lw_p4, List.forall_mem_cons.mpr ⟨lw_p5, List.forall_mem_cons.mpr ⟨lw_p6, List.forall_mem_cons.mpr ⟨lw_p7, List.forall_mem_cons.mpr ⟨lw_p8, List.forall_mem_cons.mpr ⟨lw_p9, List.forall_mem_cons.mpr ⟨lw_p10, List.forall_mem_cons.mpr ⟨lw_p11, List.forall_mem_cons.mpr ⟨lw_p12, List.forall_mem_cons.mpr ⟨lw_p13, List.forall_mem_cons.mpr ⟨lw_p14, List.forall_mem_cons.mpr ⟨lw_p15, fun _ h => absurd h List.not_mem_nil⟩⟩⟩⟩⟩⟩⟩⟩⟩⟩⟩⟩⟩⟩⟩⟩
theorem lw_p16 : lw_okq (⟨"FrozenDistrictsModel", "reason", "()I"⟩, 11) := ⟨⟨by decide +kernel, by decide +kernel⟩, List.mem_of_getElem? (i := 505) (by decide +kernel), List.mem_of_getElem? (i := 608) (by decide +kernel), List.mem_of_getElem? (i := 609) (by decide +kernel)⟩
theorem lw_p17 : lw_okq (⟨"FrozenDistrictsModel", "cells", "(II)I"⟩, 11) := ⟨⟨by decide +kernel, by decide +kernel⟩, List.mem_of_getElem? (i := 505) (by decide +kernel), List.mem_of_getElem? (i := 612) (by decide +kernel), List.mem_of_getElem? (i := 613) (by decide +kernel)⟩
theorem lw_p18 : lw_okq (⟨"FrozenDistrictsModel", "pieces", "(I)I"⟩, 11) := ⟨⟨by decide +kernel, by decide +kernel⟩, List.mem_of_getElem? (i := 505) (by decide +kernel), List.mem_of_getElem? (i := 616) (by decide +kernel), List.mem_of_getElem? (i := 617) (by decide +kernel)⟩
theorem lw_p19 : lw_okq (⟨"FrozenDistrictsModel", "spread", "(I)V"⟩, 11) := ⟨⟨by decide +kernel, by decide +kernel⟩, List.mem_of_getElem? (i := 505) (by decide +kernel), List.mem_of_getElem? (i := 620) (by decide +kernel), List.mem_of_getElem? (i := 621) (by decide +kernel)⟩
theorem lw_p20 : lw_okq (⟨"FrozenDistrictsModel", "take", "()Z"⟩, 11) := ⟨⟨by decide +kernel, by decide +kernel⟩, List.mem_of_getElem? (i := 505) (by decide +kernel), List.mem_of_getElem? (i := 631) (by decide +kernel), List.mem_of_getElem? (i := 632) (by decide +kernel)⟩
theorem lw_p21 : lw_okq (⟨"FrozenDistrictsModel", "freezePart", "(II)V"⟩, 11) := ⟨⟨by decide +kernel, by decide +kernel⟩, List.mem_of_getElem? (i := 505) (by decide +kernel), List.mem_of_getElem? (i := 647) (by decide +kernel), List.mem_of_getElem? (i := 648) (by decide +kernel)⟩
theorem lw_p22 : lw_okq (⟨"FrozenDistrictsModel", "readPairs", "()I"⟩, 11) := ⟨⟨by decide +kernel, by decide +kernel⟩, List.mem_of_getElem? (i := 505) (by decide +kernel), List.mem_of_getElem? (i := 663) (by decide +kernel), List.mem_of_getElem? (i := 664) (by decide +kernel)⟩
theorem lw_p23 : lw_okq (⟨"FrozenDistrictsModel", "sees", "(II)Z"⟩, 11) := ⟨⟨by decide +kernel, by decide +kernel⟩, List.mem_of_getElem? (i := 505) (by decide +kernel), List.mem_of_getElem? (i := 667) (by decide +kernel), List.mem_of_getElem? (i := 668) (by decide +kernel)⟩
theorem lw_p24 : lw_okq (⟨"FrozenDistrictsModel", "alikeBeside", "(I)I"⟩, 11) := ⟨⟨by decide +kernel, by decide +kernel⟩, List.mem_of_getElem? (i := 505) (by decide +kernel), List.mem_of_getElem? (i := 678) (by decide +kernel), List.mem_of_getElem? (i := 679) (by decide +kernel)⟩
theorem lw_p25 : lw_okq (⟨"FrozenDistrictsModel", "borders", "(II)I"⟩, 11) := ⟨⟨by decide +kernel, by decide +kernel⟩, List.mem_of_getElem? (i := 505) (by decide +kernel), List.mem_of_getElem? (i := 686) (by decide +kernel), List.mem_of_getElem? (i := 687) (by decide +kernel)⟩
theorem lw_p26 : lw_okq (⟨"FrozenDistrictsModel", "margin", "(II)I"⟩, 11) := ⟨⟨by decide +kernel, by decide +kernel⟩, List.mem_of_getElem? (i := 505) (by decide +kernel), List.mem_of_getElem? (i := 690) (by decide +kernel), List.mem_of_getElem? (i := 691) (by decide +kernel)⟩
theorem lw_p27 : lw_okq (⟨"FrozenDistrictsModel", "votes", "(III)I"⟩, 11) := ⟨⟨by decide +kernel, by decide +kernel⟩, List.mem_of_getElem? (i := 505) (by decide +kernel), List.mem_of_getElem? (i := 694) (by decide +kernel), List.mem_of_getElem? (i := 695) (by decide +kernel)⟩
theorem lw_p28 : lw_okq (⟨"FrozenDistrictsModel", "winner", "(II)I"⟩, 11) := ⟨⟨by decide +kernel, by decide +kernel⟩, List.mem_of_getElem? (i := 505) (by decide +kernel), List.mem_of_getElem? (i := 698) (by decide +kernel), List.mem_of_getElem? (i := 699) (by decide +kernel)⟩
theorem lw_p29 : lw_okq (⟨"FrozenDistrictsModel", "lowest", "(II)I"⟩, 11) := ⟨⟨by decide +kernel, by decide +kernel⟩, List.mem_of_getElem? (i := 505) (by decide +kernel), List.mem_of_getElem? (i := 702) (by decide +kernel), List.mem_of_getElem? (i := 703) (by decide +kernel)⟩
theorem lw_p30 : lw_okq (⟨"FrozenDistrictsModel", "wasted", "(II)I"⟩, 11) := ⟨⟨by decide +kernel, by decide +kernel⟩, List.mem_of_getElem? (i := 505) (by decide +kernel), List.mem_of_getElem? (i := 710) (by decide +kernel), List.mem_of_getElem? (i := 711) (by decide +kernel)⟩
theorem lw_p31 : lw_okq (⟨"FrozenDistrictsModel", "seats", "(I)I"⟩, 11) := ⟨⟨by decide +kernel, by decide +kernel⟩, List.mem_of_getElem? (i := 505) (by decide +kernel), List.mem_of_getElem? (i := 726) (by decide +kernel), List.mem_of_getElem? (i := 727) (by decide +kernel)⟩
def lw_privs_2 : List (MethodName × Nat) := [(⟨"FrozenDistrictsModel", "reason", "()I"⟩, 11), (⟨"FrozenDistrictsModel", "cells", "(II)I"⟩, 11), (⟨"FrozenDistrictsModel", "pieces", "(I)I"⟩, 11), (⟨"FrozenDistrictsModel", "spread", "(I)V"⟩, 11), (⟨"FrozenDistrictsModel", "take", "()Z"⟩, 11), (⟨"FrozenDistrictsModel", "freezePart", "(II)V"⟩, 11), (⟨"FrozenDistrictsModel", "readPairs", "()I"⟩, 11), (⟨"FrozenDistrictsModel", "sees", "(II)Z"⟩, 11), (⟨"FrozenDistrictsModel", "alikeBeside", "(I)I"⟩, 11), (⟨"FrozenDistrictsModel", "borders", "(II)I"⟩, 11), (⟨"FrozenDistrictsModel", "margin", "(II)I"⟩, 11), (⟨"FrozenDistrictsModel", "votes", "(III)I"⟩, 11), (⟨"FrozenDistrictsModel", "winner", "(II)I"⟩, 11), (⟨"FrozenDistrictsModel", "lowest", "(II)I"⟩, 11), (⟨"FrozenDistrictsModel", "wasted", "(II)I"⟩, 11), (⟨"FrozenDistrictsModel", "seats", "(I)I"⟩, 11)]
theorem lw_r2 : ∀ q ∈ lw_privs_2, lw_okq q := List.forall_mem_cons.mpr ⟨lw_p16, List.forall_mem_cons.mpr ⟨lw_p17, List.forall_mem_cons.mpr ⟨lw_p18, List.forall_mem_cons.mpr ⟨lw_p19, List.forall_mem_cons.mpr ⟨lw_p20, List.forall_mem_cons.mpr ⟨lw_p21, List.forall_mem_cons.mpr ⟨lw_p22, List.forall_mem_cons.mpr ⟨lw_p23, List.forall_mem_cons.mpr ⟨lw_p24, List.forall_mem_cons.mpr ⟨lw_p25, List.forall_mem_cons.mpr ⟨lw_p26, List.forall_mem_cons.mpr ⟨lw_p27, List.forall_mem_cons.mpr ⟨lw_p28, List.forall_mem_cons.mpr ⟨lw_p29, List.forall_mem_cons.mpr ⟨lw_p30, List.forall_mem_cons.mpr ⟨lw_p31, fun _ h => absurd h List.not_mem_nil⟩⟩⟩⟩⟩⟩⟩⟩⟩⟩⟩⟩⟩⟩⟩⟩
theorem lw_p32 : lw_okq (⟨"FrozenDistrictsModel", "votesOnMap", "(I)I"⟩, 11) := ⟨⟨by decide +kernel, by decide +kernel⟩, List.mem_of_getElem? (i := 505) (by decide +kernel), List.mem_of_getElem? (i := 730) (by decide +kernel), List.mem_of_getElem? (i := 731) (by decide +kernel)⟩
theorem lw_p33 : lw_okq (⟨"FrozenDistrictsModel", "withoutPart", "()I"⟩, 11) := ⟨⟨by decide +kernel, by decide +kernel⟩, List.mem_of_getElem? (i := 505) (by decide +kernel), List.mem_of_getElem? (i := 743) (by decide +kernel), List.mem_of_getElem? (i := 744) (by decide +kernel)⟩
theorem lw_p34 : lw_okq (⟨"FrozenDistrictsModel", "allBorders", "()I"⟩, 11) := ⟨⟨by decide +kernel, by decide +kernel⟩, List.mem_of_getElem? (i := 505) (by decide +kernel), List.mem_of_getElem? (i := 747) (by decide +kernel), List.mem_of_getElem? (i := 748) (by decide +kernel)⟩
def lw_privs_3 : List (MethodName × Nat) := [(⟨"FrozenDistrictsModel", "votesOnMap", "(I)I"⟩, 11), (⟨"FrozenDistrictsModel", "withoutPart", "()I"⟩, 11), (⟨"FrozenDistrictsModel", "allBorders", "()I"⟩, 11)]
theorem lw_r3 : ∀ q ∈ lw_privs_3, lw_okq q := List.forall_mem_cons.mpr ⟨lw_p32, List.forall_mem_cons.mpr ⟨lw_p33, List.forall_mem_cons.mpr ⟨lw_p34, fun _ h => absurd h List.not_mem_nil⟩⟩⟩
def lw_privs : List (MethodName × Nat) := lw_privs_1 ++ (lw_privs_2 ++ (lw_privs_3))
def lw_tbl : List Cond := k2_sels lw_privs ++ tables_1
theorem lw_privs_ok : ∀ q ∈ lw_privs, lw_okq q := by
  show ∀ q ∈ lw_privs_1 ++ (lw_privs_2 ++ (lw_privs_3)), lw_okq q
  exact List.forall_mem_append.mpr ⟨lw_r1, List.forall_mem_append.mpr ⟨lw_r2, lw_r3⟩⟩
-- ===== names =====
def RX0 : String := "FrozenDistricts$Areas"
def TX0 : u_T := fun k => match k with
  | _ => ("", "", "", false)
def tyX0 : Nat → FieldType := fun k => match k with
  | _ => .int
abbrev wsX00 : List Cond := u_ws RX0 TX0 0
theorem nmX0 : ∀ a, a < 0 → ∀ b, b < 0 → a ≠ b → (TX0 a).2.1 ≠ (TX0 b).2.1 := by decide +kernel
theorem tyX0_ok : ∀ k, k < 0 → parseFieldDescriptor (TX0 k).2.2.1 = some (tyX0 k) := by decide +kernel
abbrev cX0_behind : ByteArray := prog_2_method_2_code
def yX0_behind : MethodName := ⟨RX0, "behind", "(II)I"⟩
abbrev cX0_size : ByteArray := prog_2_method_3_code
def yX0_size : MethodName := ⟨RX0, "size", "(LFrozenDistricts$Row;I)I"⟩
abbrev cX0_lowest : ByteArray := prog_2_method_4_code
def yX0_lowest : MethodName := ⟨RX0, "lowest", "(LFrozenDistricts$Row;I)I"⟩
abbrev cX0_alike : ByteArray := prog_2_method_5_code
def yX0_alike : MethodName := ⟨RX0, "alike", "(LFrozenDistricts$Row;I)I"⟩
abbrev cX0_borders : ByteArray := prog_2_method_6_code
def yX0_borders : MethodName := ⟨RX0, "borders", "(LFrozenDistricts$Row;I)I"⟩
abbrev cX0_votes : ByteArray := prog_2_method_7_code
def yX0_votes : MethodName := ⟨RX0, "votes", "(LFrozenDistricts$Row;ILFrozenDistricts$Row;)I"⟩
def RX1 : String := "FrozenDistricts$History"
def TX1 : u_T := fun k => match k with
  | 0 => ("FrozenDistricts$History", "slots", "[LFrozenDistricts$State;", true)
  | 1 => ("FrozenDistricts$History", "oldest", "I", false)
  | _ => ("FrozenDistricts$History", "size", "I", false)
def tyX1 : Nat → FieldType := fun k => match k with
  | 0 => .array (.object "FrozenDistricts$State")
  | 1 => .int
  | _ => .int
abbrev wsX10 : List Cond := u_ws RX1 TX1 3
theorem nmX1 : ∀ a, a < 3 → ∀ b, b < 3 → a ≠ b → (TX1 a).2.1 ≠ (TX1 b).2.1 := by decide +kernel
theorem tyX1_ok : ∀ k, k < 3 → parseFieldDescriptor (TX1 k).2.2.1 = some (tyX1 k) := by decide +kernel
abbrev cX1_init : ByteArray := prog_3_method_1_code
def yX1_init : MethodName := ⟨RX1, "<init>", "()V"⟩
abbrev cX1_size : ByteArray := prog_3_method_2_code
def yX1_size : MethodName := ⟨RX1, "size", "()I"⟩
abbrev cX1_record : ByteArray := prog_3_method_3_code
def yX1_record : MethodName := ⟨RX1, "record", "(LFrozenDistricts$State;)V"⟩
abbrev cX1_takeLatest : ByteArray := prog_3_method_4_code
def yX1_takeLatest : MethodName := ⟨RX1, "takeLatest", "(LFrozenDistricts$State;)V"⟩
abbrev cX1_slotAt : ByteArray := prog_3_method_5_code
def yX1_slotAt : MethodName := ⟨RX1, "slotAt", "(I)LFrozenDistricts$State;"⟩
def RX2 : String := "FrozenDistricts$Judge"
def TX2 : u_T := fun k => match k with
  | 0 => ("FrozenDistricts$Judge", "reached", "LFrozenDistricts$Row;", true)
  | _ => ("FrozenDistricts$Judge", "queue", "LFrozenDistricts$Row;", true)
def tyX2 : Nat → FieldType := fun k => match k with
  | 0 => .object "FrozenDistricts$Row"
  | _ => .object "FrozenDistricts$Row"
abbrev wsX20 : List Cond := u_ws RX2 TX2 2
theorem nmX2 : ∀ a, a < 2 → ∀ b, b < 2 → a ≠ b → (TX2 a).2.1 ≠ (TX2 b).2.1 := by decide +kernel
theorem tyX2_ok : ∀ k, k < 2 → parseFieldDescriptor (TX2 k).2.2.1 = some (tyX2 k) := by decide +kernel
abbrev cX2_init : ByteArray := prog_4_method_1_code
def yX2_init : MethodName := ⟨RX2, "<init>", "()V"⟩
abbrev cX2_reason : ByteArray := prog_4_method_2_code
def yX2_reason : MethodName := ⟨RX2, "reason", "(LFrozenDistricts$State;)I"⟩
abbrev cX2_blamed : ByteArray := prog_4_method_3_code
def yX2_blamed : MethodName := ⟨RX2, "blamed", "(LFrozenDistricts$State;)I"⟩
abbrev cX2_pieces : ByteArray := prog_4_method_4_code
def yX2_pieces : MethodName := ⟨RX2, "pieces", "(LFrozenDistricts$Row;I)I"⟩
abbrev cX2_reachFrom : ByteArray := prog_4_method_5_code
def yX2_reachFrom : MethodName := ⟨RX2, "reachFrom", "(ILFrozenDistricts$Row;I)V"⟩
abbrev cX2_withoutPart : ByteArray := prog_4_method_6_code
def yX2_withoutPart : MethodName := ⟨RX2, "withoutPart", "(LFrozenDistricts$State;)I"⟩
abbrev cX2_ofOtherSize : ByteArray := prog_4_method_7_code
def yX2_ofOtherSize : MethodName := ⟨RX2, "ofOtherSize", "(LFrozenDistricts$State;)I"⟩
abbrev cX2_notConnected : ByteArray := prog_4_method_8_code
def yX2_notConnected : MethodName := ⟨RX2, "notConnected", "(LFrozenDistricts$State;)I"⟩
def RX3 : String := "FrozenDistricts$Row"
def TX3 : u_T := fun k => match k with
  | _ => ("FrozenDistricts$Row", "numbers", "[I", true)
def tyX3 : Nat → FieldType := fun k => match k with
  | _ => .array .int
abbrev wsX30 : List Cond := u_ws RX3 TX3 1
theorem nmX3 : ∀ a, a < 1 → ∀ b, b < 1 → a ≠ b → (TX3 a).2.1 ≠ (TX3 b).2.1 := by decide +kernel
theorem tyX3_ok : ∀ k, k < 1 → parseFieldDescriptor (TX3 k).2.2.1 = some (tyX3 k) := by decide +kernel
abbrev cX3_init : ByteArray := prog_5_method_1_code
def yX3_init : MethodName := ⟨RX3, "<init>", "(II)V"⟩
abbrev cX3_at : ByteArray := prog_5_method_2_code
def yX3_at : MethodName := ⟨RX3, "at", "(I)I"⟩
abbrev cX3_put : ByteArray := prog_5_method_3_code
def yX3_put : MethodName := ⟨RX3, "put", "(II)V"⟩
abbrev cX3_fill : ByteArray := prog_5_method_4_code
def yX3_fill : MethodName := ⟨RX3, "fill", "(I)V"⟩
abbrev cX3_copy : ByteArray := prog_5_method_5_code
def yX3_copy : MethodName := ⟨RX3, "copy", "(LFrozenDistricts$Row;)V"⟩
abbrev cX3_isLike : ByteArray := prog_5_method_6_code
def yX3_isLike : MethodName := ⟨RX3, "isLike", "(LFrozenDistricts$Row;)Z"⟩
abbrev cX3_sum : ByteArray := prog_5_method_7_code
def yX3_sum : MethodName := ⟨RX3, "sum", "()I"⟩
def RX4 : String := "FrozenDistricts$State"
def TX4 : u_T := fun k => match k with
  | 0 => ("FrozenDistricts$State", "first", "LFrozenDistricts$Row;", true)
  | 1 => ("FrozenDistricts$State", "second", "LFrozenDistricts$Row;", true)
  | 2 => ("FrozenDistricts$State", "parts", "LFrozenDistricts$Row;", true)
  | 3 => ("FrozenDistricts$State", "districts", "LFrozenDistricts$Row;", true)
  | 4 => ("FrozenDistricts$State", "rest", "LFrozenDistricts$Row;", true)
  | 5 => ("FrozenDistricts$State", "frozenBy", "LFrozenDistricts$Row;", true)
  | 6 => ("FrozenDistricts$State", "targets", "LFrozenDistricts$Row;", true)
  | 7 => ("FrozenDistricts$State", "wanted", "I", false)
  | 8 => ("FrozenDistricts$State", "frozen", "I", false)
  | 9 => ("FrozenDistricts$State", "cutter", "I", false)
  | _ => ("FrozenDistricts$State", "stage", "I", false)
def tyX4 : Nat → FieldType := fun k => match k with
  | 0 => .object "FrozenDistricts$Row"
  | 1 => .object "FrozenDistricts$Row"
  | 2 => .object "FrozenDistricts$Row"
  | 3 => .object "FrozenDistricts$Row"
  | 4 => .object "FrozenDistricts$Row"
  | 5 => .object "FrozenDistricts$Row"
  | 6 => .object "FrozenDistricts$Row"
  | 7 => .int
  | 8 => .int
  | 9 => .int
  | _ => .int
abbrev wsX40 : List Cond := u_ws RX4 TX4 11
theorem nmX4 : ∀ a, a < 11 → ∀ b, b < 11 → a ≠ b → (TX4 a).2.1 ≠ (TX4 b).2.1 := by decide +kernel
theorem tyX4_ok : ∀ k, k < 11 → parseFieldDescriptor (TX4 k).2.2.1 = some (tyX4 k) := by decide +kernel
abbrev cX4_init : ByteArray := prog_6_method_1_code
def yX4_init : MethodName := ⟨RX4, "<init>", "()V"⟩
abbrev cX4_copy : ByteArray := prog_6_method_2_code
def yX4_copy : MethodName := ⟨RX4, "copy", "(LFrozenDistricts$State;)V"⟩
abbrev cX4_startAnew : ByteArray := prog_6_method_3_code
def yX4_startAnew : MethodName := ⟨RX4, "startAnew", "(I)V"⟩
abbrev cX4_size : ByteArray := prog_6_method_4_code
def yX4_size : MethodName := ⟨RX4, "size", "()I"⟩
abbrev cX4_left : ByteArray := prog_6_method_5_code
def yX4_left : MethodName := ⟨RX4, "left", "()I"⟩
abbrev cX4_isOpen : ByteArray := prog_6_method_6_code
def yX4_isOpen : MethodName := ⟨RX4, "isOpen", "(I)Z"⟩
abbrev cX4_isPart : ByteArray := prog_6_method_7_code
def yX4_isPart : MethodName := ⟨RX4, "isPart", "(I)Z"⟩
abbrev cX4_player : ByteArray := prog_6_method_8_code
def yX4_player : MethodName := ⟨RX4, "player", "()I"⟩
abbrev cX4_openWithoutPart : ByteArray := prog_6_method_9_code
def yX4_openWithoutPart : MethodName := ⟨RX4, "openWithoutPart", "()I"⟩
abbrev cX4_takePart : ByteArray := prog_6_method_10_code
def yX4_takePart : MethodName := ⟨RX4, "takePart", "(I)V"⟩
abbrev cX4_makeDistrict : ByteArray := prog_6_method_11_code
def yX4_makeDistrict : MethodName := ⟨RX4, "makeDistrict", "(LFrozenDistricts$Row;II)V"⟩
abbrev cX4_leaveRest : ByteArray := prog_6_method_12_code
def yX4_leaveRest : MethodName := ⟨RX4, "leaveRest", "(I)V"⟩
abbrev cX4_votesOf : ByteArray := prog_6_method_13_code
def yX4_votesOf : MethodName := ⟨RX4, "votesOf", "(I)LFrozenDistricts$Row;"⟩
abbrev cX4_margin : ByteArray := prog_6_method_14_code
def yX4_margin : MethodName := ⟨RX4, "margin", "(LFrozenDistricts$Row;II)I"⟩
abbrev cX4_winner : ByteArray := prog_6_method_15_code
def yX4_winner : MethodName := ⟨RX4, "winner", "(LFrozenDistricts$Row;I)I"⟩
abbrev cX4_won : ByteArray := prog_6_method_16_code
def yX4_won : MethodName := ⟨RX4, "won", "(LFrozenDistricts$Row;II)I"⟩
abbrev cX4_seats : ByteArray := prog_6_method_17_code
def yX4_seats : MethodName := ⟨RX4, "seats", "(I)I"⟩
abbrev cX4_wasted : ByteArray := prog_6_method_18_code
def yX4_wasted : MethodName := ⟨RX4, "wasted", "(II)I"⟩
abbrev cX4_wastedInAll : ByteArray := prog_6_method_19_code
def yX4_wastedInAll : MethodName := ⟨RX4, "wastedInAll", "(I)I"⟩
abbrev cX4_bordersOfAll : ByteArray := prog_6_method_20_code
def yX4_bordersOfAll : MethodName := ⟨RX4, "bordersOfAll", "()I"⟩
abbrev cX4_closestWon : ByteArray := prog_6_method_21_code
def yX4_closestWon : MethodName := ⟨RX4, "closestWon", "(I)I"⟩
abbrev cX4_mostLost : ByteArray := prog_6_method_22_code
def yX4_mostLost : MethodName := ⟨RX4, "mostLost", "(I)I"⟩
def RX5 : String := "FrozenDistricts$VoteText"
def TX5 : u_T := fun k => match k with
  | 0 => ("FrozenDistricts$VoteText", "characters", "[C", true)
  | _ => ("FrozenDistricts$VoteText", "length", "I", false)
def tyX5 : Nat → FieldType := fun k => match k with
  | 0 => .array .char
  | _ => .int
abbrev wsX50 : List Cond := u_ws RX5 TX5 2
theorem nmX5 : ∀ a, a < 2 → ∀ b, b < 2 → a ≠ b → (TX5 a).2.1 ≠ (TX5 b).2.1 := by decide +kernel
theorem tyX5_ok : ∀ k, k < 2 → parseFieldDescriptor (TX5 k).2.2.1 = some (tyX5 k) := by decide +kernel
abbrev cX5_init : ByteArray := prog_7_method_1_code
def yX5_init : MethodName := ⟨RX5, "<init>", "()V"⟩
abbrev cX5_length : ByteArray := prog_7_method_2_code
def yX5_length : MethodName := ⟨RX5, "length", "()I"⟩
abbrev cX5_append : ByteArray := prog_7_method_3_code
def yX5_append : MethodName := ⟨RX5, "append", "(C)Z"⟩
abbrev cX5_empty : ByteArray := prog_7_method_4_code
def yX5_empty : MethodName := ⟨RX5, "empty", "()V"⟩
abbrev cX5_fault : ByteArray := prog_7_method_5_code
def yX5_fault : MethodName := ⟨RX5, "fault", "()I"⟩
abbrev cX5_pairs : ByteArray := prog_7_method_6_code
def yX5_pairs : MethodName := ⟨RX5, "pairs", "()I"⟩
abbrev cX5_votes : ByteArray := prog_7_method_7_code
def yX5_votes : MethodName := ⟨RX5, "votes", "(II)I"⟩
abbrev cX5_isAllowed : ByteArray := prog_7_method_8_code
def yX5_isAllowed : MethodName := ⟨RX5, "isAllowed", "(I)Z"⟩
abbrev cX5_at : ByteArray := prog_7_method_9_code
def yX5_at : MethodName := ⟨RX5, "at", "(I)C"⟩
def RX6 : String := "FrozenDistricts"
def TX6 : u_T := fun k => match k with
  | 0 => ("FrozenDistricts", "now", "LFrozenDistricts$State;", true)
  | 1 => ("FrozenDistricts", "history", "LFrozenDistricts$History;", true)
  | 2 => ("FrozenDistricts", "snapshot", "LFrozenDistricts$State;", true)
  | 3 => ("FrozenDistricts", "hasSnapshot", "Z", false)
  | 4 => ("FrozenDistricts", "text", "LFrozenDistricts$VoteText;", true)
  | 5 => ("FrozenDistricts", "judge", "LFrozenDistricts$Judge;", true)
  | _ => ("FrozenDistricts", "planned", "LFrozenDistricts$Row;", true)
def tyX6 : Nat → FieldType := fun k => match k with
  | 0 => .object "FrozenDistricts$State"
  | 1 => .object "FrozenDistricts$History"
  | 2 => .object "FrozenDistricts$State"
  | 3 => .boolean
  | 4 => .object "FrozenDistricts$VoteText"
  | 5 => .object "FrozenDistricts$Judge"
  | _ => .object "FrozenDistricts$Row"
abbrev wsX60 : List Cond := u_ws RX6 TX6 7
theorem nmX6 : ∀ a, a < 7 → ∀ b, b < 7 → a ≠ b → (TX6 a).2.1 ≠ (TX6 b).2.1 := by decide +kernel
theorem tyX6_ok : ∀ k, k < 7 → parseFieldDescriptor (TX6 k).2.2.1 = some (tyX6 k) := by decide +kernel
abbrev cX6_init : ByteArray := prog_1_method_1_code
def yX6_init : MethodName := ⟨RX6, "<init>", "()V"⟩
abbrev cX6_setVotes : ByteArray := prog_1_method_2_code
def yX6_setVotes : MethodName := ⟨RX6, "setVotes", "(III)I"⟩
abbrev cX6_begin : ByteArray := prog_1_method_3_code
def yX6_begin : MethodName := ⟨RX6, "begin", "(I)I"⟩
abbrev cX6_setTarget : ByteArray := prog_1_method_4_code
def yX6_setTarget : MethodName := ⟨RX6, "setTarget", "(II)I"⟩
abbrev cX6_draft : ByteArray := prog_1_method_5_code
def yX6_draft : MethodName := ⟨RX6, "draft", "(II)I"⟩
abbrev cX6_trade : ByteArray := prog_1_method_6_code
def yX6_trade : MethodName := ⟨RX6, "trade", "(II)I"⟩
abbrev cX6_snake : ByteArray := prog_1_method_7_code
def yX6_snake : MethodName := ⟨RX6, "snake", "(Z)I"⟩
abbrev cX6_adopt : ByteArray := prog_1_method_8_code
def yX6_adopt : MethodName := ⟨RX6, "adopt", "()I"⟩
abbrev cX6_propose : ByteArray := prog_1_method_9_code
def yX6_propose : MethodName := ⟨RX6, "propose", "()I"⟩
abbrev cX6_freeze : ByteArray := prog_1_method_10_code
def yX6_freeze : MethodName := ⟨RX6, "freeze", "(I)I"⟩
abbrev cX6_type : ByteArray := prog_1_method_11_code
def yX6_type : MethodName := ⟨RX6, "type", "(C)I"⟩
abbrev cX6_clearText : ByteArray := prog_1_method_12_code
def yX6_clearText : MethodName := ⟨RX6, "clearText", "()I"⟩
abbrev cX6_readVotes : ByteArray := prog_1_method_13_code
def yX6_readVotes : MethodName := ⟨RX6, "readVotes", "(I)I"⟩
abbrev cX6_undo : ByteArray := prog_1_method_14_code
def yX6_undo : MethodName := ⟨RX6, "undo", "()I"⟩
abbrev cX6_keep : ByteArray := prog_1_method_15_code
def yX6_keep : MethodName := ⟨RX6, "keep", "()I"⟩
abbrev cX6_restore : ByteArray := prog_1_method_16_code
def yX6_restore : MethodName := ⟨RX6, "restore", "()I"⟩
abbrev cX6_cell : ByteArray := prog_1_method_17_code
def yX6_cell : MethodName := ⟨RX6, "cell", "(II)I"⟩
abbrev cX6_part : ByteArray := prog_1_method_18_code
def yX6_part : MethodName := ⟨RX6, "part", "(II)I"⟩
abbrev cX6_district : ByteArray := prog_1_method_19_code
def yX6_district : MethodName := ⟨RX6, "district", "(II)I"⟩
abbrev cX6_why : ByteArray := prog_1_method_20_code
def yX6_why : MethodName := ⟨RX6, "why", "(I)I"⟩
abbrev cX6_advice : ByteArray := prog_1_method_21_code
def yX6_advice : MethodName := ⟨RX6, "advice", "()I"⟩
abbrev cX6_party : ByteArray := prog_1_method_22_code
def yX6_party : MethodName := ⟨RX6, "party", "(II)I"⟩
abbrev cX6_fairness : ByteArray := prog_1_method_23_code
def yX6_fairness : MethodName := ⟨RX6, "fairness", "()I"⟩
abbrev cX6_count : ByteArray := prog_1_method_24_code
def yX6_count : MethodName := ⟨RX6, "count", "(I)I"⟩
abbrev cX6_isFromTo : ByteArray := prog_1_method_25_code
def yX6_isFromTo : MethodName := ⟨RX6, "isFromTo", "(III)Z"⟩
abbrev cX6_isCell : ByteArray := prog_1_method_26_code
def yX6_isCell : MethodName := ⟨RX6, "isCell", "(I)Z"⟩
abbrev cX6_isParty : ByteArray := prog_1_method_27_code
def yX6_isParty : MethodName := ⟨RX6, "isParty", "(I)Z"⟩
abbrev cX6_dividesTheMap : ByteArray := prog_1_method_28_code
def yX6_dividesTheMap : MethodName := ⟨RX6, "dividesTheMap", "(I)Z"⟩
abbrev cX6_noneIfNothing : ByteArray := prog_1_method_29_code
def yX6_noneIfNothing : MethodName := ⟨RX6, "noneIfNothing", "(I)I"⟩
abbrev cX6_oneIfCut : ByteArray := prog_1_method_30_code
def yX6_oneIfCut : MethodName := ⟨RX6, "oneIfCut", "()I"⟩
abbrev cX6_planSnake : ByteArray := prog_1_method_31_code
def yX6_planSnake : MethodName := ⟨RX6, "planSnake", "(Z)V"⟩
abbrev cX6_cellOfSnake : ByteArray := prog_1_method_32_code
def yX6_cellOfSnake : MethodName := ⟨RX6, "cellOfSnake", "(IZ)I"⟩
abbrev cX6_tellArea : ByteArray := prog_1_method_33_code
def yX6_tellArea : MethodName := ⟨RX6, "tellArea", "(LFrozenDistricts$Row;II)I"⟩
def RX7 : String := "FrozenDistrictsModel"
def TX7 : u_T := fun k => match k with
  | 0 => ("FrozenDistrictsModel", "row", "[I", true)
  | 1 => ("FrozenDistrictsModel", "past", "[I", true)
  | 2 => ("FrozenDistrictsModel", "aside", "[I", true)
  | 3 => ("FrozenDistrictsModel", "states", "I", false)
  | 4 => ("FrozenDistrictsModel", "isAside", "Z", false)
  | 5 => ("FrozenDistrictsModel", "text", "[C", true)
  | 6 => ("FrozenDistrictsModel", "length", "I", false)
  | 7 => ("FrozenDistrictsModel", "at", "I", false)
  | 8 => ("FrozenDistrictsModel", "read", "[I", true)
  | 9 => ("FrozenDistrictsModel", "tried", "[I", true)
  | _ => ("FrozenDistrictsModel", "seen", "[Z", true)
def tyX7 : Nat → FieldType := fun k => match k with
  | 0 => .array .int
  | 1 => .array .int
  | 2 => .array .int
  | 3 => .int
  | 4 => .boolean
  | 5 => .array .char
  | 6 => .int
  | 7 => .int
  | 8 => .array .int
  | 9 => .array .int
  | _ => .array .boolean
abbrev wsX70 : List Cond := u_ws RX7 TX7 11
theorem nmX7 : ∀ a, a < 11 → ∀ b, b < 11 → a ≠ b → (TX7 a).2.1 ≠ (TX7 b).2.1 := by decide +kernel
theorem tyX7_ok : ∀ k, k < 11 → parseFieldDescriptor (TX7 k).2.2.1 = some (tyX7 k) := by decide +kernel
abbrev cX7_init : ByteArray := prog_9_method_1_code
def yX7_init : MethodName := ⟨RX7, "<init>", "()V"⟩
abbrev cX7_in : ByteArray := prog_9_method_2_code
def yX7_in : MethodName := ⟨RX7, "in", "(III)Z"⟩
abbrev cX7_noCell : ByteArray := prog_9_method_3_code
def yX7_noCell : MethodName := ⟨RX7, "noCell", "(I)Z"⟩
abbrev cX7_clear : ByteArray := prog_9_method_4_code
def yX7_clear : MethodName := ⟨RX7, "clear", "()V"⟩
abbrev cX7_record : ByteArray := prog_9_method_5_code
def yX7_record : MethodName := ⟨RX7, "record", "()V"⟩
abbrev cX7_undo : ByteArray := prog_9_method_6_code
def yX7_undo : MethodName := ⟨RX7, "undo", "()I"⟩
abbrev cX7_keep : ByteArray := prog_9_method_7_code
def yX7_keep : MethodName := ⟨RX7, "keep", "()I"⟩
abbrev cX7_restore : ByteArray := prog_9_method_8_code
def yX7_restore : MethodName := ⟨RX7, "restore", "()I"⟩
abbrev cX7_setVotes : ByteArray := prog_9_method_9_code
def yX7_setVotes : MethodName := ⟨RX7, "setVotes", "(III)I"⟩
abbrev cX7_begin : ByteArray := prog_9_method_10_code
def yX7_begin : MethodName := ⟨RX7, "begin", "(I)I"⟩
abbrev cX7_setTarget : ByteArray := prog_9_method_11_code
def yX7_setTarget : MethodName := ⟨RX7, "setTarget", "(II)I"⟩
abbrev cX7_size : ByteArray := prog_9_method_12_code
def yX7_size : MethodName := ⟨RX7, "size", "()I"⟩
abbrev cX7_left : ByteArray := prog_9_method_13_code
def yX7_left : MethodName := ⟨RX7, "left", "()I"⟩
abbrev cX7_isOpen : ByteArray := prog_9_method_14_code
def yX7_isOpen : MethodName := ⟨RX7, "isOpen", "(I)Z"⟩
abbrev cX7_beside : ByteArray := prog_9_method_15_code
def yX7_beside : MethodName := ⟨RX7, "beside", "(II)I"⟩
abbrev cX7_cells : ByteArray := prog_9_method_16_code
def yX7_cells : MethodName := ⟨RX7, "cells", "(II)I"⟩
abbrev cX7_lowest : ByteArray := prog_9_method_17_code
def yX7_lowest : MethodName := ⟨RX7, "lowest", "(II)I"⟩
abbrev cX7_votes : ByteArray := prog_9_method_18_code
def yX7_votes : MethodName := ⟨RX7, "votes", "(III)I"⟩
abbrev cX7_margin : ByteArray := prog_9_method_19_code
def yX7_margin : MethodName := ⟨RX7, "margin", "(II)I"⟩
abbrev cX7_winner : ByteArray := prog_9_method_20_code
def yX7_winner : MethodName := ⟨RX7, "winner", "(II)I"⟩
abbrev cX7_borders : ByteArray := prog_9_method_21_code
def yX7_borders : MethodName := ⟨RX7, "borders", "(II)I"⟩
abbrev cX7_pieces : ByteArray := prog_9_method_22_code
def yX7_pieces : MethodName := ⟨RX7, "pieces", "(I)I"⟩
abbrev cX7_spread : ByteArray := prog_9_method_23_code
def yX7_spread : MethodName := ⟨RX7, "spread", "(I)V"⟩
abbrev cX7_reason : ByteArray := prog_9_method_24_code
def yX7_reason : MethodName := ⟨RX7, "reason", "()I"⟩
abbrev cX7_noDraft : ByteArray := prog_9_method_25_code
def yX7_noDraft : MethodName := ⟨RX7, "noDraft", "()Z"⟩
abbrev cX7_draft : ByteArray := prog_9_method_26_code
def yX7_draft : MethodName := ⟨RX7, "draft", "(II)I"⟩
abbrev cX7_trade : ByteArray := prog_9_method_27_code
def yX7_trade : MethodName := ⟨RX7, "trade", "(II)I"⟩
abbrev cX7_take : ByteArray := prog_9_method_28_code
def yX7_take : MethodName := ⟨RX7, "take", "()Z"⟩
abbrev cX7_snake : ByteArray := prog_9_method_29_code
def yX7_snake : MethodName := ⟨RX7, "snake", "(Z)I"⟩
abbrev cX7_adopt : ByteArray := prog_9_method_30_code
def yX7_adopt : MethodName := ⟨RX7, "adopt", "()I"⟩
abbrev cX7_propose : ByteArray := prog_9_method_31_code
def yX7_propose : MethodName := ⟨RX7, "propose", "()I"⟩
abbrev cX7_freezePart : ByteArray := prog_9_method_32_code
def yX7_freezePart : MethodName := ⟨RX7, "freezePart", "(II)V"⟩
abbrev cX7_freeze : ByteArray := prog_9_method_33_code
def yX7_freeze : MethodName := ⟨RX7, "freeze", "(I)I"⟩
abbrev cX7_type : ByteArray := prog_9_method_34_code
def yX7_type : MethodName := ⟨RX7, "type", "(C)I"⟩
abbrev cX7_clearText : ByteArray := prog_9_method_35_code
def yX7_clearText : MethodName := ⟨RX7, "clearText", "()I"⟩
abbrev cX7_sees : ByteArray := prog_9_method_36_code
def yX7_sees : MethodName := ⟨RX7, "sees", "(II)Z"⟩
abbrev cX7_readPairs : ByteArray := prog_9_method_37_code
def yX7_readPairs : MethodName := ⟨RX7, "readPairs", "()I"⟩
abbrev cX7_readVotes : ByteArray := prog_9_method_38_code
def yX7_readVotes : MethodName := ⟨RX7, "readVotes", "(I)I"⟩
abbrev cX7_alikeBeside : ByteArray := prog_9_method_39_code
def yX7_alikeBeside : MethodName := ⟨RX7, "alikeBeside", "(I)I"⟩
abbrev cX7_orNone : ByteArray := prog_9_method_40_code
def yX7_orNone : MethodName := ⟨RX7, "orNone", "(I)I"⟩
abbrev cX7_cell : ByteArray := prog_9_method_41_code
def yX7_cell : MethodName := ⟨RX7, "cell", "(II)I"⟩
abbrev cX7_part : ByteArray := prog_9_method_42_code
def yX7_part : MethodName := ⟨RX7, "part", "(II)I"⟩
abbrev cX7_wasted : ByteArray := prog_9_method_43_code
def yX7_wasted : MethodName := ⟨RX7, "wasted", "(II)I"⟩
abbrev cX7_district : ByteArray := prog_9_method_44_code
def yX7_district : MethodName := ⟨RX7, "district", "(II)I"⟩
abbrev cX7_why : ByteArray := prog_9_method_45_code
def yX7_why : MethodName := ⟨RX7, "why", "(I)I"⟩
abbrev cX7_advice : ByteArray := prog_9_method_46_code
def yX7_advice : MethodName := ⟨RX7, "advice", "()I"⟩
abbrev cX7_seats : ByteArray := prog_9_method_47_code
def yX7_seats : MethodName := ⟨RX7, "seats", "(I)I"⟩
abbrev cX7_votesOnMap : ByteArray := prog_9_method_48_code
def yX7_votesOnMap : MethodName := ⟨RX7, "votesOnMap", "(I)I"⟩
abbrev cX7_party : ByteArray := prog_9_method_49_code
def yX7_party : MethodName := ⟨RX7, "party", "(II)I"⟩
abbrev cX7_fairness : ByteArray := prog_9_method_50_code
def yX7_fairness : MethodName := ⟨RX7, "fairness", "()I"⟩
abbrev cX7_allBorders : ByteArray := prog_9_method_51_code
def yX7_allBorders : MethodName := ⟨RX7, "allBorders", "()I"⟩
abbrev cX7_withoutPart : ByteArray := prog_9_method_52_code
def yX7_withoutPart : MethodName := ⟨RX7, "withoutPart", "()I"⟩
abbrev cX7_count : ByteArray := prog_9_method_53_code
def yX7_count : MethodName := ⟨RX7, "count", "(I)I"⟩
def RJ9 : String := "java/lang/Math"
def TJ9 : u_T := fun k => match k with
  | _ => ("", "", "", false)
def tyJ9 : Nat → FieldType := fun k => match k with
  | _ => .int
abbrev wsJ90 : List Cond := u_ws RJ9 TJ9 0
theorem nmJ9 : ∀ a, a < 0 → ∀ b, b < 0 → a ≠ b → (TJ9 a).2.1 ≠ (TJ9 b).2.1 := by decide +kernel
theorem tyJ9_ok : ∀ k, k < 0 → parseFieldDescriptor (TJ9 k).2.2.1 = some (tyJ9 k) := by decide +kernel
abbrev cJ9_floorMod_7cf53 : ByteArray := prog_10_method_50_code
def yJ9_floorMod_7cf53 : MethodName := ⟨RJ9, "floorMod", "(II)I"⟩
def RL : String := "FrozenDistrictsLaw"
abbrev cL_law : ByteArray := code
def yL_law : MethodName := ⟨RL, "law", "([I)Z"⟩
-- ===== the good words of the tables =====
def TB : List Cond := lw_tbl.filter goodWord
theorem qm {w : Cond} (i : Nat) (h : lw_tbl[i]? = some w) (g : goodWord w = true) : w ∈ TB := List.mem_filter.mpr ⟨List.mem_of_getElem? h, g⟩
theorem TB_sub : ∀ w ∈ TB, w ∈ lw_tbl := fun _ h => (List.mem_filter.mp h).1
theorem TB_good : ∀ w ∈ TB, goodWord w = true := fun _ h => (List.mem_filter.mp h).2
theorem gTB {w : Cond} (h : w ∈ TB) : GoodIn TB (w :: TB) := fun v hv => (List.mem_cons.mp hv).elim (fun e => by subst e; exact ⟨h, good_of_word (TB_good _ h)⟩) (fun h => ⟨h, good_of_word (TB_good _ h)⟩)
theorem tb_of {ws : List Cond} (a : ws.all (fun w => decide (w ∈ lw_tbl) && goodWord w) = true) : ∀ w ∈ ws, w ∈ TB := fun w h => by
  have h1 := List.all_eq_true.mp a w h
  simp only [Bool.and_eq_true, decide_eq_true_eq] at h1
  exact List.mem_filter.mpr h1
theorem q_s0 : Cond.selects RX1 yX1_slotAt yX1_slotAt ∈ TB := qm 0 (by decide +kernel) rfl
theorem q_s1 : Cond.selects RX6 yX6_oneIfCut yX6_oneIfCut ∈ TB := qm 1 (by decide +kernel) rfl
theorem q_s2 : Cond.selects RX2 yX2_notConnected yX2_notConnected ∈ TB := qm 2 (by decide +kernel) rfl
theorem q_s3 : Cond.selects RX2 yX2_reachFrom yX2_reachFrom ∈ TB := qm 3 (by decide +kernel) rfl
theorem q_s4 : Cond.selects RX6 yX6_planSnake yX6_planSnake ∈ TB := qm 4 (by decide +kernel) rfl
theorem q_s5 : Cond.selects RX4 yX4_makeDistrict yX4_makeDistrict ∈ TB := qm 5 (by decide +kernel) rfl
theorem q_s6 : Cond.selects RX4 yX4_leaveRest yX4_leaveRest ∈ TB := qm 6 (by decide +kernel) rfl
theorem q_s7 : Cond.selects RX5 yX5_isAllowed yX5_isAllowed ∈ TB := qm 7 (by decide +kernel) rfl
theorem q_s8 : Cond.selects RX5 yX5_at yX5_at ∈ TB := qm 8 (by decide +kernel) rfl
theorem q_s9 : Cond.selects RX6 yX6_tellArea yX6_tellArea ∈ TB := qm 9 (by decide +kernel) rfl
theorem q_s10 : Cond.selects RX7 yX7_clear yX7_clear ∈ TB := qm 10 (by decide +kernel) rfl
theorem q_s11 : Cond.selects RX7 yX7_record yX7_record ∈ TB := qm 11 (by decide +kernel) rfl
theorem q_s12 : Cond.selects RX7 yX7_size yX7_size ∈ TB := qm 12 (by decide +kernel) rfl
theorem q_s13 : Cond.selects RX7 yX7_isOpen yX7_isOpen ∈ TB := qm 13 (by decide +kernel) rfl
theorem q_s14 : Cond.selects RX7 yX7_noDraft yX7_noDraft ∈ TB := qm 14 (by decide +kernel) rfl
theorem q_s15 : Cond.selects RX7 yX7_left yX7_left ∈ TB := qm 15 (by decide +kernel) rfl
theorem q_s16 : Cond.selects RX7 yX7_reason yX7_reason ∈ TB := qm 16 (by decide +kernel) rfl
theorem q_s17 : Cond.selects RX7 yX7_cells yX7_cells ∈ TB := qm 17 (by decide +kernel) rfl
theorem q_s18 : Cond.selects RX7 yX7_pieces yX7_pieces ∈ TB := qm 18 (by decide +kernel) rfl
theorem q_s19 : Cond.selects RX7 yX7_spread yX7_spread ∈ TB := qm 19 (by decide +kernel) rfl
theorem q_s20 : Cond.selects RX7 yX7_take yX7_take ∈ TB := qm 20 (by decide +kernel) rfl
theorem q_s21 : Cond.selects RX7 yX7_freezePart yX7_freezePart ∈ TB := qm 21 (by decide +kernel) rfl
theorem q_s22 : Cond.selects RX7 yX7_readPairs yX7_readPairs ∈ TB := qm 22 (by decide +kernel) rfl
theorem q_s23 : Cond.selects RX7 yX7_sees yX7_sees ∈ TB := qm 23 (by decide +kernel) rfl
theorem q_s24 : Cond.selects RX7 yX7_alikeBeside yX7_alikeBeside ∈ TB := qm 24 (by decide +kernel) rfl
theorem q_s25 : Cond.selects RX7 yX7_borders yX7_borders ∈ TB := qm 25 (by decide +kernel) rfl
theorem q_s26 : Cond.selects RX7 yX7_margin yX7_margin ∈ TB := qm 26 (by decide +kernel) rfl
theorem q_s27 : Cond.selects RX7 yX7_votes yX7_votes ∈ TB := qm 27 (by decide +kernel) rfl
theorem q_s28 : Cond.selects RX7 yX7_winner yX7_winner ∈ TB := qm 28 (by decide +kernel) rfl
theorem q_s29 : Cond.selects RX7 yX7_lowest yX7_lowest ∈ TB := qm 29 (by decide +kernel) rfl
theorem q_s30 : Cond.selects RX7 yX7_wasted yX7_wasted ∈ TB := qm 30 (by decide +kernel) rfl
theorem q_s31 : Cond.selects RX7 yX7_seats yX7_seats ∈ TB := qm 31 (by decide +kernel) rfl
theorem q_s32 : Cond.selects RX7 yX7_votesOnMap yX7_votesOnMap ∈ TB := qm 32 (by decide +kernel) rfl
theorem q_s33 : Cond.selects RX7 yX7_withoutPart yX7_withoutPart ∈ TB := qm 33 (by decide +kernel) rfl
theorem q_s34 : Cond.selects RX7 yX7_allBorders yX7_allBorders ∈ TB := qm 34 (by decide +kernel) rfl
theorem q_0 : Cond.initialized RL ∈ TB := qm 35 (by decide +kernel) rfl
theorem q_1 : Cond.initialized RX6 ∈ TB := qm 36 (by decide +kernel) rfl
theorem q_2 : Cond.initialized RX4 ∈ TB := qm 37 (by decide +kernel) rfl
theorem q_3 : Cond.initialized RX3 ∈ TB := qm 38 (by decide +kernel) rfl
theorem q_4 : Cond.initialized RX1 ∈ TB := qm 39 (by decide +kernel) rfl
theorem q_5 : Cond.initialized RX5 ∈ TB := qm 40 (by decide +kernel) rfl
theorem q_6 : Cond.initialized RX2 ∈ TB := qm 41 (by decide +kernel) rfl
theorem q_7 : Cond.initialized RX7 ∈ TB := qm 42 (by decide +kernel) rfl
theorem q_8 : Cond.initialized RJ9 ∈ TB := qm 43 (by decide +kernel) rfl
theorem q_9 : Cond.initialized RX0 ∈ TB := qm 44 (by decide +kernel) rfl
theorem q_10 : Cond.classLink RL 7 RX6 ∈ TB := qm 45 (by decide +kernel) rfl
theorem q_11 : Cond.instantiable RX6 7 ∈ TB := qm 46 (by decide +kernel) rfl
theorem q_12 : Cond.methodLink RL 9 yX6_init ∈ TB := qm 47 (by decide +kernel) rfl
theorem q_13 : Cond.instanceMethod yX6_init ∈ TB := qm 48 (by decide +kernel) rfl
set_option maxRecDepth 100000 in
theorem q_14 : Cond.code yX6_init cX6_init 1 none ∈ TB := qm 49 rfl rfl
theorem q_15 : Cond.methodLink RX6 1 objectInit ∈ TB := qm 50 (by decide +kernel) rfl
theorem q_16 : Cond.instanceMethod objectInit ∈ TB := qm 51 (by decide +kernel) rfl
set_option maxRecDepth 100000 in
theorem q_17 : Cond.code objectInit ⟨#[0xb1]⟩ 1 none ∈ TB := qm 52 rfl rfl
theorem q_18 : Cond.classLink RX6 7 RX4 ∈ TB := qm 53 (by decide +kernel) rfl
theorem q_19 : Cond.instantiable RX4 11 ∈ TB := qm 54 (by decide +kernel) rfl
theorem qn_20 : Cond.methodLinkNest RX6 9 yX4_init RX6 ∈ lw_tbl := List.mem_of_getElem? (i := 55) (by decide +kernel)
theorem q_21 : Cond.instanceMethod yX4_init ∈ TB := qm 56 (by decide +kernel) rfl
set_option maxRecDepth 100000 in
theorem q_22 : Cond.code yX4_init cX4_init 1 none ∈ TB := qm 57 rfl rfl
theorem q_23 : Cond.methodLink RX4 3 objectInit ∈ TB := qm 58 (by decide +kernel) rfl
theorem q_24 : Cond.classLink RX4 9 RX3 ∈ TB := qm 59 (by decide +kernel) rfl
theorem q_25 : Cond.instantiable RX3 1 ∈ TB := qm 60 (by decide +kernel) rfl
theorem q_26 : Cond.methodLink RX4 11 yX3_init ∈ TB := qm 61 (by decide +kernel) rfl
theorem q_27 : Cond.instanceMethod yX3_init ∈ TB := qm 62 (by decide +kernel) rfl
set_option maxRecDepth 100000 in
theorem q_28 : Cond.code yX3_init cX3_init 4 none ∈ TB := qm 63 rfl rfl
theorem q_29 : Cond.methodLink RX3 3 objectInit ∈ TB := qm 64 (by decide +kernel) rfl
theorem q_30 : Cond.fieldLink RX3 9 "FrozenDistricts$Row" "numbers" "[I" ∈ TB := qm 65 (by decide +kernel) rfl
theorem q_34 : Cond.arrayClass .int ∈ TB := qm 69 (by decide +kernel) rfl
theorem q_35 : Cond.fieldLink RX4 14 "FrozenDistricts$State" "first" "LFrozenDistricts$Row;" ∈ TB := qm 70 (by decide +kernel) rfl
theorem q_36 : Cond.fieldLink RX6 61 "FrozenDistricts$State" "first" "LFrozenDistricts$Row;" ∈ TB := qm 71 (by decide +kernel) rfl
theorem q_37 : Cond.fieldLink RX4 20 "FrozenDistricts$State" "second" "LFrozenDistricts$Row;" ∈ TB := qm 72 (by decide +kernel) rfl
theorem q_38 : Cond.fieldLink RX6 68 "FrozenDistricts$State" "second" "LFrozenDistricts$Row;" ∈ TB := qm 73 (by decide +kernel) rfl
theorem q_39 : Cond.fieldLink RX4 23 "FrozenDistricts$State" "parts" "LFrozenDistricts$Row;" ∈ TB := qm 74 (by decide +kernel) rfl
theorem q_40 : Cond.fieldLink RX6 105 "FrozenDistricts$State" "parts" "LFrozenDistricts$Row;" ∈ TB := qm 75 (by decide +kernel) rfl
theorem q_41 : Cond.fieldLink RX2 63 "FrozenDistricts$State" "parts" "LFrozenDistricts$Row;" ∈ TB := qm 76 (by decide +kernel) rfl
theorem q_42 : Cond.fieldLink RX4 26 "FrozenDistricts$State" "districts" "LFrozenDistricts$Row;" ∈ TB := qm 77 (by decide +kernel) rfl
theorem q_43 : Cond.fieldLink RX6 168 "FrozenDistricts$State" "districts" "LFrozenDistricts$Row;" ∈ TB := qm 78 (by decide +kernel) rfl
theorem q_44 : Cond.fieldLink RX4 29 "FrozenDistricts$State" "rest" "LFrozenDistricts$Row;" ∈ TB := qm 79 (by decide +kernel) rfl
theorem q_45 : Cond.fieldLink RX6 126 "FrozenDistricts$State" "rest" "LFrozenDistricts$Row;" ∈ TB := qm 80 (by decide +kernel) rfl
theorem q_46 : Cond.fieldLink RX4 32 "FrozenDistricts$State" "frozenBy" "LFrozenDistricts$Row;" ∈ TB := qm 81 (by decide +kernel) rfl
theorem q_47 : Cond.fieldLink RX6 184 "FrozenDistricts$State" "frozenBy" "LFrozenDistricts$Row;" ∈ TB := qm 82 (by decide +kernel) rfl
theorem q_48 : Cond.fieldLink RX4 35 "FrozenDistricts$State" "targets" "LFrozenDistricts$Row;" ∈ TB := qm 83 (by decide +kernel) rfl
theorem q_49 : Cond.fieldLink RX6 92 "FrozenDistricts$State" "targets" "LFrozenDistricts$Row;" ∈ TB := qm 84 (by decide +kernel) rfl
theorem q_50 : Cond.fieldLink RX4 38 "FrozenDistricts$State" "wanted" "I" ∈ TB := qm 85 (by decide +kernel) rfl
theorem q_51 : Cond.fieldLink RX6 219 "FrozenDistricts$State" "wanted" "I" ∈ TB := qm 86 (by decide +kernel) rfl
theorem q_52 : Cond.fieldLink RX4 42 "FrozenDistricts$State" "frozen" "I" ∈ TB := qm 87 (by decide +kernel) rfl
theorem q_53 : Cond.fieldLink RX6 123 "FrozenDistricts$State" "frozen" "I" ∈ TB := qm 88 (by decide +kernel) rfl
theorem q_54 : Cond.fieldLink RX4 45 "FrozenDistricts$State" "cutter" "I" ∈ TB := qm 89 (by decide +kernel) rfl
theorem q_55 : Cond.fieldLink RX4 48 "FrozenDistricts$State" "stage" "I" ∈ TB := qm 90 (by decide +kernel) rfl
theorem q_56 : Cond.fieldLink RX6 95 "FrozenDistricts$State" "stage" "I" ∈ TB := qm 91 (by decide +kernel) rfl
theorem q_80 : Cond.classLink RX6 16 RX1 ∈ TB := qm 115 (by decide +kernel) rfl
theorem q_81 : Cond.instantiable RX1 3 ∈ TB := qm 116 (by decide +kernel) rfl
theorem q_82 : Cond.methodLink RX6 18 yX1_init ∈ TB := qm 117 (by decide +kernel) rfl
theorem q_83 : Cond.instanceMethod yX1_init ∈ TB := qm 118 (by decide +kernel) rfl
set_option maxRecDepth 100000 in
theorem q_84 : Cond.code yX1_init cX1_init 2 none ∈ TB := qm 119 rfl rfl
theorem q_85 : Cond.methodLink RX1 3 objectInit ∈ TB := qm 120 (by decide +kernel) rfl
theorem q_86 : Cond.classLink RX1 9 RX4 ∈ TB := qm 121 (by decide +kernel) rfl
theorem qn_87 : Cond.arrayOver (.object RX4) ∈ lw_tbl := List.mem_of_getElem? (i := 122) (by decide +kernel)
theorem qn_88 : Cond.methodLinkNest RX1 24 yX4_init RX6 ∈ lw_tbl := List.mem_of_getElem? (i := 123) (by decide +kernel)
theorem q_89 : Cond.fieldLink RX1 11 "FrozenDistricts$History" "slots" "[LFrozenDistricts$State;" ∈ TB := qm 124 (by decide +kernel) rfl
theorem q_90 : Cond.fieldLink RX1 17 "FrozenDistricts$History" "oldest" "I" ∈ TB := qm 125 (by decide +kernel) rfl
theorem q_91 : Cond.fieldLink RX1 21 "FrozenDistricts$History" "size" "I" ∈ TB := qm 126 (by decide +kernel) rfl
theorem q_99 : Cond.classLink RX6 30 RX5 ∈ TB := qm 134 (by decide +kernel) rfl
theorem q_100 : Cond.instantiable RX5 2 ∈ TB := qm 135 (by decide +kernel) rfl
theorem qn_101 : Cond.methodLinkNest RX6 32 yX5_init RX6 ∈ lw_tbl := List.mem_of_getElem? (i := 136) (by decide +kernel)
theorem q_102 : Cond.instanceMethod yX5_init ∈ TB := qm 137 (by decide +kernel) rfl
set_option maxRecDepth 100000 in
theorem q_103 : Cond.code yX5_init cX5_init 1 none ∈ TB := qm 138 rfl rfl
theorem q_104 : Cond.methodLink RX5 3 objectInit ∈ TB := qm 139 (by decide +kernel) rfl
theorem q_105 : Cond.fieldLink RX5 9 "FrozenDistricts$VoteText" "characters" "[C" ∈ TB := qm 140 (by decide +kernel) rfl
theorem q_106 : Cond.fieldLink RX5 15 "FrozenDistricts$VoteText" "length" "I" ∈ TB := qm 141 (by decide +kernel) rfl
theorem q_112 : Cond.arrayClass .char ∈ TB := qm 147 (by decide +kernel) rfl
theorem q_113 : Cond.classLink RX6 37 RX2 ∈ TB := qm 148 (by decide +kernel) rfl
theorem q_114 : Cond.instantiable RX2 2 ∈ TB := qm 149 (by decide +kernel) rfl
theorem qn_115 : Cond.methodLinkNest RX6 39 yX2_init RX6 ∈ lw_tbl := List.mem_of_getElem? (i := 150) (by decide +kernel)
theorem q_116 : Cond.instanceMethod yX2_init ∈ TB := qm 151 (by decide +kernel) rfl
set_option maxRecDepth 100000 in
theorem q_117 : Cond.code yX2_init cX2_init 1 none ∈ TB := qm 152 rfl rfl
theorem q_118 : Cond.methodLink RX2 3 objectInit ∈ TB := qm 153 (by decide +kernel) rfl
theorem q_119 : Cond.classLink RX2 9 RX3 ∈ TB := qm 154 (by decide +kernel) rfl
theorem q_120 : Cond.methodLink RX2 11 yX3_init ∈ TB := qm 155 (by decide +kernel) rfl
theorem q_121 : Cond.fieldLink RX2 14 "FrozenDistricts$Judge" "reached" "LFrozenDistricts$Row;" ∈ TB := qm 156 (by decide +kernel) rfl
theorem q_122 : Cond.fieldLink RX2 20 "FrozenDistricts$Judge" "queue" "LFrozenDistricts$Row;" ∈ TB := qm 157 (by decide +kernel) rfl
theorem q_128 : Cond.classLink RX6 44 RX3 ∈ TB := qm 163 (by decide +kernel) rfl
theorem q_129 : Cond.methodLink RX6 46 yX3_init ∈ TB := qm 164 (by decide +kernel) rfl
theorem q_130 : Cond.fieldLink RX6 10 "FrozenDistricts" "now" "LFrozenDistricts$State;" ∈ TB := qm 165 (by decide +kernel) rfl
theorem q_131 : Cond.fieldLink RX6 19 "FrozenDistricts" "history" "LFrozenDistricts$History;" ∈ TB := qm 166 (by decide +kernel) rfl
theorem q_132 : Cond.fieldLink RX6 23 "FrozenDistricts" "snapshot" "LFrozenDistricts$State;" ∈ TB := qm 167 (by decide +kernel) rfl
theorem q_133 : Cond.fieldLink RX6 26 "FrozenDistricts" "hasSnapshot" "Z" ∈ TB := qm 168 (by decide +kernel) rfl
theorem q_134 : Cond.fieldLink RX6 33 "FrozenDistricts" "text" "LFrozenDistricts$VoteText;" ∈ TB := qm 169 (by decide +kernel) rfl
theorem q_135 : Cond.fieldLink RX6 40 "FrozenDistricts" "judge" "LFrozenDistricts$Judge;" ∈ TB := qm 170 (by decide +kernel) rfl
theorem q_136 : Cond.fieldLink RX6 49 "FrozenDistricts" "planned" "LFrozenDistricts$Row;" ∈ TB := qm 171 (by decide +kernel) rfl
theorem q_152 : Cond.methodLink RL 13 yX6_setVotes ∈ TB := qm 187 (by decide +kernel) rfl
theorem q_153 : Cond.instanceMethod yX6_setVotes ∈ TB := qm 188 (by decide +kernel) rfl
theorem q_154 : Cond.selects RX6 yX6_setVotes yX6_setVotes ∈ TB := qm 189 (by decide +kernel) rfl
set_option maxRecDepth 100000 in
theorem q_155 : Cond.code yX6_setVotes cX6_setVotes 6 (some .int) ∈ TB := qm 190 rfl rfl
theorem q_156 : Cond.methodLink RX6 53 yX6_isCell ∈ TB := qm 191 (by decide +kernel) rfl
theorem q_157 : Cond.static yX6_isCell ∈ TB := qm 192 (by decide +kernel) rfl
set_option maxRecDepth 100000 in
theorem q_158 : Cond.code yX6_isCell cX6_isCell 1 (some .boolean) ∈ TB := qm 193 rfl rfl
theorem q_159 : Cond.methodLink RX6 57 yX6_isFromTo ∈ TB := qm 194 (by decide +kernel) rfl
theorem q_160 : Cond.static yX6_isFromTo ∈ TB := qm 195 (by decide +kernel) rfl
set_option maxRecDepth 100000 in
theorem q_161 : Cond.code yX6_isFromTo cX6_isFromTo 3 (some .boolean) ∈ TB := qm 196 rfl rfl
theorem q_162 : Cond.methodLink RX6 64 yX3_at ∈ TB := qm 197 (by decide +kernel) rfl
theorem q_163 : Cond.instanceMethod yX3_at ∈ TB := qm 198 (by decide +kernel) rfl
theorem q_164 : Cond.selects RX3 yX3_at yX3_at ∈ TB := qm 199 (by decide +kernel) rfl
set_option maxRecDepth 100000 in
theorem q_165 : Cond.code yX3_at cX3_at 2 (some .int) ∈ TB := qm 200 rfl rfl
theorem q_166 : Cond.methodLink RX6 71 yX1_record ∈ TB := qm 201 (by decide +kernel) rfl
theorem q_167 : Cond.instanceMethod yX1_record ∈ TB := qm 202 (by decide +kernel) rfl
theorem q_168 : Cond.selects RX1 yX1_record yX1_record ∈ TB := qm 203 (by decide +kernel) rfl
set_option maxRecDepth 100000 in
theorem q_169 : Cond.code yX1_record cX1_record 3 none ∈ TB := qm 204 rfl rfl
theorem q_170 : Cond.methodLink RX1 25 yX1_slotAt ∈ TB := qm 205 (by decide +kernel) rfl
theorem q_172 : Cond.instanceMethod yX1_slotAt ∈ TB := qm 207 (by decide +kernel) rfl
set_option maxRecDepth 100000 in
theorem q_173 : Cond.code yX1_slotAt cX1_slotAt 3 (some (.object "FrozenDistricts$State")) ∈ TB := qm 208 rfl rfl
theorem q_174 : Cond.methodLink RX1 33 yJ9_floorMod_7cf53 ∈ TB := qm 209 (by decide +kernel) rfl
theorem q_175 : Cond.static yJ9_floorMod_7cf53 ∈ TB := qm 210 (by decide +kernel) rfl
set_option maxRecDepth 100000 in
theorem q_176 : Cond.code yJ9_floorMod_7cf53 cJ9_floorMod_7cf53 3 (some .int) ∈ TB := qm 211 rfl rfl
theorem q_177 : Cond.methodLink RX1 29 yX4_copy ∈ TB := qm 212 (by decide +kernel) rfl
theorem q_178 : Cond.instanceMethod yX4_copy ∈ TB := qm 213 (by decide +kernel) rfl
theorem q_179 : Cond.selects RX4 yX4_copy yX4_copy ∈ TB := qm 214 (by decide +kernel) rfl
set_option maxRecDepth 100000 in
theorem q_180 : Cond.code yX4_copy cX4_copy 2 none ∈ TB := qm 215 rfl rfl
theorem q_181 : Cond.methodLink RX4 51 yX3_copy ∈ TB := qm 216 (by decide +kernel) rfl
theorem q_182 : Cond.instanceMethod yX3_copy ∈ TB := qm 217 (by decide +kernel) rfl
theorem q_183 : Cond.selects RX3 yX3_copy yX3_copy ∈ TB := qm 218 (by decide +kernel) rfl
set_option maxRecDepth 100000 in
theorem q_184 : Cond.code yX3_copy cX3_copy 3 none ∈ TB := qm 219 rfl rfl
theorem q_185 : Cond.methodLink RX3 15 yX3_at ∈ TB := qm 220 (by decide +kernel) rfl
theorem q_186 : Cond.methodLink RX6 75 yX3_put ∈ TB := qm 221 (by decide +kernel) rfl
theorem q_187 : Cond.instanceMethod yX3_put ∈ TB := qm 222 (by decide +kernel) rfl
theorem q_188 : Cond.selects RX3 yX3_put yX3_put ∈ TB := qm 223 (by decide +kernel) rfl
set_option maxRecDepth 100000 in
theorem q_189 : Cond.code yX3_put cX3_put 3 none ∈ TB := qm 224 rfl rfl
theorem q_190 : Cond.methodLink RL 18 yX6_begin ∈ TB := qm 225 (by decide +kernel) rfl
theorem q_191 : Cond.instanceMethod yX6_begin ∈ TB := qm 226 (by decide +kernel) rfl
theorem q_192 : Cond.selects RX6 yX6_begin yX6_begin ∈ TB := qm 227 (by decide +kernel) rfl
set_option maxRecDepth 100000 in
theorem q_193 : Cond.code yX6_begin cX6_begin 2 (some .int) ∈ TB := qm 228 rfl rfl
theorem q_194 : Cond.methodLink RX6 78 yX6_dividesTheMap ∈ TB := qm 229 (by decide +kernel) rfl
theorem q_195 : Cond.static yX6_dividesTheMap ∈ TB := qm 230 (by decide +kernel) rfl
set_option maxRecDepth 100000 in
theorem q_196 : Cond.code yX6_dividesTheMap cX6_dividesTheMap 1 (some .boolean) ∈ TB := qm 231 rfl rfl
theorem q_197 : Cond.methodLink RX6 81 yX4_startAnew ∈ TB := qm 232 (by decide +kernel) rfl
theorem q_198 : Cond.instanceMethod yX4_startAnew ∈ TB := qm 233 (by decide +kernel) rfl
theorem q_199 : Cond.selects RX4 yX4_startAnew yX4_startAnew ∈ TB := qm 234 (by decide +kernel) rfl
set_option maxRecDepth 100000 in
theorem q_200 : Cond.code yX4_startAnew cX4_startAnew 2 none ∈ TB := qm 235 rfl rfl
theorem q_201 : Cond.methodLink RX4 55 yX3_fill ∈ TB := qm 236 (by decide +kernel) rfl
theorem q_202 : Cond.instanceMethod yX3_fill ∈ TB := qm 237 (by decide +kernel) rfl
theorem q_203 : Cond.selects RX3 yX3_fill yX3_fill ∈ TB := qm 238 (by decide +kernel) rfl
set_option maxRecDepth 100000 in
theorem q_204 : Cond.code yX3_fill cX3_fill 3 none ∈ TB := qm 239 rfl rfl
theorem q_205 : Cond.methodLink RX6 85 yX4_size ∈ TB := qm 240 (by decide +kernel) rfl
theorem q_206 : Cond.instanceMethod yX4_size ∈ TB := qm 241 (by decide +kernel) rfl
theorem q_207 : Cond.selects RX4 yX4_size yX4_size ∈ TB := qm 242 (by decide +kernel) rfl
set_option maxRecDepth 100000 in
theorem q_208 : Cond.code yX4_size cX4_size 1 (some .int) ∈ TB := qm 243 rfl rfl
theorem q_209 : Cond.methodLink RL 23 yX6_setTarget ∈ TB := qm 244 (by decide +kernel) rfl
theorem q_210 : Cond.instanceMethod yX6_setTarget ∈ TB := qm 245 (by decide +kernel) rfl
theorem q_211 : Cond.selects RX6 yX6_setTarget yX6_setTarget ∈ TB := qm 246 (by decide +kernel) rfl
set_option maxRecDepth 100000 in
theorem q_212 : Cond.code yX6_setTarget cX6_setTarget 4 (some .int) ∈ TB := qm 247 rfl rfl
theorem q_213 : Cond.methodLink RX6 89 yX6_isParty ∈ TB := qm 248 (by decide +kernel) rfl
theorem q_214 : Cond.static yX6_isParty ∈ TB := qm 249 (by decide +kernel) rfl
set_option maxRecDepth 100000 in
theorem q_215 : Cond.code yX6_isParty cX6_isParty 1 (some .boolean) ∈ TB := qm 250 rfl rfl
theorem q_216 : Cond.methodLink RL 28 yX6_draft ∈ TB := qm 251 (by decide +kernel) rfl
theorem q_217 : Cond.instanceMethod yX6_draft ∈ TB := qm 252 (by decide +kernel) rfl
theorem q_218 : Cond.selects RX6 yX6_draft yX6_draft ∈ TB := qm 253 (by decide +kernel) rfl
set_option maxRecDepth 100000 in
theorem q_219 : Cond.code yX6_draft cX6_draft 4 (some .int) ∈ TB := qm 254 rfl rfl
theorem q_220 : Cond.methodLink RX6 99 yX4_isOpen ∈ TB := qm 255 (by decide +kernel) rfl
theorem q_221 : Cond.instanceMethod yX4_isOpen ∈ TB := qm 256 (by decide +kernel) rfl
theorem q_222 : Cond.selects RX4 yX4_isOpen yX4_isOpen ∈ TB := qm 257 (by decide +kernel) rfl
set_option maxRecDepth 100000 in
theorem q_223 : Cond.code yX4_isOpen cX4_isOpen 2 (some .boolean) ∈ TB := qm 258 rfl rfl
theorem q_224 : Cond.methodLink RX4 59 yX3_at ∈ TB := qm 259 (by decide +kernel) rfl
theorem q_225 : Cond.methodLink RX6 102 yX4_isPart ∈ TB := qm 260 (by decide +kernel) rfl
theorem q_226 : Cond.instanceMethod yX4_isPart ∈ TB := qm 261 (by decide +kernel) rfl
theorem q_227 : Cond.selects RX4 yX4_isPart yX4_isPart ∈ TB := qm 262 (by decide +kernel) rfl
set_option maxRecDepth 100000 in
theorem q_228 : Cond.code yX4_isPart cX4_isPart 2 (some .boolean) ∈ TB := qm 263 rfl rfl
theorem q_229 : Cond.methodLink RX4 63 yX4_left ∈ TB := qm 264 (by decide +kernel) rfl
theorem q_230 : Cond.instanceMethod yX4_left ∈ TB := qm 265 (by decide +kernel) rfl
theorem q_231 : Cond.selects RX4 yX4_left yX4_left ∈ TB := qm 266 (by decide +kernel) rfl
set_option maxRecDepth 100000 in
theorem q_232 : Cond.code yX4_left cX4_left 1 (some .int) ∈ TB := qm 267 rfl rfl
theorem q_233 : Cond.methodLink RL 32 yX6_trade ∈ TB := qm 268 (by decide +kernel) rfl
theorem q_234 : Cond.instanceMethod yX6_trade ∈ TB := qm 269 (by decide +kernel) rfl
theorem q_235 : Cond.selects RX6 yX6_trade yX6_trade ∈ TB := qm 270 (by decide +kernel) rfl
set_option maxRecDepth 100000 in
theorem q_236 : Cond.code yX6_trade cX6_trade 5 (some .int) ∈ TB := qm 271 rfl rfl
theorem q_237 : Cond.methodLink RX6 108 yX6_oneIfCut ∈ TB := qm 272 (by decide +kernel) rfl
theorem q_239 : Cond.instanceMethod yX6_oneIfCut ∈ TB := qm 274 (by decide +kernel) rfl
set_option maxRecDepth 100000 in
theorem q_240 : Cond.code yX6_oneIfCut cX6_oneIfCut 1 (some .int) ∈ TB := qm 275 rfl rfl
theorem q_241 : Cond.methodLink RX6 132 yX2_reason ∈ TB := qm 276 (by decide +kernel) rfl
theorem q_242 : Cond.instanceMethod yX2_reason ∈ TB := qm 277 (by decide +kernel) rfl
theorem q_243 : Cond.selects RX2 yX2_reason yX2_reason ∈ TB := qm 278 (by decide +kernel) rfl
set_option maxRecDepth 100000 in
theorem q_244 : Cond.code yX2_reason cX2_reason 2 (some .int) ∈ TB := qm 279 rfl rfl
theorem q_245 : Cond.methodLink RX2 23 yX2_withoutPart ∈ TB := qm 280 (by decide +kernel) rfl
theorem q_246 : Cond.static yX2_withoutPart ∈ TB := qm 281 (by decide +kernel) rfl
set_option maxRecDepth 100000 in
theorem q_247 : Cond.code yX2_withoutPart cX2_withoutPart 2 (some .int) ∈ TB := qm 282 rfl rfl
theorem q_248 : Cond.methodLink RX2 57 yX4_isOpen ∈ TB := qm 283 (by decide +kernel) rfl
theorem q_249 : Cond.methodLink RX2 40 yX3_at ∈ TB := qm 284 (by decide +kernel) rfl
theorem q_250 : Cond.methodLink RX2 27 yX2_ofOtherSize ∈ TB := qm 285 (by decide +kernel) rfl
theorem q_251 : Cond.static yX2_ofOtherSize ∈ TB := qm 286 (by decide +kernel) rfl
set_option maxRecDepth 100000 in
theorem q_252 : Cond.code yX2_ofOtherSize cX2_ofOtherSize 2 (some .int) ∈ TB := qm 287 rfl rfl
theorem q_253 : Cond.methodLink RX2 66 yX4_left ∈ TB := qm 288 (by decide +kernel) rfl
theorem q_254 : Cond.methodLink RX2 70 yX0_size ∈ TB := qm 289 (by decide +kernel) rfl
theorem q_255 : Cond.static yX0_size ∈ TB := qm 290 (by decide +kernel) rfl
set_option maxRecDepth 100000 in
theorem q_256 : Cond.code yX0_size cX0_size 4 (some .int) ∈ TB := qm 291 rfl rfl
theorem q_257 : Cond.methodLink RX0 9 yX3_at ∈ TB := qm 292 (by decide +kernel) rfl
theorem q_258 : Cond.methodLink RX2 74 yX4_size ∈ TB := qm 293 (by decide +kernel) rfl
theorem q_259 : Cond.methodLink RX2 30 yX2_notConnected ∈ TB := qm 294 (by decide +kernel) rfl
theorem q_261 : Cond.instanceMethod yX2_notConnected ∈ TB := qm 296 (by decide +kernel) rfl
set_option maxRecDepth 100000 in
theorem q_262 : Cond.code yX2_notConnected cX2_notConnected 3 (some .int) ∈ TB := qm 297 rfl rfl
theorem q_263 : Cond.methodLink RX2 76 yX2_pieces ∈ TB := qm 298 (by decide +kernel) rfl
theorem q_264 : Cond.instanceMethod yX2_pieces ∈ TB := qm 299 (by decide +kernel) rfl
theorem q_265 : Cond.selects RX2 yX2_pieces yX2_pieces ∈ TB := qm 300 (by decide +kernel) rfl
set_option maxRecDepth 100000 in
theorem q_266 : Cond.code yX2_pieces cX2_pieces 5 (some .int) ∈ TB := qm 301 rfl rfl
theorem q_267 : Cond.methodLink RX2 36 yX3_fill ∈ TB := qm 302 (by decide +kernel) rfl
theorem q_268 : Cond.methodLink RX2 44 yX2_reachFrom ∈ TB := qm 303 (by decide +kernel) rfl
theorem q_270 : Cond.instanceMethod yX2_reachFrom ∈ TB := qm 305 (by decide +kernel) rfl
set_option maxRecDepth 100000 in
theorem q_271 : Cond.code yX2_reachFrom cX2_reachFrom 9 none ∈ TB := qm 306 rfl rfl
theorem q_272 : Cond.methodLink RX2 48 yX3_put ∈ TB := qm 307 (by decide +kernel) rfl
theorem q_273 : Cond.methodLink RX2 51 yX0_behind ∈ TB := qm 308 (by decide +kernel) rfl
theorem q_274 : Cond.static yX0_behind ∈ TB := qm 309 (by decide +kernel) rfl
set_option maxRecDepth 100000 in
theorem q_275 : Cond.code yX0_behind cX0_behind 3 (some .int) ∈ TB := qm 310 rfl rfl
theorem q_276 : Cond.methodLink RL 36 yX6_snake ∈ TB := qm 311 (by decide +kernel) rfl
theorem q_277 : Cond.instanceMethod yX6_snake ∈ TB := qm 312 (by decide +kernel) rfl
theorem q_278 : Cond.selects RX6 yX6_snake yX6_snake ∈ TB := qm 313 (by decide +kernel) rfl
set_option maxRecDepth 100000 in
theorem q_279 : Cond.code yX6_snake cX6_snake 2 (some .int) ∈ TB := qm 314 rfl rfl
theorem q_280 : Cond.methodLink RX6 111 yX6_planSnake ∈ TB := qm 315 (by decide +kernel) rfl
theorem q_282 : Cond.instanceMethod yX6_planSnake ∈ TB := qm 317 (by decide +kernel) rfl
set_option maxRecDepth 100000 in
theorem q_283 : Cond.code yX6_planSnake cX6_planSnake 6 none ∈ TB := qm 318 rfl rfl
theorem q_284 : Cond.methodLink RX6 230 yX3_fill ∈ TB := qm 319 (by decide +kernel) rfl
theorem q_285 : Cond.methodLink RX6 233 yX6_cellOfSnake ∈ TB := qm 320 (by decide +kernel) rfl
theorem q_286 : Cond.static yX6_cellOfSnake ∈ TB := qm 321 (by decide +kernel) rfl
set_option maxRecDepth 100000 in
theorem q_287 : Cond.code yX6_cellOfSnake cX6_cellOfSnake 4 (some .int) ∈ TB := qm 322 rfl rfl
theorem q_288 : Cond.methodLink RX6 115 yX3_isLike ∈ TB := qm 323 (by decide +kernel) rfl
theorem q_289 : Cond.instanceMethod yX3_isLike ∈ TB := qm 324 (by decide +kernel) rfl
theorem q_290 : Cond.selects RX3 yX3_isLike yX3_isLike ∈ TB := qm 325 (by decide +kernel) rfl
set_option maxRecDepth 100000 in
theorem q_291 : Cond.code yX3_isLike cX3_isLike 3 (some .boolean) ∈ TB := qm 326 rfl rfl
theorem q_292 : Cond.methodLink RX6 119 yX3_copy ∈ TB := qm 327 (by decide +kernel) rfl
theorem q_293 : Cond.methodLink RL 41 yX6_adopt ∈ TB := qm 328 (by decide +kernel) rfl
theorem q_294 : Cond.instanceMethod yX6_adopt ∈ TB := qm 329 (by decide +kernel) rfl
theorem q_295 : Cond.selects RX6 yX6_adopt yX6_adopt ∈ TB := qm 330 (by decide +kernel) rfl
set_option maxRecDepth 100000 in
theorem q_296 : Cond.code yX6_adopt cX6_adopt 1 (some .int) ∈ TB := qm 331 rfl rfl
theorem q_297 : Cond.methodLink RX6 129 yX4_left ∈ TB := qm 332 (by decide +kernel) rfl
theorem q_298 : Cond.methodLink RL 46 yX6_propose ∈ TB := qm 333 (by decide +kernel) rfl
theorem q_299 : Cond.instanceMethod yX6_propose ∈ TB := qm 334 (by decide +kernel) rfl
theorem q_300 : Cond.selects RX6 yX6_propose yX6_propose ∈ TB := qm 335 (by decide +kernel) rfl
set_option maxRecDepth 100000 in
theorem q_301 : Cond.code yX6_propose cX6_propose 2 (some .int) ∈ TB := qm 336 rfl rfl
theorem q_302 : Cond.methodLink RL 50 yX6_freeze ∈ TB := qm 337 (by decide +kernel) rfl
theorem q_303 : Cond.instanceMethod yX6_freeze ∈ TB := qm 338 (by decide +kernel) rfl
theorem q_304 : Cond.selects RX6 yX6_freeze yX6_freeze ∈ TB := qm 339 (by decide +kernel) rfl
set_option maxRecDepth 100000 in
theorem q_305 : Cond.code yX6_freeze cX6_freeze 2 (some .int) ∈ TB := qm 340 rfl rfl
theorem q_306 : Cond.methodLink RX6 136 yX4_takePart ∈ TB := qm 341 (by decide +kernel) rfl
theorem q_307 : Cond.instanceMethod yX4_takePart ∈ TB := qm 342 (by decide +kernel) rfl
theorem q_308 : Cond.selects RX4 yX4_takePart yX4_takePart ∈ TB := qm 343 (by decide +kernel) rfl
set_option maxRecDepth 100000 in
theorem q_309 : Cond.code yX4_takePart cX4_takePart 2 none ∈ TB := qm 344 rfl rfl
theorem q_310 : Cond.methodLink RX4 71 yX4_makeDistrict ∈ TB := qm 345 (by decide +kernel) rfl
theorem q_312 : Cond.instanceMethod yX4_makeDistrict ∈ TB := qm 347 (by decide +kernel) rfl
set_option maxRecDepth 100000 in
theorem q_313 : Cond.code yX4_makeDistrict cX4_makeDistrict 5 none ∈ TB := qm 348 rfl rfl
theorem q_314 : Cond.methodLink RX4 78 yX3_put ∈ TB := qm 349 (by decide +kernel) rfl
theorem q_315 : Cond.methodLink RX4 75 yX4_leaveRest ∈ TB := qm 350 (by decide +kernel) rfl
theorem q_317 : Cond.instanceMethod yX4_leaveRest ∈ TB := qm 352 (by decide +kernel) rfl
set_option maxRecDepth 100000 in
theorem q_318 : Cond.code yX4_leaveRest cX4_leaveRest 4 none ∈ TB := qm 353 rfl rfl
theorem q_319 : Cond.methodLink RL 54 yX6_type ∈ TB := qm 354 (by decide +kernel) rfl
theorem q_320 : Cond.instanceMethod yX6_type ∈ TB := qm 355 (by decide +kernel) rfl
theorem q_321 : Cond.selects RX6 yX6_type yX6_type ∈ TB := qm 356 (by decide +kernel) rfl
set_option maxRecDepth 100000 in
theorem q_322 : Cond.code yX6_type cX6_type 2 (some .int) ∈ TB := qm 357 rfl rfl
theorem q_323 : Cond.methodLink RX6 139 yX5_append ∈ TB := qm 358 (by decide +kernel) rfl
theorem q_324 : Cond.instanceMethod yX5_append ∈ TB := qm 359 (by decide +kernel) rfl
theorem q_325 : Cond.selects RX5 yX5_append yX5_append ∈ TB := qm 360 (by decide +kernel) rfl
set_option maxRecDepth 100000 in
theorem q_326 : Cond.code yX5_append cX5_append 2 (some .boolean) ∈ TB := qm 361 rfl rfl
theorem q_327 : Cond.methodLink RX6 143 yX5_length ∈ TB := qm 362 (by decide +kernel) rfl
theorem q_328 : Cond.instanceMethod yX5_length ∈ TB := qm 363 (by decide +kernel) rfl
theorem q_329 : Cond.selects RX5 yX5_length yX5_length ∈ TB := qm 364 (by decide +kernel) rfl
set_option maxRecDepth 100000 in
theorem q_330 : Cond.code yX5_length cX5_length 1 (some .int) ∈ TB := qm 365 rfl rfl
theorem q_331 : Cond.methodLink RL 59 yX6_clearText ∈ TB := qm 366 (by decide +kernel) rfl
theorem q_332 : Cond.instanceMethod yX6_clearText ∈ TB := qm 367 (by decide +kernel) rfl
theorem q_333 : Cond.selects RX6 yX6_clearText yX6_clearText ∈ TB := qm 368 (by decide +kernel) rfl
set_option maxRecDepth 100000 in
theorem q_334 : Cond.code yX6_clearText cX6_clearText 2 (some .int) ∈ TB := qm 369 rfl rfl
theorem q_335 : Cond.methodLink RX6 146 yX5_empty ∈ TB := qm 370 (by decide +kernel) rfl
theorem q_336 : Cond.instanceMethod yX5_empty ∈ TB := qm 371 (by decide +kernel) rfl
theorem q_337 : Cond.selects RX5 yX5_empty yX5_empty ∈ TB := qm 372 (by decide +kernel) rfl
set_option maxRecDepth 100000 in
theorem q_338 : Cond.code yX5_empty cX5_empty 1 none ∈ TB := qm 373 rfl rfl
theorem q_339 : Cond.methodLink RL 63 yX6_readVotes ∈ TB := qm 374 (by decide +kernel) rfl
theorem q_340 : Cond.instanceMethod yX6_readVotes ∈ TB := qm 375 (by decide +kernel) rfl
theorem q_341 : Cond.selects RX6 yX6_readVotes yX6_readVotes ∈ TB := qm 376 (by decide +kernel) rfl
set_option maxRecDepth 100000 in
theorem q_342 : Cond.code yX6_readVotes cX6_readVotes 5 (some .int) ∈ TB := qm 377 rfl rfl
theorem q_343 : Cond.methodLink RX6 149 yX5_fault ∈ TB := qm 378 (by decide +kernel) rfl
theorem q_344 : Cond.instanceMethod yX5_fault ∈ TB := qm 379 (by decide +kernel) rfl
theorem q_345 : Cond.selects RX5 yX5_fault yX5_fault ∈ TB := qm 380 (by decide +kernel) rfl
set_option maxRecDepth 100000 in
theorem q_346 : Cond.code yX5_fault cX5_fault 2 (some .int) ∈ TB := qm 381 rfl rfl
theorem q_347 : Cond.methodLink RX5 19 yX5_isAllowed ∈ TB := qm 382 (by decide +kernel) rfl
theorem q_349 : Cond.instanceMethod yX5_isAllowed ∈ TB := qm 384 (by decide +kernel) rfl
set_option maxRecDepth 100000 in
theorem q_350 : Cond.code yX5_isAllowed cX5_isAllowed 3 (some .boolean) ∈ TB := qm 385 rfl rfl
theorem q_351 : Cond.methodLink RX5 23 yX5_at ∈ TB := qm 386 (by decide +kernel) rfl
theorem q_353 : Cond.instanceMethod yX5_at ∈ TB := qm 388 (by decide +kernel) rfl
set_option maxRecDepth 100000 in
theorem q_354 : Cond.code yX5_at cX5_at 2 (some .char) ∈ TB := qm 389 rfl rfl
theorem q_355 : Cond.methodLink RX6 152 yX5_pairs ∈ TB := qm 390 (by decide +kernel) rfl
theorem q_356 : Cond.instanceMethod yX5_pairs ∈ TB := qm 391 (by decide +kernel) rfl
theorem q_357 : Cond.selects RX5 yX5_pairs yX5_pairs ∈ TB := qm 392 (by decide +kernel) rfl
set_option maxRecDepth 100000 in
theorem q_358 : Cond.code yX5_pairs cX5_pairs 1 (some .int) ∈ TB := qm 393 rfl rfl
theorem q_359 : Cond.methodLink RX6 155 yX5_votes ∈ TB := qm 394 (by decide +kernel) rfl
theorem q_360 : Cond.instanceMethod yX5_votes ∈ TB := qm 395 (by decide +kernel) rfl
theorem q_361 : Cond.selects RX5 yX5_votes yX5_votes ∈ TB := qm 396 (by decide +kernel) rfl
set_option maxRecDepth 100000 in
theorem q_362 : Cond.code yX5_votes cX5_votes 3 (some .int) ∈ TB := qm 397 rfl rfl
theorem q_363 : Cond.methodLink RL 67 yX6_undo ∈ TB := qm 398 (by decide +kernel) rfl
theorem q_364 : Cond.instanceMethod yX6_undo ∈ TB := qm 399 (by decide +kernel) rfl
theorem q_365 : Cond.selects RX6 yX6_undo yX6_undo ∈ TB := qm 400 (by decide +kernel) rfl
set_option maxRecDepth 100000 in
theorem q_366 : Cond.code yX6_undo cX6_undo 1 (some .int) ∈ TB := qm 401 rfl rfl
theorem q_367 : Cond.methodLink RX6 159 yX1_size ∈ TB := qm 402 (by decide +kernel) rfl
theorem q_368 : Cond.instanceMethod yX1_size ∈ TB := qm 403 (by decide +kernel) rfl
theorem q_369 : Cond.selects RX1 yX1_size yX1_size ∈ TB := qm 404 (by decide +kernel) rfl
set_option maxRecDepth 100000 in
theorem q_370 : Cond.code yX1_size cX1_size 1 (some .int) ∈ TB := qm 405 rfl rfl
theorem q_371 : Cond.methodLink RX6 160 yX1_takeLatest ∈ TB := qm 406 (by decide +kernel) rfl
theorem q_372 : Cond.instanceMethod yX1_takeLatest ∈ TB := qm 407 (by decide +kernel) rfl
theorem q_373 : Cond.selects RX1 yX1_takeLatest yX1_takeLatest ∈ TB := qm 408 (by decide +kernel) rfl
set_option maxRecDepth 100000 in
theorem q_374 : Cond.code yX1_takeLatest cX1_takeLatest 3 none ∈ TB := qm 409 rfl rfl
theorem q_375 : Cond.methodLink RL 71 yX6_keep ∈ TB := qm 410 (by decide +kernel) rfl
theorem q_376 : Cond.instanceMethod yX6_keep ∈ TB := qm 411 (by decide +kernel) rfl
theorem q_377 : Cond.selects RX6 yX6_keep yX6_keep ∈ TB := qm 412 (by decide +kernel) rfl
set_option maxRecDepth 100000 in
theorem q_378 : Cond.code yX6_keep cX6_keep 1 (some .int) ∈ TB := qm 413 rfl rfl
theorem q_379 : Cond.methodLink RX6 163 yX4_copy ∈ TB := qm 414 (by decide +kernel) rfl
theorem q_380 : Cond.methodLink RL 75 yX6_restore ∈ TB := qm 415 (by decide +kernel) rfl
theorem q_381 : Cond.instanceMethod yX6_restore ∈ TB := qm 416 (by decide +kernel) rfl
theorem q_382 : Cond.selects RX6 yX6_restore yX6_restore ∈ TB := qm 417 (by decide +kernel) rfl
set_option maxRecDepth 100000 in
theorem q_383 : Cond.code yX6_restore cX6_restore 1 (some .int) ∈ TB := qm 418 rfl rfl
theorem q_384 : Cond.methodLink RL 79 yX6_cell ∈ TB := qm 419 (by decide +kernel) rfl
theorem q_385 : Cond.instanceMethod yX6_cell ∈ TB := qm 420 (by decide +kernel) rfl
theorem q_386 : Cond.selects RX6 yX6_cell yX6_cell ∈ TB := qm 421 (by decide +kernel) rfl
set_option maxRecDepth 100000 in
theorem q_387 : Cond.code yX6_cell cX6_cell 3 (some .int) ∈ TB := qm 422 rfl rfl
theorem q_388 : Cond.methodLink RX6 165 yX6_noneIfNothing ∈ TB := qm 423 (by decide +kernel) rfl
theorem q_389 : Cond.static yX6_noneIfNothing ∈ TB := qm 424 (by decide +kernel) rfl
set_option maxRecDepth 100000 in
theorem q_390 : Cond.code yX6_noneIfNothing cX6_noneIfNothing 1 (some .int) ∈ TB := qm 425 rfl rfl
theorem q_391 : Cond.methodLink RX6 171 yX0_alike ∈ TB := qm 426 (by decide +kernel) rfl
theorem q_392 : Cond.static yX0_alike ∈ TB := qm 427 (by decide +kernel) rfl
set_option maxRecDepth 100000 in
theorem q_393 : Cond.code yX0_alike cX0_alike 5 (some .int) ∈ TB := qm 428 rfl rfl
theorem q_394 : Cond.methodLink RX0 15 yX0_behind ∈ TB := qm 429 (by decide +kernel) rfl
theorem q_395 : Cond.methodLink RL 83 yX6_part ∈ TB := qm 430 (by decide +kernel) rfl
theorem q_396 : Cond.instanceMethod yX6_part ∈ TB := qm 431 (by decide +kernel) rfl
theorem q_397 : Cond.selects RX6 yX6_part yX6_part ∈ TB := qm 432 (by decide +kernel) rfl
set_option maxRecDepth 100000 in
theorem q_398 : Cond.code yX6_part cX6_part 3 (some .int) ∈ TB := qm 433 rfl rfl
theorem q_399 : Cond.methodLink RX6 177 yX2_pieces ∈ TB := qm 434 (by decide +kernel) rfl
theorem q_400 : Cond.methodLink RX6 180 yX6_tellArea ∈ TB := qm 435 (by decide +kernel) rfl
theorem q_402 : Cond.instanceMethod yX6_tellArea ∈ TB := qm 437 (by decide +kernel) rfl
set_option maxRecDepth 100000 in
theorem q_403 : Cond.code yX6_tellArea cX6_tellArea 4 (some .int) ∈ TB := qm 438 rfl rfl
theorem q_404 : Cond.methodLink RX6 222 yX0_size ∈ TB := qm 439 (by decide +kernel) rfl
theorem q_405 : Cond.methodLink RX6 237 yX0_borders ∈ TB := qm 440 (by decide +kernel) rfl
theorem q_406 : Cond.static yX0_borders ∈ TB := qm 441 (by decide +kernel) rfl
set_option maxRecDepth 100000 in
theorem q_407 : Cond.code yX0_borders cX0_borders 4 (some .int) ∈ TB := qm 442 rfl rfl
theorem q_408 : Cond.methodLink RX0 21 yX0_alike ∈ TB := qm 443 (by decide +kernel) rfl
theorem q_409 : Cond.methodLink RX6 240 yX4_margin ∈ TB := qm 444 (by decide +kernel) rfl
theorem q_410 : Cond.instanceMethod yX4_margin ∈ TB := qm 445 (by decide +kernel) rfl
theorem q_411 : Cond.selects RX4 yX4_margin yX4_margin ∈ TB := qm 446 (by decide +kernel) rfl
set_option maxRecDepth 100000 in
theorem q_412 : Cond.code yX4_margin cX4_margin 4 (some .int) ∈ TB := qm 447 rfl rfl
theorem q_413 : Cond.methodLink RX4 81 yX4_votesOf ∈ TB := qm 448 (by decide +kernel) rfl
theorem q_414 : Cond.instanceMethod yX4_votesOf ∈ TB := qm 449 (by decide +kernel) rfl
theorem q_415 : Cond.selects RX4 yX4_votesOf yX4_votesOf ∈ TB := qm 450 (by decide +kernel) rfl
set_option maxRecDepth 100000 in
theorem q_416 : Cond.code yX4_votesOf cX4_votesOf 2 (some (.object "FrozenDistricts$Row")) ∈ TB := qm 451 rfl rfl
theorem q_417 : Cond.methodLink RX4 85 yX0_votes ∈ TB := qm 452 (by decide +kernel) rfl
theorem q_418 : Cond.static yX0_votes ∈ TB := qm 453 (by decide +kernel) rfl
set_option maxRecDepth 100000 in
theorem q_419 : Cond.code yX0_votes cX0_votes 5 (some .int) ∈ TB := qm 454 rfl rfl
theorem q_420 : Cond.methodLink RX6 243 yX4_winner ∈ TB := qm 455 (by decide +kernel) rfl
theorem q_421 : Cond.instanceMethod yX4_winner ∈ TB := qm 456 (by decide +kernel) rfl
theorem q_422 : Cond.selects RX4 yX4_winner yX4_winner ∈ TB := qm 457 (by decide +kernel) rfl
set_option maxRecDepth 100000 in
theorem q_423 : Cond.code yX4_winner cX4_winner 4 (some .int) ∈ TB := qm 458 rfl rfl
theorem q_424 : Cond.methodLink RX4 91 yX4_margin ∈ TB := qm 459 (by decide +kernel) rfl
theorem q_425 : Cond.methodLink RX6 246 yX0_lowest ∈ TB := qm 460 (by decide +kernel) rfl
theorem q_426 : Cond.static yX0_lowest ∈ TB := qm 461 (by decide +kernel) rfl
set_option maxRecDepth 100000 in
theorem q_427 : Cond.code yX0_lowest cX0_lowest 3 (some .int) ∈ TB := qm 462 rfl rfl
theorem q_428 : Cond.methodLink RL 87 yX6_district ∈ TB := qm 463 (by decide +kernel) rfl
theorem q_429 : Cond.instanceMethod yX6_district ∈ TB := qm 464 (by decide +kernel) rfl
theorem q_430 : Cond.selects RX6 yX6_district yX6_district ∈ TB := qm 465 (by decide +kernel) rfl
set_option maxRecDepth 100000 in
theorem q_431 : Cond.code yX6_district cX6_district 3 (some .int) ∈ TB := qm 466 rfl rfl
theorem q_432 : Cond.methodLink RX6 187 yX4_wasted ∈ TB := qm 467 (by decide +kernel) rfl
theorem q_433 : Cond.instanceMethod yX4_wasted ∈ TB := qm 468 (by decide +kernel) rfl
theorem q_434 : Cond.selects RX4 yX4_wasted yX4_wasted ∈ TB := qm 469 (by decide +kernel) rfl
set_option maxRecDepth 100000 in
theorem q_435 : Cond.code yX4_wasted cX4_wasted 5 (some .int) ∈ TB := qm 470 rfl rfl
theorem q_436 : Cond.methodLink RL 91 yX6_why ∈ TB := qm 471 (by decide +kernel) rfl
theorem q_437 : Cond.instanceMethod yX6_why ∈ TB := qm 472 (by decide +kernel) rfl
theorem q_438 : Cond.selects RX6 yX6_why yX6_why ∈ TB := qm 473 (by decide +kernel) rfl
set_option maxRecDepth 100000 in
theorem q_439 : Cond.code yX6_why cX6_why 2 (some .int) ∈ TB := qm 474 rfl rfl
theorem q_440 : Cond.methodLink RX6 190 yX2_blamed ∈ TB := qm 475 (by decide +kernel) rfl
theorem q_441 : Cond.instanceMethod yX2_blamed ∈ TB := qm 476 (by decide +kernel) rfl
theorem q_442 : Cond.selects RX2 yX2_blamed yX2_blamed ∈ TB := qm 477 (by decide +kernel) rfl
set_option maxRecDepth 100000 in
theorem q_443 : Cond.code yX2_blamed cX2_blamed 2 (some .int) ∈ TB := qm 478 rfl rfl
theorem q_444 : Cond.methodLink RX2 33 yX2_reason ∈ TB := qm 479 (by decide +kernel) rfl
theorem q_445 : Cond.methodLink RL 95 yX6_advice ∈ TB := qm 480 (by decide +kernel) rfl
theorem q_446 : Cond.instanceMethod yX6_advice ∈ TB := qm 481 (by decide +kernel) rfl
theorem q_447 : Cond.selects RX6 yX6_advice yX6_advice ∈ TB := qm 482 (by decide +kernel) rfl
set_option maxRecDepth 100000 in
theorem q_448 : Cond.code yX6_advice cX6_advice 3 (some .int) ∈ TB := qm 483 rfl rfl
theorem q_449 : Cond.methodLink RX6 193 yX4_player ∈ TB := qm 484 (by decide +kernel) rfl
theorem q_450 : Cond.instanceMethod yX4_player ∈ TB := qm 485 (by decide +kernel) rfl
theorem q_451 : Cond.selects RX4 yX4_player yX4_player ∈ TB := qm 486 (by decide +kernel) rfl
set_option maxRecDepth 100000 in
theorem q_452 : Cond.code yX4_player cX4_player 1 (some .int) ∈ TB := qm 487 rfl rfl
theorem q_453 : Cond.methodLink RX6 196 yX4_closestWon ∈ TB := qm 488 (by decide +kernel) rfl
theorem q_454 : Cond.instanceMethod yX4_closestWon ∈ TB := qm 489 (by decide +kernel) rfl
theorem q_455 : Cond.selects RX4 yX4_closestWon yX4_closestWon ∈ TB := qm 490 (by decide +kernel) rfl
set_option maxRecDepth 100000 in
theorem q_456 : Cond.code yX4_closestWon cX4_closestWon 6 (some .int) ∈ TB := qm 491 rfl rfl
theorem q_457 : Cond.methodLink RX6 199 yX4_mostLost ∈ TB := qm 492 (by decide +kernel) rfl
theorem q_458 : Cond.instanceMethod yX4_mostLost ∈ TB := qm 493 (by decide +kernel) rfl
theorem q_459 : Cond.selects RX4 yX4_mostLost yX4_mostLost ∈ TB := qm 494 (by decide +kernel) rfl
set_option maxRecDepth 100000 in
theorem q_460 : Cond.code yX4_mostLost cX4_mostLost 4 (some .int) ∈ TB := qm 495 rfl rfl
theorem q_461 : Cond.methodLink RL 99 yX6_party ∈ TB := qm 496 (by decide +kernel) rfl
theorem q_462 : Cond.instanceMethod yX6_party ∈ TB := qm 497 (by decide +kernel) rfl
theorem q_463 : Cond.selects RX6 yX6_party yX6_party ∈ TB := qm 498 (by decide +kernel) rfl
set_option maxRecDepth 100000 in
theorem q_464 : Cond.code yX6_party cX6_party 3 (some .int) ∈ TB := qm 499 rfl rfl
theorem q_465 : Cond.methodLink RX6 202 yX4_seats ∈ TB := qm 500 (by decide +kernel) rfl
theorem q_466 : Cond.instanceMethod yX4_seats ∈ TB := qm 501 (by decide +kernel) rfl
theorem q_467 : Cond.selects RX4 yX4_seats yX4_seats ∈ TB := qm 502 (by decide +kernel) rfl
set_option maxRecDepth 100000 in
theorem q_468 : Cond.code yX4_seats cX4_seats 2 (some .int) ∈ TB := qm 503 rfl rfl
theorem q_469 : Cond.methodLink RX4 99 yX4_won ∈ TB := qm 504 (by decide +kernel) rfl
theorem q_470 : Cond.instanceMethod yX4_won ∈ TB := qm 505 (by decide +kernel) rfl
theorem q_471 : Cond.selects RX4 yX4_won yX4_won ∈ TB := qm 506 (by decide +kernel) rfl
set_option maxRecDepth 100000 in
theorem q_472 : Cond.code yX4_won cX4_won 6 (some .int) ∈ TB := qm 507 rfl rfl
theorem q_473 : Cond.methodLink RX4 95 yX4_winner ∈ TB := qm 508 (by decide +kernel) rfl
theorem q_474 : Cond.methodLink RX6 205 yX4_votesOf ∈ TB := qm 509 (by decide +kernel) rfl
theorem q_475 : Cond.methodLink RX6 209 yX3_sum ∈ TB := qm 510 (by decide +kernel) rfl
theorem q_476 : Cond.instanceMethod yX3_sum ∈ TB := qm 511 (by decide +kernel) rfl
theorem q_477 : Cond.selects RX3 yX3_sum yX3_sum ∈ TB := qm 512 (by decide +kernel) rfl
set_option maxRecDepth 100000 in
theorem q_478 : Cond.code yX3_sum cX3_sum 3 (some .int) ∈ TB := qm 513 rfl rfl
theorem q_479 : Cond.methodLink RX6 212 yX4_wastedInAll ∈ TB := qm 514 (by decide +kernel) rfl
theorem q_480 : Cond.instanceMethod yX4_wastedInAll ∈ TB := qm 515 (by decide +kernel) rfl
theorem q_481 : Cond.selects RX4 yX4_wastedInAll yX4_wastedInAll ∈ TB := qm 516 (by decide +kernel) rfl
set_option maxRecDepth 100000 in
theorem q_482 : Cond.code yX4_wastedInAll cX4_wastedInAll 4 (some .int) ∈ TB := qm 517 rfl rfl
theorem q_483 : Cond.methodLink RX4 102 yX4_wasted ∈ TB := qm 518 (by decide +kernel) rfl
theorem q_484 : Cond.methodLink RX6 215 yX4_won ∈ TB := qm 519 (by decide +kernel) rfl
theorem q_485 : Cond.methodLink RL 103 yX6_fairness ∈ TB := qm 520 (by decide +kernel) rfl
theorem q_486 : Cond.instanceMethod yX6_fairness ∈ TB := qm 521 (by decide +kernel) rfl
theorem q_487 : Cond.selects RX6 yX6_fairness yX6_fairness ∈ TB := qm 522 (by decide +kernel) rfl
set_option maxRecDepth 100000 in
theorem q_488 : Cond.code yX6_fairness cX6_fairness 3 (some .int) ∈ TB := qm 523 rfl rfl
theorem q_489 : Cond.constant RX6 218 100000 ∈ TB := qm 524 (by decide +kernel) rfl
theorem q_490 : Cond.methodLink RL 107 yX6_count ∈ TB := qm 525 (by decide +kernel) rfl
theorem q_491 : Cond.instanceMethod yX6_count ∈ TB := qm 526 (by decide +kernel) rfl
theorem q_492 : Cond.selects RX6 yX6_count yX6_count ∈ TB := qm 527 (by decide +kernel) rfl
set_option maxRecDepth 100000 in
theorem q_493 : Cond.code yX6_count cX6_count 2 (some .int) ∈ TB := qm 528 rfl rfl
theorem q_494 : Cond.methodLink RX6 224 yX4_openWithoutPart ∈ TB := qm 529 (by decide +kernel) rfl
theorem q_495 : Cond.instanceMethod yX4_openWithoutPart ∈ TB := qm 530 (by decide +kernel) rfl
theorem q_496 : Cond.selects RX4 yX4_openWithoutPart yX4_openWithoutPart ∈ TB := qm 531 (by decide +kernel) rfl
set_option maxRecDepth 100000 in
theorem q_497 : Cond.code yX4_openWithoutPart cX4_openWithoutPart 3 (some .int) ∈ TB := qm 532 rfl rfl
theorem q_498 : Cond.methodLink RX4 67 yX4_isOpen ∈ TB := qm 533 (by decide +kernel) rfl
theorem q_499 : Cond.methodLink RX6 227 yX4_bordersOfAll ∈ TB := qm 534 (by decide +kernel) rfl
theorem q_500 : Cond.instanceMethod yX4_bordersOfAll ∈ TB := qm 535 (by decide +kernel) rfl
theorem q_501 : Cond.selects RX4 yX4_bordersOfAll yX4_bordersOfAll ∈ TB := qm 536 (by decide +kernel) rfl
set_option maxRecDepth 100000 in
theorem q_502 : Cond.code yX4_bordersOfAll cX4_bordersOfAll 3 (some .int) ∈ TB := qm 537 rfl rfl
theorem q_503 : Cond.methodLink RX4 106 yX0_borders ∈ TB := qm 538 (by decide +kernel) rfl
theorem q_504 : Cond.classLink RL 10 RX7 ∈ TB := qm 539 (by decide +kernel) rfl
theorem q_505 : Cond.instantiable RX7 11 ∈ TB := qm 540 (by decide +kernel) rfl
theorem q_506 : Cond.methodLink RL 12 yX7_init ∈ TB := qm 541 (by decide +kernel) rfl
theorem q_507 : Cond.instanceMethod yX7_init ∈ TB := qm 542 (by decide +kernel) rfl
set_option maxRecDepth 100000 in
theorem q_508 : Cond.code yX7_init cX7_init 1 none ∈ TB := qm 543 rfl rfl
theorem q_509 : Cond.methodLink RX7 1 objectInit ∈ TB := qm 544 (by decide +kernel) rfl
theorem q_510 : Cond.methodLink RX7 33 yX7_clear ∈ TB := qm 545 (by decide +kernel) rfl
theorem q_512 : Cond.instanceMethod yX7_clear ∈ TB := qm 547 (by decide +kernel) rfl
set_option maxRecDepth 100000 in
theorem q_513 : Cond.code yX7_clear cX7_clear 2 none ∈ TB := qm 548 rfl rfl
theorem q_514 : Cond.fieldLink RX7 7 "FrozenDistrictsModel" "row" "[I" ∈ TB := qm 549 (by decide +kernel) rfl
theorem q_515 : Cond.fieldLink RX7 13 "FrozenDistrictsModel" "past" "[I" ∈ TB := qm 550 (by decide +kernel) rfl
theorem q_516 : Cond.fieldLink RX7 16 "FrozenDistrictsModel" "aside" "[I" ∈ TB := qm 551 (by decide +kernel) rfl
theorem q_517 : Cond.fieldLink RX7 40 "FrozenDistrictsModel" "states" "I" ∈ TB := qm 552 (by decide +kernel) rfl
theorem q_518 : Cond.fieldLink RX7 44 "FrozenDistrictsModel" "isAside" "Z" ∈ TB := qm 553 (by decide +kernel) rfl
theorem q_519 : Cond.fieldLink RX7 19 "FrozenDistrictsModel" "text" "[C" ∈ TB := qm 554 (by decide +kernel) rfl
theorem q_520 : Cond.fieldLink RX7 101 "FrozenDistrictsModel" "length" "I" ∈ TB := qm 555 (by decide +kernel) rfl
theorem q_521 : Cond.fieldLink RX7 104 "FrozenDistrictsModel" "at" "I" ∈ TB := qm 556 (by decide +kernel) rfl
theorem q_522 : Cond.fieldLink RX7 23 "FrozenDistrictsModel" "read" "[I" ∈ TB := qm 557 (by decide +kernel) rfl
theorem q_523 : Cond.fieldLink RX7 26 "FrozenDistrictsModel" "tried" "[I" ∈ TB := qm 558 (by decide +kernel) rfl
theorem q_524 : Cond.fieldLink RX7 29 "FrozenDistrictsModel" "seen" "[Z" ∈ TB := qm 559 (by decide +kernel) rfl
theorem q_548 : Cond.arrayClass .boolean ∈ TB := qm 583 (by decide +kernel) rfl
theorem q_549 : Cond.methodLink RL 70 yX7_undo ∈ TB := qm 584 (by decide +kernel) rfl
theorem q_550 : Cond.instanceMethod yX7_undo ∈ TB := qm 585 (by decide +kernel) rfl
theorem q_551 : Cond.selects RX7 yX7_undo yX7_undo ∈ TB := qm 586 (by decide +kernel) rfl
set_option maxRecDepth 100000 in
theorem q_552 : Cond.code yX7_undo cX7_undo 2 (some .int) ∈ TB := qm 587 rfl rfl
theorem q_553 : Cond.methodLink RL 74 yX7_keep ∈ TB := qm 588 (by decide +kernel) rfl
theorem q_554 : Cond.instanceMethod yX7_keep ∈ TB := qm 589 (by decide +kernel) rfl
theorem q_555 : Cond.selects RX7 yX7_keep yX7_keep ∈ TB := qm 590 (by decide +kernel) rfl
set_option maxRecDepth 100000 in
theorem q_556 : Cond.code yX7_keep cX7_keep 2 (some .int) ∈ TB := qm 591 rfl rfl
theorem q_557 : Cond.methodLink RL 78 yX7_restore ∈ TB := qm 592 (by decide +kernel) rfl
theorem q_558 : Cond.instanceMethod yX7_restore ∈ TB := qm 593 (by decide +kernel) rfl
theorem q_559 : Cond.selects RX7 yX7_restore yX7_restore ∈ TB := qm 594 (by decide +kernel) rfl
set_option maxRecDepth 100000 in
theorem q_560 : Cond.code yX7_restore cX7_restore 2 (some .int) ∈ TB := qm 595 rfl rfl
theorem q_561 : Cond.methodLink RX7 48 yX7_record ∈ TB := qm 596 (by decide +kernel) rfl
theorem q_563 : Cond.instanceMethod yX7_record ∈ TB := qm 598 (by decide +kernel) rfl
set_option maxRecDepth 100000 in
theorem q_564 : Cond.code yX7_record cX7_record 2 none ∈ TB := qm 599 rfl rfl
theorem q_565 : Cond.methodLink RL 17 yX7_setVotes ∈ TB := qm 600 (by decide +kernel) rfl
theorem q_566 : Cond.instanceMethod yX7_setVotes ∈ TB := qm 601 (by decide +kernel) rfl
theorem q_567 : Cond.selects RX7 yX7_setVotes yX7_setVotes ∈ TB := qm 602 (by decide +kernel) rfl
set_option maxRecDepth 100000 in
theorem q_568 : Cond.code yX7_setVotes cX7_setVotes 5 (some .int) ∈ TB := qm 603 rfl rfl
theorem q_569 : Cond.methodLink RX7 51 yX7_noCell ∈ TB := qm 604 (by decide +kernel) rfl
theorem q_570 : Cond.static yX7_noCell ∈ TB := qm 605 (by decide +kernel) rfl
set_option maxRecDepth 100000 in
theorem q_571 : Cond.code yX7_noCell cX7_noCell 1 (some .boolean) ∈ TB := qm 606 rfl rfl
theorem q_572 : Cond.methodLink RX7 36 yX7_in ∈ TB := qm 607 (by decide +kernel) rfl
theorem q_573 : Cond.static yX7_in ∈ TB := qm 608 (by decide +kernel) rfl
set_option maxRecDepth 100000 in
theorem q_574 : Cond.code yX7_in cX7_in 3 (some .boolean) ∈ TB := qm 609 rfl rfl
theorem q_575 : Cond.methodLink RL 22 yX7_begin ∈ TB := qm 610 (by decide +kernel) rfl
theorem q_576 : Cond.instanceMethod yX7_begin ∈ TB := qm 611 (by decide +kernel) rfl
theorem q_577 : Cond.selects RX7 yX7_begin yX7_begin ∈ TB := qm 612 (by decide +kernel) rfl
set_option maxRecDepth 100000 in
theorem q_578 : Cond.code yX7_begin cX7_begin 2 (some .int) ∈ TB := qm 613 rfl rfl
theorem q_579 : Cond.methodLink RX7 55 yX7_size ∈ TB := qm 614 (by decide +kernel) rfl
theorem q_581 : Cond.instanceMethod yX7_size ∈ TB := qm 616 (by decide +kernel) rfl
set_option maxRecDepth 100000 in
theorem q_582 : Cond.code yX7_size cX7_size 1 (some .int) ∈ TB := qm 617 rfl rfl
theorem q_583 : Cond.methodLink RL 27 yX7_setTarget ∈ TB := qm 618 (by decide +kernel) rfl
theorem q_584 : Cond.instanceMethod yX7_setTarget ∈ TB := qm 619 (by decide +kernel) rfl
theorem q_585 : Cond.selects RX7 yX7_setTarget yX7_setTarget ∈ TB := qm 620 (by decide +kernel) rfl
set_option maxRecDepth 100000 in
theorem q_586 : Cond.code yX7_setTarget cX7_setTarget 4 (some .int) ∈ TB := qm 621 rfl rfl
theorem q_587 : Cond.methodLink RL 31 yX7_draft ∈ TB := qm 622 (by decide +kernel) rfl
theorem q_588 : Cond.instanceMethod yX7_draft ∈ TB := qm 623 (by decide +kernel) rfl
theorem q_589 : Cond.selects RX7 yX7_draft yX7_draft ∈ TB := qm 624 (by decide +kernel) rfl
set_option maxRecDepth 100000 in
theorem q_590 : Cond.code yX7_draft cX7_draft 4 (some .int) ∈ TB := qm 625 rfl rfl
theorem q_591 : Cond.methodLink RX7 74 yX7_isOpen ∈ TB := qm 626 (by decide +kernel) rfl
theorem q_593 : Cond.instanceMethod yX7_isOpen ∈ TB := qm 628 (by decide +kernel) rfl
set_option maxRecDepth 100000 in
theorem q_594 : Cond.code yX7_isOpen cX7_isOpen 2 (some .boolean) ∈ TB := qm 629 rfl rfl
theorem q_595 : Cond.methodLink RX7 87 yX7_noDraft ∈ TB := qm 630 (by decide +kernel) rfl
theorem q_597 : Cond.instanceMethod yX7_noDraft ∈ TB := qm 632 (by decide +kernel) rfl
set_option maxRecDepth 100000 in
theorem q_598 : Cond.code yX7_noDraft cX7_noDraft 1 (some .boolean) ∈ TB := qm 633 rfl rfl
theorem q_599 : Cond.methodLink RX7 77 yX7_left ∈ TB := qm 634 (by decide +kernel) rfl
theorem q_601 : Cond.instanceMethod yX7_left ∈ TB := qm 636 (by decide +kernel) rfl
set_option maxRecDepth 100000 in
theorem q_602 : Cond.code yX7_left cX7_left 1 (some .int) ∈ TB := qm 637 rfl rfl
theorem q_603 : Cond.methodLink RL 35 yX7_trade ∈ TB := qm 638 (by decide +kernel) rfl
theorem q_604 : Cond.instanceMethod yX7_trade ∈ TB := qm 639 (by decide +kernel) rfl
theorem q_605 : Cond.selects RX7 yX7_trade yX7_trade ∈ TB := qm 640 (by decide +kernel) rfl
set_option maxRecDepth 100000 in
theorem q_606 : Cond.code yX7_trade cX7_trade 5 (some .int) ∈ TB := qm 641 rfl rfl
theorem q_607 : Cond.methodLink RX7 91 yX7_reason ∈ TB := qm 642 (by decide +kernel) rfl
theorem q_609 : Cond.instanceMethod yX7_reason ∈ TB := qm 644 (by decide +kernel) rfl
set_option maxRecDepth 100000 in
theorem q_610 : Cond.code yX7_reason cX7_reason 2 (some .int) ∈ TB := qm 645 rfl rfl
theorem q_611 : Cond.methodLink RX7 80 yX7_cells ∈ TB := qm 646 (by decide +kernel) rfl
theorem q_613 : Cond.instanceMethod yX7_cells ∈ TB := qm 648 (by decide +kernel) rfl
set_option maxRecDepth 100000 in
theorem q_614 : Cond.code yX7_cells cX7_cells 5 (some .int) ∈ TB := qm 649 rfl rfl
theorem q_615 : Cond.methodLink RX7 83 yX7_pieces ∈ TB := qm 650 (by decide +kernel) rfl
theorem q_617 : Cond.instanceMethod yX7_pieces ∈ TB := qm 652 (by decide +kernel) rfl
set_option maxRecDepth 100000 in
theorem q_618 : Cond.code yX7_pieces cX7_pieces 4 (some .int) ∈ TB := qm 653 rfl rfl
theorem q_619 : Cond.methodLink RX7 70 yX7_spread ∈ TB := qm 654 (by decide +kernel) rfl
theorem q_621 : Cond.instanceMethod yX7_spread ∈ TB := qm 656 (by decide +kernel) rfl
set_option maxRecDepth 100000 in
theorem q_622 : Cond.code yX7_spread cX7_spread 6 none ∈ TB := qm 657 rfl rfl
theorem q_623 : Cond.methodLink RX7 67 yX7_beside ∈ TB := qm 658 (by decide +kernel) rfl
theorem q_624 : Cond.static yX7_beside ∈ TB := qm 659 (by decide +kernel) rfl
set_option maxRecDepth 100000 in
theorem q_625 : Cond.code yX7_beside cX7_beside 4 (some .int) ∈ TB := qm 660 rfl rfl
theorem q_626 : Cond.methodLink RL 40 yX7_snake ∈ TB := qm 661 (by decide +kernel) rfl
theorem q_627 : Cond.instanceMethod yX7_snake ∈ TB := qm 662 (by decide +kernel) rfl
theorem q_628 : Cond.selects RX7 yX7_snake yX7_snake ∈ TB := qm 663 (by decide +kernel) rfl
set_option maxRecDepth 100000 in
theorem q_629 : Cond.code yX7_snake cX7_snake 7 (some .int) ∈ TB := qm 664 rfl rfl
theorem q_630 : Cond.methodLink RX7 94 yX7_take ∈ TB := qm 665 (by decide +kernel) rfl
theorem q_632 : Cond.instanceMethod yX7_take ∈ TB := qm 667 (by decide +kernel) rfl
set_option maxRecDepth 100000 in
theorem q_633 : Cond.code yX7_take cX7_take 3 (some .boolean) ∈ TB := qm 668 rfl rfl
theorem q_634 : Cond.methodLink RL 45 yX7_adopt ∈ TB := qm 669 (by decide +kernel) rfl
theorem q_635 : Cond.instanceMethod yX7_adopt ∈ TB := qm 670 (by decide +kernel) rfl
theorem q_636 : Cond.selects RX7 yX7_adopt yX7_adopt ∈ TB := qm 671 (by decide +kernel) rfl
set_option maxRecDepth 100000 in
theorem q_637 : Cond.code yX7_adopt cX7_adopt 2 (some .int) ∈ TB := qm 672 rfl rfl
theorem q_638 : Cond.methodLink RL 49 yX7_propose ∈ TB := qm 673 (by decide +kernel) rfl
theorem q_639 : Cond.instanceMethod yX7_propose ∈ TB := qm 674 (by decide +kernel) rfl
theorem q_640 : Cond.selects RX7 yX7_propose yX7_propose ∈ TB := qm 675 (by decide +kernel) rfl
set_option maxRecDepth 100000 in
theorem q_641 : Cond.code yX7_propose cX7_propose 2 (some .int) ∈ TB := qm 676 rfl rfl
theorem q_642 : Cond.methodLink RL 53 yX7_freeze ∈ TB := qm 677 (by decide +kernel) rfl
theorem q_643 : Cond.instanceMethod yX7_freeze ∈ TB := qm 678 (by decide +kernel) rfl
theorem q_644 : Cond.selects RX7 yX7_freeze yX7_freeze ∈ TB := qm 679 (by decide +kernel) rfl
set_option maxRecDepth 100000 in
theorem q_645 : Cond.code yX7_freeze cX7_freeze 4 (some .int) ∈ TB := qm 680 rfl rfl
theorem q_646 : Cond.methodLink RX7 97 yX7_freezePart ∈ TB := qm 681 (by decide +kernel) rfl
theorem q_648 : Cond.instanceMethod yX7_freezePart ∈ TB := qm 683 (by decide +kernel) rfl
set_option maxRecDepth 100000 in
theorem q_649 : Cond.code yX7_freezePart cX7_freezePart 5 none ∈ TB := qm 684 rfl rfl
theorem q_650 : Cond.methodLink RL 58 yX7_type ∈ TB := qm 685 (by decide +kernel) rfl
theorem q_651 : Cond.instanceMethod yX7_type ∈ TB := qm 686 (by decide +kernel) rfl
theorem q_652 : Cond.selects RX7 yX7_type yX7_type ∈ TB := qm 687 (by decide +kernel) rfl
set_option maxRecDepth 100000 in
theorem q_653 : Cond.code yX7_type cX7_type 2 (some .int) ∈ TB := qm 688 rfl rfl
theorem q_654 : Cond.methodLink RL 62 yX7_clearText ∈ TB := qm 689 (by decide +kernel) rfl
theorem q_655 : Cond.instanceMethod yX7_clearText ∈ TB := qm 690 (by decide +kernel) rfl
theorem q_656 : Cond.selects RX7 yX7_clearText yX7_clearText ∈ TB := qm 691 (by decide +kernel) rfl
set_option maxRecDepth 100000 in
theorem q_657 : Cond.code yX7_clearText cX7_clearText 2 (some .int) ∈ TB := qm 692 rfl rfl
theorem q_658 : Cond.methodLink RL 66 yX7_readVotes ∈ TB := qm 693 (by decide +kernel) rfl
theorem q_659 : Cond.instanceMethod yX7_readVotes ∈ TB := qm 694 (by decide +kernel) rfl
theorem q_660 : Cond.selects RX7 yX7_readVotes yX7_readVotes ∈ TB := qm 695 (by decide +kernel) rfl
set_option maxRecDepth 100000 in
theorem q_661 : Cond.code yX7_readVotes cX7_readVotes 4 (some .int) ∈ TB := qm 696 rfl rfl
theorem q_662 : Cond.methodLink RX7 111 yX7_readPairs ∈ TB := qm 697 (by decide +kernel) rfl
theorem q_664 : Cond.instanceMethod yX7_readPairs ∈ TB := qm 699 (by decide +kernel) rfl
set_option maxRecDepth 100000 in
theorem q_665 : Cond.code yX7_readPairs cX7_readPairs 4 (some .int) ∈ TB := qm 700 rfl rfl
theorem q_666 : Cond.methodLink RX7 107 yX7_sees ∈ TB := qm 701 (by decide +kernel) rfl
theorem q_668 : Cond.instanceMethod yX7_sees ∈ TB := qm 703 (by decide +kernel) rfl
set_option maxRecDepth 100000 in
theorem q_669 : Cond.code yX7_sees cX7_sees 3 (some .boolean) ∈ TB := qm 704 rfl rfl
theorem q_670 : Cond.methodLink RL 82 yX7_cell ∈ TB := qm 705 (by decide +kernel) rfl
theorem q_671 : Cond.instanceMethod yX7_cell ∈ TB := qm 706 (by decide +kernel) rfl
theorem q_672 : Cond.selects RX7 yX7_cell yX7_cell ∈ TB := qm 707 (by decide +kernel) rfl
set_option maxRecDepth 100000 in
theorem q_673 : Cond.code yX7_cell cX7_cell 3 (some .int) ∈ TB := qm 708 rfl rfl
theorem q_674 : Cond.methodLink RX7 114 yX7_orNone ∈ TB := qm 709 (by decide +kernel) rfl
theorem q_675 : Cond.static yX7_orNone ∈ TB := qm 710 (by decide +kernel) rfl
set_option maxRecDepth 100000 in
theorem q_676 : Cond.code yX7_orNone cX7_orNone 1 (some .int) ∈ TB := qm 711 rfl rfl
theorem q_677 : Cond.methodLink RX7 117 yX7_alikeBeside ∈ TB := qm 712 (by decide +kernel) rfl
theorem q_679 : Cond.instanceMethod yX7_alikeBeside ∈ TB := qm 714 (by decide +kernel) rfl
set_option maxRecDepth 100000 in
theorem q_680 : Cond.code yX7_alikeBeside cX7_alikeBeside 7 (some .int) ∈ TB := qm 715 rfl rfl
theorem q_681 : Cond.methodLink RL 86 yX7_part ∈ TB := qm 716 (by decide +kernel) rfl
theorem q_682 : Cond.instanceMethod yX7_part ∈ TB := qm 717 (by decide +kernel) rfl
theorem q_683 : Cond.selects RX7 yX7_part yX7_part ∈ TB := qm 718 (by decide +kernel) rfl
set_option maxRecDepth 100000 in
theorem q_684 : Cond.code yX7_part cX7_part 3 (some .int) ∈ TB := qm 719 rfl rfl
theorem q_685 : Cond.methodLink RX7 120 yX7_borders ∈ TB := qm 720 (by decide +kernel) rfl
theorem q_687 : Cond.instanceMethod yX7_borders ∈ TB := qm 722 (by decide +kernel) rfl
set_option maxRecDepth 100000 in
theorem q_688 : Cond.code yX7_borders cX7_borders 7 (some .int) ∈ TB := qm 723 rfl rfl
theorem q_689 : Cond.methodLink RX7 63 yX7_margin ∈ TB := qm 724 (by decide +kernel) rfl
theorem q_691 : Cond.instanceMethod yX7_margin ∈ TB := qm 726 (by decide +kernel) rfl
set_option maxRecDepth 100000 in
theorem q_692 : Cond.code yX7_margin cX7_margin 3 (some .int) ∈ TB := qm 727 rfl rfl
theorem q_693 : Cond.methodLink RX7 59 yX7_votes ∈ TB := qm 728 (by decide +kernel) rfl
theorem q_695 : Cond.instanceMethod yX7_votes ∈ TB := qm 730 (by decide +kernel) rfl
set_option maxRecDepth 100000 in
theorem q_696 : Cond.code yX7_votes cX7_votes 6 (some .int) ∈ TB := qm 731 rfl rfl
theorem q_697 : Cond.methodLink RX7 123 yX7_winner ∈ TB := qm 732 (by decide +kernel) rfl
theorem q_699 : Cond.instanceMethod yX7_winner ∈ TB := qm 734 (by decide +kernel) rfl
set_option maxRecDepth 100000 in
theorem q_700 : Cond.code yX7_winner cX7_winner 4 (some .int) ∈ TB := qm 735 rfl rfl
theorem q_701 : Cond.methodLink RX7 126 yX7_lowest ∈ TB := qm 736 (by decide +kernel) rfl
theorem q_703 : Cond.instanceMethod yX7_lowest ∈ TB := qm 738 (by decide +kernel) rfl
set_option maxRecDepth 100000 in
theorem q_704 : Cond.code yX7_lowest cX7_lowest 4 (some .int) ∈ TB := qm 739 rfl rfl
theorem q_705 : Cond.methodLink RL 90 yX7_district ∈ TB := qm 740 (by decide +kernel) rfl
theorem q_706 : Cond.instanceMethod yX7_district ∈ TB := qm 741 (by decide +kernel) rfl
theorem q_707 : Cond.selects RX7 yX7_district yX7_district ∈ TB := qm 742 (by decide +kernel) rfl
set_option maxRecDepth 100000 in
theorem q_708 : Cond.code yX7_district cX7_district 3 (some .int) ∈ TB := qm 743 rfl rfl
theorem q_709 : Cond.methodLink RX7 129 yX7_wasted ∈ TB := qm 744 (by decide +kernel) rfl
theorem q_711 : Cond.instanceMethod yX7_wasted ∈ TB := qm 746 (by decide +kernel) rfl
set_option maxRecDepth 100000 in
theorem q_712 : Cond.code yX7_wasted cX7_wasted 5 (some .int) ∈ TB := qm 747 rfl rfl
theorem q_713 : Cond.methodLink RL 94 yX7_why ∈ TB := qm 748 (by decide +kernel) rfl
theorem q_714 : Cond.instanceMethod yX7_why ∈ TB := qm 749 (by decide +kernel) rfl
theorem q_715 : Cond.selects RX7 yX7_why yX7_why ∈ TB := qm 750 (by decide +kernel) rfl
set_option maxRecDepth 100000 in
theorem q_716 : Cond.code yX7_why cX7_why 3 (some .int) ∈ TB := qm 751 rfl rfl
theorem q_717 : Cond.methodLink RL 98 yX7_advice ∈ TB := qm 752 (by decide +kernel) rfl
theorem q_718 : Cond.instanceMethod yX7_advice ∈ TB := qm 753 (by decide +kernel) rfl
theorem q_719 : Cond.selects RX7 yX7_advice yX7_advice ∈ TB := qm 754 (by decide +kernel) rfl
set_option maxRecDepth 100000 in
theorem q_720 : Cond.code yX7_advice cX7_advice 8 (some .int) ∈ TB := qm 755 rfl rfl
theorem q_721 : Cond.methodLink RL 102 yX7_party ∈ TB := qm 756 (by decide +kernel) rfl
theorem q_722 : Cond.instanceMethod yX7_party ∈ TB := qm 757 (by decide +kernel) rfl
theorem q_723 : Cond.selects RX7 yX7_party yX7_party ∈ TB := qm 758 (by decide +kernel) rfl
set_option maxRecDepth 100000 in
theorem q_724 : Cond.code yX7_party cX7_party 5 (some .int) ∈ TB := qm 759 rfl rfl
theorem q_725 : Cond.methodLink RX7 132 yX7_seats ∈ TB := qm 760 (by decide +kernel) rfl
theorem q_727 : Cond.instanceMethod yX7_seats ∈ TB := qm 762 (by decide +kernel) rfl
set_option maxRecDepth 100000 in
theorem q_728 : Cond.code yX7_seats cX7_seats 4 (some .int) ∈ TB := qm 763 rfl rfl
theorem q_729 : Cond.methodLink RX7 135 yX7_votesOnMap ∈ TB := qm 764 (by decide +kernel) rfl
theorem q_731 : Cond.instanceMethod yX7_votesOnMap ∈ TB := qm 766 (by decide +kernel) rfl
set_option maxRecDepth 100000 in
theorem q_732 : Cond.code yX7_votesOnMap cX7_votesOnMap 4 (some .int) ∈ TB := qm 767 rfl rfl
theorem q_733 : Cond.methodLink RL 106 yX7_fairness ∈ TB := qm 768 (by decide +kernel) rfl
theorem q_734 : Cond.instanceMethod yX7_fairness ∈ TB := qm 769 (by decide +kernel) rfl
theorem q_735 : Cond.selects RX7 yX7_fairness yX7_fairness ∈ TB := qm 770 (by decide +kernel) rfl
set_option maxRecDepth 100000 in
theorem q_736 : Cond.code yX7_fairness cX7_fairness 2 (some .int) ∈ TB := qm 771 rfl rfl
theorem q_737 : Cond.constant RX7 138 100000 ∈ TB := qm 772 (by decide +kernel) rfl
theorem q_738 : Cond.methodLink RL 110 yX7_count ∈ TB := qm 773 (by decide +kernel) rfl
theorem q_739 : Cond.instanceMethod yX7_count ∈ TB := qm 774 (by decide +kernel) rfl
theorem q_740 : Cond.selects RX7 yX7_count yX7_count ∈ TB := qm 775 (by decide +kernel) rfl
set_option maxRecDepth 100000 in
theorem q_741 : Cond.code yX7_count cX7_count 2 (some .int) ∈ TB := qm 776 rfl rfl
theorem q_742 : Cond.methodLink RX7 139 yX7_withoutPart ∈ TB := qm 777 (by decide +kernel) rfl
theorem q_744 : Cond.instanceMethod yX7_withoutPart ∈ TB := qm 779 (by decide +kernel) rfl
set_option maxRecDepth 100000 in
theorem q_745 : Cond.code yX7_withoutPart cX7_withoutPart 3 (some .int) ∈ TB := qm 780 rfl rfl
theorem q_746 : Cond.methodLink RX7 142 yX7_allBorders ∈ TB := qm 781 (by decide +kernel) rfl
theorem q_748 : Cond.instanceMethod yX7_allBorders ∈ TB := qm 783 (by decide +kernel) rfl
set_option maxRecDepth 100000 in
theorem q_749 : Cond.code yX7_allBorders cX7_allBorders 3 (some .int) ∈ TB := qm 784 rfl rfl
theorem iX1 : ∀ w ∈ u_ws RX1 TX1 3, w ∈ TB := tb_of (by decide +kernel)
theorem iX2 : ∀ w ∈ u_ws RX2 TX2 2, w ∈ TB := tb_of (by decide +kernel)
theorem iX3 : ∀ w ∈ u_ws RX3 TX3 1, w ∈ TB := tb_of (by decide +kernel)
theorem iX4 : ∀ w ∈ u_ws RX4 TX4 11, w ∈ TB := tb_of (by decide +kernel)
theorem iX5 : ∀ w ∈ u_ws RX5 TX5 2, w ∈ TB := tb_of (by decide +kernel)
theorem iX6 : ∀ w ∈ u_ws RX6 TX6 7, w ∈ TB := tb_of (by decide +kernel)
theorem iX7 : ∀ w ∈ u_ws RX7 TX7 11, w ∈ TB := tb_of (by decide +kernel)
abbrev vwCl : List vw_C := [(RX1, TX1, 3), (RX2, TX2, 2), (RX3, TX3, 1), (RX4, TX4, 11), (RX5, TX5, 2), (RX6, TX6, 7), (RX7, TX7, 11)]
theorem hyX6_init : yX6_init.cls ≠ "java/lang/invoke/MethodHandle" ∧ yX6_init.cls ≠ "java/lang/invoke/VarHandle" ∧ (parseMethodDescriptor yX6_init.desc).map (fun d => d.parameters.length) = some 0 := by decide +kernel
theorem hyX4_init : yX4_init.cls ≠ "java/lang/invoke/MethodHandle" ∧ yX4_init.cls ≠ "java/lang/invoke/VarHandle" ∧ (parseMethodDescriptor yX4_init.desc).map (fun d => d.parameters.length) = some 0 := by decide +kernel
theorem hyX3_init : yX3_init.cls ≠ "java/lang/invoke/MethodHandle" ∧ yX3_init.cls ≠ "java/lang/invoke/VarHandle" ∧ (parseMethodDescriptor yX3_init.desc).map (fun d => d.parameters.length) = some 2 := by decide +kernel
theorem hyX1_init : yX1_init.cls ≠ "java/lang/invoke/MethodHandle" ∧ yX1_init.cls ≠ "java/lang/invoke/VarHandle" ∧ (parseMethodDescriptor yX1_init.desc).map (fun d => d.parameters.length) = some 0 := by decide +kernel
theorem hyX5_init : yX5_init.cls ≠ "java/lang/invoke/MethodHandle" ∧ yX5_init.cls ≠ "java/lang/invoke/VarHandle" ∧ (parseMethodDescriptor yX5_init.desc).map (fun d => d.parameters.length) = some 0 := by decide +kernel
theorem hyX2_init : yX2_init.cls ≠ "java/lang/invoke/MethodHandle" ∧ yX2_init.cls ≠ "java/lang/invoke/VarHandle" ∧ (parseMethodDescriptor yX2_init.desc).map (fun d => d.parameters.length) = some 0 := by decide +kernel
theorem hyX6_setVotes : yX6_setVotes.cls ≠ "java/lang/invoke/MethodHandle" ∧ yX6_setVotes.cls ≠ "java/lang/invoke/VarHandle" ∧ (parseMethodDescriptor yX6_setVotes.desc).map (fun d => d.parameters.length) = some 3 := by decide +kernel
theorem hyX6_isCell : yX6_isCell.cls ≠ "java/lang/invoke/MethodHandle" ∧ yX6_isCell.cls ≠ "java/lang/invoke/VarHandle" ∧ (parseMethodDescriptor yX6_isCell.desc).map (fun d => d.parameters.length) = some 1 := by decide +kernel
theorem hyX6_isFromTo : yX6_isFromTo.cls ≠ "java/lang/invoke/MethodHandle" ∧ yX6_isFromTo.cls ≠ "java/lang/invoke/VarHandle" ∧ (parseMethodDescriptor yX6_isFromTo.desc).map (fun d => d.parameters.length) = some 3 := by decide +kernel
theorem hyX3_at : yX3_at.cls ≠ "java/lang/invoke/MethodHandle" ∧ yX3_at.cls ≠ "java/lang/invoke/VarHandle" ∧ (parseMethodDescriptor yX3_at.desc).map (fun d => d.parameters.length) = some 1 := by decide +kernel
theorem hyX1_record : yX1_record.cls ≠ "java/lang/invoke/MethodHandle" ∧ yX1_record.cls ≠ "java/lang/invoke/VarHandle" ∧ (parseMethodDescriptor yX1_record.desc).map (fun d => d.parameters.length) = some 1 := by decide +kernel
theorem hyX1_slotAt : yX1_slotAt.cls ≠ "java/lang/invoke/MethodHandle" ∧ yX1_slotAt.cls ≠ "java/lang/invoke/VarHandle" ∧ (parseMethodDescriptor yX1_slotAt.desc).map (fun d => d.parameters.length) = some 1 := by decide +kernel
theorem hyJ9_floorMod_7cf53 : yJ9_floorMod_7cf53.cls ≠ "java/lang/invoke/MethodHandle" ∧ yJ9_floorMod_7cf53.cls ≠ "java/lang/invoke/VarHandle" ∧ (parseMethodDescriptor yJ9_floorMod_7cf53.desc).map (fun d => d.parameters.length) = some 2 := by decide +kernel
theorem hyX4_copy : yX4_copy.cls ≠ "java/lang/invoke/MethodHandle" ∧ yX4_copy.cls ≠ "java/lang/invoke/VarHandle" ∧ (parseMethodDescriptor yX4_copy.desc).map (fun d => d.parameters.length) = some 1 := by decide +kernel
theorem hyX3_copy : yX3_copy.cls ≠ "java/lang/invoke/MethodHandle" ∧ yX3_copy.cls ≠ "java/lang/invoke/VarHandle" ∧ (parseMethodDescriptor yX3_copy.desc).map (fun d => d.parameters.length) = some 1 := by decide +kernel
theorem hyX3_put : yX3_put.cls ≠ "java/lang/invoke/MethodHandle" ∧ yX3_put.cls ≠ "java/lang/invoke/VarHandle" ∧ (parseMethodDescriptor yX3_put.desc).map (fun d => d.parameters.length) = some 2 := by decide +kernel
theorem hyX6_begin : yX6_begin.cls ≠ "java/lang/invoke/MethodHandle" ∧ yX6_begin.cls ≠ "java/lang/invoke/VarHandle" ∧ (parseMethodDescriptor yX6_begin.desc).map (fun d => d.parameters.length) = some 1 := by decide +kernel
theorem hyX6_dividesTheMap : yX6_dividesTheMap.cls ≠ "java/lang/invoke/MethodHandle" ∧ yX6_dividesTheMap.cls ≠ "java/lang/invoke/VarHandle" ∧ (parseMethodDescriptor yX6_dividesTheMap.desc).map (fun d => d.parameters.length) = some 1 := by decide +kernel
theorem hyX4_startAnew : yX4_startAnew.cls ≠ "java/lang/invoke/MethodHandle" ∧ yX4_startAnew.cls ≠ "java/lang/invoke/VarHandle" ∧ (parseMethodDescriptor yX4_startAnew.desc).map (fun d => d.parameters.length) = some 1 := by decide +kernel
theorem hyX3_fill : yX3_fill.cls ≠ "java/lang/invoke/MethodHandle" ∧ yX3_fill.cls ≠ "java/lang/invoke/VarHandle" ∧ (parseMethodDescriptor yX3_fill.desc).map (fun d => d.parameters.length) = some 1 := by decide +kernel
theorem hyX4_size : yX4_size.cls ≠ "java/lang/invoke/MethodHandle" ∧ yX4_size.cls ≠ "java/lang/invoke/VarHandle" ∧ (parseMethodDescriptor yX4_size.desc).map (fun d => d.parameters.length) = some 0 := by decide +kernel
theorem hyX6_setTarget : yX6_setTarget.cls ≠ "java/lang/invoke/MethodHandle" ∧ yX6_setTarget.cls ≠ "java/lang/invoke/VarHandle" ∧ (parseMethodDescriptor yX6_setTarget.desc).map (fun d => d.parameters.length) = some 2 := by decide +kernel
theorem hyX6_isParty : yX6_isParty.cls ≠ "java/lang/invoke/MethodHandle" ∧ yX6_isParty.cls ≠ "java/lang/invoke/VarHandle" ∧ (parseMethodDescriptor yX6_isParty.desc).map (fun d => d.parameters.length) = some 1 := by decide +kernel
theorem hyX6_draft : yX6_draft.cls ≠ "java/lang/invoke/MethodHandle" ∧ yX6_draft.cls ≠ "java/lang/invoke/VarHandle" ∧ (parseMethodDescriptor yX6_draft.desc).map (fun d => d.parameters.length) = some 2 := by decide +kernel
theorem hyX4_isOpen : yX4_isOpen.cls ≠ "java/lang/invoke/MethodHandle" ∧ yX4_isOpen.cls ≠ "java/lang/invoke/VarHandle" ∧ (parseMethodDescriptor yX4_isOpen.desc).map (fun d => d.parameters.length) = some 1 := by decide +kernel
theorem hyX4_isPart : yX4_isPart.cls ≠ "java/lang/invoke/MethodHandle" ∧ yX4_isPart.cls ≠ "java/lang/invoke/VarHandle" ∧ (parseMethodDescriptor yX4_isPart.desc).map (fun d => d.parameters.length) = some 1 := by decide +kernel
theorem hyX4_left : yX4_left.cls ≠ "java/lang/invoke/MethodHandle" ∧ yX4_left.cls ≠ "java/lang/invoke/VarHandle" ∧ (parseMethodDescriptor yX4_left.desc).map (fun d => d.parameters.length) = some 0 := by decide +kernel
theorem hyX6_trade : yX6_trade.cls ≠ "java/lang/invoke/MethodHandle" ∧ yX6_trade.cls ≠ "java/lang/invoke/VarHandle" ∧ (parseMethodDescriptor yX6_trade.desc).map (fun d => d.parameters.length) = some 2 := by decide +kernel
theorem hyX6_oneIfCut : yX6_oneIfCut.cls ≠ "java/lang/invoke/MethodHandle" ∧ yX6_oneIfCut.cls ≠ "java/lang/invoke/VarHandle" ∧ (parseMethodDescriptor yX6_oneIfCut.desc).map (fun d => d.parameters.length) = some 0 := by decide +kernel
theorem hyX2_reason : yX2_reason.cls ≠ "java/lang/invoke/MethodHandle" ∧ yX2_reason.cls ≠ "java/lang/invoke/VarHandle" ∧ (parseMethodDescriptor yX2_reason.desc).map (fun d => d.parameters.length) = some 1 := by decide +kernel
theorem hyX2_withoutPart : yX2_withoutPart.cls ≠ "java/lang/invoke/MethodHandle" ∧ yX2_withoutPart.cls ≠ "java/lang/invoke/VarHandle" ∧ (parseMethodDescriptor yX2_withoutPart.desc).map (fun d => d.parameters.length) = some 1 := by decide +kernel
theorem hyX2_ofOtherSize : yX2_ofOtherSize.cls ≠ "java/lang/invoke/MethodHandle" ∧ yX2_ofOtherSize.cls ≠ "java/lang/invoke/VarHandle" ∧ (parseMethodDescriptor yX2_ofOtherSize.desc).map (fun d => d.parameters.length) = some 1 := by decide +kernel
theorem hyX0_size : yX0_size.cls ≠ "java/lang/invoke/MethodHandle" ∧ yX0_size.cls ≠ "java/lang/invoke/VarHandle" ∧ (parseMethodDescriptor yX0_size.desc).map (fun d => d.parameters.length) = some 2 := by decide +kernel
theorem hyX2_notConnected : yX2_notConnected.cls ≠ "java/lang/invoke/MethodHandle" ∧ yX2_notConnected.cls ≠ "java/lang/invoke/VarHandle" ∧ (parseMethodDescriptor yX2_notConnected.desc).map (fun d => d.parameters.length) = some 1 := by decide +kernel
theorem hyX2_pieces : yX2_pieces.cls ≠ "java/lang/invoke/MethodHandle" ∧ yX2_pieces.cls ≠ "java/lang/invoke/VarHandle" ∧ (parseMethodDescriptor yX2_pieces.desc).map (fun d => d.parameters.length) = some 2 := by decide +kernel
theorem hyX2_reachFrom : yX2_reachFrom.cls ≠ "java/lang/invoke/MethodHandle" ∧ yX2_reachFrom.cls ≠ "java/lang/invoke/VarHandle" ∧ (parseMethodDescriptor yX2_reachFrom.desc).map (fun d => d.parameters.length) = some 3 := by decide +kernel
theorem hyX0_behind : yX0_behind.cls ≠ "java/lang/invoke/MethodHandle" ∧ yX0_behind.cls ≠ "java/lang/invoke/VarHandle" ∧ (parseMethodDescriptor yX0_behind.desc).map (fun d => d.parameters.length) = some 2 := by decide +kernel
theorem hyX6_snake : yX6_snake.cls ≠ "java/lang/invoke/MethodHandle" ∧ yX6_snake.cls ≠ "java/lang/invoke/VarHandle" ∧ (parseMethodDescriptor yX6_snake.desc).map (fun d => d.parameters.length) = some 1 := by decide +kernel
theorem hyX6_planSnake : yX6_planSnake.cls ≠ "java/lang/invoke/MethodHandle" ∧ yX6_planSnake.cls ≠ "java/lang/invoke/VarHandle" ∧ (parseMethodDescriptor yX6_planSnake.desc).map (fun d => d.parameters.length) = some 1 := by decide +kernel
theorem hyX6_cellOfSnake : yX6_cellOfSnake.cls ≠ "java/lang/invoke/MethodHandle" ∧ yX6_cellOfSnake.cls ≠ "java/lang/invoke/VarHandle" ∧ (parseMethodDescriptor yX6_cellOfSnake.desc).map (fun d => d.parameters.length) = some 2 := by decide +kernel
theorem hyX3_isLike : yX3_isLike.cls ≠ "java/lang/invoke/MethodHandle" ∧ yX3_isLike.cls ≠ "java/lang/invoke/VarHandle" ∧ (parseMethodDescriptor yX3_isLike.desc).map (fun d => d.parameters.length) = some 1 := by decide +kernel
theorem hyX6_adopt : yX6_adopt.cls ≠ "java/lang/invoke/MethodHandle" ∧ yX6_adopt.cls ≠ "java/lang/invoke/VarHandle" ∧ (parseMethodDescriptor yX6_adopt.desc).map (fun d => d.parameters.length) = some 0 := by decide +kernel
theorem hyX6_propose : yX6_propose.cls ≠ "java/lang/invoke/MethodHandle" ∧ yX6_propose.cls ≠ "java/lang/invoke/VarHandle" ∧ (parseMethodDescriptor yX6_propose.desc).map (fun d => d.parameters.length) = some 0 := by decide +kernel
theorem hyX6_freeze : yX6_freeze.cls ≠ "java/lang/invoke/MethodHandle" ∧ yX6_freeze.cls ≠ "java/lang/invoke/VarHandle" ∧ (parseMethodDescriptor yX6_freeze.desc).map (fun d => d.parameters.length) = some 1 := by decide +kernel
theorem hyX4_takePart : yX4_takePart.cls ≠ "java/lang/invoke/MethodHandle" ∧ yX4_takePart.cls ≠ "java/lang/invoke/VarHandle" ∧ (parseMethodDescriptor yX4_takePart.desc).map (fun d => d.parameters.length) = some 1 := by decide +kernel
theorem hyX4_makeDistrict : yX4_makeDistrict.cls ≠ "java/lang/invoke/MethodHandle" ∧ yX4_makeDistrict.cls ≠ "java/lang/invoke/VarHandle" ∧ (parseMethodDescriptor yX4_makeDistrict.desc).map (fun d => d.parameters.length) = some 3 := by decide +kernel
theorem hyX4_leaveRest : yX4_leaveRest.cls ≠ "java/lang/invoke/MethodHandle" ∧ yX4_leaveRest.cls ≠ "java/lang/invoke/VarHandle" ∧ (parseMethodDescriptor yX4_leaveRest.desc).map (fun d => d.parameters.length) = some 1 := by decide +kernel
theorem hyX6_type : yX6_type.cls ≠ "java/lang/invoke/MethodHandle" ∧ yX6_type.cls ≠ "java/lang/invoke/VarHandle" ∧ (parseMethodDescriptor yX6_type.desc).map (fun d => d.parameters.length) = some 1 := by decide +kernel
theorem hyX5_append : yX5_append.cls ≠ "java/lang/invoke/MethodHandle" ∧ yX5_append.cls ≠ "java/lang/invoke/VarHandle" ∧ (parseMethodDescriptor yX5_append.desc).map (fun d => d.parameters.length) = some 1 := by decide +kernel
theorem hyX5_length : yX5_length.cls ≠ "java/lang/invoke/MethodHandle" ∧ yX5_length.cls ≠ "java/lang/invoke/VarHandle" ∧ (parseMethodDescriptor yX5_length.desc).map (fun d => d.parameters.length) = some 0 := by decide +kernel
theorem hyX6_clearText : yX6_clearText.cls ≠ "java/lang/invoke/MethodHandle" ∧ yX6_clearText.cls ≠ "java/lang/invoke/VarHandle" ∧ (parseMethodDescriptor yX6_clearText.desc).map (fun d => d.parameters.length) = some 0 := by decide +kernel
theorem hyX5_empty : yX5_empty.cls ≠ "java/lang/invoke/MethodHandle" ∧ yX5_empty.cls ≠ "java/lang/invoke/VarHandle" ∧ (parseMethodDescriptor yX5_empty.desc).map (fun d => d.parameters.length) = some 0 := by decide +kernel
theorem hyX6_readVotes : yX6_readVotes.cls ≠ "java/lang/invoke/MethodHandle" ∧ yX6_readVotes.cls ≠ "java/lang/invoke/VarHandle" ∧ (parseMethodDescriptor yX6_readVotes.desc).map (fun d => d.parameters.length) = some 1 := by decide +kernel
theorem hyX5_fault : yX5_fault.cls ≠ "java/lang/invoke/MethodHandle" ∧ yX5_fault.cls ≠ "java/lang/invoke/VarHandle" ∧ (parseMethodDescriptor yX5_fault.desc).map (fun d => d.parameters.length) = some 0 := by decide +kernel
theorem hyX5_isAllowed : yX5_isAllowed.cls ≠ "java/lang/invoke/MethodHandle" ∧ yX5_isAllowed.cls ≠ "java/lang/invoke/VarHandle" ∧ (parseMethodDescriptor yX5_isAllowed.desc).map (fun d => d.parameters.length) = some 1 := by decide +kernel
theorem hyX5_at : yX5_at.cls ≠ "java/lang/invoke/MethodHandle" ∧ yX5_at.cls ≠ "java/lang/invoke/VarHandle" ∧ (parseMethodDescriptor yX5_at.desc).map (fun d => d.parameters.length) = some 1 := by decide +kernel
theorem hyX5_pairs : yX5_pairs.cls ≠ "java/lang/invoke/MethodHandle" ∧ yX5_pairs.cls ≠ "java/lang/invoke/VarHandle" ∧ (parseMethodDescriptor yX5_pairs.desc).map (fun d => d.parameters.length) = some 0 := by decide +kernel
theorem hyX5_votes : yX5_votes.cls ≠ "java/lang/invoke/MethodHandle" ∧ yX5_votes.cls ≠ "java/lang/invoke/VarHandle" ∧ (parseMethodDescriptor yX5_votes.desc).map (fun d => d.parameters.length) = some 2 := by decide +kernel
theorem hyX6_undo : yX6_undo.cls ≠ "java/lang/invoke/MethodHandle" ∧ yX6_undo.cls ≠ "java/lang/invoke/VarHandle" ∧ (parseMethodDescriptor yX6_undo.desc).map (fun d => d.parameters.length) = some 0 := by decide +kernel
theorem hyX1_size : yX1_size.cls ≠ "java/lang/invoke/MethodHandle" ∧ yX1_size.cls ≠ "java/lang/invoke/VarHandle" ∧ (parseMethodDescriptor yX1_size.desc).map (fun d => d.parameters.length) = some 0 := by decide +kernel
theorem hyX1_takeLatest : yX1_takeLatest.cls ≠ "java/lang/invoke/MethodHandle" ∧ yX1_takeLatest.cls ≠ "java/lang/invoke/VarHandle" ∧ (parseMethodDescriptor yX1_takeLatest.desc).map (fun d => d.parameters.length) = some 1 := by decide +kernel
theorem hyX6_keep : yX6_keep.cls ≠ "java/lang/invoke/MethodHandle" ∧ yX6_keep.cls ≠ "java/lang/invoke/VarHandle" ∧ (parseMethodDescriptor yX6_keep.desc).map (fun d => d.parameters.length) = some 0 := by decide +kernel
theorem hyX6_restore : yX6_restore.cls ≠ "java/lang/invoke/MethodHandle" ∧ yX6_restore.cls ≠ "java/lang/invoke/VarHandle" ∧ (parseMethodDescriptor yX6_restore.desc).map (fun d => d.parameters.length) = some 0 := by decide +kernel
theorem hyX6_cell : yX6_cell.cls ≠ "java/lang/invoke/MethodHandle" ∧ yX6_cell.cls ≠ "java/lang/invoke/VarHandle" ∧ (parseMethodDescriptor yX6_cell.desc).map (fun d => d.parameters.length) = some 2 := by decide +kernel
theorem hyX6_noneIfNothing : yX6_noneIfNothing.cls ≠ "java/lang/invoke/MethodHandle" ∧ yX6_noneIfNothing.cls ≠ "java/lang/invoke/VarHandle" ∧ (parseMethodDescriptor yX6_noneIfNothing.desc).map (fun d => d.parameters.length) = some 1 := by decide +kernel
theorem hyX0_alike : yX0_alike.cls ≠ "java/lang/invoke/MethodHandle" ∧ yX0_alike.cls ≠ "java/lang/invoke/VarHandle" ∧ (parseMethodDescriptor yX0_alike.desc).map (fun d => d.parameters.length) = some 2 := by decide +kernel
theorem hyX6_part : yX6_part.cls ≠ "java/lang/invoke/MethodHandle" ∧ yX6_part.cls ≠ "java/lang/invoke/VarHandle" ∧ (parseMethodDescriptor yX6_part.desc).map (fun d => d.parameters.length) = some 2 := by decide +kernel
theorem hyX6_tellArea : yX6_tellArea.cls ≠ "java/lang/invoke/MethodHandle" ∧ yX6_tellArea.cls ≠ "java/lang/invoke/VarHandle" ∧ (parseMethodDescriptor yX6_tellArea.desc).map (fun d => d.parameters.length) = some 3 := by decide +kernel
theorem hyX0_borders : yX0_borders.cls ≠ "java/lang/invoke/MethodHandle" ∧ yX0_borders.cls ≠ "java/lang/invoke/VarHandle" ∧ (parseMethodDescriptor yX0_borders.desc).map (fun d => d.parameters.length) = some 2 := by decide +kernel
theorem hyX4_margin : yX4_margin.cls ≠ "java/lang/invoke/MethodHandle" ∧ yX4_margin.cls ≠ "java/lang/invoke/VarHandle" ∧ (parseMethodDescriptor yX4_margin.desc).map (fun d => d.parameters.length) = some 3 := by decide +kernel
theorem hyX4_votesOf : yX4_votesOf.cls ≠ "java/lang/invoke/MethodHandle" ∧ yX4_votesOf.cls ≠ "java/lang/invoke/VarHandle" ∧ (parseMethodDescriptor yX4_votesOf.desc).map (fun d => d.parameters.length) = some 1 := by decide +kernel
theorem hyX0_votes : yX0_votes.cls ≠ "java/lang/invoke/MethodHandle" ∧ yX0_votes.cls ≠ "java/lang/invoke/VarHandle" ∧ (parseMethodDescriptor yX0_votes.desc).map (fun d => d.parameters.length) = some 3 := by decide +kernel
theorem hyX4_winner : yX4_winner.cls ≠ "java/lang/invoke/MethodHandle" ∧ yX4_winner.cls ≠ "java/lang/invoke/VarHandle" ∧ (parseMethodDescriptor yX4_winner.desc).map (fun d => d.parameters.length) = some 2 := by decide +kernel
theorem hyX0_lowest : yX0_lowest.cls ≠ "java/lang/invoke/MethodHandle" ∧ yX0_lowest.cls ≠ "java/lang/invoke/VarHandle" ∧ (parseMethodDescriptor yX0_lowest.desc).map (fun d => d.parameters.length) = some 2 := by decide +kernel
theorem hyX6_district : yX6_district.cls ≠ "java/lang/invoke/MethodHandle" ∧ yX6_district.cls ≠ "java/lang/invoke/VarHandle" ∧ (parseMethodDescriptor yX6_district.desc).map (fun d => d.parameters.length) = some 2 := by decide +kernel
theorem hyX4_wasted : yX4_wasted.cls ≠ "java/lang/invoke/MethodHandle" ∧ yX4_wasted.cls ≠ "java/lang/invoke/VarHandle" ∧ (parseMethodDescriptor yX4_wasted.desc).map (fun d => d.parameters.length) = some 2 := by decide +kernel
theorem hyX6_why : yX6_why.cls ≠ "java/lang/invoke/MethodHandle" ∧ yX6_why.cls ≠ "java/lang/invoke/VarHandle" ∧ (parseMethodDescriptor yX6_why.desc).map (fun d => d.parameters.length) = some 1 := by decide +kernel
theorem hyX2_blamed : yX2_blamed.cls ≠ "java/lang/invoke/MethodHandle" ∧ yX2_blamed.cls ≠ "java/lang/invoke/VarHandle" ∧ (parseMethodDescriptor yX2_blamed.desc).map (fun d => d.parameters.length) = some 1 := by decide +kernel
theorem hyX6_advice : yX6_advice.cls ≠ "java/lang/invoke/MethodHandle" ∧ yX6_advice.cls ≠ "java/lang/invoke/VarHandle" ∧ (parseMethodDescriptor yX6_advice.desc).map (fun d => d.parameters.length) = some 0 := by decide +kernel
theorem hyX4_player : yX4_player.cls ≠ "java/lang/invoke/MethodHandle" ∧ yX4_player.cls ≠ "java/lang/invoke/VarHandle" ∧ (parseMethodDescriptor yX4_player.desc).map (fun d => d.parameters.length) = some 0 := by decide +kernel
theorem hyX4_closestWon : yX4_closestWon.cls ≠ "java/lang/invoke/MethodHandle" ∧ yX4_closestWon.cls ≠ "java/lang/invoke/VarHandle" ∧ (parseMethodDescriptor yX4_closestWon.desc).map (fun d => d.parameters.length) = some 1 := by decide +kernel
theorem hyX4_mostLost : yX4_mostLost.cls ≠ "java/lang/invoke/MethodHandle" ∧ yX4_mostLost.cls ≠ "java/lang/invoke/VarHandle" ∧ (parseMethodDescriptor yX4_mostLost.desc).map (fun d => d.parameters.length) = some 1 := by decide +kernel
theorem hyX6_party : yX6_party.cls ≠ "java/lang/invoke/MethodHandle" ∧ yX6_party.cls ≠ "java/lang/invoke/VarHandle" ∧ (parseMethodDescriptor yX6_party.desc).map (fun d => d.parameters.length) = some 2 := by decide +kernel
theorem hyX4_seats : yX4_seats.cls ≠ "java/lang/invoke/MethodHandle" ∧ yX4_seats.cls ≠ "java/lang/invoke/VarHandle" ∧ (parseMethodDescriptor yX4_seats.desc).map (fun d => d.parameters.length) = some 1 := by decide +kernel
theorem hyX4_won : yX4_won.cls ≠ "java/lang/invoke/MethodHandle" ∧ yX4_won.cls ≠ "java/lang/invoke/VarHandle" ∧ (parseMethodDescriptor yX4_won.desc).map (fun d => d.parameters.length) = some 3 := by decide +kernel
theorem hyX3_sum : yX3_sum.cls ≠ "java/lang/invoke/MethodHandle" ∧ yX3_sum.cls ≠ "java/lang/invoke/VarHandle" ∧ (parseMethodDescriptor yX3_sum.desc).map (fun d => d.parameters.length) = some 0 := by decide +kernel
theorem hyX4_wastedInAll : yX4_wastedInAll.cls ≠ "java/lang/invoke/MethodHandle" ∧ yX4_wastedInAll.cls ≠ "java/lang/invoke/VarHandle" ∧ (parseMethodDescriptor yX4_wastedInAll.desc).map (fun d => d.parameters.length) = some 1 := by decide +kernel
theorem hyX6_fairness : yX6_fairness.cls ≠ "java/lang/invoke/MethodHandle" ∧ yX6_fairness.cls ≠ "java/lang/invoke/VarHandle" ∧ (parseMethodDescriptor yX6_fairness.desc).map (fun d => d.parameters.length) = some 0 := by decide +kernel
theorem hyX6_count : yX6_count.cls ≠ "java/lang/invoke/MethodHandle" ∧ yX6_count.cls ≠ "java/lang/invoke/VarHandle" ∧ (parseMethodDescriptor yX6_count.desc).map (fun d => d.parameters.length) = some 1 := by decide +kernel
theorem hyX4_openWithoutPart : yX4_openWithoutPart.cls ≠ "java/lang/invoke/MethodHandle" ∧ yX4_openWithoutPart.cls ≠ "java/lang/invoke/VarHandle" ∧ (parseMethodDescriptor yX4_openWithoutPart.desc).map (fun d => d.parameters.length) = some 0 := by decide +kernel
theorem hyX4_bordersOfAll : yX4_bordersOfAll.cls ≠ "java/lang/invoke/MethodHandle" ∧ yX4_bordersOfAll.cls ≠ "java/lang/invoke/VarHandle" ∧ (parseMethodDescriptor yX4_bordersOfAll.desc).map (fun d => d.parameters.length) = some 0 := by decide +kernel
theorem hyX7_init : yX7_init.cls ≠ "java/lang/invoke/MethodHandle" ∧ yX7_init.cls ≠ "java/lang/invoke/VarHandle" ∧ (parseMethodDescriptor yX7_init.desc).map (fun d => d.parameters.length) = some 0 := by decide +kernel
theorem hyX7_clear : yX7_clear.cls ≠ "java/lang/invoke/MethodHandle" ∧ yX7_clear.cls ≠ "java/lang/invoke/VarHandle" ∧ (parseMethodDescriptor yX7_clear.desc).map (fun d => d.parameters.length) = some 0 := by decide +kernel
theorem hyX7_undo : yX7_undo.cls ≠ "java/lang/invoke/MethodHandle" ∧ yX7_undo.cls ≠ "java/lang/invoke/VarHandle" ∧ (parseMethodDescriptor yX7_undo.desc).map (fun d => d.parameters.length) = some 0 := by decide +kernel
theorem hyX7_keep : yX7_keep.cls ≠ "java/lang/invoke/MethodHandle" ∧ yX7_keep.cls ≠ "java/lang/invoke/VarHandle" ∧ (parseMethodDescriptor yX7_keep.desc).map (fun d => d.parameters.length) = some 0 := by decide +kernel
theorem hyX7_restore : yX7_restore.cls ≠ "java/lang/invoke/MethodHandle" ∧ yX7_restore.cls ≠ "java/lang/invoke/VarHandle" ∧ (parseMethodDescriptor yX7_restore.desc).map (fun d => d.parameters.length) = some 0 := by decide +kernel
theorem hyX7_record : yX7_record.cls ≠ "java/lang/invoke/MethodHandle" ∧ yX7_record.cls ≠ "java/lang/invoke/VarHandle" ∧ (parseMethodDescriptor yX7_record.desc).map (fun d => d.parameters.length) = some 0 := by decide +kernel
theorem hyX7_setVotes : yX7_setVotes.cls ≠ "java/lang/invoke/MethodHandle" ∧ yX7_setVotes.cls ≠ "java/lang/invoke/VarHandle" ∧ (parseMethodDescriptor yX7_setVotes.desc).map (fun d => d.parameters.length) = some 3 := by decide +kernel
theorem hyX7_noCell : yX7_noCell.cls ≠ "java/lang/invoke/MethodHandle" ∧ yX7_noCell.cls ≠ "java/lang/invoke/VarHandle" ∧ (parseMethodDescriptor yX7_noCell.desc).map (fun d => d.parameters.length) = some 1 := by decide +kernel
theorem hyX7_in : yX7_in.cls ≠ "java/lang/invoke/MethodHandle" ∧ yX7_in.cls ≠ "java/lang/invoke/VarHandle" ∧ (parseMethodDescriptor yX7_in.desc).map (fun d => d.parameters.length) = some 3 := by decide +kernel
theorem hyX7_begin : yX7_begin.cls ≠ "java/lang/invoke/MethodHandle" ∧ yX7_begin.cls ≠ "java/lang/invoke/VarHandle" ∧ (parseMethodDescriptor yX7_begin.desc).map (fun d => d.parameters.length) = some 1 := by decide +kernel
theorem hyX7_size : yX7_size.cls ≠ "java/lang/invoke/MethodHandle" ∧ yX7_size.cls ≠ "java/lang/invoke/VarHandle" ∧ (parseMethodDescriptor yX7_size.desc).map (fun d => d.parameters.length) = some 0 := by decide +kernel
theorem hyX7_setTarget : yX7_setTarget.cls ≠ "java/lang/invoke/MethodHandle" ∧ yX7_setTarget.cls ≠ "java/lang/invoke/VarHandle" ∧ (parseMethodDescriptor yX7_setTarget.desc).map (fun d => d.parameters.length) = some 2 := by decide +kernel
theorem hyX7_draft : yX7_draft.cls ≠ "java/lang/invoke/MethodHandle" ∧ yX7_draft.cls ≠ "java/lang/invoke/VarHandle" ∧ (parseMethodDescriptor yX7_draft.desc).map (fun d => d.parameters.length) = some 2 := by decide +kernel
theorem hyX7_isOpen : yX7_isOpen.cls ≠ "java/lang/invoke/MethodHandle" ∧ yX7_isOpen.cls ≠ "java/lang/invoke/VarHandle" ∧ (parseMethodDescriptor yX7_isOpen.desc).map (fun d => d.parameters.length) = some 1 := by decide +kernel
theorem hyX7_noDraft : yX7_noDraft.cls ≠ "java/lang/invoke/MethodHandle" ∧ yX7_noDraft.cls ≠ "java/lang/invoke/VarHandle" ∧ (parseMethodDescriptor yX7_noDraft.desc).map (fun d => d.parameters.length) = some 0 := by decide +kernel
theorem hyX7_left : yX7_left.cls ≠ "java/lang/invoke/MethodHandle" ∧ yX7_left.cls ≠ "java/lang/invoke/VarHandle" ∧ (parseMethodDescriptor yX7_left.desc).map (fun d => d.parameters.length) = some 0 := by decide +kernel
theorem hyX7_trade : yX7_trade.cls ≠ "java/lang/invoke/MethodHandle" ∧ yX7_trade.cls ≠ "java/lang/invoke/VarHandle" ∧ (parseMethodDescriptor yX7_trade.desc).map (fun d => d.parameters.length) = some 2 := by decide +kernel
theorem hyX7_reason : yX7_reason.cls ≠ "java/lang/invoke/MethodHandle" ∧ yX7_reason.cls ≠ "java/lang/invoke/VarHandle" ∧ (parseMethodDescriptor yX7_reason.desc).map (fun d => d.parameters.length) = some 0 := by decide +kernel
theorem hyX7_cells : yX7_cells.cls ≠ "java/lang/invoke/MethodHandle" ∧ yX7_cells.cls ≠ "java/lang/invoke/VarHandle" ∧ (parseMethodDescriptor yX7_cells.desc).map (fun d => d.parameters.length) = some 2 := by decide +kernel
theorem hyX7_pieces : yX7_pieces.cls ≠ "java/lang/invoke/MethodHandle" ∧ yX7_pieces.cls ≠ "java/lang/invoke/VarHandle" ∧ (parseMethodDescriptor yX7_pieces.desc).map (fun d => d.parameters.length) = some 1 := by decide +kernel
theorem hyX7_spread : yX7_spread.cls ≠ "java/lang/invoke/MethodHandle" ∧ yX7_spread.cls ≠ "java/lang/invoke/VarHandle" ∧ (parseMethodDescriptor yX7_spread.desc).map (fun d => d.parameters.length) = some 1 := by decide +kernel
theorem hyX7_beside : yX7_beside.cls ≠ "java/lang/invoke/MethodHandle" ∧ yX7_beside.cls ≠ "java/lang/invoke/VarHandle" ∧ (parseMethodDescriptor yX7_beside.desc).map (fun d => d.parameters.length) = some 2 := by decide +kernel
theorem hyX7_snake : yX7_snake.cls ≠ "java/lang/invoke/MethodHandle" ∧ yX7_snake.cls ≠ "java/lang/invoke/VarHandle" ∧ (parseMethodDescriptor yX7_snake.desc).map (fun d => d.parameters.length) = some 1 := by decide +kernel
theorem hyX7_take : yX7_take.cls ≠ "java/lang/invoke/MethodHandle" ∧ yX7_take.cls ≠ "java/lang/invoke/VarHandle" ∧ (parseMethodDescriptor yX7_take.desc).map (fun d => d.parameters.length) = some 0 := by decide +kernel
theorem hyX7_adopt : yX7_adopt.cls ≠ "java/lang/invoke/MethodHandle" ∧ yX7_adopt.cls ≠ "java/lang/invoke/VarHandle" ∧ (parseMethodDescriptor yX7_adopt.desc).map (fun d => d.parameters.length) = some 0 := by decide +kernel
theorem hyX7_propose : yX7_propose.cls ≠ "java/lang/invoke/MethodHandle" ∧ yX7_propose.cls ≠ "java/lang/invoke/VarHandle" ∧ (parseMethodDescriptor yX7_propose.desc).map (fun d => d.parameters.length) = some 0 := by decide +kernel
theorem hyX7_freeze : yX7_freeze.cls ≠ "java/lang/invoke/MethodHandle" ∧ yX7_freeze.cls ≠ "java/lang/invoke/VarHandle" ∧ (parseMethodDescriptor yX7_freeze.desc).map (fun d => d.parameters.length) = some 1 := by decide +kernel
theorem hyX7_freezePart : yX7_freezePart.cls ≠ "java/lang/invoke/MethodHandle" ∧ yX7_freezePart.cls ≠ "java/lang/invoke/VarHandle" ∧ (parseMethodDescriptor yX7_freezePart.desc).map (fun d => d.parameters.length) = some 2 := by decide +kernel
theorem hyX7_type : yX7_type.cls ≠ "java/lang/invoke/MethodHandle" ∧ yX7_type.cls ≠ "java/lang/invoke/VarHandle" ∧ (parseMethodDescriptor yX7_type.desc).map (fun d => d.parameters.length) = some 1 := by decide +kernel
theorem hyX7_clearText : yX7_clearText.cls ≠ "java/lang/invoke/MethodHandle" ∧ yX7_clearText.cls ≠ "java/lang/invoke/VarHandle" ∧ (parseMethodDescriptor yX7_clearText.desc).map (fun d => d.parameters.length) = some 0 := by decide +kernel
theorem hyX7_readVotes : yX7_readVotes.cls ≠ "java/lang/invoke/MethodHandle" ∧ yX7_readVotes.cls ≠ "java/lang/invoke/VarHandle" ∧ (parseMethodDescriptor yX7_readVotes.desc).map (fun d => d.parameters.length) = some 1 := by decide +kernel
theorem hyX7_readPairs : yX7_readPairs.cls ≠ "java/lang/invoke/MethodHandle" ∧ yX7_readPairs.cls ≠ "java/lang/invoke/VarHandle" ∧ (parseMethodDescriptor yX7_readPairs.desc).map (fun d => d.parameters.length) = some 0 := by decide +kernel
theorem hyX7_sees : yX7_sees.cls ≠ "java/lang/invoke/MethodHandle" ∧ yX7_sees.cls ≠ "java/lang/invoke/VarHandle" ∧ (parseMethodDescriptor yX7_sees.desc).map (fun d => d.parameters.length) = some 2 := by decide +kernel
theorem hyX7_cell : yX7_cell.cls ≠ "java/lang/invoke/MethodHandle" ∧ yX7_cell.cls ≠ "java/lang/invoke/VarHandle" ∧ (parseMethodDescriptor yX7_cell.desc).map (fun d => d.parameters.length) = some 2 := by decide +kernel
theorem hyX7_orNone : yX7_orNone.cls ≠ "java/lang/invoke/MethodHandle" ∧ yX7_orNone.cls ≠ "java/lang/invoke/VarHandle" ∧ (parseMethodDescriptor yX7_orNone.desc).map (fun d => d.parameters.length) = some 1 := by decide +kernel
theorem hyX7_alikeBeside : yX7_alikeBeside.cls ≠ "java/lang/invoke/MethodHandle" ∧ yX7_alikeBeside.cls ≠ "java/lang/invoke/VarHandle" ∧ (parseMethodDescriptor yX7_alikeBeside.desc).map (fun d => d.parameters.length) = some 1 := by decide +kernel
theorem hyX7_part : yX7_part.cls ≠ "java/lang/invoke/MethodHandle" ∧ yX7_part.cls ≠ "java/lang/invoke/VarHandle" ∧ (parseMethodDescriptor yX7_part.desc).map (fun d => d.parameters.length) = some 2 := by decide +kernel
theorem hyX7_borders : yX7_borders.cls ≠ "java/lang/invoke/MethodHandle" ∧ yX7_borders.cls ≠ "java/lang/invoke/VarHandle" ∧ (parseMethodDescriptor yX7_borders.desc).map (fun d => d.parameters.length) = some 2 := by decide +kernel
theorem hyX7_margin : yX7_margin.cls ≠ "java/lang/invoke/MethodHandle" ∧ yX7_margin.cls ≠ "java/lang/invoke/VarHandle" ∧ (parseMethodDescriptor yX7_margin.desc).map (fun d => d.parameters.length) = some 2 := by decide +kernel
theorem hyX7_votes : yX7_votes.cls ≠ "java/lang/invoke/MethodHandle" ∧ yX7_votes.cls ≠ "java/lang/invoke/VarHandle" ∧ (parseMethodDescriptor yX7_votes.desc).map (fun d => d.parameters.length) = some 3 := by decide +kernel
theorem hyX7_winner : yX7_winner.cls ≠ "java/lang/invoke/MethodHandle" ∧ yX7_winner.cls ≠ "java/lang/invoke/VarHandle" ∧ (parseMethodDescriptor yX7_winner.desc).map (fun d => d.parameters.length) = some 2 := by decide +kernel
theorem hyX7_lowest : yX7_lowest.cls ≠ "java/lang/invoke/MethodHandle" ∧ yX7_lowest.cls ≠ "java/lang/invoke/VarHandle" ∧ (parseMethodDescriptor yX7_lowest.desc).map (fun d => d.parameters.length) = some 2 := by decide +kernel
theorem hyX7_district : yX7_district.cls ≠ "java/lang/invoke/MethodHandle" ∧ yX7_district.cls ≠ "java/lang/invoke/VarHandle" ∧ (parseMethodDescriptor yX7_district.desc).map (fun d => d.parameters.length) = some 2 := by decide +kernel
theorem hyX7_wasted : yX7_wasted.cls ≠ "java/lang/invoke/MethodHandle" ∧ yX7_wasted.cls ≠ "java/lang/invoke/VarHandle" ∧ (parseMethodDescriptor yX7_wasted.desc).map (fun d => d.parameters.length) = some 2 := by decide +kernel
theorem hyX7_why : yX7_why.cls ≠ "java/lang/invoke/MethodHandle" ∧ yX7_why.cls ≠ "java/lang/invoke/VarHandle" ∧ (parseMethodDescriptor yX7_why.desc).map (fun d => d.parameters.length) = some 1 := by decide +kernel
theorem hyX7_advice : yX7_advice.cls ≠ "java/lang/invoke/MethodHandle" ∧ yX7_advice.cls ≠ "java/lang/invoke/VarHandle" ∧ (parseMethodDescriptor yX7_advice.desc).map (fun d => d.parameters.length) = some 0 := by decide +kernel
theorem hyX7_party : yX7_party.cls ≠ "java/lang/invoke/MethodHandle" ∧ yX7_party.cls ≠ "java/lang/invoke/VarHandle" ∧ (parseMethodDescriptor yX7_party.desc).map (fun d => d.parameters.length) = some 2 := by decide +kernel
theorem hyX7_seats : yX7_seats.cls ≠ "java/lang/invoke/MethodHandle" ∧ yX7_seats.cls ≠ "java/lang/invoke/VarHandle" ∧ (parseMethodDescriptor yX7_seats.desc).map (fun d => d.parameters.length) = some 1 := by decide +kernel
theorem hyX7_votesOnMap : yX7_votesOnMap.cls ≠ "java/lang/invoke/MethodHandle" ∧ yX7_votesOnMap.cls ≠ "java/lang/invoke/VarHandle" ∧ (parseMethodDescriptor yX7_votesOnMap.desc).map (fun d => d.parameters.length) = some 1 := by decide +kernel
theorem hyX7_fairness : yX7_fairness.cls ≠ "java/lang/invoke/MethodHandle" ∧ yX7_fairness.cls ≠ "java/lang/invoke/VarHandle" ∧ (parseMethodDescriptor yX7_fairness.desc).map (fun d => d.parameters.length) = some 0 := by decide +kernel
theorem hyX7_count : yX7_count.cls ≠ "java/lang/invoke/MethodHandle" ∧ yX7_count.cls ≠ "java/lang/invoke/VarHandle" ∧ (parseMethodDescriptor yX7_count.desc).map (fun d => d.parameters.length) = some 1 := by decide +kernel
theorem hyX7_withoutPart : yX7_withoutPart.cls ≠ "java/lang/invoke/MethodHandle" ∧ yX7_withoutPart.cls ≠ "java/lang/invoke/VarHandle" ∧ (parseMethodDescriptor yX7_withoutPart.desc).map (fun d => d.parameters.length) = some 0 := by decide +kernel
theorem hyX7_allBorders : yX7_allBorders.cls ≠ "java/lang/invoke/MethodHandle" ∧ yX7_allBorders.cls ≠ "java/lang/invoke/VarHandle" ∧ (parseMethodDescriptor yX7_allBorders.desc).map (fun d => d.parameters.length) = some 0 := by decide +kernel
end
section
theorem dX0_behind_0 : decode cX0_behind 0 = .ok (.iload_n 0, 1) := by decide +kernel
theorem dX0_behind_1 : decode cX0_behind 1 = .ok (.bipush 6, 2) := by decide +kernel
theorem dX0_behind_3 : decode cX0_behind 3 = .ok (.irem, 1) := by decide +kernel
theorem dX0_behind_4 : decode cX0_behind 4 = .ok (.istore_n 2, 1) := by decide +kernel
theorem dX0_behind_5 : decode cX0_behind 5 = .ok (.iload_n 1, 1) := by decide +kernel
theorem dX0_behind_6 : decode cX0_behind 6 = .ok (.tableswitch 85 0 3 #[30, 45, 58, 73], 30) := by decide +kernel
theorem dX0_behind_36 : decode cX0_behind 36 = .ok (.iload_n 0, 1) := by decide +kernel
theorem dX0_behind_37 : decode cX0_behind 37 = .ok (.bipush 6, 2) := by decide +kernel
theorem dX0_behind_39 : decode cX0_behind 39 = .ok (.if_icmp .lt 10, 3) := by decide +kernel
theorem dX0_behind_42 : decode cX0_behind 42 = .ok (.iload_n 0, 1) := by decide +kernel
theorem dX0_behind_43 : decode cX0_behind 43 = .ok (.bipush 6, 2) := by decide +kernel
theorem dX0_behind_45 : decode cX0_behind 45 = .ok (.isub, 1) := by decide +kernel
theorem dX0_behind_46 : decode cX0_behind 46 = .ok (.goto 4, 3) := by decide +kernel
theorem dX0_behind_49 : decode cX0_behind 49 = .ok (.iconst (-1), 1) := by decide +kernel
theorem dX0_behind_50 : decode cX0_behind 50 = .ok (.ireturn, 1) := by decide +kernel
theorem dX0_behind_51 : decode cX0_behind 51 = .ok (.iload_n 2, 1) := by decide +kernel
theorem dX0_behind_52 : decode cX0_behind 52 = .ok (.iconst 5, 1) := by decide +kernel
theorem dX0_behind_53 : decode cX0_behind 53 = .ok (.if_icmp .ge 9, 3) := by decide +kernel
theorem dX0_behind_56 : decode cX0_behind 56 = .ok (.iload_n 0, 1) := by decide +kernel
theorem dX0_behind_57 : decode cX0_behind 57 = .ok (.iconst 1, 1) := by decide +kernel
theorem dX0_behind_58 : decode cX0_behind 58 = .ok (.iadd, 1) := by decide +kernel
theorem dX0_behind_59 : decode cX0_behind 59 = .ok (.goto 4, 3) := by decide +kernel
theorem dX0_behind_62 : decode cX0_behind 62 = .ok (.iconst (-1), 1) := by decide +kernel
theorem dX0_behind_63 : decode cX0_behind 63 = .ok (.ireturn, 1) := by decide +kernel
theorem dX0_behind_64 : decode cX0_behind 64 = .ok (.iload_n 0, 1) := by decide +kernel
theorem dX0_behind_65 : decode cX0_behind 65 = .ok (.bipush 30, 2) := by decide +kernel
theorem dX0_behind_67 : decode cX0_behind 67 = .ok (.if_icmp .ge 10, 3) := by decide +kernel
theorem dX0_behind_70 : decode cX0_behind 70 = .ok (.iload_n 0, 1) := by decide +kernel
theorem dX0_behind_71 : decode cX0_behind 71 = .ok (.bipush 6, 2) := by decide +kernel
theorem dX0_behind_73 : decode cX0_behind 73 = .ok (.iadd, 1) := by decide +kernel
theorem dX0_behind_74 : decode cX0_behind 74 = .ok (.goto 4, 3) := by decide +kernel
theorem dX0_behind_77 : decode cX0_behind 77 = .ok (.iconst (-1), 1) := by decide +kernel
theorem dX0_behind_78 : decode cX0_behind 78 = .ok (.ireturn, 1) := by decide +kernel
theorem dX0_behind_79 : decode cX0_behind 79 = .ok (.iload_n 2, 1) := by decide +kernel
theorem dX0_behind_80 : decode cX0_behind 80 = .ok (.ifCond .le 9, 3) := by decide +kernel
theorem dX0_behind_83 : decode cX0_behind 83 = .ok (.iload_n 0, 1) := by decide +kernel
theorem dX0_behind_84 : decode cX0_behind 84 = .ok (.iconst 1, 1) := by decide +kernel
theorem dX0_behind_85 : decode cX0_behind 85 = .ok (.isub, 1) := by decide +kernel
theorem dX0_behind_86 : decode cX0_behind 86 = .ok (.goto 4, 3) := by decide +kernel
theorem dX0_behind_89 : decode cX0_behind 89 = .ok (.iconst (-1), 1) := by decide +kernel
theorem dX0_behind_90 : decode cX0_behind 90 = .ok (.ireturn, 1) := by decide +kernel
theorem dX0_behind_91 : decode cX0_behind 91 = .ok (.iconst (-1), 1) := by decide +kernel
theorem dX0_behind_92 : decode cX0_behind 92 = .ok (.ireturn, 1) := by decide +kernel
theorem dX0_size_0 : decode cX0_size 0 = .ok (.iconst 0, 1) := by decide +kernel
theorem dX0_size_1 : decode cX0_size 1 = .ok (.istore_n 2, 1) := by decide +kernel
theorem dX0_size_2 : decode cX0_size 2 = .ok (.iconst 0, 1) := by decide +kernel
theorem dX0_size_3 : decode cX0_size 3 = .ok (.istore_n 3, 1) := by decide +kernel
theorem dX0_size_4 : decode cX0_size 4 = .ok (.iload_n 3, 1) := by decide +kernel
theorem dX0_size_5 : decode cX0_size 5 = .ok (.bipush 36, 2) := by decide +kernel
theorem dX0_size_7 : decode cX0_size 7 = .ok (.if_icmp .ge 21, 3) := by decide +kernel
theorem dX0_size_10 : decode cX0_size 10 = .ok (.aload_n 0, 1) := by decide +kernel
theorem dX0_size_11 : decode cX0_size 11 = .ok (.iload_n 3, 1) := by decide +kernel
theorem dX0_size_12 : decode cX0_size 12 = .ok (.invokevirtual 9, 3) := by decide +kernel
theorem dX0_size_15 : decode cX0_size 15 = .ok (.iload_n 1, 1) := by decide +kernel
theorem dX0_size_16 : decode cX0_size 16 = .ok (.if_icmp .ne 6, 3) := by decide +kernel
theorem dX0_size_19 : decode cX0_size 19 = .ok (.iinc 2 1, 3) := by decide +kernel
theorem dX0_size_22 : decode cX0_size 22 = .ok (.iinc 3 1, 3) := by decide +kernel
theorem dX0_size_25 : decode cX0_size 25 = .ok (.goto (-21), 3) := by decide +kernel
theorem dX0_size_28 : decode cX0_size 28 = .ok (.iload_n 2, 1) := by decide +kernel
theorem dX0_size_29 : decode cX0_size 29 = .ok (.ireturn, 1) := by decide +kernel
theorem dX0_lowest_0 : decode cX0_lowest 0 = .ok (.iconst 0, 1) := by decide +kernel
theorem dX0_lowest_1 : decode cX0_lowest 1 = .ok (.istore_n 2, 1) := by decide +kernel
theorem dX0_lowest_2 : decode cX0_lowest 2 = .ok (.iload_n 2, 1) := by decide +kernel
theorem dX0_lowest_3 : decode cX0_lowest 3 = .ok (.bipush 36, 2) := by decide +kernel
theorem dX0_lowest_5 : decode cX0_lowest 5 = .ok (.if_icmp .ge 20, 3) := by decide +kernel
theorem dX0_lowest_8 : decode cX0_lowest 8 = .ok (.aload_n 0, 1) := by decide +kernel
theorem dX0_lowest_9 : decode cX0_lowest 9 = .ok (.iload_n 2, 1) := by decide +kernel
theorem dX0_lowest_10 : decode cX0_lowest 10 = .ok (.invokevirtual 9, 3) := by decide +kernel
theorem dX0_lowest_13 : decode cX0_lowest 13 = .ok (.iload_n 1, 1) := by decide +kernel
theorem dX0_lowest_14 : decode cX0_lowest 14 = .ok (.if_icmp .ne 5, 3) := by decide +kernel
theorem dX0_lowest_17 : decode cX0_lowest 17 = .ok (.iload_n 2, 1) := by decide +kernel
theorem dX0_lowest_18 : decode cX0_lowest 18 = .ok (.ireturn, 1) := by decide +kernel
theorem dX0_lowest_19 : decode cX0_lowest 19 = .ok (.iinc 2 1, 3) := by decide +kernel
theorem dX0_lowest_22 : decode cX0_lowest 22 = .ok (.goto (-20), 3) := by decide +kernel
theorem dX0_lowest_25 : decode cX0_lowest 25 = .ok (.iconst (-1), 1) := by decide +kernel
theorem dX0_lowest_26 : decode cX0_lowest 26 = .ok (.ireturn, 1) := by decide +kernel
theorem dX0_alike_0 : decode cX0_alike 0 = .ok (.aload_n 0, 1) := by decide +kernel
theorem dX0_alike_1 : decode cX0_alike 1 = .ok (.iload_n 1, 1) := by decide +kernel
theorem dX0_alike_2 : decode cX0_alike 2 = .ok (.invokevirtual 9, 3) := by decide +kernel
theorem dX0_alike_5 : decode cX0_alike 5 = .ok (.istore_n 2, 1) := by decide +kernel
theorem dX0_alike_6 : decode cX0_alike 6 = .ok (.iload_n 2, 1) := by decide +kernel
theorem dX0_alike_7 : decode cX0_alike 7 = .ok (.iconst (-1), 1) := by decide +kernel
theorem dX0_alike_8 : decode cX0_alike 8 = .ok (.if_icmp .ne 5, 3) := by decide +kernel
theorem dX0_alike_11 : decode cX0_alike 11 = .ok (.iconst 0, 1) := by decide +kernel
theorem dX0_alike_12 : decode cX0_alike 12 = .ok (.ireturn, 1) := by decide +kernel
theorem dX0_alike_13 : decode cX0_alike 13 = .ok (.iconst 0, 1) := by decide +kernel
theorem dX0_alike_14 : decode cX0_alike 14 = .ok (.istore_n 3, 1) := by decide +kernel
theorem dX0_alike_15 : decode cX0_alike 15 = .ok (.iconst 0, 1) := by decide +kernel
theorem dX0_alike_16 : decode cX0_alike 16 = .ok (.istore 4, 2) := by decide +kernel
theorem dX0_alike_18 : decode cX0_alike 18 = .ok (.iload 4, 2) := by decide +kernel
theorem dX0_alike_20 : decode cX0_alike 20 = .ok (.iconst 4, 1) := by decide +kernel
theorem dX0_alike_21 : decode cX0_alike 21 = .ok (.if_icmp .ge 26, 3) := by decide +kernel
theorem dX0_alike_24 : decode cX0_alike 24 = .ok (.aload_n 0, 1) := by decide +kernel
theorem dX0_alike_25 : decode cX0_alike 25 = .ok (.iload_n 1, 1) := by decide +kernel
theorem dX0_alike_26 : decode cX0_alike 26 = .ok (.iload 4, 2) := by decide +kernel
theorem dX0_alike_28 : decode cX0_alike 28 = .ok (.invokestatic 15, 3) := by decide +kernel
theorem dX0_alike_31 : decode cX0_alike 31 = .ok (.invokevirtual 9, 3) := by decide +kernel
theorem dX0_alike_34 : decode cX0_alike 34 = .ok (.iload_n 2, 1) := by decide +kernel
theorem dX0_alike_35 : decode cX0_alike 35 = .ok (.if_icmp .ne 6, 3) := by decide +kernel
theorem dX0_alike_38 : decode cX0_alike 38 = .ok (.iinc 3 1, 3) := by decide +kernel
theorem dX0_alike_41 : decode cX0_alike 41 = .ok (.iinc 4 1, 3) := by decide +kernel
theorem dX0_alike_44 : decode cX0_alike 44 = .ok (.goto (-26), 3) := by decide +kernel
theorem dX0_alike_47 : decode cX0_alike 47 = .ok (.iload_n 3, 1) := by decide +kernel
theorem dX0_alike_48 : decode cX0_alike 48 = .ok (.ireturn, 1) := by decide +kernel
theorem dX0_borders_0 : decode cX0_borders 0 = .ok (.iconst 0, 1) := by decide +kernel
theorem dX0_borders_1 : decode cX0_borders 1 = .ok (.istore_n 2, 1) := by decide +kernel
theorem dX0_borders_2 : decode cX0_borders 2 = .ok (.iconst 0, 1) := by decide +kernel
theorem dX0_borders_3 : decode cX0_borders 3 = .ok (.istore_n 3, 1) := by decide +kernel
theorem dX0_borders_4 : decode cX0_borders 4 = .ok (.iload_n 3, 1) := by decide +kernel
theorem dX0_borders_5 : decode cX0_borders 5 = .ok (.bipush 36, 2) := by decide +kernel
theorem dX0_borders_7 : decode cX0_borders 7 = .ok (.if_icmp .ge 28, 3) := by decide +kernel
theorem dX0_borders_10 : decode cX0_borders 10 = .ok (.aload_n 0, 1) := by decide +kernel
theorem dX0_borders_11 : decode cX0_borders 11 = .ok (.iload_n 3, 1) := by decide +kernel
theorem dX0_borders_12 : decode cX0_borders 12 = .ok (.invokevirtual 9, 3) := by decide +kernel
theorem dX0_borders_15 : decode cX0_borders 15 = .ok (.iload_n 1, 1) := by decide +kernel
theorem dX0_borders_16 : decode cX0_borders 16 = .ok (.if_icmp .ne 13, 3) := by decide +kernel
theorem dX0_borders_19 : decode cX0_borders 19 = .ok (.iload_n 2, 1) := by decide +kernel
theorem dX0_borders_20 : decode cX0_borders 20 = .ok (.iconst 4, 1) := by decide +kernel
theorem dX0_borders_21 : decode cX0_borders 21 = .ok (.aload_n 0, 1) := by decide +kernel
theorem dX0_borders_22 : decode cX0_borders 22 = .ok (.iload_n 3, 1) := by decide +kernel
theorem dX0_borders_23 : decode cX0_borders 23 = .ok (.invokestatic 21, 3) := by decide +kernel
theorem dX0_borders_26 : decode cX0_borders 26 = .ok (.isub, 1) := by decide +kernel
theorem dX0_borders_27 : decode cX0_borders 27 = .ok (.iadd, 1) := by decide +kernel
theorem dX0_borders_28 : decode cX0_borders 28 = .ok (.istore_n 2, 1) := by decide +kernel
theorem dX0_borders_29 : decode cX0_borders 29 = .ok (.iinc 3 1, 3) := by decide +kernel
theorem dX0_borders_32 : decode cX0_borders 32 = .ok (.goto (-28), 3) := by decide +kernel
theorem dX0_borders_35 : decode cX0_borders 35 = .ok (.iload_n 2, 1) := by decide +kernel
theorem dX0_borders_36 : decode cX0_borders 36 = .ok (.ireturn, 1) := by decide +kernel
theorem dX0_votes_0 : decode cX0_votes 0 = .ok (.iconst 0, 1) := by decide +kernel
theorem dX0_votes_1 : decode cX0_votes 1 = .ok (.istore_n 3, 1) := by decide +kernel
theorem dX0_votes_2 : decode cX0_votes 2 = .ok (.iconst 0, 1) := by decide +kernel
theorem dX0_votes_3 : decode cX0_votes 3 = .ok (.istore 4, 2) := by decide +kernel
theorem dX0_votes_5 : decode cX0_votes 5 = .ok (.iload 4, 2) := by decide +kernel
theorem dX0_votes_7 : decode cX0_votes 7 = .ok (.bipush 36, 2) := by decide +kernel
theorem dX0_votes_9 : decode cX0_votes 9 = .ok (.if_icmp .ge 28, 3) := by decide +kernel
theorem dX0_votes_12 : decode cX0_votes 12 = .ok (.aload_n 0, 1) := by decide +kernel
theorem dX0_votes_13 : decode cX0_votes 13 = .ok (.iload 4, 2) := by decide +kernel
theorem dX0_votes_15 : decode cX0_votes 15 = .ok (.invokevirtual 9, 3) := by decide +kernel
theorem dX0_votes_18 : decode cX0_votes 18 = .ok (.iload_n 1, 1) := by decide +kernel
theorem dX0_votes_19 : decode cX0_votes 19 = .ok (.if_icmp .ne 12, 3) := by decide +kernel
theorem dX0_votes_22 : decode cX0_votes 22 = .ok (.iload_n 3, 1) := by decide +kernel
theorem dX0_votes_23 : decode cX0_votes 23 = .ok (.aload_n 2, 1) := by decide +kernel
theorem dX0_votes_24 : decode cX0_votes 24 = .ok (.iload 4, 2) := by decide +kernel
theorem dX0_votes_26 : decode cX0_votes 26 = .ok (.invokevirtual 9, 3) := by decide +kernel
theorem dX0_votes_29 : decode cX0_votes 29 = .ok (.iadd, 1) := by decide +kernel
theorem dX0_votes_30 : decode cX0_votes 30 = .ok (.istore_n 3, 1) := by decide +kernel
theorem dX0_votes_31 : decode cX0_votes 31 = .ok (.iinc 4 1, 3) := by decide +kernel
theorem dX0_votes_34 : decode cX0_votes 34 = .ok (.goto (-29), 3) := by decide +kernel
theorem dX0_votes_37 : decode cX0_votes 37 = .ok (.iload_n 3, 1) := by decide +kernel
theorem dX0_votes_38 : decode cX0_votes 38 = .ok (.ireturn, 1) := by decide +kernel
theorem dX1_init_0 : decode cX1_init 0 = .ok (.aload_n 0, 1) := by decide +kernel
theorem dX1_init_1 : decode cX1_init 1 = .ok (.invokespecial 3, 3) := by decide +kernel
theorem dX1_init_4 : decode cX1_init 4 = .ok (.aload_n 0, 1) := by decide +kernel
theorem dX1_init_5 : decode cX1_init 5 = .ok (.iconst 4, 1) := by decide +kernel
theorem dX1_init_6 : decode cX1_init 6 = .ok (.anewarray 9, 3) := by decide +kernel
theorem dX1_init_9 : decode cX1_init 9 = .ok (.putfield 11, 3) := by decide +kernel
theorem dX1_init_12 : decode cX1_init 12 = .ok (.aload_n 0, 1) := by decide +kernel
theorem dX1_init_13 : decode cX1_init 13 = .ok (.iconst 0, 1) := by decide +kernel
theorem dX1_init_14 : decode cX1_init 14 = .ok (.putfield 17, 3) := by decide +kernel
theorem dX1_init_17 : decode cX1_init 17 = .ok (.aload_n 0, 1) := by decide +kernel
theorem dX1_init_18 : decode cX1_init 18 = .ok (.iconst 0, 1) := by decide +kernel
theorem dX1_init_19 : decode cX1_init 19 = .ok (.putfield 21, 3) := by decide +kernel
theorem dX1_init_22 : decode cX1_init 22 = .ok (.iconst 0, 1) := by decide +kernel
theorem dX1_init_23 : decode cX1_init 23 = .ok (.istore_n 1, 1) := by decide +kernel
theorem dX1_init_24 : decode cX1_init 24 = .ok (.iload_n 1, 1) := by decide +kernel
theorem dX1_init_25 : decode cX1_init 25 = .ok (.aload_n 0, 1) := by decide +kernel
theorem dX1_init_26 : decode cX1_init 26 = .ok (.getfield 11, 3) := by decide +kernel
theorem dX1_init_29 : decode cX1_init 29 = .ok (.arraylength, 1) := by decide +kernel
theorem dX1_init_30 : decode cX1_init 30 = .ok (.if_icmp .ge 22, 3) := by decide +kernel
theorem dX1_init_33 : decode cX1_init 33 = .ok (.aload_n 0, 1) := by decide +kernel
theorem dX1_init_34 : decode cX1_init 34 = .ok (.getfield 11, 3) := by decide +kernel
theorem dX1_init_37 : decode cX1_init 37 = .ok (.iload_n 1, 1) := by decide +kernel
theorem dX1_init_38 : decode cX1_init 38 = .ok (.new 9, 3) := by decide +kernel
theorem dX1_init_41 : decode cX1_init 41 = .ok (.dup, 1) := by decide +kernel
theorem dX1_init_42 : decode cX1_init 42 = .ok (.invokespecial 24, 3) := by decide +kernel
theorem dX1_init_45 : decode cX1_init 45 = .ok (.aastore, 1) := by decide +kernel
theorem dX1_init_46 : decode cX1_init 46 = .ok (.iinc 1 1, 3) := by decide +kernel
theorem dX1_init_49 : decode cX1_init 49 = .ok (.goto (-25), 3) := by decide +kernel
theorem dX1_init_52 : decode cX1_init 52 = .ok (.return_, 1) := by decide +kernel
theorem dX1_size_0 : decode cX1_size 0 = .ok (.aload_n 0, 1) := by decide +kernel
theorem dX1_size_1 : decode cX1_size 1 = .ok (.getfield 21, 3) := by decide +kernel
theorem dX1_size_4 : decode cX1_size 4 = .ok (.ireturn, 1) := by decide +kernel
theorem dX1_record_0 : decode cX1_record 0 = .ok (.aload_n 0, 1) := by decide +kernel
theorem dX1_record_1 : decode cX1_record 1 = .ok (.aload_n 0, 1) := by decide +kernel
theorem dX1_record_2 : decode cX1_record 2 = .ok (.getfield 21, 3) := by decide +kernel
theorem dX1_record_5 : decode cX1_record 5 = .ok (.invokevirtual 25, 3) := by decide +kernel
theorem dX1_record_8 : decode cX1_record 8 = .ok (.astore_n 2, 1) := by decide +kernel
theorem dX1_record_9 : decode cX1_record 9 = .ok (.aload_n 2, 1) := by decide +kernel
theorem dX1_record_10 : decode cX1_record 10 = .ok (.ifnonnull 4, 3) := by decide +kernel
theorem dX1_record_13 : decode cX1_record 13 = .ok (.return_, 1) := by decide +kernel
theorem dX1_record_14 : decode cX1_record 14 = .ok (.aload_n 2, 1) := by decide +kernel
theorem dX1_record_15 : decode cX1_record 15 = .ok (.aload_n 1, 1) := by decide +kernel
theorem dX1_record_16 : decode cX1_record 16 = .ok (.invokevirtual 29, 3) := by decide +kernel
theorem dX1_record_19 : decode cX1_record 19 = .ok (.aload_n 0, 1) := by decide +kernel
theorem dX1_record_20 : decode cX1_record 20 = .ok (.getfield 21, 3) := by decide +kernel
theorem dX1_record_23 : decode cX1_record 23 = .ok (.iconst 4, 1) := by decide +kernel
theorem dX1_record_24 : decode cX1_record 24 = .ok (.if_icmp .ge 16, 3) := by decide +kernel
theorem dX1_record_27 : decode cX1_record 27 = .ok (.aload_n 0, 1) := by decide +kernel
theorem dX1_record_28 : decode cX1_record 28 = .ok (.dup, 1) := by decide +kernel
theorem dX1_record_29 : decode cX1_record 29 = .ok (.getfield 21, 3) := by decide +kernel
theorem dX1_record_32 : decode cX1_record 32 = .ok (.iconst 1, 1) := by decide +kernel
theorem dX1_record_33 : decode cX1_record 33 = .ok (.iadd, 1) := by decide +kernel
theorem dX1_record_34 : decode cX1_record 34 = .ok (.putfield 21, 3) := by decide +kernel
theorem dX1_record_37 : decode cX1_record 37 = .ok (.goto 15, 3) := by decide +kernel
theorem dX1_record_40 : decode cX1_record 40 = .ok (.aload_n 0, 1) := by decide +kernel
theorem dX1_record_41 : decode cX1_record 41 = .ok (.aload_n 0, 1) := by decide +kernel
theorem dX1_record_42 : decode cX1_record 42 = .ok (.getfield 17, 3) := by decide +kernel
theorem dX1_record_45 : decode cX1_record 45 = .ok (.iconst 1, 1) := by decide +kernel
theorem dX1_record_46 : decode cX1_record 46 = .ok (.iadd, 1) := by decide +kernel
theorem dX1_record_47 : decode cX1_record 47 = .ok (.iconst 4, 1) := by decide +kernel
theorem dX1_record_48 : decode cX1_record 48 = .ok (.irem, 1) := by decide +kernel
theorem dX1_record_49 : decode cX1_record 49 = .ok (.putfield 17, 3) := by decide +kernel
theorem dX1_record_52 : decode cX1_record 52 = .ok (.return_, 1) := by decide +kernel
theorem dX1_takeLatest_0 : decode cX1_takeLatest 0 = .ok (.aload_n 0, 1) := by decide +kernel
theorem dX1_takeLatest_1 : decode cX1_takeLatest 1 = .ok (.aload_n 0, 1) := by decide +kernel
theorem dX1_takeLatest_2 : decode cX1_takeLatest 2 = .ok (.getfield 21, 3) := by decide +kernel
theorem dX1_takeLatest_5 : decode cX1_takeLatest 5 = .ok (.iconst 1, 1) := by decide +kernel
theorem dX1_takeLatest_6 : decode cX1_takeLatest 6 = .ok (.isub, 1) := by decide +kernel
theorem dX1_takeLatest_7 : decode cX1_takeLatest 7 = .ok (.invokevirtual 25, 3) := by decide +kernel
theorem dX1_takeLatest_10 : decode cX1_takeLatest 10 = .ok (.astore_n 2, 1) := by decide +kernel
theorem dX1_takeLatest_11 : decode cX1_takeLatest 11 = .ok (.aload_n 0, 1) := by decide +kernel
theorem dX1_takeLatest_12 : decode cX1_takeLatest 12 = .ok (.getfield 21, 3) := by decide +kernel
theorem dX1_takeLatest_15 : decode cX1_takeLatest 15 = .ok (.ifCond .eq 7, 3) := by decide +kernel
theorem dX1_takeLatest_18 : decode cX1_takeLatest 18 = .ok (.aload_n 2, 1) := by decide +kernel
theorem dX1_takeLatest_19 : decode cX1_takeLatest 19 = .ok (.ifnonnull 4, 3) := by decide +kernel
theorem dX1_takeLatest_22 : decode cX1_takeLatest 22 = .ok (.return_, 1) := by decide +kernel
theorem dX1_takeLatest_23 : decode cX1_takeLatest 23 = .ok (.aload_n 1, 1) := by decide +kernel
theorem dX1_takeLatest_24 : decode cX1_takeLatest 24 = .ok (.aload_n 2, 1) := by decide +kernel
theorem dX1_takeLatest_25 : decode cX1_takeLatest 25 = .ok (.invokevirtual 29, 3) := by decide +kernel
theorem dX1_takeLatest_28 : decode cX1_takeLatest 28 = .ok (.aload_n 0, 1) := by decide +kernel
theorem dX1_takeLatest_29 : decode cX1_takeLatest 29 = .ok (.dup, 1) := by decide +kernel
theorem dX1_takeLatest_30 : decode cX1_takeLatest 30 = .ok (.getfield 21, 3) := by decide +kernel
theorem dX1_takeLatest_33 : decode cX1_takeLatest 33 = .ok (.iconst 1, 1) := by decide +kernel
theorem dX1_takeLatest_34 : decode cX1_takeLatest 34 = .ok (.isub, 1) := by decide +kernel
theorem dX1_takeLatest_35 : decode cX1_takeLatest 35 = .ok (.putfield 21, 3) := by decide +kernel
theorem dX1_takeLatest_38 : decode cX1_takeLatest 38 = .ok (.return_, 1) := by decide +kernel
theorem dX1_slotAt_0 : decode cX1_slotAt 0 = .ok (.aload_n 0, 1) := by decide +kernel
theorem dX1_slotAt_1 : decode cX1_slotAt 1 = .ok (.getfield 17, 3) := by decide +kernel
theorem dX1_slotAt_4 : decode cX1_slotAt 4 = .ok (.iload_n 1, 1) := by decide +kernel
theorem dX1_slotAt_5 : decode cX1_slotAt 5 = .ok (.iadd, 1) := by decide +kernel
theorem dX1_slotAt_6 : decode cX1_slotAt 6 = .ok (.iconst 4, 1) := by decide +kernel
theorem dX1_slotAt_7 : decode cX1_slotAt 7 = .ok (.invokestatic 33, 3) := by decide +kernel
theorem dX1_slotAt_10 : decode cX1_slotAt 10 = .ok (.istore_n 2, 1) := by decide +kernel
theorem dX1_slotAt_11 : decode cX1_slotAt 11 = .ok (.iload_n 2, 1) := by decide +kernel
theorem dX1_slotAt_12 : decode cX1_slotAt 12 = .ok (.ifCond .lt 21, 3) := by decide +kernel
theorem dX1_slotAt_15 : decode cX1_slotAt 15 = .ok (.iload_n 2, 1) := by decide +kernel
theorem dX1_slotAt_16 : decode cX1_slotAt 16 = .ok (.aload_n 0, 1) := by decide +kernel
theorem dX1_slotAt_17 : decode cX1_slotAt 17 = .ok (.getfield 11, 3) := by decide +kernel
theorem dX1_slotAt_20 : decode cX1_slotAt 20 = .ok (.arraylength, 1) := by decide +kernel
theorem dX1_slotAt_21 : decode cX1_slotAt 21 = .ok (.if_icmp .ge 12, 3) := by decide +kernel
theorem dX1_slotAt_24 : decode cX1_slotAt 24 = .ok (.aload_n 0, 1) := by decide +kernel
theorem dX1_slotAt_25 : decode cX1_slotAt 25 = .ok (.getfield 11, 3) := by decide +kernel
theorem dX1_slotAt_28 : decode cX1_slotAt 28 = .ok (.iload_n 2, 1) := by decide +kernel
theorem dX1_slotAt_29 : decode cX1_slotAt 29 = .ok (.aaload, 1) := by decide +kernel
theorem dX1_slotAt_30 : decode cX1_slotAt 30 = .ok (.goto 4, 3) := by decide +kernel
theorem dX1_slotAt_33 : decode cX1_slotAt 33 = .ok (.aconst_null, 1) := by decide +kernel
theorem dX1_slotAt_34 : decode cX1_slotAt 34 = .ok (.areturn, 1) := by decide +kernel
theorem dX2_init_0 : decode cX2_init 0 = .ok (.aload_n 0, 1) := by decide +kernel
theorem dX2_init_1 : decode cX2_init 1 = .ok (.invokespecial 3, 3) := by decide +kernel
theorem dX2_init_4 : decode cX2_init 4 = .ok (.aload_n 0, 1) := by decide +kernel
theorem dX2_init_5 : decode cX2_init 5 = .ok (.new 9, 3) := by decide +kernel
theorem dX2_init_8 : decode cX2_init 8 = .ok (.dup, 1) := by decide +kernel
theorem dX2_init_9 : decode cX2_init 9 = .ok (.bipush 36, 2) := by decide +kernel
theorem dX2_init_11 : decode cX2_init 11 = .ok (.iconst 0, 1) := by decide +kernel
theorem dX2_init_12 : decode cX2_init 12 = .ok (.invokespecial 11, 3) := by decide +kernel
theorem dX2_init_15 : decode cX2_init 15 = .ok (.putfield 14, 3) := by decide +kernel
theorem dX2_init_18 : decode cX2_init 18 = .ok (.aload_n 0, 1) := by decide +kernel
theorem dX2_init_19 : decode cX2_init 19 = .ok (.new 9, 3) := by decide +kernel
theorem dX2_init_22 : decode cX2_init 22 = .ok (.dup, 1) := by decide +kernel
theorem dX2_init_23 : decode cX2_init 23 = .ok (.bipush 36, 2) := by decide +kernel
theorem dX2_init_25 : decode cX2_init 25 = .ok (.iconst (-1), 1) := by decide +kernel
theorem dX2_init_26 : decode cX2_init 26 = .ok (.invokespecial 11, 3) := by decide +kernel
theorem dX2_init_29 : decode cX2_init 29 = .ok (.putfield 20, 3) := by decide +kernel
theorem dX2_init_32 : decode cX2_init 32 = .ok (.return_, 1) := by decide +kernel
theorem dX2_reason_0 : decode cX2_reason 0 = .ok (.aload_n 1, 1) := by decide +kernel
theorem dX2_reason_1 : decode cX2_reason 1 = .ok (.invokestatic 23, 3) := by decide +kernel
theorem dX2_reason_4 : decode cX2_reason 4 = .ok (.iconst (-1), 1) := by decide +kernel
theorem dX2_reason_5 : decode cX2_reason 5 = .ok (.if_icmp .eq 5, 3) := by decide +kernel
theorem dX2_reason_8 : decode cX2_reason 8 = .ok (.iconst 1, 1) := by decide +kernel
theorem dX2_reason_9 : decode cX2_reason 9 = .ok (.ireturn, 1) := by decide +kernel
theorem dX2_reason_10 : decode cX2_reason 10 = .ok (.aload_n 1, 1) := by decide +kernel
theorem dX2_reason_11 : decode cX2_reason 11 = .ok (.invokestatic 27, 3) := by decide +kernel
theorem dX2_reason_14 : decode cX2_reason 14 = .ok (.iconst (-1), 1) := by decide +kernel
theorem dX2_reason_15 : decode cX2_reason 15 = .ok (.if_icmp .eq 5, 3) := by decide +kernel
theorem dX2_reason_18 : decode cX2_reason 18 = .ok (.iconst 2, 1) := by decide +kernel
theorem dX2_reason_19 : decode cX2_reason 19 = .ok (.ireturn, 1) := by decide +kernel
theorem dX2_reason_20 : decode cX2_reason 20 = .ok (.aload_n 0, 1) := by decide +kernel
theorem dX2_reason_21 : decode cX2_reason 21 = .ok (.aload_n 1, 1) := by decide +kernel
theorem dX2_reason_22 : decode cX2_reason 22 = .ok (.invokevirtual 30, 3) := by decide +kernel
theorem dX2_reason_25 : decode cX2_reason 25 = .ok (.iconst (-1), 1) := by decide +kernel
theorem dX2_reason_26 : decode cX2_reason 26 = .ok (.if_icmp .eq 7, 3) := by decide +kernel
theorem dX2_reason_29 : decode cX2_reason 29 = .ok (.iconst 3, 1) := by decide +kernel
theorem dX2_reason_30 : decode cX2_reason 30 = .ok (.goto 4, 3) := by decide +kernel
theorem dX2_reason_33 : decode cX2_reason 33 = .ok (.iconst 0, 1) := by decide +kernel
theorem dX2_reason_34 : decode cX2_reason 34 = .ok (.ireturn, 1) := by decide +kernel
theorem dX2_blamed_0 : decode cX2_blamed 0 = .ok (.aload_n 0, 1) := by decide +kernel
theorem dX2_blamed_1 : decode cX2_blamed 1 = .ok (.aload_n 1, 1) := by decide +kernel
theorem dX2_blamed_2 : decode cX2_blamed 2 = .ok (.invokevirtual 33, 3) := by decide +kernel
theorem dX2_blamed_5 : decode cX2_blamed 5 = .ok (.tableswitch 43 1 3 #[27, 32, 37], 27) := by decide +kernel
theorem dX2_blamed_32 : decode cX2_blamed 32 = .ok (.aload_n 1, 1) := by decide +kernel
theorem dX2_blamed_33 : decode cX2_blamed 33 = .ok (.invokestatic 23, 3) := by decide +kernel
theorem dX2_blamed_36 : decode cX2_blamed 36 = .ok (.ireturn, 1) := by decide +kernel
theorem dX2_blamed_37 : decode cX2_blamed 37 = .ok (.aload_n 1, 1) := by decide +kernel
theorem dX2_blamed_38 : decode cX2_blamed 38 = .ok (.invokestatic 27, 3) := by decide +kernel
theorem dX2_blamed_41 : decode cX2_blamed 41 = .ok (.ireturn, 1) := by decide +kernel
theorem dX2_blamed_42 : decode cX2_blamed 42 = .ok (.aload_n 0, 1) := by decide +kernel
theorem dX2_blamed_43 : decode cX2_blamed 43 = .ok (.aload_n 1, 1) := by decide +kernel
theorem dX2_blamed_44 : decode cX2_blamed 44 = .ok (.invokevirtual 30, 3) := by decide +kernel
theorem dX2_blamed_47 : decode cX2_blamed 47 = .ok (.ireturn, 1) := by decide +kernel
theorem dX2_blamed_48 : decode cX2_blamed 48 = .ok (.iconst (-1), 1) := by decide +kernel
theorem dX2_blamed_49 : decode cX2_blamed 49 = .ok (.ireturn, 1) := by decide +kernel
theorem dX2_pieces_0 : decode cX2_pieces 0 = .ok (.aload_n 0, 1) := by decide +kernel
theorem dX2_pieces_1 : decode cX2_pieces 1 = .ok (.getfield 14, 3) := by decide +kernel
theorem dX2_pieces_4 : decode cX2_pieces 4 = .ok (.iconst 0, 1) := by decide +kernel
theorem dX2_pieces_5 : decode cX2_pieces 5 = .ok (.invokevirtual 36, 3) := by decide +kernel
theorem dX2_pieces_8 : decode cX2_pieces 8 = .ok (.iconst 0, 1) := by decide +kernel
theorem dX2_pieces_9 : decode cX2_pieces 9 = .ok (.istore_n 3, 1) := by decide +kernel
theorem dX2_pieces_10 : decode cX2_pieces 10 = .ok (.iconst 0, 1) := by decide +kernel
theorem dX2_pieces_11 : decode cX2_pieces 11 = .ok (.istore 4, 2) := by decide +kernel
theorem dX2_pieces_13 : decode cX2_pieces 13 = .ok (.iload 4, 2) := by decide +kernel
theorem dX2_pieces_15 : decode cX2_pieces 15 = .ok (.bipush 36, 2) := by decide +kernel
theorem dX2_pieces_17 : decode cX2_pieces 17 = .ok (.if_icmp .ge 42, 3) := by decide +kernel
theorem dX2_pieces_20 : decode cX2_pieces 20 = .ok (.aload_n 1, 1) := by decide +kernel
theorem dX2_pieces_21 : decode cX2_pieces 21 = .ok (.iload 4, 2) := by decide +kernel
theorem dX2_pieces_23 : decode cX2_pieces 23 = .ok (.invokevirtual 40, 3) := by decide +kernel
theorem dX2_pieces_26 : decode cX2_pieces 26 = .ok (.iload_n 2, 1) := by decide +kernel
theorem dX2_pieces_27 : decode cX2_pieces 27 = .ok (.if_icmp .ne 26, 3) := by decide +kernel
theorem dX2_pieces_30 : decode cX2_pieces 30 = .ok (.aload_n 0, 1) := by decide +kernel
theorem dX2_pieces_31 : decode cX2_pieces 31 = .ok (.getfield 14, 3) := by decide +kernel
theorem dX2_pieces_34 : decode cX2_pieces 34 = .ok (.iload 4, 2) := by decide +kernel
theorem dX2_pieces_36 : decode cX2_pieces 36 = .ok (.invokevirtual 40, 3) := by decide +kernel
theorem dX2_pieces_39 : decode cX2_pieces 39 = .ok (.ifCond .ne 14, 3) := by decide +kernel
theorem dX2_pieces_42 : decode cX2_pieces 42 = .ok (.iinc 3 1, 3) := by decide +kernel
theorem dX2_pieces_45 : decode cX2_pieces 45 = .ok (.aload_n 0, 1) := by decide +kernel
theorem dX2_pieces_46 : decode cX2_pieces 46 = .ok (.iload 4, 2) := by decide +kernel
theorem dX2_pieces_48 : decode cX2_pieces 48 = .ok (.aload_n 1, 1) := by decide +kernel
theorem dX2_pieces_49 : decode cX2_pieces 49 = .ok (.iload_n 2, 1) := by decide +kernel
theorem dX2_pieces_50 : decode cX2_pieces 50 = .ok (.invokevirtual 44, 3) := by decide +kernel
theorem dX2_pieces_53 : decode cX2_pieces 53 = .ok (.iinc 4 1, 3) := by decide +kernel
theorem dX2_pieces_56 : decode cX2_pieces 56 = .ok (.goto (-43), 3) := by decide +kernel
theorem dX2_pieces_59 : decode cX2_pieces 59 = .ok (.iload_n 3, 1) := by decide +kernel
theorem dX2_pieces_60 : decode cX2_pieces 60 = .ok (.ireturn, 1) := by decide +kernel
theorem dX2_reachFrom_0 : decode cX2_reachFrom 0 = .ok (.aload_n 0, 1) := by decide +kernel
theorem dX2_reachFrom_1 : decode cX2_reachFrom 1 = .ok (.getfield 14, 3) := by decide +kernel
theorem dX2_reachFrom_4 : decode cX2_reachFrom 4 = .ok (.iload_n 1, 1) := by decide +kernel
theorem dX2_reachFrom_5 : decode cX2_reachFrom 5 = .ok (.iconst 1, 1) := by decide +kernel
theorem dX2_reachFrom_6 : decode cX2_reachFrom 6 = .ok (.invokevirtual 48, 3) := by decide +kernel
theorem dX2_reachFrom_9 : decode cX2_reachFrom 9 = .ok (.aload_n 0, 1) := by decide +kernel
theorem dX2_reachFrom_10 : decode cX2_reachFrom 10 = .ok (.getfield 20, 3) := by decide +kernel
theorem dX2_reachFrom_13 : decode cX2_reachFrom 13 = .ok (.iconst 0, 1) := by decide +kernel
theorem dX2_reachFrom_14 : decode cX2_reachFrom 14 = .ok (.iload_n 1, 1) := by decide +kernel
theorem dX2_reachFrom_15 : decode cX2_reachFrom 15 = .ok (.invokevirtual 48, 3) := by decide +kernel
theorem dX2_reachFrom_18 : decode cX2_reachFrom 18 = .ok (.iconst 1, 1) := by decide +kernel
theorem dX2_reachFrom_19 : decode cX2_reachFrom 19 = .ok (.istore 4, 2) := by decide +kernel
theorem dX2_reachFrom_21 : decode cX2_reachFrom 21 = .ok (.iconst 0, 1) := by decide +kernel
theorem dX2_reachFrom_22 : decode cX2_reachFrom 22 = .ok (.istore 5, 2) := by decide +kernel
theorem dX2_reachFrom_24 : decode cX2_reachFrom 24 = .ok (.iload 5, 2) := by decide +kernel
theorem dX2_reachFrom_26 : decode cX2_reachFrom 26 = .ok (.bipush 36, 2) := by decide +kernel
theorem dX2_reachFrom_28 : decode cX2_reachFrom 28 = .ok (.if_icmp .ge 97, 3) := by decide +kernel
theorem dX2_reachFrom_31 : decode cX2_reachFrom 31 = .ok (.iload 5, 2) := by decide +kernel
theorem dX2_reachFrom_33 : decode cX2_reachFrom 33 = .ok (.iload 4, 2) := by decide +kernel
theorem dX2_reachFrom_35 : decode cX2_reachFrom 35 = .ok (.if_icmp .ge 90, 3) := by decide +kernel
theorem dX2_reachFrom_38 : decode cX2_reachFrom 38 = .ok (.aload_n 0, 1) := by decide +kernel
theorem dX2_reachFrom_39 : decode cX2_reachFrom 39 = .ok (.getfield 20, 3) := by decide +kernel
theorem dX2_reachFrom_42 : decode cX2_reachFrom 42 = .ok (.iload 5, 2) := by decide +kernel
theorem dX2_reachFrom_44 : decode cX2_reachFrom 44 = .ok (.invokevirtual 40, 3) := by decide +kernel
theorem dX2_reachFrom_47 : decode cX2_reachFrom 47 = .ok (.istore 6, 2) := by decide +kernel
theorem dX2_reachFrom_49 : decode cX2_reachFrom 49 = .ok (.iconst 0, 1) := by decide +kernel
theorem dX2_reachFrom_50 : decode cX2_reachFrom 50 = .ok (.istore 7, 2) := by decide +kernel
theorem dX2_reachFrom_52 : decode cX2_reachFrom 52 = .ok (.iload 7, 2) := by decide +kernel
theorem dX2_reachFrom_54 : decode cX2_reachFrom 54 = .ok (.iconst 4, 1) := by decide +kernel
theorem dX2_reachFrom_55 : decode cX2_reachFrom 55 = .ok (.if_icmp .ge 64, 3) := by decide +kernel
theorem dX2_reachFrom_58 : decode cX2_reachFrom 58 = .ok (.iload 6, 2) := by decide +kernel
theorem dX2_reachFrom_60 : decode cX2_reachFrom 60 = .ok (.iload 7, 2) := by decide +kernel
theorem dX2_reachFrom_62 : decode cX2_reachFrom 62 = .ok (.invokestatic 51, 3) := by decide +kernel
theorem dX2_reachFrom_65 : decode cX2_reachFrom 65 = .ok (.istore 8, 2) := by decide +kernel
theorem dX2_reachFrom_67 : decode cX2_reachFrom 67 = .ok (.aload_n 2, 1) := by decide +kernel
theorem dX2_reachFrom_68 : decode cX2_reachFrom 68 = .ok (.iload 8, 2) := by decide +kernel
theorem dX2_reachFrom_70 : decode cX2_reachFrom 70 = .ok (.invokevirtual 40, 3) := by decide +kernel
theorem dX2_reachFrom_73 : decode cX2_reachFrom 73 = .ok (.iload_n 3, 1) := by decide +kernel
theorem dX2_reachFrom_74 : decode cX2_reachFrom 74 = .ok (.if_icmp .ne 39, 3) := by decide +kernel
theorem dX2_reachFrom_77 : decode cX2_reachFrom 77 = .ok (.aload_n 0, 1) := by decide +kernel
theorem dX2_reachFrom_78 : decode cX2_reachFrom 78 = .ok (.getfield 14, 3) := by decide +kernel
theorem dX2_reachFrom_81 : decode cX2_reachFrom 81 = .ok (.iload 8, 2) := by decide +kernel
theorem dX2_reachFrom_83 : decode cX2_reachFrom 83 = .ok (.invokevirtual 40, 3) := by decide +kernel
theorem dX2_reachFrom_86 : decode cX2_reachFrom 86 = .ok (.ifCond .ne 27, 3) := by decide +kernel
theorem dX2_reachFrom_89 : decode cX2_reachFrom 89 = .ok (.aload_n 0, 1) := by decide +kernel
theorem dX2_reachFrom_90 : decode cX2_reachFrom 90 = .ok (.getfield 14, 3) := by decide +kernel
theorem dX2_reachFrom_93 : decode cX2_reachFrom 93 = .ok (.iload 8, 2) := by decide +kernel
theorem dX2_reachFrom_95 : decode cX2_reachFrom 95 = .ok (.iconst 1, 1) := by decide +kernel
theorem dX2_reachFrom_96 : decode cX2_reachFrom 96 = .ok (.invokevirtual 48, 3) := by decide +kernel
theorem dX2_reachFrom_99 : decode cX2_reachFrom 99 = .ok (.aload_n 0, 1) := by decide +kernel
theorem dX2_reachFrom_100 : decode cX2_reachFrom 100 = .ok (.getfield 20, 3) := by decide +kernel
theorem dX2_reachFrom_103 : decode cX2_reachFrom 103 = .ok (.iload 4, 2) := by decide +kernel
theorem dX2_reachFrom_105 : decode cX2_reachFrom 105 = .ok (.iload 8, 2) := by decide +kernel
theorem dX2_reachFrom_107 : decode cX2_reachFrom 107 = .ok (.invokevirtual 48, 3) := by decide +kernel
theorem dX2_reachFrom_110 : decode cX2_reachFrom 110 = .ok (.iinc 4 1, 3) := by decide +kernel
theorem dX2_reachFrom_113 : decode cX2_reachFrom 113 = .ok (.iinc 7 1, 3) := by decide +kernel
theorem dX2_reachFrom_116 : decode cX2_reachFrom 116 = .ok (.goto (-64), 3) := by decide +kernel
theorem dX2_reachFrom_119 : decode cX2_reachFrom 119 = .ok (.iinc 5 1, 3) := by decide +kernel
theorem dX2_reachFrom_122 : decode cX2_reachFrom 122 = .ok (.goto (-98), 3) := by decide +kernel
theorem dX2_reachFrom_125 : decode cX2_reachFrom 125 = .ok (.return_, 1) := by decide +kernel
theorem dX2_withoutPart_0 : decode cX2_withoutPart 0 = .ok (.iconst 0, 1) := by decide +kernel
theorem dX2_withoutPart_1 : decode cX2_withoutPart 1 = .ok (.istore_n 1, 1) := by decide +kernel
theorem dX2_withoutPart_2 : decode cX2_withoutPart 2 = .ok (.iload_n 1, 1) := by decide +kernel
theorem dX2_withoutPart_3 : decode cX2_withoutPart 3 = .ok (.bipush 36, 2) := by decide +kernel
theorem dX2_withoutPart_5 : decode cX2_withoutPart 5 = .ok (.if_icmp .ge 31, 3) := by decide +kernel
theorem dX2_withoutPart_8 : decode cX2_withoutPart 8 = .ok (.aload_n 0, 1) := by decide +kernel
theorem dX2_withoutPart_9 : decode cX2_withoutPart 9 = .ok (.iload_n 1, 1) := by decide +kernel
theorem dX2_withoutPart_10 : decode cX2_withoutPart 10 = .ok (.invokevirtual 57, 3) := by decide +kernel
theorem dX2_withoutPart_13 : decode cX2_withoutPart 13 = .ok (.ifCond .eq 17, 3) := by decide +kernel
theorem dX2_withoutPart_16 : decode cX2_withoutPart 16 = .ok (.aload_n 0, 1) := by decide +kernel
theorem dX2_withoutPart_17 : decode cX2_withoutPart 17 = .ok (.getfield 63, 3) := by decide +kernel
theorem dX2_withoutPart_20 : decode cX2_withoutPart 20 = .ok (.iload_n 1, 1) := by decide +kernel
theorem dX2_withoutPart_21 : decode cX2_withoutPart 21 = .ok (.invokevirtual 40, 3) := by decide +kernel
theorem dX2_withoutPart_24 : decode cX2_withoutPart 24 = .ok (.iconst (-1), 1) := by decide +kernel
theorem dX2_withoutPart_25 : decode cX2_withoutPart 25 = .ok (.if_icmp .ne 5, 3) := by decide +kernel
theorem dX2_withoutPart_28 : decode cX2_withoutPart 28 = .ok (.iload_n 1, 1) := by decide +kernel
theorem dX2_withoutPart_29 : decode cX2_withoutPart 29 = .ok (.ireturn, 1) := by decide +kernel
theorem dX2_withoutPart_30 : decode cX2_withoutPart 30 = .ok (.iinc 1 1, 3) := by decide +kernel
theorem dX2_withoutPart_33 : decode cX2_withoutPart 33 = .ok (.goto (-31), 3) := by decide +kernel
theorem dX2_withoutPart_36 : decode cX2_withoutPart 36 = .ok (.iconst (-1), 1) := by decide +kernel
theorem dX2_withoutPart_37 : decode cX2_withoutPart 37 = .ok (.ireturn, 1) := by decide +kernel
theorem dX2_ofOtherSize_0 : decode cX2_ofOtherSize 0 = .ok (.iconst 0, 1) := by decide +kernel
theorem dX2_ofOtherSize_1 : decode cX2_ofOtherSize 1 = .ok (.istore_n 1, 1) := by decide +kernel
theorem dX2_ofOtherSize_2 : decode cX2_ofOtherSize 2 = .ok (.iload_n 1, 1) := by decide +kernel
theorem dX2_ofOtherSize_3 : decode cX2_ofOtherSize 3 = .ok (.aload_n 0, 1) := by decide +kernel
theorem dX2_ofOtherSize_4 : decode cX2_ofOtherSize 4 = .ok (.invokevirtual 66, 3) := by decide +kernel
theorem dX2_ofOtherSize_7 : decode cX2_ofOtherSize 7 = .ok (.if_icmp .ge 26, 3) := by decide +kernel
theorem dX2_ofOtherSize_10 : decode cX2_ofOtherSize 10 = .ok (.aload_n 0, 1) := by decide +kernel
theorem dX2_ofOtherSize_11 : decode cX2_ofOtherSize 11 = .ok (.getfield 63, 3) := by decide +kernel
theorem dX2_ofOtherSize_14 : decode cX2_ofOtherSize 14 = .ok (.iload_n 1, 1) := by decide +kernel
theorem dX2_ofOtherSize_15 : decode cX2_ofOtherSize 15 = .ok (.invokestatic 70, 3) := by decide +kernel
theorem dX2_ofOtherSize_18 : decode cX2_ofOtherSize 18 = .ok (.aload_n 0, 1) := by decide +kernel
theorem dX2_ofOtherSize_19 : decode cX2_ofOtherSize 19 = .ok (.invokevirtual 74, 3) := by decide +kernel
theorem dX2_ofOtherSize_22 : decode cX2_ofOtherSize 22 = .ok (.if_icmp .eq 5, 3) := by decide +kernel
theorem dX2_ofOtherSize_25 : decode cX2_ofOtherSize 25 = .ok (.iload_n 1, 1) := by decide +kernel
theorem dX2_ofOtherSize_26 : decode cX2_ofOtherSize 26 = .ok (.ireturn, 1) := by decide +kernel
theorem dX2_ofOtherSize_27 : decode cX2_ofOtherSize 27 = .ok (.iinc 1 1, 3) := by decide +kernel
theorem dX2_ofOtherSize_30 : decode cX2_ofOtherSize 30 = .ok (.goto (-28), 3) := by decide +kernel
theorem dX2_ofOtherSize_33 : decode cX2_ofOtherSize 33 = .ok (.iconst (-1), 1) := by decide +kernel
theorem dX2_ofOtherSize_34 : decode cX2_ofOtherSize 34 = .ok (.ireturn, 1) := by decide +kernel
theorem dX2_notConnected_0 : decode cX2_notConnected 0 = .ok (.iconst 0, 1) := by decide +kernel
theorem dX2_notConnected_1 : decode cX2_notConnected 1 = .ok (.istore_n 2, 1) := by decide +kernel
theorem dX2_notConnected_2 : decode cX2_notConnected 2 = .ok (.iload_n 2, 1) := by decide +kernel
theorem dX2_notConnected_3 : decode cX2_notConnected 3 = .ok (.aload_n 1, 1) := by decide +kernel
theorem dX2_notConnected_4 : decode cX2_notConnected 4 = .ok (.invokevirtual 66, 3) := by decide +kernel
theorem dX2_notConnected_7 : decode cX2_notConnected 7 = .ok (.if_icmp .ge 24, 3) := by decide +kernel
theorem dX2_notConnected_10 : decode cX2_notConnected 10 = .ok (.aload_n 0, 1) := by decide +kernel
theorem dX2_notConnected_11 : decode cX2_notConnected 11 = .ok (.aload_n 1, 1) := by decide +kernel
theorem dX2_notConnected_12 : decode cX2_notConnected 12 = .ok (.getfield 63, 3) := by decide +kernel
theorem dX2_notConnected_15 : decode cX2_notConnected 15 = .ok (.iload_n 2, 1) := by decide +kernel
theorem dX2_notConnected_16 : decode cX2_notConnected 16 = .ok (.invokevirtual 76, 3) := by decide +kernel
theorem dX2_notConnected_19 : decode cX2_notConnected 19 = .ok (.iconst 1, 1) := by decide +kernel
theorem dX2_notConnected_20 : decode cX2_notConnected 20 = .ok (.if_icmp .eq 5, 3) := by decide +kernel
theorem dX2_notConnected_23 : decode cX2_notConnected 23 = .ok (.iload_n 2, 1) := by decide +kernel
theorem dX2_notConnected_24 : decode cX2_notConnected 24 = .ok (.ireturn, 1) := by decide +kernel
theorem dX2_notConnected_25 : decode cX2_notConnected 25 = .ok (.iinc 2 1, 3) := by decide +kernel
theorem dX2_notConnected_28 : decode cX2_notConnected 28 = .ok (.goto (-26), 3) := by decide +kernel
theorem dX2_notConnected_31 : decode cX2_notConnected 31 = .ok (.iconst (-1), 1) := by decide +kernel
theorem dX2_notConnected_32 : decode cX2_notConnected 32 = .ok (.ireturn, 1) := by decide +kernel
theorem dX3_init_0 : decode cX3_init 0 = .ok (.aload_n 0, 1) := by decide +kernel
theorem dX3_init_1 : decode cX3_init 1 = .ok (.invokespecial 3, 3) := by decide +kernel
theorem dX3_init_4 : decode cX3_init 4 = .ok (.aload_n 0, 1) := by decide +kernel
theorem dX3_init_5 : decode cX3_init 5 = .ok (.iload_n 1, 1) := by decide +kernel
theorem dX3_init_6 : decode cX3_init 6 = .ok (.ifCond .le 7, 3) := by decide +kernel
theorem dX3_init_9 : decode cX3_init 9 = .ok (.iload_n 1, 1) := by decide +kernel
theorem dX3_init_10 : decode cX3_init 10 = .ok (.goto 4, 3) := by decide +kernel
theorem dX3_init_13 : decode cX3_init 13 = .ok (.iconst 0, 1) := by decide +kernel
theorem dX3_init_14 : decode cX3_init 14 = .ok (.newarray .int, 2) := by decide +kernel
theorem dX3_init_16 : decode cX3_init 16 = .ok (.putfield 9, 3) := by decide +kernel
theorem dX3_init_19 : decode cX3_init 19 = .ok (.iconst 0, 1) := by decide +kernel
theorem dX3_init_20 : decode cX3_init 20 = .ok (.istore_n 3, 1) := by decide +kernel
theorem dX3_init_21 : decode cX3_init 21 = .ok (.iload_n 3, 1) := by decide +kernel
theorem dX3_init_22 : decode cX3_init 22 = .ok (.aload_n 0, 1) := by decide +kernel
theorem dX3_init_23 : decode cX3_init 23 = .ok (.getfield 9, 3) := by decide +kernel
theorem dX3_init_26 : decode cX3_init 26 = .ok (.arraylength, 1) := by decide +kernel
theorem dX3_init_27 : decode cX3_init 27 = .ok (.if_icmp .ge 16, 3) := by decide +kernel
theorem dX3_init_30 : decode cX3_init 30 = .ok (.aload_n 0, 1) := by decide +kernel
theorem dX3_init_31 : decode cX3_init 31 = .ok (.getfield 9, 3) := by decide +kernel
theorem dX3_init_34 : decode cX3_init 34 = .ok (.iload_n 3, 1) := by decide +kernel
theorem dX3_init_35 : decode cX3_init 35 = .ok (.iload_n 2, 1) := by decide +kernel
theorem dX3_init_36 : decode cX3_init 36 = .ok (.iastore, 1) := by decide +kernel
theorem dX3_init_37 : decode cX3_init 37 = .ok (.iinc 3 1, 3) := by decide +kernel
theorem dX3_init_40 : decode cX3_init 40 = .ok (.goto (-19), 3) := by decide +kernel
theorem dX3_init_43 : decode cX3_init 43 = .ok (.return_, 1) := by decide +kernel
theorem dX3_at_0 : decode cX3_at 0 = .ok (.iload_n 1, 1) := by decide +kernel
theorem dX3_at_1 : decode cX3_at 1 = .ok (.ifCond .lt 21, 3) := by decide +kernel
theorem dX3_at_4 : decode cX3_at 4 = .ok (.iload_n 1, 1) := by decide +kernel
theorem dX3_at_5 : decode cX3_at 5 = .ok (.aload_n 0, 1) := by decide +kernel
theorem dX3_at_6 : decode cX3_at 6 = .ok (.getfield 9, 3) := by decide +kernel
theorem dX3_at_9 : decode cX3_at 9 = .ok (.arraylength, 1) := by decide +kernel
theorem dX3_at_10 : decode cX3_at 10 = .ok (.if_icmp .ge 12, 3) := by decide +kernel
theorem dX3_at_13 : decode cX3_at 13 = .ok (.aload_n 0, 1) := by decide +kernel
theorem dX3_at_14 : decode cX3_at 14 = .ok (.getfield 9, 3) := by decide +kernel
theorem dX3_at_17 : decode cX3_at 17 = .ok (.iload_n 1, 1) := by decide +kernel
theorem dX3_at_18 : decode cX3_at 18 = .ok (.iaload, 1) := by decide +kernel
theorem dX3_at_19 : decode cX3_at 19 = .ok (.goto 4, 3) := by decide +kernel
theorem dX3_at_22 : decode cX3_at 22 = .ok (.iconst (-1), 1) := by decide +kernel
theorem dX3_at_23 : decode cX3_at 23 = .ok (.ireturn, 1) := by decide +kernel
theorem dX3_put_0 : decode cX3_put 0 = .ok (.iload_n 1, 1) := by decide +kernel
theorem dX3_put_1 : decode cX3_put 1 = .ok (.ifCond .lt 19, 3) := by decide +kernel
theorem dX3_put_4 : decode cX3_put 4 = .ok (.iload_n 1, 1) := by decide +kernel
theorem dX3_put_5 : decode cX3_put 5 = .ok (.aload_n 0, 1) := by decide +kernel
theorem dX3_put_6 : decode cX3_put 6 = .ok (.getfield 9, 3) := by decide +kernel
theorem dX3_put_9 : decode cX3_put 9 = .ok (.arraylength, 1) := by decide +kernel
theorem dX3_put_10 : decode cX3_put 10 = .ok (.if_icmp .ge 10, 3) := by decide +kernel
theorem dX3_put_13 : decode cX3_put 13 = .ok (.aload_n 0, 1) := by decide +kernel
theorem dX3_put_14 : decode cX3_put 14 = .ok (.getfield 9, 3) := by decide +kernel
theorem dX3_put_17 : decode cX3_put 17 = .ok (.iload_n 1, 1) := by decide +kernel
theorem dX3_put_18 : decode cX3_put 18 = .ok (.iload_n 2, 1) := by decide +kernel
theorem dX3_put_19 : decode cX3_put 19 = .ok (.iastore, 1) := by decide +kernel
theorem dX3_put_20 : decode cX3_put 20 = .ok (.return_, 1) := by decide +kernel
theorem dX3_fill_0 : decode cX3_fill 0 = .ok (.iconst 0, 1) := by decide +kernel
theorem dX3_fill_1 : decode cX3_fill 1 = .ok (.istore_n 2, 1) := by decide +kernel
theorem dX3_fill_2 : decode cX3_fill 2 = .ok (.iload_n 2, 1) := by decide +kernel
theorem dX3_fill_3 : decode cX3_fill 3 = .ok (.aload_n 0, 1) := by decide +kernel
theorem dX3_fill_4 : decode cX3_fill 4 = .ok (.getfield 9, 3) := by decide +kernel
theorem dX3_fill_7 : decode cX3_fill 7 = .ok (.arraylength, 1) := by decide +kernel
theorem dX3_fill_8 : decode cX3_fill 8 = .ok (.if_icmp .ge 16, 3) := by decide +kernel
theorem dX3_fill_11 : decode cX3_fill 11 = .ok (.aload_n 0, 1) := by decide +kernel
theorem dX3_fill_12 : decode cX3_fill 12 = .ok (.getfield 9, 3) := by decide +kernel
theorem dX3_fill_15 : decode cX3_fill 15 = .ok (.iload_n 2, 1) := by decide +kernel
theorem dX3_fill_16 : decode cX3_fill 16 = .ok (.iload_n 1, 1) := by decide +kernel
theorem dX3_fill_17 : decode cX3_fill 17 = .ok (.iastore, 1) := by decide +kernel
theorem dX3_fill_18 : decode cX3_fill 18 = .ok (.iinc 2 1, 3) := by decide +kernel
theorem dX3_fill_21 : decode cX3_fill 21 = .ok (.goto (-19), 3) := by decide +kernel
theorem dX3_fill_24 : decode cX3_fill 24 = .ok (.return_, 1) := by decide +kernel
theorem dX3_copy_0 : decode cX3_copy 0 = .ok (.iconst 0, 1) := by decide +kernel
theorem dX3_copy_1 : decode cX3_copy 1 = .ok (.istore_n 2, 1) := by decide +kernel
theorem dX3_copy_2 : decode cX3_copy 2 = .ok (.iload_n 2, 1) := by decide +kernel
theorem dX3_copy_3 : decode cX3_copy 3 = .ok (.aload_n 0, 1) := by decide +kernel
theorem dX3_copy_4 : decode cX3_copy 4 = .ok (.getfield 9, 3) := by decide +kernel
theorem dX3_copy_7 : decode cX3_copy 7 = .ok (.arraylength, 1) := by decide +kernel
theorem dX3_copy_8 : decode cX3_copy 8 = .ok (.if_icmp .ge 20, 3) := by decide +kernel
theorem dX3_copy_11 : decode cX3_copy 11 = .ok (.aload_n 0, 1) := by decide +kernel
theorem dX3_copy_12 : decode cX3_copy 12 = .ok (.getfield 9, 3) := by decide +kernel
theorem dX3_copy_15 : decode cX3_copy 15 = .ok (.iload_n 2, 1) := by decide +kernel
theorem dX3_copy_16 : decode cX3_copy 16 = .ok (.aload_n 1, 1) := by decide +kernel
theorem dX3_copy_17 : decode cX3_copy 17 = .ok (.iload_n 2, 1) := by decide +kernel
theorem dX3_copy_18 : decode cX3_copy 18 = .ok (.invokevirtual 15, 3) := by decide +kernel
theorem dX3_copy_21 : decode cX3_copy 21 = .ok (.iastore, 1) := by decide +kernel
theorem dX3_copy_22 : decode cX3_copy 22 = .ok (.iinc 2 1, 3) := by decide +kernel
theorem dX3_copy_25 : decode cX3_copy 25 = .ok (.goto (-23), 3) := by decide +kernel
theorem dX3_copy_28 : decode cX3_copy 28 = .ok (.return_, 1) := by decide +kernel
theorem dX3_isLike_0 : decode cX3_isLike 0 = .ok (.iconst 0, 1) := by decide +kernel
theorem dX3_isLike_1 : decode cX3_isLike 1 = .ok (.istore_n 2, 1) := by decide +kernel
theorem dX3_isLike_2 : decode cX3_isLike 2 = .ok (.iload_n 2, 1) := by decide +kernel
theorem dX3_isLike_3 : decode cX3_isLike 3 = .ok (.aload_n 0, 1) := by decide +kernel
theorem dX3_isLike_4 : decode cX3_isLike 4 = .ok (.getfield 9, 3) := by decide +kernel
theorem dX3_isLike_7 : decode cX3_isLike 7 = .ok (.arraylength, 1) := by decide +kernel
theorem dX3_isLike_8 : decode cX3_isLike 8 = .ok (.if_icmp .ge 25, 3) := by decide +kernel
theorem dX3_isLike_11 : decode cX3_isLike 11 = .ok (.aload_n 0, 1) := by decide +kernel
theorem dX3_isLike_12 : decode cX3_isLike 12 = .ok (.getfield 9, 3) := by decide +kernel
theorem dX3_isLike_15 : decode cX3_isLike 15 = .ok (.iload_n 2, 1) := by decide +kernel
theorem dX3_isLike_16 : decode cX3_isLike 16 = .ok (.iaload, 1) := by decide +kernel
theorem dX3_isLike_17 : decode cX3_isLike 17 = .ok (.aload_n 1, 1) := by decide +kernel
theorem dX3_isLike_18 : decode cX3_isLike 18 = .ok (.iload_n 2, 1) := by decide +kernel
theorem dX3_isLike_19 : decode cX3_isLike 19 = .ok (.invokevirtual 15, 3) := by decide +kernel
theorem dX3_isLike_22 : decode cX3_isLike 22 = .ok (.if_icmp .eq 5, 3) := by decide +kernel
theorem dX3_isLike_25 : decode cX3_isLike 25 = .ok (.iconst 0, 1) := by decide +kernel
theorem dX3_isLike_26 : decode cX3_isLike 26 = .ok (.ireturn, 1) := by decide +kernel
theorem dX3_isLike_27 : decode cX3_isLike 27 = .ok (.iinc 2 1, 3) := by decide +kernel
theorem dX3_isLike_30 : decode cX3_isLike 30 = .ok (.goto (-28), 3) := by decide +kernel
theorem dX3_isLike_33 : decode cX3_isLike 33 = .ok (.iconst 1, 1) := by decide +kernel
theorem dX3_isLike_34 : decode cX3_isLike 34 = .ok (.ireturn, 1) := by decide +kernel
theorem dX3_sum_0 : decode cX3_sum 0 = .ok (.iconst 0, 1) := by decide +kernel
theorem dX3_sum_1 : decode cX3_sum 1 = .ok (.istore_n 1, 1) := by decide +kernel
theorem dX3_sum_2 : decode cX3_sum 2 = .ok (.iconst 0, 1) := by decide +kernel
theorem dX3_sum_3 : decode cX3_sum 3 = .ok (.istore_n 2, 1) := by decide +kernel
theorem dX3_sum_4 : decode cX3_sum 4 = .ok (.iload_n 2, 1) := by decide +kernel
theorem dX3_sum_5 : decode cX3_sum 5 = .ok (.aload_n 0, 1) := by decide +kernel
theorem dX3_sum_6 : decode cX3_sum 6 = .ok (.getfield 9, 3) := by decide +kernel
theorem dX3_sum_9 : decode cX3_sum 9 = .ok (.arraylength, 1) := by decide +kernel
theorem dX3_sum_10 : decode cX3_sum 10 = .ok (.if_icmp .ge 18, 3) := by decide +kernel
theorem dX3_sum_13 : decode cX3_sum 13 = .ok (.iload_n 1, 1) := by decide +kernel
theorem dX3_sum_14 : decode cX3_sum 14 = .ok (.aload_n 0, 1) := by decide +kernel
theorem dX3_sum_15 : decode cX3_sum 15 = .ok (.getfield 9, 3) := by decide +kernel
theorem dX3_sum_18 : decode cX3_sum 18 = .ok (.iload_n 2, 1) := by decide +kernel
theorem dX3_sum_19 : decode cX3_sum 19 = .ok (.iaload, 1) := by decide +kernel
theorem dX3_sum_20 : decode cX3_sum 20 = .ok (.iadd, 1) := by decide +kernel
theorem dX3_sum_21 : decode cX3_sum 21 = .ok (.istore_n 1, 1) := by decide +kernel
theorem dX3_sum_22 : decode cX3_sum 22 = .ok (.iinc 2 1, 3) := by decide +kernel
theorem dX3_sum_25 : decode cX3_sum 25 = .ok (.goto (-21), 3) := by decide +kernel
theorem dX3_sum_28 : decode cX3_sum 28 = .ok (.iload_n 1, 1) := by decide +kernel
theorem dX3_sum_29 : decode cX3_sum 29 = .ok (.ireturn, 1) := by decide +kernel
theorem dX4_init_0 : decode cX4_init 0 = .ok (.aload_n 0, 1) := by decide +kernel
theorem dX4_init_1 : decode cX4_init 1 = .ok (.invokespecial 3, 3) := by decide +kernel
theorem dX4_init_4 : decode cX4_init 4 = .ok (.aload_n 0, 1) := by decide +kernel
theorem dX4_init_5 : decode cX4_init 5 = .ok (.new 9, 3) := by decide +kernel
theorem dX4_init_8 : decode cX4_init 8 = .ok (.dup, 1) := by decide +kernel
theorem dX4_init_9 : decode cX4_init 9 = .ok (.bipush 36, 2) := by decide +kernel
theorem dX4_init_11 : decode cX4_init 11 = .ok (.iconst 0, 1) := by decide +kernel
theorem dX4_init_12 : decode cX4_init 12 = .ok (.invokespecial 11, 3) := by decide +kernel
theorem dX4_init_15 : decode cX4_init 15 = .ok (.putfield 14, 3) := by decide +kernel
theorem dX4_init_18 : decode cX4_init 18 = .ok (.aload_n 0, 1) := by decide +kernel
theorem dX4_init_19 : decode cX4_init 19 = .ok (.new 9, 3) := by decide +kernel
theorem dX4_init_22 : decode cX4_init 22 = .ok (.dup, 1) := by decide +kernel
theorem dX4_init_23 : decode cX4_init 23 = .ok (.bipush 36, 2) := by decide +kernel
theorem dX4_init_25 : decode cX4_init 25 = .ok (.iconst 0, 1) := by decide +kernel
theorem dX4_init_26 : decode cX4_init 26 = .ok (.invokespecial 11, 3) := by decide +kernel
theorem dX4_init_29 : decode cX4_init 29 = .ok (.putfield 20, 3) := by decide +kernel
theorem dX4_init_32 : decode cX4_init 32 = .ok (.aload_n 0, 1) := by decide +kernel
theorem dX4_init_33 : decode cX4_init 33 = .ok (.new 9, 3) := by decide +kernel
theorem dX4_init_36 : decode cX4_init 36 = .ok (.dup, 1) := by decide +kernel
theorem dX4_init_37 : decode cX4_init 37 = .ok (.bipush 36, 2) := by decide +kernel
theorem dX4_init_39 : decode cX4_init 39 = .ok (.iconst (-1), 1) := by decide +kernel
theorem dX4_init_40 : decode cX4_init 40 = .ok (.invokespecial 11, 3) := by decide +kernel
theorem dX4_init_43 : decode cX4_init 43 = .ok (.putfield 23, 3) := by decide +kernel
theorem dX4_init_46 : decode cX4_init 46 = .ok (.aload_n 0, 1) := by decide +kernel
theorem dX4_init_47 : decode cX4_init 47 = .ok (.new 9, 3) := by decide +kernel
theorem dX4_init_50 : decode cX4_init 50 = .ok (.dup, 1) := by decide +kernel
theorem dX4_init_51 : decode cX4_init 51 = .ok (.bipush 36, 2) := by decide +kernel
theorem dX4_init_53 : decode cX4_init 53 = .ok (.iconst (-1), 1) := by decide +kernel
theorem dX4_init_54 : decode cX4_init 54 = .ok (.invokespecial 11, 3) := by decide +kernel
theorem dX4_init_57 : decode cX4_init 57 = .ok (.putfield 26, 3) := by decide +kernel
theorem dX4_init_60 : decode cX4_init 60 = .ok (.aload_n 0, 1) := by decide +kernel
theorem dX4_init_61 : decode cX4_init 61 = .ok (.new 9, 3) := by decide +kernel
theorem dX4_init_64 : decode cX4_init 64 = .ok (.dup, 1) := by decide +kernel
theorem dX4_init_65 : decode cX4_init 65 = .ok (.bipush 36, 2) := by decide +kernel
theorem dX4_init_67 : decode cX4_init 67 = .ok (.iconst (-1), 1) := by decide +kernel
theorem dX4_init_68 : decode cX4_init 68 = .ok (.invokespecial 11, 3) := by decide +kernel
theorem dX4_init_71 : decode cX4_init 71 = .ok (.putfield 29, 3) := by decide +kernel
theorem dX4_init_74 : decode cX4_init 74 = .ok (.aload_n 0, 1) := by decide +kernel
theorem dX4_init_75 : decode cX4_init 75 = .ok (.new 9, 3) := by decide +kernel
theorem dX4_init_78 : decode cX4_init 78 = .ok (.dup, 1) := by decide +kernel
theorem dX4_init_79 : decode cX4_init 79 = .ok (.bipush 9, 2) := by decide +kernel
theorem dX4_init_81 : decode cX4_init 81 = .ok (.iconst (-1), 1) := by decide +kernel
theorem dX4_init_82 : decode cX4_init 82 = .ok (.invokespecial 11, 3) := by decide +kernel
theorem dX4_init_85 : decode cX4_init 85 = .ok (.putfield 32, 3) := by decide +kernel
theorem dX4_init_88 : decode cX4_init 88 = .ok (.aload_n 0, 1) := by decide +kernel
theorem dX4_init_89 : decode cX4_init 89 = .ok (.new 9, 3) := by decide +kernel
theorem dX4_init_92 : decode cX4_init 92 = .ok (.dup, 1) := by decide +kernel
theorem dX4_init_93 : decode cX4_init 93 = .ok (.iconst 2, 1) := by decide +kernel
theorem dX4_init_94 : decode cX4_init 94 = .ok (.iconst 0, 1) := by decide +kernel
theorem dX4_init_95 : decode cX4_init 95 = .ok (.invokespecial 11, 3) := by decide +kernel
theorem dX4_init_98 : decode cX4_init 98 = .ok (.putfield 35, 3) := by decide +kernel
theorem dX4_init_101 : decode cX4_init 101 = .ok (.aload_n 0, 1) := by decide +kernel
theorem dX4_init_102 : decode cX4_init 102 = .ok (.iconst 4, 1) := by decide +kernel
theorem dX4_init_103 : decode cX4_init 103 = .ok (.putfield 38, 3) := by decide +kernel
theorem dX4_init_106 : decode cX4_init 106 = .ok (.aload_n 0, 1) := by decide +kernel
theorem dX4_init_107 : decode cX4_init 107 = .ok (.iconst 0, 1) := by decide +kernel
theorem dX4_init_108 : decode cX4_init 108 = .ok (.putfield 42, 3) := by decide +kernel
theorem dX4_init_111 : decode cX4_init 111 = .ok (.aload_n 0, 1) := by decide +kernel
theorem dX4_init_112 : decode cX4_init 112 = .ok (.iconst 0, 1) := by decide +kernel
theorem dX4_init_113 : decode cX4_init 113 = .ok (.putfield 45, 3) := by decide +kernel
theorem dX4_init_116 : decode cX4_init 116 = .ok (.aload_n 0, 1) := by decide +kernel
theorem dX4_init_117 : decode cX4_init 117 = .ok (.iconst 0, 1) := by decide +kernel
theorem dX4_init_118 : decode cX4_init 118 = .ok (.putfield 48, 3) := by decide +kernel
theorem dX4_init_121 : decode cX4_init 121 = .ok (.return_, 1) := by decide +kernel
theorem dX4_copy_0 : decode cX4_copy 0 = .ok (.aload_n 0, 1) := by decide +kernel
theorem dX4_copy_1 : decode cX4_copy 1 = .ok (.getfield 14, 3) := by decide +kernel
theorem dX4_copy_4 : decode cX4_copy 4 = .ok (.aload_n 1, 1) := by decide +kernel
theorem dX4_copy_5 : decode cX4_copy 5 = .ok (.getfield 14, 3) := by decide +kernel
theorem dX4_copy_8 : decode cX4_copy 8 = .ok (.invokevirtual 51, 3) := by decide +kernel
theorem dX4_copy_11 : decode cX4_copy 11 = .ok (.aload_n 0, 1) := by decide +kernel
theorem dX4_copy_12 : decode cX4_copy 12 = .ok (.getfield 20, 3) := by decide +kernel
theorem dX4_copy_15 : decode cX4_copy 15 = .ok (.aload_n 1, 1) := by decide +kernel
theorem dX4_copy_16 : decode cX4_copy 16 = .ok (.getfield 20, 3) := by decide +kernel
theorem dX4_copy_19 : decode cX4_copy 19 = .ok (.invokevirtual 51, 3) := by decide +kernel
theorem dX4_copy_22 : decode cX4_copy 22 = .ok (.aload_n 0, 1) := by decide +kernel
theorem dX4_copy_23 : decode cX4_copy 23 = .ok (.getfield 23, 3) := by decide +kernel
theorem dX4_copy_26 : decode cX4_copy 26 = .ok (.aload_n 1, 1) := by decide +kernel
theorem dX4_copy_27 : decode cX4_copy 27 = .ok (.getfield 23, 3) := by decide +kernel
theorem dX4_copy_30 : decode cX4_copy 30 = .ok (.invokevirtual 51, 3) := by decide +kernel
theorem dX4_copy_33 : decode cX4_copy 33 = .ok (.aload_n 0, 1) := by decide +kernel
theorem dX4_copy_34 : decode cX4_copy 34 = .ok (.getfield 26, 3) := by decide +kernel
theorem dX4_copy_37 : decode cX4_copy 37 = .ok (.aload_n 1, 1) := by decide +kernel
theorem dX4_copy_38 : decode cX4_copy 38 = .ok (.getfield 26, 3) := by decide +kernel
theorem dX4_copy_41 : decode cX4_copy 41 = .ok (.invokevirtual 51, 3) := by decide +kernel
theorem dX4_copy_44 : decode cX4_copy 44 = .ok (.aload_n 0, 1) := by decide +kernel
theorem dX4_copy_45 : decode cX4_copy 45 = .ok (.getfield 29, 3) := by decide +kernel
theorem dX4_copy_48 : decode cX4_copy 48 = .ok (.aload_n 1, 1) := by decide +kernel
theorem dX4_copy_49 : decode cX4_copy 49 = .ok (.getfield 29, 3) := by decide +kernel
theorem dX4_copy_52 : decode cX4_copy 52 = .ok (.invokevirtual 51, 3) := by decide +kernel
theorem dX4_copy_55 : decode cX4_copy 55 = .ok (.aload_n 0, 1) := by decide +kernel
theorem dX4_copy_56 : decode cX4_copy 56 = .ok (.getfield 32, 3) := by decide +kernel
theorem dX4_copy_59 : decode cX4_copy 59 = .ok (.aload_n 1, 1) := by decide +kernel
theorem dX4_copy_60 : decode cX4_copy 60 = .ok (.getfield 32, 3) := by decide +kernel
theorem dX4_copy_63 : decode cX4_copy 63 = .ok (.invokevirtual 51, 3) := by decide +kernel
theorem dX4_copy_66 : decode cX4_copy 66 = .ok (.aload_n 0, 1) := by decide +kernel
theorem dX4_copy_67 : decode cX4_copy 67 = .ok (.getfield 35, 3) := by decide +kernel
theorem dX4_copy_70 : decode cX4_copy 70 = .ok (.aload_n 1, 1) := by decide +kernel
theorem dX4_copy_71 : decode cX4_copy 71 = .ok (.getfield 35, 3) := by decide +kernel
theorem dX4_copy_74 : decode cX4_copy 74 = .ok (.invokevirtual 51, 3) := by decide +kernel
theorem dX4_copy_77 : decode cX4_copy 77 = .ok (.aload_n 0, 1) := by decide +kernel
theorem dX4_copy_78 : decode cX4_copy 78 = .ok (.aload_n 1, 1) := by decide +kernel
theorem dX4_copy_79 : decode cX4_copy 79 = .ok (.getfield 38, 3) := by decide +kernel
theorem dX4_copy_82 : decode cX4_copy 82 = .ok (.putfield 38, 3) := by decide +kernel
theorem dX4_copy_85 : decode cX4_copy 85 = .ok (.aload_n 0, 1) := by decide +kernel
theorem dX4_copy_86 : decode cX4_copy 86 = .ok (.aload_n 1, 1) := by decide +kernel
theorem dX4_copy_87 : decode cX4_copy 87 = .ok (.getfield 42, 3) := by decide +kernel
theorem dX4_copy_90 : decode cX4_copy 90 = .ok (.putfield 42, 3) := by decide +kernel
theorem dX4_copy_93 : decode cX4_copy 93 = .ok (.aload_n 0, 1) := by decide +kernel
theorem dX4_copy_94 : decode cX4_copy 94 = .ok (.aload_n 1, 1) := by decide +kernel
theorem dX4_copy_95 : decode cX4_copy 95 = .ok (.getfield 45, 3) := by decide +kernel
theorem dX4_copy_98 : decode cX4_copy 98 = .ok (.putfield 45, 3) := by decide +kernel
theorem dX4_copy_101 : decode cX4_copy 101 = .ok (.aload_n 0, 1) := by decide +kernel
theorem dX4_copy_102 : decode cX4_copy 102 = .ok (.aload_n 1, 1) := by decide +kernel
theorem dX4_copy_103 : decode cX4_copy 103 = .ok (.getfield 48, 3) := by decide +kernel
theorem dX4_copy_106 : decode cX4_copy 106 = .ok (.putfield 48, 3) := by decide +kernel
theorem dX4_copy_109 : decode cX4_copy 109 = .ok (.return_, 1) := by decide +kernel
theorem dX4_startAnew_0 : decode cX4_startAnew 0 = .ok (.aload_n 0, 1) := by decide +kernel
theorem dX4_startAnew_1 : decode cX4_startAnew 1 = .ok (.getfield 23, 3) := by decide +kernel
theorem dX4_startAnew_4 : decode cX4_startAnew 4 = .ok (.iconst (-1), 1) := by decide +kernel
theorem dX4_startAnew_5 : decode cX4_startAnew 5 = .ok (.invokevirtual 55, 3) := by decide +kernel
theorem dX4_startAnew_8 : decode cX4_startAnew 8 = .ok (.aload_n 0, 1) := by decide +kernel
theorem dX4_startAnew_9 : decode cX4_startAnew 9 = .ok (.getfield 26, 3) := by decide +kernel
theorem dX4_startAnew_12 : decode cX4_startAnew 12 = .ok (.iconst (-1), 1) := by decide +kernel
theorem dX4_startAnew_13 : decode cX4_startAnew 13 = .ok (.invokevirtual 55, 3) := by decide +kernel
theorem dX4_startAnew_16 : decode cX4_startAnew 16 = .ok (.aload_n 0, 1) := by decide +kernel
theorem dX4_startAnew_17 : decode cX4_startAnew 17 = .ok (.getfield 29, 3) := by decide +kernel
theorem dX4_startAnew_20 : decode cX4_startAnew 20 = .ok (.iconst (-1), 1) := by decide +kernel
theorem dX4_startAnew_21 : decode cX4_startAnew 21 = .ok (.invokevirtual 55, 3) := by decide +kernel
theorem dX4_startAnew_24 : decode cX4_startAnew 24 = .ok (.aload_n 0, 1) := by decide +kernel
theorem dX4_startAnew_25 : decode cX4_startAnew 25 = .ok (.getfield 32, 3) := by decide +kernel
theorem dX4_startAnew_28 : decode cX4_startAnew 28 = .ok (.iconst (-1), 1) := by decide +kernel
theorem dX4_startAnew_29 : decode cX4_startAnew 29 = .ok (.invokevirtual 55, 3) := by decide +kernel
theorem dX4_startAnew_32 : decode cX4_startAnew 32 = .ok (.aload_n 0, 1) := by decide +kernel
theorem dX4_startAnew_33 : decode cX4_startAnew 33 = .ok (.iload_n 1, 1) := by decide +kernel
theorem dX4_startAnew_34 : decode cX4_startAnew 34 = .ok (.putfield 38, 3) := by decide +kernel
theorem dX4_startAnew_37 : decode cX4_startAnew 37 = .ok (.aload_n 0, 1) := by decide +kernel
theorem dX4_startAnew_38 : decode cX4_startAnew 38 = .ok (.iconst 0, 1) := by decide +kernel
theorem dX4_startAnew_39 : decode cX4_startAnew 39 = .ok (.putfield 42, 3) := by decide +kernel
theorem dX4_startAnew_42 : decode cX4_startAnew 42 = .ok (.aload_n 0, 1) := by decide +kernel
theorem dX4_startAnew_43 : decode cX4_startAnew 43 = .ok (.iconst 0, 1) := by decide +kernel
theorem dX4_startAnew_44 : decode cX4_startAnew 44 = .ok (.putfield 45, 3) := by decide +kernel
theorem dX4_startAnew_47 : decode cX4_startAnew 47 = .ok (.aload_n 0, 1) := by decide +kernel
theorem dX4_startAnew_48 : decode cX4_startAnew 48 = .ok (.iconst 0, 1) := by decide +kernel
theorem dX4_startAnew_49 : decode cX4_startAnew 49 = .ok (.putfield 48, 3) := by decide +kernel
theorem dX4_startAnew_52 : decode cX4_startAnew 52 = .ok (.return_, 1) := by decide +kernel
theorem dX4_size_0 : decode cX4_size 0 = .ok (.aload_n 0, 1) := by decide +kernel
theorem dX4_size_1 : decode cX4_size 1 = .ok (.getfield 38, 3) := by decide +kernel
theorem dX4_size_4 : decode cX4_size 4 = .ok (.ifCond .le 13, 3) := by decide +kernel
theorem dX4_size_7 : decode cX4_size 7 = .ok (.bipush 36, 2) := by decide +kernel
theorem dX4_size_9 : decode cX4_size 9 = .ok (.aload_n 0, 1) := by decide +kernel
theorem dX4_size_10 : decode cX4_size 10 = .ok (.getfield 38, 3) := by decide +kernel
theorem dX4_size_13 : decode cX4_size 13 = .ok (.idiv, 1) := by decide +kernel
theorem dX4_size_14 : decode cX4_size 14 = .ok (.goto 4, 3) := by decide +kernel
theorem dX4_size_17 : decode cX4_size 17 = .ok (.iconst 0, 1) := by decide +kernel
theorem dX4_size_18 : decode cX4_size 18 = .ok (.ireturn, 1) := by decide +kernel
theorem dX4_left_0 : decode cX4_left 0 = .ok (.aload_n 0, 1) := by decide +kernel
theorem dX4_left_1 : decode cX4_left 1 = .ok (.getfield 38, 3) := by decide +kernel
theorem dX4_left_4 : decode cX4_left 4 = .ok (.aload_n 0, 1) := by decide +kernel
theorem dX4_left_5 : decode cX4_left 5 = .ok (.getfield 42, 3) := by decide +kernel
theorem dX4_left_8 : decode cX4_left 8 = .ok (.isub, 1) := by decide +kernel
theorem dX4_left_9 : decode cX4_left 9 = .ok (.ireturn, 1) := by decide +kernel
theorem dX4_isOpen_0 : decode cX4_isOpen 0 = .ok (.aload_n 0, 1) := by decide +kernel
theorem dX4_isOpen_1 : decode cX4_isOpen 1 = .ok (.getfield 26, 3) := by decide +kernel
theorem dX4_isOpen_4 : decode cX4_isOpen 4 = .ok (.iload_n 1, 1) := by decide +kernel
theorem dX4_isOpen_5 : decode cX4_isOpen 5 = .ok (.invokevirtual 59, 3) := by decide +kernel
theorem dX4_isOpen_8 : decode cX4_isOpen 8 = .ok (.iconst (-1), 1) := by decide +kernel
theorem dX4_isOpen_9 : decode cX4_isOpen 9 = .ok (.if_icmp .ne 7, 3) := by decide +kernel
theorem dX4_isOpen_12 : decode cX4_isOpen 12 = .ok (.iconst 1, 1) := by decide +kernel
theorem dX4_isOpen_13 : decode cX4_isOpen 13 = .ok (.goto 4, 3) := by decide +kernel
theorem dX4_isOpen_16 : decode cX4_isOpen 16 = .ok (.iconst 0, 1) := by decide +kernel
theorem dX4_isOpen_17 : decode cX4_isOpen 17 = .ok (.ireturn, 1) := by decide +kernel
theorem dX4_isPart_0 : decode cX4_isPart 0 = .ok (.iload_n 1, 1) := by decide +kernel
theorem dX4_isPart_1 : decode cX4_isPart 1 = .ok (.ifCond .lt 15, 3) := by decide +kernel
theorem dX4_isPart_4 : decode cX4_isPart 4 = .ok (.iload_n 1, 1) := by decide +kernel
theorem dX4_isPart_5 : decode cX4_isPart 5 = .ok (.aload_n 0, 1) := by decide +kernel
theorem dX4_isPart_6 : decode cX4_isPart 6 = .ok (.invokevirtual 63, 3) := by decide +kernel
theorem dX4_isPart_9 : decode cX4_isPart 9 = .ok (.if_icmp .ge 7, 3) := by decide +kernel
theorem dX4_isPart_12 : decode cX4_isPart 12 = .ok (.iconst 1, 1) := by decide +kernel
theorem dX4_isPart_13 : decode cX4_isPart 13 = .ok (.goto 4, 3) := by decide +kernel
theorem dX4_isPart_16 : decode cX4_isPart 16 = .ok (.iconst 0, 1) := by decide +kernel
theorem dX4_isPart_17 : decode cX4_isPart 17 = .ok (.ireturn, 1) := by decide +kernel
theorem dX4_player_0 : decode cX4_player 0 = .ok (.aload_n 0, 1) := by decide +kernel
theorem dX4_player_1 : decode cX4_player 1 = .ok (.getfield 48, 3) := by decide +kernel
theorem dX4_player_4 : decode cX4_player 4 = .ok (.lookupswitch 40 #[(0, 28), (1, 33)], 28) := by decide +kernel
theorem dX4_player_32 : decode cX4_player 32 = .ok (.aload_n 0, 1) := by decide +kernel
theorem dX4_player_33 : decode cX4_player 33 = .ok (.getfield 45, 3) := by decide +kernel
theorem dX4_player_36 : decode cX4_player 36 = .ok (.ireturn, 1) := by decide +kernel
theorem dX4_player_37 : decode cX4_player 37 = .ok (.iconst 1, 1) := by decide +kernel
theorem dX4_player_38 : decode cX4_player 38 = .ok (.aload_n 0, 1) := by decide +kernel
theorem dX4_player_39 : decode cX4_player 39 = .ok (.getfield 45, 3) := by decide +kernel
theorem dX4_player_42 : decode cX4_player 42 = .ok (.isub, 1) := by decide +kernel
theorem dX4_player_43 : decode cX4_player 43 = .ok (.ireturn, 1) := by decide +kernel
theorem dX4_player_44 : decode cX4_player 44 = .ok (.iconst (-1), 1) := by decide +kernel
theorem dX4_player_45 : decode cX4_player 45 = .ok (.ireturn, 1) := by decide +kernel
theorem dX4_openWithoutPart_0 : decode cX4_openWithoutPart 0 = .ok (.iconst 0, 1) := by decide +kernel
theorem dX4_openWithoutPart_1 : decode cX4_openWithoutPart 1 = .ok (.istore_n 1, 1) := by decide +kernel
theorem dX4_openWithoutPart_2 : decode cX4_openWithoutPart 2 = .ok (.iconst 0, 1) := by decide +kernel
theorem dX4_openWithoutPart_3 : decode cX4_openWithoutPart 3 = .ok (.istore_n 2, 1) := by decide +kernel
theorem dX4_openWithoutPart_4 : decode cX4_openWithoutPart 4 = .ok (.iload_n 2, 1) := by decide +kernel
theorem dX4_openWithoutPart_5 : decode cX4_openWithoutPart 5 = .ok (.bipush 36, 2) := by decide +kernel
theorem dX4_openWithoutPart_7 : decode cX4_openWithoutPart 7 = .ok (.if_icmp .ge 32, 3) := by decide +kernel
theorem dX4_openWithoutPart_10 : decode cX4_openWithoutPart 10 = .ok (.aload_n 0, 1) := by decide +kernel
theorem dX4_openWithoutPart_11 : decode cX4_openWithoutPart 11 = .ok (.iload_n 2, 1) := by decide +kernel
theorem dX4_openWithoutPart_12 : decode cX4_openWithoutPart 12 = .ok (.invokevirtual 67, 3) := by decide +kernel
theorem dX4_openWithoutPart_15 : decode cX4_openWithoutPart 15 = .ok (.ifCond .eq 18, 3) := by decide +kernel
theorem dX4_openWithoutPart_18 : decode cX4_openWithoutPart 18 = .ok (.aload_n 0, 1) := by decide +kernel
theorem dX4_openWithoutPart_19 : decode cX4_openWithoutPart 19 = .ok (.getfield 23, 3) := by decide +kernel
theorem dX4_openWithoutPart_22 : decode cX4_openWithoutPart 22 = .ok (.iload_n 2, 1) := by decide +kernel
theorem dX4_openWithoutPart_23 : decode cX4_openWithoutPart 23 = .ok (.invokevirtual 59, 3) := by decide +kernel
theorem dX4_openWithoutPart_26 : decode cX4_openWithoutPart 26 = .ok (.iconst (-1), 1) := by decide +kernel
theorem dX4_openWithoutPart_27 : decode cX4_openWithoutPart 27 = .ok (.if_icmp .ne 6, 3) := by decide +kernel
theorem dX4_openWithoutPart_30 : decode cX4_openWithoutPart 30 = .ok (.iinc 1 1, 3) := by decide +kernel
theorem dX4_openWithoutPart_33 : decode cX4_openWithoutPart 33 = .ok (.iinc 2 1, 3) := by decide +kernel
theorem dX4_openWithoutPart_36 : decode cX4_openWithoutPart 36 = .ok (.goto (-32), 3) := by decide +kernel
theorem dX4_openWithoutPart_39 : decode cX4_openWithoutPart 39 = .ok (.iload_n 1, 1) := by decide +kernel
theorem dX4_openWithoutPart_40 : decode cX4_openWithoutPart 40 = .ok (.ireturn, 1) := by decide +kernel
theorem dX4_takePart_0 : decode cX4_takePart 0 = .ok (.aload_n 0, 1) := by decide +kernel
theorem dX4_takePart_1 : decode cX4_takePart 1 = .ok (.aload_n 0, 1) := by decide +kernel
theorem dX4_takePart_2 : decode cX4_takePart 2 = .ok (.getfield 23, 3) := by decide +kernel
theorem dX4_takePart_5 : decode cX4_takePart 5 = .ok (.iload_n 1, 1) := by decide +kernel
theorem dX4_takePart_6 : decode cX4_takePart 6 = .ok (.iconst 1, 1) := by decide +kernel
theorem dX4_takePart_7 : decode cX4_takePart 7 = .ok (.aload_n 0, 1) := by decide +kernel
theorem dX4_takePart_8 : decode cX4_takePart 8 = .ok (.getfield 45, 3) := by decide +kernel
theorem dX4_takePart_11 : decode cX4_takePart 11 = .ok (.isub, 1) := by decide +kernel
theorem dX4_takePart_12 : decode cX4_takePart 12 = .ok (.invokevirtual 71, 3) := by decide +kernel
theorem dX4_takePart_15 : decode cX4_takePart 15 = .ok (.aload_n 0, 1) := by decide +kernel
theorem dX4_takePart_16 : decode cX4_takePart 16 = .ok (.iload_n 1, 1) := by decide +kernel
theorem dX4_takePart_17 : decode cX4_takePart 17 = .ok (.invokevirtual 75, 3) := by decide +kernel
theorem dX4_takePart_20 : decode cX4_takePart 20 = .ok (.aload_n 0, 1) := by decide +kernel
theorem dX4_takePart_21 : decode cX4_takePart 21 = .ok (.getfield 23, 3) := by decide +kernel
theorem dX4_takePart_24 : decode cX4_takePart 24 = .ok (.iconst (-1), 1) := by decide +kernel
theorem dX4_takePart_25 : decode cX4_takePart 25 = .ok (.invokevirtual 55, 3) := by decide +kernel
theorem dX4_takePart_28 : decode cX4_takePart 28 = .ok (.aload_n 0, 1) := by decide +kernel
theorem dX4_takePart_29 : decode cX4_takePart 29 = .ok (.invokevirtual 63, 3) := by decide +kernel
theorem dX4_takePart_32 : decode cX4_takePart 32 = .ok (.iconst 1, 1) := by decide +kernel
theorem dX4_takePart_33 : decode cX4_takePart 33 = .ok (.if_icmp .ne 24, 3) := by decide +kernel
theorem dX4_takePart_36 : decode cX4_takePart 36 = .ok (.aload_n 0, 1) := by decide +kernel
theorem dX4_takePart_37 : decode cX4_takePart 37 = .ok (.aload_n 0, 1) := by decide +kernel
theorem dX4_takePart_38 : decode cX4_takePart 38 = .ok (.getfield 29, 3) := by decide +kernel
theorem dX4_takePart_41 : decode cX4_takePart 41 = .ok (.iconst 0, 1) := by decide +kernel
theorem dX4_takePart_42 : decode cX4_takePart 42 = .ok (.aload_n 0, 1) := by decide +kernel
theorem dX4_takePart_43 : decode cX4_takePart 43 = .ok (.getfield 45, 3) := by decide +kernel
theorem dX4_takePart_46 : decode cX4_takePart 46 = .ok (.invokevirtual 71, 3) := by decide +kernel
theorem dX4_takePart_49 : decode cX4_takePart 49 = .ok (.aload_n 0, 1) := by decide +kernel
theorem dX4_takePart_50 : decode cX4_takePart 50 = .ok (.iconst 2, 1) := by decide +kernel
theorem dX4_takePart_51 : decode cX4_takePart 51 = .ok (.putfield 48, 3) := by decide +kernel
theorem dX4_takePart_54 : decode cX4_takePart 54 = .ok (.goto 18, 3) := by decide +kernel
theorem dX4_takePart_57 : decode cX4_takePart 57 = .ok (.aload_n 0, 1) := by decide +kernel
theorem dX4_takePart_58 : decode cX4_takePart 58 = .ok (.iconst 1, 1) := by decide +kernel
theorem dX4_takePart_59 : decode cX4_takePart 59 = .ok (.aload_n 0, 1) := by decide +kernel
theorem dX4_takePart_60 : decode cX4_takePart 60 = .ok (.getfield 45, 3) := by decide +kernel
theorem dX4_takePart_63 : decode cX4_takePart 63 = .ok (.isub, 1) := by decide +kernel
theorem dX4_takePart_64 : decode cX4_takePart 64 = .ok (.putfield 45, 3) := by decide +kernel
theorem dX4_takePart_67 : decode cX4_takePart 67 = .ok (.aload_n 0, 1) := by decide +kernel
theorem dX4_takePart_68 : decode cX4_takePart 68 = .ok (.iconst 0, 1) := by decide +kernel
theorem dX4_takePart_69 : decode cX4_takePart 69 = .ok (.putfield 48, 3) := by decide +kernel
theorem dX4_takePart_72 : decode cX4_takePart 72 = .ok (.return_, 1) := by decide +kernel
theorem dX4_makeDistrict_0 : decode cX4_makeDistrict 0 = .ok (.iconst 0, 1) := by decide +kernel
theorem dX4_makeDistrict_1 : decode cX4_makeDistrict 1 = .ok (.istore 4, 2) := by decide +kernel
theorem dX4_makeDistrict_3 : decode cX4_makeDistrict 3 = .ok (.iload 4, 2) := by decide +kernel
theorem dX4_makeDistrict_5 : decode cX4_makeDistrict 5 = .ok (.bipush 36, 2) := by decide +kernel
theorem dX4_makeDistrict_7 : decode cX4_makeDistrict 7 = .ok (.if_icmp .ge 32, 3) := by decide +kernel
theorem dX4_makeDistrict_10 : decode cX4_makeDistrict 10 = .ok (.aload_n 1, 1) := by decide +kernel
theorem dX4_makeDistrict_11 : decode cX4_makeDistrict 11 = .ok (.iload 4, 2) := by decide +kernel
theorem dX4_makeDistrict_13 : decode cX4_makeDistrict 13 = .ok (.invokevirtual 59, 3) := by decide +kernel
theorem dX4_makeDistrict_16 : decode cX4_makeDistrict 16 = .ok (.iload_n 2, 1) := by decide +kernel
theorem dX4_makeDistrict_17 : decode cX4_makeDistrict 17 = .ok (.if_icmp .ne 16, 3) := by decide +kernel
theorem dX4_makeDistrict_20 : decode cX4_makeDistrict 20 = .ok (.aload_n 0, 1) := by decide +kernel
theorem dX4_makeDistrict_21 : decode cX4_makeDistrict 21 = .ok (.getfield 26, 3) := by decide +kernel
theorem dX4_makeDistrict_24 : decode cX4_makeDistrict 24 = .ok (.iload 4, 2) := by decide +kernel
theorem dX4_makeDistrict_26 : decode cX4_makeDistrict 26 = .ok (.aload_n 0, 1) := by decide +kernel
theorem dX4_makeDistrict_27 : decode cX4_makeDistrict 27 = .ok (.getfield 42, 3) := by decide +kernel
theorem dX4_makeDistrict_30 : decode cX4_makeDistrict 30 = .ok (.invokevirtual 78, 3) := by decide +kernel
theorem dX4_makeDistrict_33 : decode cX4_makeDistrict 33 = .ok (.iinc 4 1, 3) := by decide +kernel
theorem dX4_makeDistrict_36 : decode cX4_makeDistrict 36 = .ok (.goto (-33), 3) := by decide +kernel
theorem dX4_makeDistrict_39 : decode cX4_makeDistrict 39 = .ok (.aload_n 0, 1) := by decide +kernel
theorem dX4_makeDistrict_40 : decode cX4_makeDistrict 40 = .ok (.getfield 32, 3) := by decide +kernel
theorem dX4_makeDistrict_43 : decode cX4_makeDistrict 43 = .ok (.aload_n 0, 1) := by decide +kernel
theorem dX4_makeDistrict_44 : decode cX4_makeDistrict 44 = .ok (.getfield 42, 3) := by decide +kernel
theorem dX4_makeDistrict_47 : decode cX4_makeDistrict 47 = .ok (.iload_n 3, 1) := by decide +kernel
theorem dX4_makeDistrict_48 : decode cX4_makeDistrict 48 = .ok (.invokevirtual 78, 3) := by decide +kernel
theorem dX4_makeDistrict_51 : decode cX4_makeDistrict 51 = .ok (.aload_n 0, 1) := by decide +kernel
theorem dX4_makeDistrict_52 : decode cX4_makeDistrict 52 = .ok (.dup, 1) := by decide +kernel
theorem dX4_makeDistrict_53 : decode cX4_makeDistrict 53 = .ok (.getfield 42, 3) := by decide +kernel
theorem dX4_makeDistrict_56 : decode cX4_makeDistrict 56 = .ok (.iconst 1, 1) := by decide +kernel
theorem dX4_makeDistrict_57 : decode cX4_makeDistrict 57 = .ok (.iadd, 1) := by decide +kernel
theorem dX4_makeDistrict_58 : decode cX4_makeDistrict 58 = .ok (.putfield 42, 3) := by decide +kernel
theorem dX4_makeDistrict_61 : decode cX4_makeDistrict 61 = .ok (.return_, 1) := by decide +kernel
theorem dX4_leaveRest_0 : decode cX4_leaveRest 0 = .ok (.iconst 0, 1) := by decide +kernel
theorem dX4_leaveRest_1 : decode cX4_leaveRest 1 = .ok (.istore_n 2, 1) := by decide +kernel
theorem dX4_leaveRest_2 : decode cX4_leaveRest 2 = .ok (.iload_n 2, 1) := by decide +kernel
theorem dX4_leaveRest_3 : decode cX4_leaveRest 3 = .ok (.bipush 36, 2) := by decide +kernel
theorem dX4_leaveRest_5 : decode cX4_leaveRest 5 = .ok (.if_icmp .ge 45, 3) := by decide +kernel
theorem dX4_leaveRest_8 : decode cX4_leaveRest 8 = .ok (.aload_n 0, 1) := by decide +kernel
theorem dX4_leaveRest_9 : decode cX4_leaveRest 9 = .ok (.getfield 23, 3) := by decide +kernel
theorem dX4_leaveRest_12 : decode cX4_leaveRest 12 = .ok (.iload_n 2, 1) := by decide +kernel
theorem dX4_leaveRest_13 : decode cX4_leaveRest 13 = .ok (.invokevirtual 59, 3) := by decide +kernel
theorem dX4_leaveRest_16 : decode cX4_leaveRest 16 = .ok (.istore_n 3, 1) := by decide +kernel
theorem dX4_leaveRest_17 : decode cX4_leaveRest 17 = .ok (.iload_n 3, 1) := by decide +kernel
theorem dX4_leaveRest_18 : decode cX4_leaveRest 18 = .ok (.iload_n 1, 1) := by decide +kernel
theorem dX4_leaveRest_19 : decode cX4_leaveRest 19 = .ok (.if_icmp .ne 8, 3) := by decide +kernel
theorem dX4_leaveRest_22 : decode cX4_leaveRest 22 = .ok (.iconst (-1), 1) := by decide +kernel
theorem dX4_leaveRest_23 : decode cX4_leaveRest 23 = .ok (.istore_n 3, 1) := by decide +kernel
theorem dX4_leaveRest_24 : decode cX4_leaveRest 24 = .ok (.goto 11, 3) := by decide +kernel
theorem dX4_leaveRest_27 : decode cX4_leaveRest 27 = .ok (.iload_n 3, 1) := by decide +kernel
theorem dX4_leaveRest_28 : decode cX4_leaveRest 28 = .ok (.iload_n 1, 1) := by decide +kernel
theorem dX4_leaveRest_29 : decode cX4_leaveRest 29 = .ok (.if_icmp .le 6, 3) := by decide +kernel
theorem dX4_leaveRest_32 : decode cX4_leaveRest 32 = .ok (.iinc 3 (-1), 3) := by decide +kernel
theorem dX4_leaveRest_35 : decode cX4_leaveRest 35 = .ok (.aload_n 0, 1) := by decide +kernel
theorem dX4_leaveRest_36 : decode cX4_leaveRest 36 = .ok (.getfield 29, 3) := by decide +kernel
theorem dX4_leaveRest_39 : decode cX4_leaveRest 39 = .ok (.iload_n 2, 1) := by decide +kernel
theorem dX4_leaveRest_40 : decode cX4_leaveRest 40 = .ok (.iload_n 3, 1) := by decide +kernel
theorem dX4_leaveRest_41 : decode cX4_leaveRest 41 = .ok (.invokevirtual 78, 3) := by decide +kernel
theorem dX4_leaveRest_44 : decode cX4_leaveRest 44 = .ok (.iinc 2 1, 3) := by decide +kernel
theorem dX4_leaveRest_47 : decode cX4_leaveRest 47 = .ok (.goto (-45), 3) := by decide +kernel
theorem dX4_leaveRest_50 : decode cX4_leaveRest 50 = .ok (.return_, 1) := by decide +kernel
theorem dX4_votesOf_0 : decode cX4_votesOf 0 = .ok (.iload_n 1, 1) := by decide +kernel
theorem dX4_votesOf_1 : decode cX4_votesOf 1 = .ok (.ifCond .ne 10, 3) := by decide +kernel
theorem dX4_votesOf_4 : decode cX4_votesOf 4 = .ok (.aload_n 0, 1) := by decide +kernel
theorem dX4_votesOf_5 : decode cX4_votesOf 5 = .ok (.getfield 14, 3) := by decide +kernel
theorem dX4_votesOf_8 : decode cX4_votesOf 8 = .ok (.goto 7, 3) := by decide +kernel
theorem dX4_votesOf_11 : decode cX4_votesOf 11 = .ok (.aload_n 0, 1) := by decide +kernel
theorem dX4_votesOf_12 : decode cX4_votesOf 12 = .ok (.getfield 20, 3) := by decide +kernel
theorem dX4_votesOf_15 : decode cX4_votesOf 15 = .ok (.areturn, 1) := by decide +kernel
theorem dX4_margin_0 : decode cX4_margin 0 = .ok (.aload_n 1, 1) := by decide +kernel
theorem dX4_margin_1 : decode cX4_margin 1 = .ok (.iload_n 2, 1) := by decide +kernel
theorem dX4_margin_2 : decode cX4_margin 2 = .ok (.aload_n 0, 1) := by decide +kernel
theorem dX4_margin_3 : decode cX4_margin 3 = .ok (.iload_n 3, 1) := by decide +kernel
theorem dX4_margin_4 : decode cX4_margin 4 = .ok (.invokevirtual 81, 3) := by decide +kernel
theorem dX4_margin_7 : decode cX4_margin 7 = .ok (.invokestatic 85, 3) := by decide +kernel
theorem dX4_margin_10 : decode cX4_margin 10 = .ok (.aload_n 1, 1) := by decide +kernel
theorem dX4_margin_11 : decode cX4_margin 11 = .ok (.iload_n 2, 1) := by decide +kernel
theorem dX4_margin_12 : decode cX4_margin 12 = .ok (.aload_n 0, 1) := by decide +kernel
theorem dX4_margin_13 : decode cX4_margin 13 = .ok (.iconst 1, 1) := by decide +kernel
theorem dX4_margin_14 : decode cX4_margin 14 = .ok (.iload_n 3, 1) := by decide +kernel
theorem dX4_margin_15 : decode cX4_margin 15 = .ok (.isub, 1) := by decide +kernel
theorem dX4_margin_16 : decode cX4_margin 16 = .ok (.invokevirtual 81, 3) := by decide +kernel
theorem dX4_margin_19 : decode cX4_margin 19 = .ok (.invokestatic 85, 3) := by decide +kernel
theorem dX4_margin_22 : decode cX4_margin 22 = .ok (.isub, 1) := by decide +kernel
theorem dX4_margin_23 : decode cX4_margin 23 = .ok (.ireturn, 1) := by decide +kernel
theorem dX4_winner_0 : decode cX4_winner 0 = .ok (.aload_n 0, 1) := by decide +kernel
theorem dX4_winner_1 : decode cX4_winner 1 = .ok (.aload_n 1, 1) := by decide +kernel
theorem dX4_winner_2 : decode cX4_winner 2 = .ok (.iload_n 2, 1) := by decide +kernel
theorem dX4_winner_3 : decode cX4_winner 3 = .ok (.iconst 0, 1) := by decide +kernel
theorem dX4_winner_4 : decode cX4_winner 4 = .ok (.invokevirtual 91, 3) := by decide +kernel
theorem dX4_winner_7 : decode cX4_winner 7 = .ok (.istore_n 3, 1) := by decide +kernel
theorem dX4_winner_8 : decode cX4_winner 8 = .ok (.iload_n 3, 1) := by decide +kernel
theorem dX4_winner_9 : decode cX4_winner 9 = .ok (.ifCond .ne 5, 3) := by decide +kernel
theorem dX4_winner_12 : decode cX4_winner 12 = .ok (.iconst 2, 1) := by decide +kernel
theorem dX4_winner_13 : decode cX4_winner 13 = .ok (.ireturn, 1) := by decide +kernel
theorem dX4_winner_14 : decode cX4_winner 14 = .ok (.iload_n 3, 1) := by decide +kernel
theorem dX4_winner_15 : decode cX4_winner 15 = .ok (.ifCond .le 7, 3) := by decide +kernel
theorem dX4_winner_18 : decode cX4_winner 18 = .ok (.iconst 0, 1) := by decide +kernel
theorem dX4_winner_19 : decode cX4_winner 19 = .ok (.goto 4, 3) := by decide +kernel
theorem dX4_winner_22 : decode cX4_winner 22 = .ok (.iconst 1, 1) := by decide +kernel
theorem dX4_winner_23 : decode cX4_winner 23 = .ok (.ireturn, 1) := by decide +kernel
theorem dX4_won_0 : decode cX4_won 0 = .ok (.iconst 0, 1) := by decide +kernel
theorem dX4_won_1 : decode cX4_won 1 = .ok (.istore 4, 2) := by decide +kernel
theorem dX4_won_3 : decode cX4_won 3 = .ok (.iconst 0, 1) := by decide +kernel
theorem dX4_won_4 : decode cX4_won 4 = .ok (.istore 5, 2) := by decide +kernel
theorem dX4_won_6 : decode cX4_won 6 = .ok (.iload 5, 2) := by decide +kernel
theorem dX4_won_8 : decode cX4_won 8 = .ok (.iload_n 2, 1) := by decide +kernel
theorem dX4_won_9 : decode cX4_won 9 = .ok (.if_icmp .ge 23, 3) := by decide +kernel
theorem dX4_won_12 : decode cX4_won 12 = .ok (.aload_n 0, 1) := by decide +kernel
theorem dX4_won_13 : decode cX4_won 13 = .ok (.aload_n 1, 1) := by decide +kernel
theorem dX4_won_14 : decode cX4_won 14 = .ok (.iload 5, 2) := by decide +kernel
theorem dX4_won_16 : decode cX4_won 16 = .ok (.invokevirtual 95, 3) := by decide +kernel
theorem dX4_won_19 : decode cX4_won 19 = .ok (.iload_n 3, 1) := by decide +kernel
theorem dX4_won_20 : decode cX4_won 20 = .ok (.if_icmp .ne 6, 3) := by decide +kernel
theorem dX4_won_23 : decode cX4_won 23 = .ok (.iinc 4 1, 3) := by decide +kernel
theorem dX4_won_26 : decode cX4_won 26 = .ok (.iinc 5 1, 3) := by decide +kernel
theorem dX4_won_29 : decode cX4_won 29 = .ok (.goto (-23), 3) := by decide +kernel
theorem dX4_won_32 : decode cX4_won 32 = .ok (.iload 4, 2) := by decide +kernel
theorem dX4_won_34 : decode cX4_won 34 = .ok (.ireturn, 1) := by decide +kernel
theorem dX4_seats_0 : decode cX4_seats 0 = .ok (.aload_n 0, 1) := by decide +kernel
theorem dX4_seats_1 : decode cX4_seats 1 = .ok (.aload_n 0, 1) := by decide +kernel
theorem dX4_seats_2 : decode cX4_seats 2 = .ok (.getfield 26, 3) := by decide +kernel
theorem dX4_seats_5 : decode cX4_seats 5 = .ok (.aload_n 0, 1) := by decide +kernel
theorem dX4_seats_6 : decode cX4_seats 6 = .ok (.getfield 42, 3) := by decide +kernel
theorem dX4_seats_9 : decode cX4_seats 9 = .ok (.iload_n 1, 1) := by decide +kernel
theorem dX4_seats_10 : decode cX4_seats 10 = .ok (.invokevirtual 99, 3) := by decide +kernel
theorem dX4_seats_13 : decode cX4_seats 13 = .ok (.ireturn, 1) := by decide +kernel
theorem dX4_wasted_0 : decode cX4_wasted 0 = .ok (.aload_n 0, 1) := by decide +kernel
theorem dX4_wasted_1 : decode cX4_wasted 1 = .ok (.getfield 26, 3) := by decide +kernel
theorem dX4_wasted_4 : decode cX4_wasted 4 = .ok (.iload_n 1, 1) := by decide +kernel
theorem dX4_wasted_5 : decode cX4_wasted 5 = .ok (.aload_n 0, 1) := by decide +kernel
theorem dX4_wasted_6 : decode cX4_wasted 6 = .ok (.iload_n 2, 1) := by decide +kernel
theorem dX4_wasted_7 : decode cX4_wasted 7 = .ok (.invokevirtual 81, 3) := by decide +kernel
theorem dX4_wasted_10 : decode cX4_wasted 10 = .ok (.invokestatic 85, 3) := by decide +kernel
theorem dX4_wasted_13 : decode cX4_wasted 13 = .ok (.istore_n 3, 1) := by decide +kernel
theorem dX4_wasted_14 : decode cX4_wasted 14 = .ok (.aload_n 0, 1) := by decide +kernel
theorem dX4_wasted_15 : decode cX4_wasted 15 = .ok (.getfield 26, 3) := by decide +kernel
theorem dX4_wasted_18 : decode cX4_wasted 18 = .ok (.iload_n 1, 1) := by decide +kernel
theorem dX4_wasted_19 : decode cX4_wasted 19 = .ok (.aload_n 0, 1) := by decide +kernel
theorem dX4_wasted_20 : decode cX4_wasted 20 = .ok (.iconst 1, 1) := by decide +kernel
theorem dX4_wasted_21 : decode cX4_wasted 21 = .ok (.iload_n 2, 1) := by decide +kernel
theorem dX4_wasted_22 : decode cX4_wasted 22 = .ok (.isub, 1) := by decide +kernel
theorem dX4_wasted_23 : decode cX4_wasted 23 = .ok (.invokevirtual 81, 3) := by decide +kernel
theorem dX4_wasted_26 : decode cX4_wasted 26 = .ok (.invokestatic 85, 3) := by decide +kernel
theorem dX4_wasted_29 : decode cX4_wasted 29 = .ok (.istore 4, 2) := by decide +kernel
theorem dX4_wasted_31 : decode cX4_wasted 31 = .ok (.iload_n 3, 1) := by decide +kernel
theorem dX4_wasted_32 : decode cX4_wasted 32 = .ok (.iload 4, 2) := by decide +kernel
theorem dX4_wasted_34 : decode cX4_wasted 34 = .ok (.if_icmp .le 12, 3) := by decide +kernel
theorem dX4_wasted_37 : decode cX4_wasted 37 = .ok (.iload_n 3, 1) := by decide +kernel
theorem dX4_wasted_38 : decode cX4_wasted 38 = .ok (.iload 4, 2) := by decide +kernel
theorem dX4_wasted_40 : decode cX4_wasted 40 = .ok (.iconst 1, 1) := by decide +kernel
theorem dX4_wasted_41 : decode cX4_wasted 41 = .ok (.iadd, 1) := by decide +kernel
theorem dX4_wasted_42 : decode cX4_wasted 42 = .ok (.isub, 1) := by decide +kernel
theorem dX4_wasted_43 : decode cX4_wasted 43 = .ok (.goto 4, 3) := by decide +kernel
theorem dX4_wasted_46 : decode cX4_wasted 46 = .ok (.iload_n 3, 1) := by decide +kernel
theorem dX4_wasted_47 : decode cX4_wasted 47 = .ok (.ireturn, 1) := by decide +kernel
theorem dX4_wastedInAll_0 : decode cX4_wastedInAll 0 = .ok (.iconst 0, 1) := by decide +kernel
theorem dX4_wastedInAll_1 : decode cX4_wastedInAll 1 = .ok (.istore_n 2, 1) := by decide +kernel
theorem dX4_wastedInAll_2 : decode cX4_wastedInAll 2 = .ok (.iconst 0, 1) := by decide +kernel
theorem dX4_wastedInAll_3 : decode cX4_wastedInAll 3 = .ok (.istore_n 3, 1) := by decide +kernel
theorem dX4_wastedInAll_4 : decode cX4_wastedInAll 4 = .ok (.iload_n 3, 1) := by decide +kernel
theorem dX4_wastedInAll_5 : decode cX4_wastedInAll 5 = .ok (.aload_n 0, 1) := by decide +kernel
theorem dX4_wastedInAll_6 : decode cX4_wastedInAll 6 = .ok (.getfield 42, 3) := by decide +kernel
theorem dX4_wastedInAll_9 : decode cX4_wastedInAll 9 = .ok (.if_icmp .ge 18, 3) := by decide +kernel
theorem dX4_wastedInAll_12 : decode cX4_wastedInAll 12 = .ok (.iload_n 2, 1) := by decide +kernel
theorem dX4_wastedInAll_13 : decode cX4_wastedInAll 13 = .ok (.aload_n 0, 1) := by decide +kernel
theorem dX4_wastedInAll_14 : decode cX4_wastedInAll 14 = .ok (.iload_n 3, 1) := by decide +kernel
theorem dX4_wastedInAll_15 : decode cX4_wastedInAll 15 = .ok (.iload_n 1, 1) := by decide +kernel
theorem dX4_wastedInAll_16 : decode cX4_wastedInAll 16 = .ok (.invokevirtual 102, 3) := by decide +kernel
theorem dX4_wastedInAll_19 : decode cX4_wastedInAll 19 = .ok (.iadd, 1) := by decide +kernel
theorem dX4_wastedInAll_20 : decode cX4_wastedInAll 20 = .ok (.istore_n 2, 1) := by decide +kernel
theorem dX4_wastedInAll_21 : decode cX4_wastedInAll 21 = .ok (.iinc 3 1, 3) := by decide +kernel
theorem dX4_wastedInAll_24 : decode cX4_wastedInAll 24 = .ok (.goto (-20), 3) := by decide +kernel
theorem dX4_wastedInAll_27 : decode cX4_wastedInAll 27 = .ok (.iload_n 2, 1) := by decide +kernel
theorem dX4_wastedInAll_28 : decode cX4_wastedInAll 28 = .ok (.ireturn, 1) := by decide +kernel
theorem dX4_bordersOfAll_0 : decode cX4_bordersOfAll 0 = .ok (.iconst 0, 1) := by decide +kernel
theorem dX4_bordersOfAll_1 : decode cX4_bordersOfAll 1 = .ok (.istore_n 1, 1) := by decide +kernel
theorem dX4_bordersOfAll_2 : decode cX4_bordersOfAll 2 = .ok (.iconst 0, 1) := by decide +kernel
theorem dX4_bordersOfAll_3 : decode cX4_bordersOfAll 3 = .ok (.istore_n 2, 1) := by decide +kernel
theorem dX4_bordersOfAll_4 : decode cX4_bordersOfAll 4 = .ok (.iload_n 2, 1) := by decide +kernel
theorem dX4_bordersOfAll_5 : decode cX4_bordersOfAll 5 = .ok (.aload_n 0, 1) := by decide +kernel
theorem dX4_bordersOfAll_6 : decode cX4_bordersOfAll 6 = .ok (.getfield 42, 3) := by decide +kernel
theorem dX4_bordersOfAll_9 : decode cX4_bordersOfAll 9 = .ok (.if_icmp .ge 20, 3) := by decide +kernel
theorem dX4_bordersOfAll_12 : decode cX4_bordersOfAll 12 = .ok (.iload_n 1, 1) := by decide +kernel
theorem dX4_bordersOfAll_13 : decode cX4_bordersOfAll 13 = .ok (.aload_n 0, 1) := by decide +kernel
theorem dX4_bordersOfAll_14 : decode cX4_bordersOfAll 14 = .ok (.getfield 26, 3) := by decide +kernel
theorem dX4_bordersOfAll_17 : decode cX4_bordersOfAll 17 = .ok (.iload_n 2, 1) := by decide +kernel
theorem dX4_bordersOfAll_18 : decode cX4_bordersOfAll 18 = .ok (.invokestatic 106, 3) := by decide +kernel
theorem dX4_bordersOfAll_21 : decode cX4_bordersOfAll 21 = .ok (.iadd, 1) := by decide +kernel
theorem dX4_bordersOfAll_22 : decode cX4_bordersOfAll 22 = .ok (.istore_n 1, 1) := by decide +kernel
theorem dX4_bordersOfAll_23 : decode cX4_bordersOfAll 23 = .ok (.iinc 2 1, 3) := by decide +kernel
theorem dX4_bordersOfAll_26 : decode cX4_bordersOfAll 26 = .ok (.goto (-22), 3) := by decide +kernel
theorem dX4_bordersOfAll_29 : decode cX4_bordersOfAll 29 = .ok (.iload_n 1, 1) := by decide +kernel
theorem dX4_bordersOfAll_30 : decode cX4_bordersOfAll 30 = .ok (.ireturn, 1) := by decide +kernel
theorem dX4_closestWon_0 : decode cX4_closestWon 0 = .ok (.iconst (-1), 1) := by decide +kernel
theorem dX4_closestWon_1 : decode cX4_closestWon 1 = .ok (.istore_n 2, 1) := by decide +kernel
theorem dX4_closestWon_2 : decode cX4_closestWon 2 = .ok (.iconst 0, 1) := by decide +kernel
theorem dX4_closestWon_3 : decode cX4_closestWon 3 = .ok (.istore_n 3, 1) := by decide +kernel
theorem dX4_closestWon_4 : decode cX4_closestWon 4 = .ok (.iconst 0, 1) := by decide +kernel
theorem dX4_closestWon_5 : decode cX4_closestWon 5 = .ok (.istore 4, 2) := by decide +kernel
theorem dX4_closestWon_7 : decode cX4_closestWon 7 = .ok (.iload 4, 2) := by decide +kernel
theorem dX4_closestWon_9 : decode cX4_closestWon 9 = .ok (.aload_n 0, 1) := by decide +kernel
theorem dX4_closestWon_10 : decode cX4_closestWon 10 = .ok (.invokevirtual 63, 3) := by decide +kernel
theorem dX4_closestWon_13 : decode cX4_closestWon 13 = .ok (.if_icmp .ge 44, 3) := by decide +kernel
theorem dX4_closestWon_16 : decode cX4_closestWon 16 = .ok (.aload_n 0, 1) := by decide +kernel
theorem dX4_closestWon_17 : decode cX4_closestWon 17 = .ok (.aload_n 0, 1) := by decide +kernel
theorem dX4_closestWon_18 : decode cX4_closestWon 18 = .ok (.getfield 23, 3) := by decide +kernel
theorem dX4_closestWon_21 : decode cX4_closestWon 21 = .ok (.iload 4, 2) := by decide +kernel
theorem dX4_closestWon_23 : decode cX4_closestWon 23 = .ok (.iload_n 1, 1) := by decide +kernel
theorem dX4_closestWon_24 : decode cX4_closestWon 24 = .ok (.invokevirtual 91, 3) := by decide +kernel
theorem dX4_closestWon_27 : decode cX4_closestWon 27 = .ok (.istore 5, 2) := by decide +kernel
theorem dX4_closestWon_29 : decode cX4_closestWon 29 = .ok (.iload 5, 2) := by decide +kernel
theorem dX4_closestWon_31 : decode cX4_closestWon 31 = .ok (.ifCond .le 20, 3) := by decide +kernel
theorem dX4_closestWon_34 : decode cX4_closestWon 34 = .ok (.iload_n 2, 1) := by decide +kernel
theorem dX4_closestWon_35 : decode cX4_closestWon 35 = .ok (.iconst (-1), 1) := by decide +kernel
theorem dX4_closestWon_36 : decode cX4_closestWon 36 = .ok (.if_icmp .eq 9, 3) := by decide +kernel
theorem dX4_closestWon_39 : decode cX4_closestWon 39 = .ok (.iload 5, 2) := by decide +kernel
theorem dX4_closestWon_41 : decode cX4_closestWon 41 = .ok (.iload_n 3, 1) := by decide +kernel
theorem dX4_closestWon_42 : decode cX4_closestWon 42 = .ok (.if_icmp .ge 9, 3) := by decide +kernel
theorem dX4_closestWon_45 : decode cX4_closestWon 45 = .ok (.iload 4, 2) := by decide +kernel
theorem dX4_closestWon_47 : decode cX4_closestWon 47 = .ok (.istore_n 2, 1) := by decide +kernel
theorem dX4_closestWon_48 : decode cX4_closestWon 48 = .ok (.iload 5, 2) := by decide +kernel
theorem dX4_closestWon_50 : decode cX4_closestWon 50 = .ok (.istore_n 3, 1) := by decide +kernel
theorem dX4_closestWon_51 : decode cX4_closestWon 51 = .ok (.iinc 4 1, 3) := by decide +kernel
theorem dX4_closestWon_54 : decode cX4_closestWon 54 = .ok (.goto (-47), 3) := by decide +kernel
theorem dX4_closestWon_57 : decode cX4_closestWon 57 = .ok (.iload_n 2, 1) := by decide +kernel
theorem dX4_closestWon_58 : decode cX4_closestWon 58 = .ok (.ireturn, 1) := by decide +kernel
theorem dX4_mostLost_0 : decode cX4_mostLost 0 = .ok (.iconst 0, 1) := by decide +kernel
theorem dX4_mostLost_1 : decode cX4_mostLost 1 = .ok (.istore_n 2, 1) := by decide +kernel
theorem dX4_mostLost_2 : decode cX4_mostLost 2 = .ok (.iconst 1, 1) := by decide +kernel
theorem dX4_mostLost_3 : decode cX4_mostLost 3 = .ok (.istore_n 3, 1) := by decide +kernel
theorem dX4_mostLost_4 : decode cX4_mostLost 4 = .ok (.iload_n 3, 1) := by decide +kernel
theorem dX4_mostLost_5 : decode cX4_mostLost 5 = .ok (.aload_n 0, 1) := by decide +kernel
theorem dX4_mostLost_6 : decode cX4_mostLost 6 = .ok (.invokevirtual 63, 3) := by decide +kernel
theorem dX4_mostLost_9 : decode cX4_mostLost 9 = .ok (.if_icmp .ge 38, 3) := by decide +kernel
theorem dX4_mostLost_12 : decode cX4_mostLost 12 = .ok (.aload_n 0, 1) := by decide +kernel
theorem dX4_mostLost_13 : decode cX4_mostLost 13 = .ok (.aload_n 0, 1) := by decide +kernel
theorem dX4_mostLost_14 : decode cX4_mostLost 14 = .ok (.getfield 23, 3) := by decide +kernel
theorem dX4_mostLost_17 : decode cX4_mostLost 17 = .ok (.iload_n 3, 1) := by decide +kernel
theorem dX4_mostLost_18 : decode cX4_mostLost 18 = .ok (.iconst 1, 1) := by decide +kernel
theorem dX4_mostLost_19 : decode cX4_mostLost 19 = .ok (.iload_n 1, 1) := by decide +kernel
theorem dX4_mostLost_20 : decode cX4_mostLost 20 = .ok (.isub, 1) := by decide +kernel
theorem dX4_mostLost_21 : decode cX4_mostLost 21 = .ok (.invokevirtual 91, 3) := by decide +kernel
theorem dX4_mostLost_24 : decode cX4_mostLost 24 = .ok (.aload_n 0, 1) := by decide +kernel
theorem dX4_mostLost_25 : decode cX4_mostLost 25 = .ok (.aload_n 0, 1) := by decide +kernel
theorem dX4_mostLost_26 : decode cX4_mostLost 26 = .ok (.getfield 23, 3) := by decide +kernel
theorem dX4_mostLost_29 : decode cX4_mostLost 29 = .ok (.iload_n 2, 1) := by decide +kernel
theorem dX4_mostLost_30 : decode cX4_mostLost 30 = .ok (.iconst 1, 1) := by decide +kernel
theorem dX4_mostLost_31 : decode cX4_mostLost 31 = .ok (.iload_n 1, 1) := by decide +kernel
theorem dX4_mostLost_32 : decode cX4_mostLost 32 = .ok (.isub, 1) := by decide +kernel
theorem dX4_mostLost_33 : decode cX4_mostLost 33 = .ok (.invokevirtual 91, 3) := by decide +kernel
theorem dX4_mostLost_36 : decode cX4_mostLost 36 = .ok (.if_icmp .le 5, 3) := by decide +kernel
theorem dX4_mostLost_39 : decode cX4_mostLost 39 = .ok (.iload_n 3, 1) := by decide +kernel
theorem dX4_mostLost_40 : decode cX4_mostLost 40 = .ok (.istore_n 2, 1) := by decide +kernel
theorem dX4_mostLost_41 : decode cX4_mostLost 41 = .ok (.iinc 3 1, 3) := by decide +kernel
theorem dX4_mostLost_44 : decode cX4_mostLost 44 = .ok (.goto (-40), 3) := by decide +kernel
theorem dX4_mostLost_47 : decode cX4_mostLost 47 = .ok (.iload_n 2, 1) := by decide +kernel
theorem dX4_mostLost_48 : decode cX4_mostLost 48 = .ok (.ireturn, 1) := by decide +kernel
theorem dX5_init_0 : decode cX5_init 0 = .ok (.aload_n 0, 1) := by decide +kernel
theorem dX5_init_1 : decode cX5_init 1 = .ok (.invokespecial 3, 3) := by decide +kernel
theorem dX5_init_4 : decode cX5_init 4 = .ok (.aload_n 0, 1) := by decide +kernel
theorem dX5_init_5 : decode cX5_init 5 = .ok (.bipush 60, 2) := by decide +kernel
theorem dX5_init_7 : decode cX5_init 7 = .ok (.newarray .char, 2) := by decide +kernel
theorem dX5_init_9 : decode cX5_init 9 = .ok (.putfield 9, 3) := by decide +kernel
theorem dX5_init_12 : decode cX5_init 12 = .ok (.aload_n 0, 1) := by decide +kernel
theorem dX5_init_13 : decode cX5_init 13 = .ok (.iconst 0, 1) := by decide +kernel
theorem dX5_init_14 : decode cX5_init 14 = .ok (.putfield 15, 3) := by decide +kernel
theorem dX5_init_17 : decode cX5_init 17 = .ok (.return_, 1) := by decide +kernel
theorem dX5_length_0 : decode cX5_length 0 = .ok (.aload_n 0, 1) := by decide +kernel
theorem dX5_length_1 : decode cX5_length 1 = .ok (.getfield 15, 3) := by decide +kernel
theorem dX5_length_4 : decode cX5_length 4 = .ok (.ireturn, 1) := by decide +kernel
theorem dX5_append_0 : decode cX5_append 0 = .ok (.aload_n 0, 1) := by decide +kernel
theorem dX5_append_1 : decode cX5_append 1 = .ok (.getfield 15, 3) := by decide +kernel
theorem dX5_append_4 : decode cX5_append 4 = .ok (.ifCond .lt 15, 3) := by decide +kernel
theorem dX5_append_7 : decode cX5_append 7 = .ok (.aload_n 0, 1) := by decide +kernel
theorem dX5_append_8 : decode cX5_append 8 = .ok (.getfield 15, 3) := by decide +kernel
theorem dX5_append_11 : decode cX5_append 11 = .ok (.aload_n 0, 1) := by decide +kernel
theorem dX5_append_12 : decode cX5_append 12 = .ok (.getfield 9, 3) := by decide +kernel
theorem dX5_append_15 : decode cX5_append 15 = .ok (.arraylength, 1) := by decide +kernel
theorem dX5_append_16 : decode cX5_append 16 = .ok (.if_icmp .lt 5, 3) := by decide +kernel
theorem dX5_append_19 : decode cX5_append 19 = .ok (.iconst 0, 1) := by decide +kernel
theorem dX5_append_20 : decode cX5_append 20 = .ok (.ireturn, 1) := by decide +kernel
theorem dX5_append_21 : decode cX5_append 21 = .ok (.aload_n 0, 1) := by decide +kernel
theorem dX5_append_22 : decode cX5_append 22 = .ok (.getfield 9, 3) := by decide +kernel
theorem dX5_append_25 : decode cX5_append 25 = .ok (.aload_n 0, 1) := by decide +kernel
theorem dX5_append_26 : decode cX5_append 26 = .ok (.getfield 15, 3) := by decide +kernel
theorem dX5_append_29 : decode cX5_append 29 = .ok (.iload_n 1, 1) := by decide +kernel
theorem dX5_append_30 : decode cX5_append 30 = .ok (.castore, 1) := by decide +kernel
theorem dX5_append_31 : decode cX5_append 31 = .ok (.aload_n 0, 1) := by decide +kernel
theorem dX5_append_32 : decode cX5_append 32 = .ok (.dup, 1) := by decide +kernel
theorem dX5_append_33 : decode cX5_append 33 = .ok (.getfield 15, 3) := by decide +kernel
theorem dX5_append_36 : decode cX5_append 36 = .ok (.iconst 1, 1) := by decide +kernel
theorem dX5_append_37 : decode cX5_append 37 = .ok (.iadd, 1) := by decide +kernel
theorem dX5_append_38 : decode cX5_append 38 = .ok (.putfield 15, 3) := by decide +kernel
theorem dX5_append_41 : decode cX5_append 41 = .ok (.iconst 1, 1) := by decide +kernel
theorem dX5_append_42 : decode cX5_append 42 = .ok (.ireturn, 1) := by decide +kernel
theorem dX5_empty_0 : decode cX5_empty 0 = .ok (.aload_n 0, 1) := by decide +kernel
theorem dX5_empty_1 : decode cX5_empty 1 = .ok (.iconst 0, 1) := by decide +kernel
theorem dX5_empty_2 : decode cX5_empty 2 = .ok (.putfield 15, 3) := by decide +kernel
theorem dX5_empty_5 : decode cX5_empty 5 = .ok (.return_, 1) := by decide +kernel
theorem dX5_fault_0 : decode cX5_fault 0 = .ok (.iconst 0, 1) := by decide +kernel
theorem dX5_fault_1 : decode cX5_fault 1 = .ok (.istore_n 1, 1) := by decide +kernel
theorem dX5_fault_2 : decode cX5_fault 2 = .ok (.iload_n 1, 1) := by decide +kernel
theorem dX5_fault_3 : decode cX5_fault 3 = .ok (.aload_n 0, 1) := by decide +kernel
theorem dX5_fault_4 : decode cX5_fault 4 = .ok (.getfield 15, 3) := by decide +kernel
theorem dX5_fault_7 : decode cX5_fault 7 = .ok (.if_icmp .ge 19, 3) := by decide +kernel
theorem dX5_fault_10 : decode cX5_fault 10 = .ok (.aload_n 0, 1) := by decide +kernel
theorem dX5_fault_11 : decode cX5_fault 11 = .ok (.iload_n 1, 1) := by decide +kernel
theorem dX5_fault_12 : decode cX5_fault 12 = .ok (.invokevirtual 19, 3) := by decide +kernel
theorem dX5_fault_15 : decode cX5_fault 15 = .ok (.ifCond .ne 5, 3) := by decide +kernel
theorem dX5_fault_18 : decode cX5_fault 18 = .ok (.iload_n 1, 1) := by decide +kernel
theorem dX5_fault_19 : decode cX5_fault 19 = .ok (.ireturn, 1) := by decide +kernel
theorem dX5_fault_20 : decode cX5_fault 20 = .ok (.iinc 1 1, 3) := by decide +kernel
theorem dX5_fault_23 : decode cX5_fault 23 = .ok (.goto (-21), 3) := by decide +kernel
theorem dX5_fault_26 : decode cX5_fault 26 = .ok (.aload_n 0, 1) := by decide +kernel
theorem dX5_fault_27 : decode cX5_fault 27 = .ok (.getfield 15, 3) := by decide +kernel
theorem dX5_fault_30 : decode cX5_fault 30 = .ok (.iconst 3, 1) := by decide +kernel
theorem dX5_fault_31 : decode cX5_fault 31 = .ok (.irem, 1) := by decide +kernel
theorem dX5_fault_32 : decode cX5_fault 32 = .ok (.iconst 2, 1) := by decide +kernel
theorem dX5_fault_33 : decode cX5_fault 33 = .ok (.if_icmp .ne 7, 3) := by decide +kernel
theorem dX5_fault_36 : decode cX5_fault 36 = .ok (.iconst (-1), 1) := by decide +kernel
theorem dX5_fault_37 : decode cX5_fault 37 = .ok (.goto 7, 3) := by decide +kernel
theorem dX5_fault_40 : decode cX5_fault 40 = .ok (.aload_n 0, 1) := by decide +kernel
theorem dX5_fault_41 : decode cX5_fault 41 = .ok (.getfield 15, 3) := by decide +kernel
theorem dX5_fault_44 : decode cX5_fault 44 = .ok (.ireturn, 1) := by decide +kernel
theorem dX5_pairs_0 : decode cX5_pairs 0 = .ok (.aload_n 0, 1) := by decide +kernel
theorem dX5_pairs_1 : decode cX5_pairs 1 = .ok (.getfield 15, 3) := by decide +kernel
theorem dX5_pairs_4 : decode cX5_pairs 4 = .ok (.iconst 1, 1) := by decide +kernel
theorem dX5_pairs_5 : decode cX5_pairs 5 = .ok (.iadd, 1) := by decide +kernel
theorem dX5_pairs_6 : decode cX5_pairs 6 = .ok (.iconst 3, 1) := by decide +kernel
theorem dX5_pairs_7 : decode cX5_pairs 7 = .ok (.idiv, 1) := by decide +kernel
theorem dX5_pairs_8 : decode cX5_pairs 8 = .ok (.ireturn, 1) := by decide +kernel
theorem dX5_votes_0 : decode cX5_votes 0 = .ok (.aload_n 0, 1) := by decide +kernel
theorem dX5_votes_1 : decode cX5_votes 1 = .ok (.iload_n 1, 1) := by decide +kernel
theorem dX5_votes_2 : decode cX5_votes 2 = .ok (.iconst 3, 1) := by decide +kernel
theorem dX5_votes_3 : decode cX5_votes 3 = .ok (.imul, 1) := by decide +kernel
theorem dX5_votes_4 : decode cX5_votes 4 = .ok (.iload_n 2, 1) := by decide +kernel
theorem dX5_votes_5 : decode cX5_votes 5 = .ok (.iadd, 1) := by decide +kernel
theorem dX5_votes_6 : decode cX5_votes 6 = .ok (.invokevirtual 23, 3) := by decide +kernel
theorem dX5_votes_9 : decode cX5_votes 9 = .ok (.bipush 48, 2) := by decide +kernel
theorem dX5_votes_11 : decode cX5_votes 11 = .ok (.isub, 1) := by decide +kernel
theorem dX5_votes_12 : decode cX5_votes 12 = .ok (.ireturn, 1) := by decide +kernel
theorem dX5_isAllowed_0 : decode cX5_isAllowed 0 = .ok (.aload_n 0, 1) := by decide +kernel
theorem dX5_isAllowed_1 : decode cX5_isAllowed 1 = .ok (.iload_n 1, 1) := by decide +kernel
theorem dX5_isAllowed_2 : decode cX5_isAllowed 2 = .ok (.invokevirtual 23, 3) := by decide +kernel
theorem dX5_isAllowed_5 : decode cX5_isAllowed 5 = .ok (.istore_n 2, 1) := by decide +kernel
theorem dX5_isAllowed_6 : decode cX5_isAllowed 6 = .ok (.iload_n 1, 1) := by decide +kernel
theorem dX5_isAllowed_7 : decode cX5_isAllowed 7 = .ok (.iconst 3, 1) := by decide +kernel
theorem dX5_isAllowed_8 : decode cX5_isAllowed 8 = .ok (.irem, 1) := by decide +kernel
theorem dX5_isAllowed_9 : decode cX5_isAllowed 9 = .ok (.iconst 2, 1) := by decide +kernel
theorem dX5_isAllowed_10 : decode cX5_isAllowed 10 = .ok (.if_icmp .ne 15, 3) := by decide +kernel
theorem dX5_isAllowed_13 : decode cX5_isAllowed 13 = .ok (.iload_n 2, 1) := by decide +kernel
theorem dX5_isAllowed_14 : decode cX5_isAllowed 14 = .ok (.bipush 44, 2) := by decide +kernel
theorem dX5_isAllowed_16 : decode cX5_isAllowed 16 = .ok (.if_icmp .ne 7, 3) := by decide +kernel
theorem dX5_isAllowed_19 : decode cX5_isAllowed 19 = .ok (.iconst 1, 1) := by decide +kernel
theorem dX5_isAllowed_20 : decode cX5_isAllowed 20 = .ok (.goto 4, 3) := by decide +kernel
theorem dX5_isAllowed_23 : decode cX5_isAllowed 23 = .ok (.iconst 0, 1) := by decide +kernel
theorem dX5_isAllowed_24 : decode cX5_isAllowed 24 = .ok (.ireturn, 1) := by decide +kernel
theorem dX5_isAllowed_25 : decode cX5_isAllowed 25 = .ok (.iload_n 2, 1) := by decide +kernel
theorem dX5_isAllowed_26 : decode cX5_isAllowed 26 = .ok (.bipush 48, 2) := by decide +kernel
theorem dX5_isAllowed_28 : decode cX5_isAllowed 28 = .ok (.if_icmp .lt 13, 3) := by decide +kernel
theorem dX5_isAllowed_31 : decode cX5_isAllowed 31 = .ok (.iload_n 2, 1) := by decide +kernel
theorem dX5_isAllowed_32 : decode cX5_isAllowed 32 = .ok (.bipush 57, 2) := by decide +kernel
theorem dX5_isAllowed_34 : decode cX5_isAllowed 34 = .ok (.if_icmp .gt 7, 3) := by decide +kernel
theorem dX5_isAllowed_37 : decode cX5_isAllowed 37 = .ok (.iconst 1, 1) := by decide +kernel
theorem dX5_isAllowed_38 : decode cX5_isAllowed 38 = .ok (.goto 4, 3) := by decide +kernel
theorem dX5_isAllowed_41 : decode cX5_isAllowed 41 = .ok (.iconst 0, 1) := by decide +kernel
theorem dX5_isAllowed_42 : decode cX5_isAllowed 42 = .ok (.ireturn, 1) := by decide +kernel
theorem dX5_at_0 : decode cX5_at 0 = .ok (.iload_n 1, 1) := by decide +kernel
theorem dX5_at_1 : decode cX5_at 1 = .ok (.ifCond .lt 21, 3) := by decide +kernel
theorem dX5_at_4 : decode cX5_at 4 = .ok (.iload_n 1, 1) := by decide +kernel
theorem dX5_at_5 : decode cX5_at 5 = .ok (.aload_n 0, 1) := by decide +kernel
theorem dX5_at_6 : decode cX5_at 6 = .ok (.getfield 9, 3) := by decide +kernel
theorem dX5_at_9 : decode cX5_at 9 = .ok (.arraylength, 1) := by decide +kernel
theorem dX5_at_10 : decode cX5_at 10 = .ok (.if_icmp .ge 12, 3) := by decide +kernel
theorem dX5_at_13 : decode cX5_at 13 = .ok (.aload_n 0, 1) := by decide +kernel
theorem dX5_at_14 : decode cX5_at 14 = .ok (.getfield 9, 3) := by decide +kernel
theorem dX5_at_17 : decode cX5_at 17 = .ok (.iload_n 1, 1) := by decide +kernel
theorem dX5_at_18 : decode cX5_at 18 = .ok (.caload, 1) := by decide +kernel
theorem dX5_at_19 : decode cX5_at 19 = .ok (.goto 5, 3) := by decide +kernel
theorem dX5_at_22 : decode cX5_at 22 = .ok (.bipush 32, 2) := by decide +kernel
theorem dX5_at_24 : decode cX5_at 24 = .ok (.ireturn, 1) := by decide +kernel
theorem dJ9_floorMod_7cf53_0 : decode cJ9_floorMod_7cf53 0 = .ok (.iload_n 0, 1) := by decide +kernel
theorem dJ9_floorMod_7cf53_1 : decode cJ9_floorMod_7cf53 1 = .ok (.iload_n 1, 1) := by decide +kernel
theorem dJ9_floorMod_7cf53_2 : decode cJ9_floorMod_7cf53 2 = .ok (.irem, 1) := by decide +kernel
theorem dJ9_floorMod_7cf53_3 : decode cJ9_floorMod_7cf53 3 = .ok (.istore_n 2, 1) := by decide +kernel
theorem dJ9_floorMod_7cf53_4 : decode cJ9_floorMod_7cf53 4 = .ok (.iload_n 0, 1) := by decide +kernel
theorem dJ9_floorMod_7cf53_5 : decode cJ9_floorMod_7cf53 5 = .ok (.iload_n 1, 1) := by decide +kernel
theorem dJ9_floorMod_7cf53_6 : decode cJ9_floorMod_7cf53 6 = .ok (.ixor, 1) := by decide +kernel
theorem dJ9_floorMod_7cf53_7 : decode cJ9_floorMod_7cf53 7 = .ok (.ifCond .ge 11, 3) := by decide +kernel
theorem dJ9_floorMod_7cf53_10 : decode cJ9_floorMod_7cf53 10 = .ok (.iload_n 2, 1) := by decide +kernel
theorem dJ9_floorMod_7cf53_11 : decode cJ9_floorMod_7cf53 11 = .ok (.ifCond .eq 7, 3) := by decide +kernel
theorem dJ9_floorMod_7cf53_14 : decode cJ9_floorMod_7cf53 14 = .ok (.iload_n 2, 1) := by decide +kernel
theorem dJ9_floorMod_7cf53_15 : decode cJ9_floorMod_7cf53 15 = .ok (.iload_n 1, 1) := by decide +kernel
theorem dJ9_floorMod_7cf53_16 : decode cJ9_floorMod_7cf53 16 = .ok (.iadd, 1) := by decide +kernel
theorem dJ9_floorMod_7cf53_17 : decode cJ9_floorMod_7cf53 17 = .ok (.ireturn, 1) := by decide +kernel
theorem dJ9_floorMod_7cf53_18 : decode cJ9_floorMod_7cf53 18 = .ok (.iload_n 2, 1) := by decide +kernel
theorem dJ9_floorMod_7cf53_19 : decode cJ9_floorMod_7cf53 19 = .ok (.ireturn, 1) := by decide +kernel
end
section
theorem dX6_init_0 : decode cX6_init 0 = .ok (.aload_n 0, 1) := by decide +kernel
theorem dX6_init_1 : decode cX6_init 1 = .ok (.invokespecial 1, 3) := by decide +kernel
theorem dX6_init_4 : decode cX6_init 4 = .ok (.aload_n 0, 1) := by decide +kernel
theorem dX6_init_5 : decode cX6_init 5 = .ok (.new 7, 3) := by decide +kernel
theorem dX6_init_8 : decode cX6_init 8 = .ok (.dup, 1) := by decide +kernel
theorem dX6_init_9 : decode cX6_init 9 = .ok (.invokespecial 9, 3) := by decide +kernel
theorem dX6_init_12 : decode cX6_init 12 = .ok (.putfield 10, 3) := by decide +kernel
theorem dX6_init_15 : decode cX6_init 15 = .ok (.aload_n 0, 1) := by decide +kernel
theorem dX6_init_16 : decode cX6_init 16 = .ok (.new 16, 3) := by decide +kernel
theorem dX6_init_19 : decode cX6_init 19 = .ok (.dup, 1) := by decide +kernel
theorem dX6_init_20 : decode cX6_init 20 = .ok (.invokespecial 18, 3) := by decide +kernel
theorem dX6_init_23 : decode cX6_init 23 = .ok (.putfield 19, 3) := by decide +kernel
theorem dX6_init_26 : decode cX6_init 26 = .ok (.aload_n 0, 1) := by decide +kernel
theorem dX6_init_27 : decode cX6_init 27 = .ok (.new 7, 3) := by decide +kernel
theorem dX6_init_30 : decode cX6_init 30 = .ok (.dup, 1) := by decide +kernel
theorem dX6_init_31 : decode cX6_init 31 = .ok (.invokespecial 9, 3) := by decide +kernel
theorem dX6_init_34 : decode cX6_init 34 = .ok (.putfield 23, 3) := by decide +kernel
theorem dX6_init_37 : decode cX6_init 37 = .ok (.aload_n 0, 1) := by decide +kernel
theorem dX6_init_38 : decode cX6_init 38 = .ok (.iconst 0, 1) := by decide +kernel
theorem dX6_init_39 : decode cX6_init 39 = .ok (.putfield 26, 3) := by decide +kernel
theorem dX6_init_42 : decode cX6_init 42 = .ok (.aload_n 0, 1) := by decide +kernel
theorem dX6_init_43 : decode cX6_init 43 = .ok (.new 30, 3) := by decide +kernel
theorem dX6_init_46 : decode cX6_init 46 = .ok (.dup, 1) := by decide +kernel
theorem dX6_init_47 : decode cX6_init 47 = .ok (.invokespecial 32, 3) := by decide +kernel
theorem dX6_init_50 : decode cX6_init 50 = .ok (.putfield 33, 3) := by decide +kernel
theorem dX6_init_53 : decode cX6_init 53 = .ok (.aload_n 0, 1) := by decide +kernel
theorem dX6_init_54 : decode cX6_init 54 = .ok (.new 37, 3) := by decide +kernel
theorem dX6_init_57 : decode cX6_init 57 = .ok (.dup, 1) := by decide +kernel
theorem dX6_init_58 : decode cX6_init 58 = .ok (.invokespecial 39, 3) := by decide +kernel
theorem dX6_init_61 : decode cX6_init 61 = .ok (.putfield 40, 3) := by decide +kernel
theorem dX6_init_64 : decode cX6_init 64 = .ok (.aload_n 0, 1) := by decide +kernel
theorem dX6_init_65 : decode cX6_init 65 = .ok (.new 44, 3) := by decide +kernel
theorem dX6_init_68 : decode cX6_init 68 = .ok (.dup, 1) := by decide +kernel
theorem dX6_init_69 : decode cX6_init 69 = .ok (.bipush 36, 2) := by decide +kernel
theorem dX6_init_71 : decode cX6_init 71 = .ok (.iconst (-1), 1) := by decide +kernel
theorem dX6_init_72 : decode cX6_init 72 = .ok (.invokespecial 46, 3) := by decide +kernel
theorem dX6_init_75 : decode cX6_init 75 = .ok (.putfield 49, 3) := by decide +kernel
theorem dX6_init_78 : decode cX6_init 78 = .ok (.return_, 1) := by decide +kernel
theorem dX6_setVotes_0 : decode cX6_setVotes 0 = .ok (.iload_n 1, 1) := by decide +kernel
theorem dX6_setVotes_1 : decode cX6_setVotes 1 = .ok (.invokestatic 53, 3) := by decide +kernel
theorem dX6_setVotes_4 : decode cX6_setVotes 4 = .ok (.ifCond .ne 5, 3) := by decide +kernel
theorem dX6_setVotes_7 : decode cX6_setVotes 7 = .ok (.iconst (-1), 1) := by decide +kernel
theorem dX6_setVotes_8 : decode cX6_setVotes 8 = .ok (.ireturn, 1) := by decide +kernel
theorem dX6_setVotes_9 : decode cX6_setVotes 9 = .ok (.iload_n 2, 1) := by decide +kernel
theorem dX6_setVotes_10 : decode cX6_setVotes 10 = .ok (.iconst 0, 1) := by decide +kernel
theorem dX6_setVotes_11 : decode cX6_setVotes 11 = .ok (.bipush 9, 2) := by decide +kernel
theorem dX6_setVotes_13 : decode cX6_setVotes 13 = .ok (.invokestatic 57, 3) := by decide +kernel
theorem dX6_setVotes_16 : decode cX6_setVotes 16 = .ok (.ifCond .eq 13, 3) := by decide +kernel
theorem dX6_setVotes_19 : decode cX6_setVotes 19 = .ok (.iload_n 3, 1) := by decide +kernel
theorem dX6_setVotes_20 : decode cX6_setVotes 20 = .ok (.iconst 0, 1) := by decide +kernel
theorem dX6_setVotes_21 : decode cX6_setVotes 21 = .ok (.bipush 9, 2) := by decide +kernel
theorem dX6_setVotes_23 : decode cX6_setVotes 23 = .ok (.invokestatic 57, 3) := by decide +kernel
theorem dX6_setVotes_26 : decode cX6_setVotes 26 = .ok (.ifCond .ne 6, 3) := by decide +kernel
theorem dX6_setVotes_29 : decode cX6_setVotes 29 = .ok (.bipush (-2), 2) := by decide +kernel
theorem dX6_setVotes_31 : decode cX6_setVotes 31 = .ok (.ireturn, 1) := by decide +kernel
theorem dX6_setVotes_32 : decode cX6_setVotes 32 = .ok (.aload_n 0, 1) := by decide +kernel
theorem dX6_setVotes_33 : decode cX6_setVotes 33 = .ok (.getfield 10, 3) := by decide +kernel
theorem dX6_setVotes_36 : decode cX6_setVotes 36 = .ok (.getfield 61, 3) := by decide +kernel
theorem dX6_setVotes_39 : decode cX6_setVotes 39 = .ok (.iload_n 1, 1) := by decide +kernel
theorem dX6_setVotes_40 : decode cX6_setVotes 40 = .ok (.invokevirtual 64, 3) := by decide +kernel
theorem dX6_setVotes_43 : decode cX6_setVotes 43 = .ok (.istore 4, 2) := by decide +kernel
theorem dX6_setVotes_45 : decode cX6_setVotes 45 = .ok (.aload_n 0, 1) := by decide +kernel
theorem dX6_setVotes_46 : decode cX6_setVotes 46 = .ok (.getfield 10, 3) := by decide +kernel
theorem dX6_setVotes_49 : decode cX6_setVotes 49 = .ok (.getfield 68, 3) := by decide +kernel
theorem dX6_setVotes_52 : decode cX6_setVotes 52 = .ok (.iload_n 1, 1) := by decide +kernel
theorem dX6_setVotes_53 : decode cX6_setVotes 53 = .ok (.invokevirtual 64, 3) := by decide +kernel
theorem dX6_setVotes_56 : decode cX6_setVotes 56 = .ok (.istore 5, 2) := by decide +kernel
theorem dX6_setVotes_58 : decode cX6_setVotes 58 = .ok (.iload_n 2, 1) := by decide +kernel
theorem dX6_setVotes_59 : decode cX6_setVotes 59 = .ok (.iload 4, 2) := by decide +kernel
theorem dX6_setVotes_61 : decode cX6_setVotes 61 = .ok (.if_icmp .ne 12, 3) := by decide +kernel
theorem dX6_setVotes_64 : decode cX6_setVotes 64 = .ok (.iload_n 3, 1) := by decide +kernel
theorem dX6_setVotes_65 : decode cX6_setVotes 65 = .ok (.iload 5, 2) := by decide +kernel
theorem dX6_setVotes_67 : decode cX6_setVotes 67 = .ok (.if_icmp .ne 6, 3) := by decide +kernel
theorem dX6_setVotes_70 : decode cX6_setVotes 70 = .ok (.bipush (-5), 2) := by decide +kernel
theorem dX6_setVotes_72 : decode cX6_setVotes 72 = .ok (.ireturn, 1) := by decide +kernel
theorem dX6_setVotes_73 : decode cX6_setVotes 73 = .ok (.aload_n 0, 1) := by decide +kernel
theorem dX6_setVotes_74 : decode cX6_setVotes 74 = .ok (.getfield 19, 3) := by decide +kernel
theorem dX6_setVotes_77 : decode cX6_setVotes 77 = .ok (.aload_n 0, 1) := by decide +kernel
theorem dX6_setVotes_78 : decode cX6_setVotes 78 = .ok (.getfield 10, 3) := by decide +kernel
theorem dX6_setVotes_81 : decode cX6_setVotes 81 = .ok (.invokevirtual 71, 3) := by decide +kernel
theorem dX6_setVotes_84 : decode cX6_setVotes 84 = .ok (.aload_n 0, 1) := by decide +kernel
theorem dX6_setVotes_85 : decode cX6_setVotes 85 = .ok (.getfield 10, 3) := by decide +kernel
theorem dX6_setVotes_88 : decode cX6_setVotes 88 = .ok (.getfield 61, 3) := by decide +kernel
theorem dX6_setVotes_91 : decode cX6_setVotes 91 = .ok (.iload_n 1, 1) := by decide +kernel
theorem dX6_setVotes_92 : decode cX6_setVotes 92 = .ok (.iload_n 2, 1) := by decide +kernel
theorem dX6_setVotes_93 : decode cX6_setVotes 93 = .ok (.invokevirtual 75, 3) := by decide +kernel
theorem dX6_setVotes_96 : decode cX6_setVotes 96 = .ok (.aload_n 0, 1) := by decide +kernel
theorem dX6_setVotes_97 : decode cX6_setVotes 97 = .ok (.getfield 10, 3) := by decide +kernel
theorem dX6_setVotes_100 : decode cX6_setVotes 100 = .ok (.getfield 68, 3) := by decide +kernel
theorem dX6_setVotes_103 : decode cX6_setVotes 103 = .ok (.iload_n 1, 1) := by decide +kernel
theorem dX6_setVotes_104 : decode cX6_setVotes 104 = .ok (.iload_n 3, 1) := by decide +kernel
theorem dX6_setVotes_105 : decode cX6_setVotes 105 = .ok (.invokevirtual 75, 3) := by decide +kernel
theorem dX6_setVotes_108 : decode cX6_setVotes 108 = .ok (.bipush 10, 2) := by decide +kernel
theorem dX6_setVotes_110 : decode cX6_setVotes 110 = .ok (.iload 4, 2) := by decide +kernel
theorem dX6_setVotes_112 : decode cX6_setVotes 112 = .ok (.imul, 1) := by decide +kernel
theorem dX6_setVotes_113 : decode cX6_setVotes 113 = .ok (.iload 5, 2) := by decide +kernel
theorem dX6_setVotes_115 : decode cX6_setVotes 115 = .ok (.iadd, 1) := by decide +kernel
theorem dX6_setVotes_116 : decode cX6_setVotes 116 = .ok (.ireturn, 1) := by decide +kernel
theorem dX6_begin_0 : decode cX6_begin 0 = .ok (.iload_n 1, 1) := by decide +kernel
theorem dX6_begin_1 : decode cX6_begin 1 = .ok (.invokestatic 78, 3) := by decide +kernel
theorem dX6_begin_4 : decode cX6_begin 4 = .ok (.ifCond .ne 6, 3) := by decide +kernel
theorem dX6_begin_7 : decode cX6_begin 7 = .ok (.bipush (-2), 2) := by decide +kernel
theorem dX6_begin_9 : decode cX6_begin 9 = .ok (.ireturn, 1) := by decide +kernel
theorem dX6_begin_10 : decode cX6_begin 10 = .ok (.aload_n 0, 1) := by decide +kernel
theorem dX6_begin_11 : decode cX6_begin 11 = .ok (.getfield 19, 3) := by decide +kernel
theorem dX6_begin_14 : decode cX6_begin 14 = .ok (.aload_n 0, 1) := by decide +kernel
theorem dX6_begin_15 : decode cX6_begin 15 = .ok (.getfield 10, 3) := by decide +kernel
theorem dX6_begin_18 : decode cX6_begin 18 = .ok (.invokevirtual 71, 3) := by decide +kernel
theorem dX6_begin_21 : decode cX6_begin 21 = .ok (.aload_n 0, 1) := by decide +kernel
theorem dX6_begin_22 : decode cX6_begin 22 = .ok (.getfield 10, 3) := by decide +kernel
theorem dX6_begin_25 : decode cX6_begin 25 = .ok (.iload_n 1, 1) := by decide +kernel
theorem dX6_begin_26 : decode cX6_begin 26 = .ok (.invokevirtual 81, 3) := by decide +kernel
theorem dX6_begin_29 : decode cX6_begin 29 = .ok (.aload_n 0, 1) := by decide +kernel
theorem dX6_begin_30 : decode cX6_begin 30 = .ok (.getfield 10, 3) := by decide +kernel
theorem dX6_begin_33 : decode cX6_begin 33 = .ok (.invokevirtual 85, 3) := by decide +kernel
theorem dX6_begin_36 : decode cX6_begin 36 = .ok (.ireturn, 1) := by decide +kernel
theorem dX6_setTarget_0 : decode cX6_setTarget 0 = .ok (.iload_n 1, 1) := by decide +kernel
theorem dX6_setTarget_1 : decode cX6_setTarget 1 = .ok (.invokestatic 89, 3) := by decide +kernel
theorem dX6_setTarget_4 : decode cX6_setTarget 4 = .ok (.ifCond .ne 5, 3) := by decide +kernel
theorem dX6_setTarget_7 : decode cX6_setTarget 7 = .ok (.iconst (-1), 1) := by decide +kernel
theorem dX6_setTarget_8 : decode cX6_setTarget 8 = .ok (.ireturn, 1) := by decide +kernel
theorem dX6_setTarget_9 : decode cX6_setTarget 9 = .ok (.iload_n 2, 1) := by decide +kernel
theorem dX6_setTarget_10 : decode cX6_setTarget 10 = .ok (.iconst 0, 1) := by decide +kernel
theorem dX6_setTarget_11 : decode cX6_setTarget 11 = .ok (.bipush 9, 2) := by decide +kernel
theorem dX6_setTarget_13 : decode cX6_setTarget 13 = .ok (.invokestatic 57, 3) := by decide +kernel
theorem dX6_setTarget_16 : decode cX6_setTarget 16 = .ok (.ifCond .ne 6, 3) := by decide +kernel
theorem dX6_setTarget_19 : decode cX6_setTarget 19 = .ok (.bipush (-2), 2) := by decide +kernel
theorem dX6_setTarget_21 : decode cX6_setTarget 21 = .ok (.ireturn, 1) := by decide +kernel
theorem dX6_setTarget_22 : decode cX6_setTarget 22 = .ok (.aload_n 0, 1) := by decide +kernel
theorem dX6_setTarget_23 : decode cX6_setTarget 23 = .ok (.getfield 10, 3) := by decide +kernel
theorem dX6_setTarget_26 : decode cX6_setTarget 26 = .ok (.getfield 92, 3) := by decide +kernel
theorem dX6_setTarget_29 : decode cX6_setTarget 29 = .ok (.iload_n 1, 1) := by decide +kernel
theorem dX6_setTarget_30 : decode cX6_setTarget 30 = .ok (.invokevirtual 64, 3) := by decide +kernel
theorem dX6_setTarget_33 : decode cX6_setTarget 33 = .ok (.istore_n 3, 1) := by decide +kernel
theorem dX6_setTarget_34 : decode cX6_setTarget 34 = .ok (.iload_n 2, 1) := by decide +kernel
theorem dX6_setTarget_35 : decode cX6_setTarget 35 = .ok (.iload_n 3, 1) := by decide +kernel
theorem dX6_setTarget_36 : decode cX6_setTarget 36 = .ok (.if_icmp .ne 6, 3) := by decide +kernel
theorem dX6_setTarget_39 : decode cX6_setTarget 39 = .ok (.bipush (-5), 2) := by decide +kernel
theorem dX6_setTarget_41 : decode cX6_setTarget 41 = .ok (.ireturn, 1) := by decide +kernel
theorem dX6_setTarget_42 : decode cX6_setTarget 42 = .ok (.aload_n 0, 1) := by decide +kernel
theorem dX6_setTarget_43 : decode cX6_setTarget 43 = .ok (.getfield 19, 3) := by decide +kernel
theorem dX6_setTarget_46 : decode cX6_setTarget 46 = .ok (.aload_n 0, 1) := by decide +kernel
theorem dX6_setTarget_47 : decode cX6_setTarget 47 = .ok (.getfield 10, 3) := by decide +kernel
theorem dX6_setTarget_50 : decode cX6_setTarget 50 = .ok (.invokevirtual 71, 3) := by decide +kernel
theorem dX6_setTarget_53 : decode cX6_setTarget 53 = .ok (.aload_n 0, 1) := by decide +kernel
theorem dX6_setTarget_54 : decode cX6_setTarget 54 = .ok (.getfield 10, 3) := by decide +kernel
theorem dX6_setTarget_57 : decode cX6_setTarget 57 = .ok (.getfield 92, 3) := by decide +kernel
theorem dX6_setTarget_60 : decode cX6_setTarget 60 = .ok (.iload_n 1, 1) := by decide +kernel
theorem dX6_setTarget_61 : decode cX6_setTarget 61 = .ok (.iload_n 2, 1) := by decide +kernel
theorem dX6_setTarget_62 : decode cX6_setTarget 62 = .ok (.invokevirtual 75, 3) := by decide +kernel
theorem dX6_setTarget_65 : decode cX6_setTarget 65 = .ok (.iload_n 3, 1) := by decide +kernel
theorem dX6_setTarget_66 : decode cX6_setTarget 66 = .ok (.ireturn, 1) := by decide +kernel
theorem dX6_draft_0 : decode cX6_draft 0 = .ok (.iload_n 1, 1) := by decide +kernel
theorem dX6_draft_1 : decode cX6_draft 1 = .ok (.invokestatic 53, 3) := by decide +kernel
theorem dX6_draft_4 : decode cX6_draft 4 = .ok (.ifCond .ne 5, 3) := by decide +kernel
theorem dX6_draft_7 : decode cX6_draft 7 = .ok (.iconst (-1), 1) := by decide +kernel
theorem dX6_draft_8 : decode cX6_draft 8 = .ok (.ireturn, 1) := by decide +kernel
theorem dX6_draft_9 : decode cX6_draft 9 = .ok (.aload_n 0, 1) := by decide +kernel
theorem dX6_draft_10 : decode cX6_draft 10 = .ok (.getfield 10, 3) := by decide +kernel
theorem dX6_draft_13 : decode cX6_draft 13 = .ok (.getfield 95, 3) := by decide +kernel
theorem dX6_draft_16 : decode cX6_draft 16 = .ok (.ifCond .ne 14, 3) := by decide +kernel
theorem dX6_draft_19 : decode cX6_draft 19 = .ok (.aload_n 0, 1) := by decide +kernel
theorem dX6_draft_20 : decode cX6_draft 20 = .ok (.getfield 10, 3) := by decide +kernel
theorem dX6_draft_23 : decode cX6_draft 23 = .ok (.iload_n 1, 1) := by decide +kernel
theorem dX6_draft_24 : decode cX6_draft 24 = .ok (.invokevirtual 99, 3) := by decide +kernel
theorem dX6_draft_27 : decode cX6_draft 27 = .ok (.ifCond .ne 6, 3) := by decide +kernel
theorem dX6_draft_30 : decode cX6_draft 30 = .ok (.bipush (-4), 2) := by decide +kernel
theorem dX6_draft_32 : decode cX6_draft 32 = .ok (.ireturn, 1) := by decide +kernel
theorem dX6_draft_33 : decode cX6_draft 33 = .ok (.iload_n 2, 1) := by decide +kernel
theorem dX6_draft_34 : decode cX6_draft 34 = .ok (.iconst (-1), 1) := by decide +kernel
theorem dX6_draft_35 : decode cX6_draft 35 = .ok (.if_icmp .eq 17, 3) := by decide +kernel
theorem dX6_draft_38 : decode cX6_draft 38 = .ok (.aload_n 0, 1) := by decide +kernel
theorem dX6_draft_39 : decode cX6_draft 39 = .ok (.getfield 10, 3) := by decide +kernel
theorem dX6_draft_42 : decode cX6_draft 42 = .ok (.iload_n 2, 1) := by decide +kernel
theorem dX6_draft_43 : decode cX6_draft 43 = .ok (.invokevirtual 102, 3) := by decide +kernel
theorem dX6_draft_46 : decode cX6_draft 46 = .ok (.ifCond .ne 6, 3) := by decide +kernel
theorem dX6_draft_49 : decode cX6_draft 49 = .ok (.bipush (-2), 2) := by decide +kernel
theorem dX6_draft_51 : decode cX6_draft 51 = .ok (.ireturn, 1) := by decide +kernel
theorem dX6_draft_52 : decode cX6_draft 52 = .ok (.aload_n 0, 1) := by decide +kernel
theorem dX6_draft_53 : decode cX6_draft 53 = .ok (.getfield 10, 3) := by decide +kernel
theorem dX6_draft_56 : decode cX6_draft 56 = .ok (.getfield 105, 3) := by decide +kernel
theorem dX6_draft_59 : decode cX6_draft 59 = .ok (.iload_n 1, 1) := by decide +kernel
theorem dX6_draft_60 : decode cX6_draft 60 = .ok (.invokevirtual 64, 3) := by decide +kernel
theorem dX6_draft_63 : decode cX6_draft 63 = .ok (.istore_n 3, 1) := by decide +kernel
theorem dX6_draft_64 : decode cX6_draft 64 = .ok (.iload_n 2, 1) := by decide +kernel
theorem dX6_draft_65 : decode cX6_draft 65 = .ok (.iload_n 3, 1) := by decide +kernel
theorem dX6_draft_66 : decode cX6_draft 66 = .ok (.if_icmp .ne 6, 3) := by decide +kernel
theorem dX6_draft_69 : decode cX6_draft 69 = .ok (.bipush (-5), 2) := by decide +kernel
theorem dX6_draft_71 : decode cX6_draft 71 = .ok (.ireturn, 1) := by decide +kernel
theorem dX6_draft_72 : decode cX6_draft 72 = .ok (.aload_n 0, 1) := by decide +kernel
theorem dX6_draft_73 : decode cX6_draft 73 = .ok (.getfield 19, 3) := by decide +kernel
theorem dX6_draft_76 : decode cX6_draft 76 = .ok (.aload_n 0, 1) := by decide +kernel
theorem dX6_draft_77 : decode cX6_draft 77 = .ok (.getfield 10, 3) := by decide +kernel
theorem dX6_draft_80 : decode cX6_draft 80 = .ok (.invokevirtual 71, 3) := by decide +kernel
theorem dX6_draft_83 : decode cX6_draft 83 = .ok (.aload_n 0, 1) := by decide +kernel
theorem dX6_draft_84 : decode cX6_draft 84 = .ok (.getfield 10, 3) := by decide +kernel
theorem dX6_draft_87 : decode cX6_draft 87 = .ok (.getfield 105, 3) := by decide +kernel
theorem dX6_draft_90 : decode cX6_draft 90 = .ok (.iload_n 1, 1) := by decide +kernel
theorem dX6_draft_91 : decode cX6_draft 91 = .ok (.iload_n 2, 1) := by decide +kernel
theorem dX6_draft_92 : decode cX6_draft 92 = .ok (.invokevirtual 75, 3) := by decide +kernel
theorem dX6_draft_95 : decode cX6_draft 95 = .ok (.iload_n 3, 1) := by decide +kernel
theorem dX6_draft_96 : decode cX6_draft 96 = .ok (.ireturn, 1) := by decide +kernel
theorem dX6_trade_0 : decode cX6_trade 0 = .ok (.iload_n 1, 1) := by decide +kernel
theorem dX6_trade_1 : decode cX6_trade 1 = .ok (.invokestatic 53, 3) := by decide +kernel
theorem dX6_trade_4 : decode cX6_trade 4 = .ok (.ifCond .eq 10, 3) := by decide +kernel
theorem dX6_trade_7 : decode cX6_trade 7 = .ok (.iload_n 2, 1) := by decide +kernel
theorem dX6_trade_8 : decode cX6_trade 8 = .ok (.invokestatic 53, 3) := by decide +kernel
theorem dX6_trade_11 : decode cX6_trade 11 = .ok (.ifCond .ne 5, 3) := by decide +kernel
theorem dX6_trade_14 : decode cX6_trade 14 = .ok (.iconst (-1), 1) := by decide +kernel
theorem dX6_trade_15 : decode cX6_trade 15 = .ok (.ireturn, 1) := by decide +kernel
theorem dX6_trade_16 : decode cX6_trade 16 = .ok (.aload_n 0, 1) := by decide +kernel
theorem dX6_trade_17 : decode cX6_trade 17 = .ok (.getfield 10, 3) := by decide +kernel
theorem dX6_trade_20 : decode cX6_trade 20 = .ok (.getfield 105, 3) := by decide +kernel
theorem dX6_trade_23 : decode cX6_trade 23 = .ok (.iload_n 1, 1) := by decide +kernel
theorem dX6_trade_24 : decode cX6_trade 24 = .ok (.invokevirtual 64, 3) := by decide +kernel
theorem dX6_trade_27 : decode cX6_trade 27 = .ok (.istore_n 3, 1) := by decide +kernel
theorem dX6_trade_28 : decode cX6_trade 28 = .ok (.aload_n 0, 1) := by decide +kernel
theorem dX6_trade_29 : decode cX6_trade 29 = .ok (.getfield 10, 3) := by decide +kernel
theorem dX6_trade_32 : decode cX6_trade 32 = .ok (.getfield 105, 3) := by decide +kernel
theorem dX6_trade_35 : decode cX6_trade 35 = .ok (.iload_n 2, 1) := by decide +kernel
theorem dX6_trade_36 : decode cX6_trade 36 = .ok (.invokevirtual 64, 3) := by decide +kernel
theorem dX6_trade_39 : decode cX6_trade 39 = .ok (.istore 4, 2) := by decide +kernel
theorem dX6_trade_41 : decode cX6_trade 41 = .ok (.aload_n 0, 1) := by decide +kernel
theorem dX6_trade_42 : decode cX6_trade 42 = .ok (.getfield 10, 3) := by decide +kernel
theorem dX6_trade_45 : decode cX6_trade 45 = .ok (.getfield 95, 3) := by decide +kernel
theorem dX6_trade_48 : decode cX6_trade 48 = .ok (.ifCond .ne 14, 3) := by decide +kernel
theorem dX6_trade_51 : decode cX6_trade 51 = .ok (.iload_n 3, 1) := by decide +kernel
theorem dX6_trade_52 : decode cX6_trade 52 = .ok (.iconst (-1), 1) := by decide +kernel
theorem dX6_trade_53 : decode cX6_trade 53 = .ok (.if_icmp .eq 9, 3) := by decide +kernel
theorem dX6_trade_56 : decode cX6_trade 56 = .ok (.iload 4, 2) := by decide +kernel
theorem dX6_trade_58 : decode cX6_trade 58 = .ok (.iconst (-1), 1) := by decide +kernel
theorem dX6_trade_59 : decode cX6_trade 59 = .ok (.if_icmp .ne 6, 3) := by decide +kernel
theorem dX6_trade_62 : decode cX6_trade 62 = .ok (.bipush (-4), 2) := by decide +kernel
theorem dX6_trade_64 : decode cX6_trade 64 = .ok (.ireturn, 1) := by decide +kernel
theorem dX6_trade_65 : decode cX6_trade 65 = .ok (.iload_n 3, 1) := by decide +kernel
theorem dX6_trade_66 : decode cX6_trade 66 = .ok (.iload 4, 2) := by decide +kernel
theorem dX6_trade_68 : decode cX6_trade 68 = .ok (.if_icmp .ne 6, 3) := by decide +kernel
theorem dX6_trade_71 : decode cX6_trade 71 = .ok (.bipush (-5), 2) := by decide +kernel
theorem dX6_trade_73 : decode cX6_trade 73 = .ok (.ireturn, 1) := by decide +kernel
theorem dX6_trade_74 : decode cX6_trade 74 = .ok (.aload_n 0, 1) := by decide +kernel
theorem dX6_trade_75 : decode cX6_trade 75 = .ok (.getfield 19, 3) := by decide +kernel
theorem dX6_trade_78 : decode cX6_trade 78 = .ok (.aload_n 0, 1) := by decide +kernel
theorem dX6_trade_79 : decode cX6_trade 79 = .ok (.getfield 10, 3) := by decide +kernel
theorem dX6_trade_82 : decode cX6_trade 82 = .ok (.invokevirtual 71, 3) := by decide +kernel
theorem dX6_trade_85 : decode cX6_trade 85 = .ok (.aload_n 0, 1) := by decide +kernel
theorem dX6_trade_86 : decode cX6_trade 86 = .ok (.getfield 10, 3) := by decide +kernel
theorem dX6_trade_89 : decode cX6_trade 89 = .ok (.getfield 105, 3) := by decide +kernel
theorem dX6_trade_92 : decode cX6_trade 92 = .ok (.iload_n 1, 1) := by decide +kernel
theorem dX6_trade_93 : decode cX6_trade 93 = .ok (.iload 4, 2) := by decide +kernel
theorem dX6_trade_95 : decode cX6_trade 95 = .ok (.invokevirtual 75, 3) := by decide +kernel
theorem dX6_trade_98 : decode cX6_trade 98 = .ok (.aload_n 0, 1) := by decide +kernel
theorem dX6_trade_99 : decode cX6_trade 99 = .ok (.getfield 10, 3) := by decide +kernel
theorem dX6_trade_102 : decode cX6_trade 102 = .ok (.getfield 105, 3) := by decide +kernel
theorem dX6_trade_105 : decode cX6_trade 105 = .ok (.iload_n 2, 1) := by decide +kernel
theorem dX6_trade_106 : decode cX6_trade 106 = .ok (.iload_n 3, 1) := by decide +kernel
theorem dX6_trade_107 : decode cX6_trade 107 = .ok (.invokevirtual 75, 3) := by decide +kernel
theorem dX6_trade_110 : decode cX6_trade 110 = .ok (.aload_n 0, 1) := by decide +kernel
theorem dX6_trade_111 : decode cX6_trade 111 = .ok (.invokevirtual 108, 3) := by decide +kernel
theorem dX6_trade_114 : decode cX6_trade 114 = .ok (.ireturn, 1) := by decide +kernel
theorem dX6_snake_0 : decode cX6_snake 0 = .ok (.aload_n 0, 1) := by decide +kernel
theorem dX6_snake_1 : decode cX6_snake 1 = .ok (.getfield 10, 3) := by decide +kernel
theorem dX6_snake_4 : decode cX6_snake 4 = .ok (.getfield 95, 3) := by decide +kernel
theorem dX6_snake_7 : decode cX6_snake 7 = .ok (.ifCond .eq 6, 3) := by decide +kernel
theorem dX6_snake_10 : decode cX6_snake 10 = .ok (.bipush (-4), 2) := by decide +kernel
theorem dX6_snake_12 : decode cX6_snake 12 = .ok (.ireturn, 1) := by decide +kernel
theorem dX6_snake_13 : decode cX6_snake 13 = .ok (.aload_n 0, 1) := by decide +kernel
theorem dX6_snake_14 : decode cX6_snake 14 = .ok (.iload_n 1, 1) := by decide +kernel
theorem dX6_snake_15 : decode cX6_snake 15 = .ok (.invokevirtual 111, 3) := by decide +kernel
theorem dX6_snake_18 : decode cX6_snake 18 = .ok (.aload_n 0, 1) := by decide +kernel
theorem dX6_snake_19 : decode cX6_snake 19 = .ok (.getfield 49, 3) := by decide +kernel
theorem dX6_snake_22 : decode cX6_snake 22 = .ok (.aload_n 0, 1) := by decide +kernel
theorem dX6_snake_23 : decode cX6_snake 23 = .ok (.getfield 10, 3) := by decide +kernel
theorem dX6_snake_26 : decode cX6_snake 26 = .ok (.getfield 105, 3) := by decide +kernel
theorem dX6_snake_29 : decode cX6_snake 29 = .ok (.invokevirtual 115, 3) := by decide +kernel
theorem dX6_snake_32 : decode cX6_snake 32 = .ok (.ifCond .eq 6, 3) := by decide +kernel
theorem dX6_snake_35 : decode cX6_snake 35 = .ok (.bipush (-5), 2) := by decide +kernel
theorem dX6_snake_37 : decode cX6_snake 37 = .ok (.ireturn, 1) := by decide +kernel
theorem dX6_snake_38 : decode cX6_snake 38 = .ok (.aload_n 0, 1) := by decide +kernel
theorem dX6_snake_39 : decode cX6_snake 39 = .ok (.getfield 19, 3) := by decide +kernel
theorem dX6_snake_42 : decode cX6_snake 42 = .ok (.aload_n 0, 1) := by decide +kernel
theorem dX6_snake_43 : decode cX6_snake 43 = .ok (.getfield 10, 3) := by decide +kernel
theorem dX6_snake_46 : decode cX6_snake 46 = .ok (.invokevirtual 71, 3) := by decide +kernel
theorem dX6_snake_49 : decode cX6_snake 49 = .ok (.aload_n 0, 1) := by decide +kernel
theorem dX6_snake_50 : decode cX6_snake 50 = .ok (.getfield 10, 3) := by decide +kernel
theorem dX6_snake_53 : decode cX6_snake 53 = .ok (.getfield 105, 3) := by decide +kernel
theorem dX6_snake_56 : decode cX6_snake 56 = .ok (.aload_n 0, 1) := by decide +kernel
theorem dX6_snake_57 : decode cX6_snake 57 = .ok (.getfield 49, 3) := by decide +kernel
theorem dX6_snake_60 : decode cX6_snake 60 = .ok (.invokevirtual 119, 3) := by decide +kernel
theorem dX6_snake_63 : decode cX6_snake 63 = .ok (.aload_n 0, 1) := by decide +kernel
theorem dX6_snake_64 : decode cX6_snake 64 = .ok (.invokevirtual 108, 3) := by decide +kernel
theorem dX6_snake_67 : decode cX6_snake 67 = .ok (.ireturn, 1) := by decide +kernel
theorem dX6_adopt_0 : decode cX6_adopt 0 = .ok (.aload_n 0, 1) := by decide +kernel
theorem dX6_adopt_1 : decode cX6_adopt 1 = .ok (.getfield 10, 3) := by decide +kernel
theorem dX6_adopt_4 : decode cX6_adopt 4 = .ok (.getfield 95, 3) := by decide +kernel
theorem dX6_adopt_7 : decode cX6_adopt 7 = .ok (.ifCond .ne 13, 3) := by decide +kernel
theorem dX6_adopt_10 : decode cX6_adopt 10 = .ok (.aload_n 0, 1) := by decide +kernel
theorem dX6_adopt_11 : decode cX6_adopt 11 = .ok (.getfield 10, 3) := by decide +kernel
theorem dX6_adopt_14 : decode cX6_adopt 14 = .ok (.getfield 123, 3) := by decide +kernel
theorem dX6_adopt_17 : decode cX6_adopt 17 = .ok (.ifCond .ne 6, 3) := by decide +kernel
theorem dX6_adopt_20 : decode cX6_adopt 20 = .ok (.bipush (-4), 2) := by decide +kernel
theorem dX6_adopt_22 : decode cX6_adopt 22 = .ok (.ireturn, 1) := by decide +kernel
theorem dX6_adopt_23 : decode cX6_adopt 23 = .ok (.aload_n 0, 1) := by decide +kernel
theorem dX6_adopt_24 : decode cX6_adopt 24 = .ok (.getfield 10, 3) := by decide +kernel
theorem dX6_adopt_27 : decode cX6_adopt 27 = .ok (.getfield 126, 3) := by decide +kernel
theorem dX6_adopt_30 : decode cX6_adopt 30 = .ok (.aload_n 0, 1) := by decide +kernel
theorem dX6_adopt_31 : decode cX6_adopt 31 = .ok (.getfield 10, 3) := by decide +kernel
theorem dX6_adopt_34 : decode cX6_adopt 34 = .ok (.getfield 105, 3) := by decide +kernel
theorem dX6_adopt_37 : decode cX6_adopt 37 = .ok (.invokevirtual 115, 3) := by decide +kernel
theorem dX6_adopt_40 : decode cX6_adopt 40 = .ok (.ifCond .eq 6, 3) := by decide +kernel
theorem dX6_adopt_43 : decode cX6_adopt 43 = .ok (.bipush (-5), 2) := by decide +kernel
theorem dX6_adopt_45 : decode cX6_adopt 45 = .ok (.ireturn, 1) := by decide +kernel
theorem dX6_adopt_46 : decode cX6_adopt 46 = .ok (.aload_n 0, 1) := by decide +kernel
theorem dX6_adopt_47 : decode cX6_adopt 47 = .ok (.getfield 19, 3) := by decide +kernel
theorem dX6_adopt_50 : decode cX6_adopt 50 = .ok (.aload_n 0, 1) := by decide +kernel
theorem dX6_adopt_51 : decode cX6_adopt 51 = .ok (.getfield 10, 3) := by decide +kernel
theorem dX6_adopt_54 : decode cX6_adopt 54 = .ok (.invokevirtual 71, 3) := by decide +kernel
theorem dX6_adopt_57 : decode cX6_adopt 57 = .ok (.aload_n 0, 1) := by decide +kernel
theorem dX6_adopt_58 : decode cX6_adopt 58 = .ok (.getfield 10, 3) := by decide +kernel
theorem dX6_adopt_61 : decode cX6_adopt 61 = .ok (.getfield 105, 3) := by decide +kernel
theorem dX6_adopt_64 : decode cX6_adopt 64 = .ok (.aload_n 0, 1) := by decide +kernel
theorem dX6_adopt_65 : decode cX6_adopt 65 = .ok (.getfield 10, 3) := by decide +kernel
theorem dX6_adopt_68 : decode cX6_adopt 68 = .ok (.getfield 126, 3) := by decide +kernel
theorem dX6_adopt_71 : decode cX6_adopt 71 = .ok (.invokevirtual 119, 3) := by decide +kernel
theorem dX6_adopt_74 : decode cX6_adopt 74 = .ok (.aload_n 0, 1) := by decide +kernel
theorem dX6_adopt_75 : decode cX6_adopt 75 = .ok (.getfield 10, 3) := by decide +kernel
theorem dX6_adopt_78 : decode cX6_adopt 78 = .ok (.invokevirtual 129, 3) := by decide +kernel
theorem dX6_adopt_81 : decode cX6_adopt 81 = .ok (.ireturn, 1) := by decide +kernel
theorem dX6_propose_0 : decode cX6_propose 0 = .ok (.aload_n 0, 1) := by decide +kernel
theorem dX6_propose_1 : decode cX6_propose 1 = .ok (.getfield 10, 3) := by decide +kernel
theorem dX6_propose_4 : decode cX6_propose 4 = .ok (.getfield 95, 3) := by decide +kernel
theorem dX6_propose_7 : decode cX6_propose 7 = .ok (.ifCond .eq 6, 3) := by decide +kernel
theorem dX6_propose_10 : decode cX6_propose 10 = .ok (.bipush (-4), 2) := by decide +kernel
theorem dX6_propose_12 : decode cX6_propose 12 = .ok (.ireturn, 1) := by decide +kernel
theorem dX6_propose_13 : decode cX6_propose 13 = .ok (.aload_n 0, 1) := by decide +kernel
theorem dX6_propose_14 : decode cX6_propose 14 = .ok (.getfield 40, 3) := by decide +kernel
theorem dX6_propose_17 : decode cX6_propose 17 = .ok (.aload_n 0, 1) := by decide +kernel
theorem dX6_propose_18 : decode cX6_propose 18 = .ok (.getfield 10, 3) := by decide +kernel
theorem dX6_propose_21 : decode cX6_propose 21 = .ok (.invokevirtual 132, 3) := by decide +kernel
theorem dX6_propose_24 : decode cX6_propose 24 = .ok (.istore_n 1, 1) := by decide +kernel
theorem dX6_propose_25 : decode cX6_propose 25 = .ok (.iload_n 1, 1) := by decide +kernel
theorem dX6_propose_26 : decode cX6_propose 26 = .ok (.ifCond .eq 8, 3) := by decide +kernel
theorem dX6_propose_29 : decode cX6_propose 29 = .ok (.bipush (-10), 2) := by decide +kernel
theorem dX6_propose_31 : decode cX6_propose 31 = .ok (.iload_n 1, 1) := by decide +kernel
theorem dX6_propose_32 : decode cX6_propose 32 = .ok (.isub, 1) := by decide +kernel
theorem dX6_propose_33 : decode cX6_propose 33 = .ok (.ireturn, 1) := by decide +kernel
theorem dX6_propose_34 : decode cX6_propose 34 = .ok (.aload_n 0, 1) := by decide +kernel
theorem dX6_propose_35 : decode cX6_propose 35 = .ok (.getfield 19, 3) := by decide +kernel
theorem dX6_propose_38 : decode cX6_propose 38 = .ok (.aload_n 0, 1) := by decide +kernel
theorem dX6_propose_39 : decode cX6_propose 39 = .ok (.getfield 10, 3) := by decide +kernel
theorem dX6_propose_42 : decode cX6_propose 42 = .ok (.invokevirtual 71, 3) := by decide +kernel
theorem dX6_propose_45 : decode cX6_propose 45 = .ok (.aload_n 0, 1) := by decide +kernel
theorem dX6_propose_46 : decode cX6_propose 46 = .ok (.getfield 10, 3) := by decide +kernel
theorem dX6_propose_49 : decode cX6_propose 49 = .ok (.iconst 1, 1) := by decide +kernel
theorem dX6_propose_50 : decode cX6_propose 50 = .ok (.putfield 95, 3) := by decide +kernel
theorem dX6_propose_53 : decode cX6_propose 53 = .ok (.aload_n 0, 1) := by decide +kernel
theorem dX6_propose_54 : decode cX6_propose 54 = .ok (.getfield 10, 3) := by decide +kernel
theorem dX6_propose_57 : decode cX6_propose 57 = .ok (.invokevirtual 129, 3) := by decide +kernel
theorem dX6_propose_60 : decode cX6_propose 60 = .ok (.ireturn, 1) := by decide +kernel
theorem dX6_freeze_0 : decode cX6_freeze 0 = .ok (.aload_n 0, 1) := by decide +kernel
theorem dX6_freeze_1 : decode cX6_freeze 1 = .ok (.getfield 10, 3) := by decide +kernel
theorem dX6_freeze_4 : decode cX6_freeze 4 = .ok (.getfield 95, 3) := by decide +kernel
theorem dX6_freeze_7 : decode cX6_freeze 7 = .ok (.iconst 1, 1) := by decide +kernel
theorem dX6_freeze_8 : decode cX6_freeze 8 = .ok (.if_icmp .eq 6, 3) := by decide +kernel
theorem dX6_freeze_11 : decode cX6_freeze 11 = .ok (.bipush (-4), 2) := by decide +kernel
theorem dX6_freeze_13 : decode cX6_freeze 13 = .ok (.ireturn, 1) := by decide +kernel
theorem dX6_freeze_14 : decode cX6_freeze 14 = .ok (.aload_n 0, 1) := by decide +kernel
theorem dX6_freeze_15 : decode cX6_freeze 15 = .ok (.getfield 10, 3) := by decide +kernel
theorem dX6_freeze_18 : decode cX6_freeze 18 = .ok (.iload_n 1, 1) := by decide +kernel
theorem dX6_freeze_19 : decode cX6_freeze 19 = .ok (.invokevirtual 102, 3) := by decide +kernel
theorem dX6_freeze_22 : decode cX6_freeze 22 = .ok (.ifCond .ne 5, 3) := by decide +kernel
theorem dX6_freeze_25 : decode cX6_freeze 25 = .ok (.iconst (-1), 1) := by decide +kernel
theorem dX6_freeze_26 : decode cX6_freeze 26 = .ok (.ireturn, 1) := by decide +kernel
theorem dX6_freeze_27 : decode cX6_freeze 27 = .ok (.aload_n 0, 1) := by decide +kernel
theorem dX6_freeze_28 : decode cX6_freeze 28 = .ok (.getfield 19, 3) := by decide +kernel
theorem dX6_freeze_31 : decode cX6_freeze 31 = .ok (.aload_n 0, 1) := by decide +kernel
theorem dX6_freeze_32 : decode cX6_freeze 32 = .ok (.getfield 10, 3) := by decide +kernel
theorem dX6_freeze_35 : decode cX6_freeze 35 = .ok (.invokevirtual 71, 3) := by decide +kernel
theorem dX6_freeze_38 : decode cX6_freeze 38 = .ok (.aload_n 0, 1) := by decide +kernel
theorem dX6_freeze_39 : decode cX6_freeze 39 = .ok (.getfield 10, 3) := by decide +kernel
theorem dX6_freeze_42 : decode cX6_freeze 42 = .ok (.iload_n 1, 1) := by decide +kernel
theorem dX6_freeze_43 : decode cX6_freeze 43 = .ok (.invokevirtual 136, 3) := by decide +kernel
theorem dX6_freeze_46 : decode cX6_freeze 46 = .ok (.aload_n 0, 1) := by decide +kernel
theorem dX6_freeze_47 : decode cX6_freeze 47 = .ok (.getfield 10, 3) := by decide +kernel
theorem dX6_freeze_50 : decode cX6_freeze 50 = .ok (.getfield 123, 3) := by decide +kernel
theorem dX6_freeze_53 : decode cX6_freeze 53 = .ok (.ireturn, 1) := by decide +kernel
theorem dX6_type_0 : decode cX6_type 0 = .ok (.aload_n 0, 1) := by decide +kernel
theorem dX6_type_1 : decode cX6_type 1 = .ok (.getfield 33, 3) := by decide +kernel
theorem dX6_type_4 : decode cX6_type 4 = .ok (.iload_n 1, 1) := by decide +kernel
theorem dX6_type_5 : decode cX6_type 5 = .ok (.invokevirtual 139, 3) := by decide +kernel
theorem dX6_type_8 : decode cX6_type 8 = .ok (.ifCond .ne 6, 3) := by decide +kernel
theorem dX6_type_11 : decode cX6_type 11 = .ok (.bipush (-3), 2) := by decide +kernel
theorem dX6_type_13 : decode cX6_type 13 = .ok (.ireturn, 1) := by decide +kernel
theorem dX6_type_14 : decode cX6_type 14 = .ok (.aload_n 0, 1) := by decide +kernel
theorem dX6_type_15 : decode cX6_type 15 = .ok (.getfield 33, 3) := by decide +kernel
theorem dX6_type_18 : decode cX6_type 18 = .ok (.invokevirtual 143, 3) := by decide +kernel
theorem dX6_type_21 : decode cX6_type 21 = .ok (.ireturn, 1) := by decide +kernel
theorem dX6_clearText_0 : decode cX6_clearText 0 = .ok (.aload_n 0, 1) := by decide +kernel
theorem dX6_clearText_1 : decode cX6_clearText 1 = .ok (.getfield 33, 3) := by decide +kernel
theorem dX6_clearText_4 : decode cX6_clearText 4 = .ok (.invokevirtual 143, 3) := by decide +kernel
theorem dX6_clearText_7 : decode cX6_clearText 7 = .ok (.istore_n 1, 1) := by decide +kernel
theorem dX6_clearText_8 : decode cX6_clearText 8 = .ok (.aload_n 0, 1) := by decide +kernel
theorem dX6_clearText_9 : decode cX6_clearText 9 = .ok (.getfield 33, 3) := by decide +kernel
theorem dX6_clearText_12 : decode cX6_clearText 12 = .ok (.invokevirtual 146, 3) := by decide +kernel
theorem dX6_clearText_15 : decode cX6_clearText 15 = .ok (.iload_n 1, 1) := by decide +kernel
theorem dX6_clearText_16 : decode cX6_clearText 16 = .ok (.ireturn, 1) := by decide +kernel
theorem dX6_readVotes_0 : decode cX6_readVotes 0 = .ok (.iload_n 1, 1) := by decide +kernel
theorem dX6_readVotes_1 : decode cX6_readVotes 1 = .ok (.invokestatic 53, 3) := by decide +kernel
theorem dX6_readVotes_4 : decode cX6_readVotes 4 = .ok (.ifCond .ne 5, 3) := by decide +kernel
theorem dX6_readVotes_7 : decode cX6_readVotes 7 = .ok (.iconst (-1), 1) := by decide +kernel
theorem dX6_readVotes_8 : decode cX6_readVotes 8 = .ok (.ireturn, 1) := by decide +kernel
theorem dX6_readVotes_9 : decode cX6_readVotes 9 = .ok (.aload_n 0, 1) := by decide +kernel
theorem dX6_readVotes_10 : decode cX6_readVotes 10 = .ok (.getfield 33, 3) := by decide +kernel
theorem dX6_readVotes_13 : decode cX6_readVotes 13 = .ok (.invokevirtual 149, 3) := by decide +kernel
theorem dX6_readVotes_16 : decode cX6_readVotes 16 = .ok (.istore_n 2, 1) := by decide +kernel
theorem dX6_readVotes_17 : decode cX6_readVotes 17 = .ok (.iload_n 2, 1) := by decide +kernel
theorem dX6_readVotes_18 : decode cX6_readVotes 18 = .ok (.iconst (-1), 1) := by decide +kernel
theorem dX6_readVotes_19 : decode cX6_readVotes 19 = .ok (.if_icmp .eq 8, 3) := by decide +kernel
theorem dX6_readVotes_22 : decode cX6_readVotes 22 = .ok (.bipush (-100), 2) := by decide +kernel
theorem dX6_readVotes_24 : decode cX6_readVotes 24 = .ok (.iload_n 2, 1) := by decide +kernel
theorem dX6_readVotes_25 : decode cX6_readVotes 25 = .ok (.isub, 1) := by decide +kernel
theorem dX6_readVotes_26 : decode cX6_readVotes 26 = .ok (.ireturn, 1) := by decide +kernel
theorem dX6_readVotes_27 : decode cX6_readVotes 27 = .ok (.aload_n 0, 1) := by decide +kernel
theorem dX6_readVotes_28 : decode cX6_readVotes 28 = .ok (.getfield 33, 3) := by decide +kernel
theorem dX6_readVotes_31 : decode cX6_readVotes 31 = .ok (.invokevirtual 152, 3) := by decide +kernel
theorem dX6_readVotes_34 : decode cX6_readVotes 34 = .ok (.istore_n 3, 1) := by decide +kernel
theorem dX6_readVotes_35 : decode cX6_readVotes 35 = .ok (.iload_n 3, 1) := by decide +kernel
theorem dX6_readVotes_36 : decode cX6_readVotes 36 = .ok (.bipush 36, 2) := by decide +kernel
theorem dX6_readVotes_38 : decode cX6_readVotes 38 = .ok (.iload_n 1, 1) := by decide +kernel
theorem dX6_readVotes_39 : decode cX6_readVotes 39 = .ok (.isub, 1) := by decide +kernel
theorem dX6_readVotes_40 : decode cX6_readVotes 40 = .ok (.if_icmp .le 6, 3) := by decide +kernel
theorem dX6_readVotes_43 : decode cX6_readVotes 43 = .ok (.bipush (-2), 2) := by decide +kernel
theorem dX6_readVotes_45 : decode cX6_readVotes 45 = .ok (.ireturn, 1) := by decide +kernel
theorem dX6_readVotes_46 : decode cX6_readVotes 46 = .ok (.aload_n 0, 1) := by decide +kernel
theorem dX6_readVotes_47 : decode cX6_readVotes 47 = .ok (.getfield 19, 3) := by decide +kernel
theorem dX6_readVotes_50 : decode cX6_readVotes 50 = .ok (.aload_n 0, 1) := by decide +kernel
theorem dX6_readVotes_51 : decode cX6_readVotes 51 = .ok (.getfield 10, 3) := by decide +kernel
theorem dX6_readVotes_54 : decode cX6_readVotes 54 = .ok (.invokevirtual 71, 3) := by decide +kernel
theorem dX6_readVotes_57 : decode cX6_readVotes 57 = .ok (.iconst 0, 1) := by decide +kernel
theorem dX6_readVotes_58 : decode cX6_readVotes 58 = .ok (.istore 4, 2) := by decide +kernel
theorem dX6_readVotes_60 : decode cX6_readVotes 60 = .ok (.iload 4, 2) := by decide +kernel
theorem dX6_readVotes_62 : decode cX6_readVotes 62 = .ok (.iload_n 3, 1) := by decide +kernel
theorem dX6_readVotes_63 : decode cX6_readVotes 63 = .ok (.if_icmp .ge 57, 3) := by decide +kernel
theorem dX6_readVotes_66 : decode cX6_readVotes 66 = .ok (.aload_n 0, 1) := by decide +kernel
theorem dX6_readVotes_67 : decode cX6_readVotes 67 = .ok (.getfield 10, 3) := by decide +kernel
theorem dX6_readVotes_70 : decode cX6_readVotes 70 = .ok (.getfield 61, 3) := by decide +kernel
theorem dX6_readVotes_73 : decode cX6_readVotes 73 = .ok (.iload_n 1, 1) := by decide +kernel
theorem dX6_readVotes_74 : decode cX6_readVotes 74 = .ok (.iload 4, 2) := by decide +kernel
theorem dX6_readVotes_76 : decode cX6_readVotes 76 = .ok (.iadd, 1) := by decide +kernel
theorem dX6_readVotes_77 : decode cX6_readVotes 77 = .ok (.aload_n 0, 1) := by decide +kernel
theorem dX6_readVotes_78 : decode cX6_readVotes 78 = .ok (.getfield 33, 3) := by decide +kernel
theorem dX6_readVotes_81 : decode cX6_readVotes 81 = .ok (.iload 4, 2) := by decide +kernel
theorem dX6_readVotes_83 : decode cX6_readVotes 83 = .ok (.iconst 0, 1) := by decide +kernel
theorem dX6_readVotes_84 : decode cX6_readVotes 84 = .ok (.invokevirtual 155, 3) := by decide +kernel
theorem dX6_readVotes_87 : decode cX6_readVotes 87 = .ok (.invokevirtual 75, 3) := by decide +kernel
theorem dX6_readVotes_90 : decode cX6_readVotes 90 = .ok (.aload_n 0, 1) := by decide +kernel
theorem dX6_readVotes_91 : decode cX6_readVotes 91 = .ok (.getfield 10, 3) := by decide +kernel
theorem dX6_readVotes_94 : decode cX6_readVotes 94 = .ok (.getfield 68, 3) := by decide +kernel
theorem dX6_readVotes_97 : decode cX6_readVotes 97 = .ok (.iload_n 1, 1) := by decide +kernel
theorem dX6_readVotes_98 : decode cX6_readVotes 98 = .ok (.iload 4, 2) := by decide +kernel
theorem dX6_readVotes_100 : decode cX6_readVotes 100 = .ok (.iadd, 1) := by decide +kernel
theorem dX6_readVotes_101 : decode cX6_readVotes 101 = .ok (.aload_n 0, 1) := by decide +kernel
theorem dX6_readVotes_102 : decode cX6_readVotes 102 = .ok (.getfield 33, 3) := by decide +kernel
theorem dX6_readVotes_105 : decode cX6_readVotes 105 = .ok (.iload 4, 2) := by decide +kernel
theorem dX6_readVotes_107 : decode cX6_readVotes 107 = .ok (.iconst 1, 1) := by decide +kernel
theorem dX6_readVotes_108 : decode cX6_readVotes 108 = .ok (.invokevirtual 155, 3) := by decide +kernel
theorem dX6_readVotes_111 : decode cX6_readVotes 111 = .ok (.invokevirtual 75, 3) := by decide +kernel
theorem dX6_readVotes_114 : decode cX6_readVotes 114 = .ok (.iinc 4 1, 3) := by decide +kernel
theorem dX6_readVotes_117 : decode cX6_readVotes 117 = .ok (.goto (-57), 3) := by decide +kernel
theorem dX6_readVotes_120 : decode cX6_readVotes 120 = .ok (.iload_n 3, 1) := by decide +kernel
theorem dX6_readVotes_121 : decode cX6_readVotes 121 = .ok (.ireturn, 1) := by decide +kernel
theorem dX6_undo_0 : decode cX6_undo 0 = .ok (.aload_n 0, 1) := by decide +kernel
theorem dX6_undo_1 : decode cX6_undo 1 = .ok (.getfield 19, 3) := by decide +kernel
theorem dX6_undo_4 : decode cX6_undo 4 = .ok (.invokevirtual 159, 3) := by decide +kernel
theorem dX6_undo_7 : decode cX6_undo 7 = .ok (.ifCond .ne 6, 3) := by decide +kernel
theorem dX6_undo_10 : decode cX6_undo 10 = .ok (.bipush (-5), 2) := by decide +kernel
theorem dX6_undo_12 : decode cX6_undo 12 = .ok (.ireturn, 1) := by decide +kernel
theorem dX6_undo_13 : decode cX6_undo 13 = .ok (.aload_n 0, 1) := by decide +kernel
theorem dX6_undo_14 : decode cX6_undo 14 = .ok (.getfield 19, 3) := by decide +kernel
theorem dX6_undo_17 : decode cX6_undo 17 = .ok (.aload_n 0, 1) := by decide +kernel
theorem dX6_undo_18 : decode cX6_undo 18 = .ok (.getfield 10, 3) := by decide +kernel
theorem dX6_undo_21 : decode cX6_undo 21 = .ok (.invokevirtual 160, 3) := by decide +kernel
theorem dX6_undo_24 : decode cX6_undo 24 = .ok (.aload_n 0, 1) := by decide +kernel
theorem dX6_undo_25 : decode cX6_undo 25 = .ok (.getfield 19, 3) := by decide +kernel
theorem dX6_undo_28 : decode cX6_undo 28 = .ok (.invokevirtual 159, 3) := by decide +kernel
theorem dX6_undo_31 : decode cX6_undo 31 = .ok (.ireturn, 1) := by decide +kernel
theorem dX6_keep_0 : decode cX6_keep 0 = .ok (.aload_n 0, 1) := by decide +kernel
theorem dX6_keep_1 : decode cX6_keep 1 = .ok (.getfield 23, 3) := by decide +kernel
theorem dX6_keep_4 : decode cX6_keep 4 = .ok (.aload_n 0, 1) := by decide +kernel
theorem dX6_keep_5 : decode cX6_keep 5 = .ok (.getfield 10, 3) := by decide +kernel
theorem dX6_keep_8 : decode cX6_keep 8 = .ok (.invokevirtual 163, 3) := by decide +kernel
theorem dX6_keep_11 : decode cX6_keep 11 = .ok (.aload_n 0, 1) := by decide +kernel
theorem dX6_keep_12 : decode cX6_keep 12 = .ok (.iconst 1, 1) := by decide +kernel
theorem dX6_keep_13 : decode cX6_keep 13 = .ok (.putfield 26, 3) := by decide +kernel
theorem dX6_keep_16 : decode cX6_keep 16 = .ok (.aload_n 0, 1) := by decide +kernel
theorem dX6_keep_17 : decode cX6_keep 17 = .ok (.getfield 10, 3) := by decide +kernel
theorem dX6_keep_20 : decode cX6_keep 20 = .ok (.getfield 123, 3) := by decide +kernel
theorem dX6_keep_23 : decode cX6_keep 23 = .ok (.ireturn, 1) := by decide +kernel
theorem dX6_restore_0 : decode cX6_restore 0 = .ok (.aload_n 0, 1) := by decide +kernel
theorem dX6_restore_1 : decode cX6_restore 1 = .ok (.getfield 26, 3) := by decide +kernel
theorem dX6_restore_4 : decode cX6_restore 4 = .ok (.ifCond .ne 6, 3) := by decide +kernel
theorem dX6_restore_7 : decode cX6_restore 7 = .ok (.bipush (-5), 2) := by decide +kernel
theorem dX6_restore_9 : decode cX6_restore 9 = .ok (.ireturn, 1) := by decide +kernel
theorem dX6_restore_10 : decode cX6_restore 10 = .ok (.aload_n 0, 1) := by decide +kernel
theorem dX6_restore_11 : decode cX6_restore 11 = .ok (.getfield 19, 3) := by decide +kernel
theorem dX6_restore_14 : decode cX6_restore 14 = .ok (.aload_n 0, 1) := by decide +kernel
theorem dX6_restore_15 : decode cX6_restore 15 = .ok (.getfield 10, 3) := by decide +kernel
theorem dX6_restore_18 : decode cX6_restore 18 = .ok (.invokevirtual 71, 3) := by decide +kernel
theorem dX6_restore_21 : decode cX6_restore 21 = .ok (.aload_n 0, 1) := by decide +kernel
theorem dX6_restore_22 : decode cX6_restore 22 = .ok (.getfield 10, 3) := by decide +kernel
theorem dX6_restore_25 : decode cX6_restore 25 = .ok (.aload_n 0, 1) := by decide +kernel
theorem dX6_restore_26 : decode cX6_restore 26 = .ok (.getfield 23, 3) := by decide +kernel
theorem dX6_restore_29 : decode cX6_restore 29 = .ok (.invokevirtual 163, 3) := by decide +kernel
theorem dX6_restore_32 : decode cX6_restore 32 = .ok (.aload_n 0, 1) := by decide +kernel
theorem dX6_restore_33 : decode cX6_restore 33 = .ok (.getfield 10, 3) := by decide +kernel
theorem dX6_restore_36 : decode cX6_restore 36 = .ok (.getfield 123, 3) := by decide +kernel
theorem dX6_restore_39 : decode cX6_restore 39 = .ok (.ireturn, 1) := by decide +kernel
theorem dX6_cell_0 : decode cX6_cell 0 = .ok (.iload_n 1, 1) := by decide +kernel
theorem dX6_cell_1 : decode cX6_cell 1 = .ok (.invokestatic 53, 3) := by decide +kernel
theorem dX6_cell_4 : decode cX6_cell 4 = .ok (.ifCond .ne 5, 3) := by decide +kernel
theorem dX6_cell_7 : decode cX6_cell 7 = .ok (.iconst (-1), 1) := by decide +kernel
theorem dX6_cell_8 : decode cX6_cell 8 = .ok (.ireturn, 1) := by decide +kernel
theorem dX6_cell_9 : decode cX6_cell 9 = .ok (.iload_n 2, 1) := by decide +kernel
theorem dX6_cell_10 : decode cX6_cell 10 = .ok (.tableswitch 125 0 4 #[34, 46, 58, 73, 88], 34) := by decide +kernel
theorem dX6_cell_44 : decode cX6_cell 44 = .ok (.aload_n 0, 1) := by decide +kernel
theorem dX6_cell_45 : decode cX6_cell 45 = .ok (.getfield 10, 3) := by decide +kernel
theorem dX6_cell_48 : decode cX6_cell 48 = .ok (.getfield 61, 3) := by decide +kernel
theorem dX6_cell_51 : decode cX6_cell 51 = .ok (.iload_n 1, 1) := by decide +kernel
theorem dX6_cell_52 : decode cX6_cell 52 = .ok (.invokevirtual 64, 3) := by decide +kernel
theorem dX6_cell_55 : decode cX6_cell 55 = .ok (.ireturn, 1) := by decide +kernel
theorem dX6_cell_56 : decode cX6_cell 56 = .ok (.aload_n 0, 1) := by decide +kernel
theorem dX6_cell_57 : decode cX6_cell 57 = .ok (.getfield 10, 3) := by decide +kernel
theorem dX6_cell_60 : decode cX6_cell 60 = .ok (.getfield 68, 3) := by decide +kernel
theorem dX6_cell_63 : decode cX6_cell 63 = .ok (.iload_n 1, 1) := by decide +kernel
theorem dX6_cell_64 : decode cX6_cell 64 = .ok (.invokevirtual 64, 3) := by decide +kernel
theorem dX6_cell_67 : decode cX6_cell 67 = .ok (.ireturn, 1) := by decide +kernel
theorem dX6_cell_68 : decode cX6_cell 68 = .ok (.aload_n 0, 1) := by decide +kernel
theorem dX6_cell_69 : decode cX6_cell 69 = .ok (.getfield 10, 3) := by decide +kernel
theorem dX6_cell_72 : decode cX6_cell 72 = .ok (.getfield 105, 3) := by decide +kernel
theorem dX6_cell_75 : decode cX6_cell 75 = .ok (.iload_n 1, 1) := by decide +kernel
theorem dX6_cell_76 : decode cX6_cell 76 = .ok (.invokevirtual 64, 3) := by decide +kernel
theorem dX6_cell_79 : decode cX6_cell 79 = .ok (.invokestatic 165, 3) := by decide +kernel
theorem dX6_cell_82 : decode cX6_cell 82 = .ok (.ireturn, 1) := by decide +kernel
theorem dX6_cell_83 : decode cX6_cell 83 = .ok (.aload_n 0, 1) := by decide +kernel
theorem dX6_cell_84 : decode cX6_cell 84 = .ok (.getfield 10, 3) := by decide +kernel
theorem dX6_cell_87 : decode cX6_cell 87 = .ok (.getfield 168, 3) := by decide +kernel
theorem dX6_cell_90 : decode cX6_cell 90 = .ok (.iload_n 1, 1) := by decide +kernel
theorem dX6_cell_91 : decode cX6_cell 91 = .ok (.invokevirtual 64, 3) := by decide +kernel
theorem dX6_cell_94 : decode cX6_cell 94 = .ok (.invokestatic 165, 3) := by decide +kernel
theorem dX6_cell_97 : decode cX6_cell 97 = .ok (.ireturn, 1) := by decide +kernel
theorem dX6_cell_98 : decode cX6_cell 98 = .ok (.aload_n 0, 1) := by decide +kernel
theorem dX6_cell_99 : decode cX6_cell 99 = .ok (.getfield 10, 3) := by decide +kernel
theorem dX6_cell_102 : decode cX6_cell 102 = .ok (.iload_n 1, 1) := by decide +kernel
theorem dX6_cell_103 : decode cX6_cell 103 = .ok (.invokevirtual 99, 3) := by decide +kernel
theorem dX6_cell_106 : decode cX6_cell 106 = .ok (.ifCond .eq 17, 3) := by decide +kernel
theorem dX6_cell_109 : decode cX6_cell 109 = .ok (.aload_n 0, 1) := by decide +kernel
theorem dX6_cell_110 : decode cX6_cell 110 = .ok (.getfield 10, 3) := by decide +kernel
theorem dX6_cell_113 : decode cX6_cell 113 = .ok (.getfield 105, 3) := by decide +kernel
theorem dX6_cell_116 : decode cX6_cell 116 = .ok (.iload_n 1, 1) := by decide +kernel
theorem dX6_cell_117 : decode cX6_cell 117 = .ok (.invokestatic 171, 3) := by decide +kernel
theorem dX6_cell_120 : decode cX6_cell 120 = .ok (.goto 14, 3) := by decide +kernel
theorem dX6_cell_123 : decode cX6_cell 123 = .ok (.aload_n 0, 1) := by decide +kernel
theorem dX6_cell_124 : decode cX6_cell 124 = .ok (.getfield 10, 3) := by decide +kernel
theorem dX6_cell_127 : decode cX6_cell 127 = .ok (.getfield 168, 3) := by decide +kernel
theorem dX6_cell_130 : decode cX6_cell 130 = .ok (.iload_n 1, 1) := by decide +kernel
theorem dX6_cell_131 : decode cX6_cell 131 = .ok (.invokestatic 171, 3) := by decide +kernel
theorem dX6_cell_134 : decode cX6_cell 134 = .ok (.ireturn, 1) := by decide +kernel
theorem dX6_cell_135 : decode cX6_cell 135 = .ok (.bipush (-2), 2) := by decide +kernel
theorem dX6_cell_137 : decode cX6_cell 137 = .ok (.ireturn, 1) := by decide +kernel
theorem dX6_part_0 : decode cX6_part 0 = .ok (.aload_n 0, 1) := by decide +kernel
theorem dX6_part_1 : decode cX6_part 1 = .ok (.getfield 10, 3) := by decide +kernel
theorem dX6_part_4 : decode cX6_part 4 = .ok (.iload_n 1, 1) := by decide +kernel
theorem dX6_part_5 : decode cX6_part 5 = .ok (.invokevirtual 102, 3) := by decide +kernel
theorem dX6_part_8 : decode cX6_part 8 = .ok (.ifCond .ne 5, 3) := by decide +kernel
theorem dX6_part_11 : decode cX6_part 11 = .ok (.iconst (-1), 1) := by decide +kernel
theorem dX6_part_12 : decode cX6_part 12 = .ok (.ireturn, 1) := by decide +kernel
theorem dX6_part_13 : decode cX6_part 13 = .ok (.iload_n 2, 1) := by decide +kernel
theorem dX6_part_14 : decode cX6_part 14 = .ok (.iconst 1, 1) := by decide +kernel
theorem dX6_part_15 : decode cX6_part 15 = .ok (.if_icmp .ne 19, 3) := by decide +kernel
theorem dX6_part_18 : decode cX6_part 18 = .ok (.aload_n 0, 1) := by decide +kernel
theorem dX6_part_19 : decode cX6_part 19 = .ok (.getfield 40, 3) := by decide +kernel
theorem dX6_part_22 : decode cX6_part 22 = .ok (.aload_n 0, 1) := by decide +kernel
theorem dX6_part_23 : decode cX6_part 23 = .ok (.getfield 10, 3) := by decide +kernel
theorem dX6_part_26 : decode cX6_part 26 = .ok (.getfield 105, 3) := by decide +kernel
theorem dX6_part_29 : decode cX6_part 29 = .ok (.iload_n 1, 1) := by decide +kernel
theorem dX6_part_30 : decode cX6_part 30 = .ok (.invokevirtual 177, 3) := by decide +kernel
theorem dX6_part_33 : decode cX6_part 33 = .ok (.ireturn, 1) := by decide +kernel
theorem dX6_part_34 : decode cX6_part 34 = .ok (.aload_n 0, 1) := by decide +kernel
theorem dX6_part_35 : decode cX6_part 35 = .ok (.aload_n 0, 1) := by decide +kernel
theorem dX6_part_36 : decode cX6_part 36 = .ok (.getfield 10, 3) := by decide +kernel
theorem dX6_part_39 : decode cX6_part 39 = .ok (.getfield 105, 3) := by decide +kernel
theorem dX6_part_42 : decode cX6_part 42 = .ok (.iload_n 1, 1) := by decide +kernel
theorem dX6_part_43 : decode cX6_part 43 = .ok (.iload_n 2, 1) := by decide +kernel
theorem dX6_part_44 : decode cX6_part 44 = .ok (.invokevirtual 180, 3) := by decide +kernel
theorem dX6_part_47 : decode cX6_part 47 = .ok (.ireturn, 1) := by decide +kernel
theorem dX6_district_0 : decode cX6_district 0 = .ok (.iload_n 1, 1) := by decide +kernel
theorem dX6_district_1 : decode cX6_district 1 = .ok (.iconst 0, 1) := by decide +kernel
theorem dX6_district_2 : decode cX6_district 2 = .ok (.aload_n 0, 1) := by decide +kernel
theorem dX6_district_3 : decode cX6_district 3 = .ok (.getfield 10, 3) := by decide +kernel
theorem dX6_district_6 : decode cX6_district 6 = .ok (.getfield 123, 3) := by decide +kernel
theorem dX6_district_9 : decode cX6_district 9 = .ok (.iconst 1, 1) := by decide +kernel
theorem dX6_district_10 : decode cX6_district 10 = .ok (.isub, 1) := by decide +kernel
theorem dX6_district_11 : decode cX6_district 11 = .ok (.invokestatic 57, 3) := by decide +kernel
theorem dX6_district_14 : decode cX6_district 14 = .ok (.ifCond .ne 5, 3) := by decide +kernel
theorem dX6_district_17 : decode cX6_district 17 = .ok (.iconst (-1), 1) := by decide +kernel
theorem dX6_district_18 : decode cX6_district 18 = .ok (.ireturn, 1) := by decide +kernel
theorem dX6_district_19 : decode cX6_district 19 = .ok (.iload_n 2, 1) := by decide +kernel
theorem dX6_district_20 : decode cX6_district 20 = .ok (.lookupswitch 68 #[(1, 36), (6, 48), (7, 58)], 36) := by decide +kernel
theorem dX6_district_56 : decode cX6_district 56 = .ok (.aload_n 0, 1) := by decide +kernel
theorem dX6_district_57 : decode cX6_district 57 = .ok (.getfield 10, 3) := by decide +kernel
theorem dX6_district_60 : decode cX6_district 60 = .ok (.getfield 184, 3) := by decide +kernel
theorem dX6_district_63 : decode cX6_district 63 = .ok (.iload_n 1, 1) := by decide +kernel
theorem dX6_district_64 : decode cX6_district 64 = .ok (.invokevirtual 64, 3) := by decide +kernel
theorem dX6_district_67 : decode cX6_district 67 = .ok (.ireturn, 1) := by decide +kernel
theorem dX6_district_68 : decode cX6_district 68 = .ok (.aload_n 0, 1) := by decide +kernel
theorem dX6_district_69 : decode cX6_district 69 = .ok (.getfield 10, 3) := by decide +kernel
theorem dX6_district_72 : decode cX6_district 72 = .ok (.iload_n 1, 1) := by decide +kernel
theorem dX6_district_73 : decode cX6_district 73 = .ok (.iconst 0, 1) := by decide +kernel
theorem dX6_district_74 : decode cX6_district 74 = .ok (.invokevirtual 187, 3) := by decide +kernel
theorem dX6_district_77 : decode cX6_district 77 = .ok (.ireturn, 1) := by decide +kernel
theorem dX6_district_78 : decode cX6_district 78 = .ok (.aload_n 0, 1) := by decide +kernel
theorem dX6_district_79 : decode cX6_district 79 = .ok (.getfield 10, 3) := by decide +kernel
theorem dX6_district_82 : decode cX6_district 82 = .ok (.iload_n 1, 1) := by decide +kernel
theorem dX6_district_83 : decode cX6_district 83 = .ok (.iconst 1, 1) := by decide +kernel
theorem dX6_district_84 : decode cX6_district 84 = .ok (.invokevirtual 187, 3) := by decide +kernel
theorem dX6_district_87 : decode cX6_district 87 = .ok (.ireturn, 1) := by decide +kernel
theorem dX6_district_88 : decode cX6_district 88 = .ok (.aload_n 0, 1) := by decide +kernel
theorem dX6_district_89 : decode cX6_district 89 = .ok (.aload_n 0, 1) := by decide +kernel
theorem dX6_district_90 : decode cX6_district 90 = .ok (.getfield 10, 3) := by decide +kernel
theorem dX6_district_93 : decode cX6_district 93 = .ok (.getfield 168, 3) := by decide +kernel
theorem dX6_district_96 : decode cX6_district 96 = .ok (.iload_n 1, 1) := by decide +kernel
theorem dX6_district_97 : decode cX6_district 97 = .ok (.iload_n 2, 1) := by decide +kernel
theorem dX6_district_98 : decode cX6_district 98 = .ok (.invokevirtual 180, 3) := by decide +kernel
theorem dX6_district_101 : decode cX6_district 101 = .ok (.ireturn, 1) := by decide +kernel
theorem dX6_why_0 : decode cX6_why 0 = .ok (.iload_n 1, 1) := by decide +kernel
theorem dX6_why_1 : decode cX6_why 1 = .ok (.iconst 0, 1) := by decide +kernel
theorem dX6_why_2 : decode cX6_why 2 = .ok (.iconst 1, 1) := by decide +kernel
theorem dX6_why_3 : decode cX6_why 3 = .ok (.invokestatic 57, 3) := by decide +kernel
theorem dX6_why_6 : decode cX6_why 6 = .ok (.ifCond .ne 6, 3) := by decide +kernel
theorem dX6_why_9 : decode cX6_why 9 = .ok (.bipush (-2), 2) := by decide +kernel
theorem dX6_why_11 : decode cX6_why 11 = .ok (.ireturn, 1) := by decide +kernel
theorem dX6_why_12 : decode cX6_why 12 = .ok (.aload_n 0, 1) := by decide +kernel
theorem dX6_why_13 : decode cX6_why 13 = .ok (.getfield 10, 3) := by decide +kernel
theorem dX6_why_16 : decode cX6_why 16 = .ok (.getfield 95, 3) := by decide +kernel
theorem dX6_why_19 : decode cX6_why 19 = .ok (.ifCond .eq 6, 3) := by decide +kernel
theorem dX6_why_22 : decode cX6_why 22 = .ok (.bipush (-4), 2) := by decide +kernel
theorem dX6_why_24 : decode cX6_why 24 = .ok (.ireturn, 1) := by decide +kernel
theorem dX6_why_25 : decode cX6_why 25 = .ok (.iload_n 1, 1) := by decide +kernel
theorem dX6_why_26 : decode cX6_why 26 = .ok (.ifCond .ne 17, 3) := by decide +kernel
theorem dX6_why_29 : decode cX6_why 29 = .ok (.aload_n 0, 1) := by decide +kernel
theorem dX6_why_30 : decode cX6_why 30 = .ok (.getfield 40, 3) := by decide +kernel
theorem dX6_why_33 : decode cX6_why 33 = .ok (.aload_n 0, 1) := by decide +kernel
theorem dX6_why_34 : decode cX6_why 34 = .ok (.getfield 10, 3) := by decide +kernel
theorem dX6_why_37 : decode cX6_why 37 = .ok (.invokevirtual 132, 3) := by decide +kernel
theorem dX6_why_40 : decode cX6_why 40 = .ok (.goto 17, 3) := by decide +kernel
theorem dX6_why_43 : decode cX6_why 43 = .ok (.aload_n 0, 1) := by decide +kernel
theorem dX6_why_44 : decode cX6_why 44 = .ok (.getfield 40, 3) := by decide +kernel
theorem dX6_why_47 : decode cX6_why 47 = .ok (.aload_n 0, 1) := by decide +kernel
theorem dX6_why_48 : decode cX6_why 48 = .ok (.getfield 10, 3) := by decide +kernel
theorem dX6_why_51 : decode cX6_why 51 = .ok (.invokevirtual 190, 3) := by decide +kernel
theorem dX6_why_54 : decode cX6_why 54 = .ok (.invokestatic 165, 3) := by decide +kernel
theorem dX6_why_57 : decode cX6_why 57 = .ok (.ireturn, 1) := by decide +kernel
theorem dX6_advice_0 : decode cX6_advice 0 = .ok (.aload_n 0, 1) := by decide +kernel
theorem dX6_advice_1 : decode cX6_advice 1 = .ok (.getfield 10, 3) := by decide +kernel
theorem dX6_advice_4 : decode cX6_advice 4 = .ok (.getfield 95, 3) := by decide +kernel
theorem dX6_advice_7 : decode cX6_advice 7 = .ok (.iconst 1, 1) := by decide +kernel
theorem dX6_advice_8 : decode cX6_advice 8 = .ok (.if_icmp .eq 6, 3) := by decide +kernel
theorem dX6_advice_11 : decode cX6_advice 11 = .ok (.bipush (-4), 2) := by decide +kernel
theorem dX6_advice_13 : decode cX6_advice 13 = .ok (.ireturn, 1) := by decide +kernel
theorem dX6_advice_14 : decode cX6_advice 14 = .ok (.aload_n 0, 1) := by decide +kernel
theorem dX6_advice_15 : decode cX6_advice 15 = .ok (.getfield 10, 3) := by decide +kernel
theorem dX6_advice_18 : decode cX6_advice 18 = .ok (.invokevirtual 193, 3) := by decide +kernel
theorem dX6_advice_21 : decode cX6_advice 21 = .ok (.istore_n 1, 1) := by decide +kernel
theorem dX6_advice_22 : decode cX6_advice 22 = .ok (.aload_n 0, 1) := by decide +kernel
theorem dX6_advice_23 : decode cX6_advice 23 = .ok (.getfield 10, 3) := by decide +kernel
theorem dX6_advice_26 : decode cX6_advice 26 = .ok (.iload_n 1, 1) := by decide +kernel
theorem dX6_advice_27 : decode cX6_advice 27 = .ok (.invokevirtual 196, 3) := by decide +kernel
theorem dX6_advice_30 : decode cX6_advice 30 = .ok (.istore_n 2, 1) := by decide +kernel
theorem dX6_advice_31 : decode cX6_advice 31 = .ok (.iload_n 2, 1) := by decide +kernel
theorem dX6_advice_32 : decode cX6_advice 32 = .ok (.iconst (-1), 1) := by decide +kernel
theorem dX6_advice_33 : decode cX6_advice 33 = .ok (.if_icmp .eq 7, 3) := by decide +kernel
theorem dX6_advice_36 : decode cX6_advice 36 = .ok (.iload_n 2, 1) := by decide +kernel
theorem dX6_advice_37 : decode cX6_advice 37 = .ok (.goto 11, 3) := by decide +kernel
theorem dX6_advice_40 : decode cX6_advice 40 = .ok (.aload_n 0, 1) := by decide +kernel
theorem dX6_advice_41 : decode cX6_advice 41 = .ok (.getfield 10, 3) := by decide +kernel
theorem dX6_advice_44 : decode cX6_advice 44 = .ok (.iload_n 1, 1) := by decide +kernel
theorem dX6_advice_45 : decode cX6_advice 45 = .ok (.invokevirtual 199, 3) := by decide +kernel
theorem dX6_advice_48 : decode cX6_advice 48 = .ok (.ireturn, 1) := by decide +kernel
theorem dX6_party_0 : decode cX6_party 0 = .ok (.iload_n 1, 1) := by decide +kernel
theorem dX6_party_1 : decode cX6_party 1 = .ok (.invokestatic 89, 3) := by decide +kernel
theorem dX6_party_4 : decode cX6_party 4 = .ok (.ifCond .ne 5, 3) := by decide +kernel
theorem dX6_party_7 : decode cX6_party 7 = .ok (.iconst (-1), 1) := by decide +kernel
theorem dX6_party_8 : decode cX6_party 8 = .ok (.ireturn, 1) := by decide +kernel
theorem dX6_party_9 : decode cX6_party 9 = .ok (.iload_n 2, 1) := by decide +kernel
theorem dX6_party_10 : decode cX6_party 10 = .ok (.tableswitch 112 0 4 #[34, 43, 55, 64, 89], 34) := by decide +kernel
theorem dX6_party_44 : decode cX6_party 44 = .ok (.aload_n 0, 1) := by decide +kernel
theorem dX6_party_45 : decode cX6_party 45 = .ok (.getfield 10, 3) := by decide +kernel
theorem dX6_party_48 : decode cX6_party 48 = .ok (.iload_n 1, 1) := by decide +kernel
theorem dX6_party_49 : decode cX6_party 49 = .ok (.invokevirtual 202, 3) := by decide +kernel
theorem dX6_party_52 : decode cX6_party 52 = .ok (.ireturn, 1) := by decide +kernel
theorem dX6_party_53 : decode cX6_party 53 = .ok (.aload_n 0, 1) := by decide +kernel
theorem dX6_party_54 : decode cX6_party 54 = .ok (.getfield 10, 3) := by decide +kernel
theorem dX6_party_57 : decode cX6_party 57 = .ok (.iload_n 1, 1) := by decide +kernel
theorem dX6_party_58 : decode cX6_party 58 = .ok (.invokevirtual 205, 3) := by decide +kernel
theorem dX6_party_61 : decode cX6_party 61 = .ok (.invokevirtual 209, 3) := by decide +kernel
theorem dX6_party_64 : decode cX6_party 64 = .ok (.ireturn, 1) := by decide +kernel
theorem dX6_party_65 : decode cX6_party 65 = .ok (.aload_n 0, 1) := by decide +kernel
theorem dX6_party_66 : decode cX6_party 66 = .ok (.getfield 10, 3) := by decide +kernel
theorem dX6_party_69 : decode cX6_party 69 = .ok (.iload_n 1, 1) := by decide +kernel
theorem dX6_party_70 : decode cX6_party 70 = .ok (.invokevirtual 212, 3) := by decide +kernel
theorem dX6_party_73 : decode cX6_party 73 = .ok (.ireturn, 1) := by decide +kernel
theorem dX6_party_74 : decode cX6_party 74 = .ok (.sipush 1000, 3) := by decide +kernel
theorem dX6_party_77 : decode cX6_party 77 = .ok (.aload_n 0, 1) := by decide +kernel
theorem dX6_party_78 : decode cX6_party 78 = .ok (.getfield 10, 3) := by decide +kernel
theorem dX6_party_81 : decode cX6_party 81 = .ok (.iload_n 1, 1) := by decide +kernel
theorem dX6_party_82 : decode cX6_party 82 = .ok (.invokevirtual 202, 3) := by decide +kernel
theorem dX6_party_85 : decode cX6_party 85 = .ok (.iadd, 1) := by decide +kernel
theorem dX6_party_86 : decode cX6_party 86 = .ok (.aload_n 0, 1) := by decide +kernel
theorem dX6_party_87 : decode cX6_party 87 = .ok (.getfield 10, 3) := by decide +kernel
theorem dX6_party_90 : decode cX6_party 90 = .ok (.getfield 92, 3) := by decide +kernel
theorem dX6_party_93 : decode cX6_party 93 = .ok (.iload_n 1, 1) := by decide +kernel
theorem dX6_party_94 : decode cX6_party 94 = .ok (.invokevirtual 64, 3) := by decide +kernel
theorem dX6_party_97 : decode cX6_party 97 = .ok (.isub, 1) := by decide +kernel
theorem dX6_party_98 : decode cX6_party 98 = .ok (.ireturn, 1) := by decide +kernel
theorem dX6_party_99 : decode cX6_party 99 = .ok (.aload_n 0, 1) := by decide +kernel
theorem dX6_party_100 : decode cX6_party 100 = .ok (.getfield 10, 3) := by decide +kernel
theorem dX6_party_103 : decode cX6_party 103 = .ok (.aload_n 0, 1) := by decide +kernel
theorem dX6_party_104 : decode cX6_party 104 = .ok (.getfield 10, 3) := by decide +kernel
theorem dX6_party_107 : decode cX6_party 107 = .ok (.getfield 105, 3) := by decide +kernel
theorem dX6_party_110 : decode cX6_party 110 = .ok (.aload_n 0, 1) := by decide +kernel
theorem dX6_party_111 : decode cX6_party 111 = .ok (.getfield 10, 3) := by decide +kernel
theorem dX6_party_114 : decode cX6_party 114 = .ok (.invokevirtual 129, 3) := by decide +kernel
theorem dX6_party_117 : decode cX6_party 117 = .ok (.iload_n 1, 1) := by decide +kernel
theorem dX6_party_118 : decode cX6_party 118 = .ok (.invokevirtual 215, 3) := by decide +kernel
theorem dX6_party_121 : decode cX6_party 121 = .ok (.ireturn, 1) := by decide +kernel
theorem dX6_party_122 : decode cX6_party 122 = .ok (.bipush (-2), 2) := by decide +kernel
theorem dX6_party_124 : decode cX6_party 124 = .ok (.ireturn, 1) := by decide +kernel
theorem dX6_fairness_0 : decode cX6_fairness 0 = .ok (.aload_n 0, 1) := by decide +kernel
theorem dX6_fairness_1 : decode cX6_fairness 1 = .ok (.getfield 10, 3) := by decide +kernel
theorem dX6_fairness_4 : decode cX6_fairness 4 = .ok (.getfield 61, 3) := by decide +kernel
theorem dX6_fairness_7 : decode cX6_fairness 7 = .ok (.invokevirtual 209, 3) := by decide +kernel
theorem dX6_fairness_10 : decode cX6_fairness 10 = .ok (.istore_n 1, 1) := by decide +kernel
theorem dX6_fairness_11 : decode cX6_fairness 11 = .ok (.iload_n 1, 1) := by decide +kernel
theorem dX6_fairness_12 : decode cX6_fairness 12 = .ok (.aload_n 0, 1) := by decide +kernel
theorem dX6_fairness_13 : decode cX6_fairness 13 = .ok (.getfield 10, 3) := by decide +kernel
theorem dX6_fairness_16 : decode cX6_fairness 16 = .ok (.getfield 68, 3) := by decide +kernel
theorem dX6_fairness_19 : decode cX6_fairness 19 = .ok (.invokevirtual 209, 3) := by decide +kernel
theorem dX6_fairness_22 : decode cX6_fairness 22 = .ok (.iadd, 1) := by decide +kernel
theorem dX6_fairness_23 : decode cX6_fairness 23 = .ok (.istore_n 2, 1) := by decide +kernel
theorem dX6_fairness_24 : decode cX6_fairness 24 = .ok (.ldc 218, 2) := by decide +kernel
theorem dX6_fairness_26 : decode cX6_fairness 26 = .ok (.aload_n 0, 1) := by decide +kernel
theorem dX6_fairness_27 : decode cX6_fairness 27 = .ok (.getfield 10, 3) := by decide +kernel
theorem dX6_fairness_30 : decode cX6_fairness 30 = .ok (.iconst 0, 1) := by decide +kernel
theorem dX6_fairness_31 : decode cX6_fairness 31 = .ok (.invokevirtual 202, 3) := by decide +kernel
theorem dX6_fairness_34 : decode cX6_fairness 34 = .ok (.iload_n 2, 1) := by decide +kernel
theorem dX6_fairness_35 : decode cX6_fairness 35 = .ok (.imul, 1) := by decide +kernel
theorem dX6_fairness_36 : decode cX6_fairness 36 = .ok (.iadd, 1) := by decide +kernel
theorem dX6_fairness_37 : decode cX6_fairness 37 = .ok (.aload_n 0, 1) := by decide +kernel
theorem dX6_fairness_38 : decode cX6_fairness 38 = .ok (.getfield 10, 3) := by decide +kernel
theorem dX6_fairness_41 : decode cX6_fairness 41 = .ok (.getfield 123, 3) := by decide +kernel
theorem dX6_fairness_44 : decode cX6_fairness 44 = .ok (.iload_n 1, 1) := by decide +kernel
theorem dX6_fairness_45 : decode cX6_fairness 45 = .ok (.imul, 1) := by decide +kernel
theorem dX6_fairness_46 : decode cX6_fairness 46 = .ok (.isub, 1) := by decide +kernel
theorem dX6_fairness_47 : decode cX6_fairness 47 = .ok (.ireturn, 1) := by decide +kernel
theorem dX6_count_0 : decode cX6_count 0 = .ok (.iload_n 1, 1) := by decide +kernel
theorem dX6_count_1 : decode cX6_count 1 = .ok (.tableswitch 181 0 11 #[63, 71, 79, 87, 95, 103, 114, 126, 134, 142, 165, 173], 63) := by decide +kernel
theorem dX6_count_64 : decode cX6_count 64 = .ok (.aload_n 0, 1) := by decide +kernel
theorem dX6_count_65 : decode cX6_count 65 = .ok (.getfield 10, 3) := by decide +kernel
theorem dX6_count_68 : decode cX6_count 68 = .ok (.getfield 219, 3) := by decide +kernel
theorem dX6_count_71 : decode cX6_count 71 = .ok (.ireturn, 1) := by decide +kernel
theorem dX6_count_72 : decode cX6_count 72 = .ok (.aload_n 0, 1) := by decide +kernel
theorem dX6_count_73 : decode cX6_count 73 = .ok (.getfield 10, 3) := by decide +kernel
theorem dX6_count_76 : decode cX6_count 76 = .ok (.invokevirtual 85, 3) := by decide +kernel
theorem dX6_count_79 : decode cX6_count 79 = .ok (.ireturn, 1) := by decide +kernel
theorem dX6_count_80 : decode cX6_count 80 = .ok (.aload_n 0, 1) := by decide +kernel
theorem dX6_count_81 : decode cX6_count 81 = .ok (.getfield 10, 3) := by decide +kernel
theorem dX6_count_84 : decode cX6_count 84 = .ok (.getfield 123, 3) := by decide +kernel
theorem dX6_count_87 : decode cX6_count 87 = .ok (.ireturn, 1) := by decide +kernel
theorem dX6_count_88 : decode cX6_count 88 = .ok (.aload_n 0, 1) := by decide +kernel
theorem dX6_count_89 : decode cX6_count 89 = .ok (.getfield 10, 3) := by decide +kernel
theorem dX6_count_92 : decode cX6_count 92 = .ok (.invokevirtual 129, 3) := by decide +kernel
theorem dX6_count_95 : decode cX6_count 95 = .ok (.ireturn, 1) := by decide +kernel
theorem dX6_count_96 : decode cX6_count 96 = .ok (.aload_n 0, 1) := by decide +kernel
theorem dX6_count_97 : decode cX6_count 97 = .ok (.getfield 10, 3) := by decide +kernel
theorem dX6_count_100 : decode cX6_count 100 = .ok (.getfield 95, 3) := by decide +kernel
theorem dX6_count_103 : decode cX6_count 103 = .ok (.ireturn, 1) := by decide +kernel
theorem dX6_count_104 : decode cX6_count 104 = .ok (.aload_n 0, 1) := by decide +kernel
theorem dX6_count_105 : decode cX6_count 105 = .ok (.getfield 10, 3) := by decide +kernel
theorem dX6_count_108 : decode cX6_count 108 = .ok (.invokevirtual 193, 3) := by decide +kernel
theorem dX6_count_111 : decode cX6_count 111 = .ok (.invokestatic 165, 3) := by decide +kernel
theorem dX6_count_114 : decode cX6_count 114 = .ok (.ireturn, 1) := by decide +kernel
theorem dX6_count_115 : decode cX6_count 115 = .ok (.aload_n 0, 1) := by decide +kernel
theorem dX6_count_116 : decode cX6_count 116 = .ok (.getfield 10, 3) := by decide +kernel
theorem dX6_count_119 : decode cX6_count 119 = .ok (.getfield 168, 3) := by decide +kernel
theorem dX6_count_122 : decode cX6_count 122 = .ok (.iconst (-1), 1) := by decide +kernel
theorem dX6_count_123 : decode cX6_count 123 = .ok (.invokestatic 222, 3) := by decide +kernel
theorem dX6_count_126 : decode cX6_count 126 = .ok (.ireturn, 1) := by decide +kernel
theorem dX6_count_127 : decode cX6_count 127 = .ok (.aload_n 0, 1) := by decide +kernel
theorem dX6_count_128 : decode cX6_count 128 = .ok (.getfield 10, 3) := by decide +kernel
theorem dX6_count_131 : decode cX6_count 131 = .ok (.invokevirtual 224, 3) := by decide +kernel
theorem dX6_count_134 : decode cX6_count 134 = .ok (.ireturn, 1) := by decide +kernel
theorem dX6_count_135 : decode cX6_count 135 = .ok (.aload_n 0, 1) := by decide +kernel
theorem dX6_count_136 : decode cX6_count 136 = .ok (.getfield 10, 3) := by decide +kernel
theorem dX6_count_139 : decode cX6_count 139 = .ok (.invokevirtual 227, 3) := by decide +kernel
theorem dX6_count_142 : decode cX6_count 142 = .ok (.ireturn, 1) := by decide +kernel
theorem dX6_count_143 : decode cX6_count 143 = .ok (.aload_n 0, 1) := by decide +kernel
theorem dX6_count_144 : decode cX6_count 144 = .ok (.getfield 10, 3) := by decide +kernel
theorem dX6_count_147 : decode cX6_count 147 = .ok (.aload_n 0, 1) := by decide +kernel
theorem dX6_count_148 : decode cX6_count 148 = .ok (.getfield 10, 3) := by decide +kernel
theorem dX6_count_151 : decode cX6_count 151 = .ok (.getfield 168, 3) := by decide +kernel
theorem dX6_count_154 : decode cX6_count 154 = .ok (.aload_n 0, 1) := by decide +kernel
theorem dX6_count_155 : decode cX6_count 155 = .ok (.getfield 10, 3) := by decide +kernel
theorem dX6_count_158 : decode cX6_count 158 = .ok (.getfield 123, 3) := by decide +kernel
theorem dX6_count_161 : decode cX6_count 161 = .ok (.iconst 2, 1) := by decide +kernel
theorem dX6_count_162 : decode cX6_count 162 = .ok (.invokevirtual 215, 3) := by decide +kernel
theorem dX6_count_165 : decode cX6_count 165 = .ok (.ireturn, 1) := by decide +kernel
theorem dX6_count_166 : decode cX6_count 166 = .ok (.aload_n 0, 1) := by decide +kernel
theorem dX6_count_167 : decode cX6_count 167 = .ok (.getfield 19, 3) := by decide +kernel
theorem dX6_count_170 : decode cX6_count 170 = .ok (.invokevirtual 159, 3) := by decide +kernel
theorem dX6_count_173 : decode cX6_count 173 = .ok (.ireturn, 1) := by decide +kernel
theorem dX6_count_174 : decode cX6_count 174 = .ok (.aload_n 0, 1) := by decide +kernel
theorem dX6_count_175 : decode cX6_count 175 = .ok (.getfield 33, 3) := by decide +kernel
theorem dX6_count_178 : decode cX6_count 178 = .ok (.invokevirtual 143, 3) := by decide +kernel
theorem dX6_count_181 : decode cX6_count 181 = .ok (.ireturn, 1) := by decide +kernel
theorem dX6_count_182 : decode cX6_count 182 = .ok (.bipush (-2), 2) := by decide +kernel
theorem dX6_count_184 : decode cX6_count 184 = .ok (.ireturn, 1) := by decide +kernel
theorem dX6_isFromTo_0 : decode cX6_isFromTo 0 = .ok (.iload_n 0, 1) := by decide +kernel
theorem dX6_isFromTo_1 : decode cX6_isFromTo 1 = .ok (.iload_n 1, 1) := by decide +kernel
theorem dX6_isFromTo_2 : decode cX6_isFromTo 2 = .ok (.if_icmp .lt 12, 3) := by decide +kernel
theorem dX6_isFromTo_5 : decode cX6_isFromTo 5 = .ok (.iload_n 0, 1) := by decide +kernel
theorem dX6_isFromTo_6 : decode cX6_isFromTo 6 = .ok (.iload_n 2, 1) := by decide +kernel
theorem dX6_isFromTo_7 : decode cX6_isFromTo 7 = .ok (.if_icmp .gt 7, 3) := by decide +kernel
theorem dX6_isFromTo_10 : decode cX6_isFromTo 10 = .ok (.iconst 1, 1) := by decide +kernel
theorem dX6_isFromTo_11 : decode cX6_isFromTo 11 = .ok (.goto 4, 3) := by decide +kernel
theorem dX6_isFromTo_14 : decode cX6_isFromTo 14 = .ok (.iconst 0, 1) := by decide +kernel
theorem dX6_isFromTo_15 : decode cX6_isFromTo 15 = .ok (.ireturn, 1) := by decide +kernel
theorem dX6_isCell_0 : decode cX6_isCell 0 = .ok (.iload_n 0, 1) := by decide +kernel
theorem dX6_isCell_1 : decode cX6_isCell 1 = .ok (.iconst 0, 1) := by decide +kernel
theorem dX6_isCell_2 : decode cX6_isCell 2 = .ok (.bipush 35, 2) := by decide +kernel
theorem dX6_isCell_4 : decode cX6_isCell 4 = .ok (.invokestatic 57, 3) := by decide +kernel
theorem dX6_isCell_7 : decode cX6_isCell 7 = .ok (.ireturn, 1) := by decide +kernel
theorem dX6_isParty_0 : decode cX6_isParty 0 = .ok (.iload_n 0, 1) := by decide +kernel
theorem dX6_isParty_1 : decode cX6_isParty 1 = .ok (.iconst 0, 1) := by decide +kernel
theorem dX6_isParty_2 : decode cX6_isParty 2 = .ok (.iconst 1, 1) := by decide +kernel
theorem dX6_isParty_3 : decode cX6_isParty 3 = .ok (.invokestatic 57, 3) := by decide +kernel
theorem dX6_isParty_6 : decode cX6_isParty 6 = .ok (.ireturn, 1) := by decide +kernel
theorem dX6_dividesTheMap_0 : decode cX6_dividesTheMap 0 = .ok (.iload_n 0, 1) := by decide +kernel
theorem dX6_dividesTheMap_1 : decode cX6_dividesTheMap 1 = .ok (.iconst 2, 1) := by decide +kernel
theorem dX6_dividesTheMap_2 : decode cX6_dividesTheMap 2 = .ok (.if_icmp .eq 25, 3) := by decide +kernel
theorem dX6_dividesTheMap_5 : decode cX6_dividesTheMap 5 = .ok (.iload_n 0, 1) := by decide +kernel
theorem dX6_dividesTheMap_6 : decode cX6_dividesTheMap 6 = .ok (.iconst 3, 1) := by decide +kernel
theorem dX6_dividesTheMap_7 : decode cX6_dividesTheMap 7 = .ok (.if_icmp .eq 20, 3) := by decide +kernel
theorem dX6_dividesTheMap_10 : decode cX6_dividesTheMap 10 = .ok (.iload_n 0, 1) := by decide +kernel
theorem dX6_dividesTheMap_11 : decode cX6_dividesTheMap 11 = .ok (.iconst 4, 1) := by decide +kernel
theorem dX6_dividesTheMap_12 : decode cX6_dividesTheMap 12 = .ok (.if_icmp .eq 15, 3) := by decide +kernel
theorem dX6_dividesTheMap_15 : decode cX6_dividesTheMap 15 = .ok (.iload_n 0, 1) := by decide +kernel
theorem dX6_dividesTheMap_16 : decode cX6_dividesTheMap 16 = .ok (.bipush 6, 2) := by decide +kernel
theorem dX6_dividesTheMap_18 : decode cX6_dividesTheMap 18 = .ok (.if_icmp .eq 9, 3) := by decide +kernel
theorem dX6_dividesTheMap_21 : decode cX6_dividesTheMap 21 = .ok (.iload_n 0, 1) := by decide +kernel
theorem dX6_dividesTheMap_22 : decode cX6_dividesTheMap 22 = .ok (.bipush 9, 2) := by decide +kernel
theorem dX6_dividesTheMap_24 : decode cX6_dividesTheMap 24 = .ok (.if_icmp .ne 7, 3) := by decide +kernel
theorem dX6_dividesTheMap_27 : decode cX6_dividesTheMap 27 = .ok (.iconst 1, 1) := by decide +kernel
theorem dX6_dividesTheMap_28 : decode cX6_dividesTheMap 28 = .ok (.goto 4, 3) := by decide +kernel
theorem dX6_dividesTheMap_31 : decode cX6_dividesTheMap 31 = .ok (.iconst 0, 1) := by decide +kernel
theorem dX6_dividesTheMap_32 : decode cX6_dividesTheMap 32 = .ok (.ireturn, 1) := by decide +kernel
theorem dX6_noneIfNothing_0 : decode cX6_noneIfNothing 0 = .ok (.iload_n 0, 1) := by decide +kernel
theorem dX6_noneIfNothing_1 : decode cX6_noneIfNothing 1 = .ok (.iconst (-1), 1) := by decide +kernel
theorem dX6_noneIfNothing_2 : decode cX6_noneIfNothing 2 = .ok (.if_icmp .ne 8, 3) := by decide +kernel
theorem dX6_noneIfNothing_5 : decode cX6_noneIfNothing 5 = .ok (.bipush (-5), 2) := by decide +kernel
theorem dX6_noneIfNothing_7 : decode cX6_noneIfNothing 7 = .ok (.goto 4, 3) := by decide +kernel
theorem dX6_noneIfNothing_10 : decode cX6_noneIfNothing 10 = .ok (.iload_n 0, 1) := by decide +kernel
theorem dX6_noneIfNothing_11 : decode cX6_noneIfNothing 11 = .ok (.ireturn, 1) := by decide +kernel
theorem dX6_oneIfCut_0 : decode cX6_oneIfCut 0 = .ok (.aload_n 0, 1) := by decide +kernel
theorem dX6_oneIfCut_1 : decode cX6_oneIfCut 1 = .ok (.getfield 40, 3) := by decide +kernel
theorem dX6_oneIfCut_4 : decode cX6_oneIfCut 4 = .ok (.aload_n 0, 1) := by decide +kernel
theorem dX6_oneIfCut_5 : decode cX6_oneIfCut 5 = .ok (.getfield 10, 3) := by decide +kernel
theorem dX6_oneIfCut_8 : decode cX6_oneIfCut 8 = .ok (.invokevirtual 132, 3) := by decide +kernel
theorem dX6_oneIfCut_11 : decode cX6_oneIfCut 11 = .ok (.ifCond .ne 7, 3) := by decide +kernel
theorem dX6_oneIfCut_14 : decode cX6_oneIfCut 14 = .ok (.iconst 1, 1) := by decide +kernel
theorem dX6_oneIfCut_15 : decode cX6_oneIfCut 15 = .ok (.goto 4, 3) := by decide +kernel
theorem dX6_oneIfCut_18 : decode cX6_oneIfCut 18 = .ok (.iconst 0, 1) := by decide +kernel
theorem dX6_oneIfCut_19 : decode cX6_oneIfCut 19 = .ok (.ireturn, 1) := by decide +kernel
theorem dX6_planSnake_0 : decode cX6_planSnake 0 = .ok (.aload_n 0, 1) := by decide +kernel
theorem dX6_planSnake_1 : decode cX6_planSnake 1 = .ok (.getfield 49, 3) := by decide +kernel
theorem dX6_planSnake_4 : decode cX6_planSnake 4 = .ok (.iconst (-1), 1) := by decide +kernel
theorem dX6_planSnake_5 : decode cX6_planSnake 5 = .ok (.invokevirtual 230, 3) := by decide +kernel
theorem dX6_planSnake_8 : decode cX6_planSnake 8 = .ok (.iconst 0, 1) := by decide +kernel
theorem dX6_planSnake_9 : decode cX6_planSnake 9 = .ok (.istore_n 2, 1) := by decide +kernel
theorem dX6_planSnake_10 : decode cX6_planSnake 10 = .ok (.iconst 0, 1) := by decide +kernel
theorem dX6_planSnake_11 : decode cX6_planSnake 11 = .ok (.istore_n 3, 1) := by decide +kernel
theorem dX6_planSnake_12 : decode cX6_planSnake 12 = .ok (.iconst 0, 1) := by decide +kernel
theorem dX6_planSnake_13 : decode cX6_planSnake 13 = .ok (.istore 4, 2) := by decide +kernel
theorem dX6_planSnake_15 : decode cX6_planSnake 15 = .ok (.iload 4, 2) := by decide +kernel
theorem dX6_planSnake_17 : decode cX6_planSnake 17 = .ok (.bipush 36, 2) := by decide +kernel
theorem dX6_planSnake_19 : decode cX6_planSnake 19 = .ok (.if_icmp .ge 58, 3) := by decide +kernel
theorem dX6_planSnake_22 : decode cX6_planSnake 22 = .ok (.iload 4, 2) := by decide +kernel
theorem dX6_planSnake_24 : decode cX6_planSnake 24 = .ok (.iload_n 1, 1) := by decide +kernel
theorem dX6_planSnake_25 : decode cX6_planSnake 25 = .ok (.invokestatic 233, 3) := by decide +kernel
theorem dX6_planSnake_28 : decode cX6_planSnake 28 = .ok (.istore 5, 2) := by decide +kernel
theorem dX6_planSnake_30 : decode cX6_planSnake 30 = .ok (.aload_n 0, 1) := by decide +kernel
theorem dX6_planSnake_31 : decode cX6_planSnake 31 = .ok (.getfield 10, 3) := by decide +kernel
theorem dX6_planSnake_34 : decode cX6_planSnake 34 = .ok (.iload 5, 2) := by decide +kernel
theorem dX6_planSnake_36 : decode cX6_planSnake 36 = .ok (.invokevirtual 99, 3) := by decide +kernel
theorem dX6_planSnake_39 : decode cX6_planSnake 39 = .ok (.ifCond .eq 32, 3) := by decide +kernel
theorem dX6_planSnake_42 : decode cX6_planSnake 42 = .ok (.aload_n 0, 1) := by decide +kernel
theorem dX6_planSnake_43 : decode cX6_planSnake 43 = .ok (.getfield 49, 3) := by decide +kernel
theorem dX6_planSnake_46 : decode cX6_planSnake 46 = .ok (.iload 5, 2) := by decide +kernel
theorem dX6_planSnake_48 : decode cX6_planSnake 48 = .ok (.iload_n 2, 1) := by decide +kernel
theorem dX6_planSnake_49 : decode cX6_planSnake 49 = .ok (.invokevirtual 75, 3) := by decide +kernel
theorem dX6_planSnake_52 : decode cX6_planSnake 52 = .ok (.iinc 3 1, 3) := by decide +kernel
theorem dX6_planSnake_55 : decode cX6_planSnake 55 = .ok (.iload_n 3, 1) := by decide +kernel
theorem dX6_planSnake_56 : decode cX6_planSnake 56 = .ok (.aload_n 0, 1) := by decide +kernel
theorem dX6_planSnake_57 : decode cX6_planSnake 57 = .ok (.getfield 10, 3) := by decide +kernel
theorem dX6_planSnake_60 : decode cX6_planSnake 60 = .ok (.invokevirtual 85, 3) := by decide +kernel
theorem dX6_planSnake_63 : decode cX6_planSnake 63 = .ok (.if_icmp .ne 8, 3) := by decide +kernel
theorem dX6_planSnake_66 : decode cX6_planSnake 66 = .ok (.iinc 2 1, 3) := by decide +kernel
theorem dX6_planSnake_69 : decode cX6_planSnake 69 = .ok (.iconst 0, 1) := by decide +kernel
theorem dX6_planSnake_70 : decode cX6_planSnake 70 = .ok (.istore_n 3, 1) := by decide +kernel
theorem dX6_planSnake_71 : decode cX6_planSnake 71 = .ok (.iinc 4 1, 3) := by decide +kernel
theorem dX6_planSnake_74 : decode cX6_planSnake 74 = .ok (.goto (-59), 3) := by decide +kernel
theorem dX6_planSnake_77 : decode cX6_planSnake 77 = .ok (.return_, 1) := by decide +kernel
theorem dX6_cellOfSnake_0 : decode cX6_cellOfSnake 0 = .ok (.iload_n 0, 1) := by decide +kernel
theorem dX6_cellOfSnake_1 : decode cX6_cellOfSnake 1 = .ok (.bipush 6, 2) := by decide +kernel
theorem dX6_cellOfSnake_3 : decode cX6_cellOfSnake 3 = .ok (.idiv, 1) := by decide +kernel
theorem dX6_cellOfSnake_4 : decode cX6_cellOfSnake 4 = .ok (.istore_n 2, 1) := by decide +kernel
theorem dX6_cellOfSnake_5 : decode cX6_cellOfSnake 5 = .ok (.iload_n 0, 1) := by decide +kernel
theorem dX6_cellOfSnake_6 : decode cX6_cellOfSnake 6 = .ok (.bipush 6, 2) := by decide +kernel
theorem dX6_cellOfSnake_8 : decode cX6_cellOfSnake 8 = .ok (.irem, 1) := by decide +kernel
theorem dX6_cellOfSnake_9 : decode cX6_cellOfSnake 9 = .ok (.istore_n 3, 1) := by decide +kernel
theorem dX6_cellOfSnake_10 : decode cX6_cellOfSnake 10 = .ok (.iload_n 2, 1) := by decide +kernel
theorem dX6_cellOfSnake_11 : decode cX6_cellOfSnake 11 = .ok (.iconst 2, 1) := by decide +kernel
theorem dX6_cellOfSnake_12 : decode cX6_cellOfSnake 12 = .ok (.irem, 1) := by decide +kernel
theorem dX6_cellOfSnake_13 : decode cX6_cellOfSnake 13 = .ok (.iconst 1, 1) := by decide +kernel
theorem dX6_cellOfSnake_14 : decode cX6_cellOfSnake 14 = .ok (.if_icmp .ne 7, 3) := by decide +kernel
theorem dX6_cellOfSnake_17 : decode cX6_cellOfSnake 17 = .ok (.iconst 5, 1) := by decide +kernel
theorem dX6_cellOfSnake_18 : decode cX6_cellOfSnake 18 = .ok (.iload_n 3, 1) := by decide +kernel
theorem dX6_cellOfSnake_19 : decode cX6_cellOfSnake 19 = .ok (.isub, 1) := by decide +kernel
theorem dX6_cellOfSnake_20 : decode cX6_cellOfSnake 20 = .ok (.istore_n 3, 1) := by decide +kernel
theorem dX6_cellOfSnake_21 : decode cX6_cellOfSnake 21 = .ok (.iload_n 1, 1) := by decide +kernel
theorem dX6_cellOfSnake_22 : decode cX6_cellOfSnake 22 = .ok (.ifCond .eq 12, 3) := by decide +kernel
theorem dX6_cellOfSnake_25 : decode cX6_cellOfSnake 25 = .ok (.iload_n 3, 1) := by decide +kernel
theorem dX6_cellOfSnake_26 : decode cX6_cellOfSnake 26 = .ok (.bipush 6, 2) := by decide +kernel
theorem dX6_cellOfSnake_28 : decode cX6_cellOfSnake 28 = .ok (.imul, 1) := by decide +kernel
theorem dX6_cellOfSnake_29 : decode cX6_cellOfSnake 29 = .ok (.iload_n 2, 1) := by decide +kernel
theorem dX6_cellOfSnake_30 : decode cX6_cellOfSnake 30 = .ok (.iadd, 1) := by decide +kernel
theorem dX6_cellOfSnake_31 : decode cX6_cellOfSnake 31 = .ok (.goto 9, 3) := by decide +kernel
theorem dX6_cellOfSnake_34 : decode cX6_cellOfSnake 34 = .ok (.iload_n 2, 1) := by decide +kernel
theorem dX6_cellOfSnake_35 : decode cX6_cellOfSnake 35 = .ok (.bipush 6, 2) := by decide +kernel
theorem dX6_cellOfSnake_37 : decode cX6_cellOfSnake 37 = .ok (.imul, 1) := by decide +kernel
theorem dX6_cellOfSnake_38 : decode cX6_cellOfSnake 38 = .ok (.iload_n 3, 1) := by decide +kernel
theorem dX6_cellOfSnake_39 : decode cX6_cellOfSnake 39 = .ok (.iadd, 1) := by decide +kernel
theorem dX6_cellOfSnake_40 : decode cX6_cellOfSnake 40 = .ok (.ireturn, 1) := by decide +kernel
theorem dX6_tellArea_0 : decode cX6_tellArea 0 = .ok (.iload_n 3, 1) := by decide +kernel
theorem dX6_tellArea_1 : decode cX6_tellArea 1 = .ok (.tableswitch 85 0 5 #[39, 85, 45, 51, 66, 76], 39) := by decide +kernel
theorem dX6_tellArea_40 : decode cX6_tellArea 40 = .ok (.aload_n 1, 1) := by decide +kernel
theorem dX6_tellArea_41 : decode cX6_tellArea 41 = .ok (.iload_n 2, 1) := by decide +kernel
theorem dX6_tellArea_42 : decode cX6_tellArea 42 = .ok (.invokestatic 222, 3) := by decide +kernel
theorem dX6_tellArea_45 : decode cX6_tellArea 45 = .ok (.ireturn, 1) := by decide +kernel
theorem dX6_tellArea_46 : decode cX6_tellArea 46 = .ok (.aload_n 1, 1) := by decide +kernel
theorem dX6_tellArea_47 : decode cX6_tellArea 47 = .ok (.iload_n 2, 1) := by decide +kernel
theorem dX6_tellArea_48 : decode cX6_tellArea 48 = .ok (.invokestatic 237, 3) := by decide +kernel
theorem dX6_tellArea_51 : decode cX6_tellArea 51 = .ok (.ireturn, 1) := by decide +kernel
theorem dX6_tellArea_52 : decode cX6_tellArea 52 = .ok (.sipush 1000, 3) := by decide +kernel
theorem dX6_tellArea_55 : decode cX6_tellArea 55 = .ok (.aload_n 0, 1) := by decide +kernel
theorem dX6_tellArea_56 : decode cX6_tellArea 56 = .ok (.getfield 10, 3) := by decide +kernel
theorem dX6_tellArea_59 : decode cX6_tellArea 59 = .ok (.aload_n 1, 1) := by decide +kernel
theorem dX6_tellArea_60 : decode cX6_tellArea 60 = .ok (.iload_n 2, 1) := by decide +kernel
theorem dX6_tellArea_61 : decode cX6_tellArea 61 = .ok (.iconst 0, 1) := by decide +kernel
theorem dX6_tellArea_62 : decode cX6_tellArea 62 = .ok (.invokevirtual 240, 3) := by decide +kernel
theorem dX6_tellArea_65 : decode cX6_tellArea 65 = .ok (.iadd, 1) := by decide +kernel
theorem dX6_tellArea_66 : decode cX6_tellArea 66 = .ok (.ireturn, 1) := by decide +kernel
theorem dX6_tellArea_67 : decode cX6_tellArea 67 = .ok (.aload_n 0, 1) := by decide +kernel
theorem dX6_tellArea_68 : decode cX6_tellArea 68 = .ok (.getfield 10, 3) := by decide +kernel
theorem dX6_tellArea_71 : decode cX6_tellArea 71 = .ok (.aload_n 1, 1) := by decide +kernel
theorem dX6_tellArea_72 : decode cX6_tellArea 72 = .ok (.iload_n 2, 1) := by decide +kernel
theorem dX6_tellArea_73 : decode cX6_tellArea 73 = .ok (.invokevirtual 243, 3) := by decide +kernel
theorem dX6_tellArea_76 : decode cX6_tellArea 76 = .ok (.ireturn, 1) := by decide +kernel
theorem dX6_tellArea_77 : decode cX6_tellArea 77 = .ok (.aload_n 1, 1) := by decide +kernel
theorem dX6_tellArea_78 : decode cX6_tellArea 78 = .ok (.iload_n 2, 1) := by decide +kernel
theorem dX6_tellArea_79 : decode cX6_tellArea 79 = .ok (.invokestatic 246, 3) := by decide +kernel
theorem dX6_tellArea_82 : decode cX6_tellArea 82 = .ok (.invokestatic 165, 3) := by decide +kernel
theorem dX6_tellArea_85 : decode cX6_tellArea 85 = .ok (.ireturn, 1) := by decide +kernel
theorem dX6_tellArea_86 : decode cX6_tellArea 86 = .ok (.bipush (-2), 2) := by decide +kernel
theorem dX6_tellArea_88 : decode cX6_tellArea 88 = .ok (.ireturn, 1) := by decide +kernel
end
section
theorem dX7_init_0 : decode cX7_init 0 = .ok (.aload_n 0, 1) := by decide +kernel
theorem dX7_init_1 : decode cX7_init 1 = .ok (.invokespecial 1, 3) := by decide +kernel
theorem dX7_init_4 : decode cX7_init 4 = .ok (.aload_n 0, 1) := by decide +kernel
theorem dX7_init_5 : decode cX7_init 5 = .ok (.sipush 196, 3) := by decide +kernel
theorem dX7_init_8 : decode cX7_init 8 = .ok (.newarray .int, 2) := by decide +kernel
theorem dX7_init_10 : decode cX7_init 10 = .ok (.putfield 7, 3) := by decide +kernel
theorem dX7_init_13 : decode cX7_init 13 = .ok (.aload_n 0, 1) := by decide +kernel
theorem dX7_init_14 : decode cX7_init 14 = .ok (.sipush 784, 3) := by decide +kernel
theorem dX7_init_17 : decode cX7_init 17 = .ok (.newarray .int, 2) := by decide +kernel
theorem dX7_init_19 : decode cX7_init 19 = .ok (.putfield 13, 3) := by decide +kernel
theorem dX7_init_22 : decode cX7_init 22 = .ok (.aload_n 0, 1) := by decide +kernel
theorem dX7_init_23 : decode cX7_init 23 = .ok (.sipush 196, 3) := by decide +kernel
theorem dX7_init_26 : decode cX7_init 26 = .ok (.newarray .int, 2) := by decide +kernel
theorem dX7_init_28 : decode cX7_init 28 = .ok (.putfield 16, 3) := by decide +kernel
theorem dX7_init_31 : decode cX7_init 31 = .ok (.aload_n 0, 1) := by decide +kernel
theorem dX7_init_32 : decode cX7_init 32 = .ok (.bipush 60, 2) := by decide +kernel
theorem dX7_init_34 : decode cX7_init 34 = .ok (.newarray .char, 2) := by decide +kernel
theorem dX7_init_36 : decode cX7_init 36 = .ok (.putfield 19, 3) := by decide +kernel
theorem dX7_init_39 : decode cX7_init 39 = .ok (.aload_n 0, 1) := by decide +kernel
theorem dX7_init_40 : decode cX7_init 40 = .ok (.bipush 40, 2) := by decide +kernel
theorem dX7_init_42 : decode cX7_init 42 = .ok (.newarray .int, 2) := by decide +kernel
theorem dX7_init_44 : decode cX7_init 44 = .ok (.putfield 23, 3) := by decide +kernel
theorem dX7_init_47 : decode cX7_init 47 = .ok (.aload_n 0, 1) := by decide +kernel
theorem dX7_init_48 : decode cX7_init 48 = .ok (.bipush 36, 2) := by decide +kernel
theorem dX7_init_50 : decode cX7_init 50 = .ok (.newarray .int, 2) := by decide +kernel
theorem dX7_init_52 : decode cX7_init 52 = .ok (.putfield 26, 3) := by decide +kernel
theorem dX7_init_55 : decode cX7_init 55 = .ok (.aload_n 0, 1) := by decide +kernel
theorem dX7_init_56 : decode cX7_init 56 = .ok (.bipush 36, 2) := by decide +kernel
theorem dX7_init_58 : decode cX7_init 58 = .ok (.newarray .boolean, 2) := by decide +kernel
theorem dX7_init_60 : decode cX7_init 60 = .ok (.putfield 29, 3) := by decide +kernel
theorem dX7_init_63 : decode cX7_init 63 = .ok (.aload_n 0, 1) := by decide +kernel
theorem dX7_init_64 : decode cX7_init 64 = .ok (.getfield 7, 3) := by decide +kernel
theorem dX7_init_67 : decode cX7_init 67 = .ok (.bipush 72, 2) := by decide +kernel
theorem dX7_init_69 : decode cX7_init 69 = .ok (.iconst 4, 1) := by decide +kernel
theorem dX7_init_70 : decode cX7_init 70 = .ok (.iastore, 1) := by decide +kernel
theorem dX7_init_71 : decode cX7_init 71 = .ok (.aload_n 0, 1) := by decide +kernel
theorem dX7_init_72 : decode cX7_init 72 = .ok (.invokevirtual 33, 3) := by decide +kernel
theorem dX7_init_75 : decode cX7_init 75 = .ok (.return_, 1) := by decide +kernel
theorem dX7_in_0 : decode cX7_in 0 = .ok (.iload_n 0, 1) := by decide +kernel
theorem dX7_in_1 : decode cX7_in 1 = .ok (.iload_n 1, 1) := by decide +kernel
theorem dX7_in_2 : decode cX7_in 2 = .ok (.if_icmp .lt 12, 3) := by decide +kernel
theorem dX7_in_5 : decode cX7_in 5 = .ok (.iload_n 0, 1) := by decide +kernel
theorem dX7_in_6 : decode cX7_in 6 = .ok (.iload_n 2, 1) := by decide +kernel
theorem dX7_in_7 : decode cX7_in 7 = .ok (.if_icmp .gt 7, 3) := by decide +kernel
theorem dX7_in_10 : decode cX7_in 10 = .ok (.iconst 1, 1) := by decide +kernel
theorem dX7_in_11 : decode cX7_in 11 = .ok (.goto 4, 3) := by decide +kernel
theorem dX7_in_14 : decode cX7_in 14 = .ok (.iconst 0, 1) := by decide +kernel
theorem dX7_in_15 : decode cX7_in 15 = .ok (.ireturn, 1) := by decide +kernel
theorem dX7_noCell_0 : decode cX7_noCell 0 = .ok (.iload_n 0, 1) := by decide +kernel
theorem dX7_noCell_1 : decode cX7_noCell 1 = .ok (.iconst 0, 1) := by decide +kernel
theorem dX7_noCell_2 : decode cX7_noCell 2 = .ok (.bipush 35, 2) := by decide +kernel
theorem dX7_noCell_4 : decode cX7_noCell 4 = .ok (.invokestatic 36, 3) := by decide +kernel
theorem dX7_noCell_7 : decode cX7_noCell 7 = .ok (.ifCond .ne 7, 3) := by decide +kernel
theorem dX7_noCell_10 : decode cX7_noCell 10 = .ok (.iconst 1, 1) := by decide +kernel
theorem dX7_noCell_11 : decode cX7_noCell 11 = .ok (.goto 4, 3) := by decide +kernel
theorem dX7_noCell_14 : decode cX7_noCell 14 = .ok (.iconst 0, 1) := by decide +kernel
theorem dX7_noCell_15 : decode cX7_noCell 15 = .ok (.ireturn, 1) := by decide +kernel
theorem dX7_clear_0 : decode cX7_clear 0 = .ok (.aload_n 0, 1) := by decide +kernel
theorem dX7_clear_1 : decode cX7_clear 1 = .ok (.getfield 7, 3) := by decide +kernel
theorem dX7_clear_4 : decode cX7_clear 4 = .ok (.bipush 75, 2) := by decide +kernel
theorem dX7_clear_6 : decode cX7_clear 6 = .ok (.iconst 0, 1) := by decide +kernel
theorem dX7_clear_7 : decode cX7_clear 7 = .ok (.iastore, 1) := by decide +kernel
theorem dX7_clear_8 : decode cX7_clear 8 = .ok (.aload_n 0, 1) := by decide +kernel
theorem dX7_clear_9 : decode cX7_clear 9 = .ok (.getfield 7, 3) := by decide +kernel
theorem dX7_clear_12 : decode cX7_clear 12 = .ok (.bipush 76, 2) := by decide +kernel
theorem dX7_clear_14 : decode cX7_clear 14 = .ok (.iconst 0, 1) := by decide +kernel
theorem dX7_clear_15 : decode cX7_clear 15 = .ok (.iastore, 1) := by decide +kernel
theorem dX7_clear_16 : decode cX7_clear 16 = .ok (.aload_n 0, 1) := by decide +kernel
theorem dX7_clear_17 : decode cX7_clear 17 = .ok (.getfield 7, 3) := by decide +kernel
theorem dX7_clear_20 : decode cX7_clear 20 = .ok (.bipush 77, 2) := by decide +kernel
theorem dX7_clear_22 : decode cX7_clear 22 = .ok (.iconst 0, 1) := by decide +kernel
theorem dX7_clear_23 : decode cX7_clear 23 = .ok (.iastore, 1) := by decide +kernel
theorem dX7_clear_24 : decode cX7_clear 24 = .ok (.aload_n 0, 1) := by decide +kernel
theorem dX7_clear_25 : decode cX7_clear 25 = .ok (.getfield 7, 3) := by decide +kernel
theorem dX7_clear_28 : decode cX7_clear 28 = .ok (.bipush 78, 2) := by decide +kernel
theorem dX7_clear_30 : decode cX7_clear 30 = .ok (.iconst 0, 1) := by decide +kernel
theorem dX7_clear_31 : decode cX7_clear 31 = .ok (.iastore, 1) := by decide +kernel
theorem dX7_clear_32 : decode cX7_clear 32 = .ok (.iconst 0, 1) := by decide +kernel
theorem dX7_clear_33 : decode cX7_clear 33 = .ok (.istore_n 1, 1) := by decide +kernel
theorem dX7_clear_34 : decode cX7_clear 34 = .ok (.iload_n 1, 1) := by decide +kernel
theorem dX7_clear_35 : decode cX7_clear 35 = .ok (.bipush 36, 2) := by decide +kernel
theorem dX7_clear_37 : decode cX7_clear 37 = .ok (.if_icmp .ge 40, 3) := by decide +kernel
theorem dX7_clear_40 : decode cX7_clear 40 = .ok (.aload_n 0, 1) := by decide +kernel
theorem dX7_clear_41 : decode cX7_clear 41 = .ok (.getfield 7, 3) := by decide +kernel
theorem dX7_clear_44 : decode cX7_clear 44 = .ok (.bipush 79, 2) := by decide +kernel
theorem dX7_clear_46 : decode cX7_clear 46 = .ok (.iload_n 1, 1) := by decide +kernel
theorem dX7_clear_47 : decode cX7_clear 47 = .ok (.iadd, 1) := by decide +kernel
theorem dX7_clear_48 : decode cX7_clear 48 = .ok (.iconst (-1), 1) := by decide +kernel
theorem dX7_clear_49 : decode cX7_clear 49 = .ok (.iastore, 1) := by decide +kernel
theorem dX7_clear_50 : decode cX7_clear 50 = .ok (.aload_n 0, 1) := by decide +kernel
theorem dX7_clear_51 : decode cX7_clear 51 = .ok (.getfield 7, 3) := by decide +kernel
theorem dX7_clear_54 : decode cX7_clear 54 = .ok (.bipush 115, 2) := by decide +kernel
theorem dX7_clear_56 : decode cX7_clear 56 = .ok (.iload_n 1, 1) := by decide +kernel
theorem dX7_clear_57 : decode cX7_clear 57 = .ok (.iadd, 1) := by decide +kernel
theorem dX7_clear_58 : decode cX7_clear 58 = .ok (.iconst (-1), 1) := by decide +kernel
theorem dX7_clear_59 : decode cX7_clear 59 = .ok (.iastore, 1) := by decide +kernel
theorem dX7_clear_60 : decode cX7_clear 60 = .ok (.aload_n 0, 1) := by decide +kernel
theorem dX7_clear_61 : decode cX7_clear 61 = .ok (.getfield 7, 3) := by decide +kernel
theorem dX7_clear_64 : decode cX7_clear 64 = .ok (.sipush 151, 3) := by decide +kernel
theorem dX7_clear_67 : decode cX7_clear 67 = .ok (.iload_n 1, 1) := by decide +kernel
theorem dX7_clear_68 : decode cX7_clear 68 = .ok (.iadd, 1) := by decide +kernel
theorem dX7_clear_69 : decode cX7_clear 69 = .ok (.iconst (-1), 1) := by decide +kernel
theorem dX7_clear_70 : decode cX7_clear 70 = .ok (.iastore, 1) := by decide +kernel
theorem dX7_clear_71 : decode cX7_clear 71 = .ok (.iinc 1 1, 3) := by decide +kernel
theorem dX7_clear_74 : decode cX7_clear 74 = .ok (.goto (-40), 3) := by decide +kernel
theorem dX7_clear_77 : decode cX7_clear 77 = .ok (.iconst 0, 1) := by decide +kernel
theorem dX7_clear_78 : decode cX7_clear 78 = .ok (.istore_n 1, 1) := by decide +kernel
theorem dX7_clear_79 : decode cX7_clear 79 = .ok (.iload_n 1, 1) := by decide +kernel
theorem dX7_clear_80 : decode cX7_clear 80 = .ok (.bipush 9, 2) := by decide +kernel
theorem dX7_clear_82 : decode cX7_clear 82 = .ok (.if_icmp .ge 20, 3) := by decide +kernel
theorem dX7_clear_85 : decode cX7_clear 85 = .ok (.aload_n 0, 1) := by decide +kernel
theorem dX7_clear_86 : decode cX7_clear 86 = .ok (.getfield 7, 3) := by decide +kernel
theorem dX7_clear_89 : decode cX7_clear 89 = .ok (.sipush 187, 3) := by decide +kernel
theorem dX7_clear_92 : decode cX7_clear 92 = .ok (.iload_n 1, 1) := by decide +kernel
theorem dX7_clear_93 : decode cX7_clear 93 = .ok (.iadd, 1) := by decide +kernel
theorem dX7_clear_94 : decode cX7_clear 94 = .ok (.iconst 0, 1) := by decide +kernel
theorem dX7_clear_95 : decode cX7_clear 95 = .ok (.iastore, 1) := by decide +kernel
theorem dX7_clear_96 : decode cX7_clear 96 = .ok (.iinc 1 1, 3) := by decide +kernel
theorem dX7_clear_99 : decode cX7_clear 99 = .ok (.goto (-20), 3) := by decide +kernel
theorem dX7_clear_102 : decode cX7_clear 102 = .ok (.return_, 1) := by decide +kernel
theorem dX7_record_0 : decode cX7_record 0 = .ok (.aload_n 0, 1) := by decide +kernel
theorem dX7_record_1 : decode cX7_record 1 = .ok (.getfield 40, 3) := by decide +kernel
theorem dX7_record_4 : decode cX7_record 4 = .ok (.iconst 4, 1) := by decide +kernel
theorem dX7_record_5 : decode cX7_record 5 = .ok (.if_icmp .ne 44, 3) := by decide +kernel
theorem dX7_record_8 : decode cX7_record 8 = .ok (.iconst 0, 1) := by decide +kernel
theorem dX7_record_9 : decode cX7_record 9 = .ok (.istore_n 1, 1) := by decide +kernel
theorem dX7_record_10 : decode cX7_record 10 = .ok (.iload_n 1, 1) := by decide +kernel
theorem dX7_record_11 : decode cX7_record 11 = .ok (.sipush 588, 3) := by decide +kernel
theorem dX7_record_14 : decode cX7_record 14 = .ok (.if_icmp .ge 25, 3) := by decide +kernel
theorem dX7_record_17 : decode cX7_record 17 = .ok (.aload_n 0, 1) := by decide +kernel
theorem dX7_record_18 : decode cX7_record 18 = .ok (.getfield 13, 3) := by decide +kernel
theorem dX7_record_21 : decode cX7_record 21 = .ok (.iload_n 1, 1) := by decide +kernel
theorem dX7_record_22 : decode cX7_record 22 = .ok (.aload_n 0, 1) := by decide +kernel
theorem dX7_record_23 : decode cX7_record 23 = .ok (.getfield 13, 3) := by decide +kernel
theorem dX7_record_26 : decode cX7_record 26 = .ok (.sipush 196, 3) := by decide +kernel
theorem dX7_record_29 : decode cX7_record 29 = .ok (.iload_n 1, 1) := by decide +kernel
theorem dX7_record_30 : decode cX7_record 30 = .ok (.iadd, 1) := by decide +kernel
theorem dX7_record_31 : decode cX7_record 31 = .ok (.iaload, 1) := by decide +kernel
theorem dX7_record_32 : decode cX7_record 32 = .ok (.iastore, 1) := by decide +kernel
theorem dX7_record_33 : decode cX7_record 33 = .ok (.iinc 1 1, 3) := by decide +kernel
theorem dX7_record_36 : decode cX7_record 36 = .ok (.goto (-26), 3) := by decide +kernel
theorem dX7_record_39 : decode cX7_record 39 = .ok (.aload_n 0, 1) := by decide +kernel
theorem dX7_record_40 : decode cX7_record 40 = .ok (.dup, 1) := by decide +kernel
theorem dX7_record_41 : decode cX7_record 41 = .ok (.getfield 40, 3) := by decide +kernel
theorem dX7_record_44 : decode cX7_record 44 = .ok (.iconst 1, 1) := by decide +kernel
theorem dX7_record_45 : decode cX7_record 45 = .ok (.isub, 1) := by decide +kernel
theorem dX7_record_46 : decode cX7_record 46 = .ok (.putfield 40, 3) := by decide +kernel
theorem dX7_record_49 : decode cX7_record 49 = .ok (.iconst 0, 1) := by decide +kernel
theorem dX7_record_50 : decode cX7_record 50 = .ok (.istore_n 1, 1) := by decide +kernel
theorem dX7_record_51 : decode cX7_record 51 = .ok (.iload_n 1, 1) := by decide +kernel
theorem dX7_record_52 : decode cX7_record 52 = .ok (.sipush 196, 3) := by decide +kernel
theorem dX7_record_55 : decode cX7_record 55 = .ok (.if_icmp .ge 30, 3) := by decide +kernel
theorem dX7_record_58 : decode cX7_record 58 = .ok (.aload_n 0, 1) := by decide +kernel
theorem dX7_record_59 : decode cX7_record 59 = .ok (.getfield 13, 3) := by decide +kernel
theorem dX7_record_62 : decode cX7_record 62 = .ok (.sipush 196, 3) := by decide +kernel
theorem dX7_record_65 : decode cX7_record 65 = .ok (.aload_n 0, 1) := by decide +kernel
theorem dX7_record_66 : decode cX7_record 66 = .ok (.getfield 40, 3) := by decide +kernel
theorem dX7_record_69 : decode cX7_record 69 = .ok (.imul, 1) := by decide +kernel
theorem dX7_record_70 : decode cX7_record 70 = .ok (.iload_n 1, 1) := by decide +kernel
theorem dX7_record_71 : decode cX7_record 71 = .ok (.iadd, 1) := by decide +kernel
theorem dX7_record_72 : decode cX7_record 72 = .ok (.aload_n 0, 1) := by decide +kernel
theorem dX7_record_73 : decode cX7_record 73 = .ok (.getfield 7, 3) := by decide +kernel
theorem dX7_record_76 : decode cX7_record 76 = .ok (.iload_n 1, 1) := by decide +kernel
theorem dX7_record_77 : decode cX7_record 77 = .ok (.iaload, 1) := by decide +kernel
theorem dX7_record_78 : decode cX7_record 78 = .ok (.iastore, 1) := by decide +kernel
theorem dX7_record_79 : decode cX7_record 79 = .ok (.iinc 1 1, 3) := by decide +kernel
theorem dX7_record_82 : decode cX7_record 82 = .ok (.goto (-31), 3) := by decide +kernel
theorem dX7_record_85 : decode cX7_record 85 = .ok (.aload_n 0, 1) := by decide +kernel
theorem dX7_record_86 : decode cX7_record 86 = .ok (.dup, 1) := by decide +kernel
theorem dX7_record_87 : decode cX7_record 87 = .ok (.getfield 40, 3) := by decide +kernel
theorem dX7_record_90 : decode cX7_record 90 = .ok (.iconst 1, 1) := by decide +kernel
theorem dX7_record_91 : decode cX7_record 91 = .ok (.iadd, 1) := by decide +kernel
theorem dX7_record_92 : decode cX7_record 92 = .ok (.putfield 40, 3) := by decide +kernel
theorem dX7_record_95 : decode cX7_record 95 = .ok (.return_, 1) := by decide +kernel
theorem dX7_undo_0 : decode cX7_undo 0 = .ok (.aload_n 0, 1) := by decide +kernel
theorem dX7_undo_1 : decode cX7_undo 1 = .ok (.getfield 40, 3) := by decide +kernel
theorem dX7_undo_4 : decode cX7_undo 4 = .ok (.ifCond .ne 6, 3) := by decide +kernel
theorem dX7_undo_7 : decode cX7_undo 7 = .ok (.bipush (-5), 2) := by decide +kernel
theorem dX7_undo_9 : decode cX7_undo 9 = .ok (.ireturn, 1) := by decide +kernel
theorem dX7_undo_10 : decode cX7_undo 10 = .ok (.aload_n 0, 1) := by decide +kernel
theorem dX7_undo_11 : decode cX7_undo 11 = .ok (.dup, 1) := by decide +kernel
theorem dX7_undo_12 : decode cX7_undo 12 = .ok (.getfield 40, 3) := by decide +kernel
theorem dX7_undo_15 : decode cX7_undo 15 = .ok (.iconst 1, 1) := by decide +kernel
theorem dX7_undo_16 : decode cX7_undo 16 = .ok (.isub, 1) := by decide +kernel
theorem dX7_undo_17 : decode cX7_undo 17 = .ok (.putfield 40, 3) := by decide +kernel
theorem dX7_undo_20 : decode cX7_undo 20 = .ok (.iconst 0, 1) := by decide +kernel
theorem dX7_undo_21 : decode cX7_undo 21 = .ok (.istore_n 1, 1) := by decide +kernel
theorem dX7_undo_22 : decode cX7_undo 22 = .ok (.iload_n 1, 1) := by decide +kernel
theorem dX7_undo_23 : decode cX7_undo 23 = .ok (.sipush 196, 3) := by decide +kernel
theorem dX7_undo_26 : decode cX7_undo 26 = .ok (.if_icmp .ge 30, 3) := by decide +kernel
theorem dX7_undo_29 : decode cX7_undo 29 = .ok (.aload_n 0, 1) := by decide +kernel
theorem dX7_undo_30 : decode cX7_undo 30 = .ok (.getfield 7, 3) := by decide +kernel
theorem dX7_undo_33 : decode cX7_undo 33 = .ok (.iload_n 1, 1) := by decide +kernel
theorem dX7_undo_34 : decode cX7_undo 34 = .ok (.aload_n 0, 1) := by decide +kernel
theorem dX7_undo_35 : decode cX7_undo 35 = .ok (.getfield 13, 3) := by decide +kernel
theorem dX7_undo_38 : decode cX7_undo 38 = .ok (.sipush 196, 3) := by decide +kernel
theorem dX7_undo_41 : decode cX7_undo 41 = .ok (.aload_n 0, 1) := by decide +kernel
theorem dX7_undo_42 : decode cX7_undo 42 = .ok (.getfield 40, 3) := by decide +kernel
theorem dX7_undo_45 : decode cX7_undo 45 = .ok (.imul, 1) := by decide +kernel
theorem dX7_undo_46 : decode cX7_undo 46 = .ok (.iload_n 1, 1) := by decide +kernel
theorem dX7_undo_47 : decode cX7_undo 47 = .ok (.iadd, 1) := by decide +kernel
theorem dX7_undo_48 : decode cX7_undo 48 = .ok (.iaload, 1) := by decide +kernel
theorem dX7_undo_49 : decode cX7_undo 49 = .ok (.iastore, 1) := by decide +kernel
theorem dX7_undo_50 : decode cX7_undo 50 = .ok (.iinc 1 1, 3) := by decide +kernel
theorem dX7_undo_53 : decode cX7_undo 53 = .ok (.goto (-31), 3) := by decide +kernel
theorem dX7_undo_56 : decode cX7_undo 56 = .ok (.aload_n 0, 1) := by decide +kernel
theorem dX7_undo_57 : decode cX7_undo 57 = .ok (.getfield 40, 3) := by decide +kernel
theorem dX7_undo_60 : decode cX7_undo 60 = .ok (.ireturn, 1) := by decide +kernel
theorem dX7_keep_0 : decode cX7_keep 0 = .ok (.iconst 0, 1) := by decide +kernel
theorem dX7_keep_1 : decode cX7_keep 1 = .ok (.istore_n 1, 1) := by decide +kernel
theorem dX7_keep_2 : decode cX7_keep 2 = .ok (.iload_n 1, 1) := by decide +kernel
theorem dX7_keep_3 : decode cX7_keep 3 = .ok (.sipush 196, 3) := by decide +kernel
theorem dX7_keep_6 : decode cX7_keep 6 = .ok (.if_icmp .ge 21, 3) := by decide +kernel
theorem dX7_keep_9 : decode cX7_keep 9 = .ok (.aload_n 0, 1) := by decide +kernel
theorem dX7_keep_10 : decode cX7_keep 10 = .ok (.getfield 16, 3) := by decide +kernel
theorem dX7_keep_13 : decode cX7_keep 13 = .ok (.iload_n 1, 1) := by decide +kernel
theorem dX7_keep_14 : decode cX7_keep 14 = .ok (.aload_n 0, 1) := by decide +kernel
theorem dX7_keep_15 : decode cX7_keep 15 = .ok (.getfield 7, 3) := by decide +kernel
theorem dX7_keep_18 : decode cX7_keep 18 = .ok (.iload_n 1, 1) := by decide +kernel
theorem dX7_keep_19 : decode cX7_keep 19 = .ok (.iaload, 1) := by decide +kernel
theorem dX7_keep_20 : decode cX7_keep 20 = .ok (.iastore, 1) := by decide +kernel
theorem dX7_keep_21 : decode cX7_keep 21 = .ok (.iinc 1 1, 3) := by decide +kernel
theorem dX7_keep_24 : decode cX7_keep 24 = .ok (.goto (-22), 3) := by decide +kernel
theorem dX7_keep_27 : decode cX7_keep 27 = .ok (.aload_n 0, 1) := by decide +kernel
theorem dX7_keep_28 : decode cX7_keep 28 = .ok (.iconst 1, 1) := by decide +kernel
theorem dX7_keep_29 : decode cX7_keep 29 = .ok (.putfield 44, 3) := by decide +kernel
theorem dX7_keep_32 : decode cX7_keep 32 = .ok (.aload_n 0, 1) := by decide +kernel
theorem dX7_keep_33 : decode cX7_keep 33 = .ok (.getfield 7, 3) := by decide +kernel
theorem dX7_keep_36 : decode cX7_keep 36 = .ok (.bipush 77, 2) := by decide +kernel
theorem dX7_keep_38 : decode cX7_keep 38 = .ok (.iaload, 1) := by decide +kernel
theorem dX7_keep_39 : decode cX7_keep 39 = .ok (.ireturn, 1) := by decide +kernel
theorem dX7_restore_0 : decode cX7_restore 0 = .ok (.aload_n 0, 1) := by decide +kernel
theorem dX7_restore_1 : decode cX7_restore 1 = .ok (.getfield 44, 3) := by decide +kernel
theorem dX7_restore_4 : decode cX7_restore 4 = .ok (.ifCond .ne 6, 3) := by decide +kernel
theorem dX7_restore_7 : decode cX7_restore 7 = .ok (.bipush (-5), 2) := by decide +kernel
theorem dX7_restore_9 : decode cX7_restore 9 = .ok (.ireturn, 1) := by decide +kernel
theorem dX7_restore_10 : decode cX7_restore 10 = .ok (.aload_n 0, 1) := by decide +kernel
theorem dX7_restore_11 : decode cX7_restore 11 = .ok (.invokevirtual 48, 3) := by decide +kernel
theorem dX7_restore_14 : decode cX7_restore 14 = .ok (.iconst 0, 1) := by decide +kernel
theorem dX7_restore_15 : decode cX7_restore 15 = .ok (.istore_n 1, 1) := by decide +kernel
theorem dX7_restore_16 : decode cX7_restore 16 = .ok (.iload_n 1, 1) := by decide +kernel
theorem dX7_restore_17 : decode cX7_restore 17 = .ok (.sipush 196, 3) := by decide +kernel
theorem dX7_restore_20 : decode cX7_restore 20 = .ok (.if_icmp .ge 21, 3) := by decide +kernel
theorem dX7_restore_23 : decode cX7_restore 23 = .ok (.aload_n 0, 1) := by decide +kernel
theorem dX7_restore_24 : decode cX7_restore 24 = .ok (.getfield 7, 3) := by decide +kernel
theorem dX7_restore_27 : decode cX7_restore 27 = .ok (.iload_n 1, 1) := by decide +kernel
theorem dX7_restore_28 : decode cX7_restore 28 = .ok (.aload_n 0, 1) := by decide +kernel
theorem dX7_restore_29 : decode cX7_restore 29 = .ok (.getfield 16, 3) := by decide +kernel
theorem dX7_restore_32 : decode cX7_restore 32 = .ok (.iload_n 1, 1) := by decide +kernel
theorem dX7_restore_33 : decode cX7_restore 33 = .ok (.iaload, 1) := by decide +kernel
theorem dX7_restore_34 : decode cX7_restore 34 = .ok (.iastore, 1) := by decide +kernel
theorem dX7_restore_35 : decode cX7_restore 35 = .ok (.iinc 1 1, 3) := by decide +kernel
theorem dX7_restore_38 : decode cX7_restore 38 = .ok (.goto (-22), 3) := by decide +kernel
theorem dX7_restore_41 : decode cX7_restore 41 = .ok (.aload_n 0, 1) := by decide +kernel
theorem dX7_restore_42 : decode cX7_restore 42 = .ok (.getfield 7, 3) := by decide +kernel
theorem dX7_restore_45 : decode cX7_restore 45 = .ok (.bipush 77, 2) := by decide +kernel
theorem dX7_restore_47 : decode cX7_restore 47 = .ok (.iaload, 1) := by decide +kernel
theorem dX7_restore_48 : decode cX7_restore 48 = .ok (.ireturn, 1) := by decide +kernel
theorem dX7_setVotes_0 : decode cX7_setVotes 0 = .ok (.iload_n 1, 1) := by decide +kernel
theorem dX7_setVotes_1 : decode cX7_setVotes 1 = .ok (.invokestatic 51, 3) := by decide +kernel
theorem dX7_setVotes_4 : decode cX7_setVotes 4 = .ok (.ifCond .eq 5, 3) := by decide +kernel
theorem dX7_setVotes_7 : decode cX7_setVotes 7 = .ok (.iconst (-1), 1) := by decide +kernel
theorem dX7_setVotes_8 : decode cX7_setVotes 8 = .ok (.ireturn, 1) := by decide +kernel
theorem dX7_setVotes_9 : decode cX7_setVotes 9 = .ok (.iload_n 2, 1) := by decide +kernel
theorem dX7_setVotes_10 : decode cX7_setVotes 10 = .ok (.iconst 0, 1) := by decide +kernel
theorem dX7_setVotes_11 : decode cX7_setVotes 11 = .ok (.bipush 9, 2) := by decide +kernel
theorem dX7_setVotes_13 : decode cX7_setVotes 13 = .ok (.invokestatic 36, 3) := by decide +kernel
theorem dX7_setVotes_16 : decode cX7_setVotes 16 = .ok (.ifCond .eq 13, 3) := by decide +kernel
theorem dX7_setVotes_19 : decode cX7_setVotes 19 = .ok (.iload_n 3, 1) := by decide +kernel
theorem dX7_setVotes_20 : decode cX7_setVotes 20 = .ok (.iconst 0, 1) := by decide +kernel
theorem dX7_setVotes_21 : decode cX7_setVotes 21 = .ok (.bipush 9, 2) := by decide +kernel
theorem dX7_setVotes_23 : decode cX7_setVotes 23 = .ok (.invokestatic 36, 3) := by decide +kernel
theorem dX7_setVotes_26 : decode cX7_setVotes 26 = .ok (.ifCond .ne 6, 3) := by decide +kernel
theorem dX7_setVotes_29 : decode cX7_setVotes 29 = .ok (.bipush (-2), 2) := by decide +kernel
theorem dX7_setVotes_31 : decode cX7_setVotes 31 = .ok (.ireturn, 1) := by decide +kernel
theorem dX7_setVotes_32 : decode cX7_setVotes 32 = .ok (.bipush 10, 2) := by decide +kernel
theorem dX7_setVotes_34 : decode cX7_setVotes 34 = .ok (.aload_n 0, 1) := by decide +kernel
theorem dX7_setVotes_35 : decode cX7_setVotes 35 = .ok (.getfield 7, 3) := by decide +kernel
theorem dX7_setVotes_38 : decode cX7_setVotes 38 = .ok (.iconst 2, 1) := by decide +kernel
theorem dX7_setVotes_39 : decode cX7_setVotes 39 = .ok (.iload_n 1, 1) := by decide +kernel
theorem dX7_setVotes_40 : decode cX7_setVotes 40 = .ok (.imul, 1) := by decide +kernel
theorem dX7_setVotes_41 : decode cX7_setVotes 41 = .ok (.iaload, 1) := by decide +kernel
theorem dX7_setVotes_42 : decode cX7_setVotes 42 = .ok (.imul, 1) := by decide +kernel
theorem dX7_setVotes_43 : decode cX7_setVotes 43 = .ok (.aload_n 0, 1) := by decide +kernel
theorem dX7_setVotes_44 : decode cX7_setVotes 44 = .ok (.getfield 7, 3) := by decide +kernel
theorem dX7_setVotes_47 : decode cX7_setVotes 47 = .ok (.iconst 2, 1) := by decide +kernel
theorem dX7_setVotes_48 : decode cX7_setVotes 48 = .ok (.iload_n 1, 1) := by decide +kernel
theorem dX7_setVotes_49 : decode cX7_setVotes 49 = .ok (.imul, 1) := by decide +kernel
theorem dX7_setVotes_50 : decode cX7_setVotes 50 = .ok (.iconst 1, 1) := by decide +kernel
theorem dX7_setVotes_51 : decode cX7_setVotes 51 = .ok (.iadd, 1) := by decide +kernel
theorem dX7_setVotes_52 : decode cX7_setVotes 52 = .ok (.iaload, 1) := by decide +kernel
theorem dX7_setVotes_53 : decode cX7_setVotes 53 = .ok (.iadd, 1) := by decide +kernel
theorem dX7_setVotes_54 : decode cX7_setVotes 54 = .ok (.istore 4, 2) := by decide +kernel
theorem dX7_setVotes_56 : decode cX7_setVotes 56 = .ok (.iload 4, 2) := by decide +kernel
theorem dX7_setVotes_58 : decode cX7_setVotes 58 = .ok (.bipush 10, 2) := by decide +kernel
theorem dX7_setVotes_60 : decode cX7_setVotes 60 = .ok (.iload_n 2, 1) := by decide +kernel
theorem dX7_setVotes_61 : decode cX7_setVotes 61 = .ok (.imul, 1) := by decide +kernel
theorem dX7_setVotes_62 : decode cX7_setVotes 62 = .ok (.iload_n 3, 1) := by decide +kernel
theorem dX7_setVotes_63 : decode cX7_setVotes 63 = .ok (.iadd, 1) := by decide +kernel
theorem dX7_setVotes_64 : decode cX7_setVotes 64 = .ok (.if_icmp .ne 6, 3) := by decide +kernel
theorem dX7_setVotes_67 : decode cX7_setVotes 67 = .ok (.bipush (-5), 2) := by decide +kernel
theorem dX7_setVotes_69 : decode cX7_setVotes 69 = .ok (.ireturn, 1) := by decide +kernel
theorem dX7_setVotes_70 : decode cX7_setVotes 70 = .ok (.aload_n 0, 1) := by decide +kernel
theorem dX7_setVotes_71 : decode cX7_setVotes 71 = .ok (.invokevirtual 48, 3) := by decide +kernel
theorem dX7_setVotes_74 : decode cX7_setVotes 74 = .ok (.aload_n 0, 1) := by decide +kernel
theorem dX7_setVotes_75 : decode cX7_setVotes 75 = .ok (.getfield 7, 3) := by decide +kernel
theorem dX7_setVotes_78 : decode cX7_setVotes 78 = .ok (.iconst 2, 1) := by decide +kernel
theorem dX7_setVotes_79 : decode cX7_setVotes 79 = .ok (.iload_n 1, 1) := by decide +kernel
theorem dX7_setVotes_80 : decode cX7_setVotes 80 = .ok (.imul, 1) := by decide +kernel
theorem dX7_setVotes_81 : decode cX7_setVotes 81 = .ok (.iload_n 2, 1) := by decide +kernel
theorem dX7_setVotes_82 : decode cX7_setVotes 82 = .ok (.iastore, 1) := by decide +kernel
theorem dX7_setVotes_83 : decode cX7_setVotes 83 = .ok (.aload_n 0, 1) := by decide +kernel
theorem dX7_setVotes_84 : decode cX7_setVotes 84 = .ok (.getfield 7, 3) := by decide +kernel
theorem dX7_setVotes_87 : decode cX7_setVotes 87 = .ok (.iconst 2, 1) := by decide +kernel
theorem dX7_setVotes_88 : decode cX7_setVotes 88 = .ok (.iload_n 1, 1) := by decide +kernel
theorem dX7_setVotes_89 : decode cX7_setVotes 89 = .ok (.imul, 1) := by decide +kernel
theorem dX7_setVotes_90 : decode cX7_setVotes 90 = .ok (.iconst 1, 1) := by decide +kernel
theorem dX7_setVotes_91 : decode cX7_setVotes 91 = .ok (.iadd, 1) := by decide +kernel
theorem dX7_setVotes_92 : decode cX7_setVotes 92 = .ok (.iload_n 3, 1) := by decide +kernel
theorem dX7_setVotes_93 : decode cX7_setVotes 93 = .ok (.iastore, 1) := by decide +kernel
theorem dX7_setVotes_94 : decode cX7_setVotes 94 = .ok (.iload 4, 2) := by decide +kernel
theorem dX7_setVotes_96 : decode cX7_setVotes 96 = .ok (.ireturn, 1) := by decide +kernel
theorem dX7_begin_0 : decode cX7_begin 0 = .ok (.iload_n 1, 1) := by decide +kernel
theorem dX7_begin_1 : decode cX7_begin 1 = .ok (.iconst 2, 1) := by decide +kernel
theorem dX7_begin_2 : decode cX7_begin 2 = .ok (.if_icmp .lt 16, 3) := by decide +kernel
theorem dX7_begin_5 : decode cX7_begin 5 = .ok (.iload_n 1, 1) := by decide +kernel
theorem dX7_begin_6 : decode cX7_begin 6 = .ok (.bipush 9, 2) := by decide +kernel
theorem dX7_begin_8 : decode cX7_begin 8 = .ok (.if_icmp .gt 10, 3) := by decide +kernel
theorem dX7_begin_11 : decode cX7_begin 11 = .ok (.bipush 36, 2) := by decide +kernel
theorem dX7_begin_13 : decode cX7_begin 13 = .ok (.iload_n 1, 1) := by decide +kernel
theorem dX7_begin_14 : decode cX7_begin 14 = .ok (.irem, 1) := by decide +kernel
theorem dX7_begin_15 : decode cX7_begin 15 = .ok (.ifCond .eq 6, 3) := by decide +kernel
theorem dX7_begin_18 : decode cX7_begin 18 = .ok (.bipush (-2), 2) := by decide +kernel
theorem dX7_begin_20 : decode cX7_begin 20 = .ok (.ireturn, 1) := by decide +kernel
theorem dX7_begin_21 : decode cX7_begin 21 = .ok (.aload_n 0, 1) := by decide +kernel
theorem dX7_begin_22 : decode cX7_begin 22 = .ok (.invokevirtual 48, 3) := by decide +kernel
theorem dX7_begin_25 : decode cX7_begin 25 = .ok (.aload_n 0, 1) := by decide +kernel
theorem dX7_begin_26 : decode cX7_begin 26 = .ok (.getfield 7, 3) := by decide +kernel
theorem dX7_begin_29 : decode cX7_begin 29 = .ok (.bipush 72, 2) := by decide +kernel
theorem dX7_begin_31 : decode cX7_begin 31 = .ok (.iload_n 1, 1) := by decide +kernel
theorem dX7_begin_32 : decode cX7_begin 32 = .ok (.iastore, 1) := by decide +kernel
theorem dX7_begin_33 : decode cX7_begin 33 = .ok (.aload_n 0, 1) := by decide +kernel
theorem dX7_begin_34 : decode cX7_begin 34 = .ok (.invokevirtual 33, 3) := by decide +kernel
theorem dX7_begin_37 : decode cX7_begin 37 = .ok (.aload_n 0, 1) := by decide +kernel
theorem dX7_begin_38 : decode cX7_begin 38 = .ok (.invokevirtual 55, 3) := by decide +kernel
theorem dX7_begin_41 : decode cX7_begin 41 = .ok (.ireturn, 1) := by decide +kernel
theorem dX7_setTarget_0 : decode cX7_setTarget 0 = .ok (.iload_n 1, 1) := by decide +kernel
theorem dX7_setTarget_1 : decode cX7_setTarget 1 = .ok (.iconst 0, 1) := by decide +kernel
theorem dX7_setTarget_2 : decode cX7_setTarget 2 = .ok (.iconst 1, 1) := by decide +kernel
theorem dX7_setTarget_3 : decode cX7_setTarget 3 = .ok (.invokestatic 36, 3) := by decide +kernel
theorem dX7_setTarget_6 : decode cX7_setTarget 6 = .ok (.ifCond .ne 5, 3) := by decide +kernel
theorem dX7_setTarget_9 : decode cX7_setTarget 9 = .ok (.iconst (-1), 1) := by decide +kernel
theorem dX7_setTarget_10 : decode cX7_setTarget 10 = .ok (.ireturn, 1) := by decide +kernel
theorem dX7_setTarget_11 : decode cX7_setTarget 11 = .ok (.iload_n 2, 1) := by decide +kernel
theorem dX7_setTarget_12 : decode cX7_setTarget 12 = .ok (.iconst 0, 1) := by decide +kernel
theorem dX7_setTarget_13 : decode cX7_setTarget 13 = .ok (.bipush 9, 2) := by decide +kernel
theorem dX7_setTarget_15 : decode cX7_setTarget 15 = .ok (.invokestatic 36, 3) := by decide +kernel
theorem dX7_setTarget_18 : decode cX7_setTarget 18 = .ok (.ifCond .ne 6, 3) := by decide +kernel
theorem dX7_setTarget_21 : decode cX7_setTarget 21 = .ok (.bipush (-2), 2) := by decide +kernel
theorem dX7_setTarget_23 : decode cX7_setTarget 23 = .ok (.ireturn, 1) := by decide +kernel
theorem dX7_setTarget_24 : decode cX7_setTarget 24 = .ok (.aload_n 0, 1) := by decide +kernel
theorem dX7_setTarget_25 : decode cX7_setTarget 25 = .ok (.getfield 7, 3) := by decide +kernel
theorem dX7_setTarget_28 : decode cX7_setTarget 28 = .ok (.bipush 73, 2) := by decide +kernel
theorem dX7_setTarget_30 : decode cX7_setTarget 30 = .ok (.iload_n 1, 1) := by decide +kernel
theorem dX7_setTarget_31 : decode cX7_setTarget 31 = .ok (.iadd, 1) := by decide +kernel
theorem dX7_setTarget_32 : decode cX7_setTarget 32 = .ok (.iaload, 1) := by decide +kernel
theorem dX7_setTarget_33 : decode cX7_setTarget 33 = .ok (.istore_n 3, 1) := by decide +kernel
theorem dX7_setTarget_34 : decode cX7_setTarget 34 = .ok (.iload_n 3, 1) := by decide +kernel
theorem dX7_setTarget_35 : decode cX7_setTarget 35 = .ok (.iload_n 2, 1) := by decide +kernel
theorem dX7_setTarget_36 : decode cX7_setTarget 36 = .ok (.if_icmp .ne 6, 3) := by decide +kernel
theorem dX7_setTarget_39 : decode cX7_setTarget 39 = .ok (.bipush (-5), 2) := by decide +kernel
theorem dX7_setTarget_41 : decode cX7_setTarget 41 = .ok (.ireturn, 1) := by decide +kernel
theorem dX7_setTarget_42 : decode cX7_setTarget 42 = .ok (.aload_n 0, 1) := by decide +kernel
theorem dX7_setTarget_43 : decode cX7_setTarget 43 = .ok (.invokevirtual 48, 3) := by decide +kernel
theorem dX7_setTarget_46 : decode cX7_setTarget 46 = .ok (.aload_n 0, 1) := by decide +kernel
theorem dX7_setTarget_47 : decode cX7_setTarget 47 = .ok (.getfield 7, 3) := by decide +kernel
theorem dX7_setTarget_50 : decode cX7_setTarget 50 = .ok (.bipush 73, 2) := by decide +kernel
theorem dX7_setTarget_52 : decode cX7_setTarget 52 = .ok (.iload_n 1, 1) := by decide +kernel
theorem dX7_setTarget_53 : decode cX7_setTarget 53 = .ok (.iadd, 1) := by decide +kernel
theorem dX7_setTarget_54 : decode cX7_setTarget 54 = .ok (.iload_n 2, 1) := by decide +kernel
theorem dX7_setTarget_55 : decode cX7_setTarget 55 = .ok (.iastore, 1) := by decide +kernel
theorem dX7_setTarget_56 : decode cX7_setTarget 56 = .ok (.iload_n 3, 1) := by decide +kernel
theorem dX7_setTarget_57 : decode cX7_setTarget 57 = .ok (.ireturn, 1) := by decide +kernel
theorem dX7_size_0 : decode cX7_size 0 = .ok (.bipush 36, 2) := by decide +kernel
theorem dX7_size_2 : decode cX7_size 2 = .ok (.aload_n 0, 1) := by decide +kernel
theorem dX7_size_3 : decode cX7_size 3 = .ok (.getfield 7, 3) := by decide +kernel
theorem dX7_size_6 : decode cX7_size 6 = .ok (.bipush 72, 2) := by decide +kernel
theorem dX7_size_8 : decode cX7_size 8 = .ok (.iaload, 1) := by decide +kernel
theorem dX7_size_9 : decode cX7_size 9 = .ok (.idiv, 1) := by decide +kernel
theorem dX7_size_10 : decode cX7_size 10 = .ok (.ireturn, 1) := by decide +kernel
theorem dX7_left_0 : decode cX7_left 0 = .ok (.aload_n 0, 1) := by decide +kernel
theorem dX7_left_1 : decode cX7_left 1 = .ok (.getfield 7, 3) := by decide +kernel
theorem dX7_left_4 : decode cX7_left 4 = .ok (.bipush 72, 2) := by decide +kernel
theorem dX7_left_6 : decode cX7_left 6 = .ok (.iaload, 1) := by decide +kernel
theorem dX7_left_7 : decode cX7_left 7 = .ok (.aload_n 0, 1) := by decide +kernel
theorem dX7_left_8 : decode cX7_left 8 = .ok (.getfield 7, 3) := by decide +kernel
theorem dX7_left_11 : decode cX7_left 11 = .ok (.bipush 77, 2) := by decide +kernel
theorem dX7_left_13 : decode cX7_left 13 = .ok (.iaload, 1) := by decide +kernel
theorem dX7_left_14 : decode cX7_left 14 = .ok (.isub, 1) := by decide +kernel
theorem dX7_left_15 : decode cX7_left 15 = .ok (.ireturn, 1) := by decide +kernel
theorem dX7_isOpen_0 : decode cX7_isOpen 0 = .ok (.aload_n 0, 1) := by decide +kernel
theorem dX7_isOpen_1 : decode cX7_isOpen 1 = .ok (.getfield 7, 3) := by decide +kernel
theorem dX7_isOpen_4 : decode cX7_isOpen 4 = .ok (.bipush 115, 2) := by decide +kernel
theorem dX7_isOpen_6 : decode cX7_isOpen 6 = .ok (.iload_n 1, 1) := by decide +kernel
theorem dX7_isOpen_7 : decode cX7_isOpen 7 = .ok (.iadd, 1) := by decide +kernel
theorem dX7_isOpen_8 : decode cX7_isOpen 8 = .ok (.iaload, 1) := by decide +kernel
theorem dX7_isOpen_9 : decode cX7_isOpen 9 = .ok (.ifCond .ge 7, 3) := by decide +kernel
theorem dX7_isOpen_12 : decode cX7_isOpen 12 = .ok (.iconst 1, 1) := by decide +kernel
theorem dX7_isOpen_13 : decode cX7_isOpen 13 = .ok (.goto 4, 3) := by decide +kernel
theorem dX7_isOpen_16 : decode cX7_isOpen 16 = .ok (.iconst 0, 1) := by decide +kernel
theorem dX7_isOpen_17 : decode cX7_isOpen 17 = .ok (.ireturn, 1) := by decide +kernel
theorem dX7_beside_0 : decode cX7_beside 0 = .ok (.iload_n 0, 1) := by decide +kernel
theorem dX7_beside_1 : decode cX7_beside 1 = .ok (.bipush 6, 2) := by decide +kernel
theorem dX7_beside_3 : decode cX7_beside 3 = .ok (.idiv, 1) := by decide +kernel
theorem dX7_beside_4 : decode cX7_beside 4 = .ok (.iload_n 1, 1) := by decide +kernel
theorem dX7_beside_5 : decode cX7_beside 5 = .ok (.ifCond .ne 7, 3) := by decide +kernel
theorem dX7_beside_8 : decode cX7_beside 8 = .ok (.iconst (-1), 1) := by decide +kernel
theorem dX7_beside_9 : decode cX7_beside 9 = .ok (.goto 13, 3) := by decide +kernel
theorem dX7_beside_12 : decode cX7_beside 12 = .ok (.iload_n 1, 1) := by decide +kernel
theorem dX7_beside_13 : decode cX7_beside 13 = .ok (.iconst 1, 1) := by decide +kernel
theorem dX7_beside_14 : decode cX7_beside 14 = .ok (.if_icmp .ne 7, 3) := by decide +kernel
theorem dX7_beside_17 : decode cX7_beside 17 = .ok (.iconst 1, 1) := by decide +kernel
theorem dX7_beside_18 : decode cX7_beside 18 = .ok (.goto 4, 3) := by decide +kernel
theorem dX7_beside_21 : decode cX7_beside 21 = .ok (.iconst 0, 1) := by decide +kernel
theorem dX7_beside_22 : decode cX7_beside 22 = .ok (.iadd, 1) := by decide +kernel
theorem dX7_beside_23 : decode cX7_beside 23 = .ok (.istore_n 2, 1) := by decide +kernel
theorem dX7_beside_24 : decode cX7_beside 24 = .ok (.iload_n 0, 1) := by decide +kernel
theorem dX7_beside_25 : decode cX7_beside 25 = .ok (.bipush 6, 2) := by decide +kernel
theorem dX7_beside_27 : decode cX7_beside 27 = .ok (.irem, 1) := by decide +kernel
theorem dX7_beside_28 : decode cX7_beside 28 = .ok (.iload_n 1, 1) := by decide +kernel
theorem dX7_beside_29 : decode cX7_beside 29 = .ok (.iconst 2, 1) := by decide +kernel
theorem dX7_beside_30 : decode cX7_beside 30 = .ok (.if_icmp .ne 7, 3) := by decide +kernel
theorem dX7_beside_33 : decode cX7_beside 33 = .ok (.iconst (-1), 1) := by decide +kernel
theorem dX7_beside_34 : decode cX7_beside 34 = .ok (.goto 13, 3) := by decide +kernel
theorem dX7_beside_37 : decode cX7_beside 37 = .ok (.iload_n 1, 1) := by decide +kernel
theorem dX7_beside_38 : decode cX7_beside 38 = .ok (.iconst 3, 1) := by decide +kernel
theorem dX7_beside_39 : decode cX7_beside 39 = .ok (.if_icmp .ne 7, 3) := by decide +kernel
theorem dX7_beside_42 : decode cX7_beside 42 = .ok (.iconst 1, 1) := by decide +kernel
theorem dX7_beside_43 : decode cX7_beside 43 = .ok (.goto 4, 3) := by decide +kernel
theorem dX7_beside_46 : decode cX7_beside 46 = .ok (.iconst 0, 1) := by decide +kernel
theorem dX7_beside_47 : decode cX7_beside 47 = .ok (.iadd, 1) := by decide +kernel
theorem dX7_beside_48 : decode cX7_beside 48 = .ok (.istore_n 3, 1) := by decide +kernel
theorem dX7_beside_49 : decode cX7_beside 49 = .ok (.iload_n 2, 1) := by decide +kernel
theorem dX7_beside_50 : decode cX7_beside 50 = .ok (.iconst 0, 1) := by decide +kernel
theorem dX7_beside_51 : decode cX7_beside 51 = .ok (.iconst 5, 1) := by decide +kernel
theorem dX7_beside_52 : decode cX7_beside 52 = .ok (.invokestatic 36, 3) := by decide +kernel
theorem dX7_beside_55 : decode cX7_beside 55 = .ok (.ifCond .eq 21, 3) := by decide +kernel
theorem dX7_beside_58 : decode cX7_beside 58 = .ok (.iload_n 3, 1) := by decide +kernel
theorem dX7_beside_59 : decode cX7_beside 59 = .ok (.iconst 0, 1) := by decide +kernel
theorem dX7_beside_60 : decode cX7_beside 60 = .ok (.iconst 5, 1) := by decide +kernel
theorem dX7_beside_61 : decode cX7_beside 61 = .ok (.invokestatic 36, 3) := by decide +kernel
theorem dX7_beside_64 : decode cX7_beside 64 = .ok (.ifCond .eq 12, 3) := by decide +kernel
theorem dX7_beside_67 : decode cX7_beside 67 = .ok (.bipush 6, 2) := by decide +kernel
theorem dX7_beside_69 : decode cX7_beside 69 = .ok (.iload_n 2, 1) := by decide +kernel
theorem dX7_beside_70 : decode cX7_beside 70 = .ok (.imul, 1) := by decide +kernel
theorem dX7_beside_71 : decode cX7_beside 71 = .ok (.iload_n 3, 1) := by decide +kernel
theorem dX7_beside_72 : decode cX7_beside 72 = .ok (.iadd, 1) := by decide +kernel
theorem dX7_beside_73 : decode cX7_beside 73 = .ok (.goto 4, 3) := by decide +kernel
theorem dX7_beside_76 : decode cX7_beside 76 = .ok (.iconst (-1), 1) := by decide +kernel
theorem dX7_beside_77 : decode cX7_beside 77 = .ok (.ireturn, 1) := by decide +kernel
theorem dX7_cells_0 : decode cX7_cells 0 = .ok (.iconst 0, 1) := by decide +kernel
theorem dX7_cells_1 : decode cX7_cells 1 = .ok (.istore_n 3, 1) := by decide +kernel
theorem dX7_cells_2 : decode cX7_cells 2 = .ok (.iconst 0, 1) := by decide +kernel
theorem dX7_cells_3 : decode cX7_cells 3 = .ok (.istore 4, 2) := by decide +kernel
theorem dX7_cells_5 : decode cX7_cells 5 = .ok (.iload 4, 2) := by decide +kernel
theorem dX7_cells_7 : decode cX7_cells 7 = .ok (.bipush 36, 2) := by decide +kernel
theorem dX7_cells_9 : decode cX7_cells 9 = .ok (.if_icmp .ge 30, 3) := by decide +kernel
theorem dX7_cells_12 : decode cX7_cells 12 = .ok (.iload_n 3, 1) := by decide +kernel
theorem dX7_cells_13 : decode cX7_cells 13 = .ok (.aload_n 0, 1) := by decide +kernel
theorem dX7_cells_14 : decode cX7_cells 14 = .ok (.getfield 7, 3) := by decide +kernel
theorem dX7_cells_17 : decode cX7_cells 17 = .ok (.iload_n 1, 1) := by decide +kernel
theorem dX7_cells_18 : decode cX7_cells 18 = .ok (.iload 4, 2) := by decide +kernel
theorem dX7_cells_20 : decode cX7_cells 20 = .ok (.iadd, 1) := by decide +kernel
theorem dX7_cells_21 : decode cX7_cells 21 = .ok (.iaload, 1) := by decide +kernel
theorem dX7_cells_22 : decode cX7_cells 22 = .ok (.iload_n 2, 1) := by decide +kernel
theorem dX7_cells_23 : decode cX7_cells 23 = .ok (.if_icmp .ne 7, 3) := by decide +kernel
theorem dX7_cells_26 : decode cX7_cells 26 = .ok (.iconst 1, 1) := by decide +kernel
theorem dX7_cells_27 : decode cX7_cells 27 = .ok (.goto 4, 3) := by decide +kernel
theorem dX7_cells_30 : decode cX7_cells 30 = .ok (.iconst 0, 1) := by decide +kernel
theorem dX7_cells_31 : decode cX7_cells 31 = .ok (.iadd, 1) := by decide +kernel
theorem dX7_cells_32 : decode cX7_cells 32 = .ok (.istore_n 3, 1) := by decide +kernel
theorem dX7_cells_33 : decode cX7_cells 33 = .ok (.iinc 4 1, 3) := by decide +kernel
theorem dX7_cells_36 : decode cX7_cells 36 = .ok (.goto (-31), 3) := by decide +kernel
theorem dX7_cells_39 : decode cX7_cells 39 = .ok (.iload_n 3, 1) := by decide +kernel
theorem dX7_cells_40 : decode cX7_cells 40 = .ok (.ireturn, 1) := by decide +kernel
theorem dX7_lowest_0 : decode cX7_lowest 0 = .ok (.iconst 0, 1) := by decide +kernel
theorem dX7_lowest_1 : decode cX7_lowest 1 = .ok (.istore_n 3, 1) := by decide +kernel
theorem dX7_lowest_2 : decode cX7_lowest 2 = .ok (.iload_n 3, 1) := by decide +kernel
theorem dX7_lowest_3 : decode cX7_lowest 3 = .ok (.bipush 36, 2) := by decide +kernel
theorem dX7_lowest_5 : decode cX7_lowest 5 = .ok (.if_icmp .ge 23, 3) := by decide +kernel
theorem dX7_lowest_8 : decode cX7_lowest 8 = .ok (.aload_n 0, 1) := by decide +kernel
theorem dX7_lowest_9 : decode cX7_lowest 9 = .ok (.getfield 7, 3) := by decide +kernel
theorem dX7_lowest_12 : decode cX7_lowest 12 = .ok (.iload_n 1, 1) := by decide +kernel
theorem dX7_lowest_13 : decode cX7_lowest 13 = .ok (.iload_n 3, 1) := by decide +kernel
theorem dX7_lowest_14 : decode cX7_lowest 14 = .ok (.iadd, 1) := by decide +kernel
theorem dX7_lowest_15 : decode cX7_lowest 15 = .ok (.iaload, 1) := by decide +kernel
theorem dX7_lowest_16 : decode cX7_lowest 16 = .ok (.iload_n 2, 1) := by decide +kernel
theorem dX7_lowest_17 : decode cX7_lowest 17 = .ok (.if_icmp .ne 5, 3) := by decide +kernel
theorem dX7_lowest_20 : decode cX7_lowest 20 = .ok (.iload_n 3, 1) := by decide +kernel
theorem dX7_lowest_21 : decode cX7_lowest 21 = .ok (.ireturn, 1) := by decide +kernel
theorem dX7_lowest_22 : decode cX7_lowest 22 = .ok (.iinc 3 1, 3) := by decide +kernel
theorem dX7_lowest_25 : decode cX7_lowest 25 = .ok (.goto (-23), 3) := by decide +kernel
theorem dX7_lowest_28 : decode cX7_lowest 28 = .ok (.bipush (-5), 2) := by decide +kernel
theorem dX7_lowest_30 : decode cX7_lowest 30 = .ok (.ireturn, 1) := by decide +kernel
theorem dX7_votes_0 : decode cX7_votes 0 = .ok (.iconst 0, 1) := by decide +kernel
theorem dX7_votes_1 : decode cX7_votes 1 = .ok (.istore 4, 2) := by decide +kernel
theorem dX7_votes_3 : decode cX7_votes 3 = .ok (.iconst 0, 1) := by decide +kernel
theorem dX7_votes_4 : decode cX7_votes 4 = .ok (.istore 5, 2) := by decide +kernel
theorem dX7_votes_6 : decode cX7_votes 6 = .ok (.iload 5, 2) := by decide +kernel
theorem dX7_votes_8 : decode cX7_votes 8 = .ok (.bipush 36, 2) := by decide +kernel
theorem dX7_votes_10 : decode cX7_votes 10 = .ok (.if_icmp .ge 42, 3) := by decide +kernel
theorem dX7_votes_13 : decode cX7_votes 13 = .ok (.iload 4, 2) := by decide +kernel
theorem dX7_votes_15 : decode cX7_votes 15 = .ok (.aload_n 0, 1) := by decide +kernel
theorem dX7_votes_16 : decode cX7_votes 16 = .ok (.getfield 7, 3) := by decide +kernel
theorem dX7_votes_19 : decode cX7_votes 19 = .ok (.iload_n 1, 1) := by decide +kernel
theorem dX7_votes_20 : decode cX7_votes 20 = .ok (.iload 5, 2) := by decide +kernel
theorem dX7_votes_22 : decode cX7_votes 22 = .ok (.iadd, 1) := by decide +kernel
theorem dX7_votes_23 : decode cX7_votes 23 = .ok (.iaload, 1) := by decide +kernel
theorem dX7_votes_24 : decode cX7_votes 24 = .ok (.iload_n 2, 1) := by decide +kernel
theorem dX7_votes_25 : decode cX7_votes 25 = .ok (.if_icmp .ne 17, 3) := by decide +kernel
theorem dX7_votes_28 : decode cX7_votes 28 = .ok (.aload_n 0, 1) := by decide +kernel
theorem dX7_votes_29 : decode cX7_votes 29 = .ok (.getfield 7, 3) := by decide +kernel
theorem dX7_votes_32 : decode cX7_votes 32 = .ok (.iconst 2, 1) := by decide +kernel
theorem dX7_votes_33 : decode cX7_votes 33 = .ok (.iload 5, 2) := by decide +kernel
theorem dX7_votes_35 : decode cX7_votes 35 = .ok (.imul, 1) := by decide +kernel
theorem dX7_votes_36 : decode cX7_votes 36 = .ok (.iload_n 3, 1) := by decide +kernel
theorem dX7_votes_37 : decode cX7_votes 37 = .ok (.iadd, 1) := by decide +kernel
theorem dX7_votes_38 : decode cX7_votes 38 = .ok (.iaload, 1) := by decide +kernel
theorem dX7_votes_39 : decode cX7_votes 39 = .ok (.goto 4, 3) := by decide +kernel
theorem dX7_votes_42 : decode cX7_votes 42 = .ok (.iconst 0, 1) := by decide +kernel
theorem dX7_votes_43 : decode cX7_votes 43 = .ok (.iadd, 1) := by decide +kernel
theorem dX7_votes_44 : decode cX7_votes 44 = .ok (.istore 4, 2) := by decide +kernel
theorem dX7_votes_46 : decode cX7_votes 46 = .ok (.iinc 5 1, 3) := by decide +kernel
theorem dX7_votes_49 : decode cX7_votes 49 = .ok (.goto (-43), 3) := by decide +kernel
theorem dX7_votes_52 : decode cX7_votes 52 = .ok (.iload 4, 2) := by decide +kernel
theorem dX7_votes_54 : decode cX7_votes 54 = .ok (.ireturn, 1) := by decide +kernel
theorem dX7_margin_0 : decode cX7_margin 0 = .ok (.aload_n 0, 1) := by decide +kernel
theorem dX7_margin_1 : decode cX7_margin 1 = .ok (.iload_n 1, 1) := by decide +kernel
theorem dX7_margin_2 : decode cX7_margin 2 = .ok (.iload_n 2, 1) := by decide +kernel
theorem dX7_margin_3 : decode cX7_margin 3 = .ok (.iconst 0, 1) := by decide +kernel
theorem dX7_margin_4 : decode cX7_margin 4 = .ok (.invokevirtual 59, 3) := by decide +kernel
theorem dX7_margin_7 : decode cX7_margin 7 = .ok (.aload_n 0, 1) := by decide +kernel
theorem dX7_margin_8 : decode cX7_margin 8 = .ok (.iload_n 1, 1) := by decide +kernel
theorem dX7_margin_9 : decode cX7_margin 9 = .ok (.iload_n 2, 1) := by decide +kernel
theorem dX7_margin_10 : decode cX7_margin 10 = .ok (.iconst 1, 1) := by decide +kernel
theorem dX7_margin_11 : decode cX7_margin 11 = .ok (.invokevirtual 59, 3) := by decide +kernel
theorem dX7_margin_14 : decode cX7_margin 14 = .ok (.isub, 1) := by decide +kernel
theorem dX7_margin_15 : decode cX7_margin 15 = .ok (.ireturn, 1) := by decide +kernel
theorem dX7_winner_0 : decode cX7_winner 0 = .ok (.aload_n 0, 1) := by decide +kernel
theorem dX7_winner_1 : decode cX7_winner 1 = .ok (.iload_n 1, 1) := by decide +kernel
theorem dX7_winner_2 : decode cX7_winner 2 = .ok (.iload_n 2, 1) := by decide +kernel
theorem dX7_winner_3 : decode cX7_winner 3 = .ok (.invokevirtual 63, 3) := by decide +kernel
theorem dX7_winner_6 : decode cX7_winner 6 = .ok (.istore_n 3, 1) := by decide +kernel
theorem dX7_winner_7 : decode cX7_winner 7 = .ok (.iload_n 3, 1) := by decide +kernel
theorem dX7_winner_8 : decode cX7_winner 8 = .ok (.ifCond .le 7, 3) := by decide +kernel
theorem dX7_winner_11 : decode cX7_winner 11 = .ok (.iconst 0, 1) := by decide +kernel
theorem dX7_winner_12 : decode cX7_winner 12 = .ok (.goto 12, 3) := by decide +kernel
theorem dX7_winner_15 : decode cX7_winner 15 = .ok (.iload_n 3, 1) := by decide +kernel
theorem dX7_winner_16 : decode cX7_winner 16 = .ok (.ifCond .ge 7, 3) := by decide +kernel
theorem dX7_winner_19 : decode cX7_winner 19 = .ok (.iconst 1, 1) := by decide +kernel
theorem dX7_winner_20 : decode cX7_winner 20 = .ok (.goto 4, 3) := by decide +kernel
theorem dX7_winner_23 : decode cX7_winner 23 = .ok (.iconst 2, 1) := by decide +kernel
theorem dX7_winner_24 : decode cX7_winner 24 = .ok (.ireturn, 1) := by decide +kernel
theorem dX7_borders_0 : decode cX7_borders 0 = .ok (.iconst 0, 1) := by decide +kernel
theorem dX7_borders_1 : decode cX7_borders 1 = .ok (.istore_n 3, 1) := by decide +kernel
theorem dX7_borders_2 : decode cX7_borders 2 = .ok (.iconst 0, 1) := by decide +kernel
theorem dX7_borders_3 : decode cX7_borders 3 = .ok (.istore 4, 2) := by decide +kernel
theorem dX7_borders_5 : decode cX7_borders 5 = .ok (.iload 4, 2) := by decide +kernel
theorem dX7_borders_7 : decode cX7_borders 7 = .ok (.bipush 36, 2) := by decide +kernel
theorem dX7_borders_9 : decode cX7_borders 9 = .ok (.if_icmp .ge 72, 3) := by decide +kernel
theorem dX7_borders_12 : decode cX7_borders 12 = .ok (.aload_n 0, 1) := by decide +kernel
theorem dX7_borders_13 : decode cX7_borders 13 = .ok (.getfield 7, 3) := by decide +kernel
theorem dX7_borders_16 : decode cX7_borders 16 = .ok (.iload_n 1, 1) := by decide +kernel
theorem dX7_borders_17 : decode cX7_borders 17 = .ok (.iload 4, 2) := by decide +kernel
theorem dX7_borders_19 : decode cX7_borders 19 = .ok (.iadd, 1) := by decide +kernel
theorem dX7_borders_20 : decode cX7_borders 20 = .ok (.iaload, 1) := by decide +kernel
theorem dX7_borders_21 : decode cX7_borders 21 = .ok (.iload_n 2, 1) := by decide +kernel
theorem dX7_borders_22 : decode cX7_borders 22 = .ok (.if_icmp .ne 53, 3) := by decide +kernel
theorem dX7_borders_25 : decode cX7_borders 25 = .ok (.iconst 0, 1) := by decide +kernel
theorem dX7_borders_26 : decode cX7_borders 26 = .ok (.istore 5, 2) := by decide +kernel
theorem dX7_borders_28 : decode cX7_borders 28 = .ok (.iload 5, 2) := by decide +kernel
theorem dX7_borders_30 : decode cX7_borders 30 = .ok (.iconst 4, 1) := by decide +kernel
theorem dX7_borders_31 : decode cX7_borders 31 = .ok (.if_icmp .ge 44, 3) := by decide +kernel
theorem dX7_borders_34 : decode cX7_borders 34 = .ok (.iload 4, 2) := by decide +kernel
theorem dX7_borders_36 : decode cX7_borders 36 = .ok (.iload 5, 2) := by decide +kernel
theorem dX7_borders_38 : decode cX7_borders 38 = .ok (.invokestatic 67, 3) := by decide +kernel
theorem dX7_borders_41 : decode cX7_borders 41 = .ok (.istore 6, 2) := by decide +kernel
theorem dX7_borders_43 : decode cX7_borders 43 = .ok (.iload_n 3, 1) := by decide +kernel
theorem dX7_borders_44 : decode cX7_borders 44 = .ok (.iload 6, 2) := by decide +kernel
theorem dX7_borders_46 : decode cX7_borders 46 = .ok (.ifCond .lt 16, 3) := by decide +kernel
theorem dX7_borders_49 : decode cX7_borders 49 = .ok (.aload_n 0, 1) := by decide +kernel
theorem dX7_borders_50 : decode cX7_borders 50 = .ok (.getfield 7, 3) := by decide +kernel
theorem dX7_borders_53 : decode cX7_borders 53 = .ok (.iload_n 1, 1) := by decide +kernel
theorem dX7_borders_54 : decode cX7_borders 54 = .ok (.iload 6, 2) := by decide +kernel
theorem dX7_borders_56 : decode cX7_borders 56 = .ok (.iadd, 1) := by decide +kernel
theorem dX7_borders_57 : decode cX7_borders 57 = .ok (.iaload, 1) := by decide +kernel
theorem dX7_borders_58 : decode cX7_borders 58 = .ok (.iload_n 2, 1) := by decide +kernel
theorem dX7_borders_59 : decode cX7_borders 59 = .ok (.if_icmp .eq 7, 3) := by decide +kernel
theorem dX7_borders_62 : decode cX7_borders 62 = .ok (.iconst 1, 1) := by decide +kernel
theorem dX7_borders_63 : decode cX7_borders 63 = .ok (.goto 4, 3) := by decide +kernel
theorem dX7_borders_66 : decode cX7_borders 66 = .ok (.iconst 0, 1) := by decide +kernel
theorem dX7_borders_67 : decode cX7_borders 67 = .ok (.iadd, 1) := by decide +kernel
theorem dX7_borders_68 : decode cX7_borders 68 = .ok (.istore_n 3, 1) := by decide +kernel
theorem dX7_borders_69 : decode cX7_borders 69 = .ok (.iinc 5 1, 3) := by decide +kernel
theorem dX7_borders_72 : decode cX7_borders 72 = .ok (.goto (-44), 3) := by decide +kernel
theorem dX7_borders_75 : decode cX7_borders 75 = .ok (.iinc 4 1, 3) := by decide +kernel
theorem dX7_borders_78 : decode cX7_borders 78 = .ok (.goto (-73), 3) := by decide +kernel
theorem dX7_borders_81 : decode cX7_borders 81 = .ok (.iload_n 3, 1) := by decide +kernel
theorem dX7_borders_82 : decode cX7_borders 82 = .ok (.ireturn, 1) := by decide +kernel
theorem dX7_pieces_0 : decode cX7_pieces 0 = .ok (.iconst 0, 1) := by decide +kernel
theorem dX7_pieces_1 : decode cX7_pieces 1 = .ok (.istore_n 2, 1) := by decide +kernel
theorem dX7_pieces_2 : decode cX7_pieces 2 = .ok (.iload_n 2, 1) := by decide +kernel
theorem dX7_pieces_3 : decode cX7_pieces 3 = .ok (.bipush 36, 2) := by decide +kernel
theorem dX7_pieces_5 : decode cX7_pieces 5 = .ok (.if_icmp .ge 16, 3) := by decide +kernel
theorem dX7_pieces_8 : decode cX7_pieces 8 = .ok (.aload_n 0, 1) := by decide +kernel
theorem dX7_pieces_9 : decode cX7_pieces 9 = .ok (.getfield 29, 3) := by decide +kernel
theorem dX7_pieces_12 : decode cX7_pieces 12 = .ok (.iload_n 2, 1) := by decide +kernel
theorem dX7_pieces_13 : decode cX7_pieces 13 = .ok (.iconst 0, 1) := by decide +kernel
theorem dX7_pieces_14 : decode cX7_pieces 14 = .ok (.bastore, 1) := by decide +kernel
theorem dX7_pieces_15 : decode cX7_pieces 15 = .ok (.iinc 2 1, 3) := by decide +kernel
theorem dX7_pieces_18 : decode cX7_pieces 18 = .ok (.goto (-16), 3) := by decide +kernel
theorem dX7_pieces_21 : decode cX7_pieces 21 = .ok (.iconst 0, 1) := by decide +kernel
theorem dX7_pieces_22 : decode cX7_pieces 22 = .ok (.istore_n 2, 1) := by decide +kernel
theorem dX7_pieces_23 : decode cX7_pieces 23 = .ok (.iconst 0, 1) := by decide +kernel
theorem dX7_pieces_24 : decode cX7_pieces 24 = .ok (.istore_n 3, 1) := by decide +kernel
theorem dX7_pieces_25 : decode cX7_pieces 25 = .ok (.iload_n 3, 1) := by decide +kernel
theorem dX7_pieces_26 : decode cX7_pieces 26 = .ok (.bipush 36, 2) := by decide +kernel
theorem dX7_pieces_28 : decode cX7_pieces 28 = .ok (.if_icmp .ge 46, 3) := by decide +kernel
theorem dX7_pieces_31 : decode cX7_pieces 31 = .ok (.aload_n 0, 1) := by decide +kernel
theorem dX7_pieces_32 : decode cX7_pieces 32 = .ok (.getfield 7, 3) := by decide +kernel
theorem dX7_pieces_35 : decode cX7_pieces 35 = .ok (.bipush 79, 2) := by decide +kernel
theorem dX7_pieces_37 : decode cX7_pieces 37 = .ok (.iload_n 3, 1) := by decide +kernel
theorem dX7_pieces_38 : decode cX7_pieces 38 = .ok (.iadd, 1) := by decide +kernel
theorem dX7_pieces_39 : decode cX7_pieces 39 = .ok (.iaload, 1) := by decide +kernel
theorem dX7_pieces_40 : decode cX7_pieces 40 = .ok (.iload_n 1, 1) := by decide +kernel
theorem dX7_pieces_41 : decode cX7_pieces 41 = .ok (.if_icmp .ne 27, 3) := by decide +kernel
theorem dX7_pieces_44 : decode cX7_pieces 44 = .ok (.aload_n 0, 1) := by decide +kernel
theorem dX7_pieces_45 : decode cX7_pieces 45 = .ok (.getfield 29, 3) := by decide +kernel
theorem dX7_pieces_48 : decode cX7_pieces 48 = .ok (.iload_n 3, 1) := by decide +kernel
theorem dX7_pieces_49 : decode cX7_pieces 49 = .ok (.baload, 1) := by decide +kernel
theorem dX7_pieces_50 : decode cX7_pieces 50 = .ok (.ifCond .ne 18, 3) := by decide +kernel
theorem dX7_pieces_53 : decode cX7_pieces 53 = .ok (.iinc 2 1, 3) := by decide +kernel
theorem dX7_pieces_56 : decode cX7_pieces 56 = .ok (.aload_n 0, 1) := by decide +kernel
theorem dX7_pieces_57 : decode cX7_pieces 57 = .ok (.getfield 29, 3) := by decide +kernel
theorem dX7_pieces_60 : decode cX7_pieces 60 = .ok (.iload_n 3, 1) := by decide +kernel
theorem dX7_pieces_61 : decode cX7_pieces 61 = .ok (.iconst 1, 1) := by decide +kernel
theorem dX7_pieces_62 : decode cX7_pieces 62 = .ok (.bastore, 1) := by decide +kernel
theorem dX7_pieces_63 : decode cX7_pieces 63 = .ok (.aload_n 0, 1) := by decide +kernel
theorem dX7_pieces_64 : decode cX7_pieces 64 = .ok (.iload_n 1, 1) := by decide +kernel
theorem dX7_pieces_65 : decode cX7_pieces 65 = .ok (.invokevirtual 70, 3) := by decide +kernel
theorem dX7_pieces_68 : decode cX7_pieces 68 = .ok (.iinc 3 1, 3) := by decide +kernel
theorem dX7_pieces_71 : decode cX7_pieces 71 = .ok (.goto (-46), 3) := by decide +kernel
theorem dX7_pieces_74 : decode cX7_pieces 74 = .ok (.iload_n 2, 1) := by decide +kernel
theorem dX7_pieces_75 : decode cX7_pieces 75 = .ok (.ireturn, 1) := by decide +kernel
theorem dX7_spread_0 : decode cX7_spread 0 = .ok (.iconst 1, 1) := by decide +kernel
theorem dX7_spread_1 : decode cX7_spread 1 = .ok (.istore_n 2, 1) := by decide +kernel
theorem dX7_spread_2 : decode cX7_spread 2 = .ok (.iload_n 2, 1) := by decide +kernel
theorem dX7_spread_3 : decode cX7_spread 3 = .ok (.ifCond .eq 106, 3) := by decide +kernel
theorem dX7_spread_6 : decode cX7_spread 6 = .ok (.iconst 0, 1) := by decide +kernel
theorem dX7_spread_7 : decode cX7_spread 7 = .ok (.istore_n 2, 1) := by decide +kernel
theorem dX7_spread_8 : decode cX7_spread 8 = .ok (.iconst 0, 1) := by decide +kernel
theorem dX7_spread_9 : decode cX7_spread 9 = .ok (.istore_n 3, 1) := by decide +kernel
theorem dX7_spread_10 : decode cX7_spread 10 = .ok (.iload_n 3, 1) := by decide +kernel
theorem dX7_spread_11 : decode cX7_spread 11 = .ok (.bipush 36, 2) := by decide +kernel
theorem dX7_spread_13 : decode cX7_spread 13 = .ok (.if_icmp .ge 93, 3) := by decide +kernel
theorem dX7_spread_16 : decode cX7_spread 16 = .ok (.iconst 0, 1) := by decide +kernel
theorem dX7_spread_17 : decode cX7_spread 17 = .ok (.istore 4, 2) := by decide +kernel
theorem dX7_spread_19 : decode cX7_spread 19 = .ok (.iload 4, 2) := by decide +kernel
theorem dX7_spread_21 : decode cX7_spread 21 = .ok (.iconst 4, 1) := by decide +kernel
theorem dX7_spread_22 : decode cX7_spread 22 = .ok (.if_icmp .ge 78, 3) := by decide +kernel
theorem dX7_spread_25 : decode cX7_spread 25 = .ok (.aload_n 0, 1) := by decide +kernel
theorem dX7_spread_26 : decode cX7_spread 26 = .ok (.getfield 29, 3) := by decide +kernel
theorem dX7_spread_29 : decode cX7_spread 29 = .ok (.iload_n 3, 1) := by decide +kernel
theorem dX7_spread_30 : decode cX7_spread 30 = .ok (.baload, 1) := by decide +kernel
theorem dX7_spread_31 : decode cX7_spread 31 = .ok (.ifCond .eq 69, 3) := by decide +kernel
theorem dX7_spread_34 : decode cX7_spread 34 = .ok (.iload_n 3, 1) := by decide +kernel
theorem dX7_spread_35 : decode cX7_spread 35 = .ok (.iload 4, 2) := by decide +kernel
theorem dX7_spread_37 : decode cX7_spread 37 = .ok (.invokestatic 67, 3) := by decide +kernel
theorem dX7_spread_40 : decode cX7_spread 40 = .ok (.istore 5, 2) := by decide +kernel
theorem dX7_spread_42 : decode cX7_spread 42 = .ok (.iload 5, 2) := by decide +kernel
theorem dX7_spread_44 : decode cX7_spread 44 = .ok (.ifCond .lt 50, 3) := by decide +kernel
theorem dX7_spread_47 : decode cX7_spread 47 = .ok (.aload_n 0, 1) := by decide +kernel
theorem dX7_spread_48 : decode cX7_spread 48 = .ok (.getfield 7, 3) := by decide +kernel
theorem dX7_spread_51 : decode cX7_spread 51 = .ok (.bipush 79, 2) := by decide +kernel
theorem dX7_spread_53 : decode cX7_spread 53 = .ok (.iload 5, 2) := by decide +kernel
theorem dX7_spread_55 : decode cX7_spread 55 = .ok (.iadd, 1) := by decide +kernel
theorem dX7_spread_56 : decode cX7_spread 56 = .ok (.iaload, 1) := by decide +kernel
theorem dX7_spread_57 : decode cX7_spread 57 = .ok (.iload_n 1, 1) := by decide +kernel
theorem dX7_spread_58 : decode cX7_spread 58 = .ok (.if_icmp .ne 36, 3) := by decide +kernel
theorem dX7_spread_61 : decode cX7_spread 61 = .ok (.aload_n 0, 1) := by decide +kernel
theorem dX7_spread_62 : decode cX7_spread 62 = .ok (.getfield 7, 3) := by decide +kernel
theorem dX7_spread_65 : decode cX7_spread 65 = .ok (.bipush 79, 2) := by decide +kernel
theorem dX7_spread_67 : decode cX7_spread 67 = .ok (.iload_n 3, 1) := by decide +kernel
theorem dX7_spread_68 : decode cX7_spread 68 = .ok (.iadd, 1) := by decide +kernel
theorem dX7_spread_69 : decode cX7_spread 69 = .ok (.iaload, 1) := by decide +kernel
theorem dX7_spread_70 : decode cX7_spread 70 = .ok (.iload_n 1, 1) := by decide +kernel
theorem dX7_spread_71 : decode cX7_spread 71 = .ok (.if_icmp .ne 23, 3) := by decide +kernel
theorem dX7_spread_74 : decode cX7_spread 74 = .ok (.aload_n 0, 1) := by decide +kernel
theorem dX7_spread_75 : decode cX7_spread 75 = .ok (.getfield 29, 3) := by decide +kernel
theorem dX7_spread_78 : decode cX7_spread 78 = .ok (.iload 5, 2) := by decide +kernel
theorem dX7_spread_80 : decode cX7_spread 80 = .ok (.baload, 1) := by decide +kernel
theorem dX7_spread_81 : decode cX7_spread 81 = .ok (.ifCond .ne 13, 3) := by decide +kernel
theorem dX7_spread_84 : decode cX7_spread 84 = .ok (.aload_n 0, 1) := by decide +kernel
theorem dX7_spread_85 : decode cX7_spread 85 = .ok (.getfield 29, 3) := by decide +kernel
theorem dX7_spread_88 : decode cX7_spread 88 = .ok (.iload 5, 2) := by decide +kernel
theorem dX7_spread_90 : decode cX7_spread 90 = .ok (.iconst 1, 1) := by decide +kernel
theorem dX7_spread_91 : decode cX7_spread 91 = .ok (.bastore, 1) := by decide +kernel
theorem dX7_spread_92 : decode cX7_spread 92 = .ok (.iconst 1, 1) := by decide +kernel
theorem dX7_spread_93 : decode cX7_spread 93 = .ok (.istore_n 2, 1) := by decide +kernel
theorem dX7_spread_94 : decode cX7_spread 94 = .ok (.iinc 4 1, 3) := by decide +kernel
theorem dX7_spread_97 : decode cX7_spread 97 = .ok (.goto (-78), 3) := by decide +kernel
theorem dX7_spread_100 : decode cX7_spread 100 = .ok (.iinc 3 1, 3) := by decide +kernel
theorem dX7_spread_103 : decode cX7_spread 103 = .ok (.goto (-93), 3) := by decide +kernel
theorem dX7_spread_106 : decode cX7_spread 106 = .ok (.goto (-104), 3) := by decide +kernel
theorem dX7_spread_109 : decode cX7_spread 109 = .ok (.return_, 1) := by decide +kernel
theorem dX7_reason_0 : decode cX7_reason 0 = .ok (.iconst 0, 1) := by decide +kernel
theorem dX7_reason_1 : decode cX7_reason 1 = .ok (.istore_n 1, 1) := by decide +kernel
theorem dX7_reason_2 : decode cX7_reason 2 = .ok (.iload_n 1, 1) := by decide +kernel
theorem dX7_reason_3 : decode cX7_reason 3 = .ok (.bipush 36, 2) := by decide +kernel
theorem dX7_reason_5 : decode cX7_reason 5 = .ok (.if_icmp .ge 36, 3) := by decide +kernel
theorem dX7_reason_8 : decode cX7_reason 8 = .ok (.aload_n 0, 1) := by decide +kernel
theorem dX7_reason_9 : decode cX7_reason 9 = .ok (.iload_n 1, 1) := by decide +kernel
theorem dX7_reason_10 : decode cX7_reason 10 = .ok (.invokevirtual 74, 3) := by decide +kernel
theorem dX7_reason_13 : decode cX7_reason 13 = .ok (.ifCond .eq 22, 3) := by decide +kernel
theorem dX7_reason_16 : decode cX7_reason 16 = .ok (.aload_n 0, 1) := by decide +kernel
theorem dX7_reason_17 : decode cX7_reason 17 = .ok (.getfield 7, 3) := by decide +kernel
theorem dX7_reason_20 : decode cX7_reason 20 = .ok (.bipush 79, 2) := by decide +kernel
theorem dX7_reason_22 : decode cX7_reason 22 = .ok (.iload_n 1, 1) := by decide +kernel
theorem dX7_reason_23 : decode cX7_reason 23 = .ok (.iadd, 1) := by decide +kernel
theorem dX7_reason_24 : decode cX7_reason 24 = .ok (.iaload, 1) := by decide +kernel
theorem dX7_reason_25 : decode cX7_reason 25 = .ok (.ifCond .ge 10, 3) := by decide +kernel
theorem dX7_reason_28 : decode cX7_reason 28 = .ok (.bipush 10, 2) := by decide +kernel
theorem dX7_reason_30 : decode cX7_reason 30 = .ok (.iload_n 1, 1) := by decide +kernel
theorem dX7_reason_31 : decode cX7_reason 31 = .ok (.imul, 1) := by decide +kernel
theorem dX7_reason_32 : decode cX7_reason 32 = .ok (.iconst 1, 1) := by decide +kernel
theorem dX7_reason_33 : decode cX7_reason 33 = .ok (.iadd, 1) := by decide +kernel
theorem dX7_reason_34 : decode cX7_reason 34 = .ok (.ireturn, 1) := by decide +kernel
theorem dX7_reason_35 : decode cX7_reason 35 = .ok (.iinc 1 1, 3) := by decide +kernel
theorem dX7_reason_38 : decode cX7_reason 38 = .ok (.goto (-36), 3) := by decide +kernel
theorem dX7_reason_41 : decode cX7_reason 41 = .ok (.iconst 0, 1) := by decide +kernel
theorem dX7_reason_42 : decode cX7_reason 42 = .ok (.istore_n 1, 1) := by decide +kernel
theorem dX7_reason_43 : decode cX7_reason 43 = .ok (.iload_n 1, 1) := by decide +kernel
theorem dX7_reason_44 : decode cX7_reason 44 = .ok (.aload_n 0, 1) := by decide +kernel
theorem dX7_reason_45 : decode cX7_reason 45 = .ok (.invokevirtual 77, 3) := by decide +kernel
theorem dX7_reason_48 : decode cX7_reason 48 = .ok (.if_icmp .ge 30, 3) := by decide +kernel
theorem dX7_reason_51 : decode cX7_reason 51 = .ok (.aload_n 0, 1) := by decide +kernel
theorem dX7_reason_52 : decode cX7_reason 52 = .ok (.bipush 79, 2) := by decide +kernel
theorem dX7_reason_54 : decode cX7_reason 54 = .ok (.iload_n 1, 1) := by decide +kernel
theorem dX7_reason_55 : decode cX7_reason 55 = .ok (.invokevirtual 80, 3) := by decide +kernel
theorem dX7_reason_58 : decode cX7_reason 58 = .ok (.aload_n 0, 1) := by decide +kernel
theorem dX7_reason_59 : decode cX7_reason 59 = .ok (.invokevirtual 55, 3) := by decide +kernel
theorem dX7_reason_62 : decode cX7_reason 62 = .ok (.if_icmp .eq 10, 3) := by decide +kernel
theorem dX7_reason_65 : decode cX7_reason 65 = .ok (.bipush 10, 2) := by decide +kernel
theorem dX7_reason_67 : decode cX7_reason 67 = .ok (.iload_n 1, 1) := by decide +kernel
theorem dX7_reason_68 : decode cX7_reason 68 = .ok (.imul, 1) := by decide +kernel
theorem dX7_reason_69 : decode cX7_reason 69 = .ok (.iconst 2, 1) := by decide +kernel
theorem dX7_reason_70 : decode cX7_reason 70 = .ok (.iadd, 1) := by decide +kernel
theorem dX7_reason_71 : decode cX7_reason 71 = .ok (.ireturn, 1) := by decide +kernel
theorem dX7_reason_72 : decode cX7_reason 72 = .ok (.iinc 1 1, 3) := by decide +kernel
theorem dX7_reason_75 : decode cX7_reason 75 = .ok (.goto (-32), 3) := by decide +kernel
theorem dX7_reason_78 : decode cX7_reason 78 = .ok (.iconst 0, 1) := by decide +kernel
theorem dX7_reason_79 : decode cX7_reason 79 = .ok (.istore_n 1, 1) := by decide +kernel
theorem dX7_reason_80 : decode cX7_reason 80 = .ok (.iload_n 1, 1) := by decide +kernel
theorem dX7_reason_81 : decode cX7_reason 81 = .ok (.aload_n 0, 1) := by decide +kernel
theorem dX7_reason_82 : decode cX7_reason 82 = .ok (.invokevirtual 77, 3) := by decide +kernel
theorem dX7_reason_85 : decode cX7_reason 85 = .ok (.if_icmp .ge 25, 3) := by decide +kernel
theorem dX7_reason_88 : decode cX7_reason 88 = .ok (.aload_n 0, 1) := by decide +kernel
theorem dX7_reason_89 : decode cX7_reason 89 = .ok (.iload_n 1, 1) := by decide +kernel
theorem dX7_reason_90 : decode cX7_reason 90 = .ok (.invokevirtual 83, 3) := by decide +kernel
theorem dX7_reason_93 : decode cX7_reason 93 = .ok (.iconst 1, 1) := by decide +kernel
theorem dX7_reason_94 : decode cX7_reason 94 = .ok (.if_icmp .eq 10, 3) := by decide +kernel
theorem dX7_reason_97 : decode cX7_reason 97 = .ok (.bipush 10, 2) := by decide +kernel
theorem dX7_reason_99 : decode cX7_reason 99 = .ok (.iload_n 1, 1) := by decide +kernel
theorem dX7_reason_100 : decode cX7_reason 100 = .ok (.imul, 1) := by decide +kernel
theorem dX7_reason_101 : decode cX7_reason 101 = .ok (.iconst 3, 1) := by decide +kernel
theorem dX7_reason_102 : decode cX7_reason 102 = .ok (.iadd, 1) := by decide +kernel
theorem dX7_reason_103 : decode cX7_reason 103 = .ok (.ireturn, 1) := by decide +kernel
theorem dX7_reason_104 : decode cX7_reason 104 = .ok (.iinc 1 1, 3) := by decide +kernel
theorem dX7_reason_107 : decode cX7_reason 107 = .ok (.goto (-27), 3) := by decide +kernel
theorem dX7_reason_110 : decode cX7_reason 110 = .ok (.iconst 0, 1) := by decide +kernel
theorem dX7_reason_111 : decode cX7_reason 111 = .ok (.ireturn, 1) := by decide +kernel
theorem dX7_noDraft_0 : decode cX7_noDraft 0 = .ok (.aload_n 0, 1) := by decide +kernel
theorem dX7_noDraft_1 : decode cX7_noDraft 1 = .ok (.getfield 7, 3) := by decide +kernel
theorem dX7_noDraft_4 : decode cX7_noDraft 4 = .ok (.bipush 75, 2) := by decide +kernel
theorem dX7_noDraft_6 : decode cX7_noDraft 6 = .ok (.iaload, 1) := by decide +kernel
theorem dX7_noDraft_7 : decode cX7_noDraft 7 = .ok (.ifCond .eq 7, 3) := by decide +kernel
theorem dX7_noDraft_10 : decode cX7_noDraft 10 = .ok (.iconst 1, 1) := by decide +kernel
theorem dX7_noDraft_11 : decode cX7_noDraft 11 = .ok (.goto 4, 3) := by decide +kernel
theorem dX7_noDraft_14 : decode cX7_noDraft 14 = .ok (.iconst 0, 1) := by decide +kernel
theorem dX7_noDraft_15 : decode cX7_noDraft 15 = .ok (.ireturn, 1) := by decide +kernel
theorem dX7_draft_0 : decode cX7_draft 0 = .ok (.iload_n 1, 1) := by decide +kernel
theorem dX7_draft_1 : decode cX7_draft 1 = .ok (.invokestatic 51, 3) := by decide +kernel
theorem dX7_draft_4 : decode cX7_draft 4 = .ok (.ifCond .eq 5, 3) := by decide +kernel
theorem dX7_draft_7 : decode cX7_draft 7 = .ok (.iconst (-1), 1) := by decide +kernel
theorem dX7_draft_8 : decode cX7_draft 8 = .ok (.ireturn, 1) := by decide +kernel
theorem dX7_draft_9 : decode cX7_draft 9 = .ok (.aload_n 0, 1) := by decide +kernel
theorem dX7_draft_10 : decode cX7_draft 10 = .ok (.iload_n 1, 1) := by decide +kernel
theorem dX7_draft_11 : decode cX7_draft 11 = .ok (.invokevirtual 74, 3) := by decide +kernel
theorem dX7_draft_14 : decode cX7_draft 14 = .ok (.ifCond .eq 10, 3) := by decide +kernel
theorem dX7_draft_17 : decode cX7_draft 17 = .ok (.aload_n 0, 1) := by decide +kernel
theorem dX7_draft_18 : decode cX7_draft 18 = .ok (.invokevirtual 87, 3) := by decide +kernel
theorem dX7_draft_21 : decode cX7_draft 21 = .ok (.ifCond .eq 6, 3) := by decide +kernel
theorem dX7_draft_24 : decode cX7_draft 24 = .ok (.bipush (-4), 2) := by decide +kernel
theorem dX7_draft_26 : decode cX7_draft 26 = .ok (.ireturn, 1) := by decide +kernel
theorem dX7_draft_27 : decode cX7_draft 27 = .ok (.iload_n 2, 1) := by decide +kernel
theorem dX7_draft_28 : decode cX7_draft 28 = .ok (.iconst (-1), 1) := by decide +kernel
theorem dX7_draft_29 : decode cX7_draft 29 = .ok (.aload_n 0, 1) := by decide +kernel
theorem dX7_draft_30 : decode cX7_draft 30 = .ok (.invokevirtual 77, 3) := by decide +kernel
theorem dX7_draft_33 : decode cX7_draft 33 = .ok (.iconst 1, 1) := by decide +kernel
theorem dX7_draft_34 : decode cX7_draft 34 = .ok (.isub, 1) := by decide +kernel
theorem dX7_draft_35 : decode cX7_draft 35 = .ok (.invokestatic 36, 3) := by decide +kernel
theorem dX7_draft_38 : decode cX7_draft 38 = .ok (.ifCond .ne 6, 3) := by decide +kernel
theorem dX7_draft_41 : decode cX7_draft 41 = .ok (.bipush (-2), 2) := by decide +kernel
theorem dX7_draft_43 : decode cX7_draft 43 = .ok (.ireturn, 1) := by decide +kernel
theorem dX7_draft_44 : decode cX7_draft 44 = .ok (.aload_n 0, 1) := by decide +kernel
theorem dX7_draft_45 : decode cX7_draft 45 = .ok (.getfield 7, 3) := by decide +kernel
theorem dX7_draft_48 : decode cX7_draft 48 = .ok (.bipush 79, 2) := by decide +kernel
theorem dX7_draft_50 : decode cX7_draft 50 = .ok (.iload_n 1, 1) := by decide +kernel
theorem dX7_draft_51 : decode cX7_draft 51 = .ok (.iadd, 1) := by decide +kernel
theorem dX7_draft_52 : decode cX7_draft 52 = .ok (.iaload, 1) := by decide +kernel
theorem dX7_draft_53 : decode cX7_draft 53 = .ok (.istore_n 3, 1) := by decide +kernel
theorem dX7_draft_54 : decode cX7_draft 54 = .ok (.iload_n 3, 1) := by decide +kernel
theorem dX7_draft_55 : decode cX7_draft 55 = .ok (.iload_n 2, 1) := by decide +kernel
theorem dX7_draft_56 : decode cX7_draft 56 = .ok (.if_icmp .ne 6, 3) := by decide +kernel
theorem dX7_draft_59 : decode cX7_draft 59 = .ok (.bipush (-5), 2) := by decide +kernel
theorem dX7_draft_61 : decode cX7_draft 61 = .ok (.ireturn, 1) := by decide +kernel
theorem dX7_draft_62 : decode cX7_draft 62 = .ok (.aload_n 0, 1) := by decide +kernel
theorem dX7_draft_63 : decode cX7_draft 63 = .ok (.invokevirtual 48, 3) := by decide +kernel
theorem dX7_draft_66 : decode cX7_draft 66 = .ok (.aload_n 0, 1) := by decide +kernel
theorem dX7_draft_67 : decode cX7_draft 67 = .ok (.getfield 7, 3) := by decide +kernel
theorem dX7_draft_70 : decode cX7_draft 70 = .ok (.bipush 79, 2) := by decide +kernel
theorem dX7_draft_72 : decode cX7_draft 72 = .ok (.iload_n 1, 1) := by decide +kernel
theorem dX7_draft_73 : decode cX7_draft 73 = .ok (.iadd, 1) := by decide +kernel
theorem dX7_draft_74 : decode cX7_draft 74 = .ok (.iload_n 2, 1) := by decide +kernel
theorem dX7_draft_75 : decode cX7_draft 75 = .ok (.iastore, 1) := by decide +kernel
theorem dX7_draft_76 : decode cX7_draft 76 = .ok (.iload_n 3, 1) := by decide +kernel
theorem dX7_draft_77 : decode cX7_draft 77 = .ok (.ireturn, 1) := by decide +kernel
theorem dX7_trade_0 : decode cX7_trade 0 = .ok (.iload_n 1, 1) := by decide +kernel
theorem dX7_trade_1 : decode cX7_trade 1 = .ok (.invokestatic 51, 3) := by decide +kernel
theorem dX7_trade_4 : decode cX7_trade 4 = .ok (.ifCond .ne 10, 3) := by decide +kernel
theorem dX7_trade_7 : decode cX7_trade 7 = .ok (.iload_n 2, 1) := by decide +kernel
theorem dX7_trade_8 : decode cX7_trade 8 = .ok (.invokestatic 51, 3) := by decide +kernel
theorem dX7_trade_11 : decode cX7_trade 11 = .ok (.ifCond .eq 5, 3) := by decide +kernel
theorem dX7_trade_14 : decode cX7_trade 14 = .ok (.iconst (-1), 1) := by decide +kernel
theorem dX7_trade_15 : decode cX7_trade 15 = .ok (.ireturn, 1) := by decide +kernel
theorem dX7_trade_16 : decode cX7_trade 16 = .ok (.aload_n 0, 1) := by decide +kernel
theorem dX7_trade_17 : decode cX7_trade 17 = .ok (.getfield 7, 3) := by decide +kernel
theorem dX7_trade_20 : decode cX7_trade 20 = .ok (.bipush 79, 2) := by decide +kernel
theorem dX7_trade_22 : decode cX7_trade 22 = .ok (.iload_n 1, 1) := by decide +kernel
theorem dX7_trade_23 : decode cX7_trade 23 = .ok (.iadd, 1) := by decide +kernel
theorem dX7_trade_24 : decode cX7_trade 24 = .ok (.iaload, 1) := by decide +kernel
theorem dX7_trade_25 : decode cX7_trade 25 = .ok (.istore_n 3, 1) := by decide +kernel
theorem dX7_trade_26 : decode cX7_trade 26 = .ok (.aload_n 0, 1) := by decide +kernel
theorem dX7_trade_27 : decode cX7_trade 27 = .ok (.getfield 7, 3) := by decide +kernel
theorem dX7_trade_30 : decode cX7_trade 30 = .ok (.bipush 79, 2) := by decide +kernel
theorem dX7_trade_32 : decode cX7_trade 32 = .ok (.iload_n 2, 1) := by decide +kernel
theorem dX7_trade_33 : decode cX7_trade 33 = .ok (.iadd, 1) := by decide +kernel
theorem dX7_trade_34 : decode cX7_trade 34 = .ok (.iaload, 1) := by decide +kernel
theorem dX7_trade_35 : decode cX7_trade 35 = .ok (.istore 4, 2) := by decide +kernel
theorem dX7_trade_37 : decode cX7_trade 37 = .ok (.aload_n 0, 1) := by decide +kernel
theorem dX7_trade_38 : decode cX7_trade 38 = .ok (.invokevirtual 87, 3) := by decide +kernel
theorem dX7_trade_41 : decode cX7_trade 41 = .ok (.ifCond .ne 28, 3) := by decide +kernel
theorem dX7_trade_44 : decode cX7_trade 44 = .ok (.aload_n 0, 1) := by decide +kernel
theorem dX7_trade_45 : decode cX7_trade 45 = .ok (.iload_n 1, 1) := by decide +kernel
theorem dX7_trade_46 : decode cX7_trade 46 = .ok (.invokevirtual 74, 3) := by decide +kernel
theorem dX7_trade_49 : decode cX7_trade 49 = .ok (.ifCond .eq 20, 3) := by decide +kernel
theorem dX7_trade_52 : decode cX7_trade 52 = .ok (.aload_n 0, 1) := by decide +kernel
theorem dX7_trade_53 : decode cX7_trade 53 = .ok (.iload_n 2, 1) := by decide +kernel
theorem dX7_trade_54 : decode cX7_trade 54 = .ok (.invokevirtual 74, 3) := by decide +kernel
theorem dX7_trade_57 : decode cX7_trade 57 = .ok (.ifCond .eq 12, 3) := by decide +kernel
theorem dX7_trade_60 : decode cX7_trade 60 = .ok (.iload_n 3, 1) := by decide +kernel
theorem dX7_trade_61 : decode cX7_trade 61 = .ok (.ifCond .lt 8, 3) := by decide +kernel
theorem dX7_trade_64 : decode cX7_trade 64 = .ok (.iload 4, 2) := by decide +kernel
theorem dX7_trade_66 : decode cX7_trade 66 = .ok (.ifCond .ge 6, 3) := by decide +kernel
theorem dX7_trade_69 : decode cX7_trade 69 = .ok (.bipush (-4), 2) := by decide +kernel
theorem dX7_trade_71 : decode cX7_trade 71 = .ok (.ireturn, 1) := by decide +kernel
theorem dX7_trade_72 : decode cX7_trade 72 = .ok (.iload_n 3, 1) := by decide +kernel
theorem dX7_trade_73 : decode cX7_trade 73 = .ok (.iload 4, 2) := by decide +kernel
theorem dX7_trade_75 : decode cX7_trade 75 = .ok (.if_icmp .ne 6, 3) := by decide +kernel
theorem dX7_trade_78 : decode cX7_trade 78 = .ok (.bipush (-5), 2) := by decide +kernel
theorem dX7_trade_80 : decode cX7_trade 80 = .ok (.ireturn, 1) := by decide +kernel
theorem dX7_trade_81 : decode cX7_trade 81 = .ok (.aload_n 0, 1) := by decide +kernel
theorem dX7_trade_82 : decode cX7_trade 82 = .ok (.invokevirtual 48, 3) := by decide +kernel
theorem dX7_trade_85 : decode cX7_trade 85 = .ok (.aload_n 0, 1) := by decide +kernel
theorem dX7_trade_86 : decode cX7_trade 86 = .ok (.getfield 7, 3) := by decide +kernel
theorem dX7_trade_89 : decode cX7_trade 89 = .ok (.bipush 79, 2) := by decide +kernel
theorem dX7_trade_91 : decode cX7_trade 91 = .ok (.iload_n 1, 1) := by decide +kernel
theorem dX7_trade_92 : decode cX7_trade 92 = .ok (.iadd, 1) := by decide +kernel
theorem dX7_trade_93 : decode cX7_trade 93 = .ok (.iload 4, 2) := by decide +kernel
theorem dX7_trade_95 : decode cX7_trade 95 = .ok (.iastore, 1) := by decide +kernel
theorem dX7_trade_96 : decode cX7_trade 96 = .ok (.aload_n 0, 1) := by decide +kernel
theorem dX7_trade_97 : decode cX7_trade 97 = .ok (.getfield 7, 3) := by decide +kernel
theorem dX7_trade_100 : decode cX7_trade 100 = .ok (.bipush 79, 2) := by decide +kernel
theorem dX7_trade_102 : decode cX7_trade 102 = .ok (.iload_n 2, 1) := by decide +kernel
theorem dX7_trade_103 : decode cX7_trade 103 = .ok (.iadd, 1) := by decide +kernel
theorem dX7_trade_104 : decode cX7_trade 104 = .ok (.iload_n 3, 1) := by decide +kernel
theorem dX7_trade_105 : decode cX7_trade 105 = .ok (.iastore, 1) := by decide +kernel
theorem dX7_trade_106 : decode cX7_trade 106 = .ok (.aload_n 0, 1) := by decide +kernel
theorem dX7_trade_107 : decode cX7_trade 107 = .ok (.invokevirtual 91, 3) := by decide +kernel
theorem dX7_trade_110 : decode cX7_trade 110 = .ok (.ifCond .ne 7, 3) := by decide +kernel
theorem dX7_trade_113 : decode cX7_trade 113 = .ok (.iconst 1, 1) := by decide +kernel
theorem dX7_trade_114 : decode cX7_trade 114 = .ok (.goto 4, 3) := by decide +kernel
theorem dX7_trade_117 : decode cX7_trade 117 = .ok (.iconst 0, 1) := by decide +kernel
theorem dX7_trade_118 : decode cX7_trade 118 = .ok (.ireturn, 1) := by decide +kernel
theorem dX7_take_0 : decode cX7_take 0 = .ok (.iconst 1, 1) := by decide +kernel
theorem dX7_take_1 : decode cX7_take 1 = .ok (.istore_n 1, 1) := by decide +kernel
theorem dX7_take_2 : decode cX7_take 2 = .ok (.iconst 0, 1) := by decide +kernel
theorem dX7_take_3 : decode cX7_take 3 = .ok (.istore_n 2, 1) := by decide +kernel
theorem dX7_take_4 : decode cX7_take 4 = .ok (.iload_n 2, 1) := by decide +kernel
theorem dX7_take_5 : decode cX7_take 5 = .ok (.bipush 36, 2) := by decide +kernel
theorem dX7_take_7 : decode cX7_take 7 = .ok (.if_icmp .ge 37, 3) := by decide +kernel
theorem dX7_take_10 : decode cX7_take 10 = .ok (.iload_n 1, 1) := by decide +kernel
theorem dX7_take_11 : decode cX7_take 11 = .ok (.ifCond .eq 25, 3) := by decide +kernel
theorem dX7_take_14 : decode cX7_take 14 = .ok (.aload_n 0, 1) := by decide +kernel
theorem dX7_take_15 : decode cX7_take 15 = .ok (.getfield 7, 3) := by decide +kernel
theorem dX7_take_18 : decode cX7_take 18 = .ok (.bipush 79, 2) := by decide +kernel
theorem dX7_take_20 : decode cX7_take 20 = .ok (.iload_n 2, 1) := by decide +kernel
theorem dX7_take_21 : decode cX7_take 21 = .ok (.iadd, 1) := by decide +kernel
theorem dX7_take_22 : decode cX7_take 22 = .ok (.iaload, 1) := by decide +kernel
theorem dX7_take_23 : decode cX7_take 23 = .ok (.aload_n 0, 1) := by decide +kernel
theorem dX7_take_24 : decode cX7_take 24 = .ok (.getfield 26, 3) := by decide +kernel
theorem dX7_take_27 : decode cX7_take 27 = .ok (.iload_n 2, 1) := by decide +kernel
theorem dX7_take_28 : decode cX7_take 28 = .ok (.iaload, 1) := by decide +kernel
theorem dX7_take_29 : decode cX7_take 29 = .ok (.if_icmp .ne 7, 3) := by decide +kernel
theorem dX7_take_32 : decode cX7_take 32 = .ok (.iconst 1, 1) := by decide +kernel
theorem dX7_take_33 : decode cX7_take 33 = .ok (.goto 4, 3) := by decide +kernel
theorem dX7_take_36 : decode cX7_take 36 = .ok (.iconst 0, 1) := by decide +kernel
theorem dX7_take_37 : decode cX7_take 37 = .ok (.istore_n 1, 1) := by decide +kernel
theorem dX7_take_38 : decode cX7_take 38 = .ok (.iinc 2 1, 3) := by decide +kernel
theorem dX7_take_41 : decode cX7_take 41 = .ok (.goto (-37), 3) := by decide +kernel
theorem dX7_take_44 : decode cX7_take 44 = .ok (.iload_n 1, 1) := by decide +kernel
theorem dX7_take_45 : decode cX7_take 45 = .ok (.ifCond .eq 5, 3) := by decide +kernel
theorem dX7_take_48 : decode cX7_take 48 = .ok (.iconst 0, 1) := by decide +kernel
theorem dX7_take_49 : decode cX7_take 49 = .ok (.ireturn, 1) := by decide +kernel
theorem dX7_take_50 : decode cX7_take 50 = .ok (.aload_n 0, 1) := by decide +kernel
theorem dX7_take_51 : decode cX7_take 51 = .ok (.invokevirtual 48, 3) := by decide +kernel
theorem dX7_take_54 : decode cX7_take 54 = .ok (.iconst 0, 1) := by decide +kernel
theorem dX7_take_55 : decode cX7_take 55 = .ok (.istore_n 2, 1) := by decide +kernel
theorem dX7_take_56 : decode cX7_take 56 = .ok (.iload_n 2, 1) := by decide +kernel
theorem dX7_take_57 : decode cX7_take 57 = .ok (.bipush 36, 2) := by decide +kernel
theorem dX7_take_59 : decode cX7_take 59 = .ok (.if_icmp .ge 24, 3) := by decide +kernel
theorem dX7_take_62 : decode cX7_take 62 = .ok (.aload_n 0, 1) := by decide +kernel
theorem dX7_take_63 : decode cX7_take 63 = .ok (.getfield 7, 3) := by decide +kernel
theorem dX7_take_66 : decode cX7_take 66 = .ok (.bipush 79, 2) := by decide +kernel
theorem dX7_take_68 : decode cX7_take 68 = .ok (.iload_n 2, 1) := by decide +kernel
theorem dX7_take_69 : decode cX7_take 69 = .ok (.iadd, 1) := by decide +kernel
theorem dX7_take_70 : decode cX7_take 70 = .ok (.aload_n 0, 1) := by decide +kernel
theorem dX7_take_71 : decode cX7_take 71 = .ok (.getfield 26, 3) := by decide +kernel
theorem dX7_take_74 : decode cX7_take 74 = .ok (.iload_n 2, 1) := by decide +kernel
theorem dX7_take_75 : decode cX7_take 75 = .ok (.iaload, 1) := by decide +kernel
theorem dX7_take_76 : decode cX7_take 76 = .ok (.iastore, 1) := by decide +kernel
theorem dX7_take_77 : decode cX7_take 77 = .ok (.iinc 2 1, 3) := by decide +kernel
theorem dX7_take_80 : decode cX7_take 80 = .ok (.goto (-24), 3) := by decide +kernel
theorem dX7_take_83 : decode cX7_take 83 = .ok (.iconst 1, 1) := by decide +kernel
theorem dX7_take_84 : decode cX7_take 84 = .ok (.ireturn, 1) := by decide +kernel
theorem dX7_snake_0 : decode cX7_snake 0 = .ok (.aload_n 0, 1) := by decide +kernel
theorem dX7_snake_1 : decode cX7_snake 1 = .ok (.invokevirtual 87, 3) := by decide +kernel
theorem dX7_snake_4 : decode cX7_snake 4 = .ok (.ifCond .eq 6, 3) := by decide +kernel
theorem dX7_snake_7 : decode cX7_snake 7 = .ok (.bipush (-4), 2) := by decide +kernel
theorem dX7_snake_9 : decode cX7_snake 9 = .ok (.ireturn, 1) := by decide +kernel
theorem dX7_snake_10 : decode cX7_snake 10 = .ok (.iconst 0, 1) := by decide +kernel
theorem dX7_snake_11 : decode cX7_snake 11 = .ok (.istore_n 2, 1) := by decide +kernel
theorem dX7_snake_12 : decode cX7_snake 12 = .ok (.iconst 0, 1) := by decide +kernel
theorem dX7_snake_13 : decode cX7_snake 13 = .ok (.istore_n 3, 1) := by decide +kernel
theorem dX7_snake_14 : decode cX7_snake 14 = .ok (.iload_n 3, 1) := by decide +kernel
theorem dX7_snake_15 : decode cX7_snake 15 = .ok (.bipush 36, 2) := by decide +kernel
theorem dX7_snake_17 : decode cX7_snake 17 = .ok (.if_icmp .ge 105, 3) := by decide +kernel
theorem dX7_snake_20 : decode cX7_snake 20 = .ok (.iload_n 3, 1) := by decide +kernel
theorem dX7_snake_21 : decode cX7_snake 21 = .ok (.bipush 6, 2) := by decide +kernel
theorem dX7_snake_23 : decode cX7_snake 23 = .ok (.idiv, 1) := by decide +kernel
theorem dX7_snake_24 : decode cX7_snake 24 = .ok (.istore 4, 2) := by decide +kernel
theorem dX7_snake_26 : decode cX7_snake 26 = .ok (.iload 4, 2) := by decide +kernel
theorem dX7_snake_28 : decode cX7_snake 28 = .ok (.iconst 2, 1) := by decide +kernel
theorem dX7_snake_29 : decode cX7_snake 29 = .ok (.irem, 1) := by decide +kernel
theorem dX7_snake_30 : decode cX7_snake 30 = .ok (.ifCond .ne 10, 3) := by decide +kernel
theorem dX7_snake_33 : decode cX7_snake 33 = .ok (.iload_n 3, 1) := by decide +kernel
theorem dX7_snake_34 : decode cX7_snake 34 = .ok (.bipush 6, 2) := by decide +kernel
theorem dX7_snake_36 : decode cX7_snake 36 = .ok (.irem, 1) := by decide +kernel
theorem dX7_snake_37 : decode cX7_snake 37 = .ok (.goto 9, 3) := by decide +kernel
theorem dX7_snake_40 : decode cX7_snake 40 = .ok (.iconst 5, 1) := by decide +kernel
theorem dX7_snake_41 : decode cX7_snake 41 = .ok (.iload_n 3, 1) := by decide +kernel
theorem dX7_snake_42 : decode cX7_snake 42 = .ok (.bipush 6, 2) := by decide +kernel
theorem dX7_snake_44 : decode cX7_snake 44 = .ok (.irem, 1) := by decide +kernel
theorem dX7_snake_45 : decode cX7_snake 45 = .ok (.isub, 1) := by decide +kernel
theorem dX7_snake_46 : decode cX7_snake 46 = .ok (.istore 5, 2) := by decide +kernel
theorem dX7_snake_48 : decode cX7_snake 48 = .ok (.iload_n 1, 1) := by decide +kernel
theorem dX7_snake_49 : decode cX7_snake 49 = .ok (.ifCond .eq 14, 3) := by decide +kernel
theorem dX7_snake_52 : decode cX7_snake 52 = .ok (.bipush 6, 2) := by decide +kernel
theorem dX7_snake_54 : decode cX7_snake 54 = .ok (.iload 5, 2) := by decide +kernel
theorem dX7_snake_56 : decode cX7_snake 56 = .ok (.imul, 1) := by decide +kernel
theorem dX7_snake_57 : decode cX7_snake 57 = .ok (.iload 4, 2) := by decide +kernel
theorem dX7_snake_59 : decode cX7_snake 59 = .ok (.iadd, 1) := by decide +kernel
theorem dX7_snake_60 : decode cX7_snake 60 = .ok (.goto 11, 3) := by decide +kernel
theorem dX7_snake_63 : decode cX7_snake 63 = .ok (.bipush 6, 2) := by decide +kernel
theorem dX7_snake_65 : decode cX7_snake 65 = .ok (.iload 4, 2) := by decide +kernel
theorem dX7_snake_67 : decode cX7_snake 67 = .ok (.imul, 1) := by decide +kernel
theorem dX7_snake_68 : decode cX7_snake 68 = .ok (.iload 5, 2) := by decide +kernel
theorem dX7_snake_70 : decode cX7_snake 70 = .ok (.iadd, 1) := by decide +kernel
theorem dX7_snake_71 : decode cX7_snake 71 = .ok (.istore 6, 2) := by decide +kernel
theorem dX7_snake_73 : decode cX7_snake 73 = .ok (.aload_n 0, 1) := by decide +kernel
theorem dX7_snake_74 : decode cX7_snake 74 = .ok (.getfield 26, 3) := by decide +kernel
theorem dX7_snake_77 : decode cX7_snake 77 = .ok (.iload 6, 2) := by decide +kernel
theorem dX7_snake_79 : decode cX7_snake 79 = .ok (.aload_n 0, 1) := by decide +kernel
theorem dX7_snake_80 : decode cX7_snake 80 = .ok (.iload 6, 2) := by decide +kernel
theorem dX7_snake_82 : decode cX7_snake 82 = .ok (.invokevirtual 74, 3) := by decide +kernel
theorem dX7_snake_85 : decode cX7_snake 85 = .ok (.ifCond .eq 12, 3) := by decide +kernel
theorem dX7_snake_88 : decode cX7_snake 88 = .ok (.iload_n 2, 1) := by decide +kernel
theorem dX7_snake_89 : decode cX7_snake 89 = .ok (.aload_n 0, 1) := by decide +kernel
theorem dX7_snake_90 : decode cX7_snake 90 = .ok (.invokevirtual 55, 3) := by decide +kernel
theorem dX7_snake_93 : decode cX7_snake 93 = .ok (.idiv, 1) := by decide +kernel
theorem dX7_snake_94 : decode cX7_snake 94 = .ok (.goto 4, 3) := by decide +kernel
theorem dX7_snake_97 : decode cX7_snake 97 = .ok (.iconst (-1), 1) := by decide +kernel
theorem dX7_snake_98 : decode cX7_snake 98 = .ok (.iastore, 1) := by decide +kernel
theorem dX7_snake_99 : decode cX7_snake 99 = .ok (.iload_n 2, 1) := by decide +kernel
theorem dX7_snake_100 : decode cX7_snake 100 = .ok (.aload_n 0, 1) := by decide +kernel
theorem dX7_snake_101 : decode cX7_snake 101 = .ok (.iload 6, 2) := by decide +kernel
theorem dX7_snake_103 : decode cX7_snake 103 = .ok (.invokevirtual 74, 3) := by decide +kernel
theorem dX7_snake_106 : decode cX7_snake 106 = .ok (.ifCond .eq 7, 3) := by decide +kernel
theorem dX7_snake_109 : decode cX7_snake 109 = .ok (.iconst 1, 1) := by decide +kernel
theorem dX7_snake_110 : decode cX7_snake 110 = .ok (.goto 4, 3) := by decide +kernel
theorem dX7_snake_113 : decode cX7_snake 113 = .ok (.iconst 0, 1) := by decide +kernel
theorem dX7_snake_114 : decode cX7_snake 114 = .ok (.iadd, 1) := by decide +kernel
theorem dX7_snake_115 : decode cX7_snake 115 = .ok (.istore_n 2, 1) := by decide +kernel
theorem dX7_snake_116 : decode cX7_snake 116 = .ok (.iinc 3 1, 3) := by decide +kernel
theorem dX7_snake_119 : decode cX7_snake 119 = .ok (.goto (-105), 3) := by decide +kernel
theorem dX7_snake_122 : decode cX7_snake 122 = .ok (.aload_n 0, 1) := by decide +kernel
theorem dX7_snake_123 : decode cX7_snake 123 = .ok (.invokevirtual 94, 3) := by decide +kernel
theorem dX7_snake_126 : decode cX7_snake 126 = .ok (.ifCond .ne 6, 3) := by decide +kernel
theorem dX7_snake_129 : decode cX7_snake 129 = .ok (.bipush (-5), 2) := by decide +kernel
theorem dX7_snake_131 : decode cX7_snake 131 = .ok (.ireturn, 1) := by decide +kernel
theorem dX7_snake_132 : decode cX7_snake 132 = .ok (.aload_n 0, 1) := by decide +kernel
theorem dX7_snake_133 : decode cX7_snake 133 = .ok (.invokevirtual 91, 3) := by decide +kernel
theorem dX7_snake_136 : decode cX7_snake 136 = .ok (.ifCond .ne 7, 3) := by decide +kernel
theorem dX7_snake_139 : decode cX7_snake 139 = .ok (.iconst 1, 1) := by decide +kernel
theorem dX7_snake_140 : decode cX7_snake 140 = .ok (.goto 4, 3) := by decide +kernel
theorem dX7_snake_143 : decode cX7_snake 143 = .ok (.iconst 0, 1) := by decide +kernel
theorem dX7_snake_144 : decode cX7_snake 144 = .ok (.ireturn, 1) := by decide +kernel
theorem dX7_adopt_0 : decode cX7_adopt 0 = .ok (.aload_n 0, 1) := by decide +kernel
theorem dX7_adopt_1 : decode cX7_adopt 1 = .ok (.invokevirtual 87, 3) := by decide +kernel
theorem dX7_adopt_4 : decode cX7_adopt 4 = .ok (.ifCond .ne 13, 3) := by decide +kernel
theorem dX7_adopt_7 : decode cX7_adopt 7 = .ok (.aload_n 0, 1) := by decide +kernel
theorem dX7_adopt_8 : decode cX7_adopt 8 = .ok (.getfield 7, 3) := by decide +kernel
theorem dX7_adopt_11 : decode cX7_adopt 11 = .ok (.bipush 78, 2) := by decide +kernel
theorem dX7_adopt_13 : decode cX7_adopt 13 = .ok (.iaload, 1) := by decide +kernel
theorem dX7_adopt_14 : decode cX7_adopt 14 = .ok (.ifCond .ne 6, 3) := by decide +kernel
theorem dX7_adopt_17 : decode cX7_adopt 17 = .ok (.bipush (-4), 2) := by decide +kernel
theorem dX7_adopt_19 : decode cX7_adopt 19 = .ok (.ireturn, 1) := by decide +kernel
theorem dX7_adopt_20 : decode cX7_adopt 20 = .ok (.iconst 0, 1) := by decide +kernel
theorem dX7_adopt_21 : decode cX7_adopt 21 = .ok (.istore_n 1, 1) := by decide +kernel
theorem dX7_adopt_22 : decode cX7_adopt 22 = .ok (.iload_n 1, 1) := by decide +kernel
theorem dX7_adopt_23 : decode cX7_adopt 23 = .ok (.bipush 36, 2) := by decide +kernel
theorem dX7_adopt_25 : decode cX7_adopt 25 = .ok (.if_icmp .ge 25, 3) := by decide +kernel
theorem dX7_adopt_28 : decode cX7_adopt 28 = .ok (.aload_n 0, 1) := by decide +kernel
theorem dX7_adopt_29 : decode cX7_adopt 29 = .ok (.getfield 26, 3) := by decide +kernel
theorem dX7_adopt_32 : decode cX7_adopt 32 = .ok (.iload_n 1, 1) := by decide +kernel
theorem dX7_adopt_33 : decode cX7_adopt 33 = .ok (.aload_n 0, 1) := by decide +kernel
theorem dX7_adopt_34 : decode cX7_adopt 34 = .ok (.getfield 7, 3) := by decide +kernel
theorem dX7_adopt_37 : decode cX7_adopt 37 = .ok (.sipush 151, 3) := by decide +kernel
theorem dX7_adopt_40 : decode cX7_adopt 40 = .ok (.iload_n 1, 1) := by decide +kernel
theorem dX7_adopt_41 : decode cX7_adopt 41 = .ok (.iadd, 1) := by decide +kernel
theorem dX7_adopt_42 : decode cX7_adopt 42 = .ok (.iaload, 1) := by decide +kernel
theorem dX7_adopt_43 : decode cX7_adopt 43 = .ok (.iastore, 1) := by decide +kernel
theorem dX7_adopt_44 : decode cX7_adopt 44 = .ok (.iinc 1 1, 3) := by decide +kernel
theorem dX7_adopt_47 : decode cX7_adopt 47 = .ok (.goto (-25), 3) := by decide +kernel
theorem dX7_adopt_50 : decode cX7_adopt 50 = .ok (.aload_n 0, 1) := by decide +kernel
theorem dX7_adopt_51 : decode cX7_adopt 51 = .ok (.invokevirtual 94, 3) := by decide +kernel
theorem dX7_adopt_54 : decode cX7_adopt 54 = .ok (.ifCond .eq 10, 3) := by decide +kernel
theorem dX7_adopt_57 : decode cX7_adopt 57 = .ok (.aload_n 0, 1) := by decide +kernel
theorem dX7_adopt_58 : decode cX7_adopt 58 = .ok (.invokevirtual 77, 3) := by decide +kernel
theorem dX7_adopt_61 : decode cX7_adopt 61 = .ok (.goto 5, 3) := by decide +kernel
theorem dX7_adopt_64 : decode cX7_adopt 64 = .ok (.bipush (-5), 2) := by decide +kernel
theorem dX7_adopt_66 : decode cX7_adopt 66 = .ok (.ireturn, 1) := by decide +kernel
theorem dX7_propose_0 : decode cX7_propose 0 = .ok (.aload_n 0, 1) := by decide +kernel
theorem dX7_propose_1 : decode cX7_propose 1 = .ok (.invokevirtual 87, 3) := by decide +kernel
theorem dX7_propose_4 : decode cX7_propose 4 = .ok (.ifCond .eq 6, 3) := by decide +kernel
theorem dX7_propose_7 : decode cX7_propose 7 = .ok (.bipush (-4), 2) := by decide +kernel
theorem dX7_propose_9 : decode cX7_propose 9 = .ok (.ireturn, 1) := by decide +kernel
theorem dX7_propose_10 : decode cX7_propose 10 = .ok (.aload_n 0, 1) := by decide +kernel
theorem dX7_propose_11 : decode cX7_propose 11 = .ok (.invokevirtual 91, 3) := by decide +kernel
theorem dX7_propose_14 : decode cX7_propose 14 = .ok (.bipush 10, 2) := by decide +kernel
theorem dX7_propose_16 : decode cX7_propose 16 = .ok (.irem, 1) := by decide +kernel
theorem dX7_propose_17 : decode cX7_propose 17 = .ok (.istore_n 1, 1) := by decide +kernel
theorem dX7_propose_18 : decode cX7_propose 18 = .ok (.iload_n 1, 1) := by decide +kernel
theorem dX7_propose_19 : decode cX7_propose 19 = .ok (.ifCond .le 8, 3) := by decide +kernel
theorem dX7_propose_22 : decode cX7_propose 22 = .ok (.bipush (-10), 2) := by decide +kernel
theorem dX7_propose_24 : decode cX7_propose 24 = .ok (.iload_n 1, 1) := by decide +kernel
theorem dX7_propose_25 : decode cX7_propose 25 = .ok (.isub, 1) := by decide +kernel
theorem dX7_propose_26 : decode cX7_propose 26 = .ok (.ireturn, 1) := by decide +kernel
theorem dX7_propose_27 : decode cX7_propose 27 = .ok (.aload_n 0, 1) := by decide +kernel
theorem dX7_propose_28 : decode cX7_propose 28 = .ok (.invokevirtual 48, 3) := by decide +kernel
theorem dX7_propose_31 : decode cX7_propose 31 = .ok (.aload_n 0, 1) := by decide +kernel
theorem dX7_propose_32 : decode cX7_propose 32 = .ok (.getfield 7, 3) := by decide +kernel
theorem dX7_propose_35 : decode cX7_propose 35 = .ok (.bipush 75, 2) := by decide +kernel
theorem dX7_propose_37 : decode cX7_propose 37 = .ok (.iconst 1, 1) := by decide +kernel
theorem dX7_propose_38 : decode cX7_propose 38 = .ok (.iastore, 1) := by decide +kernel
theorem dX7_propose_39 : decode cX7_propose 39 = .ok (.aload_n 0, 1) := by decide +kernel
theorem dX7_propose_40 : decode cX7_propose 40 = .ok (.invokevirtual 77, 3) := by decide +kernel
theorem dX7_propose_43 : decode cX7_propose 43 = .ok (.ireturn, 1) := by decide +kernel
theorem dX7_freezePart_0 : decode cX7_freezePart 0 = .ok (.aload_n 0, 1) := by decide +kernel
theorem dX7_freezePart_1 : decode cX7_freezePart 1 = .ok (.getfield 7, 3) := by decide +kernel
theorem dX7_freezePart_4 : decode cX7_freezePart 4 = .ok (.bipush 77, 2) := by decide +kernel
theorem dX7_freezePart_6 : decode cX7_freezePart 6 = .ok (.iaload, 1) := by decide +kernel
theorem dX7_freezePart_7 : decode cX7_freezePart 7 = .ok (.istore_n 3, 1) := by decide +kernel
theorem dX7_freezePart_8 : decode cX7_freezePart 8 = .ok (.iconst 0, 1) := by decide +kernel
theorem dX7_freezePart_9 : decode cX7_freezePart 9 = .ok (.istore 4, 2) := by decide +kernel
theorem dX7_freezePart_11 : decode cX7_freezePart 11 = .ok (.iload 4, 2) := by decide +kernel
theorem dX7_freezePart_13 : decode cX7_freezePart 13 = .ok (.bipush 36, 2) := by decide +kernel
theorem dX7_freezePart_15 : decode cX7_freezePart 15 = .ok (.if_icmp .ge 76, 3) := by decide +kernel
theorem dX7_freezePart_18 : decode cX7_freezePart 18 = .ok (.aload_n 0, 1) := by decide +kernel
theorem dX7_freezePart_19 : decode cX7_freezePart 19 = .ok (.getfield 7, 3) := by decide +kernel
theorem dX7_freezePart_22 : decode cX7_freezePart 22 = .ok (.bipush 79, 2) := by decide +kernel
theorem dX7_freezePart_24 : decode cX7_freezePart 24 = .ok (.iload 4, 2) := by decide +kernel
theorem dX7_freezePart_26 : decode cX7_freezePart 26 = .ok (.iadd, 1) := by decide +kernel
theorem dX7_freezePart_27 : decode cX7_freezePart 27 = .ok (.iaload, 1) := by decide +kernel
theorem dX7_freezePart_28 : decode cX7_freezePart 28 = .ok (.iload_n 1, 1) := by decide +kernel
theorem dX7_freezePart_29 : decode cX7_freezePart 29 = .ok (.if_icmp .ne 28, 3) := by decide +kernel
theorem dX7_freezePart_32 : decode cX7_freezePart 32 = .ok (.aload_n 0, 1) := by decide +kernel
theorem dX7_freezePart_33 : decode cX7_freezePart 33 = .ok (.getfield 7, 3) := by decide +kernel
theorem dX7_freezePart_36 : decode cX7_freezePart 36 = .ok (.bipush 115, 2) := by decide +kernel
theorem dX7_freezePart_38 : decode cX7_freezePart 38 = .ok (.iload 4, 2) := by decide +kernel
theorem dX7_freezePart_40 : decode cX7_freezePart 40 = .ok (.iadd, 1) := by decide +kernel
theorem dX7_freezePart_41 : decode cX7_freezePart 41 = .ok (.iload_n 3, 1) := by decide +kernel
theorem dX7_freezePart_42 : decode cX7_freezePart 42 = .ok (.iastore, 1) := by decide +kernel
theorem dX7_freezePart_43 : decode cX7_freezePart 43 = .ok (.aload_n 0, 1) := by decide +kernel
theorem dX7_freezePart_44 : decode cX7_freezePart 44 = .ok (.getfield 7, 3) := by decide +kernel
theorem dX7_freezePart_47 : decode cX7_freezePart 47 = .ok (.bipush 79, 2) := by decide +kernel
theorem dX7_freezePart_49 : decode cX7_freezePart 49 = .ok (.iload 4, 2) := by decide +kernel
theorem dX7_freezePart_51 : decode cX7_freezePart 51 = .ok (.iadd, 1) := by decide +kernel
theorem dX7_freezePart_52 : decode cX7_freezePart 52 = .ok (.iconst (-1), 1) := by decide +kernel
theorem dX7_freezePart_53 : decode cX7_freezePart 53 = .ok (.iastore, 1) := by decide +kernel
theorem dX7_freezePart_54 : decode cX7_freezePart 54 = .ok (.goto 31, 3) := by decide +kernel
theorem dX7_freezePart_57 : decode cX7_freezePart 57 = .ok (.aload_n 0, 1) := by decide +kernel
theorem dX7_freezePart_58 : decode cX7_freezePart 58 = .ok (.getfield 7, 3) := by decide +kernel
theorem dX7_freezePart_61 : decode cX7_freezePart 61 = .ok (.bipush 79, 2) := by decide +kernel
theorem dX7_freezePart_63 : decode cX7_freezePart 63 = .ok (.iload 4, 2) := by decide +kernel
theorem dX7_freezePart_65 : decode cX7_freezePart 65 = .ok (.iadd, 1) := by decide +kernel
theorem dX7_freezePart_66 : decode cX7_freezePart 66 = .ok (.iaload, 1) := by decide +kernel
theorem dX7_freezePart_67 : decode cX7_freezePart 67 = .ok (.iload_n 1, 1) := by decide +kernel
theorem dX7_freezePart_68 : decode cX7_freezePart 68 = .ok (.if_icmp .le 17, 3) := by decide +kernel
theorem dX7_freezePart_71 : decode cX7_freezePart 71 = .ok (.aload_n 0, 1) := by decide +kernel
theorem dX7_freezePart_72 : decode cX7_freezePart 72 = .ok (.getfield 7, 3) := by decide +kernel
theorem dX7_freezePart_75 : decode cX7_freezePart 75 = .ok (.bipush 79, 2) := by decide +kernel
theorem dX7_freezePart_77 : decode cX7_freezePart 77 = .ok (.iload 4, 2) := by decide +kernel
theorem dX7_freezePart_79 : decode cX7_freezePart 79 = .ok (.iadd, 1) := by decide +kernel
theorem dX7_freezePart_80 : decode cX7_freezePart 80 = .ok (.dup2, 1) := by decide +kernel
theorem dX7_freezePart_81 : decode cX7_freezePart 81 = .ok (.iaload, 1) := by decide +kernel
theorem dX7_freezePart_82 : decode cX7_freezePart 82 = .ok (.iconst 1, 1) := by decide +kernel
theorem dX7_freezePart_83 : decode cX7_freezePart 83 = .ok (.isub, 1) := by decide +kernel
theorem dX7_freezePart_84 : decode cX7_freezePart 84 = .ok (.iastore, 1) := by decide +kernel
theorem dX7_freezePart_85 : decode cX7_freezePart 85 = .ok (.iinc 4 1, 3) := by decide +kernel
theorem dX7_freezePart_88 : decode cX7_freezePart 88 = .ok (.goto (-77), 3) := by decide +kernel
theorem dX7_freezePart_91 : decode cX7_freezePart 91 = .ok (.aload_n 0, 1) := by decide +kernel
theorem dX7_freezePart_92 : decode cX7_freezePart 92 = .ok (.getfield 7, 3) := by decide +kernel
theorem dX7_freezePart_95 : decode cX7_freezePart 95 = .ok (.sipush 187, 3) := by decide +kernel
theorem dX7_freezePart_98 : decode cX7_freezePart 98 = .ok (.iload_n 3, 1) := by decide +kernel
theorem dX7_freezePart_99 : decode cX7_freezePart 99 = .ok (.iadd, 1) := by decide +kernel
theorem dX7_freezePart_100 : decode cX7_freezePart 100 = .ok (.iload_n 2, 1) := by decide +kernel
theorem dX7_freezePart_101 : decode cX7_freezePart 101 = .ok (.iastore, 1) := by decide +kernel
theorem dX7_freezePart_102 : decode cX7_freezePart 102 = .ok (.aload_n 0, 1) := by decide +kernel
theorem dX7_freezePart_103 : decode cX7_freezePart 103 = .ok (.getfield 7, 3) := by decide +kernel
theorem dX7_freezePart_106 : decode cX7_freezePart 106 = .ok (.bipush 77, 2) := by decide +kernel
theorem dX7_freezePart_108 : decode cX7_freezePart 108 = .ok (.dup2, 1) := by decide +kernel
theorem dX7_freezePart_109 : decode cX7_freezePart 109 = .ok (.iaload, 1) := by decide +kernel
theorem dX7_freezePart_110 : decode cX7_freezePart 110 = .ok (.iconst 1, 1) := by decide +kernel
theorem dX7_freezePart_111 : decode cX7_freezePart 111 = .ok (.iadd, 1) := by decide +kernel
theorem dX7_freezePart_112 : decode cX7_freezePart 112 = .ok (.iastore, 1) := by decide +kernel
theorem dX7_freezePart_113 : decode cX7_freezePart 113 = .ok (.return_, 1) := by decide +kernel
theorem dX7_freeze_0 : decode cX7_freeze 0 = .ok (.aload_n 0, 1) := by decide +kernel
theorem dX7_freeze_1 : decode cX7_freeze 1 = .ok (.getfield 7, 3) := by decide +kernel
theorem dX7_freeze_4 : decode cX7_freeze 4 = .ok (.bipush 75, 2) := by decide +kernel
theorem dX7_freeze_6 : decode cX7_freeze 6 = .ok (.iaload, 1) := by decide +kernel
theorem dX7_freeze_7 : decode cX7_freeze 7 = .ok (.iconst 1, 1) := by decide +kernel
theorem dX7_freeze_8 : decode cX7_freeze 8 = .ok (.if_icmp .eq 6, 3) := by decide +kernel
theorem dX7_freeze_11 : decode cX7_freeze 11 = .ok (.bipush (-4), 2) := by decide +kernel
theorem dX7_freeze_13 : decode cX7_freeze 13 = .ok (.ireturn, 1) := by decide +kernel
theorem dX7_freeze_14 : decode cX7_freeze 14 = .ok (.iload_n 1, 1) := by decide +kernel
theorem dX7_freeze_15 : decode cX7_freeze 15 = .ok (.iconst 0, 1) := by decide +kernel
theorem dX7_freeze_16 : decode cX7_freeze 16 = .ok (.aload_n 0, 1) := by decide +kernel
theorem dX7_freeze_17 : decode cX7_freeze 17 = .ok (.invokevirtual 77, 3) := by decide +kernel
theorem dX7_freeze_20 : decode cX7_freeze 20 = .ok (.iconst 1, 1) := by decide +kernel
theorem dX7_freeze_21 : decode cX7_freeze 21 = .ok (.isub, 1) := by decide +kernel
theorem dX7_freeze_22 : decode cX7_freeze 22 = .ok (.invokestatic 36, 3) := by decide +kernel
theorem dX7_freeze_25 : decode cX7_freeze 25 = .ok (.ifCond .ne 5, 3) := by decide +kernel
theorem dX7_freeze_28 : decode cX7_freeze 28 = .ok (.iconst (-1), 1) := by decide +kernel
theorem dX7_freeze_29 : decode cX7_freeze 29 = .ok (.ireturn, 1) := by decide +kernel
theorem dX7_freeze_30 : decode cX7_freeze 30 = .ok (.aload_n 0, 1) := by decide +kernel
theorem dX7_freeze_31 : decode cX7_freeze 31 = .ok (.invokevirtual 48, 3) := by decide +kernel
theorem dX7_freeze_34 : decode cX7_freeze 34 = .ok (.aload_n 0, 1) := by decide +kernel
theorem dX7_freeze_35 : decode cX7_freeze 35 = .ok (.getfield 7, 3) := by decide +kernel
theorem dX7_freeze_38 : decode cX7_freeze 38 = .ok (.bipush 76, 2) := by decide +kernel
theorem dX7_freeze_40 : decode cX7_freeze 40 = .ok (.iaload, 1) := by decide +kernel
theorem dX7_freeze_41 : decode cX7_freeze 41 = .ok (.istore_n 2, 1) := by decide +kernel
theorem dX7_freeze_42 : decode cX7_freeze 42 = .ok (.aload_n 0, 1) := by decide +kernel
theorem dX7_freeze_43 : decode cX7_freeze 43 = .ok (.iload_n 1, 1) := by decide +kernel
theorem dX7_freeze_44 : decode cX7_freeze 44 = .ok (.iconst 1, 1) := by decide +kernel
theorem dX7_freeze_45 : decode cX7_freeze 45 = .ok (.iload_n 2, 1) := by decide +kernel
theorem dX7_freeze_46 : decode cX7_freeze 46 = .ok (.isub, 1) := by decide +kernel
theorem dX7_freeze_47 : decode cX7_freeze 47 = .ok (.invokevirtual 97, 3) := by decide +kernel
theorem dX7_freeze_50 : decode cX7_freeze 50 = .ok (.aload_n 0, 1) := by decide +kernel
theorem dX7_freeze_51 : decode cX7_freeze 51 = .ok (.invokevirtual 77, 3) := by decide +kernel
theorem dX7_freeze_54 : decode cX7_freeze 54 = .ok (.iconst 1, 1) := by decide +kernel
theorem dX7_freeze_55 : decode cX7_freeze 55 = .ok (.if_icmp .ne 25, 3) := by decide +kernel
theorem dX7_freeze_58 : decode cX7_freeze 58 = .ok (.aload_n 0, 1) := by decide +kernel
theorem dX7_freeze_59 : decode cX7_freeze 59 = .ok (.iconst 0, 1) := by decide +kernel
theorem dX7_freeze_60 : decode cX7_freeze 60 = .ok (.iload_n 2, 1) := by decide +kernel
theorem dX7_freeze_61 : decode cX7_freeze 61 = .ok (.invokevirtual 97, 3) := by decide +kernel
theorem dX7_freeze_64 : decode cX7_freeze 64 = .ok (.aload_n 0, 1) := by decide +kernel
theorem dX7_freeze_65 : decode cX7_freeze 65 = .ok (.getfield 7, 3) := by decide +kernel
theorem dX7_freeze_68 : decode cX7_freeze 68 = .ok (.bipush 75, 2) := by decide +kernel
theorem dX7_freeze_70 : decode cX7_freeze 70 = .ok (.iconst 2, 1) := by decide +kernel
theorem dX7_freeze_71 : decode cX7_freeze 71 = .ok (.iastore, 1) := by decide +kernel
theorem dX7_freeze_72 : decode cX7_freeze 72 = .ok (.aload_n 0, 1) := by decide +kernel
theorem dX7_freeze_73 : decode cX7_freeze 73 = .ok (.getfield 7, 3) := by decide +kernel
theorem dX7_freeze_76 : decode cX7_freeze 76 = .ok (.bipush 77, 2) := by decide +kernel
theorem dX7_freeze_78 : decode cX7_freeze 78 = .ok (.iaload, 1) := by decide +kernel
theorem dX7_freeze_79 : decode cX7_freeze 79 = .ok (.ireturn, 1) := by decide +kernel
theorem dX7_freeze_80 : decode cX7_freeze 80 = .ok (.iconst 0, 1) := by decide +kernel
theorem dX7_freeze_81 : decode cX7_freeze 81 = .ok (.istore_n 3, 1) := by decide +kernel
theorem dX7_freeze_82 : decode cX7_freeze 82 = .ok (.iload_n 3, 1) := by decide +kernel
theorem dX7_freeze_83 : decode cX7_freeze 83 = .ok (.bipush 36, 2) := by decide +kernel
theorem dX7_freeze_85 : decode cX7_freeze 85 = .ok (.if_icmp .ge 38, 3) := by decide +kernel
theorem dX7_freeze_88 : decode cX7_freeze 88 = .ok (.aload_n 0, 1) := by decide +kernel
theorem dX7_freeze_89 : decode cX7_freeze 89 = .ok (.getfield 7, 3) := by decide +kernel
theorem dX7_freeze_92 : decode cX7_freeze 92 = .ok (.sipush 151, 3) := by decide +kernel
theorem dX7_freeze_95 : decode cX7_freeze 95 = .ok (.iload_n 3, 1) := by decide +kernel
theorem dX7_freeze_96 : decode cX7_freeze 96 = .ok (.iadd, 1) := by decide +kernel
theorem dX7_freeze_97 : decode cX7_freeze 97 = .ok (.aload_n 0, 1) := by decide +kernel
theorem dX7_freeze_98 : decode cX7_freeze 98 = .ok (.getfield 7, 3) := by decide +kernel
theorem dX7_freeze_101 : decode cX7_freeze 101 = .ok (.bipush 79, 2) := by decide +kernel
theorem dX7_freeze_103 : decode cX7_freeze 103 = .ok (.iload_n 3, 1) := by decide +kernel
theorem dX7_freeze_104 : decode cX7_freeze 104 = .ok (.iadd, 1) := by decide +kernel
theorem dX7_freeze_105 : decode cX7_freeze 105 = .ok (.iaload, 1) := by decide +kernel
theorem dX7_freeze_106 : decode cX7_freeze 106 = .ok (.iastore, 1) := by decide +kernel
theorem dX7_freeze_107 : decode cX7_freeze 107 = .ok (.aload_n 0, 1) := by decide +kernel
theorem dX7_freeze_108 : decode cX7_freeze 108 = .ok (.getfield 7, 3) := by decide +kernel
theorem dX7_freeze_111 : decode cX7_freeze 111 = .ok (.bipush 79, 2) := by decide +kernel
theorem dX7_freeze_113 : decode cX7_freeze 113 = .ok (.iload_n 3, 1) := by decide +kernel
theorem dX7_freeze_114 : decode cX7_freeze 114 = .ok (.iadd, 1) := by decide +kernel
theorem dX7_freeze_115 : decode cX7_freeze 115 = .ok (.iconst (-1), 1) := by decide +kernel
theorem dX7_freeze_116 : decode cX7_freeze 116 = .ok (.iastore, 1) := by decide +kernel
theorem dX7_freeze_117 : decode cX7_freeze 117 = .ok (.iinc 3 1, 3) := by decide +kernel
theorem dX7_freeze_120 : decode cX7_freeze 120 = .ok (.goto (-38), 3) := by decide +kernel
theorem dX7_freeze_123 : decode cX7_freeze 123 = .ok (.aload_n 0, 1) := by decide +kernel
theorem dX7_freeze_124 : decode cX7_freeze 124 = .ok (.getfield 7, 3) := by decide +kernel
theorem dX7_freeze_127 : decode cX7_freeze 127 = .ok (.bipush 78, 2) := by decide +kernel
theorem dX7_freeze_129 : decode cX7_freeze 129 = .ok (.iconst 1, 1) := by decide +kernel
theorem dX7_freeze_130 : decode cX7_freeze 130 = .ok (.iastore, 1) := by decide +kernel
theorem dX7_freeze_131 : decode cX7_freeze 131 = .ok (.aload_n 0, 1) := by decide +kernel
theorem dX7_freeze_132 : decode cX7_freeze 132 = .ok (.getfield 7, 3) := by decide +kernel
theorem dX7_freeze_135 : decode cX7_freeze 135 = .ok (.bipush 76, 2) := by decide +kernel
theorem dX7_freeze_137 : decode cX7_freeze 137 = .ok (.iconst 1, 1) := by decide +kernel
theorem dX7_freeze_138 : decode cX7_freeze 138 = .ok (.iload_n 2, 1) := by decide +kernel
theorem dX7_freeze_139 : decode cX7_freeze 139 = .ok (.isub, 1) := by decide +kernel
theorem dX7_freeze_140 : decode cX7_freeze 140 = .ok (.iastore, 1) := by decide +kernel
theorem dX7_freeze_141 : decode cX7_freeze 141 = .ok (.aload_n 0, 1) := by decide +kernel
theorem dX7_freeze_142 : decode cX7_freeze 142 = .ok (.getfield 7, 3) := by decide +kernel
theorem dX7_freeze_145 : decode cX7_freeze 145 = .ok (.bipush 75, 2) := by decide +kernel
theorem dX7_freeze_147 : decode cX7_freeze 147 = .ok (.iconst 0, 1) := by decide +kernel
theorem dX7_freeze_148 : decode cX7_freeze 148 = .ok (.iastore, 1) := by decide +kernel
theorem dX7_freeze_149 : decode cX7_freeze 149 = .ok (.aload_n 0, 1) := by decide +kernel
theorem dX7_freeze_150 : decode cX7_freeze 150 = .ok (.getfield 7, 3) := by decide +kernel
theorem dX7_freeze_153 : decode cX7_freeze 153 = .ok (.bipush 77, 2) := by decide +kernel
theorem dX7_freeze_155 : decode cX7_freeze 155 = .ok (.iaload, 1) := by decide +kernel
theorem dX7_freeze_156 : decode cX7_freeze 156 = .ok (.ireturn, 1) := by decide +kernel
theorem dX7_type_0 : decode cX7_type 0 = .ok (.aload_n 0, 1) := by decide +kernel
theorem dX7_type_1 : decode cX7_type 1 = .ok (.getfield 101, 3) := by decide +kernel
theorem dX7_type_4 : decode cX7_type 4 = .ok (.bipush 60, 2) := by decide +kernel
theorem dX7_type_6 : decode cX7_type 6 = .ok (.if_icmp .ne 6, 3) := by decide +kernel
theorem dX7_type_9 : decode cX7_type 9 = .ok (.bipush (-3), 2) := by decide +kernel
theorem dX7_type_11 : decode cX7_type 11 = .ok (.ireturn, 1) := by decide +kernel
theorem dX7_type_12 : decode cX7_type 12 = .ok (.aload_n 0, 1) := by decide +kernel
theorem dX7_type_13 : decode cX7_type 13 = .ok (.getfield 19, 3) := by decide +kernel
theorem dX7_type_16 : decode cX7_type 16 = .ok (.aload_n 0, 1) := by decide +kernel
theorem dX7_type_17 : decode cX7_type 17 = .ok (.getfield 101, 3) := by decide +kernel
theorem dX7_type_20 : decode cX7_type 20 = .ok (.iload_n 1, 1) := by decide +kernel
theorem dX7_type_21 : decode cX7_type 21 = .ok (.castore, 1) := by decide +kernel
theorem dX7_type_22 : decode cX7_type 22 = .ok (.aload_n 0, 1) := by decide +kernel
theorem dX7_type_23 : decode cX7_type 23 = .ok (.dup, 1) := by decide +kernel
theorem dX7_type_24 : decode cX7_type 24 = .ok (.getfield 101, 3) := by decide +kernel
theorem dX7_type_27 : decode cX7_type 27 = .ok (.iconst 1, 1) := by decide +kernel
theorem dX7_type_28 : decode cX7_type 28 = .ok (.iadd, 1) := by decide +kernel
theorem dX7_type_29 : decode cX7_type 29 = .ok (.putfield 101, 3) := by decide +kernel
theorem dX7_type_32 : decode cX7_type 32 = .ok (.aload_n 0, 1) := by decide +kernel
theorem dX7_type_33 : decode cX7_type 33 = .ok (.getfield 101, 3) := by decide +kernel
theorem dX7_type_36 : decode cX7_type 36 = .ok (.ireturn, 1) := by decide +kernel
theorem dX7_clearText_0 : decode cX7_clearText 0 = .ok (.aload_n 0, 1) := by decide +kernel
theorem dX7_clearText_1 : decode cX7_clearText 1 = .ok (.getfield 101, 3) := by decide +kernel
theorem dX7_clearText_4 : decode cX7_clearText 4 = .ok (.istore_n 1, 1) := by decide +kernel
theorem dX7_clearText_5 : decode cX7_clearText 5 = .ok (.aload_n 0, 1) := by decide +kernel
theorem dX7_clearText_6 : decode cX7_clearText 6 = .ok (.iconst 0, 1) := by decide +kernel
theorem dX7_clearText_7 : decode cX7_clearText 7 = .ok (.putfield 101, 3) := by decide +kernel
theorem dX7_clearText_10 : decode cX7_clearText 10 = .ok (.iload_n 1, 1) := by decide +kernel
theorem dX7_clearText_11 : decode cX7_clearText 11 = .ok (.ireturn, 1) := by decide +kernel
theorem dX7_sees_0 : decode cX7_sees 0 = .ok (.aload_n 0, 1) := by decide +kernel
theorem dX7_sees_1 : decode cX7_sees 1 = .ok (.getfield 104, 3) := by decide +kernel
theorem dX7_sees_4 : decode cX7_sees 4 = .ok (.aload_n 0, 1) := by decide +kernel
theorem dX7_sees_5 : decode cX7_sees 5 = .ok (.getfield 101, 3) := by decide +kernel
theorem dX7_sees_8 : decode cX7_sees 8 = .ok (.if_icmp .ge 24, 3) := by decide +kernel
theorem dX7_sees_11 : decode cX7_sees 11 = .ok (.aload_n 0, 1) := by decide +kernel
theorem dX7_sees_12 : decode cX7_sees 12 = .ok (.getfield 19, 3) := by decide +kernel
theorem dX7_sees_15 : decode cX7_sees 15 = .ok (.aload_n 0, 1) := by decide +kernel
theorem dX7_sees_16 : decode cX7_sees 16 = .ok (.getfield 104, 3) := by decide +kernel
theorem dX7_sees_19 : decode cX7_sees 19 = .ok (.caload, 1) := by decide +kernel
theorem dX7_sees_20 : decode cX7_sees 20 = .ok (.iload_n 1, 1) := by decide +kernel
theorem dX7_sees_21 : decode cX7_sees 21 = .ok (.iload_n 2, 1) := by decide +kernel
theorem dX7_sees_22 : decode cX7_sees 22 = .ok (.invokestatic 36, 3) := by decide +kernel
theorem dX7_sees_25 : decode cX7_sees 25 = .ok (.ifCond .eq 7, 3) := by decide +kernel
theorem dX7_sees_28 : decode cX7_sees 28 = .ok (.iconst 1, 1) := by decide +kernel
theorem dX7_sees_29 : decode cX7_sees 29 = .ok (.goto 4, 3) := by decide +kernel
theorem dX7_sees_32 : decode cX7_sees 32 = .ok (.iconst 0, 1) := by decide +kernel
theorem dX7_sees_33 : decode cX7_sees 33 = .ok (.ireturn, 1) := by decide +kernel
theorem dX7_readPairs_0 : decode cX7_readPairs 0 = .ok (.aload_n 0, 1) := by decide +kernel
theorem dX7_readPairs_1 : decode cX7_readPairs 1 = .ok (.iconst 0, 1) := by decide +kernel
theorem dX7_readPairs_2 : decode cX7_readPairs 2 = .ok (.putfield 104, 3) := by decide +kernel
theorem dX7_readPairs_5 : decode cX7_readPairs 5 = .ok (.iconst 0, 1) := by decide +kernel
theorem dX7_readPairs_6 : decode cX7_readPairs 6 = .ok (.istore_n 1, 1) := by decide +kernel
theorem dX7_readPairs_7 : decode cX7_readPairs 7 = .ok (.iconst 1, 1) := by decide +kernel
theorem dX7_readPairs_8 : decode cX7_readPairs 8 = .ok (.istore_n 2, 1) := by decide +kernel
theorem dX7_readPairs_9 : decode cX7_readPairs 9 = .ok (.iload_n 2, 1) := by decide +kernel
theorem dX7_readPairs_10 : decode cX7_readPairs 10 = .ok (.ifCond .eq 95, 3) := by decide +kernel
theorem dX7_readPairs_13 : decode cX7_readPairs 13 = .ok (.iconst 0, 1) := by decide +kernel
theorem dX7_readPairs_14 : decode cX7_readPairs 14 = .ok (.istore_n 3, 1) := by decide +kernel
theorem dX7_readPairs_15 : decode cX7_readPairs 15 = .ok (.iload_n 3, 1) := by decide +kernel
theorem dX7_readPairs_16 : decode cX7_readPairs 16 = .ok (.iconst 2, 1) := by decide +kernel
theorem dX7_readPairs_17 : decode cX7_readPairs 17 = .ok (.if_icmp .ge 55, 3) := by decide +kernel
theorem dX7_readPairs_20 : decode cX7_readPairs 20 = .ok (.aload_n 0, 1) := by decide +kernel
theorem dX7_readPairs_21 : decode cX7_readPairs 21 = .ok (.bipush 48, 2) := by decide +kernel
theorem dX7_readPairs_23 : decode cX7_readPairs 23 = .ok (.bipush 57, 2) := by decide +kernel
theorem dX7_readPairs_25 : decode cX7_readPairs 25 = .ok (.invokevirtual 107, 3) := by decide +kernel
theorem dX7_readPairs_28 : decode cX7_readPairs 28 = .ok (.ifCond .ne 6, 3) := by decide +kernel
theorem dX7_readPairs_31 : decode cX7_readPairs 31 = .ok (.bipush (-5), 2) := by decide +kernel
theorem dX7_readPairs_33 : decode cX7_readPairs 33 = .ok (.ireturn, 1) := by decide +kernel
theorem dX7_readPairs_34 : decode cX7_readPairs 34 = .ok (.aload_n 0, 1) := by decide +kernel
theorem dX7_readPairs_35 : decode cX7_readPairs 35 = .ok (.getfield 23, 3) := by decide +kernel
theorem dX7_readPairs_38 : decode cX7_readPairs 38 = .ok (.iconst 2, 1) := by decide +kernel
theorem dX7_readPairs_39 : decode cX7_readPairs 39 = .ok (.iload_n 1, 1) := by decide +kernel
theorem dX7_readPairs_40 : decode cX7_readPairs 40 = .ok (.imul, 1) := by decide +kernel
theorem dX7_readPairs_41 : decode cX7_readPairs 41 = .ok (.iload_n 3, 1) := by decide +kernel
theorem dX7_readPairs_42 : decode cX7_readPairs 42 = .ok (.iadd, 1) := by decide +kernel
theorem dX7_readPairs_43 : decode cX7_readPairs 43 = .ok (.aload_n 0, 1) := by decide +kernel
theorem dX7_readPairs_44 : decode cX7_readPairs 44 = .ok (.getfield 19, 3) := by decide +kernel
theorem dX7_readPairs_47 : decode cX7_readPairs 47 = .ok (.aload_n 0, 1) := by decide +kernel
theorem dX7_readPairs_48 : decode cX7_readPairs 48 = .ok (.getfield 104, 3) := by decide +kernel
theorem dX7_readPairs_51 : decode cX7_readPairs 51 = .ok (.caload, 1) := by decide +kernel
theorem dX7_readPairs_52 : decode cX7_readPairs 52 = .ok (.bipush 48, 2) := by decide +kernel
theorem dX7_readPairs_54 : decode cX7_readPairs 54 = .ok (.isub, 1) := by decide +kernel
theorem dX7_readPairs_55 : decode cX7_readPairs 55 = .ok (.iastore, 1) := by decide +kernel
theorem dX7_readPairs_56 : decode cX7_readPairs 56 = .ok (.aload_n 0, 1) := by decide +kernel
theorem dX7_readPairs_57 : decode cX7_readPairs 57 = .ok (.dup, 1) := by decide +kernel
theorem dX7_readPairs_58 : decode cX7_readPairs 58 = .ok (.getfield 104, 3) := by decide +kernel
theorem dX7_readPairs_61 : decode cX7_readPairs 61 = .ok (.iconst 1, 1) := by decide +kernel
theorem dX7_readPairs_62 : decode cX7_readPairs 62 = .ok (.iadd, 1) := by decide +kernel
theorem dX7_readPairs_63 : decode cX7_readPairs 63 = .ok (.putfield 104, 3) := by decide +kernel
theorem dX7_readPairs_66 : decode cX7_readPairs 66 = .ok (.iinc 3 1, 3) := by decide +kernel
theorem dX7_readPairs_69 : decode cX7_readPairs 69 = .ok (.goto (-54), 3) := by decide +kernel
theorem dX7_readPairs_72 : decode cX7_readPairs 72 = .ok (.iinc 1 1, 3) := by decide +kernel
theorem dX7_readPairs_75 : decode cX7_readPairs 75 = .ok (.aload_n 0, 1) := by decide +kernel
theorem dX7_readPairs_76 : decode cX7_readPairs 76 = .ok (.bipush 44, 2) := by decide +kernel
theorem dX7_readPairs_78 : decode cX7_readPairs 78 = .ok (.bipush 44, 2) := by decide +kernel
theorem dX7_readPairs_80 : decode cX7_readPairs 80 = .ok (.invokevirtual 107, 3) := by decide +kernel
theorem dX7_readPairs_83 : decode cX7_readPairs 83 = .ok (.istore_n 2, 1) := by decide +kernel
theorem dX7_readPairs_84 : decode cX7_readPairs 84 = .ok (.aload_n 0, 1) := by decide +kernel
theorem dX7_readPairs_85 : decode cX7_readPairs 85 = .ok (.dup, 1) := by decide +kernel
theorem dX7_readPairs_86 : decode cX7_readPairs 86 = .ok (.getfield 104, 3) := by decide +kernel
theorem dX7_readPairs_89 : decode cX7_readPairs 89 = .ok (.iload_n 2, 1) := by decide +kernel
theorem dX7_readPairs_90 : decode cX7_readPairs 90 = .ok (.ifCond .eq 7, 3) := by decide +kernel
theorem dX7_readPairs_93 : decode cX7_readPairs 93 = .ok (.iconst 1, 1) := by decide +kernel
theorem dX7_readPairs_94 : decode cX7_readPairs 94 = .ok (.goto 4, 3) := by decide +kernel
theorem dX7_readPairs_97 : decode cX7_readPairs 97 = .ok (.iconst 0, 1) := by decide +kernel
theorem dX7_readPairs_98 : decode cX7_readPairs 98 = .ok (.iadd, 1) := by decide +kernel
theorem dX7_readPairs_99 : decode cX7_readPairs 99 = .ok (.putfield 104, 3) := by decide +kernel
theorem dX7_readPairs_102 : decode cX7_readPairs 102 = .ok (.goto (-93), 3) := by decide +kernel
theorem dX7_readPairs_105 : decode cX7_readPairs 105 = .ok (.aload_n 0, 1) := by decide +kernel
theorem dX7_readPairs_106 : decode cX7_readPairs 106 = .ok (.getfield 104, 3) := by decide +kernel
theorem dX7_readPairs_109 : decode cX7_readPairs 109 = .ok (.aload_n 0, 1) := by decide +kernel
theorem dX7_readPairs_110 : decode cX7_readPairs 110 = .ok (.getfield 101, 3) := by decide +kernel
theorem dX7_readPairs_113 : decode cX7_readPairs 113 = .ok (.if_icmp .ge 8, 3) := by decide +kernel
theorem dX7_readPairs_116 : decode cX7_readPairs 116 = .ok (.bipush (-5), 2) := by decide +kernel
theorem dX7_readPairs_118 : decode cX7_readPairs 118 = .ok (.goto 4, 3) := by decide +kernel
theorem dX7_readPairs_121 : decode cX7_readPairs 121 = .ok (.iload_n 1, 1) := by decide +kernel
theorem dX7_readPairs_122 : decode cX7_readPairs 122 = .ok (.ireturn, 1) := by decide +kernel
theorem dX7_readVotes_0 : decode cX7_readVotes 0 = .ok (.iload_n 1, 1) := by decide +kernel
theorem dX7_readVotes_1 : decode cX7_readVotes 1 = .ok (.invokestatic 51, 3) := by decide +kernel
theorem dX7_readVotes_4 : decode cX7_readVotes 4 = .ok (.ifCond .eq 5, 3) := by decide +kernel
theorem dX7_readVotes_7 : decode cX7_readVotes 7 = .ok (.iconst (-1), 1) := by decide +kernel
theorem dX7_readVotes_8 : decode cX7_readVotes 8 = .ok (.ireturn, 1) := by decide +kernel
theorem dX7_readVotes_9 : decode cX7_readVotes 9 = .ok (.aload_n 0, 1) := by decide +kernel
theorem dX7_readVotes_10 : decode cX7_readVotes 10 = .ok (.invokevirtual 111, 3) := by decide +kernel
theorem dX7_readVotes_13 : decode cX7_readVotes 13 = .ok (.istore_n 2, 1) := by decide +kernel
theorem dX7_readVotes_14 : decode cX7_readVotes 14 = .ok (.iload_n 2, 1) := by decide +kernel
theorem dX7_readVotes_15 : decode cX7_readVotes 15 = .ok (.ifCond .ge 11, 3) := by decide +kernel
theorem dX7_readVotes_18 : decode cX7_readVotes 18 = .ok (.bipush (-100), 2) := by decide +kernel
theorem dX7_readVotes_20 : decode cX7_readVotes 20 = .ok (.aload_n 0, 1) := by decide +kernel
theorem dX7_readVotes_21 : decode cX7_readVotes 21 = .ok (.getfield 104, 3) := by decide +kernel
theorem dX7_readVotes_24 : decode cX7_readVotes 24 = .ok (.isub, 1) := by decide +kernel
theorem dX7_readVotes_25 : decode cX7_readVotes 25 = .ok (.ireturn, 1) := by decide +kernel
theorem dX7_readVotes_26 : decode cX7_readVotes 26 = .ok (.iload_n 1, 1) := by decide +kernel
theorem dX7_readVotes_27 : decode cX7_readVotes 27 = .ok (.iload_n 2, 1) := by decide +kernel
theorem dX7_readVotes_28 : decode cX7_readVotes 28 = .ok (.iadd, 1) := by decide +kernel
theorem dX7_readVotes_29 : decode cX7_readVotes 29 = .ok (.bipush 36, 2) := by decide +kernel
theorem dX7_readVotes_31 : decode cX7_readVotes 31 = .ok (.if_icmp .le 6, 3) := by decide +kernel
theorem dX7_readVotes_34 : decode cX7_readVotes 34 = .ok (.bipush (-2), 2) := by decide +kernel
theorem dX7_readVotes_36 : decode cX7_readVotes 36 = .ok (.ireturn, 1) := by decide +kernel
theorem dX7_readVotes_37 : decode cX7_readVotes 37 = .ok (.aload_n 0, 1) := by decide +kernel
theorem dX7_readVotes_38 : decode cX7_readVotes 38 = .ok (.invokevirtual 48, 3) := by decide +kernel
theorem dX7_readVotes_41 : decode cX7_readVotes 41 = .ok (.iconst 0, 1) := by decide +kernel
theorem dX7_readVotes_42 : decode cX7_readVotes 42 = .ok (.istore_n 3, 1) := by decide +kernel
theorem dX7_readVotes_43 : decode cX7_readVotes 43 = .ok (.iload_n 3, 1) := by decide +kernel
theorem dX7_readVotes_44 : decode cX7_readVotes 44 = .ok (.iconst 2, 1) := by decide +kernel
theorem dX7_readVotes_45 : decode cX7_readVotes 45 = .ok (.iload_n 2, 1) := by decide +kernel
theorem dX7_readVotes_46 : decode cX7_readVotes 46 = .ok (.imul, 1) := by decide +kernel
theorem dX7_readVotes_47 : decode cX7_readVotes 47 = .ok (.if_icmp .ge 27, 3) := by decide +kernel
theorem dX7_readVotes_50 : decode cX7_readVotes 50 = .ok (.aload_n 0, 1) := by decide +kernel
theorem dX7_readVotes_51 : decode cX7_readVotes 51 = .ok (.getfield 7, 3) := by decide +kernel
theorem dX7_readVotes_54 : decode cX7_readVotes 54 = .ok (.iconst 0, 1) := by decide +kernel
theorem dX7_readVotes_55 : decode cX7_readVotes 55 = .ok (.iconst 2, 1) := by decide +kernel
theorem dX7_readVotes_56 : decode cX7_readVotes 56 = .ok (.iload_n 1, 1) := by decide +kernel
theorem dX7_readVotes_57 : decode cX7_readVotes 57 = .ok (.imul, 1) := by decide +kernel
theorem dX7_readVotes_58 : decode cX7_readVotes 58 = .ok (.iadd, 1) := by decide +kernel
theorem dX7_readVotes_59 : decode cX7_readVotes 59 = .ok (.iload_n 3, 1) := by decide +kernel
theorem dX7_readVotes_60 : decode cX7_readVotes 60 = .ok (.iadd, 1) := by decide +kernel
theorem dX7_readVotes_61 : decode cX7_readVotes 61 = .ok (.aload_n 0, 1) := by decide +kernel
theorem dX7_readVotes_62 : decode cX7_readVotes 62 = .ok (.getfield 23, 3) := by decide +kernel
theorem dX7_readVotes_65 : decode cX7_readVotes 65 = .ok (.iload_n 3, 1) := by decide +kernel
theorem dX7_readVotes_66 : decode cX7_readVotes 66 = .ok (.iaload, 1) := by decide +kernel
theorem dX7_readVotes_67 : decode cX7_readVotes 67 = .ok (.iastore, 1) := by decide +kernel
theorem dX7_readVotes_68 : decode cX7_readVotes 68 = .ok (.iinc 3 1, 3) := by decide +kernel
theorem dX7_readVotes_71 : decode cX7_readVotes 71 = .ok (.goto (-28), 3) := by decide +kernel
theorem dX7_readVotes_74 : decode cX7_readVotes 74 = .ok (.iload_n 2, 1) := by decide +kernel
theorem dX7_readVotes_75 : decode cX7_readVotes 75 = .ok (.ireturn, 1) := by decide +kernel
theorem dX7_alikeBeside_0 : decode cX7_alikeBeside 0 = .ok (.aload_n 0, 1) := by decide +kernel
theorem dX7_alikeBeside_1 : decode cX7_alikeBeside 1 = .ok (.iload_n 1, 1) := by decide +kernel
theorem dX7_alikeBeside_2 : decode cX7_alikeBeside 2 = .ok (.invokevirtual 74, 3) := by decide +kernel
theorem dX7_alikeBeside_5 : decode cX7_alikeBeside 5 = .ok (.ifCond .eq 8, 3) := by decide +kernel
theorem dX7_alikeBeside_8 : decode cX7_alikeBeside 8 = .ok (.bipush 79, 2) := by decide +kernel
theorem dX7_alikeBeside_10 : decode cX7_alikeBeside 10 = .ok (.goto 5, 3) := by decide +kernel
theorem dX7_alikeBeside_13 : decode cX7_alikeBeside 13 = .ok (.bipush 115, 2) := by decide +kernel
theorem dX7_alikeBeside_15 : decode cX7_alikeBeside 15 = .ok (.istore_n 2, 1) := by decide +kernel
theorem dX7_alikeBeside_16 : decode cX7_alikeBeside 16 = .ok (.aload_n 0, 1) := by decide +kernel
theorem dX7_alikeBeside_17 : decode cX7_alikeBeside 17 = .ok (.getfield 7, 3) := by decide +kernel
theorem dX7_alikeBeside_20 : decode cX7_alikeBeside 20 = .ok (.iload_n 2, 1) := by decide +kernel
theorem dX7_alikeBeside_21 : decode cX7_alikeBeside 21 = .ok (.iload_n 1, 1) := by decide +kernel
theorem dX7_alikeBeside_22 : decode cX7_alikeBeside 22 = .ok (.iadd, 1) := by decide +kernel
theorem dX7_alikeBeside_23 : decode cX7_alikeBeside 23 = .ok (.iaload, 1) := by decide +kernel
theorem dX7_alikeBeside_24 : decode cX7_alikeBeside 24 = .ok (.istore_n 3, 1) := by decide +kernel
theorem dX7_alikeBeside_25 : decode cX7_alikeBeside 25 = .ok (.iconst 0, 1) := by decide +kernel
theorem dX7_alikeBeside_26 : decode cX7_alikeBeside 26 = .ok (.istore 4, 2) := by decide +kernel
theorem dX7_alikeBeside_28 : decode cX7_alikeBeside 28 = .ok (.iconst 0, 1) := by decide +kernel
theorem dX7_alikeBeside_29 : decode cX7_alikeBeside 29 = .ok (.istore 5, 2) := by decide +kernel
theorem dX7_alikeBeside_31 : decode cX7_alikeBeside 31 = .ok (.iload 5, 2) := by decide +kernel
theorem dX7_alikeBeside_33 : decode cX7_alikeBeside 33 = .ok (.iconst 4, 1) := by decide +kernel
theorem dX7_alikeBeside_34 : decode cX7_alikeBeside 34 = .ok (.if_icmp .ge 49, 3) := by decide +kernel
theorem dX7_alikeBeside_37 : decode cX7_alikeBeside 37 = .ok (.iload_n 3, 1) := by decide +kernel
theorem dX7_alikeBeside_38 : decode cX7_alikeBeside 38 = .ok (.ifCond .lt 45, 3) := by decide +kernel
theorem dX7_alikeBeside_41 : decode cX7_alikeBeside 41 = .ok (.iload_n 1, 1) := by decide +kernel
theorem dX7_alikeBeside_42 : decode cX7_alikeBeside 42 = .ok (.iload 5, 2) := by decide +kernel
theorem dX7_alikeBeside_44 : decode cX7_alikeBeside 44 = .ok (.invokestatic 67, 3) := by decide +kernel
theorem dX7_alikeBeside_47 : decode cX7_alikeBeside 47 = .ok (.istore 6, 2) := by decide +kernel
theorem dX7_alikeBeside_49 : decode cX7_alikeBeside 49 = .ok (.iload 4, 2) := by decide +kernel
theorem dX7_alikeBeside_51 : decode cX7_alikeBeside 51 = .ok (.iload 6, 2) := by decide +kernel
theorem dX7_alikeBeside_53 : decode cX7_alikeBeside 53 = .ok (.ifCond .lt 20, 3) := by decide +kernel
theorem dX7_alikeBeside_56 : decode cX7_alikeBeside 56 = .ok (.aload_n 0, 1) := by decide +kernel
theorem dX7_alikeBeside_57 : decode cX7_alikeBeside 57 = .ok (.getfield 7, 3) := by decide +kernel
theorem dX7_alikeBeside_60 : decode cX7_alikeBeside 60 = .ok (.iload_n 2, 1) := by decide +kernel
theorem dX7_alikeBeside_61 : decode cX7_alikeBeside 61 = .ok (.iload 6, 2) := by decide +kernel
theorem dX7_alikeBeside_63 : decode cX7_alikeBeside 63 = .ok (.iadd, 1) := by decide +kernel
theorem dX7_alikeBeside_64 : decode cX7_alikeBeside 64 = .ok (.iaload, 1) := by decide +kernel
theorem dX7_alikeBeside_65 : decode cX7_alikeBeside 65 = .ok (.iload_n 3, 1) := by decide +kernel
theorem dX7_alikeBeside_66 : decode cX7_alikeBeside 66 = .ok (.if_icmp .ne 7, 3) := by decide +kernel
theorem dX7_alikeBeside_69 : decode cX7_alikeBeside 69 = .ok (.iconst 1, 1) := by decide +kernel
theorem dX7_alikeBeside_70 : decode cX7_alikeBeside 70 = .ok (.goto 4, 3) := by decide +kernel
theorem dX7_alikeBeside_73 : decode cX7_alikeBeside 73 = .ok (.iconst 0, 1) := by decide +kernel
theorem dX7_alikeBeside_74 : decode cX7_alikeBeside 74 = .ok (.iadd, 1) := by decide +kernel
theorem dX7_alikeBeside_75 : decode cX7_alikeBeside 75 = .ok (.istore 4, 2) := by decide +kernel
theorem dX7_alikeBeside_77 : decode cX7_alikeBeside 77 = .ok (.iinc 5 1, 3) := by decide +kernel
theorem dX7_alikeBeside_80 : decode cX7_alikeBeside 80 = .ok (.goto (-49), 3) := by decide +kernel
theorem dX7_alikeBeside_83 : decode cX7_alikeBeside 83 = .ok (.iload 4, 2) := by decide +kernel
theorem dX7_alikeBeside_85 : decode cX7_alikeBeside 85 = .ok (.ireturn, 1) := by decide +kernel
theorem dX7_orNone_0 : decode cX7_orNone 0 = .ok (.iload_n 0, 1) := by decide +kernel
theorem dX7_orNone_1 : decode cX7_orNone 1 = .ok (.ifCond .ge 8, 3) := by decide +kernel
theorem dX7_orNone_4 : decode cX7_orNone 4 = .ok (.bipush (-5), 2) := by decide +kernel
theorem dX7_orNone_6 : decode cX7_orNone 6 = .ok (.goto 4, 3) := by decide +kernel
theorem dX7_orNone_9 : decode cX7_orNone 9 = .ok (.iload_n 0, 1) := by decide +kernel
theorem dX7_orNone_10 : decode cX7_orNone 10 = .ok (.ireturn, 1) := by decide +kernel
theorem dX7_cell_0 : decode cX7_cell 0 = .ok (.iload_n 1, 1) := by decide +kernel
theorem dX7_cell_1 : decode cX7_cell 1 = .ok (.invokestatic 51, 3) := by decide +kernel
theorem dX7_cell_4 : decode cX7_cell 4 = .ok (.ifCond .eq 5, 3) := by decide +kernel
theorem dX7_cell_7 : decode cX7_cell 7 = .ok (.iconst (-1), 1) := by decide +kernel
theorem dX7_cell_8 : decode cX7_cell 8 = .ok (.ireturn, 1) := by decide +kernel
theorem dX7_cell_9 : decode cX7_cell 9 = .ok (.iload_n 2, 1) := by decide +kernel
theorem dX7_cell_10 : decode cX7_cell 10 = .ok (.tableswitch 77 0 4 #[34, 34, 45, 58, 71], 34) := by decide +kernel
theorem dX7_cell_44 : decode cX7_cell 44 = .ok (.aload_n 0, 1) := by decide +kernel
theorem dX7_cell_45 : decode cX7_cell 45 = .ok (.getfield 7, 3) := by decide +kernel
theorem dX7_cell_48 : decode cX7_cell 48 = .ok (.iconst 2, 1) := by decide +kernel
theorem dX7_cell_49 : decode cX7_cell 49 = .ok (.iload_n 1, 1) := by decide +kernel
theorem dX7_cell_50 : decode cX7_cell 50 = .ok (.imul, 1) := by decide +kernel
theorem dX7_cell_51 : decode cX7_cell 51 = .ok (.iload_n 2, 1) := by decide +kernel
theorem dX7_cell_52 : decode cX7_cell 52 = .ok (.iadd, 1) := by decide +kernel
theorem dX7_cell_53 : decode cX7_cell 53 = .ok (.iaload, 1) := by decide +kernel
theorem dX7_cell_54 : decode cX7_cell 54 = .ok (.ireturn, 1) := by decide +kernel
theorem dX7_cell_55 : decode cX7_cell 55 = .ok (.aload_n 0, 1) := by decide +kernel
theorem dX7_cell_56 : decode cX7_cell 56 = .ok (.getfield 7, 3) := by decide +kernel
theorem dX7_cell_59 : decode cX7_cell 59 = .ok (.bipush 79, 2) := by decide +kernel
theorem dX7_cell_61 : decode cX7_cell 61 = .ok (.iload_n 1, 1) := by decide +kernel
theorem dX7_cell_62 : decode cX7_cell 62 = .ok (.iadd, 1) := by decide +kernel
theorem dX7_cell_63 : decode cX7_cell 63 = .ok (.iaload, 1) := by decide +kernel
theorem dX7_cell_64 : decode cX7_cell 64 = .ok (.invokestatic 114, 3) := by decide +kernel
theorem dX7_cell_67 : decode cX7_cell 67 = .ok (.ireturn, 1) := by decide +kernel
theorem dX7_cell_68 : decode cX7_cell 68 = .ok (.aload_n 0, 1) := by decide +kernel
theorem dX7_cell_69 : decode cX7_cell 69 = .ok (.getfield 7, 3) := by decide +kernel
theorem dX7_cell_72 : decode cX7_cell 72 = .ok (.bipush 115, 2) := by decide +kernel
theorem dX7_cell_74 : decode cX7_cell 74 = .ok (.iload_n 1, 1) := by decide +kernel
theorem dX7_cell_75 : decode cX7_cell 75 = .ok (.iadd, 1) := by decide +kernel
theorem dX7_cell_76 : decode cX7_cell 76 = .ok (.iaload, 1) := by decide +kernel
theorem dX7_cell_77 : decode cX7_cell 77 = .ok (.invokestatic 114, 3) := by decide +kernel
theorem dX7_cell_80 : decode cX7_cell 80 = .ok (.ireturn, 1) := by decide +kernel
theorem dX7_cell_81 : decode cX7_cell 81 = .ok (.aload_n 0, 1) := by decide +kernel
theorem dX7_cell_82 : decode cX7_cell 82 = .ok (.iload_n 1, 1) := by decide +kernel
theorem dX7_cell_83 : decode cX7_cell 83 = .ok (.invokevirtual 117, 3) := by decide +kernel
theorem dX7_cell_86 : decode cX7_cell 86 = .ok (.ireturn, 1) := by decide +kernel
theorem dX7_cell_87 : decode cX7_cell 87 = .ok (.bipush (-2), 2) := by decide +kernel
theorem dX7_cell_89 : decode cX7_cell 89 = .ok (.ireturn, 1) := by decide +kernel
theorem dX7_part_0 : decode cX7_part 0 = .ok (.iload_n 1, 1) := by decide +kernel
theorem dX7_part_1 : decode cX7_part 1 = .ok (.iconst 0, 1) := by decide +kernel
theorem dX7_part_2 : decode cX7_part 2 = .ok (.aload_n 0, 1) := by decide +kernel
theorem dX7_part_3 : decode cX7_part 3 = .ok (.invokevirtual 77, 3) := by decide +kernel
theorem dX7_part_6 : decode cX7_part 6 = .ok (.iconst 1, 1) := by decide +kernel
theorem dX7_part_7 : decode cX7_part 7 = .ok (.isub, 1) := by decide +kernel
theorem dX7_part_8 : decode cX7_part 8 = .ok (.invokestatic 36, 3) := by decide +kernel
theorem dX7_part_11 : decode cX7_part 11 = .ok (.ifCond .ne 5, 3) := by decide +kernel
theorem dX7_part_14 : decode cX7_part 14 = .ok (.iconst (-1), 1) := by decide +kernel
theorem dX7_part_15 : decode cX7_part 15 = .ok (.ireturn, 1) := by decide +kernel
theorem dX7_part_16 : decode cX7_part 16 = .ok (.iload_n 2, 1) := by decide +kernel
theorem dX7_part_17 : decode cX7_part 17 = .ok (.tableswitch 89 0 5 #[39, 47, 53, 61, 73, 81], 39) := by decide +kernel
theorem dX7_part_56 : decode cX7_part 56 = .ok (.aload_n 0, 1) := by decide +kernel
theorem dX7_part_57 : decode cX7_part 57 = .ok (.bipush 79, 2) := by decide +kernel
theorem dX7_part_59 : decode cX7_part 59 = .ok (.iload_n 1, 1) := by decide +kernel
theorem dX7_part_60 : decode cX7_part 60 = .ok (.invokevirtual 80, 3) := by decide +kernel
theorem dX7_part_63 : decode cX7_part 63 = .ok (.ireturn, 1) := by decide +kernel
theorem dX7_part_64 : decode cX7_part 64 = .ok (.aload_n 0, 1) := by decide +kernel
theorem dX7_part_65 : decode cX7_part 65 = .ok (.iload_n 1, 1) := by decide +kernel
theorem dX7_part_66 : decode cX7_part 66 = .ok (.invokevirtual 83, 3) := by decide +kernel
theorem dX7_part_69 : decode cX7_part 69 = .ok (.ireturn, 1) := by decide +kernel
theorem dX7_part_70 : decode cX7_part 70 = .ok (.aload_n 0, 1) := by decide +kernel
theorem dX7_part_71 : decode cX7_part 71 = .ok (.bipush 79, 2) := by decide +kernel
theorem dX7_part_73 : decode cX7_part 73 = .ok (.iload_n 1, 1) := by decide +kernel
theorem dX7_part_74 : decode cX7_part 74 = .ok (.invokevirtual 120, 3) := by decide +kernel
theorem dX7_part_77 : decode cX7_part 77 = .ok (.ireturn, 1) := by decide +kernel
theorem dX7_part_78 : decode cX7_part 78 = .ok (.sipush 1000, 3) := by decide +kernel
theorem dX7_part_81 : decode cX7_part 81 = .ok (.aload_n 0, 1) := by decide +kernel
theorem dX7_part_82 : decode cX7_part 82 = .ok (.bipush 79, 2) := by decide +kernel
theorem dX7_part_84 : decode cX7_part 84 = .ok (.iload_n 1, 1) := by decide +kernel
theorem dX7_part_85 : decode cX7_part 85 = .ok (.invokevirtual 63, 3) := by decide +kernel
theorem dX7_part_88 : decode cX7_part 88 = .ok (.iadd, 1) := by decide +kernel
theorem dX7_part_89 : decode cX7_part 89 = .ok (.ireturn, 1) := by decide +kernel
theorem dX7_part_90 : decode cX7_part 90 = .ok (.aload_n 0, 1) := by decide +kernel
theorem dX7_part_91 : decode cX7_part 91 = .ok (.bipush 79, 2) := by decide +kernel
theorem dX7_part_93 : decode cX7_part 93 = .ok (.iload_n 1, 1) := by decide +kernel
theorem dX7_part_94 : decode cX7_part 94 = .ok (.invokevirtual 123, 3) := by decide +kernel
theorem dX7_part_97 : decode cX7_part 97 = .ok (.ireturn, 1) := by decide +kernel
theorem dX7_part_98 : decode cX7_part 98 = .ok (.aload_n 0, 1) := by decide +kernel
theorem dX7_part_99 : decode cX7_part 99 = .ok (.bipush 79, 2) := by decide +kernel
theorem dX7_part_101 : decode cX7_part 101 = .ok (.iload_n 1, 1) := by decide +kernel
theorem dX7_part_102 : decode cX7_part 102 = .ok (.invokevirtual 126, 3) := by decide +kernel
theorem dX7_part_105 : decode cX7_part 105 = .ok (.ireturn, 1) := by decide +kernel
theorem dX7_part_106 : decode cX7_part 106 = .ok (.bipush (-2), 2) := by decide +kernel
theorem dX7_part_108 : decode cX7_part 108 = .ok (.ireturn, 1) := by decide +kernel
theorem dX7_wasted_0 : decode cX7_wasted 0 = .ok (.aload_n 0, 1) := by decide +kernel
theorem dX7_wasted_1 : decode cX7_wasted 1 = .ok (.bipush 115, 2) := by decide +kernel
theorem dX7_wasted_3 : decode cX7_wasted 3 = .ok (.iload_n 1, 1) := by decide +kernel
theorem dX7_wasted_4 : decode cX7_wasted 4 = .ok (.iload_n 2, 1) := by decide +kernel
theorem dX7_wasted_5 : decode cX7_wasted 5 = .ok (.invokevirtual 59, 3) := by decide +kernel
theorem dX7_wasted_8 : decode cX7_wasted 8 = .ok (.istore_n 3, 1) := by decide +kernel
theorem dX7_wasted_9 : decode cX7_wasted 9 = .ok (.aload_n 0, 1) := by decide +kernel
theorem dX7_wasted_10 : decode cX7_wasted 10 = .ok (.bipush 115, 2) := by decide +kernel
theorem dX7_wasted_12 : decode cX7_wasted 12 = .ok (.iload_n 1, 1) := by decide +kernel
theorem dX7_wasted_13 : decode cX7_wasted 13 = .ok (.iconst 1, 1) := by decide +kernel
theorem dX7_wasted_14 : decode cX7_wasted 14 = .ok (.iload_n 2, 1) := by decide +kernel
theorem dX7_wasted_15 : decode cX7_wasted 15 = .ok (.isub, 1) := by decide +kernel
theorem dX7_wasted_16 : decode cX7_wasted 16 = .ok (.invokevirtual 59, 3) := by decide +kernel
theorem dX7_wasted_19 : decode cX7_wasted 19 = .ok (.istore 4, 2) := by decide +kernel
theorem dX7_wasted_21 : decode cX7_wasted 21 = .ok (.iload_n 3, 1) := by decide +kernel
theorem dX7_wasted_22 : decode cX7_wasted 22 = .ok (.iload 4, 2) := by decide +kernel
theorem dX7_wasted_24 : decode cX7_wasted 24 = .ok (.if_icmp .le 12, 3) := by decide +kernel
theorem dX7_wasted_27 : decode cX7_wasted 27 = .ok (.iload_n 3, 1) := by decide +kernel
theorem dX7_wasted_28 : decode cX7_wasted 28 = .ok (.iload 4, 2) := by decide +kernel
theorem dX7_wasted_30 : decode cX7_wasted 30 = .ok (.isub, 1) := by decide +kernel
theorem dX7_wasted_31 : decode cX7_wasted 31 = .ok (.iconst 1, 1) := by decide +kernel
theorem dX7_wasted_32 : decode cX7_wasted 32 = .ok (.isub, 1) := by decide +kernel
theorem dX7_wasted_33 : decode cX7_wasted 33 = .ok (.goto 4, 3) := by decide +kernel
theorem dX7_wasted_36 : decode cX7_wasted 36 = .ok (.iload_n 3, 1) := by decide +kernel
theorem dX7_wasted_37 : decode cX7_wasted 37 = .ok (.ireturn, 1) := by decide +kernel
theorem dX7_district_0 : decode cX7_district 0 = .ok (.iload_n 1, 1) := by decide +kernel
theorem dX7_district_1 : decode cX7_district 1 = .ok (.iconst 0, 1) := by decide +kernel
theorem dX7_district_2 : decode cX7_district 2 = .ok (.aload_n 0, 1) := by decide +kernel
theorem dX7_district_3 : decode cX7_district 3 = .ok (.getfield 7, 3) := by decide +kernel
theorem dX7_district_6 : decode cX7_district 6 = .ok (.bipush 77, 2) := by decide +kernel
theorem dX7_district_8 : decode cX7_district 8 = .ok (.iaload, 1) := by decide +kernel
theorem dX7_district_9 : decode cX7_district 9 = .ok (.iconst 1, 1) := by decide +kernel
theorem dX7_district_10 : decode cX7_district 10 = .ok (.isub, 1) := by decide +kernel
theorem dX7_district_11 : decode cX7_district 11 = .ok (.invokestatic 36, 3) := by decide +kernel
theorem dX7_district_14 : decode cX7_district 14 = .ok (.ifCond .ne 5, 3) := by decide +kernel
theorem dX7_district_17 : decode cX7_district 17 = .ok (.iconst (-1), 1) := by decide +kernel
theorem dX7_district_18 : decode cX7_district 18 = .ok (.ireturn, 1) := by decide +kernel
theorem dX7_district_19 : decode cX7_district 19 = .ok (.iload_n 2, 1) := by decide +kernel
theorem dX7_district_20 : decode cX7_district 20 = .ok (.tableswitch 113 0 7 #[48, 56, 67, 75, 87, 95, 103, 103], 48) := by decide +kernel
theorem dX7_district_68 : decode cX7_district 68 = .ok (.aload_n 0, 1) := by decide +kernel
theorem dX7_district_69 : decode cX7_district 69 = .ok (.bipush 115, 2) := by decide +kernel
theorem dX7_district_71 : decode cX7_district 71 = .ok (.iload_n 1, 1) := by decide +kernel
theorem dX7_district_72 : decode cX7_district 72 = .ok (.invokevirtual 80, 3) := by decide +kernel
theorem dX7_district_75 : decode cX7_district 75 = .ok (.ireturn, 1) := by decide +kernel
theorem dX7_district_76 : decode cX7_district 76 = .ok (.aload_n 0, 1) := by decide +kernel
theorem dX7_district_77 : decode cX7_district 77 = .ok (.getfield 7, 3) := by decide +kernel
theorem dX7_district_80 : decode cX7_district 80 = .ok (.sipush 187, 3) := by decide +kernel
theorem dX7_district_83 : decode cX7_district 83 = .ok (.iload_n 1, 1) := by decide +kernel
theorem dX7_district_84 : decode cX7_district 84 = .ok (.iadd, 1) := by decide +kernel
theorem dX7_district_85 : decode cX7_district 85 = .ok (.iaload, 1) := by decide +kernel
theorem dX7_district_86 : decode cX7_district 86 = .ok (.ireturn, 1) := by decide +kernel
theorem dX7_district_87 : decode cX7_district 87 = .ok (.aload_n 0, 1) := by decide +kernel
theorem dX7_district_88 : decode cX7_district 88 = .ok (.bipush 115, 2) := by decide +kernel
theorem dX7_district_90 : decode cX7_district 90 = .ok (.iload_n 1, 1) := by decide +kernel
theorem dX7_district_91 : decode cX7_district 91 = .ok (.invokevirtual 120, 3) := by decide +kernel
theorem dX7_district_94 : decode cX7_district 94 = .ok (.ireturn, 1) := by decide +kernel
theorem dX7_district_95 : decode cX7_district 95 = .ok (.sipush 1000, 3) := by decide +kernel
theorem dX7_district_98 : decode cX7_district 98 = .ok (.aload_n 0, 1) := by decide +kernel
theorem dX7_district_99 : decode cX7_district 99 = .ok (.bipush 115, 2) := by decide +kernel
theorem dX7_district_101 : decode cX7_district 101 = .ok (.iload_n 1, 1) := by decide +kernel
theorem dX7_district_102 : decode cX7_district 102 = .ok (.invokevirtual 63, 3) := by decide +kernel
theorem dX7_district_105 : decode cX7_district 105 = .ok (.iadd, 1) := by decide +kernel
theorem dX7_district_106 : decode cX7_district 106 = .ok (.ireturn, 1) := by decide +kernel
theorem dX7_district_107 : decode cX7_district 107 = .ok (.aload_n 0, 1) := by decide +kernel
theorem dX7_district_108 : decode cX7_district 108 = .ok (.bipush 115, 2) := by decide +kernel
theorem dX7_district_110 : decode cX7_district 110 = .ok (.iload_n 1, 1) := by decide +kernel
theorem dX7_district_111 : decode cX7_district 111 = .ok (.invokevirtual 123, 3) := by decide +kernel
theorem dX7_district_114 : decode cX7_district 114 = .ok (.ireturn, 1) := by decide +kernel
theorem dX7_district_115 : decode cX7_district 115 = .ok (.aload_n 0, 1) := by decide +kernel
theorem dX7_district_116 : decode cX7_district 116 = .ok (.bipush 115, 2) := by decide +kernel
theorem dX7_district_118 : decode cX7_district 118 = .ok (.iload_n 1, 1) := by decide +kernel
theorem dX7_district_119 : decode cX7_district 119 = .ok (.invokevirtual 126, 3) := by decide +kernel
theorem dX7_district_122 : decode cX7_district 122 = .ok (.ireturn, 1) := by decide +kernel
theorem dX7_district_123 : decode cX7_district 123 = .ok (.aload_n 0, 1) := by decide +kernel
theorem dX7_district_124 : decode cX7_district 124 = .ok (.iload_n 1, 1) := by decide +kernel
theorem dX7_district_125 : decode cX7_district 125 = .ok (.iload_n 2, 1) := by decide +kernel
theorem dX7_district_126 : decode cX7_district 126 = .ok (.bipush 6, 2) := by decide +kernel
theorem dX7_district_128 : decode cX7_district 128 = .ok (.isub, 1) := by decide +kernel
theorem dX7_district_129 : decode cX7_district 129 = .ok (.invokevirtual 129, 3) := by decide +kernel
theorem dX7_district_132 : decode cX7_district 132 = .ok (.ireturn, 1) := by decide +kernel
theorem dX7_district_133 : decode cX7_district 133 = .ok (.bipush (-2), 2) := by decide +kernel
theorem dX7_district_135 : decode cX7_district 135 = .ok (.ireturn, 1) := by decide +kernel
theorem dX7_why_0 : decode cX7_why 0 = .ok (.iload_n 1, 1) := by decide +kernel
theorem dX7_why_1 : decode cX7_why 1 = .ok (.iconst 0, 1) := by decide +kernel
theorem dX7_why_2 : decode cX7_why 2 = .ok (.iconst 1, 1) := by decide +kernel
theorem dX7_why_3 : decode cX7_why 3 = .ok (.invokestatic 36, 3) := by decide +kernel
theorem dX7_why_6 : decode cX7_why 6 = .ok (.ifCond .ne 6, 3) := by decide +kernel
theorem dX7_why_9 : decode cX7_why 9 = .ok (.bipush (-2), 2) := by decide +kernel
theorem dX7_why_11 : decode cX7_why 11 = .ok (.ireturn, 1) := by decide +kernel
theorem dX7_why_12 : decode cX7_why 12 = .ok (.aload_n 0, 1) := by decide +kernel
theorem dX7_why_13 : decode cX7_why 13 = .ok (.invokevirtual 87, 3) := by decide +kernel
theorem dX7_why_16 : decode cX7_why 16 = .ok (.ifCond .eq 6, 3) := by decide +kernel
theorem dX7_why_19 : decode cX7_why 19 = .ok (.bipush (-4), 2) := by decide +kernel
theorem dX7_why_21 : decode cX7_why 21 = .ok (.ireturn, 1) := by decide +kernel
theorem dX7_why_22 : decode cX7_why 22 = .ok (.aload_n 0, 1) := by decide +kernel
theorem dX7_why_23 : decode cX7_why 23 = .ok (.invokevirtual 91, 3) := by decide +kernel
theorem dX7_why_26 : decode cX7_why 26 = .ok (.istore_n 2, 1) := by decide +kernel
theorem dX7_why_27 : decode cX7_why 27 = .ok (.iload_n 1, 1) := by decide +kernel
theorem dX7_why_28 : decode cX7_why 28 = .ok (.ifCond .ne 10, 3) := by decide +kernel
theorem dX7_why_31 : decode cX7_why 31 = .ok (.iload_n 2, 1) := by decide +kernel
theorem dX7_why_32 : decode cX7_why 32 = .ok (.bipush 10, 2) := by decide +kernel
theorem dX7_why_34 : decode cX7_why 34 = .ok (.irem, 1) := by decide +kernel
theorem dX7_why_35 : decode cX7_why 35 = .ok (.goto 16, 3) := by decide +kernel
theorem dX7_why_38 : decode cX7_why 38 = .ok (.iload_n 2, 1) := by decide +kernel
theorem dX7_why_39 : decode cX7_why 39 = .ok (.ifCond .ne 8, 3) := by decide +kernel
theorem dX7_why_42 : decode cX7_why 42 = .ok (.bipush (-5), 2) := by decide +kernel
theorem dX7_why_44 : decode cX7_why 44 = .ok (.goto 7, 3) := by decide +kernel
theorem dX7_why_47 : decode cX7_why 47 = .ok (.iload_n 2, 1) := by decide +kernel
theorem dX7_why_48 : decode cX7_why 48 = .ok (.bipush 10, 2) := by decide +kernel
theorem dX7_why_50 : decode cX7_why 50 = .ok (.idiv, 1) := by decide +kernel
theorem dX7_why_51 : decode cX7_why 51 = .ok (.ireturn, 1) := by decide +kernel
theorem dX7_advice_0 : decode cX7_advice 0 = .ok (.aload_n 0, 1) := by decide +kernel
theorem dX7_advice_1 : decode cX7_advice 1 = .ok (.getfield 7, 3) := by decide +kernel
theorem dX7_advice_4 : decode cX7_advice 4 = .ok (.bipush 75, 2) := by decide +kernel
theorem dX7_advice_6 : decode cX7_advice 6 = .ok (.iaload, 1) := by decide +kernel
theorem dX7_advice_7 : decode cX7_advice 7 = .ok (.iconst 1, 1) := by decide +kernel
theorem dX7_advice_8 : decode cX7_advice 8 = .ok (.if_icmp .eq 6, 3) := by decide +kernel
theorem dX7_advice_11 : decode cX7_advice 11 = .ok (.bipush (-4), 2) := by decide +kernel
theorem dX7_advice_13 : decode cX7_advice 13 = .ok (.ireturn, 1) := by decide +kernel
theorem dX7_advice_14 : decode cX7_advice 14 = .ok (.iconst 1, 1) := by decide +kernel
theorem dX7_advice_15 : decode cX7_advice 15 = .ok (.aload_n 0, 1) := by decide +kernel
theorem dX7_advice_16 : decode cX7_advice 16 = .ok (.getfield 7, 3) := by decide +kernel
theorem dX7_advice_19 : decode cX7_advice 19 = .ok (.bipush 76, 2) := by decide +kernel
theorem dX7_advice_21 : decode cX7_advice 21 = .ok (.iaload, 1) := by decide +kernel
theorem dX7_advice_22 : decode cX7_advice 22 = .ok (.isub, 1) := by decide +kernel
theorem dX7_advice_23 : decode cX7_advice 23 = .ok (.istore_n 1, 1) := by decide +kernel
theorem dX7_advice_24 : decode cX7_advice 24 = .ok (.bipush (-5), 2) := by decide +kernel
theorem dX7_advice_26 : decode cX7_advice 26 = .ok (.istore_n 2, 1) := by decide +kernel
theorem dX7_advice_27 : decode cX7_advice 27 = .ok (.iconst 0, 1) := by decide +kernel
theorem dX7_advice_28 : decode cX7_advice 28 = .ok (.istore_n 3, 1) := by decide +kernel
theorem dX7_advice_29 : decode cX7_advice 29 = .ok (.iconst 0, 1) := by decide +kernel
theorem dX7_advice_30 : decode cX7_advice 30 = .ok (.istore 4, 2) := by decide +kernel
theorem dX7_advice_32 : decode cX7_advice 32 = .ok (.iconst 0, 1) := by decide +kernel
theorem dX7_advice_33 : decode cX7_advice 33 = .ok (.istore 5, 2) := by decide +kernel
theorem dX7_advice_35 : decode cX7_advice 35 = .ok (.iconst 0, 1) := by decide +kernel
theorem dX7_advice_36 : decode cX7_advice 36 = .ok (.istore 6, 2) := by decide +kernel
theorem dX7_advice_38 : decode cX7_advice 38 = .ok (.iload 6, 2) := by decide +kernel
theorem dX7_advice_40 : decode cX7_advice 40 = .ok (.aload_n 0, 1) := by decide +kernel
theorem dX7_advice_41 : decode cX7_advice 41 = .ok (.invokevirtual 77, 3) := by decide +kernel
theorem dX7_advice_44 : decode cX7_advice 44 = .ok (.if_icmp .ge 79, 3) := by decide +kernel
theorem dX7_advice_47 : decode cX7_advice 47 = .ok (.iload_n 1, 1) := by decide +kernel
theorem dX7_advice_48 : decode cX7_advice 48 = .ok (.ifCond .ne 14, 3) := by decide +kernel
theorem dX7_advice_51 : decode cX7_advice 51 = .ok (.aload_n 0, 1) := by decide +kernel
theorem dX7_advice_52 : decode cX7_advice 52 = .ok (.bipush 79, 2) := by decide +kernel
theorem dX7_advice_54 : decode cX7_advice 54 = .ok (.iload 6, 2) := by decide +kernel
theorem dX7_advice_56 : decode cX7_advice 56 = .ok (.invokevirtual 63, 3) := by decide +kernel
theorem dX7_advice_59 : decode cX7_advice 59 = .ok (.goto 12, 3) := by decide +kernel
theorem dX7_advice_62 : decode cX7_advice 62 = .ok (.aload_n 0, 1) := by decide +kernel
theorem dX7_advice_63 : decode cX7_advice 63 = .ok (.bipush 79, 2) := by decide +kernel
theorem dX7_advice_65 : decode cX7_advice 65 = .ok (.iload 6, 2) := by decide +kernel
theorem dX7_advice_67 : decode cX7_advice 67 = .ok (.invokevirtual 63, 3) := by decide +kernel
theorem dX7_advice_70 : decode cX7_advice 70 = .ok (.ineg, 1) := by decide +kernel
theorem dX7_advice_71 : decode cX7_advice 71 = .ok (.istore 7, 2) := by decide +kernel
theorem dX7_advice_73 : decode cX7_advice 73 = .ok (.iload 7, 2) := by decide +kernel
theorem dX7_advice_75 : decode cX7_advice 75 = .ok (.ifCond .le 21, 3) := by decide +kernel
theorem dX7_advice_78 : decode cX7_advice 78 = .ok (.iload_n 2, 1) := by decide +kernel
theorem dX7_advice_79 : decode cX7_advice 79 = .ok (.ifCond .lt 10, 3) := by decide +kernel
theorem dX7_advice_82 : decode cX7_advice 82 = .ok (.iload 7, 2) := by decide +kernel
theorem dX7_advice_84 : decode cX7_advice 84 = .ok (.iload 4, 2) := by decide +kernel
theorem dX7_advice_86 : decode cX7_advice 86 = .ok (.if_icmp .ge 10, 3) := by decide +kernel
theorem dX7_advice_89 : decode cX7_advice 89 = .ok (.iload 6, 2) := by decide +kernel
theorem dX7_advice_91 : decode cX7_advice 91 = .ok (.istore_n 2, 1) := by decide +kernel
theorem dX7_advice_92 : decode cX7_advice 92 = .ok (.iload 7, 2) := by decide +kernel
theorem dX7_advice_94 : decode cX7_advice 94 = .ok (.istore 4, 2) := by decide +kernel
theorem dX7_advice_96 : decode cX7_advice 96 = .ok (.iload 6, 2) := by decide +kernel
theorem dX7_advice_98 : decode cX7_advice 98 = .ok (.ifCond .eq 11, 3) := by decide +kernel
theorem dX7_advice_101 : decode cX7_advice 101 = .ok (.iload 7, 2) := by decide +kernel
theorem dX7_advice_103 : decode cX7_advice 103 = .ok (.ineg, 1) := by decide +kernel
theorem dX7_advice_104 : decode cX7_advice 104 = .ok (.iload 5, 2) := by decide +kernel
theorem dX7_advice_106 : decode cX7_advice 106 = .ok (.if_icmp .le 11, 3) := by decide +kernel
theorem dX7_advice_109 : decode cX7_advice 109 = .ok (.iload 6, 2) := by decide +kernel
theorem dX7_advice_111 : decode cX7_advice 111 = .ok (.istore_n 3, 1) := by decide +kernel
theorem dX7_advice_112 : decode cX7_advice 112 = .ok (.iload 7, 2) := by decide +kernel
theorem dX7_advice_114 : decode cX7_advice 114 = .ok (.ineg, 1) := by decide +kernel
theorem dX7_advice_115 : decode cX7_advice 115 = .ok (.istore 5, 2) := by decide +kernel
theorem dX7_advice_117 : decode cX7_advice 117 = .ok (.iinc 6 1, 3) := by decide +kernel
theorem dX7_advice_120 : decode cX7_advice 120 = .ok (.goto (-82), 3) := by decide +kernel
theorem dX7_advice_123 : decode cX7_advice 123 = .ok (.iload_n 2, 1) := by decide +kernel
theorem dX7_advice_124 : decode cX7_advice 124 = .ok (.ifCond .ge 7, 3) := by decide +kernel
theorem dX7_advice_127 : decode cX7_advice 127 = .ok (.iload_n 3, 1) := by decide +kernel
theorem dX7_advice_128 : decode cX7_advice 128 = .ok (.goto 4, 3) := by decide +kernel
theorem dX7_advice_131 : decode cX7_advice 131 = .ok (.iload_n 2, 1) := by decide +kernel
theorem dX7_advice_132 : decode cX7_advice 132 = .ok (.ireturn, 1) := by decide +kernel
theorem dX7_seats_0 : decode cX7_seats 0 = .ok (.iconst 0, 1) := by decide +kernel
theorem dX7_seats_1 : decode cX7_seats 1 = .ok (.istore_n 2, 1) := by decide +kernel
theorem dX7_seats_2 : decode cX7_seats 2 = .ok (.iconst 0, 1) := by decide +kernel
theorem dX7_seats_3 : decode cX7_seats 3 = .ok (.istore_n 3, 1) := by decide +kernel
theorem dX7_seats_4 : decode cX7_seats 4 = .ok (.iload_n 3, 1) := by decide +kernel
theorem dX7_seats_5 : decode cX7_seats 5 = .ok (.aload_n 0, 1) := by decide +kernel
theorem dX7_seats_6 : decode cX7_seats 6 = .ok (.getfield 7, 3) := by decide +kernel
theorem dX7_seats_9 : decode cX7_seats 9 = .ok (.bipush 77, 2) := by decide +kernel
theorem dX7_seats_11 : decode cX7_seats 11 = .ok (.iaload, 1) := by decide +kernel
theorem dX7_seats_12 : decode cX7_seats 12 = .ok (.if_icmp .ge 28, 3) := by decide +kernel
theorem dX7_seats_15 : decode cX7_seats 15 = .ok (.iload_n 2, 1) := by decide +kernel
theorem dX7_seats_16 : decode cX7_seats 16 = .ok (.aload_n 0, 1) := by decide +kernel
theorem dX7_seats_17 : decode cX7_seats 17 = .ok (.bipush 115, 2) := by decide +kernel
theorem dX7_seats_19 : decode cX7_seats 19 = .ok (.iload_n 3, 1) := by decide +kernel
theorem dX7_seats_20 : decode cX7_seats 20 = .ok (.invokevirtual 123, 3) := by decide +kernel
theorem dX7_seats_23 : decode cX7_seats 23 = .ok (.iload_n 1, 1) := by decide +kernel
theorem dX7_seats_24 : decode cX7_seats 24 = .ok (.if_icmp .ne 7, 3) := by decide +kernel
theorem dX7_seats_27 : decode cX7_seats 27 = .ok (.iconst 1, 1) := by decide +kernel
theorem dX7_seats_28 : decode cX7_seats 28 = .ok (.goto 4, 3) := by decide +kernel
theorem dX7_seats_31 : decode cX7_seats 31 = .ok (.iconst 0, 1) := by decide +kernel
theorem dX7_seats_32 : decode cX7_seats 32 = .ok (.iadd, 1) := by decide +kernel
theorem dX7_seats_33 : decode cX7_seats 33 = .ok (.istore_n 2, 1) := by decide +kernel
theorem dX7_seats_34 : decode cX7_seats 34 = .ok (.iinc 3 1, 3) := by decide +kernel
theorem dX7_seats_37 : decode cX7_seats 37 = .ok (.goto (-33), 3) := by decide +kernel
theorem dX7_seats_40 : decode cX7_seats 40 = .ok (.iload_n 2, 1) := by decide +kernel
theorem dX7_seats_41 : decode cX7_seats 41 = .ok (.ireturn, 1) := by decide +kernel
theorem dX7_votesOnMap_0 : decode cX7_votesOnMap 0 = .ok (.iconst 0, 1) := by decide +kernel
theorem dX7_votesOnMap_1 : decode cX7_votesOnMap 1 = .ok (.istore_n 2, 1) := by decide +kernel
theorem dX7_votesOnMap_2 : decode cX7_votesOnMap 2 = .ok (.iconst 0, 1) := by decide +kernel
theorem dX7_votesOnMap_3 : decode cX7_votesOnMap 3 = .ok (.istore_n 3, 1) := by decide +kernel
theorem dX7_votesOnMap_4 : decode cX7_votesOnMap 4 = .ok (.iload_n 3, 1) := by decide +kernel
theorem dX7_votesOnMap_5 : decode cX7_votesOnMap 5 = .ok (.bipush 36, 2) := by decide +kernel
theorem dX7_votesOnMap_7 : decode cX7_votesOnMap 7 = .ok (.if_icmp .ge 22, 3) := by decide +kernel
theorem dX7_votesOnMap_10 : decode cX7_votesOnMap 10 = .ok (.iload_n 2, 1) := by decide +kernel
theorem dX7_votesOnMap_11 : decode cX7_votesOnMap 11 = .ok (.aload_n 0, 1) := by decide +kernel
theorem dX7_votesOnMap_12 : decode cX7_votesOnMap 12 = .ok (.getfield 7, 3) := by decide +kernel
theorem dX7_votesOnMap_15 : decode cX7_votesOnMap 15 = .ok (.iconst 2, 1) := by decide +kernel
theorem dX7_votesOnMap_16 : decode cX7_votesOnMap 16 = .ok (.iload_n 3, 1) := by decide +kernel
theorem dX7_votesOnMap_17 : decode cX7_votesOnMap 17 = .ok (.imul, 1) := by decide +kernel
theorem dX7_votesOnMap_18 : decode cX7_votesOnMap 18 = .ok (.iload_n 1, 1) := by decide +kernel
theorem dX7_votesOnMap_19 : decode cX7_votesOnMap 19 = .ok (.iadd, 1) := by decide +kernel
theorem dX7_votesOnMap_20 : decode cX7_votesOnMap 20 = .ok (.iaload, 1) := by decide +kernel
theorem dX7_votesOnMap_21 : decode cX7_votesOnMap 21 = .ok (.iadd, 1) := by decide +kernel
theorem dX7_votesOnMap_22 : decode cX7_votesOnMap 22 = .ok (.istore_n 2, 1) := by decide +kernel
theorem dX7_votesOnMap_23 : decode cX7_votesOnMap 23 = .ok (.iinc 3 1, 3) := by decide +kernel
theorem dX7_votesOnMap_26 : decode cX7_votesOnMap 26 = .ok (.goto (-22), 3) := by decide +kernel
theorem dX7_votesOnMap_29 : decode cX7_votesOnMap 29 = .ok (.iload_n 2, 1) := by decide +kernel
theorem dX7_votesOnMap_30 : decode cX7_votesOnMap 30 = .ok (.ireturn, 1) := by decide +kernel
theorem dX7_party_0 : decode cX7_party 0 = .ok (.iload_n 1, 1) := by decide +kernel
theorem dX7_party_1 : decode cX7_party 1 = .ok (.iconst 0, 1) := by decide +kernel
theorem dX7_party_2 : decode cX7_party 2 = .ok (.iconst 1, 1) := by decide +kernel
theorem dX7_party_3 : decode cX7_party 3 = .ok (.invokestatic 36, 3) := by decide +kernel
theorem dX7_party_6 : decode cX7_party 6 = .ok (.ifCond .ne 5, 3) := by decide +kernel
theorem dX7_party_9 : decode cX7_party 9 = .ok (.iconst (-1), 1) := by decide +kernel
theorem dX7_party_10 : decode cX7_party 10 = .ok (.ireturn, 1) := by decide +kernel
theorem dX7_party_11 : decode cX7_party 11 = .ok (.iconst 0, 1) := by decide +kernel
theorem dX7_party_12 : decode cX7_party 12 = .ok (.istore_n 3, 1) := by decide +kernel
theorem dX7_party_13 : decode cX7_party 13 = .ok (.iload_n 2, 1) := by decide +kernel
theorem dX7_party_14 : decode cX7_party 14 = .ok (.tableswitch 139 0 4 #[34, 40, 46, 79, 99], 34) := by decide +kernel
theorem dX7_party_48 : decode cX7_party 48 = .ok (.aload_n 0, 1) := by decide +kernel
theorem dX7_party_49 : decode cX7_party 49 = .ok (.iload_n 1, 1) := by decide +kernel
theorem dX7_party_50 : decode cX7_party 50 = .ok (.invokevirtual 132, 3) := by decide +kernel
theorem dX7_party_53 : decode cX7_party 53 = .ok (.ireturn, 1) := by decide +kernel
theorem dX7_party_54 : decode cX7_party 54 = .ok (.aload_n 0, 1) := by decide +kernel
theorem dX7_party_55 : decode cX7_party 55 = .ok (.iload_n 1, 1) := by decide +kernel
theorem dX7_party_56 : decode cX7_party 56 = .ok (.invokevirtual 135, 3) := by decide +kernel
theorem dX7_party_59 : decode cX7_party 59 = .ok (.ireturn, 1) := by decide +kernel
theorem dX7_party_60 : decode cX7_party 60 = .ok (.iconst 0, 1) := by decide +kernel
theorem dX7_party_61 : decode cX7_party 61 = .ok (.istore 4, 2) := by decide +kernel
theorem dX7_party_63 : decode cX7_party 63 = .ok (.iload 4, 2) := by decide +kernel
theorem dX7_party_65 : decode cX7_party 65 = .ok (.aload_n 0, 1) := by decide +kernel
theorem dX7_party_66 : decode cX7_party 66 = .ok (.getfield 7, 3) := by decide +kernel
theorem dX7_party_69 : decode cX7_party 69 = .ok (.bipush 77, 2) := by decide +kernel
theorem dX7_party_71 : decode cX7_party 71 = .ok (.iaload, 1) := by decide +kernel
theorem dX7_party_72 : decode cX7_party 72 = .ok (.if_icmp .ge 19, 3) := by decide +kernel
theorem dX7_party_75 : decode cX7_party 75 = .ok (.iload_n 3, 1) := by decide +kernel
theorem dX7_party_76 : decode cX7_party 76 = .ok (.aload_n 0, 1) := by decide +kernel
theorem dX7_party_77 : decode cX7_party 77 = .ok (.iload 4, 2) := by decide +kernel
theorem dX7_party_79 : decode cX7_party 79 = .ok (.iload_n 1, 1) := by decide +kernel
theorem dX7_party_80 : decode cX7_party 80 = .ok (.invokevirtual 129, 3) := by decide +kernel
theorem dX7_party_83 : decode cX7_party 83 = .ok (.iadd, 1) := by decide +kernel
theorem dX7_party_84 : decode cX7_party 84 = .ok (.istore_n 3, 1) := by decide +kernel
theorem dX7_party_85 : decode cX7_party 85 = .ok (.iinc 4 1, 3) := by decide +kernel
theorem dX7_party_88 : decode cX7_party 88 = .ok (.goto (-25), 3) := by decide +kernel
theorem dX7_party_91 : decode cX7_party 91 = .ok (.iload_n 3, 1) := by decide +kernel
theorem dX7_party_92 : decode cX7_party 92 = .ok (.ireturn, 1) := by decide +kernel
theorem dX7_party_93 : decode cX7_party 93 = .ok (.sipush 1000, 3) := by decide +kernel
theorem dX7_party_96 : decode cX7_party 96 = .ok (.aload_n 0, 1) := by decide +kernel
theorem dX7_party_97 : decode cX7_party 97 = .ok (.iload_n 1, 1) := by decide +kernel
theorem dX7_party_98 : decode cX7_party 98 = .ok (.invokevirtual 132, 3) := by decide +kernel
theorem dX7_party_101 : decode cX7_party 101 = .ok (.iadd, 1) := by decide +kernel
theorem dX7_party_102 : decode cX7_party 102 = .ok (.aload_n 0, 1) := by decide +kernel
theorem dX7_party_103 : decode cX7_party 103 = .ok (.getfield 7, 3) := by decide +kernel
theorem dX7_party_106 : decode cX7_party 106 = .ok (.bipush 73, 2) := by decide +kernel
theorem dX7_party_108 : decode cX7_party 108 = .ok (.iload_n 1, 1) := by decide +kernel
theorem dX7_party_109 : decode cX7_party 109 = .ok (.iadd, 1) := by decide +kernel
theorem dX7_party_110 : decode cX7_party 110 = .ok (.iaload, 1) := by decide +kernel
theorem dX7_party_111 : decode cX7_party 111 = .ok (.isub, 1) := by decide +kernel
theorem dX7_party_112 : decode cX7_party 112 = .ok (.ireturn, 1) := by decide +kernel
theorem dX7_party_113 : decode cX7_party 113 = .ok (.iconst 0, 1) := by decide +kernel
theorem dX7_party_114 : decode cX7_party 114 = .ok (.istore 4, 2) := by decide +kernel
theorem dX7_party_116 : decode cX7_party 116 = .ok (.iload 4, 2) := by decide +kernel
theorem dX7_party_118 : decode cX7_party 118 = .ok (.aload_n 0, 1) := by decide +kernel
theorem dX7_party_119 : decode cX7_party 119 = .ok (.invokevirtual 77, 3) := by decide +kernel
theorem dX7_party_122 : decode cX7_party 122 = .ok (.if_icmp .ge 29, 3) := by decide +kernel
theorem dX7_party_125 : decode cX7_party 125 = .ok (.iload_n 3, 1) := by decide +kernel
theorem dX7_party_126 : decode cX7_party 126 = .ok (.aload_n 0, 1) := by decide +kernel
theorem dX7_party_127 : decode cX7_party 127 = .ok (.bipush 79, 2) := by decide +kernel
theorem dX7_party_129 : decode cX7_party 129 = .ok (.iload 4, 2) := by decide +kernel
theorem dX7_party_131 : decode cX7_party 131 = .ok (.invokevirtual 123, 3) := by decide +kernel
theorem dX7_party_134 : decode cX7_party 134 = .ok (.iload_n 1, 1) := by decide +kernel
theorem dX7_party_135 : decode cX7_party 135 = .ok (.if_icmp .ne 7, 3) := by decide +kernel
theorem dX7_party_138 : decode cX7_party 138 = .ok (.iconst 1, 1) := by decide +kernel
theorem dX7_party_139 : decode cX7_party 139 = .ok (.goto 4, 3) := by decide +kernel
theorem dX7_party_142 : decode cX7_party 142 = .ok (.iconst 0, 1) := by decide +kernel
theorem dX7_party_143 : decode cX7_party 143 = .ok (.iadd, 1) := by decide +kernel
theorem dX7_party_144 : decode cX7_party 144 = .ok (.istore_n 3, 1) := by decide +kernel
theorem dX7_party_145 : decode cX7_party 145 = .ok (.iinc 4 1, 3) := by decide +kernel
theorem dX7_party_148 : decode cX7_party 148 = .ok (.goto (-32), 3) := by decide +kernel
theorem dX7_party_151 : decode cX7_party 151 = .ok (.iload_n 3, 1) := by decide +kernel
theorem dX7_party_152 : decode cX7_party 152 = .ok (.ireturn, 1) := by decide +kernel
theorem dX7_party_153 : decode cX7_party 153 = .ok (.bipush (-2), 2) := by decide +kernel
theorem dX7_party_155 : decode cX7_party 155 = .ok (.ireturn, 1) := by decide +kernel
theorem dX7_fairness_0 : decode cX7_fairness 0 = .ok (.aload_n 0, 1) := by decide +kernel
theorem dX7_fairness_1 : decode cX7_fairness 1 = .ok (.iconst 0, 1) := by decide +kernel
theorem dX7_fairness_2 : decode cX7_fairness 2 = .ok (.invokevirtual 135, 3) := by decide +kernel
theorem dX7_fairness_5 : decode cX7_fairness 5 = .ok (.aload_n 0, 1) := by decide +kernel
theorem dX7_fairness_6 : decode cX7_fairness 6 = .ok (.iconst 1, 1) := by decide +kernel
theorem dX7_fairness_7 : decode cX7_fairness 7 = .ok (.invokevirtual 135, 3) := by decide +kernel
theorem dX7_fairness_10 : decode cX7_fairness 10 = .ok (.iadd, 1) := by decide +kernel
theorem dX7_fairness_11 : decode cX7_fairness 11 = .ok (.istore_n 1, 1) := by decide +kernel
theorem dX7_fairness_12 : decode cX7_fairness 12 = .ok (.ldc 138, 2) := by decide +kernel
theorem dX7_fairness_14 : decode cX7_fairness 14 = .ok (.aload_n 0, 1) := by decide +kernel
theorem dX7_fairness_15 : decode cX7_fairness 15 = .ok (.iconst 0, 1) := by decide +kernel
theorem dX7_fairness_16 : decode cX7_fairness 16 = .ok (.invokevirtual 132, 3) := by decide +kernel
theorem dX7_fairness_19 : decode cX7_fairness 19 = .ok (.iload_n 1, 1) := by decide +kernel
theorem dX7_fairness_20 : decode cX7_fairness 20 = .ok (.imul, 1) := by decide +kernel
theorem dX7_fairness_21 : decode cX7_fairness 21 = .ok (.iadd, 1) := by decide +kernel
theorem dX7_fairness_22 : decode cX7_fairness 22 = .ok (.aload_n 0, 1) := by decide +kernel
theorem dX7_fairness_23 : decode cX7_fairness 23 = .ok (.getfield 7, 3) := by decide +kernel
theorem dX7_fairness_26 : decode cX7_fairness 26 = .ok (.bipush 77, 2) := by decide +kernel
theorem dX7_fairness_28 : decode cX7_fairness 28 = .ok (.iaload, 1) := by decide +kernel
theorem dX7_fairness_29 : decode cX7_fairness 29 = .ok (.aload_n 0, 1) := by decide +kernel
theorem dX7_fairness_30 : decode cX7_fairness 30 = .ok (.iconst 0, 1) := by decide +kernel
theorem dX7_fairness_31 : decode cX7_fairness 31 = .ok (.invokevirtual 135, 3) := by decide +kernel
theorem dX7_fairness_34 : decode cX7_fairness 34 = .ok (.imul, 1) := by decide +kernel
theorem dX7_fairness_35 : decode cX7_fairness 35 = .ok (.isub, 1) := by decide +kernel
theorem dX7_fairness_36 : decode cX7_fairness 36 = .ok (.ireturn, 1) := by decide +kernel
theorem dX7_allBorders_0 : decode cX7_allBorders 0 = .ok (.iconst 0, 1) := by decide +kernel
theorem dX7_allBorders_1 : decode cX7_allBorders 1 = .ok (.istore_n 1, 1) := by decide +kernel
theorem dX7_allBorders_2 : decode cX7_allBorders 2 = .ok (.iconst 0, 1) := by decide +kernel
theorem dX7_allBorders_3 : decode cX7_allBorders 3 = .ok (.istore_n 2, 1) := by decide +kernel
theorem dX7_allBorders_4 : decode cX7_allBorders 4 = .ok (.iload_n 2, 1) := by decide +kernel
theorem dX7_allBorders_5 : decode cX7_allBorders 5 = .ok (.aload_n 0, 1) := by decide +kernel
theorem dX7_allBorders_6 : decode cX7_allBorders 6 = .ok (.getfield 7, 3) := by decide +kernel
theorem dX7_allBorders_9 : decode cX7_allBorders 9 = .ok (.bipush 77, 2) := by decide +kernel
theorem dX7_allBorders_11 : decode cX7_allBorders 11 = .ok (.iaload, 1) := by decide +kernel
theorem dX7_allBorders_12 : decode cX7_allBorders 12 = .ok (.if_icmp .ge 19, 3) := by decide +kernel
theorem dX7_allBorders_15 : decode cX7_allBorders 15 = .ok (.iload_n 1, 1) := by decide +kernel
theorem dX7_allBorders_16 : decode cX7_allBorders 16 = .ok (.aload_n 0, 1) := by decide +kernel
theorem dX7_allBorders_17 : decode cX7_allBorders 17 = .ok (.bipush 115, 2) := by decide +kernel
theorem dX7_allBorders_19 : decode cX7_allBorders 19 = .ok (.iload_n 2, 1) := by decide +kernel
theorem dX7_allBorders_20 : decode cX7_allBorders 20 = .ok (.invokevirtual 120, 3) := by decide +kernel
theorem dX7_allBorders_23 : decode cX7_allBorders 23 = .ok (.iadd, 1) := by decide +kernel
theorem dX7_allBorders_24 : decode cX7_allBorders 24 = .ok (.istore_n 1, 1) := by decide +kernel
theorem dX7_allBorders_25 : decode cX7_allBorders 25 = .ok (.iinc 2 1, 3) := by decide +kernel
theorem dX7_allBorders_28 : decode cX7_allBorders 28 = .ok (.goto (-24), 3) := by decide +kernel
theorem dX7_allBorders_31 : decode cX7_allBorders 31 = .ok (.iload_n 1, 1) := by decide +kernel
theorem dX7_allBorders_32 : decode cX7_allBorders 32 = .ok (.ireturn, 1) := by decide +kernel
theorem dX7_withoutPart_0 : decode cX7_withoutPart 0 = .ok (.iconst 0, 1) := by decide +kernel
theorem dX7_withoutPart_1 : decode cX7_withoutPart 1 = .ok (.istore_n 1, 1) := by decide +kernel
theorem dX7_withoutPart_2 : decode cX7_withoutPart 2 = .ok (.iconst 0, 1) := by decide +kernel
theorem dX7_withoutPart_3 : decode cX7_withoutPart 3 = .ok (.istore_n 2, 1) := by decide +kernel
theorem dX7_withoutPart_4 : decode cX7_withoutPart 4 = .ok (.iload_n 2, 1) := by decide +kernel
theorem dX7_withoutPart_5 : decode cX7_withoutPart 5 = .ok (.bipush 36, 2) := by decide +kernel
theorem dX7_withoutPart_7 : decode cX7_withoutPart 7 = .ok (.if_icmp .ge 37, 3) := by decide +kernel
theorem dX7_withoutPart_10 : decode cX7_withoutPart 10 = .ok (.iload_n 1, 1) := by decide +kernel
theorem dX7_withoutPart_11 : decode cX7_withoutPart 11 = .ok (.aload_n 0, 1) := by decide +kernel
theorem dX7_withoutPart_12 : decode cX7_withoutPart 12 = .ok (.iload_n 2, 1) := by decide +kernel
theorem dX7_withoutPart_13 : decode cX7_withoutPart 13 = .ok (.invokevirtual 74, 3) := by decide +kernel
theorem dX7_withoutPart_16 : decode cX7_withoutPart 16 = .ok (.ifCond .eq 19, 3) := by decide +kernel
theorem dX7_withoutPart_19 : decode cX7_withoutPart 19 = .ok (.aload_n 0, 1) := by decide +kernel
theorem dX7_withoutPart_20 : decode cX7_withoutPart 20 = .ok (.getfield 7, 3) := by decide +kernel
theorem dX7_withoutPart_23 : decode cX7_withoutPart 23 = .ok (.bipush 79, 2) := by decide +kernel
theorem dX7_withoutPart_25 : decode cX7_withoutPart 25 = .ok (.iload_n 2, 1) := by decide +kernel
theorem dX7_withoutPart_26 : decode cX7_withoutPart 26 = .ok (.iadd, 1) := by decide +kernel
theorem dX7_withoutPart_27 : decode cX7_withoutPart 27 = .ok (.iaload, 1) := by decide +kernel
theorem dX7_withoutPart_28 : decode cX7_withoutPart 28 = .ok (.ifCond .ge 7, 3) := by decide +kernel
theorem dX7_withoutPart_31 : decode cX7_withoutPart 31 = .ok (.iconst 1, 1) := by decide +kernel
theorem dX7_withoutPart_32 : decode cX7_withoutPart 32 = .ok (.goto 4, 3) := by decide +kernel
theorem dX7_withoutPart_35 : decode cX7_withoutPart 35 = .ok (.iconst 0, 1) := by decide +kernel
theorem dX7_withoutPart_36 : decode cX7_withoutPart 36 = .ok (.iadd, 1) := by decide +kernel
theorem dX7_withoutPart_37 : decode cX7_withoutPart 37 = .ok (.istore_n 1, 1) := by decide +kernel
theorem dX7_withoutPart_38 : decode cX7_withoutPart 38 = .ok (.iinc 2 1, 3) := by decide +kernel
theorem dX7_withoutPart_41 : decode cX7_withoutPart 41 = .ok (.goto (-37), 3) := by decide +kernel
theorem dX7_withoutPart_44 : decode cX7_withoutPart 44 = .ok (.iload_n 1, 1) := by decide +kernel
theorem dX7_withoutPart_45 : decode cX7_withoutPart 45 = .ok (.ireturn, 1) := by decide +kernel
theorem dX7_count_0 : decode cX7_count 0 = .ok (.iload_n 1, 1) := by decide +kernel
theorem dX7_count_1 : decode cX7_count 1 = .ok (.tableswitch 177 0 11 #[63, 71, 76, 84, 89, 97, 143, 151, 156, 161, 167, 172], 63) := by decide +kernel
theorem dX7_count_64 : decode cX7_count 64 = .ok (.aload_n 0, 1) := by decide +kernel
theorem dX7_count_65 : decode cX7_count 65 = .ok (.getfield 7, 3) := by decide +kernel
theorem dX7_count_68 : decode cX7_count 68 = .ok (.bipush 72, 2) := by decide +kernel
theorem dX7_count_70 : decode cX7_count 70 = .ok (.iaload, 1) := by decide +kernel
theorem dX7_count_71 : decode cX7_count 71 = .ok (.ireturn, 1) := by decide +kernel
theorem dX7_count_72 : decode cX7_count 72 = .ok (.aload_n 0, 1) := by decide +kernel
theorem dX7_count_73 : decode cX7_count 73 = .ok (.invokevirtual 55, 3) := by decide +kernel
theorem dX7_count_76 : decode cX7_count 76 = .ok (.ireturn, 1) := by decide +kernel
theorem dX7_count_77 : decode cX7_count 77 = .ok (.aload_n 0, 1) := by decide +kernel
theorem dX7_count_78 : decode cX7_count 78 = .ok (.getfield 7, 3) := by decide +kernel
theorem dX7_count_81 : decode cX7_count 81 = .ok (.bipush 77, 2) := by decide +kernel
theorem dX7_count_83 : decode cX7_count 83 = .ok (.iaload, 1) := by decide +kernel
theorem dX7_count_84 : decode cX7_count 84 = .ok (.ireturn, 1) := by decide +kernel
theorem dX7_count_85 : decode cX7_count 85 = .ok (.aload_n 0, 1) := by decide +kernel
theorem dX7_count_86 : decode cX7_count 86 = .ok (.invokevirtual 77, 3) := by decide +kernel
theorem dX7_count_89 : decode cX7_count 89 = .ok (.ireturn, 1) := by decide +kernel
theorem dX7_count_90 : decode cX7_count 90 = .ok (.aload_n 0, 1) := by decide +kernel
theorem dX7_count_91 : decode cX7_count 91 = .ok (.getfield 7, 3) := by decide +kernel
theorem dX7_count_94 : decode cX7_count 94 = .ok (.bipush 75, 2) := by decide +kernel
theorem dX7_count_96 : decode cX7_count 96 = .ok (.iaload, 1) := by decide +kernel
theorem dX7_count_97 : decode cX7_count 97 = .ok (.ireturn, 1) := by decide +kernel
theorem dX7_count_98 : decode cX7_count 98 = .ok (.aload_n 0, 1) := by decide +kernel
theorem dX7_count_99 : decode cX7_count 99 = .ok (.getfield 7, 3) := by decide +kernel
theorem dX7_count_102 : decode cX7_count 102 = .ok (.bipush 75, 2) := by decide +kernel
theorem dX7_count_104 : decode cX7_count 104 = .ok (.iaload, 1) := by decide +kernel
theorem dX7_count_105 : decode cX7_count 105 = .ok (.iconst 2, 1) := by decide +kernel
theorem dX7_count_106 : decode cX7_count 106 = .ok (.if_icmp .ne 8, 3) := by decide +kernel
theorem dX7_count_109 : decode cX7_count 109 = .ok (.bipush (-5), 2) := by decide +kernel
theorem dX7_count_111 : decode cX7_count 111 = .ok (.goto 32, 3) := by decide +kernel
theorem dX7_count_114 : decode cX7_count 114 = .ok (.aload_n 0, 1) := by decide +kernel
theorem dX7_count_115 : decode cX7_count 115 = .ok (.getfield 7, 3) := by decide +kernel
theorem dX7_count_118 : decode cX7_count 118 = .ok (.bipush 75, 2) := by decide +kernel
theorem dX7_count_120 : decode cX7_count 120 = .ok (.iaload, 1) := by decide +kernel
theorem dX7_count_121 : decode cX7_count 121 = .ok (.ifCond .ne 13, 3) := by decide +kernel
theorem dX7_count_124 : decode cX7_count 124 = .ok (.aload_n 0, 1) := by decide +kernel
theorem dX7_count_125 : decode cX7_count 125 = .ok (.getfield 7, 3) := by decide +kernel
theorem dX7_count_128 : decode cX7_count 128 = .ok (.bipush 76, 2) := by decide +kernel
theorem dX7_count_130 : decode cX7_count 130 = .ok (.iaload, 1) := by decide +kernel
theorem dX7_count_131 : decode cX7_count 131 = .ok (.goto 12, 3) := by decide +kernel
theorem dX7_count_134 : decode cX7_count 134 = .ok (.iconst 1, 1) := by decide +kernel
theorem dX7_count_135 : decode cX7_count 135 = .ok (.aload_n 0, 1) := by decide +kernel
theorem dX7_count_136 : decode cX7_count 136 = .ok (.getfield 7, 3) := by decide +kernel
theorem dX7_count_139 : decode cX7_count 139 = .ok (.bipush 76, 2) := by decide +kernel
theorem dX7_count_141 : decode cX7_count 141 = .ok (.iaload, 1) := by decide +kernel
theorem dX7_count_142 : decode cX7_count 142 = .ok (.isub, 1) := by decide +kernel
theorem dX7_count_143 : decode cX7_count 143 = .ok (.ireturn, 1) := by decide +kernel
theorem dX7_count_144 : decode cX7_count 144 = .ok (.aload_n 0, 1) := by decide +kernel
theorem dX7_count_145 : decode cX7_count 145 = .ok (.bipush 115, 2) := by decide +kernel
theorem dX7_count_147 : decode cX7_count 147 = .ok (.iconst (-1), 1) := by decide +kernel
theorem dX7_count_148 : decode cX7_count 148 = .ok (.invokevirtual 80, 3) := by decide +kernel
theorem dX7_count_151 : decode cX7_count 151 = .ok (.ireturn, 1) := by decide +kernel
theorem dX7_count_152 : decode cX7_count 152 = .ok (.aload_n 0, 1) := by decide +kernel
theorem dX7_count_153 : decode cX7_count 153 = .ok (.invokevirtual 139, 3) := by decide +kernel
theorem dX7_count_156 : decode cX7_count 156 = .ok (.ireturn, 1) := by decide +kernel
theorem dX7_count_157 : decode cX7_count 157 = .ok (.aload_n 0, 1) := by decide +kernel
theorem dX7_count_158 : decode cX7_count 158 = .ok (.invokevirtual 142, 3) := by decide +kernel
theorem dX7_count_161 : decode cX7_count 161 = .ok (.ireturn, 1) := by decide +kernel
theorem dX7_count_162 : decode cX7_count 162 = .ok (.aload_n 0, 1) := by decide +kernel
theorem dX7_count_163 : decode cX7_count 163 = .ok (.iconst 2, 1) := by decide +kernel
theorem dX7_count_164 : decode cX7_count 164 = .ok (.invokevirtual 132, 3) := by decide +kernel
theorem dX7_count_167 : decode cX7_count 167 = .ok (.ireturn, 1) := by decide +kernel
theorem dX7_count_168 : decode cX7_count 168 = .ok (.aload_n 0, 1) := by decide +kernel
theorem dX7_count_169 : decode cX7_count 169 = .ok (.getfield 40, 3) := by decide +kernel
theorem dX7_count_172 : decode cX7_count 172 = .ok (.ireturn, 1) := by decide +kernel
theorem dX7_count_173 : decode cX7_count 173 = .ok (.aload_n 0, 1) := by decide +kernel
theorem dX7_count_174 : decode cX7_count 174 = .ok (.getfield 101, 3) := by decide +kernel
theorem dX7_count_177 : decode cX7_count 177 = .ok (.ireturn, 1) := by decide +kernel
theorem dX7_count_178 : decode cX7_count 178 = .ok (.bipush (-2), 2) := by decide +kernel
theorem dX7_count_180 : decode cX7_count 180 = .ok (.ireturn, 1) := by decide +kernel
end
section
theorem dL_law_0 : decode cL_law 0 = .ok (.new 7, 3) := by decide +kernel
theorem dL_law_3 : decode cL_law 3 = .ok (.dup, 1) := by decide +kernel
theorem dL_law_4 : decode cL_law 4 = .ok (.invokespecial 9, 3) := by decide +kernel
theorem dL_law_7 : decode cL_law 7 = .ok (.astore_n 1, 1) := by decide +kernel
theorem dL_law_8 : decode cL_law 8 = .ok (.new 10, 3) := by decide +kernel
theorem dL_law_11 : decode cL_law 11 = .ok (.dup, 1) := by decide +kernel
theorem dL_law_12 : decode cL_law 12 = .ok (.invokespecial 12, 3) := by decide +kernel
theorem dL_law_15 : decode cL_law 15 = .ok (.astore_n 2, 1) := by decide +kernel
theorem dL_law_16 : decode cL_law 16 = .ok (.iconst 0, 1) := by decide +kernel
theorem dL_law_17 : decode cL_law 17 = .ok (.istore_n 3, 1) := by decide +kernel
theorem dL_law_18 : decode cL_law 18 = .ok (.iload_n 3, 1) := by decide +kernel
theorem dL_law_19 : decode cL_law 19 = .ok (.aload_n 0, 1) := by decide +kernel
theorem dL_law_20 : decode cL_law 20 = .ok (.arraylength, 1) := by decide +kernel
theorem dL_law_21 : decode cL_law 21 = .ok (.iconst 4, 1) := by decide +kernel
theorem dL_law_22 : decode cL_law 22 = .ok (.isub, 1) := by decide +kernel
theorem dL_law_23 : decode cL_law 23 = .ok (.if_icmp .gt 680, 3) := by decide +kernel
theorem dL_law_26 : decode cL_law 26 = .ok (.aload_n 0, 1) := by decide +kernel
theorem dL_law_27 : decode cL_law 27 = .ok (.iload_n 3, 1) := by decide +kernel
theorem dL_law_28 : decode cL_law 28 = .ok (.iaload, 1) := by decide +kernel
theorem dL_law_29 : decode cL_law 29 = .ok (.bipush 31, 2) := by decide +kernel
theorem dL_law_31 : decode cL_law 31 = .ok (.iand, 1) := by decide +kernel
theorem dL_law_32 : decode cL_law 32 = .ok (.tableswitch 665 0 22 #[108, 151, 174, 207, 240, 273, 312, 325, 338, 361, 386, 399, 422, 435, 448, 461, 494, 527, 560, 583, 596, 629, 642], 108) := by decide +kernel
theorem dL_law_140 : decode cL_law 140 = .ok (.aload_n 1, 1) := by decide +kernel
theorem dL_law_141 : decode cL_law 141 = .ok (.aload_n 0, 1) := by decide +kernel
theorem dL_law_142 : decode cL_law 142 = .ok (.iload_n 3, 1) := by decide +kernel
theorem dL_law_143 : decode cL_law 143 = .ok (.iconst 1, 1) := by decide +kernel
theorem dL_law_144 : decode cL_law 144 = .ok (.iadd, 1) := by decide +kernel
theorem dL_law_145 : decode cL_law 145 = .ok (.iaload, 1) := by decide +kernel
theorem dL_law_146 : decode cL_law 146 = .ok (.aload_n 0, 1) := by decide +kernel
theorem dL_law_147 : decode cL_law 147 = .ok (.iload_n 3, 1) := by decide +kernel
theorem dL_law_148 : decode cL_law 148 = .ok (.iconst 2, 1) := by decide +kernel
theorem dL_law_149 : decode cL_law 149 = .ok (.iadd, 1) := by decide +kernel
theorem dL_law_150 : decode cL_law 150 = .ok (.iaload, 1) := by decide +kernel
theorem dL_law_151 : decode cL_law 151 = .ok (.aload_n 0, 1) := by decide +kernel
theorem dL_law_152 : decode cL_law 152 = .ok (.iload_n 3, 1) := by decide +kernel
theorem dL_law_153 : decode cL_law 153 = .ok (.iconst 3, 1) := by decide +kernel
theorem dL_law_154 : decode cL_law 154 = .ok (.iadd, 1) := by decide +kernel
theorem dL_law_155 : decode cL_law 155 = .ok (.iaload, 1) := by decide +kernel
theorem dL_law_156 : decode cL_law 156 = .ok (.invokevirtual 13, 3) := by decide +kernel
theorem dL_law_159 : decode cL_law 159 = .ok (.aload_n 2, 1) := by decide +kernel
theorem dL_law_160 : decode cL_law 160 = .ok (.aload_n 0, 1) := by decide +kernel
theorem dL_law_161 : decode cL_law 161 = .ok (.iload_n 3, 1) := by decide +kernel
theorem dL_law_162 : decode cL_law 162 = .ok (.iconst 1, 1) := by decide +kernel
theorem dL_law_163 : decode cL_law 163 = .ok (.iadd, 1) := by decide +kernel
theorem dL_law_164 : decode cL_law 164 = .ok (.iaload, 1) := by decide +kernel
theorem dL_law_165 : decode cL_law 165 = .ok (.aload_n 0, 1) := by decide +kernel
theorem dL_law_166 : decode cL_law 166 = .ok (.iload_n 3, 1) := by decide +kernel
theorem dL_law_167 : decode cL_law 167 = .ok (.iconst 2, 1) := by decide +kernel
theorem dL_law_168 : decode cL_law 168 = .ok (.iadd, 1) := by decide +kernel
theorem dL_law_169 : decode cL_law 169 = .ok (.iaload, 1) := by decide +kernel
theorem dL_law_170 : decode cL_law 170 = .ok (.aload_n 0, 1) := by decide +kernel
theorem dL_law_171 : decode cL_law 171 = .ok (.iload_n 3, 1) := by decide +kernel
theorem dL_law_172 : decode cL_law 172 = .ok (.iconst 3, 1) := by decide +kernel
theorem dL_law_173 : decode cL_law 173 = .ok (.iadd, 1) := by decide +kernel
theorem dL_law_174 : decode cL_law 174 = .ok (.iaload, 1) := by decide +kernel
theorem dL_law_175 : decode cL_law 175 = .ok (.invokevirtual 17, 3) := by decide +kernel
theorem dL_law_178 : decode cL_law 178 = .ok (.if_icmp .eq 519, 3) := by decide +kernel
theorem dL_law_181 : decode cL_law 181 = .ok (.iconst 0, 1) := by decide +kernel
theorem dL_law_182 : decode cL_law 182 = .ok (.ireturn, 1) := by decide +kernel
theorem dL_law_183 : decode cL_law 183 = .ok (.aload_n 1, 1) := by decide +kernel
theorem dL_law_184 : decode cL_law 184 = .ok (.aload_n 0, 1) := by decide +kernel
theorem dL_law_185 : decode cL_law 185 = .ok (.iload_n 3, 1) := by decide +kernel
theorem dL_law_186 : decode cL_law 186 = .ok (.iconst 1, 1) := by decide +kernel
theorem dL_law_187 : decode cL_law 187 = .ok (.iadd, 1) := by decide +kernel
theorem dL_law_188 : decode cL_law 188 = .ok (.iaload, 1) := by decide +kernel
theorem dL_law_189 : decode cL_law 189 = .ok (.invokevirtual 18, 3) := by decide +kernel
theorem dL_law_192 : decode cL_law 192 = .ok (.aload_n 2, 1) := by decide +kernel
theorem dL_law_193 : decode cL_law 193 = .ok (.aload_n 0, 1) := by decide +kernel
theorem dL_law_194 : decode cL_law 194 = .ok (.iload_n 3, 1) := by decide +kernel
theorem dL_law_195 : decode cL_law 195 = .ok (.iconst 1, 1) := by decide +kernel
theorem dL_law_196 : decode cL_law 196 = .ok (.iadd, 1) := by decide +kernel
theorem dL_law_197 : decode cL_law 197 = .ok (.iaload, 1) := by decide +kernel
theorem dL_law_198 : decode cL_law 198 = .ok (.invokevirtual 22, 3) := by decide +kernel
theorem dL_law_201 : decode cL_law 201 = .ok (.if_icmp .eq 496, 3) := by decide +kernel
theorem dL_law_204 : decode cL_law 204 = .ok (.iconst 0, 1) := by decide +kernel
theorem dL_law_205 : decode cL_law 205 = .ok (.ireturn, 1) := by decide +kernel
theorem dL_law_206 : decode cL_law 206 = .ok (.aload_n 1, 1) := by decide +kernel
theorem dL_law_207 : decode cL_law 207 = .ok (.aload_n 0, 1) := by decide +kernel
theorem dL_law_208 : decode cL_law 208 = .ok (.iload_n 3, 1) := by decide +kernel
theorem dL_law_209 : decode cL_law 209 = .ok (.iconst 1, 1) := by decide +kernel
theorem dL_law_210 : decode cL_law 210 = .ok (.iadd, 1) := by decide +kernel
theorem dL_law_211 : decode cL_law 211 = .ok (.iaload, 1) := by decide +kernel
theorem dL_law_212 : decode cL_law 212 = .ok (.aload_n 0, 1) := by decide +kernel
theorem dL_law_213 : decode cL_law 213 = .ok (.iload_n 3, 1) := by decide +kernel
theorem dL_law_214 : decode cL_law 214 = .ok (.iconst 2, 1) := by decide +kernel
theorem dL_law_215 : decode cL_law 215 = .ok (.iadd, 1) := by decide +kernel
theorem dL_law_216 : decode cL_law 216 = .ok (.iaload, 1) := by decide +kernel
theorem dL_law_217 : decode cL_law 217 = .ok (.invokevirtual 23, 3) := by decide +kernel
theorem dL_law_220 : decode cL_law 220 = .ok (.aload_n 2, 1) := by decide +kernel
theorem dL_law_221 : decode cL_law 221 = .ok (.aload_n 0, 1) := by decide +kernel
theorem dL_law_222 : decode cL_law 222 = .ok (.iload_n 3, 1) := by decide +kernel
theorem dL_law_223 : decode cL_law 223 = .ok (.iconst 1, 1) := by decide +kernel
theorem dL_law_224 : decode cL_law 224 = .ok (.iadd, 1) := by decide +kernel
theorem dL_law_225 : decode cL_law 225 = .ok (.iaload, 1) := by decide +kernel
theorem dL_law_226 : decode cL_law 226 = .ok (.aload_n 0, 1) := by decide +kernel
theorem dL_law_227 : decode cL_law 227 = .ok (.iload_n 3, 1) := by decide +kernel
theorem dL_law_228 : decode cL_law 228 = .ok (.iconst 2, 1) := by decide +kernel
theorem dL_law_229 : decode cL_law 229 = .ok (.iadd, 1) := by decide +kernel
theorem dL_law_230 : decode cL_law 230 = .ok (.iaload, 1) := by decide +kernel
theorem dL_law_231 : decode cL_law 231 = .ok (.invokevirtual 27, 3) := by decide +kernel
theorem dL_law_234 : decode cL_law 234 = .ok (.if_icmp .eq 463, 3) := by decide +kernel
theorem dL_law_237 : decode cL_law 237 = .ok (.iconst 0, 1) := by decide +kernel
theorem dL_law_238 : decode cL_law 238 = .ok (.ireturn, 1) := by decide +kernel
theorem dL_law_239 : decode cL_law 239 = .ok (.aload_n 1, 1) := by decide +kernel
theorem dL_law_240 : decode cL_law 240 = .ok (.aload_n 0, 1) := by decide +kernel
theorem dL_law_241 : decode cL_law 241 = .ok (.iload_n 3, 1) := by decide +kernel
theorem dL_law_242 : decode cL_law 242 = .ok (.iconst 1, 1) := by decide +kernel
theorem dL_law_243 : decode cL_law 243 = .ok (.iadd, 1) := by decide +kernel
theorem dL_law_244 : decode cL_law 244 = .ok (.iaload, 1) := by decide +kernel
theorem dL_law_245 : decode cL_law 245 = .ok (.aload_n 0, 1) := by decide +kernel
theorem dL_law_246 : decode cL_law 246 = .ok (.iload_n 3, 1) := by decide +kernel
theorem dL_law_247 : decode cL_law 247 = .ok (.iconst 2, 1) := by decide +kernel
theorem dL_law_248 : decode cL_law 248 = .ok (.iadd, 1) := by decide +kernel
theorem dL_law_249 : decode cL_law 249 = .ok (.iaload, 1) := by decide +kernel
theorem dL_law_250 : decode cL_law 250 = .ok (.invokevirtual 28, 3) := by decide +kernel
theorem dL_law_253 : decode cL_law 253 = .ok (.aload_n 2, 1) := by decide +kernel
theorem dL_law_254 : decode cL_law 254 = .ok (.aload_n 0, 1) := by decide +kernel
theorem dL_law_255 : decode cL_law 255 = .ok (.iload_n 3, 1) := by decide +kernel
theorem dL_law_256 : decode cL_law 256 = .ok (.iconst 1, 1) := by decide +kernel
theorem dL_law_257 : decode cL_law 257 = .ok (.iadd, 1) := by decide +kernel
theorem dL_law_258 : decode cL_law 258 = .ok (.iaload, 1) := by decide +kernel
theorem dL_law_259 : decode cL_law 259 = .ok (.aload_n 0, 1) := by decide +kernel
theorem dL_law_260 : decode cL_law 260 = .ok (.iload_n 3, 1) := by decide +kernel
theorem dL_law_261 : decode cL_law 261 = .ok (.iconst 2, 1) := by decide +kernel
theorem dL_law_262 : decode cL_law 262 = .ok (.iadd, 1) := by decide +kernel
theorem dL_law_263 : decode cL_law 263 = .ok (.iaload, 1) := by decide +kernel
theorem dL_law_264 : decode cL_law 264 = .ok (.invokevirtual 31, 3) := by decide +kernel
theorem dL_law_267 : decode cL_law 267 = .ok (.if_icmp .eq 430, 3) := by decide +kernel
theorem dL_law_270 : decode cL_law 270 = .ok (.iconst 0, 1) := by decide +kernel
theorem dL_law_271 : decode cL_law 271 = .ok (.ireturn, 1) := by decide +kernel
theorem dL_law_272 : decode cL_law 272 = .ok (.aload_n 1, 1) := by decide +kernel
theorem dL_law_273 : decode cL_law 273 = .ok (.aload_n 0, 1) := by decide +kernel
theorem dL_law_274 : decode cL_law 274 = .ok (.iload_n 3, 1) := by decide +kernel
theorem dL_law_275 : decode cL_law 275 = .ok (.iconst 1, 1) := by decide +kernel
theorem dL_law_276 : decode cL_law 276 = .ok (.iadd, 1) := by decide +kernel
theorem dL_law_277 : decode cL_law 277 = .ok (.iaload, 1) := by decide +kernel
theorem dL_law_278 : decode cL_law 278 = .ok (.aload_n 0, 1) := by decide +kernel
theorem dL_law_279 : decode cL_law 279 = .ok (.iload_n 3, 1) := by decide +kernel
theorem dL_law_280 : decode cL_law 280 = .ok (.iconst 2, 1) := by decide +kernel
theorem dL_law_281 : decode cL_law 281 = .ok (.iadd, 1) := by decide +kernel
theorem dL_law_282 : decode cL_law 282 = .ok (.iaload, 1) := by decide +kernel
theorem dL_law_283 : decode cL_law 283 = .ok (.invokevirtual 32, 3) := by decide +kernel
theorem dL_law_286 : decode cL_law 286 = .ok (.aload_n 2, 1) := by decide +kernel
theorem dL_law_287 : decode cL_law 287 = .ok (.aload_n 0, 1) := by decide +kernel
theorem dL_law_288 : decode cL_law 288 = .ok (.iload_n 3, 1) := by decide +kernel
theorem dL_law_289 : decode cL_law 289 = .ok (.iconst 1, 1) := by decide +kernel
theorem dL_law_290 : decode cL_law 290 = .ok (.iadd, 1) := by decide +kernel
theorem dL_law_291 : decode cL_law 291 = .ok (.iaload, 1) := by decide +kernel
theorem dL_law_292 : decode cL_law 292 = .ok (.aload_n 0, 1) := by decide +kernel
theorem dL_law_293 : decode cL_law 293 = .ok (.iload_n 3, 1) := by decide +kernel
theorem dL_law_294 : decode cL_law 294 = .ok (.iconst 2, 1) := by decide +kernel
theorem dL_law_295 : decode cL_law 295 = .ok (.iadd, 1) := by decide +kernel
theorem dL_law_296 : decode cL_law 296 = .ok (.iaload, 1) := by decide +kernel
theorem dL_law_297 : decode cL_law 297 = .ok (.invokevirtual 35, 3) := by decide +kernel
theorem dL_law_300 : decode cL_law 300 = .ok (.if_icmp .eq 397, 3) := by decide +kernel
theorem dL_law_303 : decode cL_law 303 = .ok (.iconst 0, 1) := by decide +kernel
theorem dL_law_304 : decode cL_law 304 = .ok (.ireturn, 1) := by decide +kernel
theorem dL_law_305 : decode cL_law 305 = .ok (.aload_n 1, 1) := by decide +kernel
theorem dL_law_306 : decode cL_law 306 = .ok (.aload_n 0, 1) := by decide +kernel
theorem dL_law_307 : decode cL_law 307 = .ok (.iload_n 3, 1) := by decide +kernel
theorem dL_law_308 : decode cL_law 308 = .ok (.iconst 1, 1) := by decide +kernel
theorem dL_law_309 : decode cL_law 309 = .ok (.iadd, 1) := by decide +kernel
theorem dL_law_310 : decode cL_law 310 = .ok (.iaload, 1) := by decide +kernel
theorem dL_law_311 : decode cL_law 311 = .ok (.ifCond .eq 7, 3) := by decide +kernel
theorem dL_law_314 : decode cL_law 314 = .ok (.iconst 1, 1) := by decide +kernel
theorem dL_law_315 : decode cL_law 315 = .ok (.goto 4, 3) := by decide +kernel
theorem dL_law_318 : decode cL_law 318 = .ok (.iconst 0, 1) := by decide +kernel
theorem dL_law_319 : decode cL_law 319 = .ok (.invokevirtual 36, 3) := by decide +kernel
theorem dL_law_322 : decode cL_law 322 = .ok (.aload_n 2, 1) := by decide +kernel
theorem dL_law_323 : decode cL_law 323 = .ok (.aload_n 0, 1) := by decide +kernel
theorem dL_law_324 : decode cL_law 324 = .ok (.iload_n 3, 1) := by decide +kernel
theorem dL_law_325 : decode cL_law 325 = .ok (.iconst 1, 1) := by decide +kernel
theorem dL_law_326 : decode cL_law 326 = .ok (.iadd, 1) := by decide +kernel
theorem dL_law_327 : decode cL_law 327 = .ok (.iaload, 1) := by decide +kernel
theorem dL_law_328 : decode cL_law 328 = .ok (.ifCond .eq 7, 3) := by decide +kernel
theorem dL_law_331 : decode cL_law 331 = .ok (.iconst 1, 1) := by decide +kernel
theorem dL_law_332 : decode cL_law 332 = .ok (.goto 4, 3) := by decide +kernel
theorem dL_law_335 : decode cL_law 335 = .ok (.iconst 0, 1) := by decide +kernel
theorem dL_law_336 : decode cL_law 336 = .ok (.invokevirtual 40, 3) := by decide +kernel
theorem dL_law_339 : decode cL_law 339 = .ok (.if_icmp .eq 358, 3) := by decide +kernel
theorem dL_law_342 : decode cL_law 342 = .ok (.iconst 0, 1) := by decide +kernel
theorem dL_law_343 : decode cL_law 343 = .ok (.ireturn, 1) := by decide +kernel
theorem dL_law_344 : decode cL_law 344 = .ok (.aload_n 1, 1) := by decide +kernel
theorem dL_law_345 : decode cL_law 345 = .ok (.invokevirtual 41, 3) := by decide +kernel
theorem dL_law_348 : decode cL_law 348 = .ok (.aload_n 2, 1) := by decide +kernel
theorem dL_law_349 : decode cL_law 349 = .ok (.invokevirtual 45, 3) := by decide +kernel
theorem dL_law_352 : decode cL_law 352 = .ok (.if_icmp .eq 345, 3) := by decide +kernel
theorem dL_law_355 : decode cL_law 355 = .ok (.iconst 0, 1) := by decide +kernel
theorem dL_law_356 : decode cL_law 356 = .ok (.ireturn, 1) := by decide +kernel
theorem dL_law_357 : decode cL_law 357 = .ok (.aload_n 1, 1) := by decide +kernel
theorem dL_law_358 : decode cL_law 358 = .ok (.invokevirtual 46, 3) := by decide +kernel
theorem dL_law_361 : decode cL_law 361 = .ok (.aload_n 2, 1) := by decide +kernel
theorem dL_law_362 : decode cL_law 362 = .ok (.invokevirtual 49, 3) := by decide +kernel
theorem dL_law_365 : decode cL_law 365 = .ok (.if_icmp .eq 332, 3) := by decide +kernel
theorem dL_law_368 : decode cL_law 368 = .ok (.iconst 0, 1) := by decide +kernel
theorem dL_law_369 : decode cL_law 369 = .ok (.ireturn, 1) := by decide +kernel
theorem dL_law_370 : decode cL_law 370 = .ok (.aload_n 1, 1) := by decide +kernel
theorem dL_law_371 : decode cL_law 371 = .ok (.aload_n 0, 1) := by decide +kernel
theorem dL_law_372 : decode cL_law 372 = .ok (.iload_n 3, 1) := by decide +kernel
theorem dL_law_373 : decode cL_law 373 = .ok (.iconst 1, 1) := by decide +kernel
theorem dL_law_374 : decode cL_law 374 = .ok (.iadd, 1) := by decide +kernel
theorem dL_law_375 : decode cL_law 375 = .ok (.iaload, 1) := by decide +kernel
theorem dL_law_376 : decode cL_law 376 = .ok (.invokevirtual 50, 3) := by decide +kernel
theorem dL_law_379 : decode cL_law 379 = .ok (.aload_n 2, 1) := by decide +kernel
theorem dL_law_380 : decode cL_law 380 = .ok (.aload_n 0, 1) := by decide +kernel
theorem dL_law_381 : decode cL_law 381 = .ok (.iload_n 3, 1) := by decide +kernel
theorem dL_law_382 : decode cL_law 382 = .ok (.iconst 1, 1) := by decide +kernel
theorem dL_law_383 : decode cL_law 383 = .ok (.iadd, 1) := by decide +kernel
theorem dL_law_384 : decode cL_law 384 = .ok (.iaload, 1) := by decide +kernel
theorem dL_law_385 : decode cL_law 385 = .ok (.invokevirtual 53, 3) := by decide +kernel
theorem dL_law_388 : decode cL_law 388 = .ok (.if_icmp .eq 309, 3) := by decide +kernel
theorem dL_law_391 : decode cL_law 391 = .ok (.iconst 0, 1) := by decide +kernel
theorem dL_law_392 : decode cL_law 392 = .ok (.ireturn, 1) := by decide +kernel
theorem dL_law_393 : decode cL_law 393 = .ok (.aload_n 1, 1) := by decide +kernel
theorem dL_law_394 : decode cL_law 394 = .ok (.aload_n 0, 1) := by decide +kernel
theorem dL_law_395 : decode cL_law 395 = .ok (.iload_n 3, 1) := by decide +kernel
theorem dL_law_396 : decode cL_law 396 = .ok (.iconst 1, 1) := by decide +kernel
theorem dL_law_397 : decode cL_law 397 = .ok (.iadd, 1) := by decide +kernel
theorem dL_law_398 : decode cL_law 398 = .ok (.iaload, 1) := by decide +kernel
theorem dL_law_399 : decode cL_law 399 = .ok (.i2c, 1) := by decide +kernel
theorem dL_law_400 : decode cL_law 400 = .ok (.invokevirtual 54, 3) := by decide +kernel
theorem dL_law_403 : decode cL_law 403 = .ok (.aload_n 2, 1) := by decide +kernel
theorem dL_law_404 : decode cL_law 404 = .ok (.aload_n 0, 1) := by decide +kernel
theorem dL_law_405 : decode cL_law 405 = .ok (.iload_n 3, 1) := by decide +kernel
theorem dL_law_406 : decode cL_law 406 = .ok (.iconst 1, 1) := by decide +kernel
theorem dL_law_407 : decode cL_law 407 = .ok (.iadd, 1) := by decide +kernel
theorem dL_law_408 : decode cL_law 408 = .ok (.iaload, 1) := by decide +kernel
theorem dL_law_409 : decode cL_law 409 = .ok (.i2c, 1) := by decide +kernel
theorem dL_law_410 : decode cL_law 410 = .ok (.invokevirtual 58, 3) := by decide +kernel
theorem dL_law_413 : decode cL_law 413 = .ok (.if_icmp .eq 284, 3) := by decide +kernel
theorem dL_law_416 : decode cL_law 416 = .ok (.iconst 0, 1) := by decide +kernel
theorem dL_law_417 : decode cL_law 417 = .ok (.ireturn, 1) := by decide +kernel
theorem dL_law_418 : decode cL_law 418 = .ok (.aload_n 1, 1) := by decide +kernel
theorem dL_law_419 : decode cL_law 419 = .ok (.invokevirtual 59, 3) := by decide +kernel
theorem dL_law_422 : decode cL_law 422 = .ok (.aload_n 2, 1) := by decide +kernel
theorem dL_law_423 : decode cL_law 423 = .ok (.invokevirtual 62, 3) := by decide +kernel
theorem dL_law_426 : decode cL_law 426 = .ok (.if_icmp .eq 271, 3) := by decide +kernel
theorem dL_law_429 : decode cL_law 429 = .ok (.iconst 0, 1) := by decide +kernel
theorem dL_law_430 : decode cL_law 430 = .ok (.ireturn, 1) := by decide +kernel
theorem dL_law_431 : decode cL_law 431 = .ok (.aload_n 1, 1) := by decide +kernel
theorem dL_law_432 : decode cL_law 432 = .ok (.aload_n 0, 1) := by decide +kernel
theorem dL_law_433 : decode cL_law 433 = .ok (.iload_n 3, 1) := by decide +kernel
theorem dL_law_434 : decode cL_law 434 = .ok (.iconst 1, 1) := by decide +kernel
theorem dL_law_435 : decode cL_law 435 = .ok (.iadd, 1) := by decide +kernel
theorem dL_law_436 : decode cL_law 436 = .ok (.iaload, 1) := by decide +kernel
theorem dL_law_437 : decode cL_law 437 = .ok (.invokevirtual 63, 3) := by decide +kernel
theorem dL_law_440 : decode cL_law 440 = .ok (.aload_n 2, 1) := by decide +kernel
theorem dL_law_441 : decode cL_law 441 = .ok (.aload_n 0, 1) := by decide +kernel
theorem dL_law_442 : decode cL_law 442 = .ok (.iload_n 3, 1) := by decide +kernel
theorem dL_law_443 : decode cL_law 443 = .ok (.iconst 1, 1) := by decide +kernel
theorem dL_law_444 : decode cL_law 444 = .ok (.iadd, 1) := by decide +kernel
theorem dL_law_445 : decode cL_law 445 = .ok (.iaload, 1) := by decide +kernel
theorem dL_law_446 : decode cL_law 446 = .ok (.invokevirtual 66, 3) := by decide +kernel
theorem dL_law_449 : decode cL_law 449 = .ok (.if_icmp .eq 248, 3) := by decide +kernel
theorem dL_law_452 : decode cL_law 452 = .ok (.iconst 0, 1) := by decide +kernel
theorem dL_law_453 : decode cL_law 453 = .ok (.ireturn, 1) := by decide +kernel
theorem dL_law_454 : decode cL_law 454 = .ok (.aload_n 1, 1) := by decide +kernel
theorem dL_law_455 : decode cL_law 455 = .ok (.invokevirtual 67, 3) := by decide +kernel
theorem dL_law_458 : decode cL_law 458 = .ok (.aload_n 2, 1) := by decide +kernel
theorem dL_law_459 : decode cL_law 459 = .ok (.invokevirtual 70, 3) := by decide +kernel
theorem dL_law_462 : decode cL_law 462 = .ok (.if_icmp .eq 235, 3) := by decide +kernel
theorem dL_law_465 : decode cL_law 465 = .ok (.iconst 0, 1) := by decide +kernel
theorem dL_law_466 : decode cL_law 466 = .ok (.ireturn, 1) := by decide +kernel
theorem dL_law_467 : decode cL_law 467 = .ok (.aload_n 1, 1) := by decide +kernel
theorem dL_law_468 : decode cL_law 468 = .ok (.invokevirtual 71, 3) := by decide +kernel
theorem dL_law_471 : decode cL_law 471 = .ok (.aload_n 2, 1) := by decide +kernel
theorem dL_law_472 : decode cL_law 472 = .ok (.invokevirtual 74, 3) := by decide +kernel
theorem dL_law_475 : decode cL_law 475 = .ok (.if_icmp .eq 222, 3) := by decide +kernel
theorem dL_law_478 : decode cL_law 478 = .ok (.iconst 0, 1) := by decide +kernel
theorem dL_law_479 : decode cL_law 479 = .ok (.ireturn, 1) := by decide +kernel
theorem dL_law_480 : decode cL_law 480 = .ok (.aload_n 1, 1) := by decide +kernel
theorem dL_law_481 : decode cL_law 481 = .ok (.invokevirtual 75, 3) := by decide +kernel
theorem dL_law_484 : decode cL_law 484 = .ok (.aload_n 2, 1) := by decide +kernel
theorem dL_law_485 : decode cL_law 485 = .ok (.invokevirtual 78, 3) := by decide +kernel
theorem dL_law_488 : decode cL_law 488 = .ok (.if_icmp .eq 209, 3) := by decide +kernel
theorem dL_law_491 : decode cL_law 491 = .ok (.iconst 0, 1) := by decide +kernel
theorem dL_law_492 : decode cL_law 492 = .ok (.ireturn, 1) := by decide +kernel
theorem dL_law_493 : decode cL_law 493 = .ok (.aload_n 1, 1) := by decide +kernel
theorem dL_law_494 : decode cL_law 494 = .ok (.aload_n 0, 1) := by decide +kernel
theorem dL_law_495 : decode cL_law 495 = .ok (.iload_n 3, 1) := by decide +kernel
theorem dL_law_496 : decode cL_law 496 = .ok (.iconst 1, 1) := by decide +kernel
theorem dL_law_497 : decode cL_law 497 = .ok (.iadd, 1) := by decide +kernel
theorem dL_law_498 : decode cL_law 498 = .ok (.iaload, 1) := by decide +kernel
theorem dL_law_499 : decode cL_law 499 = .ok (.aload_n 0, 1) := by decide +kernel
theorem dL_law_500 : decode cL_law 500 = .ok (.iload_n 3, 1) := by decide +kernel
theorem dL_law_501 : decode cL_law 501 = .ok (.iconst 2, 1) := by decide +kernel
theorem dL_law_502 : decode cL_law 502 = .ok (.iadd, 1) := by decide +kernel
theorem dL_law_503 : decode cL_law 503 = .ok (.iaload, 1) := by decide +kernel
theorem dL_law_504 : decode cL_law 504 = .ok (.invokevirtual 79, 3) := by decide +kernel
theorem dL_law_507 : decode cL_law 507 = .ok (.aload_n 2, 1) := by decide +kernel
theorem dL_law_508 : decode cL_law 508 = .ok (.aload_n 0, 1) := by decide +kernel
theorem dL_law_509 : decode cL_law 509 = .ok (.iload_n 3, 1) := by decide +kernel
theorem dL_law_510 : decode cL_law 510 = .ok (.iconst 1, 1) := by decide +kernel
theorem dL_law_511 : decode cL_law 511 = .ok (.iadd, 1) := by decide +kernel
theorem dL_law_512 : decode cL_law 512 = .ok (.iaload, 1) := by decide +kernel
theorem dL_law_513 : decode cL_law 513 = .ok (.aload_n 0, 1) := by decide +kernel
theorem dL_law_514 : decode cL_law 514 = .ok (.iload_n 3, 1) := by decide +kernel
theorem dL_law_515 : decode cL_law 515 = .ok (.iconst 2, 1) := by decide +kernel
theorem dL_law_516 : decode cL_law 516 = .ok (.iadd, 1) := by decide +kernel
theorem dL_law_517 : decode cL_law 517 = .ok (.iaload, 1) := by decide +kernel
theorem dL_law_518 : decode cL_law 518 = .ok (.invokevirtual 82, 3) := by decide +kernel
theorem dL_law_521 : decode cL_law 521 = .ok (.if_icmp .eq 176, 3) := by decide +kernel
theorem dL_law_524 : decode cL_law 524 = .ok (.iconst 0, 1) := by decide +kernel
theorem dL_law_525 : decode cL_law 525 = .ok (.ireturn, 1) := by decide +kernel
theorem dL_law_526 : decode cL_law 526 = .ok (.aload_n 1, 1) := by decide +kernel
theorem dL_law_527 : decode cL_law 527 = .ok (.aload_n 0, 1) := by decide +kernel
theorem dL_law_528 : decode cL_law 528 = .ok (.iload_n 3, 1) := by decide +kernel
theorem dL_law_529 : decode cL_law 529 = .ok (.iconst 1, 1) := by decide +kernel
theorem dL_law_530 : decode cL_law 530 = .ok (.iadd, 1) := by decide +kernel
theorem dL_law_531 : decode cL_law 531 = .ok (.iaload, 1) := by decide +kernel
theorem dL_law_532 : decode cL_law 532 = .ok (.aload_n 0, 1) := by decide +kernel
theorem dL_law_533 : decode cL_law 533 = .ok (.iload_n 3, 1) := by decide +kernel
theorem dL_law_534 : decode cL_law 534 = .ok (.iconst 2, 1) := by decide +kernel
theorem dL_law_535 : decode cL_law 535 = .ok (.iadd, 1) := by decide +kernel
theorem dL_law_536 : decode cL_law 536 = .ok (.iaload, 1) := by decide +kernel
theorem dL_law_537 : decode cL_law 537 = .ok (.invokevirtual 83, 3) := by decide +kernel
theorem dL_law_540 : decode cL_law 540 = .ok (.aload_n 2, 1) := by decide +kernel
theorem dL_law_541 : decode cL_law 541 = .ok (.aload_n 0, 1) := by decide +kernel
theorem dL_law_542 : decode cL_law 542 = .ok (.iload_n 3, 1) := by decide +kernel
theorem dL_law_543 : decode cL_law 543 = .ok (.iconst 1, 1) := by decide +kernel
theorem dL_law_544 : decode cL_law 544 = .ok (.iadd, 1) := by decide +kernel
theorem dL_law_545 : decode cL_law 545 = .ok (.iaload, 1) := by decide +kernel
theorem dL_law_546 : decode cL_law 546 = .ok (.aload_n 0, 1) := by decide +kernel
theorem dL_law_547 : decode cL_law 547 = .ok (.iload_n 3, 1) := by decide +kernel
theorem dL_law_548 : decode cL_law 548 = .ok (.iconst 2, 1) := by decide +kernel
theorem dL_law_549 : decode cL_law 549 = .ok (.iadd, 1) := by decide +kernel
theorem dL_law_550 : decode cL_law 550 = .ok (.iaload, 1) := by decide +kernel
theorem dL_law_551 : decode cL_law 551 = .ok (.invokevirtual 86, 3) := by decide +kernel
theorem dL_law_554 : decode cL_law 554 = .ok (.if_icmp .eq 143, 3) := by decide +kernel
theorem dL_law_557 : decode cL_law 557 = .ok (.iconst 0, 1) := by decide +kernel
theorem dL_law_558 : decode cL_law 558 = .ok (.ireturn, 1) := by decide +kernel
theorem dL_law_559 : decode cL_law 559 = .ok (.aload_n 1, 1) := by decide +kernel
theorem dL_law_560 : decode cL_law 560 = .ok (.aload_n 0, 1) := by decide +kernel
theorem dL_law_561 : decode cL_law 561 = .ok (.iload_n 3, 1) := by decide +kernel
theorem dL_law_562 : decode cL_law 562 = .ok (.iconst 1, 1) := by decide +kernel
theorem dL_law_563 : decode cL_law 563 = .ok (.iadd, 1) := by decide +kernel
theorem dL_law_564 : decode cL_law 564 = .ok (.iaload, 1) := by decide +kernel
theorem dL_law_565 : decode cL_law 565 = .ok (.aload_n 0, 1) := by decide +kernel
theorem dL_law_566 : decode cL_law 566 = .ok (.iload_n 3, 1) := by decide +kernel
theorem dL_law_567 : decode cL_law 567 = .ok (.iconst 2, 1) := by decide +kernel
theorem dL_law_568 : decode cL_law 568 = .ok (.iadd, 1) := by decide +kernel
theorem dL_law_569 : decode cL_law 569 = .ok (.iaload, 1) := by decide +kernel
theorem dL_law_570 : decode cL_law 570 = .ok (.invokevirtual 87, 3) := by decide +kernel
theorem dL_law_573 : decode cL_law 573 = .ok (.aload_n 2, 1) := by decide +kernel
theorem dL_law_574 : decode cL_law 574 = .ok (.aload_n 0, 1) := by decide +kernel
theorem dL_law_575 : decode cL_law 575 = .ok (.iload_n 3, 1) := by decide +kernel
theorem dL_law_576 : decode cL_law 576 = .ok (.iconst 1, 1) := by decide +kernel
theorem dL_law_577 : decode cL_law 577 = .ok (.iadd, 1) := by decide +kernel
theorem dL_law_578 : decode cL_law 578 = .ok (.iaload, 1) := by decide +kernel
theorem dL_law_579 : decode cL_law 579 = .ok (.aload_n 0, 1) := by decide +kernel
theorem dL_law_580 : decode cL_law 580 = .ok (.iload_n 3, 1) := by decide +kernel
theorem dL_law_581 : decode cL_law 581 = .ok (.iconst 2, 1) := by decide +kernel
theorem dL_law_582 : decode cL_law 582 = .ok (.iadd, 1) := by decide +kernel
theorem dL_law_583 : decode cL_law 583 = .ok (.iaload, 1) := by decide +kernel
theorem dL_law_584 : decode cL_law 584 = .ok (.invokevirtual 90, 3) := by decide +kernel
theorem dL_law_587 : decode cL_law 587 = .ok (.if_icmp .eq 110, 3) := by decide +kernel
theorem dL_law_590 : decode cL_law 590 = .ok (.iconst 0, 1) := by decide +kernel
theorem dL_law_591 : decode cL_law 591 = .ok (.ireturn, 1) := by decide +kernel
theorem dL_law_592 : decode cL_law 592 = .ok (.aload_n 1, 1) := by decide +kernel
theorem dL_law_593 : decode cL_law 593 = .ok (.aload_n 0, 1) := by decide +kernel
theorem dL_law_594 : decode cL_law 594 = .ok (.iload_n 3, 1) := by decide +kernel
theorem dL_law_595 : decode cL_law 595 = .ok (.iconst 1, 1) := by decide +kernel
theorem dL_law_596 : decode cL_law 596 = .ok (.iadd, 1) := by decide +kernel
theorem dL_law_597 : decode cL_law 597 = .ok (.iaload, 1) := by decide +kernel
theorem dL_law_598 : decode cL_law 598 = .ok (.invokevirtual 91, 3) := by decide +kernel
theorem dL_law_601 : decode cL_law 601 = .ok (.aload_n 2, 1) := by decide +kernel
theorem dL_law_602 : decode cL_law 602 = .ok (.aload_n 0, 1) := by decide +kernel
theorem dL_law_603 : decode cL_law 603 = .ok (.iload_n 3, 1) := by decide +kernel
theorem dL_law_604 : decode cL_law 604 = .ok (.iconst 1, 1) := by decide +kernel
theorem dL_law_605 : decode cL_law 605 = .ok (.iadd, 1) := by decide +kernel
theorem dL_law_606 : decode cL_law 606 = .ok (.iaload, 1) := by decide +kernel
theorem dL_law_607 : decode cL_law 607 = .ok (.invokevirtual 94, 3) := by decide +kernel
theorem dL_law_610 : decode cL_law 610 = .ok (.if_icmp .eq 87, 3) := by decide +kernel
theorem dL_law_613 : decode cL_law 613 = .ok (.iconst 0, 1) := by decide +kernel
theorem dL_law_614 : decode cL_law 614 = .ok (.ireturn, 1) := by decide +kernel
theorem dL_law_615 : decode cL_law 615 = .ok (.aload_n 1, 1) := by decide +kernel
theorem dL_law_616 : decode cL_law 616 = .ok (.invokevirtual 95, 3) := by decide +kernel
theorem dL_law_619 : decode cL_law 619 = .ok (.aload_n 2, 1) := by decide +kernel
theorem dL_law_620 : decode cL_law 620 = .ok (.invokevirtual 98, 3) := by decide +kernel
theorem dL_law_623 : decode cL_law 623 = .ok (.if_icmp .eq 74, 3) := by decide +kernel
theorem dL_law_626 : decode cL_law 626 = .ok (.iconst 0, 1) := by decide +kernel
theorem dL_law_627 : decode cL_law 627 = .ok (.ireturn, 1) := by decide +kernel
theorem dL_law_628 : decode cL_law 628 = .ok (.aload_n 1, 1) := by decide +kernel
theorem dL_law_629 : decode cL_law 629 = .ok (.aload_n 0, 1) := by decide +kernel
theorem dL_law_630 : decode cL_law 630 = .ok (.iload_n 3, 1) := by decide +kernel
theorem dL_law_631 : decode cL_law 631 = .ok (.iconst 1, 1) := by decide +kernel
theorem dL_law_632 : decode cL_law 632 = .ok (.iadd, 1) := by decide +kernel
theorem dL_law_633 : decode cL_law 633 = .ok (.iaload, 1) := by decide +kernel
theorem dL_law_634 : decode cL_law 634 = .ok (.aload_n 0, 1) := by decide +kernel
theorem dL_law_635 : decode cL_law 635 = .ok (.iload_n 3, 1) := by decide +kernel
theorem dL_law_636 : decode cL_law 636 = .ok (.iconst 2, 1) := by decide +kernel
theorem dL_law_637 : decode cL_law 637 = .ok (.iadd, 1) := by decide +kernel
theorem dL_law_638 : decode cL_law 638 = .ok (.iaload, 1) := by decide +kernel
theorem dL_law_639 : decode cL_law 639 = .ok (.invokevirtual 99, 3) := by decide +kernel
theorem dL_law_642 : decode cL_law 642 = .ok (.aload_n 2, 1) := by decide +kernel
theorem dL_law_643 : decode cL_law 643 = .ok (.aload_n 0, 1) := by decide +kernel
theorem dL_law_644 : decode cL_law 644 = .ok (.iload_n 3, 1) := by decide +kernel
theorem dL_law_645 : decode cL_law 645 = .ok (.iconst 1, 1) := by decide +kernel
theorem dL_law_646 : decode cL_law 646 = .ok (.iadd, 1) := by decide +kernel
theorem dL_law_647 : decode cL_law 647 = .ok (.iaload, 1) := by decide +kernel
theorem dL_law_648 : decode cL_law 648 = .ok (.aload_n 0, 1) := by decide +kernel
theorem dL_law_649 : decode cL_law 649 = .ok (.iload_n 3, 1) := by decide +kernel
theorem dL_law_650 : decode cL_law 650 = .ok (.iconst 2, 1) := by decide +kernel
theorem dL_law_651 : decode cL_law 651 = .ok (.iadd, 1) := by decide +kernel
theorem dL_law_652 : decode cL_law 652 = .ok (.iaload, 1) := by decide +kernel
theorem dL_law_653 : decode cL_law 653 = .ok (.invokevirtual 102, 3) := by decide +kernel
theorem dL_law_656 : decode cL_law 656 = .ok (.if_icmp .eq 41, 3) := by decide +kernel
theorem dL_law_659 : decode cL_law 659 = .ok (.iconst 0, 1) := by decide +kernel
theorem dL_law_660 : decode cL_law 660 = .ok (.ireturn, 1) := by decide +kernel
theorem dL_law_661 : decode cL_law 661 = .ok (.aload_n 1, 1) := by decide +kernel
theorem dL_law_662 : decode cL_law 662 = .ok (.invokevirtual 103, 3) := by decide +kernel
theorem dL_law_665 : decode cL_law 665 = .ok (.aload_n 2, 1) := by decide +kernel
theorem dL_law_666 : decode cL_law 666 = .ok (.invokevirtual 106, 3) := by decide +kernel
theorem dL_law_669 : decode cL_law 669 = .ok (.if_icmp .eq 28, 3) := by decide +kernel
theorem dL_law_672 : decode cL_law 672 = .ok (.iconst 0, 1) := by decide +kernel
theorem dL_law_673 : decode cL_law 673 = .ok (.ireturn, 1) := by decide +kernel
theorem dL_law_674 : decode cL_law 674 = .ok (.aload_n 1, 1) := by decide +kernel
theorem dL_law_675 : decode cL_law 675 = .ok (.aload_n 0, 1) := by decide +kernel
theorem dL_law_676 : decode cL_law 676 = .ok (.iload_n 3, 1) := by decide +kernel
theorem dL_law_677 : decode cL_law 677 = .ok (.iconst 1, 1) := by decide +kernel
theorem dL_law_678 : decode cL_law 678 = .ok (.iadd, 1) := by decide +kernel
theorem dL_law_679 : decode cL_law 679 = .ok (.iaload, 1) := by decide +kernel
theorem dL_law_680 : decode cL_law 680 = .ok (.invokevirtual 107, 3) := by decide +kernel
theorem dL_law_683 : decode cL_law 683 = .ok (.aload_n 2, 1) := by decide +kernel
theorem dL_law_684 : decode cL_law 684 = .ok (.aload_n 0, 1) := by decide +kernel
theorem dL_law_685 : decode cL_law 685 = .ok (.iload_n 3, 1) := by decide +kernel
theorem dL_law_686 : decode cL_law 686 = .ok (.iconst 1, 1) := by decide +kernel
theorem dL_law_687 : decode cL_law 687 = .ok (.iadd, 1) := by decide +kernel
theorem dL_law_688 : decode cL_law 688 = .ok (.iaload, 1) := by decide +kernel
theorem dL_law_689 : decode cL_law 689 = .ok (.invokevirtual 110, 3) := by decide +kernel
theorem dL_law_692 : decode cL_law 692 = .ok (.if_icmp .eq 5, 3) := by decide +kernel
theorem dL_law_695 : decode cL_law 695 = .ok (.iconst 0, 1) := by decide +kernel
theorem dL_law_696 : decode cL_law 696 = .ok (.ireturn, 1) := by decide +kernel
theorem dL_law_697 : decode cL_law 697 = .ok (.iinc 3 4, 3) := by decide +kernel
theorem dL_law_700 : decode cL_law 700 = .ok (.goto (-682), 3) := by decide +kernel
theorem dL_law_703 : decode cL_law 703 = .ok (.iconst 1, 1) := by decide +kernel
theorem dL_law_704 : decode cL_law 704 = .ok (.ireturn, 1) := by decide +kernel
end
section

/-! the world: 110 cells at the addresses xa x 0 .. xa x 109; an array's contents are ar k, an object's numbers fd k -/
def CT : Type := va_G × (ClassId × ClassId × ClassId × ClassId) × (Nat → Nat)
def xD (x : CT) : va_G := x.1
def xI (x : CT) : ClassId := x.2.1.1
def xC (x : CT) : ClassId := x.2.1.2.1
def xZ (x : CT) : ClassId := x.2.1.2.2.1
def xS (x : CT) : ClassId := x.2.1.2.2.2
def xa (x : CT) : Nat → Nat := x.2.2
def xt (x : CT) : List (ClassId × FieldType) := [(xI x, .int), (xC x, .char), (xZ x, .boolean), (xS x, .object RX4)]
def zu {α : Type} (f : Nat → α) (k : Nat) (v : α) : Nat → α := fun j => if j = k then v else f j
theorem zu_s {α : Type} (f : Nat → α) (k : Nat) (v : α) : zu f k v k = v := by simp [zu]
theorem zu_n {α : Type} (f : Nat → α) {k j : Nat} (v : α) (h : j ≠ k) : zu f k v j = f j := by simp [zu, h]
def kdL : List Nat := [5, 3, 2, 7, 2, 7, 2, 7, 2, 7, 2, 7, 2, 7, 2, 7, 0, 10, 3, 2, 7, 2, 7, 2, 7, 2, 7, 2, 7, 2, 7, 2, 7, 3, 2, 7, 2, 7, 2, 7, 2, 7, 2, 7, 2, 7, 2, 7, 3, 2, 7, 2, 7, 2, 7, 2, 7, 2, 7, 2, 7, 2, 7, 3, 2, 7, 2, 7, 2, 7, 2, 7, 2, 7, 2, 7, 2, 7, 3, 2, 7, 2, 7, 2, 7, 2, 7, 2, 7, 2, 7, 2, 7, 4, 8, 1, 2, 7, 2, 7, 2, 7, 6, 7, 7, 7, 8, 7, 7, 9]
def rlL : List Nat := [0, 0, 0, 36, 0, 36, 0, 36, 0, 36, 0, 36, 0, 9, 0, 2, 0, 4, 0, 0, 36, 0, 36, 0, 36, 0, 36, 0, 36, 0, 9, 0, 2, 0, 0, 36, 0, 36, 0, 36, 0, 36, 0, 36, 0, 9, 0, 2, 0, 0, 36, 0, 36, 0, 36, 0, 36, 0, 36, 0, 9, 0, 2, 0, 0, 36, 0, 36, 0, 36, 0, 36, 0, 36, 0, 9, 0, 2, 0, 0, 36, 0, 36, 0, 36, 0, 36, 0, 36, 0, 9, 0, 2, 0, 60, 0, 0, 36, 0, 36, 0, 36, 0, 196, 784, 196, 60, 40, 36, 36]
def kd (k : Nat) : Nat := kdL.getD k 11
def rl (k : Nat) : Nat := rlL.getD k 0
theorem kd_lt {k c : Nat} (h : kd k = c) (hc : c ≠ 11) : k < 110 := by
  rcases Nat.lt_or_ge k 110 with q | q
  · exact q
  · exact absurd (h.symm.trans (by show (kdL[k]?).getD 11 = 11; rw [List.getElem?_eq_none (show kdL.length ≤ k from q)]; rfl)) hc
def fl0 (x : CT) (f : Nat → Int32) : List Value := [.ref (xa x 17), .int (f 1), .int (f 2)]
def fl1 (x : CT) : List Value := [.ref (xa x 96), .ref (xa x 98)]
def fl2 (x : CT) (k : Nat) : List Value := [.ref (xa x (k + 1))]
def fl3 (x : CT) (k : Nat) (f : Nat → Int32) : List Value := [.ref (xa x (k + 1)), .ref (xa x (k + 3)), .ref (xa x (k + 5)), .ref (xa x (k + 7)), .ref (xa x (k + 9)), .ref (xa x (k + 11)), .ref (xa x (k + 13)), .int (f 7), .int (f 8), .int (f 9), .int (f 10)]
def fl4 (x : CT) (f : Nat → Int32) : List Value := [.ref (xa x 94), .int (f 1)]
def fl5 (x : CT) (f : Nat → Int32) : List Value := [.ref (xa x 1), .ref (xa x 16), .ref (xa x 78), .int (f 3), .ref (xa x 93), .ref (xa x 95), .ref (xa x 100)]
def fl6 (x : CT) (f : Nat → Int32) : List Value := [.ref (xa x 103), .ref (xa x 104), .ref (xa x 105), .int (f 3), .int (f 4), .ref (xa x 106), .int (f 6), .int (f 7), .ref (xa x 107), .ref (xa x 108), .ref (xa x 109)]
def sh (x : CT) (k : Nat) (a f : Nat → Int32) : va_E := match kd k with
  | 0 => .inr (0, fl0 x f)
  | 1 => .inr (1, fl1 x)
  | 2 => .inr (2, fl2 x k)
  | 3 => .inr (3, fl3 x k f)
  | 4 => .inr (4, fl4 x f)
  | 5 => .inr (5, fl5 x f)
  | 6 => .inr (6, fl6 x f)
  | 7 => .inl (xI x, rl k, .inl a)
  | 8 => .inl (xC x, rl k, .inl a)
  | 9 => .inl (xZ x, rl k, .inl a)
  | _ => .inl (xS x, 4, .inr (.inr (.inr (.inr (fun i => some (xa x (18 + 15 * i)))))))
abbrev AR : Type := Nat → Nat → Int32
def wl (x : CT) (ar fd : AR) : va_W := (List.range 110).map fun k => (xa x k, sh x k (ar k) (fd k))
def AA (x : CT) : Nat → Prop := fun q => ∃ k, k < 110 ∧ q = xa x k
def DJ (x : CT) : Prop := ∀ i j, i < 110 → j < 110 → xa x i = xa x j → i = j
theorem wl_get {x : CT} {ar fd : AR} {k : Nat} (h : k < 110) : (wl x ar fd)[k]? = some (xa x k, sh x k (ar k) (fd k)) := by
  simp [wl, h]
theorem wl_inv {x : CT} {ar fd : AR} {k : Nat} {q : Nat × va_E} (h : (wl x ar fd)[k]? = some q) : k < 110 ∧ q = (xa x k, sh x k (ar k) (fd k)) := by
  rcases Nat.lt_or_ge k 110 with g | g
  · rw [wl_get g] at h
    exact ⟨g, (Option.some.inj h).symm⟩
  · rw [List.getElem?_eq_none (by simp [wl]; exact g)] at h
    cases h
theorem wl_D {x : CT} (h : DJ x) (ar fd : AR) : va_D (AA x) (wl x ar fd) := by
  refine ⟨fun i j p q hi hj e => ?_, fun k q hk => ?_⟩
  · obtain ⟨a, rfl⟩ := wl_inv hi
    obtain ⟨b, rfl⟩ := wl_inv hj
    exact h i j a b e
  · obtain ⟨a, rfl⟩ := wl_inv hk
    exact ⟨k, a, rfl⟩
theorem wl_set {x : CT} {ar fd ar' fd' : AR} {k : Nat} {e : va_E} (h : k < 110) (he : e = sh x k (ar' k) (fd' k)) (ho : ∀ j, j ≠ k → ar' j = ar j ∧ fd' j = fd j) : (wl x ar fd).set k (xa x k, e) = wl x ar' fd' := by
  subst he
  refine List.ext_getElem? fun i => ?_
  by_cases hi : i = k
  · subst hi
    rw [List.getElem?_set_self (by simp [wl]; exact h), wl_get h]
  · rw [List.getElem?_set_ne (fun z => hi z.symm)]
    rcases Nat.lt_or_ge i 110 with g | g
    · rw [wl_get g, wl_get g, (ho i hi).1, (ho i hi).2]
    · rw [List.getElem?_eq_none (by simp [wl]; exact g), List.getElem?_eq_none (by simp [wl]; exact g)]
theorem wl_setA {x : CT} {ar fd : AR} {k : Nat} {g : Nat → Int32} {e : va_E} (h : k < 110) (he : e = sh x k g (fd k)) : (wl x ar fd).set k (xa x k, e) = wl x (zu ar k g) fd :=
  wl_set h (by rw [zu_s]; exact he) fun j hj => ⟨zu_n _ _ hj, rfl⟩
theorem wl_setF {x : CT} {ar fd : AR} {k : Nat} {g : Nat → Int32} {e : va_E} (h : k < 110) (he : e = sh x k (ar k) g) : (wl x ar fd).set k (xa x k, e) = wl x ar (zu fd k g) :=
  wl_set h (by rw [zu_s]; exact he) fun j hj => ⟨rfl, zu_n _ _ hj⟩
/-- what lies behind an array's end is nothing -/
theorem wl_ext {x : CT} {ar ar' fd : AR} {H : Heap} (h : va_P (xD x) vwCl (wl x ar fd) H) (he : ∀ k, kd k = 7 ∨ kd k = 8 ∨ kd k = 9 → ∀ i, i < rl k → ar' k i = ar k i) : va_P (xD x) vwCl (wl x ar' fd) H := by
  intro k q hk
  obtain ⟨hl, rfl⟩ := wl_inv hk
  have h1 := h k _ (wl_get hl)
  unfold va_at at h1 ⊢
  have key : ∀ (c : ClassId) (n : Nat), (∀ i, i < n → ar' k i = ar k i) → vp_cell c (n, .inl (ar' k)) = vp_cell c (n, .inl (ar k)) := by
    intro c n e
    rw [vp_cell_i, vp_cell_i]
    simp only [arrV]
    rw [show (fun (j : Fin n) => Value.int (ar' k j.1)) = fun (j : Fin n) => Value.int (ar k j.1) from funext fun j => by rw [e j.1 j.2]]
  unfold sh at h1 ⊢
  have hkd := he k
  generalize kd k = c at h1 hkd ⊢
  match c, h1, hkd with
  | 0, h1, _ => exact h1
  | 1, h1, _ => exact h1
  | 2, h1, _ => exact h1
  | 3, h1, _ => exact h1
  | 4, h1, _ => exact h1
  | 5, h1, _ => exact h1
  | 6, h1, _ => exact h1
  | 7, h1, g => exact h1.trans (congrArg some (key _ _ (g (Or.inl rfl))).symm)
  | 8, h1, g => exact h1.trans (congrArg some (key _ _ (g (Or.inr (Or.inl rfl)))).symm)
  | 9, h1, g => exact h1.trans (congrArg some (key _ _ (g (Or.inr (Or.inr rfl)))).symm)
  | n + 10, h1, _ => exact h1
theorem sh0 {x : CT} {k : Nat} {a f : Nat → Int32} (h : kd k = 0) : sh x k a f = .inr (0, fl0 x f) := by simp only [sh, h]
theorem sh1 {x : CT} {k : Nat} {a f : Nat → Int32} (h : kd k = 1) : sh x k a f = .inr (1, fl1 x) := by simp only [sh, h]
theorem sh2 {x : CT} {k : Nat} {a f : Nat → Int32} (h : kd k = 2) : sh x k a f = .inr (2, fl2 x k) := by simp only [sh, h]
theorem sh3 {x : CT} {k : Nat} {a f : Nat → Int32} (h : kd k = 3) : sh x k a f = .inr (3, fl3 x k f) := by simp only [sh, h]
theorem sh4 {x : CT} {k : Nat} {a f : Nat → Int32} (h : kd k = 4) : sh x k a f = .inr (4, fl4 x f) := by simp only [sh, h]
theorem sh5 {x : CT} {k : Nat} {a f : Nat → Int32} (h : kd k = 5) : sh x k a f = .inr (5, fl5 x f) := by simp only [sh, h]
theorem sh6 {x : CT} {k : Nat} {a f : Nat → Int32} (h : kd k = 6) : sh x k a f = .inr (6, fl6 x f) := by simp only [sh, h]
theorem sh7 {x : CT} {k : Nat} {a f : Nat → Int32} (h : kd k = 7) : sh x k a f = .inl (xI x, rl k, .inl a) := by simp only [sh, h]
theorem sh8 {x : CT} {k : Nat} {a f : Nat → Int32} (h : kd k = 8) : sh x k a f = .inl (xC x, rl k, .inl a) := by simp only [sh, h]
theorem sh9 {x : CT} {k : Nat} {a f : Nat → Int32} (h : kd k = 9) : sh x k a f = .inl (xZ x, rl k, .inl a) := by simp only [sh, h]
/-- what holds throughout a walk: the machine, the code, the words, the classes -/
def EV (p : Program) (R : Room) (s : State) (m : MethodId) (args : Array Value) (meth : Method) (c : Code) (cc : ByteArray) (nL : Nat) (own : String) (rt : Option FieldType) (cells slots : Nat) (A0 : Nat → Prop) (x : CT) : Prop :=
  p.tables.exec = Jvm.exec ∧ c.code = cc ∧ c.maxLocals = nL ∧ s.vm.findClass own = some m.cls ∧ (∀ w ∈ TB, w.before args s = true) ∧ va_K (xD x) vwCl (xt x) s ∧ DJ x ∧ (∀ q, AA x q → A0 q) ∧ (cells ≤ R.cells ∧ slots ≤ R.slots) ∧ meth.locks = false ∧ meth.sig.returnType = rt
/-- where a walk stands -/
def ST (x : CT) (A0 : Nat → Prop) (H0 : Heap) (ar fd : AR) (H : Heap) (locs : List Loc) : Prop := va_P (xD x) vwCl (wl x ar fd) H ∧ va_S A0 H0 H locs
/-- where a call may begin -/
def OK (x : CT) (ar fd : AR) (U : State) : Prop := va_P (xD x) vwCl (wl x ar fd) U.heap ∧ va_K (xD x) vwCl (xt x) U ∧ DJ x
/-! contracts: CP an int, nothing changes; CI an int and a new world; CV no answer; CR a cell's address, nothing changes -/
def rmZ (fr lo : Nat) : Room := { frames := fr, cells := 0, slots := 0, locals := lo }
def CP (l : Launch) (y : MethodName) (c : ByteArray) (n : Nat) (rt : Option FieldType) (fr lo : Nat) (x : CT) (as : List Value) (ar fd : AR) (post : Int32 → Prop) : Prop :=
  Met l y (.code y c n rt :: TB) (rmZ fr lo) (va_Pc as (OK x ar fd)) (va_Qi (fun (r : Int32) (_ : Unit) => post r) (fun _ t => va_P (xD x) vwCl (wl x ar fd) t.heap) (AA x)) 0 0 (AA x)
def CI (l : Launch) (y : MethodName) (c : ByteArray) (n : Nat) (rt : Option FieldType) (fr lo : Nat) (x : CT) (as : List Value) (ar fd : AR) (post : Int32 → AR → AR → Prop) : Prop :=
  Met l y (.code y c n rt :: TB) (rmZ fr lo) (va_Pc as (OK x ar fd)) (va_Qi (fun (r : Int32) (u : AR × AR) => post r u.1 u.2) (fun u t => va_P (xD x) vwCl (wl x u.1 u.2) t.heap) (AA x)) 0 0 (AA x)
def CV (l : Launch) (y : MethodName) (c : ByteArray) (n : Nat) (fr lo : Nat) (x : CT) (as : List Value) (ar fd : AR) (post : AR → AR → Prop) : Prop :=
  Met l y (.code y c n none :: TB) (rmZ fr lo) (va_Pc as (OK x ar fd)) (va_Qv (fun (u : AR × AR) => post u.1 u.2) (fun u t => va_P (xD x) vwCl (wl x u.1 u.2) t.heap) (AA x)) 0 0 (AA x)
def CR (l : Launch) (y : MethodName) (c : ByteArray) (n : Nat) (rt : Option FieldType) (fr lo : Nat) (x : CT) (as : List Value) (ar fd : AR) (post : Nat → Prop) : Prop :=
  Met l y (.code y c n rt :: TB) (rmZ fr lo) (va_Pc as (OK x ar fd)) (va_Qr (fun (_ : Unit) => True) (fun _ a t => post a ∧ va_P (xD x) vwCl (wl x ar fd) t.heap) (AA x)) 0 0 (AA x)
section RW
variable {p : Program} {l : Launch} {e : Env} {R : Room} {s : State} {m : MethodId} {args : Array Value} {below : List Frame} {meth : Method} {c : Code} {H : Heap} {locs : List Loc} {cells slots : Nat} {Q : State → Prop}
variable {cc : ByteArray} {nL : Nat} {own : String} {rt : Option FieldType} {A0 : Nat → Prop} {x : CT} {H0 : Heap} {ar fd : AR} {pc : Nat} {ls : Array Slot} {rest : List Value}
theorem EV.tb (E : EV p R s m args meth c cc nL own rt cells slots A0 x) {w : Cond} (h : w ∈ TB) : w.before args s = true := E.2.2.2.2.1 w h
theorem EV.cf (E : EV p R s m args meth c cc nL own rt cells slots A0 x) : CallFix p m c cc nL s args TB own := ⟨E.1, E.2.1, E.2.2.1, E.2.2.2.1, E.2.2.2.2.1⟩
theorem EV.K (E : EV p R s m args meth c cc nL own rt cells slots A0 x) : va_K (xD x) vwCl (xt x) s := E.2.2.2.2.2.1
theorem EV.J (E : EV p R s m args meth c cc nL own rt cells slots A0 x) : DJ x := E.2.2.2.2.2.2.1
theorem EV.A (E : EV p R s m args meth c cc nL own rt cells slots A0 x) : ∀ q, AA x q → A0 q := E.2.2.2.2.2.2.2.1
theorem EV.rm (E : EV p R s m args meth c cc nL own rt cells slots A0 x) : cells ≤ R.cells ∧ slots ≤ R.slots := E.2.2.2.2.2.2.2.2.1
theorem EV.lk (E : EV p R s m args meth c cc nL own rt cells slots A0 x) : meth.locks = false := E.2.2.2.2.2.2.2.2.2.1
theorem EV.rr (E : EV p R s m args meth c cc nL own rt cells slots A0 x) : meth.sig.returnType = rt := E.2.2.2.2.2.2.2.2.2.2
theorem EV.D (E : EV p R s m args meth c cc nL own rt cells slots A0 x) (ar fd : AR) : va_D A0 (wl x ar fd) := (wl_D E.J ar fd).weaken fun _ _ _ h => E.A _ h
/-- the value on top under another name -/
theorem tp {a b : Int32} (h : a = b) (k : W p l e R s m args below meth c H locs cells slots Q (F0 m pc ls (.int b :: rest))) : W p l e R s m args below meth c H locs cells slots Q (F0 m pc ls (.int a :: rest)) := h ▸ k
/-- constants as nI -/
theorem zbipush (hx : p.tables.exec = Jvm.exec) (hb : c.code = cc) {n : Int} {v : Int32} (hdg : decode cc pc = .ok (.bipush n, 2)) (hv : (Int8.ofInt n).toInt32 = v)
    (k : W p l e R s m args below meth c H locs cells slots Q (F0 m (pc + 2) ls (.int v :: rest))) : W p l e R s m args below meth c H locs cells slots Q (F0 m pc ls (rest)) := lv_bipush hx hb hdg hv k
theorem zg0 (E : EV p R s m args meth c cc nL own rt cells slots A0 x) (hs : ST x A0 H0 ar fd H locs) {k : Nat} (hk : kd k = 0) (j : Nat) {index : Nat} {v : Value} (hj : j < 3) (hv : (fl0 x (fd k))[j]? = some v) (hlink : Cond.fieldLink own index (TX1 j).1 (TX1 j).2.1 (TX1 j).2.2.1 ∈ TB) (hdg : decode cc pc = .ok (.getfield index, 3))
    (kk : W p l e R s m args below meth c H locs cells slots Q (F0 m (pc + 3) ls (v :: rest))) : W p l e R s m args below meth c H locs cells slots Q (F0 m pc ls (.ref (xa x k) :: rest)) :=
  va_get (ci := 0) (C := RX1) (T := TX1) (N := 3) E.1 E.2.1 E.2.2.2.2.1 iX1 E.2.2.2.1 E.K hs.1 k ((wl_get (kd_lt hk (by decide))).trans (by rw [sh0 hk])) rfl j hj (E.tb hlink) (fun _ h => h) hv hdg kk
theorem zg1 (E : EV p R s m args meth c cc nL own rt cells slots A0 x) (hs : ST x A0 H0 ar fd H locs) {k : Nat} (hk : kd k = 1) (j : Nat) {index : Nat} {v : Value} (hj : j < 2) (hv : (fl1 x)[j]? = some v) (hlink : Cond.fieldLink own index (TX2 j).1 (TX2 j).2.1 (TX2 j).2.2.1 ∈ TB) (hdg : decode cc pc = .ok (.getfield index, 3))
    (kk : W p l e R s m args below meth c H locs cells slots Q (F0 m (pc + 3) ls (v :: rest))) : W p l e R s m args below meth c H locs cells slots Q (F0 m pc ls (.ref (xa x k) :: rest)) :=
  va_get (ci := 1) (C := RX2) (T := TX2) (N := 2) E.1 E.2.1 E.2.2.2.2.1 iX2 E.2.2.2.1 E.K hs.1 k ((wl_get (kd_lt hk (by decide))).trans (by rw [sh1 hk])) rfl j hj (E.tb hlink) (fun _ h => h) hv hdg kk
theorem zg2 (E : EV p R s m args meth c cc nL own rt cells slots A0 x) (hs : ST x A0 H0 ar fd H locs) {k : Nat} (hk : kd k = 2) (j : Nat) {index : Nat} {v : Value} (hj : j < 1) (hv : (fl2 x k)[j]? = some v) (hlink : Cond.fieldLink own index (TX3 j).1 (TX3 j).2.1 (TX3 j).2.2.1 ∈ TB) (hdg : decode cc pc = .ok (.getfield index, 3))
    (kk : W p l e R s m args below meth c H locs cells slots Q (F0 m (pc + 3) ls (v :: rest))) : W p l e R s m args below meth c H locs cells slots Q (F0 m pc ls (.ref (xa x k) :: rest)) :=
  va_get (ci := 2) (C := RX3) (T := TX3) (N := 1) E.1 E.2.1 E.2.2.2.2.1 iX3 E.2.2.2.1 E.K hs.1 k ((wl_get (kd_lt hk (by decide))).trans (by rw [sh2 hk])) rfl j hj (E.tb hlink) (fun _ h => h) hv hdg kk
theorem zg3 (E : EV p R s m args meth c cc nL own rt cells slots A0 x) (hs : ST x A0 H0 ar fd H locs) {k : Nat} (hk : kd k = 3) (j : Nat) {index : Nat} {v : Value} (hj : j < 11) (hv : (fl3 x k (fd k))[j]? = some v) (hlink : Cond.fieldLink own index (TX4 j).1 (TX4 j).2.1 (TX4 j).2.2.1 ∈ TB) (hdg : decode cc pc = .ok (.getfield index, 3))
    (kk : W p l e R s m args below meth c H locs cells slots Q (F0 m (pc + 3) ls (v :: rest))) : W p l e R s m args below meth c H locs cells slots Q (F0 m pc ls (.ref (xa x k) :: rest)) :=
  va_get (ci := 3) (C := RX4) (T := TX4) (N := 11) E.1 E.2.1 E.2.2.2.2.1 iX4 E.2.2.2.1 E.K hs.1 k ((wl_get (kd_lt hk (by decide))).trans (by rw [sh3 hk])) rfl j hj (E.tb hlink) (fun _ h => h) hv hdg kk
theorem zg4 (E : EV p R s m args meth c cc nL own rt cells slots A0 x) (hs : ST x A0 H0 ar fd H locs) {k : Nat} (hk : kd k = 4) (j : Nat) {index : Nat} {v : Value} (hj : j < 2) (hv : (fl4 x (fd k))[j]? = some v) (hlink : Cond.fieldLink own index (TX5 j).1 (TX5 j).2.1 (TX5 j).2.2.1 ∈ TB) (hdg : decode cc pc = .ok (.getfield index, 3))
    (kk : W p l e R s m args below meth c H locs cells slots Q (F0 m (pc + 3) ls (v :: rest))) : W p l e R s m args below meth c H locs cells slots Q (F0 m pc ls (.ref (xa x k) :: rest)) :=
  va_get (ci := 4) (C := RX5) (T := TX5) (N := 2) E.1 E.2.1 E.2.2.2.2.1 iX5 E.2.2.2.1 E.K hs.1 k ((wl_get (kd_lt hk (by decide))).trans (by rw [sh4 hk])) rfl j hj (E.tb hlink) (fun _ h => h) hv hdg kk
theorem zg5 (E : EV p R s m args meth c cc nL own rt cells slots A0 x) (hs : ST x A0 H0 ar fd H locs) {k : Nat} (hk : kd k = 5) (j : Nat) {index : Nat} {v : Value} (hj : j < 7) (hv : (fl5 x (fd k))[j]? = some v) (hlink : Cond.fieldLink own index (TX6 j).1 (TX6 j).2.1 (TX6 j).2.2.1 ∈ TB) (hdg : decode cc pc = .ok (.getfield index, 3))
    (kk : W p l e R s m args below meth c H locs cells slots Q (F0 m (pc + 3) ls (v :: rest))) : W p l e R s m args below meth c H locs cells slots Q (F0 m pc ls (.ref (xa x k) :: rest)) :=
  va_get (ci := 5) (C := RX6) (T := TX6) (N := 7) E.1 E.2.1 E.2.2.2.2.1 iX6 E.2.2.2.1 E.K hs.1 k ((wl_get (kd_lt hk (by decide))).trans (by rw [sh5 hk])) rfl j hj (E.tb hlink) (fun _ h => h) hv hdg kk
theorem zg6 (E : EV p R s m args meth c cc nL own rt cells slots A0 x) (hs : ST x A0 H0 ar fd H locs) {k : Nat} (hk : kd k = 6) (j : Nat) {index : Nat} {v : Value} (hj : j < 11) (hv : (fl6 x (fd k))[j]? = some v) (hlink : Cond.fieldLink own index (TX7 j).1 (TX7 j).2.1 (TX7 j).2.2.1 ∈ TB) (hdg : decode cc pc = .ok (.getfield index, 3))
    (kk : W p l e R s m args below meth c H locs cells slots Q (F0 m (pc + 3) ls (v :: rest))) : W p l e R s m args below meth c H locs cells slots Q (F0 m pc ls (.ref (xa x k) :: rest)) :=
  va_get (ci := 6) (C := RX7) (T := TX7) (N := 11) E.1 E.2.1 E.2.2.2.2.1 iX7 E.2.2.2.1 E.K hs.1 k ((wl_get (kd_lt hk (by decide))).trans (by rw [sh6 hk])) rfl j hj (E.tb hlink) (fun _ h => h) hv hdg kk
theorem zp0_1 (E : EV p R s m args meth c cc nL own rt cells slots A0 x) (hs : ST x A0 H0 ar fd H locs) {k : Nat} (hk : kd k = 0) {index : Nat} {v : Int32} (hlink : Cond.fieldLink own index (TX1 1).1 (TX1 1).2.1 (TX1 1).2.2.1 ∈ TB) (hdg : decode cc pc = .ok (.putfield index, 3))
    (kk : ∀ (H : Heap) (locs : List Loc), ST x A0 H0 ar (zu fd k (zu (fd k) 1 v)) H locs → W p l e R s m args below meth c H locs cells slots Q (F0 m (pc + 3) ls rest)) : W p l e R s m args below meth c H locs cells slots Q (F0 m pc ls (.int v :: .ref (xa x k) :: rest)) := by
  have h1 := kd_lt hk (by decide)
  refine va_put (ci := 0) (C := RX1) (T := TX1) (N := 3) (v := .int v) (ty := .int) E.1 E.2.1 E.2.2.2.2.1 iX1 tyX1 tyX1_ok nmX1 E.2.2.2.1 E.K hs.1 (E.D ar fd) hs.2 k ((wl_get h1).trans (by rw [sh0 hk])) rfl 1 (by decide) (E.tb hlink) (fun _ h => h) rfl (by decide +kernel) rfl rfl (Nat.le_of_ble_eq_true rfl) hdg fun H1 locs1 hP _ hS => kk H1 locs1 ⟨?_, hS⟩
  rw [wl_setF (g := zu (fd k) 1 v) h1 (by rw [sh0 hk]; rfl)] at hP
  exact hP
theorem zp0_2 (E : EV p R s m args meth c cc nL own rt cells slots A0 x) (hs : ST x A0 H0 ar fd H locs) {k : Nat} (hk : kd k = 0) {index : Nat} {v : Int32} (hlink : Cond.fieldLink own index (TX1 2).1 (TX1 2).2.1 (TX1 2).2.2.1 ∈ TB) (hdg : decode cc pc = .ok (.putfield index, 3))
    (kk : ∀ (H : Heap) (locs : List Loc), ST x A0 H0 ar (zu fd k (zu (fd k) 2 v)) H locs → W p l e R s m args below meth c H locs cells slots Q (F0 m (pc + 3) ls rest)) : W p l e R s m args below meth c H locs cells slots Q (F0 m pc ls (.int v :: .ref (xa x k) :: rest)) := by
  have h1 := kd_lt hk (by decide)
  refine va_put (ci := 0) (C := RX1) (T := TX1) (N := 3) (v := .int v) (ty := .int) E.1 E.2.1 E.2.2.2.2.1 iX1 tyX1 tyX1_ok nmX1 E.2.2.2.1 E.K hs.1 (E.D ar fd) hs.2 k ((wl_get h1).trans (by rw [sh0 hk])) rfl 2 (by decide) (E.tb hlink) (fun _ h => h) rfl (by decide +kernel) rfl rfl (Nat.le_of_ble_eq_true rfl) hdg fun H1 locs1 hP _ hS => kk H1 locs1 ⟨?_, hS⟩
  rw [wl_setF (g := zu (fd k) 2 v) h1 (by rw [sh0 hk]; rfl)] at hP
  exact hP
theorem zp3_7 (E : EV p R s m args meth c cc nL own rt cells slots A0 x) (hs : ST x A0 H0 ar fd H locs) {k : Nat} (hk : kd k = 3) {index : Nat} {v : Int32} (hlink : Cond.fieldLink own index (TX4 7).1 (TX4 7).2.1 (TX4 7).2.2.1 ∈ TB) (hdg : decode cc pc = .ok (.putfield index, 3))
    (kk : ∀ (H : Heap) (locs : List Loc), ST x A0 H0 ar (zu fd k (zu (fd k) 7 v)) H locs → W p l e R s m args below meth c H locs cells slots Q (F0 m (pc + 3) ls rest)) : W p l e R s m args below meth c H locs cells slots Q (F0 m pc ls (.int v :: .ref (xa x k) :: rest)) := by
  have h1 := kd_lt hk (by decide)
  refine va_put (ci := 3) (C := RX4) (T := TX4) (N := 11) (v := .int v) (ty := .int) E.1 E.2.1 E.2.2.2.2.1 iX4 tyX4 tyX4_ok nmX4 E.2.2.2.1 E.K hs.1 (E.D ar fd) hs.2 k ((wl_get h1).trans (by rw [sh3 hk])) rfl 7 (by decide) (E.tb hlink) (fun _ h => h) rfl (by decide +kernel) rfl rfl (Nat.le_of_ble_eq_true rfl) hdg fun H1 locs1 hP _ hS => kk H1 locs1 ⟨?_, hS⟩
  rw [wl_setF (g := zu (fd k) 7 v) h1 (by rw [sh3 hk]; rfl)] at hP
  exact hP
theorem zp3_8 (E : EV p R s m args meth c cc nL own rt cells slots A0 x) (hs : ST x A0 H0 ar fd H locs) {k : Nat} (hk : kd k = 3) {index : Nat} {v : Int32} (hlink : Cond.fieldLink own index (TX4 8).1 (TX4 8).2.1 (TX4 8).2.2.1 ∈ TB) (hdg : decode cc pc = .ok (.putfield index, 3))
    (kk : ∀ (H : Heap) (locs : List Loc), ST x A0 H0 ar (zu fd k (zu (fd k) 8 v)) H locs → W p l e R s m args below meth c H locs cells slots Q (F0 m (pc + 3) ls rest)) : W p l e R s m args below meth c H locs cells slots Q (F0 m pc ls (.int v :: .ref (xa x k) :: rest)) := by
  have h1 := kd_lt hk (by decide)
  refine va_put (ci := 3) (C := RX4) (T := TX4) (N := 11) (v := .int v) (ty := .int) E.1 E.2.1 E.2.2.2.2.1 iX4 tyX4 tyX4_ok nmX4 E.2.2.2.1 E.K hs.1 (E.D ar fd) hs.2 k ((wl_get h1).trans (by rw [sh3 hk])) rfl 8 (by decide) (E.tb hlink) (fun _ h => h) rfl (by decide +kernel) rfl rfl (Nat.le_of_ble_eq_true rfl) hdg fun H1 locs1 hP _ hS => kk H1 locs1 ⟨?_, hS⟩
  rw [wl_setF (g := zu (fd k) 8 v) h1 (by rw [sh3 hk]; rfl)] at hP
  exact hP
theorem zp3_9 (E : EV p R s m args meth c cc nL own rt cells slots A0 x) (hs : ST x A0 H0 ar fd H locs) {k : Nat} (hk : kd k = 3) {index : Nat} {v : Int32} (hlink : Cond.fieldLink own index (TX4 9).1 (TX4 9).2.1 (TX4 9).2.2.1 ∈ TB) (hdg : decode cc pc = .ok (.putfield index, 3))
    (kk : ∀ (H : Heap) (locs : List Loc), ST x A0 H0 ar (zu fd k (zu (fd k) 9 v)) H locs → W p l e R s m args below meth c H locs cells slots Q (F0 m (pc + 3) ls rest)) : W p l e R s m args below meth c H locs cells slots Q (F0 m pc ls (.int v :: .ref (xa x k) :: rest)) := by
  have h1 := kd_lt hk (by decide)
  refine va_put (ci := 3) (C := RX4) (T := TX4) (N := 11) (v := .int v) (ty := .int) E.1 E.2.1 E.2.2.2.2.1 iX4 tyX4 tyX4_ok nmX4 E.2.2.2.1 E.K hs.1 (E.D ar fd) hs.2 k ((wl_get h1).trans (by rw [sh3 hk])) rfl 9 (by decide) (E.tb hlink) (fun _ h => h) rfl (by decide +kernel) rfl rfl (Nat.le_of_ble_eq_true rfl) hdg fun H1 locs1 hP _ hS => kk H1 locs1 ⟨?_, hS⟩
  rw [wl_setF (g := zu (fd k) 9 v) h1 (by rw [sh3 hk]; rfl)] at hP
  exact hP
theorem zp3_10 (E : EV p R s m args meth c cc nL own rt cells slots A0 x) (hs : ST x A0 H0 ar fd H locs) {k : Nat} (hk : kd k = 3) {index : Nat} {v : Int32} (hlink : Cond.fieldLink own index (TX4 10).1 (TX4 10).2.1 (TX4 10).2.2.1 ∈ TB) (hdg : decode cc pc = .ok (.putfield index, 3))
    (kk : ∀ (H : Heap) (locs : List Loc), ST x A0 H0 ar (zu fd k (zu (fd k) 10 v)) H locs → W p l e R s m args below meth c H locs cells slots Q (F0 m (pc + 3) ls rest)) : W p l e R s m args below meth c H locs cells slots Q (F0 m pc ls (.int v :: .ref (xa x k) :: rest)) := by
  have h1 := kd_lt hk (by decide)
  refine va_put (ci := 3) (C := RX4) (T := TX4) (N := 11) (v := .int v) (ty := .int) E.1 E.2.1 E.2.2.2.2.1 iX4 tyX4 tyX4_ok nmX4 E.2.2.2.1 E.K hs.1 (E.D ar fd) hs.2 k ((wl_get h1).trans (by rw [sh3 hk])) rfl 10 (by decide) (E.tb hlink) (fun _ h => h) rfl (by decide +kernel) rfl rfl (Nat.le_of_ble_eq_true rfl) hdg fun H1 locs1 hP _ hS => kk H1 locs1 ⟨?_, hS⟩
  rw [wl_setF (g := zu (fd k) 10 v) h1 (by rw [sh3 hk]; rfl)] at hP
  exact hP
theorem zp4_1 (E : EV p R s m args meth c cc nL own rt cells slots A0 x) (hs : ST x A0 H0 ar fd H locs) {k : Nat} (hk : kd k = 4) {index : Nat} {v : Int32} (hlink : Cond.fieldLink own index (TX5 1).1 (TX5 1).2.1 (TX5 1).2.2.1 ∈ TB) (hdg : decode cc pc = .ok (.putfield index, 3))
    (kk : ∀ (H : Heap) (locs : List Loc), ST x A0 H0 ar (zu fd k (zu (fd k) 1 v)) H locs → W p l e R s m args below meth c H locs cells slots Q (F0 m (pc + 3) ls rest)) : W p l e R s m args below meth c H locs cells slots Q (F0 m pc ls (.int v :: .ref (xa x k) :: rest)) := by
  have h1 := kd_lt hk (by decide)
  refine va_put (ci := 4) (C := RX5) (T := TX5) (N := 2) (v := .int v) (ty := .int) E.1 E.2.1 E.2.2.2.2.1 iX5 tyX5 tyX5_ok nmX5 E.2.2.2.1 E.K hs.1 (E.D ar fd) hs.2 k ((wl_get h1).trans (by rw [sh4 hk])) rfl 1 (by decide) (E.tb hlink) (fun _ h => h) rfl (by decide +kernel) rfl rfl (Nat.le_of_ble_eq_true rfl) hdg fun H1 locs1 hP _ hS => kk H1 locs1 ⟨?_, hS⟩
  rw [wl_setF (g := zu (fd k) 1 v) h1 (by rw [sh4 hk]; rfl)] at hP
  exact hP
theorem zp5_3 (E : EV p R s m args meth c cc nL own rt cells slots A0 x) (hs : ST x A0 H0 ar fd H locs) {k : Nat} (hk : kd k = 5) {index : Nat} {v : Int32} (hb1 : v = 0 ∨ v = 1) (hlink : Cond.fieldLink own index (TX6 3).1 (TX6 3).2.1 (TX6 3).2.2.1 ∈ TB) (hdg : decode cc pc = .ok (.putfield index, 3))
    (kk : ∀ (H : Heap) (locs : List Loc), ST x A0 H0 ar (zu fd k (zu (fd k) 3 v)) H locs → W p l e R s m args below meth c H locs cells slots Q (F0 m (pc + 3) ls rest)) : W p l e R s m args below meth c H locs cells slots Q (F0 m pc ls (.int v :: .ref (xa x k) :: rest)) := by
  have h1 := kd_lt hk (by decide)
  refine va_put (ci := 5) (C := RX6) (T := TX6) (N := 7) (v := .int v) (ty := .boolean) E.1 E.2.1 E.2.2.2.2.1 iX6 tyX6 tyX6_ok nmX6 E.2.2.2.1 E.K hs.1 (E.D ar fd) hs.2 k ((wl_get h1).trans (by rw [sh5 hk])) rfl 3 (by decide) (E.tb hlink) (fun _ h => h) rfl (by decide +kernel) (by rcases hb1 with rfl | rfl <;> rfl) (by rcases hb1 with rfl | rfl <;> rfl) (Nat.le_of_ble_eq_true rfl) hdg fun H1 locs1 hP _ hS => kk H1 locs1 ⟨?_, hS⟩
  rw [wl_setF (g := zu (fd k) 3 v) h1 (by rw [sh5 hk]; rfl)] at hP
  exact hP
theorem zp6_3 (E : EV p R s m args meth c cc nL own rt cells slots A0 x) (hs : ST x A0 H0 ar fd H locs) {k : Nat} (hk : kd k = 6) {index : Nat} {v : Int32} (hlink : Cond.fieldLink own index (TX7 3).1 (TX7 3).2.1 (TX7 3).2.2.1 ∈ TB) (hdg : decode cc pc = .ok (.putfield index, 3))
    (kk : ∀ (H : Heap) (locs : List Loc), ST x A0 H0 ar (zu fd k (zu (fd k) 3 v)) H locs → W p l e R s m args below meth c H locs cells slots Q (F0 m (pc + 3) ls rest)) : W p l e R s m args below meth c H locs cells slots Q (F0 m pc ls (.int v :: .ref (xa x k) :: rest)) := by
  have h1 := kd_lt hk (by decide)
  refine va_put (ci := 6) (C := RX7) (T := TX7) (N := 11) (v := .int v) (ty := .int) E.1 E.2.1 E.2.2.2.2.1 iX7 tyX7 tyX7_ok nmX7 E.2.2.2.1 E.K hs.1 (E.D ar fd) hs.2 k ((wl_get h1).trans (by rw [sh6 hk])) rfl 3 (by decide) (E.tb hlink) (fun _ h => h) rfl (by decide +kernel) rfl rfl (Nat.le_of_ble_eq_true rfl) hdg fun H1 locs1 hP _ hS => kk H1 locs1 ⟨?_, hS⟩
  rw [wl_setF (g := zu (fd k) 3 v) h1 (by rw [sh6 hk]; rfl)] at hP
  exact hP
theorem zp6_4 (E : EV p R s m args meth c cc nL own rt cells slots A0 x) (hs : ST x A0 H0 ar fd H locs) {k : Nat} (hk : kd k = 6) {index : Nat} {v : Int32} (hb1 : v = 0 ∨ v = 1) (hlink : Cond.fieldLink own index (TX7 4).1 (TX7 4).2.1 (TX7 4).2.2.1 ∈ TB) (hdg : decode cc pc = .ok (.putfield index, 3))
    (kk : ∀ (H : Heap) (locs : List Loc), ST x A0 H0 ar (zu fd k (zu (fd k) 4 v)) H locs → W p l e R s m args below meth c H locs cells slots Q (F0 m (pc + 3) ls rest)) : W p l e R s m args below meth c H locs cells slots Q (F0 m pc ls (.int v :: .ref (xa x k) :: rest)) := by
  have h1 := kd_lt hk (by decide)
  refine va_put (ci := 6) (C := RX7) (T := TX7) (N := 11) (v := .int v) (ty := .boolean) E.1 E.2.1 E.2.2.2.2.1 iX7 tyX7 tyX7_ok nmX7 E.2.2.2.1 E.K hs.1 (E.D ar fd) hs.2 k ((wl_get h1).trans (by rw [sh6 hk])) rfl 4 (by decide) (E.tb hlink) (fun _ h => h) rfl (by decide +kernel) (by rcases hb1 with rfl | rfl <;> rfl) (by rcases hb1 with rfl | rfl <;> rfl) (Nat.le_of_ble_eq_true rfl) hdg fun H1 locs1 hP _ hS => kk H1 locs1 ⟨?_, hS⟩
  rw [wl_setF (g := zu (fd k) 4 v) h1 (by rw [sh6 hk]; rfl)] at hP
  exact hP
theorem zp6_6 (E : EV p R s m args meth c cc nL own rt cells slots A0 x) (hs : ST x A0 H0 ar fd H locs) {k : Nat} (hk : kd k = 6) {index : Nat} {v : Int32} (hlink : Cond.fieldLink own index (TX7 6).1 (TX7 6).2.1 (TX7 6).2.2.1 ∈ TB) (hdg : decode cc pc = .ok (.putfield index, 3))
    (kk : ∀ (H : Heap) (locs : List Loc), ST x A0 H0 ar (zu fd k (zu (fd k) 6 v)) H locs → W p l e R s m args below meth c H locs cells slots Q (F0 m (pc + 3) ls rest)) : W p l e R s m args below meth c H locs cells slots Q (F0 m pc ls (.int v :: .ref (xa x k) :: rest)) := by
  have h1 := kd_lt hk (by decide)
  refine va_put (ci := 6) (C := RX7) (T := TX7) (N := 11) (v := .int v) (ty := .int) E.1 E.2.1 E.2.2.2.2.1 iX7 tyX7 tyX7_ok nmX7 E.2.2.2.1 E.K hs.1 (E.D ar fd) hs.2 k ((wl_get h1).trans (by rw [sh6 hk])) rfl 6 (by decide) (E.tb hlink) (fun _ h => h) rfl (by decide +kernel) rfl rfl (Nat.le_of_ble_eq_true rfl) hdg fun H1 locs1 hP _ hS => kk H1 locs1 ⟨?_, hS⟩
  rw [wl_setF (g := zu (fd k) 6 v) h1 (by rw [sh6 hk]; rfl)] at hP
  exact hP
theorem zp6_7 (E : EV p R s m args meth c cc nL own rt cells slots A0 x) (hs : ST x A0 H0 ar fd H locs) {k : Nat} (hk : kd k = 6) {index : Nat} {v : Int32} (hlink : Cond.fieldLink own index (TX7 7).1 (TX7 7).2.1 (TX7 7).2.2.1 ∈ TB) (hdg : decode cc pc = .ok (.putfield index, 3))
    (kk : ∀ (H : Heap) (locs : List Loc), ST x A0 H0 ar (zu fd k (zu (fd k) 7 v)) H locs → W p l e R s m args below meth c H locs cells slots Q (F0 m (pc + 3) ls rest)) : W p l e R s m args below meth c H locs cells slots Q (F0 m pc ls (.int v :: .ref (xa x k) :: rest)) := by
  have h1 := kd_lt hk (by decide)
  refine va_put (ci := 6) (C := RX7) (T := TX7) (N := 11) (v := .int v) (ty := .int) E.1 E.2.1 E.2.2.2.2.1 iX7 tyX7 tyX7_ok nmX7 E.2.2.2.1 E.K hs.1 (E.D ar fd) hs.2 k ((wl_get h1).trans (by rw [sh6 hk])) rfl 7 (by decide) (E.tb hlink) (fun _ h => h) rfl (by decide +kernel) rfl rfl (Nat.le_of_ble_eq_true rfl) hdg fun H1 locs1 hP _ hS => kk H1 locs1 ⟨?_, hS⟩
  rw [wl_setF (g := zu (fd k) 7 v) h1 (by rw [sh6 hk]; rfl)] at hP
  exact hP
theorem zald (E : EV p R s m args meth c cc nL own rt cells slots A0 x) (hs : ST x A0 H0 ar fd H locs) (k : Nat) {n j : Nat} (hk : kd k = 7) (hn : rl k = n) (hj : j < n) (hm : n < 2 ^ 31) (hdg : decode cc pc = .ok (.iaload, 1))
    (kk : W p l e R s m args below meth c H locs cells slots Q (F0 m (pc + 1) ls (.int (ar k j) :: rest))) : W p l e R s m args below meth c H locs cells slots Q (F0 m pc ls (.int (nI j) :: .ref (xa x k) :: rest)) := by
  subst hn
  refine va_iald E.1 E.2.1 E.K hs.1 k 0 ((wl_get (kd_lt hk (by decide))).trans (by rw [sh7 hk])) rfl (vp_in_nI hj hm) hdg ?_
  rw [nI_clamp (by omega)]
  exact kk
theorem zaldv (E : EV p R s m args meth c cc nL own rt cells slots A0 x) (hs : ST x A0 H0 ar fd H locs) (k : Nat) {i : Int32} (hk : kd k = 7) (hj : vp_in i (rl k)) (hdg : decode cc pc = .ok (.iaload, 1))
    (kk : W p l e R s m args below meth c H locs cells slots Q (F0 m (pc + 1) ls (.int (ar k i.toNatClampNeg) :: rest))) : W p l e R s m args below meth c H locs cells slots Q (F0 m pc ls (.int i :: .ref (xa x k) :: rest)) := by
  exact va_iald E.1 E.2.1 E.K hs.1 k 0 ((wl_get (kd_lt hk (by decide))).trans (by rw [sh7 hk])) rfl hj hdg kk
theorem zald8 (E : EV p R s m args meth c cc nL own rt cells slots A0 x) (hs : ST x A0 H0 ar fd H locs) (k : Nat) {n j : Nat} (hk : kd k = 8) (hn : rl k = n) (hj : j < n) (hm : n < 2 ^ 31) (hdg : decode cc pc = .ok (.caload, 1))
    (kk : W p l e R s m args below meth c H locs cells slots Q (F0 m (pc + 1) ls (.int (ar k j) :: rest))) : W p l e R s m args below meth c H locs cells slots Q (F0 m pc ls (.int (nI j) :: .ref (xa x k) :: rest)) := by
  subst hn
  refine va_cald E.1 E.2.1 E.K hs.1 k 1 ((wl_get (kd_lt hk (by decide))).trans (by rw [sh8 hk])) rfl (vp_in_nI hj hm) hdg ?_
  rw [nI_clamp (by omega)]
  exact kk
theorem zald9 (E : EV p R s m args meth c cc nL own rt cells slots A0 x) (hs : ST x A0 H0 ar fd H locs) (k : Nat) {n j : Nat} (hk : kd k = 9) (hn : rl k = n) (hj : j < n) (hm : n < 2 ^ 31) (hdg : decode cc pc = .ok (.baload, 1))
    (kk : W p l e R s m args below meth c H locs cells slots Q (F0 m (pc + 1) ls (.int (ar k j) :: rest))) : W p l e R s m args below meth c H locs cells slots Q (F0 m pc ls (.int (nI j) :: .ref (xa x k) :: rest)) := by
  subst hn
  refine va_zald E.1 E.2.1 E.K hs.1 k 2 ((wl_get (kd_lt hk (by decide))).trans (by rw [sh9 hk])) rfl (vp_in_nI hj hm) hdg ?_
  rw [nI_clamp (by omega)]
  exact kk
theorem zast (E : EV p R s m args meth c cc nL own rt cells slots A0 x) (hs : ST x A0 H0 ar fd H locs) (k : Nat) {n j : Nat} {v : Int32} (hk : kd k = 7) (hn : rl k = n) (hj : j < n) (hm : n < 2 ^ 31) (hdg : decode cc pc = .ok (.iastore, 1))
    (kk : ∀ (H : Heap) (locs : List Loc), ST x A0 H0 (zu ar k (zu (ar k) j v)) fd H locs → W p l e R s m args below meth c H locs cells slots Q (F0 m (pc + 1) ls rest)) : W p l e R s m args below meth c H locs cells slots Q (F0 m pc ls (.int v :: .int (nI j) :: .ref (xa x k) :: rest)) := by
  subst hn
  have h1 := kd_lt hk (by decide)
  refine va_iast E.1 E.2.1 E.K hs.1 (E.D ar fd) hs.2 k 0 ((wl_get h1).trans (by rw [sh7 hk])) rfl (vp_in_nI hj hm) hdg fun H1 locs1 hP _ hS => kk H1 locs1 ⟨?_, hS⟩
  rw [nI_clamp (by omega), wl_setA (g := zu (ar k) j v) h1 (by rw [sh7 hk]; rfl)] at hP
  exact hP
theorem zast8 (E : EV p R s m args meth c cc nL own rt cells slots A0 x) (hs : ST x A0 H0 ar fd H locs) (k : Nat) {n j : Nat} {v : Int32} (hk : kd k = 8) (hn : rl k = n) (hj : j < n) (hm : n < 2 ^ 31) (hdg : decode cc pc = .ok (.castore, 1))
    (kk : ∀ (H : Heap) (locs : List Loc), ST x A0 H0 (zu ar k (zu (ar k) j (vp_nar .char v))) fd H locs → W p l e R s m args below meth c H locs cells slots Q (F0 m (pc + 1) ls rest)) : W p l e R s m args below meth c H locs cells slots Q (F0 m pc ls (.int v :: .int (nI j) :: .ref (xa x k) :: rest)) := by
  subst hn
  have h1 := kd_lt hk (by decide)
  refine va_cast E.1 E.2.1 E.K hs.1 (E.D ar fd) hs.2 k 1 ((wl_get h1).trans (by rw [sh8 hk])) rfl (vp_in_nI hj hm) hdg fun H1 locs1 hP _ hS => kk H1 locs1 ⟨?_, hS⟩
  rw [nI_clamp (by omega), wl_setA (g := zu (ar k) j (vp_nar .char v)) h1 (by rw [sh8 hk]; rfl)] at hP
  exact hP
theorem zalen (E : EV p R s m args meth c cc nL own rt cells slots A0 x) (hs : ST x A0 H0 ar fd H locs) (k : Nat) {n : Nat} (hk : kd k = 7) (hn : rl k = n) (hdg : decode cc pc = .ok (.arraylength, 1))
    (kk : W p l e R s m args below meth c H locs cells slots Q (F0 m (pc + 1) ls (.int (nI n) :: rest))) : W p l e R s m args below meth c H locs cells slots Q (F0 m pc ls (.ref (xa x k) :: rest)) := by
  subst hn
  exact va_alen (v := nI (rl k)) E.1 E.2.1 E.K hs.1 k 0 ((wl_get (kd_lt hk (by decide))).trans (by rw [sh7 hk])) rfl rfl hdg kk
theorem zalen8 (E : EV p R s m args meth c cc nL own rt cells slots A0 x) (hs : ST x A0 H0 ar fd H locs) (k : Nat) {n : Nat} (hk : kd k = 8) (hn : rl k = n) (hdg : decode cc pc = .ok (.arraylength, 1))
    (kk : W p l e R s m args below meth c H locs cells slots Q (F0 m (pc + 1) ls (.int (nI n) :: rest))) : W p l e R s m args below meth c H locs cells slots Q (F0 m pc ls (.ref (xa x k) :: rest)) := by
  subst hn
  exact va_alen (v := nI (rl k)) E.1 E.2.1 E.K hs.1 k 1 ((wl_get (kd_lt hk (by decide))).trans (by rw [sh8 hk])) rfl rfl hdg kk
end RW
end
section

/-! starts, ends, calls -/
/-- what a call wants of the tables -/
def zLV (own : String) (index : Nat) (C : String) (y : MethodName) (bytes : ByteArray) (maxL : Nat) (ret : Option FieldType) (n : Nat) : Prop :=
  Cond.code y bytes maxL ret ∈ TB ∧ Cond.initialized y.cls ∈ TB ∧ Cond.methodLink own index y ∈ TB ∧ Cond.instanceMethod y ∈ TB ∧ Cond.selects C y y ∈ TB ∧ (y.cls ≠ "java/lang/invoke/MethodHandle" ∧ y.cls ≠ "java/lang/invoke/VarHandle" ∧ (parseMethodDescriptor y.desc).map (fun d => d.parameters.length) = some n)
def zLS (own : String) (index : Nat) (y : MethodName) (bytes : ByteArray) (maxL : Nat) (ret : Option FieldType) (n : Nat) : Prop :=
  Cond.code y bytes maxL ret ∈ TB ∧ Cond.initialized y.cls ∈ TB ∧ Cond.methodLink own index y ∈ TB ∧ Cond.static y ∈ TB ∧ (y.cls ≠ "java/lang/invoke/MethodHandle" ∧ y.cls ≠ "java/lang/invoke/VarHandle" ∧ (parseMethodDescriptor y.desc).map (fun d => d.parameters.length) = some n)
section CALLS
variable {p : Program} {l : Launch} {e : Env} {R : Room} {s : State} {m : MethodId} {args : Array Value} {below : List Frame} {meth : Method} {c : Code} {H : Heap} {locs : List Loc} {cells slots : Nat} {Q : State → Prop}
variable {cc : ByteArray} {nL : Nat} {own : String} {rt : Option FieldType} {A0 : Nat → Prop} {x : CT} {H0 : Heap} {ar fd : AR} {pc : Nat} {ls : Array Slot} {rest st0 as : List Value}
variable {y : MethodName} {bytes : ByteArray} {maxL index n fr lo k : Nat} {ret : Option FieldType} {C : String} {Qc : Array Value → State → Outcome → State → Prop} {ci : Nat} {fs : List Value} {T : u_T} {N : Nat}
theorem zblind : FrameBlind (va_Pc as (OK x ar fd)) := fun a U g mk q => by
  obtain ⟨q1, qP, qK, qJ⟩ := q
  exact ⟨q1, qP, va_K.moved (u := U) (U := U.calling g mk a) (Vm.Alike.refl U.vm) qK, qJ⟩
theorem zrunV (E : EV p R s m args meth c cc nL own rt cells slots A0 x) (hs : ST x A0 H0 ar fd H locs) (L : zLV own index C y bytes maxL ret n) (hM : Met l y (.code y bytes maxL ret :: TB) (rmZ fr lo) (va_Pc (.ref (xa x k) :: as) (OK x ar fd)) Qc 0 0 (AA x)) (hk : k < 110) (he : sh x k (ar k) (fd k) = .inr (ci, fs)) (hc : vwCl[ci]? = some (C, T, N)) (hR : fr + 1 ≤ R.frames ∧ 8 + (maxL + 11) + lo ≤ R.locals) (hn : as.length = n) (hl : ls.size = nL) (hr : (rest.map fun v => v.category).sum ≤ 8) (hst : st0 = as.reverse ++ .ref (xa x k) :: rest) (hdg : decode cc pc = .ok (.invokevirtual index, 3)) :
    va_Run p l e R s m args below meth c H locs cells slots 0 0 (F0 m pc ls st0) rest (Qc (.ref (xa x k) :: as).toArray) (AA x) :=
  va_runV E.cf hM ⟨callB_of n E.2.2.2.2.1 (gTB L.1) rfl rfl rfl (E.tb L.2.1) (E.tb L.2.2.1) L.2.2.2.2.2 hR, E.tb L.2.2.2.1, E.tb L.2.2.2.2.1⟩ ⟨zblind, va_recv E.K hs.1 hc ((wl_get hk).trans (by rw [he])), fun U hU hW => ⟨rfl, by rw [hU]; exact hs.1, E.K.moved hW.alike, E.J⟩⟩ rfl hn hl hst (lv_room hr) hdg E.rm
theorem zrunS (E : EV p R s m args meth c cc nL own rt cells slots A0 x) (hs : ST x A0 H0 ar fd H locs) (L : zLS own index y bytes maxL ret n) (hM : Met l y (.code y bytes maxL ret :: TB) (rmZ fr lo) (va_Pc as (OK x ar fd)) Qc 0 0 (AA x)) (hR : fr + 1 ≤ R.frames ∧ 8 + (maxL + 11) + lo ≤ R.locals) (hn : as.length = n) (hl : ls.size = nL) (hr : (rest.map fun v => v.category).sum ≤ 8) (hst : st0 = as.reverse ++ rest) (hdg : decode cc pc = .ok (.invokestatic index, 3)) :
    va_Run p l e R s m args below meth c H locs cells slots 0 0 (F0 m pc ls st0) rest (Qc as.toArray) (AA x) :=
  va_runS E.cf hM ⟨callB_of n E.2.2.2.2.1 (gTB L.1) rfl rfl rfl (E.tb L.2.1) (E.tb L.2.2.1) L.2.2.2.2 hR, E.tb L.2.2.2.1⟩ ⟨zblind, fun U hU hW => ⟨rfl, by rw [hU]; exact hs.1, E.K.moved hW.alike, E.J⟩⟩ rfl hn hl hst (lv_room hr) hdg E.rm
/-! virtual -/
theorem zVP {post : Int32 → Prop} (E : EV p R s m args meth c cc nL own rt cells slots A0 x) (hs : ST x A0 H0 ar fd H locs) (L : zLV own index C y bytes maxL ret n) (rest : List Value) (hM : CP l y bytes maxL ret fr lo x (.ref (xa x k) :: as) ar fd post) (hk : k < 110) (he : sh x k (ar k) (fd k) = .inr (ci, fs)) (hc : vwCl[ci]? = some (C, T, N)) (hR : fr + 1 ≤ R.frames ∧ 8 + (maxL + 11) + lo ≤ R.locals) (hn : as.length = n) (hl : ls.size = nL) (hr : (rest.map fun v => v.category).sum ≤ 8) (hst : st0 = as.reverse ++ .ref (xa x k) :: rest) (hdg : decode cc pc = .ok (.invokevirtual index, 3))
    (kk : ∀ (r : Int32) (H : Heap) (locs : List Loc), post r → ST x A0 H0 ar fd H locs → W p l e R s m args below meth c H locs cells slots Q (F0 m (pc + 3) ls (.int r :: rest))) : W p l e R s m args below meth c H locs cells slots Q (F0 m pc ls st0) :=
  va_calli (zrunV E hs L hM hk he hc hR hn hl hr hst hdg) hs.2 (fun q _ h => E.A q h) E.A (fun r u t H1 locs1 ht hvm hp hB hz hk hS => kk r H1 locs1 hp ⟨by rw [← ht]; exact hB, hS⟩)
theorem zVI {post : Int32 → AR → AR → Prop} (E : EV p R s m args meth c cc nL own rt cells slots A0 x) (hs : ST x A0 H0 ar fd H locs) (L : zLV own index C y bytes maxL ret n) (rest : List Value) (hM : CI l y bytes maxL ret fr lo x (.ref (xa x k) :: as) ar fd post) (hk : k < 110) (he : sh x k (ar k) (fd k) = .inr (ci, fs)) (hc : vwCl[ci]? = some (C, T, N)) (hR : fr + 1 ≤ R.frames ∧ 8 + (maxL + 11) + lo ≤ R.locals) (hn : as.length = n) (hl : ls.size = nL) (hr : (rest.map fun v => v.category).sum ≤ 8) (hst : st0 = as.reverse ++ .ref (xa x k) :: rest) (hdg : decode cc pc = .ok (.invokevirtual index, 3))
    (kk : ∀ (r : Int32) (ar fd : AR) (H : Heap) (locs : List Loc), post r ar fd → ST x A0 H0 ar fd H locs → W p l e R s m args below meth c H locs cells slots Q (F0 m (pc + 3) ls (.int r :: rest))) : W p l e R s m args below meth c H locs cells slots Q (F0 m pc ls st0) :=
  va_calli (zrunV E hs L hM hk he hc hR hn hl hr hst hdg) hs.2 (fun q _ h => E.A q h) E.A (fun r u t H1 locs1 ht hvm hp hB hz hk hS => kk r u.1 u.2 H1 locs1 hp ⟨by rw [← ht]; exact hB, hS⟩)
theorem zVV {post : AR → AR → Prop} (E : EV p R s m args meth c cc nL own rt cells slots A0 x) (hs : ST x A0 H0 ar fd H locs) (L : zLV own index C y bytes maxL none n) (rest : List Value) (hM : CV l y bytes maxL fr lo x (.ref (xa x k) :: as) ar fd post) (hk : k < 110) (he : sh x k (ar k) (fd k) = .inr (ci, fs)) (hc : vwCl[ci]? = some (C, T, N)) (hR : fr + 1 ≤ R.frames ∧ 8 + (maxL + 11) + lo ≤ R.locals) (hn : as.length = n) (hl : ls.size = nL) (hr : (rest.map fun v => v.category).sum ≤ 8) (hst : st0 = as.reverse ++ .ref (xa x k) :: rest) (hdg : decode cc pc = .ok (.invokevirtual index, 3))
    (kk : ∀ (ar fd : AR) (H : Heap) (locs : List Loc), post ar fd → ST x A0 H0 ar fd H locs → W p l e R s m args below meth c H locs cells slots Q (F0 m (pc + 3) ls rest)) : W p l e R s m args below meth c H locs cells slots Q (F0 m pc ls st0) :=
  va_callv (zrunV E hs L hM hk he hc hR hn hl hr hst hdg) hs.2 (fun q _ h => E.A q h) E.A (fun u t H1 locs1 ht hvm hp hB hz hk hS => kk u.1 u.2 H1 locs1 hp ⟨by rw [← ht]; exact hB, hS⟩)
theorem zVR {post : Nat → Prop} (E : EV p R s m args meth c cc nL own rt cells slots A0 x) (hs : ST x A0 H0 ar fd H locs) (L : zLV own index C y bytes maxL ret n) (rest : List Value) (hM : CR l y bytes maxL ret fr lo x (.ref (xa x k) :: as) ar fd post) (hk : k < 110) (he : sh x k (ar k) (fd k) = .inr (ci, fs)) (hc : vwCl[ci]? = some (C, T, N)) (hR : fr + 1 ≤ R.frames ∧ 8 + (maxL + 11) + lo ≤ R.locals) (hn : as.length = n) (hl : ls.size = nL) (hr : (rest.map fun v => v.category).sum ≤ 8) (hst : st0 = as.reverse ++ .ref (xa x k) :: rest) (hdg : decode cc pc = .ok (.invokevirtual index, 3))
    (kk : ∀ (a : Nat) (H : Heap) (locs : List Loc), post a → ST x A0 H0 ar fd H locs → W p l e R s m args below meth c H locs cells slots Q (F0 m (pc + 3) ls (.ref a :: rest))) : W p l e R s m args below meth c H locs cells slots Q (F0 m pc ls st0) :=
  va_callr (zrunV E hs L hM hk he hc hR hn hl hr hst hdg) hs.2 (fun q _ h => E.A q h) E.A (fun u a t H1 locs1 ht hvm hp hB hz hk hS => kk a H1 locs1 hB.1 ⟨by rw [← ht]; exact hB.2, hS⟩)
/-! static -/
theorem zSP {post : Int32 → Prop} (E : EV p R s m args meth c cc nL own rt cells slots A0 x) (hs : ST x A0 H0 ar fd H locs) (L : zLS own index y bytes maxL ret n) (rest : List Value) (hM : CP l y bytes maxL ret fr lo x as ar fd post) (hR : fr + 1 ≤ R.frames ∧ 8 + (maxL + 11) + lo ≤ R.locals) (hn : as.length = n) (hl : ls.size = nL) (hr : (rest.map fun v => v.category).sum ≤ 8) (hst : st0 = as.reverse ++ rest) (hdg : decode cc pc = .ok (.invokestatic index, 3))
    (kk : ∀ (r : Int32) (H : Heap) (locs : List Loc), post r → ST x A0 H0 ar fd H locs → W p l e R s m args below meth c H locs cells slots Q (F0 m (pc + 3) ls (.int r :: rest))) : W p l e R s m args below meth c H locs cells slots Q (F0 m pc ls st0) :=
  va_calli (zrunS E hs L hM hR hn hl hr hst hdg) hs.2 (fun q _ h => E.A q h) E.A (fun r u t H1 locs1 ht hvm hp hB hz hk hS => kk r H1 locs1 hp ⟨by rw [← ht]; exact hB, hS⟩)
end CALLS
section ENDS
variable {p : Program} {l : Launch} {e : Env} {s : State} {m : MethodId} {below : List Frame} {meth : Method} {c : Code} {H : Heap} {locs : List Loc}
variable {cc : ByteArray} {nL : Nat} {own : String} {rt : Option FieldType} {x : CT} {ar fd ar0 fd0 : AR} {pc : Nat} {ls : Array Slot} {as : List Value}
variable {y : MethodName} {n fr lo : Nat}
/-- what a walk of a method comes to -/
def QP (below : List Frame) (x : CT) (as : List Value) (ar fd : AR) (s : State) (post : Int32 → Prop) : State → Prop := MQ below (va_Qi (fun (r : Int32) (_ : Unit) => post r) (fun _ t => va_P (xD x) vwCl (wl x ar fd) t.heap) (AA x)) as.toArray s 0 0 (AA x)
def QI (below : List Frame) (x : CT) (as : List Value) (s : State) (post : Int32 → AR → AR → Prop) : State → Prop := MQ below (va_Qi (fun (r : Int32) (u : AR × AR) => post r u.1 u.2) (fun u t => va_P (xD x) vwCl (wl x u.1 u.2) t.heap) (AA x)) as.toArray s 0 0 (AA x)
def QV (below : List Frame) (x : CT) (as : List Value) (s : State) (post : AR → AR → Prop) : State → Prop := MQ below (va_Qv (fun (u : AR × AR) => post u.1 u.2) (fun u t => va_P (xD x) vwCl (wl x u.1 u.2) t.heap) (AA x)) as.toArray s 0 0 (AA x)
def QR (below : List Frame) (x : CT) (as : List Value) (ar fd : AR) (s : State) (post : Nat → Prop) : State → Prop := MQ below (va_Qr (fun (_ : Unit) => True) (fun _ a t => post a ∧ va_P (xD x) vwCl (wl x ar fd) t.heap) (AA x)) as.toArray s 0 0 (AA x)
theorem zev {cc : ByteArray} (ho : y.cls = own) {s₁ : State} (B : BodyLoose p l y (headSpec (.code y cc n rt :: TB) (rmZ fr lo)) cc n rt e s m as.toArray below meth c s₁) (hml : c.maxLocals = n) (h : OK x ar fd s) : EV p (rmZ fr lo) s m as.toArray meth c cc n own rt 0 0 (AA x) x := by
  have hts := atoms_spec (ws := .code y cc n rt :: TB) B.pre
  exact ⟨B.exec, B.bytes, hml, ho ▸ findClass_of_methodNamed B.named, fun w h => hts w (List.mem_cons_of_mem _ h), h.2.1, h.2.2, fun _ h => h, ⟨Nat.le_refl _, Nat.le_refl _⟩, B.notSynchronized, B.returns⟩
theorem zsP {post : Int32 → Prop} (ho : y.cls = own) (hy : plainFor y = true) (hn : (lg_sl as).length ≤ n)
    (body : ∀ (p : Program) (e : Env) (s : State) (m : MethodId) (below : List Frame) (meth : Method) (c : Code) (ls : Array Slot), EV p (rmZ fr lo) s m as.toArray meth c cc n own rt 0 0 (AA x) x → ST x (AA x) s.heap ar fd s.heap [] → lv_has ls n (lv_args 0 as) → W p l e (rmZ fr lo) s m as.toArray below meth c s.heap [] 0 0 (QP below x as ar fd s post) (F0 m 0 ls [])) : CP l y cc n rt fr lo x as ar fd post := by
  refine va_MetF (cc := cc) (maxL := n) (ret := rt) hy rfl ?_
  intro p e s m args below meth c0 s₁ B hml hv
  obtain ⟨rfl, h⟩ := hv
  rw [lg_entry_eq]
  exact body p e s m below meth c0 _ (zev ho B hml h) ⟨h.1, va_S.rf⟩ (lv_entry as hn)
theorem zsI {post : Int32 → AR → AR → Prop} (ho : y.cls = own) (hy : plainName y.cls = true) (hn : (lg_sl as).length ≤ n)
    (body : ∀ (p : Program) (e : Env) (s : State) (m : MethodId) (below : List Frame) (meth : Method) (c : Code) (ls : Array Slot), EV p (rmZ fr lo) s m as.toArray meth c cc n own rt 0 0 (AA x) x → ST x (AA x) s.heap ar fd s.heap [] → lv_has ls n (lv_args 0 as) → W p l e (rmZ fr lo) s m as.toArray below meth c s.heap [] 0 0 (QI below x as s post) (F0 m 0 ls [])) : CI l y cc n rt fr lo x as ar fd post := by
  refine Met.ofW (cc := cc) (maxL := n) (ret := rt) hy rfl ?_
  intro p e s m args below meth c0 s₁ B hml hv
  obtain ⟨rfl, h⟩ := hv
  rw [lg_entry_eq]
  exact body p e s m below meth c0 _ (zev ho B hml h) ⟨h.1, va_S.rf⟩ (lv_entry as hn)
theorem zsV {post : AR → AR → Prop} (ho : y.cls = own) (hy : plainName y.cls = true) (hn : (lg_sl as).length ≤ n)
    (body : ∀ (p : Program) (e : Env) (s : State) (m : MethodId) (below : List Frame) (meth : Method) (c : Code) (ls : Array Slot), EV p (rmZ fr lo) s m as.toArray meth c cc n own none 0 0 (AA x) x → ST x (AA x) s.heap ar fd s.heap [] → lv_has ls n (lv_args 0 as) → W p l e (rmZ fr lo) s m as.toArray below meth c s.heap [] 0 0 (QV below x as s post) (F0 m 0 ls [])) : CV l y cc n fr lo x as ar fd post := by
  refine Met.ofW (cc := cc) (maxL := n) (ret := none) hy rfl ?_
  intro p e s m args below meth c0 s₁ B hml hv
  obtain ⟨rfl, h⟩ := hv
  rw [lg_entry_eq]
  exact body p e s m below meth c0 _ (zev ho B hml h) ⟨h.1, va_S.rf⟩ (lv_entry as hn)
theorem zsR {post : Nat → Prop} (ho : y.cls = own) (hy : plainName y.cls = true) (hn : (lg_sl as).length ≤ n)
    (body : ∀ (p : Program) (e : Env) (s : State) (m : MethodId) (below : List Frame) (meth : Method) (c : Code) (ls : Array Slot), EV p (rmZ fr lo) s m as.toArray meth c cc n own rt 0 0 (AA x) x → ST x (AA x) s.heap ar fd s.heap [] → lv_has ls n (lv_args 0 as) → W p l e (rmZ fr lo) s m as.toArray below meth c s.heap [] 0 0 (QR below x as ar fd s post) (F0 m 0 ls [])) : CR l y cc n rt fr lo x as ar fd post := by
  refine Met.ofW (cc := cc) (maxL := n) (ret := rt) hy rfl ?_
  intro p e s m args below meth c0 s₁ B hml hv
  obtain ⟨rfl, h⟩ := hv
  rw [lg_entry_eq]
  exact body p e s m below meth c0 _ (zev ho B hml h) ⟨h.1, va_S.rf⟩ (lv_entry as hn)
variable {R : Room} {cells slots : Nat} {v : Int32}
/-- ends: an int, a boolean (or char), none, a reference -/
theorem zeP {post : Int32 → Prop} (E : EV p R s m as.toArray meth c cc nL own (some .int) 0 0 (AA x) x) (hs : ST x (AA x) s.heap ar fd H locs) (hp : post v) (hdg : decode cc pc = .ok (.ireturn, 1)) : W p l e R s m as.toArray below meth c H locs 0 0 (QP below x as ar fd s post) (F0 m pc ls [.int v]) :=
  W.iret E.1 E.2.1 E.rr (fun t ht hW => ⟨⟨v, (), rfl, hp, by show va_P (xD x) vwCl _ t.heap; rw [ht]; exact hs.1⟩, hs.2.F ht⟩) hs.2.2.2 hdg E.lk
theorem zeI {post : Int32 → AR → AR → Prop} (E : EV p R s m as.toArray meth c cc nL own (some .int) 0 0 (AA x) x) (hs : ST x (AA x) s.heap ar fd H locs) (hp : post v ar fd) (hdg : decode cc pc = .ok (.ireturn, 1)) : W p l e R s m as.toArray below meth c H locs 0 0 (QI below x as s post) (F0 m pc ls [.int v]) :=
  W.iret E.1 E.2.1 E.rr (fun t ht hW => ⟨⟨v, (ar, fd), rfl, hp, by show va_P (xD x) vwCl _ t.heap; rw [ht]; exact hs.1⟩, hs.2.F ht⟩) hs.2.2.2 hdg E.lk
theorem zeV {post : AR → AR → Prop} (E : EV p R s m as.toArray meth c cc nL own none 0 0 (AA x) x) (hs : ST x (AA x) s.heap ar fd H locs) (hp : post ar fd) (hdg : decode cc pc = .ok (.return_, 1)) : W p l e R s m as.toArray below meth c H locs 0 0 (QV below x as s post) (F0 m pc ls []) :=
  W.vret E.1 E.2.1 E.rr (fun t ht hW => ⟨⟨(ar, fd), rfl, hp, by show va_P (xD x) vwCl _ t.heap; rw [ht]; exact hs.1⟩, hs.2.F ht⟩) hs.2.2.2 hdg E.lk
theorem zePn {ty : FieldType} {post : Int32 → Prop} (E : EV p R s m as.toArray meth c cc nL own (some ty) 0 0 (AA x) x) (hs : ST x (AA x) s.heap ar fd H locs) (hn : narrow ty (.int v) = .int v) (hp : post v) (hdg : decode cc pc = .ok (.ireturn, 1)) : W p l e R s m as.toArray below meth c H locs 0 0 (QP below x as ar fd s post) (F0 m pc ls [.int v]) :=
  W.zret E.1 E.2.1 E.rr hn (fun t ht hW => ⟨⟨v, (), rfl, hp, by show va_P (xD x) vwCl _ t.heap; rw [ht]; exact hs.1⟩, hs.2.F ht⟩) hs.2.2.2 hdg E.lk
theorem zeIn {ty : FieldType} {post : Int32 → AR → AR → Prop} (E : EV p R s m as.toArray meth c cc nL own (some ty) 0 0 (AA x) x) (hs : ST x (AA x) s.heap ar fd H locs) (hn : narrow ty (.int v) = .int v) (hp : post v ar fd) (hdg : decode cc pc = .ok (.ireturn, 1)) : W p l e R s m as.toArray below meth c H locs 0 0 (QI below x as s post) (F0 m pc ls [.int v]) :=
  W.zret E.1 E.2.1 E.rr hn (fun t ht hW => ⟨⟨v, (ar, fd), rfl, hp, by show va_P (xD x) vwCl _ t.heap; rw [ht]; exact hs.1⟩, hs.2.F ht⟩) hs.2.2.2 hdg E.lk
theorem zeR {C : String} {post : Nat → Prop} {a : Nat} (E : EV p R s m as.toArray meth c cc nL own (some (.object C)) 0 0 (AA x) x) (hs : ST x (AA x) s.heap ar fd H locs) (hp : post a) (hdg : decode cc pc = .ok (.areturn, 1)) : W p l e R s m as.toArray below meth c H locs 0 0 (QR below x as ar fd s post) (F0 m pc ls [.ref a]) :=
  W.aret E.1 E.2.1 E.rr (Or.inl ⟨_, rfl⟩) (Or.inr ⟨_, rfl⟩) (fun t ht hW => ⟨⟨(), a, rfl, trivial, hp, by show va_P (xD x) vwCl _ t.heap; rw [ht]; exact hs.1⟩, hs.2.F ht⟩) hs.2.2.2 hdg E.lk
end ENDS
/-! locals at a loop's head, one by one -/
theorem lvn {ls : Array Slot} {n : Nat} {l : List (Nat × Value)} (h : lv_has ls n l) : lv_has ls n [] := ⟨h.1, h.2.1, fun q hq => by cases hq⟩
theorem lvr {ls : Array Slot} {n i : Nat} {v : Value} {l : List (Nat × Value)} (h : ls[i]? = some (.val v)) (t : lv_has ls n l) : lv_has ls n ((i, v) :: l) := ⟨t.1, t.2.1, fun q hq => (List.mem_cons.mp hq).elim (fun e => by rw [e]; exact h) (t.2.2 q)⟩
theorem lvc {ls : Array Slot} {n i : Nat} {a b : Int32} {l : List (Nat × Value)} (h : ls[i]? = some (.val (.int a))) (e : a = b) (t : lv_has ls n l) : lv_has ls n ((i, .int b) :: l) := lvr (e ▸ h) t
/-! answers by cases -/
noncomputable def iz {α : Type} (P : Prop) (a b : α) : α := @ite α P (Classical.propDecidable P) a b
theorem iz_t {α : Type} {P : Prop} {a b : α} (h : P) : iz P a b = a := by unfold iz; rw [if_pos h]
theorem iz_f {α : Type} {P : Prop} {a b : α} (h : ¬ P) : iz P a b = b := by unfold iz; rw [if_neg h]
noncomputable def bz (P : Prop) : Int32 := iz P 1 0
theorem bz_t {P : Prop} (h : P) : bz P = 1 := iz_t h
theorem bz_f {P : Prop} (h : ¬ P) : bz P = 0 := iz_f h
theorem bz_0 {P : Prop} (h : bz P = 0) : ¬ P := fun q => by rw [bz_t q] at h; exact absurd h (by decide)
theorem bz_1 {P : Prop} (h : ¬ bz P = 0) : P := Classical.byContradiction fun q => h (bz_f q)
theorem bz_c {P Q : Prop} (h : P ↔ Q) : bz P = bz Q := by rw [propext h]
theorem bz_n (P : Prop) : narrow .boolean (.int (bz P)) = .int (bz P) := by
  by_cases h : P
  · rw [bz_t h]; rfl
  · rw [bz_f h]; rfl
theorem iz_c {α : Type} {P Q : Prop} {a b : α} (h : P ↔ Q) : iz P a b = iz Q a b := by rw [propext h]
theorem lkL_13 : zLV RL 13 RX6 yX6_setVotes cX6_setVotes 6 (some .int) 3 := ⟨q_155, q_1, q_152, q_153, q_154, hyX6_setVotes⟩
theorem lkX6_53 : zLS RX6 53 yX6_isCell cX6_isCell 1 (some .boolean) 1 := ⟨q_158, q_1, q_156, q_157, hyX6_isCell⟩
theorem lkX6_57 : zLS RX6 57 yX6_isFromTo cX6_isFromTo 3 (some .boolean) 3 := ⟨q_161, q_1, q_159, q_160, hyX6_isFromTo⟩
theorem lkX6_64 : zLV RX6 64 RX3 yX3_at cX3_at 2 (some .int) 1 := ⟨q_165, q_3, q_162, q_163, q_164, hyX3_at⟩
theorem lkX6_71 : zLV RX6 71 RX1 yX1_record cX1_record 3 none 1 := ⟨q_169, q_4, q_166, q_167, q_168, hyX1_record⟩
theorem lkX1_25 : zLV RX1 25 RX1 yX1_slotAt cX1_slotAt 3 (some (.object "FrozenDistricts$State")) 1 := ⟨q_173, q_4, q_170, q_172, q_s0, hyX1_slotAt⟩
theorem lkX1_33 : zLS RX1 33 yJ9_floorMod_7cf53 cJ9_floorMod_7cf53 3 (some .int) 2 := ⟨q_176, q_8, q_174, q_175, hyJ9_floorMod_7cf53⟩
theorem lkX1_29 : zLV RX1 29 RX4 yX4_copy cX4_copy 2 none 1 := ⟨q_180, q_2, q_177, q_178, q_179, hyX4_copy⟩
theorem lkX4_51 : zLV RX4 51 RX3 yX3_copy cX3_copy 3 none 1 := ⟨q_184, q_3, q_181, q_182, q_183, hyX3_copy⟩
theorem lkX3_15 : zLV RX3 15 RX3 yX3_at cX3_at 2 (some .int) 1 := ⟨q_165, q_3, q_185, q_163, q_164, hyX3_at⟩
theorem lkX6_75 : zLV RX6 75 RX3 yX3_put cX3_put 3 none 2 := ⟨q_189, q_3, q_186, q_187, q_188, hyX3_put⟩
theorem lkL_18 : zLV RL 18 RX6 yX6_begin cX6_begin 2 (some .int) 1 := ⟨q_193, q_1, q_190, q_191, q_192, hyX6_begin⟩
theorem lkX6_78 : zLS RX6 78 yX6_dividesTheMap cX6_dividesTheMap 1 (some .boolean) 1 := ⟨q_196, q_1, q_194, q_195, hyX6_dividesTheMap⟩
theorem lkX6_81 : zLV RX6 81 RX4 yX4_startAnew cX4_startAnew 2 none 1 := ⟨q_200, q_2, q_197, q_198, q_199, hyX4_startAnew⟩
theorem lkX4_55 : zLV RX4 55 RX3 yX3_fill cX3_fill 3 none 1 := ⟨q_204, q_3, q_201, q_202, q_203, hyX3_fill⟩
theorem lkX6_85 : zLV RX6 85 RX4 yX4_size cX4_size 1 (some .int) 0 := ⟨q_208, q_2, q_205, q_206, q_207, hyX4_size⟩
theorem lkL_23 : zLV RL 23 RX6 yX6_setTarget cX6_setTarget 4 (some .int) 2 := ⟨q_212, q_1, q_209, q_210, q_211, hyX6_setTarget⟩
theorem lkX6_89 : zLS RX6 89 yX6_isParty cX6_isParty 1 (some .boolean) 1 := ⟨q_215, q_1, q_213, q_214, hyX6_isParty⟩
theorem lkL_28 : zLV RL 28 RX6 yX6_draft cX6_draft 4 (some .int) 2 := ⟨q_219, q_1, q_216, q_217, q_218, hyX6_draft⟩
theorem lkX6_99 : zLV RX6 99 RX4 yX4_isOpen cX4_isOpen 2 (some .boolean) 1 := ⟨q_223, q_2, q_220, q_221, q_222, hyX4_isOpen⟩
theorem lkX4_59 : zLV RX4 59 RX3 yX3_at cX3_at 2 (some .int) 1 := ⟨q_165, q_3, q_224, q_163, q_164, hyX3_at⟩
theorem lkX6_102 : zLV RX6 102 RX4 yX4_isPart cX4_isPart 2 (some .boolean) 1 := ⟨q_228, q_2, q_225, q_226, q_227, hyX4_isPart⟩
theorem lkX4_63 : zLV RX4 63 RX4 yX4_left cX4_left 1 (some .int) 0 := ⟨q_232, q_2, q_229, q_230, q_231, hyX4_left⟩
theorem lkL_32 : zLV RL 32 RX6 yX6_trade cX6_trade 5 (some .int) 2 := ⟨q_236, q_1, q_233, q_234, q_235, hyX6_trade⟩
theorem lkX6_108 : zLV RX6 108 RX6 yX6_oneIfCut cX6_oneIfCut 1 (some .int) 0 := ⟨q_240, q_1, q_237, q_239, q_s1, hyX6_oneIfCut⟩
theorem lkX6_132 : zLV RX6 132 RX2 yX2_reason cX2_reason 2 (some .int) 1 := ⟨q_244, q_6, q_241, q_242, q_243, hyX2_reason⟩
theorem lkX2_23 : zLS RX2 23 yX2_withoutPart cX2_withoutPart 2 (some .int) 1 := ⟨q_247, q_6, q_245, q_246, hyX2_withoutPart⟩
theorem lkX2_57 : zLV RX2 57 RX4 yX4_isOpen cX4_isOpen 2 (some .boolean) 1 := ⟨q_223, q_2, q_248, q_221, q_222, hyX4_isOpen⟩
theorem lkX2_40 : zLV RX2 40 RX3 yX3_at cX3_at 2 (some .int) 1 := ⟨q_165, q_3, q_249, q_163, q_164, hyX3_at⟩
theorem lkX2_27 : zLS RX2 27 yX2_ofOtherSize cX2_ofOtherSize 2 (some .int) 1 := ⟨q_252, q_6, q_250, q_251, hyX2_ofOtherSize⟩
theorem lkX2_66 : zLV RX2 66 RX4 yX4_left cX4_left 1 (some .int) 0 := ⟨q_232, q_2, q_253, q_230, q_231, hyX4_left⟩
theorem lkX2_70 : zLS RX2 70 yX0_size cX0_size 4 (some .int) 2 := ⟨q_256, q_9, q_254, q_255, hyX0_size⟩
theorem lkX0_9 : zLV RX0 9 RX3 yX3_at cX3_at 2 (some .int) 1 := ⟨q_165, q_3, q_257, q_163, q_164, hyX3_at⟩
theorem lkX2_74 : zLV RX2 74 RX4 yX4_size cX4_size 1 (some .int) 0 := ⟨q_208, q_2, q_258, q_206, q_207, hyX4_size⟩
theorem lkX2_30 : zLV RX2 30 RX2 yX2_notConnected cX2_notConnected 3 (some .int) 1 := ⟨q_262, q_6, q_259, q_261, q_s2, hyX2_notConnected⟩
theorem lkX2_76 : zLV RX2 76 RX2 yX2_pieces cX2_pieces 5 (some .int) 2 := ⟨q_266, q_6, q_263, q_264, q_265, hyX2_pieces⟩
theorem lkX2_36 : zLV RX2 36 RX3 yX3_fill cX3_fill 3 none 1 := ⟨q_204, q_3, q_267, q_202, q_203, hyX3_fill⟩
theorem lkX2_44 : zLV RX2 44 RX2 yX2_reachFrom cX2_reachFrom 9 none 3 := ⟨q_271, q_6, q_268, q_270, q_s3, hyX2_reachFrom⟩
theorem lkX2_48 : zLV RX2 48 RX3 yX3_put cX3_put 3 none 2 := ⟨q_189, q_3, q_272, q_187, q_188, hyX3_put⟩
theorem lkX2_51 : zLS RX2 51 yX0_behind cX0_behind 3 (some .int) 2 := ⟨q_275, q_9, q_273, q_274, hyX0_behind⟩
theorem lkL_36 : zLV RL 36 RX6 yX6_snake cX6_snake 2 (some .int) 1 := ⟨q_279, q_1, q_276, q_277, q_278, hyX6_snake⟩
theorem lkX6_111 : zLV RX6 111 RX6 yX6_planSnake cX6_planSnake 6 none 1 := ⟨q_283, q_1, q_280, q_282, q_s4, hyX6_planSnake⟩
theorem lkX6_230 : zLV RX6 230 RX3 yX3_fill cX3_fill 3 none 1 := ⟨q_204, q_3, q_284, q_202, q_203, hyX3_fill⟩
theorem lkX6_233 : zLS RX6 233 yX6_cellOfSnake cX6_cellOfSnake 4 (some .int) 2 := ⟨q_287, q_1, q_285, q_286, hyX6_cellOfSnake⟩
theorem lkX6_115 : zLV RX6 115 RX3 yX3_isLike cX3_isLike 3 (some .boolean) 1 := ⟨q_291, q_3, q_288, q_289, q_290, hyX3_isLike⟩
theorem lkX6_119 : zLV RX6 119 RX3 yX3_copy cX3_copy 3 none 1 := ⟨q_184, q_3, q_292, q_182, q_183, hyX3_copy⟩
theorem lkL_41 : zLV RL 41 RX6 yX6_adopt cX6_adopt 1 (some .int) 0 := ⟨q_296, q_1, q_293, q_294, q_295, hyX6_adopt⟩
theorem lkX6_129 : zLV RX6 129 RX4 yX4_left cX4_left 1 (some .int) 0 := ⟨q_232, q_2, q_297, q_230, q_231, hyX4_left⟩
theorem lkL_46 : zLV RL 46 RX6 yX6_propose cX6_propose 2 (some .int) 0 := ⟨q_301, q_1, q_298, q_299, q_300, hyX6_propose⟩
theorem lkL_50 : zLV RL 50 RX6 yX6_freeze cX6_freeze 2 (some .int) 1 := ⟨q_305, q_1, q_302, q_303, q_304, hyX6_freeze⟩
theorem lkX6_136 : zLV RX6 136 RX4 yX4_takePart cX4_takePart 2 none 1 := ⟨q_309, q_2, q_306, q_307, q_308, hyX4_takePart⟩
theorem lkX4_71 : zLV RX4 71 RX4 yX4_makeDistrict cX4_makeDistrict 5 none 3 := ⟨q_313, q_2, q_310, q_312, q_s5, hyX4_makeDistrict⟩
theorem lkX4_78 : zLV RX4 78 RX3 yX3_put cX3_put 3 none 2 := ⟨q_189, q_3, q_314, q_187, q_188, hyX3_put⟩
theorem lkX4_75 : zLV RX4 75 RX4 yX4_leaveRest cX4_leaveRest 4 none 1 := ⟨q_318, q_2, q_315, q_317, q_s6, hyX4_leaveRest⟩
theorem lkL_54 : zLV RL 54 RX6 yX6_type cX6_type 2 (some .int) 1 := ⟨q_322, q_1, q_319, q_320, q_321, hyX6_type⟩
theorem lkX6_139 : zLV RX6 139 RX5 yX5_append cX5_append 2 (some .boolean) 1 := ⟨q_326, q_5, q_323, q_324, q_325, hyX5_append⟩
theorem lkX6_143 : zLV RX6 143 RX5 yX5_length cX5_length 1 (some .int) 0 := ⟨q_330, q_5, q_327, q_328, q_329, hyX5_length⟩
theorem lkL_59 : zLV RL 59 RX6 yX6_clearText cX6_clearText 2 (some .int) 0 := ⟨q_334, q_1, q_331, q_332, q_333, hyX6_clearText⟩
theorem lkX6_146 : zLV RX6 146 RX5 yX5_empty cX5_empty 1 none 0 := ⟨q_338, q_5, q_335, q_336, q_337, hyX5_empty⟩
theorem lkL_63 : zLV RL 63 RX6 yX6_readVotes cX6_readVotes 5 (some .int) 1 := ⟨q_342, q_1, q_339, q_340, q_341, hyX6_readVotes⟩
theorem lkX6_149 : zLV RX6 149 RX5 yX5_fault cX5_fault 2 (some .int) 0 := ⟨q_346, q_5, q_343, q_344, q_345, hyX5_fault⟩
theorem lkX5_19 : zLV RX5 19 RX5 yX5_isAllowed cX5_isAllowed 3 (some .boolean) 1 := ⟨q_350, q_5, q_347, q_349, q_s7, hyX5_isAllowed⟩
theorem lkX5_23 : zLV RX5 23 RX5 yX5_at cX5_at 2 (some .char) 1 := ⟨q_354, q_5, q_351, q_353, q_s8, hyX5_at⟩
theorem lkX6_152 : zLV RX6 152 RX5 yX5_pairs cX5_pairs 1 (some .int) 0 := ⟨q_358, q_5, q_355, q_356, q_357, hyX5_pairs⟩
theorem lkX6_155 : zLV RX6 155 RX5 yX5_votes cX5_votes 3 (some .int) 2 := ⟨q_362, q_5, q_359, q_360, q_361, hyX5_votes⟩
theorem lkL_67 : zLV RL 67 RX6 yX6_undo cX6_undo 1 (some .int) 0 := ⟨q_366, q_1, q_363, q_364, q_365, hyX6_undo⟩
theorem lkX6_159 : zLV RX6 159 RX1 yX1_size cX1_size 1 (some .int) 0 := ⟨q_370, q_4, q_367, q_368, q_369, hyX1_size⟩
theorem lkX6_160 : zLV RX6 160 RX1 yX1_takeLatest cX1_takeLatest 3 none 1 := ⟨q_374, q_4, q_371, q_372, q_373, hyX1_takeLatest⟩
theorem lkL_71 : zLV RL 71 RX6 yX6_keep cX6_keep 1 (some .int) 0 := ⟨q_378, q_1, q_375, q_376, q_377, hyX6_keep⟩
theorem lkX6_163 : zLV RX6 163 RX4 yX4_copy cX4_copy 2 none 1 := ⟨q_180, q_2, q_379, q_178, q_179, hyX4_copy⟩
theorem lkL_75 : zLV RL 75 RX6 yX6_restore cX6_restore 1 (some .int) 0 := ⟨q_383, q_1, q_380, q_381, q_382, hyX6_restore⟩
theorem lkL_79 : zLV RL 79 RX6 yX6_cell cX6_cell 3 (some .int) 2 := ⟨q_387, q_1, q_384, q_385, q_386, hyX6_cell⟩
theorem lkX6_165 : zLS RX6 165 yX6_noneIfNothing cX6_noneIfNothing 1 (some .int) 1 := ⟨q_390, q_1, q_388, q_389, hyX6_noneIfNothing⟩
theorem lkX6_171 : zLS RX6 171 yX0_alike cX0_alike 5 (some .int) 2 := ⟨q_393, q_9, q_391, q_392, hyX0_alike⟩
theorem lkX0_15 : zLS RX0 15 yX0_behind cX0_behind 3 (some .int) 2 := ⟨q_275, q_9, q_394, q_274, hyX0_behind⟩
theorem lkL_83 : zLV RL 83 RX6 yX6_part cX6_part 3 (some .int) 2 := ⟨q_398, q_1, q_395, q_396, q_397, hyX6_part⟩
theorem lkX6_177 : zLV RX6 177 RX2 yX2_pieces cX2_pieces 5 (some .int) 2 := ⟨q_266, q_6, q_399, q_264, q_265, hyX2_pieces⟩
theorem lkX6_180 : zLV RX6 180 RX6 yX6_tellArea cX6_tellArea 4 (some .int) 3 := ⟨q_403, q_1, q_400, q_402, q_s9, hyX6_tellArea⟩
theorem lkX6_222 : zLS RX6 222 yX0_size cX0_size 4 (some .int) 2 := ⟨q_256, q_9, q_404, q_255, hyX0_size⟩
theorem lkX6_237 : zLS RX6 237 yX0_borders cX0_borders 4 (some .int) 2 := ⟨q_407, q_9, q_405, q_406, hyX0_borders⟩
theorem lkX0_21 : zLS RX0 21 yX0_alike cX0_alike 5 (some .int) 2 := ⟨q_393, q_9, q_408, q_392, hyX0_alike⟩
theorem lkX6_240 : zLV RX6 240 RX4 yX4_margin cX4_margin 4 (some .int) 3 := ⟨q_412, q_2, q_409, q_410, q_411, hyX4_margin⟩
theorem lkX4_81 : zLV RX4 81 RX4 yX4_votesOf cX4_votesOf 2 (some (.object "FrozenDistricts$Row")) 1 := ⟨q_416, q_2, q_413, q_414, q_415, hyX4_votesOf⟩
theorem lkX4_85 : zLS RX4 85 yX0_votes cX0_votes 5 (some .int) 3 := ⟨q_419, q_9, q_417, q_418, hyX0_votes⟩
theorem lkX6_243 : zLV RX6 243 RX4 yX4_winner cX4_winner 4 (some .int) 2 := ⟨q_423, q_2, q_420, q_421, q_422, hyX4_winner⟩
theorem lkX4_91 : zLV RX4 91 RX4 yX4_margin cX4_margin 4 (some .int) 3 := ⟨q_412, q_2, q_424, q_410, q_411, hyX4_margin⟩
theorem lkX6_246 : zLS RX6 246 yX0_lowest cX0_lowest 3 (some .int) 2 := ⟨q_427, q_9, q_425, q_426, hyX0_lowest⟩
theorem lkL_87 : zLV RL 87 RX6 yX6_district cX6_district 3 (some .int) 2 := ⟨q_431, q_1, q_428, q_429, q_430, hyX6_district⟩
theorem lkX6_187 : zLV RX6 187 RX4 yX4_wasted cX4_wasted 5 (some .int) 2 := ⟨q_435, q_2, q_432, q_433, q_434, hyX4_wasted⟩
theorem lkL_91 : zLV RL 91 RX6 yX6_why cX6_why 2 (some .int) 1 := ⟨q_439, q_1, q_436, q_437, q_438, hyX6_why⟩
theorem lkX6_190 : zLV RX6 190 RX2 yX2_blamed cX2_blamed 2 (some .int) 1 := ⟨q_443, q_6, q_440, q_441, q_442, hyX2_blamed⟩
theorem lkX2_33 : zLV RX2 33 RX2 yX2_reason cX2_reason 2 (some .int) 1 := ⟨q_244, q_6, q_444, q_242, q_243, hyX2_reason⟩
theorem lkL_95 : zLV RL 95 RX6 yX6_advice cX6_advice 3 (some .int) 0 := ⟨q_448, q_1, q_445, q_446, q_447, hyX6_advice⟩
theorem lkX6_193 : zLV RX6 193 RX4 yX4_player cX4_player 1 (some .int) 0 := ⟨q_452, q_2, q_449, q_450, q_451, hyX4_player⟩
theorem lkX6_196 : zLV RX6 196 RX4 yX4_closestWon cX4_closestWon 6 (some .int) 1 := ⟨q_456, q_2, q_453, q_454, q_455, hyX4_closestWon⟩
theorem lkX6_199 : zLV RX6 199 RX4 yX4_mostLost cX4_mostLost 4 (some .int) 1 := ⟨q_460, q_2, q_457, q_458, q_459, hyX4_mostLost⟩
theorem lkL_99 : zLV RL 99 RX6 yX6_party cX6_party 3 (some .int) 2 := ⟨q_464, q_1, q_461, q_462, q_463, hyX6_party⟩
theorem lkX6_202 : zLV RX6 202 RX4 yX4_seats cX4_seats 2 (some .int) 1 := ⟨q_468, q_2, q_465, q_466, q_467, hyX4_seats⟩
theorem lkX4_99 : zLV RX4 99 RX4 yX4_won cX4_won 6 (some .int) 3 := ⟨q_472, q_2, q_469, q_470, q_471, hyX4_won⟩
theorem lkX4_95 : zLV RX4 95 RX4 yX4_winner cX4_winner 4 (some .int) 2 := ⟨q_423, q_2, q_473, q_421, q_422, hyX4_winner⟩
theorem lkX6_205 : zLV RX6 205 RX4 yX4_votesOf cX4_votesOf 2 (some (.object "FrozenDistricts$Row")) 1 := ⟨q_416, q_2, q_474, q_414, q_415, hyX4_votesOf⟩
theorem lkX6_209 : zLV RX6 209 RX3 yX3_sum cX3_sum 3 (some .int) 0 := ⟨q_478, q_3, q_475, q_476, q_477, hyX3_sum⟩
theorem lkX6_212 : zLV RX6 212 RX4 yX4_wastedInAll cX4_wastedInAll 4 (some .int) 1 := ⟨q_482, q_2, q_479, q_480, q_481, hyX4_wastedInAll⟩
theorem lkX4_102 : zLV RX4 102 RX4 yX4_wasted cX4_wasted 5 (some .int) 2 := ⟨q_435, q_2, q_483, q_433, q_434, hyX4_wasted⟩
theorem lkX6_215 : zLV RX6 215 RX4 yX4_won cX4_won 6 (some .int) 3 := ⟨q_472, q_2, q_484, q_470, q_471, hyX4_won⟩
theorem lkL_103 : zLV RL 103 RX6 yX6_fairness cX6_fairness 3 (some .int) 0 := ⟨q_488, q_1, q_485, q_486, q_487, hyX6_fairness⟩
theorem lkL_107 : zLV RL 107 RX6 yX6_count cX6_count 2 (some .int) 1 := ⟨q_493, q_1, q_490, q_491, q_492, hyX6_count⟩
theorem lkX6_224 : zLV RX6 224 RX4 yX4_openWithoutPart cX4_openWithoutPart 3 (some .int) 0 := ⟨q_497, q_2, q_494, q_495, q_496, hyX4_openWithoutPart⟩
theorem lkX4_67 : zLV RX4 67 RX4 yX4_isOpen cX4_isOpen 2 (some .boolean) 1 := ⟨q_223, q_2, q_498, q_221, q_222, hyX4_isOpen⟩
theorem lkX6_227 : zLV RX6 227 RX4 yX4_bordersOfAll cX4_bordersOfAll 3 (some .int) 0 := ⟨q_502, q_2, q_499, q_500, q_501, hyX4_bordersOfAll⟩
theorem lkX4_106 : zLS RX4 106 yX0_borders cX0_borders 4 (some .int) 2 := ⟨q_407, q_9, q_503, q_406, hyX0_borders⟩
theorem lkX7_33 : zLV RX7 33 RX7 yX7_clear cX7_clear 2 none 0 := ⟨q_513, q_7, q_510, q_512, q_s10, hyX7_clear⟩
theorem lkL_70 : zLV RL 70 RX7 yX7_undo cX7_undo 2 (some .int) 0 := ⟨q_552, q_7, q_549, q_550, q_551, hyX7_undo⟩
theorem lkL_74 : zLV RL 74 RX7 yX7_keep cX7_keep 2 (some .int) 0 := ⟨q_556, q_7, q_553, q_554, q_555, hyX7_keep⟩
theorem lkL_78 : zLV RL 78 RX7 yX7_restore cX7_restore 2 (some .int) 0 := ⟨q_560, q_7, q_557, q_558, q_559, hyX7_restore⟩
theorem lkX7_48 : zLV RX7 48 RX7 yX7_record cX7_record 2 none 0 := ⟨q_564, q_7, q_561, q_563, q_s11, hyX7_record⟩
theorem lkL_17 : zLV RL 17 RX7 yX7_setVotes cX7_setVotes 5 (some .int) 3 := ⟨q_568, q_7, q_565, q_566, q_567, hyX7_setVotes⟩
theorem lkX7_51 : zLS RX7 51 yX7_noCell cX7_noCell 1 (some .boolean) 1 := ⟨q_571, q_7, q_569, q_570, hyX7_noCell⟩
theorem lkX7_36 : zLS RX7 36 yX7_in cX7_in 3 (some .boolean) 3 := ⟨q_574, q_7, q_572, q_573, hyX7_in⟩
theorem lkL_22 : zLV RL 22 RX7 yX7_begin cX7_begin 2 (some .int) 1 := ⟨q_578, q_7, q_575, q_576, q_577, hyX7_begin⟩
theorem lkX7_55 : zLV RX7 55 RX7 yX7_size cX7_size 1 (some .int) 0 := ⟨q_582, q_7, q_579, q_581, q_s12, hyX7_size⟩
theorem lkL_27 : zLV RL 27 RX7 yX7_setTarget cX7_setTarget 4 (some .int) 2 := ⟨q_586, q_7, q_583, q_584, q_585, hyX7_setTarget⟩
theorem lkL_31 : zLV RL 31 RX7 yX7_draft cX7_draft 4 (some .int) 2 := ⟨q_590, q_7, q_587, q_588, q_589, hyX7_draft⟩
theorem lkX7_74 : zLV RX7 74 RX7 yX7_isOpen cX7_isOpen 2 (some .boolean) 1 := ⟨q_594, q_7, q_591, q_593, q_s13, hyX7_isOpen⟩
theorem lkX7_87 : zLV RX7 87 RX7 yX7_noDraft cX7_noDraft 1 (some .boolean) 0 := ⟨q_598, q_7, q_595, q_597, q_s14, hyX7_noDraft⟩
theorem lkX7_77 : zLV RX7 77 RX7 yX7_left cX7_left 1 (some .int) 0 := ⟨q_602, q_7, q_599, q_601, q_s15, hyX7_left⟩
theorem lkL_35 : zLV RL 35 RX7 yX7_trade cX7_trade 5 (some .int) 2 := ⟨q_606, q_7, q_603, q_604, q_605, hyX7_trade⟩
theorem lkX7_91 : zLV RX7 91 RX7 yX7_reason cX7_reason 2 (some .int) 0 := ⟨q_610, q_7, q_607, q_609, q_s16, hyX7_reason⟩
theorem lkX7_80 : zLV RX7 80 RX7 yX7_cells cX7_cells 5 (some .int) 2 := ⟨q_614, q_7, q_611, q_613, q_s17, hyX7_cells⟩
theorem lkX7_83 : zLV RX7 83 RX7 yX7_pieces cX7_pieces 4 (some .int) 1 := ⟨q_618, q_7, q_615, q_617, q_s18, hyX7_pieces⟩
theorem lkX7_70 : zLV RX7 70 RX7 yX7_spread cX7_spread 6 none 1 := ⟨q_622, q_7, q_619, q_621, q_s19, hyX7_spread⟩
theorem lkX7_67 : zLS RX7 67 yX7_beside cX7_beside 4 (some .int) 2 := ⟨q_625, q_7, q_623, q_624, hyX7_beside⟩
theorem lkL_40 : zLV RL 40 RX7 yX7_snake cX7_snake 7 (some .int) 1 := ⟨q_629, q_7, q_626, q_627, q_628, hyX7_snake⟩
theorem lkX7_94 : zLV RX7 94 RX7 yX7_take cX7_take 3 (some .boolean) 0 := ⟨q_633, q_7, q_630, q_632, q_s20, hyX7_take⟩
theorem lkL_45 : zLV RL 45 RX7 yX7_adopt cX7_adopt 2 (some .int) 0 := ⟨q_637, q_7, q_634, q_635, q_636, hyX7_adopt⟩
theorem lkL_49 : zLV RL 49 RX7 yX7_propose cX7_propose 2 (some .int) 0 := ⟨q_641, q_7, q_638, q_639, q_640, hyX7_propose⟩
theorem lkL_53 : zLV RL 53 RX7 yX7_freeze cX7_freeze 4 (some .int) 1 := ⟨q_645, q_7, q_642, q_643, q_644, hyX7_freeze⟩
theorem lkX7_97 : zLV RX7 97 RX7 yX7_freezePart cX7_freezePart 5 none 2 := ⟨q_649, q_7, q_646, q_648, q_s21, hyX7_freezePart⟩
theorem lkL_58 : zLV RL 58 RX7 yX7_type cX7_type 2 (some .int) 1 := ⟨q_653, q_7, q_650, q_651, q_652, hyX7_type⟩
theorem lkL_62 : zLV RL 62 RX7 yX7_clearText cX7_clearText 2 (some .int) 0 := ⟨q_657, q_7, q_654, q_655, q_656, hyX7_clearText⟩
theorem lkL_66 : zLV RL 66 RX7 yX7_readVotes cX7_readVotes 4 (some .int) 1 := ⟨q_661, q_7, q_658, q_659, q_660, hyX7_readVotes⟩
theorem lkX7_111 : zLV RX7 111 RX7 yX7_readPairs cX7_readPairs 4 (some .int) 0 := ⟨q_665, q_7, q_662, q_664, q_s22, hyX7_readPairs⟩
theorem lkX7_107 : zLV RX7 107 RX7 yX7_sees cX7_sees 3 (some .boolean) 2 := ⟨q_669, q_7, q_666, q_668, q_s23, hyX7_sees⟩
theorem lkL_82 : zLV RL 82 RX7 yX7_cell cX7_cell 3 (some .int) 2 := ⟨q_673, q_7, q_670, q_671, q_672, hyX7_cell⟩
theorem lkX7_114 : zLS RX7 114 yX7_orNone cX7_orNone 1 (some .int) 1 := ⟨q_676, q_7, q_674, q_675, hyX7_orNone⟩
theorem lkX7_117 : zLV RX7 117 RX7 yX7_alikeBeside cX7_alikeBeside 7 (some .int) 1 := ⟨q_680, q_7, q_677, q_679, q_s24, hyX7_alikeBeside⟩
theorem lkL_86 : zLV RL 86 RX7 yX7_part cX7_part 3 (some .int) 2 := ⟨q_684, q_7, q_681, q_682, q_683, hyX7_part⟩
theorem lkX7_120 : zLV RX7 120 RX7 yX7_borders cX7_borders 7 (some .int) 2 := ⟨q_688, q_7, q_685, q_687, q_s25, hyX7_borders⟩
theorem lkX7_63 : zLV RX7 63 RX7 yX7_margin cX7_margin 3 (some .int) 2 := ⟨q_692, q_7, q_689, q_691, q_s26, hyX7_margin⟩
theorem lkX7_59 : zLV RX7 59 RX7 yX7_votes cX7_votes 6 (some .int) 3 := ⟨q_696, q_7, q_693, q_695, q_s27, hyX7_votes⟩
theorem lkX7_123 : zLV RX7 123 RX7 yX7_winner cX7_winner 4 (some .int) 2 := ⟨q_700, q_7, q_697, q_699, q_s28, hyX7_winner⟩
theorem lkX7_126 : zLV RX7 126 RX7 yX7_lowest cX7_lowest 4 (some .int) 2 := ⟨q_704, q_7, q_701, q_703, q_s29, hyX7_lowest⟩
theorem lkL_90 : zLV RL 90 RX7 yX7_district cX7_district 3 (some .int) 2 := ⟨q_708, q_7, q_705, q_706, q_707, hyX7_district⟩
theorem lkX7_129 : zLV RX7 129 RX7 yX7_wasted cX7_wasted 5 (some .int) 2 := ⟨q_712, q_7, q_709, q_711, q_s30, hyX7_wasted⟩
theorem lkL_94 : zLV RL 94 RX7 yX7_why cX7_why 3 (some .int) 1 := ⟨q_716, q_7, q_713, q_714, q_715, hyX7_why⟩
theorem lkL_98 : zLV RL 98 RX7 yX7_advice cX7_advice 8 (some .int) 0 := ⟨q_720, q_7, q_717, q_718, q_719, hyX7_advice⟩
theorem lkL_102 : zLV RL 102 RX7 yX7_party cX7_party 5 (some .int) 2 := ⟨q_724, q_7, q_721, q_722, q_723, hyX7_party⟩
theorem lkX7_132 : zLV RX7 132 RX7 yX7_seats cX7_seats 4 (some .int) 1 := ⟨q_728, q_7, q_725, q_727, q_s31, hyX7_seats⟩
theorem lkX7_135 : zLV RX7 135 RX7 yX7_votesOnMap cX7_votesOnMap 4 (some .int) 1 := ⟨q_732, q_7, q_729, q_731, q_s32, hyX7_votesOnMap⟩
theorem lkL_106 : zLV RL 106 RX7 yX7_fairness cX7_fairness 2 (some .int) 0 := ⟨q_736, q_7, q_733, q_734, q_735, hyX7_fairness⟩
theorem lkL_110 : zLV RL 110 RX7 yX7_count cX7_count 2 (some .int) 1 := ⟨q_741, q_7, q_738, q_739, q_740, hyX7_count⟩
theorem lkX7_139 : zLV RX7 139 RX7 yX7_withoutPart cX7_withoutPart 3 (some .int) 0 := ⟨q_745, q_7, q_742, q_744, q_s33, hyX7_withoutPart⟩
theorem lkX7_142 : zLV RX7 142 RX7 yX7_allBorders cX7_allBorders 3 (some .int) 0 := ⟨q_749, q_7, q_746, q_748, q_s34, hyX7_allBorders⟩
end
section

/-! numbers -/
theorem nI_mul (a b : Nat) : nI a * nI b = nI (a * b) := (Int32.ofNat_mul a b).symm
theorem nI_sub {a b : Nat} (h : b ≤ a) : nI a - nI b = nI (a - b) := (Int32.ofNat_sub a b h).symm
theorem nI_div {a b : Nat} (ha : a < 2 ^ 31) (hb : b < 2 ^ 31) : nI a / nI b = nI (a / b) := (Int32.ofNat_div ha hb).symm
theorem nI_rem {a b : Nat} (ha : a < 2 ^ 31) (hb : b < 2 ^ 31) : nI a - nI a / nI b * nI b = nI (a % b) := by
  rw [nI_div ha hb, nI_mul, nI_sub (Nat.div_mul_le_self a b)]
  have h1 := Nat.mod_add_div a b
  rw [Nat.mul_comm b (a / b)] at h1
  rw [show a - a / b * b = a % b by omega]
theorem nI_inc (a : Nat) : nI a + Int32.ofInt 1 = nI (a + 1) := nI_1 a
theorem nI_incK (a k : Nat) : nI a + nI k = nI (a + k) := nI_add a k
theorem nI_m (a : Nat) : ¬ nI a = -1 ∨ 2 ^ 31 ≤ a := by
  rcases Nat.lt_or_ge a (2 ^ 31) with h | h
  · exact Or.inl fun q => nI_pos h (by rw [q]; decide)
  · exact Or.inr h
theorem nI_nm {a : Nat} (h : a < 2 ^ 31) : ¬ nI a = -1 := fun q => nI_pos h (by rw [q]; decide)
theorem sw_out {x : Int32} {n : Nat} (hn : n < 2 ^ 31) (h : ∀ k, k ≤ n → ¬ x = nI k) : x.toInt < 0 ∨ (n : Int) < x.toInt := by
  by_cases q : x.toInt < 0
  · exact Or.inl q
  · refine Or.inr (Int.not_le.mp fun q2 => ?_)
    have h1 : x = nI x.toInt.toNat := Int32.toInt_inj.mp (by rw [nI_toInt (by omega)]; omega)
    exact h x.toInt.toNat (by omega) h1
/-- a number from 0 to below n -/
theorem in_nI {a : Int32} {n : Nat} (h1 : ¬ a < 0) (h2 : ¬ nI n ≤ a) (hn : n < 2 ^ 31) : ∃ j, j < n ∧ a = nI j := by
  obtain ⟨j, hj, rfl⟩ := nI_of h1
  refine ⟨j, ?_, rfl⟩
  rcases Nat.lt_or_ge j n with q | q
  · exact q
  · exact absurd (nI_le q hj) h2
/-! rows of numbers -/
noncomputable def rowAt (f : Nat → Int32) (n : Nat) (a : Int32) : Int32 := iz (a < 0) (-1) (iz (nI n ≤ a) (-1) (f a.toNatClampNeg))
theorem rowAt_n {f : Nat → Int32} {n j : Nat} (h : j < n) (hn : n < 2 ^ 31) : rowAt f n (nI j) = f j := by
  unfold rowAt
  rw [iz_f (nI_pos (by omega)), iz_f (nI_ge h hn), nI_clamp (by omega)]
theorem rowAt_m {f : Nat → Int32} {n : Nat} : rowAt f n (-1) = -1 := iz_t (by decide)
noncomputable def rowPut (f : Nat → Int32) (n : Nat) (a v : Int32) : Nat → Int32 := iz (a < 0) f (iz (nI n ≤ a) f (zu f a.toNatClampNeg v))
theorem rowPut_n {f : Nat → Int32} {n j : Nat} {v : Int32} (h : j < n) (hn : n < 2 ^ 31) : rowPut f n (nI j) v = zu f j v := by
  unfold rowPut
  rw [iz_f (nI_pos (by omega)), iz_f (nI_ge h hn), nI_clamp (by omega)]
def smI (g : Nat → Int32) : Nat → Int32
  | 0 => 0
  | n + 1 => smI g n + g n
theorem smI_s (g : Nat → Int32) (n : Nat) : smI g (n + 1) = smI g n + g n := rfl
theorem smI_c {f g : Nat → Int32} {n : Nat} (h : ∀ i, i < n → f i = g i) : smI f n = smI g n := by
  induction n with
  | zero => rfl
  | succ n ih => rw [smI_s, smI_s, ih fun i hi => h i (by omega), h n (by omega)]
noncomputable def ct (P : Nat → Prop) : Nat → Nat
  | 0 => 0
  | n + 1 => ct P n + iz (P n) 1 0
theorem ct_s (P : Nat → Prop) (n : Nat) : ct P (n + 1) = ct P n + iz (P n) 1 0 := rfl
theorem ct_t {P : Nat → Prop} {n : Nat} (h : P n) : ct P (n + 1) = ct P n + 1 := by rw [ct_s, iz_t h]
theorem ct_f {P : Nat → Prop} {n : Nat} (h : ¬ P n) : ct P (n + 1) = ct P n := by rw [ct_s, iz_f h]; rfl
theorem ct_c {P R : Nat → Prop} {n : Nat} (h : ∀ i, i < n → (P i ↔ R i)) : ct P n = ct R n := by
  induction n with
  | zero => rfl
  | succ n ih => rw [ct_s, ct_s, ih fun i hi => h i (by omega), iz_c (h n (by omega))]
theorem ct_le (P : Nat → Prop) (n : Nat) : ct P n ≤ n := by
  induction n with
  | zero => exact Nat.le_refl _
  | succ n ih =>
    by_cases h : P n
    · rw [ct_t h]; omega
    · rw [ct_f h]; omega
theorem zu_id {α : Type} (f : Nat → α) (k : Nat) : zu f k (f k) = f := by
  funext j
  by_cases h : j = k
  · rw [h, zu_s]
  · rw [zu_n _ _ h]
/-- a row of n places at the cells k, k + 1 -/
def RO (k n : Nat) : Prop := kd k = 2 ∧ kd (k + 1) = 7 ∧ rl (k + 1) = n ∧ n < 2 ^ 31
def ch16 (x : Int32) : Int32 := (x.toUInt32 % 65536).toInt32

theorem ro_2 : RO 2 36 := ⟨rfl, rfl, rfl, by decide⟩
theorem ro_4 : RO 4 36 := ⟨rfl, rfl, rfl, by decide⟩
theorem ro_6 : RO 6 36 := ⟨rfl, rfl, rfl, by decide⟩
theorem ro_8 : RO 8 36 := ⟨rfl, rfl, rfl, by decide⟩
theorem ro_10 : RO 10 36 := ⟨rfl, rfl, rfl, by decide⟩
theorem ro_12 : RO 12 9 := ⟨rfl, rfl, rfl, by decide⟩
theorem ro_14 : RO 14 2 := ⟨rfl, rfl, rfl, by decide⟩
theorem ro_19 : RO 19 36 := ⟨rfl, rfl, rfl, by decide⟩
theorem ro_21 : RO 21 36 := ⟨rfl, rfl, rfl, by decide⟩
theorem ro_23 : RO 23 36 := ⟨rfl, rfl, rfl, by decide⟩
theorem ro_25 : RO 25 36 := ⟨rfl, rfl, rfl, by decide⟩
theorem ro_27 : RO 27 36 := ⟨rfl, rfl, rfl, by decide⟩
theorem ro_29 : RO 29 9 := ⟨rfl, rfl, rfl, by decide⟩
theorem ro_31 : RO 31 2 := ⟨rfl, rfl, rfl, by decide⟩
theorem ro_34 : RO 34 36 := ⟨rfl, rfl, rfl, by decide⟩
theorem ro_36 : RO 36 36 := ⟨rfl, rfl, rfl, by decide⟩
theorem ro_38 : RO 38 36 := ⟨rfl, rfl, rfl, by decide⟩
theorem ro_40 : RO 40 36 := ⟨rfl, rfl, rfl, by decide⟩
theorem ro_42 : RO 42 36 := ⟨rfl, rfl, rfl, by decide⟩
theorem ro_44 : RO 44 9 := ⟨rfl, rfl, rfl, by decide⟩
theorem ro_46 : RO 46 2 := ⟨rfl, rfl, rfl, by decide⟩
theorem ro_49 : RO 49 36 := ⟨rfl, rfl, rfl, by decide⟩
theorem ro_51 : RO 51 36 := ⟨rfl, rfl, rfl, by decide⟩
theorem ro_53 : RO 53 36 := ⟨rfl, rfl, rfl, by decide⟩
theorem ro_55 : RO 55 36 := ⟨rfl, rfl, rfl, by decide⟩
theorem ro_57 : RO 57 36 := ⟨rfl, rfl, rfl, by decide⟩
theorem ro_59 : RO 59 9 := ⟨rfl, rfl, rfl, by decide⟩
theorem ro_61 : RO 61 2 := ⟨rfl, rfl, rfl, by decide⟩
theorem ro_64 : RO 64 36 := ⟨rfl, rfl, rfl, by decide⟩
theorem ro_66 : RO 66 36 := ⟨rfl, rfl, rfl, by decide⟩
theorem ro_68 : RO 68 36 := ⟨rfl, rfl, rfl, by decide⟩
theorem ro_70 : RO 70 36 := ⟨rfl, rfl, rfl, by decide⟩
theorem ro_72 : RO 72 36 := ⟨rfl, rfl, rfl, by decide⟩
theorem ro_74 : RO 74 9 := ⟨rfl, rfl, rfl, by decide⟩
theorem ro_76 : RO 76 2 := ⟨rfl, rfl, rfl, by decide⟩
theorem ro_79 : RO 79 36 := ⟨rfl, rfl, rfl, by decide⟩
theorem ro_81 : RO 81 36 := ⟨rfl, rfl, rfl, by decide⟩
theorem ro_83 : RO 83 36 := ⟨rfl, rfl, rfl, by decide⟩
theorem ro_85 : RO 85 36 := ⟨rfl, rfl, rfl, by decide⟩
theorem ro_87 : RO 87 36 := ⟨rfl, rfl, rfl, by decide⟩
theorem ro_89 : RO 89 9 := ⟨rfl, rfl, rfl, by decide⟩
theorem ro_91 : RO 91 2 := ⟨rfl, rfl, rfl, by decide⟩
theorem ro_96 : RO 96 36 := ⟨rfl, rfl, rfl, by decide⟩
theorem ro_98 : RO 98 36 := ⟨rfl, rfl, rfl, by decide⟩
theorem ro_100 : RO 100 36 := ⟨rfl, rfl, rfl, by decide⟩
end
section
set_option maxHeartbeats 4000000 in
set_option maxRecDepth 100000 in
/-- Row.at -/
theorem c_X3_at (l : Launch) (x : CT) (k n : Nat) (hr : RO k n) (ar fd : AR) (a : Int32) : CP l yX3_at cX3_at 2 (some .int) 0 0 x [.ref (xa x k), .int a] ar fd (fun r => r = rowAt (ar (k + 1)) n a) := by
  refine zsP (own := RX3) rfl (by decide +kernel) (Nat.le_of_ble_eq_true rfl) ?_
  intro p e s m below meth c ls E hs hl
  have hx := E.1
  have hb := E.2.1
  have hl : lv_has ls 2 [(0, .ref (xa x k)), (1, .int a)] := hl
  have hn31 := hr.2.2.2
  refine lv_iload_n hx hb dX3_at_0 rfl (lv_at hl 1 rfl) ?_
  refine lv_if_lt (tgt := 22) hx hb dX3_at_1 (by decide) (fun c_1 => ?_) (fun c_1 => ?_)
  · refine lv_iconst (v := (-1)) hx hb dX3_at_22 (by decide) ?_
    exact zeP E hs (by unfold rowAt; rw [iz_t c_1]) dX3_at_23
  · refine lv_iload_n hx hb dX3_at_4 rfl (lv_at hl 1 rfl) ?_
    refine lv_aload_n hx hb dX3_at_5 rfl (lv_at hl 0 rfl) ?_
    refine zg2 E hs (k := k) hr.1 0 (by decide) rfl q_30 dX3_at_6 ?_
    refine zalen E hs (k + 1) (n := n) hr.2.1 hr.2.2.1 dX3_at_9 ?_
    refine lv_icmp_ge (tgt := 22) hx hb dX3_at_10 (by decide) (fun c_2 => ?_) (fun c_2 => ?_)
    · refine lv_iconst (v := (-1)) hx hb dX3_at_22 (by decide) ?_
      exact zeP E hs (by unfold rowAt; rw [iz_f c_1, iz_t c_2]) dX3_at_23
    · obtain ⟨j, hj, rfl⟩ := in_nI c_1 c_2 hr.2.2.2
      refine lv_aload_n hx hb dX3_at_13 rfl (lv_at hl 0 rfl) ?_
      refine zg2 E hs (k := k) hr.1 0 (by decide) rfl q_30 dX3_at_14 ?_
      refine lv_iload_n hx hb dX3_at_17 rfl (lv_at hl 1 rfl) ?_
      refine zald E hs (k + 1) (n := n) (j := j) hr.2.1 hr.2.2.1 (by omega) hr.2.2.2 dX3_at_18 ?_
      refine lv_goto (tgt := 23) hx hb dX3_at_19 (by decide) ?_
      exact zeP E hs (rowAt_n hj hn31).symm dX3_at_23

set_option maxHeartbeats 4000000 in
set_option maxRecDepth 100000 in
/-- Row.put -/
theorem c_X3_put (l : Launch) (x : CT) (k n : Nat) (hr : RO k n) (ar fd : AR) (a v : Int32) : CV l yX3_put cX3_put 3 0 0 x [.ref (xa x k), .int a, .int v] ar fd (fun ar' fd' => ar' = zu ar (k + 1) (rowPut (ar (k + 1)) n a v) ∧ fd' = fd) := by
  refine zsV (own := RX3) rfl (by decide +kernel) (Nat.le_of_ble_eq_true rfl) ?_
  intro p e s m below meth c ls E hs hl
  have hx := E.1
  have hb := E.2.1
  have hl : lv_has ls 3 [(0, .ref (xa x k)), (1, .int a), (2, .int v)] := hl
  have hn31 := hr.2.2.2
  refine lv_iload_n hx hb dX3_put_0 rfl (lv_at hl 1 rfl) ?_
  refine lv_if_lt (tgt := 20) hx hb dX3_put_1 (by decide) (fun c_1 => ?_) (fun c_1 => ?_)
  · exact zeV E hs ⟨by unfold rowPut; rw [iz_t c_1, zu_id], rfl⟩ dX3_put_20
  · refine lv_iload_n hx hb dX3_put_4 rfl (lv_at hl 1 rfl) ?_
    refine lv_aload_n hx hb dX3_put_5 rfl (lv_at hl 0 rfl) ?_
    refine zg2 E hs (k := k) hr.1 0 (by decide) rfl q_30 dX3_put_6 ?_
    refine zalen E hs (k + 1) (n := n) hr.2.1 hr.2.2.1 dX3_put_9 ?_
    refine lv_icmp_ge (tgt := 20) hx hb dX3_put_10 (by decide) (fun c_2 => ?_) (fun c_2 => ?_)
    · exact zeV E hs ⟨by unfold rowPut; rw [iz_f c_1, iz_t c_2, zu_id], rfl⟩ dX3_put_20
    · obtain ⟨j, hj, rfl⟩ := in_nI c_1 c_2 hr.2.2.2
      refine lv_aload_n hx hb dX3_put_13 rfl (lv_at hl 0 rfl) ?_
      refine zg2 E hs (k := k) hr.1 0 (by decide) rfl q_30 dX3_put_14 ?_
      refine lv_iload_n hx hb dX3_put_17 rfl (lv_at hl 1 rfl) ?_
      refine lv_iload_n hx hb dX3_put_18 rfl (lv_at hl 2 rfl) ?_
      refine zast E hs (k + 1) (n := n) (j := j) hr.2.1 hr.2.2.1 (by omega) hr.2.2.2 dX3_put_19 (fun H locs hs => ?_)
      exact zeV E hs ⟨by rw [rowPut_n hj hn31], rfl⟩ dX3_put_20

set_option maxHeartbeats 4000000 in
set_option maxRecDepth 100000 in
/-- Row.fill -/
theorem c_X3_fill (l : Launch) (x : CT) (k n : Nat) (hr : RO k n) (ar fd : AR) (v : Int32) : CV l yX3_fill cX3_fill 3 0 0 x [.ref (xa x k), .int v] ar fd (fun ar' fd' => ar' = zu ar (k + 1) (fun _ => v) ∧ fd' = fd) := by
  refine zsV (own := RX3) rfl (by decide +kernel) (Nat.le_of_ble_eq_true rfl) ?_
  intro p e s m below meth c ls E hs hl
  have hx := E.1
  have hb := E.2.1
  have hl : lv_has ls 3 [(0, .ref (xa x k)), (1, .int v)] := hl
  have hn31 := hr.2.2.2
  refine lv_iconst (v := nI 0) hx hb dX3_fill_0 (by decide) ?_
  refine lv_istore_n (lv' := [(2, .int (nI 0)), (0, .ref (xa x k)), (1, .int v)]) hx hb dX3_fill_1 rfl hl (by decide) rfl (fun ls hl => ?_)
  have L_1 : ∀ (mm : Nat) (i : Nat) (ar1 : AR), (n - i) < mm → (i ≤ n) → (∀ j, j < i → ar1 (k + 1) j = v) → (∀ q, q ≠ k + 1 → ar1 q = ar q) → ∀ (H : Heap) (locs : List Loc) (ls : Array Slot), ST x (AA x) s.heap ar1 fd H locs → lv_has ls 3 [(0, .ref (xa x k)), (1, .int v), (2, .int (nI i))] → W p l e (rmZ 0 0) s m ([.ref (xa x k), .int v] : List Value).toArray below meth c H locs 0 0 (QV below x [.ref (xa x k), .int v] s (fun ar' fd' => ar' = zu ar (k + 1) (fun _ => v) ∧ fd' = fd)) (F0 m 2 ls []) := by
    intro mm
    induction mm with
    | zero => intro i ar1 hmu; exact absurd hmu (Nat.not_lt_zero _)
    | succ mm ih_1 =>
      intro i ar1 hmu hi h1 h2 H locs ls hs hl
      refine lv_iload_n hx hb dX3_fill_2 rfl (lv_at hl 2 rfl) ?_
      refine lv_aload_n hx hb dX3_fill_3 rfl (lv_at hl 0 rfl) ?_
      refine zg2 E hs (k := k) hr.1 0 (by decide) rfl q_30 dX3_fill_4 ?_
      refine zalen E hs (k + 1) (n := n) hr.2.1 hr.2.2.1 dX3_fill_7 ?_
      refine lv_icmp_ge (tgt := 24) hx hb dX3_fill_8 (by decide) (fun c_2 => ?_) (fun c_2 => ?_)
      · have c_2 : n ≤ i := (nI_leI (a := n) (b := i) (by omega) (by omega)).mp c_2
        have hs : ST x (AA x) s.heap (zu ar (k + 1) (fun _ => v)) fd H locs := ⟨wl_ext hs.1 (fun q _ i2 hi2 => by
          by_cases e : q = k + 1
          · subst e; rw [zu_s]; exact (h1 i2 (by have := hr.2.2.1; omega)).symm
          · rw [zu_n _ _ e, h2 q e]), hs.2⟩
        exact zeV E hs ⟨rfl, rfl⟩ dX3_fill_24
      · have c_2 : ¬ (n ≤ i) := fun h => c_2 ((nI_leI (a := n) (b := i) (by omega) (by omega)).mpr h)
        refine lv_aload_n hx hb dX3_fill_11 rfl (lv_at hl 0 rfl) ?_
        refine zg2 E hs (k := k) hr.1 0 (by decide) rfl q_30 dX3_fill_12 ?_
        refine lv_iload_n hx hb dX3_fill_15 rfl (lv_at hl 2 rfl) ?_
        refine lv_iload_n hx hb dX3_fill_16 rfl (lv_at hl 1 rfl) ?_
        refine zast E hs (k + 1) (n := n) (j := i) hr.2.1 hr.2.2.1 (by omega) hr.2.2.2 dX3_fill_17 (fun H locs hs => ?_)
        refine lv_iinc (v := nI (i + 1)) (lv' := [(2, .int (nI (i + 1))), (0, .ref (xa x k)), (1, .int v)]) hx hb dX3_fill_18 hl (k := 2) rfl (nI_inc _) (by decide) rfl (fun ls hl => ?_)
        refine lv_goto (tgt := 2) hx hb dX3_fill_21 (by decide) ?_
        exact ih_1 (i + 1) (zu ar1 (k + 1) (zu (ar1 (k + 1)) i v)) (by omega) (by omega) (fun j hj => by
              rw [zu_s]
              by_cases e : j = i
              · rw [e, zu_s]
              · rw [zu_n _ _ e]; exact h1 j (by omega)) (fun q hq => by rw [zu_n _ _ hq]; exact h2 q hq) _ _ _ hs (lvr (lv_at hl 1 rfl) (lvr (lv_at hl 2 rfl) (lvr (lv_at hl 0 rfl) (lvn hl))))
  exact L_1 (_ + 1) 0 ar (Nat.lt_succ_self _) (by omega) (fun _ h => absurd h (Nat.not_lt_zero _)) (fun _ _ => rfl) _ _ _ hs (lvr (lv_at hl 1 rfl) (lvr (lv_at hl 2 rfl) (lvr (lv_at hl 0 rfl) (lvn hl))))

set_option maxHeartbeats 4000000 in
set_option maxRecDepth 100000 in
/-- Row.copy -/
theorem c_X3_copy (l : Launch) (x : CT) (k k2 n : Nat) (hr : RO k n) (hr2 : RO k2 n) (hne : k ≠ k2) (ar fd : AR) : CV l yX3_copy cX3_copy 3 1 21 x [.ref (xa x k), .ref (xa x k2)] ar fd (fun ar' fd' => ar' = zu ar (k + 1) (ar (k2 + 1)) ∧ fd' = fd) := by
  refine zsV (own := RX3) rfl (by decide +kernel) (Nat.le_of_ble_eq_true rfl) ?_
  intro p e s m below meth c ls E hs hl
  have hx := E.1
  have hb := E.2.1
  have hl : lv_has ls 3 [(0, .ref (xa x k)), (1, .ref (xa x k2))] := hl
  have hn31 := hr.2.2.2
  refine lv_iconst (v := nI 0) hx hb dX3_copy_0 (by decide) ?_
  refine lv_istore_n (lv' := [(2, .int (nI 0)), (0, .ref (xa x k)), (1, .ref (xa x k2))]) hx hb dX3_copy_1 rfl hl (by decide) rfl (fun ls hl => ?_)
  have L_1 : ∀ (mm : Nat) (i : Nat) (ar1 : AR), (n - i) < mm → (i ≤ n) → (∀ j, j < i → ar1 (k + 1) j = ar (k2 + 1) j) → (∀ q, q ≠ k + 1 → ar1 q = ar q) → ∀ (H : Heap) (locs : List Loc) (ls : Array Slot), ST x (AA x) s.heap ar1 fd H locs → lv_has ls 3 [(0, .ref (xa x k)), (1, .ref (xa x k2)), (2, .int (nI i))] → W p l e (rmZ 1 21) s m ([.ref (xa x k), .ref (xa x k2)] : List Value).toArray below meth c H locs 0 0 (QV below x [.ref (xa x k), .ref (xa x k2)] s (fun ar' fd' => ar' = zu ar (k + 1) (ar (k2 + 1)) ∧ fd' = fd)) (F0 m 2 ls []) := by
    intro mm
    induction mm with
    | zero => intro i ar1 hmu; exact absurd hmu (Nat.not_lt_zero _)
    | succ mm ih_1 =>
      intro i ar1 hmu hi h1 h2 H locs ls hs hl
      refine lv_iload_n hx hb dX3_copy_2 rfl (lv_at hl 2 rfl) ?_
      refine lv_aload_n hx hb dX3_copy_3 rfl (lv_at hl 0 rfl) ?_
      refine zg2 E hs (k := k) hr.1 0 (by decide) rfl q_30 dX3_copy_4 ?_
      refine zalen E hs (k + 1) (n := n) hr.2.1 hr.2.2.1 dX3_copy_7 ?_
      refine lv_icmp_ge (tgt := 28) hx hb dX3_copy_8 (by decide) (fun c_2 => ?_) (fun c_2 => ?_)
      · have c_2 : n ≤ i := (nI_leI (a := n) (b := i) (by omega) (by omega)).mp c_2
        have hs : ST x (AA x) s.heap (zu ar (k + 1) (ar (k2 + 1))) fd H locs := ⟨wl_ext hs.1 (fun q _ i2 hi2 => by
          by_cases e : q = k + 1
          · subst e; rw [zu_s]; exact (h1 i2 (by have := hr.2.2.1; omega)).symm
          · rw [zu_n _ _ e, h2 q e]), hs.2⟩
        exact zeV E hs ⟨rfl, rfl⟩ dX3_copy_28
      · have c_2 : ¬ (n ≤ i) := fun h => c_2 ((nI_leI (a := n) (b := i) (by omega) (by omega)).mpr h)
        refine lv_aload_n hx hb dX3_copy_11 rfl (lv_at hl 0 rfl) ?_
        refine zg2 E hs (k := k) hr.1 0 (by decide) rfl q_30 dX3_copy_12 ?_
        refine lv_iload_n hx hb dX3_copy_15 rfl (lv_at hl 2 rfl) ?_
        refine lv_aload_n hx hb dX3_copy_16 rfl (lv_at hl 1 rfl) ?_
        refine lv_iload_n hx hb dX3_copy_17 rfl (lv_at hl 2 rfl) ?_
        refine zVP E hs lkX3_15 [.int (nI i), .ref (xa x (k + 1))] (c_X3_at l x k2 n hr2 ar1 fd (nI i)) (kd_lt hr2.1 (by decide)) (sh2 hr2.1) rfl ⟨Nat.le_of_ble_eq_true rfl, Nat.le_of_ble_eq_true rfl⟩ rfl hl.1 (Nat.le_of_ble_eq_true rfl) rfl dX3_copy_18 (fun r_3 H locs hp_4 hs => ?_)
        subst hp_4
        refine tp (b := ar1 (k2 + 1) i) (rowAt_n (by omega) hr.2.2.2) ?_
        refine zast E hs (k + 1) (n := n) (j := i) hr.2.1 hr.2.2.1 (by omega) hr.2.2.2 dX3_copy_21 (fun H locs hs => ?_)
        refine lv_iinc (v := nI (i + 1)) (lv' := [(2, .int (nI (i + 1))), (0, .ref (xa x k)), (1, .ref (xa x k2))]) hx hb dX3_copy_22 hl (k := 2) rfl (nI_inc _) (by decide) rfl (fun ls hl => ?_)
        refine lv_goto (tgt := 2) hx hb dX3_copy_25 (by decide) ?_
        exact ih_1 (i + 1) (zu ar1 (k + 1) (zu (ar1 (k + 1)) i (ar1 (k2 + 1) i))) (by omega) (by omega) (fun j hj => by
              rw [zu_s]
              by_cases e : j = i
              · rw [e, zu_s, h2 (k2 + 1) (by omega)]
              · rw [zu_n _ _ e]; exact h1 j (by omega)) (fun q hq => by rw [zu_n _ _ hq]; exact h2 q hq) _ _ _ hs (lvr (lv_at hl 1 rfl) (lvr (lv_at hl 2 rfl) (lvr (lv_at hl 0 rfl) (lvn hl))))
  exact L_1 (_ + 1) 0 ar (Nat.lt_succ_self _) (by omega) (fun _ h => absurd h (Nat.not_lt_zero _)) (fun _ _ => rfl) _ _ _ hs (lvr (lv_at hl 1 rfl) (lvr (lv_at hl 2 rfl) (lvr (lv_at hl 0 rfl) (lvn hl))))

set_option maxHeartbeats 4000000 in
set_option maxRecDepth 100000 in
/-- Row.isLike -/
theorem c_X3_isLike (l : Launch) (x : CT) (k k2 n : Nat) (hr : RO k n) (hr2 : RO k2 n) (ar fd : AR) : CP l yX3_isLike cX3_isLike 3 (some .boolean) 1 21 x [.ref (xa x k), .ref (xa x k2)] ar fd (fun r => r = bz (∀ i, i < n → ar (k + 1) i = ar (k2 + 1) i)) := by
  refine zsP (own := RX3) rfl (by decide +kernel) (Nat.le_of_ble_eq_true rfl) ?_
  intro p e s m below meth c ls E hs hl
  have hx := E.1
  have hb := E.2.1
  have hl : lv_has ls 3 [(0, .ref (xa x k)), (1, .ref (xa x k2))] := hl
  have hn31 := hr.2.2.2
  refine lv_iconst (v := nI 0) hx hb dX3_isLike_0 (by decide) ?_
  refine lv_istore_n (lv' := [(2, .int (nI 0)), (0, .ref (xa x k)), (1, .ref (xa x k2))]) hx hb dX3_isLike_1 rfl hl (by decide) rfl (fun ls hl => ?_)
  have L_1 : ∀ (mm : Nat) (i : Nat), (n - i) < mm → (i ≤ n) → (∀ j, j < i → ar (k + 1) j = ar (k2 + 1) j) → ∀ (H : Heap) (locs : List Loc) (ls : Array Slot), ST x (AA x) s.heap ar fd H locs → lv_has ls 3 [(0, .ref (xa x k)), (1, .ref (xa x k2)), (2, .int (nI i))] → W p l e (rmZ 1 21) s m ([.ref (xa x k), .ref (xa x k2)] : List Value).toArray below meth c H locs 0 0 (QP below x [.ref (xa x k), .ref (xa x k2)] ar fd s (fun r => r = bz (∀ i, i < n → ar (k + 1) i = ar (k2 + 1) i))) (F0 m 2 ls []) := by
    intro mm
    induction mm with
    | zero => intro i hmu; exact absurd hmu (Nat.not_lt_zero _)
    | succ mm ih_1 =>
      intro i hmu hi h1 H locs ls hs hl
      refine lv_iload_n hx hb dX3_isLike_2 rfl (lv_at hl 2 rfl) ?_
      refine lv_aload_n hx hb dX3_isLike_3 rfl (lv_at hl 0 rfl) ?_
      refine zg2 E hs (k := k) hr.1 0 (by decide) rfl q_30 dX3_isLike_4 ?_
      refine zalen E hs (k + 1) (n := n) hr.2.1 hr.2.2.1 dX3_isLike_7 ?_
      refine lv_icmp_ge (tgt := 33) hx hb dX3_isLike_8 (by decide) (fun c_2 => ?_) (fun c_2 => ?_)
      · have c_2 : n ≤ i := (nI_leI (a := n) (b := i) (by omega) (by omega)).mp c_2
        refine lv_iconst (v := nI 1) hx hb dX3_isLike_33 (by decide) ?_
        exact zePn E hs rfl (bz_t (fun j hj => h1 j (by omega))).symm dX3_isLike_34
      · have c_2 : ¬ (n ≤ i) := fun h => c_2 ((nI_leI (a := n) (b := i) (by omega) (by omega)).mpr h)
        refine lv_aload_n hx hb dX3_isLike_11 rfl (lv_at hl 0 rfl) ?_
        refine zg2 E hs (k := k) hr.1 0 (by decide) rfl q_30 dX3_isLike_12 ?_
        refine lv_iload_n hx hb dX3_isLike_15 rfl (lv_at hl 2 rfl) ?_
        refine zald E hs (k + 1) (n := n) (j := i) hr.2.1 hr.2.2.1 (by omega) hr.2.2.2 dX3_isLike_16 ?_
        refine lv_aload_n hx hb dX3_isLike_17 rfl (lv_at hl 1 rfl) ?_
        refine lv_iload_n hx hb dX3_isLike_18 rfl (lv_at hl 2 rfl) ?_
        refine zVP E hs lkX3_15 [.int (ar (k + 1) i)] (c_X3_at l x k2 n hr2 ar fd (nI i)) (kd_lt hr2.1 (by decide)) (sh2 hr2.1) rfl ⟨Nat.le_of_ble_eq_true rfl, Nat.le_of_ble_eq_true rfl⟩ rfl hl.1 (Nat.le_of_ble_eq_true rfl) rfl dX3_isLike_19 (fun r_3 H locs hp_4 hs => ?_)
        subst hp_4
        refine tp (b := ar (k2 + 1) i) (rowAt_n (by omega) hr.2.2.2) ?_
        refine lv_icmp_eq (tgt := 27) hx hb dX3_isLike_22 (by decide) (fun c_5 => ?_) (fun c_5 => ?_)
        · refine lv_iinc (v := nI (i + 1)) (lv' := [(2, .int (nI (i + 1))), (0, .ref (xa x k)), (1, .ref (xa x k2))]) hx hb dX3_isLike_27 hl (k := 2) rfl (nI_inc _) (by decide) rfl (fun ls hl => ?_)
          refine lv_goto (tgt := 2) hx hb dX3_isLike_30 (by decide) ?_
          exact ih_1 (i + 1) (by omega) (by omega) (fun j hj => by
                by_cases e : j = i
                · rw [e]; exact c_5
                · exact h1 j (by omega)) _ _ _ hs (lvr (lv_at hl 1 rfl) (lvr (lv_at hl 2 rfl) (lvr (lv_at hl 0 rfl) (lvn hl))))
        · refine lv_iconst (v := nI 0) hx hb dX3_isLike_25 (by decide) ?_
          exact zePn E hs rfl (bz_f (fun h => c_5 (h i (by omega)))).symm dX3_isLike_26
  exact L_1 (_ + 1) 0 (Nat.lt_succ_self _) (by omega) (fun _ h => absurd h (Nat.not_lt_zero _)) _ _ _ hs (lvr (lv_at hl 1 rfl) (lvr (lv_at hl 2 rfl) (lvr (lv_at hl 0 rfl) (lvn hl))))

set_option maxHeartbeats 4000000 in
set_option maxRecDepth 100000 in
/-- Row.sum -/
theorem c_X3_sum (l : Launch) (x : CT) (k n : Nat) (hr : RO k n) (ar fd : AR) : CP l yX3_sum cX3_sum 3 (some .int) 0 0 x [.ref (xa x k)] ar fd (fun r => r = smI (ar (k + 1)) n) := by
  refine zsP (own := RX3) rfl (by decide +kernel) (Nat.le_of_ble_eq_true rfl) ?_
  intro p e s m below meth c ls E hs hl
  have hx := E.1
  have hb := E.2.1
  have hl : lv_has ls 3 [(0, .ref (xa x k))] := hl
  have hn31 := hr.2.2.2
  refine lv_iconst (v := nI 0) hx hb dX3_sum_0 (by decide) ?_
  refine lv_istore_n (lv' := [(1, .int (nI 0)), (0, .ref (xa x k))]) hx hb dX3_sum_1 rfl hl (by decide) rfl (fun ls hl => ?_)
  refine lv_iconst (v := nI 0) hx hb dX3_sum_2 (by decide) ?_
  refine lv_istore_n (lv' := [(2, .int (nI 0)), (1, .int (nI 0)), (0, .ref (xa x k))]) hx hb dX3_sum_3 rfl hl (by decide) rfl (fun ls hl => ?_)
  have L_1 : ∀ (mm : Nat) (i : Nat), (n - i) < mm → (i ≤ n) → ∀ (H : Heap) (locs : List Loc) (ls : Array Slot), ST x (AA x) s.heap ar fd H locs → lv_has ls 3 [(0, .ref (xa x k)), (1, .int (smI (ar (k + 1)) i)), (2, .int (nI i))] → W p l e (rmZ 0 0) s m ([.ref (xa x k)] : List Value).toArray below meth c H locs 0 0 (QP below x [.ref (xa x k)] ar fd s (fun r => r = smI (ar (k + 1)) n)) (F0 m 4 ls []) := by
    intro mm
    induction mm with
    | zero => intro i hmu; exact absurd hmu (Nat.not_lt_zero _)
    | succ mm ih_1 =>
      intro i hmu hi H locs ls hs hl
      refine lv_iload_n hx hb dX3_sum_4 rfl (lv_at hl 2 rfl) ?_
      refine lv_aload_n hx hb dX3_sum_5 rfl (lv_at hl 0 rfl) ?_
      refine zg2 E hs (k := k) hr.1 0 (by decide) rfl q_30 dX3_sum_6 ?_
      refine zalen E hs (k + 1) (n := n) hr.2.1 hr.2.2.1 dX3_sum_9 ?_
      refine lv_icmp_ge (tgt := 28) hx hb dX3_sum_10 (by decide) (fun c_2 => ?_) (fun c_2 => ?_)
      · have c_2 : n ≤ i := (nI_leI (a := n) (b := i) (by omega) (by omega)).mp c_2
        refine lv_iload_n hx hb dX3_sum_28 rfl (lv_at hl 1 rfl) ?_
        exact zeP E hs (by rw [show n = i by omega]) dX3_sum_29
      · have c_2 : ¬ (n ≤ i) := fun h => c_2 ((nI_leI (a := n) (b := i) (by omega) (by omega)).mpr h)
        refine lv_iload_n hx hb dX3_sum_13 rfl (lv_at hl 1 rfl) ?_
        refine lv_aload_n hx hb dX3_sum_14 rfl (lv_at hl 0 rfl) ?_
        refine zg2 E hs (k := k) hr.1 0 (by decide) rfl q_30 dX3_sum_15 ?_
        refine lv_iload_n hx hb dX3_sum_18 rfl (lv_at hl 2 rfl) ?_
        refine zald E hs (k + 1) (n := n) (j := i) hr.2.1 hr.2.2.1 (by omega) hr.2.2.2 dX3_sum_19 ?_
        refine lv_iadd hx hb dX3_sum_20 ?_
        refine lv_istore_n (lv' := [(1, .int ((smI (ar (k + 1)) i) + (ar (k + 1) i))), (0, .ref (xa x k)), (2, .int (nI i))]) hx hb dX3_sum_21 rfl hl (by decide) rfl (fun ls hl => ?_)
        refine lv_iinc (v := nI (i + 1)) (lv' := [(2, .int (nI (i + 1))), (1, .int ((smI (ar (k + 1)) i) + (ar (k + 1) i))), (0, .ref (xa x k))]) hx hb dX3_sum_22 hl (k := 2) rfl (nI_inc _) (by decide) rfl (fun ls hl => ?_)
        refine lv_goto (tgt := 4) hx hb dX3_sum_25 (by decide) ?_
        exact ih_1 (i + 1) (by omega) (by omega) _ _ _ hs (lvr (lv_at hl 2 rfl) (lvc (lv_at hl 1 rfl) (smI_s _ _).symm (lvr (lv_at hl 0 rfl) (lvn hl))))
  exact L_1 (_ + 1) 0 (Nat.lt_succ_self _) (by omega) _ _ _ hs (lvr (lv_at hl 2 rfl) (lvc (lv_at hl 1 rfl) nI_0 (lvr (lv_at hl 0 rfl) (lvn hl))))
end
section

/-! areas -/
/-- the cell behind a side; -1 for the outside -/
def nb (c s : Nat) : Int32 := if s = 0 then (if 6 ≤ c then nI (c - 6) else -1) else if s = 1 then (if c % 6 < 5 then nI (c + 1) else -1) else if s = 2 then (if c < 30 then nI (c + 6) else -1) else (if 0 < c % 6 then nI (c - 1) else -1)
noncomputable def ffst (P : Nat → Prop) : Nat → Nat → Int32
  | 0, _ => -1
  | m + 1, i => iz (P i) (nI i) (ffst P m (i + 1))
theorem ffst_t {P : Nat → Prop} {n i : Nat} (h : i < n) (hp : P i) : ffst P (n - i) i = nI i := by
  rw [show n - i = (n - i - 1) + 1 by omega]
  exact iz_t hp
theorem ffst_f {P : Nat → Prop} {n i : Nat} (h : i < n) (hp : ¬ P i) : ffst P (n - i) i = ffst P (n - (i + 1)) (i + 1) := by
  rw [show n - i = (n - (i + 1)) + 1 by omega]
  exact iz_f hp
theorem ffst_e {P : Nat → Prop} {n i : Nat} (h : n ≤ i) : ffst P (n - i) i = -1 := by
  rw [show n - i = 0 by omega]
  rfl
theorem ffst_c {P R : Nat → Prop} : ∀ {m i : Nat}, (∀ j, i ≤ j → j < i + m → (P j ↔ R j)) → ffst P m i = ffst R m i
  | 0, _, _ => rfl
  | m + 1, i, h => by
    show iz (P i) _ _ = iz (R i) _ _
    rw [iz_c (h i (Nat.le_refl _) (by omega)), ffst_c (m := m) (i := i + 1) fun j h1 h2 => h j (by omega) (by omega)]
noncomputable def alI (f : Nat → Int32) (c : Nat) : Int32 := iz (f c = -1) (nI 0) (nI (ct (fun s => rowAt f 36 (nb c s) = f c) 4))
noncomputable def bdI (f : Nat → Int32) (v : Int32) : Int32 := smI (fun c => iz (f c = v) (nI 4 - alI f c) 0) 36
noncomputable def vtI (f : Nat → Int32) (v : Int32) (g : Nat → Int32) : Int32 := smI (fun c => iz (f c = v) (g c) 0) 36

set_option maxHeartbeats 4000000 in
set_option maxRecDepth 100000 in
/-- Areas.behind -/
theorem c_X0_behind (l : Launch) (x : CT) (ar fd : AR) (ce sd : Nat) (hce : ce < 36) (hsd : sd < 4) : CP l yX0_behind cX0_behind 3 (some .int) 0 0 x [.int (nI ce), .int (nI sd)] ar fd (fun r => r = nb ce sd) := by
  refine zsP (own := RX0) rfl (by decide +kernel) (Nat.le_of_ble_eq_true rfl) ?_
  intro p e s m below meth c ls E hs hl
  have hx := E.1
  have hb := E.2.1
  have hl : lv_has ls 3 [(0, .int (nI ce)), (1, .int (nI sd))] := hl
  refine lv_iload_n hx hb dX0_behind_0 rfl (lv_at hl 0 rfl) ?_
  refine lv_bipush (v := nI 6) hx hb dX0_behind_1 (by decide) ?_
  refine lv_irem hx hb dX0_behind_3 (by decide) ?_
  refine tp (b := nI (ce % 6)) (nI_rem (by omega) (by omega)) ?_
  refine lv_istore_n (lv' := [(2, .int (nI (ce % 6))), (0, .int (nI ce)), (1, .int (nI sd))]) hx hb dX0_behind_4 rfl hl (by decide) rfl (fun ls hl => ?_)
  refine lv_iload_n hx hb dX0_behind_5 rfl (lv_at hl 2 rfl) ?_
  by_cases c_1 : sd = 0
  · refine lv_tableIn (off := 30) (tgt := 36) hx hb dX0_behind_6 (by rw [c_1]; decide) (by rw [c_1]; decide) (by rw [c_1]; first | rfl | decide) (by decide) ?_
    refine lv_iload_n hx hb dX0_behind_36 rfl (lv_at hl 1 rfl) ?_
    refine lv_bipush (v := nI 6) hx hb dX0_behind_37 (by decide) ?_
    refine lv_icmp_lt (tgt := 49) hx hb dX0_behind_39 (by decide) (fun c_2 => ?_) (fun c_2 => ?_)
    · have c_2 : ce < 6 := (nI_ltI (a := ce) (b := 6) (by omega) (by omega)).mp c_2
      refine lv_iconst (v := (-1)) hx hb dX0_behind_49 (by decide) ?_
      exact zeP E hs (by unfold nb; rw [if_pos c_1, if_neg (by omega)]) dX0_behind_50
    · have c_2 : ¬ (ce < 6) := fun h => c_2 ((nI_ltI (a := ce) (b := 6) (by omega) (by omega)).mpr h)
      refine lv_iload_n hx hb dX0_behind_42 rfl (lv_at hl 1 rfl) ?_
      refine lv_bipush (v := nI 6) hx hb dX0_behind_43 (by decide) ?_
      refine lv_isub hx hb dX0_behind_45 ?_
      refine tp (b := nI (ce - 6)) (nI_sub (by omega)) ?_
      refine lv_goto (tgt := 50) hx hb dX0_behind_46 (by decide) ?_
      exact zeP E hs (by unfold nb; rw [if_pos c_1, if_pos (by omega)]) dX0_behind_50
  by_cases c_3 : sd = 1
  · refine lv_tableIn (off := 45) (tgt := 51) hx hb dX0_behind_6 (by rw [c_3]; decide) (by rw [c_3]; decide) (by rw [c_3]; first | rfl | decide) (by decide) ?_
    refine lv_iload_n hx hb dX0_behind_51 rfl (lv_at hl 0 rfl) ?_
    refine lv_iconst (v := nI 5) hx hb dX0_behind_52 (by decide) ?_
    refine lv_icmp_ge (tgt := 62) hx hb dX0_behind_53 (by decide) (fun c_4 => ?_) (fun c_4 => ?_)
    · have c_4 : 5 ≤ ce % 6 := (nI_leI (a := 5) (b := ce % 6) (by omega) (by omega)).mp c_4
      refine lv_iconst (v := (-1)) hx hb dX0_behind_62 (by decide) ?_
      exact zeP E hs (by unfold nb; rw [if_neg c_1, if_pos c_3, if_neg (by omega)]) dX0_behind_63
    · have c_4 : ¬ (5 ≤ ce % 6) := fun h => c_4 ((nI_leI (a := 5) (b := ce % 6) (by omega) (by omega)).mpr h)
      refine lv_iload_n hx hb dX0_behind_56 rfl (lv_at hl 1 rfl) ?_
      refine lv_iconst (v := nI 1) hx hb dX0_behind_57 (by decide) ?_
      refine lv_iadd hx hb dX0_behind_58 ?_
      refine tp (b := nI (ce + 1)) (nI_add _ _) ?_
      refine lv_goto (tgt := 63) hx hb dX0_behind_59 (by decide) ?_
      exact zeP E hs (by unfold nb; rw [if_neg c_1, if_pos c_3, if_pos (by omega)]) dX0_behind_63
  by_cases c_5 : sd = 2
  · refine lv_tableIn (off := 58) (tgt := 64) hx hb dX0_behind_6 (by rw [c_5]; decide) (by rw [c_5]; decide) (by rw [c_5]; first | rfl | decide) (by decide) ?_
    refine lv_iload_n hx hb dX0_behind_64 rfl (lv_at hl 1 rfl) ?_
    refine lv_bipush (v := nI 30) hx hb dX0_behind_65 (by decide) ?_
    refine lv_icmp_ge (tgt := 77) hx hb dX0_behind_67 (by decide) (fun c_6 => ?_) (fun c_6 => ?_)
    · have c_6 : 30 ≤ ce := (nI_leI (a := 30) (b := ce) (by omega) (by omega)).mp c_6
      refine lv_iconst (v := (-1)) hx hb dX0_behind_77 (by decide) ?_
      exact zeP E hs (by unfold nb; rw [if_neg c_1, if_neg c_3, if_pos c_5, if_neg (by omega)]) dX0_behind_78
    · have c_6 : ¬ (30 ≤ ce) := fun h => c_6 ((nI_leI (a := 30) (b := ce) (by omega) (by omega)).mpr h)
      refine lv_iload_n hx hb dX0_behind_70 rfl (lv_at hl 1 rfl) ?_
      refine lv_bipush (v := nI 6) hx hb dX0_behind_71 (by decide) ?_
      refine lv_iadd hx hb dX0_behind_73 ?_
      refine tp (b := nI (ce + 6)) (nI_add _ _) ?_
      refine lv_goto (tgt := 78) hx hb dX0_behind_74 (by decide) ?_
      exact zeP E hs (by unfold nb; rw [if_neg c_1, if_neg c_3, if_pos c_5, if_pos (by omega)]) dX0_behind_78
  by_cases c_7 : sd = 3
  · refine lv_tableIn (off := 73) (tgt := 79) hx hb dX0_behind_6 (by rw [c_7]; decide) (by rw [c_7]; decide) (by rw [c_7]; first | rfl | decide) (by decide) ?_
    refine lv_iload_n hx hb dX0_behind_79 rfl (lv_at hl 0 rfl) ?_
    refine lv_if_le (tgt := 89) hx hb dX0_behind_80 (by decide) (fun c_8 => ?_) (fun c_8 => ?_)
    · have c_8 : ce % 6 ≤ 0 := (nI_leI (a := ce % 6) (b := 0) (by omega) (by omega)).mp c_8
      refine lv_iconst (v := (-1)) hx hb dX0_behind_89 (by decide) ?_
      exact zeP E hs (by unfold nb; rw [if_neg c_1, if_neg c_3, if_neg c_5, if_neg (by omega)]) dX0_behind_90
    · have c_8 : ¬ (ce % 6 ≤ 0) := fun h => c_8 ((nI_leI (a := ce % 6) (b := 0) (by omega) (by omega)).mpr h)
      refine lv_iload_n hx hb dX0_behind_83 rfl (lv_at hl 1 rfl) ?_
      refine lv_iconst (v := nI 1) hx hb dX0_behind_84 (by decide) ?_
      refine lv_isub hx hb dX0_behind_85 ?_
      refine tp (b := nI (ce - 1)) (nI_sub (by omega)) ?_
      refine lv_goto (tgt := 90) hx hb dX0_behind_86 (by decide) ?_
      exact zeP E hs (by unfold nb; rw [if_neg c_1, if_neg c_3, if_neg c_5, if_pos (by omega)]) dX0_behind_90
  exfalso; omega

set_option maxHeartbeats 4000000 in
set_option maxRecDepth 100000 in
/-- Areas.size -/
theorem c_X0_size (l : Launch) (x : CT) (k : Nat) (hr : RO k 36) (ar fd : AR) (v : Int32) : CP l yX0_size cX0_size 4 (some .int) 1 21 x [.ref (xa x k), .int v] ar fd (fun r => r = nI (ct (fun i => ar (k + 1) i = v) 36)) := by
  refine zsP (own := RX0) rfl (by decide +kernel) (Nat.le_of_ble_eq_true rfl) ?_
  intro p e s m below meth c ls E hs hl
  have hx := E.1
  have hb := E.2.1
  have hl : lv_has ls 4 [(0, .ref (xa x k)), (1, .int v)] := hl
  refine lv_iconst (v := nI 0) hx hb dX0_size_0 (by decide) ?_
  refine lv_istore_n (lv' := [(2, .int (nI 0)), (0, .ref (xa x k)), (1, .int v)]) hx hb dX0_size_1 rfl hl (by decide) rfl (fun ls hl => ?_)
  refine lv_iconst (v := nI 0) hx hb dX0_size_2 (by decide) ?_
  refine lv_istore_n (lv' := [(3, .int (nI 0)), (2, .int (nI 0)), (0, .ref (xa x k)), (1, .int v)]) hx hb dX0_size_3 rfl hl (by decide) rfl (fun ls hl => ?_)
  have L_1 : ∀ (mm : Nat) (i : Nat), (36 - i) < mm → (i ≤ 36) → ∀ (H : Heap) (locs : List Loc) (ls : Array Slot), ST x (AA x) s.heap ar fd H locs → lv_has ls 4 [(0, .ref (xa x k)), (1, .int v), (2, .int (nI (ct (fun i => ar (k + 1) i = v) i))), (3, .int (nI i))] → W p l e (rmZ 1 21) s m ([.ref (xa x k), .int v] : List Value).toArray below meth c H locs 0 0 (QP below x [.ref (xa x k), .int v] ar fd s (fun r => r = nI (ct (fun i => ar (k + 1) i = v) 36))) (F0 m 4 ls []) := by
    intro mm
    induction mm with
    | zero => intro i hmu; exact absurd hmu (Nat.not_lt_zero _)
    | succ mm ih_1 =>
      intro i hmu hi H locs ls hs hl
      refine lv_iload_n hx hb dX0_size_4 rfl (lv_at hl 3 rfl) ?_
      refine lv_bipush (v := nI 36) hx hb dX0_size_5 (by decide) ?_
      refine lv_icmp_ge (tgt := 28) hx hb dX0_size_7 (by decide) (fun c_2 => ?_) (fun c_2 => ?_)
      · have c_2 : 36 ≤ i := (nI_leI (a := 36) (b := i) (by omega) (by omega)).mp c_2
        refine lv_iload_n hx hb dX0_size_28 rfl (lv_at hl 2 rfl) ?_
        exact zeP E hs (by rw [show i = 36 by omega]) dX0_size_29
      · have c_2 : ¬ (36 ≤ i) := fun h => c_2 ((nI_leI (a := 36) (b := i) (by omega) (by omega)).mpr h)
        refine lv_aload_n hx hb dX0_size_10 rfl (lv_at hl 0 rfl) ?_
        refine lv_iload_n hx hb dX0_size_11 rfl (lv_at hl 3 rfl) ?_
        refine zVP E hs lkX0_9 [] (c_X3_at l x k 36 hr ar fd (nI i)) (kd_lt hr.1 (by decide)) (sh2 hr.1) rfl ⟨Nat.le_of_ble_eq_true rfl, Nat.le_of_ble_eq_true rfl⟩ rfl hl.1 (Nat.le_of_ble_eq_true rfl) rfl dX0_size_12 (fun r_3 H locs hp_4 hs => ?_)
        subst hp_4
        refine tp (b := ar (k + 1) i) (rowAt_n (by omega) (by decide)) ?_
        refine lv_iload_n hx hb dX0_size_15 rfl (lv_at hl 1 rfl) ?_
        refine lv_icmp_ne (tgt := 22) hx hb dX0_size_16 (by decide) (fun c_5 => ?_) (fun c_5 => ?_)
        · refine lv_iinc (v := nI (i + 1)) (lv' := [(3, .int (nI (i + 1))), (0, .ref (xa x k)), (1, .int v), (2, .int (nI (ct (fun i => ar (k + 1) i = v) i)))]) hx hb dX0_size_22 hl (k := 3) rfl (nI_inc _) (by decide) rfl (fun ls hl => ?_)
          refine lv_goto (tgt := 4) hx hb dX0_size_25 (by decide) ?_
          exact ih_1 (i + 1) (by omega) (by omega) _ _ _ hs (lvr (lv_at hl 1 rfl) (lvr (lv_at hl 2 rfl) (lvc (lv_at hl 3 rfl) (by rw [ct_f (P := fun i => ar (k + 1) i = v) c_5]) (lvr (lv_at hl 0 rfl) (lvn hl)))))
        · refine lv_iinc (v := nI (ct (fun i => ar (k + 1) i = v) i + 1)) (lv' := [(2, .int (nI (ct (fun i => ar (k + 1) i = v) i + 1))), (0, .ref (xa x k)), (1, .int v), (3, .int (nI i))]) hx hb dX0_size_19 hl (k := 2) rfl (nI_inc _) (by decide) rfl (fun ls hl => ?_)
          refine lv_iinc (v := nI (i + 1)) (lv' := [(3, .int (nI (i + 1))), (2, .int (nI (ct (fun i => ar (k + 1) i = v) i + 1))), (0, .ref (xa x k)), (1, .int v)]) hx hb dX0_size_22 hl (k := 3) rfl (nI_inc _) (by decide) rfl (fun ls hl => ?_)
          refine lv_goto (tgt := 4) hx hb dX0_size_25 (by decide) ?_
          exact ih_1 (i + 1) (by omega) (by omega) _ _ _ hs (lvr (lv_at hl 2 rfl) (lvr (lv_at hl 3 rfl) (lvc (lv_at hl 1 rfl) (by rw [ct_t (P := fun i => ar (k + 1) i = v) c_5]) (lvr (lv_at hl 0 rfl) (lvn hl)))))
  exact L_1 (_ + 1) 0 (Nat.lt_succ_self _) (by omega) _ _ _ hs (lvr (lv_at hl 2 rfl) (lvr (lv_at hl 3 rfl) (lvr (lv_at hl 1 rfl) (lvr (lv_at hl 0 rfl) (lvn hl)))))

set_option maxHeartbeats 4000000 in
set_option maxRecDepth 100000 in
/-- Areas.lowest -/
theorem c_X0_lowest (l : Launch) (x : CT) (k : Nat) (hr : RO k 36) (ar fd : AR) (v : Int32) : CP l yX0_lowest cX0_lowest 3 (some .int) 1 21 x [.ref (xa x k), .int v] ar fd (fun r => r = ffst (fun i => ar (k + 1) i = v) 36 0) := by
  refine zsP (own := RX0) rfl (by decide +kernel) (Nat.le_of_ble_eq_true rfl) ?_
  intro p e s m below meth c ls E hs hl
  have hx := E.1
  have hb := E.2.1
  have hl : lv_has ls 3 [(0, .ref (xa x k)), (1, .int v)] := hl
  refine lv_iconst (v := nI 0) hx hb dX0_lowest_0 (by decide) ?_
  refine lv_istore_n (lv' := [(2, .int (nI 0)), (0, .ref (xa x k)), (1, .int v)]) hx hb dX0_lowest_1 rfl hl (by decide) rfl (fun ls hl => ?_)
  have L_1 : ∀ (mm : Nat) (i : Nat), (36 - i) < mm → (i ≤ 36) → (ffst (fun i => ar (k + 1) i = v) 36 0 = ffst (fun i => ar (k + 1) i = v) (36 - i) i) → ∀ (H : Heap) (locs : List Loc) (ls : Array Slot), ST x (AA x) s.heap ar fd H locs → lv_has ls 3 [(0, .ref (xa x k)), (1, .int v), (2, .int (nI i))] → W p l e (rmZ 1 21) s m ([.ref (xa x k), .int v] : List Value).toArray below meth c H locs 0 0 (QP below x [.ref (xa x k), .int v] ar fd s (fun r => r = ffst (fun i => ar (k + 1) i = v) 36 0)) (F0 m 2 ls []) := by
    intro mm
    induction mm with
    | zero => intro i hmu; exact absurd hmu (Nat.not_lt_zero _)
    | succ mm ih_1 =>
      intro i hmu hi h1 H locs ls hs hl
      refine lv_iload_n hx hb dX0_lowest_2 rfl (lv_at hl 2 rfl) ?_
      refine lv_bipush (v := nI 36) hx hb dX0_lowest_3 (by decide) ?_
      refine lv_icmp_ge (tgt := 25) hx hb dX0_lowest_5 (by decide) (fun c_2 => ?_) (fun c_2 => ?_)
      · have c_2 : 36 ≤ i := (nI_leI (a := 36) (b := i) (by omega) (by omega)).mp c_2
        refine lv_iconst (v := (-1)) hx hb dX0_lowest_25 (by decide) ?_
        exact zeP E hs (h1.trans (ffst_e (by omega))).symm dX0_lowest_26
      · have c_2 : ¬ (36 ≤ i) := fun h => c_2 ((nI_leI (a := 36) (b := i) (by omega) (by omega)).mpr h)
        refine lv_aload_n hx hb dX0_lowest_8 rfl (lv_at hl 0 rfl) ?_
        refine lv_iload_n hx hb dX0_lowest_9 rfl (lv_at hl 2 rfl) ?_
        refine zVP E hs lkX0_9 [] (c_X3_at l x k 36 hr ar fd (nI i)) (kd_lt hr.1 (by decide)) (sh2 hr.1) rfl ⟨Nat.le_of_ble_eq_true rfl, Nat.le_of_ble_eq_true rfl⟩ rfl hl.1 (Nat.le_of_ble_eq_true rfl) rfl dX0_lowest_10 (fun r_3 H locs hp_4 hs => ?_)
        subst hp_4
        refine tp (b := ar (k + 1) i) (rowAt_n (by omega) (by decide)) ?_
        refine lv_iload_n hx hb dX0_lowest_13 rfl (lv_at hl 1 rfl) ?_
        refine lv_icmp_ne (tgt := 19) hx hb dX0_lowest_14 (by decide) (fun c_5 => ?_) (fun c_5 => ?_)
        · refine lv_iinc (v := nI (i + 1)) (lv' := [(2, .int (nI (i + 1))), (0, .ref (xa x k)), (1, .int v)]) hx hb dX0_lowest_19 hl (k := 2) rfl (nI_inc _) (by decide) rfl (fun ls hl => ?_)
          refine lv_goto (tgt := 2) hx hb dX0_lowest_22 (by decide) ?_
          exact ih_1 (i + 1) (by omega) (by omega) (h1.trans (ffst_f (by omega) c_5)) _ _ _ hs (lvr (lv_at hl 1 rfl) (lvr (lv_at hl 2 rfl) (lvr (lv_at hl 0 rfl) (lvn hl))))
        · refine lv_iload_n hx hb dX0_lowest_17 rfl (lv_at hl 2 rfl) ?_
          exact zeP E hs (h1.trans (ffst_t (by omega) c_5)).symm dX0_lowest_18
  exact L_1 (_ + 1) 0 (Nat.lt_succ_self _) (by omega) rfl _ _ _ hs (lvr (lv_at hl 1 rfl) (lvr (lv_at hl 2 rfl) (lvr (lv_at hl 0 rfl) (lvn hl))))

set_option maxHeartbeats 4000000 in
set_option maxRecDepth 100000 in
/-- Areas.alike -/
theorem c_X0_alike (l : Launch) (x : CT) (k : Nat) (hr : RO k 36) (ar fd : AR) (i : Nat) (hi : i < 36) : CP l yX0_alike cX0_alike 5 (some .int) 1 22 x [.ref (xa x k), .int (nI i)] ar fd (fun r => r = alI (ar (k + 1)) i) := by
  refine zsP (own := RX0) rfl (by decide +kernel) (Nat.le_of_ble_eq_true rfl) ?_
  intro p e s m below meth c ls E hs hl
  have hx := E.1
  have hb := E.2.1
  have hl : lv_has ls 5 [(0, .ref (xa x k)), (1, .int (nI i))] := hl
  refine lv_aload_n hx hb dX0_alike_0 rfl (lv_at hl 0 rfl) ?_
  refine lv_iload_n hx hb dX0_alike_1 rfl (lv_at hl 1 rfl) ?_
  refine zVP E hs lkX0_9 [] (c_X3_at l x k 36 hr ar fd (nI i)) (kd_lt hr.1 (by decide)) (sh2 hr.1) rfl ⟨Nat.le_of_ble_eq_true rfl, Nat.le_of_ble_eq_true rfl⟩ rfl hl.1 (Nat.le_of_ble_eq_true rfl) rfl dX0_alike_2 (fun r_1 H locs hp_2 hs => ?_)
  subst hp_2
  refine tp (b := ar (k + 1) i) (rowAt_n (by omega) (by decide)) ?_
  refine lv_istore_n (lv' := [(2, .int (ar (k + 1) i)), (0, .ref (xa x k)), (1, .int (nI i))]) hx hb dX0_alike_5 rfl hl (by decide) rfl (fun ls hl => ?_)
  refine lv_iload_n hx hb dX0_alike_6 rfl (lv_at hl 0 rfl) ?_
  refine lv_iconst (v := (-1)) hx hb dX0_alike_7 (by decide) ?_
  refine lv_icmp_ne (tgt := 13) hx hb dX0_alike_8 (by decide) (fun c_3 => ?_) (fun c_3 => ?_)
  · refine lv_iconst (v := nI 0) hx hb dX0_alike_13 (by decide) ?_
    refine lv_istore_n (lv' := [(3, .int (nI 0)), (2, .int (ar (k + 1) i)), (0, .ref (xa x k)), (1, .int (nI i))]) hx hb dX0_alike_14 rfl hl (by decide) rfl (fun ls hl => ?_)
    refine lv_iconst (v := nI 0) hx hb dX0_alike_15 (by decide) ?_
    refine lv_istore (lv' := [(4, .int (nI 0)), (3, .int (nI 0)), (2, .int (ar (k + 1) i)), (0, .ref (xa x k)), (1, .int (nI i))]) hx hb dX0_alike_16 hl (by decide) rfl (fun ls hl => ?_)
    have L_4 : ∀ (mm : Nat) (t : Nat), (4 - t) < mm → (t ≤ 4) → ∀ (H : Heap) (locs : List Loc) (ls : Array Slot), ST x (AA x) s.heap ar fd H locs → lv_has ls 5 [(0, .ref (xa x k)), (1, .int (nI i)), (2, .int (ar (k + 1) i)), (3, .int (nI (ct (fun s => rowAt (ar (k + 1)) 36 (nb i s) = ar (k + 1) i) t))), (4, .int (nI t))] → W p l e (rmZ 1 22) s m ([.ref (xa x k), .int (nI i)] : List Value).toArray below meth c H locs 0 0 (QP below x [.ref (xa x k), .int (nI i)] ar fd s (fun r => r = alI (ar (k + 1)) i)) (F0 m 18 ls []) := by
      intro mm
      induction mm with
      | zero => intro t hmu; exact absurd hmu (Nat.not_lt_zero _)
      | succ mm ih_4 =>
        intro t hmu ht H locs ls hs hl
        refine lv_iload hx hb dX0_alike_18 (lv_at hl 4 rfl) ?_
        refine lv_iconst (v := nI 4) hx hb dX0_alike_20 (by decide) ?_
        refine lv_icmp_ge (tgt := 47) hx hb dX0_alike_21 (by decide) (fun c_5 => ?_) (fun c_5 => ?_)
        · have c_5 : 4 ≤ t := (nI_leI (a := 4) (b := t) (by omega) (by omega)).mp c_5
          refine lv_iload_n hx hb dX0_alike_47 rfl (lv_at hl 3 rfl) ?_
          exact zeP E hs (by unfold alI; rw [iz_f c_3, show t = 4 by omega]) dX0_alike_48
        · have c_5 : ¬ (4 ≤ t) := fun h => c_5 ((nI_leI (a := 4) (b := t) (by omega) (by omega)).mpr h)
          refine lv_aload_n hx hb dX0_alike_24 rfl (lv_at hl 0 rfl) ?_
          refine lv_iload_n hx hb dX0_alike_25 rfl (lv_at hl 1 rfl) ?_
          refine lv_iload hx hb dX0_alike_26 (lv_at hl 4 rfl) ?_
          refine zSP E hs lkX0_15 [.ref (xa x k)] (c_X0_behind l x ar fd i t (by omega) (by omega)) ⟨Nat.le_of_ble_eq_true rfl, Nat.le_of_ble_eq_true rfl⟩ rfl hl.1 (Nat.le_of_ble_eq_true rfl) rfl dX0_alike_28 (fun r_6 H locs hp_7 hs => ?_)
          subst hp_7
          refine zVP E hs lkX0_9 [] (c_X3_at l x k 36 hr ar fd (nb i t)) (kd_lt hr.1 (by decide)) (sh2 hr.1) rfl ⟨Nat.le_of_ble_eq_true rfl, Nat.le_of_ble_eq_true rfl⟩ rfl hl.1 (Nat.le_of_ble_eq_true rfl) rfl dX0_alike_31 (fun r_8 H locs hp_9 hs => ?_)
          subst hp_9
          refine lv_iload_n hx hb dX0_alike_34 rfl (lv_at hl 2 rfl) ?_
          refine lv_icmp_ne (tgt := 41) hx hb dX0_alike_35 (by decide) (fun c_10 => ?_) (fun c_10 => ?_)
          · refine lv_iinc (v := nI (t + 1)) (lv' := [(4, .int (nI (t + 1))), (0, .ref (xa x k)), (1, .int (nI i)), (2, .int (ar (k + 1) i)), (3, .int (nI (ct (fun s => rowAt (ar (k + 1)) 36 (nb i s) = ar (k + 1) i) t)))]) hx hb dX0_alike_41 hl (k := 4) rfl (nI_inc _) (by decide) rfl (fun ls hl => ?_)
            refine lv_goto (tgt := 18) hx hb dX0_alike_44 (by decide) ?_
            exact ih_4 (t + 1) (by omega) (by omega) _ _ _ hs (lvr (lv_at hl 1 rfl) (lvr (lv_at hl 2 rfl) (lvr (lv_at hl 3 rfl) (lvc (lv_at hl 4 rfl) (by rw [ct_f (P := (fun s => rowAt (ar (k + 1)) 36 (nb i s) = ar (k + 1) i)) c_10]) (lvr (lv_at hl 0 rfl) (lvn hl))))))
          · refine lv_iinc (v := nI (ct (fun s => rowAt (ar (k + 1)) 36 (nb i s) = ar (k + 1) i) t + 1)) (lv' := [(3, .int (nI (ct (fun s => rowAt (ar (k + 1)) 36 (nb i s) = ar (k + 1) i) t + 1))), (0, .ref (xa x k)), (1, .int (nI i)), (2, .int (ar (k + 1) i)), (4, .int (nI t))]) hx hb dX0_alike_38 hl (k := 3) rfl (nI_inc _) (by decide) rfl (fun ls hl => ?_)
            refine lv_iinc (v := nI (t + 1)) (lv' := [(4, .int (nI (t + 1))), (3, .int (nI (ct (fun s => rowAt (ar (k + 1)) 36 (nb i s) = ar (k + 1) i) t + 1))), (0, .ref (xa x k)), (1, .int (nI i)), (2, .int (ar (k + 1) i))]) hx hb dX0_alike_41 hl (k := 4) rfl (nI_inc _) (by decide) rfl (fun ls hl => ?_)
            refine lv_goto (tgt := 18) hx hb dX0_alike_44 (by decide) ?_
            exact ih_4 (t + 1) (by omega) (by omega) _ _ _ hs (lvr (lv_at hl 2 rfl) (lvr (lv_at hl 3 rfl) (lvr (lv_at hl 4 rfl) (lvc (lv_at hl 1 rfl) (by rw [ct_t (P := (fun s => rowAt (ar (k + 1)) 36 (nb i s) = ar (k + 1) i)) c_10]) (lvr (lv_at hl 0 rfl) (lvn hl))))))
    exact L_4 (_ + 1) 0 (Nat.lt_succ_self _) (by omega) _ _ _ hs (lvr (lv_at hl 3 rfl) (lvr (lv_at hl 4 rfl) (lvr (lv_at hl 2 rfl) (lvr (lv_at hl 1 rfl) (lvr (lv_at hl 0 rfl) (lvn hl))))))
  · refine lv_iconst (v := nI 0) hx hb dX0_alike_11 (by decide) ?_
    exact zeP E hs (iz_t c_3).symm dX0_alike_12

set_option maxHeartbeats 4000000 in
set_option maxRecDepth 100000 in
/-- Areas.borders -/
theorem c_X0_borders (l : Launch) (x : CT) (k : Nat) (hr : RO k 36) (ar fd : AR) (v : Int32) : CP l yX0_borders cX0_borders 4 (some .int) 2 46 x [.ref (xa x k), .int v] ar fd (fun r => r = bdI (ar (k + 1)) v) := by
  refine zsP (own := RX0) rfl (by decide +kernel) (Nat.le_of_ble_eq_true rfl) ?_
  intro p e s m below meth c ls E hs hl
  have hx := E.1
  have hb := E.2.1
  have hl : lv_has ls 4 [(0, .ref (xa x k)), (1, .int v)] := hl
  refine lv_iconst (v := nI 0) hx hb dX0_borders_0 (by decide) ?_
  refine lv_istore_n (lv' := [(2, .int (nI 0)), (0, .ref (xa x k)), (1, .int v)]) hx hb dX0_borders_1 rfl hl (by decide) rfl (fun ls hl => ?_)
  refine lv_iconst (v := nI 0) hx hb dX0_borders_2 (by decide) ?_
  refine lv_istore_n (lv' := [(3, .int (nI 0)), (2, .int (nI 0)), (0, .ref (xa x k)), (1, .int v)]) hx hb dX0_borders_3 rfl hl (by decide) rfl (fun ls hl => ?_)
  have L_1 : ∀ (mm : Nat) (i : Nat), (36 - i) < mm → (i ≤ 36) → ∀ (H : Heap) (locs : List Loc) (ls : Array Slot), ST x (AA x) s.heap ar fd H locs → lv_has ls 4 [(0, .ref (xa x k)), (1, .int v), (2, .int (smI (fun c => iz (ar (k + 1) c = v) (nI 4 - alI (ar (k + 1)) c) 0) i)), (3, .int (nI i))] → W p l e (rmZ 2 46) s m ([.ref (xa x k), .int v] : List Value).toArray below meth c H locs 0 0 (QP below x [.ref (xa x k), .int v] ar fd s (fun r => r = bdI (ar (k + 1)) v)) (F0 m 4 ls []) := by
    intro mm
    induction mm with
    | zero => intro i hmu; exact absurd hmu (Nat.not_lt_zero _)
    | succ mm ih_1 =>
      intro i hmu hi H locs ls hs hl
      refine lv_iload_n hx hb dX0_borders_4 rfl (lv_at hl 3 rfl) ?_
      refine lv_bipush (v := nI 36) hx hb dX0_borders_5 (by decide) ?_
      refine lv_icmp_ge (tgt := 35) hx hb dX0_borders_7 (by decide) (fun c_2 => ?_) (fun c_2 => ?_)
      · have c_2 : 36 ≤ i := (nI_leI (a := 36) (b := i) (by omega) (by omega)).mp c_2
        refine lv_iload_n hx hb dX0_borders_35 rfl (lv_at hl 2 rfl) ?_
        exact zeP E hs (by rw [show i = 36 by omega]; rfl) dX0_borders_36
      · have c_2 : ¬ (36 ≤ i) := fun h => c_2 ((nI_leI (a := 36) (b := i) (by omega) (by omega)).mpr h)
        refine lv_aload_n hx hb dX0_borders_10 rfl (lv_at hl 0 rfl) ?_
        refine lv_iload_n hx hb dX0_borders_11 rfl (lv_at hl 3 rfl) ?_
        refine zVP E hs lkX0_9 [] (c_X3_at l x k 36 hr ar fd (nI i)) (kd_lt hr.1 (by decide)) (sh2 hr.1) rfl ⟨Nat.le_of_ble_eq_true rfl, Nat.le_of_ble_eq_true rfl⟩ rfl hl.1 (Nat.le_of_ble_eq_true rfl) rfl dX0_borders_12 (fun r_3 H locs hp_4 hs => ?_)
        subst hp_4
        refine tp (b := ar (k + 1) i) (rowAt_n (by omega) (by decide)) ?_
        refine lv_iload_n hx hb dX0_borders_15 rfl (lv_at hl 1 rfl) ?_
        refine lv_icmp_ne (tgt := 29) hx hb dX0_borders_16 (by decide) (fun c_5 => ?_) (fun c_5 => ?_)
        · refine lv_iinc (v := nI (i + 1)) (lv' := [(3, .int (nI (i + 1))), (0, .ref (xa x k)), (1, .int v), (2, .int (smI (fun c => iz (ar (k + 1) c = v) (nI 4 - alI (ar (k + 1)) c) 0) i))]) hx hb dX0_borders_29 hl (k := 3) rfl (nI_inc _) (by decide) rfl (fun ls hl => ?_)
          refine lv_goto (tgt := 4) hx hb dX0_borders_32 (by decide) ?_
          exact ih_1 (i + 1) (by omega) (by omega) _ _ _ hs (lvr (lv_at hl 1 rfl) (lvr (lv_at hl 2 rfl) (lvc (lv_at hl 3 rfl) (by rw [smI_s, iz_f c_5, Int32.add_zero]) (lvr (lv_at hl 0 rfl) (lvn hl)))))
        · refine lv_iload_n hx hb dX0_borders_19 rfl (lv_at hl 2 rfl) ?_
          refine lv_iconst (v := nI 4) hx hb dX0_borders_20 (by decide) ?_
          refine lv_aload_n hx hb dX0_borders_21 rfl (lv_at hl 0 rfl) ?_
          refine lv_iload_n hx hb dX0_borders_22 rfl (lv_at hl 3 rfl) ?_
          refine zSP E hs lkX0_21 [.int (nI 4), .int (smI (fun c => iz (ar (k + 1) c = v) (nI 4 - alI (ar (k + 1)) c) 0) i)] (c_X0_alike l x k hr ar fd i (by omega)) ⟨Nat.le_of_ble_eq_true rfl, Nat.le_of_ble_eq_true rfl⟩ rfl hl.1 (Nat.le_of_ble_eq_true rfl) rfl dX0_borders_23 (fun r_6 H locs hp_7 hs => ?_)
          subst hp_7
          refine lv_isub hx hb dX0_borders_26 ?_
          refine lv_iadd hx hb dX0_borders_27 ?_
          refine lv_istore_n (lv' := [(2, .int ((smI (fun c => iz (ar (k + 1) c = v) (nI 4 - alI (ar (k + 1)) c) 0) i) + ((nI 4) - (alI (ar (k + 1)) i)))), (0, .ref (xa x k)), (1, .int v), (3, .int (nI i))]) hx hb dX0_borders_28 rfl hl (by decide) rfl (fun ls hl => ?_)
          refine lv_iinc (v := nI (i + 1)) (lv' := [(3, .int (nI (i + 1))), (2, .int ((smI (fun c => iz (ar (k + 1) c = v) (nI 4 - alI (ar (k + 1)) c) 0) i) + ((nI 4) - (alI (ar (k + 1)) i)))), (0, .ref (xa x k)), (1, .int v)]) hx hb dX0_borders_29 hl (k := 3) rfl (nI_inc _) (by decide) rfl (fun ls hl => ?_)
          refine lv_goto (tgt := 4) hx hb dX0_borders_32 (by decide) ?_
          exact ih_1 (i + 1) (by omega) (by omega) _ _ _ hs (lvr (lv_at hl 2 rfl) (lvr (lv_at hl 3 rfl) (lvc (lv_at hl 1 rfl) (by rw [smI_s, iz_t c_5]) (lvr (lv_at hl 0 rfl) (lvn hl)))))
  exact L_1 (_ + 1) 0 (Nat.lt_succ_self _) (by omega) _ _ _ hs (lvr (lv_at hl 2 rfl) (lvr (lv_at hl 3 rfl) (lvc (lv_at hl 1 rfl) nI_0 (lvr (lv_at hl 0 rfl) (lvn hl)))))

set_option maxHeartbeats 4000000 in
set_option maxRecDepth 100000 in
/-- Areas.votes -/
theorem c_X0_votes (l : Launch) (x : CT) (k : Nat) (hr : RO k 36) (k2 : Nat) (hr2 : RO k2 36) (ar fd : AR) (v : Int32) : CP l yX0_votes cX0_votes 5 (some .int) 1 21 x [.ref (xa x k), .int v, .ref (xa x k2)] ar fd (fun r => r = vtI (ar (k + 1)) v (ar (k2 + 1))) := by
  refine zsP (own := RX0) rfl (by decide +kernel) (Nat.le_of_ble_eq_true rfl) ?_
  intro p e s m below meth c ls E hs hl
  have hx := E.1
  have hb := E.2.1
  have hl : lv_has ls 5 [(0, .ref (xa x k)), (1, .int v), (2, .ref (xa x k2))] := hl
  refine lv_iconst (v := nI 0) hx hb dX0_votes_0 (by decide) ?_
  refine lv_istore_n (lv' := [(3, .int (nI 0)), (0, .ref (xa x k)), (1, .int v), (2, .ref (xa x k2))]) hx hb dX0_votes_1 rfl hl (by decide) rfl (fun ls hl => ?_)
  refine lv_iconst (v := nI 0) hx hb dX0_votes_2 (by decide) ?_
  refine lv_istore (lv' := [(4, .int (nI 0)), (3, .int (nI 0)), (0, .ref (xa x k)), (1, .int v), (2, .ref (xa x k2))]) hx hb dX0_votes_3 hl (by decide) rfl (fun ls hl => ?_)
  have L_1 : ∀ (mm : Nat) (i : Nat), (36 - i) < mm → (i ≤ 36) → ∀ (H : Heap) (locs : List Loc) (ls : Array Slot), ST x (AA x) s.heap ar fd H locs → lv_has ls 5 [(0, .ref (xa x k)), (1, .int v), (2, .ref (xa x k2)), (3, .int (smI (fun c => iz (ar (k + 1) c = v) (ar (k2 + 1) c) 0) i)), (4, .int (nI i))] → W p l e (rmZ 1 21) s m ([.ref (xa x k), .int v, .ref (xa x k2)] : List Value).toArray below meth c H locs 0 0 (QP below x [.ref (xa x k), .int v, .ref (xa x k2)] ar fd s (fun r => r = vtI (ar (k + 1)) v (ar (k2 + 1)))) (F0 m 5 ls []) := by
    intro mm
    induction mm with
    | zero => intro i hmu; exact absurd hmu (Nat.not_lt_zero _)
    | succ mm ih_1 =>
      intro i hmu hi H locs ls hs hl
      refine lv_iload hx hb dX0_votes_5 (lv_at hl 4 rfl) ?_
      refine lv_bipush (v := nI 36) hx hb dX0_votes_7 (by decide) ?_
      refine lv_icmp_ge (tgt := 37) hx hb dX0_votes_9 (by decide) (fun c_2 => ?_) (fun c_2 => ?_)
      · have c_2 : 36 ≤ i := (nI_leI (a := 36) (b := i) (by omega) (by omega)).mp c_2
        refine lv_iload_n hx hb dX0_votes_37 rfl (lv_at hl 3 rfl) ?_
        exact zeP E hs (by rw [show i = 36 by omega]; rfl) dX0_votes_38
      · have c_2 : ¬ (36 ≤ i) := fun h => c_2 ((nI_leI (a := 36) (b := i) (by omega) (by omega)).mpr h)
        refine lv_aload_n hx hb dX0_votes_12 rfl (lv_at hl 0 rfl) ?_
        refine lv_iload hx hb dX0_votes_13 (lv_at hl 4 rfl) ?_
        refine zVP E hs lkX0_9 [] (c_X3_at l x k 36 hr ar fd (nI i)) (kd_lt hr.1 (by decide)) (sh2 hr.1) rfl ⟨Nat.le_of_ble_eq_true rfl, Nat.le_of_ble_eq_true rfl⟩ rfl hl.1 (Nat.le_of_ble_eq_true rfl) rfl dX0_votes_15 (fun r_3 H locs hp_4 hs => ?_)
        subst hp_4
        refine tp (b := ar (k + 1) i) (rowAt_n (by omega) (by decide)) ?_
        refine lv_iload_n hx hb dX0_votes_18 rfl (lv_at hl 1 rfl) ?_
        refine lv_icmp_ne (tgt := 31) hx hb dX0_votes_19 (by decide) (fun c_5 => ?_) (fun c_5 => ?_)
        · refine lv_iinc (v := nI (i + 1)) (lv' := [(4, .int (nI (i + 1))), (0, .ref (xa x k)), (1, .int v), (2, .ref (xa x k2)), (3, .int (smI (fun c => iz (ar (k + 1) c = v) (ar (k2 + 1) c) 0) i))]) hx hb dX0_votes_31 hl (k := 4) rfl (nI_inc _) (by decide) rfl (fun ls hl => ?_)
          refine lv_goto (tgt := 5) hx hb dX0_votes_34 (by decide) ?_
          exact ih_1 (i + 1) (by omega) (by omega) _ _ _ hs (lvr (lv_at hl 1 rfl) (lvr (lv_at hl 2 rfl) (lvr (lv_at hl 3 rfl) (lvc (lv_at hl 4 rfl) (by rw [smI_s, iz_f c_5, Int32.add_zero]) (lvr (lv_at hl 0 rfl) (lvn hl))))))
        · refine lv_iload_n hx hb dX0_votes_22 rfl (lv_at hl 3 rfl) ?_
          refine lv_aload_n hx hb dX0_votes_23 rfl (lv_at hl 2 rfl) ?_
          refine lv_iload hx hb dX0_votes_24 (lv_at hl 4 rfl) ?_
          refine zVP E hs lkX0_9 [.int (smI (fun c => iz (ar (k + 1) c = v) (ar (k2 + 1) c) 0) i)] (c_X3_at l x k2 36 hr2 ar fd (nI i)) (kd_lt hr2.1 (by decide)) (sh2 hr2.1) rfl ⟨Nat.le_of_ble_eq_true rfl, Nat.le_of_ble_eq_true rfl⟩ rfl hl.1 (Nat.le_of_ble_eq_true rfl) rfl dX0_votes_26 (fun r_6 H locs hp_7 hs => ?_)
          subst hp_7
          refine tp (b := ar (k2 + 1) i) (rowAt_n (by omega) (by decide)) ?_
          refine lv_iadd hx hb dX0_votes_29 ?_
          refine lv_istore_n (lv' := [(3, .int ((smI (fun c => iz (ar (k + 1) c = v) (ar (k2 + 1) c) 0) i) + (ar (k2 + 1) i))), (0, .ref (xa x k)), (1, .int v), (2, .ref (xa x k2)), (4, .int (nI i))]) hx hb dX0_votes_30 rfl hl (by decide) rfl (fun ls hl => ?_)
          refine lv_iinc (v := nI (i + 1)) (lv' := [(4, .int (nI (i + 1))), (3, .int ((smI (fun c => iz (ar (k + 1) c = v) (ar (k2 + 1) c) 0) i) + (ar (k2 + 1) i))), (0, .ref (xa x k)), (1, .int v), (2, .ref (xa x k2))]) hx hb dX0_votes_31 hl (k := 4) rfl (nI_inc _) (by decide) rfl (fun ls hl => ?_)
          refine lv_goto (tgt := 5) hx hb dX0_votes_34 (by decide) ?_
          exact ih_1 (i + 1) (by omega) (by omega) _ _ _ hs (lvr (lv_at hl 2 rfl) (lvr (lv_at hl 3 rfl) (lvr (lv_at hl 4 rfl) (lvc (lv_at hl 1 rfl) (by rw [smI_s, iz_t c_5]) (lvr (lv_at hl 0 rfl) (lvn hl))))))
  exact L_1 (_ + 1) 0 (Nat.lt_succ_self _) (by omega) _ _ _ hs (lvr (lv_at hl 2 rfl) (lvr (lv_at hl 3 rfl) (lvr (lv_at hl 4 rfl) (lvc (lv_at hl 1 rfl) nI_0 (lvr (lv_at hl 0 rfl) (lvn hl))))))
end
section

/-! the state that is now, at cell 1; any state, by its base -/
noncomputable def vk (sd : Int32) : Nat := iz (sd = 0) 2 4
theorem ro_vk (sd : Int32) : RO (vk sd) 36 := by
  unfold vk
  by_cases h : sd = 0
  · rw [iz_t h]; exact ro_2
  · rw [iz_f h]; exact ro_4
noncomputable def mg (ar : AR) (k : Nat) (v sd : Int32) : Int32 := vtI (ar (k + 1)) v (ar (vk sd + 1)) - vtI (ar (k + 1)) v (ar (vk (nI 1 - sd) + 1))
noncomputable def wnI (m : Int32) : Int32 := iz (m = 0) (nI 2) (iz (m ≤ 0) (nI 1) (nI 0))
noncomputable def wsI (own oth : Int32) : Int32 := iz (own ≤ oth) own (own - (oth + nI 1))
noncomputable def wst (ar : AR) (v sd : Int32) : Int32 := wsI (vtI (ar 9) v (ar (vk sd + 1))) (vtI (ar 9) v (ar (vk (nI 1 - sd) + 1)))
noncomputable def clS (m : Nat → Int32) : Nat → Int32 × Int32
  | 0 => (-1, 0)
  | n + 1 => iz (m n ≤ 0) (clS m n) (iz ((clS m n).1 = -1) (nI n, m n) (iz ((clS m n).2 ≤ m n) (clS m n) (nI n, m n)))
theorem clS_s (m : Nat → Int32) (n : Nat) : clS m (n + 1) = iz (m n ≤ 0) (clS m n) (iz ((clS m n).1 = -1) (nI n, m n) (iz ((clS m n).2 ≤ m n) (clS m n) (nI n, m n))) := rfl
noncomputable def mlS (m : Nat → Int32) : Nat → Nat
  | 0 => 0
  | n + 1 => iz (m n ≤ m (mlS m n)) (mlS m n) n
theorem mlS_s (m : Nat → Int32) (n : Nat) : mlS m (n + 1) = iz (m n ≤ m (mlS m n)) (mlS m n) n := rfl
theorem mlS_1 (m : Nat → Int32) : mlS m 1 = 0 := by
  rw [mlS_s]
  by_cases h : m 0 ≤ m (mlS m 0)
  · rw [iz_t h]; rfl
  · rw [iz_f h]
noncomputable def mdA (ar : AR) (k : Nat) (v : Int32) (f : Nat) (pl : Int32) : AR := zu (zu ar 9 (fun j => iz (ar (k + 1) j = v) (nI f) (ar 9 j))) 13 (zu (ar 13) f pl)
noncomputable def lrF (g : Nat → Int32) (t : Int32) : Nat → Int32 := fun j => iz (g j = t) (-1) (iz (g j ≤ t) (g j) (g j + (-1)))
def SB (b : Nat) : Prop := kd b = 3 ∧ RO (b + 1) 36 ∧ RO (b + 3) 36 ∧ RO (b + 5) 36 ∧ RO (b + 7) 36 ∧ RO (b + 9) 36 ∧ RO (b + 11) 9 ∧ RO (b + 13) 2
theorem sb_1 : SB 1 := ⟨rfl, ro_2, ro_4, ro_6, ro_8, ro_10, ro_12, ro_14⟩
theorem sb_18 : SB 18 := ⟨rfl, ro_19, ro_21, ro_23, ro_25, ro_27, ro_29, ro_31⟩
theorem sb_33 : SB 33 := ⟨rfl, ro_34, ro_36, ro_38, ro_40, ro_42, ro_44, ro_46⟩
theorem sb_48 : SB 48 := ⟨rfl, ro_49, ro_51, ro_53, ro_55, ro_57, ro_59, ro_61⟩
theorem sb_63 : SB 63 := ⟨rfl, ro_64, ro_66, ro_68, ro_70, ro_72, ro_74, ro_76⟩
theorem sb_78 : SB 78 := ⟨rfl, ro_79, ro_81, ro_83, ro_85, ro_87, ro_89, ro_91⟩
def cpA (d s : Nat) (ar : AR) : AR := zu (zu (zu (zu (zu (zu (zu ar (d + 2) (ar (s + 2))) (d + 4) (ar (s + 4))) (d + 6) (ar (s + 6))) (d + 8) (ar (s + 8))) (d + 10) (ar (s + 10))) (d + 12) (ar (s + 12))) (d + 14) (ar (s + 14))
theorem wl_F {x : CT} {ar fd fd' : AR} {H : Heap} (h : va_P (xD x) vwCl (wl x ar fd) H) (he : ∀ k, sh x k (ar k) (fd' k) = sh x k (ar k) (fd k)) : va_P (xD x) vwCl (wl x ar fd') H := by
  have e : wl x ar fd' = wl x ar fd := List.map_congr_left fun k _ => by rw [he k]
  rw [e]
  exact h

set_option maxHeartbeats 4000000 in
set_option maxRecDepth 100000 in
/-- State.size -/
theorem c_X4_size (l : Launch) (x : CT) (ar fd : AR) (w : Nat) (hw : fd 1 7 = nI w) (hw9 : w ≤ 9) (hw2 : 2 ≤ w) : CP l yX4_size cX4_size 1 (some .int) 0 0 x [.ref (xa x 1)] ar fd (fun r => r = nI (36 / w)) := by
  refine zsP (own := RX4) rfl (by decide +kernel) (Nat.le_of_ble_eq_true rfl) ?_
  intro p e s m below meth c ls E hs hl
  have hx := E.1
  have hb := E.2.1
  have hl : lv_has ls 1 [(0, .ref (xa x 1))] := hl
  refine lv_aload_n hx hb dX4_size_0 rfl (lv_at hl 0 rfl) ?_
  refine zg3 E hs (k := 1) rfl 7 (by decide) rfl q_50 dX4_size_1 ?_
  refine tp (b := nI w) hw ?_
  refine lv_if_le (tgt := 17) hx hb dX4_size_4 (by decide) (fun c_1 => ?_) (fun c_1 => ?_)
  · have c_1 : w ≤ 0 := (nI_leI (a := w) (b := 0) (by omega) (by omega)).mp c_1
    exfalso; omega
  · have c_1 : ¬ (w ≤ 0) := fun h => c_1 ((nI_leI (a := w) (b := 0) (by omega) (by omega)).mpr h)
    refine lv_bipush (v := nI 36) hx hb dX4_size_7 (by decide) ?_
    refine lv_aload_n hx hb dX4_size_9 rfl (lv_at hl 0 rfl) ?_
    refine zg3 E hs (k := 1) rfl 7 (by decide) rfl q_50 dX4_size_10 ?_
    refine tp (b := nI w) hw ?_
    refine lv_idiv hx hb dX4_size_13 (nI_ne0 (by omega) (by omega)) ?_
    refine tp (b := nI (36 / w)) (nI_div (by omega) (by omega)) ?_
    refine lv_goto (tgt := 18) hx hb dX4_size_14 (by decide) ?_
    exact zeP E hs rfl dX4_size_18

set_option maxHeartbeats 4000000 in
set_option maxRecDepth 100000 in
/-- State.left -/
theorem c_X4_left (l : Launch) (x : CT) (ar fd : AR) : CP l yX4_left cX4_left 1 (some .int) 0 0 x [.ref (xa x 1)] ar fd (fun r => r = fd 1 7 - fd 1 8) := by
  refine zsP (own := RX4) rfl (by decide +kernel) (Nat.le_of_ble_eq_true rfl) ?_
  intro p e s m below meth c ls E hs hl
  have hx := E.1
  have hb := E.2.1
  have hl : lv_has ls 1 [(0, .ref (xa x 1))] := hl
  refine lv_aload_n hx hb dX4_left_0 rfl (lv_at hl 0 rfl) ?_
  refine zg3 E hs (k := 1) rfl 7 (by decide) rfl q_50 dX4_left_1 ?_
  refine lv_aload_n hx hb dX4_left_4 rfl (lv_at hl 0 rfl) ?_
  refine zg3 E hs (k := 1) rfl 8 (by decide) rfl q_52 dX4_left_5 ?_
  refine lv_isub hx hb dX4_left_8 ?_
  exact zeP E hs rfl dX4_left_9

set_option maxHeartbeats 4000000 in
set_option maxRecDepth 100000 in
/-- State.isOpen -/
theorem c_X4_isOpen (l : Launch) (x : CT) (ar fd : AR) (i : Nat) (hi : i < 36) : CP l yX4_isOpen cX4_isOpen 2 (some .boolean) 1 21 x [.ref (xa x 1), .int (nI i)] ar fd (fun r => r = bz (ar 9 i = -1)) := by
  refine zsP (own := RX4) rfl (by decide +kernel) (Nat.le_of_ble_eq_true rfl) ?_
  intro p e s m below meth c ls E hs hl
  have hx := E.1
  have hb := E.2.1
  have hl : lv_has ls 2 [(0, .ref (xa x 1)), (1, .int (nI i))] := hl
  refine lv_aload_n hx hb dX4_isOpen_0 rfl (lv_at hl 0 rfl) ?_
  refine zg3 E hs (k := 1) rfl 3 (by decide) rfl q_42 dX4_isOpen_1 ?_
  refine lv_iload_n hx hb dX4_isOpen_4 rfl (lv_at hl 1 rfl) ?_
  refine zVP E hs lkX4_59 [] (c_X3_at l x 8 36 ro_8 ar fd (nI i)) (by decide) (sh2 rfl) rfl ⟨Nat.le_of_ble_eq_true rfl, Nat.le_of_ble_eq_true rfl⟩ rfl hl.1 (Nat.le_of_ble_eq_true rfl) rfl dX4_isOpen_5 (fun r_1 H locs hp_2 hs => ?_)
  subst hp_2
  refine tp (b := ar 9 i) (rowAt_n (by omega) (by decide)) ?_
  refine lv_iconst (v := (-1)) hx hb dX4_isOpen_8 (by decide) ?_
  refine lv_icmp_ne (tgt := 16) hx hb dX4_isOpen_9 (by decide) (fun c_3 => ?_) (fun c_3 => ?_)
  · refine lv_iconst (v := nI 0) hx hb dX4_isOpen_16 (by decide) ?_
    exact zePn E hs rfl (bz_f c_3).symm dX4_isOpen_17
  · refine lv_iconst (v := nI 1) hx hb dX4_isOpen_12 (by decide) ?_
    refine lv_goto (tgt := 17) hx hb dX4_isOpen_13 (by decide) ?_
    exact zePn E hs rfl (bz_t c_3).symm dX4_isOpen_17

set_option maxHeartbeats 4000000 in
set_option maxRecDepth 100000 in
/-- State.isPart -/
theorem c_X4_isPart (l : Launch) (x : CT) (ar fd : AR) (v : Int32) : CP l yX4_isPart cX4_isPart 2 (some .boolean) 1 20 x [.ref (xa x 1), .int v] ar fd (fun r => r = bz (¬ v < 0 ∧ ¬ fd 1 7 - fd 1 8 ≤ v)) := by
  refine zsP (own := RX4) rfl (by decide +kernel) (Nat.le_of_ble_eq_true rfl) ?_
  intro p e s m below meth c ls E hs hl
  have hx := E.1
  have hb := E.2.1
  have hl : lv_has ls 2 [(0, .ref (xa x 1)), (1, .int v)] := hl
  refine lv_iload_n hx hb dX4_isPart_0 rfl (lv_at hl 1 rfl) ?_
  refine lv_if_lt (tgt := 16) hx hb dX4_isPart_1 (by decide) (fun c_1 => ?_) (fun c_1 => ?_)
  · refine lv_iconst (v := nI 0) hx hb dX4_isPart_16 (by decide) ?_
    exact zePn E hs rfl (bz_f (fun h => h.1 c_1)).symm dX4_isPart_17
  · refine lv_iload_n hx hb dX4_isPart_4 rfl (lv_at hl 1 rfl) ?_
    refine lv_aload_n hx hb dX4_isPart_5 rfl (lv_at hl 0 rfl) ?_
    refine zVP E hs lkX4_63 [.int v] (c_X4_left l x ar fd) (by decide) (sh3 rfl) rfl ⟨Nat.le_of_ble_eq_true rfl, Nat.le_of_ble_eq_true rfl⟩ rfl hl.1 (Nat.le_of_ble_eq_true rfl) rfl dX4_isPart_6 (fun r_2 H locs hp_3 hs => ?_)
    subst hp_3
    refine lv_icmp_ge (tgt := 16) hx hb dX4_isPart_9 (by decide) (fun c_4 => ?_) (fun c_4 => ?_)
    · refine lv_iconst (v := nI 0) hx hb dX4_isPart_16 (by decide) ?_
      exact zePn E hs rfl (bz_f (fun h => h.2 c_4)).symm dX4_isPart_17
    · refine lv_iconst (v := nI 1) hx hb dX4_isPart_12 (by decide) ?_
      refine lv_goto (tgt := 17) hx hb dX4_isPart_13 (by decide) ?_
      exact zePn E hs rfl (bz_t ⟨c_1, c_4⟩).symm dX4_isPart_17

noncomputable def sp_player (fd : AR) : Int32 := iz (fd 1 10 = nI 0) (fd 1 9) (iz (fd 1 10 = nI 1) ((nI 1) - (fd 1 9)) ((-1)))
set_option maxHeartbeats 4000000 in
set_option maxRecDepth 100000 in
/-- State.player -/
theorem c_X4_player (l : Launch) (x : CT) (ar fd : AR) : CP l yX4_player cX4_player 1 (some .int) 0 0 x [.ref (xa x 1)] ar fd (fun r => r = sp_player fd) := by
  refine zsP (own := RX4) rfl (by decide +kernel) (Nat.le_of_ble_eq_true rfl) ?_
  intro p e s m below meth c ls E hs hl
  have hx := E.1
  have hb := E.2.1
  have hl : lv_has ls 1 [(0, .ref (xa x 1))] := hl
  refine lv_aload_n hx hb dX4_player_0 rfl (lv_at hl 0 rfl) ?_
  refine zg3 E hs (k := 1) rfl 10 (by decide) rfl q_55 dX4_player_1 ?_
  by_cases c_1 : fd 1 10 = nI 0
  · refine lv_lookup (off := 28) (tgt := 32) hx hb dX4_player_4 (by decide) (by rw [c_1]; decide) (by decide) ?_
    refine lv_aload_n hx hb dX4_player_32 rfl (lv_at hl 0 rfl) ?_
    refine zg3 E hs (k := 1) rfl 9 (by decide) rfl q_54 dX4_player_33 ?_
    exact zeP E hs (by show _ = sp_player fd; unfold sp_player; rw [iz_t c_1]) dX4_player_36
  by_cases c_2 : fd 1 10 = nI 1
  · refine lv_lookup (off := 33) (tgt := 37) hx hb dX4_player_4 (by decide) (by rw [c_2]; decide) (by decide) ?_
    refine lv_iconst (v := nI 1) hx hb dX4_player_37 (by decide) ?_
    refine lv_aload_n hx hb dX4_player_38 rfl (lv_at hl 0 rfl) ?_
    refine zg3 E hs (k := 1) rfl 9 (by decide) rfl q_54 dX4_player_39 ?_
    refine lv_isub hx hb dX4_player_42 ?_
    exact zeP E hs (by show _ = sp_player fd; unfold sp_player; rw [iz_f c_1, iz_t c_2]) dX4_player_43
  refine lv_lookup (off := 40) (tgt := 44) hx hb dX4_player_4 (by decide) (by show Op.lookupswitch.offset [((0 : Int), (28 : Int)), ((1 : Int), (33 : Int))] 40 _ = _; rw [lv_osw (a := 0) c_1 rfl]; rw [lv_osw (a := 1) c_2 rfl]; rfl) (by decide) ?_
  refine lv_iconst (v := (-1)) hx hb dX4_player_44 (by decide) ?_
  exact zeP E hs (by show _ = sp_player fd; unfold sp_player; rw [iz_f c_1, iz_f c_2]) dX4_player_45

set_option maxHeartbeats 4000000 in
set_option maxRecDepth 100000 in
/-- State.openWithoutPart -/
theorem c_X4_openWithoutPart (l : Launch) (x : CT) (ar fd : AR) : CP l yX4_openWithoutPart cX4_openWithoutPart 3 (some .int) 2 42 x [.ref (xa x 1)] ar fd (fun r => r = nI (ct (fun c => ar 9 c = -1 ∧ ar 7 c = -1) 36)) := by
  refine zsP (own := RX4) rfl (by decide +kernel) (Nat.le_of_ble_eq_true rfl) ?_
  intro p e s m below meth c ls E hs hl
  have hx := E.1
  have hb := E.2.1
  have hl : lv_has ls 3 [(0, .ref (xa x 1))] := hl
  refine lv_iconst (v := nI 0) hx hb dX4_openWithoutPart_0 (by decide) ?_
  refine lv_istore_n (lv' := [(1, .int (nI 0)), (0, .ref (xa x 1))]) hx hb dX4_openWithoutPart_1 rfl hl (by decide) rfl (fun ls hl => ?_)
  refine lv_iconst (v := nI 0) hx hb dX4_openWithoutPart_2 (by decide) ?_
  refine lv_istore_n (lv' := [(2, .int (nI 0)), (1, .int (nI 0)), (0, .ref (xa x 1))]) hx hb dX4_openWithoutPart_3 rfl hl (by decide) rfl (fun ls hl => ?_)
  have L_1 : ∀ (mm : Nat) (i : Nat), (36 - i) < mm → (i ≤ 36) → ∀ (H : Heap) (locs : List Loc) (ls : Array Slot), ST x (AA x) s.heap ar fd H locs → lv_has ls 3 [(0, .ref (xa x 1)), (1, .int (nI (ct (fun c => ar 9 c = -1 ∧ ar 7 c = -1) i))), (2, .int (nI i))] → W p l e (rmZ 2 42) s m ([.ref (xa x 1)] : List Value).toArray below meth c H locs 0 0 (QP below x [.ref (xa x 1)] ar fd s (fun r => r = nI (ct (fun c => ar 9 c = -1 ∧ ar 7 c = -1) 36))) (F0 m 4 ls []) := by
    intro mm
    induction mm with
    | zero => intro i hmu; exact absurd hmu (Nat.not_lt_zero _)
    | succ mm ih_1 =>
      intro i hmu hi H locs ls hs hl
      refine lv_iload_n hx hb dX4_openWithoutPart_4 rfl (lv_at hl 2 rfl) ?_
      refine lv_bipush (v := nI 36) hx hb dX4_openWithoutPart_5 (by decide) ?_
      refine lv_icmp_ge (tgt := 39) hx hb dX4_openWithoutPart_7 (by decide) (fun c_2 => ?_) (fun c_2 => ?_)
      · have c_2 : 36 ≤ i := (nI_leI (a := 36) (b := i) (by omega) (by omega)).mp c_2
        refine lv_iload_n hx hb dX4_openWithoutPart_39 rfl (lv_at hl 1 rfl) ?_
        exact zeP E hs (by rw [show i = 36 by omega]) dX4_openWithoutPart_40
      · have c_2 : ¬ (36 ≤ i) := fun h => c_2 ((nI_leI (a := 36) (b := i) (by omega) (by omega)).mpr h)
        refine lv_aload_n hx hb dX4_openWithoutPart_10 rfl (lv_at hl 0 rfl) ?_
        refine lv_iload_n hx hb dX4_openWithoutPart_11 rfl (lv_at hl 2 rfl) ?_
        refine zVP E hs lkX4_67 [] (c_X4_isOpen l x ar fd i (by omega)) (by decide) (sh3 rfl) rfl ⟨Nat.le_of_ble_eq_true rfl, Nat.le_of_ble_eq_true rfl⟩ rfl hl.1 (Nat.le_of_ble_eq_true rfl) rfl dX4_openWithoutPart_12 (fun r_3 H locs hp_4 hs => ?_)
        subst hp_4
        refine lv_if_eq (tgt := 33) hx hb dX4_openWithoutPart_15 (by decide) (fun c_5 => ?_) (fun c_5 => ?_)
        · have c_5 : ¬ (ar 9 i = -1) := bz_0 c_5
          refine lv_iinc (v := nI (i + 1)) (lv' := [(2, .int (nI (i + 1))), (0, .ref (xa x 1)), (1, .int (nI (ct (fun c => ar 9 c = -1 ∧ ar 7 c = -1) i)))]) hx hb dX4_openWithoutPart_33 hl (k := 2) rfl (nI_inc _) (by decide) rfl (fun ls hl => ?_)
          refine lv_goto (tgt := 4) hx hb dX4_openWithoutPart_36 (by decide) ?_
          exact ih_1 (i + 1) (by omega) (by omega) _ _ _ hs (lvr (lv_at hl 1 rfl) (lvc (lv_at hl 2 rfl) (by rw [ct_f (P := fun c => ar 9 c = -1 ∧ ar 7 c = -1) (fun h => c_5 h.1)]) (lvr (lv_at hl 0 rfl) (lvn hl))))
        · have c_5 : ar 9 i = -1 := bz_1 c_5
          refine lv_aload_n hx hb dX4_openWithoutPart_18 rfl (lv_at hl 0 rfl) ?_
          refine zg3 E hs (k := 1) rfl 2 (by decide) rfl q_39 dX4_openWithoutPart_19 ?_
          refine lv_iload_n hx hb dX4_openWithoutPart_22 rfl (lv_at hl 2 rfl) ?_
          refine zVP E hs lkX4_59 [] (c_X3_at l x 6 36 ro_6 ar fd (nI i)) (by decide) (sh2 rfl) rfl ⟨Nat.le_of_ble_eq_true rfl, Nat.le_of_ble_eq_true rfl⟩ rfl hl.1 (Nat.le_of_ble_eq_true rfl) rfl dX4_openWithoutPart_23 (fun r_6 H locs hp_7 hs => ?_)
          subst hp_7
          refine tp (b := ar 7 i) (rowAt_n (by omega) (by decide)) ?_
          refine lv_iconst (v := (-1)) hx hb dX4_openWithoutPart_26 (by decide) ?_
          refine lv_icmp_ne (tgt := 33) hx hb dX4_openWithoutPart_27 (by decide) (fun c_8 => ?_) (fun c_8 => ?_)
          · refine lv_iinc (v := nI (i + 1)) (lv' := [(2, .int (nI (i + 1))), (0, .ref (xa x 1)), (1, .int (nI (ct (fun c => ar 9 c = -1 ∧ ar 7 c = -1) i)))]) hx hb dX4_openWithoutPart_33 hl (k := 2) rfl (nI_inc _) (by decide) rfl (fun ls hl => ?_)
            refine lv_goto (tgt := 4) hx hb dX4_openWithoutPart_36 (by decide) ?_
            exact ih_1 (i + 1) (by omega) (by omega) _ _ _ hs (lvr (lv_at hl 1 rfl) (lvc (lv_at hl 2 rfl) (by rw [ct_f (P := fun c => ar 9 c = -1 ∧ ar 7 c = -1) (fun h => c_8 h.2)]) (lvr (lv_at hl 0 rfl) (lvn hl))))
          · refine lv_iinc (v := nI (ct (fun c => ar 9 c = -1 ∧ ar 7 c = -1) i + 1)) (lv' := [(1, .int (nI (ct (fun c => ar 9 c = -1 ∧ ar 7 c = -1) i + 1))), (0, .ref (xa x 1)), (2, .int (nI i))]) hx hb dX4_openWithoutPart_30 hl (k := 1) rfl (nI_inc _) (by decide) rfl (fun ls hl => ?_)
            refine lv_iinc (v := nI (i + 1)) (lv' := [(2, .int (nI (i + 1))), (1, .int (nI (ct (fun c => ar 9 c = -1 ∧ ar 7 c = -1) i + 1))), (0, .ref (xa x 1))]) hx hb dX4_openWithoutPart_33 hl (k := 2) rfl (nI_inc _) (by decide) rfl (fun ls hl => ?_)
            refine lv_goto (tgt := 4) hx hb dX4_openWithoutPart_36 (by decide) ?_
            exact ih_1 (i + 1) (by omega) (by omega) _ _ _ hs (lvr (lv_at hl 2 rfl) (lvc (lv_at hl 1 rfl) (by rw [ct_t (P := fun c => ar 9 c = -1 ∧ ar 7 c = -1) ⟨c_5, c_8⟩]) (lvr (lv_at hl 0 rfl) (lvn hl))))
  exact L_1 (_ + 1) 0 (Nat.lt_succ_self _) (by omega) _ _ _ hs (lvr (lv_at hl 2 rfl) (lvr (lv_at hl 1 rfl) (lvr (lv_at hl 0 rfl) (lvn hl))))

set_option maxHeartbeats 4000000 in
set_option maxRecDepth 100000 in
/-- State.votesOf -/
theorem c_X4_votesOf (l : Launch) (x : CT) (ar fd : AR) (sd : Int32) : CR l yX4_votesOf cX4_votesOf 2 (some (.object "FrozenDistricts$Row")) 0 0 x [.ref (xa x 1), .int sd] ar fd (fun a => a = xa x (vk sd)) := by
  refine zsR (own := RX4) rfl (by decide +kernel) (Nat.le_of_ble_eq_true rfl) ?_
  intro p e s m below meth c ls E hs hl
  have hx := E.1
  have hb := E.2.1
  have hl : lv_has ls 2 [(0, .ref (xa x 1)), (1, .int sd)] := hl
  refine lv_iload_n hx hb dX4_votesOf_0 rfl (lv_at hl 1 rfl) ?_
  refine lv_if_ne (tgt := 11) hx hb dX4_votesOf_1 (by decide) (fun c_1 => ?_) (fun c_1 => ?_)
  · refine lv_aload_n hx hb dX4_votesOf_11 rfl (lv_at hl 0 rfl) ?_
    refine zg3 E hs (k := 1) rfl 1 (by decide) rfl q_37 dX4_votesOf_12 ?_
    exact zeR E hs (by unfold vk; rw [iz_f c_1]) dX4_votesOf_15
  · refine lv_aload_n hx hb dX4_votesOf_4 rfl (lv_at hl 0 rfl) ?_
    refine zg3 E hs (k := 1) rfl 0 (by decide) rfl q_35 dX4_votesOf_5 ?_
    refine lv_goto (tgt := 15) hx hb dX4_votesOf_8 (by decide) ?_
    exact zeR E hs (by unfold vk; rw [iz_t c_1]) dX4_votesOf_15

set_option maxHeartbeats 4000000 in
set_option maxRecDepth 100000 in
/-- State.margin -/
theorem c_X4_margin (l : Launch) (x : CT) (k : Nat) (hr : RO k 36) (ar fd : AR) (v sd : Int32) : CP l yX4_margin cX4_margin 4 (some .int) 2 45 x [.ref (xa x 1), .ref (xa x k), .int v, .int sd] ar fd (fun r => r = mg ar k v sd) := by
  refine zsP (own := RX4) rfl (by decide +kernel) (Nat.le_of_ble_eq_true rfl) ?_
  intro p e s m below meth c ls E hs hl
  have hx := E.1
  have hb := E.2.1
  have hl : lv_has ls 4 [(0, .ref (xa x 1)), (1, .ref (xa x k)), (2, .int v), (3, .int sd)] := hl
  refine lv_aload_n hx hb dX4_margin_0 rfl (lv_at hl 1 rfl) ?_
  refine lv_iload_n hx hb dX4_margin_1 rfl (lv_at hl 2 rfl) ?_
  refine lv_aload_n hx hb dX4_margin_2 rfl (lv_at hl 0 rfl) ?_
  refine lv_iload_n hx hb dX4_margin_3 rfl (lv_at hl 3 rfl) ?_
  refine zVR E hs lkX4_81 [.int v, .ref (xa x k)] (c_X4_votesOf l x ar fd sd) (by decide) (sh3 rfl) rfl ⟨Nat.le_of_ble_eq_true rfl, Nat.le_of_ble_eq_true rfl⟩ rfl hl.1 (Nat.le_of_ble_eq_true rfl) rfl dX4_margin_4 (fun r_1 H locs hp_2 hs => ?_)
  subst hp_2
  refine zSP E hs lkX4_85 [] (c_X0_votes l x k hr (vk sd) (ro_vk sd) ar fd v) ⟨Nat.le_of_ble_eq_true rfl, Nat.le_of_ble_eq_true rfl⟩ rfl hl.1 (Nat.le_of_ble_eq_true rfl) rfl dX4_margin_7 (fun r_3 H locs hp_4 hs => ?_)
  subst hp_4
  refine lv_aload_n hx hb dX4_margin_10 rfl (lv_at hl 1 rfl) ?_
  refine lv_iload_n hx hb dX4_margin_11 rfl (lv_at hl 2 rfl) ?_
  refine lv_aload_n hx hb dX4_margin_12 rfl (lv_at hl 0 rfl) ?_
  refine lv_iconst (v := nI 1) hx hb dX4_margin_13 (by decide) ?_
  refine lv_iload_n hx hb dX4_margin_14 rfl (lv_at hl 3 rfl) ?_
  refine lv_isub hx hb dX4_margin_15 ?_
  refine zVR E hs lkX4_81 [.int v, .ref (xa x k), .int (vtI (ar (k + 1)) v (ar (vk sd + 1)))] (c_X4_votesOf l x ar fd ((nI 1) - sd)) (by decide) (sh3 rfl) rfl ⟨Nat.le_of_ble_eq_true rfl, Nat.le_of_ble_eq_true rfl⟩ rfl hl.1 (Nat.le_of_ble_eq_true rfl) rfl dX4_margin_16 (fun r_5 H locs hp_6 hs => ?_)
  subst hp_6
  refine zSP E hs lkX4_85 [.int (vtI (ar (k + 1)) v (ar (vk sd + 1)))] (c_X0_votes l x k hr (vk ((nI 1) - sd)) (ro_vk ((nI 1) - sd)) ar fd v) ⟨Nat.le_of_ble_eq_true rfl, Nat.le_of_ble_eq_true rfl⟩ rfl hl.1 (Nat.le_of_ble_eq_true rfl) rfl dX4_margin_19 (fun r_7 H locs hp_8 hs => ?_)
  subst hp_8
  refine lv_isub hx hb dX4_margin_22 ?_
  exact zeP E hs rfl dX4_margin_23

set_option maxHeartbeats 4000000 in
set_option maxRecDepth 100000 in
/-- State.winner -/
theorem c_X4_winner (l : Launch) (x : CT) (k : Nat) (hr : RO k 36) (ar fd : AR) (v : Int32) : CP l yX4_winner cX4_winner 4 (some .int) 3 68 x [.ref (xa x 1), .ref (xa x k), .int v] ar fd (fun r => r = wnI (mg ar k v (nI 0))) := by
  refine zsP (own := RX4) rfl (by decide +kernel) (Nat.le_of_ble_eq_true rfl) ?_
  intro p e s m below meth c ls E hs hl
  have hx := E.1
  have hb := E.2.1
  have hl : lv_has ls 4 [(0, .ref (xa x 1)), (1, .ref (xa x k)), (2, .int v)] := hl
  refine lv_aload_n hx hb dX4_winner_0 rfl (lv_at hl 0 rfl) ?_
  refine lv_aload_n hx hb dX4_winner_1 rfl (lv_at hl 1 rfl) ?_
  refine lv_iload_n hx hb dX4_winner_2 rfl (lv_at hl 2 rfl) ?_
  refine lv_iconst (v := nI 0) hx hb dX4_winner_3 (by decide) ?_
  refine zVP E hs lkX4_91 [] (c_X4_margin l x k hr ar fd v (nI 0)) (by decide) (sh3 rfl) rfl ⟨Nat.le_of_ble_eq_true rfl, Nat.le_of_ble_eq_true rfl⟩ rfl hl.1 (Nat.le_of_ble_eq_true rfl) rfl dX4_winner_4 (fun r_1 H locs hp_2 hs => ?_)
  subst hp_2
  refine lv_istore_n (lv' := [(3, .int (mg ar k v (nI 0))), (0, .ref (xa x 1)), (1, .ref (xa x k)), (2, .int v)]) hx hb dX4_winner_7 rfl hl (by decide) rfl (fun ls hl => ?_)
  refine lv_iload_n hx hb dX4_winner_8 rfl (lv_at hl 0 rfl) ?_
  refine lv_if_ne (tgt := 14) hx hb dX4_winner_9 (by decide) (fun c_3 => ?_) (fun c_3 => ?_)
  · refine lv_iload_n hx hb dX4_winner_14 rfl (lv_at hl 0 rfl) ?_
    refine lv_if_le (tgt := 22) hx hb dX4_winner_15 (by decide) (fun c_4 => ?_) (fun c_4 => ?_)
    · refine lv_iconst (v := nI 1) hx hb dX4_winner_22 (by decide) ?_
      exact zeP E hs (by unfold wnI; rw [iz_f c_3, iz_t c_4]) dX4_winner_23
    · refine lv_iconst (v := nI 0) hx hb dX4_winner_18 (by decide) ?_
      refine lv_goto (tgt := 23) hx hb dX4_winner_19 (by decide) ?_
      exact zeP E hs (by unfold wnI; rw [iz_f c_3, iz_f c_4]) dX4_winner_23
  · refine lv_iconst (v := nI 2) hx hb dX4_winner_12 (by decide) ?_
    exact zeP E hs (by unfold wnI; rw [iz_t c_3]) dX4_winner_13

set_option maxHeartbeats 4000000 in
set_option maxRecDepth 100000 in
/-- State.won -/
theorem c_X4_won (l : Launch) (x : CT) (k : Nat) (hr : RO k 36) (ar fd : AR) (n : Nat) (hn : n ≤ 36) (win : Int32) : CP l yX4_won cX4_won 6 (some .int) 4 91 x [.ref (xa x 1), .ref (xa x k), .int (nI n), .int win] ar fd (fun r => r = nI (ct (fun a => wnI (mg ar k (nI a) (nI 0)) = win) n)) := by
  refine zsP (own := RX4) rfl (by decide +kernel) (Nat.le_of_ble_eq_true rfl) ?_
  intro p e s m below meth c ls E hs hl
  have hx := E.1
  have hb := E.2.1
  have hl : lv_has ls 6 [(0, .ref (xa x 1)), (1, .ref (xa x k)), (2, .int (nI n)), (3, .int win)] := hl
  refine lv_iconst (v := nI 0) hx hb dX4_won_0 (by decide) ?_
  refine lv_istore (lv' := [(4, .int (nI 0)), (0, .ref (xa x 1)), (1, .ref (xa x k)), (2, .int (nI n)), (3, .int win)]) hx hb dX4_won_1 hl (by decide) rfl (fun ls hl => ?_)
  refine lv_iconst (v := nI 0) hx hb dX4_won_3 (by decide) ?_
  refine lv_istore (lv' := [(5, .int (nI 0)), (4, .int (nI 0)), (0, .ref (xa x 1)), (1, .ref (xa x k)), (2, .int (nI n)), (3, .int win)]) hx hb dX4_won_4 hl (by decide) rfl (fun ls hl => ?_)
  have L_1 : ∀ (mm : Nat) (i : Nat), (n - i) < mm → (i ≤ n) → ∀ (H : Heap) (locs : List Loc) (ls : Array Slot), ST x (AA x) s.heap ar fd H locs → lv_has ls 6 [(0, .ref (xa x 1)), (1, .ref (xa x k)), (2, .int (nI n)), (3, .int win), (4, .int (nI (ct (fun a => wnI (mg ar k (nI a) (nI 0)) = win) i))), (5, .int (nI i))] → W p l e (rmZ 4 91) s m ([.ref (xa x 1), .ref (xa x k), .int (nI n), .int win] : List Value).toArray below meth c H locs 0 0 (QP below x [.ref (xa x 1), .ref (xa x k), .int (nI n), .int win] ar fd s (fun r => r = nI (ct (fun a => wnI (mg ar k (nI a) (nI 0)) = win) n))) (F0 m 6 ls []) := by
    intro mm
    induction mm with
    | zero => intro i hmu; exact absurd hmu (Nat.not_lt_zero _)
    | succ mm ih_1 =>
      intro i hmu hi H locs ls hs hl
      refine lv_iload hx hb dX4_won_6 (lv_at hl 5 rfl) ?_
      refine lv_iload_n hx hb dX4_won_8 rfl (lv_at hl 2 rfl) ?_
      refine lv_icmp_ge (tgt := 32) hx hb dX4_won_9 (by decide) (fun c_2 => ?_) (fun c_2 => ?_)
      · have c_2 : n ≤ i := (nI_leI (a := n) (b := i) (by omega) (by omega)).mp c_2
        refine lv_iload hx hb dX4_won_32 (lv_at hl 4 rfl) ?_
        exact zeP E hs (by rw [show n = i by omega]) dX4_won_34
      · have c_2 : ¬ (n ≤ i) := fun h => c_2 ((nI_leI (a := n) (b := i) (by omega) (by omega)).mpr h)
        refine lv_aload_n hx hb dX4_won_12 rfl (lv_at hl 0 rfl) ?_
        refine lv_aload_n hx hb dX4_won_13 rfl (lv_at hl 1 rfl) ?_
        refine lv_iload hx hb dX4_won_14 (lv_at hl 5 rfl) ?_
        refine zVP E hs lkX4_95 [] (c_X4_winner l x k hr ar fd (nI i)) (by decide) (sh3 rfl) rfl ⟨Nat.le_of_ble_eq_true rfl, Nat.le_of_ble_eq_true rfl⟩ rfl hl.1 (Nat.le_of_ble_eq_true rfl) rfl dX4_won_16 (fun r_3 H locs hp_4 hs => ?_)
        subst hp_4
        refine lv_iload_n hx hb dX4_won_19 rfl (lv_at hl 3 rfl) ?_
        refine lv_icmp_ne (tgt := 26) hx hb dX4_won_20 (by decide) (fun c_5 => ?_) (fun c_5 => ?_)
        · refine lv_iinc (v := nI (i + 1)) (lv' := [(5, .int (nI (i + 1))), (0, .ref (xa x 1)), (1, .ref (xa x k)), (2, .int (nI n)), (3, .int win), (4, .int (nI (ct (fun a => wnI (mg ar k (nI a) (nI 0)) = win) i)))]) hx hb dX4_won_26 hl (k := 5) rfl (nI_inc _) (by decide) rfl (fun ls hl => ?_)
          refine lv_goto (tgt := 6) hx hb dX4_won_29 (by decide) ?_
          exact ih_1 (i + 1) (by omega) (by omega) _ _ _ hs (lvr (lv_at hl 1 rfl) (lvr (lv_at hl 2 rfl) (lvr (lv_at hl 3 rfl) (lvr (lv_at hl 4 rfl) (lvc (lv_at hl 5 rfl) (by rw [ct_f (P := fun a => wnI (mg ar k (nI a) (nI 0)) = win) c_5]) (lvr (lv_at hl 0 rfl) (lvn hl)))))))
        · refine lv_iinc (v := nI (ct (fun a => wnI (mg ar k (nI a) (nI 0)) = win) i + 1)) (lv' := [(4, .int (nI (ct (fun a => wnI (mg ar k (nI a) (nI 0)) = win) i + 1))), (0, .ref (xa x 1)), (1, .ref (xa x k)), (2, .int (nI n)), (3, .int win), (5, .int (nI i))]) hx hb dX4_won_23 hl (k := 4) rfl (nI_inc _) (by decide) rfl (fun ls hl => ?_)
          refine lv_iinc (v := nI (i + 1)) (lv' := [(5, .int (nI (i + 1))), (4, .int (nI (ct (fun a => wnI (mg ar k (nI a) (nI 0)) = win) i + 1))), (0, .ref (xa x 1)), (1, .ref (xa x k)), (2, .int (nI n)), (3, .int win)]) hx hb dX4_won_26 hl (k := 5) rfl (nI_inc _) (by decide) rfl (fun ls hl => ?_)
          refine lv_goto (tgt := 6) hx hb dX4_won_29 (by decide) ?_
          exact ih_1 (i + 1) (by omega) (by omega) _ _ _ hs (lvr (lv_at hl 2 rfl) (lvr (lv_at hl 3 rfl) (lvr (lv_at hl 4 rfl) (lvr (lv_at hl 5 rfl) (lvc (lv_at hl 1 rfl) (by rw [ct_t (P := fun a => wnI (mg ar k (nI a) (nI 0)) = win) c_5]) (lvr (lv_at hl 0 rfl) (lvn hl)))))))
  exact L_1 (_ + 1) 0 (Nat.lt_succ_self _) (by omega) _ _ _ hs (lvr (lv_at hl 2 rfl) (lvr (lv_at hl 3 rfl) (lvr (lv_at hl 4 rfl) (lvr (lv_at hl 5 rfl) (lvr (lv_at hl 1 rfl) (lvr (lv_at hl 0 rfl) (lvn hl)))))))

set_option maxHeartbeats 4000000 in
set_option maxRecDepth 100000 in
/-- State.seats -/
theorem c_X4_seats (l : Launch) (x : CT) (ar fd : AR) (f : Nat) (hf : fd 1 8 = nI f) (hf9 : f ≤ 9) (win : Int32) : CP l yX4_seats cX4_seats 2 (some .int) 5 116 x [.ref (xa x 1), .int win] ar fd (fun r => r = nI (ct (fun a => wnI (mg ar 8 (nI a) (nI 0)) = win) f)) := by
  refine zsP (own := RX4) rfl (by decide +kernel) (Nat.le_of_ble_eq_true rfl) ?_
  intro p e s m below meth c ls E hs hl
  have hx := E.1
  have hb := E.2.1
  have hl : lv_has ls 2 [(0, .ref (xa x 1)), (1, .int win)] := hl
  refine lv_aload_n hx hb dX4_seats_0 rfl (lv_at hl 0 rfl) ?_
  refine lv_aload_n hx hb dX4_seats_1 rfl (lv_at hl 0 rfl) ?_
  refine zg3 E hs (k := 1) rfl 3 (by decide) rfl q_42 dX4_seats_2 ?_
  refine lv_aload_n hx hb dX4_seats_5 rfl (lv_at hl 0 rfl) ?_
  refine zg3 E hs (k := 1) rfl 8 (by decide) rfl q_52 dX4_seats_6 ?_
  refine tp (b := nI f) hf ?_
  refine lv_iload_n hx hb dX4_seats_9 rfl (lv_at hl 1 rfl) ?_
  refine zVP E hs lkX4_99 [] (c_X4_won l x 8 ro_8 ar fd f (by omega) win) (by decide) (sh3 rfl) rfl ⟨Nat.le_of_ble_eq_true rfl, Nat.le_of_ble_eq_true rfl⟩ rfl hl.1 (Nat.le_of_ble_eq_true rfl) rfl dX4_seats_10 (fun r_1 H locs hp_2 hs => ?_)
  subst hp_2
  exact zeP E hs rfl dX4_seats_13

set_option maxHeartbeats 4000000 in
set_option maxRecDepth 100000 in
/-- State.wasted -/
theorem c_X4_wasted (l : Launch) (x : CT) (ar fd : AR) (v sd : Int32) : CP l yX4_wasted cX4_wasted 5 (some .int) 2 45 x [.ref (xa x 1), .int v, .int sd] ar fd (fun r => r = wst ar v sd) := by
  refine zsP (own := RX4) rfl (by decide +kernel) (Nat.le_of_ble_eq_true rfl) ?_
  intro p e s m below meth c ls E hs hl
  have hx := E.1
  have hb := E.2.1
  have hl : lv_has ls 5 [(0, .ref (xa x 1)), (1, .int v), (2, .int sd)] := hl
  refine lv_aload_n hx hb dX4_wasted_0 rfl (lv_at hl 0 rfl) ?_
  refine zg3 E hs (k := 1) rfl 3 (by decide) rfl q_42 dX4_wasted_1 ?_
  refine lv_iload_n hx hb dX4_wasted_4 rfl (lv_at hl 1 rfl) ?_
  refine lv_aload_n hx hb dX4_wasted_5 rfl (lv_at hl 0 rfl) ?_
  refine lv_iload_n hx hb dX4_wasted_6 rfl (lv_at hl 2 rfl) ?_
  refine zVR E hs lkX4_81 [.int v, .ref (xa x 8)] (c_X4_votesOf l x ar fd sd) (by decide) (sh3 rfl) rfl ⟨Nat.le_of_ble_eq_true rfl, Nat.le_of_ble_eq_true rfl⟩ rfl hl.1 (Nat.le_of_ble_eq_true rfl) rfl dX4_wasted_7 (fun r_1 H locs hp_2 hs => ?_)
  subst hp_2
  refine zSP E hs lkX4_85 [] (c_X0_votes l x 8 ro_8 (vk sd) (ro_vk sd) ar fd v) ⟨Nat.le_of_ble_eq_true rfl, Nat.le_of_ble_eq_true rfl⟩ rfl hl.1 (Nat.le_of_ble_eq_true rfl) rfl dX4_wasted_10 (fun r_3 H locs hp_4 hs => ?_)
  subst hp_4
  refine lv_istore_n (lv' := [(3, .int (vtI (ar 9) v (ar (vk sd + 1)))), (0, .ref (xa x 1)), (1, .int v), (2, .int sd)]) hx hb dX4_wasted_13 rfl hl (by decide) rfl (fun ls hl => ?_)
  refine lv_aload_n hx hb dX4_wasted_14 rfl (lv_at hl 1 rfl) ?_
  refine zg3 E hs (k := 1) rfl 3 (by decide) rfl q_42 dX4_wasted_15 ?_
  refine lv_iload_n hx hb dX4_wasted_18 rfl (lv_at hl 2 rfl) ?_
  refine lv_aload_n hx hb dX4_wasted_19 rfl (lv_at hl 1 rfl) ?_
  refine lv_iconst (v := nI 1) hx hb dX4_wasted_20 (by decide) ?_
  refine lv_iload_n hx hb dX4_wasted_21 rfl (lv_at hl 3 rfl) ?_
  refine lv_isub hx hb dX4_wasted_22 ?_
  refine zVR E hs lkX4_81 [.int v, .ref (xa x 8)] (c_X4_votesOf l x ar fd ((nI 1) - sd)) (by decide) (sh3 rfl) rfl ⟨Nat.le_of_ble_eq_true rfl, Nat.le_of_ble_eq_true rfl⟩ rfl hl.1 (Nat.le_of_ble_eq_true rfl) rfl dX4_wasted_23 (fun r_5 H locs hp_6 hs => ?_)
  subst hp_6
  refine zSP E hs lkX4_85 [] (c_X0_votes l x 8 ro_8 (vk ((nI 1) - sd)) (ro_vk ((nI 1) - sd)) ar fd v) ⟨Nat.le_of_ble_eq_true rfl, Nat.le_of_ble_eq_true rfl⟩ rfl hl.1 (Nat.le_of_ble_eq_true rfl) rfl dX4_wasted_26 (fun r_7 H locs hp_8 hs => ?_)
  subst hp_8
  refine lv_istore (lv' := [(4, .int (vtI (ar 9) v (ar (vk ((nI 1) - sd) + 1)))), (3, .int (vtI (ar 9) v (ar (vk sd + 1)))), (0, .ref (xa x 1)), (1, .int v), (2, .int sd)]) hx hb dX4_wasted_29 hl (by decide) rfl (fun ls hl => ?_)
  refine lv_iload_n hx hb dX4_wasted_31 rfl (lv_at hl 1 rfl) ?_
  refine lv_iload hx hb dX4_wasted_32 (lv_at hl 0 rfl) ?_
  refine lv_icmp_le (tgt := 46) hx hb dX4_wasted_34 (by decide) (fun c_9 => ?_) (fun c_9 => ?_)
  · refine lv_iload_n hx hb dX4_wasted_46 rfl (lv_at hl 1 rfl) ?_
    exact zeP E hs (by unfold wst wsI; rw [iz_t c_9]) dX4_wasted_47
  · refine lv_iload_n hx hb dX4_wasted_37 rfl (lv_at hl 1 rfl) ?_
    refine lv_iload hx hb dX4_wasted_38 (lv_at hl 0 rfl) ?_
    refine lv_iconst (v := nI 1) hx hb dX4_wasted_40 (by decide) ?_
    refine lv_iadd hx hb dX4_wasted_41 ?_
    refine lv_isub hx hb dX4_wasted_42 ?_
    refine lv_goto (tgt := 47) hx hb dX4_wasted_43 (by decide) ?_
    exact zeP E hs (by unfold wst wsI; rw [iz_f c_9]) dX4_wasted_47

set_option maxHeartbeats 4000000 in
set_option maxRecDepth 100000 in
/-- State.wastedInAll -/
theorem c_X4_wastedInAll (l : Launch) (x : CT) (ar fd : AR) (f : Nat) (hf : fd 1 8 = nI f) (hf9 : f ≤ 9) (sd : Int32) : CP l yX4_wastedInAll cX4_wastedInAll 4 (some .int) 3 69 x [.ref (xa x 1), .int sd] ar fd (fun r => r = smI (fun d => wst ar (nI d) sd) f) := by
  refine zsP (own := RX4) rfl (by decide +kernel) (Nat.le_of_ble_eq_true rfl) ?_
  intro p e s m below meth c ls E hs hl
  have hx := E.1
  have hb := E.2.1
  have hl : lv_has ls 4 [(0, .ref (xa x 1)), (1, .int sd)] := hl
  refine lv_iconst (v := nI 0) hx hb dX4_wastedInAll_0 (by decide) ?_
  refine lv_istore_n (lv' := [(2, .int (nI 0)), (0, .ref (xa x 1)), (1, .int sd)]) hx hb dX4_wastedInAll_1 rfl hl (by decide) rfl (fun ls hl => ?_)
  refine lv_iconst (v := nI 0) hx hb dX4_wastedInAll_2 (by decide) ?_
  refine lv_istore_n (lv' := [(3, .int (nI 0)), (2, .int (nI 0)), (0, .ref (xa x 1)), (1, .int sd)]) hx hb dX4_wastedInAll_3 rfl hl (by decide) rfl (fun ls hl => ?_)
  have L_1 : ∀ (mm : Nat) (i : Nat), (f - i) < mm → (i ≤ f) → ∀ (H : Heap) (locs : List Loc) (ls : Array Slot), ST x (AA x) s.heap ar fd H locs → lv_has ls 4 [(0, .ref (xa x 1)), (1, .int sd), (2, .int (smI (fun d => wst ar (nI d) sd) i)), (3, .int (nI i))] → W p l e (rmZ 3 69) s m ([.ref (xa x 1), .int sd] : List Value).toArray below meth c H locs 0 0 (QP below x [.ref (xa x 1), .int sd] ar fd s (fun r => r = smI (fun d => wst ar (nI d) sd) f)) (F0 m 4 ls []) := by
    intro mm
    induction mm with
    | zero => intro i hmu; exact absurd hmu (Nat.not_lt_zero _)
    | succ mm ih_1 =>
      intro i hmu hi H locs ls hs hl
      refine lv_iload_n hx hb dX4_wastedInAll_4 rfl (lv_at hl 3 rfl) ?_
      refine lv_aload_n hx hb dX4_wastedInAll_5 rfl (lv_at hl 0 rfl) ?_
      refine zg3 E hs (k := 1) rfl 8 (by decide) rfl q_52 dX4_wastedInAll_6 ?_
      refine tp (b := nI f) hf ?_
      refine lv_icmp_ge (tgt := 27) hx hb dX4_wastedInAll_9 (by decide) (fun c_2 => ?_) (fun c_2 => ?_)
      · have c_2 : f ≤ i := (nI_leI (a := f) (b := i) (by omega) (by omega)).mp c_2
        refine lv_iload_n hx hb dX4_wastedInAll_27 rfl (lv_at hl 2 rfl) ?_
        exact zeP E hs (by rw [show i = f by omega]) dX4_wastedInAll_28
      · have c_2 : ¬ (f ≤ i) := fun h => c_2 ((nI_leI (a := f) (b := i) (by omega) (by omega)).mpr h)
        refine lv_iload_n hx hb dX4_wastedInAll_12 rfl (lv_at hl 2 rfl) ?_
        refine lv_aload_n hx hb dX4_wastedInAll_13 rfl (lv_at hl 0 rfl) ?_
        refine lv_iload_n hx hb dX4_wastedInAll_14 rfl (lv_at hl 3 rfl) ?_
        refine lv_iload_n hx hb dX4_wastedInAll_15 rfl (lv_at hl 1 rfl) ?_
        refine zVP E hs lkX4_102 [.int (smI (fun d => wst ar (nI d) sd) i)] (c_X4_wasted l x ar fd (nI i) sd) (by decide) (sh3 rfl) rfl ⟨Nat.le_of_ble_eq_true rfl, Nat.le_of_ble_eq_true rfl⟩ rfl hl.1 (Nat.le_of_ble_eq_true rfl) rfl dX4_wastedInAll_16 (fun r_3 H locs hp_4 hs => ?_)
        subst hp_4
        refine lv_iadd hx hb dX4_wastedInAll_19 ?_
        refine lv_istore_n (lv' := [(2, .int ((smI (fun d => wst ar (nI d) sd) i) + (wst ar (nI i) sd))), (0, .ref (xa x 1)), (1, .int sd), (3, .int (nI i))]) hx hb dX4_wastedInAll_20 rfl hl (by decide) rfl (fun ls hl => ?_)
        refine lv_iinc (v := nI (i + 1)) (lv' := [(3, .int (nI (i + 1))), (2, .int ((smI (fun d => wst ar (nI d) sd) i) + (wst ar (nI i) sd))), (0, .ref (xa x 1)), (1, .int sd)]) hx hb dX4_wastedInAll_21 hl (k := 3) rfl (nI_inc _) (by decide) rfl (fun ls hl => ?_)
        refine lv_goto (tgt := 4) hx hb dX4_wastedInAll_24 (by decide) ?_
        exact ih_1 (i + 1) (by omega) (by omega) _ _ _ hs (lvr (lv_at hl 2 rfl) (lvr (lv_at hl 3 rfl) (lvc (lv_at hl 1 rfl) (smI_s _ _).symm (lvr (lv_at hl 0 rfl) (lvn hl)))))
  exact L_1 (_ + 1) 0 (Nat.lt_succ_self _) (by omega) _ _ _ hs (lvr (lv_at hl 2 rfl) (lvr (lv_at hl 3 rfl) (lvc (lv_at hl 1 rfl) nI_0 (lvr (lv_at hl 0 rfl) (lvn hl)))))

set_option maxHeartbeats 4000000 in
set_option maxRecDepth 100000 in
/-- State.bordersOfAll -/
theorem c_X4_bordersOfAll (l : Launch) (x : CT) (ar fd : AR) (f : Nat) (hf : fd 1 8 = nI f) (hf9 : f ≤ 9) : CP l yX4_bordersOfAll cX4_bordersOfAll 3 (some .int) 3 69 x [.ref (xa x 1)] ar fd (fun r => r = smI (fun d => bdI (ar 9) (nI d)) f) := by
  refine zsP (own := RX4) rfl (by decide +kernel) (Nat.le_of_ble_eq_true rfl) ?_
  intro p e s m below meth c ls E hs hl
  have hx := E.1
  have hb := E.2.1
  have hl : lv_has ls 3 [(0, .ref (xa x 1))] := hl
  refine lv_iconst (v := nI 0) hx hb dX4_bordersOfAll_0 (by decide) ?_
  refine lv_istore_n (lv' := [(1, .int (nI 0)), (0, .ref (xa x 1))]) hx hb dX4_bordersOfAll_1 rfl hl (by decide) rfl (fun ls hl => ?_)
  refine lv_iconst (v := nI 0) hx hb dX4_bordersOfAll_2 (by decide) ?_
  refine lv_istore_n (lv' := [(2, .int (nI 0)), (1, .int (nI 0)), (0, .ref (xa x 1))]) hx hb dX4_bordersOfAll_3 rfl hl (by decide) rfl (fun ls hl => ?_)
  have L_1 : ∀ (mm : Nat) (i : Nat), (f - i) < mm → (i ≤ f) → ∀ (H : Heap) (locs : List Loc) (ls : Array Slot), ST x (AA x) s.heap ar fd H locs → lv_has ls 3 [(0, .ref (xa x 1)), (1, .int (smI (fun d => bdI (ar 9) (nI d)) i)), (2, .int (nI i))] → W p l e (rmZ 3 69) s m ([.ref (xa x 1)] : List Value).toArray below meth c H locs 0 0 (QP below x [.ref (xa x 1)] ar fd s (fun r => r = smI (fun d => bdI (ar 9) (nI d)) f)) (F0 m 4 ls []) := by
    intro mm
    induction mm with
    | zero => intro i hmu; exact absurd hmu (Nat.not_lt_zero _)
    | succ mm ih_1 =>
      intro i hmu hi H locs ls hs hl
      refine lv_iload_n hx hb dX4_bordersOfAll_4 rfl (lv_at hl 2 rfl) ?_
      refine lv_aload_n hx hb dX4_bordersOfAll_5 rfl (lv_at hl 0 rfl) ?_
      refine zg3 E hs (k := 1) rfl 8 (by decide) rfl q_52 dX4_bordersOfAll_6 ?_
      refine tp (b := nI f) hf ?_
      refine lv_icmp_ge (tgt := 29) hx hb dX4_bordersOfAll_9 (by decide) (fun c_2 => ?_) (fun c_2 => ?_)
      · have c_2 : f ≤ i := (nI_leI (a := f) (b := i) (by omega) (by omega)).mp c_2
        refine lv_iload_n hx hb dX4_bordersOfAll_29 rfl (lv_at hl 1 rfl) ?_
        exact zeP E hs (by rw [show i = f by omega]) dX4_bordersOfAll_30
      · have c_2 : ¬ (f ≤ i) := fun h => c_2 ((nI_leI (a := f) (b := i) (by omega) (by omega)).mpr h)
        refine lv_iload_n hx hb dX4_bordersOfAll_12 rfl (lv_at hl 1 rfl) ?_
        refine lv_aload_n hx hb dX4_bordersOfAll_13 rfl (lv_at hl 0 rfl) ?_
        refine zg3 E hs (k := 1) rfl 3 (by decide) rfl q_42 dX4_bordersOfAll_14 ?_
        refine lv_iload_n hx hb dX4_bordersOfAll_17 rfl (lv_at hl 2 rfl) ?_
        refine zSP E hs lkX4_106 [.int (smI (fun d => bdI (ar 9) (nI d)) i)] (c_X0_borders l x 8 ro_8 ar fd (nI i)) ⟨Nat.le_of_ble_eq_true rfl, Nat.le_of_ble_eq_true rfl⟩ rfl hl.1 (Nat.le_of_ble_eq_true rfl) rfl dX4_bordersOfAll_18 (fun r_3 H locs hp_4 hs => ?_)
        subst hp_4
        refine lv_iadd hx hb dX4_bordersOfAll_21 ?_
        refine lv_istore_n (lv' := [(1, .int ((smI (fun d => bdI (ar 9) (nI d)) i) + (bdI (ar 9) (nI i)))), (0, .ref (xa x 1)), (2, .int (nI i))]) hx hb dX4_bordersOfAll_22 rfl hl (by decide) rfl (fun ls hl => ?_)
        refine lv_iinc (v := nI (i + 1)) (lv' := [(2, .int (nI (i + 1))), (1, .int ((smI (fun d => bdI (ar 9) (nI d)) i) + (bdI (ar 9) (nI i)))), (0, .ref (xa x 1))]) hx hb dX4_bordersOfAll_23 hl (k := 2) rfl (nI_inc _) (by decide) rfl (fun ls hl => ?_)
        refine lv_goto (tgt := 4) hx hb dX4_bordersOfAll_26 (by decide) ?_
        exact ih_1 (i + 1) (by omega) (by omega) _ _ _ hs (lvr (lv_at hl 2 rfl) (lvc (lv_at hl 1 rfl) (smI_s _ _).symm (lvr (lv_at hl 0 rfl) (lvn hl))))
  exact L_1 (_ + 1) 0 (Nat.lt_succ_self _) (by omega) _ _ _ hs (lvr (lv_at hl 2 rfl) (lvc (lv_at hl 1 rfl) nI_0 (lvr (lv_at hl 0 rfl) (lvn hl))))

set_option maxHeartbeats 4000000 in
set_option maxRecDepth 100000 in
/-- State.closestWon -/
theorem c_X4_closestWon (l : Launch) (x : CT) (ar fd : AR) (w f : Nat) (hw : fd 1 7 = nI w) (hf : fd 1 8 = nI f) (hfw : f ≤ w) (hw9 : w ≤ 9) (hw2 : 2 ≤ w) (sd : Int32) : CP l yX4_closestWon cX4_closestWon 6 (some .int) 3 68 x [.ref (xa x 1), .int sd] ar fd (fun r => r = (clS (fun p => mg ar 6 (nI p) sd) (w - f)).1) := by
  refine zsP (own := RX4) rfl (by decide +kernel) (Nat.le_of_ble_eq_true rfl) ?_
  intro p e s m below meth c ls E hs hl
  have hx := E.1
  have hb := E.2.1
  have hl : lv_has ls 6 [(0, .ref (xa x 1)), (1, .int sd)] := hl
  refine lv_iconst (v := (-1)) hx hb dX4_closestWon_0 (by decide) ?_
  refine lv_istore_n (lv' := [(2, .int (-1)), (0, .ref (xa x 1)), (1, .int sd)]) hx hb dX4_closestWon_1 rfl hl (by decide) rfl (fun ls hl => ?_)
  refine lv_iconst (v := nI 0) hx hb dX4_closestWon_2 (by decide) ?_
  refine lv_istore_n (lv' := [(3, .int (nI 0)), (2, .int (-1)), (0, .ref (xa x 1)), (1, .int sd)]) hx hb dX4_closestWon_3 rfl hl (by decide) rfl (fun ls hl => ?_)
  refine lv_iconst (v := nI 0) hx hb dX4_closestWon_4 (by decide) ?_
  refine lv_istore (lv' := [(4, .int (nI 0)), (3, .int (nI 0)), (2, .int (-1)), (0, .ref (xa x 1)), (1, .int sd)]) hx hb dX4_closestWon_5 hl (by decide) rfl (fun ls hl => ?_)
  have L_1 : ∀ (mm : Nat) (i : Nat), (w - f - i) < mm → (i ≤ w - f) → ∀ (H : Heap) (locs : List Loc) (ls : Array Slot), ST x (AA x) s.heap ar fd H locs → lv_has ls 6 [(0, .ref (xa x 1)), (1, .int sd), (2, .int ((clS (fun p => mg ar 6 (nI p) sd) i).1)), (3, .int ((clS (fun p => mg ar 6 (nI p) sd) i).2)), (4, .int (nI i))] → W p l e (rmZ 3 68) s m ([.ref (xa x 1), .int sd] : List Value).toArray below meth c H locs 0 0 (QP below x [.ref (xa x 1), .int sd] ar fd s (fun r => r = (clS (fun p => mg ar 6 (nI p) sd) (w - f)).1)) (F0 m 7 ls []) := by
    intro mm
    induction mm with
    | zero => intro i hmu; exact absurd hmu (Nat.not_lt_zero _)
    | succ mm ih_1 =>
      intro i hmu hi H locs ls hs hl
      refine lv_iload hx hb dX4_closestWon_7 (lv_at hl 4 rfl) ?_
      refine lv_aload_n hx hb dX4_closestWon_9 rfl (lv_at hl 0 rfl) ?_
      refine zVP E hs lkX4_63 [.int (nI i)] (c_X4_left l x ar fd) (by decide) (sh3 rfl) rfl ⟨Nat.le_of_ble_eq_true rfl, Nat.le_of_ble_eq_true rfl⟩ rfl hl.1 (Nat.le_of_ble_eq_true rfl) rfl dX4_closestWon_10 (fun r_2 H locs hp_3 hs => ?_)
      subst hp_3
      refine tp (b := nI (w - f)) (by rw [hw, hf, nI_sub hfw]) ?_
      refine lv_icmp_ge (tgt := 57) hx hb dX4_closestWon_13 (by decide) (fun c_4 => ?_) (fun c_4 => ?_)
      · have c_4 : w - f ≤ i := (nI_leI (a := w - f) (b := i) (by omega) (by omega)).mp c_4
        refine lv_iload_n hx hb dX4_closestWon_57 rfl (lv_at hl 2 rfl) ?_
        exact zeP E hs (by rw [show i = w - f by omega]) dX4_closestWon_58
      · have c_4 : ¬ (w - f ≤ i) := fun h => c_4 ((nI_leI (a := w - f) (b := i) (by omega) (by omega)).mpr h)
        refine lv_aload_n hx hb dX4_closestWon_16 rfl (lv_at hl 0 rfl) ?_
        refine lv_aload_n hx hb dX4_closestWon_17 rfl (lv_at hl 0 rfl) ?_
        refine zg3 E hs (k := 1) rfl 2 (by decide) rfl q_39 dX4_closestWon_18 ?_
        refine lv_iload hx hb dX4_closestWon_21 (lv_at hl 4 rfl) ?_
        refine lv_iload_n hx hb dX4_closestWon_23 rfl (lv_at hl 1 rfl) ?_
        refine zVP E hs lkX4_91 [] (c_X4_margin l x 6 ro_6 ar fd (nI i) sd) (by decide) (sh3 rfl) rfl ⟨Nat.le_of_ble_eq_true rfl, Nat.le_of_ble_eq_true rfl⟩ rfl hl.1 (Nat.le_of_ble_eq_true rfl) rfl dX4_closestWon_24 (fun r_5 H locs hp_6 hs => ?_)
        subst hp_6
        refine lv_istore (lv' := [(5, .int (mg ar 6 (nI i) sd)), (0, .ref (xa x 1)), (1, .int sd), (2, .int ((clS (fun p => mg ar 6 (nI p) sd) i).1)), (3, .int ((clS (fun p => mg ar 6 (nI p) sd) i).2)), (4, .int (nI i))]) hx hb dX4_closestWon_27 hl (by decide) rfl (fun ls hl => ?_)
        refine lv_iload hx hb dX4_closestWon_29 (lv_at hl 0 rfl) ?_
        refine lv_if_le (tgt := 51) hx hb dX4_closestWon_31 (by decide) (fun c_7 => ?_) (fun c_7 => ?_)
        · refine lv_iinc (v := nI (i + 1)) (lv' := [(4, .int (nI (i + 1))), (5, .int (mg ar 6 (nI i) sd)), (0, .ref (xa x 1)), (1, .int sd), (2, .int ((clS (fun p => mg ar 6 (nI p) sd) i).1)), (3, .int ((clS (fun p => mg ar 6 (nI p) sd) i).2))]) hx hb dX4_closestWon_51 hl (k := 5) rfl (nI_inc _) (by decide) rfl (fun ls hl => ?_)
          refine lv_goto (tgt := 7) hx hb dX4_closestWon_54 (by decide) ?_
          exact ih_1 (i + 1) (by omega) (by omega) _ _ _ hs (lvr (lv_at hl 2 rfl) (lvr (lv_at hl 3 rfl) (lvc (lv_at hl 4 rfl) (by rw [clS_s, iz_t c_7]) (lvc (lv_at hl 5 rfl) (by rw [clS_s, iz_t c_7]) (lvr (lv_at hl 0 rfl) (lvn hl))))))
        · refine lv_iload_n hx hb dX4_closestWon_34 rfl (lv_at hl 3 rfl) ?_
          refine lv_iconst (v := (-1)) hx hb dX4_closestWon_35 (by decide) ?_
          refine lv_icmp_eq (tgt := 45) hx hb dX4_closestWon_36 (by decide) (fun c_8 => ?_) (fun c_8 => ?_)
          · refine lv_iload hx hb dX4_closestWon_45 (lv_at hl 5 rfl) ?_
            refine lv_istore_n (lv' := [(2, .int (nI i)), (5, .int (mg ar 6 (nI i) sd)), (0, .ref (xa x 1)), (1, .int sd), (3, .int ((clS (fun p => mg ar 6 (nI p) sd) i).2)), (4, .int (nI i))]) hx hb dX4_closestWon_47 rfl hl (by decide) rfl (fun ls hl => ?_)
            refine lv_iload hx hb dX4_closestWon_48 (lv_at hl 1 rfl) ?_
            refine lv_istore_n (lv' := [(3, .int (mg ar 6 (nI i) sd)), (2, .int (nI i)), (5, .int (mg ar 6 (nI i) sd)), (0, .ref (xa x 1)), (1, .int sd), (4, .int (nI i))]) hx hb dX4_closestWon_50 rfl hl (by decide) rfl (fun ls hl => ?_)
            refine lv_iinc (v := nI (i + 1)) (lv' := [(4, .int (nI (i + 1))), (3, .int (mg ar 6 (nI i) sd)), (2, .int (nI i)), (5, .int (mg ar 6 (nI i) sd)), (0, .ref (xa x 1)), (1, .int sd)]) hx hb dX4_closestWon_51 hl (k := 5) rfl (nI_inc _) (by decide) rfl (fun ls hl => ?_)
            refine lv_goto (tgt := 7) hx hb dX4_closestWon_54 (by decide) ?_
            exact ih_1 (i + 1) (by omega) (by omega) _ _ _ hs (lvr (lv_at hl 4 rfl) (lvr (lv_at hl 5 rfl) (lvc (lv_at hl 2 rfl) (by rw [clS_s, iz_f c_7, iz_t c_8]) (lvc (lv_at hl 1 rfl) (by rw [clS_s, iz_f c_7, iz_t c_8]) (lvr (lv_at hl 0 rfl) (lvn hl))))))
          · refine lv_iload hx hb dX4_closestWon_39 (lv_at hl 0 rfl) ?_
            refine lv_iload_n hx hb dX4_closestWon_41 rfl (lv_at hl 4 rfl) ?_
            refine lv_icmp_ge (tgt := 51) hx hb dX4_closestWon_42 (by decide) (fun c_9 => ?_) (fun c_9 => ?_)
            · refine lv_iinc (v := nI (i + 1)) (lv' := [(4, .int (nI (i + 1))), (5, .int (mg ar 6 (nI i) sd)), (0, .ref (xa x 1)), (1, .int sd), (2, .int ((clS (fun p => mg ar 6 (nI p) sd) i).1)), (3, .int ((clS (fun p => mg ar 6 (nI p) sd) i).2))]) hx hb dX4_closestWon_51 hl (k := 5) rfl (nI_inc _) (by decide) rfl (fun ls hl => ?_)
              refine lv_goto (tgt := 7) hx hb dX4_closestWon_54 (by decide) ?_
              exact ih_1 (i + 1) (by omega) (by omega) _ _ _ hs (lvr (lv_at hl 2 rfl) (lvr (lv_at hl 3 rfl) (lvc (lv_at hl 4 rfl) (by rw [clS_s, iz_f c_7, iz_f c_8, iz_t c_9]) (lvc (lv_at hl 5 rfl) (by rw [clS_s, iz_f c_7, iz_f c_8, iz_t c_9]) (lvr (lv_at hl 0 rfl) (lvn hl))))))
            · refine lv_iload hx hb dX4_closestWon_45 (lv_at hl 5 rfl) ?_
              refine lv_istore_n (lv' := [(2, .int (nI i)), (5, .int (mg ar 6 (nI i) sd)), (0, .ref (xa x 1)), (1, .int sd), (3, .int ((clS (fun p => mg ar 6 (nI p) sd) i).2)), (4, .int (nI i))]) hx hb dX4_closestWon_47 rfl hl (by decide) rfl (fun ls hl => ?_)
              refine lv_iload hx hb dX4_closestWon_48 (lv_at hl 1 rfl) ?_
              refine lv_istore_n (lv' := [(3, .int (mg ar 6 (nI i) sd)), (2, .int (nI i)), (5, .int (mg ar 6 (nI i) sd)), (0, .ref (xa x 1)), (1, .int sd), (4, .int (nI i))]) hx hb dX4_closestWon_50 rfl hl (by decide) rfl (fun ls hl => ?_)
              refine lv_iinc (v := nI (i + 1)) (lv' := [(4, .int (nI (i + 1))), (3, .int (mg ar 6 (nI i) sd)), (2, .int (nI i)), (5, .int (mg ar 6 (nI i) sd)), (0, .ref (xa x 1)), (1, .int sd)]) hx hb dX4_closestWon_51 hl (k := 5) rfl (nI_inc _) (by decide) rfl (fun ls hl => ?_)
              refine lv_goto (tgt := 7) hx hb dX4_closestWon_54 (by decide) ?_
              exact ih_1 (i + 1) (by omega) (by omega) _ _ _ hs (lvr (lv_at hl 4 rfl) (lvr (lv_at hl 5 rfl) (lvc (lv_at hl 2 rfl) (by rw [clS_s, iz_f c_7, iz_f c_8, iz_f c_9]) (lvc (lv_at hl 1 rfl) (by rw [clS_s, iz_f c_7, iz_f c_8, iz_f c_9]) (lvr (lv_at hl 0 rfl) (lvn hl))))))
  exact L_1 (_ + 1) 0 (Nat.lt_succ_self _) (by omega) _ _ _ hs (lvr (lv_at hl 3 rfl) (lvr (lv_at hl 4 rfl) (lvc (lv_at hl 2 rfl) rfl (lvc (lv_at hl 1 rfl) nI_0 (lvr (lv_at hl 0 rfl) (lvn hl))))))

set_option maxHeartbeats 4000000 in
set_option maxRecDepth 100000 in
/-- State.mostLost -/
theorem c_X4_mostLost (l : Launch) (x : CT) (ar fd : AR) (w f : Nat) (hw : fd 1 7 = nI w) (hf : fd 1 8 = nI f) (hfw : f ≤ w) (hw9 : w ≤ 9) (hw2 : 2 ≤ w) (hL : 1 ≤ w - f) (sd : Int32) : CP l yX4_mostLost cX4_mostLost 4 (some .int) 3 68 x [.ref (xa x 1), .int sd] ar fd (fun r => r = nI (mlS (fun p => mg ar 6 (nI p) (nI 1 - sd)) (w - f))) := by
  refine zsP (own := RX4) rfl (by decide +kernel) (Nat.le_of_ble_eq_true rfl) ?_
  intro p e s m below meth c ls E hs hl
  have hx := E.1
  have hb := E.2.1
  have hl : lv_has ls 4 [(0, .ref (xa x 1)), (1, .int sd)] := hl
  refine lv_iconst (v := nI 0) hx hb dX4_mostLost_0 (by decide) ?_
  refine lv_istore_n (lv' := [(2, .int (nI 0)), (0, .ref (xa x 1)), (1, .int sd)]) hx hb dX4_mostLost_1 rfl hl (by decide) rfl (fun ls hl => ?_)
  refine lv_iconst (v := nI 1) hx hb dX4_mostLost_2 (by decide) ?_
  refine lv_istore_n (lv' := [(3, .int (nI 1)), (2, .int (nI 0)), (0, .ref (xa x 1)), (1, .int sd)]) hx hb dX4_mostLost_3 rfl hl (by decide) rfl (fun ls hl => ?_)
  have L_1 : ∀ (mm : Nat) (i : Nat), (w - f - i) < mm → (i ≤ w - f) → ∀ (H : Heap) (locs : List Loc) (ls : Array Slot), ST x (AA x) s.heap ar fd H locs → lv_has ls 4 [(0, .ref (xa x 1)), (1, .int sd), (2, .int (nI (mlS (fun p => mg ar 6 (nI p) (nI 1 - sd)) i))), (3, .int (nI i))] → W p l e (rmZ 3 68) s m ([.ref (xa x 1), .int sd] : List Value).toArray below meth c H locs 0 0 (QP below x [.ref (xa x 1), .int sd] ar fd s (fun r => r = nI (mlS (fun p => mg ar 6 (nI p) (nI 1 - sd)) (w - f)))) (F0 m 4 ls []) := by
    intro mm
    induction mm with
    | zero => intro i hmu; exact absurd hmu (Nat.not_lt_zero _)
    | succ mm ih_1 =>
      intro i hmu hi H locs ls hs hl
      refine lv_iload_n hx hb dX4_mostLost_4 rfl (lv_at hl 3 rfl) ?_
      refine lv_aload_n hx hb dX4_mostLost_5 rfl (lv_at hl 0 rfl) ?_
      refine zVP E hs lkX4_63 [.int (nI i)] (c_X4_left l x ar fd) (by decide) (sh3 rfl) rfl ⟨Nat.le_of_ble_eq_true rfl, Nat.le_of_ble_eq_true rfl⟩ rfl hl.1 (Nat.le_of_ble_eq_true rfl) rfl dX4_mostLost_6 (fun r_2 H locs hp_3 hs => ?_)
      subst hp_3
      refine tp (b := nI (w - f)) (by rw [hw, hf, nI_sub hfw]) ?_
      refine lv_icmp_ge (tgt := 47) hx hb dX4_mostLost_9 (by decide) (fun c_4 => ?_) (fun c_4 => ?_)
      · have c_4 : w - f ≤ i := (nI_leI (a := w - f) (b := i) (by omega) (by omega)).mp c_4
        refine lv_iload_n hx hb dX4_mostLost_47 rfl (lv_at hl 2 rfl) ?_
        exact zeP E hs (by rw [show i = w - f by omega]) dX4_mostLost_48
      · have c_4 : ¬ (w - f ≤ i) := fun h => c_4 ((nI_leI (a := w - f) (b := i) (by omega) (by omega)).mpr h)
        refine lv_aload_n hx hb dX4_mostLost_12 rfl (lv_at hl 0 rfl) ?_
        refine lv_aload_n hx hb dX4_mostLost_13 rfl (lv_at hl 0 rfl) ?_
        refine zg3 E hs (k := 1) rfl 2 (by decide) rfl q_39 dX4_mostLost_14 ?_
        refine lv_iload_n hx hb dX4_mostLost_17 rfl (lv_at hl 3 rfl) ?_
        refine lv_iconst (v := nI 1) hx hb dX4_mostLost_18 (by decide) ?_
        refine lv_iload_n hx hb dX4_mostLost_19 rfl (lv_at hl 1 rfl) ?_
        refine lv_isub hx hb dX4_mostLost_20 ?_
        refine zVP E hs lkX4_91 [] (c_X4_margin l x 6 ro_6 ar fd (nI i) ((nI 1) - sd)) (by decide) (sh3 rfl) rfl ⟨Nat.le_of_ble_eq_true rfl, Nat.le_of_ble_eq_true rfl⟩ rfl hl.1 (Nat.le_of_ble_eq_true rfl) rfl dX4_mostLost_21 (fun r_5 H locs hp_6 hs => ?_)
        subst hp_6
        refine lv_aload_n hx hb dX4_mostLost_24 rfl (lv_at hl 0 rfl) ?_
        refine lv_aload_n hx hb dX4_mostLost_25 rfl (lv_at hl 0 rfl) ?_
        refine zg3 E hs (k := 1) rfl 2 (by decide) rfl q_39 dX4_mostLost_26 ?_
        refine lv_iload_n hx hb dX4_mostLost_29 rfl (lv_at hl 2 rfl) ?_
        refine lv_iconst (v := nI 1) hx hb dX4_mostLost_30 (by decide) ?_
        refine lv_iload_n hx hb dX4_mostLost_31 rfl (lv_at hl 1 rfl) ?_
        refine lv_isub hx hb dX4_mostLost_32 ?_
        refine zVP E hs lkX4_91 [.int (mg ar 6 (nI i) ((nI 1) - sd))] (c_X4_margin l x 6 ro_6 ar fd (nI (mlS (fun p => mg ar 6 (nI p) (nI 1 - sd)) i)) ((nI 1) - sd)) (by decide) (sh3 rfl) rfl ⟨Nat.le_of_ble_eq_true rfl, Nat.le_of_ble_eq_true rfl⟩ rfl hl.1 (Nat.le_of_ble_eq_true rfl) rfl dX4_mostLost_33 (fun r_7 H locs hp_8 hs => ?_)
        subst hp_8
        refine lv_icmp_le (tgt := 41) hx hb dX4_mostLost_36 (by decide) (fun c_9 => ?_) (fun c_9 => ?_)
        · refine lv_iinc (v := nI (i + 1)) (lv' := [(3, .int (nI (i + 1))), (0, .ref (xa x 1)), (1, .int sd), (2, .int (nI (mlS (fun p => mg ar 6 (nI p) (nI 1 - sd)) i)))]) hx hb dX4_mostLost_41 hl (k := 3) rfl (nI_inc _) (by decide) rfl (fun ls hl => ?_)
          refine lv_goto (tgt := 4) hx hb dX4_mostLost_44 (by decide) ?_
          exact ih_1 (i + 1) (by omega) (by omega) _ _ _ hs (lvr (lv_at hl 1 rfl) (lvr (lv_at hl 2 rfl) (lvc (lv_at hl 3 rfl) (by rw [mlS_s, iz_t c_9]) (lvr (lv_at hl 0 rfl) (lvn hl)))))
        · refine lv_iload_n hx hb dX4_mostLost_39 rfl (lv_at hl 3 rfl) ?_
          refine lv_istore_n (lv' := [(2, .int (nI i)), (0, .ref (xa x 1)), (1, .int sd), (3, .int (nI i))]) hx hb dX4_mostLost_40 rfl hl (by decide) rfl (fun ls hl => ?_)
          refine lv_iinc (v := nI (i + 1)) (lv' := [(3, .int (nI (i + 1))), (2, .int (nI i)), (0, .ref (xa x 1)), (1, .int sd)]) hx hb dX4_mostLost_41 hl (k := 3) rfl (nI_inc _) (by decide) rfl (fun ls hl => ?_)
          refine lv_goto (tgt := 4) hx hb dX4_mostLost_44 (by decide) ?_
          exact ih_1 (i + 1) (by omega) (by omega) _ _ _ hs (lvr (lv_at hl 2 rfl) (lvr (lv_at hl 3 rfl) (lvc (lv_at hl 1 rfl) (by rw [mlS_s, iz_f c_9]) (lvr (lv_at hl 0 rfl) (lvn hl)))))
  exact L_1 (_ + 1) 1 (Nat.lt_succ_self _) (by omega) _ _ _ hs (lvr (lv_at hl 2 rfl) (lvr (lv_at hl 3 rfl) (lvc (lv_at hl 1 rfl) (by rw [mlS_1]) (lvr (lv_at hl 0 rfl) (lvn hl)))))

set_option maxHeartbeats 4000000 in
set_option maxRecDepth 100000 in
/-- State.makeDistrict -/
theorem c_X4_makeDistrict (l : Launch) (x : CT) (k : Nat) (hr : RO k 36) (hk8 : k ≠ 8) (ar fd : AR) (f : Nat) (hf : fd 1 8 = nI f) (hf9 : f < 9) (v pl : Int32) : CV l yX4_makeDistrict cX4_makeDistrict 5 1 22 x [.ref (xa x 1), .ref (xa x k), .int v, .int pl] ar fd (fun ar' fd' => ar' = mdA ar k v f pl ∧ fd' = zu fd 1 (zu (fd 1) 8 (nI (f + 1)))) := by
  refine zsV (own := RX4) rfl (by decide +kernel) (Nat.le_of_ble_eq_true rfl) ?_
  intro p e s m below meth c ls E hs hl
  have hx := E.1
  have hb := E.2.1
  have hl : lv_has ls 5 [(0, .ref (xa x 1)), (1, .ref (xa x k)), (2, .int v), (3, .int pl)] := hl
  refine lv_iconst (v := nI 0) hx hb dX4_makeDistrict_0 (by decide) ?_
  refine lv_istore (lv' := [(4, .int (nI 0)), (0, .ref (xa x 1)), (1, .ref (xa x k)), (2, .int v), (3, .int pl)]) hx hb dX4_makeDistrict_1 hl (by decide) rfl (fun ls hl => ?_)
  have L_1 : ∀ (mm : Nat) (i : Nat) (ar1 : AR), (36 - i) < mm → (i ≤ 36) → (∀ j, j < i → ar1 9 j = iz (ar (k + 1) j = v) (nI f) (ar 9 j)) → (∀ j, i ≤ j → ar1 9 j = ar 9 j) → (∀ q, q ≠ 9 → ar1 q = ar q) → ∀ (H : Heap) (locs : List Loc) (ls : Array Slot), ST x (AA x) s.heap ar1 fd H locs → lv_has ls 5 [(0, .ref (xa x 1)), (1, .ref (xa x k)), (2, .int v), (3, .int pl), (4, .int (nI i))] → W p l e (rmZ 1 22) s m ([.ref (xa x 1), .ref (xa x k), .int v, .int pl] : List Value).toArray below meth c H locs 0 0 (QV below x [.ref (xa x 1), .ref (xa x k), .int v, .int pl] s (fun ar' fd' => ar' = mdA ar k v f pl ∧ fd' = zu fd 1 (zu (fd 1) 8 (nI (f + 1))))) (F0 m 3 ls []) := by
    intro mm
    induction mm with
    | zero => intro i ar1 hmu; exact absurd hmu (Nat.not_lt_zero _)
    | succ mm ih_1 =>
      intro i ar1 hmu hi h1 h1b h2 H locs ls hs hl
      refine lv_iload hx hb dX4_makeDistrict_3 (lv_at hl 4 rfl) ?_
      refine lv_bipush (v := nI 36) hx hb dX4_makeDistrict_5 (by decide) ?_
      refine lv_icmp_ge (tgt := 39) hx hb dX4_makeDistrict_7 (by decide) (fun c_2 => ?_) (fun c_2 => ?_)
      · have c_2 : 36 ≤ i := (nI_leI (a := 36) (b := i) (by omega) (by omega)).mp c_2
        refine lv_aload_n hx hb dX4_makeDistrict_39 rfl (lv_at hl 0 rfl) ?_
        refine zg3 E hs (k := 1) rfl 5 (by decide) rfl q_46 dX4_makeDistrict_40 ?_
        refine lv_aload_n hx hb dX4_makeDistrict_43 rfl (lv_at hl 0 rfl) ?_
        refine zg3 E hs (k := 1) rfl 8 (by decide) rfl q_52 dX4_makeDistrict_44 ?_
        refine tp (b := nI f) hf ?_
        refine lv_iload_n hx hb dX4_makeDistrict_47 rfl (lv_at hl 3 rfl) ?_
        refine zVV E hs lkX4_78 [] (c_X3_put l x 12 9 ro_12 ar1 fd (nI f) pl) (by decide) (sh2 rfl) rfl ⟨Nat.le_of_ble_eq_true rfl, Nat.le_of_ble_eq_true rfl⟩ rfl hl.1 (Nat.le_of_ble_eq_true rfl) rfl dX4_makeDistrict_48 (fun arr_3 fdr_3 H locs hp_4 hs => ?_)
        rw [hp_4.1, hp_4.2] at hs
        rw [rowPut_n (j := f) (by omega) (by decide)] at hs
        refine lv_aload_n hx hb dX4_makeDistrict_51 rfl (lv_at hl 0 rfl) ?_
        refine lv_dup hx hb dX4_makeDistrict_52 rfl ?_
        refine zg3 E hs (k := 1) rfl 8 (by decide) rfl q_52 dX4_makeDistrict_53 ?_
        refine tp (b := nI f) hf ?_
        refine lv_iconst (v := nI 1) hx hb dX4_makeDistrict_56 (by decide) ?_
        refine lv_iadd hx hb dX4_makeDistrict_57 ?_
        refine tp (b := nI (f + 1)) (nI_add _ _) ?_
        refine zp3_8 E hs (k := 1) (hk := rfl)  q_52 dX4_makeDistrict_58 (fun H locs hs => ?_)
        have hs : ST x (AA x) s.heap (mdA ar k v f pl) (zu fd 1 (zu (fd 1) 8 (nI (f + 1)))) H locs := ⟨wl_ext hs.1 (fun q _ i2 hi2 => by
          unfold mdA
          by_cases e : q = 13
          · subst e; rw [zu_s, zu_s, h2 13 (by decide)]
          · rw [zu_n _ _ e, zu_n _ _ e]
            by_cases e9 : q = 9
            · subst e9; rw [zu_s, h1 i2 (by have h36 : rl 9 = 36 := rfl; omega)]
            · rw [zu_n _ _ e9, h2 q e9]), hs.2⟩
        exact zeV E hs ⟨rfl, rfl⟩ dX4_makeDistrict_61
      · have c_2 : ¬ (36 ≤ i) := fun h => c_2 ((nI_leI (a := 36) (b := i) (by omega) (by omega)).mpr h)
        refine lv_aload_n hx hb dX4_makeDistrict_10 rfl (lv_at hl 1 rfl) ?_
        refine lv_iload hx hb dX4_makeDistrict_11 (lv_at hl 4 rfl) ?_
        refine zVP E hs lkX4_59 [] (c_X3_at l x k 36 hr ar1 fd (nI i)) (kd_lt hr.1 (by decide)) (sh2 hr.1) rfl ⟨Nat.le_of_ble_eq_true rfl, Nat.le_of_ble_eq_true rfl⟩ rfl hl.1 (Nat.le_of_ble_eq_true rfl) rfl dX4_makeDistrict_13 (fun r_5 H locs hp_6 hs => ?_)
        subst hp_6
        refine tp (b := ar1 (k + 1) i) (rowAt_n (by omega) (by decide)) ?_
        refine tp (b := ar (k + 1) i) (by rw [h2 (k + 1) (by omega)]) ?_
        refine lv_iload_n hx hb dX4_makeDistrict_16 rfl (lv_at hl 2 rfl) ?_
        refine lv_icmp_ne (tgt := 33) hx hb dX4_makeDistrict_17 (by decide) (fun c_7 => ?_) (fun c_7 => ?_)
        · refine lv_iinc (v := nI (i + 1)) (lv' := [(4, .int (nI (i + 1))), (0, .ref (xa x 1)), (1, .ref (xa x k)), (2, .int v), (3, .int pl)]) hx hb dX4_makeDistrict_33 hl (k := 4) rfl (nI_inc _) (by decide) rfl (fun ls hl => ?_)
          refine lv_goto (tgt := 3) hx hb dX4_makeDistrict_36 (by decide) ?_
          exact ih_1 (i + 1) ar1 (by omega) (by omega) (fun j hj => by
                by_cases e : j = i
                · rw [e, h1b i (Nat.le_refl _), iz_f c_7]
                · exact h1 j (by omega)) (fun j hj => h1b j (by omega)) h2 _ _ _ hs (lvr (lv_at hl 1 rfl) (lvr (lv_at hl 2 rfl) (lvr (lv_at hl 3 rfl) (lvr (lv_at hl 4 rfl) (lvr (lv_at hl 0 rfl) (lvn hl))))))
        · refine lv_aload_n hx hb dX4_makeDistrict_20 rfl (lv_at hl 0 rfl) ?_
          refine zg3 E hs (k := 1) rfl 3 (by decide) rfl q_42 dX4_makeDistrict_21 ?_
          refine lv_iload hx hb dX4_makeDistrict_24 (lv_at hl 4 rfl) ?_
          refine lv_aload_n hx hb dX4_makeDistrict_26 rfl (lv_at hl 0 rfl) ?_
          refine zg3 E hs (k := 1) rfl 8 (by decide) rfl q_52 dX4_makeDistrict_27 ?_
          refine tp (b := nI f) hf ?_
          refine zVV E hs lkX4_78 [] (c_X3_put l x 8 36 ro_8 ar1 fd (nI i) (nI f)) (by decide) (sh2 rfl) rfl ⟨Nat.le_of_ble_eq_true rfl, Nat.le_of_ble_eq_true rfl⟩ rfl hl.1 (Nat.le_of_ble_eq_true rfl) rfl dX4_makeDistrict_30 (fun arr_8 fdr_8 H locs hp_9 hs => ?_)
          rw [hp_9.1, hp_9.2] at hs
          rw [rowPut_n (j := i) (by omega) (by decide)] at hs
          refine lv_iinc (v := nI (i + 1)) (lv' := [(4, .int (nI (i + 1))), (0, .ref (xa x 1)), (1, .ref (xa x k)), (2, .int v), (3, .int pl)]) hx hb dX4_makeDistrict_33 hl (k := 4) rfl (nI_inc _) (by decide) rfl (fun ls hl => ?_)
          refine lv_goto (tgt := 3) hx hb dX4_makeDistrict_36 (by decide) ?_
          exact ih_1 (i + 1) (zu ar1 9 (zu (ar1 9) i (nI f))) (by omega) (by omega) (fun j hj => by
                rw [zu_s]
                by_cases e : j = i
                · rw [e, zu_s, iz_t c_7]
                · rw [zu_n _ _ e]; exact h1 j (by omega)) (fun j hj => by rw [zu_s, zu_n _ _ (by omega)]; exact h1b j (by omega)) (fun q hq => by rw [zu_n _ _ hq]; exact h2 q hq) _ _ _ hs (lvr (lv_at hl 1 rfl) (lvr (lv_at hl 2 rfl) (lvr (lv_at hl 3 rfl) (lvr (lv_at hl 4 rfl) (lvr (lv_at hl 0 rfl) (lvn hl))))))
  exact L_1 (_ + 1) 0 ar (Nat.lt_succ_self _) (by omega) (fun _ h => absurd h (Nat.not_lt_zero _)) (fun _ _ => rfl) (fun _ _ => rfl) _ _ _ hs (lvr (lv_at hl 1 rfl) (lvr (lv_at hl 2 rfl) (lvr (lv_at hl 3 rfl) (lvr (lv_at hl 4 rfl) (lvr (lv_at hl 0 rfl) (lvn hl))))))

set_option maxHeartbeats 4000000 in
set_option maxRecDepth 100000 in
/-- State.leaveRest -/
theorem c_X4_leaveRest (l : Launch) (x : CT) (ar fd : AR) (t : Int32) : CV l yX4_leaveRest cX4_leaveRest 4 1 22 x [.ref (xa x 1), .int t] ar fd (fun ar' fd' => ar' = zu ar 11 (lrF (ar 7) t) ∧ fd' = fd) := by
  refine zsV (own := RX4) rfl (by decide +kernel) (Nat.le_of_ble_eq_true rfl) ?_
  intro p e s m below meth c ls E hs hl
  have hx := E.1
  have hb := E.2.1
  have hl : lv_has ls 4 [(0, .ref (xa x 1)), (1, .int t)] := hl
  refine lv_iconst (v := nI 0) hx hb dX4_leaveRest_0 (by decide) ?_
  refine lv_istore_n (lv' := [(2, .int (nI 0)), (0, .ref (xa x 1)), (1, .int t)]) hx hb dX4_leaveRest_1 rfl hl (by decide) rfl (fun ls hl => ?_)
  have L_1 : ∀ (mm : Nat) (i : Nat) (ar1 : AR), (36 - i) < mm → (i ≤ 36) → (∀ j, j < i → ar1 11 j = lrF (ar 7) t j) → (∀ q, q ≠ 11 → ar1 q = ar q) → ∀ (H : Heap) (locs : List Loc) (ls : Array Slot), ST x (AA x) s.heap ar1 fd H locs → lv_has ls 4 [(0, .ref (xa x 1)), (1, .int t), (2, .int (nI i))] → W p l e (rmZ 1 22) s m ([.ref (xa x 1), .int t] : List Value).toArray below meth c H locs 0 0 (QV below x [.ref (xa x 1), .int t] s (fun ar' fd' => ar' = zu ar 11 (lrF (ar 7) t) ∧ fd' = fd)) (F0 m 2 ls []) := by
    intro mm
    induction mm with
    | zero => intro i ar1 hmu; exact absurd hmu (Nat.not_lt_zero _)
    | succ mm ih_1 =>
      intro i ar1 hmu hi h1 h2 H locs ls hs hl
      refine lv_iload_n hx hb dX4_leaveRest_2 rfl (lv_at hl 2 rfl) ?_
      refine lv_bipush (v := nI 36) hx hb dX4_leaveRest_3 (by decide) ?_
      refine lv_icmp_ge (tgt := 50) hx hb dX4_leaveRest_5 (by decide) (fun c_2 => ?_) (fun c_2 => ?_)
      · have c_2 : 36 ≤ i := (nI_leI (a := 36) (b := i) (by omega) (by omega)).mp c_2
        have hs : ST x (AA x) s.heap (zu ar 11 (lrF (ar 7) t)) fd H locs := ⟨wl_ext hs.1 (fun q _ i2 hi2 => by
          by_cases e : q = 11
          · subst e; rw [zu_s, h1 i2 (by have h36 : rl 11 = 36 := rfl; omega)]
          · rw [zu_n _ _ e, h2 q e]), hs.2⟩
        exact zeV E hs ⟨rfl, rfl⟩ dX4_leaveRest_50
      · have c_2 : ¬ (36 ≤ i) := fun h => c_2 ((nI_leI (a := 36) (b := i) (by omega) (by omega)).mpr h)
        refine lv_aload_n hx hb dX4_leaveRest_8 rfl (lv_at hl 0 rfl) ?_
        refine zg3 E hs (k := 1) rfl 2 (by decide) rfl q_39 dX4_leaveRest_9 ?_
        refine lv_iload_n hx hb dX4_leaveRest_12 rfl (lv_at hl 2 rfl) ?_
        refine zVP E hs lkX4_59 [] (c_X3_at l x 6 36 ro_6 ar1 fd (nI i)) (by decide) (sh2 rfl) rfl ⟨Nat.le_of_ble_eq_true rfl, Nat.le_of_ble_eq_true rfl⟩ rfl hl.1 (Nat.le_of_ble_eq_true rfl) rfl dX4_leaveRest_13 (fun r_3 H locs hp_4 hs => ?_)
        subst hp_4
        refine tp (b := ar1 7 i) (rowAt_n (by omega) (by decide)) ?_
        refine tp (b := ar 7 i) (by rw [h2 7 (by decide)]) ?_
        refine lv_istore_n (lv' := [(3, .int (ar 7 i)), (0, .ref (xa x 1)), (1, .int t), (2, .int (nI i))]) hx hb dX4_leaveRest_16 rfl hl (by decide) rfl (fun ls hl => ?_)
        refine lv_iload_n hx hb dX4_leaveRest_17 rfl (lv_at hl 0 rfl) ?_
        refine lv_iload_n hx hb dX4_leaveRest_18 rfl (lv_at hl 2 rfl) ?_
        refine lv_icmp_ne (tgt := 27) hx hb dX4_leaveRest_19 (by decide) (fun c_5 => ?_) (fun c_5 => ?_)
        · refine lv_iload_n hx hb dX4_leaveRest_27 rfl (lv_at hl 0 rfl) ?_
          refine lv_iload_n hx hb dX4_leaveRest_28 rfl (lv_at hl 2 rfl) ?_
          refine lv_icmp_le (tgt := 35) hx hb dX4_leaveRest_29 (by decide) (fun c_6 => ?_) (fun c_6 => ?_)
          · refine lv_aload_n hx hb dX4_leaveRest_35 rfl (lv_at hl 1 rfl) ?_
            refine zg3 E hs (k := 1) rfl 4 (by decide) rfl q_44 dX4_leaveRest_36 ?_
            refine lv_iload_n hx hb dX4_leaveRest_39 rfl (lv_at hl 3 rfl) ?_
            refine lv_iload_n hx hb dX4_leaveRest_40 rfl (lv_at hl 0 rfl) ?_
            refine zVV E hs lkX4_78 [] (c_X3_put l x 10 36 ro_10 ar1 fd (nI i) (ar 7 i)) (by decide) (sh2 rfl) rfl ⟨Nat.le_of_ble_eq_true rfl, Nat.le_of_ble_eq_true rfl⟩ rfl hl.1 (Nat.le_of_ble_eq_true rfl) rfl dX4_leaveRest_41 (fun arr_7 fdr_7 H locs hp_8 hs => ?_)
            rw [hp_8.1, hp_8.2] at hs
            rw [rowPut_n (j := i) (by omega) (by decide)] at hs
            refine lv_iinc (v := nI (i + 1)) (lv' := [(2, .int (nI (i + 1))), (3, .int (ar 7 i)), (0, .ref (xa x 1)), (1, .int t)]) hx hb dX4_leaveRest_44 hl (k := 3) rfl (nI_inc _) (by decide) rfl (fun ls hl => ?_)
            refine lv_goto (tgt := 2) hx hb dX4_leaveRest_47 (by decide) ?_
            exact ih_1 (i + 1) (zu ar1 11 (zu (ar1 11) i (ar 7 i))) (by omega) (by omega) (fun j hj => by
                  rw [zu_s]
                  by_cases e : j = i
                  · rw [e, zu_s]; unfold lrF; rw [iz_f c_5, iz_t c_6]
                  · rw [zu_n _ _ e]; exact h1 j (by omega)) (fun q hq => by rw [zu_n _ _ hq]; exact h2 q hq) _ _ _ hs (lvr (lv_at hl 2 rfl) (lvr (lv_at hl 3 rfl) (lvr (lv_at hl 0 rfl) (lvn hl))))
          · refine lv_iinc (v := ar 7 i + (-1)) (lv' := [(3, .int (ar 7 i + (-1))), (0, .ref (xa x 1)), (1, .int t), (2, .int (nI i))]) hx hb dX4_leaveRest_32 hl (k := 0) rfl rfl (by decide) rfl (fun ls hl => ?_)
            refine lv_aload_n hx hb dX4_leaveRest_35 rfl (lv_at hl 1 rfl) ?_
            refine zg3 E hs (k := 1) rfl 4 (by decide) rfl q_44 dX4_leaveRest_36 ?_
            refine lv_iload_n hx hb dX4_leaveRest_39 rfl (lv_at hl 3 rfl) ?_
            refine lv_iload_n hx hb dX4_leaveRest_40 rfl (lv_at hl 0 rfl) ?_
            refine zVV E hs lkX4_78 [] (c_X3_put l x 10 36 ro_10 ar1 fd (nI i) (ar 7 i + (-1))) (by decide) (sh2 rfl) rfl ⟨Nat.le_of_ble_eq_true rfl, Nat.le_of_ble_eq_true rfl⟩ rfl hl.1 (Nat.le_of_ble_eq_true rfl) rfl dX4_leaveRest_41 (fun arr_9 fdr_9 H locs hp_10 hs => ?_)
            rw [hp_10.1, hp_10.2] at hs
            rw [rowPut_n (j := i) (by omega) (by decide)] at hs
            refine lv_iinc (v := nI (i + 1)) (lv' := [(2, .int (nI (i + 1))), (3, .int (ar 7 i + (-1))), (0, .ref (xa x 1)), (1, .int t)]) hx hb dX4_leaveRest_44 hl (k := 3) rfl (nI_inc _) (by decide) rfl (fun ls hl => ?_)
            refine lv_goto (tgt := 2) hx hb dX4_leaveRest_47 (by decide) ?_
            exact ih_1 (i + 1) (zu ar1 11 (zu (ar1 11) i (ar 7 i + (-1)))) (by omega) (by omega) (fun j hj => by
                  rw [zu_s]
                  by_cases e : j = i
                  · rw [e, zu_s]; unfold lrF; rw [iz_f c_5, iz_f c_6]
                  · rw [zu_n _ _ e]; exact h1 j (by omega)) (fun q hq => by rw [zu_n _ _ hq]; exact h2 q hq) _ _ _ hs (lvr (lv_at hl 2 rfl) (lvr (lv_at hl 3 rfl) (lvr (lv_at hl 0 rfl) (lvn hl))))
        · refine lv_iconst (v := (-1)) hx hb dX4_leaveRest_22 (by decide) ?_
          refine lv_istore_n (lv' := [(3, .int (-1)), (0, .ref (xa x 1)), (1, .int t), (2, .int (nI i))]) hx hb dX4_leaveRest_23 rfl hl (by decide) rfl (fun ls hl => ?_)
          refine lv_goto (tgt := 35) hx hb dX4_leaveRest_24 (by decide) ?_
          refine lv_aload_n hx hb dX4_leaveRest_35 rfl (lv_at hl 1 rfl) ?_
          refine zg3 E hs (k := 1) rfl 4 (by decide) rfl q_44 dX4_leaveRest_36 ?_
          refine lv_iload_n hx hb dX4_leaveRest_39 rfl (lv_at hl 3 rfl) ?_
          refine lv_iload_n hx hb dX4_leaveRest_40 rfl (lv_at hl 0 rfl) ?_
          refine zVV E hs lkX4_78 [] (c_X3_put l x 10 36 ro_10 ar1 fd (nI i) (-1)) (by decide) (sh2 rfl) rfl ⟨Nat.le_of_ble_eq_true rfl, Nat.le_of_ble_eq_true rfl⟩ rfl hl.1 (Nat.le_of_ble_eq_true rfl) rfl dX4_leaveRest_41 (fun arr_11 fdr_11 H locs hp_12 hs => ?_)
          rw [hp_12.1, hp_12.2] at hs
          rw [rowPut_n (j := i) (by omega) (by decide)] at hs
          refine lv_iinc (v := nI (i + 1)) (lv' := [(2, .int (nI (i + 1))), (3, .int (-1)), (0, .ref (xa x 1)), (1, .int t)]) hx hb dX4_leaveRest_44 hl (k := 3) rfl (nI_inc _) (by decide) rfl (fun ls hl => ?_)
          refine lv_goto (tgt := 2) hx hb dX4_leaveRest_47 (by decide) ?_
          exact ih_1 (i + 1) (zu ar1 11 (zu (ar1 11) i (-1))) (by omega) (by omega) (fun j hj => by
                rw [zu_s]
                by_cases e : j = i
                · rw [e, zu_s]; unfold lrF; rw [iz_t c_5]
                · rw [zu_n _ _ e]; exact h1 j (by omega)) (fun q hq => by rw [zu_n _ _ hq]; exact h2 q hq) _ _ _ hs (lvr (lv_at hl 2 rfl) (lvr (lv_at hl 3 rfl) (lvr (lv_at hl 0 rfl) (lvn hl))))
  exact L_1 (_ + 1) 0 ar (Nat.lt_succ_self _) (by omega) (fun _ h => absurd h (Nat.not_lt_zero _)) (fun _ _ => rfl) _ _ _ hs (lvr (lv_at hl 1 rfl) (lvr (lv_at hl 2 rfl) (lvr (lv_at hl 0 rfl) (lvn hl))))

noncomputable def sp_takePart (ar fd : AR) (w f : Nat) (t : Int32) : AR × AR := iz (w - (f + 1) = 1) ((mdA (zu (zu (mdA ar 6 t f ((nI 1) - (fd 1 9))) 11 (lrF ((mdA ar 6 t f ((nI 1) - (fd 1 9))) 7) t)) 7 (fun _ => (-1))) 10 (nI 0) (f + 1) ((zu fd 1 (zu (fd 1) 8 (nI (f + 1)))) 1 9), zu (zu (zu fd 1 (zu (fd 1) 8 (nI (f + 1)))) 1 (zu ((zu fd 1 (zu (fd 1) 8 (nI (f + 1)))) 1) 8 (nI (f + 1 + 1)))) 1 (zu ((zu (zu fd 1 (zu (fd 1) 8 (nI (f + 1)))) 1 (zu ((zu fd 1 (zu (fd 1) 8 (nI (f + 1)))) 1) 8 (nI (f + 1 + 1)))) 1) 10 (nI 2)))) ((zu (zu (mdA ar 6 t f ((nI 1) - (fd 1 9))) 11 (lrF ((mdA ar 6 t f ((nI 1) - (fd 1 9))) 7) t)) 7 (fun _ => (-1)), zu (zu (zu fd 1 (zu (fd 1) 8 (nI (f + 1)))) 1 (zu ((zu fd 1 (zu (fd 1) 8 (nI (f + 1)))) 1) 9 ((nI 1) - ((zu fd 1 (zu (fd 1) 8 (nI (f + 1)))) 1 9)))) 1 (zu ((zu (zu fd 1 (zu (fd 1) 8 (nI (f + 1)))) 1 (zu ((zu fd 1 (zu (fd 1) 8 (nI (f + 1)))) 1) 9 ((nI 1) - ((zu fd 1 (zu (fd 1) 8 (nI (f + 1)))) 1 9)))) 1) 10 (nI 0))))
set_option maxHeartbeats 4000000 in
set_option maxRecDepth 100000 in
/-- State.takePart -/
theorem c_X4_takePart (l : Launch) (x : CT) (ar fd : AR) (w f : Nat) (hw : fd 1 7 = nI w) (hf : fd 1 8 = nI f) (hfw : f ≤ w) (hw9 : w ≤ 9) (hw2 : 2 ≤ w) (hfl : f < w) (t : Int32) : CV l yX4_takePart cX4_takePart 2 2 46 x [.ref (xa x 1), .int t] ar fd (fun ar' fd' => (ar', fd') = sp_takePart ar fd w f t) := by
  refine zsV (own := RX4) rfl (by decide +kernel) (Nat.le_of_ble_eq_true rfl) ?_
  intro p e s m below meth c ls E hs hl
  have hx := E.1
  have hb := E.2.1
  have hl : lv_has ls 2 [(0, .ref (xa x 1)), (1, .int t)] := hl
  refine lv_aload_n hx hb dX4_takePart_0 rfl (lv_at hl 0 rfl) ?_
  refine lv_aload_n hx hb dX4_takePart_1 rfl (lv_at hl 0 rfl) ?_
  refine zg3 E hs (k := 1) rfl 2 (by decide) rfl q_39 dX4_takePart_2 ?_
  refine lv_iload_n hx hb dX4_takePart_5 rfl (lv_at hl 1 rfl) ?_
  refine lv_iconst (v := nI 1) hx hb dX4_takePart_6 (by decide) ?_
  refine lv_aload_n hx hb dX4_takePart_7 rfl (lv_at hl 0 rfl) ?_
  refine zg3 E hs (k := 1) rfl 9 (by decide) rfl q_54 dX4_takePart_8 ?_
  refine lv_isub hx hb dX4_takePart_11 ?_
  refine zVV E hs lkX4_71 [] (c_X4_makeDistrict l x 6 ro_6 (by decide) ar fd f hf (by omega) t ((nI 1) - (fd 1 9))) (by decide) (sh3 rfl) rfl ⟨Nat.le_of_ble_eq_true rfl, Nat.le_of_ble_eq_true rfl⟩ rfl hl.1 (Nat.le_of_ble_eq_true rfl) rfl dX4_takePart_12 (fun arr_1 fdr_1 H locs hp_2 hs => ?_)
  rw [hp_2.1, hp_2.2] at hs
  refine lv_aload_n hx hb dX4_takePart_15 rfl (lv_at hl 0 rfl) ?_
  refine lv_iload_n hx hb dX4_takePart_16 rfl (lv_at hl 1 rfl) ?_
  refine zVV E hs lkX4_75 [] (c_X4_leaveRest l x (mdA ar 6 t f ((nI 1) - (fd 1 9))) (zu fd 1 (zu (fd 1) 8 (nI (f + 1)))) t) (by decide) (sh3 rfl) rfl ⟨Nat.le_of_ble_eq_true rfl, Nat.le_of_ble_eq_true rfl⟩ rfl hl.1 (Nat.le_of_ble_eq_true rfl) rfl dX4_takePart_17 (fun arr_3 fdr_3 H locs hp_4 hs => ?_)
  rw [hp_4.1, hp_4.2] at hs
  refine lv_aload_n hx hb dX4_takePart_20 rfl (lv_at hl 0 rfl) ?_
  refine zg3 E hs (k := 1) rfl 2 (by decide) rfl q_39 dX4_takePart_21 ?_
  refine lv_iconst (v := (-1)) hx hb dX4_takePart_24 (by decide) ?_
  refine zVV E hs lkX4_55 [] (c_X3_fill l x 6 36 ro_6 (zu (mdA ar 6 t f ((nI 1) - (fd 1 9))) 11 (lrF ((mdA ar 6 t f ((nI 1) - (fd 1 9))) 7) t)) (zu fd 1 (zu (fd 1) 8 (nI (f + 1)))) (-1)) (by decide) (sh2 rfl) rfl ⟨Nat.le_of_ble_eq_true rfl, Nat.le_of_ble_eq_true rfl⟩ rfl hl.1 (Nat.le_of_ble_eq_true rfl) rfl dX4_takePart_25 (fun arr_5 fdr_5 H locs hp_6 hs => ?_)
  rw [hp_6.1, hp_6.2] at hs
  refine lv_aload_n hx hb dX4_takePart_28 rfl (lv_at hl 0 rfl) ?_
  refine zVP E hs lkX4_63 [] (c_X4_left l x (zu (zu (mdA ar 6 t f ((nI 1) - (fd 1 9))) 11 (lrF ((mdA ar 6 t f ((nI 1) - (fd 1 9))) 7) t)) 7 (fun _ => (-1))) (zu fd 1 (zu (fd 1) 8 (nI (f + 1))))) (by decide) (sh3 rfl) rfl ⟨Nat.le_of_ble_eq_true rfl, Nat.le_of_ble_eq_true rfl⟩ rfl hl.1 (Nat.le_of_ble_eq_true rfl) rfl dX4_takePart_29 (fun r_7 H locs hp_8 hs => ?_)
  subst hp_8
  refine tp (b := nI (w - (f + 1))) (by rw [zu_s, zu_n _ _ (by decide), zu_s, hw, nI_sub (by omega)]) ?_
  refine lv_iconst (v := nI 1) hx hb dX4_takePart_32 (by decide) ?_
  refine lv_icmp_ne (tgt := 57) hx hb dX4_takePart_33 (by decide) (fun c_9 => ?_) (fun c_9 => ?_)
  · have c_9 : ¬ (w - (f + 1) = 1) := fun h => c_9 ((nI_eq (a := w - (f + 1)) (b := 1) (by omega) (by omega)).mpr h)
    refine lv_aload_n hx hb dX4_takePart_57 rfl (lv_at hl 0 rfl) ?_
    refine lv_iconst (v := nI 1) hx hb dX4_takePart_58 (by decide) ?_
    refine lv_aload_n hx hb dX4_takePart_59 rfl (lv_at hl 0 rfl) ?_
    refine zg3 E hs (k := 1) rfl 9 (by decide) rfl q_54 dX4_takePart_60 ?_
    refine lv_isub hx hb dX4_takePart_63 ?_
    refine zp3_9 E hs (k := 1) (hk := rfl)  q_54 dX4_takePart_64 (fun H locs hs => ?_)
    refine lv_aload_n hx hb dX4_takePart_67 rfl (lv_at hl 0 rfl) ?_
    refine lv_iconst (v := nI 0) hx hb dX4_takePart_68 (by decide) ?_
    refine zp3_10 E hs (k := 1) (hk := rfl)  q_55 dX4_takePart_69 (fun H locs hs => ?_)
    exact zeV E hs (by show (_, _) = sp_takePart ar fd w f t; unfold sp_takePart; rw [iz_f c_9]) dX4_takePart_72
  · have c_9 : w - (f + 1) = 1 := (nI_eq (a := w - (f + 1)) (b := 1) (by omega) (by omega)).mp c_9
    refine lv_aload_n hx hb dX4_takePart_36 rfl (lv_at hl 0 rfl) ?_
    refine lv_aload_n hx hb dX4_takePart_37 rfl (lv_at hl 0 rfl) ?_
    refine zg3 E hs (k := 1) rfl 4 (by decide) rfl q_44 dX4_takePart_38 ?_
    refine lv_iconst (v := nI 0) hx hb dX4_takePart_41 (by decide) ?_
    refine lv_aload_n hx hb dX4_takePart_42 rfl (lv_at hl 0 rfl) ?_
    refine zg3 E hs (k := 1) rfl 9 (by decide) rfl q_54 dX4_takePart_43 ?_
    refine zVV E hs lkX4_71 [] (c_X4_makeDistrict l x 10 ro_10 (by decide) (zu (zu (mdA ar 6 t f ((nI 1) - (fd 1 9))) 11 (lrF ((mdA ar 6 t f ((nI 1) - (fd 1 9))) 7) t)) 7 (fun _ => (-1))) (zu fd 1 (zu (fd 1) 8 (nI (f + 1)))) (f + 1) (by rw [zu_s, zu_s]) (by omega) (nI 0) ((zu fd 1 (zu (fd 1) 8 (nI (f + 1)))) 1 9)) (by decide) (sh3 rfl) rfl ⟨Nat.le_of_ble_eq_true rfl, Nat.le_of_ble_eq_true rfl⟩ rfl hl.1 (Nat.le_of_ble_eq_true rfl) rfl dX4_takePart_46 (fun arr_10 fdr_10 H locs hp_11 hs => ?_)
    rw [hp_11.1, hp_11.2] at hs
    refine lv_aload_n hx hb dX4_takePart_49 rfl (lv_at hl 0 rfl) ?_
    refine lv_iconst (v := nI 2) hx hb dX4_takePart_50 (by decide) ?_
    refine zp3_10 E hs (k := 1) (hk := rfl)  q_55 dX4_takePart_51 (fun H locs hs => ?_)
    refine lv_goto (tgt := 72) hx hb dX4_takePart_54 (by decide) ?_
    exact zeV E hs (by show (_, _) = sp_takePart ar fd w f t; unfold sp_takePart; rw [iz_t c_9]) dX4_takePart_72

noncomputable def sp_startAnew (ar fd : AR) (v : Int32) : AR × AR := (zu (zu (zu (zu ar 7 (fun _ => (-1))) 9 (fun _ => (-1))) 11 (fun _ => (-1))) 13 (fun _ => (-1)), zu (zu (zu (zu fd 1 (zu (fd 1) 7 v)) 1 (zu ((zu fd 1 (zu (fd 1) 7 v)) 1) 8 (nI 0))) 1 (zu ((zu (zu fd 1 (zu (fd 1) 7 v)) 1 (zu ((zu fd 1 (zu (fd 1) 7 v)) 1) 8 (nI 0))) 1) 9 (nI 0))) 1 (zu ((zu (zu (zu fd 1 (zu (fd 1) 7 v)) 1 (zu ((zu fd 1 (zu (fd 1) 7 v)) 1) 8 (nI 0))) 1 (zu ((zu (zu fd 1 (zu (fd 1) 7 v)) 1 (zu ((zu fd 1 (zu (fd 1) 7 v)) 1) 8 (nI 0))) 1) 9 (nI 0))) 1) 10 (nI 0)))
set_option maxHeartbeats 4000000 in
set_option maxRecDepth 100000 in
/-- State.startAnew -/
theorem c_X4_startAnew (l : Launch) (x : CT) (ar fd : AR) (v : Int32) : CV l yX4_startAnew cX4_startAnew 2 1 22 x [.ref (xa x 1), .int v] ar fd (fun ar' fd' => (ar', fd') = sp_startAnew ar fd v) := by
  refine zsV (own := RX4) rfl (by decide +kernel) (Nat.le_of_ble_eq_true rfl) ?_
  intro p e s m below meth c ls E hs hl
  have hx := E.1
  have hb := E.2.1
  have hl : lv_has ls 2 [(0, .ref (xa x 1)), (1, .int v)] := hl
  refine lv_aload_n hx hb dX4_startAnew_0 rfl (lv_at hl 0 rfl) ?_
  refine zg3 E hs (k := 1) rfl 2 (by decide) rfl q_39 dX4_startAnew_1 ?_
  refine lv_iconst (v := (-1)) hx hb dX4_startAnew_4 (by decide) ?_
  refine zVV E hs lkX4_55 [] (c_X3_fill l x 6 36 ro_6 ar fd (-1)) (by decide) (sh2 rfl) rfl ⟨Nat.le_of_ble_eq_true rfl, Nat.le_of_ble_eq_true rfl⟩ rfl hl.1 (Nat.le_of_ble_eq_true rfl) rfl dX4_startAnew_5 (fun arr_1 fdr_1 H locs hp_2 hs => ?_)
  rw [hp_2.1, hp_2.2] at hs
  refine lv_aload_n hx hb dX4_startAnew_8 rfl (lv_at hl 0 rfl) ?_
  refine zg3 E hs (k := 1) rfl 3 (by decide) rfl q_42 dX4_startAnew_9 ?_
  refine lv_iconst (v := (-1)) hx hb dX4_startAnew_12 (by decide) ?_
  refine zVV E hs lkX4_55 [] (c_X3_fill l x 8 36 ro_8 (zu ar 7 (fun _ => (-1))) fd (-1)) (by decide) (sh2 rfl) rfl ⟨Nat.le_of_ble_eq_true rfl, Nat.le_of_ble_eq_true rfl⟩ rfl hl.1 (Nat.le_of_ble_eq_true rfl) rfl dX4_startAnew_13 (fun arr_3 fdr_3 H locs hp_4 hs => ?_)
  rw [hp_4.1, hp_4.2] at hs
  refine lv_aload_n hx hb dX4_startAnew_16 rfl (lv_at hl 0 rfl) ?_
  refine zg3 E hs (k := 1) rfl 4 (by decide) rfl q_44 dX4_startAnew_17 ?_
  refine lv_iconst (v := (-1)) hx hb dX4_startAnew_20 (by decide) ?_
  refine zVV E hs lkX4_55 [] (c_X3_fill l x 10 36 ro_10 (zu (zu ar 7 (fun _ => (-1))) 9 (fun _ => (-1))) fd (-1)) (by decide) (sh2 rfl) rfl ⟨Nat.le_of_ble_eq_true rfl, Nat.le_of_ble_eq_true rfl⟩ rfl hl.1 (Nat.le_of_ble_eq_true rfl) rfl dX4_startAnew_21 (fun arr_5 fdr_5 H locs hp_6 hs => ?_)
  rw [hp_6.1, hp_6.2] at hs
  refine lv_aload_n hx hb dX4_startAnew_24 rfl (lv_at hl 0 rfl) ?_
  refine zg3 E hs (k := 1) rfl 5 (by decide) rfl q_46 dX4_startAnew_25 ?_
  refine lv_iconst (v := (-1)) hx hb dX4_startAnew_28 (by decide) ?_
  refine zVV E hs lkX4_55 [] (c_X3_fill l x 12 9 ro_12 (zu (zu (zu ar 7 (fun _ => (-1))) 9 (fun _ => (-1))) 11 (fun _ => (-1))) fd (-1)) (by decide) (sh2 rfl) rfl ⟨Nat.le_of_ble_eq_true rfl, Nat.le_of_ble_eq_true rfl⟩ rfl hl.1 (Nat.le_of_ble_eq_true rfl) rfl dX4_startAnew_29 (fun arr_7 fdr_7 H locs hp_8 hs => ?_)
  rw [hp_8.1, hp_8.2] at hs
  refine lv_aload_n hx hb dX4_startAnew_32 rfl (lv_at hl 0 rfl) ?_
  refine lv_iload_n hx hb dX4_startAnew_33 rfl (lv_at hl 1 rfl) ?_
  refine zp3_7 E hs (k := 1) (hk := rfl)  q_50 dX4_startAnew_34 (fun H locs hs => ?_)
  refine lv_aload_n hx hb dX4_startAnew_37 rfl (lv_at hl 0 rfl) ?_
  refine lv_iconst (v := nI 0) hx hb dX4_startAnew_38 (by decide) ?_
  refine zp3_8 E hs (k := 1) (hk := rfl)  q_52 dX4_startAnew_39 (fun H locs hs => ?_)
  refine lv_aload_n hx hb dX4_startAnew_42 rfl (lv_at hl 0 rfl) ?_
  refine lv_iconst (v := nI 0) hx hb dX4_startAnew_43 (by decide) ?_
  refine zp3_9 E hs (k := 1) (hk := rfl)  q_54 dX4_startAnew_44 (fun H locs hs => ?_)
  refine lv_aload_n hx hb dX4_startAnew_47 rfl (lv_at hl 0 rfl) ?_
  refine lv_iconst (v := nI 0) hx hb dX4_startAnew_48 (by decide) ?_
  refine zp3_10 E hs (k := 1) (hk := rfl)  q_55 dX4_startAnew_49 (fun H locs hs => ?_)
  exact zeV E hs (by show (_, _) = sp_startAnew ar fd v; unfold sp_startAnew; rfl) dX4_startAnew_52

set_option maxHeartbeats 4000000 in
set_option maxRecDepth 100000 in
/-- State.copy -/
theorem c_X4_copy (l : Launch) (x : CT) (db sb : Nat) (hd : SB db) (hs2 : SB sb) (hds : db + 15 ≤ sb ∨ sb + 15 ≤ db) (ar fd : AR) : CV l yX4_copy cX4_copy 2 2 43 x [.ref (xa x db), .ref (xa x sb)] ar fd (fun ar' fd' => ar' = cpA db sb ar ∧ fd' = zu fd db (fd sb)) := by
  refine zsV (own := RX4) rfl (by decide +kernel) (Nat.le_of_ble_eq_true rfl) ?_
  intro p e s m below meth c ls E hs hl
  have hx := E.1
  have hb := E.2.1
  have hl : lv_has ls 2 [(0, .ref (xa x db)), (1, .ref (xa x sb))] := hl
  have hne : sb ≠ db := by omega
  refine lv_aload_n hx hb dX4_copy_0 rfl (lv_at hl 0 rfl) ?_
  refine zg3 E hs (k := db) hd.1 0 (by decide) rfl q_35 dX4_copy_1 ?_
  refine lv_aload_n hx hb dX4_copy_4 rfl (lv_at hl 1 rfl) ?_
  refine zg3 E hs (k := sb) hs2.1 0 (by decide) rfl q_35 dX4_copy_5 ?_
  refine zVV E hs lkX4_51 [] (c_X3_copy l x (db + 1) (sb + 1) 36 hd.2.1 hs2.2.1 (by omega) ar fd) (kd_lt hd.2.1.1 (by decide)) (sh2 hd.2.1.1) rfl ⟨Nat.le_of_ble_eq_true rfl, Nat.le_of_ble_eq_true rfl⟩ rfl hl.1 (Nat.le_of_ble_eq_true rfl) rfl dX4_copy_8 (fun arr_1 fdr_1 H locs hp_2 hs => ?_)
  rw [hp_2.1, hp_2.2] at hs
  refine lv_aload_n hx hb dX4_copy_11 rfl (lv_at hl 0 rfl) ?_
  refine zg3 E hs (k := db) hd.1 1 (by decide) rfl q_37 dX4_copy_12 ?_
  refine lv_aload_n hx hb dX4_copy_15 rfl (lv_at hl 1 rfl) ?_
  refine zg3 E hs (k := sb) hs2.1 1 (by decide) rfl q_37 dX4_copy_16 ?_
  refine zVV E hs lkX4_51 [] (c_X3_copy l x (db + 3) (sb + 3) 36 hd.2.2.1 hs2.2.2.1 (by omega) (zu ar (db + 2) (ar (sb + 2))) fd) (kd_lt hd.2.2.1.1 (by decide)) (sh2 hd.2.2.1.1) rfl ⟨Nat.le_of_ble_eq_true rfl, Nat.le_of_ble_eq_true rfl⟩ rfl hl.1 (Nat.le_of_ble_eq_true rfl) rfl dX4_copy_19 (fun arr_3 fdr_3 H locs hp_4 hs => ?_)
  rw [hp_4.1, hp_4.2] at hs
  rw [show (zu ar (db + 2) (ar (sb + 2))) (sb + 4) = ar (sb + 4) by rw [zu_n _ _ (by omega)]] at hs
  refine lv_aload_n hx hb dX4_copy_22 rfl (lv_at hl 0 rfl) ?_
  refine zg3 E hs (k := db) hd.1 2 (by decide) rfl q_39 dX4_copy_23 ?_
  refine lv_aload_n hx hb dX4_copy_26 rfl (lv_at hl 1 rfl) ?_
  refine zg3 E hs (k := sb) hs2.1 2 (by decide) rfl q_39 dX4_copy_27 ?_
  refine zVV E hs lkX4_51 [] (c_X3_copy l x (db + 5) (sb + 5) 36 hd.2.2.2.1 hs2.2.2.2.1 (by omega) (zu (zu ar (db + 2) (ar (sb + 2))) (db + 4) (ar (sb + 4))) fd) (kd_lt hd.2.2.2.1.1 (by decide)) (sh2 hd.2.2.2.1.1) rfl ⟨Nat.le_of_ble_eq_true rfl, Nat.le_of_ble_eq_true rfl⟩ rfl hl.1 (Nat.le_of_ble_eq_true rfl) rfl dX4_copy_30 (fun arr_5 fdr_5 H locs hp_6 hs => ?_)
  rw [hp_6.1, hp_6.2] at hs
  rw [show (zu (zu ar (db + 2) (ar (sb + 2))) (db + 4) (ar (sb + 4))) (sb + 6) = ar (sb + 6) by rw [zu_n _ _ (by omega), zu_n _ _ (by omega)]] at hs
  refine lv_aload_n hx hb dX4_copy_33 rfl (lv_at hl 0 rfl) ?_
  refine zg3 E hs (k := db) hd.1 3 (by decide) rfl q_42 dX4_copy_34 ?_
  refine lv_aload_n hx hb dX4_copy_37 rfl (lv_at hl 1 rfl) ?_
  refine zg3 E hs (k := sb) hs2.1 3 (by decide) rfl q_42 dX4_copy_38 ?_
  refine zVV E hs lkX4_51 [] (c_X3_copy l x (db + 7) (sb + 7) 36 hd.2.2.2.2.1 hs2.2.2.2.2.1 (by omega) (zu (zu (zu ar (db + 2) (ar (sb + 2))) (db + 4) (ar (sb + 4))) (db + 6) (ar (sb + 6))) fd) (kd_lt hd.2.2.2.2.1.1 (by decide)) (sh2 hd.2.2.2.2.1.1) rfl ⟨Nat.le_of_ble_eq_true rfl, Nat.le_of_ble_eq_true rfl⟩ rfl hl.1 (Nat.le_of_ble_eq_true rfl) rfl dX4_copy_41 (fun arr_7 fdr_7 H locs hp_8 hs => ?_)
  rw [hp_8.1, hp_8.2] at hs
  rw [show (zu (zu (zu ar (db + 2) (ar (sb + 2))) (db + 4) (ar (sb + 4))) (db + 6) (ar (sb + 6))) (sb + 8) = ar (sb + 8) by rw [zu_n _ _ (by omega), zu_n _ _ (by omega), zu_n _ _ (by omega)]] at hs
  refine lv_aload_n hx hb dX4_copy_44 rfl (lv_at hl 0 rfl) ?_
  refine zg3 E hs (k := db) hd.1 4 (by decide) rfl q_44 dX4_copy_45 ?_
  refine lv_aload_n hx hb dX4_copy_48 rfl (lv_at hl 1 rfl) ?_
  refine zg3 E hs (k := sb) hs2.1 4 (by decide) rfl q_44 dX4_copy_49 ?_
  refine zVV E hs lkX4_51 [] (c_X3_copy l x (db + 9) (sb + 9) 36 hd.2.2.2.2.2.1 hs2.2.2.2.2.2.1 (by omega) (zu (zu (zu (zu ar (db + 2) (ar (sb + 2))) (db + 4) (ar (sb + 4))) (db + 6) (ar (sb + 6))) (db + 8) (ar (sb + 8))) fd) (kd_lt hd.2.2.2.2.2.1.1 (by decide)) (sh2 hd.2.2.2.2.2.1.1) rfl ⟨Nat.le_of_ble_eq_true rfl, Nat.le_of_ble_eq_true rfl⟩ rfl hl.1 (Nat.le_of_ble_eq_true rfl) rfl dX4_copy_52 (fun arr_9 fdr_9 H locs hp_10 hs => ?_)
  rw [hp_10.1, hp_10.2] at hs
  rw [show (zu (zu (zu (zu ar (db + 2) (ar (sb + 2))) (db + 4) (ar (sb + 4))) (db + 6) (ar (sb + 6))) (db + 8) (ar (sb + 8))) (sb + 10) = ar (sb + 10) by rw [zu_n _ _ (by omega), zu_n _ _ (by omega), zu_n _ _ (by omega), zu_n _ _ (by omega)]] at hs
  refine lv_aload_n hx hb dX4_copy_55 rfl (lv_at hl 0 rfl) ?_
  refine zg3 E hs (k := db) hd.1 5 (by decide) rfl q_46 dX4_copy_56 ?_
  refine lv_aload_n hx hb dX4_copy_59 rfl (lv_at hl 1 rfl) ?_
  refine zg3 E hs (k := sb) hs2.1 5 (by decide) rfl q_46 dX4_copy_60 ?_
  refine zVV E hs lkX4_51 [] (c_X3_copy l x (db + 11) (sb + 11) 9 hd.2.2.2.2.2.2.1 hs2.2.2.2.2.2.2.1 (by omega) (zu (zu (zu (zu (zu ar (db + 2) (ar (sb + 2))) (db + 4) (ar (sb + 4))) (db + 6) (ar (sb + 6))) (db + 8) (ar (sb + 8))) (db + 10) (ar (sb + 10))) fd) (kd_lt hd.2.2.2.2.2.2.1.1 (by decide)) (sh2 hd.2.2.2.2.2.2.1.1) rfl ⟨Nat.le_of_ble_eq_true rfl, Nat.le_of_ble_eq_true rfl⟩ rfl hl.1 (Nat.le_of_ble_eq_true rfl) rfl dX4_copy_63 (fun arr_11 fdr_11 H locs hp_12 hs => ?_)
  rw [hp_12.1, hp_12.2] at hs
  rw [show (zu (zu (zu (zu (zu ar (db + 2) (ar (sb + 2))) (db + 4) (ar (sb + 4))) (db + 6) (ar (sb + 6))) (db + 8) (ar (sb + 8))) (db + 10) (ar (sb + 10))) (sb + 12) = ar (sb + 12) by rw [zu_n _ _ (by omega), zu_n _ _ (by omega), zu_n _ _ (by omega), zu_n _ _ (by omega), zu_n _ _ (by omega)]] at hs
  refine lv_aload_n hx hb dX4_copy_66 rfl (lv_at hl 0 rfl) ?_
  refine zg3 E hs (k := db) hd.1 6 (by decide) rfl q_48 dX4_copy_67 ?_
  refine lv_aload_n hx hb dX4_copy_70 rfl (lv_at hl 1 rfl) ?_
  refine zg3 E hs (k := sb) hs2.1 6 (by decide) rfl q_48 dX4_copy_71 ?_
  refine zVV E hs lkX4_51 [] (c_X3_copy l x (db + 13) (sb + 13) 2 hd.2.2.2.2.2.2.2 hs2.2.2.2.2.2.2.2 (by omega) (zu (zu (zu (zu (zu (zu ar (db + 2) (ar (sb + 2))) (db + 4) (ar (sb + 4))) (db + 6) (ar (sb + 6))) (db + 8) (ar (sb + 8))) (db + 10) (ar (sb + 10))) (db + 12) (ar (sb + 12))) fd) (kd_lt hd.2.2.2.2.2.2.2.1 (by decide)) (sh2 hd.2.2.2.2.2.2.2.1) rfl ⟨Nat.le_of_ble_eq_true rfl, Nat.le_of_ble_eq_true rfl⟩ rfl hl.1 (Nat.le_of_ble_eq_true rfl) rfl dX4_copy_74 (fun arr_13 fdr_13 H locs hp_14 hs => ?_)
  rw [hp_14.1, hp_14.2] at hs
  rw [show (zu (zu (zu (zu (zu (zu ar (db + 2) (ar (sb + 2))) (db + 4) (ar (sb + 4))) (db + 6) (ar (sb + 6))) (db + 8) (ar (sb + 8))) (db + 10) (ar (sb + 10))) (db + 12) (ar (sb + 12))) (sb + 14) = ar (sb + 14) by rw [zu_n _ _ (by omega), zu_n _ _ (by omega), zu_n _ _ (by omega), zu_n _ _ (by omega), zu_n _ _ (by omega), zu_n _ _ (by omega)]] at hs
  refine lv_aload_n hx hb dX4_copy_77 rfl (lv_at hl 0 rfl) ?_
  refine lv_aload_n hx hb dX4_copy_78 rfl (lv_at hl 1 rfl) ?_
  refine zg3 E hs (k := sb) hs2.1 7 (by decide) rfl q_50 dX4_copy_79 ?_
  refine zp3_7 E hs (k := db) (hk := hd.1)  q_50 dX4_copy_82 (fun H locs hs => ?_)
  refine lv_aload_n hx hb dX4_copy_85 rfl (lv_at hl 0 rfl) ?_
  refine lv_aload_n hx hb dX4_copy_86 rfl (lv_at hl 1 rfl) ?_
  refine zg3 E hs (k := sb) hs2.1 8 (by decide) rfl q_52 dX4_copy_87 ?_
  refine tp (b := fd sb 8) (by simp only [zu_n _ _ hne]) ?_
  refine zp3_8 E hs (k := db) (hk := hd.1)  q_52 dX4_copy_90 (fun H locs hs => ?_)
  refine lv_aload_n hx hb dX4_copy_93 rfl (lv_at hl 0 rfl) ?_
  refine lv_aload_n hx hb dX4_copy_94 rfl (lv_at hl 1 rfl) ?_
  refine zg3 E hs (k := sb) hs2.1 9 (by decide) rfl q_54 dX4_copy_95 ?_
  refine tp (b := fd sb 9) (by simp only [zu_n _ _ hne]) ?_
  refine zp3_9 E hs (k := db) (hk := hd.1)  q_54 dX4_copy_98 (fun H locs hs => ?_)
  refine lv_aload_n hx hb dX4_copy_101 rfl (lv_at hl 0 rfl) ?_
  refine lv_aload_n hx hb dX4_copy_102 rfl (lv_at hl 1 rfl) ?_
  refine zg3 E hs (k := sb) hs2.1 10 (by decide) rfl q_55 dX4_copy_103 ?_
  refine tp (b := fd sb 10) (by simp only [zu_n _ _ hne]) ?_
  refine zp3_10 E hs (k := db) (hk := hd.1)  q_55 dX4_copy_106 (fun H locs hs => ?_)
  have hs : ST x (AA x) s.heap (cpA db sb ar) (zu fd db (fd sb)) H locs := ⟨wl_F hs.1 (fun q => by
    by_cases e : q = db
    · subst e
      rw [sh3 hd.1, sh3 hd.1]
      simp [fl3, zu]
    · simp only [zu_n _ _ e]), hs.2⟩
  exact zeV E hs ⟨rfl, rfl⟩ dX4_copy_109
end
section

/-! the text, and the history -/
def alw (f : Nat → Int32) (i : Nat) : Prop := (i % 3 = 2 ∧ f i = nI 44) ∨ (¬ i % 3 = 2 ∧ ¬ f i < nI 48 ∧ ¬ nI 57 < f i)
noncomputable def flt (f : Nat → Int32) (n : Nat) : Int32 := iz (ffst (fun i => ¬ alw f i) n 0 = -1) (iz (n % 3 = 2) (-1) (nI n)) (ffst (fun i => ¬ alw f i) n 0)
/-- what a char array holds are chars -/
def CHS (f : Nat → Int32) : Prop := ∀ i, i < 60 → narrow .char (.int (f i)) = .int (f i)
theorem xor4 : ∀ n, n < 8 → (0 : Int32) ≤ nI n ^^^ nI 4 := by decide +kernel
theorem sh10 {x : CT} {k : Nat} {a f : Nat → Int32} (h : kd k = 10) : sh x k a f = .inl (xS x, 4, .inr (.inr (.inr (.inr (fun i => some (xa x (18 + 15 * i))))))) := by simp only [sh, h]
theorem sb_sl {j : Nat} (h : j < 4) : SB (18 + 15 * j) := by
  rcases (show j = 0 ∨ j = 1 ∨ j = 2 ∨ j = 3 by omega) with rfl | rfl | rfl | rfl
  · exact sb_18
  · exact sb_33
  · exact sb_48
  · exact sb_63
section RW10
variable {p : Program} {l : Launch} {e : Env} {R : Room} {s : State} {m : MethodId} {args : Array Value} {below : List Frame} {meth : Method} {c : Code} {H : Heap} {locs : List Loc} {cells slots : Nat} {Q : State → Prop}
variable {cc : ByteArray} {nL : Nat} {own : String} {rt : Option FieldType} {A0 : Nat → Prop} {x : CT} {H0 : Heap} {ar fd : AR} {pc : Nat} {ls : Array Slot} {rest : List Value}
theorem zalen10 (E : EV p R s m args meth c cc nL own rt cells slots A0 x) (hs : ST x A0 H0 ar fd H locs) (hdg : decode cc pc = .ok (.arraylength, 1))
    (kk : W p l e R s m args below meth c H locs cells slots Q (F0 m (pc + 1) ls (.int (nI 4) :: rest))) : W p l e R s m args below meth c H locs cells slots Q (F0 m pc ls (.ref (xa x 17) :: rest)) :=
  va_alen (v := nI 4) E.1 E.2.1 E.K hs.1 17 3 ((wl_get (by decide)).trans (by rw [sh10 rfl])) rfl rfl hdg kk
theorem zald10 (E : EV p R s m args meth c cc nL own rt cells slots A0 x) (hs : ST x A0 H0 ar fd H locs) {j : Nat} (hj : j < 4) (hdg : decode cc pc = .ok (.aaload, 1))
    (kk : W p l e R s m args below meth c H locs cells slots Q (F0 m (pc + 1) ls (.ref (xa x (18 + 15 * j)) :: rest))) : W p l e R s m args below meth c H locs cells slots Q (F0 m pc ls (.int (nI j) :: .ref (xa x 17) :: rest)) := by
  refine va_aldq (C := RX4) E.1 E.2.1 E.K hs.1 17 3 ((wl_get (by decide)).trans (by rw [sh10 rfl])) rfl (vp_in_nI hj (by decide)) hdg ?_
  rw [nI_clamp (by omega)]
  exact kk
end RW10

set_option maxHeartbeats 4000000 in
set_option maxRecDepth 100000 in
/-- VoteText.length -/
theorem c_X5_length (l : Launch) (x : CT) (ar fd : AR) (n : Nat) (hn : fd 93 1 = nI n) (hn60 : n ≤ 60) : CP l yX5_length cX5_length 1 (some .int) 0 0 x [.ref (xa x 93)] ar fd (fun r => r = nI n) := by
  refine zsP (own := RX5) rfl (by decide +kernel) (Nat.le_of_ble_eq_true rfl) ?_
  intro p e s m below meth c ls E hs hl
  have hx := E.1
  have hb := E.2.1
  have hl : lv_has ls 1 [(0, .ref (xa x 93))] := hl
  refine lv_aload_n hx hb dX5_length_0 rfl (lv_at hl 0 rfl) ?_
  refine zg4 E hs (k := 93) rfl 1 (by decide) rfl q_106 dX5_length_1 ?_
  refine tp (b := nI n) hn ?_
  exact zeP E hs rfl dX5_length_4

noncomputable def sp_append (ar fd : AR) (n : Nat) (ch : Int32) : Int32 × AR × AR := iz (n < 60) ((nI 1, zu ar 94 (zu (ar 94) n (vp_nar .char ch)), zu fd 93 (zu (fd 93) 1 (nI (n + 1))))) ((nI 0, ar, fd))
set_option maxHeartbeats 4000000 in
set_option maxRecDepth 100000 in
/-- VoteText.append -/
theorem c_X5_append (l : Launch) (x : CT) (ar fd : AR) (n : Nat) (hn : fd 93 1 = nI n) (hn60 : n ≤ 60) (ch : Int32) : CI l yX5_append cX5_append 2 (some .boolean) 0 0 x [.ref (xa x 93), .int ch] ar fd (fun r ar' fd' => (r, ar', fd') = sp_append ar fd n ch) := by
  refine zsI (own := RX5) rfl (by decide +kernel) (Nat.le_of_ble_eq_true rfl) ?_
  intro p e s m below meth c ls E hs hl
  have hx := E.1
  have hb := E.2.1
  have hl : lv_has ls 2 [(0, .ref (xa x 93)), (1, .int ch)] := hl
  refine lv_aload_n hx hb dX5_append_0 rfl (lv_at hl 0 rfl) ?_
  refine zg4 E hs (k := 93) rfl 1 (by decide) rfl q_106 dX5_append_1 ?_
  refine tp (b := nI n) hn ?_
  refine lv_if_lt (tgt := 19) hx hb dX5_append_4 (by decide) (fun c_1 => ?_) (fun c_1 => ?_)
  · have c_1 : n < 0 := (nI_ltI (a := n) (b := 0) (by omega) (by omega)).mp c_1
    exfalso; omega
  · have c_1 : ¬ (n < 0) := fun h => c_1 ((nI_ltI (a := n) (b := 0) (by omega) (by omega)).mpr h)
    refine lv_aload_n hx hb dX5_append_7 rfl (lv_at hl 0 rfl) ?_
    refine zg4 E hs (k := 93) rfl 1 (by decide) rfl q_106 dX5_append_8 ?_
    refine tp (b := nI n) hn ?_
    refine lv_aload_n hx hb dX5_append_11 rfl (lv_at hl 0 rfl) ?_
    refine zg4 E hs (k := 93) rfl 0 (by decide) rfl q_105 dX5_append_12 ?_
    refine zalen8 E hs 94 (n := 60) rfl rfl dX5_append_15 ?_
    refine lv_icmp_lt (tgt := 21) hx hb dX5_append_16 (by decide) (fun c_2 => ?_) (fun c_2 => ?_)
    · have c_2 : n < 60 := (nI_ltI (a := n) (b := 60) (by omega) (by omega)).mp c_2
      refine lv_aload_n hx hb dX5_append_21 rfl (lv_at hl 0 rfl) ?_
      refine zg4 E hs (k := 93) rfl 0 (by decide) rfl q_105 dX5_append_22 ?_
      refine lv_aload_n hx hb dX5_append_25 rfl (lv_at hl 0 rfl) ?_
      refine zg4 E hs (k := 93) rfl 1 (by decide) rfl q_106 dX5_append_26 ?_
      refine tp (b := nI n) hn ?_
      refine lv_iload_n hx hb dX5_append_29 rfl (lv_at hl 1 rfl) ?_
      refine zast8 E hs 94 (n := 60) (j := n) rfl rfl (by omega) (by decide) dX5_append_30 (fun H locs hs => ?_)
      refine lv_aload_n hx hb dX5_append_31 rfl (lv_at hl 0 rfl) ?_
      refine lv_dup hx hb dX5_append_32 rfl ?_
      refine zg4 E hs (k := 93) rfl 1 (by decide) rfl q_106 dX5_append_33 ?_
      refine tp (b := nI n) hn ?_
      refine lv_iconst (v := nI 1) hx hb dX5_append_36 (by decide) ?_
      refine lv_iadd hx hb dX5_append_37 ?_
      refine tp (b := nI (n + 1)) (nI_add _ _) ?_
      refine zp4_1 E hs (k := 93) (hk := rfl)  q_106 dX5_append_38 (fun H locs hs => ?_)
      refine lv_iconst (v := nI 1) hx hb dX5_append_41 (by decide) ?_
      exact zeIn E hs rfl (by show (_, _, _) = sp_append ar fd n ch; unfold sp_append; rw [iz_t c_2]) dX5_append_42
    · have c_2 : ¬ (n < 60) := fun h => c_2 ((nI_ltI (a := n) (b := 60) (by omega) (by omega)).mpr h)
      refine lv_iconst (v := nI 0) hx hb dX5_append_19 (by decide) ?_
      exact zeIn E hs rfl (by show (_, _, _) = sp_append ar fd n ch; unfold sp_append; rw [iz_f c_2]) dX5_append_20

noncomputable def sp_empty (ar fd : AR) : AR × AR := (ar, zu fd 93 (zu (fd 93) 1 (nI 0)))
set_option maxHeartbeats 4000000 in
set_option maxRecDepth 100000 in
/-- VoteText.empty -/
theorem c_X5_empty (l : Launch) (x : CT) (ar fd : AR)  : CV l yX5_empty cX5_empty 1 0 0 x [.ref (xa x 93)] ar fd (fun ar' fd' => (ar', fd') = sp_empty ar fd) := by
  refine zsV (own := RX5) rfl (by decide +kernel) (Nat.le_of_ble_eq_true rfl) ?_
  intro p e s m below meth c ls E hs hl
  have hx := E.1
  have hb := E.2.1
  have hl : lv_has ls 1 [(0, .ref (xa x 93))] := hl
  refine lv_aload_n hx hb dX5_empty_0 rfl (lv_at hl 0 rfl) ?_
  refine lv_iconst (v := nI 0) hx hb dX5_empty_1 (by decide) ?_
  refine zp4_1 E hs (k := 93) (hk := rfl)  q_106 dX5_empty_2 (fun H locs hs => ?_)
  exact zeV E hs (by show (_, _) = sp_empty ar fd; unfold sp_empty; rfl) dX5_empty_5

set_option maxHeartbeats 4000000 in
set_option maxRecDepth 100000 in
/-- VoteText.at -/
theorem c_X5_at (l : Launch) (x : CT) (ar fd : AR) (i : Nat) (hi : i < 60) (hC : CHS (ar 94)) : CP l yX5_at cX5_at 2 (some .char) 0 0 x [.ref (xa x 93), .int (nI i)] ar fd (fun r => r = ar 94 i) := by
  refine zsP (own := RX5) rfl (by decide +kernel) (Nat.le_of_ble_eq_true rfl) ?_
  intro p e s m below meth c ls E hs hl
  have hx := E.1
  have hb := E.2.1
  have hl : lv_has ls 2 [(0, .ref (xa x 93)), (1, .int (nI i))] := hl
  refine lv_iload_n hx hb dX5_at_0 rfl (lv_at hl 1 rfl) ?_
  refine lv_if_lt (tgt := 22) hx hb dX5_at_1 (by decide) (fun c_1 => ?_) (fun c_1 => ?_)
  · have c_1 : i < 0 := (nI_ltI (a := i) (b := 0) (by omega) (by omega)).mp c_1
    exfalso; omega
  · have c_1 : ¬ (i < 0) := fun h => c_1 ((nI_ltI (a := i) (b := 0) (by omega) (by omega)).mpr h)
    refine lv_iload_n hx hb dX5_at_4 rfl (lv_at hl 1 rfl) ?_
    refine lv_aload_n hx hb dX5_at_5 rfl (lv_at hl 0 rfl) ?_
    refine zg4 E hs (k := 93) rfl 0 (by decide) rfl q_105 dX5_at_6 ?_
    refine zalen8 E hs 94 (n := 60) rfl rfl dX5_at_9 ?_
    refine lv_icmp_ge (tgt := 22) hx hb dX5_at_10 (by decide) (fun c_2 => ?_) (fun c_2 => ?_)
    · have c_2 : 60 ≤ i := (nI_leI (a := 60) (b := i) (by omega) (by omega)).mp c_2
      exfalso; omega
    · have c_2 : ¬ (60 ≤ i) := fun h => c_2 ((nI_leI (a := 60) (b := i) (by omega) (by omega)).mpr h)
      refine lv_aload_n hx hb dX5_at_13 rfl (lv_at hl 0 rfl) ?_
      refine zg4 E hs (k := 93) rfl 0 (by decide) rfl q_105 dX5_at_14 ?_
      refine lv_iload_n hx hb dX5_at_17 rfl (lv_at hl 1 rfl) ?_
      refine zald8 E hs 94 (n := 60) (j := i) rfl rfl (by omega) (by decide) dX5_at_18 ?_
      refine lv_goto (tgt := 24) hx hb dX5_at_19 (by decide) ?_
      exact zePn E hs (hC i hi) rfl dX5_at_24

set_option maxHeartbeats 4000000 in
set_option maxRecDepth 100000 in
/-- VoteText.isAllowed -/
theorem c_X5_isAllowed (l : Launch) (x : CT) (ar fd : AR) (i : Nat) (hi : i < 60) (hC : CHS (ar 94)) : CP l yX5_isAllowed cX5_isAllowed 3 (some .boolean) 1 21 x [.ref (xa x 93), .int (nI i)] ar fd (fun r => r = bz (alw (ar 94) i)) := by
  refine zsP (own := RX5) rfl (by decide +kernel) (Nat.le_of_ble_eq_true rfl) ?_
  intro p e s m below meth c ls E hs hl
  have hx := E.1
  have hb := E.2.1
  have hl : lv_has ls 3 [(0, .ref (xa x 93)), (1, .int (nI i))] := hl
  refine lv_aload_n hx hb dX5_isAllowed_0 rfl (lv_at hl 0 rfl) ?_
  refine lv_iload_n hx hb dX5_isAllowed_1 rfl (lv_at hl 1 rfl) ?_
  refine zVP E hs lkX5_23 [] (c_X5_at l x ar fd i (by omega) hC) (by decide) (sh4 rfl) rfl ⟨Nat.le_of_ble_eq_true rfl, Nat.le_of_ble_eq_true rfl⟩ rfl hl.1 (Nat.le_of_ble_eq_true rfl) rfl dX5_isAllowed_2 (fun r_1 H locs hp_2 hs => ?_)
  subst hp_2
  refine lv_istore_n (lv' := [(2, .int (ar 94 i)), (0, .ref (xa x 93)), (1, .int (nI i))]) hx hb dX5_isAllowed_5 rfl hl (by decide) rfl (fun ls hl => ?_)
  refine lv_iload_n hx hb dX5_isAllowed_6 rfl (lv_at hl 2 rfl) ?_
  refine lv_iconst (v := nI 3) hx hb dX5_isAllowed_7 (by decide) ?_
  refine lv_irem hx hb dX5_isAllowed_8 (by decide) ?_
  refine tp (b := nI (i % 3)) (nI_rem (by omega) (by omega)) ?_
  refine lv_iconst (v := nI 2) hx hb dX5_isAllowed_9 (by decide) ?_
  refine lv_icmp_ne (tgt := 25) hx hb dX5_isAllowed_10 (by decide) (fun c_3 => ?_) (fun c_3 => ?_)
  · have c_3 : ¬ (i % 3 = 2) := fun h => c_3 ((nI_eq (a := i % 3) (b := 2) (by omega) (by omega)).mpr h)
    refine lv_iload_n hx hb dX5_isAllowed_25 rfl (lv_at hl 0 rfl) ?_
    refine lv_bipush (v := nI 48) hx hb dX5_isAllowed_26 (by decide) ?_
    refine lv_icmp_lt (tgt := 41) hx hb dX5_isAllowed_28 (by decide) (fun c_4 => ?_) (fun c_4 => ?_)
    · refine lv_iconst (v := nI 0) hx hb dX5_isAllowed_41 (by decide) ?_
      exact zePn E hs rfl (bz_f (fun h => by rcases h with ⟨h1, h2⟩ | ⟨h1, h2, h3⟩ <;> contradiction)).symm dX5_isAllowed_42
    · refine lv_iload_n hx hb dX5_isAllowed_31 rfl (lv_at hl 0 rfl) ?_
      refine lv_bipush (v := nI 57) hx hb dX5_isAllowed_32 (by decide) ?_
      refine lv_icmp_gt (tgt := 41) hx hb dX5_isAllowed_34 (by decide) (fun c_5 => ?_) (fun c_5 => ?_)
      · refine lv_iconst (v := nI 0) hx hb dX5_isAllowed_41 (by decide) ?_
        exact zePn E hs rfl (bz_f (fun h => by rcases h with ⟨h1, h2⟩ | ⟨h1, h2, h3⟩ <;> contradiction)).symm dX5_isAllowed_42
      · refine lv_iconst (v := nI 1) hx hb dX5_isAllowed_37 (by decide) ?_
        refine lv_goto (tgt := 42) hx hb dX5_isAllowed_38 (by decide) ?_
        exact zePn E hs rfl (bz_t (Or.inr ⟨c_3, c_4, c_5⟩)).symm dX5_isAllowed_42
  · have c_3 : i % 3 = 2 := (nI_eq (a := i % 3) (b := 2) (by omega) (by omega)).mp c_3
    refine lv_iload_n hx hb dX5_isAllowed_13 rfl (lv_at hl 0 rfl) ?_
    refine lv_bipush (v := nI 44) hx hb dX5_isAllowed_14 (by decide) ?_
    refine lv_icmp_ne (tgt := 23) hx hb dX5_isAllowed_16 (by decide) (fun c_6 => ?_) (fun c_6 => ?_)
    · refine lv_iconst (v := nI 0) hx hb dX5_isAllowed_23 (by decide) ?_
      exact zePn E hs rfl (bz_f (fun h => by rcases h with ⟨h1, h2⟩ | ⟨h1, h2, h3⟩ <;> contradiction)).symm dX5_isAllowed_24
    · refine lv_iconst (v := nI 1) hx hb dX5_isAllowed_19 (by decide) ?_
      refine lv_goto (tgt := 24) hx hb dX5_isAllowed_20 (by decide) ?_
      exact zePn E hs rfl (bz_t (Or.inl ⟨c_3, c_6⟩)).symm dX5_isAllowed_24

set_option maxHeartbeats 4000000 in
set_option maxRecDepth 100000 in
/-- VoteText.fault -/
theorem c_X5_fault (l : Launch) (x : CT) (ar fd : AR) (n : Nat) (hn : fd 93 1 = nI n) (hn60 : n ≤ 60) (hC : CHS (ar 94)) : CP l yX5_fault cX5_fault 2 (some .int) 2 43 x [.ref (xa x 93)] ar fd (fun r => r = flt (ar 94) n) := by
  refine zsP (own := RX5) rfl (by decide +kernel) (Nat.le_of_ble_eq_true rfl) ?_
  intro p e s m below meth c ls E hs hl
  have hx := E.1
  have hb := E.2.1
  have hl : lv_has ls 2 [(0, .ref (xa x 93))] := hl
  refine lv_iconst (v := nI 0) hx hb dX5_fault_0 (by decide) ?_
  refine lv_istore_n (lv' := [(1, .int (nI 0)), (0, .ref (xa x 93))]) hx hb dX5_fault_1 rfl hl (by decide) rfl (fun ls hl => ?_)
  have L_1 : ∀ (mm : Nat) (i : Nat), (n - i) < mm → (i ≤ n) → (ffst (fun i => ¬ alw (ar 94) i) n 0 = ffst (fun i => ¬ alw (ar 94) i) (n - i) i) → ∀ (H : Heap) (locs : List Loc) (ls : Array Slot), ST x (AA x) s.heap ar fd H locs → lv_has ls 2 [(0, .ref (xa x 93)), (1, .int (nI i))] → W p l e (rmZ 2 43) s m ([.ref (xa x 93)] : List Value).toArray below meth c H locs 0 0 (QP below x [.ref (xa x 93)] ar fd s (fun r => r = flt (ar 94) n)) (F0 m 2 ls []) := by
    intro mm
    induction mm with
    | zero => intro i hmu; exact absurd hmu (Nat.not_lt_zero _)
    | succ mm ih_1 =>
      intro i hmu hi h1 H locs ls hs hl
      refine lv_iload_n hx hb dX5_fault_2 rfl (lv_at hl 1 rfl) ?_
      refine lv_aload_n hx hb dX5_fault_3 rfl (lv_at hl 0 rfl) ?_
      refine zg4 E hs (k := 93) rfl 1 (by decide) rfl q_106 dX5_fault_4 ?_
      refine tp (b := nI n) hn ?_
      refine lv_icmp_ge (tgt := 26) hx hb dX5_fault_7 (by decide) (fun c_2 => ?_) (fun c_2 => ?_)
      · have c_2 : n ≤ i := (nI_leI (a := n) (b := i) (by omega) (by omega)).mp c_2
        refine lv_aload_n hx hb dX5_fault_26 rfl (lv_at hl 0 rfl) ?_
        refine zg4 E hs (k := 93) rfl 1 (by decide) rfl q_106 dX5_fault_27 ?_
        refine tp (b := nI n) hn ?_
        refine lv_iconst (v := nI 3) hx hb dX5_fault_30 (by decide) ?_
        refine lv_irem hx hb dX5_fault_31 (by decide) ?_
        refine tp (b := nI (n % 3)) (nI_rem (by omega) (by omega)) ?_
        refine lv_iconst (v := nI 2) hx hb dX5_fault_32 (by decide) ?_
        refine lv_icmp_ne (tgt := 40) hx hb dX5_fault_33 (by decide) (fun c_3 => ?_) (fun c_3 => ?_)
        · have c_3 : ¬ (n % 3 = 2) := fun h => c_3 ((nI_eq (a := n % 3) (b := 2) (by omega) (by omega)).mpr h)
          refine lv_aload_n hx hb dX5_fault_40 rfl (lv_at hl 0 rfl) ?_
          refine zg4 E hs (k := 93) rfl 1 (by decide) rfl q_106 dX5_fault_41 ?_
          refine tp (b := nI n) hn ?_
          exact zeP E hs (by unfold flt; rw [h1, ffst_e (by omega), iz_t rfl, iz_f c_3]) dX5_fault_44
        · have c_3 : n % 3 = 2 := (nI_eq (a := n % 3) (b := 2) (by omega) (by omega)).mp c_3
          refine lv_iconst (v := (-1)) hx hb dX5_fault_36 (by decide) ?_
          refine lv_goto (tgt := 44) hx hb dX5_fault_37 (by decide) ?_
          exact zeP E hs (by unfold flt; rw [h1, ffst_e (by omega), iz_t rfl, iz_t c_3]) dX5_fault_44
      · have c_2 : ¬ (n ≤ i) := fun h => c_2 ((nI_leI (a := n) (b := i) (by omega) (by omega)).mpr h)
        refine lv_aload_n hx hb dX5_fault_10 rfl (lv_at hl 0 rfl) ?_
        refine lv_iload_n hx hb dX5_fault_11 rfl (lv_at hl 1 rfl) ?_
        refine zVP E hs lkX5_19 [] (c_X5_isAllowed l x ar fd i (by omega) hC) (by decide) (sh4 rfl) rfl ⟨Nat.le_of_ble_eq_true rfl, Nat.le_of_ble_eq_true rfl⟩ rfl hl.1 (Nat.le_of_ble_eq_true rfl) rfl dX5_fault_12 (fun r_4 H locs hp_5 hs => ?_)
        subst hp_5
        refine lv_if_ne (tgt := 20) hx hb dX5_fault_15 (by decide) (fun c_6 => ?_) (fun c_6 => ?_)
        · have c_6 : alw (ar 94) i := bz_1 c_6
          refine lv_iinc (v := nI (i + 1)) (lv' := [(1, .int (nI (i + 1))), (0, .ref (xa x 93))]) hx hb dX5_fault_20 hl (k := 1) rfl (nI_inc _) (by decide) rfl (fun ls hl => ?_)
          refine lv_goto (tgt := 2) hx hb dX5_fault_23 (by decide) ?_
          exact ih_1 (i + 1) (by omega) (by omega) (h1.trans (ffst_f (by omega) (not_not_intro c_6))) _ _ _ hs (lvr (lv_at hl 1 rfl) (lvr (lv_at hl 0 rfl) (lvn hl)))
        · have c_6 : ¬ (alw (ar 94) i) := bz_0 c_6
          refine lv_iload_n hx hb dX5_fault_18 rfl (lv_at hl 1 rfl) ?_
          exact zeP E hs (by unfold flt; rw [h1, ffst_t (by omega) c_6, iz_f (nI_nm (by omega))]) dX5_fault_19
  exact L_1 (_ + 1) 0 (Nat.lt_succ_self _) (by omega) rfl _ _ _ hs (lvr (lv_at hl 1 rfl) (lvr (lv_at hl 0 rfl) (lvn hl)))

set_option maxHeartbeats 4000000 in
set_option maxRecDepth 100000 in
/-- VoteText.pairs -/
theorem c_X5_pairs (l : Launch) (x : CT) (ar fd : AR) (n : Nat) (hn : fd 93 1 = nI n) (hn60 : n ≤ 60) : CP l yX5_pairs cX5_pairs 1 (some .int) 0 0 x [.ref (xa x 93)] ar fd (fun r => r = nI ((n + 1) / 3)) := by
  refine zsP (own := RX5) rfl (by decide +kernel) (Nat.le_of_ble_eq_true rfl) ?_
  intro p e s m below meth c ls E hs hl
  have hx := E.1
  have hb := E.2.1
  have hl : lv_has ls 1 [(0, .ref (xa x 93))] := hl
  refine lv_aload_n hx hb dX5_pairs_0 rfl (lv_at hl 0 rfl) ?_
  refine zg4 E hs (k := 93) rfl 1 (by decide) rfl q_106 dX5_pairs_1 ?_
  refine tp (b := nI n) hn ?_
  refine lv_iconst (v := nI 1) hx hb dX5_pairs_4 (by decide) ?_
  refine lv_iadd hx hb dX5_pairs_5 ?_
  refine tp (b := nI (n + 1)) (nI_add _ _) ?_
  refine lv_iconst (v := nI 3) hx hb dX5_pairs_6 (by decide) ?_
  refine lv_idiv hx hb dX5_pairs_7 (by decide) ?_
  refine tp (b := nI ((n + 1) / 3)) (nI_div (by omega) (by omega)) ?_
  exact zeP E hs rfl dX5_pairs_8

set_option maxHeartbeats 4000000 in
set_option maxRecDepth 100000 in
/-- VoteText.votes -/
theorem c_X5_votes (l : Launch) (x : CT) (ar fd : AR) (pr sd : Nat) (hps : pr * 3 + sd < 60) (hC : CHS (ar 94)) : CP l yX5_votes cX5_votes 3 (some .int) 1 21 x [.ref (xa x 93), .int (nI pr), .int (nI sd)] ar fd (fun r => r = ar 94 (pr * 3 + sd) - nI 48) := by
  refine zsP (own := RX5) rfl (by decide +kernel) (Nat.le_of_ble_eq_true rfl) ?_
  intro p e s m below meth c ls E hs hl
  have hx := E.1
  have hb := E.2.1
  have hl : lv_has ls 3 [(0, .ref (xa x 93)), (1, .int (nI pr)), (2, .int (nI sd))] := hl
  refine lv_aload_n hx hb dX5_votes_0 rfl (lv_at hl 0 rfl) ?_
  refine lv_iload_n hx hb dX5_votes_1 rfl (lv_at hl 1 rfl) ?_
  refine lv_iconst (v := nI 3) hx hb dX5_votes_2 (by decide) ?_
  refine lv_imul hx hb dX5_votes_3 ?_
  refine tp (b := nI (pr * 3)) (nI_mul _ _) ?_
  refine lv_iload_n hx hb dX5_votes_4 rfl (lv_at hl 2 rfl) ?_
  refine lv_iadd hx hb dX5_votes_5 ?_
  refine tp (b := nI ((pr * 3) + sd)) (nI_add _ _) ?_
  refine zVP E hs lkX5_23 [] (c_X5_at l x ar fd ((pr * 3) + sd) (by omega) hC) (by decide) (sh4 rfl) rfl ⟨Nat.le_of_ble_eq_true rfl, Nat.le_of_ble_eq_true rfl⟩ rfl hl.1 (Nat.le_of_ble_eq_true rfl) rfl dX5_votes_6 (fun r_1 H locs hp_2 hs => ?_)
  subst hp_2
  refine lv_bipush (v := nI 48) hx hb dX5_votes_9 (by decide) ?_
  refine lv_isub hx hb dX5_votes_11 ?_
  exact zeP E hs rfl dX5_votes_12

set_option maxHeartbeats 4000000 in
set_option maxRecDepth 100000 in
/-- Math.floorMod -/
theorem c_J9_floorMod_7cf53 (l : Launch) (x : CT) (ar fd : AR) (n : Nat) (hn : n < 8) : CP l yJ9_floorMod_7cf53 cJ9_floorMod_7cf53 3 (some .int) 0 0 x [.int (nI n), .int (nI 4)] ar fd (fun r => r = nI (n % 4)) := by
  refine zsP (own := RJ9) rfl (by decide +kernel) (Nat.le_of_ble_eq_true rfl) ?_
  intro p e s m below meth c ls E hs hl
  have hx := E.1
  have hb := E.2.1
  have hl : lv_has ls 3 [(0, .int (nI n)), (1, .int (nI 4))] := hl
  refine lv_iload_n hx hb dJ9_floorMod_7cf53_0 rfl (lv_at hl 0 rfl) ?_
  refine lv_iload_n hx hb dJ9_floorMod_7cf53_1 rfl (lv_at hl 1 rfl) ?_
  refine lv_irem hx hb dJ9_floorMod_7cf53_2 (by decide) ?_
  refine tp (b := nI (n % 4)) (nI_rem (by omega) (by omega)) ?_
  refine lv_istore_n (lv' := [(2, .int (nI (n % 4))), (0, .int (nI n)), (1, .int (nI 4))]) hx hb dJ9_floorMod_7cf53_3 rfl hl (by decide) rfl (fun ls hl => ?_)
  refine lv_iload_n hx hb dJ9_floorMod_7cf53_4 rfl (lv_at hl 1 rfl) ?_
  refine lv_iload_n hx hb dJ9_floorMod_7cf53_5 rfl (lv_at hl 2 rfl) ?_
  refine lv_ixor hx hb dJ9_floorMod_7cf53_6 ?_
  refine lv_if_ge (tgt := 18) hx hb dJ9_floorMod_7cf53_7 (by decide) (fun c_1 => ?_) (fun c_1 => ?_)
  · refine lv_iload_n hx hb dJ9_floorMod_7cf53_18 rfl (lv_at hl 0 rfl) ?_
    exact zeP E hs rfl dJ9_floorMod_7cf53_19
  · exact absurd (xor4 n hn) c_1

set_option maxHeartbeats 4000000 in
set_option maxRecDepth 100000 in
/-- History.slotAt -/
theorem c_X1_slotAt (l : Launch) (x : CT) (ar fd : AR) (o a : Nat) (ho : o < 4) (ha : a ≤ 4) (hof : fd 16 1 = nI o) : CR l yX1_slotAt cX1_slotAt 3 (some (.object "FrozenDistricts$State")) 1 22 x [.ref (xa x 16), .int (nI a)] ar fd (fun r => r = xa x (18 + 15 * ((o + a) % 4))) := by
  refine zsR (own := RX1) rfl (by decide +kernel) (Nat.le_of_ble_eq_true rfl) ?_
  intro p e s m below meth c ls E hs hl
  have hx := E.1
  have hb := E.2.1
  have hl : lv_has ls 3 [(0, .ref (xa x 16)), (1, .int (nI a))] := hl
  refine lv_aload_n hx hb dX1_slotAt_0 rfl (lv_at hl 0 rfl) ?_
  refine zg0 E hs (k := 16) rfl 1 (by decide) rfl q_90 dX1_slotAt_1 ?_
  refine tp (b := nI o) hof ?_
  refine lv_iload_n hx hb dX1_slotAt_4 rfl (lv_at hl 1 rfl) ?_
  refine lv_iadd hx hb dX1_slotAt_5 ?_
  refine tp (b := nI (o + a)) (nI_add _ _) ?_
  refine lv_iconst (v := nI 4) hx hb dX1_slotAt_6 (by decide) ?_
  refine zSP E hs lkX1_33 [] (c_J9_floorMod_7cf53 l x ar fd (o + a) (by omega)) ⟨Nat.le_of_ble_eq_true rfl, Nat.le_of_ble_eq_true rfl⟩ rfl hl.1 (Nat.le_of_ble_eq_true rfl) rfl dX1_slotAt_7 (fun r_1 H locs hp_2 hs => ?_)
  subst hp_2
  refine lv_istore_n (lv' := [(2, .int (nI ((o + a) % 4))), (0, .ref (xa x 16)), (1, .int (nI a))]) hx hb dX1_slotAt_10 rfl hl (by decide) rfl (fun ls hl => ?_)
  refine lv_iload_n hx hb dX1_slotAt_11 rfl (lv_at hl 0 rfl) ?_
  refine lv_if_lt (tgt := 33) hx hb dX1_slotAt_12 (by decide) (fun c_3 => ?_) (fun c_3 => ?_)
  · have c_3 : (o + a) % 4 < 0 := (nI_ltI (a := (o + a) % 4) (b := 0) (by omega) (by omega)).mp c_3
    exfalso; omega
  · have c_3 : ¬ ((o + a) % 4 < 0) := fun h => c_3 ((nI_ltI (a := (o + a) % 4) (b := 0) (by omega) (by omega)).mpr h)
    refine lv_iload_n hx hb dX1_slotAt_15 rfl (lv_at hl 0 rfl) ?_
    refine lv_aload_n hx hb dX1_slotAt_16 rfl (lv_at hl 1 rfl) ?_
    refine zg0 E hs (k := 16) rfl 0 (by decide) rfl q_89 dX1_slotAt_17 ?_
    refine zalen10 E hs dX1_slotAt_20 ?_
    refine lv_icmp_ge (tgt := 33) hx hb dX1_slotAt_21 (by decide) (fun c_4 => ?_) (fun c_4 => ?_)
    · have c_4 : 4 ≤ (o + a) % 4 := (nI_leI (a := 4) (b := (o + a) % 4) (by omega) (by omega)).mp c_4
      exfalso; omega
    · have c_4 : ¬ (4 ≤ (o + a) % 4) := fun h => c_4 ((nI_leI (a := 4) (b := (o + a) % 4) (by omega) (by omega)).mpr h)
      refine lv_aload_n hx hb dX1_slotAt_24 rfl (lv_at hl 1 rfl) ?_
      refine zg0 E hs (k := 16) rfl 0 (by decide) rfl q_89 dX1_slotAt_25 ?_
      refine lv_iload_n hx hb dX1_slotAt_28 rfl (lv_at hl 0 rfl) ?_
      refine zald10 E hs (j := ((o + a) % 4)) (by omega) dX1_slotAt_29 ?_
      refine lv_goto (tgt := 34) hx hb dX1_slotAt_30 (by decide) ?_
      exact zeR E hs rfl dX1_slotAt_34

set_option maxHeartbeats 4000000 in
set_option maxRecDepth 100000 in
/-- History.size -/
theorem c_X1_size (l : Launch) (x : CT) (ar fd : AR)  : CP l yX1_size cX1_size 1 (some .int) 0 0 x [.ref (xa x 16)] ar fd (fun r => r = fd 16 2) := by
  refine zsP (own := RX1) rfl (by decide +kernel) (Nat.le_of_ble_eq_true rfl) ?_
  intro p e s m below meth c ls E hs hl
  have hx := E.1
  have hb := E.2.1
  have hl : lv_has ls 1 [(0, .ref (xa x 16))] := hl
  refine lv_aload_n hx hb dX1_size_0 rfl (lv_at hl 0 rfl) ?_
  refine zg0 E hs (k := 16) rfl 2 (by decide) rfl q_91 dX1_size_1 ?_
  exact zeP E hs rfl dX1_size_4

noncomputable def sp_record (ar fd : AR) (o z : Nat) : AR × AR := iz (4 ≤ z) ((cpA (18 + 15 * ((o + z) % 4)) 1 ar, zu (zu fd (18 + 15 * ((o + z) % 4)) (fd 1)) 16 (zu ((zu fd (18 + 15 * ((o + z) % 4)) (fd 1)) 16) 1 (nI ((o + 1) % 4))))) ((cpA (18 + 15 * ((o + z) % 4)) 1 ar, zu (zu fd (18 + 15 * ((o + z) % 4)) (fd 1)) 16 (zu ((zu fd (18 + 15 * ((o + z) % 4)) (fd 1)) 16) 2 (nI (z + 1)))))
set_option maxHeartbeats 4000000 in
set_option maxRecDepth 100000 in
/-- History.record -/
theorem c_X1_record (l : Launch) (x : CT) (ar fd : AR) (o z : Nat) (hof : fd 16 1 = nI o) (hz : fd 16 2 = nI z) (ho : o < 4) (hz4 : z ≤ 4) : CV l yX1_record cX1_record 3 3 64 x [.ref (xa x 16), .ref (xa x 1)] ar fd (fun ar' fd' => (ar', fd') = sp_record ar fd o z) := by
  refine zsV (own := RX1) rfl (by decide +kernel) (Nat.le_of_ble_eq_true rfl) ?_
  intro p e s m below meth c ls E hs hl
  have hx := E.1
  have hb := E.2.1
  have hl : lv_has ls 3 [(0, .ref (xa x 16)), (1, .ref (xa x 1))] := hl
  refine lv_aload_n hx hb dX1_record_0 rfl (lv_at hl 0 rfl) ?_
  refine lv_aload_n hx hb dX1_record_1 rfl (lv_at hl 0 rfl) ?_
  refine zg0 E hs (k := 16) rfl 2 (by decide) rfl q_91 dX1_record_2 ?_
  refine tp (b := nI z) hz ?_
  refine zVR E hs lkX1_25 [] (c_X1_slotAt l x ar fd o z ho (by omega) hof) (by decide) (sh0 rfl) rfl ⟨Nat.le_of_ble_eq_true rfl, Nat.le_of_ble_eq_true rfl⟩ rfl hl.1 (Nat.le_of_ble_eq_true rfl) rfl dX1_record_5 (fun r_1 H locs hp_2 hs => ?_)
  subst hp_2
  refine lv_astore_n (lv' := [(2, .ref (xa x (18 + 15 * ((o + z) % 4)))), (0, .ref (xa x 16)), (1, .ref (xa x 1))]) hx hb dX1_record_8 rfl hl (by decide) rfl (fun ls hl => ?_)
  refine lv_aload_n hx hb dX1_record_9 rfl (lv_at hl 0 rfl) ?_
  refine lv_ifnonnull (tgt := 14) hx hb dX1_record_10 (by decide) ?_
  refine lv_aload_n hx hb dX1_record_14 rfl (lv_at hl 0 rfl) ?_
  refine lv_aload_n hx hb dX1_record_15 rfl (lv_at hl 2 rfl) ?_
  refine zVV E hs lkX1_29 [] (c_X4_copy l x (18 + 15 * ((o + z) % 4)) 1 (sb_sl (j := (o + z) % 4) (by omega)) sb_1 (by omega) ar fd) (kd_lt (sb_sl (j := (o + z) % 4) (by omega)).1 (by decide)) (sh3 (sb_sl (j := (o + z) % 4) (by omega)).1) rfl ⟨Nat.le_of_ble_eq_true rfl, Nat.le_of_ble_eq_true rfl⟩ rfl hl.1 (Nat.le_of_ble_eq_true rfl) rfl dX1_record_16 (fun arr_3 fdr_3 H locs hp_4 hs => ?_)
  rw [hp_4.1, hp_4.2] at hs
  refine lv_aload_n hx hb dX1_record_19 rfl (lv_at hl 1 rfl) ?_
  refine zg0 E hs (k := 16) rfl 2 (by decide) rfl q_91 dX1_record_20 ?_
  refine tp (b := nI z) (by rw [zu_n _ _ (by omega), hz]) ?_
  refine lv_iconst (v := nI 4) hx hb dX1_record_23 (by decide) ?_
  refine lv_icmp_ge (tgt := 40) hx hb dX1_record_24 (by decide) (fun c_5 => ?_) (fun c_5 => ?_)
  · have c_5 : 4 ≤ z := (nI_leI (a := 4) (b := z) (by omega) (by omega)).mp c_5
    refine lv_aload_n hx hb dX1_record_40 rfl (lv_at hl 1 rfl) ?_
    refine lv_aload_n hx hb dX1_record_41 rfl (lv_at hl 1 rfl) ?_
    refine zg0 E hs (k := 16) rfl 1 (by decide) rfl q_90 dX1_record_42 ?_
    refine tp (b := nI o) (by rw [zu_n _ _ (by omega), hof]) ?_
    refine lv_iconst (v := nI 1) hx hb dX1_record_45 (by decide) ?_
    refine lv_iadd hx hb dX1_record_46 ?_
    refine tp (b := nI (o + 1)) (nI_add _ _) ?_
    refine lv_iconst (v := nI 4) hx hb dX1_record_47 (by decide) ?_
    refine lv_irem hx hb dX1_record_48 (by decide) ?_
    refine tp (b := nI ((o + 1) % 4)) (nI_rem (by omega) (by omega)) ?_
    refine zp0_1 E hs (k := 16) (hk := rfl)  q_90 dX1_record_49 (fun H locs hs => ?_)
    exact zeV E hs (by show (_, _) = sp_record ar fd o z; unfold sp_record; rw [iz_t c_5]) dX1_record_52
  · have c_5 : ¬ (4 ≤ z) := fun h => c_5 ((nI_leI (a := 4) (b := z) (by omega) (by omega)).mpr h)
    refine lv_aload_n hx hb dX1_record_27 rfl (lv_at hl 1 rfl) ?_
    refine lv_dup hx hb dX1_record_28 rfl ?_
    refine zg0 E hs (k := 16) rfl 2 (by decide) rfl q_91 dX1_record_29 ?_
    refine tp (b := nI z) (by rw [zu_n _ _ (by omega), hz]) ?_
    refine lv_iconst (v := nI 1) hx hb dX1_record_32 (by decide) ?_
    refine lv_iadd hx hb dX1_record_33 ?_
    refine tp (b := nI (z + 1)) (nI_add _ _) ?_
    refine zp0_2 E hs (k := 16) (hk := rfl)  q_91 dX1_record_34 (fun H locs hs => ?_)
    refine lv_goto (tgt := 52) hx hb dX1_record_37 (by decide) ?_
    exact zeV E hs (by show (_, _) = sp_record ar fd o z; unfold sp_record; rw [iz_f c_5]) dX1_record_52

noncomputable def sp_takeLatest (ar fd : AR) (o z : Nat) : AR × AR := (cpA 1 (18 + 15 * ((o + (z - 1)) % 4)) ar, zu (zu fd 1 (fd (18 + 15 * ((o + (z - 1)) % 4)))) 16 (zu ((zu fd 1 (fd (18 + 15 * ((o + (z - 1)) % 4)))) 16) 2 (nI (z - 1))))
set_option maxHeartbeats 4000000 in
set_option maxRecDepth 100000 in
/-- History.takeLatest -/
theorem c_X1_takeLatest (l : Launch) (x : CT) (ar fd : AR) (o z : Nat) (hof : fd 16 1 = nI o) (hz : fd 16 2 = nI z) (ho : o < 4) (hz4 : z ≤ 4) (hz1 : 1 ≤ z) : CV l yX1_takeLatest cX1_takeLatest 3 3 64 x [.ref (xa x 16), .ref (xa x 1)] ar fd (fun ar' fd' => (ar', fd') = sp_takeLatest ar fd o z) := by
  refine zsV (own := RX1) rfl (by decide +kernel) (Nat.le_of_ble_eq_true rfl) ?_
  intro p e s m below meth c ls E hs hl
  have hx := E.1
  have hb := E.2.1
  have hl : lv_has ls 3 [(0, .ref (xa x 16)), (1, .ref (xa x 1))] := hl
  refine lv_aload_n hx hb dX1_takeLatest_0 rfl (lv_at hl 0 rfl) ?_
  refine lv_aload_n hx hb dX1_takeLatest_1 rfl (lv_at hl 0 rfl) ?_
  refine zg0 E hs (k := 16) rfl 2 (by decide) rfl q_91 dX1_takeLatest_2 ?_
  refine tp (b := nI z) hz ?_
  refine lv_iconst (v := nI 1) hx hb dX1_takeLatest_5 (by decide) ?_
  refine lv_isub hx hb dX1_takeLatest_6 ?_
  refine tp (b := nI (z - 1)) (nI_sub (by omega)) ?_
  refine zVR E hs lkX1_25 [] (c_X1_slotAt l x ar fd o (z - 1) ho (by omega) hof) (by decide) (sh0 rfl) rfl ⟨Nat.le_of_ble_eq_true rfl, Nat.le_of_ble_eq_true rfl⟩ rfl hl.1 (Nat.le_of_ble_eq_true rfl) rfl dX1_takeLatest_7 (fun r_1 H locs hp_2 hs => ?_)
  subst hp_2
  refine lv_astore_n (lv' := [(2, .ref (xa x (18 + 15 * ((o + (z - 1)) % 4)))), (0, .ref (xa x 16)), (1, .ref (xa x 1))]) hx hb dX1_takeLatest_10 rfl hl (by decide) rfl (fun ls hl => ?_)
  refine lv_aload_n hx hb dX1_takeLatest_11 rfl (lv_at hl 1 rfl) ?_
  refine zg0 E hs (k := 16) rfl 2 (by decide) rfl q_91 dX1_takeLatest_12 ?_
  refine tp (b := nI z) hz ?_
  refine lv_if_eq (tgt := 22) hx hb dX1_takeLatest_15 (by decide) (fun c_3 => ?_) (fun c_3 => ?_)
  · have c_3 : z = 0 := (nI_eq (a := z) (b := 0) (by omega) (by omega)).mp c_3
    exfalso; omega
  · have c_3 : ¬ (z = 0) := fun h => c_3 ((nI_eq (a := z) (b := 0) (by omega) (by omega)).mpr h)
    refine lv_aload_n hx hb dX1_takeLatest_18 rfl (lv_at hl 0 rfl) ?_
    refine lv_ifnonnull (tgt := 23) hx hb dX1_takeLatest_19 (by decide) ?_
    refine lv_aload_n hx hb dX1_takeLatest_23 rfl (lv_at hl 2 rfl) ?_
    refine lv_aload_n hx hb dX1_takeLatest_24 rfl (lv_at hl 0 rfl) ?_
    refine zVV E hs lkX1_29 [] (c_X4_copy l x 1 (18 + 15 * ((o + (z - 1)) % 4)) sb_1 (sb_sl (j := (o + (z - 1)) % 4) (by omega)) (by omega) ar fd) (by decide) (sh3 rfl) rfl ⟨Nat.le_of_ble_eq_true rfl, Nat.le_of_ble_eq_true rfl⟩ rfl hl.1 (Nat.le_of_ble_eq_true rfl) rfl dX1_takeLatest_25 (fun arr_4 fdr_4 H locs hp_5 hs => ?_)
    rw [hp_5.1, hp_5.2] at hs
    refine lv_aload_n hx hb dX1_takeLatest_28 rfl (lv_at hl 1 rfl) ?_
    refine lv_dup hx hb dX1_takeLatest_29 rfl ?_
    refine zg0 E hs (k := 16) rfl 2 (by decide) rfl q_91 dX1_takeLatest_30 ?_
    refine tp (b := nI z) (by rw [zu_n _ _ (by omega), hz]) ?_
    refine lv_iconst (v := nI 1) hx hb dX1_takeLatest_33 (by decide) ?_
    refine lv_isub hx hb dX1_takeLatest_34 ?_
    refine tp (b := nI (z - 1)) (nI_sub (by omega)) ?_
    refine zp0_2 E hs (k := 16) (hk := rfl)  q_91 dX1_takeLatest_35 (fun H locs hs => ?_)
    exact zeV E hs (by show (_, _) = sp_takeLatest ar fd o z; unfold sp_takeLatest; rfl) dX1_takeLatest_38
end
section

/-! connected pieces -/
def CLS (f : Nat → Int32) (v : Int32) (S : Nat → Prop) : Prop := ∀ c, c < 36 → S c → ∀ sd, sd < 4 → ∀ d, d < 36 → nb c sd = nI d → f d = v → S d
/-- from a one can come to y, over cells of the area v -/
def RC (f : Nat → Int32) (v : Int32) (a y : Nat) : Prop := ∀ S : Nat → Prop, S a → CLS f v S → S y
theorem RC.rf {f : Nat → Int32} {v : Int32} (a : Nat) : RC f v a a := fun _ h _ => h
theorem RC.step {f : Nat → Int32} {v : Int32} {a c d sd : Nat} (h : RC f v a c) (hc : c < 36) (hs : sd < 4) (hd : d < 36) (hn : nb c sd = nI d) (hf : f d = v) : RC f v a d := fun S h1 h2 => h2 c hc (h S h1 h2) sd hs d hd hn hf
theorem RC.tr {f : Nat → Int32} {v : Int32} {a b y : Nat} (h : RC f v a b) (h2 : RC f v b y) : RC f v a y := fun S s1 s2 => h2 S (h S s1 s2) s2
def SEEN (f : Nat → Int32) (v : Int32) (i d : Nat) : Prop := ∃ b, b < i ∧ f b = v ∧ RC f v b d
def fresh (f : Nat → Int32) (v : Int32) (c : Nat) : Prop := f c = v ∧ ¬ SEEN f v c c
/-- how many connected pieces the cells below n begin -/
noncomputable def pcN (f : Nat → Int32) (v : Int32) (n : Nat) : Nat := ct (fresh f v) n
theorem pc_le (f : Nat → Int32) (v : Int32) (n : Nat) : pcN f v n ≤ n := ct_le _ _
theorem seen_cls (f : Nat → Int32) (v : Int32) (i : Nat) : CLS f v (SEEN f v i) := fun c hc ⟨b, h1, h2, h3⟩ sd hs d hd hn hf => ⟨b, h1, h2, h3.step hc hs hd hn hf⟩
theorem seen_0 {f : Nat → Int32} {v : Int32} {d : Nat} : ¬ SEEN f v 0 d := fun ⟨b, h, _⟩ => absurd h (Nat.not_lt_zero b)
theorem seen_n {f : Nat → Int32} {v : Int32} {i d : Nat} (h : ¬ f i = v) : SEEN f v (i + 1) d ↔ SEEN f v i d := by
  constructor
  · rintro ⟨b, h1, h2, h3⟩
    by_cases e : b = i
    · subst e; exact absurd h2 h
    · exact ⟨b, by omega, h2, h3⟩
  · rintro ⟨b, h1, h2, h3⟩
    exact ⟨b, by omega, h2, h3⟩
theorem seen_o {f : Nat → Int32} {v : Int32} {i d : Nat} (h : SEEN f v i i) : SEEN f v (i + 1) d ↔ SEEN f v i d := by
  constructor
  · rintro ⟨b, h1, h2, h3⟩
    by_cases e : b = i
    · subst e
      obtain ⟨b2, g1, g2, g3⟩ := h
      exact ⟨b2, g1, g2, g3.tr h3⟩
    · exact ⟨b, by omega, h2, h3⟩
  · rintro ⟨b, h1, h2, h3⟩
    exact ⟨b, by omega, h2, h3⟩
theorem seen_y {f : Nat → Int32} {v : Int32} {i d : Nat} (h : f i = v) : SEEN f v (i + 1) d ↔ SEEN f v i d ∨ RC f v i d := by
  constructor
  · rintro ⟨b, h1, h2, h3⟩
    by_cases e : b = i
    · subst e; exact Or.inr h3
    · exact Or.inl ⟨b, by omega, h2, h3⟩
  · rintro (⟨b, h1, h2, h3⟩ | h3)
    · exact ⟨b, by omega, h2, h3⟩
    · exact ⟨i, by omega, h, h3⟩
theorem ct_add {P R : Nat → Prop} {d : Nat} (hd : ¬ P d) (h : ∀ n, R n ↔ P n ∨ n = d) : ∀ n, (n ≤ d → ct R n = ct P n) ∧ (d < n → ct R n = ct P n + 1) := by
  intro n
  induction n with
  | zero => exact ⟨fun _ => rfl, fun q => absurd q (Nat.not_lt_zero d)⟩
  | succ n ih =>
    refine ⟨fun q => ?_, fun q => ?_⟩
    · rw [ct_s, ct_s, ih.1 (by omega), iz_c (P := R n) (Q := P n) ((h n).trans ⟨fun z => z.elim id (fun e => absurd e (by omega)), Or.inl⟩)]
    · by_cases e : n = d
      · subst e
        rw [ct_t ((h n).mpr (Or.inr rfl)), ct_f hd, ih.1 (Nat.le_refl _)]
      · rw [ct_s, ct_s, ih.2 (by omega), iz_c (P := R n) (Q := P n) ((h n).trans ⟨fun z => z.elim id (fun e2 => absurd e2 e), Or.inl⟩)]
        omega
theorem ct_lt {P : Nat → Prop} {d n : Nat} (hd : ¬ P d) (h : d < n) : ct P n < n := by
  have h1 := (ct_add (R := fun e => P e ∨ e = d) hd (fun _ => Iff.rfl) n).2 h
  have h2 := ct_le (fun e => P e ∨ e = d) n
  omega
def DN (f g1 : Nat → Int32) (v : Int32) (c n : Nat) : Prop := ∀ sd, sd < n → ∀ d, d < 36 → nb c sd = nI d → f d = v → ¬ g1 d = 0
/-- the search from i: what was reached before it (g), what is now (g1), the queue, of which t of wt cells are done -/
def BI (f g g1 q : Nat → Int32) (v : Int32) (i t wt : Nat) : Prop :=
  t ≤ wt ∧ (∀ j, j < wt → ∃ d, d < 36 ∧ q j = nI d ∧ RC f v i d) ∧ (∀ d, d < 36 → ¬ g d = 0 → ¬ g1 d = 0) ∧ (∀ d, d < 36 → ¬ g1 d = 0 → ¬ g d = 0 ∨ ∃ j, j < wt ∧ q j = nI d) ∧ (∀ j c, j < t → c < 36 → q j = nI c → DN f g1 v c 4) ∧ wt + ct (fun d => ¬ g d = 0) 36 = ct (fun d => ¬ g1 d = 0) 36
theorem one_n0 : ¬ nI 1 = 0 := by decide
theorem n0_put {g : Nat → Int32} {d e : Nat} (he : ¬ g e = 0) : ¬ zu g d (nI 1) e = 0 := by
  by_cases q : e = d
  · subst q; rw [zu_s]; exact one_n0
  · rw [zu_n _ _ q]; exact he
theorem ct_put {g : Nat → Int32} {d : Nat} (hd : d < 36) (h : g d = 0) : ct (fun e => ¬ zu g d (nI 1) e = 0) 36 = ct (fun e => ¬ g e = 0) 36 + 1 := by
  refine (ct_add (P := fun e => ¬ g e = 0) (d := d) (not_not_intro h) (fun n => ?_) 36).2 hd
  by_cases e : n = d
  · subst e; rw [zu_s]; exact ⟨fun _ => Or.inr rfl, fun _ => one_n0⟩
  · rw [zu_n _ _ e]; exact ⟨Or.inl, fun z => z.elim id (fun q => absurd q e)⟩
theorem bi_0 {f g q : Nat → Int32} {v : Int32} {i : Nat} (hi : i < 36) (hg : g i = 0) : BI f g (zu g i (nI 1)) (zu q 0 (nI i)) v i 0 1 := by
  refine ⟨by omega, fun j hj => ⟨i, hi, ?_, RC.rf i⟩, fun d hd h => ?_, fun d hd h => ?_, fun j c hj => absurd hj (Nat.not_lt_zero j), ?_⟩
  · rw [show j = 0 by omega, zu_s]
  · by_cases e : d = i
    · subst e; rw [zu_s]; exact one_n0
    · rw [zu_n _ _ e]; exact h
  · by_cases e : d = i
    · subst e; exact Or.inr ⟨0, by omega, zu_s _ _ _⟩
    · rw [zu_n _ _ e] at h; exact Or.inl h
  · rw [ct_put hi hg]; omega
theorem bi_lt {f g g1 q : Nat → Int32} {v : Int32} {i t wt d : Nat} (h : BI f g g1 q v i t wt) (hd : d < 36) (hg : g1 d = 0) : wt < 36 := by
  have h1 := ct_lt (P := fun e => ¬ g1 e = 0) (not_not_intro hg) hd
  have h2 := h.2.2.2.2.2
  omega
theorem bi_add {f g g1 q : Nat → Int32} {v : Int32} {i t wt c sd d : Nat} (h : BI f g g1 q v i t wt) (ht : t < wt) (hc : c < 36) (hR : RC f v i c) (hs : sd < 4) (hd : d < 36) (hn : nb c sd = nI d) (hf : f d = v) (hg : g1 d = 0) : BI f g (zu g1 d (nI 1)) (zu q wt (nI d)) v i t (wt + 1) := by
  obtain ⟨h1, h2, h3, h4, h5, h6⟩ := h
  have hup : ∀ e, ¬ g1 e = 0 → ¬ zu g1 d (nI 1) e = 0 := by
    intro e he
    by_cases q : e = d
    · subst q; rw [zu_s]; exact one_n0
    · rw [zu_n _ _ q]; exact he
  refine ⟨by omega, fun j hj => ?_, fun e he z => hup e (h3 e he z), fun e he z => ?_, fun j b hj hb hq => ?_, ?_⟩
  · by_cases q : j = wt
    · subst q; exact ⟨d, hd, zu_s _ _ _, hR.step hc hs hd hn hf⟩
    · rw [zu_n _ _ q]; exact h2 j (by omega)
  · by_cases q : e = d
    · subst q; exact Or.inr ⟨wt, by omega, zu_s _ _ _⟩
    · rw [zu_n _ _ q] at z
      rcases h4 e he z with z | ⟨j, z1, z2⟩
      · exact Or.inl z
      · exact Or.inr ⟨j, by omega, by rw [zu_n _ _ (by omega)]; exact z2⟩
  · rw [zu_n _ _ (by omega)] at hq
    exact fun s2 hs2 e he hne hfe => hup e (h5 j b hj hb hq s2 hs2 e he hne hfe)
  · rw [ct_put hd hg]; omega
theorem bi_next {f g g1 q : Nat → Int32} {v : Int32} {i t wt c : Nat} (h : BI f g g1 q v i t wt) (ht : t < wt) (hq : q t = nI c) (hc : c < 36) (hD : DN f g1 v c 4) : BI f g g1 q v i (t + 1) wt := by
  obtain ⟨h1, h2, h3, h4, h5, h6⟩ := h
  refine ⟨by omega, h2, h3, h4, fun j b hj hb e => ?_, h6⟩
  by_cases z : j = t
  · subst z
    have := (nI_eq (by omega) (by omega)).mp (hq.symm.trans e)
    subst this
    exact hD
  · exact h5 j b (by omega) hb e
theorem bi_end {f g g1 q : Nat → Int32} {v : Int32} {i t wt : Nat} (h : BI f g g1 q v i t wt) (ht : wt ≤ t) (hi : ¬ g1 i = 0) (hc : CLS f v (fun d => ¬ g d = 0)) : ∀ d, d < 36 → (¬ g1 d = 0 ↔ ¬ g d = 0 ∨ RC f v i d) := by
  obtain ⟨h1, h2, h3, h4, h5, h6⟩ := h
  refine fun d hd => ⟨fun z => ?_, fun z => ?_⟩
  · rcases h4 d hd z with z | ⟨j, z1, z2⟩
    · exact Or.inl z
    · obtain ⟨e, he, z3, z4⟩ := h2 j z1
      have := (nI_eq (by omega) (by omega)).mp (z2.symm.trans z3)
      subst this
      exact Or.inr z4
  · rcases z with z | z
    · exact h3 d hd z
    · refine z (fun d => ¬ g1 d = 0) hi (fun c hcl hc1 sd hs e he hn hf => ?_)
      rcases h4 c hcl hc1 with q | ⟨j, z1, z2⟩
      · exact h3 e he (hc c hcl q sd hs e he hn hf)
      · exact h5 j c (by omega) hcl z2 sd hs e he hn hf
theorem dn_0 {f g1 : Nat → Int32} {v : Int32} {c : Nat} : DN f g1 v c 0 := fun sd h => absurd h (Nat.not_lt_zero sd)
theorem dn_m {f g1 : Nat → Int32} {v : Int32} {c sd : Nat} (h : DN f g1 v c sd) (hn : nb c sd = -1) : DN f g1 v c (sd + 1) := by
  intro s2 hs2 d hd hn2 hf
  by_cases e : s2 = sd
  · subst e; exact absurd (hn2.symm.trans hn) (nI_nm (by omega))
  · exact h s2 (by omega) d hd hn2 hf
theorem dn_s {f g1 : Nat → Int32} {v : Int32} {c sd d : Nat} (h : DN f g1 v c sd) (hd : d < 36) (hn : nb c sd = nI d) (hz : f d = v → ¬ g1 d = 0) : DN f g1 v c (sd + 1) := by
  intro s2 hs2 e he hn2 hf
  by_cases q : s2 = sd
  · subst q
    have := (nI_eq (by omega) (by omega)).mp (hn2.symm.trans hn)
    subst this
    exact hz hf
  · exact h s2 (by omega) e he hn2 hf
theorem dn_p {f g1 : Nat → Int32} {v : Int32} {c sd d : Nat} (h : DN f g1 v c sd) (hd : d < 36) (hn : nb c sd = nI d) : DN f (zu g1 d (nI 1)) v c (sd + 1) := by
  have hup : ∀ e, ¬ g1 e = 0 → ¬ zu g1 d (nI 1) e = 0 := by
    intro e he
    by_cases q : e = d
    · subst q; rw [zu_s]; exact one_n0
    · rw [zu_n _ _ q]; exact he
  exact dn_s (fun s2 hs2 e he hn2 hf => hup e (h s2 hs2 e he hn2 hf)) hd hn (fun _ => by rw [zu_s]; exact one_n0)
theorem nb_or : ∀ c, c < 36 → ∀ sd, sd < 4 → (∃ d, d < 36 ∧ nb c sd = nI d) ∨ nb c sd = -1 := by
  have h : ∀ c, c < 36 → ∀ sd, sd < 4 → ((nb c sd).toNatClampNeg < 36 ∧ nb c sd = nI (nb c sd).toNatClampNeg) ∨ nb c sd = -1 := by decide +kernel
  intro c hc sd hs
  rcases h c hc sd hs with ⟨a, b⟩ | a
  · exact Or.inl ⟨_, a, b⟩
  · exact Or.inr a
/-- the judge's two rows alone may differ -/
def JQ (ar ar' : AR) : Prop := ∀ k, k ≠ 97 → k ≠ 99 → ar' k = ar k
theorem JQ.rf (ar : AR) : JQ ar ar := fun _ _ _ => rfl
theorem JQ.tr {a b c : AR} (h : JQ a b) (h2 : JQ b c) : JQ a c := fun k h1 h3 => (h2 k h1 h3).trans (h k h1 h3)
theorem JQ.z7 {a b : AR} (h : JQ a b) (g : Nat → Int32) : JQ a (zu b 97 g) := fun k h1 h3 => (zu_n _ _ h1).trans (h k h1 h3)
theorem JQ.z9 {a b : AR} (h : JQ a b) (g : Nat → Int32) : JQ a (zu b 99 g) := fun k h1 h3 => (zu_n _ _ h3).trans (h k h1 h3)
noncomputable def wpI (ar : AR) : Int32 := ffst (fun c => ar 9 c = -1 ∧ ar 7 c = -1) 36 0
noncomputable def osI (ar : AR) (w f : Nat) : Int32 := ffst (fun p => ¬ ct (fun i => ar 7 i = nI p) 36 = 36 / w) (w - f) 0
noncomputable def ncI (ar : AR) (w f : Nat) : Int32 := ffst (fun p => ¬ pcN (ar 7) (nI p) 36 = 1) (w - f) 0
noncomputable def rsn (A B C : Int32) : Int32 := iz (A = -1) (iz (B = -1) (iz (C = -1) (nI 0) (nI 3)) (nI 2)) (nI 1)
noncomputable def rsnA (ar : AR) (w f : Nat) : Int32 := rsn (wpI ar) (osI ar w f) (ncI ar w f)
theorem rsn_c (A B C : Int32) : rsn A B C = nI 0 ∨ rsn A B C = nI 1 ∨ rsn A B C = nI 2 ∨ rsn A B C = nI 3 := by
  unfold rsn
  by_cases h : A = -1
  · rw [iz_t h]
    by_cases h2 : B = -1
    · rw [iz_t h2]
      by_cases h3 : C = -1
      · rw [iz_t h3]; exact Or.inl rfl
      · rw [iz_f h3]; exact Or.inr (Or.inr (Or.inr rfl))
    · rw [iz_f h2]; exact Or.inr (Or.inr (Or.inl rfl))
  · rw [iz_f h]; exact Or.inr (Or.inl rfl)
theorem sw3 {x : Int32} (h : x = nI 0 ∨ x = nI 1 ∨ x = nI 2 ∨ x = nI 3) (h1 : ¬ x = nI 1) (h2 : ¬ x = nI 2) (h3 : ¬ x = nI 3) : x.toInt < 1 ∨ 3 < x.toInt := by
  rcases h with h | h | h | h
  · left; rw [h]; decide
  · exact absurd h h1
  · exact absurd h h2
  · exact absurd h h3
noncomputable def blm (ar : AR) (w f : Nat) : Int32 := iz (rsnA ar w f = nI 1) (wpI ar) (iz (rsnA ar w f = nI 2) (osI ar w f) (iz (rsnA ar w f = nI 3) (ncI ar w f) (-1)))
theorem wpI_J {a b : AR} (h : JQ a b) : wpI b = wpI a := by unfold wpI; rw [h 9 (by decide) (by decide), h 7 (by decide) (by decide)]
theorem osI_J {a b : AR} {w f : Nat} (h : JQ a b) : osI b w f = osI a w f := by unfold osI; rw [h 7 (by decide) (by decide)]
theorem ncI_J {a b : AR} {w f : Nat} (h : JQ a b) : ncI b w f = ncI a w f := by unfold ncI; rw [h 7 (by decide) (by decide)]
theorem rsnA_J {a b : AR} {w f : Nat} (h : JQ a b) : rsnA b w f = rsnA a w f := by unfold rsnA; rw [wpI_J h, osI_J h, ncI_J h]

set_option maxHeartbeats 4000000 in
set_option maxRecDepth 100000 in
/-- Judge.withoutPart -/
theorem c_X2_withoutPart (l : Launch) (x : CT) (ar fd : AR)  : CP l yX2_withoutPart cX2_withoutPart 2 (some .int) 2 42 x [.ref (xa x 1)] ar fd (fun r => r = wpI ar) := by
  refine zsP (own := RX2) rfl (by decide +kernel) (Nat.le_of_ble_eq_true rfl) ?_
  intro p e s m below meth c ls E hs hl
  have hx := E.1
  have hb := E.2.1
  have hl : lv_has ls 2 [(0, .ref (xa x 1))] := hl
  refine lv_iconst (v := nI 0) hx hb dX2_withoutPart_0 (by decide) ?_
  refine lv_istore_n (lv' := [(1, .int (nI 0)), (0, .ref (xa x 1))]) hx hb dX2_withoutPart_1 rfl hl (by decide) rfl (fun ls hl => ?_)
  have L_1 : ∀ (mm : Nat) (i : Nat), (36 - i) < mm → (i ≤ 36) → (wpI ar = ffst (fun c => ar 9 c = -1 ∧ ar 7 c = -1) (36 - i) i) → ∀ (H : Heap) (locs : List Loc) (ls : Array Slot), ST x (AA x) s.heap ar fd H locs → lv_has ls 2 [(0, .ref (xa x 1)), (1, .int (nI i))] → W p l e (rmZ 2 42) s m ([.ref (xa x 1)] : List Value).toArray below meth c H locs 0 0 (QP below x [.ref (xa x 1)] ar fd s (fun r => r = wpI ar)) (F0 m 2 ls []) := by
    intro mm
    induction mm with
    | zero => intro i hmu; exact absurd hmu (Nat.not_lt_zero _)
    | succ mm ih_1 =>
      intro i hmu hi h1 H locs ls hs hl
      refine lv_iload_n hx hb dX2_withoutPart_2 rfl (lv_at hl 1 rfl) ?_
      refine lv_bipush (v := nI 36) hx hb dX2_withoutPart_3 (by decide) ?_
      refine lv_icmp_ge (tgt := 36) hx hb dX2_withoutPart_5 (by decide) (fun c_2 => ?_) (fun c_2 => ?_)
      · have c_2 : 36 ≤ i := (nI_leI (a := 36) (b := i) (by omega) (by omega)).mp c_2
        refine lv_iconst (v := (-1)) hx hb dX2_withoutPart_36 (by decide) ?_
        exact zeP E hs (h1.trans (ffst_e (by omega))).symm dX2_withoutPart_37
      · have c_2 : ¬ (36 ≤ i) := fun h => c_2 ((nI_leI (a := 36) (b := i) (by omega) (by omega)).mpr h)
        refine lv_aload_n hx hb dX2_withoutPart_8 rfl (lv_at hl 0 rfl) ?_
        refine lv_iload_n hx hb dX2_withoutPart_9 rfl (lv_at hl 1 rfl) ?_
        refine zVP E hs lkX2_57 [] (c_X4_isOpen l x ar fd i (by omega)) (by decide) (sh3 rfl) rfl ⟨Nat.le_of_ble_eq_true rfl, Nat.le_of_ble_eq_true rfl⟩ rfl hl.1 (Nat.le_of_ble_eq_true rfl) rfl dX2_withoutPart_10 (fun r_3 H locs hp_4 hs => ?_)
        subst hp_4
        refine lv_if_eq (tgt := 30) hx hb dX2_withoutPart_13 (by decide) (fun c_5 => ?_) (fun c_5 => ?_)
        · have c_5 : ¬ (ar 9 i = -1) := bz_0 c_5
          refine lv_iinc (v := nI (i + 1)) (lv' := [(1, .int (nI (i + 1))), (0, .ref (xa x 1))]) hx hb dX2_withoutPart_30 hl (k := 1) rfl (nI_inc _) (by decide) rfl (fun ls hl => ?_)
          refine lv_goto (tgt := 2) hx hb dX2_withoutPart_33 (by decide) ?_
          exact ih_1 (i + 1) (by omega) (by omega) (h1.trans (ffst_f (by omega) (fun h => c_5 h.1))) _ _ _ hs (lvr (lv_at hl 1 rfl) (lvr (lv_at hl 0 rfl) (lvn hl)))
        · have c_5 : ar 9 i = -1 := bz_1 c_5
          refine lv_aload_n hx hb dX2_withoutPart_16 rfl (lv_at hl 0 rfl) ?_
          refine zg3 E hs (k := 1) rfl 2 (by decide) rfl q_41 dX2_withoutPart_17 ?_
          refine lv_iload_n hx hb dX2_withoutPart_20 rfl (lv_at hl 1 rfl) ?_
          refine zVP E hs lkX2_40 [] (c_X3_at l x 6 36 ro_6 ar fd (nI i)) (by decide) (sh2 rfl) rfl ⟨Nat.le_of_ble_eq_true rfl, Nat.le_of_ble_eq_true rfl⟩ rfl hl.1 (Nat.le_of_ble_eq_true rfl) rfl dX2_withoutPart_21 (fun r_6 H locs hp_7 hs => ?_)
          subst hp_7
          refine tp (b := ar 7 i) (rowAt_n (by omega) (by decide)) ?_
          refine lv_iconst (v := (-1)) hx hb dX2_withoutPart_24 (by decide) ?_
          refine lv_icmp_ne (tgt := 30) hx hb dX2_withoutPart_25 (by decide) (fun c_8 => ?_) (fun c_8 => ?_)
          · refine lv_iinc (v := nI (i + 1)) (lv' := [(1, .int (nI (i + 1))), (0, .ref (xa x 1))]) hx hb dX2_withoutPart_30 hl (k := 1) rfl (nI_inc _) (by decide) rfl (fun ls hl => ?_)
            refine lv_goto (tgt := 2) hx hb dX2_withoutPart_33 (by decide) ?_
            exact ih_1 (i + 1) (by omega) (by omega) (h1.trans (ffst_f (by omega) (fun h => c_8 h.2))) _ _ _ hs (lvr (lv_at hl 1 rfl) (lvr (lv_at hl 0 rfl) (lvn hl)))
          · refine lv_iload_n hx hb dX2_withoutPart_28 rfl (lv_at hl 1 rfl) ?_
            exact zeP E hs (h1.trans (ffst_t (by omega) ⟨c_5, c_8⟩)).symm dX2_withoutPart_29
  exact L_1 (_ + 1) 0 (Nat.lt_succ_self _) (by omega) rfl _ _ _ hs (lvr (lv_at hl 1 rfl) (lvr (lv_at hl 0 rfl) (lvn hl)))

set_option maxHeartbeats 4000000 in
set_option maxRecDepth 100000 in
/-- Judge.ofOtherSize -/
theorem c_X2_ofOtherSize (l : Launch) (x : CT) (ar fd : AR) (w f : Nat) (hw : fd 1 7 = nI w) (hf : fd 1 8 = nI f) (hfw : f ≤ w) (hw9 : w ≤ 9) (hw2 : 2 ≤ w) : CP l yX2_ofOtherSize cX2_ofOtherSize 2 (some .int) 2 44 x [.ref (xa x 1)] ar fd (fun r => r = osI ar w f) := by
  refine zsP (own := RX2) rfl (by decide +kernel) (Nat.le_of_ble_eq_true rfl) ?_
  intro p e s m below meth c ls E hs hl
  have hx := E.1
  have hb := E.2.1
  have hl : lv_has ls 2 [(0, .ref (xa x 1))] := hl
  have h36w : 36 / w ≤ 36 := Nat.div_le_self 36 w
  refine lv_iconst (v := nI 0) hx hb dX2_ofOtherSize_0 (by decide) ?_
  refine lv_istore_n (lv' := [(1, .int (nI 0)), (0, .ref (xa x 1))]) hx hb dX2_ofOtherSize_1 rfl hl (by decide) rfl (fun ls hl => ?_)
  have L_1 : ∀ (mm : Nat) (i : Nat), (w - f - i) < mm → (i ≤ w - f) → (osI ar w f = ffst (fun p => ¬ ct (fun i => ar 7 i = nI p) 36 = 36 / w) (w - f - i) i) → ∀ (H : Heap) (locs : List Loc) (ls : Array Slot), ST x (AA x) s.heap ar fd H locs → lv_has ls 2 [(0, .ref (xa x 1)), (1, .int (nI i))] → W p l e (rmZ 2 44) s m ([.ref (xa x 1)] : List Value).toArray below meth c H locs 0 0 (QP below x [.ref (xa x 1)] ar fd s (fun r => r = osI ar w f)) (F0 m 2 ls []) := by
    intro mm
    induction mm with
    | zero => intro i hmu; exact absurd hmu (Nat.not_lt_zero _)
    | succ mm ih_1 =>
      intro i hmu hi h1 H locs ls hs hl
      refine lv_iload_n hx hb dX2_ofOtherSize_2 rfl (lv_at hl 1 rfl) ?_
      refine lv_aload_n hx hb dX2_ofOtherSize_3 rfl (lv_at hl 0 rfl) ?_
      refine zVP E hs lkX2_66 [.int (nI i)] (c_X4_left l x ar fd) (by decide) (sh3 rfl) rfl ⟨Nat.le_of_ble_eq_true rfl, Nat.le_of_ble_eq_true rfl⟩ rfl hl.1 (Nat.le_of_ble_eq_true rfl) rfl dX2_ofOtherSize_4 (fun r_2 H locs hp_3 hs => ?_)
      subst hp_3
      refine tp (b := nI (w - f)) (by rw [hw, hf, nI_sub hfw]) ?_
      refine lv_icmp_ge (tgt := 33) hx hb dX2_ofOtherSize_7 (by decide) (fun c_4 => ?_) (fun c_4 => ?_)
      · have c_4 : w - f ≤ i := (nI_leI (a := w - f) (b := i) (by omega) (by omega)).mp c_4
        refine lv_iconst (v := (-1)) hx hb dX2_ofOtherSize_33 (by decide) ?_
        exact zeP E hs (h1.trans (ffst_e (by omega))).symm dX2_ofOtherSize_34
      · have c_4 : ¬ (w - f ≤ i) := fun h => c_4 ((nI_leI (a := w - f) (b := i) (by omega) (by omega)).mpr h)
        refine lv_aload_n hx hb dX2_ofOtherSize_10 rfl (lv_at hl 0 rfl) ?_
        refine zg3 E hs (k := 1) rfl 2 (by decide) rfl q_41 dX2_ofOtherSize_11 ?_
        refine lv_iload_n hx hb dX2_ofOtherSize_14 rfl (lv_at hl 1 rfl) ?_
        refine zSP E hs lkX2_70 [] (c_X0_size l x 6 ro_6 ar fd (nI i)) ⟨Nat.le_of_ble_eq_true rfl, Nat.le_of_ble_eq_true rfl⟩ rfl hl.1 (Nat.le_of_ble_eq_true rfl) rfl dX2_ofOtherSize_15 (fun r_5 H locs hp_6 hs => ?_)
        subst hp_6
        have hcl_r_5 := ct_le (fun zz => ar 7 zz = nI i) 36
        refine lv_aload_n hx hb dX2_ofOtherSize_18 rfl (lv_at hl 0 rfl) ?_
        refine zVP E hs lkX2_74 [.int (nI (ct (fun zz => ar 7 zz = nI i) 36))] (c_X4_size l x ar fd w hw hw9 hw2) (by decide) (sh3 rfl) rfl ⟨Nat.le_of_ble_eq_true rfl, Nat.le_of_ble_eq_true rfl⟩ rfl hl.1 (Nat.le_of_ble_eq_true rfl) rfl dX2_ofOtherSize_19 (fun r_7 H locs hp_8 hs => ?_)
        subst hp_8
        refine lv_icmp_eq (tgt := 27) hx hb dX2_ofOtherSize_22 (by decide) (fun c_9 => ?_) (fun c_9 => ?_)
        · have c_9 : ct (fun zz => ar 7 zz = nI i) 36 = 36 / w := (nI_eq (a := ct (fun zz => ar 7 zz = nI i) 36) (b := 36 / w) (by omega) (by omega)).mp c_9
          refine lv_iinc (v := nI (i + 1)) (lv' := [(1, .int (nI (i + 1))), (0, .ref (xa x 1))]) hx hb dX2_ofOtherSize_27 hl (k := 1) rfl (nI_inc _) (by decide) rfl (fun ls hl => ?_)
          refine lv_goto (tgt := 2) hx hb dX2_ofOtherSize_30 (by decide) ?_
          exact ih_1 (i + 1) (by omega) (by omega) (h1.trans (ffst_f (by omega) (not_not_intro c_9))) _ _ _ hs (lvr (lv_at hl 1 rfl) (lvr (lv_at hl 0 rfl) (lvn hl)))
        · have c_9 : ¬ (ct (fun zz => ar 7 zz = nI i) 36 = 36 / w) := fun h => c_9 ((nI_eq (a := ct (fun zz => ar 7 zz = nI i) 36) (b := 36 / w) (by omega) (by omega)).mpr h)
          refine lv_iload_n hx hb dX2_ofOtherSize_25 rfl (lv_at hl 1 rfl) ?_
          exact zeP E hs (h1.trans (ffst_t (by omega) c_9)).symm dX2_ofOtherSize_26
  exact L_1 (_ + 1) 0 (Nat.lt_succ_self _) (by omega) rfl _ _ _ hs (lvr (lv_at hl 1 rfl) (lvr (lv_at hl 0 rfl) (lvn hl)))

set_option maxHeartbeats 4000000 in
set_option maxRecDepth 100000 in
/-- Judge.reachFrom -/
theorem c_X2_reachFrom (l : Launch) (x : CT) (k : Nat) (hr : RO k 36) (h96 : k ≠ 96) (h98 : k ≠ 98) (ar fd : AR) (i : Nat) (hi : i < 36) (v : Int32) (hg0 : ar 97 i = 0) (hcl : CLS (ar (k + 1)) v (fun d => ¬ ar 97 d = 0)) : CV l yX2_reachFrom cX2_reachFrom 9 1 22 x [.ref (xa x 95), .int (nI i), .ref (xa x k), .int v] ar fd (fun ar' fd' => fd' = fd ∧ JQ ar ar' ∧ ∀ d, d < 36 → (¬ ar' 97 d = 0 ↔ ¬ ar 97 d = 0 ∨ RC (ar (k + 1)) v i d)) := by
  refine zsV (own := RX2) rfl (by decide +kernel) (Nat.le_of_ble_eq_true rfl) ?_
  intro p e s m below meth c ls E hs hl
  have hx := E.1
  have hb := E.2.1
  have hl : lv_has ls 9 [(0, .ref (xa x 95)), (1, .int (nI i)), (2, .ref (xa x k)), (3, .int v)] := hl
  refine lv_aload_n hx hb dX2_reachFrom_0 rfl (lv_at hl 0 rfl) ?_
  refine zg1 E hs (k := 95) rfl 0 (by decide) rfl q_121 dX2_reachFrom_1 ?_
  refine lv_iload_n hx hb dX2_reachFrom_4 rfl (lv_at hl 1 rfl) ?_
  refine lv_iconst (v := nI 1) hx hb dX2_reachFrom_5 (by decide) ?_
  refine zVV E hs lkX2_48 [] (c_X3_put l x 96 36 ro_96 ar fd (nI i) (nI 1)) (by decide) (sh2 rfl) rfl ⟨Nat.le_of_ble_eq_true rfl, Nat.le_of_ble_eq_true rfl⟩ rfl hl.1 (Nat.le_of_ble_eq_true rfl) rfl dX2_reachFrom_6 (fun arr_1 fdr_1 H locs hp_2 hs => ?_)
  rw [hp_2.1, hp_2.2] at hs
  rw [rowPut_n (j := i) (by omega) (by decide)] at hs
  refine lv_aload_n hx hb dX2_reachFrom_9 rfl (lv_at hl 0 rfl) ?_
  refine zg1 E hs (k := 95) rfl 1 (by decide) rfl q_122 dX2_reachFrom_10 ?_
  refine lv_iconst (v := nI 0) hx hb dX2_reachFrom_13 (by decide) ?_
  refine lv_iload_n hx hb dX2_reachFrom_14 rfl (lv_at hl 1 rfl) ?_
  refine zVV E hs lkX2_48 [] (c_X3_put l x 98 36 ro_98 (zu ar 97 (zu (ar 97) i (nI 1))) fd (nI 0) (nI i)) (by decide) (sh2 rfl) rfl ⟨Nat.le_of_ble_eq_true rfl, Nat.le_of_ble_eq_true rfl⟩ rfl hl.1 (Nat.le_of_ble_eq_true rfl) rfl dX2_reachFrom_15 (fun arr_3 fdr_3 H locs hp_4 hs => ?_)
  rw [hp_4.1, hp_4.2] at hs
  rw [rowPut_n (j := 0) (by omega) (by decide)] at hs
  refine lv_iconst (v := nI 1) hx hb dX2_reachFrom_18 (by decide) ?_
  refine lv_istore (lv' := [(4, .int (nI 1)), (0, .ref (xa x 95)), (1, .int (nI i)), (2, .ref (xa x k)), (3, .int v)]) hx hb dX2_reachFrom_19 hl (by decide) rfl (fun ls hl => ?_)
  refine lv_iconst (v := nI 0) hx hb dX2_reachFrom_21 (by decide) ?_
  refine lv_istore (lv' := [(5, .int (nI 0)), (4, .int (nI 1)), (0, .ref (xa x 95)), (1, .int (nI i)), (2, .ref (xa x k)), (3, .int v)]) hx hb dX2_reachFrom_22 hl (by decide) rfl (fun ls hl => ?_)
  have L_5 : ∀ (mm : Nat) (t : Nat) (wt : Nat) (ar1 : AR), (36 - t) < mm → (t ≤ 36) → (JQ ar ar1) → (BI (ar (k + 1)) (ar 97) (ar1 97) (ar1 99) v i t wt) → (¬ ar1 97 i = 0) → ∀ (H : Heap) (locs : List Loc) (ls : Array Slot), ST x (AA x) s.heap ar1 fd H locs → lv_has ls 9 [(0, .ref (xa x 95)), (1, .int (nI i)), (2, .ref (xa x k)), (3, .int v), (4, .int (nI wt)), (5, .int (nI t))] → W p l e (rmZ 1 22) s m ([.ref (xa x 95), .int (nI i), .ref (xa x k), .int v] : List Value).toArray below meth c H locs 0 0 (QV below x [.ref (xa x 95), .int (nI i), .ref (xa x k), .int v] s (fun ar' fd' => fd' = fd ∧ JQ ar ar' ∧ ∀ d, d < 36 → (¬ ar' 97 d = 0 ↔ ¬ ar 97 d = 0 ∨ RC (ar (k + 1)) v i d))) (F0 m 24 ls []) := by
    intro mm
    induction mm with
    | zero => intro t wt ar1 hmu; exact absurd hmu (Nat.not_lt_zero _)
    | succ mm ih_5 =>
      intro t wt ar1 hmu ht hJ hB hi1 H locs ls hs hl
      have hwt36 : wt ≤ 36 := by have := ct_le (fun d => ¬ ar1 97 d = 0) 36; have := hB.2.2.2.2.2; omega
      refine lv_iload hx hb dX2_reachFrom_24 (lv_at hl 5 rfl) ?_
      refine lv_bipush (v := nI 36) hx hb dX2_reachFrom_26 (by decide) ?_
      refine lv_icmp_ge (tgt := 125) hx hb dX2_reachFrom_28 (by decide) (fun c_6 => ?_) (fun c_6 => ?_)
      · have c_6 : 36 ≤ t := (nI_leI (a := 36) (b := t) (by omega) (by omega)).mp c_6
        exact zeV E hs ⟨rfl, hJ, bi_end hB (by have := ct_le (fun d => ¬ ar1 97 d = 0) 36; have := hB.2.2.2.2.2; omega) hi1 hcl⟩ dX2_reachFrom_125
      · have c_6 : ¬ (36 ≤ t) := fun h => c_6 ((nI_leI (a := 36) (b := t) (by omega) (by omega)).mpr h)
        refine lv_iload hx hb dX2_reachFrom_31 (lv_at hl 5 rfl) ?_
        refine lv_iload hx hb dX2_reachFrom_33 (lv_at hl 4 rfl) ?_
        refine lv_icmp_ge (tgt := 125) hx hb dX2_reachFrom_35 (by decide) (fun c_7 => ?_) (fun c_7 => ?_)
        · have c_7 : wt ≤ t := (nI_leI (a := wt) (b := t) (by omega) (by omega)).mp c_7
          exact zeV E hs ⟨rfl, hJ, bi_end hB (by have := ct_le (fun d => ¬ ar1 97 d = 0) 36; have := hB.2.2.2.2.2; omega) hi1 hcl⟩ dX2_reachFrom_125
        · have c_7 : ¬ (wt ≤ t) := fun h => c_7 ((nI_leI (a := wt) (b := t) (by omega) (by omega)).mpr h)
          refine lv_aload_n hx hb dX2_reachFrom_38 rfl (lv_at hl 0 rfl) ?_
          refine zg1 E hs (k := 95) rfl 1 (by decide) rfl q_122 dX2_reachFrom_39 ?_
          refine lv_iload hx hb dX2_reachFrom_42 (lv_at hl 5 rfl) ?_
          refine zVP E hs lkX2_40 [] (c_X3_at l x 98 36 ro_98 ar1 fd (nI t)) (by decide) (sh2 rfl) rfl ⟨Nat.le_of_ble_eq_true rfl, Nat.le_of_ble_eq_true rfl⟩ rfl hl.1 (Nat.le_of_ble_eq_true rfl) rfl dX2_reachFrom_44 (fun r_8 H locs hp_9 hs => ?_)
          subst hp_9
          refine tp (b := ar1 99 t) (rowAt_n (by omega) (by decide)) ?_
          obtain ⟨ce, hce, eqt, hRC⟩ := hB.2.1 t (by omega)
          refine tp (b := nI ce) eqt ?_
          refine lv_istore (lv' := [(6, .int (nI ce)), (0, .ref (xa x 95)), (1, .int (nI i)), (2, .ref (xa x k)), (3, .int v), (4, .int (nI wt)), (5, .int (nI t))]) hx hb dX2_reachFrom_47 hl (by decide) rfl (fun ls hl => ?_)
          refine lv_iconst (v := nI 0) hx hb dX2_reachFrom_49 (by decide) ?_
          refine lv_istore (lv' := [(7, .int (nI 0)), (6, .int (nI ce)), (0, .ref (xa x 95)), (1, .int (nI i)), (2, .ref (xa x k)), (3, .int v), (4, .int (nI wt)), (5, .int (nI t))]) hx hb dX2_reachFrom_50 hl (by decide) rfl (fun ls hl => ?_)
          have L_10 : ∀ (mm : Nat) (sd : Nat) (wt : Nat) (ar1 : AR), (4 - sd) < mm → (sd ≤ 4) → (t < wt) → (JQ ar ar1) → (BI (ar (k + 1)) (ar 97) (ar1 97) (ar1 99) v i t wt) → (DN (ar (k + 1)) (ar1 97) v ce sd) → (ar1 99 t = nI ce) → (¬ ar1 97 i = 0) → ∀ (H : Heap) (locs : List Loc) (ls : Array Slot), ST x (AA x) s.heap ar1 fd H locs → lv_has ls 9 [(0, .ref (xa x 95)), (1, .int (nI i)), (2, .ref (xa x k)), (3, .int v), (4, .int (nI wt)), (5, .int (nI t)), (6, .int (nI ce)), (7, .int (nI sd))] → W p l e (rmZ 1 22) s m ([.ref (xa x 95), .int (nI i), .ref (xa x k), .int v] : List Value).toArray below meth c H locs 0 0 (QV below x [.ref (xa x 95), .int (nI i), .ref (xa x k), .int v] s (fun ar' fd' => fd' = fd ∧ JQ ar ar' ∧ ∀ d, d < 36 → (¬ ar' 97 d = 0 ↔ ¬ ar 97 d = 0 ∨ RC (ar (k + 1)) v i d))) (F0 m 52 ls []) := by
            intro mm
            induction mm with
            | zero => intro sd wt ar1 hmu; exact absurd hmu (Nat.not_lt_zero _)
            | succ mm ih_10 =>
              intro sd wt ar1 hmu hsd htw hJ hB hD hq hi1 H locs ls hs hl
              refine lv_iload hx hb dX2_reachFrom_52 (lv_at hl 7 rfl) ?_
              refine lv_iconst (v := nI 4) hx hb dX2_reachFrom_54 (by decide) ?_
              refine lv_icmp_ge (tgt := 119) hx hb dX2_reachFrom_55 (by decide) (fun c_11 => ?_) (fun c_11 => ?_)
              · have c_11 : 4 ≤ sd := (nI_leI (a := 4) (b := sd) (by omega) (by omega)).mp c_11
                refine lv_iinc (v := nI (t + 1)) (lv' := [(5, .int (nI (t + 1))), (0, .ref (xa x 95)), (1, .int (nI i)), (2, .ref (xa x k)), (3, .int v), (4, .int (nI wt)), (6, .int (nI ce)), (7, .int (nI sd))]) hx hb dX2_reachFrom_119 hl (k := 5) rfl (nI_inc _) (by decide) rfl (fun ls hl => ?_)
                refine lv_goto (tgt := 24) hx hb dX2_reachFrom_122 (by decide) ?_
                exact ih_5 (t + 1) wt ar1 (by omega) (by omega) hJ (bi_next hB htw hq hce (by rw [show (4 : Nat) = sd by omega]; exact hD)) hi1 _ _ _ hs (lvr (lv_at hl 1 rfl) (lvr (lv_at hl 2 rfl) (lvr (lv_at hl 3 rfl) (lvr (lv_at hl 4 rfl) (lvr (lv_at hl 5 rfl) (lvr (lv_at hl 0 rfl) (lvn hl)))))))
              · have c_11 : ¬ (4 ≤ sd) := fun h => c_11 ((nI_leI (a := 4) (b := sd) (by omega) (by omega)).mpr h)
                refine lv_iload hx hb dX2_reachFrom_58 (lv_at hl 6 rfl) ?_
                refine lv_iload hx hb dX2_reachFrom_60 (lv_at hl 7 rfl) ?_
                refine zSP E hs lkX2_51 [] (c_X0_behind l x ar1 fd ce sd (by omega) (by omega)) ⟨Nat.le_of_ble_eq_true rfl, Nat.le_of_ble_eq_true rfl⟩ rfl hl.1 (Nat.le_of_ble_eq_true rfl) rfl dX2_reachFrom_62 (fun r_12 H locs hp_13 hs => ?_)
                subst hp_13
                refine lv_istore (lv' := [(8, .int (nb ce sd)), (0, .ref (xa x 95)), (1, .int (nI i)), (2, .ref (xa x k)), (3, .int v), (4, .int (nI wt)), (5, .int (nI t)), (6, .int (nI ce)), (7, .int (nI sd))]) hx hb dX2_reachFrom_65 hl (by decide) rfl (fun ls hl => ?_)
                rcases nb_or ce hce sd (by omega) with ⟨d, hd, ed⟩ | ed
                · rw [ed] at hl
                  refine lv_aload_n hx hb dX2_reachFrom_67 rfl (lv_at hl 3 rfl) ?_
                  refine lv_iload hx hb dX2_reachFrom_68 (lv_at hl 0 rfl) ?_
                  refine zVP E hs lkX2_40 [] (c_X3_at l x k 36 hr ar1 fd (nI d)) (kd_lt hr.1 (by decide)) (sh2 hr.1) rfl ⟨Nat.le_of_ble_eq_true rfl, Nat.le_of_ble_eq_true rfl⟩ rfl hl.1 (Nat.le_of_ble_eq_true rfl) rfl dX2_reachFrom_70 (fun r_14 H locs hp_15 hs => ?_)
                  subst hp_15
                  refine tp (b := ar1 (k + 1) d) (rowAt_n (by omega) (by decide)) ?_
                  refine tp (b := ar (k + 1) d) (by rw [hJ (k + 1) (by omega) (by omega)]) ?_
                  refine lv_iload_n hx hb dX2_reachFrom_73 rfl (lv_at hl 4 rfl) ?_
                  refine lv_icmp_ne (tgt := 113) hx hb dX2_reachFrom_74 (by decide) (fun c_16 => ?_) (fun c_16 => ?_)
                  · refine lv_iinc (v := nI (sd + 1)) (lv' := [(7, .int (nI (sd + 1))), (8, .int (nI d)), (0, .ref (xa x 95)), (1, .int (nI i)), (2, .ref (xa x k)), (3, .int v), (4, .int (nI wt)), (5, .int (nI t)), (6, .int (nI ce))]) hx hb dX2_reachFrom_113 hl (k := 8) rfl (nI_inc _) (by decide) rfl (fun ls hl => ?_)
                    refine lv_goto (tgt := 52) hx hb dX2_reachFrom_116 (by decide) ?_
                    exact ih_10 (sd + 1) wt ar1 (by omega) (by omega) (by omega) hJ hB (dn_s hD hd ed (fun z => absurd z c_16)) hq (hi1) _ _ _ hs (lvr (lv_at hl 2 rfl) (lvr (lv_at hl 3 rfl) (lvr (lv_at hl 4 rfl) (lvr (lv_at hl 5 rfl) (lvr (lv_at hl 6 rfl) (lvr (lv_at hl 7 rfl) (lvr (lv_at hl 8 rfl) (lvr (lv_at hl 0 rfl) (lvn hl)))))))))
                  · refine lv_aload_n hx hb dX2_reachFrom_77 rfl (lv_at hl 1 rfl) ?_
                    refine zg1 E hs (k := 95) rfl 0 (by decide) rfl q_121 dX2_reachFrom_78 ?_
                    refine lv_iload hx hb dX2_reachFrom_81 (lv_at hl 0 rfl) ?_
                    refine zVP E hs lkX2_40 [] (c_X3_at l x 96 36 ro_96 ar1 fd (nI d)) (by decide) (sh2 rfl) rfl ⟨Nat.le_of_ble_eq_true rfl, Nat.le_of_ble_eq_true rfl⟩ rfl hl.1 (Nat.le_of_ble_eq_true rfl) rfl dX2_reachFrom_83 (fun r_17 H locs hp_18 hs => ?_)
                    subst hp_18
                    refine tp (b := ar1 97 d) (rowAt_n (by omega) (by decide)) ?_
                    refine lv_if_ne (tgt := 113) hx hb dX2_reachFrom_86 (by decide) (fun c_19 => ?_) (fun c_19 => ?_)
                    · refine lv_iinc (v := nI (sd + 1)) (lv' := [(7, .int (nI (sd + 1))), (8, .int (nI d)), (0, .ref (xa x 95)), (1, .int (nI i)), (2, .ref (xa x k)), (3, .int v), (4, .int (nI wt)), (5, .int (nI t)), (6, .int (nI ce))]) hx hb dX2_reachFrom_113 hl (k := 8) rfl (nI_inc _) (by decide) rfl (fun ls hl => ?_)
                      refine lv_goto (tgt := 52) hx hb dX2_reachFrom_116 (by decide) ?_
                      exact ih_10 (sd + 1) wt ar1 (by omega) (by omega) (by omega) hJ hB (dn_s hD hd ed (fun _ => c_19)) hq (hi1) _ _ _ hs (lvr (lv_at hl 2 rfl) (lvr (lv_at hl 3 rfl) (lvr (lv_at hl 4 rfl) (lvr (lv_at hl 5 rfl) (lvr (lv_at hl 6 rfl) (lvr (lv_at hl 7 rfl) (lvr (lv_at hl 8 rfl) (lvr (lv_at hl 0 rfl) (lvn hl)))))))))
                    · have hwt : wt < 36 := bi_lt hB hd c_19
                      refine lv_aload_n hx hb dX2_reachFrom_89 rfl (lv_at hl 1 rfl) ?_
                      refine zg1 E hs (k := 95) rfl 0 (by decide) rfl q_121 dX2_reachFrom_90 ?_
                      refine lv_iload hx hb dX2_reachFrom_93 (lv_at hl 0 rfl) ?_
                      refine lv_iconst (v := nI 1) hx hb dX2_reachFrom_95 (by decide) ?_
                      refine zVV E hs lkX2_48 [] (c_X3_put l x 96 36 ro_96 ar1 fd (nI d) (nI 1)) (by decide) (sh2 rfl) rfl ⟨Nat.le_of_ble_eq_true rfl, Nat.le_of_ble_eq_true rfl⟩ rfl hl.1 (Nat.le_of_ble_eq_true rfl) rfl dX2_reachFrom_96 (fun arr_20 fdr_20 H locs hp_21 hs => ?_)
                      rw [hp_21.1, hp_21.2] at hs
                      rw [rowPut_n (j := d) (by omega) (by decide)] at hs
                      refine lv_aload_n hx hb dX2_reachFrom_99 rfl (lv_at hl 1 rfl) ?_
                      refine zg1 E hs (k := 95) rfl 1 (by decide) rfl q_122 dX2_reachFrom_100 ?_
                      refine lv_iload hx hb dX2_reachFrom_103 (lv_at hl 5 rfl) ?_
                      refine lv_iload hx hb dX2_reachFrom_105 (lv_at hl 0 rfl) ?_
                      refine zVV E hs lkX2_48 [] (c_X3_put l x 98 36 ro_98 (zu ar1 97 (zu (ar1 97) d (nI 1))) fd (nI wt) (nI d)) (by decide) (sh2 rfl) rfl ⟨Nat.le_of_ble_eq_true rfl, Nat.le_of_ble_eq_true rfl⟩ rfl hl.1 (Nat.le_of_ble_eq_true rfl) rfl dX2_reachFrom_107 (fun arr_22 fdr_22 H locs hp_23 hs => ?_)
                      rw [hp_23.1, hp_23.2] at hs
                      rw [rowPut_n (j := wt) (by omega) (by decide)] at hs
                      refine lv_iinc (v := nI (wt + 1)) (lv' := [(4, .int (nI (wt + 1))), (8, .int (nI d)), (0, .ref (xa x 95)), (1, .int (nI i)), (2, .ref (xa x k)), (3, .int v), (5, .int (nI t)), (6, .int (nI ce)), (7, .int (nI sd))]) hx hb dX2_reachFrom_110 hl (k := 5) rfl (nI_inc _) (by decide) rfl (fun ls hl => ?_)
                      refine lv_iinc (v := nI (sd + 1)) (lv' := [(7, .int (nI (sd + 1))), (4, .int (nI (wt + 1))), (8, .int (nI d)), (0, .ref (xa x 95)), (1, .int (nI i)), (2, .ref (xa x k)), (3, .int v), (5, .int (nI t)), (6, .int (nI ce))]) hx hb dX2_reachFrom_113 hl (k := 8) rfl (nI_inc _) (by decide) rfl (fun ls hl => ?_)
                      refine lv_goto (tgt := 52) hx hb dX2_reachFrom_116 (by decide) ?_
                      exact ih_10 (sd + 1) (wt + 1) (zu (zu ar1 97 (zu (ar1 97) d (nI 1))) 99 (zu ((zu ar1 97 (zu (ar1 97) d (nI 1))) 99) wt (nI d))) (by omega) (by omega) (by omega) ((hJ.z7 _).z9 _) (by rw [zu_n _ _ (show 97 ≠ 99 by decide), zu_s, zu_s, zu_n _ _ (show 99 ≠ 97 by decide)]; exact bi_add hB htw hce hRC (by omega) hd ed c_16 c_19) (by rw [zu_n _ _ (show 97 ≠ 99 by decide), zu_s]; exact dn_p hD hd ed) (by rw [zu_s, zu_n _ _ (by omega), zu_n _ _ (by decide)]; exact hq) (by rw [zu_n _ _ (show 97 ≠ 99 by decide), zu_s]; exact n0_put hi1) _ _ _ hs (lvr (lv_at hl 3 rfl) (lvr (lv_at hl 4 rfl) (lvr (lv_at hl 5 rfl) (lvr (lv_at hl 6 rfl) (lvr (lv_at hl 1 rfl) (lvr (lv_at hl 7 rfl) (lvr (lv_at hl 8 rfl) (lvr (lv_at hl 0 rfl) (lvn hl)))))))))
                · rw [ed] at hl
                  refine lv_aload_n hx hb dX2_reachFrom_67 rfl (lv_at hl 3 rfl) ?_
                  refine lv_iload hx hb dX2_reachFrom_68 (lv_at hl 0 rfl) ?_
                  refine zVP E hs lkX2_40 [] (c_X3_at l x k 36 hr ar1 fd (-1)) (kd_lt hr.1 (by decide)) (sh2 hr.1) rfl ⟨Nat.le_of_ble_eq_true rfl, Nat.le_of_ble_eq_true rfl⟩ rfl hl.1 (Nat.le_of_ble_eq_true rfl) rfl dX2_reachFrom_70 (fun r_24 H locs hp_25 hs => ?_)
                  subst hp_25
                  refine tp (b := (-1)) rowAt_m ?_
                  refine lv_iload_n hx hb dX2_reachFrom_73 rfl (lv_at hl 4 rfl) ?_
                  refine lv_icmp_ne (tgt := 113) hx hb dX2_reachFrom_74 (by decide) (fun c_26 => ?_) (fun c_26 => ?_)
                  · refine lv_iinc (v := nI (sd + 1)) (lv' := [(7, .int (nI (sd + 1))), (8, .int (-1)), (0, .ref (xa x 95)), (1, .int (nI i)), (2, .ref (xa x k)), (3, .int v), (4, .int (nI wt)), (5, .int (nI t)), (6, .int (nI ce))]) hx hb dX2_reachFrom_113 hl (k := 8) rfl (nI_inc _) (by decide) rfl (fun ls hl => ?_)
                    refine lv_goto (tgt := 52) hx hb dX2_reachFrom_116 (by decide) ?_
                    exact ih_10 (sd + 1) wt ar1 (by omega) (by omega) (by omega) hJ hB (dn_m hD ed) hq (hi1) _ _ _ hs (lvr (lv_at hl 2 rfl) (lvr (lv_at hl 3 rfl) (lvr (lv_at hl 4 rfl) (lvr (lv_at hl 5 rfl) (lvr (lv_at hl 6 rfl) (lvr (lv_at hl 7 rfl) (lvr (lv_at hl 8 rfl) (lvr (lv_at hl 0 rfl) (lvn hl)))))))))
                  · refine lv_aload_n hx hb dX2_reachFrom_77 rfl (lv_at hl 1 rfl) ?_
                    refine zg1 E hs (k := 95) rfl 0 (by decide) rfl q_121 dX2_reachFrom_78 ?_
                    refine lv_iload hx hb dX2_reachFrom_81 (lv_at hl 0 rfl) ?_
                    refine zVP E hs lkX2_40 [] (c_X3_at l x 96 36 ro_96 ar1 fd (-1)) (by decide) (sh2 rfl) rfl ⟨Nat.le_of_ble_eq_true rfl, Nat.le_of_ble_eq_true rfl⟩ rfl hl.1 (Nat.le_of_ble_eq_true rfl) rfl dX2_reachFrom_83 (fun r_27 H locs hp_28 hs => ?_)
                    subst hp_28
                    refine tp (b := (-1)) rowAt_m ?_
                    refine lv_if_ne (tgt := 113) hx hb dX2_reachFrom_86 (by decide) (fun _ => ?_) (fun h => absurd h (by decide))
                    refine lv_iinc (v := nI (sd + 1)) (lv' := [(7, .int (nI (sd + 1))), (8, .int (-1)), (0, .ref (xa x 95)), (1, .int (nI i)), (2, .ref (xa x k)), (3, .int v), (4, .int (nI wt)), (5, .int (nI t)), (6, .int (nI ce))]) hx hb dX2_reachFrom_113 hl (k := 8) rfl (nI_inc _) (by decide) rfl (fun ls hl => ?_)
                    refine lv_goto (tgt := 52) hx hb dX2_reachFrom_116 (by decide) ?_
                    exact ih_10 (sd + 1) wt ar1 (by omega) (by omega) (by omega) hJ hB (dn_m hD ed) hq (hi1) _ _ _ hs (lvr (lv_at hl 2 rfl) (lvr (lv_at hl 3 rfl) (lvr (lv_at hl 4 rfl) (lvr (lv_at hl 5 rfl) (lvr (lv_at hl 6 rfl) (lvr (lv_at hl 7 rfl) (lvr (lv_at hl 8 rfl) (lvr (lv_at hl 0 rfl) (lvn hl)))))))))
          exact L_10 (_ + 1) 0 wt ar1 (Nat.lt_succ_self _) (by omega) (by omega) hJ hB dn_0 eqt hi1 _ _ _ hs (lvr (lv_at hl 2 rfl) (lvr (lv_at hl 3 rfl) (lvr (lv_at hl 4 rfl) (lvr (lv_at hl 5 rfl) (lvr (lv_at hl 6 rfl) (lvr (lv_at hl 7 rfl) (lvr (lv_at hl 1 rfl) (lvr (lv_at hl 0 rfl) (lvn hl)))))))))
  exact L_5 (_ + 1) 0 1 (zu (zu ar 97 (zu (ar 97) i (nI 1))) 99 (zu ((zu ar 97 (zu (ar 97) i (nI 1))) 99) 0 (nI i))) (Nat.lt_succ_self _) (by omega) (((JQ.rf ar).z7 _).z9 _) (by rw [zu_n _ _ (show 97 ≠ 99 by decide), zu_s, zu_s, zu_n _ _ (show 99 ≠ 97 by decide)]; exact bi_0 hi hg0) (by rw [zu_n _ _ (show 97 ≠ 99 by decide), zu_s, zu_s]; exact one_n0) _ _ _ hs (lvr (lv_at hl 2 rfl) (lvr (lv_at hl 3 rfl) (lvr (lv_at hl 4 rfl) (lvr (lv_at hl 5 rfl) (lvr (lv_at hl 1 rfl) (lvr (lv_at hl 0 rfl) (lvn hl)))))))

set_option maxHeartbeats 4000000 in
set_option maxRecDepth 100000 in
/-- Judge.pieces -/
theorem c_X2_pieces (l : Launch) (x : CT) (k : Nat) (hr : RO k 36) (h96 : k ≠ 96) (h98 : k ≠ 98) (ar fd : AR) (v : Int32) : CI l yX2_pieces cX2_pieces 5 (some .int) 2 50 x [.ref (xa x 95), .ref (xa x k), .int v] ar fd (fun r ar' fd' => r = nI (pcN (ar (k + 1)) v 36) ∧ JQ ar ar' ∧ fd' = fd) := by
  refine zsI (own := RX2) rfl (by decide +kernel) (Nat.le_of_ble_eq_true rfl) ?_
  intro p e s m below meth c ls E hs hl
  have hx := E.1
  have hb := E.2.1
  have hl : lv_has ls 5 [(0, .ref (xa x 95)), (1, .ref (xa x k)), (2, .int v)] := hl
  refine lv_aload_n hx hb dX2_pieces_0 rfl (lv_at hl 0 rfl) ?_
  refine zg1 E hs (k := 95) rfl 0 (by decide) rfl q_121 dX2_pieces_1 ?_
  refine lv_iconst (v := nI 0) hx hb dX2_pieces_4 (by decide) ?_
  refine zVV E hs lkX2_36 [] (c_X3_fill l x 96 36 ro_96 ar fd (nI 0)) (by decide) (sh2 rfl) rfl ⟨Nat.le_of_ble_eq_true rfl, Nat.le_of_ble_eq_true rfl⟩ rfl hl.1 (Nat.le_of_ble_eq_true rfl) rfl dX2_pieces_5 (fun arr_1 fdr_1 H locs hp_2 hs => ?_)
  rw [hp_2.1, hp_2.2] at hs
  refine lv_iconst (v := nI 0) hx hb dX2_pieces_8 (by decide) ?_
  refine lv_istore_n (lv' := [(3, .int (nI 0)), (0, .ref (xa x 95)), (1, .ref (xa x k)), (2, .int v)]) hx hb dX2_pieces_9 rfl hl (by decide) rfl (fun ls hl => ?_)
  refine lv_iconst (v := nI 0) hx hb dX2_pieces_10 (by decide) ?_
  refine lv_istore (lv' := [(4, .int (nI 0)), (3, .int (nI 0)), (0, .ref (xa x 95)), (1, .ref (xa x k)), (2, .int v)]) hx hb dX2_pieces_11 hl (by decide) rfl (fun ls hl => ?_)
  have L_3 : ∀ (mm : Nat) (i : Nat) (ar1 : AR), (36 - i) < mm → (i ≤ 36) → (JQ ar ar1) → (∀ d, d < 36 → (¬ ar1 97 d = 0 ↔ SEEN (ar (k + 1)) v i d)) → ∀ (H : Heap) (locs : List Loc) (ls : Array Slot), ST x (AA x) s.heap ar1 fd H locs → lv_has ls 5 [(0, .ref (xa x 95)), (1, .ref (xa x k)), (2, .int v), (3, .int (nI (pcN (ar (k + 1)) v i))), (4, .int (nI i))] → W p l e (rmZ 2 50) s m ([.ref (xa x 95), .ref (xa x k), .int v] : List Value).toArray below meth c H locs 0 0 (QI below x [.ref (xa x 95), .ref (xa x k), .int v] s (fun r ar' fd' => r = nI (pcN (ar (k + 1)) v 36) ∧ JQ ar ar' ∧ fd' = fd)) (F0 m 13 ls []) := by
    intro mm
    induction mm with
    | zero => intro i ar1 hmu; exact absurd hmu (Nat.not_lt_zero _)
    | succ mm ih_3 =>
      intro i ar1 hmu hi hJ hS H locs ls hs hl
      refine lv_iload hx hb dX2_pieces_13 (lv_at hl 4 rfl) ?_
      refine lv_bipush (v := nI 36) hx hb dX2_pieces_15 (by decide) ?_
      refine lv_icmp_ge (tgt := 59) hx hb dX2_pieces_17 (by decide) (fun c_4 => ?_) (fun c_4 => ?_)
      · have c_4 : 36 ≤ i := (nI_leI (a := 36) (b := i) (by omega) (by omega)).mp c_4
        refine lv_iload_n hx hb dX2_pieces_59 rfl (lv_at hl 3 rfl) ?_
        exact zeI E hs ⟨by rw [show i = 36 by omega], hJ, rfl⟩ dX2_pieces_60
      · have c_4 : ¬ (36 ≤ i) := fun h => c_4 ((nI_leI (a := 36) (b := i) (by omega) (by omega)).mpr h)
        refine lv_aload_n hx hb dX2_pieces_20 rfl (lv_at hl 1 rfl) ?_
        refine lv_iload hx hb dX2_pieces_21 (lv_at hl 4 rfl) ?_
        refine zVP E hs lkX2_40 [] (c_X3_at l x k 36 hr ar1 fd (nI i)) (kd_lt hr.1 (by decide)) (sh2 hr.1) rfl ⟨Nat.le_of_ble_eq_true rfl, Nat.le_of_ble_eq_true rfl⟩ rfl hl.1 (Nat.le_of_ble_eq_true rfl) rfl dX2_pieces_23 (fun r_5 H locs hp_6 hs => ?_)
        subst hp_6
        refine tp (b := ar1 (k + 1) i) (rowAt_n (by omega) (by decide)) ?_
        refine tp (b := ar (k + 1) i) (by rw [hJ (k + 1) (by omega) (by omega)]) ?_
        refine lv_iload_n hx hb dX2_pieces_26 rfl (lv_at hl 2 rfl) ?_
        refine lv_icmp_ne (tgt := 53) hx hb dX2_pieces_27 (by decide) (fun c_7 => ?_) (fun c_7 => ?_)
        · refine lv_iinc (v := nI (i + 1)) (lv' := [(4, .int (nI (i + 1))), (0, .ref (xa x 95)), (1, .ref (xa x k)), (2, .int v), (3, .int (nI (pcN (ar (k + 1)) v i)))]) hx hb dX2_pieces_53 hl (k := 4) rfl (nI_inc _) (by decide) rfl (fun ls hl => ?_)
          refine lv_goto (tgt := 13) hx hb dX2_pieces_56 (by decide) ?_
          exact ih_3 (i + 1) ar1 (by omega) (by omega) hJ (fun d hd => (hS d hd).trans (seen_n c_7).symm) _ _ _ hs (lvr (lv_at hl 1 rfl) (lvr (lv_at hl 2 rfl) (lvr (lv_at hl 3 rfl) (lvc (lv_at hl 4 rfl) (by unfold pcN; rw [ct_f (fun h => c_7 h.1)]) (lvr (lv_at hl 0 rfl) (lvn hl))))))
        · refine lv_aload_n hx hb dX2_pieces_30 rfl (lv_at hl 0 rfl) ?_
          refine zg1 E hs (k := 95) rfl 0 (by decide) rfl q_121 dX2_pieces_31 ?_
          refine lv_iload hx hb dX2_pieces_34 (lv_at hl 4 rfl) ?_
          refine zVP E hs lkX2_40 [] (c_X3_at l x 96 36 ro_96 ar1 fd (nI i)) (by decide) (sh2 rfl) rfl ⟨Nat.le_of_ble_eq_true rfl, Nat.le_of_ble_eq_true rfl⟩ rfl hl.1 (Nat.le_of_ble_eq_true rfl) rfl dX2_pieces_36 (fun r_8 H locs hp_9 hs => ?_)
          subst hp_9
          refine tp (b := ar1 97 i) (rowAt_n (by omega) (by decide)) ?_
          refine lv_if_ne (tgt := 53) hx hb dX2_pieces_39 (by decide) (fun c_10 => ?_) (fun c_10 => ?_)
          · refine lv_iinc (v := nI (i + 1)) (lv' := [(4, .int (nI (i + 1))), (0, .ref (xa x 95)), (1, .ref (xa x k)), (2, .int v), (3, .int (nI (pcN (ar (k + 1)) v i)))]) hx hb dX2_pieces_53 hl (k := 4) rfl (nI_inc _) (by decide) rfl (fun ls hl => ?_)
            refine lv_goto (tgt := 13) hx hb dX2_pieces_56 (by decide) ?_
            exact ih_3 (i + 1) ar1 (by omega) (by omega) hJ (fun d hd => (hS d hd).trans (seen_o ((hS i (by omega)).mp c_10)).symm) _ _ _ hs (lvr (lv_at hl 1 rfl) (lvr (lv_at hl 2 rfl) (lvr (lv_at hl 3 rfl) (lvc (lv_at hl 4 rfl) (by unfold pcN; rw [ct_f (fun h => h.2 ((hS i (by omega)).mp c_10))]) (lvr (lv_at hl 0 rfl) (lvn hl))))))
          · refine lv_iinc (v := nI (pcN (ar (k + 1)) v i + 1)) (lv' := [(3, .int (nI (pcN (ar (k + 1)) v i + 1))), (0, .ref (xa x 95)), (1, .ref (xa x k)), (2, .int v), (4, .int (nI i))]) hx hb dX2_pieces_42 hl (k := 3) rfl (nI_inc _) (by decide) rfl (fun ls hl => ?_)
            refine lv_aload_n hx hb dX2_pieces_45 rfl (lv_at hl 1 rfl) ?_
            refine lv_iload hx hb dX2_pieces_46 (lv_at hl 4 rfl) ?_
            refine lv_aload_n hx hb dX2_pieces_48 rfl (lv_at hl 2 rfl) ?_
            refine lv_iload_n hx hb dX2_pieces_49 rfl (lv_at hl 3 rfl) ?_
            refine zVV E hs lkX2_44 [] (c_X2_reachFrom l x k hr (by omega) (by omega) ar1 fd i (by omega) v c_10 (by rw [hJ (k + 1) (by omega) (by omega)]; intro c1 q1 q2 sd q3 d q4 q5 q6; exact (hS d q4).mpr (seen_cls _ _ i c1 q1 ((hS c1 q1).mp q2) sd q3 d q4 q5 q6))) (by decide) (sh1 rfl) rfl ⟨Nat.le_of_ble_eq_true rfl, Nat.le_of_ble_eq_true rfl⟩ rfl hl.1 (Nat.le_of_ble_eq_true rfl) rfl dX2_pieces_50 (fun arr_11 fdr_11 H locs hp_12 hs => ?_)
            rw [hp_12.1] at hs
            refine lv_iinc (v := nI (i + 1)) (lv' := [(4, .int (nI (i + 1))), (3, .int (nI (pcN (ar (k + 1)) v i + 1))), (0, .ref (xa x 95)), (1, .ref (xa x k)), (2, .int v)]) hx hb dX2_pieces_53 hl (k := 4) rfl (nI_inc _) (by decide) rfl (fun ls hl => ?_)
            refine lv_goto (tgt := 13) hx hb dX2_pieces_56 (by decide) ?_
            exact ih_3 (i + 1) arr_11 (by omega) (by omega) (hJ.tr hp_12.2.1) (fun d hd => (hp_12.2.2 d hd).trans (Iff.trans (by rw [hJ (k + 1) (by omega) (by omega), hS d hd]) (seen_y c_7).symm)) _ _ _ hs (lvr (lv_at hl 2 rfl) (lvr (lv_at hl 3 rfl) (lvr (lv_at hl 4 rfl) (lvc (lv_at hl 1 rfl) (by unfold pcN; rw [ct_t ⟨c_7, fun h => (hS i (by omega)).mpr h c_10⟩]) (lvr (lv_at hl 0 rfl) (lvn hl))))))
  exact L_3 (_ + 1) 0 (zu ar 97 (fun _ => nI 0)) (Nat.lt_succ_self _) (by omega) ((JQ.rf ar).z7 _) (fun d hd => by rw [zu_s]; exact ⟨fun h => absurd nI_0 h, fun h => absurd h seen_0⟩) _ _ _ hs (lvr (lv_at hl 2 rfl) (lvr (lv_at hl 3 rfl) (lvr (lv_at hl 4 rfl) (lvc (lv_at hl 1 rfl) rfl (lvr (lv_at hl 0 rfl) (lvn hl))))))

set_option maxHeartbeats 4000000 in
set_option maxRecDepth 100000 in
/-- Judge.notConnected -/
theorem c_X2_notConnected (l : Launch) (x : CT) (ar fd : AR) (w f : Nat) (hw : fd 1 7 = nI w) (hf : fd 1 8 = nI f) (hfw : f ≤ w) (hw9 : w ≤ 9) (hw2 : 2 ≤ w) : CI l yX2_notConnected cX2_notConnected 3 (some .int) 3 74 x [.ref (xa x 95), .ref (xa x 1)] ar fd (fun r ar' fd' => r = ncI ar w f ∧ JQ ar ar' ∧ fd' = fd) := by
  refine zsI (own := RX2) rfl (by decide +kernel) (Nat.le_of_ble_eq_true rfl) ?_
  intro p e s m below meth c ls E hs hl
  have hx := E.1
  have hb := E.2.1
  have hl : lv_has ls 3 [(0, .ref (xa x 95)), (1, .ref (xa x 1))] := hl
  refine lv_iconst (v := nI 0) hx hb dX2_notConnected_0 (by decide) ?_
  refine lv_istore_n (lv' := [(2, .int (nI 0)), (0, .ref (xa x 95)), (1, .ref (xa x 1))]) hx hb dX2_notConnected_1 rfl hl (by decide) rfl (fun ls hl => ?_)
  have L_1 : ∀ (mm : Nat) (i : Nat) (ar1 : AR), (w - f - i) < mm → (i ≤ w - f) → (JQ ar ar1) → (ncI ar w f = ffst (fun p => ¬ pcN (ar 7) (nI p) 36 = 1) (w - f - i) i) → ∀ (H : Heap) (locs : List Loc) (ls : Array Slot), ST x (AA x) s.heap ar1 fd H locs → lv_has ls 3 [(0, .ref (xa x 95)), (1, .ref (xa x 1)), (2, .int (nI i))] → W p l e (rmZ 3 74) s m ([.ref (xa x 95), .ref (xa x 1)] : List Value).toArray below meth c H locs 0 0 (QI below x [.ref (xa x 95), .ref (xa x 1)] s (fun r ar' fd' => r = ncI ar w f ∧ JQ ar ar' ∧ fd' = fd)) (F0 m 2 ls []) := by
    intro mm
    induction mm with
    | zero => intro i ar1 hmu; exact absurd hmu (Nat.not_lt_zero _)
    | succ mm ih_1 =>
      intro i ar1 hmu hi hJ h1 H locs ls hs hl
      refine lv_iload_n hx hb dX2_notConnected_2 rfl (lv_at hl 2 rfl) ?_
      refine lv_aload_n hx hb dX2_notConnected_3 rfl (lv_at hl 1 rfl) ?_
      refine zVP E hs lkX2_66 [.int (nI i)] (c_X4_left l x ar1 fd) (by decide) (sh3 rfl) rfl ⟨Nat.le_of_ble_eq_true rfl, Nat.le_of_ble_eq_true rfl⟩ rfl hl.1 (Nat.le_of_ble_eq_true rfl) rfl dX2_notConnected_4 (fun r_2 H locs hp_3 hs => ?_)
      subst hp_3
      refine tp (b := nI (w - f)) (by rw [hw, hf, nI_sub hfw]) ?_
      refine lv_icmp_ge (tgt := 31) hx hb dX2_notConnected_7 (by decide) (fun c_4 => ?_) (fun c_4 => ?_)
      · have c_4 : w - f ≤ i := (nI_leI (a := w - f) (b := i) (by omega) (by omega)).mp c_4
        refine lv_iconst (v := (-1)) hx hb dX2_notConnected_31 (by decide) ?_
        exact zeI E hs ⟨(h1.trans (ffst_e (by omega))).symm, hJ, rfl⟩ dX2_notConnected_32
      · have c_4 : ¬ (w - f ≤ i) := fun h => c_4 ((nI_leI (a := w - f) (b := i) (by omega) (by omega)).mpr h)
        refine lv_aload_n hx hb dX2_notConnected_10 rfl (lv_at hl 0 rfl) ?_
        refine lv_aload_n hx hb dX2_notConnected_11 rfl (lv_at hl 1 rfl) ?_
        refine zg3 E hs (k := 1) rfl 2 (by decide) rfl q_41 dX2_notConnected_12 ?_
        refine lv_iload_n hx hb dX2_notConnected_15 rfl (lv_at hl 2 rfl) ?_
        refine zVI E hs lkX2_76 [] (c_X2_pieces l x 6 ro_6 (by decide) (by decide) ar1 fd (nI i)) (by decide) (sh1 rfl) rfl ⟨Nat.le_of_ble_eq_true rfl, Nat.le_of_ble_eq_true rfl⟩ rfl hl.1 (Nat.le_of_ble_eq_true rfl) rfl dX2_notConnected_16 (fun r_5 arr_5 fdr_5 H locs hp_6 hs => ?_)
        rw [hJ 7 (by decide) (by decide)] at hp_6
        rw [hp_6.2.2] at hs
        have hJ_r_5 := hp_6.2.1
        have hb_r_5 := pc_le (ar 7) (nI i) 36
        refine tp (b := nI (pcN (ar 7) (nI i) 36)) hp_6.1 ?_
        refine lv_iconst (v := nI 1) hx hb dX2_notConnected_19 (by decide) ?_
        refine lv_icmp_eq (tgt := 25) hx hb dX2_notConnected_20 (by decide) (fun c_7 => ?_) (fun c_7 => ?_)
        · have c_7 : pcN (ar 7) (nI i) 36 = 1 := (nI_eq (a := pcN (ar 7) (nI i) 36) (b := 1) (by omega) (by omega)).mp c_7
          refine lv_iinc (v := nI (i + 1)) (lv' := [(2, .int (nI (i + 1))), (0, .ref (xa x 95)), (1, .ref (xa x 1))]) hx hb dX2_notConnected_25 hl (k := 2) rfl (nI_inc _) (by decide) rfl (fun ls hl => ?_)
          refine lv_goto (tgt := 2) hx hb dX2_notConnected_28 (by decide) ?_
          exact ih_1 (i + 1) arr_5 (by omega) (by omega) (hJ.tr hJ_r_5) (h1.trans (ffst_f (by omega) (not_not_intro c_7))) _ _ _ hs (lvr (lv_at hl 1 rfl) (lvr (lv_at hl 2 rfl) (lvr (lv_at hl 0 rfl) (lvn hl))))
        · have c_7 : ¬ (pcN (ar 7) (nI i) 36 = 1) := fun h => c_7 ((nI_eq (a := pcN (ar 7) (nI i) 36) (b := 1) (by omega) (by omega)).mpr h)
          refine lv_iload_n hx hb dX2_notConnected_23 rfl (lv_at hl 2 rfl) ?_
          exact zeI E hs ⟨(h1.trans (ffst_t (by omega) c_7)).symm, hJ.tr hJ_r_5, rfl⟩ dX2_notConnected_24
  exact L_1 (_ + 1) 0 ar (Nat.lt_succ_self _) (by omega) (JQ.rf ar) rfl _ _ _ hs (lvr (lv_at hl 1 rfl) (lvr (lv_at hl 2 rfl) (lvr (lv_at hl 0 rfl) (lvn hl))))

set_option maxHeartbeats 4000000 in
set_option maxRecDepth 100000 in
/-- Judge.reason -/
theorem c_X2_reason (l : Launch) (x : CT) (ar fd : AR) (w f : Nat) (hw : fd 1 7 = nI w) (hf : fd 1 8 = nI f) (hfw : f ≤ w) (hw9 : w ≤ 9) (hw2 : 2 ≤ w) : CI l yX2_reason cX2_reason 2 (some .int) 4 96 x [.ref (xa x 95), .ref (xa x 1)] ar fd (fun r ar' fd' => r = rsnA ar w f ∧ JQ ar ar' ∧ fd' = fd) := by
  refine zsI (own := RX2) rfl (by decide +kernel) (Nat.le_of_ble_eq_true rfl) ?_
  intro p e s m below meth c ls E hs hl
  have hx := E.1
  have hb := E.2.1
  have hl : lv_has ls 2 [(0, .ref (xa x 95)), (1, .ref (xa x 1))] := hl
  refine lv_aload_n hx hb dX2_reason_0 rfl (lv_at hl 1 rfl) ?_
  refine zSP E hs lkX2_23 [] (c_X2_withoutPart l x ar fd) ⟨Nat.le_of_ble_eq_true rfl, Nat.le_of_ble_eq_true rfl⟩ rfl hl.1 (Nat.le_of_ble_eq_true rfl) rfl dX2_reason_1 (fun r_1 H locs hp_2 hs => ?_)
  subst hp_2
  refine lv_iconst (v := (-1)) hx hb dX2_reason_4 (by decide) ?_
  refine lv_icmp_eq (tgt := 10) hx hb dX2_reason_5 (by decide) (fun c_3 => ?_) (fun c_3 => ?_)
  · refine lv_aload_n hx hb dX2_reason_10 rfl (lv_at hl 1 rfl) ?_
    refine zSP E hs lkX2_27 [] (c_X2_ofOtherSize l x ar fd w f hw hf hfw hw9 hw2) ⟨Nat.le_of_ble_eq_true rfl, Nat.le_of_ble_eq_true rfl⟩ rfl hl.1 (Nat.le_of_ble_eq_true rfl) rfl dX2_reason_11 (fun r_4 H locs hp_5 hs => ?_)
    subst hp_5
    refine lv_iconst (v := (-1)) hx hb dX2_reason_14 (by decide) ?_
    refine lv_icmp_eq (tgt := 20) hx hb dX2_reason_15 (by decide) (fun c_6 => ?_) (fun c_6 => ?_)
    · refine lv_aload_n hx hb dX2_reason_20 rfl (lv_at hl 0 rfl) ?_
      refine lv_aload_n hx hb dX2_reason_21 rfl (lv_at hl 1 rfl) ?_
      refine zVI E hs lkX2_30 [] (c_X2_notConnected l x ar fd w f hw hf hfw hw9 hw2) (by decide) (sh1 rfl) rfl ⟨Nat.le_of_ble_eq_true rfl, Nat.le_of_ble_eq_true rfl⟩ rfl hl.1 (Nat.le_of_ble_eq_true rfl) rfl dX2_reason_22 (fun r_7 arr_7 fdr_7 H locs hp_8 hs => ?_)
      rw [hp_8.2.2] at hs
      have hJ_r_7 := hp_8.2.1
      refine tp (b := ncI ar w f) hp_8.1 ?_
      refine lv_iconst (v := (-1)) hx hb dX2_reason_25 (by decide) ?_
      refine lv_icmp_eq (tgt := 33) hx hb dX2_reason_26 (by decide) (fun c_9 => ?_) (fun c_9 => ?_)
      · refine lv_iconst (v := nI 0) hx hb dX2_reason_33 (by decide) ?_
        exact zeI E hs ⟨by unfold rsnA rsn; rw [iz_t c_3, iz_t c_6, iz_t c_9], hJ_r_7, rfl⟩ dX2_reason_34
      · refine lv_iconst (v := nI 3) hx hb dX2_reason_29 (by decide) ?_
        refine lv_goto (tgt := 34) hx hb dX2_reason_30 (by decide) ?_
        exact zeI E hs ⟨by unfold rsnA rsn; rw [iz_t c_3, iz_t c_6, iz_f c_9], hJ_r_7, rfl⟩ dX2_reason_34
    · refine lv_iconst (v := nI 2) hx hb dX2_reason_18 (by decide) ?_
      exact zeI E hs ⟨by unfold rsnA rsn; rw [iz_t c_3, iz_f c_6], JQ.rf ar, rfl⟩ dX2_reason_19
  · refine lv_iconst (v := nI 1) hx hb dX2_reason_8 (by decide) ?_
    exact zeI E hs ⟨by unfold rsnA rsn; rw [iz_f c_3], JQ.rf ar, rfl⟩ dX2_reason_9

set_option maxHeartbeats 4000000 in
set_option maxRecDepth 100000 in
/-- Judge.blamed -/
theorem c_X2_blamed (l : Launch) (x : CT) (ar fd : AR) (w f : Nat) (hw : fd 1 7 = nI w) (hf : fd 1 8 = nI f) (hfw : f ≤ w) (hw9 : w ≤ 9) (hw2 : 2 ≤ w) : CI l yX2_blamed cX2_blamed 2 (some .int) 5 117 x [.ref (xa x 95), .ref (xa x 1)] ar fd (fun r ar' fd' => r = blm ar w f ∧ JQ ar ar' ∧ fd' = fd) := by
  refine zsI (own := RX2) rfl (by decide +kernel) (Nat.le_of_ble_eq_true rfl) ?_
  intro p e s m below meth c ls E hs hl
  have hx := E.1
  have hb := E.2.1
  have hl : lv_has ls 2 [(0, .ref (xa x 95)), (1, .ref (xa x 1))] := hl
  refine lv_aload_n hx hb dX2_blamed_0 rfl (lv_at hl 0 rfl) ?_
  refine lv_aload_n hx hb dX2_blamed_1 rfl (lv_at hl 1 rfl) ?_
  refine zVI E hs lkX2_33 [] (c_X2_reason l x ar fd w f hw hf hfw hw9 hw2) (by decide) (sh1 rfl) rfl ⟨Nat.le_of_ble_eq_true rfl, Nat.le_of_ble_eq_true rfl⟩ rfl hl.1 (Nat.le_of_ble_eq_true rfl) rfl dX2_blamed_2 (fun r_1 arr_1 fdr_1 H locs hp_2 hs => ?_)
  rw [hp_2.2.2] at hs
  have hJ_r_1 := hp_2.2.1
  refine tp (b := rsnA ar w f) hp_2.1 ?_
  by_cases c_3 : rsnA ar w f = nI 1
  · refine lv_tableIn (off := 27) (tgt := 32) hx hb dX2_blamed_5 (by rw [c_3]; decide) (by rw [c_3]; decide) (by rw [c_3]; first | rfl | decide) (by decide) ?_
    refine lv_aload_n hx hb dX2_blamed_32 rfl (lv_at hl 1 rfl) ?_
    refine zSP E hs lkX2_23 [] (c_X2_withoutPart l x arr_1 fd) ⟨Nat.le_of_ble_eq_true rfl, Nat.le_of_ble_eq_true rfl⟩ rfl hl.1 (Nat.le_of_ble_eq_true rfl) rfl dX2_blamed_33 (fun r_4 H locs hp_5 hs => ?_)
    subst hp_5
    exact zeI E hs ⟨by unfold blm; rw [iz_t c_3, wpI_J hJ_r_1], hJ_r_1, rfl⟩ dX2_blamed_36
  by_cases c_6 : rsnA ar w f = nI 2
  · refine lv_tableIn (off := 32) (tgt := 37) hx hb dX2_blamed_5 (by rw [c_6]; decide) (by rw [c_6]; decide) (by rw [c_6]; first | rfl | decide) (by decide) ?_
    refine lv_aload_n hx hb dX2_blamed_37 rfl (lv_at hl 1 rfl) ?_
    refine zSP E hs lkX2_27 [] (c_X2_ofOtherSize l x arr_1 fd w f hw hf hfw hw9 hw2) ⟨Nat.le_of_ble_eq_true rfl, Nat.le_of_ble_eq_true rfl⟩ rfl hl.1 (Nat.le_of_ble_eq_true rfl) rfl dX2_blamed_38 (fun r_7 H locs hp_8 hs => ?_)
    subst hp_8
    exact zeI E hs ⟨by unfold blm; rw [iz_f c_3, iz_t c_6, osI_J hJ_r_1], hJ_r_1, rfl⟩ dX2_blamed_41
  by_cases c_9 : rsnA ar w f = nI 3
  · refine lv_tableIn (off := 37) (tgt := 42) hx hb dX2_blamed_5 (by rw [c_9]; decide) (by rw [c_9]; decide) (by rw [c_9]; first | rfl | decide) (by decide) ?_
    refine lv_aload_n hx hb dX2_blamed_42 rfl (lv_at hl 0 rfl) ?_
    refine lv_aload_n hx hb dX2_blamed_43 rfl (lv_at hl 1 rfl) ?_
    refine zVI E hs lkX2_30 [] (c_X2_notConnected l x arr_1 fd w f hw hf hfw hw9 hw2) (by decide) (sh1 rfl) rfl ⟨Nat.le_of_ble_eq_true rfl, Nat.le_of_ble_eq_true rfl⟩ rfl hl.1 (Nat.le_of_ble_eq_true rfl) rfl dX2_blamed_44 (fun r_10 arr_10 fdr_10 H locs hp_11 hs => ?_)
    rw [hp_11.2.2] at hs
    have hJ_r_10 := hp_11.2.1
    refine tp (b := ncI arr_1 w f) hp_11.1 ?_
    exact zeI E hs ⟨by unfold blm; rw [iz_f c_3, iz_f c_6, iz_t c_9, ncI_J hJ_r_1], hJ_r_1.tr hJ_r_10, rfl⟩ dX2_blamed_47
  refine lv_tableOut (tgt := 48) hx hb dX2_blamed_5 (sw3 (rsn_c _ _ _) c_3 c_6 c_9) (by decide) ?_
  refine lv_iconst (v := (-1)) hx hb dX2_blamed_48 (by decide) ?_
  exact zeI E hs ⟨by unfold blm; rw [iz_f c_3, iz_f c_6, iz_f c_9], hJ_r_1, rfl⟩ dX2_blamed_49
end
section

/-! the class itself -/
def CInv (ar fd : AR) (w f o z n : Nat) : Prop := fd 1 7 = nI w ∧ fd 1 8 = nI f ∧ f ≤ w ∧ w ≤ 9 ∧ 2 ≤ w ∧ fd 16 1 = nI o ∧ fd 16 2 = nI z ∧ o < 4 ∧ z ≤ 4 ∧ fd 93 1 = nI n ∧ n ≤ 60 ∧ CHS (ar 94)
theorem cell_of {a : Int32} {n : Nat} (h : ¬ a < nI 0 ∧ ¬ nI n < a) (hn : n < 2 ^ 31 - 1) : a.toNatClampNeg < n + 1 ∧ a = nI a.toNatClampNeg := by
  obtain ⟨j, hj, rfl⟩ := nI_of (x := a) (fun q => h.1 q)
  rw [nI_clamp hj]
  refine ⟨?_, rfl⟩
  rcases Nat.lt_or_ge n j with q | q
  · exact absurd (nI_lt q hj) h.2
  · omega
theorem dist_of {a : Int32} {n : Nat} (h : ¬ a < nI 0 ∧ ¬ nI n - nI 1 < a) (hn : n ≤ 9) : a.toNatClampNeg < n ∧ a = nI a.toNatClampNeg := by
  obtain ⟨j, hj, rfl⟩ := nI_of (x := a) (fun q => h.1 q)
  rw [nI_clamp hj]
  refine ⟨?_, rfl⟩
  rcases Nat.lt_or_ge j n with q | q
  · exact q
  · by_cases h0 : n = 0
    · subst h0
      exact absurd (show nI 0 - nI 1 < nI j by rw [Int32.lt_iff_toInt_lt, nI_toInt hj, show (nI 0 - nI 1).toInt = -1 by decide]; omega) h.2
    · rw [nI_sub (by omega)] at h
      exact absurd (nI_lt (show n - 1 < j by omega) hj) h.2
def divs (v : Int32) : Prop := v = nI 2 ∨ v = nI 3 ∨ v = nI 4 ∨ v = nI 6 ∨ v = nI 9
theorem div_of {v : Int32} (h : divs v) : v = nI v.toNatClampNeg ∧ v.toNatClampNeg ≤ 9 ∧ 2 ≤ v.toNatClampNeg := by
  rcases h with rfl | rfl | rfl | rfl | rfl <;> decide
noncomputable def nnI (v : Int32) : Int32 := iz (v = -1) (-5) v
/-- the snake's k-th cell -/
def csR (k : Nat) : Nat := k / 6 * 6 + (if k / 6 % 2 = 1 then 5 - k % 6 else k % 6)
def csC (k : Nat) : Nat := (if k / 6 % 2 = 1 then 5 - k % 6 else k % 6) * 6 + k / 6
def csCi (c : Nat) : Nat := c % 6 * 6 + (if c % 6 % 2 = 1 then 5 - c / 6 else c / 6)
noncomputable def csN (B : Prop) (k : Nat) : Nat := iz B (csC k) (csR k)
noncomputable def csI (B : Prop) (c : Nat) : Nat := iz B (csCi c) (csR c)
theorem csR_36 : ∀ k, k < 36 → csR k < 36 ∧ csR (csR k) = k := by decide +kernel
theorem csC_36 : ∀ k, k < 36 → csC k < 36 ∧ csCi (csC k) = k ∧ csCi k < 36 ∧ csC (csCi k) = k := by decide +kernel
theorem csN_36 (B : Prop) {k : Nat} (h : k < 36) : csN B k < 36 ∧ csI B (csN B k) = k ∧ csI B k < 36 ∧ csN B (csI B k) = k := by
  unfold csN csI
  by_cases hB : B
  · simp only [iz_t hB]; exact csC_36 k h
  · simp only [iz_f hB]; exact ⟨(csR_36 k h).1, (csR_36 k h).2, (csR_36 k h).1, (csR_36 k h).2⟩
theorem csN_inj (B : Prop) {i k : Nat} (hi : i < 36) (hk : k < 36) (h : csN B i = csN B k) : i = k := by
  have h1 := (csN_36 B hi).2.1
  rw [h, (csN_36 B hk).2.1] at h1
  exact h1.symm
/-- how many open cells the snake has passed before its k-th -/
noncomputable def OQ (dis : Nat → Int32) (B : Prop) (k : Nat) : Nat := ct (fun j => dis (csN B j) = -1) k
noncomputable def plV (dis : Nat → Int32) (B : Prop) (sz k : Nat) : Int32 := iz (dis (csN B k) = -1) (nI (OQ dis B k / sz)) (-1)
noncomputable def plF (dis : Nat → Int32) (B : Prop) (sz : Nat) : Nat → Int32 := fun c => plV dis B sz (csI B c)
theorem dm_s {q sz : Nat} (hz : 0 < sz) (h : q % sz + 1 = sz) : (q + 1) / sz = q / sz + 1 ∧ (q + 1) % sz = 0 := by
  have h1 := Nat.mod_add_div q sz
  have h2 : q + 1 = sz * (q / sz + 1) := by rw [Nat.mul_add, Nat.mul_one]; omega
  rw [h2]
  exact ⟨Nat.mul_div_cancel_left _ hz, Nat.mul_mod_right _ _⟩
theorem dm_n {q sz : Nat} (hz : 0 < sz) (h : ¬ q % sz + 1 = sz) : (q + 1) / sz = q / sz ∧ (q + 1) % sz = q % sz + 1 := by
  have h1 := Nat.mod_add_div q sz
  have h3 := Nat.mod_lt q hz
  have h2 : q + 1 = (q % sz + 1) + sz * (q / sz) := by omega
  constructor
  · rw [h2, Nat.add_mul_div_left _ _ hz, Nat.div_eq_of_lt (by omega)]; omega
  · rw [h2, Nat.add_mul_mod_self_left, Nat.mod_eq_of_lt (by omega)]
/-! what recording leaves as it was -/
theorem cpA_n {d s2 k : Nat} {ar : AR} (h : k < d ∨ d + 14 < k) : cpA d s2 ar k = ar k := by
  unfold cpA
  rw [zu_n _ _ (by omega), zu_n _ _ (by omega), zu_n _ _ (by omega), zu_n _ _ (by omega), zu_n _ _ (by omega), zu_n _ _ (by omega), zu_n _ _ (by omega)]
theorem rec_ar {ar fd : AR} {o z k : Nat} (h : k < 18 ∨ 77 < k) : (sp_record ar fd o z).1 k = ar k := by
  unfold sp_record
  by_cases c : 4 ≤ z
  · rw [iz_t c]; exact cpA_n (by omega)
  · rw [iz_f c]; exact cpA_n (by omega)
theorem rec_fd {ar fd : AR} {o z k : Nat} (h : k < 16 ∨ k = 17 ∨ 77 < k) : (sp_record ar fd o z).2 k = fd k := by
  unfold sp_record
  by_cases c : 4 ≤ z
  · rw [iz_t c]; show zu (zu fd _ _) 16 _ k = _; rw [zu_n _ _ (by omega), zu_n _ _ (by omega)]
  · rw [iz_f c]; show zu (zu fd _ _) 16 _ k = _; rw [zu_n _ _ (by omega), zu_n _ _ (by omega)]
theorem rec_J {a b fd : AR} {o z : Nat} (h : JQ a b) : JQ (sp_record a fd o z).1 (sp_record b fd o z).1 ∧ (sp_record b fd o z).2 = (sp_record a fd o z).2 := by
  have key : JQ (cpA (18 + 15 * ((o + z) % 4)) 1 a) (cpA (18 + 15 * ((o + z) % 4)) 1 b) := by
    intro k h1 h2
    unfold cpA zu
    rw [h (1 + 2) (by decide) (by decide), h (1 + 4) (by decide) (by decide), h (1 + 6) (by decide) (by decide), h (1 + 8) (by decide) (by decide), h (1 + 10) (by decide) (by decide), h (1 + 12) (by decide) (by decide), h (1 + 14) (by decide) (by decide), h k h1 h2]
  unfold sp_record
  by_cases c : 4 ≤ z
  · rw [iz_t c, iz_t c]; exact ⟨key, rfl⟩
  · rw [iz_f c, iz_f c]; exact ⟨key, rfl⟩
theorem sa_7 (ar fd : AR) (v : Int32) : (sp_startAnew ar fd v).2 1 7 = v := by simp [sp_startAnew, zu]
/-- the votes that a text of m pairs sets, from the cell c on -/
noncomputable def rvA (A : AR) (t : Nat → Int32) (c m : Nat) : AR := zu (zu A 3 (fun j => iz (c ≤ j ∧ j < c + m) (t ((j - c) * 3) - nI 48) (A 3 j))) 5 (fun j => iz (c ≤ j ∧ j < c + m) (t ((j - c) * 3 + 1) - nI 48) (A 5 j))

set_option maxHeartbeats 4000000 in
set_option maxRecDepth 100000 in
/-- isFromTo -/
theorem c_X6_isFromTo (l : Launch) (x : CT) (ar fd : AR) (v lo hi : Int32) : CP l yX6_isFromTo cX6_isFromTo 3 (some .boolean) 0 0 x [.int v, .int lo, .int hi] ar fd (fun r => r = bz (¬ v < lo ∧ ¬ hi < v)) := by
  refine zsP (own := RX6) rfl (by decide +kernel) (Nat.le_of_ble_eq_true rfl) ?_
  intro p e s m below meth c ls E hs hl
  have hx := E.1
  have hb := E.2.1
  have hl : lv_has ls 3 [(0, .int v), (1, .int lo), (2, .int hi)] := hl
  refine lv_iload_n hx hb dX6_isFromTo_0 rfl (lv_at hl 0 rfl) ?_
  refine lv_iload_n hx hb dX6_isFromTo_1 rfl (lv_at hl 1 rfl) ?_
  refine lv_icmp_lt (tgt := 14) hx hb dX6_isFromTo_2 (by decide) (fun c_1 => ?_) (fun c_1 => ?_)
  · refine lv_iconst (v := nI 0) hx hb dX6_isFromTo_14 (by decide) ?_
    exact zePn E hs rfl (bz_f (fun h => h.1 c_1)).symm dX6_isFromTo_15
  · refine lv_iload_n hx hb dX6_isFromTo_5 rfl (lv_at hl 0 rfl) ?_
    refine lv_iload_n hx hb dX6_isFromTo_6 rfl (lv_at hl 2 rfl) ?_
    refine lv_icmp_gt (tgt := 14) hx hb dX6_isFromTo_7 (by decide) (fun c_2 => ?_) (fun c_2 => ?_)
    · refine lv_iconst (v := nI 0) hx hb dX6_isFromTo_14 (by decide) ?_
      exact zePn E hs rfl (bz_f (fun h => h.2 c_2)).symm dX6_isFromTo_15
    · refine lv_iconst (v := nI 1) hx hb dX6_isFromTo_10 (by decide) ?_
      refine lv_goto (tgt := 15) hx hb dX6_isFromTo_11 (by decide) ?_
      exact zePn E hs rfl (bz_t ⟨c_1, c_2⟩).symm dX6_isFromTo_15

set_option maxHeartbeats 4000000 in
set_option maxRecDepth 100000 in
/-- isCell -/
theorem c_X6_isCell (l : Launch) (x : CT) (ar fd : AR) (v : Int32) : CP l yX6_isCell cX6_isCell 1 (some .boolean) 1 22 x [.int v] ar fd (fun r => r = bz (¬ v < nI 0 ∧ ¬ nI 35 < v)) := by
  refine zsP (own := RX6) rfl (by decide +kernel) (Nat.le_of_ble_eq_true rfl) ?_
  intro p e s m below meth c ls E hs hl
  have hx := E.1
  have hb := E.2.1
  have hl : lv_has ls 1 [(0, .int v)] := hl
  refine lv_iload_n hx hb dX6_isCell_0 rfl (lv_at hl 0 rfl) ?_
  refine lv_iconst (v := nI 0) hx hb dX6_isCell_1 (by decide) ?_
  refine lv_bipush (v := nI 35) hx hb dX6_isCell_2 (by decide) ?_
  refine zSP E hs lkX6_57 [] (c_X6_isFromTo l x ar fd v (nI 0) (nI 35)) ⟨Nat.le_of_ble_eq_true rfl, Nat.le_of_ble_eq_true rfl⟩ rfl hl.1 (Nat.le_of_ble_eq_true rfl) rfl dX6_isCell_4 (fun r_1 H locs hp_2 hs => ?_)
  subst hp_2
  exact zePn E hs (bz_n _) rfl dX6_isCell_7

set_option maxHeartbeats 4000000 in
set_option maxRecDepth 100000 in
/-- isParty -/
theorem c_X6_isParty (l : Launch) (x : CT) (ar fd : AR) (v : Int32) : CP l yX6_isParty cX6_isParty 1 (some .boolean) 1 22 x [.int v] ar fd (fun r => r = bz (¬ v < nI 0 ∧ ¬ nI 1 < v)) := by
  refine zsP (own := RX6) rfl (by decide +kernel) (Nat.le_of_ble_eq_true rfl) ?_
  intro p e s m below meth c ls E hs hl
  have hx := E.1
  have hb := E.2.1
  have hl : lv_has ls 1 [(0, .int v)] := hl
  refine lv_iload_n hx hb dX6_isParty_0 rfl (lv_at hl 0 rfl) ?_
  refine lv_iconst (v := nI 0) hx hb dX6_isParty_1 (by decide) ?_
  refine lv_iconst (v := nI 1) hx hb dX6_isParty_2 (by decide) ?_
  refine zSP E hs lkX6_57 [] (c_X6_isFromTo l x ar fd v (nI 0) (nI 1)) ⟨Nat.le_of_ble_eq_true rfl, Nat.le_of_ble_eq_true rfl⟩ rfl hl.1 (Nat.le_of_ble_eq_true rfl) rfl dX6_isParty_3 (fun r_1 H locs hp_2 hs => ?_)
  subst hp_2
  exact zePn E hs (bz_n _) rfl dX6_isParty_6

set_option maxHeartbeats 4000000 in
set_option maxRecDepth 100000 in
/-- dividesTheMap -/
theorem c_X6_dividesTheMap (l : Launch) (x : CT) (ar fd : AR) (v : Int32) : CP l yX6_dividesTheMap cX6_dividesTheMap 1 (some .boolean) 0 0 x [.int v] ar fd (fun r => r = bz (divs v)) := by
  refine zsP (own := RX6) rfl (by decide +kernel) (Nat.le_of_ble_eq_true rfl) ?_
  intro p e s m below meth c ls E hs hl
  have hx := E.1
  have hb := E.2.1
  have hl : lv_has ls 1 [(0, .int v)] := hl
  refine lv_iload_n hx hb dX6_dividesTheMap_0 rfl (lv_at hl 0 rfl) ?_
  refine lv_iconst (v := nI 2) hx hb dX6_dividesTheMap_1 (by decide) ?_
  refine lv_icmp_eq (tgt := 27) hx hb dX6_dividesTheMap_2 (by decide) (fun c_1 => ?_) (fun c_1 => ?_)
  · refine lv_iconst (v := nI 1) hx hb dX6_dividesTheMap_27 (by decide) ?_
    refine lv_goto (tgt := 32) hx hb dX6_dividesTheMap_28 (by decide) ?_
    exact zePn E hs rfl (bz_t (Or.inl c_1)).symm dX6_dividesTheMap_32
  · refine lv_iload_n hx hb dX6_dividesTheMap_5 rfl (lv_at hl 0 rfl) ?_
    refine lv_iconst (v := nI 3) hx hb dX6_dividesTheMap_6 (by decide) ?_
    refine lv_icmp_eq (tgt := 27) hx hb dX6_dividesTheMap_7 (by decide) (fun c_2 => ?_) (fun c_2 => ?_)
    · refine lv_iconst (v := nI 1) hx hb dX6_dividesTheMap_27 (by decide) ?_
      refine lv_goto (tgt := 32) hx hb dX6_dividesTheMap_28 (by decide) ?_
      exact zePn E hs rfl (bz_t (Or.inr (Or.inl c_2))).symm dX6_dividesTheMap_32
    · refine lv_iload_n hx hb dX6_dividesTheMap_10 rfl (lv_at hl 0 rfl) ?_
      refine lv_iconst (v := nI 4) hx hb dX6_dividesTheMap_11 (by decide) ?_
      refine lv_icmp_eq (tgt := 27) hx hb dX6_dividesTheMap_12 (by decide) (fun c_3 => ?_) (fun c_3 => ?_)
      · refine lv_iconst (v := nI 1) hx hb dX6_dividesTheMap_27 (by decide) ?_
        refine lv_goto (tgt := 32) hx hb dX6_dividesTheMap_28 (by decide) ?_
        exact zePn E hs rfl (bz_t (Or.inr (Or.inr (Or.inl c_3)))).symm dX6_dividesTheMap_32
      · refine lv_iload_n hx hb dX6_dividesTheMap_15 rfl (lv_at hl 0 rfl) ?_
        refine lv_bipush (v := nI 6) hx hb dX6_dividesTheMap_16 (by decide) ?_
        refine lv_icmp_eq (tgt := 27) hx hb dX6_dividesTheMap_18 (by decide) (fun c_4 => ?_) (fun c_4 => ?_)
        · refine lv_iconst (v := nI 1) hx hb dX6_dividesTheMap_27 (by decide) ?_
          refine lv_goto (tgt := 32) hx hb dX6_dividesTheMap_28 (by decide) ?_
          exact zePn E hs rfl (bz_t (Or.inr (Or.inr (Or.inr (Or.inl c_4))))).symm dX6_dividesTheMap_32
        · refine lv_iload_n hx hb dX6_dividesTheMap_21 rfl (lv_at hl 0 rfl) ?_
          refine lv_bipush (v := nI 9) hx hb dX6_dividesTheMap_22 (by decide) ?_
          refine lv_icmp_ne (tgt := 31) hx hb dX6_dividesTheMap_24 (by decide) (fun c_5 => ?_) (fun c_5 => ?_)
          · refine lv_iconst (v := nI 0) hx hb dX6_dividesTheMap_31 (by decide) ?_
            exact zePn E hs rfl (bz_f (fun h => by rcases h with h | h | h | h | h <;> contradiction)).symm dX6_dividesTheMap_32
          · refine lv_iconst (v := nI 1) hx hb dX6_dividesTheMap_27 (by decide) ?_
            refine lv_goto (tgt := 32) hx hb dX6_dividesTheMap_28 (by decide) ?_
            exact zePn E hs rfl (bz_t (Or.inr (Or.inr (Or.inr (Or.inr c_5))))).symm dX6_dividesTheMap_32

set_option maxHeartbeats 4000000 in
set_option maxRecDepth 100000 in
/-- noneIfNothing -/
theorem c_X6_noneIfNothing (l : Launch) (x : CT) (ar fd : AR) (v : Int32) : CP l yX6_noneIfNothing cX6_noneIfNothing 1 (some .int) 0 0 x [.int v] ar fd (fun r => r = nnI v) := by
  refine zsP (own := RX6) rfl (by decide +kernel) (Nat.le_of_ble_eq_true rfl) ?_
  intro p e s m below meth c ls E hs hl
  have hx := E.1
  have hb := E.2.1
  have hl : lv_has ls 1 [(0, .int v)] := hl
  refine lv_iload_n hx hb dX6_noneIfNothing_0 rfl (lv_at hl 0 rfl) ?_
  refine lv_iconst (v := (-1)) hx hb dX6_noneIfNothing_1 (by decide) ?_
  refine lv_icmp_ne (tgt := 10) hx hb dX6_noneIfNothing_2 (by decide) (fun c_1 => ?_) (fun c_1 => ?_)
  · refine lv_iload_n hx hb dX6_noneIfNothing_10 rfl (lv_at hl 0 rfl) ?_
    exact zeP E hs (by unfold nnI; rw [iz_f c_1]) dX6_noneIfNothing_11
  · refine lv_bipush (v := (-5)) hx hb dX6_noneIfNothing_5 (by decide) ?_
    refine lv_goto (tgt := 11) hx hb dX6_noneIfNothing_7 (by decide) ?_
    exact zeP E hs (by unfold nnI; rw [iz_t c_1]) dX6_noneIfNothing_11

set_option maxHeartbeats 4000000 in
set_option maxRecDepth 100000 in
/-- cellOfSnake -/
theorem c_X6_cellOfSnake (l : Launch) (x : CT) (ar fd : AR) (k : Nat) (hk : k < 36) (b : Int32) : CP l yX6_cellOfSnake cX6_cellOfSnake 4 (some .int) 0 0 x [.int (nI k), .int b] ar fd (fun r => r = nI (csN (¬ b = 0) k)) := by
  refine zsP (own := RX6) rfl (by decide +kernel) (Nat.le_of_ble_eq_true rfl) ?_
  intro p e s m below meth c ls E hs hl
  have hx := E.1
  have hb := E.2.1
  have hl : lv_has ls 4 [(0, .int (nI k)), (1, .int b)] := hl
  refine lv_iload_n hx hb dX6_cellOfSnake_0 rfl (lv_at hl 0 rfl) ?_
  refine lv_bipush (v := nI 6) hx hb dX6_cellOfSnake_1 (by decide) ?_
  refine lv_idiv hx hb dX6_cellOfSnake_3 (by decide) ?_
  refine tp (b := nI (k / 6)) (nI_div (by omega) (by omega)) ?_
  refine lv_istore_n (lv' := [(2, .int (nI (k / 6))), (0, .int (nI k)), (1, .int b)]) hx hb dX6_cellOfSnake_4 rfl hl (by decide) rfl (fun ls hl => ?_)
  refine lv_iload_n hx hb dX6_cellOfSnake_5 rfl (lv_at hl 1 rfl) ?_
  refine lv_bipush (v := nI 6) hx hb dX6_cellOfSnake_6 (by decide) ?_
  refine lv_irem hx hb dX6_cellOfSnake_8 (by decide) ?_
  refine tp (b := nI (k % 6)) (nI_rem (by omega) (by omega)) ?_
  refine lv_istore_n (lv' := [(3, .int (nI (k % 6))), (2, .int (nI (k / 6))), (0, .int (nI k)), (1, .int b)]) hx hb dX6_cellOfSnake_9 rfl hl (by decide) rfl (fun ls hl => ?_)
  refine lv_iload_n hx hb dX6_cellOfSnake_10 rfl (lv_at hl 1 rfl) ?_
  refine lv_iconst (v := nI 2) hx hb dX6_cellOfSnake_11 (by decide) ?_
  refine lv_irem hx hb dX6_cellOfSnake_12 (by decide) ?_
  refine tp (b := nI ((k / 6) % 2)) (nI_rem (by omega) (by omega)) ?_
  refine lv_iconst (v := nI 1) hx hb dX6_cellOfSnake_13 (by decide) ?_
  refine lv_icmp_ne (tgt := 21) hx hb dX6_cellOfSnake_14 (by decide) (fun c_1 => ?_) (fun c_1 => ?_)
  · have c_1 : ¬ ((k / 6) % 2 = 1) := fun h => c_1 ((nI_eq (a := (k / 6) % 2) (b := 1) (by omega) (by omega)).mpr h)
    refine lv_iload_n hx hb dX6_cellOfSnake_21 rfl (lv_at hl 3 rfl) ?_
    refine lv_if_eq (tgt := 34) hx hb dX6_cellOfSnake_22 (by decide) (fun c_2 => ?_) (fun c_2 => ?_)
    · refine lv_iload_n hx hb dX6_cellOfSnake_34 rfl (lv_at hl 1 rfl) ?_
      refine lv_bipush (v := nI 6) hx hb dX6_cellOfSnake_35 (by decide) ?_
      refine lv_imul hx hb dX6_cellOfSnake_37 ?_
      refine tp (b := nI ((k / 6) * 6)) (nI_mul _ _) ?_
      refine lv_iload_n hx hb dX6_cellOfSnake_38 rfl (lv_at hl 0 rfl) ?_
      refine lv_iadd hx hb dX6_cellOfSnake_39 ?_
      refine tp (b := nI (((k / 6) * 6) + (k % 6))) (nI_add _ _) ?_
      exact zeP E hs (by unfold csN csC csR; rw [iz_f (not_not_intro c_2)]; simp only [if_neg c_1]) dX6_cellOfSnake_40
    · refine lv_iload_n hx hb dX6_cellOfSnake_25 rfl (lv_at hl 0 rfl) ?_
      refine lv_bipush (v := nI 6) hx hb dX6_cellOfSnake_26 (by decide) ?_
      refine lv_imul hx hb dX6_cellOfSnake_28 ?_
      refine tp (b := nI ((k % 6) * 6)) (nI_mul _ _) ?_
      refine lv_iload_n hx hb dX6_cellOfSnake_29 rfl (lv_at hl 1 rfl) ?_
      refine lv_iadd hx hb dX6_cellOfSnake_30 ?_
      refine tp (b := nI (((k % 6) * 6) + (k / 6))) (nI_add _ _) ?_
      refine lv_goto (tgt := 40) hx hb dX6_cellOfSnake_31 (by decide) ?_
      exact zeP E hs (by unfold csN csC csR; rw [iz_t c_2]; simp only [if_neg c_1]) dX6_cellOfSnake_40
  · have c_1 : (k / 6) % 2 = 1 := (nI_eq (a := (k / 6) % 2) (b := 1) (by omega) (by omega)).mp c_1
    refine lv_iconst (v := nI 5) hx hb dX6_cellOfSnake_17 (by decide) ?_
    refine lv_iload_n hx hb dX6_cellOfSnake_18 rfl (lv_at hl 0 rfl) ?_
    refine lv_isub hx hb dX6_cellOfSnake_19 ?_
    refine tp (b := nI (5 - (k % 6))) (nI_sub (by omega)) ?_
    refine lv_istore_n (lv' := [(3, .int (nI (5 - (k % 6)))), (2, .int (nI (k / 6))), (0, .int (nI k)), (1, .int b)]) hx hb dX6_cellOfSnake_20 rfl hl (by decide) rfl (fun ls hl => ?_)
    refine lv_iload_n hx hb dX6_cellOfSnake_21 rfl (lv_at hl 3 rfl) ?_
    refine lv_if_eq (tgt := 34) hx hb dX6_cellOfSnake_22 (by decide) (fun c_3 => ?_) (fun c_3 => ?_)
    · refine lv_iload_n hx hb dX6_cellOfSnake_34 rfl (lv_at hl 1 rfl) ?_
      refine lv_bipush (v := nI 6) hx hb dX6_cellOfSnake_35 (by decide) ?_
      refine lv_imul hx hb dX6_cellOfSnake_37 ?_
      refine tp (b := nI ((k / 6) * 6)) (nI_mul _ _) ?_
      refine lv_iload_n hx hb dX6_cellOfSnake_38 rfl (lv_at hl 0 rfl) ?_
      refine lv_iadd hx hb dX6_cellOfSnake_39 ?_
      refine tp (b := nI (((k / 6) * 6) + (5 - (k % 6)))) (nI_add _ _) ?_
      exact zeP E hs (by unfold csN csC csR; rw [iz_f (not_not_intro c_3)]; simp only [if_pos c_1]) dX6_cellOfSnake_40
    · refine lv_iload_n hx hb dX6_cellOfSnake_25 rfl (lv_at hl 0 rfl) ?_
      refine lv_bipush (v := nI 6) hx hb dX6_cellOfSnake_26 (by decide) ?_
      refine lv_imul hx hb dX6_cellOfSnake_28 ?_
      refine tp (b := nI ((5 - (k % 6)) * 6)) (nI_mul _ _) ?_
      refine lv_iload_n hx hb dX6_cellOfSnake_29 rfl (lv_at hl 1 rfl) ?_
      refine lv_iadd hx hb dX6_cellOfSnake_30 ?_
      refine tp (b := nI (((5 - (k % 6)) * 6) + (k / 6))) (nI_add _ _) ?_
      refine lv_goto (tgt := 40) hx hb dX6_cellOfSnake_31 (by decide) ?_
      exact zeP E hs (by unfold csN csC csR; rw [iz_t c_3]; simp only [if_pos c_1]) dX6_cellOfSnake_40

set_option maxHeartbeats 4000000 in
set_option maxRecDepth 100000 in
/-- oneIfCut -/
theorem c_X6_oneIfCut (l : Launch) (x : CT) (ar fd : AR) (w f : Nat) (hw : fd 1 7 = nI w) (hf : fd 1 8 = nI f) (hfw : f ≤ w) (hw9 : w ≤ 9) (hw2 : 2 ≤ w) : CI l yX6_oneIfCut cX6_oneIfCut 1 (some .int) 5 117 x [.ref (xa x 0)] ar fd (fun r ar' fd' => r = bz (rsnA ar w f = nI 0) ∧ JQ ar ar' ∧ fd' = fd) := by
  refine zsI (own := RX6) rfl (by decide +kernel) (Nat.le_of_ble_eq_true rfl) ?_
  intro p e s m below meth c ls E hs hl
  have hx := E.1
  have hb := E.2.1
  have hl : lv_has ls 1 [(0, .ref (xa x 0))] := hl
  refine lv_aload_n hx hb dX6_oneIfCut_0 rfl (lv_at hl 0 rfl) ?_
  refine zg5 E hs (k := 0) rfl 5 (by decide) rfl q_135 dX6_oneIfCut_1 ?_
  refine lv_aload_n hx hb dX6_oneIfCut_4 rfl (lv_at hl 0 rfl) ?_
  refine zg5 E hs (k := 0) rfl 0 (by decide) rfl q_130 dX6_oneIfCut_5 ?_
  refine zVI E hs lkX6_132 [] (c_X2_reason l x ar fd w f hw hf hfw hw9 hw2) (by decide) (sh1 rfl) rfl ⟨Nat.le_of_ble_eq_true rfl, Nat.le_of_ble_eq_true rfl⟩ rfl hl.1 (Nat.le_of_ble_eq_true rfl) rfl dX6_oneIfCut_8 (fun r_1 arr_1 fdr_1 H locs hp_2 hs => ?_)
  rw [hp_2.2.2] at hs
  have hJ_r_1 := hp_2.2.1
  refine tp (b := rsnA ar w f) hp_2.1 ?_
  refine lv_if_ne (tgt := 18) hx hb dX6_oneIfCut_11 (by decide) (fun c_3 => ?_) (fun c_3 => ?_)
  · refine lv_iconst (v := nI 0) hx hb dX6_oneIfCut_18 (by decide) ?_
    exact zeI E hs ⟨(bz_f c_3).symm, hJ_r_1, rfl⟩ dX6_oneIfCut_19
  · refine lv_iconst (v := nI 1) hx hb dX6_oneIfCut_14 (by decide) ?_
    refine lv_goto (tgt := 19) hx hb dX6_oneIfCut_15 (by decide) ?_
    exact zeI E hs ⟨(bz_t c_3).symm, hJ_r_1, rfl⟩ dX6_oneIfCut_19

set_option maxHeartbeats 4000000 in
set_option maxRecDepth 100000 in
/-- planSnake -/
theorem c_X6_planSnake (l : Launch) (x : CT) (ar fd : AR) (w : Nat) (hw : fd 1 7 = nI w) (hw9 : w ≤ 9) (hw2 : 2 ≤ w) (b : Int32) : CV l yX6_planSnake cX6_planSnake 6 2 42 x [.ref (xa x 0), .int b] ar fd (fun ar' fd' => ar' = zu ar 101 (plF (ar 9) (¬ b = 0) (36 / w)) ∧ fd' = fd) := by
  refine zsV (own := RX6) rfl (by decide +kernel) (Nat.le_of_ble_eq_true rfl) ?_
  intro p e s m below meth c ls E hs hl
  have hx := E.1
  have hb := E.2.1
  have hl : lv_has ls 6 [(0, .ref (xa x 0)), (1, .int b)] := hl
  have hsz : 0 < 36 / w := Nat.div_pos (by omega) (by omega)
  have hsz36 : 36 / w ≤ 36 := Nat.div_le_self _ _
  refine lv_aload_n hx hb dX6_planSnake_0 rfl (lv_at hl 0 rfl) ?_
  refine zg5 E hs (k := 0) rfl 6 (by decide) rfl q_136 dX6_planSnake_1 ?_
  refine lv_iconst (v := (-1)) hx hb dX6_planSnake_4 (by decide) ?_
  refine zVV E hs lkX6_230 [] (c_X3_fill l x 100 36 ro_100 ar fd (-1)) (by decide) (sh2 rfl) rfl ⟨Nat.le_of_ble_eq_true rfl, Nat.le_of_ble_eq_true rfl⟩ rfl hl.1 (Nat.le_of_ble_eq_true rfl) rfl dX6_planSnake_5 (fun arr_1 fdr_1 H locs hp_2 hs => ?_)
  rw [hp_2.1, hp_2.2] at hs
  refine lv_iconst (v := nI 0) hx hb dX6_planSnake_8 (by decide) ?_
  refine lv_istore_n (lv' := [(2, .int (nI 0)), (0, .ref (xa x 0)), (1, .int b)]) hx hb dX6_planSnake_9 rfl hl (by decide) rfl (fun ls hl => ?_)
  refine lv_iconst (v := nI 0) hx hb dX6_planSnake_10 (by decide) ?_
  refine lv_istore_n (lv' := [(3, .int (nI 0)), (2, .int (nI 0)), (0, .ref (xa x 0)), (1, .int b)]) hx hb dX6_planSnake_11 rfl hl (by decide) rfl (fun ls hl => ?_)
  refine lv_iconst (v := nI 0) hx hb dX6_planSnake_12 (by decide) ?_
  refine lv_istore (lv' := [(4, .int (nI 0)), (3, .int (nI 0)), (2, .int (nI 0)), (0, .ref (xa x 0)), (1, .int b)]) hx hb dX6_planSnake_13 hl (by decide) rfl (fun ls hl => ?_)
  have L_3 : ∀ (mm : Nat) (i : Nat) (ar1 : AR), (36 - i) < mm → (i ≤ 36) → (∀ k, k < i → ar1 101 (csN (¬ b = 0) k) = plV (ar 9) (¬ b = 0) (36 / w) k) → (∀ k, i ≤ k → k < 36 → ar1 101 (csN (¬ b = 0) k) = -1) → (∀ q, q ≠ 101 → ar1 q = ar q) → ∀ (H : Heap) (locs : List Loc) (ls : Array Slot), ST x (AA x) s.heap ar1 fd H locs → lv_has ls 6 [(0, .ref (xa x 0)), (1, .int b), (2, .int (nI (OQ (ar 9) (¬ b = 0) i / (36 / w)))), (3, .int (nI (OQ (ar 9) (¬ b = 0) i % (36 / w)))), (4, .int (nI i))] → W p l e (rmZ 2 42) s m ([.ref (xa x 0), .int b] : List Value).toArray below meth c H locs 0 0 (QV below x [.ref (xa x 0), .int b] s (fun ar' fd' => ar' = zu ar 101 (plF (ar 9) (¬ b = 0) (36 / w)) ∧ fd' = fd)) (F0 m 15 ls []) := by
    intro mm
    induction mm with
    | zero => intro i ar1 hmu; exact absurd hmu (Nat.not_lt_zero _)
    | succ mm ih_3 =>
      intro i ar1 hmu hi h1 h2 h3 H locs ls hs hl
      have hmod : OQ (ar 9) (¬ b = 0) i % (36 / w) < 36 / w := Nat.mod_lt _ hsz
      refine lv_iload hx hb dX6_planSnake_15 (lv_at hl 4 rfl) ?_
      refine lv_bipush (v := nI 36) hx hb dX6_planSnake_17 (by decide) ?_
      refine lv_icmp_ge (tgt := 77) hx hb dX6_planSnake_19 (by decide) (fun c_4 => ?_) (fun c_4 => ?_)
      · have c_4 : 36 ≤ i := (nI_leI (a := 36) (b := i) (by omega) (by omega)).mp c_4
        have hs : ST x (AA x) s.heap (zu ar 101 (plF (ar 9) (¬ b = 0) (36 / w))) fd H locs := ⟨wl_ext hs.1 (fun q _ i2 hi2 => by
          by_cases e : q = 101
          · subst e
            have h36 : rl 101 = 36 := rfl
            obtain ⟨-, -, g1, g2⟩ := csN_36 (¬ b = 0) (show i2 < 36 by omega)
            rw [zu_s]
            have h9 := h1 (csI (¬ b = 0) i2) (by omega)
            rw [g2] at h9
            exact h9.symm
          · rw [zu_n _ _ e, h3 q e]), hs.2⟩
        exact zeV E hs ⟨rfl, rfl⟩ dX6_planSnake_77
      · have c_4 : ¬ (36 ≤ i) := fun h => c_4 ((nI_leI (a := 36) (b := i) (by omega) (by omega)).mpr h)
        refine lv_iload hx hb dX6_planSnake_22 (lv_at hl 4 rfl) ?_
        refine lv_iload_n hx hb dX6_planSnake_24 rfl (lv_at hl 1 rfl) ?_
        refine zSP E hs lkX6_233 [] (c_X6_cellOfSnake l x ar1 fd i (by omega) b) ⟨Nat.le_of_ble_eq_true rfl, Nat.le_of_ble_eq_true rfl⟩ rfl hl.1 (Nat.le_of_ble_eq_true rfl) rfl dX6_planSnake_25 (fun r_5 H locs hp_6 hs => ?_)
        subst hp_6
        refine lv_istore (lv' := [(5, .int (nI (csN (¬ b = 0) i))), (0, .ref (xa x 0)), (1, .int b), (2, .int (nI (OQ (ar 9) (¬ b = 0) i / (36 / w)))), (3, .int (nI (OQ (ar 9) (¬ b = 0) i % (36 / w)))), (4, .int (nI i))]) hx hb dX6_planSnake_28 hl (by decide) rfl (fun ls hl => ?_)
        obtain ⟨hcs, -, -, -⟩ := csN_36 (¬ b = 0) (show i < 36 by omega)
        refine lv_aload_n hx hb dX6_planSnake_30 rfl (lv_at hl 1 rfl) ?_
        refine zg5 E hs (k := 0) rfl 0 (by decide) rfl q_130 dX6_planSnake_31 ?_
        refine lv_iload hx hb dX6_planSnake_34 (lv_at hl 0 rfl) ?_
        refine zVP E hs lkX6_99 [] (c_X4_isOpen l x ar1 fd (csN (¬ b = 0) i) (by omega)) (by decide) (sh3 rfl) rfl ⟨Nat.le_of_ble_eq_true rfl, Nat.le_of_ble_eq_true rfl⟩ rfl hl.1 (Nat.le_of_ble_eq_true rfl) rfl dX6_planSnake_36 (fun r_7 H locs hp_8 hs => ?_)
        rw [h3 9 (by decide)] at hp_8
        subst hp_8
        refine lv_if_eq (tgt := 71) hx hb dX6_planSnake_39 (by decide) (fun c_9 => ?_) (fun c_9 => ?_)
        · have c_9 : ¬ (ar 9 (csN (¬ b = 0) i) = -1) := bz_0 c_9
          refine lv_iinc (v := nI (i + 1)) (lv' := [(4, .int (nI (i + 1))), (5, .int (nI (csN (¬ b = 0) i))), (0, .ref (xa x 0)), (1, .int b), (2, .int (nI (OQ (ar 9) (¬ b = 0) i / (36 / w)))), (3, .int (nI (OQ (ar 9) (¬ b = 0) i % (36 / w))))]) hx hb dX6_planSnake_71 hl (k := 5) rfl (nI_inc _) (by decide) rfl (fun ls hl => ?_)
          refine lv_goto (tgt := 15) hx hb dX6_planSnake_74 (by decide) ?_
          exact ih_3 (i + 1) ar1 (by omega) (by omega) (fun k hk => by
                by_cases e : k = i
                · rw [e, h2 i (Nat.le_refl _) (by omega)]; unfold plV; rw [iz_f c_9]
                · exact h1 k (by omega)) (fun k hk hk2 => h2 k (by omega) hk2) h3 _ _ _ hs (lvr (lv_at hl 2 rfl) (lvr (lv_at hl 3 rfl) (lvc (lv_at hl 4 rfl) (by unfold OQ; rw [ct_f (P := fun j => ar 9 (csN (¬ b = 0) j) = -1) c_9]) (lvc (lv_at hl 5 rfl) (by unfold OQ; rw [ct_f (P := fun j => ar 9 (csN (¬ b = 0) j) = -1) c_9]) (lvr (lv_at hl 0 rfl) (lvn hl))))))
        · have c_9 : ar 9 (csN (¬ b = 0) i) = -1 := bz_1 c_9
          refine lv_aload_n hx hb dX6_planSnake_42 rfl (lv_at hl 1 rfl) ?_
          refine zg5 E hs (k := 0) rfl 6 (by decide) rfl q_136 dX6_planSnake_43 ?_
          refine lv_iload hx hb dX6_planSnake_46 (lv_at hl 0 rfl) ?_
          refine lv_iload_n hx hb dX6_planSnake_48 rfl (lv_at hl 3 rfl) ?_
          refine zVV E hs lkX6_75 [] (c_X3_put l x 100 36 ro_100 ar1 fd (nI (csN (¬ b = 0) i)) (nI (OQ (ar 9) (¬ b = 0) i / (36 / w)))) (by decide) (sh2 rfl) rfl ⟨Nat.le_of_ble_eq_true rfl, Nat.le_of_ble_eq_true rfl⟩ rfl hl.1 (Nat.le_of_ble_eq_true rfl) rfl dX6_planSnake_49 (fun arr_10 fdr_10 H locs hp_11 hs => ?_)
          rw [hp_11.1, hp_11.2] at hs
          rw [rowPut_n (j := (csN (¬ b = 0) i)) (by omega) (by decide)] at hs
          refine lv_iinc (v := nI (OQ (ar 9) (¬ b = 0) i % (36 / w) + 1)) (lv' := [(3, .int (nI (OQ (ar 9) (¬ b = 0) i % (36 / w) + 1))), (5, .int (nI (csN (¬ b = 0) i))), (0, .ref (xa x 0)), (1, .int b), (2, .int (nI (OQ (ar 9) (¬ b = 0) i / (36 / w)))), (4, .int (nI i))]) hx hb dX6_planSnake_52 hl (k := 4) rfl (nI_inc _) (by decide) rfl (fun ls hl => ?_)
          refine lv_iload_n hx hb dX6_planSnake_55 rfl (lv_at hl 0 rfl) ?_
          refine lv_aload_n hx hb dX6_planSnake_56 rfl (lv_at hl 2 rfl) ?_
          refine zg5 E hs (k := 0) rfl 0 (by decide) rfl q_130 dX6_planSnake_57 ?_
          refine zVP E hs lkX6_85 [.int (nI (OQ (ar 9) (¬ b = 0) i % (36 / w) + 1))] (c_X4_size l x (zu ar1 101 (zu (ar1 101) (csN (¬ b = 0) i) (nI (OQ (ar 9) (¬ b = 0) i / (36 / w))))) fd w hw hw9 hw2) (by decide) (sh3 rfl) rfl ⟨Nat.le_of_ble_eq_true rfl, Nat.le_of_ble_eq_true rfl⟩ rfl hl.1 (Nat.le_of_ble_eq_true rfl) rfl dX6_planSnake_60 (fun r_12 H locs hp_13 hs => ?_)
          subst hp_13
          refine lv_icmp_ne (tgt := 71) hx hb dX6_planSnake_63 (by decide) (fun c_14 => ?_) (fun c_14 => ?_)
          · have c_14 : ¬ (OQ (ar 9) (¬ b = 0) i % (36 / w) + 1 = 36 / w) := fun h => c_14 ((nI_eq (a := OQ (ar 9) (¬ b = 0) i % (36 / w) + 1) (b := 36 / w) (by omega) (by omega)).mpr h)
            refine lv_iinc (v := nI (i + 1)) (lv' := [(4, .int (nI (i + 1))), (3, .int (nI (OQ (ar 9) (¬ b = 0) i % (36 / w) + 1))), (5, .int (nI (csN (¬ b = 0) i))), (0, .ref (xa x 0)), (1, .int b), (2, .int (nI (OQ (ar 9) (¬ b = 0) i / (36 / w))))]) hx hb dX6_planSnake_71 hl (k := 5) rfl (nI_inc _) (by decide) rfl (fun ls hl => ?_)
            refine lv_goto (tgt := 15) hx hb dX6_planSnake_74 (by decide) ?_
            exact ih_3 (i + 1) (zu ar1 101 (zu (ar1 101) (csN (¬ b = 0) i) (nI (OQ (ar 9) (¬ b = 0) i / (36 / w))))) (by omega) (by omega) (fun k hk => by
                  rw [zu_s]
                  by_cases e : k = i
                  · rw [e, zu_s]; unfold plV; rw [iz_t c_9]
                  · rw [zu_n _ _ (fun q => e (csN_inj _ (by omega) (by omega) q))]; exact h1 k (by omega)) (fun k hk hk2 => by
                  rw [zu_s, zu_n _ _ (fun q => absurd (csN_inj _ (by omega) (by omega) q) (by omega))]; exact h2 k (by omega) hk2) (fun q hq => by rw [zu_n _ _ hq]; exact h3 q hq) _ _ _ hs (lvr (lv_at hl 3 rfl) (lvr (lv_at hl 4 rfl) (lvc (lv_at hl 5 rfl) (by rw [show OQ (ar 9) (¬ b = 0) (i + 1) = OQ (ar 9) (¬ b = 0) i + 1 from ct_t (P := fun j => ar 9 (csN (¬ b = 0) j) = -1) c_9, (dm_n hsz c_14).1]) (lvc (lv_at hl 1 rfl) (by rw [show OQ (ar 9) (¬ b = 0) (i + 1) = OQ (ar 9) (¬ b = 0) i + 1 from ct_t (P := fun j => ar 9 (csN (¬ b = 0) j) = -1) c_9, (dm_n hsz c_14).2]) (lvr (lv_at hl 0 rfl) (lvn hl))))))
          · have c_14 : OQ (ar 9) (¬ b = 0) i % (36 / w) + 1 = 36 / w := (nI_eq (a := OQ (ar 9) (¬ b = 0) i % (36 / w) + 1) (b := 36 / w) (by omega) (by omega)).mp c_14
            refine lv_iinc (v := nI (OQ (ar 9) (¬ b = 0) i / (36 / w) + 1)) (lv' := [(2, .int (nI (OQ (ar 9) (¬ b = 0) i / (36 / w) + 1))), (3, .int (nI (OQ (ar 9) (¬ b = 0) i % (36 / w) + 1))), (5, .int (nI (csN (¬ b = 0) i))), (0, .ref (xa x 0)), (1, .int b), (4, .int (nI i))]) hx hb dX6_planSnake_66 hl (k := 4) rfl (nI_inc _) (by decide) rfl (fun ls hl => ?_)
            refine lv_iconst (v := nI 0) hx hb dX6_planSnake_69 (by decide) ?_
            refine lv_istore_n (lv' := [(3, .int (nI 0)), (2, .int (nI (OQ (ar 9) (¬ b = 0) i / (36 / w) + 1))), (5, .int (nI (csN (¬ b = 0) i))), (0, .ref (xa x 0)), (1, .int b), (4, .int (nI i))]) hx hb dX6_planSnake_70 rfl hl (by decide) rfl (fun ls hl => ?_)
            refine lv_iinc (v := nI (i + 1)) (lv' := [(4, .int (nI (i + 1))), (3, .int (nI 0)), (2, .int (nI (OQ (ar 9) (¬ b = 0) i / (36 / w) + 1))), (5, .int (nI (csN (¬ b = 0) i))), (0, .ref (xa x 0)), (1, .int b)]) hx hb dX6_planSnake_71 hl (k := 5) rfl (nI_inc _) (by decide) rfl (fun ls hl => ?_)
            refine lv_goto (tgt := 15) hx hb dX6_planSnake_74 (by decide) ?_
            exact ih_3 (i + 1) (zu ar1 101 (zu (ar1 101) (csN (¬ b = 0) i) (nI (OQ (ar 9) (¬ b = 0) i / (36 / w))))) (by omega) (by omega) (fun k hk => by
                  rw [zu_s]
                  by_cases e : k = i
                  · rw [e, zu_s]; unfold plV; rw [iz_t c_9]
                  · rw [zu_n _ _ (fun q => e (csN_inj _ (by omega) (by omega) q))]; exact h1 k (by omega)) (fun k hk hk2 => by
                  rw [zu_s, zu_n _ _ (fun q => absurd (csN_inj _ (by omega) (by omega) q) (by omega))]; exact h2 k (by omega) hk2) (fun q hq => by rw [zu_n _ _ hq]; exact h3 q hq) _ _ _ hs (lvr (lv_at hl 4 rfl) (lvr (lv_at hl 5 rfl) (lvc (lv_at hl 2 rfl) (by rw [show OQ (ar 9) (¬ b = 0) (i + 1) = OQ (ar 9) (¬ b = 0) i + 1 from ct_t (P := fun j => ar 9 (csN (¬ b = 0) j) = -1) c_9, (dm_s hsz c_14).1]) (lvc (lv_at hl 1 rfl) (by rw [show OQ (ar 9) (¬ b = 0) (i + 1) = OQ (ar 9) (¬ b = 0) i + 1 from ct_t (P := fun j => ar 9 (csN (¬ b = 0) j) = -1) c_9, (dm_s hsz c_14).2]) (lvr (lv_at hl 0 rfl) (lvn hl))))))
  exact L_3 (_ + 1) 0 (zu ar 101 (fun _ => (-1))) (Nat.lt_succ_self _) (by omega) (fun _ h => absurd h (Nat.not_lt_zero _)) (fun _ _ _ => by rw [zu_s]) (fun q hq => zu_n _ _ hq) _ _ _ hs (lvr (lv_at hl 3 rfl) (lvr (lv_at hl 4 rfl) (lvc (lv_at hl 2 rfl) (by rw [show OQ (ar 9) (¬ b = 0) 0 = 0 from rfl, Nat.zero_div]) (lvc (lv_at hl 1 rfl) (by rw [show OQ (ar 9) (¬ b = 0) 0 = 0 from rfl, Nat.zero_mod]) (lvr (lv_at hl 0 rfl) (lvn hl))))))

noncomputable def sp_tellArea (ar : AR) (k : Nat) (v q : Int32) : Int32 := iz (q = nI 0) (nI (ct (fun zz => ar (k + 1) zz = v) 36)) (iz (q = nI 1) ((-2)) (iz (q = nI 2) (bdI (ar (k + 1)) v) (iz (q = nI 3) ((nI 1000) + (mg ar k v (nI 0))) (iz (q = nI 4) (wnI (mg ar k v (nI 0))) (iz (q = nI 5) (nnI (ffst (fun zz => ar (k + 1) zz = v) 36 0)) ((-2)))))))
set_option maxHeartbeats 4000000 in
set_option maxRecDepth 100000 in
/-- tellArea -/
theorem c_X6_tellArea (l : Launch) (x : CT) (k : Nat) (hr : RO k 36) (ar fd : AR) (v q : Int32) : CP l yX6_tellArea cX6_tellArea 4 (some .int) 4 91 x [.ref (xa x 0), .ref (xa x k), .int v, .int q] ar fd (fun r => r = sp_tellArea ar k v q) := by
  refine zsP (own := RX6) rfl (by decide +kernel) (Nat.le_of_ble_eq_true rfl) ?_
  intro p e s m below meth c ls E hs hl
  have hx := E.1
  have hb := E.2.1
  have hl : lv_has ls 4 [(0, .ref (xa x 0)), (1, .ref (xa x k)), (2, .int v), (3, .int q)] := hl
  refine lv_iload_n hx hb dX6_tellArea_0 rfl (lv_at hl 3 rfl) ?_
  by_cases c_1 : q = nI 0
  · refine lv_tableIn (off := 39) (tgt := 40) hx hb dX6_tellArea_1 (by rw [c_1]; decide) (by rw [c_1]; decide) (by rw [c_1]; first | rfl | decide) (by decide) ?_
    refine lv_aload_n hx hb dX6_tellArea_40 rfl (lv_at hl 1 rfl) ?_
    refine lv_iload_n hx hb dX6_tellArea_41 rfl (lv_at hl 2 rfl) ?_
    refine zSP E hs lkX6_222 [] (c_X0_size l x k hr ar fd v) ⟨Nat.le_of_ble_eq_true rfl, Nat.le_of_ble_eq_true rfl⟩ rfl hl.1 (Nat.le_of_ble_eq_true rfl) rfl dX6_tellArea_42 (fun r_2 H locs hp_3 hs => ?_)
    subst hp_3
    exact zeP E hs (by show _ = sp_tellArea ar k v q; unfold sp_tellArea; rw [iz_t c_1]) dX6_tellArea_45
  by_cases c_4 : q = nI 1
  · refine lv_tableIn (off := 85) (tgt := 86) hx hb dX6_tellArea_1 (by rw [c_4]; decide) (by rw [c_4]; decide) (by rw [c_4]; first | rfl | decide) (by decide) ?_
    refine lv_bipush (v := (-2)) hx hb dX6_tellArea_86 (by decide) ?_
    exact zeP E hs (by show _ = sp_tellArea ar k v q; unfold sp_tellArea; rw [iz_f c_1, iz_t c_4]) dX6_tellArea_88
  by_cases c_5 : q = nI 2
  · refine lv_tableIn (off := 45) (tgt := 46) hx hb dX6_tellArea_1 (by rw [c_5]; decide) (by rw [c_5]; decide) (by rw [c_5]; first | rfl | decide) (by decide) ?_
    refine lv_aload_n hx hb dX6_tellArea_46 rfl (lv_at hl 1 rfl) ?_
    refine lv_iload_n hx hb dX6_tellArea_47 rfl (lv_at hl 2 rfl) ?_
    refine zSP E hs lkX6_237 [] (c_X0_borders l x k hr ar fd v) ⟨Nat.le_of_ble_eq_true rfl, Nat.le_of_ble_eq_true rfl⟩ rfl hl.1 (Nat.le_of_ble_eq_true rfl) rfl dX6_tellArea_48 (fun r_6 H locs hp_7 hs => ?_)
    subst hp_7
    exact zeP E hs (by show _ = sp_tellArea ar k v q; unfold sp_tellArea; rw [iz_f c_1, iz_f c_4, iz_t c_5]) dX6_tellArea_51
  by_cases c_8 : q = nI 3
  · refine lv_tableIn (off := 51) (tgt := 52) hx hb dX6_tellArea_1 (by rw [c_8]; decide) (by rw [c_8]; decide) (by rw [c_8]; first | rfl | decide) (by decide) ?_
    refine lv_sipush (v := nI 1000) hx hb dX6_tellArea_52 (by decide) ?_
    refine lv_aload_n hx hb dX6_tellArea_55 rfl (lv_at hl 0 rfl) ?_
    refine zg5 E hs (k := 0) rfl 0 (by decide) rfl q_130 dX6_tellArea_56 ?_
    refine lv_aload_n hx hb dX6_tellArea_59 rfl (lv_at hl 1 rfl) ?_
    refine lv_iload_n hx hb dX6_tellArea_60 rfl (lv_at hl 2 rfl) ?_
    refine lv_iconst (v := nI 0) hx hb dX6_tellArea_61 (by decide) ?_
    refine zVP E hs lkX6_240 [.int (nI 1000)] (c_X4_margin l x k hr ar fd v (nI 0)) (by decide) (sh3 rfl) rfl ⟨Nat.le_of_ble_eq_true rfl, Nat.le_of_ble_eq_true rfl⟩ rfl hl.1 (Nat.le_of_ble_eq_true rfl) rfl dX6_tellArea_62 (fun r_9 H locs hp_10 hs => ?_)
    subst hp_10
    refine lv_iadd hx hb dX6_tellArea_65 ?_
    exact zeP E hs (by show _ = sp_tellArea ar k v q; unfold sp_tellArea; rw [iz_f c_1, iz_f c_4, iz_f c_5, iz_t c_8]) dX6_tellArea_66
  by_cases c_11 : q = nI 4
  · refine lv_tableIn (off := 66) (tgt := 67) hx hb dX6_tellArea_1 (by rw [c_11]; decide) (by rw [c_11]; decide) (by rw [c_11]; first | rfl | decide) (by decide) ?_
    refine lv_aload_n hx hb dX6_tellArea_67 rfl (lv_at hl 0 rfl) ?_
    refine zg5 E hs (k := 0) rfl 0 (by decide) rfl q_130 dX6_tellArea_68 ?_
    refine lv_aload_n hx hb dX6_tellArea_71 rfl (lv_at hl 1 rfl) ?_
    refine lv_iload_n hx hb dX6_tellArea_72 rfl (lv_at hl 2 rfl) ?_
    refine zVP E hs lkX6_243 [] (c_X4_winner l x k hr ar fd v) (by decide) (sh3 rfl) rfl ⟨Nat.le_of_ble_eq_true rfl, Nat.le_of_ble_eq_true rfl⟩ rfl hl.1 (Nat.le_of_ble_eq_true rfl) rfl dX6_tellArea_73 (fun r_12 H locs hp_13 hs => ?_)
    subst hp_13
    exact zeP E hs (by show _ = sp_tellArea ar k v q; unfold sp_tellArea; rw [iz_f c_1, iz_f c_4, iz_f c_5, iz_f c_8, iz_t c_11]) dX6_tellArea_76
  by_cases c_14 : q = nI 5
  · refine lv_tableIn (off := 76) (tgt := 77) hx hb dX6_tellArea_1 (by rw [c_14]; decide) (by rw [c_14]; decide) (by rw [c_14]; first | rfl | decide) (by decide) ?_
    refine lv_aload_n hx hb dX6_tellArea_77 rfl (lv_at hl 1 rfl) ?_
    refine lv_iload_n hx hb dX6_tellArea_78 rfl (lv_at hl 2 rfl) ?_
    refine zSP E hs lkX6_246 [] (c_X0_lowest l x k hr ar fd v) ⟨Nat.le_of_ble_eq_true rfl, Nat.le_of_ble_eq_true rfl⟩ rfl hl.1 (Nat.le_of_ble_eq_true rfl) rfl dX6_tellArea_79 (fun r_15 H locs hp_16 hs => ?_)
    subst hp_16
    refine zSP E hs lkX6_165 [] (c_X6_noneIfNothing l x ar fd (ffst (fun zz => ar (k + 1) zz = v) 36 0)) ⟨Nat.le_of_ble_eq_true rfl, Nat.le_of_ble_eq_true rfl⟩ rfl hl.1 (Nat.le_of_ble_eq_true rfl) rfl dX6_tellArea_82 (fun r_17 H locs hp_18 hs => ?_)
    subst hp_18
    exact zeP E hs (by show _ = sp_tellArea ar k v q; unfold sp_tellArea; rw [iz_f c_1, iz_f c_4, iz_f c_5, iz_f c_8, iz_f c_11, iz_t c_14]) dX6_tellArea_85
  refine lv_tableOut (tgt := 86) hx hb dX6_tellArea_1 (sw_out (n := 5) (by decide) (fun k hk => by rcases (show k = 0 ∨ k = 1 ∨ k = 2 ∨ k = 3 ∨ k = 4 ∨ k = 5 by omega) with rfl | rfl | rfl | rfl | rfl | rfl <;> assumption)) (by decide) ?_
  refine lv_bipush (v := (-2)) hx hb dX6_tellArea_86 (by decide) ?_
  exact zeP E hs (by show _ = sp_tellArea ar k v q; unfold sp_tellArea; rw [iz_f c_1, iz_f c_4, iz_f c_5, iz_f c_8, iz_f c_11, iz_f c_14]) dX6_tellArea_88

noncomputable def sp_setVotes (ar fd : AR) (w f o z n : Nat) (a u v : Int32) : Int32 × AR × AR := iz (¬ a < nI 0 ∧ ¬ nI 35 < a) (iz (¬ u < nI 0 ∧ ¬ nI 9 < u) (iz (¬ v < nI 0 ∧ ¬ nI 9 < v) (iz (u = ar 3 a.toNatClampNeg) (iz (v = ar 5 a.toNatClampNeg) (((-5), ar, fd)) ((((nI 10) * (ar 3 a.toNatClampNeg)) + (ar 5 a.toNatClampNeg), zu (zu ((sp_record ar fd o z).1) 3 (zu (((sp_record ar fd o z).1) 3) a.toNatClampNeg u)) 5 (zu ((zu ((sp_record ar fd o z).1) 3 (zu (((sp_record ar fd o z).1) 3) a.toNatClampNeg u)) 5) a.toNatClampNeg v), (sp_record ar fd o z).2))) ((((nI 10) * (ar 3 a.toNatClampNeg)) + (ar 5 a.toNatClampNeg), zu (zu ((sp_record ar fd o z).1) 3 (zu (((sp_record ar fd o z).1) 3) a.toNatClampNeg u)) 5 (zu ((zu ((sp_record ar fd o z).1) 3 (zu (((sp_record ar fd o z).1) 3) a.toNatClampNeg u)) 5) a.toNatClampNeg v), (sp_record ar fd o z).2))) (((-2), ar, fd))) (((-2), ar, fd))) (((-1), ar, fd))
set_option maxHeartbeats 4000000 in
set_option maxRecDepth 100000 in
/-- setVotes -/
theorem c_X6_setVotes (l : Launch) (x : CT) (ar fd : AR) (w f o z n : Nat) (hc : CInv ar fd w f o z n) (a u v : Int32) : CI l yX6_setVotes cX6_setVotes 6 (some .int) 4 86 x [.ref (xa x 0), .int a, .int u, .int v] ar fd (fun r ar' fd' => (r, ar', fd') = sp_setVotes ar fd w f o z n a u v) := by
  refine zsI (own := RX6) rfl (by decide +kernel) (Nat.le_of_ble_eq_true rfl) ?_
  intro p e s m below meth c ls E hs hl
  have hx := E.1
  have hb := E.2.1
  have hl : lv_has ls 6 [(0, .ref (xa x 0)), (1, .int a), (2, .int u), (3, .int v)] := hl
  obtain ⟨hw, hf, hfw, hw9, hw2, hof, hz, ho, hz4, hn, hn60, hC⟩ := id hc
  refine lv_iload_n hx hb dX6_setVotes_0 rfl (lv_at hl 1 rfl) ?_
  refine zSP E hs lkX6_53 [] (c_X6_isCell l x ar fd a) ⟨Nat.le_of_ble_eq_true rfl, Nat.le_of_ble_eq_true rfl⟩ rfl hl.1 (Nat.le_of_ble_eq_true rfl) rfl dX6_setVotes_1 (fun r_1 H locs hp_2 hs => ?_)
  subst hp_2
  refine lv_if_ne (tgt := 9) hx hb dX6_setVotes_4 (by decide) (fun c_3 => ?_) (fun c_3 => ?_)
  · have c_3 : ¬ a < nI 0 ∧ ¬ nI 35 < a := bz_1 c_3
    refine lv_iload_n hx hb dX6_setVotes_9 rfl (lv_at hl 2 rfl) ?_
    refine lv_iconst (v := nI 0) hx hb dX6_setVotes_10 (by decide) ?_
    refine lv_bipush (v := nI 9) hx hb dX6_setVotes_11 (by decide) ?_
    refine zSP E hs lkX6_57 [] (c_X6_isFromTo l x ar fd u (nI 0) (nI 9)) ⟨Nat.le_of_ble_eq_true rfl, Nat.le_of_ble_eq_true rfl⟩ rfl hl.1 (Nat.le_of_ble_eq_true rfl) rfl dX6_setVotes_13 (fun r_4 H locs hp_5 hs => ?_)
    subst hp_5
    refine lv_if_eq (tgt := 29) hx hb dX6_setVotes_16 (by decide) (fun c_6 => ?_) (fun c_6 => ?_)
    · have c_6 : ¬ (¬ u < nI 0 ∧ ¬ nI 9 < u) := bz_0 c_6
      refine lv_bipush (v := (-2)) hx hb dX6_setVotes_29 (by decide) ?_
      exact zeI E hs (by show (_, _, _) = sp_setVotes ar fd w f o z n a u v; unfold sp_setVotes; rw [iz_t c_3, iz_f c_6]) dX6_setVotes_31
    · have c_6 : ¬ u < nI 0 ∧ ¬ nI 9 < u := bz_1 c_6
      refine lv_iload_n hx hb dX6_setVotes_19 rfl (lv_at hl 3 rfl) ?_
      refine lv_iconst (v := nI 0) hx hb dX6_setVotes_20 (by decide) ?_
      refine lv_bipush (v := nI 9) hx hb dX6_setVotes_21 (by decide) ?_
      refine zSP E hs lkX6_57 [] (c_X6_isFromTo l x ar fd v (nI 0) (nI 9)) ⟨Nat.le_of_ble_eq_true rfl, Nat.le_of_ble_eq_true rfl⟩ rfl hl.1 (Nat.le_of_ble_eq_true rfl) rfl dX6_setVotes_23 (fun r_7 H locs hp_8 hs => ?_)
      subst hp_8
      refine lv_if_ne (tgt := 32) hx hb dX6_setVotes_26 (by decide) (fun c_9 => ?_) (fun c_9 => ?_)
      · have c_9 : ¬ v < nI 0 ∧ ¬ nI 9 < v := bz_1 c_9
        obtain ⟨hlt_a, heq_a⟩ := cell_of c_3 (by decide)
        rw [heq_a] at hl
        refine lv_aload_n hx hb dX6_setVotes_32 rfl (lv_at hl 0 rfl) ?_
        refine zg5 E hs (k := 0) rfl 0 (by decide) rfl q_130 dX6_setVotes_33 ?_
        refine zg3 E hs (k := 1) rfl 0 (by decide) rfl q_36 dX6_setVotes_36 ?_
        refine lv_iload_n hx hb dX6_setVotes_39 rfl (lv_at hl 1 rfl) ?_
        refine zVP E hs lkX6_64 [] (c_X3_at l x 2 36 ro_2 ar fd (nI a.toNatClampNeg)) (by decide) (sh2 rfl) rfl ⟨Nat.le_of_ble_eq_true rfl, Nat.le_of_ble_eq_true rfl⟩ rfl hl.1 (Nat.le_of_ble_eq_true rfl) rfl dX6_setVotes_40 (fun r_10 H locs hp_11 hs => ?_)
        subst hp_11
        refine tp (b := ar 3 a.toNatClampNeg) (rowAt_n (by omega) (by decide)) ?_
        refine lv_istore (lv' := [(4, .int (ar 3 a.toNatClampNeg)), (0, .ref (xa x 0)), (1, .int (nI a.toNatClampNeg)), (2, .int u), (3, .int v)]) hx hb dX6_setVotes_43 hl (by decide) rfl (fun ls hl => ?_)
        refine lv_aload_n hx hb dX6_setVotes_45 rfl (lv_at hl 1 rfl) ?_
        refine zg5 E hs (k := 0) rfl 0 (by decide) rfl q_130 dX6_setVotes_46 ?_
        refine zg3 E hs (k := 1) rfl 1 (by decide) rfl q_38 dX6_setVotes_49 ?_
        refine lv_iload_n hx hb dX6_setVotes_52 rfl (lv_at hl 2 rfl) ?_
        refine zVP E hs lkX6_64 [] (c_X3_at l x 4 36 ro_4 ar fd (nI a.toNatClampNeg)) (by decide) (sh2 rfl) rfl ⟨Nat.le_of_ble_eq_true rfl, Nat.le_of_ble_eq_true rfl⟩ rfl hl.1 (Nat.le_of_ble_eq_true rfl) rfl dX6_setVotes_53 (fun r_12 H locs hp_13 hs => ?_)
        subst hp_13
        refine tp (b := ar 5 a.toNatClampNeg) (rowAt_n (by omega) (by decide)) ?_
        refine lv_istore (lv' := [(5, .int (ar 5 a.toNatClampNeg)), (4, .int (ar 3 a.toNatClampNeg)), (0, .ref (xa x 0)), (1, .int (nI a.toNatClampNeg)), (2, .int u), (3, .int v)]) hx hb dX6_setVotes_56 hl (by decide) rfl (fun ls hl => ?_)
        refine lv_iload_n hx hb dX6_setVotes_58 rfl (lv_at hl 4 rfl) ?_
        refine lv_iload hx hb dX6_setVotes_59 (lv_at hl 1 rfl) ?_
        refine lv_icmp_ne (tgt := 73) hx hb dX6_setVotes_61 (by decide) (fun c_14 => ?_) (fun c_14 => ?_)
        · refine lv_aload_n hx hb dX6_setVotes_73 rfl (lv_at hl 2 rfl) ?_
          refine zg5 E hs (k := 0) rfl 1 (by decide) rfl q_131 dX6_setVotes_74 ?_
          refine lv_aload_n hx hb dX6_setVotes_77 rfl (lv_at hl 2 rfl) ?_
          refine zg5 E hs (k := 0) rfl 0 (by decide) rfl q_130 dX6_setVotes_78 ?_
          refine zVV E hs lkX6_71 [] (c_X1_record l x ar fd o z hof hz ho hz4) (by decide) (sh0 rfl) rfl ⟨Nat.le_of_ble_eq_true rfl, Nat.le_of_ble_eq_true rfl⟩ rfl hl.1 (Nat.le_of_ble_eq_true rfl) rfl dX6_setVotes_81 (fun arr_15 fdr_15 H locs hp_16 hs => ?_)
          rw [show arr_15 = (sp_record ar fd o z).1 from congrArg Prod.fst hp_16, show fdr_15 = (sp_record ar fd o z).2 from congrArg Prod.snd hp_16] at hs
          refine lv_aload_n hx hb dX6_setVotes_84 rfl (lv_at hl 2 rfl) ?_
          refine zg5 E hs (k := 0) rfl 0 (by decide) rfl q_130 dX6_setVotes_85 ?_
          refine zg3 E hs (k := 1) rfl 0 (by decide) rfl q_36 dX6_setVotes_88 ?_
          refine lv_iload_n hx hb dX6_setVotes_91 rfl (lv_at hl 3 rfl) ?_
          refine lv_iload_n hx hb dX6_setVotes_92 rfl (lv_at hl 4 rfl) ?_
          refine zVV E hs lkX6_75 [] (c_X3_put l x 2 36 ro_2 ((sp_record ar fd o z).1) ((sp_record ar fd o z).2) (nI a.toNatClampNeg) u) (by decide) (sh2 rfl) rfl ⟨Nat.le_of_ble_eq_true rfl, Nat.le_of_ble_eq_true rfl⟩ rfl hl.1 (Nat.le_of_ble_eq_true rfl) rfl dX6_setVotes_93 (fun arr_17 fdr_17 H locs hp_18 hs => ?_)
          rw [hp_18.1, hp_18.2] at hs
          rw [rowPut_n (j := a.toNatClampNeg) (by omega) (by decide)] at hs
          refine lv_aload_n hx hb dX6_setVotes_96 rfl (lv_at hl 2 rfl) ?_
          refine zg5 E hs (k := 0) rfl 0 (by decide) rfl q_130 dX6_setVotes_97 ?_
          refine zg3 E hs (k := 1) rfl 1 (by decide) rfl q_38 dX6_setVotes_100 ?_
          refine lv_iload_n hx hb dX6_setVotes_103 rfl (lv_at hl 3 rfl) ?_
          refine lv_iload_n hx hb dX6_setVotes_104 rfl (lv_at hl 5 rfl) ?_
          refine zVV E hs lkX6_75 [] (c_X3_put l x 4 36 ro_4 (zu ((sp_record ar fd o z).1) 3 (zu (((sp_record ar fd o z).1) 3) a.toNatClampNeg u)) ((sp_record ar fd o z).2) (nI a.toNatClampNeg) v) (by decide) (sh2 rfl) rfl ⟨Nat.le_of_ble_eq_true rfl, Nat.le_of_ble_eq_true rfl⟩ rfl hl.1 (Nat.le_of_ble_eq_true rfl) rfl dX6_setVotes_105 (fun arr_19 fdr_19 H locs hp_20 hs => ?_)
          rw [hp_20.1, hp_20.2] at hs
          rw [rowPut_n (j := a.toNatClampNeg) (by omega) (by decide)] at hs
          refine lv_bipush (v := nI 10) hx hb dX6_setVotes_108 (by decide) ?_
          refine lv_iload hx hb dX6_setVotes_110 (lv_at hl 1 rfl) ?_
          refine lv_imul hx hb dX6_setVotes_112 ?_
          refine lv_iload hx hb dX6_setVotes_113 (lv_at hl 0 rfl) ?_
          refine lv_iadd hx hb dX6_setVotes_115 ?_
          exact zeI E hs (by show (_, _, _) = sp_setVotes ar fd w f o z n a u v; unfold sp_setVotes; rw [iz_t c_3, iz_t c_6, iz_t c_9, iz_f c_14]) dX6_setVotes_116
        · refine lv_iload_n hx hb dX6_setVotes_64 rfl (lv_at hl 5 rfl) ?_
          refine lv_iload hx hb dX6_setVotes_65 (lv_at hl 0 rfl) ?_
          refine lv_icmp_ne (tgt := 73) hx hb dX6_setVotes_67 (by decide) (fun c_21 => ?_) (fun c_21 => ?_)
          · refine lv_aload_n hx hb dX6_setVotes_73 rfl (lv_at hl 2 rfl) ?_
            refine zg5 E hs (k := 0) rfl 1 (by decide) rfl q_131 dX6_setVotes_74 ?_
            refine lv_aload_n hx hb dX6_setVotes_77 rfl (lv_at hl 2 rfl) ?_
            refine zg5 E hs (k := 0) rfl 0 (by decide) rfl q_130 dX6_setVotes_78 ?_
            refine zVV E hs lkX6_71 [] (c_X1_record l x ar fd o z hof hz ho hz4) (by decide) (sh0 rfl) rfl ⟨Nat.le_of_ble_eq_true rfl, Nat.le_of_ble_eq_true rfl⟩ rfl hl.1 (Nat.le_of_ble_eq_true rfl) rfl dX6_setVotes_81 (fun arr_22 fdr_22 H locs hp_23 hs => ?_)
            rw [show arr_22 = (sp_record ar fd o z).1 from congrArg Prod.fst hp_23, show fdr_22 = (sp_record ar fd o z).2 from congrArg Prod.snd hp_23] at hs
            refine lv_aload_n hx hb dX6_setVotes_84 rfl (lv_at hl 2 rfl) ?_
            refine zg5 E hs (k := 0) rfl 0 (by decide) rfl q_130 dX6_setVotes_85 ?_
            refine zg3 E hs (k := 1) rfl 0 (by decide) rfl q_36 dX6_setVotes_88 ?_
            refine lv_iload_n hx hb dX6_setVotes_91 rfl (lv_at hl 3 rfl) ?_
            refine lv_iload_n hx hb dX6_setVotes_92 rfl (lv_at hl 4 rfl) ?_
            refine zVV E hs lkX6_75 [] (c_X3_put l x 2 36 ro_2 ((sp_record ar fd o z).1) ((sp_record ar fd o z).2) (nI a.toNatClampNeg) u) (by decide) (sh2 rfl) rfl ⟨Nat.le_of_ble_eq_true rfl, Nat.le_of_ble_eq_true rfl⟩ rfl hl.1 (Nat.le_of_ble_eq_true rfl) rfl dX6_setVotes_93 (fun arr_24 fdr_24 H locs hp_25 hs => ?_)
            rw [hp_25.1, hp_25.2] at hs
            rw [rowPut_n (j := a.toNatClampNeg) (by omega) (by decide)] at hs
            refine lv_aload_n hx hb dX6_setVotes_96 rfl (lv_at hl 2 rfl) ?_
            refine zg5 E hs (k := 0) rfl 0 (by decide) rfl q_130 dX6_setVotes_97 ?_
            refine zg3 E hs (k := 1) rfl 1 (by decide) rfl q_38 dX6_setVotes_100 ?_
            refine lv_iload_n hx hb dX6_setVotes_103 rfl (lv_at hl 3 rfl) ?_
            refine lv_iload_n hx hb dX6_setVotes_104 rfl (lv_at hl 5 rfl) ?_
            refine zVV E hs lkX6_75 [] (c_X3_put l x 4 36 ro_4 (zu ((sp_record ar fd o z).1) 3 (zu (((sp_record ar fd o z).1) 3) a.toNatClampNeg u)) ((sp_record ar fd o z).2) (nI a.toNatClampNeg) v) (by decide) (sh2 rfl) rfl ⟨Nat.le_of_ble_eq_true rfl, Nat.le_of_ble_eq_true rfl⟩ rfl hl.1 (Nat.le_of_ble_eq_true rfl) rfl dX6_setVotes_105 (fun arr_26 fdr_26 H locs hp_27 hs => ?_)
            rw [hp_27.1, hp_27.2] at hs
            rw [rowPut_n (j := a.toNatClampNeg) (by omega) (by decide)] at hs
            refine lv_bipush (v := nI 10) hx hb dX6_setVotes_108 (by decide) ?_
            refine lv_iload hx hb dX6_setVotes_110 (lv_at hl 1 rfl) ?_
            refine lv_imul hx hb dX6_setVotes_112 ?_
            refine lv_iload hx hb dX6_setVotes_113 (lv_at hl 0 rfl) ?_
            refine lv_iadd hx hb dX6_setVotes_115 ?_
            exact zeI E hs (by show (_, _, _) = sp_setVotes ar fd w f o z n a u v; unfold sp_setVotes; rw [iz_t c_3, iz_t c_6, iz_t c_9, iz_t c_14, iz_f c_21]) dX6_setVotes_116
          · refine lv_bipush (v := (-5)) hx hb dX6_setVotes_70 (by decide) ?_
            exact zeI E hs (by show (_, _, _) = sp_setVotes ar fd w f o z n a u v; unfold sp_setVotes; rw [iz_t c_3, iz_t c_6, iz_t c_9, iz_t c_14, iz_t c_21]) dX6_setVotes_72
      · have c_9 : ¬ (¬ v < nI 0 ∧ ¬ nI 9 < v) := bz_0 c_9
        refine lv_bipush (v := (-2)) hx hb dX6_setVotes_29 (by decide) ?_
        exact zeI E hs (by show (_, _, _) = sp_setVotes ar fd w f o z n a u v; unfold sp_setVotes; rw [iz_t c_3, iz_t c_6, iz_f c_9]) dX6_setVotes_31
  · have c_3 : ¬ (¬ a < nI 0 ∧ ¬ nI 35 < a) := bz_0 c_3
    refine lv_iconst (v := (-1)) hx hb dX6_setVotes_7 (by decide) ?_
    exact zeI E hs (by show (_, _, _) = sp_setVotes ar fd w f o z n a u v; unfold sp_setVotes; rw [iz_f c_3]) dX6_setVotes_8

noncomputable def sp_begin (ar fd : AR) (w f o z n : Nat) (v : Int32) : Int32 × AR × AR := iz (divs v) ((nI (36 / v.toNatClampNeg), (sp_startAnew ((sp_record ar fd o z).1) ((sp_record ar fd o z).2) v).1, (sp_startAnew ((sp_record ar fd o z).1) ((sp_record ar fd o z).2) v).2)) (((-2), ar, fd))
set_option maxHeartbeats 4000000 in
set_option maxRecDepth 100000 in
/-- begin -/
theorem c_X6_begin (l : Launch) (x : CT) (ar fd : AR) (w f o z n : Nat) (hc : CInv ar fd w f o z n) (v : Int32) : CI l yX6_begin cX6_begin 2 (some .int) 4 86 x [.ref (xa x 0), .int v] ar fd (fun r ar' fd' => (r, ar', fd') = sp_begin ar fd w f o z n v) := by
  refine zsI (own := RX6) rfl (by decide +kernel) (Nat.le_of_ble_eq_true rfl) ?_
  intro p e s m below meth c ls E hs hl
  have hx := E.1
  have hb := E.2.1
  have hl : lv_has ls 2 [(0, .ref (xa x 0)), (1, .int v)] := hl
  obtain ⟨hw, hf, hfw, hw9, hw2, hof, hz, ho, hz4, hn, hn60, hC⟩ := id hc
  refine lv_iload_n hx hb dX6_begin_0 rfl (lv_at hl 1 rfl) ?_
  refine zSP E hs lkX6_78 [] (c_X6_dividesTheMap l x ar fd v) ⟨Nat.le_of_ble_eq_true rfl, Nat.le_of_ble_eq_true rfl⟩ rfl hl.1 (Nat.le_of_ble_eq_true rfl) rfl dX6_begin_1 (fun r_1 H locs hp_2 hs => ?_)
  subst hp_2
  refine lv_if_ne (tgt := 10) hx hb dX6_begin_4 (by decide) (fun c_3 => ?_) (fun c_3 => ?_)
  · have c_3 : divs v := bz_1 c_3
    obtain ⟨ev, hv9, hv2⟩ := div_of c_3
    refine lv_aload_n hx hb dX6_begin_10 rfl (lv_at hl 0 rfl) ?_
    refine zg5 E hs (k := 0) rfl 1 (by decide) rfl q_131 dX6_begin_11 ?_
    refine lv_aload_n hx hb dX6_begin_14 rfl (lv_at hl 0 rfl) ?_
    refine zg5 E hs (k := 0) rfl 0 (by decide) rfl q_130 dX6_begin_15 ?_
    refine zVV E hs lkX6_71 [] (c_X1_record l x ar fd o z hof hz ho hz4) (by decide) (sh0 rfl) rfl ⟨Nat.le_of_ble_eq_true rfl, Nat.le_of_ble_eq_true rfl⟩ rfl hl.1 (Nat.le_of_ble_eq_true rfl) rfl dX6_begin_18 (fun arr_4 fdr_4 H locs hp_5 hs => ?_)
    rw [show arr_4 = (sp_record ar fd o z).1 from congrArg Prod.fst hp_5, show fdr_4 = (sp_record ar fd o z).2 from congrArg Prod.snd hp_5] at hs
    refine lv_aload_n hx hb dX6_begin_21 rfl (lv_at hl 0 rfl) ?_
    refine zg5 E hs (k := 0) rfl 0 (by decide) rfl q_130 dX6_begin_22 ?_
    refine lv_iload_n hx hb dX6_begin_25 rfl (lv_at hl 1 rfl) ?_
    refine zVV E hs lkX6_81 [] (c_X4_startAnew l x ((sp_record ar fd o z).1) ((sp_record ar fd o z).2) v) (by decide) (sh3 rfl) rfl ⟨Nat.le_of_ble_eq_true rfl, Nat.le_of_ble_eq_true rfl⟩ rfl hl.1 (Nat.le_of_ble_eq_true rfl) rfl dX6_begin_26 (fun arr_6 fdr_6 H locs hp_7 hs => ?_)
    rw [show arr_6 = (sp_startAnew ((sp_record ar fd o z).1) ((sp_record ar fd o z).2) v).1 from congrArg Prod.fst hp_7, show fdr_6 = (sp_startAnew ((sp_record ar fd o z).1) ((sp_record ar fd o z).2) v).2 from congrArg Prod.snd hp_7] at hs
    refine lv_aload_n hx hb dX6_begin_29 rfl (lv_at hl 0 rfl) ?_
    refine zg5 E hs (k := 0) rfl 0 (by decide) rfl q_130 dX6_begin_30 ?_
    refine zVP E hs lkX6_85 [] (c_X4_size l x ((sp_startAnew ((sp_record ar fd o z).1) ((sp_record ar fd o z).2) v).1) ((sp_startAnew ((sp_record ar fd o z).1) ((sp_record ar fd o z).2) v).2) v.toNatClampNeg (by rw [sa_7]; exact ev) hv9 hv2) (by decide) (sh3 rfl) rfl ⟨Nat.le_of_ble_eq_true rfl, Nat.le_of_ble_eq_true rfl⟩ rfl hl.1 (Nat.le_of_ble_eq_true rfl) rfl dX6_begin_33 (fun r_8 H locs hp_9 hs => ?_)
    subst hp_9
    exact zeI E hs (by show (_, _, _) = sp_begin ar fd w f o z n v; unfold sp_begin; rw [iz_t c_3]) dX6_begin_36
  · have c_3 : ¬ (divs v) := bz_0 c_3
    refine lv_bipush (v := (-2)) hx hb dX6_begin_7 (by decide) ?_
    exact zeI E hs (by show (_, _, _) = sp_begin ar fd w f o z n v; unfold sp_begin; rw [iz_f c_3]) dX6_begin_9

noncomputable def sp_setTarget (ar fd : AR) (w f o z n : Nat) (a v : Int32) : Int32 × AR × AR := iz (¬ a < nI 0 ∧ ¬ nI 1 < a) (iz (¬ v < nI 0 ∧ ¬ nI 9 < v) (iz (v = ar 15 a.toNatClampNeg) (((-5), ar, fd)) ((ar 15 a.toNatClampNeg, zu ((sp_record ar fd o z).1) 15 (zu (((sp_record ar fd o z).1) 15) a.toNatClampNeg v), (sp_record ar fd o z).2))) (((-2), ar, fd))) (((-1), ar, fd))
set_option maxHeartbeats 4000000 in
set_option maxRecDepth 100000 in
/-- setTarget -/
theorem c_X6_setTarget (l : Launch) (x : CT) (ar fd : AR) (w f o z n : Nat) (hc : CInv ar fd w f o z n) (a v : Int32) : CI l yX6_setTarget cX6_setTarget 4 (some .int) 4 86 x [.ref (xa x 0), .int a, .int v] ar fd (fun r ar' fd' => (r, ar', fd') = sp_setTarget ar fd w f o z n a v) := by
  refine zsI (own := RX6) rfl (by decide +kernel) (Nat.le_of_ble_eq_true rfl) ?_
  intro p e s m below meth c ls E hs hl
  have hx := E.1
  have hb := E.2.1
  have hl : lv_has ls 4 [(0, .ref (xa x 0)), (1, .int a), (2, .int v)] := hl
  obtain ⟨hw, hf, hfw, hw9, hw2, hof, hz, ho, hz4, hn, hn60, hC⟩ := id hc
  refine lv_iload_n hx hb dX6_setTarget_0 rfl (lv_at hl 1 rfl) ?_
  refine zSP E hs lkX6_89 [] (c_X6_isParty l x ar fd a) ⟨Nat.le_of_ble_eq_true rfl, Nat.le_of_ble_eq_true rfl⟩ rfl hl.1 (Nat.le_of_ble_eq_true rfl) rfl dX6_setTarget_1 (fun r_1 H locs hp_2 hs => ?_)
  subst hp_2
  refine lv_if_ne (tgt := 9) hx hb dX6_setTarget_4 (by decide) (fun c_3 => ?_) (fun c_3 => ?_)
  · have c_3 : ¬ a < nI 0 ∧ ¬ nI 1 < a := bz_1 c_3
    refine lv_iload_n hx hb dX6_setTarget_9 rfl (lv_at hl 2 rfl) ?_
    refine lv_iconst (v := nI 0) hx hb dX6_setTarget_10 (by decide) ?_
    refine lv_bipush (v := nI 9) hx hb dX6_setTarget_11 (by decide) ?_
    refine zSP E hs lkX6_57 [] (c_X6_isFromTo l x ar fd v (nI 0) (nI 9)) ⟨Nat.le_of_ble_eq_true rfl, Nat.le_of_ble_eq_true rfl⟩ rfl hl.1 (Nat.le_of_ble_eq_true rfl) rfl dX6_setTarget_13 (fun r_4 H locs hp_5 hs => ?_)
    subst hp_5
    refine lv_if_ne (tgt := 22) hx hb dX6_setTarget_16 (by decide) (fun c_6 => ?_) (fun c_6 => ?_)
    · have c_6 : ¬ v < nI 0 ∧ ¬ nI 9 < v := bz_1 c_6
      obtain ⟨hlt_a, heq_a⟩ := cell_of c_3 (by decide)
      rw [heq_a] at hl
      refine lv_aload_n hx hb dX6_setTarget_22 rfl (lv_at hl 0 rfl) ?_
      refine zg5 E hs (k := 0) rfl 0 (by decide) rfl q_130 dX6_setTarget_23 ?_
      refine zg3 E hs (k := 1) rfl 6 (by decide) rfl q_49 dX6_setTarget_26 ?_
      refine lv_iload_n hx hb dX6_setTarget_29 rfl (lv_at hl 1 rfl) ?_
      refine zVP E hs lkX6_64 [] (c_X3_at l x 14 2 ro_14 ar fd (nI a.toNatClampNeg)) (by decide) (sh2 rfl) rfl ⟨Nat.le_of_ble_eq_true rfl, Nat.le_of_ble_eq_true rfl⟩ rfl hl.1 (Nat.le_of_ble_eq_true rfl) rfl dX6_setTarget_30 (fun r_7 H locs hp_8 hs => ?_)
      subst hp_8
      refine tp (b := ar 15 a.toNatClampNeg) (rowAt_n (by omega) (by decide)) ?_
      refine lv_istore_n (lv' := [(3, .int (ar 15 a.toNatClampNeg)), (0, .ref (xa x 0)), (1, .int (nI a.toNatClampNeg)), (2, .int v)]) hx hb dX6_setTarget_33 rfl hl (by decide) rfl (fun ls hl => ?_)
      refine lv_iload_n hx hb dX6_setTarget_34 rfl (lv_at hl 3 rfl) ?_
      refine lv_iload_n hx hb dX6_setTarget_35 rfl (lv_at hl 0 rfl) ?_
      refine lv_icmp_ne (tgt := 42) hx hb dX6_setTarget_36 (by decide) (fun c_9 => ?_) (fun c_9 => ?_)
      · refine lv_aload_n hx hb dX6_setTarget_42 rfl (lv_at hl 1 rfl) ?_
        refine zg5 E hs (k := 0) rfl 1 (by decide) rfl q_131 dX6_setTarget_43 ?_
        refine lv_aload_n hx hb dX6_setTarget_46 rfl (lv_at hl 1 rfl) ?_
        refine zg5 E hs (k := 0) rfl 0 (by decide) rfl q_130 dX6_setTarget_47 ?_
        refine zVV E hs lkX6_71 [] (c_X1_record l x ar fd o z hof hz ho hz4) (by decide) (sh0 rfl) rfl ⟨Nat.le_of_ble_eq_true rfl, Nat.le_of_ble_eq_true rfl⟩ rfl hl.1 (Nat.le_of_ble_eq_true rfl) rfl dX6_setTarget_50 (fun arr_10 fdr_10 H locs hp_11 hs => ?_)
        rw [show arr_10 = (sp_record ar fd o z).1 from congrArg Prod.fst hp_11, show fdr_10 = (sp_record ar fd o z).2 from congrArg Prod.snd hp_11] at hs
        refine lv_aload_n hx hb dX6_setTarget_53 rfl (lv_at hl 1 rfl) ?_
        refine zg5 E hs (k := 0) rfl 0 (by decide) rfl q_130 dX6_setTarget_54 ?_
        refine zg3 E hs (k := 1) rfl 6 (by decide) rfl q_49 dX6_setTarget_57 ?_
        refine lv_iload_n hx hb dX6_setTarget_60 rfl (lv_at hl 2 rfl) ?_
        refine lv_iload_n hx hb dX6_setTarget_61 rfl (lv_at hl 3 rfl) ?_
        refine zVV E hs lkX6_75 [] (c_X3_put l x 14 2 ro_14 ((sp_record ar fd o z).1) ((sp_record ar fd o z).2) (nI a.toNatClampNeg) v) (by decide) (sh2 rfl) rfl ⟨Nat.le_of_ble_eq_true rfl, Nat.le_of_ble_eq_true rfl⟩ rfl hl.1 (Nat.le_of_ble_eq_true rfl) rfl dX6_setTarget_62 (fun arr_12 fdr_12 H locs hp_13 hs => ?_)
        rw [hp_13.1, hp_13.2] at hs
        rw [rowPut_n (j := a.toNatClampNeg) (by omega) (by decide)] at hs
        refine lv_iload_n hx hb dX6_setTarget_65 rfl (lv_at hl 0 rfl) ?_
        exact zeI E hs (by show (_, _, _) = sp_setTarget ar fd w f o z n a v; unfold sp_setTarget; rw [iz_t c_3, iz_t c_6, iz_f c_9]) dX6_setTarget_66
      · refine lv_bipush (v := (-5)) hx hb dX6_setTarget_39 (by decide) ?_
        exact zeI E hs (by show (_, _, _) = sp_setTarget ar fd w f o z n a v; unfold sp_setTarget; rw [iz_t c_3, iz_t c_6, iz_t c_9]) dX6_setTarget_41
    · have c_6 : ¬ (¬ v < nI 0 ∧ ¬ nI 9 < v) := bz_0 c_6
      refine lv_bipush (v := (-2)) hx hb dX6_setTarget_19 (by decide) ?_
      exact zeI E hs (by show (_, _, _) = sp_setTarget ar fd w f o z n a v; unfold sp_setTarget; rw [iz_t c_3, iz_f c_6]) dX6_setTarget_21
  · have c_3 : ¬ (¬ a < nI 0 ∧ ¬ nI 1 < a) := bz_0 c_3
    refine lv_iconst (v := (-1)) hx hb dX6_setTarget_7 (by decide) ?_
    exact zeI E hs (by show (_, _, _) = sp_setTarget ar fd w f o z n a v; unfold sp_setTarget; rw [iz_f c_3]) dX6_setTarget_8

noncomputable def sp_draft (ar fd : AR) (w f o z n : Nat) (a v : Int32) : Int32 × AR × AR := iz (¬ a < nI 0 ∧ ¬ nI 35 < a) (iz (fd 1 10 = 0) (iz (ar 9 a.toNatClampNeg = -1) (iz (v = (-1)) (iz (v = ar 7 a.toNatClampNeg) (((-5), ar, fd)) ((ar 7 a.toNatClampNeg, zu ((sp_record ar fd o z).1) 7 (zu (((sp_record ar fd o z).1) 7) a.toNatClampNeg v), (sp_record ar fd o z).2))) (iz (¬ v < 0 ∧ ¬ fd 1 7 - fd 1 8 ≤ v) (iz (v = ar 7 a.toNatClampNeg) (((-5), ar, fd)) ((ar 7 a.toNatClampNeg, zu ((sp_record ar fd o z).1) 7 (zu (((sp_record ar fd o z).1) 7) a.toNatClampNeg v), (sp_record ar fd o z).2))) (((-2), ar, fd)))) (((-4), ar, fd))) (((-4), ar, fd))) (((-1), ar, fd))
set_option maxHeartbeats 4000000 in
set_option maxRecDepth 100000 in
/-- draft -/
theorem c_X6_draft (l : Launch) (x : CT) (ar fd : AR) (w f o z n : Nat) (hc : CInv ar fd w f o z n) (a v : Int32) : CI l yX6_draft cX6_draft 4 (some .int) 4 86 x [.ref (xa x 0), .int a, .int v] ar fd (fun r ar' fd' => (r, ar', fd') = sp_draft ar fd w f o z n a v) := by
  refine zsI (own := RX6) rfl (by decide +kernel) (Nat.le_of_ble_eq_true rfl) ?_
  intro p e s m below meth c ls E hs hl
  have hx := E.1
  have hb := E.2.1
  have hl : lv_has ls 4 [(0, .ref (xa x 0)), (1, .int a), (2, .int v)] := hl
  obtain ⟨hw, hf, hfw, hw9, hw2, hof, hz, ho, hz4, hn, hn60, hC⟩ := id hc
  refine lv_iload_n hx hb dX6_draft_0 rfl (lv_at hl 1 rfl) ?_
  refine zSP E hs lkX6_53 [] (c_X6_isCell l x ar fd a) ⟨Nat.le_of_ble_eq_true rfl, Nat.le_of_ble_eq_true rfl⟩ rfl hl.1 (Nat.le_of_ble_eq_true rfl) rfl dX6_draft_1 (fun r_1 H locs hp_2 hs => ?_)
  subst hp_2
  refine lv_if_ne (tgt := 9) hx hb dX6_draft_4 (by decide) (fun c_3 => ?_) (fun c_3 => ?_)
  · have c_3 : ¬ a < nI 0 ∧ ¬ nI 35 < a := bz_1 c_3
    obtain ⟨hlt_a, heq_a⟩ := cell_of c_3 (by decide)
    rw [heq_a] at hl
    refine lv_aload_n hx hb dX6_draft_9 rfl (lv_at hl 0 rfl) ?_
    refine zg5 E hs (k := 0) rfl 0 (by decide) rfl q_130 dX6_draft_10 ?_
    refine zg3 E hs (k := 1) rfl 10 (by decide) rfl q_56 dX6_draft_13 ?_
    refine lv_if_ne (tgt := 30) hx hb dX6_draft_16 (by decide) (fun c_4 => ?_) (fun c_4 => ?_)
    · refine lv_bipush (v := (-4)) hx hb dX6_draft_30 (by decide) ?_
      exact zeI E hs (by show (_, _, _) = sp_draft ar fd w f o z n a v; unfold sp_draft; rw [iz_t c_3, iz_f c_4]) dX6_draft_32
    · refine lv_aload_n hx hb dX6_draft_19 rfl (lv_at hl 0 rfl) ?_
      refine zg5 E hs (k := 0) rfl 0 (by decide) rfl q_130 dX6_draft_20 ?_
      refine lv_iload_n hx hb dX6_draft_23 rfl (lv_at hl 1 rfl) ?_
      refine zVP E hs lkX6_99 [] (c_X4_isOpen l x ar fd a.toNatClampNeg (by omega)) (by decide) (sh3 rfl) rfl ⟨Nat.le_of_ble_eq_true rfl, Nat.le_of_ble_eq_true rfl⟩ rfl hl.1 (Nat.le_of_ble_eq_true rfl) rfl dX6_draft_24 (fun r_5 H locs hp_6 hs => ?_)
      subst hp_6
      refine lv_if_ne (tgt := 33) hx hb dX6_draft_27 (by decide) (fun c_7 => ?_) (fun c_7 => ?_)
      · have c_7 : ar 9 a.toNatClampNeg = -1 := bz_1 c_7
        refine lv_iload_n hx hb dX6_draft_33 rfl (lv_at hl 2 rfl) ?_
        refine lv_iconst (v := (-1)) hx hb dX6_draft_34 (by decide) ?_
        refine lv_icmp_eq (tgt := 52) hx hb dX6_draft_35 (by decide) (fun c_8 => ?_) (fun c_8 => ?_)
        · refine lv_aload_n hx hb dX6_draft_52 rfl (lv_at hl 0 rfl) ?_
          refine zg5 E hs (k := 0) rfl 0 (by decide) rfl q_130 dX6_draft_53 ?_
          refine zg3 E hs (k := 1) rfl 2 (by decide) rfl q_40 dX6_draft_56 ?_
          refine lv_iload_n hx hb dX6_draft_59 rfl (lv_at hl 1 rfl) ?_
          refine zVP E hs lkX6_64 [] (c_X3_at l x 6 36 ro_6 ar fd (nI a.toNatClampNeg)) (by decide) (sh2 rfl) rfl ⟨Nat.le_of_ble_eq_true rfl, Nat.le_of_ble_eq_true rfl⟩ rfl hl.1 (Nat.le_of_ble_eq_true rfl) rfl dX6_draft_60 (fun r_9 H locs hp_10 hs => ?_)
          subst hp_10
          refine tp (b := ar 7 a.toNatClampNeg) (rowAt_n (by omega) (by decide)) ?_
          refine lv_istore_n (lv' := [(3, .int (ar 7 a.toNatClampNeg)), (0, .ref (xa x 0)), (1, .int (nI a.toNatClampNeg)), (2, .int v)]) hx hb dX6_draft_63 rfl hl (by decide) rfl (fun ls hl => ?_)
          refine lv_iload_n hx hb dX6_draft_64 rfl (lv_at hl 3 rfl) ?_
          refine lv_iload_n hx hb dX6_draft_65 rfl (lv_at hl 0 rfl) ?_
          refine lv_icmp_ne (tgt := 72) hx hb dX6_draft_66 (by decide) (fun c_11 => ?_) (fun c_11 => ?_)
          · refine lv_aload_n hx hb dX6_draft_72 rfl (lv_at hl 1 rfl) ?_
            refine zg5 E hs (k := 0) rfl 1 (by decide) rfl q_131 dX6_draft_73 ?_
            refine lv_aload_n hx hb dX6_draft_76 rfl (lv_at hl 1 rfl) ?_
            refine zg5 E hs (k := 0) rfl 0 (by decide) rfl q_130 dX6_draft_77 ?_
            refine zVV E hs lkX6_71 [] (c_X1_record l x ar fd o z hof hz ho hz4) (by decide) (sh0 rfl) rfl ⟨Nat.le_of_ble_eq_true rfl, Nat.le_of_ble_eq_true rfl⟩ rfl hl.1 (Nat.le_of_ble_eq_true rfl) rfl dX6_draft_80 (fun arr_12 fdr_12 H locs hp_13 hs => ?_)
            rw [show arr_12 = (sp_record ar fd o z).1 from congrArg Prod.fst hp_13, show fdr_12 = (sp_record ar fd o z).2 from congrArg Prod.snd hp_13] at hs
            refine lv_aload_n hx hb dX6_draft_83 rfl (lv_at hl 1 rfl) ?_
            refine zg5 E hs (k := 0) rfl 0 (by decide) rfl q_130 dX6_draft_84 ?_
            refine zg3 E hs (k := 1) rfl 2 (by decide) rfl q_40 dX6_draft_87 ?_
            refine lv_iload_n hx hb dX6_draft_90 rfl (lv_at hl 2 rfl) ?_
            refine lv_iload_n hx hb dX6_draft_91 rfl (lv_at hl 3 rfl) ?_
            refine zVV E hs lkX6_75 [] (c_X3_put l x 6 36 ro_6 ((sp_record ar fd o z).1) ((sp_record ar fd o z).2) (nI a.toNatClampNeg) v) (by decide) (sh2 rfl) rfl ⟨Nat.le_of_ble_eq_true rfl, Nat.le_of_ble_eq_true rfl⟩ rfl hl.1 (Nat.le_of_ble_eq_true rfl) rfl dX6_draft_92 (fun arr_14 fdr_14 H locs hp_15 hs => ?_)
            rw [hp_15.1, hp_15.2] at hs
            rw [rowPut_n (j := a.toNatClampNeg) (by omega) (by decide)] at hs
            refine lv_iload_n hx hb dX6_draft_95 rfl (lv_at hl 0 rfl) ?_
            exact zeI E hs (by show (_, _, _) = sp_draft ar fd w f o z n a v; unfold sp_draft; rw [iz_t c_3, iz_t c_4, iz_t c_7, iz_t c_8, iz_f c_11]) dX6_draft_96
          · refine lv_bipush (v := (-5)) hx hb dX6_draft_69 (by decide) ?_
            exact zeI E hs (by show (_, _, _) = sp_draft ar fd w f o z n a v; unfold sp_draft; rw [iz_t c_3, iz_t c_4, iz_t c_7, iz_t c_8, iz_t c_11]) dX6_draft_71
        · refine lv_aload_n hx hb dX6_draft_38 rfl (lv_at hl 0 rfl) ?_
          refine zg5 E hs (k := 0) rfl 0 (by decide) rfl q_130 dX6_draft_39 ?_
          refine lv_iload_n hx hb dX6_draft_42 rfl (lv_at hl 2 rfl) ?_
          refine zVP E hs lkX6_102 [] (c_X4_isPart l x ar fd v) (by decide) (sh3 rfl) rfl ⟨Nat.le_of_ble_eq_true rfl, Nat.le_of_ble_eq_true rfl⟩ rfl hl.1 (Nat.le_of_ble_eq_true rfl) rfl dX6_draft_43 (fun r_16 H locs hp_17 hs => ?_)
          subst hp_17
          refine lv_if_ne (tgt := 52) hx hb dX6_draft_46 (by decide) (fun c_18 => ?_) (fun c_18 => ?_)
          · have c_18 : ¬ v < 0 ∧ ¬ fd 1 7 - fd 1 8 ≤ v := bz_1 c_18
            refine lv_aload_n hx hb dX6_draft_52 rfl (lv_at hl 0 rfl) ?_
            refine zg5 E hs (k := 0) rfl 0 (by decide) rfl q_130 dX6_draft_53 ?_
            refine zg3 E hs (k := 1) rfl 2 (by decide) rfl q_40 dX6_draft_56 ?_
            refine lv_iload_n hx hb dX6_draft_59 rfl (lv_at hl 1 rfl) ?_
            refine zVP E hs lkX6_64 [] (c_X3_at l x 6 36 ro_6 ar fd (nI a.toNatClampNeg)) (by decide) (sh2 rfl) rfl ⟨Nat.le_of_ble_eq_true rfl, Nat.le_of_ble_eq_true rfl⟩ rfl hl.1 (Nat.le_of_ble_eq_true rfl) rfl dX6_draft_60 (fun r_19 H locs hp_20 hs => ?_)
            subst hp_20
            refine tp (b := ar 7 a.toNatClampNeg) (rowAt_n (by omega) (by decide)) ?_
            refine lv_istore_n (lv' := [(3, .int (ar 7 a.toNatClampNeg)), (0, .ref (xa x 0)), (1, .int (nI a.toNatClampNeg)), (2, .int v)]) hx hb dX6_draft_63 rfl hl (by decide) rfl (fun ls hl => ?_)
            refine lv_iload_n hx hb dX6_draft_64 rfl (lv_at hl 3 rfl) ?_
            refine lv_iload_n hx hb dX6_draft_65 rfl (lv_at hl 0 rfl) ?_
            refine lv_icmp_ne (tgt := 72) hx hb dX6_draft_66 (by decide) (fun c_21 => ?_) (fun c_21 => ?_)
            · refine lv_aload_n hx hb dX6_draft_72 rfl (lv_at hl 1 rfl) ?_
              refine zg5 E hs (k := 0) rfl 1 (by decide) rfl q_131 dX6_draft_73 ?_
              refine lv_aload_n hx hb dX6_draft_76 rfl (lv_at hl 1 rfl) ?_
              refine zg5 E hs (k := 0) rfl 0 (by decide) rfl q_130 dX6_draft_77 ?_
              refine zVV E hs lkX6_71 [] (c_X1_record l x ar fd o z hof hz ho hz4) (by decide) (sh0 rfl) rfl ⟨Nat.le_of_ble_eq_true rfl, Nat.le_of_ble_eq_true rfl⟩ rfl hl.1 (Nat.le_of_ble_eq_true rfl) rfl dX6_draft_80 (fun arr_22 fdr_22 H locs hp_23 hs => ?_)
              rw [show arr_22 = (sp_record ar fd o z).1 from congrArg Prod.fst hp_23, show fdr_22 = (sp_record ar fd o z).2 from congrArg Prod.snd hp_23] at hs
              refine lv_aload_n hx hb dX6_draft_83 rfl (lv_at hl 1 rfl) ?_
              refine zg5 E hs (k := 0) rfl 0 (by decide) rfl q_130 dX6_draft_84 ?_
              refine zg3 E hs (k := 1) rfl 2 (by decide) rfl q_40 dX6_draft_87 ?_
              refine lv_iload_n hx hb dX6_draft_90 rfl (lv_at hl 2 rfl) ?_
              refine lv_iload_n hx hb dX6_draft_91 rfl (lv_at hl 3 rfl) ?_
              refine zVV E hs lkX6_75 [] (c_X3_put l x 6 36 ro_6 ((sp_record ar fd o z).1) ((sp_record ar fd o z).2) (nI a.toNatClampNeg) v) (by decide) (sh2 rfl) rfl ⟨Nat.le_of_ble_eq_true rfl, Nat.le_of_ble_eq_true rfl⟩ rfl hl.1 (Nat.le_of_ble_eq_true rfl) rfl dX6_draft_92 (fun arr_24 fdr_24 H locs hp_25 hs => ?_)
              rw [hp_25.1, hp_25.2] at hs
              rw [rowPut_n (j := a.toNatClampNeg) (by omega) (by decide)] at hs
              refine lv_iload_n hx hb dX6_draft_95 rfl (lv_at hl 0 rfl) ?_
              exact zeI E hs (by show (_, _, _) = sp_draft ar fd w f o z n a v; unfold sp_draft; rw [iz_t c_3, iz_t c_4, iz_t c_7, iz_f c_8, iz_t c_18, iz_f c_21]) dX6_draft_96
            · refine lv_bipush (v := (-5)) hx hb dX6_draft_69 (by decide) ?_
              exact zeI E hs (by show (_, _, _) = sp_draft ar fd w f o z n a v; unfold sp_draft; rw [iz_t c_3, iz_t c_4, iz_t c_7, iz_f c_8, iz_t c_18, iz_t c_21]) dX6_draft_71
          · have c_18 : ¬ (¬ v < 0 ∧ ¬ fd 1 7 - fd 1 8 ≤ v) := bz_0 c_18
            refine lv_bipush (v := (-2)) hx hb dX6_draft_49 (by decide) ?_
            exact zeI E hs (by show (_, _, _) = sp_draft ar fd w f o z n a v; unfold sp_draft; rw [iz_t c_3, iz_t c_4, iz_t c_7, iz_f c_8, iz_f c_18]) dX6_draft_51
      · have c_7 : ¬ (ar 9 a.toNatClampNeg = -1) := bz_0 c_7
        refine lv_bipush (v := (-4)) hx hb dX6_draft_30 (by decide) ?_
        exact zeI E hs (by show (_, _, _) = sp_draft ar fd w f o z n a v; unfold sp_draft; rw [iz_t c_3, iz_t c_4, iz_f c_7]) dX6_draft_32
  · have c_3 : ¬ (¬ a < nI 0 ∧ ¬ nI 35 < a) := bz_0 c_3
    refine lv_iconst (v := (-1)) hx hb dX6_draft_7 (by decide) ?_
    exact zeI E hs (by show (_, _, _) = sp_draft ar fd w f o z n a v; unfold sp_draft; rw [iz_f c_3]) dX6_draft_8

noncomputable def sp_trade (ar fd : AR) (w f o z n : Nat) (a b : Int32) : Int32 × AR × AR := iz (¬ a < nI 0 ∧ ¬ nI 35 < a) (iz (¬ b < nI 0 ∧ ¬ nI 35 < b) (iz (fd 1 10 = 0) (iz (ar 7 a.toNatClampNeg = (-1)) (((-4), ar, fd)) (iz (ar 7 b.toNatClampNeg = (-1)) (((-4), ar, fd)) (iz (ar 7 a.toNatClampNeg = ar 7 b.toNatClampNeg) (((-5), ar, fd)) ((bz (rsnA (zu (zu ((sp_record ar fd o z).1) 7 (zu (((sp_record ar fd o z).1) 7) a.toNatClampNeg (ar 7 b.toNatClampNeg))) 7 (zu ((zu ((sp_record ar fd o z).1) 7 (zu (((sp_record ar fd o z).1) 7) a.toNatClampNeg (ar 7 b.toNatClampNeg))) 7) b.toNatClampNeg (ar 7 a.toNatClampNeg))) w f = nI 0), zu (zu ((sp_record ar fd o z).1) 7 (zu (((sp_record ar fd o z).1) 7) a.toNatClampNeg (ar 7 b.toNatClampNeg))) 7 (zu ((zu ((sp_record ar fd o z).1) 7 (zu (((sp_record ar fd o z).1) 7) a.toNatClampNeg (ar 7 b.toNatClampNeg))) 7) b.toNatClampNeg (ar 7 a.toNatClampNeg)), (sp_record ar fd o z).2))))) (((-4), ar, fd))) (((-1), ar, fd))) (((-1), ar, fd))
set_option maxHeartbeats 4000000 in
set_option maxRecDepth 100000 in
/-- trade -/
theorem c_X6_trade (l : Launch) (x : CT) (ar fd : AR) (w f o z n : Nat) (hc : CInv ar fd w f o z n) (a b : Int32) : CI l yX6_trade cX6_trade 5 (some .int) 6 137 x [.ref (xa x 0), .int a, .int b] ar fd (fun r ar' fd' => r = (sp_trade ar fd w f o z n a b).1 ∧ JQ (sp_trade ar fd w f o z n a b).2.1 ar' ∧ fd' = (sp_trade ar fd w f o z n a b).2.2) := by
  refine zsI (own := RX6) rfl (by decide +kernel) (Nat.le_of_ble_eq_true rfl) ?_
  intro p e s m below meth c ls E hs hl
  have hx := E.1
  have hb := E.2.1
  have hl : lv_has ls 5 [(0, .ref (xa x 0)), (1, .int a), (2, .int b)] := hl
  obtain ⟨hw, hf, hfw, hw9, hw2, hof, hz, ho, hz4, hn, hn60, hC⟩ := id hc
  refine lv_iload_n hx hb dX6_trade_0 rfl (lv_at hl 1 rfl) ?_
  refine zSP E hs lkX6_53 [] (c_X6_isCell l x ar fd a) ⟨Nat.le_of_ble_eq_true rfl, Nat.le_of_ble_eq_true rfl⟩ rfl hl.1 (Nat.le_of_ble_eq_true rfl) rfl dX6_trade_1 (fun r_1 H locs hp_2 hs => ?_)
  subst hp_2
  refine lv_if_eq (tgt := 14) hx hb dX6_trade_4 (by decide) (fun c_3 => ?_) (fun c_3 => ?_)
  · have c_3 : ¬ (¬ a < nI 0 ∧ ¬ nI 35 < a) := bz_0 c_3
    refine lv_iconst (v := (-1)) hx hb dX6_trade_14 (by decide) ?_
    exact zeI E hs ⟨(by unfold sp_trade; rw [iz_f c_3]), (by unfold sp_trade; rw [iz_f c_3]; exact JQ.rf _), (by unfold sp_trade; rw [iz_f c_3])⟩ dX6_trade_15
  · have c_3 : ¬ a < nI 0 ∧ ¬ nI 35 < a := bz_1 c_3
    refine lv_iload_n hx hb dX6_trade_7 rfl (lv_at hl 2 rfl) ?_
    refine zSP E hs lkX6_53 [] (c_X6_isCell l x ar fd b) ⟨Nat.le_of_ble_eq_true rfl, Nat.le_of_ble_eq_true rfl⟩ rfl hl.1 (Nat.le_of_ble_eq_true rfl) rfl dX6_trade_8 (fun r_4 H locs hp_5 hs => ?_)
    subst hp_5
    refine lv_if_ne (tgt := 16) hx hb dX6_trade_11 (by decide) (fun c_6 => ?_) (fun c_6 => ?_)
    · have c_6 : ¬ b < nI 0 ∧ ¬ nI 35 < b := bz_1 c_6
      obtain ⟨hlt_a, heq_a⟩ := cell_of c_3 (by decide)
      rw [heq_a] at hl
      obtain ⟨hlt_b, heq_b⟩ := cell_of c_6 (by decide)
      rw [heq_b] at hl
      refine lv_aload_n hx hb dX6_trade_16 rfl (lv_at hl 0 rfl) ?_
      refine zg5 E hs (k := 0) rfl 0 (by decide) rfl q_130 dX6_trade_17 ?_
      refine zg3 E hs (k := 1) rfl 2 (by decide) rfl q_40 dX6_trade_20 ?_
      refine lv_iload_n hx hb dX6_trade_23 rfl (lv_at hl 1 rfl) ?_
      refine zVP E hs lkX6_64 [] (c_X3_at l x 6 36 ro_6 ar fd (nI a.toNatClampNeg)) (by decide) (sh2 rfl) rfl ⟨Nat.le_of_ble_eq_true rfl, Nat.le_of_ble_eq_true rfl⟩ rfl hl.1 (Nat.le_of_ble_eq_true rfl) rfl dX6_trade_24 (fun r_7 H locs hp_8 hs => ?_)
      subst hp_8
      refine tp (b := ar 7 a.toNatClampNeg) (rowAt_n (by omega) (by decide)) ?_
      refine lv_istore_n (lv' := [(3, .int (ar 7 a.toNatClampNeg)), (0, .ref (xa x 0)), (1, .int (nI a.toNatClampNeg)), (2, .int (nI b.toNatClampNeg))]) hx hb dX6_trade_27 rfl hl (by decide) rfl (fun ls hl => ?_)
      refine lv_aload_n hx hb dX6_trade_28 rfl (lv_at hl 1 rfl) ?_
      refine zg5 E hs (k := 0) rfl 0 (by decide) rfl q_130 dX6_trade_29 ?_
      refine zg3 E hs (k := 1) rfl 2 (by decide) rfl q_40 dX6_trade_32 ?_
      refine lv_iload_n hx hb dX6_trade_35 rfl (lv_at hl 3 rfl) ?_
      refine zVP E hs lkX6_64 [] (c_X3_at l x 6 36 ro_6 ar fd (nI b.toNatClampNeg)) (by decide) (sh2 rfl) rfl ⟨Nat.le_of_ble_eq_true rfl, Nat.le_of_ble_eq_true rfl⟩ rfl hl.1 (Nat.le_of_ble_eq_true rfl) rfl dX6_trade_36 (fun r_9 H locs hp_10 hs => ?_)
      subst hp_10
      refine tp (b := ar 7 b.toNatClampNeg) (rowAt_n (by omega) (by decide)) ?_
      refine lv_istore (lv' := [(4, .int (ar 7 b.toNatClampNeg)), (3, .int (ar 7 a.toNatClampNeg)), (0, .ref (xa x 0)), (1, .int (nI a.toNatClampNeg)), (2, .int (nI b.toNatClampNeg))]) hx hb dX6_trade_39 hl (by decide) rfl (fun ls hl => ?_)
      refine lv_aload_n hx hb dX6_trade_41 rfl (lv_at hl 2 rfl) ?_
      refine zg5 E hs (k := 0) rfl 0 (by decide) rfl q_130 dX6_trade_42 ?_
      refine zg3 E hs (k := 1) rfl 10 (by decide) rfl q_56 dX6_trade_45 ?_
      refine lv_if_ne (tgt := 62) hx hb dX6_trade_48 (by decide) (fun c_11 => ?_) (fun c_11 => ?_)
      · refine lv_bipush (v := (-4)) hx hb dX6_trade_62 (by decide) ?_
        exact zeI E hs ⟨(by unfold sp_trade; rw [iz_t c_3, iz_t c_6, iz_f c_11]), (by unfold sp_trade; rw [iz_t c_3, iz_t c_6, iz_f c_11]; exact JQ.rf _), (by unfold sp_trade; rw [iz_t c_3, iz_t c_6, iz_f c_11])⟩ dX6_trade_64
      · refine lv_iload_n hx hb dX6_trade_51 rfl (lv_at hl 1 rfl) ?_
        refine lv_iconst (v := (-1)) hx hb dX6_trade_52 (by decide) ?_
        refine lv_icmp_eq (tgt := 62) hx hb dX6_trade_53 (by decide) (fun c_12 => ?_) (fun c_12 => ?_)
        · refine lv_bipush (v := (-4)) hx hb dX6_trade_62 (by decide) ?_
          exact zeI E hs ⟨(by unfold sp_trade; rw [iz_t c_3, iz_t c_6, iz_t c_11, iz_t c_12]), (by unfold sp_trade; rw [iz_t c_3, iz_t c_6, iz_t c_11, iz_t c_12]; exact JQ.rf _), (by unfold sp_trade; rw [iz_t c_3, iz_t c_6, iz_t c_11, iz_t c_12])⟩ dX6_trade_64
        · refine lv_iload hx hb dX6_trade_56 (lv_at hl 0 rfl) ?_
          refine lv_iconst (v := (-1)) hx hb dX6_trade_58 (by decide) ?_
          refine lv_icmp_ne (tgt := 65) hx hb dX6_trade_59 (by decide) (fun c_13 => ?_) (fun c_13 => ?_)
          · refine lv_iload_n hx hb dX6_trade_65 rfl (lv_at hl 1 rfl) ?_
            refine lv_iload hx hb dX6_trade_66 (lv_at hl 0 rfl) ?_
            refine lv_icmp_ne (tgt := 74) hx hb dX6_trade_68 (by decide) (fun c_14 => ?_) (fun c_14 => ?_)
            · refine lv_aload_n hx hb dX6_trade_74 rfl (lv_at hl 2 rfl) ?_
              refine zg5 E hs (k := 0) rfl 1 (by decide) rfl q_131 dX6_trade_75 ?_
              refine lv_aload_n hx hb dX6_trade_78 rfl (lv_at hl 2 rfl) ?_
              refine zg5 E hs (k := 0) rfl 0 (by decide) rfl q_130 dX6_trade_79 ?_
              refine zVV E hs lkX6_71 [] (c_X1_record l x ar fd o z hof hz ho hz4) (by decide) (sh0 rfl) rfl ⟨Nat.le_of_ble_eq_true rfl, Nat.le_of_ble_eq_true rfl⟩ rfl hl.1 (Nat.le_of_ble_eq_true rfl) rfl dX6_trade_82 (fun arr_15 fdr_15 H locs hp_16 hs => ?_)
              rw [show arr_15 = (sp_record ar fd o z).1 from congrArg Prod.fst hp_16, show fdr_15 = (sp_record ar fd o z).2 from congrArg Prod.snd hp_16] at hs
              refine lv_aload_n hx hb dX6_trade_85 rfl (lv_at hl 2 rfl) ?_
              refine zg5 E hs (k := 0) rfl 0 (by decide) rfl q_130 dX6_trade_86 ?_
              refine zg3 E hs (k := 1) rfl 2 (by decide) rfl q_40 dX6_trade_89 ?_
              refine lv_iload_n hx hb dX6_trade_92 rfl (lv_at hl 3 rfl) ?_
              refine lv_iload hx hb dX6_trade_93 (lv_at hl 0 rfl) ?_
              refine zVV E hs lkX6_75 [] (c_X3_put l x 6 36 ro_6 ((sp_record ar fd o z).1) ((sp_record ar fd o z).2) (nI a.toNatClampNeg) (ar 7 b.toNatClampNeg)) (by decide) (sh2 rfl) rfl ⟨Nat.le_of_ble_eq_true rfl, Nat.le_of_ble_eq_true rfl⟩ rfl hl.1 (Nat.le_of_ble_eq_true rfl) rfl dX6_trade_95 (fun arr_17 fdr_17 H locs hp_18 hs => ?_)
              rw [hp_18.1, hp_18.2] at hs
              rw [rowPut_n (j := a.toNatClampNeg) (by omega) (by decide)] at hs
              refine lv_aload_n hx hb dX6_trade_98 rfl (lv_at hl 2 rfl) ?_
              refine zg5 E hs (k := 0) rfl 0 (by decide) rfl q_130 dX6_trade_99 ?_
              refine zg3 E hs (k := 1) rfl 2 (by decide) rfl q_40 dX6_trade_102 ?_
              refine lv_iload_n hx hb dX6_trade_105 rfl (lv_at hl 4 rfl) ?_
              refine lv_iload_n hx hb dX6_trade_106 rfl (lv_at hl 1 rfl) ?_
              refine zVV E hs lkX6_75 [] (c_X3_put l x 6 36 ro_6 (zu ((sp_record ar fd o z).1) 7 (zu (((sp_record ar fd o z).1) 7) a.toNatClampNeg (ar 7 b.toNatClampNeg))) ((sp_record ar fd o z).2) (nI b.toNatClampNeg) (ar 7 a.toNatClampNeg)) (by decide) (sh2 rfl) rfl ⟨Nat.le_of_ble_eq_true rfl, Nat.le_of_ble_eq_true rfl⟩ rfl hl.1 (Nat.le_of_ble_eq_true rfl) rfl dX6_trade_107 (fun arr_19 fdr_19 H locs hp_20 hs => ?_)
              rw [hp_20.1, hp_20.2] at hs
              rw [rowPut_n (j := b.toNatClampNeg) (by omega) (by decide)] at hs
              refine lv_aload_n hx hb dX6_trade_110 rfl (lv_at hl 2 rfl) ?_
              refine zVI E hs lkX6_108 [] (c_X6_oneIfCut l x (zu (zu ((sp_record ar fd o z).1) 7 (zu (((sp_record ar fd o z).1) 7) a.toNatClampNeg (ar 7 b.toNatClampNeg))) 7 (zu ((zu ((sp_record ar fd o z).1) 7 (zu (((sp_record ar fd o z).1) 7) a.toNatClampNeg (ar 7 b.toNatClampNeg))) 7) b.toNatClampNeg (ar 7 a.toNatClampNeg))) ((sp_record ar fd o z).2) w f (by rw [rec_fd (by decide)]; exact hw) (by rw [rec_fd (by decide)]; exact hf) hfw hw9 hw2) (by decide) (sh5 rfl) rfl ⟨Nat.le_of_ble_eq_true rfl, Nat.le_of_ble_eq_true rfl⟩ rfl hl.1 (Nat.le_of_ble_eq_true rfl) rfl dX6_trade_111 (fun r_21 arr_21 fdr_21 H locs hp_22 hs => ?_)
              rw [hp_22.2.2] at hs
              have hJ_r_21 := hp_22.2.1
              refine tp (b := bz (rsnA (zu (zu ((sp_record ar fd o z).1) 7 (zu (((sp_record ar fd o z).1) 7) a.toNatClampNeg (ar 7 b.toNatClampNeg))) 7 (zu ((zu ((sp_record ar fd o z).1) 7 (zu (((sp_record ar fd o z).1) 7) a.toNatClampNeg (ar 7 b.toNatClampNeg))) 7) b.toNatClampNeg (ar 7 a.toNatClampNeg))) w f = nI 0)) hp_22.1 ?_
              exact zeI E hs ⟨(by unfold sp_trade; rw [iz_t c_3, iz_t c_6, iz_t c_11, iz_f c_12, iz_f c_13, iz_f c_14]), (by unfold sp_trade; rw [iz_t c_3, iz_t c_6, iz_t c_11, iz_f c_12, iz_f c_13, iz_f c_14]; exact hJ_r_21), (by unfold sp_trade; rw [iz_t c_3, iz_t c_6, iz_t c_11, iz_f c_12, iz_f c_13, iz_f c_14])⟩ dX6_trade_114
            · refine lv_bipush (v := (-5)) hx hb dX6_trade_71 (by decide) ?_
              exact zeI E hs ⟨(by unfold sp_trade; rw [iz_t c_3, iz_t c_6, iz_t c_11, iz_f c_12, iz_f c_13, iz_t c_14]), (by unfold sp_trade; rw [iz_t c_3, iz_t c_6, iz_t c_11, iz_f c_12, iz_f c_13, iz_t c_14]; exact JQ.rf _), (by unfold sp_trade; rw [iz_t c_3, iz_t c_6, iz_t c_11, iz_f c_12, iz_f c_13, iz_t c_14])⟩ dX6_trade_73
          · refine lv_bipush (v := (-4)) hx hb dX6_trade_62 (by decide) ?_
            exact zeI E hs ⟨(by unfold sp_trade; rw [iz_t c_3, iz_t c_6, iz_t c_11, iz_f c_12, iz_t c_13]), (by unfold sp_trade; rw [iz_t c_3, iz_t c_6, iz_t c_11, iz_f c_12, iz_t c_13]; exact JQ.rf _), (by unfold sp_trade; rw [iz_t c_3, iz_t c_6, iz_t c_11, iz_f c_12, iz_t c_13])⟩ dX6_trade_64
    · have c_6 : ¬ (¬ b < nI 0 ∧ ¬ nI 35 < b) := bz_0 c_6
      refine lv_iconst (v := (-1)) hx hb dX6_trade_14 (by decide) ?_
      exact zeI E hs ⟨(by unfold sp_trade; rw [iz_t c_3, iz_f c_6]), (by unfold sp_trade; rw [iz_t c_3, iz_f c_6]; exact JQ.rf _), (by unfold sp_trade; rw [iz_t c_3, iz_f c_6])⟩ dX6_trade_15

noncomputable def sp_snake (ar fd : AR) (w f o z n : Nat) (b : Int32) : Int32 × AR × AR := iz (fd 1 10 = 0) (iz (∀ i, i < 36 → (zu ar 101 (plF (ar 9) (¬ b = 0) (36 / w))) 101 i = (zu ar 101 (plF (ar 9) (¬ b = 0) (36 / w))) 7 i) (((-5), zu ar 101 (plF (ar 9) (¬ b = 0) (36 / w)), fd)) ((bz (rsnA (zu ((sp_record (zu ar 101 (plF (ar 9) (¬ b = 0) (36 / w))) fd o z).1) 7 (((sp_record (zu ar 101 (plF (ar 9) (¬ b = 0) (36 / w))) fd o z).1) 101)) w f = nI 0), zu ((sp_record (zu ar 101 (plF (ar 9) (¬ b = 0) (36 / w))) fd o z).1) 7 (((sp_record (zu ar 101 (plF (ar 9) (¬ b = 0) (36 / w))) fd o z).1) 101), (sp_record (zu ar 101 (plF (ar 9) (¬ b = 0) (36 / w))) fd o z).2))) (((-4), ar, fd))
set_option maxHeartbeats 4000000 in
set_option maxRecDepth 100000 in
/-- snake -/
theorem c_X6_snake (l : Launch) (x : CT) (ar fd : AR) (w f o z n : Nat) (hc : CInv ar fd w f o z n) (b : Int32) : CI l yX6_snake cX6_snake 2 (some .int) 6 137 x [.ref (xa x 0), .int b] ar fd (fun r ar' fd' => r = (sp_snake ar fd w f o z n b).1 ∧ JQ (sp_snake ar fd w f o z n b).2.1 ar' ∧ fd' = (sp_snake ar fd w f o z n b).2.2) := by
  refine zsI (own := RX6) rfl (by decide +kernel) (Nat.le_of_ble_eq_true rfl) ?_
  intro p e s m below meth c ls E hs hl
  have hx := E.1
  have hb := E.2.1
  have hl : lv_has ls 2 [(0, .ref (xa x 0)), (1, .int b)] := hl
  obtain ⟨hw, hf, hfw, hw9, hw2, hof, hz, ho, hz4, hn, hn60, hC⟩ := id hc
  refine lv_aload_n hx hb dX6_snake_0 rfl (lv_at hl 0 rfl) ?_
  refine zg5 E hs (k := 0) rfl 0 (by decide) rfl q_130 dX6_snake_1 ?_
  refine zg3 E hs (k := 1) rfl 10 (by decide) rfl q_56 dX6_snake_4 ?_
  refine lv_if_eq (tgt := 13) hx hb dX6_snake_7 (by decide) (fun c_1 => ?_) (fun c_1 => ?_)
  · refine lv_aload_n hx hb dX6_snake_13 rfl (lv_at hl 0 rfl) ?_
    refine lv_iload_n hx hb dX6_snake_14 rfl (lv_at hl 1 rfl) ?_
    refine zVV E hs lkX6_111 [] (c_X6_planSnake l x ar fd w hw hw9 hw2 b) (by decide) (sh5 rfl) rfl ⟨Nat.le_of_ble_eq_true rfl, Nat.le_of_ble_eq_true rfl⟩ rfl hl.1 (Nat.le_of_ble_eq_true rfl) rfl dX6_snake_15 (fun arr_2 fdr_2 H locs hp_3 hs => ?_)
    rw [hp_3.1, hp_3.2] at hs
    refine lv_aload_n hx hb dX6_snake_18 rfl (lv_at hl 0 rfl) ?_
    refine zg5 E hs (k := 0) rfl 6 (by decide) rfl q_136 dX6_snake_19 ?_
    refine lv_aload_n hx hb dX6_snake_22 rfl (lv_at hl 0 rfl) ?_
    refine zg5 E hs (k := 0) rfl 0 (by decide) rfl q_130 dX6_snake_23 ?_
    refine zg3 E hs (k := 1) rfl 2 (by decide) rfl q_40 dX6_snake_26 ?_
    refine zVP E hs lkX6_115 [] (c_X3_isLike l x 100 6 36 ro_100 ro_6 (zu ar 101 (plF (ar 9) (¬ b = 0) (36 / w))) fd) (by decide) (sh2 rfl) rfl ⟨Nat.le_of_ble_eq_true rfl, Nat.le_of_ble_eq_true rfl⟩ rfl hl.1 (Nat.le_of_ble_eq_true rfl) rfl dX6_snake_29 (fun r_4 H locs hp_5 hs => ?_)
    subst hp_5
    refine lv_if_eq (tgt := 38) hx hb dX6_snake_32 (by decide) (fun c_6 => ?_) (fun c_6 => ?_)
    · have c_6 : ¬ (∀ i, i < 36 → (zu ar 101 (plF (ar 9) (¬ b = 0) (36 / w))) 101 i = (zu ar 101 (plF (ar 9) (¬ b = 0) (36 / w))) 7 i) := bz_0 c_6
      refine lv_aload_n hx hb dX6_snake_38 rfl (lv_at hl 0 rfl) ?_
      refine zg5 E hs (k := 0) rfl 1 (by decide) rfl q_131 dX6_snake_39 ?_
      refine lv_aload_n hx hb dX6_snake_42 rfl (lv_at hl 0 rfl) ?_
      refine zg5 E hs (k := 0) rfl 0 (by decide) rfl q_130 dX6_snake_43 ?_
      refine zVV E hs lkX6_71 [] (c_X1_record l x (zu ar 101 (plF (ar 9) (¬ b = 0) (36 / w))) fd o z hof hz ho hz4) (by decide) (sh0 rfl) rfl ⟨Nat.le_of_ble_eq_true rfl, Nat.le_of_ble_eq_true rfl⟩ rfl hl.1 (Nat.le_of_ble_eq_true rfl) rfl dX6_snake_46 (fun arr_7 fdr_7 H locs hp_8 hs => ?_)
      rw [show arr_7 = (sp_record (zu ar 101 (plF (ar 9) (¬ b = 0) (36 / w))) fd o z).1 from congrArg Prod.fst hp_8, show fdr_7 = (sp_record (zu ar 101 (plF (ar 9) (¬ b = 0) (36 / w))) fd o z).2 from congrArg Prod.snd hp_8] at hs
      refine lv_aload_n hx hb dX6_snake_49 rfl (lv_at hl 0 rfl) ?_
      refine zg5 E hs (k := 0) rfl 0 (by decide) rfl q_130 dX6_snake_50 ?_
      refine zg3 E hs (k := 1) rfl 2 (by decide) rfl q_40 dX6_snake_53 ?_
      refine lv_aload_n hx hb dX6_snake_56 rfl (lv_at hl 0 rfl) ?_
      refine zg5 E hs (k := 0) rfl 6 (by decide) rfl q_136 dX6_snake_57 ?_
      refine zVV E hs lkX6_119 [] (c_X3_copy l x 6 100 36 ro_6 ro_100 (by decide) ((sp_record (zu ar 101 (plF (ar 9) (¬ b = 0) (36 / w))) fd o z).1) ((sp_record (zu ar 101 (plF (ar 9) (¬ b = 0) (36 / w))) fd o z).2)) (by decide) (sh2 rfl) rfl ⟨Nat.le_of_ble_eq_true rfl, Nat.le_of_ble_eq_true rfl⟩ rfl hl.1 (Nat.le_of_ble_eq_true rfl) rfl dX6_snake_60 (fun arr_9 fdr_9 H locs hp_10 hs => ?_)
      rw [hp_10.1, hp_10.2] at hs
      refine lv_aload_n hx hb dX6_snake_63 rfl (lv_at hl 0 rfl) ?_
      refine zVI E hs lkX6_108 [] (c_X6_oneIfCut l x (zu ((sp_record (zu ar 101 (plF (ar 9) (¬ b = 0) (36 / w))) fd o z).1) 7 (((sp_record (zu ar 101 (plF (ar 9) (¬ b = 0) (36 / w))) fd o z).1) 101)) ((sp_record (zu ar 101 (plF (ar 9) (¬ b = 0) (36 / w))) fd o z).2) w f (by rw [rec_fd (by decide)]; exact hw) (by rw [rec_fd (by decide)]; exact hf) hfw hw9 hw2) (by decide) (sh5 rfl) rfl ⟨Nat.le_of_ble_eq_true rfl, Nat.le_of_ble_eq_true rfl⟩ rfl hl.1 (Nat.le_of_ble_eq_true rfl) rfl dX6_snake_64 (fun r_11 arr_11 fdr_11 H locs hp_12 hs => ?_)
      rw [hp_12.2.2] at hs
      have hJ_r_11 := hp_12.2.1
      refine tp (b := bz (rsnA (zu ((sp_record (zu ar 101 (plF (ar 9) (¬ b = 0) (36 / w))) fd o z).1) 7 (((sp_record (zu ar 101 (plF (ar 9) (¬ b = 0) (36 / w))) fd o z).1) 101)) w f = nI 0)) hp_12.1 ?_
      exact zeI E hs ⟨(by unfold sp_snake; rw [iz_t c_1, iz_f c_6]), (by unfold sp_snake; rw [iz_t c_1, iz_f c_6]; exact hJ_r_11), (by unfold sp_snake; rw [iz_t c_1, iz_f c_6])⟩ dX6_snake_67
    · have c_6 : ∀ i, i < 36 → (zu ar 101 (plF (ar 9) (¬ b = 0) (36 / w))) 101 i = (zu ar 101 (plF (ar 9) (¬ b = 0) (36 / w))) 7 i := bz_1 c_6
      refine lv_bipush (v := (-5)) hx hb dX6_snake_35 (by decide) ?_
      exact zeI E hs ⟨(by unfold sp_snake; rw [iz_t c_1, iz_t c_6]), (by unfold sp_snake; rw [iz_t c_1, iz_t c_6]; exact JQ.rf _), (by unfold sp_snake; rw [iz_t c_1, iz_t c_6])⟩ dX6_snake_37
  · refine lv_bipush (v := (-4)) hx hb dX6_snake_10 (by decide) ?_
    exact zeI E hs ⟨(by unfold sp_snake; rw [iz_f c_1]), (by unfold sp_snake; rw [iz_f c_1]; exact JQ.rf _), (by unfold sp_snake; rw [iz_f c_1])⟩ dX6_snake_12
end
