-- ===== PART A: goes FIRST, ahead of the names: the tables' words, and 'selects' of the private methods out of them =====
/-- a private method of a class that the tables say can be made, by its rows of tables_1 -/
def lw_okq (q : MethodName × Nat) : Prop := (q.1.cls ≠ "java/lang/invoke/MethodHandle" ∧ q.1.cls ≠ "java/lang/invoke/VarHandle") ∧ Cond.instantiable q.1.cls q.2 ∈ tables_1 ∧ Cond.privateMethod q.1 ∈ tables_1 ∧ Cond.instanceMethod q.1 ∈ tables_1
theorem lw_p0 : lw_okq (⟨"FrozenDistricts$History", "slotAt", "(I)LFrozenDistricts$State;"⟩, 3) := ⟨⟨by decide +kernel, by decide +kernel⟩, List.mem_of_getElem? (i := 81) (by decide +kernel), List.mem_of_getElem? (i := 171) (by decide +kernel), List.mem_of_getElem? (i := 172) (by decide +kernel)⟩
theorem lw_p1 : lw_okq (⟨"FrozenDistricts", "oneIfCut", "()I"⟩, 7) := ⟨⟨by decide +kernel, by decide +kernel⟩, List.mem_of_getElem? (i := 11) (by decide +kernel), List.mem_of_getElem? (i := 238) (by decide +kernel), List.mem_of_getElem? (i := 239) (by decide +kernel)⟩
theorem lw_p2 : lw_okq (⟨"FrozenDistricts$Judge", "notConnected", "(LFrozenDistricts$State;)I"⟩, 2) := ⟨⟨by decide +kernel, by decide +kernel⟩, List.mem_of_getElem? (i := 114) (by decide +kernel), List.mem_of_getElem? (i := 260) (by decide +kernel), List.mem_of_getElem? (i := 261) (by decide +kernel)⟩
theorem lw_p3 : lw_okq (⟨"FrozenDistricts$Judge", "reachFrom", "(ILFrozenDistricts$Row;I)V"⟩, 2) := ⟨⟨by decide +kernel, by decide +kernel⟩, List.mem_of_getElem? (i := 114) (by decide +kernel), List.mem_of_getElem? (i := 269) (by decide +kernel), List.mem_of_getElem? (i := 270) (by decide +kernel)⟩
theorem lw_p4 : lw_okq (⟨"FrozenDistricts", "planSnake", "(Z)V"⟩, 7) := ⟨⟨by decide +kernel, by decide +kernel⟩, List.mem_of_getElem? (i := 11) (by decide +kernel), List.mem_of_getElem? (i := 281) (by decide +kernel), List.mem_of_getElem? (i := 282) (by decide +kernel)⟩
theorem lw_p5 : lw_okq (⟨"FrozenDistricts$State", "makeDistrict", "(LFrozenDistricts$Row;II)V"⟩, 11) := ⟨⟨by decide +kernel, by decide +kernel⟩, List.mem_of_getElem? (i := 19) (by decide +kernel), List.mem_of_getElem? (i := 311) (by decide +kernel), List.mem_of_getElem? (i := 312) (by decide +kernel)⟩
theorem lw_p6 : lw_okq (⟨"FrozenDistricts$State", "leaveRest", "(I)V"⟩, 11) := ⟨⟨by decide +kernel, by decide +kernel⟩, List.mem_of_getElem? (i := 19) (by decide +kernel), List.mem_of_getElem? (i := 316) (by decide +kernel), List.mem_of_getElem? (i := 317) (by decide +kernel)⟩
theorem lw_p7 : lw_okq (⟨"FrozenDistricts$VoteText", "isAllowed", "(I)Z"⟩, 2) := ⟨⟨by decide +kernel, by decide +kernel⟩, List.mem_of_getElem? (i := 100) (by decide +kernel), List.mem_of_getElem? (i := 348) (by decide +kernel), List.mem_of_getElem? (i := 349) (by decide +kernel)⟩
theorem lw_p8 : lw_okq (⟨"FrozenDistricts$VoteText", "at", "(I)C"⟩, 2) := ⟨⟨by decide +kernel, by decide +kernel⟩, List.mem_of_getElem? (i := 100) (by decide +kernel), List.mem_of_getElem? (i := 352) (by decide +kernel), List.mem_of_getElem? (i := 353) (by decide +kernel)⟩
theorem lw_p9 : lw_okq (⟨"FrozenDistricts", "tellArea", "(LFrozenDistricts$Row;II)I"⟩, 7) := ⟨⟨by decide +kernel, by decide +kernel⟩, List.mem_of_getElem? (i := 11) (by decide +kernel), List.mem_of_getElem? (i := 401) (by decide +kernel), List.mem_of_getElem? (i := 402) (by decide +kernel)⟩
theorem lw_p10 : lw_okq (⟨"FrozenDistrictsModel", "clear", "()V"⟩, 11) := ⟨⟨by decide +kernel, by decide +kernel⟩, List.mem_of_getElem? (i := 505) (by decide +kernel), List.mem_of_getElem? (i := 511) (by decide +kernel), List.mem_of_getElem? (i := 512) (by decide +kernel)⟩
theorem lw_p11 : lw_okq (⟨"FrozenDistrictsModel", "record", "()V"⟩, 11) := ⟨⟨by decide +kernel, by decide +kernel⟩, List.mem_of_getElem? (i := 505) (by decide +kernel), List.mem_of_getElem? (i := 562) (by decide +kernel), List.mem_of_getElem? (i := 563) (by decide +kernel)⟩
theorem lw_p12 : lw_okq (⟨"FrozenDistrictsModel", "size", "()I"⟩, 11) := ⟨⟨by decide +kernel, by decide +kernel⟩, List.mem_of_getElem? (i := 505) (by decide +kernel), List.mem_of_getElem? (i := 580) (by decide +kernel), List.mem_of_getElem? (i := 581) (by decide +kernel)⟩
theorem lw_p13 : lw_okq (⟨"FrozenDistrictsModel", "isOpen", "(I)Z"⟩, 11) := ⟨⟨by decide +kernel, by decide +kernel⟩, List.mem_of_getElem? (i := 505) (by decide +kernel), List.mem_of_getElem? (i := 592) (by decide +kernel), List.mem_of_getElem? (i := 593) (by decide +kernel)⟩
theorem lw_p14 : lw_okq (⟨"FrozenDistrictsModel", "noDraft", "()Z"⟩, 11) := ⟨⟨by decide +kernel, by decide +kernel⟩, List.mem_of_getElem? (i := 505) (by decide +kernel), List.mem_of_getElem? (i := 596) (by decide +kernel), List.mem_of_getElem? (i := 597) (by decide +kernel)⟩
theorem lw_p15 : lw_okq (⟨"FrozenDistrictsModel", "left", "()I"⟩, 11) := ⟨⟨by decide +kernel, by decide +kernel⟩, List.mem_of_getElem? (i := 505) (by decide +kernel), List.mem_of_getElem? (i := 600) (by decide +kernel), List.mem_of_getElem? (i := 601) (by decide +kernel)⟩
def lw_privs_1 : List (MethodName × Nat) := [(⟨"FrozenDistricts$History", "slotAt", "(I)LFrozenDistricts$State;"⟩, 3), (⟨"FrozenDistricts", "oneIfCut", "()I"⟩, 7), (⟨"FrozenDistricts$Judge", "notConnected", "(LFrozenDistricts$State;)I"⟩, 2), (⟨"FrozenDistricts$Judge", "reachFrom", "(ILFrozenDistricts$Row;I)V"⟩, 2), (⟨"FrozenDistricts", "planSnake", "(Z)V"⟩, 7), (⟨"FrozenDistricts$State", "makeDistrict", "(LFrozenDistricts$Row;II)V"⟩, 11), (⟨"FrozenDistricts$State", "leaveRest", "(I)V"⟩, 11), (⟨"FrozenDistricts$VoteText", "isAllowed", "(I)Z"⟩, 2), (⟨"FrozenDistricts$VoteText", "at", "(I)C"⟩, 2), (⟨"FrozenDistricts", "tellArea", "(LFrozenDistricts$Row;II)I"⟩, 7), (⟨"FrozenDistrictsModel", "clear", "()V"⟩, 11), (⟨"FrozenDistrictsModel", "record", "()V"⟩, 11), (⟨"FrozenDistrictsModel", "size", "()I"⟩, 11), (⟨"FrozenDistrictsModel", "isOpen", "(I)Z"⟩, 11), (⟨"FrozenDistrictsModel", "noDraft", "()Z"⟩, 11), (⟨"FrozenDistrictsModel", "left", "()I"⟩, 11)]
theorem lw_r1 : ∀ q ∈ lw_privs_1, lw_okq q := List.forall_mem_cons.mpr ⟨lw_p0, List.forall_mem_cons.mpr ⟨lw_p1, List.forall_mem_cons.mpr ⟨lw_p2, List.forall_mem_cons.mpr ⟨lw_p3, List.forall_mem_cons.mpr ⟨lw_p4, List.forall_mem_cons.mpr ⟨lw_p5, List.forall_mem_cons.mpr ⟨lw_p6, List.forall_mem_cons.mpr ⟨lw_p7, List.forall_mem_cons.mpr ⟨lw_p8, List.forall_mem_cons.mpr ⟨lw_p9, List.forall_mem_cons.mpr ⟨lw_p10, List.forall_mem_cons.mpr ⟨lw_p11, List.forall_mem_cons.mpr ⟨lw_p12, List.forall_mem_cons.mpr ⟨lw_p13, List.forall_mem_cons.mpr ⟨lw_p14, List.forall_mem_cons.mpr ⟨lw_p15, fun _ h => absurd h List.not_mem_nil⟩⟩⟩⟩⟩⟩⟩⟩⟩⟩⟩⟩⟩⟩⟩⟩
theorem lw_p16 : lw_okq (⟨"FrozenDistrictsModel", "reason", "()I"⟩, 11) := ⟨⟨by decide +kernel, by decide +kernel⟩, List.mem_of_getElem? (i := 505) (by decide +kernel), List.mem_of_getElem? (i := 608) (by decide +kernel), List.mem_of_getElem? (i := 609) (by decide +kernel)⟩
theorem lw_p17 : lw_okq (⟨"FrozenDistrictsModel", "cells", "(II)I"⟩, 11) := ⟨⟨by decide +kernel, by decide +kernel⟩, List.mem_of_getElem? (i := 505) (by decide +kernel), List.mem_of_getElem? (i := 612) (by decide +kernel), List.mem_of_getElem? (i := 613) (by decide +kernel)⟩
theorem lw_p18 : lw_okq (⟨"FrozenDistrictsModel", "pieces", "(I)I"⟩, 11) := ⟨⟨by decide +kernel, by decide +kernel⟩, List.mem_of_getElem? (i := 505) (by decide +kernel), List.mem_of_getElem? (i := 616) (by decide +kernel), List.mem_of_getElem? (i := 617) (by decide +kernel)⟩
theorem lw_p19 : lw_okq (⟨"FrozenDistrictsModel", "spread", "(I)V"⟩, 11) := ⟨⟨by decide +kernel, by decide +kernel⟩, List.mem_of_getElem? (i := 505) (by decide +kernel), List.mem_of_getElem? (i := 620) (by decide +kernel), List.mem_of_getElem? (i := 621) (by decide +kernel)⟩
theorem lw_p20 : lw_okq (⟨"FrozenDistrictsModel", "take", "()Z"⟩, 11) := ⟨⟨by decide +kernel, by decide +kernel⟩, List.mem_of_getElem? (i := 505) (by decide +kernel), List.mem_of_getElem? (i := 631) (by decide +kernel), List.mem_of_getElem? (i := 632) (by decide +kernel)⟩
theorem lw_p21 : lw_okq (⟨"FrozenDistrictsModel", "freezePart", "(II)V"⟩, 11) := ⟨⟨by decide +kernel, by decide +kernel⟩, List.mem_of_getElem? (i := 505) (by decide +kernel), List.mem_of_getElem? (i := 647) (by decide +kernel), List.mem_of_getElem? (i := 648) (by decide +kernel)⟩
theorem lw_p22 : lw_okq (⟨"FrozenDistrictsModel", "readPairs", "()I"⟩, 11) := ⟨⟨by decide +kernel, by decide +kernel⟩, List.mem_of_getElem? (i := 505) (by decide +kernel), List.mem_of_getElem? (i := 663) (by decide +kernel), List.mem_of_getElem? (i := 664) (by decide +kernel)⟩
theorem lw_p23 : lw_okq (⟨"FrozenDistrictsModel", "sees", "(II)Z"⟩, 11) := ⟨⟨by decide +kernel, by decide +kernel⟩, List.mem_of_getElem? (i := 505) (by decide +kernel), List.mem_of_getElem? (i := 667) (by decide +kernel), List.mem_of_getElem? (i := 668) (by decide +kernel)⟩
theorem lw_p24 : lw_okq (⟨"FrozenDistrictsModel", "alikeBeside", "(I)I"⟩, 11) := ⟨⟨by decide +kernel, by decide +kernel⟩, List.mem_of_getElem? (i := 505) (by decide +kernel), List.mem_of_getElem? (i := 678) (by decide +kernel), List.mem_of_getElem? (i := 679) (by decide +kernel)⟩
theorem lw_p25 : lw_okq (⟨"FrozenDistrictsModel", "borders", "(II)I"⟩, 11) := ⟨⟨by decide +kernel, by decide +kernel⟩, List.mem_of_getElem? (i := 505) (by decide +kernel), List.mem_of_getElem? (i := 686) (by decide +kernel), List.mem_of_getElem? (i := 687) (by decide +kernel)⟩
theorem lw_p26 : lw_okq (⟨"FrozenDistrictsModel", "margin", "(II)I"⟩, 11) := ⟨⟨by decide +kernel, by decide +kernel⟩, List.mem_of_getElem? (i := 505) (by decide +kernel), List.mem_of_getElem? (i := 690) (by decide +kernel), List.mem_of_getElem? (i := 691) (by decide +kernel)⟩
theorem lw_p27 : lw_okq (⟨"FrozenDistrictsModel", "votes", "(III)I"⟩, 11) := ⟨⟨by decide +kernel, by decide +kernel⟩, List.mem_of_getElem? (i := 505) (by decide +kernel), List.mem_of_getElem? (i := 694) (by decide +kernel), List.mem_of_getElem? (i := 695) (by decide +kernel)⟩
theorem lw_p28 : lw_okq (⟨"FrozenDistrictsModel", "winner", "(II)I"⟩, 11) := ⟨⟨by decide +kernel, by decide +kernel⟩, List.mem_of_getElem? (i := 505) (by decide +kernel), List.mem_of_getElem? (i := 698) (by decide +kernel), List.mem_of_getElem? (i := 699) (by decide +kernel)⟩
theorem lw_p29 : lw_okq (⟨"FrozenDistrictsModel", "lowest", "(II)I"⟩, 11) := ⟨⟨by decide +kernel, by decide +kernel⟩, List.mem_of_getElem? (i := 505) (by decide +kernel), List.mem_of_getElem? (i := 702) (by decide +kernel), List.mem_of_getElem? (i := 703) (by decide +kernel)⟩
theorem lw_p30 : lw_okq (⟨"FrozenDistrictsModel", "wasted", "(II)I"⟩, 11) := ⟨⟨by decide +kernel, by decide +kernel⟩, List.mem_of_getElem? (i := 505) (by decide +kernel), List.mem_of_getElem? (i := 710) (by decide +kernel), List.mem_of_getElem? (i := 711) (by decide +kernel)⟩
theorem lw_p31 : lw_okq (⟨"FrozenDistrictsModel", "seats", "(I)I"⟩, 11) := ⟨⟨by decide +kernel, by decide +kernel⟩, List.mem_of_getElem? (i := 505) (by decide +kernel), List.mem_of_getElem? (i := 726) (by decide +kernel), List.mem_of_getElem? (i := 727) (by decide +kernel)⟩
def lw_privs_2 : List (MethodName × Nat) := [(⟨"FrozenDistrictsModel", "reason", "()I"⟩, 11), (⟨"FrozenDistrictsModel", "cells", "(II)I"⟩, 11), (⟨"FrozenDistrictsModel", "pieces", "(I)I"⟩, 11), (⟨"FrozenDistrictsModel", "spread", "(I)V"⟩, 11), (⟨"FrozenDistrictsModel", "take", "()Z"⟩, 11), (⟨"FrozenDistrictsModel", "freezePart", "(II)V"⟩, 11), (⟨"FrozenDistrictsModel", "readPairs", "()I"⟩, 11), (⟨"FrozenDistrictsModel", "sees", "(II)Z"⟩, 11), (⟨"FrozenDistrictsModel", "alikeBeside", "(I)I"⟩, 11), (⟨"FrozenDistrictsModel", "borders", "(II)I"⟩, 11), (⟨"FrozenDistrictsModel", "margin", "(II)I"⟩, 11), (⟨"FrozenDistrictsModel", "votes", "(III)I"⟩, 11), (⟨"FrozenDistrictsModel", "winner", "(II)I"⟩, 11), (⟨"FrozenDistrictsModel", "lowest", "(II)I"⟩, 11), (⟨"FrozenDistrictsModel", "wasted", "(II)I"⟩, 11), (⟨"FrozenDistrictsModel", "seats", "(I)I"⟩, 11)]
theorem lw_r2 : ∀ q ∈ lw_privs_2, lw_okq q := List.forall_mem_cons.mpr ⟨lw_p16, List.forall_mem_cons.mpr ⟨lw_p17, List.forall_mem_cons.mpr ⟨lw_p18, List.forall_mem_cons.mpr ⟨lw_p19, List.forall_mem_cons.mpr ⟨lw_p20, List.forall_mem_cons.mpr ⟨lw_p21, List.forall_mem_cons.mpr ⟨lw_p22, List.forall_mem_cons.mpr ⟨lw_p23, List.forall_mem_cons.mpr ⟨lw_p24, List.forall_mem_cons.mpr ⟨lw_p25, List.forall_mem_cons.mpr ⟨lw_p26, List.forall_mem_cons.mpr ⟨lw_p27, List.forall_mem_cons.mpr ⟨lw_p28, List.forall_mem_cons.mpr ⟨lw_p29, List.forall_mem_cons.mpr ⟨lw_p30, List.forall_mem_cons.mpr ⟨lw_p31, fun _ h => absurd h List.not_mem_nil⟩⟩⟩⟩⟩⟩⟩⟩⟩⟩⟩⟩⟩⟩⟩⟩
theorem lw_p32 : lw_okq (⟨"FrozenDistrictsModel", "votesOnMap", "(I)I"⟩, 11) := ⟨⟨by decide +kernel, by decide +kernel⟩, List.mem_of_getElem? (i := 505) (by decide +kernel), List.mem_of_getElem? (i := 730) (by decide +kernel), List.mem_of_getElem? (i := 731) (by decide +kernel)⟩
theorem lw_p33 : lw_okq (⟨"FrozenDistrictsModel", "withoutPart", "()I"⟩, 11) := ⟨⟨by decide +kernel, by decide +kernel⟩, List.mem_of_getElem? (i := 505) (by decide +kernel), List.mem_of_getElem? (i := 743) (by decide +kernel), List.mem_of_getElem? (i := 744) (by decide +kernel)⟩
theorem lw_p34 : lw_okq (⟨"FrozenDistrictsModel", "allBorders", "()I"⟩, 11) := ⟨⟨by decide +kernel, by decide +kernel⟩, List.mem_of_getElem? (i := 505) (by decide +kernel), List.mem_of_getElem? (i := 747) (by decide +kernel), List.mem_of_getElem? (i := 748) (by decide +kernel)⟩
def lw_privs_3 : List (MethodName × Nat) := [(⟨"FrozenDistrictsModel", "votesOnMap", "(I)I"⟩, 11), (⟨"FrozenDistrictsModel", "withoutPart", "()I"⟩, 11), (⟨"FrozenDistrictsModel", "allBorders", "()I"⟩, 11)]
theorem lw_r3 : ∀ q ∈ lw_privs_3, lw_okq q := List.forall_mem_cons.mpr ⟨lw_p32, List.forall_mem_cons.mpr ⟨lw_p33, List.forall_mem_cons.mpr ⟨lw_p34, fun _ h => absurd h List.not_mem_nil⟩⟩⟩
def lw_privs : List (MethodName × Nat) := lw_privs_1 ++ (lw_privs_2 ++ (lw_privs_3))
def lw_tbl : List Cond := k2_sels lw_privs ++ tables_1
theorem lw_privs_ok : ∀ q ∈ lw_privs, lw_okq q := by
  show ∀ q ∈ lw_privs_1 ++ (lw_privs_2 ++ (lw_privs_3)), lw_okq q
  exact List.forall_mem_append.mpr ⟨lw_r1, List.forall_mem_append.mpr ⟨lw_r2, lw_r3⟩⟩
-- ===== names =====
def RX0 : String := "FrozenDistricts$Areas"
def TX0 : u_T := fun k => match k with
  | _ => ("", "", "", false)
def tyX0 : Nat → FieldType := fun k => match k with
  | _ => .int
abbrev wsX00 : List Cond := u_ws RX0 TX0 0
theorem nmX0 : ∀ a, a < 0 → ∀ b, b < 0 → a ≠ b → (TX0 a).2.1 ≠ (TX0 b).2.1 := by decide +kernel
theorem tyX0_ok : ∀ k, k < 0 → parseFieldDescriptor (TX0 k).2.2.1 = some (tyX0 k) := by decide +kernel
abbrev cX0_behind : ByteArray := prog_2_method_2_code
def yX0_behind : MethodName := ⟨RX0, "behind", "(II)I"⟩
abbrev cX0_size : ByteArray := prog_2_method_3_code
def yX0_size : MethodName := ⟨RX0, "size", "(LFrozenDistricts$Row;I)I"⟩
abbrev cX0_lowest : ByteArray := prog_2_method_4_code
def yX0_lowest : MethodName := ⟨RX0, "lowest", "(LFrozenDistricts$Row;I)I"⟩
abbrev cX0_alike : ByteArray := prog_2_method_5_code
def yX0_alike : MethodName := ⟨RX0, "alike", "(LFrozenDistricts$Row;I)I"⟩
abbrev cX0_borders : ByteArray := prog_2_method_6_code
def yX0_borders : MethodName := ⟨RX0, "borders", "(LFrozenDistricts$Row;I)I"⟩
abbrev cX0_votes : ByteArray := prog_2_method_7_code
def yX0_votes : MethodName := ⟨RX0, "votes", "(LFrozenDistricts$Row;ILFrozenDistricts$Row;)I"⟩
def RX1 : String := "FrozenDistricts$History"
def TX1 : u_T := fun k => match k with
  | 0 => ("FrozenDistricts$History", "slots", "[LFrozenDistricts$State;", true)
  | 1 => ("FrozenDistricts$History", "oldest", "I", false)
  | _ => ("FrozenDistricts$History", "size", "I", false)
def tyX1 : Nat → FieldType := fun k => match k with
  | 0 => .array (.object "FrozenDistricts$State")
  | 1 => .int
  | _ => .int
abbrev wsX10 : List Cond := u_ws RX1 TX1 3
theorem nmX1 : ∀ a, a < 3 → ∀ b, b < 3 → a ≠ b → (TX1 a).2.1 ≠ (TX1 b).2.1 := by decide +kernel
theorem tyX1_ok : ∀ k, k < 3 → parseFieldDescriptor (TX1 k).2.2.1 = some (tyX1 k) := by decide +kernel
abbrev cX1_init : ByteArray := prog_3_method_1_code
def yX1_init : MethodName := ⟨RX1, "<init>", "()V"⟩
abbrev cX1_size : ByteArray := prog_3_method_2_code
def yX1_size : MethodName := ⟨RX1, "size", "()I"⟩
abbrev cX1_record : ByteArray := prog_3_method_3_code
def yX1_record : MethodName := ⟨RX1, "record", "(LFrozenDistricts$State;)V"⟩
abbrev cX1_takeLatest : ByteArray := prog_3_method_4_code
def yX1_takeLatest : MethodName := ⟨RX1, "takeLatest", "(LFrozenDistricts$State;)V"⟩
abbrev cX1_slotAt : ByteArray := prog_3_method_5_code
def yX1_slotAt : MethodName := ⟨RX1, "slotAt", "(I)LFrozenDistricts$State;"⟩
def RX2 : String := "FrozenDistricts$Judge"
def TX2 : u_T := fun k => match k with
  | 0 => ("FrozenDistricts$Judge", "reached", "LFrozenDistricts$Row;", true)
  | _ => ("FrozenDistricts$Judge", "queue", "LFrozenDistricts$Row;", true)
def tyX2 : Nat → FieldType := fun k => match k with
  | 0 => .object "FrozenDistricts$Row"
  | _ => .object "FrozenDistricts$Row"
abbrev wsX20 : List Cond := u_ws RX2 TX2 2
theorem nmX2 : ∀ a, a < 2 → ∀ b, b < 2 → a ≠ b → (TX2 a).2.1 ≠ (TX2 b).2.1 := by decide +kernel
theorem tyX2_ok : ∀ k, k < 2 → parseFieldDescriptor (TX2 k).2.2.1 = some (tyX2 k) := by decide +kernel
abbrev cX2_init : ByteArray := prog_4_method_1_code
def yX2_init : MethodName := ⟨RX2, "<init>", "()V"⟩
abbrev cX2_reason : ByteArray := prog_4_method_2_code
def yX2_reason : MethodName := ⟨RX2, "reason", "(LFrozenDistricts$State;)I"⟩
abbrev cX2_blamed : ByteArray := prog_4_method_3_code
def yX2_blamed : MethodName := ⟨RX2, "blamed", "(LFrozenDistricts$State;)I"⟩
abbrev cX2_pieces : ByteArray := prog_4_method_4_code
def yX2_pieces : MethodName := ⟨RX2, "pieces", "(LFrozenDistricts$Row;I)I"⟩
abbrev cX2_reachFrom : ByteArray := prog_4_method_5_code
def yX2_reachFrom : MethodName := ⟨RX2, "reachFrom", "(ILFrozenDistricts$Row;I)V"⟩
abbrev cX2_withoutPart : ByteArray := prog_4_method_6_code
def yX2_withoutPart : MethodName := ⟨RX2, "withoutPart", "(LFrozenDistricts$State;)I"⟩
abbrev cX2_ofOtherSize : ByteArray := prog_4_method_7_code
def yX2_ofOtherSize : MethodName := ⟨RX2, "ofOtherSize", "(LFrozenDistricts$State;)I"⟩
abbrev cX2_notConnected : ByteArray := prog_4_method_8_code
def yX2_notConnected : MethodName := ⟨RX2, "notConnected", "(LFrozenDistricts$State;)I"⟩
def RX3 : String := "FrozenDistricts$Row"
def TX3 : u_T := fun k => match k with
  | _ => ("FrozenDistricts$Row", "numbers", "[I", true)
def tyX3 : Nat → FieldType := fun k => match k with
  | _ => .array .int
abbrev wsX30 : List Cond := u_ws RX3 TX3 1
theorem nmX3 : ∀ a, a < 1 → ∀ b, b < 1 → a ≠ b → (TX3 a).2.1 ≠ (TX3 b).2.1 := by decide +kernel
theorem tyX3_ok : ∀ k, k < 1 → parseFieldDescriptor (TX3 k).2.2.1 = some (tyX3 k) := by decide +kernel
abbrev cX3_init : ByteArray := prog_5_method_1_code
def yX3_init : MethodName := ⟨RX3, "<init>", "(II)V"⟩
abbrev cX3_at : ByteArray := prog_5_method_2_code
def yX3_at : MethodName := ⟨RX3, "at", "(I)I"⟩
abbrev cX3_put : ByteArray := prog_5_method_3_code
def yX3_put : MethodName := ⟨RX3, "put", "(II)V"⟩
abbrev cX3_fill : ByteArray := prog_5_method_4_code
def yX3_fill : MethodName := ⟨RX3, "fill", "(I)V"⟩
abbrev cX3_copy : ByteArray := prog_5_method_5_code
def yX3_copy : MethodName := ⟨RX3, "copy", "(LFrozenDistricts$Row;)V"⟩
abbrev cX3_isLike : ByteArray := prog_5_method_6_code
def yX3_isLike : MethodName := ⟨RX3, "isLike", "(LFrozenDistricts$Row;)Z"⟩
abbrev cX3_sum : ByteArray := prog_5_method_7_code
def yX3_sum : MethodName := ⟨RX3, "sum", "()I"⟩
def RX4 : String := "FrozenDistricts$State"
def TX4 : u_T := fun k => match k with
  | 0 => ("FrozenDistricts$State", "first", "LFrozenDistricts$Row;", true)
  | 1 => ("FrozenDistricts$State", "second", "LFrozenDistricts$Row;", true)
  | 2 => ("FrozenDistricts$State", "parts", "LFrozenDistricts$Row;", true)
  | 3 => ("FrozenDistricts$State", "districts", "LFrozenDistricts$Row;", true)
  | 4 => ("FrozenDistricts$State", "rest", "LFrozenDistricts$Row;", true)
  | 5 => ("FrozenDistricts$State", "frozenBy", "LFrozenDistricts$Row;", true)
  | 6 => ("FrozenDistricts$State", "targets", "LFrozenDistricts$Row;", true)
  | 7 => ("FrozenDistricts$State", "wanted", "I", false)
  | 8 => ("FrozenDistricts$State", "frozen", "I", false)
  | 9 => ("FrozenDistricts$State", "cutter", "I", false)
  | _ => ("FrozenDistricts$State", "stage", "I", false)
def tyX4 : Nat → FieldType := fun k => match k with
  | 0 => .object "FrozenDistricts$Row"
  | 1 => .object "FrozenDistricts$Row"
  | 2 => .object "FrozenDistricts$Row"
  | 3 => .object "FrozenDistricts$Row"
  | 4 => .object "FrozenDistricts$Row"
  | 5 => .object "FrozenDistricts$Row"
  | 6 => .object "FrozenDistricts$Row"
  | 7 => .int
  | 8 => .int
  | 9 => .int
  | _ => .int
abbrev wsX40 : List Cond := u_ws RX4 TX4 11
theorem nmX4 : ∀ a, a < 11 → ∀ b, b < 11 → a ≠ b → (TX4 a).2.1 ≠ (TX4 b).2.1 := by decide +kernel
theorem tyX4_ok : ∀ k, k < 11 → parseFieldDescriptor (TX4 k).2.2.1 = some (tyX4 k) := by decide +kernel
abbrev cX4_init : ByteArray := prog_6_method_1_code
def yX4_init : MethodName := ⟨RX4, "<init>", "()V"⟩
abbrev cX4_copy : ByteArray := prog_6_method_2_code
def yX4_copy : MethodName := ⟨RX4, "copy", "(LFrozenDistricts$State;)V"⟩
abbrev cX4_startAnew : ByteArray := prog_6_method_3_code
def yX4_startAnew : MethodName := ⟨RX4, "startAnew", "(I)V"⟩
abbrev cX4_size : ByteArray := prog_6_method_4_code
def yX4_size : MethodName := ⟨RX4, "size", "()I"⟩
abbrev cX4_left : ByteArray := prog_6_method_5_code
def yX4_left : MethodName := ⟨RX4, "left", "()I"⟩
abbrev cX4_isOpen : ByteArray := prog_6_method_6_code
def yX4_isOpen : MethodName := ⟨RX4, "isOpen", "(I)Z"⟩
abbrev cX4_isPart : ByteArray := prog_6_method_7_code
def yX4_isPart : MethodName := ⟨RX4, "isPart", "(I)Z"⟩
abbrev cX4_player : ByteArray := prog_6_method_8_code
def yX4_player : MethodName := ⟨RX4, "player", "()I"⟩
abbrev cX4_openWithoutPart : ByteArray := prog_6_method_9_code
def yX4_openWithoutPart : MethodName := ⟨RX4, "openWithoutPart", "()I"⟩
abbrev cX4_takePart : ByteArray := prog_6_method_10_code
def yX4_takePart : MethodName := ⟨RX4, "takePart", "(I)V"⟩
abbrev cX4_makeDistrict : ByteArray := prog_6_method_11_code
def yX4_makeDistrict : MethodName := ⟨RX4, "makeDistrict", "(LFrozenDistricts$Row;II)V"⟩
abbrev cX4_leaveRest : ByteArray := prog_6_method_12_code
def yX4_leaveRest : MethodName := ⟨RX4, "leaveRest", "(I)V"⟩
abbrev cX4_votesOf : ByteArray := prog_6_method_13_code
def yX4_votesOf : MethodName := ⟨RX4, "votesOf", "(I)LFrozenDistricts$Row;"⟩
abbrev cX4_margin : ByteArray := prog_6_method_14_code
def yX4_margin : MethodName := ⟨RX4, "margin", "(LFrozenDistricts$Row;II)I"⟩
abbrev cX4_winner : ByteArray := prog_6_method_15_code
def yX4_winner : MethodName := ⟨RX4, "winner", "(LFrozenDistricts$Row;I)I"⟩
abbrev cX4_won : ByteArray := prog_6_method_16_code
def yX4_won : MethodName := ⟨RX4, "won", "(LFrozenDistricts$Row;II)I"⟩
abbrev cX4_seats : ByteArray := prog_6_method_17_code
def yX4_seats : MethodName := ⟨RX4, "seats", "(I)I"⟩
abbrev cX4_wasted : ByteArray := prog_6_method_18_code
def yX4_wasted : MethodName := ⟨RX4, "wasted", "(II)I"⟩
abbrev cX4_wastedInAll : ByteArray := prog_6_method_19_code
def yX4_wastedInAll : MethodName := ⟨RX4, "wastedInAll", "(I)I"⟩
abbrev cX4_bordersOfAll : ByteArray := prog_6_method_20_code
def yX4_bordersOfAll : MethodName := ⟨RX4, "bordersOfAll", "()I"⟩
abbrev cX4_closestWon : ByteArray := prog_6_method_21_code
def yX4_closestWon : MethodName := ⟨RX4, "closestWon", "(I)I"⟩
abbrev cX4_mostLost : ByteArray := prog_6_method_22_code
def yX4_mostLost : MethodName := ⟨RX4, "mostLost", "(I)I"⟩
def RX5 : String := "FrozenDistricts$VoteText"
def TX5 : u_T := fun k => match k with
  | 0 => ("FrozenDistricts$VoteText", "characters", "[C", true)
  | _ => ("FrozenDistricts$VoteText", "length", "I", false)
def tyX5 : Nat → FieldType := fun k => match k with
  | 0 => .array .char
  | _ => .int
abbrev wsX50 : List Cond := u_ws RX5 TX5 2
theorem nmX5 : ∀ a, a < 2 → ∀ b, b < 2 → a ≠ b → (TX5 a).2.1 ≠ (TX5 b).2.1 := by decide +kernel
theorem tyX5_ok : ∀ k, k < 2 → parseFieldDescriptor (TX5 k).2.2.1 = some (tyX5 k) := by decide +kernel
abbrev cX5_init : ByteArray := prog_7_method_1_code
def yX5_init : MethodName := ⟨RX5, "<init>", "()V"⟩
abbrev cX5_length : ByteArray := prog_7_method_2_code
def yX5_length : MethodName := ⟨RX5, "length", "()I"⟩
abbrev cX5_append : ByteArray := prog_7_method_3_code
def yX5_append : MethodName := ⟨RX5, "append", "(C)Z"⟩
abbrev cX5_empty : ByteArray := prog_7_method_4_code
def yX5_empty : MethodName := ⟨RX5, "empty", "()V"⟩
abbrev cX5_fault : ByteArray := prog_7_method_5_code
def yX5_fault : MethodName := ⟨RX5, "fault", "()I"⟩
abbrev cX5_pairs : ByteArray := prog_7_method_6_code
def yX5_pairs : MethodName := ⟨RX5, "pairs", "()I"⟩
abbrev cX5_votes : ByteArray := prog_7_method_7_code
def yX5_votes : MethodName := ⟨RX5, "votes", "(II)I"⟩
abbrev cX5_isAllowed : ByteArray := prog_7_method_8_code
def yX5_isAllowed : MethodName := ⟨RX5, "isAllowed", "(I)Z"⟩
abbrev cX5_at : ByteArray := prog_7_method_9_code
def yX5_at : MethodName := ⟨RX5, "at", "(I)C"⟩
def RX6 : String := "FrozenDistricts"
def TX6 : u_T := fun k => match k with
  | 0 => ("FrozenDistricts", "now", "LFrozenDistricts$State;", true)
  | 1 => ("FrozenDistricts", "history", "LFrozenDistricts$History;", true)
  | 2 => ("FrozenDistricts", "snapshot", "LFrozenDistricts$State;", true)
  | 3 => ("FrozenDistricts", "hasSnapshot", "Z", false)
  | 4 => ("FrozenDistricts", "text", "LFrozenDistricts$VoteText;", true)
  | 5 => ("FrozenDistricts", "judge", "LFrozenDistricts$Judge;", true)
  | _ => ("FrozenDistricts", "planned", "LFrozenDistricts$Row;", true)
def tyX6 : Nat → FieldType := fun k => match k with
  | 0 => .object "FrozenDistricts$State"
  | 1 => .object "FrozenDistricts$History"
  | 2 => .object "FrozenDistricts$State"
  | 3 => .boolean
  | 4 => .object "FrozenDistricts$VoteText"
  | 5 => .object "FrozenDistricts$Judge"
  | _ => .object "FrozenDistricts$Row"
abbrev wsX60 : List Cond := u_ws RX6 TX6 7
theorem nmX6 : ∀ a, a < 7 → ∀ b, b < 7 → a ≠ b → (TX6 a).2.1 ≠ (TX6 b).2.1 := by decide +kernel
theorem tyX6_ok : ∀ k, k < 7 → parseFieldDescriptor (TX6 k).2.2.1 = some (tyX6 k) := by decide +kernel
abbrev cX6_init : ByteArray := prog_1_method_1_code
def yX6_init : MethodName := ⟨RX6, "<init>", "()V"⟩
abbrev cX6_setVotes : ByteArray := prog_1_method_2_code
def yX6_setVotes : MethodName := ⟨RX6, "setVotes", "(III)I"⟩
abbrev cX6_begin : ByteArray := prog_1_method_3_code
def yX6_begin : MethodName := ⟨RX6, "begin", "(I)I"⟩
abbrev cX6_setTarget : ByteArray := prog_1_method_4_code
def yX6_setTarget : MethodName := ⟨RX6, "setTarget", "(II)I"⟩
abbrev cX6_draft : ByteArray := prog_1_method_5_code
def yX6_draft : MethodName := ⟨RX6, "draft", "(II)I"⟩
abbrev cX6_trade : ByteArray := prog_1_method_6_code
def yX6_trade : MethodName := ⟨RX6, "trade", "(II)I"⟩
abbrev cX6_snake : ByteArray := prog_1_method_7_code
def yX6_snake : MethodName := ⟨RX6, "snake", "(Z)I"⟩
abbrev cX6_adopt : ByteArray := prog_1_method_8_code
def yX6_adopt : MethodName := ⟨RX6, "adopt", "()I"⟩
abbrev cX6_propose : ByteArray := prog_1_method_9_code
def yX6_propose : MethodName := ⟨RX6, "propose", "()I"⟩
abbrev cX6_freeze : ByteArray := prog_1_method_10_code
def yX6_freeze : MethodName := ⟨RX6, "freeze", "(I)I"⟩
abbrev cX6_type : ByteArray := prog_1_method_11_code
def yX6_type : MethodName := ⟨RX6, "type", "(C)I"⟩
abbrev cX6_clearText : ByteArray := prog_1_method_12_code
def yX6_clearText : MethodName := ⟨RX6, "clearText", "()I"⟩
abbrev cX6_readVotes : ByteArray := prog_1_method_13_code
def yX6_readVotes : MethodName := ⟨RX6, "readVotes", "(I)I"⟩
abbrev cX6_undo : ByteArray := prog_1_method_14_code
def yX6_undo : MethodName := ⟨RX6, "undo", "()I"⟩
abbrev cX6_keep : ByteArray := prog_1_method_15_code
def yX6_keep : MethodName := ⟨RX6, "keep", "()I"⟩
abbrev cX6_restore : ByteArray := prog_1_method_16_code
def yX6_restore : MethodName := ⟨RX6, "restore", "()I"⟩
abbrev cX6_cell : ByteArray := prog_1_method_17_code
def yX6_cell : MethodName := ⟨RX6, "cell", "(II)I"⟩
abbrev cX6_part : ByteArray := prog_1_method_18_code
def yX6_part : MethodName := ⟨RX6, "part", "(II)I"⟩
abbrev cX6_district : ByteArray := prog_1_method_19_code
def yX6_district : MethodName := ⟨RX6, "district", "(II)I"⟩
abbrev cX6_why : ByteArray := prog_1_method_20_code
def yX6_why : MethodName := ⟨RX6, "why", "(I)I"⟩
abbrev cX6_advice : ByteArray := prog_1_method_21_code
def yX6_advice : MethodName := ⟨RX6, "advice", "()I"⟩
abbrev cX6_party : ByteArray := prog_1_method_22_code
def yX6_party : MethodName := ⟨RX6, "party", "(II)I"⟩
abbrev cX6_fairness : ByteArray := prog_1_method_23_code
def yX6_fairness : MethodName := ⟨RX6, "fairness", "()I"⟩
abbrev cX6_count : ByteArray := prog_1_method_24_code
def yX6_count : MethodName := ⟨RX6, "count", "(I)I"⟩
abbrev cX6_isFromTo : ByteArray := prog_1_method_25_code
def yX6_isFromTo : MethodName := ⟨RX6, "isFromTo", "(III)Z"⟩
abbrev cX6_isCell : ByteArray := prog_1_method_26_code
def yX6_isCell : MethodName := ⟨RX6, "isCell", "(I)Z"⟩
abbrev cX6_isParty : ByteArray := prog_1_method_27_code
def yX6_isParty : MethodName := ⟨RX6, "isParty", "(I)Z"⟩
abbrev cX6_dividesTheMap : ByteArray := prog_1_method_28_code
def yX6_dividesTheMap : MethodName := ⟨RX6, "dividesTheMap", "(I)Z"⟩
abbrev cX6_noneIfNothing : ByteArray := prog_1_method_29_code
def yX6_noneIfNothing : MethodName := ⟨RX6, "noneIfNothing", "(I)I"⟩
abbrev cX6_oneIfCut : ByteArray := prog_1_method_30_code
def yX6_oneIfCut : MethodName := ⟨RX6, "oneIfCut", "()I"⟩
abbrev cX6_planSnake : ByteArray := prog_1_method_31_code
def yX6_planSnake : MethodName := ⟨RX6, "planSnake", "(Z)V"⟩
abbrev cX6_cellOfSnake : ByteArray := prog_1_method_32_code
def yX6_cellOfSnake : MethodName := ⟨RX6, "cellOfSnake", "(IZ)I"⟩
abbrev cX6_tellArea : ByteArray := prog_1_method_33_code
def yX6_tellArea : MethodName := ⟨RX6, "tellArea", "(LFrozenDistricts$Row;II)I"⟩
def RX7 : String := "FrozenDistrictsModel"
def TX7 : u_T := fun k => match k with
  | 0 => ("FrozenDistrictsModel", "row", "[I", true)
  | 1 => ("FrozenDistrictsModel", "past", "[I", true)
  | 2 => ("FrozenDistrictsModel", "aside", "[I", true)
  | 3 => ("FrozenDistrictsModel", "states", "I", false)
  | 4 => ("FrozenDistrictsModel", "isAside", "Z", false)
  | 5 => ("FrozenDistrictsModel", "text", "[C", true)
  | 6 => ("FrozenDistrictsModel", "length", "I", false)
  | 7 => ("FrozenDistrictsModel", "at", "I", false)
  | 8 => ("FrozenDistrictsModel", "read", "[I", true)
  | 9 => ("FrozenDistrictsModel", "tried", "[I", true)
  | _ => ("FrozenDistrictsModel", "seen", "[Z", true)
def tyX7 : Nat → FieldType := fun k => match k with
  | 0 => .array .int
  | 1 => .array .int
  | 2 => .array .int
  | 3 => .int
  | 4 => .boolean
  | 5 => .array .char
  | 6 => .int
  | 7 => .int
  | 8 => .array .int
  | 9 => .array .int
  | _ => .array .boolean
abbrev wsX70 : List Cond := u_ws RX7 TX7 11
theorem nmX7 : ∀ a, a < 11 → ∀ b, b < 11 → a ≠ b → (TX7 a).2.1 ≠ (TX7 b).2.1 := by decide +kernel
theorem tyX7_ok : ∀ k, k < 11 → parseFieldDescriptor (TX7 k).2.2.1 = some (tyX7 k) := by decide +kernel
abbrev cX7_init : ByteArray := prog_9_method_1_code
def yX7_init : MethodName := ⟨RX7, "<init>", "()V"⟩
abbrev cX7_in : ByteArray := prog_9_method_2_code
def yX7_in : MethodName := ⟨RX7, "in", "(III)Z"⟩
abbrev cX7_noCell : ByteArray := prog_9_method_3_code
def yX7_noCell : MethodName := ⟨RX7, "noCell", "(I)Z"⟩
abbrev cX7_clear : ByteArray := prog_9_method_4_code
def yX7_clear : MethodName := ⟨RX7, "clear", "()V"⟩
abbrev cX7_record : ByteArray := prog_9_method_5_code
def yX7_record : MethodName := ⟨RX7, "record", "()V"⟩
abbrev cX7_undo : ByteArray := prog_9_method_6_code
def yX7_undo : MethodName := ⟨RX7, "undo", "()I"⟩
abbrev cX7_keep : ByteArray := prog_9_method_7_code
def yX7_keep : MethodName := ⟨RX7, "keep", "()I"⟩
abbrev cX7_restore : ByteArray := prog_9_method_8_code
def yX7_restore : MethodName := ⟨RX7, "restore", "()I"⟩
abbrev cX7_setVotes : ByteArray := prog_9_method_9_code
def yX7_setVotes : MethodName := ⟨RX7, "setVotes", "(III)I"⟩
abbrev cX7_begin : ByteArray := prog_9_method_10_code
def yX7_begin : MethodName := ⟨RX7, "begin", "(I)I"⟩
abbrev cX7_setTarget : ByteArray := prog_9_method_11_code
def yX7_setTarget : MethodName := ⟨RX7, "setTarget", "(II)I"⟩
abbrev cX7_size : ByteArray := prog_9_method_12_code
def yX7_size : MethodName := ⟨RX7, "size", "()I"⟩
abbrev cX7_left : ByteArray := prog_9_method_13_code
def yX7_left : MethodName := ⟨RX7, "left", "()I"⟩
abbrev cX7_isOpen : ByteArray := prog_9_method_14_code
def yX7_isOpen : MethodName := ⟨RX7, "isOpen", "(I)Z"⟩
abbrev cX7_beside : ByteArray := prog_9_method_15_code
def yX7_beside : MethodName := ⟨RX7, "beside", "(II)I"⟩
abbrev cX7_cells : ByteArray := prog_9_method_16_code
def yX7_cells : MethodName := ⟨RX7, "cells", "(II)I"⟩
abbrev cX7_lowest : ByteArray := prog_9_method_17_code
def yX7_lowest : MethodName := ⟨RX7, "lowest", "(II)I"⟩
abbrev cX7_votes : ByteArray := prog_9_method_18_code
def yX7_votes : MethodName := ⟨RX7, "votes", "(III)I"⟩
abbrev cX7_margin : ByteArray := prog_9_method_19_code
def yX7_margin : MethodName := ⟨RX7, "margin", "(II)I"⟩
abbrev cX7_winner : ByteArray := prog_9_method_20_code
def yX7_winner : MethodName := ⟨RX7, "winner", "(II)I"⟩
abbrev cX7_borders : ByteArray := prog_9_method_21_code
def yX7_borders : MethodName := ⟨RX7, "borders", "(II)I"⟩
abbrev cX7_pieces : ByteArray := prog_9_method_22_code
def yX7_pieces : MethodName := ⟨RX7, "pieces", "(I)I"⟩
abbrev cX7_spread : ByteArray := prog_9_method_23_code
def yX7_spread : MethodName := ⟨RX7, "spread", "(I)V"⟩
abbrev cX7_reason : ByteArray := prog_9_method_24_code
def yX7_reason : MethodName := ⟨RX7, "reason", "()I"⟩
abbrev cX7_noDraft : ByteArray := prog_9_method_25_code
def yX7_noDraft : MethodName := ⟨RX7, "noDraft", "()Z"⟩
abbrev cX7_draft : ByteArray := prog_9_method_26_code
def yX7_draft : MethodName := ⟨RX7, "draft", "(II)I"⟩
abbrev cX7_trade : ByteArray := prog_9_method_27_code
def yX7_trade : MethodName := ⟨RX7, "trade", "(II)I"⟩
abbrev cX7_take : ByteArray := prog_9_method_28_code
def yX7_take : MethodName := ⟨RX7, "take", "()Z"⟩
abbrev cX7_snake : ByteArray := prog_9_method_29_code
def yX7_snake : MethodName := ⟨RX7, "snake", "(Z)I"⟩
abbrev cX7_adopt : ByteArray := prog_9_method_30_code
def yX7_adopt : MethodName := ⟨RX7, "adopt", "()I"⟩
abbrev cX7_propose : ByteArray := prog_9_method_31_code
def yX7_propose : MethodName := ⟨RX7, "propose", "()I"⟩
abbrev cX7_freezePart : ByteArray := prog_9_method_32_code
def yX7_freezePart : MethodName := ⟨RX7, "freezePart", "(II)V"⟩
abbrev cX7_freeze : ByteArray := prog_9_method_33_code
def yX7_freeze : MethodName := ⟨RX7, "freeze", "(I)I"⟩
abbrev cX7_type : ByteArray := prog_9_method_34_code
def yX7_type : MethodName := ⟨RX7, "type", "(C)I"⟩
abbrev cX7_clearText : ByteArray := prog_9_method_35_code
def yX7_clearText : MethodName := ⟨RX7, "clearText", "()I"⟩
abbrev cX7_sees : ByteArray := prog_9_method_36_code
def yX7_sees : MethodName := ⟨RX7, "sees", "(II)Z"⟩
abbrev cX7_readPairs : ByteArray := prog_9_method_37_code
def yX7_readPairs : MethodName := ⟨RX7, "readPairs", "()I"⟩
abbrev cX7_readVotes : ByteArray := prog_9_method_38_code
def yX7_readVotes : MethodName := ⟨RX7, "readVotes", "(I)I"⟩
abbrev cX7_alikeBeside : ByteArray := prog_9_method_39_code
def yX7_alikeBeside : MethodName := ⟨RX7, "alikeBeside", "(I)I"⟩
abbrev cX7_orNone : ByteArray := prog_9_method_40_code
def yX7_orNone : MethodName := ⟨RX7, "orNone", "(I)I"⟩
abbrev cX7_cell : ByteArray := prog_9_method_41_code
def yX7_cell : MethodName := ⟨RX7, "cell", "(II)I"⟩
abbrev cX7_part : ByteArray := prog_9_method_42_code
def yX7_part : MethodName := ⟨RX7, "part", "(II)I"⟩
abbrev cX7_wasted : ByteArray := prog_9_method_43_code
def yX7_wasted : MethodName := ⟨RX7, "wasted", "(II)I"⟩
abbrev cX7_district : ByteArray := prog_9_method_44_code
def yX7_district : MethodName := ⟨RX7, "district", "(II)I"⟩
abbrev cX7_why : ByteArray := prog_9_method_45_code
def yX7_why : MethodName := ⟨RX7, "why", "(I)I"⟩
abbrev cX7_advice : ByteArray := prog_9_method_46_code
def yX7_advice : MethodName := ⟨RX7, "advice", "()I"⟩
abbrev cX7_seats : ByteArray := prog_9_method_47_code
def yX7_seats : MethodName := ⟨RX7, "seats", "(I)I"⟩
abbrev cX7_votesOnMap : ByteArray := prog_9_method_48_code
def yX7_votesOnMap : MethodName := ⟨RX7, "votesOnMap", "(I)I"⟩
abbrev cX7_party : ByteArray := prog_9_method_49_code
def yX7_party : MethodName := ⟨RX7, "party", "(II)I"⟩
abbrev cX7_fairness : ByteArray := prog_9_method_50_code
def yX7_fairness : MethodName := ⟨RX7, "fairness", "()I"⟩
abbrev cX7_allBorders : ByteArray := prog_9_method_51_code
def yX7_allBorders : MethodName := ⟨RX7, "allBorders", "()I"⟩
abbrev cX7_withoutPart : ByteArray := prog_9_method_52_code
def yX7_withoutPart : MethodName := ⟨RX7, "withoutPart", "()I"⟩
abbrev cX7_count : ByteArray := prog_9_method_53_code
def yX7_count : MethodName := ⟨RX7, "count", "(I)I"⟩
def RJ9 : String := "java/lang/Math"
def TJ9 : u_T := fun k => match k with
  | _ => ("", "", "", false)
def tyJ9 : Nat → FieldType := fun k => match k with
  | _ => .int
abbrev wsJ90 : List Cond := u_ws RJ9 TJ9 0
theorem nmJ9 : ∀ a, a < 0 → ∀ b, b < 0 → a ≠ b → (TJ9 a).2.1 ≠ (TJ9 b).2.1 := by decide +kernel
theorem tyJ9_ok : ∀ k, k < 0 → parseFieldDescriptor (TJ9 k).2.2.1 = some (tyJ9 k) := by decide +kernel
abbrev cJ9_floorMod_7cf53 : ByteArray := prog_10_method_50_code
def yJ9_floorMod_7cf53 : MethodName := ⟨RJ9, "floorMod", "(II)I"⟩
def RL : String := "FrozenDistrictsLaw"
abbrev cL_law : ByteArray := code
def yL_law : MethodName := ⟨RL, "law", "([I)Z"⟩
-- ===== the good words of the tables =====
def TB : List Cond := lw_tbl.filter goodWord
theorem qm {w : Cond} (i : Nat) (h : lw_tbl[i]? = some w) (g : goodWord w = true) : w ∈ TB := List.mem_filter.mpr ⟨List.mem_of_getElem? h, g⟩
theorem TB_sub : ∀ w ∈ TB, w ∈ lw_tbl := fun _ h => (List.mem_filter.mp h).1
theorem TB_good : ∀ w ∈ TB, goodWord w = true := fun _ h => (List.mem_filter.mp h).2
theorem gTB {w : Cond} (h : w ∈ TB) : GoodIn TB (w :: TB) := fun v hv => (List.mem_cons.mp hv).elim (fun e => by subst e; exact ⟨h, good_of_word (TB_good _ h)⟩) (fun h => ⟨h, good_of_word (TB_good _ h)⟩)
theorem tb_of {ws : List Cond} (a : ws.all (fun w => decide (w ∈ lw_tbl) && goodWord w) = true) : ∀ w ∈ ws, w ∈ TB := fun w h => by
  have h1 := List.all_eq_true.mp a w h
  simp only [Bool.and_eq_true, decide_eq_true_eq] at h1
  exact List.mem_filter.mpr h1
theorem q_s0 : Cond.selects RX1 yX1_slotAt yX1_slotAt ∈ TB := qm 0 (by decide +kernel) rfl
theorem q_s1 : Cond.selects RX6 yX6_oneIfCut yX6_oneIfCut ∈ TB := qm 1 (by decide +kernel) rfl
theorem q_s2 : Cond.selects RX2 yX2_notConnected yX2_notConnected ∈ TB := qm 2 (by decide +kernel) rfl
theorem q_s3 : Cond.selects RX2 yX2_reachFrom yX2_reachFrom ∈ TB := qm 3 (by decide +kernel) rfl
theorem q_s4 : Cond.selects RX6 yX6_planSnake yX6_planSnake ∈ TB := qm 4 (by decide +kernel) rfl
theorem q_s5 : Cond.selects RX4 yX4_makeDistrict yX4_makeDistrict ∈ TB := qm 5 (by decide +kernel) rfl
theorem q_s6 : Cond.selects RX4 yX4_leaveRest yX4_leaveRest ∈ TB := qm 6 (by decide +kernel) rfl
theorem q_s7 : Cond.selects RX5 yX5_isAllowed yX5_isAllowed ∈ TB := qm 7 (by decide +kernel) rfl
theorem q_s8 : Cond.selects RX5 yX5_at yX5_at ∈ TB := qm 8 (by decide +kernel) rfl
theorem q_s9 : Cond.selects RX6 yX6_tellArea yX6_tellArea ∈ TB := qm 9 (by decide +kernel) rfl
theorem q_s10 : Cond.selects RX7 yX7_clear yX7_clear ∈ TB := qm 10 (by decide +kernel) rfl
theorem q_s11 : Cond.selects RX7 yX7_record yX7_record ∈ TB := qm 11 (by decide +kernel) rfl
theorem q_s12 : Cond.selects RX7 yX7_size yX7_size ∈ TB := qm 12 (by decide +kernel) rfl
theorem q_s13 : Cond.selects RX7 yX7_isOpen yX7_isOpen ∈ TB := qm 13 (by decide +kernel) rfl
theorem q_s14 : Cond.selects RX7 yX7_noDraft yX7_noDraft ∈ TB := qm 14 (by decide +kernel) rfl
theorem q_s15 : Cond.selects RX7 yX7_left yX7_left ∈ TB := qm 15 (by decide +kernel) rfl
theorem q_s16 : Cond.selects RX7 yX7_reason yX7_reason ∈ TB := qm 16 (by decide +kernel) rfl
theorem q_s17 : Cond.selects RX7 yX7_cells yX7_cells ∈ TB := qm 17 (by decide +kernel) rfl
theorem q_s18 : Cond.selects RX7 yX7_pieces yX7_pieces ∈ TB := qm 18 (by decide +kernel) rfl
theorem q_s19 : Cond.selects RX7 yX7_spread yX7_spread ∈ TB := qm 19 (by decide +kernel) rfl
theorem q_s20 : Cond.selects RX7 yX7_take yX7_take ∈ TB := qm 20 (by decide +kernel) rfl
theorem q_s21 : Cond.selects RX7 yX7_freezePart yX7_freezePart ∈ TB := qm 21 (by decide +kernel) rfl
theorem q_s22 : Cond.selects RX7 yX7_readPairs yX7_readPairs ∈ TB := qm 22 (by decide +kernel) rfl
theorem q_s23 : Cond.selects RX7 yX7_sees yX7_sees ∈ TB := qm 23 (by decide +kernel) rfl
theorem q_s24 : Cond.selects RX7 yX7_alikeBeside yX7_alikeBeside ∈ TB := qm 24 (by decide +kernel) rfl
theorem q_s25 : Cond.selects RX7 yX7_borders yX7_borders ∈ TB := qm 25 (by decide +kernel) rfl
theorem q_s26 : Cond.selects RX7 yX7_margin yX7_margin ∈ TB := qm 26 (by decide +kernel) rfl
theorem q_s27 : Cond.selects RX7 yX7_votes yX7_votes ∈ TB := qm 27 (by decide +kernel) rfl
theorem q_s28 : Cond.selects RX7 yX7_winner yX7_winner ∈ TB := qm 28 (by decide +kernel) rfl
theorem q_s29 : Cond.selects RX7 yX7_lowest yX7_lowest ∈ TB := qm 29 (by decide +kernel) rfl
theorem q_s30 : Cond.selects RX7 yX7_wasted yX7_wasted ∈ TB := qm 30 (by decide +kernel) rfl
theorem q_s31 : Cond.selects RX7 yX7_seats yX7_seats ∈ TB := qm 31 (by decide +kernel) rfl
theorem q_s32 : Cond.selects RX7 yX7_votesOnMap yX7_votesOnMap ∈ TB := qm 32 (by decide +kernel) rfl
theorem q_s33 : Cond.selects RX7 yX7_withoutPart yX7_withoutPart ∈ TB := qm 33 (by decide +kernel) rfl
theorem q_s34 : Cond.selects RX7 yX7_allBorders yX7_allBorders ∈ TB := qm 34 (by decide +kernel) rfl
theorem q_0 : Cond.initialized RL ∈ TB := qm 35 (by decide +kernel) rfl
theorem q_1 : Cond.initialized RX6 ∈ TB := qm 36 (by decide +kernel) rfl
theorem q_2 : Cond.initialized RX4 ∈ TB := qm 37 (by decide +kernel) rfl
theorem q_3 : Cond.initialized RX3 ∈ TB := qm 38 (by decide +kernel) rfl
theorem q_4 : Cond.initialized RX1 ∈ TB := qm 39 (by decide +kernel) rfl
theorem q_5 : Cond.initialized RX5 ∈ TB := qm 40 (by decide +kernel) rfl
theorem q_6 : Cond.initialized RX2 ∈ TB := qm 41 (by decide +kernel) rfl
theorem q_7 : Cond.initialized RX7 ∈ TB := qm 42 (by decide +kernel) rfl
theorem q_8 : Cond.initialized RJ9 ∈ TB := qm 43 (by decide +kernel) rfl
theorem q_9 : Cond.initialized RX0 ∈ TB := qm 44 (by decide +kernel) rfl
theorem q_10 : Cond.classLink RL 7 RX6 ∈ TB := qm 45 (by decide +kernel) rfl
theorem q_11 : Cond.instantiable RX6 7 ∈ TB := qm 46 (by decide +kernel) rfl
theorem q_12 : Cond.methodLink RL 9 yX6_init ∈ TB := qm 47 (by decide +kernel) rfl
theorem q_13 : Cond.instanceMethod yX6_init ∈ TB := qm 48 (by decide +kernel) rfl
set_option maxRecDepth 100000 in
theorem q_14 : Cond.code yX6_init cX6_init 1 none ∈ TB := qm 49 rfl rfl
theorem q_15 : Cond.methodLink RX6 1 objectInit ∈ TB := qm 50 (by decide +kernel) rfl
theorem q_16 : Cond.instanceMethod objectInit ∈ TB := qm 51 (by decide +kernel) rfl
set_option maxRecDepth 100000 in
theorem q_17 : Cond.code objectInit ⟨#[0xb1]⟩ 1 none ∈ TB := qm 52 rfl rfl
theorem q_18 : Cond.classLink RX6 7 RX4 ∈ TB := qm 53 (by decide +kernel) rfl
theorem q_19 : Cond.instantiable RX4 11 ∈ TB := qm 54 (by decide +kernel) rfl
theorem qn_20 : Cond.methodLinkNest RX6 9 yX4_init RX6 ∈ lw_tbl := List.mem_of_getElem? (i := 55) (by decide +kernel)
theorem q_21 : Cond.instanceMethod yX4_init ∈ TB := qm 56 (by decide +kernel) rfl
set_option maxRecDepth 100000 in
theorem q_22 : Cond.code yX4_init cX4_init 1 none ∈ TB := qm 57 rfl rfl
theorem q_23 : Cond.methodLink RX4 3 objectInit ∈ TB := qm 58 (by decide +kernel) rfl
theorem q_24 : Cond.classLink RX4 9 RX3 ∈ TB := qm 59 (by decide +kernel) rfl
theorem q_25 : Cond.instantiable RX3 1 ∈ TB := qm 60 (by decide +kernel) rfl
theorem q_26 : Cond.methodLink RX4 11 yX3_init ∈ TB := qm 61 (by decide +kernel) rfl
theorem q_27 : Cond.instanceMethod yX3_init ∈ TB := qm 62 (by decide +kernel) rfl
set_option maxRecDepth 100000 in
theorem q_28 : Cond.code yX3_init cX3_init 4 none ∈ TB := qm 63 rfl rfl
theorem q_29 : Cond.methodLink RX3 3 objectInit ∈ TB := qm 64 (by decide +kernel) rfl
theorem q_30 : Cond.fieldLink RX3 9 "FrozenDistricts$Row" "numbers" "[I" ∈ TB := qm 65 (by decide +kernel) rfl
theorem q_34 : Cond.arrayClass .int ∈ TB := qm 69 (by decide +kernel) rfl
theorem q_35 : Cond.fieldLink RX4 14 "FrozenDistricts$State" "first" "LFrozenDistricts$Row;" ∈ TB := qm 70 (by decide +kernel) rfl
theorem q_36 : Cond.fieldLink RX6 61 "FrozenDistricts$State" "first" "LFrozenDistricts$Row;" ∈ TB := qm 71 (by decide +kernel) rfl
theorem q_37 : Cond.fieldLink RX4 20 "FrozenDistricts$State" "second" "LFrozenDistricts$Row;" ∈ TB := qm 72 (by decide +kernel) rfl
theorem q_38 : Cond.fieldLink RX6 68 "FrozenDistricts$State" "second" "LFrozenDistricts$Row;" ∈ TB := qm 73 (by decide +kernel) rfl
theorem q_39 : Cond.fieldLink RX4 23 "FrozenDistricts$State" "parts" "LFrozenDistricts$Row;" ∈ TB := qm 74 (by decide +kernel) rfl
theorem q_40 : Cond.fieldLink RX6 105 "FrozenDistricts$State" "parts" "LFrozenDistricts$Row;" ∈ TB := qm 75 (by decide +kernel) rfl
theorem q_41 : Cond.fieldLink RX2 63 "FrozenDistricts$State" "parts" "LFrozenDistricts$Row;" ∈ TB := qm 76 (by decide +kernel) rfl
theorem q_42 : Cond.fieldLink RX4 26 "FrozenDistricts$State" "districts" "LFrozenDistricts$Row;" ∈ TB := qm 77 (by decide +kernel) rfl
theorem q_43 : Cond.fieldLink RX6 168 "FrozenDistricts$State" "districts" "LFrozenDistricts$Row;" ∈ TB := qm 78 (by decide +kernel) rfl
theorem q_44 : Cond.fieldLink RX4 29 "FrozenDistricts$State" "rest" "LFrozenDistricts$Row;" ∈ TB := qm 79 (by decide +kernel) rfl
theorem q_45 : Cond.fieldLink RX6 126 "FrozenDistricts$State" "rest" "LFrozenDistricts$Row;" ∈ TB := qm 80 (by decide +kernel) rfl
theorem q_46 : Cond.fieldLink RX4 32 "FrozenDistricts$State" "frozenBy" "LFrozenDistricts$Row;" ∈ TB := qm 81 (by decide +kernel) rfl
theorem q_47 : Cond.fieldLink RX6 184 "FrozenDistricts$State" "frozenBy" "LFrozenDistricts$Row;" ∈ TB := qm 82 (by decide +kernel) rfl
theorem q_48 : Cond.fieldLink RX4 35 "FrozenDistricts$State" "targets" "LFrozenDistricts$Row;" ∈ TB := qm 83 (by decide +kernel) rfl
theorem q_49 : Cond.fieldLink RX6 92 "FrozenDistricts$State" "targets" "LFrozenDistricts$Row;" ∈ TB := qm 84 (by decide +kernel) rfl
theorem q_50 : Cond.fieldLink RX4 38 "FrozenDistricts$State" "wanted" "I" ∈ TB := qm 85 (by decide +kernel) rfl
theorem q_51 : Cond.fieldLink RX6 219 "FrozenDistricts$State" "wanted" "I" ∈ TB := qm 86 (by decide +kernel) rfl
theorem q_52 : Cond.fieldLink RX4 42 "FrozenDistricts$State" "frozen" "I" ∈ TB := qm 87 (by decide +kernel) rfl
theorem q_53 : Cond.fieldLink RX6 123 "FrozenDistricts$State" "frozen" "I" ∈ TB := qm 88 (by decide +kernel) rfl
theorem q_54 : Cond.fieldLink RX4 45 "FrozenDistricts$State" "cutter" "I" ∈ TB := qm 89 (by decide +kernel) rfl
theorem q_55 : Cond.fieldLink RX4 48 "FrozenDistricts$State" "stage" "I" ∈ TB := qm 90 (by decide +kernel) rfl
theorem q_56 : Cond.fieldLink RX6 95 "FrozenDistricts$State" "stage" "I" ∈ TB := qm 91 (by decide +kernel) rfl
theorem q_80 : Cond.classLink RX6 16 RX1 ∈ TB := qm 115 (by decide +kernel) rfl
theorem q_81 : Cond.instantiable RX1 3 ∈ TB := qm 116 (by decide +kernel) rfl
theorem q_82 : Cond.methodLink RX6 18 yX1_init ∈ TB := qm 117 (by decide +kernel) rfl
theorem q_83 : Cond.instanceMethod yX1_init ∈ TB := qm 118 (by decide +kernel) rfl
set_option maxRecDepth 100000 in
theorem q_84 : Cond.code yX1_init cX1_init 2 none ∈ TB := qm 119 rfl rfl
theorem q_85 : Cond.methodLink RX1 3 objectInit ∈ TB := qm 120 (by decide +kernel) rfl
theorem q_86 : Cond.classLink RX1 9 RX4 ∈ TB := qm 121 (by decide +kernel) rfl
theorem qn_87 : Cond.arrayOver (.object RX4) ∈ lw_tbl := List.mem_of_getElem? (i := 122) (by decide +kernel)
theorem qn_88 : Cond.methodLinkNest RX1 24 yX4_init RX6 ∈ lw_tbl := List.mem_of_getElem? (i := 123) (by decide +kernel)
theorem q_89 : Cond.fieldLink RX1 11 "FrozenDistricts$History" "slots" "[LFrozenDistricts$State;" ∈ TB := qm 124 (by decide +kernel) rfl
theorem q_90 : Cond.fieldLink RX1 17 "FrozenDistricts$History" "oldest" "I" ∈ TB := qm 125 (by decide +kernel) rfl
theorem q_91 : Cond.fieldLink RX1 21 "FrozenDistricts$History" "size" "I" ∈ TB := qm 126 (by decide +kernel) rfl
theorem q_99 : Cond.classLink RX6 30 RX5 ∈ TB := qm 134 (by decide +kernel) rfl
theorem q_100 : Cond.instantiable RX5 2 ∈ TB := qm 135 (by decide +kernel) rfl
theorem qn_101 : Cond.methodLinkNest RX6 32 yX5_init RX6 ∈ lw_tbl := List.mem_of_getElem? (i := 136) (by decide +kernel)
theorem q_102 : Cond.instanceMethod yX5_init ∈ TB := qm 137 (by decide +kernel) rfl
set_option maxRecDepth 100000 in
theorem q_103 : Cond.code yX5_init cX5_init 1 none ∈ TB := qm 138 rfl rfl
theorem q_104 : Cond.methodLink RX5 3 objectInit ∈ TB := qm 139 (by decide +kernel) rfl
theorem q_105 : Cond.fieldLink RX5 9 "FrozenDistricts$VoteText" "characters" "[C" ∈ TB := qm 140 (by decide +kernel) rfl
theorem q_106 : Cond.fieldLink RX5 15 "FrozenDistricts$VoteText" "length" "I" ∈ TB := qm 141 (by decide +kernel) rfl
theorem q_112 : Cond.arrayClass .char ∈ TB := qm 147 (by decide +kernel) rfl
theorem q_113 : Cond.classLink RX6 37 RX2 ∈ TB := qm 148 (by decide +kernel) rfl
theorem q_114 : Cond.instantiable RX2 2 ∈ TB := qm 149 (by decide +kernel) rfl
theorem qn_115 : Cond.methodLinkNest RX6 39 yX2_init RX6 ∈ lw_tbl := List.mem_of_getElem? (i := 150) (by decide +kernel)
theorem q_116 : Cond.instanceMethod yX2_init ∈ TB := qm 151 (by decide +kernel) rfl
set_option maxRecDepth 100000 in
theorem q_117 : Cond.code yX2_init cX2_init 1 none ∈ TB := qm 152 rfl rfl
theorem q_118 : Cond.methodLink RX2 3 objectInit ∈ TB := qm 153 (by decide +kernel) rfl
theorem q_119 : Cond.classLink RX2 9 RX3 ∈ TB := qm 154 (by decide +kernel) rfl
theorem q_120 : Cond.methodLink RX2 11 yX3_init ∈ TB := qm 155 (by decide +kernel) rfl
theorem q_121 : Cond.fieldLink RX2 14 "FrozenDistricts$Judge" "reached" "LFrozenDistricts$Row;" ∈ TB := qm 156 (by decide +kernel) rfl
theorem q_122 : Cond.fieldLink RX2 20 "FrozenDistricts$Judge" "queue" "LFrozenDistricts$Row;" ∈ TB := qm 157 (by decide +kernel) rfl
theorem q_128 : Cond.classLink RX6 44 RX3 ∈ TB := qm 163 (by decide +kernel) rfl
theorem q_129 : Cond.methodLink RX6 46 yX3_init ∈ TB := qm 164 (by decide +kernel) rfl
theorem q_130 : Cond.fieldLink RX6 10 "FrozenDistricts" "now" "LFrozenDistricts$State;" ∈ TB := qm 165 (by decide +kernel) rfl
theorem q_131 : Cond.fieldLink RX6 19 "FrozenDistricts" "history" "LFrozenDistricts$History;" ∈ TB := qm 166 (by decide +kernel) rfl
theorem q_132 : Cond.fieldLink RX6 23 "FrozenDistricts" "snapshot" "LFrozenDistricts$State;" ∈ TB := qm 167 (by decide +kernel) rfl
theorem q_133 : Cond.fieldLink RX6 26 "FrozenDistricts" "hasSnapshot" "Z" ∈ TB := qm 168 (by decide +kernel) rfl
theorem q_134 : Cond.fieldLink RX6 33 "FrozenDistricts" "text" "LFrozenDistricts$VoteText;" ∈ TB := qm 169 (by decide +kernel) rfl
theorem q_135 : Cond.fieldLink RX6 40 "FrozenDistricts" "judge" "LFrozenDistricts$Judge;" ∈ TB := qm 170 (by decide +kernel) rfl
theorem q_136 : Cond.fieldLink RX6 49 "FrozenDistricts" "planned" "LFrozenDistricts$Row;" ∈ TB := qm 171 (by decide +kernel) rfl
theorem q_152 : Cond.methodLink RL 13 yX6_setVotes ∈ TB := qm 187 (by decide +kernel) rfl
theorem q_153 : Cond.instanceMethod yX6_setVotes ∈ TB := qm 188 (by decide +kernel) rfl
theorem q_154 : Cond.selects RX6 yX6_setVotes yX6_setVotes ∈ TB := qm 189 (by decide +kernel) rfl
set_option maxRecDepth 100000 in
theorem q_155 : Cond.code yX6_setVotes cX6_setVotes 6 (some .int) ∈ TB := qm 190 rfl rfl
theorem q_156 : Cond.methodLink RX6 53 yX6_isCell ∈ TB := qm 191 (by decide +kernel) rfl
theorem q_157 : Cond.static yX6_isCell ∈ TB := qm 192 (by decide +kernel) rfl
set_option maxRecDepth 100000 in
theorem q_158 : Cond.code yX6_isCell cX6_isCell 1 (some .boolean) ∈ TB := qm 193 rfl rfl
theorem q_159 : Cond.methodLink RX6 57 yX6_isFromTo ∈ TB := qm 194 (by decide +kernel) rfl
theorem q_160 : Cond.static yX6_isFromTo ∈ TB := qm 195 (by decide +kernel) rfl
set_option maxRecDepth 100000 in
theorem q_161 : Cond.code yX6_isFromTo cX6_isFromTo 3 (some .boolean) ∈ TB := qm 196 rfl rfl
theorem q_162 : Cond.methodLink RX6 64 yX3_at ∈ TB := qm 197 (by decide +kernel) rfl
theorem q_163 : Cond.instanceMethod yX3_at ∈ TB := qm 198 (by decide +kernel) rfl
theorem q_164 : Cond.selects RX3 yX3_at yX3_at ∈ TB := qm 199 (by decide +kernel) rfl
set_option maxRecDepth 100000 in
theorem q_165 : Cond.code yX3_at cX3_at 2 (some .int) ∈ TB := qm 200 rfl rfl
theorem q_166 : Cond.methodLink RX6 71 yX1_record ∈ TB := qm 201 (by decide +kernel) rfl
theorem q_167 : Cond.instanceMethod yX1_record ∈ TB := qm 202 (by decide +kernel) rfl
theorem q_168 : Cond.selects RX1 yX1_record yX1_record ∈ TB := qm 203 (by decide +kernel) rfl
set_option maxRecDepth 100000 in
theorem q_169 : Cond.code yX1_record cX1_record 3 none ∈ TB := qm 204 rfl rfl
theorem q_170 : Cond.methodLink RX1 25 yX1_slotAt ∈ TB := qm 205 (by decide +kernel) rfl
theorem q_172 : Cond.instanceMethod yX1_slotAt ∈ TB := qm 207 (by decide +kernel) rfl
set_option maxRecDepth 100000 in
theorem q_173 : Cond.code yX1_slotAt cX1_slotAt 3 (some (.object "FrozenDistricts$State")) ∈ TB := qm 208 rfl rfl
theorem q_174 : Cond.methodLink RX1 33 yJ9_floorMod_7cf53 ∈ TB := qm 209 (by decide +kernel) rfl
theorem q_175 : Cond.static yJ9_floorMod_7cf53 ∈ TB := qm 210 (by decide +kernel) rfl
set_option maxRecDepth 100000 in
theorem q_176 : Cond.code yJ9_floorMod_7cf53 cJ9_floorMod_7cf53 3 (some .int) ∈ TB := qm 211 rfl rfl
theorem q_177 : Cond.methodLink RX1 29 yX4_copy ∈ TB := qm 212 (by decide +kernel) rfl
theorem q_178 : Cond.instanceMethod yX4_copy ∈ TB := qm 213 (by decide +kernel) rfl
theorem q_179 : Cond.selects RX4 yX4_copy yX4_copy ∈ TB := qm 214 (by decide +kernel) rfl
set_option maxRecDepth 100000 in
theorem q_180 : Cond.code yX4_copy cX4_copy 2 none ∈ TB := qm 215 rfl rfl
theorem q_181 : Cond.methodLink RX4 51 yX3_copy ∈ TB := qm 216 (by decide +kernel) rfl
theorem q_182 : Cond.instanceMethod yX3_copy ∈ TB := qm 217 (by decide +kernel) rfl
theorem q_183 : Cond.selects RX3 yX3_copy yX3_copy ∈ TB := qm 218 (by decide +kernel) rfl
set_option maxRecDepth 100000 in
theorem q_184 : Cond.code yX3_copy cX3_copy 3 none ∈ TB := qm 219 rfl rfl
theorem q_185 : Cond.methodLink RX3 15 yX3_at ∈ TB := qm 220 (by decide +kernel) rfl
theorem q_186 : Cond.methodLink RX6 75 yX3_put ∈ TB := qm 221 (by decide +kernel) rfl
theorem q_187 : Cond.instanceMethod yX3_put ∈ TB := qm 222 (by decide +kernel) rfl
theorem q_188 : Cond.selects RX3 yX3_put yX3_put ∈ TB := qm 223 (by decide +kernel) rfl
set_option maxRecDepth 100000 in
theorem q_189 : Cond.code yX3_put cX3_put 3 none ∈ TB := qm 224 rfl rfl
theorem q_190 : Cond.methodLink RL 18 yX6_begin ∈ TB := qm 225 (by decide +kernel) rfl
theorem q_191 : Cond.instanceMethod yX6_begin ∈ TB := qm 226 (by decide +kernel) rfl
theorem q_192 : Cond.selects RX6 yX6_begin yX6_begin ∈ TB := qm 227 (by decide +kernel) rfl
set_option maxRecDepth 100000 in
theorem q_193 : Cond.code yX6_begin cX6_begin 2 (some .int) ∈ TB := qm 228 rfl rfl
theorem q_194 : Cond.methodLink RX6 78 yX6_dividesTheMap ∈ TB := qm 229 (by decide +kernel) rfl
theorem q_195 : Cond.static yX6_dividesTheMap ∈ TB := qm 230 (by decide +kernel) rfl
set_option maxRecDepth 100000 in
theorem q_196 : Cond.code yX6_dividesTheMap cX6_dividesTheMap 1 (some .boolean) ∈ TB := qm 231 rfl rfl
theorem q_197 : Cond.methodLink RX6 81 yX4_startAnew ∈ TB := qm 232 (by decide +kernel) rfl
theorem q_198 : Cond.instanceMethod yX4_startAnew ∈ TB := qm 233 (by decide +kernel) rfl
theorem q_199 : Cond.selects RX4 yX4_startAnew yX4_startAnew ∈ TB := qm 234 (by decide +kernel) rfl
set_option maxRecDepth 100000 in
theorem q_200 : Cond.code yX4_startAnew cX4_startAnew 2 none ∈ TB := qm 235 rfl rfl
theorem q_201 : Cond.methodLink RX4 55 yX3_fill ∈ TB := qm 236 (by decide +kernel) rfl
theorem q_202 : Cond.instanceMethod yX3_fill ∈ TB := qm 237 (by decide +kernel) rfl
theorem q_203 : Cond.selects RX3 yX3_fill yX3_fill ∈ TB := qm 238 (by decide +kernel) rfl
set_option maxRecDepth 100000 in
theorem q_204 : Cond.code yX3_fill cX3_fill 3 none ∈ TB := qm 239 rfl rfl
theorem q_205 : Cond.methodLink RX6 85 yX4_size ∈ TB := qm 240 (by decide +kernel) rfl
theorem q_206 : Cond.instanceMethod yX4_size ∈ TB := qm 241 (by decide +kernel) rfl
theorem q_207 : Cond.selects RX4 yX4_size yX4_size ∈ TB := qm 242 (by decide +kernel) rfl
set_option maxRecDepth 100000 in
theorem q_208 : Cond.code yX4_size cX4_size 1 (some .int) ∈ TB := qm 243 rfl rfl
theorem q_209 : Cond.methodLink RL 23 yX6_setTarget ∈ TB := qm 244 (by decide +kernel) rfl
theorem q_210 : Cond.instanceMethod yX6_setTarget ∈ TB := qm 245 (by decide +kernel) rfl
theorem q_211 : Cond.selects RX6 yX6_setTarget yX6_setTarget ∈ TB := qm 246 (by decide +kernel) rfl
set_option maxRecDepth 100000 in
theorem q_212 : Cond.code yX6_setTarget cX6_setTarget 4 (some .int) ∈ TB := qm 247 rfl rfl
theorem q_213 : Cond.methodLink RX6 89 yX6_isParty ∈ TB := qm 248 (by decide +kernel) rfl
theorem q_214 : Cond.static yX6_isParty ∈ TB := qm 249 (by decide +kernel) rfl
set_option maxRecDepth 100000 in
theorem q_215 : Cond.code yX6_isParty cX6_isParty 1 (some .boolean) ∈ TB := qm 250 rfl rfl
theorem q_216 : Cond.methodLink RL 28 yX6_draft ∈ TB := qm 251 (by decide +kernel) rfl
theorem q_217 : Cond.instanceMethod yX6_draft ∈ TB := qm 252 (by decide +kernel) rfl
theorem q_218 : Cond.selects RX6 yX6_draft yX6_draft ∈ TB := qm 253 (by decide +kernel) rfl
set_option maxRecDepth 100000 in
theorem q_219 : Cond.code yX6_draft cX6_draft 4 (some .int) ∈ TB := qm 254 rfl rfl
theorem q_220 : Cond.methodLink RX6 99 yX4_isOpen ∈ TB := qm 255 (by decide +kernel) rfl
theorem q_221 : Cond.instanceMethod yX4_isOpen ∈ TB := qm 256 (by decide +kernel) rfl
theorem q_222 : Cond.selects RX4 yX4_isOpen yX4_isOpen ∈ TB := qm 257 (by decide +kernel) rfl
set_option maxRecDepth 100000 in
theorem q_223 : Cond.code yX4_isOpen cX4_isOpen 2 (some .boolean) ∈ TB := qm 258 rfl rfl
theorem q_224 : Cond.methodLink RX4 59 yX3_at ∈ TB := qm 259 (by decide +kernel) rfl
theorem q_225 : Cond.methodLink RX6 102 yX4_isPart ∈ TB := qm 260 (by decide +kernel) rfl
theorem q_226 : Cond.instanceMethod yX4_isPart ∈ TB := qm 261 (by decide +kernel) rfl
theorem q_227 : Cond.selects RX4 yX4_isPart yX4_isPart ∈ TB := qm 262 (by decide +kernel) rfl
set_option maxRecDepth 100000 in
theorem q_228 : Cond.code yX4_isPart cX4_isPart 2 (some .boolean) ∈ TB := qm 263 rfl rfl
theorem q_229 : Cond.methodLink RX4 63 yX4_left ∈ TB := qm 264 (by decide +kernel) rfl
theorem q_230 : Cond.instanceMethod yX4_left ∈ TB := qm 265 (by decide +kernel) rfl
theorem q_231 : Cond.selects RX4 yX4_left yX4_left ∈ TB := qm 266 (by decide +kernel) rfl
set_option maxRecDepth 100000 in
theorem q_232 : Cond.code yX4_left cX4_left 1 (some .int) ∈ TB := qm 267 rfl rfl
theorem q_233 : Cond.methodLink RL 32 yX6_trade ∈ TB := qm 268 (by decide +kernel) rfl
theorem q_234 : Cond.instanceMethod yX6_trade ∈ TB := qm 269 (by decide +kernel) rfl
theorem q_235 : Cond.selects RX6 yX6_trade yX6_trade ∈ TB := qm 270 (by decide +kernel) rfl
set_option maxRecDepth 100000 in
theorem q_236 : Cond.code yX6_trade cX6_trade 5 (some .int) ∈ TB := qm 271 rfl rfl
theorem q_237 : Cond.methodLink RX6 108 yX6_oneIfCut ∈ TB := qm 272 (by decide +kernel) rfl
theorem q_239 : Cond.instanceMethod yX6_oneIfCut ∈ TB := qm 274 (by decide +kernel) rfl
set_option maxRecDepth 100000 in
theorem q_240 : Cond.code yX6_oneIfCut cX6_oneIfCut 1 (some .int) ∈ TB := qm 275 rfl rfl
theorem q_241 : Cond.methodLink RX6 132 yX2_reason ∈ TB := qm 276 (by decide +kernel) rfl
theorem q_242 : Cond.instanceMethod yX2_reason ∈ TB := qm 277 (by decide +kernel) rfl
theorem q_243 : Cond.selects RX2 yX2_reason yX2_reason ∈ TB := qm 278 (by decide +kernel) rfl
set_option maxRecDepth 100000 in
theorem q_244 : Cond.code yX2_reason cX2_reason 2 (some .int) ∈ TB := qm 279 rfl rfl
theorem q_245 : Cond.methodLink RX2 23 yX2_withoutPart ∈ TB := qm 280 (by decide +kernel) rfl
theorem q_246 : Cond.static yX2_withoutPart ∈ TB := qm 281 (by decide +kernel) rfl
set_option maxRecDepth 100000 in
theorem q_247 : Cond.code yX2_withoutPart cX2_withoutPart 2 (some .int) ∈ TB := qm 282 rfl rfl
theorem q_248 : Cond.methodLink RX2 57 yX4_isOpen ∈ TB := qm 283 (by decide +kernel) rfl
theorem q_249 : Cond.methodLink RX2 40 yX3_at ∈ TB := qm 284 (by decide +kernel) rfl
theorem q_250 : Cond.methodLink RX2 27 yX2_ofOtherSize ∈ TB := qm 285 (by decide +kernel) rfl
theorem q_251 : Cond.static yX2_ofOtherSize ∈ TB := qm 286 (by decide +kernel) rfl
set_option maxRecDepth 100000 in
theorem q_252 : Cond.code yX2_ofOtherSize cX2_ofOtherSize 2 (some .int) ∈ TB := qm 287 rfl rfl
theorem q_253 : Cond.methodLink RX2 66 yX4_left ∈ TB := qm 288 (by decide +kernel) rfl
theorem q_254 : Cond.methodLink RX2 70 yX0_size ∈ TB := qm 289 (by decide +kernel) rfl
theorem q_255 : Cond.static yX0_size ∈ TB := qm 290 (by decide +kernel) rfl
set_option maxRecDepth 100000 in
theorem q_256 : Cond.code yX0_size cX0_size 4 (some .int) ∈ TB := qm 291 rfl rfl
theorem q_257 : Cond.methodLink RX0 9 yX3_at ∈ TB := qm 292 (by decide +kernel) rfl
theorem q_258 : Cond.methodLink RX2 74 yX4_size ∈ TB := qm 293 (by decide +kernel) rfl
theorem q_259 : Cond.methodLink RX2 30 yX2_notConnected ∈ TB := qm 294 (by decide +kernel) rfl
theorem q_261 : Cond.instanceMethod yX2_notConnected ∈ TB := qm 296 (by decide +kernel) rfl
set_option maxRecDepth 100000 in
theorem q_262 : Cond.code yX2_notConnected cX2_notConnected 3 (some .int) ∈ TB := qm 297 rfl rfl
theorem q_263 : Cond.methodLink RX2 76 yX2_pieces ∈ TB := qm 298 (by decide +kernel) rfl
theorem q_264 : Cond.instanceMethod yX2_pieces ∈ TB := qm 299 (by decide +kernel) rfl
theorem q_265 : Cond.selects RX2 yX2_pieces yX2_pieces ∈ TB := qm 300 (by decide +kernel) rfl
set_option maxRecDepth 100000 in
theorem q_266 : Cond.code yX2_pieces cX2_pieces 5 (some .int) ∈ TB := qm 301 rfl rfl
theorem q_267 : Cond.methodLink RX2 36 yX3_fill ∈ TB := qm 302 (by decide +kernel) rfl
theorem q_268 : Cond.methodLink RX2 44 yX2_reachFrom ∈ TB := qm 303 (by decide +kernel) rfl
theorem q_270 : Cond.instanceMethod yX2_reachFrom ∈ TB := qm 305 (by decide +kernel) rfl
set_option maxRecDepth 100000 in
theorem q_271 : Cond.code yX2_reachFrom cX2_reachFrom 9 none ∈ TB := qm 306 rfl rfl
theorem q_272 : Cond.methodLink RX2 48 yX3_put ∈ TB := qm 307 (by decide +kernel) rfl
theorem q_273 : Cond.methodLink RX2 51 yX0_behind ∈ TB := qm 308 (by decide +kernel) rfl
theorem q_274 : Cond.static yX0_behind ∈ TB := qm 309 (by decide +kernel) rfl
set_option maxRecDepth 100000 in
theorem q_275 : Cond.code yX0_behind cX0_behind 3 (some .int) ∈ TB := qm 310 rfl rfl
theorem q_276 : Cond.methodLink RL 36 yX6_snake ∈ TB := qm 311 (by decide +kernel) rfl
theorem q_277 : Cond.instanceMethod yX6_snake ∈ TB := qm 312 (by decide +kernel) rfl
theorem q_278 : Cond.selects RX6 yX6_snake yX6_snake ∈ TB := qm 313 (by decide +kernel) rfl
set_option maxRecDepth 100000 in
theorem q_279 : Cond.code yX6_snake cX6_snake 2 (some .int) ∈ TB := qm 314 rfl rfl
theorem q_280 : Cond.methodLink RX6 111 yX6_planSnake ∈ TB := qm 315 (by decide +kernel) rfl
theorem q_282 : Cond.instanceMethod yX6_planSnake ∈ TB := qm 317 (by decide +kernel) rfl
set_option maxRecDepth 100000 in
theorem q_283 : Cond.code yX6_planSnake cX6_planSnake 6 none ∈ TB := qm 318 rfl rfl
theorem q_284 : Cond.methodLink RX6 230 yX3_fill ∈ TB := qm 319 (by decide +kernel) rfl
theorem q_285 : Cond.methodLink RX6 233 yX6_cellOfSnake ∈ TB := qm 320 (by decide +kernel) rfl
theorem q_286 : Cond.static yX6_cellOfSnake ∈ TB := qm 321 (by decide +kernel) rfl
set_option maxRecDepth 100000 in
theorem q_287 : Cond.code yX6_cellOfSnake cX6_cellOfSnake 4 (some .int) ∈ TB := qm 322 rfl rfl
theorem q_288 : Cond.methodLink RX6 115 yX3_isLike ∈ TB := qm 323 (by decide +kernel) rfl
theorem q_289 : Cond.instanceMethod yX3_isLike ∈ TB := qm 324 (by decide +kernel) rfl
theorem q_290 : Cond.selects RX3 yX3_isLike yX3_isLike ∈ TB := qm 325 (by decide +kernel) rfl
set_option maxRecDepth 100000 in
theorem q_291 : Cond.code yX3_isLike cX3_isLike 3 (some .boolean) ∈ TB := qm 326 rfl rfl
theorem q_292 : Cond.methodLink RX6 119 yX3_copy ∈ TB := qm 327 (by decide +kernel) rfl
theorem q_293 : Cond.methodLink RL 41 yX6_adopt ∈ TB := qm 328 (by decide +kernel) rfl
theorem q_294 : Cond.instanceMethod yX6_adopt ∈ TB := qm 329 (by decide +kernel) rfl
theorem q_295 : Cond.selects RX6 yX6_adopt yX6_adopt ∈ TB := qm 330 (by decide +kernel) rfl
set_option maxRecDepth 100000 in
theorem q_296 : Cond.code yX6_adopt cX6_adopt 1 (some .int) ∈ TB := qm 331 rfl rfl
theorem q_297 : Cond.methodLink RX6 129 yX4_left ∈ TB := qm 332 (by decide +kernel) rfl
theorem q_298 : Cond.methodLink RL 46 yX6_propose ∈ TB := qm 333 (by decide +kernel) rfl
theorem q_299 : Cond.instanceMethod yX6_propose ∈ TB := qm 334 (by decide +kernel) rfl
theorem q_300 : Cond.selects RX6 yX6_propose yX6_propose ∈ TB := qm 335 (by decide +kernel) rfl
set_option maxRecDepth 100000 in
theorem q_301 : Cond.code yX6_propose cX6_propose 2 (some .int) ∈ TB := qm 336 rfl rfl
theorem q_302 : Cond.methodLink RL 50 yX6_freeze ∈ TB := qm 337 (by decide +kernel) rfl
theorem q_303 : Cond.instanceMethod yX6_freeze ∈ TB := qm 338 (by decide +kernel) rfl
theorem q_304 : Cond.selects RX6 yX6_freeze yX6_freeze ∈ TB := qm 339 (by decide +kernel) rfl
set_option maxRecDepth 100000 in
theorem q_305 : Cond.code yX6_freeze cX6_freeze 2 (some .int) ∈ TB := qm 340 rfl rfl
theorem q_306 : Cond.methodLink RX6 136 yX4_takePart ∈ TB := qm 341 (by decide +kernel) rfl
theorem q_307 : Cond.instanceMethod yX4_takePart ∈ TB := qm 342 (by decide +kernel) rfl
theorem q_308 : Cond.selects RX4 yX4_takePart yX4_takePart ∈ TB := qm 343 (by decide +kernel) rfl
set_option maxRecDepth 100000 in
theorem q_309 : Cond.code yX4_takePart cX4_takePart 2 none ∈ TB := qm 344 rfl rfl
theorem q_310 : Cond.methodLink RX4 71 yX4_makeDistrict ∈ TB := qm 345 (by decide +kernel) rfl
theorem q_312 : Cond.instanceMethod yX4_makeDistrict ∈ TB := qm 347 (by decide +kernel) rfl
set_option maxRecDepth 100000 in
theorem q_313 : Cond.code yX4_makeDistrict cX4_makeDistrict 5 none ∈ TB := qm 348 rfl rfl
theorem q_314 : Cond.methodLink RX4 78 yX3_put ∈ TB := qm 349 (by decide +kernel) rfl
theorem q_315 : Cond.methodLink RX4 75 yX4_leaveRest ∈ TB := qm 350 (by decide +kernel) rfl
theorem q_317 : Cond.instanceMethod yX4_leaveRest ∈ TB := qm 352 (by decide +kernel) rfl
set_option maxRecDepth 100000 in
theorem q_318 : Cond.code yX4_leaveRest cX4_leaveRest 4 none ∈ TB := qm 353 rfl rfl
theorem q_319 : Cond.methodLink RL 54 yX6_type ∈ TB := qm 354 (by decide +kernel) rfl
theorem q_320 : Cond.instanceMethod yX6_type ∈ TB := qm 355 (by decide +kernel) rfl
theorem q_321 : Cond.selects RX6 yX6_type yX6_type ∈ TB := qm 356 (by decide +kernel) rfl
set_option maxRecDepth 100000 in
theorem q_322 : Cond.code yX6_type cX6_type 2 (some .int) ∈ TB := qm 357 rfl rfl
theorem q_323 : Cond.methodLink RX6 139 yX5_append ∈ TB := qm 358 (by decide +kernel) rfl
theorem q_324 : Cond.instanceMethod yX5_append ∈ TB := qm 359 (by decide +kernel) rfl
theorem q_325 : Cond.selects RX5 yX5_append yX5_append ∈ TB := qm 360 (by decide +kernel) rfl
set_option maxRecDepth 100000 in
theorem q_326 : Cond.code yX5_append cX5_append 2 (some .boolean) ∈ TB := qm 361 rfl rfl
theorem q_327 : Cond.methodLink RX6 143 yX5_length ∈ TB := qm 362 (by decide +kernel) rfl
theorem q_328 : Cond.instanceMethod yX5_length ∈ TB := qm 363 (by decide +kernel) rfl
theorem q_329 : Cond.selects RX5 yX5_length yX5_length ∈ TB := qm 364 (by decide +kernel) rfl
set_option maxRecDepth 100000 in
theorem q_330 : Cond.code yX5_length cX5_length 1 (some .int) ∈ TB := qm 365 rfl rfl
theorem q_331 : Cond.methodLink RL 59 yX6_clearText ∈ TB := qm 366 (by decide +kernel) rfl
theorem q_332 : Cond.instanceMethod yX6_clearText ∈ TB := qm 367 (by decide +kernel) rfl
theorem q_333 : Cond.selects RX6 yX6_clearText yX6_clearText ∈ TB := qm 368 (by decide +kernel) rfl
set_option maxRecDepth 100000 in
theorem q_334 : Cond.code yX6_clearText cX6_clearText 2 (some .int) ∈ TB := qm 369 rfl rfl
theorem q_335 : Cond.methodLink RX6 146 yX5_empty ∈ TB := qm 370 (by decide +kernel) rfl
theorem q_336 : Cond.instanceMethod yX5_empty ∈ TB := qm 371 (by decide +kernel) rfl
theorem q_337 : Cond.selects RX5 yX5_empty yX5_empty ∈ TB := qm 372 (by decide +kernel) rfl
set_option maxRecDepth 100000 in
theorem q_338 : Cond.code yX5_empty cX5_empty 1 none ∈ TB := qm 373 rfl rfl
theorem q_339 : Cond.methodLink RL 63 yX6_readVotes ∈ TB := qm 374 (by decide +kernel) rfl
theorem q_340 : Cond.instanceMethod yX6_readVotes ∈ TB := qm 375 (by decide +kernel) rfl
theorem q_341 : Cond.selects RX6 yX6_readVotes yX6_readVotes ∈ TB := qm 376 (by decide +kernel) rfl
set_option maxRecDepth 100000 in
theorem q_342 : Cond.code yX6_readVotes cX6_readVotes 5 (some .int) ∈ TB := qm 377 rfl rfl
theorem q_343 : Cond.methodLink RX6 149 yX5_fault ∈ TB := qm 378 (by decide +kernel) rfl
theorem q_344 : Cond.instanceMethod yX5_fault ∈ TB := qm 379 (by decide +kernel) rfl
theorem q_345 : Cond.selects RX5 yX5_fault yX5_fault ∈ TB := qm 380 (by decide +kernel) rfl
set_option maxRecDepth 100000 in
theorem q_346 : Cond.code yX5_fault cX5_fault 2 (some .int) ∈ TB := qm 381 rfl rfl
theorem q_347 : Cond.methodLink RX5 19 yX5_isAllowed ∈ TB := qm 382 (by decide +kernel) rfl
theorem q_349 : Cond.instanceMethod yX5_isAllowed ∈ TB := qm 384 (by decide +kernel) rfl
set_option maxRecDepth 100000 in
theorem q_350 : Cond.code yX5_isAllowed cX5_isAllowed 3 (some .boolean) ∈ TB := qm 385 rfl rfl
theorem q_351 : Cond.methodLink RX5 23 yX5_at ∈ TB := qm 386 (by decide +kernel) rfl
theorem q_353 : Cond.instanceMethod yX5_at ∈ TB := qm 388 (by decide +kernel) rfl
set_option maxRecDepth 100000 in
theorem q_354 : Cond.code yX5_at cX5_at 2 (some .char) ∈ TB := qm 389 rfl rfl
theorem q_355 : Cond.methodLink RX6 152 yX5_pairs ∈ TB := qm 390 (by decide +kernel) rfl
theorem q_356 : Cond.instanceMethod yX5_pairs ∈ TB := qm 391 (by decide +kernel) rfl
theorem q_357 : Cond.selects RX5 yX5_pairs yX5_pairs ∈ TB := qm 392 (by decide +kernel) rfl
set_option maxRecDepth 100000 in
theorem q_358 : Cond.code yX5_pairs cX5_pairs 1 (some .int) ∈ TB := qm 393 rfl rfl
theorem q_359 : Cond.methodLink RX6 155 yX5_votes ∈ TB := qm 394 (by decide +kernel) rfl
theorem q_360 : Cond.instanceMethod yX5_votes ∈ TB := qm 395 (by decide +kernel) rfl
theorem q_361 : Cond.selects RX5 yX5_votes yX5_votes ∈ TB := qm 396 (by decide +kernel) rfl
set_option maxRecDepth 100000 in
theorem q_362 : Cond.code yX5_votes cX5_votes 3 (some .int) ∈ TB := qm 397 rfl rfl
theorem q_363 : Cond.methodLink RL 67 yX6_undo ∈ TB := qm 398 (by decide +kernel) rfl
theorem q_364 : Cond.instanceMethod yX6_undo ∈ TB := qm 399 (by decide +kernel) rfl
theorem q_365 : Cond.selects RX6 yX6_undo yX6_undo ∈ TB := qm 400 (by decide +kernel) rfl
set_option maxRecDepth 100000 in
theorem q_366 : Cond.code yX6_undo cX6_undo 1 (some .int) ∈ TB := qm 401 rfl rfl
theorem q_367 : Cond.methodLink RX6 159 yX1_size ∈ TB := qm 402 (by decide +kernel) rfl
theorem q_368 : Cond.instanceMethod yX1_size ∈ TB := qm 403 (by decide +kernel) rfl
theorem q_369 : Cond.selects RX1 yX1_size yX1_size ∈ TB := qm 404 (by decide +kernel) rfl
set_option maxRecDepth 100000 in
theorem q_370 : Cond.code yX1_size cX1_size 1 (some .int) ∈ TB := qm 405 rfl rfl
theorem q_371 : Cond.methodLink RX6 160 yX1_takeLatest ∈ TB := qm 406 (by decide +kernel) rfl
theorem q_372 : Cond.instanceMethod yX1_takeLatest ∈ TB := qm 407 (by decide +kernel) rfl
theorem q_373 : Cond.selects RX1 yX1_takeLatest yX1_takeLatest ∈ TB := qm 408 (by decide +kernel) rfl
set_option maxRecDepth 100000 in
theorem q_374 : Cond.code yX1_takeLatest cX1_takeLatest 3 none ∈ TB := qm 409 rfl rfl
theorem q_375 : Cond.methodLink RL 71 yX6_keep ∈ TB := qm 410 (by decide +kernel) rfl
theorem q_376 : Cond.instanceMethod yX6_keep ∈ TB := qm 411 (by decide +kernel) rfl
theorem q_377 : Cond.selects RX6 yX6_keep yX6_keep ∈ TB := qm 412 (by decide +kernel) rfl
set_option maxRecDepth 100000 in
theorem q_378 : Cond.code yX6_keep cX6_keep 1 (some .int) ∈ TB := qm 413 rfl rfl
theorem q_379 : Cond.methodLink RX6 163 yX4_copy ∈ TB := qm 414 (by decide +kernel) rfl
theorem q_380 : Cond.methodLink RL 75 yX6_restore ∈ TB := qm 415 (by decide +kernel) rfl
theorem q_381 : Cond.instanceMethod yX6_restore ∈ TB := qm 416 (by decide +kernel) rfl
theorem q_382 : Cond.selects RX6 yX6_restore yX6_restore ∈ TB := qm 417 (by decide +kernel) rfl
set_option maxRecDepth 100000 in
theorem q_383 : Cond.code yX6_restore cX6_restore 1 (some .int) ∈ TB := qm 418 rfl rfl
theorem q_384 : Cond.methodLink RL 79 yX6_cell ∈ TB := qm 419 (by decide +kernel) rfl
theorem q_385 : Cond.instanceMethod yX6_cell ∈ TB := qm 420 (by decide +kernel) rfl
theorem q_386 : Cond.selects RX6 yX6_cell yX6_cell ∈ TB := qm 421 (by decide +kernel) rfl
set_option maxRecDepth 100000 in
theorem q_387 : Cond.code yX6_cell cX6_cell 3 (some .int) ∈ TB := qm 422 rfl rfl
theorem q_388 : Cond.methodLink RX6 165 yX6_noneIfNothing ∈ TB := qm 423 (by decide +kernel) rfl
theorem q_389 : Cond.static yX6_noneIfNothing ∈ TB := qm 424 (by decide +kernel) rfl
set_option maxRecDepth 100000 in
theorem q_390 : Cond.code yX6_noneIfNothing cX6_noneIfNothing 1 (some .int) ∈ TB := qm 425 rfl rfl
theorem q_391 : Cond.methodLink RX6 171 yX0_alike ∈ TB := qm 426 (by decide +kernel) rfl
theorem q_392 : Cond.static yX0_alike ∈ TB := qm 427 (by decide +kernel) rfl
set_option maxRecDepth 100000 in
theorem q_393 : Cond.code yX0_alike cX0_alike 5 (some .int) ∈ TB := qm 428 rfl rfl
theorem q_394 : Cond.methodLink RX0 15 yX0_behind ∈ TB := qm 429 (by decide +kernel) rfl
theorem q_395 : Cond.methodLink RL 83 yX6_part ∈ TB := qm 430 (by decide +kernel) rfl
theorem q_396 : Cond.instanceMethod yX6_part ∈ TB := qm 431 (by decide +kernel) rfl
theorem q_397 : Cond.selects RX6 yX6_part yX6_part ∈ TB := qm 432 (by decide +kernel) rfl
set_option maxRecDepth 100000 in
theorem q_398 : Cond.code yX6_part cX6_part 3 (some .int) ∈ TB := qm 433 rfl rfl
theorem q_399 : Cond.methodLink RX6 177 yX2_pieces ∈ TB := qm 434 (by decide +kernel) rfl
theorem q_400 : Cond.methodLink RX6 180 yX6_tellArea ∈ TB := qm 435 (by decide +kernel) rfl
theorem q_402 : Cond.instanceMethod yX6_tellArea ∈ TB := qm 437 (by decide +kernel) rfl
set_option maxRecDepth 100000 in
theorem q_403 : Cond.code yX6_tellArea cX6_tellArea 4 (some .int) ∈ TB := qm 438 rfl rfl
theorem q_404 : Cond.methodLink RX6 222 yX0_size ∈ TB := qm 439 (by decide +kernel) rfl
theorem q_405 : Cond.methodLink RX6 237 yX0_borders ∈ TB := qm 440 (by decide +kernel) rfl
theorem q_406 : Cond.static yX0_borders ∈ TB := qm 441 (by decide +kernel) rfl
set_option maxRecDepth 100000 in
theorem q_407 : Cond.code yX0_borders cX0_borders 4 (some .int) ∈ TB := qm 442 rfl rfl
theorem q_408 : Cond.methodLink RX0 21 yX0_alike ∈ TB := qm 443 (by decide +kernel) rfl
theorem q_409 : Cond.methodLink RX6 240 yX4_margin ∈ TB := qm 444 (by decide +kernel) rfl
theorem q_410 : Cond.instanceMethod yX4_margin ∈ TB := qm 445 (by decide +kernel) rfl
theorem q_411 : Cond.selects RX4 yX4_margin yX4_margin ∈ TB := qm 446 (by decide +kernel) rfl
set_option maxRecDepth 100000 in
theorem q_412 : Cond.code yX4_margin cX4_margin 4 (some .int) ∈ TB := qm 447 rfl rfl
theorem q_413 : Cond.methodLink RX4 81 yX4_votesOf ∈ TB := qm 448 (by decide +kernel) rfl
theorem q_414 : Cond.instanceMethod yX4_votesOf ∈ TB := qm 449 (by decide +kernel) rfl
theorem q_415 : Cond.selects RX4 yX4_votesOf yX4_votesOf ∈ TB := qm 450 (by decide +kernel) rfl
set_option maxRecDepth 100000 in
theorem q_416 : Cond.code yX4_votesOf cX4_votesOf 2 (some (.object "FrozenDistricts$Row")) ∈ TB := qm 451 rfl rfl
theorem q_417 : Cond.methodLink RX4 85 yX0_votes ∈ TB := qm 452 (by decide +kernel) rfl
theorem q_418 : Cond.static yX0_votes ∈ TB := qm 453 (by decide +kernel) rfl
set_option maxRecDepth 100000 in
theorem q_419 : Cond.code yX0_votes cX0_votes 5 (some .int) ∈ TB := qm 454 rfl rfl
theorem q_420 : Cond.methodLink RX6 243 yX4_winner ∈ TB := qm 455 (by decide +kernel) rfl
theorem q_421 : Cond.instanceMethod yX4_winner ∈ TB := qm 456 (by decide +kernel) rfl
theorem q_422 : Cond.selects RX4 yX4_winner yX4_winner ∈ TB := qm 457 (by decide +kernel) rfl
set_option maxRecDepth 100000 in
theorem q_423 : Cond.code yX4_winner cX4_winner 4 (some .int) ∈ TB := qm 458 rfl rfl
theorem q_424 : Cond.methodLink RX4 91 yX4_margin ∈ TB := qm 459 (by decide +kernel) rfl
theorem q_425 : Cond.methodLink RX6 246 yX0_lowest ∈ TB := qm 460 (by decide +kernel) rfl
theorem q_426 : Cond.static yX0_lowest ∈ TB := qm 461 (by decide +kernel) rfl
set_option maxRecDepth 100000 in
theorem q_427 : Cond.code yX0_lowest cX0_lowest 3 (some .int) ∈ TB := qm 462 rfl rfl
theorem q_428 : Cond.methodLink RL 87 yX6_district ∈ TB := qm 463 (by decide +kernel) rfl
theorem q_429 : Cond.instanceMethod yX6_district ∈ TB := qm 464 (by decide +kernel) rfl
theorem q_430 : Cond.selects RX6 yX6_district yX6_district ∈ TB := qm 465 (by decide +kernel) rfl
set_option maxRecDepth 100000 in
theorem q_431 : Cond.code yX6_district cX6_district 3 (some .int) ∈ TB := qm 466 rfl rfl
theorem q_432 : Cond.methodLink RX6 187 yX4_wasted ∈ TB := qm 467 (by decide +kernel) rfl
theorem q_433 : Cond.instanceMethod yX4_wasted ∈ TB := qm 468 (by decide +kernel) rfl
theorem q_434 : Cond.selects RX4 yX4_wasted yX4_wasted ∈ TB := qm 469 (by decide +kernel) rfl
set_option maxRecDepth 100000 in
theorem q_435 : Cond.code yX4_wasted cX4_wasted 5 (some .int) ∈ TB := qm 470 rfl rfl
theorem q_436 : Cond.methodLink RL 91 yX6_why ∈ TB := qm 471 (by decide +kernel) rfl
theorem q_437 : Cond.instanceMethod yX6_why ∈ TB := qm 472 (by decide +kernel) rfl
theorem q_438 : Cond.selects RX6 yX6_why yX6_why ∈ TB := qm 473 (by decide +kernel) rfl
set_option maxRecDepth 100000 in
theorem q_439 : Cond.code yX6_why cX6_why 2 (some .int) ∈ TB := qm 474 rfl rfl
theorem q_440 : Cond.methodLink RX6 190 yX2_blamed ∈ TB := qm 475 (by decide +kernel) rfl
theorem q_441 : Cond.instanceMethod yX2_blamed ∈ TB := qm 476 (by decide +kernel) rfl
theorem q_442 : Cond.selects RX2 yX2_blamed yX2_blamed ∈ TB := qm 477 (by decide +kernel) rfl
set_option maxRecDepth 100000 in
theorem q_443 : Cond.code yX2_blamed cX2_blamed 2 (some .int) ∈ TB := qm 478 rfl rfl
theorem q_444 : Cond.methodLink RX2 33 yX2_reason ∈ TB := qm 479 (by decide +kernel) rfl
theorem q_445 : Cond.methodLink RL 95 yX6_advice ∈ TB := qm 480 (by decide +kernel) rfl
theorem q_446 : Cond.instanceMethod yX6_advice ∈ TB := qm 481 (by decide +kernel) rfl
theorem q_447 : Cond.selects RX6 yX6_advice yX6_advice ∈ TB := qm 482 (by decide +kernel) rfl
set_option maxRecDepth 100000 in
theorem q_448 : Cond.code yX6_advice cX6_advice 3 (some .int) ∈ TB := qm 483 rfl rfl
theorem q_449 : Cond.methodLink RX6 193 yX4_player ∈ TB := qm 484 (by decide +kernel) rfl
theorem q_450 : Cond.instanceMethod yX4_player ∈ TB := qm 485 (by decide +kernel) rfl
theorem q_451 : Cond.selects RX4 yX4_player yX4_player ∈ TB := qm 486 (by decide +kernel) rfl
set_option maxRecDepth 100000 in
theorem q_452 : Cond.code yX4_player cX4_player 1 (some .int) ∈ TB := qm 487 rfl rfl
theorem q_453 : Cond.methodLink RX6 196 yX4_closestWon ∈ TB := qm 488 (by decide +kernel) rfl
theorem q_454 : Cond.instanceMethod yX4_closestWon ∈ TB := qm 489 (by decide +kernel) rfl
theorem q_455 : Cond.selects RX4 yX4_closestWon yX4_closestWon ∈ TB := qm 490 (by decide +kernel) rfl
set_option maxRecDepth 100000 in
theorem q_456 : Cond.code yX4_closestWon cX4_closestWon 6 (some .int) ∈ TB := qm 491 rfl rfl
theorem q_457 : Cond.methodLink RX6 199 yX4_mostLost ∈ TB := qm 492 (by decide +kernel) rfl
theorem q_458 : Cond.instanceMethod yX4_mostLost ∈ TB := qm 493 (by decide +kernel) rfl
theorem q_459 : Cond.selects RX4 yX4_mostLost yX4_mostLost ∈ TB := qm 494 (by decide +kernel) rfl
set_option maxRecDepth 100000 in
theorem q_460 : Cond.code yX4_mostLost cX4_mostLost 4 (some .int) ∈ TB := qm 495 rfl rfl
theorem q_461 : Cond.methodLink RL 99 yX6_party ∈ TB := qm 496 (by decide +kernel) rfl
theorem q_462 : Cond.instanceMethod yX6_party ∈ TB := qm 497 (by decide +kernel) rfl
theorem q_463 : Cond.selects RX6 yX6_party yX6_party ∈ TB := qm 498 (by decide +kernel) rfl
set_option maxRecDepth 100000 in
theorem q_464 : Cond.code yX6_party cX6_party 3 (some .int) ∈ TB := qm 499 rfl rfl
theorem q_465 : Cond.methodLink RX6 202 yX4_seats ∈ TB := qm 500 (by decide +kernel) rfl
theorem q_466 : Cond.instanceMethod yX4_seats ∈ TB := qm 501 (by decide +kernel) rfl
theorem q_467 : Cond.selects RX4 yX4_seats yX4_seats ∈ TB := qm 502 (by decide +kernel) rfl
set_option maxRecDepth 100000 in
theorem q_468 : Cond.code yX4_seats cX4_seats 2 (some .int) ∈ TB := qm 503 rfl rfl
theorem q_469 : Cond.methodLink RX4 99 yX4_won ∈ TB := qm 504 (by decide +kernel) rfl
theorem q_470 : Cond.instanceMethod yX4_won ∈ TB := qm 505 (by decide +kernel) rfl
theorem q_471 : Cond.selects RX4 yX4_won yX4_won ∈ TB := qm 506 (by decide +kernel) rfl
set_option maxRecDepth 100000 in
theorem q_472 : Cond.code yX4_won cX4_won 6 (some .int) ∈ TB := qm 507 rfl rfl
theorem q_473 : Cond.methodLink RX4 95 yX4_winner ∈ TB := qm 508 (by decide +kernel) rfl
theorem q_474 : Cond.methodLink RX6 205 yX4_votesOf ∈ TB := qm 509 (by decide +kernel) rfl
theorem q_475 : Cond.methodLink RX6 209 yX3_sum ∈ TB := qm 510 (by decide +kernel) rfl
theorem q_476 : Cond.instanceMethod yX3_sum ∈ TB := qm 511 (by decide +kernel) rfl
theorem q_477 : Cond.selects RX3 yX3_sum yX3_sum ∈ TB := qm 512 (by decide +kernel) rfl
set_option maxRecDepth 100000 in
theorem q_478 : Cond.code yX3_sum cX3_sum 3 (some .int) ∈ TB := qm 513 rfl rfl
theorem q_479 : Cond.methodLink RX6 212 yX4_wastedInAll ∈ TB := qm 514 (by decide +kernel) rfl
theorem q_480 : Cond.instanceMethod yX4_wastedInAll ∈ TB := qm 515 (by decide +kernel) rfl
theorem q_481 : Cond.selects RX4 yX4_wastedInAll yX4_wastedInAll ∈ TB := qm 516 (by decide +kernel) rfl
set_option maxRecDepth 100000 in
theorem q_482 : Cond.code yX4_wastedInAll cX4_wastedInAll 4 (some .int) ∈ TB := qm 517 rfl rfl
theorem q_483 : Cond.methodLink RX4 102 yX4_wasted ∈ TB := qm 518 (by decide +kernel) rfl
theorem q_484 : Cond.methodLink RX6 215 yX4_won ∈ TB := qm 519 (by decide +kernel) rfl
theorem q_485 : Cond.methodLink RL 103 yX6_fairness ∈ TB := qm 520 (by decide +kernel) rfl
theorem q_486 : Cond.instanceMethod yX6_fairness ∈ TB := qm 521 (by decide +kernel) rfl
theorem q_487 : Cond.selects RX6 yX6_fairness yX6_fairness ∈ TB := qm 522 (by decide +kernel) rfl
set_option maxRecDepth 100000 in
theorem q_488 : Cond.code yX6_fairness cX6_fairness 3 (some .int) ∈ TB := qm 523 rfl rfl
theorem q_489 : Cond.constant RX6 218 100000 ∈ TB := qm 524 (by decide +kernel) rfl
theorem q_490 : Cond.methodLink RL 107 yX6_count ∈ TB := qm 525 (by decide +kernel) rfl
theorem q_491 : Cond.instanceMethod yX6_count ∈ TB := qm 526 (by decide +kernel) rfl
theorem q_492 : Cond.selects RX6 yX6_count yX6_count ∈ TB := qm 527 (by decide +kernel) rfl
set_option maxRecDepth 100000 in
theorem q_493 : Cond.code yX6_count cX6_count 2 (some .int) ∈ TB := qm 528 rfl rfl
theorem q_494 : Cond.methodLink RX6 224 yX4_openWithoutPart ∈ TB := qm 529 (by decide +kernel) rfl
theorem q_495 : Cond.instanceMethod yX4_openWithoutPart ∈ TB := qm 530 (by decide +kernel) rfl
theorem q_496 : Cond.selects RX4 yX4_openWithoutPart yX4_openWithoutPart ∈ TB := qm 531 (by decide +kernel) rfl
set_option maxRecDepth 100000 in
theorem q_497 : Cond.code yX4_openWithoutPart cX4_openWithoutPart 3 (some .int) ∈ TB := qm 532 rfl rfl
theorem q_498 : Cond.methodLink RX4 67 yX4_isOpen ∈ TB := qm 533 (by decide +kernel) rfl
theorem q_499 : Cond.methodLink RX6 227 yX4_bordersOfAll ∈ TB := qm 534 (by decide +kernel) rfl
theorem q_500 : Cond.instanceMethod yX4_bordersOfAll ∈ TB := qm 535 (by decide +kernel) rfl
theorem q_501 : Cond.selects RX4 yX4_bordersOfAll yX4_bordersOfAll ∈ TB := qm 536 (by decide +kernel) rfl
set_option maxRecDepth 100000 in
theorem q_502 : Cond.code yX4_bordersOfAll cX4_bordersOfAll 3 (some .int) ∈ TB := qm 537 rfl rfl
theorem q_503 : Cond.methodLink RX4 106 yX0_borders ∈ TB := qm 538 (by decide +kernel) rfl
theorem q_504 : Cond.classLink RL 10 RX7 ∈ TB := qm 539 (by decide +kernel) rfl
theorem q_505 : Cond.instantiable RX7 11 ∈ TB := qm 540 (by decide +kernel) rfl
theorem q_506 : Cond.methodLink RL 12 yX7_init ∈ TB := qm 541 (by decide +kernel) rfl
theorem q_507 : Cond.instanceMethod yX7_init ∈ TB := qm 542 (by decide +kernel) rfl
set_option maxRecDepth 100000 in
theorem q_508 : Cond.code yX7_init cX7_init 1 none ∈ TB := qm 543 rfl rfl
theorem q_509 : Cond.methodLink RX7 1 objectInit ∈ TB := qm 544 (by decide +kernel) rfl
theorem q_510 : Cond.methodLink RX7 33 yX7_clear ∈ TB := qm 545 (by decide +kernel) rfl
theorem q_512 : Cond.instanceMethod yX7_clear ∈ TB := qm 547 (by decide +kernel) rfl
set_option maxRecDepth 100000 in
theorem q_513 : Cond.code yX7_clear cX7_clear 2 none ∈ TB := qm 548 rfl rfl
theorem q_514 : Cond.fieldLink RX7 7 "FrozenDistrictsModel" "row" "[I" ∈ TB := qm 549 (by decide +kernel) rfl
theorem q_515 : Cond.fieldLink RX7 13 "FrozenDistrictsModel" "past" "[I" ∈ TB := qm 550 (by decide +kernel) rfl
theorem q_516 : Cond.fieldLink RX7 16 "FrozenDistrictsModel" "aside" "[I" ∈ TB := qm 551 (by decide +kernel) rfl
theorem q_517 : Cond.fieldLink RX7 40 "FrozenDistrictsModel" "states" "I" ∈ TB := qm 552 (by decide +kernel) rfl
theorem q_518 : Cond.fieldLink RX7 44 "FrozenDistrictsModel" "isAside" "Z" ∈ TB := qm 553 (by decide +kernel) rfl
theorem q_519 : Cond.fieldLink RX7 19 "FrozenDistrictsModel" "text" "[C" ∈ TB := qm 554 (by decide +kernel) rfl
theorem q_520 : Cond.fieldLink RX7 101 "FrozenDistrictsModel" "length" "I" ∈ TB := qm 555 (by decide +kernel) rfl
theorem q_521 : Cond.fieldLink RX7 104 "FrozenDistrictsModel" "at" "I" ∈ TB := qm 556 (by decide +kernel) rfl
theorem q_522 : Cond.fieldLink RX7 23 "FrozenDistrictsModel" "read" "[I" ∈ TB := qm 557 (by decide +kernel) rfl
theorem q_523 : Cond.fieldLink RX7 26 "FrozenDistrictsModel" "tried" "[I" ∈ TB := qm 558 (by decide +kernel) rfl
theorem q_524 : Cond.fieldLink RX7 29 "FrozenDistrictsModel" "seen" "[Z" ∈ TB := qm 559 (by decide +kernel) rfl
theorem q_548 : Cond.arrayClass .boolean ∈ TB := qm 583 (by decide +kernel) rfl
theorem q_549 : Cond.methodLink RL 70 yX7_undo ∈ TB := qm 584 (by decide +kernel) rfl
theorem q_550 : Cond.instanceMethod yX7_undo ∈ TB := qm 585 (by decide +kernel) rfl
theorem q_551 : Cond.selects RX7 yX7_undo yX7_undo ∈ TB := qm 586 (by decide +kernel) rfl
set_option maxRecDepth 100000 in
theorem q_552 : Cond.code yX7_undo cX7_undo 2 (some .int) ∈ TB := qm 587 rfl rfl
theorem q_553 : Cond.methodLink RL 74 yX7_keep ∈ TB := qm 588 (by decide +kernel) rfl
theorem q_554 : Cond.instanceMethod yX7_keep ∈ TB := qm 589 (by decide +kernel) rfl
theorem q_555 : Cond.selects RX7 yX7_keep yX7_keep ∈ TB := qm 590 (by decide +kernel) rfl
set_option maxRecDepth 100000 in
theorem q_556 : Cond.code yX7_keep cX7_keep 2 (some .int) ∈ TB := qm 591 rfl rfl
theorem q_557 : Cond.methodLink RL 78 yX7_restore ∈ TB := qm 592 (by decide +kernel) rfl
theorem q_558 : Cond.instanceMethod yX7_restore ∈ TB := qm 593 (by decide +kernel) rfl
theorem q_559 : Cond.selects RX7 yX7_restore yX7_restore ∈ TB := qm 594 (by decide +kernel) rfl
set_option maxRecDepth 100000 in
theorem q_560 : Cond.code yX7_restore cX7_restore 2 (some .int) ∈ TB := qm 595 rfl rfl
theorem q_561 : Cond.methodLink RX7 48 yX7_record ∈ TB := qm 596 (by decide +kernel) rfl
theorem q_563 : Cond.instanceMethod yX7_record ∈ TB := qm 598 (by decide +kernel) rfl
set_option maxRecDepth 100000 in
theorem q_564 : Cond.code yX7_record cX7_record 2 none ∈ TB := qm 599 rfl rfl
theorem q_565 : Cond.methodLink RL 17 yX7_setVotes ∈ TB := qm 600 (by decide +kernel) rfl
theorem q_566 : Cond.instanceMethod yX7_setVotes ∈ TB := qm 601 (by decide +kernel) rfl
theorem q_567 : Cond.selects RX7 yX7_setVotes yX7_setVotes ∈ TB := qm 602 (by decide +kernel) rfl
set_option maxRecDepth 100000 in
theorem q_568 : Cond.code yX7_setVotes cX7_setVotes 5 (some .int) ∈ TB := qm 603 rfl rfl
theorem q_569 : Cond.methodLink RX7 51 yX7_noCell ∈ TB := qm 604 (by decide +kernel) rfl
theorem q_570 : Cond.static yX7_noCell ∈ TB := qm 605 (by decide +kernel) rfl
set_option maxRecDepth 100000 in
theorem q_571 : Cond.code yX7_noCell cX7_noCell 1 (some .boolean) ∈ TB := qm 606 rfl rfl
theorem q_572 : Cond.methodLink RX7 36 yX7_in ∈ TB := qm 607 (by decide +kernel) rfl
theorem q_573 : Cond.static yX7_in ∈ TB := qm 608 (by decide +kernel) rfl
set_option maxRecDepth 100000 in
theorem q_574 : Cond.code yX7_in cX7_in 3 (some .boolean) ∈ TB := qm 609 rfl rfl
theorem q_575 : Cond.methodLink RL 22 yX7_begin ∈ TB := qm 610 (by decide +kernel) rfl
theorem q_576 : Cond.instanceMethod yX7_begin ∈ TB := qm 611 (by decide +kernel) rfl
theorem q_577 : Cond.selects RX7 yX7_begin yX7_begin ∈ TB := qm 612 (by decide +kernel) rfl
set_option maxRecDepth 100000 in
theorem q_578 : Cond.code yX7_begin cX7_begin 2 (some .int) ∈ TB := qm 613 rfl rfl
theorem q_579 : Cond.methodLink RX7 55 yX7_size ∈ TB := qm 614 (by decide +kernel) rfl
theorem q_581 : Cond.instanceMethod yX7_size ∈ TB := qm 616 (by decide +kernel) rfl
set_option maxRecDepth 100000 in
theorem q_582 : Cond.code yX7_size cX7_size 1 (some .int) ∈ TB := qm 617 rfl rfl
theorem q_583 : Cond.methodLink RL 27 yX7_setTarget ∈ TB := qm 618 (by decide +kernel) rfl
theorem q_584 : Cond.instanceMethod yX7_setTarget ∈ TB := qm 619 (by decide +kernel) rfl
theorem q_585 : Cond.selects RX7 yX7_setTarget yX7_setTarget ∈ TB := qm 620 (by decide +kernel) rfl
set_option maxRecDepth 100000 in
theorem q_586 : Cond.code yX7_setTarget cX7_setTarget 4 (some .int) ∈ TB := qm 621 rfl rfl
theorem q_587 : Cond.methodLink RL 31 yX7_draft ∈ TB := qm 622 (by decide +kernel) rfl
theorem q_588 : Cond.instanceMethod yX7_draft ∈ TB := qm 623 (by decide +kernel) rfl
theorem q_589 : Cond.selects RX7 yX7_draft yX7_draft ∈ TB := qm 624 (by decide +kernel) rfl
set_option maxRecDepth 100000 in
theorem q_590 : Cond.code yX7_draft cX7_draft 4 (some .int) ∈ TB := qm 625 rfl rfl
theorem q_591 : Cond.methodLink RX7 74 yX7_isOpen ∈ TB := qm 626 (by decide +kernel) rfl
theorem q_593 : Cond.instanceMethod yX7_isOpen ∈ TB := qm 628 (by decide +kernel) rfl
set_option maxRecDepth 100000 in
theorem q_594 : Cond.code yX7_isOpen cX7_isOpen 2 (some .boolean) ∈ TB := qm 629 rfl rfl
theorem q_595 : Cond.methodLink RX7 87 yX7_noDraft ∈ TB := qm 630 (by decide +kernel) rfl
theorem q_597 : Cond.instanceMethod yX7_noDraft ∈ TB := qm 632 (by decide +kernel) rfl
set_option maxRecDepth 100000 in
theorem q_598 : Cond.code yX7_noDraft cX7_noDraft 1 (some .boolean) ∈ TB := qm 633 rfl rfl
theorem q_599 : Cond.methodLink RX7 77 yX7_left ∈ TB := qm 634 (by decide +kernel) rfl
theorem q_601 : Cond.instanceMethod yX7_left ∈ TB := qm 636 (by decide +kernel) rfl
set_option maxRecDepth 100000 in
theorem q_602 : Cond.code yX7_left cX7_left 1 (some .int) ∈ TB := qm 637 rfl rfl
theorem q_603 : Cond.methodLink RL 35 yX7_trade ∈ TB := qm 638 (by decide +kernel) rfl
theorem q_604 : Cond.instanceMethod yX7_trade ∈ TB := qm 639 (by decide +kernel) rfl
theorem q_605 : Cond.selects RX7 yX7_trade yX7_trade ∈ TB := qm 640 (by decide +kernel) rfl
set_option maxRecDepth 100000 in
theorem q_606 : Cond.code yX7_trade cX7_trade 5 (some .int) ∈ TB := qm 641 rfl rfl
theorem q_607 : Cond.methodLink RX7 91 yX7_reason ∈ TB := qm 642 (by decide +kernel) rfl
theorem q_609 : Cond.instanceMethod yX7_reason ∈ TB := qm 644 (by decide +kernel) rfl
set_option maxRecDepth 100000 in
theorem q_610 : Cond.code yX7_reason cX7_reason 2 (some .int) ∈ TB := qm 645 rfl rfl
theorem q_611 : Cond.methodLink RX7 80 yX7_cells ∈ TB := qm 646 (by decide +kernel) rfl
theorem q_613 : Cond.instanceMethod yX7_cells ∈ TB := qm 648 (by decide +kernel) rfl
set_option maxRecDepth 100000 in
theorem q_614 : Cond.code yX7_cells cX7_cells 5 (some .int) ∈ TB := qm 649 rfl rfl
theorem q_615 : Cond.methodLink RX7 83 yX7_pieces ∈ TB := qm 650 (by decide +kernel) rfl
theorem q_617 : Cond.instanceMethod yX7_pieces ∈ TB := qm 652 (by decide +kernel) rfl
set_option maxRecDepth 100000 in
theorem q_618 : Cond.code yX7_pieces cX7_pieces 4 (some .int) ∈ TB := qm 653 rfl rfl
theorem q_619 : Cond.methodLink RX7 70 yX7_spread ∈ TB := qm 654 (by decide +kernel) rfl
theorem q_621 : Cond.instanceMethod yX7_spread ∈ TB := qm 656 (by decide +kernel) rfl
set_option maxRecDepth 100000 in
theorem q_622 : Cond.code yX7_spread cX7_spread 6 none ∈ TB := qm 657 rfl rfl
theorem q_623 : Cond.methodLink RX7 67 yX7_beside ∈ TB := qm 658 (by decide +kernel) rfl
theorem q_624 : Cond.static yX7_beside ∈ TB := qm 659 (by decide +kernel) rfl
set_option maxRecDepth 100000 in
theorem q_625 : Cond.code yX7_beside cX7_beside 4 (some .int) ∈ TB := qm 660 rfl rfl
theorem q_626 : Cond.methodLink RL 40 yX7_snake ∈ TB := qm 661 (by decide +kernel) rfl
theorem q_627 : Cond.instanceMethod yX7_snake ∈ TB := qm 662 (by decide +kernel) rfl
theorem q_628 : Cond.selects RX7 yX7_snake yX7_snake ∈ TB := qm 663 (by decide +kernel) rfl
set_option maxRecDepth 100000 in
theorem q_629 : Cond.code yX7_snake cX7_snake 7 (some .int) ∈ TB := qm 664 rfl rfl
theorem q_630 : Cond.methodLink RX7 94 yX7_take ∈ TB := qm 665 (by decide +kernel) rfl
theorem q_632 : Cond.instanceMethod yX7_take ∈ TB := qm 667 (by decide +kernel) rfl
set_option maxRecDepth 100000 in
theorem q_633 : Cond.code yX7_take cX7_take 3 (some .boolean) ∈ TB := qm 668 rfl rfl
theorem q_634 : Cond.methodLink RL 45 yX7_adopt ∈ TB := qm 669 (by decide +kernel) rfl
theorem q_635 : Cond.instanceMethod yX7_adopt ∈ TB := qm 670 (by decide +kernel) rfl
theorem q_636 : Cond.selects RX7 yX7_adopt yX7_adopt ∈ TB := qm 671 (by decide +kernel) rfl
set_option maxRecDepth 100000 in
theorem q_637 : Cond.code yX7_adopt cX7_adopt 2 (some .int) ∈ TB := qm 672 rfl rfl
theorem q_638 : Cond.methodLink RL 49 yX7_propose ∈ TB := qm 673 (by decide +kernel) rfl
theorem q_639 : Cond.instanceMethod yX7_propose ∈ TB := qm 674 (by decide +kernel) rfl
theorem q_640 : Cond.selects RX7 yX7_propose yX7_propose ∈ TB := qm 675 (by decide +kernel) rfl
set_option maxRecDepth 100000 in
theorem q_641 : Cond.code yX7_propose cX7_propose 2 (some .int) ∈ TB := qm 676 rfl rfl
theorem q_642 : Cond.methodLink RL 53 yX7_freeze ∈ TB := qm 677 (by decide +kernel) rfl
theorem q_643 : Cond.instanceMethod yX7_freeze ∈ TB := qm 678 (by decide +kernel) rfl
theorem q_644 : Cond.selects RX7 yX7_freeze yX7_freeze ∈ TB := qm 679 (by decide +kernel) rfl
set_option maxRecDepth 100000 in
theorem q_645 : Cond.code yX7_freeze cX7_freeze 4 (some .int) ∈ TB := qm 680 rfl rfl
theorem q_646 : Cond.methodLink RX7 97 yX7_freezePart ∈ TB := qm 681 (by decide +kernel) rfl
theorem q_648 : Cond.instanceMethod yX7_freezePart ∈ TB := qm 683 (by decide +kernel) rfl
set_option maxRecDepth 100000 in
theorem q_649 : Cond.code yX7_freezePart cX7_freezePart 5 none ∈ TB := qm 684 rfl rfl
theorem q_650 : Cond.methodLink RL 58 yX7_type ∈ TB := qm 685 (by decide +kernel) rfl
theorem q_651 : Cond.instanceMethod yX7_type ∈ TB := qm 686 (by decide +kernel) rfl
theorem q_652 : Cond.selects RX7 yX7_type yX7_type ∈ TB := qm 687 (by decide +kernel) rfl
set_option maxRecDepth 100000 in
theorem q_653 : Cond.code yX7_type cX7_type 2 (some .int) ∈ TB := qm 688 rfl rfl
theorem q_654 : Cond.methodLink RL 62 yX7_clearText ∈ TB := qm 689 (by decide +kernel) rfl
theorem q_655 : Cond.instanceMethod yX7_clearText ∈ TB := qm 690 (by decide +kernel) rfl
theorem q_656 : Cond.selects RX7 yX7_clearText yX7_clearText ∈ TB := qm 691 (by decide +kernel) rfl
set_option maxRecDepth 100000 in
theorem q_657 : Cond.code yX7_clearText cX7_clearText 2 (some .int) ∈ TB := qm 692 rfl rfl
theorem q_658 : Cond.methodLink RL 66 yX7_readVotes ∈ TB := qm 693 (by decide +kernel) rfl
theorem q_659 : Cond.instanceMethod yX7_readVotes ∈ TB := qm 694 (by decide +kernel) rfl
theorem q_660 : Cond.selects RX7 yX7_readVotes yX7_readVotes ∈ TB := qm 695 (by decide +kernel) rfl
set_option maxRecDepth 100000 in
theorem q_661 : Cond.code yX7_readVotes cX7_readVotes 4 (some .int) ∈ TB := qm 696 rfl rfl
theorem q_662 : Cond.methodLink RX7 111 yX7_readPairs ∈ TB := qm 697 (by decide +kernel) rfl
theorem q_664 : Cond.instanceMethod yX7_readPairs ∈ TB := qm 699 (by decide +kernel) rfl
set_option maxRecDepth 100000 in
theorem q_665 : Cond.code yX7_readPairs cX7_readPairs 4 (some .int) ∈ TB := qm 700 rfl rfl
theorem q_666 : Cond.methodLink RX7 107 yX7_sees ∈ TB := qm 701 (by decide +kernel) rfl
theorem q_668 : Cond.instanceMethod yX7_sees ∈ TB := qm 703 (by decide +kernel) rfl
set_option maxRecDepth 100000 in
theorem q_669 : Cond.code yX7_sees cX7_sees 3 (some .boolean) ∈ TB := qm 704 rfl rfl
theorem q_670 : Cond.methodLink RL 82 yX7_cell ∈ TB := qm 705 (by decide +kernel) rfl
theorem q_671 : Cond.instanceMethod yX7_cell ∈ TB := qm 706 (by decide +kernel) rfl
theorem q_672 : Cond.selects RX7 yX7_cell yX7_cell ∈ TB := qm 707 (by decide +kernel) rfl
set_option maxRecDepth 100000 in
theorem q_673 : Cond.code yX7_cell cX7_cell 3 (some .int) ∈ TB := qm 708 rfl rfl
theorem q_674 : Cond.methodLink RX7 114 yX7_orNone ∈ TB := qm 709 (by decide +kernel) rfl
theorem q_675 : Cond.static yX7_orNone ∈ TB := qm 710 (by decide +kernel) rfl
set_option maxRecDepth 100000 in
theorem q_676 : Cond.code yX7_orNone cX7_orNone 1 (some .int) ∈ TB := qm 711 rfl rfl
theorem q_677 : Cond.methodLink RX7 117 yX7_alikeBeside ∈ TB := qm 712 (by decide +kernel) rfl
theorem q_679 : Cond.instanceMethod yX7_alikeBeside ∈ TB := qm 714 (by decide +kernel) rfl
set_option maxRecDepth 100000 in
theorem q_680 : Cond.code yX7_alikeBeside cX7_alikeBeside 7 (some .int) ∈ TB := qm 715 rfl rfl
theorem q_681 : Cond.methodLink RL 86 yX7_part ∈ TB := qm 716 (by decide +kernel) rfl
theorem q_682 : Cond.instanceMethod yX7_part ∈ TB := qm 717 (by decide +kernel) rfl
theorem q_683 : Cond.selects RX7 yX7_part yX7_part ∈ TB := qm 718 (by decide +kernel) rfl
set_option maxRecDepth 100000 in
theorem q_684 : Cond.code yX7_part cX7_part 3 (some .int) ∈ TB := qm 719 rfl rfl
theorem q_685 : Cond.methodLink RX7 120 yX7_borders ∈ TB := qm 720 (by decide +kernel) rfl
theorem q_687 : Cond.instanceMethod yX7_borders ∈ TB := qm 722 (by decide +kernel) rfl
set_option maxRecDepth 100000 in
theorem q_688 : Cond.code yX7_borders cX7_borders 7 (some .int) ∈ TB := qm 723 rfl rfl
theorem q_689 : Cond.methodLink RX7 63 yX7_margin ∈ TB := qm 724 (by decide +kernel) rfl
theorem q_691 : Cond.instanceMethod yX7_margin ∈ TB := qm 726 (by decide +kernel) rfl
set_option maxRecDepth 100000 in
theorem q_692 : Cond.code yX7_margin cX7_margin 3 (some .int) ∈ TB := qm 727 rfl rfl
theorem q_693 : Cond.methodLink RX7 59 yX7_votes ∈ TB := qm 728 (by decide +kernel) rfl
theorem q_695 : Cond.instanceMethod yX7_votes ∈ TB := qm 730 (by decide +kernel) rfl
set_option maxRecDepth 100000 in
theorem q_696 : Cond.code yX7_votes cX7_votes 6 (some .int) ∈ TB := qm 731 rfl rfl
theorem q_697 : Cond.methodLink RX7 123 yX7_winner ∈ TB := qm 732 (by decide +kernel) rfl
theorem q_699 : Cond.instanceMethod yX7_winner ∈ TB := qm 734 (by decide +kernel) rfl
set_option maxRecDepth 100000 in
theorem q_700 : Cond.code yX7_winner cX7_winner 4 (some .int) ∈ TB := qm 735 rfl rfl
theorem q_701 : Cond.methodLink RX7 126 yX7_lowest ∈ TB := qm 736 (by decide +kernel) rfl
theorem q_703 : Cond.instanceMethod yX7_lowest ∈ TB := qm 738 (by decide +kernel) rfl
set_option maxRecDepth 100000 in
theorem q_704 : Cond.code yX7_lowest cX7_lowest 4 (some .int) ∈ TB := qm 739 rfl rfl
theorem q_705 : Cond.methodLink RL 90 yX7_district ∈ TB := qm 740 (by decide +kernel) rfl
theorem q_706 : Cond.instanceMethod yX7_district ∈ TB := qm 741 (by decide +kernel) rfl
theorem q_707 : Cond.selects RX7 yX7_district yX7_district ∈ TB := qm 742 (by decide +kernel) rfl
set_option maxRecDepth 100000 in
theorem q_708 : Cond.code yX7_district cX7_district 3 (some .int) ∈ TB := qm 743 rfl rfl
theorem q_709 : Cond.methodLink RX7 129 yX7_wasted ∈ TB := qm 744 (by decide +kernel) rfl
theorem q_711 : Cond.instanceMethod yX7_wasted ∈ TB := qm 746 (by decide +kernel) rfl
set_option maxRecDepth 100000 in
theorem q_712 : Cond.code yX7_wasted cX7_wasted 5 (some .int) ∈ TB := qm 747 rfl rfl
theorem q_713 : Cond.methodLink RL 94 yX7_why ∈ TB := qm 748 (by decide +kernel) rfl
theorem q_714 : Cond.instanceMethod yX7_why ∈ TB := qm 749 (by decide +kernel) rfl
theorem q_715 : Cond.selects RX7 yX7_why yX7_why ∈ TB := qm 750 (by decide +kernel) rfl
set_option maxRecDepth 100000 in
theorem q_716 : Cond.code yX7_why cX7_why 3 (some .int) ∈ TB := qm 751 rfl rfl
theorem q_717 : Cond.methodLink RL 98 yX7_advice ∈ TB := qm 752 (by decide +kernel) rfl
theorem q_718 : Cond.instanceMethod yX7_advice ∈ TB := qm 753 (by decide +kernel) rfl
theorem q_719 : Cond.selects RX7 yX7_advice yX7_advice ∈ TB := qm 754 (by decide +kernel) rfl
set_option maxRecDepth 100000 in
theorem q_720 : Cond.code yX7_advice cX7_advice 8 (some .int) ∈ TB := qm 755 rfl rfl
theorem q_721 : Cond.methodLink RL 102 yX7_party ∈ TB := qm 756 (by decide +kernel) rfl
theorem q_722 : Cond.instanceMethod yX7_party ∈ TB := qm 757 (by decide +kernel) rfl
theorem q_723 : Cond.selects RX7 yX7_party yX7_party ∈ TB := qm 758 (by decide +kernel) rfl
set_option maxRecDepth 100000 in
theorem q_724 : Cond.code yX7_party cX7_party 5 (some .int) ∈ TB := qm 759 rfl rfl
theorem q_725 : Cond.methodLink RX7 132 yX7_seats ∈ TB := qm 760 (by decide +kernel) rfl
theorem q_727 : Cond.instanceMethod yX7_seats ∈ TB := qm 762 (by decide +kernel) rfl
set_option maxRecDepth 100000 in
theorem q_728 : Cond.code yX7_seats cX7_seats 4 (some .int) ∈ TB := qm 763 rfl rfl
theorem q_729 : Cond.methodLink RX7 135 yX7_votesOnMap ∈ TB := qm 764 (by decide +kernel) rfl
theorem q_731 : Cond.instanceMethod yX7_votesOnMap ∈ TB := qm 766 (by decide +kernel) rfl
set_option maxRecDepth 100000 in
theorem q_732 : Cond.code yX7_votesOnMap cX7_votesOnMap 4 (some .int) ∈ TB := qm 767 rfl rfl
theorem q_733 : Cond.methodLink RL 106 yX7_fairness ∈ TB := qm 768 (by decide +kernel) rfl
theorem q_734 : Cond.instanceMethod yX7_fairness ∈ TB := qm 769 (by decide +kernel) rfl
theorem q_735 : Cond.selects RX7 yX7_fairness yX7_fairness ∈ TB := qm 770 (by decide +kernel) rfl
set_option maxRecDepth 100000 in
theorem q_736 : Cond.code yX7_fairness cX7_fairness 2 (some .int) ∈ TB := qm 771 rfl rfl
theorem q_737 : Cond.constant RX7 138 100000 ∈ TB := qm 772 (by decide +kernel) rfl
theorem q_738 : Cond.methodLink RL 110 yX7_count ∈ TB := qm 773 (by decide +kernel) rfl
theorem q_739 : Cond.instanceMethod yX7_count ∈ TB := qm 774 (by decide +kernel) rfl
theorem q_740 : Cond.selects RX7 yX7_count yX7_count ∈ TB := qm 775 (by decide +kernel) rfl
set_option maxRecDepth 100000 in
theorem q_741 : Cond.code yX7_count cX7_count 2 (some .int) ∈ TB := qm 776 rfl rfl
theorem q_742 : Cond.methodLink RX7 139 yX7_withoutPart ∈ TB := qm 777 (by decide +kernel) rfl
theorem q_744 : Cond.instanceMethod yX7_withoutPart ∈ TB := qm 779 (by decide +kernel) rfl
set_option maxRecDepth 100000 in
theorem q_745 : Cond.code yX7_withoutPart cX7_withoutPart 3 (some .int) ∈ TB := qm 780 rfl rfl
theorem q_746 : Cond.methodLink RX7 142 yX7_allBorders ∈ TB := qm 781 (by decide +kernel) rfl
theorem q_748 : Cond.instanceMethod yX7_allBorders ∈ TB := qm 783 (by decide +kernel) rfl
set_option maxRecDepth 100000 in
theorem q_749 : Cond.code yX7_allBorders cX7_allBorders 3 (some .int) ∈ TB := qm 784 rfl rfl
theorem iX1 : ∀ w ∈ u_ws RX1 TX1 3, w ∈ TB := tb_of (by decide +kernel)
theorem iX2 : ∀ w ∈ u_ws RX2 TX2 2, w ∈ TB := tb_of (by decide +kernel)
theorem iX3 : ∀ w ∈ u_ws RX3 TX3 1, w ∈ TB := tb_of (by decide +kernel)
theorem iX4 : ∀ w ∈ u_ws RX4 TX4 11, w ∈ TB := tb_of (by decide +kernel)
theorem iX5 : ∀ w ∈ u_ws RX5 TX5 2, w ∈ TB := tb_of (by decide +kernel)
theorem iX6 : ∀ w ∈ u_ws RX6 TX6 7, w ∈ TB := tb_of (by decide +kernel)
theorem iX7 : ∀ w ∈ u_ws RX7 TX7 11, w ∈ TB := tb_of (by decide +kernel)
abbrev vwCl : List vw_C := [(RX1, TX1, 3), (RX2, TX2, 2), (RX3, TX3, 1), (RX4, TX4, 11), (RX5, TX5, 2), (RX6, TX6, 7), (RX7, TX7, 11)]
theorem hyX6_init : yX6_init.cls ≠ "java/lang/invoke/MethodHandle" ∧ yX6_init.cls ≠ "java/lang/invoke/VarHandle" ∧ (parseMethodDescriptor yX6_init.desc).map (fun d => d.parameters.length) = some 0 := by decide +kernel
theorem hyX4_init : yX4_init.cls ≠ "java/lang/invoke/MethodHandle" ∧ yX4_init.cls ≠ "java/lang/invoke/VarHandle" ∧ (parseMethodDescriptor yX4_init.desc).map (fun d => d.parameters.length) = some 0 := by decide +kernel
theorem hyX3_init : yX3_init.cls ≠ "java/lang/invoke/MethodHandle" ∧ yX3_init.cls ≠ "java/lang/invoke/VarHandle" ∧ (parseMethodDescriptor yX3_init.desc).map (fun d => d.parameters.length) = some 2 := by decide +kernel
theorem hyX1_init : yX1_init.cls ≠ "java/lang/invoke/MethodHandle" ∧ yX1_init.cls ≠ "java/lang/invoke/VarHandle" ∧ (parseMethodDescriptor yX1_init.desc).map (fun d => d.parameters.length) = some 0 := by decide +kernel
theorem hyX5_init : yX5_init.cls ≠ "java/lang/invoke/MethodHandle" ∧ yX5_init.cls ≠ "java/lang/invoke/VarHandle" ∧ (parseMethodDescriptor yX5_init.desc).map (fun d => d.parameters.length) = some 0 := by decide +kernel
theorem hyX2_init : yX2_init.cls ≠ "java/lang/invoke/MethodHandle" ∧ yX2_init.cls ≠ "java/lang/invoke/VarHandle" ∧ (parseMethodDescriptor yX2_init.desc).map (fun d => d.parameters.length) = some 0 := by decide +kernel
theorem hyX6_setVotes : yX6_setVotes.cls ≠ "java/lang/invoke/MethodHandle" ∧ yX6_setVotes.cls ≠ "java/lang/invoke/VarHandle" ∧ (parseMethodDescriptor yX6_setVotes.desc).map (fun d => d.parameters.length) = some 3 := by decide +kernel
theorem hyX6_isCell : yX6_isCell.cls ≠ "java/lang/invoke/MethodHandle" ∧ yX6_isCell.cls ≠ "java/lang/invoke/VarHandle" ∧ (parseMethodDescriptor yX6_isCell.desc).map (fun d => d.parameters.length) = some 1 := by decide +kernel
theorem hyX6_isFromTo : yX6_isFromTo.cls ≠ "java/lang/invoke/MethodHandle" ∧ yX6_isFromTo.cls ≠ "java/lang/invoke/VarHandle" ∧ (parseMethodDescriptor yX6_isFromTo.desc).map (fun d => d.parameters.length) = some 3 := by decide +kernel
theorem hyX3_at : yX3_at.cls ≠ "java/lang/invoke/MethodHandle" ∧ yX3_at.cls ≠ "java/lang/invoke/VarHandle" ∧ (parseMethodDescriptor yX3_at.desc).map (fun d => d.parameters.length) = some 1 := by decide +kernel
theorem hyX1_record : yX1_record.cls ≠ "java/lang/invoke/MethodHandle" ∧ yX1_record.cls ≠ "java/lang/invoke/VarHandle" ∧ (parseMethodDescriptor yX1_record.desc).map (fun d => d.parameters.length) = some 1 := by decide +kernel
theorem hyX1_slotAt : yX1_slotAt.cls ≠ "java/lang/invoke/MethodHandle" ∧ yX1_slotAt.cls ≠ "java/lang/invoke/VarHandle" ∧ (parseMethodDescriptor yX1_slotAt.desc).map (fun d => d.parameters.length) = some 1 := by decide +kernel
theorem hyJ9_floorMod_7cf53 : yJ9_floorMod_7cf53.cls ≠ "java/lang/invoke/MethodHandle" ∧ yJ9_floorMod_7cf53.cls ≠ "java/lang/invoke/VarHandle" ∧ (parseMethodDescriptor yJ9_floorMod_7cf53.desc).map (fun d => d.parameters.length) = some 2 := by decide +kernel
theorem hyX4_copy : yX4_copy.cls ≠ "java/lang/invoke/MethodHandle" ∧ yX4_copy.cls ≠ "java/lang/invoke/VarHandle" ∧ (parseMethodDescriptor yX4_copy.desc).map (fun d => d.parameters.length) = some 1 := by decide +kernel
theorem hyX3_copy : yX3_copy.cls ≠ "java/lang/invoke/MethodHandle" ∧ yX3_copy.cls ≠ "java/lang/invoke/VarHandle" ∧ (parseMethodDescriptor yX3_copy.desc).map (fun d => d.parameters.length) = some 1 := by decide +kernel
theorem hyX3_put : yX3_put.cls ≠ "java/lang/invoke/MethodHandle" ∧ yX3_put.cls ≠ "java/lang/invoke/VarHandle" ∧ (parseMethodDescriptor yX3_put.desc).map (fun d => d.parameters.length) = some 2 := by decide +kernel
theorem hyX6_begin : yX6_begin.cls ≠ "java/lang/invoke/MethodHandle" ∧ yX6_begin.cls ≠ "java/lang/invoke/VarHandle" ∧ (parseMethodDescriptor yX6_begin.desc).map (fun d => d.parameters.length) = some 1 := by decide +kernel
theorem hyX6_dividesTheMap : yX6_dividesTheMap.cls ≠ "java/lang/invoke/MethodHandle" ∧ yX6_dividesTheMap.cls ≠ "java/lang/invoke/VarHandle" ∧ (parseMethodDescriptor yX6_dividesTheMap.desc).map (fun d => d.parameters.length) = some 1 := by decide +kernel
theorem hyX4_startAnew : yX4_startAnew.cls ≠ "java/lang/invoke/MethodHandle" ∧ yX4_startAnew.cls ≠ "java/lang/invoke/VarHandle" ∧ (parseMethodDescriptor yX4_startAnew.desc).map (fun d => d.parameters.length) = some 1 := by decide +kernel
theorem hyX3_fill : yX3_fill.cls ≠ "java/lang/invoke/MethodHandle" ∧ yX3_fill.cls ≠ "java/lang/invoke/VarHandle" ∧ (parseMethodDescriptor yX3_fill.desc).map (fun d => d.parameters.length) = some 1 := by decide +kernel
theorem hyX4_size : yX4_size.cls ≠ "java/lang/invoke/MethodHandle" ∧ yX4_size.cls ≠ "java/lang/invoke/VarHandle" ∧ (parseMethodDescriptor yX4_size.desc).map (fun d => d.parameters.length) = some 0 := by decide +kernel
theorem hyX6_setTarget : yX6_setTarget.cls ≠ "java/lang/invoke/MethodHandle" ∧ yX6_setTarget.cls ≠ "java/lang/invoke/VarHandle" ∧ (parseMethodDescriptor yX6_setTarget.desc).map (fun d => d.parameters.length) = some 2 := by decide +kernel
theorem hyX6_isParty : yX6_isParty.cls ≠ "java/lang/invoke/MethodHandle" ∧ yX6_isParty.cls ≠ "java/lang/invoke/VarHandle" ∧ (parseMethodDescriptor yX6_isParty.desc).map (fun d => d.parameters.length) = some 1 := by decide +kernel
theorem hyX6_draft : yX6_draft.cls ≠ "java/lang/invoke/MethodHandle" ∧ yX6_draft.cls ≠ "java/lang/invoke/VarHandle" ∧ (parseMethodDescriptor yX6_draft.desc).map (fun d => d.parameters.length) = some 2 := by decide +kernel
theorem hyX4_isOpen : yX4_isOpen.cls ≠ "java/lang/invoke/MethodHandle" ∧ yX4_isOpen.cls ≠ "java/lang/invoke/VarHandle" ∧ (parseMethodDescriptor yX4_isOpen.desc).map (fun d => d.parameters.length) = some 1 := by decide +kernel
theorem hyX4_isPart : yX4_isPart.cls ≠ "java/lang/invoke/MethodHandle" ∧ yX4_isPart.cls ≠ "java/lang/invoke/VarHandle" ∧ (parseMethodDescriptor yX4_isPart.desc).map (fun d => d.parameters.length) = some 1 := by decide +kernel
theorem hyX4_left : yX4_left.cls ≠ "java/lang/invoke/MethodHandle" ∧ yX4_left.cls ≠ "java/lang/invoke/VarHandle" ∧ (parseMethodDescriptor yX4_left.desc).map (fun d => d.parameters.length) = some 0 := by decide +kernel
theorem hyX6_trade : yX6_trade.cls ≠ "java/lang/invoke/MethodHandle" ∧ yX6_trade.cls ≠ "java/lang/invoke/VarHandle" ∧ (parseMethodDescriptor yX6_trade.desc).map (fun d => d.parameters.length) = some 2 := by decide +kernel
theorem hyX6_oneIfCut : yX6_oneIfCut.cls ≠ "java/lang/invoke/MethodHandle" ∧ yX6_oneIfCut.cls ≠ "java/lang/invoke/VarHandle" ∧ (parseMethodDescriptor yX6_oneIfCut.desc).map (fun d => d.parameters.length) = some 0 := by decide +kernel
theorem hyX2_reason : yX2_reason.cls ≠ "java/lang/invoke/MethodHandle" ∧ yX2_reason.cls ≠ "java/lang/invoke/VarHandle" ∧ (parseMethodDescriptor yX2_reason.desc).map (fun d => d.parameters.length) = some 1 := by decide +kernel
theorem hyX2_withoutPart : yX2_withoutPart.cls ≠ "java/lang/invoke/MethodHandle" ∧ yX2_withoutPart.cls ≠ "java/lang/invoke/VarHandle" ∧ (parseMethodDescriptor yX2_withoutPart.desc).map (fun d => d.parameters.length) = some 1 := by decide +kernel
theorem hyX2_ofOtherSize : yX2_ofOtherSize.cls ≠ "java/lang/invoke/MethodHandle" ∧ yX2_ofOtherSize.cls ≠ "java/lang/invoke/VarHandle" ∧ (parseMethodDescriptor yX2_ofOtherSize.desc).map (fun d => d.parameters.length) = some 1 := by decide +kernel
theorem hyX0_size : yX0_size.cls ≠ "java/lang/invoke/MethodHandle" ∧ yX0_size.cls ≠ "java/lang/invoke/VarHandle" ∧ (parseMethodDescriptor yX0_size.desc).map (fun d => d.parameters.length) = some 2 := by decide +kernel
theorem hyX2_notConnected : yX2_notConnected.cls ≠ "java/lang/invoke/MethodHandle" ∧ yX2_notConnected.cls ≠ "java/lang/invoke/VarHandle" ∧ (parseMethodDescriptor yX2_notConnected.desc).map (fun d => d.parameters.length) = some 1 := by decide +kernel
theorem hyX2_pieces : yX2_pieces.cls ≠ "java/lang/invoke/MethodHandle" ∧ yX2_pieces.cls ≠ "java/lang/invoke/VarHandle" ∧ (parseMethodDescriptor yX2_pieces.desc).map (fun d => d.parameters.length) = some 2 := by decide +kernel
theorem hyX2_reachFrom : yX2_reachFrom.cls ≠ "java/lang/invoke/MethodHandle" ∧ yX2_reachFrom.cls ≠ "java/lang/invoke/VarHandle" ∧ (parseMethodDescriptor yX2_reachFrom.desc).map (fun d => d.parameters.length) = some 3 := by decide +kernel
theorem hyX0_behind : yX0_behind.cls ≠ "java/lang/invoke/MethodHandle" ∧ yX0_behind.cls ≠ "java/lang/invoke/VarHandle" ∧ (parseMethodDescriptor yX0_behind.desc).map (fun d => d.parameters.length) = some 2 := by decide +kernel
theorem hyX6_snake : yX6_snake.cls ≠ "java/lang/invoke/MethodHandle" ∧ yX6_snake.cls ≠ "java/lang/invoke/VarHandle" ∧ (parseMethodDescriptor yX6_snake.desc).map (fun d => d.parameters.length) = some 1 := by decide +kernel
theorem hyX6_planSnake : yX6_planSnake.cls ≠ "java/lang/invoke/MethodHandle" ∧ yX6_planSnake.cls ≠ "java/lang/invoke/VarHandle" ∧ (parseMethodDescriptor yX6_planSnake.desc).map (fun d => d.parameters.length) = some 1 := by decide +kernel
theorem hyX6_cellOfSnake : yX6_cellOfSnake.cls ≠ "java/lang/invoke/MethodHandle" ∧ yX6_cellOfSnake.cls ≠ "java/lang/invoke/VarHandle" ∧ (parseMethodDescriptor yX6_cellOfSnake.desc).map (fun d => d.parameters.length) = some 2 := by decide +kernel
theorem hyX3_isLike : yX3_isLike.cls ≠ "java/lang/invoke/MethodHandle" ∧ yX3_isLike.cls ≠ "java/lang/invoke/VarHandle" ∧ (parseMethodDescriptor yX3_isLike.desc).map (fun d => d.parameters.length) = some 1 := by decide +kernel
theorem hyX6_adopt : yX6_adopt.cls ≠ "java/lang/invoke/MethodHandle" ∧ yX6_adopt.cls ≠ "java/lang/invoke/VarHandle" ∧ (parseMethodDescriptor yX6_adopt.desc).map (fun d => d.parameters.length) = some 0 := by decide +kernel
theorem hyX6_propose : yX6_propose.cls ≠ "java/lang/invoke/MethodHandle" ∧ yX6_propose.cls ≠ "java/lang/invoke/VarHandle" ∧ (parseMethodDescriptor yX6_propose.desc).map (fun d => d.parameters.length) = some 0 := by decide +kernel
theorem hyX6_freeze : yX6_freeze.cls ≠ "java/lang/invoke/MethodHandle" ∧ yX6_freeze.cls ≠ "java/lang/invoke/VarHandle" ∧ (parseMethodDescriptor yX6_freeze.desc).map (fun d => d.parameters.length) = some 1 := by decide +kernel
theorem hyX4_takePart : yX4_takePart.cls ≠ "java/lang/invoke/MethodHandle" ∧ yX4_takePart.cls ≠ "java/lang/invoke/VarHandle" ∧ (parseMethodDescriptor yX4_takePart.desc).map (fun d => d.parameters.length) = some 1 := by decide +kernel
theorem hyX4_makeDistrict : yX4_makeDistrict.cls ≠ "java/lang/invoke/MethodHandle" ∧ yX4_makeDistrict.cls ≠ "java/lang/invoke/VarHandle" ∧ (parseMethodDescriptor yX4_makeDistrict.desc).map (fun d => d.parameters.length) = some 3 := by decide +kernel
theorem hyX4_leaveRest : yX4_leaveRest.cls ≠ "java/lang/invoke/MethodHandle" ∧ yX4_leaveRest.cls ≠ "java/lang/invoke/VarHandle" ∧ (parseMethodDescriptor yX4_leaveRest.desc).map (fun d => d.parameters.length) = some 1 := by decide +kernel
theorem hyX6_type : yX6_type.cls ≠ "java/lang/invoke/MethodHandle" ∧ yX6_type.cls ≠ "java/lang/invoke/VarHandle" ∧ (parseMethodDescriptor yX6_type.desc).map (fun d => d.parameters.length) = some 1 := by decide +kernel
theorem hyX5_append : yX5_append.cls ≠ "java/lang/invoke/MethodHandle" ∧ yX5_append.cls ≠ "java/lang/invoke/VarHandle" ∧ (parseMethodDescriptor yX5_append.desc).map (fun d => d.parameters.length) = some 1 := by decide +kernel
theorem hyX5_length : yX5_length.cls ≠ "java/lang/invoke/MethodHandle" ∧ yX5_length.cls ≠ "java/lang/invoke/VarHandle" ∧ (parseMethodDescriptor yX5_length.desc).map (fun d => d.parameters.length) = some 0 := by decide +kernel
theorem hyX6_clearText : yX6_clearText.cls ≠ "java/lang/invoke/MethodHandle" ∧ yX6_clearText.cls ≠ "java/lang/invoke/VarHandle" ∧ (parseMethodDescriptor yX6_clearText.desc).map (fun d => d.parameters.length) = some 0 := by decide +kernel
theorem hyX5_empty : yX5_empty.cls ≠ "java/lang/invoke/MethodHandle" ∧ yX5_empty.cls ≠ "java/lang/invoke/VarHandle" ∧ (parseMethodDescriptor yX5_empty.desc).map (fun d => d.parameters.length) = some 0 := by decide +kernel
theorem hyX6_readVotes : yX6_readVotes.cls ≠ "java/lang/invoke/MethodHandle" ∧ yX6_readVotes.cls ≠ "java/lang/invoke/VarHandle" ∧ (parseMethodDescriptor yX6_readVotes.desc).map (fun d => d.parameters.length) = some 1 := by decide +kernel
theorem hyX5_fault : yX5_fault.cls ≠ "java/lang/invoke/MethodHandle" ∧ yX5_fault.cls ≠ "java/lang/invoke/VarHandle" ∧ (parseMethodDescriptor yX5_fault.desc).map (fun d => d.parameters.length) = some 0 := by decide +kernel
theorem hyX5_isAllowed : yX5_isAllowed.cls ≠ "java/lang/invoke/MethodHandle" ∧ yX5_isAllowed.cls ≠ "java/lang/invoke/VarHandle" ∧ (parseMethodDescriptor yX5_isAllowed.desc).map (fun d => d.parameters.length) = some 1 := by decide +kernel
theorem hyX5_at : yX5_at.cls ≠ "java/lang/invoke/MethodHandle" ∧ yX5_at.cls ≠ "java/lang/invoke/VarHandle" ∧ (parseMethodDescriptor yX5_at.desc).map (fun d => d.parameters.length) = some 1 := by decide +kernel
theorem hyX5_pairs : yX5_pairs.cls ≠ "java/lang/invoke/MethodHandle" ∧ yX5_pairs.cls ≠ "java/lang/invoke/VarHandle" ∧ (parseMethodDescriptor yX5_pairs.desc).map (fun d => d.parameters.length) = some 0 := by decide +kernel
theorem hyX5_votes : yX5_votes.cls ≠ "java/lang/invoke/MethodHandle" ∧ yX5_votes.cls ≠ "java/lang/invoke/VarHandle" ∧ (parseMethodDescriptor yX5_votes.desc).map (fun d => d.parameters.length) = some 2 := by decide +kernel
theorem hyX6_undo : yX6_undo.cls ≠ "java/lang/invoke/MethodHandle" ∧ yX6_undo.cls ≠ "java/lang/invoke/VarHandle" ∧ (parseMethodDescriptor yX6_undo.desc).map (fun d => d.parameters.length) = some 0 := by decide +kernel
theorem hyX1_size : yX1_size.cls ≠ "java/lang/invoke/MethodHandle" ∧ yX1_size.cls ≠ "java/lang/invoke/VarHandle" ∧ (parseMethodDescriptor yX1_size.desc).map (fun d => d.parameters.length) = some 0 := by decide +kernel
theorem hyX1_takeLatest : yX1_takeLatest.cls ≠ "java/lang/invoke/MethodHandle" ∧ yX1_takeLatest.cls ≠ "java/lang/invoke/VarHandle" ∧ (parseMethodDescriptor yX1_takeLatest.desc).map (fun d => d.parameters.length) = some 1 := by decide +kernel
theorem hyX6_keep : yX6_keep.cls ≠ "java/lang/invoke/MethodHandle" ∧ yX6_keep.cls ≠ "java/lang/invoke/VarHandle" ∧ (parseMethodDescriptor yX6_keep.desc).map (fun d => d.parameters.length) = some 0 := by decide +kernel
theorem hyX6_restore : yX6_restore.cls ≠ "java/lang/invoke/MethodHandle" ∧ yX6_restore.cls ≠ "java/lang/invoke/VarHandle" ∧ (parseMethodDescriptor yX6_restore.desc).map (fun d => d.parameters.length) = some 0 := by decide +kernel
theorem hyX6_cell : yX6_cell.cls ≠ "java/lang/invoke/MethodHandle" ∧ yX6_cell.cls ≠ "java/lang/invoke/VarHandle" ∧ (parseMethodDescriptor yX6_cell.desc).map (fun d => d.parameters.length) = some 2 := by decide +kernel
theorem hyX6_noneIfNothing : yX6_noneIfNothing.cls ≠ "java/lang/invoke/MethodHandle" ∧ yX6_noneIfNothing.cls ≠ "java/lang/invoke/VarHandle" ∧ (parseMethodDescriptor yX6_noneIfNothing.desc).map (fun d => d.parameters.length) = some 1 := by decide +kernel
theorem hyX0_alike : yX0_alike.cls ≠ "java/lang/invoke/MethodHandle" ∧ yX0_alike.cls ≠ "java/lang/invoke/VarHandle" ∧ (parseMethodDescriptor yX0_alike.desc).map (fun d => d.parameters.length) = some 2 := by decide +kernel
theorem hyX6_part : yX6_part.cls ≠ "java/lang/invoke/MethodHandle" ∧ yX6_part.cls ≠ "java/lang/invoke/VarHandle" ∧ (parseMethodDescriptor yX6_part.desc).map (fun d => d.parameters.length) = some 2 := by decide +kernel
theorem hyX6_tellArea : yX6_tellArea.cls ≠ "java/lang/invoke/MethodHandle" ∧ yX6_tellArea.cls ≠ "java/lang/invoke/VarHandle" ∧ (parseMethodDescriptor yX6_tellArea.desc).map (fun d => d.parameters.length) = some 3 := by decide +kernel
theorem hyX0_borders : yX0_borders.cls ≠ "java/lang/invoke/MethodHandle" ∧ yX0_borders.cls ≠ "java/lang/invoke/VarHandle" ∧ (parseMethodDescriptor yX0_borders.desc).map (fun d => d.parameters.length) = some 2 := by decide +kernel
theorem hyX4_margin : yX4_margin.cls ≠ "java/lang/invoke/MethodHandle" ∧ yX4_margin.cls ≠ "java/lang/invoke/VarHandle" ∧ (parseMethodDescriptor yX4_margin.desc).map (fun d => d.parameters.length) = some 3 := by decide +kernel
theorem hyX4_votesOf : yX4_votesOf.cls ≠ "java/lang/invoke/MethodHandle" ∧ yX4_votesOf.cls ≠ "java/lang/invoke/VarHandle" ∧ (parseMethodDescriptor yX4_votesOf.desc).map (fun d => d.parameters.length) = some 1 := by decide +kernel
theorem hyX0_votes : yX0_votes.cls ≠ "java/lang/invoke/MethodHandle" ∧ yX0_votes.cls ≠ "java/lang/invoke/VarHandle" ∧ (parseMethodDescriptor yX0_votes.desc).map (fun d => d.parameters.length) = some 3 := by decide +kernel
theorem hyX4_winner : yX4_winner.cls ≠ "java/lang/invoke/MethodHandle" ∧ yX4_winner.cls ≠ "java/lang/invoke/VarHandle" ∧ (parseMethodDescriptor yX4_winner.desc).map (fun d => d.parameters.length) = some 2 := by decide +kernel
theorem hyX0_lowest : yX0_lowest.cls ≠ "java/lang/invoke/MethodHandle" ∧ yX0_lowest.cls ≠ "java/lang/invoke/VarHandle" ∧ (parseMethodDescriptor yX0_lowest.desc).map (fun d => d.parameters.length) = some 2 := by decide +kernel
theorem hyX6_district : yX6_district.cls ≠ "java/lang/invoke/MethodHandle" ∧ yX6_district.cls ≠ "java/lang/invoke/VarHandle" ∧ (parseMethodDescriptor yX6_district.desc).map (fun d => d.parameters.length) = some 2 := by decide +kernel
theorem hyX4_wasted : yX4_wasted.cls ≠ "java/lang/invoke/MethodHandle" ∧ yX4_wasted.cls ≠ "java/lang/invoke/VarHandle" ∧ (parseMethodDescriptor yX4_wasted.desc).map (fun d => d.parameters.length) = some 2 := by decide +kernel
theorem hyX6_why : yX6_why.cls ≠ "java/lang/invoke/MethodHandle" ∧ yX6_why.cls ≠ "java/lang/invoke/VarHandle" ∧ (parseMethodDescriptor yX6_why.desc).map (fun d => d.parameters.length) = some 1 := by decide +kernel
theorem hyX2_blamed : yX2_blamed.cls ≠ "java/lang/invoke/MethodHandle" ∧ yX2_blamed.cls ≠ "java/lang/invoke/VarHandle" ∧ (parseMethodDescriptor yX2_blamed.desc).map (fun d => d.parameters.length) = some 1 := by decide +kernel
theorem hyX6_advice : yX6_advice.cls ≠ "java/lang/invoke/MethodHandle" ∧ yX6_advice.cls ≠ "java/lang/invoke/VarHandle" ∧ (parseMethodDescriptor yX6_advice.desc).map (fun d => d.parameters.length) = some 0 := by decide +kernel
theorem hyX4_player : yX4_player.cls ≠ "java/lang/invoke/MethodHandle" ∧ yX4_player.cls ≠ "java/lang/invoke/VarHandle" ∧ (parseMethodDescriptor yX4_player.desc).map (fun d => d.parameters.length) = some 0 := by decide +kernel
theorem hyX4_closestWon : yX4_closestWon.cls ≠ "java/lang/invoke/MethodHandle" ∧ yX4_closestWon.cls ≠ "java/lang/invoke/VarHandle" ∧ (parseMethodDescriptor yX4_closestWon.desc).map (fun d => d.parameters.length) = some 1 := by decide +kernel
theorem hyX4_mostLost : yX4_mostLost.cls ≠ "java/lang/invoke/MethodHandle" ∧ yX4_mostLost.cls ≠ "java/lang/invoke/VarHandle" ∧ (parseMethodDescriptor yX4_mostLost.desc).map (fun d => d.parameters.length) = some 1 := by decide +kernel
theorem hyX6_party : yX6_party.cls ≠ "java/lang/invoke/MethodHandle" ∧ yX6_party.cls ≠ "java/lang/invoke/VarHandle" ∧ (parseMethodDescriptor yX6_party.desc).map (fun d => d.parameters.length) = some 2 := by decide +kernel
theorem hyX4_seats : yX4_seats.cls ≠ "java/lang/invoke/MethodHandle" ∧ yX4_seats.cls ≠ "java/lang/invoke/VarHandle" ∧ (parseMethodDescriptor yX4_seats.desc).map (fun d => d.parameters.length) = some 1 := by decide +kernel
theorem hyX4_won : yX4_won.cls ≠ "java/lang/invoke/MethodHandle" ∧ yX4_won.cls ≠ "java/lang/invoke/VarHandle" ∧ (parseMethodDescriptor yX4_won.desc).map (fun d => d.parameters.length) = some 3 := by decide +kernel
theorem hyX3_sum : yX3_sum.cls ≠ "java/lang/invoke/MethodHandle" ∧ yX3_sum.cls ≠ "java/lang/invoke/VarHandle" ∧ (parseMethodDescriptor yX3_sum.desc).map (fun d => d.parameters.length) = some 0 := by decide +kernel
theorem hyX4_wastedInAll : yX4_wastedInAll.cls ≠ "java/lang/invoke/MethodHandle" ∧ yX4_wastedInAll.cls ≠ "java/lang/invoke/VarHandle" ∧ (parseMethodDescriptor yX4_wastedInAll.desc).map (fun d => d.parameters.length) = some 1 := by decide +kernel
theorem hyX6_fairness : yX6_fairness.cls ≠ "java/lang/invoke/MethodHandle" ∧ yX6_fairness.cls ≠ "java/lang/invoke/VarHandle" ∧ (parseMethodDescriptor yX6_fairness.desc).map (fun d => d.parameters.length) = some 0 := by decide +kernel
theorem hyX6_count : yX6_count.cls ≠ "java/lang/invoke/MethodHandle" ∧ yX6_count.cls ≠ "java/lang/invoke/VarHandle" ∧ (parseMethodDescriptor yX6_count.desc).map (fun d => d.parameters.length) = some 1 := by decide +kernel
theorem hyX4_openWithoutPart : yX4_openWithoutPart.cls ≠ "java/lang/invoke/MethodHandle" ∧ yX4_openWithoutPart.cls ≠ "java/lang/invoke/VarHandle" ∧ (parseMethodDescriptor yX4_openWithoutPart.desc).map (fun d => d.parameters.length) = some 0 := by decide +kernel
theorem hyX4_bordersOfAll : yX4_bordersOfAll.cls ≠ "java/lang/invoke/MethodHandle" ∧ yX4_bordersOfAll.cls ≠ "java/lang/invoke/VarHandle" ∧ (parseMethodDescriptor yX4_bordersOfAll.desc).map (fun d => d.parameters.length) = some 0 := by decide +kernel
theorem hyX7_init : yX7_init.cls ≠ "java/lang/invoke/MethodHandle" ∧ yX7_init.cls ≠ "java/lang/invoke/VarHandle" ∧ (parseMethodDescriptor yX7_init.desc).map (fun d => d.parameters.length) = some 0 := by decide +kernel
theorem hyX7_clear : yX7_clear.cls ≠ "java/lang/invoke/MethodHandle" ∧ yX7_clear.cls ≠ "java/lang/invoke/VarHandle" ∧ (parseMethodDescriptor yX7_clear.desc).map (fun d => d.parameters.length) = some 0 := by decide +kernel
theorem hyX7_undo : yX7_undo.cls ≠ "java/lang/invoke/MethodHandle" ∧ yX7_undo.cls ≠ "java/lang/invoke/VarHandle" ∧ (parseMethodDescriptor yX7_undo.desc).map (fun d => d.parameters.length) = some 0 := by decide +kernel
theorem hyX7_keep : yX7_keep.cls ≠ "java/lang/invoke/MethodHandle" ∧ yX7_keep.cls ≠ "java/lang/invoke/VarHandle" ∧ (parseMethodDescriptor yX7_keep.desc).map (fun d => d.parameters.length) = some 0 := by decide +kernel
theorem hyX7_restore : yX7_restore.cls ≠ "java/lang/invoke/MethodHandle" ∧ yX7_restore.cls ≠ "java/lang/invoke/VarHandle" ∧ (parseMethodDescriptor yX7_restore.desc).map (fun d => d.parameters.length) = some 0 := by decide +kernel
theorem hyX7_record : yX7_record.cls ≠ "java/lang/invoke/MethodHandle" ∧ yX7_record.cls ≠ "java/lang/invoke/VarHandle" ∧ (parseMethodDescriptor yX7_record.desc).map (fun d => d.parameters.length) = some 0 := by decide +kernel
theorem hyX7_setVotes : yX7_setVotes.cls ≠ "java/lang/invoke/MethodHandle" ∧ yX7_setVotes.cls ≠ "java/lang/invoke/VarHandle" ∧ (parseMethodDescriptor yX7_setVotes.desc).map (fun d => d.parameters.length) = some 3 := by decide +kernel
theorem hyX7_noCell : yX7_noCell.cls ≠ "java/lang/invoke/MethodHandle" ∧ yX7_noCell.cls ≠ "java/lang/invoke/VarHandle" ∧ (parseMethodDescriptor yX7_noCell.desc).map (fun d => d.parameters.length) = some 1 := by decide +kernel
theorem hyX7_in : yX7_in.cls ≠ "java/lang/invoke/MethodHandle" ∧ yX7_in.cls ≠ "java/lang/invoke/VarHandle" ∧ (parseMethodDescriptor yX7_in.desc).map (fun d => d.parameters.length) = some 3 := by decide +kernel
theorem hyX7_begin : yX7_begin.cls ≠ "java/lang/invoke/MethodHandle" ∧ yX7_begin.cls ≠ "java/lang/invoke/VarHandle" ∧ (parseMethodDescriptor yX7_begin.desc).map (fun d => d.parameters.length) = some 1 := by decide +kernel
theorem hyX7_size : yX7_size.cls ≠ "java/lang/invoke/MethodHandle" ∧ yX7_size.cls ≠ "java/lang/invoke/VarHandle" ∧ (parseMethodDescriptor yX7_size.desc).map (fun d => d.parameters.length) = some 0 := by decide +kernel
theorem hyX7_setTarget : yX7_setTarget.cls ≠ "java/lang/invoke/MethodHandle" ∧ yX7_setTarget.cls ≠ "java/lang/invoke/VarHandle" ∧ (parseMethodDescriptor yX7_setTarget.desc).map (fun d => d.parameters.length) = some 2 := by decide +kernel
theorem hyX7_draft : yX7_draft.cls ≠ "java/lang/invoke/MethodHandle" ∧ yX7_draft.cls ≠ "java/lang/invoke/VarHandle" ∧ (parseMethodDescriptor yX7_draft.desc).map (fun d => d.parameters.length) = some 2 := by decide +kernel
theorem hyX7_isOpen : yX7_isOpen.cls ≠ "java/lang/invoke/MethodHandle" ∧ yX7_isOpen.cls ≠ "java/lang/invoke/VarHandle" ∧ (parseMethodDescriptor yX7_isOpen.desc).map (fun d => d.parameters.length) = some 1 := by decide +kernel
theorem hyX7_noDraft : yX7_noDraft.cls ≠ "java/lang/invoke/MethodHandle" ∧ yX7_noDraft.cls ≠ "java/lang/invoke/VarHandle" ∧ (parseMethodDescriptor yX7_noDraft.desc).map (fun d => d.parameters.length) = some 0 := by decide +kernel
theorem hyX7_left : yX7_left.cls ≠ "java/lang/invoke/MethodHandle" ∧ yX7_left.cls ≠ "java/lang/invoke/VarHandle" ∧ (parseMethodDescriptor yX7_left.desc).map (fun d => d.parameters.length) = some 0 := by decide +kernel
theorem hyX7_trade : yX7_trade.cls ≠ "java/lang/invoke/MethodHandle" ∧ yX7_trade.cls ≠ "java/lang/invoke/VarHandle" ∧ (parseMethodDescriptor yX7_trade.desc).map (fun d => d.parameters.length) = some 2 := by decide +kernel
theorem hyX7_reason : yX7_reason.cls ≠ "java/lang/invoke/MethodHandle" ∧ yX7_reason.cls ≠ "java/lang/invoke/VarHandle" ∧ (parseMethodDescriptor yX7_reason.desc).map (fun d => d.parameters.length) = some 0 := by decide +kernel
theorem hyX7_cells : yX7_cells.cls ≠ "java/lang/invoke/MethodHandle" ∧ yX7_cells.cls ≠ "java/lang/invoke/VarHandle" ∧ (parseMethodDescriptor yX7_cells.desc).map (fun d => d.parameters.length) = some 2 := by decide +kernel
theorem hyX7_pieces : yX7_pieces.cls ≠ "java/lang/invoke/MethodHandle" ∧ yX7_pieces.cls ≠ "java/lang/invoke/VarHandle" ∧ (parseMethodDescriptor yX7_pieces.desc).map (fun d => d.parameters.length) = some 1 := by decide +kernel
theorem hyX7_spread : yX7_spread.cls ≠ "java/lang/invoke/MethodHandle" ∧ yX7_spread.cls ≠ "java/lang/invoke/VarHandle" ∧ (parseMethodDescriptor yX7_spread.desc).map (fun d => d.parameters.length) = some 1 := by decide +kernel
theorem hyX7_beside : yX7_beside.cls ≠ "java/lang/invoke/MethodHandle" ∧ yX7_beside.cls ≠ "java/lang/invoke/VarHandle" ∧ (parseMethodDescriptor yX7_beside.desc).map (fun d => d.parameters.length) = some 2 := by decide +kernel
theorem hyX7_snake : yX7_snake.cls ≠ "java/lang/invoke/MethodHandle" ∧ yX7_snake.cls ≠ "java/lang/invoke/VarHandle" ∧ (parseMethodDescriptor yX7_snake.desc).map (fun d => d.parameters.length) = some 1 := by decide +kernel
theorem hyX7_take : yX7_take.cls ≠ "java/lang/invoke/MethodHandle" ∧ yX7_take.cls ≠ "java/lang/invoke/VarHandle" ∧ (parseMethodDescriptor yX7_take.desc).map (fun d => d.parameters.length) = some 0 := by decide +kernel
theorem hyX7_adopt : yX7_adopt.cls ≠ "java/lang/invoke/MethodHandle" ∧ yX7_adopt.cls ≠ "java/lang/invoke/VarHandle" ∧ (parseMethodDescriptor yX7_adopt.desc).map (fun d => d.parameters.length) = some 0 := by decide +kernel
theorem hyX7_propose : yX7_propose.cls ≠ "java/lang/invoke/MethodHandle" ∧ yX7_propose.cls ≠ "java/lang/invoke/VarHandle" ∧ (parseMethodDescriptor yX7_propose.desc).map (fun d => d.parameters.length) = some 0 := by decide +kernel
theorem hyX7_freeze : yX7_freeze.cls ≠ "java/lang/invoke/MethodHandle" ∧ yX7_freeze.cls ≠ "java/lang/invoke/VarHandle" ∧ (parseMethodDescriptor yX7_freeze.desc).map (fun d => d.parameters.length) = some 1 := by decide +kernel
theorem hyX7_freezePart : yX7_freezePart.cls ≠ "java/lang/invoke/MethodHandle" ∧ yX7_freezePart.cls ≠ "java/lang/invoke/VarHandle" ∧ (parseMethodDescriptor yX7_freezePart.desc).map (fun d => d.parameters.length) = some 2 := by decide +kernel
theorem hyX7_type : yX7_type.cls ≠ "java/lang/invoke/MethodHandle" ∧ yX7_type.cls ≠ "java/lang/invoke/VarHandle" ∧ (parseMethodDescriptor yX7_type.desc).map (fun d => d.parameters.length) = some 1 := by decide +kernel
theorem hyX7_clearText : yX7_clearText.cls ≠ "java/lang/invoke/MethodHandle" ∧ yX7_clearText.cls ≠ "java/lang/invoke/VarHandle" ∧ (parseMethodDescriptor yX7_clearText.desc).map (fun d => d.parameters.length) = some 0 := by decide +kernel
theorem hyX7_readVotes : yX7_readVotes.cls ≠ "java/lang/invoke/MethodHandle" ∧ yX7_readVotes.cls ≠ "java/lang/invoke/VarHandle" ∧ (parseMethodDescriptor yX7_readVotes.desc).map (fun d => d.parameters.length) = some 1 := by decide +kernel
theorem hyX7_readPairs : yX7_readPairs.cls ≠ "java/lang/invoke/MethodHandle" ∧ yX7_readPairs.cls ≠ "java/lang/invoke/VarHandle" ∧ (parseMethodDescriptor yX7_readPairs.desc).map (fun d => d.parameters.length) = some 0 := by decide +kernel
theorem hyX7_sees : yX7_sees.cls ≠ "java/lang/invoke/MethodHandle" ∧ yX7_sees.cls ≠ "java/lang/invoke/VarHandle" ∧ (parseMethodDescriptor yX7_sees.desc).map (fun d => d.parameters.length) = some 2 := by decide +kernel
theorem hyX7_cell : yX7_cell.cls ≠ "java/lang/invoke/MethodHandle" ∧ yX7_cell.cls ≠ "java/lang/invoke/VarHandle" ∧ (parseMethodDescriptor yX7_cell.desc).map (fun d => d.parameters.length) = some 2 := by decide +kernel
theorem hyX7_orNone : yX7_orNone.cls ≠ "java/lang/invoke/MethodHandle" ∧ yX7_orNone.cls ≠ "java/lang/invoke/VarHandle" ∧ (parseMethodDescriptor yX7_orNone.desc).map (fun d => d.parameters.length) = some 1 := by decide +kernel
theorem hyX7_alikeBeside : yX7_alikeBeside.cls ≠ "java/lang/invoke/MethodHandle" ∧ yX7_alikeBeside.cls ≠ "java/lang/invoke/VarHandle" ∧ (parseMethodDescriptor yX7_alikeBeside.desc).map (fun d => d.parameters.length) = some 1 := by decide +kernel
theorem hyX7_part : yX7_part.cls ≠ "java/lang/invoke/MethodHandle" ∧ yX7_part.cls ≠ "java/lang/invoke/VarHandle" ∧ (parseMethodDescriptor yX7_part.desc).map (fun d => d.parameters.length) = some 2 := by decide +kernel
theorem hyX7_borders : yX7_borders.cls ≠ "java/lang/invoke/MethodHandle" ∧ yX7_borders.cls ≠ "java/lang/invoke/VarHandle" ∧ (parseMethodDescriptor yX7_borders.desc).map (fun d => d.parameters.length) = some 2 := by decide +kernel
theorem hyX7_margin : yX7_margin.cls ≠ "java/lang/invoke/MethodHandle" ∧ yX7_margin.cls ≠ "java/lang/invoke/VarHandle" ∧ (parseMethodDescriptor yX7_margin.desc).map (fun d => d.parameters.length) = some 2 := by decide +kernel
theorem hyX7_votes : yX7_votes.cls ≠ "java/lang/invoke/MethodHandle" ∧ yX7_votes.cls ≠ "java/lang/invoke/VarHandle" ∧ (parseMethodDescriptor yX7_votes.desc).map (fun d => d.parameters.length) = some 3 := by decide +kernel
theorem hyX7_winner : yX7_winner.cls ≠ "java/lang/invoke/MethodHandle" ∧ yX7_winner.cls ≠ "java/lang/invoke/VarHandle" ∧ (parseMethodDescriptor yX7_winner.desc).map (fun d => d.parameters.length) = some 2 := by decide +kernel
theorem hyX7_lowest : yX7_lowest.cls ≠ "java/lang/invoke/MethodHandle" ∧ yX7_lowest.cls ≠ "java/lang/invoke/VarHandle" ∧ (parseMethodDescriptor yX7_lowest.desc).map (fun d => d.parameters.length) = some 2 := by decide +kernel
theorem hyX7_district : yX7_district.cls ≠ "java/lang/invoke/MethodHandle" ∧ yX7_district.cls ≠ "java/lang/invoke/VarHandle" ∧ (parseMethodDescriptor yX7_district.desc).map (fun d => d.parameters.length) = some 2 := by decide +kernel
theorem hyX7_wasted : yX7_wasted.cls ≠ "java/lang/invoke/MethodHandle" ∧ yX7_wasted.cls ≠ "java/lang/invoke/VarHandle" ∧ (parseMethodDescriptor yX7_wasted.desc).map (fun d => d.parameters.length) = some 2 := by decide +kernel
theorem hyX7_why : yX7_why.cls ≠ "java/lang/invoke/MethodHandle" ∧ yX7_why.cls ≠ "java/lang/invoke/VarHandle" ∧ (parseMethodDescriptor yX7_why.desc).map (fun d => d.parameters.length) = some 1 := by decide +kernel
theorem hyX7_advice : yX7_advice.cls ≠ "java/lang/invoke/MethodHandle" ∧ yX7_advice.cls ≠ "java/lang/invoke/VarHandle" ∧ (parseMethodDescriptor yX7_advice.desc).map (fun d => d.parameters.length) = some 0 := by decide +kernel
theorem hyX7_party : yX7_party.cls ≠ "java/lang/invoke/MethodHandle" ∧ yX7_party.cls ≠ "java/lang/invoke/VarHandle" ∧ (parseMethodDescriptor yX7_party.desc).map (fun d => d.parameters.length) = some 2 := by decide +kernel
theorem hyX7_seats : yX7_seats.cls ≠ "java/lang/invoke/MethodHandle" ∧ yX7_seats.cls ≠ "java/lang/invoke/VarHandle" ∧ (parseMethodDescriptor yX7_seats.desc).map (fun d => d.parameters.length) = some 1 := by decide +kernel
theorem hyX7_votesOnMap : yX7_votesOnMap.cls ≠ "java/lang/invoke/MethodHandle" ∧ yX7_votesOnMap.cls ≠ "java/lang/invoke/VarHandle" ∧ (parseMethodDescriptor yX7_votesOnMap.desc).map (fun d => d.parameters.length) = some 1 := by decide +kernel
theorem hyX7_fairness : yX7_fairness.cls ≠ "java/lang/invoke/MethodHandle" ∧ yX7_fairness.cls ≠ "java/lang/invoke/VarHandle" ∧ (parseMethodDescriptor yX7_fairness.desc).map (fun d => d.parameters.length) = some 0 := by decide +kernel
theorem hyX7_count : yX7_count.cls ≠ "java/lang/invoke/MethodHandle" ∧ yX7_count.cls ≠ "java/lang/invoke/VarHandle" ∧ (parseMethodDescriptor yX7_count.desc).map (fun d => d.parameters.length) = some 1 := by decide +kernel
theorem hyX7_withoutPart : yX7_withoutPart.cls ≠ "java/lang/invoke/MethodHandle" ∧ yX7_withoutPart.cls ≠ "java/lang/invoke/VarHandle" ∧ (parseMethodDescriptor yX7_withoutPart.desc).map (fun d => d.parameters.length) = some 0 := by decide +kernel
theorem hyX7_allBorders : yX7_allBorders.cls ≠ "java/lang/invoke/MethodHandle" ∧ yX7_allBorders.cls ≠ "java/lang/invoke/VarHandle" ∧ (parseMethodDescriptor yX7_allBorders.desc).map (fun d => d.parameters.length) = some 0 := by decide +kernel
