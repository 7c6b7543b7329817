section
-- ===== PART A: goes FIRST, ahead of the names: the tables' words, and 'selects' of the private methods out of them =====
/-- a private method of a class that the tables say can be made, by its rows of tables_1 -/
def lw_okq (q : MethodName × Nat) : Prop := (q.1.cls ≠ "java/lang/invoke/MethodHandle" ∧ q.1.cls ≠ "java/lang/invoke/VarHandle") ∧ Cond.instantiable q.1.cls q.2 ∈ tables_1 ∧ Cond.privateMethod q.1 ∈ tables_1 ∧ Cond.instanceMethod q.1 ∈ tables_1
theorem lw_p0 : lw_okq (⟨"GongHouse$TuneReader", "takes", "(I)Z"⟩, 6) := ⟨⟨by decide +kernel, by decide +kernel⟩, List.mem_of_getElem? (i := 41) (by decide +kernel), List.mem_of_getElem? (i := 296) (by decide +kernel), List.mem_of_getElem? (i := 297) (by decide +kernel)⟩
theorem lw_p1 : lw_okq (⟨"GongHouse$TuneReader", "takesTimes", "(I)Z"⟩, 6) := ⟨⟨by decide +kernel, by decide +kernel⟩, List.mem_of_getElem? (i := 41) (by decide +kernel), List.mem_of_getElem? (i := 300) (by decide +kernel), List.mem_of_getElem? (i := 301) (by decide +kernel)⟩
theorem lw_p2 : lw_okq (⟨"GongHouse$TuneReader", "repeatFrom", "(II)V"⟩, 6) := ⟨⟨by decide +kernel, by decide +kernel⟩, List.mem_of_getElem? (i := 41) (by decide +kernel), List.mem_of_getElem? (i := 304) (by decide +kernel), List.mem_of_getElem? (i := 305) (by decide +kernel)⟩
theorem lw_p3 : lw_okq (⟨"GongHouse$TuneReader", "addBeat", "(II)V"⟩, 6) := ⟨⟨by decide +kernel, by decide +kernel⟩, List.mem_of_getElem? (i := 41) (by decide +kernel), List.mem_of_getElem? (i := 311) (by decide +kernel), List.mem_of_getElem? (i := 312) (by decide +kernel)⟩
theorem lw_p4 : lw_okq (⟨"GongHouse$TuneReader", "takesOpening", "()Z"⟩, 6) := ⟨⟨by decide +kernel, by decide +kernel⟩, List.mem_of_getElem? (i := 41) (by decide +kernel), List.mem_of_getElem? (i := 315) (by decide +kernel), List.mem_of_getElem? (i := 316) (by decide +kernel)⟩
theorem lw_p5 : lw_okq (⟨"GongHouse$TuneReader", "takesClosing", "()Z"⟩, 6) := ⟨⟨by decide +kernel, by decide +kernel⟩, List.mem_of_getElem? (i := 41) (by decide +kernel), List.mem_of_getElem? (i := 319) (by decide +kernel), List.mem_of_getElem? (i := 320) (by decide +kernel)⟩
theorem lw_p6 : lw_okq (⟨"GongHouse$TuneReader", "takesBeat", "(I)Z"⟩, 6) := ⟨⟨by decide +kernel, by decide +kernel⟩, List.mem_of_getElem? (i := 41) (by decide +kernel), List.mem_of_getElem? (i := 323) (by decide +kernel), List.mem_of_getElem? (i := 324) (by decide +kernel)⟩
theorem lw_p7 : lw_okq (⟨"GongHouse$TuneReader", "takesGong", "(I)Z"⟩, 6) := ⟨⟨by decide +kernel, by decide +kernel⟩, List.mem_of_getElem? (i := 41) (by decide +kernel), List.mem_of_getElem? (i := 330) (by decide +kernel), List.mem_of_getElem? (i := 331) (by decide +kernel)⟩
theorem lw_p8 : lw_okq (⟨"GongHouse$Circle", "setTones", "()V"⟩, 5) := ⟨⟨by decide +kernel, by decide +kernel⟩, List.mem_of_getElem? (i := 161) (by decide +kernel), List.mem_of_getElem? (i := 347) (by decide +kernel), List.mem_of_getElem? (i := 348) (by decide +kernel)⟩
theorem lw_p9 : lw_okq (⟨"GongHouse$Circle", "lastNote", "()I"⟩, 5) := ⟨⟨by decide +kernel, by decide +kernel⟩, List.mem_of_getElem? (i := 161) (by decide +kernel), List.mem_of_getElem? (i := 351) (by decide +kernel), List.mem_of_getElem? (i := 352) (by decide +kernel)⟩
theorem lw_p10 : lw_okq (⟨"GongHouse$Circle", "setTurns", "()V"⟩, 5) := ⟨⟨by decide +kernel, by decide +kernel⟩, List.mem_of_getElem? (i := 161) (by decide +kernel), List.mem_of_getElem? (i := 355) (by decide +kernel), List.mem_of_getElem? (i := 356) (by decide +kernel)⟩
theorem lw_p11 : lw_okq (⟨"GongHouse", "hasBeat", "(II)Z"⟩, 8) := ⟨⟨by decide +kernel, by decide +kernel⟩, List.mem_of_getElem? (i := 16) (by decide +kernel), List.mem_of_getElem? (i := 367) (by decide +kernel), List.mem_of_getElem? (i := 368) (by decide +kernel)⟩
theorem lw_p12 : lw_okq (⟨"GongHouse", "hasStep", "(III)Z"⟩, 8) := ⟨⟨by decide +kernel, by decide +kernel⟩, List.mem_of_getElem? (i := 16) (by decide +kernel), List.mem_of_getElem? (i := 384) (by decide +kernel), List.mem_of_getElem? (i := 385) (by decide +kernel)⟩
theorem lw_p13 : lw_okq (⟨"GongHouse", "goesTo", "(III)Z"⟩, 8) := ⟨⟨by decide +kernel, by decide +kernel⟩, List.mem_of_getElem? (i := 16) (by decide +kernel), List.mem_of_getElem? (i := 481) (by decide +kernel), List.mem_of_getElem? (i := 482) (by decide +kernel)⟩
theorem lw_p14 : lw_okq (⟨"GongHouse$LineTable", "entryOf", "(LGongHouse$Circle;I)I"⟩, 5) := ⟨⟨by decide +kernel, by decide +kernel⟩, List.mem_of_getElem? (i := 136) (by decide +kernel), List.mem_of_getElem? (i := 553) (by decide +kernel), List.mem_of_getElem? (i := 554) (by decide +kernel)⟩
theorem lw_p15 : lw_okq (⟨"GongHouse", "allBeats", "()I"⟩, 8) := ⟨⟨by decide +kernel, by decide +kernel⟩, List.mem_of_getElem? (i := 16) (by decide +kernel), List.mem_of_getElem? (i := 598) (by decide +kernel), List.mem_of_getElem? (i := 599) (by decide +kernel)⟩
def lw_privs_1 : List (MethodName × Nat) := [(⟨"GongHouse$TuneReader", "takes", "(I)Z"⟩, 6), (⟨"GongHouse$TuneReader", "takesTimes", "(I)Z"⟩, 6), (⟨"GongHouse$TuneReader", "repeatFrom", "(II)V"⟩, 6), (⟨"GongHouse$TuneReader", "addBeat", "(II)V"⟩, 6), (⟨"GongHouse$TuneReader", "takesOpening", "()Z"⟩, 6), (⟨"GongHouse$TuneReader", "takesClosing", "()Z"⟩, 6), (⟨"GongHouse$TuneReader", "takesBeat", "(I)Z"⟩, 6), (⟨"GongHouse$TuneReader", "takesGong", "(I)Z"⟩, 6), (⟨"GongHouse$Circle", "setTones", "()V"⟩, 5), (⟨"GongHouse$Circle", "lastNote", "()I"⟩, 5), (⟨"GongHouse$Circle", "setTurns", "()V"⟩, 5), (⟨"GongHouse", "hasBeat", "(II)Z"⟩, 8), (⟨"GongHouse", "hasStep", "(III)Z"⟩, 8), (⟨"GongHouse", "goesTo", "(III)Z"⟩, 8), (⟨"GongHouse$LineTable", "entryOf", "(LGongHouse$Circle;I)I"⟩, 5), (⟨"GongHouse", "allBeats", "()I"⟩, 8)]
theorem lw_r1 : ∀ q ∈ lw_privs_1, lw_okq q := List.forall_mem_cons.mpr ⟨lw_p0, List.forall_mem_cons.mpr ⟨lw_p1, List.forall_mem_cons.mpr ⟨lw_p2, List.forall_mem_cons.mpr ⟨lw_p3, List.forall_mem_cons.mpr ⟨lw_p4, List.forall_mem_cons.mpr ⟨lw_p5, List.forall_mem_cons.mpr ⟨lw_p6, List.forall_mem_cons.mpr ⟨lw_p7, List.forall_mem_cons.mpr ⟨lw_p8, List.forall_mem_cons.mpr ⟨lw_p9, List.forall_mem_cons.mpr ⟨lw_p10, List.forall_mem_cons.mpr ⟨lw_p11, List.forall_mem_cons.mpr ⟨lw_p12, List.forall_mem_cons.mpr ⟨lw_p13, List.forall_mem_cons.mpr ⟨lw_p14, List.forall_mem_cons.mpr ⟨lw_p15, fun _ h => absurd h List.not_mem_nil⟩⟩⟩⟩⟩⟩⟩⟩⟩⟩⟩⟩⟩⟩⟩⟩
theorem lw_p16 : lw_okq (⟨"GongHouse", "allGongs", "()I"⟩, 8) := ⟨⟨by decide +kernel, by decide +kernel⟩, List.mem_of_getElem? (i := 16) (by decide +kernel), List.mem_of_getElem? (i := 602) (by decide +kernel), List.mem_of_getElem? (i := 603) (by decide +kernel)⟩
theorem lw_p17 : lw_okq (⟨"GongHouse", "allRight", "()I"⟩, 8) := ⟨⟨by decide +kernel, by decide +kernel⟩, List.mem_of_getElem? (i := 16) (by decide +kernel), List.mem_of_getElem? (i := 606) (by decide +kernel), List.mem_of_getElem? (i := 607) (by decide +kernel)⟩
theorem lw_p18 : lw_okq (⟨"GongHouseModel", "four", "(I)V"⟩, 24) := ⟨⟨by decide +kernel, by decide +kernel⟩, List.mem_of_getElem? (i := 619) (by decide +kernel), List.mem_of_getElem? (i := 703) (by decide +kernel), List.mem_of_getElem? (i := 704) (by decide +kernel)⟩
theorem lw_p19 : lw_okq (⟨"GongHouseModel", "readTune", "()Z"⟩, 24) := ⟨⟨by decide +kernel, by decide +kernel⟩, List.mem_of_getElem? (i := 619) (by decide +kernel), List.mem_of_getElem? (i := 719) (by decide +kernel), List.mem_of_getElem? (i := 720) (by decide +kernel)⟩
theorem lw_p20 : lw_okq (⟨"GongHouseModel", "isBeatHere", "()Z"⟩, 24) := ⟨⟨by decide +kernel, by decide +kernel⟩, List.mem_of_getElem? (i := 619) (by decide +kernel), List.mem_of_getElem? (i := 723) (by decide +kernel), List.mem_of_getElem? (i := 724) (by decide +kernel)⟩
theorem lw_p21 : lw_okq (⟨"GongHouseModel", "here", "()I"⟩, 24) := ⟨⟨by decide +kernel, by decide +kernel⟩, List.mem_of_getElem? (i := 619) (by decide +kernel), List.mem_of_getElem? (i := 727) (by decide +kernel), List.mem_of_getElem? (i := 728) (by decide +kernel)⟩
theorem lw_p22 : lw_okq (⟨"GongHouseModel", "readBeat", "()V"⟩, 24) := ⟨⟨by decide +kernel, by decide +kernel⟩, List.mem_of_getElem? (i := 619) (by decide +kernel), List.mem_of_getElem? (i := 731) (by decide +kernel), List.mem_of_getElem? (i := 732) (by decide +kernel)⟩
theorem lw_p23 : lw_okq (⟨"GongHouseModel", "write", "(II)V"⟩, 24) := ⟨⟨by decide +kernel, by decide +kernel⟩, List.mem_of_getElem? (i := 619) (by decide +kernel), List.mem_of_getElem? (i := 738) (by decide +kernel), List.mem_of_getElem? (i := 739) (by decide +kernel)⟩
theorem lw_p24 : lw_okq (⟨"GongHouseModel", "readAgain", "()Z"⟩, 24) := ⟨⟨by decide +kernel, by decide +kernel⟩, List.mem_of_getElem? (i := 619) (by decide +kernel), List.mem_of_getElem? (i := 742) (by decide +kernel), List.mem_of_getElem? (i := 743) (by decide +kernel)⟩
theorem lw_p25 : lw_okq (⟨"GongHouseModel", "isBeat", "(II)Z"⟩, 24) := ⟨⟨by decide +kernel, by decide +kernel⟩, List.mem_of_getElem? (i := 619) (by decide +kernel), List.mem_of_getElem? (i := 754) (by decide +kernel), List.mem_of_getElem? (i := 755) (by decide +kernel)⟩
theorem lw_p26 : lw_okq (⟨"GongHouseModel", "tone", "(II)I"⟩, 24) := ⟨⟨by decide +kernel, by decide +kernel⟩, List.mem_of_getElem? (i := 619) (by decide +kernel), List.mem_of_getElem? (i := 762) (by decide +kernel), List.mem_of_getElem? (i := 763) (by decide +kernel)⟩
theorem lw_p27 : lw_okq (⟨"GongHouseModel", "wrongStep", "(II)I"⟩, 24) := ⟨⟨by decide +kernel, by decide +kernel⟩, List.mem_of_getElem? (i := 619) (by decide +kernel), List.mem_of_getElem? (i := 800) (by decide +kernel), List.mem_of_getElem? (i := 801) (by decide +kernel)⟩
theorem lw_p28 : lw_okq (⟨"GongHouseModel", "doesStrike", "(IIII)Z"⟩, 24) := ⟨⟨by decide +kernel, by decide +kernel⟩, List.mem_of_getElem? (i := 619) (by decide +kernel), List.mem_of_getElem? (i := 804) (by decide +kernel), List.mem_of_getElem? (i := 805) (by decide +kernel)⟩
theorem lw_p29 : lw_okq (⟨"GongHouseModel", "signalMany", "()I"⟩, 24) := ⟨⟨by decide +kernel, by decide +kernel⟩, List.mem_of_getElem? (i := 619) (by decide +kernel), List.mem_of_getElem? (i := 820) (by decide +kernel), List.mem_of_getElem? (i := 821) (by decide +kernel)⟩
theorem lw_p30 : lw_okq (⟨"GongHouseModel", "isRound", "(I)Z"⟩, 24) := ⟨⟨by decide +kernel, by decide +kernel⟩, List.mem_of_getElem? (i := 619) (by decide +kernel), List.mem_of_getElem? (i := 832) (by decide +kernel), List.mem_of_getElem? (i := 833) (by decide +kernel)⟩
theorem lw_p31 : lw_okq (⟨"GongHouseModel", "rounds", "()I"⟩, 24) := ⟨⟨by decide +kernel, by decide +kernel⟩, List.mem_of_getElem? (i := 619) (by decide +kernel), List.mem_of_getElem? (i := 836) (by decide +kernel), List.mem_of_getElem? (i := 837) (by decide +kernel)⟩
def lw_privs_2 : List (MethodName × Nat) := [(⟨"GongHouse", "allGongs", "()I"⟩, 8), (⟨"GongHouse", "allRight", "()I"⟩, 8), (⟨"GongHouseModel", "four", "(I)V"⟩, 24), (⟨"GongHouseModel", "readTune", "()Z"⟩, 24), (⟨"GongHouseModel", "isBeatHere", "()Z"⟩, 24), (⟨"GongHouseModel", "here", "()I"⟩, 24), (⟨"GongHouseModel", "readBeat", "()V"⟩, 24), (⟨"GongHouseModel", "write", "(II)V"⟩, 24), (⟨"GongHouseModel", "readAgain", "()Z"⟩, 24), (⟨"GongHouseModel", "isBeat", "(II)Z"⟩, 24), (⟨"GongHouseModel", "tone", "(II)I"⟩, 24), (⟨"GongHouseModel", "wrongStep", "(II)I"⟩, 24), (⟨"GongHouseModel", "doesStrike", "(IIII)Z"⟩, 24), (⟨"GongHouseModel", "signalMany", "()I"⟩, 24), (⟨"GongHouseModel", "isRound", "(I)Z"⟩, 24), (⟨"GongHouseModel", "rounds", "()I"⟩, 24)]
theorem lw_r2 : ∀ q ∈ lw_privs_2, lw_okq q := List.forall_mem_cons.mpr ⟨lw_p16, List.forall_mem_cons.mpr ⟨lw_p17, List.forall_mem_cons.mpr ⟨lw_p18, List.forall_mem_cons.mpr ⟨lw_p19, List.forall_mem_cons.mpr ⟨lw_p20, List.forall_mem_cons.mpr ⟨lw_p21, List.forall_mem_cons.mpr ⟨lw_p22, List.forall_mem_cons.mpr ⟨lw_p23, List.forall_mem_cons.mpr ⟨lw_p24, List.forall_mem_cons.mpr ⟨lw_p25, List.forall_mem_cons.mpr ⟨lw_p26, List.forall_mem_cons.mpr ⟨lw_p27, List.forall_mem_cons.mpr ⟨lw_p28, List.forall_mem_cons.mpr ⟨lw_p29, List.forall_mem_cons.mpr ⟨lw_p30, List.forall_mem_cons.mpr ⟨lw_p31, fun _ h => absurd h List.not_mem_nil⟩⟩⟩⟩⟩⟩⟩⟩⟩⟩⟩⟩⟩⟩⟩⟩
theorem lw_p32 : lw_okq (⟨"GongHouseModel", "goTo", "(I)V"⟩, 24) := ⟨⟨by decide +kernel, by decide +kernel⟩, List.mem_of_getElem? (i := 619) (by decide +kernel), List.mem_of_getElem? (i := 840) (by decide +kernel), List.mem_of_getElem? (i := 841) (by decide +kernel)⟩
theorem lw_p33 : lw_okq (⟨"GongHouseModel", "isStep", "(III)Z"⟩, 24) := ⟨⟨by decide +kernel, by decide +kernel⟩, List.mem_of_getElem? (i := 619) (by decide +kernel), List.mem_of_getElem? (i := 848) (by decide +kernel), List.mem_of_getElem? (i := 849) (by decide +kernel)⟩
theorem lw_p34 : lw_okq (⟨"GongHouseModel", "playedNow", "(III)I"⟩, 24) := ⟨⟨by decide +kernel, by decide +kernel⟩, List.mem_of_getElem? (i := 619) (by decide +kernel), List.mem_of_getElem? (i := 852) (by decide +kernel), List.mem_of_getElem? (i := 853) (by decide +kernel)⟩
theorem lw_p35 : lw_okq (⟨"GongHouseModel", "turn", "(II)I"⟩, 24) := ⟨⟨by decide +kernel, by decide +kernel⟩, List.mem_of_getElem? (i := 619) (by decide +kernel), List.mem_of_getElem? (i := 856) (by decide +kernel), List.mem_of_getElem? (i := 857) (by decide +kernel)⟩
theorem lw_p36 : lw_okq (⟨"GongHouseModel", "struck", "(IIIIII)I"⟩, 24) := ⟨⟨by decide +kernel, by decide +kernel⟩, List.mem_of_getElem? (i := 619) (by decide +kernel), List.mem_of_getElem? (i := 860) (by decide +kernel), List.mem_of_getElem? (i := 861) (by decide +kernel)⟩
theorem lw_p37 : lw_okq (⟨"GongHouseModel", "leapsOf", "(II)I"⟩, 24) := ⟨⟨by decide +kernel, by decide +kernel⟩, List.mem_of_getElem? (i := 619) (by decide +kernel), List.mem_of_getElem? (i := 883) (by decide +kernel), List.mem_of_getElem? (i := 884) (by decide +kernel)⟩
def lw_privs_3 : List (MethodName × Nat) := [(⟨"GongHouseModel", "goTo", "(I)V"⟩, 24), (⟨"GongHouseModel", "isStep", "(III)Z"⟩, 24), (⟨"GongHouseModel", "playedNow", "(III)I"⟩, 24), (⟨"GongHouseModel", "turn", "(II)I"⟩, 24), (⟨"GongHouseModel", "struck", "(IIIIII)I"⟩, 24), (⟨"GongHouseModel", "leapsOf", "(II)I"⟩, 24)]
theorem lw_r3 : ∀ q ∈ lw_privs_3, lw_okq q := List.forall_mem_cons.mpr ⟨lw_p32, List.forall_mem_cons.mpr ⟨lw_p33, List.forall_mem_cons.mpr ⟨lw_p34, List.forall_mem_cons.mpr ⟨lw_p35, List.forall_mem_cons.mpr ⟨lw_p36, List.forall_mem_cons.mpr ⟨lw_p37, fun _ h => absurd h List.not_mem_nil⟩⟩⟩⟩⟩⟩
def lw_privs : List (MethodName × Nat) := lw_privs_1 ++ (lw_privs_2 ++ (lw_privs_3))
def lw_tbl : List Cond := k2_sels lw_privs ++ tables_1
theorem lw_privs_ok : ∀ q ∈ lw_privs, lw_okq q := by
  show ∀ q ∈ lw_privs_1 ++ (lw_privs_2 ++ (lw_privs_3)), lw_okq q
  exact List.forall_mem_append.mpr ⟨lw_r1, List.forall_mem_append.mpr ⟨lw_r2, lw_r3⟩⟩
def RX0 : String := "GongHouse$Circle"
def TX0 : u_T := fun k => match k with
  | 0 => ("GongHouse$Circle", "notes", "[I", true)
  | 1 => ("GongHouse$Circle", "gongs", "[I", true)
  | 2 => ("GongHouse$Circle", "tones", "[I", true)
  | 3 => ("GongHouse$Circle", "turns", "[I", true)
  | _ => ("GongHouse$Circle", "beats", "I", false)
def tyX0 : Nat → FieldType := fun k => match k with
  | 0 => .array .int
  | 1 => .array .int
  | 2 => .array .int
  | 3 => .array .int
  | _ => .int
abbrev wsX00 : List Cond := u_ws RX0 TX0 5
theorem nmX0 : ∀ a, a < 5 → ∀ b, b < 5 → a ≠ b → (TX0 a).2.1 ≠ (TX0 b).2.1 := by decide +kernel
theorem tyX0_ok : ∀ k, k < 5 → parseFieldDescriptor (TX0 k).2.2.1 = some (tyX0 k) := by decide +kernel
def RX1 : String := "GongHouse$Figure"
def TX1 : u_T := fun k => match k with
  | 0 => ("GongHouse$Figure", "main", "[I", true)
  | 1 => ("GongHouse$Figure", "other", "[I", true)
  | _ => ("GongHouse$Figure", "mayBoth", "[Z", true)
def tyX1 : Nat → FieldType := fun k => match k with
  | 0 => .array .int
  | 1 => .array .int
  | _ => .array .boolean
abbrev wsX10 : List Cond := u_ws RX1 TX1 3
theorem nmX1 : ∀ a, a < 3 → ∀ b, b < 3 → a ≠ b → (TX1 a).2.1 ≠ (TX1 b).2.1 := by decide +kernel
theorem tyX1_ok : ∀ k, k < 3 → parseFieldDescriptor (TX1 k).2.2.1 = some (tyX1 k) := by decide +kernel
def RX2 : String := "GongHouse$Level"
def TX2 : u_T := fun k => match k with
  | 0 => ("GongHouse$Level", "steps", "I", true)
  | 1 => ("GongHouse$Level", "figures", "[LGongHouse$Figure;", true)
  | _ => ("GongHouse$Level", "used", "[I", true)
def tyX2 : Nat → FieldType := fun k => match k with
  | 0 => .int
  | 1 => .array (.object "GongHouse$Figure")
  | _ => .array .int
abbrev wsX20 : List Cond := u_ws RX2 TX2 3
theorem nmX2 : ∀ a, a < 3 → ∀ b, b < 3 → a ≠ b → (TX2 a).2.1 ≠ (TX2 b).2.1 := by decide +kernel
theorem tyX2_ok : ∀ k, k < 3 → parseFieldDescriptor (TX2 k).2.2.1 = some (tyX2 k) := by decide +kernel
def RX3 : String := "GongHouse$LineTable"
def TX3 : u_T := fun k => match k with
  | 0 => ("GongHouse$LineTable", "inner", "[I", true)
  | 1 => ("GongHouse$LineTable", "firstKeys", "[I", true)
  | 2 => ("GongHouse$LineTable", "lastKeys", "[I", true)
  | 3 => ("GongHouse$LineTable", "chosen", "[I", true)
  | _ => ("GongHouse$LineTable", "usable", "[Z", true)
def tyX3 : Nat → FieldType := fun k => match k with
  | 0 => .array .int
  | 1 => .array .int
  | 2 => .array .int
  | 3 => .array .int
  | _ => .array .boolean
abbrev wsX30 : List Cond := u_ws RX3 TX3 5
theorem nmX3 : ∀ a, a < 5 → ∀ b, b < 5 → a ≠ b → (TX3 a).2.1 ≠ (TX3 b).2.1 := by decide +kernel
theorem tyX3_ok : ∀ k, k < 5 → parseFieldDescriptor (TX3 k).2.2.1 = some (tyX3 k) := by decide +kernel
def RX4 : String := "GongHouse$Piece"
def TX4 : u_T := fun k => match k with
  | 0 => ("GongHouse$Piece", "partCircles", "[I", true)
  | 1 => ("GongHouse$Piece", "partTimes", "[I", true)
  | 2 => ("GongHouse$Piece", "partLevels", "[I", true)
  | 3 => ("GongHouse$Piece", "signalLevels", "[I", true)
  | 4 => ("GongHouse$Piece", "parts", "I", false)
  | _ => ("GongHouse$Piece", "signals", "I", false)
def tyX4 : Nat → FieldType := fun k => match k with
  | 0 => .array .int
  | 1 => .array .int
  | 2 => .array .int
  | 3 => .array .int
  | 4 => .int
  | _ => .int
abbrev wsX40 : List Cond := u_ws RX4 TX4 6
theorem nmX4 : ∀ a, a < 6 → ∀ b, b < 6 → a ≠ b → (TX4 a).2.1 ≠ (TX4 b).2.1 := by decide +kernel
theorem tyX4_ok : ∀ k, k < 6 → parseFieldDescriptor (TX4 k).2.2.1 = some (tyX4 k) := by decide +kernel
def RX5 : String := "GongHouse$Sheet"
def TX5 : u_T := fun k => match k with
  | 0 => ("GongHouse$Sheet", "bytes", "[B", true)
  | _ => ("GongHouse$Sheet", "places", "I", false)
def tyX5 : Nat → FieldType := fun k => match k with
  | 0 => .array .byte
  | _ => .int
abbrev wsX50 : List Cond := u_ws RX5 TX5 2
theorem nmX5 : ∀ a, a < 2 → ∀ b, b < 2 → a ≠ b → (TX5 a).2.1 ≠ (TX5 b).2.1 := by decide +kernel
theorem tyX5_ok : ∀ k, k < 2 → parseFieldDescriptor (TX5 k).2.2.1 = some (tyX5 k) := by decide +kernel
def RX6 : String := "GongHouse$Tape"
def TX6 : u_T := fun k => match k with
  | 0 => ("GongHouse$Tape", "bytes", "[B", true)
  | _ => ("GongHouse$Tape", "length", "I", false)
def tyX6 : Nat → FieldType := fun k => match k with
  | 0 => .array .byte
  | _ => .int
abbrev wsX60 : List Cond := u_ws RX6 TX6 2
theorem nmX6 : ∀ a, a < 2 → ∀ b, b < 2 → a ≠ b → (TX6 a).2.1 ≠ (TX6 b).2.1 := by decide +kernel
theorem tyX6_ok : ∀ k, k < 2 → parseFieldDescriptor (TX6 k).2.2.1 = some (tyX6 k) := by decide +kernel
def RX7 : String := "GongHouse$TuneReader"
def TX7 : u_T := fun k => match k with
  | 0 => ("GongHouse$TuneReader", "notes", "[I", true)
  | 1 => ("GongHouse$TuneReader", "gongs", "[I", true)
  | 2 => ("GongHouse$TuneReader", "beats", "I", false)
  | 3 => ("GongHouse$TuneReader", "opened", "I", false)
  | 4 => ("GongHouse$TuneReader", "awaitsTimes", "Z", false)
  | _ => ("GongHouse$TuneReader", "awaitsGong", "Z", false)
def tyX7 : Nat → FieldType := fun k => match k with
  | 0 => .array .int
  | 1 => .array .int
  | 2 => .int
  | 3 => .int
  | 4 => .boolean
  | _ => .boolean
abbrev wsX70 : List Cond := u_ws RX7 TX7 6
theorem nmX7 : ∀ a, a < 6 → ∀ b, b < 6 → a ≠ b → (TX7 a).2.1 ≠ (TX7 b).2.1 := by decide +kernel
theorem tyX7_ok : ∀ k, k < 6 → parseFieldDescriptor (TX7 k).2.2.1 = some (tyX7 k) := by decide +kernel
def RX8 : String := "GongHouse$Walk"
def TX8 : u_T := fun k => match k with
  | 0 => ("GongHouse$Walk", "circle", "I", false)
  | 1 => ("GongHouse$Walk", "level", "I", false)
  | 2 => ("GongHouse$Walk", "part", "I", false)
  | _ => ("GongHouse$Walk", "tick", "I", false)
def tyX8 : Nat → FieldType := fun k => match k with
  | 0 => .int
  | 1 => .int
  | 2 => .int
  | _ => .int
abbrev wsX80 : List Cond := u_ws RX8 TX8 4
theorem nmX8 : ∀ a, a < 4 → ∀ b, b < 4 → a ≠ b → (TX8 a).2.1 ≠ (TX8 b).2.1 := by decide +kernel
theorem tyX8_ok : ∀ k, k < 4 → parseFieldDescriptor (TX8 k).2.2.1 = some (tyX8 k) := by decide +kernel
def RX9 : String := "GongHouse"
def TX9 : u_T := fun k => match k with
  | 0 => ("GongHouse", "tape", "LGongHouse$Tape;", true)
  | 1 => ("GongHouse", "reader", "LGongHouse$TuneReader;", true)
  | 2 => ("GongHouse", "circles", "[LGongHouse$Circle;", true)
  | 3 => ("GongHouse", "levels", "[LGongHouse$Level;", true)
  | 4 => ("GongHouse", "piece", "LGongHouse$Piece;", true)
  | 5 => ("GongHouse", "walk", "LGongHouse$Walk;", true)
  | 6 => ("GongHouse", "lines", "LGongHouse$LineTable;", true)
  | _ => ("GongHouse", "sheets", "[LGongHouse$Sheet;", true)
def tyX9 : Nat → FieldType := fun k => match k with
  | 0 => .object "GongHouse$Tape"
  | 1 => .object "GongHouse$TuneReader"
  | 2 => .array (.object "GongHouse$Circle")
  | 3 => .array (.object "GongHouse$Level")
  | 4 => .object "GongHouse$Piece"
  | 5 => .object "GongHouse$Walk"
  | 6 => .object "GongHouse$LineTable"
  | _ => .array (.object "GongHouse$Sheet")
abbrev wsX90 : List Cond := u_ws RX9 TX9 8
theorem nmX9 : ∀ a, a < 8 → ∀ b, b < 8 → a ≠ b → (TX9 a).2.1 ≠ (TX9 b).2.1 := by decide +kernel
theorem tyX9_ok : ∀ k, k < 8 → parseFieldDescriptor (TX9 k).2.2.1 = some (tyX9 k) := by decide +kernel
def RX10 : String := "GongHouseModel"
def TX10 : u_T := fun k => match k with
  | 0 => ("GongHouseModel", "beats", "[I", true)
  | 1 => ("GongHouseModel", "notes", "[I", true)
  | 2 => ("GongHouseModel", "gongs", "[I", true)
  | 3 => ("GongHouseModel", "shifts", "[I", true)
  | 4 => ("GongHouseModel", "may", "[Z", true)
  | 5 => ("GongHouseModel", "used", "[I", true)
  | 6 => ("GongHouseModel", "parts", "I", false)
  | 7 => ("GongHouseModel", "pCircle", "[I", true)
  | 8 => ("GongHouseModel", "pTimes", "[I", true)
  | 9 => ("GongHouseModel", "pLevel", "[I", true)
  | 10 => ("GongHouseModel", "signals", "[I", true)
  | 11 => ("GongHouseModel", "tape", "[I", true)
  | 12 => ("GongHouseModel", "taped", "I", false)
  | 13 => ("GongHouseModel", "places", "[I", true)
  | 14 => ("GongHouseModel", "numbers", "[I", true)
  | 15 => ("GongHouseModel", "read", "I", false)
  | 16 => ("GongHouseModel", "many", "I", false)
  | 17 => ("GongHouseModel", "newNotes", "[I", true)
  | 18 => ("GongHouseModel", "newGongs", "[I", true)
  | 19 => ("GongHouseModel", "partNow", "I", false)
  | 20 => ("GongHouseModel", "levelNow", "I", false)
  | 21 => ("GongHouseModel", "tickNow", "I", false)
  | 22 => ("GongHouseModel", "three", "[I", true)
  | _ => ("GongHouseModel", "carried", "[I", true)
def tyX10 : Nat → FieldType := fun k => match k with
  | 0 => .array .int
  | 1 => .array .int
  | 2 => .array .int
  | 3 => .array .int
  | 4 => .array .boolean
  | 5 => .array .int
  | 6 => .int
  | 7 => .array .int
  | 8 => .array .int
  | 9 => .array .int
  | 10 => .array .int
  | 11 => .array .int
  | 12 => .int
  | 13 => .array .int
  | 14 => .array .int
  | 15 => .int
  | 16 => .int
  | 17 => .array .int
  | 18 => .array .int
  | 19 => .int
  | 20 => .int
  | 21 => .int
  | 22 => .array .int
  | _ => .array .int
abbrev wsX100 : List Cond := u_ws RX10 TX10 24
theorem nmX10 : ∀ a, a < 24 → ∀ b, b < 24 → a ≠ b → (TX10 a).2.1 ≠ (TX10 b).2.1 := by decide +kernel
theorem tyX10_ok : ∀ k, k < 24 → parseFieldDescriptor (TX10 k).2.2.1 = some (tyX10 k) := by decide +kernel
def RL : String := "GongHouseLaw"
abbrev vwCl : List vw_C := [(RX0, TX0, 5), (RX1, TX1, 3), (RX2, TX2, 3), (RX3, TX3, 5), (RX4, TX4, 6), (RX5, TX5, 2), (RX6, TX6, 2), (RX7, TX7, 6), (RX8, TX8, 4), (RX9, TX9, 8), (RX10, TX10, 24)]
def Tb : List Cond := lw_tbl.filter goodWord
theorem tb_m {w : Cond} (i : Nat) (h : lw_tbl[i]? = some w) (g : goodWord w = true) : w ∈ Tb := List.mem_filter.mpr ⟨List.mem_of_getElem? h, g⟩
theorem tb_g : GoodIn lw_tbl Tb := fun w h => ⟨(List.mem_filter.mp h).1, good_of_word (List.mem_filter.mp h).2⟩
theorem tb_gg : GoodIn Tb Tb := fun w h => ⟨h, good_of_word (List.mem_filter.mp h).2⟩
def NwTb : List Cond := [.methodLinkNest "GongHouse" 9 ⟨"GongHouse$Tape", "<init>", "()V"⟩ "GongHouse", .methodLinkNest "GongHouse" 18 ⟨"GongHouse$TuneReader", "<init>", "()V"⟩ "GongHouse", .methodLinkNest "GongHouse" 44 ⟨"GongHouse$Walk", "<init>", "()V"⟩ "GongHouse", .methodLinkNest "GongHouse" 51 ⟨"GongHouse$LineTable", "<init>", "()V"⟩ "GongHouse", .methodLinkNest "GongHouse" 66 ⟨"GongHouse$Sheet", "<init>", "()V"⟩ "GongHouse", .methodLinkNest "GongHouse$TuneReader" 73 ⟨"GongHouse", "isBelow", "(II)Z"⟩ "GongHouse", .methodLinkNest "GongHouse$Figure" 43 ⟨"GongHouse", "isShift", "(I)Z"⟩ "GongHouse", .methodLinkNest "GongHouse$Figure" 47 ⟨"GongHouse", "countTold", "([II)I"⟩ "GongHouse", .methodLinkNest "GongHouse$Piece" 38 ⟨"GongHouse", "countTold", "([II)I"⟩ "GongHouse", .methodLinkNest "GongHouse$Circle" 66 ⟨"GongHouse", "countTold", "([II)I"⟩ "GongHouse", .methodLinkNest "GongHouse$LineTable" 41 ⟨"GongHouse", "keyOf", "(II)I"⟩ "GongHouse"]
theorem nw_mem : ∀ w ∈ NwTb, w ∈ lw_tbl := by
  intro w hw
  simp only [NwTb, List.mem_cons, List.not_mem_nil, or_false] at hw
  rcases hw with rfl | rfl | rfl | rfl | rfl | rfl | rfl | rfl | rfl | rfl | rfl
  · exact List.mem_of_getElem? (i := 63) (by decide +kernel)
  · exact List.mem_of_getElem? (i := 80) (by decide +kernel)
  · exact List.mem_of_getElem? (i := 152) (by decide +kernel)
  · exact List.mem_of_getElem? (i := 175) (by decide +kernel)
  · exact List.mem_of_getElem? (i := 271) (by decide +kernel)
  · exact List.mem_of_getElem? (i := 345) (by decide +kernel)
  · exact List.mem_of_getElem? (i := 450) (by decide +kernel)
  · exact List.mem_of_getElem? (i := 455) (by decide +kernel)
  · exact List.mem_of_getElem? (i := 493) (by decide +kernel)
  · exact List.mem_of_getElem? (i := 550) (by decide +kernel)
  · exact List.mem_of_getElem? (i := 582) (by decide +kernel)
theorem cw_0 : ∀ w ∈ u_ws RX0 TX0 5, w ∈ Tb := by
  intro w hw
  simp only [u_ws, List.mem_map, List.mem_range] at hw
  obtain ⟨k, hk, rfl⟩ := hw
  match k, hk with
  | 0, _ => exact tb_m 220 (by decide +kernel) rfl
  | 1, _ => exact tb_m 222 (by decide +kernel) rfl
  | 2, _ => exact tb_m 224 (by decide +kernel) rfl
  | 3, _ => exact tb_m 226 (by decide +kernel) rfl
  | 4, _ => exact tb_m 228 (by decide +kernel) rfl
  | n + 5, h => exact absurd h (by omega)
theorem cw_1 : ∀ w ∈ u_ws RX1 TX1 3, w ∈ Tb := by
  intro w hw
  simp only [u_ws, List.mem_map, List.mem_range] at hw
  obtain ⟨k, hk, rfl⟩ := hw
  match k, hk with
  | 0, _ => exact tb_m 250 (by decide +kernel) rfl
  | 1, _ => exact tb_m 252 (by decide +kernel) rfl
  | 2, _ => exact tb_m 254 (by decide +kernel) rfl
  | n + 3, h => exact absurd h (by omega)
theorem cw_2 : ∀ w ∈ u_ws RX2 TX2 3, w ∈ Tb := by
  intro w hw
  simp only [u_ws, List.mem_map, List.mem_range] at hw
  obtain ⟨k, hk, rfl⟩ := hw
  match k, hk with
  | 0, _ => exact tb_m 263 (by decide +kernel) rfl
  | 1, _ => exact tb_m 265 (by decide +kernel) rfl
  | 2, _ => exact tb_m 267 (by decide +kernel) rfl
  | n + 3, h => exact absurd h (by omega)
theorem cw_3 : ∀ w ∈ u_ws RX3 TX3 5, w ∈ Tb := by
  intro w hw
  simp only [u_ws, List.mem_map, List.mem_range] at hw
  obtain ⟨k, hk, rfl⟩ := hw
  match k, hk with
  | 0, _ => exact tb_m 185 (by decide +kernel) rfl
  | 1, _ => exact tb_m 187 (by decide +kernel) rfl
  | 2, _ => exact tb_m 189 (by decide +kernel) rfl
  | 3, _ => exact tb_m 191 (by decide +kernel) rfl
  | 4, _ => exact tb_m 193 (by decide +kernel) rfl
  | n + 5, h => exact absurd h (by omega)
theorem cw_4 : ∀ w ∈ u_ws RX4 TX4 6, w ∈ Tb := by
  intro w hw
  simp only [u_ws, List.mem_map, List.mem_range] at hw
  obtain ⟨k, hk, rfl⟩ := hw
  match k, hk with
  | 0, _ => exact tb_m 137 (by decide +kernel) rfl
  | 1, _ => exact tb_m 139 (by decide +kernel) rfl
  | 2, _ => exact tb_m 141 (by decide +kernel) rfl
  | 3, _ => exact tb_m 143 (by decide +kernel) rfl
  | 4, _ => exact tb_m 145 (by decide +kernel) rfl
  | 5, _ => exact tb_m 147 (by decide +kernel) rfl
  | n + 6, h => exact absurd h (by omega)
theorem cw_5 : ∀ w ∈ u_ws RX5 TX5 2, w ∈ Tb := by
  intro w hw
  simp only [u_ws, List.mem_map, List.mem_range] at hw
  obtain ⟨k, hk, rfl⟩ := hw
  match k, hk with
  | 0, _ => exact tb_m 281 (by decide +kernel) rfl
  | 1, _ => exact tb_m 283 (by decide +kernel) rfl
  | n + 2, h => exact absurd h (by omega)
theorem cw_6 : ∀ w ∈ u_ws RX6 TX6 2, w ∈ Tb := by
  intro w hw
  simp only [u_ws, List.mem_map, List.mem_range] at hw
  obtain ⟨k, hk, rfl⟩ := hw
  match k, hk with
  | 0, _ => exact tb_m 72 (by decide +kernel) rfl
  | 1, _ => exact tb_m 74 (by decide +kernel) rfl
  | n + 2, h => exact absurd h (by omega)
theorem cw_7 : ∀ w ∈ u_ws RX7 TX7 6, w ∈ Tb := by
  intro w hw
  simp only [u_ws, List.mem_map, List.mem_range] at hw
  obtain ⟨k, hk, rfl⟩ := hw
  match k, hk with
  | 0, _ => exact tb_m 95 (by decide +kernel) rfl
  | 1, _ => exact tb_m 97 (by decide +kernel) rfl
  | 2, _ => exact tb_m 99 (by decide +kernel) rfl
  | 3, _ => exact tb_m 101 (by decide +kernel) rfl
  | 4, _ => exact tb_m 103 (by decide +kernel) rfl
  | 5, _ => exact tb_m 105 (by decide +kernel) rfl
  | n + 6, h => exact absurd h (by omega)
theorem cw_8 : ∀ w ∈ u_ws RX8 TX8 4, w ∈ Tb := by
  intro w hw
  simp only [u_ws, List.mem_map, List.mem_range] at hw
  obtain ⟨k, hk, rfl⟩ := hw
  match k, hk with
  | 0, _ => exact tb_m 164 (by decide +kernel) rfl
  | 1, _ => exact tb_m 166 (by decide +kernel) rfl
  | 2, _ => exact tb_m 168 (by decide +kernel) rfl
  | 3, _ => exact tb_m 170 (by decide +kernel) rfl
  | n + 4, h => exact absurd h (by omega)
theorem cw_9 : ∀ w ∈ u_ws RX9 TX9 8, w ∈ Tb := by
  intro w hw
  simp only [u_ws, List.mem_map, List.mem_range] at hw
  obtain ⟨k, hk, rfl⟩ := hw
  match k, hk with
  | 0, _ => exact tb_m 294 (by decide +kernel) rfl
  | 1, _ => exact tb_m 296 (by decide +kernel) rfl
  | 2, _ => exact tb_m 298 (by decide +kernel) rfl
  | 3, _ => exact tb_m 300 (by decide +kernel) rfl
  | 4, _ => exact tb_m 302 (by decide +kernel) rfl
  | 5, _ => exact tb_m 304 (by decide +kernel) rfl
  | 6, _ => exact tb_m 306 (by decide +kernel) rfl
  | 7, _ => exact tb_m 308 (by decide +kernel) rfl
  | n + 8, h => exact absurd h (by omega)
theorem cw_10 : ∀ w ∈ u_ws RX10 TX10 24, w ∈ Tb := by
  intro w hw
  simp only [u_ws, List.mem_map, List.mem_range] at hw
  obtain ⟨k, hk, rfl⟩ := hw
  match k, hk with
  | 0, _ => exact tb_m 686 (by decide +kernel) rfl
  | 1, _ => exact tb_m 688 (by decide +kernel) rfl
  | 2, _ => exact tb_m 690 (by decide +kernel) rfl
  | 3, _ => exact tb_m 692 (by decide +kernel) rfl
  | 4, _ => exact tb_m 694 (by decide +kernel) rfl
  | 5, _ => exact tb_m 696 (by decide +kernel) rfl
  | 6, _ => exact tb_m 698 (by decide +kernel) rfl
  | 7, _ => exact tb_m 700 (by decide +kernel) rfl
  | 8, _ => exact tb_m 702 (by decide +kernel) rfl
  | 9, _ => exact tb_m 704 (by decide +kernel) rfl
  | 10, _ => exact tb_m 706 (by decide +kernel) rfl
  | 11, _ => exact tb_m 708 (by decide +kernel) rfl
  | 12, _ => exact tb_m 710 (by decide +kernel) rfl
  | 13, _ => exact tb_m 712 (by decide +kernel) rfl
  | 14, _ => exact tb_m 714 (by decide +kernel) rfl
  | 15, _ => exact tb_m 716 (by decide +kernel) rfl
  | 16, _ => exact tb_m 718 (by decide +kernel) rfl
  | 17, _ => exact tb_m 720 (by decide +kernel) rfl
  | 18, _ => exact tb_m 722 (by decide +kernel) rfl
  | 19, _ => exact tb_m 724 (by decide +kernel) rfl
  | 20, _ => exact tb_m 726 (by decide +kernel) rfl
  | 21, _ => exact tb_m 728 (by decide +kernel) rfl
  | 22, _ => exact tb_m 730 (by decide +kernel) rfl
  | 23, _ => exact tb_m 732 (by decide +kernel) rfl
  | n + 24, h => exact absurd h (by omega)
end
section
/-! THE JUDGEMENT Y: a method at a pc, with locals, stack and memory (addresses relative to a base), comes to a return -/
abbrev Ly : Type := List (Nat × Nat × List (Option Nat))
abbrev Mm : Type := Nat → Nat → Int32
abbrev Sg : Type := Ly × Mm
/-- a method: name, code, locals, answer's type, room in frames and in locals' words, its instructions -/
abbrev Mi : Type := MethodName × ByteArray × Nat × Option FieldType × Nat × Nat × List (Nat × Instr × Nat)
abbrev m_y (M : Mi) : MethodName := M.1
abbrev m_c (M : Mi) : ByteArray := M.2.1
abbrev m_l (M : Mi) : Nat := M.2.2.1
abbrev m_r (M : Mi) : Option FieldType := M.2.2.2.1
abbrev m_f (M : Mi) : Nat := M.2.2.2.2.1
abbrev m_w (M : Mi) : Nat := M.2.2.2.2.2.1
abbrev m_t (M : Mi) : List (Nat × Instr × Nat) := M.2.2.2.2.2.2
def ty_c (ci k : Nat) : FieldType := match ci with
  | 0 => tyX0 k
  | 1 => tyX1 k
  | 2 => tyX2 k
  | 3 => tyX3 k
  | 4 => tyX4 k
  | 5 => tyX5 k
  | 6 => tyX6 k
  | 7 => tyX7 k
  | 8 => tyX8 k
  | 9 => tyX9 k
  | _ => tyX10 k
def is_I (t : FieldType) : Bool := match t with
  | .int => true
  | .boolean => true
  | _ => false
def cl_e (cA : Nat → ClassId) (base : Nat) (e : Nat × Nat × List (Option Nat)) (row : Nat → Int32) : va_E :=
  if e.1 < 11 then .inr (e.1, (List.range e.2.1).map (fun k => if is_I (ty_c e.1 k) = true then Value.int (row k) else va_rf ((e.2.2.getD k none).map (fun r => base + r))))
  else if e.1 < 14 then .inl (cA e.1, e.2.1, .inl row)
  else .inl (cA e.1, e.2.1, .inr (.inr (.inr (.inr (fun k => (e.2.2.getD k none).map (fun r => base + r))))))
def wd_ (cA : Nat → ClassId) (base : Nat) (σ : Sg) : va_W := σ.1.mapIdx (fun a e => (base + a, cl_e cA base e (σ.2 a)))
def ur_ (m : Mm) (a : Nat) (row : Nat → Int32) : Mm := fun b => if b = a then row else m b
def uw_ (m : Mm) (a k : Nat) (v : Int32) : Mm := fun b j => if b = a ∧ j = k then v else m b j
set_option maxHeartbeats 400000 in
theorem ur_w (m : Mm) (a k : Nat) (v : Int32) : ur_ m a (upd (m a) k v) = uw_ m a k v := by
  funext b j
  by_cases hb : b = a
  · subst hb
    by_cases hj : j = k <;> simp [ur_, uw_, upd, hj]
  · simp [ur_, uw_, hb]
set_option maxHeartbeats 400000 in
theorem wd_get {cA : Nat → ClassId} {base : Nat} {σ : Sg} {a : Nat} {e : Nat × Nat × List (Option Nat)} (h : σ.1[a]? = some e) : (wd_ cA base σ)[a]? = some (base + a, cl_e cA base e (σ.2 a)) := by
  simp [wd_, List.getElem?_mapIdx, h]
set_option maxHeartbeats 400000 in
theorem wd_inv {cA : Nat → ClassId} {base : Nat} {σ : Sg} {a : Nat} {q : Nat × va_E} (h : (wd_ cA base σ)[a]? = some q) : q.1 = base + a ∧ a < σ.1.length := by
  simp only [wd_, List.getElem?_mapIdx, Option.map_eq_some_iff] at h
  obtain ⟨e, h1, h2⟩ := h
  exact ⟨by rw [← h2], (List.getElem?_eq_some_iff.mp h1).1⟩
set_option maxHeartbeats 400000 in
theorem wd_D {cA : Nat → ClassId} {base : Nat} {σ : Sg} : va_D (fun q => base ≤ q) (wd_ cA base σ) := by
  refine ⟨fun i j p q hi hj hpq => ?_, fun k q hk => ?_⟩
  · have h1 := (wd_inv hi).1
    have h2 := (wd_inv hj).1
    omega
  · have h1 := (wd_inv hk).1
    show base ≤ q.1
    omega
set_option maxHeartbeats 400000 in
theorem wd_set {cA : Nat → ClassId} {base : Nat} {lay : Ly} {m : Mm} {a : Nat} {e e' : Nat × Nat × List (Option Nat)} {row : Nat → Int32} {E : va_E} (h : lay[a]? = some e) (hE : E = cl_e cA base e' row) :
    (wd_ cA base (lay, m)).set a (base + a, E) = wd_ cA base (lay.set a e', ur_ m a row) := by
  have ha : a < lay.length := (List.getElem?_eq_some_iff.mp h).1
  apply List.ext_getElem?
  intro i
  by_cases hi : i = a
  · subst hi
    simp [wd_, List.getElem?_mapIdx, List.getElem?_set, ha, hE, ur_]
  · simp [wd_, List.getElem?_mapIdx, List.getElem?_set, hi, Ne.symm hi, ur_]
set_option maxHeartbeats 400000 in
theorem wd_set1 {cA : Nat → ClassId} {base : Nat} {lay : Ly} {m : Mm} {a : Nat} {e : Nat × Nat × List (Option Nat)} {row : Nat → Int32} {E : va_E} (h : lay[a]? = some e) (hE : E = cl_e cA base e row) :
    (wd_ cA base (lay, m)).set a (base + a, E) = wd_ cA base (lay, ur_ m a row) := by
  rw [wd_set (e' := e) h hE]
  have : lay.set a e = lay := by
    apply List.ext_getElem?
    intro i
    by_cases hi : i = a
    · subst hi
      have ha : i < lay.length := (List.getElem?_eq_some_iff.mp h).1
      rw [List.getElem?_set, if_pos rfl, if_pos ha, h]
    · simp [List.getElem?_set, Ne.symm hi]
  rw [this]
def tr_ (base : Nat) (sp : Nat → Nat) (v : Value) : Value := match v with
  | .ref k => .ref (if k < 1000000 then base + k else sp (k - 1000000))
  | w => w
set_option maxHeartbeats 400000 in
theorem tr_cat (base : Nat) (sp : Nat → Nat) (v : Value) : (tr_ base sp v).category = v.category := by
  cases v <;> rfl
set_option maxHeartbeats 400000 in
theorem tr_ref {base : Nat} {sp : Nat → Nat} {k : Nat} (h : k < 1000000) : tr_ base sp (.ref k) = .ref (base + k) := by
  simp [tr_, h]
def Lh (base : Nat) (sp : Nat → Nat) (lsA : Array Slot) (nL : Nat) (ls : List (Option Value)) : Prop :=
  ls.length = nL ∧ lsA.size = nL ∧ lv_wf lsA ∧ ∀ (i : Nat) (v : Value), ls[i]? = some (some v) → lsA[i]? = some (.val (tr_ base sp v)) ∧ v.category = 1
def al_ (base : Nat) (sp : Nat → Nat) (ls : List (Option Value)) : List (Nat × Value) := (List.range ls.length).filterMap (fun i => ((ls[i]?).join).map (fun v => (i, tr_ base sp v)))
set_option maxHeartbeats 400000 in
theorem Lh.has {base : Nat} {sp : Nat → Nat} {lsA : Array Slot} {nL : Nat} {ls : List (Option Value)} (h : Lh base sp lsA nL ls) : lv_has lsA nL (al_ base sp ls) := by
  obtain ⟨h0, h1, h2, h3⟩ := h
  refine ⟨h1, h2, fun q hq => ?_⟩
  obtain ⟨i, -, hi⟩ := List.mem_filterMap.mp hq
  simp only [Option.map_eq_some_iff] at hi
  obtain ⟨v, hv, rfl⟩ := hi
  have : ls[i]? = some (some v) := by
    cases hh : ls[i]? with
    | none => rw [hh] at hv; cases hv
    | some w => rw [hh] at hv; cases w with
      | none => cases hv
      | some u => cases hv; rfl
  exact (h3 i v this).1
set_option maxHeartbeats 400000 in
theorem Lh.put {base : Nat} {sp : Nat → Nat} {lsA lsB : Array Slot} {nL i : Nat} {ls : List (Option Value)} {v : Value} (h : Lh base sp lsA nL ls) (hc : v.category = 1) (hi : i < ls.length)
    (hb : lv_has lsB nL ((i, tr_ base sp v) :: (al_ base sp ls).filter (fun q => !(q.1 == i) && !(q.1 + 1 == i && q.2.category == 2)))) : Lh base sp lsB nL (ls.set i (some v)) := by
  obtain ⟨h0, h1, h2, h3⟩ := h
  obtain ⟨g1, g2, g3⟩ := hb
  refine ⟨by simpa using h0, g1, g2, fun j w hj => ?_⟩
  by_cases hij : i = j
  · subst hij
    simp [List.getElem?_set, hi] at hj
    subst hj
    exact ⟨g3 (i, tr_ base sp v) List.mem_cons_self, hc⟩
  · rw [List.getElem?_set, if_neg hij] at hj
    have hw := h3 j w hj
    refine ⟨g3 (j, tr_ base sp w) (List.mem_cons_of_mem _ (List.mem_filter.mpr ⟨?_, ?_⟩)), hw.2⟩
    · refine List.mem_filterMap.mpr ⟨j, List.mem_range.mpr (List.getElem?_eq_some_iff.mp hj).1, ?_⟩
      rw [hj]
      rfl
    · have e1 : (tr_ base sp w).category = 1 := by rw [tr_cat]; exact hw.2
      have e2 : (j == i) = false := by simp [Ne.symm hij]
      simp [e1, e2]
def ty_s (cA : Nat → ClassId) : List (ClassId × FieldType) := [(cA 11, .byte), (cA 12, .int), (cA 13, .boolean), (cA 14, .object "GongHouse$Circle"), (cA 15, .object "GongHouse$Figure"), (cA 16, .object "GongHouse$Level"), (cA 17, .object "GongHouse$Sheet")]
def sl_ (lay : Ly) : Nat := (lay.map (fun e => e.2.1)).sum
def o_N (G : Nat × (Nat → Int32)) (j : Nat) : Nat := if j = 0 then G.1 else 4
def o_F (G : Nat × (Nat → Int32)) (j i : Nat) : Int32 := if j = 0 then G.2 i else if i = 0 then -1000000005 else if i = 3 then 2 else 0
def nw_ (U : State) : Prop := ∀ w ∈ NwTb, va_Nw w U
def ao_ (U : State) : Prop := va_AO "GongHouse$Circle" U ∧ va_AO "GongHouse$Figure" U ∧ va_AO "GongHouse$Level" U ∧ va_AO "GongHouse$Sheet" U
def oa_ (G : Nat × (Nat → Int32)) (base : Nat) (sp : Nat → Nat) (U : State) (H : Heap) : Prop :=
  (∀ j : Nat, j < 2 → va_T .int (sp j) (o_N G j) (fun i => .int (o_F G j i)) (fun q => base ≤ q) U H) ∧ va_Z "GongHouse" "KIND_ABOVE" "[I" (.ref (sp 1)) (fun q => base ≤ q) U H
def St_ (G : Nat × (Nat → Int32)) (D : va_G) (cA : Nat → ClassId) (base : Nat) (sp : Nat → Nat) (U : State) (H : Heap) : Prop :=
  va_K D vwCl (ty_s cA) U ∧ nw_ U ∧ ao_ U ∧ oa_ G base sp U H
def Cx (G : Nat × (Nat → Int32)) (M : Mi) (cap : Nat × Nat) (p : Program) (R : Room) (s : State) (m : MethodId) (args : Array Value) (meth : Method) (c : Code) (D : va_G) (cA : Nat → ClassId) (base : Nat) (sp : Nat → Nat) (n0 s0 : Nat) : Prop :=
  (p.tables.exec = Jvm.exec ∧ c.code = m_c M ∧ c.maxLocals = m_l M ∧ s.vm.findClass (m_y M).cls = some m.cls ∧ ∀ w ∈ Tb, w.before args s = true) ∧
  (∀ q ∈ m_t M, decode (m_c M) q.1 = .ok q.2) ∧ meth.name = (m_y M).name ∧ (m_f M ≤ R.frames ∧ m_w M ≤ R.locals ∧ cap.1 ≤ n0 + R.cells ∧ cap.2 ≤ s0 + R.slots) ∧ St_ G D cA base sp s s.heap ∧ s.heap.size = base + n0
def At_ (R : Room) (s : State) (D : va_G) (cA : Nat → ClassId) (base n0 s0 : Nat) (σ : Sg) (H : Heap) (locs : List Loc) (cells slots : Nat) : Prop :=
  va_P D vwCl (wd_ cA base σ) H ∧ σ.1.length ≤ 1000000 ∧ va_S (fun q => base ≤ q) s.heap H locs ∧ cells + n0 = σ.1.length ∧ slots + s0 = sl_ σ.1 ∧ cells ≤ R.cells ∧ slots ≤ R.slots
def Rt (M : Mi) (pc : Nat) (st : List Value) (v : Option Value) : Prop :=
  (∃ (x : Int32) (ty : FieldType), decode (m_c M) pc = .ok (.ireturn, 1) ∧ m_r M = some ty ∧ narrow ty (.int x) = .int x ∧ st = [.int x] ∧ v = some (.int x)) ∨
  (∃ (a : Nat) (ty : FieldType), decode (m_c M) pc = .ok (.areturn, 1) ∧ m_r M = some ty ∧ ((∃ n, ty = .object n) ∨ ∃ t, ty = .array t) ∧ st = [.ref a] ∧ v = some (.ref a)) ∨
  (decode (m_c M) pc = .ok (.return_, 1) ∧ m_r M = none ∧ st = [] ∧ v = none)
/-- from here the method comes to a return with the answer v and the memory σ', and Q holds of them -/
def Y (G : Nat × (Nat → Int32)) (M : Mi) (cap : Nat × Nat) (pc : Nat) (ls : List (Option Value)) (st : List Value) (σ : Sg) (Q : Option Value → Sg → Prop) : Prop :=
  ∀ (p : Program) (l : Launch) (e : Env) (R : Room) (s : State) (m : MethodId) (args : Array Value) (below : List Frame) (meth : Method) (c : Code) (D : va_G) (cA : Nat → ClassId) (base : Nat) (sp : Nat → Nat) (n0 s0 : Nat) (Z : State → Prop),
  Cx G M cap p R s m args meth c D cA base sp n0 s0 →
  (∀ (H : Heap) (locs : List Loc) (lsA : Array Slot) (cells slots pc' : Nat) (st' : List Value) (v : Option Value) (σ' : Sg), At_ R s D cA base n0 s0 σ' H locs cells slots → Rt M pc' st' v → Q v σ' → W p l e R s m args below meth c H locs cells slots Z (F0 m pc' lsA (st'.map (tr_ base sp)))) →
  ∀ (H : Heap) (locs : List Loc) (lsA : Array Slot) (cells slots : Nat), At_ R s D cA base n0 s0 σ H locs cells slots → Lh base sp lsA (m_l M) ls → W p l e R s m args below meth c H locs cells slots Z (F0 m pc lsA (st.map (tr_ base sp)))
set_option maxHeartbeats 400000 in
theorem Cx.dec {G : Nat × (Nat → Int32)} {M : Mi} {cap : Nat × Nat} {p : Program} {R : Room} {s : State} {m : MethodId} {args : Array Value} {meth : Method} {c : Code} {D : va_G} {cA : Nat → ClassId} {base : Nat} {sp : Nat → Nat} {n0 s0 : Nat} (C : Cx G M cap p R s m args meth c D cA base sp n0 s0) {i pc ln : Nat} {ins : Instr} (h : (m_t M)[i]? = some (pc, ins, ln)) : decode (m_c M) pc = .ok (ins, ln) := C.2.1 (pc, ins, ln) (List.mem_of_getElem? h)
set_option maxHeartbeats 400000 in
theorem Cx.ex {G : Nat × (Nat → Int32)} {M : Mi} {cap : Nat × Nat} {p : Program} {R : Room} {s : State} {m : MethodId} {args : Array Value} {meth : Method} {c : Code} {D : va_G} {cA : Nat → ClassId} {base : Nat} {sp : Nat → Nat} {n0 s0 : Nat} (C : Cx G M cap p R s m args meth c D cA base sp n0 s0) : p.tables.exec = Jvm.exec := C.1.1
set_option maxHeartbeats 400000 in
theorem Cx.by {G : Nat × (Nat → Int32)} {M : Mi} {cap : Nat × Nat} {p : Program} {R : Room} {s : State} {m : MethodId} {args : Array Value} {meth : Method} {c : Code} {D : va_G} {cA : Nat → ClassId} {base : Nat} {sp : Nat → Nat} {n0 s0 : Nat} (C : Cx G M cap p R s m args meth c D cA base sp n0 s0) : c.code = m_c M := C.1.2.1
set_option maxHeartbeats 400000 in
theorem Cx.ml {G : Nat × (Nat → Int32)} {M : Mi} {cap : Nat × Nat} {p : Program} {R : Room} {s : State} {m : MethodId} {args : Array Value} {meth : Method} {c : Code} {D : va_G} {cA : Nat → ClassId} {base : Nat} {sp : Nat → Nat} {n0 s0 : Nat} (C : Cx G M cap p R s m args meth c D cA base sp n0 s0) : c.maxLocals = m_l M := C.1.2.2.1
set_option maxHeartbeats 400000 in
theorem Cx.ow {G : Nat × (Nat → Int32)} {M : Mi} {cap : Nat × Nat} {p : Program} {R : Room} {s : State} {m : MethodId} {args : Array Value} {meth : Method} {c : Code} {D : va_G} {cA : Nat → ClassId} {base : Nat} {sp : Nat → Nat} {n0 s0 : Nat} (C : Cx G M cap p R s m args meth c D cA base sp n0 s0) : s.vm.findClass (m_y M).cls = some m.cls := C.1.2.2.2.1
set_option maxHeartbeats 400000 in
theorem Cx.ts {G : Nat × (Nat → Int32)} {M : Mi} {cap : Nat × Nat} {p : Program} {R : Room} {s : State} {m : MethodId} {args : Array Value} {meth : Method} {c : Code} {D : va_G} {cA : Nat → ClassId} {base : Nat} {sp : Nat → Nat} {n0 s0 : Nat} (C : Cx G M cap p R s m args meth c D cA base sp n0 s0) : ∀ w ∈ Tb, w.before args s = true := C.1.2.2.2.2
set_option maxHeartbeats 400000 in
theorem Cx.fix {G : Nat × (Nat → Int32)} {M : Mi} {cap : Nat × Nat} {p : Program} {R : Room} {s : State} {m : MethodId} {args : Array Value} {meth : Method} {c : Code} {D : va_G} {cA : Nat → ClassId} {base : Nat} {sp : Nat → Nat} {n0 s0 : Nat} (C : Cx G M cap p R s m args meth c D cA base sp n0 s0) : CallFix p m c (m_c M) (m_l M) s args Tb (m_y M).cls := C.1
set_option maxHeartbeats 400000 in
theorem Cx.nm {G : Nat × (Nat → Int32)} {M : Mi} {cap : Nat × Nat} {p : Program} {R : Room} {s : State} {m : MethodId} {args : Array Value} {meth : Method} {c : Code} {D : va_G} {cA : Nat → ClassId} {base : Nat} {sp : Nat → Nat} {n0 s0 : Nat} (C : Cx G M cap p R s m args meth c D cA base sp n0 s0) : meth.name = (m_y M).name := C.2.2.1
set_option maxHeartbeats 400000 in
theorem Cx.rm {G : Nat × (Nat → Int32)} {M : Mi} {cap : Nat × Nat} {p : Program} {R : Room} {s : State} {m : MethodId} {args : Array Value} {meth : Method} {c : Code} {D : va_G} {cA : Nat → ClassId} {base : Nat} {sp : Nat → Nat} {n0 s0 : Nat} (C : Cx G M cap p R s m args meth c D cA base sp n0 s0) : m_f M ≤ R.frames ∧ m_w M ≤ R.locals ∧ cap.1 ≤ n0 + R.cells ∧ cap.2 ≤ s0 + R.slots := C.2.2.2.1
set_option maxHeartbeats 400000 in
theorem Cx.st {G : Nat × (Nat → Int32)} {M : Mi} {cap : Nat × Nat} {p : Program} {R : Room} {s : State} {m : MethodId} {args : Array Value} {meth : Method} {c : Code} {D : va_G} {cA : Nat → ClassId} {base : Nat} {sp : Nat → Nat} {n0 s0 : Nat} (C : Cx G M cap p R s m args meth c D cA base sp n0 s0) : St_ G D cA base sp s s.heap := C.2.2.2.2.1
set_option maxHeartbeats 400000 in
theorem Cx.sz {G : Nat × (Nat → Int32)} {M : Mi} {cap : Nat × Nat} {p : Program} {R : Room} {s : State} {m : MethodId} {args : Array Value} {meth : Method} {c : Code} {D : va_G} {cA : Nat → ClassId} {base : Nat} {sp : Nat → Nat} {n0 s0 : Nat} (C : Cx G M cap p R s m args meth c D cA base sp n0 s0) : s.heap.size = base + n0 := C.2.2.2.2.2
set_option maxHeartbeats 400000 in
theorem Y.mono {G : Nat × (Nat → Int32)} {M : Mi} {cap : Nat × Nat} {pc : Nat} {ls : List (Option Value)} {st : List Value} {σ : Sg} {Q Q' : Option Value → Sg → Prop} (h : Y G M cap pc ls st σ Q) (hq : ∀ v σ', Q v σ' → Q' v σ') : Y G M cap pc ls st σ Q' :=
  fun p l e R s m args below meth c D cA base sp n0 s0 Z C fin => h p l e R s m args below meth c D cA base sp n0 s0 Z C (fun H locs lsA cells slots pc' st' v σ' hA hR hQ => fin H locs lsA cells slots pc' st' v σ' hA hR (hq v σ' hQ))

section Y1
variable {G : Nat × (Nat → Int32)} {M : Mi} {cap : Nat × Nat} {pc pc2 : Nat} {ls ls2 : List (Option Value)} {st : List Value} {σ : Sg} {Q : Option Value → Sg → Prop}
set_option maxHeartbeats 400000 in
theorem Y_iconst {n : Int} {v : Int32} (i : Nat) (h : (m_t M)[i]? = some (pc, .iconst n, 1)) (hp : pc + 1 = pc2) (hv : Int32.ofInt n = v) (k : Y G M cap pc2 ls (.int v :: st) σ Q) : Y G M cap pc ls (st) σ Q := by
  intro p l e R s m args below meth c D cA base sp n0 s0 Z C fin H locs lsA cells slots hA hL
  subst hp
  exact lv_iconst C.ex C.by (C.dec h) hv (k p l e R s m args below meth c D cA base sp n0 s0 Z C fin H locs lsA cells slots hA hL)
set_option maxHeartbeats 400000 in
theorem Y_bipush {n : Int} {v : Int32} (i : Nat) (h : (m_t M)[i]? = some (pc, .bipush n, 2)) (hp : pc + 2 = pc2) (hv : (Int8.ofInt n).toInt32 = v) (k : Y G M cap pc2 ls (.int v :: st) σ Q) : Y G M cap pc ls (st) σ Q := by
  intro p l e R s m args below meth c D cA base sp n0 s0 Z C fin H locs lsA cells slots hA hL
  subst hp
  exact lv_bipush C.ex C.by (C.dec h) hv (k p l e R s m args below meth c D cA base sp n0 s0 Z C fin H locs lsA cells slots hA hL)
set_option maxHeartbeats 400000 in
theorem Y_sipush {n : Int} {v : Int32} (i : Nat) (h : (m_t M)[i]? = some (pc, .sipush n, 3)) (hp : pc + 3 = pc2) (hv : (Int16.ofInt n).toInt32 = v) (k : Y G M cap pc2 ls (.int v :: st) σ Q) : Y G M cap pc ls (st) σ Q := by
  intro p l e R s m args below meth c D cA base sp n0 s0 Z C fin H locs lsA cells slots hA hL
  subst hp
  exact lv_sipush C.ex C.by (C.dec h) hv (k p l e R s m args below meth c D cA base sp n0 s0 Z C fin H locs lsA cells slots hA hL)
set_option maxHeartbeats 400000 in
theorem Y_iadd {x y : Int32} (i : Nat) (h : (m_t M)[i]? = some (pc, .iadd, 1)) (hp : pc + 1 = pc2) (k : Y G M cap pc2 ls (.int (x + y) :: st) σ Q) : Y G M cap pc ls (.int y :: .int x :: st) σ Q := by
  intro p l e R s m args below meth c D cA base sp n0 s0 Z C fin H locs lsA cells slots hA hL
  subst hp
  exact lv_iadd C.ex C.by (C.dec h) (k p l e R s m args below meth c D cA base sp n0 s0 Z C fin H locs lsA cells slots hA hL)
set_option maxHeartbeats 400000 in
theorem Y_isub {x y : Int32} (i : Nat) (h : (m_t M)[i]? = some (pc, .isub, 1)) (hp : pc + 1 = pc2) (k : Y G M cap pc2 ls (.int (x - y) :: st) σ Q) : Y G M cap pc ls (.int y :: .int x :: st) σ Q := by
  intro p l e R s m args below meth c D cA base sp n0 s0 Z C fin H locs lsA cells slots hA hL
  subst hp
  exact lv_isub C.ex C.by (C.dec h) (k p l e R s m args below meth c D cA base sp n0 s0 Z C fin H locs lsA cells slots hA hL)
set_option maxHeartbeats 400000 in
theorem Y_imul {x y : Int32} (i : Nat) (h : (m_t M)[i]? = some (pc, .imul, 1)) (hp : pc + 1 = pc2) (k : Y G M cap pc2 ls (.int (x * y) :: st) σ Q) : Y G M cap pc ls (.int y :: .int x :: st) σ Q := by
  intro p l e R s m args below meth c D cA base sp n0 s0 Z C fin H locs lsA cells slots hA hL
  subst hp
  exact lv_imul C.ex C.by (C.dec h) (k p l e R s m args below meth c D cA base sp n0 s0 Z C fin H locs lsA cells slots hA hL)
set_option maxHeartbeats 400000 in
theorem Y_iand {x y : Int32} (i : Nat) (h : (m_t M)[i]? = some (pc, .iand, 1)) (hp : pc + 1 = pc2) (k : Y G M cap pc2 ls (.int (x &&& y) :: st) σ Q) : Y G M cap pc ls (.int y :: .int x :: st) σ Q := by
  intro p l e R s m args below meth c D cA base sp n0 s0 Z C fin H locs lsA cells slots hA hL
  subst hp
  exact lv_iand C.ex C.by (C.dec h) (k p l e R s m args below meth c D cA base sp n0 s0 Z C fin H locs lsA cells slots hA hL)
set_option maxHeartbeats 400000 in
theorem Y_ishl {x y : Int32} (i : Nat) (h : (m_t M)[i]? = some (pc, .ishl, 1)) (hp : pc + 1 = pc2) (k : Y G M cap pc2 ls (.int (x <<< (y &&& 31)) :: st) σ Q) : Y G M cap pc ls (.int y :: .int x :: st) σ Q := by
  intro p l e R s m args below meth c D cA base sp n0 s0 Z C fin H locs lsA cells slots hA hL
  subst hp
  exact lv_ishl C.ex C.by (C.dec h) (k p l e R s m args below meth c D cA base sp n0 s0 Z C fin H locs lsA cells slots hA hL)
set_option maxHeartbeats 400000 in
theorem Y_ishr {x y : Int32} (i : Nat) (h : (m_t M)[i]? = some (pc, .ishr, 1)) (hp : pc + 1 = pc2) (k : Y G M cap pc2 ls (.int (x >>> (y &&& 31)) :: st) σ Q) : Y G M cap pc ls (.int y :: .int x :: st) σ Q := by
  intro p l e R s m args below meth c D cA base sp n0 s0 Z C fin H locs lsA cells slots hA hL
  subst hp
  exact lv_ishr C.ex C.by (C.dec h) (k p l e R s m args below meth c D cA base sp n0 s0 Z C fin H locs lsA cells slots hA hL)
set_option maxHeartbeats 400000 in
theorem Y_idiv {x y : Int32} (i : Nat) (h : (m_t M)[i]? = some (pc, .idiv, 1)) (hp : pc + 1 = pc2) (hne : ¬ y = 0) (k : Y G M cap pc2 ls (.int (x / y) :: st) σ Q) : Y G M cap pc ls (.int y :: .int x :: st) σ Q := by
  intro p l e R s m args below meth c D cA base sp n0 s0 Z C fin H locs lsA cells slots hA hL
  subst hp
  exact lv_idiv C.ex C.by (C.dec h) hne (k p l e R s m args below meth c D cA base sp n0 s0 Z C fin H locs lsA cells slots hA hL)
set_option maxHeartbeats 400000 in
theorem Y_irem {x y : Int32} (i : Nat) (h : (m_t M)[i]? = some (pc, .irem, 1)) (hp : pc + 1 = pc2) (hne : ¬ y = 0) (k : Y G M cap pc2 ls (.int (x - x / y * y) :: st) σ Q) : Y G M cap pc ls (.int y :: .int x :: st) σ Q := by
  intro p l e R s m args below meth c D cA base sp n0 s0 Z C fin H locs lsA cells slots hA hL
  subst hp
  exact lv_irem C.ex C.by (C.dec h) hne (k p l e R s m args below meth c D cA base sp n0 s0 Z C fin H locs lsA cells slots hA hL)
set_option maxHeartbeats 400000 in
theorem Y_i2l {x : Int32} {v : Int64} (i : Nat) (h : (m_t M)[i]? = some (pc, .i2l, 1)) (hp : pc + 1 = pc2) (hv : x.toInt64 = v) (k : Y G M cap pc2 ls (.long v :: st) σ Q) : Y G M cap pc ls (.int x :: st) σ Q := by
  intro p l e R s m args below meth c D cA base sp n0 s0 Z C fin H locs lsA cells slots hA hL
  subst hp
  exact lv_i2l C.ex C.by (C.dec h) hv (k p l e R s m args below meth c D cA base sp n0 s0 Z C fin H locs lsA cells slots hA hL)
set_option maxHeartbeats 400000 in
theorem Y_i2b {x v : Int32} (i : Nat) (h : (m_t M)[i]? = some (pc, .i2b, 1)) (hp : pc + 1 = pc2) (hv : x.toInt8.toInt32 = v) (k : Y G M cap pc2 ls (.int v :: st) σ Q) : Y G M cap pc ls (.int x :: st) σ Q := by
  intro p l e R s m args below meth c D cA base sp n0 s0 Z C fin H locs lsA cells slots hA hL
  subst hp
  exact lv_i2b C.ex C.by (C.dec h) hv (k p l e R s m args below meth c D cA base sp n0 s0 Z C fin H locs lsA cells slots hA hL)
set_option maxHeartbeats 400000 in
theorem Y_ladd {x y : Int64} (i : Nat) (h : (m_t M)[i]? = some (pc, .ladd, 1)) (hp : pc + 1 = pc2) (k : Y G M cap pc2 ls (.long (x + y) :: st) σ Q) : Y G M cap pc ls (.long y :: .long x :: st) σ Q := by
  intro p l e R s m args below meth c D cA base sp n0 s0 Z C fin H locs lsA cells slots hA hL
  subst hp
  exact lv_ladd C.ex C.by (C.dec h) (k p l e R s m args below meth c D cA base sp n0 s0 Z C fin H locs lsA cells slots hA hL)
set_option maxHeartbeats 400000 in
theorem Y_lcmp {x y : Int64} (i : Nat) (h : (m_t M)[i]? = some (pc, .lcmp, 1)) (hp : pc + 1 = pc2) (k : Y G M cap pc2 ls (.int (lg_cmp x y) :: st) σ Q) : Y G M cap pc ls (.long y :: .long x :: st) σ Q := by
  intro p l e R s m args below meth c D cA base sp n0 s0 Z C fin H locs lsA cells slots hA hL
  subst hp
  exact W.lcmp C.ex C.by (C.dec h) (k p l e R s m args below meth c D cA base sp n0 s0 Z C fin H locs lsA cells slots hA hL)
set_option maxHeartbeats 400000 in
theorem Y_dup {v : Value} (i : Nat) (h : (m_t M)[i]? = some (pc, .dup, 1)) (hp : pc + 1 = pc2) (hc : v.category = 1) (k : Y G M cap pc2 ls (v :: v :: st) σ Q) : Y G M cap pc ls (v :: st) σ Q := by
  intro p l e R s m args below meth c D cA base sp n0 s0 Z C fin H locs lsA cells slots hA hL
  subst hp
  exact lv_dup C.ex C.by (C.dec h) (by rw [tr_cat]; exact hc) (k p l e R s m args below meth c D cA base sp n0 s0 Z C fin H locs lsA cells slots hA hL)
set_option maxHeartbeats 400000 in
theorem Y_pop {v : Value} (i : Nat) (h : (m_t M)[i]? = some (pc, .pop, 1)) (hp : pc + 1 = pc2) (hc : v.category = 1) (k : Y G M cap pc2 ls (st) σ Q) : Y G M cap pc ls (v :: st) σ Q := by
  intro p l e R s m args below meth c D cA base sp n0 s0 Z C fin H locs lsA cells slots hA hL
  subst hp
  exact lv_pop C.ex C.by (C.dec h) (by rw [tr_cat]; exact hc) (k p l e R s m args below meth c D cA base sp n0 s0 Z C fin H locs lsA cells slots hA hL)
set_option maxHeartbeats 400000 in
theorem Y_iload_n {j : Fin 4} {x : Int32} (i : Nat) (h : (m_t M)[i]? = some (pc, .iload_n j, 1)) (hp : pc + 1 = pc2) (hl : ls[(j : Nat)]? = some (some (.int x))) (k : Y G M cap pc2 ls (.int x :: st) σ Q) : Y G M cap pc ls st σ Q := by
  intro p l e R s m args below meth c D cA base sp n0 s0 Z C fin H locs lsA cells slots hA hL
  subst hp
  exact lv_iload_n C.ex C.by (C.dec h) rfl (hL.2.2.2 _ _ hl).1 (k p l e R s m args below meth c D cA base sp n0 s0 Z C fin H locs lsA cells slots hA hL)
set_option maxHeartbeats 400000 in
theorem Y_iload {j : Nat} {x : Int32} (i : Nat) (h : (m_t M)[i]? = some (pc, .iload j, 2)) (hp : pc + 2 = pc2) (hl : ls[j]? = some (some (.int x))) (k : Y G M cap pc2 ls (.int x :: st) σ Q) : Y G M cap pc ls st σ Q := by
  intro p l e R s m args below meth c D cA base sp n0 s0 Z C fin H locs lsA cells slots hA hL
  subst hp
  exact lv_iload C.ex C.by (C.dec h) (hL.2.2.2 _ _ hl).1 (k p l e R s m args below meth c D cA base sp n0 s0 Z C fin H locs lsA cells slots hA hL)
set_option maxHeartbeats 400000 in
theorem Y_aload_n {j : Fin 4} {x : Nat} (i : Nat) (h : (m_t M)[i]? = some (pc, .aload_n j, 1)) (hp : pc + 1 = pc2) (hl : ls[(j : Nat)]? = some (some (.ref x))) (k : Y G M cap pc2 ls (.ref x :: st) σ Q) : Y G M cap pc ls st σ Q := by
  intro p l e R s m args below meth c D cA base sp n0 s0 Z C fin H locs lsA cells slots hA hL
  subst hp
  exact lv_aload_n C.ex C.by (C.dec h) rfl (hL.2.2.2 _ _ hl).1 (k p l e R s m args below meth c D cA base sp n0 s0 Z C fin H locs lsA cells slots hA hL)
set_option maxHeartbeats 400000 in
theorem Y_aload {j : Nat} {x : Nat} (i : Nat) (h : (m_t M)[i]? = some (pc, .aload j, 2)) (hp : pc + 2 = pc2) (hl : ls[j]? = some (some (.ref x))) (k : Y G M cap pc2 ls (.ref x :: st) σ Q) : Y G M cap pc ls st σ Q := by
  intro p l e R s m args below meth c D cA base sp n0 s0 Z C fin H locs lsA cells slots hA hL
  subst hp
  exact lv_aload C.ex C.by (C.dec h) (hL.2.2.2 _ _ hl).1 (k p l e R s m args below meth c D cA base sp n0 s0 Z C fin H locs lsA cells slots hA hL)
set_option maxHeartbeats 400000 in
theorem Y_istore_n {j : Fin 4} {x : Int32} (i : Nat) (h : (m_t M)[i]? = some (pc, .istore_n j, 1)) (hp : pc + 1 = pc2) (hi : (j : Nat) < ls.length) (hs : ls.set (j : Nat) (some (.int x)) = ls2) (k : Y G M cap pc2 ls2 st σ Q) : Y G M cap pc ls (.int x :: st) σ Q := by
  intro p l e R s m args below meth c D cA base sp n0 s0 Z C fin H locs lsA cells slots hA hL
  subst hp; subst hs
  exact lv_istore_n C.ex C.by (C.dec h) rfl hL.has (by rw [← hL.1]; exact hi) rfl (fun lsB hB => k p l e R s m args below meth c D cA base sp n0 s0 Z C fin H locs lsB cells slots hA (hL.put (v := .int x) rfl hi hB))
set_option maxHeartbeats 400000 in
theorem Y_istore {j : Nat} {x : Int32} (i : Nat) (h : (m_t M)[i]? = some (pc, .istore j, 2)) (hp : pc + 2 = pc2) (hi : j < ls.length) (hs : ls.set j (some (.int x)) = ls2) (k : Y G M cap pc2 ls2 st σ Q) : Y G M cap pc ls (.int x :: st) σ Q := by
  intro p l e R s m args below meth c D cA base sp n0 s0 Z C fin H locs lsA cells slots hA hL
  subst hp; subst hs
  exact lv_istore C.ex C.by (C.dec h) hL.has (by rw [← hL.1]; exact hi) rfl (fun lsB hB => k p l e R s m args below meth c D cA base sp n0 s0 Z C fin H locs lsB cells slots hA (hL.put (v := .int x) rfl hi hB))
set_option maxHeartbeats 400000 in
theorem Y_astore_n {j : Fin 4} {x : Nat} (i : Nat) (h : (m_t M)[i]? = some (pc, .astore_n j, 1)) (hp : pc + 1 = pc2) (hi : (j : Nat) < ls.length) (hs : ls.set (j : Nat) (some (.ref x)) = ls2) (k : Y G M cap pc2 ls2 st σ Q) : Y G M cap pc ls (.ref x :: st) σ Q := by
  intro p l e R s m args below meth c D cA base sp n0 s0 Z C fin H locs lsA cells slots hA hL
  subst hp; subst hs
  exact lv_astore_n C.ex C.by (C.dec h) rfl hL.has (by rw [← hL.1]; exact hi) rfl (fun lsB hB => k p l e R s m args below meth c D cA base sp n0 s0 Z C fin H locs lsB cells slots hA (hL.put (v := .ref x) rfl hi hB))
set_option maxHeartbeats 400000 in
theorem Y_astore {j : Nat} {x : Nat} (i : Nat) (h : (m_t M)[i]? = some (pc, .astore j, 2)) (hp : pc + 2 = pc2) (hi : j < ls.length) (hs : ls.set j (some (.ref x)) = ls2) (k : Y G M cap pc2 ls2 st σ Q) : Y G M cap pc ls (.ref x :: st) σ Q := by
  intro p l e R s m args below meth c D cA base sp n0 s0 Z C fin H locs lsA cells slots hA hL
  subst hp; subst hs
  exact lv_astore C.ex C.by (C.dec h) hL.has (by rw [← hL.1]; exact hi) rfl (fun lsB hB => k p l e R s m args below meth c D cA base sp n0 s0 Z C fin H locs lsB cells slots hA (hL.put (v := .ref x) rfl hi hB))
set_option maxHeartbeats 400000 in
theorem Y_iinc {j : Nat} {n : Int} {x v : Int32} (i : Nat) (h : (m_t M)[i]? = some (pc, .iinc j n, 3)) (hp : pc + 3 = pc2) (hl : ls[j]? = some (some (.int x))) (hv : x + Int32.ofInt n = v) (hs : ls.set j (some (.int v)) = ls2) (k : Y G M cap pc2 ls2 st σ Q) : Y G M cap pc ls st σ Q := by
  intro p l e R s m args below meth c D cA base sp n0 s0 Z C fin H locs lsA cells slots hA hL
  subst hp; subst hs
  have hi : j < ls.length := (List.getElem?_eq_some_iff.mp hl).1
  have hm : (j, tr_ base sp (.int x)) ∈ al_ base sp ls := List.mem_filterMap.mpr ⟨j, List.mem_range.mpr hi, by rw [hl]; rfl⟩
  obtain ⟨t, ht⟩ := List.getElem?_of_mem hm
  exact lv_iinc C.ex C.by (C.dec h) hL.has ht hv (by rw [← hL.1]; exact hi) rfl (fun lsB hB => k p l e R s m args below meth c D cA base sp n0 s0 Z C fin H locs lsB cells slots hA (hL.put (v := .int v) rfl hi hB))
set_option maxHeartbeats 400000 in
theorem Y_goto {off : Int} (i : Nat) (h : (m_t M)[i]? = some (pc, .goto off, 3)) (ht : (pc : Int) + off = (pc2 : Int)) (k : Y G M cap pc2 ls st σ Q) : Y G M cap pc ls st σ Q := by
  intro p l e R s m args below meth c D cA base sp n0 s0 Z C fin H locs lsA cells slots hA hL
  exact lv_goto C.ex C.by (C.dec h) ht (k p l e R s m args below meth c D cA base sp n0 s0 Z C fin H locs lsA cells slots hA hL)
set_option maxHeartbeats 400000 in
theorem Y_if_eq {off : Int} {x : Int32} {tgt : Nat} (i : Nat) (h : (m_t M)[i]? = some (pc, .ifCond .eq off, 3)) (hp : pc + 3 = pc2) (ht : (pc : Int) + off = (tgt : Int)) (kt : x = 0 → Y G M cap tgt ls st σ Q) (kf : ¬ x = 0 → Y G M cap pc2 ls st σ Q) : Y G M cap pc ls (.int x :: st) σ Q := by
  intro p l e R s m args below meth c D cA base sp n0 s0 Z C fin H locs lsA cells slots hA hL
  subst hp
  exact lv_if_eq C.ex C.by (C.dec h) ht (fun hq => kt hq p l e R s m args below meth c D cA base sp n0 s0 Z C fin H locs lsA cells slots hA hL) (fun hq => kf hq p l e R s m args below meth c D cA base sp n0 s0 Z C fin H locs lsA cells slots hA hL)
set_option maxHeartbeats 400000 in
theorem Y_if_ne {off : Int} {x : Int32} {tgt : Nat} (i : Nat) (h : (m_t M)[i]? = some (pc, .ifCond .ne off, 3)) (hp : pc + 3 = pc2) (ht : (pc : Int) + off = (tgt : Int)) (kt : ¬ x = 0 → Y G M cap tgt ls st σ Q) (kf : x = 0 → Y G M cap pc2 ls st σ Q) : Y G M cap pc ls (.int x :: st) σ Q := by
  intro p l e R s m args below meth c D cA base sp n0 s0 Z C fin H locs lsA cells slots hA hL
  subst hp
  exact lv_if_ne C.ex C.by (C.dec h) ht (fun hq => kt hq p l e R s m args below meth c D cA base sp n0 s0 Z C fin H locs lsA cells slots hA hL) (fun hq => kf hq p l e R s m args below meth c D cA base sp n0 s0 Z C fin H locs lsA cells slots hA hL)
set_option maxHeartbeats 400000 in
theorem Y_if_lt {off : Int} {x : Int32} {tgt : Nat} (i : Nat) (h : (m_t M)[i]? = some (pc, .ifCond .lt off, 3)) (hp : pc + 3 = pc2) (ht : (pc : Int) + off = (tgt : Int)) (kt : x < 0 → Y G M cap tgt ls st σ Q) (kf : ¬ x < 0 → Y G M cap pc2 ls st σ Q) : Y G M cap pc ls (.int x :: st) σ Q := by
  intro p l e R s m args below meth c D cA base sp n0 s0 Z C fin H locs lsA cells slots hA hL
  subst hp
  exact lv_if_lt C.ex C.by (C.dec h) ht (fun hq => kt hq p l e R s m args below meth c D cA base sp n0 s0 Z C fin H locs lsA cells slots hA hL) (fun hq => kf hq p l e R s m args below meth c D cA base sp n0 s0 Z C fin H locs lsA cells slots hA hL)
set_option maxHeartbeats 400000 in
theorem Y_if_ge {off : Int} {x : Int32} {tgt : Nat} (i : Nat) (h : (m_t M)[i]? = some (pc, .ifCond .ge off, 3)) (hp : pc + 3 = pc2) (ht : (pc : Int) + off = (tgt : Int)) (kt : 0 ≤ x → Y G M cap tgt ls st σ Q) (kf : ¬ 0 ≤ x → Y G M cap pc2 ls st σ Q) : Y G M cap pc ls (.int x :: st) σ Q := by
  intro p l e R s m args below meth c D cA base sp n0 s0 Z C fin H locs lsA cells slots hA hL
  subst hp
  exact lv_if_ge C.ex C.by (C.dec h) ht (fun hq => kt hq p l e R s m args below meth c D cA base sp n0 s0 Z C fin H locs lsA cells slots hA hL) (fun hq => kf hq p l e R s m args below meth c D cA base sp n0 s0 Z C fin H locs lsA cells slots hA hL)
set_option maxHeartbeats 400000 in
theorem Y_if_gt {off : Int} {x : Int32} {tgt : Nat} (i : Nat) (h : (m_t M)[i]? = some (pc, .ifCond .gt off, 3)) (hp : pc + 3 = pc2) (ht : (pc : Int) + off = (tgt : Int)) (kt : 0 < x → Y G M cap tgt ls st σ Q) (kf : ¬ 0 < x → Y G M cap pc2 ls st σ Q) : Y G M cap pc ls (.int x :: st) σ Q := by
  intro p l e R s m args below meth c D cA base sp n0 s0 Z C fin H locs lsA cells slots hA hL
  subst hp
  exact lv_if_gt C.ex C.by (C.dec h) ht (fun hq => kt hq p l e R s m args below meth c D cA base sp n0 s0 Z C fin H locs lsA cells slots hA hL) (fun hq => kf hq p l e R s m args below meth c D cA base sp n0 s0 Z C fin H locs lsA cells slots hA hL)
set_option maxHeartbeats 400000 in
theorem Y_if_le {off : Int} {x : Int32} {tgt : Nat} (i : Nat) (h : (m_t M)[i]? = some (pc, .ifCond .le off, 3)) (hp : pc + 3 = pc2) (ht : (pc : Int) + off = (tgt : Int)) (kt : x ≤ 0 → Y G M cap tgt ls st σ Q) (kf : ¬ x ≤ 0 → Y G M cap pc2 ls st σ Q) : Y G M cap pc ls (.int x :: st) σ Q := by
  intro p l e R s m args below meth c D cA base sp n0 s0 Z C fin H locs lsA cells slots hA hL
  subst hp
  exact lv_if_le C.ex C.by (C.dec h) ht (fun hq => kt hq p l e R s m args below meth c D cA base sp n0 s0 Z C fin H locs lsA cells slots hA hL) (fun hq => kf hq p l e R s m args below meth c D cA base sp n0 s0 Z C fin H locs lsA cells slots hA hL)
set_option maxHeartbeats 400000 in
theorem Y_icmp_eq {off : Int} {x y : Int32} {tgt : Nat} (i : Nat) (h : (m_t M)[i]? = some (pc, .if_icmp .eq off, 3)) (hp : pc + 3 = pc2) (ht : (pc : Int) + off = (tgt : Int)) (kt : x = y → Y G M cap tgt ls st σ Q) (kf : ¬ x = y → Y G M cap pc2 ls st σ Q) : Y G M cap pc ls (.int y :: .int x :: st) σ Q := by
  intro p l e R s m args below meth c D cA base sp n0 s0 Z C fin H locs lsA cells slots hA hL
  subst hp
  exact lv_icmp_eq C.ex C.by (C.dec h) ht (fun hq => kt hq p l e R s m args below meth c D cA base sp n0 s0 Z C fin H locs lsA cells slots hA hL) (fun hq => kf hq p l e R s m args below meth c D cA base sp n0 s0 Z C fin H locs lsA cells slots hA hL)
set_option maxHeartbeats 400000 in
theorem Y_icmp_ne {off : Int} {x y : Int32} {tgt : Nat} (i : Nat) (h : (m_t M)[i]? = some (pc, .if_icmp .ne off, 3)) (hp : pc + 3 = pc2) (ht : (pc : Int) + off = (tgt : Int)) (kt : ¬ x = y → Y G M cap tgt ls st σ Q) (kf : x = y → Y G M cap pc2 ls st σ Q) : Y G M cap pc ls (.int y :: .int x :: st) σ Q := by
  intro p l e R s m args below meth c D cA base sp n0 s0 Z C fin H locs lsA cells slots hA hL
  subst hp
  exact lv_icmp_ne C.ex C.by (C.dec h) ht (fun hq => kt hq p l e R s m args below meth c D cA base sp n0 s0 Z C fin H locs lsA cells slots hA hL) (fun hq => kf hq p l e R s m args below meth c D cA base sp n0 s0 Z C fin H locs lsA cells slots hA hL)
set_option maxHeartbeats 400000 in
theorem Y_icmp_lt {off : Int} {x y : Int32} {tgt : Nat} (i : Nat) (h : (m_t M)[i]? = some (pc, .if_icmp .lt off, 3)) (hp : pc + 3 = pc2) (ht : (pc : Int) + off = (tgt : Int)) (kt : x < y → Y G M cap tgt ls st σ Q) (kf : ¬ x < y → Y G M cap pc2 ls st σ Q) : Y G M cap pc ls (.int y :: .int x :: st) σ Q := by
  intro p l e R s m args below meth c D cA base sp n0 s0 Z C fin H locs lsA cells slots hA hL
  subst hp
  exact lv_icmp_lt C.ex C.by (C.dec h) ht (fun hq => kt hq p l e R s m args below meth c D cA base sp n0 s0 Z C fin H locs lsA cells slots hA hL) (fun hq => kf hq p l e R s m args below meth c D cA base sp n0 s0 Z C fin H locs lsA cells slots hA hL)
set_option maxHeartbeats 400000 in
theorem Y_icmp_ge {off : Int} {x y : Int32} {tgt : Nat} (i : Nat) (h : (m_t M)[i]? = some (pc, .if_icmp .ge off, 3)) (hp : pc + 3 = pc2) (ht : (pc : Int) + off = (tgt : Int)) (kt : y ≤ x → Y G M cap tgt ls st σ Q) (kf : ¬ y ≤ x → Y G M cap pc2 ls st σ Q) : Y G M cap pc ls (.int y :: .int x :: st) σ Q := by
  intro p l e R s m args below meth c D cA base sp n0 s0 Z C fin H locs lsA cells slots hA hL
  subst hp
  exact lv_icmp_ge C.ex C.by (C.dec h) ht (fun hq => kt hq p l e R s m args below meth c D cA base sp n0 s0 Z C fin H locs lsA cells slots hA hL) (fun hq => kf hq p l e R s m args below meth c D cA base sp n0 s0 Z C fin H locs lsA cells slots hA hL)
set_option maxHeartbeats 400000 in
theorem Y_icmp_gt {off : Int} {x y : Int32} {tgt : Nat} (i : Nat) (h : (m_t M)[i]? = some (pc, .if_icmp .gt off, 3)) (hp : pc + 3 = pc2) (ht : (pc : Int) + off = (tgt : Int)) (kt : y < x → Y G M cap tgt ls st σ Q) (kf : ¬ y < x → Y G M cap pc2 ls st σ Q) : Y G M cap pc ls (.int y :: .int x :: st) σ Q := by
  intro p l e R s m args below meth c D cA base sp n0 s0 Z C fin H locs lsA cells slots hA hL
  subst hp
  exact lv_icmp_gt C.ex C.by (C.dec h) ht (fun hq => kt hq p l e R s m args below meth c D cA base sp n0 s0 Z C fin H locs lsA cells slots hA hL) (fun hq => kf hq p l e R s m args below meth c D cA base sp n0 s0 Z C fin H locs lsA cells slots hA hL)
set_option maxHeartbeats 400000 in
theorem Y_icmp_le {off : Int} {x y : Int32} {tgt : Nat} (i : Nat) (h : (m_t M)[i]? = some (pc, .if_icmp .le off, 3)) (hp : pc + 3 = pc2) (ht : (pc : Int) + off = (tgt : Int)) (kt : x ≤ y → Y G M cap tgt ls st σ Q) (kf : ¬ x ≤ y → Y G M cap pc2 ls st σ Q) : Y G M cap pc ls (.int y :: .int x :: st) σ Q := by
  intro p l e R s m args below meth c D cA base sp n0 s0 Z C fin H locs lsA cells slots hA hL
  subst hp
  exact lv_icmp_le C.ex C.by (C.dec h) ht (fun hq => kt hq p l e R s m args below meth c D cA base sp n0 s0 Z C fin H locs lsA cells slots hA hL) (fun hq => kf hq p l e R s m args below meth c D cA base sp n0 s0 Z C fin H locs lsA cells slots hA hL)
set_option maxHeartbeats 400000 in
theorem Y_tableIn {dflt lo hi off : Int} {offs : Array Int} {len : Nat} {x : Int32} (i : Nat) (h : (m_t M)[i]? = some (pc, .tableswitch dflt lo hi offs, len)) (h1 : ¬ x.toInt < lo) (h2 : ¬ hi < x.toInt) (ho : offs[(x.toInt - lo).toNat]? = some off) (ht : (pc : Int) + off = (pc2 : Int)) (k : Y G M cap pc2 ls st σ Q) : Y G M cap pc ls (.int x :: st) σ Q := by
  intro p l e R s m args below meth c D cA base sp n0 s0 Z C fin H locs lsA cells slots hA hL
  exact lv_tableIn C.ex C.by (C.dec h) h1 h2 ho ht (k p l e R s m args below meth c D cA base sp n0 s0 Z C fin H locs lsA cells slots hA hL)
set_option maxHeartbeats 400000 in
theorem Y_tableOut {dflt lo hi : Int} {offs : Array Int} {len : Nat} {x : Int32} (i : Nat) (h : (m_t M)[i]? = some (pc, .tableswitch dflt lo hi offs, len)) (h1 : x.toInt < lo ∨ hi < x.toInt) (ht : (pc : Int) + dflt = (pc2 : Int)) (k : Y G M cap pc2 ls st σ Q) : Y G M cap pc ls (.int x :: st) σ Q := by
  intro p l e R s m args below meth c D cA base sp n0 s0 Z C fin H locs lsA cells slots hA hL
  exact lv_tableOut C.ex C.by (C.dec h) h1 ht (k p l e R s m args below meth c D cA base sp n0 s0 Z C fin H locs lsA cells slots hA hL)
set_option maxHeartbeats 400000 in
theorem Y_lookup {dflt off : Int} {ps : Array (Int × Int)} {len : Nat} {x : Int32} (i : Nat) (h : (m_t M)[i]? = some (pc, .lookupswitch dflt ps, len)) (hq : (ps.toList.zip (ps.toList.drop 1)).all (fun (a, next) => a.1 < next.1) = true) (ho : Op.lookupswitch.offset ps.toList dflt x.toInt = off) (ht : (pc : Int) + off = (pc2 : Int)) (k : Y G M cap pc2 ls st σ Q) : Y G M cap pc ls (.int x :: st) σ Q := by
  intro p l e R s m args below meth c D cA base sp n0 s0 Z C fin H locs lsA cells slots hA hL
  exact lv_lookup C.ex C.by (C.dec h) hq ho ht (k p l e R s m args below meth c D cA base sp n0 s0 Z C fin H locs lsA cells slots hA hL)
set_option maxHeartbeats 400000 in
theorem Y_ldc {index : Nat} {v : Int32} (i : Nat) (h : (m_t M)[i]? = some (pc, .ldc index, 2)) (hp : pc + 2 = pc2) (hw : Cond.constant (m_y M).cls index v ∈ Tb) (k : Y G M cap pc2 ls (.int v :: st) σ Q) : Y G M cap pc ls st σ Q := by
  intro p l e R s m args below meth c D cA base sp n0 s0 Z C fin H locs lsA cells slots hA hL
  subst hp
  exact lv_ldc C.ex C.by C.ow (C.ts _ hw) (C.dec h) (k p l e R s m args below meth c D cA base sp n0 s0 Z C fin H locs lsA cells slots hA hL)
set_option maxHeartbeats 400000 in
theorem Y_iret {x : Int32} {ty : FieldType} (i : Nat) (h : (m_t M)[i]? = some (pc, .ireturn, 1)) (hr : m_r M = some ty) (hn : narrow ty (.int x) = .int x) (hq : Q (some (.int x)) σ) : Y G M cap pc ls [.int x] σ Q := by
  intro p l e R s m args below meth c D cA base sp n0 s0 Z C fin H locs lsA cells slots hA hL
  exact fin H locs lsA cells slots pc [.int x] (some (.int x)) σ hA (Or.inl ⟨x, ty, C.dec h, hr, hn, rfl, rfl⟩) hq
set_option maxHeartbeats 400000 in
theorem Y_aret {a : Nat} {ty : FieldType} (i : Nat) (h : (m_t M)[i]? = some (pc, .areturn, 1)) (hr : m_r M = some ty) (hn : (∃ n, ty = .object n) ∨ ∃ t, ty = .array t) (hq : Q (some (.ref a)) σ) : Y G M cap pc ls [.ref a] σ Q := by
  intro p l e R s m args below meth c D cA base sp n0 s0 Z C fin H locs lsA cells slots hA hL
  exact fin H locs lsA cells slots pc [.ref a] (some (.ref a)) σ hA (Or.inr (Or.inl ⟨a, ty, C.dec h, hr, hn, rfl, rfl⟩)) hq
set_option maxHeartbeats 400000 in
theorem Y_vret (i : Nat) (h : (m_t M)[i]? = some (pc, .return_, 1)) (hr : m_r M = none) (hq : Q none σ) : Y G M cap pc ls [] σ Q := by
  intro p l e R s m args below meth c D cA base sp n0 s0 Z C fin H locs lsA cells slots hA hL
  exact fin H locs lsA cells slots pc [] none σ hA (Or.inr (Or.inr ⟨C.dec h, hr, rfl, rfl⟩)) hq
end Y1
end
section
/-! rules of the heap -/
/-- the entry 'index' of the class 'own' links slot k of class number ci -/
def fl_ (own : String) (index ci k : Nat) : Prop := ∃ (C : String) (T : u_T) (N : Nat), vwCl[ci]? = some (C, T, N) ∧ ci < 11 ∧ k < N ∧ (∀ w ∈ u_ws C T N, w ∈ Tb) ∧ (∀ k, k < N → parseFieldDescriptor (T k).2.2.1 = some (ty_c ci k)) ∧ (∀ a, a < N → ∀ b, b < N → a ≠ b → (T a).2.1 ≠ (T b).2.1) ∧ (T k).1 = C ∧ Cond.fieldLink own index (T k).1 (T k).2.1 (T k).2.2.1 ∈ Tb
def ff_ (own : String) (ci k : Nat) : Prop := ∃ (C : String) (T : u_T) (N : Nat), vwCl[ci]? = some (C, T, N) ∧ (T k).2.2.2 = true ∧ (T k).1 = own
def fn_ (ci k : Nat) : Prop := ∃ (C : String) (T : u_T) (N : Nat), vwCl[ci]? = some (C, T, N) ∧ (T k).2.2.2 = false
set_option maxHeartbeats 400000 in
theorem cl_o {cA : Nat → ClassId} {base ci n : Nat} {rs : List (Option Nat)} {row : Nat → Int32} (h : ci < 11) : cl_e cA base (ci, n, rs) row = .inr (ci, (List.range n).map (fun k => if is_I (ty_c ci k) = true then Value.int (row k) else va_rf ((rs.getD k none).map (fun r => base + r)))) := by
  simp [cl_e, h]
set_option maxHeartbeats 400000 in
theorem cl_fi {ci n base : Nat} {rs : List (Option Nat)} {row : Nat → Int32} {k : Nat} (hk : k < n) (hi : is_I (ty_c ci k) = true) : ((List.range n).map (fun k => if is_I (ty_c ci k) = true then Value.int (row k) else va_rf ((rs.getD k none).map (fun r => base + r))))[k]? = some (.int (row k)) := by
  simp [hk, hi]
set_option maxHeartbeats 400000 in
theorem cl_fr {ci n base r : Nat} {rs : List (Option Nat)} {row : Nat → Int32} {k : Nat} (hk : k < n) (hi : is_I (ty_c ci k) = false) (hr : rs.getD k none = some r) : ((List.range n).map (fun k => if is_I (ty_c ci k) = true then Value.int (row k) else va_rf ((rs.getD k none).map (fun r => base + r))))[k]? = some (.ref (base + r)) := by
  rw [List.getElem?_map, List.getElem?_range hk]
  simp only [Option.map_some, hi, hr]
  rfl
set_option maxHeartbeats 400000 in
theorem cl_si {ci n base : Nat} {rs : List (Option Nat)} {row : Nat → Int32} {k : Nat} {v : Int32} (hi : is_I (ty_c ci k) = true) : ((List.range n).map (fun k => if is_I (ty_c ci k) = true then Value.int (row k) else va_rf ((rs.getD k none).map (fun r => base + r)))).set k (.int v) = (List.range n).map (fun j => if is_I (ty_c ci j) = true then Value.int (upd row k v j) else va_rf ((rs.getD j none).map (fun r => base + r))) := by
  apply List.ext_getElem?
  intro j
  by_cases hj : j = k
  · subst hj
    by_cases hn : j < n
    · simp [List.getElem?_set, hn, hi, upd]
    · simp [List.getElem?_set, hn]
  · by_cases hn : j < n
    · simp [List.getElem?_set, Ne.symm hj, hn, upd, hj]
    · simp [List.getElem?_set, Ne.symm hj, hn]
set_option maxHeartbeats 400000 in
theorem cl_sr {ci n base r : Nat} {rs : List (Option Nat)} {row : Nat → Int32} {k : Nat} (hi : is_I (ty_c ci k) = false) (hk : k < rs.length) : ((List.range n).map (fun k => if is_I (ty_c ci k) = true then Value.int (row k) else va_rf ((rs.getD k none).map (fun r => base + r)))).set k (.ref (base + r)) = (List.range n).map (fun j => if is_I (ty_c ci j) = true then Value.int (row j) else va_rf (((rs.set k (some r)).getD j none).map (fun r => base + r))) := by
  apply List.ext_getElem?
  intro j
  by_cases hj : j = k
  · subst hj
    by_cases hn : j < n
    · simp [List.getElem?_set, hn, hi, hk, va_rf]
    · simp [List.getElem?_set, hn]
  · by_cases hn : j < n
    · simp [List.getElem?_set, Ne.symm hj, hn]
    · simp [List.getElem?_set, Ne.symm hj, hn]
set_option maxHeartbeats 400000 in
theorem At_.to {R : Room} {s : State} {D : va_G} {cA : Nat → ClassId} {base n0 s0 : Nat} {σ σ' : Sg} {H H1 : Heap} {locs locs1 : List Loc} {cells slots : Nat} (h : At_ R s D cA base n0 s0 σ H locs cells slots) (hl : σ'.1.length = σ.1.length) (hs : sl_ σ'.1 = sl_ σ.1) (hP : va_P D vwCl (wd_ cA base σ') H1) (hS : va_S (fun q => base ≤ q) s.heap H1 locs1) : At_ R s D cA base n0 s0 σ' H1 locs1 cells slots :=
  ⟨hP, by rw [hl]; exact h.2.1, hS, by rw [hl]; exact h.2.2.2.1, by rw [hs]; exact h.2.2.2.2.1, h.2.2.2.2.2⟩
set_option maxHeartbeats 400000 in
theorem At_.lt {R : Room} {s : State} {D : va_G} {cA : Nat → ClassId} {base n0 s0 : Nat} {σ : Sg} {H : Heap} {locs : List Loc} {cells slots a : Nat} {e : Nat × Nat × List (Option Nat)} (h : At_ R s D cA base n0 s0 σ H locs cells slots) (ha : σ.1[a]? = some e) : a < 1000000 := Nat.lt_of_lt_of_le (List.getElem?_eq_some_iff.mp ha).1 h.2.1
set_option maxHeartbeats 400000 in
theorem sl_set {lay : Ly} {a : Nat} {e e' : Nat × Nat × List (Option Nat)} (h : lay[a]? = some e) (he : e'.2.1 = e.2.1) : sl_ (lay.set a e') = sl_ lay := by
  unfold sl_
  congr 1
  apply List.ext_getElem?
  intro i
  by_cases hi : i = a
  · subst hi
    have ha : i < lay.length := (List.getElem?_eq_some_iff.mp h).1
    rw [List.getElem?_map, List.getElem?_map, List.getElem?_set, if_pos rfl, if_pos ha, h]
    simp [he]
  · simp [List.getElem?_set, Ne.symm hi]
section Y2
variable {G : Nat × (Nat → Int32)} {M : Mi} {cap : Nat × Nat} {pc pc2 : Nat} {ls ls2 : List (Option Value)} {st : List Value} {σ : Sg} {lay : Ly} {mm : Mm} {Q : Option Value → Sg → Prop}
set_option maxHeartbeats 400000 in
theorem Y_getI {index ci a f n : Nat} {rs : List (Option Nat)} (i : Nat) (h : (m_t M)[i]? = some (pc, .getfield index, 3)) (hp : pc + 3 = pc2) (hf : fl_ (m_y M).cls index ci f) (ha : lay[a]? = some (ci, n, rs)) (hn : f < n) (hi : is_I (ty_c ci f) = true) (k : Y G M cap pc2 ls (.int (mm a f) :: st) (lay, mm) Q) : Y G M cap pc ls (.ref a :: st) (lay, mm) Q := by
  intro p l e R s m args below meth c D cA base sp n0 s0 Z C fin H locs lsA cells slots hA hL
  subst hp
  obtain ⟨CC, T, N, h1, h11, h2, h3, h4, h5, h6, h7⟩ := hf
  have hk := (k p l e R s m args below meth c D cA base sp n0 s0 Z C fin H locs lsA cells slots hA hL)
  show W p l e R s m args below meth c H locs cells slots Z (F0 m pc lsA (tr_ base sp (.ref a) :: st.map (tr_ base sp)))
  rw [tr_ref (At_.lt hA ha)]
  exact va_get C.ex C.by C.ts h3 C.ow C.st.1 hA.1 a (he := by rw [wd_get (σ := (lay, mm)) ha, cl_o h11]) h1 f h2 (C.ts _ h7) (fun _ h9 => h9) (cl_fi hn hi) (C.dec h) hk
set_option maxHeartbeats 400000 in
theorem Y_getR {index ci a f n r : Nat} {rs : List (Option Nat)} (i : Nat) (h : (m_t M)[i]? = some (pc, .getfield index, 3)) (hp : pc + 3 = pc2) (hf : fl_ (m_y M).cls index ci f) (ha : lay[a]? = some (ci, n, rs)) (hn : f < n) (hi : is_I (ty_c ci f) = false) (hr : rs.getD f none = some r) (hr2 : r < 1000000) (k : Y G M cap pc2 ls (.ref r :: st) (lay, mm) Q) : Y G M cap pc ls (.ref a :: st) (lay, mm) Q := by
  intro p l e R s m args below meth c D cA base sp n0 s0 Z C fin H locs lsA cells slots hA hL
  subst hp
  obtain ⟨CC, T, N, h1, h11, h2, h3, h4, h5, h6, h7⟩ := hf
  have hk := (k p l e R s m args below meth c D cA base sp n0 s0 Z C fin H locs lsA cells slots hA hL)
  have hk : W p l e R s m args below meth c H locs cells slots Z (F0 m (pc + 3) lsA (tr_ base sp (.ref r) :: st.map (tr_ base sp))) := hk
  rw [tr_ref hr2] at hk
  show W p l e R s m args below meth c H locs cells slots Z (F0 m pc lsA (tr_ base sp (.ref a) :: st.map (tr_ base sp)))
  rw [tr_ref (At_.lt hA ha)]
  exact va_get C.ex C.by C.ts h3 C.ow C.st.1 hA.1 a (he := by rw [wd_get (σ := (lay, mm)) ha, cl_o h11]) h1 f h2 (C.ts _ h7) (fun _ h9 => h9) (cl_fr hn hi hr) (C.dec h) hk
set_option maxHeartbeats 400000 in
theorem Y_putI {index ci a f n : Nat} {v : Int32} {rs : List (Option Nat)} (i : Nat) (h : (m_t M)[i]? = some (pc, .putfield index, 3)) (hp : pc + 3 = pc2) (hf : fl_ (m_y M).cls index ci f) (ha : lay[a]? = some (ci, n, rs)) (hn : f < n) (hz : fits (ty_c ci f) (.int v) = true ∧ narrow (ty_c ci f) (.int v) = .int v) (hfin : fn_ ci f) (hi : is_I (ty_c ci f) = true) (k : Y G M cap pc2 ls st (lay, uw_ mm a f v) Q) : Y G M cap pc ls (.int v :: .ref a :: st) (lay, mm) Q := by
  intro p l e R s m args below meth c D cA base sp n0 s0 Z C fin H locs lsA cells slots hA hL
  subst hp
  obtain ⟨CC, T, N, h1, h11, h2, h3, h4, h5, h6, h7⟩ := hf
  obtain ⟨CC2, T2, N2, g1, g2⟩ := hfin
  rw [h1] at g1
  cases g1
  show W p l e R s m args below meth c H locs cells slots Z (F0 m pc lsA (.int v :: tr_ base sp (.ref a) :: st.map (tr_ base sp)))
  rw [tr_ref (At_.lt hA ha)]
  refine va_put (v := (.int v)) (ty := ty_c ci f) C.ex C.by C.ts h3 (ty_c ci) h4 h5 C.ow C.st.1 hA.1 wd_D hA.2.2.1 a (he := by rw [wd_get (σ := (lay, mm)) ha, cl_o h11]) h1 f h2 (C.ts _ h7) (fun _ h9 => h9) g2 (h4 f h2) hz.2 hz.1 (by simpa using hn) (C.dec h) (fun H1 locs1 hP1 hD1 hS1 => ?_)
  rw [cl_si hi] at hP1
  rw [wd_set1 (row := upd (mm a) f v) ha (by rw [cl_o h11]), ur_w] at hP1
  exact k p l e R s m args below meth c D cA base sp n0 s0 Z C fin H1 locs1 lsA cells slots (hA.to (σ' := (lay, uw_ mm a f v)) rfl rfl hP1 hS1) hL
set_option maxHeartbeats 400000 in
theorem Y_putIF {index ci a f n : Nat} {v : Int32} {rs : List (Option Nat)} (i : Nat) (h : (m_t M)[i]? = some (pc, .putfield index, 3)) (hp : pc + 3 = pc2) (hf : fl_ (m_y M).cls index ci f) (ha : lay[a]? = some (ci, n, rs)) (hn : f < n) (hz : fits (ty_c ci f) (.int v) = true ∧ narrow (ty_c ci f) (.int v) = .int v) (hfin : ff_ (m_y M).cls ci f) (hin : (m_y M).name = "<init>") (hi : is_I (ty_c ci f) = true) (k : Y G M cap pc2 ls st (lay, uw_ mm a f v) Q) : Y G M cap pc ls (.int v :: .ref a :: st) (lay, mm) Q := by
  intro p l e R s m args below meth c D cA base sp n0 s0 Z C fin H locs lsA cells slots hA hL
  subst hp
  obtain ⟨CC, T, N, h1, h11, h2, h3, h4, h5, h6, h7⟩ := hf
  obtain ⟨CC2, T2, N2, g1, g2, g3⟩ := hfin
  rw [h1] at g1
  cases g1
  show W p l e R s m args below meth c H locs cells slots Z (F0 m pc lsA (.int v :: tr_ base sp (.ref a) :: st.map (tr_ base sp)))
  rw [tr_ref (At_.lt hA ha)]
  refine va_putF (v := (.int v)) (ty := ty_c ci f) C.ex C.by C.ts h3 (ty_c ci) h4 h5 C.ow C.st.1 hA.1 wd_D hA.2.2.1 a (he := by rw [wd_get (σ := (lay, mm)) ha, cl_o h11]) h1 f h2 (C.ts _ h7) (fun _ h9 => h9) g2 (by rw [C.nm]; exact hin) g3 (h4 f h2) hz.2 hz.1 (by simpa using hn) (C.dec h) (fun H1 locs1 hP1 hD1 hS1 => ?_)
  rw [cl_si hi] at hP1
  rw [wd_set1 (row := upd (mm a) f v) ha (by rw [cl_o h11]), ur_w] at hP1
  exact k p l e R s m args below meth c D cA base sp n0 s0 Z C fin H1 locs1 lsA cells slots (hA.to (σ' := (lay, uw_ mm a f v)) rfl rfl hP1 hS1) hL
set_option maxHeartbeats 400000 in
theorem Y_putRF {index ci a f n r : Nat} {rs : List (Option Nat)} (i : Nat) (h : (m_t M)[i]? = some (pc, .putfield index, 3)) (hp : pc + 3 = pc2) (hf : fl_ (m_y M).cls index ci f) (ha : lay[a]? = some (ci, n, rs)) (hn : f < n) (hrl : f < rs.length) (hr2 : r < 1000000) (ho : (∃ n, ty_c ci f = .object n) ∨ ∃ t, ty_c ci f = .array t) (hfin : ff_ (m_y M).cls ci f) (hin : (m_y M).name = "<init>") (hi : is_I (ty_c ci f) = false) (k : Y G M cap pc2 ls st (lay.set a (ci, n, rs.set f (some r)), mm) Q) : Y G M cap pc ls (.ref r :: .ref a :: st) (lay, mm) Q := by
  intro p l e R s m args below meth c D cA base sp n0 s0 Z C fin H locs lsA cells slots hA hL
  subst hp
  obtain ⟨CC, T, N, h1, h11, h2, h3, h4, h5, h6, h7⟩ := hf
  obtain ⟨CC2, T2, N2, g1, g2, g3⟩ := hfin
  rw [h1] at g1
  cases g1
  show W p l e R s m args below meth c H locs cells slots Z (F0 m pc lsA (tr_ base sp (.ref r) :: tr_ base sp (.ref a) :: st.map (tr_ base sp)))
  rw [tr_ref (At_.lt hA ha), tr_ref hr2]
  refine va_putF (v := (.ref (base + r))) (ty := ty_c ci f) C.ex C.by C.ts h3 (ty_c ci) h4 h5 C.ow C.st.1 hA.1 wd_D hA.2.2.1 a (he := by rw [wd_get (σ := (lay, mm)) ha, cl_o h11]) h1 f h2 (C.ts _ h7) (fun _ h9 => h9) g2 (by rw [C.nm]; exact hin) g3 (h4 f h2) (by rcases ho with ⟨n, ho⟩ | ⟨n, ho⟩ <;> rw [ho] <;> rfl) (by rcases ho with ⟨n, ho⟩ | ⟨n, ho⟩ <;> rw [ho] <;> rfl) (by simpa using hn) (C.dec h) (fun H1 locs1 hP1 hD1 hS1 => ?_)
  rw [cl_sr hi hrl] at hP1
  rw [wd_set (e' := (ci, n, rs.set f (some r))) (row := mm a) ha (by rw [cl_o h11])] at hP1
  have e1 : ur_ mm a (mm a) = mm := by
    funext b
    by_cases hb : b = a
    · subst hb; simp [ur_]
    · simp [ur_, hb]
  rw [e1] at hP1
  exact k p l e R s m args below meth c D cA base sp n0 s0 Z C fin H1 locs1 lsA cells slots (hA.to (σ' := (lay.set a (ci, n, rs.set f (some r)), mm)) (by simp) (sl_set ha rfl) hP1 hS1) hL
set_option maxHeartbeats 400000 in
theorem Y_iald {a n j : Nat} {rs : List (Option Nat)} {x : Int32} (i : Nat) (h : (m_t M)[i]? = some (pc, .iaload, 1)) (hp : pc + 1 = pc2) (ha : lay[a]? = some (12, n, rs)) (hx : x = nI j) (hj : j < n) (hn : n < 2 ^ 31) (k : Y G M cap pc2 ls (.int (mm a j) :: st) (lay, mm) Q) : Y G M cap pc ls (.int x :: .ref a :: st) (lay, mm) Q := by
  intro p l e R s m args below meth c D cA base sp n0 s0 Z C fin H locs lsA cells slots hA hL
  subst hp; subst hx
  have hk := (k p l e R s m args below meth c D cA base sp n0 s0 Z C fin H locs lsA cells slots hA hL)
  have hk : W p l e R s m args below meth c H locs cells slots Z (F0 m (pc + 1) lsA (.int (mm a j) :: st.map (tr_ base sp))) := hk
  show W p l e R s m args below meth c H locs cells slots Z (F0 m pc lsA (.int (nI j) :: tr_ base sp (.ref a) :: st.map (tr_ base sp)))
  rw [tr_ref (At_.lt hA ha)]
  refine va_iald (n := n) (f := mm a) C.ex C.by C.st.1 hA.1 a 1 (cA := cA 12) (by rw [wd_get (σ := (lay, mm)) ha]; rfl) rfl (vp_in_nI hj hn) (C.dec h) ?_
  rw [nI_clamp (Nat.lt_trans hj hn)]
  exact hk
set_option maxHeartbeats 400000 in
theorem Y_bald {a n j : Nat} {rs : List (Option Nat)} {x : Int32} (i : Nat) (h : (m_t M)[i]? = some (pc, .baload, 1)) (hp : pc + 1 = pc2) (ha : lay[a]? = some (11, n, rs)) (hx : x = nI j) (hj : j < n) (hn : n < 2 ^ 31) (k : Y G M cap pc2 ls (.int (mm a j) :: st) (lay, mm) Q) : Y G M cap pc ls (.int x :: .ref a :: st) (lay, mm) Q := by
  intro p l e R s m args below meth c D cA base sp n0 s0 Z C fin H locs lsA cells slots hA hL
  subst hp; subst hx
  have hk := (k p l e R s m args below meth c D cA base sp n0 s0 Z C fin H locs lsA cells slots hA hL)
  have hk : W p l e R s m args below meth c H locs cells slots Z (F0 m (pc + 1) lsA (.int (mm a j) :: st.map (tr_ base sp))) := hk
  show W p l e R s m args below meth c H locs cells slots Z (F0 m pc lsA (.int (nI j) :: tr_ base sp (.ref a) :: st.map (tr_ base sp)))
  rw [tr_ref (At_.lt hA ha)]
  refine va_bald (n := n) (f := mm a) C.ex C.by C.st.1 hA.1 a 0 (cA := cA 11) (by rw [wd_get (σ := (lay, mm)) ha]; rfl) rfl (vp_in_nI hj hn) (C.dec h) ?_
  rw [nI_clamp (Nat.lt_trans hj hn)]
  exact hk
set_option maxHeartbeats 400000 in
theorem Y_zald {a n j : Nat} {rs : List (Option Nat)} {x : Int32} (i : Nat) (h : (m_t M)[i]? = some (pc, .baload, 1)) (hp : pc + 1 = pc2) (ha : lay[a]? = some (13, n, rs)) (hx : x = nI j) (hj : j < n) (hn : n < 2 ^ 31) (k : Y G M cap pc2 ls (.int (mm a j) :: st) (lay, mm) Q) : Y G M cap pc ls (.int x :: .ref a :: st) (lay, mm) Q := by
  intro p l e R s m args below meth c D cA base sp n0 s0 Z C fin H locs lsA cells slots hA hL
  subst hp; subst hx
  have hk := (k p l e R s m args below meth c D cA base sp n0 s0 Z C fin H locs lsA cells slots hA hL)
  have hk : W p l e R s m args below meth c H locs cells slots Z (F0 m (pc + 1) lsA (.int (mm a j) :: st.map (tr_ base sp))) := hk
  show W p l e R s m args below meth c H locs cells slots Z (F0 m pc lsA (.int (nI j) :: tr_ base sp (.ref a) :: st.map (tr_ base sp)))
  rw [tr_ref (At_.lt hA ha)]
  refine va_zald (n := n) (f := mm a) C.ex C.by C.st.1 hA.1 a 2 (cA := cA 13) (by rw [wd_get (σ := (lay, mm)) ha]; rfl) rfl (vp_in_nI hj hn) (C.dec h) ?_
  rw [nI_clamp (Nat.lt_trans hj hn)]
  exact hk
set_option maxHeartbeats 400000 in
theorem Y_iast {a n j : Nat} {rs : List (Option Nat)} {x v w : Int32} (i : Nat) (h : (m_t M)[i]? = some (pc, .iastore, 1)) (hp : pc + 1 = pc2) (ha : lay[a]? = some (12, n, rs)) (hx : x = nI j) (hj : j < n) (hn : n < 2 ^ 31) (hw : v = w) (k : Y G M cap pc2 ls st (lay, uw_ mm a j w) Q) : Y G M cap pc ls (.int v :: .int x :: .ref a :: st) (lay, mm) Q := by
  intro p l e R s m args below meth c D cA base sp n0 s0 Z C fin H locs lsA cells slots hA hL
  subst hp; subst hx; subst hw
  show W p l e R s m args below meth c H locs cells slots Z (F0 m pc lsA (.int v :: .int (nI j) :: tr_ base sp (.ref a) :: st.map (tr_ base sp)))
  rw [tr_ref (At_.lt hA ha)]
  refine va_iast (n := n) (f := mm a) C.ex C.by C.st.1 hA.1 wd_D hA.2.2.1 a 1 (cA := cA 12) (by rw [wd_get (σ := (lay, mm)) ha]; rfl) rfl (vp_in_nI hj hn) (C.dec h) (fun H1 locs1 hP1 hD1 hS1 => ?_)
  rw [nI_clamp (Nat.lt_trans hj hn), wd_set1 (row := upd (mm a) j v) ha (by rfl), ur_w] at hP1
  exact k p l e R s m args below meth c D cA base sp n0 s0 Z C fin H1 locs1 lsA cells slots (hA.to (σ' := (lay, uw_ mm a j v)) rfl rfl hP1 hS1) hL
set_option maxHeartbeats 400000 in
theorem Y_bast {a n j : Nat} {rs : List (Option Nat)} {x v w : Int32} (i : Nat) (h : (m_t M)[i]? = some (pc, .bastore, 1)) (hp : pc + 1 = pc2) (ha : lay[a]? = some (11, n, rs)) (hx : x = nI j) (hj : j < n) (hn : n < 2 ^ 31) (hw : (vp_nar .byte v) = w) (k : Y G M cap pc2 ls st (lay, uw_ mm a j w) Q) : Y G M cap pc ls (.int v :: .int x :: .ref a :: st) (lay, mm) Q := by
  intro p l e R s m args below meth c D cA base sp n0 s0 Z C fin H locs lsA cells slots hA hL
  subst hp; subst hx; subst hw
  show W p l e R s m args below meth c H locs cells slots Z (F0 m pc lsA (.int v :: .int (nI j) :: tr_ base sp (.ref a) :: st.map (tr_ base sp)))
  rw [tr_ref (At_.lt hA ha)]
  refine va_bast (n := n) (f := mm a) C.ex C.by C.st.1 hA.1 wd_D hA.2.2.1 a 0 (cA := cA 11) (by rw [wd_get (σ := (lay, mm)) ha]; rfl) rfl (vp_in_nI hj hn) (C.dec h) (fun H1 locs1 hP1 hD1 hS1 => ?_)
  rw [nI_clamp (Nat.lt_trans hj hn), wd_set1 (row := upd (mm a) j (vp_nar .byte v)) ha (by rfl), ur_w] at hP1
  exact k p l e R s m args below meth c D cA base sp n0 s0 Z C fin H1 locs1 lsA cells slots (hA.to (σ' := (lay, uw_ mm a j (vp_nar .byte v))) rfl rfl hP1 hS1) hL
set_option maxHeartbeats 400000 in
theorem Y_zast {a n j : Nat} {rs : List (Option Nat)} {x v w : Int32} (i : Nat) (h : (m_t M)[i]? = some (pc, .bastore, 1)) (hp : pc + 1 = pc2) (ha : lay[a]? = some (13, n, rs)) (hx : x = nI j) (hj : j < n) (hn : n < 2 ^ 31) (hw : (vp_nar .boolean v) = w) (k : Y G M cap pc2 ls st (lay, uw_ mm a j w) Q) : Y G M cap pc ls (.int v :: .int x :: .ref a :: st) (lay, mm) Q := by
  intro p l e R s m args below meth c D cA base sp n0 s0 Z C fin H locs lsA cells slots hA hL
  subst hp; subst hx; subst hw
  show W p l e R s m args below meth c H locs cells slots Z (F0 m pc lsA (.int v :: .int (nI j) :: tr_ base sp (.ref a) :: st.map (tr_ base sp)))
  rw [tr_ref (At_.lt hA ha)]
  refine va_zast (n := n) (f := mm a) C.ex C.by C.st.1 hA.1 wd_D hA.2.2.1 a 2 (cA := cA 13) (by rw [wd_get (σ := (lay, mm)) ha]; rfl) rfl (vp_in_nI hj hn) (C.dec h) (fun H1 locs1 hP1 hD1 hS1 => ?_)
  rw [nI_clamp (Nat.lt_trans hj hn), wd_set1 (row := upd (mm a) j (vp_nar .boolean v)) ha (by rfl), ur_w] at hP1
  exact k p l e R s m args below meth c D cA base sp n0 s0 Z C fin H1 locs1 lsA cells slots (hA.to (σ' := (lay, uw_ mm a j (vp_nar .boolean v))) rfl rfl hP1 hS1) hL
set_option maxHeartbeats 400000 in
theorem cl_q {cA : Nat → ClassId} {base kd n : Nat} {rs : List (Option Nat)} {row : Nat → Int32} (h : 14 ≤ kd) : cl_e cA base (kd, n, rs) row = .inl (cA kd, n, .inr (.inr (.inr (.inr (fun k => (rs.getD k none).map (fun r => base + r)))))) := by
  have h1 : ¬ kd < 11 := by omega
  have h2 : ¬ kd < 14 := by omega
  simp [cl_e, h1, h2]
set_option maxHeartbeats 400000 in
theorem Y_aald {a n j r kd : Nat} {CC : String} {rs : List (Option Nat)} {x : Int32} (i : Nat) (h : (m_t M)[i]? = some (pc, .aaload, 1)) (hp : pc + 1 = pc2) (ha : lay[a]? = some (kd, n, rs)) (hkd : 14 ≤ kd) (ht : ∀ cA : Nat → ClassId, (ty_s cA)[kd - 11]? = some (cA kd, .object CC)) (hx : x = nI j) (hj : j < n) (hn : n < 2 ^ 31) (hr : rs.getD j none = some r) (hr2 : r < 1000000) (k : Y G M cap pc2 ls (.ref r :: st) (lay, mm) Q) : Y G M cap pc ls (.int x :: .ref a :: st) (lay, mm) Q := by
  intro p l e R s m args below meth c D cA base sp n0 s0 Z C fin H locs lsA cells slots hA hL
  subst hp; subst hx
  have hk := (k p l e R s m args below meth c D cA base sp n0 s0 Z C fin H locs lsA cells slots hA hL)
  have hk : W p l e R s m args below meth c H locs cells slots Z (F0 m (pc + 1) lsA (tr_ base sp (.ref r) :: st.map (tr_ base sp))) := hk
  rw [tr_ref hr2] at hk
  show W p l e R s m args below meth c H locs cells slots Z (F0 m pc lsA (.int (nI j) :: tr_ base sp (.ref a) :: st.map (tr_ base sp)))
  rw [tr_ref (At_.lt hA ha)]
  refine va_aldq (n := n) C.ex C.by C.st.1 hA.1 a (kd - 11) (cA := cA kd) (by rw [wd_get (σ := (lay, mm)) ha, cl_q hkd]) (ht cA) (vp_in_nI hj hn) (C.dec h) ?_
  rw [nI_clamp (Nat.lt_trans hj hn), hr]
  exact hk
set_option maxHeartbeats 400000 in
theorem Y_aast {a n j r kd ci cn : Nat} {qq : vw_C} {rs crs : List (Option Nat)} {x : Int32} (i : Nat) (h : (m_t M)[i]? = some (pc, .aastore, 1)) (hp : pc + 1 = pc2) (ha : lay[a]? = some (kd, n, rs)) (hkd : 14 ≤ kd) (hv : lay[r]? = some (ci, cn, crs)) (hci : ci < 11) (hc : vwCl[ci]? = some qq) (ht : ∀ cA : Nat → ClassId, (ty_s cA)[kd - 11]? = some (cA kd, .object qq.1)) (hx : x = nI j) (hj : j < n) (hn : n < 2 ^ 31) (hjr : j < rs.length) (k : Y G M cap pc2 ls st (lay.set a (kd, n, rs.set j (some r)), mm) Q) : Y G M cap pc ls (.ref r :: .int x :: .ref a :: st) (lay, mm) Q := by
  intro p l e R s m args below meth c D cA base sp n0 s0 Z C fin H locs lsA cells slots hA hL
  subst hp; subst hx
  show W p l e R s m args below meth c H locs cells slots Z (F0 m pc lsA (tr_ base sp (.ref r) :: .int (nI j) :: tr_ base sp (.ref a) :: st.map (tr_ base sp)))
  rw [tr_ref (At_.lt hA ha), tr_ref (At_.lt hA hv)]
  refine va_astq (n := n) C.ex C.by C.st.1 hA.1 wd_D hA.2.2.1 a (kd - 11) r ci (cA := cA kd) (by rw [wd_get (σ := (lay, mm)) ha, cl_q hkd]) (ht cA) (hv := by rw [wd_get (σ := (lay, mm)) hv, cl_o hci]) hc (vp_in_nI hj hn) (C.dec h) (fun H1 locs1 hP1 hD1 hS1 => ?_)
  rw [nI_clamp (Nat.lt_trans hj hn)] at hP1
  have e2 : va_up (fun k => (rs.getD k none).map (fun r => base + r)) j (some (base + r)) = fun k => ((rs.set j (some r)).getD k none).map (fun r => base + r) := by
    funext q
    by_cases hq : q = j
    · subst hq
      simp [va_up, hjr]
    · simp [va_up, hq, List.getElem?_set, Ne.symm hq]
  rw [e2, wd_set (e' := (kd, n, rs.set j (some r))) (row := mm a) ha (by rw [cl_q hkd])] at hP1
  have e1 : ur_ mm a (mm a) = mm := by
    funext b
    by_cases hb : b = a
    · subst hb; simp [ur_]
    · simp [ur_, hb]
  rw [e1] at hP1
  exact k p l e R s m args below meth c D cA base sp n0 s0 Z C fin H1 locs1 lsA cells slots (hA.to (σ' := (lay.set a (kd, n, rs.set j (some r)), mm)) (by simp) (sl_set ha rfl) hP1 hS1) hL
set_option maxHeartbeats 400000 in
theorem Y_alen_b {a n : Nat} {rs : List (Option Nat)} {v : Int32} (i : Nat) (h : (m_t M)[i]? = some (pc, .arraylength, 1)) (hp : pc + 1 = pc2) (ha : lay[a]? = some (11, n, rs)) (hv : nI n = v) (k : Y G M cap pc2 ls (.int v :: st) (lay, mm) Q) : Y G M cap pc ls (.ref a :: st) (lay, mm) Q := by
  intro p l e R s m args below meth c D cA base sp n0 s0 Z C fin H locs lsA cells slots hA hL
  subst hp
  have hk := (k p l e R s m args below meth c D cA base sp n0 s0 Z C fin H locs lsA cells slots hA hL)
  show W p l e R s m args below meth c H locs cells slots Z (F0 m pc lsA (tr_ base sp (.ref a) :: st.map (tr_ base sp)))
  rw [tr_ref (At_.lt hA ha)]
  exact va_alen (x := (n, .inl (mm a))) (ty := .byte) C.ex C.by C.st.1 hA.1 a 0 (cA := cA 11) (by rw [wd_get (σ := (lay, mm)) ha]; rfl) rfl hv (C.dec h) hk
set_option maxHeartbeats 400000 in
theorem Y_alen_i {a n : Nat} {rs : List (Option Nat)} {v : Int32} (i : Nat) (h : (m_t M)[i]? = some (pc, .arraylength, 1)) (hp : pc + 1 = pc2) (ha : lay[a]? = some (12, n, rs)) (hv : nI n = v) (k : Y G M cap pc2 ls (.int v :: st) (lay, mm) Q) : Y G M cap pc ls (.ref a :: st) (lay, mm) Q := by
  intro p l e R s m args below meth c D cA base sp n0 s0 Z C fin H locs lsA cells slots hA hL
  subst hp
  have hk := (k p l e R s m args below meth c D cA base sp n0 s0 Z C fin H locs lsA cells slots hA hL)
  show W p l e R s m args below meth c H locs cells slots Z (F0 m pc lsA (tr_ base sp (.ref a) :: st.map (tr_ base sp)))
  rw [tr_ref (At_.lt hA ha)]
  exact va_alen (x := (n, .inl (mm a))) (ty := .int) C.ex C.by C.st.1 hA.1 a 1 (cA := cA 12) (by rw [wd_get (σ := (lay, mm)) ha]; rfl) rfl hv (C.dec h) hk
set_option maxHeartbeats 400000 in
theorem Y_alen_z {a n : Nat} {rs : List (Option Nat)} {v : Int32} (i : Nat) (h : (m_t M)[i]? = some (pc, .arraylength, 1)) (hp : pc + 1 = pc2) (ha : lay[a]? = some (13, n, rs)) (hv : nI n = v) (k : Y G M cap pc2 ls (.int v :: st) (lay, mm) Q) : Y G M cap pc ls (.ref a :: st) (lay, mm) Q := by
  intro p l e R s m args below meth c D cA base sp n0 s0 Z C fin H locs lsA cells slots hA hL
  subst hp
  have hk := (k p l e R s m args below meth c D cA base sp n0 s0 Z C fin H locs lsA cells slots hA hL)
  show W p l e R s m args below meth c H locs cells slots Z (F0 m pc lsA (tr_ base sp (.ref a) :: st.map (tr_ base sp)))
  rw [tr_ref (At_.lt hA ha)]
  exact va_alen (x := (n, .inl (mm a))) (ty := .boolean) C.ex C.by C.st.1 hA.1 a 2 (cA := cA 13) (by rw [wd_get (σ := (lay, mm)) ha]; rfl) rfl hv (C.dec h) hk
set_option maxHeartbeats 400000 in
theorem Y_sald {j z : Nat} {x : Int32} (i : Nat) (h : (m_t M)[i]? = some (pc, .iaload, 1)) (hp : pc + 1 = pc2) (hz : z < 2) (hx : x = nI j) (hj : j < o_N G z) (hn : o_N G z < 2 ^ 31) (k : Y G M cap pc2 ls (.int (o_F G z j) :: st) σ Q) : Y G M cap pc ls (.int x :: .ref (1000000 + z) :: st) σ Q := by
  intro p l e R s m args below meth c D cA base sp n0 s0 Z C fin H locs lsA cells slots hA hL
  subst hp; subst hx
  have hk := (k p l e R s m args below meth c D cA base sp n0 s0 Z C fin H locs lsA cells slots hA hL)
  have e0 : tr_ base sp (.ref (1000000 + z)) = .ref (sp z) := by
    show Value.ref (if 1000000 + z < 1000000 then base + (1000000 + z) else sp (1000000 + z - 1000000)) = _
    rw [if_neg (by omega), Nat.add_sub_cancel_left]
  show W p l e R s m args below meth c H locs cells slots Z (F0 m pc lsA (.int (nI j) :: tr_ base sp (.ref (1000000 + z)) :: st.map (tr_ base sp)))
  rw [e0]
  exact va_ti C.ex C.by (C.st.2.2.2.1 z hz) hA.2.2.1 (vp_in_nI hj hn) (by rw [nI_clamp (Nat.lt_trans hj hn)]; rfl) (C.dec h) hk
set_option maxHeartbeats 400000 in
theorem Y_slen {z : Nat} {v : Int32} (i : Nat) (h : (m_t M)[i]? = some (pc, .arraylength, 1)) (hp : pc + 1 = pc2) (hz : z < 2) (hv : nI (o_N G z) = v) (k : Y G M cap pc2 ls (.int v :: st) σ Q) : Y G M cap pc ls (.ref (1000000 + z) :: st) σ Q := by
  intro p l e R s m args below meth c D cA base sp n0 s0 Z C fin H locs lsA cells slots hA hL
  subst hp
  have hk := (k p l e R s m args below meth c D cA base sp n0 s0 Z C fin H locs lsA cells slots hA hL)
  have e0 : tr_ base sp (.ref (1000000 + z)) = .ref (sp z) := by
    show Value.ref (if 1000000 + z < 1000000 then base + (1000000 + z) else sp (1000000 + z - 1000000)) = _
    rw [if_neg (by omega), Nat.add_sub_cancel_left]
  show W p l e R s m args below meth c H locs cells slots Z (F0 m pc lsA (tr_ base sp (.ref (1000000 + z)) :: st.map (tr_ base sp)))
  rw [e0]
  exact va_tlen C.ex C.by (C.st.2.2.2.1 z hz) hA.2.2.1 hv (C.dec h) hk
set_option maxHeartbeats 400000 in
theorem Y_gets {index : Nat} (i : Nat) (h : (m_t M)[i]? = some (pc, .getstatic index, 3)) (hp : pc + 3 = pc2) (hw : Cond.fieldLink (m_y M).cls index "GongHouse" "KIND_ABOVE" "[I" ∈ Tb) (k : Y G M cap pc2 ls (.ref 1000001 :: st) σ Q) : Y G M cap pc ls st σ Q := by
  intro p l e R s m args below meth c D cA base sp n0 s0 Z C fin H locs lsA cells slots hA hL
  subst hp
  have hk := (k p l e R s m args below meth c D cA base sp n0 s0 Z C fin H locs lsA cells slots hA hL)
  exact va_gets C.ex C.by C.st.2.2.2.2 hA.2.2.1 C.ow (C.ts _ hw) (fun _ h9 => h9) (C.dec h) hk
end Y2
end
section
/-! new cells -/
set_option maxHeartbeats 400000 in
theorem wd_push {cA : Nat → ClassId} {base : Nat} {lay : Ly} {mm : Mm} {e : Nat × Nat × List (Option Nat)} {row : Nat → Int32} : wd_ cA base (lay ++ [e], ur_ mm lay.length row) = wd_ cA base (lay, mm) ++ [(base + lay.length, cl_e cA base e row)] := by
  have h1 : lay.mapIdx (fun a e => (base + a, cl_e cA base e (ur_ mm lay.length row a))) = lay.mapIdx (fun a e => (base + a, cl_e cA base e (mm a))) := by
    apply List.ext_getElem?
    intro i
    rw [List.getElem?_mapIdx, List.getElem?_mapIdx]
    by_cases hi : i < lay.length
    · have hne : ¬ i = lay.length := by omega
      simp [ur_, hne]
    · rw [List.getElem?_eq_none (by omega)]
      rfl
  simp only [wd_, List.mapIdx_append]
  rw [h1]
  simp [ur_]
set_option maxHeartbeats 400000 in
theorem sl_push {lay : Ly} {e : Nat × Nat × List (Option Nat)} : sl_ (lay ++ [e]) = sl_ lay + e.2.1 := by simp [sl_]
set_option maxHeartbeats 400000 in
theorem q_is {D : va_G} {cA : Nat → ClassId} {base : Nat} {σ : Sg} {q : Nat} {E : va_E} {H1 : Heap} (hP : va_P D vwCl (wd_ cA base σ ++ [(q, E)]) H1) (hD : va_D (fun q => base ≤ q) (wd_ cA base σ ++ [(q, E)])) (hz : H1.size ≤ base + σ.1.length + 1) : q = base + σ.1.length := by
  have hlen : (wd_ cA base σ).length = σ.1.length := by simp [wd_]
  have hl : (wd_ cA base σ ++ [(q, E)])[σ.1.length]? = some (q, E) := by
    rw [List.getElem?_append_right (by omega), hlen]; simp
  have h1 : q < H1.size := (hP _ _ hl).lt
  have h2 : base ≤ q := hD.2 _ _ hl
  rcases Nat.lt_or_ge (q - base) σ.1.length with h3 | h3
  · exfalso
    have h4 : (wd_ cA base σ ++ [(q, E)])[q - base]? = some (base + (q - base), cl_e cA base (σ.1[q - base]) (σ.2 (q - base))) := by
      rw [List.getElem?_append_left (by omega)]
      exact wd_get (List.getElem?_eq_getElem h3)
    have h5 := hD.1 _ _ _ _ h4 hl (by show base + (q - base) = q; omega)
    omega
  · omega
set_option maxHeartbeats 400000 in
theorem W_siz {p : Program} {l : Launch} {e : Env} {R : Room} {s : State} {m : MethodId} {args : Array Value} {below : List Frame} {meth : Method} {c : Code} {H : Heap} {locs : List Loc} {cells slots : Nat} {Z : State → Prop} {g : JFrame} (k : H.size ≤ s.heap.size + cells → W p l e R s m args below meth c H locs cells slots Z g) : W p l e R s m args below meth c H locs cells slots Z g :=
  fun T hT X => k (by rw [← hT]; exact X.heapSize) T hT X
set_option maxHeartbeats 400000 in
theorem At_.size {R : Room} {s : State} {D : va_G} {cA : Nat → ClassId} {base n0 s0 : Nat} {σ : Sg} {H : Heap} {locs : List Loc} {cells slots : Nat} (h : At_ R s D cA base n0 s0 σ H locs cells slots) (hs : s.heap.size = base + n0) (hz : H.size ≤ s.heap.size + cells) : H.size = base + σ.1.length := by
  have h1 := h.2.2.2.1
  rcases Nat.eq_zero_or_pos σ.1.length with h0 | h0
  · have h2 := h.2.2.1.1
    omega
  · have h3 : (wd_ cA base σ)[σ.1.length - 1]? = some (base + (σ.1.length - 1), cl_e cA base (σ.1[σ.1.length - 1]) (σ.2 (σ.1.length - 1))) := wd_get (List.getElem?_eq_getElem (by omega))
    have h4 := (h.1 _ _ h3).lt
    have h4 : base + (σ.1.length - 1) < H.size := h4
    omega
/-- the entry 'index' of 'own' names class number ci of N fields -/
def nc_ (own : String) (index ci N : Nat) : Prop := ∃ (C : String) (T : u_T), vwCl[ci]? = some (C, T, N) ∧ ci < 11 ∧ (∀ w ∈ u_ws C T N, w ∈ Tb) ∧ (∀ k, k < N → parseFieldDescriptor (T k).2.2.1 = some (ty_c ci k)) ∧ (∀ k, k < N → defaultValue (ty_c ci k) = if is_I (ty_c ci k) = true then Value.int 0 else .null) ∧ Cond.classLink own index C ∈ Tb ∧ Cond.instantiable C N ∈ Tb ∧ Cond.initialized C ∈ Tb
section Y3
variable {G : Nat × (Nat → Int32)} {M : Mi} {cap : Nat × Nat} {pc pc2 : Nat} {ls ls2 : List (Option Value)} {st : List Value} {σ : Sg} {lay : Ly} {mm : Mm} {Q : Option Value → Sg → Prop}
set_option maxHeartbeats 400000 in
theorem Y_new {index ci N : Nat} (i : Nat) (h : (m_t M)[i]? = some (pc, .new index, 3)) (hp : pc + 3 = pc2) (hn : nc_ (m_y M).cls index ci N) (hc1 : lay.length + 1 ≤ cap.1) (hc2 : sl_ lay + N ≤ cap.2) (hln : lay.length + 1 ≤ 1000000) (k : Y G M cap pc2 ls (.ref lay.length :: st) (lay ++ [(ci, N, List.replicate N none)], ur_ mm lay.length (fun _ => 0)) Q) : Y G M cap pc ls st (lay, mm) Q := by
  intro p l e R s m args below meth c D cA base sp n0 s0 Z C fin H locs lsA cells slots hA hL
  subst hp
  obtain ⟨CC, T, h1, h11, h3, h4, h5, h6, h7, h8⟩ := hn
  have hcc := C.rm.2.2.1
  have hcs := C.rm.2.2.2
  have e1 : cells + n0 = lay.length := hA.2.2.2.1
  have e2 : slots + s0 = sl_ lay := hA.2.2.2.2.1
  refine va_new (fs := (List.range N).map (fun k => if is_I (ty_c ci k) = true then Value.int 0 else va_rf (((List.replicate N none).getD k none).map (fun r => base + r)))) C.ex C.by C.ts h3 (ty_c ci) h4 C.ow (C.ts _ h6) (C.ts _ h7) (C.ts _ h8) C.st.1 hA.1 wd_D hA.2.2.1 (fun q hq => ?_) h1 (fun j hj => ?_) (by omega) (by omega) (C.dec h) (fun q H1 hP1 hD1 hS1 => ?_)
  · show base ≤ q
    have := C.sz
    omega
  · rw [h5 j hj]
    simp [vp_V, hj, va_rf]
  · refine W_siz (fun hz => ?_)
    have hq := q_is hP1 hD1 (by have := C.sz; simp only; omega)
    subst hq
    have hP2 : va_P D vwCl (wd_ cA base (lay ++ [(ci, N, List.replicate N none)], ur_ mm lay.length (fun _ => 0))) H1 := by
      rw [wd_push, cl_o h11]
      exact hP1
    have hk := k p l e R s m args below meth c D cA base sp n0 s0 Z C fin H1 locs lsA (cells + 1) (slots + N) ⟨hP2, by simpa using hln, hS1, by simp; omega, by show _ = sl_ (lay ++ [(ci, N, List.replicate N none)]); rw [sl_push]; simp only; omega, by omega, by omega⟩ hL
    have hk : W p l e R s m args below meth c H1 locs (cells + 1) (slots + N) Z (F0 m (pc + 3) lsA (tr_ base sp (.ref lay.length) :: st.map (tr_ base sp))) := hk
    rw [tr_ref (by omega)] at hk
    exact hk
set_option maxHeartbeats 400000 in
theorem Y_newa_b {n : Nat} {x : Int32} (i : Nat) (h : (m_t M)[i]? = some (pc, .newarray .byte, 2)) (hp : pc + 2 = pc2) (hw : Cond.arrayClass .byte ∈ Tb) (hx : x = nI n) (hnn : n ≤ 100000) (hc1 : lay.length + 1 ≤ cap.1) (hc2 : sl_ lay + n ≤ cap.2) (hln : lay.length + 1 ≤ 1000000) (k : Y G M cap pc2 ls (.ref lay.length :: st) (lay ++ [(11, n, [])], ur_ mm lay.length (fun _ => 0)) Q) : Y G M cap pc ls (.int x :: st) (lay, mm) Q := by
  intro p l e R s m args below meth c D cA base sp n0 s0 Z C fin H locs lsA cells slots hA hL
  subst hp; subst hx
  have hcc := C.rm.2.2.1
  have hcs := C.rm.2.2.2
  have e1 : cells + n0 = lay.length := hA.2.2.2.1
  have e2 : slots + s0 = sl_ lay := hA.2.2.2.2.1
  refine va_newa (ty := .byte) (a0 := (n, .inl (fun _ => 0))) (N' := n) C.ex C.by (atype := .byte) (C.ts _ hw) rfl C.st.1 hA.1 wd_D hA.2.2.1 (fun q hq => ?_) (fun _ => rfl) (nI_pos (by omega)) (nI_clamp (by omega)) (by show n * _ ≤ _; simp only [componentBytes]; omega) (by omega) (by omega) (C.dec h) (fun q cB H1 hK1 hP1 hD1 hS1 => ?_)
  · show base ≤ q
    have := C.sz
    omega
  · refine W_siz (fun hz => ?_)
    have hq := q_is hP1 hD1 (by have := C.sz; simp only; omega)
    subst hq
    have f1 : s.vm.findClass ("[" ++ (FieldType.toString .byte)) = some cB := (hK1.2 7 (cB, .byte) rfl).2
    have f2 : s.vm.findClass ("[" ++ (FieldType.toString .byte)) = some (cA 11) := (C.st.1.2 0 (cA 11, .byte) rfl).2
    have hB : cB = cA 11 := Option.some.inj (f1.symm.trans f2)
    subst hB
    have hP2 : va_P D vwCl (wd_ cA base (lay ++ [(11, n, [])], ur_ mm lay.length (fun _ => 0))) H1 := by
      rw [wd_push]
      exact hP1
    have hk := k p l e R s m args below meth c D cA base sp n0 s0 Z C fin H1 locs lsA (cells + 1) (slots + n) ⟨hP2, by simpa using hln, hS1, by simp; omega, by show _ = sl_ (lay ++ [(11, n, [])]); rw [sl_push]; simp only; omega, by omega, by omega⟩ hL
    have hk : W p l e R s m args below meth c H1 locs (cells + 1) (slots + n) Z (F0 m (pc + 2) lsA (tr_ base sp (.ref lay.length) :: st.map (tr_ base sp))) := hk
    rw [tr_ref (by omega)] at hk
    exact hk
set_option maxHeartbeats 400000 in
theorem Y_newa_i {n : Nat} {x : Int32} (i : Nat) (h : (m_t M)[i]? = some (pc, .newarray .int, 2)) (hp : pc + 2 = pc2) (hw : Cond.arrayClass .int ∈ Tb) (hx : x = nI n) (hnn : n ≤ 100000) (hc1 : lay.length + 1 ≤ cap.1) (hc2 : sl_ lay + n ≤ cap.2) (hln : lay.length + 1 ≤ 1000000) (k : Y G M cap pc2 ls (.ref lay.length :: st) (lay ++ [(12, n, [])], ur_ mm lay.length (fun _ => 0)) Q) : Y G M cap pc ls (.int x :: st) (lay, mm) Q := by
  intro p l e R s m args below meth c D cA base sp n0 s0 Z C fin H locs lsA cells slots hA hL
  subst hp; subst hx
  have hcc := C.rm.2.2.1
  have hcs := C.rm.2.2.2
  have e1 : cells + n0 = lay.length := hA.2.2.2.1
  have e2 : slots + s0 = sl_ lay := hA.2.2.2.2.1
  refine va_newa (ty := .int) (a0 := (n, .inl (fun _ => 0))) (N' := n) C.ex C.by (atype := .int) (C.ts _ hw) rfl C.st.1 hA.1 wd_D hA.2.2.1 (fun q hq => ?_) (fun _ => rfl) (nI_pos (by omega)) (nI_clamp (by omega)) (by show n * _ ≤ _; simp only [componentBytes]; omega) (by omega) (by omega) (C.dec h) (fun q cB H1 hK1 hP1 hD1 hS1 => ?_)
  · show base ≤ q
    have := C.sz
    omega
  · refine W_siz (fun hz => ?_)
    have hq := q_is hP1 hD1 (by have := C.sz; simp only; omega)
    subst hq
    have f1 : s.vm.findClass ("[" ++ (FieldType.toString .int)) = some cB := (hK1.2 7 (cB, .int) rfl).2
    have f2 : s.vm.findClass ("[" ++ (FieldType.toString .int)) = some (cA 12) := (C.st.1.2 1 (cA 12, .int) rfl).2
    have hB : cB = cA 12 := Option.some.inj (f1.symm.trans f2)
    subst hB
    have hP2 : va_P D vwCl (wd_ cA base (lay ++ [(12, n, [])], ur_ mm lay.length (fun _ => 0))) H1 := by
      rw [wd_push]
      exact hP1
    have hk := k p l e R s m args below meth c D cA base sp n0 s0 Z C fin H1 locs lsA (cells + 1) (slots + n) ⟨hP2, by simpa using hln, hS1, by simp; omega, by show _ = sl_ (lay ++ [(12, n, [])]); rw [sl_push]; simp only; omega, by omega, by omega⟩ hL
    have hk : W p l e R s m args below meth c H1 locs (cells + 1) (slots + n) Z (F0 m (pc + 2) lsA (tr_ base sp (.ref lay.length) :: st.map (tr_ base sp))) := hk
    rw [tr_ref (by omega)] at hk
    exact hk
set_option maxHeartbeats 400000 in
theorem Y_newa_z {n : Nat} {x : Int32} (i : Nat) (h : (m_t M)[i]? = some (pc, .newarray .boolean, 2)) (hp : pc + 2 = pc2) (hw : Cond.arrayClass .boolean ∈ Tb) (hx : x = nI n) (hnn : n ≤ 100000) (hc1 : lay.length + 1 ≤ cap.1) (hc2 : sl_ lay + n ≤ cap.2) (hln : lay.length + 1 ≤ 1000000) (k : Y G M cap pc2 ls (.ref lay.length :: st) (lay ++ [(13, n, [])], ur_ mm lay.length (fun _ => 0)) Q) : Y G M cap pc ls (.int x :: st) (lay, mm) Q := by
  intro p l e R s m args below meth c D cA base sp n0 s0 Z C fin H locs lsA cells slots hA hL
  subst hp; subst hx
  have hcc := C.rm.2.2.1
  have hcs := C.rm.2.2.2
  have e1 : cells + n0 = lay.length := hA.2.2.2.1
  have e2 : slots + s0 = sl_ lay := hA.2.2.2.2.1
  refine va_newa (ty := .boolean) (a0 := (n, .inl (fun _ => 0))) (N' := n) C.ex C.by (atype := .boolean) (C.ts _ hw) rfl C.st.1 hA.1 wd_D hA.2.2.1 (fun q hq => ?_) (fun _ => rfl) (nI_pos (by omega)) (nI_clamp (by omega)) (by show n * _ ≤ _; simp only [componentBytes]; omega) (by omega) (by omega) (C.dec h) (fun q cB H1 hK1 hP1 hD1 hS1 => ?_)
  · show base ≤ q
    have := C.sz
    omega
  · refine W_siz (fun hz => ?_)
    have hq := q_is hP1 hD1 (by have := C.sz; simp only; omega)
    subst hq
    have f1 : s.vm.findClass ("[" ++ (FieldType.toString .boolean)) = some cB := (hK1.2 7 (cB, .boolean) rfl).2
    have f2 : s.vm.findClass ("[" ++ (FieldType.toString .boolean)) = some (cA 13) := (C.st.1.2 2 (cA 13, .boolean) rfl).2
    have hB : cB = cA 13 := Option.some.inj (f1.symm.trans f2)
    subst hB
    have hP2 : va_P D vwCl (wd_ cA base (lay ++ [(13, n, [])], ur_ mm lay.length (fun _ => 0))) H1 := by
      rw [wd_push]
      exact hP1
    have hk := k p l e R s m args below meth c D cA base sp n0 s0 Z C fin H1 locs lsA (cells + 1) (slots + n) ⟨hP2, by simpa using hln, hS1, by simp; omega, by show _ = sl_ (lay ++ [(13, n, [])]); rw [sl_push]; simp only; omega, by omega, by omega⟩ hL
    have hk : W p l e R s m args below meth c H1 locs (cells + 1) (slots + n) Z (F0 m (pc + 2) lsA (tr_ base sp (.ref lay.length) :: st.map (tr_ base sp))) := hk
    rw [tr_ref (by omega)] at hk
    exact hk
set_option maxHeartbeats 400000 in
theorem Y_newq_Circle {index n : Nat} {x : Int32} (i : Nat) (h : (m_t M)[i]? = some (pc, .anewarray index, 3)) (hp : pc + 3 = pc2) (hw : Cond.classLink (m_y M).cls index "GongHouse$Circle" ∈ Tb) (hx : x = nI n) (hnn : n ≤ 100000) (hc1 : lay.length + 1 ≤ cap.1) (hc2 : sl_ lay + n ≤ cap.2) (hln : lay.length + 1 ≤ 1000000) (k : Y G M cap pc2 ls (.ref lay.length :: st) (lay ++ [(14, n, List.replicate n none)], ur_ mm lay.length (fun _ => 0)) Q) : Y G M cap pc ls (.int x :: st) (lay, mm) Q := by
  intro p l e R s m args below meth c D cA base sp n0 s0 Z C fin H locs lsA cells slots hA hL
  subst hp; subst hx
  have hcc := C.rm.2.2.1
  have hcs := C.rm.2.2.2
  have e1 : cells + n0 = lay.length := hA.2.2.2.1
  have e2 : slots + s0 = sl_ lay := hA.2.2.2.2.1
  refine va_newq (N' := n) C.ex C.by C.ow (C.ts _ hw) C.st.2.2.1.1 C.st.1 hA.1 wd_D hA.2.2.1 (fun q hq => ?_) (nI_pos (by omega)) (nI_clamp (by omega)) (by omega) (by omega) (by omega) (C.dec h) (fun q cB H1 hK1 hP1 hD1 hS1 => ?_)
  · show base ≤ q
    have := C.sz
    omega
  · refine W_siz (fun hz => ?_)
    have hq := q_is hP1 hD1 (by have := C.sz; simp only; omega)
    subst hq
    obtain ⟨kA, comp, -, -, -, f1⟩ := (hK1.2 7 (cB, .object "GongHouse$Circle") rfl).2
    obtain ⟨kA2, comp2, -, -, -, f2⟩ := (C.st.1.2 3 (cA 14, .object "GongHouse$Circle") rfl).2
    have hB : cB = cA 14 := Option.some.inj (f1.symm.trans f2)
    subst hB
    have hP2 : va_P D vwCl (wd_ cA base (lay ++ [(14, n, List.replicate n none)], ur_ mm lay.length (fun _ => 0))) H1 := by
      rw [wd_push, cl_q (by omega)]
      have ee : (fun k => ((List.replicate n (none : Option Nat)).getD k none).map (fun r => base + r)) = fun _ => none := by
        funext k
        by_cases hk : k < n <;> simp [hk]
      rw [ee]
      exact hP1
    have hk := k p l e R s m args below meth c D cA base sp n0 s0 Z C fin H1 locs lsA (cells + 1) (slots + n) ⟨hP2, by simpa using hln, hS1, by simp; omega, by show _ = sl_ (lay ++ [(14, n, List.replicate n none)]); rw [sl_push]; simp only; omega, by omega, by omega⟩ hL
    have hk : W p l e R s m args below meth c H1 locs (cells + 1) (slots + n) Z (F0 m (pc + 3) lsA (tr_ base sp (.ref lay.length) :: st.map (tr_ base sp))) := hk
    rw [tr_ref (by omega)] at hk
    exact hk
set_option maxHeartbeats 400000 in
theorem Y_newq_Figure {index n : Nat} {x : Int32} (i : Nat) (h : (m_t M)[i]? = some (pc, .anewarray index, 3)) (hp : pc + 3 = pc2) (hw : Cond.classLink (m_y M).cls index "GongHouse$Figure" ∈ Tb) (hx : x = nI n) (hnn : n ≤ 100000) (hc1 : lay.length + 1 ≤ cap.1) (hc2 : sl_ lay + n ≤ cap.2) (hln : lay.length + 1 ≤ 1000000) (k : Y G M cap pc2 ls (.ref lay.length :: st) (lay ++ [(15, n, List.replicate n none)], ur_ mm lay.length (fun _ => 0)) Q) : Y G M cap pc ls (.int x :: st) (lay, mm) Q := by
  intro p l e R s m args below meth c D cA base sp n0 s0 Z C fin H locs lsA cells slots hA hL
  subst hp; subst hx
  have hcc := C.rm.2.2.1
  have hcs := C.rm.2.2.2
  have e1 : cells + n0 = lay.length := hA.2.2.2.1
  have e2 : slots + s0 = sl_ lay := hA.2.2.2.2.1
  refine va_newq (N' := n) C.ex C.by C.ow (C.ts _ hw) C.st.2.2.1.2.1 C.st.1 hA.1 wd_D hA.2.2.1 (fun q hq => ?_) (nI_pos (by omega)) (nI_clamp (by omega)) (by omega) (by omega) (by omega) (C.dec h) (fun q cB H1 hK1 hP1 hD1 hS1 => ?_)
  · show base ≤ q
    have := C.sz
    omega
  · refine W_siz (fun hz => ?_)
    have hq := q_is hP1 hD1 (by have := C.sz; simp only; omega)
    subst hq
    obtain ⟨kA, comp, -, -, -, f1⟩ := (hK1.2 7 (cB, .object "GongHouse$Figure") rfl).2
    obtain ⟨kA2, comp2, -, -, -, f2⟩ := (C.st.1.2 4 (cA 15, .object "GongHouse$Figure") rfl).2
    have hB : cB = cA 15 := Option.some.inj (f1.symm.trans f2)
    subst hB
    have hP2 : va_P D vwCl (wd_ cA base (lay ++ [(15, n, List.replicate n none)], ur_ mm lay.length (fun _ => 0))) H1 := by
      rw [wd_push, cl_q (by omega)]
      have ee : (fun k => ((List.replicate n (none : Option Nat)).getD k none).map (fun r => base + r)) = fun _ => none := by
        funext k
        by_cases hk : k < n <;> simp [hk]
      rw [ee]
      exact hP1
    have hk := k p l e R s m args below meth c D cA base sp n0 s0 Z C fin H1 locs lsA (cells + 1) (slots + n) ⟨hP2, by simpa using hln, hS1, by simp; omega, by show _ = sl_ (lay ++ [(15, n, List.replicate n none)]); rw [sl_push]; simp only; omega, by omega, by omega⟩ hL
    have hk : W p l e R s m args below meth c H1 locs (cells + 1) (slots + n) Z (F0 m (pc + 3) lsA (tr_ base sp (.ref lay.length) :: st.map (tr_ base sp))) := hk
    rw [tr_ref (by omega)] at hk
    exact hk
set_option maxHeartbeats 400000 in
theorem Y_newq_Level {index n : Nat} {x : Int32} (i : Nat) (h : (m_t M)[i]? = some (pc, .anewarray index, 3)) (hp : pc + 3 = pc2) (hw : Cond.classLink (m_y M).cls index "GongHouse$Level" ∈ Tb) (hx : x = nI n) (hnn : n ≤ 100000) (hc1 : lay.length + 1 ≤ cap.1) (hc2 : sl_ lay + n ≤ cap.2) (hln : lay.length + 1 ≤ 1000000) (k : Y G M cap pc2 ls (.ref lay.length :: st) (lay ++ [(16, n, List.replicate n none)], ur_ mm lay.length (fun _ => 0)) Q) : Y G M cap pc ls (.int x :: st) (lay, mm) Q := by
  intro p l e R s m args below meth c D cA base sp n0 s0 Z C fin H locs lsA cells slots hA hL
  subst hp; subst hx
  have hcc := C.rm.2.2.1
  have hcs := C.rm.2.2.2
  have e1 : cells + n0 = lay.length := hA.2.2.2.1
  have e2 : slots + s0 = sl_ lay := hA.2.2.2.2.1
  refine va_newq (N' := n) C.ex C.by C.ow (C.ts _ hw) C.st.2.2.1.2.2.1 C.st.1 hA.1 wd_D hA.2.2.1 (fun q hq => ?_) (nI_pos (by omega)) (nI_clamp (by omega)) (by omega) (by omega) (by omega) (C.dec h) (fun q cB H1 hK1 hP1 hD1 hS1 => ?_)
  · show base ≤ q
    have := C.sz
    omega
  · refine W_siz (fun hz => ?_)
    have hq := q_is hP1 hD1 (by have := C.sz; simp only; omega)
    subst hq
    obtain ⟨kA, comp, -, -, -, f1⟩ := (hK1.2 7 (cB, .object "GongHouse$Level") rfl).2
    obtain ⟨kA2, comp2, -, -, -, f2⟩ := (C.st.1.2 5 (cA 16, .object "GongHouse$Level") rfl).2
    have hB : cB = cA 16 := Option.some.inj (f1.symm.trans f2)
    subst hB
    have hP2 : va_P D vwCl (wd_ cA base (lay ++ [(16, n, List.replicate n none)], ur_ mm lay.length (fun _ => 0))) H1 := by
      rw [wd_push, cl_q (by omega)]
      have ee : (fun k => ((List.replicate n (none : Option Nat)).getD k none).map (fun r => base + r)) = fun _ => none := by
        funext k
        by_cases hk : k < n <;> simp [hk]
      rw [ee]
      exact hP1
    have hk := k p l e R s m args below meth c D cA base sp n0 s0 Z C fin H1 locs lsA (cells + 1) (slots + n) ⟨hP2, by simpa using hln, hS1, by simp; omega, by show _ = sl_ (lay ++ [(16, n, List.replicate n none)]); rw [sl_push]; simp only; omega, by omega, by omega⟩ hL
    have hk : W p l e R s m args below meth c H1 locs (cells + 1) (slots + n) Z (F0 m (pc + 3) lsA (tr_ base sp (.ref lay.length) :: st.map (tr_ base sp))) := hk
    rw [tr_ref (by omega)] at hk
    exact hk
set_option maxHeartbeats 400000 in
theorem Y_newq_Sheet {index n : Nat} {x : Int32} (i : Nat) (h : (m_t M)[i]? = some (pc, .anewarray index, 3)) (hp : pc + 3 = pc2) (hw : Cond.classLink (m_y M).cls index "GongHouse$Sheet" ∈ Tb) (hx : x = nI n) (hnn : n ≤ 100000) (hc1 : lay.length + 1 ≤ cap.1) (hc2 : sl_ lay + n ≤ cap.2) (hln : lay.length + 1 ≤ 1000000) (k : Y G M cap pc2 ls (.ref lay.length :: st) (lay ++ [(17, n, List.replicate n none)], ur_ mm lay.length (fun _ => 0)) Q) : Y G M cap pc ls (.int x :: st) (lay, mm) Q := by
  intro p l e R s m args below meth c D cA base sp n0 s0 Z C fin H locs lsA cells slots hA hL
  subst hp; subst hx
  have hcc := C.rm.2.2.1
  have hcs := C.rm.2.2.2
  have e1 : cells + n0 = lay.length := hA.2.2.2.1
  have e2 : slots + s0 = sl_ lay := hA.2.2.2.2.1
  refine va_newq (N' := n) C.ex C.by C.ow (C.ts _ hw) C.st.2.2.1.2.2.2 C.st.1 hA.1 wd_D hA.2.2.1 (fun q hq => ?_) (nI_pos (by omega)) (nI_clamp (by omega)) (by omega) (by omega) (by omega) (C.dec h) (fun q cB H1 hK1 hP1 hD1 hS1 => ?_)
  · show base ≤ q
    have := C.sz
    omega
  · refine W_siz (fun hz => ?_)
    have hq := q_is hP1 hD1 (by have := C.sz; simp only; omega)
    subst hq
    obtain ⟨kA, comp, -, -, -, f1⟩ := (hK1.2 7 (cB, .object "GongHouse$Sheet") rfl).2
    obtain ⟨kA2, comp2, -, -, -, f2⟩ := (C.st.1.2 6 (cA 17, .object "GongHouse$Sheet") rfl).2
    have hB : cB = cA 17 := Option.some.inj (f1.symm.trans f2)
    subst hB
    have hP2 : va_P D vwCl (wd_ cA base (lay ++ [(17, n, List.replicate n none)], ur_ mm lay.length (fun _ => 0))) H1 := by
      rw [wd_push, cl_q (by omega)]
      have ee : (fun k => ((List.replicate n (none : Option Nat)).getD k none).map (fun r => base + r)) = fun _ => none := by
        funext k
        by_cases hk : k < n <;> simp [hk]
      rw [ee]
      exact hP1
    have hk := k p l e R s m args below meth c D cA base sp n0 s0 Z C fin H1 locs lsA (cells + 1) (slots + n) ⟨hP2, by simpa using hln, hS1, by simp; omega, by show _ = sl_ (lay ++ [(17, n, List.replicate n none)]); rw [sl_push]; simp only; omega, by omega, by omega⟩ hL
    have hk : W p l e R s m args below meth c H1 locs (cells + 1) (slots + n) Z (F0 m (pc + 3) lsA (tr_ base sp (.ref lay.length) :: st.map (tr_ base sp))) := hk
    rw [tr_ref (by omega)] at hk
    exact hk
end Y3
end
section
/-! calls -/
set_option maxHeartbeats 400000 in
theorem nw_is : ∀ w ∈ NwTb, ∃ (a : String) (i : Nat) (x : MethodName) (h : String), w = .methodLinkNest a i x h := by
  intro w hw
  simp only [NwTb, List.mem_cons, List.not_mem_nil, or_false] at hw
  rcases hw with rfl | rfl | rfl | rfl | rfl | rfl | rfl | rfl | rfl | rfl | rfl <;> exact ⟨_, _, _, _, rfl⟩
set_option maxHeartbeats 400000 in
theorem nw_.warm {s U : State} (hW : s.WarmedH U.vm) (h : nw_ s) : nw_ U := by
  intro w hw
  have h1 := h w hw
  obtain ⟨a, i, x, ho, rfl⟩ := nw_is w hw
  exact va_Nw.warmM hW h1
set_option maxHeartbeats 400000 in
theorem nw_.same {u U : State} (hv : u.vm = U.vm) (h : nw_ u) : nw_ U := by
  intro w hw
  have h1 := h w hw
  obtain ⟨a, i, x, ho, rfl⟩ := nw_is w hw
  exact va_Nw.same rfl hv h1
set_option maxHeartbeats 400000 in
theorem ao_.moved {u U : State} (hv : u.vm.Alike U.vm) (h : ao_ u) : ao_ U := ⟨va_AO.moved hv h.1, va_AO.moved hv h.2.1, va_AO.moved hv h.2.2.1, va_AO.moved hv h.2.2.2⟩
set_option maxHeartbeats 400000 in
theorem oa_.moved {G : Nat × (Nat → Int32)} {base : Nat} {sp : Nat → Nat} {u U : State} {H : Heap} (hv : u.vm.Alike U.vm) (h : oa_ G base sp u H) : oa_ G base sp U H := ⟨fun j hj => va_T.moved hv (h.1 j hj), va_Z.moved hv h.2⟩
set_option maxHeartbeats 400000 in
theorem oa_.kept {G : Nat × (Nat → Int32)} {base : Nat} {sp : Nat → Nat} {U : State} {H H1 : Heap} (h : oa_ G base sp U H) (hq : ∀ a : Nat, a < H.size → ¬ base ≤ a → H1[a]? = H[a]?) : oa_ G base sp U H1 := ⟨fun j hj => va_T.kept (h.1 j hj) hq, va_Z.kept h.2 hq⟩
set_option maxHeartbeats 400000 in
theorem St_.warm {G : Nat × (Nat → Int32)} {D : va_G} {cA : Nat → ClassId} {base : Nat} {sp : Nat → Nat} {s U : State} {H H1 : Heap} (hW : s.WarmedH U.vm) (hq : ∀ a : Nat, a < H.size → ¬ base ≤ a → H1[a]? = H[a]?) (h : St_ G D cA base sp s H) : St_ G D cA base sp U H1 :=
  ⟨va_K.moved hW.alike h.1, h.2.1.warm hW, h.2.2.1.moved hW.alike, (h.2.2.2.moved hW.alike).kept hq⟩
set_option maxHeartbeats 400000 in
theorem St_.same {G : Nat × (Nat → Int32)} {D : va_G} {cA : Nat → ClassId} {base : Nat} {sp : Nat → Nat} {u U : State} {H : Heap} (hv : u.vm = U.vm) (h : St_ G D cA base sp u H) : St_ G D cA base sp U H := by
  have hA : u.vm.Alike U.vm := by rw [hv]; exact Vm.Alike.refl _
  exact ⟨va_K.moved hA h.1, h.2.1.same hv, h.2.2.1.moved hA, h.2.2.2.moved hA⟩
def Mok (M : Mi) : Prop := plainName (m_y M).cls = true ∧ Cond.code (m_y M) (m_c M) (m_l M) (m_r M) ∈ Tb ∧ (∀ q ∈ m_t M, decode (m_c M) q.1 = .ok q.2) ∧ Cond.initialized (m_y M).cls ∈ Tb ∧ ((m_y M).cls ≠ "java/lang/invoke/MethodHandle" ∧ (m_y M).cls ≠ "java/lang/invoke/VarHandle")
def en_ (M : Mi) (as : List Value) : List (Option Value) := as.map some ++ List.replicate (m_l M - as.length) none
def qc_ (D : va_G) (cA : Nat → ClassId) (base : Nat) (sp : Nat → Nat) (Q : Option Value → Sg → Prop) : Array Value → State → Outcome → State → Prop := fun _ st oc t =>
  ∃ (v : Option Value) (σ' : Sg), oc = .returned (v.map (tr_ base sp)) ∧ Q v σ' ∧ va_P D vwCl (wd_ cA base σ') t.heap ∧ σ'.1.length ≤ 1000000 ∧ va_F (fun q => base ≤ q) st t
def pr_ (G : Nat × (Nat → Int32)) (D : va_G) (cA : Nat → ClassId) (base : Nat) (sp : Nat → Nat) (σ : Sg) (U : State) : Prop := St_ G D cA base sp U U.heap ∧ U.heap.size = base + σ.1.length ∧ σ.1.length ≤ 1000000 ∧ va_P D vwCl (wd_ cA base σ) U.heap
set_option maxHeartbeats 400000 in
theorem cat_sl (vs : List Value) (h : ∀ v ∈ vs, v.category = 1) : lg_sl vs = vs.map Slot.val := by
  induction vs with
  | nil => rfl
  | cons v t ih =>
    have h1 := h v List.mem_cons_self
    have h2 := ih (fun w hw => h w (List.mem_cons_of_mem _ hw))
    unfold lg_sl at h2 ⊢
    rw [List.flatMap_cons, h2]
    simp [h1]
set_option maxHeartbeats 400000 in
theorem en_Lh {M : Mi} {as : List Value} {base : Nat} {sp : Nat → Nat} (hc : ∀ v ∈ as, v.category = 1) (hl : as.length ≤ m_l M) :
    Lh base sp ((lg_sl (as.map (tr_ base sp)) ++ List.replicate (m_l M - (lg_sl (as.map (tr_ base sp))).length) Slot.unset).toArray) (m_l M) (en_ M as) := by
  have hc2 : ∀ v ∈ as.map (tr_ base sp), v.category = 1 := by
    intro v hv
    obtain ⟨w, hw, rfl⟩ := List.mem_map.mp hv
    rw [tr_cat]; exact hc w hw
  have he := cat_sl _ hc2
  have hh := lv_entry (as.map (tr_ base sp)) (n := m_l M) (by rw [he]; simpa using hl)
  refine ⟨by simp [en_]; omega, hh.1, hh.2.1, fun i v hv => ?_⟩
  rw [he]
  have hi : i < as.length := by
    rcases Nat.lt_or_ge i as.length with h | h
    · exact h
    · exfalso
      unfold en_ at hv
      rw [List.getElem?_append_right (by simpa using h)] at hv
      have := List.mem_of_getElem? hv
      simp at this
  unfold en_ at hv
  rw [List.getElem?_append_left (by simpa using hi), List.getElem?_map, List.getElem?_eq_getElem hi] at hv
  simp only [Option.map_some, Option.some.injEq] at hv
  subst hv
  refine ⟨?_, hc _ (List.getElem_mem hi)⟩
  rw [List.getElem?_toArray, List.getElem?_append_left (by simpa using hi)]
  simp [hi]
set_option maxHeartbeats 400000 in
theorem Y.met {G : Nat × (Nat → Int32)} {M : Mi} {cap : Nat × Nat} {as : List Value} {σ : Sg} {Q : Option Value → Sg → Prop} {mc ms : Nat} (l : Launch) (D : va_G) (cA : Nat → ClassId) (base : Nat) (sp : Nat → Nat) (hok : Mok M) (hc : ∀ v ∈ as, v.category = 1) (hl : as.length ≤ m_l M) (hcap : cap.1 ≤ σ.1.length + mc ∧ cap.2 ≤ sl_ σ.1 + ms)
    (hY : Y G M cap 0 (en_ M as) [] σ Q) (hq : ∀ v σ', Q v σ' → σ'.1.length = σ.1.length + mc ∧ sl_ σ'.1 = sl_ σ.1 + ms) :
    Met l (m_y M) (Cond.code (m_y M) (m_c M) (m_l M) (m_r M) :: Tb) ({ frames := m_f M, cells := mc, slots := ms, locals := m_w M }) (va_Pc (as.map (tr_ base sp)) (pr_ G D cA base sp σ)) (qc_ D cA base sp Q) mc ms (fun q => base ≤ q) := by
  refine Met.ofW (cc := m_c M) (maxL := m_l M) (ret := m_r M) hok.1 rfl ?_
  intro p e s m args below meth c s₁ B hml hv
  obtain ⟨rfl, hst, hsz, hln, hP⟩ := hv
  have hts0 := atoms_spec (ws := Cond.code (m_y M) (m_c M) (m_l M) (m_r M) :: Tb) B.pre
  have hts : ∀ w ∈ Tb, w.before (as.map (tr_ base sp)).toArray s = true := fun w hw => hts0 w (List.mem_cons_of_mem _ hw)
  have hown : s.vm.findClass (m_y M).cls = some m.cls := findClass_of_methodNamed B.named
  have hnm : meth.name = (m_y M).name := (name_of_methodNamed B.named B.method).1
  have hlocks := B.notSynchronized
  have hr := B.returns
  have hC : Cx G M cap p (headSpec (Cond.code (m_y M) (m_c M) (m_l M) (m_r M) :: Tb) { frames := m_f M, cells := mc, slots := ms, locals := m_w M }).room s m (as.map (tr_ base sp)).toArray meth c D cA base sp σ.1.length (sl_ σ.1) :=
    ⟨⟨B.exec, B.bytes, hml, hown, hts⟩, hok.2.2.1, hnm, ⟨Nat.le_refl _, Nat.le_refl _, hcap.1, hcap.2⟩, hst, hsz⟩
  rw [lg_entry_eq]
  refine hY p l e _ s m _ below meth c D cA base sp σ.1.length (sl_ σ.1) _ hC ?_ s.heap [] _ 0 0 ⟨hP, hln, va_S.rf, by omega, by omega, Nat.zero_le _, Nat.zero_le _⟩ (en_Lh hc hl)
  intro H locs lsA cells slots pc' st' v σ' hA hR hQ
  obtain ⟨z1, z2⟩ := hq v σ' hQ
  have hcm : cells = mc := by have := hA.2.2.2.1; omega
  have hsm : slots = ms := by have := hA.2.2.2.2.1; omega
  subst hcm; subst hsm
  have hfin : ∀ t : State, t.heap = H → qc_ D cA base sp Q (as.map (tr_ base sp)).toArray s (.returned (v.map (tr_ base sp))) t := fun t ht => ⟨v, σ', rfl, hQ, by rw [ht]; exact hA.1, hA.2.1, hA.2.2.1.F ht⟩
  rcases hR with ⟨x, ty, h1, h2, h3, rfl, rfl⟩ | ⟨a, ty, h1, h2, h3, rfl, rfl⟩ | ⟨h1, h2, rfl, rfl⟩
  · exact W.zret B.exec B.bytes (hr.trans h2) h3 (fun t ht _ => hfin t ht) hA.2.2.1.2.2 h1 hlocks
  · exact W.aret B.exec B.bytes (hr.trans h2) h3 (Or.inr ⟨_, rfl⟩) (fun t ht _ => hfin t ht) hA.2.2.1.2.2 h1 hlocks
  · exact W.vret B.exec B.bytes (hr.trans h2) (fun t ht _ => hfin t ht) hA.2.2.1.2.2 h1 hlocks
set_option maxHeartbeats 400000 in
theorem pr_blind {G : Nat × (Nat → Int32)} {D : va_G} {cA : Nat → ClassId} {base : Nat} {sp : Nat → Nat} {σ : Sg} {av : List Value} : FrameBlind (va_Pc av (pr_ G D cA base sp σ)) := by
  intro a U g mk hp
  obtain ⟨q0, q1, q2⟩ := hp
  exact ⟨q0, St_.same (u := U) (U := U.calling g mk a) rfl q1, q2⟩
set_option maxHeartbeats 400000 in
theorem pr_at {G : Nat × (Nat → Int32)} {M : Mi} {cap : Nat × Nat} {p : Program} {R : Room} {s : State} {m : MethodId} {args : Array Value} {meth : Method} {c : Code} {D : va_G} {cA : Nat → ClassId} {base : Nat} {sp : Nat → Nat} {n0 s0 : Nat} {σ : Sg} {H : Heap} {locs : List Loc} {cells slots : Nat}
    (C : Cx G M cap p R s m args meth c D cA base sp n0 s0) (hA : At_ R s D cA base n0 s0 σ H locs cells slots) (hz : H.size ≤ s.heap.size + cells) : ∀ U : State, U.heap = H → s.WarmedH U.vm → pr_ G D cA base sp σ U := by
  intro U hU hW
  have hs := hA.size C.sz hz
  refine ⟨C.st.warm hW ?_, by rw [hU]; exact hs, hA.2.1, by rw [hU]; exact hA.1⟩
  intro a h1 h2
  rw [hU]
  exact hA.2.2.1.2.1 a h1 h2
set_option maxHeartbeats 400000 in
theorem y_run {p : Program} {l : Launch} {e : Env} {R : Room} {s : State} {m : MethodId} {args : Array Value} {below : List Frame} {meth : Method} {c : Code} {H : Heap} {locs : List Loc} {cells slots : Nat} {Z : State → Prop} {D : va_G} {cA : Nat → ClassId} {base n0 s0 mc ms : Nat} {sp : Nat → Nat} {σ : Sg} {Q : Option Value → Sg → Prop} {pc : Nat} {lsA : Array Slot} {st0 rest : List Value} {a : Array Value} (hA : At_ R s D cA base n0 s0 σ H locs cells slots)
    (hr : va_Run p l e R s m args below meth c H locs cells slots mc ms (F0 m pc lsA st0) rest (qc_ D cA base sp Q a) (fun q => base ≤ q))
    (hq : ∀ v σ', Q v σ' → σ'.1.length = σ.1.length + mc ∧ sl_ σ'.1 = sl_ σ.1 + ms) (hc : cells + mc ≤ R.cells ∧ slots + ms ≤ R.slots)
    (kk : ∀ (v : Option Value) (σ' : Sg) (H1 : Heap) (locs1 : List Loc), Q v σ' → At_ R s D cA base n0 s0 σ' H1 locs1 (cells + mc) (slots + ms) → W p l e R s m args below meth c H1 locs1 (cells + mc) (slots + ms) Z (F0 m (pc + 3) lsA ((v.map (tr_ base sp)).toList ++ rest))) :
    W p l e R s m args below meth c H locs cells slots Z (F0 m pc lsA st0) := by
  intro T hT X
  obtain ⟨v, st₀, t, T', L, h0, X', hL, e1, e2, ⟨v2, σ', hv, hQ, hP, hln, hz, hk⟩, stp⟩ := hr T hT X
  cases hv
  rw [h0] at hz hk
  obtain ⟨z1, z2⟩ := hq v2 σ' hQ
  have hS := hA.2.2.1
  have hn := hA.2.2.2.1
  have hs := hA.2.2.2.2.1
  obtain ⟨t2, a1, b1⟩ := kk v2 σ' T'.heap (locs ++ L) hQ ⟨by rw [e1]; exact hP, hln, ⟨Nat.le_trans hS.1 (by rw [e1]; exact hz), fun q h1 h2 => by rw [e1, hk q (Nat.lt_of_lt_of_le h1 hS.1) h2]; exact hS.2.1 q h1 h2, fun q hq => by
      rcases List.mem_append.mp hq with h | h
      · exact hS.2.2 q h
      · exact hL q h⟩, by omega, by omega, hc.1, hc.2⟩ T' rfl X'
  exact ⟨t2, stp t2 a1, b1⟩
def lk_ (own : String) (index : Nat) (y : MethodName) : Prop := Cond.methodLink own index y ∈ Tb ∨ ∃ host, Cond.methodLinkNest own index y host ∈ NwTb
def vi_ (M : Mi) (n : Nat) : Prop := Cond.instanceMethod (m_y M) ∈ Tb ∧ Cond.selects (m_y M).cls (m_y M) (m_y M) ∈ Tb ∧ (parseMethodDescriptor (m_y M).desc).map (fun d => d.parameters.length) = some n
def vs_ (M : Mi) (n : Nat) : Prop := Cond.static (m_y M) ∈ Tb ∧ (parseMethodDescriptor (m_y M).desc).map (fun d => d.parameters.length) = some n
def vn_ (M : Mi) (n : Nat) : Prop := (m_y M).name = "<init>" ∧ m_r M = none ∧ Cond.instanceMethod (m_y M) ∈ Tb ∧ (parseMethodDescriptor (m_y M).desc).map (fun d => d.parameters.length) = some n
def qm_ (lay : Ly) (P : Option Value → Mm → Prop) : Option Value → Sg → Prop := fun v σ' => σ'.1 = lay ∧ P v σ'.2
set_option maxHeartbeats 400000 in
theorem mok_g {M : Mi} (h : Mok M) : GoodIn Tb (Cond.code (m_y M) (m_c M) (m_l M) (m_r M) :: Tb) := by
  intro w hw
  rcases List.mem_cons.mp hw with h1 | h1
  · rw [h1]; exact tb_gg _ h.2.1
  · exact tb_gg _ h1
set_option maxHeartbeats 400000 in
theorem cat_sum {base : Nat} {sp : Nat → Nat} (rest : List Value) : ((rest.map (tr_ base sp)).map fun v => v.category).sum = (rest.map fun v => v.category).sum := by
  rw [List.map_map]
  congr 1
  apply List.map_congr_left
  intro v _
  exact tr_cat base sp v
set_option maxHeartbeats 400000 in
theorem v_list {base : Nat} {sp : Nat → Nat} {v : Option Value} {rest : List Value} : (v.map (tr_ base sp)).toList ++ rest.map (tr_ base sp) = (v.toList ++ rest).map (tr_ base sp) := by
  cases v <;> rfl
section Y4
variable {G : Nat × (Nat → Int32)} {M : Mi} {cap : Nat × Nat} {pc pc2 : Nat} {ls ls2 : List (Option Value)} {st : List Value} {σ : Sg} {lay : Ly} {mm : Mm} {Q : Option Value → Sg → Prop}
set_option maxHeartbeats 400000 in
theorem Y_callV {index ci a n : Nat} {rs : List (Option Nat)} {qq : vw_C} {M2 : Mi} {as rest : List Value} {P : Option Value → Mm → Prop} (i : Nat) (h : (m_t M)[i]? = some (pc, .invokevirtual index, 3)) (hp : pc + 3 = pc2) (hM : Mok M2) (hl : lk_ (m_y M).cls index (m_y M2)) (hv : vi_ M2 as.length) (ha : lay[a]? = some (ci, n, rs)) (hci : vwCl[ci]? = some qq) (hc11 : ci < 11) (hqq : qq.1 = (m_y M2).cls) (hst : st = as.reverse ++ .ref a :: rest) (hr8 : (rest.map fun v => v.category).sum ≤ 8) (hrm : m_f M2 + 1 ≤ m_f M ∧ 8 + (m_l M2 + 11) + m_w M2 ≤ m_w M) (hca : ∀ v ∈ as, v.category = 1) (hle : as.length + 1 ≤ m_l M2) (hY : Y G M2 (0, 0) 0 (en_ M2 (.ref a :: as)) [] (lay, mm) (qm_ lay P)) (k : ∀ (v : Option Value) (m2 : Mm), P v m2 → Y G M cap pc2 ls (v.toList ++ rest) (lay, m2) Q) : Y G M cap pc ls st (lay, mm) Q := by
  intro p l e R s m args below meth c D cA base sp n0 s0 Z C fin H locs lsA cells slots hA hL
  subst hp; subst hst
  refine W_siz (fun hz => ?_)
  have hrf := C.rm.1
  have hrl := C.rm.2.1
  have hcells : cells + 0 ≤ R.cells ∧ slots + 0 ≤ R.slots := ⟨hA.2.2.2.2.2.1, hA.2.2.2.2.2.2⟩
  have hcf : ∀ v ∈ (.ref a :: as), v.category = 1 := by
    intro v hv
    rcases List.mem_cons.mp hv with h | h
    · rw [h]; rfl
    · exact hca v h
  have hmet := Y.met (mc := 0) (ms := 0) (Q := (qm_ lay P)) l D cA base sp hM hcf (by simpa using hle) ⟨Nat.zero_le _, Nat.zero_le _⟩ hY (fun v σ' hq => by rw [hq.1]; exact ⟨rfl, rfl⟩)
  have hW8 : 2 * (F0 m pc lsA []).monitorRoom + ((rest.map (tr_ base sp)).map fun v => v.category).sum ≤ 8 := lv_room (by rw [cat_sum]; exact hr8)
  have hpre := pr_at C hA hz
  have hR : ({ frames := m_f M2, cells := 0, slots := 0, locals := m_w M2 } : Room).frames + 1 ≤ R.frames ∧ 8 + (m_l M2 + 11) + ({ frames := m_f M2, cells := 0, slots := 0, locals := m_w M2 } : Room).locals ≤ R.locals := ⟨by show m_f M2 + 1 ≤ _; omega, by show 8 + (m_l M2 + 11) + m_w M2 ≤ _; omega⟩
  have hstk : List.map (tr_ base sp) (as.reverse ++ .ref a :: rest) = (as.map (tr_ base sp)).reverse ++ tr_ base sp (.ref a) :: rest.map (tr_ base sp) := by simp
  rw [hstk]
  have htr := tr_ref (base := base) (sp := sp) (At_.lt hA ha)
  rw [htr]
  rw [List.map_cons, htr] at hmet
  refine y_run (sp := sp) (a := (Value.ref (base + a) :: as.map (tr_ base sp)).toArray) (mc := 0) (ms := 0) (Q := (qm_ lay P)) (σ := (lay, mm)) (rest := rest.map (tr_ base sp)) hA ?_ (fun v σ' hq => by rw [hq.1]; exact ⟨rfl, rfl⟩) hcells (fun v σ2 H1 locs1 hQ hA2 => ?_)
  · rcases hl with hl | ⟨host, hl⟩
    · exact va_runV (n := as.length) (As := as.map (tr_ base sp)) (rest := rest.map (tr_ base sp)) C.fix hmet ⟨callB_of as.length C.ts (mok_g hM) rfl rfl rfl (C.ts _ hM.2.2.2.1) (C.ts _ hl) ⟨hM.2.2.2.2.1, hM.2.2.2.2.2, hv.2.2⟩ hR, C.ts _ hv.1, C.ts _ hv.2.1⟩ ⟨pr_blind, (by rw [← hqq]; exact va_recv (q := qq) C.st.1 hA.1 hci (he := by rw [wd_get (σ := (lay, mm)) ha, cl_o hc11])), fun U hU hW => ⟨rfl, hpre U hU hW⟩⟩ rfl (by simp) hL.2.1 rfl hW8 (C.dec h) hcells
    · exact va_runVN (n := as.length) (As := as.map (tr_ base sp)) (rest := rest.map (tr_ base sp)) C.fix hmet ⟨va_cnB as.length C.ts (mok_g hM) rfl rfl rfl (C.st.2.1 _ hl) (C.ts _ hM.2.2.2.1) ⟨hM.2.2.2.2.1, hM.2.2.2.2.2, hv.2.2⟩ hR, C.ts _ hv.1, C.ts _ hv.2.1⟩ ⟨pr_blind, (by rw [← hqq]; exact va_recv (q := qq) C.st.1 hA.1 hci (he := by rw [wd_get (σ := (lay, mm)) ha, cl_o hc11])), fun U hU hW => ⟨rfl, hpre U hU hW⟩⟩ rfl (by simp) hL.2.1 rfl hW8 (C.dec h) hcells
  · rw [v_list]
    obtain ⟨lay2, m2⟩ := σ2
    obtain ⟨hl2, hP2⟩ := hQ
    have hl2 : lay2 = lay := hl2
    subst hl2
    exact k v m2 hP2 p l e R s m args below meth c D cA base sp n0 s0 Z C fin H1 locs1 lsA cells slots hA2 hL
set_option maxHeartbeats 400000 in
theorem Y_callS {index : Nat} {M2 : Mi} {as rest : List Value} {P : Option Value → Mm → Prop} (i : Nat) (h : (m_t M)[i]? = some (pc, .invokestatic index, 3)) (hp : pc + 3 = pc2) (hM : Mok M2) (hl : lk_ (m_y M).cls index (m_y M2)) (hv : vs_ M2 as.length) (hst : st = as.reverse ++ rest) (hr8 : (rest.map fun v => v.category).sum ≤ 8) (hrm : m_f M2 + 1 ≤ m_f M ∧ 8 + (m_l M2 + 11) + m_w M2 ≤ m_w M) (hca : ∀ v ∈ as, v.category = 1) (hle : as.length ≤ m_l M2) (hY : Y G M2 (0, 0) 0 (en_ M2 as) [] (lay, mm) (qm_ lay P)) (k : ∀ (v : Option Value) (m2 : Mm), P v m2 → Y G M cap pc2 ls (v.toList ++ rest) (lay, m2) Q) : Y G M cap pc ls st (lay, mm) Q := by
  intro p l e R s m args below meth c D cA base sp n0 s0 Z C fin H locs lsA cells slots hA hL
  subst hp; subst hst
  refine W_siz (fun hz => ?_)
  have hrf := C.rm.1
  have hrl := C.rm.2.1
  have hcells : cells + 0 ≤ R.cells ∧ slots + 0 ≤ R.slots := ⟨hA.2.2.2.2.2.1, hA.2.2.2.2.2.2⟩
  have hcf : ∀ v ∈ as, v.category = 1 := hca
  have hmet := Y.met (mc := 0) (ms := 0) (Q := (qm_ lay P)) l D cA base sp hM hcf (by simpa using hle) ⟨Nat.zero_le _, Nat.zero_le _⟩ hY (fun v σ' hq => by rw [hq.1]; exact ⟨rfl, rfl⟩)
  have hW8 : 2 * (F0 m pc lsA []).monitorRoom + ((rest.map (tr_ base sp)).map fun v => v.category).sum ≤ 8 := lv_room (by rw [cat_sum]; exact hr8)
  have hpre := pr_at C hA hz
  have hR : ({ frames := m_f M2, cells := 0, slots := 0, locals := m_w M2 } : Room).frames + 1 ≤ R.frames ∧ 8 + (m_l M2 + 11) + ({ frames := m_f M2, cells := 0, slots := 0, locals := m_w M2 } : Room).locals ≤ R.locals := ⟨by show m_f M2 + 1 ≤ _; omega, by show 8 + (m_l M2 + 11) + m_w M2 ≤ _; omega⟩
  have hstk : List.map (tr_ base sp) (as.reverse ++ rest) = (as.map (tr_ base sp)).reverse ++ rest.map (tr_ base sp) := by simp
  rw [hstk]
  refine y_run (sp := sp) (a := (as.map (tr_ base sp)).toArray) (mc := 0) (ms := 0) (Q := (qm_ lay P)) (σ := (lay, mm)) (rest := rest.map (tr_ base sp)) hA ?_ (fun v σ' hq => by rw [hq.1]; exact ⟨rfl, rfl⟩) hcells (fun v σ2 H1 locs1 hQ hA2 => ?_)
  · rcases hl with hl | ⟨host, hl⟩
    · exact va_runS (n := as.length) (As := as.map (tr_ base sp)) (rest := rest.map (tr_ base sp)) C.fix hmet ⟨callB_of as.length C.ts (mok_g hM) rfl rfl rfl (C.ts _ hM.2.2.2.1) (C.ts _ hl) ⟨hM.2.2.2.2.1, hM.2.2.2.2.2, hv.2⟩ hR, C.ts _ hv.1⟩ ⟨pr_blind, fun U hU hW => ⟨rfl, hpre U hU hW⟩⟩ rfl (by simp) hL.2.1 rfl hW8 (C.dec h) hcells
    · exact va_runSN (n := as.length) (As := as.map (tr_ base sp)) (rest := rest.map (tr_ base sp)) C.fix hmet ⟨va_cnB as.length C.ts (mok_g hM) rfl rfl rfl (C.st.2.1 _ hl) (C.ts _ hM.2.2.2.1) ⟨hM.2.2.2.2.1, hM.2.2.2.2.2, hv.2⟩ hR, C.ts _ hv.1, trivial⟩ ⟨pr_blind, fun U hU hW => ⟨rfl, hpre U hU hW⟩⟩ rfl (by simp) hL.2.1 rfl hW8 (C.dec h) hcells
  · rw [v_list]
    obtain ⟨lay2, m2⟩ := σ2
    obtain ⟨hl2, hP2⟩ := hQ
    have hl2 : lay2 = lay := hl2
    subst hl2
    exact k v m2 hP2 p l e R s m args below meth c D cA base sp n0 s0 Z C fin H1 locs1 lsA cells slots hA2 hL
set_option maxHeartbeats 400000 in
theorem Y_callI {index a : Nat} {M2 : Mi} {as rest : List Value} {mc ms : Nat} {P : Option Value → Sg → Prop} (i : Nat) (h : (m_t M)[i]? = some (pc, .invokespecial index, 3)) (hp : pc + 3 = pc2) (hM : Mok M2) (hl : lk_ (m_y M).cls index (m_y M2)) (hv : vn_ M2 as.length) (ha : a < 1000000) (hst : st = as.reverse ++ .ref a :: rest) (hr8 : (rest.map fun v => v.category).sum ≤ 8) (hrm : m_f M2 + 1 ≤ m_f M ∧ 8 + (m_l M2 + 11) + m_w M2 ≤ m_w M) (hca : ∀ v ∈ as, v.category = 1) (hle : as.length + 1 ≤ m_l M2) (hc1 : lay.length + mc ≤ cap.1) (hc2 : sl_ lay + ms ≤ cap.2) (hY : Y G M2 (lay.length + mc, sl_ lay + ms) 0 (en_ M2 (.ref a :: as)) [] (lay, mm) P) (hq : ∀ v σ2, P v σ2 → σ2.1.length = lay.length + mc ∧ sl_ σ2.1 = sl_ lay + ms) (k : ∀ (v : Option Value) (σ2 : Sg), P v σ2 → Y G M cap pc2 ls (v.toList ++ rest) σ2 Q) : Y G M cap pc ls st (lay, mm) Q := by
  intro p l e R s m args below meth c D cA base sp n0 s0 Z C fin H locs lsA cells slots hA hL
  subst hp; subst hst
  refine W_siz (fun hz => ?_)
  have hrf := C.rm.1
  have hrl := C.rm.2.1
  have hcells : cells + mc ≤ R.cells ∧ slots + ms ≤ R.slots := by
    have h1 := C.rm.2.2.1
    have h2 := C.rm.2.2.2
    have e1 : cells + n0 = lay.length := hA.2.2.2.1
    have e2 : slots + s0 = sl_ lay := hA.2.2.2.2.1
    exact ⟨by omega, by omega⟩
  have hcf : ∀ v ∈ (.ref a :: as), v.category = 1 := by
    intro v hv
    rcases List.mem_cons.mp hv with h | h
    · rw [h]; rfl
    · exact hca v h
  have hmet := Y.met (mc := mc) (ms := ms) (Q := P) l D cA base sp hM hcf (by simpa using hle) ⟨Nat.le_refl _, Nat.le_refl _⟩ hY hq
  have hW8 : 2 * (F0 m pc lsA []).monitorRoom + ((rest.map (tr_ base sp)).map fun v => v.category).sum ≤ 8 := lv_room (by rw [cat_sum]; exact hr8)
  have hpre := pr_at C hA hz
  have hR : ({ frames := m_f M2, cells := mc, slots := ms, locals := m_w M2 } : Room).frames + 1 ≤ R.frames ∧ 8 + (m_l M2 + 11) + ({ frames := m_f M2, cells := mc, slots := ms, locals := m_w M2 } : Room).locals ≤ R.locals := ⟨by show m_f M2 + 1 ≤ _; omega, by show 8 + (m_l M2 + 11) + m_w M2 ≤ _; omega⟩
  have hstk : List.map (tr_ base sp) (as.reverse ++ .ref a :: rest) = (as.map (tr_ base sp)).reverse ++ tr_ base sp (.ref a) :: rest.map (tr_ base sp) := by simp
  rw [hstk]
  have htr := tr_ref (base := base) (sp := sp) ha
  rw [htr]
  rw [List.map_cons, htr] at hmet
  refine y_run (sp := sp) (a := (Value.ref (base + a) :: as.map (tr_ base sp)).toArray) (mc := mc) (ms := ms) (Q := P) (σ := (lay, mm)) (rest := rest.map (tr_ base sp)) hA ?_ hq hcells (fun v σ2 H1 locs1 hQ hA2 => ?_)
  · rcases hl with hl | ⟨host, hl⟩
    · exact va_runI (n := as.length) (As := as.map (tr_ base sp)) (rest := rest.map (tr_ base sp)) C.fix hmet ⟨callB_of as.length C.ts (mok_g hM) (by rw [hv.2.1]) rfl rfl (C.ts _ hM.2.2.2.1) (C.ts _ hl) ⟨hM.2.2.2.2.1, hM.2.2.2.2.2, hv.2.2.2⟩ hR, hv.1, C.ts _ hv.2.2.1⟩ ⟨pr_blind, fun U hU hW => ⟨rfl, hpre U hU hW⟩⟩ rfl (by simp) hL.2.1 rfl hW8 (C.dec h) hcells
    · exact va_runIN (n := as.length) (As := as.map (tr_ base sp)) (rest := rest.map (tr_ base sp)) C.fix hmet ⟨va_cnB as.length C.ts (mok_g hM) (by rw [hv.2.1]) rfl rfl (C.st.2.1 _ hl) (C.ts _ hM.2.2.2.1) ⟨hM.2.2.2.2.1, hM.2.2.2.2.2, hv.2.2.2⟩ hR, hv.1, C.ts _ hv.2.2.1⟩ ⟨pr_blind, fun U hU hW => ⟨rfl, hpre U hU hW⟩⟩ rfl (by simp) hL.2.1 rfl hW8 (C.dec h) hcells
  · rw [v_list]
    exact k v σ2 hQ p l e R s m args below meth c D cA base sp n0 s0 Z C fin H1 locs1 lsA (cells + mc) (slots + ms) hA2 hL
end Y4
end
section
/-! what the JDK gives -/
section Y5
variable {G : Nat × (Nat → Int32)} {M : Mi} {cap : Nat × Nat} {pc pc2 : Nat} {ls ls2 : List (Option Value)} {st : List Value} {σ : Sg} {lay : Ly} {mm : Mm} {Q : Option Value → Sg → Prop}
set_option maxHeartbeats 400000 in
theorem Y_objInit {index a : Nat} (i : Nat) (h : (m_t M)[i]? = some (pc, .invokespecial index, 3)) (hp : pc + 3 = pc2) (h1 : Cond.methodLink (m_y M).cls index objectInit ∈ Tb) (h2 : Cond.instanceMethod objectInit ∈ Tb) (h3 : Cond.code objectInit ⟨#[0xb1]⟩ 1 none ∈ Tb) (ha : a < 1000000) (hf : 1 ≤ m_f M) (hw : (st.map fun v => v.category).sum + 12 ≤ m_w M) (k : Y G M cap pc2 ls st σ Q) : Y G M cap pc ls (.ref a :: st) σ Q := by
  intro p l e R s m args below meth c D cA base sp n0 s0 Z C fin H locs lsA cells slots hA hL
  subst hp
  have hrf := C.rm.1
  have hrl := C.rm.2.1
  have hk := (k p l e R s m args below meth c D cA base sp n0 s0 Z C fin H locs lsA cells slots hA hL)
  refine W.objInit C.ex C.by C.ow (C.ts _ h1) (C.ts _ h2) (C.ts _ h3) rfl (by rw [C.ml]; exact hL.2.1) (a := base + a) (rest := st.map (tr_ base sp)) (by show tr_ base sp (.ref a) :: _ = _; rw [tr_ref ha]) (C.dec h) (by omega) ?_ hk
  have ecs := cat_sum (base := base) (sp := sp) st
  show 2 * 0 + _ + 12 ≤ _
  omega
set_option maxHeartbeats 400000 in
theorem Y_min {index : Nat} {x y : Int32} (i : Nat) (h : (m_t M)[i]? = some (pc, .invokestatic index, 3)) (hp : pc + 3 = pc2) (h1 : Cond.methodLink (m_y M).cls index Lib.Math.min.name ∈ Tb) (h2 : Cond.static Lib.Math.min.name ∈ Tb) (h3 : Cond.initialized "java/lang/Math" ∈ Tb) (h4 : Cond.code Lib.Math.min.name Lib.Math.min.code 2 (some .int) ∈ Tb) (hf : 1 ≤ m_f M) (hw : (st.map fun v => v.category).sum + 13 ≤ m_w M) (k : Y G M cap pc2 ls (.int (if y < x then y else x) :: st) σ Q) : Y G M cap pc ls (.int y :: .int x :: st) σ Q := by
  intro p l e R s m args below meth c D cA base sp n0 s0 Z C fin H locs lsA cells slots hA hL
  subst hp
  have hrf := C.rm.1
  have hrl := C.rm.2.1
  have hk := (k p l e R s m args below meth c D cA base sp n0 s0 Z C fin H locs lsA cells slots hA hL)
  have ecs := cat_sum (base := base) (sp := sp) st
  exact va_mmin C.ex C.by (by rw [C.ml]; exact hL.2.1.symm) C.ow (C.ts _ h1) (C.ts _ h2) (C.ts _ h3) (C.ts _ h4) (by omega) (by omega) hA.2.2.2.2.2.1 hA.2.2.2.2.2.2 (C.dec h) hk
set_option maxHeartbeats 400000 in
theorem Y_abs {index : Nat} {x y : Int32} (i : Nat) (h : (m_t M)[i]? = some (pc, .invokestatic index, 3)) (hp : pc + 3 = pc2) (h1 : Cond.methodLink (m_y M).cls index Lib.Math.abs.name ∈ Tb) (h2 : Cond.static Lib.Math.abs.name ∈ Tb) (h3 : Cond.initialized "java/lang/Math" ∈ Tb) (h4 : Cond.code Lib.Math.abs.name Lib.Math.abs.code 1 (some .int) ∈ Tb) (hf : 1 ≤ m_f M) (hw : (st.map fun v => v.category).sum + 13 ≤ m_w M) (k : Y G M cap pc2 ls (.int (if 0 ≤ x then x else 0 - x) :: st) σ Q) : Y G M cap pc ls (.int x :: st) σ Q := by
  intro p l e R s m args below meth c D cA base sp n0 s0 Z C fin H locs lsA cells slots hA hL
  subst hp
  have hrf := C.rm.1
  have hrl := C.rm.2.1
  have hk := (k p l e R s m args below meth c D cA base sp n0 s0 Z C fin H locs lsA cells slots hA hL)
  have ecs := cat_sum (base := base) (sp := sp) st
  exact va_mabs C.ex C.by (by rw [C.ml]; exact hL.2.1.symm) C.ow (C.ts _ h1) (C.ts _ h2) (C.ts _ h3) (C.ts _ h4) (by omega) (by omega) hA.2.2.2.2.2.1 hA.2.2.2.2.2.2 (C.dec h) hk
set_option maxHeartbeats 400000 in
theorem Y_copy_i {index a b u v n na nb : Nat} {ra rb : List (Option Nat)} {xu xv xn : Int32} (i : Nat) (h : (m_t M)[i]? = some (pc, .invokestatic index, 3)) (hp : pc + 3 = pc2) (h1 : Cond.methodLink (m_y M).cls index arraycopyName ∈ Tb) (h2 : Cond.native arraycopyName ∈ Tb) (h3 : Cond.static arraycopyName ∈ Tb) (h4 : Cond.initialized "java/lang/System" ∈ Tb) (ha : lay[a]? = some (12, na, ra)) (hb : lay[b]? = some (12, nb, rb)) (hu : xu = nI u) (hv : xv = nI v) (hn : xn = nI n) (hla : u + n ≤ na) (hlb : v + n ≤ nb) (hna : na < 2 ^ 31) (hnb : nb < 2 ^ 31) (hf : 1 ≤ m_f M) (hw : (st.map fun v => v.category).sum + (nativeFrameWords "java/lang/System" "arraycopy" 5 + 11) ≤ m_w M) (k : Y G M cap pc2 ls st (lay, ur_ mm b (va_cpy (mm a) (mm b) u v n)) Q) : Y G M cap pc ls (.int xn :: .int xv :: .ref b :: .int xu :: .ref a :: st) (lay, mm) Q := by
  intro p l e R s m args below meth c D cA base sp n0 s0 Z C fin H locs lsA cells slots hA hL
  subst hp; subst hu; subst hv; subst hn
  have hrf := C.rm.1
  have hrl := C.rm.2.1
  have ecs := cat_sum (base := base) (sp := sp) st
  show W p l e R s m args below meth c H locs cells slots Z (F0 m pc lsA (.int (nI n) :: .int (nI v) :: tr_ base sp (.ref b) :: .int (nI u) :: tr_ base sp (.ref a) :: st.map (tr_ base sp)))
  rw [tr_ref (At_.lt hA ha), tr_ref (At_.lt hA hb)]
  have cu : (nI u).toNatClampNeg = u := nI_clamp (by omega)
  have cv : (nI v).toNatClampNeg = v := nI_clamp (by omega)
  have cn : (nI n).toNatClampNeg = n := nI_clamp (by omega)
  refine va_copyi (ty := .int) (n0 := na) (n1 := nb) (f := mm a) (g := mm b) (c0 := cA 12) (c1 := cA 12) C.ex C.by (by rw [C.ml]; exact hL.2.1.symm) C.ow (C.ts _ h1) (C.ts _ h2) (C.ts _ h3) (C.ts _ h4) C.st.1 hA.1 wd_D hA.2.2.1 a b 1 1 (by rw [wd_get (σ := (lay, mm)) ha]; rfl) (by rw [wd_get (σ := (lay, mm)) hb]; rfl) rfl rfl rfl (nI_pos (by omega)) (nI_pos (by omega)) (nI_pos (by omega)) (by rw [cu, cn]; exact hla) (by rw [cv, cn]; exact hlb) (fun q hq => rfl) (by omega) (by omega) (C.dec h) (fun H1 locs1 hP1 hD1 hS1 => ?_)
  rw [cu, cv, cn, wd_set1 (row := va_cpy (mm a) (mm b) u v n) hb (by rfl)] at hP1
  exact k p l e R s m args below meth c D cA base sp n0 s0 Z C fin H1 locs1 lsA cells slots (hA.to (σ' := (lay, ur_ mm b (va_cpy (mm a) (mm b) u v n))) rfl rfl hP1 hS1) hL
set_option maxHeartbeats 400000 in
theorem Y_copy_b {index a b u v n na nb : Nat} {ra rb : List (Option Nat)} {xu xv xn : Int32} (i : Nat) (h : (m_t M)[i]? = some (pc, .invokestatic index, 3)) (hp : pc + 3 = pc2) (h1 : Cond.methodLink (m_y M).cls index arraycopyName ∈ Tb) (h2 : Cond.native arraycopyName ∈ Tb) (h3 : Cond.static arraycopyName ∈ Tb) (h4 : Cond.initialized "java/lang/System" ∈ Tb) (ha : lay[a]? = some (11, na, ra)) (hb : lay[b]? = some (11, nb, rb)) (hu : xu = nI u) (hv : xv = nI v) (hn : xn = nI n) (hla : u + n ≤ na) (hlb : v + n ≤ nb) (hna : na < 2 ^ 31) (hnb : nb < 2 ^ 31) (hfit : ∀ q, q < n → fits .byte (.int (mm a (u + q))) = true) (hf : 1 ≤ m_f M) (hw : (st.map fun v => v.category).sum + (nativeFrameWords "java/lang/System" "arraycopy" 5 + 11) ≤ m_w M) (k : Y G M cap pc2 ls st (lay, ur_ mm b (va_cpy (mm a) (mm b) u v n)) Q) : Y G M cap pc ls (.int xn :: .int xv :: .ref b :: .int xu :: .ref a :: st) (lay, mm) Q := by
  intro p l e R s m args below meth c D cA base sp n0 s0 Z C fin H locs lsA cells slots hA hL
  subst hp; subst hu; subst hv; subst hn
  have hrf := C.rm.1
  have hrl := C.rm.2.1
  have ecs := cat_sum (base := base) (sp := sp) st
  show W p l e R s m args below meth c H locs cells slots Z (F0 m pc lsA (.int (nI n) :: .int (nI v) :: tr_ base sp (.ref b) :: .int (nI u) :: tr_ base sp (.ref a) :: st.map (tr_ base sp)))
  rw [tr_ref (At_.lt hA ha), tr_ref (At_.lt hA hb)]
  have cu : (nI u).toNatClampNeg = u := nI_clamp (by omega)
  have cv : (nI v).toNatClampNeg = v := nI_clamp (by omega)
  have cn : (nI n).toNatClampNeg = n := nI_clamp (by omega)
  refine va_copyi (ty := .byte) (n0 := na) (n1 := nb) (f := mm a) (g := mm b) (c0 := cA 11) (c1 := cA 11) C.ex C.by (by rw [C.ml]; exact hL.2.1.symm) C.ow (C.ts _ h1) (C.ts _ h2) (C.ts _ h3) (C.ts _ h4) C.st.1 hA.1 wd_D hA.2.2.1 a b 0 0 (by rw [wd_get (σ := (lay, mm)) ha]; rfl) (by rw [wd_get (σ := (lay, mm)) hb]; rfl) rfl rfl rfl (nI_pos (by omega)) (nI_pos (by omega)) (nI_pos (by omega)) (by rw [cu, cn]; exact hla) (by rw [cv, cn]; exact hlb) (fun q hq => by rw [cu]; rw [cn] at hq; exact hfit q hq) (by omega) (by omega) (C.dec h) (fun H1 locs1 hP1 hD1 hS1 => ?_)
  rw [cu, cv, cn, wd_set1 (row := va_cpy (mm a) (mm b) u v n) hb (by rfl)] at hP1
  exact k p l e R s m args below meth c D cA base sp n0 s0 Z C fin H1 locs1 lsA cells slots (hA.to (σ' := (lay, ur_ mm b (va_cpy (mm a) (mm b) u v n))) rfl rfl hP1 hS1) hL
end Y5
end
section
def M_ci_init : Mi := (⟨"GongHouse$Circle", "<init>", "()V"⟩, prog_2_method_1_code, 1, (Option.none : Option FieldType), 1, 60, [(0, .aload_n 0, 1), (1, .invokespecial 3, 3), (4, .aload_n 0, 1), (5, .bipush 32, 2), (7, .newarray .int, 2), (9, .putfield 9, 3), (12, .aload_n 0, 1), (13, .bipush 32, 2), (15, .newarray .int, 2), (17, .putfield 15, 3), (20, .aload_n 0, 1), (21, .bipush 32, 2), (23, .newarray .int, 2), (25, .putfield 18, 3), (28, .aload_n 0, 1), (29, .bipush 32, 2), (31, .newarray .int, 2), (33, .putfield 21, 3), (36, .aload_n 0, 1), (37, .bipush 8, 2), (39, .putfield 24, 3), (42, .aload_n 0, 1), (43, .getfield 9, 3), (46, .ldc 28, 2), (48, .invokestatic 29, 3), (51, .aload_n 0, 1), (52, .getfield 15, 3), (55, .ldc 28, 2), (57, .invokestatic 29, 3), (60, .return_, 1)])
def M_ci_become : Mi := (⟨"GongHouse$Circle", "become", "(LGongHouse$TuneReader;)V"⟩, prog_2_method_2_code, 2, (Option.none : Option FieldType), 2, 60, [(0, .aload_n 0, 1), (1, .aload_n 1, 1), (2, .getfield 35, 3), (5, .bipush 32, 2), (7, .invokestatic 38, 3), (10, .putfield 24, 3), (13, .aload_n 1, 1), (14, .getfield 44, 3), (17, .iconst 0, 1), (18, .aload_n 0, 1), (19, .getfield 9, 3), (22, .iconst 0, 1), (23, .aload_n 0, 1), (24, .getfield 24, 3), (27, .invokestatic 45, 3), (30, .aload_n 1, 1), (31, .getfield 51, 3), (34, .iconst 0, 1), (35, .aload_n 0, 1), (36, .getfield 15, 3), (39, .iconst 0, 1), (40, .aload_n 0, 1), (41, .getfield 24, 3), (44, .invokestatic 45, 3), (47, .aload_n 0, 1), (48, .invokevirtual 52, 3), (51, .aload_n 0, 1), (52, .invokevirtual 55, 3), (55, .return_, 1)])
def M_ci_setTones : Mi := (⟨"GongHouse$Circle", "setTones", "()V"⟩, prog_2_method_3_code, 3, (Option.none : Option FieldType), 1, 21, [(0, .aload_n 0, 1), (1, .invokevirtual 58, 3), (4, .istore_n 1, 1), (5, .iconst 0, 1), (6, .istore_n 2, 1), (7, .iload_n 2, 1), (8, .aload_n 0, 1), (9, .getfield 24, 3), (12, .if_icmp .ge 34, 3), (15, .aload_n 0, 1), (16, .getfield 9, 3), (19, .iload_n 2, 1), (20, .iaload, 1), (21, .ldc 28, 2), (23, .if_icmp .eq 10, 3), (26, .aload_n 0, 1), (27, .getfield 9, 3), (30, .iload_n 2, 1), (31, .iaload, 1), (32, .istore_n 1, 1), (33, .aload_n 0, 1), (34, .getfield 18, 3), (37, .iload_n 2, 1), (38, .iload_n 1, 1), (39, .iastore, 1), (40, .iinc 2 1, 3), (43, .goto (-36), 3), (46, .return_, 1)])
def M_ci_lastNote : Mi := (⟨"GongHouse$Circle", "lastNote", "()I"⟩, prog_2_method_4_code, 2, (Option.some FieldType.int), 0, 0, [(0, .aload_n 0, 1), (1, .getfield 24, 3), (4, .iconst 1, 1), (5, .isub, 1), (6, .istore_n 1, 1), (7, .iload_n 1, 1), (8, .ifCond .lt 27, 3), (11, .aload_n 0, 1), (12, .getfield 9, 3), (15, .iload_n 1, 1), (16, .iaload, 1), (17, .ldc 28, 2), (19, .if_icmp .eq 10, 3), (22, .aload_n 0, 1), (23, .getfield 9, 3), (26, .iload_n 1, 1), (27, .iaload, 1), (28, .ireturn, 1), (29, .iinc 1 (-1), 3), (32, .goto (-25), 3), (35, .iconst 0, 1), (36, .ireturn, 1)])
def M_ci_setTurns : Mi := (⟨"GongHouse$Circle", "setTurns", "()V"⟩, prog_2_method_5_code, 3, (Option.none : Option FieldType), 1, 21, [(0, .iconst 0, 1), (1, .istore_n 1, 1), (2, .iload_n 1, 1), (3, .aload_n 0, 1), (4, .getfield 24, 3), (7, .if_icmp .ge 55, 3), (10, .aload_n 0, 1), (11, .getfield 18, 3), (14, .aload_n 0, 1), (15, .iload_n 1, 1), (16, .invokevirtual 62, 3), (19, .iaload, 1), (20, .istore_n 2, 1), (21, .aload_n 0, 1), (22, .getfield 21, 3), (25, .iload_n 1, 1), (26, .iload_n 2, 1), (27, .aload_n 0, 1), (28, .getfield 18, 3), (31, .iload_n 1, 1), (32, .iaload, 1), (33, .if_icmp .ne 7, 3), (36, .iconst 0, 1), (37, .goto 18, 3), (40, .iload_n 2, 1), (41, .aload_n 0, 1), (42, .getfield 18, 3), (45, .iload_n 1, 1), (46, .iaload, 1), (47, .if_icmp .le 7, 3), (50, .iconst 1, 1), (51, .goto 4, 3), (54, .iconst 2, 1), (55, .iastore, 1), (56, .iinc 1 1, 3), (59, .goto (-57), 3), (62, .return_, 1)])
def M_ci_beatBehind : Mi := (⟨"GongHouse$Circle", "beatBehind", "(I)I"⟩, prog_2_method_6_code, 2, (Option.some FieldType.int), 0, 0, [(0, .iload_n 1, 1), (1, .iconst 1, 1), (2, .iadd, 1), (3, .aload_n 0, 1), (4, .getfield 24, 3), (7, .if_icmp .ge 9, 3), (10, .iload_n 1, 1), (11, .iconst 1, 1), (12, .iadd, 1), (13, .goto 4, 3), (16, .iconst 0, 1), (17, .ireturn, 1)])
def M_ci_countNotes : Mi := (⟨"GongHouse$Circle", "countNotes", "()I"⟩, prog_2_method_7_code, 1, (Option.some FieldType.int), 1, 23, [(0, .aload_n 0, 1), (1, .getfield 9, 3), (4, .aload_n 0, 1), (5, .getfield 24, 3), (8, .invokestatic 66, 3), (11, .ireturn, 1)])
def M_ci_countGongs : Mi := (⟨"GongHouse$Circle", "countGongs", "()I"⟩, prog_2_method_8_code, 1, (Option.some FieldType.int), 1, 23, [(0, .aload_n 0, 1), (1, .getfield 15, 3), (4, .aload_n 0, 1), (5, .getfield 24, 3), (8, .invokestatic 66, 3), (11, .ireturn, 1)])
def M_fi_init : Mi := (⟨"GongHouse$Figure", "<init>", "(I)V"⟩, prog_3_method_1_code, 2, (Option.none : Option FieldType), 1, 60, [(0, .aload_n 0, 1), (1, .invokespecial 3, 3), (4, .aload_n 0, 1), (5, .iload_n 1, 1), (6, .newarray .int, 2), (8, .putfield 9, 3), (11, .aload_n 0, 1), (12, .iload_n 1, 1), (13, .newarray .int, 2), (15, .putfield 15, 3), (18, .aload_n 0, 1), (19, .iload_n 1, 1), (20, .newarray .boolean, 2), (22, .putfield 18, 3), (25, .aload_n 0, 1), (26, .getfield 9, 3), (29, .ldc 22, 2), (31, .invokestatic 23, 3), (34, .aload_n 0, 1), (35, .getfield 15, 3), (38, .ldc 22, 2), (40, .invokestatic 23, 3), (43, .return_, 1)])
def M_fi_rowOf : Mi := (⟨"GongHouse$Figure", "rowOf", "(I)[I"⟩, prog_3_method_2_code, 2, (Option.some (FieldType.array FieldType.int)), 0, 0, [(0, .iload_n 1, 1), (1, .ifCond .ne 10, 3), (4, .aload_n 0, 1), (5, .getfield 9, 3), (8, .goto 7, 3), (11, .aload_n 0, 1), (12, .getfield 15, 3), (15, .areturn, 1)])
def M_fi_takeRow : Mi := (⟨"GongHouse$Figure", "takeRow", "(ILGongHouse$Sheet;)V"⟩, prog_3_method_3_code, 6, (Option.none : Option FieldType), 1, 21, [(0, .aload_n 0, 1), (1, .iload_n 1, 1), (2, .invokevirtual 29, 3), (5, .astore_n 3, 1), (6, .iconst 0, 1), (7, .istore 4, 2), (9, .iload 4, 2), (11, .aload_n 3, 1), (12, .arraylength, 1), (13, .if_icmp .ge 59, 3), (16, .iload 4, 2), (18, .aload_n 2, 1), (19, .getfield 33, 3), (22, .if_icmp .ge 20, 3), (25, .aload_n 2, 1), (26, .getfield 39, 3), (29, .iload 4, 2), (31, .baload, 1), (32, .invokestatic 43, 3), (35, .ifCond .eq 7, 3), (38, .iconst 1, 1), (39, .goto 4, 3), (42, .iconst 0, 1), (43, .istore 5, 2), (45, .aload_n 3, 1), (46, .iload 4, 2), (48, .iload 5, 2), (50, .ifCond .eq 13, 3), (53, .aload_n 2, 1), (54, .getfield 39, 3), (57, .iload 4, 2), (59, .baload, 1), (60, .goto 5, 3), (63, .ldc 22, 2), (65, .iastore, 1), (66, .iinc 4 1, 3), (69, .goto (-60), 3), (72, .return_, 1)])
def M_fi_strikesOf : Mi := (⟨"GongHouse$Figure", "strikesOf", "(I)I"⟩, prog_3_method_4_code, 2, (Option.some FieldType.int), 1, 23, [(0, .aload_n 0, 1), (1, .iload_n 1, 1), (2, .invokevirtual 29, 3), (5, .aload_n 0, 1), (6, .iload_n 1, 1), (7, .invokevirtual 29, 3), (10, .arraylength, 1), (11, .invokestatic 47, 3), (14, .ireturn, 1)])
def M_fi_firstWrongStep : Mi := (⟨"GongHouse$Figure", "firstWrongStep", "()I"⟩, prog_3_method_5_code, 4, (Option.some FieldType.int), 0, 0, [(0, .iconst 0, 1), (1, .istore_n 1, 1), (2, .iload_n 1, 1), (3, .aload_n 0, 1), (4, .getfield 9, 3), (7, .arraylength, 1), (8, .if_icmp .ge 63, 3), (11, .aload_n 0, 1), (12, .getfield 9, 3), (15, .iload_n 1, 1), (16, .iaload, 1), (17, .ldc 22, 2), (19, .if_icmp .eq 7, 3), (22, .iconst 1, 1), (23, .goto 4, 3), (26, .iconst 0, 1), (27, .istore_n 2, 1), (28, .aload_n 0, 1), (29, .getfield 15, 3), (32, .iload_n 1, 1), (33, .iaload, 1), (34, .ldc 22, 2), (36, .if_icmp .eq 7, 3), (39, .iconst 1, 1), (40, .goto 4, 3), (43, .iconst 0, 1), (44, .istore_n 3, 1), (45, .iload_n 2, 1), (46, .iload_n 3, 1), (47, .if_icmp .ne 18, 3), (50, .iload_n 2, 1), (51, .ifCond .eq 12, 3), (54, .aload_n 0, 1), (55, .getfield 18, 3), (58, .iload_n 1, 1), (59, .baload, 1), (60, .ifCond .ne 5, 3), (63, .iload_n 1, 1), (64, .ireturn, 1), (65, .iinc 1 1, 3), (68, .goto (-66), 3), (71, .ldc 22, 2), (73, .ireturn, 1)])
def M_fi_isRight : Mi := (⟨"GongHouse$Figure", "isRight", "()Z"⟩, prog_3_method_6_code, 1, (Option.some FieldType.boolean), 1, 23, [(0, .aload_n 0, 1), (1, .invokevirtual 51, 3), (4, .ldc 22, 2), (6, .if_icmp .ne 7, 3), (9, .iconst 1, 1), (10, .goto 4, 3), (13, .iconst 0, 1), (14, .ireturn, 1)])
def M_fi_lineShift : Mi := (⟨"GongHouse$Figure", "lineShift", "(I)I"⟩, prog_3_method_7_code, 2, (Option.some FieldType.int), 0, 0, [(0, .aload_n 0, 1), (1, .getfield 9, 3), (4, .iload_n 1, 1), (5, .iaload, 1), (6, .ldc 22, 2), (8, .if_icmp .eq 12, 3), (11, .aload_n 0, 1), (12, .getfield 9, 3), (15, .iload_n 1, 1), (16, .iaload, 1), (17, .goto 9, 3), (20, .aload_n 0, 1), (21, .getfield 15, 3), (24, .iload_n 1, 1), (25, .iaload, 1), (26, .ireturn, 1)])
def M_le_init : Mi := (⟨"GongHouse$Level", "<init>", "(I)V"⟩, prog_4_method_1_code, 3, (Option.none : Option FieldType), 2, 81, [(0, .aload_n 0, 1), (1, .invokespecial 3, 3), (4, .aload_n 0, 1), (5, .bipush 6, 2), (7, .anewarray 9, 3), (10, .putfield 11, 3), (13, .aload_n 0, 1), (14, .iconst 3, 1), (15, .newarray .int, 2), (17, .putfield 17, 3), (20, .aload_n 0, 1), (21, .iload_n 1, 1), (22, .putfield 21, 3), (25, .iconst 0, 1), (26, .istore_n 2, 1), (27, .iload_n 2, 1), (28, .bipush 6, 2), (30, .if_icmp .ge 23, 3), (33, .aload_n 0, 1), (34, .getfield 11, 3), (37, .iload_n 2, 1), (38, .new 9, 3), (41, .dup, 1), (42, .iload_n 1, 1), (43, .invokespecial 25, 3), (46, .aastore, 1), (47, .iinc 2 1, 3), (50, .goto (-23), 3), (53, .return_, 1)])
def M_le_figureFor : Mi := (⟨"GongHouse$Level", "figureFor", "(LGongHouse$Circle;I)LGongHouse$Figure;"⟩, prog_4_method_2_code, 3, (Option.some (FieldType.object "GongHouse$Figure")), 0, 0, [(0, .aload_n 0, 1), (1, .getfield 11, 3), (4, .aload_n 0, 1), (5, .getfield 17, 3), (8, .aload_n 1, 1), (9, .getfield 28, 3), (12, .iload_n 2, 1), (13, .iaload, 1), (14, .iaload, 1), (15, .aaload, 1), (16, .areturn, 1)])
def M_le_countRight : Mi := (⟨"GongHouse$Level", "countRight", "()I"⟩, prog_4_method_3_code, 3, (Option.some FieldType.int), 2, 43, [(0, .iconst 0, 1), (1, .istore_n 1, 1), (2, .iconst 0, 1), (3, .istore_n 2, 1), (4, .iload_n 2, 1), (5, .bipush 6, 2), (7, .if_icmp .ge 24, 3), (10, .aload_n 0, 1), (11, .getfield 11, 3), (14, .iload_n 2, 1), (15, .aaload, 1), (16, .invokevirtual 33, 3), (19, .ifCond .eq 6, 3), (22, .iinc 1 1, 3), (25, .iinc 2 1, 3), (28, .goto (-24), 3), (31, .iload_n 1, 1), (32, .ireturn, 1)])
def M_li_init : Mi := (⟨"GongHouse$LineTable", "<init>", "()V"⟩, prog_5_method_1_code, 1, (Option.none : Option FieldType), 1, 60, [(0, .aload_n 0, 1), (1, .invokespecial 3, 3), (4, .aload_n 0, 1), (5, .bipush 42, 2), (7, .newarray .int, 2), (9, .putfield 9, 3), (12, .aload_n 0, 1), (13, .bipush 42, 2), (15, .newarray .int, 2), (17, .putfield 15, 3), (20, .aload_n 0, 1), (21, .bipush 42, 2), (23, .newarray .int, 2), (25, .putfield 18, 3), (28, .aload_n 0, 1), (29, .iconst 3, 1), (30, .newarray .int, 2), (32, .putfield 21, 3), (35, .aload_n 0, 1), (36, .bipush 6, 2), (38, .newarray .boolean, 2), (40, .putfield 24, 3), (43, .return_, 1)])
def M_li_learn : Mi := (⟨"GongHouse$LineTable", "learn", "(LGongHouse$Figure;I)V"⟩, prog_5_method_2_code, 6, (Option.none : Option FieldType), 2, 85, [(0, .aload_n 1, 1), (1, .getfield 28, 3), (4, .arraylength, 1), (5, .iconst 1, 1), (6, .isub, 1), (7, .istore_n 3, 1), (8, .iconst 0, 1), (9, .istore 4, 2), (11, .iload 4, 2), (13, .bipush 7, 2), (15, .if_icmp .ge 65, 3), (18, .iload_n 2, 1), (19, .bipush 7, 2), (21, .imul, 1), (22, .iload 4, 2), (24, .iadd, 1), (25, .istore 5, 2), (27, .aload_n 0, 1), (28, .getfield 9, 3), (31, .iload 5, 2), (33, .aload_n 1, 1), (34, .iload 4, 2), (36, .invokestatic 33, 3), (39, .iastore, 1), (40, .aload_n 0, 1), (41, .getfield 15, 3), (44, .iload 5, 2), (46, .iload 4, 2), (48, .aload_n 1, 1), (49, .iconst 0, 1), (50, .invokevirtual 37, 3), (53, .invokestatic 41, 3), (56, .iastore, 1), (57, .aload_n 0, 1), (58, .getfield 18, 3), (61, .iload 5, 2), (63, .iload 4, 2), (65, .aload_n 1, 1), (66, .iload_n 3, 1), (67, .invokevirtual 37, 3), (70, .invokestatic 41, 3), (73, .iastore, 1), (74, .iinc 4 1, 3), (77, .goto (-66), 3), (80, .return_, 1)])
def M_li_innerLeaps : Mi := (⟨"GongHouse$LineTable", "innerLeaps", "(LGongHouse$Figure;I)I"⟩, prog_5_method_3_code, 6, (Option.some FieldType.int), 1, 60, [(0, .iconst 0, 1), (1, .istore_n 2, 1), (2, .iload_n 1, 1), (3, .aload_n 0, 1), (4, .iconst 0, 1), (5, .invokevirtual 37, 3), (8, .invokestatic 41, 3), (11, .istore_n 3, 1), (12, .iconst 1, 1), (13, .istore 4, 2), (15, .iload 4, 2), (17, .aload_n 0, 1), (18, .getfield 28, 3), (21, .arraylength, 1), (22, .if_icmp .ge 34, 3), (25, .iload_n 1, 1), (26, .aload_n 0, 1), (27, .iload 4, 2), (29, .invokevirtual 37, 3), (32, .invokestatic 41, 3), (35, .istore 5, 2), (37, .iload_n 2, 1), (38, .iload 5, 2), (40, .iload_n 3, 1), (41, .isub, 1), (42, .invokestatic 45, 3), (45, .iadd, 1), (46, .istore_n 2, 1), (47, .iload 5, 2), (49, .istore_n 3, 1), (50, .iinc 4 1, 3), (53, .goto (-38), 3), (56, .iload_n 2, 1), (57, .ireturn, 1)])
def M_li_leapsWith : Mi := (⟨"GongHouse$LineTable", "leapsWith", "(LGongHouse$Circle;III)I"⟩, prog_5_method_4_code, 9, (Option.some FieldType.int), 1, 60, [(0, .aload_n 0, 1), (1, .getfield 21, 3), (4, .iconst 0, 1), (5, .iload_n 2, 1), (6, .iastore, 1), (7, .aload_n 0, 1), (8, .getfield 21, 3), (11, .iconst 1, 1), (12, .iload_n 3, 1), (13, .iastore, 1), (14, .aload_n 0, 1), (15, .getfield 21, 3), (18, .iconst 2, 1), (19, .iload 4, 2), (21, .iastore, 1), (22, .iconst 0, 1), (23, .istore 5, 2), (25, .aload_n 0, 1), (26, .aload_n 1, 1), (27, .iconst 0, 1), (28, .invokevirtual 50, 3), (31, .istore 6, 2), (33, .iconst 0, 1), (34, .istore 7, 2), (36, .iload 7, 2), (38, .aload_n 1, 1), (39, .getfield 54, 3), (42, .if_icmp .ge 57, 3), (45, .aload_n 0, 1), (46, .aload_n 1, 1), (47, .aload_n 1, 1), (48, .iload 7, 2), (50, .invokevirtual 60, 3), (53, .invokevirtual 50, 3), (56, .istore 8, 2), (58, .iload 5, 2), (60, .aload_n 0, 1), (61, .getfield 9, 3), (64, .iload 6, 2), (66, .iaload, 1), (67, .aload_n 0, 1), (68, .getfield 15, 3), (71, .iload 8, 2), (73, .iaload, 1), (74, .aload_n 0, 1), (75, .getfield 18, 3), (78, .iload 6, 2), (80, .iaload, 1), (81, .isub, 1), (82, .invokestatic 45, 3), (85, .iadd, 1), (86, .iadd, 1), (87, .istore 5, 2), (89, .iload 8, 2), (91, .istore 6, 2), (93, .iinc 7 1, 3), (96, .goto (-60), 3), (99, .iload 5, 2), (101, .ireturn, 1)])
def M_li_entryOf : Mi := (⟨"GongHouse$LineTable", "entryOf", "(LGongHouse$Circle;I)I"⟩, prog_5_method_5_code, 3, (Option.some FieldType.int), 0, 0, [(0, .aload_n 0, 1), (1, .getfield 21, 3), (4, .aload_n 1, 1), (5, .getfield 63, 3), (8, .iload_n 2, 1), (9, .iaload, 1), (10, .iaload, 1), (11, .bipush 7, 2), (13, .imul, 1), (14, .aload_n 1, 1), (15, .getfield 66, 3), (18, .iload_n 2, 1), (19, .iaload, 1), (20, .iadd, 1), (21, .ireturn, 1)])
def M_li_leastLeaping : Mi := (⟨"GongHouse$LineTable", "leastLeaping", "(LGongHouse$Circle;)I"⟩, prog_5_method_6_code, 9, (Option.some FieldType.int), 2, 88, [(0, .ldc 69, 2), (2, .istore_n 2, 1), (3, .ldc 72, 2), (5, .istore_n 3, 1), (6, .iconst 0, 1), (7, .istore 4, 2), (9, .iload 4, 2), (11, .sipush 216, 3), (14, .if_icmp .ge 100, 3), (17, .iload 4, 2), (19, .bipush 36, 2), (21, .idiv, 1), (22, .istore 5, 2), (24, .iload 4, 2), (26, .bipush 6, 2), (28, .idiv, 1), (29, .bipush 6, 2), (31, .irem, 1), (32, .istore 6, 2), (34, .iload 4, 2), (36, .bipush 6, 2), (38, .irem, 1), (39, .istore 7, 2), (41, .aload_n 0, 1), (42, .getfield 24, 3), (45, .iload 5, 2), (47, .baload, 1), (48, .ifCond .eq 60, 3), (51, .aload_n 0, 1), (52, .getfield 24, 3), (55, .iload 6, 2), (57, .baload, 1), (58, .ifCond .eq 50, 3), (61, .aload_n 0, 1), (62, .getfield 24, 3), (65, .iload 7, 2), (67, .baload, 1), (68, .ifCond .eq 40, 3), (71, .aload_n 0, 1), (72, .aload_n 1, 1), (73, .iload 5, 2), (75, .iload 6, 2), (77, .iload 7, 2), (79, .invokevirtual 73, 3), (82, .istore 8, 2), (84, .iload 8, 2), (86, .iload_n 3, 1), (87, .if_icmp .ge 21, 3), (90, .iload 8, 2), (92, .istore_n 3, 1), (93, .bipush 100, 2), (95, .iload 5, 2), (97, .imul, 1), (98, .bipush 10, 2), (100, .iload 6, 2), (102, .imul, 1), (103, .iadd, 1), (104, .iload 7, 2), (106, .iadd, 1), (107, .istore_n 2, 1), (108, .iinc 4 1, 3), (111, .goto (-102), 3), (114, .iload_n 2, 1), (115, .ireturn, 1)])
def M_pi_init : Mi := (⟨"GongHouse$Piece", "<init>", "()V"⟩, prog_6_method_1_code, 1, (Option.none : Option FieldType), 1, 60, [(0, .aload_n 0, 1), (1, .invokespecial 3, 3), (4, .aload_n 0, 1), (5, .bipush 16, 2), (7, .newarray .int, 2), (9, .putfield 9, 3), (12, .aload_n 0, 1), (13, .bipush 16, 2), (15, .newarray .int, 2), (17, .putfield 15, 3), (20, .aload_n 0, 1), (21, .bipush 16, 2), (23, .newarray .int, 2), (25, .putfield 18, 3), (28, .aload_n 0, 1), (29, .sipush 144, 3), (32, .newarray .int, 2), (34, .putfield 21, 3), (37, .aload_n 0, 1), (38, .iconst 0, 1), (39, .putfield 24, 3), (42, .aload_n 0, 1), (43, .iconst 0, 1), (44, .putfield 28, 3), (47, .aload_n 0, 1), (48, .getfield 21, 3), (51, .ldc 31, 2), (53, .invokestatic 32, 3), (56, .return_, 1)])
def M_pi_addPart : Mi := (⟨"GongHouse$Piece", "addPart", "(III)V"⟩, prog_6_method_2_code, 4, (Option.none : Option FieldType), 0, 0, [(0, .aload_n 0, 1), (1, .getfield 24, 3), (4, .bipush 16, 2), (6, .if_icmp .ge 43, 3), (9, .aload_n 0, 1), (10, .getfield 9, 3), (13, .aload_n 0, 1), (14, .getfield 24, 3), (17, .iload_n 1, 1), (18, .iastore, 1), (19, .aload_n 0, 1), (20, .getfield 15, 3), (23, .aload_n 0, 1), (24, .getfield 24, 3), (27, .iload_n 2, 1), (28, .iastore, 1), (29, .aload_n 0, 1), (30, .getfield 18, 3), (33, .aload_n 0, 1), (34, .getfield 24, 3), (37, .iload_n 3, 1), (38, .iastore, 1), (39, .aload_n 0, 1), (40, .dup, 1), (41, .getfield 24, 3), (44, .iconst 1, 1), (45, .iadd, 1), (46, .putfield 24, 3), (49, .return_, 1)])
def M_pi_setSignal : Mi := (⟨"GongHouse$Piece", "setSignal", "(II)V"⟩, prog_6_method_3_code, 3, (Option.none : Option FieldType), 1, 23, [(0, .aload_n 0, 1), (1, .getfield 21, 3), (4, .iload_n 1, 1), (5, .iload_n 2, 1), (6, .iastore, 1), (7, .aload_n 0, 1), (8, .aload_n 0, 1), (9, .getfield 21, 3), (12, .sipush 144, 3), (15, .invokestatic 38, 3), (18, .putfield 28, 3), (21, .return_, 1)])
def M_pi_clear : Mi := (⟨"GongHouse$Piece", "clear", "()V"⟩, prog_6_method_4_code, 1, (Option.none : Option FieldType), 1, 23, [(0, .aload_n 0, 1), (1, .iconst 0, 1), (2, .putfield 24, 3), (5, .aload_n 0, 1), (6, .iconst 0, 1), (7, .putfield 28, 3), (10, .aload_n 0, 1), (11, .getfield 21, 3), (14, .ldc 31, 2), (16, .invokestatic 32, 3), (19, .return_, 1)])
def M_pi_countRounds : Mi := (⟨"GongHouse$Piece", "countRounds", "()I"⟩, prog_6_method_5_code, 3, (Option.some FieldType.int), 0, 0, [(0, .iconst 0, 1), (1, .istore_n 1, 1), (2, .iconst 0, 1), (3, .istore_n 2, 1), (4, .iload_n 2, 1), (5, .aload_n 0, 1), (6, .getfield 24, 3), (9, .if_icmp .ge 18, 3), (12, .iload_n 1, 1), (13, .aload_n 0, 1), (14, .getfield 15, 3), (17, .iload_n 2, 1), (18, .iaload, 1), (19, .iadd, 1), (20, .istore_n 1, 1), (21, .iinc 2 1, 3), (24, .goto (-20), 3), (27, .iload_n 1, 1), (28, .ireturn, 1)])
def M_sh_init : Mi := (⟨"GongHouse$Sheet", "<init>", "()V"⟩, prog_7_method_1_code, 1, (Option.none : Option FieldType), 1, 60, [(0, .aload_n 0, 1), (1, .invokespecial 3, 3), (4, .aload_n 0, 1), (5, .bipush 16, 2), (7, .newarray .byte, 2), (9, .putfield 9, 3), (12, .aload_n 0, 1), (13, .iconst (-1), 1), (14, .putfield 15, 3), (17, .return_, 1)])
def M_sh_isMissing : Mi := (⟨"GongHouse$Sheet", "isMissing", "()Z"⟩, prog_7_method_2_code, 1, (Option.some FieldType.boolean), 0, 0, [(0, .aload_n 0, 1), (1, .getfield 15, 3), (4, .iconst (-1), 1), (5, .if_icmp .ne 7, 3), (8, .iconst 1, 1), (9, .goto 4, 3), (12, .iconst 0, 1), (13, .ireturn, 1)])
def M_sh_lengthen : Mi := (⟨"GongHouse$Sheet", "lengthen", "(I)V"⟩, prog_7_method_3_code, 2, (Option.none : Option FieldType), 1, 23, [(0, .aload_n 0, 1), (1, .iload_n 1, 1), (2, .putfield 15, 3), (5, .aload_n 0, 1), (6, .getfield 9, 3), (9, .iconst 0, 1), (10, .invokestatic 19, 3), (13, .return_, 1)])
def M_sh_holds : Mi := (⟨"GongHouse$Sheet", "holds", "(II)Z"⟩, prog_7_method_4_code, 3, (Option.some FieldType.boolean), 0, 0, [(0, .iload_n 1, 1), (1, .ifCond .lt 29, 3), (4, .iload_n 2, 1), (5, .ifCond .lt 25, 3), (8, .iload_n 1, 1), (9, .aload_n 0, 1), (10, .getfield 15, 3), (13, .if_icmp .gt 17, 3), (16, .iload_n 2, 1), (17, .aload_n 0, 1), (18, .getfield 15, 3), (21, .iload_n 1, 1), (22, .isub, 1), (23, .if_icmp .gt 7, 3), (26, .iconst 1, 1), (27, .goto 4, 3), (30, .iconst 0, 1), (31, .ireturn, 1)])
def M_ta_init : Mi := (⟨"GongHouse$Tape", "<init>", "()V"⟩, prog_8_method_1_code, 1, (Option.none : Option FieldType), 1, 60, [(0, .aload_n 0, 1), (1, .invokespecial 3, 3), (4, .aload_n 0, 1), (5, .bipush 64, 2), (7, .newarray .byte, 2), (9, .putfield 9, 3), (12, .aload_n 0, 1), (13, .iconst 0, 1), (14, .putfield 15, 3), (17, .return_, 1)])
def M_ta_addWord : Mi := (⟨"GongHouse$Tape", "addWord", "(I)V"⟩, prog_8_method_2_code, 3, (Option.none : Option FieldType), 0, 0, [(0, .bipush 24, 2), (2, .istore_n 2, 1), (3, .iload_n 2, 1), (4, .ifCond .lt 41, 3), (7, .aload_n 0, 1), (8, .getfield 15, 3), (11, .bipush 64, 2), (13, .if_icmp .ge 32, 3), (16, .aload_n 0, 1), (17, .getfield 9, 3), (20, .aload_n 0, 1), (21, .getfield 15, 3), (24, .iload_n 1, 1), (25, .iload_n 2, 1), (26, .ishr, 1), (27, .i2b, 1), (28, .bastore, 1), (29, .aload_n 0, 1), (30, .dup, 1), (31, .getfield 15, 3), (34, .iconst 1, 1), (35, .iadd, 1), (36, .putfield 15, 3), (39, .iinc 2 (-8), 3), (42, .goto (-39), 3), (45, .return_, 1)])
def M_re_init : Mi := (⟨"GongHouse$TuneReader", "<init>", "()V"⟩, prog_9_method_1_code, 1, (Option.none : Option FieldType), 1, 60, [(0, .aload_n 0, 1), (1, .invokespecial 3, 3), (4, .aload_n 0, 1), (5, .bipush 32, 2), (7, .newarray .int, 2), (9, .putfield 9, 3), (12, .aload_n 0, 1), (13, .bipush 32, 2), (15, .newarray .int, 2), (17, .putfield 15, 3), (20, .aload_n 0, 1), (21, .iconst 0, 1), (22, .putfield 18, 3), (25, .aload_n 0, 1), (26, .ldc 22, 2), (28, .putfield 23, 3), (31, .aload_n 0, 1), (32, .iconst 0, 1), (33, .putfield 26, 3), (36, .aload_n 0, 1), (37, .iconst 0, 1), (38, .putfield 30, 3), (41, .return_, 1)])
def M_re_faultOf : Mi := (⟨"GongHouse$TuneReader", "faultOf", "(LGongHouse$Tape;)I"⟩, prog_9_method_2_code, 3, (Option.some FieldType.int), 4, 90, [(0, .aload_n 0, 1), (1, .iconst 0, 1), (2, .putfield 18, 3), (5, .aload_n 0, 1), (6, .ldc 22, 2), (8, .putfield 23, 3), (11, .aload_n 0, 1), (12, .iconst 0, 1), (13, .putfield 26, 3), (16, .aload_n 0, 1), (17, .iconst 0, 1), (18, .putfield 30, 3), (21, .iconst 0, 1), (22, .istore_n 2, 1), (23, .iload_n 2, 1), (24, .aload_n 1, 1), (25, .getfield 33, 3), (28, .if_icmp .ge 30, 3), (31, .iload_n 2, 1), (32, .bipush 64, 2), (34, .if_icmp .ge 24, 3), (37, .aload_n 0, 1), (38, .aload_n 1, 1), (39, .getfield 38, 3), (42, .iload_n 2, 1), (43, .baload, 1), (44, .invokevirtual 42, 3), (47, .ifCond .ne 5, 3), (50, .iload_n 2, 1), (51, .ireturn, 1), (52, .iinc 2 1, 3), (55, .goto (-32), 3), (58, .aload_n 0, 1), (59, .getfield 18, 3), (62, .ifCond .le 17, 3), (65, .aload_n 0, 1), (66, .getfield 23, 3), (69, .ldc 22, 2), (71, .if_icmp .ne 8, 3), (74, .ldc 22, 2), (76, .goto 7, 3), (79, .aload_n 1, 1), (80, .getfield 33, 3), (83, .ireturn, 1)])
def M_re_takes : Mi := (⟨"GongHouse$TuneReader", "takes", "(I)Z"⟩, prog_9_method_3_code, 2, (Option.some FieldType.boolean), 3, 69, [(0, .aload_n 0, 1), (1, .getfield 26, 3), (4, .ifCond .eq 9, 3), (7, .aload_n 0, 1), (8, .iload_n 1, 1), (9, .invokevirtual 46, 3), (12, .ireturn, 1), (13, .iload_n 1, 1), (14, .bipush 91, 2), (16, .if_icmp .ne 8, 3), (19, .aload_n 0, 1), (20, .invokevirtual 49, 3), (23, .ireturn, 1), (24, .iload_n 1, 1), (25, .bipush 93, 2), (27, .if_icmp .ne 8, 3), (30, .aload_n 0, 1), (31, .invokevirtual 53, 3), (34, .ireturn, 1), (35, .iload_n 1, 1), (36, .bipush 46, 2), (38, .if_icmp .ne 10, 3), (41, .aload_n 0, 1), (42, .ldc 22, 2), (44, .invokevirtual 56, 3), (47, .ireturn, 1), (48, .iload_n 1, 1), (49, .bipush 49, 2), (51, .if_icmp .lt 18, 3), (54, .iload_n 1, 1), (55, .bipush 55, 2), (57, .if_icmp .gt 12, 3), (60, .aload_n 0, 1), (61, .iload_n 1, 1), (62, .bipush 49, 2), (64, .isub, 1), (65, .invokevirtual 56, 3), (68, .ireturn, 1), (69, .aload_n 0, 1), (70, .iload_n 1, 1), (71, .invokestatic 59, 3), (74, .invokevirtual 63, 3), (77, .ireturn, 1)])
def M_re_kindOf : Mi := (⟨"GongHouse$TuneReader", "kindOf", "(I)I"⟩, prog_9_method_4_code, 1, (Option.some FieldType.int), 0, 0, [(0, .iload_n 0, 1), (1, .lookupswitch 51 #[(71, 45), (72, 47), (76, 49), (103, 43)], 43), (44, .iconst 0, 1), (45, .ireturn, 1), (46, .iconst 1, 1), (47, .ireturn, 1), (48, .iconst 2, 1), (49, .ireturn, 1), (50, .iconst 3, 1), (51, .ireturn, 1), (52, .ldc 22, 2), (54, .ireturn, 1)])
def M_re_takesBeat : Mi := (⟨"GongHouse$TuneReader", "takesBeat", "(I)Z"⟩, prog_9_method_5_code, 2, (Option.some FieldType.boolean), 1, 22, [(0, .aload_n 0, 1), (1, .iload_n 1, 1), (2, .ldc 22, 2), (4, .invokevirtual 66, 3), (7, .aload_n 0, 1), (8, .iconst 1, 1), (9, .putfield 30, 3), (12, .iconst 1, 1), (13, .ireturn, 1)])
def M_re_takesGong : Mi := (⟨"GongHouse$TuneReader", "takesGong", "(I)Z"⟩, prog_9_method_6_code, 2, (Option.some FieldType.boolean), 0, 0, [(0, .aload_n 0, 1), (1, .getfield 30, 3), (4, .ifCond .eq 9, 3), (7, .iload_n 1, 1), (8, .ldc 22, 2), (10, .if_icmp .ne 5, 3), (13, .iconst 0, 1), (14, .ireturn, 1), (15, .aload_n 0, 1), (16, .getfield 18, 3), (19, .iconst 1, 1), (20, .if_icmp .lt 24, 3), (23, .aload_n 0, 1), (24, .getfield 18, 3), (27, .bipush 32, 2), (29, .if_icmp .gt 15, 3), (32, .aload_n 0, 1), (33, .getfield 15, 3), (36, .aload_n 0, 1), (37, .getfield 18, 3), (40, .iconst 1, 1), (41, .isub, 1), (42, .iload_n 1, 1), (43, .iastore, 1), (44, .aload_n 0, 1), (45, .iconst 0, 1), (46, .putfield 30, 3), (49, .iconst 1, 1), (50, .ireturn, 1)])
def M_re_takesOpening : Mi := (⟨"GongHouse$TuneReader", "takesOpening", "()Z"⟩, prog_9_method_7_code, 1, (Option.some FieldType.boolean), 0, 0, [(0, .aload_n 0, 1), (1, .getfield 23, 3), (4, .ldc 22, 2), (6, .if_icmp .eq 5, 3), (9, .iconst 0, 1), (10, .ireturn, 1), (11, .aload_n 0, 1), (12, .aload_n 0, 1), (13, .getfield 18, 3), (16, .putfield 23, 3), (19, .aload_n 0, 1), (20, .iconst 0, 1), (21, .putfield 30, 3), (24, .iconst 1, 1), (25, .ireturn, 1)])
def M_re_takesClosing : Mi := (⟨"GongHouse$TuneReader", "takesClosing", "()Z"⟩, prog_9_method_8_code, 1, (Option.some FieldType.boolean), 0, 0, [(0, .aload_n 0, 1), (1, .getfield 23, 3), (4, .ldc 22, 2), (6, .if_icmp .eq 14, 3), (9, .aload_n 0, 1), (10, .getfield 23, 3), (13, .aload_n 0, 1), (14, .getfield 18, 3), (17, .if_icmp .ne 5, 3), (20, .iconst 0, 1), (21, .ireturn, 1), (22, .aload_n 0, 1), (23, .iconst 1, 1), (24, .putfield 26, 3), (27, .aload_n 0, 1), (28, .iconst 0, 1), (29, .putfield 30, 3), (32, .iconst 1, 1), (33, .ireturn, 1)])
def M_re_takesTimes : Mi := (⟨"GongHouse$TuneReader", "takesTimes", "(I)Z"⟩, prog_9_method_9_code, 2, (Option.some FieldType.boolean), 2, 48, [(0, .iload_n 1, 1), (1, .bipush 50, 2), (3, .if_icmp .lt 9, 3), (6, .iload_n 1, 1), (7, .bipush 57, 2), (9, .if_icmp .le 5, 3), (12, .iconst 0, 1), (13, .ireturn, 1), (14, .aload_n 0, 1), (15, .aload_n 0, 1), (16, .getfield 23, 3), (19, .iload_n 1, 1), (20, .bipush 48, 2), (22, .isub, 1), (23, .invokevirtual 70, 3), (26, .aload_n 0, 1), (27, .ldc 22, 2), (29, .putfield 23, 3), (32, .aload_n 0, 1), (33, .iconst 0, 1), (34, .putfield 26, 3), (37, .iconst 1, 1), (38, .ireturn, 1)])
def M_re_repeatFrom : Mi := (⟨"GongHouse$TuneReader", "repeatFrom", "(II)V"⟩, prog_9_method_10_code, 7, (Option.none : Option FieldType), 1, 22, [(0, .aload_n 0, 1), (1, .getfield 18, 3), (4, .istore_n 3, 1), (5, .iconst 1, 1), (6, .istore 4, 2), (8, .iload 4, 2), (10, .iload_n 2, 1), (11, .if_icmp .ge 71, 3), (14, .iload_n 1, 1), (15, .istore 5, 2), (17, .iload 5, 2), (19, .iload_n 3, 1), (20, .if_icmp .ge 56, 3), (23, .iload 5, 2), (25, .bipush 32, 2), (27, .invokestatic 73, 3), (30, .istore 6, 2), (32, .aload_n 0, 1), (33, .iload 6, 2), (35, .ifCond .eq 13, 3), (38, .aload_n 0, 1), (39, .getfield 9, 3), (42, .iload 5, 2), (44, .iaload, 1), (45, .goto 5, 3), (48, .ldc 22, 2), (50, .iload 6, 2), (52, .ifCond .eq 13, 3), (55, .aload_n 0, 1), (56, .getfield 15, 3), (59, .iload 5, 2), (61, .iaload, 1), (62, .goto 5, 3), (65, .ldc 22, 2), (67, .invokevirtual 66, 3), (70, .iinc 5 1, 3), (73, .goto (-56), 3), (76, .iinc 4 1, 3), (79, .goto (-71), 3), (82, .return_, 1)])
def M_re_addBeat : Mi := (⟨"GongHouse$TuneReader", "addBeat", "(II)V"⟩, prog_9_method_11_code, 3, (Option.none : Option FieldType), 0, 0, [(0, .aload_n 0, 1), (1, .getfield 18, 3), (4, .bipush 32, 2), (6, .if_icmp .ge 23, 3), (9, .aload_n 0, 1), (10, .getfield 9, 3), (13, .aload_n 0, 1), (14, .getfield 18, 3), (17, .iload_n 1, 1), (18, .iastore, 1), (19, .aload_n 0, 1), (20, .getfield 15, 3), (23, .aload_n 0, 1), (24, .getfield 18, 3), (27, .iload_n 2, 1), (28, .iastore, 1), (29, .aload_n 0, 1), (30, .dup, 1), (31, .getfield 18, 3), (34, .iconst 1, 1), (35, .iadd, 1), (36, .putfield 18, 3), (39, .return_, 1)])
def M_wa_init : Mi := (⟨"GongHouse$Walk", "<init>", "()V"⟩, prog_10_method_1_code, 1, (Option.none : Option FieldType), 1, 60, [(0, .aload_n 0, 1), (1, .invokespecial 3, 3), (4, .aload_n 0, 1), (5, .iconst 0, 1), (6, .putfield 9, 3), (9, .aload_n 0, 1), (10, .iconst 0, 1), (11, .putfield 15, 3), (14, .aload_n 0, 1), (15, .iconst 0, 1), (16, .putfield 18, 3), (19, .aload_n 0, 1), (20, .iconst 0, 1), (21, .putfield 21, 3), (24, .return_, 1)])
def M_wa_reaches : Mi := (⟨"GongHouse$Walk", "reaches", "(LGongHouse$Piece;[LGongHouse$Circle;I)Z"⟩, prog_10_method_2_code, 6, (Option.some FieldType.boolean), 1, 21, [(0, .iconst 0, 1), (1, .istore 4, 2), (3, .aload_n 0, 1), (4, .iconst 0, 1), (5, .putfield 15, 3), (8, .aload_n 0, 1), (9, .iconst 0, 1), (10, .putfield 21, 3), (13, .aload_n 0, 1), (14, .iconst 0, 1), (15, .putfield 18, 3), (18, .aload_n 0, 1), (19, .getfield 18, 3), (22, .aload_n 1, 1), (23, .getfield 24, 3), (26, .if_icmp .ge 135, 3), (29, .aload_n 0, 1), (30, .aload_n 1, 1), (31, .getfield 29, 3), (34, .aload_n 0, 1), (35, .getfield 18, 3), (38, .iaload, 1), (39, .putfield 9, 3), (42, .aload_n 0, 1), (43, .aload_n 1, 1), (44, .getfield 33, 3), (47, .aload_n 0, 1), (48, .getfield 18, 3), (51, .iaload, 1), (52, .aload_n 0, 1), (53, .getfield 15, 3), (56, .invokestatic 36, 3), (59, .putfield 15, 3), (62, .iconst 0, 1), (63, .istore 5, 2), (65, .iload 5, 2), (67, .aload_n 1, 1), (68, .getfield 40, 3), (71, .aload_n 0, 1), (72, .getfield 18, 3), (75, .iaload, 1), (76, .if_icmp .ge 72, 3), (79, .iload 4, 2), (81, .sipush 144, 3), (84, .if_icmp .ge 64, 3), (87, .iload 4, 2), (89, .iload_n 3, 1), (90, .if_icmp .ne 5, 3), (93, .iconst 1, 1), (94, .ireturn, 1), (95, .aload_n 0, 1), (96, .dup, 1), (97, .getfield 21, 3), (100, .aload_n 2, 1), (101, .aload_n 0, 1), (102, .getfield 9, 3), (105, .aaload, 1), (106, .getfield 43, 3), (109, .bipush 32, 2), (111, .aload_n 0, 1), (112, .getfield 15, 3), (115, .ishl, 1), (116, .imul, 1), (117, .iadd, 1), (118, .putfield 21, 3), (121, .aload_n 0, 1), (122, .aload_n 1, 1), (123, .getfield 48, 3), (126, .iload 4, 2), (128, .iaload, 1), (129, .aload_n 0, 1), (130, .getfield 15, 3), (133, .invokestatic 36, 3), (136, .putfield 15, 3), (139, .iinc 4 1, 3), (142, .iinc 5 1, 3), (145, .goto (-80), 3), (148, .aload_n 0, 1), (149, .dup, 1), (150, .getfield 18, 3), (153, .iconst 1, 1), (154, .iadd, 1), (155, .putfield 18, 3), (158, .goto (-140), 3), (161, .iconst 0, 1), (162, .ireturn, 1)])
def M_wa_toldOr : Mi := (⟨"GongHouse$Walk", "toldOr", "(II)I"⟩, prog_10_method_3_code, 2, (Option.some FieldType.int), 0, 0, [(0, .iload_n 0, 1), (1, .ldc 51, 2), (3, .if_icmp .ne 7, 3), (6, .iload_n 1, 1), (7, .goto 4, 3), (10, .iload_n 0, 1), (11, .ireturn, 1)])
def M_gh_init : Mi := (⟨"GongHouse", "<init>", "()V"⟩, prog_1_method_1_code, 2, (Option.none : Option FieldType), 3, 103, [(0, .aload_n 0, 1), (1, .invokespecial 1, 3), (4, .aload_n 0, 1), (5, .new 7, 3), (8, .dup, 1), (9, .invokespecial 9, 3), (12, .putfield 10, 3), (15, .aload_n 0, 1), (16, .new 16, 3), (19, .dup, 1), (20, .invokespecial 18, 3), (23, .putfield 19, 3), (26, .aload_n 0, 1), (27, .iconst 4, 1), (28, .anewarray 23, 3), (31, .putfield 25, 3), (34, .aload_n 0, 1), (35, .iconst 4, 1), (36, .anewarray 29, 3), (39, .putfield 31, 3), (42, .aload_n 0, 1), (43, .new 35, 3), (46, .dup, 1), (47, .invokespecial 37, 3), (50, .putfield 38, 3), (53, .aload_n 0, 1), (54, .new 42, 3), (57, .dup, 1), (58, .invokespecial 44, 3), (61, .putfield 45, 3), (64, .aload_n 0, 1), (65, .new 49, 3), (68, .dup, 1), (69, .invokespecial 51, 3), (72, .putfield 52, 3), (75, .aload_n 0, 1), (76, .iconst 2, 1), (77, .anewarray 56, 3), (80, .putfield 58, 3), (83, .iconst 0, 1), (84, .istore_n 1, 1), (85, .iload_n 1, 1), (86, .iconst 4, 1), (87, .if_icmp .ge 22, 3), (90, .aload_n 0, 1), (91, .getfield 25, 3), (94, .iload_n 1, 1), (95, .new 23, 3), (98, .dup, 1), (99, .invokespecial 62, 3), (102, .aastore, 1), (103, .iinc 1 1, 3), (106, .goto (-21), 3), (109, .iconst 0, 1), (110, .istore_n 1, 1), (111, .iload_n 1, 1), (112, .iconst 4, 1), (113, .if_icmp .ge 25, 3), (116, .aload_n 0, 1), (117, .getfield 31, 3), (120, .iload_n 1, 1), (121, .new 29, 3), (124, .dup, 1), (125, .iconst 2, 1), (126, .iload_n 1, 1), (127, .ishl, 1), (128, .invokespecial 63, 3), (131, .aastore, 1), (132, .iinc 1 1, 3), (135, .goto (-24), 3), (138, .iconst 0, 1), (139, .istore_n 1, 1), (140, .iload_n 1, 1), (141, .iconst 2, 1), (142, .if_icmp .ge 22, 3), (145, .aload_n 0, 1), (146, .getfield 58, 3), (149, .iload_n 1, 1), (150, .new 56, 3), (153, .dup, 1), (154, .invokespecial 66, 3), (157, .aastore, 1), (158, .iinc 1 1, 3), (161, .goto (-21), 3), (164, .return_, 1)])
def M_gh_feed : Mi := (⟨"GongHouse", "feed", "(III)I"⟩, prog_1_method_2_code, 4, (Option.some FieldType.int), 1, 22, [(0, .aload_n 0, 1), (1, .getfield 10, 3), (4, .getfield 67, 3), (7, .bipush 12, 2), (9, .iadd, 1), (10, .bipush 64, 2), (12, .if_icmp .le 6, 3), (15, .ldc 71, 2), (17, .ireturn, 1), (18, .aload_n 0, 1), (19, .getfield 10, 3), (22, .iload_n 1, 1), (23, .invokevirtual 72, 3), (26, .aload_n 0, 1), (27, .getfield 10, 3), (30, .iload_n 2, 1), (31, .invokevirtual 72, 3), (34, .aload_n 0, 1), (35, .getfield 10, 3), (38, .iload_n 3, 1), (39, .invokevirtual 72, 3), (42, .aload_n 0, 1), (43, .getfield 10, 3), (46, .getfield 67, 3), (49, .ireturn, 1)])
def M_gh_trim : Mi := (⟨"GongHouse", "trim", "(I)I"⟩, prog_1_method_3_code, 2, (Option.some FieldType.int), 0, 0, [(0, .iload_n 1, 1), (1, .ifCond .lt 14, 3), (4, .iload_n 1, 1), (5, .aload_n 0, 1), (6, .getfield 10, 3), (9, .getfield 67, 3), (12, .if_icmp .le 6, 3), (15, .ldc 75, 2), (17, .ireturn, 1), (18, .aload_n 0, 1), (19, .getfield 10, 3), (22, .iload_n 1, 1), (23, .putfield 67, 3), (26, .iload_n 1, 1), (27, .ireturn, 1)])
def M_gh_tune : Mi := (⟨"GongHouse", "tune", "(I)I"⟩, prog_1_method_4_code, 3, (Option.some FieldType.int), 5, 112, [(0, .aload_n 0, 1), (1, .getfield 19, 3), (4, .aload_n 0, 1), (5, .getfield 10, 3), (8, .invokevirtual 76, 3), (11, .istore_n 2, 1), (12, .aload_n 0, 1), (13, .getfield 10, 3), (16, .iconst 0, 1), (17, .putfield 67, 3), (20, .iload_n 1, 1), (21, .iconst 4, 1), (22, .invokestatic 80, 3), (25, .ifCond .ne 6, 3), (28, .ldc 75, 2), (30, .ireturn, 1), (31, .iload_n 2, 1), (32, .ldc 84, 2), (34, .if_icmp .eq 8, 3), (37, .bipush (-100), 2), (39, .iload_n 2, 1), (40, .isub, 1), (41, .ireturn, 1), (42, .aload_n 0, 1), (43, .getfield 19, 3), (46, .getfield 85, 3), (49, .iconst 2, 1), (50, .if_icmp .lt 15, 3), (53, .aload_n 0, 1), (54, .getfield 19, 3), (57, .getfield 85, 3), (60, .bipush 32, 2), (62, .if_icmp .le 6, 3), (65, .ldc 88, 2), (67, .ireturn, 1), (68, .aload_n 0, 1), (69, .getfield 25, 3), (72, .iload_n 1, 1), (73, .aaload, 1), (74, .aload_n 0, 1), (75, .getfield 19, 3), (78, .invokevirtual 89, 3), (81, .aload_n 0, 1), (82, .getfield 19, 3), (85, .getfield 85, 3), (88, .ireturn, 1)])
def M_gh_told : Mi := (⟨"GongHouse", "told", "(III)I"⟩, prog_1_method_5_code, 4, (Option.some FieldType.int), 2, 43, [(0, .aload_n 0, 1), (1, .iload_n 1, 1), (2, .iload_n 2, 1), (3, .invokevirtual 93, 3), (6, .ifCond .ne 6, 3), (9, .ldc 75, 2), (11, .ireturn, 1), (12, .iload_n 3, 1), (13, .tableswitch 63 0 2 #[27, 39, 51], 27), (40, .aload_n 0, 1), (41, .getfield 25, 3), (44, .iload_n 1, 1), (45, .aaload, 1), (46, .getfield 96, 3), (49, .iload_n 2, 1), (50, .iaload, 1), (51, .ireturn, 1), (52, .aload_n 0, 1), (53, .getfield 25, 3), (56, .iload_n 1, 1), (57, .aaload, 1), (58, .getfield 100, 3), (61, .iload_n 2, 1), (62, .iaload, 1), (63, .ireturn, 1), (64, .aload_n 0, 1), (65, .getfield 25, 3), (68, .iload_n 1, 1), (69, .aaload, 1), (70, .getfield 103, 3), (73, .iload_n 2, 1), (74, .iaload, 1), (75, .ireturn, 1), (76, .ldc 75, 2), (78, .ireturn, 1)])
def M_gh_isOf : Mi := (⟨"GongHouse", "isOf", "(III)I"⟩, prog_1_method_6_code, 5, (Option.some FieldType.int), 2, 44, [(0, .aload_n 0, 1), (1, .iload_n 1, 1), (2, .iload_n 2, 1), (3, .invokevirtual 93, 3), (6, .ifCond .eq 11, 3), (9, .iload_n 3, 1), (10, .iconst 4, 1), (11, .invokestatic 80, 3), (14, .ifCond .ne 6, 3), (17, .ldc 75, 2), (19, .ireturn, 1), (20, .aload_n 0, 1), (21, .getfield 25, 3), (24, .iload_n 1, 1), (25, .aaload, 1), (26, .getfield 103, 3), (29, .iload_n 2, 1), (30, .iaload, 1), (31, .istore 4, 2), (33, .iload 4, 2), (35, .ldc 84, 2), (37, .if_icmp .ne 6, 3), (40, .ldc 88, 2), (42, .ireturn, 1), (43, .iload 4, 2), (45, .iload_n 3, 1), (46, .invokestatic 106, 3), (49, .ifCond .eq 7, 3), (52, .iconst 1, 1), (53, .goto 4, 3), (56, .iconst 0, 1), (57, .ireturn, 1)])
def M_gh_strike : Mi := (⟨"GongHouse", "strike", "(IIIII)I"⟩, prog_1_method_7_code, 8, (Option.some FieldType.int), 3, 65, [(0, .aload_n 0, 1), (1, .iload_n 1, 1), (2, .iload_n 2, 1), (3, .iload 4, 2), (5, .invokevirtual 109, 3), (8, .ifCond .eq 11, 3), (11, .iload_n 3, 1), (12, .iconst 2, 1), (13, .invokestatic 80, 3), (16, .ifCond .ne 6, 3), (19, .ldc 75, 2), (21, .ireturn, 1), (22, .iload 5, 2), (24, .ldc 84, 2), (26, .if_icmp .eq 14, 3), (29, .iload 5, 2), (31, .invokestatic 113, 3), (34, .ifCond .ne 6, 3), (37, .ldc 75, 2), (39, .ireturn, 1), (40, .aload_n 0, 1), (41, .getfield 31, 3), (44, .iload_n 1, 1), (45, .aaload, 1), (46, .getfield 117, 3), (49, .iload_n 2, 1), (50, .aaload, 1), (51, .iload_n 3, 1), (52, .invokevirtual 121, 3), (55, .astore 6, 2), (57, .aload 6, 2), (59, .iload 4, 2), (61, .iaload, 1), (62, .istore 7, 2), (64, .aload 6, 2), (66, .iload 4, 2), (68, .iload 5, 2), (70, .iastore, 1), (71, .iload 7, 2), (73, .ireturn, 1)])
def M_gh_lay : Mi := (⟨"GongHouse", "lay", "(IIII)I"⟩, prog_1_method_8_code, 6, (Option.some FieldType.int), 2, 46, [(0, .iload_n 1, 1), (1, .iload_n 2, 1), (2, .invokestatic 127, 3), (5, .ifCond .eq 20, 3), (8, .iload_n 3, 1), (9, .iconst 2, 1), (10, .invokestatic 80, 3), (13, .ifCond .eq 12, 3), (16, .iload 4, 2), (18, .iconst 2, 1), (19, .invokestatic 80, 3), (22, .ifCond .ne 6, 3), (25, .ldc 75, 2), (27, .ireturn, 1), (28, .aload_n 0, 1), (29, .getfield 58, 3), (32, .iload 4, 2), (34, .aaload, 1), (35, .invokevirtual 130, 3), (38, .ifCond .eq 6, 3), (41, .ldc 134, 2), (43, .ireturn, 1), (44, .aload_n 0, 1), (45, .getfield 58, 3), (48, .iload 4, 2), (50, .aaload, 1), (51, .getfield 135, 3), (54, .aload_n 0, 1), (55, .getfield 31, 3), (58, .iload_n 1, 1), (59, .aaload, 1), (60, .getfield 138, 3), (63, .if_icmp .le 6, 3), (66, .ldc 141, 2), (68, .ireturn, 1), (69, .aload_n 0, 1), (70, .getfield 31, 3), (73, .iload_n 1, 1), (74, .aaload, 1), (75, .getfield 117, 3), (78, .iload_n 2, 1), (79, .aaload, 1), (80, .astore 5, 2), (82, .aload 5, 2), (84, .iload_n 3, 1), (85, .aload_n 0, 1), (86, .getfield 58, 3), (89, .iload 4, 2), (91, .aaload, 1), (92, .invokevirtual 142, 3), (95, .aload 5, 2), (97, .iload_n 3, 1), (98, .invokevirtual 146, 3), (101, .ireturn, 1)])
def M_gh_together : Mi := (⟨"GongHouse", "together", "(IIII)I"⟩, prog_1_method_9_code, 7, (Option.some FieldType.int), 3, 65, [(0, .aload_n 0, 1), (1, .iload_n 1, 1), (2, .iload_n 2, 1), (3, .iload_n 3, 1), (4, .invokevirtual 109, 3), (7, .ifCond .eq 12, 3), (10, .iload 4, 2), (12, .iconst 2, 1), (13, .invokestatic 80, 3), (16, .ifCond .ne 6, 3), (19, .ldc 75, 2), (21, .ireturn, 1), (22, .aload_n 0, 1), (23, .getfield 31, 3), (26, .iload_n 1, 1), (27, .aaload, 1), (28, .getfield 117, 3), (31, .iload_n 2, 1), (32, .aaload, 1), (33, .getfield 150, 3), (36, .astore 5, 2), (38, .aload 5, 2), (40, .iload_n 3, 1), (41, .baload, 1), (42, .ifCond .eq 7, 3), (45, .iconst 1, 1), (46, .goto 4, 3), (49, .iconst 0, 1), (50, .istore 6, 2), (52, .aload 5, 2), (54, .iload_n 3, 1), (55, .iload 4, 2), (57, .iconst 1, 1), (58, .if_icmp .ne 7, 3), (61, .iconst 1, 1), (62, .goto 4, 3), (65, .iconst 0, 1), (66, .bastore, 1), (67, .iload 6, 2), (69, .ireturn, 1)])
def M_gh_wrong : Mi := (⟨"GongHouse", "wrong", "(II)I"⟩, prog_1_method_10_code, 3, (Option.some FieldType.int), 2, 42, [(0, .iload_n 1, 1), (1, .iload_n 2, 1), (2, .invokestatic 127, 3), (5, .ifCond .ne 6, 3), (8, .ldc 75, 2), (10, .ireturn, 1), (11, .aload_n 0, 1), (12, .getfield 31, 3), (15, .iload_n 1, 1), (16, .aaload, 1), (17, .getfield 117, 3), (20, .iload_n 2, 1), (21, .aaload, 1), (22, .invokevirtual 154, 3), (25, .ireturn, 1)])
def M_gh_use : Mi := (⟨"GongHouse", "use", "(III)I"⟩, prog_1_method_11_code, 5, (Option.some FieldType.int), 2, 42, [(0, .iload_n 1, 1), (1, .iload_n 3, 1), (2, .invokestatic 127, 3), (5, .ifCond .eq 11, 3), (8, .iload_n 2, 1), (9, .iconst 3, 1), (10, .invokestatic 80, 3), (13, .ifCond .ne 6, 3), (16, .ldc 75, 2), (18, .ireturn, 1), (19, .aload_n 0, 1), (20, .getfield 31, 3), (23, .iload_n 1, 1), (24, .aaload, 1), (25, .getfield 158, 3), (28, .iload_n 2, 1), (29, .iaload, 1), (30, .istore 4, 2), (32, .aload_n 0, 1), (33, .getfield 31, 3), (36, .iload_n 1, 1), (37, .aaload, 1), (38, .getfield 158, 3), (41, .iload_n 2, 1), (42, .iload_n 3, 1), (43, .iastore, 1), (44, .iload 4, 2), (46, .ireturn, 1)])
def M_gh_part : Mi := (⟨"GongHouse", "part", "(III)I"⟩, prog_1_method_12_code, 4, (Option.some FieldType.int), 2, 41, [(0, .iload_n 1, 1), (1, .iconst 4, 1), (2, .invokestatic 80, 3), (5, .ifCond .eq 21, 3), (8, .iload_n 2, 1), (9, .iconst 1, 1), (10, .if_icmp .lt 16, 3), (13, .iload_n 2, 1), (14, .bipush 9, 2), (16, .if_icmp .gt 10, 3), (19, .iload_n 3, 1), (20, .invokestatic 161, 3), (23, .ifCond .ne 6, 3), (26, .ldc 75, 2), (28, .ireturn, 1), (29, .aload_n 0, 1), (30, .getfield 38, 3), (33, .getfield 164, 3), (36, .bipush 16, 2), (38, .if_icmp .lt 6, 3), (41, .ldc 71, 2), (43, .ireturn, 1), (44, .aload_n 0, 1), (45, .getfield 38, 3), (48, .iload_n 1, 1), (49, .iload_n 2, 1), (50, .iload_n 3, 1), (51, .invokevirtual 167, 3), (54, .aload_n 0, 1), (55, .getfield 38, 3), (58, .getfield 164, 3), (61, .ireturn, 1)])
def M_gh_signal : Mi := (⟨"GongHouse", "signal", "(II)I"⟩, prog_1_method_13_code, 4, (Option.some FieldType.int), 2, 45, [(0, .iload_n 1, 1), (1, .sipush 144, 3), (4, .invokestatic 80, 3), (7, .ifCond .eq 10, 3), (10, .iload_n 2, 1), (11, .invokestatic 161, 3), (14, .ifCond .ne 6, 3), (17, .ldc 75, 2), (19, .ireturn, 1), (20, .aload_n 0, 1), (21, .getfield 38, 3), (24, .getfield 171, 3), (27, .iload_n 1, 1), (28, .iaload, 1), (29, .istore_n 3, 1), (30, .iload_n 3, 1), (31, .ldc 84, 2), (33, .if_icmp .ne 24, 3), (36, .iload_n 2, 1), (37, .ldc 84, 2), (39, .if_icmp .eq 18, 3), (42, .aload_n 0, 1), (43, .getfield 38, 3), (46, .getfield 174, 3), (49, .bipush 20, 2), (51, .if_icmp .lt 6, 3), (54, .ldc 71, 2), (56, .ireturn, 1), (57, .aload_n 0, 1), (58, .getfield 38, 3), (61, .iload_n 1, 1), (62, .iload_n 2, 1), (63, .invokevirtual 177, 3), (66, .iload_n 3, 1), (67, .ireturn, 1)])
def M_gh_drop : Mi := (⟨"GongHouse", "drop", "()I"⟩, prog_1_method_14_code, 2, (Option.some FieldType.int), 2, 43, [(0, .aload_n 0, 1), (1, .getfield 38, 3), (4, .getfield 164, 3), (7, .istore_n 1, 1), (8, .aload_n 0, 1), (9, .getfield 38, 3), (12, .invokevirtual 181, 3), (15, .iload_n 1, 1), (16, .ireturn, 1)])
def M_gh_round : Mi := (⟨"GongHouse", "round", "(II)I"⟩, prog_1_method_15_code, 3, (Option.some FieldType.int), 2, 46, [(0, .aload_n 0, 1), (1, .getfield 45, 3), (4, .aload_n 0, 1), (5, .getfield 38, 3), (8, .aload_n 0, 1), (9, .getfield 25, 3), (12, .iload_n 1, 1), (13, .invokevirtual 184, 3), (16, .ifCond .ne 6, 3), (19, .ldc 75, 2), (21, .ireturn, 1), (22, .iload_n 2, 1), (23, .tableswitch 61 0 3 #[29, 37, 45, 53], 29), (52, .aload_n 0, 1), (53, .getfield 45, 3), (56, .getfield 188, 3), (59, .ireturn, 1), (60, .aload_n 0, 1), (61, .getfield 45, 3), (64, .getfield 191, 3), (67, .ireturn, 1), (68, .aload_n 0, 1), (69, .getfield 45, 3), (72, .getfield 194, 3), (75, .ireturn, 1), (76, .aload_n 0, 1), (77, .getfield 45, 3), (80, .getfield 197, 3), (83, .ireturn, 1), (84, .ldc 75, 2), (86, .ireturn, 1)])
def M_gh_plays : Mi := (⟨"GongHouse", "plays", "(IIII)I"⟩, prog_1_method_16_code, 6, (Option.some FieldType.int), 3, 69, [(0, .iload_n 1, 1), (1, .iconst 4, 1), (2, .invokestatic 80, 3), (5, .ifCond .eq 14, 3), (8, .aload_n 0, 1), (9, .iload_n 2, 1), (10, .iload_n 3, 1), (11, .iload 4, 2), (13, .invokevirtual 200, 3), (16, .ifCond .ne 6, 3), (19, .ldc 75, 2), (21, .ireturn, 1), (22, .aload_n 0, 1), (23, .getfield 25, 3), (26, .aload_n 0, 1), (27, .getfield 45, 3), (30, .getfield 188, 3), (33, .aaload, 1), (34, .astore 5, 2), (36, .iload_n 1, 1), (37, .invokestatic 203, 3), (40, .ifCond .eq 27, 3), (43, .aload 5, 2), (45, .aload_n 0, 1), (46, .getfield 31, 3), (49, .aload_n 0, 1), (50, .getfield 45, 3), (53, .getfield 191, 3), (56, .aaload, 1), (57, .iload_n 1, 1), (58, .iconst 1, 1), (59, .isub, 1), (60, .iload_n 3, 1), (61, .iload 4, 2), (63, .invokestatic 206, 3), (66, .ireturn, 1), (67, .iload 4, 2), (69, .ifCond .le 6, 3), (72, .ldc 84, 2), (74, .ireturn, 1), (75, .iload_n 1, 1), (76, .ifCond .ne 13, 3), (79, .aload 5, 2), (81, .getfield 96, 3), (84, .iload_n 3, 1), (85, .iaload, 1), (86, .goto 10, 3), (89, .aload 5, 2), (91, .getfield 103, 3), (94, .iload_n 3, 1), (95, .iaload, 1), (96, .ireturn, 1)])
def M_gh_damps : Mi := (⟨"GongHouse", "damps", "(IIII)I"⟩, prog_1_method_17_code, 7, (Option.some FieldType.int), 3, 73, [(0, .iload_n 1, 1), (1, .invokestatic 203, 3), (4, .ifCond .eq 14, 3), (7, .aload_n 0, 1), (8, .iload_n 2, 1), (9, .iload_n 3, 1), (10, .iload 4, 2), (12, .invokevirtual 200, 3), (15, .ifCond .ne 6, 3), (18, .ldc 75, 2), (20, .ireturn, 1), (21, .aload_n 0, 1), (22, .getfield 25, 3), (25, .aload_n 0, 1), (26, .getfield 45, 3), (29, .getfield 188, 3), (32, .aaload, 1), (33, .aload_n 0, 1), (34, .getfield 31, 3), (37, .aload_n 0, 1), (38, .getfield 45, 3), (41, .getfield 191, 3), (44, .aaload, 1), (45, .iload_n 1, 1), (46, .iconst 1, 1), (47, .isub, 1), (48, .iload_n 3, 1), (49, .iload 4, 2), (51, .invokestatic 206, 3), (54, .istore 5, 2), (56, .aload_n 0, 1), (57, .getfield 25, 3), (60, .aload_n 0, 1), (61, .getfield 45, 3), (64, .getfield 188, 3), (67, .aaload, 1), (68, .aload_n 0, 1), (69, .getfield 31, 3), (72, .aload_n 0, 1), (73, .getfield 45, 3), (76, .getfield 191, 3), (79, .aaload, 1), (80, .iload_n 1, 1), (81, .iconst 1, 1), (82, .isub, 1), (83, .iload_n 3, 1), (84, .iload 4, 2), (86, .invokestatic 210, 3), (89, .istore 6, 2), (91, .iload 5, 2), (93, .ldc 84, 2), (95, .if_icmp .eq 10, 3), (98, .iload 5, 2), (100, .iload 6, 2), (102, .if_icmp .ne 8, 3), (105, .ldc 84, 2), (107, .goto 5, 3), (110, .iload 6, 2), (112, .ireturn, 1)])
def M_gh_strikes : Mi := (⟨"GongHouse", "strikes", "(II)I"⟩, prog_1_method_18_code, 4, (Option.some FieldType.int), 3, 68, [(0, .iload_n 1, 1), (1, .iconst 4, 1), (2, .invokestatic 80, 3), (5, .ifCond .eq 22, 3), (8, .aload_n 0, 1), (9, .getfield 45, 3), (12, .aload_n 0, 1), (13, .getfield 38, 3), (16, .aload_n 0, 1), (17, .getfield 25, 3), (20, .iload_n 2, 1), (21, .invokevirtual 184, 3), (24, .ifCond .ne 6, 3), (27, .ldc 75, 2), (29, .ireturn, 1), (30, .aload_n 0, 1), (31, .getfield 25, 3), (34, .aload_n 0, 1), (35, .getfield 45, 3), (38, .getfield 188, 3), (41, .aaload, 1), (42, .astore_n 3, 1), (43, .iload_n 1, 1), (44, .ifCond .ne 8, 3), (47, .aload_n 3, 1), (48, .invokevirtual 213, 3), (51, .ireturn, 1), (52, .iload_n 1, 1), (53, .iconst 3, 1), (54, .if_icmp .ne 8, 3), (57, .aload_n 3, 1), (58, .invokevirtual 216, 3), (61, .ireturn, 1), (62, .aload_n 3, 1), (63, .aload_n 0, 1), (64, .getfield 31, 3), (67, .aload_n 0, 1), (68, .getfield 45, 3), (71, .getfield 191, 3), (74, .aaload, 1), (75, .iload_n 1, 1), (76, .iconst 1, 1), (77, .isub, 1), (78, .invokestatic 219, 3), (81, .ireturn, 1)])
def M_gh_ticks : Mi := (⟨"GongHouse", "ticks", "()I"⟩, prog_1_method_19_code, 1, (Option.some FieldType.int), 2, 46, [(0, .aload_n 0, 1), (1, .getfield 45, 3), (4, .aload_n 0, 1), (5, .getfield 38, 3), (8, .aload_n 0, 1), (9, .getfield 25, 3), (12, .ldc 84, 2), (14, .invokevirtual 184, 3), (17, .pop, 1), (18, .aload_n 0, 1), (19, .getfield 45, 3), (22, .getfield 197, 3), (25, .ireturn, 1)])
def M_gh_leaps : Mi := (⟨"GongHouse", "leaps", "(III)I"⟩, prog_1_method_20_code, 8, (Option.some FieldType.int), 3, 110, [(0, .iload_n 1, 1), (1, .iconst 4, 1), (2, .invokestatic 80, 3), (5, .ifCond .eq 15, 3), (8, .iload_n 2, 1), (9, .iconst 4, 1), (10, .invokestatic 80, 3), (13, .ifCond .eq 7, 3), (16, .iload_n 3, 1), (17, .ifCond .ge 6, 3), (20, .ldc 75, 2), (22, .ireturn, 1), (23, .iload_n 3, 1), (24, .bipush 100, 2), (26, .idiv, 1), (27, .istore 4, 2), (29, .iload_n 3, 1), (30, .bipush 10, 2), (32, .idiv, 1), (33, .bipush 10, 2), (35, .irem, 1), (36, .istore 5, 2), (38, .iload_n 3, 1), (39, .bipush 10, 2), (41, .irem, 1), (42, .istore 6, 2), (44, .iload 4, 2), (46, .bipush 6, 2), (48, .invokestatic 80, 3), (51, .ifCond .eq 23, 3), (54, .iload 5, 2), (56, .bipush 6, 2), (58, .invokestatic 80, 3), (61, .ifCond .eq 13, 3), (64, .iload 6, 2), (66, .bipush 6, 2), (68, .invokestatic 80, 3), (71, .ifCond .ne 6, 3), (74, .ldc 75, 2), (76, .ireturn, 1), (77, .aload_n 0, 1), (78, .getfield 31, 3), (81, .iload_n 2, 1), (82, .aaload, 1), (83, .astore 7, 2), (85, .aload 7, 2), (87, .getfield 117, 3), (90, .iload 4, 2), (92, .aaload, 1), (93, .invokevirtual 223, 3), (96, .ifCond .eq 31, 3), (99, .aload 7, 2), (101, .getfield 117, 3), (104, .iload 5, 2), (106, .aaload, 1), (107, .invokevirtual 223, 3), (110, .ifCond .eq 17, 3), (113, .aload 7, 2), (115, .getfield 117, 3), (118, .iload 6, 2), (120, .aaload, 1), (121, .invokevirtual 223, 3), (124, .ifCond .ne 6, 3), (127, .ldc 88, 2), (129, .ireturn, 1), (130, .aload_n 0, 1), (131, .getfield 52, 3), (134, .aload 7, 2), (136, .getfield 117, 3), (139, .iload 4, 2), (141, .aaload, 1), (142, .iload 4, 2), (144, .invokevirtual 226, 3), (147, .aload_n 0, 1), (148, .getfield 52, 3), (151, .aload 7, 2), (153, .getfield 117, 3), (156, .iload 5, 2), (158, .aaload, 1), (159, .iload 5, 2), (161, .invokevirtual 226, 3), (164, .aload_n 0, 1), (165, .getfield 52, 3), (168, .aload 7, 2), (170, .getfield 117, 3), (173, .iload 6, 2), (175, .aaload, 1), (176, .iload 6, 2), (178, .invokevirtual 226, 3), (181, .aload_n 0, 1), (182, .getfield 52, 3), (185, .aload_n 0, 1), (186, .getfield 25, 3), (189, .iload_n 1, 1), (190, .aaload, 1), (191, .iload 4, 2), (193, .iload 5, 2), (195, .iload 6, 2), (197, .invokevirtual 230, 3), (200, .ireturn, 1)])
def M_gh_choice : Mi := (⟨"GongHouse", "choice", "(II)I"⟩, prog_1_method_21_code, 5, (Option.some FieldType.int), 3, 116, [(0, .iload_n 1, 1), (1, .iconst 4, 1), (2, .invokestatic 80, 3), (5, .ifCond .eq 11, 3), (8, .iload_n 2, 1), (9, .iconst 4, 1), (10, .invokestatic 80, 3), (13, .ifCond .ne 6, 3), (16, .ldc 75, 2), (18, .ireturn, 1), (19, .iconst 0, 1), (20, .istore_n 3, 1), (21, .iload_n 3, 1), (22, .bipush 6, 2), (24, .if_icmp .ge 58, 3), (27, .aload_n 0, 1), (28, .getfield 31, 3), (31, .iload_n 2, 1), (32, .aaload, 1), (33, .getfield 117, 3), (36, .iload_n 3, 1), (37, .aaload, 1), (38, .astore 4, 2), (40, .aload_n 0, 1), (41, .getfield 52, 3), (44, .getfield 234, 3), (47, .iload_n 3, 1), (48, .aload 4, 2), (50, .invokevirtual 223, 3), (53, .bastore, 1), (54, .aload_n 0, 1), (55, .getfield 52, 3), (58, .getfield 234, 3), (61, .iload_n 3, 1), (62, .baload, 1), (63, .ifCond .eq 13, 3), (66, .aload_n 0, 1), (67, .getfield 52, 3), (70, .aload 4, 2), (72, .iload_n 3, 1), (73, .invokevirtual 226, 3), (76, .iinc 3 1, 3), (79, .goto (-58), 3), (82, .aload_n 0, 1), (83, .getfield 52, 3), (86, .aload_n 0, 1), (87, .getfield 25, 3), (90, .iload_n 1, 1), (91, .aaload, 1), (92, .invokevirtual 237, 3), (95, .ireturn, 1)])
def M_gh_sheet : Mi := (⟨"GongHouse", "sheet", "(II)I"⟩, prog_1_method_22_code, 3, (Option.some FieldType.int), 2, 44, [(0, .iload_n 1, 1), (1, .iconst 2, 1), (2, .invokestatic 80, 3), (5, .ifCond .eq 9, 3), (8, .iload_n 2, 1), (9, .bipush 16, 2), (11, .if_icmp .le 6, 3), (14, .ldc 75, 2), (16, .ireturn, 1), (17, .iload_n 2, 1), (18, .ifCond .ge 6, 3), (21, .ldc 241, 2), (23, .ireturn, 1), (24, .aload_n 0, 1), (25, .getfield 58, 3), (28, .iload_n 1, 1), (29, .aaload, 1), (30, .iload_n 2, 1), (31, .invokevirtual 242, 3), (34, .iload_n 2, 1), (35, .ireturn, 1)])
def M_gh_mark : Mi := (⟨"GongHouse", "mark", "(III)I"⟩, prog_1_method_23_code, 5, (Option.some FieldType.int), 1, 21, [(0, .iload_n 1, 1), (1, .iconst 2, 1), (2, .invokestatic 80, 3), (5, .ifCond .ne 6, 3), (8, .ldc 75, 2), (10, .ireturn, 1), (11, .aload_n 0, 1), (12, .getfield 58, 3), (15, .iload_n 1, 1), (16, .aaload, 1), (17, .invokevirtual 130, 3), (20, .ifCond .eq 6, 3), (23, .ldc 134, 2), (25, .ireturn, 1), (26, .iload_n 2, 1), (27, .aload_n 0, 1), (28, .getfield 58, 3), (31, .iload_n 1, 1), (32, .aaload, 1), (33, .getfield 135, 3), (36, .invokestatic 80, 3), (39, .ifCond .ne 6, 3), (42, .ldc 141, 2), (44, .ireturn, 1), (45, .aload_n 0, 1), (46, .getfield 58, 3), (49, .iload_n 1, 1), (50, .aaload, 1), (51, .getfield 245, 3), (54, .iload_n 2, 1), (55, .baload, 1), (56, .istore 4, 2), (58, .aload_n 0, 1), (59, .getfield 58, 3), (62, .iload_n 1, 1), (63, .aaload, 1), (64, .getfield 245, 3), (67, .iload_n 2, 1), (68, .iload_n 3, 1), (69, .i2b, 1), (70, .bastore, 1), (71, .iload 4, 2), (73, .ireturn, 1)])
def M_gh_copy : Mi := (⟨"GongHouse", "copy", "(IIIII)I"⟩, prog_1_method_24_code, 6, (Option.some FieldType.int), 1, 60, [(0, .iload_n 1, 1), (1, .iconst 2, 1), (2, .invokestatic 80, 3), (5, .ifCond .eq 11, 3), (8, .iload_n 3, 1), (9, .iconst 2, 1), (10, .invokestatic 80, 3), (13, .ifCond .ne 6, 3), (16, .ldc 75, 2), (18, .ireturn, 1), (19, .aload_n 0, 1), (20, .getfield 58, 3), (23, .iload_n 1, 1), (24, .aaload, 1), (25, .invokevirtual 130, 3), (28, .ifCond .ne 15, 3), (31, .aload_n 0, 1), (32, .getfield 58, 3), (35, .iload_n 3, 1), (36, .aaload, 1), (37, .invokevirtual 130, 3), (40, .ifCond .eq 6, 3), (43, .ldc 134, 2), (45, .ireturn, 1), (46, .aload_n 0, 1), (47, .getfield 58, 3), (50, .iload_n 1, 1), (51, .aaload, 1), (52, .iload_n 2, 1), (53, .iload 5, 2), (55, .invokevirtual 249, 3), (58, .ifCond .eq 19, 3), (61, .aload_n 0, 1), (62, .getfield 58, 3), (65, .iload_n 3, 1), (66, .aaload, 1), (67, .iload 4, 2), (69, .iload 5, 2), (71, .invokevirtual 249, 3), (74, .ifCond .ne 6, 3), (77, .ldc 141, 2), (79, .ireturn, 1), (80, .aload_n 0, 1), (81, .getfield 58, 3), (84, .iload_n 1, 1), (85, .aaload, 1), (86, .getfield 245, 3), (89, .iload_n 2, 1), (90, .aload_n 0, 1), (91, .getfield 58, 3), (94, .iload_n 3, 1), (95, .aaload, 1), (96, .getfield 245, 3), (99, .iload 4, 2), (101, .iload 5, 2), (103, .invokestatic 252, 3), (106, .iload 5, 2), (108, .ireturn, 1)])
def M_gh_count : Mi := (⟨"GongHouse", "count", "(I)I"⟩, prog_1_method_25_code, 2, (Option.some FieldType.int), 4, 87, [(0, .iload_n 1, 1), (1, .tableswitch 90 0 6 #[43, 48, 53, 58, 66, 74, 82], 43), (44, .aload_n 0, 1), (45, .invokevirtual 258, 3), (48, .ireturn, 1), (49, .aload_n 0, 1), (50, .invokevirtual 261, 3), (53, .ireturn, 1), (54, .aload_n 0, 1), (55, .invokevirtual 264, 3), (58, .ireturn, 1), (59, .aload_n 0, 1), (60, .getfield 38, 3), (63, .getfield 164, 3), (66, .ireturn, 1), (67, .aload_n 0, 1), (68, .getfield 38, 3), (71, .invokevirtual 267, 3), (74, .ireturn, 1), (75, .aload_n 0, 1), (76, .getfield 38, 3), (79, .getfield 174, 3), (82, .ireturn, 1), (83, .aload_n 0, 1), (84, .getfield 10, 3), (87, .getfield 67, 3), (90, .ireturn, 1), (91, .ldc 75, 2), (93, .ireturn, 1)])
def M_gh_isBelow : Mi := (⟨"GongHouse", "isBelow", "(II)Z"⟩, prog_1_method_26_code, 2, (Option.some FieldType.boolean), 0, 0, [(0, .iload_n 0, 1), (1, .ifCond .lt 12, 3), (4, .iload_n 0, 1), (5, .iload_n 1, 1), (6, .if_icmp .ge 7, 3), (9, .iconst 1, 1), (10, .goto 4, 3), (13, .iconst 0, 1), (14, .ireturn, 1)])
def M_gh_isShift : Mi := (⟨"GongHouse", "isShift", "(I)Z"⟩, prog_1_method_27_code, 1, (Option.some FieldType.boolean), 0, 0, [(0, .iload_n 0, 1), (1, .bipush (-4), 2), (3, .if_icmp .lt 12, 3), (6, .iload_n 0, 1), (7, .iconst 4, 1), (8, .if_icmp .gt 7, 3), (11, .iconst 1, 1), (12, .goto 4, 3), (15, .iconst 0, 1), (16, .ireturn, 1)])
def M_gh_isLevelOrNone : Mi := (⟨"GongHouse", "isLevelOrNone", "(I)Z"⟩, prog_1_method_28_code, 1, (Option.some FieldType.boolean), 1, 21, [(0, .iload_n 0, 1), (1, .ldc 84, 2), (3, .if_icmp .eq 11, 3), (6, .iload_n 0, 1), (7, .iconst 4, 1), (8, .invokestatic 80, 3), (11, .ifCond .eq 7, 3), (14, .iconst 1, 1), (15, .goto 4, 3), (18, .iconst 0, 1), (19, .ireturn, 1)])
def M_gh_isHalfPlayer : Mi := (⟨"GongHouse", "isHalfPlayer", "(I)Z"⟩, prog_1_method_29_code, 1, (Option.some FieldType.boolean), 0, 0, [(0, .iload_n 0, 1), (1, .ifCond .le 12, 3), (4, .iload_n 0, 1), (5, .iconst 3, 1), (6, .if_icmp .ge 7, 3), (9, .iconst 1, 1), (10, .goto 4, 3), (13, .iconst 0, 1), (14, .ireturn, 1)])
def M_gh_hasBeat : Mi := (⟨"GongHouse", "hasBeat", "(II)Z"⟩, prog_1_method_30_code, 3, (Option.some FieldType.boolean), 1, 21, [(0, .iload_n 1, 1), (1, .iconst 4, 1), (2, .invokestatic 80, 3), (5, .ifCond .eq 23, 3), (8, .iload_n 2, 1), (9, .aload_n 0, 1), (10, .getfield 25, 3), (13, .iload_n 1, 1), (14, .aaload, 1), (15, .getfield 270, 3), (18, .invokestatic 80, 3), (21, .ifCond .eq 7, 3), (24, .iconst 1, 1), (25, .goto 4, 3), (28, .iconst 0, 1), (29, .ireturn, 1)])
def M_gh_hasFigure : Mi := (⟨"GongHouse", "hasFigure", "(II)Z"⟩, prog_1_method_31_code, 2, (Option.some FieldType.boolean), 1, 21, [(0, .iload_n 0, 1), (1, .iconst 4, 1), (2, .invokestatic 80, 3), (5, .ifCond .eq 16, 3), (8, .iload_n 1, 1), (9, .bipush 6, 2), (11, .invokestatic 80, 3), (14, .ifCond .eq 7, 3), (17, .iconst 1, 1), (18, .goto 4, 3), (21, .iconst 0, 1), (22, .ireturn, 1)])
def M_gh_hasStep : Mi := (⟨"GongHouse", "hasStep", "(III)Z"⟩, prog_1_method_32_code, 4, (Option.some FieldType.boolean), 2, 42, [(0, .iload_n 1, 1), (1, .iload_n 2, 1), (2, .invokestatic 127, 3), (5, .ifCond .eq 23, 3), (8, .iload_n 3, 1), (9, .aload_n 0, 1), (10, .getfield 31, 3), (13, .iload_n 1, 1), (14, .aaload, 1), (15, .getfield 138, 3), (18, .invokestatic 80, 3), (21, .ifCond .eq 7, 3), (24, .iconst 1, 1), (25, .goto 4, 3), (28, .iconst 0, 1), (29, .ireturn, 1)])
def M_gh_goesTo : Mi := (⟨"GongHouse", "goesTo", "(III)Z"⟩, prog_1_method_33_code, 4, (Option.some FieldType.boolean), 2, 46, [(0, .aload_n 0, 1), (1, .getfield 45, 3), (4, .aload_n 0, 1), (5, .getfield 38, 3), (8, .aload_n 0, 1), (9, .getfield 25, 3), (12, .iload_n 1, 1), (13, .invokevirtual 184, 3), (16, .ifCond .eq 51, 3), (19, .iload_n 2, 1), (20, .aload_n 0, 1), (21, .getfield 25, 3), (24, .aload_n 0, 1), (25, .getfield 45, 3), (28, .getfield 188, 3), (31, .aaload, 1), (32, .getfield 270, 3), (35, .invokestatic 80, 3), (38, .ifCond .eq 29, 3), (41, .iload_n 3, 1), (42, .aload_n 0, 1), (43, .getfield 31, 3), (46, .aload_n 0, 1), (47, .getfield 45, 3), (50, .getfield 191, 3), (53, .aaload, 1), (54, .getfield 138, 3), (57, .invokestatic 80, 3), (60, .ifCond .eq 7, 3), (63, .iconst 1, 1), (64, .goto 4, 3), (67, .iconst 0, 1), (68, .ireturn, 1)])
def M_gh_standsUnder : Mi := (⟨"GongHouse", "standsUnder", "(II)Z"⟩, prog_1_method_34_code, 4, (Option.some FieldType.boolean), 1, 21, [(0, .iload_n 0, 1), (1, .istore_n 2, 1), (2, .iconst 0, 1), (3, .istore_n 3, 1), (4, .iload_n 3, 1), (5, .iconst 4, 1), (6, .if_icmp .ge 30, 3), (9, .iload_n 2, 1), (10, .iconst 4, 1), (11, .invokestatic 80, 3), (14, .ifCond .eq 22, 3), (17, .iload_n 2, 1), (18, .iload_n 1, 1), (19, .if_icmp .ne 5, 3), (22, .iconst 1, 1), (23, .ireturn, 1), (24, .getstatic 271, 3), (27, .iload_n 2, 1), (28, .iaload, 1), (29, .istore_n 2, 1), (30, .iinc 3 1, 3), (33, .goto (-29), 3), (36, .iconst 0, 1), (37, .ireturn, 1)])
def M_gh_keyOf : Mi := (⟨"GongHouse", "keyOf", "(II)I"⟩, prog_1_method_35_code, 3, (Option.some FieldType.int), 0, 0, [(0, .iload_n 0, 1), (1, .iload_n 1, 1), (2, .iadd, 1), (3, .istore_n 2, 1), (4, .iload_n 2, 1), (5, .ifCond .ge 7, 3), (8, .iload_n 2, 1), (9, .iconst 5, 1), (10, .iadd, 1), (11, .ireturn, 1), (12, .iload_n 2, 1), (13, .bipush 9, 2), (15, .if_icmp .le 9, 3), (18, .iload_n 2, 1), (19, .iconst 5, 1), (20, .isub, 1), (21, .goto 4, 3), (24, .iload_n 2, 1), (25, .ireturn, 1)])
def M_gh_keyAt : Mi := (⟨"GongHouse", "keyAt", "(LGongHouse$Circle;LGongHouse$Level;III)I"⟩, prog_1_method_36_code, 6, (Option.some FieldType.int), 1, 22, [(0, .aload_n 1, 1), (1, .aload_n 0, 1), (2, .iload_n 3, 1), (3, .invokevirtual 274, 3), (6, .iload_n 2, 1), (7, .invokevirtual 121, 3), (10, .iload 4, 2), (12, .iaload, 1), (13, .istore 5, 2), (15, .iload 5, 2), (17, .ldc 84, 2), (19, .if_icmp .ne 8, 3), (22, .ldc 84, 2), (24, .goto 14, 3), (27, .aload_n 0, 1), (28, .getfield 100, 3), (31, .iload_n 3, 1), (32, .iaload, 1), (33, .iload 5, 2), (35, .invokestatic 278, 3), (38, .ireturn, 1)])
def M_gh_keyAhead : Mi := (⟨"GongHouse", "keyAhead", "(LGongHouse$Circle;LGongHouse$Level;III)I"⟩, prog_1_method_37_code, 7, (Option.some FieldType.int), 2, 47, [(0, .iload 4, 2), (2, .iconst 1, 1), (3, .isub, 1), (4, .istore 5, 2), (6, .iload 5, 2), (8, .ifCond .lt 30, 3), (11, .aload_n 0, 1), (12, .aload_n 1, 1), (13, .iload_n 2, 1), (14, .iload_n 3, 1), (15, .iload 5, 2), (17, .invokestatic 206, 3), (20, .istore 6, 2), (22, .iload 6, 2), (24, .ldc 84, 2), (26, .if_icmp .eq 6, 3), (29, .iload 6, 2), (31, .ireturn, 1), (32, .iinc 5 (-1), 3), (35, .goto (-29), 3), (38, .ldc 84, 2), (40, .ireturn, 1)])
def M_gh_halfStrikes : Mi := (⟨"GongHouse", "halfStrikes", "(LGongHouse$Circle;LGongHouse$Level;I)I"⟩, prog_1_method_38_code, 5, (Option.some FieldType.int), 2, 44, [(0, .iconst 0, 1), (1, .istore_n 3, 1), (2, .iconst 0, 1), (3, .istore 4, 2), (5, .iload 4, 2), (7, .aload_n 0, 1), (8, .getfield 270, 3), (11, .if_icmp .ge 23, 3), (14, .iload_n 3, 1), (15, .aload_n 1, 1), (16, .aload_n 0, 1), (17, .iload 4, 2), (19, .invokevirtual 274, 3), (22, .iload_n 2, 1), (23, .invokevirtual 146, 3), (26, .iadd, 1), (27, .istore_n 3, 1), (28, .iinc 4 1, 3), (31, .goto (-26), 3), (34, .iload_n 3, 1), (35, .ireturn, 1)])
def M_gh_allBeats : Mi := (⟨"GongHouse", "allBeats", "()I"⟩, prog_1_method_39_code, 3, (Option.some FieldType.int), 0, 0, [(0, .iconst 0, 1), (1, .istore_n 1, 1), (2, .iconst 0, 1), (3, .istore_n 2, 1), (4, .iload_n 2, 1), (5, .iconst 4, 1), (6, .if_icmp .ge 21, 3), (9, .iload_n 1, 1), (10, .aload_n 0, 1), (11, .getfield 25, 3), (14, .iload_n 2, 1), (15, .aaload, 1), (16, .getfield 270, 3), (19, .iadd, 1), (20, .istore_n 1, 1), (21, .iinc 2 1, 3), (24, .goto (-20), 3), (27, .iload_n 1, 1), (28, .ireturn, 1)])
def M_gh_allGongs : Mi := (⟨"GongHouse", "allGongs", "()I"⟩, prog_1_method_40_code, 3, (Option.some FieldType.int), 2, 43, [(0, .iconst 0, 1), (1, .istore_n 1, 1), (2, .iconst 0, 1), (3, .istore_n 2, 1), (4, .iload_n 2, 1), (5, .iconst 4, 1), (6, .if_icmp .ge 21, 3), (9, .iload_n 1, 1), (10, .aload_n 0, 1), (11, .getfield 25, 3), (14, .iload_n 2, 1), (15, .aaload, 1), (16, .invokevirtual 216, 3), (19, .iadd, 1), (20, .istore_n 1, 1), (21, .iinc 2 1, 3), (24, .goto (-20), 3), (27, .iload_n 1, 1), (28, .ireturn, 1)])
def M_gh_allRight : Mi := (⟨"GongHouse", "allRight", "()I"⟩, prog_1_method_41_code, 3, (Option.some FieldType.int), 3, 65, [(0, .iconst 0, 1), (1, .istore_n 1, 1), (2, .iconst 0, 1), (3, .istore_n 2, 1), (4, .iload_n 2, 1), (5, .iconst 4, 1), (6, .if_icmp .ge 21, 3), (9, .iload_n 1, 1), (10, .aload_n 0, 1), (11, .getfield 31, 3), (14, .iload_n 2, 1), (15, .aaload, 1), (16, .invokevirtual 282, 3), (19, .iadd, 1), (20, .istore_n 1, 1), (21, .iinc 2 1, 3), (24, .goto (-20), 3), (27, .iload_n 1, 1), (28, .ireturn, 1)])
def M_gh_countTold : Mi := (⟨"GongHouse", "countTold", "([II)I"⟩, prog_1_method_42_code, 4, (Option.some FieldType.int), 0, 0, [(0, .iconst 0, 1), (1, .istore_n 2, 1), (2, .iconst 0, 1), (3, .istore_n 3, 1), (4, .iload_n 3, 1), (5, .iload_n 1, 1), (6, .if_icmp .ge 26, 3), (9, .iload_n 3, 1), (10, .aload_n 0, 1), (11, .arraylength, 1), (12, .if_icmp .ge 20, 3), (15, .aload_n 0, 1), (16, .iload_n 3, 1), (17, .iaload, 1), (18, .ldc 84, 2), (20, .if_icmp .eq 6, 3), (23, .iinc 2 1, 3), (26, .iinc 3 1, 3), (29, .goto (-25), 3), (32, .iload_n 2, 1), (33, .ireturn, 1)])
def M_mo_init : Mi := (⟨"GongHouseModel", "<init>", "()V"⟩, prog_12_method_1_code, 2, (Option.none : Option FieldType), 1, 60, [(0, .aload_n 0, 1), (1, .invokespecial 1, 3), (4, .aload_n 0, 1), (5, .iconst 4, 1), (6, .newarray .int, 2), (8, .putfield 7, 3), (11, .aload_n 0, 1), (12, .sipush 128, 3), (15, .newarray .int, 2), (17, .putfield 13, 3), (20, .aload_n 0, 1), (21, .sipush 128, 3), (24, .newarray .int, 2), (26, .putfield 16, 3), (29, .aload_n 0, 1), (30, .sipush 768, 3), (33, .newarray .int, 2), (35, .putfield 19, 3), (38, .aload_n 0, 1), (39, .sipush 384, 3), (42, .newarray .boolean, 2), (44, .putfield 22, 3), (47, .aload_n 0, 1), (48, .bipush 12, 2), (50, .newarray .int, 2), (52, .putfield 26, 3), (55, .aload_n 0, 1), (56, .bipush 16, 2), (58, .newarray .int, 2), (60, .putfield 29, 3), (63, .aload_n 0, 1), (64, .bipush 16, 2), (66, .newarray .int, 2), (68, .putfield 32, 3), (71, .aload_n 0, 1), (72, .bipush 16, 2), (74, .newarray .int, 2), (76, .putfield 35, 3), (79, .aload_n 0, 1), (80, .sipush 144, 3), (83, .newarray .int, 2), (85, .putfield 38, 3), (88, .aload_n 0, 1), (89, .bipush 64, 2), (91, .newarray .int, 2), (93, .putfield 41, 3), (96, .aload_n 0, 1), (97, .iconst 2, 1), (98, .newarray .int, 2), (100, .putfield 44, 3), (103, .aload_n 0, 1), (104, .bipush 32, 2), (106, .newarray .int, 2), (108, .putfield 47, 3), (111, .aload_n 0, 1), (112, .bipush 32, 2), (114, .newarray .int, 2), (116, .putfield 50, 3), (119, .aload_n 0, 1), (120, .bipush 32, 2), (122, .newarray .int, 2), (124, .putfield 53, 3), (127, .aload_n 0, 1), (128, .iconst 3, 1), (129, .newarray .int, 2), (131, .putfield 56, 3), (134, .aload_n 0, 1), (135, .bipush 16, 2), (137, .newarray .int, 2), (139, .putfield 59, 3), (142, .iconst 0, 1), (143, .istore_n 1, 1), (144, .iload_n 1, 1), (145, .iconst 4, 1), (146, .if_icmp .ge 17, 3), (149, .aload_n 0, 1), (150, .getfield 7, 3), (153, .iload_n 1, 1), (154, .bipush 8, 2), (156, .iastore, 1), (157, .iinc 1 1, 3), (160, .goto (-16), 3), (163, .iconst 0, 1), (164, .istore_n 1, 1), (165, .iload_n 1, 1), (166, .sipush 128, 3), (169, .if_icmp .ge 23, 3), (172, .aload_n 0, 1), (173, .getfield 13, 3), (176, .iload_n 1, 1), (177, .iconst (-1), 1), (178, .iastore, 1), (179, .aload_n 0, 1), (180, .getfield 16, 3), (183, .iload_n 1, 1), (184, .iconst (-1), 1), (185, .iastore, 1), (186, .iinc 1 1, 3), (189, .goto (-24), 3), (192, .iconst 0, 1), (193, .istore_n 1, 1), (194, .iload_n 1, 1), (195, .sipush 768, 3), (198, .if_icmp .ge 17, 3), (201, .aload_n 0, 1), (202, .getfield 19, 3), (205, .iload_n 1, 1), (206, .bipush (-9), 2), (208, .iastore, 1), (209, .iinc 1 1, 3), (212, .goto (-18), 3), (215, .iconst 0, 1), (216, .istore_n 1, 1), (217, .iload_n 1, 1), (218, .sipush 144, 3), (221, .if_icmp .ge 16, 3), (224, .aload_n 0, 1), (225, .getfield 38, 3), (228, .iload_n 1, 1), (229, .iconst (-1), 1), (230, .iastore, 1), (231, .iinc 1 1, 3), (234, .goto (-17), 3), (237, .aload_n 0, 1), (238, .getfield 44, 3), (241, .iconst 0, 1), (242, .iconst (-1), 1), (243, .iastore, 1), (244, .aload_n 0, 1), (245, .getfield 44, 3), (248, .iconst 1, 1), (249, .iconst (-1), 1), (250, .iastore, 1), (251, .return_, 1)])
def M_mo_isIn : Mi := (⟨"GongHouseModel", "isIn", "(III)Z"⟩, prog_12_method_2_code, 3, (Option.some FieldType.boolean), 0, 0, [(0, .iload_n 0, 1), (1, .iload_n 1, 1), (2, .if_icmp .lt 12, 3), (5, .iload_n 0, 1), (6, .iload_n 2, 1), (7, .if_icmp .gt 7, 3), (10, .iconst 1, 1), (11, .goto 4, 3), (14, .iconst 0, 1), (15, .ireturn, 1)])
def M_mo_isCircle : Mi := (⟨"GongHouseModel", "isCircle", "(I)Z"⟩, prog_12_method_3_code, 1, (Option.some FieldType.boolean), 1, 22, [(0, .iload_n 0, 1), (1, .iconst 0, 1), (2, .iconst 3, 1), (3, .invokestatic 62, 3), (6, .ireturn, 1)])
def M_mo_isBeat : Mi := (⟨"GongHouseModel", "isBeat", "(II)Z"⟩, prog_12_method_4_code, 3, (Option.some FieldType.boolean), 2, 42, [(0, .iload_n 1, 1), (1, .invokestatic 66, 3), (4, .ifCond .eq 23, 3), (7, .iload_n 2, 1), (8, .iconst 0, 1), (9, .aload_n 0, 1), (10, .getfield 7, 3), (13, .iload_n 1, 1), (14, .iaload, 1), (15, .iconst 1, 1), (16, .isub, 1), (17, .invokestatic 62, 3), (20, .ifCond .eq 7, 3), (23, .iconst 1, 1), (24, .goto 4, 3), (27, .iconst 0, 1), (28, .ireturn, 1)])
def M_mo_four : Mi := (⟨"GongHouseModel", "four", "(I)V"⟩, prog_12_method_5_code, 3, (Option.none : Option FieldType), 0, 0, [(0, .bipush 24, 2), (2, .istore_n 2, 1), (3, .iload_n 2, 1), (4, .ifCond .lt 35, 3), (7, .aload_n 0, 1), (8, .getfield 41, 3), (11, .aload_n 0, 1), (12, .getfield 70, 3), (15, .iload_n 1, 1), (16, .iload_n 2, 1), (17, .ishr, 1), (18, .sipush 255, 3), (21, .iand, 1), (22, .iastore, 1), (23, .aload_n 0, 1), (24, .dup, 1), (25, .getfield 70, 3), (28, .iconst 1, 1), (29, .iadd, 1), (30, .putfield 70, 3), (33, .iinc 2 (-8), 3), (36, .goto (-33), 3), (39, .return_, 1)])
def M_mo_feed : Mi := (⟨"GongHouseModel", "feed", "(III)I"⟩, prog_12_method_6_code, 4, (Option.some FieldType.int), 1, 22, [(0, .aload_n 0, 1), (1, .getfield 70, 3), (4, .bipush 12, 2), (6, .iadd, 1), (7, .bipush 64, 2), (9, .if_icmp .le 6, 3), (12, .ldc 74, 2), (14, .ireturn, 1), (15, .aload_n 0, 1), (16, .iload_n 1, 1), (17, .invokevirtual 75, 3), (20, .aload_n 0, 1), (21, .iload_n 2, 1), (22, .invokevirtual 75, 3), (25, .aload_n 0, 1), (26, .iload_n 3, 1), (27, .invokevirtual 75, 3), (30, .aload_n 0, 1), (31, .getfield 70, 3), (34, .ireturn, 1)])
def M_mo_trim : Mi := (⟨"GongHouseModel", "trim", "(I)I"⟩, prog_12_method_7_code, 2, (Option.some FieldType.int), 1, 22, [(0, .iload_n 1, 1), (1, .iconst 0, 1), (2, .aload_n 0, 1), (3, .getfield 70, 3), (6, .invokestatic 62, 3), (9, .ifCond .ne 6, 3), (12, .ldc 79, 2), (14, .ireturn, 1), (15, .aload_n 0, 1), (16, .iload_n 1, 1), (17, .putfield 70, 3), (20, .iload_n 1, 1), (21, .ireturn, 1)])
def M_mo_here : Mi := (⟨"GongHouseModel", "here", "()I"⟩, prog_12_method_8_code, 1, (Option.some FieldType.int), 0, 0, [(0, .aload_n 0, 1), (1, .getfield 80, 3), (4, .aload_n 0, 1), (5, .getfield 70, 3), (8, .if_icmp .ge 15, 3), (11, .aload_n 0, 1), (12, .getfield 41, 3), (15, .aload_n 0, 1), (16, .getfield 80, 3), (19, .iaload, 1), (20, .goto 4, 3), (23, .iconst (-1), 1), (24, .ireturn, 1)])
def M_mo_isBeatHere : Mi := (⟨"GongHouseModel", "isBeatHere", "()Z"⟩, prog_12_method_9_code, 1, (Option.some FieldType.boolean), 1, 22, [(0, .aload_n 0, 1), (1, .invokevirtual 83, 3), (4, .bipush 46, 2), (6, .if_icmp .eq 17, 3), (9, .aload_n 0, 1), (10, .invokevirtual 83, 3), (13, .bipush 49, 2), (15, .bipush 55, 2), (17, .invokestatic 62, 3), (20, .ifCond .eq 7, 3), (23, .iconst 1, 1), (24, .goto 4, 3), (27, .iconst 0, 1), (28, .ireturn, 1)])
def M_mo_gongOf : Mi := (⟨"GongHouseModel", "gongOf", "(I)I"⟩, prog_12_method_10_code, 1, (Option.some FieldType.int), 0, 0, [(0, .iload_n 0, 1), (1, .bipush 103, 2), (3, .if_icmp .ne 7, 3), (6, .iconst 0, 1), (7, .goto 34, 3), (10, .iload_n 0, 1), (11, .bipush 71, 2), (13, .if_icmp .ne 7, 3), (16, .iconst 1, 1), (17, .goto 24, 3), (20, .iload_n 0, 1), (21, .bipush 72, 2), (23, .if_icmp .ne 7, 3), (26, .iconst 2, 1), (27, .goto 14, 3), (30, .iload_n 0, 1), (31, .bipush 76, 2), (33, .if_icmp .ne 7, 3), (36, .iconst 3, 1), (37, .goto 4, 3), (40, .iconst (-1), 1), (41, .ireturn, 1)])
def M_mo_write : Mi := (⟨"GongHouseModel", "write", "(II)V"⟩, prog_12_method_11_code, 3, (Option.none : Option FieldType), 0, 0, [(0, .aload_n 0, 1), (1, .getfield 87, 3), (4, .bipush 32, 2), (6, .if_icmp .ge 23, 3), (9, .aload_n 0, 1), (10, .getfield 50, 3), (13, .aload_n 0, 1), (14, .getfield 87, 3), (17, .iload_n 1, 1), (18, .iastore, 1), (19, .aload_n 0, 1), (20, .getfield 53, 3), (23, .aload_n 0, 1), (24, .getfield 87, 3), (27, .iload_n 2, 1), (28, .iastore, 1), (29, .aload_n 0, 1), (30, .dup, 1), (31, .getfield 87, 3), (34, .iconst 1, 1), (35, .iadd, 1), (36, .putfield 87, 3), (39, .return_, 1)])
def M_mo_readBeat : Mi := (⟨"GongHouseModel", "readBeat", "()V"⟩, prog_12_method_12_code, 3, (Option.none : Option FieldType), 1, 22, [(0, .aload_n 0, 1), (1, .invokevirtual 83, 3), (4, .bipush 46, 2), (6, .if_icmp .ne 7, 3), (9, .iconst (-1), 1), (10, .goto 10, 3), (13, .aload_n 0, 1), (14, .invokevirtual 83, 3), (17, .bipush 49, 2), (19, .isub, 1), (20, .istore_n 1, 1), (21, .aload_n 0, 1), (22, .dup, 1), (23, .getfield 80, 3), (26, .iconst 1, 1), (27, .iadd, 1), (28, .putfield 80, 3), (31, .aload_n 0, 1), (32, .invokevirtual 83, 3), (35, .invokestatic 90, 3), (38, .istore_n 2, 1), (39, .aload_n 0, 1), (40, .dup, 1), (41, .getfield 80, 3), (44, .iload_n 2, 1), (45, .ifCond .ge 7, 3), (48, .iconst 0, 1), (49, .goto 4, 3), (52, .iconst 1, 1), (53, .iadd, 1), (54, .putfield 80, 3), (57, .aload_n 0, 1), (58, .iload_n 1, 1), (59, .iload_n 2, 1), (60, .invokevirtual 94, 3), (63, .return_, 1)])
def M_mo_readAgain : Mi := (⟨"GongHouseModel", "readAgain", "()Z"⟩, prog_12_method_13_code, 5, (Option.some FieldType.boolean), 2, 44, [(0, .aload_n 0, 1), (1, .dup, 1), (2, .getfield 80, 3), (5, .iconst 1, 1), (6, .iadd, 1), (7, .putfield 80, 3), (10, .aload_n 0, 1), (11, .getfield 87, 3), (14, .istore_n 1, 1), (15, .aload_n 0, 1), (16, .invokevirtual 98, 3), (19, .ifCond .ne 5, 3), (22, .iconst 0, 1), (23, .ireturn, 1), (24, .aload_n 0, 1), (25, .invokevirtual 98, 3), (28, .ifCond .eq 10, 3), (31, .aload_n 0, 1), (32, .invokevirtual 102, 3), (35, .goto (-11), 3), (38, .aload_n 0, 1), (39, .invokevirtual 83, 3), (42, .bipush 93, 2), (44, .if_icmp .eq 5, 3), (47, .iconst 0, 1), (48, .ireturn, 1), (49, .aload_n 0, 1), (50, .dup, 1), (51, .getfield 80, 3), (54, .iconst 1, 1), (55, .iadd, 1), (56, .putfield 80, 3), (59, .aload_n 0, 1), (60, .invokevirtual 83, 3), (63, .bipush 50, 2), (65, .bipush 57, 2), (67, .invokestatic 62, 3), (70, .ifCond .ne 5, 3), (73, .iconst 0, 1), (74, .ireturn, 1), (75, .aload_n 0, 1), (76, .getfield 87, 3), (79, .iload_n 1, 1), (80, .isub, 1), (81, .istore_n 2, 1), (82, .iconst 0, 1), (83, .istore_n 3, 1), (84, .iload_n 3, 1), (85, .iload_n 2, 1), (86, .aload_n 0, 1), (87, .invokevirtual 83, 3), (90, .bipush 49, 2), (92, .isub, 1), (93, .imul, 1), (94, .if_icmp .ge 56, 3), (97, .iload_n 1, 1), (98, .iload_n 3, 1), (99, .iload_n 2, 1), (100, .irem, 1), (101, .iadd, 1), (102, .istore 4, 2), (104, .aload_n 0, 1), (105, .iload 4, 2), (107, .bipush 32, 2), (109, .if_icmp .ge 13, 3), (112, .aload_n 0, 1), (113, .getfield 50, 3), (116, .iload 4, 2), (118, .iaload, 1), (119, .goto 4, 3), (122, .iconst (-1), 1), (123, .iload 4, 2), (125, .bipush 32, 2), (127, .if_icmp .ge 13, 3), (130, .aload_n 0, 1), (131, .getfield 53, 3), (134, .iload 4, 2), (136, .iaload, 1), (137, .goto 4, 3), (140, .iconst (-1), 1), (141, .invokevirtual 94, 3), (144, .iinc 3 1, 3), (147, .goto (-63), 3), (150, .aload_n 0, 1), (151, .dup, 1), (152, .getfield 80, 3), (155, .iconst 1, 1), (156, .iadd, 1), (157, .putfield 80, 3), (160, .iconst 1, 1), (161, .ireturn, 1)])
def M_mo_readTune : Mi := (⟨"GongHouseModel", "readTune", "()Z"⟩, prog_12_method_14_code, 2, (Option.some FieldType.boolean), 3, 68, [(0, .aload_n 0, 1), (1, .iconst 0, 1), (2, .putfield 80, 3), (5, .aload_n 0, 1), (6, .iconst 0, 1), (7, .putfield 87, 3), (10, .iconst 1, 1), (11, .istore_n 1, 1), (12, .iload_n 1, 1), (13, .ifCond .eq 60, 3), (16, .aload_n 0, 1), (17, .getfield 87, 3), (20, .ifCond .eq 14, 3), (23, .aload_n 0, 1), (24, .getfield 80, 3), (27, .aload_n 0, 1), (28, .getfield 70, 3), (31, .if_icmp .ge 42, 3), (34, .aload_n 0, 1), (35, .invokevirtual 98, 3), (38, .ifCond .eq 10, 3), (41, .aload_n 0, 1), (42, .invokevirtual 102, 3), (45, .goto (-33), 3), (48, .aload_n 0, 1), (49, .invokevirtual 83, 3), (52, .bipush 91, 2), (54, .if_icmp .ne 14, 3), (57, .aload_n 0, 1), (58, .invokevirtual 105, 3), (61, .ifCond .eq 7, 3), (64, .iconst 1, 1), (65, .goto 4, 3), (68, .iconst 0, 1), (69, .istore_n 1, 1), (70, .goto (-58), 3), (73, .iload_n 1, 1), (74, .ireturn, 1)])
def M_mo_tune : Mi := (⟨"GongHouseModel", "tune", "(I)I"⟩, prog_12_method_15_code, 5, (Option.some FieldType.int), 4, 89, [(0, .aload_n 0, 1), (1, .invokevirtual 108, 3), (4, .istore_n 2, 1), (5, .aload_n 0, 1), (6, .getfield 80, 3), (9, .istore_n 3, 1), (10, .aload_n 0, 1), (11, .iconst 0, 1), (12, .putfield 70, 3), (15, .iload_n 1, 1), (16, .invokestatic 66, 3), (19, .ifCond .ne 6, 3), (22, .ldc 79, 2), (24, .ireturn, 1), (25, .iload_n 2, 1), (26, .ifCond .ne 8, 3), (29, .bipush (-100), 2), (31, .iload_n 3, 1), (32, .isub, 1), (33, .ireturn, 1), (34, .aload_n 0, 1), (35, .getfield 87, 3), (38, .iconst 2, 1), (39, .bipush 32, 2), (41, .invokestatic 62, 3), (44, .ifCond .ne 6, 3), (47, .ldc 111, 2), (49, .ireturn, 1), (50, .aload_n 0, 1), (51, .getfield 7, 3), (54, .iload_n 1, 1), (55, .aload_n 0, 1), (56, .getfield 87, 3), (59, .iastore, 1), (60, .iconst 0, 1), (61, .istore 4, 2), (63, .iload 4, 2), (65, .aload_n 0, 1), (66, .getfield 87, 3), (69, .if_icmp .ge 47, 3), (72, .aload_n 0, 1), (73, .getfield 13, 3), (76, .bipush 32, 2), (78, .iload_n 1, 1), (79, .imul, 1), (80, .iload 4, 2), (82, .iadd, 1), (83, .aload_n 0, 1), (84, .getfield 50, 3), (87, .iload 4, 2), (89, .iaload, 1), (90, .iastore, 1), (91, .aload_n 0, 1), (92, .getfield 16, 3), (95, .bipush 32, 2), (97, .iload_n 1, 1), (98, .imul, 1), (99, .iload 4, 2), (101, .iadd, 1), (102, .aload_n 0, 1), (103, .getfield 53, 3), (106, .iload 4, 2), (108, .iaload, 1), (109, .iastore, 1), (110, .iinc 4 1, 3), (113, .goto (-50), 3), (116, .aload_n 0, 1), (117, .getfield 87, 3), (120, .ireturn, 1)])
def M_mo_tone : Mi := (⟨"GongHouseModel", "tone", "(II)I"⟩, prog_12_method_16_code, 6, (Option.some FieldType.int), 0, 0, [(0, .aload_n 0, 1), (1, .getfield 7, 3), (4, .iload_n 1, 1), (5, .iaload, 1), (6, .istore_n 3, 1), (7, .iconst 0, 1), (8, .istore 4, 2), (10, .iload 4, 2), (12, .iload_n 3, 1), (13, .if_icmp .ge 37, 3), (16, .aload_n 0, 1), (17, .getfield 13, 3), (20, .bipush 32, 2), (22, .iload_n 1, 1), (23, .imul, 1), (24, .iload_n 2, 1), (25, .iload 4, 2), (27, .isub, 1), (28, .iload_n 3, 1), (29, .iadd, 1), (30, .iload_n 3, 1), (31, .irem, 1), (32, .iadd, 1), (33, .iaload, 1), (34, .istore 5, 2), (36, .iload 5, 2), (38, .ifCond .lt 6, 3), (41, .iload 5, 2), (43, .ireturn, 1), (44, .iinc 4 1, 3), (47, .goto (-37), 3), (50, .iconst 0, 1), (51, .ireturn, 1)])
def M_mo_orNone : Mi := (⟨"GongHouseModel", "orNone", "(I)I"⟩, prog_12_method_17_code, 1, (Option.some FieldType.int), 0, 0, [(0, .iload_n 0, 1), (1, .ifCond .ge 8, 3), (4, .ldc 112, 2), (6, .goto 4, 3), (9, .iload_n 0, 1), (10, .ireturn, 1)])
def M_mo_told : Mi := (⟨"GongHouseModel", "told", "(III)I"⟩, prog_12_method_18_code, 5, (Option.some FieldType.int), 3, 64, [(0, .aload_n 0, 1), (1, .iload_n 1, 1), (2, .iload_n 2, 1), (3, .invokevirtual 113, 3), (6, .ifCond .eq 12, 3), (9, .iload_n 3, 1), (10, .iconst 0, 1), (11, .iconst 2, 1), (12, .invokestatic 62, 3), (15, .ifCond .ne 6, 3), (18, .ldc 79, 2), (20, .ireturn, 1), (21, .bipush 32, 2), (23, .iload_n 1, 1), (24, .imul, 1), (25, .iload_n 2, 1), (26, .iadd, 1), (27, .istore 4, 2), (29, .iload_n 3, 1), (30, .ifCond .ne 16, 3), (33, .aload_n 0, 1), (34, .getfield 13, 3), (37, .iload 4, 2), (39, .iaload, 1), (40, .invokestatic 117, 3), (43, .goto 27, 3), (46, .iload_n 3, 1), (47, .iconst 1, 1), (48, .if_icmp .ne 12, 3), (51, .aload_n 0, 1), (52, .iload_n 1, 1), (53, .iload_n 2, 1), (54, .invokevirtual 120, 3), (57, .goto 13, 3), (60, .aload_n 0, 1), (61, .getfield 16, 3), (64, .iload 4, 2), (66, .iaload, 1), (67, .invokestatic 117, 3), (70, .ireturn, 1)])
def M_mo_isOf : Mi := (⟨"GongHouseModel", "isOf", "(III)I"⟩, prog_12_method_19_code, 5, (Option.some FieldType.int), 3, 64, [(0, .aload_n 0, 1), (1, .iload_n 1, 1), (2, .iload_n 2, 1), (3, .invokevirtual 113, 3), (6, .ifCond .eq 12, 3), (9, .iload_n 3, 1), (10, .iconst 0, 1), (11, .iconst 3, 1), (12, .invokestatic 62, 3), (15, .ifCond .ne 6, 3), (18, .ldc 79, 2), (20, .ireturn, 1), (21, .aload_n 0, 1), (22, .getfield 16, 3), (25, .bipush 32, 2), (27, .iload_n 1, 1), (28, .imul, 1), (29, .iload_n 2, 1), (30, .iadd, 1), (31, .iaload, 1), (32, .istore 4, 2), (34, .iload 4, 2), (36, .ifCond .ge 6, 3), (39, .ldc 111, 2), (41, .ireturn, 1), (42, .iload_n 3, 1), (43, .ifCond .eq 20, 3), (46, .iload 4, 2), (48, .iload_n 3, 1), (49, .if_icmp .eq 14, 3), (52, .iload_n 3, 1), (53, .iconst 2, 1), (54, .if_icmp .ne 13, 3), (57, .iload 4, 2), (59, .iconst 3, 1), (60, .if_icmp .ne 7, 3), (63, .iconst 1, 1), (64, .goto 4, 3), (67, .iconst 0, 1), (68, .ireturn, 1)])
def M_mo_stepsOf : Mi := (⟨"GongHouseModel", "stepsOf", "(I)I"⟩, prog_12_method_20_code, 1, (Option.some FieldType.int), 0, 0, [(0, .iconst 2, 1), (1, .iload_n 0, 1), (2, .ishl, 1), (3, .ireturn, 1)])
def M_mo_isFigure : Mi := (⟨"GongHouseModel", "isFigure", "(II)Z"⟩, prog_12_method_21_code, 2, (Option.some FieldType.boolean), 1, 22, [(0, .iload_n 0, 1), (1, .iconst 0, 1), (2, .iconst 3, 1), (3, .invokestatic 62, 3), (6, .ifCond .eq 16, 3), (9, .iload_n 1, 1), (10, .iconst 0, 1), (11, .iconst 5, 1), (12, .invokestatic 62, 3), (15, .ifCond .eq 7, 3), (18, .iconst 1, 1), (19, .goto 4, 3), (22, .iconst 0, 1), (23, .ireturn, 1)])
def M_mo_placeOf : Mi := (⟨"GongHouseModel", "placeOf", "(IIII)I"⟩, prog_12_method_22_code, 4, (Option.some FieldType.int), 0, 0, [(0, .bipush 16, 2), (2, .iconst 2, 1), (3, .bipush 6, 2), (5, .iload_n 0, 1), (6, .imul, 1), (7, .iload_n 1, 1), (8, .iadd, 1), (9, .imul, 1), (10, .iload_n 2, 1), (11, .iadd, 1), (12, .imul, 1), (13, .iload_n 3, 1), (14, .iadd, 1), (15, .ireturn, 1)])
def M_mo_strike : Mi := (⟨"GongHouseModel", "strike", "(IIIII)I"⟩, prog_12_method_23_code, 9, (Option.some FieldType.int), 2, 43, [(0, .iload_n 1, 1), (1, .iload_n 2, 1), (2, .invokestatic 124, 3), (5, .ifCond .eq 31, 3), (8, .iload_n 3, 1), (9, .iconst 0, 1), (10, .iconst 1, 1), (11, .invokestatic 62, 3), (14, .ifCond .eq 22, 3), (17, .iload 4, 2), (19, .iconst 0, 1), (20, .iload_n 1, 1), (21, .invokestatic 127, 3), (24, .iconst 1, 1), (25, .isub, 1), (26, .invokestatic 62, 3), (29, .ifCond .eq 7, 3), (32, .iconst 1, 1), (33, .goto 4, 3), (36, .iconst 0, 1), (37, .istore 6, 2), (39, .iload 6, 2), (41, .ifCond .eq 21, 3), (44, .iload 5, 2), (46, .ldc 112, 2), (48, .if_icmp .eq 17, 3), (51, .iload 5, 2), (53, .bipush (-4), 2), (55, .iconst 4, 1), (56, .invokestatic 62, 3), (59, .ifCond .ne 6, 3), (62, .ldc 79, 2), (64, .ireturn, 1), (65, .iload_n 1, 1), (66, .iload_n 2, 1), (67, .iload_n 3, 1), (68, .iload 4, 2), (70, .invokestatic 130, 3), (73, .istore 7, 2), (75, .aload_n 0, 1), (76, .getfield 19, 3), (79, .iload 7, 2), (81, .iaload, 1), (82, .istore 8, 2), (84, .aload_n 0, 1), (85, .getfield 19, 3), (88, .iload 7, 2), (90, .iload 5, 2), (92, .ldc 112, 2), (94, .if_icmp .ne 8, 3), (97, .bipush (-9), 2), (99, .goto 5, 3), (102, .iload 5, 2), (104, .iastore, 1), (105, .iload 8, 2), (107, .bipush (-9), 2), (109, .if_icmp .ne 8, 3), (112, .ldc 112, 2), (114, .goto 5, 3), (117, .iload 8, 2), (119, .ireturn, 1)])
def M_mo_isSheet : Mi := (⟨"GongHouseModel", "isSheet", "(I)Z"⟩, prog_12_method_24_code, 1, (Option.some FieldType.boolean), 1, 22, [(0, .iload_n 0, 1), (1, .iconst 0, 1), (2, .iconst 1, 1), (3, .invokestatic 62, 3), (6, .ireturn, 1)])
def M_mo_lay : Mi := (⟨"GongHouseModel", "lay", "(IIII)I"⟩, prog_12_method_25_code, 8, (Option.some FieldType.int), 2, 43, [(0, .iload_n 1, 1), (1, .iload_n 2, 1), (2, .invokestatic 124, 3), (5, .ifCond .eq 20, 3), (8, .iload_n 3, 1), (9, .iconst 0, 1), (10, .iconst 1, 1), (11, .invokestatic 62, 3), (14, .ifCond .eq 11, 3), (17, .iload 4, 2), (19, .invokestatic 134, 3), (22, .ifCond .ne 6, 3), (25, .ldc 79, 2), (27, .ireturn, 1), (28, .aload_n 0, 1), (29, .getfield 44, 3), (32, .iload 4, 2), (34, .iaload, 1), (35, .ifCond .ge 6, 3), (38, .ldc 137, 2), (40, .ireturn, 1), (41, .aload_n 0, 1), (42, .getfield 44, 3), (45, .iload 4, 2), (47, .iaload, 1), (48, .iload_n 1, 1), (49, .invokestatic 127, 3), (52, .if_icmp .le 6, 3), (55, .ldc 138, 2), (57, .ireturn, 1), (58, .iconst 0, 1), (59, .istore 5, 2), (61, .iconst 0, 1), (62, .istore 6, 2), (64, .iload 6, 2), (66, .iload_n 1, 1), (67, .invokestatic 127, 3), (70, .if_icmp .ge 93, 3), (73, .iload 6, 2), (75, .aload_n 0, 1), (76, .getfield 44, 3), (79, .iload 4, 2), (81, .iaload, 1), (82, .if_icmp .ge 19, 3), (85, .aload_n 0, 1), (86, .getfield 47, 3), (89, .bipush 16, 2), (91, .iload 4, 2), (93, .imul, 1), (94, .iload 6, 2), (96, .iadd, 1), (97, .iaload, 1), (98, .goto 5, 3), (101, .bipush (-9), 2), (103, .istore 7, 2), (105, .iload 7, 2), (107, .bipush (-4), 2), (109, .iconst 4, 1), (110, .invokestatic 62, 3), (113, .ifCond .eq 8, 3), (116, .iload 7, 2), (118, .goto 5, 3), (121, .bipush (-9), 2), (123, .istore 7, 2), (125, .aload_n 0, 1), (126, .getfield 19, 3), (129, .iload_n 1, 1), (130, .iload_n 2, 1), (131, .iload_n 3, 1), (132, .iload 6, 2), (134, .invokestatic 130, 3), (137, .iload 7, 2), (139, .iastore, 1), (140, .iload 5, 2), (142, .iload 7, 2), (144, .bipush (-9), 2), (146, .if_icmp .ne 7, 3), (149, .iconst 0, 1), (150, .goto 4, 3), (153, .iconst 1, 1), (154, .iadd, 1), (155, .istore 5, 2), (157, .iinc 6 1, 3), (160, .goto (-96), 3), (163, .iload 5, 2), (165, .ireturn, 1)])
def M_mo_together : Mi := (⟨"GongHouseModel", "together", "(IIII)I"⟩, prog_12_method_26_code, 7, (Option.some FieldType.int), 2, 43, [(0, .iload_n 1, 1), (1, .iload_n 2, 1), (2, .invokestatic 124, 3), (5, .ifCond .eq 27, 3), (8, .iload_n 3, 1), (9, .iconst 0, 1), (10, .iload_n 1, 1), (11, .invokestatic 127, 3), (14, .iconst 1, 1), (15, .isub, 1), (16, .invokestatic 62, 3), (19, .ifCond .eq 13, 3), (22, .iload 4, 2), (24, .iconst 0, 1), (25, .iconst 1, 1), (26, .invokestatic 62, 3), (29, .ifCond .ne 6, 3), (32, .ldc 79, 2), (34, .ireturn, 1), (35, .bipush 16, 2), (37, .bipush 6, 2), (39, .iload_n 1, 1), (40, .imul, 1), (41, .iload_n 2, 1), (42, .iadd, 1), (43, .imul, 1), (44, .iload_n 3, 1), (45, .iadd, 1), (46, .istore 5, 2), (48, .aload_n 0, 1), (49, .getfield 22, 3), (52, .iload 5, 2), (54, .baload, 1), (55, .ifCond .eq 7, 3), (58, .iconst 1, 1), (59, .goto 4, 3), (62, .iconst 0, 1), (63, .istore 6, 2), (65, .aload_n 0, 1), (66, .getfield 22, 3), (69, .iload 5, 2), (71, .iload 4, 2), (73, .iconst 1, 1), (74, .if_icmp .ne 7, 3), (77, .iconst 1, 1), (78, .goto 4, 3), (81, .iconst 0, 1), (82, .bastore, 1), (83, .iload 6, 2), (85, .ireturn, 1)])
def M_mo_doesStrike : Mi := (⟨"GongHouseModel", "doesStrike", "(IIII)Z"⟩, prog_12_method_27_code, 5, (Option.some FieldType.boolean), 1, 23, [(0, .aload_n 0, 1), (1, .getfield 19, 3), (4, .iload_n 1, 1), (5, .iload_n 2, 1), (6, .iload_n 3, 1), (7, .iload 4, 2), (9, .invokestatic 130, 3), (12, .iaload, 1), (13, .bipush (-9), 2), (15, .if_icmp .eq 7, 3), (18, .iconst 1, 1), (19, .goto 4, 3), (22, .iconst 0, 1), (23, .ireturn, 1)])
def M_mo_wrongStep : Mi := (⟨"GongHouseModel", "wrongStep", "(II)I"⟩, prog_12_method_28_code, 6, (Option.some FieldType.int), 2, 47, [(0, .iconst 0, 1), (1, .istore_n 3, 1), (2, .iload_n 3, 1), (3, .iload_n 1, 1), (4, .invokestatic 127, 3), (7, .if_icmp .ge 70, 3), (10, .aload_n 0, 1), (11, .iload_n 1, 1), (12, .iload_n 2, 1), (13, .iconst 0, 1), (14, .iload_n 3, 1), (15, .invokevirtual 139, 3), (18, .istore 4, 2), (20, .aload_n 0, 1), (21, .iload_n 1, 1), (22, .iload_n 2, 1), (23, .iconst 1, 1), (24, .iload_n 3, 1), (25, .invokevirtual 139, 3), (28, .istore 5, 2), (30, .iload 4, 2), (32, .ifCond .ne 8, 3), (35, .iload 5, 2), (37, .ifCond .eq 32, 3), (40, .iload 4, 2), (42, .ifCond .eq 29, 3), (45, .iload 5, 2), (47, .ifCond .eq 24, 3), (50, .aload_n 0, 1), (51, .getfield 22, 3), (54, .bipush 16, 2), (56, .bipush 6, 2), (58, .iload_n 1, 1), (59, .imul, 1), (60, .iload_n 2, 1), (61, .iadd, 1), (62, .imul, 1), (63, .iload_n 3, 1), (64, .iadd, 1), (65, .baload, 1), (66, .ifCond .ne 5, 3), (69, .iload_n 3, 1), (70, .ireturn, 1), (71, .iinc 3 1, 3), (74, .goto (-72), 3), (77, .iconst (-1), 1), (78, .ireturn, 1)])
def M_mo_wrong : Mi := (⟨"GongHouseModel", "wrong", "(II)I"⟩, prog_12_method_29_code, 3, (Option.some FieldType.int), 3, 72, [(0, .iload_n 1, 1), (1, .iload_n 2, 1), (2, .invokestatic 124, 3), (5, .ifCond .eq 15, 3), (8, .aload_n 0, 1), (9, .iload_n 1, 1), (10, .iload_n 2, 1), (11, .invokevirtual 143, 3), (14, .invokestatic 117, 3), (17, .goto 5, 3), (20, .ldc 79, 2), (22, .ireturn, 1)])
def M_mo_use : Mi := (⟨"GongHouseModel", "use", "(III)I"⟩, prog_12_method_30_code, 5, (Option.some FieldType.int), 2, 43, [(0, .iload_n 1, 1), (1, .iload_n 3, 1), (2, .invokestatic 124, 3), (5, .ifCond .eq 12, 3), (8, .iload_n 2, 1), (9, .iconst 0, 1), (10, .iconst 2, 1), (11, .invokestatic 62, 3), (14, .ifCond .ne 6, 3), (17, .ldc 79, 2), (19, .ireturn, 1), (20, .aload_n 0, 1), (21, .getfield 26, 3), (24, .iconst 3, 1), (25, .iload_n 1, 1), (26, .imul, 1), (27, .iload_n 2, 1), (28, .iadd, 1), (29, .iaload, 1), (30, .istore 4, 2), (32, .aload_n 0, 1), (33, .getfield 26, 3), (36, .iconst 3, 1), (37, .iload_n 1, 1), (38, .imul, 1), (39, .iload_n 2, 1), (40, .iadd, 1), (41, .iload_n 3, 1), (42, .iastore, 1), (43, .iload 4, 2), (45, .ireturn, 1)])
def M_mo_part : Mi := (⟨"GongHouseModel", "part", "(III)I"⟩, prog_12_method_31_code, 4, (Option.some FieldType.int), 2, 42, [(0, .iload_n 1, 1), (1, .invokestatic 66, 3), (4, .ifCond .eq 28, 3), (7, .iload_n 2, 1), (8, .iconst 1, 1), (9, .bipush 9, 2), (11, .invokestatic 62, 3), (14, .ifCond .eq 18, 3), (17, .iload_n 3, 1), (18, .ldc 112, 2), (20, .if_icmp .eq 15, 3), (23, .iload_n 3, 1), (24, .iconst 0, 1), (25, .iconst 3, 1), (26, .invokestatic 62, 3), (29, .ifCond .ne 6, 3), (32, .ldc 79, 2), (34, .ireturn, 1), (35, .aload_n 0, 1), (36, .getfield 146, 3), (39, .bipush 16, 2), (41, .if_icmp .ne 6, 3), (44, .ldc 74, 2), (46, .ireturn, 1), (47, .aload_n 0, 1), (48, .getfield 29, 3), (51, .aload_n 0, 1), (52, .getfield 146, 3), (55, .iload_n 1, 1), (56, .iastore, 1), (57, .aload_n 0, 1), (58, .getfield 32, 3), (61, .aload_n 0, 1), (62, .getfield 146, 3), (65, .iload_n 2, 1), (66, .iastore, 1), (67, .aload_n 0, 1), (68, .getfield 35, 3), (71, .aload_n 0, 1), (72, .getfield 146, 3), (75, .iload_n 3, 1), (76, .ldc 112, 2), (78, .if_icmp .ne 7, 3), (81, .iconst (-1), 1), (82, .goto 4, 3), (85, .iload_n 3, 1), (86, .iastore, 1), (87, .aload_n 0, 1), (88, .dup, 1), (89, .getfield 146, 3), (92, .iconst 1, 1), (93, .iadd, 1), (94, .putfield 146, 3), (97, .aload_n 0, 1), (98, .getfield 146, 3), (101, .ireturn, 1)])
def M_mo_signalMany : Mi := (⟨"GongHouseModel", "signalMany", "()I"⟩, prog_12_method_32_code, 3, (Option.some FieldType.int), 0, 0, [(0, .iconst 0, 1), (1, .istore_n 1, 1), (2, .iconst 0, 1), (3, .istore_n 2, 1), (4, .iload_n 2, 1), (5, .sipush 144, 3), (8, .if_icmp .ge 26, 3), (11, .iload_n 1, 1), (12, .aload_n 0, 1), (13, .getfield 38, 3), (16, .iload_n 2, 1), (17, .iaload, 1), (18, .ifCond .ge 7, 3), (21, .iconst 0, 1), (22, .goto 4, 3), (25, .iconst 1, 1), (26, .iadd, 1), (27, .istore_n 1, 1), (28, .iinc 2 1, 3), (31, .goto (-27), 3), (34, .iload_n 1, 1), (35, .ireturn, 1)])
def M_mo_signal : Mi := (⟨"GongHouseModel", "signal", "(II)I"⟩, prog_12_method_33_code, 4, (Option.some FieldType.int), 1, 22, [(0, .iload_n 1, 1), (1, .iconst 0, 1), (2, .sipush 143, 3), (5, .invokestatic 62, 3), (8, .ifCond .eq 18, 3), (11, .iload_n 2, 1), (12, .ldc 112, 2), (14, .if_icmp .eq 15, 3), (17, .iload_n 2, 1), (18, .iconst 0, 1), (19, .iconst 3, 1), (20, .invokestatic 62, 3), (23, .ifCond .ne 6, 3), (26, .ldc 79, 2), (28, .ireturn, 1), (29, .aload_n 0, 1), (30, .getfield 38, 3), (33, .iload_n 1, 1), (34, .iaload, 1), (35, .istore_n 3, 1), (36, .iload_n 2, 1), (37, .ldc 112, 2), (39, .if_icmp .eq 19, 3), (42, .iload_n 3, 1), (43, .ifCond .ge 15, 3), (46, .aload_n 0, 1), (47, .invokevirtual 149, 3), (50, .bipush 20, 2), (52, .if_icmp .ne 6, 3), (55, .ldc 74, 2), (57, .ireturn, 1), (58, .aload_n 0, 1), (59, .getfield 38, 3), (62, .iload_n 1, 1), (63, .iload_n 2, 1), (64, .ldc 112, 2), (66, .if_icmp .ne 7, 3), (69, .iconst (-1), 1), (70, .goto 4, 3), (73, .iload_n 2, 1), (74, .iastore, 1), (75, .iload_n 3, 1), (76, .invokestatic 117, 3), (79, .ireturn, 1)])
def M_mo_drop : Mi := (⟨"GongHouseModel", "drop", "()I"⟩, prog_12_method_34_code, 3, (Option.some FieldType.int), 0, 0, [(0, .aload_n 0, 1), (1, .getfield 146, 3), (4, .istore_n 1, 1), (5, .aload_n 0, 1), (6, .iconst 0, 1), (7, .putfield 146, 3), (10, .iconst 0, 1), (11, .istore_n 2, 1), (12, .iload_n 2, 1), (13, .sipush 144, 3), (16, .if_icmp .ge 16, 3), (19, .aload_n 0, 1), (20, .getfield 38, 3), (23, .iload_n 2, 1), (24, .iconst (-1), 1), (25, .iastore, 1), (26, .iinc 2 1, 3), (29, .goto (-17), 3), (32, .iload_n 1, 1), (33, .ireturn, 1)])
def M_mo_rounds : Mi := (⟨"GongHouseModel", "rounds", "()I"⟩, prog_12_method_35_code, 3, (Option.some FieldType.int), 0, 0, [(0, .iconst 0, 1), (1, .istore_n 1, 1), (2, .iconst 0, 1), (3, .istore_n 2, 1), (4, .iload_n 2, 1), (5, .aload_n 0, 1), (6, .getfield 146, 3), (9, .if_icmp .ge 18, 3), (12, .iload_n 1, 1), (13, .aload_n 0, 1), (14, .getfield 32, 3), (17, .iload_n 2, 1), (18, .iaload, 1), (19, .iadd, 1), (20, .istore_n 1, 1), (21, .iinc 2 1, 3), (24, .goto (-20), 3), (27, .iload_n 1, 1), (28, .ireturn, 1)])
def M_mo_isRound : Mi := (⟨"GongHouseModel", "isRound", "(I)Z"⟩, prog_12_method_36_code, 2, (Option.some FieldType.boolean), 1, 22, [(0, .iload_n 1, 1), (1, .iconst 0, 1), (2, .aload_n 0, 1), (3, .invokevirtual 152, 3), (6, .iconst 1, 1), (7, .isub, 1), (8, .invokestatic 62, 3), (11, .ireturn, 1)])
def M_mo_goTo : Mi := (⟨"GongHouseModel", "goTo", "(I)V"⟩, prog_12_method_37_code, 4, (Option.none : Option FieldType), 0, 0, [(0, .aload_n 0, 1), (1, .iconst 0, 1), (2, .putfield 155, 3), (5, .aload_n 0, 1), (6, .iconst 0, 1), (7, .putfield 158, 3), (10, .aload_n 0, 1), (11, .iconst 0, 1), (12, .putfield 161, 3), (15, .iconst 0, 1), (16, .istore_n 2, 1), (17, .iconst 0, 1), (18, .istore_n 3, 1), (19, .iload_n 3, 1), (20, .iload_n 1, 1), (21, .if_icmp .gt 128, 3), (24, .iload_n 3, 1), (25, .iload_n 2, 1), (26, .aload_n 0, 1), (27, .getfield 32, 3), (30, .aload_n 0, 1), (31, .getfield 155, 3), (34, .iaload, 1), (35, .iadd, 1), (36, .if_icmp .ne 15, 3), (39, .iload_n 3, 1), (40, .istore_n 2, 1), (41, .aload_n 0, 1), (42, .dup, 1), (43, .getfield 155, 3), (46, .iconst 1, 1), (47, .iadd, 1), (48, .putfield 155, 3), (51, .iload_n 3, 1), (52, .iload_n 2, 1), (53, .if_icmp .ne 28, 3), (56, .aload_n 0, 1), (57, .getfield 35, 3), (60, .aload_n 0, 1), (61, .getfield 155, 3), (64, .iaload, 1), (65, .ifCond .lt 16, 3), (68, .aload_n 0, 1), (69, .aload_n 0, 1), (70, .getfield 35, 3), (73, .aload_n 0, 1), (74, .getfield 155, 3), (77, .iaload, 1), (78, .putfield 158, 3), (81, .iload_n 3, 1), (82, .iload_n 1, 1), (83, .if_icmp .ge 60, 3), (86, .aload_n 0, 1), (87, .dup, 1), (88, .getfield 161, 3), (91, .aload_n 0, 1), (92, .getfield 7, 3), (95, .aload_n 0, 1), (96, .getfield 29, 3), (99, .aload_n 0, 1), (100, .getfield 155, 3), (103, .iaload, 1), (104, .iaload, 1), (105, .bipush 32, 2), (107, .aload_n 0, 1), (108, .getfield 158, 3), (111, .ishl, 1), (112, .imul, 1), (113, .iadd, 1), (114, .putfield 161, 3), (117, .aload_n 0, 1), (118, .aload_n 0, 1), (119, .getfield 38, 3), (122, .iload_n 3, 1), (123, .iaload, 1), (124, .ifCond .ge 10, 3), (127, .aload_n 0, 1), (128, .getfield 158, 3), (131, .goto 9, 3), (134, .aload_n 0, 1), (135, .getfield 38, 3), (138, .iload_n 3, 1), (139, .iaload, 1), (140, .putfield 158, 3), (143, .iinc 3 1, 3), (146, .goto (-127), 3), (149, .return_, 1)])
def M_mo_round : Mi := (⟨"GongHouseModel", "round", "(II)I"⟩, prog_12_method_38_code, 3, (Option.some FieldType.int), 2, 43, [(0, .aload_n 0, 1), (1, .iload_n 1, 1), (2, .invokevirtual 164, 3), (5, .ifCond .eq 12, 3), (8, .iload_n 2, 1), (9, .iconst 0, 1), (10, .iconst 3, 1), (11, .invokestatic 62, 3), (14, .ifCond .ne 6, 3), (17, .ldc 79, 2), (19, .ireturn, 1), (20, .aload_n 0, 1), (21, .iload_n 1, 1), (22, .invokevirtual 167, 3), (25, .iload_n 2, 1), (26, .ifCond .ne 15, 3), (29, .aload_n 0, 1), (30, .getfield 29, 3), (33, .aload_n 0, 1), (34, .getfield 155, 3), (37, .iaload, 1), (38, .goto 31, 3), (41, .iload_n 2, 1), (42, .iconst 1, 1), (43, .if_icmp .ne 10, 3), (46, .aload_n 0, 1), (47, .getfield 158, 3), (50, .goto 19, 3), (53, .iload_n 2, 1), (54, .iconst 2, 1), (55, .if_icmp .ne 10, 3), (58, .aload_n 0, 1), (59, .getfield 155, 3), (62, .goto 7, 3), (65, .aload_n 0, 1), (66, .getfield 161, 3), (69, .ireturn, 1)])
def M_mo_key : Mi := (⟨"GongHouseModel", "key", "(II)I"⟩, prog_12_method_39_code, 3, (Option.some FieldType.int), 0, 0, [(0, .iload_n 0, 1), (1, .iload_n 1, 1), (2, .iadd, 1), (3, .istore_n 2, 1), (4, .iload_n 2, 1), (5, .ifCond .ge 9, 3), (8, .iload_n 2, 1), (9, .iconst 5, 1), (10, .iadd, 1), (11, .goto 16, 3), (14, .iload_n 2, 1), (15, .bipush 9, 2), (17, .if_icmp .le 9, 3), (20, .iload_n 2, 1), (21, .iconst 5, 1), (22, .isub, 1), (23, .goto 4, 3), (26, .iload_n 2, 1), (27, .ireturn, 1)])
def M_mo_turn : Mi := (⟨"GongHouseModel", "turn", "(II)I"⟩, prog_12_method_40_code, 5, (Option.some FieldType.int), 1, 25, [(0, .aload_n 0, 1), (1, .iload_n 1, 1), (2, .iload_n 2, 1), (3, .invokevirtual 120, 3), (6, .istore_n 3, 1), (7, .aload_n 0, 1), (8, .iload_n 1, 1), (9, .iload_n 2, 1), (10, .iconst 1, 1), (11, .iadd, 1), (12, .aload_n 0, 1), (13, .getfield 7, 3), (16, .iload_n 1, 1), (17, .iaload, 1), (18, .irem, 1), (19, .invokevirtual 120, 3), (22, .istore 4, 2), (24, .iload 4, 2), (26, .iload_n 3, 1), (27, .if_icmp .ne 7, 3), (30, .iconst 0, 1), (31, .goto 14, 3), (34, .iload 4, 2), (36, .iload_n 3, 1), (37, .if_icmp .le 7, 3), (40, .iconst 1, 1), (41, .goto 4, 3), (44, .iconst 2, 1), (45, .ireturn, 1)])
def M_mo_struck : Mi := (⟨"GongHouseModel", "struck", "(IIIIII)I"⟩, prog_12_method_41_code, 8, (Option.some FieldType.int), 1, 25, [(0, .aload_n 0, 1), (1, .getfield 19, 3), (4, .iload_n 3, 1), (5, .iload 4, 2), (7, .iload 5, 2), (9, .iload 6, 2), (11, .invokestatic 130, 3), (14, .iaload, 1), (15, .istore 7, 2), (17, .iload 7, 2), (19, .bipush (-9), 2), (21, .if_icmp .ne 7, 3), (24, .iconst (-1), 1), (25, .goto 14, 3), (28, .aload_n 0, 1), (29, .iload_n 1, 1), (30, .iload_n 2, 1), (31, .invokevirtual 120, 3), (34, .iload 7, 2), (36, .invokestatic 170, 3), (39, .ireturn, 1)])
def M_mo_playedNow : Mi := (⟨"GongHouseModel", "playedNow", "(III)I"⟩, prog_12_method_42_code, 5, (Option.some FieldType.int), 2, 52, [(0, .aload_n 0, 1), (1, .getfield 29, 3), (4, .aload_n 0, 1), (5, .getfield 155, 3), (8, .iaload, 1), (9, .istore 4, 2), (11, .iload_n 1, 1), (12, .ifCond .eq 8, 3), (15, .iload_n 1, 1), (16, .iconst 3, 1), (17, .if_icmp .ne 43, 3), (20, .iload_n 3, 1), (21, .ifCond .le 7, 3), (24, .iconst (-1), 1), (25, .goto 34, 3), (28, .iload_n 1, 1), (29, .ifCond .ne 18, 3), (32, .aload_n 0, 1), (33, .getfield 13, 3), (36, .bipush 32, 2), (38, .iload 4, 2), (40, .imul, 1), (41, .iload_n 2, 1), (42, .iadd, 1), (43, .iaload, 1), (44, .goto 15, 3), (47, .aload_n 0, 1), (48, .getfield 16, 3), (51, .bipush 32, 2), (53, .iload 4, 2), (55, .imul, 1), (56, .iload_n 2, 1), (57, .iadd, 1), (58, .iaload, 1), (59, .ireturn, 1), (60, .aload_n 0, 1), (61, .iload 4, 2), (63, .iload_n 2, 1), (64, .aload_n 0, 1), (65, .getfield 158, 3), (68, .aload_n 0, 1), (69, .getfield 26, 3), (72, .iconst 3, 1), (73, .aload_n 0, 1), (74, .getfield 158, 3), (77, .imul, 1), (78, .aload_n 0, 1), (79, .iload 4, 2), (81, .iload_n 2, 1), (82, .invokevirtual 173, 3), (85, .iadd, 1), (86, .iaload, 1), (87, .iload_n 1, 1), (88, .iconst 1, 1), (89, .isub, 1), (90, .iload_n 3, 1), (91, .invokevirtual 176, 3), (94, .ireturn, 1)])
def M_mo_isStep : Mi := (⟨"GongHouseModel", "isStep", "(III)Z"⟩, prog_12_method_43_code, 4, (Option.some FieldType.boolean), 2, 43, [(0, .aload_n 0, 1), (1, .iload_n 1, 1), (2, .invokevirtual 164, 3), (5, .ifCond .ne 5, 3), (8, .iconst 0, 1), (9, .ireturn, 1), (10, .aload_n 0, 1), (11, .iload_n 1, 1), (12, .invokevirtual 167, 3), (15, .iload_n 2, 1), (16, .iconst 0, 1), (17, .aload_n 0, 1), (18, .getfield 7, 3), (21, .aload_n 0, 1), (22, .getfield 29, 3), (25, .aload_n 0, 1), (26, .getfield 155, 3), (29, .iaload, 1), (30, .iaload, 1), (31, .iconst 1, 1), (32, .isub, 1), (33, .invokestatic 62, 3), (36, .ifCond .eq 24, 3), (39, .iload_n 3, 1), (40, .iconst 0, 1), (41, .aload_n 0, 1), (42, .getfield 158, 3), (45, .invokestatic 127, 3), (48, .iconst 1, 1), (49, .isub, 1), (50, .invokestatic 62, 3), (53, .ifCond .eq 7, 3), (56, .iconst 1, 1), (57, .goto 4, 3), (60, .iconst 0, 1), (61, .ireturn, 1)])
def M_mo_plays : Mi := (⟨"GongHouseModel", "plays", "(IIII)I"⟩, prog_12_method_44_code, 5, (Option.some FieldType.int), 3, 76, [(0, .iload_n 1, 1), (1, .iconst 0, 1), (2, .iconst 3, 1), (3, .invokestatic 62, 3), (6, .ifCond .eq 14, 3), (9, .aload_n 0, 1), (10, .iload_n 2, 1), (11, .iload_n 3, 1), (12, .iload 4, 2), (14, .invokevirtual 180, 3), (17, .ifCond .ne 6, 3), (20, .ldc 79, 2), (22, .ireturn, 1), (23, .aload_n 0, 1), (24, .iload_n 1, 1), (25, .iload_n 3, 1), (26, .iload 4, 2), (28, .invokevirtual 183, 3), (31, .invokestatic 117, 3), (34, .ireturn, 1)])
def M_mo_damps : Mi := (⟨"GongHouseModel", "damps", "(IIII)I"⟩, prog_12_method_45_code, 9, (Option.some FieldType.int), 3, 76, [(0, .iload_n 1, 1), (1, .iconst 1, 1), (2, .iconst 2, 1), (3, .invokestatic 62, 3), (6, .ifCond .eq 14, 3), (9, .aload_n 0, 1), (10, .iload_n 2, 1), (11, .iload_n 3, 1), (12, .iload 4, 2), (14, .invokevirtual 180, 3), (17, .ifCond .ne 6, 3), (20, .ldc 79, 2), (22, .ireturn, 1), (23, .aload_n 0, 1), (24, .iload_n 1, 1), (25, .iload_n 3, 1), (26, .iload 4, 2), (28, .invokevirtual 183, 3), (31, .istore 5, 2), (33, .iconst (-1), 1), (34, .istore 6, 2), (36, .iconst 0, 1), (37, .istore 7, 2), (39, .iload 7, 2), (41, .iload 4, 2), (43, .if_icmp .ge 33, 3), (46, .aload_n 0, 1), (47, .iload_n 1, 1), (48, .iload_n 3, 1), (49, .iload 7, 2), (51, .invokevirtual 183, 3), (54, .istore 8, 2), (56, .iload 8, 2), (58, .ifCond .ge 8, 3), (61, .iload 6, 2), (63, .goto 5, 3), (66, .iload 8, 2), (68, .istore 6, 2), (70, .iinc 7 1, 3), (73, .goto (-34), 3), (76, .iload 5, 2), (78, .ifCond .lt 15, 3), (81, .iload 6, 2), (83, .ifCond .lt 10, 3), (86, .iload 5, 2), (88, .iload 6, 2), (90, .if_icmp .ne 8, 3), (93, .ldc 112, 2), (95, .goto 5, 3), (98, .iload 6, 2), (100, .ireturn, 1)])
def M_mo_strikes : Mi := (⟨"GongHouseModel", "strikes", "(II)I"⟩, prog_12_method_46_code, 6, (Option.some FieldType.int), 3, 76, [(0, .iload_n 1, 1), (1, .iconst 0, 1), (2, .iconst 3, 1), (3, .invokestatic 62, 3), (6, .ifCond .eq 11, 3), (9, .aload_n 0, 1), (10, .iload_n 2, 1), (11, .invokevirtual 164, 3), (14, .ifCond .ne 6, 3), (17, .ldc 79, 2), (19, .ireturn, 1), (20, .aload_n 0, 1), (21, .iload_n 2, 1), (22, .invokevirtual 167, 3), (25, .iconst 0, 1), (26, .istore_n 3, 1), (27, .iconst 0, 1), (28, .istore 4, 2), (30, .iload 4, 2), (32, .aload_n 0, 1), (33, .getfield 7, 3), (36, .aload_n 0, 1), (37, .getfield 29, 3), (40, .aload_n 0, 1), (41, .getfield 155, 3), (44, .iaload, 1), (45, .iaload, 1), (46, .if_icmp .ge 50, 3), (49, .iconst 0, 1), (50, .istore 5, 2), (52, .iload 5, 2), (54, .aload_n 0, 1), (55, .getfield 158, 3), (58, .invokestatic 127, 3), (61, .if_icmp .ge 29, 3), (64, .iload_n 3, 1), (65, .aload_n 0, 1), (66, .iload_n 1, 1), (67, .iload 4, 2), (69, .iload 5, 2), (71, .invokevirtual 183, 3), (74, .ifCond .ge 7, 3), (77, .iconst 0, 1), (78, .goto 4, 3), (81, .iconst 1, 1), (82, .iadd, 1), (83, .istore_n 3, 1), (84, .iinc 5 1, 3), (87, .goto (-35), 3), (90, .iinc 4 1, 3), (93, .goto (-63), 3), (96, .iload_n 3, 1), (97, .ireturn, 1)])
def M_mo_ticks : Mi := (⟨"GongHouseModel", "ticks", "()I"⟩, prog_12_method_47_code, 2, (Option.some FieldType.int), 1, 23, [(0, .aload_n 0, 1), (1, .invokevirtual 152, 3), (4, .istore_n 1, 1), (5, .iload_n 1, 1), (6, .ifCond .ne 5, 3), (9, .iconst 0, 1), (10, .ireturn, 1), (11, .aload_n 0, 1), (12, .iload_n 1, 1), (13, .iconst 1, 1), (14, .isub, 1), (15, .invokevirtual 167, 3), (18, .aload_n 0, 1), (19, .getfield 161, 3), (22, .aload_n 0, 1), (23, .getfield 7, 3), (26, .aload_n 0, 1), (27, .getfield 29, 3), (30, .aload_n 0, 1), (31, .getfield 155, 3), (34, .iaload, 1), (35, .iaload, 1), (36, .bipush 32, 2), (38, .aload_n 0, 1), (39, .getfield 158, 3), (42, .ishl, 1), (43, .imul, 1), (44, .iadd, 1), (45, .ireturn, 1)])
def M_mo_leapsOf : Mi := (⟨"GongHouseModel", "leapsOf", "(II)I"⟩, prog_12_method_48_code, 10, (Option.some FieldType.int), 2, 52, [(0, .iconst 0, 1), (1, .istore_n 3, 1), (2, .iconst (-1), 1), (3, .istore 4, 2), (5, .iconst (-1), 1), (6, .istore 5, 2), (8, .iconst 0, 1), (9, .istore 6, 2), (11, .iload 6, 2), (13, .aload_n 0, 1), (14, .getfield 7, 3), (17, .iload_n 1, 1), (18, .iaload, 1), (19, .if_icmp .ge 131, 3), (22, .aload_n 0, 1), (23, .getfield 56, 3), (26, .aload_n 0, 1), (27, .iload_n 1, 1), (28, .iload 6, 2), (30, .invokevirtual 173, 3), (33, .iaload, 1), (34, .istore 7, 2), (36, .iconst 0, 1), (37, .istore 8, 2), (39, .iload 8, 2), (41, .iload_n 2, 1), (42, .invokestatic 127, 3), (45, .if_icmp .ge 99, 3), (48, .aload_n 0, 1), (49, .iload_n 1, 1), (50, .iload 6, 2), (52, .iload_n 2, 1), (53, .iload 7, 2), (55, .iconst 0, 1), (56, .iload 8, 2), (58, .invokevirtual 176, 3), (61, .istore 9, 2), (63, .iload 9, 2), (65, .ifCond .ge 19, 3), (68, .aload_n 0, 1), (69, .iload_n 1, 1), (70, .iload 6, 2), (72, .iload_n 2, 1), (73, .iload 7, 2), (75, .iconst 1, 1), (76, .iload 8, 2), (78, .invokevirtual 176, 3), (81, .goto 5, 3), (84, .iload 9, 2), (86, .istore 9, 2), (88, .iload_n 3, 1), (89, .iload 5, 2), (91, .ifCond .ge 7, 3), (94, .iconst 0, 1), (95, .goto 23, 3), (98, .iload 9, 2), (100, .iload 5, 2), (102, .if_icmp .ge 11, 3), (105, .iload 5, 2), (107, .iload 9, 2), (109, .isub, 1), (110, .goto 8, 3), (113, .iload 9, 2), (115, .iload 5, 2), (117, .isub, 1), (118, .iadd, 1), (119, .istore_n 3, 1), (120, .iload 4, 2), (122, .ifCond .ge 8, 3), (125, .iload 9, 2), (127, .goto 5, 3), (130, .iload 4, 2), (132, .istore 4, 2), (134, .iload 9, 2), (136, .istore 5, 2), (138, .iinc 8 1, 3), (141, .goto (-102), 3), (144, .iinc 6 1, 3), (147, .goto (-136), 3), (150, .iload_n 3, 1), (151, .iload 4, 2), (153, .iload 5, 2), (155, .if_icmp .ge 11, 3), (158, .iload 5, 2), (160, .iload 4, 2), (162, .isub, 1), (163, .goto 8, 3), (166, .iload 4, 2), (168, .iload 5, 2), (170, .isub, 1), (171, .iadd, 1), (172, .ireturn, 1)])
def M_mo_leaps : Mi := (⟨"GongHouseModel", "leaps", "(III)I"⟩, prog_12_method_49_code, 6, (Option.some FieldType.int), 3, 81, [(0, .iload_n 1, 1), (1, .invokestatic 66, 3), (4, .ifCond .eq 23, 3), (7, .iload_n 2, 1), (8, .iconst 0, 1), (9, .iconst 3, 1), (10, .invokestatic 62, 3), (13, .ifCond .eq 14, 3), (16, .iload_n 3, 1), (17, .iconst 0, 1), (18, .sipush 555, 3), (21, .invokestatic 62, 3), (24, .ifCond .ne 6, 3), (27, .ldc 79, 2), (29, .ireturn, 1), (30, .aload_n 0, 1), (31, .getfield 56, 3), (34, .iconst 0, 1), (35, .iload_n 3, 1), (36, .bipush 100, 2), (38, .idiv, 1), (39, .iastore, 1), (40, .aload_n 0, 1), (41, .getfield 56, 3), (44, .iconst 1, 1), (45, .iload_n 3, 1), (46, .bipush 10, 2), (48, .idiv, 1), (49, .bipush 10, 2), (51, .irem, 1), (52, .iastore, 1), (53, .aload_n 0, 1), (54, .getfield 56, 3), (57, .iconst 2, 1), (58, .iload_n 3, 1), (59, .bipush 10, 2), (61, .irem, 1), (62, .iastore, 1), (63, .iconst 1, 1), (64, .istore 4, 2), (66, .iconst 0, 1), (67, .istore 5, 2), (69, .iload 5, 2), (71, .iconst 3, 1), (72, .if_icmp .ge 51, 3), (75, .aload_n 0, 1), (76, .getfield 56, 3), (79, .iload 5, 2), (81, .iaload, 1), (82, .bipush 6, 2), (84, .if_icmp .lt 6, 3), (87, .ldc 79, 2), (89, .ireturn, 1), (90, .iload 4, 2), (92, .ifCond .eq 22, 3), (95, .aload_n 0, 1), (96, .iload_n 2, 1), (97, .aload_n 0, 1), (98, .getfield 56, 3), (101, .iload 5, 2), (103, .iaload, 1), (104, .invokevirtual 143, 3), (107, .ifCond .ge 7, 3), (110, .iconst 1, 1), (111, .goto 4, 3), (114, .iconst 0, 1), (115, .istore 4, 2), (117, .iinc 5 1, 3), (120, .goto (-51), 3), (123, .iload 4, 2), (125, .ifCond .eq 12, 3), (128, .aload_n 0, 1), (129, .iload_n 1, 1), (130, .iload_n 2, 1), (131, .invokevirtual 187, 3), (134, .goto 5, 3), (137, .ldc 111, 2), (139, .ireturn, 1)])
def M_mo_choice : Mi := (⟨"GongHouseModel", "choice", "(II)I"⟩, prog_12_method_50_code, 7, (Option.some FieldType.int), 3, 81, [(0, .iload_n 1, 1), (1, .invokestatic 66, 3), (4, .ifCond .eq 12, 3), (7, .iload_n 2, 1), (8, .iconst 0, 1), (9, .iconst 3, 1), (10, .invokestatic 62, 3), (13, .ifCond .ne 6, 3), (16, .ldc 79, 2), (18, .ireturn, 1), (19, .ldc 111, 2), (21, .istore_n 3, 1), (22, .iconst 0, 1), (23, .istore 4, 2), (25, .iconst 0, 1), (26, .istore 5, 2), (28, .iload 5, 2), (30, .sipush 216, 3), (33, .if_icmp .ge 139, 3), (36, .aload_n 0, 1), (37, .getfield 56, 3), (40, .iconst 0, 1), (41, .iload 5, 2), (43, .bipush 36, 2), (45, .idiv, 1), (46, .iastore, 1), (47, .aload_n 0, 1), (48, .getfield 56, 3), (51, .iconst 1, 1), (52, .iload 5, 2), (54, .bipush 6, 2), (56, .idiv, 1), (57, .bipush 6, 2), (59, .irem, 1), (60, .iastore, 1), (61, .aload_n 0, 1), (62, .getfield 56, 3), (65, .iconst 2, 1), (66, .iload 5, 2), (68, .bipush 6, 2), (70, .irem, 1), (71, .iastore, 1), (72, .aload_n 0, 1), (73, .iload_n 2, 1), (74, .aload_n 0, 1), (75, .getfield 56, 3), (78, .iconst 0, 1), (79, .iaload, 1), (80, .invokevirtual 143, 3), (83, .ifCond .ge 83, 3), (86, .aload_n 0, 1), (87, .iload_n 2, 1), (88, .aload_n 0, 1), (89, .getfield 56, 3), (92, .iconst 1, 1), (93, .iaload, 1), (94, .invokevirtual 143, 3), (97, .ifCond .ge 69, 3), (100, .aload_n 0, 1), (101, .iload_n 2, 1), (102, .aload_n 0, 1), (103, .getfield 56, 3), (106, .iconst 2, 1), (107, .iaload, 1), (108, .invokevirtual 143, 3), (111, .ifCond .ge 55, 3), (114, .aload_n 0, 1), (115, .iload_n 1, 1), (116, .iload_n 2, 1), (117, .invokevirtual 187, 3), (120, .istore 6, 2), (122, .iload_n 3, 1), (123, .ldc 111, 2), (125, .if_icmp .eq 10, 3), (128, .iload 6, 2), (130, .iload 4, 2), (132, .if_icmp .ge 34, 3), (135, .bipush 100, 2), (137, .aload_n 0, 1), (138, .getfield 56, 3), (141, .iconst 0, 1), (142, .iaload, 1), (143, .imul, 1), (144, .bipush 10, 2), (146, .aload_n 0, 1), (147, .getfield 56, 3), (150, .iconst 1, 1), (151, .iaload, 1), (152, .imul, 1), (153, .iadd, 1), (154, .aload_n 0, 1), (155, .getfield 56, 3), (158, .iconst 2, 1), (159, .iaload, 1), (160, .iadd, 1), (161, .istore_n 3, 1), (162, .iload 6, 2), (164, .istore 4, 2), (166, .iinc 5 1, 3), (169, .goto (-141), 3), (172, .iload_n 3, 1), (173, .ireturn, 1)])
def M_mo_sheet : Mi := (⟨"GongHouseModel", "sheet", "(II)I"⟩, prog_12_method_51_code, 4, (Option.some FieldType.int), 2, 42, [(0, .iload_n 1, 1), (1, .invokestatic 134, 3), (4, .ifCond .eq 9, 3), (7, .iload_n 2, 1), (8, .bipush 16, 2), (10, .if_icmp .le 6, 3), (13, .ldc 79, 2), (15, .ireturn, 1), (16, .iload_n 2, 1), (17, .ifCond .ge 6, 3), (20, .ldc 190, 2), (22, .ireturn, 1), (23, .aload_n 0, 1), (24, .getfield 44, 3), (27, .iload_n 1, 1), (28, .iload_n 2, 1), (29, .iastore, 1), (30, .iconst 0, 1), (31, .istore_n 3, 1), (32, .iload_n 3, 1), (33, .iload_n 2, 1), (34, .if_icmp .ge 21, 3), (37, .aload_n 0, 1), (38, .getfield 47, 3), (41, .bipush 16, 2), (43, .iload_n 1, 1), (44, .imul, 1), (45, .iload_n 3, 1), (46, .iadd, 1), (47, .iconst 0, 1), (48, .iastore, 1), (49, .iinc 3 1, 3), (52, .goto (-20), 3), (55, .iload_n 2, 1), (56, .ireturn, 1)])
def M_mo_mark : Mi := (⟨"GongHouseModel", "mark", "(III)I"⟩, prog_12_method_52_code, 5, (Option.some FieldType.int), 2, 42, [(0, .iload_n 1, 1), (1, .invokestatic 134, 3), (4, .ifCond .ne 6, 3), (7, .ldc 79, 2), (9, .ireturn, 1), (10, .aload_n 0, 1), (11, .getfield 44, 3), (14, .iload_n 1, 1), (15, .iaload, 1), (16, .ifCond .ge 6, 3), (19, .ldc 137, 2), (21, .ireturn, 1), (22, .iload_n 2, 1), (23, .iconst 0, 1), (24, .aload_n 0, 1), (25, .getfield 44, 3), (28, .iload_n 1, 1), (29, .iaload, 1), (30, .iconst 1, 1), (31, .isub, 1), (32, .invokestatic 62, 3), (35, .ifCond .ne 6, 3), (38, .ldc 138, 2), (40, .ireturn, 1), (41, .aload_n 0, 1), (42, .getfield 47, 3), (45, .bipush 16, 2), (47, .iload_n 1, 1), (48, .imul, 1), (49, .iload_n 2, 1), (50, .iadd, 1), (51, .iaload, 1), (52, .istore 4, 2), (54, .aload_n 0, 1), (55, .getfield 47, 3), (58, .bipush 16, 2), (60, .iload_n 1, 1), (61, .imul, 1), (62, .iload_n 2, 1), (63, .iadd, 1), (64, .iload_n 3, 1), (65, .i2b, 1), (66, .iastore, 1), (67, .iload 4, 2), (69, .ireturn, 1)])
def M_mo_copy : Mi := (⟨"GongHouseModel", "copy", "(IIIII)I"⟩, prog_12_method_53_code, 7, (Option.some FieldType.int), 2, 42, [(0, .iload_n 1, 1), (1, .invokestatic 134, 3), (4, .ifCond .eq 10, 3), (7, .iload_n 3, 1), (8, .invokestatic 134, 3), (11, .ifCond .ne 6, 3), (14, .ldc 79, 2), (16, .ireturn, 1), (17, .aload_n 0, 1), (18, .getfield 44, 3), (21, .iload_n 1, 1), (22, .iaload, 1), (23, .ifCond .lt 12, 3), (26, .aload_n 0, 1), (27, .getfield 44, 3), (30, .iload_n 3, 1), (31, .iaload, 1), (32, .ifCond .ge 6, 3), (35, .ldc 137, 2), (37, .ireturn, 1), (38, .iload_n 2, 1), (39, .ifCond .lt 48, 3), (42, .iload 4, 2), (44, .ifCond .lt 43, 3), (47, .iload 5, 2), (49, .ifCond .lt 38, 3), (52, .iload_n 2, 1), (53, .i2l, 1), (54, .iload 5, 2), (56, .i2l, 1), (57, .ladd, 1), (58, .aload_n 0, 1), (59, .getfield 44, 3), (62, .iload_n 1, 1), (63, .iaload, 1), (64, .i2l, 1), (65, .lcmp, 1), (66, .ifCond .gt 21, 3), (69, .iload 4, 2), (71, .i2l, 1), (72, .iload 5, 2), (74, .i2l, 1), (75, .ladd, 1), (76, .aload_n 0, 1), (77, .getfield 44, 3), (80, .iload_n 3, 1), (81, .iaload, 1), (82, .i2l, 1), (83, .lcmp, 1), (84, .ifCond .le 6, 3), (87, .ldc 138, 2), (89, .ireturn, 1), (90, .iconst 0, 1), (91, .istore 6, 2), (93, .iload 6, 2), (95, .iload 5, 2), (97, .if_icmp .ge 30, 3), (100, .aload_n 0, 1), (101, .getfield 59, 3), (104, .iload 6, 2), (106, .aload_n 0, 1), (107, .getfield 47, 3), (110, .bipush 16, 2), (112, .iload_n 1, 1), (113, .imul, 1), (114, .iload_n 2, 1), (115, .iadd, 1), (116, .iload 6, 2), (118, .iadd, 1), (119, .iaload, 1), (120, .iastore, 1), (121, .iinc 6 1, 3), (124, .goto (-31), 3), (127, .iconst 0, 1), (128, .istore 6, 2), (130, .iload 6, 2), (132, .iload 5, 2), (134, .if_icmp .ge 31, 3), (137, .aload_n 0, 1), (138, .getfield 47, 3), (141, .bipush 16, 2), (143, .iload_n 3, 1), (144, .imul, 1), (145, .iload 4, 2), (147, .iadd, 1), (148, .iload 6, 2), (150, .iadd, 1), (151, .aload_n 0, 1), (152, .getfield 59, 3), (155, .iload 6, 2), (157, .iaload, 1), (158, .iastore, 1), (159, .iinc 6 1, 3), (162, .goto (-32), 3), (165, .iload 5, 2), (167, .ireturn, 1)])
def M_mo_count : Mi := (⟨"GongHouseModel", "count", "(I)I"⟩, prog_12_method_54_code, 5, (Option.some FieldType.int), 3, 72, [(0, .iconst 0, 1), (1, .istore_n 2, 1), (2, .iload_n 1, 1), (3, .tableswitch 182 0 6 #[41, 65, 123, 162, 167, 172, 177], 41), (44, .iconst 0, 1), (45, .istore_n 3, 1), (46, .iload_n 3, 1), (47, .iconst 4, 1), (48, .if_icmp .ge 18, 3), (51, .iload_n 2, 1), (52, .aload_n 0, 1), (53, .getfield 7, 3), (56, .iload_n 3, 1), (57, .iaload, 1), (58, .iadd, 1), (59, .istore_n 2, 1), (60, .iinc 3 1, 3), (63, .goto (-17), 3), (66, .iload_n 2, 1), (67, .ireturn, 1), (68, .iconst 0, 1), (69, .istore_n 3, 1), (70, .iload_n 3, 1), (71, .iconst 4, 1), (72, .if_icmp .ge 52, 3), (75, .iconst 0, 1), (76, .istore 4, 2), (78, .iload 4, 2), (80, .aload_n 0, 1), (81, .getfield 7, 3), (84, .iload_n 3, 1), (85, .iaload, 1), (86, .if_icmp .ge 32, 3), (89, .iload_n 2, 1), (90, .aload_n 0, 1), (91, .getfield 16, 3), (94, .bipush 32, 2), (96, .iload_n 3, 1), (97, .imul, 1), (98, .iload 4, 2), (100, .iadd, 1), (101, .iaload, 1), (102, .ifCond .ge 7, 3), (105, .iconst 0, 1), (106, .goto 4, 3), (109, .iconst 1, 1), (110, .iadd, 1), (111, .istore_n 2, 1), (112, .iinc 4 1, 3), (115, .goto (-37), 3), (118, .iinc 3 1, 3), (121, .goto (-51), 3), (124, .iload_n 2, 1), (125, .ireturn, 1), (126, .iconst 0, 1), (127, .istore_n 3, 1), (128, .iload_n 3, 1), (129, .bipush 24, 2), (131, .if_icmp .ge 32, 3), (134, .iload_n 2, 1), (135, .aload_n 0, 1), (136, .iload_n 3, 1), (137, .bipush 6, 2), (139, .idiv, 1), (140, .iload_n 3, 1), (141, .bipush 6, 2), (143, .irem, 1), (144, .invokevirtual 143, 3), (147, .ifCond .ge 7, 3), (150, .iconst 1, 1), (151, .goto 4, 3), (154, .iconst 0, 1), (155, .iadd, 1), (156, .istore_n 2, 1), (157, .iinc 3 1, 3), (160, .goto (-32), 3), (163, .iload_n 2, 1), (164, .ireturn, 1), (165, .aload_n 0, 1), (166, .getfield 146, 3), (169, .ireturn, 1), (170, .aload_n 0, 1), (171, .invokevirtual 152, 3), (174, .ireturn, 1), (175, .aload_n 0, 1), (176, .invokevirtual 149, 3), (179, .ireturn, 1), (180, .aload_n 0, 1), (181, .getfield 70, 3), (184, .ireturn, 1), (185, .ldc 79, 2), (187, .ireturn, 1)])
def M_ar_filli : Mi := (⟨"java/util/Arrays", "fill", "([II)V"⟩, prog_15_method_103_code, 4, (Option.none : Option FieldType), 0, 0, [(0, .iconst 0, 1), (1, .istore_n 2, 1), (2, .aload_n 0, 1), (3, .arraylength, 1), (4, .istore_n 3, 1), (5, .iload_n 2, 1), (6, .iload_n 3, 1), (7, .if_icmp .ge 13, 3), (10, .aload_n 0, 1), (11, .iload_n 2, 1), (12, .iload_n 1, 1), (13, .iastore, 1), (14, .iinc 2 1, 3), (17, .goto (-12), 3), (20, .return_, 1)])
def M_ar_fillb : Mi := (⟨"java/util/Arrays", "fill", "([BB)V"⟩, prog_15_method_109_code, 4, (Option.none : Option FieldType), 0, 0, [(0, .iconst 0, 1), (1, .istore_n 2, 1), (2, .aload_n 0, 1), (3, .arraylength, 1), (4, .istore_n 3, 1), (5, .iload_n 2, 1), (6, .iload_n 3, 1), (7, .if_icmp .ge 13, 3), (10, .aload_n 0, 1), (11, .iload_n 2, 1), (12, .iload_n 1, 1), (13, .bastore, 1), (14, .iinc 2 1, 3), (17, .goto (-12), 3), (20, .return_, 1)])
set_option maxRecDepth 100000 in
theorem ok_ci_init : Mok M_ci_init := ⟨by decide +kernel, tb_m 202 rfl rfl, by decide +kernel, tb_m 46 (by decide +kernel) rfl, ⟨by decide +kernel, by decide +kernel⟩⟩
theorem vn_ci_init : vn_ M_ci_init 0 := ⟨rfl, rfl, tb_m 201 (by decide +kernel) rfl, by decide +kernel⟩
set_option maxRecDepth 100000 in
theorem ok_ci_become : Mok M_ci_become := ⟨by decide +kernel, tb_m 377 rfl rfl, by decide +kernel, tb_m 46 (by decide +kernel) rfl, ⟨by decide +kernel, by decide +kernel⟩⟩
theorem vi_ci_become : vi_ M_ci_become 1 := ⟨tb_m 375 (by decide +kernel) rfl, tb_m 376 (by decide +kernel) rfl, by decide +kernel⟩
set_option maxRecDepth 100000 in
theorem ok_ci_setTones : Mok M_ci_setTones := ⟨by decide +kernel, tb_m 387 rfl rfl, by decide +kernel, tb_m 46 (by decide +kernel) rfl, ⟨by decide +kernel, by decide +kernel⟩⟩
theorem vi_ci_setTones : vi_ M_ci_setTones 0 := ⟨tb_m 386 (by decide +kernel) rfl, tb_m 8 (by decide +kernel) rfl, by decide +kernel⟩
set_option maxRecDepth 100000 in
theorem ok_ci_lastNote : Mok M_ci_lastNote := ⟨by decide +kernel, tb_m 391 rfl rfl, by decide +kernel, tb_m 46 (by decide +kernel) rfl, ⟨by decide +kernel, by decide +kernel⟩⟩
theorem vi_ci_lastNote : vi_ M_ci_lastNote 0 := ⟨tb_m 390 (by decide +kernel) rfl, tb_m 9 (by decide +kernel) rfl, by decide +kernel⟩
set_option maxRecDepth 100000 in
theorem ok_ci_setTurns : Mok M_ci_setTurns := ⟨by decide +kernel, tb_m 395 rfl rfl, by decide +kernel, tb_m 46 (by decide +kernel) rfl, ⟨by decide +kernel, by decide +kernel⟩⟩
theorem vi_ci_setTurns : vi_ M_ci_setTurns 0 := ⟨tb_m 394 (by decide +kernel) rfl, tb_m 10 (by decide +kernel) rfl, by decide +kernel⟩
set_option maxRecDepth 100000 in
theorem ok_ci_beatBehind : Mok M_ci_beatBehind := ⟨by decide +kernel, tb_m 399 rfl rfl, by decide +kernel, tb_m 46 (by decide +kernel) rfl, ⟨by decide +kernel, by decide +kernel⟩⟩
theorem vi_ci_beatBehind : vi_ M_ci_beatBehind 1 := ⟨tb_m 397 (by decide +kernel) rfl, tb_m 398 (by decide +kernel) rfl, by decide +kernel⟩
set_option maxRecDepth 100000 in
theorem ok_ci_countNotes : Mok M_ci_countNotes := ⟨by decide +kernel, tb_m 549 rfl rfl, by decide +kernel, tb_m 46 (by decide +kernel) rfl, ⟨by decide +kernel, by decide +kernel⟩⟩
theorem vi_ci_countNotes : vi_ M_ci_countNotes 0 := ⟨tb_m 547 (by decide +kernel) rfl, tb_m 548 (by decide +kernel) rfl, by decide +kernel⟩
set_option maxRecDepth 100000 in
theorem ok_ci_countGongs : Mok M_ci_countGongs := ⟨by decide +kernel, tb_m 554 rfl rfl, by decide +kernel, tb_m 46 (by decide +kernel) rfl, ⟨by decide +kernel, by decide +kernel⟩⟩
theorem vi_ci_countGongs : vi_ M_ci_countGongs 0 := ⟨tb_m 552 (by decide +kernel) rfl, tb_m 553 (by decide +kernel) rfl, by decide +kernel⟩
set_option maxRecDepth 100000 in
theorem ok_fi_init : Mok M_fi_init := ⟨by decide +kernel, tb_m 241 rfl rfl, by decide +kernel, tb_m 48 (by decide +kernel) rfl, ⟨by decide +kernel, by decide +kernel⟩⟩
theorem vn_fi_init : vn_ M_fi_init 1 := ⟨rfl, rfl, tb_m 240 (by decide +kernel) rfl, by decide +kernel⟩
set_option maxRecDepth 100000 in
theorem ok_fi_rowOf : Mok M_fi_rowOf := ⟨by decide +kernel, tb_m 434 rfl rfl, by decide +kernel, tb_m 48 (by decide +kernel) rfl, ⟨by decide +kernel, by decide +kernel⟩⟩
theorem vi_fi_rowOf : vi_ M_fi_rowOf 1 := ⟨tb_m 432 (by decide +kernel) rfl, tb_m 433 (by decide +kernel) rfl, by decide +kernel⟩
set_option maxRecDepth 100000 in
theorem ok_fi_takeRow : Mok M_fi_takeRow := ⟨by decide +kernel, tb_m 448 rfl rfl, by decide +kernel, tb_m 48 (by decide +kernel) rfl, ⟨by decide +kernel, by decide +kernel⟩⟩
theorem vi_fi_takeRow : vi_ M_fi_takeRow 2 := ⟨tb_m 446 (by decide +kernel) rfl, tb_m 447 (by decide +kernel) rfl, by decide +kernel⟩
set_option maxRecDepth 100000 in
theorem ok_fi_strikesOf : Mok M_fi_strikesOf := ⟨by decide +kernel, tb_m 454 rfl rfl, by decide +kernel, tb_m 48 (by decide +kernel) rfl, ⟨by decide +kernel, by decide +kernel⟩⟩
theorem vi_fi_strikesOf : vi_ M_fi_strikesOf 1 := ⟨tb_m 452 (by decide +kernel) rfl, tb_m 453 (by decide +kernel) rfl, by decide +kernel⟩
set_option maxRecDepth 100000 in
theorem ok_fi_firstWrongStep : Mok M_fi_firstWrongStep := ⟨by decide +kernel, tb_m 469 rfl rfl, by decide +kernel, tb_m 48 (by decide +kernel) rfl, ⟨by decide +kernel, by decide +kernel⟩⟩
theorem vi_fi_firstWrongStep : vi_ M_fi_firstWrongStep 0 := ⟨tb_m 467 (by decide +kernel) rfl, tb_m 468 (by decide +kernel) rfl, by decide +kernel⟩
set_option maxRecDepth 100000 in
theorem ok_fi_isRight : Mok M_fi_isRight := ⟨by decide +kernel, tb_m 569 rfl rfl, by decide +kernel, tb_m 48 (by decide +kernel) rfl, ⟨by decide +kernel, by decide +kernel⟩⟩
theorem vi_fi_isRight : vi_ M_fi_isRight 0 := ⟨tb_m 567 (by decide +kernel) rfl, tb_m 568 (by decide +kernel) rfl, by decide +kernel⟩
set_option maxRecDepth 100000 in
theorem ok_fi_lineShift : Mok M_fi_lineShift := ⟨by decide +kernel, tb_m 581 rfl rfl, by decide +kernel, tb_m 48 (by decide +kernel) rfl, ⟨by decide +kernel, by decide +kernel⟩⟩
theorem vi_fi_lineShift : vi_ M_fi_lineShift 1 := ⟨tb_m 579 (by decide +kernel) rfl, tb_m 580 (by decide +kernel) rfl, by decide +kernel⟩
set_option maxRecDepth 100000 in
theorem ok_le_init : Mok M_le_init := ⟨by decide +kernel, tb_m 234 rfl rfl, by decide +kernel, tb_m 47 (by decide +kernel) rfl, ⟨by decide +kernel, by decide +kernel⟩⟩
theorem vn_le_init : vn_ M_le_init 1 := ⟨rfl, rfl, tb_m 233 (by decide +kernel) rfl, by decide +kernel⟩
set_option maxRecDepth 100000 in
theorem ok_le_figureFor : Mok M_le_figureFor := ⟨by decide +kernel, tb_m 531 rfl rfl, by decide +kernel, tb_m 47 (by decide +kernel) rfl, ⟨by decide +kernel, by decide +kernel⟩⟩
theorem vi_le_figureFor : vi_ M_le_figureFor 2 := ⟨tb_m 529 (by decide +kernel) rfl, tb_m 530 (by decide +kernel) rfl, by decide +kernel⟩
set_option maxRecDepth 100000 in
theorem ok_le_countRight : Mok M_le_countRight := ⟨by decide +kernel, tb_m 650 rfl rfl, by decide +kernel, tb_m 47 (by decide +kernel) rfl, ⟨by decide +kernel, by decide +kernel⟩⟩
theorem vi_le_countRight : vi_ M_le_countRight 0 := ⟨tb_m 648 (by decide +kernel) rfl, tb_m 649 (by decide +kernel) rfl, by decide +kernel⟩
set_option maxRecDepth 100000 in
theorem ok_li_init : Mok M_li_init := ⟨by decide +kernel, tb_m 177 rfl rfl, by decide +kernel, tb_m 45 (by decide +kernel) rfl, ⟨by decide +kernel, by decide +kernel⟩⟩
theorem vn_li_init : vn_ M_li_init 0 := ⟨rfl, rfl, tb_m 176 (by decide +kernel) rfl, by decide +kernel⟩
set_option maxRecDepth 100000 in
theorem ok_li_learn : Mok M_li_learn := ⟨by decide +kernel, tb_m 574 rfl rfl, by decide +kernel, tb_m 45 (by decide +kernel) rfl, ⟨by decide +kernel, by decide +kernel⟩⟩
theorem vi_li_learn : vi_ M_li_learn 2 := ⟨tb_m 572 (by decide +kernel) rfl, tb_m 573 (by decide +kernel) rfl, by decide +kernel⟩
set_option maxRecDepth 100000 in
theorem ok_li_innerLeaps : Mok M_li_innerLeaps := ⟨by decide +kernel, tb_m 577 rfl rfl, by decide +kernel, tb_m 45 (by decide +kernel) rfl, ⟨by decide +kernel, by decide +kernel⟩⟩
theorem vs_li_innerLeaps : vs_ M_li_innerLeaps 2 := ⟨tb_m 576 (by decide +kernel) rfl, by decide +kernel⟩
set_option maxRecDepth 100000 in
theorem ok_li_leapsWith : Mok M_li_leapsWith := ⟨by decide +kernel, tb_m 589 rfl rfl, by decide +kernel, tb_m 45 (by decide +kernel) rfl, ⟨by decide +kernel, by decide +kernel⟩⟩
theorem vi_li_leapsWith : vi_ M_li_leapsWith 4 := ⟨tb_m 587 (by decide +kernel) rfl, tb_m 588 (by decide +kernel) rfl, by decide +kernel⟩
set_option maxRecDepth 100000 in
theorem ok_li_entryOf : Mok M_li_entryOf := ⟨by decide +kernel, tb_m 593 rfl rfl, by decide +kernel, tb_m 45 (by decide +kernel) rfl, ⟨by decide +kernel, by decide +kernel⟩⟩
theorem vi_li_entryOf : vi_ M_li_entryOf 2 := ⟨tb_m 592 (by decide +kernel) rfl, tb_m 14 (by decide +kernel) rfl, by decide +kernel⟩
set_option maxRecDepth 100000 in
theorem ok_li_leastLeaping : Mok M_li_leastLeaping := ⟨by decide +kernel, tb_m 602 rfl rfl, by decide +kernel, tb_m 45 (by decide +kernel) rfl, ⟨by decide +kernel, by decide +kernel⟩⟩
theorem vi_li_leastLeaping : vi_ M_li_leastLeaping 1 := ⟨tb_m 600 (by decide +kernel) rfl, tb_m 601 (by decide +kernel) rfl, by decide +kernel⟩
set_option maxRecDepth 100000 in
theorem ok_pi_init : Mok M_pi_init := ⟨by decide +kernel, tb_m 117 rfl rfl, by decide +kernel, tb_m 42 (by decide +kernel) rfl, ⟨by decide +kernel, by decide +kernel⟩⟩
theorem vn_pi_init : vn_ M_pi_init 0 := ⟨rfl, rfl, tb_m 116 (by decide +kernel) rfl, by decide +kernel⟩
set_option maxRecDepth 100000 in
theorem ok_pi_addPart : Mok M_pi_addPart := ⟨by decide +kernel, tb_m 484 rfl rfl, by decide +kernel, tb_m 42 (by decide +kernel) rfl, ⟨by decide +kernel, by decide +kernel⟩⟩
theorem vi_pi_addPart : vi_ M_pi_addPart 3 := ⟨tb_m 482 (by decide +kernel) rfl, tb_m 483 (by decide +kernel) rfl, by decide +kernel⟩
set_option maxRecDepth 100000 in
theorem ok_pi_setSignal : Mok M_pi_setSignal := ⟨by decide +kernel, tb_m 492 rfl rfl, by decide +kernel, tb_m 42 (by decide +kernel) rfl, ⟨by decide +kernel, by decide +kernel⟩⟩
theorem vi_pi_setSignal : vi_ M_pi_setSignal 2 := ⟨tb_m 490 (by decide +kernel) rfl, tb_m 491 (by decide +kernel) rfl, by decide +kernel⟩
set_option maxRecDepth 100000 in
theorem ok_pi_clear : Mok M_pi_clear := ⟨by decide +kernel, tb_m 501 rfl rfl, by decide +kernel, tb_m 42 (by decide +kernel) rfl, ⟨by decide +kernel, by decide +kernel⟩⟩
theorem vi_pi_clear : vi_ M_pi_clear 0 := ⟨tb_m 499 (by decide +kernel) rfl, tb_m 500 (by decide +kernel) rfl, by decide +kernel⟩
set_option maxRecDepth 100000 in
theorem ok_pi_countRounds : Mok M_pi_countRounds := ⟨by decide +kernel, tb_m 655 rfl rfl, by decide +kernel, tb_m 42 (by decide +kernel) rfl, ⟨by decide +kernel, by decide +kernel⟩⟩
theorem vi_pi_countRounds : vi_ M_pi_countRounds 0 := ⟨tb_m 653 (by decide +kernel) rfl, tb_m 654 (by decide +kernel) rfl, by decide +kernel⟩
set_option maxRecDepth 100000 in
theorem ok_sh_init : Mok M_sh_init := ⟨by decide +kernel, tb_m 273 rfl rfl, by decide +kernel, tb_m 49 (by decide +kernel) rfl, ⟨by decide +kernel, by decide +kernel⟩⟩
theorem vn_sh_init : vn_ M_sh_init 0 := ⟨rfl, rfl, tb_m 272 (by decide +kernel) rfl, by decide +kernel⟩
set_option maxRecDepth 100000 in
theorem ok_sh_isMissing : Mok M_sh_isMissing := ⟨by decide +kernel, tb_m 442 rfl rfl, by decide +kernel, tb_m 49 (by decide +kernel) rfl, ⟨by decide +kernel, by decide +kernel⟩⟩
theorem vi_sh_isMissing : vi_ M_sh_isMissing 0 := ⟨tb_m 440 (by decide +kernel) rfl, tb_m 441 (by decide +kernel) rfl, by decide +kernel⟩
set_option maxRecDepth 100000 in
theorem ok_sh_lengthen : Mok M_sh_lengthen := ⟨by decide +kernel, tb_m 614 rfl rfl, by decide +kernel, tb_m 49 (by decide +kernel) rfl, ⟨by decide +kernel, by decide +kernel⟩⟩
theorem vi_sh_lengthen : vi_ M_sh_lengthen 1 := ⟨tb_m 612 (by decide +kernel) rfl, tb_m 613 (by decide +kernel) rfl, by decide +kernel⟩
set_option maxRecDepth 100000 in
theorem ok_sh_holds : Mok M_sh_holds := ⟨by decide +kernel, tb_m 629 rfl rfl, by decide +kernel, tb_m 49 (by decide +kernel) rfl, ⟨by decide +kernel, by decide +kernel⟩⟩
theorem vi_sh_holds : vi_ M_sh_holds 2 := ⟨tb_m 627 (by decide +kernel) rfl, tb_m 628 (by decide +kernel) rfl, by decide +kernel⟩
set_option maxRecDepth 100000 in
theorem ok_ta_init : Mok M_ta_init := ⟨by decide +kernel, tb_m 65 rfl rfl, by decide +kernel, tb_m 40 (by decide +kernel) rfl, ⟨by decide +kernel, by decide +kernel⟩⟩
theorem vn_ta_init : vn_ M_ta_init 0 := ⟨rfl, rfl, tb_m 64 (by decide +kernel) rfl, by decide +kernel⟩
set_option maxRecDepth 100000 in
theorem ok_ta_addWord : Mok M_ta_addWord := ⟨by decide +kernel, tb_m 319 rfl rfl, by decide +kernel, tb_m 40 (by decide +kernel) rfl, ⟨by decide +kernel, by decide +kernel⟩⟩
theorem vi_ta_addWord : vi_ M_ta_addWord 1 := ⟨tb_m 317 (by decide +kernel) rfl, tb_m 318 (by decide +kernel) rfl, by decide +kernel⟩
set_option maxRecDepth 100000 in
theorem ok_re_init : Mok M_re_init := ⟨by decide +kernel, tb_m 82 rfl rfl, by decide +kernel, tb_m 41 (by decide +kernel) rfl, ⟨by decide +kernel, by decide +kernel⟩⟩
theorem vn_re_init : vn_ M_re_init 0 := ⟨rfl, rfl, tb_m 81 (by decide +kernel) rfl, by decide +kernel⟩
set_option maxRecDepth 100000 in
theorem ok_re_faultOf : Mok M_re_faultOf := ⟨by decide +kernel, tb_m 332 rfl rfl, by decide +kernel, tb_m 41 (by decide +kernel) rfl, ⟨by decide +kernel, by decide +kernel⟩⟩
theorem vi_re_faultOf : vi_ M_re_faultOf 1 := ⟨tb_m 330 (by decide +kernel) rfl, tb_m 331 (by decide +kernel) rfl, by decide +kernel⟩
set_option maxRecDepth 100000 in
theorem ok_re_takes : Mok M_re_takes := ⟨by decide +kernel, tb_m 336 rfl rfl, by decide +kernel, tb_m 41 (by decide +kernel) rfl, ⟨by decide +kernel, by decide +kernel⟩⟩
theorem vi_re_takes : vi_ M_re_takes 1 := ⟨tb_m 335 (by decide +kernel) rfl, tb_m 0 (by decide +kernel) rfl, by decide +kernel⟩
set_option maxRecDepth 100000 in
theorem ok_re_kindOf : Mok M_re_kindOf := ⟨by decide +kernel, tb_m 366 rfl rfl, by decide +kernel, tb_m 41 (by decide +kernel) rfl, ⟨by decide +kernel, by decide +kernel⟩⟩
theorem vs_re_kindOf : vs_ M_re_kindOf 1 := ⟨tb_m 365 (by decide +kernel) rfl, by decide +kernel⟩
set_option maxRecDepth 100000 in
theorem ok_re_takesBeat : Mok M_re_takesBeat := ⟨by decide +kernel, tb_m 363 rfl rfl, by decide +kernel, tb_m 41 (by decide +kernel) rfl, ⟨by decide +kernel, by decide +kernel⟩⟩
theorem vi_re_takesBeat : vi_ M_re_takesBeat 1 := ⟨tb_m 362 (by decide +kernel) rfl, tb_m 6 (by decide +kernel) rfl, by decide +kernel⟩
set_option maxRecDepth 100000 in
theorem ok_re_takesGong : Mok M_re_takesGong := ⟨by decide +kernel, tb_m 370 rfl rfl, by decide +kernel, tb_m 41 (by decide +kernel) rfl, ⟨by decide +kernel, by decide +kernel⟩⟩
theorem vi_re_takesGong : vi_ M_re_takesGong 1 := ⟨tb_m 369 (by decide +kernel) rfl, tb_m 7 (by decide +kernel) rfl, by decide +kernel⟩
set_option maxRecDepth 100000 in
theorem ok_re_takesOpening : Mok M_re_takesOpening := ⟨by decide +kernel, tb_m 355 rfl rfl, by decide +kernel, tb_m 41 (by decide +kernel) rfl, ⟨by decide +kernel, by decide +kernel⟩⟩
theorem vi_re_takesOpening : vi_ M_re_takesOpening 0 := ⟨tb_m 354 (by decide +kernel) rfl, tb_m 4 (by decide +kernel) rfl, by decide +kernel⟩
set_option maxRecDepth 100000 in
theorem ok_re_takesClosing : Mok M_re_takesClosing := ⟨by decide +kernel, tb_m 359 rfl rfl, by decide +kernel, tb_m 41 (by decide +kernel) rfl, ⟨by decide +kernel, by decide +kernel⟩⟩
theorem vi_re_takesClosing : vi_ M_re_takesClosing 0 := ⟨tb_m 358 (by decide +kernel) rfl, tb_m 5 (by decide +kernel) rfl, by decide +kernel⟩
set_option maxRecDepth 100000 in
theorem ok_re_takesTimes : Mok M_re_takesTimes := ⟨by decide +kernel, tb_m 340 rfl rfl, by decide +kernel, tb_m 41 (by decide +kernel) rfl, ⟨by decide +kernel, by decide +kernel⟩⟩
theorem vi_re_takesTimes : vi_ M_re_takesTimes 1 := ⟨tb_m 339 (by decide +kernel) rfl, tb_m 1 (by decide +kernel) rfl, by decide +kernel⟩
set_option maxRecDepth 100000 in
theorem ok_re_repeatFrom : Mok M_re_repeatFrom := ⟨by decide +kernel, tb_m 344 rfl rfl, by decide +kernel, tb_m 41 (by decide +kernel) rfl, ⟨by decide +kernel, by decide +kernel⟩⟩
theorem vi_re_repeatFrom : vi_ M_re_repeatFrom 2 := ⟨tb_m 343 (by decide +kernel) rfl, tb_m 2 (by decide +kernel) rfl, by decide +kernel⟩
set_option maxRecDepth 100000 in
theorem ok_re_addBeat : Mok M_re_addBeat := ⟨by decide +kernel, tb_m 351 rfl rfl, by decide +kernel, tb_m 41 (by decide +kernel) rfl, ⟨by decide +kernel, by decide +kernel⟩⟩
theorem vi_re_addBeat : vi_ M_re_addBeat 2 := ⟨tb_m 350 (by decide +kernel) rfl, tb_m 3 (by decide +kernel) rfl, by decide +kernel⟩
set_option maxRecDepth 100000 in
theorem ok_wa_init : Mok M_wa_init := ⟨by decide +kernel, tb_m 154 rfl rfl, by decide +kernel, tb_m 44 (by decide +kernel) rfl, ⟨by decide +kernel, by decide +kernel⟩⟩
theorem vn_wa_init : vn_ M_wa_init 0 := ⟨rfl, rfl, tb_m 153 (by decide +kernel) rfl, by decide +kernel⟩
set_option maxRecDepth 100000 in
theorem ok_wa_reaches : Mok M_wa_reaches := ⟨by decide +kernel, tb_m 509 rfl rfl, by decide +kernel, tb_m 44 (by decide +kernel) rfl, ⟨by decide +kernel, by decide +kernel⟩⟩
theorem vi_wa_reaches : vi_ M_wa_reaches 3 := ⟨tb_m 507 (by decide +kernel) rfl, tb_m 508 (by decide +kernel) rfl, by decide +kernel⟩
set_option maxRecDepth 100000 in
theorem ok_wa_toldOr : Mok M_wa_toldOr := ⟨by decide +kernel, tb_m 512 rfl rfl, by decide +kernel, tb_m 44 (by decide +kernel) rfl, ⟨by decide +kernel, by decide +kernel⟩⟩
theorem vs_wa_toldOr : vs_ M_wa_toldOr 2 := ⟨tb_m 511 (by decide +kernel) rfl, by decide +kernel⟩
set_option maxRecDepth 100000 in
theorem ok_gh_init : Mok M_gh_init := ⟨by decide +kernel, tb_m 57 rfl rfl, by decide +kernel, tb_m 39 (by decide +kernel) rfl, ⟨by decide +kernel, by decide +kernel⟩⟩
theorem vn_gh_init : vn_ M_gh_init 0 := ⟨rfl, rfl, tb_m 56 (by decide +kernel) rfl, by decide +kernel⟩
set_option maxRecDepth 100000 in
theorem ok_gh_feed : Mok M_gh_feed := ⟨by decide +kernel, tb_m 314 rfl rfl, by decide +kernel, tb_m 39 (by decide +kernel) rfl, ⟨by decide +kernel, by decide +kernel⟩⟩
theorem vi_gh_feed : vi_ M_gh_feed 3 := ⟨tb_m 312 (by decide +kernel) rfl, tb_m 313 (by decide +kernel) rfl, by decide +kernel⟩
set_option maxRecDepth 100000 in
theorem ok_gh_trim : Mok M_gh_trim := ⟨by decide +kernel, tb_m 323 rfl rfl, by decide +kernel, tb_m 39 (by decide +kernel) rfl, ⟨by decide +kernel, by decide +kernel⟩⟩
theorem vi_gh_trim : vi_ M_gh_trim 1 := ⟨tb_m 321 (by decide +kernel) rfl, tb_m 322 (by decide +kernel) rfl, by decide +kernel⟩
set_option maxRecDepth 100000 in
theorem ok_gh_tune : Mok M_gh_tune := ⟨by decide +kernel, tb_m 328 rfl rfl, by decide +kernel, tb_m 39 (by decide +kernel) rfl, ⟨by decide +kernel, by decide +kernel⟩⟩
theorem vi_gh_tune : vi_ M_gh_tune 1 := ⟨tb_m 326 (by decide +kernel) rfl, tb_m 327 (by decide +kernel) rfl, by decide +kernel⟩
set_option maxRecDepth 100000 in
theorem ok_gh_told : Mok M_gh_told := ⟨by decide +kernel, tb_m 403 rfl rfl, by decide +kernel, tb_m 39 (by decide +kernel) rfl, ⟨by decide +kernel, by decide +kernel⟩⟩
theorem vi_gh_told : vi_ M_gh_told 3 := ⟨tb_m 401 (by decide +kernel) rfl, tb_m 402 (by decide +kernel) rfl, by decide +kernel⟩
set_option maxRecDepth 100000 in
theorem ok_gh_isOf : Mok M_gh_isOf := ⟨by decide +kernel, tb_m 411 rfl rfl, by decide +kernel, tb_m 39 (by decide +kernel) rfl, ⟨by decide +kernel, by decide +kernel⟩⟩
theorem vi_gh_isOf : vi_ M_gh_isOf 3 := ⟨tb_m 409 (by decide +kernel) rfl, tb_m 410 (by decide +kernel) rfl, by decide +kernel⟩
set_option maxRecDepth 100000 in
theorem ok_gh_strike : Mok M_gh_strike := ⟨by decide +kernel, tb_m 420 rfl rfl, by decide +kernel, tb_m 39 (by decide +kernel) rfl, ⟨by decide +kernel, by decide +kernel⟩⟩
theorem vi_gh_strike : vi_ M_gh_strike 5 := ⟨tb_m 418 (by decide +kernel) rfl, tb_m 419 (by decide +kernel) rfl, by decide +kernel⟩
set_option maxRecDepth 100000 in
theorem ok_gh_lay : Mok M_gh_lay := ⟨by decide +kernel, tb_m 438 rfl rfl, by decide +kernel, tb_m 39 (by decide +kernel) rfl, ⟨by decide +kernel, by decide +kernel⟩⟩
theorem vi_gh_lay : vi_ M_gh_lay 4 := ⟨tb_m 436 (by decide +kernel) rfl, tb_m 437 (by decide +kernel) rfl, by decide +kernel⟩
set_option maxRecDepth 100000 in
theorem ok_gh_together : Mok M_gh_together := ⟨by decide +kernel, tb_m 461 rfl rfl, by decide +kernel, tb_m 39 (by decide +kernel) rfl, ⟨by decide +kernel, by decide +kernel⟩⟩
theorem vi_gh_together : vi_ M_gh_together 4 := ⟨tb_m 459 (by decide +kernel) rfl, tb_m 460 (by decide +kernel) rfl, by decide +kernel⟩
set_option maxRecDepth 100000 in
theorem ok_gh_wrong : Mok M_gh_wrong := ⟨by decide +kernel, tb_m 465 rfl rfl, by decide +kernel, tb_m 39 (by decide +kernel) rfl, ⟨by decide +kernel, by decide +kernel⟩⟩
theorem vi_gh_wrong : vi_ M_gh_wrong 2 := ⟨tb_m 463 (by decide +kernel) rfl, tb_m 464 (by decide +kernel) rfl, by decide +kernel⟩
set_option maxRecDepth 100000 in
theorem ok_gh_use : Mok M_gh_use := ⟨by decide +kernel, tb_m 473 rfl rfl, by decide +kernel, tb_m 39 (by decide +kernel) rfl, ⟨by decide +kernel, by decide +kernel⟩⟩
theorem vi_gh_use : vi_ M_gh_use 3 := ⟨tb_m 471 (by decide +kernel) rfl, tb_m 472 (by decide +kernel) rfl, by decide +kernel⟩
set_option maxRecDepth 100000 in
theorem ok_gh_part : Mok M_gh_part := ⟨by decide +kernel, tb_m 477 rfl rfl, by decide +kernel, tb_m 39 (by decide +kernel) rfl, ⟨by decide +kernel, by decide +kernel⟩⟩
theorem vi_gh_part : vi_ M_gh_part 3 := ⟨tb_m 475 (by decide +kernel) rfl, tb_m 476 (by decide +kernel) rfl, by decide +kernel⟩
set_option maxRecDepth 100000 in
theorem ok_gh_signal : Mok M_gh_signal := ⟨by decide +kernel, tb_m 488 rfl rfl, by decide +kernel, tb_m 39 (by decide +kernel) rfl, ⟨by decide +kernel, by decide +kernel⟩⟩
theorem vi_gh_signal : vi_ M_gh_signal 2 := ⟨tb_m 486 (by decide +kernel) rfl, tb_m 487 (by decide +kernel) rfl, by decide +kernel⟩
set_option maxRecDepth 100000 in
theorem ok_gh_drop : Mok M_gh_drop := ⟨by decide +kernel, tb_m 497 rfl rfl, by decide +kernel, tb_m 39 (by decide +kernel) rfl, ⟨by decide +kernel, by decide +kernel⟩⟩
theorem vi_gh_drop : vi_ M_gh_drop 0 := ⟨tb_m 495 (by decide +kernel) rfl, tb_m 496 (by decide +kernel) rfl, by decide +kernel⟩
set_option maxRecDepth 100000 in
theorem ok_gh_round : Mok M_gh_round := ⟨by decide +kernel, tb_m 505 rfl rfl, by decide +kernel, tb_m 39 (by decide +kernel) rfl, ⟨by decide +kernel, by decide +kernel⟩⟩
theorem vi_gh_round : vi_ M_gh_round 2 := ⟨tb_m 503 (by decide +kernel) rfl, tb_m 504 (by decide +kernel) rfl, by decide +kernel⟩
set_option maxRecDepth 100000 in
theorem ok_gh_plays : Mok M_gh_plays := ⟨by decide +kernel, tb_m 517 rfl rfl, by decide +kernel, tb_m 39 (by decide +kernel) rfl, ⟨by decide +kernel, by decide +kernel⟩⟩
theorem vi_gh_plays : vi_ M_gh_plays 4 := ⟨tb_m 515 (by decide +kernel) rfl, tb_m 516 (by decide +kernel) rfl, by decide +kernel⟩
set_option maxRecDepth 100000 in
theorem ok_gh_damps : Mok M_gh_damps := ⟨by decide +kernel, tb_m 538 rfl rfl, by decide +kernel, tb_m 39 (by decide +kernel) rfl, ⟨by decide +kernel, by decide +kernel⟩⟩
theorem vi_gh_damps : vi_ M_gh_damps 4 := ⟨tb_m 536 (by decide +kernel) rfl, tb_m 537 (by decide +kernel) rfl, by decide +kernel⟩
set_option maxRecDepth 100000 in
theorem ok_gh_strikes : Mok M_gh_strikes := ⟨by decide +kernel, tb_m 545 rfl rfl, by decide +kernel, tb_m 39 (by decide +kernel) rfl, ⟨by decide +kernel, by decide +kernel⟩⟩
theorem vi_gh_strikes : vi_ M_gh_strikes 2 := ⟨tb_m 543 (by decide +kernel) rfl, tb_m 544 (by decide +kernel) rfl, by decide +kernel⟩
set_option maxRecDepth 100000 in
theorem ok_gh_ticks : Mok M_gh_ticks := ⟨by decide +kernel, tb_m 561 rfl rfl, by decide +kernel, tb_m 39 (by decide +kernel) rfl, ⟨by decide +kernel, by decide +kernel⟩⟩
theorem vi_gh_ticks : vi_ M_gh_ticks 0 := ⟨tb_m 559 (by decide +kernel) rfl, tb_m 560 (by decide +kernel) rfl, by decide +kernel⟩
set_option maxRecDepth 100000 in
theorem ok_gh_leaps : Mok M_gh_leaps := ⟨by decide +kernel, tb_m 565 rfl rfl, by decide +kernel, tb_m 39 (by decide +kernel) rfl, ⟨by decide +kernel, by decide +kernel⟩⟩
theorem vi_gh_leaps : vi_ M_gh_leaps 3 := ⟨tb_m 563 (by decide +kernel) rfl, tb_m 564 (by decide +kernel) rfl, by decide +kernel⟩
set_option maxRecDepth 100000 in
theorem ok_gh_choice : Mok M_gh_choice := ⟨by decide +kernel, tb_m 598 rfl rfl, by decide +kernel, tb_m 39 (by decide +kernel) rfl, ⟨by decide +kernel, by decide +kernel⟩⟩
theorem vi_gh_choice : vi_ M_gh_choice 2 := ⟨tb_m 596 (by decide +kernel) rfl, tb_m 597 (by decide +kernel) rfl, by decide +kernel⟩
set_option maxRecDepth 100000 in
theorem ok_gh_sheet : Mok M_gh_sheet := ⟨by decide +kernel, tb_m 609 rfl rfl, by decide +kernel, tb_m 39 (by decide +kernel) rfl, ⟨by decide +kernel, by decide +kernel⟩⟩
theorem vi_gh_sheet : vi_ M_gh_sheet 2 := ⟨tb_m 607 (by decide +kernel) rfl, tb_m 608 (by decide +kernel) rfl, by decide +kernel⟩
set_option maxRecDepth 100000 in
theorem ok_gh_mark : Mok M_gh_mark := ⟨by decide +kernel, tb_m 621 rfl rfl, by decide +kernel, tb_m 39 (by decide +kernel) rfl, ⟨by decide +kernel, by decide +kernel⟩⟩
theorem vi_gh_mark : vi_ M_gh_mark 3 := ⟨tb_m 619 (by decide +kernel) rfl, tb_m 620 (by decide +kernel) rfl, by decide +kernel⟩
set_option maxRecDepth 100000 in
theorem ok_gh_copy : Mok M_gh_copy := ⟨by decide +kernel, tb_m 625 rfl rfl, by decide +kernel, tb_m 39 (by decide +kernel) rfl, ⟨by decide +kernel, by decide +kernel⟩⟩
theorem vi_gh_copy : vi_ M_gh_copy 5 := ⟨tb_m 623 (by decide +kernel) rfl, tb_m 624 (by decide +kernel) rfl, by decide +kernel⟩
set_option maxRecDepth 100000 in
theorem ok_gh_count : Mok M_gh_count := ⟨by decide +kernel, tb_m 634 rfl rfl, by decide +kernel, tb_m 39 (by decide +kernel) rfl, ⟨by decide +kernel, by decide +kernel⟩⟩
theorem vi_gh_count : vi_ M_gh_count 1 := ⟨tb_m 632 (by decide +kernel) rfl, tb_m 633 (by decide +kernel) rfl, by decide +kernel⟩
set_option maxRecDepth 100000 in
theorem ok_gh_isBelow : Mok M_gh_isBelow := ⟨by decide +kernel, tb_m 347 rfl rfl, by decide +kernel, tb_m 39 (by decide +kernel) rfl, ⟨by decide +kernel, by decide +kernel⟩⟩
theorem vs_gh_isBelow : vs_ M_gh_isBelow 2 := ⟨tb_m 346 (by decide +kernel) rfl, by decide +kernel⟩
set_option maxRecDepth 100000 in
theorem ok_gh_isShift : Mok M_gh_isShift := ⟨by decide +kernel, tb_m 430 rfl rfl, by decide +kernel, tb_m 39 (by decide +kernel) rfl, ⟨by decide +kernel, by decide +kernel⟩⟩
theorem vs_gh_isShift : vs_ M_gh_isShift 1 := ⟨tb_m 429 (by decide +kernel) rfl, by decide +kernel⟩
set_option maxRecDepth 100000 in
theorem ok_gh_isLevelOrNone : Mok M_gh_isLevelOrNone := ⟨by decide +kernel, tb_m 480 rfl rfl, by decide +kernel, tb_m 39 (by decide +kernel) rfl, ⟨by decide +kernel, by decide +kernel⟩⟩
theorem vs_gh_isLevelOrNone : vs_ M_gh_isLevelOrNone 1 := ⟨tb_m 479 (by decide +kernel) rfl, by decide +kernel⟩
set_option maxRecDepth 100000 in
theorem ok_gh_isHalfPlayer : Mok M_gh_isHalfPlayer := ⟨by decide +kernel, tb_m 524 rfl rfl, by decide +kernel, tb_m 39 (by decide +kernel) rfl, ⟨by decide +kernel, by decide +kernel⟩⟩
theorem vs_gh_isHalfPlayer : vs_ M_gh_isHalfPlayer 1 := ⟨tb_m 523 (by decide +kernel) rfl, by decide +kernel⟩
set_option maxRecDepth 100000 in
theorem ok_gh_hasBeat : Mok M_gh_hasBeat := ⟨by decide +kernel, tb_m 407 rfl rfl, by decide +kernel, tb_m 39 (by decide +kernel) rfl, ⟨by decide +kernel, by decide +kernel⟩⟩
theorem vi_gh_hasBeat : vi_ M_gh_hasBeat 2 := ⟨tb_m 406 (by decide +kernel) rfl, tb_m 11 (by decide +kernel) rfl, by decide +kernel⟩
set_option maxRecDepth 100000 in
theorem ok_gh_hasFigure : Mok M_gh_hasFigure := ⟨by decide +kernel, tb_m 427 rfl rfl, by decide +kernel, tb_m 39 (by decide +kernel) rfl, ⟨by decide +kernel, by decide +kernel⟩⟩
theorem vs_gh_hasFigure : vs_ M_gh_hasFigure 2 := ⟨tb_m 426 (by decide +kernel) rfl, by decide +kernel⟩
set_option maxRecDepth 100000 in
theorem ok_gh_hasStep : Mok M_gh_hasStep := ⟨by decide +kernel, tb_m 424 rfl rfl, by decide +kernel, tb_m 39 (by decide +kernel) rfl, ⟨by decide +kernel, by decide +kernel⟩⟩
theorem vi_gh_hasStep : vi_ M_gh_hasStep 3 := ⟨tb_m 423 (by decide +kernel) rfl, tb_m 12 (by decide +kernel) rfl, by decide +kernel⟩
set_option maxRecDepth 100000 in
theorem ok_gh_goesTo : Mok M_gh_goesTo := ⟨by decide +kernel, tb_m 521 rfl rfl, by decide +kernel, tb_m 39 (by decide +kernel) rfl, ⟨by decide +kernel, by decide +kernel⟩⟩
theorem vi_gh_goesTo : vi_ M_gh_goesTo 3 := ⟨tb_m 520 (by decide +kernel) rfl, tb_m 13 (by decide +kernel) rfl, by decide +kernel⟩
set_option maxRecDepth 100000 in
theorem ok_gh_standsUnder : Mok M_gh_standsUnder := ⟨by decide +kernel, tb_m 414 rfl rfl, by decide +kernel, tb_m 39 (by decide +kernel) rfl, ⟨by decide +kernel, by decide +kernel⟩⟩
theorem vs_gh_standsUnder : vs_ M_gh_standsUnder 2 := ⟨tb_m 413 (by decide +kernel) rfl, by decide +kernel⟩
set_option maxRecDepth 100000 in
theorem ok_gh_keyOf : Mok M_gh_keyOf := ⟨by decide +kernel, tb_m 534 rfl rfl, by decide +kernel, tb_m 39 (by decide +kernel) rfl, ⟨by decide +kernel, by decide +kernel⟩⟩
theorem vs_gh_keyOf : vs_ M_gh_keyOf 2 := ⟨tb_m 533 (by decide +kernel) rfl, by decide +kernel⟩
set_option maxRecDepth 100000 in
theorem ok_gh_keyAt : Mok M_gh_keyAt := ⟨by decide +kernel, tb_m 527 rfl rfl, by decide +kernel, tb_m 39 (by decide +kernel) rfl, ⟨by decide +kernel, by decide +kernel⟩⟩
theorem vs_gh_keyAt : vs_ M_gh_keyAt 5 := ⟨tb_m 526 (by decide +kernel) rfl, by decide +kernel⟩
set_option maxRecDepth 100000 in
theorem ok_gh_keyAhead : Mok M_gh_keyAhead := ⟨by decide +kernel, tb_m 541 rfl rfl, by decide +kernel, tb_m 39 (by decide +kernel) rfl, ⟨by decide +kernel, by decide +kernel⟩⟩
theorem vs_gh_keyAhead : vs_ M_gh_keyAhead 5 := ⟨tb_m 540 (by decide +kernel) rfl, by decide +kernel⟩
set_option maxRecDepth 100000 in
theorem ok_gh_halfStrikes : Mok M_gh_halfStrikes := ⟨by decide +kernel, tb_m 557 rfl rfl, by decide +kernel, tb_m 39 (by decide +kernel) rfl, ⟨by decide +kernel, by decide +kernel⟩⟩
theorem vs_gh_halfStrikes : vs_ M_gh_halfStrikes 3 := ⟨tb_m 556 (by decide +kernel) rfl, by decide +kernel⟩
set_option maxRecDepth 100000 in
theorem ok_gh_allBeats : Mok M_gh_allBeats := ⟨by decide +kernel, tb_m 638 rfl rfl, by decide +kernel, tb_m 39 (by decide +kernel) rfl, ⟨by decide +kernel, by decide +kernel⟩⟩
theorem vi_gh_allBeats : vi_ M_gh_allBeats 0 := ⟨tb_m 637 (by decide +kernel) rfl, tb_m 15 (by decide +kernel) rfl, by decide +kernel⟩
set_option maxRecDepth 100000 in
theorem ok_gh_allGongs : Mok M_gh_allGongs := ⟨by decide +kernel, tb_m 642 rfl rfl, by decide +kernel, tb_m 39 (by decide +kernel) rfl, ⟨by decide +kernel, by decide +kernel⟩⟩
theorem vi_gh_allGongs : vi_ M_gh_allGongs 0 := ⟨tb_m 641 (by decide +kernel) rfl, tb_m 16 (by decide +kernel) rfl, by decide +kernel⟩
set_option maxRecDepth 100000 in
theorem ok_gh_allRight : Mok M_gh_allRight := ⟨by decide +kernel, tb_m 646 rfl rfl, by decide +kernel, tb_m 39 (by decide +kernel) rfl, ⟨by decide +kernel, by decide +kernel⟩⟩
theorem vi_gh_allRight : vi_ M_gh_allRight 0 := ⟨tb_m 645 (by decide +kernel) rfl, tb_m 17 (by decide +kernel) rfl, by decide +kernel⟩
set_option maxRecDepth 100000 in
theorem ok_gh_countTold : Mok M_gh_countTold := ⟨by decide +kernel, tb_m 457 rfl rfl, by decide +kernel, tb_m 39 (by decide +kernel) rfl, ⟨by decide +kernel, by decide +kernel⟩⟩
theorem vs_gh_countTold : vs_ M_gh_countTold 2 := ⟨tb_m 456 (by decide +kernel) rfl, by decide +kernel⟩
set_option maxRecDepth 100000 in
theorem ok_mo_init : Mok M_mo_init := ⟨by decide +kernel, tb_m 660 rfl rfl, by decide +kernel, tb_m 50 (by decide +kernel) rfl, ⟨by decide +kernel, by decide +kernel⟩⟩
theorem vn_mo_init : vn_ M_mo_init 0 := ⟨rfl, rfl, tb_m 659 (by decide +kernel) rfl, by decide +kernel⟩
set_option maxRecDepth 100000 in
theorem ok_mo_isIn : Mok M_mo_isIn := ⟨by decide +kernel, tb_m 750 rfl rfl, by decide +kernel, tb_m 50 (by decide +kernel) rfl, ⟨by decide +kernel, by decide +kernel⟩⟩
theorem vs_mo_isIn : vs_ M_mo_isIn 3 := ⟨tb_m 749 (by decide +kernel) rfl, by decide +kernel⟩
set_option maxRecDepth 100000 in
theorem ok_mo_isCircle : Mok M_mo_isCircle := ⟨by decide +kernel, tb_m 785 rfl rfl, by decide +kernel, tb_m 50 (by decide +kernel) rfl, ⟨by decide +kernel, by decide +kernel⟩⟩
theorem vs_mo_isCircle : vs_ M_mo_isCircle 1 := ⟨tb_m 784 (by decide +kernel) rfl, by decide +kernel⟩
set_option maxRecDepth 100000 in
theorem ok_mo_isBeat : Mok M_mo_isBeat := ⟨by decide +kernel, tb_m 794 rfl rfl, by decide +kernel, tb_m 50 (by decide +kernel) rfl, ⟨by decide +kernel, by decide +kernel⟩⟩
theorem vi_mo_isBeat : vi_ M_mo_isBeat 2 := ⟨tb_m 793 (by decide +kernel) rfl, tb_m 25 (by decide +kernel) rfl, by decide +kernel⟩
set_option maxRecDepth 100000 in
theorem ok_mo_four : Mok M_mo_four := ⟨by decide +kernel, tb_m 743 rfl rfl, by decide +kernel, tb_m 50 (by decide +kernel) rfl, ⟨by decide +kernel, by decide +kernel⟩⟩
theorem vi_mo_four : vi_ M_mo_four 1 := ⟨tb_m 742 (by decide +kernel) rfl, tb_m 18 (by decide +kernel) rfl, by decide +kernel⟩
set_option maxRecDepth 100000 in
theorem ok_mo_feed : Mok M_mo_feed := ⟨by decide +kernel, tb_m 738 rfl rfl, by decide +kernel, tb_m 50 (by decide +kernel) rfl, ⟨by decide +kernel, by decide +kernel⟩⟩
theorem vi_mo_feed : vi_ M_mo_feed 3 := ⟨tb_m 736 (by decide +kernel) rfl, tb_m 737 (by decide +kernel) rfl, by decide +kernel⟩
set_option maxRecDepth 100000 in
theorem ok_mo_trim : Mok M_mo_trim := ⟨by decide +kernel, tb_m 747 rfl rfl, by decide +kernel, tb_m 50 (by decide +kernel) rfl, ⟨by decide +kernel, by decide +kernel⟩⟩
theorem vi_mo_trim : vi_ M_mo_trim 1 := ⟨tb_m 745 (by decide +kernel) rfl, tb_m 746 (by decide +kernel) rfl, by decide +kernel⟩
set_option maxRecDepth 100000 in
theorem ok_mo_here : Mok M_mo_here := ⟨by decide +kernel, tb_m 767 rfl rfl, by decide +kernel, tb_m 50 (by decide +kernel) rfl, ⟨by decide +kernel, by decide +kernel⟩⟩
theorem vi_mo_here : vi_ M_mo_here 0 := ⟨tb_m 766 (by decide +kernel) rfl, tb_m 21 (by decide +kernel) rfl, by decide +kernel⟩
set_option maxRecDepth 100000 in
theorem ok_mo_isBeatHere : Mok M_mo_isBeatHere := ⟨by decide +kernel, tb_m 763 rfl rfl, by decide +kernel, tb_m 50 (by decide +kernel) rfl, ⟨by decide +kernel, by decide +kernel⟩⟩
theorem vi_mo_isBeatHere : vi_ M_mo_isBeatHere 0 := ⟨tb_m 762 (by decide +kernel) rfl, tb_m 20 (by decide +kernel) rfl, by decide +kernel⟩
set_option maxRecDepth 100000 in
theorem ok_mo_gongOf : Mok M_mo_gongOf := ⟨by decide +kernel, tb_m 774 rfl rfl, by decide +kernel, tb_m 50 (by decide +kernel) rfl, ⟨by decide +kernel, by decide +kernel⟩⟩
theorem vs_mo_gongOf : vs_ M_mo_gongOf 1 := ⟨tb_m 773 (by decide +kernel) rfl, by decide +kernel⟩
set_option maxRecDepth 100000 in
theorem ok_mo_write : Mok M_mo_write := ⟨by decide +kernel, tb_m 778 rfl rfl, by decide +kernel, tb_m 50 (by decide +kernel) rfl, ⟨by decide +kernel, by decide +kernel⟩⟩
theorem vi_mo_write : vi_ M_mo_write 2 := ⟨tb_m 777 (by decide +kernel) rfl, tb_m 23 (by decide +kernel) rfl, by decide +kernel⟩
set_option maxRecDepth 100000 in
theorem ok_mo_readBeat : Mok M_mo_readBeat := ⟨by decide +kernel, tb_m 771 rfl rfl, by decide +kernel, tb_m 50 (by decide +kernel) rfl, ⟨by decide +kernel, by decide +kernel⟩⟩
theorem vi_mo_readBeat : vi_ M_mo_readBeat 0 := ⟨tb_m 770 (by decide +kernel) rfl, tb_m 22 (by decide +kernel) rfl, by decide +kernel⟩
set_option maxRecDepth 100000 in
theorem ok_mo_readAgain : Mok M_mo_readAgain := ⟨by decide +kernel, tb_m 782 rfl rfl, by decide +kernel, tb_m 50 (by decide +kernel) rfl, ⟨by decide +kernel, by decide +kernel⟩⟩
theorem vi_mo_readAgain : vi_ M_mo_readAgain 0 := ⟨tb_m 781 (by decide +kernel) rfl, tb_m 24 (by decide +kernel) rfl, by decide +kernel⟩
set_option maxRecDepth 100000 in
theorem ok_mo_readTune : Mok M_mo_readTune := ⟨by decide +kernel, tb_m 759 rfl rfl, by decide +kernel, tb_m 50 (by decide +kernel) rfl, ⟨by decide +kernel, by decide +kernel⟩⟩
theorem vi_mo_readTune : vi_ M_mo_readTune 0 := ⟨tb_m 758 (by decide +kernel) rfl, tb_m 19 (by decide +kernel) rfl, by decide +kernel⟩
set_option maxRecDepth 100000 in
theorem ok_mo_tune : Mok M_mo_tune := ⟨by decide +kernel, tb_m 755 rfl rfl, by decide +kernel, tb_m 50 (by decide +kernel) rfl, ⟨by decide +kernel, by decide +kernel⟩⟩
theorem vi_mo_tune : vi_ M_mo_tune 1 := ⟨tb_m 753 (by decide +kernel) rfl, tb_m 754 (by decide +kernel) rfl, by decide +kernel⟩
set_option maxRecDepth 100000 in
theorem ok_mo_tone : Mok M_mo_tone := ⟨by decide +kernel, tb_m 802 rfl rfl, by decide +kernel, tb_m 50 (by decide +kernel) rfl, ⟨by decide +kernel, by decide +kernel⟩⟩
theorem vi_mo_tone : vi_ M_mo_tone 2 := ⟨tb_m 801 (by decide +kernel) rfl, tb_m 26 (by decide +kernel) rfl, by decide +kernel⟩
set_option maxRecDepth 100000 in
theorem ok_mo_orNone : Mok M_mo_orNone := ⟨by decide +kernel, tb_m 797 rfl rfl, by decide +kernel, tb_m 50 (by decide +kernel) rfl, ⟨by decide +kernel, by decide +kernel⟩⟩
theorem vs_mo_orNone : vs_ M_mo_orNone 1 := ⟨tb_m 796 (by decide +kernel) rfl, by decide +kernel⟩
set_option maxRecDepth 100000 in
theorem ok_mo_told : Mok M_mo_told := ⟨by decide +kernel, tb_m 790 rfl rfl, by decide +kernel, tb_m 50 (by decide +kernel) rfl, ⟨by decide +kernel, by decide +kernel⟩⟩
theorem vi_mo_told : vi_ M_mo_told 3 := ⟨tb_m 788 (by decide +kernel) rfl, tb_m 789 (by decide +kernel) rfl, by decide +kernel⟩
set_option maxRecDepth 100000 in
theorem ok_mo_isOf : Mok M_mo_isOf := ⟨by decide +kernel, tb_m 806 rfl rfl, by decide +kernel, tb_m 50 (by decide +kernel) rfl, ⟨by decide +kernel, by decide +kernel⟩⟩
theorem vi_mo_isOf : vi_ M_mo_isOf 3 := ⟨tb_m 804 (by decide +kernel) rfl, tb_m 805 (by decide +kernel) rfl, by decide +kernel⟩
set_option maxRecDepth 100000 in
theorem ok_mo_stepsOf : Mok M_mo_stepsOf := ⟨by decide +kernel, tb_m 816 rfl rfl, by decide +kernel, tb_m 50 (by decide +kernel) rfl, ⟨by decide +kernel, by decide +kernel⟩⟩
theorem vs_mo_stepsOf : vs_ M_mo_stepsOf 1 := ⟨tb_m 815 (by decide +kernel) rfl, by decide +kernel⟩
set_option maxRecDepth 100000 in
theorem ok_mo_isFigure : Mok M_mo_isFigure := ⟨by decide +kernel, tb_m 813 rfl rfl, by decide +kernel, tb_m 50 (by decide +kernel) rfl, ⟨by decide +kernel, by decide +kernel⟩⟩
theorem vs_mo_isFigure : vs_ M_mo_isFigure 2 := ⟨tb_m 812 (by decide +kernel) rfl, by decide +kernel⟩
set_option maxRecDepth 100000 in
theorem ok_mo_placeOf : Mok M_mo_placeOf := ⟨by decide +kernel, tb_m 819 rfl rfl, by decide +kernel, tb_m 50 (by decide +kernel) rfl, ⟨by decide +kernel, by decide +kernel⟩⟩
theorem vs_mo_placeOf : vs_ M_mo_placeOf 4 := ⟨tb_m 818 (by decide +kernel) rfl, by decide +kernel⟩
set_option maxRecDepth 100000 in
theorem ok_mo_strike : Mok M_mo_strike := ⟨by decide +kernel, tb_m 810 rfl rfl, by decide +kernel, tb_m 50 (by decide +kernel) rfl, ⟨by decide +kernel, by decide +kernel⟩⟩
theorem vi_mo_strike : vi_ M_mo_strike 5 := ⟨tb_m 808 (by decide +kernel) rfl, tb_m 809 (by decide +kernel) rfl, by decide +kernel⟩
set_option maxRecDepth 100000 in
theorem ok_mo_isSheet : Mok M_mo_isSheet := ⟨by decide +kernel, tb_m 826 rfl rfl, by decide +kernel, tb_m 50 (by decide +kernel) rfl, ⟨by decide +kernel, by decide +kernel⟩⟩
theorem vs_mo_isSheet : vs_ M_mo_isSheet 1 := ⟨tb_m 825 (by decide +kernel) rfl, by decide +kernel⟩
set_option maxRecDepth 100000 in
theorem ok_mo_lay : Mok M_mo_lay := ⟨by decide +kernel, tb_m 823 rfl rfl, by decide +kernel, tb_m 50 (by decide +kernel) rfl, ⟨by decide +kernel, by decide +kernel⟩⟩
theorem vi_mo_lay : vi_ M_mo_lay 4 := ⟨tb_m 821 (by decide +kernel) rfl, tb_m 822 (by decide +kernel) rfl, by decide +kernel⟩
set_option maxRecDepth 100000 in
theorem ok_mo_together : Mok M_mo_together := ⟨by decide +kernel, tb_m 832 rfl rfl, by decide +kernel, tb_m 50 (by decide +kernel) rfl, ⟨by decide +kernel, by decide +kernel⟩⟩
theorem vi_mo_together : vi_ M_mo_together 4 := ⟨tb_m 830 (by decide +kernel) rfl, tb_m 831 (by decide +kernel) rfl, by decide +kernel⟩
set_option maxRecDepth 100000 in
theorem ok_mo_doesStrike : Mok M_mo_doesStrike := ⟨by decide +kernel, tb_m 844 rfl rfl, by decide +kernel, tb_m 50 (by decide +kernel) rfl, ⟨by decide +kernel, by decide +kernel⟩⟩
theorem vi_mo_doesStrike : vi_ M_mo_doesStrike 4 := ⟨tb_m 843 (by decide +kernel) rfl, tb_m 28 (by decide +kernel) rfl, by decide +kernel⟩
set_option maxRecDepth 100000 in
theorem ok_mo_wrongStep : Mok M_mo_wrongStep := ⟨by decide +kernel, tb_m 840 rfl rfl, by decide +kernel, tb_m 50 (by decide +kernel) rfl, ⟨by decide +kernel, by decide +kernel⟩⟩
theorem vi_mo_wrongStep : vi_ M_mo_wrongStep 2 := ⟨tb_m 839 (by decide +kernel) rfl, tb_m 27 (by decide +kernel) rfl, by decide +kernel⟩
set_option maxRecDepth 100000 in
theorem ok_mo_wrong : Mok M_mo_wrong := ⟨by decide +kernel, tb_m 836 rfl rfl, by decide +kernel, tb_m 50 (by decide +kernel) rfl, ⟨by decide +kernel, by decide +kernel⟩⟩
theorem vi_mo_wrong : vi_ M_mo_wrong 2 := ⟨tb_m 834 (by decide +kernel) rfl, tb_m 835 (by decide +kernel) rfl, by decide +kernel⟩
set_option maxRecDepth 100000 in
theorem ok_mo_use : Mok M_mo_use := ⟨by decide +kernel, tb_m 848 rfl rfl, by decide +kernel, tb_m 50 (by decide +kernel) rfl, ⟨by decide +kernel, by decide +kernel⟩⟩
theorem vi_mo_use : vi_ M_mo_use 3 := ⟨tb_m 846 (by decide +kernel) rfl, tb_m 847 (by decide +kernel) rfl, by decide +kernel⟩
set_option maxRecDepth 100000 in
theorem ok_mo_part : Mok M_mo_part := ⟨by decide +kernel, tb_m 852 rfl rfl, by decide +kernel, tb_m 50 (by decide +kernel) rfl, ⟨by decide +kernel, by decide +kernel⟩⟩
theorem vi_mo_part : vi_ M_mo_part 3 := ⟨tb_m 850 (by decide +kernel) rfl, tb_m 851 (by decide +kernel) rfl, by decide +kernel⟩
set_option maxRecDepth 100000 in
theorem ok_mo_signalMany : Mok M_mo_signalMany := ⟨by decide +kernel, tb_m 860 rfl rfl, by decide +kernel, tb_m 50 (by decide +kernel) rfl, ⟨by decide +kernel, by decide +kernel⟩⟩
theorem vi_mo_signalMany : vi_ M_mo_signalMany 0 := ⟨tb_m 859 (by decide +kernel) rfl, tb_m 29 (by decide +kernel) rfl, by decide +kernel⟩
set_option maxRecDepth 100000 in
theorem ok_mo_signal : Mok M_mo_signal := ⟨by decide +kernel, tb_m 856 rfl rfl, by decide +kernel, tb_m 50 (by decide +kernel) rfl, ⟨by decide +kernel, by decide +kernel⟩⟩
theorem vi_mo_signal : vi_ M_mo_signal 2 := ⟨tb_m 854 (by decide +kernel) rfl, tb_m 855 (by decide +kernel) rfl, by decide +kernel⟩
set_option maxRecDepth 100000 in
theorem ok_mo_drop : Mok M_mo_drop := ⟨by decide +kernel, tb_m 864 rfl rfl, by decide +kernel, tb_m 50 (by decide +kernel) rfl, ⟨by decide +kernel, by decide +kernel⟩⟩
theorem vi_mo_drop : vi_ M_mo_drop 0 := ⟨tb_m 862 (by decide +kernel) rfl, tb_m 863 (by decide +kernel) rfl, by decide +kernel⟩
set_option maxRecDepth 100000 in
theorem ok_mo_rounds : Mok M_mo_rounds := ⟨by decide +kernel, tb_m 876 rfl rfl, by decide +kernel, tb_m 50 (by decide +kernel) rfl, ⟨by decide +kernel, by decide +kernel⟩⟩
theorem vi_mo_rounds : vi_ M_mo_rounds 0 := ⟨tb_m 875 (by decide +kernel) rfl, tb_m 31 (by decide +kernel) rfl, by decide +kernel⟩
set_option maxRecDepth 100000 in
theorem ok_mo_isRound : Mok M_mo_isRound := ⟨by decide +kernel, tb_m 872 rfl rfl, by decide +kernel, tb_m 50 (by decide +kernel) rfl, ⟨by decide +kernel, by decide +kernel⟩⟩
theorem vi_mo_isRound : vi_ M_mo_isRound 1 := ⟨tb_m 871 (by decide +kernel) rfl, tb_m 30 (by decide +kernel) rfl, by decide +kernel⟩
set_option maxRecDepth 100000 in
theorem ok_mo_goTo : Mok M_mo_goTo := ⟨by decide +kernel, tb_m 880 rfl rfl, by decide +kernel, tb_m 50 (by decide +kernel) rfl, ⟨by decide +kernel, by decide +kernel⟩⟩
theorem vi_mo_goTo : vi_ M_mo_goTo 1 := ⟨tb_m 879 (by decide +kernel) rfl, tb_m 32 (by decide +kernel) rfl, by decide +kernel⟩
set_option maxRecDepth 100000 in
theorem ok_mo_round : Mok M_mo_round := ⟨by decide +kernel, tb_m 868 rfl rfl, by decide +kernel, tb_m 50 (by decide +kernel) rfl, ⟨by decide +kernel, by decide +kernel⟩⟩
theorem vi_mo_round : vi_ M_mo_round 2 := ⟨tb_m 866 (by decide +kernel) rfl, tb_m 867 (by decide +kernel) rfl, by decide +kernel⟩
set_option maxRecDepth 100000 in
theorem ok_mo_key : Mok M_mo_key := ⟨by decide +kernel, tb_m 903 rfl rfl, by decide +kernel, tb_m 50 (by decide +kernel) rfl, ⟨by decide +kernel, by decide +kernel⟩⟩
theorem vs_mo_key : vs_ M_mo_key 2 := ⟨tb_m 902 (by decide +kernel) rfl, by decide +kernel⟩
set_option maxRecDepth 100000 in
theorem ok_mo_turn : Mok M_mo_turn := ⟨by decide +kernel, tb_m 896 rfl rfl, by decide +kernel, tb_m 50 (by decide +kernel) rfl, ⟨by decide +kernel, by decide +kernel⟩⟩
theorem vi_mo_turn : vi_ M_mo_turn 2 := ⟨tb_m 895 (by decide +kernel) rfl, tb_m 35 (by decide +kernel) rfl, by decide +kernel⟩
set_option maxRecDepth 100000 in
theorem ok_mo_struck : Mok M_mo_struck := ⟨by decide +kernel, tb_m 900 rfl rfl, by decide +kernel, tb_m 50 (by decide +kernel) rfl, ⟨by decide +kernel, by decide +kernel⟩⟩
theorem vi_mo_struck : vi_ M_mo_struck 6 := ⟨tb_m 899 (by decide +kernel) rfl, tb_m 36 (by decide +kernel) rfl, by decide +kernel⟩
set_option maxRecDepth 100000 in
theorem ok_mo_playedNow : Mok M_mo_playedNow := ⟨by decide +kernel, tb_m 892 rfl rfl, by decide +kernel, tb_m 50 (by decide +kernel) rfl, ⟨by decide +kernel, by decide +kernel⟩⟩
theorem vi_mo_playedNow : vi_ M_mo_playedNow 3 := ⟨tb_m 891 (by decide +kernel) rfl, tb_m 34 (by decide +kernel) rfl, by decide +kernel⟩
set_option maxRecDepth 100000 in
theorem ok_mo_isStep : Mok M_mo_isStep := ⟨by decide +kernel, tb_m 888 rfl rfl, by decide +kernel, tb_m 50 (by decide +kernel) rfl, ⟨by decide +kernel, by decide +kernel⟩⟩
theorem vi_mo_isStep : vi_ M_mo_isStep 3 := ⟨tb_m 887 (by decide +kernel) rfl, tb_m 33 (by decide +kernel) rfl, by decide +kernel⟩
set_option maxRecDepth 100000 in
theorem ok_mo_plays : Mok M_mo_plays := ⟨by decide +kernel, tb_m 884 rfl rfl, by decide +kernel, tb_m 50 (by decide +kernel) rfl, ⟨by decide +kernel, by decide +kernel⟩⟩
theorem vi_mo_plays : vi_ M_mo_plays 4 := ⟨tb_m 882 (by decide +kernel) rfl, tb_m 883 (by decide +kernel) rfl, by decide +kernel⟩
set_option maxRecDepth 100000 in
theorem ok_mo_damps : Mok M_mo_damps := ⟨by decide +kernel, tb_m 907 rfl rfl, by decide +kernel, tb_m 50 (by decide +kernel) rfl, ⟨by decide +kernel, by decide +kernel⟩⟩
theorem vi_mo_damps : vi_ M_mo_damps 4 := ⟨tb_m 905 (by decide +kernel) rfl, tb_m 906 (by decide +kernel) rfl, by decide +kernel⟩
set_option maxRecDepth 100000 in
theorem ok_mo_strikes : Mok M_mo_strikes := ⟨by decide +kernel, tb_m 911 rfl rfl, by decide +kernel, tb_m 50 (by decide +kernel) rfl, ⟨by decide +kernel, by decide +kernel⟩⟩
theorem vi_mo_strikes : vi_ M_mo_strikes 2 := ⟨tb_m 909 (by decide +kernel) rfl, tb_m 910 (by decide +kernel) rfl, by decide +kernel⟩
set_option maxRecDepth 100000 in
theorem ok_mo_ticks : Mok M_mo_ticks := ⟨by decide +kernel, tb_m 915 rfl rfl, by decide +kernel, tb_m 50 (by decide +kernel) rfl, ⟨by decide +kernel, by decide +kernel⟩⟩
theorem vi_mo_ticks : vi_ M_mo_ticks 0 := ⟨tb_m 913 (by decide +kernel) rfl, tb_m 914 (by decide +kernel) rfl, by decide +kernel⟩
set_option maxRecDepth 100000 in
theorem ok_mo_leapsOf : Mok M_mo_leapsOf := ⟨by decide +kernel, tb_m 923 rfl rfl, by decide +kernel, tb_m 50 (by decide +kernel) rfl, ⟨by decide +kernel, by decide +kernel⟩⟩
theorem vi_mo_leapsOf : vi_ M_mo_leapsOf 2 := ⟨tb_m 922 (by decide +kernel) rfl, tb_m 37 (by decide +kernel) rfl, by decide +kernel⟩
set_option maxRecDepth 100000 in
theorem ok_mo_leaps : Mok M_mo_leaps := ⟨by decide +kernel, tb_m 919 rfl rfl, by decide +kernel, tb_m 50 (by decide +kernel) rfl, ⟨by decide +kernel, by decide +kernel⟩⟩
theorem vi_mo_leaps : vi_ M_mo_leaps 3 := ⟨tb_m 917 (by decide +kernel) rfl, tb_m 918 (by decide +kernel) rfl, by decide +kernel⟩
set_option maxRecDepth 100000 in
theorem ok_mo_choice : Mok M_mo_choice := ⟨by decide +kernel, tb_m 927 rfl rfl, by decide +kernel, tb_m 50 (by decide +kernel) rfl, ⟨by decide +kernel, by decide +kernel⟩⟩
theorem vi_mo_choice : vi_ M_mo_choice 2 := ⟨tb_m 925 (by decide +kernel) rfl, tb_m 926 (by decide +kernel) rfl, by decide +kernel⟩
set_option maxRecDepth 100000 in
theorem ok_mo_sheet : Mok M_mo_sheet := ⟨by decide +kernel, tb_m 931 rfl rfl, by decide +kernel, tb_m 50 (by decide +kernel) rfl, ⟨by decide +kernel, by decide +kernel⟩⟩
theorem vi_mo_sheet : vi_ M_mo_sheet 2 := ⟨tb_m 929 (by decide +kernel) rfl, tb_m 930 (by decide +kernel) rfl, by decide +kernel⟩
set_option maxRecDepth 100000 in
theorem ok_mo_mark : Mok M_mo_mark := ⟨by decide +kernel, tb_m 936 rfl rfl, by decide +kernel, tb_m 50 (by decide +kernel) rfl, ⟨by decide +kernel, by decide +kernel⟩⟩
theorem vi_mo_mark : vi_ M_mo_mark 3 := ⟨tb_m 934 (by decide +kernel) rfl, tb_m 935 (by decide +kernel) rfl, by decide +kernel⟩
set_option maxRecDepth 100000 in
theorem ok_mo_copy : Mok M_mo_copy := ⟨by decide +kernel, tb_m 940 rfl rfl, by decide +kernel, tb_m 50 (by decide +kernel) rfl, ⟨by decide +kernel, by decide +kernel⟩⟩
theorem vi_mo_copy : vi_ M_mo_copy 5 := ⟨tb_m 938 (by decide +kernel) rfl, tb_m 939 (by decide +kernel) rfl, by decide +kernel⟩
set_option maxRecDepth 100000 in
theorem ok_mo_count : Mok M_mo_count := ⟨by decide +kernel, tb_m 944 rfl rfl, by decide +kernel, tb_m 50 (by decide +kernel) rfl, ⟨by decide +kernel, by decide +kernel⟩⟩
theorem vi_mo_count : vi_ M_mo_count 1 := ⟨tb_m 942 (by decide +kernel) rfl, tb_m 943 (by decide +kernel) rfl, by decide +kernel⟩
set_option maxRecDepth 100000 in
theorem ok_ar_filli : Mok M_ar_filli := ⟨by decide +kernel, tb_m 122 rfl rfl, by decide +kernel, tb_m 43 (by decide +kernel) rfl, ⟨by decide +kernel, by decide +kernel⟩⟩
theorem vs_ar_filli : vs_ M_ar_filli 2 := ⟨tb_m 121 (by decide +kernel) rfl, by decide +kernel⟩
set_option maxRecDepth 100000 in
theorem ok_ar_fillb : Mok M_ar_fillb := ⟨by decide +kernel, tb_m 617 rfl rfl, by decide +kernel, tb_m 43 (by decide +kernel) rfl, ⟨by decide +kernel, by decide +kernel⟩⟩
theorem vs_ar_fillb : vs_ M_ar_fillb 2 := ⟨tb_m 616 (by decide +kernel) rfl, by decide +kernel⟩
theorem lk_gh_1 : Cond.methodLink "GongHouse" 1 objectInit ∈ Tb := tb_m 58 (by decide +kernel) rfl
theorem lk_gh_9 : lk_ "GongHouse" 9 (m_y M_ta_init) := Or.inr ⟨"GongHouse", List.mem_of_getElem? (i := 0) rfl⟩
theorem lk_gh_18 : lk_ "GongHouse" 18 (m_y M_re_init) := Or.inr ⟨"GongHouse", List.mem_of_getElem? (i := 1) rfl⟩
theorem lk_gh_37 : lk_ "GongHouse" 37 (m_y M_pi_init) := Or.inl (tb_m 115 (by decide +kernel) rfl)
theorem lk_gh_44 : lk_ "GongHouse" 44 (m_y M_wa_init) := Or.inr ⟨"GongHouse", List.mem_of_getElem? (i := 2) rfl⟩
theorem lk_gh_51 : lk_ "GongHouse" 51 (m_y M_li_init) := Or.inr ⟨"GongHouse", List.mem_of_getElem? (i := 3) rfl⟩
theorem lk_gh_62 : lk_ "GongHouse" 62 (m_y M_ci_init) := Or.inl (tb_m 200 (by decide +kernel) rfl)
theorem lk_gh_63 : lk_ "GongHouse" 63 (m_y M_le_init) := Or.inl (tb_m 232 (by decide +kernel) rfl)
theorem lk_gh_66 : lk_ "GongHouse" 66 (m_y M_sh_init) := Or.inr ⟨"GongHouse", List.mem_of_getElem? (i := 4) rfl⟩
theorem lk_gh_72 : lk_ "GongHouse" 72 (m_y M_ta_addWord) := Or.inl (tb_m 316 (by decide +kernel) rfl)
theorem lk_gh_76 : lk_ "GongHouse" 76 (m_y M_re_faultOf) := Or.inl (tb_m 329 (by decide +kernel) rfl)
theorem lk_gh_80 : lk_ "GongHouse" 80 (m_y M_gh_isBelow) := Or.inl (tb_m 371 (by decide +kernel) rfl)
theorem lk_gh_89 : lk_ "GongHouse" 89 (m_y M_ci_become) := Or.inl (tb_m 374 (by decide +kernel) rfl)
theorem lk_gh_93 : lk_ "GongHouse" 93 (m_y M_gh_hasBeat) := Or.inl (tb_m 404 (by decide +kernel) rfl)
theorem lk_gh_106 : lk_ "GongHouse" 106 (m_y M_gh_standsUnder) := Or.inl (tb_m 412 (by decide +kernel) rfl)
theorem lk_gh_109 : lk_ "GongHouse" 109 (m_y M_gh_hasStep) := Or.inl (tb_m 421 (by decide +kernel) rfl)
theorem lk_gh_113 : lk_ "GongHouse" 113 (m_y M_gh_isShift) := Or.inl (tb_m 428 (by decide +kernel) rfl)
theorem lk_gh_121 : lk_ "GongHouse" 121 (m_y M_fi_rowOf) := Or.inl (tb_m 431 (by decide +kernel) rfl)
theorem lk_gh_127 : lk_ "GongHouse" 127 (m_y M_gh_hasFigure) := Or.inl (tb_m 425 (by decide +kernel) rfl)
theorem lk_gh_130 : lk_ "GongHouse" 130 (m_y M_sh_isMissing) := Or.inl (tb_m 439 (by decide +kernel) rfl)
theorem lk_gh_142 : lk_ "GongHouse" 142 (m_y M_fi_takeRow) := Or.inl (tb_m 445 (by decide +kernel) rfl)
theorem lk_gh_146 : lk_ "GongHouse" 146 (m_y M_fi_strikesOf) := Or.inl (tb_m 451 (by decide +kernel) rfl)
theorem lk_gh_154 : lk_ "GongHouse" 154 (m_y M_fi_firstWrongStep) := Or.inl (tb_m 466 (by decide +kernel) rfl)
theorem lk_gh_161 : lk_ "GongHouse" 161 (m_y M_gh_isLevelOrNone) := Or.inl (tb_m 478 (by decide +kernel) rfl)
theorem lk_gh_167 : lk_ "GongHouse" 167 (m_y M_pi_addPart) := Or.inl (tb_m 481 (by decide +kernel) rfl)
theorem lk_gh_177 : lk_ "GongHouse" 177 (m_y M_pi_setSignal) := Or.inl (tb_m 489 (by decide +kernel) rfl)
theorem lk_gh_181 : lk_ "GongHouse" 181 (m_y M_pi_clear) := Or.inl (tb_m 498 (by decide +kernel) rfl)
theorem lk_gh_184 : lk_ "GongHouse" 184 (m_y M_wa_reaches) := Or.inl (tb_m 506 (by decide +kernel) rfl)
theorem lk_gh_200 : lk_ "GongHouse" 200 (m_y M_gh_goesTo) := Or.inl (tb_m 518 (by decide +kernel) rfl)
theorem lk_gh_203 : lk_ "GongHouse" 203 (m_y M_gh_isHalfPlayer) := Or.inl (tb_m 522 (by decide +kernel) rfl)
theorem lk_gh_206 : lk_ "GongHouse" 206 (m_y M_gh_keyAt) := Or.inl (tb_m 525 (by decide +kernel) rfl)
theorem lk_gh_210 : lk_ "GongHouse" 210 (m_y M_gh_keyAhead) := Or.inl (tb_m 539 (by decide +kernel) rfl)
theorem lk_gh_213 : lk_ "GongHouse" 213 (m_y M_ci_countNotes) := Or.inl (tb_m 546 (by decide +kernel) rfl)
theorem lk_gh_216 : lk_ "GongHouse" 216 (m_y M_ci_countGongs) := Or.inl (tb_m 551 (by decide +kernel) rfl)
theorem lk_gh_219 : lk_ "GongHouse" 219 (m_y M_gh_halfStrikes) := Or.inl (tb_m 555 (by decide +kernel) rfl)
theorem lk_gh_223 : lk_ "GongHouse" 223 (m_y M_fi_isRight) := Or.inl (tb_m 566 (by decide +kernel) rfl)
theorem lk_gh_226 : lk_ "GongHouse" 226 (m_y M_li_learn) := Or.inl (tb_m 571 (by decide +kernel) rfl)
theorem lk_gh_230 : lk_ "GongHouse" 230 (m_y M_li_leapsWith) := Or.inl (tb_m 586 (by decide +kernel) rfl)
theorem lk_gh_237 : lk_ "GongHouse" 237 (m_y M_li_leastLeaping) := Or.inl (tb_m 599 (by decide +kernel) rfl)
theorem lk_gh_242 : lk_ "GongHouse" 242 (m_y M_sh_lengthen) := Or.inl (tb_m 611 (by decide +kernel) rfl)
theorem lk_gh_249 : lk_ "GongHouse" 249 (m_y M_sh_holds) := Or.inl (tb_m 626 (by decide +kernel) rfl)
theorem lk_gh_252 : Cond.methodLink "GongHouse" 252 arraycopyName ∈ Tb := tb_m 630 (by decide +kernel) rfl
theorem lk_gh_258 : lk_ "GongHouse" 258 (m_y M_gh_allBeats) := Or.inl (tb_m 635 (by decide +kernel) rfl)
theorem lk_gh_261 : lk_ "GongHouse" 261 (m_y M_gh_allGongs) := Or.inl (tb_m 639 (by decide +kernel) rfl)
theorem lk_gh_264 : lk_ "GongHouse" 264 (m_y M_gh_allRight) := Or.inl (tb_m 643 (by decide +kernel) rfl)
theorem lk_gh_267 : lk_ "GongHouse" 267 (m_y M_pi_countRounds) := Or.inl (tb_m 652 (by decide +kernel) rfl)
theorem lk_gh_274 : lk_ "GongHouse" 274 (m_y M_le_figureFor) := Or.inl (tb_m 528 (by decide +kernel) rfl)
theorem lk_gh_278 : lk_ "GongHouse" 278 (m_y M_gh_keyOf) := Or.inl (tb_m 532 (by decide +kernel) rfl)
theorem lk_gh_282 : lk_ "GongHouse" 282 (m_y M_le_countRight) := Or.inl (tb_m 647 (by decide +kernel) rfl)
theorem lk_ci_3 : Cond.methodLink "GongHouse$Circle" 3 objectInit ∈ Tb := tb_m 203 (by decide +kernel) rfl
theorem lk_ci_29 : lk_ "GongHouse$Circle" 29 (m_y M_ar_filli) := Or.inl (tb_m 205 (by decide +kernel) rfl)
theorem lk_ci_38 : Cond.methodLink "GongHouse$Circle" 38 Lib.Math.min.name ∈ Tb := tb_m 378 (by decide +kernel) rfl
theorem lk_ci_45 : Cond.methodLink "GongHouse$Circle" 45 arraycopyName ∈ Tb := tb_m 381 (by decide +kernel) rfl
theorem lk_ci_52 : lk_ "GongHouse$Circle" 52 (m_y M_ci_setTones) := Or.inl (tb_m 384 (by decide +kernel) rfl)
theorem lk_ci_55 : lk_ "GongHouse$Circle" 55 (m_y M_ci_setTurns) := Or.inl (tb_m 392 (by decide +kernel) rfl)
theorem lk_ci_58 : lk_ "GongHouse$Circle" 58 (m_y M_ci_lastNote) := Or.inl (tb_m 388 (by decide +kernel) rfl)
theorem lk_ci_62 : lk_ "GongHouse$Circle" 62 (m_y M_ci_beatBehind) := Or.inl (tb_m 396 (by decide +kernel) rfl)
theorem lk_ci_66 : lk_ "GongHouse$Circle" 66 (m_y M_gh_countTold) := Or.inr ⟨"GongHouse", List.mem_of_getElem? (i := 9) rfl⟩
theorem lk_fi_3 : Cond.methodLink "GongHouse$Figure" 3 objectInit ∈ Tb := tb_m 242 (by decide +kernel) rfl
theorem lk_fi_23 : lk_ "GongHouse$Figure" 23 (m_y M_ar_filli) := Or.inl (tb_m 244 (by decide +kernel) rfl)
theorem lk_fi_29 : lk_ "GongHouse$Figure" 29 (m_y M_fi_rowOf) := Or.inl (tb_m 449 (by decide +kernel) rfl)
theorem lk_fi_43 : lk_ "GongHouse$Figure" 43 (m_y M_gh_isShift) := Or.inr ⟨"GongHouse", List.mem_of_getElem? (i := 6) rfl⟩
theorem lk_fi_47 : lk_ "GongHouse$Figure" 47 (m_y M_gh_countTold) := Or.inr ⟨"GongHouse", List.mem_of_getElem? (i := 7) rfl⟩
theorem lk_fi_51 : lk_ "GongHouse$Figure" 51 (m_y M_fi_firstWrongStep) := Or.inl (tb_m 570 (by decide +kernel) rfl)
theorem lk_le_3 : Cond.methodLink "GongHouse$Level" 3 objectInit ∈ Tb := tb_m 235 (by decide +kernel) rfl
theorem lk_le_25 : lk_ "GongHouse$Level" 25 (m_y M_fi_init) := Or.inl (tb_m 239 (by decide +kernel) rfl)
theorem lk_le_33 : lk_ "GongHouse$Level" 33 (m_y M_fi_isRight) := Or.inl (tb_m 651 (by decide +kernel) rfl)
theorem lk_li_3 : Cond.methodLink "GongHouse$LineTable" 3 objectInit ∈ Tb := tb_m 178 (by decide +kernel) rfl
theorem lk_li_33 : lk_ "GongHouse$LineTable" 33 (m_y M_li_innerLeaps) := Or.inl (tb_m 575 (by decide +kernel) rfl)
theorem lk_li_37 : lk_ "GongHouse$LineTable" 37 (m_y M_fi_lineShift) := Or.inl (tb_m 578 (by decide +kernel) rfl)
theorem lk_li_41 : lk_ "GongHouse$LineTable" 41 (m_y M_gh_keyOf) := Or.inr ⟨"GongHouse", List.mem_of_getElem? (i := 10) rfl⟩
theorem lk_li_45 : Cond.methodLink "GongHouse$LineTable" 45 Lib.Math.abs.name ∈ Tb := tb_m 583 (by decide +kernel) rfl
theorem lk_li_50 : lk_ "GongHouse$LineTable" 50 (m_y M_li_entryOf) := Or.inl (tb_m 590 (by decide +kernel) rfl)
theorem lk_li_60 : lk_ "GongHouse$LineTable" 60 (m_y M_ci_beatBehind) := Or.inl (tb_m 594 (by decide +kernel) rfl)
theorem lk_li_73 : lk_ "GongHouse$LineTable" 73 (m_y M_li_leapsWith) := Or.inl (tb_m 605 (by decide +kernel) rfl)
theorem lk_pi_3 : Cond.methodLink "GongHouse$Piece" 3 objectInit ∈ Tb := tb_m 118 (by decide +kernel) rfl
theorem lk_pi_32 : lk_ "GongHouse$Piece" 32 (m_y M_ar_filli) := Or.inl (tb_m 120 (by decide +kernel) rfl)
theorem lk_pi_38 : lk_ "GongHouse$Piece" 38 (m_y M_gh_countTold) := Or.inr ⟨"GongHouse", List.mem_of_getElem? (i := 8) rfl⟩
theorem lk_sh_3 : Cond.methodLink "GongHouse$Sheet" 3 objectInit ∈ Tb := tb_m 274 (by decide +kernel) rfl
theorem lk_sh_19 : lk_ "GongHouse$Sheet" 19 (m_y M_ar_fillb) := Or.inl (tb_m 615 (by decide +kernel) rfl)
theorem lk_ta_3 : Cond.methodLink "GongHouse$Tape" 3 objectInit ∈ Tb := tb_m 66 (by decide +kernel) rfl
theorem lk_re_3 : Cond.methodLink "GongHouse$TuneReader" 3 objectInit ∈ Tb := tb_m 83 (by decide +kernel) rfl
theorem lk_re_42 : lk_ "GongHouse$TuneReader" 42 (m_y M_re_takes) := Or.inl (tb_m 333 (by decide +kernel) rfl)
theorem lk_re_46 : lk_ "GongHouse$TuneReader" 46 (m_y M_re_takesTimes) := Or.inl (tb_m 337 (by decide +kernel) rfl)
theorem lk_re_49 : lk_ "GongHouse$TuneReader" 49 (m_y M_re_takesOpening) := Or.inl (tb_m 352 (by decide +kernel) rfl)
theorem lk_re_53 : lk_ "GongHouse$TuneReader" 53 (m_y M_re_takesClosing) := Or.inl (tb_m 356 (by decide +kernel) rfl)
theorem lk_re_56 : lk_ "GongHouse$TuneReader" 56 (m_y M_re_takesBeat) := Or.inl (tb_m 360 (by decide +kernel) rfl)
theorem lk_re_59 : lk_ "GongHouse$TuneReader" 59 (m_y M_re_kindOf) := Or.inl (tb_m 364 (by decide +kernel) rfl)
theorem lk_re_63 : lk_ "GongHouse$TuneReader" 63 (m_y M_re_takesGong) := Or.inl (tb_m 367 (by decide +kernel) rfl)
theorem lk_re_66 : lk_ "GongHouse$TuneReader" 66 (m_y M_re_addBeat) := Or.inl (tb_m 348 (by decide +kernel) rfl)
theorem lk_re_70 : lk_ "GongHouse$TuneReader" 70 (m_y M_re_repeatFrom) := Or.inl (tb_m 341 (by decide +kernel) rfl)
theorem lk_re_73 : lk_ "GongHouse$TuneReader" 73 (m_y M_gh_isBelow) := Or.inr ⟨"GongHouse", List.mem_of_getElem? (i := 5) rfl⟩
theorem lk_wa_3 : Cond.methodLink "GongHouse$Walk" 3 objectInit ∈ Tb := tb_m 155 (by decide +kernel) rfl
theorem lk_wa_36 : lk_ "GongHouse$Walk" 36 (m_y M_wa_toldOr) := Or.inl (tb_m 510 (by decide +kernel) rfl)
theorem lk_la_9 : lk_ "GongHouseLaw" 9 (m_y M_gh_init) := Or.inl (tb_m 55 (by decide +kernel) rfl)
theorem lk_la_12 : lk_ "GongHouseLaw" 12 (m_y M_mo_init) := Or.inl (tb_m 658 (by decide +kernel) rfl)
theorem lk_la_13 : lk_ "GongHouseLaw" 13 (m_y M_gh_feed) := Or.inl (tb_m 311 (by decide +kernel) rfl)
theorem lk_la_17 : lk_ "GongHouseLaw" 17 (m_y M_mo_feed) := Or.inl (tb_m 735 (by decide +kernel) rfl)
theorem lk_la_18 : lk_ "GongHouseLaw" 18 (m_y M_gh_trim) := Or.inl (tb_m 320 (by decide +kernel) rfl)
theorem lk_la_22 : lk_ "GongHouseLaw" 22 (m_y M_mo_trim) := Or.inl (tb_m 744 (by decide +kernel) rfl)
theorem lk_la_23 : lk_ "GongHouseLaw" 23 (m_y M_gh_tune) := Or.inl (tb_m 325 (by decide +kernel) rfl)
theorem lk_la_26 : lk_ "GongHouseLaw" 26 (m_y M_mo_tune) := Or.inl (tb_m 752 (by decide +kernel) rfl)
theorem lk_la_27 : lk_ "GongHouseLaw" 27 (m_y M_gh_told) := Or.inl (tb_m 400 (by decide +kernel) rfl)
theorem lk_la_30 : lk_ "GongHouseLaw" 30 (m_y M_mo_told) := Or.inl (tb_m 787 (by decide +kernel) rfl)
theorem lk_la_31 : lk_ "GongHouseLaw" 31 (m_y M_gh_isOf) := Or.inl (tb_m 408 (by decide +kernel) rfl)
theorem lk_la_34 : lk_ "GongHouseLaw" 34 (m_y M_mo_isOf) := Or.inl (tb_m 803 (by decide +kernel) rfl)
theorem lk_la_35 : lk_ "GongHouseLaw" 35 (m_y M_gh_strike) := Or.inl (tb_m 417 (by decide +kernel) rfl)
theorem lk_la_39 : lk_ "GongHouseLaw" 39 (m_y M_mo_strike) := Or.inl (tb_m 807 (by decide +kernel) rfl)
theorem lk_la_40 : lk_ "GongHouseLaw" 40 (m_y M_gh_lay) := Or.inl (tb_m 435 (by decide +kernel) rfl)
theorem lk_la_44 : lk_ "GongHouseLaw" 44 (m_y M_mo_lay) := Or.inl (tb_m 820 (by decide +kernel) rfl)
theorem lk_la_45 : lk_ "GongHouseLaw" 45 (m_y M_gh_together) := Or.inl (tb_m 458 (by decide +kernel) rfl)
theorem lk_la_48 : lk_ "GongHouseLaw" 48 (m_y M_mo_together) := Or.inl (tb_m 829 (by decide +kernel) rfl)
theorem lk_la_49 : lk_ "GongHouseLaw" 49 (m_y M_gh_wrong) := Or.inl (tb_m 462 (by decide +kernel) rfl)
theorem lk_la_53 : lk_ "GongHouseLaw" 53 (m_y M_mo_wrong) := Or.inl (tb_m 833 (by decide +kernel) rfl)
theorem lk_la_54 : lk_ "GongHouseLaw" 54 (m_y M_gh_use) := Or.inl (tb_m 470 (by decide +kernel) rfl)
theorem lk_la_57 : lk_ "GongHouseLaw" 57 (m_y M_mo_use) := Or.inl (tb_m 845 (by decide +kernel) rfl)
theorem lk_la_58 : lk_ "GongHouseLaw" 58 (m_y M_gh_part) := Or.inl (tb_m 474 (by decide +kernel) rfl)
theorem lk_la_61 : lk_ "GongHouseLaw" 61 (m_y M_mo_part) := Or.inl (tb_m 849 (by decide +kernel) rfl)
theorem lk_la_62 : lk_ "GongHouseLaw" 62 (m_y M_gh_signal) := Or.inl (tb_m 485 (by decide +kernel) rfl)
theorem lk_la_65 : lk_ "GongHouseLaw" 65 (m_y M_mo_signal) := Or.inl (tb_m 853 (by decide +kernel) rfl)
theorem lk_la_66 : lk_ "GongHouseLaw" 66 (m_y M_gh_drop) := Or.inl (tb_m 494 (by decide +kernel) rfl)
theorem lk_la_70 : lk_ "GongHouseLaw" 70 (m_y M_mo_drop) := Or.inl (tb_m 861 (by decide +kernel) rfl)
theorem lk_la_71 : lk_ "GongHouseLaw" 71 (m_y M_gh_round) := Or.inl (tb_m 502 (by decide +kernel) rfl)
theorem lk_la_74 : lk_ "GongHouseLaw" 74 (m_y M_mo_round) := Or.inl (tb_m 865 (by decide +kernel) rfl)
theorem lk_la_75 : lk_ "GongHouseLaw" 75 (m_y M_gh_plays) := Or.inl (tb_m 514 (by decide +kernel) rfl)
theorem lk_la_78 : lk_ "GongHouseLaw" 78 (m_y M_mo_plays) := Or.inl (tb_m 881 (by decide +kernel) rfl)
theorem lk_la_79 : lk_ "GongHouseLaw" 79 (m_y M_gh_damps) := Or.inl (tb_m 535 (by decide +kernel) rfl)
theorem lk_la_82 : lk_ "GongHouseLaw" 82 (m_y M_mo_damps) := Or.inl (tb_m 904 (by decide +kernel) rfl)
theorem lk_la_83 : lk_ "GongHouseLaw" 83 (m_y M_gh_strikes) := Or.inl (tb_m 542 (by decide +kernel) rfl)
theorem lk_la_86 : lk_ "GongHouseLaw" 86 (m_y M_mo_strikes) := Or.inl (tb_m 908 (by decide +kernel) rfl)
theorem lk_la_87 : lk_ "GongHouseLaw" 87 (m_y M_gh_ticks) := Or.inl (tb_m 558 (by decide +kernel) rfl)
theorem lk_la_90 : lk_ "GongHouseLaw" 90 (m_y M_mo_ticks) := Or.inl (tb_m 912 (by decide +kernel) rfl)
theorem lk_la_91 : lk_ "GongHouseLaw" 91 (m_y M_gh_leaps) := Or.inl (tb_m 562 (by decide +kernel) rfl)
theorem lk_la_94 : lk_ "GongHouseLaw" 94 (m_y M_mo_leaps) := Or.inl (tb_m 916 (by decide +kernel) rfl)
theorem lk_la_95 : lk_ "GongHouseLaw" 95 (m_y M_gh_choice) := Or.inl (tb_m 595 (by decide +kernel) rfl)
theorem lk_la_98 : lk_ "GongHouseLaw" 98 (m_y M_mo_choice) := Or.inl (tb_m 924 (by decide +kernel) rfl)
theorem lk_la_99 : lk_ "GongHouseLaw" 99 (m_y M_gh_sheet) := Or.inl (tb_m 606 (by decide +kernel) rfl)
theorem lk_la_102 : lk_ "GongHouseLaw" 102 (m_y M_mo_sheet) := Or.inl (tb_m 928 (by decide +kernel) rfl)
theorem lk_la_103 : lk_ "GongHouseLaw" 103 (m_y M_gh_mark) := Or.inl (tb_m 618 (by decide +kernel) rfl)
theorem lk_la_106 : lk_ "GongHouseLaw" 106 (m_y M_mo_mark) := Or.inl (tb_m 933 (by decide +kernel) rfl)
theorem lk_la_107 : lk_ "GongHouseLaw" 107 (m_y M_gh_copy) := Or.inl (tb_m 622 (by decide +kernel) rfl)
theorem lk_la_110 : lk_ "GongHouseLaw" 110 (m_y M_mo_copy) := Or.inl (tb_m 937 (by decide +kernel) rfl)
theorem lk_la_111 : lk_ "GongHouseLaw" 111 (m_y M_gh_count) := Or.inl (tb_m 631 (by decide +kernel) rfl)
theorem lk_la_114 : lk_ "GongHouseLaw" 114 (m_y M_mo_count) := Or.inl (tb_m 941 (by decide +kernel) rfl)
theorem lk_mo_1 : Cond.methodLink "GongHouseModel" 1 objectInit ∈ Tb := tb_m 661 (by decide +kernel) rfl
theorem lk_mo_62 : lk_ "GongHouseModel" 62 (m_y M_mo_isIn) := Or.inl (tb_m 748 (by decide +kernel) rfl)
theorem lk_mo_66 : lk_ "GongHouseModel" 66 (m_y M_mo_isCircle) := Or.inl (tb_m 783 (by decide +kernel) rfl)
theorem lk_mo_75 : lk_ "GongHouseModel" 75 (m_y M_mo_four) := Or.inl (tb_m 740 (by decide +kernel) rfl)
theorem lk_mo_83 : lk_ "GongHouseModel" 83 (m_y M_mo_here) := Or.inl (tb_m 764 (by decide +kernel) rfl)
theorem lk_mo_90 : lk_ "GongHouseModel" 90 (m_y M_mo_gongOf) := Or.inl (tb_m 772 (by decide +kernel) rfl)
theorem lk_mo_94 : lk_ "GongHouseModel" 94 (m_y M_mo_write) := Or.inl (tb_m 775 (by decide +kernel) rfl)
theorem lk_mo_98 : lk_ "GongHouseModel" 98 (m_y M_mo_isBeatHere) := Or.inl (tb_m 760 (by decide +kernel) rfl)
theorem lk_mo_102 : lk_ "GongHouseModel" 102 (m_y M_mo_readBeat) := Or.inl (tb_m 768 (by decide +kernel) rfl)
theorem lk_mo_105 : lk_ "GongHouseModel" 105 (m_y M_mo_readAgain) := Or.inl (tb_m 779 (by decide +kernel) rfl)
theorem lk_mo_108 : lk_ "GongHouseModel" 108 (m_y M_mo_readTune) := Or.inl (tb_m 756 (by decide +kernel) rfl)
theorem lk_mo_113 : lk_ "GongHouseModel" 113 (m_y M_mo_isBeat) := Or.inl (tb_m 791 (by decide +kernel) rfl)
theorem lk_mo_117 : lk_ "GongHouseModel" 117 (m_y M_mo_orNone) := Or.inl (tb_m 795 (by decide +kernel) rfl)
theorem lk_mo_120 : lk_ "GongHouseModel" 120 (m_y M_mo_tone) := Or.inl (tb_m 799 (by decide +kernel) rfl)
theorem lk_mo_124 : lk_ "GongHouseModel" 124 (m_y M_mo_isFigure) := Or.inl (tb_m 811 (by decide +kernel) rfl)
theorem lk_mo_127 : lk_ "GongHouseModel" 127 (m_y M_mo_stepsOf) := Or.inl (tb_m 814 (by decide +kernel) rfl)
theorem lk_mo_130 : lk_ "GongHouseModel" 130 (m_y M_mo_placeOf) := Or.inl (tb_m 817 (by decide +kernel) rfl)
theorem lk_mo_134 : lk_ "GongHouseModel" 134 (m_y M_mo_isSheet) := Or.inl (tb_m 824 (by decide +kernel) rfl)
theorem lk_mo_139 : lk_ "GongHouseModel" 139 (m_y M_mo_doesStrike) := Or.inl (tb_m 841 (by decide +kernel) rfl)
theorem lk_mo_143 : lk_ "GongHouseModel" 143 (m_y M_mo_wrongStep) := Or.inl (tb_m 837 (by decide +kernel) rfl)
theorem lk_mo_149 : lk_ "GongHouseModel" 149 (m_y M_mo_signalMany) := Or.inl (tb_m 857 (by decide +kernel) rfl)
theorem lk_mo_152 : lk_ "GongHouseModel" 152 (m_y M_mo_rounds) := Or.inl (tb_m 873 (by decide +kernel) rfl)
theorem lk_mo_164 : lk_ "GongHouseModel" 164 (m_y M_mo_isRound) := Or.inl (tb_m 869 (by decide +kernel) rfl)
theorem lk_mo_167 : lk_ "GongHouseModel" 167 (m_y M_mo_goTo) := Or.inl (tb_m 877 (by decide +kernel) rfl)
theorem lk_mo_170 : lk_ "GongHouseModel" 170 (m_y M_mo_key) := Or.inl (tb_m 901 (by decide +kernel) rfl)
theorem lk_mo_173 : lk_ "GongHouseModel" 173 (m_y M_mo_turn) := Or.inl (tb_m 893 (by decide +kernel) rfl)
theorem lk_mo_176 : lk_ "GongHouseModel" 176 (m_y M_mo_struck) := Or.inl (tb_m 897 (by decide +kernel) rfl)
theorem lk_mo_180 : lk_ "GongHouseModel" 180 (m_y M_mo_isStep) := Or.inl (tb_m 885 (by decide +kernel) rfl)
theorem lk_mo_183 : lk_ "GongHouseModel" 183 (m_y M_mo_playedNow) := Or.inl (tb_m 889 (by decide +kernel) rfl)
theorem lk_mo_187 : lk_ "GongHouseModel" 187 (m_y M_mo_leapsOf) := Or.inl (tb_m 920 (by decide +kernel) rfl)
theorem fl_gh_10 : fl_ "GongHouse" 10 9 0 := ⟨_, _, _, rfl, by decide, by decide, cw_9, tyX9_ok, nmX9, rfl, tb_m 286 (by decide +kernel) rfl⟩
theorem fl_gh_19 : fl_ "GongHouse" 19 9 1 := ⟨_, _, _, rfl, by decide, by decide, cw_9, tyX9_ok, nmX9, rfl, tb_m 287 (by decide +kernel) rfl⟩
theorem fl_gh_25 : fl_ "GongHouse" 25 9 2 := ⟨_, _, _, rfl, by decide, by decide, cw_9, tyX9_ok, nmX9, rfl, tb_m 288 (by decide +kernel) rfl⟩
theorem fl_gh_31 : fl_ "GongHouse" 31 9 3 := ⟨_, _, _, rfl, by decide, by decide, cw_9, tyX9_ok, nmX9, rfl, tb_m 289 (by decide +kernel) rfl⟩
theorem fl_gh_38 : fl_ "GongHouse" 38 9 4 := ⟨_, _, _, rfl, by decide, by decide, cw_9, tyX9_ok, nmX9, rfl, tb_m 290 (by decide +kernel) rfl⟩
theorem fl_gh_45 : fl_ "GongHouse" 45 9 5 := ⟨_, _, _, rfl, by decide, by decide, cw_9, tyX9_ok, nmX9, rfl, tb_m 291 (by decide +kernel) rfl⟩
theorem fl_gh_52 : fl_ "GongHouse" 52 9 6 := ⟨_, _, _, rfl, by decide, by decide, cw_9, tyX9_ok, nmX9, rfl, tb_m 292 (by decide +kernel) rfl⟩
theorem fl_gh_58 : fl_ "GongHouse" 58 9 7 := ⟨_, _, _, rfl, by decide, by decide, cw_9, tyX9_ok, nmX9, rfl, tb_m 293 (by decide +kernel) rfl⟩
theorem fl_gh_67 : fl_ "GongHouse" 67 6 1 := ⟨_, _, _, rfl, by decide, by decide, cw_6, tyX6_ok, nmX6, rfl, tb_m 70 (by decide +kernel) rfl⟩
theorem fl_gh_85 : fl_ "GongHouse" 85 7 2 := ⟨_, _, _, rfl, by decide, by decide, cw_7, tyX7_ok, nmX7, rfl, tb_m 91 (by decide +kernel) rfl⟩
theorem fl_gh_96 : fl_ "GongHouse" 96 0 0 := ⟨_, _, _, rfl, by decide, by decide, cw_0, tyX0_ok, nmX0, rfl, tb_m 207 (by decide +kernel) rfl⟩
theorem fl_gh_100 : fl_ "GongHouse" 100 0 2 := ⟨_, _, _, rfl, by decide, by decide, cw_0, tyX0_ok, nmX0, rfl, tb_m 212 (by decide +kernel) rfl⟩
theorem fl_gh_103 : fl_ "GongHouse" 103 0 1 := ⟨_, _, _, rfl, by decide, by decide, cw_0, tyX0_ok, nmX0, rfl, tb_m 209 (by decide +kernel) rfl⟩
theorem fl_gh_117 : fl_ "GongHouse" 117 2 1 := ⟨_, _, _, rfl, by decide, by decide, cw_2, tyX2_ok, nmX2, rfl, tb_m 260 (by decide +kernel) rfl⟩
theorem fl_gh_135 : fl_ "GongHouse" 135 5 1 := ⟨_, _, _, rfl, by decide, by decide, cw_5, tyX5_ok, nmX5, rfl, tb_m 280 (by decide +kernel) rfl⟩
theorem fl_gh_138 : fl_ "GongHouse" 138 2 0 := ⟨_, _, _, rfl, by decide, by decide, cw_2, tyX2_ok, nmX2, rfl, tb_m 258 (by decide +kernel) rfl⟩
theorem fl_gh_150 : fl_ "GongHouse" 150 1 2 := ⟨_, _, _, rfl, by decide, by decide, cw_1, tyX1_ok, nmX1, rfl, tb_m 249 (by decide +kernel) rfl⟩
theorem fl_gh_158 : fl_ "GongHouse" 158 2 2 := ⟨_, _, _, rfl, by decide, by decide, cw_2, tyX2_ok, nmX2, rfl, tb_m 262 (by decide +kernel) rfl⟩
theorem fl_gh_164 : fl_ "GongHouse" 164 4 4 := ⟨_, _, _, rfl, by decide, by decide, cw_4, tyX4_ok, nmX4, rfl, tb_m 134 (by decide +kernel) rfl⟩
theorem fl_gh_171 : fl_ "GongHouse" 171 4 3 := ⟨_, _, _, rfl, by decide, by decide, cw_4, tyX4_ok, nmX4, rfl, tb_m 131 (by decide +kernel) rfl⟩
theorem fl_gh_174 : fl_ "GongHouse" 174 4 5 := ⟨_, _, _, rfl, by decide, by decide, cw_4, tyX4_ok, nmX4, rfl, tb_m 136 (by decide +kernel) rfl⟩
theorem fl_gh_188 : fl_ "GongHouse" 188 8 0 := ⟨_, _, _, rfl, by decide, by decide, cw_8, tyX8_ok, nmX8, rfl, tb_m 157 (by decide +kernel) rfl⟩
theorem fl_gh_191 : fl_ "GongHouse" 191 8 1 := ⟨_, _, _, rfl, by decide, by decide, cw_8, tyX8_ok, nmX8, rfl, tb_m 159 (by decide +kernel) rfl⟩
theorem fl_gh_194 : fl_ "GongHouse" 194 8 2 := ⟨_, _, _, rfl, by decide, by decide, cw_8, tyX8_ok, nmX8, rfl, tb_m 161 (by decide +kernel) rfl⟩
theorem fl_gh_197 : fl_ "GongHouse" 197 8 3 := ⟨_, _, _, rfl, by decide, by decide, cw_8, tyX8_ok, nmX8, rfl, tb_m 163 (by decide +kernel) rfl⟩
theorem fl_gh_234 : fl_ "GongHouse" 234 3 4 := ⟨_, _, _, rfl, by decide, by decide, cw_3, tyX3_ok, nmX3, rfl, tb_m 184 (by decide +kernel) rfl⟩
theorem fl_gh_245 : fl_ "GongHouse" 245 5 0 := ⟨_, _, _, rfl, by decide, by decide, cw_5, tyX5_ok, nmX5, rfl, tb_m 277 (by decide +kernel) rfl⟩
theorem fl_gh_270 : fl_ "GongHouse" 270 0 4 := ⟨_, _, _, rfl, by decide, by decide, cw_0, tyX0_ok, nmX0, rfl, tb_m 219 (by decide +kernel) rfl⟩
theorem fs_gh_271 : Cond.fieldLink "GongHouse" 271 "GongHouse" "KIND_ABOVE" "[I" ∈ Tb := tb_m 415 (by decide +kernel) rfl
theorem fl_ci_9 : fl_ "GongHouse$Circle" 9 0 0 := ⟨_, _, _, rfl, by decide, by decide, cw_0, tyX0_ok, nmX0, rfl, tb_m 206 (by decide +kernel) rfl⟩
theorem fl_ci_15 : fl_ "GongHouse$Circle" 15 0 1 := ⟨_, _, _, rfl, by decide, by decide, cw_0, tyX0_ok, nmX0, rfl, tb_m 208 (by decide +kernel) rfl⟩
theorem fl_ci_18 : fl_ "GongHouse$Circle" 18 0 2 := ⟨_, _, _, rfl, by decide, by decide, cw_0, tyX0_ok, nmX0, rfl, tb_m 210 (by decide +kernel) rfl⟩
theorem fl_ci_21 : fl_ "GongHouse$Circle" 21 0 3 := ⟨_, _, _, rfl, by decide, by decide, cw_0, tyX0_ok, nmX0, rfl, tb_m 213 (by decide +kernel) rfl⟩
theorem fl_ci_24 : fl_ "GongHouse$Circle" 24 0 4 := ⟨_, _, _, rfl, by decide, by decide, cw_0, tyX0_ok, nmX0, rfl, tb_m 216 (by decide +kernel) rfl⟩
theorem fl_ci_35 : fl_ "GongHouse$Circle" 35 7 2 := ⟨_, _, _, rfl, by decide, by decide, cw_7, tyX7_ok, nmX7, rfl, tb_m 90 (by decide +kernel) rfl⟩
theorem fl_ci_44 : fl_ "GongHouse$Circle" 44 7 0 := ⟨_, _, _, rfl, by decide, by decide, cw_7, tyX7_ok, nmX7, rfl, tb_m 86 (by decide +kernel) rfl⟩
theorem fl_ci_51 : fl_ "GongHouse$Circle" 51 7 1 := ⟨_, _, _, rfl, by decide, by decide, cw_7, tyX7_ok, nmX7, rfl, tb_m 88 (by decide +kernel) rfl⟩
theorem fl_fi_9 : fl_ "GongHouse$Figure" 9 1 0 := ⟨_, _, _, rfl, by decide, by decide, cw_1, tyX1_ok, nmX1, rfl, tb_m 245 (by decide +kernel) rfl⟩
theorem fl_fi_15 : fl_ "GongHouse$Figure" 15 1 1 := ⟨_, _, _, rfl, by decide, by decide, cw_1, tyX1_ok, nmX1, rfl, tb_m 247 (by decide +kernel) rfl⟩
theorem fl_fi_18 : fl_ "GongHouse$Figure" 18 1 2 := ⟨_, _, _, rfl, by decide, by decide, cw_1, tyX1_ok, nmX1, rfl, tb_m 248 (by decide +kernel) rfl⟩
theorem fl_fi_33 : fl_ "GongHouse$Figure" 33 5 1 := ⟨_, _, _, rfl, by decide, by decide, cw_5, tyX5_ok, nmX5, rfl, tb_m 279 (by decide +kernel) rfl⟩
theorem fl_fi_39 : fl_ "GongHouse$Figure" 39 5 0 := ⟨_, _, _, rfl, by decide, by decide, cw_5, tyX5_ok, nmX5, rfl, tb_m 276 (by decide +kernel) rfl⟩
theorem fl_le_11 : fl_ "GongHouse$Level" 11 2 1 := ⟨_, _, _, rfl, by decide, by decide, cw_2, tyX2_ok, nmX2, rfl, tb_m 259 (by decide +kernel) rfl⟩
theorem fl_le_17 : fl_ "GongHouse$Level" 17 2 2 := ⟨_, _, _, rfl, by decide, by decide, cw_2, tyX2_ok, nmX2, rfl, tb_m 261 (by decide +kernel) rfl⟩
theorem fl_le_21 : fl_ "GongHouse$Level" 21 2 0 := ⟨_, _, _, rfl, by decide, by decide, cw_2, tyX2_ok, nmX2, rfl, tb_m 257 (by decide +kernel) rfl⟩
theorem fl_le_28 : fl_ "GongHouse$Level" 28 0 3 := ⟨_, _, _, rfl, by decide, by decide, cw_0, tyX0_ok, nmX0, rfl, tb_m 214 (by decide +kernel) rfl⟩
theorem fl_li_9 : fl_ "GongHouse$LineTable" 9 3 0 := ⟨_, _, _, rfl, by decide, by decide, cw_3, tyX3_ok, nmX3, rfl, tb_m 179 (by decide +kernel) rfl⟩
theorem fl_li_15 : fl_ "GongHouse$LineTable" 15 3 1 := ⟨_, _, _, rfl, by decide, by decide, cw_3, tyX3_ok, nmX3, rfl, tb_m 180 (by decide +kernel) rfl⟩
theorem fl_li_18 : fl_ "GongHouse$LineTable" 18 3 2 := ⟨_, _, _, rfl, by decide, by decide, cw_3, tyX3_ok, nmX3, rfl, tb_m 181 (by decide +kernel) rfl⟩
theorem fl_li_21 : fl_ "GongHouse$LineTable" 21 3 3 := ⟨_, _, _, rfl, by decide, by decide, cw_3, tyX3_ok, nmX3, rfl, tb_m 182 (by decide +kernel) rfl⟩
theorem fl_li_24 : fl_ "GongHouse$LineTable" 24 3 4 := ⟨_, _, _, rfl, by decide, by decide, cw_3, tyX3_ok, nmX3, rfl, tb_m 183 (by decide +kernel) rfl⟩
theorem fl_li_28 : fl_ "GongHouse$LineTable" 28 1 0 := ⟨_, _, _, rfl, by decide, by decide, cw_1, tyX1_ok, nmX1, rfl, tb_m 246 (by decide +kernel) rfl⟩
theorem fl_li_54 : fl_ "GongHouse$LineTable" 54 0 4 := ⟨_, _, _, rfl, by decide, by decide, cw_0, tyX0_ok, nmX0, rfl, tb_m 218 (by decide +kernel) rfl⟩
theorem fl_li_63 : fl_ "GongHouse$LineTable" 63 0 3 := ⟨_, _, _, rfl, by decide, by decide, cw_0, tyX0_ok, nmX0, rfl, tb_m 215 (by decide +kernel) rfl⟩
theorem fl_li_66 : fl_ "GongHouse$LineTable" 66 0 2 := ⟨_, _, _, rfl, by decide, by decide, cw_0, tyX0_ok, nmX0, rfl, tb_m 211 (by decide +kernel) rfl⟩
theorem fl_pi_9 : fl_ "GongHouse$Piece" 9 4 0 := ⟨_, _, _, rfl, by decide, by decide, cw_4, tyX4_ok, nmX4, rfl, tb_m 123 (by decide +kernel) rfl⟩
theorem fl_pi_15 : fl_ "GongHouse$Piece" 15 4 1 := ⟨_, _, _, rfl, by decide, by decide, cw_4, tyX4_ok, nmX4, rfl, tb_m 125 (by decide +kernel) rfl⟩
theorem fl_pi_18 : fl_ "GongHouse$Piece" 18 4 2 := ⟨_, _, _, rfl, by decide, by decide, cw_4, tyX4_ok, nmX4, rfl, tb_m 127 (by decide +kernel) rfl⟩
theorem fl_pi_21 : fl_ "GongHouse$Piece" 21 4 3 := ⟨_, _, _, rfl, by decide, by decide, cw_4, tyX4_ok, nmX4, rfl, tb_m 129 (by decide +kernel) rfl⟩
theorem fl_pi_24 : fl_ "GongHouse$Piece" 24 4 4 := ⟨_, _, _, rfl, by decide, by decide, cw_4, tyX4_ok, nmX4, rfl, tb_m 132 (by decide +kernel) rfl⟩
theorem fl_pi_28 : fl_ "GongHouse$Piece" 28 4 5 := ⟨_, _, _, rfl, by decide, by decide, cw_4, tyX4_ok, nmX4, rfl, tb_m 135 (by decide +kernel) rfl⟩
theorem fl_sh_9 : fl_ "GongHouse$Sheet" 9 5 0 := ⟨_, _, _, rfl, by decide, by decide, cw_5, tyX5_ok, nmX5, rfl, tb_m 275 (by decide +kernel) rfl⟩
theorem fl_sh_15 : fl_ "GongHouse$Sheet" 15 5 1 := ⟨_, _, _, rfl, by decide, by decide, cw_5, tyX5_ok, nmX5, rfl, tb_m 278 (by decide +kernel) rfl⟩
theorem fl_ta_9 : fl_ "GongHouse$Tape" 9 6 0 := ⟨_, _, _, rfl, by decide, by decide, cw_6, tyX6_ok, nmX6, rfl, tb_m 67 (by decide +kernel) rfl⟩
theorem fl_ta_15 : fl_ "GongHouse$Tape" 15 6 1 := ⟨_, _, _, rfl, by decide, by decide, cw_6, tyX6_ok, nmX6, rfl, tb_m 69 (by decide +kernel) rfl⟩
theorem fl_re_9 : fl_ "GongHouse$TuneReader" 9 7 0 := ⟨_, _, _, rfl, by decide, by decide, cw_7, tyX7_ok, nmX7, rfl, tb_m 85 (by decide +kernel) rfl⟩
theorem fl_re_15 : fl_ "GongHouse$TuneReader" 15 7 1 := ⟨_, _, _, rfl, by decide, by decide, cw_7, tyX7_ok, nmX7, rfl, tb_m 87 (by decide +kernel) rfl⟩
theorem fl_re_18 : fl_ "GongHouse$TuneReader" 18 7 2 := ⟨_, _, _, rfl, by decide, by decide, cw_7, tyX7_ok, nmX7, rfl, tb_m 89 (by decide +kernel) rfl⟩
theorem fl_re_23 : fl_ "GongHouse$TuneReader" 23 7 3 := ⟨_, _, _, rfl, by decide, by decide, cw_7, tyX7_ok, nmX7, rfl, tb_m 92 (by decide +kernel) rfl⟩
theorem fl_re_26 : fl_ "GongHouse$TuneReader" 26 7 4 := ⟨_, _, _, rfl, by decide, by decide, cw_7, tyX7_ok, nmX7, rfl, tb_m 93 (by decide +kernel) rfl⟩
theorem fl_re_30 : fl_ "GongHouse$TuneReader" 30 7 5 := ⟨_, _, _, rfl, by decide, by decide, cw_7, tyX7_ok, nmX7, rfl, tb_m 94 (by decide +kernel) rfl⟩
theorem fl_re_33 : fl_ "GongHouse$TuneReader" 33 6 1 := ⟨_, _, _, rfl, by decide, by decide, cw_6, tyX6_ok, nmX6, rfl, tb_m 71 (by decide +kernel) rfl⟩
theorem fl_re_38 : fl_ "GongHouse$TuneReader" 38 6 0 := ⟨_, _, _, rfl, by decide, by decide, cw_6, tyX6_ok, nmX6, rfl, tb_m 68 (by decide +kernel) rfl⟩
theorem fl_wa_9 : fl_ "GongHouse$Walk" 9 8 0 := ⟨_, _, _, rfl, by decide, by decide, cw_8, tyX8_ok, nmX8, rfl, tb_m 156 (by decide +kernel) rfl⟩
theorem fl_wa_15 : fl_ "GongHouse$Walk" 15 8 1 := ⟨_, _, _, rfl, by decide, by decide, cw_8, tyX8_ok, nmX8, rfl, tb_m 158 (by decide +kernel) rfl⟩
theorem fl_wa_18 : fl_ "GongHouse$Walk" 18 8 2 := ⟨_, _, _, rfl, by decide, by decide, cw_8, tyX8_ok, nmX8, rfl, tb_m 160 (by decide +kernel) rfl⟩
theorem fl_wa_21 : fl_ "GongHouse$Walk" 21 8 3 := ⟨_, _, _, rfl, by decide, by decide, cw_8, tyX8_ok, nmX8, rfl, tb_m 162 (by decide +kernel) rfl⟩
theorem fl_wa_24 : fl_ "GongHouse$Walk" 24 4 4 := ⟨_, _, _, rfl, by decide, by decide, cw_4, tyX4_ok, nmX4, rfl, tb_m 133 (by decide +kernel) rfl⟩
theorem fl_wa_29 : fl_ "GongHouse$Walk" 29 4 0 := ⟨_, _, _, rfl, by decide, by decide, cw_4, tyX4_ok, nmX4, rfl, tb_m 124 (by decide +kernel) rfl⟩
theorem fl_wa_33 : fl_ "GongHouse$Walk" 33 4 2 := ⟨_, _, _, rfl, by decide, by decide, cw_4, tyX4_ok, nmX4, rfl, tb_m 128 (by decide +kernel) rfl⟩
theorem fl_wa_40 : fl_ "GongHouse$Walk" 40 4 1 := ⟨_, _, _, rfl, by decide, by decide, cw_4, tyX4_ok, nmX4, rfl, tb_m 126 (by decide +kernel) rfl⟩
theorem fl_wa_43 : fl_ "GongHouse$Walk" 43 0 4 := ⟨_, _, _, rfl, by decide, by decide, cw_0, tyX0_ok, nmX0, rfl, tb_m 217 (by decide +kernel) rfl⟩
theorem fl_wa_48 : fl_ "GongHouse$Walk" 48 4 3 := ⟨_, _, _, rfl, by decide, by decide, cw_4, tyX4_ok, nmX4, rfl, tb_m 130 (by decide +kernel) rfl⟩
theorem fl_mo_7 : fl_ "GongHouseModel" 7 10 0 := ⟨_, _, _, rfl, by decide, by decide, cw_10, tyX10_ok, nmX10, rfl, tb_m 662 (by decide +kernel) rfl⟩
theorem fl_mo_13 : fl_ "GongHouseModel" 13 10 1 := ⟨_, _, _, rfl, by decide, by decide, cw_10, tyX10_ok, nmX10, rfl, tb_m 663 (by decide +kernel) rfl⟩
theorem fl_mo_16 : fl_ "GongHouseModel" 16 10 2 := ⟨_, _, _, rfl, by decide, by decide, cw_10, tyX10_ok, nmX10, rfl, tb_m 664 (by decide +kernel) rfl⟩
theorem fl_mo_19 : fl_ "GongHouseModel" 19 10 3 := ⟨_, _, _, rfl, by decide, by decide, cw_10, tyX10_ok, nmX10, rfl, tb_m 665 (by decide +kernel) rfl⟩
theorem fl_mo_22 : fl_ "GongHouseModel" 22 10 4 := ⟨_, _, _, rfl, by decide, by decide, cw_10, tyX10_ok, nmX10, rfl, tb_m 666 (by decide +kernel) rfl⟩
theorem fl_mo_26 : fl_ "GongHouseModel" 26 10 5 := ⟨_, _, _, rfl, by decide, by decide, cw_10, tyX10_ok, nmX10, rfl, tb_m 667 (by decide +kernel) rfl⟩
theorem fl_mo_29 : fl_ "GongHouseModel" 29 10 7 := ⟨_, _, _, rfl, by decide, by decide, cw_10, tyX10_ok, nmX10, rfl, tb_m 669 (by decide +kernel) rfl⟩
theorem fl_mo_32 : fl_ "GongHouseModel" 32 10 8 := ⟨_, _, _, rfl, by decide, by decide, cw_10, tyX10_ok, nmX10, rfl, tb_m 670 (by decide +kernel) rfl⟩
theorem fl_mo_35 : fl_ "GongHouseModel" 35 10 9 := ⟨_, _, _, rfl, by decide, by decide, cw_10, tyX10_ok, nmX10, rfl, tb_m 671 (by decide +kernel) rfl⟩
theorem fl_mo_38 : fl_ "GongHouseModel" 38 10 10 := ⟨_, _, _, rfl, by decide, by decide, cw_10, tyX10_ok, nmX10, rfl, tb_m 672 (by decide +kernel) rfl⟩
theorem fl_mo_41 : fl_ "GongHouseModel" 41 10 11 := ⟨_, _, _, rfl, by decide, by decide, cw_10, tyX10_ok, nmX10, rfl, tb_m 673 (by decide +kernel) rfl⟩
theorem fl_mo_44 : fl_ "GongHouseModel" 44 10 13 := ⟨_, _, _, rfl, by decide, by decide, cw_10, tyX10_ok, nmX10, rfl, tb_m 675 (by decide +kernel) rfl⟩
theorem fl_mo_47 : fl_ "GongHouseModel" 47 10 14 := ⟨_, _, _, rfl, by decide, by decide, cw_10, tyX10_ok, nmX10, rfl, tb_m 676 (by decide +kernel) rfl⟩
theorem fl_mo_50 : fl_ "GongHouseModel" 50 10 17 := ⟨_, _, _, rfl, by decide, by decide, cw_10, tyX10_ok, nmX10, rfl, tb_m 679 (by decide +kernel) rfl⟩
theorem fl_mo_53 : fl_ "GongHouseModel" 53 10 18 := ⟨_, _, _, rfl, by decide, by decide, cw_10, tyX10_ok, nmX10, rfl, tb_m 680 (by decide +kernel) rfl⟩
theorem fl_mo_56 : fl_ "GongHouseModel" 56 10 22 := ⟨_, _, _, rfl, by decide, by decide, cw_10, tyX10_ok, nmX10, rfl, tb_m 684 (by decide +kernel) rfl⟩
theorem fl_mo_59 : fl_ "GongHouseModel" 59 10 23 := ⟨_, _, _, rfl, by decide, by decide, cw_10, tyX10_ok, nmX10, rfl, tb_m 685 (by decide +kernel) rfl⟩
theorem fl_mo_70 : fl_ "GongHouseModel" 70 10 12 := ⟨_, _, _, rfl, by decide, by decide, cw_10, tyX10_ok, nmX10, rfl, tb_m 674 (by decide +kernel) rfl⟩
theorem fl_mo_80 : fl_ "GongHouseModel" 80 10 15 := ⟨_, _, _, rfl, by decide, by decide, cw_10, tyX10_ok, nmX10, rfl, tb_m 677 (by decide +kernel) rfl⟩
theorem fl_mo_87 : fl_ "GongHouseModel" 87 10 16 := ⟨_, _, _, rfl, by decide, by decide, cw_10, tyX10_ok, nmX10, rfl, tb_m 678 (by decide +kernel) rfl⟩
theorem fl_mo_146 : fl_ "GongHouseModel" 146 10 6 := ⟨_, _, _, rfl, by decide, by decide, cw_10, tyX10_ok, nmX10, rfl, tb_m 668 (by decide +kernel) rfl⟩
theorem fl_mo_155 : fl_ "GongHouseModel" 155 10 19 := ⟨_, _, _, rfl, by decide, by decide, cw_10, tyX10_ok, nmX10, rfl, tb_m 681 (by decide +kernel) rfl⟩
theorem fl_mo_158 : fl_ "GongHouseModel" 158 10 20 := ⟨_, _, _, rfl, by decide, by decide, cw_10, tyX10_ok, nmX10, rfl, tb_m 682 (by decide +kernel) rfl⟩
theorem fl_mo_161 : fl_ "GongHouseModel" 161 10 21 := ⟨_, _, _, rfl, by decide, by decide, cw_10, tyX10_ok, nmX10, rfl, tb_m 683 (by decide +kernel) rfl⟩
theorem kc_gh_71 : Cond.constant "GongHouse" 71 (-1000000003) ∈ Tb := tb_m 315 (by decide +kernel) rfl
theorem kc_gh_75 : Cond.constant "GongHouse" 75 (-1000000001) ∈ Tb := tb_m 324 (by decide +kernel) rfl
theorem kc_gh_84 : Cond.constant "GongHouse" 84 (-1000000005) ∈ Tb := tb_m 372 (by decide +kernel) rfl
theorem kc_gh_88 : Cond.constant "GongHouse" 88 (-1000000002) ∈ Tb := tb_m 373 (by decide +kernel) rfl
theorem kc_gh_134 : Cond.constant "GongHouse" 134 (-1000000011) ∈ Tb := tb_m 443 (by decide +kernel) rfl
theorem kc_gh_141 : Cond.constant "GongHouse" 141 (-1000000013) ∈ Tb := tb_m 444 (by decide +kernel) rfl
theorem kc_gh_241 : Cond.constant "GongHouse" 241 (-1000000014) ∈ Tb := tb_m 610 (by decide +kernel) rfl
theorem kc_ci_28 : Cond.constant "GongHouse$Circle" 28 (-1000000005) ∈ Tb := tb_m 204 (by decide +kernel) rfl
theorem kc_fi_22 : Cond.constant "GongHouse$Figure" 22 (-1000000005) ∈ Tb := tb_m 243 (by decide +kernel) rfl
theorem kc_li_69 : Cond.constant "GongHouse$LineTable" 69 (-1000000002) ∈ Tb := tb_m 603 (by decide +kernel) rfl
theorem kc_li_72 : Cond.constant "GongHouse$LineTable" 72 (2147483647) ∈ Tb := tb_m 604 (by decide +kernel) rfl
theorem kc_pi_31 : Cond.constant "GongHouse$Piece" 31 (-1000000005) ∈ Tb := tb_m 119 (by decide +kernel) rfl
theorem kc_re_22 : Cond.constant "GongHouse$TuneReader" 22 (-1000000005) ∈ Tb := tb_m 84 (by decide +kernel) rfl
theorem kc_wa_51 : Cond.constant "GongHouse$Walk" 51 (-1000000005) ∈ Tb := tb_m 513 (by decide +kernel) rfl
theorem kc_mo_74 : Cond.constant "GongHouseModel" 74 (-1000000003) ∈ Tb := tb_m 739 (by decide +kernel) rfl
theorem kc_mo_79 : Cond.constant "GongHouseModel" 79 (-1000000001) ∈ Tb := tb_m 751 (by decide +kernel) rfl
theorem kc_mo_111 : Cond.constant "GongHouseModel" 111 (-1000000002) ∈ Tb := tb_m 786 (by decide +kernel) rfl
theorem kc_mo_112 : Cond.constant "GongHouseModel" 112 (-1000000005) ∈ Tb := tb_m 798 (by decide +kernel) rfl
theorem kc_mo_137 : Cond.constant "GongHouseModel" 137 (-1000000011) ∈ Tb := tb_m 827 (by decide +kernel) rfl
theorem kc_mo_138 : Cond.constant "GongHouseModel" 138 (-1000000013) ∈ Tb := tb_m 828 (by decide +kernel) rfl
theorem kc_mo_190 : Cond.constant "GongHouseModel" 190 (-1000000014) ∈ Tb := tb_m 932 (by decide +kernel) rfl
theorem cl_gh_7 : Cond.classLink "GongHouse" 7 "GongHouse$Tape" ∈ Tb := tb_m 61 (by decide +kernel) rfl
theorem nc_gh_7 : nc_ "GongHouse" 7 6 2 := ⟨_, _, rfl, by decide, cw_6, tyX6_ok, by decide +kernel, cl_gh_7, tb_m 62 (by decide +kernel) rfl, tb_m 40 (by decide +kernel) rfl⟩
theorem cl_gh_16 : Cond.classLink "GongHouse" 16 "GongHouse$TuneReader" ∈ Tb := tb_m 78 (by decide +kernel) rfl
theorem nc_gh_16 : nc_ "GongHouse" 16 7 6 := ⟨_, _, rfl, by decide, cw_7, tyX7_ok, by decide +kernel, cl_gh_16, tb_m 79 (by decide +kernel) rfl, tb_m 41 (by decide +kernel) rfl⟩
theorem cl_gh_23 : Cond.classLink "GongHouse" 23 "GongHouse$Circle" ∈ Tb := tb_m 109 (by decide +kernel) rfl
theorem nc_gh_23 : nc_ "GongHouse" 23 0 5 := ⟨_, _, rfl, by decide, cw_0, tyX0_ok, by decide +kernel, cl_gh_23, tb_m 199 (by decide +kernel) rfl, tb_m 46 (by decide +kernel) rfl⟩
theorem cl_gh_29 : Cond.classLink "GongHouse" 29 "GongHouse$Level" ∈ Tb := tb_m 111 (by decide +kernel) rfl
theorem nc_gh_29 : nc_ "GongHouse" 29 2 3 := ⟨_, _, rfl, by decide, cw_2, tyX2_ok, by decide +kernel, cl_gh_29, tb_m 231 (by decide +kernel) rfl, tb_m 47 (by decide +kernel) rfl⟩
theorem cl_gh_35 : Cond.classLink "GongHouse" 35 "GongHouse$Piece" ∈ Tb := tb_m 113 (by decide +kernel) rfl
theorem nc_gh_35 : nc_ "GongHouse" 35 4 6 := ⟨_, _, rfl, by decide, cw_4, tyX4_ok, by decide +kernel, cl_gh_35, tb_m 114 (by decide +kernel) rfl, tb_m 42 (by decide +kernel) rfl⟩
theorem cl_gh_42 : Cond.classLink "GongHouse" 42 "GongHouse$Walk" ∈ Tb := tb_m 150 (by decide +kernel) rfl
theorem nc_gh_42 : nc_ "GongHouse" 42 8 4 := ⟨_, _, rfl, by decide, cw_8, tyX8_ok, by decide +kernel, cl_gh_42, tb_m 151 (by decide +kernel) rfl, tb_m 44 (by decide +kernel) rfl⟩
theorem cl_gh_49 : Cond.classLink "GongHouse" 49 "GongHouse$LineTable" ∈ Tb := tb_m 173 (by decide +kernel) rfl
theorem nc_gh_49 : nc_ "GongHouse" 49 3 5 := ⟨_, _, rfl, by decide, cw_3, tyX3_ok, by decide +kernel, cl_gh_49, tb_m 174 (by decide +kernel) rfl, tb_m 45 (by decide +kernel) rfl⟩
theorem cl_gh_56 : Cond.classLink "GongHouse" 56 "GongHouse$Sheet" ∈ Tb := tb_m 197 (by decide +kernel) rfl
theorem nc_gh_56 : nc_ "GongHouse" 56 5 2 := ⟨_, _, rfl, by decide, cw_5, tyX5_ok, by decide +kernel, cl_gh_56, tb_m 270 (by decide +kernel) rfl, tb_m 49 (by decide +kernel) rfl⟩
theorem cl_le_9 : Cond.classLink "GongHouse$Level" 9 "GongHouse$Figure" ∈ Tb := tb_m 236 (by decide +kernel) rfl
theorem nc_le_9 : nc_ "GongHouse$Level" 9 1 3 := ⟨_, _, rfl, by decide, cw_1, tyX1_ok, by decide +kernel, cl_le_9, tb_m 238 (by decide +kernel) rfl, tb_m 48 (by decide +kernel) rfl⟩
theorem cl_la_7 : Cond.classLink "GongHouseLaw" 7 "GongHouse" ∈ Tb := tb_m 53 (by decide +kernel) rfl
theorem nc_la_7 : nc_ "GongHouseLaw" 7 9 8 := ⟨_, _, rfl, by decide, cw_9, tyX9_ok, by decide +kernel, cl_la_7, tb_m 54 (by decide +kernel) rfl, tb_m 39 (by decide +kernel) rfl⟩
theorem cl_la_10 : Cond.classLink "GongHouseLaw" 10 "GongHouseModel" ∈ Tb := tb_m 656 (by decide +kernel) rfl
theorem nc_la_10 : nc_ "GongHouseLaw" 10 10 24 := ⟨_, _, rfl, by decide, cw_10, tyX10_ok, by decide +kernel, cl_la_10, tb_m 657 (by decide +kernel) rfl, tb_m 50 (by decide +kernel) rfl⟩
theorem ac_i : Cond.arrayClass FieldType.int ∈ Tb := tb_m 108 (by decide +kernel) rfl
theorem ac_b : Cond.arrayClass FieldType.byte ∈ Tb := tb_m 77 (by decide +kernel) rfl
theorem ac_z : Cond.arrayClass FieldType.boolean ∈ Tb := tb_m 196 (by decide +kernel) rfl
set_option maxRecDepth 100000 in
theorem jd_oi : Cond.instanceMethod objectInit ∈ Tb := tb_m 59 (by decide +kernel) rfl
set_option maxRecDepth 100000 in
theorem jd_oc : Cond.code objectInit ⟨#[0xb1]⟩ 1 none ∈ Tb := tb_m 60 rfl rfl
set_option maxRecDepth 100000 in
theorem jd_min_s : Cond.static Lib.Math.min.name ∈ Tb := tb_m 379 (by decide +kernel) rfl
set_option maxRecDepth 100000 in
theorem jd_min_c : Cond.code Lib.Math.min.name Lib.Math.min.code 2 (some .int) ∈ Tb := tb_m 380 rfl rfl
set_option maxRecDepth 100000 in
theorem jd_abs_s : Cond.static Lib.Math.abs.name ∈ Tb := tb_m 584 (by decide +kernel) rfl
set_option maxRecDepth 100000 in
theorem jd_abs_c : Cond.code Lib.Math.abs.name Lib.Math.abs.code 1 (some .int) ∈ Tb := tb_m 585 rfl rfl
set_option maxRecDepth 100000 in
theorem jd_mi : Cond.initialized "java/lang/Math" ∈ Tb := tb_m 51 (by decide +kernel) rfl
set_option maxRecDepth 100000 in
theorem jd_si : Cond.initialized "java/lang/System" ∈ Tb := tb_m 52 (by decide +kernel) rfl
set_option maxRecDepth 100000 in
theorem jd_as : Cond.static arraycopyName ∈ Tb := tb_m 382 (by decide +kernel) rfl
set_option maxRecDepth 100000 in
theorem jd_an : Cond.native arraycopyName ∈ Tb := tb_m 383 (by decide +kernel) rfl
end
section
/-! the layout behind the constructors -/
def LAY : Ly := [(9, 8, [some 1, some 3, some 6, some 7, some 8, some 13, some 14, some 20]), (6, 2, [some 2, none]), (11, 64, []), (7, 6, [some 4, some 5, none, none, none, none]), (12, 32, []), (12, 32, []), (14, 4, [some 21, some 26, some 31, some 36]), (16, 4, [some 41, some 68, some 95, some 122]), (4, 6, [some 9, some 10, some 11, some 12, none, none]), (12, 16, []), (12, 16, []), (12, 16, []), (12, 144, []), (8, 4, [none, none, none, none]), (3, 5, [some 15, some 16, some 17, some 18, some 19]), (12, 42, []), (12, 42, []), (12, 42, []), (12, 3, []), (13, 6, []), (17, 2, [some 149, some 151]), (0, 5, [some 22, some 23, some 24, some 25, none]), (12, 32, []), (12, 32, []), (12, 32, []), (12, 32, []), (0, 5, [some 27, some 28, some 29, some 30, none]), (12, 32, []), (12, 32, []), (12, 32, []), (12, 32, []), (0, 5, [some 32, some 33, some 34, some 35, none]), (12, 32, []), (12, 32, []), (12, 32, []), (12, 32, []), (0, 5, [some 37, some 38, some 39, some 40, none]), (12, 32, []), (12, 32, []), (12, 32, []), (12, 32, []), (2, 3, [none, some 42, some 43]), (15, 6, [some 44, some 48, some 52, some 56, some 60, some 64]), (12, 3, []), (1, 3, [some 45, some 46, some 47]), (12, 2, []), (12, 2, []), (13, 2, []), (1, 3, [some 49, some 50, some 51]), (12, 2, []), (12, 2, []), (13, 2, []), (1, 3, [some 53, some 54, some 55]), (12, 2, []), (12, 2, []), (13, 2, []), (1, 3, [some 57, some 58, some 59]), (12, 2, []), (12, 2, []), (13, 2, []), (1, 3, [some 61, some 62, some 63]), (12, 2, []), (12, 2, []), (13, 2, []), (1, 3, [some 65, some 66, some 67]), (12, 2, []), (12, 2, []), (13, 2, []), (2, 3, [none, some 69, some 70]), (15, 6, [some 71, some 75, some 79, some 83, some 87, some 91]), (12, 3, []), (1, 3, [some 72, some 73, some 74]), (12, 4, []), (12, 4, []), (13, 4, []), (1, 3, [some 76, some 77, some 78]), (12, 4, []), (12, 4, []), (13, 4, []), (1, 3, [some 80, some 81, some 82]), (12, 4, []), (12, 4, []), (13, 4, []), (1, 3, [some 84, some 85, some 86]), (12, 4, []), (12, 4, []), (13, 4, []), (1, 3, [some 88, some 89, some 90]), (12, 4, []), (12, 4, []), (13, 4, []), (1, 3, [some 92, some 93, some 94]), (12, 4, []), (12, 4, []), (13, 4, []), (2, 3, [none, some 96, some 97]), (15, 6, [some 98, some 102, some 106, some 110, some 114, some 118]), (12, 3, []), (1, 3, [some 99, some 100, some 101]), (12, 8, []), (12, 8, []), (13, 8, []), (1, 3, [some 103, some 104, some 105]), (12, 8, []), (12, 8, []), (13, 8, []), (1, 3, [some 107, some 108, some 109]), (12, 8, []), (12, 8, []), (13, 8, []), (1, 3, [some 111, some 112, some 113]), (12, 8, []), (12, 8, []), (13, 8, []), (1, 3, [some 115, some 116, some 117]), (12, 8, []), (12, 8, []), (13, 8, []), (1, 3, [some 119, some 120, some 121]), (12, 8, []), (12, 8, []), (13, 8, []), (2, 3, [none, some 123, some 124]), (15, 6, [some 125, some 129, some 133, some 137, some 141, some 145]), (12, 3, []), (1, 3, [some 126, some 127, some 128]), (12, 16, []), (12, 16, []), (13, 16, []), (1, 3, [some 130, some 131, some 132]), (12, 16, []), (12, 16, []), (13, 16, []), (1, 3, [some 134, some 135, some 136]), (12, 16, []), (12, 16, []), (13, 16, []), (1, 3, [some 138, some 139, some 140]), (12, 16, []), (12, 16, []), (13, 16, []), (1, 3, [some 142, some 143, some 144]), (12, 16, []), (12, 16, []), (13, 16, []), (1, 3, [some 146, some 147, some 148]), (12, 16, []), (12, 16, []), (13, 16, []), (5, 2, [some 150, none]), (11, 16, []), (5, 2, [some 152, none]), (11, 16, []), (10, 24, [some 154, some 155, some 156, some 157, some 158, some 159, none, some 160, some 161, some 162, some 163, some 164, none, some 165, some 166, none, none, some 167, some 168, none, none, none, some 169, some 170]), (12, 4, []), (12, 128, []), (12, 128, []), (12, 768, []), (13, 384, []), (12, 12, []), (12, 16, []), (12, 16, []), (12, 16, []), (12, 144, []), (12, 64, []), (12, 2, []), (12, 32, []), (12, 32, []), (12, 32, []), (12, 3, []), (12, 16, [])]
set_option maxHeartbeats 400000 in
theorem ly_gh : LAY[0]? = some (9, 8, [some 1, some 3, some 6, some 7, some 8, some 13, some 14, some 20]) := rfl
set_option maxHeartbeats 400000 in
theorem ly_ta : LAY[1]? = some (6, 2, [some 2, none]) := rfl
set_option maxHeartbeats 400000 in
theorem ly_taB : LAY[2]? = some (11, 64, []) := rfl
set_option maxHeartbeats 400000 in
theorem ly_re : LAY[3]? = some (7, 6, [some 4, some 5, none, none, none, none]) := rfl
set_option maxHeartbeats 400000 in
theorem ly_reN : LAY[4]? = some (12, 32, []) := rfl
set_option maxHeartbeats 400000 in
theorem ly_reG : LAY[5]? = some (12, 32, []) := rfl
set_option maxHeartbeats 400000 in
theorem ly_ghC : LAY[6]? = some (14, 4, [some 21, some 26, some 31, some 36]) := rfl
set_option maxHeartbeats 400000 in
theorem ly_ghL : LAY[7]? = some (16, 4, [some 41, some 68, some 95, some 122]) := rfl
set_option maxHeartbeats 400000 in
theorem ly_pi : LAY[8]? = some (4, 6, [some 9, some 10, some 11, some 12, none, none]) := rfl
set_option maxHeartbeats 400000 in
theorem ly_piC : LAY[9]? = some (12, 16, []) := rfl
set_option maxHeartbeats 400000 in
theorem ly_piT : LAY[10]? = some (12, 16, []) := rfl
set_option maxHeartbeats 400000 in
theorem ly_piL : LAY[11]? = some (12, 16, []) := rfl
set_option maxHeartbeats 400000 in
theorem ly_piS : LAY[12]? = some (12, 144, []) := rfl
set_option maxHeartbeats 400000 in
theorem ly_wa : LAY[13]? = some (8, 4, [none, none, none, none]) := rfl
set_option maxHeartbeats 400000 in
theorem ly_li : LAY[14]? = some (3, 5, [some 15, some 16, some 17, some 18, some 19]) := rfl
set_option maxHeartbeats 400000 in
theorem ly_liI : LAY[15]? = some (12, 42, []) := rfl
set_option maxHeartbeats 400000 in
theorem ly_liF : LAY[16]? = some (12, 42, []) := rfl
set_option maxHeartbeats 400000 in
theorem ly_liL : LAY[17]? = some (12, 42, []) := rfl
set_option maxHeartbeats 400000 in
theorem ly_liC : LAY[18]? = some (12, 3, []) := rfl
set_option maxHeartbeats 400000 in
theorem ly_liU : LAY[19]? = some (13, 6, []) := rfl
set_option maxHeartbeats 400000 in
theorem ly_ghS : LAY[20]? = some (17, 2, [some 149, some 151]) := rfl
set_option maxHeartbeats 400000 in
theorem ly_mo : LAY[153]? = some (10, 24, [some 154, some 155, some 156, some 157, some 158, some 159, none, some 160, some 161, some 162, some 163, some 164, none, some 165, some 166, none, none, some 167, some 168, none, none, none, some 169, some 170]) := rfl
set_option maxHeartbeats 400000 in
theorem ly_mo_beats : LAY[154]? = some (12, 4, []) := rfl
set_option maxHeartbeats 400000 in
theorem ly_mo_notes : LAY[155]? = some (12, 128, []) := rfl
set_option maxHeartbeats 400000 in
theorem ly_mo_gongs : LAY[156]? = some (12, 128, []) := rfl
set_option maxHeartbeats 400000 in
theorem ly_mo_shifts : LAY[157]? = some (12, 768, []) := rfl
set_option maxHeartbeats 400000 in
theorem ly_mo_may : LAY[158]? = some (13, 384, []) := rfl
set_option maxHeartbeats 400000 in
theorem ly_mo_used : LAY[159]? = some (12, 12, []) := rfl
set_option maxHeartbeats 400000 in
theorem ly_mo_pCircle : LAY[160]? = some (12, 16, []) := rfl
set_option maxHeartbeats 400000 in
theorem ly_mo_pTimes : LAY[161]? = some (12, 16, []) := rfl
set_option maxHeartbeats 400000 in
theorem ly_mo_pLevel : LAY[162]? = some (12, 16, []) := rfl
set_option maxHeartbeats 400000 in
theorem ly_mo_signals : LAY[163]? = some (12, 144, []) := rfl
set_option maxHeartbeats 400000 in
theorem ly_mo_tape : LAY[164]? = some (12, 64, []) := rfl
set_option maxHeartbeats 400000 in
theorem ly_mo_places : LAY[165]? = some (12, 2, []) := rfl
set_option maxHeartbeats 400000 in
theorem ly_mo_numbers : LAY[166]? = some (12, 32, []) := rfl
set_option maxHeartbeats 400000 in
theorem ly_mo_newNotes : LAY[167]? = some (12, 32, []) := rfl
set_option maxHeartbeats 400000 in
theorem ly_mo_newGongs : LAY[168]? = some (12, 32, []) := rfl
set_option maxHeartbeats 400000 in
theorem ly_mo_three : LAY[169]? = some (12, 3, []) := rfl
set_option maxHeartbeats 400000 in
theorem ly_mo_carried : LAY[170]? = some (12, 16, []) := rfl
set_option maxHeartbeats 400000 in
theorem ly_ci {c : Nat} (h : c < 4) : LAY[21 + 5 * c]? = some (0, 5, [some (22 + 5 * c), some (23 + 5 * c), some (24 + 5 * c), some (25 + 5 * c), none]) := by
  have : c = 0 ∨ c = 1 ∨ c = 2 ∨ c = 3 := by omega
  rcases this with rfl | rfl | rfl | rfl <;> rfl
set_option maxHeartbeats 400000 in
theorem ly_ciN {c : Nat} (h : c < 4) : LAY[22 + 5 * c]? = some (12, 32, []) := by
  have : c = 0 ∨ c = 1 ∨ c = 2 ∨ c = 3 := by omega
  rcases this with rfl | rfl | rfl | rfl <;> rfl
set_option maxHeartbeats 400000 in
theorem ly_ciG {c : Nat} (h : c < 4) : LAY[23 + 5 * c]? = some (12, 32, []) := by
  have : c = 0 ∨ c = 1 ∨ c = 2 ∨ c = 3 := by omega
  rcases this with rfl | rfl | rfl | rfl <;> rfl
set_option maxHeartbeats 400000 in
theorem ly_ciT {c : Nat} (h : c < 4) : LAY[24 + 5 * c]? = some (12, 32, []) := by
  have : c = 0 ∨ c = 1 ∨ c = 2 ∨ c = 3 := by omega
  rcases this with rfl | rfl | rfl | rfl <;> rfl
set_option maxHeartbeats 400000 in
theorem ly_ciU {c : Nat} (h : c < 4) : LAY[25 + 5 * c]? = some (12, 32, []) := by
  have : c = 0 ∨ c = 1 ∨ c = 2 ∨ c = 3 := by omega
  rcases this with rfl | rfl | rfl | rfl <;> rfl
set_option maxHeartbeats 400000 in
theorem ly_le {l : Nat} (h : l < 4) : LAY[41 + 27 * l]? = some (2, 3, [none, some (42 + 27 * l), some (43 + 27 * l)]) := by
  have : l = 0 ∨ l = 1 ∨ l = 2 ∨ l = 3 := by omega
  rcases this with rfl | rfl | rfl | rfl <;> rfl
set_option maxHeartbeats 400000 in
theorem ly_leF {l : Nat} (h : l < 4) : LAY[42 + 27 * l]? = some (15, 6, [some (44 + 27 * l), some (48 + 27 * l), some (52 + 27 * l), some (56 + 27 * l), some (60 + 27 * l), some (64 + 27 * l)]) := by
  have : l = 0 ∨ l = 1 ∨ l = 2 ∨ l = 3 := by omega
  rcases this with rfl | rfl | rfl | rfl <;> rfl
set_option maxHeartbeats 400000 in
theorem ly_leF_at {l f : Nat} (hf : f < 6) : [some (44 + 27 * l), some (48 + 27 * l), some (52 + 27 * l), some (56 + 27 * l), some (60 + 27 * l), some (64 + 27 * l)].getD f none = some (44 + 27 * l + 4 * f) := by
  have : f = 0 ∨ f = 1 ∨ f = 2 ∨ f = 3 ∨ f = 4 ∨ f = 5 := by omega
  rcases this with rfl | rfl | rfl | rfl | rfl | rfl <;> simp <;> omega
set_option maxHeartbeats 400000 in
theorem ly_leU {l : Nat} (h : l < 4) : LAY[43 + 27 * l]? = some (12, 3, []) := by
  have : l = 0 ∨ l = 1 ∨ l = 2 ∨ l = 3 := by omega
  rcases this with rfl | rfl | rfl | rfl <;> rfl
set_option maxHeartbeats 400000 in
theorem ly_fi {l f : Nat} (h : l < 4) (hf : f < 6) : LAY[44 + 27 * l + 4 * f]? = some (1, 3, [some (45 + 27 * l + 4 * f), some (46 + 27 * l + 4 * f), some (47 + 27 * l + 4 * f)]) := by
  have h1 : l = 0 ∨ l = 1 ∨ l = 2 ∨ l = 3 := by omega
  have h2 : f = 0 ∨ f = 1 ∨ f = 2 ∨ f = 3 ∨ f = 4 ∨ f = 5 := by omega
  rcases h1 with rfl | rfl | rfl | rfl <;> rcases h2 with rfl | rfl | rfl | rfl | rfl | rfl <;> rfl
set_option maxHeartbeats 400000 in
theorem ly_fiM {l f : Nat} (h : l < 4) (hf : f < 6) : LAY[45 + 27 * l + 4 * f]? = some (12, 2 ^ (l + 1), []) := by
  have h1 : l = 0 ∨ l = 1 ∨ l = 2 ∨ l = 3 := by omega
  have h2 : f = 0 ∨ f = 1 ∨ f = 2 ∨ f = 3 ∨ f = 4 ∨ f = 5 := by omega
  rcases h1 with rfl | rfl | rfl | rfl <;> rcases h2 with rfl | rfl | rfl | rfl | rfl | rfl <;> rfl
set_option maxHeartbeats 400000 in
theorem ly_fiO {l f : Nat} (h : l < 4) (hf : f < 6) : LAY[46 + 27 * l + 4 * f]? = some (12, 2 ^ (l + 1), []) := by
  have h1 : l = 0 ∨ l = 1 ∨ l = 2 ∨ l = 3 := by omega
  have h2 : f = 0 ∨ f = 1 ∨ f = 2 ∨ f = 3 ∨ f = 4 ∨ f = 5 := by omega
  rcases h1 with rfl | rfl | rfl | rfl <;> rcases h2 with rfl | rfl | rfl | rfl | rfl | rfl <;> rfl
set_option maxHeartbeats 400000 in
theorem ly_fiB {l f : Nat} (h : l < 4) (hf : f < 6) : LAY[47 + 27 * l + 4 * f]? = some (13, 2 ^ (l + 1), []) := by
  have h1 : l = 0 ∨ l = 1 ∨ l = 2 ∨ l = 3 := by omega
  have h2 : f = 0 ∨ f = 1 ∨ f = 2 ∨ f = 3 ∨ f = 4 ∨ f = 5 := by omega
  rcases h1 with rfl | rfl | rfl | rfl <;> rcases h2 with rfl | rfl | rfl | rfl | rfl | rfl <;> rfl
set_option maxHeartbeats 400000 in
theorem ly_sh {s : Nat} (h : s < 2) : LAY[149 + 2 * s]? = some (5, 2, [some (150 + 2 * s), none]) := by
  have : s = 0 ∨ s = 1 := by omega
  rcases this with rfl | rfl <;> rfl
set_option maxHeartbeats 400000 in
theorem ly_shB {s : Nat} (h : s < 2) : LAY[150 + 2 * s]? = some (11, 16, []) := by
  have : s = 0 ∨ s = 1 := by omega
  rcases this with rfl | rfl <;> rfl
set_option maxHeartbeats 400000 in
theorem ly_ghC_at {c : Nat} (h : c < 4) : [some 21, some 26, some 31, some 36].getD c none = some (21 + 5 * c) := by
  have : c = 0 ∨ c = 1 ∨ c = 2 ∨ c = 3 := by omega
  rcases this with rfl | rfl | rfl | rfl <;> rfl
set_option maxHeartbeats 400000 in
theorem ly_ghL_at {l : Nat} (h : l < 4) : [some 41, some 68, some 95, some 122].getD l none = some (41 + 27 * l) := by
  have : l = 0 ∨ l = 1 ∨ l = 2 ∨ l = 3 := by omega
  rcases this with rfl | rfl | rfl | rfl <;> rfl
set_option maxHeartbeats 400000 in
theorem ly_ghS_at {s : Nat} (h : s < 2) : [some 149, some 151].getD s none = some (149 + 2 * s) := by
  have : s = 0 ∨ s = 1 := by omega
  rcases this with rfl | rfl <;> rfl
/-! plain facts -/
set_option maxHeartbeats 400000 in
theorem nI_mul (a b : Nat) : nI a * nI b = nI (a * b) := by
  unfold nI
  exact (Int32.ofNat_mul a b).symm
set_option maxHeartbeats 400000 in
theorem nI_sub {a b : Nat} (h : b ≤ a) : nI a - nI b = nI (a - b) := by
  have h1 : nI a = nI (a - b) + nI b := by rw [nI_add]; congr 1; omega
  rw [h1]
  exact Int32.add_sub_cancel _ _
noncomputable def bI (p : Prop) : Int32 := @ite _ p (Classical.propDecidable p) 1 0
set_option maxHeartbeats 400000 in
theorem bI_t {p : Prop} (h : p) : bI p = 1 := by unfold bI; exact if_pos h
set_option maxHeartbeats 400000 in
theorem bI_f {p : Prop} (h : ¬ p) : bI p = 0 := by unfold bI; exact if_neg h
set_option maxHeartbeats 400000 in
theorem bI_0 {p : Prop} : bI p = 0 ↔ ¬ p := by
  by_cases h : p
  · rw [bI_t h]; simp [h]
  · rw [bI_f h]; simp [h]
set_option maxHeartbeats 400000 in
theorem bI_z {p : Prop} : narrow .boolean (.int (bI p)) = .int (bI p) := by
  by_cases h : p
  · rw [bI_t h]; rfl
  · rw [bI_f h]; rfl
def iR (x : Int32) (n : Nat) : Prop := ∃ k, k < n ∧ x = nI k
section Y6
variable {G : Nat × (Nat → Int32)} {M : Mi} {cap : Nat × Nat} {pc pc2 : Nat} {ls ls2 : List (Option Value)} {st : List Value} {σ : Sg} {lay : Ly} {mm : Mm} {Q : Option Value → Sg → Prop}
set_option maxHeartbeats 400000 in
theorem Y_top {x y : Int32} (he : x = y) (k : Y G M cap pc ls (.int y :: st) σ Q) : Y G M cap pc ls (.int x :: st) σ Q := he ▸ k
set_option maxHeartbeats 400000 in
theorem Y_mem {m2 : Mm} (he : mm = m2) (k : Y G M cap pc ls st (lay, m2) Q) : Y G M cap pc ls st (lay, mm) Q := he ▸ k
set_option maxHeartbeats 400000 in
theorem Y_if_eqb {off : Int} {q : Prop} {tgt : Nat} (i : Nat) (h : (m_t M)[i]? = some (pc, .ifCond .eq off, 3)) (hp : pc + 3 = pc2) (ht : (pc : Int) + off = (tgt : Int)) (kt : ¬ q → Y G M cap tgt ls st σ Q) (kf : q → Y G M cap pc2 ls st σ Q) : Y G M cap pc ls (.int (bI q) :: st) σ Q :=
  Y_if_eq i h hp ht (fun hh => kt (bI_0.mp hh)) (fun hh => kf (Classical.byContradiction (fun hn => hh (bI_f hn))))
set_option maxHeartbeats 400000 in
theorem Y_if_neb {off : Int} {q : Prop} {tgt : Nat} (i : Nat) (h : (m_t M)[i]? = some (pc, .ifCond .ne off, 3)) (hp : pc + 3 = pc2) (ht : (pc : Int) + off = (tgt : Int)) (kt : q → Y G M cap tgt ls st σ Q) (kf : ¬ q → Y G M cap pc2 ls st σ Q) : Y G M cap pc ls (.int (bI q) :: st) σ Q :=
  Y_if_ne i h hp ht (fun hh => kt (Classical.byContradiction (fun hn => hh (bI_f hn)))) (fun hh => kf (bI_0.mp hh))
set_option maxHeartbeats 400000 in
theorem Y_icmp_eqn {off : Int} {x y tgt : Nat} (i : Nat) (h : (m_t M)[i]? = some (pc, .if_icmp .eq off, 3)) (hp : pc + 3 = pc2) (ht : (pc : Int) + off = (tgt : Int)) (hx : x < 2 ^ 31) (hy : y < 2 ^ 31) (kt : x = y → Y G M cap tgt ls st σ Q) (kf : ¬ x = y → Y G M cap pc2 ls st σ Q) : Y G M cap pc ls (.int (nI y) :: .int (nI x) :: st) σ Q :=
  Y_icmp_eq i h hp ht (fun hh => kt ((nI_eq hx hy).mp hh)) (fun hh => kf (fun e => hh ((nI_eq hx hy).mpr e)))
set_option maxHeartbeats 400000 in
theorem Y_icmp_nen {off : Int} {x y tgt : Nat} (i : Nat) (h : (m_t M)[i]? = some (pc, .if_icmp .ne off, 3)) (hp : pc + 3 = pc2) (ht : (pc : Int) + off = (tgt : Int)) (hx : x < 2 ^ 31) (hy : y < 2 ^ 31) (kt : ¬ x = y → Y G M cap tgt ls st σ Q) (kf : ¬ ¬ x = y → Y G M cap pc2 ls st σ Q) : Y G M cap pc ls (.int (nI y) :: .int (nI x) :: st) σ Q :=
  Y_icmp_ne i h hp ht (fun hh => kt (fun e => hh ((nI_eq hx hy).mpr e))) (fun hh => kf (fun e => e ((nI_eq hx hy).mp hh)))
set_option maxHeartbeats 400000 in
theorem Y_icmp_ltn {off : Int} {x y tgt : Nat} (i : Nat) (h : (m_t M)[i]? = some (pc, .if_icmp .lt off, 3)) (hp : pc + 3 = pc2) (ht : (pc : Int) + off = (tgt : Int)) (hx : x < 2 ^ 31) (hy : y < 2 ^ 31) (kt : x < y → Y G M cap tgt ls st σ Q) (kf : ¬ x < y → Y G M cap pc2 ls st σ Q) : Y G M cap pc ls (.int (nI y) :: .int (nI x) :: st) σ Q :=
  Y_icmp_lt i h hp ht (fun hh => kt ((nI_ltI hx hy).mp hh)) (fun hh => kf (fun e => hh ((nI_ltI hx hy).mpr e)))
set_option maxHeartbeats 400000 in
theorem Y_icmp_gen {off : Int} {x y tgt : Nat} (i : Nat) (h : (m_t M)[i]? = some (pc, .if_icmp .ge off, 3)) (hp : pc + 3 = pc2) (ht : (pc : Int) + off = (tgt : Int)) (hx : x < 2 ^ 31) (hy : y < 2 ^ 31) (kt : y ≤ x → Y G M cap tgt ls st σ Q) (kf : ¬ y ≤ x → Y G M cap pc2 ls st σ Q) : Y G M cap pc ls (.int (nI y) :: .int (nI x) :: st) σ Q :=
  Y_icmp_ge i h hp ht (fun hh => kt ((nI_leI hy hx).mp hh)) (fun hh => kf (fun e => hh ((nI_leI hy hx).mpr e)))
set_option maxHeartbeats 400000 in
theorem Y_icmp_gtn {off : Int} {x y tgt : Nat} (i : Nat) (h : (m_t M)[i]? = some (pc, .if_icmp .gt off, 3)) (hp : pc + 3 = pc2) (ht : (pc : Int) + off = (tgt : Int)) (hx : x < 2 ^ 31) (hy : y < 2 ^ 31) (kt : y < x → Y G M cap tgt ls st σ Q) (kf : ¬ y < x → Y G M cap pc2 ls st σ Q) : Y G M cap pc ls (.int (nI y) :: .int (nI x) :: st) σ Q :=
  Y_icmp_gt i h hp ht (fun hh => kt ((nI_ltI hy hx).mp hh)) (fun hh => kf (fun e => hh ((nI_ltI hy hx).mpr e)))
set_option maxHeartbeats 400000 in
theorem Y_icmp_len {off : Int} {x y tgt : Nat} (i : Nat) (h : (m_t M)[i]? = some (pc, .if_icmp .le off, 3)) (hp : pc + 3 = pc2) (ht : (pc : Int) + off = (tgt : Int)) (hx : x < 2 ^ 31) (hy : y < 2 ^ 31) (kt : x ≤ y → Y G M cap tgt ls st σ Q) (kf : ¬ x ≤ y → Y G M cap pc2 ls st σ Q) : Y G M cap pc ls (.int (nI y) :: .int (nI x) :: st) σ Q :=
  Y_icmp_le i h hp ht (fun hh => kt ((nI_leI hx hy).mp hh)) (fun hh => kf (fun e => hh ((nI_leI hx hy).mpr e)))
end Y6
end
section
/-! TOOLS for the walks through the methods -/
set_option maxHeartbeats 400000 in
theorem nI_inc (t c : Nat) : nI t + Int32.ofInt (c : Int) = nI (t + c) := by
  rw [← nI_add]; congr 1
set_option maxHeartbeats 400000 in
theorem nI_dec {t : Nat} (h : 1 ≤ t) : nI t + Int32.ofInt (-1) = nI (t - 1) := by
  have h1 : nI t = nI (t - 1) + nI 1 := by rw [nI_add]; congr 1; omega
  rw [h1, Int32.add_assoc]
  have h2 : nI 1 + Int32.ofInt (-1) = 0 := by decide
  rw [h2, Int32.add_zero]
set_option maxHeartbeats 400000 in
theorem nI_m1 (k : Nat) : nI k + Int32.ofInt (-1) = nI k - nI 1 := by
  rw [Int32.sub_eq_add_neg]
  have : Int32.ofInt (-1) = -nI 1 := by decide
  rw [this]
set_option maxHeartbeats 400000 in
theorem nI_div {a b : Nat} (ha : a < 2 ^ 31) (hb : b < 2 ^ 31) : nI a / nI b = nI (a / b) := by
  have hd : a / b < 2 ^ 31 := Nat.lt_of_le_of_lt (Nat.div_le_self a b) ha
  apply Int32.toInt_inj.mp
  rw [Int32.toInt_div, nI_toInt ha, nI_toInt hb, nI_toInt hd]
  rw [Int.tdiv_eq_ediv_of_nonneg (by omega), ← Int.natCast_ediv]
  generalize a / b = q at hd
  rw [Int.bmod_eq_of_le] <;> omega
set_option maxHeartbeats 400000 in
theorem nI_rem {a b : Nat} (ha : a < 2 ^ 31) (hb : b < 2 ^ 31) : nI a - nI a / nI b * nI b = nI (a % b) := by
  rw [nI_div ha hb, nI_mul, nI_sub (Nat.div_mul_le_self a b)]
  congr 1
  have := Nat.mod_add_div a b
  have h2 : a / b * b = b * (a / b) := Nat.mul_comm _ _
  omega
set_option maxHeartbeats 400000 in
theorem sz_lt {l : Nat} (h : l < 4) : 2 ^ (l + 1) < 2 ^ 31 := Nat.pow_lt_pow_right (by omega) (by omega)
set_option maxHeartbeats 400000 in
theorem ly_fiR {l f h : Nat} (hl : l < 4) (hf : f < 6) (hh : h < 2) : LAY[45 + 27 * l + 4 * f + h]? = some (12, 2 ^ (l + 1), []) := by
  have h2 : h = 0 ∨ h = 1 := by omega
  rcases h2 with rfl | rfl
  · exact ly_fiM hl hf
  · have e : 45 + 27 * l + 4 * f + 1 = 46 + 27 * l + 4 * f := by omega
    rw [e]
    exact ly_fiO hl hf
def pu_ (x : Int32) (m : Mm) : Option Value → Mm → Prop := fun v m' => v = some (.int x) ∧ m = m'
def pa_ (a : Nat) (m : Mm) : Option Value → Mm → Prop := fun v m' => v = some (.ref a) ∧ m = m'
def pv_ (m : Mm) : Option Value → Mm → Prop := fun v m' => v = none ∧ m = m'
set_option maxHeartbeats 400000 in
theorem pu_i {x y : Int32} {m : Mm} (h : y = x) : pu_ x m (some (.int y)) m := ⟨by rw [h], rfl⟩
set_option maxHeartbeats 400000 in
theorem pu_t {p : Prop} {m : Mm} (h : p) : pu_ (bI p) m (some (.int (nI 1))) m := ⟨by rw [bI_t h]; rfl, rfl⟩
set_option maxHeartbeats 400000 in
theorem pu_f {p : Prop} {m : Mm} (h : ¬ p) : pu_ (bI p) m (some (.int (nI 0))) m := ⟨by rw [bI_f h]; rfl, rfl⟩
set_option maxHeartbeats 400000 in
theorem bI_c {p q : Prop} (h : p ↔ q) : bI p = bI q := by rw [propext h]
def ck_ (M M2 : Mi) (as rest : List Value) (u : Nat) : Bool := Nat.ble (rest.map fun v => v.category).sum 8 && (Nat.ble (m_f M2 + 1) (m_f M) && (Nat.ble (8 + (m_l M2 + 11) + m_w M2) (m_w M) && (as.all (fun v => Nat.beq v.category 1) && Nat.ble (as.length + u) (m_l M2))))
set_option maxHeartbeats 400000 in
theorem ck_u {M M2 : Mi} {as rest : List Value} {u : Nat} (h : ck_ M M2 as rest u = true) : (rest.map fun v => v.category).sum ≤ 8 ∧ (m_f M2 + 1 ≤ m_f M ∧ 8 + (m_l M2 + 11) + m_w M2 ≤ m_w M) ∧ (∀ v ∈ as, v.category = 1) ∧ as.length + u ≤ m_l M2 := by
  unfold ck_ at h
  simp only [Bool.and_eq_true, List.all_eq_true] at h
  obtain ⟨h1, h2, h3, h4, h5⟩ := h
  exact ⟨Nat.le_of_ble_eq_true h1, ⟨Nat.le_of_ble_eq_true h2, Nat.le_of_ble_eq_true h3⟩, fun v hv => Nat.eq_of_beq_eq_true (h4 v hv), Nat.le_of_ble_eq_true h5⟩
def iRz (x : Int32) (n : Nat) : Prop := 0 ≤ x ∧ x < nI n
set_option maxHeartbeats 400000 in
theorem iR_of {x : Int32} {n : Nat} (hn : n < 2 ^ 31) (h1 : ¬ x < 0) (h2 : ¬ nI n ≤ x) : iR x n := by
  obtain ⟨j, hj, rfl⟩ := nI_of h1
  refine ⟨j, ?_, rfl⟩
  have := mt (nI_leI hn hj).mpr h2
  omega
set_option maxHeartbeats 400000 in
theorem iR_ge {x : Int32} {n : Nat} (hn : n < 2 ^ 31) (h : iR x n) : ¬ x < 0 ∧ ¬ nI n ≤ x := by
  obtain ⟨k, hk, rfl⟩ := h
  exact ⟨nI_pos (by omega), fun e => by have := (nI_leI hn (by omega)).mp e; omega⟩
set_option maxHeartbeats 400000 in
theorem nI_iR {k n : Nat} (hk : k < 2 ^ 31) (hn : n < 2 ^ 31) : iR (nI k) n ↔ k < n := by
  constructor
  · rintro ⟨j, hj, e⟩
    have := (nI_eq hk (by omega)).mp e
    omega
  · intro h
    exact ⟨k, h, rfl⟩
set_option maxHeartbeats 400000 in
theorem uw_same {m : Mm} {a k : Nat} {v : Int32} : uw_ m a k v a k = v := by simp [uw_]
set_option maxHeartbeats 400000 in
theorem uw_ne {m : Mm} {a k b j : Nat} {v : Int32} (h : ¬ (b = a ∧ j = k)) : uw_ m a k v b j = m b j := by simp [uw_, h]
section Y9
variable {G : Nat × (Nat → Int32)} {M : Mi} {cap : Nat × Nat} {pc pc2 : Nat} {ls ls2 : List (Option Value)} {st : List Value} {σ : Sg} {lay : Ly} {mm : Mm} {Q : Option Value → Sg → Prop}
set_option maxHeartbeats 400000 in
theorem Y_cS {index : Nat} {M2 : Mi} {as rest : List Value} {P : Option Value → Mm → Prop} (i : Nat) (h : (m_t M)[i]? = some (pc, .invokestatic index, 3)) (hp : pc + 3 = pc2) (hM : Mok M2) (hl : lk_ (m_y M).cls index (m_y M2)) (hv : vs_ M2 as.length) (hst : st = as.reverse ++ rest) (hk : ck_ M M2 as rest 0 = true) (hY : Y G M2 (0, 0) 0 (en_ M2 as) [] (lay, mm) (qm_ lay P)) (k : ∀ (v : Option Value) (m2 : Mm), P v m2 → Y G M cap pc2 ls (v.toList ++ rest) (lay, m2) Q) : Y G M cap pc ls st (lay, mm) Q :=
  have hu := ck_u hk
  Y_callS i h hp hM hl hv hst hu.1 hu.2.1 hu.2.2.1 hu.2.2.2 hY k
set_option maxHeartbeats 400000 in
theorem Y_cV {index ci a n : Nat} {rs : List (Option Nat)} {qq : vw_C} {M2 : Mi} {as rest : List Value} {P : Option Value → Mm → Prop} (i : Nat) (h : (m_t M)[i]? = some (pc, .invokevirtual index, 3)) (hp : pc + 3 = pc2) (hM : Mok M2) (hl : lk_ (m_y M).cls index (m_y M2)) (hv : vi_ M2 as.length) (ha : lay[a]? = some (ci, n, rs)) (hci : vwCl[ci]? = some qq) (hc11 : ci < 11) (hqq : qq.1 = (m_y M2).cls) (hst : st = as.reverse ++ .ref a :: rest) (hk : ck_ M M2 as rest 1 = true) (hY : Y G M2 (0, 0) 0 (en_ M2 (.ref a :: as)) [] (lay, mm) (qm_ lay P)) (k : ∀ (v : Option Value) (m2 : Mm), P v m2 → Y G M cap pc2 ls (v.toList ++ rest) (lay, m2) Q) : Y G M cap pc ls st (lay, mm) Q :=
  have hu := ck_u hk
  Y_callV i h hp hM hl hv ha hci hc11 hqq hst hu.1 hu.2.1 hu.2.2.1 hu.2.2.2 hY k
set_option maxHeartbeats 400000 in
theorem Y_if_eqn {off : Int} {t tgt : Nat} (i : Nat) (h : (m_t M)[i]? = some (pc, .ifCond .eq off, 3)) (hp : pc + 3 = pc2) (ht : (pc : Int) + off = (tgt : Int)) (hx : t < 2 ^ 31) (kt : t = 0 → Y G M cap tgt ls st σ Q) (kf : ¬ t = 0 → Y G M cap pc2 ls st σ Q) : Y G M cap pc ls (.int (nI t) :: st) σ Q :=
  Y_if_eq i h hp ht (fun hh => kt ((nI_eq hx (by decide : (0 : Nat) < 2 ^ 31)).mp (hh.trans nI_0.symm))) (fun hh => kf (fun e => hh (by rw [e]; exact nI_0)))
set_option maxHeartbeats 400000 in
theorem Y_if_nen {off : Int} {t tgt : Nat} (i : Nat) (h : (m_t M)[i]? = some (pc, .ifCond .ne off, 3)) (hp : pc + 3 = pc2) (ht : (pc : Int) + off = (tgt : Int)) (hx : t < 2 ^ 31) (kt : ¬ t = 0 → Y G M cap tgt ls st σ Q) (kf : t = 0 → Y G M cap pc2 ls st σ Q) : Y G M cap pc ls (.int (nI t) :: st) σ Q :=
  Y_if_ne i h hp ht (fun hh => kt (fun e => hh (by rw [e]; exact nI_0))) (fun hh => kf ((nI_eq hx (by decide : (0 : Nat) < 2 ^ 31)).mp (hh.trans nI_0.symm)))
set_option maxHeartbeats 400000 in
theorem Y_if_ltn {off : Int} {t tgt : Nat} (i : Nat) (h : (m_t M)[i]? = some (pc, .ifCond .lt off, 3)) (hp : pc + 3 = pc2) (ht : (pc : Int) + off = (tgt : Int)) (hx : t < 2 ^ 31) (kf : Y G M cap pc2 ls st σ Q) : Y G M cap pc ls (.int (nI t) :: st) σ Q :=
  Y_if_lt i h hp ht (fun hh => absurd hh (nI_pos hx)) (fun _ => kf)
set_option maxHeartbeats 400000 in
theorem Y_if_gen {off : Int} {t tgt : Nat} (i : Nat) (h : (m_t M)[i]? = some (pc, .ifCond .ge off, 3)) (hp : pc + 3 = pc2) (ht : (pc : Int) + off = (tgt : Int)) (hx : t < 2 ^ 31) (kt : Y G M cap tgt ls st σ Q) : Y G M cap pc ls (.int (nI t) :: st) σ Q :=
  Y_if_ge i h hp ht (fun _ => kt) (fun hh => absurd (nI_pos' hx) hh)
set_option maxHeartbeats 400000 in
theorem Y_if_gtn {off : Int} {t tgt : Nat} (i : Nat) (h : (m_t M)[i]? = some (pc, .ifCond .gt off, 3)) (hp : pc + 3 = pc2) (ht : (pc : Int) + off = (tgt : Int)) (hx : t < 2 ^ 31) (kt : 0 < t → Y G M cap tgt ls st σ Q) (kf : ¬ 0 < t → Y G M cap pc2 ls st σ Q) : Y G M cap pc ls (.int (nI t) :: st) σ Q :=
  Y_if_gt i h hp ht (fun hh => kt ((nI_ltI (by decide : (0 : Nat) < 2 ^ 31) hx).mp (by rw [nI_0]; exact hh))) (fun hh => kf (fun e => hh (by have := (nI_ltI (by decide : (0 : Nat) < 2 ^ 31) hx).mpr e; rw [nI_0] at this; exact this)))
set_option maxHeartbeats 400000 in
theorem Y_if_len {off : Int} {t tgt : Nat} (i : Nat) (h : (m_t M)[i]? = some (pc, .ifCond .le off, 3)) (hp : pc + 3 = pc2) (ht : (pc : Int) + off = (tgt : Int)) (hx : t < 2 ^ 31) (kt : t = 0 → Y G M cap tgt ls st σ Q) (kf : ¬ t = 0 → Y G M cap pc2 ls st σ Q) : Y G M cap pc ls (.int (nI t) :: st) σ Q :=
  Y_if_le i h hp ht (fun hh => kt (by have := (nI_leI hx (by decide : (0 : Nat) < 2 ^ 31)).mp (by rw [nI_0]; exact hh); omega)) (fun hh => kf (fun e => hh (by rw [e, nI_0]; decide)))
set_option maxHeartbeats 400000 in
theorem Y_tsw {dflt hi : Int} {n tgt : Nat} {offs : Array Int} {len : Nat} {x : Int32} (i : Nat) (h : (m_t M)[i]? = some (pc, .tableswitch dflt 0 hi offs, len)) (hn : hi + 1 = (n : Int)) (hn2 : n < 1000) (hs : n = offs.size) (hnn : ∀ j, j < n → 0 ≤ (pc : Int) + offs.getD j 0) (ht : (pc : Int) + dflt = (tgt : Int)) (ko : ¬ iR x n → Y G M cap tgt ls st σ Q) (k : ∀ j, j < n → x = nI j → Y G M cap ((pc : Int) + offs.getD j 0).toNat ls st σ Q) : Y G M cap pc ls (.int x :: st) σ Q := by
  by_cases hx : iR x n
  · obtain ⟨j, hj, rfl⟩ := hx
    have e : (nI j).toInt = (j : Int) := nI_toInt (by omega)
    refine Y_tableIn i h (by rw [e]; omega) (by rw [e]; omega) (off := offs.getD j 0) ?_ ?_ (k j hj rfl)
    · rw [e]
      have : ((j : Int) - 0).toNat = j := by omega
      rw [this, Array.getD_eq_getD_getElem?, Array.getElem?_eq_getElem (by omega)]
      rfl
    · have := hnn j hj
      omega
  · refine Y_tableOut i h ?_ ht (ko hx)
    by_cases h0 : x.toInt < 0
    · exact Or.inl h0
    · right
      have h1 : ¬ x < 0 := fun e => h0 (by have := Int32.lt_iff_toInt_lt.mp e; simpa using this)
      obtain ⟨j, hj, rfl⟩ := nI_of h1
      have e : (nI j).toInt = (j : Int) := nI_toInt hj
      rw [e]
      have : ¬ j < n := fun hh => hx ⟨j, hh, rfl⟩
      omega
end Y9
end
section
/-! small methods -/
def ky (t s : Int32) : Int32 := if t + s < 0 then t + s + nI 5 else if nI 9 < t + s then t + s - nI 5 else t + s
def NONE_ : Int32 := -1000000005
def BAD_ : Int32 := -1000000001
set_option maxHeartbeats 400000 in
theorem T_gh_isBelow {G : Nat × (Nat → Int32)} {m : Mm} {x : Int32} {n : Nat} (hn : n < 2 ^ 31) : Y G M_gh_isBelow (0, 0) 0 (en_ M_gh_isBelow [.int (x), .int (nI n)]) [] (LAY, m) (qm_ LAY (pu_ (bI (iR x n)) m)) := by
  change Y _ _ _ _ [some (.int _), some (.int _)] _ _ _
  refine Y_iload_n 0 rfl rfl rfl ?_
  refine Y_if_lt 1 rfl rfl (tgt := 13) (by decide) (fun h1 => ?_) (fun h1 => ?_)
  · refine Y_iconst 7 rfl rfl (v := nI 0) (by decide) ?_
    refine Y_iret 8 rfl rfl rfl ⟨rfl, ?_⟩
    first | exact pu_t (iR_of hn h1 h6) | exact pu_f (fun e => (iR_ge hn e).1 h1) | exact pu_f (fun e => (iR_ge hn e).2 h6)
  · refine Y_iload_n 2 rfl rfl rfl ?_
    refine Y_iload_n 3 rfl rfl rfl ?_
    refine Y_icmp_ge 4 rfl rfl (tgt := 13) (by decide) (fun h6 => ?_) (fun h6 => ?_)
    · refine Y_iconst 7 rfl rfl (v := nI 0) (by decide) ?_
      refine Y_iret 8 rfl rfl rfl ⟨rfl, ?_⟩
      first | exact pu_t (iR_of hn h1 h6) | exact pu_f (fun e => (iR_ge hn e).1 h1) | exact pu_f (fun e => (iR_ge hn e).2 h6)
    · refine Y_iconst 5 rfl rfl (v := nI 1) (by decide) ?_
      refine Y_goto 6 rfl (pc2 := 14) (by decide) ?_
      refine Y_iret 8 rfl rfl rfl ⟨rfl, ?_⟩
      first | exact pu_t (iR_of hn h1 h6) | exact pu_f (fun e => (iR_ge hn e).1 h1) | exact pu_f (fun e => (iR_ge hn e).2 h6)

set_option maxHeartbeats 400000 in
theorem T_gh_isShift {G : Nat × (Nat → Int32)} {m : Mm} {x : Int32} : Y G M_gh_isShift (0, 0) 0 (en_ M_gh_isShift [.int (x)]) [] (LAY, m) (qm_ LAY (pu_ (bI (-4 ≤ x ∧ x ≤ nI 4)) m)) := by
  change Y _ _ _ _ [some (.int _)] _ _ _
  refine Y_iload_n 0 rfl rfl rfl ?_
  refine Y_bipush 1 rfl rfl (v := -4) (by decide) ?_
  refine Y_icmp_lt 2 rfl rfl (tgt := 15) (by decide) (fun h3 => ?_) (fun h3 => ?_)
  · refine Y_iconst 8 rfl rfl (v := nI 0) (by decide) ?_
    refine Y_iret 9 rfl rfl rfl ⟨rfl, ?_⟩
    first | exact pu_t (by refine ⟨?_, ?_⟩ <;> simp only [Int32.lt_iff_toInt_lt, Int32.le_iff_toInt_le] at * <;> omega) | exact pu_f (by intro e; obtain ⟨e1, e2⟩ := e; simp only [Int32.lt_iff_toInt_lt, Int32.le_iff_toInt_le] at *; omega)
  · refine Y_iload_n 3 rfl rfl rfl ?_
    refine Y_iconst 4 rfl rfl (v := nI 4) (by decide) ?_
    refine Y_icmp_gt 5 rfl rfl (tgt := 15) (by decide) (fun h8 => ?_) (fun h8 => ?_)
    · refine Y_iconst 8 rfl rfl (v := nI 0) (by decide) ?_
      refine Y_iret 9 rfl rfl rfl ⟨rfl, ?_⟩
      first | exact pu_t (by refine ⟨?_, ?_⟩ <;> simp only [Int32.lt_iff_toInt_lt, Int32.le_iff_toInt_le] at * <;> omega) | exact pu_f (by intro e; obtain ⟨e1, e2⟩ := e; simp only [Int32.lt_iff_toInt_lt, Int32.le_iff_toInt_le] at *; omega)
    · refine Y_iconst 6 rfl rfl (v := nI 1) (by decide) ?_
      refine Y_goto 7 rfl (pc2 := 16) (by decide) ?_
      refine Y_iret 9 rfl rfl rfl ⟨rfl, ?_⟩
      first | exact pu_t (by refine ⟨?_, ?_⟩ <;> simp only [Int32.lt_iff_toInt_lt, Int32.le_iff_toInt_le] at * <;> omega) | exact pu_f (by intro e; obtain ⟨e1, e2⟩ := e; simp only [Int32.lt_iff_toInt_lt, Int32.le_iff_toInt_le] at *; omega)

set_option maxHeartbeats 400000 in
theorem T_gh_isLevelOrNone {G : Nat × (Nat → Int32)} {m : Mm} {x : Int32} : Y G M_gh_isLevelOrNone (0, 0) 0 (en_ M_gh_isLevelOrNone [.int (x)]) [] (LAY, m) (qm_ LAY (pu_ (bI (x = NONE_ ∨ iR x 4)) m)) := by
  change Y _ _ _ _ [some (.int _)] _ _ _
  refine Y_iload_n 0 rfl rfl rfl ?_
  refine Y_ldc 1 rfl rfl kc_gh_84 ?_
  refine Y_icmp_eq 2 rfl rfl (tgt := 14) (by decide) (fun h3 => ?_) (fun h3 => ?_)
  · refine Y_iconst 7 rfl rfl (v := nI 1) (by decide) ?_
    refine Y_goto 8 rfl (pc2 := 19) (by decide) ?_
    refine Y_iret 10 rfl rfl rfl ⟨rfl, ?_⟩
    first | exact pu_t (Or.inl h3) | exact pu_t (Or.inr h11) | exact pu_f (fun e => e.elim h3 h11)
  · refine Y_iload_n 3 rfl rfl rfl ?_
    refine Y_iconst 4 rfl rfl (v := nI 4) (by decide) ?_
    refine Y_cS 5 rfl rfl ok_gh_isBelow lk_gh_80 vs_gh_isBelow (as := [.int _, .int _]) (rest := []) rfl rfl (T_gh_isBelow (by omega)) ?_
    rintro _ _ ⟨rfl, rfl⟩
    change Y _ _ _ _ _ [.int _] _ _
    refine Y_if_eqb 6 rfl rfl (tgt := 18) (by decide) (fun h11 => ?_) (fun h11 => ?_)
    · refine Y_iconst 9 rfl rfl (v := nI 0) (by decide) ?_
      refine Y_iret 10 rfl rfl rfl ⟨rfl, ?_⟩
      first | exact pu_t (Or.inl h3) | exact pu_t (Or.inr h11) | exact pu_f (fun e => e.elim h3 h11)
    · refine Y_iconst 7 rfl rfl (v := nI 1) (by decide) ?_
      refine Y_goto 8 rfl (pc2 := 19) (by decide) ?_
      refine Y_iret 10 rfl rfl rfl ⟨rfl, ?_⟩
      first | exact pu_t (Or.inl h3) | exact pu_t (Or.inr h11) | exact pu_f (fun e => e.elim h3 h11)

set_option maxHeartbeats 400000 in
theorem T_gh_isHalfPlayer {G : Nat × (Nat → Int32)} {m : Mm} {x : Int32} : Y G M_gh_isHalfPlayer (0, 0) 0 (en_ M_gh_isHalfPlayer [.int (x)]) [] (LAY, m) (qm_ LAY (pu_ (bI (0 < x ∧ x < nI 3)) m)) := by
  change Y _ _ _ _ [some (.int _)] _ _ _
  refine Y_iload_n 0 rfl rfl rfl ?_
  refine Y_if_le 1 rfl rfl (tgt := 13) (by decide) (fun h1 => ?_) (fun h1 => ?_)
  · refine Y_iconst 7 rfl rfl (v := nI 0) (by decide) ?_
    refine Y_iret 8 rfl rfl rfl ⟨rfl, ?_⟩
    first | exact pu_t (by simp_all) | exact pu_f (fun e => absurd e.1 h1.not_gt) | exact pu_f (fun e => h1 e.1) | exact pu_f (fun e => Int32.not_le.mpr e.2 h6)| exact pu_f (fun e => Int32.not_le.mpr e.1 h1)
  · refine Y_iload_n 2 rfl rfl rfl ?_
    refine Y_iconst 3 rfl rfl (v := nI 3) (by decide) ?_
    refine Y_icmp_ge 4 rfl rfl (tgt := 13) (by decide) (fun h6 => ?_) (fun h6 => ?_)
    · refine Y_iconst 7 rfl rfl (v := nI 0) (by decide) ?_
      refine Y_iret 8 rfl rfl rfl ⟨rfl, ?_⟩
      first | exact pu_t (by simp_all) | exact pu_f (fun e => absurd e.1 h1.not_gt) | exact pu_f (fun e => h1 e.1) | exact pu_f (fun e => Int32.not_le.mpr e.2 h6)| exact pu_f (fun e => Int32.not_le.mpr e.1 h1)
    · refine Y_iconst 5 rfl rfl (v := nI 1) (by decide) ?_
      refine Y_goto 6 rfl (pc2 := 14) (by decide) ?_
      refine Y_iret 8 rfl rfl rfl ⟨rfl, ?_⟩
      first | exact pu_t (by simp_all) | exact pu_f (fun e => absurd e.1 h1.not_gt) | exact pu_f (fun e => h1 e.1) | exact pu_f (fun e => Int32.not_le.mpr e.2 h6)| exact pu_f (fun e => Int32.not_le.mpr e.1 h1)

set_option maxHeartbeats 400000 in
theorem T_gh_keyOf {G : Nat × (Nat → Int32)} {m : Mm} {x y : Int32} : Y G M_gh_keyOf (0, 0) 0 (en_ M_gh_keyOf [.int (x), .int (y)]) [] (LAY, m) (qm_ LAY (pu_ (ky x y) m)) := by
  change Y _ _ _ _ [some (.int _), some (.int _), none] _ _ _
  refine Y_iload_n 0 rfl rfl rfl ?_
  refine Y_iload_n 1 rfl rfl rfl ?_
  refine Y_iadd 2 rfl rfl ?_
  refine Y_istore_n 3 rfl rfl (Nat.le_of_ble_eq_true rfl) (ls2 := [some (.int _), some (.int _), some (.int _)]) rfl ?_
  refine Y_iload_n 4 rfl rfl rfl ?_
  refine Y_if_ge 5 rfl rfl (tgt := 12) (by decide) (fun h5 => ?_) (fun h5 => ?_)
  · refine Y_iload_n 10 rfl rfl rfl ?_
    refine Y_bipush 11 rfl rfl (v := nI 9) (by decide) ?_
    refine Y_icmp_le 12 rfl rfl (tgt := 24) (by decide) (fun h15 => ?_) (fun h15 => ?_)
    · refine Y_iload_n 17 rfl rfl rfl ?_
      refine Y_iret 18 rfl rfl rfl ⟨rfl, ?_⟩
      exact pu_i (by unfold ky; (repeat' split) <;> first | rfl | (exfalso; simp only [Int32.lt_iff_toInt_lt, Int32.le_iff_toInt_le] at *; omega))
    · refine Y_iload_n 13 rfl rfl rfl ?_
      refine Y_iconst 14 rfl rfl (v := nI 5) (by decide) ?_
      refine Y_isub 15 rfl rfl ?_
      refine Y_goto 16 rfl (pc2 := 25) (by decide) ?_
      refine Y_iret 18 rfl rfl rfl ⟨rfl, ?_⟩
      exact pu_i (by unfold ky; (repeat' split) <;> first | rfl | (exfalso; simp only [Int32.lt_iff_toInt_lt, Int32.le_iff_toInt_le] at *; omega))
  · refine Y_iload_n 6 rfl rfl rfl ?_
    refine Y_iconst 7 rfl rfl (v := nI 5) (by decide) ?_
    refine Y_iadd 8 rfl rfl ?_
    refine Y_iret 9 rfl rfl rfl ⟨rfl, ?_⟩
    exact pu_i (by unfold ky; (repeat' split) <;> first | rfl | (exfalso; simp only [Int32.lt_iff_toInt_lt, Int32.le_iff_toInt_le] at *; omega))

set_option maxHeartbeats 400000 in
theorem T_wa_toldOr {G : Nat × (Nat → Int32)} {m : Mm} {x y : Int32} : Y G M_wa_toldOr (0, 0) 0 (en_ M_wa_toldOr [.int (x), .int (y)]) [] (LAY, m) (qm_ LAY (pu_ (if x = NONE_ then y else x) m)) := by
  change Y _ _ _ _ [some (.int _), some (.int _)] _ _ _
  refine Y_iload_n 0 rfl rfl rfl ?_
  refine Y_ldc 1 rfl rfl kc_wa_51 ?_
  refine Y_icmp_ne 2 rfl rfl (tgt := 10) (by decide) (fun h3 => ?_) (fun h3 => ?_)
  · refine Y_iload_n 5 rfl rfl rfl ?_
    refine Y_iret 6 rfl rfl rfl ⟨rfl, ?_⟩
    exact pu_i (by unfold NONE_; simp_all)
  · refine Y_iload_n 3 rfl rfl rfl ?_
    refine Y_goto 4 rfl (pc2 := 11) (by decide) ?_
    refine Y_iret 6 rfl rfl rfl ⟨rfl, ?_⟩
    exact pu_i (by unfold NONE_; simp_all)

set_option maxHeartbeats 400000 in
theorem T_gh_hasFigure {G : Nat × (Nat → Int32)} {m : Mm} {x y : Int32} : Y G M_gh_hasFigure (0, 0) 0 (en_ M_gh_hasFigure [.int (x), .int (y)]) [] (LAY, m) (qm_ LAY (pu_ (bI (iR x 4 ∧ iR y 6)) m)) := by
  change Y _ _ _ _ [some (.int _), some (.int _)] _ _ _
  refine Y_iload_n 0 rfl rfl rfl ?_
  refine Y_iconst 1 rfl rfl (v := nI 4) (by decide) ?_
  refine Y_cS 2 rfl rfl ok_gh_isBelow lk_gh_80 vs_gh_isBelow (as := [.int _, .int _]) (rest := []) rfl rfl (T_gh_isBelow (by omega)) ?_
  rintro _ _ ⟨rfl, rfl⟩
  change Y _ _ _ _ _ [.int _] _ _
  refine Y_if_eqb 3 rfl rfl (tgt := 21) (by decide) (fun h5 => ?_) (fun h5 => ?_)
  · refine Y_iconst 10 rfl rfl (v := nI 0) (by decide) ?_
    refine Y_iret 11 rfl rfl rfl ⟨rfl, ?_⟩
    first | exact pu_t ⟨by assumption, by assumption⟩ | exact pu_f (fun e => absurd e.1 (by assumption)) | exact pu_f (fun e => absurd e.2 (by assumption))
  · refine Y_iload_n 4 rfl rfl rfl ?_
    refine Y_bipush 5 rfl rfl (v := nI 6) (by decide) ?_
    refine Y_cS 6 rfl rfl ok_gh_isBelow lk_gh_80 vs_gh_isBelow (as := [.int _, .int _]) (rest := []) rfl rfl (T_gh_isBelow (by omega)) ?_
    rintro _ _ ⟨rfl, rfl⟩
    change Y _ _ _ _ _ [.int _] _ _
    refine Y_if_eqb 7 rfl rfl (tgt := 21) (by decide) (fun h14 => ?_) (fun h14 => ?_)
    · refine Y_iconst 10 rfl rfl (v := nI 0) (by decide) ?_
      refine Y_iret 11 rfl rfl rfl ⟨rfl, ?_⟩
      first | exact pu_t ⟨by assumption, by assumption⟩ | exact pu_f (fun e => absurd e.1 (by assumption)) | exact pu_f (fun e => absurd e.2 (by assumption))
    · refine Y_iconst 8 rfl rfl (v := nI 1) (by decide) ?_
      refine Y_goto 9 rfl (pc2 := 22) (by decide) ?_
      refine Y_iret 11 rfl rfl rfl ⟨rfl, ?_⟩
      first | exact pu_t ⟨by assumption, by assumption⟩ | exact pu_f (fun e => absurd e.1 (by assumption)) | exact pu_f (fun e => absurd e.2 (by assumption))

set_option maxHeartbeats 400000 in
theorem T_mo_isIn {G : Nat × (Nat → Int32)} {m : Mm} {x y z : Int32} : Y G M_mo_isIn (0, 0) 0 (en_ M_mo_isIn [.int (x), .int (y), .int (z)]) [] (LAY, m) (qm_ LAY (pu_ (bI (y ≤ x ∧ x ≤ z)) m)) := by
  change Y _ _ _ _ [some (.int _), some (.int _), some (.int _)] _ _ _
  refine Y_iload_n 0 rfl rfl rfl ?_
  refine Y_iload_n 1 rfl rfl rfl ?_
  refine Y_icmp_lt 2 rfl rfl (tgt := 14) (by decide) (fun h2 => ?_) (fun h2 => ?_)
  · refine Y_iconst 8 rfl rfl (v := nI 0) (by decide) ?_
    refine Y_iret 9 rfl rfl rfl ⟨rfl, ?_⟩
    first | exact pu_t (by refine ⟨?_, ?_⟩ <;> simp only [Int32.lt_iff_toInt_lt, Int32.le_iff_toInt_le] at * <;> omega) | exact pu_f (by intro e; obtain ⟨e1, e2⟩ := e; simp only [Int32.lt_iff_toInt_lt, Int32.le_iff_toInt_le] at *; omega)
  · refine Y_iload_n 3 rfl rfl rfl ?_
    refine Y_iload_n 4 rfl rfl rfl ?_
    refine Y_icmp_gt 5 rfl rfl (tgt := 14) (by decide) (fun h7 => ?_) (fun h7 => ?_)
    · refine Y_iconst 8 rfl rfl (v := nI 0) (by decide) ?_
      refine Y_iret 9 rfl rfl rfl ⟨rfl, ?_⟩
      first | exact pu_t (by refine ⟨?_, ?_⟩ <;> simp only [Int32.lt_iff_toInt_lt, Int32.le_iff_toInt_le] at * <;> omega) | exact pu_f (by intro e; obtain ⟨e1, e2⟩ := e; simp only [Int32.lt_iff_toInt_lt, Int32.le_iff_toInt_le] at *; omega)
    · refine Y_iconst 6 rfl rfl (v := nI 1) (by decide) ?_
      refine Y_goto 7 rfl (pc2 := 15) (by decide) ?_
      refine Y_iret 9 rfl rfl rfl ⟨rfl, ?_⟩
      first | exact pu_t (by refine ⟨?_, ?_⟩ <;> simp only [Int32.lt_iff_toInt_lt, Int32.le_iff_toInt_le] at * <;> omega) | exact pu_f (by intro e; obtain ⟨e1, e2⟩ := e; simp only [Int32.lt_iff_toInt_lt, Int32.le_iff_toInt_le] at *; omega)

set_option maxHeartbeats 400000 in
theorem isin_0 {x : Int32} {h : Nat} (hh : h + 1 < 2 ^ 31) : (nI 0 ≤ x ∧ x ≤ nI h) ↔ iR x (h + 1) := by
  constructor
  · rintro ⟨h1, h2⟩
    have h3 : ¬ x < 0 := by rw [nI_0] at h1; exact Int32.not_lt.mpr h1
    obtain ⟨j, hj, rfl⟩ := nI_of h3
    have := (nI_leI hj (by omega)).mp h2
    exact ⟨j, by omega, rfl⟩
  · rintro ⟨k, hk, rfl⟩
    exact ⟨(nI_leI (by omega) (by omega)).mpr (by omega), (nI_leI (by omega) (by omega)).mpr (by omega)⟩
set_option maxHeartbeats 400000 in
theorem isin_m {x : Int32} {n : Nat} (hn : n < 2 ^ 31) : (nI 0 ≤ x ∧ x ≤ nI n - nI 1) ↔ iR x n := by
  cases n with
  | zero =>
    constructor
    · rintro ⟨h1, h2⟩
      have e : nI 0 - nI 1 = -1 := by decide
      rw [e] at h2
      have := Int32.le_trans h1 h2
      exact absurd this (by decide)
    · rintro ⟨k, hk, _⟩
      omega
  | succ n =>
    have e : nI (n + 1) - nI 1 = nI n := by rw [nI_sub (by omega)]; congr 1
    rw [e]
    exact isin_0 hn
set_option maxHeartbeats 400000 in
theorem T_mo_isIn0 {G : Nat × (Nat → Int32)} {m : Mm} {x : Int32} {h : Nat} (hh : h + 1 < 2 ^ 31) : Y G M_mo_isIn (0, 0) 0 (en_ M_mo_isIn [.int x, .int (nI 0), .int (nI h)]) [] (LAY, m) (qm_ LAY (pu_ (bI (iR x (h + 1))) m)) := by
  rw [← bI_c (isin_0 hh)]
  exact T_mo_isIn
set_option maxHeartbeats 400000 in
theorem T_mo_isInm {G : Nat × (Nat → Int32)} {m : Mm} {x : Int32} {n : Nat} (hn : n < 2 ^ 31) : Y G M_mo_isIn (0, 0) 0 (en_ M_mo_isIn [.int x, .int (nI 0), .int (nI n - nI 1)]) [] (LAY, m) (qm_ LAY (pu_ (bI (iR x n)) m)) := by
  rw [← bI_c (isin_m hn)]
  exact T_mo_isIn

set_option maxHeartbeats 400000 in
theorem T_mo_isCircle {G : Nat × (Nat → Int32)} {m : Mm} {x : Int32} : Y G M_mo_isCircle (0, 0) 0 (en_ M_mo_isCircle [.int (x)]) [] (LAY, m) (qm_ LAY (pu_ (bI (iR x 4)) m)) := by
  change Y _ _ _ _ [some (.int _)] _ _ _
  refine Y_iload_n 0 rfl rfl rfl ?_
  refine Y_iconst 1 rfl rfl (v := nI 0) (by decide) ?_
  refine Y_iconst 2 rfl rfl (v := nI 3) (by decide) ?_
  refine Y_cS 3 rfl rfl ok_mo_isIn lk_mo_62 vs_mo_isIn (as := [.int _, .int _, .int _]) (rest := []) rfl rfl (T_mo_isIn0 (by omega)) ?_
  rintro _ _ ⟨rfl, rfl⟩
  change Y _ _ _ _ _ [.int _] _ _
  refine Y_iret 4 rfl rfl bI_z ⟨rfl, ?_⟩
  exact pu_i rfl

set_option maxHeartbeats 400000 in
theorem T_mo_isSheet {G : Nat × (Nat → Int32)} {m : Mm} {x : Int32} : Y G M_mo_isSheet (0, 0) 0 (en_ M_mo_isSheet [.int (x)]) [] (LAY, m) (qm_ LAY (pu_ (bI (iR x 2)) m)) := by
  change Y _ _ _ _ [some (.int _)] _ _ _
  refine Y_iload_n 0 rfl rfl rfl ?_
  refine Y_iconst 1 rfl rfl (v := nI 0) (by decide) ?_
  refine Y_iconst 2 rfl rfl (v := nI 1) (by decide) ?_
  refine Y_cS 3 rfl rfl ok_mo_isIn lk_mo_62 vs_mo_isIn (as := [.int _, .int _, .int _]) (rest := []) rfl rfl (T_mo_isIn0 (by omega)) ?_
  rintro _ _ ⟨rfl, rfl⟩
  change Y _ _ _ _ _ [.int _] _ _
  refine Y_iret 4 rfl rfl bI_z ⟨rfl, ?_⟩
  exact pu_i rfl

set_option maxHeartbeats 400000 in
theorem T_mo_isFigure {G : Nat × (Nat → Int32)} {m : Mm} {x y : Int32} : Y G M_mo_isFigure (0, 0) 0 (en_ M_mo_isFigure [.int (x), .int (y)]) [] (LAY, m) (qm_ LAY (pu_ (bI (iR x 4 ∧ iR y 6)) m)) := by
  change Y _ _ _ _ [some (.int _), some (.int _)] _ _ _
  refine Y_iload_n 0 rfl rfl rfl ?_
  refine Y_iconst 1 rfl rfl (v := nI 0) (by decide) ?_
  refine Y_iconst 2 rfl rfl (v := nI 3) (by decide) ?_
  refine Y_cS 3 rfl rfl ok_mo_isIn lk_mo_62 vs_mo_isIn (as := [.int _, .int _, .int _]) (rest := []) rfl rfl (T_mo_isIn0 (by omega)) ?_
  rintro _ _ ⟨rfl, rfl⟩
  change Y _ _ _ _ _ [.int _] _ _
  refine Y_if_eqb 4 rfl rfl (tgt := 22) (by decide) (fun h6 => ?_) (fun h6 => ?_)
  · refine Y_iconst 12 rfl rfl (v := nI 0) (by decide) ?_
    refine Y_iret 13 rfl rfl rfl ⟨rfl, ?_⟩
    first | exact pu_t ⟨by assumption, by assumption⟩ | exact pu_f (fun e => absurd e.1 (by assumption)) | exact pu_f (fun e => absurd e.2 (by assumption))
  · refine Y_iload_n 5 rfl rfl rfl ?_
    refine Y_iconst 6 rfl rfl (v := nI 0) (by decide) ?_
    refine Y_iconst 7 rfl rfl (v := nI 5) (by decide) ?_
    refine Y_cS 8 rfl rfl ok_mo_isIn lk_mo_62 vs_mo_isIn (as := [.int _, .int _, .int _]) (rest := []) rfl rfl (T_mo_isIn0 (by omega)) ?_
    rintro _ _ ⟨rfl, rfl⟩
    change Y _ _ _ _ _ [.int _] _ _
    refine Y_if_eqb 9 rfl rfl (tgt := 22) (by decide) (fun h15 => ?_) (fun h15 => ?_)
    · refine Y_iconst 12 rfl rfl (v := nI 0) (by decide) ?_
      refine Y_iret 13 rfl rfl rfl ⟨rfl, ?_⟩
      first | exact pu_t ⟨by assumption, by assumption⟩ | exact pu_f (fun e => absurd e.1 (by assumption)) | exact pu_f (fun e => absurd e.2 (by assumption))
    · refine Y_iconst 10 rfl rfl (v := nI 1) (by decide) ?_
      refine Y_goto 11 rfl (pc2 := 23) (by decide) ?_
      refine Y_iret 13 rfl rfl rfl ⟨rfl, ?_⟩
      first | exact pu_t ⟨by assumption, by assumption⟩ | exact pu_f (fun e => absurd e.1 (by assumption)) | exact pu_f (fun e => absurd e.2 (by assumption))

set_option maxHeartbeats 400000 in
theorem T_mo_orNone {G : Nat × (Nat → Int32)} {m : Mm} {x : Int32} : Y G M_mo_orNone (0, 0) 0 (en_ M_mo_orNone [.int (x)]) [] (LAY, m) (qm_ LAY (pu_ (if x < 0 then NONE_ else x) m)) := by
  change Y _ _ _ _ [some (.int _)] _ _ _
  refine Y_iload_n 0 rfl rfl rfl ?_
  refine Y_if_ge 1 rfl rfl (tgt := 9) (by decide) (fun h1 => ?_) (fun h1 => ?_)
  · refine Y_iload_n 4 rfl rfl rfl ?_
    refine Y_iret 5 rfl rfl rfl ⟨rfl, ?_⟩
    exact pu_i (by unfold NONE_; split <;> first | rfl | (exfalso; simp only [Int32.lt_iff_toInt_lt, Int32.le_iff_toInt_le] at *; omega))
  · refine Y_ldc 2 rfl rfl kc_mo_112 ?_
    refine Y_goto 3 rfl (pc2 := 10) (by decide) ?_
    refine Y_iret 5 rfl rfl rfl ⟨rfl, ?_⟩
    exact pu_i (by unfold NONE_; split <;> first | rfl | (exfalso; simp only [Int32.lt_iff_toInt_lt, Int32.le_iff_toInt_le] at *; omega))

set_option maxHeartbeats 400000 in
theorem T_mo_key {G : Nat × (Nat → Int32)} {m : Mm} {x y : Int32} : Y G M_mo_key (0, 0) 0 (en_ M_mo_key [.int (x), .int (y)]) [] (LAY, m) (qm_ LAY (pu_ (ky x y) m)) := by
  change Y _ _ _ _ [some (.int _), some (.int _), none] _ _ _
  refine Y_iload_n 0 rfl rfl rfl ?_
  refine Y_iload_n 1 rfl rfl rfl ?_
  refine Y_iadd 2 rfl rfl ?_
  refine Y_istore_n 3 rfl rfl (Nat.le_of_ble_eq_true rfl) (ls2 := [some (.int _), some (.int _), some (.int _)]) rfl ?_
  refine Y_iload_n 4 rfl rfl rfl ?_
  refine Y_if_ge 5 rfl rfl (tgt := 14) (by decide) (fun h5 => ?_) (fun h5 => ?_)
  · refine Y_iload_n 10 rfl rfl rfl ?_
    refine Y_bipush 11 rfl rfl (v := nI 9) (by decide) ?_
    refine Y_icmp_le 12 rfl rfl (tgt := 26) (by decide) (fun h17 => ?_) (fun h17 => ?_)
    · refine Y_iload_n 17 rfl rfl rfl ?_
      refine Y_iret 18 rfl rfl rfl ⟨rfl, ?_⟩
      exact pu_i (by unfold ky; (repeat' split) <;> first | rfl | (exfalso; simp only [Int32.lt_iff_toInt_lt, Int32.le_iff_toInt_le] at *; omega))
    · refine Y_iload_n 13 rfl rfl rfl ?_
      refine Y_iconst 14 rfl rfl (v := nI 5) (by decide) ?_
      refine Y_isub 15 rfl rfl ?_
      refine Y_goto 16 rfl (pc2 := 27) (by decide) ?_
      refine Y_iret 18 rfl rfl rfl ⟨rfl, ?_⟩
      exact pu_i (by unfold ky; (repeat' split) <;> first | rfl | (exfalso; simp only [Int32.lt_iff_toInt_lt, Int32.le_iff_toInt_le] at *; omega))
  · refine Y_iload_n 6 rfl rfl rfl ?_
    refine Y_iconst 7 rfl rfl (v := nI 5) (by decide) ?_
    refine Y_iadd 8 rfl rfl ?_
    refine Y_goto 9 rfl (pc2 := 27) (by decide) ?_
    refine Y_iret 18 rfl rfl rfl ⟨rfl, ?_⟩
    exact pu_i (by unfold ky; (repeat' split) <;> first | rfl | (exfalso; simp only [Int32.lt_iff_toInt_lt, Int32.le_iff_toInt_le] at *; omega))

set_option maxHeartbeats 400000 in
theorem sh_2 {l : Nat} (h : l < 4) : nI 2 <<< (nI l &&& 31) = nI (2 ^ (l + 1)) := by
  have : l = 0 ∨ l = 1 ∨ l = 2 ∨ l = 3 := by omega
  rcases this with rfl | rfl | rfl | rfl <;> decide
set_option maxHeartbeats 400000 in
theorem sh_32 {l : Nat} (h : l < 4) : nI 32 <<< (nI l &&& 31) = nI (32 * 2 ^ l) := by
  have : l = 0 ∨ l = 1 ∨ l = 2 ∨ l = 3 := by omega
  rcases this with rfl | rfl | rfl | rfl <;> decide
set_option maxHeartbeats 400000 in
theorem sz_16 {l : Nat} (h : l < 4) : 2 ^ (l + 1) ≤ 16 := by
  have : l = 0 ∨ l = 1 ∨ l = 2 ∨ l = 3 := by omega
  rcases this with rfl | rfl | rfl | rfl <;> decide
set_option maxHeartbeats 400000 in
theorem sz_2 {l : Nat} : 2 ≤ 2 ^ (l + 1) := Nat.pow_le_pow_right (n := 2) (by omega) (by omega : 1 ≤ l + 1)
def ch (g : Int32) : Int32 := if g = nI 103 then nI 0 else if g = nI 71 then nI 1 else if g = nI 72 then nI 2 else if g = nI 76 then nI 3 else -1

set_option maxHeartbeats 400000 in
theorem T_mo_stepsOf {G : Nat × (Nat → Int32)} {m : Mm} {l : Nat} (h : l < 4) : Y G M_mo_stepsOf (0, 0) 0 (en_ M_mo_stepsOf [.int (nI l)]) [] (LAY, m) (qm_ LAY (pu_ (nI (2 ^ (l + 1))) m)) := by
  change Y _ _ _ _ [some (.int _)] _ _ _
  refine Y_iconst 0 rfl rfl (v := nI 2) (by decide) ?_
  refine Y_iload_n 1 rfl rfl rfl ?_
  refine Y_ishl 2 rfl rfl ?_
  refine Y_iret 3 rfl rfl rfl ⟨rfl, ?_⟩
  exact pu_i (sh_2 h)

set_option maxHeartbeats 400000 in
theorem T_mo_placeOf {G : Nat × (Nat → Int32)} {m : Mm} {l f h s : Nat} : Y G M_mo_placeOf (0, 0) 0 (en_ M_mo_placeOf [.int (nI l), .int (nI f), .int (nI h), .int (nI s)]) [] (LAY, m) (qm_ LAY (pu_ (nI (16 * (2 * (6 * l + f) + h) + s)) m)) := by
  change Y _ _ _ _ [some (.int _), some (.int _), some (.int _), some (.int _)] _ _ _
  refine Y_bipush 0 rfl rfl (v := nI 16) (by decide) ?_
  refine Y_iconst 1 rfl rfl (v := nI 2) (by decide) ?_
  refine Y_bipush 2 rfl rfl (v := nI 6) (by decide) ?_
  refine Y_iload_n 3 rfl rfl rfl ?_
  refine Y_imul 4 rfl rfl ?_
  refine Y_top (nI_mul _ _) ?_
  refine Y_iload_n 5 rfl rfl rfl ?_
  refine Y_iadd 6 rfl rfl ?_
  refine Y_top (nI_add _ _) ?_
  refine Y_imul 7 rfl rfl ?_
  refine Y_top (nI_mul _ _) ?_
  refine Y_iload_n 8 rfl rfl rfl ?_
  refine Y_iadd 9 rfl rfl ?_
  refine Y_top (nI_add _ _) ?_
  refine Y_imul 10 rfl rfl ?_
  refine Y_top (nI_mul _ _) ?_
  refine Y_iload_n 11 rfl rfl rfl ?_
  refine Y_iadd 12 rfl rfl ?_
  refine Y_top (nI_add _ _) ?_
  refine Y_iret 13 rfl rfl rfl ⟨rfl, ?_⟩
  exact pu_i rfl

set_option maxHeartbeats 400000 in
theorem T_mo_gongOf {G : Nat × (Nat → Int32)} {m : Mm} {x : Int32} : Y G M_mo_gongOf (0, 0) 0 (en_ M_mo_gongOf [.int (x)]) [] (LAY, m) (qm_ LAY (pu_ (ch x) m)) := by
  change Y _ _ _ _ [some (.int _)] _ _ _
  refine Y_iload_n 0 rfl rfl rfl ?_
  refine Y_bipush 1 rfl rfl (v := nI 103) (by decide) ?_
  refine Y_icmp_ne 2 rfl rfl (tgt := 10) (by decide) (fun h3 => ?_) (fun h3 => ?_)
  · refine Y_iload_n 5 rfl rfl rfl ?_
    refine Y_bipush 6 rfl rfl (v := nI 71) (by decide) ?_
    refine Y_icmp_ne 7 rfl rfl (tgt := 20) (by decide) (fun h13 => ?_) (fun h13 => ?_)
    · refine Y_iload_n 10 rfl rfl rfl ?_
      refine Y_bipush 11 rfl rfl (v := nI 72) (by decide) ?_
      refine Y_icmp_ne 12 rfl rfl (tgt := 30) (by decide) (fun h23 => ?_) (fun h23 => ?_)
      · refine Y_iload_n 15 rfl rfl rfl ?_
        refine Y_bipush 16 rfl rfl (v := nI 76) (by decide) ?_
        refine Y_icmp_ne 17 rfl rfl (tgt := 40) (by decide) (fun h33 => ?_) (fun h33 => ?_)
        · refine Y_iconst 20 rfl rfl (v := -1) (by decide) ?_
          refine Y_iret 21 rfl rfl rfl ⟨rfl, ?_⟩
          exact pu_i (by unfold ch; simp_all)
        · refine Y_iconst 18 rfl rfl (v := nI 3) (by decide) ?_
          refine Y_goto 19 rfl (pc2 := 41) (by decide) ?_
          refine Y_iret 21 rfl rfl rfl ⟨rfl, ?_⟩
          exact pu_i (by unfold ch; simp_all)
      · refine Y_iconst 13 rfl rfl (v := nI 2) (by decide) ?_
        refine Y_goto 14 rfl (pc2 := 41) (by decide) ?_
        refine Y_iret 21 rfl rfl rfl ⟨rfl, ?_⟩
        exact pu_i (by unfold ch; simp_all)
    · refine Y_iconst 8 rfl rfl (v := nI 1) (by decide) ?_
      refine Y_goto 9 rfl (pc2 := 41) (by decide) ?_
      refine Y_iret 21 rfl rfl rfl ⟨rfl, ?_⟩
      exact pu_i (by unfold ch; simp_all)
  · refine Y_iconst 3 rfl rfl (v := nI 0) (by decide) ?_
    refine Y_goto 4 rfl (pc2 := 41) (by decide) ?_
    refine Y_iret 21 rfl rfl rfl ⟨rfl, ?_⟩
    exact pu_i (by unfold ch; simp_all)
end
section
/-! THE ABSTRACT STATE: S holds the reference's lasting cells; WF says their ranges, RC what the class's cells are, RM what the reference's are -/
noncomputable def cI {α : Type} (p : Prop) (a b : α) : α := @ite α p (Classical.propDecidable p) a b
set_option maxHeartbeats 400000 in
theorem cI_t {α : Type} {p : Prop} {a b : α} (h : p) : cI p a b = a := by unfold cI; exact if_pos h
set_option maxHeartbeats 400000 in
theorem cI_f {α : Type} {p : Prop} {a b : α} (h : ¬ p) : cI p a b = b := by unfold cI; exact if_neg h
def nv (x : Int32) : Nat := x.toNatClampNeg
set_option maxHeartbeats 400000 in
theorem nv_nI {k : Nat} (h : k < 2 ^ 31) : nv (nI k) = k := nI_clamp h
def oR (x : Int32) (n : Nat) : Prop := x = -1 ∨ iR x n
def bt (S : Mm) (c : Nat) : Nat := nv (S 154 c)
def us (S : Mm) (l w : Nat) : Nat := nv (S 159 (3 * l + w))
def pn (S : Mm) : Nat := nv (S 153 6)
def pC (S : Mm) (p : Nat) : Nat := nv (S 160 p)
def pT (S : Mm) (p : Nat) : Nat := nv (S 161 p)
def tpd (S : Mm) : Nat := nv (S 153 12)
def plc (S : Mm) (s : Nat) : Nat := nv (S 165 s)
def oC (x : Int32) : Int32 := if x < 0 then NONE_ else x
def oS (x : Int32) : Int32 := if x = -9 then NONE_ else x
def ix (l f h s : Nat) : Nat := 16 * (2 * (6 * l + f) + h) + s
def iy (l f s : Nat) : Nat := 16 * (6 * l + f) + s
def ln (row : Nat → Int32) : Nat → Int32
  | 0 => -1
  | k + 1 => if row k < 0 then ln row k else row k
def rw_ (S : Mm) (c : Nat) : Nat → Int32 := fun b => S 155 (32 * c + b)
def toneR (row : Nat → Int32) (n b : Nat) : Int32 := if ln row (b + 1) < 0 then (if ln row n < 0 then nI 0 else ln row n) else ln row (b + 1)
def tone (S : Mm) (c b : Nat) : Int32 := toneR (rw_ S c) (bt S c) b
def nxt (n b : Nat) : Nat := if b + 1 < n then b + 1 else 0
def turnR (u w : Int32) : Nat := if w = u then 0 else if u < w then 1 else 2
def turn (S : Mm) (c b : Nat) : Nat := turnR (tone S c b) (tone S c (nxt (bt S c) b))
noncomputable def cnt (f : Nat → Prop) : Nat → Nat
  | 0 => 0
  | k + 1 => cnt f k + cI (f k) 1 0
noncomputable def fst_ (f : Nat → Prop) : Nat → Nat
  | 0 => 0
  | k + 1 => cI (fst_ f k < k) (fst_ f k) (cI (f k) k (k + 1))
def isS (x : Int32) : Prop := x = -9 ∨ ∃ j, j < 9 ∧ x = nI j - nI 4
noncomputable def sigs (S : Mm) : Nat := cnt (fun r => ¬ S 163 r < 0) 144
def WF (S : Mm) : Prop :=
  (∀ c, c < 4 → S 154 c = nI (bt S c) ∧ 2 ≤ bt S c ∧ bt S c ≤ 32) ∧
  (∀ i, i < 128 → oR (S 155 i) 7) ∧
  (∀ i, i < 128 → oR (S 156 i) 4) ∧
  (∀ i, i < 768 → isS (S 157 i)) ∧
  (∀ i, i < 384 → iR (S 158 i) 2) ∧
  (∀ l w, l < 4 → w < 3 → S 159 (3 * l + w) = nI (us S l w) ∧ us S l w < 6) ∧
  (S 153 6 = nI (pn S) ∧ pn S ≤ 16) ∧
  (∀ p, p < 16 → S 160 p = nI (pC S p) ∧ pC S p < 4) ∧
  (∀ p, p < 16 → S 161 p = nI (pT S p) ∧ pT S p ≤ 9) ∧
  (∀ p, p < pn S → 1 ≤ pT S p) ∧
  (∀ p, p < 16 → oR (S 162 p) 4) ∧
  (∀ r, r < 144 → oR (S 163 r) 4) ∧
  (S 153 12 = nI (tpd S) ∧ tpd S ≤ 64) ∧
  (∀ i, i < 64 → iR (S 164 i) 256) ∧
  (∀ s, s < 2 → oR (S 165 s) 17) ∧
  (∀ i, i < 32 → (S 166 i).toInt8.toInt32 = S 166 i) ∧
  sigs S ≤ 20
def RC (m S : Mm) : Prop :=
  (∀ c, c < 4 → m (21 + 5 * c) 4 = S 154 c) ∧
  (∀ c b, c < 4 → b < 32 → m (22 + 5 * c) b = oC (S 155 (32 * c + b))) ∧
  (∀ c b, c < 4 → b < 32 → m (23 + 5 * c) b = oC (S 156 (32 * c + b))) ∧
  (∀ c b, c < 4 → b < bt S c → m (24 + 5 * c) b = tone S c b) ∧
  (∀ c b, c < 4 → b < bt S c → m (25 + 5 * c) b = nI (turn S c b)) ∧
  (∀ l, l < 4 → m (41 + 27 * l) 0 = nI (2 ^ (l + 1))) ∧
  (∀ l f h s, l < 4 → f < 6 → h < 2 → s < 2 ^ (l + 1) → m (45 + 27 * l + 4 * f + h) s = oS (S 157 (ix l f h s))) ∧
  (∀ l f s, l < 4 → f < 6 → s < 2 ^ (l + 1) → m (47 + 27 * l + 4 * f) s = S 158 (iy l f s)) ∧
  (∀ l w, l < 4 → w < 3 → m (43 + 27 * l) w = S 159 (3 * l + w)) ∧
  m 8 4 = S 153 6 ∧
  (∀ p, p < 16 → m 9 p = S 160 p) ∧
  (∀ p, p < 16 → m 10 p = S 161 p) ∧
  (∀ p, p < 16 → m 11 p = oC (S 162 p)) ∧
  (∀ r, r < 144 → m 12 r = oC (S 163 r)) ∧
  m 8 5 = nI (sigs S) ∧
  m 1 1 = S 153 12 ∧
  (∀ i, i < 64 → m 2 i = (S 164 i).toInt8.toInt32) ∧
  (∀ s, s < 2 → m (149 + 2 * s) 1 = S 165 s) ∧
  (∀ s i, s < 2 → i < plc S s → m (150 + 2 * s) i = S 166 (16 * s + i))
def RM (m S : Mm) : Prop := (∀ a, 154 ≤ a → a ≤ 166 → m a = S a) ∧ m 153 6 = S 153 6 ∧ m 153 12 = S 153 12
def scr (a : Nat) : Prop := (3 ≤ a ∧ a ≤ 5) ∨ (13 ≤ a ∧ a ≤ 19 ∧ a ≠ 14)
/-- the class's answer: the value, the class's cells, the reference's cells untouched -/
def pc_ (x : Int32) (m S : Mm) : Option Value → Mm → Prop := fun v m' => v = some (.int x) ∧ RC m' S ∧ ∀ a, 153 ≤ a → m' a = m a
/-- a question: nothing but scratch changes -/
def ps_ (x : Int32) (m : Mm) : Option Value → Mm → Prop := fun v m' => v = some (.int x) ∧ ∀ a, ¬ scr a → m' a = m a
def pm_ (x : Int32) (m S : Mm) : Option Value → Mm → Prop := fun v m' => v = some (.int x) ∧ RM m' S ∧ ∀ a, a < 153 → m' a = m a
set_option maxHeartbeats 400000 in
theorem WF.b {S : Mm} (h : WF S) : (∀ c, c < 4 → S 154 c = nI (bt S c) ∧ 2 ≤ bt S c ∧ bt S c ≤ 32) := h.1
set_option maxHeartbeats 400000 in
theorem WF.n {S : Mm} (h : WF S) : (∀ i, i < 128 → oR (S 155 i) 7) := h.2.1
set_option maxHeartbeats 400000 in
theorem WF.g {S : Mm} (h : WF S) : (∀ i, i < 128 → oR (S 156 i) 4) := h.2.2.1
set_option maxHeartbeats 400000 in
theorem WF.s {S : Mm} (h : WF S) : (∀ i, i < 768 → isS (S 157 i)) := h.2.2.2.1
set_option maxHeartbeats 400000 in
theorem WF.m {S : Mm} (h : WF S) : (∀ i, i < 384 → iR (S 158 i) 2) := h.2.2.2.2.1
set_option maxHeartbeats 400000 in
theorem WF.u {S : Mm} (h : WF S) : (∀ l w, l < 4 → w < 3 → S 159 (3 * l + w) = nI (us S l w) ∧ us S l w < 6) := h.2.2.2.2.2.1
set_option maxHeartbeats 400000 in
theorem WF.p {S : Mm} (h : WF S) : (S 153 6 = nI (pn S) ∧ pn S ≤ 16) := h.2.2.2.2.2.2.1
set_option maxHeartbeats 400000 in
theorem WF.c {S : Mm} (h : WF S) : (∀ p, p < 16 → S 160 p = nI (pC S p) ∧ pC S p < 4) := h.2.2.2.2.2.2.2.1
set_option maxHeartbeats 400000 in
theorem WF.t {S : Mm} (h : WF S) : (∀ p, p < 16 → S 161 p = nI (pT S p) ∧ pT S p ≤ 9) := h.2.2.2.2.2.2.2.2.1
set_option maxHeartbeats 400000 in
theorem WF.t1 {S : Mm} (h : WF S) : (∀ p, p < pn S → 1 ≤ pT S p) := h.2.2.2.2.2.2.2.2.2.1
set_option maxHeartbeats 400000 in
theorem WF.l {S : Mm} (h : WF S) : (∀ p, p < 16 → oR (S 162 p) 4) := h.2.2.2.2.2.2.2.2.2.2.1
set_option maxHeartbeats 400000 in
theorem WF.r {S : Mm} (h : WF S) : (∀ r, r < 144 → oR (S 163 r) 4) := h.2.2.2.2.2.2.2.2.2.2.2.1
set_option maxHeartbeats 400000 in
theorem WF.tp {S : Mm} (h : WF S) : (S 153 12 = nI (tpd S) ∧ tpd S ≤ 64) := h.2.2.2.2.2.2.2.2.2.2.2.2.1
set_option maxHeartbeats 400000 in
theorem WF.tv {S : Mm} (h : WF S) : (∀ i, i < 64 → iR (S 164 i) 256) := h.2.2.2.2.2.2.2.2.2.2.2.2.2.1
set_option maxHeartbeats 400000 in
theorem WF.pl {S : Mm} (h : WF S) : (∀ s, s < 2 → oR (S 165 s) 17) := h.2.2.2.2.2.2.2.2.2.2.2.2.2.2.1
set_option maxHeartbeats 400000 in
theorem WF.k {S : Mm} (h : WF S) : (∀ i, i < 32 → (S 166 i).toInt8.toInt32 = S 166 i) := h.2.2.2.2.2.2.2.2.2.2.2.2.2.2.2.1
set_option maxHeartbeats 400000 in
theorem WF.sg {S : Mm} (h : WF S) : sigs S ≤ 20 := h.2.2.2.2.2.2.2.2.2.2.2.2.2.2.2.2
set_option maxHeartbeats 400000 in
theorem RC.b {m S : Mm} (h : RC m S) : (∀ c, c < 4 → m (21 + 5 * c) 4 = S 154 c) := h.1
set_option maxHeartbeats 400000 in
theorem RC.n {m S : Mm} (h : RC m S) : (∀ c b, c < 4 → b < 32 → m (22 + 5 * c) b = oC (S 155 (32 * c + b))) := h.2.1
set_option maxHeartbeats 400000 in
theorem RC.g {m S : Mm} (h : RC m S) : (∀ c b, c < 4 → b < 32 → m (23 + 5 * c) b = oC (S 156 (32 * c + b))) := h.2.2.1
set_option maxHeartbeats 400000 in
theorem RC.t {m S : Mm} (h : RC m S) : (∀ c b, c < 4 → b < bt S c → m (24 + 5 * c) b = tone S c b) := h.2.2.2.1
set_option maxHeartbeats 400000 in
theorem RC.u {m S : Mm} (h : RC m S) : (∀ c b, c < 4 → b < bt S c → m (25 + 5 * c) b = nI (turn S c b)) := h.2.2.2.2.1
set_option maxHeartbeats 400000 in
theorem RC.l {m S : Mm} (h : RC m S) : (∀ l, l < 4 → m (41 + 27 * l) 0 = nI (2 ^ (l + 1))) := h.2.2.2.2.2.1
set_option maxHeartbeats 400000 in
theorem RC.r {m S : Mm} (h : RC m S) : (∀ l f h s, l < 4 → f < 6 → h < 2 → s < 2 ^ (l + 1) → m (45 + 27 * l + 4 * f + h) s = oS (S 157 (ix l f h s))) := h.2.2.2.2.2.2.1
set_option maxHeartbeats 400000 in
theorem RC.m {m S : Mm} (h : RC m S) : (∀ l f s, l < 4 → f < 6 → s < 2 ^ (l + 1) → m (47 + 27 * l + 4 * f) s = S 158 (iy l f s)) := h.2.2.2.2.2.2.2.1
set_option maxHeartbeats 400000 in
theorem RC.us {m S : Mm} (h : RC m S) : (∀ l w, l < 4 → w < 3 → m (43 + 27 * l) w = S 159 (3 * l + w)) := h.2.2.2.2.2.2.2.2.1
set_option maxHeartbeats 400000 in
theorem RC.p {m S : Mm} (h : RC m S) : m 8 4 = S 153 6 := h.2.2.2.2.2.2.2.2.2.1
set_option maxHeartbeats 400000 in
theorem RC.c {m S : Mm} (h : RC m S) : (∀ p, p < 16 → m 9 p = S 160 p) := h.2.2.2.2.2.2.2.2.2.2.1
set_option maxHeartbeats 400000 in
theorem RC.pt {m S : Mm} (h : RC m S) : (∀ p, p < 16 → m 10 p = S 161 p) := h.2.2.2.2.2.2.2.2.2.2.2.1
set_option maxHeartbeats 400000 in
theorem RC.pl {m S : Mm} (h : RC m S) : (∀ p, p < 16 → m 11 p = oC (S 162 p)) := h.2.2.2.2.2.2.2.2.2.2.2.2.1
set_option maxHeartbeats 400000 in
theorem RC.sg {m S : Mm} (h : RC m S) : (∀ r, r < 144 → m 12 r = oC (S 163 r)) := h.2.2.2.2.2.2.2.2.2.2.2.2.2.1
set_option maxHeartbeats 400000 in
theorem RC.sn {m S : Mm} (h : RC m S) : m 8 5 = nI (sigs S) := h.2.2.2.2.2.2.2.2.2.2.2.2.2.2.1
set_option maxHeartbeats 400000 in
theorem RC.tp {m S : Mm} (h : RC m S) : m 1 1 = S 153 12 := h.2.2.2.2.2.2.2.2.2.2.2.2.2.2.2.1
set_option maxHeartbeats 400000 in
theorem RC.tv {m S : Mm} (h : RC m S) : (∀ i, i < 64 → m 2 i = (S 164 i).toInt8.toInt32) := h.2.2.2.2.2.2.2.2.2.2.2.2.2.2.2.2.1
set_option maxHeartbeats 400000 in
theorem RC.sp {m S : Mm} (h : RC m S) : (∀ s, s < 2 → m (149 + 2 * s) 1 = S 165 s) := h.2.2.2.2.2.2.2.2.2.2.2.2.2.2.2.2.2.1
set_option maxHeartbeats 400000 in
theorem RC.sb {m S : Mm} (h : RC m S) : (∀ s i, s < 2 → i < plc S s → m (150 + 2 * s) i = S 166 (16 * s + i)) := h.2.2.2.2.2.2.2.2.2.2.2.2.2.2.2.2.2.2

set_option maxHeartbeats 400000 in
theorem RC.mono {m m' S : Mm} (h : RC m S) (e : ∀ a, ¬ scr a → a < 153 → m' a = m a) : RC m' S := by
  refine ⟨fun c hc => ?_, fun c b hc hb => ?_, fun c b hc hb => ?_, fun c b hc hb => ?_, fun c b hc hb => ?_, fun l hl => ?_, fun l f g s hl hf hg hs => ?_, fun l f s hl hf hs => ?_, fun l w hl hw => ?_, ?_, fun p hp => ?_, fun p hp => ?_, fun p hp => ?_, fun r hr => ?_, ?_, ?_, fun i hi => ?_, fun s hs => ?_, fun s i hs hi => ?_⟩
  · rw [e _ (by unfold scr; omega) (by omega)]; exact h.b c hc
  · rw [e _ (by unfold scr; omega) (by omega)]; exact h.n c b hc hb
  · rw [e _ (by unfold scr; omega) (by omega)]; exact h.g c b hc hb
  · rw [e _ (by unfold scr; omega) (by omega)]; exact h.t c b hc hb
  · rw [e _ (by unfold scr; omega) (by omega)]; exact h.u c b hc hb
  · rw [e _ (by unfold scr; omega) (by omega)]; exact h.l l hl
  · rw [e _ (by unfold scr; omega) (by omega)]; exact h.r l f g s hl hf hg hs
  · rw [e _ (by unfold scr; omega) (by omega)]; exact h.m l f s hl hf hs
  · rw [e _ (by unfold scr; omega) (by omega)]; exact h.us l w hl hw
  · rw [e _ (by unfold scr; omega) (by omega)]; exact h.p
  · rw [e _ (by unfold scr; omega) (by omega)]; exact h.c p hp
  · rw [e _ (by unfold scr; omega) (by omega)]; exact h.pt p hp
  · rw [e _ (by unfold scr; omega) (by omega)]; exact h.pl p hp
  · rw [e _ (by unfold scr; omega) (by omega)]; exact h.sg r hr
  · rw [e _ (by unfold scr; omega) (by omega)]; exact h.sn
  · rw [e _ (by unfold scr; omega) (by omega)]; exact h.tp
  · rw [e _ (by unfold scr; omega) (by omega)]; exact h.tv i hi
  · rw [e _ (by unfold scr; omega) (by omega)]; exact h.sp s hs
  · rw [e _ (by unfold scr; omega) (by omega)]; exact h.sb s i hs hi
set_option maxHeartbeats 400000 in
theorem RM.mono {m m' S : Mm} (h : RM m S) (e : ∀ a, 153 ≤ a → m' a = m a) : RM m' S :=
  ⟨fun a h1 h2 => (e a (by omega)).trans (h.1 a h1 h2), by rw [e _ (by omega)]; exact h.2.1, by rw [e _ (by omega)]; exact h.2.2⟩
set_option maxHeartbeats 400000 in
theorem ps_pc {x : Int32} {m S : Mm} (h : RC m S) {v : Option Value} {m' : Mm} (hp : ps_ x m v m') : pc_ x m S v m' :=
  ⟨hp.1, h.mono (fun a h1 _ => hp.2 a h1), fun a ha => hp.2 a (by unfold scr; omega)⟩
set_option maxHeartbeats 400000 in
theorem oR_neg {x : Int32} {n : Nat} (hn : n < 2 ^ 31) (h : oR x n) : x < 0 ↔ x = -1 := by
  rcases h with rfl | ⟨k, hk, rfl⟩
  · exact ⟨fun _ => rfl, fun _ => by decide⟩
  · refine ⟨fun e => absurd e (nI_pos (by omega)), fun e => ?_⟩
    rw [e]; decide
set_option maxHeartbeats 400000 in
theorem nI_none {k : Nat} (h : k < 2 ^ 31) : ¬ nI k = NONE_ := fun e => by
  have : nI k < 0 := by rw [e]; decide
  exact absurd this (nI_pos h)
set_option maxHeartbeats 400000 in
theorem oC_none {x : Int32} {n : Nat} (hn : n < 2 ^ 31) (h : oR x n) : oC x = NONE_ ↔ x < 0 := by
  unfold oC
  rcases h with rfl | ⟨k, hk, rfl⟩
  · exact ⟨fun _ => by decide, fun _ => if_pos (by decide)⟩
  · rw [if_neg (nI_pos (by omega))]
    exact ⟨fun e => absurd e (nI_none (by omega)), fun e => absurd e (nI_pos (by omega))⟩
set_option maxHeartbeats 400000 in
theorem oC_id {x : Int32} (h : ¬ x < 0) : oC x = x := if_neg h
set_option maxHeartbeats 400000 in
theorem oC_no {x : Int32} (h : x < 0) : oC x = NONE_ := if_pos h
set_option maxHeartbeats 400000 in
theorem oS_none {x : Int32} (h : isS x) : oS x = NONE_ ↔ x = -9 := by
  unfold oS
  rcases h with rfl | ⟨j, hj, rfl⟩
  · exact ⟨fun _ => rfl, fun _ => rfl⟩
  · have : j = 0 ∨ j = 1 ∨ j = 2 ∨ j = 3 ∨ j = 4 ∨ j = 5 ∨ j = 6 ∨ j = 7 ∨ j = 8 := by omega
    rcases this with rfl | rfl | rfl | rfl | rfl | rfl | rfl | rfl | rfl <;> decide
set_option maxHeartbeats 400000 in
theorem iR_pos {x : Int32} {n : Nat} (hn : n < 2 ^ 31) (h : iR x n) : ¬ x < 0 := by
  obtain ⟨k, hk, rfl⟩ := h
  exact nI_pos (by omega)
set_option maxHeartbeats 400000 in
theorem ln_or {row : Nat → Int32} {n : Nat} : ∀ k, (∀ i, i < k → oR (row i) n) → oR (ln row k) n
  | 0, _ => Or.inl rfl
  | k + 1, h => by
    show oR (if row k < 0 then ln row k else row k) n
    split
    · exact ln_or k (fun i hi => h i (by omega))
    · exact h k (by omega)
set_option maxHeartbeats 400000 in
theorem toneR_iR {row : Nat → Int32} {n b : Nat} (h : ∀ i, i < n → oR (row i) 7) (hb : b < n) : iR (toneR row n b) 7 := by
  have h1 := ln_or (n := 7) (b + 1) (fun i hi => h i (by omega))
  have h2 := ln_or (n := 7) n h
  unfold toneR
  split
  · split
    · exact ⟨0, by decide, rfl⟩
    · rcases h2 with e | e
      · rename_i hh; exact absurd (by rw [e]; decide) hh
      · exact e
  · rcases h1 with e | e
    · rename_i hh; exact absurd (by rw [e]; decide) hh
    · exact e
set_option maxHeartbeats 400000 in
theorem tone_iR {S : Mm} (w : WF S) {c b : Nat} (hc : c < 4) (hb : b < bt S c) : iR (tone S c b) 7 :=
  toneR_iR (fun i hi => w.n _ (by have := (w.b c hc).2.2; omega)) hb
set_option maxHeartbeats 400000 in
theorem turn_lt {S : Mm} {c b : Nat} : turn S c b < 3 := by
  unfold turn turnR
  split
  · omega
  · split <;> omega
set_option maxHeartbeats 400000 in
theorem nxt_lt {n b : Nat} (h : 0 < n) : nxt n b < n := by
  unfold nxt
  split <;> omega
set_option maxHeartbeats 400000 in
theorem ky_d : ∀ t, t < 7 → ∀ j, j < 9 → nv (ky (nI t) (nI j - nI 4)) < 10 ∧ ky (nI t) (nI j - nI 4) = nI (nv (ky (nI t) (nI j - nI 4))) := by decide +kernel
set_option maxHeartbeats 400000 in
theorem ky_nat {t j : Nat} (ht : t < 7) (hj : j < 9) : iR (ky (nI t) (nI j - nI 4)) 10 := ⟨_, (ky_d t ht j hj).1, (ky_d t ht j hj).2⟩
set_option maxHeartbeats 400000 in
theorem cnt_t {f : Nat → Prop} {k : Nat} (h : f k) : cnt f (k + 1) = cnt f k + 1 := by
  show cnt f k + cI (f k) 1 0 = _
  rw [cI_t h]
set_option maxHeartbeats 400000 in
theorem cnt_f {f : Nat → Prop} {k : Nat} (h : ¬ f k) : cnt f (k + 1) = cnt f k := by
  show cnt f k + cI (f k) 1 0 = _
  rw [cI_f h, Nat.add_zero]
set_option maxHeartbeats 400000 in
theorem cnt_le {f : Nat → Prop} : ∀ n, cnt f n ≤ n
  | 0 => Nat.le_refl 0
  | n + 1 => by
    have := cnt_le (f := f) n
    by_cases h : f n
    · rw [cnt_t h]; omega
    · rw [cnt_f h]; omega
set_option maxHeartbeats 400000 in
theorem cnt_congr {f g : Nat → Prop} : ∀ n, (∀ i, i < n → (f i ↔ g i)) → cnt f n = cnt g n
  | 0, _ => rfl
  | n + 1, h => by
    have h1 := cnt_congr n (fun i hi => h i (by omega))
    by_cases hf : f n
    · rw [cnt_t hf, cnt_t ((h n (by omega)).mp hf), h1]
    · rw [cnt_f hf, cnt_f (mt (h n (by omega)).mpr hf), h1]
set_option maxHeartbeats 400000 in
theorem fst_none {f : Nat → Prop} : ∀ n, (∀ i, i < n → ¬ f i) → fst_ f n = n
  | 0, _ => rfl
  | n + 1, h => by
    show cI (fst_ f n < n) (fst_ f n) (cI (f n) n (n + 1)) = n + 1
    rw [fst_none n (fun i hi => h i (by omega)), cI_f (by omega), cI_f (h n (by omega))]
set_option maxHeartbeats 400000 in
theorem fst_is {f : Nat → Prop} {i : Nat} (h : ∀ j, j < i → ¬ f j) (hi : f i) : ∀ n, i < n → fst_ f n = i
  | 0, hn => by omega
  | n + 1, hn => by
    show cI (fst_ f n < n) (fst_ f n) (cI (f n) n (n + 1)) = i
    by_cases e : i = n
    · subst e
      rw [fst_none i h, cI_f (by omega), cI_t hi]
    · rw [fst_is h hi n (by omega), cI_t (by omega)]
set_option maxHeartbeats 400000 in
theorem fst_le {f : Nat → Prop} : ∀ n, fst_ f n ≤ n
  | 0 => Nat.le_refl 0
  | n + 1 => by
    have := fst_le (f := f) n
    show cI (fst_ f n < n) (fst_ f n) (cI (f n) n (n + 1)) ≤ n + 1
    by_cases h : fst_ f n < n
    · rw [cI_t h]; omega
    · rw [cI_f h]
      by_cases h2 : f n
      · rw [cI_t h2]; omega
      · rw [cI_f h2]; omega
set_option maxHeartbeats 400000 in
theorem fst_all {f : Nat → Prop} {n : Nat} (h : fst_ f n = n) : ∀ i, i < n → ¬ f i := by
  intro i hi hf
  by_cases hh : ∀ j, j < n → ¬ f j
  · exact hh i hi hf
  · have : ∃ j, j < n ∧ f j := ⟨i, hi, hf⟩
    have hq : ∀ q, (∃ j, j < q ∧ f j) → ∃ j, j < q ∧ f j ∧ ∀ t, t < j → ¬ f t := by
      intro q
      induction q with
      | zero => rintro ⟨j, hj, _⟩; omega
      | succ q ih =>
        rintro ⟨j, hj, hfj⟩
        by_cases h2 : ∃ t, t < q ∧ f t
        · obtain ⟨t, ht, a, b⟩ := ih h2
          exact ⟨t, by omega, a, b⟩
        · refine ⟨j, hj, hfj, fun t ht hft => h2 ⟨t, by omega, hft⟩⟩
    obtain ⟨j, hj, hfj, hl⟩ := hq n this
    have := fst_is hl hfj n hj
    omega
set_option maxHeartbeats 400000 in
theorem ind_ {P : Nat → Prop} {n : Nat} (h : ∀ i, i ≤ n → (∀ j, i < j → j ≤ n → P j) → P i) : ∀ i, i ≤ n → P i := by
  intro i hi
  have : ∀ k i, i ≤ n → n - i ≤ k → P i := by
    intro k
    induction k with
    | zero => intro i hi hk; exact h i hi (fun j h1 h2 => by omega)
    | succ k ih => intro i hi hk; exact h i hi (fun j h1 h2 => ih j h2 (by omega))
  exact this n i hi (by omega)
set_option maxHeartbeats 400000 in
theorem indD {P : Nat → Prop} (h : ∀ i, (∀ j, j < i → P j) → P i) : ∀ i, P i := by
  intro i
  have : ∀ k i, i ≤ k → P i := by
    intro k
    induction k with
    | zero => intro i hi; exact h i (fun j h1 => by omega)
    | succ k ih => intro i hi; exact h i (fun j h1 => ih j (by omega))
  exact this i i (Nat.le_refl i)
set_option maxHeartbeats 400000 in
theorem Y_ls {G : Nat × (Nat → Int32)} {M : Mi} {cap : Nat × Nat} {pc : Nat} {ls ls2 : List (Option Value)} {st : List Value} {σ : Sg} {Q : Option Value → Sg → Prop} (he : ls = ls2) (k : Y G M cap pc ls2 st σ Q) : Y G M cap pc ls st σ Q := he ▸ k
end
section
/-! the class: questions of figures and circles -/
set_option maxHeartbeats 400000 in
theorem L_countTold {G : Nat × (Nat → Int32)} {m : Mm} {a L n : Nat} (ha : LAY[a]? = some (12, L, [])) (hL : L < 2 ^ 31) (hn : n ≤ L) : ∀ i, i ≤ n → Y G M_gh_countTold (0, 0) 4 [some (.ref (a)), some (.int (nI n)), some (.int (nI (cnt (fun i => ¬ m a i = NONE_) i))), some (.int (nI i))] [] (LAY, m) (qm_ LAY (pu_ (nI (cnt (fun i => ¬ m a i = NONE_) n)) m)) := by
  refine ind_ (fun i hi ih => ?_)
  have hc := cnt_le (f := (fun i => ¬ m a i = NONE_)) i
  refine Y_iload_n 4 rfl (pc2 := 5) rfl rfl ?_
  refine Y_iload_n 5 rfl (pc2 := 6) rfl rfl ?_
  refine Y_icmp_gen 6 rfl (pc2 := 9) rfl (tgt := 32) (by decide) (by omega) (by omega) (fun h6 => ?_) (fun h6 => ?_)
  · refine Y_iload_n 19 rfl (pc2 := 33) rfl rfl ?_
    refine Y_iret 20 rfl rfl rfl ⟨rfl, ?_⟩
    first | exact pu_i (by rw [show i = n by omega]) | omega
  · refine Y_iload_n 7 rfl (pc2 := 10) rfl rfl ?_
    refine Y_aload_n 8 rfl (pc2 := 11) rfl rfl ?_
    refine Y_alen_i 9 rfl (pc2 := 12) rfl ha rfl ?_
    refine Y_icmp_gen 10 rfl (pc2 := 15) rfl (tgt := 32) (by decide) (by omega) (by omega) (fun h12 => ?_) (fun h12 => ?_)
    · refine Y_iload_n 19 rfl (pc2 := 33) rfl rfl ?_
      refine Y_iret 20 rfl rfl rfl ⟨rfl, ?_⟩
      first | exact pu_i (by rw [show i = n by omega]) | omega
    · refine Y_aload_n 11 rfl (pc2 := 16) rfl rfl ?_
      refine Y_iload_n 12 rfl (pc2 := 17) rfl rfl ?_
      refine Y_iald 13 rfl (pc2 := 18) rfl ha rfl (by omega) hL ?_
      refine Y_ldc 14 rfl (pc2 := 20) rfl kc_gh_84 ?_
      refine Y_icmp_eq 15 rfl (pc2 := 23) rfl (tgt := 26) (by decide) (fun h20 => ?_) (fun h20 => ?_)
      · refine Y_iinc 17 rfl (pc2 := 29) rfl rfl (nI_inc _ 1) (ls2 := [some (.ref _), some (.int _), some (.int _), some (.int _)]) rfl ?_
        refine Y_goto 18 rfl (pc2 := 4) (by decide) ?_
        first | exact Y_ls (by rw [cnt_t (f := (fun i => ¬ m a i = NONE_)) h20]) (ih (i + 1) (by omega) (by omega)) | exact Y_ls (by rw [cnt_f (f := (fun i => ¬ m a i = NONE_)) (not_not_intro h20)]) (ih (i + 1) (by omega) (by omega))
      · refine Y_iinc 16 rfl (pc2 := 26) rfl rfl (nI_inc _ 1) (ls2 := [some (.ref _), some (.int _), some (.int _), some (.int _)]) rfl ?_
        refine Y_iinc 17 rfl (pc2 := 29) rfl rfl (nI_inc _ 1) (ls2 := [some (.ref _), some (.int _), some (.int _), some (.int _)]) rfl ?_
        refine Y_goto 18 rfl (pc2 := 4) (by decide) ?_
        first | exact Y_ls (by rw [cnt_t (f := (fun i => ¬ m a i = NONE_)) h20]) (ih (i + 1) (by omega) (by omega)) | exact Y_ls (by rw [cnt_f (f := (fun i => ¬ m a i = NONE_)) (not_not_intro h20)]) (ih (i + 1) (by omega) (by omega))

set_option maxHeartbeats 400000 in
theorem T_gh_countTold {G : Nat × (Nat → Int32)} {m : Mm} {a L n : Nat} (ha : LAY[a]? = some (12, L, [])) (hL : L < 2 ^ 31) (hn : n ≤ L) : Y G M_gh_countTold (0, 0) 0 (en_ M_gh_countTold [.ref (a), .int (nI n)]) [] (LAY, m) (qm_ LAY (pu_ (nI (cnt (fun i => ¬ m a i = NONE_) n)) m)) := by
  change Y _ _ _ _ [some (.ref _), some (.int _), none, none] _ _ _
  refine Y_iconst 0 rfl (pc2 := 1) rfl (v := nI 0) (by decide) ?_
  refine Y_istore_n 1 rfl (pc2 := 2) rfl (Nat.le_of_ble_eq_true rfl) (ls2 := [some (.ref _), some (.int _), some (.int _), none]) rfl ?_
  refine Y_iconst 2 rfl (pc2 := 3) rfl (v := nI 0) (by decide) ?_
  refine Y_istore_n 3 rfl (pc2 := 4) rfl (Nat.le_of_ble_eq_true rfl) (ls2 := [some (.ref _), some (.int _), some (.int _), some (.int _)]) rfl ?_
  exact L_countTold ha hL hn 0 (by omega)

set_option maxHeartbeats 400000 in
theorem T_ci_beatBehind {G : Nat × (Nat → Int32)} {m : Mm} {S : Mm} (h : RC m S) (w : WF S) {c b : Nat} (hc : c < 4) (hb : b < 32) : Y G M_ci_beatBehind (0, 0) 0 (en_ M_ci_beatBehind [.ref (21 + 5 * c), .int (nI b)]) [] (LAY, m) (qm_ LAY (pu_ (nI (nxt (bt S c) b)) m)) := by
  change Y _ _ _ _ [some (.ref _), some (.int _)] _ _ _
  have hn := (w.b c hc).2
  refine Y_iload_n 0 rfl (pc2 := 1) rfl rfl ?_
  refine Y_iconst 1 rfl (pc2 := 2) rfl (v := nI 1) (by decide) ?_
  refine Y_iadd 2 rfl (pc2 := 3) rfl ?_
  refine Y_top (nI_add _ _) ?_
  refine Y_aload_n 3 rfl (pc2 := 4) rfl rfl ?_
  refine Y_getI 4 rfl (pc2 := 7) rfl fl_ci_24 (ly_ci (by omega)) (by decide) rfl ?_
  refine Y_top ((h.b _ (by omega)).trans (w.b _ (by omega)).1) ?_
  refine Y_icmp_gen 5 rfl (pc2 := 10) rfl (tgt := 16) (by decide) (by omega) (by omega) (fun h7 => ?_) (fun h7 => ?_)
  · refine Y_iconst 10 rfl (pc2 := 17) rfl (v := nI 0) (by decide) ?_
    refine Y_iret 11 rfl rfl rfl ⟨rfl, ?_⟩
    exact pu_i (by unfold nxt; first | rw [if_neg (by omega)] | rw [if_pos (by omega)])
  · refine Y_iload_n 6 rfl (pc2 := 11) rfl rfl ?_
    refine Y_iconst 7 rfl (pc2 := 12) rfl (v := nI 1) (by decide) ?_
    refine Y_iadd 8 rfl (pc2 := 13) rfl ?_
    refine Y_top (nI_add _ _) ?_
    refine Y_goto 9 rfl (pc2 := 17) (by decide) ?_
    refine Y_iret 11 rfl rfl rfl ⟨rfl, ?_⟩
    exact pu_i (by unfold nxt; first | rw [if_neg (by omega)] | rw [if_pos (by omega)])

set_option maxHeartbeats 400000 in
theorem T_ci_countNotes {G : Nat × (Nat → Int32)} {m : Mm} {S : Mm} (h : RC m S) (w : WF S) {c : Nat} (hc : c < 4) : Y G M_ci_countNotes (0, 0) 0 (en_ M_ci_countNotes [.ref (21 + 5 * c)]) [] (LAY, m) (qm_ LAY (pu_ (nI (cnt (fun b => ¬ S 155 (32 * c + b) < 0) (bt S c))) m)) := by
  change Y _ _ _ _ [some (.ref _)] _ _ _
  have hn := (w.b c hc).2
  refine Y_aload_n 0 rfl (pc2 := 1) rfl rfl ?_
  refine Y_getR 1 rfl (pc2 := 4) rfl fl_ci_9 (ly_ci (by omega)) (by decide) rfl rfl (by omega) ?_
  refine Y_aload_n 2 rfl (pc2 := 5) rfl rfl ?_
  refine Y_getI 3 rfl (pc2 := 8) rfl fl_ci_24 (ly_ci (by omega)) (by decide) rfl ?_
  refine Y_top ((h.b _ (by omega)).trans (w.b _ (by omega)).1) ?_
  refine Y_cS 4 rfl (pc2 := 11) rfl ok_gh_countTold lk_ci_66 vs_gh_countTold (as := [.ref _, .int _]) (rest := []) rfl rfl (T_gh_countTold (ly_ciN hc) (by decide) (by omega)) ?_
  rintro _ _ ⟨rfl, rfl⟩
  change Y _ _ _ _ _ [.int _] _ _
  refine Y_iret 5 rfl rfl rfl ⟨rfl, ?_⟩
  refine pu_i (congrArg nI (cnt_congr _ (fun i hi => ?_)))
  rw [h.n c i hc (by omega), oC_none (n := 9) (by decide) ?_]
  rcases w.n (32 * c + i) (by omega) with e | ⟨k, hk, e⟩
  · exact Or.inl e
  · exact Or.inr ⟨k, by omega, e⟩

set_option maxHeartbeats 400000 in
theorem T_ci_countGongs {G : Nat × (Nat → Int32)} {m : Mm} {S : Mm} (h : RC m S) (w : WF S) {c : Nat} (hc : c < 4) : Y G M_ci_countGongs (0, 0) 0 (en_ M_ci_countGongs [.ref (21 + 5 * c)]) [] (LAY, m) (qm_ LAY (pu_ (nI (cnt (fun b => ¬ S 156 (32 * c + b) < 0) (bt S c))) m)) := by
  change Y _ _ _ _ [some (.ref _)] _ _ _
  have hn := (w.b c hc).2
  refine Y_aload_n 0 rfl (pc2 := 1) rfl rfl ?_
  refine Y_getR 1 rfl (pc2 := 4) rfl fl_ci_15 (ly_ci (by omega)) (by decide) rfl rfl (by omega) ?_
  refine Y_aload_n 2 rfl (pc2 := 5) rfl rfl ?_
  refine Y_getI 3 rfl (pc2 := 8) rfl fl_ci_24 (ly_ci (by omega)) (by decide) rfl ?_
  refine Y_top ((h.b _ (by omega)).trans (w.b _ (by omega)).1) ?_
  refine Y_cS 4 rfl (pc2 := 11) rfl ok_gh_countTold lk_ci_66 vs_gh_countTold (as := [.ref _, .int _]) (rest := []) rfl rfl (T_gh_countTold (ly_ciG hc) (by decide) (by omega)) ?_
  rintro _ _ ⟨rfl, rfl⟩
  change Y _ _ _ _ _ [.int _] _ _
  refine Y_iret 5 rfl rfl rfl ⟨rfl, ?_⟩
  refine pu_i (congrArg nI (cnt_congr _ (fun i hi => ?_)))
  rw [h.g c i hc (by omega), oC_none (n := 9) (by decide) ?_]
  rcases w.g (32 * c + i) (by omega) with e | ⟨k, hk, e⟩
  · exact Or.inl e
  · exact Or.inr ⟨k, by omega, e⟩

set_option maxHeartbeats 400000 in
theorem T_fi_rowOf {G : Nat × (Nat → Int32)} {m : Mm} {l f h : Nat} (hl : l < 4) (hf : f < 6) (hh : h < 2) : Y G M_fi_rowOf (0, 0) 0 (en_ M_fi_rowOf [.ref (44 + 27 * l + 4 * f), .int (nI h)]) [] (LAY, m) (qm_ LAY (pa_ (45 + 27 * l + 4 * f + h) m)) := by
  change Y _ _ _ _ [some (.ref _), some (.int _)] _ _ _
  refine Y_iload_n 0 rfl (pc2 := 1) rfl rfl ?_
  refine Y_if_nen 1 rfl (pc2 := 4) rfl (tgt := 11) (by decide) (by omega) (fun h1 => ?_) (fun h1 => ?_)
  · refine Y_aload_n 5 rfl (pc2 := 12) rfl rfl ?_
    refine Y_getR 6 rfl (pc2 := 15) rfl fl_fi_15 (ly_fi (by omega) (by omega)) (by decide) rfl rfl (by omega) ?_
    refine Y_aret 7 rfl rfl (by first | exact Or.inr ⟨_, rfl⟩ | exact Or.inl ⟨_, rfl⟩) ⟨rfl, ?_⟩
    first | exact ⟨by rw [h1]; rfl, rfl⟩ | exact ⟨by rw [show h = 1 by omega, show 45 + 27 * l + 4 * f + 1 = 46 + 27 * l + 4 * f by omega], rfl⟩
  · refine Y_aload_n 2 rfl (pc2 := 5) rfl rfl ?_
    refine Y_getR 3 rfl (pc2 := 8) rfl fl_fi_9 (ly_fi (by omega) (by omega)) (by decide) rfl rfl (by omega) ?_
    refine Y_goto 4 rfl (pc2 := 15) (by decide) ?_
    refine Y_aret 7 rfl rfl (by first | exact Or.inr ⟨_, rfl⟩ | exact Or.inl ⟨_, rfl⟩) ⟨rfl, ?_⟩
    first | exact ⟨by rw [h1]; rfl, rfl⟩ | exact ⟨by rw [show h = 1 by omega, show 45 + 27 * l + 4 * f + 1 = 46 + 27 * l + 4 * f by omega], rfl⟩

set_option maxHeartbeats 400000 in
theorem T_fi_strikesOf {G : Nat × (Nat → Int32)} {m : Mm} {S : Mm} (h : RC m S) (w : WF S) {l f : Nat} (hl : l < 4) (hf : f < 6) {g : Nat} (hg : g < 2) : Y G M_fi_strikesOf (0, 0) 0 (en_ M_fi_strikesOf [.ref (44 + 27 * l + 4 * f), .int (nI g)]) [] (LAY, m) (qm_ LAY (pu_ (nI (cnt (fun s => ¬ S 157 (ix l f g s) = -9) (2 ^ (l + 1)))) m)) := by
  change Y _ _ _ _ [some (.ref _), some (.int _)] _ _ _
  refine Y_aload_n 0 rfl (pc2 := 1) rfl rfl ?_
  refine Y_iload_n 1 rfl (pc2 := 2) rfl rfl ?_
  refine Y_cV 2 rfl (pc2 := 5) rfl ok_fi_rowOf lk_fi_29 vi_fi_rowOf (ly_fi (by omega) (by omega)) rfl (by decide) rfl (as := [.int _]) (rest := []) rfl rfl (T_fi_rowOf (by omega) (by omega) (by omega)) ?_
  rintro _ _ ⟨rfl, rfl⟩
  change Y _ _ _ _ _ [.ref _] _ _
  refine Y_aload_n 3 rfl (pc2 := 6) rfl rfl ?_
  refine Y_iload_n 4 rfl (pc2 := 7) rfl rfl ?_
  refine Y_cV 5 rfl (pc2 := 10) rfl ok_fi_rowOf lk_fi_29 vi_fi_rowOf (ly_fi (by omega) (by omega)) rfl (by decide) rfl (as := [.int _]) (rest := [.ref _]) rfl rfl (T_fi_rowOf (by omega) (by omega) (by omega)) ?_
  rintro _ _ ⟨rfl, rfl⟩
  change Y _ _ _ _ _ [.ref _, .ref _] _ _
  refine Y_alen_i 6 rfl (pc2 := 11) rfl (ly_fiR (by omega) (by omega) (by omega)) rfl ?_
  refine Y_cS 7 rfl (pc2 := 14) rfl ok_gh_countTold lk_fi_47 vs_gh_countTold (as := [.ref _, .int _]) (rest := []) rfl rfl (T_gh_countTold (ly_fiR hl hf hg) (sz_lt hl) (Nat.le_refl _)) ?_
  rintro _ _ ⟨rfl, rfl⟩
  change Y _ _ _ _ _ [.int _] _ _
  refine Y_iret 8 rfl rfl rfl ⟨rfl, ?_⟩
  refine pu_i (congrArg nI (cnt_congr _ (fun i hi => ?_)))
  rw [h.r l f g i hl hf hg hi, oS_none (w.s _ (by have := sz_16 hl; unfold ix; omega))]

def wr (S : Mm) (l f s : Nat) : Prop := (S 157 (ix l f 0 s) = -9 ∧ S 157 (ix l f 1 s) = -9) ∨ (¬ S 157 (ix l f 0 s) = -9 ∧ ¬ S 157 (ix l f 1 s) = -9 ∧ S 158 (iy l f s) = 0)
noncomputable def wS (S : Mm) (l f : Nat) : Nat := fst_ (wr S l f) (2 ^ (l + 1))
noncomputable def wO (S : Mm) (l f : Nat) : Int32 := cI (wS S l f < 2 ^ (l + 1)) (nI (wS S l f)) NONE_
set_option maxHeartbeats 400000 in
theorem wO_is {S : Mm} {l f i : Nat} (h : ∀ j, j < i → ¬ wr S l f j) (hw : wr S l f i) (hi : i < 2 ^ (l + 1)) : wS S l f = i := fst_is h hw _ hi
set_option maxHeartbeats 400000 in
theorem wO_no {S : Mm} {l f : Nat} (h : ∀ j, j < 2 ^ (l + 1) → ¬ wr S l f j) : wS S l f = 2 ^ (l + 1) := fst_none _ h
set_option maxHeartbeats 400000 in
theorem sr_m {m S : Mm} (h : RC m S) (w : WF S) {l f s : Nat} (hl : l < 4) (hf : f < 6) (hs : s < 2 ^ (l + 1)) : m (45 + 27 * l + 4 * f) s = NONE_ ↔ S 157 (ix l f 0 s) = -9 := by
  have := h.r l f 0 s hl hf (by omega) hs
  rw [show m (45 + 27 * l + 4 * f) s = _ from this]
  exact oS_none (w.s _ (by have := sz_16 hl; unfold ix; omega))
set_option maxHeartbeats 400000 in
theorem sr_o {m S : Mm} (h : RC m S) (w : WF S) {l f s : Nat} (hl : l < 4) (hf : f < 6) (hs : s < 2 ^ (l + 1)) : m (46 + 27 * l + 4 * f) s = NONE_ ↔ S 157 (ix l f 1 s) = -9 := by
  have := h.r l f 1 s hl hf (by omega) hs
  rw [show 46 + 27 * l + 4 * f = 45 + 27 * l + 4 * f + 1 by omega, this]
  exact oS_none (w.s _ (by have := sz_16 hl; unfold ix; omega))
set_option maxHeartbeats 400000 in
theorem wr_t {m S : Mm} (h : RC m S) (w : WF S) {l f s : Nat} (hl : l < 4) (hf : f < 6) (hs : s < 2 ^ (l + 1)) (e : (m (45 + 27 * l + 4 * f) s = NONE_ ∧ m (46 + 27 * l + 4 * f) s = NONE_) ∨ (¬ m (45 + 27 * l + 4 * f) s = NONE_ ∧ ¬ m (46 + 27 * l + 4 * f) s = NONE_ ∧ m (47 + 27 * l + 4 * f) s = 0)) : wr S l f s := by
  rw [sr_m h w hl hf hs, sr_o h w hl hf hs, h.m l f s hl hf hs] at e
  exact e
set_option maxHeartbeats 400000 in
theorem wr_f {m S : Mm} (h : RC m S) (w : WF S) {l f s : Nat} (hl : l < 4) (hf : f < 6) (hs : s < 2 ^ (l + 1)) (e : ¬ ((m (45 + 27 * l + 4 * f) s = NONE_ ∧ m (46 + 27 * l + 4 * f) s = NONE_) ∨ (¬ m (45 + 27 * l + 4 * f) s = NONE_ ∧ ¬ m (46 + 27 * l + 4 * f) s = NONE_ ∧ m (47 + 27 * l + 4 * f) s = 0))) : ¬ wr S l f s := by
  rw [sr_m h w hl hf hs, sr_o h w hl hf hs, h.m l f s hl hf hs] at e
  exact e

set_option maxHeartbeats 400000 in
theorem L_firstWrong {G : Nat × (Nat → Int32)} {m : Mm} {S : Mm} (h : RC m S) (w : WF S) {l f : Nat} (hl : l < 4) (hf : f < 6) : ∀ i, i ≤ 2 ^ (l + 1) → (∀ j, j < i → ¬ wr S l f j) → ∀ (u v : Option Value), Y G M_fi_firstWrongStep (0, 0) 2 [some (.ref (44 + 27 * l + 4 * f)), some (.int (nI i)), u, v] [] (LAY, m) (qm_ LAY (pu_ (wO S l f) m)) := by
  have hz := sz_16 hl
  refine ind_ (fun i hi ih hw u v => ?_)
  refine Y_iload_n 2 rfl (pc2 := 3) rfl rfl ?_
  refine Y_aload_n 3 rfl (pc2 := 4) rfl rfl ?_
  refine Y_getR 4 rfl (pc2 := 7) rfl fl_fi_9 (ly_fi (by omega) (by omega)) (by decide) rfl rfl (by omega) ?_
  refine Y_alen_i 5 rfl (pc2 := 8) rfl (ly_fiM (by omega) (by omega)) rfl ?_
  refine Y_icmp_gen 6 rfl (pc2 := 11) rfl (tgt := 71) (by decide) (by omega) (by omega) (fun h8 => ?_) (fun h8 => ?_)
  · refine Y_ldc 41 rfl (pc2 := 73) rfl kc_fi_22 ?_
    refine Y_iret 42 rfl rfl rfl ⟨rfl, ?_⟩
    exact pu_i (by unfold wO; have e := wO_no (S := S) (l := l) (f := f) (fun j hj => hw j (by omega)); rw [e, cI_f (by omega)]; rfl)
  · refine Y_aload_n 7 rfl (pc2 := 12) rfl rfl ?_
    refine Y_getR 8 rfl (pc2 := 15) rfl fl_fi_9 (ly_fi (by omega) (by omega)) (by decide) rfl rfl (by omega) ?_
    refine Y_iload_n 9 rfl (pc2 := 16) rfl rfl ?_
    refine Y_iald 10 rfl (pc2 := 17) rfl (ly_fiM (by omega) (by omega)) rfl (by omega) (sz_lt (by omega)) ?_
    refine Y_ldc 11 rfl (pc2 := 19) rfl kc_fi_22 ?_
    refine Y_icmp_eq 12 rfl (pc2 := 22) rfl (tgt := 26) (by decide) (fun h19 => ?_) (fun h19 => ?_)
    · refine Y_iconst 15 rfl (pc2 := 27) rfl (v := nI 0) (by decide) ?_
      refine Y_istore_n 16 rfl (pc2 := 28) rfl (Nat.le_of_ble_eq_true rfl) (ls2 := [some (.ref _), some (.int _), some (.int _), _]) rfl ?_
      refine Y_aload_n 17 rfl (pc2 := 29) rfl rfl ?_
      refine Y_getR 18 rfl (pc2 := 32) rfl fl_fi_15 (ly_fi (by omega) (by omega)) (by decide) rfl rfl (by omega) ?_
      refine Y_iload_n 19 rfl (pc2 := 33) rfl rfl ?_
      refine Y_iald 20 rfl (pc2 := 34) rfl (ly_fiO (by omega) (by omega)) rfl (by omega) (sz_lt (by omega)) ?_
      refine Y_ldc 21 rfl (pc2 := 36) rfl kc_fi_22 ?_
      refine Y_icmp_eq 22 rfl (pc2 := 39) rfl (tgt := 43) (by decide) (fun h36 => ?_) (fun h36 => ?_)
      · refine Y_iconst 25 rfl (pc2 := 44) rfl (v := nI 0) (by decide) ?_
        refine Y_istore_n 26 rfl (pc2 := 45) rfl (Nat.le_of_ble_eq_true rfl) (ls2 := [some (.ref _), some (.int _), some (.int _), some (.int _)]) rfl ?_
        refine Y_iload_n 27 rfl (pc2 := 46) rfl rfl ?_
        refine Y_iload_n 28 rfl (pc2 := 47) rfl rfl ?_
        refine Y_icmp_nen 29 rfl (pc2 := 50) rfl (tgt := 65) (by decide) (by omega) (by omega) (fun h47 => ?_) (fun h47 => ?_)
        · refine Y_iinc 39 rfl (pc2 := 68) rfl rfl (nI_inc _ 1) (ls2 := [some (.ref _), some (.int _), some (.int _), some (.int _)]) rfl ?_
          refine Y_goto 40 rfl (pc2 := 2) (by decide) ?_
          exact ih (i + 1) (by omega) (by omega) (fun j hj => if e : j < i then hw j e else by rw [show j = i by omega]; exact wr_f h w hl hf (by omega) (by rintro (⟨e1, e2⟩ | ⟨e1, e2, e3⟩) <;> first | exact absurd e1 h19 | exact absurd e2 h36 | exact absurd h19 e1 | exact absurd h36 e2 | exact absurd e3 h60 | omega)) _ _
        · refine Y_iload_n 30 rfl (pc2 := 51) rfl rfl ?_
          refine Y_if_eqn 31 rfl (pc2 := 54) rfl (tgt := 63) (by decide) (by omega) (fun h51 => ?_) (fun h51 => ?_)
          · refine Y_iload_n 37 rfl (pc2 := 64) rfl rfl ?_
            refine Y_iret 38 rfl rfl rfl ⟨rfl, ?_⟩
            first | omega | exact pu_i (by unfold wO; have e := wO_is (l := l) (f := f) hw (wr_t h w hl hf (by omega) (by first | exact Or.inl ⟨h19, h36⟩ | exact Or.inr ⟨h19, h36, h60⟩)) (by omega); rw [e, cI_t (by omega)])
          · refine Y_aload_n 32 rfl (pc2 := 55) rfl rfl ?_
            refine Y_getR 33 rfl (pc2 := 58) rfl fl_fi_18 (ly_fi (by omega) (by omega)) (by decide) rfl rfl (by omega) ?_
            refine Y_iload_n 34 rfl (pc2 := 59) rfl rfl ?_
            refine Y_zald 35 rfl (pc2 := 60) rfl (ly_fiB (by omega) (by omega)) rfl (by omega) (sz_lt (by omega)) ?_
            refine Y_if_ne 36 rfl (pc2 := 63) rfl (tgt := 65) (by decide) (fun h60 => ?_) (fun h60 => ?_)
            · refine Y_iinc 39 rfl (pc2 := 68) rfl rfl (nI_inc _ 1) (ls2 := [some (.ref _), some (.int _), some (.int _), some (.int _)]) rfl ?_
              refine Y_goto 40 rfl (pc2 := 2) (by decide) ?_
              exact ih (i + 1) (by omega) (by omega) (fun j hj => if e : j < i then hw j e else by rw [show j = i by omega]; exact wr_f h w hl hf (by omega) (by rintro (⟨e1, e2⟩ | ⟨e1, e2, e3⟩) <;> first | exact absurd e1 h19 | exact absurd e2 h36 | exact absurd h19 e1 | exact absurd h36 e2 | exact absurd e3 h60 | omega)) _ _
            · refine Y_iload_n 37 rfl (pc2 := 64) rfl rfl ?_
              refine Y_iret 38 rfl rfl rfl ⟨rfl, ?_⟩
              first | omega | exact pu_i (by unfold wO; have e := wO_is (l := l) (f := f) hw (wr_t h w hl hf (by omega) (by first | exact Or.inl ⟨h19, h36⟩ | exact Or.inr ⟨h19, h36, h60⟩)) (by omega); rw [e, cI_t (by omega)])
      · refine Y_iconst 23 rfl (pc2 := 40) rfl (v := nI 1) (by decide) ?_
        refine Y_goto 24 rfl (pc2 := 44) (by decide) ?_
        refine Y_istore_n 26 rfl (pc2 := 45) rfl (Nat.le_of_ble_eq_true rfl) (ls2 := [some (.ref _), some (.int _), some (.int _), some (.int _)]) rfl ?_
        refine Y_iload_n 27 rfl (pc2 := 46) rfl rfl ?_
        refine Y_iload_n 28 rfl (pc2 := 47) rfl rfl ?_
        refine Y_icmp_nen 29 rfl (pc2 := 50) rfl (tgt := 65) (by decide) (by omega) (by omega) (fun h47 => ?_) (fun h47 => ?_)
        · refine Y_iinc 39 rfl (pc2 := 68) rfl rfl (nI_inc _ 1) (ls2 := [some (.ref _), some (.int _), some (.int _), some (.int _)]) rfl ?_
          refine Y_goto 40 rfl (pc2 := 2) (by decide) ?_
          exact ih (i + 1) (by omega) (by omega) (fun j hj => if e : j < i then hw j e else by rw [show j = i by omega]; exact wr_f h w hl hf (by omega) (by rintro (⟨e1, e2⟩ | ⟨e1, e2, e3⟩) <;> first | exact absurd e1 h19 | exact absurd e2 h36 | exact absurd h19 e1 | exact absurd h36 e2 | exact absurd e3 h60 | omega)) _ _
        · refine Y_iload_n 30 rfl (pc2 := 51) rfl rfl ?_
          refine Y_if_eqn 31 rfl (pc2 := 54) rfl (tgt := 63) (by decide) (by omega) (fun h51 => ?_) (fun h51 => ?_)
          · refine Y_iload_n 37 rfl (pc2 := 64) rfl rfl ?_
            refine Y_iret 38 rfl rfl rfl ⟨rfl, ?_⟩
            first | omega | exact pu_i (by unfold wO; have e := wO_is (l := l) (f := f) hw (wr_t h w hl hf (by omega) (by first | exact Or.inl ⟨h19, h36⟩ | exact Or.inr ⟨h19, h36, h60⟩)) (by omega); rw [e, cI_t (by omega)])
          · refine Y_aload_n 32 rfl (pc2 := 55) rfl rfl ?_
            refine Y_getR 33 rfl (pc2 := 58) rfl fl_fi_18 (ly_fi (by omega) (by omega)) (by decide) rfl rfl (by omega) ?_
            refine Y_iload_n 34 rfl (pc2 := 59) rfl rfl ?_
            refine Y_zald 35 rfl (pc2 := 60) rfl (ly_fiB (by omega) (by omega)) rfl (by omega) (sz_lt (by omega)) ?_
            refine Y_if_ne 36 rfl (pc2 := 63) rfl (tgt := 65) (by decide) (fun h60 => ?_) (fun h60 => ?_)
            · refine Y_iinc 39 rfl (pc2 := 68) rfl rfl (nI_inc _ 1) (ls2 := [some (.ref _), some (.int _), some (.int _), some (.int _)]) rfl ?_
              refine Y_goto 40 rfl (pc2 := 2) (by decide) ?_
              exact ih (i + 1) (by omega) (by omega) (fun j hj => if e : j < i then hw j e else by rw [show j = i by omega]; exact wr_f h w hl hf (by omega) (by rintro (⟨e1, e2⟩ | ⟨e1, e2, e3⟩) <;> first | exact absurd e1 h19 | exact absurd e2 h36 | exact absurd h19 e1 | exact absurd h36 e2 | exact absurd e3 h60 | omega)) _ _
            · refine Y_iload_n 37 rfl (pc2 := 64) rfl rfl ?_
              refine Y_iret 38 rfl rfl rfl ⟨rfl, ?_⟩
              first | omega | exact pu_i (by unfold wO; have e := wO_is (l := l) (f := f) hw (wr_t h w hl hf (by omega) (by first | exact Or.inl ⟨h19, h36⟩ | exact Or.inr ⟨h19, h36, h60⟩)) (by omega); rw [e, cI_t (by omega)])
    · refine Y_iconst 13 rfl (pc2 := 23) rfl (v := nI 1) (by decide) ?_
      refine Y_goto 14 rfl (pc2 := 27) (by decide) ?_
      refine Y_istore_n 16 rfl (pc2 := 28) rfl (Nat.le_of_ble_eq_true rfl) (ls2 := [some (.ref _), some (.int _), some (.int _), _]) rfl ?_
      refine Y_aload_n 17 rfl (pc2 := 29) rfl rfl ?_
      refine Y_getR 18 rfl (pc2 := 32) rfl fl_fi_15 (ly_fi (by omega) (by omega)) (by decide) rfl rfl (by omega) ?_
      refine Y_iload_n 19 rfl (pc2 := 33) rfl rfl ?_
      refine Y_iald 20 rfl (pc2 := 34) rfl (ly_fiO (by omega) (by omega)) rfl (by omega) (sz_lt (by omega)) ?_
      refine Y_ldc 21 rfl (pc2 := 36) rfl kc_fi_22 ?_
      refine Y_icmp_eq 22 rfl (pc2 := 39) rfl (tgt := 43) (by decide) (fun h36 => ?_) (fun h36 => ?_)
      · refine Y_iconst 25 rfl (pc2 := 44) rfl (v := nI 0) (by decide) ?_
        refine Y_istore_n 26 rfl (pc2 := 45) rfl (Nat.le_of_ble_eq_true rfl) (ls2 := [some (.ref _), some (.int _), some (.int _), some (.int _)]) rfl ?_
        refine Y_iload_n 27 rfl (pc2 := 46) rfl rfl ?_
        refine Y_iload_n 28 rfl (pc2 := 47) rfl rfl ?_
        refine Y_icmp_nen 29 rfl (pc2 := 50) rfl (tgt := 65) (by decide) (by omega) (by omega) (fun h47 => ?_) (fun h47 => ?_)
        · refine Y_iinc 39 rfl (pc2 := 68) rfl rfl (nI_inc _ 1) (ls2 := [some (.ref _), some (.int _), some (.int _), some (.int _)]) rfl ?_
          refine Y_goto 40 rfl (pc2 := 2) (by decide) ?_
          exact ih (i + 1) (by omega) (by omega) (fun j hj => if e : j < i then hw j e else by rw [show j = i by omega]; exact wr_f h w hl hf (by omega) (by rintro (⟨e1, e2⟩ | ⟨e1, e2, e3⟩) <;> first | exact absurd e1 h19 | exact absurd e2 h36 | exact absurd h19 e1 | exact absurd h36 e2 | exact absurd e3 h60 | omega)) _ _
        · refine Y_iload_n 30 rfl (pc2 := 51) rfl rfl ?_
          refine Y_if_eqn 31 rfl (pc2 := 54) rfl (tgt := 63) (by decide) (by omega) (fun h51 => ?_) (fun h51 => ?_)
          · refine Y_iload_n 37 rfl (pc2 := 64) rfl rfl ?_
            refine Y_iret 38 rfl rfl rfl ⟨rfl, ?_⟩
            first | omega | exact pu_i (by unfold wO; have e := wO_is (l := l) (f := f) hw (wr_t h w hl hf (by omega) (by first | exact Or.inl ⟨h19, h36⟩ | exact Or.inr ⟨h19, h36, h60⟩)) (by omega); rw [e, cI_t (by omega)])
          · refine Y_aload_n 32 rfl (pc2 := 55) rfl rfl ?_
            refine Y_getR 33 rfl (pc2 := 58) rfl fl_fi_18 (ly_fi (by omega) (by omega)) (by decide) rfl rfl (by omega) ?_
            refine Y_iload_n 34 rfl (pc2 := 59) rfl rfl ?_
            refine Y_zald 35 rfl (pc2 := 60) rfl (ly_fiB (by omega) (by omega)) rfl (by omega) (sz_lt (by omega)) ?_
            refine Y_if_ne 36 rfl (pc2 := 63) rfl (tgt := 65) (by decide) (fun h60 => ?_) (fun h60 => ?_)
            · refine Y_iinc 39 rfl (pc2 := 68) rfl rfl (nI_inc _ 1) (ls2 := [some (.ref _), some (.int _), some (.int _), some (.int _)]) rfl ?_
              refine Y_goto 40 rfl (pc2 := 2) (by decide) ?_
              exact ih (i + 1) (by omega) (by omega) (fun j hj => if e : j < i then hw j e else by rw [show j = i by omega]; exact wr_f h w hl hf (by omega) (by rintro (⟨e1, e2⟩ | ⟨e1, e2, e3⟩) <;> first | exact absurd e1 h19 | exact absurd e2 h36 | exact absurd h19 e1 | exact absurd h36 e2 | exact absurd e3 h60 | omega)) _ _
            · refine Y_iload_n 37 rfl (pc2 := 64) rfl rfl ?_
              refine Y_iret 38 rfl rfl rfl ⟨rfl, ?_⟩
              first | omega | exact pu_i (by unfold wO; have e := wO_is (l := l) (f := f) hw (wr_t h w hl hf (by omega) (by first | exact Or.inl ⟨h19, h36⟩ | exact Or.inr ⟨h19, h36, h60⟩)) (by omega); rw [e, cI_t (by omega)])
      · refine Y_iconst 23 rfl (pc2 := 40) rfl (v := nI 1) (by decide) ?_
        refine Y_goto 24 rfl (pc2 := 44) (by decide) ?_
        refine Y_istore_n 26 rfl (pc2 := 45) rfl (Nat.le_of_ble_eq_true rfl) (ls2 := [some (.ref _), some (.int _), some (.int _), some (.int _)]) rfl ?_
        refine Y_iload_n 27 rfl (pc2 := 46) rfl rfl ?_
        refine Y_iload_n 28 rfl (pc2 := 47) rfl rfl ?_
        refine Y_icmp_nen 29 rfl (pc2 := 50) rfl (tgt := 65) (by decide) (by omega) (by omega) (fun h47 => ?_) (fun h47 => ?_)
        · refine Y_iinc 39 rfl (pc2 := 68) rfl rfl (nI_inc _ 1) (ls2 := [some (.ref _), some (.int _), some (.int _), some (.int _)]) rfl ?_
          refine Y_goto 40 rfl (pc2 := 2) (by decide) ?_
          exact ih (i + 1) (by omega) (by omega) (fun j hj => if e : j < i then hw j e else by rw [show j = i by omega]; exact wr_f h w hl hf (by omega) (by rintro (⟨e1, e2⟩ | ⟨e1, e2, e3⟩) <;> first | exact absurd e1 h19 | exact absurd e2 h36 | exact absurd h19 e1 | exact absurd h36 e2 | exact absurd e3 h60 | omega)) _ _
        · refine Y_iload_n 30 rfl (pc2 := 51) rfl rfl ?_
          refine Y_if_eqn 31 rfl (pc2 := 54) rfl (tgt := 63) (by decide) (by omega) (fun h51 => ?_) (fun h51 => ?_)
          · refine Y_iload_n 37 rfl (pc2 := 64) rfl rfl ?_
            refine Y_iret 38 rfl rfl rfl ⟨rfl, ?_⟩
            first | omega | exact pu_i (by unfold wO; have e := wO_is (l := l) (f := f) hw (wr_t h w hl hf (by omega) (by first | exact Or.inl ⟨h19, h36⟩ | exact Or.inr ⟨h19, h36, h60⟩)) (by omega); rw [e, cI_t (by omega)])
          · refine Y_aload_n 32 rfl (pc2 := 55) rfl rfl ?_
            refine Y_getR 33 rfl (pc2 := 58) rfl fl_fi_18 (ly_fi (by omega) (by omega)) (by decide) rfl rfl (by omega) ?_
            refine Y_iload_n 34 rfl (pc2 := 59) rfl rfl ?_
            refine Y_zald 35 rfl (pc2 := 60) rfl (ly_fiB (by omega) (by omega)) rfl (by omega) (sz_lt (by omega)) ?_
            refine Y_if_ne 36 rfl (pc2 := 63) rfl (tgt := 65) (by decide) (fun h60 => ?_) (fun h60 => ?_)
            · refine Y_iinc 39 rfl (pc2 := 68) rfl rfl (nI_inc _ 1) (ls2 := [some (.ref _), some (.int _), some (.int _), some (.int _)]) rfl ?_
              refine Y_goto 40 rfl (pc2 := 2) (by decide) ?_
              exact ih (i + 1) (by omega) (by omega) (fun j hj => if e : j < i then hw j e else by rw [show j = i by omega]; exact wr_f h w hl hf (by omega) (by rintro (⟨e1, e2⟩ | ⟨e1, e2, e3⟩) <;> first | exact absurd e1 h19 | exact absurd e2 h36 | exact absurd h19 e1 | exact absurd h36 e2 | exact absurd e3 h60 | omega)) _ _
            · refine Y_iload_n 37 rfl (pc2 := 64) rfl rfl ?_
              refine Y_iret 38 rfl rfl rfl ⟨rfl, ?_⟩
              first | omega | exact pu_i (by unfold wO; have e := wO_is (l := l) (f := f) hw (wr_t h w hl hf (by omega) (by first | exact Or.inl ⟨h19, h36⟩ | exact Or.inr ⟨h19, h36, h60⟩)) (by omega); rw [e, cI_t (by omega)])

set_option maxHeartbeats 400000 in
theorem T_fi_firstWrongStep {G : Nat × (Nat → Int32)} {m : Mm} {S : Mm} (h : RC m S) (w : WF S) {l f : Nat} (hl : l < 4) (hf : f < 6) : Y G M_fi_firstWrongStep (0, 0) 0 (en_ M_fi_firstWrongStep [.ref (44 + 27 * l + 4 * f)]) [] (LAY, m) (qm_ LAY (pu_ (wO S l f) m)) := by
  change Y _ _ _ _ [some (.ref _), none, none, none] _ _ _
  refine Y_iconst 0 rfl (pc2 := 1) rfl (v := nI 0) (by decide) ?_
  refine Y_istore_n 1 rfl (pc2 := 2) rfl (Nat.le_of_ble_eq_true rfl) (ls2 := [some (.ref _), some (.int _), none, none]) rfl ?_
  exact L_firstWrong h w hl hf 0 (Nat.zero_le _) (fun j hj => by omega) _ _

set_option maxHeartbeats 400000 in
theorem wO_none {S : Mm} {l f : Nat} (hl : l < 4) : wO S l f = NONE_ ↔ wS S l f = 2 ^ (l + 1) := by
  have h1 := fst_le (f := wr S l f) (2 ^ (l + 1))
  have h2 := sz_16 hl
  have h3 : wS S l f ≤ 2 ^ (l + 1) := h1
  unfold wO
  by_cases e : wS S l f < 2 ^ (l + 1)
  · rw [cI_t e]
    exact ⟨fun q => absurd q (nI_none (by omega)), fun q => by omega⟩
  · rw [cI_f e]
    exact ⟨fun _ => by omega, fun _ => rfl⟩

set_option maxHeartbeats 400000 in
theorem T_fi_isRight {G : Nat × (Nat → Int32)} {m : Mm} {S : Mm} (h : RC m S) (w : WF S) {l f : Nat} (hl : l < 4) (hf : f < 6) : Y G M_fi_isRight (0, 0) 0 (en_ M_fi_isRight [.ref (44 + 27 * l + 4 * f)]) [] (LAY, m) (qm_ LAY (pu_ (bI (wS S l f = 2 ^ (l + 1))) m)) := by
  change Y _ _ _ _ [some (.ref _)] _ _ _
  refine Y_aload_n 0 rfl (pc2 := 1) rfl rfl ?_
  refine Y_cV 1 rfl (pc2 := 4) rfl ok_fi_firstWrongStep lk_fi_51 vi_fi_firstWrongStep (ly_fi (by omega) (by omega)) rfl (by decide) rfl (as := []) (rest := []) rfl rfl (T_fi_firstWrongStep h w (by omega) (by omega)) ?_
  rintro _ _ ⟨rfl, rfl⟩
  change Y _ _ _ _ _ [.int _] _ _
  refine Y_ldc 2 rfl (pc2 := 6) rfl kc_fi_22 ?_
  refine Y_icmp_ne 3 rfl (pc2 := 9) rfl (tgt := 13) (by decide) (fun h6 => ?_) (fun h6 => ?_)
  · refine Y_iconst 6 rfl (pc2 := 14) rfl (v := nI 0) (by decide) ?_
    refine Y_iret 7 rfl rfl rfl ⟨rfl, ?_⟩
    first | exact pu_t ((wO_none hl).mp h6) | exact pu_f (fun e => h6 ((wO_none hl).mpr e))
  · refine Y_iconst 4 rfl (pc2 := 10) rfl (v := nI 1) (by decide) ?_
    refine Y_goto 5 rfl (pc2 := 14) (by decide) ?_
    refine Y_iret 7 rfl rfl rfl ⟨rfl, ?_⟩
    first | exact pu_t ((wO_none hl).mp h6) | exact pu_f (fun e => h6 ((wO_none hl).mpr e))

def lsh (S : Mm) (l f s : Nat) : Int32 := if S 157 (ix l f 0 s) = -9 then oS (S 157 (ix l f 1 s)) else S 157 (ix l f 0 s)

set_option maxHeartbeats 400000 in
theorem T_fi_lineShift {G : Nat × (Nat → Int32)} {m : Mm} {S : Mm} (h : RC m S) (w : WF S) {l f : Nat} (hl : l < 4) (hf : f < 6) {s : Nat} (hs : s < 2 ^ (l + 1)) : Y G M_fi_lineShift (0, 0) 0 (en_ M_fi_lineShift [.ref (44 + 27 * l + 4 * f), .int (nI s)]) [] (LAY, m) (qm_ LAY (pu_ (lsh S l f s) m)) := by
  change Y _ _ _ _ [some (.ref _), some (.int _)] _ _ _
  refine Y_aload_n 0 rfl (pc2 := 1) rfl rfl ?_
  refine Y_getR 1 rfl (pc2 := 4) rfl fl_fi_9 (ly_fi (by omega) (by omega)) (by decide) rfl rfl (by omega) ?_
  refine Y_iload_n 2 rfl (pc2 := 5) rfl rfl ?_
  refine Y_iald 3 rfl (pc2 := 6) rfl (ly_fiM (by omega) (by omega)) rfl (by omega) (sz_lt (by omega)) ?_
  refine Y_ldc 4 rfl (pc2 := 8) rfl kc_fi_22 ?_
  refine Y_icmp_eq 5 rfl (pc2 := 11) rfl (tgt := 20) (by decide) (fun h8 => ?_) (fun h8 => ?_)
  · refine Y_aload_n 11 rfl (pc2 := 21) rfl rfl ?_
    refine Y_getR 12 rfl (pc2 := 24) rfl fl_fi_15 (ly_fi (by omega) (by omega)) (by decide) rfl rfl (by omega) ?_
    refine Y_iload_n 13 rfl (pc2 := 25) rfl rfl ?_
    refine Y_iald 14 rfl (pc2 := 26) rfl (ly_fiO (by omega) (by omega)) rfl (by omega) (sz_lt (by omega)) ?_
    refine Y_iret 15 rfl rfl rfl ⟨rfl, ?_⟩
    first
      | exact pu_i (by have e := h.r l f 1 s hl hf (by omega) hs; unfold lsh; rw [if_pos ((sr_m h w hl hf hs).mp h8), ← e]; exact congrFun (congrArg m (by omega)) s)
      | exact pu_i (by have e := h.r l f 0 s hl hf (by omega) hs; have e2 := mt (sr_m h w hl hf hs).mpr h8; unfold lsh; rw [if_neg e2]; refine Eq.trans e ?_; unfold oS; rw [if_neg e2])
  · refine Y_aload_n 6 rfl (pc2 := 12) rfl rfl ?_
    refine Y_getR 7 rfl (pc2 := 15) rfl fl_fi_9 (ly_fi (by omega) (by omega)) (by decide) rfl rfl (by omega) ?_
    refine Y_iload_n 8 rfl (pc2 := 16) rfl rfl ?_
    refine Y_iald 9 rfl (pc2 := 17) rfl (ly_fiM (by omega) (by omega)) rfl (by omega) (sz_lt (by omega)) ?_
    refine Y_goto 10 rfl (pc2 := 26) (by decide) ?_
    refine Y_iret 15 rfl rfl rfl ⟨rfl, ?_⟩
    first
      | exact pu_i (by have e := h.r l f 1 s hl hf (by omega) hs; unfold lsh; rw [if_pos ((sr_m h w hl hf hs).mp h8), ← e]; exact congrFun (congrArg m (by omega)) s)
      | exact pu_i (by have e := h.r l f 0 s hl hf (by omega) hs; have e2 := mt (sr_m h w hl hf hs).mpr h8; unfold lsh; rw [if_neg e2]; refine Eq.trans e ?_; unfold oS; rw [if_neg e2])

set_option maxHeartbeats 400000 in
theorem T_le_figureFor {G : Nat × (Nat → Int32)} {m : Mm} {S : Mm} (h : RC m S) (w : WF S) {l c b : Nat} (hl : l < 4) (hc : c < 4) (hb : b < bt S c) : Y G M_le_figureFor (0, 0) 0 (en_ M_le_figureFor [.ref (41 + 27 * l), .ref (21 + 5 * c), .int (nI b)]) [] (LAY, m) (qm_ LAY (pa_ (44 + 27 * l + 4 * us S l (turn S c b)) m)) := by
  change Y _ _ _ _ [some (.ref _), some (.ref _), some (.int _)] _ _ _
  have hn := (w.b c hc).2
  have hu := w.u l (turn S c b) hl turn_lt
  have ht : turn S c b < 3 := turn_lt
  refine Y_aload_n 0 rfl (pc2 := 1) rfl rfl ?_
  refine Y_getR 1 rfl (pc2 := 4) rfl fl_le_11 (ly_le (by omega)) (by decide) rfl rfl (by omega) ?_
  refine Y_aload_n 2 rfl (pc2 := 5) rfl rfl ?_
  refine Y_getR 3 rfl (pc2 := 8) rfl fl_le_17 (ly_le (by omega)) (by decide) rfl rfl (by omega) ?_
  refine Y_aload_n 4 rfl (pc2 := 9) rfl rfl ?_
  refine Y_getR 5 rfl (pc2 := 12) rfl fl_le_28 (ly_ci (by omega)) (by decide) rfl rfl (by omega) ?_
  refine Y_iload_n 6 rfl (pc2 := 13) rfl rfl ?_
  refine Y_iald 7 rfl (pc2 := 14) rfl (ly_ciU (by omega)) rfl (by omega) (by decide) ?_
  refine Y_top (h.u c b hc hb) ?_
  refine Y_iald 8 rfl (pc2 := 15) rfl (ly_leU (by omega)) rfl (by omega) (by decide) ?_
  refine Y_top ((h.us l (turn S c b) hl turn_lt).trans hu.1) ?_
  refine Y_aald 9 rfl (pc2 := 16) rfl (ly_leF (by omega)) (by decide) (fun _ => rfl) rfl (by omega) (by decide) (ly_leF_at (by omega)) (by omega) ?_
  refine Y_aret 10 rfl rfl (by first | exact Or.inr ⟨_, rfl⟩ | exact Or.inl ⟨_, rfl⟩) ⟨rfl, ?_⟩
  exact ⟨rfl, rfl⟩

set_option maxHeartbeats 400000 in
theorem L_countRight {G : Nat × (Nat → Int32)} {m : Mm} {S : Mm} (h : RC m S) (w : WF S) {l : Nat} (hl : l < 4) : ∀ i, i ≤ 6 → Y G M_le_countRight (0, 0) 4 [some (.ref (41 + 27 * l)), some (.int (nI (cnt (fun f => wS S l f = 2 ^ (l + 1)) i))), some (.int (nI i))] [] (LAY, m) (qm_ LAY (pu_ (nI (cnt (fun f => wS S l f = 2 ^ (l + 1)) 6)) m)) := by
  refine ind_ (fun i hi ih => ?_)
  have hc := cnt_le (f := (fun f => wS S l f = 2 ^ (l + 1))) i
  refine Y_iload_n 4 rfl (pc2 := 5) rfl rfl ?_
  refine Y_bipush 5 rfl (pc2 := 7) rfl (v := nI 6) (by decide) ?_
  refine Y_icmp_gen 6 rfl (pc2 := 10) rfl (tgt := 31) (by decide) (by omega) (by omega) (fun h7 => ?_) (fun h7 => ?_)
  · refine Y_iload_n 16 rfl (pc2 := 32) rfl rfl ?_
    refine Y_iret 17 rfl rfl rfl ⟨rfl, ?_⟩
    exact pu_i (by rw [show i = 6 by omega])
  · refine Y_aload_n 7 rfl (pc2 := 11) rfl rfl ?_
    refine Y_getR 8 rfl (pc2 := 14) rfl fl_le_11 (ly_le (by omega)) (by decide) rfl rfl (by omega) ?_
    refine Y_iload_n 9 rfl (pc2 := 15) rfl rfl ?_
    refine Y_aald 10 rfl (pc2 := 16) rfl (ly_leF (by omega)) (by decide) (fun _ => rfl) rfl (by omega) (by decide) (ly_leF_at (by omega)) (by omega) ?_
    refine Y_cV 11 rfl (pc2 := 19) rfl ok_fi_isRight lk_le_33 vi_fi_isRight (ly_fi (by omega) (by omega)) rfl (by decide) rfl (as := []) (rest := []) rfl rfl (T_fi_isRight h w (by omega) (by omega)) ?_
    rintro _ _ ⟨rfl, rfl⟩
    change Y _ _ _ _ _ [.int _] _ _
    refine Y_if_eqb 12 rfl (pc2 := 22) rfl (tgt := 25) (by decide) (fun h19 => ?_) (fun h19 => ?_)
    · refine Y_iinc 14 rfl (pc2 := 28) rfl rfl (nI_inc _ 1) (ls2 := [some (.ref _), some (.int _), some (.int _)]) rfl ?_
      refine Y_goto 15 rfl (pc2 := 4) (by decide) ?_
      first | exact Y_ls (by rw [cnt_t (f := (fun f => wS S l f = 2 ^ (l + 1))) h19]) (ih (i + 1) (by omega) (by omega)) | exact Y_ls (by rw [cnt_f (f := (fun f => wS S l f = 2 ^ (l + 1))) h19]) (ih (i + 1) (by omega) (by omega))
    · refine Y_iinc 13 rfl (pc2 := 25) rfl rfl (nI_inc _ 1) (ls2 := [some (.ref _), some (.int _), some (.int _)]) rfl ?_
      refine Y_iinc 14 rfl (pc2 := 28) rfl rfl (nI_inc _ 1) (ls2 := [some (.ref _), some (.int _), some (.int _)]) rfl ?_
      refine Y_goto 15 rfl (pc2 := 4) (by decide) ?_
      first | exact Y_ls (by rw [cnt_t (f := (fun f => wS S l f = 2 ^ (l + 1))) h19]) (ih (i + 1) (by omega) (by omega)) | exact Y_ls (by rw [cnt_f (f := (fun f => wS S l f = 2 ^ (l + 1))) h19]) (ih (i + 1) (by omega) (by omega))

set_option maxHeartbeats 400000 in
theorem T_le_countRight {G : Nat × (Nat → Int32)} {m : Mm} {S : Mm} (h : RC m S) (w : WF S) {l : Nat} (hl : l < 4) : Y G M_le_countRight (0, 0) 0 (en_ M_le_countRight [.ref (41 + 27 * l)]) [] (LAY, m) (qm_ LAY (pu_ (nI (cnt (fun f => wS S l f = 2 ^ (l + 1)) 6)) m)) := by
  change Y _ _ _ _ [some (.ref _), none, none] _ _ _
  refine Y_iconst 0 rfl (pc2 := 1) rfl (v := nI 0) (by decide) ?_
  refine Y_istore_n 1 rfl (pc2 := 2) rfl (Nat.le_of_ble_eq_true rfl) (ls2 := [some (.ref _), some (.int _), none]) rfl ?_
  refine Y_iconst 2 rfl (pc2 := 3) rfl (v := nI 0) (by decide) ?_
  refine Y_istore_n 3 rfl (pc2 := 4) rfl (Nat.le_of_ble_eq_true rfl) (ls2 := [some (.ref _), some (.int _), some (.int _)]) rfl ?_
  exact L_countRight h w hl 0 (by omega)

set_option maxHeartbeats 400000 in
theorem T_sh_isMissing {G : Nat × (Nat → Int32)} {m : Mm} {S : Mm} (h : RC m S) (w : WF S) {s : Nat} (hs : s < 2) : Y G M_sh_isMissing (0, 0) 0 (en_ M_sh_isMissing [.ref (149 + 2 * s)]) [] (LAY, m) (qm_ LAY (pu_ (bI (S 165 s = -1)) m)) := by
  change Y _ _ _ _ [some (.ref _)] _ _ _
  refine Y_aload_n 0 rfl (pc2 := 1) rfl rfl ?_
  refine Y_getI 1 rfl (pc2 := 4) rfl fl_sh_15 (ly_sh (by omega)) (by decide) rfl ?_
  refine Y_top (h.sp s hs) ?_
  refine Y_iconst 2 rfl (pc2 := 5) rfl (v := -1) (by decide) ?_
  refine Y_icmp_ne 3 rfl (pc2 := 8) rfl (tgt := 12) (by decide) (fun h5 => ?_) (fun h5 => ?_)
  · refine Y_iconst 6 rfl (pc2 := 13) rfl (v := nI 0) (by decide) ?_
    refine Y_iret 7 rfl rfl rfl ⟨rfl, ?_⟩
    first | exact pu_t h5 | exact pu_f h5
  · refine Y_iconst 4 rfl (pc2 := 9) rfl (v := nI 1) (by decide) ?_
    refine Y_goto 5 rfl (pc2 := 13) (by decide) ?_
    refine Y_iret 7 rfl rfl rfl ⟨rfl, ?_⟩
    first | exact pu_t h5 | exact pu_f h5

set_option maxHeartbeats 400000 in
theorem T_gh_hasBeat {G : Nat × (Nat → Int32)} {m : Mm} {S : Mm} (h : RC m S) (w : WF S) {x y : Int32} : Y G M_gh_hasBeat (0, 0) 0 (en_ M_gh_hasBeat [.ref (0), .int (x), .int (y)]) [] (LAY, m) (qm_ LAY (pu_ (bI (iR x 4 ∧ iR y (bt S (nv x)))) m)) := by
  change Y _ _ _ _ [some (.ref _), some (.int _), some (.int _)] _ _ _
  refine Y_iload_n 0 rfl (pc2 := 1) rfl rfl ?_
  refine Y_iconst 1 rfl (pc2 := 2) rfl (v := nI 4) (by decide) ?_
  refine Y_cS 2 rfl (pc2 := 5) rfl ok_gh_isBelow lk_gh_80 vs_gh_isBelow (as := [.int _, .int _]) (rest := []) rfl rfl (T_gh_isBelow (by omega)) ?_
  rintro _ _ ⟨rfl, rfl⟩
  change Y _ _ _ _ _ [.int _] _ _
  refine Y_if_eqb 3 rfl (pc2 := 8) rfl (tgt := 28) (by decide) (fun h5 => ?_) (fun h5 => ?_)
  · refine Y_iconst 14 rfl (pc2 := 29) rfl (v := nI 0) (by decide) ?_
    refine Y_iret 15 rfl rfl rfl ⟨rfl, ?_⟩
    first
      | exact pu_f (fun e => h5 e.1)
      | exact pu_t ⟨⟨c, hc, rfl⟩, by rw [nv_nI (by omega)]; exact h21⟩
      | exact pu_f (fun e => h21 (by have := e.2; rw [nv_nI (by omega)] at this; exact this))
  · obtain ⟨c, hc, rfl⟩ := h5
    have hn := (w.b c hc).2
    refine Y_iload_n 4 rfl (pc2 := 9) rfl rfl ?_
    refine Y_aload_n 5 rfl (pc2 := 10) rfl rfl ?_
    refine Y_getR 6 rfl (pc2 := 13) rfl fl_gh_25 ly_gh (by decide) rfl rfl (by omega) ?_
    refine Y_iload_n 7 rfl (pc2 := 14) rfl rfl ?_
    refine Y_aald 8 rfl (pc2 := 15) rfl ly_ghC (by decide) (fun _ => rfl) rfl (by omega) (by decide) (ly_ghC_at (by omega)) (by omega) ?_
    refine Y_getI 9 rfl (pc2 := 18) rfl fl_gh_270 (ly_ci (by omega)) (by decide) rfl ?_
    refine Y_top ((h.b _ (by omega)).trans (w.b _ (by omega)).1) ?_
    refine Y_cS 10 rfl (pc2 := 21) rfl ok_gh_isBelow lk_gh_80 vs_gh_isBelow (as := [.int _, .int _]) (rest := []) rfl rfl (T_gh_isBelow (by omega)) ?_
    rintro _ _ ⟨rfl, rfl⟩
    change Y _ _ _ _ _ [.int _] _ _
    refine Y_if_eqb 11 rfl (pc2 := 24) rfl (tgt := 28) (by decide) (fun h21 => ?_) (fun h21 => ?_)
    · refine Y_iconst 14 rfl (pc2 := 29) rfl (v := nI 0) (by decide) ?_
      refine Y_iret 15 rfl rfl rfl ⟨rfl, ?_⟩
      first
        | exact pu_f (fun e => h5 e.1)
        | exact pu_t ⟨⟨c, hc, rfl⟩, by rw [nv_nI (by omega)]; exact h21⟩
        | exact pu_f (fun e => h21 (by have := e.2; rw [nv_nI (by omega)] at this; exact this))
    · refine Y_iconst 12 rfl (pc2 := 25) rfl (v := nI 1) (by decide) ?_
      refine Y_goto 13 rfl (pc2 := 29) (by decide) ?_
      refine Y_iret 15 rfl rfl rfl ⟨rfl, ?_⟩
      first
        | exact pu_f (fun e => h5 e.1)
        | exact pu_t ⟨⟨c, hc, rfl⟩, by rw [nv_nI (by omega)]; exact h21⟩
        | exact pu_f (fun e => h21 (by have := e.2; rw [nv_nI (by omega)] at this; exact this))

set_option maxHeartbeats 400000 in
theorem T_gh_hasStep {G : Nat × (Nat → Int32)} {m : Mm} {S : Mm} (h : RC m S) (w : WF S) {x y z : Int32} : Y G M_gh_hasStep (0, 0) 0 (en_ M_gh_hasStep [.ref (0), .int (x), .int (y), .int (z)]) [] (LAY, m) (qm_ LAY (pu_ (bI ((iR x 4 ∧ iR y 6) ∧ iR z (2 ^ (nv x + 1)))) m)) := by
  change Y _ _ _ _ [some (.ref _), some (.int _), some (.int _), some (.int _)] _ _ _
  refine Y_iload_n 0 rfl (pc2 := 1) rfl rfl ?_
  refine Y_iload_n 1 rfl (pc2 := 2) rfl rfl ?_
  refine Y_cS 2 rfl (pc2 := 5) rfl ok_gh_hasFigure lk_gh_127 vs_gh_hasFigure (as := [.int _, .int _]) (rest := []) rfl rfl T_gh_hasFigure ?_
  rintro _ _ ⟨rfl, rfl⟩
  change Y _ _ _ _ _ [.int _] _ _
  refine Y_if_eqb 3 rfl (pc2 := 8) rfl (tgt := 28) (by decide) (fun h5 => ?_) (fun h5 => ?_)
  · refine Y_iconst 14 rfl (pc2 := 29) rfl (v := nI 0) (by decide) ?_
    refine Y_iret 15 rfl rfl rfl ⟨rfl, ?_⟩
    first
      | exact pu_f (fun e => h5 e.1)
      | exact pu_t ⟨⟨⟨l, hl, rfl⟩, hy⟩, by rw [nv_nI (by omega)]; exact h21⟩
      | exact pu_f (fun e => h21 (by have := e.2; rw [nv_nI (by omega)] at this; exact this))
  · obtain ⟨⟨l, hl, rfl⟩, hy⟩ := h5
    have hz := sz_16 hl
    refine Y_iload_n 4 rfl (pc2 := 9) rfl rfl ?_
    refine Y_aload_n 5 rfl (pc2 := 10) rfl rfl ?_
    refine Y_getR 6 rfl (pc2 := 13) rfl fl_gh_31 ly_gh (by decide) rfl rfl (by omega) ?_
    refine Y_iload_n 7 rfl (pc2 := 14) rfl rfl ?_
    refine Y_aald 8 rfl (pc2 := 15) rfl ly_ghL (by decide) (fun _ => rfl) rfl (by omega) (by decide) (ly_ghL_at (by omega)) (by omega) ?_
    refine Y_getI 9 rfl (pc2 := 18) rfl fl_gh_138 (ly_le (by omega)) (by decide) rfl ?_
    refine Y_top (h.l _ (by omega)) ?_
    refine Y_cS 10 rfl (pc2 := 21) rfl ok_gh_isBelow lk_gh_80 vs_gh_isBelow (as := [.int _, .int _]) (rest := []) rfl rfl (T_gh_isBelow (by omega)) ?_
    rintro _ _ ⟨rfl, rfl⟩
    change Y _ _ _ _ _ [.int _] _ _
    refine Y_if_eqb 11 rfl (pc2 := 24) rfl (tgt := 28) (by decide) (fun h21 => ?_) (fun h21 => ?_)
    · refine Y_iconst 14 rfl (pc2 := 29) rfl (v := nI 0) (by decide) ?_
      refine Y_iret 15 rfl rfl rfl ⟨rfl, ?_⟩
      first
        | exact pu_f (fun e => h5 e.1)
        | exact pu_t ⟨⟨⟨l, hl, rfl⟩, hy⟩, by rw [nv_nI (by omega)]; exact h21⟩
        | exact pu_f (fun e => h21 (by have := e.2; rw [nv_nI (by omega)] at this; exact this))
    · refine Y_iconst 12 rfl (pc2 := 25) rfl (v := nI 1) (by decide) ?_
      refine Y_goto 13 rfl (pc2 := 29) (by decide) ?_
      refine Y_iret 15 rfl rfl rfl ⟨rfl, ?_⟩
      first
        | exact pu_f (fun e => h5 e.1)
        | exact pu_t ⟨⟨⟨l, hl, rfl⟩, hy⟩, by rw [nv_nI (by omega)]; exact h21⟩
        | exact pu_f (fun e => h21 (by have := e.2; rw [nv_nI (by omega)] at this; exact this))
end
section
/-! the class: keys, sums, the walk through a piece -/
def su (f : Nat → Nat) : Nat → Nat
  | 0 => 0
  | n + 1 => su f n + f n
set_option maxHeartbeats 400000 in
theorem su_congr {f g : Nat → Nat} : ∀ n, (∀ i, i < n → f i = g i) → su f n = su g n
  | 0, _ => rfl
  | n + 1, h => by
    show su f n + f n = su g n + g n
    rw [su_congr n (fun i hi => h i (by omega)), h n (by omega)]
set_option maxHeartbeats 400000 in
theorem su_le {f : Nat → Nat} {B : Nat} : ∀ n, (∀ i, i < n → f i ≤ B) → su f n ≤ n * B
  | 0, _ => by simp [su]
  | n + 1, h => by
    have h1 := su_le n (fun i hi => h i (by omega))
    have h2 := h n (by omega)
    show su f n + f n ≤ (n + 1) * B
    rw [Nat.succ_mul]; omega
set_option maxHeartbeats 400000 in
theorem su_mono {f : Nat → Nat} {a : Nat} : ∀ n, a ≤ n → su f a ≤ su f n
  | 0, h => by rw [show a = 0 by omega]; exact Nat.le_refl _
  | n + 1, h => by
    by_cases e : a = n + 1
    · rw [e]; exact Nat.le_refl _
    · have := su_mono (f := f) (a := a) n (by omega)
      show su f a ≤ su f n + f n
      omega
def kA (S : Mm) (c l g b s : Nat) : Int32 := if S 157 (ix l (us S l (turn S c b)) g s) = -9 then NONE_ else ky (tone S c b) (S 157 (ix l (us S l (turn S c b)) g s))
def kH (S : Mm) (c l g b : Nat) : Nat → Int32
  | 0 => NONE_
  | s + 1 => if kA S c l g b s = NONE_ then kH S c l g b s else kA S c l g b s
def ov (S : Mm) (p l : Nat) : Nat := if S 162 p < 0 then l else nv (S 162 p)
def sg (S : Mm) (r l : Nat) : Nat := if S 163 r < 0 then l else nv (S 163 r)
/-- part, its first round, level and tick at a round's beginning -/
def Wk (S : Mm) : Nat → Nat × Nat × Nat × Nat
  | 0 => (0, 0, ov S 0 0, 0)
  | r + 1 => if r + 1 = (Wk S r).2.1 + pT S (Wk S r).1 then ((Wk S r).1 + 1, r + 1, ov S ((Wk S r).1 + 1) (sg S r (Wk S r).2.2.1), (Wk S r).2.2.2 + bt S (pC S (Wk S r).1) * (32 * 2 ^ (Wk S r).2.2.1))
    else ((Wk S r).1, (Wk S r).2.1, sg S r (Wk S r).2.2.1, (Wk S r).2.2.2 + bt S (pC S (Wk S r).1) * (32 * 2 ^ (Wk S r).2.2.1))
def wp (S : Mm) (r : Nat) : Nat := (Wk S r).1
def wf (S : Mm) (r : Nat) : Nat := (Wk S r).2.1
def wl (S : Mm) (r : Nat) : Nat := (Wk S r).2.2.1
def wt (S : Mm) (r : Nat) : Nat := (Wk S r).2.2.2
/-- level and tick as a round's end leaves them -/
def plv (S : Mm) : Nat → Nat
  | 0 => 0
  | r + 1 => sg S r (wl S r)
def ptk (S : Mm) : Nat → Nat
  | 0 => 0
  | r + 1 => wt S r + bt S (pC S (wp S r)) * (32 * 2 ^ wl S r)
def rs (S : Mm) (p : Nat) : Nat := su (pT S) p
def tot (S : Mm) : Nat := rs S (pn S)
set_option maxHeartbeats 400000 in
theorem wk_adv {S : Mm} {r : Nat} (h : r + 1 = wf S r + pT S (wp S r)) : wp S (r + 1) = wp S r + 1 ∧ wf S (r + 1) = r + 1 ∧ wl S (r + 1) = ov S (wp S r + 1) (plv S (r + 1)) ∧ wt S (r + 1) = ptk S (r + 1) := by
  have e : Wk S (r + 1) = _ := if_pos h
  unfold wp wf wl wt
  rw [e]
  exact ⟨rfl, rfl, rfl, rfl⟩
set_option maxHeartbeats 400000 in
theorem wk_sta {S : Mm} {r : Nat} (h : ¬ r + 1 = wf S r + pT S (wp S r)) : wp S (r + 1) = wp S r ∧ wf S (r + 1) = wf S r ∧ wl S (r + 1) = plv S (r + 1) ∧ wt S (r + 1) = ptk S (r + 1) := by
  have e : Wk S (r + 1) = _ := if_neg h
  unfold wp wf wl wt
  rw [e]
  exact ⟨rfl, rfl, rfl, rfl⟩
set_option maxHeartbeats 400000 in
theorem wt_is {S : Mm} : ∀ r, wt S r = ptk S r
  | 0 => rfl
  | r + 1 => by
    by_cases h : r + 1 = wf S r + pT S (wp S r)
    · exact (wk_adv h).2.2.2
    · exact (wk_sta h).2.2.2
set_option maxHeartbeats 400000 in
theorem rs_s {S : Mm} {p : Nat} : rs S (p + 1) = rs S p + pT S p := rfl
set_option maxHeartbeats 400000 in
theorem wk_at {S : Mm} (w : WF S) : ∀ p, p < pn S → ∀ k, k < pT S p → wp S (rs S p + k) = p ∧ wf S (rs S p + k) = rs S p ∧ wl S (rs S p + k) = (if k = 0 then ov S p (plv S (rs S p)) else plv S (rs S p + k)) := by
  have step : ∀ p, p < pn S → (wp S (rs S p) = p ∧ wf S (rs S p) = rs S p ∧ wl S (rs S p) = ov S p (plv S (rs S p))) → ∀ k, k < pT S p → wp S (rs S p + k) = p ∧ wf S (rs S p + k) = rs S p ∧ wl S (rs S p + k) = (if k = 0 then ov S p (plv S (rs S p)) else plv S (rs S p + k)) := by
    intro p hp h0 k
    induction k with
    | zero => intro _; exact h0
    | succ k ih =>
      intro hk
      obtain ⟨a, b, c⟩ := ih (by omega)
      have hn : ¬ rs S p + k + 1 = wf S (rs S p + k) + pT S (wp S (rs S p + k)) := by rw [a, b]; omega
      obtain ⟨d, e, f, g⟩ := wk_sta hn
      refine ⟨d.trans a, e.trans b, ?_⟩
      rw [if_neg (by omega)]
      exact f
  intro p
  induction p with
  | zero => intro hp; exact step 0 hp ⟨rfl, rfl, rfl⟩
  | succ p ih =>
    intro hp
    refine step (p + 1) hp ?_
    have h1 := w.t1 p (by omega)
    obtain ⟨a, b, c⟩ := ih (by omega) (pT S p - 1) (by omega)
    have e : rs S (p + 1) = rs S p + (pT S p - 1) + 1 := by rw [rs_s]; omega
    have hn : rs S p + (pT S p - 1) + 1 = wf S (rs S p + (pT S p - 1)) + pT S (wp S (rs S p + (pT S p - 1))) := by rw [a, b]; omega
    obtain ⟨d, e1, f, g⟩ := wk_adv hn
    rw [e]
    rw [a] at d f
    exact ⟨d, e1, f⟩
set_option maxHeartbeats 400000 in
theorem ov_lt {S : Mm} (w : WF S) {p l : Nat} (hp : p < 16) (hl : l < 4) : ov S p l < 4 := by
  unfold ov
  split
  · exact hl
  · rcases w.l p hp with e | ⟨k, hk, e⟩
    · rename_i h; exact absurd (by rw [e]; decide) h
    · rw [e, nv_nI (by omega)]; exact hk
set_option maxHeartbeats 400000 in
theorem sg_lt {S : Mm} (w : WF S) {r l : Nat} (hp : r < 144) (hl : l < 4) : sg S r l < 4 := by
  unfold sg
  split
  · exact hl
  · rcases w.r r hp with e | ⟨k, hk, e⟩
    · rename_i h; exact absurd (by rw [e]; decide) h
    · rw [e, nv_nI (by omega)]; exact hk
set_option maxHeartbeats 400000 in
theorem rs_le {S : Mm} (w : WF S) {p : Nat} (hp : p ≤ 16) : rs S p ≤ 144 := by
  have := su_le (f := pT S) (B := 9) p (fun i hi => (w.t i (by omega)).2)
  unfold rs
  omega
set_option maxHeartbeats 400000 in
theorem tot_le {S : Mm} (w : WF S) : tot S ≤ 144 := rs_le w w.p.2
set_option maxHeartbeats 400000 in
theorem wp_lt {S : Mm} (w : WF S) : ∀ r, r < tot S → ∃ p k, p < pn S ∧ k < pT S p ∧ r = rs S p + k := by
  intro r hr
  have : ∀ n, r < rs S n → ∃ p k, p < n ∧ k < pT S p ∧ r = rs S p + k := by
    intro n
    induction n with
    | zero => intro h; exact absurd h (by unfold rs su; omega)
    | succ n ih =>
      intro h
      by_cases e : r < rs S n
      · obtain ⟨p, k, a, b, c⟩ := ih e
        exact ⟨p, k, by omega, b, c⟩
      · rw [rs_s] at h
        exact ⟨n, r - rs S n, by omega, by omega, by omega⟩
  exact this _ hr
set_option maxHeartbeats 400000 in
theorem wl_lt {S : Mm} (w : WF S) : ∀ r, r < tot S → wl S r < 4 ∧ wp S r < pn S := by
  intro r
  induction r with
  | zero =>
    intro h
    obtain ⟨p, k, a, b, c⟩ := wp_lt w 0 h
    obtain ⟨d, e, f⟩ := wk_at w p a k b
    rw [← c] at d
    exact ⟨ov_lt w (by omega) (by omega), by omega⟩
  | succ r ih =>
    intro h
    obtain ⟨i1, i2⟩ := ih (by omega)
    obtain ⟨p, k, a, b, c⟩ := wp_lt w (r + 1) h
    obtain ⟨d, e, f⟩ := wk_at w p a k b
    rw [← c] at d f
    have hp := w.p.2
    have ht := tot_le w
    refine ⟨?_, by omega⟩
    rw [f]
    have h1 : plv S (r + 1) < 4 := sg_lt w (by omega) i1
    split
    · rename_i hk
      have : rs S p = r + 1 := by omega
      rw [this]
      exact ov_lt w (by omega) h1
    · exact h1
set_option maxHeartbeats 400000 in
theorem plv_lt {S : Mm} (w : WF S) {r : Nat} (h : r ≤ tot S) : plv S r < 4 := by
  cases r with
  | zero => exact (by decide : 0 < 4)
  | succ r =>
    have ht := tot_le w
    exact sg_lt w (by omega) (wl_lt w r (by omega)).1
def wk (m : Mm) (c l p t : Int32) : Mm := ur_ m 13 (fun k => if k = 0 then c else if k = 1 then l else if k = 2 then p else if k = 3 then t else m 13 k)
set_option maxHeartbeats 400000 in
theorem wk_ne {m : Mm} {c l p t : Int32} {a : Nat} (h : ¬ a = 13) : wk m c l p t a = m a := by
  unfold wk ur_
  exact if_neg h
set_option maxHeartbeats 400000 in
theorem wk_c {m : Mm} {c l p t : Int32} : wk m c l p t 13 0 = c := rfl
set_option maxHeartbeats 400000 in
theorem wk_l {m : Mm} {c l p t : Int32} : wk m c l p t 13 1 = l := rfl
set_option maxHeartbeats 400000 in
theorem wk_p {m : Mm} {c l p t : Int32} : wk m c l p t 13 2 = p := rfl
set_option maxHeartbeats 400000 in
theorem wk_t {m : Mm} {c l p t : Int32} : wk m c l p t 13 3 = t := rfl
set_option maxHeartbeats 400000 in
theorem wk_id {m : Mm} : m = wk m (m 13 0) (m 13 1) (m 13 2) (m 13 3) := by
  funext a k
  by_cases h : a = 13
  · subst h
    show m 13 k = (if k = 0 then m 13 0 else if k = 1 then m 13 1 else if k = 2 then m 13 2 else if k = 3 then m 13 3 else m 13 k)
    split
    · rename_i e; rw [e]
    · split
      · rename_i e; rw [e]
      · split
        · rename_i e; rw [e]
        · split
          · rename_i e; rw [e]
          · rfl
  · rw [wk_ne h]

set_option maxHeartbeats 400000 in
theorem wk_sc {m : Mm} {c l p t v : Int32} : uw_ (wk m c l p t) 13 0 v = wk m v l p t := by
  funext a k
  by_cases h : a = 13
  · subst h
    by_cases hk : k = 0
    · subst hk; simp [uw_, wk, ur_]
    · rw [uw_ne (by omega)]
      simp [wk, ur_, hk]
  · rw [uw_ne (by omega), wk_ne h, wk_ne h]

set_option maxHeartbeats 400000 in
theorem wk_sl {m : Mm} {c l p t v : Int32} : uw_ (wk m c l p t) 13 1 v = wk m c v p t := by
  funext a k
  by_cases h : a = 13
  · subst h
    by_cases hk : k = 1
    · subst hk; simp [uw_, wk, ur_]
    · rw [uw_ne (by omega)]
      simp [wk, ur_, hk]
  · rw [uw_ne (by omega), wk_ne h, wk_ne h]

set_option maxHeartbeats 400000 in
theorem wk_sp {m : Mm} {c l p t v : Int32} : uw_ (wk m c l p t) 13 2 v = wk m c l v t := by
  funext a k
  by_cases h : a = 13
  · subst h
    by_cases hk : k = 2
    · subst hk; simp [uw_, wk, ur_]
    · rw [uw_ne (by omega)]
      simp [wk, ur_, hk]
  · rw [uw_ne (by omega), wk_ne h, wk_ne h]

set_option maxHeartbeats 400000 in
theorem wk_st {m : Mm} {c l p t v : Int32} : uw_ (wk m c l p t) 13 3 v = wk m c l p v := by
  funext a k
  by_cases h : a = 13
  · subst h
    by_cases hk : k = 3
    · subst hk; simp [uw_, wk, ur_]
    · rw [uw_ne (by omega)]
      simp [wk, ur_, hk]
  · rw [uw_ne (by omega), wk_ne h, wk_ne h]

set_option maxHeartbeats 400000 in
theorem wk_wk {m : Mm} {c l p t c2 l2 p2 t2 : Int32} : wk (wk m c l p t) c2 l2 p2 t2 = wk m c2 l2 p2 t2 := by
  funext a k
  by_cases h : a = 13
  · subst h
    show (if k = 0 then c2 else if k = 1 then l2 else if k = 2 then p2 else if k = 3 then t2 else wk m c l p t 13 k) = (if k = 0 then c2 else if k = 1 then l2 else if k = 2 then p2 else if k = 3 then t2 else m 13 k)
    split
    · rfl
    · split
      · rfl
      · split
        · rfl
        · split
          · rfl
          · show (if k = 0 then c else if k = 1 then l else if k = 2 then p else if k = 3 then t else m 13 k) = m 13 k
            simp [*]
  · rw [wk_ne h, wk_ne h, wk_ne h]
set_option maxHeartbeats 400000 in
theorem RC_wk {m S : Mm} {c l p t : Int32} (h : RC m S) : RC (wk m c l p t) S := h.mono (fun a h1 _ => wk_ne (by intro e; subst e; exact h1 (by unfold scr; omega)))
def pW (m S : Mm) (x : Int32) : Option Value → Mm → Prop := fun v m' => (∃ r, r < tot S ∧ x = nI r ∧ v = some (.int (nI 1)) ∧ m' = wk m (nI (pC S (wp S r))) (nI (wl S r)) (nI (wp S r)) (nI (wt S r))) ∨ (¬ iR x (tot S) ∧ v = some (.int (nI 0)) ∧ ∃ c l p, m' = wk m c l p (nI (ptk S (tot S))))
set_option maxHeartbeats 400000 in
theorem oC_or {x : Int32} (hx : oR x 4) {l : Nat} : (if oC x = NONE_ then nI l else oC x) = nI (if x < 0 then l else nv x) := by
  rcases hx with rfl | ⟨k, hk, rfl⟩
  · rfl
  · have h1 : ¬ nI k < 0 := nI_pos (by omega)
    rw [oC_id h1, if_neg h1, if_neg (nI_none (by omega)), nv_nI (by omega)]

set_option maxHeartbeats 400000 in
theorem T_gh_keyAt {G : Nat × (Nat → Int32)} {m : Mm} {S : Mm} (h : RC m S) (w : WF S) {c l g b : Nat} (hc : c < 4) (hl : l < 4) (hg : g < 2) (hb : b < bt S c) {s : Nat} (hs : s < 2 ^ (l + 1)) : Y G M_gh_keyAt (0, 0) 0 (en_ M_gh_keyAt [.ref (21 + 5 * c), .ref (41 + 27 * l), .int (nI g), .int (nI b), .int (nI s)]) [] (LAY, m) (qm_ LAY (pu_ (kA S c l g b s) m)) := by
  change Y _ _ _ _ [some (.ref _), some (.ref _), some (.int _), some (.int _), some (.int _), none] _ _ _
  have hn := (w.b c hc).2
  have hu := (w.u l (turn S c b) hl turn_lt).2
  have hr := h.r l _ g s hl hu hg hs
  have hq := oS_none (w.s (ix l (us S l (turn S c b)) g s) (by have := sz_16 hl; unfold ix; omega))
  refine Y_aload_n 0 rfl (pc2 := 1) rfl rfl ?_
  refine Y_aload_n 1 rfl (pc2 := 2) rfl rfl ?_
  refine Y_iload_n 2 rfl (pc2 := 3) rfl rfl ?_
  refine Y_cV 3 rfl (pc2 := 6) rfl ok_le_figureFor lk_gh_274 vi_le_figureFor (ly_le (by omega)) rfl (by decide) rfl (as := [.ref _, .int _]) (rest := []) rfl rfl (T_le_figureFor h w (by omega) (by omega) (by omega)) ?_
  rintro _ _ ⟨rfl, rfl⟩
  change Y _ _ _ _ _ [.ref _] _ _
  refine Y_iload_n 4 rfl (pc2 := 7) rfl rfl ?_
  refine Y_cV 5 rfl (pc2 := 10) rfl ok_fi_rowOf lk_gh_121 vi_fi_rowOf (ly_fi (by omega) (by omega)) rfl (by decide) rfl (as := [.int _]) (rest := []) rfl rfl (T_fi_rowOf (by omega) (by omega) (by omega)) ?_
  rintro _ _ ⟨rfl, rfl⟩
  change Y _ _ _ _ _ [.ref _] _ _
  refine Y_iload 6 rfl (pc2 := 12) rfl rfl ?_
  refine Y_iald 7 rfl (pc2 := 13) rfl (ly_fiR (by omega) (by omega) (by omega)) rfl (by omega) (sz_lt (by omega)) ?_
  refine Y_top (hr) ?_
  refine Y_istore 8 rfl (pc2 := 15) rfl (Nat.le_of_ble_eq_true rfl) (ls2 := [some (.ref _), some (.ref _), some (.int _), some (.int _), some (.int _), some (.int _)]) rfl ?_
  refine Y_iload 9 rfl (pc2 := 17) rfl rfl ?_
  refine Y_ldc 10 rfl (pc2 := 19) rfl kc_gh_84 ?_
  refine Y_icmp_ne 11 rfl (pc2 := 22) rfl (tgt := 27) (by decide) (fun h19 => ?_) (fun h19 => ?_)
  · refine Y_aload_n 14 rfl (pc2 := 28) rfl rfl ?_
    refine Y_getR 15 rfl (pc2 := 31) rfl fl_gh_100 (ly_ci (by omega)) (by decide) rfl rfl (by omega) ?_
    refine Y_iload_n 16 rfl (pc2 := 32) rfl rfl ?_
    refine Y_iald 17 rfl (pc2 := 33) rfl (ly_ciT (by omega)) rfl (by omega) (by decide) ?_
    refine Y_top (h.t c b hc hb) ?_
    refine Y_iload 18 rfl (pc2 := 35) rfl rfl ?_
    refine Y_cS 19 rfl (pc2 := 38) rfl ok_gh_keyOf lk_gh_278 vs_gh_keyOf (as := [.int _, .int _]) (rest := []) rfl rfl T_gh_keyOf ?_
    rintro _ _ ⟨rfl, rfl⟩
    change Y _ _ _ _ _ [.int _] _ _
    refine Y_iret 20 rfl rfl rfl ⟨rfl, ?_⟩
    first
      | exact pu_i (by unfold kA; rw [if_pos (hq.mp (Classical.byContradiction h19))]; rfl)
      | exact pu_i (by unfold kA; rw [if_pos (hq.mp h19)]; rfl)
      | exact pu_i (by unfold kA; have e := mt hq.mpr h19; rw [if_neg e]; unfold oS; rw [if_neg e])
  · refine Y_ldc 12 rfl (pc2 := 24) rfl kc_gh_84 ?_
    refine Y_goto 13 rfl (pc2 := 38) (by decide) ?_
    refine Y_iret 20 rfl rfl rfl ⟨rfl, ?_⟩
    first
      | exact pu_i (by unfold kA; rw [if_pos (hq.mp (Classical.byContradiction h19))]; rfl)
      | exact pu_i (by unfold kA; rw [if_pos (hq.mp h19)]; rfl)
      | exact pu_i (by unfold kA; have e := mt hq.mpr h19; rw [if_neg e]; unfold oS; rw [if_neg e])

set_option maxHeartbeats 400000 in
theorem Y_Q {G : Nat × (Nat → Int32)} {M : Mi} {cap : Nat × Nat} {pc : Nat} {ls : List (Option Value)} {st : List Value} {σ : Sg} {lay : Ly} {P P2 : Option Value → Mm → Prop} (he : P2 = P) (k : Y G M cap pc ls st σ (qm_ lay P)) : Y G M cap pc ls st σ (qm_ lay P2) := he ▸ k
set_option maxHeartbeats 400000 in
theorem L_keyAhead {G : Nat × (Nat → Int32)} {m : Mm} {S : Mm} (h : RC m S) (w : WF S) {c l g b : Nat} (hc : c < 4) (hl : l < 4) (hg : g < 2) (hb : b < bt S c) {z : Int32} : ∀ s, s ≤ 2 ^ (l + 1) → ∀ (u : Option Value), Y G M_gh_keyAhead (0, 0) 6 [some (.ref (21 + 5 * c)), some (.ref (41 + 27 * l)), some (.int (nI g)), some (.int (nI b)), some (.int z), some (.int (nI s - nI 1)), u] [] (LAY, m) (qm_ LAY (pu_ (kH S c l g b s) m)) := by
  have hn := (w.b c hc).2
  have hz := sz_16 hl
  intro s
  induction s with
  | zero =>
    intro _ u
    refine Y_iload 4 rfl (pc2 := 8) rfl rfl ?_
    refine Y_if_lt 5 rfl (pc2 := 11) rfl (tgt := 38) (by decide) (fun h8 => ?_) (fun h8 => ?_)
    · refine Y_ldc 20 rfl (pc2 := 40) rfl kc_gh_84 ?_
      refine Y_iret 21 rfl rfl rfl ⟨rfl, ?_⟩
      exact pu_i rfl
    · exact absurd (by decide) h8
  | succ k ih =>
    intro hk u
    rw [show nI (k + 1) - nI 1 = nI k from nI_pred k]
    refine Y_iload 4 rfl (pc2 := 8) rfl rfl ?_
    refine Y_if_ltn 5 rfl (pc2 := 11) rfl (tgt := 38) (by decide) (by omega) ?_
    refine Y_aload_n 6 rfl (pc2 := 12) rfl rfl ?_
    refine Y_aload_n 7 rfl (pc2 := 13) rfl rfl ?_
    refine Y_iload_n 8 rfl (pc2 := 14) rfl rfl ?_
    refine Y_iload_n 9 rfl (pc2 := 15) rfl rfl ?_
    refine Y_iload 10 rfl (pc2 := 17) rfl rfl ?_
    refine Y_cS 11 rfl (pc2 := 20) rfl ok_gh_keyAt lk_gh_206 vs_gh_keyAt (as := [.ref _, .ref _, .int _, .int _, .int _]) (rest := []) rfl rfl (T_gh_keyAt h w (by omega) (by omega) (by omega) (by omega) (by omega)) ?_
    rintro _ _ ⟨rfl, rfl⟩
    change Y _ _ _ _ _ [.int _] _ _
    refine Y_istore 12 rfl (pc2 := 22) rfl (Nat.le_of_ble_eq_true rfl) (ls2 := [some (.ref _), some (.ref _), some (.int _), some (.int _), some (.int _), some (.int _), some (.int _)]) rfl ?_
    refine Y_iload 13 rfl (pc2 := 24) rfl rfl ?_
    refine Y_ldc 14 rfl (pc2 := 26) rfl kc_gh_84 ?_
    refine Y_icmp_eq 15 rfl (pc2 := 29) rfl (tgt := 32) (by decide) (fun h26 => ?_) (fun h26 => ?_)
    · refine Y_iinc 18 rfl (pc2 := 35) rfl rfl rfl (ls2 := [some (.ref _), some (.ref _), some (.int _), some (.int _), some (.int _), some (.int _), some (.int _)]) rfl ?_
      refine Y_goto 19 rfl (pc2 := 6) (by decide) ?_
      exact Y_ls (by rw [nI_m1]) (Y_Q (congrArg (fun q => pu_ q m) (if_pos h26)) (ih (by omega) _))
    · refine Y_iload 16 rfl (pc2 := 31) rfl rfl ?_
      refine Y_iret 17 rfl rfl rfl ⟨rfl, ?_⟩
      exact pu_i (if_neg h26).symm

set_option maxHeartbeats 400000 in
theorem T_gh_keyAhead {G : Nat × (Nat → Int32)} {m : Mm} {S : Mm} (h : RC m S) (w : WF S) {c l g b : Nat} (hc : c < 4) (hl : l < 4) (hg : g < 2) (hb : b < bt S c) {s : Nat} (hs : s ≤ 2 ^ (l + 1)) : Y G M_gh_keyAhead (0, 0) 0 (en_ M_gh_keyAhead [.ref (21 + 5 * c), .ref (41 + 27 * l), .int (nI g), .int (nI b), .int (nI s)]) [] (LAY, m) (qm_ LAY (pu_ (kH S c l g b s) m)) := by
  change Y _ _ _ _ [some (.ref _), some (.ref _), some (.int _), some (.int _), some (.int _), none, none] _ _ _
  refine Y_iload 0 rfl (pc2 := 2) rfl rfl ?_
  refine Y_iconst 1 rfl (pc2 := 3) rfl (v := nI 1) (by decide) ?_
  refine Y_isub 2 rfl (pc2 := 4) rfl ?_
  refine Y_istore 3 rfl (pc2 := 6) rfl (Nat.le_of_ble_eq_true rfl) (ls2 := [some (.ref _), some (.ref _), some (.int _), some (.int _), some (.int _), some (.int _), none]) rfl ?_
  exact L_keyAhead h w hc hl hg hb s hs _

set_option maxHeartbeats 400000 in
theorem L_halfStrikes {G : Nat × (Nat → Int32)} {m : Mm} {S : Mm} (h : RC m S) (w : WF S) {c l g : Nat} (hc : c < 4) (hl : l < 4) (hg : g < 2) : ∀ i, i ≤ bt S c → Y G M_gh_halfStrikes (0, 0) 5 [some (.ref (21 + 5 * c)), some (.ref (41 + 27 * l)), some (.int (nI g)), some (.int (nI (su (fun b => cnt (fun s => ¬ S 157 (ix l (us S l (turn S c b)) g s) = -9) (2 ^ (l + 1))) i))), some (.int (nI i))] [] (LAY, m) (qm_ LAY (pu_ (nI (su (fun b => cnt (fun s => ¬ S 157 (ix l (us S l (turn S c b)) g s) = -9) (2 ^ (l + 1))) (bt S c))) m)) := by
  have hn := (w.b c hc).2
  refine ind_ (fun i hi ih => ?_)
  refine Y_iload 4 rfl (pc2 := 7) rfl rfl ?_
  refine Y_aload_n 5 rfl (pc2 := 8) rfl rfl ?_
  refine Y_getI 6 rfl (pc2 := 11) rfl fl_gh_270 (ly_ci (by omega)) (by decide) rfl ?_
  refine Y_top ((h.b _ (by omega)).trans (w.b _ (by omega)).1) ?_
  refine Y_icmp_gen 7 rfl (pc2 := 14) rfl (tgt := 34) (by decide) (by omega) (by omega) (fun h11 => ?_) (fun h11 => ?_)
  · refine Y_iload_n 19 rfl (pc2 := 35) rfl rfl ?_
    refine Y_iret 20 rfl rfl rfl ⟨rfl, ?_⟩
    exact pu_i (by rw [show i = bt S c by omega])
  · refine Y_iload_n 8 rfl (pc2 := 15) rfl rfl ?_
    refine Y_aload_n 9 rfl (pc2 := 16) rfl rfl ?_
    refine Y_aload_n 10 rfl (pc2 := 17) rfl rfl ?_
    refine Y_iload 11 rfl (pc2 := 19) rfl rfl ?_
    refine Y_cV 12 rfl (pc2 := 22) rfl ok_le_figureFor lk_gh_274 vi_le_figureFor (ly_le (by omega)) rfl (by decide) rfl (as := [.ref _, .int _]) (rest := [.int _]) rfl rfl (T_le_figureFor h w (by omega) (by omega) (by omega)) ?_
    rintro _ _ ⟨rfl, rfl⟩
    change Y _ _ _ _ _ [.ref _, .int _] _ _
    have hu := (w.u l (turn S c i) hl turn_lt).2
    refine Y_iload_n 13 rfl (pc2 := 23) rfl rfl ?_
    refine Y_cV 14 rfl (pc2 := 26) rfl ok_fi_strikesOf lk_gh_146 vi_fi_strikesOf (ly_fi (by omega) (by omega)) rfl (by decide) rfl (as := [.int _]) (rest := [.int _]) rfl rfl (T_fi_strikesOf h w (by omega) (by omega) (by omega)) ?_
    rintro _ _ ⟨rfl, rfl⟩
    change Y _ _ _ _ _ [.int _, .int _] _ _
    refine Y_iadd 15 rfl (pc2 := 27) rfl ?_
    refine Y_top (nI_add _ _) ?_
    refine Y_istore_n 16 rfl (pc2 := 28) rfl (Nat.le_of_ble_eq_true rfl) (ls2 := [some (.ref _), some (.ref _), some (.int _), some (.int _), some (.int _)]) rfl ?_
    refine Y_iinc 17 rfl (pc2 := 31) rfl rfl (nI_inc _ 1) (ls2 := [some (.ref _), some (.ref _), some (.int _), some (.int _), some (.int _)]) rfl ?_
    refine Y_goto 18 rfl (pc2 := 5) (by decide) ?_
    exact ih (i + 1) (by omega) (by omega)

set_option maxHeartbeats 400000 in
theorem T_gh_halfStrikes {G : Nat × (Nat → Int32)} {m : Mm} {S : Mm} (h : RC m S) (w : WF S) {c l g : Nat} (hc : c < 4) (hl : l < 4) (hg : g < 2) : Y G M_gh_halfStrikes (0, 0) 0 (en_ M_gh_halfStrikes [.ref (21 + 5 * c), .ref (41 + 27 * l), .int (nI g)]) [] (LAY, m) (qm_ LAY (pu_ (nI (su (fun b => cnt (fun s => ¬ S 157 (ix l (us S l (turn S c b)) g s) = -9) (2 ^ (l + 1))) (bt S c))) m)) := by
  change Y _ _ _ _ [some (.ref _), some (.ref _), some (.int _), none, none] _ _ _
  refine Y_iconst 0 rfl (pc2 := 1) rfl (v := nI 0) (by decide) ?_
  refine Y_istore_n 1 rfl (pc2 := 2) rfl (Nat.le_of_ble_eq_true rfl) (ls2 := [some (.ref _), some (.ref _), some (.int _), some (.int _), none]) rfl ?_
  refine Y_iconst 2 rfl (pc2 := 3) rfl (v := nI 0) (by decide) ?_
  refine Y_istore 3 rfl (pc2 := 5) rfl (Nat.le_of_ble_eq_true rfl) (ls2 := [some (.ref _), some (.ref _), some (.int _), some (.int _), some (.int _)]) rfl ?_
  exact L_halfStrikes h w hc hl hg 0 (Nat.zero_le _)

set_option maxHeartbeats 400000 in
theorem L_countRounds {G : Nat × (Nat → Int32)} {m : Mm} {S : Mm} (h : RC m S) (w : WF S) : ∀ i, i ≤ pn S → Y G M_pi_countRounds (0, 0) 4 [some (.ref (8)), some (.int (nI (su (pT S) i))), some (.int (nI i))] [] (LAY, m) (qm_ LAY (pu_ (nI (tot S)) m)) := by
  have hn := w.p.2
  refine ind_ (fun i hi ih => ?_)
  refine Y_iload_n 4 rfl (pc2 := 5) rfl rfl ?_
  refine Y_aload_n 5 rfl (pc2 := 6) rfl rfl ?_
  refine Y_getI 6 rfl (pc2 := 9) rfl fl_pi_24 ly_pi (by decide) rfl ?_
  refine Y_top (h.p.trans w.p.1) ?_
  refine Y_icmp_gen 7 rfl (pc2 := 12) rfl (tgt := 27) (by decide) (by omega) (by omega) (fun h9 => ?_) (fun h9 => ?_)
  · refine Y_iload_n 17 rfl (pc2 := 28) rfl rfl ?_
    refine Y_iret 18 rfl rfl rfl ⟨rfl, ?_⟩
    exact pu_i (by rw [show i = pn S by omega]; rfl)
  · refine Y_iload_n 8 rfl (pc2 := 13) rfl rfl ?_
    refine Y_aload_n 9 rfl (pc2 := 14) rfl rfl ?_
    refine Y_getR 10 rfl (pc2 := 17) rfl fl_pi_15 ly_pi (by decide) rfl rfl (by omega) ?_
    refine Y_iload_n 11 rfl (pc2 := 18) rfl rfl ?_
    refine Y_iald 12 rfl (pc2 := 19) rfl ly_piT rfl (by omega) (by decide) ?_
    refine Y_top ((h.pt _ (by omega)).trans (w.t _ (by omega)).1) ?_
    refine Y_iadd 13 rfl (pc2 := 20) rfl ?_
    refine Y_top (nI_add _ _) ?_
    refine Y_istore_n 14 rfl (pc2 := 21) rfl (Nat.le_of_ble_eq_true rfl) (ls2 := [some (.ref _), some (.int _), some (.int _)]) rfl ?_
    refine Y_iinc 15 rfl (pc2 := 24) rfl rfl (nI_inc _ 1) (ls2 := [some (.ref _), some (.int _), some (.int _)]) rfl ?_
    refine Y_goto 16 rfl (pc2 := 4) (by decide) ?_
    exact ih (i + 1) (by omega) (by omega)

set_option maxHeartbeats 400000 in
theorem T_pi_countRounds {G : Nat × (Nat → Int32)} {m : Mm} {S : Mm} (h : RC m S) (w : WF S) : Y G M_pi_countRounds (0, 0) 0 (en_ M_pi_countRounds [.ref (8)]) [] (LAY, m) (qm_ LAY (pu_ (nI (tot S)) m)) := by
  change Y _ _ _ _ [some (.ref _), none, none] _ _ _
  refine Y_iconst 0 rfl (pc2 := 1) rfl (v := nI 0) (by decide) ?_
  refine Y_istore_n 1 rfl (pc2 := 2) rfl (Nat.le_of_ble_eq_true rfl) (ls2 := [some (.ref _), some (.int _), none]) rfl ?_
  refine Y_iconst 2 rfl (pc2 := 3) rfl (v := nI 0) (by decide) ?_
  refine Y_istore_n 3 rfl (pc2 := 4) rfl (Nat.le_of_ble_eq_true rfl) (ls2 := [some (.ref _), some (.int _), some (.int _)]) rfl ?_
  exact L_countRounds h w 0 (Nat.zero_le _)

set_option maxHeartbeats 400000 in
theorem L_allBeats {G : Nat × (Nat → Int32)} {m : Mm} {S : Mm} (h : RC m S) (w : WF S) : ∀ i, i ≤ 4 → Y G M_gh_allBeats (0, 0) 4 [some (.ref (0)), some (.int (nI (su (bt S) i))), some (.int (nI i))] [] (LAY, m) (qm_ LAY (pu_ (nI (su (bt S) 4)) m)) := by
  refine ind_ (fun i hi ih => ?_)
  refine Y_iload_n 4 rfl (pc2 := 5) rfl rfl ?_
  refine Y_iconst 5 rfl (pc2 := 6) rfl (v := nI 4) (by decide) ?_
  refine Y_icmp_gen 6 rfl (pc2 := 9) rfl (tgt := 27) (by decide) (by omega) (by omega) (fun h6 => ?_) (fun h6 => ?_)
  · refine Y_iload_n 17 rfl (pc2 := 28) rfl rfl ?_
    refine Y_iret 18 rfl rfl rfl ⟨rfl, ?_⟩
    exact pu_i (by rw [show i = 4 by omega])
  · refine Y_iload_n 7 rfl (pc2 := 10) rfl rfl ?_
    refine Y_aload_n 8 rfl (pc2 := 11) rfl rfl ?_
    refine Y_getR 9 rfl (pc2 := 14) rfl fl_gh_25 ly_gh (by decide) rfl rfl (by omega) ?_
    refine Y_iload_n 10 rfl (pc2 := 15) rfl rfl ?_
    refine Y_aald 11 rfl (pc2 := 16) rfl ly_ghC (by decide) (fun _ => rfl) rfl (by omega) (by decide) (ly_ghC_at (by omega)) (by omega) ?_
    refine Y_getI 12 rfl (pc2 := 19) rfl fl_gh_270 (ly_ci (by omega)) (by decide) rfl ?_
    refine Y_top ((h.b _ (by omega)).trans (w.b _ (by omega)).1) ?_
    refine Y_iadd 13 rfl (pc2 := 20) rfl ?_
    refine Y_top (nI_add _ _) ?_
    refine Y_istore_n 14 rfl (pc2 := 21) rfl (Nat.le_of_ble_eq_true rfl) (ls2 := [some (.ref _), some (.int _), some (.int _)]) rfl ?_
    refine Y_iinc 15 rfl (pc2 := 24) rfl rfl (nI_inc _ 1) (ls2 := [some (.ref _), some (.int _), some (.int _)]) rfl ?_
    refine Y_goto 16 rfl (pc2 := 4) (by decide) ?_
    exact ih (i + 1) (by omega) (by omega)

set_option maxHeartbeats 400000 in
theorem T_gh_allBeats {G : Nat × (Nat → Int32)} {m : Mm} {S : Mm} (h : RC m S) (w : WF S) : Y G M_gh_allBeats (0, 0) 0 (en_ M_gh_allBeats [.ref (0)]) [] (LAY, m) (qm_ LAY (pu_ (nI (su (bt S) 4)) m)) := by
  change Y _ _ _ _ [some (.ref _), none, none] _ _ _
  refine Y_iconst 0 rfl (pc2 := 1) rfl (v := nI 0) (by decide) ?_
  refine Y_istore_n 1 rfl (pc2 := 2) rfl (Nat.le_of_ble_eq_true rfl) (ls2 := [some (.ref _), some (.int _), none]) rfl ?_
  refine Y_iconst 2 rfl (pc2 := 3) rfl (v := nI 0) (by decide) ?_
  refine Y_istore_n 3 rfl (pc2 := 4) rfl (Nat.le_of_ble_eq_true rfl) (ls2 := [some (.ref _), some (.int _), some (.int _)]) rfl ?_
  exact L_allBeats h w 0 (Nat.zero_le _)

set_option maxHeartbeats 400000 in
theorem L_allGongs {G : Nat × (Nat → Int32)} {m : Mm} {S : Mm} (h : RC m S) (w : WF S) : ∀ i, i ≤ 4 → Y G M_gh_allGongs (0, 0) 4 [some (.ref (0)), some (.int (nI (su (fun c => cnt (fun b => ¬ S 156 (32 * c + b) < 0) (bt S c)) i))), some (.int (nI i))] [] (LAY, m) (qm_ LAY (pu_ (nI (su (fun c => cnt (fun b => ¬ S 156 (32 * c + b) < 0) (bt S c)) 4)) m)) := by
  refine ind_ (fun i hi ih => ?_)
  refine Y_iload_n 4 rfl (pc2 := 5) rfl rfl ?_
  refine Y_iconst 5 rfl (pc2 := 6) rfl (v := nI 4) (by decide) ?_
  refine Y_icmp_gen 6 rfl (pc2 := 9) rfl (tgt := 27) (by decide) (by omega) (by omega) (fun h6 => ?_) (fun h6 => ?_)
  · refine Y_iload_n 17 rfl (pc2 := 28) rfl rfl ?_
    refine Y_iret 18 rfl rfl rfl ⟨rfl, ?_⟩
    exact pu_i (by rw [show i = 4 by omega])
  · refine Y_iload_n 7 rfl (pc2 := 10) rfl rfl ?_
    refine Y_aload_n 8 rfl (pc2 := 11) rfl rfl ?_
    refine Y_getR 9 rfl (pc2 := 14) rfl fl_gh_25 ly_gh (by decide) rfl rfl (by omega) ?_
    refine Y_iload_n 10 rfl (pc2 := 15) rfl rfl ?_
    refine Y_aald 11 rfl (pc2 := 16) rfl ly_ghC (by decide) (fun _ => rfl) rfl (by omega) (by decide) (ly_ghC_at (by omega)) (by omega) ?_
    refine Y_cV 12 rfl (pc2 := 19) rfl ok_ci_countGongs lk_gh_216 vi_ci_countGongs (ly_ci (by omega)) rfl (by decide) rfl (as := []) (rest := [.int _]) rfl rfl (T_ci_countGongs h w (by omega)) ?_
    rintro _ _ ⟨rfl, rfl⟩
    change Y _ _ _ _ _ [.int _, .int _] _ _
    refine Y_iadd 13 rfl (pc2 := 20) rfl ?_
    refine Y_top (nI_add _ _) ?_
    refine Y_istore_n 14 rfl (pc2 := 21) rfl (Nat.le_of_ble_eq_true rfl) (ls2 := [some (.ref _), some (.int _), some (.int _)]) rfl ?_
    refine Y_iinc 15 rfl (pc2 := 24) rfl rfl (nI_inc _ 1) (ls2 := [some (.ref _), some (.int _), some (.int _)]) rfl ?_
    refine Y_goto 16 rfl (pc2 := 4) (by decide) ?_
    exact ih (i + 1) (by omega) (by omega)

set_option maxHeartbeats 400000 in
theorem T_gh_allGongs {G : Nat × (Nat → Int32)} {m : Mm} {S : Mm} (h : RC m S) (w : WF S) : Y G M_gh_allGongs (0, 0) 0 (en_ M_gh_allGongs [.ref (0)]) [] (LAY, m) (qm_ LAY (pu_ (nI (su (fun c => cnt (fun b => ¬ S 156 (32 * c + b) < 0) (bt S c)) 4)) m)) := by
  change Y _ _ _ _ [some (.ref _), none, none] _ _ _
  refine Y_iconst 0 rfl (pc2 := 1) rfl (v := nI 0) (by decide) ?_
  refine Y_istore_n 1 rfl (pc2 := 2) rfl (Nat.le_of_ble_eq_true rfl) (ls2 := [some (.ref _), some (.int _), none]) rfl ?_
  refine Y_iconst 2 rfl (pc2 := 3) rfl (v := nI 0) (by decide) ?_
  refine Y_istore_n 3 rfl (pc2 := 4) rfl (Nat.le_of_ble_eq_true rfl) (ls2 := [some (.ref _), some (.int _), some (.int _)]) rfl ?_
  exact L_allGongs h w 0 (Nat.zero_le _)

set_option maxHeartbeats 400000 in
theorem L_allRight {G : Nat × (Nat → Int32)} {m : Mm} {S : Mm} (h : RC m S) (w : WF S) : ∀ i, i ≤ 4 → Y G M_gh_allRight (0, 0) 4 [some (.ref (0)), some (.int (nI (su (fun l => cnt (fun f => wS S l f = 2 ^ (l + 1)) 6) i))), some (.int (nI i))] [] (LAY, m) (qm_ LAY (pu_ (nI (su (fun l => cnt (fun f => wS S l f = 2 ^ (l + 1)) 6) 4)) m)) := by
  refine ind_ (fun i hi ih => ?_)
  refine Y_iload_n 4 rfl (pc2 := 5) rfl rfl ?_
  refine Y_iconst 5 rfl (pc2 := 6) rfl (v := nI 4) (by decide) ?_
  refine Y_icmp_gen 6 rfl (pc2 := 9) rfl (tgt := 27) (by decide) (by omega) (by omega) (fun h6 => ?_) (fun h6 => ?_)
  · refine Y_iload_n 17 rfl (pc2 := 28) rfl rfl ?_
    refine Y_iret 18 rfl rfl rfl ⟨rfl, ?_⟩
    exact pu_i (by rw [show i = 4 by omega])
  · refine Y_iload_n 7 rfl (pc2 := 10) rfl rfl ?_
    refine Y_aload_n 8 rfl (pc2 := 11) rfl rfl ?_
    refine Y_getR 9 rfl (pc2 := 14) rfl fl_gh_31 ly_gh (by decide) rfl rfl (by omega) ?_
    refine Y_iload_n 10 rfl (pc2 := 15) rfl rfl ?_
    refine Y_aald 11 rfl (pc2 := 16) rfl ly_ghL (by decide) (fun _ => rfl) rfl (by omega) (by decide) (ly_ghL_at (by omega)) (by omega) ?_
    refine Y_cV 12 rfl (pc2 := 19) rfl ok_le_countRight lk_gh_282 vi_le_countRight (ly_le (by omega)) rfl (by decide) rfl (as := []) (rest := [.int _]) rfl rfl (T_le_countRight h w (by omega)) ?_
    rintro _ _ ⟨rfl, rfl⟩
    change Y _ _ _ _ _ [.int _, .int _] _ _
    refine Y_iadd 13 rfl (pc2 := 20) rfl ?_
    refine Y_top (nI_add _ _) ?_
    refine Y_istore_n 14 rfl (pc2 := 21) rfl (Nat.le_of_ble_eq_true rfl) (ls2 := [some (.ref _), some (.int _), some (.int _)]) rfl ?_
    refine Y_iinc 15 rfl (pc2 := 24) rfl rfl (nI_inc _ 1) (ls2 := [some (.ref _), some (.int _), some (.int _)]) rfl ?_
    refine Y_goto 16 rfl (pc2 := 4) (by decide) ?_
    exact ih (i + 1) (by omega) (by omega)

set_option maxHeartbeats 400000 in
theorem T_gh_allRight {G : Nat × (Nat → Int32)} {m : Mm} {S : Mm} (h : RC m S) (w : WF S) : Y G M_gh_allRight (0, 0) 0 (en_ M_gh_allRight [.ref (0)]) [] (LAY, m) (qm_ LAY (pu_ (nI (su (fun l => cnt (fun f => wS S l f = 2 ^ (l + 1)) 6) 4)) m)) := by
  change Y _ _ _ _ [some (.ref _), none, none] _ _ _
  refine Y_iconst 0 rfl (pc2 := 1) rfl (v := nI 0) (by decide) ?_
  refine Y_istore_n 1 rfl (pc2 := 2) rfl (Nat.le_of_ble_eq_true rfl) (ls2 := [some (.ref _), some (.int _), none]) rfl ?_
  refine Y_iconst 2 rfl (pc2 := 3) rfl (v := nI 0) (by decide) ?_
  refine Y_istore_n 3 rfl (pc2 := 4) rfl (Nat.le_of_ble_eq_true rfl) (ls2 := [some (.ref _), some (.int _), some (.int _)]) rfl ?_
  exact L_allRight h w 0 (Nat.zero_le _)

set_option maxHeartbeats 400000 in
theorem SU_n {G : Nat × (Nat → Int32)} {m : Mm} {g k : Nat} (hk : k < 4) {i : Nat} (hi : i < 5) : Y G M_gh_standsUnder (0, 0) 4 [some (.int (nI g)), some (.int (nI k)), some (.int (NONE_)), some (.int (nI i))] [] (LAY, m) (qm_ LAY (pu_ (bI (False)) m)) := by
  refine Y_iload_n 4 rfl (pc2 := 5) rfl rfl ?_
  refine Y_iconst 5 rfl (pc2 := 6) rfl (v := nI 4) (by decide) ?_
  refine Y_icmp_gen 6 rfl (pc2 := 9) rfl (tgt := 36) (by decide) (by omega) (by omega) (fun h6 => ?_) (fun h6 => ?_)
  · refine Y_iconst 22 rfl (pc2 := 37) rfl (v := nI 0) (by decide) ?_
    refine Y_iret 23 rfl rfl rfl ⟨rfl, ?_⟩
    exact pu_f (fun e => e)
  · refine Y_iload_n 7 rfl (pc2 := 10) rfl rfl ?_
    refine Y_iconst 8 rfl (pc2 := 11) rfl (v := nI 4) (by decide) ?_
    refine Y_cS 9 rfl (pc2 := 14) rfl ok_gh_isBelow lk_gh_80 vs_gh_isBelow (as := [.int _, .int _]) (rest := []) rfl rfl (T_gh_isBelow (by omega)) ?_
    rintro _ _ ⟨rfl, rfl⟩
    change Y _ _ _ _ _ [.int _] _ _
    refine Y_if_eqb 10 rfl (pc2 := 17) rfl (tgt := 36) (by decide) (fun h14 => ?_) (fun h14 => ?_)
    · refine Y_iconst 22 rfl (pc2 := 37) rfl (v := nI 0) (by decide) ?_
      refine Y_iret 23 rfl rfl rfl ⟨rfl, ?_⟩
      exact pu_f (fun e => e)
    · obtain ⟨q, hq, e⟩ := h14
      exact absurd e.symm (nI_none (by omega))

set_option maxHeartbeats 400000 in
theorem SU_0 {G : Nat × (Nat → Int32)} {m : Mm} {g k : Nat} (hk : k < 4) {i : Nat} (hi : i < 4) : Y G M_gh_standsUnder (0, 0) 4 [some (.int (nI g)), some (.int (nI k)), some (.int (nI 0)), some (.int (nI i))] [] (LAY, m) (qm_ LAY (pu_ (bI (k = 0)) m)) := by
  refine Y_iload_n 4 rfl (pc2 := 5) rfl rfl ?_
  refine Y_iconst 5 rfl (pc2 := 6) rfl (v := nI 4) (by decide) ?_
  refine Y_icmp_gen 6 rfl (pc2 := 9) rfl (tgt := 36) (by decide) (by omega) (by omega) (fun h6 => ?_) (fun h6 => ?_)
  · refine Y_iconst 22 rfl (pc2 := 37) rfl (v := nI 0) (by decide) ?_
    refine Y_iret 23 rfl rfl rfl ⟨rfl, ?_⟩
    first | exact pu_f (by omega) | omega | exact absurd (by first | exact ⟨_, (by omega), rfl⟩) h14
  · refine Y_iload_n 7 rfl (pc2 := 10) rfl rfl ?_
    refine Y_iconst 8 rfl (pc2 := 11) rfl (v := nI 4) (by decide) ?_
    refine Y_cS 9 rfl (pc2 := 14) rfl ok_gh_isBelow lk_gh_80 vs_gh_isBelow (as := [.int _, .int _]) (rest := []) rfl rfl (T_gh_isBelow (by omega)) ?_
    rintro _ _ ⟨rfl, rfl⟩
    change Y _ _ _ _ _ [.int _] _ _
    refine Y_if_eqb 10 rfl (pc2 := 17) rfl (tgt := 36) (by decide) (fun h14 => ?_) (fun h14 => ?_)
    · refine Y_iconst 22 rfl (pc2 := 37) rfl (v := nI 0) (by decide) ?_
      refine Y_iret 23 rfl rfl rfl ⟨rfl, ?_⟩
      first | exact pu_f (by omega) | omega | exact absurd (by first | exact ⟨_, (by omega), rfl⟩) h14
    · refine Y_iload_n 11 rfl (pc2 := 18) rfl rfl ?_
      refine Y_iload_n 12 rfl (pc2 := 19) rfl rfl ?_
      refine Y_icmp_nen 13 rfl (pc2 := 22) rfl (tgt := 24) (by decide) (by omega) (by omega) (fun h19 => ?_) (fun h19 => ?_)
      · refine Y_gets 16 rfl (pc2 := 27) rfl fs_gh_271 ?_
        refine Y_iload_n 17 rfl (pc2 := 28) rfl rfl ?_
        refine Y_sald 18 rfl (pc2 := 29) rfl (z := 1) (by decide) rfl (by show _ < 4; omega) (by show 4 < _; decide) ?_
        refine Y_top (show o_F G 1 0 = NONE_ from rfl) ?_
        refine Y_istore_n 19 rfl (pc2 := 30) rfl (Nat.le_of_ble_eq_true rfl) (ls2 := [some (.int _), some (.int _), some (.int _), some (.int _)]) rfl ?_
        refine Y_iinc 20 rfl (pc2 := 33) rfl rfl (nI_inc _ 1) (ls2 := [some (.int _), some (.int _), some (.int _), some (.int _)]) rfl ?_
        refine Y_goto 21 rfl (pc2 := 4) (by decide) ?_
        exact Y_Q (by rw [bI_c (show (k = 0) ↔ (False) from ⟨fun e => by first | omega | exact e.elim, fun e => by first | omega | exact e.elim⟩)]) (SU_n hk (by omega))
      · refine Y_iconst 14 rfl (pc2 := 23) rfl (v := nI 1) (by decide) ?_
        refine Y_iret 15 rfl rfl rfl ⟨rfl, ?_⟩
        exact pu_t (by omega)

set_option maxHeartbeats 400000 in
theorem SU_1 {G : Nat × (Nat → Int32)} {m : Mm} {g k : Nat} (hk : k < 4) {i : Nat} (hi : i < 3) : Y G M_gh_standsUnder (0, 0) 4 [some (.int (nI g)), some (.int (nI k)), some (.int (nI 1)), some (.int (nI i))] [] (LAY, m) (qm_ LAY (pu_ (bI (k = 0 ∨ k = 1)) m)) := by
  refine Y_iload_n 4 rfl (pc2 := 5) rfl rfl ?_
  refine Y_iconst 5 rfl (pc2 := 6) rfl (v := nI 4) (by decide) ?_
  refine Y_icmp_gen 6 rfl (pc2 := 9) rfl (tgt := 36) (by decide) (by omega) (by omega) (fun h6 => ?_) (fun h6 => ?_)
  · refine Y_iconst 22 rfl (pc2 := 37) rfl (v := nI 0) (by decide) ?_
    refine Y_iret 23 rfl rfl rfl ⟨rfl, ?_⟩
    first | exact pu_f (by omega) | omega | exact absurd (by first | exact ⟨_, (by omega), rfl⟩) h14
  · refine Y_iload_n 7 rfl (pc2 := 10) rfl rfl ?_
    refine Y_iconst 8 rfl (pc2 := 11) rfl (v := nI 4) (by decide) ?_
    refine Y_cS 9 rfl (pc2 := 14) rfl ok_gh_isBelow lk_gh_80 vs_gh_isBelow (as := [.int _, .int _]) (rest := []) rfl rfl (T_gh_isBelow (by omega)) ?_
    rintro _ _ ⟨rfl, rfl⟩
    change Y _ _ _ _ _ [.int _] _ _
    refine Y_if_eqb 10 rfl (pc2 := 17) rfl (tgt := 36) (by decide) (fun h14 => ?_) (fun h14 => ?_)
    · refine Y_iconst 22 rfl (pc2 := 37) rfl (v := nI 0) (by decide) ?_
      refine Y_iret 23 rfl rfl rfl ⟨rfl, ?_⟩
      first | exact pu_f (by omega) | omega | exact absurd (by first | exact ⟨_, (by omega), rfl⟩) h14
    · refine Y_iload_n 11 rfl (pc2 := 18) rfl rfl ?_
      refine Y_iload_n 12 rfl (pc2 := 19) rfl rfl ?_
      refine Y_icmp_nen 13 rfl (pc2 := 22) rfl (tgt := 24) (by decide) (by omega) (by omega) (fun h19 => ?_) (fun h19 => ?_)
      · refine Y_gets 16 rfl (pc2 := 27) rfl fs_gh_271 ?_
        refine Y_iload_n 17 rfl (pc2 := 28) rfl rfl ?_
        refine Y_sald 18 rfl (pc2 := 29) rfl (z := 1) (by decide) rfl (by show _ < 4; omega) (by show 4 < _; decide) ?_
        refine Y_top (show o_F G 1 1 = nI 0 from rfl) ?_
        refine Y_istore_n 19 rfl (pc2 := 30) rfl (Nat.le_of_ble_eq_true rfl) (ls2 := [some (.int _), some (.int _), some (.int _), some (.int _)]) rfl ?_
        refine Y_iinc 20 rfl (pc2 := 33) rfl rfl (nI_inc _ 1) (ls2 := [some (.int _), some (.int _), some (.int _), some (.int _)]) rfl ?_
        refine Y_goto 21 rfl (pc2 := 4) (by decide) ?_
        exact Y_Q (by rw [bI_c (show (k = 0 ∨ k = 1) ↔ (k = 0) from ⟨fun e => by first | omega | exact e.elim, fun e => by first | omega | exact e.elim⟩)]) (SU_0 hk (by omega))
      · refine Y_iconst 14 rfl (pc2 := 23) rfl (v := nI 1) (by decide) ?_
        refine Y_iret 15 rfl rfl rfl ⟨rfl, ?_⟩
        exact pu_t (by omega)

set_option maxHeartbeats 400000 in
theorem SU_2 {G : Nat × (Nat → Int32)} {m : Mm} {g k : Nat} (hk : k < 4) {i : Nat} (hi : i < 3) : Y G M_gh_standsUnder (0, 0) 4 [some (.int (nI g)), some (.int (nI k)), some (.int (nI 2)), some (.int (nI i))] [] (LAY, m) (qm_ LAY (pu_ (bI (k = 0 ∨ k = 2)) m)) := by
  refine Y_iload_n 4 rfl (pc2 := 5) rfl rfl ?_
  refine Y_iconst 5 rfl (pc2 := 6) rfl (v := nI 4) (by decide) ?_
  refine Y_icmp_gen 6 rfl (pc2 := 9) rfl (tgt := 36) (by decide) (by omega) (by omega) (fun h6 => ?_) (fun h6 => ?_)
  · refine Y_iconst 22 rfl (pc2 := 37) rfl (v := nI 0) (by decide) ?_
    refine Y_iret 23 rfl rfl rfl ⟨rfl, ?_⟩
    first | exact pu_f (by omega) | omega | exact absurd (by first | exact ⟨_, (by omega), rfl⟩) h14
  · refine Y_iload_n 7 rfl (pc2 := 10) rfl rfl ?_
    refine Y_iconst 8 rfl (pc2 := 11) rfl (v := nI 4) (by decide) ?_
    refine Y_cS 9 rfl (pc2 := 14) rfl ok_gh_isBelow lk_gh_80 vs_gh_isBelow (as := [.int _, .int _]) (rest := []) rfl rfl (T_gh_isBelow (by omega)) ?_
    rintro _ _ ⟨rfl, rfl⟩
    change Y _ _ _ _ _ [.int _] _ _
    refine Y_if_eqb 10 rfl (pc2 := 17) rfl (tgt := 36) (by decide) (fun h14 => ?_) (fun h14 => ?_)
    · refine Y_iconst 22 rfl (pc2 := 37) rfl (v := nI 0) (by decide) ?_
      refine Y_iret 23 rfl rfl rfl ⟨rfl, ?_⟩
      first | exact pu_f (by omega) | omega | exact absurd (by first | exact ⟨_, (by omega), rfl⟩) h14
    · refine Y_iload_n 11 rfl (pc2 := 18) rfl rfl ?_
      refine Y_iload_n 12 rfl (pc2 := 19) rfl rfl ?_
      refine Y_icmp_nen 13 rfl (pc2 := 22) rfl (tgt := 24) (by decide) (by omega) (by omega) (fun h19 => ?_) (fun h19 => ?_)
      · refine Y_gets 16 rfl (pc2 := 27) rfl fs_gh_271 ?_
        refine Y_iload_n 17 rfl (pc2 := 28) rfl rfl ?_
        refine Y_sald 18 rfl (pc2 := 29) rfl (z := 1) (by decide) rfl (by show _ < 4; omega) (by show 4 < _; decide) ?_
        refine Y_top (show o_F G 1 2 = nI 0 from rfl) ?_
        refine Y_istore_n 19 rfl (pc2 := 30) rfl (Nat.le_of_ble_eq_true rfl) (ls2 := [some (.int _), some (.int _), some (.int _), some (.int _)]) rfl ?_
        refine Y_iinc 20 rfl (pc2 := 33) rfl rfl (nI_inc _ 1) (ls2 := [some (.int _), some (.int _), some (.int _), some (.int _)]) rfl ?_
        refine Y_goto 21 rfl (pc2 := 4) (by decide) ?_
        exact Y_Q (by rw [bI_c (show (k = 0 ∨ k = 2) ↔ (k = 0) from ⟨fun e => by first | omega | exact e.elim, fun e => by first | omega | exact e.elim⟩)]) (SU_0 hk (by omega))
      · refine Y_iconst 14 rfl (pc2 := 23) rfl (v := nI 1) (by decide) ?_
        refine Y_iret 15 rfl rfl rfl ⟨rfl, ?_⟩
        exact pu_t (by omega)

set_option maxHeartbeats 400000 in
theorem SU_3 {G : Nat × (Nat → Int32)} {m : Mm} {g k : Nat} (hk : k < 4) {i : Nat} (hi : i < 2) : Y G M_gh_standsUnder (0, 0) 4 [some (.int (nI g)), some (.int (nI k)), some (.int (nI 3)), some (.int (nI i))] [] (LAY, m) (qm_ LAY (pu_ (bI (k = 0 ∨ k = 2 ∨ k = 3)) m)) := by
  refine Y_iload_n 4 rfl (pc2 := 5) rfl rfl ?_
  refine Y_iconst 5 rfl (pc2 := 6) rfl (v := nI 4) (by decide) ?_
  refine Y_icmp_gen 6 rfl (pc2 := 9) rfl (tgt := 36) (by decide) (by omega) (by omega) (fun h6 => ?_) (fun h6 => ?_)
  · refine Y_iconst 22 rfl (pc2 := 37) rfl (v := nI 0) (by decide) ?_
    refine Y_iret 23 rfl rfl rfl ⟨rfl, ?_⟩
    first | exact pu_f (by omega) | omega | exact absurd (by first | exact ⟨_, (by omega), rfl⟩) h14
  · refine Y_iload_n 7 rfl (pc2 := 10) rfl rfl ?_
    refine Y_iconst 8 rfl (pc2 := 11) rfl (v := nI 4) (by decide) ?_
    refine Y_cS 9 rfl (pc2 := 14) rfl ok_gh_isBelow lk_gh_80 vs_gh_isBelow (as := [.int _, .int _]) (rest := []) rfl rfl (T_gh_isBelow (by omega)) ?_
    rintro _ _ ⟨rfl, rfl⟩
    change Y _ _ _ _ _ [.int _] _ _
    refine Y_if_eqb 10 rfl (pc2 := 17) rfl (tgt := 36) (by decide) (fun h14 => ?_) (fun h14 => ?_)
    · refine Y_iconst 22 rfl (pc2 := 37) rfl (v := nI 0) (by decide) ?_
      refine Y_iret 23 rfl rfl rfl ⟨rfl, ?_⟩
      first | exact pu_f (by omega) | omega | exact absurd (by first | exact ⟨_, (by omega), rfl⟩) h14
    · refine Y_iload_n 11 rfl (pc2 := 18) rfl rfl ?_
      refine Y_iload_n 12 rfl (pc2 := 19) rfl rfl ?_
      refine Y_icmp_nen 13 rfl (pc2 := 22) rfl (tgt := 24) (by decide) (by omega) (by omega) (fun h19 => ?_) (fun h19 => ?_)
      · refine Y_gets 16 rfl (pc2 := 27) rfl fs_gh_271 ?_
        refine Y_iload_n 17 rfl (pc2 := 28) rfl rfl ?_
        refine Y_sald 18 rfl (pc2 := 29) rfl (z := 1) (by decide) rfl (by show _ < 4; omega) (by show 4 < _; decide) ?_
        refine Y_top (show o_F G 1 3 = nI 2 from rfl) ?_
        refine Y_istore_n 19 rfl (pc2 := 30) rfl (Nat.le_of_ble_eq_true rfl) (ls2 := [some (.int _), some (.int _), some (.int _), some (.int _)]) rfl ?_
        refine Y_iinc 20 rfl (pc2 := 33) rfl rfl (nI_inc _ 1) (ls2 := [some (.int _), some (.int _), some (.int _), some (.int _)]) rfl ?_
        refine Y_goto 21 rfl (pc2 := 4) (by decide) ?_
        exact Y_Q (by rw [bI_c (show (k = 0 ∨ k = 2 ∨ k = 3) ↔ (k = 0 ∨ k = 2) from ⟨fun e => by first | omega | exact e.elim, fun e => by first | omega | exact e.elim⟩)]) (SU_2 hk (by omega))
      · refine Y_iconst 14 rfl (pc2 := 23) rfl (v := nI 1) (by decide) ?_
        refine Y_iret 15 rfl rfl rfl ⟨rfl, ?_⟩
        exact pu_t (by omega)

set_option maxHeartbeats 400000 in
theorem T_gh_standsUnder {G : Nat × (Nat → Int32)} {m : Mm} {g k : Nat} (hg : g < 4) (hk : k < 4) : Y G M_gh_standsUnder (0, 0) 0 (en_ M_gh_standsUnder [.int (nI g), .int (nI k)]) [] (LAY, m) (qm_ LAY (pu_ (bI (k = 0 ∨ g = k ∨ (k = 2 ∧ g = 3))) m)) := by
  change Y _ _ _ _ [some (.int _), some (.int _), none, none] _ _ _
  refine Y_iload_n 0 rfl (pc2 := 1) rfl rfl ?_
  refine Y_istore_n 1 rfl (pc2 := 2) rfl (Nat.le_of_ble_eq_true rfl) (ls2 := [some (.int _), some (.int _), some (.int _), none]) rfl ?_
  refine Y_iconst 2 rfl (pc2 := 3) rfl (v := nI 0) (by decide) ?_
  refine Y_istore_n 3 rfl (pc2 := 4) rfl (Nat.le_of_ble_eq_true rfl) (ls2 := [some (.int _), some (.int _), some (.int _), some (.int _)]) rfl ?_
  have e : g = 0 ∨ g = 1 ∨ g = 2 ∨ g = 3 := by omega
  rcases e with rfl | rfl | rfl | rfl
  · exact Y_Q (by rw [bI_c (show (k = 0 ∨ 0 = k ∨ (k = 2 ∧ 0 = 3)) ↔ (k = 0) from ⟨fun e => by omega, fun e => by omega⟩)]) (SU_0 hk (by omega))
  · exact Y_Q (by rw [bI_c (show (k = 0 ∨ 1 = k ∨ (k = 2 ∧ 1 = 3)) ↔ (k = 0 ∨ k = 1) from ⟨fun e => by omega, fun e => by omega⟩)]) (SU_1 hk (by omega))
  · exact Y_Q (by rw [bI_c (show (k = 0 ∨ 2 = k ∨ (k = 2 ∧ 2 = 3)) ↔ (k = 0 ∨ k = 2) from ⟨fun e => by omega, fun e => by omega⟩)]) (SU_2 hk (by omega))
  · exact Y_Q (by rw [bI_c (show (k = 0 ∨ 3 = k ∨ (k = 2 ∧ 3 = 3)) ↔ (k = 0 ∨ k = 2 ∨ k = 3) from ⟨fun e => by omega, fun e => by omega⟩)]) (SU_3 hk (by omega))
end
section
/-! the class: the walk through a piece, round by round -/
set_option maxHeartbeats 400000 in
theorem L_inner {G : Nat × (Nat → Int32)} {m : Mm} {S : Mm} (h : RC m S) (w : WF S) {gl : Int32} {p : Nat} (hp : p < pn S) (HO : (∀ r, r < rs S (p + 1) → ¬ gl = nI r) → ∀ (c : Int32) (u : Option Value), Y G M_wa_reaches (0, 0) 18 [some (.ref 13), some (.ref 8), some (.ref 6), some (.int gl), some (.int (nI (rs S (p + 1)))), u] [] (LAY, wk m c (nI (plv S (rs S (p + 1)))) (nI (p + 1)) (nI (ptk S (rs S (p + 1))))) (qm_ LAY (pW m S gl))) : ∀ k, k ≤ pT S p → ∀ L, L = (if k = 0 then ov S p (plv S (rs S p)) else plv S (rs S p + k)) → (∀ r, r < rs S p + k → ¬ gl = nI r) → Y G M_wa_reaches (0, 0) 65 [some (.ref 13), some (.ref 8), some (.ref 6), some (.int gl), some (.int (nI (rs S p + k))), some (.int (nI k))] [] (LAY, wk m (nI (pC S p)) (nI L) (nI p) (nI (ptk S (rs S p + k)))) (qm_ LAY (pW m S gl)) := by
  have hp16 := w.p.2
  have hc4 := (w.c p (by omega)).2
  have ht1 := w.t1 p hp
  have ht9 := (w.t p (by omega)).2
  have hr144 := rs_le w (p := p) (by omega)
  refine ind_ (fun k hk ih L hLe hg => ?_)
  refine Y_iload 35 rfl (pc2 := 67) rfl rfl ?_
  refine Y_aload_n 36 rfl (pc2 := 68) rfl rfl ?_
  refine Y_getR 37 rfl (pc2 := 71) rfl fl_wa_40 ly_pi (by decide) rfl rfl (by omega) ?_
  refine Y_aload_n 38 rfl (pc2 := 72) rfl rfl ?_
  refine Y_getI 39 rfl (pc2 := 75) rfl fl_wa_18 ly_wa (by decide) rfl ?_
  refine Y_top (wk_p) ?_
  refine Y_iald 40 rfl (pc2 := 76) rfl ly_piT rfl (by omega) (by decide) ?_
  refine Y_top (((RC_wk h).pt _ (by omega)).trans (w.t _ (by omega)).1) ?_
  refine Y_icmp_gen 41 rfl (pc2 := 79) rfl (tgt := 148) (by decide) (by omega) (by omega) (fun h76 => ?_) (fun h76 => ?_)
  · refine Y_aload_n 77 rfl (pc2 := 149) rfl rfl ?_
    refine Y_dup 78 rfl (pc2 := 150) rfl rfl ?_
    refine Y_getI 79 rfl (pc2 := 153) rfl fl_wa_18 ly_wa (by decide) rfl ?_
    refine Y_top (wk_p) ?_
    refine Y_iconst 80 rfl (pc2 := 154) rfl (v := nI 1) (by decide) ?_
    refine Y_iadd 81 rfl (pc2 := 155) rfl ?_
    refine Y_top (nI_add _ _) ?_
    refine Y_putI 82 rfl (pc2 := 158) rfl fl_wa_18 ly_wa (by decide) ⟨rfl, rfl⟩ ⟨_, _, _, rfl, rfl⟩ rfl ?_
    refine Y_mem wk_sp ?_
    refine Y_goto 83 rfl (pc2 := 18) (by decide) ?_
    have e3 : k = pT S p := by omega
    have e4 : rs S p + k = rs S (p + 1) := by rw [rs_s, e3]
    rw [if_neg (by omega)] at hLe
    subst hLe
    have hi := HO (fun r hr => hg r (by omega)) (nI (pC S p)) (some (.int (nI k)))
    rw [e4]
    exact hi
  · have hrt : rs S p + k < tot S := by have := su_mono (f := pT S) (a := p + 1) (pn S) (by omega); have e : su (pT S) (p + 1) = su (pT S) p + pT S p := rfl; unfold tot rs; omega
    have h144 := tot_le w
    obtain ⟨hw1, hw2, hw3⟩ := wk_at w p hp k (by omega)
    have hw3 : wl S (rs S p + k) = L := by rw [hw3, hLe]
    have hL4 : L < 4 := by rw [← hw3]; exact (wl_lt w _ hrt).1
    refine Y_iload 42 rfl (pc2 := 81) rfl rfl ?_
    refine Y_sipush 43 rfl (pc2 := 84) rfl (v := nI 144) (by decide) ?_
    refine Y_icmp_gen 44 rfl (pc2 := 87) rfl (tgt := 148) (by decide) (by omega) (by omega) (fun h84 => ?_) (fun h84 => ?_)
    · omega
    · refine Y_iload 45 rfl (pc2 := 89) rfl rfl ?_
      refine Y_iload_n 46 rfl (pc2 := 90) rfl rfl ?_
      refine Y_icmp_ne 47 rfl (pc2 := 93) rfl (tgt := 95) (by decide) (fun h90 => ?_) (fun h90 => ?_)
      · refine Y_aload_n 50 rfl (pc2 := 96) rfl rfl ?_
        refine Y_dup 51 rfl (pc2 := 97) rfl rfl ?_
        refine Y_getI 52 rfl (pc2 := 100) rfl fl_wa_21 ly_wa (by decide) rfl ?_
        refine Y_top (wk_t) ?_
        refine Y_aload_n 53 rfl (pc2 := 101) rfl rfl ?_
        refine Y_aload_n 54 rfl (pc2 := 102) rfl rfl ?_
        refine Y_getI 55 rfl (pc2 := 105) rfl fl_wa_9 ly_wa (by decide) rfl ?_
        refine Y_top (wk_c) ?_
        refine Y_aald 56 rfl (pc2 := 106) rfl ly_ghC (by decide) (fun _ => rfl) rfl (by omega) (by decide) (ly_ghC_at (by omega)) (by omega) ?_
        refine Y_getI 57 rfl (pc2 := 109) rfl fl_wa_43 (ly_ci (by omega)) (by decide) rfl ?_
        refine Y_top (((RC_wk h).b _ (by omega)).trans (w.b _ (by omega)).1) ?_
        refine Y_bipush 58 rfl (pc2 := 111) rfl (v := nI 32) (by decide) ?_
        refine Y_aload_n 59 rfl (pc2 := 112) rfl rfl ?_
        refine Y_getI 60 rfl (pc2 := 115) rfl fl_wa_15 ly_wa (by decide) rfl ?_
        refine Y_top (wk_l) ?_
        refine Y_ishl 61 rfl (pc2 := 116) rfl ?_
        refine Y_top (sh_32 hL4) ?_
        refine Y_imul 62 rfl (pc2 := 117) rfl ?_
        refine Y_top (nI_mul _ _) ?_
        refine Y_iadd 63 rfl (pc2 := 118) rfl ?_
        refine Y_top (nI_add _ _) ?_
        refine Y_putI 64 rfl (pc2 := 121) rfl fl_wa_21 ly_wa (by decide) ⟨rfl, rfl⟩ ⟨_, _, _, rfl, rfl⟩ rfl ?_
        refine Y_mem wk_st ?_
        refine Y_aload_n 65 rfl (pc2 := 122) rfl rfl ?_
        refine Y_aload_n 66 rfl (pc2 := 123) rfl rfl ?_
        refine Y_getR 67 rfl (pc2 := 126) rfl fl_wa_48 ly_pi (by decide) rfl rfl (by omega) ?_
        refine Y_iload 68 rfl (pc2 := 128) rfl rfl ?_
        refine Y_iald 69 rfl (pc2 := 129) rfl ly_piS rfl (by omega) (by decide) ?_
        refine Y_top ((RC_wk h).sg _ (by omega)) ?_
        refine Y_aload_n 70 rfl (pc2 := 130) rfl rfl ?_
        refine Y_getI 71 rfl (pc2 := 133) rfl fl_wa_15 ly_wa (by decide) rfl ?_
        refine Y_top (wk_l) ?_
        refine Y_cS 72 rfl (pc2 := 136) rfl ok_wa_toldOr lk_wa_36 vs_wa_toldOr (as := [.int _, .int _]) (rest := [.ref _]) rfl rfl T_wa_toldOr ?_
        rintro _ _ ⟨rfl, rfl⟩
        change Y _ _ _ _ _ [.int _, .ref _] _ _
        refine Y_top (oC_or (w.r _ (by omega))) ?_
        refine Y_putI 73 rfl (pc2 := 139) rfl fl_wa_15 ly_wa (by decide) ⟨rfl, rfl⟩ ⟨_, _, _, rfl, rfl⟩ rfl ?_
        refine Y_mem wk_sl ?_
        refine Y_iinc 74 rfl (pc2 := 142) rfl rfl (nI_inc _ 1) (ls2 := [some (.ref _), some (.ref _), some (.ref _), some (.int _), some (.int _), some (.int _)]) rfl ?_
        refine Y_iinc 75 rfl (pc2 := 145) rfl rfl (nI_inc _ 1) (ls2 := [some (.ref _), some (.ref _), some (.ref _), some (.int _), some (.int _), some (.int _)]) rfl ?_
        refine Y_goto 76 rfl (pc2 := 65) (by decide) ?_
        have e1 : plv S (rs S p + (k + 1)) = sg S (rs S p + k) L := by show sg S (rs S p + k) (wl S (rs S p + k)) = _; rw [hw3]
        have e2 : ptk S (rs S p + (k + 1)) = ptk S (rs S p + k) + bt S (pC S p) * (32 * 2 ^ L) := by show wt S (rs S p + k) + bt S (pC S (wp S (rs S p + k))) * (32 * 2 ^ wl S (rs S p + k)) = _; rw [hw3, hw1, wt_is]
        have hi := ih (k + 1) (by omega) (by omega) _ (by rw [if_neg (by omega)]) (fun r hr => if e : r < rs S p + k then hg r e else by rw [show r = rs S p + k by omega]; exact fun q => h90 q.symm)
        rw [e1, e2] at hi
        exact hi
      · refine Y_iconst 48 rfl (pc2 := 94) rfl (v := nI 1) (by decide) ?_
        refine Y_iret 49 rfl rfl rfl ⟨rfl, ?_⟩
        exact Or.inl ⟨rs S p + k, by have := su_mono (f := pT S) (a := p + 1) (pn S) (by omega); have e : rs S (p + 1) = rs S p + pT S p := rfl; unfold tot; unfold rs at *; omega, (by first | exact h90.symm | exact (Classical.byContradiction h90).symm), rfl, by rw [hw1, hw3, wt_is]⟩

set_option maxHeartbeats 400000 in
theorem L_outer {G : Nat × (Nat → Int32)} {m : Mm} {S : Mm} (h : RC m S) (w : WF S) {gl : Int32} : ∀ p, p ≤ pn S → (∀ r, r < rs S p → ¬ gl = nI r) → ∀ (c : Int32) (u : Option Value), Y G M_wa_reaches (0, 0) 18 [some (.ref 13), some (.ref 8), some (.ref 6), some (.int gl), some (.int (nI (rs S p))), u] [] (LAY, wk m c (nI (plv S (rs S p))) (nI p) (nI (ptk S (rs S p)))) (qm_ LAY (pW m S gl)) := by
  have hp16 := w.p.2
  refine ind_ (fun p hp ih hg c u => ?_)
  refine Y_aload_n 11 rfl (pc2 := 19) rfl rfl ?_
  refine Y_getI 12 rfl (pc2 := 22) rfl fl_wa_18 ly_wa (by decide) rfl ?_
  refine Y_top (wk_p) ?_
  refine Y_aload_n 13 rfl (pc2 := 23) rfl rfl ?_
  refine Y_getI 14 rfl (pc2 := 26) rfl fl_wa_24 ly_pi (by decide) rfl ?_
  refine Y_top ((RC_wk h).p.trans w.p.1) ?_
  refine Y_icmp_gen 15 rfl (pc2 := 29) rfl (tgt := 161) (by decide) (by omega) (by omega) (fun h26 => ?_) (fun h26 => ?_)
  · refine Y_iconst 84 rfl (pc2 := 162) rfl (v := nI 0) (by decide) ?_
    refine Y_iret 85 rfl rfl rfl ⟨rfl, ?_⟩
    refine Or.inr ⟨?_, rfl, c, nI (plv S (rs S p)), nI p, ?_⟩
    · rintro ⟨r, hr, e⟩
      exact hg r (by unfold tot at hr; rw [show p = pn S by omega]; exact hr) e
    · rw [show tot S = rs S p by rw [show p = pn S by omega]; rfl]
  · refine Y_aload_n 16 rfl (pc2 := 30) rfl rfl ?_
    refine Y_aload_n 17 rfl (pc2 := 31) rfl rfl ?_
    refine Y_getR 18 rfl (pc2 := 34) rfl fl_wa_29 ly_pi (by decide) rfl rfl (by omega) ?_
    refine Y_aload_n 19 rfl (pc2 := 35) rfl rfl ?_
    refine Y_getI 20 rfl (pc2 := 38) rfl fl_wa_18 ly_wa (by decide) rfl ?_
    refine Y_top (wk_p) ?_
    refine Y_iald 21 rfl (pc2 := 39) rfl ly_piC rfl (by omega) (by decide) ?_
    refine Y_top (((RC_wk h).c _ (by omega)).trans (w.c _ (by omega)).1) ?_
    refine Y_putI 22 rfl (pc2 := 42) rfl fl_wa_9 ly_wa (by decide) ⟨rfl, rfl⟩ ⟨_, _, _, rfl, rfl⟩ rfl ?_
    refine Y_mem wk_sc ?_
    refine Y_aload_n 23 rfl (pc2 := 43) rfl rfl ?_
    refine Y_aload_n 24 rfl (pc2 := 44) rfl rfl ?_
    refine Y_getR 25 rfl (pc2 := 47) rfl fl_wa_33 ly_pi (by decide) rfl rfl (by omega) ?_
    refine Y_aload_n 26 rfl (pc2 := 48) rfl rfl ?_
    refine Y_getI 27 rfl (pc2 := 51) rfl fl_wa_18 ly_wa (by decide) rfl ?_
    refine Y_top (wk_p) ?_
    refine Y_iald 28 rfl (pc2 := 52) rfl ly_piL rfl (by omega) (by decide) ?_
    refine Y_top ((RC_wk h).pl _ (by omega)) ?_
    refine Y_aload_n 29 rfl (pc2 := 53) rfl rfl ?_
    refine Y_getI 30 rfl (pc2 := 56) rfl fl_wa_15 ly_wa (by decide) rfl ?_
    refine Y_top (wk_l) ?_
    refine Y_cS 31 rfl (pc2 := 59) rfl ok_wa_toldOr lk_wa_36 vs_wa_toldOr (as := [.int _, .int _]) (rest := [.ref _]) rfl rfl T_wa_toldOr ?_
    rintro _ _ ⟨rfl, rfl⟩
    change Y _ _ _ _ _ [.int _, .ref _] _ _
    refine Y_top (oC_or (w.l _ (by omega))) ?_
    refine Y_putI 32 rfl (pc2 := 62) rfl fl_wa_15 ly_wa (by decide) ⟨rfl, rfl⟩ ⟨_, _, _, rfl, rfl⟩ rfl ?_
    refine Y_mem wk_sl ?_
    refine Y_iconst 33 rfl (pc2 := 63) rfl (v := nI 0) (by decide) ?_
    refine Y_istore 34 rfl (pc2 := 65) rfl (Nat.le_of_ble_eq_true rfl) (ls2 := [some (.ref _), some (.ref _), some (.ref _), some (.int _), some (.int _), some (.int _)]) rfl ?_
    exact L_inner h w (by omega) (fun a b c => ih (p + 1) (by omega) (by omega) a b c) 0 (Nat.zero_le _) _ rfl hg

set_option maxHeartbeats 400000 in
theorem T_wa_reaches {G : Nat × (Nat → Int32)} {m : Mm} {S : Mm} (h : RC m S) (w : WF S) {gl : Int32} : Y G M_wa_reaches (0, 0) 0 (en_ M_wa_reaches [.ref 13, .ref 8, .ref 6, .int gl]) [] (LAY, m) (qm_ LAY (pW m S gl)) := by
  change Y _ _ _ _ [some (.ref _), some (.ref _), some (.ref _), some (.int _), none, none] _ _ _
  refine Y_iconst 0 rfl (pc2 := 1) rfl (v := nI 0) (by decide) ?_
  refine Y_istore 1 rfl (pc2 := 3) rfl (Nat.le_of_ble_eq_true rfl) (ls2 := [some (.ref _), some (.ref _), some (.ref _), some (.int _), some (.int _), none]) rfl ?_
  refine Y_mem wk_id ?_
  refine Y_aload_n 2 rfl (pc2 := 4) rfl rfl ?_
  refine Y_iconst 3 rfl (pc2 := 5) rfl (v := nI 0) (by decide) ?_
  refine Y_putI 4 rfl (pc2 := 8) rfl fl_wa_15 ly_wa (by decide) ⟨rfl, rfl⟩ ⟨_, _, _, rfl, rfl⟩ rfl ?_
  refine Y_mem wk_sl ?_
  refine Y_aload_n 5 rfl (pc2 := 9) rfl rfl ?_
  refine Y_iconst 6 rfl (pc2 := 10) rfl (v := nI 0) (by decide) ?_
  refine Y_putI 7 rfl (pc2 := 13) rfl fl_wa_21 ly_wa (by decide) ⟨rfl, rfl⟩ ⟨_, _, _, rfl, rfl⟩ rfl ?_
  refine Y_mem wk_st ?_
  refine Y_aload_n 8 rfl (pc2 := 14) rfl rfl ?_
  refine Y_iconst 9 rfl (pc2 := 15) rfl (v := nI 0) (by decide) ?_
  refine Y_putI 10 rfl (pc2 := 18) rfl fl_wa_18 ly_wa (by decide) ⟨rfl, rfl⟩ ⟨_, _, _, rfl, rfl⟩ rfl ?_
  refine Y_mem wk_sp ?_
  exact L_outer h w 0 (Nat.zero_le _) (fun r hr => absurd hr (Nat.not_lt_zero r)) _ _
end
section
/-! the class: its questions -/
def NO_ : Int32 := -1000000002
noncomputable def sp_told (S : Mm) (x y z : Int32) : Int32 := cI (iR x 4 ∧ iR y (bt S (nv x)) ∧ iR z 3) (if z = nI 0 then oC (S 155 (32 * nv x + nv y)) else if z = nI 1 then tone S (nv x) (nv y) else oC (S 156 (32 * nv x + nv y))) BAD_
noncomputable def sp_isOf (S : Mm) (x y z : Int32) : Int32 := cI (iR x 4 ∧ iR y (bt S (nv x)) ∧ iR z 4) (if S 156 (32 * nv x + nv y) < 0 then NO_ else bI (nv z = 0 ∨ nv (S 156 (32 * nv x + nv y)) = nv z ∨ (nv z = 2 ∧ nv (S 156 (32 * nv x + nv y)) = 3))) BAD_
noncomputable def sp_wrong (S : Mm) (x y : Int32) : Int32 := cI (iR x 4 ∧ iR y 6) (wO S (nv x) (nv y)) BAD_
noncomputable def sp_round (S : Mm) (x y : Int32) : Int32 := cI (iR x (tot S) ∧ iR y 4) (if y = nI 0 then nI (pC S (wp S (nv x))) else if y = nI 1 then nI (wl S (nv x)) else if y = nI 2 then nI (wp S (nv x)) else nI (wt S (nv x))) BAD_
def cA_ (S : Mm) (r : Nat) : Nat := pC S (wp S r)
def goo (S : Mm) (x y z : Int32) : Prop := iR x (tot S) ∧ iR y (bt S (cA_ S (nv x))) ∧ iR z (2 ^ (wl S (nv x) + 1))
noncomputable def sp_plays (S : Mm) (p x y z : Int32) : Int32 := cI (iR p 4 ∧ goo S x y z) (if nv p = 1 ∨ nv p = 2 then kA S (cA_ S (nv x)) (wl S (nv x)) (nv p - 1) (nv y) (nv z) else if 0 < nv z then NONE_ else if nv p = 0 then oC (S 155 (32 * cA_ S (nv x) + nv y)) else oC (S 156 (32 * cA_ S (nv x) + nv y))) BAD_
def hP (x : Int32) : Prop := ∃ g, g < 2 ∧ x = nI (g + 1)
def dmp (k q : Int32) : Int32 := if k = NONE_ ∨ k = q then NONE_ else q
noncomputable def sp_damps (S : Mm) (p x y z : Int32) : Int32 := cI (hP p ∧ goo S x y z) (dmp (kA S (cA_ S (nv x)) (wl S (nv x)) (nv p - 1) (nv y) (nv z)) (kH S (cA_ S (nv x)) (wl S (nv x)) (nv p - 1) (nv y) (nv z))) BAD_
noncomputable def sp_strikes (S : Mm) (p x : Int32) : Int32 := cI (iR p 4 ∧ iR x (tot S)) (if nv p = 0 then nI (cnt (fun b => ¬ S 155 (32 * cA_ S (nv x) + b) < 0) (bt S (cA_ S (nv x)))) else if nv p = 3 then nI (cnt (fun b => ¬ S 156 (32 * cA_ S (nv x) + b) < 0) (bt S (cA_ S (nv x)))) else nI (su (fun b => cnt (fun s => ¬ S 157 (ix (wl S (nv x)) (us S (wl S (nv x)) (turn S (cA_ S (nv x)) b)) (nv p - 1) s) = -9) (2 ^ (wl S (nv x) + 1))) (bt S (cA_ S (nv x))))) BAD_
def sp_ticks (S : Mm) : Int32 := nI (ptk S (tot S))
noncomputable def sp_count (S : Mm) (x : Int32) : Int32 := cI (iR x 7) (if nv x = 0 then nI (su (bt S) 4) else if nv x = 1 then nI (su (fun c => cnt (fun b => ¬ S 156 (32 * c + b) < 0) (bt S c)) 4) else if nv x = 2 then nI (su (fun l => cnt (fun f => wS S l f = 2 ^ (l + 1)) 6) 4) else if nv x = 3 then S 153 6 else if nv x = 4 then nI (tot S) else if nv x = 5 then nI (sigs S) else S 153 12) BAD_
set_option maxHeartbeats 400000 in
theorem pc_0 {m S : Mm} {x y : Int32} (h : RC m S) (e : y = x) : pc_ x m S (some (.int y)) m := ⟨by rw [e], h, fun _ _ => rfl⟩
set_option maxHeartbeats 400000 in
theorem pc_w {m S : Mm} {x y a b c d : Int32} (h : RC m S) (e : y = x) : pc_ x m S (some (.int y)) (wk m a b c d) := ⟨by rw [e], RC_wk h, fun q hq => wk_ne (by omega)⟩
set_option maxHeartbeats 400000 in
theorem hP_is {x : Int32} : (0 < x ∧ x < nI 3) ↔ hP x := by
  constructor
  · rintro ⟨h1, h2⟩
    have h3 : ¬ x < 0 := Int32.not_lt.mpr (Int32.le_of_lt h1)
    obtain ⟨j, hj, rfl⟩ := nI_of h3
    have a := (nI_ltI hj (by decide)).mp h2
    have b : 0 < j := (nI_ltI (by decide) hj).mp (by rw [nI_0]; exact h1)
    exact ⟨j - 1, by omega, by congr 1; omega⟩
  · rintro ⟨g, hg, rfl⟩
    exact ⟨by rw [← nI_0]; exact (nI_ltI (by decide) (by omega)).mpr (by omega), (nI_ltI (by omega) (by decide)).mpr (by omega)⟩
set_option maxHeartbeats 400000 in
theorem T_gh_isHalf {G : Nat × (Nat → Int32)} {m : Mm} {x : Int32} : Y G M_gh_isHalfPlayer (0, 0) 0 (en_ M_gh_isHalfPlayer [.int x]) [] (LAY, m) (qm_ LAY (pu_ (bI (hP x)) m)) := by
  rw [← bI_c hP_is]
  exact T_gh_isHalfPlayer
set_option maxHeartbeats 400000 in
theorem hP_n {q : Nat} (hq : q < 2 ^ 31) : hP (nI q) ↔ (q = 1 ∨ q = 2) := by
  constructor
  · rintro ⟨g, hg, e⟩
    have := (nI_eq hq (by omega)).mp e
    omega
  · rintro (rfl | rfl)
    · exact ⟨0, by omega, rfl⟩
    · exact ⟨1, by omega, rfl⟩
def pG (m S : Mm) (x y z : Int32) : Option Value → Mm → Prop := fun v m' => (∃ r b s, r < tot S ∧ x = nI r ∧ b < bt S (cA_ S r) ∧ y = nI b ∧ s < 2 ^ (wl S r + 1) ∧ z = nI s ∧ v = some (.int (nI 1)) ∧ m' = wk m (nI (cA_ S r)) (nI (wl S r)) (nI (wp S r)) (nI (wt S r))) ∨ (¬ goo S x y z ∧ v = some (.int (nI 0)) ∧ ∃ c l p t, m' = wk m c l p t)

set_option maxHeartbeats 400000 in
theorem T_gh_told {G : Nat × (Nat → Int32)} {m : Mm} {S : Mm} (h : RC m S) (w : WF S) {x y z : Int32} : Y G M_gh_told (0, 0) 0 (en_ M_gh_told [.ref (0), .int (x), .int (y), .int (z)]) [] (LAY, m) (qm_ LAY (pc_ (sp_told S x y z) m S)) := by
  change Y _ _ _ _ [some (.ref _), some (.int _), some (.int _), some (.int _)] _ _ _
  refine Y_aload_n 0 rfl (pc2 := 1) rfl rfl ?_
  refine Y_iload_n 1 rfl (pc2 := 2) rfl rfl ?_
  refine Y_iload_n 2 rfl (pc2 := 3) rfl rfl ?_
  refine Y_cV 3 rfl (pc2 := 6) rfl ok_gh_hasBeat lk_gh_93 vi_gh_hasBeat ly_gh rfl (by decide) rfl (as := [.int _, .int _]) (rest := []) rfl rfl (T_gh_hasBeat h w) ?_
  rintro _ _ ⟨rfl, rfl⟩
  change Y _ _ _ _ _ [.int _] _ _
  refine Y_if_neb 4 rfl (pc2 := 9) rfl (tgt := 12) (by decide) (fun h6 => ?_) (fun h6 => ?_)
  · obtain ⟨⟨c, hc, rfl⟩, hy⟩ := h6
    rw [nv_nI (by omega)] at hy
    obtain ⟨b, hb, rfl⟩ := hy
    have hn := (w.b c hc).2
    refine Y_iload_n 7 rfl (pc2 := 13) rfl rfl ?_
    refine Y_tsw 8 rfl (n := 3) (by decide) (by decide) rfl (by decide) (tgt := 76) (by decide) (fun h13 => ?_) (fun j hj h13 => ?_)
    · refine Y_ldc 33 rfl (pc2 := 78) rfl kc_gh_75 ?_
      refine Y_iret 34 rfl rfl rfl ⟨rfl, ?_⟩
      exact pc_0 h (by unfold sp_told; rw [cI_f (fun e => h13 e.2.2)]; rfl)
    · have hj2 : j = 0 ∨ j = 1 ∨ j = 2 := by omega
      rcases hj2 with rfl | rfl | rfl
      · change Y _ _ _ 40 _ _ _ _
        subst h13
        refine Y_aload_n 9 rfl (pc2 := 41) rfl rfl ?_
        refine Y_getR 10 rfl (pc2 := 44) rfl fl_gh_25 ly_gh (by decide) rfl rfl (by omega) ?_
        refine Y_iload_n 11 rfl (pc2 := 45) rfl rfl ?_
        refine Y_aald 12 rfl (pc2 := 46) rfl ly_ghC (by decide) (fun _ => rfl) rfl (by omega) (by decide) (ly_ghC_at (by omega)) (by omega) ?_
        refine Y_getR 13 rfl (pc2 := 49) rfl fl_gh_96 (ly_ci (by omega)) (by decide) rfl rfl (by omega) ?_
        refine Y_iload_n 14 rfl (pc2 := 50) rfl rfl ?_
        refine Y_iald 15 rfl (pc2 := 51) rfl (ly_ciN (by omega)) rfl (by omega) (by decide) ?_
        refine Y_top (h.n _ _ (by omega) (by omega)) ?_
        refine Y_iret 16 rfl rfl rfl ⟨rfl, ?_⟩
        exact pc_0 h (by unfold sp_told; rw [cI_t ⟨⟨c, hc, rfl⟩, by rw [nv_nI (by omega)]; exact ⟨b, hb, rfl⟩, ⟨0, by omega, rfl⟩⟩, nv_nI (by omega), nv_nI (by omega)]; rw [if_pos rfl])
      · change Y _ _ _ 52 _ _ _ _
        subst h13
        refine Y_aload_n 17 rfl (pc2 := 53) rfl rfl ?_
        refine Y_getR 18 rfl (pc2 := 56) rfl fl_gh_25 ly_gh (by decide) rfl rfl (by omega) ?_
        refine Y_iload_n 19 rfl (pc2 := 57) rfl rfl ?_
        refine Y_aald 20 rfl (pc2 := 58) rfl ly_ghC (by decide) (fun _ => rfl) rfl (by omega) (by decide) (ly_ghC_at (by omega)) (by omega) ?_
        refine Y_getR 21 rfl (pc2 := 61) rfl fl_gh_100 (ly_ci (by omega)) (by decide) rfl rfl (by omega) ?_
        refine Y_iload_n 22 rfl (pc2 := 62) rfl rfl ?_
        refine Y_iald 23 rfl (pc2 := 63) rfl (ly_ciT (by omega)) rfl (by omega) (by decide) ?_
        refine Y_top (h.t _ _ (by omega) (by omega)) ?_
        refine Y_iret 24 rfl rfl rfl ⟨rfl, ?_⟩
        exact pc_0 h (by unfold sp_told; rw [cI_t ⟨⟨c, hc, rfl⟩, by rw [nv_nI (by omega)]; exact ⟨b, hb, rfl⟩, ⟨1, by omega, rfl⟩⟩, nv_nI (by omega), nv_nI (by omega)]; rw [if_neg (by decide), if_pos rfl])
      · change Y _ _ _ 64 _ _ _ _
        subst h13
        refine Y_aload_n 25 rfl (pc2 := 65) rfl rfl ?_
        refine Y_getR 26 rfl (pc2 := 68) rfl fl_gh_25 ly_gh (by decide) rfl rfl (by omega) ?_
        refine Y_iload_n 27 rfl (pc2 := 69) rfl rfl ?_
        refine Y_aald 28 rfl (pc2 := 70) rfl ly_ghC (by decide) (fun _ => rfl) rfl (by omega) (by decide) (ly_ghC_at (by omega)) (by omega) ?_
        refine Y_getR 29 rfl (pc2 := 73) rfl fl_gh_103 (ly_ci (by omega)) (by decide) rfl rfl (by omega) ?_
        refine Y_iload_n 30 rfl (pc2 := 74) rfl rfl ?_
        refine Y_iald 31 rfl (pc2 := 75) rfl (ly_ciG (by omega)) rfl (by omega) (by decide) ?_
        refine Y_top (h.g _ _ (by omega) (by omega)) ?_
        refine Y_iret 32 rfl rfl rfl ⟨rfl, ?_⟩
        exact pc_0 h (by unfold sp_told; rw [cI_t ⟨⟨c, hc, rfl⟩, by rw [nv_nI (by omega)]; exact ⟨b, hb, rfl⟩, ⟨2, by omega, rfl⟩⟩, nv_nI (by omega), nv_nI (by omega)]; rw [if_neg (by decide), if_neg (by decide)])
  · refine Y_ldc 5 rfl (pc2 := 11) rfl kc_gh_75 ?_
    refine Y_iret 6 rfl rfl rfl ⟨rfl, ?_⟩
    exact pc_0 h (by unfold sp_told; rw [cI_f (fun e => h6 ⟨e.1, e.2.1⟩)]; rfl)

set_option maxHeartbeats 400000 in
theorem T_gh_isOf {G : Nat × (Nat → Int32)} {m : Mm} {S : Mm} (h : RC m S) (w : WF S) {x y z : Int32} : Y G M_gh_isOf (0, 0) 0 (en_ M_gh_isOf [.ref (0), .int (x), .int (y), .int (z)]) [] (LAY, m) (qm_ LAY (pc_ (sp_isOf S x y z) m S)) := by
  change Y _ _ _ _ [some (.ref _), some (.int _), some (.int _), some (.int _), none] _ _ _
  refine Y_aload_n 0 rfl (pc2 := 1) rfl rfl ?_
  refine Y_iload_n 1 rfl (pc2 := 2) rfl rfl ?_
  refine Y_iload_n 2 rfl (pc2 := 3) rfl rfl ?_
  refine Y_cV 3 rfl (pc2 := 6) rfl ok_gh_hasBeat lk_gh_93 vi_gh_hasBeat ly_gh rfl (by decide) rfl (as := [.int _, .int _]) (rest := []) rfl rfl (T_gh_hasBeat h w) ?_
  rintro _ _ ⟨rfl, rfl⟩
  change Y _ _ _ _ _ [.int _] _ _
  refine Y_if_eqb 4 rfl (pc2 := 9) rfl (tgt := 17) (by decide) (fun h6 => ?_) (fun h6 => ?_)
  · refine Y_ldc 9 rfl (pc2 := 19) rfl kc_gh_75 ?_
    refine Y_iret 10 rfl rfl rfl ⟨rfl, ?_⟩
    first | exact pc_0 h (by unfold sp_isOf; rw [cI_f (fun e => h6 ⟨e.1, e.2.1⟩)]; rfl) | exact pc_0 h (by unfold sp_isOf; rw [cI_f (fun e => h14 e.2.2)]; rfl)
  · refine Y_iload_n 5 rfl (pc2 := 10) rfl rfl ?_
    refine Y_iconst 6 rfl (pc2 := 11) rfl (v := nI 4) (by decide) ?_
    refine Y_cS 7 rfl (pc2 := 14) rfl ok_gh_isBelow lk_gh_80 vs_gh_isBelow (as := [.int _, .int _]) (rest := []) rfl rfl (T_gh_isBelow (by omega)) ?_
    rintro _ _ ⟨rfl, rfl⟩
    change Y _ _ _ _ _ [.int _] _ _
    refine Y_if_neb 8 rfl (pc2 := 17) rfl (tgt := 20) (by decide) (fun h14 => ?_) (fun h14 => ?_)
    · obtain ⟨⟨c, hc, rfl⟩, hy⟩ := h6
      rw [nv_nI (by omega)] at hy
      obtain ⟨b, hb, rfl⟩ := hy
      have hn := (w.b c hc).2
      obtain ⟨k, hk, rfl⟩ := h14
      have hor := w.g (32 * c + b) (by omega)
      have hon := oC_none (by decide) hor
      refine Y_aload_n 11 rfl (pc2 := 21) rfl rfl ?_
      refine Y_getR 12 rfl (pc2 := 24) rfl fl_gh_25 ly_gh (by decide) rfl rfl (by omega) ?_
      refine Y_iload_n 13 rfl (pc2 := 25) rfl rfl ?_
      refine Y_aald 14 rfl (pc2 := 26) rfl ly_ghC (by decide) (fun _ => rfl) rfl (by omega) (by decide) (ly_ghC_at (by omega)) (by omega) ?_
      refine Y_getR 15 rfl (pc2 := 29) rfl fl_gh_103 (ly_ci (by omega)) (by decide) rfl rfl (by omega) ?_
      refine Y_iload_n 16 rfl (pc2 := 30) rfl rfl ?_
      refine Y_iald 17 rfl (pc2 := 31) rfl (ly_ciG (by omega)) rfl (by omega) (by decide) ?_
      refine Y_top (h.g _ _ (by omega) (by omega)) ?_
      refine Y_istore 18 rfl (pc2 := 33) rfl (Nat.le_of_ble_eq_true rfl) (ls2 := [some (.ref _), some (.int _), some (.int _), some (.int _), some (.int _)]) rfl ?_
      refine Y_iload 19 rfl (pc2 := 35) rfl rfl ?_
      refine Y_ldc 20 rfl (pc2 := 37) rfl kc_gh_84 ?_
      refine Y_icmp_ne 21 rfl (pc2 := 40) rfl (tgt := 43) (by decide) (fun h37 => ?_) (fun h37 => ?_)
      · have hneg := mt hon.mpr h37
        rcases hor with e0 | ⟨g, hg, e0⟩
        · exact absurd (by rw [e0]; decide) hneg
        rw [oC_id hneg, e0]
        refine Y_iload 24 rfl (pc2 := 45) rfl rfl ?_
        refine Y_iload_n 25 rfl (pc2 := 46) rfl rfl ?_
        refine Y_cS 26 rfl (pc2 := 49) rfl ok_gh_standsUnder lk_gh_106 vs_gh_standsUnder (as := [.int _, .int _]) (rest := []) rfl rfl (T_gh_standsUnder (by omega) (by omega)) ?_
        rintro _ _ ⟨rfl, rfl⟩
        change Y _ _ _ _ _ [.int _] _ _
        refine Y_if_eqb 27 rfl (pc2 := 52) rfl (tgt := 56) (by decide) (fun h49 => ?_) (fun h49 => ?_)
        · refine Y_iconst 30 rfl (pc2 := 57) rfl (v := nI 0) (by decide) ?_
          refine Y_iret 31 rfl rfl rfl ⟨rfl, ?_⟩
          exact pc_0 h (by unfold sp_isOf; rw [cI_t ⟨⟨c, hc, rfl⟩, by rw [nv_nI (by omega)]; exact ⟨b, hb, rfl⟩, ⟨k, by omega, rfl⟩⟩, nv_nI (by omega), nv_nI (by omega)]; rw [if_neg hneg, e0, nv_nI (by omega), nv_nI (by omega)]; first | (rw [bI_t h49]; rfl) | (rw [bI_f h49]; rfl))
        · refine Y_iconst 28 rfl (pc2 := 53) rfl (v := nI 1) (by decide) ?_
          refine Y_goto 29 rfl (pc2 := 57) (by decide) ?_
          refine Y_iret 31 rfl rfl rfl ⟨rfl, ?_⟩
          exact pc_0 h (by unfold sp_isOf; rw [cI_t ⟨⟨c, hc, rfl⟩, by rw [nv_nI (by omega)]; exact ⟨b, hb, rfl⟩, ⟨k, by omega, rfl⟩⟩, nv_nI (by omega), nv_nI (by omega)]; rw [if_neg hneg, e0, nv_nI (by omega), nv_nI (by omega)]; first | (rw [bI_t h49]; rfl) | (rw [bI_f h49]; rfl))
      · refine Y_ldc 22 rfl (pc2 := 42) rfl kc_gh_88 ?_
        refine Y_iret 23 rfl rfl rfl ⟨rfl, ?_⟩
        exact pc_0 h (by unfold sp_isOf; rw [cI_t ⟨⟨c, hc, rfl⟩, by rw [nv_nI (by omega)]; exact ⟨b, hb, rfl⟩, ⟨k, by omega, rfl⟩⟩, nv_nI (by omega), nv_nI (by omega)]; rw [if_pos (hon.mp (by first | exact h37 | exact Classical.byContradiction h37))]; rfl)
    · refine Y_ldc 9 rfl (pc2 := 19) rfl kc_gh_75 ?_
      refine Y_iret 10 rfl rfl rfl ⟨rfl, ?_⟩
      first | exact pc_0 h (by unfold sp_isOf; rw [cI_f (fun e => h6 ⟨e.1, e.2.1⟩)]; rfl) | exact pc_0 h (by unfold sp_isOf; rw [cI_f (fun e => h14 e.2.2)]; rfl)

set_option maxHeartbeats 400000 in
theorem T_gh_wrong {G : Nat × (Nat → Int32)} {m : Mm} {S : Mm} (h : RC m S) (w : WF S) {x y : Int32} : Y G M_gh_wrong (0, 0) 0 (en_ M_gh_wrong [.ref (0), .int (x), .int (y)]) [] (LAY, m) (qm_ LAY (pc_ (sp_wrong S x y) m S)) := by
  change Y _ _ _ _ [some (.ref _), some (.int _), some (.int _)] _ _ _
  refine Y_iload_n 0 rfl (pc2 := 1) rfl rfl ?_
  refine Y_iload_n 1 rfl (pc2 := 2) rfl rfl ?_
  refine Y_cS 2 rfl (pc2 := 5) rfl ok_gh_hasFigure lk_gh_127 vs_gh_hasFigure (as := [.int _, .int _]) (rest := []) rfl rfl T_gh_hasFigure ?_
  rintro _ _ ⟨rfl, rfl⟩
  change Y _ _ _ _ _ [.int _] _ _
  refine Y_if_neb 3 rfl (pc2 := 8) rfl (tgt := 11) (by decide) (fun h5 => ?_) (fun h5 => ?_)
  · obtain ⟨⟨l, hl, rfl⟩, ⟨f, hf, rfl⟩⟩ := h5
    refine Y_aload_n 6 rfl (pc2 := 12) rfl rfl ?_
    refine Y_getR 7 rfl (pc2 := 15) rfl fl_gh_31 ly_gh (by decide) rfl rfl (by omega) ?_
    refine Y_iload_n 8 rfl (pc2 := 16) rfl rfl ?_
    refine Y_aald 9 rfl (pc2 := 17) rfl ly_ghL (by decide) (fun _ => rfl) rfl (by omega) (by decide) (ly_ghL_at (by omega)) (by omega) ?_
    refine Y_getR 10 rfl (pc2 := 20) rfl fl_gh_117 (ly_le (by omega)) (by decide) rfl rfl (by omega) ?_
    refine Y_iload_n 11 rfl (pc2 := 21) rfl rfl ?_
    refine Y_aald 12 rfl (pc2 := 22) rfl (ly_leF (by omega)) (by decide) (fun _ => rfl) rfl (by omega) (by decide) (ly_leF_at (by omega)) (by omega) ?_
    refine Y_cV 13 rfl (pc2 := 25) rfl ok_fi_firstWrongStep lk_gh_154 vi_fi_firstWrongStep (ly_fi (by omega) (by omega)) rfl (by decide) rfl (as := []) (rest := []) rfl rfl (T_fi_firstWrongStep h w (by omega) (by omega)) ?_
    rintro _ _ ⟨rfl, rfl⟩
    change Y _ _ _ _ _ [.int _] _ _
    refine Y_iret 14 rfl rfl rfl ⟨rfl, ?_⟩
    exact pc_0 h (by unfold sp_wrong; rw [cI_t ⟨⟨l, hl, rfl⟩, ⟨f, hf, rfl⟩⟩, nv_nI (by omega), nv_nI (by omega)])
  · refine Y_ldc 4 rfl (pc2 := 10) rfl kc_gh_75 ?_
    refine Y_iret 5 rfl rfl rfl ⟨rfl, ?_⟩
    exact pc_0 h (by unfold sp_wrong; rw [cI_f h5]; rfl)

set_option maxHeartbeats 400000 in
theorem T_gh_round {G : Nat × (Nat → Int32)} {m : Mm} {S : Mm} (h : RC m S) (w : WF S) {x y : Int32} : Y G M_gh_round (0, 0) 0 (en_ M_gh_round [.ref (0), .int (x), .int (y)]) [] (LAY, m) (qm_ LAY (pc_ (sp_round S x y) m S)) := by
  change Y _ _ _ _ [some (.ref _), some (.int _), some (.int _)] _ _ _
  have h144 := tot_le w
  refine Y_aload_n 0 rfl (pc2 := 1) rfl rfl ?_
  refine Y_getR 1 rfl (pc2 := 4) rfl fl_gh_45 ly_gh (by decide) rfl rfl (by omega) ?_
  refine Y_aload_n 2 rfl (pc2 := 5) rfl rfl ?_
  refine Y_getR 3 rfl (pc2 := 8) rfl fl_gh_38 ly_gh (by decide) rfl rfl (by omega) ?_
  refine Y_aload_n 4 rfl (pc2 := 9) rfl rfl ?_
  refine Y_getR 5 rfl (pc2 := 12) rfl fl_gh_25 ly_gh (by decide) rfl rfl (by omega) ?_
  refine Y_iload_n 6 rfl (pc2 := 13) rfl rfl ?_
  refine Y_cV 7 rfl (pc2 := 16) rfl ok_wa_reaches lk_gh_184 vi_wa_reaches ly_wa rfl (by decide) rfl (as := [.ref _, .ref _, .int _]) (rest := []) rfl rfl (T_wa_reaches h w) ?_
  rintro _ _ (⟨r, hr, rfl, rfl, rfl⟩ | ⟨hn, rfl, c0, l0, p0, rfl⟩)
  · change Y _ _ _ _ _ [.int _] _ _
    have hL := wl_lt w r hr
    have hp16 := w.p.2
    have hC := (w.c (wp S r) (by omega)).2
    have hB := (w.b (pC S (wp S r)) hC).2
    have hZ := sz_16 hL.1
    refine Y_if_nen 8 rfl (pc2 := 19) rfl (tgt := 22) (by decide) (by decide) (fun _ => ?_) (fun hd => absurd hd (by decide))
    refine Y_iload_n 11 rfl (pc2 := 23) rfl rfl ?_
    refine Y_tsw 12 rfl (n := 4) (by decide) (by decide) rfl (by decide) (tgt := 84) (by decide) (fun h23 => ?_) (fun j hj h23 => ?_)
    · refine Y_ldc 29 rfl (pc2 := 86) rfl kc_gh_75 ?_
      refine Y_iret 30 rfl rfl rfl ⟨rfl, ?_⟩
      first | omega | exact pc_w h (by unfold sp_round; rw [cI_f (fun e => h23 e.2)]; rfl)
    · have hj2 : j = 0 ∨ j = 1 ∨ j = 2 ∨ j = 3 := by omega
      rcases hj2 with rfl | rfl | rfl | rfl
      · change Y _ _ _ 52 _ _ _ _
        subst h23
        refine Y_aload_n 13 rfl (pc2 := 53) rfl rfl ?_
        refine Y_getR 14 rfl (pc2 := 56) rfl fl_gh_45 ly_gh (by decide) rfl rfl (by omega) ?_
        refine Y_getI 15 rfl (pc2 := 59) rfl fl_gh_188 ly_wa (by decide) rfl ?_
        refine Y_top (wk_c) ?_
        refine Y_iret 16 rfl rfl rfl ⟨rfl, ?_⟩
        first | omega | exact pc_w h (by unfold sp_round; rw [cI_t ⟨⟨r, hr, rfl⟩, ⟨0, by omega, rfl⟩⟩, nv_nI (by omega)]; rfl)
      · change Y _ _ _ 60 _ _ _ _
        subst h23
        refine Y_aload_n 17 rfl (pc2 := 61) rfl rfl ?_
        refine Y_getR 18 rfl (pc2 := 64) rfl fl_gh_45 ly_gh (by decide) rfl rfl (by omega) ?_
        refine Y_getI 19 rfl (pc2 := 67) rfl fl_gh_191 ly_wa (by decide) rfl ?_
        refine Y_top (wk_l) ?_
        refine Y_iret 20 rfl rfl rfl ⟨rfl, ?_⟩
        first | omega | exact pc_w h (by unfold sp_round; rw [cI_t ⟨⟨r, hr, rfl⟩, ⟨1, by omega, rfl⟩⟩, nv_nI (by omega)]; rfl)
      · change Y _ _ _ 68 _ _ _ _
        subst h23
        refine Y_aload_n 21 rfl (pc2 := 69) rfl rfl ?_
        refine Y_getR 22 rfl (pc2 := 72) rfl fl_gh_45 ly_gh (by decide) rfl rfl (by omega) ?_
        refine Y_getI 23 rfl (pc2 := 75) rfl fl_gh_194 ly_wa (by decide) rfl ?_
        refine Y_top (wk_p) ?_
        refine Y_iret 24 rfl rfl rfl ⟨rfl, ?_⟩
        first | omega | exact pc_w h (by unfold sp_round; rw [cI_t ⟨⟨r, hr, rfl⟩, ⟨2, by omega, rfl⟩⟩, nv_nI (by omega)]; rfl)
      · change Y _ _ _ 76 _ _ _ _
        subst h23
        refine Y_aload_n 25 rfl (pc2 := 77) rfl rfl ?_
        refine Y_getR 26 rfl (pc2 := 80) rfl fl_gh_45 ly_gh (by decide) rfl rfl (by omega) ?_
        refine Y_getI 27 rfl (pc2 := 83) rfl fl_gh_197 ly_wa (by decide) rfl ?_
        refine Y_top (wk_t) ?_
        refine Y_iret 28 rfl rfl rfl ⟨rfl, ?_⟩
        first | omega | exact pc_w h (by unfold sp_round; rw [cI_t ⟨⟨r, hr, rfl⟩, ⟨3, by omega, rfl⟩⟩, nv_nI (by omega)]; rfl)
  · change Y _ _ _ _ _ [.int _] _ _
    refine Y_if_nen 8 rfl (pc2 := 19) rfl (tgt := 22) (by decide) (by decide) (fun hd => absurd hd (by decide)) (fun _ => ?_)
    refine Y_ldc 9 rfl (pc2 := 21) rfl kc_gh_75 ?_
    refine Y_iret 10 rfl rfl rfl ⟨rfl, ?_⟩
    first | omega | exact pc_w h (by unfold sp_round; rw [cI_f (fun e => hn e.1)]; rfl)

set_option maxHeartbeats 400000 in
theorem T_gh_ticks {G : Nat × (Nat → Int32)} {m : Mm} {S : Mm} (h : RC m S) (w : WF S) : Y G M_gh_ticks (0, 0) 0 (en_ M_gh_ticks [.ref (0)]) [] (LAY, m) (qm_ LAY (pc_ (sp_ticks S) m S)) := by
  change Y _ _ _ _ [some (.ref _)] _ _ _
  refine Y_aload_n 0 rfl (pc2 := 1) rfl rfl ?_
  refine Y_getR 1 rfl (pc2 := 4) rfl fl_gh_45 ly_gh (by decide) rfl rfl (by omega) ?_
  refine Y_aload_n 2 rfl (pc2 := 5) rfl rfl ?_
  refine Y_getR 3 rfl (pc2 := 8) rfl fl_gh_38 ly_gh (by decide) rfl rfl (by omega) ?_
  refine Y_aload_n 4 rfl (pc2 := 9) rfl rfl ?_
  refine Y_getR 5 rfl (pc2 := 12) rfl fl_gh_25 ly_gh (by decide) rfl rfl (by omega) ?_
  refine Y_ldc 6 rfl (pc2 := 14) rfl kc_gh_84 ?_
  refine Y_cV 7 rfl (pc2 := 17) rfl ok_wa_reaches lk_gh_184 vi_wa_reaches ly_wa rfl (by decide) rfl (as := [.ref _, .ref _, .int _]) (rest := []) rfl rfl (T_wa_reaches h w) ?_
  rintro _ _ (⟨r, hr, e, rfl, rfl⟩ | ⟨hn, rfl, c0, l0, p0, rfl⟩)
  · change Y _ _ _ _ _ [.int _] _ _
    have h144 := tot_le w
    exact absurd e.symm (nI_none (by omega))
  · change Y _ _ _ _ _ [.int _] _ _
    refine Y_pop 8 rfl (pc2 := 18) rfl rfl ?_
    refine Y_aload_n 9 rfl (pc2 := 19) rfl rfl ?_
    refine Y_getR 10 rfl (pc2 := 22) rfl fl_gh_45 ly_gh (by decide) rfl rfl (by omega) ?_
    refine Y_getI 11 rfl (pc2 := 25) rfl fl_gh_197 ly_wa (by decide) rfl ?_
    refine Y_top (wk_t) ?_
    refine Y_iret 12 rfl rfl rfl ⟨rfl, ?_⟩
    exact pc_w h rfl

set_option maxHeartbeats 400000 in
theorem T_gh_goesTo {G : Nat × (Nat → Int32)} {m : Mm} {S : Mm} (h : RC m S) (w : WF S) {x y z : Int32} : Y G M_gh_goesTo (0, 0) 0 (en_ M_gh_goesTo [.ref (0), .int (x), .int (y), .int (z)]) [] (LAY, m) (qm_ LAY (pG m S x y z)) := by
  change Y _ _ _ _ [some (.ref _), some (.int _), some (.int _), some (.int _)] _ _ _
  have h144 := tot_le w
  refine Y_aload_n 0 rfl (pc2 := 1) rfl rfl ?_
  refine Y_getR 1 rfl (pc2 := 4) rfl fl_gh_45 ly_gh (by decide) rfl rfl (by omega) ?_
  refine Y_aload_n 2 rfl (pc2 := 5) rfl rfl ?_
  refine Y_getR 3 rfl (pc2 := 8) rfl fl_gh_38 ly_gh (by decide) rfl rfl (by omega) ?_
  refine Y_aload_n 4 rfl (pc2 := 9) rfl rfl ?_
  refine Y_getR 5 rfl (pc2 := 12) rfl fl_gh_25 ly_gh (by decide) rfl rfl (by omega) ?_
  refine Y_iload_n 6 rfl (pc2 := 13) rfl rfl ?_
  refine Y_cV 7 rfl (pc2 := 16) rfl ok_wa_reaches lk_gh_184 vi_wa_reaches ly_wa rfl (by decide) rfl (as := [.ref _, .ref _, .int _]) (rest := []) rfl rfl (T_wa_reaches h w) ?_
  rintro _ _ (⟨r, hr, rfl, rfl, rfl⟩ | ⟨hn, rfl, c0, l0, p0, rfl⟩)
  · change Y _ _ _ _ _ [.int _] _ _
    have hL := wl_lt w r hr
    have hp16 := w.p.2
    have hC := (w.c (wp S r) (by omega)).2
    have hB := (w.b (pC S (wp S r)) hC).2
    have hZ := sz_16 hL.1
    refine Y_if_eqn 8 rfl (pc2 := 19) rfl (tgt := 67) (by decide) (by decide) (fun hd => absurd hd (by decide)) (fun _ => ?_)
    refine Y_iload_n 9 rfl (pc2 := 20) rfl rfl ?_
    refine Y_aload_n 10 rfl (pc2 := 21) rfl rfl ?_
    refine Y_getR 11 rfl (pc2 := 24) rfl fl_gh_25 ly_gh (by decide) rfl rfl (by omega) ?_
    refine Y_aload_n 12 rfl (pc2 := 25) rfl rfl ?_
    refine Y_getR 13 rfl (pc2 := 28) rfl fl_gh_45 ly_gh (by decide) rfl rfl (by omega) ?_
    refine Y_getI 14 rfl (pc2 := 31) rfl fl_gh_188 ly_wa (by decide) rfl ?_
    refine Y_top (wk_c) ?_
    refine Y_aald 15 rfl (pc2 := 32) rfl ly_ghC (by decide) (fun _ => rfl) rfl (by omega) (by decide) (ly_ghC_at (by omega)) (by omega) ?_
    refine Y_getI 16 rfl (pc2 := 35) rfl fl_gh_270 (ly_ci (by omega)) (by decide) rfl ?_
    refine Y_top (((RC_wk h).b _ (by omega)).trans (w.b _ (by omega)).1) ?_
    refine Y_cS 17 rfl (pc2 := 38) rfl ok_gh_isBelow lk_gh_80 vs_gh_isBelow (as := [.int _, .int _]) (rest := []) rfl rfl (T_gh_isBelow (by omega)) ?_
    rintro _ _ ⟨rfl, rfl⟩
    change Y _ _ _ _ _ [.int _] _ _
    refine Y_if_eqb 18 rfl (pc2 := 41) rfl (tgt := 67) (by decide) (fun h38 => ?_) (fun h38 => ?_)
    · refine Y_iconst 31 rfl (pc2 := 68) rfl (v := nI 0) (by decide) ?_
      refine Y_iret 32 rfl rfl rfl ⟨rfl, ?_⟩
      first
        | exact Or.inl ⟨r, b, s, hr, rfl, hb, rfl, hs, rfl, rfl, rfl⟩
        | exact Or.inr ⟨fun e => hn e.1, rfl, _, _, _, _, rfl⟩
        | exact Or.inr ⟨fun e => h38 (by have q := e.2.1; rw [nv_nI (by omega)] at q; exact q), rfl, _, _, _, _, rfl⟩
        | exact Or.inr ⟨fun e => h60 (by have q := e.2.2; rw [nv_nI (by omega)] at q; exact q), rfl, _, _, _, _, rfl⟩
    · obtain ⟨b, hb, rfl⟩ := h38
      refine Y_iload_n 19 rfl (pc2 := 42) rfl rfl ?_
      refine Y_aload_n 20 rfl (pc2 := 43) rfl rfl ?_
      refine Y_getR 21 rfl (pc2 := 46) rfl fl_gh_31 ly_gh (by decide) rfl rfl (by omega) ?_
      refine Y_aload_n 22 rfl (pc2 := 47) rfl rfl ?_
      refine Y_getR 23 rfl (pc2 := 50) rfl fl_gh_45 ly_gh (by decide) rfl rfl (by omega) ?_
      refine Y_getI 24 rfl (pc2 := 53) rfl fl_gh_191 ly_wa (by decide) rfl ?_
      refine Y_top (wk_l) ?_
      refine Y_aald 25 rfl (pc2 := 54) rfl ly_ghL (by decide) (fun _ => rfl) rfl (by omega) (by decide) (ly_ghL_at (by omega)) (by omega) ?_
      refine Y_getI 26 rfl (pc2 := 57) rfl fl_gh_138 (ly_le (by omega)) (by decide) rfl ?_
      refine Y_top ((RC_wk h).l _ (by omega)) ?_
      refine Y_cS 27 rfl (pc2 := 60) rfl ok_gh_isBelow lk_gh_80 vs_gh_isBelow (as := [.int _, .int _]) (rest := []) rfl rfl (T_gh_isBelow (by omega)) ?_
      rintro _ _ ⟨rfl, rfl⟩
      change Y _ _ _ _ _ [.int _] _ _
      refine Y_if_eqb 28 rfl (pc2 := 63) rfl (tgt := 67) (by decide) (fun h60 => ?_) (fun h60 => ?_)
      · refine Y_iconst 31 rfl (pc2 := 68) rfl (v := nI 0) (by decide) ?_
        refine Y_iret 32 rfl rfl rfl ⟨rfl, ?_⟩
        first
          | exact Or.inl ⟨r, b, s, hr, rfl, hb, rfl, hs, rfl, rfl, rfl⟩
          | exact Or.inr ⟨fun e => hn e.1, rfl, _, _, _, _, rfl⟩
          | exact Or.inr ⟨fun e => h38 (by have q := e.2.1; rw [nv_nI (by omega)] at q; exact q), rfl, _, _, _, _, rfl⟩
          | exact Or.inr ⟨fun e => h60 (by have q := e.2.2; rw [nv_nI (by omega)] at q; exact q), rfl, _, _, _, _, rfl⟩
      · obtain ⟨s, hs, rfl⟩ := h60
        refine Y_iconst 29 rfl (pc2 := 64) rfl (v := nI 1) (by decide) ?_
        refine Y_goto 30 rfl (pc2 := 68) (by decide) ?_
        refine Y_iret 32 rfl rfl rfl ⟨rfl, ?_⟩
        first
          | exact Or.inl ⟨r, b, s, hr, rfl, hb, rfl, hs, rfl, rfl, rfl⟩
          | exact Or.inr ⟨fun e => hn e.1, rfl, _, _, _, _, rfl⟩
          | exact Or.inr ⟨fun e => h38 (by have q := e.2.1; rw [nv_nI (by omega)] at q; exact q), rfl, _, _, _, _, rfl⟩
          | exact Or.inr ⟨fun e => h60 (by have q := e.2.2; rw [nv_nI (by omega)] at q; exact q), rfl, _, _, _, _, rfl⟩
  · change Y _ _ _ _ _ [.int _] _ _
    refine Y_if_eqn 8 rfl (pc2 := 19) rfl (tgt := 67) (by decide) (by decide) (fun _ => ?_) (fun hd => absurd hd (by decide))
    refine Y_iconst 31 rfl (pc2 := 68) rfl (v := nI 0) (by decide) ?_
    refine Y_iret 32 rfl rfl rfl ⟨rfl, ?_⟩
    first
      | exact Or.inl ⟨r, b, s, hr, rfl, hb, rfl, hs, rfl, rfl, rfl⟩
      | exact Or.inr ⟨fun e => hn e.1, rfl, _, _, _, _, rfl⟩
      | exact Or.inr ⟨fun e => h38 (by have q := e.2.1; rw [nv_nI (by omega)] at q; exact q), rfl, _, _, _, _, rfl⟩
      | exact Or.inr ⟨fun e => h60 (by have q := e.2.2; rw [nv_nI (by omega)] at q; exact q), rfl, _, _, _, _, rfl⟩

set_option maxHeartbeats 400000 in
theorem T_gh_plays {G : Nat × (Nat → Int32)} {m : Mm} {S : Mm} (h : RC m S) (w : WF S) {p x y z : Int32} : Y G M_gh_plays (0, 0) 0 (en_ M_gh_plays [.ref (0), .int (p), .int (x), .int (y), .int (z)]) [] (LAY, m) (qm_ LAY (pc_ (sp_plays S p x y z) m S)) := by
  change Y _ _ _ _ [some (.ref _), some (.int _), some (.int _), some (.int _), some (.int _), none] _ _ _
  refine Y_iload_n 0 rfl (pc2 := 1) rfl rfl ?_
  refine Y_iconst 1 rfl (pc2 := 2) rfl (v := nI 4) (by decide) ?_
  refine Y_cS 2 rfl (pc2 := 5) rfl ok_gh_isBelow lk_gh_80 vs_gh_isBelow (as := [.int _, .int _]) (rest := []) rfl rfl (T_gh_isBelow (by omega)) ?_
  rintro _ _ ⟨rfl, rfl⟩
  change Y _ _ _ _ _ [.int _] _ _
  refine Y_if_eqb 3 rfl (pc2 := 8) rfl (tgt := 19) (by decide) (fun h5 => ?_) (fun h5 => ?_)
  · refine Y_ldc 10 rfl (pc2 := 21) rfl kc_gh_75 ?_
    refine Y_iret 11 rfl rfl rfl ⟨rfl, ?_⟩
    first | exact pc_0 h (by unfold sp_plays; rw [cI_f (fun e => h5 e.1)]; rfl) | exact pc_w h (by unfold sp_plays; rw [cI_f (fun e => hn e.2)]; rfl)
  · obtain ⟨q, hq, rfl⟩ := h5
    refine Y_aload_n 4 rfl (pc2 := 9) rfl rfl ?_
    refine Y_iload_n 5 rfl (pc2 := 10) rfl rfl ?_
    refine Y_iload_n 6 rfl (pc2 := 11) rfl rfl ?_
    refine Y_iload 7 rfl (pc2 := 13) rfl rfl ?_
    refine Y_cV 8 rfl (pc2 := 16) rfl ok_gh_goesTo lk_gh_200 vi_gh_goesTo ly_gh rfl (by decide) rfl (as := [.int _, .int _, .int _]) (rest := []) rfl rfl (T_gh_goesTo h w) ?_
    rintro _ _ (⟨r, b, s, hr, rfl, hb, rfl, hs, rfl, rfl, rfl⟩ | ⟨hn, rfl, c0, l0, p0, t0, rfl⟩)
    · change Y _ _ _ _ _ [.int _] _ _
      have h144 := tot_le w
      have hL := wl_lt w r hr
      have hp16 := w.p.2
      have hC : cA_ S r < 4 := (w.c (wp S r) (by omega)).2
      have hB := (w.b (cA_ S r) hC).2
      have hZ := sz_16 hL.1
      have hG : goo S (nI r) (nI b) (nI s) := ⟨⟨r, hr, rfl⟩, by rw [nv_nI (by omega)]; exact ⟨b, hb, rfl⟩, by rw [nv_nI (by omega)]; exact ⟨s, hs, rfl⟩⟩
      refine Y_if_nen 9 rfl (pc2 := 19) rfl (tgt := 22) (by decide) (by decide) (fun _ => ?_) (fun hd => absurd hd (by decide))
      refine Y_aload_n 12 rfl (pc2 := 23) rfl rfl ?_
      refine Y_getR 13 rfl (pc2 := 26) rfl fl_gh_25 ly_gh (by decide) rfl rfl (by omega) ?_
      refine Y_aload_n 14 rfl (pc2 := 27) rfl rfl ?_
      refine Y_getR 15 rfl (pc2 := 30) rfl fl_gh_45 ly_gh (by decide) rfl rfl (by omega) ?_
      refine Y_getI 16 rfl (pc2 := 33) rfl fl_gh_188 ly_wa (by decide) rfl ?_
      refine Y_top (wk_c) ?_
      refine Y_aald 17 rfl (pc2 := 34) rfl ly_ghC (by decide) (fun _ => rfl) rfl (by omega) (by decide) (ly_ghC_at (by omega)) (by omega) ?_
      refine Y_astore 18 rfl (pc2 := 36) rfl (Nat.le_of_ble_eq_true rfl) (ls2 := [some (.ref _), some (.int _), some (.int _), some (.int _), some (.int _), some (.ref _)]) rfl ?_
      refine Y_iload_n 19 rfl (pc2 := 37) rfl rfl ?_
      refine Y_cS 20 rfl (pc2 := 40) rfl ok_gh_isHalfPlayer lk_gh_203 vs_gh_isHalfPlayer (as := [.int _]) (rest := []) rfl rfl T_gh_isHalf ?_
      rintro _ _ ⟨rfl, rfl⟩
      change Y _ _ _ _ _ [.int _] _ _
      rw [bI_c (hP_n (by omega))]
      refine Y_if_eqb 21 rfl (pc2 := 43) rfl (tgt := 67) (by decide) (fun h40 => ?_) (fun h40 => ?_)
      · refine Y_iload 36 rfl (pc2 := 69) rfl rfl ?_
        refine Y_if_len 37 rfl (pc2 := 72) rfl (tgt := 75) (by decide) (by omega) (fun h69 => ?_) (fun h69 => ?_)
        · refine Y_iload_n 40 rfl (pc2 := 76) rfl rfl ?_
          refine Y_if_nen 41 rfl (pc2 := 79) rfl (tgt := 89) (by decide) (by omega) (fun h76 => ?_) (fun h76 => ?_)
          · refine Y_aload 47 rfl (pc2 := 91) rfl rfl ?_
            refine Y_getR 48 rfl (pc2 := 94) rfl fl_gh_103 (ly_ci (by omega)) (by decide) rfl rfl (by omega) ?_
            refine Y_iload_n 49 rfl (pc2 := 95) rfl rfl ?_
            refine Y_iald 50 rfl (pc2 := 96) rfl (ly_ciG (by omega)) rfl (by omega) (by decide) ?_
            refine Y_top ((RC_wk h).g _ _ (by omega) (by omega)) ?_
            refine Y_iret 51 rfl rfl rfl ⟨rfl, ?_⟩
            first | exact pc_w h (by unfold sp_plays; rw [cI_t ⟨⟨q, hq, rfl⟩, hG⟩, nv_nI (k := q) (by omega)]; rw [nv_nI (k := r) (by omega), nv_nI (k := b) (by omega), nv_nI (k := s) (by omega)]; rw [if_neg h40, if_neg (by omega), if_pos h76]) | exact pc_w h (by unfold sp_plays; rw [cI_t ⟨⟨q, hq, rfl⟩, hG⟩, nv_nI (k := q) (by omega)]; rw [nv_nI (k := r) (by omega), nv_nI (k := b) (by omega), nv_nI (k := s) (by omega)]; rw [if_neg h40, if_neg (by omega), if_neg h76])
          · refine Y_aload 42 rfl (pc2 := 81) rfl rfl ?_
            refine Y_getR 43 rfl (pc2 := 84) rfl fl_gh_96 (ly_ci (by omega)) (by decide) rfl rfl (by omega) ?_
            refine Y_iload_n 44 rfl (pc2 := 85) rfl rfl ?_
            refine Y_iald 45 rfl (pc2 := 86) rfl (ly_ciN (by omega)) rfl (by omega) (by decide) ?_
            refine Y_top ((RC_wk h).n _ _ (by omega) (by omega)) ?_
            refine Y_goto 46 rfl (pc2 := 96) (by decide) ?_
            refine Y_iret 51 rfl rfl rfl ⟨rfl, ?_⟩
            first | exact pc_w h (by unfold sp_plays; rw [cI_t ⟨⟨q, hq, rfl⟩, hG⟩, nv_nI (k := q) (by omega)]; rw [nv_nI (k := r) (by omega), nv_nI (k := b) (by omega), nv_nI (k := s) (by omega)]; rw [if_neg h40, if_neg (by omega), if_pos h76]) | exact pc_w h (by unfold sp_plays; rw [cI_t ⟨⟨q, hq, rfl⟩, hG⟩, nv_nI (k := q) (by omega)]; rw [nv_nI (k := r) (by omega), nv_nI (k := b) (by omega), nv_nI (k := s) (by omega)]; rw [if_neg h40, if_neg (by omega), if_neg h76])
        · refine Y_ldc 38 rfl (pc2 := 74) rfl kc_gh_84 ?_
          refine Y_iret 39 rfl rfl rfl ⟨rfl, ?_⟩
          exact pc_w h (by unfold sp_plays; rw [cI_t ⟨⟨q, hq, rfl⟩, hG⟩, nv_nI (k := q) (by omega)]; rw [nv_nI (k := r) (by omega), nv_nI (k := b) (by omega), nv_nI (k := s) (by omega)]; rw [if_neg h40, if_pos (by omega)]; rfl)
      · refine Y_aload 22 rfl (pc2 := 45) rfl rfl ?_
        refine Y_aload_n 23 rfl (pc2 := 46) rfl rfl ?_
        refine Y_getR 24 rfl (pc2 := 49) rfl fl_gh_31 ly_gh (by decide) rfl rfl (by omega) ?_
        refine Y_aload_n 25 rfl (pc2 := 50) rfl rfl ?_
        refine Y_getR 26 rfl (pc2 := 53) rfl fl_gh_45 ly_gh (by decide) rfl rfl (by omega) ?_
        refine Y_getI 27 rfl (pc2 := 56) rfl fl_gh_191 ly_wa (by decide) rfl ?_
        refine Y_top (wk_l) ?_
        refine Y_aald 28 rfl (pc2 := 57) rfl ly_ghL (by decide) (fun _ => rfl) rfl (by omega) (by decide) (ly_ghL_at (by omega)) (by omega) ?_
        refine Y_iload_n 29 rfl (pc2 := 58) rfl rfl ?_
        refine Y_iconst 30 rfl (pc2 := 59) rfl (v := nI 1) (by decide) ?_
        refine Y_isub 31 rfl (pc2 := 60) rfl ?_
        refine Y_top (nI_sub (by omega)) ?_
        refine Y_iload_n 32 rfl (pc2 := 61) rfl rfl ?_
        refine Y_iload 33 rfl (pc2 := 63) rfl rfl ?_
        refine Y_cS 34 rfl (pc2 := 66) rfl ok_gh_keyAt lk_gh_206 vs_gh_keyAt (as := [.ref _, .ref _, .int _, .int _, .int _]) (rest := []) rfl rfl (T_gh_keyAt (RC_wk h) w (by omega) (by omega) (by omega) (by omega) (by omega)) ?_
        rintro _ _ ⟨rfl, rfl⟩
        change Y _ _ _ _ _ [.int _] _ _
        refine Y_iret 35 rfl rfl rfl ⟨rfl, ?_⟩
        exact pc_w h (by unfold sp_plays; rw [cI_t ⟨⟨q, hq, rfl⟩, hG⟩, nv_nI (k := q) (by omega)]; rw [nv_nI (k := r) (by omega), nv_nI (k := b) (by omega), nv_nI (k := s) (by omega)]; rw [if_pos h40])
    · change Y _ _ _ _ _ [.int _] _ _
      refine Y_if_nen 9 rfl (pc2 := 19) rfl (tgt := 22) (by decide) (by decide) (fun hd => absurd hd (by decide)) (fun _ => ?_)
      refine Y_ldc 10 rfl (pc2 := 21) rfl kc_gh_75 ?_
      refine Y_iret 11 rfl rfl rfl ⟨rfl, ?_⟩
      first | exact pc_0 h (by unfold sp_plays; rw [cI_f (fun e => h5 e.1)]; rfl) | exact pc_w h (by unfold sp_plays; rw [cI_f (fun e => hn e.2)]; rfl)

set_option maxHeartbeats 400000 in
theorem T_gh_damps {G : Nat × (Nat → Int32)} {m : Mm} {S : Mm} (h : RC m S) (w : WF S) {p x y z : Int32} : Y G M_gh_damps (0, 0) 0 (en_ M_gh_damps [.ref (0), .int (p), .int (x), .int (y), .int (z)]) [] (LAY, m) (qm_ LAY (pc_ (sp_damps S p x y z) m S)) := by
  change Y _ _ _ _ [some (.ref _), some (.int _), some (.int _), some (.int _), some (.int _), none, none] _ _ _
  refine Y_iload_n 0 rfl (pc2 := 1) rfl rfl ?_
  refine Y_cS 1 rfl (pc2 := 4) rfl ok_gh_isHalfPlayer lk_gh_203 vs_gh_isHalfPlayer (as := [.int _]) (rest := []) rfl rfl T_gh_isHalf ?_
  rintro _ _ ⟨rfl, rfl⟩
  change Y _ _ _ _ _ [.int _] _ _
  refine Y_if_eqb 2 rfl (pc2 := 7) rfl (tgt := 18) (by decide) (fun h4 => ?_) (fun h4 => ?_)
  · refine Y_ldc 9 rfl (pc2 := 20) rfl kc_gh_75 ?_
    refine Y_iret 10 rfl rfl rfl ⟨rfl, ?_⟩
    first | exact pc_0 h (by unfold sp_damps; rw [cI_f (fun e => h4 e.1)]; rfl) | exact pc_w h (by unfold sp_damps; rw [cI_f (fun e => hn e.2)]; rfl)
  · obtain ⟨g, hg, rfl⟩ := h4
    refine Y_aload_n 3 rfl (pc2 := 8) rfl rfl ?_
    refine Y_iload_n 4 rfl (pc2 := 9) rfl rfl ?_
    refine Y_iload_n 5 rfl (pc2 := 10) rfl rfl ?_
    refine Y_iload 6 rfl (pc2 := 12) rfl rfl ?_
    refine Y_cV 7 rfl (pc2 := 15) rfl ok_gh_goesTo lk_gh_200 vi_gh_goesTo ly_gh rfl (by decide) rfl (as := [.int _, .int _, .int _]) (rest := []) rfl rfl (T_gh_goesTo h w) ?_
    rintro _ _ (⟨r, b, s, hr, rfl, hb, rfl, hs, rfl, rfl, rfl⟩ | ⟨hn, rfl, c0, l0, p0, t0, rfl⟩)
    · change Y _ _ _ _ _ [.int _] _ _
      have h144 := tot_le w
      have hL := wl_lt w r hr
      have hp16 := w.p.2
      have hC : cA_ S r < 4 := (w.c (wp S r) (by omega)).2
      have hB := (w.b (cA_ S r) hC).2
      have hZ := sz_16 hL.1
      have hG : goo S (nI r) (nI b) (nI s) := ⟨⟨r, hr, rfl⟩, by rw [nv_nI (by omega)]; exact ⟨b, hb, rfl⟩, by rw [nv_nI (by omega)]; exact ⟨s, hs, rfl⟩⟩
      refine Y_if_nen 8 rfl (pc2 := 18) rfl (tgt := 21) (by decide) (by decide) (fun _ => ?_) (fun hd => absurd hd (by decide))
      refine Y_aload_n 11 rfl (pc2 := 22) rfl rfl ?_
      refine Y_getR 12 rfl (pc2 := 25) rfl fl_gh_25 ly_gh (by decide) rfl rfl (by omega) ?_
      refine Y_aload_n 13 rfl (pc2 := 26) rfl rfl ?_
      refine Y_getR 14 rfl (pc2 := 29) rfl fl_gh_45 ly_gh (by decide) rfl rfl (by omega) ?_
      refine Y_getI 15 rfl (pc2 := 32) rfl fl_gh_188 ly_wa (by decide) rfl ?_
      refine Y_top (wk_c) ?_
      refine Y_aald 16 rfl (pc2 := 33) rfl ly_ghC (by decide) (fun _ => rfl) rfl (by omega) (by decide) (ly_ghC_at (by omega)) (by omega) ?_
      refine Y_aload_n 17 rfl (pc2 := 34) rfl rfl ?_
      refine Y_getR 18 rfl (pc2 := 37) rfl fl_gh_31 ly_gh (by decide) rfl rfl (by omega) ?_
      refine Y_aload_n 19 rfl (pc2 := 38) rfl rfl ?_
      refine Y_getR 20 rfl (pc2 := 41) rfl fl_gh_45 ly_gh (by decide) rfl rfl (by omega) ?_
      refine Y_getI 21 rfl (pc2 := 44) rfl fl_gh_191 ly_wa (by decide) rfl ?_
      refine Y_top (wk_l) ?_
      refine Y_aald 22 rfl (pc2 := 45) rfl ly_ghL (by decide) (fun _ => rfl) rfl (by omega) (by decide) (ly_ghL_at (by omega)) (by omega) ?_
      refine Y_iload_n 23 rfl (pc2 := 46) rfl rfl ?_
      refine Y_iconst 24 rfl (pc2 := 47) rfl (v := nI 1) (by decide) ?_
      refine Y_isub 25 rfl (pc2 := 48) rfl ?_
      refine Y_top (nI_sub (by omega)) ?_
      refine Y_iload_n 26 rfl (pc2 := 49) rfl rfl ?_
      refine Y_iload 27 rfl (pc2 := 51) rfl rfl ?_
      refine Y_cS 28 rfl (pc2 := 54) rfl ok_gh_keyAt lk_gh_206 vs_gh_keyAt (as := [.ref _, .ref _, .int _, .int _, .int _]) (rest := []) rfl rfl (T_gh_keyAt (RC_wk h) w (by omega) (by omega) (by omega) (by omega) (by omega)) ?_
      rintro _ _ ⟨rfl, rfl⟩
      change Y _ _ _ _ _ [.int _] _ _
      refine Y_istore 29 rfl (pc2 := 56) rfl (Nat.le_of_ble_eq_true rfl) (ls2 := [some (.ref _), some (.int _), some (.int _), some (.int _), some (.int _), some (.int _), none]) rfl ?_
      refine Y_aload_n 30 rfl (pc2 := 57) rfl rfl ?_
      refine Y_getR 31 rfl (pc2 := 60) rfl fl_gh_25 ly_gh (by decide) rfl rfl (by omega) ?_
      refine Y_aload_n 32 rfl (pc2 := 61) rfl rfl ?_
      refine Y_getR 33 rfl (pc2 := 64) rfl fl_gh_45 ly_gh (by decide) rfl rfl (by omega) ?_
      refine Y_getI 34 rfl (pc2 := 67) rfl fl_gh_188 ly_wa (by decide) rfl ?_
      refine Y_top (wk_c) ?_
      refine Y_aald 35 rfl (pc2 := 68) rfl ly_ghC (by decide) (fun _ => rfl) rfl (by omega) (by decide) (ly_ghC_at (by omega)) (by omega) ?_
      refine Y_aload_n 36 rfl (pc2 := 69) rfl rfl ?_
      refine Y_getR 37 rfl (pc2 := 72) rfl fl_gh_31 ly_gh (by decide) rfl rfl (by omega) ?_
      refine Y_aload_n 38 rfl (pc2 := 73) rfl rfl ?_
      refine Y_getR 39 rfl (pc2 := 76) rfl fl_gh_45 ly_gh (by decide) rfl rfl (by omega) ?_
      refine Y_getI 40 rfl (pc2 := 79) rfl fl_gh_191 ly_wa (by decide) rfl ?_
      refine Y_top (wk_l) ?_
      refine Y_aald 41 rfl (pc2 := 80) rfl ly_ghL (by decide) (fun _ => rfl) rfl (by omega) (by decide) (ly_ghL_at (by omega)) (by omega) ?_
      refine Y_iload_n 42 rfl (pc2 := 81) rfl rfl ?_
      refine Y_iconst 43 rfl (pc2 := 82) rfl (v := nI 1) (by decide) ?_
      refine Y_isub 44 rfl (pc2 := 83) rfl ?_
      refine Y_top (nI_sub (by omega)) ?_
      refine Y_iload_n 45 rfl (pc2 := 84) rfl rfl ?_
      refine Y_iload 46 rfl (pc2 := 86) rfl rfl ?_
      refine Y_cS 47 rfl (pc2 := 89) rfl ok_gh_keyAhead lk_gh_210 vs_gh_keyAhead (as := [.ref _, .ref _, .int _, .int _, .int _]) (rest := []) rfl rfl (T_gh_keyAhead (RC_wk h) w (by omega) (by omega) (by omega) (by omega) (by omega)) ?_
      rintro _ _ ⟨rfl, rfl⟩
      change Y _ _ _ _ _ [.int _] _ _
      refine Y_istore 48 rfl (pc2 := 91) rfl (Nat.le_of_ble_eq_true rfl) (ls2 := [some (.ref _), some (.int _), some (.int _), some (.int _), some (.int _), some (.int _), some (.int _)]) rfl ?_
      refine Y_iload 49 rfl (pc2 := 93) rfl rfl ?_
      refine Y_ldc 50 rfl (pc2 := 95) rfl kc_gh_84 ?_
      refine Y_icmp_eq 51 rfl (pc2 := 98) rfl (tgt := 105) (by decide) (fun h95 => ?_) (fun h95 => ?_)
      · refine Y_ldc 55 rfl (pc2 := 107) rfl kc_gh_84 ?_
        refine Y_goto 56 rfl (pc2 := 112) (by decide) ?_
        refine Y_iret 58 rfl rfl rfl ⟨rfl, ?_⟩
        first | exact pc_w h (by unfold sp_damps; rw [cI_t ⟨⟨g, hg, rfl⟩, hG⟩, nv_nI (k := g + 1) (by omega)]; rw [nv_nI (k := r) (by omega), nv_nI (k := b) (by omega), nv_nI (k := s) (by omega)]; unfold dmp; rw [if_pos (Or.inl (show _ = NONE_ from h95))]; try rfl) | exact pc_w h (by unfold sp_damps; rw [cI_t ⟨⟨g, hg, rfl⟩, hG⟩, nv_nI (k := g + 1) (by omega)]; rw [nv_nI (k := r) (by omega), nv_nI (k := b) (by omega), nv_nI (k := s) (by omega)]; unfold dmp; rw [if_pos (Or.inr h102)]; try rfl) | exact pc_w h (by unfold sp_damps; rw [cI_t ⟨⟨g, hg, rfl⟩, hG⟩, nv_nI (k := g + 1) (by omega)]; rw [nv_nI (k := r) (by omega), nv_nI (k := b) (by omega), nv_nI (k := s) (by omega)]; unfold dmp; rw [if_pos (Or.inr (Classical.byContradiction h102))]; try rfl) | exact pc_w h (by unfold sp_damps; rw [cI_t ⟨⟨g, hg, rfl⟩, hG⟩, nv_nI (k := g + 1) (by omega)]; rw [nv_nI (k := r) (by omega), nv_nI (k := b) (by omega), nv_nI (k := s) (by omega)]; unfold dmp; rw [if_neg (show ¬ (_ = NONE_ ∨ _ = _) from fun e => e.elim h95 h102)]; try rfl)
      · refine Y_iload 52 rfl (pc2 := 100) rfl rfl ?_
        refine Y_iload 53 rfl (pc2 := 102) rfl rfl ?_
        refine Y_icmp_ne 54 rfl (pc2 := 105) rfl (tgt := 110) (by decide) (fun h102 => ?_) (fun h102 => ?_)
        · refine Y_iload 57 rfl (pc2 := 112) rfl rfl ?_
          refine Y_iret 58 rfl rfl rfl ⟨rfl, ?_⟩
          first | exact pc_w h (by unfold sp_damps; rw [cI_t ⟨⟨g, hg, rfl⟩, hG⟩, nv_nI (k := g + 1) (by omega)]; rw [nv_nI (k := r) (by omega), nv_nI (k := b) (by omega), nv_nI (k := s) (by omega)]; unfold dmp; rw [if_pos (Or.inl (show _ = NONE_ from h95))]; try rfl) | exact pc_w h (by unfold sp_damps; rw [cI_t ⟨⟨g, hg, rfl⟩, hG⟩, nv_nI (k := g + 1) (by omega)]; rw [nv_nI (k := r) (by omega), nv_nI (k := b) (by omega), nv_nI (k := s) (by omega)]; unfold dmp; rw [if_pos (Or.inr h102)]; try rfl) | exact pc_w h (by unfold sp_damps; rw [cI_t ⟨⟨g, hg, rfl⟩, hG⟩, nv_nI (k := g + 1) (by omega)]; rw [nv_nI (k := r) (by omega), nv_nI (k := b) (by omega), nv_nI (k := s) (by omega)]; unfold dmp; rw [if_pos (Or.inr (Classical.byContradiction h102))]; try rfl) | exact pc_w h (by unfold sp_damps; rw [cI_t ⟨⟨g, hg, rfl⟩, hG⟩, nv_nI (k := g + 1) (by omega)]; rw [nv_nI (k := r) (by omega), nv_nI (k := b) (by omega), nv_nI (k := s) (by omega)]; unfold dmp; rw [if_neg (show ¬ (_ = NONE_ ∨ _ = _) from fun e => e.elim h95 h102)]; try rfl)
        · refine Y_ldc 55 rfl (pc2 := 107) rfl kc_gh_84 ?_
          refine Y_goto 56 rfl (pc2 := 112) (by decide) ?_
          refine Y_iret 58 rfl rfl rfl ⟨rfl, ?_⟩
          first | exact pc_w h (by unfold sp_damps; rw [cI_t ⟨⟨g, hg, rfl⟩, hG⟩, nv_nI (k := g + 1) (by omega)]; rw [nv_nI (k := r) (by omega), nv_nI (k := b) (by omega), nv_nI (k := s) (by omega)]; unfold dmp; rw [if_pos (Or.inl (show _ = NONE_ from h95))]; try rfl) | exact pc_w h (by unfold sp_damps; rw [cI_t ⟨⟨g, hg, rfl⟩, hG⟩, nv_nI (k := g + 1) (by omega)]; rw [nv_nI (k := r) (by omega), nv_nI (k := b) (by omega), nv_nI (k := s) (by omega)]; unfold dmp; rw [if_pos (Or.inr h102)]; try rfl) | exact pc_w h (by unfold sp_damps; rw [cI_t ⟨⟨g, hg, rfl⟩, hG⟩, nv_nI (k := g + 1) (by omega)]; rw [nv_nI (k := r) (by omega), nv_nI (k := b) (by omega), nv_nI (k := s) (by omega)]; unfold dmp; rw [if_pos (Or.inr (Classical.byContradiction h102))]; try rfl) | exact pc_w h (by unfold sp_damps; rw [cI_t ⟨⟨g, hg, rfl⟩, hG⟩, nv_nI (k := g + 1) (by omega)]; rw [nv_nI (k := r) (by omega), nv_nI (k := b) (by omega), nv_nI (k := s) (by omega)]; unfold dmp; rw [if_neg (show ¬ (_ = NONE_ ∨ _ = _) from fun e => e.elim h95 h102)]; try rfl)
    · change Y _ _ _ _ _ [.int _] _ _
      refine Y_if_nen 8 rfl (pc2 := 18) rfl (tgt := 21) (by decide) (by decide) (fun hd => absurd hd (by decide)) (fun _ => ?_)
      refine Y_ldc 9 rfl (pc2 := 20) rfl kc_gh_75 ?_
      refine Y_iret 10 rfl rfl rfl ⟨rfl, ?_⟩
      first | exact pc_0 h (by unfold sp_damps; rw [cI_f (fun e => h4 e.1)]; rfl) | exact pc_w h (by unfold sp_damps; rw [cI_f (fun e => hn e.2)]; rfl)

set_option maxHeartbeats 400000 in
theorem T_gh_strikes {G : Nat × (Nat → Int32)} {m : Mm} {S : Mm} (h : RC m S) (w : WF S) {p x : Int32} : Y G M_gh_strikes (0, 0) 0 (en_ M_gh_strikes [.ref (0), .int (p), .int (x)]) [] (LAY, m) (qm_ LAY (pc_ (sp_strikes S p x) m S)) := by
  change Y _ _ _ _ [some (.ref _), some (.int _), some (.int _), none] _ _ _
  have h144 := tot_le w
  refine Y_iload_n 0 rfl (pc2 := 1) rfl rfl ?_
  refine Y_iconst 1 rfl (pc2 := 2) rfl (v := nI 4) (by decide) ?_
  refine Y_cS 2 rfl (pc2 := 5) rfl ok_gh_isBelow lk_gh_80 vs_gh_isBelow (as := [.int _, .int _]) (rest := []) rfl rfl (T_gh_isBelow (by omega)) ?_
  rintro _ _ ⟨rfl, rfl⟩
  change Y _ _ _ _ _ [.int _] _ _
  refine Y_if_eqb 3 rfl (pc2 := 8) rfl (tgt := 27) (by decide) (fun h5 => ?_) (fun h5 => ?_)
  · refine Y_ldc 13 rfl (pc2 := 29) rfl kc_gh_75 ?_
    refine Y_iret 14 rfl rfl rfl ⟨rfl, ?_⟩
    first | exact pc_0 h (by unfold sp_strikes; rw [cI_f (fun e => h5 e.1)]; rfl) | exact pc_w h (by unfold sp_strikes; rw [cI_f (fun e => hn e.2)]; rfl)
  · obtain ⟨q, hq, rfl⟩ := h5
    refine Y_aload_n 4 rfl (pc2 := 9) rfl rfl ?_
    refine Y_getR 5 rfl (pc2 := 12) rfl fl_gh_45 ly_gh (by decide) rfl rfl (by omega) ?_
    refine Y_aload_n 6 rfl (pc2 := 13) rfl rfl ?_
    refine Y_getR 7 rfl (pc2 := 16) rfl fl_gh_38 ly_gh (by decide) rfl rfl (by omega) ?_
    refine Y_aload_n 8 rfl (pc2 := 17) rfl rfl ?_
    refine Y_getR 9 rfl (pc2 := 20) rfl fl_gh_25 ly_gh (by decide) rfl rfl (by omega) ?_
    refine Y_iload_n 10 rfl (pc2 := 21) rfl rfl ?_
    refine Y_cV 11 rfl (pc2 := 24) rfl ok_wa_reaches lk_gh_184 vi_wa_reaches ly_wa rfl (by decide) rfl (as := [.ref _, .ref _, .int _]) (rest := []) rfl rfl (T_wa_reaches h w) ?_
    rintro _ _ (⟨r, hr, rfl, rfl, rfl⟩ | ⟨hn, rfl, c0, l0, p0, rfl⟩)
    · change Y _ _ _ _ _ [.int _] _ _
      have hL := wl_lt w r hr
      have hp16 := w.p.2
      have hC := (w.c (wp S r) (by omega)).2
      have hB := (w.b (pC S (wp S r)) hC).2
      have hZ := sz_16 hL.1
      refine Y_if_nen 12 rfl (pc2 := 27) rfl (tgt := 30) (by decide) (by decide) (fun _ => ?_) (fun hd => absurd hd (by decide))
      refine Y_aload_n 15 rfl (pc2 := 31) rfl rfl ?_
      refine Y_getR 16 rfl (pc2 := 34) rfl fl_gh_25 ly_gh (by decide) rfl rfl (by omega) ?_
      refine Y_aload_n 17 rfl (pc2 := 35) rfl rfl ?_
      refine Y_getR 18 rfl (pc2 := 38) rfl fl_gh_45 ly_gh (by decide) rfl rfl (by omega) ?_
      refine Y_getI 19 rfl (pc2 := 41) rfl fl_gh_188 ly_wa (by decide) rfl ?_
      refine Y_top (wk_c) ?_
      refine Y_aald 20 rfl (pc2 := 42) rfl ly_ghC (by decide) (fun _ => rfl) rfl (by omega) (by decide) (ly_ghC_at (by omega)) (by omega) ?_
      refine Y_astore_n 21 rfl (pc2 := 43) rfl (Nat.le_of_ble_eq_true rfl) (ls2 := [some (.ref _), some (.int _), some (.int _), some (.ref _)]) rfl ?_
      refine Y_iload_n 22 rfl (pc2 := 44) rfl rfl ?_
      refine Y_if_nen 23 rfl (pc2 := 47) rfl (tgt := 52) (by decide) (by omega) (fun h44 => ?_) (fun h44 => ?_)
      · refine Y_iload_n 27 rfl (pc2 := 53) rfl rfl ?_
        refine Y_iconst 28 rfl (pc2 := 54) rfl (v := nI 3) (by decide) ?_
        refine Y_icmp_nen 29 rfl (pc2 := 57) rfl (tgt := 62) (by decide) (by omega) (by omega) (fun h54 => ?_) (fun h54 => ?_)
        · refine Y_aload_n 33 rfl (pc2 := 63) rfl rfl ?_
          refine Y_aload_n 34 rfl (pc2 := 64) rfl rfl ?_
          refine Y_getR 35 rfl (pc2 := 67) rfl fl_gh_31 ly_gh (by decide) rfl rfl (by omega) ?_
          refine Y_aload_n 36 rfl (pc2 := 68) rfl rfl ?_
          refine Y_getR 37 rfl (pc2 := 71) rfl fl_gh_45 ly_gh (by decide) rfl rfl (by omega) ?_
          refine Y_getI 38 rfl (pc2 := 74) rfl fl_gh_191 ly_wa (by decide) rfl ?_
          refine Y_top (wk_l) ?_
          refine Y_aald 39 rfl (pc2 := 75) rfl ly_ghL (by decide) (fun _ => rfl) rfl (by omega) (by decide) (ly_ghL_at (by omega)) (by omega) ?_
          refine Y_iload_n 40 rfl (pc2 := 76) rfl rfl ?_
          refine Y_iconst 41 rfl (pc2 := 77) rfl (v := nI 1) (by decide) ?_
          refine Y_isub 42 rfl (pc2 := 78) rfl ?_
          refine Y_top (nI_sub (by omega)) ?_
          refine Y_cS 43 rfl (pc2 := 81) rfl ok_gh_halfStrikes lk_gh_219 vs_gh_halfStrikes (as := [.ref _, .ref _, .int _]) (rest := []) rfl rfl (T_gh_halfStrikes (RC_wk h) w (by omega) (by omega) (by omega)) ?_
          rintro _ _ ⟨rfl, rfl⟩
          change Y _ _ _ _ _ [.int _] _ _
          refine Y_iret 44 rfl rfl rfl ⟨rfl, ?_⟩
          exact pc_w h (by unfold sp_strikes; rw [cI_t ⟨⟨q, hq, rfl⟩, ⟨r, hr, rfl⟩⟩, nv_nI (k := q) (by omega), nv_nI (k := r) (by omega), if_neg h44, if_neg (by omega)]; rfl)
        · refine Y_aload_n 30 rfl (pc2 := 58) rfl rfl ?_
          refine Y_cV 31 rfl (pc2 := 61) rfl ok_ci_countGongs lk_gh_216 vi_ci_countGongs (ly_ci (by omega)) rfl (by decide) rfl (as := []) (rest := []) rfl rfl (T_ci_countGongs (RC_wk h) w (by omega)) ?_
          rintro _ _ ⟨rfl, rfl⟩
          change Y _ _ _ _ _ [.int _] _ _
          refine Y_iret 32 rfl rfl rfl ⟨rfl, ?_⟩
          exact pc_w h (by unfold sp_strikes; rw [cI_t ⟨⟨q, hq, rfl⟩, ⟨r, hr, rfl⟩⟩, nv_nI (k := q) (by omega), nv_nI (k := r) (by omega), if_neg h44, if_pos (by omega)]; rfl)
      · refine Y_aload_n 24 rfl (pc2 := 48) rfl rfl ?_
        refine Y_cV 25 rfl (pc2 := 51) rfl ok_ci_countNotes lk_gh_213 vi_ci_countNotes (ly_ci (by omega)) rfl (by decide) rfl (as := []) (rest := []) rfl rfl (T_ci_countNotes (RC_wk h) w (by omega)) ?_
        rintro _ _ ⟨rfl, rfl⟩
        change Y _ _ _ _ _ [.int _] _ _
        refine Y_iret 26 rfl rfl rfl ⟨rfl, ?_⟩
        exact pc_w h (by unfold sp_strikes; rw [cI_t ⟨⟨q, hq, rfl⟩, ⟨r, hr, rfl⟩⟩, nv_nI (k := q) (by omega), nv_nI (k := r) (by omega), if_pos h44]; rfl)
    · change Y _ _ _ _ _ [.int _] _ _
      refine Y_if_nen 12 rfl (pc2 := 27) rfl (tgt := 30) (by decide) (by decide) (fun hd => absurd hd (by decide)) (fun _ => ?_)
      refine Y_ldc 13 rfl (pc2 := 29) rfl kc_gh_75 ?_
      refine Y_iret 14 rfl rfl rfl ⟨rfl, ?_⟩
      first | exact pc_0 h (by unfold sp_strikes; rw [cI_f (fun e => h5 e.1)]; rfl) | exact pc_w h (by unfold sp_strikes; rw [cI_f (fun e => hn e.2)]; rfl)

set_option maxHeartbeats 400000 in
theorem T_gh_count {G : Nat × (Nat → Int32)} {m : Mm} {S : Mm} (h : RC m S) (w : WF S) {x : Int32} : Y G M_gh_count (0, 0) 0 (en_ M_gh_count [.ref (0), .int (x)]) [] (LAY, m) (qm_ LAY (pc_ (sp_count S x) m S)) := by
  change Y _ _ _ _ [some (.ref _), some (.int _)] _ _ _
  refine Y_iload_n 0 rfl (pc2 := 1) rfl rfl ?_
  refine Y_tsw 1 rfl (n := 7) (by decide) (by decide) rfl (by decide) (tgt := 91) (by decide) (fun h1 => ?_) (fun j hj h1 => ?_)
  · refine Y_ldc 27 rfl (pc2 := 93) rfl kc_gh_75 ?_
    refine Y_iret 28 rfl rfl rfl ⟨rfl, ?_⟩
    exact pc_0 h (by unfold sp_count; rw [cI_f h1]; rfl)
  · have hj2 : j = 0 ∨ j = 1 ∨ j = 2 ∨ j = 3 ∨ j = 4 ∨ j = 5 ∨ j = 6 := by omega
    rcases hj2 with rfl | rfl | rfl | rfl | rfl | rfl | rfl
    · change Y _ _ _ 44 _ _ _ _
      subst h1
      refine Y_aload_n 2 rfl (pc2 := 45) rfl rfl ?_
      refine Y_cV 3 rfl (pc2 := 48) rfl ok_gh_allBeats lk_gh_258 vi_gh_allBeats ly_gh rfl (by decide) rfl (as := []) (rest := []) rfl rfl (T_gh_allBeats h w) ?_
      rintro _ _ ⟨rfl, rfl⟩
      change Y _ _ _ _ _ [.int _] _ _
      refine Y_iret 4 rfl rfl rfl ⟨rfl, ?_⟩
      exact pc_0 h (by unfold sp_count; rw [cI_t ⟨0, by omega, rfl⟩, nv_nI (by omega)]; rw [if_pos rfl])
    · change Y _ _ _ 49 _ _ _ _
      subst h1
      refine Y_aload_n 5 rfl (pc2 := 50) rfl rfl ?_
      refine Y_cV 6 rfl (pc2 := 53) rfl ok_gh_allGongs lk_gh_261 vi_gh_allGongs ly_gh rfl (by decide) rfl (as := []) (rest := []) rfl rfl (T_gh_allGongs h w) ?_
      rintro _ _ ⟨rfl, rfl⟩
      change Y _ _ _ _ _ [.int _] _ _
      refine Y_iret 7 rfl rfl rfl ⟨rfl, ?_⟩
      exact pc_0 h (by unfold sp_count; rw [cI_t ⟨1, by omega, rfl⟩, nv_nI (by omega)]; rw [if_neg (by decide), if_pos rfl])
    · change Y _ _ _ 54 _ _ _ _
      subst h1
      refine Y_aload_n 8 rfl (pc2 := 55) rfl rfl ?_
      refine Y_cV 9 rfl (pc2 := 58) rfl ok_gh_allRight lk_gh_264 vi_gh_allRight ly_gh rfl (by decide) rfl (as := []) (rest := []) rfl rfl (T_gh_allRight h w) ?_
      rintro _ _ ⟨rfl, rfl⟩
      change Y _ _ _ _ _ [.int _] _ _
      refine Y_iret 10 rfl rfl rfl ⟨rfl, ?_⟩
      exact pc_0 h (by unfold sp_count; rw [cI_t ⟨2, by omega, rfl⟩, nv_nI (by omega)]; rw [if_neg (by decide), if_neg (by decide), if_pos rfl])
    · change Y _ _ _ 59 _ _ _ _
      subst h1
      refine Y_aload_n 11 rfl (pc2 := 60) rfl rfl ?_
      refine Y_getR 12 rfl (pc2 := 63) rfl fl_gh_38 ly_gh (by decide) rfl rfl (by omega) ?_
      refine Y_getI 13 rfl (pc2 := 66) rfl fl_gh_164 ly_pi (by decide) rfl ?_
      refine Y_top (h.p) ?_
      refine Y_iret 14 rfl rfl rfl ⟨rfl, ?_⟩
      exact pc_0 h (by unfold sp_count; rw [cI_t ⟨3, by omega, rfl⟩, nv_nI (by omega)]; rw [if_neg (by decide), if_neg (by decide), if_neg (by decide), if_pos rfl])
    · change Y _ _ _ 67 _ _ _ _
      subst h1
      refine Y_aload_n 15 rfl (pc2 := 68) rfl rfl ?_
      refine Y_getR 16 rfl (pc2 := 71) rfl fl_gh_38 ly_gh (by decide) rfl rfl (by omega) ?_
      refine Y_cV 17 rfl (pc2 := 74) rfl ok_pi_countRounds lk_gh_267 vi_pi_countRounds ly_pi rfl (by decide) rfl (as := []) (rest := []) rfl rfl (T_pi_countRounds h w) ?_
      rintro _ _ ⟨rfl, rfl⟩
      change Y _ _ _ _ _ [.int _] _ _
      refine Y_iret 18 rfl rfl rfl ⟨rfl, ?_⟩
      exact pc_0 h (by unfold sp_count; rw [cI_t ⟨4, by omega, rfl⟩, nv_nI (by omega)]; rw [if_neg (by decide), if_neg (by decide), if_neg (by decide), if_neg (by decide), if_pos rfl])
    · change Y _ _ _ 75 _ _ _ _
      subst h1
      refine Y_aload_n 19 rfl (pc2 := 76) rfl rfl ?_
      refine Y_getR 20 rfl (pc2 := 79) rfl fl_gh_38 ly_gh (by decide) rfl rfl (by omega) ?_
      refine Y_getI 21 rfl (pc2 := 82) rfl fl_gh_174 ly_pi (by decide) rfl ?_
      refine Y_top (h.sn) ?_
      refine Y_iret 22 rfl rfl rfl ⟨rfl, ?_⟩
      exact pc_0 h (by unfold sp_count; rw [cI_t ⟨5, by omega, rfl⟩, nv_nI (by omega)]; rw [if_neg (by decide), if_neg (by decide), if_neg (by decide), if_neg (by decide), if_neg (by decide), if_pos rfl])
    · change Y _ _ _ 83 _ _ _ _
      subst h1
      refine Y_aload_n 23 rfl (pc2 := 84) rfl rfl ?_
      refine Y_getR 24 rfl (pc2 := 87) rfl fl_gh_10 ly_gh (by decide) rfl rfl (by omega) ?_
      refine Y_getI 25 rfl (pc2 := 90) rfl fl_gh_67 ly_ta (by decide) rfl ?_
      refine Y_top (h.tp) ?_
      refine Y_iret 26 rfl rfl rfl ⟨rfl, ?_⟩
      exact pc_0 h (by unfold sp_count; rw [cI_t ⟨6, by omega, rfl⟩, nv_nI (by omega)]; rw [if_neg (by decide), if_neg (by decide), if_neg (by decide), if_neg (by decide), if_neg (by decide), if_neg (by decide)])
end
section
/-! the class: leaps and choice -/
def ad (a b : Nat) : Nat := if a ≤ b then b - a else a - b
def jn (k : Nat → Nat) : Nat → Nat
  | 0 => 0
  | s + 1 => jn k s + ad (k s) (k (s + 1))
def kq (S : Mm) (l f t s : Nat) : Nat := nv (ky (nI t) (lsh S l f s))
set_option maxHeartbeats 400000 in
theorem ab_ : ∀ a, a < 10 → ∀ b, b < 10 → (if 0 ≤ nI a - nI b then nI a - nI b else 0 - (nI a - nI b)) = nI (ad b a) := by decide +kernel
set_option maxHeartbeats 400000 in
theorem ad_le {a b B : Nat} (ha : a ≤ B) (hb : b ≤ B) : ad a b ≤ B := by
  unfold ad
  split <;> omega
set_option maxHeartbeats 400000 in
theorem jn_le {k : Nat → Nat} {B : Nat} : ∀ n, (∀ i, i ≤ n → k i ≤ B) → jn k n ≤ n * B
  | 0, _ => by simp [jn]
  | n + 1, h => by
    have h1 := jn_le n (fun i hi => h i (by omega))
    have h2 := ad_le (h n (by omega)) (h (n + 1) (by omega))
    show jn k n + ad (k n) (k (n + 1)) ≤ (n + 1) * B
    rw [Nat.succ_mul]; omega
abbrev okF (S : Mm) (l f : Nat) : Prop := wS S l f = 2 ^ (l + 1)
set_option maxHeartbeats 400000 in
theorem kq_is {S : Mm} (w : WF S) {l f t s : Nat} (hl : l < 4) (hf : f < 6) (ht : t < 7) (R : okF S l f) (hs : s < 2 ^ (l + 1)) : ky (nI t) (lsh S l f s) = nI (kq S l f t s) ∧ kq S l f t s < 10 := by
  have hz := sz_16 hl
  have hw : ¬ wr S l f s := fst_all R s hs
  have : ∃ j, j < 9 ∧ lsh S l f s = nI j - nI 4 := by
    unfold lsh
    by_cases e : S 157 (ix l f 0 s) = -9
    · rw [if_pos e]
      have e2 : ¬ S 157 (ix l f 1 s) = -9 := fun q => hw (Or.inl ⟨e, q⟩)
      unfold oS
      rw [if_neg e2]
      rcases w.s (ix l f 1 s) (by unfold ix; omega) with q | q
      · exact absurd q e2
      · exact q
    · rw [if_neg e]
      rcases w.s (ix l f 0 s) (by unfold ix; omega) with q | q
      · exact absurd q e
      · exact q
  obtain ⟨j, hj, e⟩ := this
  unfold kq
  rw [e]
  have := ky_d t ht j hj
  exact ⟨this.2, this.1⟩
def LRt (m S : Mm) (l f t : Nat) : Prop := m 15 (f * 7 + t) = nI (jn (kq S l f t) (2 ^ (l + 1) - 1)) ∧ m 16 (f * 7 + t) = nI (kq S l f t 0) ∧ m 17 (f * 7 + t) = nI (kq S l f t (2 ^ (l + 1) - 1))
def LR (m S : Mm) (l f : Nat) : Prop := ∀ t, t < 7 → LRt m S l f t
def lF (m m' : Mm) (f : Nat) : Prop := ∀ a k, ¬ ((a = 15 ∨ a = 16 ∨ a = 17) ∧ f * 7 ≤ k ∧ k < f * 7 + 7) → m' a k = m a k
set_option maxHeartbeats 400000 in
theorem RC_uw {m S : Mm} {a k : Nat} {v : Int32} (ha : scr a) (h : RC m S) : RC (uw_ m a k v) S := h.mono (fun b hb _ => funext fun j => uw_ne (by rintro ⟨e, _⟩; exact hb (e ▸ ha)))
set_option maxHeartbeats 400000 in
theorem lF_ne {m m' : Mm} {f a : Nat} (h : lF m m' f) (ha : ¬ (a = 15 ∨ a = 16 ∨ a = 17)) : m' a = m a := funext fun k => h a k (fun e => ha e.1)
set_option maxHeartbeats 400000 in
theorem RC_lF {m m' S : Mm} {f : Nat} (h : RC m S) (e : lF m m' f) : RC m' S := h.mono (fun a ha _ => lF_ne e (by intro q; apply ha; unfold scr; omega))
set_option maxHeartbeats 400000 in
theorem LR_lF {m m' S : Mm} {l f g : Nat} (h : LR m S l g) (e : lF m m' f) (hg : ¬ g = f) : LR m' S l g := by
  intro t ht
  obtain ⟨a, b, c⟩ := h t ht
  have q : ∀ a, m' a (g * 7 + t) = m a (g * 7 + t) := fun a => e a _ (by omega)
  exact ⟨(q 15).trans a, (q 16).trans b, (q 17).trans c⟩
set_option maxHeartbeats 400000 in
theorem LR_k {m m' S : Mm} {l f a k : Nat} {v : Int32} (h : LR m S l f) (ha : ¬ (a = 15 ∨ a = 16 ∨ a = 17)) (e : m' = uw_ m a k v) : LR m' S l f := by
  intro t ht
  obtain ⟨p, q, r⟩ := h t ht
  rw [e]
  exact ⟨(uw_ne (by omega)).trans p, (uw_ne (by omega)).trans q, (uw_ne (by omega)).trans r⟩

set_option maxHeartbeats 400000 in
theorem L_inner2 {G : Nat × (Nat → Int32)} {m : Mm} {S : Mm} (h : RC m S) (w : WF S) {l f t : Nat} (hl : l < 4) (hf : f < 6) (ht : t < 7) (R : okF S l f) : ∀ i, i ≤ 2 ^ (l + 1) - 1 → ∀ (u : Option Value), Y G M_li_innerLeaps (0, 0) 15 [some (.ref (44 + 27 * l + 4 * f)), some (.int (nI t)), some (.int (nI (jn (kq S l f t) i))), some (.int (nI (kq S l f t i))), some (.int (nI (i + 1))), u] [] (LAY, m) (qm_ LAY (pu_ (nI (jn (kq S l f t) (2 ^ (l + 1) - 1))) m)) := by
  have hz := sz_16 hl
  have hz2 := sz_2 (l := l)
  refine ind_ (fun i hi ih u => ?_)
  refine Y_iload 10 rfl (pc2 := 17) rfl rfl ?_
  refine Y_aload_n 11 rfl (pc2 := 18) rfl rfl ?_
  refine Y_getR 12 rfl (pc2 := 21) rfl fl_li_28 (ly_fi (by omega) (by omega)) (by decide) rfl rfl (by omega) ?_
  refine Y_alen_i 13 rfl (pc2 := 22) rfl (ly_fiM (by omega) (by omega)) rfl ?_
  refine Y_icmp_gen 14 rfl (pc2 := 25) rfl (tgt := 56) (by decide) (by omega) (by omega) (fun h22 => ?_) (fun h22 => ?_)
  · refine Y_iload_n 32 rfl (pc2 := 57) rfl rfl ?_
    refine Y_iret 33 rfl rfl rfl ⟨rfl, ?_⟩
    exact pu_i (by rw [show i = 2 ^ (l + 1) - 1 by omega])
  · refine Y_iload_n 15 rfl (pc2 := 26) rfl rfl ?_
    refine Y_aload_n 16 rfl (pc2 := 27) rfl rfl ?_
    refine Y_iload 17 rfl (pc2 := 29) rfl rfl ?_
    refine Y_cV 18 rfl (pc2 := 32) rfl ok_fi_lineShift lk_li_37 vi_fi_lineShift (ly_fi (by omega) (by omega)) rfl (by decide) rfl (as := [.int _]) (rest := [.int _]) rfl rfl (T_fi_lineShift h w (by omega) (by omega) (by omega)) ?_
    rintro _ _ ⟨rfl, rfl⟩
    change Y _ _ _ _ _ [.int _, .int _] _ _
    refine Y_cS 19 rfl (pc2 := 35) rfl ok_gh_keyOf lk_li_41 vs_gh_keyOf (as := [.int _, .int _]) (rest := []) rfl rfl T_gh_keyOf ?_
    rintro _ _ ⟨rfl, rfl⟩
    change Y _ _ _ _ _ [.int _] _ _
    refine Y_top (kq_is w hl hf ht R (by omega)).1 ?_
    refine Y_istore 20 rfl (pc2 := 37) rfl (Nat.le_of_ble_eq_true rfl) (ls2 := [some (.ref _), some (.int _), some (.int _), some (.int _), some (.int _), some (.int _)]) rfl ?_
    refine Y_iload_n 21 rfl (pc2 := 38) rfl rfl ?_
    refine Y_iload 22 rfl (pc2 := 40) rfl rfl ?_
    refine Y_iload_n 23 rfl (pc2 := 41) rfl rfl ?_
    refine Y_isub 24 rfl (pc2 := 42) rfl ?_
    refine Y_abs (y := 0) 25 rfl (pc2 := 45) rfl lk_li_45 jd_abs_s jd_mi jd_abs_c (by decide) (Nat.le_of_ble_eq_true rfl) ?_
    refine Y_top (ab_ _ (kq_is w hl hf ht R (by omega)).2 _ (kq_is w hl hf ht R (by omega)).2) ?_
    refine Y_iadd 26 rfl (pc2 := 46) rfl ?_
    refine Y_top (nI_add _ _) ?_
    refine Y_istore_n 27 rfl (pc2 := 47) rfl (Nat.le_of_ble_eq_true rfl) (ls2 := [some (.ref _), some (.int _), some (.int _), some (.int _), some (.int _), some (.int _)]) rfl ?_
    refine Y_iload 28 rfl (pc2 := 49) rfl rfl ?_
    refine Y_istore_n 29 rfl (pc2 := 50) rfl (Nat.le_of_ble_eq_true rfl) (ls2 := [some (.ref _), some (.int _), some (.int _), some (.int _), some (.int _), some (.int _)]) rfl ?_
    refine Y_iinc 30 rfl (pc2 := 53) rfl rfl (nI_inc _ 1) (ls2 := [some (.ref _), some (.int _), some (.int _), some (.int _), some (.int _), some (.int _)]) rfl ?_
    refine Y_goto 31 rfl (pc2 := 15) (by decide) ?_
    exact ih (i + 1) (by omega) (by omega) _

set_option maxHeartbeats 400000 in
theorem T_li_innerLeaps {G : Nat × (Nat → Int32)} {m : Mm} {S : Mm} (h : RC m S) (w : WF S) {l f t : Nat} (hl : l < 4) (hf : f < 6) (ht : t < 7) (R : okF S l f) : Y G M_li_innerLeaps (0, 0) 0 (en_ M_li_innerLeaps [.ref (44 + 27 * l + 4 * f), .int (nI t)]) [] (LAY, m) (qm_ LAY (pu_ (nI (jn (kq S l f t) (2 ^ (l + 1) - 1))) m)) := by
  change Y _ _ _ _ [some (.ref _), some (.int _), none, none, none, none] _ _ _
  have hz := sz_16 hl
  have hz2 := sz_2 (l := l)
  refine Y_iconst 0 rfl (pc2 := 1) rfl (v := nI 0) (by decide) ?_
  refine Y_istore_n 1 rfl (pc2 := 2) rfl (Nat.le_of_ble_eq_true rfl) (ls2 := [some (.ref _), some (.int _), some (.int _), none, none, none]) rfl ?_
  refine Y_iload_n 2 rfl (pc2 := 3) rfl rfl ?_
  refine Y_aload_n 3 rfl (pc2 := 4) rfl rfl ?_
  refine Y_iconst 4 rfl (pc2 := 5) rfl (v := nI 0) (by decide) ?_
  refine Y_cV 5 rfl (pc2 := 8) rfl ok_fi_lineShift lk_li_37 vi_fi_lineShift (ly_fi (by omega) (by omega)) rfl (by decide) rfl (as := [.int _]) (rest := [.int _]) rfl rfl (T_fi_lineShift h w (by omega) (by omega) (by omega)) ?_
  rintro _ _ ⟨rfl, rfl⟩
  change Y _ _ _ _ _ [.int _, .int _] _ _
  refine Y_cS 6 rfl (pc2 := 11) rfl ok_gh_keyOf lk_li_41 vs_gh_keyOf (as := [.int _, .int _]) (rest := []) rfl rfl T_gh_keyOf ?_
  rintro _ _ ⟨rfl, rfl⟩
  change Y _ _ _ _ _ [.int _] _ _
  refine Y_top (kq_is w hl hf ht R (by omega)).1 ?_
  refine Y_istore_n 7 rfl (pc2 := 12) rfl (Nat.le_of_ble_eq_true rfl) (ls2 := [some (.ref _), some (.int _), some (.int _), some (.int _), none, none]) rfl ?_
  refine Y_iconst 8 rfl (pc2 := 13) rfl (v := nI 1) (by decide) ?_
  refine Y_istore 9 rfl (pc2 := 15) rfl (Nat.le_of_ble_eq_true rfl) (ls2 := [some (.ref _), some (.int _), some (.int _), some (.int _), some (.int _), none]) rfl ?_
  exact L_inner2 h w hl hf ht R 0 (Nat.zero_le _) _

def pL_ (m S : Mm) (l f : Nat) : Option Value → Mm → Prop := fun v m2 => v = none ∧ lF m m2 f ∧ LR m2 S l f
set_option maxHeartbeats 400000 in
theorem L_learn {G : Nat × (Nat → Int32)} {m : Mm} {S : Mm} (h0 : RC m S) (w : WF S) {l f : Nat} (hl : l < 4) (hf : f < 6) (R : okF S l f) : ∀ t, t ≤ 7 → ∀ m1, lF m m1 f → (∀ q, q < t → LRt m1 S l f q) → ∀ (u : Option Value), Y G M_li_learn (0, 0) 11 [some (.ref 14), some (.ref (44 + 27 * l + 4 * f)), some (.int (nI f)), some (.int (nI (2 ^ (l + 1) - 1))), some (.int (nI t)), u] [] (LAY, m1) (qm_ LAY (pL_ m S l f)) := by
  have hz := sz_16 hl
  have hz2 := sz_2 (l := l)
  refine ind_ (fun t ht0 ih m1 hF hD u => ?_)
  have h := RC_lF h0 hF
  refine Y_iload 8 rfl (pc2 := 13) rfl rfl ?_
  refine Y_bipush 9 rfl (pc2 := 15) rfl (v := nI 7) (by decide) ?_
  refine Y_icmp_gen 10 rfl (pc2 := 18) rfl (tgt := 80) (by decide) (by omega) (by omega) (fun h15 => ?_) (fun h15 => ?_)
  · refine Y_vret 44 rfl rfl ⟨rfl, ?_⟩
    exact ⟨rfl, hF, fun q hq => hD q (by omega)⟩
  · have ht : t < 7 := by omega
    refine Y_iload_n 11 rfl (pc2 := 19) rfl rfl ?_
    refine Y_bipush 12 rfl (pc2 := 21) rfl (v := nI 7) (by decide) ?_
    refine Y_imul 13 rfl (pc2 := 22) rfl ?_
    refine Y_top (nI_mul _ _) ?_
    refine Y_iload 14 rfl (pc2 := 24) rfl rfl ?_
    refine Y_iadd 15 rfl (pc2 := 25) rfl ?_
    refine Y_top (nI_add _ _) ?_
    refine Y_istore 16 rfl (pc2 := 27) rfl (Nat.le_of_ble_eq_true rfl) (ls2 := [some (.ref _), some (.ref _), some (.int _), some (.int _), some (.int _), some (.int _)]) rfl ?_
    refine Y_aload_n 17 rfl (pc2 := 28) rfl rfl ?_
    refine Y_getR 18 rfl (pc2 := 31) rfl fl_li_9 ly_li (by decide) rfl rfl (by omega) ?_
    refine Y_iload 19 rfl (pc2 := 33) rfl rfl ?_
    refine Y_aload_n 20 rfl (pc2 := 34) rfl rfl ?_
    refine Y_iload 21 rfl (pc2 := 36) rfl rfl ?_
    refine Y_cS 22 rfl (pc2 := 39) rfl ok_li_innerLeaps lk_li_33 vs_li_innerLeaps (as := [.ref _, .int _]) (rest := [.int _, .ref _]) rfl rfl (T_li_innerLeaps h w (by omega) (by omega) (by omega) R) ?_
    rintro _ _ ⟨rfl, rfl⟩
    change Y _ _ _ _ _ [.int _, .int _, .ref _] _ _
    refine Y_iast 23 rfl (pc2 := 40) rfl ly_liI rfl (by omega) (by decide) rfl ?_
    refine Y_aload_n 24 rfl (pc2 := 41) rfl rfl ?_
    refine Y_getR 25 rfl (pc2 := 44) rfl fl_li_15 ly_li (by decide) rfl rfl (by omega) ?_
    refine Y_iload 26 rfl (pc2 := 46) rfl rfl ?_
    refine Y_iload 27 rfl (pc2 := 48) rfl rfl ?_
    refine Y_aload_n 28 rfl (pc2 := 49) rfl rfl ?_
    refine Y_iconst 29 rfl (pc2 := 50) rfl (v := nI 0) (by decide) ?_
    refine Y_cV 30 rfl (pc2 := 53) rfl ok_fi_lineShift lk_li_37 vi_fi_lineShift (ly_fi (by omega) (by omega)) rfl (by decide) rfl (as := [.int _]) (rest := [.int _, .int _, .ref _]) rfl rfl (T_fi_lineShift (RC_uw (by unfold scr; omega) h) w (by omega) (by omega) (by omega)) ?_
    rintro _ _ ⟨rfl, rfl⟩
    change Y _ _ _ _ _ [.int _, .int _, .int _, .ref _] _ _
    refine Y_cS 31 rfl (pc2 := 56) rfl ok_gh_keyOf lk_li_41 vs_gh_keyOf (as := [.int _, .int _]) (rest := [.int _, .ref _]) rfl rfl T_gh_keyOf ?_
    rintro _ _ ⟨rfl, rfl⟩
    change Y _ _ _ _ _ [.int _, .int _, .ref _] _ _
    refine Y_top (kq_is w hl hf ht R (by omega)).1 ?_
    refine Y_iast 32 rfl (pc2 := 57) rfl ly_liF rfl (by omega) (by decide) rfl ?_
    refine Y_aload_n 33 rfl (pc2 := 58) rfl rfl ?_
    refine Y_getR 34 rfl (pc2 := 61) rfl fl_li_18 ly_li (by decide) rfl rfl (by omega) ?_
    refine Y_iload 35 rfl (pc2 := 63) rfl rfl ?_
    refine Y_iload 36 rfl (pc2 := 65) rfl rfl ?_
    refine Y_aload_n 37 rfl (pc2 := 66) rfl rfl ?_
    refine Y_iload_n 38 rfl (pc2 := 67) rfl rfl ?_
    refine Y_cV 39 rfl (pc2 := 70) rfl ok_fi_lineShift lk_li_37 vi_fi_lineShift (ly_fi (by omega) (by omega)) rfl (by decide) rfl (as := [.int _]) (rest := [.int _, .int _, .ref _]) rfl rfl (T_fi_lineShift (RC_uw (by unfold scr; omega) (RC_uw (by unfold scr; omega) h)) w (by omega) (by omega) (by omega)) ?_
    rintro _ _ ⟨rfl, rfl⟩
    change Y _ _ _ _ _ [.int _, .int _, .int _, .ref _] _ _
    refine Y_cS 40 rfl (pc2 := 73) rfl ok_gh_keyOf lk_li_41 vs_gh_keyOf (as := [.int _, .int _]) (rest := [.int _, .ref _]) rfl rfl T_gh_keyOf ?_
    rintro _ _ ⟨rfl, rfl⟩
    change Y _ _ _ _ _ [.int _, .int _, .ref _] _ _
    refine Y_top (kq_is w hl hf ht R (by omega)).1 ?_
    refine Y_iast 41 rfl (pc2 := 74) rfl ly_liL rfl (by omega) (by decide) rfl ?_
    refine Y_iinc 42 rfl (pc2 := 77) rfl rfl (nI_inc _ 1) (ls2 := [some (.ref _), some (.ref _), some (.int _), some (.int _), some (.int _), some (.int _)]) rfl ?_
    refine Y_goto 43 rfl (pc2 := 11) (by decide) ?_
    refine ih (t + 1) (by omega) (by omega) _ (fun a k hk => ?_) (fun q hq => ?_) _
    · rw [uw_ne (by omega), uw_ne (by omega), uw_ne (by omega)]
      exact hF a k hk
    · by_cases e : q = t
      · subst e
        exact ⟨by rw [uw_ne (by omega), uw_ne (by omega), uw_same], by rw [uw_ne (by omega), uw_same], by rw [uw_same]⟩
      · obtain ⟨p1, p2, p3⟩ := hD q (by omega)
        exact ⟨by rw [uw_ne (by omega), uw_ne (by omega), uw_ne (by omega)]; exact p1, by rw [uw_ne (by omega), uw_ne (by omega), uw_ne (by omega)]; exact p2, by rw [uw_ne (by omega), uw_ne (by omega), uw_ne (by omega)]; exact p3⟩

set_option maxHeartbeats 400000 in
theorem T_li_learn {G : Nat × (Nat → Int32)} {m : Mm} {S : Mm} (h : RC m S) (w : WF S) {l f : Nat} (hl : l < 4) (hf : f < 6) (R : okF S l f) : Y G M_li_learn (0, 0) 0 (en_ M_li_learn [.ref (14), .ref (44 + 27 * l + 4 * f), .int (nI f)]) [] (LAY, m) (qm_ LAY (pL_ m S l f)) := by
  change Y _ _ _ _ [some (.ref _), some (.ref _), some (.int _), none, none, none] _ _ _
  have hz := sz_16 hl
  have hz2 := sz_2 (l := l)
  refine Y_aload_n 0 rfl (pc2 := 1) rfl rfl ?_
  refine Y_getR 1 rfl (pc2 := 4) rfl fl_li_28 (ly_fi (by omega) (by omega)) (by decide) rfl rfl (by omega) ?_
  refine Y_alen_i 2 rfl (pc2 := 5) rfl (ly_fiM (by omega) (by omega)) rfl ?_
  refine Y_iconst 3 rfl (pc2 := 6) rfl (v := nI 1) (by decide) ?_
  refine Y_isub 4 rfl (pc2 := 7) rfl ?_
  refine Y_top (nI_sub (by omega)) ?_
  refine Y_istore_n 5 rfl (pc2 := 8) rfl (Nat.le_of_ble_eq_true rfl) (ls2 := [some (.ref _), some (.ref _), some (.int _), some (.int _), none, none]) rfl ?_
  refine Y_iconst 6 rfl (pc2 := 9) rfl (v := nI 0) (by decide) ?_
  refine Y_istore 7 rfl (pc2 := 11) rfl (Nat.le_of_ble_eq_true rfl) (ls2 := [some (.ref _), some (.ref _), some (.int _), some (.int _), some (.int _), none]) rfl ?_
  exact L_learn h w hl hf R 0 (Nat.zero_le _) m (fun a k _ => rfl) (fun q hq => absurd hq (Nat.not_lt_zero q)) _

def th3 (a b c i : Nat) : Nat := if i = 0 then a else if i = 1 then b else c
def Kb (S : Mm) (c l : Nat) (th : Nat → Nat) (b : Nat) : Nat → Nat := kq S l (th (turn S c b)) (nv (tone S c b))
def lps1 (S : Mm) (c l : Nat) (th : Nat → Nat) (b : Nat) : Nat := jn (Kb S c l th b) (2 ^ (l + 1) - 1) + ad (Kb S c l th b (2 ^ (l + 1) - 1)) (Kb S c l th (nxt (bt S c) b) 0)
def lps (S : Mm) (c l : Nat) (th : Nat → Nat) : Nat := su (lps1 S c l th) (bt S c)
def en (S : Mm) (c : Nat) (th : Nat → Nat) (b : Nat) : Nat := th (turn S c b) * 7 + nv (tone S c b)
set_option maxHeartbeats 400000 in
theorem tone_nI {S : Mm} (w : WF S) {c b : Nat} (hc : c < 4) (hb : b < bt S c) : tone S c b = nI (nv (tone S c b)) ∧ nv (tone S c b) < 7 := by
  obtain ⟨k, hk, e⟩ := tone_iR w hc hb
  rw [e, nv_nI (by omega)]
  exact ⟨rfl, hk⟩

set_option maxHeartbeats 400000 in
theorem T_li_entryOf {G : Nat × (Nat → Int32)} {m : Mm} {S : Mm} (h : RC m S) (w : WF S) {c : Nat} {th : Nat → Nat} (hc : c < 4) (hth : ∀ i, i < 3 → th i < 6) (hch : ∀ i, i < 3 → m 18 i = nI (th i)) {b : Nat} (hb : b < bt S c) : Y G M_li_entryOf (0, 0) 0 (en_ M_li_entryOf [.ref (14), .ref (21 + 5 * c), .int (nI b)]) [] (LAY, m) (qm_ LAY (pu_ (nI (en S c th b)) m)) := by
  change Y _ _ _ _ [some (.ref _), some (.ref _), some (.int _)] _ _ _
  have hn := (w.b c hc).2
  have ht3 : turn S c b < 3 := turn_lt
  refine Y_aload_n 0 rfl (pc2 := 1) rfl rfl ?_
  refine Y_getR 1 rfl (pc2 := 4) rfl fl_li_21 ly_li (by decide) rfl rfl (by omega) ?_
  refine Y_aload_n 2 rfl (pc2 := 5) rfl rfl ?_
  refine Y_getR 3 rfl (pc2 := 8) rfl fl_li_63 (ly_ci (by omega)) (by decide) rfl rfl (by omega) ?_
  refine Y_iload_n 4 rfl (pc2 := 9) rfl rfl ?_
  refine Y_iald 5 rfl (pc2 := 10) rfl (ly_ciU (by omega)) rfl (by omega) (by decide) ?_
  refine Y_top (h.u c b hc hb) ?_
  refine Y_iald 6 rfl (pc2 := 11) rfl ly_liC rfl (by omega) (by decide) ?_
  refine Y_top (hch _ (by omega)) ?_
  refine Y_bipush 7 rfl (pc2 := 13) rfl (v := nI 7) (by decide) ?_
  refine Y_imul 8 rfl (pc2 := 14) rfl ?_
  refine Y_top (nI_mul _ _) ?_
  refine Y_aload_n 9 rfl (pc2 := 15) rfl rfl ?_
  refine Y_getR 10 rfl (pc2 := 18) rfl fl_li_66 (ly_ci (by omega)) (by decide) rfl rfl (by omega) ?_
  refine Y_iload_n 11 rfl (pc2 := 19) rfl rfl ?_
  refine Y_iald 12 rfl (pc2 := 20) rfl (ly_ciT (by omega)) rfl (by omega) (by decide) ?_
  refine Y_top ((h.t c b hc hb).trans (tone_nI w hc hb).1) ?_
  refine Y_iadd 13 rfl (pc2 := 21) rfl ?_
  refine Y_top (nI_add _ _) ?_
  refine Y_iret 14 rfl rfl rfl ⟨rfl, ?_⟩
  exact pu_i rfl

set_option maxHeartbeats 400000 in
theorem L_leaps {G : Nat × (Nat → Int32)} {m : Mm} {S : Mm} (h : RC m S) (w : WF S) {c : Nat} {th : Nat → Nat} (hc : c < 4) (hth : ∀ i, i < 3 → th i < 6) {l : Nat} (hl : l < 4) (hok : ∀ i, i < 3 → okF S l (th i)) (hLR : ∀ i, i < 3 → LR m S l (th i)) (hch : ∀ i, i < 3 → m 18 i = nI (th i)) {x y z : Int32} : ∀ i, i ≤ bt S c → ∀ (u : Option Value), Y G M_li_leapsWith (0, 0) 36 [some (.ref 14), some (.ref (21 + 5 * c)), some (.int x), some (.int y), some (.int z), some (.int (nI (su (lps1 S c l th) i))), some (.int (nI (en S c th (if i < bt S c then i else 0)))), some (.int (nI i)), u] [] (LAY, m) (qm_ LAY (pu_ (nI (lps S c l th)) m)) := by
  have hn := (w.b c hc).2
  have hz2 := sz_2 (l := l)
  have hz := sz_16 hl
  refine ind_ (fun i hi ih u => ?_)
  refine Y_iload 24 rfl (pc2 := 38) rfl rfl ?_
  refine Y_aload_n 25 rfl (pc2 := 39) rfl rfl ?_
  refine Y_getI 26 rfl (pc2 := 42) rfl fl_li_54 (ly_ci (by omega)) (by decide) rfl ?_
  refine Y_top ((h.b _ (by omega)).trans (w.b _ (by omega)).1) ?_
  refine Y_icmp_gen 27 rfl (pc2 := 45) rfl (tgt := 99) (by decide) (by omega) (by omega) (fun h42 => ?_) (fun h42 => ?_)
  · refine Y_iload 57 rfl (pc2 := 101) rfl rfl ?_
    refine Y_iret 58 rfl rfl rfl ⟨rfl, ?_⟩
    exact pu_i (by rw [show i = bt S c by omega]; rfl)
  · rw [show (if i < bt S c then i else 0) = i from if_pos (by omega)]
    have hx : nxt (bt S c) i < bt S c := nxt_lt (by omega)
    have hen : en S c th i < 42 := by have a := hth _ (turn_lt (S := S) (c := c) (b := i)); have b := (tone_nI w hc (b := i) (by omega)).2; unfold en; omega
    have hen2 : en S c th (nxt (bt S c) i) < 42 := by have a := hth _ (turn_lt (S := S) (c := c) (b := nxt (bt S c) i)); have b := (tone_nI w hc hx).2; unfold en; omega
    refine Y_aload_n 28 rfl (pc2 := 46) rfl rfl ?_
    refine Y_aload_n 29 rfl (pc2 := 47) rfl rfl ?_
    refine Y_aload_n 30 rfl (pc2 := 48) rfl rfl ?_
    refine Y_iload 31 rfl (pc2 := 50) rfl rfl ?_
    refine Y_cV 32 rfl (pc2 := 53) rfl ok_ci_beatBehind lk_li_60 vi_ci_beatBehind (ly_ci (by omega)) rfl (by decide) rfl (as := [.int _]) (rest := [.ref _, .ref _]) rfl rfl (T_ci_beatBehind h w (by omega) (by omega)) ?_
    rintro _ _ ⟨rfl, rfl⟩
    change Y _ _ _ _ _ [.int _, .ref _, .ref _] _ _
    refine Y_cV 33 rfl (pc2 := 56) rfl ok_li_entryOf lk_li_50 vi_li_entryOf ly_li rfl (by decide) rfl (as := [.ref _, .int _]) (rest := []) rfl rfl (T_li_entryOf h w (by omega) hth hch (by omega)) ?_
    rintro _ _ ⟨rfl, rfl⟩
    change Y _ _ _ _ _ [.int _] _ _
    refine Y_istore 34 rfl (pc2 := 58) rfl (Nat.le_of_ble_eq_true rfl) (ls2 := [some (.ref _), some (.ref _), some (.int _), some (.int _), some (.int _), some (.int _), some (.int _), some (.int _), some (.int _)]) rfl ?_
    refine Y_iload 35 rfl (pc2 := 60) rfl rfl ?_
    refine Y_aload_n 36 rfl (pc2 := 61) rfl rfl ?_
    refine Y_getR 37 rfl (pc2 := 64) rfl fl_li_9 ly_li (by decide) rfl rfl (by omega) ?_
    refine Y_iload 38 rfl (pc2 := 66) rfl rfl ?_
    refine Y_iald 39 rfl (pc2 := 67) rfl ly_liI rfl (by omega) (by decide) ?_
    refine Y_top ((hLR _ (turn_lt) _ (tone_nI w hc (by omega)).2).1) ?_
    refine Y_aload_n 40 rfl (pc2 := 68) rfl rfl ?_
    refine Y_getR 41 rfl (pc2 := 71) rfl fl_li_15 ly_li (by decide) rfl rfl (by omega) ?_
    refine Y_iload 42 rfl (pc2 := 73) rfl rfl ?_
    refine Y_iald 43 rfl (pc2 := 74) rfl ly_liF rfl (by omega) (by decide) ?_
    refine Y_top ((hLR _ (turn_lt) _ (tone_nI w hc hx).2).2.1) ?_
    refine Y_aload_n 44 rfl (pc2 := 75) rfl rfl ?_
    refine Y_getR 45 rfl (pc2 := 78) rfl fl_li_18 ly_li (by decide) rfl rfl (by omega) ?_
    refine Y_iload 46 rfl (pc2 := 80) rfl rfl ?_
    refine Y_iald 47 rfl (pc2 := 81) rfl ly_liL rfl (by omega) (by decide) ?_
    refine Y_top ((hLR _ (turn_lt) _ (tone_nI w hc (by omega)).2).2.2) ?_
    refine Y_isub 48 rfl (pc2 := 82) rfl ?_
    refine Y_abs (y := 0) 49 rfl (pc2 := 85) rfl lk_li_45 jd_abs_s jd_mi jd_abs_c (by decide) (Nat.le_of_ble_eq_true rfl) ?_
    refine Y_top (ab_ _ (kq_is w hl (hth _ turn_lt) (tone_nI w hc hx).2 (hok _ turn_lt) (by omega)).2 _ (kq_is w hl (hth _ turn_lt) (tone_nI w hc (by omega)).2 (hok _ turn_lt) (by omega)).2) ?_
    refine Y_iadd 50 rfl (pc2 := 86) rfl ?_
    refine Y_top (nI_add _ _) ?_
    refine Y_iadd 51 rfl (pc2 := 87) rfl ?_
    refine Y_top (nI_add _ _) ?_
    refine Y_istore 52 rfl (pc2 := 89) rfl (Nat.le_of_ble_eq_true rfl) (ls2 := [some (.ref _), some (.ref _), some (.int _), some (.int _), some (.int _), some (.int _), some (.int _), some (.int _), some (.int _)]) rfl ?_
    refine Y_iload 53 rfl (pc2 := 91) rfl rfl ?_
    refine Y_istore 54 rfl (pc2 := 93) rfl (Nat.le_of_ble_eq_true rfl) (ls2 := [some (.ref _), some (.ref _), some (.int _), some (.int _), some (.int _), some (.int _), some (.int _), some (.int _), some (.int _)]) rfl ?_
    refine Y_iinc 55 rfl (pc2 := 96) rfl rfl (nI_inc _ 1) (ls2 := [some (.ref _), some (.ref _), some (.int _), some (.int _), some (.int _), some (.int _), some (.int _), some (.int _), some (.int _)]) rfl ?_
    refine Y_goto 56 rfl (pc2 := 36) (by decide) ?_
    by_cases e : i + 1 < bt S c
    · have hi2 := ih (i + 1) (by omega) (by omega) (some (.int (nI (en S c th (nxt (bt S c) i)))))
      rw [show nxt (bt S c) i = i + 1 from if_pos e] at hi2 ⊢
      rw [if_pos e] at hi2
      refine Y_ls ?_ hi2
      rw [show su (lps1 S c l th) (i + 1) = su (lps1 S c l th) i + lps1 S c l th i from rfl]
      unfold lps1 Kb
      rw [show nxt (bt S c) i = i + 1 from if_pos e]
    · have hi2 := ih (i + 1) (by omega) (by omega) (some (.int (nI (en S c th (nxt (bt S c) i)))))
      rw [if_neg e] at hi2
      rw [show nxt (bt S c) i = 0 from if_neg e] at hi2 ⊢
      refine Y_ls ?_ hi2
      rw [show su (lps1 S c l th) (i + 1) = su (lps1 S c l th) i + lps1 S c l th i from rfl]
      unfold lps1 Kb
      rw [show nxt (bt S c) i = 0 from if_neg e]

def eq18 (m m' : Mm) : Prop := ∀ a, ¬ a = 18 → m' a = m a
def p18 (x : Int32) (m : Mm) : Option Value → Mm → Prop := fun v m' => v = some (.int x) ∧ eq18 m m'
set_option maxHeartbeats 400000 in
theorem RC_18 {m m' S : Mm} (h : RC m S) (e : eq18 m m') : RC m' S := h.mono (fun a ha _ => e a (by intro q; apply ha; unfold scr; omega))
set_option maxHeartbeats 400000 in
theorem LR_18 {m m' S : Mm} {l f : Nat} (h : LR m S l f) (e : eq18 m m') : LR m' S l f := by
  intro t ht
  unfold LRt
  rw [e 15 (by omega), e 16 (by omega), e 17 (by omega)]
  exact h t ht
set_option maxHeartbeats 400000 in
theorem th3_lt {a b d i n : Nat} (ha : a < n) (hb : b < n) (hd : d < n) : th3 a b d i < n := by
  unfold th3
  split
  · exact ha
  · split
    · exact hb
    · exact hd
set_option maxHeartbeats 400000 in
theorem th3_all {P : Nat → Prop} {a b d : Nat} (ha : P a) (hb : P b) (hd : P d) (i : Nat) : P (th3 a b d i) := by
  unfold th3
  split
  · exact ha
  · split
    · exact hb
    · exact hd

set_option maxHeartbeats 400000 in
theorem T_li_leapsWith {G : Nat × (Nat → Int32)} {m : Mm} {S : Mm} (h : RC m S) (w : WF S) {c l a b d : Nat} (hc : c < 4) (hl : l < 4) (ha : a < 6) (hb : b < 6) (hd : d < 6) (oa : okF S l a) (ob : okF S l b) (od : okF S l d) (La : LR m S l a) (Lb : LR m S l b) (Ld : LR m S l d) : Y G M_li_leapsWith (0, 0) 0 (en_ M_li_leapsWith [.ref (14), .ref (21 + 5 * c), .int (nI a), .int (nI b), .int (nI d)]) [] (LAY, m) (qm_ LAY (p18 (nI (lps S c l (th3 a b d))) m)) := by
  change Y _ _ _ _ [some (.ref _), some (.ref _), some (.int _), some (.int _), some (.int _), none, none, none, none] _ _ _
  have hn := (w.b c hc).2
  refine Y_aload_n 0 rfl (pc2 := 1) rfl rfl ?_
  refine Y_getR 1 rfl (pc2 := 4) rfl fl_li_21 ly_li (by decide) rfl rfl (by omega) ?_
  refine Y_iconst 2 rfl (pc2 := 5) rfl (v := nI 0) (by decide) ?_
  refine Y_iload_n 3 rfl (pc2 := 6) rfl rfl ?_
  refine Y_iast 4 rfl (pc2 := 7) rfl ly_liC rfl (by omega) (by decide) rfl ?_
  refine Y_aload_n 5 rfl (pc2 := 8) rfl rfl ?_
  refine Y_getR 6 rfl (pc2 := 11) rfl fl_li_21 ly_li (by decide) rfl rfl (by omega) ?_
  refine Y_iconst 7 rfl (pc2 := 12) rfl (v := nI 1) (by decide) ?_
  refine Y_iload_n 8 rfl (pc2 := 13) rfl rfl ?_
  refine Y_iast 9 rfl (pc2 := 14) rfl ly_liC rfl (by omega) (by decide) rfl ?_
  refine Y_aload_n 10 rfl (pc2 := 15) rfl rfl ?_
  refine Y_getR 11 rfl (pc2 := 18) rfl fl_li_21 ly_li (by decide) rfl rfl (by omega) ?_
  refine Y_iconst 12 rfl (pc2 := 19) rfl (v := nI 2) (by decide) ?_
  refine Y_iload 13 rfl (pc2 := 21) rfl rfl ?_
  refine Y_iast 14 rfl (pc2 := 22) rfl ly_liC rfl (by omega) (by decide) rfl ?_
  generalize hm2 : uw_ (uw_ (uw_ m 18 0 (nI a)) 18 1 (nI b)) 18 2 (nI d) = m2
  have e18 : eq18 m m2 := fun q hq => by rw [← hm2]; funext k; rw [uw_ne (by omega), uw_ne (by omega), uw_ne (by omega)]
  have hch : ∀ i, i < 3 → m2 18 i = nI (th3 a b d i) := by
    intro i hi
    have hi3 : i = 0 ∨ i = 1 ∨ i = 2 := by omega
    rw [← hm2]
    rcases hi3 with rfl | rfl | rfl
    · rw [uw_ne (by omega), uw_ne (by omega), uw_same]; rfl
    · rw [uw_ne (by omega), uw_same]; rfl
    · rw [uw_same]; rfl
  have h2 := RC_18 h e18
  have hth : ∀ i, i < 3 → th3 a b d i < 6 := fun i _ => th3_lt ha hb hd
  refine Y_iconst 15 rfl (pc2 := 23) rfl (v := nI 0) (by decide) ?_
  refine Y_istore 16 rfl (pc2 := 25) rfl (Nat.le_of_ble_eq_true rfl) (ls2 := [some (.ref _), some (.ref _), some (.int _), some (.int _), some (.int _), some (.int _), none, none, none]) rfl ?_
  refine Y_aload_n 17 rfl (pc2 := 26) rfl rfl ?_
  refine Y_aload_n 18 rfl (pc2 := 27) rfl rfl ?_
  refine Y_iconst 19 rfl (pc2 := 28) rfl (v := nI 0) (by decide) ?_
  refine Y_cV 20 rfl (pc2 := 31) rfl ok_li_entryOf lk_li_50 vi_li_entryOf ly_li rfl (by decide) rfl (as := [.ref _, .int _]) (rest := []) rfl rfl (T_li_entryOf h2 w (by omega) hth hch (by omega)) ?_
  rintro _ _ ⟨rfl, rfl⟩
  change Y _ _ _ _ _ [.int _] _ _
  refine Y_istore 21 rfl (pc2 := 33) rfl (Nat.le_of_ble_eq_true rfl) (ls2 := [some (.ref _), some (.ref _), some (.int _), some (.int _), some (.int _), some (.int _), some (.int _), none, none]) rfl ?_
  refine Y_iconst 22 rfl (pc2 := 34) rfl (v := nI 0) (by decide) ?_
  refine Y_istore 23 rfl (pc2 := 36) rfl (Nat.le_of_ble_eq_true rfl) (ls2 := [some (.ref _), some (.ref _), some (.int _), some (.int _), some (.int _), some (.int _), some (.int _), some (.int _), none]) rfl ?_
  have hl2 := L_leaps (G := G) h2 w hc hth hl (fun i _ => th3_all (P := okF S l) oa ob od i) (fun i _ => th3_all (P := LR m2 S l) (LR_18 La e18) (LR_18 Lb e18) (LR_18 Ld e18) i) hch (x := nI a) (y := nI b) (z := nI d) 0 (Nat.zero_le _) none
  rw [show (if 0 < bt S c then 0 else 0) = 0 from if_pos (by omega)] at hl2
  exact hl2.mono (fun v σ hq => ⟨hq.1, hq.2.1, fun q hq2 => by rw [← hq.2.2]; exact e18 q hq2⟩)

def us3 (S : Mm) (l k : Nat) : Prop := okF S l (k / 36) ∧ okF S l (k / 6 % 6) ∧ okF S l (k % 6)
def vk (S : Mm) (c l k : Nat) : Nat := lps S c l (th3 (k / 36) (k / 6 % 6) (k % 6))
def cd3 (k : Nat) : Nat := 100 * (k / 36) + 10 * (k / 6 % 6) + k % 6
noncomputable def bst (S : Mm) (c l : Nat) : Nat → Option (Nat × Nat)
  | 0 => none
  | k + 1 => cI (us3 S l k) (match bst S c l k with
    | none => some (vk S c l k, cd3 k)
    | some q => if vk S c l k < q.1 then some (vk S c l k, cd3 k) else some q) (bst S c l k)
set_option maxHeartbeats 400000 in
theorem bst_no {S : Mm} {c l k : Nat} (h : ¬ us3 S l k) : bst S c l (k + 1) = bst S c l k := cI_f h
set_option maxHeartbeats 400000 in
theorem bst_new {S : Mm} {c l k : Nat} (h : us3 S l k) (e : bst S c l k = none) : bst S c l (k + 1) = some (vk S c l k, cd3 k) := by
  show cI _ _ _ = _
  rw [cI_t h, e]
set_option maxHeartbeats 400000 in
theorem bst_lt {S : Mm} {c l k : Nat} {q : Nat × Nat} (h : us3 S l k) (e : bst S c l k = some q) (hl : vk S c l k < q.1) : bst S c l (k + 1) = some (vk S c l k, cd3 k) := by
  show cI _ _ _ = _
  rw [cI_t h, e]
  exact if_pos hl
set_option maxHeartbeats 400000 in
theorem bst_ge {S : Mm} {c l k : Nat} {q : Nat × Nat} (h : us3 S l k) (e : bst S c l k = some q) (hl : ¬ vk S c l k < q.1) : bst S c l (k + 1) = some q := by
  show cI _ _ _ = _
  rw [cI_t h, e]
  exact if_neg hl
set_option maxHeartbeats 400000 in
theorem lps_le {S : Mm} (w : WF S) {c l : Nat} {th : Nat → Nat} (hc : c < 4) (hl : l < 4) (hth : ∀ i, i < 3 → th i < 6) (hok : ∀ i, i < 3 → okF S l (th i)) : lps S c l th ≤ 4608 := by
  have hn := (w.b c hc).2
  have hz := sz_16 hl
  have hz2 := sz_2 (l := l)
  have hk : ∀ b s, b < bt S c → s < 2 ^ (l + 1) → Kb S c l th b s ≤ 9 := by
    intro b s hb hs
    have := (kq_is w hl (hth _ turn_lt) (tone_nI w hc hb).2 (hok _ (turn_lt (S := S) (c := c) (b := b))) hs).2
    unfold Kb
    omega
  have h1 : ∀ b, b < bt S c → lps1 S c l th b ≤ 144 := by
    intro b hb
    have a := jn_le (k := Kb S c l th b) (B := 9) (2 ^ (l + 1) - 1) (fun i hi => hk b i hb (by omega))
    have d := ad_le (B := 9) (hk b (2 ^ (l + 1) - 1) hb (by omega)) (hk (nxt (bt S c) b) 0 (nxt_lt (by omega)) (by omega))
    unfold lps1
    have : (2 ^ (l + 1) - 1) * 9 ≤ 135 := by omega
    omega
  have := su_le (f := lps1 S c l th) (B := 144) (bt S c) h1
  unfold lps
  have : bt S c * 144 ≤ 32 * 144 := Nat.mul_le_mul_right _ hn.2
  omega
set_option maxHeartbeats 400000 in
theorem vk_le {S : Mm} (w : WF S) {c l k : Nat} (hc : c < 4) (hl : l < 4) (hk : k < 216) (h : us3 S l k) : vk S c l k ≤ 4608 :=
  lps_le w hc hl (fun i _ => th3_lt (by omega) (by omega) (by omega)) (fun i _ => th3_all (P := okF S l) h.1 h.2.1 h.2.2 i)
set_option maxHeartbeats 400000 in
theorem bst_le {S : Mm} (w : WF S) {c l : Nat} (hc : c < 4) (hl : l < 4) : ∀ k, k ≤ 216 → ∀ q, bst S c l k = some q → q.1 ≤ 4608
  | 0, _, q, h => by cases h
  | k + 1, hk, q, h => by
    by_cases u : us3 S l k
    · cases e : bst S c l k with
      | none => rw [bst_new u e] at h; cases h; exact vk_le w hc hl (by omega) u
      | some p =>
        by_cases hlt : vk S c l k < p.1
        · rw [bst_lt u e hlt] at h; cases h; exact vk_le w hc hl (by omega) u
        · rw [bst_ge u e hlt] at h; cases h; exact bst_le w hc hl k (by omega) _ e
    · rw [bst_no u] at h
      exact bst_le w hc hl k (by omega) q h
def bB (q : Option (Nat × Nat)) : Int32 := match q with
  | none => NO_
  | some p => nI p.2
def bL (q : Option (Nat × Nat)) : Int32 := match q with
  | none => 2147483647
  | some p => nI p.1

set_option maxHeartbeats 400000 in
theorem nI_max {v : Nat} (h : v ≤ 4608) : nI v < 2147483647 := by
  rw [Int32.lt_iff_toInt_lt, nI_toInt (by omega)]
  have : (2147483647 : Int32).toInt = 2147483647 := by decide
  rw [this]; omega
set_option maxHeartbeats 400000 in
theorem L_least {G : Nat × (Nat → Int32)} {m : Mm} {S : Mm} (h0 : RC m S) (w : WF S) {c l : Nat} (hc : c < 4) (hl : l < 4) (hU : ∀ f, f < 6 → m 19 f = bI (okF S l f)) (hL : ∀ f, f < 6 → okF S l f → LR m S l f) : ∀ k, k ≤ 216 → ∀ m1, eq18 m m1 → ∀ (u1 u2 u3 u4 : Option Value), Y G M_li_leastLeaping (0, 0) 9 [some (.ref 14), some (.ref (21 + 5 * c)), some (.int (bB (bst S c l k))), some (.int (bL (bst S c l k))), some (.int (nI k)), u1, u2, u3, u4] [] (LAY, m1) (qm_ LAY (p18 (bB (bst S c l 216)) m)) := by
  refine ind_ (fun k hk ih m1 hE u1 u2 u3 u4 => ?_)
  have h := RC_18 h0 hE
  have hU1 : ∀ f, f < 6 → m1 19 f = bI (okF S l f) := fun f hf => by rw [hE 19 (by omega)]; exact hU f hf
  cases hb : bst S c l k with
  | none =>
    change Y _ _ _ _ [_, _, some (.int NO_), some (.int 2147483647), _, _, _, _, _] _ _ _
    refine Y_iload 6 rfl (pc2 := 11) rfl rfl ?_
    refine Y_sipush 7 rfl (pc2 := 14) rfl (v := nI 216) (by decide) ?_
    refine Y_icmp_gen 8 rfl (pc2 := 17) rfl (tgt := 114) (by decide) (by omega) (by omega) (fun h14 => ?_) (fun h14 => ?_)
    · refine Y_iload_n 62 rfl (pc2 := 115) rfl rfl ?_
      refine Y_iret 63 rfl rfl rfl ⟨rfl, ?_⟩
      exact ⟨by rw [show 216 = k by omega, hb]; rfl, hE⟩
    · refine Y_iload 9 rfl (pc2 := 19) rfl rfl ?_
      refine Y_bipush 10 rfl (pc2 := 21) rfl (v := nI 36) (by decide) ?_
      refine Y_idiv 11 rfl (pc2 := 22) rfl (by exact nI_ne0 (by omega) (by omega)) ?_
      refine Y_top (nI_div (by omega) (by omega)) ?_
      refine Y_istore 12 rfl (pc2 := 24) rfl (Nat.le_of_ble_eq_true rfl) (ls2 := [some (.ref _), some (.ref _), some (.int _), some (.int _), some (.int _), some (.int _), _, _, _]) rfl ?_
      refine Y_iload 13 rfl (pc2 := 26) rfl rfl ?_
      refine Y_bipush 14 rfl (pc2 := 28) rfl (v := nI 6) (by decide) ?_
      refine Y_idiv 15 rfl (pc2 := 29) rfl (by exact nI_ne0 (by omega) (by omega)) ?_
      refine Y_top (nI_div (by omega) (by omega)) ?_
      refine Y_bipush 16 rfl (pc2 := 31) rfl (v := nI 6) (by decide) ?_
      refine Y_irem 17 rfl (pc2 := 32) rfl (by exact nI_ne0 (by omega) (by omega)) ?_
      refine Y_top (nI_rem (by omega) (by omega)) ?_
      refine Y_istore 18 rfl (pc2 := 34) rfl (Nat.le_of_ble_eq_true rfl) (ls2 := [some (.ref _), some (.ref _), some (.int _), some (.int _), some (.int _), some (.int _), some (.int _), _, _]) rfl ?_
      refine Y_iload 19 rfl (pc2 := 36) rfl rfl ?_
      refine Y_bipush 20 rfl (pc2 := 38) rfl (v := nI 6) (by decide) ?_
      refine Y_irem 21 rfl (pc2 := 39) rfl (by exact nI_ne0 (by omega) (by omega)) ?_
      refine Y_top (nI_rem (by omega) (by omega)) ?_
      refine Y_istore 22 rfl (pc2 := 41) rfl (Nat.le_of_ble_eq_true rfl) (ls2 := [some (.ref _), some (.ref _), some (.int _), some (.int _), some (.int _), some (.int _), some (.int _), some (.int _), _]) rfl ?_
      refine Y_aload_n 23 rfl (pc2 := 42) rfl rfl ?_
      refine Y_getR 24 rfl (pc2 := 45) rfl fl_li_24 ly_li (by decide) rfl rfl (by omega) ?_
      refine Y_iload 25 rfl (pc2 := 47) rfl rfl ?_
      refine Y_zald 26 rfl (pc2 := 48) rfl ly_liU rfl (by omega) (by decide) ?_
      refine Y_top (hU1 _ (by omega)) ?_
      refine Y_if_eqb 27 rfl (pc2 := 51) rfl (tgt := 108) (by decide) (fun h48 => ?_) (fun h48 => ?_)
      · refine Y_iinc 60 rfl (pc2 := 111) rfl rfl (nI_inc _ 1) (ls2 := [some (.ref _), some (.ref _), some (.int _), some (.int _), some (.int _), some (.int _), some (.int _), some (.int _), _]) rfl ?_
        refine Y_goto 61 rfl (pc2 := 9) (by decide) ?_
        first
          | exact (by
              have hi := ih (k + 1) (by omega) (by omega) m1 hE
              rw [bst_no (by rintro ⟨p1, p2, p3⟩; first | exact h48 p1 | exact h58 p2 | exact h68 p3), hb] at hi
              exact hi _ _ _ _)
          | exact (by
              have hi := ih (k + 1) (by omega) (by omega) m2 hE2
              rw [bst_new u3 hb] at hi
              exact hi _ _ _ _)
      · refine Y_aload_n 28 rfl (pc2 := 52) rfl rfl ?_
        refine Y_getR 29 rfl (pc2 := 55) rfl fl_li_24 ly_li (by decide) rfl rfl (by omega) ?_
        refine Y_iload 30 rfl (pc2 := 57) rfl rfl ?_
        refine Y_zald 31 rfl (pc2 := 58) rfl ly_liU rfl (by omega) (by decide) ?_
        refine Y_top (hU1 _ (by omega)) ?_
        refine Y_if_eqb 32 rfl (pc2 := 61) rfl (tgt := 108) (by decide) (fun h58 => ?_) (fun h58 => ?_)
        · refine Y_iinc 60 rfl (pc2 := 111) rfl rfl (nI_inc _ 1) (ls2 := [some (.ref _), some (.ref _), some (.int _), some (.int _), some (.int _), some (.int _), some (.int _), some (.int _), _]) rfl ?_
          refine Y_goto 61 rfl (pc2 := 9) (by decide) ?_
          first
            | exact (by
                have hi := ih (k + 1) (by omega) (by omega) m1 hE
                rw [bst_no (by rintro ⟨p1, p2, p3⟩; first | exact h48 p1 | exact h58 p2 | exact h68 p3), hb] at hi
                exact hi _ _ _ _)
            | exact (by
                have hi := ih (k + 1) (by omega) (by omega) m2 hE2
                rw [bst_new u3 hb] at hi
                exact hi _ _ _ _)
        · refine Y_aload_n 33 rfl (pc2 := 62) rfl rfl ?_
          refine Y_getR 34 rfl (pc2 := 65) rfl fl_li_24 ly_li (by decide) rfl rfl (by omega) ?_
          refine Y_iload 35 rfl (pc2 := 67) rfl rfl ?_
          refine Y_zald 36 rfl (pc2 := 68) rfl ly_liU rfl (by omega) (by decide) ?_
          refine Y_top (hU1 _ (by omega)) ?_
          refine Y_if_eqb 37 rfl (pc2 := 71) rfl (tgt := 108) (by decide) (fun h68 => ?_) (fun h68 => ?_)
          · refine Y_iinc 60 rfl (pc2 := 111) rfl rfl (nI_inc _ 1) (ls2 := [some (.ref _), some (.ref _), some (.int _), some (.int _), some (.int _), some (.int _), some (.int _), some (.int _), _]) rfl ?_
            refine Y_goto 61 rfl (pc2 := 9) (by decide) ?_
            first
              | exact (by
                  have hi := ih (k + 1) (by omega) (by omega) m1 hE
                  rw [bst_no (by rintro ⟨p1, p2, p3⟩; first | exact h48 p1 | exact h58 p2 | exact h68 p3), hb] at hi
                  exact hi _ _ _ _)
              | exact (by
                  have hi := ih (k + 1) (by omega) (by omega) m2 hE2
                  rw [bst_new u3 hb] at hi
                  exact hi _ _ _ _)
          · refine Y_aload_n 38 rfl (pc2 := 72) rfl rfl ?_
            refine Y_aload_n 39 rfl (pc2 := 73) rfl rfl ?_
            refine Y_iload 40 rfl (pc2 := 75) rfl rfl ?_
            refine Y_iload 41 rfl (pc2 := 77) rfl rfl ?_
            refine Y_iload 42 rfl (pc2 := 79) rfl rfl ?_
            refine Y_cV 43 rfl (pc2 := 82) rfl ok_li_leapsWith lk_li_73 vi_li_leapsWith ly_li rfl (by decide) rfl (as := [.ref _, .int _, .int _, .int _]) (rest := []) rfl rfl (T_li_leapsWith h w (a := k / 36) (b := k / 6 % 6) (d := k % 6) hc hl (by omega) (by omega) (by omega) h48 h58 h68 (LR_18 (hL _ (by omega) h48) hE) (LR_18 (hL _ (by omega) h58) hE) (LR_18 (hL _ (by omega) h68) hE)) ?_
            rintro _ m2 ⟨rfl, hm2⟩
            change Y _ _ _ _ _ [.int _] _ _
            have hE2 : eq18 m m2 := fun q hq => (hm2 q hq).trans (hE q hq)
            have u3 : us3 S l k := ⟨h48, h58, h68⟩
            have hvk := vk_le w hc hl (by omega) u3
            refine Y_istore 44 rfl (pc2 := 84) rfl (Nat.le_of_ble_eq_true rfl) (ls2 := [some (.ref _), some (.ref _), some (.int _), some (.int _), some (.int _), some (.int _), some (.int _), some (.int _), some (.int _)]) rfl ?_
            refine Y_iload 45 rfl (pc2 := 86) rfl rfl ?_
            refine Y_iload_n 46 rfl (pc2 := 87) rfl rfl ?_
            refine Y_icmp_ge 47 rfl (pc2 := 90) rfl (tgt := 108) (by decide) (fun h87 => ?_) (fun h87 => ?_)
            · exact absurd h87 (by rw [Int32.not_le]; exact nI_max (by have : lps S c l (th3 (k / 36) (k / 6 % 6) (k % 6)) ≤ 4608 := hvk; omega))
            · refine Y_iload 48 rfl (pc2 := 92) rfl rfl ?_
              refine Y_istore_n 49 rfl (pc2 := 93) rfl (Nat.le_of_ble_eq_true rfl) (ls2 := [some (.ref _), some (.ref _), some (.int _), some (.int _), some (.int _), some (.int _), some (.int _), some (.int _), some (.int _)]) rfl ?_
              refine Y_bipush 50 rfl (pc2 := 95) rfl (v := nI 100) (by decide) ?_
              refine Y_iload 51 rfl (pc2 := 97) rfl rfl ?_
              refine Y_imul 52 rfl (pc2 := 98) rfl ?_
              refine Y_top (nI_mul _ _) ?_
              refine Y_bipush 53 rfl (pc2 := 100) rfl (v := nI 10) (by decide) ?_
              refine Y_iload 54 rfl (pc2 := 102) rfl rfl ?_
              refine Y_imul 55 rfl (pc2 := 103) rfl ?_
              refine Y_top (nI_mul _ _) ?_
              refine Y_iadd 56 rfl (pc2 := 104) rfl ?_
              refine Y_top (nI_add _ _) ?_
              refine Y_iload 57 rfl (pc2 := 106) rfl rfl ?_
              refine Y_iadd 58 rfl (pc2 := 107) rfl ?_
              refine Y_top (nI_add _ _) ?_
              refine Y_istore_n 59 rfl (pc2 := 108) rfl (Nat.le_of_ble_eq_true rfl) (ls2 := [some (.ref _), some (.ref _), some (.int _), some (.int _), some (.int _), some (.int _), some (.int _), some (.int _), some (.int _)]) rfl ?_
              refine Y_iinc 60 rfl (pc2 := 111) rfl rfl (nI_inc _ 1) (ls2 := [some (.ref _), some (.ref _), some (.int _), some (.int _), some (.int _), some (.int _), some (.int _), some (.int _), some (.int _)]) rfl ?_
              refine Y_goto 61 rfl (pc2 := 9) (by decide) ?_
              first
                | exact (by
                    have hi := ih (k + 1) (by omega) (by omega) m1 hE
                    rw [bst_no (by rintro ⟨p1, p2, p3⟩; first | exact h48 p1 | exact h58 p2 | exact h68 p3), hb] at hi
                    exact hi _ _ _ _)
                | exact (by
                    have hi := ih (k + 1) (by omega) (by omega) m2 hE2
                    rw [bst_new u3 hb] at hi
                    exact hi _ _ _ _)
  | some q =>
    obtain ⟨lv, cd⟩ := q
    have hlv := bst_le w hc hl k hk _ hb
    change lv ≤ 4608 at hlv
    change Y _ _ _ _ [_, _, some (.int (nI cd)), some (.int (nI lv)), _, _, _, _, _] _ _ _
    refine Y_iload 6 rfl (pc2 := 11) rfl rfl ?_
    refine Y_sipush 7 rfl (pc2 := 14) rfl (v := nI 216) (by decide) ?_
    refine Y_icmp_gen 8 rfl (pc2 := 17) rfl (tgt := 114) (by decide) (by omega) (by omega) (fun h14 => ?_) (fun h14 => ?_)
    · refine Y_iload_n 62 rfl (pc2 := 115) rfl rfl ?_
      refine Y_iret 63 rfl rfl rfl ⟨rfl, ?_⟩
      exact ⟨by rw [show 216 = k by omega, hb]; rfl, hE⟩
    · refine Y_iload 9 rfl (pc2 := 19) rfl rfl ?_
      refine Y_bipush 10 rfl (pc2 := 21) rfl (v := nI 36) (by decide) ?_
      refine Y_idiv 11 rfl (pc2 := 22) rfl (by exact nI_ne0 (by omega) (by omega)) ?_
      refine Y_top (nI_div (by omega) (by omega)) ?_
      refine Y_istore 12 rfl (pc2 := 24) rfl (Nat.le_of_ble_eq_true rfl) (ls2 := [some (.ref _), some (.ref _), some (.int _), some (.int _), some (.int _), some (.int _), _, _, _]) rfl ?_
      refine Y_iload 13 rfl (pc2 := 26) rfl rfl ?_
      refine Y_bipush 14 rfl (pc2 := 28) rfl (v := nI 6) (by decide) ?_
      refine Y_idiv 15 rfl (pc2 := 29) rfl (by exact nI_ne0 (by omega) (by omega)) ?_
      refine Y_top (nI_div (by omega) (by omega)) ?_
      refine Y_bipush 16 rfl (pc2 := 31) rfl (v := nI 6) (by decide) ?_
      refine Y_irem 17 rfl (pc2 := 32) rfl (by exact nI_ne0 (by omega) (by omega)) ?_
      refine Y_top (nI_rem (by omega) (by omega)) ?_
      refine Y_istore 18 rfl (pc2 := 34) rfl (Nat.le_of_ble_eq_true rfl) (ls2 := [some (.ref _), some (.ref _), some (.int _), some (.int _), some (.int _), some (.int _), some (.int _), _, _]) rfl ?_
      refine Y_iload 19 rfl (pc2 := 36) rfl rfl ?_
      refine Y_bipush 20 rfl (pc2 := 38) rfl (v := nI 6) (by decide) ?_
      refine Y_irem 21 rfl (pc2 := 39) rfl (by exact nI_ne0 (by omega) (by omega)) ?_
      refine Y_top (nI_rem (by omega) (by omega)) ?_
      refine Y_istore 22 rfl (pc2 := 41) rfl (Nat.le_of_ble_eq_true rfl) (ls2 := [some (.ref _), some (.ref _), some (.int _), some (.int _), some (.int _), some (.int _), some (.int _), some (.int _), _]) rfl ?_
      refine Y_aload_n 23 rfl (pc2 := 42) rfl rfl ?_
      refine Y_getR 24 rfl (pc2 := 45) rfl fl_li_24 ly_li (by decide) rfl rfl (by omega) ?_
      refine Y_iload 25 rfl (pc2 := 47) rfl rfl ?_
      refine Y_zald 26 rfl (pc2 := 48) rfl ly_liU rfl (by omega) (by decide) ?_
      refine Y_top (hU1 _ (by omega)) ?_
      refine Y_if_eqb 27 rfl (pc2 := 51) rfl (tgt := 108) (by decide) (fun h48 => ?_) (fun h48 => ?_)
      · refine Y_iinc 60 rfl (pc2 := 111) rfl rfl (nI_inc _ 1) (ls2 := [some (.ref _), some (.ref _), some (.int _), some (.int _), some (.int _), some (.int _), some (.int _), some (.int _), _]) rfl ?_
        refine Y_goto 61 rfl (pc2 := 9) (by decide) ?_
        first
          | exact (by
              have hi := ih (k + 1) (by omega) (by omega) m1 hE
              rw [bst_no (by rintro ⟨p1, p2, p3⟩; first | exact h48 p1 | exact h58 p2 | exact h68 p3), hb] at hi
              exact hi _ _ _ _)
          | exact (by
              have hi := ih (k + 1) (by omega) (by omega) m2 hE2
              rw [bst_lt u3 hb (by show lps _ _ _ _ < lv; omega)] at hi
              exact hi _ _ _ _)
          | exact (by
              have hi := ih (k + 1) (by omega) (by omega) m2 hE2
              rw [bst_ge u3 hb (by show ¬ lps _ _ _ _ < lv; omega)] at hi
              exact hi _ _ _ _)
      · refine Y_aload_n 28 rfl (pc2 := 52) rfl rfl ?_
        refine Y_getR 29 rfl (pc2 := 55) rfl fl_li_24 ly_li (by decide) rfl rfl (by omega) ?_
        refine Y_iload 30 rfl (pc2 := 57) rfl rfl ?_
        refine Y_zald 31 rfl (pc2 := 58) rfl ly_liU rfl (by omega) (by decide) ?_
        refine Y_top (hU1 _ (by omega)) ?_
        refine Y_if_eqb 32 rfl (pc2 := 61) rfl (tgt := 108) (by decide) (fun h58 => ?_) (fun h58 => ?_)
        · refine Y_iinc 60 rfl (pc2 := 111) rfl rfl (nI_inc _ 1) (ls2 := [some (.ref _), some (.ref _), some (.int _), some (.int _), some (.int _), some (.int _), some (.int _), some (.int _), _]) rfl ?_
          refine Y_goto 61 rfl (pc2 := 9) (by decide) ?_
          first
            | exact (by
                have hi := ih (k + 1) (by omega) (by omega) m1 hE
                rw [bst_no (by rintro ⟨p1, p2, p3⟩; first | exact h48 p1 | exact h58 p2 | exact h68 p3), hb] at hi
                exact hi _ _ _ _)
            | exact (by
                have hi := ih (k + 1) (by omega) (by omega) m2 hE2
                rw [bst_lt u3 hb (by show lps _ _ _ _ < lv; omega)] at hi
                exact hi _ _ _ _)
            | exact (by
                have hi := ih (k + 1) (by omega) (by omega) m2 hE2
                rw [bst_ge u3 hb (by show ¬ lps _ _ _ _ < lv; omega)] at hi
                exact hi _ _ _ _)
        · refine Y_aload_n 33 rfl (pc2 := 62) rfl rfl ?_
          refine Y_getR 34 rfl (pc2 := 65) rfl fl_li_24 ly_li (by decide) rfl rfl (by omega) ?_
          refine Y_iload 35 rfl (pc2 := 67) rfl rfl ?_
          refine Y_zald 36 rfl (pc2 := 68) rfl ly_liU rfl (by omega) (by decide) ?_
          refine Y_top (hU1 _ (by omega)) ?_
          refine Y_if_eqb 37 rfl (pc2 := 71) rfl (tgt := 108) (by decide) (fun h68 => ?_) (fun h68 => ?_)
          · refine Y_iinc 60 rfl (pc2 := 111) rfl rfl (nI_inc _ 1) (ls2 := [some (.ref _), some (.ref _), some (.int _), some (.int _), some (.int _), some (.int _), some (.int _), some (.int _), _]) rfl ?_
            refine Y_goto 61 rfl (pc2 := 9) (by decide) ?_
            first
              | exact (by
                  have hi := ih (k + 1) (by omega) (by omega) m1 hE
                  rw [bst_no (by rintro ⟨p1, p2, p3⟩; first | exact h48 p1 | exact h58 p2 | exact h68 p3), hb] at hi
                  exact hi _ _ _ _)
              | exact (by
                  have hi := ih (k + 1) (by omega) (by omega) m2 hE2
                  rw [bst_lt u3 hb (by show lps _ _ _ _ < lv; omega)] at hi
                  exact hi _ _ _ _)
              | exact (by
                  have hi := ih (k + 1) (by omega) (by omega) m2 hE2
                  rw [bst_ge u3 hb (by show ¬ lps _ _ _ _ < lv; omega)] at hi
                  exact hi _ _ _ _)
          · refine Y_aload_n 38 rfl (pc2 := 72) rfl rfl ?_
            refine Y_aload_n 39 rfl (pc2 := 73) rfl rfl ?_
            refine Y_iload 40 rfl (pc2 := 75) rfl rfl ?_
            refine Y_iload 41 rfl (pc2 := 77) rfl rfl ?_
            refine Y_iload 42 rfl (pc2 := 79) rfl rfl ?_
            refine Y_cV 43 rfl (pc2 := 82) rfl ok_li_leapsWith lk_li_73 vi_li_leapsWith ly_li rfl (by decide) rfl (as := [.ref _, .int _, .int _, .int _]) (rest := []) rfl rfl (T_li_leapsWith h w (a := k / 36) (b := k / 6 % 6) (d := k % 6) hc hl (by omega) (by omega) (by omega) h48 h58 h68 (LR_18 (hL _ (by omega) h48) hE) (LR_18 (hL _ (by omega) h58) hE) (LR_18 (hL _ (by omega) h68) hE)) ?_
            rintro _ m2 ⟨rfl, hm2⟩
            change Y _ _ _ _ _ [.int _] _ _
            have hE2 : eq18 m m2 := fun q hq => (hm2 q hq).trans (hE q hq)
            have u3 : us3 S l k := ⟨h48, h58, h68⟩
            have hvk := vk_le w hc hl (by omega) u3
            refine Y_istore 44 rfl (pc2 := 84) rfl (Nat.le_of_ble_eq_true rfl) (ls2 := [some (.ref _), some (.ref _), some (.int _), some (.int _), some (.int _), some (.int _), some (.int _), some (.int _), some (.int _)]) rfl ?_
            have hvk2 : lps S c l (th3 (k / 36) (k / 6 % 6) (k % 6)) ≤ 4608 := hvk
            refine Y_iload 45 rfl (pc2 := 86) rfl rfl ?_
            refine Y_iload_n 46 rfl (pc2 := 87) rfl rfl ?_
            refine Y_icmp_gen 47 rfl (pc2 := 90) rfl (tgt := 108) (by decide) (by omega) (by omega) (fun h87 => ?_) (fun h87 => ?_)
            · refine Y_iinc 60 rfl (pc2 := 111) rfl rfl (nI_inc _ 1) (ls2 := [some (.ref _), some (.ref _), some (.int _), some (.int _), some (.int _), some (.int _), some (.int _), some (.int _), some (.int _)]) rfl ?_
              refine Y_goto 61 rfl (pc2 := 9) (by decide) ?_
              first
                | exact (by
                    have hi := ih (k + 1) (by omega) (by omega) m1 hE
                    rw [bst_no (by rintro ⟨p1, p2, p3⟩; first | exact h48 p1 | exact h58 p2 | exact h68 p3), hb] at hi
                    exact hi _ _ _ _)
                | exact (by
                    have hi := ih (k + 1) (by omega) (by omega) m2 hE2
                    rw [bst_lt u3 hb (by show lps _ _ _ _ < lv; omega)] at hi
                    exact hi _ _ _ _)
                | exact (by
                    have hi := ih (k + 1) (by omega) (by omega) m2 hE2
                    rw [bst_ge u3 hb (by show ¬ lps _ _ _ _ < lv; omega)] at hi
                    exact hi _ _ _ _)
            · refine Y_iload 48 rfl (pc2 := 92) rfl rfl ?_
              refine Y_istore_n 49 rfl (pc2 := 93) rfl (Nat.le_of_ble_eq_true rfl) (ls2 := [some (.ref _), some (.ref _), some (.int _), some (.int _), some (.int _), some (.int _), some (.int _), some (.int _), some (.int _)]) rfl ?_
              refine Y_bipush 50 rfl (pc2 := 95) rfl (v := nI 100) (by decide) ?_
              refine Y_iload 51 rfl (pc2 := 97) rfl rfl ?_
              refine Y_imul 52 rfl (pc2 := 98) rfl ?_
              refine Y_top (nI_mul _ _) ?_
              refine Y_bipush 53 rfl (pc2 := 100) rfl (v := nI 10) (by decide) ?_
              refine Y_iload 54 rfl (pc2 := 102) rfl rfl ?_
              refine Y_imul 55 rfl (pc2 := 103) rfl ?_
              refine Y_top (nI_mul _ _) ?_
              refine Y_iadd 56 rfl (pc2 := 104) rfl ?_
              refine Y_top (nI_add _ _) ?_
              refine Y_iload 57 rfl (pc2 := 106) rfl rfl ?_
              refine Y_iadd 58 rfl (pc2 := 107) rfl ?_
              refine Y_top (nI_add _ _) ?_
              refine Y_istore_n 59 rfl (pc2 := 108) rfl (Nat.le_of_ble_eq_true rfl) (ls2 := [some (.ref _), some (.ref _), some (.int _), some (.int _), some (.int _), some (.int _), some (.int _), some (.int _), some (.int _)]) rfl ?_
              refine Y_iinc 60 rfl (pc2 := 111) rfl rfl (nI_inc _ 1) (ls2 := [some (.ref _), some (.ref _), some (.int _), some (.int _), some (.int _), some (.int _), some (.int _), some (.int _), some (.int _)]) rfl ?_
              refine Y_goto 61 rfl (pc2 := 9) (by decide) ?_
              first
                | exact (by
                    have hi := ih (k + 1) (by omega) (by omega) m1 hE
                    rw [bst_no (by rintro ⟨p1, p2, p3⟩; first | exact h48 p1 | exact h58 p2 | exact h68 p3), hb] at hi
                    exact hi _ _ _ _)
                | exact (by
                    have hi := ih (k + 1) (by omega) (by omega) m2 hE2
                    rw [bst_lt u3 hb (by show lps _ _ _ _ < lv; omega)] at hi
                    exact hi _ _ _ _)
                | exact (by
                    have hi := ih (k + 1) (by omega) (by omega) m2 hE2
                    rw [bst_ge u3 hb (by show ¬ lps _ _ _ _ < lv; omega)] at hi
                    exact hi _ _ _ _)

set_option maxHeartbeats 400000 in
theorem T_li_leastLeaping {G : Nat × (Nat → Int32)} {m : Mm} {S : Mm} (h : RC m S) (w : WF S) {c l : Nat} (hc : c < 4) (hl : l < 4) (hU : ∀ f, f < 6 → m 19 f = bI (okF S l f)) (hL : ∀ f, f < 6 → okF S l f → LR m S l f) : Y G M_li_leastLeaping (0, 0) 0 (en_ M_li_leastLeaping [.ref (14), .ref (21 + 5 * c)]) [] (LAY, m) (qm_ LAY (p18 (bB (bst S c l 216)) m)) := by
  change Y _ _ _ _ [some (.ref _), some (.ref _), none, none, none, none, none, none, none] _ _ _
  refine Y_ldc 0 rfl (pc2 := 2) rfl kc_li_69 ?_
  refine Y_istore_n 1 rfl (pc2 := 3) rfl (Nat.le_of_ble_eq_true rfl) (ls2 := [some (.ref _), some (.ref _), some (.int _), none, none, none, none, none, none]) rfl ?_
  refine Y_ldc 2 rfl (pc2 := 5) rfl kc_li_72 ?_
  refine Y_istore_n 3 rfl (pc2 := 6) rfl (Nat.le_of_ble_eq_true rfl) (ls2 := [some (.ref _), some (.ref _), some (.int _), some (.int _), none, none, none, none, none]) rfl ?_
  refine Y_iconst 4 rfl (pc2 := 7) rfl (v := nI 0) (by decide) ?_
  refine Y_istore 5 rfl (pc2 := 9) rfl (Nat.le_of_ble_eq_true rfl) (ls2 := [some (.ref _), some (.ref _), some (.int _), some (.int _), some (.int _), none, none, none, none]) rfl ?_
  exact L_least h w hc hl hU hL 0 (Nat.zero_le _) m (fun _ _ => rfl) _ _ _ _
end
section
/-! the class: leaps, choice -/
def dig (n : Nat) : Prop := n / 100 < 6 ∧ n / 10 % 10 < 6 ∧ n % 10 < 6
noncomputable def sp_leaps (S : Mm) (x y z : Int32) : Int32 := cI (iR x 4 ∧ iR y 4 ∧ 0 ≤ z ∧ dig (nv z)) (cI (okF S (nv y) (nv z / 100) ∧ okF S (nv y) (nv z / 10 % 10) ∧ okF S (nv y) (nv z % 10)) (nI (lps S (nv x) (nv y) (th3 (nv z / 100) (nv z / 10 % 10) (nv z % 10)))) NO_) BAD_
noncomputable def sp_choice (S : Mm) (x y : Int32) : Int32 := cI (iR x 4 ∧ iR y 4) (bB (bst S (nv x) (nv y) 216)) BAD_
set_option maxHeartbeats 400000 in
theorem LR_keep {m m' S : Mm} {l f g : Nat} (h : LR m S l g) (e : lF m m' f) (h2 : LR m' S l f) : LR m' S l g := by
  by_cases q : g = f
  · rw [q]; exact h2
  · exact LR_lF h e q
set_option maxHeartbeats 400000 in
theorem iR_n6 {k : Nat} (hk : k < 2 ^ 31) (h : iR (nI k) 6) : k < 6 := (nI_iR hk (by decide)).mp h
set_option maxHeartbeats 400000 in
theorem niR_n6 {k : Nat} (h : ¬ iR (nI k) 6) : ¬ k < 6 := fun e => h ⟨k, e, rfl⟩

set_option maxHeartbeats 400000 in
theorem T_gh_leaps {G : Nat × (Nat → Int32)} {m : Mm} {S : Mm} (h : RC m S) (w : WF S) {x y z : Int32} : Y G M_gh_leaps (0, 0) 0 (en_ M_gh_leaps [.ref (0), .int (x), .int (y), .int (z)]) [] (LAY, m) (qm_ LAY (pc_ (sp_leaps S x y z) m S)) := by
  change Y _ _ _ _ [some (.ref _), some (.int _), some (.int _), some (.int _), none, none, none, none] _ _ _
  refine Y_iload_n 0 rfl (pc2 := 1) rfl rfl ?_
  refine Y_iconst 1 rfl (pc2 := 2) rfl (v := nI 4) (by decide) ?_
  refine Y_cS 2 rfl (pc2 := 5) rfl ok_gh_isBelow lk_gh_80 vs_gh_isBelow (as := [.int _, .int _]) (rest := []) rfl rfl (T_gh_isBelow (by omega)) ?_
  rintro _ _ ⟨rfl, rfl⟩
  change Y _ _ _ _ _ [.int _] _ _
  refine Y_if_eqb 3 rfl (pc2 := 8) rfl (tgt := 20) (by decide) (fun h5 => ?_) (fun h5 => ?_)
  · refine Y_ldc 10 rfl (pc2 := 22) rfl kc_gh_75 ?_
    refine Y_iret 11 rfl rfl rfl ⟨rfl, ?_⟩
    first | exact pc_0 h (by unfold sp_leaps; rw [cI_f (fun e => h5 e.1)]; rfl) | exact pc_0 h (by unfold sp_leaps; rw [cI_f (fun e => h13 e.2.1)]; rfl) | exact pc_0 h (by unfold sp_leaps; rw [cI_f (fun e => h17 e.2.2.1)]; rfl)
  · obtain ⟨c, hc, rfl⟩ := h5
    refine Y_iload_n 4 rfl (pc2 := 9) rfl rfl ?_
    refine Y_iconst 5 rfl (pc2 := 10) rfl (v := nI 4) (by decide) ?_
    refine Y_cS 6 rfl (pc2 := 13) rfl ok_gh_isBelow lk_gh_80 vs_gh_isBelow (as := [.int _, .int _]) (rest := []) rfl rfl (T_gh_isBelow (by omega)) ?_
    rintro _ _ ⟨rfl, rfl⟩
    change Y _ _ _ _ _ [.int _] _ _
    refine Y_if_eqb 7 rfl (pc2 := 16) rfl (tgt := 20) (by decide) (fun h13 => ?_) (fun h13 => ?_)
    · refine Y_ldc 10 rfl (pc2 := 22) rfl kc_gh_75 ?_
      refine Y_iret 11 rfl rfl rfl ⟨rfl, ?_⟩
      first | exact pc_0 h (by unfold sp_leaps; rw [cI_f (fun e => h5 e.1)]; rfl) | exact pc_0 h (by unfold sp_leaps; rw [cI_f (fun e => h13 e.2.1)]; rfl) | exact pc_0 h (by unfold sp_leaps; rw [cI_f (fun e => h17 e.2.2.1)]; rfl)
    · obtain ⟨l, hl, rfl⟩ := h13
      refine Y_iload_n 8 rfl (pc2 := 17) rfl rfl ?_
      refine Y_if_ge 9 rfl (pc2 := 20) rfl (tgt := 23) (by decide) (fun h17 => ?_) (fun h17 => ?_)
      · obtain ⟨n, hn, rfl⟩ := nI_of (Int32.not_lt.mpr h17)
        refine Y_iload_n 12 rfl (pc2 := 24) rfl rfl ?_
        refine Y_bipush 13 rfl (pc2 := 26) rfl (v := nI 100) (by decide) ?_
        refine Y_idiv 14 rfl (pc2 := 27) rfl (by exact nI_ne0 (by omega) (by omega)) ?_
        refine Y_top (nI_div (by omega) (by omega)) ?_
        refine Y_istore 15 rfl (pc2 := 29) rfl (Nat.le_of_ble_eq_true rfl) (ls2 := [some (.ref _), some (.int _), some (.int _), some (.int _), some (.int _), none, none, none]) rfl ?_
        refine Y_iload_n 16 rfl (pc2 := 30) rfl rfl ?_
        refine Y_bipush 17 rfl (pc2 := 32) rfl (v := nI 10) (by decide) ?_
        refine Y_idiv 18 rfl (pc2 := 33) rfl (by exact nI_ne0 (by omega) (by omega)) ?_
        refine Y_top (nI_div (by omega) (by omega)) ?_
        refine Y_bipush 19 rfl (pc2 := 35) rfl (v := nI 10) (by decide) ?_
        refine Y_irem 20 rfl (pc2 := 36) rfl (by exact nI_ne0 (by omega) (by omega)) ?_
        refine Y_top (nI_rem (by omega) (by omega)) ?_
        refine Y_istore 21 rfl (pc2 := 38) rfl (Nat.le_of_ble_eq_true rfl) (ls2 := [some (.ref _), some (.int _), some (.int _), some (.int _), some (.int _), some (.int _), none, none]) rfl ?_
        refine Y_iload_n 22 rfl (pc2 := 39) rfl rfl ?_
        refine Y_bipush 23 rfl (pc2 := 41) rfl (v := nI 10) (by decide) ?_
        refine Y_irem 24 rfl (pc2 := 42) rfl (by exact nI_ne0 (by omega) (by omega)) ?_
        refine Y_top (nI_rem (by omega) (by omega)) ?_
        refine Y_istore 25 rfl (pc2 := 44) rfl (Nat.le_of_ble_eq_true rfl) (ls2 := [some (.ref _), some (.int _), some (.int _), some (.int _), some (.int _), some (.int _), some (.int _), none]) rfl ?_
        refine Y_iload 26 rfl (pc2 := 46) rfl rfl ?_
        refine Y_bipush 27 rfl (pc2 := 48) rfl (v := nI 6) (by decide) ?_
        refine Y_cS 28 rfl (pc2 := 51) rfl ok_gh_isBelow lk_gh_80 vs_gh_isBelow (as := [.int _, .int _]) (rest := []) rfl rfl (T_gh_isBelow (by omega)) ?_
        rintro _ _ ⟨rfl, rfl⟩
        change Y _ _ _ _ _ [.int _] _ _
        refine Y_if_eqb 29 rfl (pc2 := 54) rfl (tgt := 74) (by decide) (fun h51 => ?_) (fun h51 => ?_)
        · refine Y_ldc 38 rfl (pc2 := 76) rfl kc_gh_75 ?_
          refine Y_iret 39 rfl rfl rfl ⟨rfl, ?_⟩
          first | exact pc_0 h (by unfold sp_leaps; rw [cI_f (fun e => niR_n6 h51 (by have q := e.2.2.2.1; rw [nv_nI hn] at q; exact q))]; rfl) | exact pc_0 h (by unfold sp_leaps; rw [cI_f (fun e => niR_n6 h61 (by have q := e.2.2.2.2.1; rw [nv_nI hn] at q; exact q))]; rfl) | exact pc_0 h (by unfold sp_leaps; rw [cI_f (fun e => niR_n6 h71 (by have q := e.2.2.2.2.2; rw [nv_nI hn] at q; exact q))]; rfl)
        · refine Y_iload 30 rfl (pc2 := 56) rfl rfl ?_
          refine Y_bipush 31 rfl (pc2 := 58) rfl (v := nI 6) (by decide) ?_
          refine Y_cS 32 rfl (pc2 := 61) rfl ok_gh_isBelow lk_gh_80 vs_gh_isBelow (as := [.int _, .int _]) (rest := []) rfl rfl (T_gh_isBelow (by omega)) ?_
          rintro _ _ ⟨rfl, rfl⟩
          change Y _ _ _ _ _ [.int _] _ _
          refine Y_if_eqb 33 rfl (pc2 := 64) rfl (tgt := 74) (by decide) (fun h61 => ?_) (fun h61 => ?_)
          · refine Y_ldc 38 rfl (pc2 := 76) rfl kc_gh_75 ?_
            refine Y_iret 39 rfl rfl rfl ⟨rfl, ?_⟩
            first | exact pc_0 h (by unfold sp_leaps; rw [cI_f (fun e => niR_n6 h51 (by have q := e.2.2.2.1; rw [nv_nI hn] at q; exact q))]; rfl) | exact pc_0 h (by unfold sp_leaps; rw [cI_f (fun e => niR_n6 h61 (by have q := e.2.2.2.2.1; rw [nv_nI hn] at q; exact q))]; rfl) | exact pc_0 h (by unfold sp_leaps; rw [cI_f (fun e => niR_n6 h71 (by have q := e.2.2.2.2.2; rw [nv_nI hn] at q; exact q))]; rfl)
          · refine Y_iload 34 rfl (pc2 := 66) rfl rfl ?_
            refine Y_bipush 35 rfl (pc2 := 68) rfl (v := nI 6) (by decide) ?_
            refine Y_cS 36 rfl (pc2 := 71) rfl ok_gh_isBelow lk_gh_80 vs_gh_isBelow (as := [.int _, .int _]) (rest := []) rfl rfl (T_gh_isBelow (by omega)) ?_
            rintro _ _ ⟨rfl, rfl⟩
            change Y _ _ _ _ _ [.int _] _ _
            refine Y_if_neb 37 rfl (pc2 := 74) rfl (tgt := 77) (by decide) (fun h71 => ?_) (fun h71 => ?_)
            · have d1 := iR_n6 (by omega) h51
              have d2 := iR_n6 (by omega) h61
              have d3 := iR_n6 (by omega) h71
              refine Y_aload_n 40 rfl (pc2 := 78) rfl rfl ?_
              refine Y_getR 41 rfl (pc2 := 81) rfl fl_gh_31 ly_gh (by decide) rfl rfl (by omega) ?_
              refine Y_iload_n 42 rfl (pc2 := 82) rfl rfl ?_
              refine Y_aald 43 rfl (pc2 := 83) rfl ly_ghL (by decide) (fun _ => rfl) rfl (by omega) (by decide) (ly_ghL_at (by omega)) (by omega) ?_
              refine Y_astore 44 rfl (pc2 := 85) rfl (Nat.le_of_ble_eq_true rfl) (ls2 := [some (.ref _), some (.int _), some (.int _), some (.int _), some (.int _), some (.int _), some (.int _), some (.ref _)]) rfl ?_
              refine Y_aload 45 rfl (pc2 := 87) rfl rfl ?_
              refine Y_getR 46 rfl (pc2 := 90) rfl fl_gh_117 (ly_le (by omega)) (by decide) rfl rfl (by omega) ?_
              refine Y_iload 47 rfl (pc2 := 92) rfl rfl ?_
              refine Y_aald 48 rfl (pc2 := 93) rfl (ly_leF (by omega)) (by decide) (fun _ => rfl) rfl (by omega) (by decide) (ly_leF_at (by omega)) (by omega) ?_
              refine Y_cV 49 rfl (pc2 := 96) rfl ok_fi_isRight lk_gh_223 vi_fi_isRight (ly_fi (by omega) (by omega)) rfl (by decide) rfl (as := []) (rest := []) rfl rfl (T_fi_isRight h w (by omega) (by omega)) ?_
              rintro _ _ ⟨rfl, rfl⟩
              change Y _ _ _ _ _ [.int _] _ _
              refine Y_if_eqb 50 rfl (pc2 := 99) rfl (tgt := 127) (by decide) (fun h96 => ?_) (fun h96 => ?_)
              · refine Y_ldc 63 rfl (pc2 := 129) rfl kc_gh_88 ?_
                refine Y_iret 64 rfl rfl rfl ⟨rfl, ?_⟩
                first | exact pc_0 h (by unfold sp_leaps; rw [cI_t ⟨⟨c, hc, rfl⟩, ⟨l, hl, rfl⟩, h17, by rw [nv_nI hn]; exact ⟨d1, d2, d3⟩⟩, nv_nI (k := c) (by omega), nv_nI (k := l) (by omega), nv_nI hn]; rw [cI_f (fun e => h96 e.1)]; rfl) | exact pc_0 h (by unfold sp_leaps; rw [cI_t ⟨⟨c, hc, rfl⟩, ⟨l, hl, rfl⟩, h17, by rw [nv_nI hn]; exact ⟨d1, d2, d3⟩⟩, nv_nI (k := c) (by omega), nv_nI (k := l) (by omega), nv_nI hn]; rw [cI_f (fun e => h110 e.2.1)]; rfl) | exact pc_0 h (by unfold sp_leaps; rw [cI_t ⟨⟨c, hc, rfl⟩, ⟨l, hl, rfl⟩, h17, by rw [nv_nI hn]; exact ⟨d1, d2, d3⟩⟩, nv_nI (k := c) (by omega), nv_nI (k := l) (by omega), nv_nI hn]; rw [cI_f (fun e => h124 e.2.2)]; rfl)
              · refine Y_aload 51 rfl (pc2 := 101) rfl rfl ?_
                refine Y_getR 52 rfl (pc2 := 104) rfl fl_gh_117 (ly_le (by omega)) (by decide) rfl rfl (by omega) ?_
                refine Y_iload 53 rfl (pc2 := 106) rfl rfl ?_
                refine Y_aald 54 rfl (pc2 := 107) rfl (ly_leF (by omega)) (by decide) (fun _ => rfl) rfl (by omega) (by decide) (ly_leF_at (by omega)) (by omega) ?_
                refine Y_cV 55 rfl (pc2 := 110) rfl ok_fi_isRight lk_gh_223 vi_fi_isRight (ly_fi (by omega) (by omega)) rfl (by decide) rfl (as := []) (rest := []) rfl rfl (T_fi_isRight h w (by omega) (by omega)) ?_
                rintro _ _ ⟨rfl, rfl⟩
                change Y _ _ _ _ _ [.int _] _ _
                refine Y_if_eqb 56 rfl (pc2 := 113) rfl (tgt := 127) (by decide) (fun h110 => ?_) (fun h110 => ?_)
                · refine Y_ldc 63 rfl (pc2 := 129) rfl kc_gh_88 ?_
                  refine Y_iret 64 rfl rfl rfl ⟨rfl, ?_⟩
                  first | exact pc_0 h (by unfold sp_leaps; rw [cI_t ⟨⟨c, hc, rfl⟩, ⟨l, hl, rfl⟩, h17, by rw [nv_nI hn]; exact ⟨d1, d2, d3⟩⟩, nv_nI (k := c) (by omega), nv_nI (k := l) (by omega), nv_nI hn]; rw [cI_f (fun e => h96 e.1)]; rfl) | exact pc_0 h (by unfold sp_leaps; rw [cI_t ⟨⟨c, hc, rfl⟩, ⟨l, hl, rfl⟩, h17, by rw [nv_nI hn]; exact ⟨d1, d2, d3⟩⟩, nv_nI (k := c) (by omega), nv_nI (k := l) (by omega), nv_nI hn]; rw [cI_f (fun e => h110 e.2.1)]; rfl) | exact pc_0 h (by unfold sp_leaps; rw [cI_t ⟨⟨c, hc, rfl⟩, ⟨l, hl, rfl⟩, h17, by rw [nv_nI hn]; exact ⟨d1, d2, d3⟩⟩, nv_nI (k := c) (by omega), nv_nI (k := l) (by omega), nv_nI hn]; rw [cI_f (fun e => h124 e.2.2)]; rfl)
                · refine Y_aload 57 rfl (pc2 := 115) rfl rfl ?_
                  refine Y_getR 58 rfl (pc2 := 118) rfl fl_gh_117 (ly_le (by omega)) (by decide) rfl rfl (by omega) ?_
                  refine Y_iload 59 rfl (pc2 := 120) rfl rfl ?_
                  refine Y_aald 60 rfl (pc2 := 121) rfl (ly_leF (by omega)) (by decide) (fun _ => rfl) rfl (by omega) (by decide) (ly_leF_at (by omega)) (by omega) ?_
                  refine Y_cV 61 rfl (pc2 := 124) rfl ok_fi_isRight lk_gh_223 vi_fi_isRight (ly_fi (by omega) (by omega)) rfl (by decide) rfl (as := []) (rest := []) rfl rfl (T_fi_isRight h w (by omega) (by omega)) ?_
                  rintro _ _ ⟨rfl, rfl⟩
                  change Y _ _ _ _ _ [.int _] _ _
                  refine Y_if_neb 62 rfl (pc2 := 127) rfl (tgt := 130) (by decide) (fun h124 => ?_) (fun h124 => ?_)
                  · refine Y_aload_n 65 rfl (pc2 := 131) rfl rfl ?_
                    refine Y_getR 66 rfl (pc2 := 134) rfl fl_gh_52 ly_gh (by decide) rfl rfl (by omega) ?_
                    refine Y_aload 67 rfl (pc2 := 136) rfl rfl ?_
                    refine Y_getR 68 rfl (pc2 := 139) rfl fl_gh_117 (ly_le (by omega)) (by decide) rfl rfl (by omega) ?_
                    refine Y_iload 69 rfl (pc2 := 141) rfl rfl ?_
                    refine Y_aald 70 rfl (pc2 := 142) rfl (ly_leF (by omega)) (by decide) (fun _ => rfl) rfl (by omega) (by decide) (ly_leF_at (by omega)) (by omega) ?_
                    refine Y_iload 71 rfl (pc2 := 144) rfl rfl ?_
                    refine Y_cV 72 rfl (pc2 := 147) rfl ok_li_learn lk_gh_226 vi_li_learn ly_li rfl (by decide) rfl (as := [.ref _, .int _]) (rest := []) rfl rfl (T_li_learn h w hl d1 h96) ?_
                    rintro _ m1 ⟨rfl, hF1, hL1⟩
                    change Y _ _ _ _ _ [] _ _
                    refine Y_aload_n 73 rfl (pc2 := 148) rfl rfl ?_
                    refine Y_getR 74 rfl (pc2 := 151) rfl fl_gh_52 ly_gh (by decide) rfl rfl (by omega) ?_
                    refine Y_aload 75 rfl (pc2 := 153) rfl rfl ?_
                    refine Y_getR 76 rfl (pc2 := 156) rfl fl_gh_117 (ly_le (by omega)) (by decide) rfl rfl (by omega) ?_
                    refine Y_iload 77 rfl (pc2 := 158) rfl rfl ?_
                    refine Y_aald 78 rfl (pc2 := 159) rfl (ly_leF (by omega)) (by decide) (fun _ => rfl) rfl (by omega) (by decide) (ly_leF_at (by omega)) (by omega) ?_
                    refine Y_iload 79 rfl (pc2 := 161) rfl rfl ?_
                    refine Y_cV 80 rfl (pc2 := 164) rfl ok_li_learn lk_gh_226 vi_li_learn ly_li rfl (by decide) rfl (as := [.ref _, .int _]) (rest := []) rfl rfl (T_li_learn (RC_lF h hF1) w hl d2 h110) ?_
                    rintro _ m2 ⟨rfl, hF2, hL2⟩
                    change Y _ _ _ _ _ [] _ _
                    refine Y_aload_n 81 rfl (pc2 := 165) rfl rfl ?_
                    refine Y_getR 82 rfl (pc2 := 168) rfl fl_gh_52 ly_gh (by decide) rfl rfl (by omega) ?_
                    refine Y_aload 83 rfl (pc2 := 170) rfl rfl ?_
                    refine Y_getR 84 rfl (pc2 := 173) rfl fl_gh_117 (ly_le (by omega)) (by decide) rfl rfl (by omega) ?_
                    refine Y_iload 85 rfl (pc2 := 175) rfl rfl ?_
                    refine Y_aald 86 rfl (pc2 := 176) rfl (ly_leF (by omega)) (by decide) (fun _ => rfl) rfl (by omega) (by decide) (ly_leF_at (by omega)) (by omega) ?_
                    refine Y_iload 87 rfl (pc2 := 178) rfl rfl ?_
                    refine Y_cV 88 rfl (pc2 := 181) rfl ok_li_learn lk_gh_226 vi_li_learn ly_li rfl (by decide) rfl (as := [.ref _, .int _]) (rest := []) rfl rfl (T_li_learn (RC_lF (RC_lF h hF1) hF2) w hl d3 h124) ?_
                    rintro _ m3 ⟨rfl, hF3, hL3⟩
                    change Y _ _ _ _ _ [] _ _
                    refine Y_aload_n 89 rfl (pc2 := 182) rfl rfl ?_
                    refine Y_getR 90 rfl (pc2 := 185) rfl fl_gh_52 ly_gh (by decide) rfl rfl (by omega) ?_
                    refine Y_aload_n 91 rfl (pc2 := 186) rfl rfl ?_
                    refine Y_getR 92 rfl (pc2 := 189) rfl fl_gh_25 ly_gh (by decide) rfl rfl (by omega) ?_
                    refine Y_iload_n 93 rfl (pc2 := 190) rfl rfl ?_
                    refine Y_aald 94 rfl (pc2 := 191) rfl ly_ghC (by decide) (fun _ => rfl) rfl (by omega) (by decide) (ly_ghC_at (by omega)) (by omega) ?_
                    refine Y_iload 95 rfl (pc2 := 193) rfl rfl ?_
                    refine Y_iload 96 rfl (pc2 := 195) rfl rfl ?_
                    refine Y_iload 97 rfl (pc2 := 197) rfl rfl ?_
                    refine Y_cV 98 rfl (pc2 := 200) rfl ok_li_leapsWith lk_gh_230 vi_li_leapsWith ly_li rfl (by decide) rfl (as := [.ref _, .int _, .int _, .int _]) (rest := []) rfl rfl (T_li_leapsWith (RC_lF (RC_lF (RC_lF h hF1) hF2) hF3) w hc hl d1 d2 d3 h96 h110 h124 (LR_keep (LR_keep hL1 hF2 hL2) hF3 hL3) (LR_keep hL2 hF3 hL3) hL3) ?_
                    rintro _ m4 ⟨rfl, hE⟩
                    change Y _ _ _ _ _ [.int _] _ _
                    refine Y_iret 99 rfl rfl rfl ⟨rfl, ?_⟩
                    exact ⟨by unfold sp_leaps; rw [cI_t ⟨⟨c, hc, rfl⟩, ⟨l, hl, rfl⟩, h17, by rw [nv_nI hn]; exact ⟨d1, d2, d3⟩⟩, nv_nI (k := c) (by omega), nv_nI (k := l) (by omega), nv_nI hn]; rw [cI_t ⟨h96, h110, h124⟩], RC_18 (RC_lF (RC_lF (RC_lF h hF1) hF2) hF3) hE, fun a ha => by show m4 a = m a; rw [hE a (by omega), lF_ne hF3 (by omega), lF_ne hF2 (by omega), lF_ne hF1 (by omega)]⟩
                  · refine Y_ldc 63 rfl (pc2 := 129) rfl kc_gh_88 ?_
                    refine Y_iret 64 rfl rfl rfl ⟨rfl, ?_⟩
                    first | exact pc_0 h (by unfold sp_leaps; rw [cI_t ⟨⟨c, hc, rfl⟩, ⟨l, hl, rfl⟩, h17, by rw [nv_nI hn]; exact ⟨d1, d2, d3⟩⟩, nv_nI (k := c) (by omega), nv_nI (k := l) (by omega), nv_nI hn]; rw [cI_f (fun e => h96 e.1)]; rfl) | exact pc_0 h (by unfold sp_leaps; rw [cI_t ⟨⟨c, hc, rfl⟩, ⟨l, hl, rfl⟩, h17, by rw [nv_nI hn]; exact ⟨d1, d2, d3⟩⟩, nv_nI (k := c) (by omega), nv_nI (k := l) (by omega), nv_nI hn]; rw [cI_f (fun e => h110 e.2.1)]; rfl) | exact pc_0 h (by unfold sp_leaps; rw [cI_t ⟨⟨c, hc, rfl⟩, ⟨l, hl, rfl⟩, h17, by rw [nv_nI hn]; exact ⟨d1, d2, d3⟩⟩, nv_nI (k := c) (by omega), nv_nI (k := l) (by omega), nv_nI hn]; rw [cI_f (fun e => h124 e.2.2)]; rfl)
            · refine Y_ldc 38 rfl (pc2 := 76) rfl kc_gh_75 ?_
              refine Y_iret 39 rfl rfl rfl ⟨rfl, ?_⟩
              first | exact pc_0 h (by unfold sp_leaps; rw [cI_f (fun e => niR_n6 h51 (by have q := e.2.2.2.1; rw [nv_nI hn] at q; exact q))]; rfl) | exact pc_0 h (by unfold sp_leaps; rw [cI_f (fun e => niR_n6 h61 (by have q := e.2.2.2.2.1; rw [nv_nI hn] at q; exact q))]; rfl) | exact pc_0 h (by unfold sp_leaps; rw [cI_f (fun e => niR_n6 h71 (by have q := e.2.2.2.2.2; rw [nv_nI hn] at q; exact q))]; rfl)
      · refine Y_ldc 10 rfl (pc2 := 22) rfl kc_gh_75 ?_
        refine Y_iret 11 rfl rfl rfl ⟨rfl, ?_⟩
        first | exact pc_0 h (by unfold sp_leaps; rw [cI_f (fun e => h5 e.1)]; rfl) | exact pc_0 h (by unfold sp_leaps; rw [cI_f (fun e => h13 e.2.1)]; rfl) | exact pc_0 h (by unfold sp_leaps; rw [cI_f (fun e => h17 e.2.2.1)]; rfl)

def cF (m m' : Mm) : Prop := ∀ a, ¬ (a = 15 ∨ a = 16 ∨ a = 17 ∨ a = 19) → m' a = m a
set_option maxHeartbeats 400000 in
theorem RC_cF {m m' S : Mm} (h : RC m S) (e : cF m m') : RC m' S := h.mono (fun a ha _ => e a (by intro q; apply ha; unfold scr; omega))
set_option maxHeartbeats 400000 in
theorem nar_b {p : Prop} : vp_nar .boolean (bI p) = bI p := by
  by_cases h : p
  · rw [bI_t h]; rfl
  · rw [bI_f h]; rfl

set_option maxHeartbeats 400000 in
theorem L_choice {G : Nat × (Nat → Int32)} {m : Mm} {S : Mm} (h0 : RC m S) (w : WF S) {c l : Nat} (hc : c < 4) (hl : l < 4) : ∀ i, i ≤ 6 → ∀ m1, cF m m1 → (∀ f, f < i → m1 19 f = bI (okF S l f) ∧ (okF S l f → LR m1 S l f)) → ∀ (u : Option Value), Y G M_gh_choice (0, 0) 21 [some (.ref 0), some (.int (nI c)), some (.int (nI l)), some (.int (nI i)), u] [] (LAY, m1) (qm_ LAY (pc_ (bB (bst S c l 216)) m S)) := by
  refine ind_ (fun i hi ih m1 hC hD u => ?_)
  have h := RC_cF h0 hC
  refine Y_iload_n 12 rfl (pc2 := 22) rfl rfl ?_
  refine Y_bipush 13 rfl (pc2 := 24) rfl (v := nI 6) (by decide) ?_
  refine Y_icmp_gen 14 rfl (pc2 := 27) rfl (tgt := 82) (by decide) (by omega) (by omega) (fun h24 => ?_) (fun h24 => ?_)
  · refine Y_aload_n 43 rfl (pc2 := 83) rfl rfl ?_
    refine Y_getR 44 rfl (pc2 := 86) rfl fl_gh_52 ly_gh (by decide) rfl rfl (by omega) ?_
    refine Y_aload_n 45 rfl (pc2 := 87) rfl rfl ?_
    refine Y_getR 46 rfl (pc2 := 90) rfl fl_gh_25 ly_gh (by decide) rfl rfl (by omega) ?_
    refine Y_iload_n 47 rfl (pc2 := 91) rfl rfl ?_
    refine Y_aald 48 rfl (pc2 := 92) rfl ly_ghC (by decide) (fun _ => rfl) rfl (by omega) (by decide) (ly_ghC_at (by omega)) (by omega) ?_
    refine Y_cV 49 rfl (pc2 := 95) rfl ok_li_leastLeaping lk_gh_237 vi_li_leastLeaping ly_li rfl (by decide) rfl (as := [.ref _]) (rest := []) rfl rfl (T_li_leastLeaping h w hc hl (fun f hf => (hD f (by omega)).1) (fun f hf => (hD f (by omega)).2)) ?_
    rintro _ m4 ⟨rfl, hE⟩
    change Y _ _ _ _ _ [.int _] _ _
    refine Y_iret 50 rfl rfl rfl ⟨rfl, ?_⟩
    exact ⟨rfl, RC_18 h hE, fun a ha => by show m4 a = m a; rw [hE a (by omega)]; exact hC a (by omega)⟩
  · refine Y_aload_n 15 rfl (pc2 := 28) rfl rfl ?_
    refine Y_getR 16 rfl (pc2 := 31) rfl fl_gh_31 ly_gh (by decide) rfl rfl (by omega) ?_
    refine Y_iload_n 17 rfl (pc2 := 32) rfl rfl ?_
    refine Y_aald 18 rfl (pc2 := 33) rfl ly_ghL (by decide) (fun _ => rfl) rfl (by omega) (by decide) (ly_ghL_at (by omega)) (by omega) ?_
    refine Y_getR 19 rfl (pc2 := 36) rfl fl_gh_117 (ly_le (by omega)) (by decide) rfl rfl (by omega) ?_
    refine Y_iload_n 20 rfl (pc2 := 37) rfl rfl ?_
    refine Y_aald 21 rfl (pc2 := 38) rfl (ly_leF (by omega)) (by decide) (fun _ => rfl) rfl (by omega) (by decide) (ly_leF_at (by omega)) (by omega) ?_
    refine Y_astore 22 rfl (pc2 := 40) rfl (Nat.le_of_ble_eq_true rfl) (ls2 := [some (.ref _), some (.int _), some (.int _), some (.int _), some (.ref _)]) rfl ?_
    refine Y_aload_n 23 rfl (pc2 := 41) rfl rfl ?_
    refine Y_getR 24 rfl (pc2 := 44) rfl fl_gh_52 ly_gh (by decide) rfl rfl (by omega) ?_
    refine Y_getR 25 rfl (pc2 := 47) rfl fl_gh_234 ly_li (by decide) rfl rfl (by omega) ?_
    refine Y_iload_n 26 rfl (pc2 := 48) rfl rfl ?_
    refine Y_aload 27 rfl (pc2 := 50) rfl rfl ?_
    refine Y_cV 28 rfl (pc2 := 53) rfl ok_fi_isRight lk_gh_223 vi_fi_isRight (ly_fi (by omega) (by omega)) rfl (by decide) rfl (as := []) (rest := [.int _, .ref _]) rfl rfl (T_fi_isRight h w (by omega) (by omega)) ?_
    rintro _ _ ⟨rfl, rfl⟩
    change Y _ _ _ _ _ [.int _, .int _, .ref _] _ _
    refine Y_zast 29 rfl (pc2 := 54) rfl ly_liU rfl (by omega) (by decide) nar_b ?_
    refine Y_aload_n 30 rfl (pc2 := 55) rfl rfl ?_
    refine Y_getR 31 rfl (pc2 := 58) rfl fl_gh_52 ly_gh (by decide) rfl rfl (by omega) ?_
    refine Y_getR 32 rfl (pc2 := 61) rfl fl_gh_234 ly_li (by decide) rfl rfl (by omega) ?_
    refine Y_iload_n 33 rfl (pc2 := 62) rfl rfl ?_
    refine Y_zald 34 rfl (pc2 := 63) rfl ly_liU rfl (by omega) (by decide) ?_
    refine Y_top (uw_same) ?_
    refine Y_if_eqb 35 rfl (pc2 := 66) rfl (tgt := 76) (by decide) (fun h63 => ?_) (fun h63 => ?_)
    · refine Y_iinc 41 rfl (pc2 := 79) rfl rfl (nI_inc _ 1) (ls2 := [some (.ref _), some (.int _), some (.int _), some (.int _), some (.ref _)]) rfl ?_
      refine Y_goto 42 rfl (pc2 := 21) (by decide) ?_
      first
        | exact (by
            refine ih (i + 1) (by omega) (by omega) m2 (fun a ha => by rw [lF_ne hF2 (by omega)]; funext k; rw [uw_ne (by omega)]; exact congrFun (hC a ha) k) (fun f hf => ?_) _
            by_cases e : f = i
            · rw [e]
              exact ⟨by rw [lF_ne hF2 (by omega)]; exact uw_same, fun _ => hL2⟩
            · obtain ⟨p1, p2⟩ := hD f (by omega)
              exact ⟨by rw [lF_ne hF2 (by omega), uw_ne (by omega)]; exact p1, fun q => LR_lF (LR_k (p2 q) (by omega) rfl) hF2 e⟩)
        | exact (by
            refine ih (i + 1) (by omega) (by omega) _ (fun a ha => by funext k; rw [uw_ne (by omega)]; exact congrFun (hC a ha) k) (fun f hf => ?_) _
            by_cases e : f = i
            · rw [e]
              exact ⟨uw_same, fun q => absurd q h63⟩
            · obtain ⟨p1, p2⟩ := hD f (by omega)
              exact ⟨by rw [uw_ne (by omega)]; exact p1, fun q => LR_k (p2 q) (by omega) rfl⟩)
    · refine Y_aload_n 36 rfl (pc2 := 67) rfl rfl ?_
      refine Y_getR 37 rfl (pc2 := 70) rfl fl_gh_52 ly_gh (by decide) rfl rfl (by omega) ?_
      refine Y_aload 38 rfl (pc2 := 72) rfl rfl ?_
      refine Y_iload_n 39 rfl (pc2 := 73) rfl rfl ?_
      refine Y_cV 40 rfl (pc2 := 76) rfl ok_li_learn lk_gh_226 vi_li_learn ly_li rfl (by decide) rfl (as := [.ref _, .int _]) (rest := []) rfl rfl (T_li_learn (RC_uw (by unfold scr; omega) h) w hl (by omega) h63) ?_
      rintro _ m2 ⟨rfl, hF2, hL2⟩
      change Y _ _ _ _ _ [] _ _
      refine Y_iinc 41 rfl (pc2 := 79) rfl rfl (nI_inc _ 1) (ls2 := [some (.ref _), some (.int _), some (.int _), some (.int _), some (.ref _)]) rfl ?_
      refine Y_goto 42 rfl (pc2 := 21) (by decide) ?_
      first
        | exact (by
            refine ih (i + 1) (by omega) (by omega) m2 (fun a ha => by rw [lF_ne hF2 (by omega)]; funext k; rw [uw_ne (by omega)]; exact congrFun (hC a ha) k) (fun f hf => ?_) _
            by_cases e : f = i
            · rw [e]
              exact ⟨by rw [lF_ne hF2 (by omega)]; exact uw_same, fun _ => hL2⟩
            · obtain ⟨p1, p2⟩ := hD f (by omega)
              exact ⟨by rw [lF_ne hF2 (by omega), uw_ne (by omega)]; exact p1, fun q => LR_lF (LR_k (p2 q) (by omega) rfl) hF2 e⟩)
        | exact (by
            refine ih (i + 1) (by omega) (by omega) _ (fun a ha => by funext k; rw [uw_ne (by omega)]; exact congrFun (hC a ha) k) (fun f hf => ?_) _
            by_cases e : f = i
            · rw [e]
              exact ⟨uw_same, fun q => absurd q h63⟩
            · obtain ⟨p1, p2⟩ := hD f (by omega)
              exact ⟨by rw [uw_ne (by omega)]; exact p1, fun q => LR_k (p2 q) (by omega) rfl⟩)

set_option maxHeartbeats 400000 in
theorem T_gh_choice {G : Nat × (Nat → Int32)} {m : Mm} {S : Mm} (h : RC m S) (w : WF S) {x y : Int32} : Y G M_gh_choice (0, 0) 0 (en_ M_gh_choice [.ref (0), .int (x), .int (y)]) [] (LAY, m) (qm_ LAY (pc_ (sp_choice S x y) m S)) := by
  change Y _ _ _ _ [some (.ref _), some (.int _), some (.int _), none, none] _ _ _
  refine Y_iload_n 0 rfl (pc2 := 1) rfl rfl ?_
  refine Y_iconst 1 rfl (pc2 := 2) rfl (v := nI 4) (by decide) ?_
  refine Y_cS 2 rfl (pc2 := 5) rfl ok_gh_isBelow lk_gh_80 vs_gh_isBelow (as := [.int _, .int _]) (rest := []) rfl rfl (T_gh_isBelow (by omega)) ?_
  rintro _ _ ⟨rfl, rfl⟩
  change Y _ _ _ _ _ [.int _] _ _
  refine Y_if_eqb 3 rfl (pc2 := 8) rfl (tgt := 16) (by decide) (fun h5 => ?_) (fun h5 => ?_)
  · refine Y_ldc 8 rfl (pc2 := 18) rfl kc_gh_75 ?_
    refine Y_iret 9 rfl rfl rfl ⟨rfl, ?_⟩
    first | exact pc_0 h (by unfold sp_choice; rw [cI_f (fun e => h5 e.1)]; rfl) | exact pc_0 h (by unfold sp_choice; rw [cI_f (fun e => h13 e.2)]; rfl)
  · obtain ⟨c, hc, rfl⟩ := h5
    refine Y_iload_n 4 rfl (pc2 := 9) rfl rfl ?_
    refine Y_iconst 5 rfl (pc2 := 10) rfl (v := nI 4) (by decide) ?_
    refine Y_cS 6 rfl (pc2 := 13) rfl ok_gh_isBelow lk_gh_80 vs_gh_isBelow (as := [.int _, .int _]) (rest := []) rfl rfl (T_gh_isBelow (by omega)) ?_
    rintro _ _ ⟨rfl, rfl⟩
    change Y _ _ _ _ _ [.int _] _ _
    refine Y_if_neb 7 rfl (pc2 := 16) rfl (tgt := 19) (by decide) (fun h13 => ?_) (fun h13 => ?_)
    · obtain ⟨l, hl, rfl⟩ := h13
      refine Y_iconst 10 rfl (pc2 := 20) rfl (v := nI 0) (by decide) ?_
      refine Y_istore_n 11 rfl (pc2 := 21) rfl (Nat.le_of_ble_eq_true rfl) (ls2 := [some (.ref _), some (.int _), some (.int _), some (.int _), none]) rfl ?_
      unfold sp_choice
      rw [cI_t ⟨⟨c, hc, rfl⟩, ⟨l, hl, rfl⟩⟩, nv_nI (k := c) (by omega), nv_nI (k := l) (by omega)]
      exact L_choice h w hc hl 0 (Nat.zero_le _) m (fun _ _ => rfl) (fun f hf => absurd hf (Nat.not_lt_zero f)) _
    · refine Y_ldc 8 rfl (pc2 := 18) rfl kc_gh_75 ?_
      refine Y_iret 9 rfl rfl rfl ⟨rfl, ?_⟩
      first | exact pc_0 h (by unfold sp_choice; rw [cI_f (fun e => h5 e.1)]; rfl) | exact pc_0 h (by unfold sp_choice; rw [cI_f (fun e => h13 e.2)]; rfl)
end
section
/-! what the calls change: strike, together, use, trim -/
set_option maxHeartbeats 400000 in
theorem ix_inj {l f g s l2 f2 g2 s2 : Nat} (hf : f < 6) (hg : g < 2) (hs : s < 16) (hf2 : f2 < 6) (hg2 : g2 < 2) (hs2 : s2 < 16) (e : ix l f g s = ix l2 f2 g2 s2) : l = l2 ∧ f = f2 ∧ g = g2 ∧ s = s2 := by
  unfold ix at e
  omega

set_option maxHeartbeats 400000 in
theorem RC_strike {m S : Mm} (h : RC m S) {l0 f0 g0 s0 : Nat} {v v2 : Int32} (hl0 : l0 < 4) (hf0 : f0 < 6) (hg0 : g0 < 2) (hs0 : s0 < 2 ^ (l0 + 1)) (hv : v = oS v2) : RC (uw_ m (45 + 27 * l0 + 4 * f0 + g0) s0 v) (uw_ S 157 (ix l0 f0 g0 s0) v2) := by
  refine ⟨fun c hc => ?_, fun c b hc hb => ?_, fun c b hc hb => ?_, fun c b hc hb => ?_, fun c b hc hb => ?_, fun l hl => ?_, fun l f g s hl hf hg hs => ?_, fun l f s hl hf hs => ?_, fun l k hl hk => ?_, ?_, fun p hp => ?_, fun p hp => ?_, fun p hp => ?_, fun r hr => ?_, ?_, ?_, fun i hi => ?_, fun s hs => ?_, fun s i hs hi => ?_⟩
  · (repeat rw [uw_ne (by omega)]); exact h.b c hc
  · (repeat rw [uw_ne (by omega)]); exact h.n c b hc hb
  · (repeat rw [uw_ne (by omega)]); exact h.g c b hc hb
  · (repeat rw [uw_ne (by omega)]); exact h.t c b hc hb
  · (repeat rw [uw_ne (by omega)]); exact h.u c b hc hb
  · rw [uw_ne (by intro q9; rcases (by omega : l = l0 ∨ l + 1 ≤ l0 ∨ l0 + 1 ≤ l) with q | q | q <;> omega)]; exact h.l l hl
  · have hz := sz_16 hl
    have hz0 := sz_16 hl0
    by_cases e : l = l0 ∧ f = f0 ∧ g = g0 ∧ s = s0
    · obtain ⟨rfl, rfl, rfl, rfl⟩ := e
      rw [uw_same, uw_same]; exact hv
    · rw [uw_ne (by intro q9; rcases (by omega : l = l0 ∨ l + 1 ≤ l0 ∨ l0 + 1 ≤ l) with q | q | q <;> rcases (by omega : f = f0 ∨ f + 1 ≤ f0 ∨ f0 + 1 ≤ f) with q2 | q2 | q2 <;> omega), uw_ne (fun q => e (ix_inj hf hg (by omega) hf0 hg0 (by omega) q.2))]
      exact h.r l f g s hl hf hg hs
  · rw [uw_ne (by intro q9; rcases (by omega : l = l0 ∨ l + 1 ≤ l0 ∨ l0 + 1 ≤ l) with q | q | q <;> rcases (by omega : f = f0 ∨ f + 1 ≤ f0 ∨ f0 + 1 ≤ f) with q2 | q2 | q2 <;> omega)]; exact h.m l f s hl hf hs
  · rw [uw_ne (by intro q9; rcases (by omega : l = l0 ∨ l + 1 ≤ l0 ∨ l0 + 1 ≤ l) with q | q | q <;> omega)]; exact h.us l k hl hk
  · (repeat rw [uw_ne (by omega)]); exact h.p 
  · (repeat rw [uw_ne (by omega)]); exact h.c p hp
  · (repeat rw [uw_ne (by omega)]); exact h.pt p hp
  · (repeat rw [uw_ne (by omega)]); exact h.pl p hp
  · (repeat rw [uw_ne (by omega)]); exact h.sg r hr
  · (repeat rw [uw_ne (by omega)]); exact h.sn 
  · (repeat rw [uw_ne (by omega)]); exact h.tp 
  · (repeat rw [uw_ne (by omega)]); exact h.tv i hi
  · (repeat rw [uw_ne (by omega)]); exact h.sp s hs
  · (repeat rw [uw_ne (by omega)]); exact h.sb s i hs hi

set_option maxHeartbeats 400000 in
theorem WF_strike {S : Mm} (w : WF S) {k0 : Nat} {v2 : Int32} (hv : isS v2) : WF (uw_ S 157 k0 v2) := by
  refine ⟨fun c hc => ?_, fun i hi => ?_, fun i hi => ?_, fun i hi => ?_, fun i hi => ?_, fun l k hl hk => ?_, ?_, fun p hp => ?_, fun p hp => ?_, fun p hp => ?_, fun p hp => ?_, fun r hr => ?_, ?_, fun i hi => ?_, fun s hs => ?_, fun i hi => ?_, ?_⟩
  · exact w.b c hc
  · exact w.n i hi
  · exact w.g i hi
  · by_cases e : i = k0
    · rw [e, uw_same]; exact hv
    · rw [uw_ne (by omega)]; exact w.s i hi
  · exact w.m i hi
  · exact w.u l k hl hk
  · exact w.p 
  · exact w.c p hp
  · exact w.t p hp
  · exact w.t1 p hp
  · exact w.l p hp
  · exact w.r r hr
  · exact w.tp 
  · exact w.tv i hi
  · exact w.pl s hs
  · exact w.k i hi
  · exact w.sg 

set_option maxHeartbeats 400000 in
theorem RC_tog {m S : Mm} (h : RC m S) {l0 f0 s0 : Nat} {v : Int32} (hl0 : l0 < 4) (hf0 : f0 < 6) (hs0 : s0 < 2 ^ (l0 + 1)) : RC (uw_ m (47 + 27 * l0 + 4 * f0) s0 v) (uw_ S 158 (iy l0 f0 s0) v) := by
  refine ⟨fun c hc => ?_, fun c b hc hb => ?_, fun c b hc hb => ?_, fun c b hc hb => ?_, fun c b hc hb => ?_, fun l hl => ?_, fun l f g s hl hf hg hs => ?_, fun l f s hl hf hs => ?_, fun l k hl hk => ?_, ?_, fun p hp => ?_, fun p hp => ?_, fun p hp => ?_, fun r hr => ?_, ?_, ?_, fun i hi => ?_, fun s hs => ?_, fun s i hs hi => ?_⟩
  · (repeat rw [uw_ne (by omega)]); exact h.b c hc
  · (repeat rw [uw_ne (by omega)]); exact h.n c b hc hb
  · (repeat rw [uw_ne (by omega)]); exact h.g c b hc hb
  · (repeat rw [uw_ne (by omega)]); exact h.t c b hc hb
  · (repeat rw [uw_ne (by omega)]); exact h.u c b hc hb
  · rw [uw_ne (by intro q9; rcases (by omega : l = l0 ∨ l + 1 ≤ l0 ∨ l0 + 1 ≤ l) with q | q | q <;> omega)]; exact h.l l hl
  · rw [uw_ne (by intro q9; rcases (by omega : l = l0 ∨ l + 1 ≤ l0 ∨ l0 + 1 ≤ l) with q | q | q <;> rcases (by omega : f = f0 ∨ f + 1 ≤ f0 ∨ f0 + 1 ≤ f) with q2 | q2 | q2 <;> omega)]; exact h.r l f g s hl hf hg hs
  · have hz := sz_16 hl
    have hz0 := sz_16 hl0
    by_cases e : l = l0 ∧ f = f0 ∧ s = s0
    · obtain ⟨rfl, rfl, rfl⟩ := e
      rw [uw_same, uw_same]
    · rw [uw_ne (by intro q9; rcases (by omega : l = l0 ∨ l + 1 ≤ l0 ∨ l0 + 1 ≤ l) with q | q | q <;> rcases (by omega : f = f0 ∨ f + 1 ≤ f0 ∨ f0 + 1 ≤ f) with q2 | q2 | q2 <;> omega), uw_ne (by unfold iy; omega)]
      exact h.m l f s hl hf hs
  · rw [uw_ne (by intro q9; rcases (by omega : l = l0 ∨ l + 1 ≤ l0 ∨ l0 + 1 ≤ l) with q | q | q <;> omega)]; exact h.us l k hl hk
  · (repeat rw [uw_ne (by omega)]); exact h.p 
  · (repeat rw [uw_ne (by omega)]); exact h.c p hp
  · (repeat rw [uw_ne (by omega)]); exact h.pt p hp
  · (repeat rw [uw_ne (by omega)]); exact h.pl p hp
  · (repeat rw [uw_ne (by omega)]); exact h.sg r hr
  · (repeat rw [uw_ne (by omega)]); exact h.sn 
  · (repeat rw [uw_ne (by omega)]); exact h.tp 
  · (repeat rw [uw_ne (by omega)]); exact h.tv i hi
  · (repeat rw [uw_ne (by omega)]); exact h.sp s hs
  · (repeat rw [uw_ne (by omega)]); exact h.sb s i hs hi

set_option maxHeartbeats 400000 in
theorem WF_tog {S : Mm} (w : WF S) {k0 : Nat} {v : Int32} (hv : iR v 2) : WF (uw_ S 158 k0 v) := by
  refine ⟨fun c hc => ?_, fun i hi => ?_, fun i hi => ?_, fun i hi => ?_, fun i hi => ?_, fun l k hl hk => ?_, ?_, fun p hp => ?_, fun p hp => ?_, fun p hp => ?_, fun p hp => ?_, fun r hr => ?_, ?_, fun i hi => ?_, fun s hs => ?_, fun i hi => ?_, ?_⟩
  · exact w.b c hc
  · exact w.n i hi
  · exact w.g i hi
  · exact w.s i hi
  · by_cases e : i = k0
    · rw [e, uw_same]; exact hv
    · rw [uw_ne (by omega)]; exact w.m i hi
  · exact w.u l k hl hk
  · exact w.p 
  · exact w.c p hp
  · exact w.t p hp
  · exact w.t1 p hp
  · exact w.l p hp
  · exact w.r r hr
  · exact w.tp 
  · exact w.tv i hi
  · exact w.pl s hs
  · exact w.k i hi
  · exact w.sg 

set_option maxHeartbeats 400000 in
theorem RC_use {m S : Mm} (h : RC m S) {l0 k0 : Nat} {v : Int32} (hl0 : l0 < 4) (hk0 : k0 < 3) : RC (uw_ m (43 + 27 * l0) k0 v) (uw_ S 159 (3 * l0 + k0) v) := by
  refine ⟨fun c hc => ?_, fun c b hc hb => ?_, fun c b hc hb => ?_, fun c b hc hb => ?_, fun c b hc hb => ?_, fun l hl => ?_, fun l f g s hl hf hg hs => ?_, fun l f s hl hf hs => ?_, fun l k hl hk => ?_, ?_, fun p hp => ?_, fun p hp => ?_, fun p hp => ?_, fun r hr => ?_, ?_, ?_, fun i hi => ?_, fun s hs => ?_, fun s i hs hi => ?_⟩
  · (repeat rw [uw_ne (by omega)]); exact h.b c hc
  · (repeat rw [uw_ne (by omega)]); exact h.n c b hc hb
  · (repeat rw [uw_ne (by omega)]); exact h.g c b hc hb
  · (repeat rw [uw_ne (by omega)]); exact h.t c b hc hb
  · (repeat rw [uw_ne (by omega)]); exact h.u c b hc hb
  · rw [uw_ne (by intro q9; rcases (by omega : l = l0 ∨ l + 1 ≤ l0 ∨ l0 + 1 ≤ l) with q | q | q <;> omega)]; exact h.l l hl
  · rw [uw_ne (by intro q9; rcases (by omega : l = l0 ∨ l + 1 ≤ l0 ∨ l0 + 1 ≤ l) with q | q | q <;> omega)]; exact h.r l f g s hl hf hg hs
  · rw [uw_ne (by intro q9; rcases (by omega : l = l0 ∨ l + 1 ≤ l0 ∨ l0 + 1 ≤ l) with q | q | q <;> omega)]; exact h.m l f s hl hf hs
  · by_cases e : l = l0 ∧ k = k0
    · obtain ⟨rfl, rfl⟩ := e
      rw [uw_same, uw_same]
    · rw [uw_ne (by omega), uw_ne (by omega)]
      exact h.us l k hl hk
  · (repeat rw [uw_ne (by omega)]); exact h.p 
  · (repeat rw [uw_ne (by omega)]); exact h.c p hp
  · (repeat rw [uw_ne (by omega)]); exact h.pt p hp
  · (repeat rw [uw_ne (by omega)]); exact h.pl p hp
  · (repeat rw [uw_ne (by omega)]); exact h.sg r hr
  · (repeat rw [uw_ne (by omega)]); exact h.sn 
  · (repeat rw [uw_ne (by omega)]); exact h.tp 
  · (repeat rw [uw_ne (by omega)]); exact h.tv i hi
  · (repeat rw [uw_ne (by omega)]); exact h.sp s hs
  · (repeat rw [uw_ne (by omega)]); exact h.sb s i hs hi

set_option maxHeartbeats 400000 in
theorem WF_use {S : Mm} (w : WF S) {l0 k0 q : Nat} (hl0 : l0 < 4) (hk0 : k0 < 3) (hq : q < 6) : WF (uw_ S 159 (3 * l0 + k0) (nI q)) := by
  refine ⟨fun c hc => ?_, fun i hi => ?_, fun i hi => ?_, fun i hi => ?_, fun i hi => ?_, fun l k hl hk => ?_, ?_, fun p hp => ?_, fun p hp => ?_, fun p hp => ?_, fun p hp => ?_, fun r hr => ?_, ?_, fun i hi => ?_, fun s hs => ?_, fun i hi => ?_, ?_⟩
  · exact w.b c hc
  · exact w.n i hi
  · exact w.g i hi
  · exact w.s i hi
  · exact w.m i hi
  · by_cases e : l = l0 ∧ k = k0
    · obtain ⟨rfl, rfl⟩ := e
      unfold us
      rw [uw_same, nv_nI (by omega)]; exact ⟨rfl, hq⟩
    · unfold us
      rw [uw_ne (by omega)]
      exact w.u l k hl hk
  · exact w.p 
  · exact w.c p hp
  · exact w.t p hp
  · exact w.t1 p hp
  · exact w.l p hp
  · exact w.r r hr
  · exact w.tp 
  · exact w.tv i hi
  · exact w.pl s hs
  · exact w.k i hi
  · exact w.sg 

set_option maxHeartbeats 400000 in
theorem RC_trim {m S : Mm} (h : RC m S) {v : Int32} : RC (uw_ m 1 1 v) (uw_ S 153 12 v) := by
  refine ⟨fun c hc => ?_, fun c b hc hb => ?_, fun c b hc hb => ?_, fun c b hc hb => ?_, fun c b hc hb => ?_, fun l hl => ?_, fun l f g s hl hf hg hs => ?_, fun l f s hl hf hs => ?_, fun l k hl hk => ?_, ?_, fun p hp => ?_, fun p hp => ?_, fun p hp => ?_, fun r hr => ?_, ?_, ?_, fun i hi => ?_, fun s hs => ?_, fun s i hs hi => ?_⟩
  · (repeat rw [uw_ne (by omega)]); exact h.b c hc
  · (repeat rw [uw_ne (by omega)]); exact h.n c b hc hb
  · (repeat rw [uw_ne (by omega)]); exact h.g c b hc hb
  · (repeat rw [uw_ne (by omega)]); exact h.t c b hc hb
  · (repeat rw [uw_ne (by omega)]); exact h.u c b hc hb
  · (repeat rw [uw_ne (by omega)]); exact h.l l hl
  · (repeat rw [uw_ne (by omega)]); exact h.r l f g s hl hf hg hs
  · (repeat rw [uw_ne (by omega)]); exact h.m l f s hl hf hs
  · (repeat rw [uw_ne (by omega)]); exact h.us l k hl hk
  · (repeat rw [uw_ne (by omega)]); exact h.p 
  · (repeat rw [uw_ne (by omega)]); exact h.c p hp
  · (repeat rw [uw_ne (by omega)]); exact h.pt p hp
  · (repeat rw [uw_ne (by omega)]); exact h.pl p hp
  · (repeat rw [uw_ne (by omega)]); exact h.sg r hr
  · (repeat rw [uw_ne (by omega)]); exact h.sn 
  · rw [uw_same, uw_same]
  · (repeat rw [uw_ne (by omega)]); exact h.tv i hi
  · (repeat rw [uw_ne (by omega)]); exact h.sp s hs
  · (repeat rw [uw_ne (by omega)]); exact h.sb s i hs hi

set_option maxHeartbeats 400000 in
theorem WF_trim {S : Mm} (w : WF S) {q : Nat} (hq : q ≤ 64) : WF (uw_ S 153 12 (nI q)) := by
  refine ⟨fun c hc => ?_, fun i hi => ?_, fun i hi => ?_, fun i hi => ?_, fun i hi => ?_, fun l k hl hk => ?_, ?_, fun p hp => ?_, fun p hp => ?_, fun p hp => ?_, fun p hp => ?_, fun r hr => ?_, ?_, fun i hi => ?_, fun s hs => ?_, fun i hi => ?_, ?_⟩
  · exact w.b c hc
  · exact w.n i hi
  · exact w.g i hi
  · exact w.s i hi
  · exact w.m i hi
  · exact w.u l k hl hk
  · exact w.p 
  · exact w.c p hp
  · exact w.t p hp
  · exact w.t1 p hp
  · exact w.l p hp
  · exact w.r r hr
  · unfold tpd
    rw [uw_same, nv_nI (by omega)]; exact ⟨rfl, hq⟩
  · exact w.tv i hi
  · exact w.pl s hs
  · exact w.k i hi
  · exact w.sg 
end
section
/-! the class: what its calls change -/
def FULL_ : Int32 := -1000000003
def NOTHING_ : Int32 := -1000000011
def INDEX_ : Int32 := -1000000013
def SIZE_ : Int32 := -1000000014
def shO (v : Int32) : Prop := v = NONE_ ∨ (-4 ≤ v ∧ v ≤ nI 4)
def mtd (v : Int32) : Int32 := if v = NONE_ then -9 else v
set_option maxHeartbeats 400000 in
theorem sh_is {v : Int32} (h : -4 ≤ v ∧ v ≤ nI 4) : ∃ j, j < 9 ∧ v = nI j - nI 4 := by
  have h1 : -4 ≤ v.toInt := by have := Int32.le_iff_toInt_le.mp h.1; simpa using this
  have h2 : v.toInt ≤ 4 := by have := Int32.le_iff_toInt_le.mp h.2; rw [nI_toInt (by decide)] at this; exact this
  refine ⟨(v.toInt + 4).toNat, by omega, ?_⟩
  have e : v = Int32.ofInt v.toInt := (Int32.ofInt_toInt v).symm
  have h3 : v.toInt = -4 ∨ v.toInt = -3 ∨ v.toInt = -2 ∨ v.toInt = -1 ∨ v.toInt = 0 ∨ v.toInt = 1 ∨ v.toInt = 2 ∨ v.toInt = 3 ∨ v.toInt = 4 := by omega
  generalize hz : v.toInt = z at *
  rw [e]
  rcases h3 with rfl | rfl | rfl | rfl | rfl | rfl | rfl | rfl | rfl <;> decide
set_option maxHeartbeats 400000 in
theorem mtd_isS {v : Int32} (h : shO v) : isS (mtd v) := by
  unfold mtd
  split
  · exact Or.inl rfl
  · rename_i e
    rcases h with q | q
    · exact absurd q e
    · exact Or.inr (sh_is q)
set_option maxHeartbeats 400000 in
theorem mtd_oS {v : Int32} (h : shO v) : v = oS (mtd v) := by
  unfold mtd
  split
  · rename_i e; rw [e]; rfl
  · rename_i e
    unfold oS
    rw [if_neg]
    rcases h with q | q
    · exact absurd q e
    · obtain ⟨j, hj, rfl⟩ := sh_is q
      intro e2
      have h3 : j = 0 ∨ j = 1 ∨ j = 2 ∨ j = 3 ∨ j = 4 ∨ j = 5 ∨ j = 6 ∨ j = 7 ∨ j = 8 := by omega
      rcases h3 with rfl | rfl | rfl | rfl | rfl | rfl | rfl | rfl | rfl <;> exact absurd e2 (by decide)
def stC (x y z u v : Int32) : Prop := ((iR x 4 ∧ iR y 6) ∧ iR u (2 ^ (nv x + 1))) ∧ iR z 2 ∧ shO v
noncomputable def sp_strike (S : Mm) (x y z u v : Int32) : Int32 := cI (stC x y z u v) (oS (S 157 (ix (nv x) (nv y) (nv z) (nv u)))) BAD_
noncomputable def st_strike (S : Mm) (x y z u v : Int32) : Mm := cI (stC x y z u v) (uw_ S 157 (ix (nv x) (nv y) (nv z) (nv u)) (mtd v)) S
def toC (x y z u : Int32) : Prop := ((iR x 4 ∧ iR y 6) ∧ iR z (2 ^ (nv x + 1))) ∧ iR u 2
noncomputable def sp_tog (S : Mm) (x y z u : Int32) : Int32 := cI (toC x y z u) (S 158 (iy (nv x) (nv y) (nv z))) BAD_
noncomputable def st_tog (S : Mm) (x y z u : Int32) : Mm := cI (toC x y z u) (uw_ S 158 (iy (nv x) (nv y) (nv z)) u) S
def usC (x y z : Int32) : Prop := (iR x 4 ∧ iR z 6) ∧ iR y 3
noncomputable def sp_use (S : Mm) (x y z : Int32) : Int32 := cI (usC x y z) (S 159 (3 * nv x + nv y)) BAD_
noncomputable def st_use (S : Mm) (x y z : Int32) : Mm := cI (usC x y z) (uw_ S 159 (3 * nv x + nv y) z) S
noncomputable def sp_trim (S : Mm) (x : Int32) : Int32 := cI (iR x (tpd S + 1)) x BAD_
noncomputable def st_trim (S : Mm) (x : Int32) : Mm := cI (iR x (tpd S + 1)) (uw_ S 153 12 x) S
set_option maxHeartbeats 400000 in
theorem pc_bad {m S S2 : Mm} {x y : Int32} (h : RC m S) (e : y = x) (e2 : S2 = S) : pc_ x m S2 (some (.int y)) m := by
  rw [e2]; exact pc_0 h e

set_option maxHeartbeats 400000 in
theorem T_gh_strike {G : Nat × (Nat → Int32)} {m : Mm} {S : Mm} (h : RC m S) (w : WF S) {x y z u v : Int32} : Y G M_gh_strike (0, 0) 0 (en_ M_gh_strike [.ref (0), .int (x), .int (y), .int (z), .int (u), .int (v)]) [] (LAY, m) (qm_ LAY (pc_ (sp_strike S x y z u v) m (st_strike S x y z u v))) := by
  change Y _ _ _ _ [some (.ref _), some (.int _), some (.int _), some (.int _), some (.int _), some (.int _), none, none] _ _ _
  refine Y_aload_n 0 rfl (pc2 := 1) rfl rfl ?_
  refine Y_iload_n 1 rfl (pc2 := 2) rfl rfl ?_
  refine Y_iload_n 2 rfl (pc2 := 3) rfl rfl ?_
  refine Y_iload 3 rfl (pc2 := 5) rfl rfl ?_
  refine Y_cV 4 rfl (pc2 := 8) rfl ok_gh_hasStep lk_gh_109 vi_gh_hasStep ly_gh rfl (by decide) rfl (as := [.int _, .int _, .int _]) (rest := []) rfl rfl (T_gh_hasStep h w) ?_
  rintro _ _ ⟨rfl, rfl⟩
  change Y _ _ _ _ _ [.int _] _ _
  refine Y_if_eqb 5 rfl (pc2 := 11) rfl (tgt := 19) (by decide) (fun h8 => ?_) (fun h8 => ?_)
  · refine Y_ldc 10 rfl (pc2 := 21) rfl kc_gh_75 ?_
    refine Y_iret 11 rfl rfl rfl ⟨rfl, ?_⟩
    first | exact pc_bad h (by unfold sp_strike; rw [cI_f (fun e => h8 e.1)]; rfl) (by unfold st_strike; rw [cI_f (fun e => h8 e.1)]) | exact pc_bad h (by unfold sp_strike; rw [cI_f (fun e => h16 e.2.1)]; rfl) (by unfold st_strike; rw [cI_f (fun e => h16 e.2.1)])
  · obtain ⟨⟨⟨l, hl, rfl⟩, ⟨f, hf, rfl⟩⟩, hs0⟩ := h8
    rw [nv_nI (by omega)] at hs0
    obtain ⟨s, hs, rfl⟩ := hs0
    have hz := sz_16 hl
    refine Y_iload_n 6 rfl (pc2 := 12) rfl rfl ?_
    refine Y_iconst 7 rfl (pc2 := 13) rfl (v := nI 2) (by decide) ?_
    refine Y_cS 8 rfl (pc2 := 16) rfl ok_gh_isBelow lk_gh_80 vs_gh_isBelow (as := [.int _, .int _]) (rest := []) rfl rfl (T_gh_isBelow (by omega)) ?_
    rintro _ _ ⟨rfl, rfl⟩
    change Y _ _ _ _ _ [.int _] _ _
    refine Y_if_neb 9 rfl (pc2 := 19) rfl (tgt := 22) (by decide) (fun h16 => ?_) (fun h16 => ?_)
    · obtain ⟨g, hg, rfl⟩ := h16
      refine Y_iload 12 rfl (pc2 := 24) rfl rfl ?_
      refine Y_ldc 13 rfl (pc2 := 26) rfl kc_gh_84 ?_
      refine Y_icmp_eq 14 rfl (pc2 := 29) rfl (tgt := 40) (by decide) (fun h26 => ?_) (fun h26 => ?_)
      · have hO : shO v := by first | exact Or.inl h26 | exact Or.inr h34
        refine Y_aload_n 20 rfl (pc2 := 41) rfl rfl ?_
        refine Y_getR 21 rfl (pc2 := 44) rfl fl_gh_31 ly_gh (by decide) rfl rfl (by omega) ?_
        refine Y_iload_n 22 rfl (pc2 := 45) rfl rfl ?_
        refine Y_aald 23 rfl (pc2 := 46) rfl ly_ghL (by decide) (fun _ => rfl) rfl (by omega) (by decide) (ly_ghL_at (by omega)) (by omega) ?_
        refine Y_getR 24 rfl (pc2 := 49) rfl fl_gh_117 (ly_le (by omega)) (by decide) rfl rfl (by omega) ?_
        refine Y_iload_n 25 rfl (pc2 := 50) rfl rfl ?_
        refine Y_aald 26 rfl (pc2 := 51) rfl (ly_leF (by omega)) (by decide) (fun _ => rfl) rfl (by omega) (by decide) (ly_leF_at (by omega)) (by omega) ?_
        refine Y_iload_n 27 rfl (pc2 := 52) rfl rfl ?_
        refine Y_cV 28 rfl (pc2 := 55) rfl ok_fi_rowOf lk_gh_121 vi_fi_rowOf (ly_fi (by omega) (by omega)) rfl (by decide) rfl (as := [.int _]) (rest := []) rfl rfl (T_fi_rowOf (by omega) (by omega) (by omega)) ?_
        rintro _ _ ⟨rfl, rfl⟩
        change Y _ _ _ _ _ [.ref _] _ _
        refine Y_astore 29 rfl (pc2 := 57) rfl (Nat.le_of_ble_eq_true rfl) (ls2 := [some (.ref _), some (.int _), some (.int _), some (.int _), some (.int _), some (.int _), some (.ref _), none]) rfl ?_
        refine Y_aload 30 rfl (pc2 := 59) rfl rfl ?_
        refine Y_iload 31 rfl (pc2 := 61) rfl rfl ?_
        refine Y_iald 32 rfl (pc2 := 62) rfl (ly_fiR (by omega) (by omega) (by omega)) rfl (by omega) (sz_lt (by omega)) ?_
        refine Y_top (h.r l f g s hl hf hg hs) ?_
        refine Y_istore 33 rfl (pc2 := 64) rfl (Nat.le_of_ble_eq_true rfl) (ls2 := [some (.ref _), some (.int _), some (.int _), some (.int _), some (.int _), some (.int _), some (.ref _), some (.int _)]) rfl ?_
        refine Y_aload 34 rfl (pc2 := 66) rfl rfl ?_
        refine Y_iload 35 rfl (pc2 := 68) rfl rfl ?_
        refine Y_iload 36 rfl (pc2 := 70) rfl rfl ?_
        refine Y_iast 37 rfl (pc2 := 71) rfl (ly_fiR (by omega) (by omega) (by omega)) rfl (by omega) (sz_lt (by omega)) rfl ?_
        refine Y_iload 38 rfl (pc2 := 73) rfl rfl ?_
        refine Y_iret 39 rfl rfl rfl ⟨rfl, ?_⟩
        exact ⟨by unfold sp_strike; rw [cI_t (show stC _ _ _ _ _ from ⟨⟨⟨⟨l, hl, rfl⟩, ⟨f, hf, rfl⟩⟩, by rw [nv_nI (by omega)]; exact ⟨s, hs, rfl⟩⟩, ⟨g, hg, rfl⟩, hO⟩), nv_nI (k := l) (by omega), nv_nI (k := f) (by omega), nv_nI (k := g) (by omega), nv_nI (k := s) (by omega)], by unfold st_strike; rw [cI_t (show stC _ _ _ _ _ from ⟨⟨⟨⟨l, hl, rfl⟩, ⟨f, hf, rfl⟩⟩, by rw [nv_nI (by omega)]; exact ⟨s, hs, rfl⟩⟩, ⟨g, hg, rfl⟩, hO⟩), nv_nI (k := l) (by omega), nv_nI (k := f) (by omega), nv_nI (k := g) (by omega), nv_nI (k := s) (by omega)]; exact RC_strike h hl hf hg hs (mtd_oS hO), fun a ha => funext fun k => uw_ne (by omega)⟩
      · refine Y_iload 15 rfl (pc2 := 31) rfl rfl ?_
        refine Y_cS 16 rfl (pc2 := 34) rfl ok_gh_isShift lk_gh_113 vs_gh_isShift (as := [.int _]) (rest := []) rfl rfl T_gh_isShift ?_
        rintro _ _ ⟨rfl, rfl⟩
        change Y _ _ _ _ _ [.int _] _ _
        refine Y_if_neb 17 rfl (pc2 := 37) rfl (tgt := 40) (by decide) (fun h34 => ?_) (fun h34 => ?_)
        · have hO : shO v := by first | exact Or.inl h26 | exact Or.inr h34
          refine Y_aload_n 20 rfl (pc2 := 41) rfl rfl ?_
          refine Y_getR 21 rfl (pc2 := 44) rfl fl_gh_31 ly_gh (by decide) rfl rfl (by omega) ?_
          refine Y_iload_n 22 rfl (pc2 := 45) rfl rfl ?_
          refine Y_aald 23 rfl (pc2 := 46) rfl ly_ghL (by decide) (fun _ => rfl) rfl (by omega) (by decide) (ly_ghL_at (by omega)) (by omega) ?_
          refine Y_getR 24 rfl (pc2 := 49) rfl fl_gh_117 (ly_le (by omega)) (by decide) rfl rfl (by omega) ?_
          refine Y_iload_n 25 rfl (pc2 := 50) rfl rfl ?_
          refine Y_aald 26 rfl (pc2 := 51) rfl (ly_leF (by omega)) (by decide) (fun _ => rfl) rfl (by omega) (by decide) (ly_leF_at (by omega)) (by omega) ?_
          refine Y_iload_n 27 rfl (pc2 := 52) rfl rfl ?_
          refine Y_cV 28 rfl (pc2 := 55) rfl ok_fi_rowOf lk_gh_121 vi_fi_rowOf (ly_fi (by omega) (by omega)) rfl (by decide) rfl (as := [.int _]) (rest := []) rfl rfl (T_fi_rowOf (by omega) (by omega) (by omega)) ?_
          rintro _ _ ⟨rfl, rfl⟩
          change Y _ _ _ _ _ [.ref _] _ _
          refine Y_astore 29 rfl (pc2 := 57) rfl (Nat.le_of_ble_eq_true rfl) (ls2 := [some (.ref _), some (.int _), some (.int _), some (.int _), some (.int _), some (.int _), some (.ref _), none]) rfl ?_
          refine Y_aload 30 rfl (pc2 := 59) rfl rfl ?_
          refine Y_iload 31 rfl (pc2 := 61) rfl rfl ?_
          refine Y_iald 32 rfl (pc2 := 62) rfl (ly_fiR (by omega) (by omega) (by omega)) rfl (by omega) (sz_lt (by omega)) ?_
          refine Y_top (h.r l f g s hl hf hg hs) ?_
          refine Y_istore 33 rfl (pc2 := 64) rfl (Nat.le_of_ble_eq_true rfl) (ls2 := [some (.ref _), some (.int _), some (.int _), some (.int _), some (.int _), some (.int _), some (.ref _), some (.int _)]) rfl ?_
          refine Y_aload 34 rfl (pc2 := 66) rfl rfl ?_
          refine Y_iload 35 rfl (pc2 := 68) rfl rfl ?_
          refine Y_iload 36 rfl (pc2 := 70) rfl rfl ?_
          refine Y_iast 37 rfl (pc2 := 71) rfl (ly_fiR (by omega) (by omega) (by omega)) rfl (by omega) (sz_lt (by omega)) rfl ?_
          refine Y_iload 38 rfl (pc2 := 73) rfl rfl ?_
          refine Y_iret 39 rfl rfl rfl ⟨rfl, ?_⟩
          exact ⟨by unfold sp_strike; rw [cI_t (show stC _ _ _ _ _ from ⟨⟨⟨⟨l, hl, rfl⟩, ⟨f, hf, rfl⟩⟩, by rw [nv_nI (by omega)]; exact ⟨s, hs, rfl⟩⟩, ⟨g, hg, rfl⟩, hO⟩), nv_nI (k := l) (by omega), nv_nI (k := f) (by omega), nv_nI (k := g) (by omega), nv_nI (k := s) (by omega)], by unfold st_strike; rw [cI_t (show stC _ _ _ _ _ from ⟨⟨⟨⟨l, hl, rfl⟩, ⟨f, hf, rfl⟩⟩, by rw [nv_nI (by omega)]; exact ⟨s, hs, rfl⟩⟩, ⟨g, hg, rfl⟩, hO⟩), nv_nI (k := l) (by omega), nv_nI (k := f) (by omega), nv_nI (k := g) (by omega), nv_nI (k := s) (by omega)]; exact RC_strike h hl hf hg hs (mtd_oS hO), fun a ha => funext fun k => uw_ne (by omega)⟩
        · refine Y_ldc 18 rfl (pc2 := 39) rfl kc_gh_75 ?_
          refine Y_iret 19 rfl rfl rfl ⟨rfl, ?_⟩
          exact pc_bad h (by unfold sp_strike; rw [cI_f (fun e => e.2.2.elim h26 h34)]; rfl) (by unfold st_strike; rw [cI_f (fun e => e.2.2.elim h26 h34)])
    · refine Y_ldc 10 rfl (pc2 := 21) rfl kc_gh_75 ?_
      refine Y_iret 11 rfl rfl rfl ⟨rfl, ?_⟩
      first | exact pc_bad h (by unfold sp_strike; rw [cI_f (fun e => h8 e.1)]; rfl) (by unfold st_strike; rw [cI_f (fun e => h8 e.1)]) | exact pc_bad h (by unfold sp_strike; rw [cI_f (fun e => h16 e.2.1)]; rfl) (by unfold st_strike; rw [cI_f (fun e => h16 e.2.1)])

set_option maxHeartbeats 400000 in
theorem T_gh_together {G : Nat × (Nat → Int32)} {m : Mm} {S : Mm} (h : RC m S) (w : WF S) {x y z u : Int32} : Y G M_gh_together (0, 0) 0 (en_ M_gh_together [.ref (0), .int (x), .int (y), .int (z), .int (u)]) [] (LAY, m) (qm_ LAY (pc_ (sp_tog S x y z u) m (st_tog S x y z u))) := by
  change Y _ _ _ _ [some (.ref _), some (.int _), some (.int _), some (.int _), some (.int _), none, none] _ _ _
  refine Y_aload_n 0 rfl (pc2 := 1) rfl rfl ?_
  refine Y_iload_n 1 rfl (pc2 := 2) rfl rfl ?_
  refine Y_iload_n 2 rfl (pc2 := 3) rfl rfl ?_
  refine Y_iload_n 3 rfl (pc2 := 4) rfl rfl ?_
  refine Y_cV 4 rfl (pc2 := 7) rfl ok_gh_hasStep lk_gh_109 vi_gh_hasStep ly_gh rfl (by decide) rfl (as := [.int _, .int _, .int _]) (rest := []) rfl rfl (T_gh_hasStep h w) ?_
  rintro _ _ ⟨rfl, rfl⟩
  change Y _ _ _ _ _ [.int _] _ _
  refine Y_if_eqb 5 rfl (pc2 := 10) rfl (tgt := 19) (by decide) (fun h7 => ?_) (fun h7 => ?_)
  · refine Y_ldc 10 rfl (pc2 := 21) rfl kc_gh_75 ?_
    refine Y_iret 11 rfl rfl rfl ⟨rfl, ?_⟩
    first | exact pc_bad h (by unfold sp_tog; rw [cI_f (fun e => h7 e.1)]; rfl) (by unfold st_tog; rw [cI_f (fun e => h7 e.1)]) | exact pc_bad h (by unfold sp_tog; rw [cI_f (fun e => h16 e.2)]; rfl) (by unfold st_tog; rw [cI_f (fun e => h16 e.2)])
  · obtain ⟨⟨⟨l, hl, rfl⟩, ⟨f, hf, rfl⟩⟩, hs0⟩ := h7
    rw [nv_nI (by omega)] at hs0
    obtain ⟨s, hs, rfl⟩ := hs0
    have hz := sz_16 hl
    refine Y_iload 6 rfl (pc2 := 12) rfl rfl ?_
    refine Y_iconst 7 rfl (pc2 := 13) rfl (v := nI 2) (by decide) ?_
    refine Y_cS 8 rfl (pc2 := 16) rfl ok_gh_isBelow lk_gh_80 vs_gh_isBelow (as := [.int _, .int _]) (rest := []) rfl rfl (T_gh_isBelow (by omega)) ?_
    rintro _ _ ⟨rfl, rfl⟩
    change Y _ _ _ _ _ [.int _] _ _
    refine Y_if_neb 9 rfl (pc2 := 19) rfl (tgt := 22) (by decide) (fun h16 => ?_) (fun h16 => ?_)
    · obtain ⟨o, ho, rfl⟩ := h16
      obtain ⟨q, hq, hm1⟩ := w.m (iy l f s) (by unfold iy; omega)
      refine Y_aload_n 12 rfl (pc2 := 23) rfl rfl ?_
      refine Y_getR 13 rfl (pc2 := 26) rfl fl_gh_31 ly_gh (by decide) rfl rfl (by omega) ?_
      refine Y_iload_n 14 rfl (pc2 := 27) rfl rfl ?_
      refine Y_aald 15 rfl (pc2 := 28) rfl ly_ghL (by decide) (fun _ => rfl) rfl (by omega) (by decide) (ly_ghL_at (by omega)) (by omega) ?_
      refine Y_getR 16 rfl (pc2 := 31) rfl fl_gh_117 (ly_le (by omega)) (by decide) rfl rfl (by omega) ?_
      refine Y_iload_n 17 rfl (pc2 := 32) rfl rfl ?_
      refine Y_aald 18 rfl (pc2 := 33) rfl (ly_leF (by omega)) (by decide) (fun _ => rfl) rfl (by omega) (by decide) (ly_leF_at (by omega)) (by omega) ?_
      refine Y_getR 19 rfl (pc2 := 36) rfl fl_gh_150 (ly_fi (by omega) (by omega)) (by decide) rfl rfl (by omega) ?_
      refine Y_astore 20 rfl (pc2 := 38) rfl (Nat.le_of_ble_eq_true rfl) (ls2 := [some (.ref _), some (.int _), some (.int _), some (.int _), some (.int _), some (.ref _), none]) rfl ?_
      refine Y_aload 21 rfl (pc2 := 40) rfl rfl ?_
      refine Y_iload_n 22 rfl (pc2 := 41) rfl rfl ?_
      refine Y_zald 23 rfl (pc2 := 42) rfl (ly_fiB (by omega) (by omega)) rfl (by omega) (sz_lt (by omega)) ?_
      refine Y_top ((h.m l f s hl hf hs).trans hm1) ?_
      refine Y_if_eqn 24 rfl (pc2 := 45) rfl (tgt := 49) (by decide) (by omega) (fun h42 => ?_) (fun h42 => ?_)
      · refine Y_iconst 27 rfl (pc2 := 50) rfl (v := nI 0) (by decide) ?_
        refine Y_istore 28 rfl (pc2 := 52) rfl (Nat.le_of_ble_eq_true rfl) (ls2 := [some (.ref _), some (.int _), some (.int _), some (.int _), some (.int _), some (.ref _), some (.int _)]) rfl ?_
        refine Y_aload 29 rfl (pc2 := 54) rfl rfl ?_
        refine Y_iload_n 30 rfl (pc2 := 55) rfl rfl ?_
        refine Y_iload 31 rfl (pc2 := 57) rfl rfl ?_
        refine Y_iconst 32 rfl (pc2 := 58) rfl (v := nI 1) (by decide) ?_
        refine Y_icmp_nen 33 rfl (pc2 := 61) rfl (tgt := 65) (by decide) (by omega) (by omega) (fun h58 => ?_) (fun h58 => ?_)
        · refine Y_iconst 36 rfl (pc2 := 66) rfl (v := nI 0) (by decide) ?_
          refine Y_zast 37 rfl (pc2 := 67) rfl (ly_fiB (by omega) (by omega)) rfl (by omega) (sz_lt (by omega)) rfl ?_
          refine Y_iload 38 rfl (pc2 := 69) rfl rfl ?_
          refine Y_iret 39 rfl rfl rfl ⟨rfl, ?_⟩
          refine ⟨?_, ?_, fun a ha => funext fun k => uw_ne (by omega)⟩
          · unfold sp_tog; rw [cI_t (show toC _ _ _ _ from ⟨⟨⟨⟨l, hl, rfl⟩, ⟨f, hf, rfl⟩⟩, by rw [nv_nI (by omega)]; exact ⟨s, hs, rfl⟩⟩, ⟨o, ho, rfl⟩⟩), nv_nI (k := l) (by omega), nv_nI (k := f) (by omega), nv_nI (k := s) (by omega)]; rw [hm1]; first | rw [show q = 1 by omega] | rw [show q = 0 by omega]
          · unfold st_tog; rw [cI_t (show toC _ _ _ _ from ⟨⟨⟨⟨l, hl, rfl⟩, ⟨f, hf, rfl⟩⟩, by rw [nv_nI (by omega)]; exact ⟨s, hs, rfl⟩⟩, ⟨o, ho, rfl⟩⟩), nv_nI (k := l) (by omega), nv_nI (k := f) (by omega), nv_nI (k := s) (by omega)]
            have e := RC_tog h hl hf hs (v := nI o)
            first
              | (rw [show o = 1 by omega] at e ⊢; exact e)
              | (rw [show o = 0 by omega] at e ⊢; exact e)
        · refine Y_iconst 34 rfl (pc2 := 62) rfl (v := nI 1) (by decide) ?_
          refine Y_goto 35 rfl (pc2 := 66) (by decide) ?_
          refine Y_zast 37 rfl (pc2 := 67) rfl (ly_fiB (by omega) (by omega)) rfl (by omega) (sz_lt (by omega)) rfl ?_
          refine Y_iload 38 rfl (pc2 := 69) rfl rfl ?_
          refine Y_iret 39 rfl rfl rfl ⟨rfl, ?_⟩
          refine ⟨?_, ?_, fun a ha => funext fun k => uw_ne (by omega)⟩
          · unfold sp_tog; rw [cI_t (show toC _ _ _ _ from ⟨⟨⟨⟨l, hl, rfl⟩, ⟨f, hf, rfl⟩⟩, by rw [nv_nI (by omega)]; exact ⟨s, hs, rfl⟩⟩, ⟨o, ho, rfl⟩⟩), nv_nI (k := l) (by omega), nv_nI (k := f) (by omega), nv_nI (k := s) (by omega)]; rw [hm1]; first | rw [show q = 1 by omega] | rw [show q = 0 by omega]
          · unfold st_tog; rw [cI_t (show toC _ _ _ _ from ⟨⟨⟨⟨l, hl, rfl⟩, ⟨f, hf, rfl⟩⟩, by rw [nv_nI (by omega)]; exact ⟨s, hs, rfl⟩⟩, ⟨o, ho, rfl⟩⟩), nv_nI (k := l) (by omega), nv_nI (k := f) (by omega), nv_nI (k := s) (by omega)]
            have e := RC_tog h hl hf hs (v := nI o)
            first
              | (rw [show o = 1 by omega] at e ⊢; exact e)
              | (rw [show o = 0 by omega] at e ⊢; exact e)
      · refine Y_iconst 25 rfl (pc2 := 46) rfl (v := nI 1) (by decide) ?_
        refine Y_goto 26 rfl (pc2 := 50) (by decide) ?_
        refine Y_istore 28 rfl (pc2 := 52) rfl (Nat.le_of_ble_eq_true rfl) (ls2 := [some (.ref _), some (.int _), some (.int _), some (.int _), some (.int _), some (.ref _), some (.int _)]) rfl ?_
        refine Y_aload 29 rfl (pc2 := 54) rfl rfl ?_
        refine Y_iload_n 30 rfl (pc2 := 55) rfl rfl ?_
        refine Y_iload 31 rfl (pc2 := 57) rfl rfl ?_
        refine Y_iconst 32 rfl (pc2 := 58) rfl (v := nI 1) (by decide) ?_
        refine Y_icmp_nen 33 rfl (pc2 := 61) rfl (tgt := 65) (by decide) (by omega) (by omega) (fun h58 => ?_) (fun h58 => ?_)
        · refine Y_iconst 36 rfl (pc2 := 66) rfl (v := nI 0) (by decide) ?_
          refine Y_zast 37 rfl (pc2 := 67) rfl (ly_fiB (by omega) (by omega)) rfl (by omega) (sz_lt (by omega)) rfl ?_
          refine Y_iload 38 rfl (pc2 := 69) rfl rfl ?_
          refine Y_iret 39 rfl rfl rfl ⟨rfl, ?_⟩
          refine ⟨?_, ?_, fun a ha => funext fun k => uw_ne (by omega)⟩
          · unfold sp_tog; rw [cI_t (show toC _ _ _ _ from ⟨⟨⟨⟨l, hl, rfl⟩, ⟨f, hf, rfl⟩⟩, by rw [nv_nI (by omega)]; exact ⟨s, hs, rfl⟩⟩, ⟨o, ho, rfl⟩⟩), nv_nI (k := l) (by omega), nv_nI (k := f) (by omega), nv_nI (k := s) (by omega)]; rw [hm1]; first | rw [show q = 1 by omega] | rw [show q = 0 by omega]
          · unfold st_tog; rw [cI_t (show toC _ _ _ _ from ⟨⟨⟨⟨l, hl, rfl⟩, ⟨f, hf, rfl⟩⟩, by rw [nv_nI (by omega)]; exact ⟨s, hs, rfl⟩⟩, ⟨o, ho, rfl⟩⟩), nv_nI (k := l) (by omega), nv_nI (k := f) (by omega), nv_nI (k := s) (by omega)]
            have e := RC_tog h hl hf hs (v := nI o)
            first
              | (rw [show o = 1 by omega] at e ⊢; exact e)
              | (rw [show o = 0 by omega] at e ⊢; exact e)
        · refine Y_iconst 34 rfl (pc2 := 62) rfl (v := nI 1) (by decide) ?_
          refine Y_goto 35 rfl (pc2 := 66) (by decide) ?_
          refine Y_zast 37 rfl (pc2 := 67) rfl (ly_fiB (by omega) (by omega)) rfl (by omega) (sz_lt (by omega)) rfl ?_
          refine Y_iload 38 rfl (pc2 := 69) rfl rfl ?_
          refine Y_iret 39 rfl rfl rfl ⟨rfl, ?_⟩
          refine ⟨?_, ?_, fun a ha => funext fun k => uw_ne (by omega)⟩
          · unfold sp_tog; rw [cI_t (show toC _ _ _ _ from ⟨⟨⟨⟨l, hl, rfl⟩, ⟨f, hf, rfl⟩⟩, by rw [nv_nI (by omega)]; exact ⟨s, hs, rfl⟩⟩, ⟨o, ho, rfl⟩⟩), nv_nI (k := l) (by omega), nv_nI (k := f) (by omega), nv_nI (k := s) (by omega)]; rw [hm1]; first | rw [show q = 1 by omega] | rw [show q = 0 by omega]
          · unfold st_tog; rw [cI_t (show toC _ _ _ _ from ⟨⟨⟨⟨l, hl, rfl⟩, ⟨f, hf, rfl⟩⟩, by rw [nv_nI (by omega)]; exact ⟨s, hs, rfl⟩⟩, ⟨o, ho, rfl⟩⟩), nv_nI (k := l) (by omega), nv_nI (k := f) (by omega), nv_nI (k := s) (by omega)]
            have e := RC_tog h hl hf hs (v := nI o)
            first
              | (rw [show o = 1 by omega] at e ⊢; exact e)
              | (rw [show o = 0 by omega] at e ⊢; exact e)
    · refine Y_ldc 10 rfl (pc2 := 21) rfl kc_gh_75 ?_
      refine Y_iret 11 rfl rfl rfl ⟨rfl, ?_⟩
      first | exact pc_bad h (by unfold sp_tog; rw [cI_f (fun e => h7 e.1)]; rfl) (by unfold st_tog; rw [cI_f (fun e => h7 e.1)]) | exact pc_bad h (by unfold sp_tog; rw [cI_f (fun e => h16 e.2)]; rfl) (by unfold st_tog; rw [cI_f (fun e => h16 e.2)])

set_option maxHeartbeats 400000 in
theorem T_gh_use {G : Nat × (Nat → Int32)} {m : Mm} {S : Mm} (h : RC m S) (w : WF S) {x y z : Int32} : Y G M_gh_use (0, 0) 0 (en_ M_gh_use [.ref (0), .int (x), .int (y), .int (z)]) [] (LAY, m) (qm_ LAY (pc_ (sp_use S x y z) m (st_use S x y z))) := by
  change Y _ _ _ _ [some (.ref _), some (.int _), some (.int _), some (.int _), none] _ _ _
  refine Y_iload_n 0 rfl (pc2 := 1) rfl rfl ?_
  refine Y_iload_n 1 rfl (pc2 := 2) rfl rfl ?_
  refine Y_cS 2 rfl (pc2 := 5) rfl ok_gh_hasFigure lk_gh_127 vs_gh_hasFigure (as := [.int _, .int _]) (rest := []) rfl rfl T_gh_hasFigure ?_
  rintro _ _ ⟨rfl, rfl⟩
  change Y _ _ _ _ _ [.int _] _ _
  refine Y_if_eqb 3 rfl (pc2 := 8) rfl (tgt := 16) (by decide) (fun h5 => ?_) (fun h5 => ?_)
  · refine Y_ldc 8 rfl (pc2 := 18) rfl kc_gh_75 ?_
    refine Y_iret 9 rfl rfl rfl ⟨rfl, ?_⟩
    first | exact pc_bad h (by unfold sp_use; rw [cI_f (fun e => h5 e.1)]; rfl) (by unfold st_use; rw [cI_f (fun e => h5 e.1)]) | exact pc_bad h (by unfold sp_use; rw [cI_f (fun e => h13 e.2)]; rfl) (by unfold st_use; rw [cI_f (fun e => h13 e.2)])
  · obtain ⟨⟨l, hl, rfl⟩, ⟨f, hf, rfl⟩⟩ := h5
    refine Y_iload_n 4 rfl (pc2 := 9) rfl rfl ?_
    refine Y_iconst 5 rfl (pc2 := 10) rfl (v := nI 3) (by decide) ?_
    refine Y_cS 6 rfl (pc2 := 13) rfl ok_gh_isBelow lk_gh_80 vs_gh_isBelow (as := [.int _, .int _]) (rest := []) rfl rfl (T_gh_isBelow (by omega)) ?_
    rintro _ _ ⟨rfl, rfl⟩
    change Y _ _ _ _ _ [.int _] _ _
    refine Y_if_neb 7 rfl (pc2 := 16) rfl (tgt := 19) (by decide) (fun h13 => ?_) (fun h13 => ?_)
    · obtain ⟨k, hk, rfl⟩ := h13
      refine Y_aload_n 10 rfl (pc2 := 20) rfl rfl ?_
      refine Y_getR 11 rfl (pc2 := 23) rfl fl_gh_31 ly_gh (by decide) rfl rfl (by omega) ?_
      refine Y_iload_n 12 rfl (pc2 := 24) rfl rfl ?_
      refine Y_aald 13 rfl (pc2 := 25) rfl ly_ghL (by decide) (fun _ => rfl) rfl (by omega) (by decide) (ly_ghL_at (by omega)) (by omega) ?_
      refine Y_getR 14 rfl (pc2 := 28) rfl fl_gh_158 (ly_le (by omega)) (by decide) rfl rfl (by omega) ?_
      refine Y_iload_n 15 rfl (pc2 := 29) rfl rfl ?_
      refine Y_iald 16 rfl (pc2 := 30) rfl (ly_leU (by omega)) rfl (by omega) (by decide) ?_
      refine Y_top (h.us l k hl hk) ?_
      refine Y_istore 17 rfl (pc2 := 32) rfl (Nat.le_of_ble_eq_true rfl) (ls2 := [some (.ref _), some (.int _), some (.int _), some (.int _), some (.int _)]) rfl ?_
      refine Y_aload_n 18 rfl (pc2 := 33) rfl rfl ?_
      refine Y_getR 19 rfl (pc2 := 36) rfl fl_gh_31 ly_gh (by decide) rfl rfl (by omega) ?_
      refine Y_iload_n 20 rfl (pc2 := 37) rfl rfl ?_
      refine Y_aald 21 rfl (pc2 := 38) rfl ly_ghL (by decide) (fun _ => rfl) rfl (by omega) (by decide) (ly_ghL_at (by omega)) (by omega) ?_
      refine Y_getR 22 rfl (pc2 := 41) rfl fl_gh_158 (ly_le (by omega)) (by decide) rfl rfl (by omega) ?_
      refine Y_iload_n 23 rfl (pc2 := 42) rfl rfl ?_
      refine Y_iload_n 24 rfl (pc2 := 43) rfl rfl ?_
      refine Y_iast 25 rfl (pc2 := 44) rfl (ly_leU (by omega)) rfl (by omega) (by decide) rfl ?_
      refine Y_iload 26 rfl (pc2 := 46) rfl rfl ?_
      refine Y_iret 27 rfl rfl rfl ⟨rfl, ?_⟩
      exact ⟨by unfold sp_use; rw [cI_t (show usC _ _ _ from ⟨⟨⟨l, hl, rfl⟩, ⟨f, hf, rfl⟩⟩, ⟨k, hk, rfl⟩⟩), nv_nI (k := l) (by omega), nv_nI (k := k) (by omega)], by unfold st_use; rw [cI_t (show usC _ _ _ from ⟨⟨⟨l, hl, rfl⟩, ⟨f, hf, rfl⟩⟩, ⟨k, hk, rfl⟩⟩), nv_nI (k := l) (by omega), nv_nI (k := k) (by omega)]; exact RC_use h hl hk, fun a ha => funext fun q => uw_ne (by omega)⟩
    · refine Y_ldc 8 rfl (pc2 := 18) rfl kc_gh_75 ?_
      refine Y_iret 9 rfl rfl rfl ⟨rfl, ?_⟩
      first | exact pc_bad h (by unfold sp_use; rw [cI_f (fun e => h5 e.1)]; rfl) (by unfold st_use; rw [cI_f (fun e => h5 e.1)]) | exact pc_bad h (by unfold sp_use; rw [cI_f (fun e => h13 e.2)]; rfl) (by unfold st_use; rw [cI_f (fun e => h13 e.2)])

set_option maxHeartbeats 400000 in
theorem iR_le {x : Int32} {n : Nat} (hn : n + 1 < 2 ^ 31) : iR x (n + 1) ↔ (¬ x < 0 ∧ x ≤ nI n) := by
  constructor
  · rintro ⟨k, hk, rfl⟩
    exact ⟨nI_pos (by omega), (nI_leI (by omega) (by omega)).mpr (by omega)⟩
  · rintro ⟨h1, h2⟩
    obtain ⟨j, hj, rfl⟩ := nI_of h1
    have := (nI_leI hj (by omega)).mp h2
    exact ⟨j, by omega, rfl⟩

set_option maxHeartbeats 400000 in
theorem T_gh_trim {G : Nat × (Nat → Int32)} {m : Mm} {S : Mm} (h : RC m S) (w : WF S) {x : Int32} : Y G M_gh_trim (0, 0) 0 (en_ M_gh_trim [.ref (0), .int (x)]) [] (LAY, m) (qm_ LAY (pc_ (sp_trim S x) m (st_trim S x))) := by
  change Y _ _ _ _ [some (.ref _), some (.int _)] _ _ _
  have ht := w.tp.2
  have hI := iR_le (x := x) (n := tpd S) (by omega)
  refine Y_iload_n 0 rfl (pc2 := 1) rfl rfl ?_
  refine Y_if_lt 1 rfl (pc2 := 4) rfl (tgt := 15) (by decide) (fun h1 => ?_) (fun h1 => ?_)
  · refine Y_ldc 7 rfl (pc2 := 17) rfl kc_gh_75 ?_
    refine Y_iret 8 rfl rfl rfl ⟨rfl, ?_⟩
    first | exact pc_bad h (by unfold sp_trim; rw [cI_f (fun e => (hI.mp e).1 h1)]; rfl) (by unfold st_trim; rw [cI_f (fun e => (hI.mp e).1 h1)]) | exact pc_bad h (by unfold sp_trim; rw [cI_f (fun e => h12 (hI.mp e).2)]; rfl) (by unfold st_trim; rw [cI_f (fun e => h12 (hI.mp e).2)])
  · refine Y_iload_n 2 rfl (pc2 := 5) rfl rfl ?_
    refine Y_aload_n 3 rfl (pc2 := 6) rfl rfl ?_
    refine Y_getR 4 rfl (pc2 := 9) rfl fl_gh_10 ly_gh (by decide) rfl rfl (by omega) ?_
    refine Y_getI 5 rfl (pc2 := 12) rfl fl_gh_67 ly_ta (by decide) rfl ?_
    refine Y_top (h.tp.trans w.tp.1) ?_
    refine Y_icmp_le 6 rfl (pc2 := 15) rfl (tgt := 18) (by decide) (fun h12 => ?_) (fun h12 => ?_)
    · refine Y_aload_n 9 rfl (pc2 := 19) rfl rfl ?_
      refine Y_getR 10 rfl (pc2 := 22) rfl fl_gh_10 ly_gh (by decide) rfl rfl (by omega) ?_
      refine Y_iload_n 11 rfl (pc2 := 23) rfl rfl ?_
      refine Y_putI 12 rfl (pc2 := 26) rfl fl_gh_67 ly_ta (by decide) ⟨rfl, rfl⟩ ⟨_, _, _, rfl, rfl⟩ rfl ?_
      refine Y_iload_n 13 rfl (pc2 := 27) rfl rfl ?_
      refine Y_iret 14 rfl rfl rfl ⟨rfl, ?_⟩
      exact ⟨by unfold sp_trim; rw [cI_t (hI.mpr ⟨h1, h12⟩)], by unfold st_trim; rw [cI_t (hI.mpr ⟨h1, h12⟩)]; exact RC_trim h, fun a ha => funext fun q => uw_ne (by omega)⟩
    · refine Y_ldc 7 rfl (pc2 := 17) rfl kc_gh_75 ?_
      refine Y_iret 8 rfl rfl rfl ⟨rfl, ?_⟩
      first | exact pc_bad h (by unfold sp_trim; rw [cI_f (fun e => (hI.mp e).1 h1)]; rfl) (by unfold st_trim; rw [cI_f (fun e => (hI.mp e).1 h1)]) | exact pc_bad h (by unfold sp_trim; rw [cI_f (fun e => h12 (hI.mp e).2)]; rfl) (by unfold st_trim; rw [cI_f (fun e => h12 (hI.mp e).2)])
end
section
/-! the class: parts, signals, sheets -/
def flr (row : Nat → Int32) (n : Nat) (v : Int32) : Nat → Int32 := fun k => if k < n then v else row k
set_option maxHeartbeats 400000 in
theorem flr_s {m : Mm} {a i : Nat} {v : Int32} : uw_ (ur_ m a (flr (m a) i v)) a i v = ur_ m a (flr (m a) (i + 1) v) := by
  funext b k
  by_cases hb : b = a
  · subst hb
    by_cases hk : k = i
    · subst hk
      rw [uw_same]
      simp [ur_, flr]
    · rw [uw_ne (by omega)]
      simp only [ur_, flr, if_true]
      by_cases h1 : k < i
      · rw [if_pos h1, if_pos (by omega)]
      · rw [if_neg h1, if_neg (by omega)]
  · rw [uw_ne (by omega)]
    simp [ur_, hb]
set_option maxHeartbeats 400000 in
theorem flr_0 {m : Mm} {a : Nat} {v : Int32} : m = ur_ m a (flr (m a) 0 v) := by
  funext b k
  by_cases hb : b = a
  · subst hb; simp [ur_, flr]
  · simp [ur_, hb]
set_option maxHeartbeats 400000 in
theorem ur_same {m : Mm} {a k : Nat} {row : Nat → Int32} : ur_ m a row a k = row k := by simp [ur_]
set_option maxHeartbeats 400000 in
theorem ur_ne {m : Mm} {a b : Nat} {row : Nat → Int32} (h : ¬ b = a) : ur_ m a row b = m b := by simp [ur_, h]
def pf_ (m : Mm) : Option Value → Mm → Prop := fun v m' => v = none ∧ m = m'

set_option maxHeartbeats 400000 in
theorem L_ar_filli {G : Nat × (Nat → Int32)} {lay : Ly} {m : Mm} {a L : Nat} {v : Int32} (ha : lay[a]? = some (12, L, [])) (hL : L < 2 ^ 31)  : ∀ i, i ≤ L → Y G M_ar_filli (0, 0) 5 [some (.ref a), some (.int v), some (.int (nI i)), some (.int (nI L))] [] (lay, ur_ m a (flr (m a) i v)) (qm_ lay (pf_ (ur_ m a (flr (m a) L v)))) := by
  refine ind_ (fun i hi ih => ?_)
  refine Y_iload_n 5 rfl (pc2 := 6) rfl rfl ?_
  refine Y_iload_n 6 rfl (pc2 := 7) rfl rfl ?_
  refine Y_icmp_gen 7 rfl (pc2 := 10) rfl (tgt := 20) (by decide) (by omega) (by omega) (fun h7 => ?_) (fun h7 => ?_)
  · refine Y_vret 14 rfl rfl ⟨rfl, ?_⟩
    exact ⟨rfl, by rw [show i = L by omega]⟩
  · refine Y_aload_n 8 rfl (pc2 := 11) rfl rfl ?_
    refine Y_iload_n 9 rfl (pc2 := 12) rfl rfl ?_
    refine Y_iload_n 10 rfl (pc2 := 13) rfl rfl ?_
    refine Y_iast 11 rfl (pc2 := 14) rfl ha rfl (by omega) hL rfl ?_
    refine Y_iinc 12 rfl (pc2 := 17) rfl rfl (nI_inc _ 1) (ls2 := [some (.ref _), some (.int _), some (.int _), some (.int _)]) rfl ?_
    refine Y_goto 13 rfl (pc2 := 5) (by decide) ?_
    exact Y_mem flr_s (ih (i + 1) (by omega) (by omega))

set_option maxHeartbeats 400000 in
theorem T_ar_filli {G : Nat × (Nat → Int32)} {lay : Ly} {m : Mm} {a L : Nat} {v : Int32} (ha : lay[a]? = some (12, L, [])) (hL : L < 2 ^ 31)  : Y G M_ar_filli (0, 0) 0 (en_ M_ar_filli [.ref a, .int v]) [] (lay, m) (qm_ lay (pf_ (ur_ m a (flr (m a) L v)))) := by
  change Y _ _ _ _ [some (.ref _), some (.int _), none, none] _ _ _
  refine Y_iconst 0 rfl (pc2 := 1) rfl (v := nI 0) (by decide) ?_
  refine Y_istore_n 1 rfl (pc2 := 2) rfl (Nat.le_of_ble_eq_true rfl) (ls2 := [some (.ref _), some (.int _), some (.int _), none]) rfl ?_
  refine Y_aload_n 2 rfl (pc2 := 3) rfl rfl ?_
  refine Y_alen_i 3 rfl (pc2 := 4) rfl ha rfl ?_
  refine Y_istore_n 4 rfl (pc2 := 5) rfl (Nat.le_of_ble_eq_true rfl) (ls2 := [some (.ref _), some (.int _), some (.int _), some (.int _)]) rfl ?_
  exact Y_mem flr_0 (L_ar_filli ha hL 0 (Nat.zero_le _))

set_option maxHeartbeats 400000 in
theorem L_ar_fillb {G : Nat × (Nat → Int32)} {lay : Ly} {m : Mm} {a L : Nat} {v : Int32} (ha : lay[a]? = some (11, L, [])) (hL : L < 2 ^ 31) (hv : vp_nar .byte v = v) : ∀ i, i ≤ L → Y G M_ar_fillb (0, 0) 5 [some (.ref a), some (.int v), some (.int (nI i)), some (.int (nI L))] [] (lay, ur_ m a (flr (m a) i v)) (qm_ lay (pf_ (ur_ m a (flr (m a) L v)))) := by
  refine ind_ (fun i hi ih => ?_)
  refine Y_iload_n 5 rfl (pc2 := 6) rfl rfl ?_
  refine Y_iload_n 6 rfl (pc2 := 7) rfl rfl ?_
  refine Y_icmp_gen 7 rfl (pc2 := 10) rfl (tgt := 20) (by decide) (by omega) (by omega) (fun h7 => ?_) (fun h7 => ?_)
  · refine Y_vret 14 rfl rfl ⟨rfl, ?_⟩
    exact ⟨rfl, by rw [show i = L by omega]⟩
  · refine Y_aload_n 8 rfl (pc2 := 11) rfl rfl ?_
    refine Y_iload_n 9 rfl (pc2 := 12) rfl rfl ?_
    refine Y_iload_n 10 rfl (pc2 := 13) rfl rfl ?_
    refine Y_bast 11 rfl (pc2 := 14) rfl ha rfl (by omega) hL hv ?_
    refine Y_iinc 12 rfl (pc2 := 17) rfl rfl (nI_inc _ 1) (ls2 := [some (.ref _), some (.int _), some (.int _), some (.int _)]) rfl ?_
    refine Y_goto 13 rfl (pc2 := 5) (by decide) ?_
    exact Y_mem flr_s (ih (i + 1) (by omega) (by omega))

set_option maxHeartbeats 400000 in
theorem T_ar_fillb {G : Nat × (Nat → Int32)} {lay : Ly} {m : Mm} {a L : Nat} {v : Int32} (ha : lay[a]? = some (11, L, [])) (hL : L < 2 ^ 31) (hv : vp_nar .byte v = v) : Y G M_ar_fillb (0, 0) 0 (en_ M_ar_fillb [.ref a, .int v]) [] (lay, m) (qm_ lay (pf_ (ur_ m a (flr (m a) L v)))) := by
  change Y _ _ _ _ [some (.ref _), some (.int _), none, none] _ _ _
  refine Y_iconst 0 rfl (pc2 := 1) rfl (v := nI 0) (by decide) ?_
  refine Y_istore_n 1 rfl (pc2 := 2) rfl (Nat.le_of_ble_eq_true rfl) (ls2 := [some (.ref _), some (.int _), some (.int _), none]) rfl ?_
  refine Y_aload_n 2 rfl (pc2 := 3) rfl rfl ?_
  refine Y_alen_b 3 rfl (pc2 := 4) rfl ha rfl ?_
  refine Y_istore_n 4 rfl (pc2 := 5) rfl (Nat.le_of_ble_eq_true rfl) (ls2 := [some (.ref _), some (.int _), some (.int _), some (.int _)]) rfl ?_
  exact Y_mem flr_0 (L_ar_fillb ha hL hv 0 (Nat.zero_le _))

set_option maxHeartbeats 400000 in
theorem RC_part {m S : Mm} (h : RC m S) (w : WF S) {n : Nat} {x t l1 l2 : Int32} (hn : n < 16) (hv : l1 = oC l2) : RC (uw_ (uw_ (uw_ (uw_ m 9 n x) 10 n t) 11 n l1) 8 4 (nI (n + 1))) (uw_ (uw_ (uw_ (uw_ S 160 n x) 161 n t) 162 n l2) 153 6 (nI (n + 1))) := by
  refine ⟨fun c hc => ?_, fun c b hc hb => ?_, fun c b hc hb => ?_, fun c b hc hb => ?_, fun c b hc hb => ?_, fun l hl => ?_, fun l f g s hl hf hg hs => ?_, fun l f s hl hf hs => ?_, fun l k hl hk => ?_, ?_, fun p hp => ?_, fun p hp => ?_, fun p hp => ?_, fun r hr => ?_, ?_, ?_, fun i hi => ?_, fun s hs => ?_, fun s i hs hi => ?_⟩
  · (repeat rw [uw_ne (by omega)]); exact h.b c hc
  · (repeat rw [uw_ne (by omega)]); exact h.n c b hc hb
  · (repeat rw [uw_ne (by omega)]); exact h.g c b hc hb
  · (repeat rw [uw_ne (by omega)]); exact h.t c b hc hb
  · (repeat rw [uw_ne (by omega)]); exact h.u c b hc hb
  · (repeat rw [uw_ne (by omega)]); exact h.l l hl
  · (repeat rw [uw_ne (by omega)]); exact h.r l f g s hl hf hg hs
  · (repeat rw [uw_ne (by omega)]); exact h.m l f s hl hf hs
  · (repeat rw [uw_ne (by omega)]); exact h.us l k hl hk
  · rw [uw_same, uw_same]
  · by_cases e : p = n
    · subst e
      rw [uw_ne (by omega), uw_ne (by omega), uw_ne (by omega), uw_same, uw_ne (by omega), uw_ne (by omega), uw_ne (by omega), uw_same]
    · rw [uw_ne (by omega), uw_ne (by omega), uw_ne (by omega), uw_ne (by omega), uw_ne (by omega), uw_ne (by omega), uw_ne (by omega), uw_ne (by omega)]; exact h.c p hp
  · by_cases e : p = n
    · subst e
      rw [uw_ne (by omega), uw_ne (by omega), uw_same, uw_ne (by omega), uw_ne (by omega), uw_same]
    · rw [uw_ne (by omega), uw_ne (by omega), uw_ne (by omega), uw_ne (by omega), uw_ne (by omega), uw_ne (by omega), uw_ne (by omega), uw_ne (by omega)]; exact h.pt p hp
  · by_cases e : p = n
    · subst e
      rw [uw_ne (by omega), uw_same, uw_ne (by omega), uw_same]; exact hv
    · rw [uw_ne (by omega), uw_ne (by omega), uw_ne (by omega), uw_ne (by omega), uw_ne (by omega), uw_ne (by omega), uw_ne (by omega), uw_ne (by omega)]; exact h.pl p hp
  · (repeat rw [uw_ne (by omega)]); exact h.sg r hr
  · (repeat rw [uw_ne (by omega)]); exact h.sn 
  · (repeat rw [uw_ne (by omega)]); exact h.tp 
  · (repeat rw [uw_ne (by omega)]); exact h.tv i hi
  · (repeat rw [uw_ne (by omega)]); exact h.sp s hs
  · (repeat rw [uw_ne (by omega)]); exact h.sb s i hs hi

set_option maxHeartbeats 400000 in
theorem WF_part {S : Mm} (w : WF S) {c0 t0 : Nat} {l2 : Int32} (hn : pn S < 16) (hc0 : c0 < 4) (ht0 : 1 ≤ t0 ∧ t0 ≤ 9) (hl0 : oR l2 4) : WF (uw_ (uw_ (uw_ (uw_ S 160 (pn S) (nI c0)) 161 (pn S) (nI t0)) 162 (pn S) l2) 153 6 (nI (pn S + 1))) := by
  refine ⟨fun c hc => ?_, fun i hi => ?_, fun i hi => ?_, fun i hi => ?_, fun i hi => ?_, fun l k hl hk => ?_, ?_, fun p hp => ?_, fun p hp => ?_, fun p hp => ?_, fun p hp => ?_, fun r hr => ?_, ?_, fun i hi => ?_, fun s hs => ?_, fun i hi => ?_, ?_⟩
  · exact w.b c hc
  · exact w.n i hi
  · exact w.g i hi
  · exact w.s i hi
  · exact w.m i hi
  · exact w.u l k hl hk
  · unfold pn
    rw [uw_same, nv_nI (by unfold pn at hn; omega)]; exact ⟨rfl, by unfold pn at hn; omega⟩
  · unfold pC
    by_cases e : p = pn S
    · rw [e, uw_ne (by omega), uw_ne (by omega), uw_ne (by omega), uw_same, nv_nI (by omega)]; exact ⟨rfl, hc0⟩
    · rw [uw_ne (by omega), uw_ne (by omega), uw_ne (by omega), uw_ne (by omega)]; exact w.c p hp
  · unfold pT
    by_cases e : p = pn S
    · rw [e, uw_ne (by omega), uw_ne (by omega), uw_same, nv_nI (by omega)]; exact ⟨rfl, ht0.2⟩
    · rw [uw_ne (by omega), uw_ne (by omega), uw_ne (by omega), uw_ne (by omega)]; exact w.t p hp
  · have hp2 : p < pn S + 1 := by
      have e : pn (uw_ (uw_ (uw_ (uw_ S 160 (pn S) (nI c0)) 161 (pn S) (nI t0)) 162 (pn S) l2) 153 6 (nI (pn S + 1))) = pn S + 1 := by show nv _ = _; rw [uw_same, nv_nI (by omega)]
      rw [e] at hp; exact hp
    unfold pT
    by_cases e : p = pn S
    · rw [e, uw_ne (by omega), uw_ne (by omega), uw_same, nv_nI (by omega)]; exact ht0.1
    · rw [uw_ne (by omega), uw_ne (by omega), uw_ne (by omega), uw_ne (by omega)]; exact w.t1 p (by omega)
  · by_cases e : p = pn S
    · rw [e, uw_ne (by omega), uw_same]; exact hl0
    · rw [uw_ne (by omega), uw_ne (by omega), uw_ne (by omega), uw_ne (by omega)]; exact w.l p hp
  · exact w.r r hr
  · exact w.tp 
  · exact w.tv i hi
  · exact w.pl s hs
  · exact w.k i hi
  · exact w.sg 

def lvO (l : Int32) : Prop := l = NONE_ ∨ iR l 4
def lvM (l : Int32) : Int32 := if l = NONE_ then -1 else l
set_option maxHeartbeats 400000 in
theorem lvM_or {l : Int32} (h : lvO l) : oR (lvM l) 4 := by
  unfold lvM
  split
  · exact Or.inl rfl
  · rename_i e
    exact Or.inr (h.resolve_left e)
set_option maxHeartbeats 400000 in
theorem lvM_oC {l : Int32} (h : lvO l) : l = oC (lvM l) := by
  unfold lvM
  split
  · rename_i e; rw [e]; rfl
  · rename_i e
    exact (oC_id (iR_pos (by decide) (h.resolve_left e))).symm
def paC (x t l : Int32) : Prop := iR x 4 ∧ (nI 1 ≤ t ∧ t ≤ nI 9) ∧ lvO l
noncomputable def sp_part (S : Mm) (x t l : Int32) : Int32 := cI (paC x t l) (if pn S = 16 then FULL_ else nI (pn S + 1)) BAD_
noncomputable def st_part (S : Mm) (x t l : Int32) : Mm := cI (paC x t l ∧ ¬ pn S = 16) (uw_ (uw_ (uw_ (uw_ S 160 (pn S) x) 161 (pn S) t) 162 (pn S) (lvM l)) 153 6 (nI (pn S + 1))) S
def siC (r l : Int32) : Prop := iR r 144 ∧ lvO l
def siF (S : Mm) (r l : Int32) : Prop := S 163 (nv r) < 0 ∧ ¬ l = NONE_ ∧ sigs S = 20
noncomputable def sp_signal (S : Mm) (r l : Int32) : Int32 := cI (siC r l) (cI (siF S r l) FULL_ (oC (S 163 (nv r)))) BAD_
noncomputable def st_signal (S : Mm) (r l : Int32) : Mm := cI (siC r l ∧ ¬ siF S r l) (uw_ S 163 (nv r) (lvM l)) S

set_option maxHeartbeats 400000 in
theorem T_pi_addPart {G : Nat × (Nat → Int32)} {m : Mm} {n : Nat} {x t l : Int32} (hn : n < 16) (hm : m 8 4 = nI n) : Y G M_pi_addPart (0, 0) 0 (en_ M_pi_addPart [.ref (8), .int (x), .int (t), .int (l)]) [] (LAY, m) (qm_ LAY (pf_ (uw_ (uw_ (uw_ (uw_ m 9 n x) 10 n t) 11 n l) 8 4 (nI (n + 1))))) := by
  change Y _ _ _ _ [some (.ref _), some (.int _), some (.int _), some (.int _)] _ _ _
  refine Y_aload_n 0 rfl (pc2 := 1) rfl rfl ?_
  refine Y_getI 1 rfl (pc2 := 4) rfl fl_pi_24 ly_pi (by decide) rfl ?_
  refine Y_top hm ?_
  refine Y_bipush 2 rfl (pc2 := 6) rfl (v := nI 16) (by decide) ?_
  refine Y_icmp_gen 3 rfl (pc2 := 9) rfl (tgt := 49) (by decide) (by omega) (by omega) (fun h6 => ?_) (fun h6 => ?_)
  · refine Y_vret 28 rfl rfl ⟨rfl, ?_⟩
    first | omega | exact ⟨rfl, rfl⟩
  · refine Y_aload_n 4 rfl (pc2 := 10) rfl rfl ?_
    refine Y_getR 5 rfl (pc2 := 13) rfl fl_pi_9 ly_pi (by decide) rfl rfl (by omega) ?_
    refine Y_aload_n 6 rfl (pc2 := 14) rfl rfl ?_
    refine Y_getI 7 rfl (pc2 := 17) rfl fl_pi_24 ly_pi (by decide) rfl ?_
    refine Y_top hm ?_
    refine Y_iload_n 8 rfl (pc2 := 18) rfl rfl ?_
    refine Y_iast 9 rfl (pc2 := 19) rfl ly_piC rfl (by omega) (by decide) rfl ?_
    refine Y_aload_n 10 rfl (pc2 := 20) rfl rfl ?_
    refine Y_getR 11 rfl (pc2 := 23) rfl fl_pi_15 ly_pi (by decide) rfl rfl (by omega) ?_
    refine Y_aload_n 12 rfl (pc2 := 24) rfl rfl ?_
    refine Y_getI 13 rfl (pc2 := 27) rfl fl_pi_24 ly_pi (by decide) rfl ?_
    refine Y_top ((uw_ne (by omega)).trans hm) ?_
    refine Y_iload_n 14 rfl (pc2 := 28) rfl rfl ?_
    refine Y_iast 15 rfl (pc2 := 29) rfl ly_piT rfl (by omega) (by decide) rfl ?_
    refine Y_aload_n 16 rfl (pc2 := 30) rfl rfl ?_
    refine Y_getR 17 rfl (pc2 := 33) rfl fl_pi_18 ly_pi (by decide) rfl rfl (by omega) ?_
    refine Y_aload_n 18 rfl (pc2 := 34) rfl rfl ?_
    refine Y_getI 19 rfl (pc2 := 37) rfl fl_pi_24 ly_pi (by decide) rfl ?_
    refine Y_top ((uw_ne (by omega)).trans ((uw_ne (by omega)).trans hm)) ?_
    refine Y_iload_n 20 rfl (pc2 := 38) rfl rfl ?_
    refine Y_iast 21 rfl (pc2 := 39) rfl ly_piL rfl (by omega) (by decide) rfl ?_
    refine Y_aload_n 22 rfl (pc2 := 40) rfl rfl ?_
    refine Y_dup 23 rfl (pc2 := 41) rfl rfl ?_
    refine Y_getI 24 rfl (pc2 := 44) rfl fl_pi_24 ly_pi (by decide) rfl ?_
    refine Y_top ((uw_ne (by omega)).trans ((uw_ne (by omega)).trans ((uw_ne (by omega)).trans hm))) ?_
    refine Y_iconst 25 rfl (pc2 := 45) rfl (v := nI 1) (by decide) ?_
    refine Y_iadd 26 rfl (pc2 := 46) rfl ?_
    refine Y_top (nI_add _ _) ?_
    refine Y_putI 27 rfl (pc2 := 49) rfl fl_pi_24 ly_pi (by decide) ⟨rfl, rfl⟩ ⟨_, _, _, rfl, rfl⟩ rfl ?_
    refine Y_vret 28 rfl rfl ⟨rfl, ?_⟩
    first | omega | exact ⟨rfl, rfl⟩

set_option maxHeartbeats 400000 in
theorem T_gh_part {G : Nat × (Nat → Int32)} {m : Mm} {S : Mm} (h : RC m S) (w : WF S) {x t l : Int32} : Y G M_gh_part (0, 0) 0 (en_ M_gh_part [.ref (0), .int (x), .int (t), .int (l)]) [] (LAY, m) (qm_ LAY (pc_ (sp_part S x t l) m (st_part S x t l))) := by
  change Y _ _ _ _ [some (.ref _), some (.int _), some (.int _), some (.int _)] _ _ _
  have hp := w.p.2
  refine Y_iload_n 0 rfl (pc2 := 1) rfl rfl ?_
  refine Y_iconst 1 rfl (pc2 := 2) rfl (v := nI 4) (by decide) ?_
  refine Y_cS 2 rfl (pc2 := 5) rfl ok_gh_isBelow lk_gh_80 vs_gh_isBelow (as := [.int _, .int _]) (rest := []) rfl rfl (T_gh_isBelow (by omega)) ?_
  rintro _ _ ⟨rfl, rfl⟩
  change Y _ _ _ _ _ [.int _] _ _
  refine Y_if_eqb 3 rfl (pc2 := 8) rfl (tgt := 26) (by decide) (fun h5 => ?_) (fun h5 => ?_)
  · refine Y_ldc 13 rfl (pc2 := 28) rfl kc_gh_75 ?_
    refine Y_iret 14 rfl rfl rfl ⟨rfl, ?_⟩
    first | exact pc_bad h (by unfold sp_part; rw [cI_f (fun e => h5 e.1)]; rfl) (by unfold st_part; rw [cI_f (fun e => h5 e.1.1)]) | exact pc_bad h (by unfold sp_part; rw [cI_f (fun e => Int32.not_lt.mpr e.2.1.1 h10)]; rfl) (by unfold st_part; rw [cI_f (fun e => Int32.not_lt.mpr e.1.2.1.1 h10)]) | exact pc_bad h (by unfold sp_part; rw [cI_f (fun e => Int32.not_lt.mpr e.2.1.2 h16)]; rfl) (by unfold st_part; rw [cI_f (fun e => Int32.not_lt.mpr e.1.2.1.2 h16)]) | exact pc_bad h (by unfold sp_part; rw [cI_f (fun e => h23 e.2.2)]; rfl) (by unfold st_part; rw [cI_f (fun e => h23 e.1.2.2)])
  · refine Y_iload_n 4 rfl (pc2 := 9) rfl rfl ?_
    refine Y_iconst 5 rfl (pc2 := 10) rfl (v := nI 1) (by decide) ?_
    refine Y_icmp_lt 6 rfl (pc2 := 13) rfl (tgt := 26) (by decide) (fun h10 => ?_) (fun h10 => ?_)
    · refine Y_ldc 13 rfl (pc2 := 28) rfl kc_gh_75 ?_
      refine Y_iret 14 rfl rfl rfl ⟨rfl, ?_⟩
      first | exact pc_bad h (by unfold sp_part; rw [cI_f (fun e => h5 e.1)]; rfl) (by unfold st_part; rw [cI_f (fun e => h5 e.1.1)]) | exact pc_bad h (by unfold sp_part; rw [cI_f (fun e => Int32.not_lt.mpr e.2.1.1 h10)]; rfl) (by unfold st_part; rw [cI_f (fun e => Int32.not_lt.mpr e.1.2.1.1 h10)]) | exact pc_bad h (by unfold sp_part; rw [cI_f (fun e => Int32.not_lt.mpr e.2.1.2 h16)]; rfl) (by unfold st_part; rw [cI_f (fun e => Int32.not_lt.mpr e.1.2.1.2 h16)]) | exact pc_bad h (by unfold sp_part; rw [cI_f (fun e => h23 e.2.2)]; rfl) (by unfold st_part; rw [cI_f (fun e => h23 e.1.2.2)])
    · refine Y_iload_n 7 rfl (pc2 := 14) rfl rfl ?_
      refine Y_bipush 8 rfl (pc2 := 16) rfl (v := nI 9) (by decide) ?_
      refine Y_icmp_gt 9 rfl (pc2 := 19) rfl (tgt := 26) (by decide) (fun h16 => ?_) (fun h16 => ?_)
      · refine Y_ldc 13 rfl (pc2 := 28) rfl kc_gh_75 ?_
        refine Y_iret 14 rfl rfl rfl ⟨rfl, ?_⟩
        first | exact pc_bad h (by unfold sp_part; rw [cI_f (fun e => h5 e.1)]; rfl) (by unfold st_part; rw [cI_f (fun e => h5 e.1.1)]) | exact pc_bad h (by unfold sp_part; rw [cI_f (fun e => Int32.not_lt.mpr e.2.1.1 h10)]; rfl) (by unfold st_part; rw [cI_f (fun e => Int32.not_lt.mpr e.1.2.1.1 h10)]) | exact pc_bad h (by unfold sp_part; rw [cI_f (fun e => Int32.not_lt.mpr e.2.1.2 h16)]; rfl) (by unfold st_part; rw [cI_f (fun e => Int32.not_lt.mpr e.1.2.1.2 h16)]) | exact pc_bad h (by unfold sp_part; rw [cI_f (fun e => h23 e.2.2)]; rfl) (by unfold st_part; rw [cI_f (fun e => h23 e.1.2.2)])
      · refine Y_iload_n 10 rfl (pc2 := 20) rfl rfl ?_
        refine Y_cS 11 rfl (pc2 := 23) rfl ok_gh_isLevelOrNone lk_gh_161 vs_gh_isLevelOrNone (as := [.int _]) (rest := []) rfl rfl T_gh_isLevelOrNone ?_
        rintro _ _ ⟨rfl, rfl⟩
        change Y _ _ _ _ _ [.int _] _ _
        refine Y_if_neb 12 rfl (pc2 := 26) rfl (tgt := 29) (by decide) (fun h23 => ?_) (fun h23 => ?_)
        · have hC : paC x t l := ⟨h5, ⟨Int32.not_lt.mp h10, Int32.not_lt.mp h16⟩, h23⟩
          refine Y_aload_n 15 rfl (pc2 := 30) rfl rfl ?_
          refine Y_getR 16 rfl (pc2 := 33) rfl fl_gh_38 ly_gh (by decide) rfl rfl (by omega) ?_
          refine Y_getI 17 rfl (pc2 := 36) rfl fl_gh_164 ly_pi (by decide) rfl ?_
          refine Y_top (h.p.trans w.p.1) ?_
          refine Y_bipush 18 rfl (pc2 := 38) rfl (v := nI 16) (by decide) ?_
          refine Y_icmp_ltn 19 rfl (pc2 := 41) rfl (tgt := 44) (by decide) (by omega) (by omega) (fun h38 => ?_) (fun h38 => ?_)
          · refine Y_aload_n 22 rfl (pc2 := 45) rfl rfl ?_
            refine Y_getR 23 rfl (pc2 := 48) rfl fl_gh_38 ly_gh (by decide) rfl rfl (by omega) ?_
            refine Y_iload_n 24 rfl (pc2 := 49) rfl rfl ?_
            refine Y_iload_n 25 rfl (pc2 := 50) rfl rfl ?_
            refine Y_iload_n 26 rfl (pc2 := 51) rfl rfl ?_
            refine Y_cV 27 rfl (pc2 := 54) rfl ok_pi_addPart lk_gh_167 vi_pi_addPart ly_pi rfl (by decide) rfl (as := [.int _, .int _, .int _]) (rest := []) rfl rfl (T_pi_addPart (n := pn S) (by omega) (h.p.trans w.p.1)) ?_
            rintro _ _ ⟨rfl, rfl⟩
            change Y _ _ _ _ _ [] _ _
            refine Y_aload_n 28 rfl (pc2 := 55) rfl rfl ?_
            refine Y_getR 29 rfl (pc2 := 58) rfl fl_gh_38 ly_gh (by decide) rfl rfl (by omega) ?_
            refine Y_getI 30 rfl (pc2 := 61) rfl fl_gh_164 ly_pi (by decide) rfl ?_
            refine Y_top (uw_same) ?_
            refine Y_iret 31 rfl rfl rfl ⟨rfl, ?_⟩
            exact ⟨by unfold sp_part; rw [cI_t hC, if_neg (by omega)], by unfold st_part; rw [cI_t ⟨hC, by omega⟩]; exact RC_part h w (by omega) (lvM_oC h23), fun a ha => funext fun q => by show uw_ _ _ _ _ _ _ = _; rw [uw_ne (by omega), uw_ne (by omega), uw_ne (by omega), uw_ne (by omega)]⟩
          · refine Y_ldc 20 rfl (pc2 := 43) rfl kc_gh_71 ?_
            refine Y_iret 21 rfl rfl rfl ⟨rfl, ?_⟩
            exact pc_bad h (by unfold sp_part; rw [cI_t hC, if_pos (by omega)]; rfl) (by unfold st_part; rw [cI_f (fun e => e.2 (by omega))])
        · refine Y_ldc 13 rfl (pc2 := 28) rfl kc_gh_75 ?_
          refine Y_iret 14 rfl rfl rfl ⟨rfl, ?_⟩
          first | exact pc_bad h (by unfold sp_part; rw [cI_f (fun e => h5 e.1)]; rfl) (by unfold st_part; rw [cI_f (fun e => h5 e.1.1)]) | exact pc_bad h (by unfold sp_part; rw [cI_f (fun e => Int32.not_lt.mpr e.2.1.1 h10)]; rfl) (by unfold st_part; rw [cI_f (fun e => Int32.not_lt.mpr e.1.2.1.1 h10)]) | exact pc_bad h (by unfold sp_part; rw [cI_f (fun e => Int32.not_lt.mpr e.2.1.2 h16)]; rfl) (by unfold st_part; rw [cI_f (fun e => Int32.not_lt.mpr e.1.2.1.2 h16)]) | exact pc_bad h (by unfold sp_part; rw [cI_f (fun e => h23 e.2.2)]; rfl) (by unfold st_part; rw [cI_f (fun e => h23 e.1.2.2)])

set_option maxHeartbeats 400000 in
theorem RC_signal {m S : Mm} (h : RC m S) (w : WF S) {r0 : Nat} {l1 l2 : Int32} (hr0 : r0 < 144) (hv : l1 = oC l2) (hl : oR l2 4) : RC (uw_ (uw_ m 12 r0 l1) 8 5 (nI (cnt (fun i => ¬ uw_ m 12 r0 l1 12 i = NONE_) 144))) (uw_ S 163 r0 l2) := by
  refine ⟨fun c hc => ?_, fun c b hc hb => ?_, fun c b hc hb => ?_, fun c b hc hb => ?_, fun c b hc hb => ?_, fun l hl => ?_, fun l f g s hl hf hg hs => ?_, fun l f s hl hf hs => ?_, fun l k hl hk => ?_, ?_, fun p hp => ?_, fun p hp => ?_, fun p hp => ?_, fun r hr => ?_, ?_, ?_, fun i hi => ?_, fun s hs => ?_, fun s i hs hi => ?_⟩
  · (repeat rw [uw_ne (by omega)]); exact h.b c hc
  · (repeat rw [uw_ne (by omega)]); exact h.n c b hc hb
  · (repeat rw [uw_ne (by omega)]); exact h.g c b hc hb
  · (repeat rw [uw_ne (by omega)]); exact h.t c b hc hb
  · (repeat rw [uw_ne (by omega)]); exact h.u c b hc hb
  · (repeat rw [uw_ne (by omega)]); exact h.l l hl
  · (repeat rw [uw_ne (by omega)]); exact h.r l f g s hl hf hg hs
  · (repeat rw [uw_ne (by omega)]); exact h.m l f s hl hf hs
  · (repeat rw [uw_ne (by omega)]); exact h.us l k hl hk
  · (repeat rw [uw_ne (by omega)]); exact h.p 
  · (repeat rw [uw_ne (by omega)]); exact h.c p hp
  · (repeat rw [uw_ne (by omega)]); exact h.pt p hp
  · (repeat rw [uw_ne (by omega)]); exact h.pl p hp
  · by_cases e : r = r0
    · rw [e, uw_ne (by omega), uw_same, uw_same]; exact hv
    · rw [uw_ne (by omega), uw_ne (by omega), uw_ne (by omega)]; exact h.sg r hr
  · rw [uw_same]
    refine congrArg nI (cnt_congr _ (fun i hi => ?_))
    by_cases e : i = r0
    · rw [e, uw_same, uw_same, hv, oC_none (by decide) hl]
    · rw [uw_ne (by omega), uw_ne (by omega), h.sg i hi, oC_none (by decide) (w.r i hi)]
  · (repeat rw [uw_ne (by omega)]); exact h.tp 
  · (repeat rw [uw_ne (by omega)]); exact h.tv i hi
  · (repeat rw [uw_ne (by omega)]); exact h.sp s hs
  · (repeat rw [uw_ne (by omega)]); exact h.sb s i hs hi

set_option maxHeartbeats 400000 in
theorem cnt_upd {f g : Nat → Prop} {r : Nat} : ∀ n, (∀ i, i < n → ¬ i = r → (g i → f i)) → cnt g n ≤ cnt f n + 1
  | 0, _ => by simp [cnt]
  | n + 1, h => by
    by_cases e : n = r
    · subst e
      have h1 : cnt g n ≤ cnt f n := by
        have : ∀ k, k ≤ n → cnt g k ≤ cnt f k := by
          intro k
          induction k with
          | zero => intro _; exact Nat.le_refl _
          | succ k ih =>
            intro hk
            have a := ih (by omega)
            by_cases hg : g k
            · rw [cnt_t hg, cnt_t (h k (by omega) (by omega) hg)]; omega
            · rw [cnt_f hg]
              by_cases hf : f k
              · rw [cnt_t hf]; omega
              · rw [cnt_f hf]; exact a
        exact this n (Nat.le_refl n)
      have h2 : cnt g (n + 1) ≤ cnt g n + 1 := by
        by_cases hg : g n
        · rw [cnt_t hg]; omega
        · rw [cnt_f hg]; omega
      have h3 : cnt f n ≤ cnt f (n + 1) := by
        by_cases hf : f n
        · rw [cnt_t hf]; omega
        · rw [cnt_f hf]; omega
      omega
    · have a := cnt_upd n (fun i hi => h i (by omega))
      by_cases hg : g n
      · rw [cnt_t hg, cnt_t (h n (by omega) e hg)]; omega
      · rw [cnt_f hg]
        by_cases hf : f n
        · rw [cnt_t hf]; omega
        · rw [cnt_f hf]; exact a
set_option maxHeartbeats 400000 in
theorem cnt_mono {f g : Nat → Prop} : ∀ n, (∀ i, i < n → (g i → f i)) → cnt g n ≤ cnt f n
  | 0, _ => Nat.le_refl _
  | n + 1, h => by
    have a := cnt_mono n (fun i hi => h i (by omega))
    by_cases hg : g n
    · rw [cnt_t hg, cnt_t (h n (by omega) hg)]; omega
    · rw [cnt_f hg]
      by_cases hf : f n
      · rw [cnt_t hf]; omega
      · rw [cnt_f hf]; exact a
set_option maxHeartbeats 400000 in
theorem uw_imp {S : Mm} {r0 i : Nat} {v : Int32} (e : ¬ i = r0) : uw_ S 163 r0 v 163 i = S 163 i := uw_ne (by omega)
set_option maxHeartbeats 400000 in
theorem sigs_upd {S : Mm} (w : WF S) {r0 : Nat} {l2 : Int32} (h : ¬ (S 163 r0 < 0 ∧ ¬ l2 < 0 ∧ sigs S = 20)) : sigs (uw_ S 163 r0 l2) ≤ 20 := by
  have hw := w.sg
  unfold sigs at hw h ⊢
  by_cases c1 : S 163 r0 < 0
  · by_cases c2 : l2 < 0
    · refine Nat.le_trans (cnt_mono _ (fun i hi hg => ?_)) hw
      by_cases e : i = r0
      · rw [e, uw_same] at hg; exact absurd c2 hg
      · rw [uw_imp e] at hg; exact hg
    · have := cnt_upd (f := fun r => ¬ S 163 r < 0) (g := fun r => ¬ uw_ S 163 r0 l2 163 r < 0) (r := r0) 144 (fun i hi e hg => by rw [uw_imp e] at hg; exact hg)
      have h2 : ¬ cnt (fun r => ¬ S 163 r < 0) 144 = 20 := fun q => h ⟨c1, c2, q⟩
      omega
  · refine Nat.le_trans (cnt_mono _ (fun i hi hg => ?_)) hw
    by_cases e : i = r0
    · rw [e]; exact c1
    · rw [uw_imp e] at hg; exact hg

set_option maxHeartbeats 400000 in
theorem WF_signal {S : Mm} (w : WF S) {r0 : Nat} {l2 : Int32} (hl : oR l2 4) (hs : ¬ (S 163 r0 < 0 ∧ ¬ l2 < 0 ∧ sigs S = 20)) : WF (uw_ S 163 r0 l2) := by
  refine ⟨fun c hc => ?_, fun i hi => ?_, fun i hi => ?_, fun i hi => ?_, fun i hi => ?_, fun l k hl hk => ?_, ?_, fun p hp => ?_, fun p hp => ?_, fun p hp => ?_, fun p hp => ?_, fun r hr => ?_, ?_, fun i hi => ?_, fun s hs => ?_, fun i hi => ?_, ?_⟩
  · exact w.b c hc
  · exact w.n i hi
  · exact w.g i hi
  · exact w.s i hi
  · exact w.m i hi
  · exact w.u l k hl hk
  · exact w.p 
  · exact w.c p hp
  · exact w.t p hp
  · exact w.t1 p hp
  · exact w.l p hp
  · by_cases e : r = r0
    · rw [e, uw_same]; exact hl
    · rw [uw_ne (by omega)]; exact w.r r hr
  · exact w.tp 
  · exact w.tv i hi
  · exact w.pl s hs
  · exact w.k i hi
  · exact sigs_upd w hs

set_option maxHeartbeats 400000 in
theorem T_pi_setSignal {G : Nat × (Nat → Int32)} {m : Mm} {r : Nat} {l : Int32} (hr : r < 144) : Y G M_pi_setSignal (0, 0) 0 (en_ M_pi_setSignal [.ref (8), .int (nI r), .int (l)]) [] (LAY, m) (qm_ LAY (pf_ (uw_ (uw_ m 12 r l) 8 5 (nI (cnt (fun i => ¬ uw_ m 12 r l 12 i = NONE_) 144))))) := by
  change Y _ _ _ _ [some (.ref _), some (.int _), some (.int _)] _ _ _
  refine Y_aload_n 0 rfl (pc2 := 1) rfl rfl ?_
  refine Y_getR 1 rfl (pc2 := 4) rfl fl_pi_21 ly_pi (by decide) rfl rfl (by omega) ?_
  refine Y_iload_n 2 rfl (pc2 := 5) rfl rfl ?_
  refine Y_iload_n 3 rfl (pc2 := 6) rfl rfl ?_
  refine Y_iast 4 rfl (pc2 := 7) rfl ly_piS rfl (by omega) (by decide) rfl ?_
  refine Y_aload_n 5 rfl (pc2 := 8) rfl rfl ?_
  refine Y_aload_n 6 rfl (pc2 := 9) rfl rfl ?_
  refine Y_getR 7 rfl (pc2 := 12) rfl fl_pi_21 ly_pi (by decide) rfl rfl (by omega) ?_
  refine Y_sipush 8 rfl (pc2 := 15) rfl (v := nI 144) (by decide) ?_
  refine Y_cS 9 rfl (pc2 := 18) rfl ok_gh_countTold lk_pi_38 vs_gh_countTold (as := [.ref _, .int _]) (rest := [.ref _]) rfl rfl (T_gh_countTold ly_piS (by decide) (by omega)) ?_
  rintro _ _ ⟨rfl, rfl⟩
  change Y _ _ _ _ _ [.int _, .ref _] _ _
  refine Y_putI 10 rfl (pc2 := 21) rfl fl_pi_28 ly_pi (by decide) ⟨rfl, rfl⟩ ⟨_, _, _, rfl, rfl⟩ rfl ?_
  refine Y_vret 11 rfl rfl ⟨rfl, ?_⟩
  exact ⟨rfl, rfl⟩

set_option maxHeartbeats 400000 in
theorem T_gh_signal {G : Nat × (Nat → Int32)} {m : Mm} {S : Mm} (h : RC m S) (w : WF S) {x l : Int32} : Y G M_gh_signal (0, 0) 0 (en_ M_gh_signal [.ref (0), .int (x), .int (l)]) [] (LAY, m) (qm_ LAY (pc_ (sp_signal S x l) m (st_signal S x l))) := by
  change Y _ _ _ _ [some (.ref _), some (.int _), some (.int _), none] _ _ _
  have hs20 := w.sg
  refine Y_iload_n 0 rfl (pc2 := 1) rfl rfl ?_
  refine Y_sipush 1 rfl (pc2 := 4) rfl (v := nI 144) (by decide) ?_
  refine Y_cS 2 rfl (pc2 := 7) rfl ok_gh_isBelow lk_gh_80 vs_gh_isBelow (as := [.int _, .int _]) (rest := []) rfl rfl (T_gh_isBelow (by omega)) ?_
  rintro _ _ ⟨rfl, rfl⟩
  change Y _ _ _ _ _ [.int _] _ _
  refine Y_if_eqb 3 rfl (pc2 := 10) rfl (tgt := 17) (by decide) (fun h7 => ?_) (fun h7 => ?_)
  · refine Y_ldc 7 rfl (pc2 := 19) rfl kc_gh_75 ?_
    refine Y_iret 8 rfl rfl rfl ⟨rfl, ?_⟩
    first | exact pc_bad h (by unfold sp_signal; rw [cI_f (fun e => h7 e.1)]; rfl) (by unfold st_signal; rw [cI_f (fun e => h7 e.1.1)]) | exact pc_bad h (by unfold sp_signal; rw [cI_f (fun e => h14 e.2)]; rfl) (by unfold st_signal; rw [cI_f (fun e => h14 e.1.2)])
  · refine Y_iload_n 4 rfl (pc2 := 11) rfl rfl ?_
    refine Y_cS 5 rfl (pc2 := 14) rfl ok_gh_isLevelOrNone lk_gh_161 vs_gh_isLevelOrNone (as := [.int _]) (rest := []) rfl rfl T_gh_isLevelOrNone ?_
    rintro _ _ ⟨rfl, rfl⟩
    change Y _ _ _ _ _ [.int _] _ _
    refine Y_if_neb 6 rfl (pc2 := 17) rfl (tgt := 20) (by decide) (fun h14 => ?_) (fun h14 => ?_)
    · obtain ⟨r, hr, rfl⟩ := h7
      have hC : siC (nI r) l := ⟨⟨r, hr, rfl⟩, h14⟩
      have hor := w.r r hr
      have hon := oC_none (by decide) hor
      refine Y_aload_n 9 rfl (pc2 := 21) rfl rfl ?_
      refine Y_getR 10 rfl (pc2 := 24) rfl fl_gh_38 ly_gh (by decide) rfl rfl (by omega) ?_
      refine Y_getR 11 rfl (pc2 := 27) rfl fl_gh_171 ly_pi (by decide) rfl rfl (by omega) ?_
      refine Y_iload_n 12 rfl (pc2 := 28) rfl rfl ?_
      refine Y_iald 13 rfl (pc2 := 29) rfl ly_piS rfl (by omega) (by decide) ?_
      refine Y_top (h.sg _ (by omega)) ?_
      refine Y_istore_n 14 rfl (pc2 := 30) rfl (Nat.le_of_ble_eq_true rfl) (ls2 := [some (.ref _), some (.int _), some (.int _), some (.int _)]) rfl ?_
      refine Y_iload_n 15 rfl (pc2 := 31) rfl rfl ?_
      refine Y_ldc 16 rfl (pc2 := 33) rfl kc_gh_84 ?_
      refine Y_icmp_ne 17 rfl (pc2 := 36) rfl (tgt := 57) (by decide) (fun h33 => ?_) (fun h33 => ?_)
      · refine Y_aload_n 28 rfl (pc2 := 58) rfl rfl ?_
        refine Y_getR 29 rfl (pc2 := 61) rfl fl_gh_38 ly_gh (by decide) rfl rfl (by omega) ?_
        refine Y_iload_n 30 rfl (pc2 := 62) rfl rfl ?_
        refine Y_iload_n 31 rfl (pc2 := 63) rfl rfl ?_
        refine Y_cV 32 rfl (pc2 := 66) rfl ok_pi_setSignal lk_gh_177 vi_pi_setSignal ly_pi rfl (by decide) rfl (as := [.int _, .int _]) (rest := []) rfl rfl (T_pi_setSignal hr) ?_
        rintro _ _ ⟨rfl, rfl⟩
        change Y _ _ _ _ _ [] _ _
        refine Y_iload_n 33 rfl (pc2 := 67) rfl rfl ?_
        refine Y_iret 34 rfl rfl rfl ⟨rfl, ?_⟩
        have hF : ¬ siF S (nI r) l := by
          rintro ⟨e1, e2, e3⟩
          rw [nv_nI (by omega)] at e1
          first
            | exact h33 (hon.mpr e1)
            | exact e2 h39
            | exact e2 (Classical.byContradiction h39)
            | omega
        exact ⟨by unfold sp_signal; rw [cI_t hC, cI_f hF, nv_nI (by omega)], by unfold st_signal; rw [cI_t ⟨hC, hF⟩, nv_nI (by omega)]; exact RC_signal h w hr (lvM_oC h14) (lvM_or h14), fun a ha => funext fun q => by show uw_ _ _ _ _ _ _ = _; rw [uw_ne (by omega), uw_ne (by omega)]⟩
      · refine Y_iload_n 18 rfl (pc2 := 37) rfl rfl ?_
        refine Y_ldc 19 rfl (pc2 := 39) rfl kc_gh_84 ?_
        refine Y_icmp_eq 20 rfl (pc2 := 42) rfl (tgt := 57) (by decide) (fun h39 => ?_) (fun h39 => ?_)
        · refine Y_aload_n 28 rfl (pc2 := 58) rfl rfl ?_
          refine Y_getR 29 rfl (pc2 := 61) rfl fl_gh_38 ly_gh (by decide) rfl rfl (by omega) ?_
          refine Y_iload_n 30 rfl (pc2 := 62) rfl rfl ?_
          refine Y_iload_n 31 rfl (pc2 := 63) rfl rfl ?_
          refine Y_cV 32 rfl (pc2 := 66) rfl ok_pi_setSignal lk_gh_177 vi_pi_setSignal ly_pi rfl (by decide) rfl (as := [.int _, .int _]) (rest := []) rfl rfl (T_pi_setSignal hr) ?_
          rintro _ _ ⟨rfl, rfl⟩
          change Y _ _ _ _ _ [] _ _
          refine Y_iload_n 33 rfl (pc2 := 67) rfl rfl ?_
          refine Y_iret 34 rfl rfl rfl ⟨rfl, ?_⟩
          have hF : ¬ siF S (nI r) l := by
            rintro ⟨e1, e2, e3⟩
            rw [nv_nI (by omega)] at e1
            first
              | exact h33 (hon.mpr e1)
              | exact e2 h39
              | exact e2 (Classical.byContradiction h39)
              | omega
          exact ⟨by unfold sp_signal; rw [cI_t hC, cI_f hF, nv_nI (by omega)], by unfold st_signal; rw [cI_t ⟨hC, hF⟩, nv_nI (by omega)]; exact RC_signal h w hr (lvM_oC h14) (lvM_or h14), fun a ha => funext fun q => by show uw_ _ _ _ _ _ _ = _; rw [uw_ne (by omega), uw_ne (by omega)]⟩
        · refine Y_aload_n 21 rfl (pc2 := 43) rfl rfl ?_
          refine Y_getR 22 rfl (pc2 := 46) rfl fl_gh_38 ly_gh (by decide) rfl rfl (by omega) ?_
          refine Y_getI 23 rfl (pc2 := 49) rfl fl_gh_174 ly_pi (by decide) rfl ?_
          refine Y_top (h.sn) ?_
          refine Y_bipush 24 rfl (pc2 := 51) rfl (v := nI 20) (by decide) ?_
          refine Y_icmp_ltn 25 rfl (pc2 := 54) rfl (tgt := 57) (by decide) (by omega) (by omega) (fun h51 => ?_) (fun h51 => ?_)
          · refine Y_aload_n 28 rfl (pc2 := 58) rfl rfl ?_
            refine Y_getR 29 rfl (pc2 := 61) rfl fl_gh_38 ly_gh (by decide) rfl rfl (by omega) ?_
            refine Y_iload_n 30 rfl (pc2 := 62) rfl rfl ?_
            refine Y_iload_n 31 rfl (pc2 := 63) rfl rfl ?_
            refine Y_cV 32 rfl (pc2 := 66) rfl ok_pi_setSignal lk_gh_177 vi_pi_setSignal ly_pi rfl (by decide) rfl (as := [.int _, .int _]) (rest := []) rfl rfl (T_pi_setSignal hr) ?_
            rintro _ _ ⟨rfl, rfl⟩
            change Y _ _ _ _ _ [] _ _
            refine Y_iload_n 33 rfl (pc2 := 67) rfl rfl ?_
            refine Y_iret 34 rfl rfl rfl ⟨rfl, ?_⟩
            have hF : ¬ siF S (nI r) l := by
              rintro ⟨e1, e2, e3⟩
              rw [nv_nI (by omega)] at e1
              first
                | exact h33 (hon.mpr e1)
                | exact e2 h39
                | exact e2 (Classical.byContradiction h39)
                | omega
            exact ⟨by unfold sp_signal; rw [cI_t hC, cI_f hF, nv_nI (by omega)], by unfold st_signal; rw [cI_t ⟨hC, hF⟩, nv_nI (by omega)]; exact RC_signal h w hr (lvM_oC h14) (lvM_or h14), fun a ha => funext fun q => by show uw_ _ _ _ _ _ _ = _; rw [uw_ne (by omega), uw_ne (by omega)]⟩
          · refine Y_ldc 26 rfl (pc2 := 56) rfl kc_gh_71 ?_
            refine Y_iret 27 rfl rfl rfl ⟨rfl, ?_⟩
            have hF : siF S (nI r) l := ⟨by rw [nv_nI (by omega)]; exact hon.mp (by first | exact h33 | exact Classical.byContradiction h33), h39, by omega⟩
            exact pc_bad h (by unfold sp_signal; rw [cI_t hC, cI_t hF]; rfl) (by unfold st_signal; rw [cI_f (fun e => e.2 hF)])
    · refine Y_ldc 7 rfl (pc2 := 19) rfl kc_gh_75 ?_
      refine Y_iret 8 rfl rfl rfl ⟨rfl, ?_⟩
      first | exact pc_bad h (by unfold sp_signal; rw [cI_f (fun e => h7 e.1)]; rfl) (by unfold st_signal; rw [cI_f (fun e => h7 e.1.1)]) | exact pc_bad h (by unfold sp_signal; rw [cI_f (fun e => h14 e.2)]; rfl) (by unfold st_signal; rw [cI_f (fun e => h14 e.1.2)])

def st_drop (S : Mm) : Mm := ur_ (uw_ S 153 6 (nI 0)) 163 (flr (S 163) 144 (-1))
set_option maxHeartbeats 400000 in
theorem cnt_0 {f : Nat → Prop} : ∀ n, (∀ i, i < n → ¬ f i) → cnt f n = 0
  | 0, _ => rfl
  | n + 1, h => by rw [cnt_f (h n (by omega))]; exact cnt_0 n (fun i hi => h i (by omega))
set_option maxHeartbeats 400000 in
theorem sigs_drop {S : Mm} : sigs (st_drop S) = 0 := by
  refine cnt_0 144 (fun i hi e => e ?_)
  show flr (S 163) 144 (-1) i < 0
  unfold flr
  rw [if_pos hi]; decide
set_option maxHeartbeats 400000 in
theorem RC_drop {m S : Mm} (h : RC m S)  : RC (ur_ (uw_ (uw_ m 8 4 (nI 0)) 8 5 (nI 0)) 12 (flr (uw_ (uw_ m 8 4 (nI 0)) 8 5 (nI 0) 12) 144 NONE_)) (st_drop S) := by
  refine ⟨fun c hc => ?_, fun c b hc hb => ?_, fun c b hc hb => ?_, fun c b hc hb => ?_, fun c b hc hb => ?_, fun l hl => ?_, fun l f g s hl hf hg hs => ?_, fun l f s hl hf hs => ?_, fun l k hl hk => ?_, ?_, fun p hp => ?_, fun p hp => ?_, fun p hp => ?_, fun r hr => ?_, ?_, ?_, fun i hi => ?_, fun s hs => ?_, fun s i hs hi => ?_⟩
  · (first | rw [ur_ne (by omega), uw_ne (by omega), uw_ne (by omega)] | skip); exact h.b c hc
  · (first | rw [ur_ne (by omega), uw_ne (by omega), uw_ne (by omega)] | skip); exact h.n c b hc hb
  · (first | rw [ur_ne (by omega), uw_ne (by omega), uw_ne (by omega)] | skip); exact h.g c b hc hb
  · (first | rw [ur_ne (by omega), uw_ne (by omega), uw_ne (by omega)] | skip); exact h.t c b hc hb
  · (first | rw [ur_ne (by omega), uw_ne (by omega), uw_ne (by omega)] | skip); exact h.u c b hc hb
  · (first | rw [ur_ne (by omega), uw_ne (by omega), uw_ne (by omega)] | skip); exact h.l l hl
  · (first | rw [ur_ne (by omega), uw_ne (by omega), uw_ne (by omega)] | skip); exact h.r l f g s hl hf hg hs
  · (first | rw [ur_ne (by omega), uw_ne (by omega), uw_ne (by omega)] | skip); exact h.m l f s hl hf hs
  · (first | rw [ur_ne (by omega), uw_ne (by omega), uw_ne (by omega)] | skip); exact h.us l k hl hk
  · rfl
  · (first | rw [ur_ne (by omega), uw_ne (by omega), uw_ne (by omega)] | skip); exact h.c p hp
  · (first | rw [ur_ne (by omega), uw_ne (by omega), uw_ne (by omega)] | skip); exact h.pt p hp
  · (first | rw [ur_ne (by omega), uw_ne (by omega), uw_ne (by omega)] | skip); exact h.pl p hp
  · show flr _ 144 NONE_ r = oC (flr (S 163) 144 (-1) r)
    unfold flr
    rw [if_pos hr, if_pos hr]; rfl
  · rw [sigs_drop]; rfl
  · (first | rw [ur_ne (by omega), uw_ne (by omega), uw_ne (by omega)] | skip); exact h.tp 
  · (first | rw [ur_ne (by omega), uw_ne (by omega), uw_ne (by omega)] | skip); exact h.tv i hi
  · (first | rw [ur_ne (by omega), uw_ne (by omega), uw_ne (by omega)] | skip); exact h.sp s hs
  · (first | rw [ur_ne (by omega), uw_ne (by omega), uw_ne (by omega)] | skip); exact h.sb s i hs hi

set_option maxHeartbeats 400000 in
theorem WF_drop {S : Mm} (w : WF S)  : WF (st_drop S) := by
  refine ⟨fun c hc => ?_, fun i hi => ?_, fun i hi => ?_, fun i hi => ?_, fun i hi => ?_, fun l k hl hk => ?_, ?_, fun p hp => ?_, fun p hp => ?_, fun p hp => ?_, fun p hp => ?_, fun r hr => ?_, ?_, fun i hi => ?_, fun s hs => ?_, fun i hi => ?_, ?_⟩
  · exact w.b c hc
  · exact w.n i hi
  · exact w.g i hi
  · exact w.s i hi
  · exact w.m i hi
  · exact w.u l k hl hk
  · exact ⟨rfl, Nat.zero_le _⟩
  · exact w.c p hp
  · exact w.t p hp
  · exact absurd hp (Nat.not_lt_zero p)
  · exact w.l p hp
  · show oR (flr (S 163) 144 (-1) r) 4
    unfold flr
    rw [if_pos hr]; exact Or.inl rfl
  · exact w.tp 
  · exact w.tv i hi
  · exact w.pl s hs
  · exact w.k i hi
  · rw [sigs_drop]; omega

set_option maxHeartbeats 400000 in
theorem T_pi_clear {G : Nat × (Nat → Int32)} {m : Mm}  : Y G M_pi_clear (0, 0) 0 (en_ M_pi_clear [.ref (8)]) [] (LAY, m) (qm_ LAY (pf_ (ur_ (uw_ (uw_ m 8 4 (nI 0)) 8 5 (nI 0)) 12 (flr (uw_ (uw_ m 8 4 (nI 0)) 8 5 (nI 0) 12) 144 NONE_)))) := by
  change Y _ _ _ _ [some (.ref _)] _ _ _
  refine Y_aload_n 0 rfl (pc2 := 1) rfl rfl ?_
  refine Y_iconst 1 rfl (pc2 := 2) rfl (v := nI 0) (by decide) ?_
  refine Y_putI 2 rfl (pc2 := 5) rfl fl_pi_24 ly_pi (by decide) ⟨rfl, rfl⟩ ⟨_, _, _, rfl, rfl⟩ rfl ?_
  refine Y_aload_n 3 rfl (pc2 := 6) rfl rfl ?_
  refine Y_iconst 4 rfl (pc2 := 7) rfl (v := nI 0) (by decide) ?_
  refine Y_putI 5 rfl (pc2 := 10) rfl fl_pi_28 ly_pi (by decide) ⟨rfl, rfl⟩ ⟨_, _, _, rfl, rfl⟩ rfl ?_
  refine Y_aload_n 6 rfl (pc2 := 11) rfl rfl ?_
  refine Y_getR 7 rfl (pc2 := 14) rfl fl_pi_21 ly_pi (by decide) rfl rfl (by omega) ?_
  refine Y_ldc 8 rfl (pc2 := 16) rfl kc_pi_31 ?_
  refine Y_cS 9 rfl (pc2 := 19) rfl ok_ar_filli lk_pi_32 vs_ar_filli (as := [.ref _, .int _]) (rest := []) rfl rfl (T_ar_filli ly_piS (by decide)) ?_
  rintro _ _ ⟨rfl, rfl⟩
  change Y _ _ _ _ _ [] _ _
  refine Y_vret 10 rfl rfl ⟨rfl, ?_⟩
  exact ⟨rfl, rfl⟩

set_option maxHeartbeats 400000 in
theorem T_gh_drop {G : Nat × (Nat → Int32)} {m : Mm} {S : Mm} (h : RC m S) (w : WF S) : Y G M_gh_drop (0, 0) 0 (en_ M_gh_drop [.ref (0)]) [] (LAY, m) (qm_ LAY (pc_ (S 153 6) m (st_drop S))) := by
  change Y _ _ _ _ [some (.ref _), none] _ _ _
  refine Y_aload_n 0 rfl (pc2 := 1) rfl rfl ?_
  refine Y_getR 1 rfl (pc2 := 4) rfl fl_gh_38 ly_gh (by decide) rfl rfl (by omega) ?_
  refine Y_getI 2 rfl (pc2 := 7) rfl fl_gh_164 ly_pi (by decide) rfl ?_
  refine Y_top (h.p) ?_
  refine Y_istore_n 3 rfl (pc2 := 8) rfl (Nat.le_of_ble_eq_true rfl) (ls2 := [some (.ref _), some (.int _)]) rfl ?_
  refine Y_aload_n 4 rfl (pc2 := 9) rfl rfl ?_
  refine Y_getR 5 rfl (pc2 := 12) rfl fl_gh_38 ly_gh (by decide) rfl rfl (by omega) ?_
  refine Y_cV 6 rfl (pc2 := 15) rfl ok_pi_clear lk_gh_181 vi_pi_clear ly_pi rfl (by decide) rfl (as := []) (rest := []) rfl rfl T_pi_clear ?_
  rintro _ _ ⟨rfl, rfl⟩
  change Y _ _ _ _ _ [] _ _
  refine Y_iload_n 7 rfl (pc2 := 16) rfl rfl ?_
  refine Y_iret 8 rfl rfl rfl ⟨rfl, ?_⟩
  exact ⟨rfl, RC_drop h, fun a ha => by show ur_ _ _ _ a = _; rw [ur_ne (by omega)]; funext k; rw [uw_ne (by omega), uw_ne (by omega)]⟩
end
section
/-! the class: sheets, laying, feeding -/
set_option maxHeartbeats 400000 in
theorem plc_is {S : Mm} (w : WF S) {s : Nat} (hs : s < 2) (h : ¬ S 165 s = -1) : S 165 s = nI (plc S s) ∧ plc S s ≤ 16 := by
  rcases w.pl s hs with e | ⟨k, hk, e⟩
  · exact absurd e h
  · unfold plc
    rw [e, nv_nI (by omega)]
    exact ⟨rfl, by omega⟩
set_option maxHeartbeats 400000 in
theorem plc_no {S : Mm} {s : Nat} (h : S 165 s = -1) : plc S s = 0 := by
  unfold plc
  rw [h]; decide
noncomputable def sp_sheet (x n : Int32) : Int32 := cI (iR x 2 ∧ n ≤ nI 16) (if n < 0 then SIZE_ else n) BAD_
noncomputable def st_sheet (S : Mm) (x n : Int32) : Mm := cI (iR x 2 ∧ iR n 17) (ur_ (uw_ S 165 (nv x) n) 166 (fun k => if 16 * nv x ≤ k ∧ k < 16 * nv x + nv n then nI 0 else S 166 k)) S

set_option maxHeartbeats 400000 in
theorem RC_sheet {m S : Mm} (h : RC m S) (w : WF S) {s0 n0 : Nat} (hs0 : s0 < 2) (hn0 : n0 ≤ 16) : RC (ur_ (uw_ m (149 + 2 * s0) 1 (nI n0)) (150 + 2 * s0) (flr (uw_ m (149 + 2 * s0) 1 (nI n0) (150 + 2 * s0)) 16 (nI 0))) (ur_ (uw_ S 165 s0 (nI n0)) 166 (fun k => if 16 * s0 ≤ k ∧ k < 16 * s0 + n0 then nI 0 else S 166 k)) := by
  refine ⟨fun c hc => ?_, fun c b hc hb => ?_, fun c b hc hb => ?_, fun c b hc hb => ?_, fun c b hc hb => ?_, fun l hl => ?_, fun l f g s hl hf hg hs => ?_, fun l f s hl hf hs => ?_, fun l k hl hk => ?_, ?_, fun p hp => ?_, fun p hp => ?_, fun p hp => ?_, fun r hr => ?_, ?_, ?_, fun i hi => ?_, fun s hs => ?_, fun s i hs hi => ?_⟩
  · rw [ur_ne (by omega), uw_ne (by omega)]; exact h.b c hc
  · rw [ur_ne (by omega), uw_ne (by omega)]; exact h.n c b hc hb
  · rw [ur_ne (by omega), uw_ne (by omega)]; exact h.g c b hc hb
  · rw [ur_ne (by omega), uw_ne (by omega)]; exact h.t c b hc hb
  · rw [ur_ne (by omega), uw_ne (by omega)]; exact h.u c b hc hb
  · rw [ur_ne (by omega), uw_ne (by omega)]; exact h.l l hl
  · rw [ur_ne (by omega), uw_ne (by omega)]; exact h.r l f g s hl hf hg hs
  · rw [ur_ne (by omega), uw_ne (by omega)]; exact h.m l f s hl hf hs
  · rw [ur_ne (by omega), uw_ne (by omega)]; exact h.us l k hl hk
  · rw [ur_ne (by omega), uw_ne (by omega)]; exact h.p 
  · rw [ur_ne (by omega), uw_ne (by omega)]; exact h.c p hp
  · rw [ur_ne (by omega), uw_ne (by omega)]; exact h.pt p hp
  · rw [ur_ne (by omega), uw_ne (by omega)]; exact h.pl p hp
  · rw [ur_ne (by omega), uw_ne (by omega)]; exact h.sg r hr
  · rw [ur_ne (by omega), uw_ne (by omega)]; exact h.sn 
  · rw [ur_ne (by omega), uw_ne (by omega)]; exact h.tp 
  · rw [ur_ne (by omega), uw_ne (by omega)]; exact h.tv i hi
  · rw [ur_ne (by omega)]
    by_cases e : s = s0
    · rw [e, uw_same]; show _ = uw_ S 165 s0 (nI n0) 165 s0; rw [uw_same]
    · rw [uw_ne (by omega)]; show _ = uw_ S 165 s0 (nI n0) 165 s; rw [uw_ne (by omega)]; exact h.sp s hs
  · show _ = (if 16 * s0 ≤ 16 * s + i ∧ 16 * s + i < 16 * s0 + n0 then nI 0 else S 166 (16 * s + i))
    have hi2 : i < nv (uw_ S 165 s0 (nI n0) 165 s) := hi
    by_cases e : s = s0
    · rw [e] at hi2 ⊢
      rw [uw_same, nv_nI (by omega)] at hi2
      rw [ur_same, if_pos (by omega)]
      unfold flr
      rw [if_pos (by omega)]
    · rw [uw_ne (by omega)] at hi2
      have hp : plc S s ≤ 16 := by
        by_cases q : S 165 s = -1
        · rw [plc_no q]; omega
        · exact (plc_is w hs q).2
      have hi3 : i < plc S s := hi2
      rw [ur_ne (by omega), uw_ne (by omega), if_neg (by omega)]
      exact h.sb s i hs hi3

set_option maxHeartbeats 400000 in
theorem WF_sheet {S : Mm} (w : WF S) {s0 n0 : Nat} (hs0 : s0 < 2) (hn0 : n0 ≤ 16) : WF (ur_ (uw_ S 165 s0 (nI n0)) 166 (fun k => if 16 * s0 ≤ k ∧ k < 16 * s0 + n0 then nI 0 else S 166 k)) := by
  refine ⟨fun c hc => ?_, fun i hi => ?_, fun i hi => ?_, fun i hi => ?_, fun i hi => ?_, fun l k hl hk => ?_, ?_, fun p hp => ?_, fun p hp => ?_, fun p hp => ?_, fun p hp => ?_, fun r hr => ?_, ?_, fun i hi => ?_, fun s hs => ?_, fun i hi => ?_, ?_⟩
  · exact w.b c hc
  · exact w.n i hi
  · exact w.g i hi
  · exact w.s i hi
  · exact w.m i hi
  · exact w.u l k hl hk
  · exact w.p 
  · exact w.c p hp
  · exact w.t p hp
  · exact w.t1 p hp
  · exact w.l p hp
  · exact w.r r hr
  · exact w.tp 
  · exact w.tv i hi
  · show oR (uw_ S 165 s0 (nI n0) 165 s) 17
    by_cases e : s = s0
    · rw [e, uw_same]; exact Or.inr ⟨n0, by omega, rfl⟩
    · rw [uw_ne (by omega)]; exact w.pl s hs
  · show (if 16 * s0 ≤ i ∧ i < 16 * s0 + n0 then nI 0 else S 166 i).toInt8.toInt32 = (if 16 * s0 ≤ i ∧ i < 16 * s0 + n0 then nI 0 else S 166 i)
    split
    · decide
    · exact w.k i hi
  · exact w.sg 

set_option maxHeartbeats 400000 in
theorem T_sh_lengthen {G : Nat × (Nat → Int32)} {m : Mm} {s0 n0 : Nat} (hs0 : s0 < 2) : Y G M_sh_lengthen (0, 0) 0 (en_ M_sh_lengthen [.ref (149 + 2 * s0), .int (nI n0)]) [] (LAY, m) (qm_ LAY (pf_ (ur_ (uw_ m (149 + 2 * s0) 1 (nI n0)) (150 + 2 * s0) (flr (uw_ m (149 + 2 * s0) 1 (nI n0) (150 + 2 * s0)) 16 (nI 0))))) := by
  change Y _ _ _ _ [some (.ref _), some (.int _)] _ _ _
  refine Y_aload_n 0 rfl (pc2 := 1) rfl rfl ?_
  refine Y_iload_n 1 rfl (pc2 := 2) rfl rfl ?_
  refine Y_putI 2 rfl (pc2 := 5) rfl fl_sh_15 (ly_sh (by omega)) (by decide) ⟨rfl, rfl⟩ ⟨_, _, _, rfl, rfl⟩ rfl ?_
  refine Y_aload_n 3 rfl (pc2 := 6) rfl rfl ?_
  refine Y_getR 4 rfl (pc2 := 9) rfl fl_sh_9 (ly_sh (by omega)) (by decide) rfl rfl (by omega) ?_
  refine Y_iconst 5 rfl (pc2 := 10) rfl (v := nI 0) (by decide) ?_
  refine Y_cS 6 rfl (pc2 := 13) rfl ok_ar_fillb lk_sh_19 vs_ar_fillb (as := [.ref _, .int _]) (rest := []) rfl rfl (T_ar_fillb (ly_shB hs0) (by decide) (by decide)) ?_
  rintro _ _ ⟨rfl, rfl⟩
  change Y _ _ _ _ _ [] _ _
  refine Y_vret 7 rfl rfl ⟨rfl, ?_⟩
  exact ⟨rfl, rfl⟩

set_option maxHeartbeats 400000 in
theorem T_gh_sheet {G : Nat × (Nat → Int32)} {m : Mm} {S : Mm} (h : RC m S) (w : WF S) {x n : Int32} : Y G M_gh_sheet (0, 0) 0 (en_ M_gh_sheet [.ref (0), .int (x), .int (n)]) [] (LAY, m) (qm_ LAY (pc_ (sp_sheet x n) m (st_sheet S x n))) := by
  change Y _ _ _ _ [some (.ref _), some (.int _), some (.int _)] _ _ _
  have hI := iR_le (x := n) (n := 16) (by omega)
  refine Y_iload_n 0 rfl (pc2 := 1) rfl rfl ?_
  refine Y_iconst 1 rfl (pc2 := 2) rfl (v := nI 2) (by decide) ?_
  refine Y_cS 2 rfl (pc2 := 5) rfl ok_gh_isBelow lk_gh_80 vs_gh_isBelow (as := [.int _, .int _]) (rest := []) rfl rfl (T_gh_isBelow (by omega)) ?_
  rintro _ _ ⟨rfl, rfl⟩
  change Y _ _ _ _ _ [.int _] _ _
  refine Y_if_eqb 3 rfl (pc2 := 8) rfl (tgt := 14) (by decide) (fun h5 => ?_) (fun h5 => ?_)
  · refine Y_ldc 7 rfl (pc2 := 16) rfl kc_gh_75 ?_
    refine Y_iret 8 rfl rfl rfl ⟨rfl, ?_⟩
    first | exact pc_bad h (by unfold sp_sheet; rw [cI_f (fun e => h5 e.1)]; rfl) (by unfold st_sheet; rw [cI_f (fun e => h5 e.1)]) | exact pc_bad h (by unfold sp_sheet; rw [cI_f (fun e => h11 e.2)]; rfl) (by unfold st_sheet; rw [cI_f (fun e => h11 (hI.mp e.2).2)])
  · obtain ⟨s, hs, rfl⟩ := h5
    refine Y_iload_n 4 rfl (pc2 := 9) rfl rfl ?_
    refine Y_bipush 5 rfl (pc2 := 11) rfl (v := nI 16) (by decide) ?_
    refine Y_icmp_le 6 rfl (pc2 := 14) rfl (tgt := 17) (by decide) (fun h11 => ?_) (fun h11 => ?_)
    · refine Y_iload_n 9 rfl (pc2 := 18) rfl rfl ?_
      refine Y_if_ge 10 rfl (pc2 := 21) rfl (tgt := 24) (by decide) (fun h18 => ?_) (fun h18 => ?_)
      · have hN : iR n 17 := hI.mpr ⟨Int32.not_lt.mpr h18, h11⟩
        obtain ⟨k, hk, rfl⟩ := hN
        refine Y_aload_n 13 rfl (pc2 := 25) rfl rfl ?_
        refine Y_getR 14 rfl (pc2 := 28) rfl fl_gh_58 ly_gh (by decide) rfl rfl (by omega) ?_
        refine Y_iload_n 15 rfl (pc2 := 29) rfl rfl ?_
        refine Y_aald 16 rfl (pc2 := 30) rfl ly_ghS (by decide) (fun _ => rfl) rfl (by omega) (by decide) (ly_ghS_at (by omega)) (by omega) ?_
        refine Y_iload_n 17 rfl (pc2 := 31) rfl rfl ?_
        refine Y_cV 18 rfl (pc2 := 34) rfl ok_sh_lengthen lk_gh_242 vi_sh_lengthen (ly_sh (by omega)) rfl (by decide) rfl (as := [.int _]) (rest := []) rfl rfl (T_sh_lengthen hs) ?_
        rintro _ _ ⟨rfl, rfl⟩
        change Y _ _ _ _ _ [] _ _
        refine Y_iload_n 19 rfl (pc2 := 35) rfl rfl ?_
        refine Y_iret 20 rfl rfl rfl ⟨rfl, ?_⟩
        exact ⟨by unfold sp_sheet; rw [cI_t ⟨⟨s, hs, rfl⟩, h11⟩, if_neg (Int32.not_lt.mpr h18)], by unfold st_sheet; rw [cI_t ⟨⟨s, hs, rfl⟩, ⟨k, hk, rfl⟩⟩, nv_nI (k := s) (by omega), nv_nI (k := k) (by omega)]; exact RC_sheet h w hs (by omega), fun a ha => by show ur_ _ _ _ a = _; rw [ur_ne (by omega)]; funext q; rw [uw_ne (by omega)]⟩
      · refine Y_ldc 11 rfl (pc2 := 23) rfl kc_gh_241 ?_
        refine Y_iret 12 rfl rfl rfl ⟨rfl, ?_⟩
        exact pc_bad h (by unfold sp_sheet; rw [cI_t ⟨⟨s, hs, rfl⟩, h11⟩, if_pos (Int32.not_le.mp h18)]; rfl) (by unfold st_sheet; rw [cI_f (fun e => (hI.mp e.2).1 (Int32.not_le.mp h18))])
    · refine Y_ldc 7 rfl (pc2 := 16) rfl kc_gh_75 ?_
      refine Y_iret 8 rfl rfl rfl ⟨rfl, ?_⟩
      first | exact pc_bad h (by unfold sp_sheet; rw [cI_f (fun e => h5 e.1)]; rfl) (by unfold st_sheet; rw [cI_f (fun e => h5 e.1)]) | exact pc_bad h (by unfold sp_sheet; rw [cI_f (fun e => h11 e.2)]; rfl) (by unfold st_sheet; rw [cI_f (fun e => h11 (hI.mp e.2).2)])

noncomputable def sp_mark (S : Mm) (x p : Int32) : Int32 := cI (iR x 2) (cI (S 165 (nv x) = -1) NOTHING_ (cI (iR p (plc S (nv x))) (S 166 (16 * nv x + nv p)) INDEX_)) BAD_
noncomputable def st_mark (S : Mm) (x p v : Int32) : Mm := cI (iR x 2 ∧ ¬ S 165 (nv x) = -1 ∧ iR p (plc S (nv x))) (uw_ S 166 (16 * nv x + nv p) v.toInt8.toInt32) S

set_option maxHeartbeats 400000 in
theorem RC_mark {m S : Mm} (h : RC m S) (w : WF S) {s0 i0 : Nat} {v : Int32} (hs0 : s0 < 2) (hi0 : i0 < 16) : RC (uw_ m (150 + 2 * s0) i0 v) (uw_ S 166 (16 * s0 + i0) v) := by
  refine ⟨fun c hc => ?_, fun c b hc hb => ?_, fun c b hc hb => ?_, fun c b hc hb => ?_, fun c b hc hb => ?_, fun l hl => ?_, fun l f g s hl hf hg hs => ?_, fun l f s hl hf hs => ?_, fun l k hl hk => ?_, ?_, fun p hp => ?_, fun p hp => ?_, fun p hp => ?_, fun r hr => ?_, ?_, ?_, fun i hi => ?_, fun s hs => ?_, fun s i hs hi => ?_⟩
  · (repeat rw [uw_ne (by omega)]); exact h.b c hc
  · (repeat rw [uw_ne (by omega)]); exact h.n c b hc hb
  · (repeat rw [uw_ne (by omega)]); exact h.g c b hc hb
  · (repeat rw [uw_ne (by omega)]); exact h.t c b hc hb
  · (repeat rw [uw_ne (by omega)]); exact h.u c b hc hb
  · (repeat rw [uw_ne (by omega)]); exact h.l l hl
  · (repeat rw [uw_ne (by omega)]); exact h.r l f g s hl hf hg hs
  · (repeat rw [uw_ne (by omega)]); exact h.m l f s hl hf hs
  · (repeat rw [uw_ne (by omega)]); exact h.us l k hl hk
  · (repeat rw [uw_ne (by omega)]); exact h.p 
  · (repeat rw [uw_ne (by omega)]); exact h.c p hp
  · (repeat rw [uw_ne (by omega)]); exact h.pt p hp
  · (repeat rw [uw_ne (by omega)]); exact h.pl p hp
  · (repeat rw [uw_ne (by omega)]); exact h.sg r hr
  · (repeat rw [uw_ne (by omega)]); exact h.sn 
  · (repeat rw [uw_ne (by omega)]); exact h.tp 
  · (repeat rw [uw_ne (by omega)]); exact h.tv i hi
  · (repeat rw [uw_ne (by omega)]); exact h.sp s hs
  · have hi3 : i < plc S s := hi
    have hp : plc S s ≤ 16 := by
      by_cases q : S 165 s = -1
      · rw [plc_no q]; omega
      · exact (plc_is w hs q).2
    by_cases e : s = s0 ∧ i = i0
    · obtain ⟨rfl, rfl⟩ := e
      rw [uw_same, uw_same]
    · rw [uw_ne (by omega), uw_ne (by omega)]; exact h.sb s i hs hi3

set_option maxHeartbeats 400000 in
theorem WF_mark {S : Mm} (w : WF S) {k0 : Nat} {v : Int32} (hv : v.toInt8.toInt32 = v) : WF (uw_ S 166 k0 v) := by
  refine ⟨fun c hc => ?_, fun i hi => ?_, fun i hi => ?_, fun i hi => ?_, fun i hi => ?_, fun l k hl hk => ?_, ?_, fun p hp => ?_, fun p hp => ?_, fun p hp => ?_, fun p hp => ?_, fun r hr => ?_, ?_, fun i hi => ?_, fun s hs => ?_, fun i hi => ?_, ?_⟩
  · exact w.b c hc
  · exact w.n i hi
  · exact w.g i hi
  · exact w.s i hi
  · exact w.m i hi
  · exact w.u l k hl hk
  · exact w.p 
  · exact w.c p hp
  · exact w.t p hp
  · exact w.t1 p hp
  · exact w.l p hp
  · exact w.r r hr
  · exact w.tp 
  · exact w.tv i hi
  · exact w.pl s hs
  · by_cases e : i = k0
    · rw [e, uw_same]; exact hv
    · rw [uw_ne (by omega)]; exact w.k i hi
  · exact w.sg 

set_option maxHeartbeats 400000 in
theorem T_gh_mark {G : Nat × (Nat → Int32)} {m : Mm} {S : Mm} (h : RC m S) (w : WF S) {x p v : Int32} : Y G M_gh_mark (0, 0) 0 (en_ M_gh_mark [.ref (0), .int (x), .int (p), .int (v)]) [] (LAY, m) (qm_ LAY (pc_ (sp_mark S x p) m (st_mark S x p v))) := by
  change Y _ _ _ _ [some (.ref _), some (.int _), some (.int _), some (.int _), none] _ _ _
  refine Y_iload_n 0 rfl (pc2 := 1) rfl rfl ?_
  refine Y_iconst 1 rfl (pc2 := 2) rfl (v := nI 2) (by decide) ?_
  refine Y_cS 2 rfl (pc2 := 5) rfl ok_gh_isBelow lk_gh_80 vs_gh_isBelow (as := [.int _, .int _]) (rest := []) rfl rfl (T_gh_isBelow (by omega)) ?_
  rintro _ _ ⟨rfl, rfl⟩
  change Y _ _ _ _ _ [.int _] _ _
  refine Y_if_neb 3 rfl (pc2 := 8) rfl (tgt := 11) (by decide) (fun h5 => ?_) (fun h5 => ?_)
  · obtain ⟨s, hs, rfl⟩ := h5
    refine Y_aload_n 6 rfl (pc2 := 12) rfl rfl ?_
    refine Y_getR 7 rfl (pc2 := 15) rfl fl_gh_58 ly_gh (by decide) rfl rfl (by omega) ?_
    refine Y_iload_n 8 rfl (pc2 := 16) rfl rfl ?_
    refine Y_aald 9 rfl (pc2 := 17) rfl ly_ghS (by decide) (fun _ => rfl) rfl (by omega) (by decide) (ly_ghS_at (by omega)) (by omega) ?_
    refine Y_cV 10 rfl (pc2 := 20) rfl ok_sh_isMissing lk_gh_130 vi_sh_isMissing (ly_sh (by omega)) rfl (by decide) rfl (as := []) (rest := []) rfl rfl (T_sh_isMissing h w (by omega)) ?_
    rintro _ _ ⟨rfl, rfl⟩
    change Y _ _ _ _ _ [.int _] _ _
    refine Y_if_eqb 11 rfl (pc2 := 23) rfl (tgt := 26) (by decide) (fun h20 => ?_) (fun h20 => ?_)
    · have hpl := (plc_is w hs h20).2
      refine Y_iload_n 14 rfl (pc2 := 27) rfl rfl ?_
      refine Y_aload_n 15 rfl (pc2 := 28) rfl rfl ?_
      refine Y_getR 16 rfl (pc2 := 31) rfl fl_gh_58 ly_gh (by decide) rfl rfl (by omega) ?_
      refine Y_iload_n 17 rfl (pc2 := 32) rfl rfl ?_
      refine Y_aald 18 rfl (pc2 := 33) rfl ly_ghS (by decide) (fun _ => rfl) rfl (by omega) (by decide) (ly_ghS_at (by omega)) (by omega) ?_
      refine Y_getI 19 rfl (pc2 := 36) rfl fl_gh_135 (ly_sh (by omega)) (by decide) rfl ?_
      refine Y_top ((h.sp s hs).trans (plc_is w hs h20).1) ?_
      refine Y_cS 20 rfl (pc2 := 39) rfl ok_gh_isBelow lk_gh_80 vs_gh_isBelow (as := [.int _, .int _]) (rest := []) rfl rfl (T_gh_isBelow (by omega)) ?_
      rintro _ _ ⟨rfl, rfl⟩
      change Y _ _ _ _ _ [.int _] _ _
      refine Y_if_neb 21 rfl (pc2 := 42) rfl (tgt := 45) (by decide) (fun h39 => ?_) (fun h39 => ?_)
      · obtain ⟨i, hi, rfl⟩ := h39
        refine Y_aload_n 24 rfl (pc2 := 46) rfl rfl ?_
        refine Y_getR 25 rfl (pc2 := 49) rfl fl_gh_58 ly_gh (by decide) rfl rfl (by omega) ?_
        refine Y_iload_n 26 rfl (pc2 := 50) rfl rfl ?_
        refine Y_aald 27 rfl (pc2 := 51) rfl ly_ghS (by decide) (fun _ => rfl) rfl (by omega) (by decide) (ly_ghS_at (by omega)) (by omega) ?_
        refine Y_getR 28 rfl (pc2 := 54) rfl fl_gh_245 (ly_sh (by omega)) (by decide) rfl rfl (by omega) ?_
        refine Y_iload_n 29 rfl (pc2 := 55) rfl rfl ?_
        refine Y_bald 30 rfl (pc2 := 56) rfl (ly_shB (by omega)) rfl (by omega) (by decide) ?_
        refine Y_top (h.sb s i hs hi) ?_
        refine Y_istore 31 rfl (pc2 := 58) rfl (Nat.le_of_ble_eq_true rfl) (ls2 := [some (.ref _), some (.int _), some (.int _), some (.int _), some (.int _)]) rfl ?_
        refine Y_aload_n 32 rfl (pc2 := 59) rfl rfl ?_
        refine Y_getR 33 rfl (pc2 := 62) rfl fl_gh_58 ly_gh (by decide) rfl rfl (by omega) ?_
        refine Y_iload_n 34 rfl (pc2 := 63) rfl rfl ?_
        refine Y_aald 35 rfl (pc2 := 64) rfl ly_ghS (by decide) (fun _ => rfl) rfl (by omega) (by decide) (ly_ghS_at (by omega)) (by omega) ?_
        refine Y_getR 36 rfl (pc2 := 67) rfl fl_gh_245 (ly_sh (by omega)) (by decide) rfl rfl (by omega) ?_
        refine Y_iload_n 37 rfl (pc2 := 68) rfl rfl ?_
        refine Y_iload_n 38 rfl (pc2 := 69) rfl rfl ?_
        refine Y_i2b 39 rfl (pc2 := 70) rfl rfl ?_
        refine Y_bast 40 rfl (pc2 := 71) rfl (ly_shB (by omega)) rfl (by omega) (by decide) (pk_vb _) ?_
        refine Y_iload 41 rfl (pc2 := 73) rfl rfl ?_
        refine Y_iret 42 rfl rfl rfl ⟨rfl, ?_⟩
        exact ⟨by unfold sp_mark; rw [cI_t ⟨s, hs, rfl⟩, nv_nI (k := s) (by omega), cI_f h20, cI_t ⟨i, hi, rfl⟩, nv_nI (k := i) (by omega)], by unfold st_mark; rw [cI_t ⟨⟨s, hs, rfl⟩, by rw [nv_nI (by omega)]; exact h20, by rw [nv_nI (by omega)]; exact ⟨i, hi, rfl⟩⟩, nv_nI (k := s) (by omega), nv_nI (k := i) (by omega)]; exact RC_mark h w hs (by omega), fun a ha => funext fun q => uw_ne (by omega)⟩
      · refine Y_ldc 22 rfl (pc2 := 44) rfl kc_gh_141 ?_
        refine Y_iret 23 rfl rfl rfl ⟨rfl, ?_⟩
        exact pc_bad h (by unfold sp_mark; rw [cI_t ⟨s, hs, rfl⟩, nv_nI (by omega), cI_f h20, cI_f h39]; rfl) (by unfold st_mark; rw [cI_f (fun e => h39 (by have q := e.2.2; rw [nv_nI (by omega)] at q; exact q))])
    · refine Y_ldc 12 rfl (pc2 := 25) rfl kc_gh_134 ?_
      refine Y_iret 13 rfl rfl rfl ⟨rfl, ?_⟩
      exact pc_bad h (by unfold sp_mark; rw [cI_t ⟨s, hs, rfl⟩, nv_nI (by omega), cI_t h20]; rfl) (by unfold st_mark; rw [cI_f (fun e => e.2.1 (by rw [nv_nI (by omega)]; exact h20))])
  · refine Y_ldc 4 rfl (pc2 := 10) rfl kc_gh_75 ?_
    refine Y_iret 5 rfl rfl rfl ⟨rfl, ?_⟩
    exact pc_bad h (by unfold sp_mark; rw [cI_f h5]; rfl) (by unfold st_mark; rw [cI_f (fun e => h5 e.1)])

def hol (N : Nat) (p n : Int32) : Prop := ∃ a b, p = nI a ∧ n = nI b ∧ a + b ≤ N
set_option maxHeartbeats 400000 in
theorem hol_t {N : Nat} {p n : Int32} (hN : N ≤ 16) (h1 : ¬ p < 0) (h2 : ¬ n < 0) (h3 : ¬ nI N < p) (h4 : ¬ nI N - p < n) : hol N p n := by
  obtain ⟨a, ha, rfl⟩ := nI_of h1
  obtain ⟨b, hb, rfl⟩ := nI_of h2
  have h5 := mt (nI_ltI (by omega) ha).mpr h3
  rw [nI_sub (by omega)] at h4
  have h6 := mt (nI_ltI (by omega) hb).mpr h4
  exact ⟨a, b, rfl, rfl, by omega⟩
set_option maxHeartbeats 400000 in
theorem hol_f {N : Nat} {p n : Int32} (hN : N ≤ 16) (h : hol N p n) : ¬ p < 0 ∧ ¬ n < 0 ∧ ¬ nI N < p ∧ ¬ nI N - p < n := by
  obtain ⟨a, b, rfl, rfl, hab⟩ := h
  refine ⟨nI_pos (by omega), nI_pos (by omega), fun e => ?_, fun e => ?_⟩
  · have := (nI_ltI (by omega) (by omega)).mp e; omega
  · rw [nI_sub (by omega)] at e
    have := (nI_ltI (by omega) (by omega)).mp e; omega

set_option maxHeartbeats 400000 in
theorem T_sh_holds {G : Nat × (Nat → Int32)} {m : Mm} {S : Mm} (h : RC m S) (w : WF S) {s : Nat} (hs : s < 2) (hq : ¬ S 165 s = -1) {p n : Int32} : Y G M_sh_holds (0, 0) 0 (en_ M_sh_holds [.ref (149 + 2 * s), .int (p), .int (n)]) [] (LAY, m) (qm_ LAY (pu_ (bI (hol (plc S s) p n)) m)) := by
  change Y _ _ _ _ [some (.ref _), some (.int _), some (.int _)] _ _ _
  have hpl := (plc_is w hs hq).2
  refine Y_iload_n 0 rfl (pc2 := 1) rfl rfl ?_
  refine Y_if_lt 1 rfl (pc2 := 4) rfl (tgt := 30) (by decide) (fun h1 => ?_) (fun h1 => ?_)
  · refine Y_iconst 16 rfl (pc2 := 31) rfl (v := nI 0) (by decide) ?_
    refine Y_iret 17 rfl rfl rfl ⟨rfl, ?_⟩
    first | exact pu_t (hol_t hpl h1 h5 h13 h23) | exact pu_f (fun e => (hol_f hpl e).1 h1) | exact pu_f (fun e => (hol_f hpl e).2.1 h5) | exact pu_f (fun e => (hol_f hpl e).2.2.1 h13) | exact pu_f (fun e => (hol_f hpl e).2.2.2 h23)
  · refine Y_iload_n 2 rfl (pc2 := 5) rfl rfl ?_
    refine Y_if_lt 3 rfl (pc2 := 8) rfl (tgt := 30) (by decide) (fun h5 => ?_) (fun h5 => ?_)
    · refine Y_iconst 16 rfl (pc2 := 31) rfl (v := nI 0) (by decide) ?_
      refine Y_iret 17 rfl rfl rfl ⟨rfl, ?_⟩
      first | exact pu_t (hol_t hpl h1 h5 h13 h23) | exact pu_f (fun e => (hol_f hpl e).1 h1) | exact pu_f (fun e => (hol_f hpl e).2.1 h5) | exact pu_f (fun e => (hol_f hpl e).2.2.1 h13) | exact pu_f (fun e => (hol_f hpl e).2.2.2 h23)
    · refine Y_iload_n 4 rfl (pc2 := 9) rfl rfl ?_
      refine Y_aload_n 5 rfl (pc2 := 10) rfl rfl ?_
      refine Y_getI 6 rfl (pc2 := 13) rfl fl_sh_15 (ly_sh (by omega)) (by decide) rfl ?_
      refine Y_top ((h.sp s hs).trans (plc_is w hs hq).1) ?_
      refine Y_icmp_gt 7 rfl (pc2 := 16) rfl (tgt := 30) (by decide) (fun h13 => ?_) (fun h13 => ?_)
      · refine Y_iconst 16 rfl (pc2 := 31) rfl (v := nI 0) (by decide) ?_
        refine Y_iret 17 rfl rfl rfl ⟨rfl, ?_⟩
        first | exact pu_t (hol_t hpl h1 h5 h13 h23) | exact pu_f (fun e => (hol_f hpl e).1 h1) | exact pu_f (fun e => (hol_f hpl e).2.1 h5) | exact pu_f (fun e => (hol_f hpl e).2.2.1 h13) | exact pu_f (fun e => (hol_f hpl e).2.2.2 h23)
      · refine Y_iload_n 8 rfl (pc2 := 17) rfl rfl ?_
        refine Y_aload_n 9 rfl (pc2 := 18) rfl rfl ?_
        refine Y_getI 10 rfl (pc2 := 21) rfl fl_sh_15 (ly_sh (by omega)) (by decide) rfl ?_
        refine Y_top ((h.sp s hs).trans (plc_is w hs hq).1) ?_
        refine Y_iload_n 11 rfl (pc2 := 22) rfl rfl ?_
        refine Y_isub 12 rfl (pc2 := 23) rfl ?_
        refine Y_icmp_gt 13 rfl (pc2 := 26) rfl (tgt := 30) (by decide) (fun h23 => ?_) (fun h23 => ?_)
        · refine Y_iconst 16 rfl (pc2 := 31) rfl (v := nI 0) (by decide) ?_
          refine Y_iret 17 rfl rfl rfl ⟨rfl, ?_⟩
          first | exact pu_t (hol_t hpl h1 h5 h13 h23) | exact pu_f (fun e => (hol_f hpl e).1 h1) | exact pu_f (fun e => (hol_f hpl e).2.1 h5) | exact pu_f (fun e => (hol_f hpl e).2.2.1 h13) | exact pu_f (fun e => (hol_f hpl e).2.2.2 h23)
        · refine Y_iconst 14 rfl (pc2 := 27) rfl (v := nI 1) (by decide) ?_
          refine Y_goto 15 rfl (pc2 := 31) (by decide) ?_
          refine Y_iret 17 rfl rfl rfl ⟨rfl, ?_⟩
          first | exact pu_t (hol_t hpl h1 h5 h13 h23) | exact pu_f (fun e => (hol_f hpl e).1 h1) | exact pu_f (fun e => (hol_f hpl e).2.1 h5) | exact pu_f (fun e => (hol_f hpl e).2.2.1 h13) | exact pu_f (fun e => (hol_f hpl e).2.2.2 h23)

def coC (S : Mm) (x p y q n : Int32) : Prop := (iR x 2 ∧ iR y 2) ∧ (¬ S 165 (nv x) = -1 ∧ ¬ S 165 (nv y) = -1) ∧ hol (plc S (nv x)) p n ∧ hol (plc S (nv y)) q n
noncomputable def sp_copy (S : Mm) (x p y q n : Int32) : Int32 := cI (iR x 2 ∧ iR y 2) (cI (¬ S 165 (nv x) = -1 ∧ ¬ S 165 (nv y) = -1) (cI (hol (plc S (nv x)) p n ∧ hol (plc S (nv y)) q n) n INDEX_) NOTHING_) BAD_
def cprow (row : Nat → Int32) (u v n : Nat) : Nat → Int32 := fun k => if v ≤ k ∧ k < v + n then row (u + (k - v)) else row k
noncomputable def st_copy (S : Mm) (x p y q n : Int32) : Mm := cI (coC S x p y q n) (ur_ S 166 (cprow (S 166) (16 * nv x + nv p) (16 * nv y + nv q) (nv n))) S

set_option maxHeartbeats 400000 in
theorem RC_copy {m S : Mm} (h : RC m S) (w : WF S) {x y p q n : Nat} (hx : x < 2) (hy : y < 2) (hp : p + n ≤ plc S x) (hq : q + n ≤ plc S y) (hpx : plc S x ≤ 16) (hpy : plc S y ≤ 16) : RC (ur_ m (150 + 2 * y) (va_cpy (m (150 + 2 * x)) (m (150 + 2 * y)) p q n)) (ur_ S 166 (cprow (S 166) (16 * x + p) (16 * y + q) n)) := by
  refine ⟨fun c hc => ?_, fun c b hc hb => ?_, fun c b hc hb => ?_, fun c b hc hb => ?_, fun c b hc hb => ?_, fun l hl => ?_, fun l f g s hl hf hg hs => ?_, fun l f s hl hf hs => ?_, fun l k hl hk => ?_, ?_, fun p hp => ?_, fun p hp => ?_, fun p hp => ?_, fun r hr => ?_, ?_, ?_, fun i hi => ?_, fun s hs => ?_, fun s i hs hi => ?_⟩
  · rw [ur_ne (by omega)]; exact h.b c hc
  · rw [ur_ne (by omega)]; exact h.n c b hc hb
  · rw [ur_ne (by omega)]; exact h.g c b hc hb
  · rw [ur_ne (by omega)]; exact h.t c b hc hb
  · rw [ur_ne (by omega)]; exact h.u c b hc hb
  · rw [ur_ne (by omega)]; exact h.l l hl
  · rw [ur_ne (by omega)]; exact h.r l f g s hl hf hg hs
  · rw [ur_ne (by omega)]; exact h.m l f s hl hf hs
  · rw [ur_ne (by omega)]; exact h.us l k hl hk
  · rw [ur_ne (by omega)]; exact h.p 
  · rw [ur_ne (by omega)]; exact h.c p hp
  · rw [ur_ne (by omega)]; exact h.pt p hp
  · rw [ur_ne (by omega)]; exact h.pl p hp
  · rw [ur_ne (by omega)]; exact h.sg r hr
  · rw [ur_ne (by omega)]; exact h.sn 
  · rw [ur_ne (by omega)]; exact h.tp 
  · rw [ur_ne (by omega)]; exact h.tv i hi
  · rw [ur_ne (by omega)]; exact h.sp s hs
  · have hi3 : i < plc S s := hi
    have hps : plc S s ≤ 16 := by
      by_cases e : S 165 s = -1
      · rw [plc_no e]; omega
      · exact (plc_is w hs e).2
    show _ = (if 16 * y + q ≤ 16 * s + i ∧ 16 * s + i < 16 * y + q + n then S 166 (16 * x + p + (16 * s + i - (16 * y + q))) else S 166 (16 * s + i))
    by_cases e : s = y
    · subst e
      rw [ur_same]
      show (if q ≤ i ∧ i < q + n then m (150 + 2 * x) (p + (i - q)) else m (150 + 2 * s) i) = _
      by_cases c : q ≤ i ∧ i < q + n
      · rw [if_pos c, if_pos (by omega), h.sb x _ hx (by omega)]
        congr 1; omega
      · rw [if_neg c, if_neg (by omega)]; exact h.sb s i hs hi3
    · rw [ur_ne (by omega), if_neg (by omega)]; exact h.sb s i hs hi3

set_option maxHeartbeats 400000 in
theorem WF_copy {S : Mm} (w : WF S) {u v n : Nat} (hu : u + n ≤ 32) : WF (ur_ S 166 (cprow (S 166) u v n)) := by
  refine ⟨fun c hc => ?_, fun i hi => ?_, fun i hi => ?_, fun i hi => ?_, fun i hi => ?_, fun l k hl hk => ?_, ?_, fun p hp => ?_, fun p hp => ?_, fun p hp => ?_, fun p hp => ?_, fun r hr => ?_, ?_, fun i hi => ?_, fun s hs => ?_, fun i hi => ?_, ?_⟩
  · exact w.b c hc
  · exact w.n i hi
  · exact w.g i hi
  · exact w.s i hi
  · exact w.m i hi
  · exact w.u l k hl hk
  · exact w.p 
  · exact w.c p hp
  · exact w.t p hp
  · exact w.t1 p hp
  · exact w.l p hp
  · exact w.r r hr
  · exact w.tp 
  · exact w.tv i hi
  · exact w.pl s hs
  · show (cprow (S 166) u v n i).toInt8.toInt32 = cprow (S 166) u v n i
    unfold cprow
    split
    · exact w.k _ (by omega)
    · exact w.k i hi
  · exact w.sg 

set_option maxHeartbeats 400000 in
theorem T_gh_copy {G : Nat × (Nat → Int32)} {m : Mm} {S : Mm} (h : RC m S) (w : WF S) {x0 p y0 q n : Int32} : Y G M_gh_copy (0, 0) 0 (en_ M_gh_copy [.ref (0), .int (x0), .int (p), .int (y0), .int (q), .int (n)]) [] (LAY, m) (qm_ LAY (pc_ (sp_copy S x0 p y0 q n) m (st_copy S x0 p y0 q n))) := by
  change Y _ _ _ _ [some (.ref _), some (.int _), some (.int _), some (.int _), some (.int _), some (.int _)] _ _ _
  refine Y_iload_n 0 rfl (pc2 := 1) rfl rfl ?_
  refine Y_iconst 1 rfl (pc2 := 2) rfl (v := nI 2) (by decide) ?_
  refine Y_cS 2 rfl (pc2 := 5) rfl ok_gh_isBelow lk_gh_80 vs_gh_isBelow (as := [.int _, .int _]) (rest := []) rfl rfl (T_gh_isBelow (by omega)) ?_
  rintro _ _ ⟨rfl, rfl⟩
  change Y _ _ _ _ _ [.int _] _ _
  refine Y_if_eqb 3 rfl (pc2 := 8) rfl (tgt := 16) (by decide) (fun h5 => ?_) (fun h5 => ?_)
  · refine Y_ldc 8 rfl (pc2 := 18) rfl kc_gh_75 ?_
    refine Y_iret 9 rfl rfl rfl ⟨rfl, ?_⟩
    first | exact pc_bad h (by unfold sp_copy; rw [cI_f (fun e => h5 e.1)]; rfl) (by unfold st_copy; rw [cI_f (fun e => h5 e.1.1)]) | exact pc_bad h (by unfold sp_copy; rw [cI_f (fun e => h13 e.2)]; rfl) (by unfold st_copy; rw [cI_f (fun e => h13 e.1.2)])
  · obtain ⟨x, hx, rfl⟩ := h5
    refine Y_iload_n 4 rfl (pc2 := 9) rfl rfl ?_
    refine Y_iconst 5 rfl (pc2 := 10) rfl (v := nI 2) (by decide) ?_
    refine Y_cS 6 rfl (pc2 := 13) rfl ok_gh_isBelow lk_gh_80 vs_gh_isBelow (as := [.int _, .int _]) (rest := []) rfl rfl (T_gh_isBelow (by omega)) ?_
    rintro _ _ ⟨rfl, rfl⟩
    change Y _ _ _ _ _ [.int _] _ _
    refine Y_if_neb 7 rfl (pc2 := 16) rfl (tgt := 19) (by decide) (fun h13 => ?_) (fun h13 => ?_)
    · obtain ⟨y, hy, rfl⟩ := h13
      refine Y_aload_n 10 rfl (pc2 := 20) rfl rfl ?_
      refine Y_getR 11 rfl (pc2 := 23) rfl fl_gh_58 ly_gh (by decide) rfl rfl (by omega) ?_
      refine Y_iload_n 12 rfl (pc2 := 24) rfl rfl ?_
      refine Y_aald 13 rfl (pc2 := 25) rfl ly_ghS (by decide) (fun _ => rfl) rfl (by omega) (by decide) (ly_ghS_at (by omega)) (by omega) ?_
      refine Y_cV 14 rfl (pc2 := 28) rfl ok_sh_isMissing lk_gh_130 vi_sh_isMissing (ly_sh (by omega)) rfl (by decide) rfl (as := []) (rest := []) rfl rfl (T_sh_isMissing h w (by omega)) ?_
      rintro _ _ ⟨rfl, rfl⟩
      change Y _ _ _ _ _ [.int _] _ _
      refine Y_if_neb 15 rfl (pc2 := 31) rfl (tgt := 43) (by decide) (fun h28 => ?_) (fun h28 => ?_)
      · refine Y_ldc 22 rfl (pc2 := 45) rfl kc_gh_134 ?_
        refine Y_iret 23 rfl rfl rfl ⟨rfl, ?_⟩
        first
          | exact pc_bad h (by unfold sp_copy; rw [cI_t ⟨⟨x, hx, rfl⟩, ⟨y, hy, rfl⟩⟩, cI_f (fun e => e.1 (by rw [nv_nI (by omega)]; exact h28))]; rfl) (by unfold st_copy; rw [cI_f (fun e => e.2.1.1 (by rw [nv_nI (by omega)]; exact h28))])
          | exact pc_bad h (by unfold sp_copy; rw [cI_t ⟨⟨x, hx, rfl⟩, ⟨y, hy, rfl⟩⟩, cI_f (fun e => e.2 (by rw [nv_nI (by omega)]; exact h40))]; rfl) (by unfold st_copy; rw [cI_f (fun e => e.2.1.2 (by rw [nv_nI (by omega)]; exact h40))])
      · refine Y_aload_n 16 rfl (pc2 := 32) rfl rfl ?_
        refine Y_getR 17 rfl (pc2 := 35) rfl fl_gh_58 ly_gh (by decide) rfl rfl (by omega) ?_
        refine Y_iload_n 18 rfl (pc2 := 36) rfl rfl ?_
        refine Y_aald 19 rfl (pc2 := 37) rfl ly_ghS (by decide) (fun _ => rfl) rfl (by omega) (by decide) (ly_ghS_at (by omega)) (by omega) ?_
        refine Y_cV 20 rfl (pc2 := 40) rfl ok_sh_isMissing lk_gh_130 vi_sh_isMissing (ly_sh (by omega)) rfl (by decide) rfl (as := []) (rest := []) rfl rfl (T_sh_isMissing h w (by omega)) ?_
        rintro _ _ ⟨rfl, rfl⟩
        change Y _ _ _ _ _ [.int _] _ _
        refine Y_if_eqb 21 rfl (pc2 := 43) rfl (tgt := 46) (by decide) (fun h40 => ?_) (fun h40 => ?_)
        · have hpx := (plc_is w hx h28).2
          have hpy := (plc_is w hy h40).2
          refine Y_aload_n 24 rfl (pc2 := 47) rfl rfl ?_
          refine Y_getR 25 rfl (pc2 := 50) rfl fl_gh_58 ly_gh (by decide) rfl rfl (by omega) ?_
          refine Y_iload_n 26 rfl (pc2 := 51) rfl rfl ?_
          refine Y_aald 27 rfl (pc2 := 52) rfl ly_ghS (by decide) (fun _ => rfl) rfl (by omega) (by decide) (ly_ghS_at (by omega)) (by omega) ?_
          refine Y_iload_n 28 rfl (pc2 := 53) rfl rfl ?_
          refine Y_iload 29 rfl (pc2 := 55) rfl rfl ?_
          refine Y_cV 30 rfl (pc2 := 58) rfl ok_sh_holds lk_gh_249 vi_sh_holds (ly_sh (by omega)) rfl (by decide) rfl (as := [.int _, .int _]) (rest := []) rfl rfl (T_sh_holds h w hx h28) ?_
          rintro _ _ ⟨rfl, rfl⟩
          change Y _ _ _ _ _ [.int _] _ _
          refine Y_if_eqb 31 rfl (pc2 := 61) rfl (tgt := 77) (by decide) (fun h58 => ?_) (fun h58 => ?_)
          · refine Y_ldc 40 rfl (pc2 := 79) rfl kc_gh_141 ?_
            refine Y_iret 41 rfl rfl rfl ⟨rfl, ?_⟩
            first
              | exact pc_bad h (by unfold sp_copy; rw [cI_t ⟨⟨x, hx, rfl⟩, ⟨y, hy, rfl⟩⟩, nv_nI (k := x) (by omega), nv_nI (k := y) (by omega), cI_t ⟨h28, h40⟩, cI_f (fun e => h58 e.1)]; rfl) (by unfold st_copy; rw [cI_f (fun e => h58 (by have z := e.2.2.1; rw [nv_nI (by omega)] at z; exact z))])
              | exact pc_bad h (by unfold sp_copy; rw [cI_t ⟨⟨x, hx, rfl⟩, ⟨y, hy, rfl⟩⟩, nv_nI (k := x) (by omega), nv_nI (k := y) (by omega), cI_t ⟨h28, h40⟩, cI_f (fun e => h74 e.2)]; rfl) (by unfold st_copy; rw [cI_f (fun e => h74 (by have z := e.2.2.2; rw [nv_nI (by omega)] at z; exact z))])
          · refine Y_aload_n 32 rfl (pc2 := 62) rfl rfl ?_
            refine Y_getR 33 rfl (pc2 := 65) rfl fl_gh_58 ly_gh (by decide) rfl rfl (by omega) ?_
            refine Y_iload_n 34 rfl (pc2 := 66) rfl rfl ?_
            refine Y_aald 35 rfl (pc2 := 67) rfl ly_ghS (by decide) (fun _ => rfl) rfl (by omega) (by decide) (ly_ghS_at (by omega)) (by omega) ?_
            refine Y_iload 36 rfl (pc2 := 69) rfl rfl ?_
            refine Y_iload 37 rfl (pc2 := 71) rfl rfl ?_
            refine Y_cV 38 rfl (pc2 := 74) rfl ok_sh_holds lk_gh_249 vi_sh_holds (ly_sh (by omega)) rfl (by decide) rfl (as := [.int _, .int _]) (rest := []) rfl rfl (T_sh_holds h w hy h40) ?_
            rintro _ _ ⟨rfl, rfl⟩
            change Y _ _ _ _ _ [.int _] _ _
            refine Y_if_neb 39 rfl (pc2 := 77) rfl (tgt := 80) (by decide) (fun h74 => ?_) (fun h74 => ?_)
            · obtain ⟨a, b, rfl, rfl, hab⟩ := h58
              obtain ⟨d, b2, rfl, hb2, hdb⟩ := h74
              have hbb : b = b2 := (nI_eq (by omega) (by omega)).mp hb2
              subst hbb
              refine Y_aload_n 42 rfl (pc2 := 81) rfl rfl ?_
              refine Y_getR 43 rfl (pc2 := 84) rfl fl_gh_58 ly_gh (by decide) rfl rfl (by omega) ?_
              refine Y_iload_n 44 rfl (pc2 := 85) rfl rfl ?_
              refine Y_aald 45 rfl (pc2 := 86) rfl ly_ghS (by decide) (fun _ => rfl) rfl (by omega) (by decide) (ly_ghS_at (by omega)) (by omega) ?_
              refine Y_getR 46 rfl (pc2 := 89) rfl fl_gh_245 (ly_sh (by omega)) (by decide) rfl rfl (by omega) ?_
              refine Y_iload_n 47 rfl (pc2 := 90) rfl rfl ?_
              refine Y_aload_n 48 rfl (pc2 := 91) rfl rfl ?_
              refine Y_getR 49 rfl (pc2 := 94) rfl fl_gh_58 ly_gh (by decide) rfl rfl (by omega) ?_
              refine Y_iload_n 50 rfl (pc2 := 95) rfl rfl ?_
              refine Y_aald 51 rfl (pc2 := 96) rfl ly_ghS (by decide) (fun _ => rfl) rfl (by omega) (by decide) (ly_ghS_at (by omega)) (by omega) ?_
              refine Y_getR 52 rfl (pc2 := 99) rfl fl_gh_245 (ly_sh (by omega)) (by decide) rfl rfl (by omega) ?_
              refine Y_iload 53 rfl (pc2 := 101) rfl rfl ?_
              refine Y_iload 54 rfl (pc2 := 103) rfl rfl ?_
              refine Y_copy_b 55 rfl (pc2 := 106) rfl lk_gh_252 jd_an jd_as jd_si (ly_shB (by omega)) (ly_shB (by omega)) rfl rfl rfl (by omega) (by omega) (by decide) (by decide) (fun q hq => by rw [h.sb x _ hx (by omega), ← w.k _ (by omega)]; exact pk_fb _) (by decide) (Nat.le_of_ble_eq_true rfl) ?_
              refine Y_iload 56 rfl (pc2 := 108) rfl rfl ?_
              refine Y_iret 57 rfl rfl rfl ⟨rfl, ?_⟩
              exact ⟨by unfold sp_copy; rw [cI_t ⟨⟨x, hx, rfl⟩, ⟨y, hy, rfl⟩⟩, nv_nI (k := x) (by omega), nv_nI (k := y) (by omega), cI_t ⟨h28, h40⟩, cI_t ⟨⟨a, b, rfl, rfl, hab⟩, ⟨d, b, rfl, rfl, hdb⟩⟩], by unfold st_copy; rw [cI_t (show coC _ _ _ _ _ _ from ⟨⟨⟨x, hx, rfl⟩, ⟨y, hy, rfl⟩⟩, ⟨by rw [nv_nI (by omega)]; exact h28, by rw [nv_nI (by omega)]; exact h40⟩, by rw [nv_nI (by omega)]; exact ⟨a, b, rfl, rfl, hab⟩, by rw [nv_nI (by omega)]; exact ⟨d, b, rfl, rfl, hdb⟩⟩), nv_nI (k := x) (by omega), nv_nI (k := y) (by omega), nv_nI (k := a) (by omega), nv_nI (k := b) (by omega), nv_nI (k := d) (by omega)]; exact RC_copy h w hx hy hab hdb hpx hpy, fun a ha => by show ur_ _ _ _ a = _; rw [ur_ne (by omega)]⟩
            · refine Y_ldc 40 rfl (pc2 := 79) rfl kc_gh_141 ?_
              refine Y_iret 41 rfl rfl rfl ⟨rfl, ?_⟩
              first
                | exact pc_bad h (by unfold sp_copy; rw [cI_t ⟨⟨x, hx, rfl⟩, ⟨y, hy, rfl⟩⟩, nv_nI (k := x) (by omega), nv_nI (k := y) (by omega), cI_t ⟨h28, h40⟩, cI_f (fun e => h58 e.1)]; rfl) (by unfold st_copy; rw [cI_f (fun e => h58 (by have z := e.2.2.1; rw [nv_nI (by omega)] at z; exact z))])
                | exact pc_bad h (by unfold sp_copy; rw [cI_t ⟨⟨x, hx, rfl⟩, ⟨y, hy, rfl⟩⟩, nv_nI (k := x) (by omega), nv_nI (k := y) (by omega), cI_t ⟨h28, h40⟩, cI_f (fun e => h74 e.2)]; rfl) (by unfold st_copy; rw [cI_f (fun e => h74 (by have z := e.2.2.2; rw [nv_nI (by omega)] at z; exact z))])
        · refine Y_ldc 22 rfl (pc2 := 45) rfl kc_gh_134 ?_
          refine Y_iret 23 rfl rfl rfl ⟨rfl, ?_⟩
          first
            | exact pc_bad h (by unfold sp_copy; rw [cI_t ⟨⟨x, hx, rfl⟩, ⟨y, hy, rfl⟩⟩, cI_f (fun e => e.1 (by rw [nv_nI (by omega)]; exact h28))]; rfl) (by unfold st_copy; rw [cI_f (fun e => e.2.1.1 (by rw [nv_nI (by omega)]; exact h28))])
            | exact pc_bad h (by unfold sp_copy; rw [cI_t ⟨⟨x, hx, rfl⟩, ⟨y, hy, rfl⟩⟩, cI_f (fun e => e.2 (by rw [nv_nI (by omega)]; exact h40))]; rfl) (by unfold st_copy; rw [cI_f (fun e => e.2.1.2 (by rw [nv_nI (by omega)]; exact h40))])
    · refine Y_ldc 8 rfl (pc2 := 18) rfl kc_gh_75 ?_
      refine Y_iret 9 rfl rfl rfl ⟨rfl, ?_⟩
      first | exact pc_bad h (by unfold sp_copy; rw [cI_f (fun e => h5 e.1)]; rfl) (by unfold st_copy; rw [cI_f (fun e => h5 e.1.1)]) | exact pc_bad h (by unfold sp_copy; rw [cI_f (fun e => h13 e.2)]; rfl) (by unfold st_copy; rw [cI_f (fun e => h13 e.1.2)])
end
section
/-! the class: laying, feeding -/
def flf (row : Nat → Int32) (n : Nat) (f : Nat → Int32) : Nat → Int32 := fun k => if k < n then f k else row k
set_option maxHeartbeats 400000 in
theorem flf_s {m : Mm} {a i : Nat} {f : Nat → Int32} : uw_ (ur_ m a (flf (m a) i f)) a i (f i) = ur_ m a (flf (m a) (i + 1) f) := by
  funext b k
  by_cases hb : b = a
  · subst hb
    by_cases hk : k = i
    · subst hk
      rw [uw_same]
      simp [ur_, flf]
    · rw [uw_ne (by omega)]
      simp only [ur_, flf, if_true]
      by_cases h1 : k < i
      · rw [if_pos h1, if_pos (by omega)]
      · rw [if_neg h1, if_neg (by omega)]
  · rw [uw_ne (by omega)]
    simp [ur_, hb]
set_option maxHeartbeats 400000 in
theorem flf_0 {m : Mm} {a : Nat} {f : Nat → Int32} : m = ur_ m a (flf (m a) 0 f) := by
  funext b k
  by_cases hb : b = a
  · subst hb; simp [ur_, flf]
  · simp [ur_, hb]
noncomputable def vS (S : Mm) (s k : Nat) : Int32 := cI (k < plc S s ∧ (-4 ≤ S 166 (16 * s + k) ∧ S 166 (16 * s + k) ≤ nI 4)) (S 166 (16 * s + k)) (-9)
set_option maxHeartbeats 400000 in
theorem vS_isS {S : Mm} {s k : Nat} : isS (vS S s k) := by
  unfold vS
  by_cases h : k < plc S s ∧ (-4 ≤ S 166 (16 * s + k) ∧ S 166 (16 * s + k) ≤ nI 4)
  · rw [cI_t h]; exact Or.inr (sh_is h.2)
  · rw [cI_f h]; exact Or.inl rfl
set_option maxHeartbeats 400000 in
theorem vS_t {S : Mm} {s k : Nat} (h : k < plc S s ∧ (-4 ≤ S 166 (16 * s + k) ∧ S 166 (16 * s + k) ≤ nI 4)) : oS (vS S s k) = S 166 (16 * s + k) := by
  unfold vS
  rw [cI_t h]
  have := mtd_oS (Or.inr h.2)
  unfold mtd at this
  have e : ¬ S 166 (16 * s + k) = NONE_ := by
    intro q
    rw [q] at h
    exact absurd h.2.1 (by decide)
  rw [if_neg e] at this
  exact this.symm
set_option maxHeartbeats 400000 in
theorem vS_f {S : Mm} {s k : Nat} (h : ¬ (k < plc S s ∧ (-4 ≤ S 166 (16 * s + k) ∧ S 166 (16 * s + k) ≤ nI 4))) : oS (vS S s k) = NONE_ := by
  unfold vS
  rw [cI_f h]; rfl
noncomputable def layS (S : Mm) (l f g s : Nat) : Mm := ur_ S 157 (fun k => if ix l f g 0 ≤ k ∧ k < ix l f g 0 + 2 ^ (l + 1) then vS S s (k - ix l f g 0) else S 157 k)
set_option maxHeartbeats 400000 in
theorem lay_at {S : Mm} {l f g s i : Nat} (hi : i < 2 ^ (l + 1)) : layS S l f g s 157 (ix l f g i) = vS S s i := by
  show (if ix l f g 0 ≤ ix l f g i ∧ ix l f g i < ix l f g 0 + 2 ^ (l + 1) then vS S s (ix l f g i - ix l f g 0) else _) = _
  have e : ix l f g i - ix l f g 0 = i := by unfold ix; omega
  rw [if_pos (by unfold ix; omega), e]

set_option maxHeartbeats 400000 in
theorem RC_lay {m S : Mm} (h : RC m S) (w : WF S) {l0 f0 g0 s0 : Nat} (hl0 : l0 < 4) (hf0 : f0 < 6) (hg0 : g0 < 2) : RC (ur_ m (45 + 27 * l0 + 4 * f0 + g0) (flf (m (45 + 27 * l0 + 4 * f0 + g0)) (2 ^ (l0 + 1)) (fun k => oS (vS S s0 k)))) (layS S l0 f0 g0 s0) := by
  refine ⟨fun c hc => ?_, fun c b hc hb => ?_, fun c b hc hb => ?_, fun c b hc hb => ?_, fun c b hc hb => ?_, fun l hl => ?_, fun l f g s hl hf hg hs => ?_, fun l f s hl hf hs => ?_, fun l k hl hk => ?_, ?_, fun p hp => ?_, fun p hp => ?_, fun p hp => ?_, fun r hr => ?_, ?_, ?_, fun i hi => ?_, fun s hs => ?_, fun s i hs hi => ?_⟩
  · rw [ur_ne (by omega)]; exact h.b c hc
  · rw [ur_ne (by omega)]; exact h.n c b hc hb
  · rw [ur_ne (by omega)]; exact h.g c b hc hb
  · rw [ur_ne (by omega)]; exact h.t c b hc hb
  · rw [ur_ne (by omega)]; exact h.u c b hc hb
  · rw [ur_ne (by intro q9; rcases (by omega : l = l0 ∨ l + 1 ≤ l0 ∨ l0 + 1 ≤ l) with q | q | q <;> omega)]; exact h.l l hl
  · have hz := sz_16 hl
    have hz0 := sz_16 hl0
    by_cases e : l = l0 ∧ f = f0 ∧ g = g0
    · obtain ⟨rfl, rfl, rfl⟩ := e
      rw [ur_same, lay_at hs]
      unfold flf
      rw [if_pos hs]
    · rw [ur_ne (by intro q9; rcases (by omega : l = l0 ∨ l + 1 ≤ l0 ∨ l0 + 1 ≤ l) with q | q | q <;> rcases (by omega : f = f0 ∨ f + 1 ≤ f0 ∨ f0 + 1 ≤ f) with q2 | q2 | q2 <;> omega)]
      show _ = oS (if ix l0 f0 g0 0 ≤ ix l f g s ∧ ix l f g s < ix l0 f0 g0 0 + 2 ^ (l0 + 1) then _ else S 157 (ix l f g s))
      rw [if_neg (by unfold ix; omega)]
      exact h.r l f g s hl hf hg hs
  · rw [ur_ne (by intro q9; rcases (by omega : l = l0 ∨ l + 1 ≤ l0 ∨ l0 + 1 ≤ l) with q | q | q <;> rcases (by omega : f = f0 ∨ f + 1 ≤ f0 ∨ f0 + 1 ≤ f) with q2 | q2 | q2 <;> omega)]; exact h.m l f s hl hf hs
  · rw [ur_ne (by intro q9; rcases (by omega : l = l0 ∨ l + 1 ≤ l0 ∨ l0 + 1 ≤ l) with q | q | q <;> omega)]; exact h.us l k hl hk
  · rw [ur_ne (by omega)]; exact h.p 
  · rw [ur_ne (by omega)]; exact h.c p hp
  · rw [ur_ne (by omega)]; exact h.pt p hp
  · rw [ur_ne (by omega)]; exact h.pl p hp
  · rw [ur_ne (by omega)]; exact h.sg r hr
  · rw [ur_ne (by omega)]; exact h.sn 
  · rw [ur_ne (by omega)]; exact h.tp 
  · rw [ur_ne (by omega)]; exact h.tv i hi
  · rw [ur_ne (by omega)]; exact h.sp s hs
  · rw [ur_ne (by omega)]; exact h.sb s i hs hi

set_option maxHeartbeats 400000 in
theorem WF_lay {S : Mm} (w : WF S) {l0 f0 g0 s0 : Nat} : WF (layS S l0 f0 g0 s0) := by
  refine ⟨fun c hc => ?_, fun i hi => ?_, fun i hi => ?_, fun i hi => ?_, fun i hi => ?_, fun l k hl hk => ?_, ?_, fun p hp => ?_, fun p hp => ?_, fun p hp => ?_, fun p hp => ?_, fun r hr => ?_, ?_, fun i hi => ?_, fun s hs => ?_, fun i hi => ?_, ?_⟩
  · exact w.b c hc
  · exact w.n i hi
  · exact w.g i hi
  · show isS (if ix l0 f0 g0 0 ≤ i ∧ i < ix l0 f0 g0 0 + 2 ^ (l0 + 1) then _ else S 157 i)
    split
    · exact vS_isS
    · exact w.s i hi
  · exact w.m i hi
  · exact w.u l k hl hk
  · exact w.p 
  · exact w.c p hp
  · exact w.t p hp
  · exact w.t1 p hp
  · exact w.l p hp
  · exact w.r r hr
  · exact w.tp 
  · exact w.tv i hi
  · exact w.pl s hs
  · exact w.k i hi
  · exact w.sg 

set_option maxHeartbeats 400000 in
theorem L_takeRow {G : Nat × (Nat → Int32)} {m : Mm} {S : Mm} (h : RC m S) (w : WF S) {l f g s : Nat} (hl : l < 4) (hf : f < 6) (hg : g < 2) (hs : s < 2) (hq : ¬ S 165 s = -1) : ∀ i, i ≤ 2 ^ (l + 1) → ∀ (u : Option Value), Y G M_fi_takeRow (0, 0) 9 [some (.ref (44 + 27 * l + 4 * f)), some (.int (nI g)), some (.ref (149 + 2 * s)), some (.ref (45 + 27 * l + 4 * f + g)), some (.int (nI i)), u] [] (LAY, ur_ m (45 + 27 * l + 4 * f + g) (flf (m (45 + 27 * l + 4 * f + g)) i (fun k => oS (vS S s k)))) (qm_ LAY (pf_ (ur_ m (45 + 27 * l + 4 * f + g) (flf (m (45 + 27 * l + 4 * f + g)) (2 ^ (l + 1)) (fun k => oS (vS S s k)))))) := by
  have hz := sz_16 hl
  have hpl := (plc_is w hs hq).2
  refine ind_ (fun i hi ih u => ?_)
  refine Y_iload 6 rfl (pc2 := 11) rfl rfl ?_
  refine Y_aload_n 7 rfl (pc2 := 12) rfl rfl ?_
  refine Y_alen_i 8 rfl (pc2 := 13) rfl (ly_fiR (by omega) (by omega) (by omega)) rfl ?_
  refine Y_icmp_gen 9 rfl (pc2 := 16) rfl (tgt := 72) (by decide) (by omega) (by omega) (fun h13 => ?_) (fun h13 => ?_)
  · refine Y_vret 37 rfl rfl ⟨rfl, ?_⟩
    exact ⟨rfl, by rw [show i = 2 ^ (l + 1) by omega]⟩
  · refine Y_iload 10 rfl (pc2 := 18) rfl rfl ?_
    refine Y_aload_n 11 rfl (pc2 := 19) rfl rfl ?_
    refine Y_getI 12 rfl (pc2 := 22) rfl fl_fi_33 (ly_sh (by omega)) (by decide) rfl ?_
    refine Y_top ((congrFun (ur_ne (by omega)) _).trans ((h.sp s hs).trans (plc_is w hs hq).1)) ?_
    refine Y_icmp_gen 13 rfl (pc2 := 25) rfl (tgt := 42) (by decide) (by omega) (by omega) (fun h22 => ?_) (fun h22 => ?_)
    · refine Y_iconst 22 rfl (pc2 := 43) rfl (v := nI 0) (by decide) ?_
      refine Y_istore 23 rfl (pc2 := 45) rfl (Nat.le_of_ble_eq_true rfl) (ls2 := [some (.ref _), some (.int _), some (.ref _), some (.ref _), some (.int _), some (.int _)]) rfl ?_
      refine Y_aload_n 24 rfl (pc2 := 46) rfl rfl ?_
      refine Y_iload 25 rfl (pc2 := 48) rfl rfl ?_
      refine Y_iload 26 rfl (pc2 := 50) rfl rfl ?_
      refine Y_if_eqn 27 rfl (pc2 := 53) rfl (tgt := 63) (by decide) (by omega) (fun h50 => ?_) (fun h50 => ?_)
      · refine Y_ldc 33 rfl (pc2 := 65) rfl kc_fi_22 ?_
        refine Y_iast 34 rfl (pc2 := 66) rfl (ly_fiR (by omega) (by omega) (by omega)) rfl (by omega) (sz_lt (by omega)) rfl ?_
        refine Y_iinc 35 rfl (pc2 := 69) rfl rfl (nI_inc _ 1) (ls2 := [some (.ref _), some (.int _), some (.ref _), some (.ref _), some (.int _), some (.int _)]) rfl ?_
        refine Y_goto 36 rfl (pc2 := 9) (by decide) ?_
        first
          | omega
          | exact (by
              have e : oS (vS S s i) = S 166 (16 * s + i) := vS_t ⟨by omega, h35⟩
              have hi2 := ih (i + 1) (by omega) (by omega) (some (.int (nI 1)))
              rw [← flf_s] at hi2
              simp only [e] at hi2
              exact hi2)
          | exact (by
              have e : oS (vS S s i) = NONE_ := vS_f (fun q => h35 q.2)
              have hi2 := ih (i + 1) (by omega) (by omega) (some (.int (nI 0)))
              rw [← flf_s] at hi2
              simp only [e] at hi2
              exact hi2)
          | exact (by
              have e : oS (vS S s i) = NONE_ := vS_f (fun q => absurd q.1 (by omega))
              have hi2 := ih (i + 1) (by omega) (by omega) (some (.int (nI 0)))
              rw [← flf_s] at hi2
              simp only [e] at hi2
              exact hi2)
      · refine Y_aload_n 28 rfl (pc2 := 54) rfl rfl ?_
        refine Y_getR 29 rfl (pc2 := 57) rfl fl_fi_39 (ly_sh (by omega)) (by decide) rfl rfl (by omega) ?_
        refine Y_iload 30 rfl (pc2 := 59) rfl rfl ?_
        refine Y_bald 31 rfl (pc2 := 60) rfl (ly_shB (by omega)) rfl (by omega) (by decide) ?_
        refine Y_top ((congrFun (ur_ne (by omega)) _).trans (h.sb s i hs (by omega))) ?_
        refine Y_goto 32 rfl (pc2 := 65) (by decide) ?_
        refine Y_iast 34 rfl (pc2 := 66) rfl (ly_fiR (by omega) (by omega) (by omega)) rfl (by omega) (sz_lt (by omega)) rfl ?_
        refine Y_iinc 35 rfl (pc2 := 69) rfl rfl (nI_inc _ 1) (ls2 := [some (.ref _), some (.int _), some (.ref _), some (.ref _), some (.int _), some (.int _)]) rfl ?_
        refine Y_goto 36 rfl (pc2 := 9) (by decide) ?_
        first
          | omega
          | exact (by
              have e : oS (vS S s i) = S 166 (16 * s + i) := vS_t ⟨by omega, h35⟩
              have hi2 := ih (i + 1) (by omega) (by omega) (some (.int (nI 1)))
              rw [← flf_s] at hi2
              simp only [e] at hi2
              exact hi2)
          | exact (by
              have e : oS (vS S s i) = NONE_ := vS_f (fun q => h35 q.2)
              have hi2 := ih (i + 1) (by omega) (by omega) (some (.int (nI 0)))
              rw [← flf_s] at hi2
              simp only [e] at hi2
              exact hi2)
          | exact (by
              have e : oS (vS S s i) = NONE_ := vS_f (fun q => absurd q.1 (by omega))
              have hi2 := ih (i + 1) (by omega) (by omega) (some (.int (nI 0)))
              rw [← flf_s] at hi2
              simp only [e] at hi2
              exact hi2)
    · refine Y_aload_n 14 rfl (pc2 := 26) rfl rfl ?_
      refine Y_getR 15 rfl (pc2 := 29) rfl fl_fi_39 (ly_sh (by omega)) (by decide) rfl rfl (by omega) ?_
      refine Y_iload 16 rfl (pc2 := 31) rfl rfl ?_
      refine Y_bald 17 rfl (pc2 := 32) rfl (ly_shB (by omega)) rfl (by omega) (by decide) ?_
      refine Y_top ((congrFun (ur_ne (by omega)) _).trans (h.sb s i hs (by omega))) ?_
      refine Y_cS 18 rfl (pc2 := 35) rfl ok_gh_isShift lk_fi_43 vs_gh_isShift (as := [.int _]) (rest := []) rfl rfl T_gh_isShift ?_
      rintro _ _ ⟨rfl, rfl⟩
      change Y _ _ _ _ _ [.int _] _ _
      refine Y_if_eqb 19 rfl (pc2 := 38) rfl (tgt := 42) (by decide) (fun h35 => ?_) (fun h35 => ?_)
      · refine Y_iconst 22 rfl (pc2 := 43) rfl (v := nI 0) (by decide) ?_
        refine Y_istore 23 rfl (pc2 := 45) rfl (Nat.le_of_ble_eq_true rfl) (ls2 := [some (.ref _), some (.int _), some (.ref _), some (.ref _), some (.int _), some (.int _)]) rfl ?_
        refine Y_aload_n 24 rfl (pc2 := 46) rfl rfl ?_
        refine Y_iload 25 rfl (pc2 := 48) rfl rfl ?_
        refine Y_iload 26 rfl (pc2 := 50) rfl rfl ?_
        refine Y_if_eqn 27 rfl (pc2 := 53) rfl (tgt := 63) (by decide) (by omega) (fun h50 => ?_) (fun h50 => ?_)
        · refine Y_ldc 33 rfl (pc2 := 65) rfl kc_fi_22 ?_
          refine Y_iast 34 rfl (pc2 := 66) rfl (ly_fiR (by omega) (by omega) (by omega)) rfl (by omega) (sz_lt (by omega)) rfl ?_
          refine Y_iinc 35 rfl (pc2 := 69) rfl rfl (nI_inc _ 1) (ls2 := [some (.ref _), some (.int _), some (.ref _), some (.ref _), some (.int _), some (.int _)]) rfl ?_
          refine Y_goto 36 rfl (pc2 := 9) (by decide) ?_
          first
            | omega
            | exact (by
                have e : oS (vS S s i) = S 166 (16 * s + i) := vS_t ⟨by omega, h35⟩
                have hi2 := ih (i + 1) (by omega) (by omega) (some (.int (nI 1)))
                rw [← flf_s] at hi2
                simp only [e] at hi2
                exact hi2)
            | exact (by
                have e : oS (vS S s i) = NONE_ := vS_f (fun q => h35 q.2)
                have hi2 := ih (i + 1) (by omega) (by omega) (some (.int (nI 0)))
                rw [← flf_s] at hi2
                simp only [e] at hi2
                exact hi2)
            | exact (by
                have e : oS (vS S s i) = NONE_ := vS_f (fun q => absurd q.1 (by omega))
                have hi2 := ih (i + 1) (by omega) (by omega) (some (.int (nI 0)))
                rw [← flf_s] at hi2
                simp only [e] at hi2
                exact hi2)
        · refine Y_aload_n 28 rfl (pc2 := 54) rfl rfl ?_
          refine Y_getR 29 rfl (pc2 := 57) rfl fl_fi_39 (ly_sh (by omega)) (by decide) rfl rfl (by omega) ?_
          refine Y_iload 30 rfl (pc2 := 59) rfl rfl ?_
          refine Y_bald 31 rfl (pc2 := 60) rfl (ly_shB (by omega)) rfl (by omega) (by decide) ?_
          refine Y_top ((congrFun (ur_ne (by omega)) _).trans (h.sb s i hs (by omega))) ?_
          refine Y_goto 32 rfl (pc2 := 65) (by decide) ?_
          refine Y_iast 34 rfl (pc2 := 66) rfl (ly_fiR (by omega) (by omega) (by omega)) rfl (by omega) (sz_lt (by omega)) rfl ?_
          refine Y_iinc 35 rfl (pc2 := 69) rfl rfl (nI_inc _ 1) (ls2 := [some (.ref _), some (.int _), some (.ref _), some (.ref _), some (.int _), some (.int _)]) rfl ?_
          refine Y_goto 36 rfl (pc2 := 9) (by decide) ?_
          first
            | omega
            | exact (by
                have e : oS (vS S s i) = S 166 (16 * s + i) := vS_t ⟨by omega, h35⟩
                have hi2 := ih (i + 1) (by omega) (by omega) (some (.int (nI 1)))
                rw [← flf_s] at hi2
                simp only [e] at hi2
                exact hi2)
            | exact (by
                have e : oS (vS S s i) = NONE_ := vS_f (fun q => h35 q.2)
                have hi2 := ih (i + 1) (by omega) (by omega) (some (.int (nI 0)))
                rw [← flf_s] at hi2
                simp only [e] at hi2
                exact hi2)
            | exact (by
                have e : oS (vS S s i) = NONE_ := vS_f (fun q => absurd q.1 (by omega))
                have hi2 := ih (i + 1) (by omega) (by omega) (some (.int (nI 0)))
                rw [← flf_s] at hi2
                simp only [e] at hi2
                exact hi2)
      · refine Y_iconst 20 rfl (pc2 := 39) rfl (v := nI 1) (by decide) ?_
        refine Y_goto 21 rfl (pc2 := 43) (by decide) ?_
        refine Y_istore 23 rfl (pc2 := 45) rfl (Nat.le_of_ble_eq_true rfl) (ls2 := [some (.ref _), some (.int _), some (.ref _), some (.ref _), some (.int _), some (.int _)]) rfl ?_
        refine Y_aload_n 24 rfl (pc2 := 46) rfl rfl ?_
        refine Y_iload 25 rfl (pc2 := 48) rfl rfl ?_
        refine Y_iload 26 rfl (pc2 := 50) rfl rfl ?_
        refine Y_if_eqn 27 rfl (pc2 := 53) rfl (tgt := 63) (by decide) (by omega) (fun h50 => ?_) (fun h50 => ?_)
        · refine Y_ldc 33 rfl (pc2 := 65) rfl kc_fi_22 ?_
          refine Y_iast 34 rfl (pc2 := 66) rfl (ly_fiR (by omega) (by omega) (by omega)) rfl (by omega) (sz_lt (by omega)) rfl ?_
          refine Y_iinc 35 rfl (pc2 := 69) rfl rfl (nI_inc _ 1) (ls2 := [some (.ref _), some (.int _), some (.ref _), some (.ref _), some (.int _), some (.int _)]) rfl ?_
          refine Y_goto 36 rfl (pc2 := 9) (by decide) ?_
          first
            | omega
            | exact (by
                have e : oS (vS S s i) = S 166 (16 * s + i) := vS_t ⟨by omega, h35⟩
                have hi2 := ih (i + 1) (by omega) (by omega) (some (.int (nI 1)))
                rw [← flf_s] at hi2
                simp only [e] at hi2
                exact hi2)
            | exact (by
                have e : oS (vS S s i) = NONE_ := vS_f (fun q => h35 q.2)
                have hi2 := ih (i + 1) (by omega) (by omega) (some (.int (nI 0)))
                rw [← flf_s] at hi2
                simp only [e] at hi2
                exact hi2)
            | exact (by
                have e : oS (vS S s i) = NONE_ := vS_f (fun q => absurd q.1 (by omega))
                have hi2 := ih (i + 1) (by omega) (by omega) (some (.int (nI 0)))
                rw [← flf_s] at hi2
                simp only [e] at hi2
                exact hi2)
        · refine Y_aload_n 28 rfl (pc2 := 54) rfl rfl ?_
          refine Y_getR 29 rfl (pc2 := 57) rfl fl_fi_39 (ly_sh (by omega)) (by decide) rfl rfl (by omega) ?_
          refine Y_iload 30 rfl (pc2 := 59) rfl rfl ?_
          refine Y_bald 31 rfl (pc2 := 60) rfl (ly_shB (by omega)) rfl (by omega) (by decide) ?_
          refine Y_top ((congrFun (ur_ne (by omega)) _).trans (h.sb s i hs (by omega))) ?_
          refine Y_goto 32 rfl (pc2 := 65) (by decide) ?_
          refine Y_iast 34 rfl (pc2 := 66) rfl (ly_fiR (by omega) (by omega) (by omega)) rfl (by omega) (sz_lt (by omega)) rfl ?_
          refine Y_iinc 35 rfl (pc2 := 69) rfl rfl (nI_inc _ 1) (ls2 := [some (.ref _), some (.int _), some (.ref _), some (.ref _), some (.int _), some (.int _)]) rfl ?_
          refine Y_goto 36 rfl (pc2 := 9) (by decide) ?_
          first
            | omega
            | exact (by
                have e : oS (vS S s i) = S 166 (16 * s + i) := vS_t ⟨by omega, h35⟩
                have hi2 := ih (i + 1) (by omega) (by omega) (some (.int (nI 1)))
                rw [← flf_s] at hi2
                simp only [e] at hi2
                exact hi2)
            | exact (by
                have e : oS (vS S s i) = NONE_ := vS_f (fun q => h35 q.2)
                have hi2 := ih (i + 1) (by omega) (by omega) (some (.int (nI 0)))
                rw [← flf_s] at hi2
                simp only [e] at hi2
                exact hi2)
            | exact (by
                have e : oS (vS S s i) = NONE_ := vS_f (fun q => absurd q.1 (by omega))
                have hi2 := ih (i + 1) (by omega) (by omega) (some (.int (nI 0)))
                rw [← flf_s] at hi2
                simp only [e] at hi2
                exact hi2)

set_option maxHeartbeats 400000 in
theorem T_fi_takeRow {G : Nat × (Nat → Int32)} {m : Mm} {S : Mm} (h : RC m S) (w : WF S) {l f g s : Nat} (hl : l < 4) (hf : f < 6) (hg : g < 2) (hs : s < 2) (hq : ¬ S 165 s = -1) : Y G M_fi_takeRow (0, 0) 0 (en_ M_fi_takeRow [.ref (44 + 27 * l + 4 * f), .int (nI g), .ref (149 + 2 * s)]) [] (LAY, m) (qm_ LAY (pf_ (ur_ m (45 + 27 * l + 4 * f + g) (flf (m (45 + 27 * l + 4 * f + g)) (2 ^ (l + 1)) (fun k => oS (vS S s k)))))) := by
  change Y _ _ _ _ [some (.ref _), some (.int _), some (.ref _), none, none, none] _ _ _
  refine Y_aload_n 0 rfl (pc2 := 1) rfl rfl ?_
  refine Y_iload_n 1 rfl (pc2 := 2) rfl rfl ?_
  refine Y_cV 2 rfl (pc2 := 5) rfl ok_fi_rowOf lk_fi_29 vi_fi_rowOf (ly_fi (by omega) (by omega)) rfl (by decide) rfl (as := [.int _]) (rest := []) rfl rfl (T_fi_rowOf (by omega) (by omega) (by omega)) ?_
  rintro _ _ ⟨rfl, rfl⟩
  change Y _ _ _ _ _ [.ref _] _ _
  refine Y_astore_n 3 rfl (pc2 := 6) rfl (Nat.le_of_ble_eq_true rfl) (ls2 := [some (.ref _), some (.int _), some (.ref _), some (.ref _), none, none]) rfl ?_
  refine Y_iconst 4 rfl (pc2 := 7) rfl (v := nI 0) (by decide) ?_
  refine Y_istore 5 rfl (pc2 := 9) rfl (Nat.le_of_ble_eq_true rfl) (ls2 := [some (.ref _), some (.int _), some (.ref _), some (.ref _), some (.int _), none]) rfl ?_
  exact Y_mem flf_0 (L_takeRow h w hl hf hg hs hq 0 (Nat.zero_le _) _)

def laC (x y z s : Int32) : Prop := (iR x 4 ∧ iR y 6) ∧ iR z 2 ∧ iR s 2
noncomputable def sp_lay (S : Mm) (x y z s : Int32) : Int32 := cI (laC x y z s) (cI (S 165 (nv s) = -1) NOTHING_ (if 2 ^ (nv x + 1) < plc S (nv s) then INDEX_ else nI (cnt (fun k => ¬ vS S (nv s) k = -9) (2 ^ (nv x + 1))))) BAD_
noncomputable def st_lay (S : Mm) (x y z s : Int32) : Mm := cI (laC x y z s ∧ ¬ S 165 (nv s) = -1 ∧ ¬ 2 ^ (nv x + 1) < plc S (nv s)) (layS S (nv x) (nv y) (nv z) (nv s)) S

set_option maxHeartbeats 400000 in
theorem T_gh_lay {G : Nat × (Nat → Int32)} {m : Mm} {S : Mm} (h : RC m S) (w : WF S) {x y z u : Int32} : Y G M_gh_lay (0, 0) 0 (en_ M_gh_lay [.ref (0), .int (x), .int (y), .int (z), .int (u)]) [] (LAY, m) (qm_ LAY (pc_ (sp_lay S x y z u) m (st_lay S x y z u))) := by
  change Y _ _ _ _ [some (.ref _), some (.int _), some (.int _), some (.int _), some (.int _), none] _ _ _
  refine Y_iload_n 0 rfl (pc2 := 1) rfl rfl ?_
  refine Y_iload_n 1 rfl (pc2 := 2) rfl rfl ?_
  refine Y_cS 2 rfl (pc2 := 5) rfl ok_gh_hasFigure lk_gh_127 vs_gh_hasFigure (as := [.int _, .int _]) (rest := []) rfl rfl T_gh_hasFigure ?_
  rintro _ _ ⟨rfl, rfl⟩
  change Y _ _ _ _ _ [.int _] _ _
  refine Y_if_eqb 3 rfl (pc2 := 8) rfl (tgt := 25) (by decide) (fun h5 => ?_) (fun h5 => ?_)
  · refine Y_ldc 12 rfl (pc2 := 27) rfl kc_gh_75 ?_
    refine Y_iret 13 rfl rfl rfl ⟨rfl, ?_⟩
    first | exact pc_bad h (by unfold sp_lay; rw [cI_f (fun e => h5 e.1)]; rfl) (by unfold st_lay; rw [cI_f (fun e => h5 e.1.1)]) | exact pc_bad h (by unfold sp_lay; rw [cI_f (fun e => h13 e.2.1)]; rfl) (by unfold st_lay; rw [cI_f (fun e => h13 e.1.2.1)]) | exact pc_bad h (by unfold sp_lay; rw [cI_f (fun e => h22 e.2.2)]; rfl) (by unfold st_lay; rw [cI_f (fun e => h22 e.1.2.2)])
  · obtain ⟨⟨l, hl, rfl⟩, ⟨f, hf, rfl⟩⟩ := h5
    have hz := sz_16 hl
    refine Y_iload_n 4 rfl (pc2 := 9) rfl rfl ?_
    refine Y_iconst 5 rfl (pc2 := 10) rfl (v := nI 2) (by decide) ?_
    refine Y_cS 6 rfl (pc2 := 13) rfl ok_gh_isBelow lk_gh_80 vs_gh_isBelow (as := [.int _, .int _]) (rest := []) rfl rfl (T_gh_isBelow (by omega)) ?_
    rintro _ _ ⟨rfl, rfl⟩
    change Y _ _ _ _ _ [.int _] _ _
    refine Y_if_eqb 7 rfl (pc2 := 16) rfl (tgt := 25) (by decide) (fun h13 => ?_) (fun h13 => ?_)
    · refine Y_ldc 12 rfl (pc2 := 27) rfl kc_gh_75 ?_
      refine Y_iret 13 rfl rfl rfl ⟨rfl, ?_⟩
      first | exact pc_bad h (by unfold sp_lay; rw [cI_f (fun e => h5 e.1)]; rfl) (by unfold st_lay; rw [cI_f (fun e => h5 e.1.1)]) | exact pc_bad h (by unfold sp_lay; rw [cI_f (fun e => h13 e.2.1)]; rfl) (by unfold st_lay; rw [cI_f (fun e => h13 e.1.2.1)]) | exact pc_bad h (by unfold sp_lay; rw [cI_f (fun e => h22 e.2.2)]; rfl) (by unfold st_lay; rw [cI_f (fun e => h22 e.1.2.2)])
    · obtain ⟨g, hg, rfl⟩ := h13
      refine Y_iload 8 rfl (pc2 := 18) rfl rfl ?_
      refine Y_iconst 9 rfl (pc2 := 19) rfl (v := nI 2) (by decide) ?_
      refine Y_cS 10 rfl (pc2 := 22) rfl ok_gh_isBelow lk_gh_80 vs_gh_isBelow (as := [.int _, .int _]) (rest := []) rfl rfl (T_gh_isBelow (by omega)) ?_
      rintro _ _ ⟨rfl, rfl⟩
      change Y _ _ _ _ _ [.int _] _ _
      refine Y_if_neb 11 rfl (pc2 := 25) rfl (tgt := 28) (by decide) (fun h22 => ?_) (fun h22 => ?_)
      · obtain ⟨s, hs, rfl⟩ := h22
        refine Y_aload_n 14 rfl (pc2 := 29) rfl rfl ?_
        refine Y_getR 15 rfl (pc2 := 32) rfl fl_gh_58 ly_gh (by decide) rfl rfl (by omega) ?_
        refine Y_iload 16 rfl (pc2 := 34) rfl rfl ?_
        refine Y_aald 17 rfl (pc2 := 35) rfl ly_ghS (by decide) (fun _ => rfl) rfl (by omega) (by decide) (ly_ghS_at (by omega)) (by omega) ?_
        refine Y_cV 18 rfl (pc2 := 38) rfl ok_sh_isMissing lk_gh_130 vi_sh_isMissing (ly_sh (by omega)) rfl (by decide) rfl (as := []) (rest := []) rfl rfl (T_sh_isMissing h w (by omega)) ?_
        rintro _ _ ⟨rfl, rfl⟩
        change Y _ _ _ _ _ [.int _] _ _
        refine Y_if_eqb 19 rfl (pc2 := 41) rfl (tgt := 44) (by decide) (fun h38 => ?_) (fun h38 => ?_)
        · have hpl := (plc_is w hs h38).2
          refine Y_aload_n 22 rfl (pc2 := 45) rfl rfl ?_
          refine Y_getR 23 rfl (pc2 := 48) rfl fl_gh_58 ly_gh (by decide) rfl rfl (by omega) ?_
          refine Y_iload 24 rfl (pc2 := 50) rfl rfl ?_
          refine Y_aald 25 rfl (pc2 := 51) rfl ly_ghS (by decide) (fun _ => rfl) rfl (by omega) (by decide) (ly_ghS_at (by omega)) (by omega) ?_
          refine Y_getI 26 rfl (pc2 := 54) rfl fl_gh_135 (ly_sh (by omega)) (by decide) rfl ?_
          refine Y_top ((h.sp s hs).trans (plc_is w hs h38).1) ?_
          refine Y_aload_n 27 rfl (pc2 := 55) rfl rfl ?_
          refine Y_getR 28 rfl (pc2 := 58) rfl fl_gh_31 ly_gh (by decide) rfl rfl (by omega) ?_
          refine Y_iload_n 29 rfl (pc2 := 59) rfl rfl ?_
          refine Y_aald 30 rfl (pc2 := 60) rfl ly_ghL (by decide) (fun _ => rfl) rfl (by omega) (by decide) (ly_ghL_at (by omega)) (by omega) ?_
          refine Y_getI 31 rfl (pc2 := 63) rfl fl_gh_138 (ly_le (by omega)) (by decide) rfl ?_
          refine Y_top (h.l _ (by omega)) ?_
          refine Y_icmp_len 32 rfl (pc2 := 66) rfl (tgt := 69) (by decide) (by omega) (by omega) (fun h63 => ?_) (fun h63 => ?_)
          · refine Y_aload_n 35 rfl (pc2 := 70) rfl rfl ?_
            refine Y_getR 36 rfl (pc2 := 73) rfl fl_gh_31 ly_gh (by decide) rfl rfl (by omega) ?_
            refine Y_iload_n 37 rfl (pc2 := 74) rfl rfl ?_
            refine Y_aald 38 rfl (pc2 := 75) rfl ly_ghL (by decide) (fun _ => rfl) rfl (by omega) (by decide) (ly_ghL_at (by omega)) (by omega) ?_
            refine Y_getR 39 rfl (pc2 := 78) rfl fl_gh_117 (ly_le (by omega)) (by decide) rfl rfl (by omega) ?_
            refine Y_iload_n 40 rfl (pc2 := 79) rfl rfl ?_
            refine Y_aald 41 rfl (pc2 := 80) rfl (ly_leF (by omega)) (by decide) (fun _ => rfl) rfl (by omega) (by decide) (ly_leF_at (by omega)) (by omega) ?_
            refine Y_astore 42 rfl (pc2 := 82) rfl (Nat.le_of_ble_eq_true rfl) (ls2 := [some (.ref _), some (.int _), some (.int _), some (.int _), some (.int _), some (.ref _)]) rfl ?_
            refine Y_aload 43 rfl (pc2 := 84) rfl rfl ?_
            refine Y_iload_n 44 rfl (pc2 := 85) rfl rfl ?_
            refine Y_aload_n 45 rfl (pc2 := 86) rfl rfl ?_
            refine Y_getR 46 rfl (pc2 := 89) rfl fl_gh_58 ly_gh (by decide) rfl rfl (by omega) ?_
            refine Y_iload 47 rfl (pc2 := 91) rfl rfl ?_
            refine Y_aald 48 rfl (pc2 := 92) rfl ly_ghS (by decide) (fun _ => rfl) rfl (by omega) (by decide) (ly_ghS_at (by omega)) (by omega) ?_
            refine Y_cV 49 rfl (pc2 := 95) rfl ok_fi_takeRow lk_gh_142 vi_fi_takeRow (ly_fi (by omega) (by omega)) rfl (by decide) rfl (as := [.int _, .ref _]) (rest := []) rfl rfl (T_fi_takeRow h w hl hf hg hs h38) ?_
            rintro _ _ ⟨rfl, rfl⟩
            change Y _ _ _ _ _ [] _ _
            refine Y_aload 50 rfl (pc2 := 97) rfl rfl ?_
            refine Y_iload_n 51 rfl (pc2 := 98) rfl rfl ?_
            refine Y_cV 52 rfl (pc2 := 101) rfl ok_fi_strikesOf lk_gh_146 vi_fi_strikesOf (ly_fi (by omega) (by omega)) rfl (by decide) rfl (as := [.int _]) (rest := []) rfl rfl (T_fi_strikesOf (RC_lay h w hl hf hg) (WF_lay w) (l := l) (f := f) (g := g) hl hf hg) ?_
            rintro _ _ ⟨rfl, rfl⟩
            change Y _ _ _ _ _ [.int _] _ _
            refine Y_iret 53 rfl rfl rfl ⟨rfl, ?_⟩
            refine ⟨?_, ?_, fun a ha => by show ur_ _ _ _ a = _; rw [ur_ne (by omega)]⟩
            · unfold sp_lay
              rw [cI_t (show laC _ _ _ _ from ⟨⟨⟨l, hl, rfl⟩, ⟨f, hf, rfl⟩⟩, ⟨g, hg, rfl⟩, ⟨s, hs, rfl⟩⟩), nv_nI (k := s) (by omega), nv_nI (k := l) (by omega), cI_f h38, if_neg (by omega)]
              refine congrArg (fun q => some (Value.int (nI q))) (cnt_congr _ (fun i hi => ?_))
              rw [lay_at hi]
            · unfold st_lay
              rw [cI_t ⟨(show laC _ _ _ _ from ⟨⟨⟨l, hl, rfl⟩, ⟨f, hf, rfl⟩⟩, ⟨g, hg, rfl⟩, ⟨s, hs, rfl⟩⟩), by rw [nv_nI (by omega)]; exact h38, by rw [nv_nI (by omega), nv_nI (by omega)]; omega⟩, nv_nI (k := s) (by omega), nv_nI (k := l) (by omega), nv_nI (k := f) (by omega), nv_nI (k := g) (by omega)]
              exact RC_lay h w hl hf hg
          · refine Y_ldc 33 rfl (pc2 := 68) rfl kc_gh_141 ?_
            refine Y_iret 34 rfl rfl rfl ⟨rfl, ?_⟩
            exact pc_bad h (by unfold sp_lay; rw [cI_t (show laC _ _ _ _ from ⟨⟨⟨l, hl, rfl⟩, ⟨f, hf, rfl⟩⟩, ⟨g, hg, rfl⟩, ⟨s, hs, rfl⟩⟩), nv_nI (k := s) (by omega), nv_nI (k := l) (by omega), cI_f h38, if_pos (by omega)]; rfl) (by unfold st_lay; rw [cI_f (fun e => e.2.2 (by rw [nv_nI (by omega), nv_nI (by omega)]; omega))])
        · refine Y_ldc 20 rfl (pc2 := 43) rfl kc_gh_134 ?_
          refine Y_iret 21 rfl rfl rfl ⟨rfl, ?_⟩
          exact pc_bad h (by unfold sp_lay; rw [cI_t (show laC _ _ _ _ from ⟨⟨⟨l, hl, rfl⟩, ⟨f, hf, rfl⟩⟩, ⟨g, hg, rfl⟩, ⟨s, hs, rfl⟩⟩), nv_nI (k := s) (by omega), cI_t h38]; rfl) (by unfold st_lay; rw [cI_f (fun e => e.2.1 (by rw [nv_nI (by omega)]; exact h38))])
      · refine Y_ldc 12 rfl (pc2 := 27) rfl kc_gh_75 ?_
        refine Y_iret 13 rfl rfl rfl ⟨rfl, ?_⟩
        first | exact pc_bad h (by unfold sp_lay; rw [cI_f (fun e => h5 e.1)]; rfl) (by unfold st_lay; rw [cI_f (fun e => h5 e.1.1)]) | exact pc_bad h (by unfold sp_lay; rw [cI_f (fun e => h13 e.2.1)]; rfl) (by unfold st_lay; rw [cI_f (fun e => h13 e.1.2.1)]) | exact pc_bad h (by unfold sp_lay; rw [cI_f (fun e => h22 e.2.2)]; rfl) (by unfold st_lay; rw [cI_f (fun e => h22 e.1.2.2)])

def psh (S : Mm) (v : Int32) : Mm := uw_ (uw_ S 164 (tpd S) v) 153 12 (nI (tpd S + 1))
def mb (x : Int32) (k : Nat) : Int32 := (x >>> (nI (8 * k) &&& 31)) &&& nI 255
def pshs (x : Int32) : Nat → Mm → Mm
  | 0, S => S
  | k + 1, S => pshs x k (psh S (mb x k))
set_option maxHeartbeats 400000 in
theorem psh_t {S : Mm} {v : Int32} (h : tpd S < 64) : tpd (psh S v) = tpd S + 1 := by
  show nv (uw_ _ _ _ _ 153 12) = _
  rw [uw_same, nv_nI (by omega)]

set_option maxHeartbeats 400000 in
theorem RC_psh {m S : Mm} (h : RC m S) (ht : tpd S < 64) {v w : Int32} (hv : w = v.toInt8.toInt32) : RC (uw_ (uw_ m 2 (tpd S) w) 1 1 (nI (tpd S + 1))) (psh S v) := by
  refine ⟨fun c hc => ?_, fun c b hc hb => ?_, fun c b hc hb => ?_, fun c b hc hb => ?_, fun c b hc hb => ?_, fun l hl => ?_, fun l f g s hl hf hg hs => ?_, fun l f s hl hf hs => ?_, fun l k hl hk => ?_, ?_, fun p hp => ?_, fun p hp => ?_, fun p hp => ?_, fun r hr => ?_, ?_, ?_, fun i hi => ?_, fun s hs => ?_, fun s i hs hi => ?_⟩
  · (repeat rw [uw_ne (by omega)]); exact h.b c hc
  · (repeat rw [uw_ne (by omega)]); exact h.n c b hc hb
  · (repeat rw [uw_ne (by omega)]); exact h.g c b hc hb
  · (repeat rw [uw_ne (by omega)]); exact h.t c b hc hb
  · (repeat rw [uw_ne (by omega)]); exact h.u c b hc hb
  · (repeat rw [uw_ne (by omega)]); exact h.l l hl
  · (repeat rw [uw_ne (by omega)]); exact h.r l f g s hl hf hg hs
  · (repeat rw [uw_ne (by omega)]); exact h.m l f s hl hf hs
  · (repeat rw [uw_ne (by omega)]); exact h.us l k hl hk
  · (repeat rw [uw_ne (by omega)]); exact h.p 
  · (repeat rw [uw_ne (by omega)]); exact h.c p hp
  · (repeat rw [uw_ne (by omega)]); exact h.pt p hp
  · (repeat rw [uw_ne (by omega)]); exact h.pl p hp
  · (repeat rw [uw_ne (by omega)]); exact h.sg r hr
  · (repeat rw [uw_ne (by omega)]); exact h.sn 
  · rw [uw_same]; show _ = uw_ _ _ _ _ 153 12; rw [uw_same]
  · show _ = (uw_ _ 153 12 _ 164 i).toInt8.toInt32
    by_cases e : i = tpd S
    · rw [e, uw_ne (by omega), uw_same, uw_ne (by omega), uw_same]; exact hv
    · rw [uw_ne (by omega), uw_ne (by omega), uw_ne (by omega), uw_ne (by omega)]; exact h.tv i hi
  · (repeat rw [uw_ne (by omega)]); exact h.sp s hs
  · (repeat rw [uw_ne (by omega)]); exact h.sb s i hs hi

set_option maxHeartbeats 400000 in
theorem WF_psh {S : Mm} (w : WF S) {v : Int32} (ht : tpd S < 64) (hv : iR v 256) : WF (psh S v) := by
  refine ⟨fun c hc => ?_, fun i hi => ?_, fun i hi => ?_, fun i hi => ?_, fun i hi => ?_, fun l k hl hk => ?_, ?_, fun p hp => ?_, fun p hp => ?_, fun p hp => ?_, fun p hp => ?_, fun r hr => ?_, ?_, fun i hi => ?_, fun s hs => ?_, fun i hi => ?_, ?_⟩
  · exact w.b c hc
  · exact w.n i hi
  · exact w.g i hi
  · exact w.s i hi
  · exact w.m i hi
  · exact w.u l k hl hk
  · exact w.p 
  · exact w.c p hp
  · exact w.t p hp
  · exact w.t1 p hp
  · exact w.l p hp
  · exact w.r r hr
  · rw [psh_t ht]; exact ⟨by show uw_ _ _ _ _ 153 12 = _; rw [uw_same], by omega⟩
  · show iR (uw_ _ 153 12 _ 164 i) 256
    by_cases e : i = tpd S
    · rw [e, uw_ne (by omega), uw_same]; exact hv
    · rw [uw_ne (by omega), uw_ne (by omega)]; exact w.tv i hi
  · exact w.pl s hs
  · exact w.k i hi
  · exact w.sg 

set_option maxHeartbeats 400000 in
theorem mb_iR {x : Int32} {k : Nat} : iR (mb x k) 256 := by
  unfold mb
  generalize x >>> (nI (8 * k) &&& 31) = y
  have h0 : ¬ (y &&& nI 255) < 0 ∧ (y &&& nI 255) ≤ nI 255 := by
    have e : (y &&& nI 255).toBitVec = y.toBitVec &&& 255#32 := rfl
    have hb : (y &&& nI 255).toBitVec.toNat ≤ 255 := by
      rw [e, BitVec.toNat_and]
      exact Nat.and_le_right
    have hi : (y &&& nI 255).toInt = ((y &&& nI 255).toBitVec.toNat : Int) := by
      show (y &&& nI 255).toBitVec.toInt = _
      rw [BitVec.toInt_eq_toNat_of_lt (by omega)]
    refine ⟨fun q => ?_, ?_⟩
    · have := Int32.lt_iff_toInt_lt.mp q
      rw [hi] at this
      have z : (0 : Int32).toInt = 0 := by decide
      omega
    · rw [Int32.le_iff_toInt_le, hi, nI_toInt (by decide)]
      omega
  exact (iR_le (by decide)).mpr h0
set_option maxHeartbeats 400000 in
theorem by_low (y : Int32) : (y &&& 255).toInt8 = y.toInt8 := by
  apply Int8.toBitVec_inj.mp
  rw [Int32.toBitVec_toInt8, Int32.toBitVec_toInt8, Int32.toBitVec_and]
  apply BitVec.eq_of_getLsbD_eq
  intro i hi
  have e : (255 : Int32).toBitVec = 255#32 := rfl
  rw [e, BitVec.getLsbD_signExtend, BitVec.getLsbD_signExtend, BitVec.getLsbD_and]
  have h8 : i = 0 ∨ i = 1 ∨ i = 2 ∨ i = 3 ∨ i = 4 ∨ i = 5 ∨ i = 6 ∨ i = 7 := by omega
  rcases h8 with rfl | rfl | rfl | rfl | rfl | rfl | rfl | rfl <;> simp
set_option maxHeartbeats 400000 in
theorem mb_by {x : Int32} {k : Nat} : (x >>> (nI (8 * k) &&& 31)).toInt8.toInt32 = (mb x k).toInt8.toInt32 := by
  unfold mb
  rw [show nI 255 = 255 from rfl, by_low]
set_option maxHeartbeats 400000 in
theorem WF_pshs {x : Int32} : ∀ k (S : Mm), WF S → tpd S + k ≤ 64 → WF (pshs x k S) ∧ tpd (pshs x k S) = tpd S + k
  | 0, S, w, _ => ⟨w, rfl⟩
  | k + 1, S, w, h => by
    have a := WF_pshs (x := x) k (psh S (mb x k)) (WF_psh w (by omega) mb_iR) (by rw [psh_t (by omega)]; omega)
    rw [psh_t (by omega)] at a
    exact ⟨a.1, by rw [show pshs x (k + 1) S = pshs x k (psh S (mb x k)) from rfl, a.2]; omega⟩
def pF_ (m S : Mm) : Option Value → Mm → Prop := fun v m' => v = none ∧ RC m' S ∧ ∀ a, 153 ≤ a → m' a = m a
set_option maxHeartbeats 400000 in
theorem AW_0 {G : Nat × (Nat → Int32)} {m S : Mm} (h : RC m S) {x : Int32} : Y G M_ta_addWord (0, 0) 3 [some (.ref 1), some (.int x), some (.int (-8))] [] (LAY, m) (qm_ LAY (pF_ m S)) := by
  refine Y_iload_n 2 rfl (pc2 := 4) rfl rfl ?_
  refine Y_if_lt 3 rfl (pc2 := 7) rfl (tgt := 45) (by decide) (fun h4 => ?_) (fun h4 => ?_)
  · refine Y_vret 25 rfl rfl ⟨rfl, ?_⟩
    exact ⟨rfl, h, fun _ _ => rfl⟩
  · exact absurd (by decide) h4

set_option maxHeartbeats 400000 in
theorem AW_1 {G : Nat × (Nat → Int32)} {m S : Mm} (h : RC m S) (w : WF S) {x : Int32} (ht : tpd S + 1 ≤ 64) : Y G M_ta_addWord (0, 0) 3 [some (.ref 1), some (.int x), some (.int (nI 0))] [] (LAY, m) (qm_ LAY (pF_ m (pshs x 1 S))) := by
  refine Y_iload_n 2 rfl (pc2 := 4) rfl rfl ?_
  refine Y_if_ltn 3 rfl (pc2 := 7) rfl (tgt := 45) (by decide) (by omega) ?_
  refine Y_aload_n 4 rfl (pc2 := 8) rfl rfl ?_
  refine Y_getI 5 rfl (pc2 := 11) rfl fl_ta_15 ly_ta (by decide) rfl ?_
  refine Y_top (h.tp.trans w.tp.1) ?_
  refine Y_bipush 6 rfl (pc2 := 13) rfl (v := nI 64) (by decide) ?_
  refine Y_icmp_gen 7 rfl (pc2 := 16) rfl (tgt := 45) (by decide) (by omega) (by omega) (fun h13 => ?_) (fun h13 => ?_)
  · omega
  · refine Y_aload_n 8 rfl (pc2 := 17) rfl rfl ?_
    refine Y_getR 9 rfl (pc2 := 20) rfl fl_ta_9 ly_ta (by decide) rfl rfl (by omega) ?_
    refine Y_aload_n 10 rfl (pc2 := 21) rfl rfl ?_
    refine Y_getI 11 rfl (pc2 := 24) rfl fl_ta_15 ly_ta (by decide) rfl ?_
    refine Y_top (h.tp.trans w.tp.1) ?_
    refine Y_iload_n 12 rfl (pc2 := 25) rfl rfl ?_
    refine Y_iload_n 13 rfl (pc2 := 26) rfl rfl ?_
    refine Y_ishr 14 rfl (pc2 := 27) rfl ?_
    refine Y_i2b 15 rfl (pc2 := 28) rfl rfl ?_
    refine Y_bast 16 rfl (pc2 := 29) rfl ly_taB rfl (by omega) (by decide) (pk_vb _) ?_
    refine Y_aload_n 17 rfl (pc2 := 30) rfl rfl ?_
    refine Y_dup 18 rfl (pc2 := 31) rfl rfl ?_
    refine Y_getI 19 rfl (pc2 := 34) rfl fl_ta_15 ly_ta (by decide) rfl ?_
    refine Y_top ((uw_ne (by omega)).trans (h.tp.trans w.tp.1)) ?_
    refine Y_iconst 20 rfl (pc2 := 35) rfl (v := nI 1) (by decide) ?_
    refine Y_iadd 21 rfl (pc2 := 36) rfl ?_
    refine Y_top (nI_add _ _) ?_
    refine Y_putI 22 rfl (pc2 := 39) rfl fl_ta_15 ly_ta (by decide) ⟨rfl, rfl⟩ ⟨_, _, _, rfl, rfl⟩ rfl ?_
    refine Y_iinc 23 rfl (pc2 := 42) rfl rfl rfl (ls2 := [some (.ref _), some (.int _), some (.int _)]) rfl ?_
    refine Y_goto 24 rfl (pc2 := 3) (by decide) ?_
    have hp := RC_psh h (by omega) (mb_by (x := x) (k := 0))
    refine Y_ls (ls2 := [some (.ref 1), some (.int x), some (.int (-8))]) (by rw [show nI 0 + Int32.ofInt (-8) = -8 by decide]) ?_
    exact (AW_0 hp).mono (fun v σ hq => ⟨hq.1, hq.2.1, hq.2.2.1, fun a ha => (hq.2.2.2 a ha).trans (funext fun j => by rw [uw_ne (by omega), uw_ne (by omega)])⟩)

set_option maxHeartbeats 400000 in
theorem AW_2 {G : Nat × (Nat → Int32)} {m S : Mm} (h : RC m S) (w : WF S) {x : Int32} (ht : tpd S + 2 ≤ 64) : Y G M_ta_addWord (0, 0) 3 [some (.ref 1), some (.int x), some (.int (nI 8))] [] (LAY, m) (qm_ LAY (pF_ m (pshs x 2 S))) := by
  refine Y_iload_n 2 rfl (pc2 := 4) rfl rfl ?_
  refine Y_if_ltn 3 rfl (pc2 := 7) rfl (tgt := 45) (by decide) (by omega) ?_
  refine Y_aload_n 4 rfl (pc2 := 8) rfl rfl ?_
  refine Y_getI 5 rfl (pc2 := 11) rfl fl_ta_15 ly_ta (by decide) rfl ?_
  refine Y_top (h.tp.trans w.tp.1) ?_
  refine Y_bipush 6 rfl (pc2 := 13) rfl (v := nI 64) (by decide) ?_
  refine Y_icmp_gen 7 rfl (pc2 := 16) rfl (tgt := 45) (by decide) (by omega) (by omega) (fun h13 => ?_) (fun h13 => ?_)
  · omega
  · refine Y_aload_n 8 rfl (pc2 := 17) rfl rfl ?_
    refine Y_getR 9 rfl (pc2 := 20) rfl fl_ta_9 ly_ta (by decide) rfl rfl (by omega) ?_
    refine Y_aload_n 10 rfl (pc2 := 21) rfl rfl ?_
    refine Y_getI 11 rfl (pc2 := 24) rfl fl_ta_15 ly_ta (by decide) rfl ?_
    refine Y_top (h.tp.trans w.tp.1) ?_
    refine Y_iload_n 12 rfl (pc2 := 25) rfl rfl ?_
    refine Y_iload_n 13 rfl (pc2 := 26) rfl rfl ?_
    refine Y_ishr 14 rfl (pc2 := 27) rfl ?_
    refine Y_i2b 15 rfl (pc2 := 28) rfl rfl ?_
    refine Y_bast 16 rfl (pc2 := 29) rfl ly_taB rfl (by omega) (by decide) (pk_vb _) ?_
    refine Y_aload_n 17 rfl (pc2 := 30) rfl rfl ?_
    refine Y_dup 18 rfl (pc2 := 31) rfl rfl ?_
    refine Y_getI 19 rfl (pc2 := 34) rfl fl_ta_15 ly_ta (by decide) rfl ?_
    refine Y_top ((uw_ne (by omega)).trans (h.tp.trans w.tp.1)) ?_
    refine Y_iconst 20 rfl (pc2 := 35) rfl (v := nI 1) (by decide) ?_
    refine Y_iadd 21 rfl (pc2 := 36) rfl ?_
    refine Y_top (nI_add _ _) ?_
    refine Y_putI 22 rfl (pc2 := 39) rfl fl_ta_15 ly_ta (by decide) ⟨rfl, rfl⟩ ⟨_, _, _, rfl, rfl⟩ rfl ?_
    refine Y_iinc 23 rfl (pc2 := 42) rfl rfl rfl (ls2 := [some (.ref _), some (.int _), some (.int _)]) rfl ?_
    refine Y_goto 24 rfl (pc2 := 3) (by decide) ?_
    have hp := RC_psh h (by omega) (mb_by (x := x) (k := 1))
    refine Y_ls (ls2 := [some (.ref 1), some (.int x), some (.int (nI 0))]) (by rw [show nI 8 + Int32.ofInt (-8) = nI 0 by decide]) ?_
    exact (AW_1 hp (WF_psh w (by omega) mb_iR) (by rw [psh_t (by omega)]; omega)).mono (fun v σ hq => ⟨hq.1, hq.2.1, hq.2.2.1, fun a ha => (hq.2.2.2 a ha).trans (funext fun j => by rw [uw_ne (by omega), uw_ne (by omega)])⟩)

set_option maxHeartbeats 400000 in
theorem AW_3 {G : Nat × (Nat → Int32)} {m S : Mm} (h : RC m S) (w : WF S) {x : Int32} (ht : tpd S + 3 ≤ 64) : Y G M_ta_addWord (0, 0) 3 [some (.ref 1), some (.int x), some (.int (nI 16))] [] (LAY, m) (qm_ LAY (pF_ m (pshs x 3 S))) := by
  refine Y_iload_n 2 rfl (pc2 := 4) rfl rfl ?_
  refine Y_if_ltn 3 rfl (pc2 := 7) rfl (tgt := 45) (by decide) (by omega) ?_
  refine Y_aload_n 4 rfl (pc2 := 8) rfl rfl ?_
  refine Y_getI 5 rfl (pc2 := 11) rfl fl_ta_15 ly_ta (by decide) rfl ?_
  refine Y_top (h.tp.trans w.tp.1) ?_
  refine Y_bipush 6 rfl (pc2 := 13) rfl (v := nI 64) (by decide) ?_
  refine Y_icmp_gen 7 rfl (pc2 := 16) rfl (tgt := 45) (by decide) (by omega) (by omega) (fun h13 => ?_) (fun h13 => ?_)
  · omega
  · refine Y_aload_n 8 rfl (pc2 := 17) rfl rfl ?_
    refine Y_getR 9 rfl (pc2 := 20) rfl fl_ta_9 ly_ta (by decide) rfl rfl (by omega) ?_
    refine Y_aload_n 10 rfl (pc2 := 21) rfl rfl ?_
    refine Y_getI 11 rfl (pc2 := 24) rfl fl_ta_15 ly_ta (by decide) rfl ?_
    refine Y_top (h.tp.trans w.tp.1) ?_
    refine Y_iload_n 12 rfl (pc2 := 25) rfl rfl ?_
    refine Y_iload_n 13 rfl (pc2 := 26) rfl rfl ?_
    refine Y_ishr 14 rfl (pc2 := 27) rfl ?_
    refine Y_i2b 15 rfl (pc2 := 28) rfl rfl ?_
    refine Y_bast 16 rfl (pc2 := 29) rfl ly_taB rfl (by omega) (by decide) (pk_vb _) ?_
    refine Y_aload_n 17 rfl (pc2 := 30) rfl rfl ?_
    refine Y_dup 18 rfl (pc2 := 31) rfl rfl ?_
    refine Y_getI 19 rfl (pc2 := 34) rfl fl_ta_15 ly_ta (by decide) rfl ?_
    refine Y_top ((uw_ne (by omega)).trans (h.tp.trans w.tp.1)) ?_
    refine Y_iconst 20 rfl (pc2 := 35) rfl (v := nI 1) (by decide) ?_
    refine Y_iadd 21 rfl (pc2 := 36) rfl ?_
    refine Y_top (nI_add _ _) ?_
    refine Y_putI 22 rfl (pc2 := 39) rfl fl_ta_15 ly_ta (by decide) ⟨rfl, rfl⟩ ⟨_, _, _, rfl, rfl⟩ rfl ?_
    refine Y_iinc 23 rfl (pc2 := 42) rfl rfl rfl (ls2 := [some (.ref _), some (.int _), some (.int _)]) rfl ?_
    refine Y_goto 24 rfl (pc2 := 3) (by decide) ?_
    have hp := RC_psh h (by omega) (mb_by (x := x) (k := 2))
    refine Y_ls (ls2 := [some (.ref 1), some (.int x), some (.int (nI 8))]) (by rw [show nI 16 + Int32.ofInt (-8) = nI 8 by decide]) ?_
    exact (AW_2 hp (WF_psh w (by omega) mb_iR) (by rw [psh_t (by omega)]; omega)).mono (fun v σ hq => ⟨hq.1, hq.2.1, hq.2.2.1, fun a ha => (hq.2.2.2 a ha).trans (funext fun j => by rw [uw_ne (by omega), uw_ne (by omega)])⟩)

set_option maxHeartbeats 400000 in
theorem AW_4 {G : Nat × (Nat → Int32)} {m S : Mm} (h : RC m S) (w : WF S) {x : Int32} (ht : tpd S + 4 ≤ 64) : Y G M_ta_addWord (0, 0) 3 [some (.ref 1), some (.int x), some (.int (nI 24))] [] (LAY, m) (qm_ LAY (pF_ m (pshs x 4 S))) := by
  refine Y_iload_n 2 rfl (pc2 := 4) rfl rfl ?_
  refine Y_if_ltn 3 rfl (pc2 := 7) rfl (tgt := 45) (by decide) (by omega) ?_
  refine Y_aload_n 4 rfl (pc2 := 8) rfl rfl ?_
  refine Y_getI 5 rfl (pc2 := 11) rfl fl_ta_15 ly_ta (by decide) rfl ?_
  refine Y_top (h.tp.trans w.tp.1) ?_
  refine Y_bipush 6 rfl (pc2 := 13) rfl (v := nI 64) (by decide) ?_
  refine Y_icmp_gen 7 rfl (pc2 := 16) rfl (tgt := 45) (by decide) (by omega) (by omega) (fun h13 => ?_) (fun h13 => ?_)
  · omega
  · refine Y_aload_n 8 rfl (pc2 := 17) rfl rfl ?_
    refine Y_getR 9 rfl (pc2 := 20) rfl fl_ta_9 ly_ta (by decide) rfl rfl (by omega) ?_
    refine Y_aload_n 10 rfl (pc2 := 21) rfl rfl ?_
    refine Y_getI 11 rfl (pc2 := 24) rfl fl_ta_15 ly_ta (by decide) rfl ?_
    refine Y_top (h.tp.trans w.tp.1) ?_
    refine Y_iload_n 12 rfl (pc2 := 25) rfl rfl ?_
    refine Y_iload_n 13 rfl (pc2 := 26) rfl rfl ?_
    refine Y_ishr 14 rfl (pc2 := 27) rfl ?_
    refine Y_i2b 15 rfl (pc2 := 28) rfl rfl ?_
    refine Y_bast 16 rfl (pc2 := 29) rfl ly_taB rfl (by omega) (by decide) (pk_vb _) ?_
    refine Y_aload_n 17 rfl (pc2 := 30) rfl rfl ?_
    refine Y_dup 18 rfl (pc2 := 31) rfl rfl ?_
    refine Y_getI 19 rfl (pc2 := 34) rfl fl_ta_15 ly_ta (by decide) rfl ?_
    refine Y_top ((uw_ne (by omega)).trans (h.tp.trans w.tp.1)) ?_
    refine Y_iconst 20 rfl (pc2 := 35) rfl (v := nI 1) (by decide) ?_
    refine Y_iadd 21 rfl (pc2 := 36) rfl ?_
    refine Y_top (nI_add _ _) ?_
    refine Y_putI 22 rfl (pc2 := 39) rfl fl_ta_15 ly_ta (by decide) ⟨rfl, rfl⟩ ⟨_, _, _, rfl, rfl⟩ rfl ?_
    refine Y_iinc 23 rfl (pc2 := 42) rfl rfl rfl (ls2 := [some (.ref _), some (.int _), some (.int _)]) rfl ?_
    refine Y_goto 24 rfl (pc2 := 3) (by decide) ?_
    have hp := RC_psh h (by omega) (mb_by (x := x) (k := 3))
    refine Y_ls (ls2 := [some (.ref 1), some (.int x), some (.int (nI 16))]) (by rw [show nI 24 + Int32.ofInt (-8) = nI 16 by decide]) ?_
    exact (AW_3 hp (WF_psh w (by omega) mb_iR) (by rw [psh_t (by omega)]; omega)).mono (fun v σ hq => ⟨hq.1, hq.2.1, hq.2.2.1, fun a ha => (hq.2.2.2 a ha).trans (funext fun j => by rw [uw_ne (by omega), uw_ne (by omega)])⟩)

set_option maxHeartbeats 400000 in
theorem T_ta_addWord {G : Nat × (Nat → Int32)} {m : Mm} {S : Mm} (h : RC m S) (w : WF S) {x : Int32} (ht : tpd S + 4 ≤ 64) : Y G M_ta_addWord (0, 0) 0 (en_ M_ta_addWord [.ref (1), .int (x)]) [] (LAY, m) (qm_ LAY (pF_ m (pshs x 4 S))) := by
  change Y _ _ _ _ [some (.ref _), some (.int _), none] _ _ _
  refine Y_bipush 0 rfl (pc2 := 2) rfl (v := nI 24) (by decide) ?_
  refine Y_istore_n 1 rfl (pc2 := 3) rfl (Nat.le_of_ble_eq_true rfl) (ls2 := [some (.ref _), some (.int _), some (.int _)]) rfl ?_
  exact AW_4 h w ht

noncomputable def st_feed (S : Mm) (a b c : Int32) : Mm := cI (tpd S + 12 ≤ 64) (pshs c 4 (pshs b 4 (pshs a 4 S))) S
noncomputable def sp_feed (S : Mm) : Int32 := cI (tpd S + 12 ≤ 64) (nI (tpd S + 12)) FULL_

set_option maxHeartbeats 400000 in
theorem T_gh_feed {G : Nat × (Nat → Int32)} {m : Mm} {S : Mm} (h : RC m S) (w : WF S) {a b c : Int32} : Y G M_gh_feed (0, 0) 0 (en_ M_gh_feed [.ref (0), .int (a), .int (b), .int (c)]) [] (LAY, m) (qm_ LAY (pc_ (sp_feed S) m (st_feed S a b c))) := by
  change Y _ _ _ _ [some (.ref _), some (.int _), some (.int _), some (.int _)] _ _ _
  have ht := w.tp.2
  refine Y_aload_n 0 rfl (pc2 := 1) rfl rfl ?_
  refine Y_getR 1 rfl (pc2 := 4) rfl fl_gh_10 ly_gh (by decide) rfl rfl (by omega) ?_
  refine Y_getI 2 rfl (pc2 := 7) rfl fl_gh_67 ly_ta (by decide) rfl ?_
  refine Y_top (h.tp.trans w.tp.1) ?_
  refine Y_bipush 3 rfl (pc2 := 9) rfl (v := nI 12) (by decide) ?_
  refine Y_iadd 4 rfl (pc2 := 10) rfl ?_
  refine Y_top (nI_add _ _) ?_
  refine Y_bipush 5 rfl (pc2 := 12) rfl (v := nI 64) (by decide) ?_
  refine Y_icmp_len 6 rfl (pc2 := 15) rfl (tgt := 18) (by decide) (by omega) (by omega) (fun h12 => ?_) (fun h12 => ?_)
  · have w1 := (WF_pshs (x := a) 4 S w (by omega)).1
    have t1 := (WF_pshs (x := a) 4 S w (by omega)).2
    have w2 := (WF_pshs (x := b) 4 _ w1 (by omega)).1
    have t2 := (WF_pshs (x := b) 4 _ w1 (by omega)).2
    have t3 := (WF_pshs (x := c) 4 _ w2 (by omega)).2
    refine Y_aload_n 9 rfl (pc2 := 19) rfl rfl ?_
    refine Y_getR 10 rfl (pc2 := 22) rfl fl_gh_10 ly_gh (by decide) rfl rfl (by omega) ?_
    refine Y_iload_n 11 rfl (pc2 := 23) rfl rfl ?_
    refine Y_cV 12 rfl (pc2 := 26) rfl ok_ta_addWord lk_gh_72 vi_ta_addWord ly_ta rfl (by decide) rfl (as := [.int _]) (rest := []) rfl rfl (T_ta_addWord h w (by omega)) ?_
    rintro _ m1 ⟨rfl, r1, f1⟩
    change Y _ _ _ _ _ [] _ _
    refine Y_aload_n 13 rfl (pc2 := 27) rfl rfl ?_
    refine Y_getR 14 rfl (pc2 := 30) rfl fl_gh_10 ly_gh (by decide) rfl rfl (by omega) ?_
    refine Y_iload_n 15 rfl (pc2 := 31) rfl rfl ?_
    refine Y_cV 16 rfl (pc2 := 34) rfl ok_ta_addWord lk_gh_72 vi_ta_addWord ly_ta rfl (by decide) rfl (as := [.int _]) (rest := []) rfl rfl (T_ta_addWord r1 w1 (by omega)) ?_
    rintro _ m2 ⟨rfl, r2, f2⟩
    change Y _ _ _ _ _ [] _ _
    refine Y_aload_n 17 rfl (pc2 := 35) rfl rfl ?_
    refine Y_getR 18 rfl (pc2 := 38) rfl fl_gh_10 ly_gh (by decide) rfl rfl (by omega) ?_
    refine Y_iload_n 19 rfl (pc2 := 39) rfl rfl ?_
    refine Y_cV 20 rfl (pc2 := 42) rfl ok_ta_addWord lk_gh_72 vi_ta_addWord ly_ta rfl (by decide) rfl (as := [.int _]) (rest := []) rfl rfl (T_ta_addWord r2 w2 (by omega)) ?_
    rintro _ m3 ⟨rfl, r3, f3⟩
    change Y _ _ _ _ _ [] _ _
    refine Y_aload_n 21 rfl (pc2 := 43) rfl rfl ?_
    refine Y_getR 22 rfl (pc2 := 46) rfl fl_gh_10 ly_gh (by decide) rfl rfl (by omega) ?_
    refine Y_getI 23 rfl (pc2 := 49) rfl fl_gh_67 ly_ta (by decide) rfl ?_
    refine Y_top (r3.tp.trans ((WF_pshs 4 _ w2 (by omega)).1.tp.1)) ?_
    refine Y_iret 24 rfl rfl rfl ⟨rfl, ?_⟩
    exact ⟨by unfold sp_feed; rw [cI_t h12, t3, t2, t1], by unfold st_feed; rw [cI_t h12]; exact r3, fun q hq => (f3 q hq).trans ((f2 q hq).trans (f1 q hq))⟩
  · refine Y_ldc 7 rfl (pc2 := 17) rfl kc_gh_71 ?_
    refine Y_iret 8 rfl rfl rfl ⟨rfl, ?_⟩
    exact pc_bad h (by unfold sp_feed; rw [cI_f h12]; rfl) (by unfold st_feed; rw [cI_f h12])
end
section
/-! the class: reading a tune -/
abbrev Qt : Type := Nat × (Nat → Int32) × (Nat → Int32)
abbrev As : Type := Qt × Option Nat × Bool × Bool
def qpush (q : Qt) (a g : Int32) : Qt := (q.1 + 1, (fun i => if i = q.1 then a else q.2.1 i), (fun i => if i = q.1 then g else q.2.2 i))
def qset (q : Qt) (k : Int32) : Qt := (q.1, q.2.1, fun i => if i + 1 = q.1 then k else q.2.2 i)
def rp (q : Qt) (st w : Nat) : Nat → Qt
  | 0 => q
  | k + 1 => qpush (rp q st w k) ((rp q st w k).2.1 (st + k % w)) ((rp q st w k).2.2 (st + k % w))
set_option maxHeartbeats 400000 in
theorem rp_n {q : Qt} {st w : Nat} : ∀ k, (rp q st w k).1 = q.1 + k
  | 0 => rfl
  | k + 1 => by
    show (rp q st w k).1 + 1 = _
    rw [rp_n k]; omega
def gkn (v : Nat) : Int32 := if v = 103 then nI 0 else if v = 71 then nI 1 else if v = 72 then nI 2 else if v = 76 then nI 3 else -1
def stp (v : Nat) (s : As) : Option As :=
  if s.2.2.1 = true then (if 50 ≤ v ∧ v ≤ 57 then some (rp s.1 (s.2.1.getD 0) (s.1.1 - s.2.1.getD 0) ((v - 49) * (s.1.1 - s.2.1.getD 0)), none, false, s.2.2.2) else none)
  else if v = 91 then (if s.2.1 = none then some (s.1, some s.1.1, false, false) else none)
  else if v = 93 then (if s.2.1 = none ∨ s.2.1 = some s.1.1 then none else some (s.1, s.2.1, true, false))
  else if v = 46 then some (qpush s.1 (-1) (-1), s.2.1, false, true)
  else if 49 ≤ v ∧ v ≤ 55 then some (qpush s.1 (nI (v - 49)) (-1), s.2.1, false, true)
  else if s.2.2.2 = true ∧ ¬ gkn v = -1 then some (qset s.1 (gkn v), s.2.1, false, false) else none
def opI (o : Option Nat) : Int32 := match o with
  | none => NONE_
  | some k => nI k
def bo (b : Bool) : Int32 := if b = true then nI 1 else nI 0
def RQ (m : Mm) (q : Qt) : Prop := m 3 2 = nI q.1 ∧ ∀ i, i < 32 → i < q.1 → m 4 i = oC (q.2.1 i) ∧ m 5 i = oC (q.2.2 i)
def RR (m : Mm) (q : Qt) (op : Option Nat) (aT aG : Bool) : Prop := RQ m q ∧ m 3 3 = opI op ∧ m 3 4 = bo aT ∧ m 3 5 = bo aG
def fR (m m' : Mm) : Prop := ∀ a, ¬ (a = 3 ∨ a = 4 ∨ a = 5) → m' a = m a
def fR2 (m m' : Mm) : Prop := fR m m' ∧ ∀ k, ¬ k = 2 → m' 3 k = m 3 k
set_option maxHeartbeats 400000 in
theorem fR2_t {m1 m2 m3 : Mm} (h1 : fR2 m1 m2) (h2 : fR2 m2 m3) : fR2 m1 m3 := ⟨fun a ha => (h2.1 a ha).trans (h1.1 a ha), fun k hk => (h2.2 k hk).trans (h1.2 k hk)⟩
def pA_ (m : Mm) (q : Qt) : Option Value → Mm → Prop := fun v m' => v = none ∧ RQ m' q ∧ fR2 m m'
set_option maxHeartbeats 400000 in
theorem RQ_push1 {m : Mm} {q : Qt} {a g x y : Int32} (h : RQ m q) (hn : q.1 < 32) (hx : x = oC a) (hy : y = oC g) : RQ (uw_ (uw_ (uw_ m 4 q.1 x) 5 q.1 y) 3 2 (nI (q.1 + 1))) (qpush q a g) := by
  refine ⟨uw_same, fun i hi hq => ?_⟩
  have hq2 : i < q.1 + 1 := hq
  by_cases e : i = q.1
  · subst e
    refine ⟨?_, ?_⟩
    · rw [uw_ne (by omega), uw_ne (by omega), uw_same, hx]
      show _ = oC (if q.1 = q.1 then a else _)
      rw [if_pos rfl]
    · rw [uw_ne (by omega), uw_same, hy]
      show _ = oC (if q.1 = q.1 then g else _)
      rw [if_pos rfl]
  · obtain ⟨p1, p2⟩ := h.2 i hi (by omega)
    refine ⟨?_, ?_⟩
    · rw [uw_ne (by omega), uw_ne (by omega), uw_ne (by omega), p1]
      show _ = oC (if i = q.1 then a else _)
      rw [if_neg e]
    · rw [uw_ne (by omega), uw_ne (by omega), uw_ne (by omega), p2]
      show _ = oC (if i = q.1 then g else _)
      rw [if_neg e]
set_option maxHeartbeats 400000 in
theorem RQ_push2 {m : Mm} {q : Qt} {a g : Int32} (h : RQ m q) (hn : ¬ q.1 < 32) : RQ (uw_ m 3 2 (nI (q.1 + 1))) (qpush q a g) := by
  refine ⟨uw_same, fun i hi hq => ?_⟩
  obtain ⟨p1, p2⟩ := h.2 i hi (by omega)
  refine ⟨?_, ?_⟩
  · rw [uw_ne (by omega), p1]
    show _ = oC (if i = q.1 then a else _)
    rw [if_neg (by omega)]
  · rw [uw_ne (by omega), p2]
    show _ = oC (if i = q.1 then g else _)
    rw [if_neg (by omega)]
set_option maxHeartbeats 400000 in
theorem fR2_1 {m : Mm} {a b j k : Nat} {u v w : Int32} (ha : a = 4 ∨ a = 5) (hb : b = 4 ∨ b = 5) : fR2 m (uw_ (uw_ (uw_ m a j u) b k v) 3 2 w) :=
  ⟨fun c hc => funext fun i => by rw [uw_ne (by omega), uw_ne (by omega), uw_ne (by omega)], fun i hi => by rw [uw_ne (by omega), uw_ne (by omega), uw_ne (by omega)]⟩
set_option maxHeartbeats 400000 in
theorem fR2_2 {m : Mm} {w : Int32} : fR2 m (uw_ m 3 2 w) := ⟨fun c hc => funext fun i => by rw [uw_ne (by omega)], fun i hi => by rw [uw_ne (by omega)]⟩

set_option maxHeartbeats 400000 in
theorem T_re_addBeat {G : Nat × (Nat → Int32)} {m : Mm} {q : Qt} {a g x y : Int32} (h : RQ m q) (hb : q.1 < 1000000) (hx : q.1 < 32 → x = oC a ∧ y = oC g) : Y G M_re_addBeat (0, 0) 0 (en_ M_re_addBeat [.ref (3), .int (x), .int (y)]) [] (LAY, m) (qm_ LAY (pA_ m (qpush q a g))) := by
  change Y _ _ _ _ [some (.ref _), some (.int _), some (.int _)] _ _ _
  refine Y_aload_n 0 rfl (pc2 := 1) rfl rfl ?_
  refine Y_getI 1 rfl (pc2 := 4) rfl fl_re_18 ly_re (by decide) rfl ?_
  refine Y_top (h.1) ?_
  refine Y_bipush 2 rfl (pc2 := 6) rfl (v := nI 32) (by decide) ?_
  refine Y_icmp_gen 3 rfl (pc2 := 9) rfl (tgt := 29) (by decide) (by omega) (by omega) (fun h6 => ?_) (fun h6 => ?_)
  · refine Y_aload_n 16 rfl (pc2 := 30) rfl rfl ?_
    refine Y_dup 17 rfl (pc2 := 31) rfl rfl ?_
    refine Y_getI 18 rfl (pc2 := 34) rfl fl_re_18 ly_re (by decide) rfl ?_
    refine Y_top (by first | exact h.1 | exact (uw_ne (by omega)).trans ((uw_ne (by omega)).trans h.1)) ?_
    refine Y_iconst 19 rfl (pc2 := 35) rfl (v := nI 1) (by decide) ?_
    refine Y_iadd 20 rfl (pc2 := 36) rfl ?_
    refine Y_top (nI_add _ _) ?_
    refine Y_putI 21 rfl (pc2 := 39) rfl fl_re_18 ly_re (by decide) ⟨rfl, rfl⟩ ⟨_, _, _, rfl, rfl⟩ rfl ?_
    refine Y_vret 22 rfl rfl ⟨rfl, ?_⟩
    dsimp only
    first | exact ⟨rfl, RQ_push1 h (by omega) (hx (by omega)).1 (hx (by omega)).2, fR2_1 (by omega) (by omega)⟩ | exact ⟨rfl, RQ_push2 h (by omega), fR2_2⟩
  · refine Y_aload_n 4 rfl (pc2 := 10) rfl rfl ?_
    refine Y_getR 5 rfl (pc2 := 13) rfl fl_re_9 ly_re (by decide) rfl rfl (by omega) ?_
    refine Y_aload_n 6 rfl (pc2 := 14) rfl rfl ?_
    refine Y_getI 7 rfl (pc2 := 17) rfl fl_re_18 ly_re (by decide) rfl ?_
    refine Y_top (h.1) ?_
    refine Y_iload_n 8 rfl (pc2 := 18) rfl rfl ?_
    refine Y_iast 9 rfl (pc2 := 19) rfl ly_reN rfl (by omega) (by decide) rfl ?_
    refine Y_aload_n 10 rfl (pc2 := 20) rfl rfl ?_
    refine Y_getR 11 rfl (pc2 := 23) rfl fl_re_15 ly_re (by decide) rfl rfl (by omega) ?_
    refine Y_aload_n 12 rfl (pc2 := 24) rfl rfl ?_
    refine Y_getI 13 rfl (pc2 := 27) rfl fl_re_18 ly_re (by decide) rfl ?_
    refine Y_top ((uw_ne (by omega)).trans h.1) ?_
    refine Y_iload_n 14 rfl (pc2 := 28) rfl rfl ?_
    refine Y_iast 15 rfl (pc2 := 29) rfl ly_reG rfl (by omega) (by decide) rfl ?_
    refine Y_aload_n 16 rfl (pc2 := 30) rfl rfl ?_
    refine Y_dup 17 rfl (pc2 := 31) rfl rfl ?_
    refine Y_getI 18 rfl (pc2 := 34) rfl fl_re_18 ly_re (by decide) rfl ?_
    refine Y_top (by first | exact h.1 | exact (uw_ne (by omega)).trans ((uw_ne (by omega)).trans h.1)) ?_
    refine Y_iconst 19 rfl (pc2 := 35) rfl (v := nI 1) (by decide) ?_
    refine Y_iadd 20 rfl (pc2 := 36) rfl ?_
    refine Y_top (nI_add _ _) ?_
    refine Y_putI 21 rfl (pc2 := 39) rfl fl_re_18 ly_re (by decide) ⟨rfl, rfl⟩ ⟨_, _, _, rfl, rfl⟩ rfl ?_
    refine Y_vret 22 rfl rfl ⟨rfl, ?_⟩
    dsimp only
    first | exact ⟨rfl, RQ_push1 h (by omega) (hx (by omega)).1 (hx (by omega)).2, fR2_1 (by omega) (by omega)⟩ | exact ⟨rfl, RQ_push2 h (by omega), fR2_2⟩

set_option maxHeartbeats 400000 in
theorem nI_i32 {b : Nat} (hb : b < 2 ^ 31) (h : iR (nI b) 32) : b < 32 := by
  obtain ⟨k, hk, e⟩ := h
  have := (nI_eq hb (by omega)).mp e; omega

set_option maxHeartbeats 400000 in
theorem L_repIn {G : Nat × (Nat → Int32)} {m : Mm} {q : Qt} {s j t : Nat} (hs : s < q.1) (hw : q.1 - s ≤ 64) (hq : q.1 < 50000) (hj : j + 1 < t) (ht : t ≤ 9) (HO : ∀ m1, RQ m1 (rp q s (q.1 - s) ((j + 1) * (q.1 - s))) → fR2 m m1 → ∀ (u v : Option Value), Y G M_re_repeatFrom (0, 0) 8 [some (.ref 3), some (.int (nI s)), some (.int (nI t)), some (.int (nI q.1)), some (.int (nI (j + 1 + 1))), u, v] [] (LAY, m1) (qm_ LAY (pA_ m (rp q s (q.1 - s) ((t - 1) * (q.1 - s)))))) : ∀ b, b ≤ q.1 → s ≤ b → ∀ m1, RQ m1 (rp q s (q.1 - s) (j * (q.1 - s) + (b - s))) → fR2 m m1 → ∀ (u : Option Value), Y G M_re_repeatFrom (0, 0) 17 [some (.ref 3), some (.int (nI s)), some (.int (nI t)), some (.int (nI q.1)), some (.int (nI (j + 1))), some (.int (nI b)), u] [] (LAY, m1) (qm_ LAY (pA_ m (rp q s (q.1 - s) ((t - 1) * (q.1 - s))))) := by
  refine ind_ (fun b hb ih hsb m1 hQ hF u => ?_)
  refine Y_iload 10 rfl (pc2 := 19) rfl rfl ?_
  refine Y_iload_n 11 rfl (pc2 := 20) rfl rfl ?_
  refine Y_icmp_gen 12 rfl (pc2 := 23) rfl (tgt := 76) (by decide) (by omega) (by omega) (fun h20 => ?_) (fun h20 => ?_)
  · refine Y_iinc 37 rfl (pc2 := 79) rfl rfl (nI_inc _ 1) (ls2 := [some (.ref _), some (.int _), some (.int _), some (.int _), some (.int _), some (.int _), _]) rfl ?_
    refine Y_goto 38 rfl (pc2 := 8) (by decide) ?_
    refine HO m1 ?_ hF _ _
    have e : (j + 1) * (q.1 - s) = (j * (q.1 - s) + (b - s)) := by rw [Nat.succ_mul, show b = q.1 by omega]
    rw [e]
    exact hQ
  · refine Y_iload 13 rfl (pc2 := 25) rfl rfl ?_
    refine Y_bipush 14 rfl (pc2 := 27) rfl (v := nI 32) (by decide) ?_
    refine Y_cS 15 rfl (pc2 := 30) rfl ok_gh_isBelow lk_re_73 vs_gh_isBelow (as := [.int _, .int _]) (rest := []) rfl rfl (T_gh_isBelow (by omega)) ?_
    rintro _ _ ⟨rfl, rfl⟩
    change Y _ _ _ _ _ [.int _] _ _
    refine Y_istore 16 rfl (pc2 := 32) rfl (Nat.le_of_ble_eq_true rfl) (ls2 := [some (.ref _), some (.int _), some (.int _), some (.int _), some (.int _), some (.int _), some (.int _)]) rfl ?_
    refine Y_aload_n 17 rfl (pc2 := 33) rfl rfl ?_
    refine Y_iload 18 rfl (pc2 := 35) rfl rfl ?_
    refine Y_if_eqb 19 rfl (pc2 := 38) rfl (tgt := 48) (by decide) (fun h35 => ?_) (fun h35 => ?_)
    · refine Y_ldc 25 rfl (pc2 := 50) rfl kc_re_22 ?_
      refine Y_iload 26 rfl (pc2 := 52) rfl rfl ?_
      refine Y_if_eqb 27 rfl (pc2 := 55) rfl (tgt := 65) (by decide) (fun h52 => ?_) (fun h52 => ?_)
      · refine Y_ldc 33 rfl (pc2 := 67) rfl kc_re_22 ?_
        refine Y_cV 34 rfl (pc2 := 70) rfl ok_re_addBeat lk_re_66 vi_re_addBeat ly_re rfl (by decide) rfl (as := [.int _, .int _]) (rest := []) rfl rfl (T_re_addBeat (a := (rp q s (q.1 - s) (j * (q.1 - s) + (b - s))).2.1 b) (g := (rp q s (q.1 - s) (j * (q.1 - s) + (b - s))).2.2 b) hQ (by rw [rp_n]; have : j * (q.1 - s) ≤ 8 * 600 := Nat.mul_le_mul (by omega) (by omega); omega) (fun hlt => by rw [rp_n] at hlt; first | exact ⟨rfl, rfl⟩ | exact absurd (show iR (nI b) 32 from ⟨b, by omega, rfl⟩) (by assumption))) ?_
        rintro _ m2 ⟨rfl, hQ2, hF2⟩
        change Y _ _ _ _ _ [] _ _
        refine Y_iinc 35 rfl (pc2 := 73) rfl rfl (nI_inc _ 1) (ls2 := [some (.ref _), some (.int _), some (.int _), some (.int _), some (.int _), some (.int _), some (.int _)]) rfl ?_
        refine Y_goto 36 rfl (pc2 := 17) (by decide) ?_
        refine ih (b + 1) (by omega) (by omega) (by omega) m2 ?_ (fR2_t hF hF2) _
        have e : j * (q.1 - s) + (b + 1 - s) = (j * (q.1 - s) + (b - s)) + 1 := by omega
        rw [e]
        have e2 : s + (j * (q.1 - s) + (b - s)) % (q.1 - s) = b := by rw [Nat.mul_comm, Nat.mul_add_mod, Nat.mod_eq_of_lt (by omega)]; omega
        show RQ m2 (qpush (rp q s (q.1 - s) (j * (q.1 - s) + (b - s))) ((rp q s (q.1 - s) (j * (q.1 - s) + (b - s))).2.1 (s + (j * (q.1 - s) + (b - s)) % (q.1 - s))) ((rp q s (q.1 - s) (j * (q.1 - s) + (b - s))).2.2 (s + (j * (q.1 - s) + (b - s)) % (q.1 - s))))
        rw [e2]
        exact hQ2
      · have hb33 := nI_i32 (by omega) h52
        refine Y_aload_n 28 rfl (pc2 := 56) rfl rfl ?_
        refine Y_getR 29 rfl (pc2 := 59) rfl fl_re_15 ly_re (by decide) rfl rfl (by omega) ?_
        refine Y_iload 30 rfl (pc2 := 61) rfl rfl ?_
        refine Y_iald 31 rfl (pc2 := 62) rfl ly_reG rfl (by omega) (by decide) ?_
        refine Y_top ((hQ.2 b (nI_i32 (by omega) h52) (by rw [rp_n]; omega)).2) ?_
        refine Y_goto 32 rfl (pc2 := 67) (by decide) ?_
        refine Y_cV 34 rfl (pc2 := 70) rfl ok_re_addBeat lk_re_66 vi_re_addBeat ly_re rfl (by decide) rfl (as := [.int _, .int _]) (rest := []) rfl rfl (T_re_addBeat (a := (rp q s (q.1 - s) (j * (q.1 - s) + (b - s))).2.1 b) (g := (rp q s (q.1 - s) (j * (q.1 - s) + (b - s))).2.2 b) hQ (by rw [rp_n]; have : j * (q.1 - s) ≤ 8 * 600 := Nat.mul_le_mul (by omega) (by omega); omega) (fun hlt => by rw [rp_n] at hlt; first | exact ⟨rfl, rfl⟩ | exact absurd (show iR (nI b) 32 from ⟨b, by omega, rfl⟩) (by assumption))) ?_
        rintro _ m2 ⟨rfl, hQ2, hF2⟩
        change Y _ _ _ _ _ [] _ _
        refine Y_iinc 35 rfl (pc2 := 73) rfl rfl (nI_inc _ 1) (ls2 := [some (.ref _), some (.int _), some (.int _), some (.int _), some (.int _), some (.int _), some (.int _)]) rfl ?_
        refine Y_goto 36 rfl (pc2 := 17) (by decide) ?_
        refine ih (b + 1) (by omega) (by omega) (by omega) m2 ?_ (fR2_t hF hF2) _
        have e : j * (q.1 - s) + (b + 1 - s) = (j * (q.1 - s) + (b - s)) + 1 := by omega
        rw [e]
        have e2 : s + (j * (q.1 - s) + (b - s)) % (q.1 - s) = b := by rw [Nat.mul_comm, Nat.mul_add_mod, Nat.mod_eq_of_lt (by omega)]; omega
        show RQ m2 (qpush (rp q s (q.1 - s) (j * (q.1 - s) + (b - s))) ((rp q s (q.1 - s) (j * (q.1 - s) + (b - s))).2.1 (s + (j * (q.1 - s) + (b - s)) % (q.1 - s))) ((rp q s (q.1 - s) (j * (q.1 - s) + (b - s))).2.2 (s + (j * (q.1 - s) + (b - s)) % (q.1 - s))))
        rw [e2]
        exact hQ2
    · have hb32 := nI_i32 (by omega) h35
      refine Y_aload_n 20 rfl (pc2 := 39) rfl rfl ?_
      refine Y_getR 21 rfl (pc2 := 42) rfl fl_re_9 ly_re (by decide) rfl rfl (by omega) ?_
      refine Y_iload 22 rfl (pc2 := 44) rfl rfl ?_
      refine Y_iald 23 rfl (pc2 := 45) rfl ly_reN rfl (by omega) (by decide) ?_
      refine Y_top ((hQ.2 b (nI_i32 (by omega) h35) (by rw [rp_n]; omega)).1) ?_
      refine Y_goto 24 rfl (pc2 := 50) (by decide) ?_
      refine Y_iload 26 rfl (pc2 := 52) rfl rfl ?_
      refine Y_if_eqb 27 rfl (pc2 := 55) rfl (tgt := 65) (by decide) (fun h52 => ?_) (fun h52 => ?_)
      · refine Y_ldc 33 rfl (pc2 := 67) rfl kc_re_22 ?_
        refine Y_cV 34 rfl (pc2 := 70) rfl ok_re_addBeat lk_re_66 vi_re_addBeat ly_re rfl (by decide) rfl (as := [.int _, .int _]) (rest := []) rfl rfl (T_re_addBeat (a := (rp q s (q.1 - s) (j * (q.1 - s) + (b - s))).2.1 b) (g := (rp q s (q.1 - s) (j * (q.1 - s) + (b - s))).2.2 b) hQ (by rw [rp_n]; have : j * (q.1 - s) ≤ 8 * 600 := Nat.mul_le_mul (by omega) (by omega); omega) (fun hlt => by rw [rp_n] at hlt; first | exact ⟨rfl, rfl⟩ | exact absurd (show iR (nI b) 32 from ⟨b, by omega, rfl⟩) (by assumption))) ?_
        rintro _ m2 ⟨rfl, hQ2, hF2⟩
        change Y _ _ _ _ _ [] _ _
        refine Y_iinc 35 rfl (pc2 := 73) rfl rfl (nI_inc _ 1) (ls2 := [some (.ref _), some (.int _), some (.int _), some (.int _), some (.int _), some (.int _), some (.int _)]) rfl ?_
        refine Y_goto 36 rfl (pc2 := 17) (by decide) ?_
        refine ih (b + 1) (by omega) (by omega) (by omega) m2 ?_ (fR2_t hF hF2) _
        have e : j * (q.1 - s) + (b + 1 - s) = (j * (q.1 - s) + (b - s)) + 1 := by omega
        rw [e]
        have e2 : s + (j * (q.1 - s) + (b - s)) % (q.1 - s) = b := by rw [Nat.mul_comm, Nat.mul_add_mod, Nat.mod_eq_of_lt (by omega)]; omega
        show RQ m2 (qpush (rp q s (q.1 - s) (j * (q.1 - s) + (b - s))) ((rp q s (q.1 - s) (j * (q.1 - s) + (b - s))).2.1 (s + (j * (q.1 - s) + (b - s)) % (q.1 - s))) ((rp q s (q.1 - s) (j * (q.1 - s) + (b - s))).2.2 (s + (j * (q.1 - s) + (b - s)) % (q.1 - s))))
        rw [e2]
        exact hQ2
      · have hb33 := nI_i32 (by omega) h52
        refine Y_aload_n 28 rfl (pc2 := 56) rfl rfl ?_
        refine Y_getR 29 rfl (pc2 := 59) rfl fl_re_15 ly_re (by decide) rfl rfl (by omega) ?_
        refine Y_iload 30 rfl (pc2 := 61) rfl rfl ?_
        refine Y_iald 31 rfl (pc2 := 62) rfl ly_reG rfl (by omega) (by decide) ?_
        refine Y_top ((hQ.2 b (nI_i32 (by omega) h52) (by rw [rp_n]; omega)).2) ?_
        refine Y_goto 32 rfl (pc2 := 67) (by decide) ?_
        refine Y_cV 34 rfl (pc2 := 70) rfl ok_re_addBeat lk_re_66 vi_re_addBeat ly_re rfl (by decide) rfl (as := [.int _, .int _]) (rest := []) rfl rfl (T_re_addBeat (a := (rp q s (q.1 - s) (j * (q.1 - s) + (b - s))).2.1 b) (g := (rp q s (q.1 - s) (j * (q.1 - s) + (b - s))).2.2 b) hQ (by rw [rp_n]; have : j * (q.1 - s) ≤ 8 * 600 := Nat.mul_le_mul (by omega) (by omega); omega) (fun hlt => by rw [rp_n] at hlt; first | exact ⟨rfl, rfl⟩ | exact absurd (show iR (nI b) 32 from ⟨b, by omega, rfl⟩) (by assumption))) ?_
        rintro _ m2 ⟨rfl, hQ2, hF2⟩
        change Y _ _ _ _ _ [] _ _
        refine Y_iinc 35 rfl (pc2 := 73) rfl rfl (nI_inc _ 1) (ls2 := [some (.ref _), some (.int _), some (.int _), some (.int _), some (.int _), some (.int _), some (.int _)]) rfl ?_
        refine Y_goto 36 rfl (pc2 := 17) (by decide) ?_
        refine ih (b + 1) (by omega) (by omega) (by omega) m2 ?_ (fR2_t hF hF2) _
        have e : j * (q.1 - s) + (b + 1 - s) = (j * (q.1 - s) + (b - s)) + 1 := by omega
        rw [e]
        have e2 : s + (j * (q.1 - s) + (b - s)) % (q.1 - s) = b := by rw [Nat.mul_comm, Nat.mul_add_mod, Nat.mod_eq_of_lt (by omega)]; omega
        show RQ m2 (qpush (rp q s (q.1 - s) (j * (q.1 - s) + (b - s))) ((rp q s (q.1 - s) (j * (q.1 - s) + (b - s))).2.1 (s + (j * (q.1 - s) + (b - s)) % (q.1 - s))) ((rp q s (q.1 - s) (j * (q.1 - s) + (b - s))).2.2 (s + (j * (q.1 - s) + (b - s)) % (q.1 - s))))
        rw [e2]
        exact hQ2

set_option maxHeartbeats 400000 in
theorem L_repOut {G : Nat × (Nat → Int32)} {m : Mm} {q : Qt} {s t : Nat} (hs : s < q.1) (hw : q.1 - s ≤ 64) (hq : q.1 < 50000) (ht1 : 1 ≤ t) (ht : t ≤ 9) : ∀ j, j ≤ t - 1 → ∀ m1, RQ m1 (rp q s (q.1 - s) (j * (q.1 - s))) → fR2 m m1 → ∀ (u v : Option Value), Y G M_re_repeatFrom (0, 0) 8 [some (.ref 3), some (.int (nI s)), some (.int (nI t)), some (.int (nI q.1)), some (.int (nI (j + 1))), u, v] [] (LAY, m1) (qm_ LAY (pA_ m (rp q s (q.1 - s) ((t - 1) * (q.1 - s))))) := by
  refine ind_ (fun j hj ih m1 hQ hF u v => ?_)
  refine Y_iload 5 rfl (pc2 := 10) rfl rfl ?_
  refine Y_iload_n 6 rfl (pc2 := 11) rfl rfl ?_
  refine Y_icmp_gen 7 rfl (pc2 := 14) rfl (tgt := 82) (by decide) (by omega) (by omega) (fun h11 => ?_) (fun h11 => ?_)
  · refine Y_vret 39 rfl rfl ⟨rfl, ?_⟩
    dsimp only
    exact ⟨rfl, by rw [show t - 1 = j by omega]; exact hQ, hF⟩
  · refine Y_iload_n 8 rfl (pc2 := 15) rfl rfl ?_
    refine Y_istore 9 rfl (pc2 := 17) rfl (Nat.le_of_ble_eq_true rfl) (ls2 := [some (.ref _), some (.int _), some (.int _), some (.int _), some (.int _), some (.int _), _]) rfl ?_
    exact L_repIn hs hw hq (by omega) ht (fun m2 h2 f2 u2 v2 => ih (j + 1) (by omega) (by omega) m2 h2 f2 u2 v2) s (by omega) (Nat.le_refl s) m1 (by rw [Nat.sub_self, Nat.add_zero]; exact hQ) hF _

set_option maxHeartbeats 400000 in
theorem T_re_repeatFrom {G : Nat × (Nat → Int32)} {m : Mm} {q : Qt} {s t : Nat} (h : RQ m q) (hs : s < q.1) (hw : q.1 - s ≤ 64) (hq : q.1 < 50000) (ht1 : 1 ≤ t) (ht : t ≤ 9) : Y G M_re_repeatFrom (0, 0) 0 (en_ M_re_repeatFrom [.ref (3), .int (nI s), .int (nI t)]) [] (LAY, m) (qm_ LAY (pA_ m (rp q s (q.1 - s) ((t - 1) * (q.1 - s))))) := by
  change Y _ _ _ _ [some (.ref _), some (.int _), some (.int _), none, none, none, none] _ _ _
  refine Y_aload_n 0 rfl (pc2 := 1) rfl rfl ?_
  refine Y_getI 1 rfl (pc2 := 4) rfl fl_re_18 ly_re (by decide) rfl ?_
  refine Y_top (h.1) ?_
  refine Y_istore_n 2 rfl (pc2 := 5) rfl (Nat.le_of_ble_eq_true rfl) (ls2 := [some (.ref _), some (.int _), some (.int _), some (.int _), none, none, none]) rfl ?_
  refine Y_iconst 3 rfl (pc2 := 6) rfl (v := nI 1) (by decide) ?_
  refine Y_istore 4 rfl (pc2 := 8) rfl (Nat.le_of_ble_eq_true rfl) (ls2 := [some (.ref _), some (.int _), some (.int _), some (.int _), some (.int _), none, none]) rfl ?_
  exact L_repOut hs hw hq ht1 ht 0 (Nat.zero_le _) m (by rw [Nat.zero_mul]; exact h) ⟨fun _ _ => rfl, fun _ _ => rfl⟩ _ _

def sgv (v : Nat) : Int32 := (nI v).toInt8.toInt32
set_option maxHeartbeats 400000 in
theorem sgv_p : ∀ v, v < 128 → sgv v = nI v := by decide +kernel
set_option maxHeartbeats 400000 in
theorem sgv_n : ∀ v, v < 256 → 128 ≤ v → sgv v < 0 := by decide +kernel
def pT_ (m : Mm) (o : Option As) : Option Value → Mm → Prop := fun v m' => fR m m' ∧ ((o = none ∧ v = some (.int (nI 0))) ∨ (∃ q op aT aG, o = some (q, op, aT, aG) ∧ v = some (.int (nI 1)) ∧ RR m' q op aT aG))
set_option maxHeartbeats 400000 in
theorem fR_id {m : Mm} : fR m m := fun _ _ => rfl
set_option maxHeartbeats 400000 in
theorem fR_u {m m' : Mm} {k : Nat} {v : Int32} (h : fR m m') : fR m (uw_ m' 3 k v) := fun a ha => funext fun i => by rw [uw_ne (by omega)]; exact congrFun (h a ha) i
set_option maxHeartbeats 400000 in
theorem RQ_u {m : Mm} {q : Qt} {k : Nat} {v : Int32} (h : RQ m q) (hk : ¬ k = 2) : RQ (uw_ m 3 k v) q :=
  ⟨(uw_ne (by omega)).trans h.1, fun i h1 h2 => ⟨(uw_ne (by omega)).trans (h.2 i h1 h2).1, (uw_ne (by omega)).trans (h.2 i h1 h2).2⟩⟩
set_option maxHeartbeats 400000 in
theorem RQ_f {m m' : Mm} {q : Qt} (h : RQ m q) (e : m' = m) : RQ m' q := e ▸ h
set_option maxHeartbeats 400000 in
theorem RQ_set1 {m : Mm} {q : Qt} {k x : Int32} (h : RQ m q) (h1 : 1 ≤ q.1) (hn : q.1 ≤ 32) (hx : x = oC k) : RQ (uw_ m 5 (q.1 - 1) x) (qset q k) := by
  refine ⟨(uw_ne (by omega)).trans h.1, fun i hi hq => ?_⟩
  have hq2 : i < q.1 := hq
  obtain ⟨p1, p2⟩ := h.2 i hi hq2
  refine ⟨(uw_ne (by omega)).trans p1, ?_⟩
  show _ = oC (if i + 1 = q.1 then k else _)
  by_cases e : i + 1 = q.1
  · rw [if_pos e, show i = q.1 - 1 by omega, uw_same, hx]
  · rw [if_neg e, uw_ne (by omega)]; exact p2
set_option maxHeartbeats 400000 in
theorem RQ_set2 {m : Mm} {q : Qt} {k : Int32} (h : RQ m q) (hn : ¬ (1 ≤ q.1 ∧ q.1 ≤ 32)) : RQ m (qset q k) := by
  refine ⟨h.1, fun i hi hq => ?_⟩
  have hq2 : i < q.1 := hq
  obtain ⟨p1, p2⟩ := h.2 i hi hq2
  refine ⟨p1, ?_⟩
  show _ = oC (if i + 1 = q.1 then k else _)
  rw [if_neg (by omega)]; exact p2
set_option maxHeartbeats 400000 in
theorem bo_t : bo true = nI 1 := rfl
set_option maxHeartbeats 400000 in
theorem bo_f : bo false = nI 0 := rfl
set_option maxHeartbeats 400000 in
theorem fR_51 {m : Mm} {k : Nat} {v : Int32} : fR m (uw_ m 5 k v) := fun a ha => funext fun i => by rw [uw_ne (by omega)]

set_option maxHeartbeats 400000 in
theorem T_re_takesBeat {G : Nat × (Nat → Int32)} {m : Mm} {q : Qt} {op : Option Nat} {aG : Bool} (h : RR m q (op) false aG) (hb : q.1 < 50000) {a x : Int32} (hx : x = oC a) : Y G M_re_takesBeat (0, 0) 0 (en_ M_re_takesBeat [.ref (3), .int (x)]) [] (LAY, m) (qm_ LAY (pT_ m (some (qpush q a (-1), op, false, true)))) := by
  change Y _ _ _ _ [some (.ref _), some (.int _)] _ _ _
  refine Y_aload_n 0 rfl (pc2 := 1) rfl rfl ?_
  refine Y_iload_n 1 rfl (pc2 := 2) rfl rfl ?_
  refine Y_ldc 2 rfl (pc2 := 4) rfl kc_re_22 ?_
  refine Y_cV 3 rfl (pc2 := 7) rfl ok_re_addBeat lk_re_66 vi_re_addBeat ly_re rfl (by decide) rfl (as := [.int _, .int _]) (rest := []) rfl rfl (T_re_addBeat (g := -1) h.1 (by omega) (fun _ => ⟨hx, rfl⟩)) ?_
  rintro _ m1 ⟨rfl, hQ, hF⟩
  change Y _ _ _ _ _ [] _ _
  refine Y_aload_n 4 rfl (pc2 := 8) rfl rfl ?_
  refine Y_iconst 5 rfl (pc2 := 9) rfl (v := nI 1) (by decide) ?_
  refine Y_putI 6 rfl (pc2 := 12) rfl fl_re_30 ly_re (by decide) ⟨rfl, rfl⟩ ⟨_, _, _, rfl, rfl⟩ rfl ?_
  refine Y_iconst 7 rfl (pc2 := 13) rfl (v := nI 1) (by decide) ?_
  refine Y_iret 8 rfl rfl rfl ⟨rfl, ?_⟩
  dsimp only
  exact ⟨fR_u hF.1, Or.inr ⟨_, _, _, _, rfl, rfl, RQ_u hQ (by decide), (uw_ne (by omega)).trans ((hF.2 3 (by decide)).trans h.2.1), (uw_ne (by omega)).trans ((hF.2 4 (by decide)).trans h.2.2.1), uw_same⟩⟩

set_option maxHeartbeats 400000 in
theorem T_re_takesGong {G : Nat × (Nat → Int32)} {m : Mm} {q : Qt} {op : Option Nat} {aG : Bool} (h : RR m q (op) false aG) (hb : q.1 < 50000) {k x : Int32} (hx : x = oC k) (hk : oR k 4) : Y G M_re_takesGong (0, 0) 0 (en_ M_re_takesGong [.ref (3), .int (x)]) [] (LAY, m) (qm_ LAY (pT_ m (if aG = true ∧ ¬ k = -1 then some (qset q k, op, false, false) else none))) := by
  change Y _ _ _ _ [some (.ref _), some (.int _)] _ _ _
  have hn := (oC_none (by decide) hk).trans (oR_neg (by decide) hk)
  have hg := h.2.2.2
  refine Y_aload_n 0 rfl (pc2 := 1) rfl rfl ?_
  refine Y_getI 1 rfl (pc2 := 4) rfl fl_re_30 ly_re (by decide) rfl ?_
  refine Y_top (h.2.2.2) ?_
  refine Y_if_eq 2 rfl (pc2 := 7) rfl (tgt := 13) (by decide) (fun h4 => ?_) (fun h4 => ?_)
  · refine Y_iconst 6 rfl (pc2 := 14) rfl (v := nI 0) (by decide) ?_
    refine Y_iret 7 rfl rfl rfl ⟨rfl, ?_⟩
    dsimp only
    first
      | exact ⟨fR_id, Or.inl ⟨if_neg (fun e => by have e1 : aG = true := e.1; rw [e1] at h4; exact absurd h4 (by decide)), rfl⟩⟩
      | exact ⟨fR_id, Or.inl ⟨if_neg (fun e => e.2 (hn.mp (by rw [← hx]; first | exact h10 | exact Classical.byContradiction h10))), rfl⟩⟩
  · refine Y_iload_n 3 rfl (pc2 := 8) rfl rfl ?_
    refine Y_ldc 4 rfl (pc2 := 10) rfl kc_re_22 ?_
    refine Y_icmp_ne 5 rfl (pc2 := 13) rfl (tgt := 15) (by decide) (fun h10 => ?_) (fun h10 => ?_)
    · refine Y_aload_n 8 rfl (pc2 := 16) rfl rfl ?_
      refine Y_getI 9 rfl (pc2 := 19) rfl fl_re_18 ly_re (by decide) rfl ?_
      refine Y_top (h.1.1) ?_
      refine Y_iconst 10 rfl (pc2 := 20) rfl (v := nI 1) (by decide) ?_
      refine Y_icmp_ltn 11 rfl (pc2 := 23) rfl (tgt := 44) (by decide) (by omega) (by omega) (fun h20 => ?_) (fun h20 => ?_)
      · refine Y_aload_n 24 rfl (pc2 := 45) rfl rfl ?_
        refine Y_iconst 25 rfl (pc2 := 46) rfl (v := nI 0) (by decide) ?_
        refine Y_putI 26 rfl (pc2 := 49) rfl fl_re_30 ly_re (by decide) ⟨rfl, rfl⟩ ⟨_, _, _, rfl, rfl⟩ rfl ?_
        refine Y_iconst 27 rfl (pc2 := 50) rfl (v := nI 1) (by decide) ?_
        refine Y_iret 28 rfl rfl rfl ⟨rfl, ?_⟩
        dsimp only
        have e1 : aG = true := by
          cases aG with
          | true => rfl
          | false => exact absurd rfl h4
        have e2 : ¬ k = -1 := fun e => h10 (by rw [hx]; exact hn.mpr e)
        first
          | exact ⟨fR_u fR_51, Or.inr ⟨_, _, _, _, if_pos ⟨e1, e2⟩, rfl, RQ_u (RQ_set1 h.1 (by omega) (by omega) hx) (by decide), (uw_ne (by omega)).trans ((uw_ne (by omega)).trans h.2.1), (uw_ne (by omega)).trans ((uw_ne (by omega)).trans h.2.2.1), uw_same⟩⟩
          | exact ⟨fR_u fR_id, Or.inr ⟨_, _, _, _, if_pos ⟨e1, e2⟩, rfl, RQ_u (RQ_set2 h.1 (by omega)) (by decide), (uw_ne (by omega)).trans h.2.1, (uw_ne (by omega)).trans h.2.2.1, uw_same⟩⟩
      · refine Y_aload_n 12 rfl (pc2 := 24) rfl rfl ?_
        refine Y_getI 13 rfl (pc2 := 27) rfl fl_re_18 ly_re (by decide) rfl ?_
        refine Y_top (h.1.1) ?_
        refine Y_bipush 14 rfl (pc2 := 29) rfl (v := nI 32) (by decide) ?_
        refine Y_icmp_gtn 15 rfl (pc2 := 32) rfl (tgt := 44) (by decide) (by omega) (by omega) (fun h29 => ?_) (fun h29 => ?_)
        · refine Y_aload_n 24 rfl (pc2 := 45) rfl rfl ?_
          refine Y_iconst 25 rfl (pc2 := 46) rfl (v := nI 0) (by decide) ?_
          refine Y_putI 26 rfl (pc2 := 49) rfl fl_re_30 ly_re (by decide) ⟨rfl, rfl⟩ ⟨_, _, _, rfl, rfl⟩ rfl ?_
          refine Y_iconst 27 rfl (pc2 := 50) rfl (v := nI 1) (by decide) ?_
          refine Y_iret 28 rfl rfl rfl ⟨rfl, ?_⟩
          dsimp only
          have e1 : aG = true := by
            cases aG with
            | true => rfl
            | false => exact absurd rfl h4
          have e2 : ¬ k = -1 := fun e => h10 (by rw [hx]; exact hn.mpr e)
          first
            | exact ⟨fR_u fR_51, Or.inr ⟨_, _, _, _, if_pos ⟨e1, e2⟩, rfl, RQ_u (RQ_set1 h.1 (by omega) (by omega) hx) (by decide), (uw_ne (by omega)).trans ((uw_ne (by omega)).trans h.2.1), (uw_ne (by omega)).trans ((uw_ne (by omega)).trans h.2.2.1), uw_same⟩⟩
            | exact ⟨fR_u fR_id, Or.inr ⟨_, _, _, _, if_pos ⟨e1, e2⟩, rfl, RQ_u (RQ_set2 h.1 (by omega)) (by decide), (uw_ne (by omega)).trans h.2.1, (uw_ne (by omega)).trans h.2.2.1, uw_same⟩⟩
        · refine Y_aload_n 16 rfl (pc2 := 33) rfl rfl ?_
          refine Y_getR 17 rfl (pc2 := 36) rfl fl_re_15 ly_re (by decide) rfl rfl (by omega) ?_
          refine Y_aload_n 18 rfl (pc2 := 37) rfl rfl ?_
          refine Y_getI 19 rfl (pc2 := 40) rfl fl_re_18 ly_re (by decide) rfl ?_
          refine Y_top (h.1.1) ?_
          refine Y_iconst 20 rfl (pc2 := 41) rfl (v := nI 1) (by decide) ?_
          refine Y_isub 21 rfl (pc2 := 42) rfl ?_
          refine Y_top (nI_sub (by omega)) ?_
          refine Y_iload_n 22 rfl (pc2 := 43) rfl rfl ?_
          refine Y_iast 23 rfl (pc2 := 44) rfl ly_reG rfl (by omega) (by decide) rfl ?_
          refine Y_aload_n 24 rfl (pc2 := 45) rfl rfl ?_
          refine Y_iconst 25 rfl (pc2 := 46) rfl (v := nI 0) (by decide) ?_
          refine Y_putI 26 rfl (pc2 := 49) rfl fl_re_30 ly_re (by decide) ⟨rfl, rfl⟩ ⟨_, _, _, rfl, rfl⟩ rfl ?_
          refine Y_iconst 27 rfl (pc2 := 50) rfl (v := nI 1) (by decide) ?_
          refine Y_iret 28 rfl rfl rfl ⟨rfl, ?_⟩
          dsimp only
          have e1 : aG = true := by
            cases aG with
            | true => rfl
            | false => exact absurd rfl h4
          have e2 : ¬ k = -1 := fun e => h10 (by rw [hx]; exact hn.mpr e)
          first
            | exact ⟨fR_u fR_51, Or.inr ⟨_, _, _, _, if_pos ⟨e1, e2⟩, rfl, RQ_u (RQ_set1 h.1 (by omega) (by omega) hx) (by decide), (uw_ne (by omega)).trans ((uw_ne (by omega)).trans h.2.1), (uw_ne (by omega)).trans ((uw_ne (by omega)).trans h.2.2.1), uw_same⟩⟩
            | exact ⟨fR_u fR_id, Or.inr ⟨_, _, _, _, if_pos ⟨e1, e2⟩, rfl, RQ_u (RQ_set2 h.1 (by omega)) (by decide), (uw_ne (by omega)).trans h.2.1, (uw_ne (by omega)).trans h.2.2.1, uw_same⟩⟩
    · refine Y_iconst 6 rfl (pc2 := 14) rfl (v := nI 0) (by decide) ?_
      refine Y_iret 7 rfl rfl rfl ⟨rfl, ?_⟩
      dsimp only
      first
        | exact ⟨fR_id, Or.inl ⟨if_neg (fun e => by have e1 : aG = true := e.1; rw [e1] at h4; exact absurd h4 (by decide)), rfl⟩⟩
        | exact ⟨fR_id, Or.inl ⟨if_neg (fun e => e.2 (hn.mp (by rw [← hx]; first | exact h10 | exact Classical.byContradiction h10))), rfl⟩⟩

set_option maxHeartbeats 400000 in
theorem opI_none {op : Option Nat} (h : ∀ k, op = some k → k < 2 ^ 31) : opI op = NONE_ ↔ op = none := by
  cases op with
  | none => exact ⟨fun _ => rfl, fun _ => rfl⟩
  | some k => exact ⟨fun e => absurd e (nI_none (h k rfl)), fun e => by cases e⟩

set_option maxHeartbeats 400000 in
theorem T_re_takesOpening {G : Nat × (Nat → Int32)} {m : Mm} {q : Qt} {op : Option Nat} {aG : Bool} (h : RR m q (op) false aG) (hb : q.1 < 50000) (ho : ∀ k, op = some k → k ≤ q.1) : Y G M_re_takesOpening (0, 0) 0 (en_ M_re_takesOpening [.ref (3)]) [] (LAY, m) (qm_ LAY (pT_ m (if op = none then some (q, some q.1, false, false) else none))) := by
  change Y _ _ _ _ [some (.ref _)] _ _ _
  have hon := opI_none (op := op) (fun k e => by have := ho k e; omega)
  refine Y_aload_n 0 rfl (pc2 := 1) rfl rfl ?_
  refine Y_getI 1 rfl (pc2 := 4) rfl fl_re_23 ly_re (by decide) rfl ?_
  refine Y_top (h.2.1) ?_
  refine Y_ldc 2 rfl (pc2 := 6) rfl kc_re_22 ?_
  refine Y_icmp_eq 3 rfl (pc2 := 9) rfl (tgt := 11) (by decide) (fun h6 => ?_) (fun h6 => ?_)
  · refine Y_aload_n 6 rfl (pc2 := 12) rfl rfl ?_
    refine Y_aload_n 7 rfl (pc2 := 13) rfl rfl ?_
    refine Y_getI 8 rfl (pc2 := 16) rfl fl_re_18 ly_re (by decide) rfl ?_
    refine Y_top (h.1.1) ?_
    refine Y_putI 9 rfl (pc2 := 19) rfl fl_re_23 ly_re (by decide) ⟨rfl, rfl⟩ ⟨_, _, _, rfl, rfl⟩ rfl ?_
    refine Y_aload_n 10 rfl (pc2 := 20) rfl rfl ?_
    refine Y_iconst 11 rfl (pc2 := 21) rfl (v := nI 0) (by decide) ?_
    refine Y_putI 12 rfl (pc2 := 24) rfl fl_re_30 ly_re (by decide) ⟨rfl, rfl⟩ ⟨_, _, _, rfl, rfl⟩ rfl ?_
    refine Y_iconst 13 rfl (pc2 := 25) rfl (v := nI 1) (by decide) ?_
    refine Y_iret 14 rfl rfl rfl ⟨rfl, ?_⟩
    dsimp only
    exact ⟨fR_u (fR_u fR_id), Or.inr ⟨_, _, _, _, if_pos (hon.mp h6), rfl, RQ_u (RQ_u h.1 (by decide)) (by decide), (uw_ne (by omega)).trans uw_same, (uw_ne (by omega)).trans ((uw_ne (by omega)).trans h.2.2.1), uw_same⟩⟩
  · refine Y_iconst 4 rfl (pc2 := 10) rfl (v := nI 0) (by decide) ?_
    refine Y_iret 5 rfl rfl rfl ⟨rfl, ?_⟩
    dsimp only
    exact ⟨fR_id, Or.inl ⟨if_neg (fun e => h6 (hon.mpr e)), rfl⟩⟩

set_option maxHeartbeats 400000 in
theorem T_re_takesClosing {G : Nat × (Nat → Int32)} {m : Mm} {q : Qt} {op : Option Nat} {aG : Bool} (h : RR m q (op) false aG) (hb : q.1 < 50000) (ho : ∀ k, op = some k → k ≤ q.1) : Y G M_re_takesClosing (0, 0) 0 (en_ M_re_takesClosing [.ref (3)]) [] (LAY, m) (qm_ LAY (pT_ m (if op = none ∨ op = some q.1 then none else some (q, op, true, false)))) := by
  change Y _ _ _ _ [some (.ref _)] _ _ _
  have hon := opI_none (op := op) (fun k e => by have := ho k e; omega)
  refine Y_aload_n 0 rfl (pc2 := 1) rfl rfl ?_
  refine Y_getI 1 rfl (pc2 := 4) rfl fl_re_23 ly_re (by decide) rfl ?_
  refine Y_top (h.2.1) ?_
  refine Y_ldc 2 rfl (pc2 := 6) rfl kc_re_22 ?_
  refine Y_icmp_eq 3 rfl (pc2 := 9) rfl (tgt := 20) (by decide) (fun h6 => ?_) (fun h6 => ?_)
  · refine Y_iconst 9 rfl (pc2 := 21) rfl (v := nI 0) (by decide) ?_
    refine Y_iret 10 rfl rfl rfl ⟨rfl, ?_⟩
    dsimp only
    first
      | exact ⟨fR_id, Or.inl ⟨if_pos (Or.inl (hon.mp h6)), rfl⟩⟩
      | exact (by
          cases op with
          | none => exact absurd rfl h6
          | some k =>
            have e := (nI_eq (a := k) (b := q.1) (by have := ho k rfl; omega) (by omega)).mp (by first | exact h17 | exact Classical.byContradiction h17)
            rw [e]
            exact ⟨fR_id, Or.inl ⟨if_pos (Or.inr rfl), rfl⟩⟩)
  · refine Y_aload_n 4 rfl (pc2 := 10) rfl rfl ?_
    refine Y_getI 5 rfl (pc2 := 13) rfl fl_re_23 ly_re (by decide) rfl ?_
    refine Y_top (h.2.1) ?_
    refine Y_aload_n 6 rfl (pc2 := 14) rfl rfl ?_
    refine Y_getI 7 rfl (pc2 := 17) rfl fl_re_18 ly_re (by decide) rfl ?_
    refine Y_top (h.1.1) ?_
    refine Y_icmp_ne 8 rfl (pc2 := 20) rfl (tgt := 22) (by decide) (fun h17 => ?_) (fun h17 => ?_)
    · refine Y_aload_n 11 rfl (pc2 := 23) rfl rfl ?_
      refine Y_iconst 12 rfl (pc2 := 24) rfl (v := nI 1) (by decide) ?_
      refine Y_putI 13 rfl (pc2 := 27) rfl fl_re_26 ly_re (by decide) ⟨rfl, rfl⟩ ⟨_, _, _, rfl, rfl⟩ rfl ?_
      refine Y_aload_n 14 rfl (pc2 := 28) rfl rfl ?_
      refine Y_iconst 15 rfl (pc2 := 29) rfl (v := nI 0) (by decide) ?_
      refine Y_putI 16 rfl (pc2 := 32) rfl fl_re_30 ly_re (by decide) ⟨rfl, rfl⟩ ⟨_, _, _, rfl, rfl⟩ rfl ?_
      refine Y_iconst 17 rfl (pc2 := 33) rfl (v := nI 1) (by decide) ?_
      refine Y_iret 18 rfl rfl rfl ⟨rfl, ?_⟩
      dsimp only
      exact ⟨fR_u (fR_u fR_id), Or.inr ⟨_, _, _, _, if_neg (fun e => e.elim (fun q => h6 (hon.mpr q)) (fun q => h17 (by rw [q]; rfl))), rfl, RQ_u (RQ_u h.1 (by decide)) (by decide), (uw_ne (by omega)).trans ((uw_ne (by omega)).trans h.2.1), (uw_ne (by omega)).trans uw_same, uw_same⟩⟩
    · refine Y_iconst 9 rfl (pc2 := 21) rfl (v := nI 0) (by decide) ?_
      refine Y_iret 10 rfl rfl rfl ⟨rfl, ?_⟩
      dsimp only
      first
        | exact ⟨fR_id, Or.inl ⟨if_pos (Or.inl (hon.mp h6)), rfl⟩⟩
        | exact (by
            cases op with
            | none => exact absurd rfl h6
            | some k =>
              have e := (nI_eq (a := k) (b := q.1) (by have := ho k rfl; omega) (by omega)).mp (by first | exact h17 | exact Classical.byContradiction h17)
              rw [e]
              exact ⟨fR_id, Or.inl ⟨if_pos (Or.inr rfl), rfl⟩⟩)

set_option maxHeartbeats 400000 in
theorem T_re_takesTimes {G : Nat × (Nat → Int32)} {m : Mm} {q : Qt} {st : Nat} {aG : Bool} (h : RR m q (some st) true aG) (hb : q.1 < 50000) (hs : st < q.1) (hw : q.1 - st ≤ 64) {v : Nat} (hv : v < 128) : Y G M_re_takesTimes (0, 0) 0 (en_ M_re_takesTimes [.ref (3), .int (nI v)]) [] (LAY, m) (qm_ LAY (pT_ m (if 50 ≤ v ∧ v ≤ 57 then some (rp q st (q.1 - st) ((v - 49) * (q.1 - st)), none, false, aG) else none))) := by
  change Y _ _ _ _ [some (.ref _), some (.int _)] _ _ _
  refine Y_iload_n 0 rfl (pc2 := 1) rfl rfl ?_
  refine Y_bipush 1 rfl (pc2 := 3) rfl (v := nI 50) (by decide) ?_
  refine Y_icmp_ltn 2 rfl (pc2 := 6) rfl (tgt := 12) (by decide) (by omega) (by omega) (fun h3 => ?_) (fun h3 => ?_)
  · refine Y_iconst 6 rfl (pc2 := 13) rfl (v := nI 0) (by decide) ?_
    refine Y_iret 7 rfl rfl rfl ⟨rfl, ?_⟩
    dsimp only
    exact ⟨fR_id, Or.inl ⟨if_neg (by omega), rfl⟩⟩
  · refine Y_iload_n 3 rfl (pc2 := 7) rfl rfl ?_
    refine Y_bipush 4 rfl (pc2 := 9) rfl (v := nI 57) (by decide) ?_
    refine Y_icmp_len 5 rfl (pc2 := 12) rfl (tgt := 14) (by decide) (by omega) (by omega) (fun h9 => ?_) (fun h9 => ?_)
    · refine Y_aload_n 8 rfl (pc2 := 15) rfl rfl ?_
      refine Y_aload_n 9 rfl (pc2 := 16) rfl rfl ?_
      refine Y_getI 10 rfl (pc2 := 19) rfl fl_re_23 ly_re (by decide) rfl ?_
      refine Y_top (h.2.1) ?_
      refine Y_iload_n 11 rfl (pc2 := 20) rfl rfl ?_
      refine Y_bipush 12 rfl (pc2 := 22) rfl (v := nI 48) (by decide) ?_
      refine Y_isub 13 rfl (pc2 := 23) rfl ?_
      refine Y_top (nI_sub (by omega)) ?_
      refine Y_cV 14 rfl (pc2 := 26) rfl ok_re_repeatFrom lk_re_70 vi_re_repeatFrom ly_re rfl (by decide) rfl (as := [.int _, .int _]) (rest := []) rfl rfl (T_re_repeatFrom h.1 hs hw (by omega) (by omega) (by omega)) ?_
      rintro _ m1 ⟨rfl, hQ, hF⟩
      change Y _ _ _ _ _ [] _ _
      refine Y_aload_n 15 rfl (pc2 := 27) rfl rfl ?_
      refine Y_ldc 16 rfl (pc2 := 29) rfl kc_re_22 ?_
      refine Y_putI 17 rfl (pc2 := 32) rfl fl_re_23 ly_re (by decide) ⟨rfl, rfl⟩ ⟨_, _, _, rfl, rfl⟩ rfl ?_
      refine Y_aload_n 18 rfl (pc2 := 33) rfl rfl ?_
      refine Y_iconst 19 rfl (pc2 := 34) rfl (v := nI 0) (by decide) ?_
      refine Y_putI 20 rfl (pc2 := 37) rfl fl_re_26 ly_re (by decide) ⟨rfl, rfl⟩ ⟨_, _, _, rfl, rfl⟩ rfl ?_
      refine Y_iconst 21 rfl (pc2 := 38) rfl (v := nI 1) (by decide) ?_
      refine Y_iret 22 rfl rfl rfl ⟨rfl, ?_⟩
      dsimp only
      exact ⟨fR_u (fR_u hF.1), Or.inr ⟨_, _, _, _, if_pos (by omega), rfl, RQ_u (RQ_u (by rw [show v - 48 - 1 = v - 49 by omega] at hQ; exact hQ) (by decide)) (by decide), (uw_ne (by omega)).trans uw_same, uw_same, (uw_ne (by omega)).trans ((uw_ne (by omega)).trans ((hF.2 5 (by decide)).trans h.2.2.2))⟩⟩
    · refine Y_iconst 6 rfl (pc2 := 13) rfl (v := nI 0) (by decide) ?_
      refine Y_iret 7 rfl rfl rfl ⟨rfl, ?_⟩
      dsimp only
      exact ⟨fR_id, Or.inl ⟨if_neg (by omega), rfl⟩⟩

set_option maxHeartbeats 400000 in
theorem lk_no : ∀ v, v < 128 → ¬ v = 71 → ¬ v = 72 → ¬ v = 76 → ¬ v = 103 → Op.lookupswitch.offset [(71, 45), (72, 47), (76, 49), (103, 43)] 51 (nI v).toInt = 51 := by decide +kernel

set_option maxHeartbeats 400000 in
theorem T_re_kindOf {G : Nat × (Nat → Int32)} {m : Mm} {v : Nat} (hv : v < 128) : Y G M_re_kindOf (0, 0) 0 (en_ M_re_kindOf [.int (nI v)]) [] (LAY, m) (qm_ LAY (pu_ (oC (gkn v)) m)) := by
  change Y _ _ _ _ [some (.int _)] _ _ _
  refine Y_iload_n 0 rfl (pc2 := 1) rfl rfl ?_
  by_cases h1 : v = 71
  · subst h1
    refine Y_lookup 1 rfl (by decide) (off := 45) (by decide) (pc2 := 46) (by decide) ?_
    refine Y_iconst 4 rfl (pc2 := 47) rfl (v := nI 1) (by decide) ?_
    exact Y_iret 5 rfl rfl rfl ⟨rfl, pu_i rfl⟩
  by_cases h2 : v = 72
  · subst h2
    refine Y_lookup 1 rfl (by decide) (off := 47) (by decide) (pc2 := 48) (by decide) ?_
    refine Y_iconst 6 rfl (pc2 := 49) rfl (v := nI 2) (by decide) ?_
    exact Y_iret 7 rfl rfl rfl ⟨rfl, pu_i rfl⟩
  by_cases h3 : v = 76
  · subst h3
    refine Y_lookup 1 rfl (by decide) (off := 49) (by decide) (pc2 := 50) (by decide) ?_
    refine Y_iconst 8 rfl (pc2 := 51) rfl (v := nI 3) (by decide) ?_
    exact Y_iret 9 rfl rfl rfl ⟨rfl, pu_i rfl⟩
  by_cases h4 : v = 103
  · subst h4
    refine Y_lookup 1 rfl (by decide) (off := 43) (by decide) (pc2 := 44) (by decide) ?_
    refine Y_iconst 2 rfl (pc2 := 45) rfl (v := nI 0) (by decide) ?_
    exact Y_iret 3 rfl rfl rfl ⟨rfl, pu_i rfl⟩
  refine Y_lookup 1 rfl (by decide) (off := 51) (lk_no v hv h1 h2 h3 h4) (pc2 := 52) (by decide) ?_
  refine Y_ldc 10 rfl (pc2 := 54) rfl kc_re_22 ?_
  exact Y_iret 11 rfl rfl rfl ⟨rfl, pu_i (by unfold gkn; rw [if_neg h4, if_neg h1, if_neg h2, if_neg h3]; rfl)⟩
end
section
/-! the class: a tune's faults -/
set_option maxHeartbeats 400000 in
theorem lk_no2 : ∀ v, v < 256 → 128 ≤ v → Op.lookupswitch.offset [(71, 45), (72, 47), (76, 49), (103, 43)] 51 (sgv v).toInt = 51 := by decide +kernel
set_option maxHeartbeats 400000 in
theorem gk_no {v : Nat} (h : 128 ≤ v) : gkn v = -1 := by
  unfold gkn
  rw [if_neg (by omega), if_neg (by omega), if_neg (by omega), if_neg (by omega)]
set_option maxHeartbeats 400000 in
theorem gk_or (v : Nat) : oR (gkn v) 4 := by
  unfold gkn
  split
  · exact Or.inr ⟨0, by decide, rfl⟩
  · split
    · exact Or.inr ⟨1, by decide, rfl⟩
    · split
      · exact Or.inr ⟨2, by decide, rfl⟩
      · split
        · exact Or.inr ⟨3, by decide, rfl⟩
        · exact Or.inl rfl
set_option maxHeartbeats 400000 in
theorem T_re_kindOf2 {G : Nat × (Nat → Int32)} {m : Mm} {v : Nat} (hv : v < 256) (hv2 : 128 ≤ v) : Y G M_re_kindOf (0, 0) 0 (en_ M_re_kindOf [.int (sgv v)]) [] (LAY, m) (qm_ LAY (pu_ (oC (gkn v)) m)) := by
  change Y _ _ _ _ [some (.int _)] _ _ _
  refine Y_iload_n 0 rfl (pc2 := 1) rfl rfl ?_
  refine Y_lookup 1 rfl (by decide) (off := 51) (lk_no2 v hv hv2) (pc2 := 52) (by decide) ?_
  refine Y_ldc 10 rfl (pc2 := 54) rfl kc_re_22 ?_
  exact Y_iret 11 rfl rfl rfl ⟨rfl, pu_i (by rw [gk_no hv2]; rfl)⟩
def iv (p : Nat) (q : Qt) (op : Option Nat) (aT : Bool) : Prop := q.1 ≤ 600 * p ∧ (∀ k, op = some k → k ≤ q.1 ∧ q.1 - k ≤ p) ∧ (aT = true → ∃ k, op = some k ∧ k < q.1)

set_option maxHeartbeats 400000 in
theorem T_takes_T {G : Nat × (Nat → Int32)} {m : Mm} {q : Qt} {st : Nat} {aG : Bool} (h : RR m q (some st) true aG) (hb : q.1 < 50000) (hs : st < q.1) (hw : q.1 - st ≤ 64) {v : Nat} (hv : v < 128) : Y G M_re_takes (0, 0) 0 (en_ M_re_takes [.ref 3, .int (nI v)]) [] (LAY, m) (qm_ LAY (pT_ m (stp v (q, some st, true, aG)))) := by
  change Y _ _ _ _ [some (.ref _), some (.int _)] _ _ _
  refine Y_aload_n 0 rfl (pc2 := 1) rfl rfl ?_
  refine Y_getI 1 rfl (pc2 := 4) rfl fl_re_26 ly_re (by decide) rfl ?_
  refine Y_top (h.2.2.1) ?_
  refine Y_if_eqn 2 rfl (pc2 := 7) rfl (tgt := 13) (by decide) (by decide) (fun hd => absurd hd (by decide)) (fun _ => ?_)
  refine Y_aload_n 3 rfl (pc2 := 8) rfl rfl ?_
  refine Y_iload_n 4 rfl (pc2 := 9) rfl rfl ?_
  refine Y_cV 5 rfl (pc2 := 12) rfl ok_re_takesTimes lk_re_46 vi_re_takesTimes ly_re rfl (by decide) rfl (as := [.int _]) (rest := []) rfl rfl (T_re_takesTimes h hb hs hw hv) ?_
  rintro _ _ ⟨hf, ⟨ho2, rfl⟩ | ⟨q2, op2, aT2, aG2, ho2, rfl, hR⟩⟩
  · change Y _ _ _ _ _ [.int _] _ _
    refine Y_iret 6 rfl rfl rfl ⟨rfl, ?_⟩
    dsimp only
    have E : stp v (q, some st, true, aG) = _ := if_pos rfl
    first | exact ⟨hf, Or.inl ⟨E.trans ho2, rfl⟩⟩ | exact ⟨hf, Or.inr ⟨q2, op2, aT2, aG2, E.trans ho2, rfl, hR⟩⟩
  · change Y _ _ _ _ _ [.int _] _ _
    refine Y_iret 6 rfl rfl rfl ⟨rfl, ?_⟩
    dsimp only
    have E : stp v (q, some st, true, aG) = _ := if_pos rfl
    first | exact ⟨hf, Or.inl ⟨E.trans ho2, rfl⟩⟩ | exact ⟨hf, Or.inr ⟨q2, op2, aT2, aG2, E.trans ho2, rfl, hR⟩⟩

set_option maxHeartbeats 400000 in
theorem T_takes_F {G : Nat × (Nat → Int32)} {m : Mm} {q : Qt} {op : Option Nat} {aG : Bool} (h : RR m q op false aG) (hb : q.1 < 50000) (ho : ∀ k, op = some k → k ≤ q.1) {v : Nat} (hv : v < 128) : Y G M_re_takes (0, 0) 0 (en_ M_re_takes [.ref 3, .int (nI v)]) [] (LAY, m) (qm_ LAY (pT_ m (stp v (q, op, false, aG)))) := by
  change Y _ _ _ _ [some (.ref _), some (.int _)] _ _ _
  refine Y_aload_n 0 rfl (pc2 := 1) rfl rfl ?_
  refine Y_getI 1 rfl (pc2 := 4) rfl fl_re_26 ly_re (by decide) rfl ?_
  refine Y_top (h.2.2.1) ?_
  refine Y_if_eqn 2 rfl (pc2 := 7) rfl (tgt := 13) (by decide) (by decide) (fun _ => ?_) (fun hd => absurd hd (by decide))
  refine Y_iload_n 7 rfl (pc2 := 14) rfl rfl ?_
  refine Y_bipush 8 rfl (pc2 := 16) rfl (v := nI 91) (by decide) ?_
  refine Y_icmp_nen 9 rfl (pc2 := 19) rfl (tgt := 24) (by decide) (by omega) (by omega) (fun h16 => ?_) (fun h16 => ?_)
  · refine Y_iload_n 13 rfl (pc2 := 25) rfl rfl ?_
    refine Y_bipush 14 rfl (pc2 := 27) rfl (v := nI 93) (by decide) ?_
    refine Y_icmp_nen 15 rfl (pc2 := 30) rfl (tgt := 35) (by decide) (by omega) (by omega) (fun h27 => ?_) (fun h27 => ?_)
    · refine Y_iload_n 19 rfl (pc2 := 36) rfl rfl ?_
      refine Y_bipush 20 rfl (pc2 := 38) rfl (v := nI 46) (by decide) ?_
      refine Y_icmp_nen 21 rfl (pc2 := 41) rfl (tgt := 48) (by decide) (by omega) (by omega) (fun h38 => ?_) (fun h38 => ?_)
      · refine Y_iload_n 26 rfl (pc2 := 49) rfl rfl ?_
        refine Y_bipush 27 rfl (pc2 := 51) rfl (v := nI 49) (by decide) ?_
        refine Y_icmp_ltn 28 rfl (pc2 := 54) rfl (tgt := 69) (by decide) (by omega) (by omega) (fun h51 => ?_) (fun h51 => ?_)
        · refine Y_aload_n 38 rfl (pc2 := 70) rfl rfl ?_
          refine Y_iload_n 39 rfl (pc2 := 71) rfl rfl ?_
          refine Y_cS 40 rfl (pc2 := 74) rfl ok_re_kindOf lk_re_59 vs_re_kindOf (as := [.int _]) (rest := [.ref _]) rfl rfl (T_re_kindOf hv) ?_
          rintro _ _ ⟨rfl, rfl⟩
          change Y _ _ _ _ _ [.int _, .ref _] _ _
          refine Y_cV 41 rfl (pc2 := 77) rfl ok_re_takesGong lk_re_63 vi_re_takesGong ly_re rfl (by decide) rfl (as := [.int _]) (rest := []) rfl rfl (T_re_takesGong (k := gkn v) h hb rfl (gk_or v)) ?_
          rintro _ _ ⟨hf, ⟨ho2, rfl⟩ | ⟨q2, op2, aT2, aG2, ho2, rfl, hR⟩⟩
          · change Y _ _ _ _ _ [.int _] _ _
            refine Y_iret 42 rfl rfl rfl ⟨rfl, ?_⟩
            dsimp only
            have E : stp v (q, op, false, aG) = _ := (if_neg (show ¬ (false = true) by decide)).trans ((if_neg (show ¬ (v = 91) by omega)).trans ((if_neg (show ¬ (v = 93) by omega)).trans ((if_neg (show ¬ (v = 46) by omega)).trans (if_neg (show ¬ (49 ≤ v ∧ v ≤ 55) by omega)))))
            first | exact ⟨hf, Or.inl ⟨E.trans ho2, rfl⟩⟩ | exact ⟨hf, Or.inr ⟨q2, op2, aT2, aG2, E.trans ho2, rfl, hR⟩⟩
          · change Y _ _ _ _ _ [.int _] _ _
            refine Y_iret 42 rfl rfl rfl ⟨rfl, ?_⟩
            dsimp only
            have E : stp v (q, op, false, aG) = _ := (if_neg (show ¬ (false = true) by decide)).trans ((if_neg (show ¬ (v = 91) by omega)).trans ((if_neg (show ¬ (v = 93) by omega)).trans ((if_neg (show ¬ (v = 46) by omega)).trans (if_neg (show ¬ (49 ≤ v ∧ v ≤ 55) by omega)))))
            first | exact ⟨hf, Or.inl ⟨E.trans ho2, rfl⟩⟩ | exact ⟨hf, Or.inr ⟨q2, op2, aT2, aG2, E.trans ho2, rfl, hR⟩⟩
        · refine Y_iload_n 29 rfl (pc2 := 55) rfl rfl ?_
          refine Y_bipush 30 rfl (pc2 := 57) rfl (v := nI 55) (by decide) ?_
          refine Y_icmp_gtn 31 rfl (pc2 := 60) rfl (tgt := 69) (by decide) (by omega) (by omega) (fun h57 => ?_) (fun h57 => ?_)
          · refine Y_aload_n 38 rfl (pc2 := 70) rfl rfl ?_
            refine Y_iload_n 39 rfl (pc2 := 71) rfl rfl ?_
            refine Y_cS 40 rfl (pc2 := 74) rfl ok_re_kindOf lk_re_59 vs_re_kindOf (as := [.int _]) (rest := [.ref _]) rfl rfl (T_re_kindOf hv) ?_
            rintro _ _ ⟨rfl, rfl⟩
            change Y _ _ _ _ _ [.int _, .ref _] _ _
            refine Y_cV 41 rfl (pc2 := 77) rfl ok_re_takesGong lk_re_63 vi_re_takesGong ly_re rfl (by decide) rfl (as := [.int _]) (rest := []) rfl rfl (T_re_takesGong (k := gkn v) h hb rfl (gk_or v)) ?_
            rintro _ _ ⟨hf, ⟨ho2, rfl⟩ | ⟨q2, op2, aT2, aG2, ho2, rfl, hR⟩⟩
            · change Y _ _ _ _ _ [.int _] _ _
              refine Y_iret 42 rfl rfl rfl ⟨rfl, ?_⟩
              dsimp only
              have E : stp v (q, op, false, aG) = _ := (if_neg (show ¬ (false = true) by decide)).trans ((if_neg (show ¬ (v = 91) by omega)).trans ((if_neg (show ¬ (v = 93) by omega)).trans ((if_neg (show ¬ (v = 46) by omega)).trans (if_neg (show ¬ (49 ≤ v ∧ v ≤ 55) by omega)))))
              first | exact ⟨hf, Or.inl ⟨E.trans ho2, rfl⟩⟩ | exact ⟨hf, Or.inr ⟨q2, op2, aT2, aG2, E.trans ho2, rfl, hR⟩⟩
            · change Y _ _ _ _ _ [.int _] _ _
              refine Y_iret 42 rfl rfl rfl ⟨rfl, ?_⟩
              dsimp only
              have E : stp v (q, op, false, aG) = _ := (if_neg (show ¬ (false = true) by decide)).trans ((if_neg (show ¬ (v = 91) by omega)).trans ((if_neg (show ¬ (v = 93) by omega)).trans ((if_neg (show ¬ (v = 46) by omega)).trans (if_neg (show ¬ (49 ≤ v ∧ v ≤ 55) by omega)))))
              first | exact ⟨hf, Or.inl ⟨E.trans ho2, rfl⟩⟩ | exact ⟨hf, Or.inr ⟨q2, op2, aT2, aG2, E.trans ho2, rfl, hR⟩⟩
          · refine Y_aload_n 32 rfl (pc2 := 61) rfl rfl ?_
            refine Y_iload_n 33 rfl (pc2 := 62) rfl rfl ?_
            refine Y_bipush 34 rfl (pc2 := 64) rfl (v := nI 49) (by decide) ?_
            refine Y_isub 35 rfl (pc2 := 65) rfl ?_
            refine Y_top (nI_sub (by omega)) ?_
            refine Y_cV 36 rfl (pc2 := 68) rfl ok_re_takesBeat lk_re_56 vi_re_takesBeat ly_re rfl (by decide) rfl (as := [.int _]) (rest := []) rfl rfl (T_re_takesBeat (a := nI (v - 49)) h hb (oC_id (nI_pos (by omega))).symm) ?_
            rintro _ _ ⟨hf, ⟨ho2, rfl⟩ | ⟨q2, op2, aT2, aG2, ho2, rfl, hR⟩⟩
            · change Y _ _ _ _ _ [.int _] _ _
              refine Y_iret 37 rfl rfl rfl ⟨rfl, ?_⟩
              dsimp only
              have E : stp v (q, op, false, aG) = _ := (if_neg (show ¬ (false = true) by decide)).trans ((if_neg (show ¬ (v = 91) by omega)).trans ((if_neg (show ¬ (v = 93) by omega)).trans ((if_neg (show ¬ (v = 46) by omega)).trans (if_pos (show 49 ≤ v ∧ v ≤ 55 by omega)))))
              first | exact ⟨hf, Or.inl ⟨E.trans ho2, rfl⟩⟩ | exact ⟨hf, Or.inr ⟨q2, op2, aT2, aG2, E.trans ho2, rfl, hR⟩⟩
            · change Y _ _ _ _ _ [.int _] _ _
              refine Y_iret 37 rfl rfl rfl ⟨rfl, ?_⟩
              dsimp only
              have E : stp v (q, op, false, aG) = _ := (if_neg (show ¬ (false = true) by decide)).trans ((if_neg (show ¬ (v = 91) by omega)).trans ((if_neg (show ¬ (v = 93) by omega)).trans ((if_neg (show ¬ (v = 46) by omega)).trans (if_pos (show 49 ≤ v ∧ v ≤ 55 by omega)))))
              first | exact ⟨hf, Or.inl ⟨E.trans ho2, rfl⟩⟩ | exact ⟨hf, Or.inr ⟨q2, op2, aT2, aG2, E.trans ho2, rfl, hR⟩⟩
      · refine Y_aload_n 22 rfl (pc2 := 42) rfl rfl ?_
        refine Y_ldc 23 rfl (pc2 := 44) rfl kc_re_22 ?_
        refine Y_cV 24 rfl (pc2 := 47) rfl ok_re_takesBeat lk_re_56 vi_re_takesBeat ly_re rfl (by decide) rfl (as := [.int _]) (rest := []) rfl rfl (T_re_takesBeat (a := -1) h hb rfl) ?_
        rintro _ _ ⟨hf, ⟨ho2, rfl⟩ | ⟨q2, op2, aT2, aG2, ho2, rfl, hR⟩⟩
        · change Y _ _ _ _ _ [.int _] _ _
          refine Y_iret 25 rfl rfl rfl ⟨rfl, ?_⟩
          dsimp only
          have E : stp v (q, op, false, aG) = _ := (if_neg (show ¬ (false = true) by decide)).trans ((if_neg (show ¬ (v = 91) by omega)).trans ((if_neg (show ¬ (v = 93) by omega)).trans (if_pos (show v = 46 by omega))))
          first | exact ⟨hf, Or.inl ⟨E.trans ho2, rfl⟩⟩ | exact ⟨hf, Or.inr ⟨q2, op2, aT2, aG2, E.trans ho2, rfl, hR⟩⟩
        · change Y _ _ _ _ _ [.int _] _ _
          refine Y_iret 25 rfl rfl rfl ⟨rfl, ?_⟩
          dsimp only
          have E : stp v (q, op, false, aG) = _ := (if_neg (show ¬ (false = true) by decide)).trans ((if_neg (show ¬ (v = 91) by omega)).trans ((if_neg (show ¬ (v = 93) by omega)).trans (if_pos (show v = 46 by omega))))
          first | exact ⟨hf, Or.inl ⟨E.trans ho2, rfl⟩⟩ | exact ⟨hf, Or.inr ⟨q2, op2, aT2, aG2, E.trans ho2, rfl, hR⟩⟩
    · refine Y_aload_n 16 rfl (pc2 := 31) rfl rfl ?_
      refine Y_cV 17 rfl (pc2 := 34) rfl ok_re_takesClosing lk_re_53 vi_re_takesClosing ly_re rfl (by decide) rfl (as := []) (rest := []) rfl rfl (T_re_takesClosing h hb ho) ?_
      rintro _ _ ⟨hf, ⟨ho2, rfl⟩ | ⟨q2, op2, aT2, aG2, ho2, rfl, hR⟩⟩
      · change Y _ _ _ _ _ [.int _] _ _
        refine Y_iret 18 rfl rfl rfl ⟨rfl, ?_⟩
        dsimp only
        have E : stp v (q, op, false, aG) = _ := (if_neg (show ¬ (false = true) by decide)).trans ((if_neg (show ¬ (v = 91) by omega)).trans (if_pos (show v = 93 by omega)))
        first | exact ⟨hf, Or.inl ⟨E.trans ho2, rfl⟩⟩ | exact ⟨hf, Or.inr ⟨q2, op2, aT2, aG2, E.trans ho2, rfl, hR⟩⟩
      · change Y _ _ _ _ _ [.int _] _ _
        refine Y_iret 18 rfl rfl rfl ⟨rfl, ?_⟩
        dsimp only
        have E : stp v (q, op, false, aG) = _ := (if_neg (show ¬ (false = true) by decide)).trans ((if_neg (show ¬ (v = 91) by omega)).trans (if_pos (show v = 93 by omega)))
        first | exact ⟨hf, Or.inl ⟨E.trans ho2, rfl⟩⟩ | exact ⟨hf, Or.inr ⟨q2, op2, aT2, aG2, E.trans ho2, rfl, hR⟩⟩
  · refine Y_aload_n 10 rfl (pc2 := 20) rfl rfl ?_
    refine Y_cV 11 rfl (pc2 := 23) rfl ok_re_takesOpening lk_re_49 vi_re_takesOpening ly_re rfl (by decide) rfl (as := []) (rest := []) rfl rfl (T_re_takesOpening h hb ho) ?_
    rintro _ _ ⟨hf, ⟨ho2, rfl⟩ | ⟨q2, op2, aT2, aG2, ho2, rfl, hR⟩⟩
    · change Y _ _ _ _ _ [.int _] _ _
      refine Y_iret 12 rfl rfl rfl ⟨rfl, ?_⟩
      dsimp only
      have E : stp v (q, op, false, aG) = _ := (if_neg (show ¬ (false = true) by decide)).trans (if_pos (show v = 91 by omega))
      first | exact ⟨hf, Or.inl ⟨E.trans ho2, rfl⟩⟩ | exact ⟨hf, Or.inr ⟨q2, op2, aT2, aG2, E.trans ho2, rfl, hR⟩⟩
    · change Y _ _ _ _ _ [.int _] _ _
      refine Y_iret 12 rfl rfl rfl ⟨rfl, ?_⟩
      dsimp only
      have E : stp v (q, op, false, aG) = _ := (if_neg (show ¬ (false = true) by decide)).trans (if_pos (show v = 91 by omega))
      first | exact ⟨hf, Or.inl ⟨E.trans ho2, rfl⟩⟩ | exact ⟨hf, Or.inr ⟨q2, op2, aT2, aG2, E.trans ho2, rfl, hR⟩⟩

set_option maxHeartbeats 400000 in
theorem sg_ne {v c : Nat} (hv : v < 256) (h2 : 128 ≤ v) (hc : c < 128) : ¬ sgv v = nI c := fun e => by
  have := sgv_n v hv h2
  rw [e] at this
  exact nI_pos (by omega) this
set_option maxHeartbeats 400000 in
theorem sg_lt1 {v c : Nat} (hv : v < 256) (h2 : 128 ≤ v) (hc : c < 128) : sgv v < nI c := by
  have a := sgv_n v hv h2
  have b := nI_pos' (n := c) (by omega)
  rw [Int32.lt_iff_toInt_lt] at a ⊢
  rw [Int32.le_iff_toInt_le] at b
  omega

set_option maxHeartbeats 400000 in
theorem T_times_neg {G : Nat × (Nat → Int32)} {m : Mm} {v : Nat} (hv : v < 256) (hv2 : 128 ≤ v) : Y G M_re_takesTimes (0, 0) 0 (en_ M_re_takesTimes [.ref (3), .int (sgv v)]) [] (LAY, m) (qm_ LAY (pT_ m none)) := by
  change Y _ _ _ _ [some (.ref _), some (.int _)] _ _ _
  refine Y_iload_n 0 rfl (pc2 := 1) rfl rfl ?_
  refine Y_bipush 1 rfl (pc2 := 3) rfl (v := nI 50) (by decide) ?_
  refine Y_icmp_lt 2 rfl (pc2 := 6) rfl (tgt := 12) (by decide) (fun h3 => ?_) (fun h3 => ?_)
  · refine Y_iconst 6 rfl (pc2 := 13) rfl (v := nI 0) (by decide) ?_
    refine Y_iret 7 rfl rfl rfl ⟨rfl, ?_⟩
    dsimp only
    exact ⟨fR_id, Or.inl ⟨rfl, rfl⟩⟩
  · exact absurd (sg_lt1 hv hv2 (by decide)) h3

set_option maxHeartbeats 400000 in
theorem T_takes_N {G : Nat × (Nat → Int32)} {m : Mm} {q : Qt} {op : Option Nat} {aT aG : Bool} (h : RR m q op aT aG) (hb : q.1 < 50000) {v : Nat} (hv : v < 256) (hv2 : 128 ≤ v) : Y G M_re_takes (0, 0) 0 (en_ M_re_takes [.ref 3, .int (sgv v)]) [] (LAY, m) (qm_ LAY (pT_ m (stp v (q, op, aT, aG)))) := by
  change Y _ _ _ _ [some (.ref _), some (.int _)] _ _ _
  cases aT with
  | true =>
    refine Y_aload_n 0 rfl (pc2 := 1) rfl rfl ?_
    refine Y_getI 1 rfl (pc2 := 4) rfl fl_re_26 ly_re (by decide) rfl ?_
    refine Y_top (h.2.2.1) ?_
    refine Y_if_eqn 2 rfl (pc2 := 7) rfl (tgt := 13) (by decide) (by decide) (fun hd => absurd hd (by decide)) (fun _ => ?_)
    refine Y_aload_n 3 rfl (pc2 := 8) rfl rfl ?_
    refine Y_iload_n 4 rfl (pc2 := 9) rfl rfl ?_
    refine Y_cV 5 rfl (pc2 := 12) rfl ok_re_takesTimes lk_re_46 vi_re_takesTimes ly_re rfl (by decide) rfl (as := [.int _]) (rest := []) rfl rfl (T_times_neg hv hv2) ?_
    rintro _ _ ⟨hf, ⟨ho2, rfl⟩ | ⟨q2, op2, aT2, aG2, ho2, rfl, hR⟩⟩
    · change Y _ _ _ _ _ [.int _] _ _
      refine Y_iret 6 rfl rfl rfl ⟨rfl, ?_⟩
      dsimp only
      have E : stp v (q, op, true, aG) = none := (if_pos rfl).trans (if_neg (by omega))
      first | exact ⟨hf, Or.inl ⟨E, rfl⟩⟩ | exact absurd ho2 (by simp)
    · change Y _ _ _ _ _ [.int _] _ _
      refine Y_iret 6 rfl rfl rfl ⟨rfl, ?_⟩
      dsimp only
      have E : stp v (q, op, true, aG) = none := (if_pos rfl).trans (if_neg (by omega))
      first | exact ⟨hf, Or.inl ⟨E, rfl⟩⟩ | exact absurd ho2 (by simp)
  | false =>
    refine Y_aload_n 0 rfl (pc2 := 1) rfl rfl ?_
    refine Y_getI 1 rfl (pc2 := 4) rfl fl_re_26 ly_re (by decide) rfl ?_
    refine Y_top (h.2.2.1) ?_
    refine Y_if_eqn 2 rfl (pc2 := 7) rfl (tgt := 13) (by decide) (by decide) (fun _ => ?_) (fun hd => absurd hd (by decide))
    refine Y_iload_n 7 rfl (pc2 := 14) rfl rfl ?_
    refine Y_bipush 8 rfl (pc2 := 16) rfl (v := nI 91) (by decide) ?_
    refine Y_icmp_ne 9 rfl (pc2 := 19) rfl (tgt := 24) (by decide) (fun h16 => ?_) (fun h16 => ?_)
    · refine Y_iload_n 13 rfl (pc2 := 25) rfl rfl ?_
      refine Y_bipush 14 rfl (pc2 := 27) rfl (v := nI 93) (by decide) ?_
      refine Y_icmp_ne 15 rfl (pc2 := 30) rfl (tgt := 35) (by decide) (fun h27 => ?_) (fun h27 => ?_)
      · refine Y_iload_n 19 rfl (pc2 := 36) rfl rfl ?_
        refine Y_bipush 20 rfl (pc2 := 38) rfl (v := nI 46) (by decide) ?_
        refine Y_icmp_ne 21 rfl (pc2 := 41) rfl (tgt := 48) (by decide) (fun h38 => ?_) (fun h38 => ?_)
        · refine Y_iload_n 26 rfl (pc2 := 49) rfl rfl ?_
          refine Y_bipush 27 rfl (pc2 := 51) rfl (v := nI 49) (by decide) ?_
          refine Y_icmp_lt 28 rfl (pc2 := 54) rfl (tgt := 69) (by decide) (fun h51 => ?_) (fun h51 => ?_)
          · refine Y_aload_n 38 rfl (pc2 := 70) rfl rfl ?_
            refine Y_iload_n 39 rfl (pc2 := 71) rfl rfl ?_
            refine Y_cS 40 rfl (pc2 := 74) rfl ok_re_kindOf lk_re_59 vs_re_kindOf (as := [.int _]) (rest := [.ref _]) rfl rfl (T_re_kindOf2 hv hv2) ?_
            rintro _ _ ⟨rfl, rfl⟩
            change Y _ _ _ _ _ [.int _, .ref _] _ _
            refine Y_cV 41 rfl (pc2 := 77) rfl ok_re_takesGong lk_re_63 vi_re_takesGong ly_re rfl (by decide) rfl (as := [.int _]) (rest := []) rfl rfl (T_re_takesGong (k := gkn v) h hb rfl (gk_or v)) ?_
            rintro _ _ ⟨hf, ⟨ho2, rfl⟩ | ⟨q2, op2, aT2, aG2, ho2, rfl, hR⟩⟩
            · change Y _ _ _ _ _ [.int _] _ _
              refine Y_iret 42 rfl rfl rfl ⟨rfl, ?_⟩
              dsimp only
              have E : stp v (q, op, false, aG) = _ := (if_neg (show ¬ (false = true) by decide)).trans ((if_neg (show ¬ (v = 91) by omega)).trans ((if_neg (show ¬ (v = 93) by omega)).trans ((if_neg (show ¬ (v = 46) by omega)).trans (if_neg (show ¬ (49 ≤ v ∧ v ≤ 55) by omega)))))
              first | exact ⟨hf, Or.inl ⟨E.trans ho2, rfl⟩⟩ | exact ⟨hf, Or.inr ⟨q2, op2, aT2, aG2, E.trans ho2, rfl, hR⟩⟩
            · change Y _ _ _ _ _ [.int _] _ _
              refine Y_iret 42 rfl rfl rfl ⟨rfl, ?_⟩
              dsimp only
              have E : stp v (q, op, false, aG) = _ := (if_neg (show ¬ (false = true) by decide)).trans ((if_neg (show ¬ (v = 91) by omega)).trans ((if_neg (show ¬ (v = 93) by omega)).trans ((if_neg (show ¬ (v = 46) by omega)).trans (if_neg (show ¬ (49 ≤ v ∧ v ≤ 55) by omega)))))
              first | exact ⟨hf, Or.inl ⟨E.trans ho2, rfl⟩⟩ | exact ⟨hf, Or.inr ⟨q2, op2, aT2, aG2, E.trans ho2, rfl, hR⟩⟩
          · exact absurd (sg_lt1 hv hv2 (by decide)) h51
        · exact absurd h38 (sg_ne hv hv2 (by decide))
      · exact absurd h27 (sg_ne hv hv2 (by decide))
    · exact absurd h16 (sg_ne hv hv2 (by decide))

set_option maxHeartbeats 400000 in
theorem T_re_takes {G : Nat × (Nat → Int32)} {m : Mm} {q : Qt} {op : Option Nat} {aT aG : Bool} (h : RR m q op aT aG) {p : Nat} (hp : p < 64) (hi : iv p q op aT) {v : Nat} (hv : v < 256) : Y G M_re_takes (0, 0) 0 (en_ M_re_takes [.ref 3, .int (sgv v)]) [] (LAY, m) (qm_ LAY (pT_ m (stp v (q, op, aT, aG)))) := by
  have hb : q.1 < 50000 := by have := hi.1; omega
  by_cases hv2 : v < 128
  · rw [sgv_p v hv2]
    cases aT with
    | true =>
      obtain ⟨k, e, hk⟩ := hi.2.2 rfl
      subst e
      exact T_takes_T h hb hk (by have := (hi.2.1 k rfl).2; omega) hv2
    | false => exact T_takes_F h hb (fun k e => (hi.2.1 k e).1) hv2
  · exact T_takes_N h hb hv (by omega)
set_option maxHeartbeats 400000 in
theorem iv_stp {p v : Nat} {q q2 : Qt} {op op2 : Option Nat} {aT aG aT2 aG2 : Bool} (hp : p < 64) (hi : iv p q op aT) (hs : stp v (q, op, aT, aG) = some (q2, op2, aT2, aG2)) : iv (p + 1) q2 op2 aT2 := by
  obtain ⟨h1, h2, h3⟩ := hi
  unfold stp at hs
  cases aT with
  | true =>
    obtain ⟨k, rfl, hk⟩ := h3 rfl
    have h4 := (h2 k rfl).2
    simp only [if_true] at hs
    split at hs
    · rename_i hv
      simp only [Option.some.injEq, Prod.mk.injEq, Option.getD_some] at hs
      obtain ⟨rfl, rfl, rfl, _⟩ := hs
      refine ⟨?_, (fun k e => by cases e), (fun e => by cases e)⟩
      rw [rp_n]
      have : (v - 49) * (q.1 - k) ≤ 8 * 64 := Nat.mul_le_mul (by omega) (by omega)
      omega
    · cases hs
  | false =>
    rw [if_neg (fun e => Bool.false_ne_true e)] at hs
    split at hs
    · split at hs
      · simp only [Option.some.injEq, Prod.mk.injEq] at hs
        obtain ⟨rfl, rfl, rfl, _⟩ := hs
        exact ⟨by omega, (fun k e => by cases e; exact ⟨Nat.le_refl _, by omega⟩), (fun e => by cases e)⟩
      · cases hs
    · split at hs
      · split at hs
        · cases hs
        · rename_i hn
          simp only [Option.some.injEq, Prod.mk.injEq] at hs
          obtain ⟨rfl, rfl, rfl, _⟩ := hs
          refine ⟨by omega, fun k e => ⟨(h2 k e).1, by have := (h2 k e).2; omega⟩, fun _ => ?_⟩
          cases op with
          | none => exact absurd (Or.inl rfl) hn
          | some k =>
            refine ⟨k, rfl, ?_⟩
            have a := (h2 k rfl).1
            have b : ¬ k = q.1 := fun e => hn (Or.inr (by rw [e]))
            omega
      · split at hs
        · simp only [Option.some.injEq, Prod.mk.injEq] at hs
          obtain ⟨rfl, rfl, rfl, _⟩ := hs
          exact ⟨by show q.1 + 1 ≤ _; omega, (fun k e => ⟨by have := (h2 k e).1; show k ≤ q.1 + 1; omega, by have := (h2 k e).2; show q.1 + 1 - k ≤ p + 1; omega⟩), (fun e => by cases e)⟩
        · split at hs
          · simp only [Option.some.injEq, Prod.mk.injEq] at hs
            obtain ⟨rfl, rfl, rfl, _⟩ := hs
            exact ⟨by show q.1 + 1 ≤ _; omega, (fun k e => ⟨by have := (h2 k e).1; show k ≤ q.1 + 1; omega, by have := (h2 k e).2; show q.1 + 1 - k ≤ p + 1; omega⟩), (fun e => by cases e)⟩
          · split at hs
            · simp only [Option.some.injEq, Prod.mk.injEq] at hs
              obtain ⟨rfl, rfl, rfl, _⟩ := hs
              exact ⟨by show q.1 ≤ _; omega, (fun k e => ⟨(h2 k e).1, by have := (h2 k e).2; show q.1 - k ≤ p + 1; omega⟩), (fun e => by cases e)⟩
            · cases hs
def au (t : Nat → Nat) : Nat → Nat → As → Option Nat × Qt
  | 0, p, s => if 0 < s.1.1 ∧ s.2.1 = none then (none, s.1) else (some p, s.1)
  | k + 1, p, s => match stp (t p) s with
    | none => (some p, s.1)
    | some s2 => au t k (p + 1) s2
set_option maxHeartbeats 400000 in
theorem au_no {t : Nat → Nat} {k p : Nat} {s : As} (h : stp (t p) s = none) : au t (k + 1) p s = (some p, s.1) := by
  show (match stp (t p) s with | none => _ | some s2 => _) = _
  rw [h]
set_option maxHeartbeats 400000 in
theorem au_go {t : Nat → Nat} {k p : Nat} {s s2 : As} (h : stp (t p) s = some s2) : au t (k + 1) p s = au t k (p + 1) s2 := by
  show (match stp (t p) s with | none => _ | some s2 => _) = _
  rw [h]
def tpf (S : Mm) (i : Nat) : Nat := nv (S 164 i)
def q0 : Qt := (0, fun _ => -1, fun _ => -1)
def rT (S : Mm) : Option Nat × Qt := au (tpf S) (tpd S) 0 (q0, none, false, false)
def pU_ (m S : Mm) : Option Value → Mm → Prop := fun v m' => fR m m' ∧ v = some (.int (opI (rT S).1)) ∧ ((rT S).1 = none → RQ m' (rT S).2 ∧ (rT S).2.1 ≤ 38400)
set_option maxHeartbeats 400000 in
theorem tpf_sg {S : Mm} (w : WF S) {i : Nat} (hi : i < 64) : (S 164 i).toInt8.toInt32 = sgv (tpf S i) ∧ tpf S i < 256 := by
  obtain ⟨k, hk, e⟩ := w.tv i hi
  unfold tpf sgv
  rw [e, nv_nI (by omega)]
  exact ⟨rfl, hk⟩

set_option maxHeartbeats 400000 in
theorem L_fault {G : Nat × (Nat → Int32)} {m : Mm} {S : Mm} (h : RC m S) (w : WF S) : ∀ p, p ≤ tpd S → ∀ m1 (q : Qt) (op : Option Nat) (aT aG : Bool), RR m1 q op aT aG → iv p q op aT → au (tpf S) (tpd S - p) p (q, op, aT, aG) = rT S → fR m m1 → Y G M_re_faultOf (0, 0) 23 [some (.ref 3), some (.ref 1), some (.int (nI p))] [] (LAY, m1) (qm_ LAY (pU_ m S)) := by
  have ht := w.tp.2
  refine ind_ (fun p hp ih m1 q op aT aG hR hI hA hF => ?_)
  refine Y_iload_n 14 rfl (pc2 := 24) rfl rfl ?_
  refine Y_aload_n 15 rfl (pc2 := 25) rfl rfl ?_
  refine Y_getI 16 rfl (pc2 := 28) rfl fl_re_33 ly_ta (by decide) rfl ?_
  refine Y_top ((congrFun (hF 1 (by decide)) 1).trans (h.tp.trans w.tp.1)) ?_
  refine Y_icmp_gen 17 rfl (pc2 := 31) rfl (tgt := 58) (by decide) (by omega) (by omega) (fun h28 => ?_) (fun h28 => ?_)
  · have hb := hI.1
    have e0 : tpd S - p = 0 := by omega
    rw [e0] at hA
    refine Y_aload_n 32 rfl (pc2 := 59) rfl rfl ?_
    refine Y_getI 33 rfl (pc2 := 62) rfl fl_re_18 ly_re (by decide) rfl ?_
    refine Y_top (hR.1.1) ?_
    refine Y_if_len 34 rfl (pc2 := 65) rfl (tgt := 79) (by decide) (by omega) (fun h62 => ?_) (fun h62 => ?_)
    · refine Y_aload_n 41 rfl (pc2 := 80) rfl rfl ?_
      refine Y_getI 42 rfl (pc2 := 83) rfl fl_re_33 ly_ta (by decide) rfl ?_
      refine Y_top ((congrFun (hF 1 (by decide)) 1).trans (h.tp.trans w.tp.1)) ?_
      refine Y_iret 43 rfl rfl rfl ⟨rfl, ?_⟩
      dsimp only
      have hon := opI_none (op := op) (fun k e => by have := (hI.2.1 k e).1; omega)
      first
        | exact (by
            have hA2 : (none, q) = rT S := (if_pos ⟨by show 0 < q.1; omega, hon.mp (by first | exact h71 | exact Classical.byContradiction h71)⟩).symm.trans hA
            exact ⟨hF, by rw [← hA2]; rfl, fun _ => by rw [← hA2]; exact ⟨hR.1, by show q.1 ≤ _; omega⟩⟩)
        | exact (by
            have hA2 : (some p, q) = rT S := (if_neg (fun e => by have : 0 < q.1 := e.1; omega)).symm.trans hA
            exact ⟨hF, by rw [← hA2, show p = tpd S by omega]; rfl, fun e => by rw [← hA2] at e; cases e⟩)
        | exact (by
            have hA2 : (some p, q) = rT S := (if_neg (fun e => h71 (hon.mpr e.2))).symm.trans hA
            exact ⟨hF, by rw [← hA2, show p = tpd S by omega]; rfl, fun e => by rw [← hA2] at e; cases e⟩)
    · refine Y_aload_n 35 rfl (pc2 := 66) rfl rfl ?_
      refine Y_getI 36 rfl (pc2 := 69) rfl fl_re_23 ly_re (by decide) rfl ?_
      refine Y_top (hR.2.1) ?_
      refine Y_ldc 37 rfl (pc2 := 71) rfl kc_re_22 ?_
      refine Y_icmp_ne 38 rfl (pc2 := 74) rfl (tgt := 79) (by decide) (fun h71 => ?_) (fun h71 => ?_)
      · refine Y_aload_n 41 rfl (pc2 := 80) rfl rfl ?_
        refine Y_getI 42 rfl (pc2 := 83) rfl fl_re_33 ly_ta (by decide) rfl ?_
        refine Y_top ((congrFun (hF 1 (by decide)) 1).trans (h.tp.trans w.tp.1)) ?_
        refine Y_iret 43 rfl rfl rfl ⟨rfl, ?_⟩
        dsimp only
        have hon := opI_none (op := op) (fun k e => by have := (hI.2.1 k e).1; omega)
        first
          | exact (by
              have hA2 : (none, q) = rT S := (if_pos ⟨by show 0 < q.1; omega, hon.mp (by first | exact h71 | exact Classical.byContradiction h71)⟩).symm.trans hA
              exact ⟨hF, by rw [← hA2]; rfl, fun _ => by rw [← hA2]; exact ⟨hR.1, by show q.1 ≤ _; omega⟩⟩)
          | exact (by
              have hA2 : (some p, q) = rT S := (if_neg (fun e => by have : 0 < q.1 := e.1; omega)).symm.trans hA
              exact ⟨hF, by rw [← hA2, show p = tpd S by omega]; rfl, fun e => by rw [← hA2] at e; cases e⟩)
          | exact (by
              have hA2 : (some p, q) = rT S := (if_neg (fun e => h71 (hon.mpr e.2))).symm.trans hA
              exact ⟨hF, by rw [← hA2, show p = tpd S by omega]; rfl, fun e => by rw [← hA2] at e; cases e⟩)
      · refine Y_ldc 39 rfl (pc2 := 76) rfl kc_re_22 ?_
        refine Y_goto 40 rfl (pc2 := 83) (by decide) ?_
        refine Y_iret 43 rfl rfl rfl ⟨rfl, ?_⟩
        dsimp only
        have hon := opI_none (op := op) (fun k e => by have := (hI.2.1 k e).1; omega)
        first
          | exact (by
              have hA2 : (none, q) = rT S := (if_pos ⟨by show 0 < q.1; omega, hon.mp (by first | exact h71 | exact Classical.byContradiction h71)⟩).symm.trans hA
              exact ⟨hF, by rw [← hA2]; rfl, fun _ => by rw [← hA2]; exact ⟨hR.1, by show q.1 ≤ _; omega⟩⟩)
          | exact (by
              have hA2 : (some p, q) = rT S := (if_neg (fun e => by have : 0 < q.1 := e.1; omega)).symm.trans hA
              exact ⟨hF, by rw [← hA2, show p = tpd S by omega]; rfl, fun e => by rw [← hA2] at e; cases e⟩)
          | exact (by
              have hA2 : (some p, q) = rT S := (if_neg (fun e => h71 (hon.mpr e.2))).symm.trans hA
              exact ⟨hF, by rw [← hA2, show p = tpd S by omega]; rfl, fun e => by rw [← hA2] at e; cases e⟩)
  · refine Y_iload_n 18 rfl (pc2 := 32) rfl rfl ?_
    refine Y_bipush 19 rfl (pc2 := 34) rfl (v := nI 64) (by decide) ?_
    refine Y_icmp_gen 20 rfl (pc2 := 37) rfl (tgt := 58) (by decide) (by omega) (by omega) (fun h34 => ?_) (fun h34 => ?_)
    · omega
    · refine Y_aload_n 21 rfl (pc2 := 38) rfl rfl ?_
      refine Y_aload_n 22 rfl (pc2 := 39) rfl rfl ?_
      refine Y_getR 23 rfl (pc2 := 42) rfl fl_re_38 ly_ta (by decide) rfl rfl (by omega) ?_
      refine Y_iload_n 24 rfl (pc2 := 43) rfl rfl ?_
      refine Y_bald 25 rfl (pc2 := 44) rfl ly_taB rfl (by omega) (by decide) ?_
      refine Y_top ((congrFun (hF 2 (by decide)) p).trans ((h.tv p (by omega)).trans (tpf_sg w (by omega)).1)) ?_
      refine Y_cV 26 rfl (pc2 := 47) rfl ok_re_takes lk_re_42 vi_re_takes ly_re rfl (by decide) rfl (as := [.int _]) (rest := []) rfl rfl (T_re_takes hR (by omega) hI (tpf_sg w (by omega)).2) ?_
      rintro _ _ ⟨hf, ⟨ho2, rfl⟩ | ⟨q2, op2, aT2, aG2, ho2, rfl, hR2⟩⟩
      · change Y _ _ _ _ _ [.int _] _ _
        refine Y_if_nen 27 rfl (pc2 := 50) rfl (tgt := 52) (by decide) (by decide) (fun hd => absurd hd (by decide)) (fun _ => ?_)
        refine Y_iload_n 28 rfl (pc2 := 51) rfl rfl ?_
        refine Y_iret 29 rfl rfl rfl ⟨rfl, ?_⟩
        dsimp only
        have e0 : tpd S - p = (tpd S - (p + 1)) + 1 := by omega
        rw [e0, au_no ho2] at hA
        exact ⟨fun a ha => (hf a ha).trans (hF a ha), by rw [← hA]; rfl, fun e => by rw [← hA] at e; cases e⟩
      · change Y _ _ _ _ _ [.int _] _ _
        refine Y_if_nen 27 rfl (pc2 := 50) rfl (tgt := 52) (by decide) (by decide) (fun _ => ?_) (fun hd => absurd hd (by decide))
        refine Y_iinc 30 rfl (pc2 := 55) rfl rfl (nI_inc _ 1) (ls2 := [some (.ref _), some (.ref _), some (.int _)]) rfl ?_
        refine Y_goto 31 rfl (pc2 := 23) (by decide) ?_
        have e0 : tpd S - p = (tpd S - (p + 1)) + 1 := by omega
        rw [e0, au_go ho2] at hA
        exact ih (p + 1) (by omega) (by omega) _ q2 op2 aT2 aG2 hR2 (iv_stp (by omega) hI ho2) hA (fun a ha => (hf a ha).trans (hF a ha))

set_option maxHeartbeats 400000 in
theorem T_re_faultOf {G : Nat × (Nat → Int32)} {m : Mm} {S : Mm} (h : RC m S) (w : WF S) : Y G M_re_faultOf (0, 0) 0 (en_ M_re_faultOf [.ref (3), .ref (1)]) [] (LAY, m) (qm_ LAY (pU_ m S)) := by
  change Y _ _ _ _ [some (.ref _), some (.ref _), none] _ _ _
  refine Y_aload_n 0 rfl (pc2 := 1) rfl rfl ?_
  refine Y_iconst 1 rfl (pc2 := 2) rfl (v := nI 0) (by decide) ?_
  refine Y_putI 2 rfl (pc2 := 5) rfl fl_re_18 ly_re (by decide) ⟨rfl, rfl⟩ ⟨_, _, _, rfl, rfl⟩ rfl ?_
  refine Y_aload_n 3 rfl (pc2 := 6) rfl rfl ?_
  refine Y_ldc 4 rfl (pc2 := 8) rfl kc_re_22 ?_
  refine Y_putI 5 rfl (pc2 := 11) rfl fl_re_23 ly_re (by decide) ⟨rfl, rfl⟩ ⟨_, _, _, rfl, rfl⟩ rfl ?_
  refine Y_aload_n 6 rfl (pc2 := 12) rfl rfl ?_
  refine Y_iconst 7 rfl (pc2 := 13) rfl (v := nI 0) (by decide) ?_
  refine Y_putI 8 rfl (pc2 := 16) rfl fl_re_26 ly_re (by decide) ⟨rfl, rfl⟩ ⟨_, _, _, rfl, rfl⟩ rfl ?_
  refine Y_aload_n 9 rfl (pc2 := 17) rfl rfl ?_
  refine Y_iconst 10 rfl (pc2 := 18) rfl (v := nI 0) (by decide) ?_
  refine Y_putI 11 rfl (pc2 := 21) rfl fl_re_30 ly_re (by decide) ⟨rfl, rfl⟩ ⟨_, _, _, rfl, rfl⟩ rfl ?_
  refine Y_iconst 12 rfl (pc2 := 22) rfl (v := nI 0) (by decide) ?_
  refine Y_istore_n 13 rfl (pc2 := 23) rfl (Nat.le_of_ble_eq_true rfl) (ls2 := [some (.ref _), some (.ref _), some (.int _)]) rfl ?_
  refine L_fault h w 0 (Nat.zero_le _) _ q0 none false false ⟨⟨?_, fun i h1 h2 => absurd h2 (Nat.not_lt_zero i)⟩, ?_, ?_, ?_⟩ ⟨Nat.zero_le _, (fun k e => by cases e), (fun e => by cases e)⟩ rfl (fR_u (fR_u (fR_u (fR_u fR_id))))
  · rw [uw_ne (by omega), uw_ne (by omega), uw_ne (by omega), uw_same]; rfl
  · rw [uw_ne (by omega), uw_ne (by omega), uw_same]; rfl
  · rw [uw_ne (by omega), uw_same]; rfl
  · rw [uw_same]; rfl
end
section
/-! the class: a circle becomes what was read -/
set_option maxHeartbeats 400000 in
theorem ln_congr {R R2 : Nat → Int32} : ∀ k, (∀ i, i < k → R i = R2 i) → ln R k = ln R2 k
  | 0, _ => rfl
  | k + 1, h => by
    show (if R k < 0 then ln R k else R k) = (if R2 k < 0 then ln R2 k else R2 k)
    rw [h k (by omega), ln_congr k (fun i hi => h i (by omega))]
set_option maxHeartbeats 400000 in
theorem toneR_congr {R R2 : Nat → Int32} {n b : Nat} (h : ∀ i, i < n → R i = R2 i) (hb : b < n) : toneR R n b = toneR R2 n b := by
  unfold toneR
  rw [ln_congr (b + 1) (fun i hi => h i (by omega)), ln_congr n h]
def lnO (R : Nat → Int32) (k : Nat) : Int32 := if ln R k < 0 then nI 0 else ln R k
def tvR (R : Nat → Int32) (n b : Nat) : Int32 := if ln R b < 0 then lnO R n else ln R b
set_option maxHeartbeats 400000 in
theorem tv_s {R : Nat → Int32} {n b : Nat} : toneR R n b = tvR R n (b + 1) := rfl
set_option maxHeartbeats 400000 in
theorem tv_n {R : Nat → Int32} {n b : Nat} (h : R b < 0) : tvR R n (b + 1) = tvR R n b := by
  unfold tvR
  rw [show ln R (b + 1) = ln R b from if_pos h]
set_option maxHeartbeats 400000 in
theorem tv_y {R : Nat → Int32} {n b : Nat} (h : ¬ R b < 0) : tvR R n (b + 1) = R b := by
  unfold tvR
  rw [show ln R (b + 1) = R b from if_neg h, if_neg h]

set_option maxHeartbeats 400000 in
theorem L_lastNote {G : Nat × (Nat → Int32)} {m : Mm}  {c n : Nat} {R : Nat → Int32} (hc : c < 4) (hn : n ≤ 32) (hB : m (21 + 5 * c) 4 = nI n) (hR : ∀ b, b < n → m (22 + 5 * c) b = oC (R b)) (hO : ∀ b, b < n → oR (R b) 7) : ∀ k, k ≤ n → Y G M_ci_lastNote (0, 0) 7 [some (.ref (21 + 5 * c)), some (.int (nI k - nI 1))] [] (LAY, m) (qm_ LAY (pu_ (lnO R k) m)) := by
  intro k
  induction k with
  | zero =>
    intro _
    refine Y_iload_n 5 rfl (pc2 := 8) rfl rfl ?_
    refine Y_if_lt 6 rfl (pc2 := 11) rfl (tgt := 35) (by decide) (fun h8 => ?_) (fun h8 => ?_)
    · refine Y_iconst 20 rfl (pc2 := 36) rfl (v := nI 0) (by decide) ?_
      refine Y_iret 21 rfl rfl rfl ⟨rfl, ?_⟩
      exact pu_i rfl
    · exact absurd (by decide) h8
  | succ k ih =>
    intro hk
    have hon := oC_none (by decide) (hO k (by omega))
    rw [show nI (k + 1) - nI 1 = nI k from nI_pred k]
    refine Y_iload_n 5 rfl (pc2 := 8) rfl rfl ?_
    refine Y_if_ltn 6 rfl (pc2 := 11) rfl (tgt := 35) (by decide) (by omega) ?_
    refine Y_aload_n 7 rfl (pc2 := 12) rfl rfl ?_
    refine Y_getR 8 rfl (pc2 := 15) rfl fl_ci_9 (ly_ci (by omega)) (by decide) rfl rfl (by omega) ?_
    refine Y_iload_n 9 rfl (pc2 := 16) rfl rfl ?_
    refine Y_iald 10 rfl (pc2 := 17) rfl (ly_ciN (by omega)) rfl (by omega) (by decide) ?_
    refine Y_top (hR k (by omega)) ?_
    refine Y_ldc 11 rfl (pc2 := 19) rfl kc_ci_28 ?_
    refine Y_icmp_eq 12 rfl (pc2 := 22) rfl (tgt := 29) (by decide) (fun h19 => ?_) (fun h19 => ?_)
    · refine Y_iinc 18 rfl (pc2 := 32) rfl rfl rfl (ls2 := [some (.ref _), some (.int _)]) rfl ?_
      refine Y_goto 19 rfl (pc2 := 7) (by decide) ?_
      refine Y_ls (by rw [nI_m1]) (Y_Q (congrArg (fun q => pu_ q m) ?_) (ih (by omega)))
      unfold lnO
      rw [show ln R (k + 1) = ln R k from if_pos (hon.mp h19)]
    · refine Y_aload_n 13 rfl (pc2 := 23) rfl rfl ?_
      refine Y_getR 14 rfl (pc2 := 26) rfl fl_ci_9 (ly_ci (by omega)) (by decide) rfl rfl (by omega) ?_
      refine Y_iload_n 15 rfl (pc2 := 27) rfl rfl ?_
      refine Y_iald 16 rfl (pc2 := 28) rfl (ly_ciN (by omega)) rfl (by omega) (by decide) ?_
      refine Y_top (hR k (by omega)) ?_
      refine Y_iret 17 rfl rfl rfl ⟨rfl, ?_⟩
      exact pu_i (by have e := mt hon.mpr h19; unfold lnO; rw [show ln R (k + 1) = R k from if_neg e, if_neg e, oC_id e])

set_option maxHeartbeats 400000 in
theorem T_ci_lastNote {G : Nat × (Nat → Int32)} {m : Mm}  {c n : Nat} {R : Nat → Int32} (hc : c < 4) (hn : n ≤ 32) (hB : m (21 + 5 * c) 4 = nI n) (hR : ∀ b, b < n → m (22 + 5 * c) b = oC (R b)) (hO : ∀ b, b < n → oR (R b) 7) : Y G M_ci_lastNote (0, 0) 0 (en_ M_ci_lastNote [.ref (21 + 5 * c)]) [] (LAY, m) (qm_ LAY (pu_ (lnO R n) m)) := by
  change Y _ _ _ _ [some (.ref _), none] _ _ _
  refine Y_aload_n 0 rfl (pc2 := 1) rfl rfl ?_
  refine Y_getI 1 rfl (pc2 := 4) rfl fl_ci_24 (ly_ci (by omega)) (by decide) rfl ?_
  refine Y_top (hB) ?_
  refine Y_iconst 2 rfl (pc2 := 5) rfl (v := nI 1) (by decide) ?_
  refine Y_isub 3 rfl (pc2 := 6) rfl ?_
  refine Y_istore_n 4 rfl (pc2 := 7) rfl (Nat.le_of_ble_eq_true rfl) (ls2 := [some (.ref _), some (.int _)]) rfl ?_
  exact L_lastNote hc hn hB hR hO n (Nat.le_refl n)

set_option maxHeartbeats 400000 in
theorem L_setTones {G : Nat × (Nat → Int32)} {m : Mm}  {c n : Nat} {R : Nat → Int32} (hc : c < 4) (hn : n ≤ 32) (hB : m (21 + 5 * c) 4 = nI n) (hR : ∀ b, b < n → m (22 + 5 * c) b = oC (R b)) (hO : ∀ b, b < n → oR (R b) 7) : ∀ b, b ≤ n → Y G M_ci_setTones (0, 0) 7 [some (.ref (21 + 5 * c)), some (.int (tvR R n b)), some (.int (nI b))] [] (LAY, ur_ m (24 + 5 * c) (flf (m (24 + 5 * c)) b (toneR R n))) (qm_ LAY (pf_ (ur_ m (24 + 5 * c) (flf (m (24 + 5 * c)) n (toneR R n))))) := by
  refine ind_ (fun b hb ih => ?_)
  refine Y_iload_n 5 rfl (pc2 := 8) rfl rfl ?_
  refine Y_aload_n 6 rfl (pc2 := 9) rfl rfl ?_
  refine Y_getI 7 rfl (pc2 := 12) rfl fl_ci_24 (ly_ci (by omega)) (by decide) rfl ?_
  refine Y_top ((congrFun (ur_ne (by omega)) 4).trans hB) ?_
  refine Y_icmp_gen 8 rfl (pc2 := 15) rfl (tgt := 46) (by decide) (by omega) (by omega) (fun h12 => ?_) (fun h12 => ?_)
  · refine Y_vret 27 rfl rfl ⟨rfl, ?_⟩
    exact ⟨rfl, by rw [show b = n by omega]⟩
  · have hon := oC_none (by decide) (hO b (by omega))
    refine Y_aload_n 9 rfl (pc2 := 16) rfl rfl ?_
    refine Y_getR 10 rfl (pc2 := 19) rfl fl_ci_9 (ly_ci (by omega)) (by decide) rfl rfl (by omega) ?_
    refine Y_iload_n 11 rfl (pc2 := 20) rfl rfl ?_
    refine Y_iald 12 rfl (pc2 := 21) rfl (ly_ciN (by omega)) rfl (by omega) (by decide) ?_
    refine Y_top ((congrFun (ur_ne (by omega)) b).trans (hR b (by omega))) ?_
    refine Y_ldc 13 rfl (pc2 := 23) rfl kc_ci_28 ?_
    refine Y_icmp_eq 14 rfl (pc2 := 26) rfl (tgt := 33) (by decide) (fun h23 => ?_) (fun h23 => ?_)
    · refine Y_aload_n 20 rfl (pc2 := 34) rfl rfl ?_
      refine Y_getR 21 rfl (pc2 := 37) rfl fl_ci_18 (ly_ci (by omega)) (by decide) rfl rfl (by omega) ?_
      refine Y_iload_n 22 rfl (pc2 := 38) rfl rfl ?_
      refine Y_iload_n 23 rfl (pc2 := 39) rfl rfl ?_
      refine Y_iast 24 rfl (pc2 := 40) rfl (ly_ciT (by omega)) rfl (by omega) (by decide) rfl ?_
      refine Y_iinc 25 rfl (pc2 := 43) rfl rfl (nI_inc _ 1) (ls2 := [some (.ref _), some (.int _), some (.int _)]) rfl ?_
      refine Y_goto 26 rfl (pc2 := 7) (by decide) ?_
      first
        | exact (by
            have e2 := mt hon.mpr h23
            have e : toneR R n b = oC (R b) := by rw [tv_s, tv_y e2, oC_id e2]
            have hi := ih (b + 1) (by omega) (by omega)
            rw [← flf_s, ← tv_s, e] at hi
            exact hi)
        | exact (by
            have e : toneR R n b = tvR R n b := by rw [tv_s, tv_n (hon.mp h23)]
            have hi := ih (b + 1) (by omega) (by omega)
            rw [← flf_s, ← tv_s, e] at hi
            exact hi)
    · refine Y_aload_n 15 rfl (pc2 := 27) rfl rfl ?_
      refine Y_getR 16 rfl (pc2 := 30) rfl fl_ci_9 (ly_ci (by omega)) (by decide) rfl rfl (by omega) ?_
      refine Y_iload_n 17 rfl (pc2 := 31) rfl rfl ?_
      refine Y_iald 18 rfl (pc2 := 32) rfl (ly_ciN (by omega)) rfl (by omega) (by decide) ?_
      refine Y_top ((congrFun (ur_ne (by omega)) b).trans (hR b (by omega))) ?_
      refine Y_istore_n 19 rfl (pc2 := 33) rfl (Nat.le_of_ble_eq_true rfl) (ls2 := [some (.ref _), some (.int _), some (.int _)]) rfl ?_
      refine Y_aload_n 20 rfl (pc2 := 34) rfl rfl ?_
      refine Y_getR 21 rfl (pc2 := 37) rfl fl_ci_18 (ly_ci (by omega)) (by decide) rfl rfl (by omega) ?_
      refine Y_iload_n 22 rfl (pc2 := 38) rfl rfl ?_
      refine Y_iload_n 23 rfl (pc2 := 39) rfl rfl ?_
      refine Y_iast 24 rfl (pc2 := 40) rfl (ly_ciT (by omega)) rfl (by omega) (by decide) rfl ?_
      refine Y_iinc 25 rfl (pc2 := 43) rfl rfl (nI_inc _ 1) (ls2 := [some (.ref _), some (.int _), some (.int _)]) rfl ?_
      refine Y_goto 26 rfl (pc2 := 7) (by decide) ?_
      first
        | exact (by
            have e2 := mt hon.mpr h23
            have e : toneR R n b = oC (R b) := by rw [tv_s, tv_y e2, oC_id e2]
            have hi := ih (b + 1) (by omega) (by omega)
            rw [← flf_s, ← tv_s, e] at hi
            exact hi)
        | exact (by
            have e : toneR R n b = tvR R n b := by rw [tv_s, tv_n (hon.mp h23)]
            have hi := ih (b + 1) (by omega) (by omega)
            rw [← flf_s, ← tv_s, e] at hi
            exact hi)

set_option maxHeartbeats 400000 in
theorem T_ci_setTones {G : Nat × (Nat → Int32)} {m : Mm}  {c n : Nat} {R : Nat → Int32} (hc : c < 4) (hn : n ≤ 32) (hB : m (21 + 5 * c) 4 = nI n) (hR : ∀ b, b < n → m (22 + 5 * c) b = oC (R b)) (hO : ∀ b, b < n → oR (R b) 7) : Y G M_ci_setTones (0, 0) 0 (en_ M_ci_setTones [.ref (21 + 5 * c)]) [] (LAY, m) (qm_ LAY (pf_ (ur_ m (24 + 5 * c) (flf (m (24 + 5 * c)) n (toneR R n))))) := by
  change Y _ _ _ _ [some (.ref _), none, none] _ _ _
  refine Y_aload_n 0 rfl (pc2 := 1) rfl rfl ?_
  refine Y_cV 1 rfl (pc2 := 4) rfl ok_ci_lastNote lk_ci_58 vi_ci_lastNote (ly_ci (by omega)) rfl (by decide) rfl (as := []) (rest := []) rfl rfl (T_ci_lastNote hc hn hB hR hO) ?_
  rintro _ _ ⟨rfl, rfl⟩
  change Y _ _ _ _ _ [.int _] _ _
  refine Y_istore_n 2 rfl (pc2 := 5) rfl (Nat.le_of_ble_eq_true rfl) (ls2 := [some (.ref _), some (.int _), none]) rfl ?_
  refine Y_iconst 3 rfl (pc2 := 6) rfl (v := nI 0) (by decide) ?_
  refine Y_istore_n 4 rfl (pc2 := 7) rfl (Nat.le_of_ble_eq_true rfl) (ls2 := [some (.ref _), some (.int _), some (.int _)]) rfl ?_
  exact Y_mem flf_0 (L_setTones hc hn hB hR hO 0 (Nat.zero_le _))

set_option maxHeartbeats 400000 in
theorem T_beatB {G : Nat × (Nat → Int32)} {m : Mm} {c n b : Nat} (hc : c < 4) (hn : n ≤ 32) (hb : b < 32) (hB : m (21 + 5 * c) 4 = nI n) : Y G M_ci_beatBehind (0, 0) 0 (en_ M_ci_beatBehind [.ref (21 + 5 * c), .int (nI b)]) [] (LAY, m) (qm_ LAY (pu_ (nI (nxt n b)) m)) := by
  change Y _ _ _ _ [some (.ref _), some (.int _)] _ _ _
  refine Y_iload_n 0 rfl (pc2 := 1) rfl rfl ?_
  refine Y_iconst 1 rfl (pc2 := 2) rfl (v := nI 1) (by decide) ?_
  refine Y_iadd 2 rfl (pc2 := 3) rfl ?_
  refine Y_top (nI_add _ _) ?_
  refine Y_aload_n 3 rfl (pc2 := 4) rfl rfl ?_
  refine Y_getI 4 rfl (pc2 := 7) rfl fl_ci_24 (ly_ci (by omega)) (by decide) rfl ?_
  refine Y_top (hB) ?_
  refine Y_icmp_gen 5 rfl (pc2 := 10) rfl (tgt := 16) (by decide) (by omega) (by omega) (fun h7 => ?_) (fun h7 => ?_)
  · refine Y_iconst 10 rfl (pc2 := 17) rfl (v := nI 0) (by decide) ?_
    refine Y_iret 11 rfl rfl rfl ⟨rfl, ?_⟩
    exact pu_i (by unfold nxt; first | rw [if_neg (by omega)] | rw [if_pos (by omega)])
  · refine Y_iload_n 6 rfl (pc2 := 11) rfl rfl ?_
    refine Y_iconst 7 rfl (pc2 := 12) rfl (v := nI 1) (by decide) ?_
    refine Y_iadd 8 rfl (pc2 := 13) rfl ?_
    refine Y_top (nI_add _ _) ?_
    refine Y_goto 9 rfl (pc2 := 17) (by decide) ?_
    refine Y_iret 11 rfl rfl rfl ⟨rfl, ?_⟩
    exact pu_i (by unfold nxt; first | rw [if_neg (by omega)] | rw [if_pos (by omega)])

set_option maxHeartbeats 400000 in
theorem L_setTurns {G : Nat × (Nat → Int32)} {m : Mm}  {c n : Nat} {t : Nat → Int32} (hc : c < 4) (hn : n ≤ 32) (h1 : 1 ≤ n) (hB : m (21 + 5 * c) 4 = nI n) (hT : ∀ b, b < n → m (24 + 5 * c) b = t b) : ∀ b, b ≤ n → ∀ (u : Option Value), Y G M_ci_setTurns (0, 0) 2 [some (.ref (21 + 5 * c)), some (.int (nI b)), u] [] (LAY, ur_ m (25 + 5 * c) (flf (m (25 + 5 * c)) b (fun b => nI (turnR (t b) (t (nxt n b)))))) (qm_ LAY (pf_ (ur_ m (25 + 5 * c) (flf (m (25 + 5 * c)) n (fun b => nI (turnR (t b) (t (nxt n b)))))))) := by
  refine ind_ (fun b hb ih u => ?_)
  refine Y_iload_n 2 rfl (pc2 := 3) rfl rfl ?_
  refine Y_aload_n 3 rfl (pc2 := 4) rfl rfl ?_
  refine Y_getI 4 rfl (pc2 := 7) rfl fl_ci_24 (ly_ci (by omega)) (by decide) rfl ?_
  refine Y_top ((congrFun (ur_ne (by omega)) 4).trans hB) ?_
  refine Y_icmp_gen 5 rfl (pc2 := 10) rfl (tgt := 62) (by decide) (by omega) (by omega) (fun h7 => ?_) (fun h7 => ?_)
  · refine Y_vret 36 rfl rfl ⟨rfl, ?_⟩
    exact ⟨rfl, by rw [show b = n by omega]⟩
  · have hx : nxt n b < n := nxt_lt (by omega)
    refine Y_aload_n 6 rfl (pc2 := 11) rfl rfl ?_
    refine Y_getR 7 rfl (pc2 := 14) rfl fl_ci_18 (ly_ci (by omega)) (by decide) rfl rfl (by omega) ?_
    refine Y_aload_n 8 rfl (pc2 := 15) rfl rfl ?_
    refine Y_iload_n 9 rfl (pc2 := 16) rfl rfl ?_
    refine Y_cV 10 rfl (pc2 := 19) rfl ok_ci_beatBehind lk_ci_62 vi_ci_beatBehind (ly_ci (by omega)) rfl (by decide) rfl (as := [.int _]) (rest := [.ref _]) rfl rfl (T_beatB hc hn (by omega) ((congrFun (ur_ne (by omega)) 4).trans hB)) ?_
    rintro _ _ ⟨rfl, rfl⟩
    change Y _ _ _ _ _ [.int _, .ref _] _ _
    refine Y_iald 11 rfl (pc2 := 20) rfl (ly_ciT (by omega)) rfl (by omega) (by decide) ?_
    refine Y_top ((congrFun (ur_ne (by omega)) _).trans (hT _ (nxt_lt (by omega)))) ?_
    refine Y_istore_n 12 rfl (pc2 := 21) rfl (Nat.le_of_ble_eq_true rfl) (ls2 := [some (.ref _), some (.int _), some (.int _)]) rfl ?_
    refine Y_aload_n 13 rfl (pc2 := 22) rfl rfl ?_
    refine Y_getR 14 rfl (pc2 := 25) rfl fl_ci_21 (ly_ci (by omega)) (by decide) rfl rfl (by omega) ?_
    refine Y_iload_n 15 rfl (pc2 := 26) rfl rfl ?_
    refine Y_iload_n 16 rfl (pc2 := 27) rfl rfl ?_
    refine Y_aload_n 17 rfl (pc2 := 28) rfl rfl ?_
    refine Y_getR 18 rfl (pc2 := 31) rfl fl_ci_18 (ly_ci (by omega)) (by decide) rfl rfl (by omega) ?_
    refine Y_iload_n 19 rfl (pc2 := 32) rfl rfl ?_
    refine Y_iald 20 rfl (pc2 := 33) rfl (ly_ciT (by omega)) rfl (by omega) (by decide) ?_
    refine Y_top ((congrFun (ur_ne (by omega)) b).trans (hT b (by omega))) ?_
    refine Y_icmp_ne 21 rfl (pc2 := 36) rfl (tgt := 40) (by decide) (fun h33 => ?_) (fun h33 => ?_)
    · refine Y_iload_n 24 rfl (pc2 := 41) rfl rfl ?_
      refine Y_aload_n 25 rfl (pc2 := 42) rfl rfl ?_
      refine Y_getR 26 rfl (pc2 := 45) rfl fl_ci_18 (ly_ci (by omega)) (by decide) rfl rfl (by omega) ?_
      refine Y_iload_n 27 rfl (pc2 := 46) rfl rfl ?_
      refine Y_iald 28 rfl (pc2 := 47) rfl (ly_ciT (by omega)) rfl (by omega) (by decide) ?_
      refine Y_top ((congrFun (ur_ne (by omega)) b).trans (hT b (by omega))) ?_
      refine Y_icmp_le 29 rfl (pc2 := 50) rfl (tgt := 54) (by decide) (fun h47 => ?_) (fun h47 => ?_)
      · refine Y_iconst 32 rfl (pc2 := 55) rfl (v := nI 2) (by decide) ?_
        refine Y_iast 33 rfl (pc2 := 56) rfl (ly_ciU (by omega)) rfl (by omega) (by decide) rfl ?_
        refine Y_iinc 34 rfl (pc2 := 59) rfl rfl (nI_inc _ 1) (ls2 := [some (.ref _), some (.int _), some (.int _)]) rfl ?_
        refine Y_goto 35 rfl (pc2 := 2) (by decide) ?_
        have hi := ih (b + 1) (by omega) (by omega) (some (.int (t (nxt n b))))
        rw [← flf_s] at hi
        first
          | exact (by
              have e : turnR (t b) (t (nxt n b)) = 0 := if_pos (by first | exact h33 | exact Classical.byContradiction h33)
              simp only [e] at hi
              exact hi)
          | exact (by
              have e : turnR (t b) (t (nxt n b)) = 2 := (if_neg h33).trans (if_neg (Int32.not_lt.mpr h47))
              simp only [e] at hi
              exact hi)
          | exact (by
              have e : turnR (t b) (t (nxt n b)) = 1 := (if_neg h33).trans (if_pos (Int32.not_le.mp h47))
              simp only [e] at hi
              exact hi)
      · refine Y_iconst 30 rfl (pc2 := 51) rfl (v := nI 1) (by decide) ?_
        refine Y_goto 31 rfl (pc2 := 55) (by decide) ?_
        refine Y_iast 33 rfl (pc2 := 56) rfl (ly_ciU (by omega)) rfl (by omega) (by decide) rfl ?_
        refine Y_iinc 34 rfl (pc2 := 59) rfl rfl (nI_inc _ 1) (ls2 := [some (.ref _), some (.int _), some (.int _)]) rfl ?_
        refine Y_goto 35 rfl (pc2 := 2) (by decide) ?_
        have hi := ih (b + 1) (by omega) (by omega) (some (.int (t (nxt n b))))
        rw [← flf_s] at hi
        first
          | exact (by
              have e : turnR (t b) (t (nxt n b)) = 0 := if_pos (by first | exact h33 | exact Classical.byContradiction h33)
              simp only [e] at hi
              exact hi)
          | exact (by
              have e : turnR (t b) (t (nxt n b)) = 2 := (if_neg h33).trans (if_neg (Int32.not_lt.mpr h47))
              simp only [e] at hi
              exact hi)
          | exact (by
              have e : turnR (t b) (t (nxt n b)) = 1 := (if_neg h33).trans (if_pos (Int32.not_le.mp h47))
              simp only [e] at hi
              exact hi)
    · refine Y_iconst 22 rfl (pc2 := 37) rfl (v := nI 0) (by decide) ?_
      refine Y_goto 23 rfl (pc2 := 55) (by decide) ?_
      refine Y_iast 33 rfl (pc2 := 56) rfl (ly_ciU (by omega)) rfl (by omega) (by decide) rfl ?_
      refine Y_iinc 34 rfl (pc2 := 59) rfl rfl (nI_inc _ 1) (ls2 := [some (.ref _), some (.int _), some (.int _)]) rfl ?_
      refine Y_goto 35 rfl (pc2 := 2) (by decide) ?_
      have hi := ih (b + 1) (by omega) (by omega) (some (.int (t (nxt n b))))
      rw [← flf_s] at hi
      first
        | exact (by
            have e : turnR (t b) (t (nxt n b)) = 0 := if_pos (by first | exact h33 | exact Classical.byContradiction h33)
            simp only [e] at hi
            exact hi)
        | exact (by
            have e : turnR (t b) (t (nxt n b)) = 2 := (if_neg h33).trans (if_neg (Int32.not_lt.mpr h47))
            simp only [e] at hi
            exact hi)
        | exact (by
            have e : turnR (t b) (t (nxt n b)) = 1 := (if_neg h33).trans (if_pos (Int32.not_le.mp h47))
            simp only [e] at hi
            exact hi)

set_option maxHeartbeats 400000 in
theorem T_ci_setTurns {G : Nat × (Nat → Int32)} {m : Mm}  {c n : Nat} {t : Nat → Int32} (hc : c < 4) (hn : n ≤ 32) (h1 : 1 ≤ n) (hB : m (21 + 5 * c) 4 = nI n) (hT : ∀ b, b < n → m (24 + 5 * c) b = t b) : Y G M_ci_setTurns (0, 0) 0 (en_ M_ci_setTurns [.ref (21 + 5 * c)]) [] (LAY, m) (qm_ LAY (pf_ (ur_ m (25 + 5 * c) (flf (m (25 + 5 * c)) n (fun b => nI (turnR (t b) (t (nxt n b)))))))) := by
  change Y _ _ _ _ [some (.ref _), none, none] _ _ _
  refine Y_iconst 0 rfl (pc2 := 1) rfl (v := nI 0) (by decide) ?_
  refine Y_istore_n 1 rfl (pc2 := 2) rfl (Nat.le_of_ble_eq_true rfl) (ls2 := [some (.ref _), some (.int _), none]) rfl ?_
  exact Y_mem flf_0 (L_setTurns hc hn h1 hB hT 0 (Nat.zero_le _) _)

/-- what a circle's cells are after it became q -/
def bec (m m' : Mm) (c : Nat) (q : Qt) : Prop :=
  m' (21 + 5 * c) 4 = nI q.1 ∧ (∀ b, b < 32 → m' (22 + 5 * c) b = if b < q.1 then oC (q.2.1 b) else m (22 + 5 * c) b) ∧ (∀ b, b < 32 → m' (23 + 5 * c) b = if b < q.1 then oC (q.2.2 b) else m (23 + 5 * c) b) ∧
  (∀ b, b < q.1 → m' (24 + 5 * c) b = toneR q.2.1 q.1 b) ∧ (∀ b, b < q.1 → m' (25 + 5 * c) b = nI (turnR (toneR q.2.1 q.1 b) (toneR q.2.1 q.1 (nxt q.1 b)))) ∧ ∀ a, ¬ (21 + 5 * c ≤ a ∧ a ≤ 25 + 5 * c) → m' a = m a
def pB_ (m : Mm) (c : Nat) (q : Qt) : Option Value → Mm → Prop := fun v m' => v = none ∧ bec m m' c q
def qok (q : Qt) : Prop := ∀ i, oR (q.2.1 i) 7 ∧ oR (q.2.2 i) 4

set_option maxHeartbeats 400000 in
theorem T_ci_become {G : Nat × (Nat → Int32)} {m : Mm} {c : Nat} {q : Qt} (hc : c < 4) (h : RQ m q) (hn : q.1 ≤ 32) (h1 : 1 ≤ q.1) (hk : qok q) : Y G M_ci_become (0, 0) 0 (en_ M_ci_become [.ref (21 + 5 * c), .ref (3)]) [] (LAY, m) (qm_ LAY (pB_ m c q)) := by
  change Y _ _ _ _ [some (.ref _), some (.ref _)] _ _ _
  refine Y_aload_n 0 rfl (pc2 := 1) rfl rfl ?_
  refine Y_aload_n 1 rfl (pc2 := 2) rfl rfl ?_
  refine Y_getI 2 rfl (pc2 := 5) rfl fl_ci_35 ly_re (by decide) rfl ?_
  refine Y_top (h.1) ?_
  refine Y_bipush 3 rfl (pc2 := 7) rfl (v := nI 32) (by decide) ?_
  refine Y_min 4 rfl (pc2 := 10) rfl lk_ci_38 jd_min_s jd_mi jd_min_c (by decide) (Nat.le_of_ble_eq_true rfl) ?_
  refine Y_top (show (if nI 32 < nI q.1 then nI 32 else nI q.1) = nI q.1 from if_neg (by intro e; have := (nI_ltI (by decide) (by omega)).mp e; omega)) ?_
  refine Y_putI 5 rfl (pc2 := 13) rfl fl_ci_24 (ly_ci (by omega)) (by decide) ⟨rfl, rfl⟩ ⟨_, _, _, rfl, rfl⟩ rfl ?_
  refine Y_aload_n 6 rfl (pc2 := 14) rfl rfl ?_
  refine Y_getR 7 rfl (pc2 := 17) rfl fl_ci_44 ly_re (by decide) rfl rfl (by omega) ?_
  refine Y_iconst 8 rfl (pc2 := 18) rfl (v := nI 0) (by decide) ?_
  refine Y_aload_n 9 rfl (pc2 := 19) rfl rfl ?_
  refine Y_getR 10 rfl (pc2 := 22) rfl fl_ci_9 (ly_ci (by omega)) (by decide) rfl rfl (by omega) ?_
  refine Y_iconst 11 rfl (pc2 := 23) rfl (v := nI 0) (by decide) ?_
  refine Y_aload_n 12 rfl (pc2 := 24) rfl rfl ?_
  refine Y_getI 13 rfl (pc2 := 27) rfl fl_ci_24 (ly_ci (by omega)) (by decide) rfl ?_
  refine Y_top (uw_same) ?_
  refine Y_copy_i 14 rfl (pc2 := 30) rfl lk_ci_45 jd_an jd_as jd_si ly_reN (ly_ciN (by omega)) rfl rfl rfl (by omega) (by omega) (by decide) (by decide) (by decide) (Nat.le_of_ble_eq_true rfl) ?_
  refine Y_aload_n 15 rfl (pc2 := 31) rfl rfl ?_
  refine Y_getR 16 rfl (pc2 := 34) rfl fl_ci_51 ly_re (by decide) rfl rfl (by omega) ?_
  refine Y_iconst 17 rfl (pc2 := 35) rfl (v := nI 0) (by decide) ?_
  refine Y_aload_n 18 rfl (pc2 := 36) rfl rfl ?_
  refine Y_getR 19 rfl (pc2 := 39) rfl fl_ci_15 (ly_ci (by omega)) (by decide) rfl rfl (by omega) ?_
  refine Y_iconst 20 rfl (pc2 := 40) rfl (v := nI 0) (by decide) ?_
  refine Y_aload_n 21 rfl (pc2 := 41) rfl rfl ?_
  refine Y_getI 22 rfl (pc2 := 44) rfl fl_ci_24 (ly_ci (by omega)) (by decide) rfl ?_
  refine Y_top ((congrFun (ur_ne (by omega)) 4).trans uw_same) ?_
  refine Y_copy_i 23 rfl (pc2 := 47) rfl lk_ci_45 jd_an jd_as jd_si ly_reG (ly_ciG (by omega)) rfl rfl rfl (by omega) (by omega) (by decide) (by decide) (by decide) (Nat.le_of_ble_eq_true rfl) ?_
  generalize hm4 : ur_ (ur_ (uw_ m (21 + 5 * c) 4 (nI q.1)) (22 + 5 * c) (va_cpy (uw_ m (21 + 5 * c) 4 (nI q.1) 4) (uw_ m (21 + 5 * c) 4 (nI q.1) (22 + 5 * c)) 0 0 q.1)) (23 + 5 * c) (va_cpy (ur_ (uw_ m (21 + 5 * c) 4 (nI q.1)) (22 + 5 * c) (va_cpy (uw_ m (21 + 5 * c) 4 (nI q.1) 4) (uw_ m (21 + 5 * c) 4 (nI q.1) (22 + 5 * c)) 0 0 q.1) 5) (ur_ (uw_ m (21 + 5 * c) 4 (nI q.1)) (22 + 5 * c) (va_cpy (uw_ m (21 + 5 * c) 4 (nI q.1) 4) (uw_ m (21 + 5 * c) 4 (nI q.1) (22 + 5 * c)) 0 0 q.1) (23 + 5 * c)) 0 0 q.1) = m4
  have f1 : m4 (21 + 5 * c) 4 = nI q.1 := by rw [← hm4, ur_ne (by omega), ur_ne (by omega), uw_same]
  have f2 : ∀ b, b < 32 → m4 (22 + 5 * c) b = if b < q.1 then oC (q.2.1 b) else m (22 + 5 * c) b := by
    intro b hb
    rw [← hm4, ur_ne (by omega), ur_same]
    show (if 0 ≤ b ∧ b < 0 + q.1 then uw_ m (21 + 5 * c) 4 (nI q.1) 4 (0 + (b - 0)) else uw_ m (21 + 5 * c) 4 (nI q.1) (22 + 5 * c) b) = _
    by_cases e : b < q.1
    · rw [if_pos (by omega), if_pos e, uw_ne (by omega), show 0 + (b - 0) = b by omega]; exact (h.2 b hb e).1
    · rw [if_neg (by omega), if_neg e, uw_ne (by omega)]
  have f3 : ∀ b, b < 32 → m4 (23 + 5 * c) b = if b < q.1 then oC (q.2.2 b) else m (23 + 5 * c) b := by
    intro b hb
    rw [← hm4, ur_same]
    show (if 0 ≤ b ∧ b < 0 + q.1 then ur_ (uw_ m (21 + 5 * c) 4 (nI q.1)) (22 + 5 * c) _ 5 (0 + (b - 0)) else ur_ (uw_ m (21 + 5 * c) 4 (nI q.1)) (22 + 5 * c) _ (23 + 5 * c) b) = _
    by_cases e : b < q.1
    · rw [if_pos (by omega), if_pos e, ur_ne (by omega), uw_ne (by omega), show 0 + (b - 0) = b by omega]; exact (h.2 b hb e).2
    · rw [if_neg (by omega), if_neg e, ur_ne (by omega), uw_ne (by omega)]
  have f4 : ∀ a, ¬ (21 + 5 * c ≤ a ∧ a ≤ 25 + 5 * c) → m4 a = m a := by
    intro a ha
    rw [← hm4, ur_ne (by omega), ur_ne (by omega)]
    funext k
    rw [uw_ne (by omega)]
  have f5 : ∀ b, b < q.1 → m4 (22 + 5 * c) b = oC (q.2.1 b) := fun b hb => by rw [f2 b (by omega), if_pos hb]
  refine Y_aload_n 24 rfl (pc2 := 48) rfl rfl ?_
  refine Y_cV 25 rfl (pc2 := 51) rfl ok_ci_setTones lk_ci_52 vi_ci_setTones (ly_ci (by omega)) rfl (by decide) rfl (as := []) (rest := []) rfl rfl (T_ci_setTones hc hn f1 f5 (fun b _ => (hk b).1)) ?_
  rintro _ _ ⟨rfl, rfl⟩
  change Y _ _ _ _ _ [] _ _
  refine Y_aload_n 26 rfl (pc2 := 52) rfl rfl ?_
  refine Y_cV 27 rfl (pc2 := 55) rfl ok_ci_setTurns lk_ci_55 vi_ci_setTurns (ly_ci (by omega)) rfl (by decide) rfl (as := []) (rest := []) rfl rfl (T_ci_setTurns (t := toneR q.2.1 q.1) hc hn h1 ((congrFun (ur_ne (by omega)) 4).trans f1) (fun b hb => by rw [ur_same]; unfold flf; rw [if_pos hb])) ?_
  rintro _ _ ⟨rfl, rfl⟩
  change Y _ _ _ _ _ [] _ _
  refine Y_vret 28 rfl rfl ⟨rfl, ?_⟩
  refine ⟨rfl, ?_, fun b hb => ?_, fun b hb => ?_, fun b hb => ?_, fun b hb => ?_, fun a ha => ?_⟩
  · show ur_ _ _ _ _ _ = _; rw [ur_ne (by omega), ur_ne (by omega)]; exact f1
  · show ur_ _ _ _ _ _ = _; rw [ur_ne (by omega), ur_ne (by omega)]; exact f2 b hb
  · show ur_ _ _ _ _ _ = _; rw [ur_ne (by omega), ur_ne (by omega)]; exact f3 b hb
  · show ur_ _ _ _ _ _ = _; rw [ur_ne (by omega), ur_same]; unfold flf; rw [if_pos hb]
  · show ur_ _ _ _ _ _ = _; rw [ur_same]; unfold flf; rw [if_pos hb]
  · show ur_ _ _ _ _ = _; rw [ur_ne (by omega), ur_ne (by omega)]; exact f4 a ha
end
section
/-! the class: tune -/
def tnR (row : Nat → Int32) (c n : Nat) (f : Nat → Int32) : Nat → Int32 := fun k => if 32 * c ≤ k ∧ k < 32 * c + n then f (k - 32 * c) else row k
def tnS (S : Mm) (c : Nat) (q : Qt) : Mm := uw_ (ur_ (ur_ (uw_ S 154 c (nI q.1)) 155 (tnR (S 155) c q.1 q.2.1)) 156 (tnR (S 156) c q.1 q.2.2)) 153 12 (nI 0)
def tuC (S : Mm) : Prop := (rT S).1 = none ∧ 2 ≤ (rT S).2.1 ∧ (rT S).2.1 ≤ 32
noncomputable def sp_tune (S : Mm) (x : Int32) : Int32 := cI (iR x 4) (match (rT S).1 with
  | some p => -100 - nI p
  | none => cI (2 ≤ (rT S).2.1 ∧ (rT S).2.1 ≤ 32) (nI (rT S).2.1) NO_) BAD_
noncomputable def st_tune (S : Mm) (x : Int32) : Mm := cI (iR x 4 ∧ tuC S) (tnS S (nv x) (rT S).2) (uw_ S 153 12 (nI 0))
set_option maxHeartbeats 400000 in
theorem tn_154 {S : Mm} {c d : Nat} {q : Qt} : tnS S c q 154 d = if d = c then nI q.1 else S 154 d := by
  show uw_ S 154 c (nI q.1) 154 d = _
  by_cases e : d = c
  · rw [if_pos e, e, uw_same]
  · rw [if_neg e, uw_ne (by omega)]
set_option maxHeartbeats 400000 in
theorem tn_155 {S : Mm} {c k : Nat} {q : Qt} : tnS S c q 155 k = tnR (S 155) c q.1 q.2.1 k := rfl
set_option maxHeartbeats 400000 in
theorem tn_156 {S : Mm} {c k : Nat} {q : Qt} : tnS S c q 156 k = tnR (S 156) c q.1 q.2.2 k := rfl
set_option maxHeartbeats 400000 in
theorem tn_bt {S : Mm} {c d : Nat} {q : Qt} (hn : q.1 < 2 ^ 31) : bt (tnS S c q) d = if d = c then q.1 else bt S d := by
  unfold bt
  rw [tn_154]
  split
  · exact nv_nI hn
  · rfl
set_option maxHeartbeats 400000 in
theorem tnR_at {row : Nat → Int32} {c d n b : Nat} {f : Nat → Int32} (hb : b < 32) (hn : n ≤ 32) : tnR row c n f (32 * d + b) = if d = c ∧ b < n then f b else row (32 * d + b) := by
  unfold tnR
  by_cases e : d = c ∧ b < n
  · rw [if_pos e, if_pos (by omega)]; congr 1; omega
  · rw [if_neg e, if_neg (by omega)]
set_option maxHeartbeats 400000 in
theorem tn_rw {S : Mm} {c d : Nat} {q : Qt} (hn : q.1 ≤ 32) {b : Nat} (hb : b < 32) : rw_ (tnS S c q) d b = if d = c ∧ b < q.1 then q.2.1 b else rw_ S d b := by
  show tnR (S 155) c q.1 q.2.1 (32 * d + b) = _
  rw [tnR_at hb hn]; rfl
set_option maxHeartbeats 400000 in
theorem tn_tone {S : Mm} (w : WF S) {c d : Nat} {q : Qt} (hn : q.1 ≤ 32) (hd : d < 4) {b : Nat} (hb : b < bt (tnS S c q) d) : tone (tnS S c q) d b = if d = c then toneR q.2.1 q.1 b else tone S d b := by
  have hw := (w.b d hd).2
  rw [tn_bt (by omega)] at hb
  unfold tone
  rw [tn_bt (by omega)]
  by_cases e : d = c
  · rw [if_pos e, if_pos e] at *
    exact toneR_congr (fun i hi => by rw [tn_rw hn (by omega), if_pos ⟨e, hi⟩]) hb
  · rw [if_neg e, if_neg e] at *
    exact toneR_congr (fun i hi => by rw [tn_rw hn (by omega), if_neg (fun h => e h.1)]) hb
set_option maxHeartbeats 400000 in
theorem tn_turn {S : Mm} (w : WF S) {c d : Nat} {q : Qt} (hn : q.1 ≤ 32) (h1 : 1 ≤ q.1) (hd : d < 4) {b : Nat} (hb : b < bt (tnS S c q) d) : turn (tnS S c q) d b = if d = c then turnR (toneR q.2.1 q.1 b) (toneR q.2.1 q.1 (nxt q.1 b)) else turn S d b := by
  have hw := (w.b d hd).2
  have hx : nxt (bt (tnS S c q) d) b < bt (tnS S c q) d := nxt_lt (by omega)
  unfold turn
  rw [tn_tone w hn hd hb, tn_tone w hn hd hx, tn_bt (by omega)]
  by_cases e : d = c
  · rw [if_pos e, if_pos e, if_pos e, if_pos e]
  · rw [if_neg e, if_neg e, if_neg e, if_neg e]

set_option maxHeartbeats 400000 in
theorem RC_tune {m m2 S : Mm} (h : RC m S) (w : WF S) {c0 : Nat} {q : Qt} (hc0 : c0 < 4) (hn : q.1 ≤ 32) (h1 : 1 ≤ q.1) (hb1 : m2 (21 + 5 * c0) 4 = nI q.1) (hb2 : ∀ b, b < 32 → m2 (22 + 5 * c0) b = if b < q.1 then oC (q.2.1 b) else m (22 + 5 * c0) b) (hb3 : ∀ b, b < 32 → m2 (23 + 5 * c0) b = if b < q.1 then oC (q.2.2 b) else m (23 + 5 * c0) b) (hb4 : ∀ b, b < q.1 → m2 (24 + 5 * c0) b = toneR q.2.1 q.1 b) (hb5 : ∀ b, b < q.1 → m2 (25 + 5 * c0) b = nI (turnR (toneR q.2.1 q.1 b) (toneR q.2.1 q.1 (nxt q.1 b)))) (ht1 : m2 1 1 = nI 0) (hfr : ∀ a, ¬ (21 + 5 * c0 ≤ a ∧ a ≤ 25 + 5 * c0) → ¬ (a = 1 ∨ a = 3 ∨ a = 4 ∨ a = 5) → m2 a = m a) : RC m2 (tnS S c0 q) := by
  refine ⟨fun c hc => ?_, fun c b hc hb => ?_, fun c b hc hb => ?_, fun c b hc hb => ?_, fun c b hc hb => ?_, fun l hl => ?_, fun l f g s hl hf hg hs => ?_, fun l f s hl hf hs => ?_, fun l k hl hk => ?_, ?_, fun p hp => ?_, fun p hp => ?_, fun p hp => ?_, fun r hr => ?_, ?_, ?_, fun i hi => ?_, fun s hs => ?_, fun s i hs hi => ?_⟩
  · rw [tn_154]
    by_cases e : c = c0
    · rw [if_pos e, e]; exact hb1
    · rw [if_neg e, hfr _ (by omega) (by omega)]; exact h.b c hc
  · rw [tn_155, tnR_at hb hn]
    by_cases e : c = c0
    · subst e
      rw [hb2 b hb]
      by_cases e2 : b < q.1
      · rw [if_pos e2, if_pos ⟨rfl, e2⟩]
      · rw [if_neg e2, if_neg (fun z => e2 z.2)]; exact h.n c b hc hb
    · rw [if_neg (fun z => e z.1), hfr _ (by omega) (by omega)]; exact h.n c b hc hb
  · rw [tn_156, tnR_at hb hn]
    by_cases e : c = c0
    · subst e
      rw [hb3 b hb]
      by_cases e2 : b < q.1
      · rw [if_pos e2, if_pos ⟨rfl, e2⟩]
      · rw [if_neg e2, if_neg (fun z => e2 z.2)]; exact h.g c b hc hb
    · rw [if_neg (fun z => e z.1), hfr _ (by omega) (by omega)]; exact h.g c b hc hb
  · rw [tn_tone w hn hc hb]
    rw [tn_bt (by omega)] at hb
    by_cases e : c = c0
    · subst e
      rw [if_pos rfl] at hb ⊢
      exact hb4 b hb
    · rw [if_neg e] at hb ⊢
      rw [hfr _ (by omega) (by omega)]; exact h.t c b hc hb
  · rw [tn_turn w hn h1 hc hb]
    rw [tn_bt (by omega)] at hb
    by_cases e : c = c0
    · subst e
      rw [if_pos rfl] at hb ⊢
      exact hb5 b hb
    · rw [if_neg e] at hb ⊢
      rw [hfr _ (by omega) (by omega)]; exact h.u c b hc hb
  · rw [hfr _ (by omega) (by omega)]; exact h.l l hl
  · rw [hfr _ (by omega) (by omega)]; exact h.r l f g s hl hf hg hs
  · rw [hfr _ (by omega) (by omega)]; exact h.m l f s hl hf hs
  · rw [hfr _ (by omega) (by omega)]; exact h.us l k hl hk
  · rw [hfr _ (by omega) (by omega)]; exact h.p 
  · rw [hfr _ (by omega) (by omega)]; exact h.c p hp
  · rw [hfr _ (by omega) (by omega)]; exact h.pt p hp
  · rw [hfr _ (by omega) (by omega)]; exact h.pl p hp
  · rw [hfr _ (by omega) (by omega)]; exact h.sg r hr
  · rw [hfr _ (by omega) (by omega)]; exact h.sn 
  · rw [ht1]; show _ = uw_ _ 153 12 _ 153 12; rw [uw_same]
  · rw [hfr _ (by omega) (by omega)]; exact h.tv i hi
  · rw [hfr _ (by omega) (by omega)]; exact h.sp s hs
  · rw [hfr _ (by omega) (by omega)]; exact h.sb s i hs hi

set_option maxHeartbeats 400000 in
theorem WF_tune {S : Mm} (w : WF S) {c0 : Nat} {q : Qt} (hc0 : c0 < 4) (hn : q.1 ≤ 32) (h2 : 2 ≤ q.1) (hk : qok q) : WF (tnS S c0 q) := by
  refine ⟨fun c hc => ?_, fun i hi => ?_, fun i hi => ?_, fun i hi => ?_, fun i hi => ?_, fun l k hl hk => ?_, ?_, fun p hp => ?_, fun p hp => ?_, fun p hp => ?_, fun p hp => ?_, fun r hr => ?_, ?_, fun i hi => ?_, fun s hs => ?_, fun i hi => ?_, ?_⟩
  · rw [tn_bt (by omega), tn_154]
    by_cases e : c = c0
    · rw [if_pos e, if_pos e]; exact ⟨rfl, h2, hn⟩
    · rw [if_neg e, if_neg e]; exact w.b c hc
  · rw [tn_155]
    unfold tnR
    split
    · exact (hk _).1
    · exact w.n i hi
  · rw [tn_156]
    unfold tnR
    split
    · exact (hk _).2
    · exact w.g i hi
  · exact w.s i hi
  · exact w.m i hi
  · exact w.u l k hl hk
  · exact w.p 
  · exact w.c p hp
  · exact w.t p hp
  · exact w.t1 p hp
  · exact w.l p hp
  · exact w.r r hr
  · exact ⟨rfl, Nat.zero_le _⟩
  · exact w.tv i hi
  · exact w.pl s hs
  · exact w.k i hi
  · exact w.sg 

set_option maxHeartbeats 400000 in
theorem qok_push {q : Qt} {a g : Int32} (h : qok q) (ha : oR a 7) (hg : oR g 4) : qok (qpush q a g) := by
  intro i
  refine ⟨?_, ?_⟩
  · show oR (if i = q.1 then a else q.2.1 i) 7
    split
    · exact ha
    · exact (h i).1
  · show oR (if i = q.1 then g else q.2.2 i) 4
    split
    · exact hg
    · exact (h i).2
set_option maxHeartbeats 400000 in
theorem qok_set {q : Qt} {k : Int32} (h : qok q) (hk : oR k 4) : qok (qset q k) := by
  intro i
  refine ⟨(h i).1, ?_⟩
  show oR (if i + 1 = q.1 then k else q.2.2 i) 4
  split
  · exact hk
  · exact (h i).2
set_option maxHeartbeats 400000 in
theorem qok_rp {q : Qt} {s u : Nat} (h : qok q) : ∀ k, qok (rp q s u k)
  | 0 => h
  | k + 1 => qok_push (qok_rp h k) ((qok_rp h k) _).1 ((qok_rp h k) _).2
set_option maxHeartbeats 400000 in
theorem qok_stp {v : Nat} {s s2 : As} (h : qok s.1) (hs : stp v s = some s2) : qok s2.1 := by
  unfold stp at hs
  split at hs
  · split at hs
    · cases hs; exact qok_rp h _
    · cases hs
  · split at hs
    · split at hs
      · cases hs; exact h
      · cases hs
    · split at hs
      · split at hs
        · cases hs
        · cases hs; exact h
      · split at hs
        · cases hs; exact qok_push h (Or.inl rfl) (Or.inl rfl)
        · split at hs
          · cases hs; exact qok_push h (Or.inr ⟨v - 49, by omega, rfl⟩) (Or.inl rfl)
          · split at hs
            · cases hs; exact qok_set h (gk_or v)
            · cases hs
set_option maxHeartbeats 400000 in
theorem qok_au {t : Nat → Nat} : ∀ k p (s : As), qok s.1 → qok (au t k p s).2
  | 0, p, s, h => by
    show qok (if 0 < s.1.1 ∧ s.2.1 = none then (none, s.1) else (some p, s.1)).2
    split <;> exact h
  | k + 1, p, s, h => by
    cases e : stp (t p) s with
    | none => rw [au_no e]; exact h
    | some s2 => rw [au_go e]; exact qok_au k (p + 1) s2 (qok_stp h e)
set_option maxHeartbeats 400000 in
theorem qok_rT {S : Mm} : qok (rT S).2 := qok_au _ _ _ (fun i => ⟨Or.inl rfl, Or.inl rfl⟩)
set_option maxHeartbeats 400000 in
theorem rT_p {t : Nat → Nat} : ∀ k p (s : As) x, (au t k p s).1 = some x → x ≤ p + k
  | 0, p, s, x, h => by
    have h2 : (if 0 < s.1.1 ∧ s.2.1 = none then ((none : Option Nat), s.1) else (some p, s.1)).1 = some x := h
    split at h2
    · cases h2
    · cases h2; omega
  | k + 1, p, s, x, h => by
    cases e : stp (t p) s with
    | none => rw [au_no e] at h; cases h; omega
    | some s2 => rw [au_go e] at h; have := rT_p k (p + 1) s2 x h; omega
set_option maxHeartbeats 400000 in
theorem rT_le {S : Mm} {x : Nat} (h : (rT S).1 = some x) : x ≤ tpd S := by
  have := rT_p _ _ _ _ h
  omega

set_option maxHeartbeats 400000 in
theorem RQ_f2 {m : Mm} {q : Qt} {k : Nat} {v : Int32} (h : RQ m q) : RQ (uw_ m 1 k v) q :=
  ⟨(uw_ne (by omega)).trans h.1, fun i h1 h2 => ⟨(uw_ne (by omega)).trans (h.2 i h1 h2).1, (uw_ne (by omega)).trans (h.2 i h1 h2).2⟩⟩

set_option maxHeartbeats 400000 in
theorem T_gh_tune {G : Nat × (Nat → Int32)} {m : Mm} {S : Mm} (h : RC m S) (w : WF S) {x : Int32} : Y G M_gh_tune (0, 0) 0 (en_ M_gh_tune [.ref (0), .int (x)]) [] (LAY, m) (qm_ LAY (pc_ (sp_tune S x) m (st_tune S x))) := by
  change Y _ _ _ _ [some (.ref _), some (.int _), none] _ _ _
  refine Y_aload_n 0 rfl (pc2 := 1) rfl rfl ?_
  refine Y_getR 1 rfl (pc2 := 4) rfl fl_gh_19 ly_gh (by decide) rfl rfl (by omega) ?_
  refine Y_aload_n 2 rfl (pc2 := 5) rfl rfl ?_
  refine Y_getR 3 rfl (pc2 := 8) rfl fl_gh_10 ly_gh (by decide) rfl rfl (by omega) ?_
  refine Y_cV 4 rfl (pc2 := 11) rfl ok_re_faultOf lk_gh_76 vi_re_faultOf ly_re rfl (by decide) rfl (as := [.ref _]) (rest := []) rfl rfl (T_re_faultOf h w) ?_
  rintro _ m1 ⟨hF, rfl, hQ⟩
  change Y _ _ _ _ _ [.int _] _ _
  refine Y_istore_n 5 rfl (pc2 := 12) rfl (Nat.le_of_ble_eq_true rfl) (ls2 := [some (.ref _), some (.int _), some (.int _)]) rfl ?_
  refine Y_aload_n 6 rfl (pc2 := 13) rfl rfl ?_
  refine Y_getR 7 rfl (pc2 := 16) rfl fl_gh_10 ly_gh (by decide) rfl rfl (by omega) ?_
  refine Y_iconst 8 rfl (pc2 := 17) rfl (v := nI 0) (by decide) ?_
  refine Y_putI 9 rfl (pc2 := 20) rfl fl_gh_67 ly_ta (by decide) ⟨rfl, rfl⟩ ⟨_, _, _, rfl, rfl⟩ rfl ?_
  have hm1 : RC m1 S := h.mono (fun a ha _ => hF a (by intro z; apply ha; unfold scr; omega))
  have ht := w.tp.2
  have hop := opI_none (op := (rT S).1) (fun k e => by have := rT_le e; omega)
  have hfr : ∀ a, ¬ (a = 1 ∨ a = 3 ∨ a = 4 ∨ a = 5) → uw_ m1 1 1 (nI 0) a = m a := fun a ha => by rw [← hF a (by omega)]; funext k; exact uw_ne (by omega)
  refine Y_iload_n 10 rfl (pc2 := 21) rfl rfl ?_
  refine Y_iconst 11 rfl (pc2 := 22) rfl (v := nI 4) (by decide) ?_
  refine Y_cS 12 rfl (pc2 := 25) rfl ok_gh_isBelow lk_gh_80 vs_gh_isBelow (as := [.int _, .int _]) (rest := []) rfl rfl (T_gh_isBelow (by omega)) ?_
  rintro _ _ ⟨rfl, rfl⟩
  change Y _ _ _ _ _ [.int _] _ _
  refine Y_if_neb 13 rfl (pc2 := 28) rfl (tgt := 31) (by decide) (fun h25 => ?_) (fun h25 => ?_)
  · obtain ⟨c, hc, rfl⟩ := h25
    refine Y_iload_n 16 rfl (pc2 := 32) rfl rfl ?_
    refine Y_ldc 17 rfl (pc2 := 34) rfl kc_gh_84 ?_
    refine Y_icmp_eq 18 rfl (pc2 := 37) rfl (tgt := 42) (by decide) (fun h34 => ?_) (fun h34 => ?_)
    · have hno := hop.mp h34
      have hle := (hQ hno).2
      refine Y_aload_n 23 rfl (pc2 := 43) rfl rfl ?_
      refine Y_getR 24 rfl (pc2 := 46) rfl fl_gh_19 ly_gh (by decide) rfl rfl (by omega) ?_
      refine Y_getI 25 rfl (pc2 := 49) rfl fl_gh_85 ly_re (by decide) rfl ?_
      refine Y_top ((uw_ne (by omega)).trans (hQ hno).1.1) ?_
      refine Y_iconst 26 rfl (pc2 := 50) rfl (v := nI 2) (by decide) ?_
      refine Y_icmp_ltn 27 rfl (pc2 := 53) rfl (tgt := 65) (by decide) (by omega) (by omega) (fun h50 => ?_) (fun h50 => ?_)
      · refine Y_ldc 33 rfl (pc2 := 67) rfl kc_gh_88 ?_
        refine Y_iret 34 rfl rfl rfl ⟨rfl, ?_⟩
        exact ⟨by unfold sp_tune; rw [cI_t ⟨c, hc, rfl⟩, hno]; show _ = some (Value.int (cI _ _ _)); rw [cI_f (by omega)]; rfl, by unfold st_tune; rw [cI_f (fun e => by have z := e.2.2; omega)]; exact RC_trim hm1, fun a ha => hfr a (by omega)⟩
      · refine Y_aload_n 28 rfl (pc2 := 54) rfl rfl ?_
        refine Y_getR 29 rfl (pc2 := 57) rfl fl_gh_19 ly_gh (by decide) rfl rfl (by omega) ?_
        refine Y_getI 30 rfl (pc2 := 60) rfl fl_gh_85 ly_re (by decide) rfl ?_
        refine Y_top ((uw_ne (by omega)).trans (hQ hno).1.1) ?_
        refine Y_bipush 31 rfl (pc2 := 62) rfl (v := nI 32) (by decide) ?_
        refine Y_icmp_len 32 rfl (pc2 := 65) rfl (tgt := 68) (by decide) (by omega) (by omega) (fun h62 => ?_) (fun h62 => ?_)
        · refine Y_aload_n 35 rfl (pc2 := 69) rfl rfl ?_
          refine Y_getR 36 rfl (pc2 := 72) rfl fl_gh_25 ly_gh (by decide) rfl rfl (by omega) ?_
          refine Y_iload_n 37 rfl (pc2 := 73) rfl rfl ?_
          refine Y_aald 38 rfl (pc2 := 74) rfl ly_ghC (by decide) (fun _ => rfl) rfl (by omega) (by decide) (ly_ghC_at (by omega)) (by omega) ?_
          refine Y_aload_n 39 rfl (pc2 := 75) rfl rfl ?_
          refine Y_getR 40 rfl (pc2 := 78) rfl fl_gh_19 ly_gh (by decide) rfl rfl (by omega) ?_
          refine Y_cV 41 rfl (pc2 := 81) rfl ok_ci_become lk_gh_89 vi_ci_become (ly_ci (by omega)) rfl (by decide) rfl (as := [.ref _]) (rest := []) rfl rfl (T_ci_become hc (RQ_f2 (hQ hno).1) (by omega) (by omega) qok_rT) ?_
          rintro _ m3 ⟨rfl, hb1, hb2, hb3, hb4, hb5, hb6⟩
          change Y _ _ _ _ _ [] _ _
          refine Y_aload_n 42 rfl (pc2 := 82) rfl rfl ?_
          refine Y_getR 43 rfl (pc2 := 85) rfl fl_gh_19 ly_gh (by decide) rfl rfl (by omega) ?_
          refine Y_getI 44 rfl (pc2 := 88) rfl fl_gh_85 ly_re (by decide) rfl ?_
          refine Y_top ((congrFun (hb6 3 (by omega)) 2).trans ((uw_ne (by omega)).trans (hQ hno).1.1)) ?_
          refine Y_iret 45 rfl rfl rfl ⟨rfl, ?_⟩
          refine ⟨by unfold sp_tune; rw [cI_t ⟨c, hc, rfl⟩, hno]; show _ = some (Value.int (cI _ _ _)); rw [cI_t (by omega)], ?_, fun a ha => (hb6 a (by omega)).trans (hfr a (by omega))⟩
          unfold st_tune
          rw [cI_t ⟨⟨c, hc, rfl⟩, hno, by omega, by omega⟩, nv_nI (by omega)]
          exact RC_tune h w hc (by omega) (by omega) hb1 (fun b hb => (hb2 b hb).trans (by rw [hfr _ (by omega)])) (fun b hb => (hb3 b hb).trans (by rw [hfr _ (by omega)])) hb4 hb5 ((congrFun (hb6 1 (by omega)) 1).trans uw_same) (fun a ha ha2 => (hb6 a ha).trans (hfr a ha2))
        · refine Y_ldc 33 rfl (pc2 := 67) rfl kc_gh_88 ?_
          refine Y_iret 34 rfl rfl rfl ⟨rfl, ?_⟩
          exact ⟨by unfold sp_tune; rw [cI_t ⟨c, hc, rfl⟩, hno]; show _ = some (Value.int (cI _ _ _)); rw [cI_f (by omega)]; rfl, by unfold st_tune; rw [cI_f (fun e => by have z := e.2.2; omega)]; exact RC_trim hm1, fun a ha => hfr a (by omega)⟩
    · refine Y_bipush 19 rfl (pc2 := 39) rfl (v := -100) (by decide) ?_
      refine Y_iload_n 20 rfl (pc2 := 40) rfl rfl ?_
      refine Y_isub 21 rfl (pc2 := 41) rfl ?_
      refine Y_iret 22 rfl rfl rfl ⟨rfl, ?_⟩
      cases hr : (rT S).1 with
      | none => exact absurd (by rw [hr]; rfl) h34
      | some p => exact ⟨by unfold sp_tune; rw [cI_t ⟨c, hc, rfl⟩, hr]; rfl, by unfold st_tune; rw [cI_f (fun e => by have z := e.2.1; rw [hr] at z; cases z)]; exact RC_trim hm1, fun a ha => hfr a (by omega)⟩
  · refine Y_ldc 14 rfl (pc2 := 30) rfl kc_gh_75 ?_
    refine Y_iret 15 rfl rfl rfl ⟨rfl, ?_⟩
    exact ⟨by unfold sp_tune; rw [cI_f h25]; rfl, (by unfold st_tune; rw [cI_f (fun e => h25 e.1)]; exact RC_trim hm1), fun a ha => hfr a (by omega)⟩
end
section
/-! the reference: its cells, its first methods -/
set_option maxHeartbeats 400000 in
theorem RM.e {m S : Mm} (h : RM m S) {a k : Nat} (h1 : 154 ≤ a) (h2 : a ≤ 166) : m a k = S a k := congrFun (h.1 a h1 h2) k
set_option maxHeartbeats 400000 in
theorem RM_uw {m S : Mm} {a k : Nat} {v : Int32} (h : RM m S) (h1 : 154 ≤ a) : RM (uw_ m a k v) (uw_ S a k v) := by
  refine ⟨fun b h3 h4 => funext fun j => ?_, ?_, ?_⟩
  · by_cases e : b = a ∧ j = k
    · obtain ⟨rfl, rfl⟩ := e
      rw [uw_same, uw_same]
    · rw [uw_ne e, uw_ne e]; exact h.e h3 h4
  · rw [uw_ne (by omega), uw_ne (by omega)]; exact h.2.1
  · rw [uw_ne (by omega), uw_ne (by omega)]; exact h.2.2
set_option maxHeartbeats 400000 in
theorem RM_ur {m S : Mm} {a : Nat} {row : Nat → Int32} (h : RM m S) (h1 : 154 ≤ a) : RM (ur_ m a row) (ur_ S a row) := by
  refine ⟨fun b h3 h4 => ?_, ?_, ?_⟩
  · by_cases e : b = a
    · subst e
      funext k
      rw [ur_same, ur_same]
    · rw [ur_ne e, ur_ne e]; exact h.1 b h3 h4
  · rw [ur_ne (by omega), ur_ne (by omega)]; exact h.2.1
  · rw [ur_ne (by omega), ur_ne (by omega)]; exact h.2.2
set_option maxHeartbeats 400000 in
theorem RM_6 {m S : Mm} {v : Int32} (h : RM m S) : RM (uw_ m 153 6 v) (uw_ S 153 6 v) :=
  ⟨fun b h3 h4 => funext fun j => by rw [uw_ne (by omega), uw_ne (by omega)]; exact h.e h3 h4, by rw [uw_same, uw_same], by rw [uw_ne (by omega), uw_ne (by omega)]; exact h.2.2⟩
set_option maxHeartbeats 400000 in
theorem RM_12 {m S : Mm} {v : Int32} (h : RM m S) : RM (uw_ m 153 12 v) (uw_ S 153 12 v) :=
  ⟨fun b h3 h4 => funext fun j => by rw [uw_ne (by omega), uw_ne (by omega)]; exact h.e h3 h4, by rw [uw_ne (by omega), uw_ne (by omega)]; exact h.2.1, by rw [uw_same, uw_same]⟩
set_option maxHeartbeats 400000 in
theorem RM_s {m S : Mm} {k : Nat} {v : Int32} (h : RM m S) (h1 : ¬ k = 6) (h2 : ¬ k = 12) : RM (uw_ m 153 k v) S :=
  ⟨fun b h3 h4 => funext fun j => by rw [uw_ne (by omega)]; exact h.e h3 h4, by rw [uw_ne (by omega)]; exact h.2.1, by rw [uw_ne (by omega)]; exact h.2.2⟩
set_option maxHeartbeats 400000 in
theorem RM_h {m S : Mm} {a k : Nat} {v : Int32} (h : RM m S) (h1 : 166 < a) : RM (uw_ m a k v) S :=
  ⟨fun b h3 h4 => funext fun j => by rw [uw_ne (by omega)]; exact h.e h3 h4, by rw [uw_ne (by omega)]; exact h.2.1, by rw [uw_ne (by omega)]; exact h.2.2⟩
set_option maxHeartbeats 400000 in
theorem pm_0 {m S : Mm} {x y : Int32} (h : RM m S) (e : y = x) : pm_ x m S (some (.int y)) m := ⟨by rw [e], h, fun _ _ => rfl⟩
set_option maxHeartbeats 400000 in
theorem pm_bad {m S S2 : Mm} {x y : Int32} (h : RM m S) (e : y = x) (e2 : S2 = S) : pm_ x m S2 (some (.int y)) m := by
  rw [e2]; exact pm_0 h e
set_option maxHeartbeats 400000 in
theorem pm_u {m S : Mm} {x y : Int32} {a k : Nat} {v : Int32} (ha : 153 ≤ a) (e : y = x) (h : RM (uw_ m a k v) S) : pm_ x m S (some (.int y)) (uw_ m a k v) := ⟨by rw [e], h, fun b hb => funext fun j => uw_ne (by omega)⟩
set_option maxHeartbeats 400000 in
theorem nI_bkn {b k n : Nat} (h : k ≤ b + n) : nI b - nI k + nI n = nI (b + n - k) := by
  have e : nI (b + n - k) + nI k = nI b + nI n := by rw [nI_add, nI_add]; congr 1; omega
  rw [Int32.sub_eq_add_neg, Int32.add_assoc, Int32.add_comm (-nI k), ← Int32.add_assoc, ← e, Int32.add_assoc, Int32.add_right_neg, Int32.add_zero]
set_option maxHeartbeats 400000 in
theorem mod_1 {b k n : Nat} (hb : b < n) (h : k ≤ b) : (b + n - k) % n = b - k := by
  rw [show b + n - k = b - k + n by omega, Nat.add_mod_right, Nat.mod_eq_of_lt (by omega)]
set_option maxHeartbeats 400000 in
theorem mod_2 {b k n : Nat} (hb : b < n) (h : b < k) (h2 : k ≤ n) : (b + n - k) % n = b + n - k := Nat.mod_eq_of_lt (by omega)
/-- what the search backwards has passed -/
def bk (R : Nat → Int32) (n b k : Nat) : Prop := if k ≤ b + 1 then ln R (b + 1) = ln R (b + 1 - k) else ln R (b + 1) < 0 ∧ ln R n = ln R (n + b + 1 - k)
set_option maxHeartbeats 400000 in
theorem bk_0 {R : Nat → Int32} {n b : Nat} : bk R n b 0 := by unfold bk; rw [if_pos (by omega)]; rfl
set_option maxHeartbeats 400000 in
theorem bk_s {R : Nat → Int32} {n b k : Nat} (hb : b < n) (hk : k < n) (h : bk R n b k) (hr : R ((b + n - k) % n) < 0) : bk R n b (k + 1) := by
  unfold bk at h ⊢
  by_cases e : k ≤ b
  · rw [mod_1 hb e] at hr
    rw [if_pos (by omega)] at h ⊢
    rw [h, show b + 1 - k = (b - k) + 1 by omega, show b + 1 - (k + 1) = b - k by omega]
    exact if_pos hr
  · rw [mod_2 hb (by omega) (by omega)] at hr
    rw [if_neg (by omega)]
    by_cases e2 : k = b + 1
    · rw [if_pos (by omega)] at h
      rw [show b + 1 - k = 0 by omega] at h
      refine ⟨by rw [h]; exact (by decide : (-1 : Int32) < 0), ?_⟩
      rw [show n + b + 1 - (k + 1) = n - 1 by omega]
      have hr2 : R (n - 1) < 0 := by rw [show n - 1 = b + n - k by omega]; exact hr
      have : ln R (n - 1 + 1) = ln R (n - 1) := if_pos hr2
      rw [show n - 1 + 1 = n by omega] at this
      exact this
    · rw [if_neg (by omega)] at h
      refine ⟨h.1, ?_⟩
      rw [h.2, show n + b + 1 - k = (b + n - k) + 1 by omega, show n + b + 1 - (k + 1) = b + n - k by omega]
      exact if_pos hr
set_option maxHeartbeats 400000 in
theorem bk_y {R : Nat → Int32} {n b k : Nat} (hb : b < n) (hk : k < n) (h : bk R n b k) (hr : ¬ R ((b + n - k) % n) < 0) : toneR R n b = R ((b + n - k) % n) := by
  unfold bk at h
  unfold toneR
  by_cases e : k ≤ b
  · rw [mod_1 hb e] at hr ⊢
    rw [if_pos (by omega), show b + 1 - k = (b - k) + 1 by omega] at h
    have : ln R (b - k + 1) = R (b - k) := if_neg hr
    rw [h, this, if_neg hr]
  · rw [mod_2 hb (by omega) (by omega)] at hr ⊢
    by_cases e2 : k = b + 1
    · rw [if_pos (by omega), show b + 1 - k = 0 by omega] at h
      have h0 : ln R (b + 1) < 0 := by rw [h]; exact (by decide : (-1 : Int32) < 0)
      have hr2 : ¬ R (n - 1) < 0 := by rw [show n - 1 = b + n - k by omega]; exact hr
      have : ln R (n - 1 + 1) = R (n - 1) := if_neg hr2
      rw [show n - 1 + 1 = n by omega] at this
      rw [if_pos h0, this, if_neg hr2]
      congr 1; omega
    · rw [if_neg (by omega), show n + b + 1 - k = (b + n - k) + 1 by omega] at h
      have : ln R (b + n - k + 1) = R (b + n - k) := if_neg hr
      rw [if_pos h.1, h.2, this, if_neg hr]
set_option maxHeartbeats 400000 in
theorem bk_e {R : Nat → Int32} {n b : Nat} (hb : b < n) (h : bk R n b n) : toneR R n b = nI 0 := by
  unfold bk at h
  unfold toneR
  by_cases e : n ≤ b + 1
  · rw [if_pos e, show b + 1 - n = 0 by omega] at h
    have h0 : ln R (b + 1) < 0 := by rw [h]; exact (by decide : (-1 : Int32) < 0)
    rw [if_pos h0, show n = b + 1 by omega, if_pos h0]
  · rw [if_neg e, show n + b + 1 - n = b + 1 by omega] at h
    rw [if_pos h.1, h.2, if_pos h.1]

set_option maxHeartbeats 400000 in
theorem T_mo_isBeat {G : Nat × (Nat → Int32)} {m : Mm} {S : Mm} (h : RM m S) (w : WF S) {x y : Int32} : Y G M_mo_isBeat (0, 0) 0 (en_ M_mo_isBeat [.ref (153), .int (x), .int (y)]) [] (LAY, m) (qm_ LAY (pu_ (bI (iR x 4 ∧ iR y (bt S (nv x)))) m)) := by
  change Y _ _ _ _ [some (.ref _), some (.int _), some (.int _)] _ _ _
  refine Y_iload_n 0 rfl (pc2 := 1) rfl rfl ?_
  refine Y_cS 1 rfl (pc2 := 4) rfl ok_mo_isCircle lk_mo_66 vs_mo_isCircle (as := [.int _]) (rest := []) rfl rfl T_mo_isCircle ?_
  rintro _ _ ⟨rfl, rfl⟩
  change Y _ _ _ _ _ [.int _] _ _
  refine Y_if_eqb 2 rfl (pc2 := 7) rfl (tgt := 27) (by decide) (fun h4 => ?_) (fun h4 => ?_)
  · refine Y_iconst 15 rfl (pc2 := 28) rfl (v := nI 0) (by decide) ?_
    refine Y_iret 16 rfl rfl rfl ⟨rfl, ?_⟩
    dsimp only
    first
      | exact pu_f (fun e => h4 e.1)
      | exact pu_t ⟨⟨c, hc, rfl⟩, by rw [nv_nI (by omega)]; exact h20⟩
      | exact pu_f (fun e => h20 (by have := e.2; rw [nv_nI (by omega)] at this; exact this))
  · obtain ⟨c, hc, rfl⟩ := h4
    have hn := (w.b c hc).2
    refine Y_iload_n 3 rfl (pc2 := 8) rfl rfl ?_
    refine Y_iconst 4 rfl (pc2 := 9) rfl (v := nI 0) (by decide) ?_
    refine Y_aload_n 5 rfl (pc2 := 10) rfl rfl ?_
    refine Y_getR 6 rfl (pc2 := 13) rfl fl_mo_7 ly_mo (by decide) rfl rfl (by omega) ?_
    refine Y_iload_n 7 rfl (pc2 := 14) rfl rfl ?_
    refine Y_iald 8 rfl (pc2 := 15) rfl ly_mo_beats rfl (by omega) (by decide) ?_
    refine Y_top ((h.e (by decide) (by decide)).trans (w.b _ (by omega)).1) ?_
    refine Y_iconst 9 rfl (pc2 := 16) rfl (v := nI 1) (by decide) ?_
    refine Y_isub 10 rfl (pc2 := 17) rfl ?_
    refine Y_cS 11 rfl (pc2 := 20) rfl ok_mo_isIn lk_mo_62 vs_mo_isIn (as := [.int _, .int _, .int _]) (rest := []) rfl rfl (T_mo_isInm (by omega)) ?_
    rintro _ _ ⟨rfl, rfl⟩
    change Y _ _ _ _ _ [.int _] _ _
    refine Y_if_eqb 12 rfl (pc2 := 23) rfl (tgt := 27) (by decide) (fun h20 => ?_) (fun h20 => ?_)
    · refine Y_iconst 15 rfl (pc2 := 28) rfl (v := nI 0) (by decide) ?_
      refine Y_iret 16 rfl rfl rfl ⟨rfl, ?_⟩
      dsimp only
      first
        | exact pu_f (fun e => h4 e.1)
        | exact pu_t ⟨⟨c, hc, rfl⟩, by rw [nv_nI (by omega)]; exact h20⟩
        | exact pu_f (fun e => h20 (by have := e.2; rw [nv_nI (by omega)] at this; exact this))
    · refine Y_iconst 13 rfl (pc2 := 24) rfl (v := nI 1) (by decide) ?_
      refine Y_goto 14 rfl (pc2 := 28) (by decide) ?_
      refine Y_iret 16 rfl rfl rfl ⟨rfl, ?_⟩
      dsimp only
      first
        | exact pu_f (fun e => h4 e.1)
        | exact pu_t ⟨⟨c, hc, rfl⟩, by rw [nv_nI (by omega)]; exact h20⟩
        | exact pu_f (fun e => h20 (by have := e.2; rw [nv_nI (by omega)] at this; exact this))

set_option maxHeartbeats 400000 in
theorem L_tone {G : Nat × (Nat → Int32)} {m : Mm} {S : Mm} (h : RM m S) (w : WF S) {c b : Nat} (hc : c < 4) (hb : b < bt S c) : ∀ k, k ≤ bt S c → bk (rw_ S c) (bt S c) b k → ∀ (u : Option Value), Y G M_mo_tone (0, 0) 10 [some (.ref 153), some (.int (nI c)), some (.int (nI b)), some (.int (nI (bt S c))), some (.int (nI k)), u] [] (LAY, m) (qm_ LAY (pu_ (tone S c b) m)) := by
  have hn := (w.b c hc).2
  refine ind_ (fun k hk0 ih hk u => ?_)
  refine Y_iload 7 rfl (pc2 := 12) rfl rfl ?_
  refine Y_iload_n 8 rfl (pc2 := 13) rfl rfl ?_
  refine Y_icmp_gen 9 rfl (pc2 := 16) rfl (tgt := 50) (by decide) (by omega) (by omega) (fun h13 => ?_) (fun h13 => ?_)
  · refine Y_iconst 31 rfl (pc2 := 51) rfl (v := nI 0) (by decide) ?_
    refine Y_iret 32 rfl rfl rfl ⟨rfl, ?_⟩
    dsimp only
    exact pu_i (bk_e hb (by rw [show k = bt S c by omega] at hk; exact hk)).symm
  · have hmod : (b + bt S c - k) % bt S c < bt S c := Nat.mod_lt _ (by omega)
    refine Y_aload_n 10 rfl (pc2 := 17) rfl rfl ?_
    refine Y_getR 11 rfl (pc2 := 20) rfl fl_mo_13 ly_mo (by decide) rfl rfl (by omega) ?_
    refine Y_bipush 12 rfl (pc2 := 22) rfl (v := nI 32) (by decide) ?_
    refine Y_iload_n 13 rfl (pc2 := 23) rfl rfl ?_
    refine Y_imul 14 rfl (pc2 := 24) rfl ?_
    refine Y_top (nI_mul _ _) ?_
    refine Y_iload_n 15 rfl (pc2 := 25) rfl rfl ?_
    refine Y_iload 16 rfl (pc2 := 27) rfl rfl ?_
    refine Y_isub 17 rfl (pc2 := 28) rfl ?_
    refine Y_iload_n 18 rfl (pc2 := 29) rfl rfl ?_
    refine Y_iadd 19 rfl (pc2 := 30) rfl ?_
    refine Y_top (nI_bkn (by omega)) ?_
    refine Y_iload_n 20 rfl (pc2 := 31) rfl rfl ?_
    refine Y_irem 21 rfl (pc2 := 32) rfl (by exact nI_ne0 (by omega) (by omega)) ?_
    refine Y_top (nI_rem (by omega) (by omega)) ?_
    refine Y_iadd 22 rfl (pc2 := 33) rfl ?_
    refine Y_top (nI_add _ _) ?_
    refine Y_iald 23 rfl (pc2 := 34) rfl ly_mo_notes rfl (by omega) (by decide) ?_
    refine Y_top (h.e (by decide) (by decide)) ?_
    refine Y_istore 24 rfl (pc2 := 36) rfl (Nat.le_of_ble_eq_true rfl) (ls2 := [some (.ref _), some (.int _), some (.int _), some (.int _), some (.int _), some (.int _)]) rfl ?_
    refine Y_iload 25 rfl (pc2 := 38) rfl rfl ?_
    refine Y_if_lt 26 rfl (pc2 := 41) rfl (tgt := 44) (by decide) (fun h38 => ?_) (fun h38 => ?_)
    · refine Y_iinc 29 rfl (pc2 := 47) rfl rfl (nI_inc _ 1) (ls2 := [some (.ref _), some (.int _), some (.int _), some (.int _), some (.int _), some (.int _)]) rfl ?_
      refine Y_goto 30 rfl (pc2 := 10) (by decide) ?_
      exact ih (k + 1) (by omega) (by omega) (bk_s hb (by omega) hk h38) _
    · refine Y_iload 27 rfl (pc2 := 43) rfl rfl ?_
      refine Y_iret 28 rfl rfl rfl ⟨rfl, ?_⟩
      dsimp only
      exact pu_i (bk_y hb (by omega) hk h38).symm

set_option maxHeartbeats 400000 in
theorem T_mo_tone {G : Nat × (Nat → Int32)} {m : Mm} {S : Mm} (h : RM m S) (w : WF S) {c b : Nat} (hc : c < 4) (hb : b < bt S c) : Y G M_mo_tone (0, 0) 0 (en_ M_mo_tone [.ref (153), .int (nI c), .int (nI b)]) [] (LAY, m) (qm_ LAY (pu_ (tone S c b) m)) := by
  change Y _ _ _ _ [some (.ref _), some (.int _), some (.int _), none, none, none] _ _ _
  refine Y_aload_n 0 rfl (pc2 := 1) rfl rfl ?_
  refine Y_getR 1 rfl (pc2 := 4) rfl fl_mo_7 ly_mo (by decide) rfl rfl (by omega) ?_
  refine Y_iload_n 2 rfl (pc2 := 5) rfl rfl ?_
  refine Y_iald 3 rfl (pc2 := 6) rfl ly_mo_beats rfl (by omega) (by decide) ?_
  refine Y_top ((h.e (by decide) (by decide)).trans (w.b _ (by omega)).1) ?_
  refine Y_istore_n 4 rfl (pc2 := 7) rfl (Nat.le_of_ble_eq_true rfl) (ls2 := [some (.ref _), some (.int _), some (.int _), some (.int _), none, none]) rfl ?_
  refine Y_iconst 5 rfl (pc2 := 8) rfl (v := nI 0) (by decide) ?_
  refine Y_istore 6 rfl (pc2 := 10) rfl (Nat.le_of_ble_eq_true rfl) (ls2 := [some (.ref _), some (.int _), some (.int _), some (.int _), some (.int _), none]) rfl ?_
  exact L_tone h w hc hb 0 (Nat.zero_le _) bk_0 _

set_option maxHeartbeats 400000 in
theorem T_mo_told {G : Nat × (Nat → Int32)} {m : Mm} {S : Mm} (h : RM m S) (w : WF S) {x y z : Int32} : Y G M_mo_told (0, 0) 0 (en_ M_mo_told [.ref (153), .int (x), .int (y), .int (z)]) [] (LAY, m) (qm_ LAY (pm_ (sp_told S x y z) m S)) := by
  change Y _ _ _ _ [some (.ref _), some (.int _), some (.int _), some (.int _), none] _ _ _
  refine Y_aload_n 0 rfl (pc2 := 1) rfl rfl ?_
  refine Y_iload_n 1 rfl (pc2 := 2) rfl rfl ?_
  refine Y_iload_n 2 rfl (pc2 := 3) rfl rfl ?_
  refine Y_cV 3 rfl (pc2 := 6) rfl ok_mo_isBeat lk_mo_113 vi_mo_isBeat ly_mo rfl (by decide) rfl (as := [.int _, .int _]) (rest := []) rfl rfl (T_mo_isBeat h w) ?_
  rintro _ _ ⟨rfl, rfl⟩
  change Y _ _ _ _ _ [.int _] _ _
  refine Y_if_eqb 4 rfl (pc2 := 9) rfl (tgt := 18) (by decide) (fun h6 => ?_) (fun h6 => ?_)
  · refine Y_ldc 10 rfl (pc2 := 20) rfl kc_mo_79 ?_
    refine Y_iret 11 rfl rfl rfl ⟨rfl, ?_⟩
    dsimp only
    first | exact pm_0 h (by unfold sp_told; rw [cI_f (fun e => h6 ⟨e.1, e.2.1⟩)]; rfl) | exact pm_0 h (by unfold sp_told; rw [cI_f (fun e => h15 e.2.2)]; rfl)
  · refine Y_iload_n 5 rfl (pc2 := 10) rfl rfl ?_
    refine Y_iconst 6 rfl (pc2 := 11) rfl (v := nI 0) (by decide) ?_
    refine Y_iconst 7 rfl (pc2 := 12) rfl (v := nI 2) (by decide) ?_
    refine Y_cS 8 rfl (pc2 := 15) rfl ok_mo_isIn lk_mo_62 vs_mo_isIn (as := [.int _, .int _, .int _]) (rest := []) rfl rfl (T_mo_isIn0 (by omega)) ?_
    rintro _ _ ⟨rfl, rfl⟩
    change Y _ _ _ _ _ [.int _] _ _
    refine Y_if_neb 9 rfl (pc2 := 18) rfl (tgt := 21) (by decide) (fun h15 => ?_) (fun h15 => ?_)
    · obtain ⟨⟨c, hc, rfl⟩, hy⟩ := h6
      rw [nv_nI (by omega)] at hy
      obtain ⟨b, hb, rfl⟩ := hy
      have hn := (w.b c hc).2
      obtain ⟨k, hk, rfl⟩ := h15
      refine Y_bipush 12 rfl (pc2 := 23) rfl (v := nI 32) (by decide) ?_
      refine Y_iload_n 13 rfl (pc2 := 24) rfl rfl ?_
      refine Y_imul 14 rfl (pc2 := 25) rfl ?_
      refine Y_top (nI_mul _ _) ?_
      refine Y_iload_n 15 rfl (pc2 := 26) rfl rfl ?_
      refine Y_iadd 16 rfl (pc2 := 27) rfl ?_
      refine Y_top (nI_add _ _) ?_
      refine Y_istore 17 rfl (pc2 := 29) rfl (Nat.le_of_ble_eq_true rfl) (ls2 := [some (.ref _), some (.int _), some (.int _), some (.int _), some (.int _)]) rfl ?_
      refine Y_iload_n 18 rfl (pc2 := 30) rfl rfl ?_
      refine Y_if_nen 19 rfl (pc2 := 33) rfl (tgt := 46) (by decide) (by omega) (fun h30 => ?_) (fun h30 => ?_)
      · refine Y_iload_n 26 rfl (pc2 := 47) rfl rfl ?_
        refine Y_iconst 27 rfl (pc2 := 48) rfl (v := nI 1) (by decide) ?_
        refine Y_icmp_nen 28 rfl (pc2 := 51) rfl (tgt := 60) (by decide) (by omega) (by omega) (fun h48 => ?_) (fun h48 => ?_)
        · refine Y_aload_n 34 rfl (pc2 := 61) rfl rfl ?_
          refine Y_getR 35 rfl (pc2 := 64) rfl fl_mo_16 ly_mo (by decide) rfl rfl (by omega) ?_
          refine Y_iload 36 rfl (pc2 := 66) rfl rfl ?_
          refine Y_iald 37 rfl (pc2 := 67) rfl ly_mo_gongs rfl (by omega) (by decide) ?_
          refine Y_top (h.e (by decide) (by decide)) ?_
          refine Y_cS 38 rfl (pc2 := 70) rfl ok_mo_orNone lk_mo_117 vs_mo_orNone (as := [.int _]) (rest := []) rfl rfl T_mo_orNone ?_
          rintro _ _ ⟨rfl, rfl⟩
          change Y _ _ _ _ _ [.int _] _ _
          refine Y_iret 39 rfl rfl rfl ⟨rfl, ?_⟩
          dsimp only
          first
            | exact pm_0 h (by unfold sp_told; rw [cI_t ⟨⟨c, hc, rfl⟩, by rw [nv_nI (by omega)]; exact ⟨b, hb, rfl⟩, ⟨k, hk, rfl⟩⟩, nv_nI (k := c) (by omega), nv_nI (k := b) (by omega)]; rw [if_pos (show nI k = nI 0 by rw [h30])]; rfl)
            | exact pm_0 h (by unfold sp_told; rw [cI_t ⟨⟨c, hc, rfl⟩, by rw [nv_nI (by omega)]; exact ⟨b, hb, rfl⟩, ⟨k, hk, rfl⟩⟩, nv_nI (k := c) (by omega), nv_nI (k := b) (by omega)]; rw [if_neg (show ¬ nI k = nI 0 from fun e => h30 ((nI_eq (by omega) (by decide)).mp e)), if_pos (show nI k = nI 1 by rw [show k = 1 by omega])])
            | exact pm_0 h (by unfold sp_told; rw [cI_t ⟨⟨c, hc, rfl⟩, by rw [nv_nI (by omega)]; exact ⟨b, hb, rfl⟩, ⟨k, hk, rfl⟩⟩, nv_nI (k := c) (by omega), nv_nI (k := b) (by omega)]; rw [if_neg (show ¬ nI k = nI 0 from fun e => h30 ((nI_eq (by omega) (by decide)).mp e)), if_neg (show ¬ nI k = nI 1 from fun e => h48 ((nI_eq (by omega) (by decide)).mp e))]; rfl)
        · refine Y_aload_n 29 rfl (pc2 := 52) rfl rfl ?_
          refine Y_iload_n 30 rfl (pc2 := 53) rfl rfl ?_
          refine Y_iload_n 31 rfl (pc2 := 54) rfl rfl ?_
          refine Y_cV 32 rfl (pc2 := 57) rfl ok_mo_tone lk_mo_120 vi_mo_tone ly_mo rfl (by decide) rfl (as := [.int _, .int _]) (rest := []) rfl rfl (T_mo_tone h w (by omega) (by omega)) ?_
          rintro _ _ ⟨rfl, rfl⟩
          change Y _ _ _ _ _ [.int _] _ _
          refine Y_goto 33 rfl (pc2 := 70) (by decide) ?_
          refine Y_iret 39 rfl rfl rfl ⟨rfl, ?_⟩
          dsimp only
          first
            | exact pm_0 h (by unfold sp_told; rw [cI_t ⟨⟨c, hc, rfl⟩, by rw [nv_nI (by omega)]; exact ⟨b, hb, rfl⟩, ⟨k, hk, rfl⟩⟩, nv_nI (k := c) (by omega), nv_nI (k := b) (by omega)]; rw [if_pos (show nI k = nI 0 by rw [h30])]; rfl)
            | exact pm_0 h (by unfold sp_told; rw [cI_t ⟨⟨c, hc, rfl⟩, by rw [nv_nI (by omega)]; exact ⟨b, hb, rfl⟩, ⟨k, hk, rfl⟩⟩, nv_nI (k := c) (by omega), nv_nI (k := b) (by omega)]; rw [if_neg (show ¬ nI k = nI 0 from fun e => h30 ((nI_eq (by omega) (by decide)).mp e)), if_pos (show nI k = nI 1 by rw [show k = 1 by omega])])
            | exact pm_0 h (by unfold sp_told; rw [cI_t ⟨⟨c, hc, rfl⟩, by rw [nv_nI (by omega)]; exact ⟨b, hb, rfl⟩, ⟨k, hk, rfl⟩⟩, nv_nI (k := c) (by omega), nv_nI (k := b) (by omega)]; rw [if_neg (show ¬ nI k = nI 0 from fun e => h30 ((nI_eq (by omega) (by decide)).mp e)), if_neg (show ¬ nI k = nI 1 from fun e => h48 ((nI_eq (by omega) (by decide)).mp e))]; rfl)
      · refine Y_aload_n 20 rfl (pc2 := 34) rfl rfl ?_
        refine Y_getR 21 rfl (pc2 := 37) rfl fl_mo_13 ly_mo (by decide) rfl rfl (by omega) ?_
        refine Y_iload 22 rfl (pc2 := 39) rfl rfl ?_
        refine Y_iald 23 rfl (pc2 := 40) rfl ly_mo_notes rfl (by omega) (by decide) ?_
        refine Y_top (h.e (by decide) (by decide)) ?_
        refine Y_cS 24 rfl (pc2 := 43) rfl ok_mo_orNone lk_mo_117 vs_mo_orNone (as := [.int _]) (rest := []) rfl rfl T_mo_orNone ?_
        rintro _ _ ⟨rfl, rfl⟩
        change Y _ _ _ _ _ [.int _] _ _
        refine Y_goto 25 rfl (pc2 := 70) (by decide) ?_
        refine Y_iret 39 rfl rfl rfl ⟨rfl, ?_⟩
        dsimp only
        first
          | exact pm_0 h (by unfold sp_told; rw [cI_t ⟨⟨c, hc, rfl⟩, by rw [nv_nI (by omega)]; exact ⟨b, hb, rfl⟩, ⟨k, hk, rfl⟩⟩, nv_nI (k := c) (by omega), nv_nI (k := b) (by omega)]; rw [if_pos (show nI k = nI 0 by rw [h30])]; rfl)
          | exact pm_0 h (by unfold sp_told; rw [cI_t ⟨⟨c, hc, rfl⟩, by rw [nv_nI (by omega)]; exact ⟨b, hb, rfl⟩, ⟨k, hk, rfl⟩⟩, nv_nI (k := c) (by omega), nv_nI (k := b) (by omega)]; rw [if_neg (show ¬ nI k = nI 0 from fun e => h30 ((nI_eq (by omega) (by decide)).mp e)), if_pos (show nI k = nI 1 by rw [show k = 1 by omega])])
          | exact pm_0 h (by unfold sp_told; rw [cI_t ⟨⟨c, hc, rfl⟩, by rw [nv_nI (by omega)]; exact ⟨b, hb, rfl⟩, ⟨k, hk, rfl⟩⟩, nv_nI (k := c) (by omega), nv_nI (k := b) (by omega)]; rw [if_neg (show ¬ nI k = nI 0 from fun e => h30 ((nI_eq (by omega) (by decide)).mp e)), if_neg (show ¬ nI k = nI 1 from fun e => h48 ((nI_eq (by omega) (by decide)).mp e))]; rfl)
    · refine Y_ldc 10 rfl (pc2 := 20) rfl kc_mo_79 ?_
      refine Y_iret 11 rfl rfl rfl ⟨rfl, ?_⟩
      dsimp only
      first | exact pm_0 h (by unfold sp_told; rw [cI_f (fun e => h6 ⟨e.1, e.2.1⟩)]; rfl) | exact pm_0 h (by unfold sp_told; rw [cI_f (fun e => h15 e.2.2)]; rfl)

set_option maxHeartbeats 400000 in
theorem T_mo_isOf {G : Nat × (Nat → Int32)} {m : Mm} {S : Mm} (h : RM m S) (w : WF S) {x y z : Int32} : Y G M_mo_isOf (0, 0) 0 (en_ M_mo_isOf [.ref (153), .int (x), .int (y), .int (z)]) [] (LAY, m) (qm_ LAY (pm_ (sp_isOf S x y z) m S)) := by
  change Y _ _ _ _ [some (.ref _), some (.int _), some (.int _), some (.int _), none] _ _ _
  refine Y_aload_n 0 rfl (pc2 := 1) rfl rfl ?_
  refine Y_iload_n 1 rfl (pc2 := 2) rfl rfl ?_
  refine Y_iload_n 2 rfl (pc2 := 3) rfl rfl ?_
  refine Y_cV 3 rfl (pc2 := 6) rfl ok_mo_isBeat lk_mo_113 vi_mo_isBeat ly_mo rfl (by decide) rfl (as := [.int _, .int _]) (rest := []) rfl rfl (T_mo_isBeat h w) ?_
  rintro _ _ ⟨rfl, rfl⟩
  change Y _ _ _ _ _ [.int _] _ _
  refine Y_if_eqb 4 rfl (pc2 := 9) rfl (tgt := 18) (by decide) (fun h6 => ?_) (fun h6 => ?_)
  · refine Y_ldc 10 rfl (pc2 := 20) rfl kc_mo_79 ?_
    refine Y_iret 11 rfl rfl rfl ⟨rfl, ?_⟩
    dsimp only
    first | exact pm_0 h (by unfold sp_isOf; rw [cI_f (fun e => h6 ⟨e.1, e.2.1⟩)]; rfl) | exact pm_0 h (by unfold sp_isOf; rw [cI_f (fun e => h15 e.2.2)]; rfl)
  · refine Y_iload_n 5 rfl (pc2 := 10) rfl rfl ?_
    refine Y_iconst 6 rfl (pc2 := 11) rfl (v := nI 0) (by decide) ?_
    refine Y_iconst 7 rfl (pc2 := 12) rfl (v := nI 3) (by decide) ?_
    refine Y_cS 8 rfl (pc2 := 15) rfl ok_mo_isIn lk_mo_62 vs_mo_isIn (as := [.int _, .int _, .int _]) (rest := []) rfl rfl (T_mo_isIn0 (by omega)) ?_
    rintro _ _ ⟨rfl, rfl⟩
    change Y _ _ _ _ _ [.int _] _ _
    refine Y_if_neb 9 rfl (pc2 := 18) rfl (tgt := 21) (by decide) (fun h15 => ?_) (fun h15 => ?_)
    · obtain ⟨⟨c, hc, rfl⟩, hy⟩ := h6
      rw [nv_nI (by omega)] at hy
      obtain ⟨b, hb, rfl⟩ := hy
      have hn := (w.b c hc).2
      obtain ⟨k, hk, rfl⟩ := h15
      have hor := w.g (32 * c + b) (by omega)
      refine Y_aload_n 12 rfl (pc2 := 22) rfl rfl ?_
      refine Y_getR 13 rfl (pc2 := 25) rfl fl_mo_16 ly_mo (by decide) rfl rfl (by omega) ?_
      refine Y_bipush 14 rfl (pc2 := 27) rfl (v := nI 32) (by decide) ?_
      refine Y_iload_n 15 rfl (pc2 := 28) rfl rfl ?_
      refine Y_imul 16 rfl (pc2 := 29) rfl ?_
      refine Y_top (nI_mul _ _) ?_
      refine Y_iload_n 17 rfl (pc2 := 30) rfl rfl ?_
      refine Y_iadd 18 rfl (pc2 := 31) rfl ?_
      refine Y_top (nI_add _ _) ?_
      refine Y_iald 19 rfl (pc2 := 32) rfl ly_mo_gongs rfl (by omega) (by decide) ?_
      refine Y_top (h.e (by decide) (by decide)) ?_
      refine Y_istore 20 rfl (pc2 := 34) rfl (Nat.le_of_ble_eq_true rfl) (ls2 := [some (.ref _), some (.int _), some (.int _), some (.int _), some (.int _)]) rfl ?_
      refine Y_iload 21 rfl (pc2 := 36) rfl rfl ?_
      refine Y_if_ge 22 rfl (pc2 := 39) rfl (tgt := 42) (by decide) (fun h36 => ?_) (fun h36 => ?_)
      · rcases hor with e0 | ⟨g, hg, e0⟩
        · exact absurd (by rw [e0]; decide) (Int32.not_lt.mpr h36)
        rw [e0]
        refine Y_iload_n 25 rfl (pc2 := 43) rfl rfl ?_
        refine Y_if_eqn 26 rfl (pc2 := 46) rfl (tgt := 63) (by decide) (by omega) (fun h43 => ?_) (fun h43 => ?_)
        · refine Y_iconst 36 rfl (pc2 := 64) rfl (v := nI 1) (by decide) ?_
          refine Y_goto 37 rfl (pc2 := 68) (by decide) ?_
          refine Y_iret 39 rfl rfl rfl ⟨rfl, ?_⟩
          dsimp only
          exact pm_0 h (by unfold sp_isOf; rw [cI_t ⟨⟨c, hc, rfl⟩, by rw [nv_nI (by omega)]; exact ⟨b, hb, rfl⟩, ⟨k, hk, rfl⟩⟩, nv_nI (k := c) (by omega), nv_nI (k := b) (by omega)]; rw [if_neg (Int32.not_lt.mpr h36), e0, nv_nI (by omega), nv_nI (by omega)]; first | (rw [bI_t (by omega)]; rfl) | (rw [bI_f (by omega)]; rfl))
        · refine Y_iload 27 rfl (pc2 := 48) rfl rfl ?_
          refine Y_iload_n 28 rfl (pc2 := 49) rfl rfl ?_
          refine Y_icmp_eqn 29 rfl (pc2 := 52) rfl (tgt := 63) (by decide) (by omega) (by omega) (fun h49 => ?_) (fun h49 => ?_)
          · refine Y_iconst 36 rfl (pc2 := 64) rfl (v := nI 1) (by decide) ?_
            refine Y_goto 37 rfl (pc2 := 68) (by decide) ?_
            refine Y_iret 39 rfl rfl rfl ⟨rfl, ?_⟩
            dsimp only
            exact pm_0 h (by unfold sp_isOf; rw [cI_t ⟨⟨c, hc, rfl⟩, by rw [nv_nI (by omega)]; exact ⟨b, hb, rfl⟩, ⟨k, hk, rfl⟩⟩, nv_nI (k := c) (by omega), nv_nI (k := b) (by omega)]; rw [if_neg (Int32.not_lt.mpr h36), e0, nv_nI (by omega), nv_nI (by omega)]; first | (rw [bI_t (by omega)]; rfl) | (rw [bI_f (by omega)]; rfl))
          · refine Y_iload_n 30 rfl (pc2 := 53) rfl rfl ?_
            refine Y_iconst 31 rfl (pc2 := 54) rfl (v := nI 2) (by decide) ?_
            refine Y_icmp_nen 32 rfl (pc2 := 57) rfl (tgt := 67) (by decide) (by omega) (by omega) (fun h54 => ?_) (fun h54 => ?_)
            · refine Y_iconst 38 rfl (pc2 := 68) rfl (v := nI 0) (by decide) ?_
              refine Y_iret 39 rfl rfl rfl ⟨rfl, ?_⟩
              dsimp only
              exact pm_0 h (by unfold sp_isOf; rw [cI_t ⟨⟨c, hc, rfl⟩, by rw [nv_nI (by omega)]; exact ⟨b, hb, rfl⟩, ⟨k, hk, rfl⟩⟩, nv_nI (k := c) (by omega), nv_nI (k := b) (by omega)]; rw [if_neg (Int32.not_lt.mpr h36), e0, nv_nI (by omega), nv_nI (by omega)]; first | (rw [bI_t (by omega)]; rfl) | (rw [bI_f (by omega)]; rfl))
            · refine Y_iload 33 rfl (pc2 := 59) rfl rfl ?_
              refine Y_iconst 34 rfl (pc2 := 60) rfl (v := nI 3) (by decide) ?_
              refine Y_icmp_nen 35 rfl (pc2 := 63) rfl (tgt := 67) (by decide) (by omega) (by omega) (fun h60 => ?_) (fun h60 => ?_)
              · refine Y_iconst 38 rfl (pc2 := 68) rfl (v := nI 0) (by decide) ?_
                refine Y_iret 39 rfl rfl rfl ⟨rfl, ?_⟩
                dsimp only
                exact pm_0 h (by unfold sp_isOf; rw [cI_t ⟨⟨c, hc, rfl⟩, by rw [nv_nI (by omega)]; exact ⟨b, hb, rfl⟩, ⟨k, hk, rfl⟩⟩, nv_nI (k := c) (by omega), nv_nI (k := b) (by omega)]; rw [if_neg (Int32.not_lt.mpr h36), e0, nv_nI (by omega), nv_nI (by omega)]; first | (rw [bI_t (by omega)]; rfl) | (rw [bI_f (by omega)]; rfl))
              · refine Y_iconst 36 rfl (pc2 := 64) rfl (v := nI 1) (by decide) ?_
                refine Y_goto 37 rfl (pc2 := 68) (by decide) ?_
                refine Y_iret 39 rfl rfl rfl ⟨rfl, ?_⟩
                dsimp only
                exact pm_0 h (by unfold sp_isOf; rw [cI_t ⟨⟨c, hc, rfl⟩, by rw [nv_nI (by omega)]; exact ⟨b, hb, rfl⟩, ⟨k, hk, rfl⟩⟩, nv_nI (k := c) (by omega), nv_nI (k := b) (by omega)]; rw [if_neg (Int32.not_lt.mpr h36), e0, nv_nI (by omega), nv_nI (by omega)]; first | (rw [bI_t (by omega)]; rfl) | (rw [bI_f (by omega)]; rfl))
      · refine Y_ldc 23 rfl (pc2 := 41) rfl kc_mo_111 ?_
        refine Y_iret 24 rfl rfl rfl ⟨rfl, ?_⟩
        dsimp only
        exact pm_0 h (by unfold sp_isOf; rw [cI_t ⟨⟨c, hc, rfl⟩, by rw [nv_nI (by omega)]; exact ⟨b, hb, rfl⟩, ⟨k, hk, rfl⟩⟩, nv_nI (k := c) (by omega), nv_nI (k := b) (by omega)]; rw [if_pos (Int32.not_le.mp h36)]; rfl)
    · refine Y_ldc 10 rfl (pc2 := 20) rfl kc_mo_79 ?_
      refine Y_iret 11 rfl rfl rfl ⟨rfl, ?_⟩
      dsimp only
      first | exact pm_0 h (by unfold sp_isOf; rw [cI_f (fun e => h6 ⟨e.1, e.2.1⟩)]; rfl) | exact pm_0 h (by unfold sp_isOf; rw [cI_f (fun e => h15 e.2.2)]; rfl)

set_option maxHeartbeats 400000 in
theorem T_mo_doesStrike {G : Nat × (Nat → Int32)} {m : Mm} {S : Mm} (h : RM m S) (w : WF S) {l f g s : Nat} (hl : l < 4) (hf : f < 6) (hg : g < 2) (hs : s < 16) : Y G M_mo_doesStrike (0, 0) 0 (en_ M_mo_doesStrike [.ref (153), .int (nI l), .int (nI f), .int (nI g), .int (nI s)]) [] (LAY, m) (qm_ LAY (pu_ (bI (¬ S 157 (ix l f g s) = -9)) m)) := by
  change Y _ _ _ _ [some (.ref _), some (.int _), some (.int _), some (.int _), some (.int _)] _ _ _
  refine Y_aload_n 0 rfl (pc2 := 1) rfl rfl ?_
  refine Y_getR 1 rfl (pc2 := 4) rfl fl_mo_19 ly_mo (by decide) rfl rfl (by omega) ?_
  refine Y_iload_n 2 rfl (pc2 := 5) rfl rfl ?_
  refine Y_iload_n 3 rfl (pc2 := 6) rfl rfl ?_
  refine Y_iload_n 4 rfl (pc2 := 7) rfl rfl ?_
  refine Y_iload 5 rfl (pc2 := 9) rfl rfl ?_
  refine Y_cS 6 rfl (pc2 := 12) rfl ok_mo_placeOf lk_mo_130 vs_mo_placeOf (as := [.int _, .int _, .int _, .int _]) (rest := [.ref _]) rfl rfl T_mo_placeOf ?_
  rintro _ _ ⟨rfl, rfl⟩
  change Y _ _ _ _ _ [.int _, .ref _] _ _
  refine Y_iald 7 rfl (pc2 := 13) rfl ly_mo_shifts rfl (by omega) (by decide) ?_
  refine Y_top (h.e (by decide) (by decide)) ?_
  refine Y_bipush 8 rfl (pc2 := 15) rfl (v := -9) (by decide) ?_
  refine Y_icmp_eq 9 rfl (pc2 := 18) rfl (tgt := 22) (by decide) (fun h15 => ?_) (fun h15 => ?_)
  · refine Y_iconst 12 rfl (pc2 := 23) rfl (v := nI 0) (by decide) ?_
    refine Y_iret 13 rfl rfl rfl ⟨rfl, ?_⟩
    dsimp only
    first | exact pu_t h15 | exact pu_f (not_not_intro h15)
  · refine Y_iconst 10 rfl (pc2 := 19) rfl (v := nI 1) (by decide) ?_
    refine Y_goto 11 rfl (pc2 := 23) (by decide) ?_
    refine Y_iret 13 rfl rfl rfl ⟨rfl, ?_⟩
    dsimp only
    first | exact pu_t h15 | exact pu_f (not_not_intro h15)

noncomputable def wM (S : Mm) (l f : Nat) : Int32 := cI (wS S l f < 2 ^ (l + 1)) (nI (wS S l f)) (-1)
set_option maxHeartbeats 400000 in
theorem wM_O {S : Mm} {l f : Nat} (hl : l < 4) : (if wM S l f < 0 then NONE_ else wM S l f) = wO S l f := by
  have hz := sz_16 hl
  unfold wM wO
  by_cases e : wS S l f < 2 ^ (l + 1)
  · rw [cI_t e, cI_t e, if_neg (nI_pos (by omega))]
  · rw [cI_f e, cI_f e, if_pos (by decide)]
set_option maxHeartbeats 400000 in
theorem wM_neg {S : Mm} {l f : Nat} (hl : l < 4) : wM S l f < 0 ↔ wS S l f = 2 ^ (l + 1) := by
  have hz := sz_16 hl
  have h1 : wS S l f ≤ 2 ^ (l + 1) := fst_le _
  unfold wM
  by_cases e : wS S l f < 2 ^ (l + 1)
  · rw [cI_t e]
    exact ⟨fun q => absurd q (nI_pos (by omega)), fun q => by omega⟩
  · rw [cI_f e]
    exact ⟨fun _ => by omega, fun _ => by decide⟩

set_option maxHeartbeats 400000 in
theorem L_wrongM {G : Nat × (Nat → Int32)} {m : Mm} {S : Mm} (h : RM m S) (w : WF S) {l f : Nat} (hl : l < 4) (hf : f < 6) : ∀ i, i ≤ 2 ^ (l + 1) → (∀ j, j < i → ¬ wr S l f j) → ∀ (u v : Option Value), Y G M_mo_wrongStep (0, 0) 2 [some (.ref 153), some (.int (nI l)), some (.int (nI f)), some (.int (nI i)), u, v] [] (LAY, m) (qm_ LAY (pu_ (wM S l f) m)) := by
  have hz := sz_16 hl
  refine ind_ (fun i hi ih hw u v => ?_)
  refine Y_iload_n 2 rfl (pc2 := 3) rfl rfl ?_
  refine Y_iload_n 3 rfl (pc2 := 4) rfl rfl ?_
  refine Y_cS 4 rfl (pc2 := 7) rfl ok_mo_stepsOf lk_mo_127 vs_mo_stepsOf (as := [.int _]) (rest := [.int _]) rfl rfl (T_mo_stepsOf (by omega)) ?_
  rintro _ _ ⟨rfl, rfl⟩
  change Y _ _ _ _ _ [.int _, .int _] _ _
  refine Y_icmp_gen 5 rfl (pc2 := 10) rfl (tgt := 77) (by decide) (by omega) (by omega) (fun h7 => ?_) (fun h7 => ?_)
  · refine Y_iconst 45 rfl (pc2 := 78) rfl (v := -1) (by decide) ?_
    refine Y_iret 46 rfl rfl rfl ⟨rfl, ?_⟩
    dsimp only
    exact pu_i (by unfold wM; have e := wO_no (S := S) (l := l) (f := f) (fun j hj => hw j (by omega)); rw [e, cI_f (by omega)])
  · refine Y_aload_n 6 rfl (pc2 := 11) rfl rfl ?_
    refine Y_iload_n 7 rfl (pc2 := 12) rfl rfl ?_
    refine Y_iload_n 8 rfl (pc2 := 13) rfl rfl ?_
    refine Y_iconst 9 rfl (pc2 := 14) rfl (v := nI 0) (by decide) ?_
    refine Y_iload_n 10 rfl (pc2 := 15) rfl rfl ?_
    refine Y_cV 11 rfl (pc2 := 18) rfl ok_mo_doesStrike lk_mo_139 vi_mo_doesStrike ly_mo rfl (by decide) rfl (as := [.int _, .int _, .int _, .int _]) (rest := []) rfl rfl (T_mo_doesStrike h w (by omega) (by omega) (by omega) (by omega)) ?_
    rintro _ _ ⟨rfl, rfl⟩
    change Y _ _ _ _ _ [.int _] _ _
    refine Y_istore 12 rfl (pc2 := 20) rfl (Nat.le_of_ble_eq_true rfl) (ls2 := [some (.ref _), some (.int _), some (.int _), some (.int _), some (.int _), _]) rfl ?_
    refine Y_aload_n 13 rfl (pc2 := 21) rfl rfl ?_
    refine Y_iload_n 14 rfl (pc2 := 22) rfl rfl ?_
    refine Y_iload_n 15 rfl (pc2 := 23) rfl rfl ?_
    refine Y_iconst 16 rfl (pc2 := 24) rfl (v := nI 1) (by decide) ?_
    refine Y_iload_n 17 rfl (pc2 := 25) rfl rfl ?_
    refine Y_cV 18 rfl (pc2 := 28) rfl ok_mo_doesStrike lk_mo_139 vi_mo_doesStrike ly_mo rfl (by decide) rfl (as := [.int _, .int _, .int _, .int _]) (rest := []) rfl rfl (T_mo_doesStrike h w (by omega) (by omega) (by omega) (by omega)) ?_
    rintro _ _ ⟨rfl, rfl⟩
    change Y _ _ _ _ _ [.int _] _ _
    refine Y_istore 19 rfl (pc2 := 30) rfl (Nat.le_of_ble_eq_true rfl) (ls2 := [some (.ref _), some (.int _), some (.int _), some (.int _), some (.int _), some (.int _)]) rfl ?_
    refine Y_iload 20 rfl (pc2 := 32) rfl rfl ?_
    refine Y_if_neb 21 rfl (pc2 := 35) rfl (tgt := 40) (by decide) (fun h32 => ?_) (fun h32 => ?_)
    · refine Y_iload 24 rfl (pc2 := 42) rfl rfl ?_
      refine Y_if_eqb 25 rfl (pc2 := 45) rfl (tgt := 71) (by decide) (fun h42 => ?_) (fun h42 => ?_)
      · refine Y_iinc 43 rfl (pc2 := 74) rfl rfl (nI_inc _ 1) (ls2 := [some (.ref _), some (.int _), some (.int _), some (.int _), some (.int _), some (.int _)]) rfl ?_
        refine Y_goto 44 rfl (pc2 := 2) (by decide) ?_
        exact ih (i + 1) (by omega) (by omega) (fun j hj => if e : j < i then hw j e else by
          rw [show j = i by omega]
          rintro (⟨e1, e2⟩ | ⟨e1, e2, e3⟩)
          · first | exact absurd e1 (by assumption) | exact absurd e2 (by assumption)
          · first | exact absurd (by assumption) e1 | exact absurd e3 (by assumption) | exact (by assumption : ¬ ¬ _) e1 | exact (by assumption : ¬ ¬ _) e2) _ _
      · refine Y_iload 26 rfl (pc2 := 47) rfl rfl ?_
        refine Y_if_eqb 27 rfl (pc2 := 50) rfl (tgt := 71) (by decide) (fun h47 => ?_) (fun h47 => ?_)
        · refine Y_iinc 43 rfl (pc2 := 74) rfl rfl (nI_inc _ 1) (ls2 := [some (.ref _), some (.int _), some (.int _), some (.int _), some (.int _), some (.int _)]) rfl ?_
          refine Y_goto 44 rfl (pc2 := 2) (by decide) ?_
          exact ih (i + 1) (by omega) (by omega) (fun j hj => if e : j < i then hw j e else by
            rw [show j = i by omega]
            rintro (⟨e1, e2⟩ | ⟨e1, e2, e3⟩)
            · first | exact absurd e1 (by assumption) | exact absurd e2 (by assumption)
            · first | exact absurd (by assumption) e1 | exact absurd e3 (by assumption) | exact (by assumption : ¬ ¬ _) e1 | exact (by assumption : ¬ ¬ _) e2) _ _
        · refine Y_aload_n 28 rfl (pc2 := 51) rfl rfl ?_
          refine Y_getR 29 rfl (pc2 := 54) rfl fl_mo_22 ly_mo (by decide) rfl rfl (by omega) ?_
          refine Y_bipush 30 rfl (pc2 := 56) rfl (v := nI 16) (by decide) ?_
          refine Y_bipush 31 rfl (pc2 := 58) rfl (v := nI 6) (by decide) ?_
          refine Y_iload_n 32 rfl (pc2 := 59) rfl rfl ?_
          refine Y_imul 33 rfl (pc2 := 60) rfl ?_
          refine Y_top (nI_mul _ _) ?_
          refine Y_iload_n 34 rfl (pc2 := 61) rfl rfl ?_
          refine Y_iadd 35 rfl (pc2 := 62) rfl ?_
          refine Y_top (nI_add _ _) ?_
          refine Y_imul 36 rfl (pc2 := 63) rfl ?_
          refine Y_top (nI_mul _ _) ?_
          refine Y_iload_n 37 rfl (pc2 := 64) rfl rfl ?_
          refine Y_iadd 38 rfl (pc2 := 65) rfl ?_
          refine Y_top (nI_add _ _) ?_
          refine Y_zald 39 rfl (pc2 := 66) rfl ly_mo_may rfl (by omega) (by decide) ?_
          refine Y_top (h.e (by decide) (by decide)) ?_
          refine Y_if_ne 40 rfl (pc2 := 69) rfl (tgt := 71) (by decide) (fun h66 => ?_) (fun h66 => ?_)
          · refine Y_iinc 43 rfl (pc2 := 74) rfl rfl (nI_inc _ 1) (ls2 := [some (.ref _), some (.int _), some (.int _), some (.int _), some (.int _), some (.int _)]) rfl ?_
            refine Y_goto 44 rfl (pc2 := 2) (by decide) ?_
            exact ih (i + 1) (by omega) (by omega) (fun j hj => if e : j < i then hw j e else by
              rw [show j = i by omega]
              rintro (⟨e1, e2⟩ | ⟨e1, e2, e3⟩)
              · first | exact absurd e1 (by assumption) | exact absurd e2 (by assumption)
              · first | exact absurd (by assumption) e1 | exact absurd e3 (by assumption) | exact (by assumption : ¬ ¬ _) e1 | exact (by assumption : ¬ ¬ _) e2) _ _
          · refine Y_iload_n 41 rfl (pc2 := 70) rfl rfl ?_
            refine Y_iret 42 rfl rfl rfl ⟨rfl, ?_⟩
            dsimp only
            exact pu_i (by unfold wM; have e := wO_is (l := l) (f := f) hw (by first | exact Or.inl ⟨Classical.byContradiction h32, Classical.byContradiction h37⟩ | exact Or.inr ⟨h42, h47, h66⟩) (by omega); rw [e, cI_t (by omega)])
    · refine Y_iload 22 rfl (pc2 := 37) rfl rfl ?_
      refine Y_if_eqb 23 rfl (pc2 := 40) rfl (tgt := 69) (by decide) (fun h37 => ?_) (fun h37 => ?_)
      · refine Y_iload_n 41 rfl (pc2 := 70) rfl rfl ?_
        refine Y_iret 42 rfl rfl rfl ⟨rfl, ?_⟩
        dsimp only
        exact pu_i (by unfold wM; have e := wO_is (l := l) (f := f) hw (by first | exact Or.inl ⟨Classical.byContradiction h32, Classical.byContradiction h37⟩ | exact Or.inr ⟨h42, h47, h66⟩) (by omega); rw [e, cI_t (by omega)])
      · refine Y_iload 24 rfl (pc2 := 42) rfl rfl ?_
        refine Y_if_eqb 25 rfl (pc2 := 45) rfl (tgt := 71) (by decide) (fun h42 => ?_) (fun h42 => ?_)
        · refine Y_iinc 43 rfl (pc2 := 74) rfl rfl (nI_inc _ 1) (ls2 := [some (.ref _), some (.int _), some (.int _), some (.int _), some (.int _), some (.int _)]) rfl ?_
          refine Y_goto 44 rfl (pc2 := 2) (by decide) ?_
          exact ih (i + 1) (by omega) (by omega) (fun j hj => if e : j < i then hw j e else by
            rw [show j = i by omega]
            rintro (⟨e1, e2⟩ | ⟨e1, e2, e3⟩)
            · first | exact absurd e1 (by assumption) | exact absurd e2 (by assumption)
            · first | exact absurd (by assumption) e1 | exact absurd e3 (by assumption) | exact (by assumption : ¬ ¬ _) e1 | exact (by assumption : ¬ ¬ _) e2) _ _
        · refine Y_iload 26 rfl (pc2 := 47) rfl rfl ?_
          refine Y_if_eqb 27 rfl (pc2 := 50) rfl (tgt := 71) (by decide) (fun h47 => ?_) (fun h47 => ?_)
          · refine Y_iinc 43 rfl (pc2 := 74) rfl rfl (nI_inc _ 1) (ls2 := [some (.ref _), some (.int _), some (.int _), some (.int _), some (.int _), some (.int _)]) rfl ?_
            refine Y_goto 44 rfl (pc2 := 2) (by decide) ?_
            exact ih (i + 1) (by omega) (by omega) (fun j hj => if e : j < i then hw j e else by
              rw [show j = i by omega]
              rintro (⟨e1, e2⟩ | ⟨e1, e2, e3⟩)
              · first | exact absurd e1 (by assumption) | exact absurd e2 (by assumption)
              · first | exact absurd (by assumption) e1 | exact absurd e3 (by assumption) | exact (by assumption : ¬ ¬ _) e1 | exact (by assumption : ¬ ¬ _) e2) _ _
          · refine Y_aload_n 28 rfl (pc2 := 51) rfl rfl ?_
            refine Y_getR 29 rfl (pc2 := 54) rfl fl_mo_22 ly_mo (by decide) rfl rfl (by omega) ?_
            refine Y_bipush 30 rfl (pc2 := 56) rfl (v := nI 16) (by decide) ?_
            refine Y_bipush 31 rfl (pc2 := 58) rfl (v := nI 6) (by decide) ?_
            refine Y_iload_n 32 rfl (pc2 := 59) rfl rfl ?_
            refine Y_imul 33 rfl (pc2 := 60) rfl ?_
            refine Y_top (nI_mul _ _) ?_
            refine Y_iload_n 34 rfl (pc2 := 61) rfl rfl ?_
            refine Y_iadd 35 rfl (pc2 := 62) rfl ?_
            refine Y_top (nI_add _ _) ?_
            refine Y_imul 36 rfl (pc2 := 63) rfl ?_
            refine Y_top (nI_mul _ _) ?_
            refine Y_iload_n 37 rfl (pc2 := 64) rfl rfl ?_
            refine Y_iadd 38 rfl (pc2 := 65) rfl ?_
            refine Y_top (nI_add _ _) ?_
            refine Y_zald 39 rfl (pc2 := 66) rfl ly_mo_may rfl (by omega) (by decide) ?_
            refine Y_top (h.e (by decide) (by decide)) ?_
            refine Y_if_ne 40 rfl (pc2 := 69) rfl (tgt := 71) (by decide) (fun h66 => ?_) (fun h66 => ?_)
            · refine Y_iinc 43 rfl (pc2 := 74) rfl rfl (nI_inc _ 1) (ls2 := [some (.ref _), some (.int _), some (.int _), some (.int _), some (.int _), some (.int _)]) rfl ?_
              refine Y_goto 44 rfl (pc2 := 2) (by decide) ?_
              exact ih (i + 1) (by omega) (by omega) (fun j hj => if e : j < i then hw j e else by
                rw [show j = i by omega]
                rintro (⟨e1, e2⟩ | ⟨e1, e2, e3⟩)
                · first | exact absurd e1 (by assumption) | exact absurd e2 (by assumption)
                · first | exact absurd (by assumption) e1 | exact absurd e3 (by assumption) | exact (by assumption : ¬ ¬ _) e1 | exact (by assumption : ¬ ¬ _) e2) _ _
            · refine Y_iload_n 41 rfl (pc2 := 70) rfl rfl ?_
              refine Y_iret 42 rfl rfl rfl ⟨rfl, ?_⟩
              dsimp only
              exact pu_i (by unfold wM; have e := wO_is (l := l) (f := f) hw (by first | exact Or.inl ⟨Classical.byContradiction h32, Classical.byContradiction h37⟩ | exact Or.inr ⟨h42, h47, h66⟩) (by omega); rw [e, cI_t (by omega)])

set_option maxHeartbeats 400000 in
theorem T_mo_wrongStep {G : Nat × (Nat → Int32)} {m : Mm} {S : Mm} (h : RM m S) (w : WF S) {l f : Nat} (hl : l < 4) (hf : f < 6) : Y G M_mo_wrongStep (0, 0) 0 (en_ M_mo_wrongStep [.ref (153), .int (nI l), .int (nI f)]) [] (LAY, m) (qm_ LAY (pu_ (wM S l f) m)) := by
  change Y _ _ _ _ [some (.ref _), some (.int _), some (.int _), none, none, none] _ _ _
  refine Y_iconst 0 rfl (pc2 := 1) rfl (v := nI 0) (by decide) ?_
  refine Y_istore_n 1 rfl (pc2 := 2) rfl (Nat.le_of_ble_eq_true rfl) (ls2 := [some (.ref _), some (.int _), some (.int _), some (.int _), none, none]) rfl ?_
  exact L_wrongM h w hl hf 0 (Nat.zero_le _) (fun j hj => absurd hj (Nat.not_lt_zero j)) _ _

set_option maxHeartbeats 400000 in
theorem T_mo_wrong {G : Nat × (Nat → Int32)} {m : Mm} {S : Mm} (h : RM m S) (w : WF S) {x y : Int32} : Y G M_mo_wrong (0, 0) 0 (en_ M_mo_wrong [.ref (153), .int (x), .int (y)]) [] (LAY, m) (qm_ LAY (pm_ (sp_wrong S x y) m S)) := by
  change Y _ _ _ _ [some (.ref _), some (.int _), some (.int _)] _ _ _
  refine Y_iload_n 0 rfl (pc2 := 1) rfl rfl ?_
  refine Y_iload_n 1 rfl (pc2 := 2) rfl rfl ?_
  refine Y_cS 2 rfl (pc2 := 5) rfl ok_mo_isFigure lk_mo_124 vs_mo_isFigure (as := [.int _, .int _]) (rest := []) rfl rfl T_mo_isFigure ?_
  rintro _ _ ⟨rfl, rfl⟩
  change Y _ _ _ _ _ [.int _] _ _
  refine Y_if_eqb 3 rfl (pc2 := 8) rfl (tgt := 20) (by decide) (fun h5 => ?_) (fun h5 => ?_)
  · refine Y_ldc 10 rfl (pc2 := 22) rfl kc_mo_79 ?_
    refine Y_iret 11 rfl rfl rfl ⟨rfl, ?_⟩
    dsimp only
    first | exact pm_0 h (by unfold sp_wrong; rw [cI_f h5]; rfl) | exact pm_0 h (by unfold sp_wrong; rw [cI_t ⟨⟨l, hl, rfl⟩, ⟨f, hf, rfl⟩⟩, nv_nI (by omega), nv_nI (by omega)]; exact wM_O hl)
  · obtain ⟨⟨l, hl, rfl⟩, ⟨f, hf, rfl⟩⟩ := h5
    refine Y_aload_n 4 rfl (pc2 := 9) rfl rfl ?_
    refine Y_iload_n 5 rfl (pc2 := 10) rfl rfl ?_
    refine Y_iload_n 6 rfl (pc2 := 11) rfl rfl ?_
    refine Y_cV 7 rfl (pc2 := 14) rfl ok_mo_wrongStep lk_mo_143 vi_mo_wrongStep ly_mo rfl (by decide) rfl (as := [.int _, .int _]) (rest := []) rfl rfl (T_mo_wrongStep h w (by omega) (by omega)) ?_
    rintro _ _ ⟨rfl, rfl⟩
    change Y _ _ _ _ _ [.int _] _ _
    refine Y_cS 8 rfl (pc2 := 17) rfl ok_mo_orNone lk_mo_117 vs_mo_orNone (as := [.int _]) (rest := []) rfl rfl T_mo_orNone ?_
    rintro _ _ ⟨rfl, rfl⟩
    change Y _ _ _ _ _ [.int _] _ _
    refine Y_goto 9 rfl (pc2 := 22) (by decide) ?_
    refine Y_iret 11 rfl rfl rfl ⟨rfl, ?_⟩
    dsimp only
    first | exact pm_0 h (by unfold sp_wrong; rw [cI_f h5]; rfl) | exact pm_0 h (by unfold sp_wrong; rw [cI_t ⟨⟨l, hl, rfl⟩, ⟨f, hf, rfl⟩⟩, nv_nI (by omega), nv_nI (by omega)]; exact wM_O hl)
end
