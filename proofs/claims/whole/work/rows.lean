section
-- ===== PART A: goes FIRST, ahead of the names: the tables' words, and 'selects' of the private methods out of them =====
/-- a private method of a class that the tables say can be made, by its rows of tables_1 -/
def lw_okq (q : MethodName × Nat) : Prop := (q.1.cls ≠ "java/lang/invoke/MethodHandle" ∧ q.1.cls ≠ "java/lang/invoke/VarHandle") ∧ Cond.instantiable q.1.cls q.2 ∈ tables_1 ∧ Cond.privateMethod q.1 ∈ tables_1 ∧ Cond.instanceMethod q.1 ∈ tables_1
theorem lw_p0 : lw_okq (⟨"GongHouse$TuneReader", "takes", "(I)Z"⟩, 6) := ⟨⟨by decide +kernel, by decide +kernel⟩, List.mem_of_getElem? (i := 41) (by decide +kernel), List.mem_of_getElem? (i := 296) (by decide +kernel), List.mem_of_getElem? (i := 297) (by decide +kernel)⟩
theorem lw_p1 : lw_okq (⟨"GongHouse$TuneReader", "takesTimes", "(I)Z"⟩, 6) := ⟨⟨by decide +kernel, by decide +kernel⟩, List.mem_of_getElem? (i := 41) (by decide +kernel), List.mem_of_getElem? (i := 300) (by decide +kernel), List.mem_of_getElem? (i := 301) (by decide +kernel)⟩
theorem lw_p2 : lw_okq (⟨"GongHouse$TuneReader", "repeatFrom", "(II)V"⟩, 6) := ⟨⟨by decide +kernel, by decide +kernel⟩, List.mem_of_getElem? (i := 41) (by decide +kernel), List.mem_of_getElem? (i := 304) (by decide +kernel), List.mem_of_getElem? (i := 305) (by decide +kernel)⟩
theorem lw_p3 : lw_okq (⟨"GongHouse$TuneReader", "addBeat", "(II)V"⟩, 6) := ⟨⟨by decide +kernel, by decide +kernel⟩, List.mem_of_getElem? (i := 41) (by decide +kernel), List.mem_of_getElem? (i := 311) (by decide +kernel), List.mem_of_getElem? (i := 312) (by decide +kernel)⟩
theorem lw_p4 : lw_okq (⟨"GongHouse$TuneReader", "takesOpening", "()Z"⟩, 6) := ⟨⟨by decide +kernel, by decide +kernel⟩, List.mem_of_getElem? (i := 41) (by decide +kernel), List.mem_of_getElem? (i := 315) (by decide +kernel), List.mem_of_getElem? (i := 316) (by decide +kernel)⟩
theorem lw_p5 : lw_okq (⟨"GongHouse$TuneReader", "takesClosing", "()Z"⟩, 6) := ⟨⟨by decide +kernel, by decide +kernel⟩, List.mem_of_getElem? (i := 41) (by decide +kernel), List.mem_of_getElem? (i := 319) (by decide +kernel), List.mem_of_getElem? (i := 320) (by decide +kernel)⟩
theorem lw_p6 : lw_okq (⟨"GongHouse$TuneReader", "takesBeat", "(I)Z"⟩, 6) := ⟨⟨by decide +kernel, by decide +kernel⟩, List.mem_of_getElem? (i := 41) (by decide +kernel), List.mem_of_getElem? (i := 323) (by decide +kernel), List.mem_of_getElem? (i := 324) (by decide +kernel)⟩
theorem lw_p7 : lw_okq (⟨"GongHouse$TuneReader", "takesGong", "(I)Z"⟩, 6) := ⟨⟨by decide +kernel, by decide +kernel⟩, List.mem_of_getElem? (i := 41) (by decide +kernel), List.mem_of_getElem? (i := 330) (by decide +kernel), List.mem_of_getElem? (i := 331) (by decide +kernel)⟩
theorem lw_p8 : lw_okq (⟨"GongHouse$Circle", "setTones", "()V"⟩, 5) := ⟨⟨by decide +kernel, by decide +kernel⟩, List.mem_of_getElem? (i := 161) (by decide +kernel), List.mem_of_getElem? (i := 347) (by decide +kernel), List.mem_of_getElem? (i := 348) (by decide +kernel)⟩
theorem lw_p9 : lw_okq (⟨"GongHouse$Circle", "lastNote", "()I"⟩, 5) := ⟨⟨by decide +kernel, by decide +kernel⟩, List.mem_of_getElem? (i := 161) (by decide +kernel), List.mem_of_getElem? (i := 351) (by decide +kernel), List.mem_of_getElem? (i := 352) (by decide +kernel)⟩
theorem lw_p10 : lw_okq (⟨"GongHouse$Circle", "setTurns", "()V"⟩, 5) := ⟨⟨by decide +kernel, by decide +kernel⟩, List.mem_of_getElem? (i := 161) (by decide +kernel), List.mem_of_getElem? (i := 355) (by decide +kernel), List.mem_of_getElem? (i := 356) (by decide +kernel)⟩
theorem lw_p11 : lw_okq (⟨"GongHouse", "hasBeat", "(II)Z"⟩, 8) := ⟨⟨by decide +kernel, by decide +kernel⟩, List.mem_of_getElem? (i := 16) (by decide +kernel), List.mem_of_getElem? (i := 367) (by decide +kernel), List.mem_of_getElem? (i := 368) (by decide +kernel)⟩
theorem lw_p12 : lw_okq (⟨"GongHouse", "hasStep", "(III)Z"⟩, 8) := ⟨⟨by decide +kernel, by decide +kernel⟩, List.mem_of_getElem? (i := 16) (by decide +kernel), List.mem_of_getElem? (i := 384) (by decide +kernel), List.mem_of_getElem? (i := 385) (by decide +kernel)⟩
theorem lw_p13 : lw_okq (⟨"GongHouse", "goesTo", "(III)Z"⟩, 8) := ⟨⟨by decide +kernel, by decide +kernel⟩, List.mem_of_getElem? (i := 16) (by decide +kernel), List.mem_of_getElem? (i := 481) (by decide +kernel), List.mem_of_getElem? (i := 482) (by decide +kernel)⟩
theorem lw_p14 : lw_okq (⟨"GongHouse$LineTable", "entryOf", "(LGongHouse$Circle;I)I"⟩, 5) := ⟨⟨by decide +kernel, by decide +kernel⟩, List.mem_of_getElem? (i := 136) (by decide +kernel), List.mem_of_getElem? (i := 553) (by decide +kernel), List.mem_of_getElem? (i := 554) (by decide +kernel)⟩
theorem lw_p15 : lw_okq (⟨"GongHouse", "allBeats", "()I"⟩, 8) := ⟨⟨by decide +kernel, by decide +kernel⟩, List.mem_of_getElem? (i := 16) (by decide +kernel), List.mem_of_getElem? (i := 598) (by decide +kernel), List.mem_of_getElem? (i := 599) (by decide +kernel)⟩
def lw_privs_1 : List (MethodName × Nat) := [(⟨"GongHouse$TuneReader", "takes", "(I)Z"⟩, 6), (⟨"GongHouse$TuneReader", "takesTimes", "(I)Z"⟩, 6), (⟨"GongHouse$TuneReader", "repeatFrom", "(II)V"⟩, 6), (⟨"GongHouse$TuneReader", "addBeat", "(II)V"⟩, 6), (⟨"GongHouse$TuneReader", "takesOpening", "()Z"⟩, 6), (⟨"GongHouse$TuneReader", "takesClosing", "()Z"⟩, 6), (⟨"GongHouse$TuneReader", "takesBeat", "(I)Z"⟩, 6), (⟨"GongHouse$TuneReader", "takesGong", "(I)Z"⟩, 6), (⟨"GongHouse$Circle", "setTones", "()V"⟩, 5), (⟨"GongHouse$Circle", "lastNote", "()I"⟩, 5), (⟨"GongHouse$Circle", "setTurns", "()V"⟩, 5), (⟨"GongHouse", "hasBeat", "(II)Z"⟩, 8), (⟨"GongHouse", "hasStep", "(III)Z"⟩, 8), (⟨"GongHouse", "goesTo", "(III)Z"⟩, 8), (⟨"GongHouse$LineTable", "entryOf", "(LGongHouse$Circle;I)I"⟩, 5), (⟨"GongHouse", "allBeats", "()I"⟩, 8)]
theorem lw_r1 : ∀ q ∈ lw_privs_1, lw_okq q := List.forall_mem_cons.mpr ⟨lw_p0, List.forall_mem_cons.mpr ⟨lw_p1, List.forall_mem_cons.mpr ⟨lw_p2, List.forall_mem_cons.mpr ⟨lw_p3, List.forall_mem_cons.mpr ⟨lw_p4, List.forall_mem_cons.mpr ⟨lw_p5, List.forall_mem_cons.mpr ⟨lw_p6, List.forall_mem_cons.mpr ⟨lw_p7, List.forall_mem_cons.mpr ⟨lw_p8, List.forall_mem_cons.mpr ⟨lw_p9, List.forall_mem_cons.mpr ⟨lw_p10, List.forall_mem_cons.mpr ⟨lw_p11, List.forall_mem_cons.mpr ⟨lw_p12, List.forall_mem_cons.mpr ⟨lw_p13, List.forall_mem_cons.mpr ⟨lw_p14, List.forall_mem_cons.mpr ⟨lw_p15, fun _ h => absurd h List.not_mem_nil⟩⟩⟩⟩⟩⟩⟩⟩⟩⟩⟩⟩⟩⟩⟩⟩
theorem lw_p16 : lw_okq (⟨"GongHouse", "allGongs", "()I"⟩, 8) := ⟨⟨by decide +kernel, by decide +kernel⟩, List.mem_of_getElem? (i := 16) (by decide +kernel), List.mem_of_getElem? (i := 602) (by decide +kernel), List.mem_of_getElem? (i := 603) (by decide +kernel)⟩
theorem lw_p17 : lw_okq (⟨"GongHouse", "allRight", "()I"⟩, 8) := ⟨⟨by decide +kernel, by decide +kernel⟩, List.mem_of_getElem? (i := 16) (by decide +kernel), List.mem_of_getElem? (i := 606) (by decide +kernel), List.mem_of_getElem? (i := 607) (by decide +kernel)⟩
theorem lw_p18 : lw_okq (⟨"GongHouseModel", "four", "(I)V"⟩, 24) := ⟨⟨by decide +kernel, by decide +kernel⟩, List.mem_of_getElem? (i := 619) (by decide +kernel), List.mem_of_getElem? (i := 703) (by decide +kernel), List.mem_of_getElem? (i := 704) (by decide +kernel)⟩
theorem lw_p19 : lw_okq (⟨"GongHouseModel", "readTune", "()Z"⟩, 24) := ⟨⟨by decide +kernel, by decide +kernel⟩, List.mem_of_getElem? (i := 619) (by decide +kernel), List.mem_of_getElem? (i := 719) (by decide +kernel), List.mem_of_getElem? (i := 720) (by decide +kernel)⟩
theorem lw_p20 : lw_okq (⟨"GongHouseModel", "isBeatHere", "()Z"⟩, 24) := ⟨⟨by decide +kernel, by decide +kernel⟩, List.mem_of_getElem? (i := 619) (by decide +kernel), List.mem_of_getElem? (i := 723) (by decide +kernel), List.mem_of_getElem? (i := 724) (by decide +kernel)⟩
theorem lw_p21 : lw_okq (⟨"GongHouseModel", "here", "()I"⟩, 24) := ⟨⟨by decide +kernel, by decide +kernel⟩, List.mem_of_getElem? (i := 619) (by decide +kernel), List.mem_of_getElem? (i := 727) (by decide +kernel), List.mem_of_getElem? (i := 728) (by decide +kernel)⟩
theorem lw_p22 : lw_okq (⟨"GongHouseModel", "readBeat", "()V"⟩, 24) := ⟨⟨by decide +kernel, by decide +kernel⟩, List.mem_of_getElem? (i := 619) (by decide +kernel), List.mem_of_getElem? (i := 731) (by decide +kernel), List.mem_of_getElem? (i := 732) (by decide +kernel)⟩
theorem lw_p23 : lw_okq (⟨"GongHouseModel", "write", "(II)V"⟩, 24) := ⟨⟨by decide +kernel, by decide +kernel⟩, List.mem_of_getElem? (i := 619) (by decide +kernel), List.mem_of_getElem? (i := 738) (by decide +kernel), List.mem_of_getElem? (i := 739) (by decide +kernel)⟩
theorem lw_p24 : lw_okq (⟨"GongHouseModel", "readAgain", "()Z"⟩, 24) := ⟨⟨by decide +kernel, by decide +kernel⟩, List.mem_of_getElem? (i := 619) (by decide +kernel), List.mem_of_getElem? (i := 742) (by decide +kernel), List.mem_of_getElem? (i := 743) (by decide +kernel)⟩
theorem lw_p25 : lw_okq (⟨"GongHouseModel", "isBeat", "(II)Z"⟩, 24) := ⟨⟨by decide +kernel, by decide +kernel⟩, List.mem_of_getElem? (i := 619) (by decide +kernel), List.mem_of_getElem? (i := 754) (by decide +kernel), List.mem_of_getElem? (i := 755) (by decide +kernel)⟩
theorem lw_p26 : lw_okq (⟨"GongHouseModel", "tone", "(II)I"⟩, 24) := ⟨⟨by decide +kernel, by decide +kernel⟩, List.mem_of_getElem? (i := 619) (by decide +kernel), List.mem_of_getElem? (i := 762) (by decide +kernel), List.mem_of_getElem? (i := 763) (by decide +kernel)⟩
theorem lw_p27 : lw_okq (⟨"GongHouseModel", "wrongStep", "(II)I"⟩, 24) := ⟨⟨by decide +kernel, by decide +kernel⟩, List.mem_of_getElem? (i := 619) (by decide +kernel), List.mem_of_getElem? (i := 800) (by decide +kernel), List.mem_of_getElem? (i := 801) (by decide +kernel)⟩
theorem lw_p28 : lw_okq (⟨"GongHouseModel", "doesStrike", "(IIII)Z"⟩, 24) := ⟨⟨by decide +kernel, by decide +kernel⟩, List.mem_of_getElem? (i := 619) (by decide +kernel), List.mem_of_getElem? (i := 804) (by decide +kernel), List.mem_of_getElem? (i := 805) (by decide +kernel)⟩
theorem lw_p29 : lw_okq (⟨"GongHouseModel", "signalMany", "()I"⟩, 24) := ⟨⟨by decide +kernel, by decide +kernel⟩, List.mem_of_getElem? (i := 619) (by decide +kernel), List.mem_of_getElem? (i := 820) (by decide +kernel), List.mem_of_getElem? (i := 821) (by decide +kernel)⟩
theorem lw_p30 : lw_okq (⟨"GongHouseModel", "isRound", "(I)Z"⟩, 24) := ⟨⟨by decide +kernel, by decide +kernel⟩, List.mem_of_getElem? (i := 619) (by decide +kernel), List.mem_of_getElem? (i := 832) (by decide +kernel), List.mem_of_getElem? (i := 833) (by decide +kernel)⟩
theorem lw_p31 : lw_okq (⟨"GongHouseModel", "rounds", "()I"⟩, 24) := ⟨⟨by decide +kernel, by decide +kernel⟩, List.mem_of_getElem? (i := 619) (by decide +kernel), List.mem_of_getElem? (i := 836) (by decide +kernel), List.mem_of_getElem? (i := 837) (by decide +kernel)⟩
def lw_privs_2 : List (MethodName × Nat) := [(⟨"GongHouse", "allGongs", "()I"⟩, 8), (⟨"GongHouse", "allRight", "()I"⟩, 8), (⟨"GongHouseModel", "four", "(I)V"⟩, 24), (⟨"GongHouseModel", "readTune", "()Z"⟩, 24), (⟨"GongHouseModel", "isBeatHere", "()Z"⟩, 24), (⟨"GongHouseModel", "here", "()I"⟩, 24), (⟨"GongHouseModel", "readBeat", "()V"⟩, 24), (⟨"GongHouseModel", "write", "(II)V"⟩, 24), (⟨"GongHouseModel", "readAgain", "()Z"⟩, 24), (⟨"GongHouseModel", "isBeat", "(II)Z"⟩, 24), (⟨"GongHouseModel", "tone", "(II)I"⟩, 24), (⟨"GongHouseModel", "wrongStep", "(II)I"⟩, 24), (⟨"GongHouseModel", "doesStrike", "(IIII)Z"⟩, 24), (⟨"GongHouseModel", "signalMany", "()I"⟩, 24), (⟨"GongHouseModel", "isRound", "(I)Z"⟩, 24), (⟨"GongHouseModel", "rounds", "()I"⟩, 24)]
theorem lw_r2 : ∀ q ∈ lw_privs_2, lw_okq q := List.forall_mem_cons.mpr ⟨lw_p16, List.forall_mem_cons.mpr ⟨lw_p17, List.forall_mem_cons.mpr ⟨lw_p18, List.forall_mem_cons.mpr ⟨lw_p19, List.forall_mem_cons.mpr ⟨lw_p20, List.forall_mem_cons.mpr ⟨lw_p21, List.forall_mem_cons.mpr ⟨lw_p22, List.forall_mem_cons.mpr ⟨lw_p23, List.forall_mem_cons.mpr ⟨lw_p24, List.forall_mem_cons.mpr ⟨lw_p25, List.forall_mem_cons.mpr ⟨lw_p26, List.forall_mem_cons.mpr ⟨lw_p27, List.forall_mem_cons.mpr ⟨lw_p28, List.forall_mem_cons.mpr ⟨lw_p29, List.forall_mem_cons.mpr ⟨lw_p30, List.forall_mem_cons.mpr ⟨lw_p31, fun _ h => absurd h List.not_mem_nil⟩⟩⟩⟩⟩⟩⟩⟩⟩⟩⟩⟩⟩⟩⟩⟩
theorem lw_p32 : lw_okq (⟨"GongHouseModel", "goTo", "(I)V"⟩, 24) := ⟨⟨by decide +kernel, by decide +kernel⟩, List.mem_of_getElem? (i := 619) (by decide +kernel), List.mem_of_getElem? (i := 840) (by decide +kernel), List.mem_of_getElem? (i := 841) (by decide +kernel)⟩
theorem lw_p33 : lw_okq (⟨"GongHouseModel", "isStep", "(III)Z"⟩, 24) := ⟨⟨by decide +kernel, by decide +kernel⟩, List.mem_of_getElem? (i := 619) (by decide +kernel), List.mem_of_getElem? (i := 848) (by decide +kernel), List.mem_of_getElem? (i := 849) (by decide +kernel)⟩
theorem lw_p34 : lw_okq (⟨"GongHouseModel", "playedNow", "(III)I"⟩, 24) := ⟨⟨by decide +kernel, by decide +kernel⟩, List.mem_of_getElem? (i := 619) (by decide +kernel), List.mem_of_getElem? (i := 852) (by decide +kernel), List.mem_of_getElem? (i := 853) (by decide +kernel)⟩
theorem lw_p35 : lw_okq (⟨"GongHouseModel", "turn", "(II)I"⟩, 24) := ⟨⟨by decide +kernel, by decide +kernel⟩, List.mem_of_getElem? (i := 619) (by decide +kernel), List.mem_of_getElem? (i := 856) (by decide +kernel), List.mem_of_getElem? (i := 857) (by decide +kernel)⟩
theorem lw_p36 : lw_okq (⟨"GongHouseModel", "struck", "(IIIIII)I"⟩, 24) := ⟨⟨by decide +kernel, by decide +kernel⟩, List.mem_of_getElem? (i := 619) (by decide +kernel), List.mem_of_getElem? (i := 860) (by decide +kernel), List.mem_of_getElem? (i := 861) (by decide +kernel)⟩
theorem lw_p37 : lw_okq (⟨"GongHouseModel", "leapsOf", "(II)I"⟩, 24) := ⟨⟨by decide +kernel, by decide +kernel⟩, List.mem_of_getElem? (i := 619) (by decide +kernel), List.mem_of_getElem? (i := 883) (by decide +kernel), List.mem_of_getElem? (i := 884) (by decide +kernel)⟩
def lw_privs_3 : List (MethodName × Nat) := [(⟨"GongHouseModel", "goTo", "(I)V"⟩, 24), (⟨"GongHouseModel", "isStep", "(III)Z"⟩, 24), (⟨"GongHouseModel", "playedNow", "(III)I"⟩, 24), (⟨"GongHouseModel", "turn", "(II)I"⟩, 24), (⟨"GongHouseModel", "struck", "(IIIIII)I"⟩, 24), (⟨"GongHouseModel", "leapsOf", "(II)I"⟩, 24)]
theorem lw_r3 : ∀ q ∈ lw_privs_3, lw_okq q := List.forall_mem_cons.mpr ⟨lw_p32, List.forall_mem_cons.mpr ⟨lw_p33, List.forall_mem_cons.mpr ⟨lw_p34, List.forall_mem_cons.mpr ⟨lw_p35, List.forall_mem_cons.mpr ⟨lw_p36, List.forall_mem_cons.mpr ⟨lw_p37, fun _ h => absurd h List.not_mem_nil⟩⟩⟩⟩⟩⟩
def lw_privs : List (MethodName × Nat) := lw_privs_1 ++ (lw_privs_2 ++ (lw_privs_3))
def lw_tbl : List Cond := k2_sels lw_privs ++ tables_1
theorem lw_privs_ok : ∀ q ∈ lw_privs, lw_okq q := by
  show ∀ q ∈ lw_privs_1 ++ (lw_privs_2 ++ (lw_privs_3)), lw_okq q
  exact List.forall_mem_append.mpr ⟨lw_r1, List.forall_mem_append.mpr ⟨lw_r2, lw_r3⟩⟩
def RX0 : String := "GongHouse$Circle"
def TX0 : u_T := fun k => match k with
  | 0 => ("GongHouse$Circle", "notes", "[I", true)
  | 1 => ("GongHouse$Circle", "gongs", "[I", true)
  | 2 => ("GongHouse$Circle", "tones", "[I", true)
  | 3 => ("GongHouse$Circle", "turns", "[I", true)
  | _ => ("GongHouse$Circle", "beats", "I", false)
def tyX0 : Nat → FieldType := fun k => match k with
  | 0 => .array .int
  | 1 => .array .int
  | 2 => .array .int
  | 3 => .array .int
  | _ => .int
abbrev wsX00 : List Cond := u_ws RX0 TX0 5
theorem nmX0 : ∀ a, a < 5 → ∀ b, b < 5 → a ≠ b → (TX0 a).2.1 ≠ (TX0 b).2.1 := by decide +kernel
theorem tyX0_ok : ∀ k, k < 5 → parseFieldDescriptor (TX0 k).2.2.1 = some (tyX0 k) := by decide +kernel
def RX1 : String := "GongHouse$Figure"
def TX1 : u_T := fun k => match k with
  | 0 => ("GongHouse$Figure", "main", "[I", true)
  | 1 => ("GongHouse$Figure", "other", "[I", true)
  | _ => ("GongHouse$Figure", "mayBoth", "[Z", true)
def tyX1 : Nat → FieldType := fun k => match k with
  | 0 => .array .int
  | 1 => .array .int
  | _ => .array .boolean
abbrev wsX10 : List Cond := u_ws RX1 TX1 3
theorem nmX1 : ∀ a, a < 3 → ∀ b, b < 3 → a ≠ b → (TX1 a).2.1 ≠ (TX1 b).2.1 := by decide +kernel
theorem tyX1_ok : ∀ k, k < 3 → parseFieldDescriptor (TX1 k).2.2.1 = some (tyX1 k) := by decide +kernel
def RX2 : String := "GongHouse$Level"
def TX2 : u_T := fun k => match k with
  | 0 => ("GongHouse$Level", "steps", "I", true)
  | 1 => ("GongHouse$Level", "figures", "[LGongHouse$Figure;", true)
  | _ => ("GongHouse$Level", "used", "[I", true)
def tyX2 : Nat → FieldType := fun k => match k with
  | 0 => .int
  | 1 => .array (.object "GongHouse$Figure")
  | _ => .array .int
abbrev wsX20 : List Cond := u_ws RX2 TX2 3
theorem nmX2 : ∀ a, a < 3 → ∀ b, b < 3 → a ≠ b → (TX2 a).2.1 ≠ (TX2 b).2.1 := by decide +kernel
theorem tyX2_ok : ∀ k, k < 3 → parseFieldDescriptor (TX2 k).2.2.1 = some (tyX2 k) := by decide +kernel
def RX3 : String := "GongHouse$LineTable"
def TX3 : u_T := fun k => match k with
  | 0 => ("GongHouse$LineTable", "inner", "[I", true)
  | 1 => ("GongHouse$LineTable", "firstKeys", "[I", true)
  | 2 => ("GongHouse$LineTable", "lastKeys", "[I", true)
  | 3 => ("GongHouse$LineTable", "chosen", "[I", true)
  | _ => ("GongHouse$LineTable", "usable", "[Z", true)
def tyX3 : Nat → FieldType := fun k => match k with
  | 0 => .array .int
  | 1 => .array .int
  | 2 => .array .int
  | 3 => .array .int
  | _ => .array .boolean
abbrev wsX30 : List Cond := u_ws RX3 TX3 5
theorem nmX3 : ∀ a, a < 5 → ∀ b, b < 5 → a ≠ b → (TX3 a).2.1 ≠ (TX3 b).2.1 := by decide +kernel
theorem tyX3_ok : ∀ k, k < 5 → parseFieldDescriptor (TX3 k).2.2.1 = some (tyX3 k) := by decide +kernel
def RX4 : String := "GongHouse$Piece"
def TX4 : u_T := fun k => match k with
  | 0 => ("GongHouse$Piece", "partCircles", "[I", true)
  | 1 => ("GongHouse$Piece", "partTimes", "[I", true)
  | 2 => ("GongHouse$Piece", "partLevels", "[I", true)
  | 3 => ("GongHouse$Piece", "signalLevels", "[I", true)
  | 4 => ("GongHouse$Piece", "parts", "I", false)
  | _ => ("GongHouse$Piece", "signals", "I", false)
def tyX4 : Nat → FieldType := fun k => match k with
  | 0 => .array .int
  | 1 => .array .int
  | 2 => .array .int
  | 3 => .array .int
  | 4 => .int
  | _ => .int
abbrev wsX40 : List Cond := u_ws RX4 TX4 6
theorem nmX4 : ∀ a, a < 6 → ∀ b, b < 6 → a ≠ b → (TX4 a).2.1 ≠ (TX4 b).2.1 := by decide +kernel
theorem tyX4_ok : ∀ k, k < 6 → parseFieldDescriptor (TX4 k).2.2.1 = some (tyX4 k) := by decide +kernel
def RX5 : String := "GongHouse$Sheet"
def TX5 : u_T := fun k => match k with
  | 0 => ("GongHouse$Sheet", "bytes", "[B", true)
  | _ => ("GongHouse$Sheet", "places", "I", false)
def tyX5 : Nat → FieldType := fun k => match k with
  | 0 => .array .byte
  | _ => .int
abbrev wsX50 : List Cond := u_ws RX5 TX5 2
theorem nmX5 : ∀ a, a < 2 → ∀ b, b < 2 → a ≠ b → (TX5 a).2.1 ≠ (TX5 b).2.1 := by decide +kernel
theorem tyX5_ok : ∀ k, k < 2 → parseFieldDescriptor (TX5 k).2.2.1 = some (tyX5 k) := by decide +kernel
def RX6 : String := "GongHouse$Tape"
def TX6 : u_T := fun k => match k with
  | 0 => ("GongHouse$Tape", "bytes", "[B", true)
  | _ => ("GongHouse$Tape", "length", "I", false)
def tyX6 : Nat → FieldType := fun k => match k with
  | 0 => .array .byte
  | _ => .int
abbrev wsX60 : List Cond := u_ws RX6 TX6 2
theorem nmX6 : ∀ a, a < 2 → ∀ b, b < 2 → a ≠ b → (TX6 a).2.1 ≠ (TX6 b).2.1 := by decide +kernel
theorem tyX6_ok : ∀ k, k < 2 → parseFieldDescriptor (TX6 k).2.2.1 = some (tyX6 k) := by decide +kernel
def RX7 : String := "GongHouse$TuneReader"
def TX7 : u_T := fun k => match k with
  | 0 => ("GongHouse$TuneReader", "notes", "[I", true)
  | 1 => ("GongHouse$TuneReader", "gongs", "[I", true)
  | 2 => ("GongHouse$TuneReader", "beats", "I", false)
  | 3 => ("GongHouse$TuneReader", "opened", "I", false)
  | 4 => ("GongHouse$TuneReader", "awaitsTimes", "Z", false)
  | _ => ("GongHouse$TuneReader", "awaitsGong", "Z", false)
def tyX7 : Nat → FieldType := fun k => match k with
  | 0 => .array .int
  | 1 => .array .int
  | 2 => .int
  | 3 => .int
  | 4 => .boolean
  | _ => .boolean
abbrev wsX70 : List Cond := u_ws RX7 TX7 6
theorem nmX7 : ∀ a, a < 6 → ∀ b, b < 6 → a ≠ b → (TX7 a).2.1 ≠ (TX7 b).2.1 := by decide +kernel
theorem tyX7_ok : ∀ k, k < 6 → parseFieldDescriptor (TX7 k).2.2.1 = some (tyX7 k) := by decide +kernel
def RX8 : String := "GongHouse$Walk"
def TX8 : u_T := fun k => match k with
  | 0 => ("GongHouse$Walk", "circle", "I", false)
  | 1 => ("GongHouse$Walk", "level", "I", false)
  | 2 => ("GongHouse$Walk", "part", "I", false)
  | _ => ("GongHouse$Walk", "tick", "I", false)
def tyX8 : Nat → FieldType := fun k => match k with
  | 0 => .int
  | 1 => .int
  | 2 => .int
  | _ => .int
abbrev wsX80 : List Cond := u_ws RX8 TX8 4
theorem nmX8 : ∀ a, a < 4 → ∀ b, b < 4 → a ≠ b → (TX8 a).2.1 ≠ (TX8 b).2.1 := by decide +kernel
theorem tyX8_ok : ∀ k, k < 4 → parseFieldDescriptor (TX8 k).2.2.1 = some (tyX8 k) := by decide +kernel
def RX9 : String := "GongHouse"
def TX9 : u_T := fun k => match k with
  | 0 => ("GongHouse", "tape", "LGongHouse$Tape;", true)
  | 1 => ("GongHouse", "reader", "LGongHouse$TuneReader;", true)
  | 2 => ("GongHouse", "circles", "[LGongHouse$Circle;", true)
  | 3 => ("GongHouse", "levels", "[LGongHouse$Level;", true)
  | 4 => ("GongHouse", "piece", "LGongHouse$Piece;", true)
  | 5 => ("GongHouse", "walk", "LGongHouse$Walk;", true)
  | 6 => ("GongHouse", "lines", "LGongHouse$LineTable;", true)
  | _ => ("GongHouse", "sheets", "[LGongHouse$Sheet;", true)
def tyX9 : Nat → FieldType := fun k => match k with
  | 0 => .object "GongHouse$Tape"
  | 1 => .object "GongHouse$TuneReader"
  | 2 => .array (.object "GongHouse$Circle")
  | 3 => .array (.object "GongHouse$Level")
  | 4 => .object "GongHouse$Piece"
  | 5 => .object "GongHouse$Walk"
  | 6 => .object "GongHouse$LineTable"
  | _ => .array (.object "GongHouse$Sheet")
abbrev wsX90 : List Cond := u_ws RX9 TX9 8
theorem nmX9 : ∀ a, a < 8 → ∀ b, b < 8 → a ≠ b → (TX9 a).2.1 ≠ (TX9 b).2.1 := by decide +kernel
theorem tyX9_ok : ∀ k, k < 8 → parseFieldDescriptor (TX9 k).2.2.1 = some (tyX9 k) := by decide +kernel
def RX10 : String := "GongHouseModel"
def TX10 : u_T := fun k => match k with
  | 0 => ("GongHouseModel", "beats", "[I", true)
  | 1 => ("GongHouseModel", "notes", "[I", true)
  | 2 => ("GongHouseModel", "gongs", "[I", true)
  | 3 => ("GongHouseModel", "shifts", "[I", true)
  | 4 => ("GongHouseModel", "may", "[Z", true)
  | 5 => ("GongHouseModel", "used", "[I", true)
  | 6 => ("GongHouseModel", "parts", "I", false)
  | 7 => ("GongHouseModel", "pCircle", "[I", true)
  | 8 => ("GongHouseModel", "pTimes", "[I", true)
  | 9 => ("GongHouseModel", "pLevel", "[I", true)
  | 10 => ("GongHouseModel", "signals", "[I", true)
  | 11 => ("GongHouseModel", "tape", "[I", true)
  | 12 => ("GongHouseModel", "taped", "I", false)
  | 13 => ("GongHouseModel", "places", "[I", true)
  | 14 => ("GongHouseModel", "numbers", "[I", true)
  | 15 => ("GongHouseModel", "read", "I", false)
  | 16 => ("GongHouseModel", "many", "I", false)
  | 17 => ("GongHouseModel", "newNotes", "[I", true)
  | 18 => ("GongHouseModel", "newGongs", "[I", true)
  | 19 => ("GongHouseModel", "partNow", "I", false)
  | 20 => ("GongHouseModel", "levelNow", "I", false)
  | 21 => ("GongHouseModel", "tickNow", "I", false)
  | 22 => ("GongHouseModel", "three", "[I", true)
  | _ => ("GongHouseModel", "carried", "[I", true)
def tyX10 : Nat → FieldType := fun k => match k with
  | 0 => .array .int
  | 1 => .array .int
  | 2 => .array .int
  | 3 => .array .int
  | 4 => .array .boolean
  | 5 => .array .int
  | 6 => .int
  | 7 => .array .int
  | 8 => .array .int
  | 9 => .array .int
  | 10 => .array .int
  | 11 => .array .int
  | 12 => .int
  | 13 => .array .int
  | 14 => .array .int
  | 15 => .int
  | 16 => .int
  | 17 => .array .int
  | 18 => .array .int
  | 19 => .int
  | 20 => .int
  | 21 => .int
  | 22 => .array .int
  | _ => .array .int
abbrev wsX100 : List Cond := u_ws RX10 TX10 24
theorem nmX10 : ∀ a, a < 24 → ∀ b, b < 24 → a ≠ b → (TX10 a).2.1 ≠ (TX10 b).2.1 := by decide +kernel
theorem tyX10_ok : ∀ k, k < 24 → parseFieldDescriptor (TX10 k).2.2.1 = some (tyX10 k) := by decide +kernel
def RL : String := "GongHouseLaw"
abbrev vwCl : List vw_C := [(RX0, TX0, 5), (RX1, TX1, 3), (RX2, TX2, 3), (RX3, TX3, 5), (RX4, TX4, 6), (RX5, TX5, 2), (RX6, TX6, 2), (RX7, TX7, 6), (RX8, TX8, 4), (RX9, TX9, 8), (RX10, TX10, 24)]
def Tb : List Cond := lw_tbl.filter goodWord
theorem tb_m {w : Cond} (i : Nat) (h : lw_tbl[i]? = some w) (g : goodWord w = true) : w ∈ Tb := List.mem_filter.mpr ⟨List.mem_of_getElem? h, g⟩
theorem tb_g : GoodIn lw_tbl Tb := fun w h => ⟨(List.mem_filter.mp h).1, good_of_word (List.mem_filter.mp h).2⟩
theorem tb_gg : GoodIn Tb Tb := fun w h => ⟨h, good_of_word (List.mem_filter.mp h).2⟩
def NwTb : List Cond := [.methodLinkNest "GongHouse" 9 ⟨"GongHouse$Tape", "<init>", "()V"⟩ "GongHouse", .methodLinkNest "GongHouse" 18 ⟨"GongHouse$TuneReader", "<init>", "()V"⟩ "GongHouse", .methodLinkNest "GongHouse" 44 ⟨"GongHouse$Walk", "<init>", "()V"⟩ "GongHouse", .methodLinkNest "GongHouse" 51 ⟨"GongHouse$LineTable", "<init>", "()V"⟩ "GongHouse", .methodLinkNest "GongHouse" 66 ⟨"GongHouse$Sheet", "<init>", "()V"⟩ "GongHouse", .methodLinkNest "GongHouse$TuneReader" 73 ⟨"GongHouse", "isBelow", "(II)Z"⟩ "GongHouse", .methodLinkNest "GongHouse$Figure" 43 ⟨"GongHouse", "isShift", "(I)Z"⟩ "GongHouse", .methodLinkNest "GongHouse$Figure" 47 ⟨"GongHouse", "countTold", "([II)I"⟩ "GongHouse", .methodLinkNest "GongHouse$Piece" 38 ⟨"GongHouse", "countTold", "([II)I"⟩ "GongHouse", .methodLinkNest "GongHouse$Circle" 66 ⟨"GongHouse", "countTold", "([II)I"⟩ "GongHouse", .methodLinkNest "GongHouse$LineTable" 41 ⟨"GongHouse", "keyOf", "(II)I"⟩ "GongHouse"]
theorem nw_mem : ∀ w ∈ NwTb, w ∈ lw_tbl := by
  intro w hw
  simp only [NwTb, List.mem_cons, List.not_mem_nil, or_false] at hw
  rcases hw with rfl | rfl | rfl | rfl | rfl | rfl | rfl | rfl | rfl | rfl | rfl
  · exact List.mem_of_getElem? (i := 63) (by decide +kernel)
  · exact List.mem_of_getElem? (i := 80) (by decide +kernel)
  · exact List.mem_of_getElem? (i := 152) (by decide +kernel)
  · exact List.mem_of_getElem? (i := 175) (by decide +kernel)
  · exact List.mem_of_getElem? (i := 271) (by decide +kernel)
  · exact List.mem_of_getElem? (i := 345) (by decide +kernel)
  · exact List.mem_of_getElem? (i := 450) (by decide +kernel)
  · exact List.mem_of_getElem? (i := 455) (by decide +kernel)
  · exact List.mem_of_getElem? (i := 493) (by decide +kernel)
  · exact List.mem_of_getElem? (i := 550) (by decide +kernel)
  · exact List.mem_of_getElem? (i := 582) (by decide +kernel)
theorem cw_0 : ∀ w ∈ u_ws RX0 TX0 5, w ∈ Tb := by
  intro w hw
  simp only [u_ws, List.mem_map, List.mem_range] at hw
  obtain ⟨k, hk, rfl⟩ := hw
  match k, hk with
  | 0, _ => exact tb_m 220 (by decide +kernel) rfl
  | 1, _ => exact tb_m 222 (by decide +kernel) rfl
  | 2, _ => exact tb_m 224 (by decide +kernel) rfl
  | 3, _ => exact tb_m 226 (by decide +kernel) rfl
  | 4, _ => exact tb_m 228 (by decide +kernel) rfl
  | n + 5, h => exact absurd h (by omega)
theorem cw_1 : ∀ w ∈ u_ws RX1 TX1 3, w ∈ Tb := by
  intro w hw
  simp only [u_ws, List.mem_map, List.mem_range] at hw
  obtain ⟨k, hk, rfl⟩ := hw
  match k, hk with
  | 0, _ => exact tb_m 250 (by decide +kernel) rfl
  | 1, _ => exact tb_m 252 (by decide +kernel) rfl
  | 2, _ => exact tb_m 254 (by decide +kernel) rfl
  | n + 3, h => exact absurd h (by omega)
theorem cw_2 : ∀ w ∈ u_ws RX2 TX2 3, w ∈ Tb := by
  intro w hw
  simp only [u_ws, List.mem_map, List.mem_range] at hw
  obtain ⟨k, hk, rfl⟩ := hw
  match k, hk with
  | 0, _ => exact tb_m 263 (by decide +kernel) rfl
  | 1, _ => exact tb_m 265 (by decide +kernel) rfl
  | 2, _ => exact tb_m 267 (by decide +kernel) rfl
  | n + 3, h => exact absurd h (by omega)
theorem cw_3 : ∀ w ∈ u_ws RX3 TX3 5, w ∈ Tb := by
  intro w hw
  simp only [u_ws, List.mem_map, List.mem_range] at hw
  obtain ⟨k, hk, rfl⟩ := hw
  match k, hk with
  | 0, _ => exact tb_m 185 (by decide +kernel) rfl
  | 1, _ => exact tb_m 187 (by decide +kernel) rfl
  | 2, _ => exact tb_m 189 (by decide +kernel) rfl
  | 3, _ => exact tb_m 191 (by decide +kernel) rfl
  | 4, _ => exact tb_m 193 (by decide +kernel) rfl
  | n + 5, h => exact absurd h (by omega)
theorem cw_4 : ∀ w ∈ u_ws RX4 TX4 6, w ∈ Tb := by
  intro w hw
  simp only [u_ws, List.mem_map, List.mem_range] at hw
  obtain ⟨k, hk, rfl⟩ := hw
  match k, hk with
  | 0, _ => exact tb_m 137 (by decide +kernel) rfl
  | 1, _ => exact tb_m 139 (by decide +kernel) rfl
  | 2, _ => exact tb_m 141 (by decide +kernel) rfl
  | 3, _ => exact tb_m 143 (by decide +kernel) rfl
  | 4, _ => exact tb_m 145 (by decide +kernel) rfl
  | 5, _ => exact tb_m 147 (by decide +kernel) rfl
  | n + 6, h => exact absurd h (by omega)
theorem cw_5 : ∀ w ∈ u_ws RX5 TX5 2, w ∈ Tb := by
  intro w hw
  simp only [u_ws, List.mem_map, List.mem_range] at hw
  obtain ⟨k, hk, rfl⟩ := hw
  match k, hk with
  | 0, _ => exact tb_m 281 (by decide +kernel) rfl
  | 1, _ => exact tb_m 283 (by decide +kernel) rfl
  | n + 2, h => exact absurd h (by omega)
theorem cw_6 : ∀ w ∈ u_ws RX6 TX6 2, w ∈ Tb := by
  intro w hw
  simp only [u_ws, List.mem_map, List.mem_range] at hw
  obtain ⟨k, hk, rfl⟩ := hw
  match k, hk with
  | 0, _ => exact tb_m 72 (by decide +kernel) rfl
  | 1, _ => exact tb_m 74 (by decide +kernel) rfl
  | n + 2, h => exact absurd h (by omega)
theorem cw_7 : ∀ w ∈ u_ws RX7 TX7 6, w ∈ Tb := by
  intro w hw
  simp only [u_ws, List.mem_map, List.mem_range] at hw
  obtain ⟨k, hk, rfl⟩ := hw
  match k, hk with
  | 0, _ => exact tb_m 95 (by decide +kernel) rfl
  | 1, _ => exact tb_m 97 (by decide +kernel) rfl
  | 2, _ => exact tb_m 99 (by decide +kernel) rfl
  | 3, _ => exact tb_m 101 (by decide +kernel) rfl
  | 4, _ => exact tb_m 103 (by decide +kernel) rfl
  | 5, _ => exact tb_m 105 (by decide +kernel) rfl
  | n + 6, h => exact absurd h (by omega)
theorem cw_8 : ∀ w ∈ u_ws RX8 TX8 4, w ∈ Tb := by
  intro w hw
  simp only [u_ws, List.mem_map, List.mem_range] at hw
  obtain ⟨k, hk, rfl⟩ := hw
  match k, hk with
  | 0, _ => exact tb_m 164 (by decide +kernel) rfl
  | 1, _ => exact tb_m 166 (by decide +kernel) rfl
  | 2, _ => exact tb_m 168 (by decide +kernel) rfl
  | 3, _ => exact tb_m 170 (by decide +kernel) rfl
  | n + 4, h => exact absurd h (by omega)
theorem cw_9 : ∀ w ∈ u_ws RX9 TX9 8, w ∈ Tb := by
  intro w hw
  simp only [u_ws, List.mem_map, List.mem_range] at hw
  obtain ⟨k, hk, rfl⟩ := hw
  match k, hk with
  | 0, _ => exact tb_m 294 (by decide +kernel) rfl
  | 1, _ => exact tb_m 296 (by decide +kernel) rfl
  | 2, _ => exact tb_m 298 (by decide +kernel) rfl
  | 3, _ => exact tb_m 300 (by decide +kernel) rfl
  | 4, _ => exact tb_m 302 (by decide +kernel) rfl
  | 5, _ => exact tb_m 304 (by decide +kernel) rfl
  | 6, _ => exact tb_m 306 (by decide +kernel) rfl
  | 7, _ => exact tb_m 308 (by decide +kernel) rfl
  | n + 8, h => exact absurd h (by omega)
theorem cw_10 : ∀ w ∈ u_ws RX10 TX10 24, w ∈ Tb := by
  intro w hw
  simp only [u_ws, List.mem_map, List.mem_range] at hw
  obtain ⟨k, hk, rfl⟩ := hw
  match k, hk with
  | 0, _ => exact tb_m 686 (by decide +kernel) rfl
  | 1, _ => exact tb_m 688 (by decide +kernel) rfl
  | 2, _ => exact tb_m 690 (by decide +kernel) rfl
  | 3, _ => exact tb_m 692 (by decide +kernel) rfl
  | 4, _ => exact tb_m 694 (by decide +kernel) rfl
  | 5, _ => exact tb_m 696 (by decide +kernel) rfl
  | 6, _ => exact tb_m 698 (by decide +kernel) rfl
  | 7, _ => exact tb_m 700 (by decide +kernel) rfl
  | 8, _ => exact tb_m 702 (by decide +kernel) rfl
  | 9, _ => exact tb_m 704 (by decide +kernel) rfl
  | 10, _ => exact tb_m 706 (by decide +kernel) rfl
  | 11, _ => exact tb_m 708 (by decide +kernel) rfl
  | 12, _ => exact tb_m 710 (by decide +kernel) rfl
  | 13, _ => exact tb_m 712 (by decide +kernel) rfl
  | 14, _ => exact tb_m 714 (by decide +kernel) rfl
  | 15, _ => exact tb_m 716 (by decide +kernel) rfl
  | 16, _ => exact tb_m 718 (by decide +kernel) rfl
  | 17, _ => exact tb_m 720 (by decide +kernel) rfl
  | 18, _ => exact tb_m 722 (by decide +kernel) rfl
  | 19, _ => exact tb_m 724 (by decide +kernel) rfl
  | 20, _ => exact tb_m 726 (by decide +kernel) rfl
  | 21, _ => exact tb_m 728 (by decide +kernel) rfl
  | 22, _ => exact tb_m 730 (by decide +kernel) rfl
  | 23, _ => exact tb_m 732 (by decide +kernel) rfl
  | n + 24, h => exact absurd h (by omega)
end
section
/-! THE JUDGEMENT Y: a method at a pc, with locals, stack and memory (addresses relative to a base), comes to a return -/
abbrev Ly : Type := List (Nat × Nat × List (Option Nat))
abbrev Mm : Type := Nat → Nat → Int32
abbrev Sg : Type := Ly × Mm
/-- a method: name, code, locals, answer's type, room in frames and in locals' words, its instructions -/
abbrev Mi : Type := MethodName × ByteArray × Nat × Option FieldType × Nat × Nat × List (Nat × Instr × Nat)
abbrev m_y (M : Mi) : MethodName := M.1
abbrev m_c (M : Mi) : ByteArray := M.2.1
abbrev m_l (M : Mi) : Nat := M.2.2.1
abbrev m_r (M : Mi) : Option FieldType := M.2.2.2.1
abbrev m_f (M : Mi) : Nat := M.2.2.2.2.1
abbrev m_w (M : Mi) : Nat := M.2.2.2.2.2.1
abbrev m_t (M : Mi) : List (Nat × Instr × Nat) := M.2.2.2.2.2.2
def ty_c (ci k : Nat) : FieldType := match ci with
  | 0 => tyX0 k
  | 1 => tyX1 k
  | 2 => tyX2 k
  | 3 => tyX3 k
  | 4 => tyX4 k
  | 5 => tyX5 k
  | 6 => tyX6 k
  | 7 => tyX7 k
  | 8 => tyX8 k
  | 9 => tyX9 k
  | _ => tyX10 k
def is_I (t : FieldType) : Bool := match t with
  | .int => true
  | .boolean => true
  | _ => false
def cl_e (cA : Nat → ClassId) (base : Nat) (e : Nat × Nat × List (Option Nat)) (row : Nat → Int32) : va_E :=
  if e.1 < 11 then .inr (e.1, (List.range e.2.1).map (fun k => if is_I (ty_c e.1 k) = true then Value.int (row k) else va_rf ((e.2.2.getD k none).map (fun r => base + r))))
  else if e.1 < 14 then .inl (cA e.1, e.2.1, .inl row)
  else .inl (cA e.1, e.2.1, .inr (.inr (.inr (.inr (fun k => (e.2.2.getD k none).map (fun r => base + r))))))
def wd_ (cA : Nat → ClassId) (base : Nat) (σ : Sg) : va_W := σ.1.mapIdx (fun a e => (base + a, cl_e cA base e (σ.2 a)))
def ur_ (m : Mm) (a : Nat) (row : Nat → Int32) : Mm := fun b => if b = a then row else m b
def uw_ (m : Mm) (a k : Nat) (v : Int32) : Mm := fun b j => if b = a ∧ j = k then v else m b j
set_option maxHeartbeats 400000 in
theorem ur_w (m : Mm) (a k : Nat) (v : Int32) : ur_ m a (upd (m a) k v) = uw_ m a k v := by
  funext b j
  by_cases hb : b = a
  · subst hb
    by_cases hj : j = k <;> simp [ur_, uw_, upd, hj]
  · simp [ur_, uw_, hb]
set_option maxHeartbeats 400000 in
theorem wd_get {cA : Nat → ClassId} {base : Nat} {σ : Sg} {a : Nat} {e : Nat × Nat × List (Option Nat)} (h : σ.1[a]? = some e) : (wd_ cA base σ)[a]? = some (base + a, cl_e cA base e (σ.2 a)) := by
  simp [wd_, List.getElem?_mapIdx, h]
set_option maxHeartbeats 400000 in
theorem wd_inv {cA : Nat → ClassId} {base : Nat} {σ : Sg} {a : Nat} {q : Nat × va_E} (h : (wd_ cA base σ)[a]? = some q) : q.1 = base + a ∧ a < σ.1.length := by
  simp only [wd_, List.getElem?_mapIdx, Option.map_eq_some_iff] at h
  obtain ⟨e, h1, h2⟩ := h
  exact ⟨by rw [← h2], (List.getElem?_eq_some_iff.mp h1).1⟩
set_option maxHeartbeats 400000 in
theorem wd_D {cA : Nat → ClassId} {base : Nat} {σ : Sg} : va_D (fun q => base ≤ q) (wd_ cA base σ) := by
  refine ⟨fun i j p q hi hj hpq => ?_, fun k q hk => ?_⟩
  · have h1 := (wd_inv hi).1
    have h2 := (wd_inv hj).1
    omega
  · have h1 := (wd_inv hk).1
    show base ≤ q.1
    omega
set_option maxHeartbeats 400000 in
theorem wd_set {cA : Nat → ClassId} {base : Nat} {lay : Ly} {m : Mm} {a : Nat} {e e' : Nat × Nat × List (Option Nat)} {row : Nat → Int32} {E : va_E} (h : lay[a]? = some e) (hE : E = cl_e cA base e' row) :
    (wd_ cA base (lay, m)).set a (base + a, E) = wd_ cA base (lay.set a e', ur_ m a row) := by
  have ha : a < lay.length := (List.getElem?_eq_some_iff.mp h).1
  apply List.ext_getElem?
  intro i
  by_cases hi : i = a
  · subst hi
    simp [wd_, List.getElem?_mapIdx, List.getElem?_set, ha, hE, ur_]
  · simp [wd_, List.getElem?_mapIdx, List.getElem?_set, hi, Ne.symm hi, ur_]
set_option maxHeartbeats 400000 in
theorem wd_set1 {cA : Nat → ClassId} {base : Nat} {lay : Ly} {m : Mm} {a : Nat} {e : Nat × Nat × List (Option Nat)} {row : Nat → Int32} {E : va_E} (h : lay[a]? = some e) (hE : E = cl_e cA base e row) :
    (wd_ cA base (lay, m)).set a (base + a, E) = wd_ cA base (lay, ur_ m a row) := by
  rw [wd_set (e' := e) h hE]
  have : lay.set a e = lay := by
    apply List.ext_getElem?
    intro i
    by_cases hi : i = a
    · subst hi
      have ha : i < lay.length := (List.getElem?_eq_some_iff.mp h).1
      rw [List.getElem?_set, if_pos rfl, if_pos ha, h]
    · simp [List.getElem?_set, Ne.symm hi]
  rw [this]
def tr_ (base : Nat) (sp : Nat → Nat) (v : Value) : Value := match v with
  | .ref k => .ref (if k < 1000000 then base + k else sp (k - 1000000))
  | w => w
set_option maxHeartbeats 400000 in
theorem tr_cat (base : Nat) (sp : Nat → Nat) (v : Value) : (tr_ base sp v).category = v.category := by
  cases v <;> rfl
set_option maxHeartbeats 400000 in
theorem tr_ref {base : Nat} {sp : Nat → Nat} {k : Nat} (h : k < 1000000) : tr_ base sp (.ref k) = .ref (base + k) := by
  simp [tr_, h]
def Lh (base : Nat) (sp : Nat → Nat) (lsA : Array Slot) (nL : Nat) (ls : List (Option Value)) : Prop :=
  ls.length = nL ∧ lsA.size = nL ∧ lv_wf lsA ∧ ∀ (i : Nat) (v : Value), ls[i]? = some (some v) → lsA[i]? = some (.val (tr_ base sp v)) ∧ v.category = 1
def al_ (base : Nat) (sp : Nat → Nat) (ls : List (Option Value)) : List (Nat × Value) := (List.range ls.length).filterMap (fun i => ((ls[i]?).join).map (fun v => (i, tr_ base sp v)))
set_option maxHeartbeats 400000 in
theorem Lh.has {base : Nat} {sp : Nat → Nat} {lsA : Array Slot} {nL : Nat} {ls : List (Option Value)} (h : Lh base sp lsA nL ls) : lv_has lsA nL (al_ base sp ls) := by
  obtain ⟨h0, h1, h2, h3⟩ := h
  refine ⟨h1, h2, fun q hq => ?_⟩
  obtain ⟨i, -, hi⟩ := List.mem_filterMap.mp hq
  simp only [Option.map_eq_some_iff] at hi
  obtain ⟨v, hv, rfl⟩ := hi
  have : ls[i]? = some (some v) := by
    cases hh : ls[i]? with
    | none => rw [hh] at hv; cases hv
    | some w => rw [hh] at hv; cases w with
      | none => cases hv
      | some u => cases hv; rfl
  exact (h3 i v this).1
set_option maxHeartbeats 400000 in
theorem Lh.put {base : Nat} {sp : Nat → Nat} {lsA lsB : Array Slot} {nL i : Nat} {ls : List (Option Value)} {v : Value} (h : Lh base sp lsA nL ls) (hc : v.category = 1) (hi : i < ls.length)
    (hb : lv_has lsB nL ((i, tr_ base sp v) :: (al_ base sp ls).filter (fun q => !(q.1 == i) && !(q.1 + 1 == i && q.2.category == 2)))) : Lh base sp lsB nL (ls.set i (some v)) := by
  obtain ⟨h0, h1, h2, h3⟩ := h
  obtain ⟨g1, g2, g3⟩ := hb
  refine ⟨by simpa using h0, g1, g2, fun j w hj => ?_⟩
  by_cases hij : i = j
  · subst hij
    simp [List.getElem?_set, hi] at hj
    subst hj
    exact ⟨g3 (i, tr_ base sp v) List.mem_cons_self, hc⟩
  · rw [List.getElem?_set, if_neg hij] at hj
    have hw := h3 j w hj
    refine ⟨g3 (j, tr_ base sp w) (List.mem_cons_of_mem _ (List.mem_filter.mpr ⟨?_, ?_⟩)), hw.2⟩
    · refine List.mem_filterMap.mpr ⟨j, List.mem_range.mpr (List.getElem?_eq_some_iff.mp hj).1, ?_⟩
      rw [hj]
      rfl
    · have e1 : (tr_ base sp w).category = 1 := by rw [tr_cat]; exact hw.2
      have e2 : (j == i) = false := by simp [Ne.symm hij]
      simp [e1, e2]
def ty_s (cA : Nat → ClassId) : List (ClassId × FieldType) := [(cA 11, .byte), (cA 12, .int), (cA 13, .boolean), (cA 14, .object "GongHouse$Circle"), (cA 15, .object "GongHouse$Figure"), (cA 16, .object "GongHouse$Level"), (cA 17, .object "GongHouse$Sheet")]
def sl_ (lay : Ly) : Nat := (lay.map (fun e => e.2.1)).sum
def o_N (G : Nat × (Nat → Int32)) (j : Nat) : Nat := if j = 0 then G.1 else 4
def o_F (G : Nat × (Nat → Int32)) (j i : Nat) : Int32 := if j = 0 then G.2 i else if i = 0 then -1000000005 else if i = 3 then 2 else 0
def nw_ (U : State) : Prop := ∀ w ∈ NwTb, va_Nw w U
def ao_ (U : State) : Prop := va_AO "GongHouse$Circle" U ∧ va_AO "GongHouse$Figure" U ∧ va_AO "GongHouse$Level" U ∧ va_AO "GongHouse$Sheet" U
def oa_ (G : Nat × (Nat → Int32)) (base : Nat) (sp : Nat → Nat) (U : State) (H : Heap) : Prop :=
  (∀ j : Nat, j < 2 → va_T .int (sp j) (o_N G j) (fun i => .int (o_F G j i)) (fun q => base ≤ q) U H) ∧ va_Z "GongHouse" "KIND_ABOVE" "[I" (.ref (sp 1)) (fun q => base ≤ q) U H
def St_ (G : Nat × (Nat → Int32)) (D : va_G) (cA : Nat → ClassId) (base : Nat) (sp : Nat → Nat) (U : State) (H : Heap) : Prop :=
  va_K D vwCl (ty_s cA) U ∧ nw_ U ∧ ao_ U ∧ oa_ G base sp U H
def Cx (G : Nat × (Nat → Int32)) (M : Mi) (cap : Nat × Nat) (p : Program) (R : Room) (s : State) (m : MethodId) (args : Array Value) (meth : Method) (c : Code) (D : va_G) (cA : Nat → ClassId) (base : Nat) (sp : Nat → Nat) (n0 s0 : Nat) : Prop :=
  (p.tables.exec = Jvm.exec ∧ c.code = m_c M ∧ c.maxLocals = m_l M ∧ s.vm.findClass (m_y M).cls = some m.cls ∧ ∀ w ∈ Tb, w.before args s = true) ∧
  (∀ q ∈ m_t M, decode (m_c M) q.1 = .ok q.2) ∧ meth.name = (m_y M).name ∧ (m_f M ≤ R.frames ∧ m_w M ≤ R.locals ∧ cap.1 ≤ n0 + R.cells ∧ cap.2 ≤ s0 + R.slots) ∧ St_ G D cA base sp s s.heap ∧ s.heap.size = base + n0
def At_ (R : Room) (s : State) (D : va_G) (cA : Nat → ClassId) (base n0 s0 : Nat) (σ : Sg) (H : Heap) (locs : List Loc) (cells slots : Nat) : Prop :=
  va_P D vwCl (wd_ cA base σ) H ∧ σ.1.length ≤ 1000000 ∧ va_S (fun q => base ≤ q) s.heap H locs ∧ cells + n0 = σ.1.length ∧ slots + s0 = sl_ σ.1 ∧ cells ≤ R.cells ∧ slots ≤ R.slots
def Rt (M : Mi) (pc : Nat) (st : List Value) (v : Option Value) : Prop :=
  (∃ (x : Int32) (ty : FieldType), decode (m_c M) pc = .ok (.ireturn, 1) ∧ m_r M = some ty ∧ narrow ty (.int x) = .int x ∧ st = [.int x] ∧ v = some (.int x)) ∨
  (∃ (a : Nat) (ty : FieldType), decode (m_c M) pc = .ok (.areturn, 1) ∧ m_r M = some ty ∧ ((∃ n, ty = .object n) ∨ ∃ t, ty = .array t) ∧ st = [.ref a] ∧ v = some (.ref a)) ∨
  (decode (m_c M) pc = .ok (.return_, 1) ∧ m_r M = none ∧ st = [] ∧ v = none)
/-- from here the method comes to a return with the answer v and the memory σ', and Q holds of them -/
def Y (G : Nat × (Nat → Int32)) (M : Mi) (cap : Nat × Nat) (pc : Nat) (ls : List (Option Value)) (st : List Value) (σ : Sg) (Q : Option Value → Sg → Prop) : Prop :=
  ∀ (p : Program) (l : Launch) (e : Env) (R : Room) (s : State) (m : MethodId) (args : Array Value) (below : List Frame) (meth : Method) (c : Code) (D : va_G) (cA : Nat → ClassId) (base : Nat) (sp : Nat → Nat) (n0 s0 : Nat) (Z : State → Prop),
  Cx G M cap p R s m args meth c D cA base sp n0 s0 →
  (∀ (H : Heap) (locs : List Loc) (lsA : Array Slot) (cells slots pc' : Nat) (st' : List Value) (v : Option Value) (σ' : Sg), At_ R s D cA base n0 s0 σ' H locs cells slots → Rt M pc' st' v → Q v σ' → W p l e R s m args below meth c H locs cells slots Z (F0 m pc' lsA (st'.map (tr_ base sp)))) →
  ∀ (H : Heap) (locs : List Loc) (lsA : Array Slot) (cells slots : Nat), At_ R s D cA base n0 s0 σ H locs cells slots → Lh base sp lsA (m_l M) ls → W p l e R s m args below meth c H locs cells slots Z (F0 m pc lsA (st.map (tr_ base sp)))
set_option maxHeartbeats 400000 in
theorem Cx.dec {G : Nat × (Nat → Int32)} {M : Mi} {cap : Nat × Nat} {p : Program} {R : Room} {s : State} {m : MethodId} {args : Array Value} {meth : Method} {c : Code} {D : va_G} {cA : Nat → ClassId} {base : Nat} {sp : Nat → Nat} {n0 s0 : Nat} (C : Cx G M cap p R s m args meth c D cA base sp n0 s0) {i pc ln : Nat} {ins : Instr} (h : (m_t M)[i]? = some (pc, ins, ln)) : decode (m_c M) pc = .ok (ins, ln) := C.2.1 (pc, ins, ln) (List.mem_of_getElem? h)
set_option maxHeartbeats 400000 in
theorem Cx.ex {G : Nat × (Nat → Int32)} {M : Mi} {cap : Nat × Nat} {p : Program} {R : Room} {s : State} {m : MethodId} {args : Array Value} {meth : Method} {c : Code} {D : va_G} {cA : Nat → ClassId} {base : Nat} {sp : Nat → Nat} {n0 s0 : Nat} (C : Cx G M cap p R s m args meth c D cA base sp n0 s0) : p.tables.exec = Jvm.exec := C.1.1
set_option maxHeartbeats 400000 in
theorem Cx.by {G : Nat × (Nat → Int32)} {M : Mi} {cap : Nat × Nat} {p : Program} {R : Room} {s : State} {m : MethodId} {args : Array Value} {meth : Method} {c : Code} {D : va_G} {cA : Nat → ClassId} {base : Nat} {sp : Nat → Nat} {n0 s0 : Nat} (C : Cx G M cap p R s m args meth c D cA base sp n0 s0) : c.code = m_c M := C.1.2.1
set_option maxHeartbeats 400000 in
theorem Cx.ml {G : Nat × (Nat → Int32)} {M : Mi} {cap : Nat × Nat} {p : Program} {R : Room} {s : State} {m : MethodId} {args : Array Value} {meth : Method} {c : Code} {D : va_G} {cA : Nat → ClassId} {base : Nat} {sp : Nat → Nat} {n0 s0 : Nat} (C : Cx G M cap p R s m args meth c D cA base sp n0 s0) : c.maxLocals = m_l M := C.1.2.2.1
set_option maxHeartbeats 400000 in
theorem Cx.ow {G : Nat × (Nat → Int32)} {M : Mi} {cap : Nat × Nat} {p : Program} {R : Room} {s : State} {m : MethodId} {args : Array Value} {meth : Method} {c : Code} {D : va_G} {cA : Nat → ClassId} {base : Nat} {sp : Nat → Nat} {n0 s0 : Nat} (C : Cx G M cap p R s m args meth c D cA base sp n0 s0) : s.vm.findClass (m_y M).cls = some m.cls := C.1.2.2.2.1
set_option maxHeartbeats 400000 in
theorem Cx.ts {G : Nat × (Nat → Int32)} {M : Mi} {cap : Nat × Nat} {p : Program} {R : Room} {s : State} {m : MethodId} {args : Array Value} {meth : Method} {c : Code} {D : va_G} {cA : Nat → ClassId} {base : Nat} {sp : Nat → Nat} {n0 s0 : Nat} (C : Cx G M cap p R s m args meth c D cA base sp n0 s0) : ∀ w ∈ Tb, w.before args s = true := C.1.2.2.2.2
set_option maxHeartbeats 400000 in
theorem Cx.fix {G : Nat × (Nat → Int32)} {M : Mi} {cap : Nat × Nat} {p : Program} {R : Room} {s : State} {m : MethodId} {args : Array Value} {meth : Method} {c : Code} {D : va_G} {cA : Nat → ClassId} {base : Nat} {sp : Nat → Nat} {n0 s0 : Nat} (C : Cx G M cap p R s m args meth c D cA base sp n0 s0) : CallFix p m c (m_c M) (m_l M) s args Tb (m_y M).cls := C.1
set_option maxHeartbeats 400000 in
theorem Cx.nm {G : Nat × (Nat → Int32)} {M : Mi} {cap : Nat × Nat} {p : Program} {R : Room} {s : State} {m : MethodId} {args : Array Value} {meth : Method} {c : Code} {D : va_G} {cA : Nat → ClassId} {base : Nat} {sp : Nat → Nat} {n0 s0 : Nat} (C : Cx G M cap p R s m args meth c D cA base sp n0 s0) : meth.name = (m_y M).name := C.2.2.1
set_option maxHeartbeats 400000 in
theorem Cx.rm {G : Nat × (Nat → Int32)} {M : Mi} {cap : Nat × Nat} {p : Program} {R : Room} {s : State} {m : MethodId} {args : Array Value} {meth : Method} {c : Code} {D : va_G} {cA : Nat → ClassId} {base : Nat} {sp : Nat → Nat} {n0 s0 : Nat} (C : Cx G M cap p R s m args meth c D cA base sp n0 s0) : m_f M ≤ R.frames ∧ m_w M ≤ R.locals ∧ cap.1 ≤ n0 + R.cells ∧ cap.2 ≤ s0 + R.slots := C.2.2.2.1
set_option maxHeartbeats 400000 in
theorem Cx.st {G : Nat × (Nat → Int32)} {M : Mi} {cap : Nat × Nat} {p : Program} {R : Room} {s : State} {m : MethodId} {args : Array Value} {meth : Method} {c : Code} {D : va_G} {cA : Nat → ClassId} {base : Nat} {sp : Nat → Nat} {n0 s0 : Nat} (C : Cx G M cap p R s m args meth c D cA base sp n0 s0) : St_ G D cA base sp s s.heap := C.2.2.2.2.1
set_option maxHeartbeats 400000 in
theorem Cx.sz {G : Nat × (Nat → Int32)} {M : Mi} {cap : Nat × Nat} {p : Program} {R : Room} {s : State} {m : MethodId} {args : Array Value} {meth : Method} {c : Code} {D : va_G} {cA : Nat → ClassId} {base : Nat} {sp : Nat → Nat} {n0 s0 : Nat} (C : Cx G M cap p R s m args meth c D cA base sp n0 s0) : s.heap.size = base + n0 := C.2.2.2.2.2
set_option maxHeartbeats 400000 in
theorem Y.mono {G : Nat × (Nat → Int32)} {M : Mi} {cap : Nat × Nat} {pc : Nat} {ls : List (Option Value)} {st : List Value} {σ : Sg} {Q Q' : Option Value → Sg → Prop} (h : Y G M cap pc ls st σ Q) (hq : ∀ v σ', Q v σ' → Q' v σ') : Y G M cap pc ls st σ Q' :=
  fun p l e R s m args below meth c D cA base sp n0 s0 Z C fin => h p l e R s m args below meth c D cA base sp n0 s0 Z C (fun H locs lsA cells slots pc' st' v σ' hA hR hQ => fin H locs lsA cells slots pc' st' v σ' hA hR (hq v σ' hQ))

section Y1
variable {G : Nat × (Nat → Int32)} {M : Mi} {cap : Nat × Nat} {pc pc2 : Nat} {ls ls2 : List (Option Value)} {st : List Value} {σ : Sg} {Q : Option Value → Sg → Prop}
set_option maxHeartbeats 400000 in
theorem Y_iconst {n : Int} {v : Int32} (i : Nat) (h : (m_t M)[i]? = some (pc, .iconst n, 1)) (hp : pc + 1 = pc2) (hv : Int32.ofInt n = v) (k : Y G M cap pc2 ls (.int v :: st) σ Q) : Y G M cap pc ls (st) σ Q := by
  intro p l e R s m args below meth c D cA base sp n0 s0 Z C fin H locs lsA cells slots hA hL
  subst hp
  exact lv_iconst C.ex C.by (C.dec h) hv (k p l e R s m args below meth c D cA base sp n0 s0 Z C fin H locs lsA cells slots hA hL)
set_option maxHeartbeats 400000 in
theorem Y_bipush {n : Int} {v : Int32} (i : Nat) (h : (m_t M)[i]? = some (pc, .bipush n, 2)) (hp : pc + 2 = pc2) (hv : (Int8.ofInt n).toInt32 = v) (k : Y G M cap pc2 ls (.int v :: st) σ Q) : Y G M cap pc ls (st) σ Q := by
  intro p l e R s m args below meth c D cA base sp n0 s0 Z C fin H locs lsA cells slots hA hL
  subst hp
  exact lv_bipush C.ex C.by (C.dec h) hv (k p l e R s m args below meth c D cA base sp n0 s0 Z C fin H locs lsA cells slots hA hL)
set_option maxHeartbeats 400000 in
theorem Y_sipush {n : Int} {v : Int32} (i : Nat) (h : (m_t M)[i]? = some (pc, .sipush n, 3)) (hp : pc + 3 = pc2) (hv : (Int16.ofInt n).toInt32 = v) (k : Y G M cap pc2 ls (.int v :: st) σ Q) : Y G M cap pc ls (st) σ Q := by
  intro p l e R s m args below meth c D cA base sp n0 s0 Z C fin H locs lsA cells slots hA hL
  subst hp
  exact lv_sipush C.ex C.by (C.dec h) hv (k p l e R s m args below meth c D cA base sp n0 s0 Z C fin H locs lsA cells slots hA hL)
set_option maxHeartbeats 400000 in
theorem Y_iadd {x y : Int32} (i : Nat) (h : (m_t M)[i]? = some (pc, .iadd, 1)) (hp : pc + 1 = pc2) (k : Y G M cap pc2 ls (.int (x + y) :: st) σ Q) : Y G M cap pc ls (.int y :: .int x :: st) σ Q := by
  intro p l e R s m args below meth c D cA base sp n0 s0 Z C fin H locs lsA cells slots hA hL
  subst hp
  exact lv_iadd C.ex C.by (C.dec h) (k p l e R s m args below meth c D cA base sp n0 s0 Z C fin H locs lsA cells slots hA hL)
set_option maxHeartbeats 400000 in
theorem Y_isub {x y : Int32} (i : Nat) (h : (m_t M)[i]? = some (pc, .isub, 1)) (hp : pc + 1 = pc2) (k : Y G M cap pc2 ls (.int (x - y) :: st) σ Q) : Y G M cap pc ls (.int y :: .int x :: st) σ Q := by
  intro p l e R s m args below meth c D cA base sp n0 s0 Z C fin H locs lsA cells slots hA hL
  subst hp
  exact lv_isub C.ex C.by (C.dec h) (k p l e R s m args below meth c D cA base sp n0 s0 Z C fin H locs lsA cells slots hA hL)
set_option maxHeartbeats 400000 in
theorem Y_imul {x y : Int32} (i : Nat) (h : (m_t M)[i]? = some (pc, .imul, 1)) (hp : pc + 1 = pc2) (k : Y G M cap pc2 ls (.int (x * y) :: st) σ Q) : Y G M cap pc ls (.int y :: .int x :: st) σ Q := by
  intro p l e R s m args below meth c D cA base sp n0 s0 Z C fin H locs lsA cells slots hA hL
  subst hp
  exact lv_imul C.ex C.by (C.dec h) (k p l e R s m args below meth c D cA base sp n0 s0 Z C fin H locs lsA cells slots hA hL)
set_option maxHeartbeats 400000 in
theorem Y_iand {x y : Int32} (i : Nat) (h : (m_t M)[i]? = some (pc, .iand, 1)) (hp : pc + 1 = pc2) (k : Y G M cap pc2 ls (.int (x &&& y) :: st) σ Q) : Y G M cap pc ls (.int y :: .int x :: st) σ Q := by
  intro p l e R s m args below meth c D cA base sp n0 s0 Z C fin H locs lsA cells slots hA hL
  subst hp
  exact lv_iand C.ex C.by (C.dec h) (k p l e R s m args below meth c D cA base sp n0 s0 Z C fin H locs lsA cells slots hA hL)
set_option maxHeartbeats 400000 in
theorem Y_ishl {x y : Int32} (i : Nat) (h : (m_t M)[i]? = some (pc, .ishl, 1)) (hp : pc + 1 = pc2) (k : Y G M cap pc2 ls (.int (x <<< (y &&& 31)) :: st) σ Q) : Y G M cap pc ls (.int y :: .int x :: st) σ Q := by
  intro p l e R s m args below meth c D cA base sp n0 s0 Z C fin H locs lsA cells slots hA hL
  subst hp
  exact lv_ishl C.ex C.by (C.dec h) (k p l e R s m args below meth c D cA base sp n0 s0 Z C fin H locs lsA cells slots hA hL)
set_option maxHeartbeats 400000 in
theorem Y_ishr {x y : Int32} (i : Nat) (h : (m_t M)[i]? = some (pc, .ishr, 1)) (hp : pc + 1 = pc2) (k : Y G M cap pc2 ls (.int (x >>> (y &&& 31)) :: st) σ Q) : Y G M cap pc ls (.int y :: .int x :: st) σ Q := by
  intro p l e R s m args below meth c D cA base sp n0 s0 Z C fin H locs lsA cells slots hA hL
  subst hp
  exact lv_ishr C.ex C.by (C.dec h) (k p l e R s m args below meth c D cA base sp n0 s0 Z C fin H locs lsA cells slots hA hL)
set_option maxHeartbeats 400000 in
theorem Y_idiv {x y : Int32} (i : Nat) (h : (m_t M)[i]? = some (pc, .idiv, 1)) (hp : pc + 1 = pc2) (hne : ¬ y = 0) (k : Y G M cap pc2 ls (.int (x / y) :: st) σ Q) : Y G M cap pc ls (.int y :: .int x :: st) σ Q := by
  intro p l e R s m args below meth c D cA base sp n0 s0 Z C fin H locs lsA cells slots hA hL
  subst hp
  exact lv_idiv C.ex C.by (C.dec h) hne (k p l e R s m args below meth c D cA base sp n0 s0 Z C fin H locs lsA cells slots hA hL)
set_option maxHeartbeats 400000 in
theorem Y_irem {x y : Int32} (i : Nat) (h : (m_t M)[i]? = some (pc, .irem, 1)) (hp : pc + 1 = pc2) (hne : ¬ y = 0) (k : Y G M cap pc2 ls (.int (x - x / y * y) :: st) σ Q) : Y G M cap pc ls (.int y :: .int x :: st) σ Q := by
  intro p l e R s m args below meth c D cA base sp n0 s0 Z C fin H locs lsA cells slots hA hL
  subst hp
  exact lv_irem C.ex C.by (C.dec h) hne (k p l e R s m args below meth c D cA base sp n0 s0 Z C fin H locs lsA cells slots hA hL)
set_option maxHeartbeats 400000 in
theorem Y_i2l {x : Int32} {v : Int64} (i : Nat) (h : (m_t M)[i]? = some (pc, .i2l, 1)) (hp : pc + 1 = pc2) (hv : x.toInt64 = v) (k : Y G M cap pc2 ls (.long v :: st) σ Q) : Y G M cap pc ls (.int x :: st) σ Q := by
  intro p l e R s m args below meth c D cA base sp n0 s0 Z C fin H locs lsA cells slots hA hL
  subst hp
  exact lv_i2l C.ex C.by (C.dec h) hv (k p l e R s m args below meth c D cA base sp n0 s0 Z C fin H locs lsA cells slots hA hL)
set_option maxHeartbeats 400000 in
theorem Y_i2b {x v : Int32} (i : Nat) (h : (m_t M)[i]? = some (pc, .i2b, 1)) (hp : pc + 1 = pc2) (hv : x.toInt8.toInt32 = v) (k : Y G M cap pc2 ls (.int v :: st) σ Q) : Y G M cap pc ls (.int x :: st) σ Q := by
  intro p l e R s m args below meth c D cA base sp n0 s0 Z C fin H locs lsA cells slots hA hL
  subst hp
  exact lv_i2b C.ex C.by (C.dec h) hv (k p l e R s m args below meth c D cA base sp n0 s0 Z C fin H locs lsA cells slots hA hL)
set_option maxHeartbeats 400000 in
theorem Y_ladd {x y : Int64} (i : Nat) (h : (m_t M)[i]? = some (pc, .ladd, 1)) (hp : pc + 1 = pc2) (k : Y G M cap pc2 ls (.long (x + y) :: st) σ Q) : Y G M cap pc ls (.long y :: .long x :: st) σ Q := by
  intro p l e R s m args below meth c D cA base sp n0 s0 Z C fin H locs lsA cells slots hA hL
  subst hp
  exact lv_ladd C.ex C.by (C.dec h) (k p l e R s m args below meth c D cA base sp n0 s0 Z C fin H locs lsA cells slots hA hL)
set_option maxHeartbeats 400000 in
theorem Y_lcmp {x y : Int64} (i : Nat) (h : (m_t M)[i]? = some (pc, .lcmp, 1)) (hp : pc + 1 = pc2) (k : Y G M cap pc2 ls (.int (lg_cmp x y) :: st) σ Q) : Y G M cap pc ls (.long y :: .long x :: st) σ Q := by
  intro p l e R s m args below meth c D cA base sp n0 s0 Z C fin H locs lsA cells slots hA hL
  subst hp
  exact W.lcmp C.ex C.by (C.dec h) (k p l e R s m args below meth c D cA base sp n0 s0 Z C fin H locs lsA cells slots hA hL)
set_option maxHeartbeats 400000 in
theorem Y_dup {v : Value} (i : Nat) (h : (m_t M)[i]? = some (pc, .dup, 1)) (hp : pc + 1 = pc2) (hc : v.category = 1) (k : Y G M cap pc2 ls (v :: v :: st) σ Q) : Y G M cap pc ls (v :: st) σ Q := by
  intro p l e R s m args below meth c D cA base sp n0 s0 Z C fin H locs lsA cells slots hA hL
  subst hp
  exact lv_dup C.ex C.by (C.dec h) (by rw [tr_cat]; exact hc) (k p l e R s m args below meth c D cA base sp n0 s0 Z C fin H locs lsA cells slots hA hL)
set_option maxHeartbeats 400000 in
theorem Y_pop {v : Value} (i : Nat) (h : (m_t M)[i]? = some (pc, .pop, 1)) (hp : pc + 1 = pc2) (hc : v.category = 1) (k : Y G M cap pc2 ls (st) σ Q) : Y G M cap pc ls (v :: st) σ Q := by
  intro p l e R s m args below meth c D cA base sp n0 s0 Z C fin H locs lsA cells slots hA hL
  subst hp
  exact lv_pop C.ex C.by (C.dec h) (by rw [tr_cat]; exact hc) (k p l e R s m args below meth c D cA base sp n0 s0 Z C fin H locs lsA cells slots hA hL)
set_option maxHeartbeats 400000 in
theorem Y_iload_n {j : Fin 4} {x : Int32} (i : Nat) (h : (m_t M)[i]? = some (pc, .iload_n j, 1)) (hp : pc + 1 = pc2) (hl : ls[(j : Nat)]? = some (some (.int x))) (k : Y G M cap pc2 ls (.int x :: st) σ Q) : Y G M cap pc ls st σ Q := by
  intro p l e R s m args below meth c D cA base sp n0 s0 Z C fin H locs lsA cells slots hA hL
  subst hp
  exact lv_iload_n C.ex C.by (C.dec h) rfl (hL.2.2.2 _ _ hl).1 (k p l e R s m args below meth c D cA base sp n0 s0 Z C fin H locs lsA cells slots hA hL)
set_option maxHeartbeats 400000 in
theorem Y_iload {j : Nat} {x : Int32} (i : Nat) (h : (m_t M)[i]? = some (pc, .iload j, 2)) (hp : pc + 2 = pc2) (hl : ls[j]? = some (some (.int x))) (k : Y G M cap pc2 ls (.int x :: st) σ Q) : Y G M cap pc ls st σ Q := by
  intro p l e R s m args below meth c D cA base sp n0 s0 Z C fin H locs lsA cells slots hA hL
  subst hp
  exact lv_iload C.ex C.by (C.dec h) (hL.2.2.2 _ _ hl).1 (k p l e R s m args below meth c D cA base sp n0 s0 Z C fin H locs lsA cells slots hA hL)
set_option maxHeartbeats 400000 in
theorem Y_aload_n {j : Fin 4} {x : Nat} (i : Nat) (h : (m_t M)[i]? = some (pc, .aload_n j, 1)) (hp : pc + 1 = pc2) (hl : ls[(j : Nat)]? = some (some (.ref x))) (k : Y G M cap pc2 ls (.ref x :: st) σ Q) : Y G M cap pc ls st σ Q := by
  intro p l e R s m args below meth c D cA base sp n0 s0 Z C fin H locs lsA cells slots hA hL
  subst hp
  exact lv_aload_n C.ex C.by (C.dec h) rfl (hL.2.2.2 _ _ hl).1 (k p l e R s m args below meth c D cA base sp n0 s0 Z C fin H locs lsA cells slots hA hL)
set_option maxHeartbeats 400000 in
theorem Y_aload {j : Nat} {x : Nat} (i : Nat) (h : (m_t M)[i]? = some (pc, .aload j, 2)) (hp : pc + 2 = pc2) (hl : ls[j]? = some (some (.ref x))) (k : Y G M cap pc2 ls (.ref x :: st) σ Q) : Y G M cap pc ls st σ Q := by
  intro p l e R s m args below meth c D cA base sp n0 s0 Z C fin H locs lsA cells slots hA hL
  subst hp
  exact lv_aload C.ex C.by (C.dec h) (hL.2.2.2 _ _ hl).1 (k p l e R s m args below meth c D cA base sp n0 s0 Z C fin H locs lsA cells slots hA hL)
set_option maxHeartbeats 400000 in
theorem Y_istore_n {j : Fin 4} {x : Int32} (i : Nat) (h : (m_t M)[i]? = some (pc, .istore_n j, 1)) (hp : pc + 1 = pc2) (hi : (j : Nat) < ls.length) (hs : ls.set (j : Nat) (some (.int x)) = ls2) (k : Y G M cap pc2 ls2 st σ Q) : Y G M cap pc ls (.int x :: st) σ Q := by
  intro p l e R s m args below meth c D cA base sp n0 s0 Z C fin H locs lsA cells slots hA hL
  subst hp; subst hs
  exact lv_istore_n C.ex C.by (C.dec h) rfl hL.has (by rw [← hL.1]; exact hi) rfl (fun lsB hB => k p l e R s m args below meth c D cA base sp n0 s0 Z C fin H locs lsB cells slots hA (hL.put (v := .int x) rfl hi hB))
set_option maxHeartbeats 400000 in
theorem Y_istore {j : Nat} {x : Int32} (i : Nat) (h : (m_t M)[i]? = some (pc, .istore j, 2)) (hp : pc + 2 = pc2) (hi : j < ls.length) (hs : ls.set j (some (.int x)) = ls2) (k : Y G M cap pc2 ls2 st σ Q) : Y G M cap pc ls (.int x :: st) σ Q := by
  intro p l e R s m args below meth c D cA base sp n0 s0 Z C fin H locs lsA cells slots hA hL
  subst hp; subst hs
  exact lv_istore C.ex C.by (C.dec h) hL.has (by rw [← hL.1]; exact hi) rfl (fun lsB hB => k p l e R s m args below meth c D cA base sp n0 s0 Z C fin H locs lsB cells slots hA (hL.put (v := .int x) rfl hi hB))
set_option maxHeartbeats 400000 in
theorem Y_astore_n {j : Fin 4} {x : Nat} (i : Nat) (h : (m_t M)[i]? = some (pc, .astore_n j, 1)) (hp : pc + 1 = pc2) (hi : (j : Nat) < ls.length) (hs : ls.set (j : Nat) (some (.ref x)) = ls2) (k : Y G M cap pc2 ls2 st σ Q) : Y G M cap pc ls (.ref x :: st) σ Q := by
  intro p l e R s m args below meth c D cA base sp n0 s0 Z C fin H locs lsA cells slots hA hL
  subst hp; subst hs
  exact lv_astore_n C.ex C.by (C.dec h) rfl hL.has (by rw [← hL.1]; exact hi) rfl (fun lsB hB => k p l e R s m args below meth c D cA base sp n0 s0 Z C fin H locs lsB cells slots hA (hL.put (v := .ref x) rfl hi hB))
set_option maxHeartbeats 400000 in
theorem Y_astore {j : Nat} {x : Nat} (i : Nat) (h : (m_t M)[i]? = some (pc, .astore j, 2)) (hp : pc + 2 = pc2) (hi : j < ls.length) (hs : ls.set j (some (.ref x)) = ls2) (k : Y G M cap pc2 ls2 st σ Q) : Y G M cap pc ls (.ref x :: st) σ Q := by
  intro p l e R s m args below meth c D cA base sp n0 s0 Z C fin H locs lsA cells slots hA hL
  subst hp; subst hs
  exact lv_astore C.ex C.by (C.dec h) hL.has (by rw [← hL.1]; exact hi) rfl (fun lsB hB => k p l e R s m args below meth c D cA base sp n0 s0 Z C fin H locs lsB cells slots hA (hL.put (v := .ref x) rfl hi hB))
set_option maxHeartbeats 400000 in
theorem Y_iinc {j : Nat} {n : Int} {x v : Int32} (i : Nat) (h : (m_t M)[i]? = some (pc, .iinc j n, 3)) (hp : pc + 3 = pc2) (hl : ls[j]? = some (some (.int x))) (hv : x + Int32.ofInt n = v) (hs : ls.set j (some (.int v)) = ls2) (k : Y G M cap pc2 ls2 st σ Q) : Y G M cap pc ls st σ Q := by
  intro p l e R s m args below meth c D cA base sp n0 s0 Z C fin H locs lsA cells slots hA hL
  subst hp; subst hs
  have hi : j < ls.length := (List.getElem?_eq_some_iff.mp hl).1
  have hm : (j, tr_ base sp (.int x)) ∈ al_ base sp ls := List.mem_filterMap.mpr ⟨j, List.mem_range.mpr hi, by rw [hl]; rfl⟩
  obtain ⟨t, ht⟩ := List.getElem?_of_mem hm
  exact lv_iinc C.ex C.by (C.dec h) hL.has ht hv (by rw [← hL.1]; exact hi) rfl (fun lsB hB => k p l e R s m args below meth c D cA base sp n0 s0 Z C fin H locs lsB cells slots hA (hL.put (v := .int v) rfl hi hB))
set_option maxHeartbeats 400000 in
theorem Y_goto {off : Int} (i : Nat) (h : (m_t M)[i]? = some (pc, .goto off, 3)) (ht : (pc : Int) + off = (pc2 : Int)) (k : Y G M cap pc2 ls st σ Q) : Y G M cap pc ls st σ Q := by
  intro p l e R s m args below meth c D cA base sp n0 s0 Z C fin H locs lsA cells slots hA hL
  exact lv_goto C.ex C.by (C.dec h) ht (k p l e R s m args below meth c D cA base sp n0 s0 Z C fin H locs lsA cells slots hA hL)
set_option maxHeartbeats 400000 in
theorem Y_if_eq {off : Int} {x : Int32} {tgt : Nat} (i : Nat) (h : (m_t M)[i]? = some (pc, .ifCond .eq off, 3)) (hp : pc + 3 = pc2) (ht : (pc : Int) + off = (tgt : Int)) (kt : x = 0 → Y G M cap tgt ls st σ Q) (kf : ¬ x = 0 → Y G M cap pc2 ls st σ Q) : Y G M cap pc ls (.int x :: st) σ Q := by
  intro p l e R s m args below meth c D cA base sp n0 s0 Z C fin H locs lsA cells slots hA hL
  subst hp
  exact lv_if_eq C.ex C.by (C.dec h) ht (fun hq => kt hq p l e R s m args below meth c D cA base sp n0 s0 Z C fin H locs lsA cells slots hA hL) (fun hq => kf hq p l e R s m args below meth c D cA base sp n0 s0 Z C fin H locs lsA cells slots hA hL)
set_option maxHeartbeats 400000 in
theorem Y_if_ne {off : Int} {x : Int32} {tgt : Nat} (i : Nat) (h : (m_t M)[i]? = some (pc, .ifCond .ne off, 3)) (hp : pc + 3 = pc2) (ht : (pc : Int) + off = (tgt : Int)) (kt : ¬ x = 0 → Y G M cap tgt ls st σ Q) (kf : x = 0 → Y G M cap pc2 ls st σ Q) : Y G M cap pc ls (.int x :: st) σ Q := by
  intro p l e R s m args below meth c D cA base sp n0 s0 Z C fin H locs lsA cells slots hA hL
  subst hp
  exact lv_if_ne C.ex C.by (C.dec h) ht (fun hq => kt hq p l e R s m args below meth c D cA base sp n0 s0 Z C fin H locs lsA cells slots hA hL) (fun hq => kf hq p l e R s m args below meth c D cA base sp n0 s0 Z C fin H locs lsA cells slots hA hL)
set_option maxHeartbeats 400000 in
theorem Y_if_lt {off : Int} {x : Int32} {tgt : Nat} (i : Nat) (h : (m_t M)[i]? = some (pc, .ifCond .lt off, 3)) (hp : pc + 3 = pc2) (ht : (pc : Int) + off = (tgt : Int)) (kt : x < 0 → Y G M cap tgt ls st σ Q) (kf : ¬ x < 0 → Y G M cap pc2 ls st σ Q) : Y G M cap pc ls (.int x :: st) σ Q := by
  intro p l e R s m args below meth c D cA base sp n0 s0 Z C fin H locs lsA cells slots hA hL
  subst hp
  exact lv_if_lt C.ex C.by (C.dec h) ht (fun hq => kt hq p l e R s m args below meth c D cA base sp n0 s0 Z C fin H locs lsA cells slots hA hL) (fun hq => kf hq p l e R s m args below meth c D cA base sp n0 s0 Z C fin H locs lsA cells slots hA hL)
set_option maxHeartbeats 400000 in
theorem Y_if_ge {off : Int} {x : Int32} {tgt : Nat} (i : Nat) (h : (m_t M)[i]? = some (pc, .ifCond .ge off, 3)) (hp : pc + 3 = pc2) (ht : (pc : Int) + off = (tgt : Int)) (kt : 0 ≤ x → Y G M cap tgt ls st σ Q) (kf : ¬ 0 ≤ x → Y G M cap pc2 ls st σ Q) : Y G M cap pc ls (.int x :: st) σ Q := by
  intro p l e R s m args below meth c D cA base sp n0 s0 Z C fin H locs lsA cells slots hA hL
  subst hp
  exact lv_if_ge C.ex C.by (C.dec h) ht (fun hq => kt hq p l e R s m args below meth c D cA base sp n0 s0 Z C fin H locs lsA cells slots hA hL) (fun hq => kf hq p l e R s m args below meth c D cA base sp n0 s0 Z C fin H locs lsA cells slots hA hL)
set_option maxHeartbeats 400000 in
theorem Y_if_gt {off : Int} {x : Int32} {tgt : Nat} (i : Nat) (h : (m_t M)[i]? = some (pc, .ifCond .gt off, 3)) (hp : pc + 3 = pc2) (ht : (pc : Int) + off = (tgt : Int)) (kt : 0 < x → Y G M cap tgt ls st σ Q) (kf : ¬ 0 < x → Y G M cap pc2 ls st σ Q) : Y G M cap pc ls (.int x :: st) σ Q := by
  intro p l e R s m args below meth c D cA base sp n0 s0 Z C fin H locs lsA cells slots hA hL
  subst hp
  exact lv_if_gt C.ex C.by (C.dec h) ht (fun hq => kt hq p l e R s m args below meth c D cA base sp n0 s0 Z C fin H locs lsA cells slots hA hL) (fun hq => kf hq p l e R s m args below meth c D cA base sp n0 s0 Z C fin H locs lsA cells slots hA hL)
set_option maxHeartbeats 400000 in
theorem Y_if_le {off : Int} {x : Int32} {tgt : Nat} (i : Nat) (h : (m_t M)[i]? = some (pc, .ifCond .le off, 3)) (hp : pc + 3 = pc2) (ht : (pc : Int) + off = (tgt : Int)) (kt : x ≤ 0 → Y G M cap tgt ls st σ Q) (kf : ¬ x ≤ 0 → Y G M cap pc2 ls st σ Q) : Y G M cap pc ls (.int x :: st) σ Q := by
  intro p l e R s m args below meth c D cA base sp n0 s0 Z C fin H locs lsA cells slots hA hL
  subst hp
  exact lv_if_le C.ex C.by (C.dec h) ht (fun hq => kt hq p l e R s m args below meth c D cA base sp n0 s0 Z C fin H locs lsA cells slots hA hL) (fun hq => kf hq p l e R s m args below meth c D cA base sp n0 s0 Z C fin H locs lsA cells slots hA hL)
set_option maxHeartbeats 400000 in
theorem Y_icmp_eq {off : Int} {x y : Int32} {tgt : Nat} (i : Nat) (h : (m_t M)[i]? = some (pc, .if_icmp .eq off, 3)) (hp : pc + 3 = pc2) (ht : (pc : Int) + off = (tgt : Int)) (kt : x = y → Y G M cap tgt ls st σ Q) (kf : ¬ x = y → Y G M cap pc2 ls st σ Q) : Y G M cap pc ls (.int y :: .int x :: st) σ Q := by
  intro p l e R s m args below meth c D cA base sp n0 s0 Z C fin H locs lsA cells slots hA hL
  subst hp
  exact lv_icmp_eq C.ex C.by (C.dec h) ht (fun hq => kt hq p l e R s m args below meth c D cA base sp n0 s0 Z C fin H locs lsA cells slots hA hL) (fun hq => kf hq p l e R s m args below meth c D cA base sp n0 s0 Z C fin H locs lsA cells slots hA hL)
set_option maxHeartbeats 400000 in
theorem Y_icmp_ne {off : Int} {x y : Int32} {tgt : Nat} (i : Nat) (h : (m_t M)[i]? = some (pc, .if_icmp .ne off, 3)) (hp : pc + 3 = pc2) (ht : (pc : Int) + off = (tgt : Int)) (kt : ¬ x = y → Y G M cap tgt ls st σ Q) (kf : x = y → Y G M cap pc2 ls st σ Q) : Y G M cap pc ls (.int y :: .int x :: st) σ Q := by
  intro p l e R s m args below meth c D cA base sp n0 s0 Z C fin H locs lsA cells slots hA hL
  subst hp
  exact lv_icmp_ne C.ex C.by (C.dec h) ht (fun hq => kt hq p l e R s m args below meth c D cA base sp n0 s0 Z C fin H locs lsA cells slots hA hL) (fun hq => kf hq p l e R s m args below meth c D cA base sp n0 s0 Z C fin H locs lsA cells slots hA hL)
set_option maxHeartbeats 400000 in
theorem Y_icmp_lt {off : Int} {x y : Int32} {tgt : Nat} (i : Nat) (h : (m_t M)[i]? = some (pc, .if_icmp .lt off, 3)) (hp : pc + 3 = pc2) (ht : (pc : Int) + off = (tgt : Int)) (kt : x < y → Y G M cap tgt ls st σ Q) (kf : ¬ x < y → Y G M cap pc2 ls st σ Q) : Y G M cap pc ls (.int y :: .int x :: st) σ Q := by
  intro p l e R s m args below meth c D cA base sp n0 s0 Z C fin H locs lsA cells slots hA hL
  subst hp
  exact lv_icmp_lt C.ex C.by (C.dec h) ht (fun hq => kt hq p l e R s m args below meth c D cA base sp n0 s0 Z C fin H locs lsA cells slots hA hL) (fun hq => kf hq p l e R s m args below meth c D cA base sp n0 s0 Z C fin H locs lsA cells slots hA hL)
set_option maxHeartbeats 400000 in
theorem Y_icmp_ge {off : Int} {x y : Int32} {tgt : Nat} (i : Nat) (h : (m_t M)[i]? = some (pc, .if_icmp .ge off, 3)) (hp : pc + 3 = pc2) (ht : (pc : Int) + off = (tgt : Int)) (kt : y ≤ x → Y G M cap tgt ls st σ Q) (kf : ¬ y ≤ x → Y G M cap pc2 ls st σ Q) : Y G M cap pc ls (.int y :: .int x :: st) σ Q := by
  intro p l e R s m args below meth c D cA base sp n0 s0 Z C fin H locs lsA cells slots hA hL
  subst hp
  exact lv_icmp_ge C.ex C.by (C.dec h) ht (fun hq => kt hq p l e R s m args below meth c D cA base sp n0 s0 Z C fin H locs lsA cells slots hA hL) (fun hq => kf hq p l e R s m args below meth c D cA base sp n0 s0 Z C fin H locs lsA cells slots hA hL)
set_option maxHeartbeats 400000 in
theorem Y_icmp_gt {off : Int} {x y : Int32} {tgt : Nat} (i : Nat) (h : (m_t M)[i]? = some (pc, .if_icmp .gt off, 3)) (hp : pc + 3 = pc2) (ht : (pc : Int) + off = (tgt : Int)) (kt : y < x → Y G M cap tgt ls st σ Q) (kf : ¬ y < x → Y G M cap pc2 ls st σ Q) : Y G M cap pc ls (.int y :: .int x :: st) σ Q := by
  intro p l e R s m args below meth c D cA base sp n0 s0 Z C fin H locs lsA cells slots hA hL
  subst hp
  exact lv_icmp_gt C.ex C.by (C.dec h) ht (fun hq => kt hq p l e R s m args below meth c D cA base sp n0 s0 Z C fin H locs lsA cells slots hA hL) (fun hq => kf hq p l e R s m args below meth c D cA base sp n0 s0 Z C fin H locs lsA cells slots hA hL)
set_option maxHeartbeats 400000 in
theorem Y_icmp_le {off : Int} {x y : Int32} {tgt : Nat} (i : Nat) (h : (m_t M)[i]? = some (pc, .if_icmp .le off, 3)) (hp : pc + 3 = pc2) (ht : (pc : Int) + off = (tgt : Int)) (kt : x ≤ y → Y G M cap tgt ls st σ Q) (kf : ¬ x ≤ y → Y G M cap pc2 ls st σ Q) : Y G M cap pc ls (.int y :: .int x :: st) σ Q := by
  intro p l e R s m args below meth c D cA base sp n0 s0 Z C fin H locs lsA cells slots hA hL
  subst hp
  exact lv_icmp_le C.ex C.by (C.dec h) ht (fun hq => kt hq p l e R s m args below meth c D cA base sp n0 s0 Z C fin H locs lsA cells slots hA hL) (fun hq => kf hq p l e R s m args below meth c D cA base sp n0 s0 Z C fin H locs lsA cells slots hA hL)
set_option maxHeartbeats 400000 in
theorem Y_tableIn {dflt lo hi off : Int} {offs : Array Int} {len : Nat} {x : Int32} (i : Nat) (h : (m_t M)[i]? = some (pc, .tableswitch dflt lo hi offs, len)) (h1 : ¬ x.toInt < lo) (h2 : ¬ hi < x.toInt) (ho : offs[(x.toInt - lo).toNat]? = some off) (ht : (pc : Int) + off = (pc2 : Int)) (k : Y G M cap pc2 ls st σ Q) : Y G M cap pc ls (.int x :: st) σ Q := by
  intro p l e R s m args below meth c D cA base sp n0 s0 Z C fin H locs lsA cells slots hA hL
  exact lv_tableIn C.ex C.by (C.dec h) h1 h2 ho ht (k p l e R s m args below meth c D cA base sp n0 s0 Z C fin H locs lsA cells slots hA hL)
set_option maxHeartbeats 400000 in
theorem Y_tableOut {dflt lo hi : Int} {offs : Array Int} {len : Nat} {x : Int32} (i : Nat) (h : (m_t M)[i]? = some (pc, .tableswitch dflt lo hi offs, len)) (h1 : x.toInt < lo ∨ hi < x.toInt) (ht : (pc : Int) + dflt = (pc2 : Int)) (k : Y G M cap pc2 ls st σ Q) : Y G M cap pc ls (.int x :: st) σ Q := by
  intro p l e R s m args below meth c D cA base sp n0 s0 Z C fin H locs lsA cells slots hA hL
  exact lv_tableOut C.ex C.by (C.dec h) h1 ht (k p l e R s m args below meth c D cA base sp n0 s0 Z C fin H locs lsA cells slots hA hL)
set_option maxHeartbeats 400000 in
theorem Y_lookup {dflt off : Int} {ps : Array (Int × Int)} {len : Nat} {x : Int32} (i : Nat) (h : (m_t M)[i]? = some (pc, .lookupswitch dflt ps, len)) (hq : (ps.toList.zip (ps.toList.drop 1)).all (fun (a, next) => a.1 < next.1) = true) (ho : Op.lookupswitch.offset ps.toList dflt x.toInt = off) (ht : (pc : Int) + off = (pc2 : Int)) (k : Y G M cap pc2 ls st σ Q) : Y G M cap pc ls (.int x :: st) σ Q := by
  intro p l e R s m args below meth c D cA base sp n0 s0 Z C fin H locs lsA cells slots hA hL
  exact lv_lookup C.ex C.by (C.dec h) hq ho ht (k p l e R s m args below meth c D cA base sp n0 s0 Z C fin H locs lsA cells slots hA hL)
set_option maxHeartbeats 400000 in
theorem Y_ldc {index : Nat} {v : Int32} (i : Nat) (h : (m_t M)[i]? = some (pc, .ldc index, 2)) (hp : pc + 2 = pc2) (hw : Cond.constant (m_y M).cls index v ∈ Tb) (k : Y G M cap pc2 ls (.int v :: st) σ Q) : Y G M cap pc ls st σ Q := by
  intro p l e R s m args below meth c D cA base sp n0 s0 Z C fin H locs lsA cells slots hA hL
  subst hp
  exact lv_ldc C.ex C.by C.ow (C.ts _ hw) (C.dec h) (k p l e R s m args below meth c D cA base sp n0 s0 Z C fin H locs lsA cells slots hA hL)
set_option maxHeartbeats 400000 in
theorem Y_iret {x : Int32} {ty : FieldType} (i : Nat) (h : (m_t M)[i]? = some (pc, .ireturn, 1)) (hr : m_r M = some ty) (hn : narrow ty (.int x) = .int x) (hq : Q (some (.int x)) σ) : Y G M cap pc ls [.int x] σ Q := by
  intro p l e R s m args below meth c D cA base sp n0 s0 Z C fin H locs lsA cells slots hA hL
  exact fin H locs lsA cells slots pc [.int x] (some (.int x)) σ hA (Or.inl ⟨x, ty, C.dec h, hr, hn, rfl, rfl⟩) hq
set_option maxHeartbeats 400000 in
theorem Y_aret {a : Nat} {ty : FieldType} (i : Nat) (h : (m_t M)[i]? = some (pc, .areturn, 1)) (hr : m_r M = some ty) (hn : (∃ n, ty = .object n) ∨ ∃ t, ty = .array t) (hq : Q (some (.ref a)) σ) : Y G M cap pc ls [.ref a] σ Q := by
  intro p l e R s m args below meth c D cA base sp n0 s0 Z C fin H locs lsA cells slots hA hL
  exact fin H locs lsA cells slots pc [.ref a] (some (.ref a)) σ hA (Or.inr (Or.inl ⟨a, ty, C.dec h, hr, hn, rfl, rfl⟩)) hq
set_option maxHeartbeats 400000 in
theorem Y_vret (i : Nat) (h : (m_t M)[i]? = some (pc, .return_, 1)) (hr : m_r M = none) (hq : Q none σ) : Y G M cap pc ls [] σ Q := by
  intro p l e R s m args below meth c D cA base sp n0 s0 Z C fin H locs lsA cells slots hA hL
  exact fin H locs lsA cells slots pc [] none σ hA (Or.inr (Or.inr ⟨C.dec h, hr, rfl, rfl⟩)) hq
end Y1
end
section
/-! rules of the heap -/
/-- the entry 'index' of the class 'own' links slot k of class number ci -/
def fl_ (own : String) (index ci k : Nat) : Prop := ∃ (C : String) (T : u_T) (N : Nat), vwCl[ci]? = some (C, T, N) ∧ ci < 11 ∧ k < N ∧ (∀ w ∈ u_ws C T N, w ∈ Tb) ∧ (∀ k, k < N → parseFieldDescriptor (T k).2.2.1 = some (ty_c ci k)) ∧ (∀ a, a < N → ∀ b, b < N → a ≠ b → (T a).2.1 ≠ (T b).2.1) ∧ (T k).1 = C ∧ Cond.fieldLink own index (T k).1 (T k).2.1 (T k).2.2.1 ∈ Tb
def ff_ (own : String) (ci k : Nat) : Prop := ∃ (C : String) (T : u_T) (N : Nat), vwCl[ci]? = some (C, T, N) ∧ (T k).2.2.2 = true ∧ (T k).1 = own
def fn_ (ci k : Nat) : Prop := ∃ (C : String) (T : u_T) (N : Nat), vwCl[ci]? = some (C, T, N) ∧ (T k).2.2.2 = false
set_option maxHeartbeats 400000 in
theorem cl_o {cA : Nat → ClassId} {base ci n : Nat} {rs : List (Option Nat)} {row : Nat → Int32} (h : ci < 11) : cl_e cA base (ci, n, rs) row = .inr (ci, (List.range n).map (fun k => if is_I (ty_c ci k) = true then Value.int (row k) else va_rf ((rs.getD k none).map (fun r => base + r)))) := by
  simp [cl_e, h]
set_option maxHeartbeats 400000 in
theorem cl_fi {ci n base : Nat} {rs : List (Option Nat)} {row : Nat → Int32} {k : Nat} (hk : k < n) (hi : is_I (ty_c ci k) = true) : ((List.range n).map (fun k => if is_I (ty_c ci k) = true then Value.int (row k) else va_rf ((rs.getD k none).map (fun r => base + r))))[k]? = some (.int (row k)) := by
  simp [hk, hi]
set_option maxHeartbeats 400000 in
theorem cl_fr {ci n base r : Nat} {rs : List (Option Nat)} {row : Nat → Int32} {k : Nat} (hk : k < n) (hi : is_I (ty_c ci k) = false) (hr : rs.getD k none = some r) : ((List.range n).map (fun k => if is_I (ty_c ci k) = true then Value.int (row k) else va_rf ((rs.getD k none).map (fun r => base + r))))[k]? = some (.ref (base + r)) := by
  rw [List.getElem?_map, List.getElem?_range hk]
  simp only [Option.map_some, hi, hr]
  rfl
set_option maxHeartbeats 400000 in
theorem cl_si {ci n base : Nat} {rs : List (Option Nat)} {row : Nat → Int32} {k : Nat} {v : Int32} (hi : is_I (ty_c ci k) = true) : ((List.range n).map (fun k => if is_I (ty_c ci k) = true then Value.int (row k) else va_rf ((rs.getD k none).map (fun r => base + r)))).set k (.int v) = (List.range n).map (fun j => if is_I (ty_c ci j) = true then Value.int (upd row k v j) else va_rf ((rs.getD j none).map (fun r => base + r))) := by
  apply List.ext_getElem?
  intro j
  by_cases hj : j = k
  · subst hj
    by_cases hn : j < n
    · simp [List.getElem?_set, hn, hi, upd]
    · simp [List.getElem?_set, hn]
  · by_cases hn : j < n
    · simp [List.getElem?_set, Ne.symm hj, hn, upd, hj]
    · simp [List.getElem?_set, Ne.symm hj, hn]
set_option maxHeartbeats 400000 in
theorem cl_sr {ci n base r : Nat} {rs : List (Option Nat)} {row : Nat → Int32} {k : Nat} (hi : is_I (ty_c ci k) = false) (hk : k < rs.length) : ((List.range n).map (fun k => if is_I (ty_c ci k) = true then Value.int (row k) else va_rf ((rs.getD k none).map (fun r => base + r)))).set k (.ref (base + r)) = (List.range n).map (fun j => if is_I (ty_c ci j) = true then Value.int (row j) else va_rf (((rs.set k (some r)).getD j none).map (fun r => base + r))) := by
  apply List.ext_getElem?
  intro j
  by_cases hj : j = k
  · subst hj
    by_cases hn : j < n
    · simp [List.getElem?_set, hn, hi, hk, va_rf]
    · simp [List.getElem?_set, hn]
  · by_cases hn : j < n
    · simp [List.getElem?_set, Ne.symm hj, hn]
    · simp [List.getElem?_set, Ne.symm hj, hn]
set_option maxHeartbeats 400000 in
theorem At_.to {R : Room} {s : State} {D : va_G} {cA : Nat → ClassId} {base n0 s0 : Nat} {σ σ' : Sg} {H H1 : Heap} {locs locs1 : List Loc} {cells slots : Nat} (h : At_ R s D cA base n0 s0 σ H locs cells slots) (hl : σ'.1.length = σ.1.length) (hs : sl_ σ'.1 = sl_ σ.1) (hP : va_P D vwCl (wd_ cA base σ') H1) (hS : va_S (fun q => base ≤ q) s.heap H1 locs1) : At_ R s D cA base n0 s0 σ' H1 locs1 cells slots :=
  ⟨hP, by rw [hl]; exact h.2.1, hS, by rw [hl]; exact h.2.2.2.1, by rw [hs]; exact h.2.2.2.2.1, h.2.2.2.2.2⟩
set_option maxHeartbeats 400000 in
theorem At_.lt {R : Room} {s : State} {D : va_G} {cA : Nat → ClassId} {base n0 s0 : Nat} {σ : Sg} {H : Heap} {locs : List Loc} {cells slots a : Nat} {e : Nat × Nat × List (Option Nat)} (h : At_ R s D cA base n0 s0 σ H locs cells slots) (ha : σ.1[a]? = some e) : a < 1000000 := Nat.lt_of_lt_of_le (List.getElem?_eq_some_iff.mp ha).1 h.2.1
set_option maxHeartbeats 400000 in
theorem sl_set {lay : Ly} {a : Nat} {e e' : Nat × Nat × List (Option Nat)} (h : lay[a]? = some e) (he : e'.2.1 = e.2.1) : sl_ (lay.set a e') = sl_ lay := by
  unfold sl_
  congr 1
  apply List.ext_getElem?
  intro i
  by_cases hi : i = a
  · subst hi
    have ha : i < lay.length := (List.getElem?_eq_some_iff.mp h).1
    rw [List.getElem?_map, List.getElem?_map, List.getElem?_set, if_pos rfl, if_pos ha, h]
    simp [he]
  · simp [List.getElem?_set, Ne.symm hi]
section Y2
variable {G : Nat × (Nat → Int32)} {M : Mi} {cap : Nat × Nat} {pc pc2 : Nat} {ls ls2 : List (Option Value)} {st : List Value} {σ : Sg} {lay : Ly} {mm : Mm} {Q : Option Value → Sg → Prop}
set_option maxHeartbeats 400000 in
theorem Y_getI {index ci a f n : Nat} {rs : List (Option Nat)} (i : Nat) (h : (m_t M)[i]? = some (pc, .getfield index, 3)) (hp : pc + 3 = pc2) (hf : fl_ (m_y M).cls index ci f) (ha : lay[a]? = some (ci, n, rs)) (hn : f < n) (hi : is_I (ty_c ci f) = true) (k : Y G M cap pc2 ls (.int (mm a f) :: st) (lay, mm) Q) : Y G M cap pc ls (.ref a :: st) (lay, mm) Q := by
  intro p l e R s m args below meth c D cA base sp n0 s0 Z C fin H locs lsA cells slots hA hL
  subst hp
  obtain ⟨CC, T, N, h1, h11, h2, h3, h4, h5, h6, h7⟩ := hf
  have hk := (k p l e R s m args below meth c D cA base sp n0 s0 Z C fin H locs lsA cells slots hA hL)
  show W p l e R s m args below meth c H locs cells slots Z (F0 m pc lsA (tr_ base sp (.ref a) :: st.map (tr_ base sp)))
  rw [tr_ref (At_.lt hA ha)]
  exact va_get C.ex C.by C.ts h3 C.ow C.st.1 hA.1 a (he := by rw [wd_get (σ := (lay, mm)) ha, cl_o h11]) h1 f h2 (C.ts _ h7) (fun _ h9 => h9) (cl_fi hn hi) (C.dec h) hk
set_option maxHeartbeats 400000 in
theorem Y_getR {index ci a f n r : Nat} {rs : List (Option Nat)} (i : Nat) (h : (m_t M)[i]? = some (pc, .getfield index, 3)) (hp : pc + 3 = pc2) (hf : fl_ (m_y M).cls index ci f) (ha : lay[a]? = some (ci, n, rs)) (hn : f < n) (hi : is_I (ty_c ci f) = false) (hr : rs.getD f none = some r) (hr2 : r < 1000000) (k : Y G M cap pc2 ls (.ref r :: st) (lay, mm) Q) : Y G M cap pc ls (.ref a :: st) (lay, mm) Q := by
  intro p l e R s m args below meth c D cA base sp n0 s0 Z C fin H locs lsA cells slots hA hL
  subst hp
  obtain ⟨CC, T, N, h1, h11, h2, h3, h4, h5, h6, h7⟩ := hf
  have hk := (k p l e R s m args below meth c D cA base sp n0 s0 Z C fin H locs lsA cells slots hA hL)
  have hk : W p l e R s m args below meth c H locs cells slots Z (F0 m (pc + 3) lsA (tr_ base sp (.ref r) :: st.map (tr_ base sp))) := hk
  rw [tr_ref hr2] at hk
  show W p l e R s m args below meth c H locs cells slots Z (F0 m pc lsA (tr_ base sp (.ref a) :: st.map (tr_ base sp)))
  rw [tr_ref (At_.lt hA ha)]
  exact va_get C.ex C.by C.ts h3 C.ow C.st.1 hA.1 a (he := by rw [wd_get (σ := (lay, mm)) ha, cl_o h11]) h1 f h2 (C.ts _ h7) (fun _ h9 => h9) (cl_fr hn hi hr) (C.dec h) hk
set_option maxHeartbeats 400000 in
theorem Y_putI {index ci a f n : Nat} {v : Int32} {rs : List (Option Nat)} (i : Nat) (h : (m_t M)[i]? = some (pc, .putfield index, 3)) (hp : pc + 3 = pc2) (hf : fl_ (m_y M).cls index ci f) (ha : lay[a]? = some (ci, n, rs)) (hn : f < n) (hz : fits (ty_c ci f) (.int v) = true ∧ narrow (ty_c ci f) (.int v) = .int v) (hfin : fn_ ci f) (hi : is_I (ty_c ci f) = true) (k : Y G M cap pc2 ls st (lay, uw_ mm a f v) Q) : Y G M cap pc ls (.int v :: .ref a :: st) (lay, mm) Q := by
  intro p l e R s m args below meth c D cA base sp n0 s0 Z C fin H locs lsA cells slots hA hL
  subst hp
  obtain ⟨CC, T, N, h1, h11, h2, h3, h4, h5, h6, h7⟩ := hf
  obtain ⟨CC2, T2, N2, g1, g2⟩ := hfin
  rw [h1] at g1
  cases g1
  show W p l e R s m args below meth c H locs cells slots Z (F0 m pc lsA (.int v :: tr_ base sp (.ref a) :: st.map (tr_ base sp)))
  rw [tr_ref (At_.lt hA ha)]
  refine va_put (v := (.int v)) (ty := ty_c ci f) C.ex C.by C.ts h3 (ty_c ci) h4 h5 C.ow C.st.1 hA.1 wd_D hA.2.2.1 a (he := by rw [wd_get (σ := (lay, mm)) ha, cl_o h11]) h1 f h2 (C.ts _ h7) (fun _ h9 => h9) g2 (h4 f h2) hz.2 hz.1 (by simpa using hn) (C.dec h) (fun H1 locs1 hP1 hD1 hS1 => ?_)
  rw [cl_si hi] at hP1
  rw [wd_set1 (row := upd (mm a) f v) ha (by rw [cl_o h11]), ur_w] at hP1
  exact k p l e R s m args below meth c D cA base sp n0 s0 Z C fin H1 locs1 lsA cells slots (hA.to (σ' := (lay, uw_ mm a f v)) rfl rfl hP1 hS1) hL
set_option maxHeartbeats 400000 in
theorem Y_putIF {index ci a f n : Nat} {v : Int32} {rs : List (Option Nat)} (i : Nat) (h : (m_t M)[i]? = some (pc, .putfield index, 3)) (hp : pc + 3 = pc2) (hf : fl_ (m_y M).cls index ci f) (ha : lay[a]? = some (ci, n, rs)) (hn : f < n) (hz : fits (ty_c ci f) (.int v) = true ∧ narrow (ty_c ci f) (.int v) = .int v) (hfin : ff_ (m_y M).cls ci f) (hin : (m_y M).name = "<init>") (hi : is_I (ty_c ci f) = true) (k : Y G M cap pc2 ls st (lay, uw_ mm a f v) Q) : Y G M cap pc ls (.int v :: .ref a :: st) (lay, mm) Q := by
  intro p l e R s m args below meth c D cA base sp n0 s0 Z C fin H locs lsA cells slots hA hL
  subst hp
  obtain ⟨CC, T, N, h1, h11, h2, h3, h4, h5, h6, h7⟩ := hf
  obtain ⟨CC2, T2, N2, g1, g2, g3⟩ := hfin
  rw [h1] at g1
  cases g1
  show W p l e R s m args below meth c H locs cells slots Z (F0 m pc lsA (.int v :: tr_ base sp (.ref a) :: st.map (tr_ base sp)))
  rw [tr_ref (At_.lt hA ha)]
  refine va_putF (v := (.int v)) (ty := ty_c ci f) C.ex C.by C.ts h3 (ty_c ci) h4 h5 C.ow C.st.1 hA.1 wd_D hA.2.2.1 a (he := by rw [wd_get (σ := (lay, mm)) ha, cl_o h11]) h1 f h2 (C.ts _ h7) (fun _ h9 => h9) g2 (by rw [C.nm]; exact hin) g3 (h4 f h2) hz.2 hz.1 (by simpa using hn) (C.dec h) (fun H1 locs1 hP1 hD1 hS1 => ?_)
  rw [cl_si hi] at hP1
  rw [wd_set1 (row := upd (mm a) f v) ha (by rw [cl_o h11]), ur_w] at hP1
  exact k p l e R s m args below meth c D cA base sp n0 s0 Z C fin H1 locs1 lsA cells slots (hA.to (σ' := (lay, uw_ mm a f v)) rfl rfl hP1 hS1) hL
set_option maxHeartbeats 400000 in
theorem Y_putRF {index ci a f n r : Nat} {rs : List (Option Nat)} (i : Nat) (h : (m_t M)[i]? = some (pc, .putfield index, 3)) (hp : pc + 3 = pc2) (hf : fl_ (m_y M).cls index ci f) (ha : lay[a]? = some (ci, n, rs)) (hn : f < n) (hrl : f < rs.length) (hr2 : r < 1000000) (ho : (∃ n, ty_c ci f = .object n) ∨ ∃ t, ty_c ci f = .array t) (hfin : ff_ (m_y M).cls ci f) (hin : (m_y M).name = "<init>") (hi : is_I (ty_c ci f) = false) (k : Y G M cap pc2 ls st (lay.set a (ci, n, rs.set f (some r)), mm) Q) : Y G M cap pc ls (.ref r :: .ref a :: st) (lay, mm) Q := by
  intro p l e R s m args below meth c D cA base sp n0 s0 Z C fin H locs lsA cells slots hA hL
  subst hp
  obtain ⟨CC, T, N, h1, h11, h2, h3, h4, h5, h6, h7⟩ := hf
  obtain ⟨CC2, T2, N2, g1, g2, g3⟩ := hfin
  rw [h1] at g1
  cases g1
  show W p l e R s m args below meth c H locs cells slots Z (F0 m pc lsA (tr_ base sp (.ref r) :: tr_ base sp (.ref a) :: st.map (tr_ base sp)))
  rw [tr_ref (At_.lt hA ha), tr_ref hr2]
  refine va_putF (v := (.ref (base + r))) (ty := ty_c ci f) C.ex C.by C.ts h3 (ty_c ci) h4 h5 C.ow C.st.1 hA.1 wd_D hA.2.2.1 a (he := by rw [wd_get (σ := (lay, mm)) ha, cl_o h11]) h1 f h2 (C.ts _ h7) (fun _ h9 => h9) g2 (by rw [C.nm]; exact hin) g3 (h4 f h2) (by rcases ho with ⟨n, ho⟩ | ⟨n, ho⟩ <;> rw [ho] <;> rfl) (by rcases ho with ⟨n, ho⟩ | ⟨n, ho⟩ <;> rw [ho] <;> rfl) (by simpa using hn) (C.dec h) (fun H1 locs1 hP1 hD1 hS1 => ?_)
  rw [cl_sr hi hrl] at hP1
  rw [wd_set (e' := (ci, n, rs.set f (some r))) (row := mm a) ha (by rw [cl_o h11])] at hP1
  have e1 : ur_ mm a (mm a) = mm := by
    funext b
    by_cases hb : b = a
    · subst hb; simp [ur_]
    · simp [ur_, hb]
  rw [e1] at hP1
  exact k p l e R s m args below meth c D cA base sp n0 s0 Z C fin H1 locs1 lsA cells slots (hA.to (σ' := (lay.set a (ci, n, rs.set f (some r)), mm)) (by simp) (sl_set ha rfl) hP1 hS1) hL
set_option maxHeartbeats 400000 in
theorem Y_iald {a n j : Nat} {rs : List (Option Nat)} {x : Int32} (i : Nat) (h : (m_t M)[i]? = some (pc, .iaload, 1)) (hp : pc + 1 = pc2) (ha : lay[a]? = some (12, n, rs)) (hx : x = nI j) (hj : j < n) (hn : n < 2 ^ 31) (k : Y G M cap pc2 ls (.int (mm a j) :: st) (lay, mm) Q) : Y G M cap pc ls (.int x :: .ref a :: st) (lay, mm) Q := by
  intro p l e R s m args below meth c D cA base sp n0 s0 Z C fin H locs lsA cells slots hA hL
  subst hp; subst hx
  have hk := (k p l e R s m args below meth c D cA base sp n0 s0 Z C fin H locs lsA cells slots hA hL)
  have hk : W p l e R s m args below meth c H locs cells slots Z (F0 m (pc + 1) lsA (.int (mm a j) :: st.map (tr_ base sp))) := hk
  show W p l e R s m args below meth c H locs cells slots Z (F0 m pc lsA (.int (nI j) :: tr_ base sp (.ref a) :: st.map (tr_ base sp)))
  rw [tr_ref (At_.lt hA ha)]
  refine va_iald (n := n) (f := mm a) C.ex C.by C.st.1 hA.1 a 1 (cA := cA 12) (by rw [wd_get (σ := (lay, mm)) ha]; rfl) rfl (vp_in_nI hj hn) (C.dec h) ?_
  rw [nI_clamp (Nat.lt_trans hj hn)]
  exact hk
set_option maxHeartbeats 400000 in
theorem Y_bald {a n j : Nat} {rs : List (Option Nat)} {x : Int32} (i : Nat) (h : (m_t M)[i]? = some (pc, .baload, 1)) (hp : pc + 1 = pc2) (ha : lay[a]? = some (11, n, rs)) (hx : x = nI j) (hj : j < n) (hn : n < 2 ^ 31) (k : Y G M cap pc2 ls (.int (mm a j) :: st) (lay, mm) Q) : Y G M cap pc ls (.int x :: .ref a :: st) (lay, mm) Q := by
  intro p l e R s m args below meth c D cA base sp n0 s0 Z C fin H locs lsA cells slots hA hL
  subst hp; subst hx
  have hk := (k p l e R s m args below meth c D cA base sp n0 s0 Z C fin H locs lsA cells slots hA hL)
  have hk : W p l e R s m args below meth c H locs cells slots Z (F0 m (pc + 1) lsA (.int (mm a j) :: st.map (tr_ base sp))) := hk
  show W p l e R s m args below meth c H locs cells slots Z (F0 m pc lsA (.int (nI j) :: tr_ base sp (.ref a) :: st.map (tr_ base sp)))
  rw [tr_ref (At_.lt hA ha)]
  refine va_bald (n := n) (f := mm a) C.ex C.by C.st.1 hA.1 a 0 (cA := cA 11) (by rw [wd_get (σ := (lay, mm)) ha]; rfl) rfl (vp_in_nI hj hn) (C.dec h) ?_
  rw [nI_clamp (Nat.lt_trans hj hn)]
  exact hk
set_option maxHeartbeats 400000 in
theorem Y_zald {a n j : Nat} {rs : List (Option Nat)} {x : Int32} (i : Nat) (h : (m_t M)[i]? = some (pc, .baload, 1)) (hp : pc + 1 = pc2) (ha : lay[a]? = some (13, n, rs)) (hx : x = nI j) (hj : j < n) (hn : n < 2 ^ 31) (k : Y G M cap pc2 ls (.int (mm a j) :: st) (lay, mm) Q) : Y G M cap pc ls (.int x :: .ref a :: st) (lay, mm) Q := by
  intro p l e R s m args below meth c D cA base sp n0 s0 Z C fin H locs lsA cells slots hA hL
  subst hp; subst hx
  have hk := (k p l e R s m args below meth c D cA base sp n0 s0 Z C fin H locs lsA cells slots hA hL)
  have hk : W p l e R s m args below meth c H locs cells slots Z (F0 m (pc + 1) lsA (.int (mm a j) :: st.map (tr_ base sp))) := hk
  show W p l e R s m args below meth c H locs cells slots Z (F0 m pc lsA (.int (nI j) :: tr_ base sp (.ref a) :: st.map (tr_ base sp)))
  rw [tr_ref (At_.lt hA ha)]
  refine va_zald (n := n) (f := mm a) C.ex C.by C.st.1 hA.1 a 2 (cA := cA 13) (by rw [wd_get (σ := (lay, mm)) ha]; rfl) rfl (vp_in_nI hj hn) (C.dec h) ?_
  rw [nI_clamp (Nat.lt_trans hj hn)]
  exact hk
set_option maxHeartbeats 400000 in
theorem Y_iast {a n j : Nat} {rs : List (Option Nat)} {x v w : Int32} (i : Nat) (h : (m_t M)[i]? = some (pc, .iastore, 1)) (hp : pc + 1 = pc2) (ha : lay[a]? = some (12, n, rs)) (hx : x = nI j) (hj : j < n) (hn : n < 2 ^ 31) (hw : v = w) (k : Y G M cap pc2 ls st (lay, uw_ mm a j w) Q) : Y G M cap pc ls (.int v :: .int x :: .ref a :: st) (lay, mm) Q := by
  intro p l e R s m args below meth c D cA base sp n0 s0 Z C fin H locs lsA cells slots hA hL
  subst hp; subst hx; subst hw
  show W p l e R s m args below meth c H locs cells slots Z (F0 m pc lsA (.int v :: .int (nI j) :: tr_ base sp (.ref a) :: st.map (tr_ base sp)))
  rw [tr_ref (At_.lt hA ha)]
  refine va_iast (n := n) (f := mm a) C.ex C.by C.st.1 hA.1 wd_D hA.2.2.1 a 1 (cA := cA 12) (by rw [wd_get (σ := (lay, mm)) ha]; rfl) rfl (vp_in_nI hj hn) (C.dec h) (fun H1 locs1 hP1 hD1 hS1 => ?_)
  rw [nI_clamp (Nat.lt_trans hj hn), wd_set1 (row := upd (mm a) j v) ha (by rfl), ur_w] at hP1
  exact k p l e R s m args below meth c D cA base sp n0 s0 Z C fin H1 locs1 lsA cells slots (hA.to (σ' := (lay, uw_ mm a j v)) rfl rfl hP1 hS1) hL
set_option maxHeartbeats 400000 in
theorem Y_bast {a n j : Nat} {rs : List (Option Nat)} {x v w : Int32} (i : Nat) (h : (m_t M)[i]? = some (pc, .bastore, 1)) (hp : pc + 1 = pc2) (ha : lay[a]? = some (11, n, rs)) (hx : x = nI j) (hj : j < n) (hn : n < 2 ^ 31) (hw : (vp_nar .byte v) = w) (k : Y G M cap pc2 ls st (lay, uw_ mm a j w) Q) : Y G M cap pc ls (.int v :: .int x :: .ref a :: st) (lay, mm) Q := by
  intro p l e R s m args below meth c D cA base sp n0 s0 Z C fin H locs lsA cells slots hA hL
  subst hp; subst hx; subst hw
  show W p l e R s m args below meth c H locs cells slots Z (F0 m pc lsA (.int v :: .int (nI j) :: tr_ base sp (.ref a) :: st.map (tr_ base sp)))
  rw [tr_ref (At_.lt hA ha)]
  refine va_bast (n := n) (f := mm a) C.ex C.by C.st.1 hA.1 wd_D hA.2.2.1 a 0 (cA := cA 11) (by rw [wd_get (σ := (lay, mm)) ha]; rfl) rfl (vp_in_nI hj hn) (C.dec h) (fun H1 locs1 hP1 hD1 hS1 => ?_)
  rw [nI_clamp (Nat.lt_trans hj hn), wd_set1 (row := upd (mm a) j (vp_nar .byte v)) ha (by rfl), ur_w] at hP1
  exact k p l e R s m args below meth c D cA base sp n0 s0 Z C fin H1 locs1 lsA cells slots (hA.to (σ' := (lay, uw_ mm a j (vp_nar .byte v))) rfl rfl hP1 hS1) hL
set_option maxHeartbeats 400000 in
theorem Y_zast {a n j : Nat} {rs : List (Option Nat)} {x v w : Int32} (i : Nat) (h : (m_t M)[i]? = some (pc, .bastore, 1)) (hp : pc + 1 = pc2) (ha : lay[a]? = some (13, n, rs)) (hx : x = nI j) (hj : j < n) (hn : n < 2 ^ 31) (hw : (vp_nar .boolean v) = w) (k : Y G M cap pc2 ls st (lay, uw_ mm a j w) Q) : Y G M cap pc ls (.int v :: .int x :: .ref a :: st) (lay, mm) Q := by
  intro p l e R s m args below meth c D cA base sp n0 s0 Z C fin H locs lsA cells slots hA hL
  subst hp; subst hx; subst hw
  show W p l e R s m args below meth c H locs cells slots Z (F0 m pc lsA (.int v :: .int (nI j) :: tr_ base sp (.ref a) :: st.map (tr_ base sp)))
  rw [tr_ref (At_.lt hA ha)]
  refine va_zast (n := n) (f := mm a) C.ex C.by C.st.1 hA.1 wd_D hA.2.2.1 a 2 (cA := cA 13) (by rw [wd_get (σ := (lay, mm)) ha]; rfl) rfl (vp_in_nI hj hn) (C.dec h) (fun H1 locs1 hP1 hD1 hS1 => ?_)
  rw [nI_clamp (Nat.lt_trans hj hn), wd_set1 (row := upd (mm a) j (vp_nar .boolean v)) ha (by rfl), ur_w] at hP1
  exact k p l e R s m args below meth c D cA base sp n0 s0 Z C fin H1 locs1 lsA cells slots (hA.to (σ' := (lay, uw_ mm a j (vp_nar .boolean v))) rfl rfl hP1 hS1) hL
set_option maxHeartbeats 400000 in
theorem cl_q {cA : Nat → ClassId} {base kd n : Nat} {rs : List (Option Nat)} {row : Nat → Int32} (h : 14 ≤ kd) : cl_e cA base (kd, n, rs) row = .inl (cA kd, n, .inr (.inr (.inr (.inr (fun k => (rs.getD k none).map (fun r => base + r)))))) := by
  have h1 : ¬ kd < 11 := by omega
  have h2 : ¬ kd < 14 := by omega
  simp [cl_e, h1, h2]
set_option maxHeartbeats 400000 in
theorem Y_aald {a n j r kd : Nat} {CC : String} {rs : List (Option Nat)} {x : Int32} (i : Nat) (h : (m_t M)[i]? = some (pc, .aaload, 1)) (hp : pc + 1 = pc2) (ha : lay[a]? = some (kd, n, rs)) (hkd : 14 ≤ kd) (ht : ∀ cA : Nat → ClassId, (ty_s cA)[kd - 11]? = some (cA kd, .object CC)) (hx : x = nI j) (hj : j < n) (hn : n < 2 ^ 31) (hr : rs.getD j none = some r) (hr2 : r < 1000000) (k : Y G M cap pc2 ls (.ref r :: st) (lay, mm) Q) : Y G M cap pc ls (.int x :: .ref a :: st) (lay, mm) Q := by
  intro p l e R s m args below meth c D cA base sp n0 s0 Z C fin H locs lsA cells slots hA hL
  subst hp; subst hx
  have hk := (k p l e R s m args below meth c D cA base sp n0 s0 Z C fin H locs lsA cells slots hA hL)
  have hk : W p l e R s m args below meth c H locs cells slots Z (F0 m (pc + 1) lsA (tr_ base sp (.ref r) :: st.map (tr_ base sp))) := hk
  rw [tr_ref hr2] at hk
  show W p l e R s m args below meth c H locs cells slots Z (F0 m pc lsA (.int (nI j) :: tr_ base sp (.ref a) :: st.map (tr_ base sp)))
  rw [tr_ref (At_.lt hA ha)]
  refine va_aldq (n := n) C.ex C.by C.st.1 hA.1 a (kd - 11) (cA := cA kd) (by rw [wd_get (σ := (lay, mm)) ha, cl_q hkd]) (ht cA) (vp_in_nI hj hn) (C.dec h) ?_
  rw [nI_clamp (Nat.lt_trans hj hn), hr]
  exact hk
set_option maxHeartbeats 400000 in
theorem Y_aast {a n j r kd ci cn : Nat} {qq : vw_C} {rs crs : List (Option Nat)} {x : Int32} (i : Nat) (h : (m_t M)[i]? = some (pc, .aastore, 1)) (hp : pc + 1 = pc2) (ha : lay[a]? = some (kd, n, rs)) (hkd : 14 ≤ kd) (hv : lay[r]? = some (ci, cn, crs)) (hci : ci < 11) (hc : vwCl[ci]? = some qq) (ht : ∀ cA : Nat → ClassId, (ty_s cA)[kd - 11]? = some (cA kd, .object qq.1)) (hx : x = nI j) (hj : j < n) (hn : n < 2 ^ 31) (hjr : j < rs.length) (k : Y G M cap pc2 ls st (lay.set a (kd, n, rs.set j (some r)), mm) Q) : Y G M cap pc ls (.ref r :: .int x :: .ref a :: st) (lay, mm) Q := by
  intro p l e R s m args below meth c D cA base sp n0 s0 Z C fin H locs lsA cells slots hA hL
  subst hp; subst hx
  show W p l e R s m args below meth c H locs cells slots Z (F0 m pc lsA (tr_ base sp (.ref r) :: .int (nI j) :: tr_ base sp (.ref a) :: st.map (tr_ base sp)))
  rw [tr_ref (At_.lt hA ha), tr_ref (At_.lt hA hv)]
  refine va_astq (n := n) C.ex C.by C.st.1 hA.1 wd_D hA.2.2.1 a (kd - 11) r ci (cA := cA kd) (by rw [wd_get (σ := (lay, mm)) ha, cl_q hkd]) (ht cA) (hv := by rw [wd_get (σ := (lay, mm)) hv, cl_o hci]) hc (vp_in_nI hj hn) (C.dec h) (fun H1 locs1 hP1 hD1 hS1 => ?_)
  rw [nI_clamp (Nat.lt_trans hj hn)] at hP1
  have e2 : va_up (fun k => (rs.getD k none).map (fun r => base + r)) j (some (base + r)) = fun k => ((rs.set j (some r)).getD k none).map (fun r => base + r) := by
    funext q
    by_cases hq : q = j
    · subst hq
      simp [va_up, hjr]
    · simp [va_up, hq, List.getElem?_set, Ne.symm hq]
  rw [e2, wd_set (e' := (kd, n, rs.set j (some r))) (row := mm a) ha (by rw [cl_q hkd])] at hP1
  have e1 : ur_ mm a (mm a) = mm := by
    funext b
    by_cases hb : b = a
    · subst hb; simp [ur_]
    · simp [ur_, hb]
  rw [e1] at hP1
  exact k p l e R s m args below meth c D cA base sp n0 s0 Z C fin H1 locs1 lsA cells slots (hA.to (σ' := (lay.set a (kd, n, rs.set j (some r)), mm)) (by simp) (sl_set ha rfl) hP1 hS1) hL
set_option maxHeartbeats 400000 in
theorem Y_alen_b {a n : Nat} {rs : List (Option Nat)} {v : Int32} (i : Nat) (h : (m_t M)[i]? = some (pc, .arraylength, 1)) (hp : pc + 1 = pc2) (ha : lay[a]? = some (11, n, rs)) (hv : nI n = v) (k : Y G M cap pc2 ls (.int v :: st) (lay, mm) Q) : Y G M cap pc ls (.ref a :: st) (lay, mm) Q := by
  intro p l e R s m args below meth c D cA base sp n0 s0 Z C fin H locs lsA cells slots hA hL
  subst hp
  have hk := (k p l e R s m args below meth c D cA base sp n0 s0 Z C fin H locs lsA cells slots hA hL)
  show W p l e R s m args below meth c H locs cells slots Z (F0 m pc lsA (tr_ base sp (.ref a) :: st.map (tr_ base sp)))
  rw [tr_ref (At_.lt hA ha)]
  exact va_alen (x := (n, .inl (mm a))) (ty := .byte) C.ex C.by C.st.1 hA.1 a 0 (cA := cA 11) (by rw [wd_get (σ := (lay, mm)) ha]; rfl) rfl hv (C.dec h) hk
set_option maxHeartbeats 400000 in
theorem Y_alen_i {a n : Nat} {rs : List (Option Nat)} {v : Int32} (i : Nat) (h : (m_t M)[i]? = some (pc, .arraylength, 1)) (hp : pc + 1 = pc2) (ha : lay[a]? = some (12, n, rs)) (hv : nI n = v) (k : Y G M cap pc2 ls (.int v :: st) (lay, mm) Q) : Y G M cap pc ls (.ref a :: st) (lay, mm) Q := by
  intro p l e R s m args below meth c D cA base sp n0 s0 Z C fin H locs lsA cells slots hA hL
  subst hp
  have hk := (k p l e R s m args below meth c D cA base sp n0 s0 Z C fin H locs lsA cells slots hA hL)
  show W p l e R s m args below meth c H locs cells slots Z (F0 m pc lsA (tr_ base sp (.ref a) :: st.map (tr_ base sp)))
  rw [tr_ref (At_.lt hA ha)]
  exact va_alen (x := (n, .inl (mm a))) (ty := .int) C.ex C.by C.st.1 hA.1 a 1 (cA := cA 12) (by rw [wd_get (σ := (lay, mm)) ha]; rfl) rfl hv (C.dec h) hk
set_option maxHeartbeats 400000 in
theorem Y_alen_z {a n : Nat} {rs : List (Option Nat)} {v : Int32} (i : Nat) (h : (m_t M)[i]? = some (pc, .arraylength, 1)) (hp : pc + 1 = pc2) (ha : lay[a]? = some (13, n, rs)) (hv : nI n = v) (k : Y G M cap pc2 ls (.int v :: st) (lay, mm) Q) : Y G M cap pc ls (.ref a :: st) (lay, mm) Q := by
  intro p l e R s m args below meth c D cA base sp n0 s0 Z C fin H locs lsA cells slots hA hL
  subst hp
  have hk := (k p l e R s m args below meth c D cA base sp n0 s0 Z C fin H locs lsA cells slots hA hL)
  show W p l e R s m args below meth c H locs cells slots Z (F0 m pc lsA (tr_ base sp (.ref a) :: st.map (tr_ base sp)))
  rw [tr_ref (At_.lt hA ha)]
  exact va_alen (x := (n, .inl (mm a))) (ty := .boolean) C.ex C.by C.st.1 hA.1 a 2 (cA := cA 13) (by rw [wd_get (σ := (lay, mm)) ha]; rfl) rfl hv (C.dec h) hk
set_option maxHeartbeats 400000 in
theorem Y_sald {j z : Nat} {x : Int32} (i : Nat) (h : (m_t M)[i]? = some (pc, .iaload, 1)) (hp : pc + 1 = pc2) (hz : z < 2) (hx : x = nI j) (hj : j < o_N G z) (hn : o_N G z < 2 ^ 31) (k : Y G M cap pc2 ls (.int (o_F G z j) :: st) σ Q) : Y G M cap pc ls (.int x :: .ref (1000000 + z) :: st) σ Q := by
  intro p l e R s m args below meth c D cA base sp n0 s0 Z C fin H locs lsA cells slots hA hL
  subst hp; subst hx
  have hk := (k p l e R s m args below meth c D cA base sp n0 s0 Z C fin H locs lsA cells slots hA hL)
  have e0 : tr_ base sp (.ref (1000000 + z)) = .ref (sp z) := by
    show Value.ref (if 1000000 + z < 1000000 then base + (1000000 + z) else sp (1000000 + z - 1000000)) = _
    rw [if_neg (by omega), Nat.add_sub_cancel_left]
  show W p l e R s m args below meth c H locs cells slots Z (F0 m pc lsA (.int (nI j) :: tr_ base sp (.ref (1000000 + z)) :: st.map (tr_ base sp)))
  rw [e0]
  exact va_ti C.ex C.by (C.st.2.2.2.1 z hz) hA.2.2.1 (vp_in_nI hj hn) (by rw [nI_clamp (Nat.lt_trans hj hn)]; rfl) (C.dec h) hk
set_option maxHeartbeats 400000 in
theorem Y_slen {z : Nat} {v : Int32} (i : Nat) (h : (m_t M)[i]? = some (pc, .arraylength, 1)) (hp : pc + 1 = pc2) (hz : z < 2) (hv : nI (o_N G z) = v) (k : Y G M cap pc2 ls (.int v :: st) σ Q) : Y G M cap pc ls (.ref (1000000 + z) :: st) σ Q := by
  intro p l e R s m args below meth c D cA base sp n0 s0 Z C fin H locs lsA cells slots hA hL
  subst hp
  have hk := (k p l e R s m args below meth c D cA base sp n0 s0 Z C fin H locs lsA cells slots hA hL)
  have e0 : tr_ base sp (.ref (1000000 + z)) = .ref (sp z) := by
    show Value.ref (if 1000000 + z < 1000000 then base + (1000000 + z) else sp (1000000 + z - 1000000)) = _
    rw [if_neg (by omega), Nat.add_sub_cancel_left]
  show W p l e R s m args below meth c H locs cells slots Z (F0 m pc lsA (tr_ base sp (.ref (1000000 + z)) :: st.map (tr_ base sp)))
  rw [e0]
  exact va_tlen C.ex C.by (C.st.2.2.2.1 z hz) hA.2.2.1 hv (C.dec h) hk
set_option maxHeartbeats 400000 in
theorem Y_gets {index : Nat} (i : Nat) (h : (m_t M)[i]? = some (pc, .getstatic index, 3)) (hp : pc + 3 = pc2) (hw : Cond.fieldLink (m_y M).cls index "GongHouse" "KIND_ABOVE" "[I" ∈ Tb) (k : Y G M cap pc2 ls (.ref 1000001 :: st) σ Q) : Y G M cap pc ls st σ Q := by
  intro p l e R s m args below meth c D cA base sp n0 s0 Z C fin H locs lsA cells slots hA hL
  subst hp
  have hk := (k p l e R s m args below meth c D cA base sp n0 s0 Z C fin H locs lsA cells slots hA hL)
  exact va_gets C.ex C.by C.st.2.2.2.2 hA.2.2.1 C.ow (C.ts _ hw) (fun _ h9 => h9) (C.dec h) hk
end Y2
end
section
/-! new cells -/
set_option maxHeartbeats 400000 in
theorem wd_push {cA : Nat → ClassId} {base : Nat} {lay : Ly} {mm : Mm} {e : Nat × Nat × List (Option Nat)} {row : Nat → Int32} : wd_ cA base (lay ++ [e], ur_ mm lay.length row) = wd_ cA base (lay, mm) ++ [(base + lay.length, cl_e cA base e row)] := by
  have h1 : lay.mapIdx (fun a e => (base + a, cl_e cA base e (ur_ mm lay.length row a))) = lay.mapIdx (fun a e => (base + a, cl_e cA base e (mm a))) := by
    apply List.ext_getElem?
    intro i
    rw [List.getElem?_mapIdx, List.getElem?_mapIdx]
    by_cases hi : i < lay.length
    · have hne : ¬ i = lay.length := by omega
      simp [ur_, hne]
    · rw [List.getElem?_eq_none (by omega)]
      rfl
  simp only [wd_, List.mapIdx_append]
  rw [h1]
  simp [ur_]
set_option maxHeartbeats 400000 in
theorem sl_push {lay : Ly} {e : Nat × Nat × List (Option Nat)} : sl_ (lay ++ [e]) = sl_ lay + e.2.1 := by simp [sl_]
set_option maxHeartbeats 400000 in
theorem q_is {D : va_G} {cA : Nat → ClassId} {base : Nat} {σ : Sg} {q : Nat} {E : va_E} {H1 : Heap} (hP : va_P D vwCl (wd_ cA base σ ++ [(q, E)]) H1) (hD : va_D (fun q => base ≤ q) (wd_ cA base σ ++ [(q, E)])) (hz : H1.size ≤ base + σ.1.length + 1) : q = base + σ.1.length := by
  have hlen : (wd_ cA base σ).length = σ.1.length := by simp [wd_]
  have hl : (wd_ cA base σ ++ [(q, E)])[σ.1.length]? = some (q, E) := by
    rw [List.getElem?_append_right (by omega), hlen]; simp
  have h1 : q < H1.size := (hP _ _ hl).lt
  have h2 : base ≤ q := hD.2 _ _ hl
  rcases Nat.lt_or_ge (q - base) σ.1.length with h3 | h3
  · exfalso
    have h4 : (wd_ cA base σ ++ [(q, E)])[q - base]? = some (base + (q - base), cl_e cA base (σ.1[q - base]) (σ.2 (q - base))) := by
      rw [List.getElem?_append_left (by omega)]
      exact wd_get (List.getElem?_eq_getElem h3)
    have h5 := hD.1 _ _ _ _ h4 hl (by show base + (q - base) = q; omega)
    omega
  · omega
set_option maxHeartbeats 400000 in
theorem W_siz {p : Program} {l : Launch} {e : Env} {R : Room} {s : State} {m : MethodId} {args : Array Value} {below : List Frame} {meth : Method} {c : Code} {H : Heap} {locs : List Loc} {cells slots : Nat} {Z : State → Prop} {g : JFrame} (k : H.size ≤ s.heap.size + cells → W p l e R s m args below meth c H locs cells slots Z g) : W p l e R s m args below meth c H locs cells slots Z g :=
  fun T hT X => k (by rw [← hT]; exact X.heapSize) T hT X
set_option maxHeartbeats 400000 in
theorem At_.size {R : Room} {s : State} {D : va_G} {cA : Nat → ClassId} {base n0 s0 : Nat} {σ : Sg} {H : Heap} {locs : List Loc} {cells slots : Nat} (h : At_ R s D cA base n0 s0 σ H locs cells slots) (hs : s.heap.size = base + n0) (hz : H.size ≤ s.heap.size + cells) : H.size = base + σ.1.length := by
  have h1 := h.2.2.2.1
  rcases Nat.eq_zero_or_pos σ.1.length with h0 | h0
  · have h2 := h.2.2.1.1
    omega
  · have h3 : (wd_ cA base σ)[σ.1.length - 1]? = some (base + (σ.1.length - 1), cl_e cA base (σ.1[σ.1.length - 1]) (σ.2 (σ.1.length - 1))) := wd_get (List.getElem?_eq_getElem (by omega))
    have h4 := (h.1 _ _ h3).lt
    have h4 : base + (σ.1.length - 1) < H.size := h4
    omega
/-- the entry 'index' of 'own' names class number ci of N fields -/
def nc_ (own : String) (index ci N : Nat) : Prop := ∃ (C : String) (T : u_T), vwCl[ci]? = some (C, T, N) ∧ ci < 11 ∧ (∀ w ∈ u_ws C T N, w ∈ Tb) ∧ (∀ k, k < N → parseFieldDescriptor (T k).2.2.1 = some (ty_c ci k)) ∧ (∀ k, k < N → defaultValue (ty_c ci k) = if is_I (ty_c ci k) = true then Value.int 0 else .null) ∧ Cond.classLink own index C ∈ Tb ∧ Cond.instantiable C N ∈ Tb ∧ Cond.initialized C ∈ Tb
section Y3
variable {G : Nat × (Nat → Int32)} {M : Mi} {cap : Nat × Nat} {pc pc2 : Nat} {ls ls2 : List (Option Value)} {st : List Value} {σ : Sg} {lay : Ly} {mm : Mm} {Q : Option Value → Sg → Prop}
set_option maxHeartbeats 400000 in
theorem Y_new {index ci N : Nat} (i : Nat) (h : (m_t M)[i]? = some (pc, .new index, 3)) (hp : pc + 3 = pc2) (hn : nc_ (m_y M).cls index ci N) (hc1 : lay.length + 1 ≤ cap.1) (hc2 : sl_ lay + N ≤ cap.2) (hln : lay.length + 1 ≤ 1000000) (k : Y G M cap pc2 ls (.ref lay.length :: st) (lay ++ [(ci, N, List.replicate N none)], ur_ mm lay.length (fun _ => 0)) Q) : Y G M cap pc ls st (lay, mm) Q := by
  intro p l e R s m args below meth c D cA base sp n0 s0 Z C fin H locs lsA cells slots hA hL
  subst hp
  obtain ⟨CC, T, h1, h11, h3, h4, h5, h6, h7, h8⟩ := hn
  have hcc := C.rm.2.2.1
  have hcs := C.rm.2.2.2
  have e1 : cells + n0 = lay.length := hA.2.2.2.1
  have e2 : slots + s0 = sl_ lay := hA.2.2.2.2.1
  refine va_new (fs := (List.range N).map (fun k => if is_I (ty_c ci k) = true then Value.int 0 else va_rf (((List.replicate N none).getD k none).map (fun r => base + r)))) C.ex C.by C.ts h3 (ty_c ci) h4 C.ow (C.ts _ h6) (C.ts _ h7) (C.ts _ h8) C.st.1 hA.1 wd_D hA.2.2.1 (fun q hq => ?_) h1 (fun j hj => ?_) (by omega) (by omega) (C.dec h) (fun q H1 hP1 hD1 hS1 => ?_)
  · show base ≤ q
    have := C.sz
    omega
  · rw [h5 j hj]
    simp [vp_V, hj, va_rf]
  · refine W_siz (fun hz => ?_)
    have hq := q_is hP1 hD1 (by have := C.sz; simp only; omega)
    subst hq
    have hP2 : va_P D vwCl (wd_ cA base (lay ++ [(ci, N, List.replicate N none)], ur_ mm lay.length (fun _ => 0))) H1 := by
      rw [wd_push, cl_o h11]
      exact hP1
    have hk := k p l e R s m args below meth c D cA base sp n0 s0 Z C fin H1 locs lsA (cells + 1) (slots + N) ⟨hP2, by simpa using hln, hS1, by simp; omega, by show _ = sl_ (lay ++ [(ci, N, List.replicate N none)]); rw [sl_push]; simp only; omega, by omega, by omega⟩ hL
    have hk : W p l e R s m args below meth c H1 locs (cells + 1) (slots + N) Z (F0 m (pc + 3) lsA (tr_ base sp (.ref lay.length) :: st.map (tr_ base sp))) := hk
    rw [tr_ref (by omega)] at hk
    exact hk
set_option maxHeartbeats 400000 in
theorem Y_newa_b {n : Nat} {x : Int32} (i : Nat) (h : (m_t M)[i]? = some (pc, .newarray .byte, 2)) (hp : pc + 2 = pc2) (hw : Cond.arrayClass .byte ∈ Tb) (hx : x = nI n) (hnn : n ≤ 100000) (hc1 : lay.length + 1 ≤ cap.1) (hc2 : sl_ lay + n ≤ cap.2) (hln : lay.length + 1 ≤ 1000000) (k : Y G M cap pc2 ls (.ref lay.length :: st) (lay ++ [(11, n, [])], ur_ mm lay.length (fun _ => 0)) Q) : Y G M cap pc ls (.int x :: st) (lay, mm) Q := by
  intro p l e R s m args below meth c D cA base sp n0 s0 Z C fin H locs lsA cells slots hA hL
  subst hp; subst hx
  have hcc := C.rm.2.2.1
  have hcs := C.rm.2.2.2
  have e1 : cells + n0 = lay.length := hA.2.2.2.1
  have e2 : slots + s0 = sl_ lay := hA.2.2.2.2.1
  refine va_newa (ty := .byte) (a0 := (n, .inl (fun _ => 0))) (N' := n) C.ex C.by (atype := .byte) (C.ts _ hw) rfl C.st.1 hA.1 wd_D hA.2.2.1 (fun q hq => ?_) (fun _ => rfl) (nI_pos (by omega)) (nI_clamp (by omega)) (by show n * _ ≤ _; simp only [componentBytes]; omega) (by omega) (by omega) (C.dec h) (fun q cB H1 hK1 hP1 hD1 hS1 => ?_)
  · show base ≤ q
    have := C.sz
    omega
  · refine W_siz (fun hz => ?_)
    have hq := q_is hP1 hD1 (by have := C.sz; simp only; omega)
    subst hq
    have f1 : s.vm.findClass ("[" ++ (FieldType.toString .byte)) = some cB := (hK1.2 7 (cB, .byte) rfl).2
    have f2 : s.vm.findClass ("[" ++ (FieldType.toString .byte)) = some (cA 11) := (C.st.1.2 0 (cA 11, .byte) rfl).2
    have hB : cB = cA 11 := Option.some.inj (f1.symm.trans f2)
    subst hB
    have hP2 : va_P D vwCl (wd_ cA base (lay ++ [(11, n, [])], ur_ mm lay.length (fun _ => 0))) H1 := by
      rw [wd_push]
      exact hP1
    have hk := k p l e R s m args below meth c D cA base sp n0 s0 Z C fin H1 locs lsA (cells + 1) (slots + n) ⟨hP2, by simpa using hln, hS1, by simp; omega, by show _ = sl_ (lay ++ [(11, n, [])]); rw [sl_push]; simp only; omega, by omega, by omega⟩ hL
    have hk : W p l e R s m args below meth c H1 locs (cells + 1) (slots + n) Z (F0 m (pc + 2) lsA (tr_ base sp (.ref lay.length) :: st.map (tr_ base sp))) := hk
    rw [tr_ref (by omega)] at hk
    exact hk
set_option maxHeartbeats 400000 in
theorem Y_newa_i {n : Nat} {x : Int32} (i : Nat) (h : (m_t M)[i]? = some (pc, .newarray .int, 2)) (hp : pc + 2 = pc2) (hw : Cond.arrayClass .int ∈ Tb) (hx : x = nI n) (hnn : n ≤ 100000) (hc1 : lay.length + 1 ≤ cap.1) (hc2 : sl_ lay + n ≤ cap.2) (hln : lay.length + 1 ≤ 1000000) (k : Y G M cap pc2 ls (.ref lay.length :: st) (lay ++ [(12, n, [])], ur_ mm lay.length (fun _ => 0)) Q) : Y G M cap pc ls (.int x :: st) (lay, mm) Q := by
  intro p l e R s m args below meth c D cA base sp n0 s0 Z C fin H locs lsA cells slots hA hL
  subst hp; subst hx
  have hcc := C.rm.2.2.1
  have hcs := C.rm.2.2.2
  have e1 : cells + n0 = lay.length := hA.2.2.2.1
  have e2 : slots + s0 = sl_ lay := hA.2.2.2.2.1
  refine va_newa (ty := .int) (a0 := (n, .inl (fun _ => 0))) (N' := n) C.ex C.by (atype := .int) (C.ts _ hw) rfl C.st.1 hA.1 wd_D hA.2.2.1 (fun q hq => ?_) (fun _ => rfl) (nI_pos (by omega)) (nI_clamp (by omega)) (by show n * _ ≤ _; simp only [componentBytes]; omega) (by omega) (by omega) (C.dec h) (fun q cB H1 hK1 hP1 hD1 hS1 => ?_)
  · show base ≤ q
    have := C.sz
    omega
  · refine W_siz (fun hz => ?_)
    have hq := q_is hP1 hD1 (by have := C.sz; simp only; omega)
    subst hq
    have f1 : s.vm.findClass ("[" ++ (FieldType.toString .int)) = some cB := (hK1.2 7 (cB, .int) rfl).2
    have f2 : s.vm.findClass ("[" ++ (FieldType.toString .int)) = some (cA 12) := (C.st.1.2 1 (cA 12, .int) rfl).2
    have hB : cB = cA 12 := Option.some.inj (f1.symm.trans f2)
    subst hB
    have hP2 : va_P D vwCl (wd_ cA base (lay ++ [(12, n, [])], ur_ mm lay.length (fun _ => 0))) H1 := by
      rw [wd_push]
      exact hP1
    have hk := k p l e R s m args below meth c D cA base sp n0 s0 Z C fin H1 locs lsA (cells + 1) (slots + n) ⟨hP2, by simpa using hln, hS1, by simp; omega, by show _ = sl_ (lay ++ [(12, n, [])]); rw [sl_push]; simp only; omega, by omega, by omega⟩ hL
    have hk : W p l e R s m args below meth c H1 locs (cells + 1) (slots + n) Z (F0 m (pc + 2) lsA (tr_ base sp (.ref lay.length) :: st.map (tr_ base sp))) := hk
    rw [tr_ref (by omega)] at hk
    exact hk
set_option maxHeartbeats 400000 in
theorem Y_newa_z {n : Nat} {x : Int32} (i : Nat) (h : (m_t M)[i]? = some (pc, .newarray .boolean, 2)) (hp : pc + 2 = pc2) (hw : Cond.arrayClass .boolean ∈ Tb) (hx : x = nI n) (hnn : n ≤ 100000) (hc1 : lay.length + 1 ≤ cap.1) (hc2 : sl_ lay + n ≤ cap.2) (hln : lay.length + 1 ≤ 1000000) (k : Y G M cap pc2 ls (.ref lay.length :: st) (lay ++ [(13, n, [])], ur_ mm lay.length (fun _ => 0)) Q) : Y G M cap pc ls (.int x :: st) (lay, mm) Q := by
  intro p l e R s m args below meth c D cA base sp n0 s0 Z C fin H locs lsA cells slots hA hL
  subst hp; subst hx
  have hcc := C.rm.2.2.1
  have hcs := C.rm.2.2.2
  have e1 : cells + n0 = lay.length := hA.2.2.2.1
  have e2 : slots + s0 = sl_ lay := hA.2.2.2.2.1
  refine va_newa (ty := .boolean) (a0 := (n, .inl (fun _ => 0))) (N' := n) C.ex C.by (atype := .boolean) (C.ts _ hw) rfl C.st.1 hA.1 wd_D hA.2.2.1 (fun q hq => ?_) (fun _ => rfl) (nI_pos (by omega)) (nI_clamp (by omega)) (by show n * _ ≤ _; simp only [componentBytes]; omega) (by omega) (by omega) (C.dec h) (fun q cB H1 hK1 hP1 hD1 hS1 => ?_)
  · show base ≤ q
    have := C.sz
    omega
  · refine W_siz (fun hz => ?_)
    have hq := q_is hP1 hD1 (by have := C.sz; simp only; omega)
    subst hq
    have f1 : s.vm.findClass ("[" ++ (FieldType.toString .boolean)) = some cB := (hK1.2 7 (cB, .boolean) rfl).2
    have f2 : s.vm.findClass ("[" ++ (FieldType.toString .boolean)) = some (cA 13) := (C.st.1.2 2 (cA 13, .boolean) rfl).2
    have hB : cB = cA 13 := Option.some.inj (f1.symm.trans f2)
    subst hB
    have hP2 : va_P D vwCl (wd_ cA base (lay ++ [(13, n, [])], ur_ mm lay.length (fun _ => 0))) H1 := by
      rw [wd_push]
      exact hP1
    have hk := k p l e R s m args below meth c D cA base sp n0 s0 Z C fin H1 locs lsA (cells + 1) (slots + n) ⟨hP2, by simpa using hln, hS1, by simp; omega, by show _ = sl_ (lay ++ [(13, n, [])]); rw [sl_push]; simp only; omega, by omega, by omega⟩ hL
    have hk : W p l e R s m args below meth c H1 locs (cells + 1) (slots + n) Z (F0 m (pc + 2) lsA (tr_ base sp (.ref lay.length) :: st.map (tr_ base sp))) := hk
    rw [tr_ref (by omega)] at hk
    exact hk
set_option maxHeartbeats 400000 in
theorem Y_newq_Circle {index n : Nat} {x : Int32} (i : Nat) (h : (m_t M)[i]? = some (pc, .anewarray index, 3)) (hp : pc + 3 = pc2) (hw : Cond.classLink (m_y M).cls index "GongHouse$Circle" ∈ Tb) (hx : x = nI n) (hnn : n ≤ 100000) (hc1 : lay.length + 1 ≤ cap.1) (hc2 : sl_ lay + n ≤ cap.2) (hln : lay.length + 1 ≤ 1000000) (k : Y G M cap pc2 ls (.ref lay.length :: st) (lay ++ [(14, n, List.replicate n none)], ur_ mm lay.length (fun _ => 0)) Q) : Y G M cap pc ls (.int x :: st) (lay, mm) Q := by
  intro p l e R s m args below meth c D cA base sp n0 s0 Z C fin H locs lsA cells slots hA hL
  subst hp; subst hx
  have hcc := C.rm.2.2.1
  have hcs := C.rm.2.2.2
  have e1 : cells + n0 = lay.length := hA.2.2.2.1
  have e2 : slots + s0 = sl_ lay := hA.2.2.2.2.1
  refine va_newq (N' := n) C.ex C.by C.ow (C.ts _ hw) C.st.2.2.1.1 C.st.1 hA.1 wd_D hA.2.2.1 (fun q hq => ?_) (nI_pos (by omega)) (nI_clamp (by omega)) (by omega) (by omega) (by omega) (C.dec h) (fun q cB H1 hK1 hP1 hD1 hS1 => ?_)
  · show base ≤ q
    have := C.sz
    omega
  · refine W_siz (fun hz => ?_)
    have hq := q_is hP1 hD1 (by have := C.sz; simp only; omega)
    subst hq
    obtain ⟨kA, comp, -, -, -, f1⟩ := (hK1.2 7 (cB, .object "GongHouse$Circle") rfl).2
    obtain ⟨kA2, comp2, -, -, -, f2⟩ := (C.st.1.2 3 (cA 14, .object "GongHouse$Circle") rfl).2
    have hB : cB = cA 14 := Option.some.inj (f1.symm.trans f2)
    subst hB
    have hP2 : va_P D vwCl (wd_ cA base (lay ++ [(14, n, List.replicate n none)], ur_ mm lay.length (fun _ => 0))) H1 := by
      rw [wd_push, cl_q (by omega)]
      have ee : (fun k => ((List.replicate n (none : Option Nat)).getD k none).map (fun r => base + r)) = fun _ => none := by
        funext k
        by_cases hk : k < n <;> simp [hk]
      rw [ee]
      exact hP1
    have hk := k p l e R s m args below meth c D cA base sp n0 s0 Z C fin H1 locs lsA (cells + 1) (slots + n) ⟨hP2, by simpa using hln, hS1, by simp; omega, by show _ = sl_ (lay ++ [(14, n, List.replicate n none)]); rw [sl_push]; simp only; omega, by omega, by omega⟩ hL
    have hk : W p l e R s m args below meth c H1 locs (cells + 1) (slots + n) Z (F0 m (pc + 3) lsA (tr_ base sp (.ref lay.length) :: st.map (tr_ base sp))) := hk
    rw [tr_ref (by omega)] at hk
    exact hk
set_option maxHeartbeats 400000 in
theorem Y_newq_Figure {index n : Nat} {x : Int32} (i : Nat) (h : (m_t M)[i]? = some (pc, .anewarray index, 3)) (hp : pc + 3 = pc2) (hw : Cond.classLink (m_y M).cls index "GongHouse$Figure" ∈ Tb) (hx : x = nI n) (hnn : n ≤ 100000) (hc1 : lay.length + 1 ≤ cap.1) (hc2 : sl_ lay + n ≤ cap.2) (hln : lay.length + 1 ≤ 1000000) (k : Y G M cap pc2 ls (.ref lay.length :: st) (lay ++ [(15, n, List.replicate n none)], ur_ mm lay.length (fun _ => 0)) Q) : Y G M cap pc ls (.int x :: st) (lay, mm) Q := by
  intro p l e R s m args below meth c D cA base sp n0 s0 Z C fin H locs lsA cells slots hA hL
  subst hp; subst hx
  have hcc := C.rm.2.2.1
  have hcs := C.rm.2.2.2
  have e1 : cells + n0 = lay.length := hA.2.2.2.1
  have e2 : slots + s0 = sl_ lay := hA.2.2.2.2.1
  refine va_newq (N' := n) C.ex C.by C.ow (C.ts _ hw) C.st.2.2.1.2.1 C.st.1 hA.1 wd_D hA.2.2.1 (fun q hq => ?_) (nI_pos (by omega)) (nI_clamp (by omega)) (by omega) (by omega) (by omega) (C.dec h) (fun q cB H1 hK1 hP1 hD1 hS1 => ?_)
  · show base ≤ q
    have := C.sz
    omega
  · refine W_siz (fun hz => ?_)
    have hq := q_is hP1 hD1 (by have := C.sz; simp only; omega)
    subst hq
    obtain ⟨kA, comp, -, -, -, f1⟩ := (hK1.2 7 (cB, .object "GongHouse$Figure") rfl).2
    obtain ⟨kA2, comp2, -, -, -, f2⟩ := (C.st.1.2 4 (cA 15, .object "GongHouse$Figure") rfl).2
    have hB : cB = cA 15 := Option.some.inj (f1.symm.trans f2)
    subst hB
    have hP2 : va_P D vwCl (wd_ cA base (lay ++ [(15, n, List.replicate n none)], ur_ mm lay.length (fun _ => 0))) H1 := by
      rw [wd_push, cl_q (by omega)]
      have ee : (fun k => ((List.replicate n (none : Option Nat)).getD k none).map (fun r => base + r)) = fun _ => none := by
        funext k
        by_cases hk : k < n <;> simp [hk]
      rw [ee]
      exact hP1
    have hk := k p l e R s m args below meth c D cA base sp n0 s0 Z C fin H1 locs lsA (cells + 1) (slots + n) ⟨hP2, by simpa using hln, hS1, by simp; omega, by show _ = sl_ (lay ++ [(15, n, List.replicate n none)]); rw [sl_push]; simp only; omega, by omega, by omega⟩ hL
    have hk : W p l e R s m args below meth c H1 locs (cells + 1) (slots + n) Z (F0 m (pc + 3) lsA (tr_ base sp (.ref lay.length) :: st.map (tr_ base sp))) := hk
    rw [tr_ref (by omega)] at hk
    exact hk
set_option maxHeartbeats 400000 in
theorem Y_newq_Level {index n : Nat} {x : Int32} (i : Nat) (h : (m_t M)[i]? = some (pc, .anewarray index, 3)) (hp : pc + 3 = pc2) (hw : Cond.classLink (m_y M).cls index "GongHouse$Level" ∈ Tb) (hx : x = nI n) (hnn : n ≤ 100000) (hc1 : lay.length + 1 ≤ cap.1) (hc2 : sl_ lay + n ≤ cap.2) (hln : lay.length + 1 ≤ 1000000) (k : Y G M cap pc2 ls (.ref lay.length :: st) (lay ++ [(16, n, List.replicate n none)], ur_ mm lay.length (fun _ => 0)) Q) : Y G M cap pc ls (.int x :: st) (lay, mm) Q := by
  intro p l e R s m args below meth c D cA base sp n0 s0 Z C fin H locs lsA cells slots hA hL
  subst hp; subst hx
  have hcc := C.rm.2.2.1
  have hcs := C.rm.2.2.2
  have e1 : cells + n0 = lay.length := hA.2.2.2.1
  have e2 : slots + s0 = sl_ lay := hA.2.2.2.2.1
  refine va_newq (N' := n) C.ex C.by C.ow (C.ts _ hw) C.st.2.2.1.2.2.1 C.st.1 hA.1 wd_D hA.2.2.1 (fun q hq => ?_) (nI_pos (by omega)) (nI_clamp (by omega)) (by omega) (by omega) (by omega) (C.dec h) (fun q cB H1 hK1 hP1 hD1 hS1 => ?_)
  · show base ≤ q
    have := C.sz
    omega
  · refine W_siz (fun hz => ?_)
    have hq := q_is hP1 hD1 (by have := C.sz; simp only; omega)
    subst hq
    obtain ⟨kA, comp, -, -, -, f1⟩ := (hK1.2 7 (cB, .object "GongHouse$Level") rfl).2
    obtain ⟨kA2, comp2, -, -, -, f2⟩ := (C.st.1.2 5 (cA 16, .object "GongHouse$Level") rfl).2
    have hB : cB = cA 16 := Option.some.inj (f1.symm.trans f2)
    subst hB
    have hP2 : va_P D vwCl (wd_ cA base (lay ++ [(16, n, List.replicate n none)], ur_ mm lay.length (fun _ => 0))) H1 := by
      rw [wd_push, cl_q (by omega)]
      have ee : (fun k => ((List.replicate n (none : Option Nat)).getD k none).map (fun r => base + r)) = fun _ => none := by
        funext k
        by_cases hk : k < n <;> simp [hk]
      rw [ee]
      exact hP1
    have hk := k p l e R s m args below meth c D cA base sp n0 s0 Z C fin H1 locs lsA (cells + 1) (slots + n) ⟨hP2, by simpa using hln, hS1, by simp; omega, by show _ = sl_ (lay ++ [(16, n, List.replicate n none)]); rw [sl_push]; simp only; omega, by omega, by omega⟩ hL
    have hk : W p l e R s m args below meth c H1 locs (cells + 1) (slots + n) Z (F0 m (pc + 3) lsA (tr_ base sp (.ref lay.length) :: st.map (tr_ base sp))) := hk
    rw [tr_ref (by omega)] at hk
    exact hk
set_option maxHeartbeats 400000 in
theorem Y_newq_Sheet {index n : Nat} {x : Int32} (i : Nat) (h : (m_t M)[i]? = some (pc, .anewarray index, 3)) (hp : pc + 3 = pc2) (hw : Cond.classLink (m_y M).cls index "GongHouse$Sheet" ∈ Tb) (hx : x = nI n) (hnn : n ≤ 100000) (hc1 : lay.length + 1 ≤ cap.1) (hc2 : sl_ lay + n ≤ cap.2) (hln : lay.length + 1 ≤ 1000000) (k : Y G M cap pc2 ls (.ref lay.length :: st) (lay ++ [(17, n, List.replicate n none)], ur_ mm lay.length (fun _ => 0)) Q) : Y G M cap pc ls (.int x :: st) (lay, mm) Q := by
  intro p l e R s m args below meth c D cA base sp n0 s0 Z C fin H locs lsA cells slots hA hL
  subst hp; subst hx
  have hcc := C.rm.2.2.1
  have hcs := C.rm.2.2.2
  have e1 : cells + n0 = lay.length := hA.2.2.2.1
  have e2 : slots + s0 = sl_ lay := hA.2.2.2.2.1
  refine va_newq (N' := n) C.ex C.by C.ow (C.ts _ hw) C.st.2.2.1.2.2.2 C.st.1 hA.1 wd_D hA.2.2.1 (fun q hq => ?_) (nI_pos (by omega)) (nI_clamp (by omega)) (by omega) (by omega) (by omega) (C.dec h) (fun q cB H1 hK1 hP1 hD1 hS1 => ?_)
  · show base ≤ q
    have := C.sz
    omega
  · refine W_siz (fun hz => ?_)
    have hq := q_is hP1 hD1 (by have := C.sz; simp only; omega)
    subst hq
    obtain ⟨kA, comp, -, -, -, f1⟩ := (hK1.2 7 (cB, .object "GongHouse$Sheet") rfl).2
    obtain ⟨kA2, comp2, -, -, -, f2⟩ := (C.st.1.2 6 (cA 17, .object "GongHouse$Sheet") rfl).2
    have hB : cB = cA 17 := Option.some.inj (f1.symm.trans f2)
    subst hB
    have hP2 : va_P D vwCl (wd_ cA base (lay ++ [(17, n, List.replicate n none)], ur_ mm lay.length (fun _ => 0))) H1 := by
      rw [wd_push, cl_q (by omega)]
      have ee : (fun k => ((List.replicate n (none : Option Nat)).getD k none).map (fun r => base + r)) = fun _ => none := by
        funext k
        by_cases hk : k < n <;> simp [hk]
      rw [ee]
      exact hP1
    have hk := k p l e R s m args below meth c D cA base sp n0 s0 Z C fin H1 locs lsA (cells + 1) (slots + n) ⟨hP2, by simpa using hln, hS1, by simp; omega, by show _ = sl_ (lay ++ [(17, n, List.replicate n none)]); rw [sl_push]; simp only; omega, by omega, by omega⟩ hL
    have hk : W p l e R s m args below meth c H1 locs (cells + 1) (slots + n) Z (F0 m (pc + 3) lsA (tr_ base sp (.ref lay.length) :: st.map (tr_ base sp))) := hk
    rw [tr_ref (by omega)] at hk
    exact hk
end Y3
end
section
/-! calls -/
set_option maxHeartbeats 400000 in
theorem nw_is : ∀ w ∈ NwTb, ∃ (a : String) (i : Nat) (x : MethodName) (h : String), w = .methodLinkNest a i x h := by
  intro w hw
  simp only [NwTb, List.mem_cons, List.not_mem_nil, or_false] at hw
  rcases hw with rfl | rfl | rfl | rfl | rfl | rfl | rfl | rfl | rfl | rfl | rfl <;> exact ⟨_, _, _, _, rfl⟩
set_option maxHeartbeats 400000 in
theorem nw_.warm {s U : State} (hW : s.WarmedH U.vm) (h : nw_ s) : nw_ U := by
  intro w hw
  have h1 := h w hw
  obtain ⟨a, i, x, ho, rfl⟩ := nw_is w hw
  exact va_Nw.warmM hW h1
set_option maxHeartbeats 400000 in
theorem nw_.same {u U : State} (hv : u.vm = U.vm) (h : nw_ u) : nw_ U := by
  intro w hw
  have h1 := h w hw
  obtain ⟨a, i, x, ho, rfl⟩ := nw_is w hw
  exact va_Nw.same rfl hv h1
set_option maxHeartbeats 400000 in
theorem ao_.moved {u U : State} (hv : u.vm.Alike U.vm) (h : ao_ u) : ao_ U := ⟨va_AO.moved hv h.1, va_AO.moved hv h.2.1, va_AO.moved hv h.2.2.1, va_AO.moved hv h.2.2.2⟩
set_option maxHeartbeats 400000 in
theorem oa_.moved {G : Nat × (Nat → Int32)} {base : Nat} {sp : Nat → Nat} {u U : State} {H : Heap} (hv : u.vm.Alike U.vm) (h : oa_ G base sp u H) : oa_ G base sp U H := ⟨fun j hj => va_T.moved hv (h.1 j hj), va_Z.moved hv h.2⟩
set_option maxHeartbeats 400000 in
theorem oa_.kept {G : Nat × (Nat → Int32)} {base : Nat} {sp : Nat → Nat} {U : State} {H H1 : Heap} (h : oa_ G base sp U H) (hq : ∀ a : Nat, a < H.size → ¬ base ≤ a → H1[a]? = H[a]?) : oa_ G base sp U H1 := ⟨fun j hj => va_T.kept (h.1 j hj) hq, va_Z.kept h.2 hq⟩
set_option maxHeartbeats 400000 in
theorem St_.warm {G : Nat × (Nat → Int32)} {D : va_G} {cA : Nat → ClassId} {base : Nat} {sp : Nat → Nat} {s U : State} {H H1 : Heap} (hW : s.WarmedH U.vm) (hq : ∀ a : Nat, a < H.size → ¬ base ≤ a → H1[a]? = H[a]?) (h : St_ G D cA base sp s H) : St_ G D cA base sp U H1 :=
  ⟨va_K.moved hW.alike h.1, h.2.1.warm hW, h.2.2.1.moved hW.alike, (h.2.2.2.moved hW.alike).kept hq⟩
set_option maxHeartbeats 400000 in
theorem St_.same {G : Nat × (Nat → Int32)} {D : va_G} {cA : Nat → ClassId} {base : Nat} {sp : Nat → Nat} {u U : State} {H : Heap} (hv : u.vm = U.vm) (h : St_ G D cA base sp u H) : St_ G D cA base sp U H := by
  have hA : u.vm.Alike U.vm := by rw [hv]; exact Vm.Alike.refl _
  exact ⟨va_K.moved hA h.1, h.2.1.same hv, h.2.2.1.moved hA, h.2.2.2.moved hA⟩
def Mok (M : Mi) : Prop := plainName (m_y M).cls = true ∧ Cond.code (m_y M) (m_c M) (m_l M) (m_r M) ∈ Tb ∧ (∀ q ∈ m_t M, decode (m_c M) q.1 = .ok q.2) ∧ Cond.initialized (m_y M).cls ∈ Tb ∧ ((m_y M).cls ≠ "java/lang/invoke/MethodHandle" ∧ (m_y M).cls ≠ "java/lang/invoke/VarHandle")
def en_ (M : Mi) (as : List Value) : List (Option Value) := as.map some ++ List.replicate (m_l M - as.length) none
def qc_ (D : va_G) (cA : Nat → ClassId) (base : Nat) (sp : Nat → Nat) (Q : Option Value → Sg → Prop) : Array Value → State → Outcome → State → Prop := fun _ st oc t =>
  ∃ (v : Option Value) (σ' : Sg), oc = .returned (v.map (tr_ base sp)) ∧ Q v σ' ∧ va_P D vwCl (wd_ cA base σ') t.heap ∧ σ'.1.length ≤ 1000000 ∧ va_F (fun q => base ≤ q) st t
def pr_ (G : Nat × (Nat → Int32)) (D : va_G) (cA : Nat → ClassId) (base : Nat) (sp : Nat → Nat) (σ : Sg) (U : State) : Prop := St_ G D cA base sp U U.heap ∧ U.heap.size = base + σ.1.length ∧ σ.1.length ≤ 1000000 ∧ va_P D vwCl (wd_ cA base σ) U.heap
set_option maxHeartbeats 400000 in
theorem cat_sl (vs : List Value) (h : ∀ v ∈ vs, v.category = 1) : lg_sl vs = vs.map Slot.val := by
  induction vs with
  | nil => rfl
  | cons v t ih =>
    have h1 := h v List.mem_cons_self
    have h2 := ih (fun w hw => h w (List.mem_cons_of_mem _ hw))
    unfold lg_sl at h2 ⊢
    rw [List.flatMap_cons, h2]
    simp [h1]
set_option maxHeartbeats 400000 in
theorem en_Lh {M : Mi} {as : List Value} {base : Nat} {sp : Nat → Nat} (hc : ∀ v ∈ as, v.category = 1) (hl : as.length ≤ m_l M) :
    Lh base sp ((lg_sl (as.map (tr_ base sp)) ++ List.replicate (m_l M - (lg_sl (as.map (tr_ base sp))).length) Slot.unset).toArray) (m_l M) (en_ M as) := by
  have hc2 : ∀ v ∈ as.map (tr_ base sp), v.category = 1 := by
    intro v hv
    obtain ⟨w, hw, rfl⟩ := List.mem_map.mp hv
    rw [tr_cat]; exact hc w hw
  have he := cat_sl _ hc2
  have hh := lv_entry (as.map (tr_ base sp)) (n := m_l M) (by rw [he]; simpa using hl)
  refine ⟨by simp [en_]; omega, hh.1, hh.2.1, fun i v hv => ?_⟩
  rw [he]
  have hi : i < as.length := by
    rcases Nat.lt_or_ge i as.length with h | h
    · exact h
    · exfalso
      unfold en_ at hv
      rw [List.getElem?_append_right (by simpa using h)] at hv
      have := List.mem_of_getElem? hv
      simp at this
  unfold en_ at hv
  rw [List.getElem?_append_left (by simpa using hi), List.getElem?_map, List.getElem?_eq_getElem hi] at hv
  simp only [Option.map_some, Option.some.injEq] at hv
  subst hv
  refine ⟨?_, hc _ (List.getElem_mem hi)⟩
  rw [List.getElem?_toArray, List.getElem?_append_left (by simpa using hi)]
  simp [hi]
set_option maxHeartbeats 400000 in
theorem Y.met {G : Nat × (Nat → Int32)} {M : Mi} {cap : Nat × Nat} {as : List Value} {σ : Sg} {Q : Option Value → Sg → Prop} {mc ms : Nat} (l : Launch) (D : va_G) (cA : Nat → ClassId) (base : Nat) (sp : Nat → Nat) (hok : Mok M) (hc : ∀ v ∈ as, v.category = 1) (hl : as.length ≤ m_l M) (hcap : cap.1 ≤ σ.1.length + mc ∧ cap.2 ≤ sl_ σ.1 + ms)
    (hY : Y G M cap 0 (en_ M as) [] σ Q) (hq : ∀ v σ', Q v σ' → σ'.1.length = σ.1.length + mc ∧ sl_ σ'.1 = sl_ σ.1 + ms) :
    Met l (m_y M) (Cond.code (m_y M) (m_c M) (m_l M) (m_r M) :: Tb) ({ frames := m_f M, cells := mc, slots := ms, locals := m_w M }) (va_Pc (as.map (tr_ base sp)) (pr_ G D cA base sp σ)) (qc_ D cA base sp Q) mc ms (fun q => base ≤ q) := by
  refine Met.ofW (cc := m_c M) (maxL := m_l M) (ret := m_r M) hok.1 rfl ?_
  intro p e s m args below meth c s₁ B hml hv
  obtain ⟨rfl, hst, hsz, hln, hP⟩ := hv
  have hts0 := atoms_spec (ws := Cond.code (m_y M) (m_c M) (m_l M) (m_r M) :: Tb) B.pre
  have hts : ∀ w ∈ Tb, w.before (as.map (tr_ base sp)).toArray s = true := fun w hw => hts0 w (List.mem_cons_of_mem _ hw)
  have hown : s.vm.findClass (m_y M).cls = some m.cls := findClass_of_methodNamed B.named
  have hnm : meth.name = (m_y M).name := (name_of_methodNamed B.named B.method).1
  have hlocks := B.notSynchronized
  have hr := B.returns
  have hC : Cx G M cap p (headSpec (Cond.code (m_y M) (m_c M) (m_l M) (m_r M) :: Tb) { frames := m_f M, cells := mc, slots := ms, locals := m_w M }).room s m (as.map (tr_ base sp)).toArray meth c D cA base sp σ.1.length (sl_ σ.1) :=
    ⟨⟨B.exec, B.bytes, hml, hown, hts⟩, hok.2.2.1, hnm, ⟨Nat.le_refl _, Nat.le_refl _, hcap.1, hcap.2⟩, hst, hsz⟩
  rw [lg_entry_eq]
  refine hY p l e _ s m _ below meth c D cA base sp σ.1.length (sl_ σ.1) _ hC ?_ s.heap [] _ 0 0 ⟨hP, hln, va_S.rf, by omega, by omega, Nat.zero_le _, Nat.zero_le _⟩ (en_Lh hc hl)
  intro H locs lsA cells slots pc' st' v σ' hA hR hQ
  obtain ⟨z1, z2⟩ := hq v σ' hQ
  have hcm : cells = mc := by have := hA.2.2.2.1; omega
  have hsm : slots = ms := by have := hA.2.2.2.2.1; omega
  subst hcm; subst hsm
  have hfin : ∀ t : State, t.heap = H → qc_ D cA base sp Q (as.map (tr_ base sp)).toArray s (.returned (v.map (tr_ base sp))) t := fun t ht => ⟨v, σ', rfl, hQ, by rw [ht]; exact hA.1, hA.2.1, hA.2.2.1.F ht⟩
  rcases hR with ⟨x, ty, h1, h2, h3, rfl, rfl⟩ | ⟨a, ty, h1, h2, h3, rfl, rfl⟩ | ⟨h1, h2, rfl, rfl⟩
  · exact W.zret B.exec B.bytes (hr.trans h2) h3 (fun t ht _ => hfin t ht) hA.2.2.1.2.2 h1 hlocks
  · exact W.aret B.exec B.bytes (hr.trans h2) h3 (Or.inr ⟨_, rfl⟩) (fun t ht _ => hfin t ht) hA.2.2.1.2.2 h1 hlocks
  · exact W.vret B.exec B.bytes (hr.trans h2) (fun t ht _ => hfin t ht) hA.2.2.1.2.2 h1 hlocks
set_option maxHeartbeats 400000 in
theorem pr_blind {G : Nat × (Nat → Int32)} {D : va_G} {cA : Nat → ClassId} {base : Nat} {sp : Nat → Nat} {σ : Sg} {av : List Value} : FrameBlind (va_Pc av (pr_ G D cA base sp σ)) := by
  intro a U g mk hp
  obtain ⟨q0, q1, q2⟩ := hp
  exact ⟨q0, St_.same (u := U) (U := U.calling g mk a) rfl q1, q2⟩
set_option maxHeartbeats 400000 in
theorem pr_at {G : Nat × (Nat → Int32)} {M : Mi} {cap : Nat × Nat} {p : Program} {R : Room} {s : State} {m : MethodId} {args : Array Value} {meth : Method} {c : Code} {D : va_G} {cA : Nat → ClassId} {base : Nat} {sp : Nat → Nat} {n0 s0 : Nat} {σ : Sg} {H : Heap} {locs : List Loc} {cells slots : Nat}
    (C : Cx G M cap p R s m args meth c D cA base sp n0 s0) (hA : At_ R s D cA base n0 s0 σ H locs cells slots) (hz : H.size ≤ s.heap.size + cells) : ∀ U : State, U.heap = H → s.WarmedH U.vm → pr_ G D cA base sp σ U := by
  intro U hU hW
  have hs := hA.size C.sz hz
  refine ⟨C.st.warm hW ?_, by rw [hU]; exact hs, hA.2.1, by rw [hU]; exact hA.1⟩
  intro a h1 h2
  rw [hU]
  exact hA.2.2.1.2.1 a h1 h2
set_option maxHeartbeats 400000 in
theorem y_run {p : Program} {l : Launch} {e : Env} {R : Room} {s : State} {m : MethodId} {args : Array Value} {below : List Frame} {meth : Method} {c : Code} {H : Heap} {locs : List Loc} {cells slots : Nat} {Z : State → Prop} {D : va_G} {cA : Nat → ClassId} {base n0 s0 mc ms : Nat} {sp : Nat → Nat} {σ : Sg} {Q : Option Value → Sg → Prop} {pc : Nat} {lsA : Array Slot} {st0 rest : List Value} {a : Array Value} (hA : At_ R s D cA base n0 s0 σ H locs cells slots)
    (hr : va_Run p l e R s m args below meth c H locs cells slots mc ms (F0 m pc lsA st0) rest (qc_ D cA base sp Q a) (fun q => base ≤ q))
    (hq : ∀ v σ', Q v σ' → σ'.1.length = σ.1.length + mc ∧ sl_ σ'.1 = sl_ σ.1 + ms) (hc : cells + mc ≤ R.cells ∧ slots + ms ≤ R.slots)
    (kk : ∀ (v : Option Value) (σ' : Sg) (H1 : Heap) (locs1 : List Loc), Q v σ' → At_ R s D cA base n0 s0 σ' H1 locs1 (cells + mc) (slots + ms) → W p l e R s m args below meth c H1 locs1 (cells + mc) (slots + ms) Z (F0 m (pc + 3) lsA ((v.map (tr_ base sp)).toList ++ rest))) :
    W p l e R s m args below meth c H locs cells slots Z (F0 m pc lsA st0) := by
  intro T hT X
  obtain ⟨v, st₀, t, T', L, h0, X', hL, e1, e2, ⟨v2, σ', hv, hQ, hP, hln, hz, hk⟩, stp⟩ := hr T hT X
  cases hv
  rw [h0] at hz hk
  obtain ⟨z1, z2⟩ := hq v2 σ' hQ
  have hS := hA.2.2.1
  have hn := hA.2.2.2.1
  have hs := hA.2.2.2.2.1
  obtain ⟨t2, a1, b1⟩ := kk v2 σ' T'.heap (locs ++ L) hQ ⟨by rw [e1]; exact hP, hln, ⟨Nat.le_trans hS.1 (by rw [e1]; exact hz), fun q h1 h2 => by rw [e1, hk q (Nat.lt_of_lt_of_le h1 hS.1) h2]; exact hS.2.1 q h1 h2, fun q hq => by
      rcases List.mem_append.mp hq with h | h
      · exact hS.2.2 q h
      · exact hL q h⟩, by omega, by omega, hc.1, hc.2⟩ T' rfl X'
  exact ⟨t2, stp t2 a1, b1⟩
def lk_ (own : String) (index : Nat) (y : MethodName) : Prop := Cond.methodLink own index y ∈ Tb ∨ ∃ host, Cond.methodLinkNest own index y host ∈ NwTb
def vi_ (M : Mi) (n : Nat) : Prop := Cond.instanceMethod (m_y M) ∈ Tb ∧ Cond.selects (m_y M).cls (m_y M) (m_y M) ∈ Tb ∧ (parseMethodDescriptor (m_y M).desc).map (fun d => d.parameters.length) = some n
def vs_ (M : Mi) (n : Nat) : Prop := Cond.static (m_y M) ∈ Tb ∧ (parseMethodDescriptor (m_y M).desc).map (fun d => d.parameters.length) = some n
def vn_ (M : Mi) (n : Nat) : Prop := (m_y M).name = "<init>" ∧ m_r M = none ∧ Cond.instanceMethod (m_y M) ∈ Tb ∧ (parseMethodDescriptor (m_y M).desc).map (fun d => d.parameters.length) = some n
def qm_ (lay : Ly) (P : Option Value → Mm → Prop) : Option Value → Sg → Prop := fun v σ' => σ'.1 = lay ∧ P v σ'.2
set_option maxHeartbeats 400000 in
theorem mok_g {M : Mi} (h : Mok M) : GoodIn Tb (Cond.code (m_y M) (m_c M) (m_l M) (m_r M) :: Tb) := by
  intro w hw
  rcases List.mem_cons.mp hw with h1 | h1
  · rw [h1]; exact tb_gg _ h.2.1
  · exact tb_gg _ h1
set_option maxHeartbeats 400000 in
theorem cat_sum {base : Nat} {sp : Nat → Nat} (rest : List Value) : ((rest.map (tr_ base sp)).map fun v => v.category).sum = (rest.map fun v => v.category).sum := by
  rw [List.map_map]
  congr 1
  apply List.map_congr_left
  intro v _
  exact tr_cat base sp v
set_option maxHeartbeats 400000 in
theorem v_list {base : Nat} {sp : Nat → Nat} {v : Option Value} {rest : List Value} : (v.map (tr_ base sp)).toList ++ rest.map (tr_ base sp) = (v.toList ++ rest).map (tr_ base sp) := by
  cases v <;> rfl
section Y4
variable {G : Nat × (Nat → Int32)} {M : Mi} {cap : Nat × Nat} {pc pc2 : Nat} {ls ls2 : List (Option Value)} {st : List Value} {σ : Sg} {lay : Ly} {mm : Mm} {Q : Option Value → Sg → Prop}
set_option maxHeartbeats 400000 in
theorem Y_callV {index ci a n : Nat} {rs : List (Option Nat)} {qq : vw_C} {M2 : Mi} {as rest : List Value} {P : Option Value → Mm → Prop} (i : Nat) (h : (m_t M)[i]? = some (pc, .invokevirtual index, 3)) (hp : pc + 3 = pc2) (hM : Mok M2) (hl : lk_ (m_y M).cls index (m_y M2)) (hv : vi_ M2 as.length) (ha : lay[a]? = some (ci, n, rs)) (hci : vwCl[ci]? = some qq) (hc11 : ci < 11) (hqq : qq.1 = (m_y M2).cls) (hst : st = as.reverse ++ .ref a :: rest) (hr8 : (rest.map fun v => v.category).sum ≤ 8) (hrm : m_f M2 + 1 ≤ m_f M ∧ 8 + (m_l M2 + 11) + m_w M2 ≤ m_w M) (hca : ∀ v ∈ as, v.category = 1) (hle : as.length + 1 ≤ m_l M2) (hY : Y G M2 (0, 0) 0 (en_ M2 (.ref a :: as)) [] (lay, mm) (qm_ lay P)) (k : ∀ (v : Option Value) (m2 : Mm), P v m2 → Y G M cap pc2 ls (v.toList ++ rest) (lay, m2) Q) : Y G M cap pc ls st (lay, mm) Q := by
  intro p l e R s m args below meth c D cA base sp n0 s0 Z C fin H locs lsA cells slots hA hL
  subst hp; subst hst
  refine W_siz (fun hz => ?_)
  have hrf := C.rm.1
  have hrl := C.rm.2.1
  have hcells : cells + 0 ≤ R.cells ∧ slots + 0 ≤ R.slots := ⟨hA.2.2.2.2.2.1, hA.2.2.2.2.2.2⟩
  have hcf : ∀ v ∈ (.ref a :: as), v.category = 1 := by
    intro v hv
    rcases List.mem_cons.mp hv with h | h
    · rw [h]; rfl
    · exact hca v h
  have hmet := Y.met (mc := 0) (ms := 0) (Q := (qm_ lay P)) l D cA base sp hM hcf (by simpa using hle) ⟨Nat.zero_le _, Nat.zero_le _⟩ hY (fun v σ' hq => by rw [hq.1]; exact ⟨rfl, rfl⟩)
  have hW8 : 2 * (F0 m pc lsA []).monitorRoom + ((rest.map (tr_ base sp)).map fun v => v.category).sum ≤ 8 := lv_room (by rw [cat_sum]; exact hr8)
  have hpre := pr_at C hA hz
  have hR : ({ frames := m_f M2, cells := 0, slots := 0, locals := m_w M2 } : Room).frames + 1 ≤ R.frames ∧ 8 + (m_l M2 + 11) + ({ frames := m_f M2, cells := 0, slots := 0, locals := m_w M2 } : Room).locals ≤ R.locals := ⟨by show m_f M2 + 1 ≤ _; omega, by show 8 + (m_l M2 + 11) + m_w M2 ≤ _; omega⟩
  have hstk : List.map (tr_ base sp) (as.reverse ++ .ref a :: rest) = (as.map (tr_ base sp)).reverse ++ tr_ base sp (.ref a) :: rest.map (tr_ base sp) := by simp
  rw [hstk]
  have htr := tr_ref (base := base) (sp := sp) (At_.lt hA ha)
  rw [htr]
  rw [List.map_cons, htr] at hmet
  refine y_run (sp := sp) (a := (Value.ref (base + a) :: as.map (tr_ base sp)).toArray) (mc := 0) (ms := 0) (Q := (qm_ lay P)) (σ := (lay, mm)) (rest := rest.map (tr_ base sp)) hA ?_ (fun v σ' hq => by rw [hq.1]; exact ⟨rfl, rfl⟩) hcells (fun v σ2 H1 locs1 hQ hA2 => ?_)
  · rcases hl with hl | ⟨host, hl⟩
    · exact va_runV (n := as.length) (As := as.map (tr_ base sp)) (rest := rest.map (tr_ base sp)) C.fix hmet ⟨callB_of as.length C.ts (mok_g hM) rfl rfl rfl (C.ts _ hM.2.2.2.1) (C.ts _ hl) ⟨hM.2.2.2.2.1, hM.2.2.2.2.2, hv.2.2⟩ hR, C.ts _ hv.1, C.ts _ hv.2.1⟩ ⟨pr_blind, (by rw [← hqq]; exact va_recv (q := qq) C.st.1 hA.1 hci (he := by rw [wd_get (σ := (lay, mm)) ha, cl_o hc11])), fun U hU hW => ⟨rfl, hpre U hU hW⟩⟩ rfl (by simp) hL.2.1 rfl hW8 (C.dec h) hcells
    · exact va_runVN (n := as.length) (As := as.map (tr_ base sp)) (rest := rest.map (tr_ base sp)) C.fix hmet ⟨va_cnB as.length C.ts (mok_g hM) rfl rfl rfl (C.st.2.1 _ hl) (C.ts _ hM.2.2.2.1) ⟨hM.2.2.2.2.1, hM.2.2.2.2.2, hv.2.2⟩ hR, C.ts _ hv.1, C.ts _ hv.2.1⟩ ⟨pr_blind, (by rw [← hqq]; exact va_recv (q := qq) C.st.1 hA.1 hci (he := by rw [wd_get (σ := (lay, mm)) ha, cl_o hc11])), fun U hU hW => ⟨rfl, hpre U hU hW⟩⟩ rfl (by simp) hL.2.1 rfl hW8 (C.dec h) hcells
  · rw [v_list]
    obtain ⟨lay2, m2⟩ := σ2
    obtain ⟨hl2, hP2⟩ := hQ
    have hl2 : lay2 = lay := hl2
    subst hl2
    exact k v m2 hP2 p l e R s m args below meth c D cA base sp n0 s0 Z C fin H1 locs1 lsA cells slots hA2 hL
set_option maxHeartbeats 400000 in
theorem Y_callS {index : Nat} {M2 : Mi} {as rest : List Value} {P : Option Value → Mm → Prop} (i : Nat) (h : (m_t M)[i]? = some (pc, .invokestatic index, 3)) (hp : pc + 3 = pc2) (hM : Mok M2) (hl : lk_ (m_y M).cls index (m_y M2)) (hv : vs_ M2 as.length) (hst : st = as.reverse ++ rest) (hr8 : (rest.map fun v => v.category).sum ≤ 8) (hrm : m_f M2 + 1 ≤ m_f M ∧ 8 + (m_l M2 + 11) + m_w M2 ≤ m_w M) (hca : ∀ v ∈ as, v.category = 1) (hle : as.length ≤ m_l M2) (hY : Y G M2 (0, 0) 0 (en_ M2 as) [] (lay, mm) (qm_ lay P)) (k : ∀ (v : Option Value) (m2 : Mm), P v m2 → Y G M cap pc2 ls (v.toList ++ rest) (lay, m2) Q) : Y G M cap pc ls st (lay, mm) Q := by
  intro p l e R s m args below meth c D cA base sp n0 s0 Z C fin H locs lsA cells slots hA hL
  subst hp; subst hst
  refine W_siz (fun hz => ?_)
  have hrf := C.rm.1
  have hrl := C.rm.2.1
  have hcells : cells + 0 ≤ R.cells ∧ slots + 0 ≤ R.slots := ⟨hA.2.2.2.2.2.1, hA.2.2.2.2.2.2⟩
  have hcf : ∀ v ∈ as, v.category = 1 := hca
  have hmet := Y.met (mc := 0) (ms := 0) (Q := (qm_ lay P)) l D cA base sp hM hcf (by simpa using hle) ⟨Nat.zero_le _, Nat.zero_le _⟩ hY (fun v σ' hq => by rw [hq.1]; exact ⟨rfl, rfl⟩)
  have hW8 : 2 * (F0 m pc lsA []).monitorRoom + ((rest.map (tr_ base sp)).map fun v => v.category).sum ≤ 8 := lv_room (by rw [cat_sum]; exact hr8)
  have hpre := pr_at C hA hz
  have hR : ({ frames := m_f M2, cells := 0, slots := 0, locals := m_w M2 } : Room).frames + 1 ≤ R.frames ∧ 8 + (m_l M2 + 11) + ({ frames := m_f M2, cells := 0, slots := 0, locals := m_w M2 } : Room).locals ≤ R.locals := ⟨by show m_f M2 + 1 ≤ _; omega, by show 8 + (m_l M2 + 11) + m_w M2 ≤ _; omega⟩
  have hstk : List.map (tr_ base sp) (as.reverse ++ rest) = (as.map (tr_ base sp)).reverse ++ rest.map (tr_ base sp) := by simp
  rw [hstk]
  refine y_run (sp := sp) (a := (as.map (tr_ base sp)).toArray) (mc := 0) (ms := 0) (Q := (qm_ lay P)) (σ := (lay, mm)) (rest := rest.map (tr_ base sp)) hA ?_ (fun v σ' hq => by rw [hq.1]; exact ⟨rfl, rfl⟩) hcells (fun v σ2 H1 locs1 hQ hA2 => ?_)
  · rcases hl with hl | ⟨host, hl⟩
    · exact va_runS (n := as.length) (As := as.map (tr_ base sp)) (rest := rest.map (tr_ base sp)) C.fix hmet ⟨callB_of as.length C.ts (mok_g hM) rfl rfl rfl (C.ts _ hM.2.2.2.1) (C.ts _ hl) ⟨hM.2.2.2.2.1, hM.2.2.2.2.2, hv.2⟩ hR, C.ts _ hv.1⟩ ⟨pr_blind, fun U hU hW => ⟨rfl, hpre U hU hW⟩⟩ rfl (by simp) hL.2.1 rfl hW8 (C.dec h) hcells
    · exact va_runSN (n := as.length) (As := as.map (tr_ base sp)) (rest := rest.map (tr_ base sp)) C.fix hmet ⟨va_cnB as.length C.ts (mok_g hM) rfl rfl rfl (C.st.2.1 _ hl) (C.ts _ hM.2.2.2.1) ⟨hM.2.2.2.2.1, hM.2.2.2.2.2, hv.2⟩ hR, C.ts _ hv.1, trivial⟩ ⟨pr_blind, fun U hU hW => ⟨rfl, hpre U hU hW⟩⟩ rfl (by simp) hL.2.1 rfl hW8 (C.dec h) hcells
  · rw [v_list]
    obtain ⟨lay2, m2⟩ := σ2
    obtain ⟨hl2, hP2⟩ := hQ
    have hl2 : lay2 = lay := hl2
    subst hl2
    exact k v m2 hP2 p l e R s m args below meth c D cA base sp n0 s0 Z C fin H1 locs1 lsA cells slots hA2 hL
set_option maxHeartbeats 400000 in
theorem Y_callI {index a : Nat} {M2 : Mi} {as rest : List Value} {mc ms : Nat} {P : Option Value → Sg → Prop} (i : Nat) (h : (m_t M)[i]? = some (pc, .invokespecial index, 3)) (hp : pc + 3 = pc2) (hM : Mok M2) (hl : lk_ (m_y M).cls index (m_y M2)) (hv : vn_ M2 as.length) (ha : a < 1000000) (hst : st = as.reverse ++ .ref a :: rest) (hr8 : (rest.map fun v => v.category).sum ≤ 8) (hrm : m_f M2 + 1 ≤ m_f M ∧ 8 + (m_l M2 + 11) + m_w M2 ≤ m_w M) (hca : ∀ v ∈ as, v.category = 1) (hle : as.length + 1 ≤ m_l M2) (hc1 : lay.length + mc ≤ cap.1) (hc2 : sl_ lay + ms ≤ cap.2) (hY : Y G M2 (lay.length + mc, sl_ lay + ms) 0 (en_ M2 (.ref a :: as)) [] (lay, mm) P) (hq : ∀ v σ2, P v σ2 → σ2.1.length = lay.length + mc ∧ sl_ σ2.1 = sl_ lay + ms) (k : ∀ (v : Option Value) (σ2 : Sg), P v σ2 → Y G M cap pc2 ls (v.toList ++ rest) σ2 Q) : Y G M cap pc ls st (lay, mm) Q := by
  intro p l e R s m args below meth c D cA base sp n0 s0 Z C fin H locs lsA cells slots hA hL
  subst hp; subst hst
  refine W_siz (fun hz => ?_)
  have hrf := C.rm.1
  have hrl := C.rm.2.1
  have hcells : cells + mc ≤ R.cells ∧ slots + ms ≤ R.slots := by
    have h1 := C.rm.2.2.1
    have h2 := C.rm.2.2.2
    have e1 : cells + n0 = lay.length := hA.2.2.2.1
    have e2 : slots + s0 = sl_ lay := hA.2.2.2.2.1
    exact ⟨by omega, by omega⟩
  have hcf : ∀ v ∈ (.ref a :: as), v.category = 1 := by
    intro v hv
    rcases List.mem_cons.mp hv with h | h
    · rw [h]; rfl
    · exact hca v h
  have hmet := Y.met (mc := mc) (ms := ms) (Q := P) l D cA base sp hM hcf (by simpa using hle) ⟨Nat.le_refl _, Nat.le_refl _⟩ hY hq
  have hW8 : 2 * (F0 m pc lsA []).monitorRoom + ((rest.map (tr_ base sp)).map fun v => v.category).sum ≤ 8 := lv_room (by rw [cat_sum]; exact hr8)
  have hpre := pr_at C hA hz
  have hR : ({ frames := m_f M2, cells := mc, slots := ms, locals := m_w M2 } : Room).frames + 1 ≤ R.frames ∧ 8 + (m_l M2 + 11) + ({ frames := m_f M2, cells := mc, slots := ms, locals := m_w M2 } : Room).locals ≤ R.locals := ⟨by show m_f M2 + 1 ≤ _; omega, by show 8 + (m_l M2 + 11) + m_w M2 ≤ _; omega⟩
  have hstk : List.map (tr_ base sp) (as.reverse ++ .ref a :: rest) = (as.map (tr_ base sp)).reverse ++ tr_ base sp (.ref a) :: rest.map (tr_ base sp) := by simp
  rw [hstk]
  have htr := tr_ref (base := base) (sp := sp) ha
  rw [htr]
  rw [List.map_cons, htr] at hmet
  refine y_run (sp := sp) (a := (Value.ref (base + a) :: as.map (tr_ base sp)).toArray) (mc := mc) (ms := ms) (Q := P) (σ := (lay, mm)) (rest := rest.map (tr_ base sp)) hA ?_ hq hcells (fun v σ2 H1 locs1 hQ hA2 => ?_)
  · rcases hl with hl | ⟨host, hl⟩
    · exact va_runI (n := as.length) (As := as.map (tr_ base sp)) (rest := rest.map (tr_ base sp)) C.fix hmet ⟨callB_of as.length C.ts (mok_g hM) (by rw [hv.2.1]) rfl rfl (C.ts _ hM.2.2.2.1) (C.ts _ hl) ⟨hM.2.2.2.2.1, hM.2.2.2.2.2, hv.2.2.2⟩ hR, hv.1, C.ts _ hv.2.2.1⟩ ⟨pr_blind, fun U hU hW => ⟨rfl, hpre U hU hW⟩⟩ rfl (by simp) hL.2.1 rfl hW8 (C.dec h) hcells
    · exact va_runIN (n := as.length) (As := as.map (tr_ base sp)) (rest := rest.map (tr_ base sp)) C.fix hmet ⟨va_cnB as.length C.ts (mok_g hM) (by rw [hv.2.1]) rfl rfl (C.st.2.1 _ hl) (C.ts _ hM.2.2.2.1) ⟨hM.2.2.2.2.1, hM.2.2.2.2.2, hv.2.2.2⟩ hR, hv.1, C.ts _ hv.2.2.1⟩ ⟨pr_blind, fun U hU hW => ⟨rfl, hpre U hU hW⟩⟩ rfl (by simp) hL.2.1 rfl hW8 (C.dec h) hcells
  · rw [v_list]
    exact k v σ2 hQ p l e R s m args below meth c D cA base sp n0 s0 Z C fin H1 locs1 lsA (cells + mc) (slots + ms) hA2 hL
end Y4
end
section
/-! what the JDK gives -/
section Y5
variable {G : Nat × (Nat → Int32)} {M : Mi} {cap : Nat × Nat} {pc pc2 : Nat} {ls ls2 : List (Option Value)} {st : List Value} {σ : Sg} {lay : Ly} {mm : Mm} {Q : Option Value → Sg → Prop}
set_option maxHeartbeats 400000 in
theorem Y_objInit {index a : Nat} (i : Nat) (h : (m_t M)[i]? = some (pc, .invokespecial index, 3)) (hp : pc + 3 = pc2) (h1 : Cond.methodLink (m_y M).cls index objectInit ∈ Tb) (h2 : Cond.instanceMethod objectInit ∈ Tb) (h3 : Cond.code objectInit ⟨#[0xb1]⟩ 1 none ∈ Tb) (ha : a < 1000000) (hf : 1 ≤ m_f M) (hw : (st.map fun v => v.category).sum + 12 ≤ m_w M) (k : Y G M cap pc2 ls st σ Q) : Y G M cap pc ls (.ref a :: st) σ Q := by
  intro p l e R s m args below meth c D cA base sp n0 s0 Z C fin H locs lsA cells slots hA hL
  subst hp
  have hrf := C.rm.1
  have hrl := C.rm.2.1
  have hk := (k p l e R s m args below meth c D cA base sp n0 s0 Z C fin H locs lsA cells slots hA hL)
  refine W.objInit C.ex C.by C.ow (C.ts _ h1) (C.ts _ h2) (C.ts _ h3) rfl (by rw [C.ml]; exact hL.2.1) (a := base + a) (rest := st.map (tr_ base sp)) (by show tr_ base sp (.ref a) :: _ = _; rw [tr_ref ha]) (C.dec h) (by omega) ?_ hk
  have ecs := cat_sum (base := base) (sp := sp) st
  show 2 * 0 + _ + 12 ≤ _
  omega
set_option maxHeartbeats 400000 in
theorem Y_min {index : Nat} {x y : Int32} (i : Nat) (h : (m_t M)[i]? = some (pc, .invokestatic index, 3)) (hp : pc + 3 = pc2) (h1 : Cond.methodLink (m_y M).cls index Lib.Math.min.name ∈ Tb) (h2 : Cond.static Lib.Math.min.name ∈ Tb) (h3 : Cond.initialized "java/lang/Math" ∈ Tb) (h4 : Cond.code Lib.Math.min.name Lib.Math.min.code 2 (some .int) ∈ Tb) (hf : 1 ≤ m_f M) (hw : (st.map fun v => v.category).sum + 13 ≤ m_w M) (k : Y G M cap pc2 ls (.int (if y < x then y else x) :: st) σ Q) : Y G M cap pc ls (.int y :: .int x :: st) σ Q := by
  intro p l e R s m args below meth c D cA base sp n0 s0 Z C fin H locs lsA cells slots hA hL
  subst hp
  have hrf := C.rm.1
  have hrl := C.rm.2.1
  have hk := (k p l e R s m args below meth c D cA base sp n0 s0 Z C fin H locs lsA cells slots hA hL)
  have ecs := cat_sum (base := base) (sp := sp) st
  exact va_mmin C.ex C.by (by rw [C.ml]; exact hL.2.1.symm) C.ow (C.ts _ h1) (C.ts _ h2) (C.ts _ h3) (C.ts _ h4) (by omega) (by omega) hA.2.2.2.2.2.1 hA.2.2.2.2.2.2 (C.dec h) hk
set_option maxHeartbeats 400000 in
theorem Y_abs {index : Nat} {x y : Int32} (i : Nat) (h : (m_t M)[i]? = some (pc, .invokestatic index, 3)) (hp : pc + 3 = pc2) (h1 : Cond.methodLink (m_y M).cls index Lib.Math.abs.name ∈ Tb) (h2 : Cond.static Lib.Math.abs.name ∈ Tb) (h3 : Cond.initialized "java/lang/Math" ∈ Tb) (h4 : Cond.code Lib.Math.abs.name Lib.Math.abs.code 1 (some .int) ∈ Tb) (hf : 1 ≤ m_f M) (hw : (st.map fun v => v.category).sum + 13 ≤ m_w M) (k : Y G M cap pc2 ls (.int (if 0 ≤ x then x else 0 - x) :: st) σ Q) : Y G M cap pc ls (.int x :: st) σ Q := by
  intro p l e R s m args below meth c D cA base sp n0 s0 Z C fin H locs lsA cells slots hA hL
  subst hp
  have hrf := C.rm.1
  have hrl := C.rm.2.1
  have hk := (k p l e R s m args below meth c D cA base sp n0 s0 Z C fin H locs lsA cells slots hA hL)
  have ecs := cat_sum (base := base) (sp := sp) st
  exact va_mabs C.ex C.by (by rw [C.ml]; exact hL.2.1.symm) C.ow (C.ts _ h1) (C.ts _ h2) (C.ts _ h3) (C.ts _ h4) (by omega) (by omega) hA.2.2.2.2.2.1 hA.2.2.2.2.2.2 (C.dec h) hk
set_option maxHeartbeats 400000 in
theorem Y_copy_i {index a b u v n na nb : Nat} {ra rb : List (Option Nat)} {xu xv xn : Int32} (i : Nat) (h : (m_t M)[i]? = some (pc, .invokestatic index, 3)) (hp : pc + 3 = pc2) (h1 : Cond.methodLink (m_y M).cls index arraycopyName ∈ Tb) (h2 : Cond.native arraycopyName ∈ Tb) (h3 : Cond.static arraycopyName ∈ Tb) (h4 : Cond.initialized "java/lang/System" ∈ Tb) (ha : lay[a]? = some (12, na, ra)) (hb : lay[b]? = some (12, nb, rb)) (hu : xu = nI u) (hv : xv = nI v) (hn : xn = nI n) (hla : u + n ≤ na) (hlb : v + n ≤ nb) (hna : na < 2 ^ 31) (hnb : nb < 2 ^ 31) (hf : 1 ≤ m_f M) (hw : (st.map fun v => v.category).sum + (nativeFrameWords "java/lang/System" "arraycopy" 5 + 11) ≤ m_w M) (k : Y G M cap pc2 ls st (lay, ur_ mm b (va_cpy (mm a) (mm b) u v n)) Q) : Y G M cap pc ls (.int xn :: .int xv :: .ref b :: .int xu :: .ref a :: st) (lay, mm) Q := by
  intro p l e R s m args below meth c D cA base sp n0 s0 Z C fin H locs lsA cells slots hA hL
  subst hp; subst hu; subst hv; subst hn
  have hrf := C.rm.1
  have hrl := C.rm.2.1
  have ecs := cat_sum (base := base) (sp := sp) st
  show W p l e R s m args below meth c H locs cells slots Z (F0 m pc lsA (.int (nI n) :: .int (nI v) :: tr_ base sp (.ref b) :: .int (nI u) :: tr_ base sp (.ref a) :: st.map (tr_ base sp)))
  rw [tr_ref (At_.lt hA ha), tr_ref (At_.lt hA hb)]
  have cu : (nI u).toNatClampNeg = u := nI_clamp (by omega)
  have cv : (nI v).toNatClampNeg = v := nI_clamp (by omega)
  have cn : (nI n).toNatClampNeg = n := nI_clamp (by omega)
  refine va_copyi (ty := .int) (n0 := na) (n1 := nb) (f := mm a) (g := mm b) (c0 := cA 12) (c1 := cA 12) C.ex C.by (by rw [C.ml]; exact hL.2.1.symm) C.ow (C.ts _ h1) (C.ts _ h2) (C.ts _ h3) (C.ts _ h4) C.st.1 hA.1 wd_D hA.2.2.1 a b 1 1 (by rw [wd_get (σ := (lay, mm)) ha]; rfl) (by rw [wd_get (σ := (lay, mm)) hb]; rfl) rfl rfl rfl (nI_pos (by omega)) (nI_pos (by omega)) (nI_pos (by omega)) (by rw [cu, cn]; exact hla) (by rw [cv, cn]; exact hlb) (fun q hq => rfl) (by omega) (by omega) (C.dec h) (fun H1 locs1 hP1 hD1 hS1 => ?_)
  rw [cu, cv, cn, wd_set1 (row := va_cpy (mm a) (mm b) u v n) hb (by rfl)] at hP1
  exact k p l e R s m args below meth c D cA base sp n0 s0 Z C fin H1 locs1 lsA cells slots (hA.to (σ' := (lay, ur_ mm b (va_cpy (mm a) (mm b) u v n))) rfl rfl hP1 hS1) hL
set_option maxHeartbeats 400000 in
theorem Y_copy_b {index a b u v n na nb : Nat} {ra rb : List (Option Nat)} {xu xv xn : Int32} (i : Nat) (h : (m_t M)[i]? = some (pc, .invokestatic index, 3)) (hp : pc + 3 = pc2) (h1 : Cond.methodLink (m_y M).cls index arraycopyName ∈ Tb) (h2 : Cond.native arraycopyName ∈ Tb) (h3 : Cond.static arraycopyName ∈ Tb) (h4 : Cond.initialized "java/lang/System" ∈ Tb) (ha : lay[a]? = some (11, na, ra)) (hb : lay[b]? = some (11, nb, rb)) (hu : xu = nI u) (hv : xv = nI v) (hn : xn = nI n) (hla : u + n ≤ na) (hlb : v + n ≤ nb) (hna : na < 2 ^ 31) (hnb : nb < 2 ^ 31) (hfit : ∀ q, q < n → fits .byte (.int (mm a (u + q))) = true) (hf : 1 ≤ m_f M) (hw : (st.map fun v => v.category).sum + (nativeFrameWords "java/lang/System" "arraycopy" 5 + 11) ≤ m_w M) (k : Y G M cap pc2 ls st (lay, ur_ mm b (va_cpy (mm a) (mm b) u v n)) Q) : Y G M cap pc ls (.int xn :: .int xv :: .ref b :: .int xu :: .ref a :: st) (lay, mm) Q := by
  intro p l e R s m args below meth c D cA base sp n0 s0 Z C fin H locs lsA cells slots hA hL
  subst hp; subst hu; subst hv; subst hn
  have hrf := C.rm.1
  have hrl := C.rm.2.1
  have ecs := cat_sum (base := base) (sp := sp) st
  show W p l e R s m args below meth c H locs cells slots Z (F0 m pc lsA (.int (nI n) :: .int (nI v) :: tr_ base sp (.ref b) :: .int (nI u) :: tr_ base sp (.ref a) :: st.map (tr_ base sp)))
  rw [tr_ref (At_.lt hA ha), tr_ref (At_.lt hA hb)]
  have cu : (nI u).toNatClampNeg = u := nI_clamp (by omega)
  have cv : (nI v).toNatClampNeg = v := nI_clamp (by omega)
  have cn : (nI n).toNatClampNeg = n := nI_clamp (by omega)
  refine va_copyi (ty := .byte) (n0 := na) (n1 := nb) (f := mm a) (g := mm b) (c0 := cA 11) (c1 := cA 11) C.ex C.by (by rw [C.ml]; exact hL.2.1.symm) C.ow (C.ts _ h1) (C.ts _ h2) (C.ts _ h3) (C.ts _ h4) C.st.1 hA.1 wd_D hA.2.2.1 a b 0 0 (by rw [wd_get (σ := (lay, mm)) ha]; rfl) (by rw [wd_get (σ := (lay, mm)) hb]; rfl) rfl rfl rfl (nI_pos (by omega)) (nI_pos (by omega)) (nI_pos (by omega)) (by rw [cu, cn]; exact hla) (by rw [cv, cn]; exact hlb) (fun q hq => by rw [cu]; rw [cn] at hq; exact hfit q hq) (by omega) (by omega) (C.dec h) (fun H1 locs1 hP1 hD1 hS1 => ?_)
  rw [cu, cv, cn, wd_set1 (row := va_cpy (mm a) (mm b) u v n) hb (by rfl)] at hP1
  exact k p l e R s m args below meth c D cA base sp n0 s0 Z C fin H1 locs1 lsA cells slots (hA.to (σ' := (lay, ur_ mm b (va_cpy (mm a) (mm b) u v n))) rfl rfl hP1 hS1) hL
end Y5
end
