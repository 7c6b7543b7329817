-- ===== PART A: goes FIRST, ahead of the names: the tables' words, and 'selects' of the private methods out of them =====
/-- a private method of a class that the tables say can be made, by its rows of tables_1 -/
def lw_okq (q : MethodName × Nat) : Prop := (q.1.cls ≠ "java/lang/invoke/MethodHandle" ∧ q.1.cls ≠ "java/lang/invoke/VarHandle") ∧ Cond.instantiable q.1.cls q.2 ∈ tables_1 ∧ Cond.privateMethod q.1 ∈ tables_1 ∧ Cond.instanceMethod q.1 ∈ tables_1
theorem lw_p0 : lw_okq (⟨"GongHouse$TuneReader", "takes", "(I)Z"⟩, 6) := ⟨⟨by decide +kernel, by decide +kernel⟩, List.mem_of_getElem? (i := 41) (by decide +kernel), List.mem_of_getElem? (i := 296) (by decide +kernel), List.mem_of_getElem? (i := 297) (by decide +kernel)⟩
theorem lw_p1 : lw_okq (⟨"GongHouse$TuneReader", "takesTimes", "(I)Z"⟩, 6) := ⟨⟨by decide +kernel, by decide +kernel⟩, List.mem_of_getElem? (i := 41) (by decide +kernel), List.mem_of_getElem? (i := 300) (by decide +kernel), List.mem_of_getElem? (i := 301) (by decide +kernel)⟩
theorem lw_p2 : lw_okq (⟨"GongHouse$TuneReader", "repeatFrom", "(II)V"⟩, 6) := ⟨⟨by decide +kernel, by decide +kernel⟩, List.mem_of_getElem? (i := 41) (by decide +kernel), List.mem_of_getElem? (i := 304) (by decide +kernel), List.mem_of_getElem? (i := 305) (by decide +kernel)⟩
theorem lw_p3 : lw_okq (⟨"GongHouse$TuneReader", "addBeat", "(II)V"⟩, 6) := ⟨⟨by decide +kernel, by decide +kernel⟩, List.mem_of_getElem? (i := 41) (by decide +kernel), List.mem_of_getElem? (i := 311) (by decide +kernel), List.mem_of_getElem? (i := 312) (by decide +kernel)⟩
theorem lw_p4 : lw_okq (⟨"GongHouse$TuneReader", "takesOpening", "()Z"⟩, 6) := ⟨⟨by decide +kernel, by decide +kernel⟩, List.mem_of_getElem? (i := 41) (by decide +kernel), List.mem_of_getElem? (i := 315) (by decide +kernel), List.mem_of_getElem? (i := 316) (by decide +kernel)⟩
theorem lw_p5 : lw_okq (⟨"GongHouse$TuneReader", "takesClosing", "()Z"⟩, 6) := ⟨⟨by decide +kernel, by decide +kernel⟩, List.mem_of_getElem? (i := 41) (by decide +kernel), List.mem_of_getElem? (i := 319) (by decide +kernel), List.mem_of_getElem? (i := 320) (by decide +kernel)⟩
theorem lw_p6 : lw_okq (⟨"GongHouse$TuneReader", "takesBeat", "(I)Z"⟩, 6) := ⟨⟨by decide +kernel, by decide +kernel⟩, List.mem_of_getElem? (i := 41) (by decide +kernel), List.mem_of_getElem? (i := 323) (by decide +kernel), List.mem_of_getElem? (i := 324) (by decide +kernel)⟩
theorem lw_p7 : lw_okq (⟨"GongHouse$TuneReader", "takesGong", "(I)Z"⟩, 6) := ⟨⟨by decide +kernel, by decide +kernel⟩, List.mem_of_getElem? (i := 41) (by decide +kernel), List.mem_of_getElem? (i := 330) (by decide +kernel), List.mem_of_getElem? (i := 331) (by decide +kernel)⟩
theorem lw_p8 : lw_okq (⟨"GongHouse$Circle", "setTones", "()V"⟩, 5) := ⟨⟨by decide +kernel, by decide +kernel⟩, List.mem_of_getElem? (i := 161) (by decide +kernel), List.mem_of_getElem? (i := 347) (by decide +kernel), List.mem_of_getElem? (i := 348) (by decide +kernel)⟩
theorem lw_p9 : lw_okq (⟨"GongHouse$Circle", "lastNote", "()I"⟩, 5) := ⟨⟨by decide +kernel, by decide +kernel⟩, List.mem_of_getElem? (i := 161) (by decide +kernel), List.mem_of_getElem? (i := 351) (by decide +kernel), List.mem_of_getElem? (i := 352) (by decide +kernel)⟩
theorem lw_p10 : lw_okq (⟨"GongHouse$Circle", "setTurns", "()V"⟩, 5) := ⟨⟨by decide +kernel, by decide +kernel⟩, List.mem_of_getElem? (i := 161) (by decide +kernel), List.mem_of_getElem? (i := 355) (by decide +kernel), List.mem_of_getElem? (i := 356) (by decide +kernel)⟩
theorem lw_p11 : lw_okq (⟨"GongHouse", "hasBeat", "(II)Z"⟩, 8) := ⟨⟨by decide +kernel, by decide +kernel⟩, List.mem_of_getElem? (i := 16) (by decide +kernel), List.mem_of_getElem? (i := 367) (by decide +kernel), List.mem_of_getElem? (i := 368) (by decide +kernel)⟩
theorem lw_p12 : lw_okq (⟨"GongHouse", "hasStep", "(III)Z"⟩, 8) := ⟨⟨by decide +kernel, by decide +kernel⟩, List.mem_of_getElem? (i := 16) (by decide +kernel), List.mem_of_getElem? (i := 384) (by decide +kernel), List.mem_of_getElem? (i := 385) (by decide +kernel)⟩
theorem lw_p13 : lw_okq (⟨"GongHouse", "goesTo", "(III)Z"⟩, 8) := ⟨⟨by decide +kernel, by decide +kernel⟩, List.mem_of_getElem? (i := 16) (by decide +kernel), List.mem_of_getElem? (i := 481) (by decide +kernel), List.mem_of_getElem? (i := 482) (by decide +kernel)⟩
theorem lw_p14 : lw_okq (⟨"GongHouse$LineTable", "entryOf", "(LGongHouse$Circle;I)I"⟩, 5) := ⟨⟨by decide +kernel, by decide +kernel⟩, List.mem_of_getElem? (i := 136) (by decide +kernel), List.mem_of_getElem? (i := 553) (by decide +kernel), List.mem_of_getElem? (i := 554) (by decide +kernel)⟩
theorem lw_p15 : lw_okq (⟨"GongHouse", "allBeats", "()I"⟩, 8) := ⟨⟨by decide +kernel, by decide +kernel⟩, List.mem_of_getElem? (i := 16) (by decide +kernel), List.mem_of_getElem? (i := 598) (by decide +kernel), List.mem_of_getElem? (i := 599) (by decide +kernel)⟩
def lw_privs_1 : List (MethodName × Nat) := [(⟨"GongHouse$TuneReader", "takes", "(I)Z"⟩, 6), (⟨"GongHouse$TuneReader", "takesTimes", "(I)Z"⟩, 6), (⟨"GongHouse$TuneReader", "repeatFrom", "(II)V"⟩, 6), (⟨"GongHouse$TuneReader", "addBeat", "(II)V"⟩, 6), (⟨"GongHouse$TuneReader", "takesOpening", "()Z"⟩, 6), (⟨"GongHouse$TuneReader", "takesClosing", "()Z"⟩, 6), (⟨"GongHouse$TuneReader", "takesBeat", "(I)Z"⟩, 6), (⟨"GongHouse$TuneReader", "takesGong", "(I)Z"⟩, 6), (⟨"GongHouse$Circle", "setTones", "()V"⟩, 5), (⟨"GongHouse$Circle", "lastNote", "()I"⟩, 5), (⟨"GongHouse$Circle", "setTurns", "()V"⟩, 5), (⟨"GongHouse", "hasBeat", "(II)Z"⟩, 8), (⟨"GongHouse", "hasStep", "(III)Z"⟩, 8), (⟨"GongHouse", "goesTo", "(III)Z"⟩, 8), (⟨"GongHouse$LineTable", "entryOf", "(LGongHouse$Circle;I)I"⟩, 5), (⟨"GongHouse", "allBeats", "()I"⟩, 8)]
theorem lw_r1 : ∀ q ∈ lw_privs_1, lw_okq q := List.forall_mem_cons.mpr ⟨lw_p0, List.forall_mem_cons.mpr ⟨lw_p1, List.forall_mem_cons.mpr ⟨lw_p2, List.forall_mem_cons.mpr ⟨lw_p3, List.forall_mem_cons.mpr ⟨lw_p4, List.forall_mem_cons.mpr ⟨lw_p5, List.forall_mem_cons.mpr ⟨lw_p6, List.forall_mem_cons.mpr ⟨lw_p7, List.forall_mem_cons.mpr ⟨lw_p8, List.forall_mem_cons.mpr ⟨lw_p9, List.forall_mem_cons.mpr ⟨lw_p10, List.forall_mem_cons.mpr ⟨lw_p11, List.forall_mem_cons.mpr ⟨lw_p12, List.forall_mem_cons.mpr ⟨lw_p13, List.forall_mem_cons.mpr ⟨lw_p14, List.forall_mem_cons.mpr ⟨lw_p15, fun _ h => absurd h List.not_mem_nil⟩⟩⟩⟩⟩⟩⟩⟩⟩⟩⟩⟩⟩⟩⟩⟩
theorem lw_p16 : lw_okq (⟨"GongHouse", "allGongs", "()I"⟩, 8) := ⟨⟨by decide +kernel, by decide +kernel⟩, List.mem_of_getElem? (i := 16) (by decide +kernel), List.mem_of_getElem? (i := 602) (by decide +kernel), List.mem_of_getElem? (i := 603) (by decide +kernel)⟩
theorem lw_p17 : lw_okq (⟨"GongHouse", "allRight", "()I"⟩, 8) := ⟨⟨by decide +kernel, by decide +kernel⟩, List.mem_of_getElem? (i := 16) (by decide +kernel), List.mem_of_getElem? (i := 606) (by decide +kernel), List.mem_of_getElem? (i := 607) (by decide +kernel)⟩
theorem lw_p18 : lw_okq (⟨"GongHouseModel", "four", "(I)V"⟩, 24) := ⟨⟨by decide +kernel, by decide +kernel⟩, List.mem_of_getElem? (i := 619) (by decide +kernel), List.mem_of_getElem? (i := 703) (by decide +kernel), List.mem_of_getElem? (i := 704) (by decide +kernel)⟩
theorem lw_p19 : lw_okq (⟨"GongHouseModel", "readTune", "()Z"⟩, 24) := ⟨⟨by decide +kernel, by decide +kernel⟩, List.mem_of_getElem? (i := 619) (by decide +kernel), List.mem_of_getElem? (i := 719) (by decide +kernel), List.mem_of_getElem? (i := 720) (by decide +kernel)⟩
theorem lw_p20 : lw_okq (⟨"GongHouseModel", "isBeatHere", "()Z"⟩, 24) := ⟨⟨by decide +kernel, by decide +kernel⟩, List.mem_of_getElem? (i := 619) (by decide +kernel), List.mem_of_getElem? (i := 723) (by decide +kernel), List.mem_of_getElem? (i := 724) (by decide +kernel)⟩
theorem lw_p21 : lw_okq (⟨"GongHouseModel", "here", "()I"⟩, 24) := ⟨⟨by decide +kernel, by decide +kernel⟩, List.mem_of_getElem? (i := 619) (by decide +kernel), List.mem_of_getElem? (i := 727) (by decide +kernel), List.mem_of_getElem? (i := 728) (by decide +kernel)⟩
theorem lw_p22 : lw_okq (⟨"GongHouseModel", "readBeat", "()V"⟩, 24) := ⟨⟨by decide +kernel, by decide +kernel⟩, List.mem_of_getElem? (i := 619) (by decide +kernel), List.mem_of_getElem? (i := 731) (by decide +kernel), List.mem_of_getElem? (i := 732) (by decide +kernel)⟩
theorem lw_p23 : lw_okq (⟨"GongHouseModel", "write", "(II)V"⟩, 24) := ⟨⟨by decide +kernel, by decide +kernel⟩, List.mem_of_getElem? (i := 619) (by decide +kernel), List.mem_of_getElem? (i := 738) (by decide +kernel), List.mem_of_getElem? (i := 739) (by decide +kernel)⟩
theorem lw_p24 : lw_okq (⟨"GongHouseModel", "readAgain", "()Z"⟩, 24) := ⟨⟨by decide +kernel, by decide +kernel⟩, List.mem_of_getElem? (i := 619) (by decide +kernel), List.mem_of_getElem? (i := 742) (by decide +kernel), List.mem_of_getElem? (i := 743) (by decide +kernel)⟩
theorem lw_p25 : lw_okq (⟨"GongHouseModel", "isBeat", "(II)Z"⟩, 24) := ⟨⟨by decide +kernel, by decide +kernel⟩, List.mem_of_getElem? (i := 619) (by decide +kernel), List.mem_of_getElem? (i := 754) (by decide +kernel), List.mem_of_getElem? (i := 755) (by decide +kernel)⟩
theorem lw_p26 : lw_okq (⟨"GongHouseModel", "tone", "(II)I"⟩, 24) := ⟨⟨by decide +kernel, by decide +kernel⟩, List.mem_of_getElem? (i := 619) (by decide +kernel), List.mem_of_getElem? (i := 762) (by decide +kernel), List.mem_of_getElem? (i := 763) (by decide +kernel)⟩
theorem lw_p27 : lw_okq (⟨"GongHouseModel", "wrongStep", "(II)I"⟩, 24) := ⟨⟨by decide +kernel, by decide +kernel⟩, List.mem_of_getElem? (i := 619) (by decide +kernel), List.mem_of_getElem? (i := 800) (by decide +kernel), List.mem_of_getElem? (i := 801) (by decide +kernel)⟩
theorem lw_p28 : lw_okq (⟨"GongHouseModel", "doesStrike", "(IIII)Z"⟩, 24) := ⟨⟨by decide +kernel, by decide +kernel⟩, List.mem_of_getElem? (i := 619) (by decide +kernel), List.mem_of_getElem? (i := 804) (by decide +kernel), List.mem_of_getElem? (i := 805) (by decide +kernel)⟩
theorem lw_p29 : lw_okq (⟨"GongHouseModel", "signalMany", "()I"⟩, 24) := ⟨⟨by decide +kernel, by decide +kernel⟩, List.mem_of_getElem? (i := 619) (by decide +kernel), List.mem_of_getElem? (i := 820) (by decide +kernel), List.mem_of_getElem? (i := 821) (by decide +kernel)⟩
theorem lw_p30 : lw_okq (⟨"GongHouseModel", "isRound", "(I)Z"⟩, 24) := ⟨⟨by decide +kernel, by decide +kernel⟩, List.mem_of_getElem? (i := 619) (by decide +kernel), List.mem_of_getElem? (i := 832) (by decide +kernel), List.mem_of_getElem? (i := 833) (by decide +kernel)⟩
theorem lw_p31 : lw_okq (⟨"GongHouseModel", "rounds", "()I"⟩, 24) := ⟨⟨by decide +kernel, by decide +kernel⟩, List.mem_of_getElem? (i := 619) (by decide +kernel), List.mem_of_getElem? (i := 836) (by decide +kernel), List.mem_of_getElem? (i := 837) (by decide +kernel)⟩
def lw_privs_2 : List (MethodName × Nat) := [(⟨"GongHouse", "allGongs", "()I"⟩, 8), (⟨"GongHouse", "allRight", "()I"⟩, 8), (⟨"GongHouseModel", "four", "(I)V"⟩, 24), (⟨"GongHouseModel", "readTune", "()Z"⟩, 24), (⟨"GongHouseModel", "isBeatHere", "()Z"⟩, 24), (⟨"GongHouseModel", "here", "()I"⟩, 24), (⟨"GongHouseModel", "readBeat", "()V"⟩, 24), (⟨"GongHouseModel", "write", "(II)V"⟩, 24), (⟨"GongHouseModel", "readAgain", "()Z"⟩, 24), (⟨"GongHouseModel", "isBeat", "(II)Z"⟩, 24), (⟨"GongHouseModel", "tone", "(II)I"⟩, 24), (⟨"GongHouseModel", "wrongStep", "(II)I"⟩, 24), (⟨"GongHouseModel", "doesStrike", "(IIII)Z"⟩, 24), (⟨"GongHouseModel", "signalMany", "()I"⟩, 24), (⟨"GongHouseModel", "isRound", "(I)Z"⟩, 24), (⟨"GongHouseModel", "rounds", "()I"⟩, 24)]
theorem lw_r2 : ∀ q ∈ lw_privs_2, lw_okq q := List.forall_mem_cons.mpr ⟨lw_p16, List.forall_mem_cons.mpr ⟨lw_p17, List.forall_mem_cons.mpr ⟨lw_p18, List.forall_mem_cons.mpr ⟨lw_p19, List.forall_mem_cons.mpr ⟨lw_p20, List.forall_mem_cons.mpr ⟨lw_p21, List.forall_mem_cons.mpr ⟨lw_p22, List.forall_mem_cons.mpr ⟨lw_p23, List.forall_mem_cons.mpr ⟨lw_p24, List.forall_mem_cons.mpr ⟨lw_p25, List.forall_mem_cons.mpr ⟨lw_p26, List.forall_mem_cons.mpr ⟨lw_p27, List.forall_mem_cons.mpr ⟨lw_p28, List.forall_mem_cons.mpr ⟨lw_p29, List.forall_mem_cons.mpr ⟨lw_p30, List.forall_mem_cons.mpr ⟨lw_p31, fun _ h => absurd h List.not_mem_nil⟩⟩⟩⟩⟩⟩⟩⟩⟩⟩⟩⟩⟩⟩⟩⟩
theorem lw_p32 : lw_okq (⟨"GongHouseModel", "goTo", "(I)V"⟩, 24) := ⟨⟨by decide +kernel, by decide +kernel⟩, List.mem_of_getElem? (i := 619) (by decide +kernel), List.mem_of_getElem? (i := 840) (by decide +kernel), List.mem_of_getElem? (i := 841) (by decide +kernel)⟩
theorem lw_p33 : lw_okq (⟨"GongHouseModel", "isStep", "(III)Z"⟩, 24) := ⟨⟨by decide +kernel, by decide +kernel⟩, List.mem_of_getElem? (i := 619) (by decide +kernel), List.mem_of_getElem? (i := 848) (by decide +kernel), List.mem_of_getElem? (i := 849) (by decide +kernel)⟩
theorem lw_p34 : lw_okq (⟨"GongHouseModel", "playedNow", "(III)I"⟩, 24) := ⟨⟨by decide +kernel, by decide +kernel⟩, List.mem_of_getElem? (i := 619) (by decide +kernel), List.mem_of_getElem? (i := 852) (by decide +kernel), List.mem_of_getElem? (i := 853) (by decide +kernel)⟩
theorem lw_p35 : lw_okq (⟨"GongHouseModel", "turn", "(II)I"⟩, 24) := ⟨⟨by decide +kernel, by decide +kernel⟩, List.mem_of_getElem? (i := 619) (by decide +kernel), List.mem_of_getElem? (i := 856) (by decide +kernel), List.mem_of_getElem? (i := 857) (by decide +kernel)⟩
theorem lw_p36 : lw_okq (⟨"GongHouseModel", "struck", "(IIIIII)I"⟩, 24) := ⟨⟨by decide +kernel, by decide +kernel⟩, List.mem_of_getElem? (i := 619) (by decide +kernel), List.mem_of_getElem? (i := 860) (by decide +kernel), List.mem_of_getElem? (i := 861) (by decide +kernel)⟩
theorem lw_p37 : lw_okq (⟨"GongHouseModel", "leapsOf", "(II)I"⟩, 24) := ⟨⟨by decide +kernel, by decide +kernel⟩, List.mem_of_getElem? (i := 619) (by decide +kernel), List.mem_of_getElem? (i := 883) (by decide +kernel), List.mem_of_getElem? (i := 884) (by decide +kernel)⟩
def lw_privs_3 : List (MethodName × Nat) := [(⟨"GongHouseModel", "goTo", "(I)V"⟩, 24), (⟨"GongHouseModel", "isStep", "(III)Z"⟩, 24), (⟨"GongHouseModel", "playedNow", "(III)I"⟩, 24), (⟨"GongHouseModel", "turn", "(II)I"⟩, 24), (⟨"GongHouseModel", "struck", "(IIIIII)I"⟩, 24), (⟨"GongHouseModel", "leapsOf", "(II)I"⟩, 24)]
theorem lw_r3 : ∀ q ∈ lw_privs_3, lw_okq q := List.forall_mem_cons.mpr ⟨lw_p32, List.forall_mem_cons.mpr ⟨lw_p33, List.forall_mem_cons.mpr ⟨lw_p34, List.forall_mem_cons.mpr ⟨lw_p35, List.forall_mem_cons.mpr ⟨lw_p36, List.forall_mem_cons.mpr ⟨lw_p37, fun _ h => absurd h List.not_mem_nil⟩⟩⟩⟩⟩⟩
def lw_privs : List (MethodName × Nat) := lw_privs_1 ++ (lw_privs_2 ++ (lw_privs_3))
def lw_tbl : List Cond := k2_sels lw_privs ++ tables_1
theorem lw_privs_ok : ∀ q ∈ lw_privs, lw_okq q := by
  show ∀ q ∈ lw_privs_1 ++ (lw_privs_2 ++ (lw_privs_3)), lw_okq q
  exact List.forall_mem_append.mpr ⟨lw_r1, List.forall_mem_append.mpr ⟨lw_r2, lw_r3⟩⟩
def RX0 : String := "GongHouse$Circle"
def TX0 : u_T := fun k => match k with
  | 0 => ("GongHouse$Circle", "notes", "[I", true)
  | 1 => ("GongHouse$Circle", "gongs", "[I", true)
  | 2 => ("GongHouse$Circle", "tones", "[I", true)
  | 3 => ("GongHouse$Circle", "turns", "[I", true)
  | _ => ("GongHouse$Circle", "beats", "I", false)
def tyX0 : Nat → FieldType := fun k => match k with
  | 0 => .array .int
  | 1 => .array .int
  | 2 => .array .int
  | 3 => .array .int
  | _ => .int
abbrev wsX00 : List Cond := u_ws RX0 TX0 5
theorem nmX0 : ∀ a, a < 5 → ∀ b, b < 5 → a ≠ b → (TX0 a).2.1 ≠ (TX0 b).2.1 := by decide +kernel
theorem tyX0_ok : ∀ k, k < 5 → parseFieldDescriptor (TX0 k).2.2.1 = some (tyX0 k) := by decide +kernel
def RX1 : String := "GongHouse$Figure"
def TX1 : u_T := fun k => match k with
  | 0 => ("GongHouse$Figure", "main", "[I", true)
  | 1 => ("GongHouse$Figure", "other", "[I", true)
  | _ => ("GongHouse$Figure", "mayBoth", "[Z", true)
def tyX1 : Nat → FieldType := fun k => match k with
  | 0 => .array .int
  | 1 => .array .int
  | _ => .array .boolean
abbrev wsX10 : List Cond := u_ws RX1 TX1 3
theorem nmX1 : ∀ a, a < 3 → ∀ b, b < 3 → a ≠ b → (TX1 a).2.1 ≠ (TX1 b).2.1 := by decide +kernel
theorem tyX1_ok : ∀ k, k < 3 → parseFieldDescriptor (TX1 k).2.2.1 = some (tyX1 k) := by decide +kernel
def RX2 : String := "GongHouse$Level"
def TX2 : u_T := fun k => match k with
  | 0 => ("GongHouse$Level", "steps", "I", true)
  | 1 => ("GongHouse$Level", "figures", "[LGongHouse$Figure;", true)
  | _ => ("GongHouse$Level", "used", "[I", true)
def tyX2 : Nat → FieldType := fun k => match k with
  | 0 => .int
  | 1 => .array (.object "GongHouse$Figure")
  | _ => .array .int
abbrev wsX20 : List Cond := u_ws RX2 TX2 3
theorem nmX2 : ∀ a, a < 3 → ∀ b, b < 3 → a ≠ b → (TX2 a).2.1 ≠ (TX2 b).2.1 := by decide +kernel
theorem tyX2_ok : ∀ k, k < 3 → parseFieldDescriptor (TX2 k).2.2.1 = some (tyX2 k) := by decide +kernel
def RX3 : String := "GongHouse$LineTable"
def TX3 : u_T := fun k => match k with
  | 0 => ("GongHouse$LineTable", "inner", "[I", true)
  | 1 => ("GongHouse$LineTable", "firstKeys", "[I", true)
  | 2 => ("GongHouse$LineTable", "lastKeys", "[I", true)
  | 3 => ("GongHouse$LineTable", "chosen", "[I", true)
  | _ => ("GongHouse$LineTable", "usable", "[Z", true)
def tyX3 : Nat → FieldType := fun k => match k with
  | 0 => .array .int
  | 1 => .array .int
  | 2 => .array .int
  | 3 => .array .int
  | _ => .array .boolean
abbrev wsX30 : List Cond := u_ws RX3 TX3 5
theorem nmX3 : ∀ a, a < 5 → ∀ b, b < 5 → a ≠ b → (TX3 a).2.1 ≠ (TX3 b).2.1 := by decide +kernel
theorem tyX3_ok : ∀ k, k < 5 → parseFieldDescriptor (TX3 k).2.2.1 = some (tyX3 k) := by decide +kernel
def RX4 : String := "GongHouse$Piece"
def TX4 : u_T := fun k => match k with
  | 0 => ("GongHouse$Piece", "partCircles", "[I", true)
  | 1 => ("GongHouse$Piece", "partTimes", "[I", true)
  | 2 => ("GongHouse$Piece", "partLevels", "[I", true)
  | 3 => ("GongHouse$Piece", "signalLevels", "[I", true)
  | 4 => ("GongHouse$Piece", "parts", "I", false)
  | _ => ("GongHouse$Piece", "signals", "I", false)
def tyX4 : Nat → FieldType := fun k => match k with
  | 0 => .array .int
  | 1 => .array .int
  | 2 => .array .int
  | 3 => .array .int
  | 4 => .int
  | _ => .int
abbrev wsX40 : List Cond := u_ws RX4 TX4 6
theorem nmX4 : ∀ a, a < 6 → ∀ b, b < 6 → a ≠ b → (TX4 a).2.1 ≠ (TX4 b).2.1 := by decide +kernel
theorem tyX4_ok : ∀ k, k < 6 → parseFieldDescriptor (TX4 k).2.2.1 = some (tyX4 k) := by decide +kernel
def RX5 : String := "GongHouse$Sheet"
def TX5 : u_T := fun k => match k with
  | 0 => ("GongHouse$Sheet", "bytes", "[B", true)
  | _ => ("GongHouse$Sheet", "places", "I", false)
def tyX5 : Nat → FieldType := fun k => match k with
  | 0 => .array .byte
  | _ => .int
abbrev wsX50 : List Cond := u_ws RX5 TX5 2
theorem nmX5 : ∀ a, a < 2 → ∀ b, b < 2 → a ≠ b → (TX5 a).2.1 ≠ (TX5 b).2.1 := by decide +kernel
theorem tyX5_ok : ∀ k, k < 2 → parseFieldDescriptor (TX5 k).2.2.1 = some (tyX5 k) := by decide +kernel
def RX6 : String := "GongHouse$Tape"
def TX6 : u_T := fun k => match k with
  | 0 => ("GongHouse$Tape", "bytes", "[B", true)
  | _ => ("GongHouse$Tape", "length", "I", false)
def tyX6 : Nat → FieldType := fun k => match k with
  | 0 => .array .byte
  | _ => .int
abbrev wsX60 : List Cond := u_ws RX6 TX6 2
theorem nmX6 : ∀ a, a < 2 → ∀ b, b < 2 → a ≠ b → (TX6 a).2.1 ≠ (TX6 b).2.1 := by decide +kernel
theorem tyX6_ok : ∀ k, k < 2 → parseFieldDescriptor (TX6 k).2.2.1 = some (tyX6 k) := by decide +kernel
def RX7 : String := "GongHouse$TuneReader"
def TX7 : u_T := fun k => match k with
  | 0 => ("GongHouse$TuneReader", "notes", "[I", true)
  | 1 => ("GongHouse$TuneReader", "gongs", "[I", true)
  | 2 => ("GongHouse$TuneReader", "beats", "I", false)
  | 3 => ("GongHouse$TuneReader", "opened", "I", false)
  | 4 => ("GongHouse$TuneReader", "awaitsTimes", "Z", false)
  | _ => ("GongHouse$TuneReader", "awaitsGong", "Z", false)
def tyX7 : Nat → FieldType := fun k => match k with
  | 0 => .array .int
  | 1 => .array .int
  | 2 => .int
  | 3 => .int
  | 4 => .boolean
  | _ => .boolean
abbrev wsX70 : List Cond := u_ws RX7 TX7 6
theorem nmX7 : ∀ a, a < 6 → ∀ b, b < 6 → a ≠ b → (TX7 a).2.1 ≠ (TX7 b).2.1 := by decide +kernel
theorem tyX7_ok : ∀ k, k < 6 → parseFieldDescriptor (TX7 k).2.2.1 = some (tyX7 k) := by decide +kernel
def RX8 : String := "GongHouse$Walk"
def TX8 : u_T := fun k => match k with
  | 0 => ("GongHouse$Walk", "circle", "I", false)
  | 1 => ("GongHouse$Walk", "level", "I", false)
  | 2 => ("GongHouse$Walk", "part", "I", false)
  | _ => ("GongHouse$Walk", "tick", "I", false)
def tyX8 : Nat → FieldType := fun k => match k with
  | 0 => .int
  | 1 => .int
  | 2 => .int
  | _ => .int
abbrev wsX80 : List Cond := u_ws RX8 TX8 4
theorem nmX8 : ∀ a, a < 4 → ∀ b, b < 4 → a ≠ b → (TX8 a).2.1 ≠ (TX8 b).2.1 := by decide +kernel
theorem tyX8_ok : ∀ k, k < 4 → parseFieldDescriptor (TX8 k).2.2.1 = some (tyX8 k) := by decide +kernel
def RX9 : String := "GongHouse"
def TX9 : u_T := fun k => match k with
  | 0 => ("GongHouse", "tape", "LGongHouse$Tape;", true)
  | 1 => ("GongHouse", "reader", "LGongHouse$TuneReader;", true)
  | 2 => ("GongHouse", "circles", "[LGongHouse$Circle;", true)
  | 3 => ("GongHouse", "levels", "[LGongHouse$Level;", true)
  | 4 => ("GongHouse", "piece", "LGongHouse$Piece;", true)
  | 5 => ("GongHouse", "walk", "LGongHouse$Walk;", true)
  | 6 => ("GongHouse", "lines", "LGongHouse$LineTable;", true)
  | _ => ("GongHouse", "sheets", "[LGongHouse$Sheet;", true)
def tyX9 : Nat → FieldType := fun k => match k with
  | 0 => .object "GongHouse$Tape"
  | 1 => .object "GongHouse$TuneReader"
  | 2 => .array (.object "GongHouse$Circle")
  | 3 => .array (.object "GongHouse$Level")
  | 4 => .object "GongHouse$Piece"
  | 5 => .object "GongHouse$Walk"
  | 6 => .object "GongHouse$LineTable"
  | _ => .array (.object "GongHouse$Sheet")
abbrev wsX90 : List Cond := u_ws RX9 TX9 8
theorem nmX9 : ∀ a, a < 8 → ∀ b, b < 8 → a ≠ b → (TX9 a).2.1 ≠ (TX9 b).2.1 := by decide +kernel
theorem tyX9_ok : ∀ k, k < 8 → parseFieldDescriptor (TX9 k).2.2.1 = some (tyX9 k) := by decide +kernel
def RX10 : String := "GongHouseModel"
def TX10 : u_T := fun k => match k with
  | 0 => ("GongHouseModel", "beats", "[I", true)
  | 1 => ("GongHouseModel", "notes", "[I", true)
  | 2 => ("GongHouseModel", "gongs", "[I", true)
  | 3 => ("GongHouseModel", "shifts", "[I", true)
  | 4 => ("GongHouseModel", "may", "[Z", true)
  | 5 => ("GongHouseModel", "used", "[I", true)
  | 6 => ("GongHouseModel", "parts", "I", false)
  | 7 => ("GongHouseModel", "pCircle", "[I", true)
  | 8 => ("GongHouseModel", "pTimes", "[I", true)
  | 9 => ("GongHouseModel", "pLevel", "[I", true)
  | 10 => ("GongHouseModel", "signals", "[I", true)
  | 11 => ("GongHouseModel", "tape", "[I", true)
  | 12 => ("GongHouseModel", "taped", "I", false)
  | 13 => ("GongHouseModel", "places", "[I", true)
  | 14 => ("GongHouseModel", "numbers", "[I", true)
  | 15 => ("GongHouseModel", "read", "I", false)
  | 16 => ("GongHouseModel", "many", "I", false)
  | 17 => ("GongHouseModel", "newNotes", "[I", true)
  | 18 => ("GongHouseModel", "newGongs", "[I", true)
  | 19 => ("GongHouseModel", "partNow", "I", false)
  | 20 => ("GongHouseModel", "levelNow", "I", false)
  | 21 => ("GongHouseModel", "tickNow", "I", false)
  | 22 => ("GongHouseModel", "three", "[I", true)
  | _ => ("GongHouseModel", "carried", "[I", true)
def tyX10 : Nat → FieldType := fun k => match k with
  | 0 => .array .int
  | 1 => .array .int
  | 2 => .array .int
  | 3 => .array .int
  | 4 => .array .boolean
  | 5 => .array .int
  | 6 => .int
  | 7 => .array .int
  | 8 => .array .int
  | 9 => .array .int
  | 10 => .array .int
  | 11 => .array .int
  | 12 => .int
  | 13 => .array .int
  | 14 => .array .int
  | 15 => .int
  | 16 => .int
  | 17 => .array .int
  | 18 => .array .int
  | 19 => .int
  | 20 => .int
  | 21 => .int
  | 22 => .array .int
  | _ => .array .int
abbrev wsX100 : List Cond := u_ws RX10 TX10 24
theorem nmX10 : ∀ a, a < 24 → ∀ b, b < 24 → a ≠ b → (TX10 a).2.1 ≠ (TX10 b).2.1 := by decide +kernel
theorem tyX10_ok : ∀ k, k < 24 → parseFieldDescriptor (TX10 k).2.2.1 = some (tyX10 k) := by decide +kernel
def RL : String := "GongHouseLaw"
abbrev vwCl : List vw_C := [(RX0, TX0, 5), (RX1, TX1, 3), (RX2, TX2, 3), (RX3, TX3, 5), (RX4, TX4, 6), (RX5, TX5, 2), (RX6, TX6, 2), (RX7, TX7, 6), (RX8, TX8, 4), (RX9, TX9, 8), (RX10, TX10, 24)]
def Tb : List Cond := lw_tbl.filter goodWord
theorem tb_m {w : Cond} (i : Nat) (h : lw_tbl[i]? = some w) (g : goodWord w = true) : w ∈ Tb := List.mem_filter.mpr ⟨List.mem_of_getElem? h, g⟩
theorem tb_g : GoodIn lw_tbl Tb := fun w h => ⟨(List.mem_filter.mp h).1, good_of_word (List.mem_filter.mp h).2⟩
theorem tb_gg : GoodIn Tb Tb := fun w h => ⟨h, good_of_word (List.mem_filter.mp h).2⟩
def NwTb : List Cond := [.methodLinkNest "GongHouse" 9 ⟨"GongHouse$Tape", "<init>", "()V"⟩ "GongHouse", .methodLinkNest "GongHouse" 18 ⟨"GongHouse$TuneReader", "<init>", "()V"⟩ "GongHouse", .methodLinkNest "GongHouse" 44 ⟨"GongHouse$Walk", "<init>", "()V"⟩ "GongHouse", .methodLinkNest "GongHouse" 51 ⟨"GongHouse$LineTable", "<init>", "()V"⟩ "GongHouse", .methodLinkNest "GongHouse" 66 ⟨"GongHouse$Sheet", "<init>", "()V"⟩ "GongHouse", .methodLinkNest "GongHouse$TuneReader" 73 ⟨"GongHouse", "isBelow", "(II)Z"⟩ "GongHouse", .methodLinkNest "GongHouse$Figure" 43 ⟨"GongHouse", "isShift", "(I)Z"⟩ "GongHouse", .methodLinkNest "GongHouse$Figure" 47 ⟨"GongHouse", "countTold", "([II)I"⟩ "GongHouse", .methodLinkNest "GongHouse$Piece" 38 ⟨"GongHouse", "countTold", "([II)I"⟩ "GongHouse", .methodLinkNest "GongHouse$Circle" 66 ⟨"GongHouse", "countTold", "([II)I"⟩ "GongHouse", .methodLinkNest "GongHouse$LineTable" 41 ⟨"GongHouse", "keyOf", "(II)I"⟩ "GongHouse"]
theorem nw_mem : ∀ w ∈ NwTb, w ∈ lw_tbl := by
  intro w hw
  simp only [NwTb, List.mem_cons, List.not_mem_nil, or_false] at hw
  rcases hw with rfl | rfl | rfl | rfl | rfl | rfl | rfl | rfl | rfl | rfl | rfl
  · exact List.mem_of_getElem? (i := 63) (by decide +kernel)
  · exact List.mem_of_getElem? (i := 80) (by decide +kernel)
  · exact List.mem_of_getElem? (i := 152) (by decide +kernel)
  · exact List.mem_of_getElem? (i := 175) (by decide +kernel)
  · exact List.mem_of_getElem? (i := 271) (by decide +kernel)
  · exact List.mem_of_getElem? (i := 345) (by decide +kernel)
  · exact List.mem_of_getElem? (i := 450) (by decide +kernel)
  · exact List.mem_of_getElem? (i := 455) (by decide +kernel)
  · exact List.mem_of_getElem? (i := 493) (by decide +kernel)
  · exact List.mem_of_getElem? (i := 550) (by decide +kernel)
  · exact List.mem_of_getElem? (i := 582) (by decide +kernel)
theorem cw_0 : ∀ w ∈ u_ws RX0 TX0 5, w ∈ Tb := by
  intro w hw
  simp only [u_ws, List.mem_map, List.mem_range] at hw
  obtain ⟨k, hk, rfl⟩ := hw
  match k, hk with
  | 0, _ => exact tb_m 220 (by decide +kernel) rfl
  | 1, _ => exact tb_m 222 (by decide +kernel) rfl
  | 2, _ => exact tb_m 224 (by decide +kernel) rfl
  | 3, _ => exact tb_m 226 (by decide +kernel) rfl
  | 4, _ => exact tb_m 228 (by decide +kernel) rfl
  | n + 5, h => exact absurd h (by omega)
theorem cw_1 : ∀ w ∈ u_ws RX1 TX1 3, w ∈ Tb := by
  intro w hw
  simp only [u_ws, List.mem_map, List.mem_range] at hw
  obtain ⟨k, hk, rfl⟩ := hw
  match k, hk with
  | 0, _ => exact tb_m 250 (by decide +kernel) rfl
  | 1, _ => exact tb_m 252 (by decide +kernel) rfl
  | 2, _ => exact tb_m 254 (by decide +kernel) rfl
  | n + 3, h => exact absurd h (by omega)
theorem cw_2 : ∀ w ∈ u_ws RX2 TX2 3, w ∈ Tb := by
  intro w hw
  simp only [u_ws, List.mem_map, List.mem_range] at hw
  obtain ⟨k, hk, rfl⟩ := hw
  match k, hk with
  | 0, _ => exact tb_m 263 (by decide +kernel) rfl
  | 1, _ => exact tb_m 265 (by decide +kernel) rfl
  | 2, _ => exact tb_m 267 (by decide +kernel) rfl
  | n + 3, h => exact absurd h (by omega)
theorem cw_3 : ∀ w ∈ u_ws RX3 TX3 5, w ∈ Tb := by
  intro w hw
  simp only [u_ws, List.mem_map, List.mem_range] at hw
  obtain ⟨k, hk, rfl⟩ := hw
  match k, hk with
  | 0, _ => exact tb_m 185 (by decide +kernel) rfl
  | 1, _ => exact tb_m 187 (by decide +kernel) rfl
  | 2, _ => exact tb_m 189 (by decide +kernel) rfl
  | 3, _ => exact tb_m 191 (by decide +kernel) rfl
  | 4, _ => exact tb_m 193 (by decide +kernel) rfl
  | n + 5, h => exact absurd h (by omega)
theorem cw_4 : ∀ w ∈ u_ws RX4 TX4 6, w ∈ Tb := by
  intro w hw
  simp only [u_ws, List.mem_map, List.mem_range] at hw
  obtain ⟨k, hk, rfl⟩ := hw
  match k, hk with
  | 0, _ => exact tb_m 137 (by decide +kernel) rfl
  | 1, _ => exact tb_m 139 (by decide +kernel) rfl
  | 2, _ => exact tb_m 141 (by decide +kernel) rfl
  | 3, _ => exact tb_m 143 (by decide +kernel) rfl
  | 4, _ => exact tb_m 145 (by decide +kernel) rfl
  | 5, _ => exact tb_m 147 (by decide +kernel) rfl
  | n + 6, h => exact absurd h (by omega)
theorem cw_5 : ∀ w ∈ u_ws RX5 TX5 2, w ∈ Tb := by
  intro w hw
  simp only [u_ws, List.mem_map, List.mem_range] at hw
  obtain ⟨k, hk, rfl⟩ := hw
  match k, hk with
  | 0, _ => exact tb_m 281 (by decide +kernel) rfl
  | 1, _ => exact tb_m 283 (by decide +kernel) rfl
  | n + 2, h => exact absurd h (by omega)
theorem cw_6 : ∀ w ∈ u_ws RX6 TX6 2, w ∈ Tb := by
  intro w hw
  simp only [u_ws, List.mem_map, List.mem_range] at hw
  obtain ⟨k, hk, rfl⟩ := hw
  match k, hk with
  | 0, _ => exact tb_m 72 (by decide +kernel) rfl
  | 1, _ => exact tb_m 74 (by decide +kernel) rfl
  | n + 2, h => exact absurd h (by omega)
theorem cw_7 : ∀ w ∈ u_ws RX7 TX7 6, w ∈ Tb := by
  intro w hw
  simp only [u_ws, List.mem_map, List.mem_range] at hw
  obtain ⟨k, hk, rfl⟩ := hw
  match k, hk with
  | 0, _ => exact tb_m 95 (by decide +kernel) rfl
  | 1, _ => exact tb_m 97 (by decide +kernel) rfl
  | 2, _ => exact tb_m 99 (by decide +kernel) rfl
  | 3, _ => exact tb_m 101 (by decide +kernel) rfl
  | 4, _ => exact tb_m 103 (by decide +kernel) rfl
  | 5, _ => exact tb_m 105 (by decide +kernel) rfl
  | n + 6, h => exact absurd h (by omega)
theorem cw_8 : ∀ w ∈ u_ws RX8 TX8 4, w ∈ Tb := by
  intro w hw
  simp only [u_ws, List.mem_map, List.mem_range] at hw
  obtain ⟨k, hk, rfl⟩ := hw
  match k, hk with
  | 0, _ => exact tb_m 164 (by decide +kernel) rfl
  | 1, _ => exact tb_m 166 (by decide +kernel) rfl
  | 2, _ => exact tb_m 168 (by decide +kernel) rfl
  | 3, _ => exact tb_m 170 (by decide +kernel) rfl
  | n + 4, h => exact absurd h (by omega)
theorem cw_9 : ∀ w ∈ u_ws RX9 TX9 8, w ∈ Tb := by
  intro w hw
  simp only [u_ws, List.mem_map, List.mem_range] at hw
  obtain ⟨k, hk, rfl⟩ := hw
  match k, hk with
  | 0, _ => exact tb_m 294 (by decide +kernel) rfl
  | 1, _ => exact tb_m 296 (by decide +kernel) rfl
  | 2, _ => exact tb_m 298 (by decide +kernel) rfl
  | 3, _ => exact tb_m 300 (by decide +kernel) rfl
  | 4, _ => exact tb_m 302 (by decide +kernel) rfl
  | 5, _ => exact tb_m 304 (by decide +kernel) rfl
  | 6, _ => exact tb_m 306 (by decide +kernel) rfl
  | 7, _ => exact tb_m 308 (by decide +kernel) rfl
  | n + 8, h => exact absurd h (by omega)
theorem cw_10 : ∀ w ∈ u_ws RX10 TX10 24, w ∈ Tb := by
  intro w hw
  simp only [u_ws, List.mem_map, List.mem_range] at hw
  obtain ⟨k, hk, rfl⟩ := hw
  match k, hk with
  | 0, _ => exact tb_m 686 (by decide +kernel) rfl
  | 1, _ => exact tb_m 688 (by decide +kernel) rfl
  | 2, _ => exact tb_m 690 (by decide +kernel) rfl
  | 3, _ => exact tb_m 692 (by decide +kernel) rfl
  | 4, _ => exact tb_m 694 (by decide +kernel) rfl
  | 5, _ => exact tb_m 696 (by decide +kernel) rfl
  | 6, _ => exact tb_m 698 (by decide +kernel) rfl
  | 7, _ => exact tb_m 700 (by decide +kernel) rfl
  | 8, _ => exact tb_m 702 (by decide +kernel) rfl
  | 9, _ => exact tb_m 704 (by decide +kernel) rfl
  | 10, _ => exact tb_m 706 (by decide +kernel) rfl
  | 11, _ => exact tb_m 708 (by decide +kernel) rfl
  | 12, _ => exact tb_m 710 (by decide +kernel) rfl
  | 13, _ => exact tb_m 712 (by decide +kernel) rfl
  | 14, _ => exact tb_m 714 (by decide +kernel) rfl
  | 15, _ => exact tb_m 716 (by decide +kernel) rfl
  | 16, _ => exact tb_m 718 (by decide +kernel) rfl
  | 17, _ => exact tb_m 720 (by decide +kernel) rfl
  | 18, _ => exact tb_m 722 (by decide +kernel) rfl
  | 19, _ => exact tb_m 724 (by decide +kernel) rfl
  | 20, _ => exact tb_m 726 (by decide +kernel) rfl
  | 21, _ => exact tb_m 728 (by decide +kernel) rfl
  | 22, _ => exact tb_m 730 (by decide +kernel) rfl
  | 23, _ => exact tb_m 732 (by decide +kernel) rfl
  | n + 24, h => exact absurd h (by omega)
