-- ===== PART A: goes FIRST, ahead of the names: the tables' words, and 'selects' of the private methods out of them =====
/-- a private method of a class that the tables say can be made, by its rows of tables_1 -/
def lw_okq (q : MethodName × Nat) : Prop := (q.1.cls ≠ "java/lang/invoke/MethodHandle" ∧ q.1.cls ≠ "java/lang/invoke/VarHandle") ∧ Cond.instantiable q.1.cls q.2 ∈ tables_1 ∧ Cond.privateMethod q.1 ∈ tables_1 ∧ Cond.instanceMethod q.1 ∈ tables_1
theorem lw_p0 : lw_okq (⟨"PisteLine", "arePoolsDrawn", "()Z"⟩, 10) := ⟨⟨by decide +kernel, by decide +kernel⟩, List.mem_of_getElem? (i := 26) (by decide +kernel), List.mem_of_getElem? (i := 152) (by decide +kernel), List.mem_of_getElem? (i := 153) (by decide +kernel)⟩
theorem lw_p1 : lw_okq (⟨"java/lang/Throwable", "fillInStackTrace", "(I)Ljava/lang/Throwable;"⟩, 6) := ⟨⟨by decide +kernel, by decide +kernel⟩, List.mem_of_getElem? (i := 194) (by decide +kernel), List.mem_of_getElem? (i := 192) (by decide +kernel), List.mem_of_getElem? (i := 193) (by decide +kernel)⟩
theorem lw_p2 : lw_okq (⟨"PisteLine", "drawPool", "(II)V"⟩, 10) := ⟨⟨by decide +kernel, by decide +kernel⟩, List.mem_of_getElem? (i := 26) (by decide +kernel), List.mem_of_getElem? (i := 268) (by decide +kernel), List.mem_of_getElem? (i := 269) (by decide +kernel)⟩
theorem lw_p3 : lw_okq (⟨"PisteLine", "addPoolBout", "(II)V"⟩, 10) := ⟨⟨by decide +kernel, by decide +kernel⟩, List.mem_of_getElem? (i := 26) (by decide +kernel), List.mem_of_getElem? (i := 275) (by decide +kernel), List.mem_of_getElem? (i := 276) (by decide +kernel)⟩
theorem lw_p4 : lw_okq (⟨"PisteLine", "boutAt", "(I)LPisteLine$Bout;"⟩, 10) := ⟨⟨by decide +kernel, by decide +kernel⟩, List.mem_of_getElem? (i := 26) (by decide +kernel), List.mem_of_getElem? (i := 332) (by decide +kernel), List.mem_of_getElem? (i := 333) (by decide +kernel)⟩
theorem lw_p5 : lw_okq (⟨"PisteLine", "weaponAt", "(I)LPisteLine$Weapon;"⟩, 10) := ⟨⟨by decide +kernel, by decide +kernel⟩, List.mem_of_getElem? (i := 26) (by decide +kernel), List.mem_of_getElem? (i := 340) (by decide +kernel), List.mem_of_getElem? (i := 341) (by decide +kernel)⟩
theorem lw_p6 : lw_okq (⟨"PisteLine", "fencerAt", "(I)LPisteLine$Fencer;"⟩, 10) := ⟨⟨by decide +kernel, by decide +kernel⟩, List.mem_of_getElem? (i := 26) (by decide +kernel), List.mem_of_getElem? (i := 419) (by decide +kernel), List.mem_of_getElem? (i := 420) (by decide +kernel)⟩
theorem lw_p7 : lw_okq (⟨"PisteLine", "fail", "(LPisteLine$Weapon;)V"⟩, 10) := ⟨⟨by decide +kernel, by decide +kernel⟩, List.mem_of_getElem? (i := 26) (by decide +kernel), List.mem_of_getElem? (i := 454) (by decide +kernel), List.mem_of_getElem? (i := 455) (by decide +kernel)⟩
theorem lw_p8 : lw_okq (⟨"PisteLine$Tableau", "winnerNow", "(ILPisteLine$Bout;)I"⟩, 5) := ⟨⟨by decide +kernel, by decide +kernel⟩, List.mem_of_getElem? (i := 72) (by decide +kernel), List.mem_of_getElem? (i := 505) (by decide +kernel), List.mem_of_getElem? (i := 506) (by decide +kernel)⟩
theorem lw_p9 : lw_okq (⟨"PisteLine$Tableau", "drop", "(LPisteLine$Bout;LPisteLine$Piste;)V"⟩, 5) := ⟨⟨by decide +kernel, by decide +kernel⟩, List.mem_of_getElem? (i := 72) (by decide +kernel), List.mem_of_getElem? (i := 517) (by decide +kernel), List.mem_of_getElem? (i := 518) (by decide +kernel)⟩
theorem lw_p10 : lw_okq (⟨"PisteLine$Phrase", "firstLight", "()I"⟩, 10) := ⟨⟨by decide +kernel, by decide +kernel⟩, List.mem_of_getElem? (i := 542) (by decide +kernel), List.mem_of_getElem? (i := 594) (by decide +kernel), List.mem_of_getElem? (i := 595) (by decide +kernel)⟩
theorem lw_p11 : lw_okq (⟨"PisteLine$Phrase", "isALight", "(I)Z"⟩, 10) := ⟨⟨by decide +kernel, by decide +kernel⟩, List.mem_of_getElem? (i := 542) (by decide +kernel), List.mem_of_getElem? (i := 598) (by decide +kernel), List.mem_of_getElem? (i := 599) (by decide +kernel)⟩
theorem lw_p12 : lw_okq (⟨"PisteLine$Phrase", "otherLight", "(I)I"⟩, 10) := ⟨⟨by decide +kernel, by decide +kernel⟩, List.mem_of_getElem? (i := 542) (by decide +kernel), List.mem_of_getElem? (i := 602) (by decide +kernel), List.mem_of_getElem? (i := 603) (by decide +kernel)⟩
theorem lw_p13 : lw_okq (⟨"PisteLine$Phrase", "touchOf", "(I)I"⟩, 10) := ⟨⟨by decide +kernel, by decide +kernel⟩, List.mem_of_getElem? (i := 542) (by decide +kernel), List.mem_of_getElem? (i := 606) (by decide +kernel), List.mem_of_getElem? (i := 607) (by decide +kernel)⟩
theorem lw_p14 : lw_okq (⟨"PisteLine$Phrase", "rightAt", "(I)I"⟩, 10) := ⟨⟨by decide +kernel, by decide +kernel⟩, List.mem_of_getElem? (i := 542) (by decide +kernel), List.mem_of_getElem? (i := 610) (by decide +kernel), List.mem_of_getElem? (i := 611) (by decide +kernel)⟩
theorem lw_p15 : lw_okq (⟨"PisteLine", "isTooEarly", "(I)Z"⟩, 10) := ⟨⟨by decide +kernel, by decide +kernel⟩, List.mem_of_getElem? (i := 26) (by decide +kernel), List.mem_of_getElem? (i := 633) (by decide +kernel), List.mem_of_getElem? (i := 634) (by decide +kernel)⟩
def lw_privs_1 : List (MethodName × Nat) := [(⟨"PisteLine", "arePoolsDrawn", "()Z"⟩, 10), (⟨"java/lang/Throwable", "fillInStackTrace", "(I)Ljava/lang/Throwable;"⟩, 6), (⟨"PisteLine", "drawPool", "(II)V"⟩, 10), (⟨"PisteLine", "addPoolBout", "(II)V"⟩, 10), (⟨"PisteLine", "boutAt", "(I)LPisteLine$Bout;"⟩, 10), (⟨"PisteLine", "weaponAt", "(I)LPisteLine$Weapon;"⟩, 10), (⟨"PisteLine", "fencerAt", "(I)LPisteLine$Fencer;"⟩, 10), (⟨"PisteLine", "fail", "(LPisteLine$Weapon;)V"⟩, 10), (⟨"PisteLine$Tableau", "winnerNow", "(ILPisteLine$Bout;)I"⟩, 5), (⟨"PisteLine$Tableau", "drop", "(LPisteLine$Bout;LPisteLine$Piste;)V"⟩, 5), (⟨"PisteLine$Phrase", "firstLight", "()I"⟩, 10), (⟨"PisteLine$Phrase", "isALight", "(I)Z"⟩, 10), (⟨"PisteLine$Phrase", "otherLight", "(I)I"⟩, 10), (⟨"PisteLine$Phrase", "touchOf", "(I)I"⟩, 10), (⟨"PisteLine$Phrase", "rightAt", "(I)I"⟩, 10), (⟨"PisteLine", "isTooEarly", "(I)Z"⟩, 10)]
theorem lw_r1 : ∀ q ∈ lw_privs_1, lw_okq q := List.forall_mem_cons.mpr ⟨lw_p0, List.forall_mem_cons.mpr ⟨lw_p1, List.forall_mem_cons.mpr ⟨lw_p2, List.forall_mem_cons.mpr ⟨lw_p3, List.forall_mem_cons.mpr ⟨lw_p4, List.forall_mem_cons.mpr ⟨lw_p5, List.forall_mem_cons.mpr ⟨lw_p6, List.forall_mem_cons.mpr ⟨lw_p7, List.forall_mem_cons.mpr ⟨lw_p8, List.forall_mem_cons.mpr ⟨lw_p9, List.forall_mem_cons.mpr ⟨lw_p10, List.forall_mem_cons.mpr ⟨lw_p11, List.forall_mem_cons.mpr ⟨lw_p12, List.forall_mem_cons.mpr ⟨lw_p13, List.forall_mem_cons.mpr ⟨lw_p14, List.forall_mem_cons.mpr ⟨lw_p15, fun _ h => absurd h List.not_mem_nil⟩⟩⟩⟩⟩⟩⟩⟩⟩⟩⟩⟩⟩⟩⟩⟩
theorem lw_p16 : lw_okq (⟨"PisteLine", "isAPoolBoutOpen", "()Z"⟩, 10) := ⟨⟨by decide +kernel, by decide +kernel⟩, List.mem_of_getElem? (i := 26) (by decide +kernel), List.mem_of_getElem? (i := 744) (by decide +kernel), List.mem_of_getElem? (i := 745) (by decide +kernel)⟩
theorem lw_p17 : lw_okq (⟨"PisteLine$Tableau", "laySeeds", "()V"⟩, 5) := ⟨⟨by decide +kernel, by decide +kernel⟩, List.mem_of_getElem? (i := 72) (by decide +kernel), List.mem_of_getElem? (i := 757) (by decide +kernel), List.mem_of_getElem? (i := 758) (by decide +kernel)⟩
theorem lw_p18 : lw_okq (⟨"PisteLine", "countPools", "()V"⟩, 10) := ⟨⟨by decide +kernel, by decide +kernel⟩, List.mem_of_getElem? (i := 26) (by decide +kernel), List.mem_of_getElem? (i := 761) (by decide +kernel), List.mem_of_getElem? (i := 762) (by decide +kernel)⟩
theorem lw_p19 : lw_okq (⟨"PisteLine", "countSide", "(LPisteLine$Bout;I)V"⟩, 10) := ⟨⟨by decide +kernel, by decide +kernel⟩, List.mem_of_getElem? (i := 26) (by decide +kernel), List.mem_of_getElem? (i := 769) (by decide +kernel), List.mem_of_getElem? (i := 770) (by decide +kernel)⟩
theorem lw_p20 : lw_okq (⟨"PisteLine", "fencerInPlace", "(I)I"⟩, 10) := ⟨⟨by decide +kernel, by decide +kernel⟩, List.mem_of_getElem? (i := 26) (by decide +kernel), List.mem_of_getElem? (i := 781) (by decide +kernel), List.mem_of_getElem? (i := 782) (by decide +kernel)⟩
theorem lw_p21 : lw_okq (⟨"PisteLine", "fencersAhead", "(LPisteLine$Fencer;)I"⟩, 10) := ⟨⟨by decide +kernel, by decide +kernel⟩, List.mem_of_getElem? (i := 26) (by decide +kernel), List.mem_of_getElem? (i := 785) (by decide +kernel), List.mem_of_getElem? (i := 786) (by decide +kernel)⟩
def lw_privs_2 : List (MethodName × Nat) := [(⟨"PisteLine", "isAPoolBoutOpen", "()Z"⟩, 10), (⟨"PisteLine$Tableau", "laySeeds", "()V"⟩, 5), (⟨"PisteLine", "countPools", "()V"⟩, 10), (⟨"PisteLine", "countSide", "(LPisteLine$Bout;I)V"⟩, 10), (⟨"PisteLine", "fencerInPlace", "(I)I"⟩, 10), (⟨"PisteLine", "fencersAhead", "(LPisteLine$Fencer;)I"⟩, 10)]
theorem lw_r2 : ∀ q ∈ lw_privs_2, lw_okq q := List.forall_mem_cons.mpr ⟨lw_p16, List.forall_mem_cons.mpr ⟨lw_p17, List.forall_mem_cons.mpr ⟨lw_p18, List.forall_mem_cons.mpr ⟨lw_p19, List.forall_mem_cons.mpr ⟨lw_p20, List.forall_mem_cons.mpr ⟨lw_p21, fun _ h => absurd h List.not_mem_nil⟩⟩⟩⟩⟩⟩
def lw_privs : List (MethodName × Nat) := lw_privs_1 ++ (lw_privs_2)
def lw_tbl : List Cond := k2_sels lw_privs ++ tables_1
theorem lw_privs_ok : ∀ q ∈ lw_privs, lw_okq q := by
  show ∀ q ∈ lw_privs_1 ++ (lw_privs_2), lw_okq q
  exact List.forall_mem_append.mpr ⟨lw_r1, lw_r2⟩
-- ===== end of PART A; then your names; then what follows =====
/-! ===== BEGIN printed: names, fields, word lists, decode rows ===== -/
def RX0 : String := "PisteLine$Bout"
def TX0 : u_T := fun k => match k with
  | 0 => ("PisteLine$Bout", "isOfPool", "Z", true)
  | 1 => ("PisteLine$Bout", "first", "I", false)
  | 2 => ("PisteLine$Bout", "second", "I", false)
  | 3 => ("PisteLine$Bout", "row", "[LPisteLine$Phrase;", true)
  | 4 => ("PisteLine$Bout", "ended", "I", false)
  | 5 => ("PisteLine$Bout", "appealsOfFirst", "I", false)
  | 6 => ("PisteLine$Bout", "appealsOfSecond", "I", false)
  | _ => ("PisteLine$Bout", "kept", "LPisteLine$Tally;", true)
def tyX0 : Nat → FieldType := fun k => match k with
  | 0 => .boolean
  | 1 => .int
  | 2 => .int
  | 3 => .array (.object "PisteLine$Phrase")
  | 4 => .int
  | 5 => .int
  | 6 => .int
  | _ => .object "PisteLine$Tally"
abbrev wsX00 : List Cond := u_ws RX0 TX0 8
theorem nmX0 : ∀ a, a < 8 → ∀ b, b < 8 → a ≠ b → (TX0 a).2.1 ≠ (TX0 b).2.1 := by decide +kernel
theorem tyX0_ok : ∀ k, k < 8 → parseFieldDescriptor (TX0 k).2.2.1 = some (tyX0 k) := by decide +kernel
abbrev cX0_init : ByteArray := prog_2_method_1_code
def yX0_init : MethodName := ⟨RX0, "<init>", "(ZII)V"⟩
abbrev cX0_fencerAt : ByteArray := prog_2_method_2_code
def yX0_fencerAt : MethodName := ⟨RX0, "fencerAt", "(I)I"⟩
abbrev cX0_phraseAt : ByteArray := prog_2_method_3_code
def yX0_phraseAt : MethodName := ⟨RX0, "phraseAt", "(I)LPisteLine$Phrase;"⟩
abbrev cX0_keep : ByteArray := prog_2_method_4_code
def yX0_keep : MethodName := ⟨RX0, "keep", "(LPisteLine$Phrase;)V"⟩
abbrev cX0_forget : ByteArray := prog_2_method_5_code
def yX0_forget : MethodName := ⟨RX0, "forget", "()V"⟩
abbrev cX0_touchesLeft : ByteArray := prog_2_method_6_code
def yX0_touchesLeft : MethodName := ⟨RX0, "touchesLeft", "(LPisteLine$Phrase;)I"⟩
abbrev cX0_recount : ByteArray := prog_2_method_7_code
def yX0_recount : MethodName := ⟨RX0, "recount", "()V"⟩
abbrev cX0_countAnew : ByteArray := prog_2_method_8_code
def yX0_countAnew : MethodName := ⟨RX0, "countAnew", "(LPisteLine$Tally;)V"⟩
abbrev cX0_appealsLeft : ByteArray := prog_2_method_9_code
def yX0_appealsLeft : MethodName := ⟨RX0, "appealsLeft", "(I)I"⟩
abbrev cX0_useAppeal : ByteArray := prog_2_method_10_code
def yX0_useAppeal : MethodName := ⟨RX0, "useAppeal", "(I)V"⟩
abbrev cX0_winningSide : ByteArray := prog_2_method_11_code
def yX0_winningSide : MethodName := ⟨RX0, "winningSide", "()I"⟩
abbrev cX0_winningFencer : ByteArray := prog_2_method_12_code
def yX0_winningFencer : MethodName := ⟨RX0, "winningFencer", "()I"⟩
abbrev cX0_canBeFenced : ByteArray := prog_2_method_13_code
def yX0_canBeFenced : MethodName := ⟨RX0, "canBeFenced", "()Z"⟩
def RX1 : String := "PisteLine$Fencer"
def TX1 : u_T := fun k => match k with
  | 0 => ("PisteLine$Fencer", "number", "I", true)
  | 1 => ("PisteLine$Fencer", "bouts", "I", false)
  | 2 => ("PisteLine$Fencer", "victories", "I", false)
  | 3 => ("PisteLine$Fencer", "given", "I", false)
  | _ => ("PisteLine$Fencer", "got", "I", false)
def tyX1 : Nat → FieldType := fun k => match k with
  | 0 => .int
  | 1 => .int
  | 2 => .int
  | 3 => .int
  | _ => .int
abbrev wsX10 : List Cond := u_ws RX1 TX1 5
theorem nmX1 : ∀ a, a < 5 → ∀ b, b < 5 → a ≠ b → (TX1 a).2.1 ≠ (TX1 b).2.1 := by decide +kernel
theorem tyX1_ok : ∀ k, k < 5 → parseFieldDescriptor (TX1 k).2.2.1 = some (tyX1 k) := by decide +kernel
abbrev cX1_init : ByteArray := prog_3_method_1_code
def yX1_init : MethodName := ⟨RX1, "<init>", "(I)V"⟩
abbrev cX1_clear : ByteArray := prog_3_method_2_code
def yX1_clear : MethodName := ⟨RX1, "clear", "()V"⟩
abbrev cX1_add : ByteArray := prog_3_method_3_code
def yX1_add : MethodName := ⟨RX1, "add", "(IIZ)V"⟩
abbrev cX1_difference : ByteArray := prog_3_method_4_code
def yX1_difference : MethodName := ⟨RX1, "difference", "()I"⟩
abbrev cX1_isAheadOf : ByteArray := prog_3_method_5_code
def yX1_isAheadOf : MethodName := ⟨RX1, "isAheadOf", "(LPisteLine$Fencer;)Z"⟩
def RX2 : String := "PisteLine$Phrase"
def TX2 : u_T := fun k => match k with
  | 0 => ("PisteLine$Phrase", "isFoil", "Z", true)
  | 1 => ("PisteLine$Phrase", "first", "LPisteLine$Weapon;", true)
  | 2 => ("PisteLine$Phrase", "second", "LPisteLine$Weapon;", true)
  | 3 => ("PisteLine$Phrase", "kinds", "[I", true)
  | 4 => ("PisteLine$Phrase", "sides", "[I", true)
  | 5 => ("PisteLine$Phrase", "times", "[I", true)
  | 6 => ("PisteLine$Phrase", "events", "I", false)
  | 7 => ("PisteLine$Phrase", "hasBenchTold", "Z", false)
  | 8 => ("PisteLine$Phrase", "benchRight", "I", false)
  | _ => ("PisteLine$Phrase", "given", "I", false)
def tyX2 : Nat → FieldType := fun k => match k with
  | 0 => .boolean
  | 1 => .object "PisteLine$Weapon"
  | 2 => .object "PisteLine$Weapon"
  | 3 => .array .int
  | 4 => .array .int
  | 5 => .array .int
  | 6 => .int
  | 7 => .boolean
  | 8 => .int
  | _ => .int
abbrev wsX20 : List Cond := u_ws RX2 TX2 10
theorem nmX2 : ∀ a, a < 10 → ∀ b, b < 10 → a ≠ b → (TX2 a).2.1 ≠ (TX2 b).2.1 := by decide +kernel
theorem tyX2_ok : ∀ k, k < 10 → parseFieldDescriptor (TX2 k).2.2.1 = some (tyX2 k) := by decide +kernel
abbrev cX2_init : ByteArray := prog_4_method_1_code
def yX2_init : MethodName := ⟨RX2, "<init>", "(ZLPisteLine$Weapon;LPisteLine$Weapon;)V"⟩
abbrev cX2_isFull : ByteArray := prog_4_method_2_code
def yX2_isFull : MethodName := ⟨RX2, "isFull", "()Z"⟩
abbrev cX2_latestTime : ByteArray := prog_4_method_3_code
def yX2_latestTime : MethodName := ⟨RX2, "latestTime", "()I"⟩
abbrev cX2_hear : ByteArray := prog_4_method_4_code
def yX2_hear : MethodName := ⟨RX2, "hear", "(III)V"⟩
abbrev cX2_tellRight : ByteArray := prog_4_method_5_code
def yX2_tellRight : MethodName := ⟨RX2, "tellRight", "(I)V"⟩
abbrev cX2_judge : ByteArray := prog_4_method_6_code
def yX2_judge : MethodName := ⟨RX2, "judge", "()I"⟩
abbrev cX2_withoutStruck : ByteArray := prog_4_method_7_code
def yX2_withoutStruck : MethodName := ⟨RX2, "withoutStruck", "(IZ)I"⟩
abbrev cX2_isALight : ByteArray := prog_4_method_8_code
def yX2_isALight : MethodName := ⟨RX2, "isALight", "(I)Z"⟩
abbrev cX2_firstLight : ByteArray := prog_4_method_9_code
def yX2_firstLight : MethodName := ⟨RX2, "firstLight", "()I"⟩
abbrev cX2_otherLight : ByteArray := prog_4_method_10_code
def yX2_otherLight : MethodName := ⟨RX2, "otherLight", "(I)I"⟩
abbrev cX2_rightAt : ByteArray := prog_4_method_11_code
def yX2_rightAt : MethodName := ⟨RX2, "rightAt", "(I)I"⟩
abbrev cX2_touchOf : ByteArray := prog_4_method_12_code
def yX2_touchOf : MethodName := ⟨RX2, "touchOf", "(I)I"⟩
def RX3 : String := "PisteLine$Piste"
def TX3 : u_T := fun k => match k with
  | 0 => ("PisteLine$Piste", "number", "I", false)
  | 1 => ("PisteLine$Piste", "bout", "LPisteLine$Bout;", false)
  | 2 => ("PisteLine$Piste", "first", "LPisteLine$Weapon;", false)
  | 3 => ("PisteLine$Piste", "second", "LPisteLine$Weapon;", false)
  | 4 => ("PisteLine$Piste", "running", "LPisteLine$Phrase;", false)
  | _ => ("PisteLine$Piste", "hasEnded", "Z", false)
def tyX3 : Nat → FieldType := fun k => match k with
  | 0 => .int
  | 1 => .object "PisteLine$Bout"
  | 2 => .object "PisteLine$Weapon"
  | 3 => .object "PisteLine$Weapon"
  | 4 => .object "PisteLine$Phrase"
  | _ => .boolean
abbrev wsX30 : List Cond := u_ws RX3 TX3 6
theorem nmX3 : ∀ a, a < 6 → ∀ b, b < 6 → a ≠ b → (TX3 a).2.1 ≠ (TX3 b).2.1 := by decide +kernel
theorem tyX3_ok : ∀ k, k < 6 → parseFieldDescriptor (TX3 k).2.2.1 = some (tyX3 k) := by decide +kernel
abbrev cX3_init : ByteArray := prog_5_method_1_code
def yX3_init : MethodName := ⟨RX3, "<init>", "()V"⟩
abbrev cX3_take : ByteArray := prog_5_method_2_code
def yX3_take : MethodName := ⟨RX3, "take", "(ILPisteLine$Bout;LPisteLine$Weapon;LPisteLine$Weapon;)V"⟩
abbrev cX3_empty : ByteArray := prog_5_method_3_code
def yX3_empty : MethodName := ⟨RX3, "empty", "()V"⟩
abbrev cX3_weaponNumber : ByteArray := prog_5_method_4_code
def yX3_weaponNumber : MethodName := ⟨RX3, "weaponNumber", "(I)I"⟩
abbrev cX3_arm : ByteArray := prog_5_method_5_code
def yX3_arm : MethodName := ⟨RX3, "arm", "(ILPisteLine$Weapon;)V"⟩
def RX4 : String := "PisteLine$Tableau"
def TX4 : u_T := fun k => match k with
  | 0 => ("PisteLine$Tableau", "extent", "I", false)
  | 1 => ("PisteLine$Tableau", "goneBouts", "I", false)
  | 2 => ("PisteLine$Tableau", "seeds", "[I", true)
  | 3 => ("PisteLine$Tableau", "winners", "[I", true)
  | _ => ("PisteLine$Tableau", "bouts", "[LPisteLine$Bout;", true)
def tyX4 : Nat → FieldType := fun k => match k with
  | 0 => .int
  | 1 => .int
  | 2 => .array .int
  | 3 => .array .int
  | _ => .array (.object "PisteLine$Bout")
abbrev wsX40 : List Cond := u_ws RX4 TX4 5
theorem nmX4 : ∀ a, a < 5 → ∀ b, b < 5 → a ≠ b → (TX4 a).2.1 ≠ (TX4 b).2.1 := by decide +kernel
theorem tyX4_ok : ∀ k, k < 5 → parseFieldDescriptor (TX4 k).2.2.1 = some (tyX4 k) := by decide +kernel
abbrev cX4_init : ByteArray := prog_6_method_1_code
def yX4_init : MethodName := ⟨RX4, "<init>", "()V"⟩
abbrev cX4_isDrawn : ByteArray := prog_6_method_2_code
def yX4_isDrawn : MethodName := ⟨RX4, "isDrawn", "()Z"⟩
abbrev cX4_hasNode : ByteArray := prog_6_method_3_code
def yX4_hasNode : MethodName := ⟨RX4, "hasNode", "(I)Z"⟩
abbrev cX4_winnerAt : ByteArray := prog_6_method_4_code
def yX4_winnerAt : MethodName := ⟨RX4, "winnerAt", "(I)I"⟩
abbrev cX4_boutAt : ByteArray := prog_6_method_5_code
def yX4_boutAt : MethodName := ⟨RX4, "boutAt", "(I)LPisteLine$Bout;"⟩
abbrev cX4_lay : ByteArray := prog_6_method_6_code
def yX4_lay : MethodName := ⟨RX4, "lay", "(I)V"⟩
abbrev cX4_laySeeds : ByteArray := prog_6_method_7_code
def yX4_laySeeds : MethodName := ⟨RX4, "laySeeds", "()V"⟩
abbrev cX4_seat : ByteArray := prog_6_method_8_code
def yX4_seat : MethodName := ⟨RX4, "seat", "(II)V"⟩
abbrev cX4_recount : ByteArray := prog_6_method_9_code
def yX4_recount : MethodName := ⟨RX4, "recount", "()V"⟩
abbrev cX4_settle : ByteArray := prog_6_method_10_code
def yX4_settle : MethodName := ⟨RX4, "settle", "(LPisteLine$Piste;)V"⟩
abbrev cX4_winnerNow : ByteArray := prog_6_method_11_code
def yX4_winnerNow : MethodName := ⟨RX4, "winnerNow", "(ILPisteLine$Bout;)I"⟩
abbrev cX4_drop : ByteArray := prog_6_method_12_code
def yX4_drop : MethodName := ⟨RX4, "drop", "(LPisteLine$Bout;LPisteLine$Piste;)V"⟩
def RX5 : String := "PisteLine$Tally"
def TX5 : u_T := fun k => match k with
  | 0 => ("PisteLine$Tally", "goal", "I", false)
  | 1 => ("PisteLine$Tally", "first", "I", false)
  | _ => ("PisteLine$Tally", "second", "I", false)
def tyX5 : Nat → FieldType := fun k => match k with
  | 0 => .int
  | 1 => .int
  | _ => .int
abbrev wsX50 : List Cond := u_ws RX5 TX5 3
theorem nmX5 : ∀ a, a < 3 → ∀ b, b < 3 → a ≠ b → (TX5 a).2.1 ≠ (TX5 b).2.1 := by decide +kernel
theorem tyX5_ok : ∀ k, k < 3 → parseFieldDescriptor (TX5 k).2.2.1 = some (tyX5 k) := by decide +kernel
abbrev cX5_init : ByteArray := prog_7_method_1_code
def yX5_init : MethodName := ⟨RX5, "<init>", "()V"⟩
abbrev cX5_restart : ByteArray := prog_7_method_2_code
def yX5_restart : MethodName := ⟨RX5, "restart", "(I)V"⟩
abbrev cX5_isAtGoal : ByteArray := prog_7_method_3_code
def yX5_isAtGoal : MethodName := ⟨RX5, "isAtGoal", "()Z"⟩
abbrev cX5_add : ByteArray := prog_7_method_4_code
def yX5_add : MethodName := ⟨RX5, "add", "(I)V"⟩
abbrev cX5_of : ByteArray := prog_7_method_5_code
def yX5_of : MethodName := ⟨RX5, "of", "(I)I"⟩
def RX6 : String := "PisteLine$Weapon"
def TX6 : u_T := fun k => match k with
  | 0 => ("PisteLine$Weapon", "number", "I", true)
  | 1 => ("PisteLine$Weapon", "holder", "I", true)
  | 2 => ("PisteLine$Weapon", "state", "I", false)
  | _ => ("PisteLine$Weapon", "hasFailedInPools", "Z", false)
def tyX6 : Nat → FieldType := fun k => match k with
  | 0 => .int
  | 1 => .int
  | 2 => .int
  | _ => .boolean
abbrev wsX60 : List Cond := u_ws RX6 TX6 4
theorem nmX6 : ∀ a, a < 4 → ∀ b, b < 4 → a ≠ b → (TX6 a).2.1 ≠ (TX6 b).2.1 := by decide +kernel
theorem tyX6_ok : ∀ k, k < 4 → parseFieldDescriptor (TX6 k).2.2.1 = some (tyX6 k) := by decide +kernel
abbrev cX6_init : ByteArray := prog_8_method_1_code
def yX6_init : MethodName := ⟨RX6, "<init>", "(II)V"⟩
abbrev cX6_isMarkedFor : ByteArray := prog_8_method_2_code
def yX6_isMarkedFor : MethodName := ⟨RX6, "isMarkedFor", "(I)Z"⟩
abbrev cX6_isFalse : ByteArray := prog_8_method_3_code
def yX6_isFalse : MethodName := ⟨RX6, "isFalse", "(Z)Z"⟩
def RX7 : String := "PisteLine"
def TX7 : u_T := fun k => match k with
  | 0 => ("PisteLine", "isFoil", "Z", true)
  | 1 => ("PisteLine", "fencerRow", "[LPisteLine$Fencer;", true)
  | 2 => ("PisteLine", "fencerCount", "I", false)
  | 3 => ("PisteLine", "weaponRow", "[LPisteLine$Weapon;", true)
  | 4 => ("PisteLine", "weaponCount", "I", false)
  | 5 => ("PisteLine", "poolRow", "[LPisteLine$Bout;", true)
  | 6 => ("PisteLine", "poolBoutCount", "I", false)
  | 7 => ("PisteLine", "ground", "LPisteLine$Piste;", true)
  | 8 => ("PisteLine", "tableau", "LPisteLine$Tableau;", true)
  | _ => ("PisteLine", "tallyAnew", "LPisteLine$Tally;", true)
def tyX7 : Nat → FieldType := fun k => match k with
  | 0 => .boolean
  | 1 => .array (.object "PisteLine$Fencer")
  | 2 => .int
  | 3 => .array (.object "PisteLine$Weapon")
  | 4 => .int
  | 5 => .array (.object "PisteLine$Bout")
  | 6 => .int
  | 7 => .object "PisteLine$Piste"
  | 8 => .object "PisteLine$Tableau"
  | _ => .object "PisteLine$Tally"
abbrev wsX70 : List Cond := u_ws RX7 TX7 10
theorem nmX7 : ∀ a, a < 10 → ∀ b, b < 10 → a ≠ b → (TX7 a).2.1 ≠ (TX7 b).2.1 := by decide +kernel
theorem tyX7_ok : ∀ k, k < 10 → parseFieldDescriptor (TX7 k).2.2.1 = some (tyX7 k) := by decide +kernel
abbrev cX7_init : ByteArray := prog_1_method_1_code
def yX7_init : MethodName := ⟨RX7, "<init>", "(I)V"⟩
abbrev cX7_fencer : ByteArray := prog_1_method_2_code
def yX7_fencer : MethodName := ⟨RX7, "fencer", "()I"⟩
abbrev cX7_weapon : ByteArray := prog_1_method_3_code
def yX7_weapon : MethodName := ⟨RX7, "weapon", "(I)I"⟩
abbrev cX7_test : ByteArray := prog_1_method_4_code
def yX7_test : MethodName := ⟨RX7, "test", "(III)Z"⟩
abbrev cX7_mark : ByteArray := prog_1_method_6_code
def yX7_mark : MethodName := ⟨RX7, "mark", "(I)I"⟩
abbrev cX7_owner : ByteArray := prog_1_method_7_code
def yX7_owner : MethodName := ⟨RX7, "owner", "(I)I"⟩
abbrev cX7_begin : ByteArray := prog_1_method_8_code
def yX7_begin : MethodName := ⟨RX7, "begin", "(III)I"⟩
abbrev cX7_change : ByteArray := prog_1_method_9_code
def yX7_change : MethodName := ⟨RX7, "change", "(II)I"⟩
abbrev cX7_allez : ByteArray := prog_1_method_10_code
def yX7_allez : MethodName := ⟨RX7, "allez", "()I"⟩
abbrev cX7_contact : ByteArray := prog_1_method_11_code
def yX7_contact : MethodName := ⟨RX7, "contact", "(IZI)I"⟩
abbrev cX7_right : ByteArray := prog_1_method_12_code
def yX7_right : MethodName := ⟨RX7, "right", "(II)I"⟩
abbrev cX7_halt : ByteArray := prog_1_method_13_code
def yX7_halt : MethodName := ⟨RX7, "halt", "()I"⟩
abbrev cX7_appeal : ByteArray := prog_1_method_14_code
def yX7_appeal : MethodName := ⟨RX7, "appeal", "(II)I"⟩
abbrev cX7_piste : ByteArray := prog_1_method_15_code
def yX7_piste : MethodName := ⟨RX7, "piste", "()I"⟩
abbrev cX7_isFencing : ByteArray := prog_1_method_16_code
def yX7_isFencing : MethodName := ⟨RX7, "isFencing", "()Z"⟩
abbrev cX7_weaponOf : ByteArray := prog_1_method_17_code
def yX7_weaponOf : MethodName := ⟨RX7, "weaponOf", "(I)I"⟩
abbrev cX7_fencerOf : ByteArray := prog_1_method_18_code
def yX7_fencerOf : MethodName := ⟨RX7, "fencerOf", "(II)I"⟩
abbrev cX7_score : ByteArray := prog_1_method_19_code
def yX7_score : MethodName := ⟨RX7, "score", "(II)I"⟩
abbrev cX7_scoreAnew : ByteArray := prog_1_method_20_code
def yX7_scoreAnew : MethodName := ⟨RX7, "scoreAnew", "(II)I"⟩
abbrev cX7_winner : ByteArray := prog_1_method_21_code
def yX7_winner : MethodName := ⟨RX7, "winner", "(I)I"⟩
abbrev cX7_phrases : ByteArray := prog_1_method_22_code
def yX7_phrases : MethodName := ⟨RX7, "phrases", "(I)I"⟩
abbrev cX7_touches : ByteArray := prog_1_method_23_code
def yX7_touches : MethodName := ⟨RX7, "touches", "(II)I"⟩
abbrev cX7_appeals : ByteArray := prog_1_method_24_code
def yX7_appeals : MethodName := ⟨RX7, "appeals", "(II)I"⟩
abbrev cX7_drawPools : ByteArray := prog_1_method_25_code
def yX7_drawPools : MethodName := ⟨RX7, "drawPools", "(I)I"⟩
abbrev cX7_won : ByteArray := prog_1_method_27_code
def yX7_won : MethodName := ⟨RX7, "won", "(I)I"⟩
abbrev cX7_index : ByteArray := prog_1_method_28_code
def yX7_index : MethodName := ⟨RX7, "index", "(I)I"⟩
abbrev cX7_rankedAt : ByteArray := prog_1_method_29_code
def yX7_rankedAt : MethodName := ⟨RX7, "rankedAt", "(I)I"⟩
abbrev cX7_drawTableau : ByteArray := prog_1_method_30_code
def yX7_drawTableau : MethodName := ⟨RX7, "drawTableau", "()I"⟩
abbrev cX7_size : ByteArray := prog_1_method_31_code
def yX7_size : MethodName := ⟨RX7, "size", "()I"⟩
abbrev cX7_nodeWinner : ByteArray := prog_1_method_32_code
def yX7_nodeWinner : MethodName := ⟨RX7, "nodeWinner", "(I)I"⟩
abbrev cX7_gone : ByteArray := prog_1_method_33_code
def yX7_gone : MethodName := ⟨RX7, "gone", "()I"⟩
abbrev cX7_isSide : ByteArray := prog_1_method_34_code
def yX7_isSide : MethodName := ⟨RX7, "isSide", "(I)Z"⟩
abbrev cX7_isSideOrNone : ByteArray := prog_1_method_35_code
def yX7_isSideOrNone : MethodName := ⟨RX7, "isSideOrNone", "(I)Z"⟩
abbrev cX7_isTooEarly : ByteArray := prog_1_method_36_code
def yX7_isTooEarly : MethodName := ⟨RX7, "isTooEarly", "(I)Z"⟩
abbrev cX7_arePoolsDrawn : ByteArray := prog_1_method_37_code
def yX7_arePoolsDrawn : MethodName := ⟨RX7, "arePoolsDrawn", "()Z"⟩
abbrev cX7_fencerAt : ByteArray := prog_1_method_38_code
def yX7_fencerAt : MethodName := ⟨RX7, "fencerAt", "(I)LPisteLine$Fencer;"⟩
abbrev cX7_weaponAt : ByteArray := prog_1_method_39_code
def yX7_weaponAt : MethodName := ⟨RX7, "weaponAt", "(I)LPisteLine$Weapon;"⟩
abbrev cX7_boutAt : ByteArray := prog_1_method_40_code
def yX7_boutAt : MethodName := ⟨RX7, "boutAt", "(I)LPisteLine$Bout;"⟩
abbrev cX7_fail : ByteArray := prog_1_method_41_code
def yX7_fail : MethodName := ⟨RX7, "fail", "(LPisteLine$Weapon;)V"⟩
abbrev cX7_drawPool : ByteArray := prog_1_method_42_code
def yX7_drawPool : MethodName := ⟨RX7, "drawPool", "(II)V"⟩
abbrev cX7_poolOf : ByteArray := prog_1_method_43_code
def yX7_poolOf : MethodName := ⟨RX7, "poolOf", "(II)I"⟩
abbrev cX7_addPoolBout : ByteArray := prog_1_method_44_code
def yX7_addPoolBout : MethodName := ⟨RX7, "addPoolBout", "(II)V"⟩
abbrev cX7_isAPoolBoutOpen : ByteArray := prog_1_method_45_code
def yX7_isAPoolBoutOpen : MethodName := ⟨RX7, "isAPoolBoutOpen", "()Z"⟩
abbrev cX7_countPools : ByteArray := prog_1_method_46_code
def yX7_countPools : MethodName := ⟨RX7, "countPools", "()V"⟩
abbrev cX7_countSide : ByteArray := prog_1_method_47_code
def yX7_countSide : MethodName := ⟨RX7, "countSide", "(LPisteLine$Bout;I)V"⟩
abbrev cX7_fencerInPlace : ByteArray := prog_1_method_48_code
def yX7_fencerInPlace : MethodName := ⟨RX7, "fencerInPlace", "(I)I"⟩
abbrev cX7_fencersAhead : ByteArray := prog_1_method_49_code
def yX7_fencersAhead : MethodName := ⟨RX7, "fencersAhead", "(LPisteLine$Fencer;)I"⟩
def RX8 : String := "PisteLineModel"
def TX8 : u_T := fun k => match k with
  | _ => ("", "", "", false)
def tyX8 : Nat → FieldType := fun k => match k with
  | _ => .int
abbrev wsX80 : List Cond := u_ws RX8 TX8 0
theorem nmX8 : ∀ a, a < 0 → ∀ b, b < 0 → a ≠ b → (TX8 a).2.1 ≠ (TX8 b).2.1 := by decide +kernel
theorem tyX8_ok : ∀ k, k < 0 → parseFieldDescriptor (TX8 k).2.2.1 = some (tyX8 k) := by decide +kernel
def RJ9 : String := "java/lang/Math"
def TJ9 : u_T := fun k => match k with
  | _ => ("", "", "", false)
def tyJ9 : Nat → FieldType := fun k => match k with
  | _ => .int
abbrev wsJ90 : List Cond := u_ws RJ9 TJ9 0
theorem nmJ9 : ∀ a, a < 0 → ∀ b, b < 0 → a ≠ b → (TJ9 a).2.1 ≠ (TJ9 b).2.1 := by decide +kernel
theorem tyJ9_ok : ∀ k, k < 0 → parseFieldDescriptor (TJ9 k).2.2.1 = some (tyJ9 k) := by decide +kernel
abbrev cJ9_max_7cf53 : ByteArray := prog_15_method_65_code
def yJ9_max_7cf53 : MethodName := ⟨RJ9, "max", "(II)I"⟩
def RJ0 : String := "java/lang/String"
def TJ0 : u_T := fun k => match k with
  | _ => ("", "", "", false)
def tyJ0 : Nat → FieldType := fun k => match k with
  | _ => .int
abbrev wsJ00 : List Cond := u_ws RJ0 TJ0 0
theorem nmJ0 : ∀ a, a < 0 → ∀ b, b < 0 → a ≠ b → (TJ0 a).2.1 ≠ (TJ0 b).2.1 := by decide +kernel
theorem tyJ0_ok : ∀ k, k < 0 → parseFieldDescriptor (TJ0 k).2.2.1 = some (tyJ0 k) := by decide +kernel
def RL : String := "PisteLineLaw"
abbrev cL_from : ByteArray := method_2_code
def yL_from : MethodName := ⟨RL, "from", "([III)I"⟩
abbrev cL_number : ByteArray := method_3_code
def yL_number : MethodName := ⟨RL, "number", "(I)I"⟩
abbrev cL_bits : ByteArray := method_4_code
def yL_bits : MethodName := ⟨RL, "bits", "([JIIII)I"⟩
abbrev cL_judge : ByteArray := method_5_code
def yL_judge : MethodName := ⟨RL, "judge", "([I[I[II)I"⟩
abbrev cL_strikes : ByteArray := method_6_code
def yL_strikes : MethodName := ⟨RL, "strikes", "([IIZ)Z"⟩
abbrev cL_touches : ByteArray := method_7_code
def yL_touches : MethodName := ⟨RL, "touches", "([I[JII)I"⟩
abbrev cL_told : ByteArray := method_8_code
def yL_told : MethodName := ⟨RL, "told", "([I[J[II)I"⟩
abbrev cL_fencer : ByteArray := method_9_code
def yL_fencer : MethodName := ⟨RL, "fencer", "([III)I"⟩
abbrev cL_winner : ByteArray := method_10_code
def yL_winner : MethodName := ⟨RL, "winner", "([I[J[I[II)I"⟩
abbrev cL_follow : ByteArray := method_11_code
def yL_follow : MethodName := ⟨RL, "follow", "([I[J[I[I[I[I)V"⟩
abbrev cL_sum : ByteArray := method_12_code
def yL_sum : MethodName := ⟨RL, "sum", "([I[J[I[IIZ)I"⟩
abbrev cL_isAhead : ByteArray := method_13_code
def yL_isAhead : MethodName := ⟨RL, "isAhead", "([I[J[I[III)Z"⟩
abbrev cL_ranked : ByteArray := method_14_code
def yL_ranked : MethodName := ⟨RL, "ranked", "([I[J[I[II)I"⟩
abbrev cL_isTold : ByteArray := method_15_code
def yL_isTold : MethodName := ⟨RL, "isTold", "(LPisteLine;[I[J[I[I[I[II)Z"⟩
abbrev cL_begun : ByteArray := method_16_code
def yL_begun : MethodName := ⟨RL, "begun", "(LPisteLine;III)I"⟩
abbrev cL_tested : ByteArray := method_17_code
def yL_tested : MethodName := ⟨RL, "tested", "(LPisteLine;III)I"⟩
abbrev cL_changed : ByteArray := method_18_code
def yL_changed : MethodName := ⟨RL, "changed", "(LPisteLine;II)I"⟩
abbrev cL_allez : ByteArray := method_19_code
def yL_allez : MethodName := ⟨RL, "allez", "(LPisteLine;)I"⟩
abbrev cL_heard : ByteArray := method_20_code
def yL_heard : MethodName := ⟨RL, "heard", "(LPisteLine;II)I"⟩
abbrev cL_halted : ByteArray := method_21_code
def yL_halted : MethodName := ⟨RL, "halted", "(LPisteLine;)I"⟩
abbrev cL_appealed : ByteArray := method_22_code
def yL_appealed : MethodName := ⟨RL, "appealed", "(LPisteLine;II)I"⟩
abbrev cL_drawn : ByteArray := method_23_code
def yL_drawn : MethodName := ⟨RL, "drawn", "(LPisteLine;)I"⟩
abbrev cL_armed : ByteArray := method_24_code
def yL_armed : MethodName := ⟨RL, "armed", "(LPisteLine;[I[III)I"⟩
abbrev cL_isBegun : ByteArray := method_25_code
def yL_isBegun : MethodName := ⟨RL, "isBegun", "(LPisteLine;[I[J[I[I[II)Z"⟩
abbrev cL_isFenced : ByteArray := method_26_code
def yL_isFenced : MethodName := ⟨RL, "isFenced", "(LPisteLine;[I[J[I[I[I[I[I[I[III)Z"⟩
abbrev cL_isAppealed : ByteArray := method_27_code
def yL_isAppealed : MethodName := ⟨RL, "isAppealed", "(LPisteLine;[I[J[I[I[I[II)Z"⟩
abbrev cL_acts : ByteArray := method_28_code
def yL_acts : MethodName := ⟨RL, "acts", "(LPisteLine;[I[J[I[I[I[I[I[I[IIII)Z"⟩
abbrev cL_holds : ByteArray := method_29_code
def yL_holds : MethodName := ⟨RL, "holds", "([I)Z"⟩
abbrev cL_isHeld : ByteArray := method_30_code
def yL_isHeld : MethodName := ⟨RL, "isHeld", "([I)Z"⟩
abbrev cL_law : ByteArray := code
def yL_law : MethodName := ⟨RL, "law", "([I)Z"⟩
abbrev vwCl : List vw_C := [(RX0, TX0, 8), (RX1, TX1, 5), (RX2, TX2, 10), (RX3, TX3, 6), (RX4, TX4, 5), (RX5, TX5, 3), (RX6, TX6, 4), (RX7, TX7, 10)]
/-- the texts of the exceptions -/
def strL : List (Nat × String) := [(62, "the hall is full, or the pools are drawn"), (76, "no such fencer"), (82, "there are as many weapons as there may be"), (91, "no such weapon"), (95, "weight or travel is out of range"), (105, "the weapon has failed, or a phrase is on"), (118, "no such bout or weapon"), (123, "a phrase is on, or the bout can't be fenced"), (135, "a weapon is not marked, or of another fencer"), (147, "no such side or weapon"), (153, "the piste is empty, or a phrase is on"), (158, "the weapon is not marked, or of another fencer"), (172, "the bout is decided, or a weapon is not marked"), (179, "no such side"), (184, "the time is below 0, or of the event ahead"), (189, "no phrase is on, or it is full"), (201, "the side or the time is out of range"), (203, "no phrase is on"), (227, "the right is out of range"), (229, "there is no phrase to appeal as to"), (238, "the side has no appeal left"), (252, "no such bout or side"), (264, "no such bout"), (275, "no such phrase has ended"), (277, "the number of pools is out of range"), (279, "the pools are drawn, or one would be too small"), (296, "no such place"), (304, "the pools are not drawn, or a bout of them is open"), (309, "the tableau is drawn, or a phrase is on"), (326, "no such node")]
