section
/-! the tables' words and the private methods (starting text: the skeleton's part A) -/
-- ===== PART A: goes FIRST, ahead of the names: the tables' words, and 'selects' of the private methods out of them =====
/-- a private method of a class that the tables say can be made, by its rows of tables_1 -/
def lw_okq (q : MethodName × Nat) : Prop := (q.1.cls ≠ "java/lang/invoke/MethodHandle" ∧ q.1.cls ≠ "java/lang/invoke/VarHandle") ∧ Cond.instantiable q.1.cls q.2 ∈ tables_1 ∧ Cond.privateMethod q.1 ∈ tables_1 ∧ Cond.instanceMethod q.1 ∈ tables_1
theorem lw_p0 : lw_okq (⟨"LetterAuction$Desk", "has", "(II)Z"⟩, 3) := ⟨⟨by decide +kernel, by decide +kernel⟩, List.mem_of_getElem? (i := 63) (by decide +kernel), List.mem_of_getElem? (i := 123) (by decide +kernel), List.mem_of_getElem? (i := 124) (by decide +kernel)⟩
theorem lw_p1 : lw_okq (⟨"LetterAuction", "isIndex", "(I)Z"⟩, 6) := ⟨⟨by decide +kernel, by decide +kernel⟩, List.mem_of_getElem? (i := 15) (by decide +kernel), List.mem_of_getElem? (i := 139) (by decide +kernel), List.mem_of_getElem? (i := 140) (by decide +kernel)⟩
theorem lw_p2 : lw_okq (⟨"java/lang/Throwable", "fillInStackTrace", "(I)Ljava/lang/Throwable;"⟩, 6) := ⟨⟨by decide +kernel, by decide +kernel⟩, List.mem_of_getElem? (i := 184) (by decide +kernel), List.mem_of_getElem? (i := 182) (by decide +kernel), List.mem_of_getElem? (i := 183) (by decide +kernel)⟩
theorem lw_p3 : lw_okq (⟨"LetterAuction", "isDone", "()Z"⟩, 6) := ⟨⟨by decide +kernel, by decide +kernel⟩, List.mem_of_getElem? (i := 15) (by decide +kernel), List.mem_of_getElem? (i := 214) (by decide +kernel), List.mem_of_getElem? (i := 215) (by decide +kernel)⟩
theorem lw_p4 : lw_okq (⟨"LetterAuction$Post", "clear", "()V"⟩, 2) := ⟨⟨by decide +kernel, by decide +kernel⟩, List.mem_of_getElem? (i := 82) (by decide +kernel), List.mem_of_getElem? (i := 238) (by decide +kernel), List.mem_of_getElem? (i := 239) (by decide +kernel)⟩
theorem lw_p5 : lw_okq (⟨"LetterAuction$Desk", "dismiss", "()V"⟩, 3) := ⟨⟨by decide +kernel, by decide +kernel⟩, List.mem_of_getElem? (i := 63) (by decide +kernel), List.mem_of_getElem? (i := 242) (by decide +kernel), List.mem_of_getElem? (i := 243) (by decide +kernel)⟩
theorem lw_p6 : lw_okq (⟨"LetterAuction$Crew", "release", "()V"⟩, 6) := ⟨⟨by decide +kernel, by decide +kernel⟩, List.mem_of_getElem? (i := 32) (by decide +kernel), List.mem_of_getElem? (i := 246) (by decide +kernel), List.mem_of_getElem? (i := 247) (by decide +kernel)⟩
theorem lw_p7 : lw_okq (⟨"LetterAuction$Crew", "chooseBid", "(I)V"⟩, 6) := ⟨⟨by decide +kernel, by decide +kernel⟩, List.mem_of_getElem? (i := 32) (by decide +kernel), List.mem_of_getElem? (i := 259) (by decide +kernel), List.mem_of_getElem? (i := 260) (by decide +kernel)⟩
theorem lw_p8 : lw_okq (⟨"LetterAuction$Crew", "bestJobBut", "(I)I"⟩, 6) := ⟨⟨by decide +kernel, by decide +kernel⟩, List.mem_of_getElem? (i := 32) (by decide +kernel), List.mem_of_getElem? (i := 263) (by decide +kernel), List.mem_of_getElem? (i := 264) (by decide +kernel)⟩
theorem lw_p9 : lw_okq (⟨"LetterAuction$Crew", "valueOf", "(I)I"⟩, 6) := ⟨⟨by decide +kernel, by decide +kernel⟩, List.mem_of_getElem? (i := 32) (by decide +kernel), List.mem_of_getElem? (i := 267) (by decide +kernel), List.mem_of_getElem? (i := 268) (by decide +kernel)⟩
theorem lw_p10 : lw_okq (⟨"LetterAuction$Crew", "scaledWorth", "(I)I"⟩, 6) := ⟨⟨by decide +kernel, by decide +kernel⟩, List.mem_of_getElem? (i := 32) (by decide +kernel), List.mem_of_getElem? (i := 271) (by decide +kernel), List.mem_of_getElem? (i := 272) (by decide +kernel)⟩
theorem lw_p11 : lw_okq (⟨"LetterAuction", "sendBid", "(I)V"⟩, 6) := ⟨⟨by decide +kernel, by decide +kernel⟩, List.mem_of_getElem? (i := 15) (by decide +kernel), List.mem_of_getElem? (i := 275) (by decide +kernel), List.mem_of_getElem? (i := 276) (by decide +kernel)⟩
theorem lw_p12 : lw_okq (⟨"LetterAuction$Post", "add", "(IIIII)V"⟩, 2) := ⟨⟨by decide +kernel, by decide +kernel⟩, List.mem_of_getElem? (i := 82) (by decide +kernel), List.mem_of_getElem? (i := 279) (by decide +kernel), List.mem_of_getElem? (i := 280) (by decide +kernel)⟩
theorem lw_p13 : lw_okq (⟨"LetterAuction", "requireLetter", "(I)V"⟩, 6) := ⟨⟨by decide +kernel, by decide +kernel⟩, List.mem_of_getElem? (i := 15) (by decide +kernel), List.mem_of_getElem? (i := 298) (by decide +kernel), List.mem_of_getElem? (i := 299) (by decide +kernel)⟩
theorem lw_p14 : lw_okq (⟨"LetterAuction$Post", "part", "(II)I"⟩, 2) := ⟨⟨by decide +kernel, by decide +kernel⟩, List.mem_of_getElem? (i := 82) (by decide +kernel), List.mem_of_getElem? (i := 318) (by decide +kernel), List.mem_of_getElem? (i := 319) (by decide +kernel)⟩
theorem lw_p15 : lw_okq (⟨"LetterAuction$Post", "remove", "(I)V"⟩, 2) := ⟨⟨by decide +kernel, by decide +kernel⟩, List.mem_of_getElem? (i := 82) (by decide +kernel), List.mem_of_getElem? (i := 322) (by decide +kernel), List.mem_of_getElem? (i := 323) (by decide +kernel)⟩
def lw_privs_1 : List (MethodName × Nat) := [(⟨"LetterAuction$Desk", "has", "(II)Z"⟩, 3), (⟨"LetterAuction", "isIndex", "(I)Z"⟩, 6), (⟨"java/lang/Throwable", "fillInStackTrace", "(I)Ljava/lang/Throwable;"⟩, 6), (⟨"LetterAuction", "isDone", "()Z"⟩, 6), (⟨"LetterAuction$Post", "clear", "()V"⟩, 2), (⟨"LetterAuction$Desk", "dismiss", "()V"⟩, 3), (⟨"LetterAuction$Crew", "release", "()V"⟩, 6), (⟨"LetterAuction$Crew", "chooseBid", "(I)V"⟩, 6), (⟨"LetterAuction$Crew", "bestJobBut", "(I)I"⟩, 6), (⟨"LetterAuction$Crew", "valueOf", "(I)I"⟩, 6), (⟨"LetterAuction$Crew", "scaledWorth", "(I)I"⟩, 6), (⟨"LetterAuction", "sendBid", "(I)V"⟩, 6), (⟨"LetterAuction$Post", "add", "(IIIII)V"⟩, 2), (⟨"LetterAuction", "requireLetter", "(I)V"⟩, 6), (⟨"LetterAuction$Post", "part", "(II)I"⟩, 2), (⟨"LetterAuction$Post", "remove", "(I)V"⟩, 2)]
theorem lw_r1 : ∀ q ∈ lw_privs_1, lw_okq q := List.forall_mem_cons.mpr ⟨lw_p0, List.forall_mem_cons.mpr ⟨lw_p1, List.forall_mem_cons.mpr ⟨lw_p2, List.forall_mem_cons.mpr ⟨lw_p3, List.forall_mem_cons.mpr ⟨lw_p4, List.forall_mem_cons.mpr ⟨lw_p5, List.forall_mem_cons.mpr ⟨lw_p6, List.forall_mem_cons.mpr ⟨lw_p7, List.forall_mem_cons.mpr ⟨lw_p8, List.forall_mem_cons.mpr ⟨lw_p9, List.forall_mem_cons.mpr ⟨lw_p10, List.forall_mem_cons.mpr ⟨lw_p11, List.forall_mem_cons.mpr ⟨lw_p12, List.forall_mem_cons.mpr ⟨lw_p13, List.forall_mem_cons.mpr ⟨lw_p14, List.forall_mem_cons.mpr ⟨lw_p15, fun _ h => absurd h List.not_mem_nil⟩⟩⟩⟩⟩⟩⟩⟩⟩⟩⟩⟩⟩⟩⟩⟩
theorem lw_p16 : lw_okq (⟨"LetterAuction", "receiveBid", "(IIII)V"⟩, 6) := ⟨⟨by decide +kernel, by decide +kernel⟩, List.mem_of_getElem? (i := 15) (by decide +kernel), List.mem_of_getElem? (i := 329) (by decide +kernel), List.mem_of_getElem? (i := 330) (by decide +kernel)⟩
theorem lw_p17 : lw_okq (⟨"LetterAuction", "sendAnswer", "(IIII)V"⟩, 6) := ⟨⟨by decide +kernel, by decide +kernel⟩, List.mem_of_getElem? (i := 15) (by decide +kernel), List.mem_of_getElem? (i := 333) (by decide +kernel), List.mem_of_getElem? (i := 334) (by decide +kernel)⟩
theorem lw_p18 : lw_okq (⟨"LetterAuction$Crew", "learn", "(II)V"⟩, 6) := ⟨⟨by decide +kernel, by decide +kernel⟩, List.mem_of_getElem? (i := 32) (by decide +kernel), List.mem_of_getElem? (i := 337) (by decide +kernel), List.mem_of_getElem? (i := 338) (by decide +kernel)⟩
theorem lw_p19 : lw_okq (⟨"LetterAuction$Crew", "hear", "(II)V"⟩, 6) := ⟨⟨by decide +kernel, by decide +kernel⟩, List.mem_of_getElem? (i := 32) (by decide +kernel), List.mem_of_getElem? (i := 342) (by decide +kernel), List.mem_of_getElem? (i := 343) (by decide +kernel)⟩
theorem lw_p20 : lw_okq (⟨"LetterAuction", "profitOf", "(LLetterAuction$Crew;)I"⟩, 6) := ⟨⟨by decide +kernel, by decide +kernel⟩, List.mem_of_getElem? (i := 15) (by decide +kernel), List.mem_of_getElem? (i := 375) (by decide +kernel), List.mem_of_getElem? (i := 376) (by decide +kernel)⟩
theorem lw_p21 : lw_okq (⟨"LetterAuctionModel", "clean", "()V"⟩, 15) := ⟨⟨by decide +kernel, by decide +kernel⟩, List.mem_of_getElem? (i := 422) (by decide +kernel), List.mem_of_getElem? (i := 428) (by decide +kernel), List.mem_of_getElem? (i := 429) (by decide +kernel)⟩
theorem lw_p22 : lw_okq (⟨"LetterAuctionModel", "isSettled", "()Z"⟩, 15) := ⟨⟨by decide +kernel, by decide +kernel⟩, List.mem_of_getElem? (i := 422) (by decide +kernel), List.mem_of_getElem? (i := 486) (by decide +kernel), List.mem_of_getElem? (i := 487) (by decide +kernel)⟩
theorem lw_p23 : lw_okq (⟨"LetterAuctionModel", "no", "(I)Z"⟩, 15) := ⟨⟨by decide +kernel, by decide +kernel⟩, List.mem_of_getElem? (i := 422) (by decide +kernel), List.mem_of_getElem? (i := 490) (by decide +kernel), List.mem_of_getElem? (i := 491) (by decide +kernel)⟩
theorem lw_p24 : lw_okq (⟨"LetterAuctionModel", "valueOf", "(II)I"⟩, 15) := ⟨⟨by decide +kernel, by decide +kernel⟩, List.mem_of_getElem? (i := 422) (by decide +kernel), List.mem_of_getElem? (i := 498) (by decide +kernel), List.mem_of_getElem? (i := 499) (by decide +kernel)⟩
theorem lw_p25 : lw_okq (⟨"LetterAuctionModel", "send", "(IIIII)V"⟩, 15) := ⟨⟨by decide +kernel, by decide +kernel⟩, List.mem_of_getElem? (i := 422) (by decide +kernel), List.mem_of_getElem? (i := 502) (by decide +kernel), List.mem_of_getElem? (i := 503) (by decide +kernel)⟩
theorem lw_p26 : lw_okq (⟨"LetterAuctionModel", "noLetter", "(I)Z"⟩, 15) := ⟨⟨by decide +kernel, by decide +kernel⟩, List.mem_of_getElem? (i := 422) (by decide +kernel), List.mem_of_getElem? (i := 514) (by decide +kernel), List.mem_of_getElem? (i := 515) (by decide +kernel)⟩
theorem lw_p27 : lw_okq (⟨"LetterAuctionModel", "drop", "(I)V"⟩, 15) := ⟨⟨by decide +kernel, by decide +kernel⟩, List.mem_of_getElem? (i := 422) (by decide +kernel), List.mem_of_getElem? (i := 518) (by decide +kernel), List.mem_of_getElem? (i := 519) (by decide +kernel)⟩
theorem lw_p28 : lw_okq (⟨"LetterAuctionModel", "bidComes", "(IIII)V"⟩, 15) := ⟨⟨by decide +kernel, by decide +kernel⟩, List.mem_of_getElem? (i := 422) (by decide +kernel), List.mem_of_getElem? (i := 522) (by decide +kernel), List.mem_of_getElem? (i := 523) (by decide +kernel)⟩
theorem lw_p29 : lw_okq (⟨"LetterAuctionModel", "answerComes", "(IIIII)V"⟩, 15) := ⟨⟨by decide +kernel, by decide +kernel⟩, List.mem_of_getElem? (i := 422) (by decide +kernel), List.mem_of_getElem? (i := 526) (by decide +kernel), List.mem_of_getElem? (i := 527) (by decide +kernel)⟩
theorem lw_p30 : lw_okq (⟨"LetterAuctionModel", "profitOf", "(I)I"⟩, 15) := ⟨⟨by decide +kernel, by decide +kernel⟩, List.mem_of_getElem? (i := 422) (by decide +kernel), List.mem_of_getElem? (i := 550) (by decide +kernel), List.mem_of_getElem? (i := 551) (by decide +kernel)⟩
def lw_privs_2 : List (MethodName × Nat) := [(⟨"LetterAuction", "receiveBid", "(IIII)V"⟩, 6), (⟨"LetterAuction", "sendAnswer", "(IIII)V"⟩, 6), (⟨"LetterAuction$Crew", "learn", "(II)V"⟩, 6), (⟨"LetterAuction$Crew", "hear", "(II)V"⟩, 6), (⟨"LetterAuction", "profitOf", "(LLetterAuction$Crew;)I"⟩, 6), (⟨"LetterAuctionModel", "clean", "()V"⟩, 15), (⟨"LetterAuctionModel", "isSettled", "()Z"⟩, 15), (⟨"LetterAuctionModel", "no", "(I)Z"⟩, 15), (⟨"LetterAuctionModel", "valueOf", "(II)I"⟩, 15), (⟨"LetterAuctionModel", "send", "(IIIII)V"⟩, 15), (⟨"LetterAuctionModel", "noLetter", "(I)Z"⟩, 15), (⟨"LetterAuctionModel", "drop", "(I)V"⟩, 15), (⟨"LetterAuctionModel", "bidComes", "(IIII)V"⟩, 15), (⟨"LetterAuctionModel", "answerComes", "(IIIII)V"⟩, 15), (⟨"LetterAuctionModel", "profitOf", "(I)I"⟩, 15)]
theorem lw_r2 : ∀ q ∈ lw_privs_2, lw_okq q := List.forall_mem_cons.mpr ⟨lw_p16, List.forall_mem_cons.mpr ⟨lw_p17, List.forall_mem_cons.mpr ⟨lw_p18, List.forall_mem_cons.mpr ⟨lw_p19, List.forall_mem_cons.mpr ⟨lw_p20, List.forall_mem_cons.mpr ⟨lw_p21, List.forall_mem_cons.mpr ⟨lw_p22, List.forall_mem_cons.mpr ⟨lw_p23, List.forall_mem_cons.mpr ⟨lw_p24, List.forall_mem_cons.mpr ⟨lw_p25, List.forall_mem_cons.mpr ⟨lw_p26, List.forall_mem_cons.mpr ⟨lw_p27, List.forall_mem_cons.mpr ⟨lw_p28, List.forall_mem_cons.mpr ⟨lw_p29, List.forall_mem_cons.mpr ⟨lw_p30, fun _ h => absurd h List.not_mem_nil⟩⟩⟩⟩⟩⟩⟩⟩⟩⟩⟩⟩⟩⟩⟩
def lw_privs : List (MethodName × Nat) := lw_privs_1 ++ (lw_privs_2)
def lw_tbl : List Cond := k2_sels lw_privs ++ tables_1
theorem lw_privs_ok : ∀ q ∈ lw_privs, lw_okq q := by
  show ∀ q ∈ lw_privs_1 ++ (lw_privs_2), lw_okq q
  exact List.forall_mem_append.mpr ⟨lw_r1, lw_r2⟩
end
section
/-! names of classes, fields, methods (starting text: printed by TURN) -/
def RX0 : String := "LetterAuction$Crew"
def TX0 : u_T := fun k => match k with
  | 0 => ("LetterAuction$Crew", "worths", "[I", true)
  | 1 => ("LetterAuction$Crew", "prices", "[I", true)
  | 2 => ("LetterAuction$Crew", "state", "I", false)
  | 3 => ("LetterAuction$Crew", "target", "I", false)
  | 4 => ("LetterAuction$Crew", "number", "I", false)
  | _ => ("LetterAuction$Crew", "amount", "I", false)
def tyX0 : Nat → FieldType := fun k => match k with
  | 0 => .array .int
  | 1 => .array .int
  | 2 => .int
  | 3 => .int
  | 4 => .int
  | _ => .int
abbrev wsX00 : List Cond := u_ws RX0 TX0 6
theorem nmX0 : ∀ a, a < 6 → ∀ b, b < 6 → a ≠ b → (TX0 a).2.1 ≠ (TX0 b).2.1 := by decide +kernel
theorem tyX0_ok : ∀ k, k < 6 → parseFieldDescriptor (TX0 k).2.2.1 = some (tyX0 k) := by decide +kernel
abbrev cX0_init : ByteArray := prog_2_method_1_code
def yX0_init : MethodName := ⟨RX0, "<init>", "(I)V"⟩
abbrev cX0_scaledWorth : ByteArray := prog_2_method_2_code
def yX0_scaledWorth : MethodName := ⟨RX0, "scaledWorth", "(I)I"⟩
abbrev cX0_valueOf : ByteArray := prog_2_method_3_code
def yX0_valueOf : MethodName := ⟨RX0, "valueOf", "(I)I"⟩
abbrev cX0_bestJobBut : ByteArray := prog_2_method_4_code
def yX0_bestJobBut : MethodName := ⟨RX0, "bestJobBut", "(I)I"⟩
abbrev cX0_chooseBid : ByteArray := prog_2_method_5_code
def yX0_chooseBid : MethodName := ⟨RX0, "chooseBid", "(I)V"⟩
abbrev cX0_learn : ByteArray := prog_2_method_6_code
def yX0_learn : MethodName := ⟨RX0, "learn", "(II)V"⟩
abbrev cX0_hear : ByteArray := prog_2_method_7_code
def yX0_hear : MethodName := ⟨RX0, "hear", "(II)V"⟩
abbrev cX0_release : ByteArray := prog_2_method_8_code
def yX0_release : MethodName := ⟨RX0, "release", "()V"⟩
def RX1 : String := "LetterAuction$Desk"
def TX1 : u_T := fun k => match k with
  | 0 => ("LetterAuction$Desk", "price", "I", false)
  | 1 => ("LetterAuction$Desk", "holder", "I", false)
  | _ => ("LetterAuction$Desk", "number", "I", false)
def tyX1 : Nat → FieldType := fun k => match k with
  | 0 => .int
  | 1 => .int
  | _ => .int
abbrev wsX10 : List Cond := u_ws RX1 TX1 3
theorem nmX1 : ∀ a, a < 3 → ∀ b, b < 3 → a ≠ b → (TX1 a).2.1 ≠ (TX1 b).2.1 := by decide +kernel
theorem tyX1_ok : ∀ k, k < 3 → parseFieldDescriptor (TX1 k).2.2.1 = some (tyX1 k) := by decide +kernel
abbrev cX1_init : ByteArray := prog_3_method_1_code
def yX1_init : MethodName := ⟨RX1, "<init>", "()V"⟩
abbrev cX1_has : ByteArray := prog_3_method_2_code
def yX1_has : MethodName := ⟨RX1, "has", "(II)Z"⟩
abbrev cX1_dismiss : ByteArray := prog_3_method_3_code
def yX1_dismiss : MethodName := ⟨RX1, "dismiss", "()V"⟩
def RX2 : String := "LetterAuction$Post"
def TX2 : u_T := fun k => match k with
  | 0 => ("LetterAuction$Post", "parts", "[I", true)
  | _ => ("LetterAuction$Post", "size", "I", false)
def tyX2 : Nat → FieldType := fun k => match k with
  | 0 => .array .int
  | _ => .int
abbrev wsX20 : List Cond := u_ws RX2 TX2 2
theorem nmX2 : ∀ a, a < 2 → ∀ b, b < 2 → a ≠ b → (TX2 a).2.1 ≠ (TX2 b).2.1 := by decide +kernel
theorem tyX2_ok : ∀ k, k < 2 → parseFieldDescriptor (TX2 k).2.2.1 = some (tyX2 k) := by decide +kernel
abbrev cX2_init : ByteArray := prog_4_method_1_code
def yX2_init : MethodName := ⟨RX2, "<init>", "()V"⟩
abbrev cX2_part : ByteArray := prog_4_method_2_code
def yX2_part : MethodName := ⟨RX2, "part", "(II)I"⟩
abbrev cX2_add : ByteArray := prog_4_method_3_code
def yX2_add : MethodName := ⟨RX2, "add", "(IIIII)V"⟩
abbrev cX2_remove : ByteArray := prog_4_method_4_code
def yX2_remove : MethodName := ⟨RX2, "remove", "(I)V"⟩
abbrev cX2_clear : ByteArray := prog_4_method_5_code
def yX2_clear : MethodName := ⟨RX2, "clear", "()V"⟩
def RX3 : String := "LetterAuction"
def TX3 : u_T := fun k => match k with
  | 0 => ("LetterAuction", "size", "I", true)
  | 1 => ("LetterAuction", "crews", "[LLetterAuction$Crew;", true)
  | 2 => ("LetterAuction", "desks", "[LLetterAuction$Desk;", true)
  | 3 => ("LetterAuction", "post", "LLetterAuction$Post;", true)
  | 4 => ("LetterAuction", "sentOfKind", "[I", true)
  | _ => ("LetterAuction", "phaseNow", "I", false)
def tyX3 : Nat → FieldType := fun k => match k with
  | 0 => .int
  | 1 => .array (.object "LetterAuction$Crew")
  | 2 => .array (.object "LetterAuction$Desk")
  | 3 => .object "LetterAuction$Post"
  | 4 => .array .int
  | _ => .int
abbrev wsX30 : List Cond := u_ws RX3 TX3 6
theorem nmX3 : ∀ a, a < 6 → ∀ b, b < 6 → a ≠ b → (TX3 a).2.1 ≠ (TX3 b).2.1 := by decide +kernel
theorem tyX3_ok : ∀ k, k < 6 → parseFieldDescriptor (TX3 k).2.2.1 = some (tyX3 k) := by decide +kernel
abbrev cX3_init : ByteArray := prog_1_method_1_code
def yX3_init : MethodName := ⟨RX3, "<init>", "(II)V"⟩
abbrev cX3_worth : ByteArray := prog_1_method_2_code
def yX3_worth : MethodName := ⟨RX3, "worth", "(III)V"⟩
abbrev cX3_act : ByteArray := prog_1_method_3_code
def yX3_act : MethodName := ⟨RX3, "act", "(I)I"⟩
abbrev cX3_resend : ByteArray := prog_1_method_4_code
def yX3_resend : MethodName := ⟨RX3, "resend", "(I)I"⟩
abbrev cX3_deliver : ByteArray := prog_1_method_5_code
def yX3_deliver : MethodName := ⟨RX3, "deliver", "(I)I"⟩
abbrev cX3_lose : ByteArray := prog_1_method_6_code
def yX3_lose : MethodName := ⟨RX3, "lose", "(I)I"⟩
abbrev cX3_twin : ByteArray := prog_1_method_7_code
def yX3_twin : MethodName := ⟨RX3, "twin", "(I)I"⟩
abbrev cX3_letters : ByteArray := prog_1_method_8_code
def yX3_letters : MethodName := ⟨RX3, "letters", "()I"⟩
abbrev cX3_letter : ByteArray := prog_1_method_9_code
def yX3_letter : MethodName := ⟨RX3, "letter", "(II)I"⟩
abbrev cX3_crew : ByteArray := prog_1_method_10_code
def yX3_crew : MethodName := ⟨RX3, "crew", "(II)I"⟩
abbrev cX3_known : ByteArray := prog_1_method_11_code
def yX3_known : MethodName := ⟨RX3, "known", "(II)I"⟩
abbrev cX3_desk : ByteArray := prog_1_method_12_code
def yX3_desk : MethodName := ⟨RX3, "desk", "(II)I"⟩
abbrev cX3_settled : ByteArray := prog_1_method_13_code
def yX3_settled : MethodName := ⟨RX3, "settled", "()Z"⟩
abbrev cX3_phase : ByteArray := prog_1_method_14_code
def yX3_phase : MethodName := ⟨RX3, "phase", "()I"⟩
abbrev cX3_total : ByteArray := prog_1_method_15_code
def yX3_total : MethodName := ⟨RX3, "total", "()I"⟩
abbrev cX3_proves : ByteArray := prog_1_method_16_code
def yX3_proves : MethodName := ⟨RX3, "proves", "()Z"⟩
abbrev cX3_count : ByteArray := prog_1_method_17_code
def yX3_count : MethodName := ⟨RX3, "count", "(I)I"⟩
abbrev cX3_isIndex : ByteArray := prog_1_method_18_code
def yX3_isIndex : MethodName := ⟨RX3, "isIndex", "(I)Z"⟩
abbrev cX3_isDone : ByteArray := prog_1_method_19_code
def yX3_isDone : MethodName := ⟨RX3, "isDone", "()Z"⟩
abbrev cX3_profitOf : ByteArray := prog_1_method_20_code
def yX3_profitOf : MethodName := ⟨RX3, "profitOf", "(LLetterAuction$Crew;)I"⟩
abbrev cX3_sendBid : ByteArray := prog_1_method_21_code
def yX3_sendBid : MethodName := ⟨RX3, "sendBid", "(I)V"⟩
abbrev cX3_sendAnswer : ByteArray := prog_1_method_22_code
def yX3_sendAnswer : MethodName := ⟨RX3, "sendAnswer", "(IIII)V"⟩
abbrev cX3_receiveBid : ByteArray := prog_1_method_23_code
def yX3_receiveBid : MethodName := ⟨RX3, "receiveBid", "(IIII)V"⟩
abbrev cX3_requireLetter : ByteArray := prog_1_method_24_code
def yX3_requireLetter : MethodName := ⟨RX3, "requireLetter", "(I)V"⟩
abbrev cX3_requireArgument : ByteArray := prog_1_method_25_code
def yX3_requireArgument : MethodName := ⟨RX3, "requireArgument", "(Z)V"⟩
abbrev cX3_requireState : ByteArray := prog_1_method_26_code
def yX3_requireState : MethodName := ⟨RX3, "requireState", "(Z)V"⟩
def RX4 : String := "LetterAuctionModel"
def TX4 : u_T := fun k => match k with
  | 0 => ("LetterAuctionModel", "thrown", "I", false)
  | 1 => ("LetterAuctionModel", "n", "I", false)
  | 2 => ("LetterAuctionModel", "step", "I", false)
  | 3 => ("LetterAuctionModel", "worths", "[I", false)
  | 4 => ("LetterAuctionModel", "knows", "[I", false)
  | 5 => ("LetterAuctionModel", "prices", "[I", false)
  | 6 => ("LetterAuctionModel", "deskCrew", "[I", false)
  | 7 => ("LetterAuctionModel", "deskBid", "[I", false)
  | 8 => ("LetterAuctionModel", "states", "[I", false)
  | 9 => ("LetterAuctionModel", "targets", "[I", false)
  | 10 => ("LetterAuctionModel", "bids", "[I", false)
  | 11 => ("LetterAuctionModel", "amounts", "[I", false)
  | 12 => ("LetterAuctionModel", "many", "I", false)
  | 13 => ("LetterAuctionModel", "mail", "[I", false)
  | _ => ("LetterAuctionModel", "counts", "[I", false)
def tyX4 : Nat → FieldType := fun k => match k with
  | 0 => .int
  | 1 => .int
  | 2 => .int
  | 3 => .array .int
  | 4 => .array .int
  | 5 => .array .int
  | 6 => .array .int
  | 7 => .array .int
  | 8 => .array .int
  | 9 => .array .int
  | 10 => .array .int
  | 11 => .array .int
  | 12 => .int
  | 13 => .array .int
  | _ => .array .int
abbrev wsX40 : List Cond := u_ws RX4 TX4 15
theorem nmX4 : ∀ a, a < 15 → ∀ b, b < 15 → a ≠ b → (TX4 a).2.1 ≠ (TX4 b).2.1 := by decide +kernel
theorem tyX4_ok : ∀ k, k < 15 → parseFieldDescriptor (TX4 k).2.2.1 = some (tyX4 k) := by decide +kernel
abbrev cX4_init : ByteArray := prog_6_method_1_code
def yX4_init : MethodName := ⟨RX4, "<init>", "(II)V"⟩
abbrev cX4_thrown : ByteArray := prog_6_method_2_code
def yX4_thrown : MethodName := ⟨RX4, "thrown", "()I"⟩
abbrev cX4_no : ByteArray := prog_6_method_3_code
def yX4_no : MethodName := ⟨RX4, "no", "(I)Z"⟩
abbrev cX4_clean : ByteArray := prog_6_method_4_code
def yX4_clean : MethodName := ⟨RX4, "clean", "()V"⟩
abbrev cX4_isSettled : ByteArray := prog_6_method_5_code
def yX4_isSettled : MethodName := ⟨RX4, "isSettled", "()Z"⟩
abbrev cX4_worth : ByteArray := prog_6_method_6_code
def yX4_worth : MethodName := ⟨RX4, "worth", "(III)V"⟩
abbrev cX4_send : ByteArray := prog_6_method_7_code
def yX4_send : MethodName := ⟨RX4, "send", "(IIIII)V"⟩
abbrev cX4_drop : ByteArray := prog_6_method_8_code
def yX4_drop : MethodName := ⟨RX4, "drop", "(I)V"⟩
abbrev cX4_noLetter : ByteArray := prog_6_method_9_code
def yX4_noLetter : MethodName := ⟨RX4, "noLetter", "(I)Z"⟩
abbrev cX4_valueOf : ByteArray := prog_6_method_10_code
def yX4_valueOf : MethodName := ⟨RX4, "valueOf", "(II)I"⟩
abbrev cX4_act : ByteArray := prog_6_method_11_code
def yX4_act : MethodName := ⟨RX4, "act", "(I)I"⟩
abbrev cX4_resend : ByteArray := prog_6_method_12_code
def yX4_resend : MethodName := ⟨RX4, "resend", "(I)I"⟩
abbrev cX4_bidComes : ByteArray := prog_6_method_13_code
def yX4_bidComes : MethodName := ⟨RX4, "bidComes", "(IIII)V"⟩
abbrev cX4_answerComes : ByteArray := prog_6_method_14_code
def yX4_answerComes : MethodName := ⟨RX4, "answerComes", "(IIIII)V"⟩
abbrev cX4_deliver : ByteArray := prog_6_method_15_code
def yX4_deliver : MethodName := ⟨RX4, "deliver", "(I)I"⟩
abbrev cX4_lose : ByteArray := prog_6_method_16_code
def yX4_lose : MethodName := ⟨RX4, "lose", "(I)I"⟩
abbrev cX4_twin : ByteArray := prog_6_method_17_code
def yX4_twin : MethodName := ⟨RX4, "twin", "(I)I"⟩
abbrev cX4_letters : ByteArray := prog_6_method_18_code
def yX4_letters : MethodName := ⟨RX4, "letters", "()I"⟩
abbrev cX4_letter : ByteArray := prog_6_method_19_code
def yX4_letter : MethodName := ⟨RX4, "letter", "(II)I"⟩
abbrev cX4_profitOf : ByteArray := prog_6_method_20_code
def yX4_profitOf : MethodName := ⟨RX4, "profitOf", "(I)I"⟩
abbrev cX4_crew : ByteArray := prog_6_method_21_code
def yX4_crew : MethodName := ⟨RX4, "crew", "(II)I"⟩
abbrev cX4_known : ByteArray := prog_6_method_22_code
def yX4_known : MethodName := ⟨RX4, "known", "(II)I"⟩
abbrev cX4_desk : ByteArray := prog_6_method_23_code
def yX4_desk : MethodName := ⟨RX4, "desk", "(II)I"⟩
abbrev cX4_settled : ByteArray := prog_6_method_24_code
def yX4_settled : MethodName := ⟨RX4, "settled", "()Z"⟩
abbrev cX4_phase : ByteArray := prog_6_method_25_code
def yX4_phase : MethodName := ⟨RX4, "phase", "()I"⟩
abbrev cX4_total : ByteArray := prog_6_method_26_code
def yX4_total : MethodName := ⟨RX4, "total", "()I"⟩
abbrev cX4_proves : ByteArray := prog_6_method_27_code
def yX4_proves : MethodName := ⟨RX4, "proves", "()Z"⟩
abbrev cX4_count : ByteArray := prog_6_method_28_code
def yX4_count : MethodName := ⟨RX4, "count", "(I)I"⟩
def RJ9 : String := "java/lang/Math"
def TJ9 : u_T := fun k => match k with
  | _ => ("", "", "", false)
def tyJ9 : Nat → FieldType := fun k => match k with
  | _ => .int
abbrev cJ9_max_7cf53 : ByteArray := prog_11_method_65_code
def yJ9_max_7cf53 : MethodName := ⟨RJ9, "max", "(II)I"⟩
abbrev cJ9_min_7cf53 : ByteArray := prog_11_method_69_code
def yJ9_min_7cf53 : MethodName := ⟨RJ9, "min", "(II)I"⟩
def RJ0 : String := "java/lang/String"
def TJ0 : u_T := fun k => match k with
  | _ => ("", "", "", false)
def tyJ0 : Nat → FieldType := fun k => match k with
  | _ => .int
def RJ10 : String := "java/lang/System"
def TJ10 : u_T := fun k => match k with
  | _ => ("", "", "", false)
def tyJ10 : Nat → FieldType := fun k => match k with
  | _ => .int
def RL : String := "LetterAuctionLaw"
abbrev cL_cell : ByteArray := method_2_code
def yL_cell : MethodName := ⟨RL, "cell", "([II)I"⟩
abbrev cL_worth : ByteArray := method_3_code
def yL_worth : MethodName := ⟨RL, "worth", "(LLetterAuction;III)I"⟩
abbrev cL_act : ByteArray := method_4_code
def yL_act : MethodName := ⟨RL, "act", "(LLetterAuction;I[J)I"⟩
abbrev cL_resend : ByteArray := method_5_code
def yL_resend : MethodName := ⟨RL, "resend", "(LLetterAuction;I[J)I"⟩
abbrev cL_deliver : ByteArray := method_6_code
def yL_deliver : MethodName := ⟨RL, "deliver", "(LLetterAuction;I[J)I"⟩
abbrev cL_lose : ByteArray := method_7_code
def yL_lose : MethodName := ⟨RL, "lose", "(LLetterAuction;I[J)I"⟩
abbrev cL_twin : ByteArray := method_8_code
def yL_twin : MethodName := ⟨RL, "twin", "(LLetterAuction;I[J)I"⟩
abbrev cL_letter : ByteArray := method_9_code
def yL_letter : MethodName := ⟨RL, "letter", "(LLetterAuction;II[J)I"⟩
abbrev cL_crew : ByteArray := method_10_code
def yL_crew : MethodName := ⟨RL, "crew", "(LLetterAuction;II[J)I"⟩
abbrev cL_known : ByteArray := method_11_code
def yL_known : MethodName := ⟨RL, "known", "(LLetterAuction;II[J)I"⟩
abbrev cL_desk : ByteArray := method_12_code
def yL_desk : MethodName := ⟨RL, "desk", "(LLetterAuction;II[J)I"⟩
abbrev cL_phase : ByteArray := method_13_code
def yL_phase : MethodName := ⟨RL, "phase", "(LLetterAuction;[J)I"⟩
abbrev cL_total : ByteArray := method_14_code
def yL_total : MethodName := ⟨RL, "total", "(LLetterAuction;[J)I"⟩
abbrev cL_proves : ByteArray := method_15_code
def yL_proves : MethodName := ⟨RL, "proves", "(LLetterAuction;[J)I"⟩
abbrev cL_count : ByteArray := method_16_code
def yL_count : MethodName := ⟨RL, "count", "(LLetterAuction;I[J)I"⟩
abbrev cL_law : ByteArray := code
def yL_law : MethodName := ⟨RL, "law", "([I)Z"⟩
end
section
/-! decode rows (starting text: printed by TURN) -/
theorem dX4_init_0 : decode cX4_init 0 = .ok (.aload_n 0, 1) := by decide +kernel
theorem dX4_init_1 : decode cX4_init 1 = .ok (.invokespecial 1, 3) := by decide +kernel
theorem dX4_init_4 : decode cX4_init 4 = .ok (.aload_n 0, 1) := by decide +kernel
theorem dX4_init_5 : decode cX4_init 5 = .ok (.bipush 36, 2) := by decide +kernel
theorem dX4_init_7 : decode cX4_init 7 = .ok (.newarray .int, 2) := by decide +kernel
theorem dX4_init_9 : decode cX4_init 9 = .ok (.putfield 7, 3) := by decide +kernel
theorem dX4_init_12 : decode cX4_init 12 = .ok (.aload_n 0, 1) := by decide +kernel
theorem dX4_init_13 : decode cX4_init 13 = .ok (.bipush 36, 2) := by decide +kernel
theorem dX4_init_15 : decode cX4_init 15 = .ok (.newarray .int, 2) := by decide +kernel
theorem dX4_init_17 : decode cX4_init 17 = .ok (.putfield 13, 3) := by decide +kernel
theorem dX4_init_20 : decode cX4_init 20 = .ok (.aload_n 0, 1) := by decide +kernel
theorem dX4_init_21 : decode cX4_init 21 = .ok (.bipush 6, 2) := by decide +kernel
theorem dX4_init_23 : decode cX4_init 23 = .ok (.newarray .int, 2) := by decide +kernel
theorem dX4_init_25 : decode cX4_init 25 = .ok (.putfield 16, 3) := by decide +kernel
theorem dX4_init_28 : decode cX4_init 28 = .ok (.aload_n 0, 1) := by decide +kernel
theorem dX4_init_29 : decode cX4_init 29 = .ok (.bipush 6, 2) := by decide +kernel
theorem dX4_init_31 : decode cX4_init 31 = .ok (.newarray .int, 2) := by decide +kernel
theorem dX4_init_33 : decode cX4_init 33 = .ok (.putfield 19, 3) := by decide +kernel
theorem dX4_init_36 : decode cX4_init 36 = .ok (.aload_n 0, 1) := by decide +kernel
theorem dX4_init_37 : decode cX4_init 37 = .ok (.bipush 6, 2) := by decide +kernel
theorem dX4_init_39 : decode cX4_init 39 = .ok (.newarray .int, 2) := by decide +kernel
theorem dX4_init_41 : decode cX4_init 41 = .ok (.putfield 22, 3) := by decide +kernel
theorem dX4_init_44 : decode cX4_init 44 = .ok (.aload_n 0, 1) := by decide +kernel
theorem dX4_init_45 : decode cX4_init 45 = .ok (.bipush 6, 2) := by decide +kernel
theorem dX4_init_47 : decode cX4_init 47 = .ok (.newarray .int, 2) := by decide +kernel
theorem dX4_init_49 : decode cX4_init 49 = .ok (.putfield 25, 3) := by decide +kernel
theorem dX4_init_52 : decode cX4_init 52 = .ok (.aload_n 0, 1) := by decide +kernel
theorem dX4_init_53 : decode cX4_init 53 = .ok (.bipush 6, 2) := by decide +kernel
theorem dX4_init_55 : decode cX4_init 55 = .ok (.newarray .int, 2) := by decide +kernel
theorem dX4_init_57 : decode cX4_init 57 = .ok (.putfield 28, 3) := by decide +kernel
theorem dX4_init_60 : decode cX4_init 60 = .ok (.aload_n 0, 1) := by decide +kernel
theorem dX4_init_61 : decode cX4_init 61 = .ok (.bipush 6, 2) := by decide +kernel
theorem dX4_init_63 : decode cX4_init 63 = .ok (.newarray .int, 2) := by decide +kernel
theorem dX4_init_65 : decode cX4_init 65 = .ok (.putfield 31, 3) := by decide +kernel
theorem dX4_init_68 : decode cX4_init 68 = .ok (.aload_n 0, 1) := by decide +kernel
theorem dX4_init_69 : decode cX4_init 69 = .ok (.bipush 6, 2) := by decide +kernel
theorem dX4_init_71 : decode cX4_init 71 = .ok (.newarray .int, 2) := by decide +kernel
theorem dX4_init_73 : decode cX4_init 73 = .ok (.putfield 34, 3) := by decide +kernel
theorem dX4_init_76 : decode cX4_init 76 = .ok (.aload_n 0, 1) := by decide +kernel
theorem dX4_init_77 : decode cX4_init 77 = .ok (.sipush 600, 3) := by decide +kernel
theorem dX4_init_80 : decode cX4_init 80 = .ok (.newarray .int, 2) := by decide +kernel
theorem dX4_init_82 : decode cX4_init 82 = .ok (.putfield 37, 3) := by decide +kernel
theorem dX4_init_85 : decode cX4_init 85 = .ok (.aload_n 0, 1) := by decide +kernel
theorem dX4_init_86 : decode cX4_init 86 = .ok (.iconst 4, 1) := by decide +kernel
theorem dX4_init_87 : decode cX4_init 87 = .ok (.newarray .int, 2) := by decide +kernel
theorem dX4_init_89 : decode cX4_init 89 = .ok (.putfield 40, 3) := by decide +kernel
theorem dX4_init_92 : decode cX4_init 92 = .ok (.aload_n 0, 1) := by decide +kernel
theorem dX4_init_93 : decode cX4_init 93 = .ok (.iload_n 1, 1) := by decide +kernel
theorem dX4_init_94 : decode cX4_init 94 = .ok (.iconst 2, 1) := by decide +kernel
theorem dX4_init_95 : decode cX4_init 95 = .ok (.if_icmp .ge 7, 3) := by decide +kernel
theorem dX4_init_98 : decode cX4_init 98 = .ok (.iconst 2, 1) := by decide +kernel
theorem dX4_init_99 : decode cX4_init 99 = .ok (.goto 15, 3) := by decide +kernel
theorem dX4_init_102 : decode cX4_init 102 = .ok (.iload_n 1, 1) := by decide +kernel
theorem dX4_init_103 : decode cX4_init 103 = .ok (.bipush 6, 2) := by decide +kernel
theorem dX4_init_105 : decode cX4_init 105 = .ok (.if_icmp .le 8, 3) := by decide +kernel
theorem dX4_init_108 : decode cX4_init 108 = .ok (.bipush 6, 2) := by decide +kernel
theorem dX4_init_110 : decode cX4_init 110 = .ok (.goto 4, 3) := by decide +kernel
theorem dX4_init_113 : decode cX4_init 113 = .ok (.iload_n 1, 1) := by decide +kernel
theorem dX4_init_114 : decode cX4_init 114 = .ok (.putfield 43, 3) := by decide +kernel
theorem dX4_init_117 : decode cX4_init 117 = .ok (.aload_n 0, 1) := by decide +kernel
theorem dX4_init_118 : decode cX4_init 118 = .ok (.iload_n 2, 1) := by decide +kernel
theorem dX4_init_119 : decode cX4_init 119 = .ok (.ifCond .eq 8, 3) := by decide +kernel
theorem dX4_init_122 : decode cX4_init 122 = .ok (.bipush 64, 2) := by decide +kernel
theorem dX4_init_124 : decode cX4_init 124 = .ok (.goto 4, 3) := by decide +kernel
theorem dX4_init_127 : decode cX4_init 127 = .ok (.iconst 1, 1) := by decide +kernel
theorem dX4_init_128 : decode cX4_init 128 = .ok (.putfield 47, 3) := by decide +kernel
theorem dX4_init_131 : decode cX4_init 131 = .ok (.aload_n 0, 1) := by decide +kernel
theorem dX4_init_132 : decode cX4_init 132 = .ok (.invokevirtual 50, 3) := by decide +kernel
theorem dX4_init_135 : decode cX4_init 135 = .ok (.return_, 1) := by decide +kernel
theorem dX4_thrown_0 : decode cX4_thrown 0 = .ok (.aload_n 0, 1) := by decide +kernel
theorem dX4_thrown_1 : decode cX4_thrown 1 = .ok (.getfield 53, 3) := by decide +kernel
theorem dX4_thrown_4 : decode cX4_thrown 4 = .ok (.ireturn, 1) := by decide +kernel
theorem dX4_no_0 : decode cX4_no 0 = .ok (.iload_n 1, 1) := by decide +kernel
theorem dX4_no_1 : decode cX4_no 1 = .ok (.ifCond .lt 11, 3) := by decide +kernel
theorem dX4_no_4 : decode cX4_no 4 = .ok (.iload_n 1, 1) := by decide +kernel
theorem dX4_no_5 : decode cX4_no 5 = .ok (.aload_n 0, 1) := by decide +kernel
theorem dX4_no_6 : decode cX4_no 6 = .ok (.getfield 43, 3) := by decide +kernel
theorem dX4_no_9 : decode cX4_no 9 = .ok (.if_icmp .lt 7, 3) := by decide +kernel
theorem dX4_no_12 : decode cX4_no 12 = .ok (.iconst 1, 1) := by decide +kernel
theorem dX4_no_13 : decode cX4_no 13 = .ok (.goto 4, 3) := by decide +kernel
theorem dX4_no_16 : decode cX4_no 16 = .ok (.iconst 0, 1) := by decide +kernel
theorem dX4_no_17 : decode cX4_no 17 = .ok (.ireturn, 1) := by decide +kernel
theorem dX4_clean_0 : decode cX4_clean 0 = .ok (.aload_n 0, 1) := by decide +kernel
theorem dX4_clean_1 : decode cX4_clean 1 = .ok (.iconst 0, 1) := by decide +kernel
theorem dX4_clean_2 : decode cX4_clean 2 = .ok (.putfield 56, 3) := by decide +kernel
theorem dX4_clean_5 : decode cX4_clean 5 = .ok (.iconst 0, 1) := by decide +kernel
theorem dX4_clean_6 : decode cX4_clean 6 = .ok (.istore_n 1, 1) := by decide +kernel
theorem dX4_clean_7 : decode cX4_clean 7 = .ok (.iload_n 1, 1) := by decide +kernel
theorem dX4_clean_8 : decode cX4_clean 8 = .ok (.bipush 6, 2) := by decide +kernel
theorem dX4_clean_10 : decode cX4_clean 10 = .ok (.if_icmp .ge 37, 3) := by decide +kernel
theorem dX4_clean_13 : decode cX4_clean 13 = .ok (.aload_n 0, 1) := by decide +kernel
theorem dX4_clean_14 : decode cX4_clean 14 = .ok (.getfield 19, 3) := by decide +kernel
theorem dX4_clean_17 : decode cX4_clean 17 = .ok (.iload_n 1, 1) := by decide +kernel
theorem dX4_clean_18 : decode cX4_clean 18 = .ok (.iconst (-1), 1) := by decide +kernel
theorem dX4_clean_19 : decode cX4_clean 19 = .ok (.iastore, 1) := by decide +kernel
theorem dX4_clean_20 : decode cX4_clean 20 = .ok (.aload_n 0, 1) := by decide +kernel
theorem dX4_clean_21 : decode cX4_clean 21 = .ok (.getfield 22, 3) := by decide +kernel
theorem dX4_clean_24 : decode cX4_clean 24 = .ok (.iload_n 1, 1) := by decide +kernel
theorem dX4_clean_25 : decode cX4_clean 25 = .ok (.iconst 0, 1) := by decide +kernel
theorem dX4_clean_26 : decode cX4_clean 26 = .ok (.iastore, 1) := by decide +kernel
theorem dX4_clean_27 : decode cX4_clean 27 = .ok (.aload_n 0, 1) := by decide +kernel
theorem dX4_clean_28 : decode cX4_clean 28 = .ok (.getfield 25, 3) := by decide +kernel
theorem dX4_clean_31 : decode cX4_clean 31 = .ok (.iload_n 1, 1) := by decide +kernel
theorem dX4_clean_32 : decode cX4_clean 32 = .ok (.iconst 0, 1) := by decide +kernel
theorem dX4_clean_33 : decode cX4_clean 33 = .ok (.iastore, 1) := by decide +kernel
theorem dX4_clean_34 : decode cX4_clean 34 = .ok (.aload_n 0, 1) := by decide +kernel
theorem dX4_clean_35 : decode cX4_clean 35 = .ok (.getfield 28, 3) := by decide +kernel
theorem dX4_clean_38 : decode cX4_clean 38 = .ok (.iload_n 1, 1) := by decide +kernel
theorem dX4_clean_39 : decode cX4_clean 39 = .ok (.iconst (-1), 1) := by decide +kernel
theorem dX4_clean_40 : decode cX4_clean 40 = .ok (.iastore, 1) := by decide +kernel
theorem dX4_clean_41 : decode cX4_clean 41 = .ok (.iinc 1 1, 3) := by decide +kernel
theorem dX4_clean_44 : decode cX4_clean 44 = .ok (.goto (-37), 3) := by decide +kernel
theorem dX4_clean_47 : decode cX4_clean 47 = .ok (.return_, 1) := by decide +kernel
theorem dX4_isSettled_0 : decode cX4_isSettled 0 = .ok (.iconst 1, 1) := by decide +kernel
theorem dX4_isSettled_1 : decode cX4_isSettled 1 = .ok (.istore_n 1, 1) := by decide +kernel
theorem dX4_isSettled_2 : decode cX4_isSettled 2 = .ok (.iconst 0, 1) := by decide +kernel
theorem dX4_isSettled_3 : decode cX4_isSettled 3 = .ok (.istore_n 2, 1) := by decide +kernel
theorem dX4_isSettled_4 : decode cX4_isSettled 4 = .ok (.iload_n 2, 1) := by decide +kernel
theorem dX4_isSettled_5 : decode cX4_isSettled 5 = .ok (.aload_n 0, 1) := by decide +kernel
theorem dX4_isSettled_6 : decode cX4_isSettled 6 = .ok (.getfield 43, 3) := by decide +kernel
theorem dX4_isSettled_9 : decode cX4_isSettled 9 = .ok (.if_icmp .ge 61, 3) := by decide +kernel
theorem dX4_isSettled_12 : decode cX4_isSettled 12 = .ok (.aload_n 0, 1) := by decide +kernel
theorem dX4_isSettled_13 : decode cX4_isSettled 13 = .ok (.getfield 28, 3) := by decide +kernel
theorem dX4_isSettled_16 : decode cX4_isSettled 16 = .ok (.iload_n 2, 1) := by decide +kernel
theorem dX4_isSettled_17 : decode cX4_isSettled 17 = .ok (.iaload, 1) := by decide +kernel
theorem dX4_isSettled_18 : decode cX4_isSettled 18 = .ok (.istore_n 3, 1) := by decide +kernel
theorem dX4_isSettled_19 : decode cX4_isSettled 19 = .ok (.iload_n 1, 1) := by decide +kernel
theorem dX4_isSettled_20 : decode cX4_isSettled 20 = .ok (.ifCond .eq 42, 3) := by decide +kernel
theorem dX4_isSettled_23 : decode cX4_isSettled 23 = .ok (.aload_n 0, 1) := by decide +kernel
theorem dX4_isSettled_24 : decode cX4_isSettled 24 = .ok (.getfield 25, 3) := by decide +kernel
theorem dX4_isSettled_27 : decode cX4_isSettled 27 = .ok (.iload_n 2, 1) := by decide +kernel
theorem dX4_isSettled_28 : decode cX4_isSettled 28 = .ok (.iaload, 1) := by decide +kernel
theorem dX4_isSettled_29 : decode cX4_isSettled 29 = .ok (.iconst 2, 1) := by decide +kernel
theorem dX4_isSettled_30 : decode cX4_isSettled 30 = .ok (.if_icmp .ne 32, 3) := by decide +kernel
theorem dX4_isSettled_33 : decode cX4_isSettled 33 = .ok (.aload_n 0, 1) := by decide +kernel
theorem dX4_isSettled_34 : decode cX4_isSettled 34 = .ok (.getfield 19, 3) := by decide +kernel
theorem dX4_isSettled_37 : decode cX4_isSettled 37 = .ok (.iload_n 3, 1) := by decide +kernel
theorem dX4_isSettled_38 : decode cX4_isSettled 38 = .ok (.iaload, 1) := by decide +kernel
theorem dX4_isSettled_39 : decode cX4_isSettled 39 = .ok (.iload_n 2, 1) := by decide +kernel
theorem dX4_isSettled_40 : decode cX4_isSettled 40 = .ok (.if_icmp .ne 22, 3) := by decide +kernel
theorem dX4_isSettled_43 : decode cX4_isSettled 43 = .ok (.aload_n 0, 1) := by decide +kernel
theorem dX4_isSettled_44 : decode cX4_isSettled 44 = .ok (.getfield 22, 3) := by decide +kernel
theorem dX4_isSettled_47 : decode cX4_isSettled 47 = .ok (.iload_n 3, 1) := by decide +kernel
theorem dX4_isSettled_48 : decode cX4_isSettled 48 = .ok (.iaload, 1) := by decide +kernel
theorem dX4_isSettled_49 : decode cX4_isSettled 49 = .ok (.aload_n 0, 1) := by decide +kernel
theorem dX4_isSettled_50 : decode cX4_isSettled 50 = .ok (.getfield 31, 3) := by decide +kernel
theorem dX4_isSettled_53 : decode cX4_isSettled 53 = .ok (.iload_n 2, 1) := by decide +kernel
theorem dX4_isSettled_54 : decode cX4_isSettled 54 = .ok (.iaload, 1) := by decide +kernel
theorem dX4_isSettled_55 : decode cX4_isSettled 55 = .ok (.if_icmp .ne 7, 3) := by decide +kernel
theorem dX4_isSettled_58 : decode cX4_isSettled 58 = .ok (.iconst 1, 1) := by decide +kernel
theorem dX4_isSettled_59 : decode cX4_isSettled 59 = .ok (.goto 4, 3) := by decide +kernel
theorem dX4_isSettled_62 : decode cX4_isSettled 62 = .ok (.iconst 0, 1) := by decide +kernel
theorem dX4_isSettled_63 : decode cX4_isSettled 63 = .ok (.istore_n 1, 1) := by decide +kernel
theorem dX4_isSettled_64 : decode cX4_isSettled 64 = .ok (.iinc 2 1, 3) := by decide +kernel
theorem dX4_isSettled_67 : decode cX4_isSettled 67 = .ok (.goto (-63), 3) := by decide +kernel
theorem dX4_isSettled_70 : decode cX4_isSettled 70 = .ok (.iload_n 1, 1) := by decide +kernel
theorem dX4_isSettled_71 : decode cX4_isSettled 71 = .ok (.ireturn, 1) := by decide +kernel
theorem dX4_worth_0 : decode cX4_worth 0 = .ok (.iconst 0, 1) := by decide +kernel
theorem dX4_worth_1 : decode cX4_worth 1 = .ok (.istore 4, 2) := by decide +kernel
theorem dX4_worth_3 : decode cX4_worth 3 = .ok (.iconst 0, 1) := by decide +kernel
theorem dX4_worth_4 : decode cX4_worth 4 = .ok (.istore 5, 2) := by decide +kernel
theorem dX4_worth_6 : decode cX4_worth 6 = .ok (.iload 5, 2) := by decide +kernel
theorem dX4_worth_8 : decode cX4_worth 8 = .ok (.aload_n 0, 1) := by decide +kernel
theorem dX4_worth_9 : decode cX4_worth 9 = .ok (.getfield 43, 3) := by decide +kernel
theorem dX4_worth_12 : decode cX4_worth 12 = .ok (.if_icmp .ge 31, 3) := by decide +kernel
theorem dX4_worth_15 : decode cX4_worth 15 = .ok (.iload 4, 2) := by decide +kernel
theorem dX4_worth_17 : decode cX4_worth 17 = .ok (.ifCond .ne 13, 3) := by decide +kernel
theorem dX4_worth_20 : decode cX4_worth 20 = .ok (.aload_n 0, 1) := by decide +kernel
theorem dX4_worth_21 : decode cX4_worth 21 = .ok (.getfield 31, 3) := by decide +kernel
theorem dX4_worth_24 : decode cX4_worth 24 = .ok (.iload 5, 2) := by decide +kernel
theorem dX4_worth_26 : decode cX4_worth 26 = .ok (.iaload, 1) := by decide +kernel
theorem dX4_worth_27 : decode cX4_worth 27 = .ok (.ifCond .le 7, 3) := by decide +kernel
theorem dX4_worth_30 : decode cX4_worth 30 = .ok (.iconst 1, 1) := by decide +kernel
theorem dX4_worth_31 : decode cX4_worth 31 = .ok (.goto 4, 3) := by decide +kernel
theorem dX4_worth_34 : decode cX4_worth 34 = .ok (.iconst 0, 1) := by decide +kernel
theorem dX4_worth_35 : decode cX4_worth 35 = .ok (.istore 4, 2) := by decide +kernel
theorem dX4_worth_37 : decode cX4_worth 37 = .ok (.iinc 5 1, 3) := by decide +kernel
theorem dX4_worth_40 : decode cX4_worth 40 = .ok (.goto (-34), 3) := by decide +kernel
theorem dX4_worth_43 : decode cX4_worth 43 = .ok (.aload_n 0, 1) := by decide +kernel
theorem dX4_worth_44 : decode cX4_worth 44 = .ok (.getfield 47, 3) := by decide +kernel
theorem dX4_worth_47 : decode cX4_worth 47 = .ok (.iconst 1, 1) := by decide +kernel
theorem dX4_worth_48 : decode cX4_worth 48 = .ok (.if_icmp .ne 14, 3) := by decide +kernel
theorem dX4_worth_51 : decode cX4_worth 51 = .ok (.aload_n 0, 1) := by decide +kernel
theorem dX4_worth_52 : decode cX4_worth 52 = .ok (.invokevirtual 59, 3) := by decide +kernel
theorem dX4_worth_55 : decode cX4_worth 55 = .ok (.ifCond .eq 7, 3) := by decide +kernel
theorem dX4_worth_58 : decode cX4_worth 58 = .ok (.iconst 1, 1) := by decide +kernel
theorem dX4_worth_59 : decode cX4_worth 59 = .ok (.goto 4, 3) := by decide +kernel
theorem dX4_worth_62 : decode cX4_worth 62 = .ok (.iconst 0, 1) := by decide +kernel
theorem dX4_worth_63 : decode cX4_worth 63 = .ok (.istore 5, 2) := by decide +kernel
theorem dX4_worth_65 : decode cX4_worth 65 = .ok (.aload_n 0, 1) := by decide +kernel
theorem dX4_worth_66 : decode cX4_worth 66 = .ok (.aload_n 0, 1) := by decide +kernel
theorem dX4_worth_67 : decode cX4_worth 67 = .ok (.iload_n 1, 1) := by decide +kernel
theorem dX4_worth_68 : decode cX4_worth 68 = .ok (.invokevirtual 63, 3) := by decide +kernel
theorem dX4_worth_71 : decode cX4_worth 71 = .ok (.ifCond .ne 22, 3) := by decide +kernel
theorem dX4_worth_74 : decode cX4_worth 74 = .ok (.aload_n 0, 1) := by decide +kernel
theorem dX4_worth_75 : decode cX4_worth 75 = .ok (.iload_n 2, 1) := by decide +kernel
theorem dX4_worth_76 : decode cX4_worth 76 = .ok (.invokevirtual 63, 3) := by decide +kernel
theorem dX4_worth_79 : decode cX4_worth 79 = .ok (.ifCond .ne 14, 3) := by decide +kernel
theorem dX4_worth_82 : decode cX4_worth 82 = .ok (.iload_n 3, 1) := by decide +kernel
theorem dX4_worth_83 : decode cX4_worth 83 = .ok (.ifCond .lt 10, 3) := by decide +kernel
theorem dX4_worth_86 : decode cX4_worth 86 = .ok (.iload_n 3, 1) := by decide +kernel
theorem dX4_worth_87 : decode cX4_worth 87 = .ok (.sipush 1000, 3) := by decide +kernel
theorem dX4_worth_90 : decode cX4_worth 90 = .ok (.if_icmp .le 7, 3) := by decide +kernel
theorem dX4_worth_93 : decode cX4_worth 93 = .ok (.iconst 1, 1) := by decide +kernel
theorem dX4_worth_94 : decode cX4_worth 94 = .ok (.goto 18, 3) := by decide +kernel
theorem dX4_worth_97 : decode cX4_worth 97 = .ok (.iload 4, 2) := by decide +kernel
theorem dX4_worth_99 : decode cX4_worth 99 = .ok (.ifCond .eq 12, 3) := by decide +kernel
theorem dX4_worth_102 : decode cX4_worth 102 = .ok (.iload 5, 2) := by decide +kernel
theorem dX4_worth_104 : decode cX4_worth 104 = .ok (.ifCond .ne 7, 3) := by decide +kernel
theorem dX4_worth_107 : decode cX4_worth 107 = .ok (.iconst 2, 1) := by decide +kernel
theorem dX4_worth_108 : decode cX4_worth 108 = .ok (.goto 4, 3) := by decide +kernel
theorem dX4_worth_111 : decode cX4_worth 111 = .ok (.iconst 0, 1) := by decide +kernel
theorem dX4_worth_112 : decode cX4_worth 112 = .ok (.putfield 53, 3) := by decide +kernel
theorem dX4_worth_115 : decode cX4_worth 115 = .ok (.aload_n 0, 1) := by decide +kernel
theorem dX4_worth_116 : decode cX4_worth 116 = .ok (.getfield 53, 3) := by decide +kernel
theorem dX4_worth_119 : decode cX4_worth 119 = .ok (.ifCond .eq 4, 3) := by decide +kernel
theorem dX4_worth_122 : decode cX4_worth 122 = .ok (.return_, 1) := by decide +kernel
theorem dX4_worth_123 : decode cX4_worth 123 = .ok (.aload_n 0, 1) := by decide +kernel
theorem dX4_worth_124 : decode cX4_worth 124 = .ok (.getfield 7, 3) := by decide +kernel
theorem dX4_worth_127 : decode cX4_worth 127 = .ok (.bipush 6, 2) := by decide +kernel
theorem dX4_worth_129 : decode cX4_worth 129 = .ok (.iload_n 1, 1) := by decide +kernel
theorem dX4_worth_130 : decode cX4_worth 130 = .ok (.imul, 1) := by decide +kernel
theorem dX4_worth_131 : decode cX4_worth 131 = .ok (.iload_n 2, 1) := by decide +kernel
theorem dX4_worth_132 : decode cX4_worth 132 = .ok (.iadd, 1) := by decide +kernel
theorem dX4_worth_133 : decode cX4_worth 133 = .ok (.iload_n 3, 1) := by decide +kernel
theorem dX4_worth_134 : decode cX4_worth 134 = .ok (.iastore, 1) := by decide +kernel
theorem dX4_worth_135 : decode cX4_worth 135 = .ok (.iload 4, 2) := by decide +kernel
theorem dX4_worth_137 : decode cX4_worth 137 = .ok (.ifCond .eq 46, 3) := by decide +kernel
theorem dX4_worth_140 : decode cX4_worth 140 = .ok (.aload_n 0, 1) := by decide +kernel
theorem dX4_worth_141 : decode cX4_worth 141 = .ok (.iconst 0, 1) := by decide +kernel
theorem dX4_worth_142 : decode cX4_worth 142 = .ok (.putfield 56, 3) := by decide +kernel
theorem dX4_worth_145 : decode cX4_worth 145 = .ok (.aload_n 0, 1) := by decide +kernel
theorem dX4_worth_146 : decode cX4_worth 146 = .ok (.getfield 19, 3) := by decide +kernel
theorem dX4_worth_149 : decode cX4_worth 149 = .ok (.aload_n 0, 1) := by decide +kernel
theorem dX4_worth_150 : decode cX4_worth 150 = .ok (.getfield 28, 3) := by decide +kernel
theorem dX4_worth_153 : decode cX4_worth 153 = .ok (.iload_n 1, 1) := by decide +kernel
theorem dX4_worth_154 : decode cX4_worth 154 = .ok (.iaload, 1) := by decide +kernel
theorem dX4_worth_155 : decode cX4_worth 155 = .ok (.iconst (-1), 1) := by decide +kernel
theorem dX4_worth_156 : decode cX4_worth 156 = .ok (.iastore, 1) := by decide +kernel
theorem dX4_worth_157 : decode cX4_worth 157 = .ok (.aload_n 0, 1) := by decide +kernel
theorem dX4_worth_158 : decode cX4_worth 158 = .ok (.getfield 22, 3) := by decide +kernel
theorem dX4_worth_161 : decode cX4_worth 161 = .ok (.aload_n 0, 1) := by decide +kernel
theorem dX4_worth_162 : decode cX4_worth 162 = .ok (.getfield 28, 3) := by decide +kernel
theorem dX4_worth_165 : decode cX4_worth 165 = .ok (.iload_n 1, 1) := by decide +kernel
theorem dX4_worth_166 : decode cX4_worth 166 = .ok (.iaload, 1) := by decide +kernel
theorem dX4_worth_167 : decode cX4_worth 167 = .ok (.iconst 0, 1) := by decide +kernel
theorem dX4_worth_168 : decode cX4_worth 168 = .ok (.iastore, 1) := by decide +kernel
theorem dX4_worth_169 : decode cX4_worth 169 = .ok (.aload_n 0, 1) := by decide +kernel
theorem dX4_worth_170 : decode cX4_worth 170 = .ok (.getfield 25, 3) := by decide +kernel
theorem dX4_worth_173 : decode cX4_worth 173 = .ok (.iload_n 1, 1) := by decide +kernel
theorem dX4_worth_174 : decode cX4_worth 174 = .ok (.iconst 0, 1) := by decide +kernel
theorem dX4_worth_175 : decode cX4_worth 175 = .ok (.iastore, 1) := by decide +kernel
theorem dX4_worth_176 : decode cX4_worth 176 = .ok (.aload_n 0, 1) := by decide +kernel
theorem dX4_worth_177 : decode cX4_worth 177 = .ok (.getfield 28, 3) := by decide +kernel
theorem dX4_worth_180 : decode cX4_worth 180 = .ok (.iload_n 1, 1) := by decide +kernel
theorem dX4_worth_181 : decode cX4_worth 181 = .ok (.iconst (-1), 1) := by decide +kernel
theorem dX4_worth_182 : decode cX4_worth 182 = .ok (.iastore, 1) := by decide +kernel
theorem dX4_worth_183 : decode cX4_worth 183 = .ok (.return_, 1) := by decide +kernel
theorem dX4_send_0 : decode cX4_send 0 = .ok (.iconst 5, 1) := by decide +kernel
theorem dX4_send_1 : decode cX4_send 1 = .ok (.aload_n 0, 1) := by decide +kernel
theorem dX4_send_2 : decode cX4_send 2 = .ok (.getfield 56, 3) := by decide +kernel
theorem dX4_send_5 : decode cX4_send 5 = .ok (.imul, 1) := by decide +kernel
theorem dX4_send_6 : decode cX4_send 6 = .ok (.istore 6, 2) := by decide +kernel
theorem dX4_send_8 : decode cX4_send 8 = .ok (.aload_n 0, 1) := by decide +kernel
theorem dX4_send_9 : decode cX4_send 9 = .ok (.getfield 37, 3) := by decide +kernel
theorem dX4_send_12 : decode cX4_send 12 = .ok (.iload 6, 2) := by decide +kernel
theorem dX4_send_14 : decode cX4_send 14 = .ok (.iload_n 1, 1) := by decide +kernel
theorem dX4_send_15 : decode cX4_send 15 = .ok (.iastore, 1) := by decide +kernel
theorem dX4_send_16 : decode cX4_send 16 = .ok (.aload_n 0, 1) := by decide +kernel
theorem dX4_send_17 : decode cX4_send 17 = .ok (.getfield 37, 3) := by decide +kernel
theorem dX4_send_20 : decode cX4_send 20 = .ok (.iload 6, 2) := by decide +kernel
theorem dX4_send_22 : decode cX4_send 22 = .ok (.iconst 1, 1) := by decide +kernel
theorem dX4_send_23 : decode cX4_send 23 = .ok (.iadd, 1) := by decide +kernel
theorem dX4_send_24 : decode cX4_send 24 = .ok (.iload_n 2, 1) := by decide +kernel
theorem dX4_send_25 : decode cX4_send 25 = .ok (.iastore, 1) := by decide +kernel
theorem dX4_send_26 : decode cX4_send 26 = .ok (.aload_n 0, 1) := by decide +kernel
theorem dX4_send_27 : decode cX4_send 27 = .ok (.getfield 37, 3) := by decide +kernel
theorem dX4_send_30 : decode cX4_send 30 = .ok (.iload 6, 2) := by decide +kernel
theorem dX4_send_32 : decode cX4_send 32 = .ok (.iconst 2, 1) := by decide +kernel
theorem dX4_send_33 : decode cX4_send 33 = .ok (.iadd, 1) := by decide +kernel
theorem dX4_send_34 : decode cX4_send 34 = .ok (.iload_n 3, 1) := by decide +kernel
theorem dX4_send_35 : decode cX4_send 35 = .ok (.iastore, 1) := by decide +kernel
theorem dX4_send_36 : decode cX4_send 36 = .ok (.aload_n 0, 1) := by decide +kernel
theorem dX4_send_37 : decode cX4_send 37 = .ok (.getfield 37, 3) := by decide +kernel
theorem dX4_send_40 : decode cX4_send 40 = .ok (.iload 6, 2) := by decide +kernel
theorem dX4_send_42 : decode cX4_send 42 = .ok (.iconst 3, 1) := by decide +kernel
theorem dX4_send_43 : decode cX4_send 43 = .ok (.iadd, 1) := by decide +kernel
theorem dX4_send_44 : decode cX4_send 44 = .ok (.iload 4, 2) := by decide +kernel
theorem dX4_send_46 : decode cX4_send 46 = .ok (.iastore, 1) := by decide +kernel
theorem dX4_send_47 : decode cX4_send 47 = .ok (.aload_n 0, 1) := by decide +kernel
theorem dX4_send_48 : decode cX4_send 48 = .ok (.getfield 37, 3) := by decide +kernel
theorem dX4_send_51 : decode cX4_send 51 = .ok (.iload 6, 2) := by decide +kernel
theorem dX4_send_53 : decode cX4_send 53 = .ok (.iconst 4, 1) := by decide +kernel
theorem dX4_send_54 : decode cX4_send 54 = .ok (.iadd, 1) := by decide +kernel
theorem dX4_send_55 : decode cX4_send 55 = .ok (.iload 5, 2) := by decide +kernel
theorem dX4_send_57 : decode cX4_send 57 = .ok (.iastore, 1) := by decide +kernel
theorem dX4_send_58 : decode cX4_send 58 = .ok (.aload_n 0, 1) := by decide +kernel
theorem dX4_send_59 : decode cX4_send 59 = .ok (.dup, 1) := by decide +kernel
theorem dX4_send_60 : decode cX4_send 60 = .ok (.getfield 56, 3) := by decide +kernel
theorem dX4_send_63 : decode cX4_send 63 = .ok (.iconst 1, 1) := by decide +kernel
theorem dX4_send_64 : decode cX4_send 64 = .ok (.iadd, 1) := by decide +kernel
theorem dX4_send_65 : decode cX4_send 65 = .ok (.putfield 56, 3) := by decide +kernel
theorem dX4_send_68 : decode cX4_send 68 = .ok (.iload_n 1, 1) := by decide +kernel
theorem dX4_send_69 : decode cX4_send 69 = .ok (.ifCond .eq 13, 3) := by decide +kernel
theorem dX4_send_72 : decode cX4_send 72 = .ok (.aload_n 0, 1) := by decide +kernel
theorem dX4_send_73 : decode cX4_send 73 = .ok (.getfield 40, 3) := by decide +kernel
theorem dX4_send_76 : decode cX4_send 76 = .ok (.iload_n 1, 1) := by decide +kernel
theorem dX4_send_77 : decode cX4_send 77 = .ok (.dup2, 1) := by decide +kernel
theorem dX4_send_78 : decode cX4_send 78 = .ok (.iaload, 1) := by decide +kernel
theorem dX4_send_79 : decode cX4_send 79 = .ok (.iconst 1, 1) := by decide +kernel
theorem dX4_send_80 : decode cX4_send 80 = .ok (.iadd, 1) := by decide +kernel
theorem dX4_send_81 : decode cX4_send 81 = .ok (.iastore, 1) := by decide +kernel
theorem dX4_send_82 : decode cX4_send 82 = .ok (.return_, 1) := by decide +kernel
theorem dX4_drop_0 : decode cX4_drop 0 = .ok (.aload_n 0, 1) := by decide +kernel
theorem dX4_drop_1 : decode cX4_drop 1 = .ok (.dup, 1) := by decide +kernel
theorem dX4_drop_2 : decode cX4_drop 2 = .ok (.getfield 56, 3) := by decide +kernel
theorem dX4_drop_5 : decode cX4_drop 5 = .ok (.iconst 1, 1) := by decide +kernel
theorem dX4_drop_6 : decode cX4_drop 6 = .ok (.isub, 1) := by decide +kernel
theorem dX4_drop_7 : decode cX4_drop 7 = .ok (.putfield 56, 3) := by decide +kernel
theorem dX4_drop_10 : decode cX4_drop 10 = .ok (.iconst 5, 1) := by decide +kernel
theorem dX4_drop_11 : decode cX4_drop 11 = .ok (.iload_n 1, 1) := by decide +kernel
theorem dX4_drop_12 : decode cX4_drop 12 = .ok (.imul, 1) := by decide +kernel
theorem dX4_drop_13 : decode cX4_drop 13 = .ok (.istore_n 2, 1) := by decide +kernel
theorem dX4_drop_14 : decode cX4_drop 14 = .ok (.iload_n 2, 1) := by decide +kernel
theorem dX4_drop_15 : decode cX4_drop 15 = .ok (.iconst 5, 1) := by decide +kernel
theorem dX4_drop_16 : decode cX4_drop 16 = .ok (.aload_n 0, 1) := by decide +kernel
theorem dX4_drop_17 : decode cX4_drop 17 = .ok (.getfield 56, 3) := by decide +kernel
theorem dX4_drop_20 : decode cX4_drop 20 = .ok (.imul, 1) := by decide +kernel
theorem dX4_drop_21 : decode cX4_drop 21 = .ok (.if_icmp .ge 23, 3) := by decide +kernel
theorem dX4_drop_24 : decode cX4_drop 24 = .ok (.aload_n 0, 1) := by decide +kernel
theorem dX4_drop_25 : decode cX4_drop 25 = .ok (.getfield 37, 3) := by decide +kernel
theorem dX4_drop_28 : decode cX4_drop 28 = .ok (.iload_n 2, 1) := by decide +kernel
theorem dX4_drop_29 : decode cX4_drop 29 = .ok (.aload_n 0, 1) := by decide +kernel
theorem dX4_drop_30 : decode cX4_drop 30 = .ok (.getfield 37, 3) := by decide +kernel
theorem dX4_drop_33 : decode cX4_drop 33 = .ok (.iload_n 2, 1) := by decide +kernel
theorem dX4_drop_34 : decode cX4_drop 34 = .ok (.iconst 5, 1) := by decide +kernel
theorem dX4_drop_35 : decode cX4_drop 35 = .ok (.iadd, 1) := by decide +kernel
theorem dX4_drop_36 : decode cX4_drop 36 = .ok (.iaload, 1) := by decide +kernel
theorem dX4_drop_37 : decode cX4_drop 37 = .ok (.iastore, 1) := by decide +kernel
theorem dX4_drop_38 : decode cX4_drop 38 = .ok (.iinc 2 1, 3) := by decide +kernel
theorem dX4_drop_41 : decode cX4_drop 41 = .ok (.goto (-27), 3) := by decide +kernel
theorem dX4_drop_44 : decode cX4_drop 44 = .ok (.return_, 1) := by decide +kernel
theorem dX4_noLetter_0 : decode cX4_noLetter 0 = .ok (.iload_n 1, 1) := by decide +kernel
theorem dX4_noLetter_1 : decode cX4_noLetter 1 = .ok (.ifCond .lt 11, 3) := by decide +kernel
theorem dX4_noLetter_4 : decode cX4_noLetter 4 = .ok (.iload_n 1, 1) := by decide +kernel
theorem dX4_noLetter_5 : decode cX4_noLetter 5 = .ok (.aload_n 0, 1) := by decide +kernel
theorem dX4_noLetter_6 : decode cX4_noLetter 6 = .ok (.getfield 56, 3) := by decide +kernel
theorem dX4_noLetter_9 : decode cX4_noLetter 9 = .ok (.if_icmp .lt 7, 3) := by decide +kernel
theorem dX4_noLetter_12 : decode cX4_noLetter 12 = .ok (.iconst 1, 1) := by decide +kernel
theorem dX4_noLetter_13 : decode cX4_noLetter 13 = .ok (.goto 4, 3) := by decide +kernel
theorem dX4_noLetter_16 : decode cX4_noLetter 16 = .ok (.iconst 0, 1) := by decide +kernel
theorem dX4_noLetter_17 : decode cX4_noLetter 17 = .ok (.ireturn, 1) := by decide +kernel
theorem dX4_valueOf_0 : decode cX4_valueOf 0 = .ok (.aload_n 0, 1) := by decide +kernel
theorem dX4_valueOf_1 : decode cX4_valueOf 1 = .ok (.getfield 7, 3) := by decide +kernel
theorem dX4_valueOf_4 : decode cX4_valueOf 4 = .ok (.bipush 6, 2) := by decide +kernel
theorem dX4_valueOf_6 : decode cX4_valueOf 6 = .ok (.iload_n 1, 1) := by decide +kernel
theorem dX4_valueOf_7 : decode cX4_valueOf 7 = .ok (.imul, 1) := by decide +kernel
theorem dX4_valueOf_8 : decode cX4_valueOf 8 = .ok (.iload_n 2, 1) := by decide +kernel
theorem dX4_valueOf_9 : decode cX4_valueOf 9 = .ok (.iadd, 1) := by decide +kernel
theorem dX4_valueOf_10 : decode cX4_valueOf 10 = .ok (.iaload, 1) := by decide +kernel
theorem dX4_valueOf_11 : decode cX4_valueOf 11 = .ok (.aload_n 0, 1) := by decide +kernel
theorem dX4_valueOf_12 : decode cX4_valueOf 12 = .ok (.getfield 43, 3) := by decide +kernel
theorem dX4_valueOf_15 : decode cX4_valueOf 15 = .ok (.iconst 1, 1) := by decide +kernel
theorem dX4_valueOf_16 : decode cX4_valueOf 16 = .ok (.iadd, 1) := by decide +kernel
theorem dX4_valueOf_17 : decode cX4_valueOf 17 = .ok (.imul, 1) := by decide +kernel
theorem dX4_valueOf_18 : decode cX4_valueOf 18 = .ok (.aload_n 0, 1) := by decide +kernel
theorem dX4_valueOf_19 : decode cX4_valueOf 19 = .ok (.getfield 13, 3) := by decide +kernel
theorem dX4_valueOf_22 : decode cX4_valueOf 22 = .ok (.bipush 6, 2) := by decide +kernel
theorem dX4_valueOf_24 : decode cX4_valueOf 24 = .ok (.iload_n 1, 1) := by decide +kernel
theorem dX4_valueOf_25 : decode cX4_valueOf 25 = .ok (.imul, 1) := by decide +kernel
theorem dX4_valueOf_26 : decode cX4_valueOf 26 = .ok (.iload_n 2, 1) := by decide +kernel
theorem dX4_valueOf_27 : decode cX4_valueOf 27 = .ok (.iadd, 1) := by decide +kernel
theorem dX4_valueOf_28 : decode cX4_valueOf 28 = .ok (.iaload, 1) := by decide +kernel
theorem dX4_valueOf_29 : decode cX4_valueOf 29 = .ok (.isub, 1) := by decide +kernel
theorem dX4_valueOf_30 : decode cX4_valueOf 30 = .ok (.ireturn, 1) := by decide +kernel
theorem dX4_act_0 : decode cX4_act 0 = .ok (.aload_n 0, 1) := by decide +kernel
theorem dX4_act_1 : decode cX4_act 1 = .ok (.aload_n 0, 1) := by decide +kernel
theorem dX4_act_2 : decode cX4_act 2 = .ok (.iload_n 1, 1) := by decide +kernel
theorem dX4_act_3 : decode cX4_act 3 = .ok (.invokevirtual 63, 3) := by decide +kernel
theorem dX4_act_6 : decode cX4_act 6 = .ok (.ifCond .eq 7, 3) := by decide +kernel
theorem dX4_act_9 : decode cX4_act 9 = .ok (.iconst 1, 1) := by decide +kernel
theorem dX4_act_10 : decode cX4_act 10 = .ok (.goto 26, 3) := by decide +kernel
theorem dX4_act_13 : decode cX4_act 13 = .ok (.aload_n 0, 1) := by decide +kernel
theorem dX4_act_14 : decode cX4_act 14 = .ok (.getfield 25, 3) := by decide +kernel
theorem dX4_act_17 : decode cX4_act 17 = .ok (.iload_n 1, 1) := by decide +kernel
theorem dX4_act_18 : decode cX4_act 18 = .ok (.iaload, 1) := by decide +kernel
theorem dX4_act_19 : decode cX4_act 19 = .ok (.ifCond .ne 12, 3) := by decide +kernel
theorem dX4_act_22 : decode cX4_act 22 = .ok (.aload_n 0, 1) := by decide +kernel
theorem dX4_act_23 : decode cX4_act 23 = .ok (.getfield 56, 3) := by decide +kernel
theorem dX4_act_26 : decode cX4_act 26 = .ok (.bipush 39, 2) := by decide +kernel
theorem dX4_act_28 : decode cX4_act 28 = .ok (.if_icmp .le 7, 3) := by decide +kernel
theorem dX4_act_31 : decode cX4_act 31 = .ok (.iconst 2, 1) := by decide +kernel
theorem dX4_act_32 : decode cX4_act 32 = .ok (.goto 4, 3) := by decide +kernel
theorem dX4_act_35 : decode cX4_act 35 = .ok (.iconst 0, 1) := by decide +kernel
theorem dX4_act_36 : decode cX4_act 36 = .ok (.putfield 53, 3) := by decide +kernel
theorem dX4_act_39 : decode cX4_act 39 = .ok (.aload_n 0, 1) := by decide +kernel
theorem dX4_act_40 : decode cX4_act 40 = .ok (.getfield 53, 3) := by decide +kernel
theorem dX4_act_43 : decode cX4_act 43 = .ok (.ifCond .eq 5, 3) := by decide +kernel
theorem dX4_act_46 : decode cX4_act 46 = .ok (.iconst 0, 1) := by decide +kernel
theorem dX4_act_47 : decode cX4_act 47 = .ok (.ireturn, 1) := by decide +kernel
theorem dX4_act_48 : decode cX4_act 48 = .ok (.iconst 0, 1) := by decide +kernel
theorem dX4_act_49 : decode cX4_act 49 = .ok (.istore_n 2, 1) := by decide +kernel
theorem dX4_act_50 : decode cX4_act 50 = .ok (.iconst 1, 1) := by decide +kernel
theorem dX4_act_51 : decode cX4_act 51 = .ok (.istore_n 3, 1) := by decide +kernel
theorem dX4_act_52 : decode cX4_act 52 = .ok (.iload_n 3, 1) := by decide +kernel
theorem dX4_act_53 : decode cX4_act 53 = .ok (.aload_n 0, 1) := by decide +kernel
theorem dX4_act_54 : decode cX4_act 54 = .ok (.getfield 43, 3) := by decide +kernel
theorem dX4_act_57 : decode cX4_act 57 = .ok (.if_icmp .ge 30, 3) := by decide +kernel
theorem dX4_act_60 : decode cX4_act 60 = .ok (.aload_n 0, 1) := by decide +kernel
theorem dX4_act_61 : decode cX4_act 61 = .ok (.iload_n 1, 1) := by decide +kernel
theorem dX4_act_62 : decode cX4_act 62 = .ok (.iload_n 3, 1) := by decide +kernel
theorem dX4_act_63 : decode cX4_act 63 = .ok (.invokevirtual 67, 3) := by decide +kernel
theorem dX4_act_66 : decode cX4_act 66 = .ok (.aload_n 0, 1) := by decide +kernel
theorem dX4_act_67 : decode cX4_act 67 = .ok (.iload_n 1, 1) := by decide +kernel
theorem dX4_act_68 : decode cX4_act 68 = .ok (.iload_n 2, 1) := by decide +kernel
theorem dX4_act_69 : decode cX4_act 69 = .ok (.invokevirtual 67, 3) := by decide +kernel
theorem dX4_act_72 : decode cX4_act 72 = .ok (.if_icmp .le 7, 3) := by decide +kernel
theorem dX4_act_75 : decode cX4_act 75 = .ok (.iload_n 3, 1) := by decide +kernel
theorem dX4_act_76 : decode cX4_act 76 = .ok (.goto 4, 3) := by decide +kernel
theorem dX4_act_79 : decode cX4_act 79 = .ok (.iload_n 2, 1) := by decide +kernel
theorem dX4_act_80 : decode cX4_act 80 = .ok (.istore_n 2, 1) := by decide +kernel
theorem dX4_act_81 : decode cX4_act 81 = .ok (.iinc 3 1, 3) := by decide +kernel
theorem dX4_act_84 : decode cX4_act 84 = .ok (.goto (-32), 3) := by decide +kernel
theorem dX4_act_87 : decode cX4_act 87 = .ok (.iload_n 2, 1) := by decide +kernel
theorem dX4_act_88 : decode cX4_act 88 = .ok (.ifCond .ne 7, 3) := by decide +kernel
theorem dX4_act_91 : decode cX4_act 91 = .ok (.iconst 1, 1) := by decide +kernel
theorem dX4_act_92 : decode cX4_act 92 = .ok (.goto 4, 3) := by decide +kernel
theorem dX4_act_95 : decode cX4_act 95 = .ok (.iconst 0, 1) := by decide +kernel
theorem dX4_act_96 : decode cX4_act 96 = .ok (.istore_n 3, 1) := by decide +kernel
theorem dX4_act_97 : decode cX4_act 97 = .ok (.iconst 0, 1) := by decide +kernel
theorem dX4_act_98 : decode cX4_act 98 = .ok (.istore 4, 2) := by decide +kernel
theorem dX4_act_100 : decode cX4_act 100 = .ok (.iload 4, 2) := by decide +kernel
theorem dX4_act_102 : decode cX4_act 102 = .ok (.aload_n 0, 1) := by decide +kernel
theorem dX4_act_103 : decode cX4_act 103 = .ok (.getfield 43, 3) := by decide +kernel
theorem dX4_act_106 : decode cX4_act 106 = .ok (.if_icmp .ge 38, 3) := by decide +kernel
theorem dX4_act_109 : decode cX4_act 109 = .ok (.iload 4, 2) := by decide +kernel
theorem dX4_act_111 : decode cX4_act 111 = .ok (.iload_n 2, 1) := by decide +kernel
theorem dX4_act_112 : decode cX4_act 112 = .ok (.if_icmp .eq 24, 3) := by decide +kernel
theorem dX4_act_115 : decode cX4_act 115 = .ok (.aload_n 0, 1) := by decide +kernel
theorem dX4_act_116 : decode cX4_act 116 = .ok (.iload_n 1, 1) := by decide +kernel
theorem dX4_act_117 : decode cX4_act 117 = .ok (.iload 4, 2) := by decide +kernel
theorem dX4_act_119 : decode cX4_act 119 = .ok (.invokevirtual 67, 3) := by decide +kernel
theorem dX4_act_122 : decode cX4_act 122 = .ok (.aload_n 0, 1) := by decide +kernel
theorem dX4_act_123 : decode cX4_act 123 = .ok (.iload_n 1, 1) := by decide +kernel
theorem dX4_act_124 : decode cX4_act 124 = .ok (.iload_n 3, 1) := by decide +kernel
theorem dX4_act_125 : decode cX4_act 125 = .ok (.invokevirtual 67, 3) := by decide +kernel
theorem dX4_act_128 : decode cX4_act 128 = .ok (.if_icmp .le 8, 3) := by decide +kernel
theorem dX4_act_131 : decode cX4_act 131 = .ok (.iload 4, 2) := by decide +kernel
theorem dX4_act_133 : decode cX4_act 133 = .ok (.goto 4, 3) := by decide +kernel
theorem dX4_act_136 : decode cX4_act 136 = .ok (.iload_n 3, 1) := by decide +kernel
theorem dX4_act_137 : decode cX4_act 137 = .ok (.istore_n 3, 1) := by decide +kernel
theorem dX4_act_138 : decode cX4_act 138 = .ok (.iinc 4 1, 3) := by decide +kernel
theorem dX4_act_141 : decode cX4_act 141 = .ok (.goto (-41), 3) := by decide +kernel
theorem dX4_act_144 : decode cX4_act 144 = .ok (.aload_n 0, 1) := by decide +kernel
theorem dX4_act_145 : decode cX4_act 145 = .ok (.getfield 31, 3) := by decide +kernel
theorem dX4_act_148 : decode cX4_act 148 = .ok (.iload_n 1, 1) := by decide +kernel
theorem dX4_act_149 : decode cX4_act 149 = .ok (.dup2, 1) := by decide +kernel
theorem dX4_act_150 : decode cX4_act 150 = .ok (.iaload, 1) := by decide +kernel
theorem dX4_act_151 : decode cX4_act 151 = .ok (.iconst 1, 1) := by decide +kernel
theorem dX4_act_152 : decode cX4_act 152 = .ok (.iadd, 1) := by decide +kernel
theorem dX4_act_153 : decode cX4_act 153 = .ok (.iastore, 1) := by decide +kernel
theorem dX4_act_154 : decode cX4_act 154 = .ok (.aload_n 0, 1) := by decide +kernel
theorem dX4_act_155 : decode cX4_act 155 = .ok (.getfield 28, 3) := by decide +kernel
theorem dX4_act_158 : decode cX4_act 158 = .ok (.iload_n 1, 1) := by decide +kernel
theorem dX4_act_159 : decode cX4_act 159 = .ok (.iload_n 2, 1) := by decide +kernel
theorem dX4_act_160 : decode cX4_act 160 = .ok (.iastore, 1) := by decide +kernel
theorem dX4_act_161 : decode cX4_act 161 = .ok (.aload_n 0, 1) := by decide +kernel
theorem dX4_act_162 : decode cX4_act 162 = .ok (.getfield 25, 3) := by decide +kernel
theorem dX4_act_165 : decode cX4_act 165 = .ok (.iload_n 1, 1) := by decide +kernel
theorem dX4_act_166 : decode cX4_act 166 = .ok (.iconst 1, 1) := by decide +kernel
theorem dX4_act_167 : decode cX4_act 167 = .ok (.iastore, 1) := by decide +kernel
theorem dX4_act_168 : decode cX4_act 168 = .ok (.aload_n 0, 1) := by decide +kernel
theorem dX4_act_169 : decode cX4_act 169 = .ok (.getfield 34, 3) := by decide +kernel
theorem dX4_act_172 : decode cX4_act 172 = .ok (.iload_n 1, 1) := by decide +kernel
theorem dX4_act_173 : decode cX4_act 173 = .ok (.aload_n 0, 1) := by decide +kernel
theorem dX4_act_174 : decode cX4_act 174 = .ok (.getfield 13, 3) := by decide +kernel
theorem dX4_act_177 : decode cX4_act 177 = .ok (.bipush 6, 2) := by decide +kernel
theorem dX4_act_179 : decode cX4_act 179 = .ok (.iload_n 1, 1) := by decide +kernel
theorem dX4_act_180 : decode cX4_act 180 = .ok (.imul, 1) := by decide +kernel
theorem dX4_act_181 : decode cX4_act 181 = .ok (.iload_n 2, 1) := by decide +kernel
theorem dX4_act_182 : decode cX4_act 182 = .ok (.iadd, 1) := by decide +kernel
theorem dX4_act_183 : decode cX4_act 183 = .ok (.iaload, 1) := by decide +kernel
theorem dX4_act_184 : decode cX4_act 184 = .ok (.aload_n 0, 1) := by decide +kernel
theorem dX4_act_185 : decode cX4_act 185 = .ok (.iload_n 1, 1) := by decide +kernel
theorem dX4_act_186 : decode cX4_act 186 = .ok (.iload_n 2, 1) := by decide +kernel
theorem dX4_act_187 : decode cX4_act 187 = .ok (.invokevirtual 67, 3) := by decide +kernel
theorem dX4_act_190 : decode cX4_act 190 = .ok (.iadd, 1) := by decide +kernel
theorem dX4_act_191 : decode cX4_act 191 = .ok (.aload_n 0, 1) := by decide +kernel
theorem dX4_act_192 : decode cX4_act 192 = .ok (.iload_n 1, 1) := by decide +kernel
theorem dX4_act_193 : decode cX4_act 193 = .ok (.iload_n 3, 1) := by decide +kernel
theorem dX4_act_194 : decode cX4_act 194 = .ok (.invokevirtual 67, 3) := by decide +kernel
theorem dX4_act_197 : decode cX4_act 197 = .ok (.isub, 1) := by decide +kernel
theorem dX4_act_198 : decode cX4_act 198 = .ok (.aload_n 0, 1) := by decide +kernel
theorem dX4_act_199 : decode cX4_act 199 = .ok (.getfield 47, 3) := by decide +kernel
theorem dX4_act_202 : decode cX4_act 202 = .ok (.iadd, 1) := by decide +kernel
theorem dX4_act_203 : decode cX4_act 203 = .ok (.iastore, 1) := by decide +kernel
theorem dX4_act_204 : decode cX4_act 204 = .ok (.aload_n 0, 1) := by decide +kernel
theorem dX4_act_205 : decode cX4_act 205 = .ok (.getfield 40, 3) := by decide +kernel
theorem dX4_act_208 : decode cX4_act 208 = .ok (.iconst 0, 1) := by decide +kernel
theorem dX4_act_209 : decode cX4_act 209 = .ok (.dup2, 1) := by decide +kernel
theorem dX4_act_210 : decode cX4_act 210 = .ok (.iaload, 1) := by decide +kernel
theorem dX4_act_211 : decode cX4_act 211 = .ok (.iconst 1, 1) := by decide +kernel
theorem dX4_act_212 : decode cX4_act 212 = .ok (.iadd, 1) := by decide +kernel
theorem dX4_act_213 : decode cX4_act 213 = .ok (.iastore, 1) := by decide +kernel
theorem dX4_act_214 : decode cX4_act 214 = .ok (.aload_n 0, 1) := by decide +kernel
theorem dX4_act_215 : decode cX4_act 215 = .ok (.iconst 0, 1) := by decide +kernel
theorem dX4_act_216 : decode cX4_act 216 = .ok (.iload_n 1, 1) := by decide +kernel
theorem dX4_act_217 : decode cX4_act 217 = .ok (.iload_n 2, 1) := by decide +kernel
theorem dX4_act_218 : decode cX4_act 218 = .ok (.aload_n 0, 1) := by decide +kernel
theorem dX4_act_219 : decode cX4_act 219 = .ok (.getfield 31, 3) := by decide +kernel
theorem dX4_act_222 : decode cX4_act 222 = .ok (.iload_n 1, 1) := by decide +kernel
theorem dX4_act_223 : decode cX4_act 223 = .ok (.iaload, 1) := by decide +kernel
theorem dX4_act_224 : decode cX4_act 224 = .ok (.aload_n 0, 1) := by decide +kernel
theorem dX4_act_225 : decode cX4_act 225 = .ok (.getfield 34, 3) := by decide +kernel
theorem dX4_act_228 : decode cX4_act 228 = .ok (.iload_n 1, 1) := by decide +kernel
theorem dX4_act_229 : decode cX4_act 229 = .ok (.iaload, 1) := by decide +kernel
theorem dX4_act_230 : decode cX4_act 230 = .ok (.invokevirtual 71, 3) := by decide +kernel
theorem dX4_act_233 : decode cX4_act 233 = .ok (.iload_n 2, 1) := by decide +kernel
theorem dX4_act_234 : decode cX4_act 234 = .ok (.ireturn, 1) := by decide +kernel
theorem dX4_resend_0 : decode cX4_resend 0 = .ok (.aload_n 0, 1) := by decide +kernel
theorem dX4_resend_1 : decode cX4_resend 1 = .ok (.aload_n 0, 1) := by decide +kernel
theorem dX4_resend_2 : decode cX4_resend 2 = .ok (.iload_n 1, 1) := by decide +kernel
theorem dX4_resend_3 : decode cX4_resend 3 = .ok (.invokevirtual 63, 3) := by decide +kernel
theorem dX4_resend_6 : decode cX4_resend 6 = .ok (.ifCond .eq 7, 3) := by decide +kernel
theorem dX4_resend_9 : decode cX4_resend 9 = .ok (.iconst 1, 1) := by decide +kernel
theorem dX4_resend_10 : decode cX4_resend 10 = .ok (.goto 26, 3) := by decide +kernel
theorem dX4_resend_13 : decode cX4_resend 13 = .ok (.aload_n 0, 1) := by decide +kernel
theorem dX4_resend_14 : decode cX4_resend 14 = .ok (.getfield 25, 3) := by decide +kernel
theorem dX4_resend_17 : decode cX4_resend 17 = .ok (.iload_n 1, 1) := by decide +kernel
theorem dX4_resend_18 : decode cX4_resend 18 = .ok (.iaload, 1) := by decide +kernel
theorem dX4_resend_19 : decode cX4_resend 19 = .ok (.ifCond .eq 12, 3) := by decide +kernel
theorem dX4_resend_22 : decode cX4_resend 22 = .ok (.aload_n 0, 1) := by decide +kernel
theorem dX4_resend_23 : decode cX4_resend 23 = .ok (.getfield 56, 3) := by decide +kernel
theorem dX4_resend_26 : decode cX4_resend 26 = .ok (.bipush 39, 2) := by decide +kernel
theorem dX4_resend_28 : decode cX4_resend 28 = .ok (.if_icmp .le 7, 3) := by decide +kernel
theorem dX4_resend_31 : decode cX4_resend 31 = .ok (.iconst 2, 1) := by decide +kernel
theorem dX4_resend_32 : decode cX4_resend 32 = .ok (.goto 4, 3) := by decide +kernel
theorem dX4_resend_35 : decode cX4_resend 35 = .ok (.iconst 0, 1) := by decide +kernel
theorem dX4_resend_36 : decode cX4_resend 36 = .ok (.putfield 53, 3) := by decide +kernel
theorem dX4_resend_39 : decode cX4_resend 39 = .ok (.aload_n 0, 1) := by decide +kernel
theorem dX4_resend_40 : decode cX4_resend 40 = .ok (.getfield 53, 3) := by decide +kernel
theorem dX4_resend_43 : decode cX4_resend 43 = .ok (.ifCond .eq 5, 3) := by decide +kernel
theorem dX4_resend_46 : decode cX4_resend 46 = .ok (.iconst 0, 1) := by decide +kernel
theorem dX4_resend_47 : decode cX4_resend 47 = .ok (.ireturn, 1) := by decide +kernel
theorem dX4_resend_48 : decode cX4_resend 48 = .ok (.aload_n 0, 1) := by decide +kernel
theorem dX4_resend_49 : decode cX4_resend 49 = .ok (.iconst 0, 1) := by decide +kernel
theorem dX4_resend_50 : decode cX4_resend 50 = .ok (.iload_n 1, 1) := by decide +kernel
theorem dX4_resend_51 : decode cX4_resend 51 = .ok (.aload_n 0, 1) := by decide +kernel
theorem dX4_resend_52 : decode cX4_resend 52 = .ok (.getfield 28, 3) := by decide +kernel
theorem dX4_resend_55 : decode cX4_resend 55 = .ok (.iload_n 1, 1) := by decide +kernel
theorem dX4_resend_56 : decode cX4_resend 56 = .ok (.iaload, 1) := by decide +kernel
theorem dX4_resend_57 : decode cX4_resend 57 = .ok (.aload_n 0, 1) := by decide +kernel
theorem dX4_resend_58 : decode cX4_resend 58 = .ok (.getfield 31, 3) := by decide +kernel
theorem dX4_resend_61 : decode cX4_resend 61 = .ok (.iload_n 1, 1) := by decide +kernel
theorem dX4_resend_62 : decode cX4_resend 62 = .ok (.iaload, 1) := by decide +kernel
theorem dX4_resend_63 : decode cX4_resend 63 = .ok (.aload_n 0, 1) := by decide +kernel
theorem dX4_resend_64 : decode cX4_resend 64 = .ok (.getfield 34, 3) := by decide +kernel
theorem dX4_resend_67 : decode cX4_resend 67 = .ok (.iload_n 1, 1) := by decide +kernel
theorem dX4_resend_68 : decode cX4_resend 68 = .ok (.iaload, 1) := by decide +kernel
theorem dX4_resend_69 : decode cX4_resend 69 = .ok (.invokevirtual 71, 3) := by decide +kernel
theorem dX4_resend_72 : decode cX4_resend 72 = .ok (.aload_n 0, 1) := by decide +kernel
theorem dX4_resend_73 : decode cX4_resend 73 = .ok (.getfield 56, 3) := by decide +kernel
theorem dX4_resend_76 : decode cX4_resend 76 = .ok (.ireturn, 1) := by decide +kernel
theorem dX4_bidComes_0 : decode cX4_bidComes 0 = .ok (.aload_n 0, 1) := by decide +kernel
theorem dX4_bidComes_1 : decode cX4_bidComes 1 = .ok (.getfield 19, 3) := by decide +kernel
theorem dX4_bidComes_4 : decode cX4_bidComes 4 = .ok (.iload_n 2, 1) := by decide +kernel
theorem dX4_bidComes_5 : decode cX4_bidComes 5 = .ok (.iaload, 1) := by decide +kernel
theorem dX4_bidComes_6 : decode cX4_bidComes 6 = .ok (.iload_n 1, 1) := by decide +kernel
theorem dX4_bidComes_7 : decode cX4_bidComes 7 = .ok (.if_icmp .ne 17, 3) := by decide +kernel
theorem dX4_bidComes_10 : decode cX4_bidComes 10 = .ok (.aload_n 0, 1) := by decide +kernel
theorem dX4_bidComes_11 : decode cX4_bidComes 11 = .ok (.getfield 22, 3) := by decide +kernel
theorem dX4_bidComes_14 : decode cX4_bidComes 14 = .ok (.iload_n 2, 1) := by decide +kernel
theorem dX4_bidComes_15 : decode cX4_bidComes 15 = .ok (.iaload, 1) := by decide +kernel
theorem dX4_bidComes_16 : decode cX4_bidComes 16 = .ok (.iload_n 3, 1) := by decide +kernel
theorem dX4_bidComes_17 : decode cX4_bidComes 17 = .ok (.if_icmp .ne 7, 3) := by decide +kernel
theorem dX4_bidComes_20 : decode cX4_bidComes 20 = .ok (.iconst 1, 1) := by decide +kernel
theorem dX4_bidComes_21 : decode cX4_bidComes 21 = .ok (.goto 4, 3) := by decide +kernel
theorem dX4_bidComes_24 : decode cX4_bidComes 24 = .ok (.iconst 0, 1) := by decide +kernel
theorem dX4_bidComes_25 : decode cX4_bidComes 25 = .ok (.istore 5, 2) := by decide +kernel
theorem dX4_bidComes_27 : decode cX4_bidComes 27 = .ok (.iload 5, 2) := by decide +kernel
theorem dX4_bidComes_29 : decode cX4_bidComes 29 = .ok (.ifCond .ne 34, 3) := by decide +kernel
theorem dX4_bidComes_32 : decode cX4_bidComes 32 = .ok (.iload 4, 2) := by decide +kernel
theorem dX4_bidComes_34 : decode cX4_bidComes 34 = .ok (.aload_n 0, 1) := by decide +kernel
theorem dX4_bidComes_35 : decode cX4_bidComes 35 = .ok (.getfield 16, 3) := by decide +kernel
theorem dX4_bidComes_38 : decode cX4_bidComes 38 = .ok (.iload_n 2, 1) := by decide +kernel
theorem dX4_bidComes_39 : decode cX4_bidComes 39 = .ok (.iaload, 1) := by decide +kernel
theorem dX4_bidComes_40 : decode cX4_bidComes 40 = .ok (.aload_n 0, 1) := by decide +kernel
theorem dX4_bidComes_41 : decode cX4_bidComes 41 = .ok (.getfield 47, 3) := by decide +kernel
theorem dX4_bidComes_44 : decode cX4_bidComes 44 = .ok (.iadd, 1) := by decide +kernel
theorem dX4_bidComes_45 : decode cX4_bidComes 45 = .ok (.if_icmp .ge 18, 3) := by decide +kernel
theorem dX4_bidComes_48 : decode cX4_bidComes 48 = .ok (.aload_n 0, 1) := by decide +kernel
theorem dX4_bidComes_49 : decode cX4_bidComes 49 = .ok (.iconst 2, 1) := by decide +kernel
theorem dX4_bidComes_50 : decode cX4_bidComes 50 = .ok (.iload_n 1, 1) := by decide +kernel
theorem dX4_bidComes_51 : decode cX4_bidComes 51 = .ok (.iload_n 2, 1) := by decide +kernel
theorem dX4_bidComes_52 : decode cX4_bidComes 52 = .ok (.iload_n 3, 1) := by decide +kernel
theorem dX4_bidComes_53 : decode cX4_bidComes 53 = .ok (.aload_n 0, 1) := by decide +kernel
theorem dX4_bidComes_54 : decode cX4_bidComes 54 = .ok (.getfield 16, 3) := by decide +kernel
theorem dX4_bidComes_57 : decode cX4_bidComes 57 = .ok (.iload_n 2, 1) := by decide +kernel
theorem dX4_bidComes_58 : decode cX4_bidComes 58 = .ok (.iaload, 1) := by decide +kernel
theorem dX4_bidComes_59 : decode cX4_bidComes 59 = .ok (.invokevirtual 71, 3) := by decide +kernel
theorem dX4_bidComes_62 : decode cX4_bidComes 62 = .ok (.return_, 1) := by decide +kernel
theorem dX4_bidComes_63 : decode cX4_bidComes 63 = .ok (.iload 5, 2) := by decide +kernel
theorem dX4_bidComes_65 : decode cX4_bidComes 65 = .ok (.ifCond .ne 55, 3) := by decide +kernel
theorem dX4_bidComes_68 : decode cX4_bidComes 68 = .ok (.aload_n 0, 1) := by decide +kernel
theorem dX4_bidComes_69 : decode cX4_bidComes 69 = .ok (.getfield 16, 3) := by decide +kernel
theorem dX4_bidComes_72 : decode cX4_bidComes 72 = .ok (.iload_n 2, 1) := by decide +kernel
theorem dX4_bidComes_73 : decode cX4_bidComes 73 = .ok (.iload 4, 2) := by decide +kernel
theorem dX4_bidComes_75 : decode cX4_bidComes 75 = .ok (.iastore, 1) := by decide +kernel
theorem dX4_bidComes_76 : decode cX4_bidComes 76 = .ok (.aload_n 0, 1) := by decide +kernel
theorem dX4_bidComes_77 : decode cX4_bidComes 77 = .ok (.getfield 19, 3) := by decide +kernel
theorem dX4_bidComes_80 : decode cX4_bidComes 80 = .ok (.iload_n 2, 1) := by decide +kernel
theorem dX4_bidComes_81 : decode cX4_bidComes 81 = .ok (.iaload, 1) := by decide +kernel
theorem dX4_bidComes_82 : decode cX4_bidComes 82 = .ok (.iconst (-1), 1) := by decide +kernel
theorem dX4_bidComes_83 : decode cX4_bidComes 83 = .ok (.if_icmp .eq 23, 3) := by decide +kernel
theorem dX4_bidComes_86 : decode cX4_bidComes 86 = .ok (.aload_n 0, 1) := by decide +kernel
theorem dX4_bidComes_87 : decode cX4_bidComes 87 = .ok (.iconst 3, 1) := by decide +kernel
theorem dX4_bidComes_88 : decode cX4_bidComes 88 = .ok (.aload_n 0, 1) := by decide +kernel
theorem dX4_bidComes_89 : decode cX4_bidComes 89 = .ok (.getfield 19, 3) := by decide +kernel
theorem dX4_bidComes_92 : decode cX4_bidComes 92 = .ok (.iload_n 2, 1) := by decide +kernel
theorem dX4_bidComes_93 : decode cX4_bidComes 93 = .ok (.iaload, 1) := by decide +kernel
theorem dX4_bidComes_94 : decode cX4_bidComes 94 = .ok (.iload_n 2, 1) := by decide +kernel
theorem dX4_bidComes_95 : decode cX4_bidComes 95 = .ok (.aload_n 0, 1) := by decide +kernel
theorem dX4_bidComes_96 : decode cX4_bidComes 96 = .ok (.getfield 22, 3) := by decide +kernel
theorem dX4_bidComes_99 : decode cX4_bidComes 99 = .ok (.iload_n 2, 1) := by decide +kernel
theorem dX4_bidComes_100 : decode cX4_bidComes 100 = .ok (.iaload, 1) := by decide +kernel
theorem dX4_bidComes_101 : decode cX4_bidComes 101 = .ok (.iload 4, 2) := by decide +kernel
theorem dX4_bidComes_103 : decode cX4_bidComes 103 = .ok (.invokevirtual 71, 3) := by decide +kernel
theorem dX4_bidComes_106 : decode cX4_bidComes 106 = .ok (.aload_n 0, 1) := by decide +kernel
theorem dX4_bidComes_107 : decode cX4_bidComes 107 = .ok (.getfield 19, 3) := by decide +kernel
theorem dX4_bidComes_110 : decode cX4_bidComes 110 = .ok (.iload_n 2, 1) := by decide +kernel
theorem dX4_bidComes_111 : decode cX4_bidComes 111 = .ok (.iload_n 1, 1) := by decide +kernel
theorem dX4_bidComes_112 : decode cX4_bidComes 112 = .ok (.iastore, 1) := by decide +kernel
theorem dX4_bidComes_113 : decode cX4_bidComes 113 = .ok (.aload_n 0, 1) := by decide +kernel
theorem dX4_bidComes_114 : decode cX4_bidComes 114 = .ok (.getfield 22, 3) := by decide +kernel
theorem dX4_bidComes_117 : decode cX4_bidComes 117 = .ok (.iload_n 2, 1) := by decide +kernel
theorem dX4_bidComes_118 : decode cX4_bidComes 118 = .ok (.iload_n 3, 1) := by decide +kernel
theorem dX4_bidComes_119 : decode cX4_bidComes 119 = .ok (.iastore, 1) := by decide +kernel
theorem dX4_bidComes_120 : decode cX4_bidComes 120 = .ok (.aload_n 0, 1) := by decide +kernel
theorem dX4_bidComes_121 : decode cX4_bidComes 121 = .ok (.iconst 1, 1) := by decide +kernel
theorem dX4_bidComes_122 : decode cX4_bidComes 122 = .ok (.iload_n 1, 1) := by decide +kernel
end
section
/-! decode rows (starting text: printed by TURN) -/
theorem dX4_bidComes_123 : decode cX4_bidComes 123 = .ok (.iload_n 2, 1) := by decide +kernel
theorem dX4_bidComes_124 : decode cX4_bidComes 124 = .ok (.iload_n 3, 1) := by decide +kernel
theorem dX4_bidComes_125 : decode cX4_bidComes 125 = .ok (.aload_n 0, 1) := by decide +kernel
theorem dX4_bidComes_126 : decode cX4_bidComes 126 = .ok (.getfield 16, 3) := by decide +kernel
theorem dX4_bidComes_129 : decode cX4_bidComes 129 = .ok (.iload_n 2, 1) := by decide +kernel
theorem dX4_bidComes_130 : decode cX4_bidComes 130 = .ok (.iaload, 1) := by decide +kernel
theorem dX4_bidComes_131 : decode cX4_bidComes 131 = .ok (.invokevirtual 71, 3) := by decide +kernel
theorem dX4_bidComes_134 : decode cX4_bidComes 134 = .ok (.return_, 1) := by decide +kernel
theorem dX4_answerComes_0 : decode cX4_answerComes 0 = .ok (.aload_n 0, 1) := by decide +kernel
theorem dX4_answerComes_1 : decode cX4_answerComes 1 = .ok (.getfield 13, 3) := by decide +kernel
theorem dX4_answerComes_4 : decode cX4_answerComes 4 = .ok (.bipush 6, 2) := by decide +kernel
theorem dX4_answerComes_6 : decode cX4_answerComes 6 = .ok (.iload_n 2, 1) := by decide +kernel
theorem dX4_answerComes_7 : decode cX4_answerComes 7 = .ok (.imul, 1) := by decide +kernel
theorem dX4_answerComes_8 : decode cX4_answerComes 8 = .ok (.iload_n 3, 1) := by decide +kernel
theorem dX4_answerComes_9 : decode cX4_answerComes 9 = .ok (.iadd, 1) := by decide +kernel
theorem dX4_answerComes_10 : decode cX4_answerComes 10 = .ok (.iload 5, 2) := by decide +kernel
theorem dX4_answerComes_12 : decode cX4_answerComes 12 = .ok (.aload_n 0, 1) := by decide +kernel
theorem dX4_answerComes_13 : decode cX4_answerComes 13 = .ok (.getfield 13, 3) := by decide +kernel
theorem dX4_answerComes_16 : decode cX4_answerComes 16 = .ok (.bipush 6, 2) := by decide +kernel
theorem dX4_answerComes_18 : decode cX4_answerComes 18 = .ok (.iload_n 2, 1) := by decide +kernel
theorem dX4_answerComes_19 : decode cX4_answerComes 19 = .ok (.imul, 1) := by decide +kernel
theorem dX4_answerComes_20 : decode cX4_answerComes 20 = .ok (.iload_n 3, 1) := by decide +kernel
theorem dX4_answerComes_21 : decode cX4_answerComes 21 = .ok (.iadd, 1) := by decide +kernel
theorem dX4_answerComes_22 : decode cX4_answerComes 22 = .ok (.iaload, 1) := by decide +kernel
theorem dX4_answerComes_23 : decode cX4_answerComes 23 = .ok (.if_icmp .le 8, 3) := by decide +kernel
theorem dX4_answerComes_26 : decode cX4_answerComes 26 = .ok (.iload 5, 2) := by decide +kernel
theorem dX4_answerComes_28 : decode cX4_answerComes 28 = .ok (.goto 14, 3) := by decide +kernel
theorem dX4_answerComes_31 : decode cX4_answerComes 31 = .ok (.aload_n 0, 1) := by decide +kernel
theorem dX4_answerComes_32 : decode cX4_answerComes 32 = .ok (.getfield 13, 3) := by decide +kernel
theorem dX4_answerComes_35 : decode cX4_answerComes 35 = .ok (.bipush 6, 2) := by decide +kernel
theorem dX4_answerComes_37 : decode cX4_answerComes 37 = .ok (.iload_n 2, 1) := by decide +kernel
theorem dX4_answerComes_38 : decode cX4_answerComes 38 = .ok (.imul, 1) := by decide +kernel
theorem dX4_answerComes_39 : decode cX4_answerComes 39 = .ok (.iload_n 3, 1) := by decide +kernel
theorem dX4_answerComes_40 : decode cX4_answerComes 40 = .ok (.iadd, 1) := by decide +kernel
theorem dX4_answerComes_41 : decode cX4_answerComes 41 = .ok (.iaload, 1) := by decide +kernel
theorem dX4_answerComes_42 : decode cX4_answerComes 42 = .ok (.iastore, 1) := by decide +kernel
theorem dX4_answerComes_43 : decode cX4_answerComes 43 = .ok (.iload 4, 2) := by decide +kernel
theorem dX4_answerComes_45 : decode cX4_answerComes 45 = .ok (.aload_n 0, 1) := by decide +kernel
theorem dX4_answerComes_46 : decode cX4_answerComes 46 = .ok (.getfield 31, 3) := by decide +kernel
theorem dX4_answerComes_49 : decode cX4_answerComes 49 = .ok (.iload_n 2, 1) := by decide +kernel
theorem dX4_answerComes_50 : decode cX4_answerComes 50 = .ok (.iaload, 1) := by decide +kernel
theorem dX4_answerComes_51 : decode cX4_answerComes 51 = .ok (.if_icmp .eq 4, 3) := by decide +kernel
theorem dX4_answerComes_54 : decode cX4_answerComes 54 = .ok (.return_, 1) := by decide +kernel
theorem dX4_answerComes_55 : decode cX4_answerComes 55 = .ok (.iload_n 1, 1) := by decide +kernel
theorem dX4_answerComes_56 : decode cX4_answerComes 56 = .ok (.iconst 1, 1) := by decide +kernel
theorem dX4_answerComes_57 : decode cX4_answerComes 57 = .ok (.if_icmp .ne 32, 3) := by decide +kernel
theorem dX4_answerComes_60 : decode cX4_answerComes 60 = .ok (.aload_n 0, 1) := by decide +kernel
theorem dX4_answerComes_61 : decode cX4_answerComes 61 = .ok (.getfield 25, 3) := by decide +kernel
theorem dX4_answerComes_64 : decode cX4_answerComes 64 = .ok (.iload_n 2, 1) := by decide +kernel
theorem dX4_answerComes_65 : decode cX4_answerComes 65 = .ok (.aload_n 0, 1) := by decide +kernel
theorem dX4_answerComes_66 : decode cX4_answerComes 66 = .ok (.getfield 25, 3) := by decide +kernel
theorem dX4_answerComes_69 : decode cX4_answerComes 69 = .ok (.iload_n 2, 1) := by decide +kernel
theorem dX4_answerComes_70 : decode cX4_answerComes 70 = .ok (.iaload, 1) := by decide +kernel
theorem dX4_answerComes_71 : decode cX4_answerComes 71 = .ok (.iconst 1, 1) := by decide +kernel
theorem dX4_answerComes_72 : decode cX4_answerComes 72 = .ok (.if_icmp .ne 7, 3) := by decide +kernel
theorem dX4_answerComes_75 : decode cX4_answerComes 75 = .ok (.iconst 2, 1) := by decide +kernel
theorem dX4_answerComes_76 : decode cX4_answerComes 76 = .ok (.goto 9, 3) := by decide +kernel
theorem dX4_answerComes_79 : decode cX4_answerComes 79 = .ok (.aload_n 0, 1) := by decide +kernel
theorem dX4_answerComes_80 : decode cX4_answerComes 80 = .ok (.getfield 25, 3) := by decide +kernel
theorem dX4_answerComes_83 : decode cX4_answerComes 83 = .ok (.iload_n 2, 1) := by decide +kernel
theorem dX4_answerComes_84 : decode cX4_answerComes 84 = .ok (.iaload, 1) := by decide +kernel
theorem dX4_answerComes_85 : decode cX4_answerComes 85 = .ok (.iastore, 1) := by decide +kernel
theorem dX4_answerComes_86 : decode cX4_answerComes 86 = .ok (.goto 17, 3) := by decide +kernel
theorem dX4_answerComes_89 : decode cX4_answerComes 89 = .ok (.aload_n 0, 1) := by decide +kernel
theorem dX4_answerComes_90 : decode cX4_answerComes 90 = .ok (.getfield 25, 3) := by decide +kernel
theorem dX4_answerComes_93 : decode cX4_answerComes 93 = .ok (.iload_n 2, 1) := by decide +kernel
theorem dX4_answerComes_94 : decode cX4_answerComes 94 = .ok (.iconst 0, 1) := by decide +kernel
theorem dX4_answerComes_95 : decode cX4_answerComes 95 = .ok (.iastore, 1) := by decide +kernel
theorem dX4_answerComes_96 : decode cX4_answerComes 96 = .ok (.aload_n 0, 1) := by decide +kernel
theorem dX4_answerComes_97 : decode cX4_answerComes 97 = .ok (.getfield 28, 3) := by decide +kernel
theorem dX4_answerComes_100 : decode cX4_answerComes 100 = .ok (.iload_n 2, 1) := by decide +kernel
theorem dX4_answerComes_101 : decode cX4_answerComes 101 = .ok (.iconst (-1), 1) := by decide +kernel
theorem dX4_answerComes_102 : decode cX4_answerComes 102 = .ok (.iastore, 1) := by decide +kernel
theorem dX4_answerComes_103 : decode cX4_answerComes 103 = .ok (.return_, 1) := by decide +kernel
theorem dX4_deliver_0 : decode cX4_deliver 0 = .ok (.aload_n 0, 1) := by decide +kernel
theorem dX4_deliver_1 : decode cX4_deliver 1 = .ok (.aload_n 0, 1) := by decide +kernel
theorem dX4_deliver_2 : decode cX4_deliver 2 = .ok (.iload_n 1, 1) := by decide +kernel
theorem dX4_deliver_3 : decode cX4_deliver 3 = .ok (.invokevirtual 75, 3) := by decide +kernel
theorem dX4_deliver_6 : decode cX4_deliver 6 = .ok (.ifCond .eq 7, 3) := by decide +kernel
theorem dX4_deliver_9 : decode cX4_deliver 9 = .ok (.iconst 1, 1) := by decide +kernel
theorem dX4_deliver_10 : decode cX4_deliver 10 = .ok (.goto 4, 3) := by decide +kernel
theorem dX4_deliver_13 : decode cX4_deliver 13 = .ok (.iconst 0, 1) := by decide +kernel
theorem dX4_deliver_14 : decode cX4_deliver 14 = .ok (.putfield 53, 3) := by decide +kernel
theorem dX4_deliver_17 : decode cX4_deliver 17 = .ok (.aload_n 0, 1) := by decide +kernel
theorem dX4_deliver_18 : decode cX4_deliver 18 = .ok (.getfield 53, 3) := by decide +kernel
theorem dX4_deliver_21 : decode cX4_deliver 21 = .ok (.ifCond .eq 5, 3) := by decide +kernel
theorem dX4_deliver_24 : decode cX4_deliver 24 = .ok (.iconst 0, 1) := by decide +kernel
theorem dX4_deliver_25 : decode cX4_deliver 25 = .ok (.ireturn, 1) := by decide +kernel
theorem dX4_deliver_26 : decode cX4_deliver 26 = .ok (.aload_n 0, 1) := by decide +kernel
theorem dX4_deliver_27 : decode cX4_deliver 27 = .ok (.getfield 37, 3) := by decide +kernel
theorem dX4_deliver_30 : decode cX4_deliver 30 = .ok (.iconst 5, 1) := by decide +kernel
theorem dX4_deliver_31 : decode cX4_deliver 31 = .ok (.iload_n 1, 1) := by decide +kernel
theorem dX4_deliver_32 : decode cX4_deliver 32 = .ok (.imul, 1) := by decide +kernel
theorem dX4_deliver_33 : decode cX4_deliver 33 = .ok (.iaload, 1) := by decide +kernel
theorem dX4_deliver_34 : decode cX4_deliver 34 = .ok (.istore_n 2, 1) := by decide +kernel
theorem dX4_deliver_35 : decode cX4_deliver 35 = .ok (.aload_n 0, 1) := by decide +kernel
theorem dX4_deliver_36 : decode cX4_deliver 36 = .ok (.getfield 37, 3) := by decide +kernel
theorem dX4_deliver_39 : decode cX4_deliver 39 = .ok (.iconst 5, 1) := by decide +kernel
theorem dX4_deliver_40 : decode cX4_deliver 40 = .ok (.iload_n 1, 1) := by decide +kernel
theorem dX4_deliver_41 : decode cX4_deliver 41 = .ok (.imul, 1) := by decide +kernel
theorem dX4_deliver_42 : decode cX4_deliver 42 = .ok (.iconst 1, 1) := by decide +kernel
theorem dX4_deliver_43 : decode cX4_deliver 43 = .ok (.iadd, 1) := by decide +kernel
theorem dX4_deliver_44 : decode cX4_deliver 44 = .ok (.iaload, 1) := by decide +kernel
theorem dX4_deliver_45 : decode cX4_deliver 45 = .ok (.istore_n 3, 1) := by decide +kernel
theorem dX4_deliver_46 : decode cX4_deliver 46 = .ok (.aload_n 0, 1) := by decide +kernel
theorem dX4_deliver_47 : decode cX4_deliver 47 = .ok (.getfield 37, 3) := by decide +kernel
theorem dX4_deliver_50 : decode cX4_deliver 50 = .ok (.iconst 5, 1) := by decide +kernel
theorem dX4_deliver_51 : decode cX4_deliver 51 = .ok (.iload_n 1, 1) := by decide +kernel
theorem dX4_deliver_52 : decode cX4_deliver 52 = .ok (.imul, 1) := by decide +kernel
theorem dX4_deliver_53 : decode cX4_deliver 53 = .ok (.iconst 2, 1) := by decide +kernel
theorem dX4_deliver_54 : decode cX4_deliver 54 = .ok (.iadd, 1) := by decide +kernel
theorem dX4_deliver_55 : decode cX4_deliver 55 = .ok (.iaload, 1) := by decide +kernel
theorem dX4_deliver_56 : decode cX4_deliver 56 = .ok (.istore 4, 2) := by decide +kernel
theorem dX4_deliver_58 : decode cX4_deliver 58 = .ok (.aload_n 0, 1) := by decide +kernel
theorem dX4_deliver_59 : decode cX4_deliver 59 = .ok (.getfield 37, 3) := by decide +kernel
theorem dX4_deliver_62 : decode cX4_deliver 62 = .ok (.iconst 5, 1) := by decide +kernel
theorem dX4_deliver_63 : decode cX4_deliver 63 = .ok (.iload_n 1, 1) := by decide +kernel
theorem dX4_deliver_64 : decode cX4_deliver 64 = .ok (.imul, 1) := by decide +kernel
theorem dX4_deliver_65 : decode cX4_deliver 65 = .ok (.iconst 3, 1) := by decide +kernel
theorem dX4_deliver_66 : decode cX4_deliver 66 = .ok (.iadd, 1) := by decide +kernel
theorem dX4_deliver_67 : decode cX4_deliver 67 = .ok (.iaload, 1) := by decide +kernel
theorem dX4_deliver_68 : decode cX4_deliver 68 = .ok (.istore 5, 2) := by decide +kernel
theorem dX4_deliver_70 : decode cX4_deliver 70 = .ok (.aload_n 0, 1) := by decide +kernel
theorem dX4_deliver_71 : decode cX4_deliver 71 = .ok (.getfield 37, 3) := by decide +kernel
theorem dX4_deliver_74 : decode cX4_deliver 74 = .ok (.iconst 5, 1) := by decide +kernel
theorem dX4_deliver_75 : decode cX4_deliver 75 = .ok (.iload_n 1, 1) := by decide +kernel
theorem dX4_deliver_76 : decode cX4_deliver 76 = .ok (.imul, 1) := by decide +kernel
theorem dX4_deliver_77 : decode cX4_deliver 77 = .ok (.iconst 4, 1) := by decide +kernel
theorem dX4_deliver_78 : decode cX4_deliver 78 = .ok (.iadd, 1) := by decide +kernel
theorem dX4_deliver_79 : decode cX4_deliver 79 = .ok (.iaload, 1) := by decide +kernel
theorem dX4_deliver_80 : decode cX4_deliver 80 = .ok (.istore 6, 2) := by decide +kernel
theorem dX4_deliver_82 : decode cX4_deliver 82 = .ok (.aload_n 0, 1) := by decide +kernel
theorem dX4_deliver_83 : decode cX4_deliver 83 = .ok (.iload_n 1, 1) := by decide +kernel
theorem dX4_deliver_84 : decode cX4_deliver 84 = .ok (.invokevirtual 78, 3) := by decide +kernel
theorem dX4_deliver_87 : decode cX4_deliver 87 = .ok (.iload_n 2, 1) := by decide +kernel
theorem dX4_deliver_88 : decode cX4_deliver 88 = .ok (.ifCond .ne 17, 3) := by decide +kernel
theorem dX4_deliver_91 : decode cX4_deliver 91 = .ok (.aload_n 0, 1) := by decide +kernel
theorem dX4_deliver_92 : decode cX4_deliver 92 = .ok (.iload_n 3, 1) := by decide +kernel
theorem dX4_deliver_93 : decode cX4_deliver 93 = .ok (.iload 4, 2) := by decide +kernel
theorem dX4_deliver_95 : decode cX4_deliver 95 = .ok (.iload 5, 2) := by decide +kernel
theorem dX4_deliver_97 : decode cX4_deliver 97 = .ok (.iload 6, 2) := by decide +kernel
theorem dX4_deliver_99 : decode cX4_deliver 99 = .ok (.invokevirtual 82, 3) := by decide +kernel
theorem dX4_deliver_102 : decode cX4_deliver 102 = .ok (.goto 15, 3) := by decide +kernel
theorem dX4_deliver_105 : decode cX4_deliver 105 = .ok (.aload_n 0, 1) := by decide +kernel
theorem dX4_deliver_106 : decode cX4_deliver 106 = .ok (.iload_n 2, 1) := by decide +kernel
theorem dX4_deliver_107 : decode cX4_deliver 107 = .ok (.iload_n 3, 1) := by decide +kernel
theorem dX4_deliver_108 : decode cX4_deliver 108 = .ok (.iload 4, 2) := by decide +kernel
theorem dX4_deliver_110 : decode cX4_deliver 110 = .ok (.iload 5, 2) := by decide +kernel
theorem dX4_deliver_112 : decode cX4_deliver 112 = .ok (.iload 6, 2) := by decide +kernel
theorem dX4_deliver_114 : decode cX4_deliver 114 = .ok (.invokevirtual 86, 3) := by decide +kernel
theorem dX4_deliver_117 : decode cX4_deliver 117 = .ok (.iload_n 2, 1) := by decide +kernel
theorem dX4_deliver_118 : decode cX4_deliver 118 = .ok (.ireturn, 1) := by decide +kernel
theorem dX4_lose_0 : decode cX4_lose 0 = .ok (.aload_n 0, 1) := by decide +kernel
theorem dX4_lose_1 : decode cX4_lose 1 = .ok (.aload_n 0, 1) := by decide +kernel
theorem dX4_lose_2 : decode cX4_lose 2 = .ok (.iload_n 1, 1) := by decide +kernel
theorem dX4_lose_3 : decode cX4_lose 3 = .ok (.invokevirtual 75, 3) := by decide +kernel
theorem dX4_lose_6 : decode cX4_lose 6 = .ok (.ifCond .eq 7, 3) := by decide +kernel
theorem dX4_lose_9 : decode cX4_lose 9 = .ok (.iconst 1, 1) := by decide +kernel
theorem dX4_lose_10 : decode cX4_lose 10 = .ok (.goto 4, 3) := by decide +kernel
theorem dX4_lose_13 : decode cX4_lose 13 = .ok (.iconst 0, 1) := by decide +kernel
theorem dX4_lose_14 : decode cX4_lose 14 = .ok (.putfield 53, 3) := by decide +kernel
theorem dX4_lose_17 : decode cX4_lose 17 = .ok (.aload_n 0, 1) := by decide +kernel
theorem dX4_lose_18 : decode cX4_lose 18 = .ok (.getfield 53, 3) := by decide +kernel
theorem dX4_lose_21 : decode cX4_lose 21 = .ok (.ifCond .ne 8, 3) := by decide +kernel
theorem dX4_lose_24 : decode cX4_lose 24 = .ok (.aload_n 0, 1) := by decide +kernel
theorem dX4_lose_25 : decode cX4_lose 25 = .ok (.iload_n 1, 1) := by decide +kernel
theorem dX4_lose_26 : decode cX4_lose 26 = .ok (.invokevirtual 78, 3) := by decide +kernel
theorem dX4_lose_29 : decode cX4_lose 29 = .ok (.aload_n 0, 1) := by decide +kernel
theorem dX4_lose_30 : decode cX4_lose 30 = .ok (.getfield 53, 3) := by decide +kernel
theorem dX4_lose_33 : decode cX4_lose 33 = .ok (.ifCond .ne 10, 3) := by decide +kernel
theorem dX4_lose_36 : decode cX4_lose 36 = .ok (.aload_n 0, 1) := by decide +kernel
theorem dX4_lose_37 : decode cX4_lose 37 = .ok (.getfield 56, 3) := by decide +kernel
theorem dX4_lose_40 : decode cX4_lose 40 = .ok (.goto 4, 3) := by decide +kernel
theorem dX4_lose_43 : decode cX4_lose 43 = .ok (.iconst 0, 1) := by decide +kernel
theorem dX4_lose_44 : decode cX4_lose 44 = .ok (.ireturn, 1) := by decide +kernel
theorem dX4_twin_0 : decode cX4_twin 0 = .ok (.aload_n 0, 1) := by decide +kernel
theorem dX4_twin_1 : decode cX4_twin 1 = .ok (.aload_n 0, 1) := by decide +kernel
theorem dX4_twin_2 : decode cX4_twin 2 = .ok (.iload_n 1, 1) := by decide +kernel
theorem dX4_twin_3 : decode cX4_twin 3 = .ok (.invokevirtual 75, 3) := by decide +kernel
theorem dX4_twin_6 : decode cX4_twin 6 = .ok (.ifCond .eq 7, 3) := by decide +kernel
theorem dX4_twin_9 : decode cX4_twin 9 = .ok (.iconst 1, 1) := by decide +kernel
theorem dX4_twin_10 : decode cX4_twin 10 = .ok (.goto 17, 3) := by decide +kernel
theorem dX4_twin_13 : decode cX4_twin 13 = .ok (.aload_n 0, 1) := by decide +kernel
theorem dX4_twin_14 : decode cX4_twin 14 = .ok (.getfield 56, 3) := by decide +kernel
theorem dX4_twin_17 : decode cX4_twin 17 = .ok (.bipush 39, 2) := by decide +kernel
theorem dX4_twin_19 : decode cX4_twin 19 = .ok (.if_icmp .le 7, 3) := by decide +kernel
theorem dX4_twin_22 : decode cX4_twin 22 = .ok (.iconst 2, 1) := by decide +kernel
theorem dX4_twin_23 : decode cX4_twin 23 = .ok (.goto 4, 3) := by decide +kernel
theorem dX4_twin_26 : decode cX4_twin 26 = .ok (.iconst 0, 1) := by decide +kernel
theorem dX4_twin_27 : decode cX4_twin 27 = .ok (.putfield 53, 3) := by decide +kernel
theorem dX4_twin_30 : decode cX4_twin 30 = .ok (.aload_n 0, 1) := by decide +kernel
theorem dX4_twin_31 : decode cX4_twin 31 = .ok (.getfield 53, 3) := by decide +kernel
theorem dX4_twin_34 : decode cX4_twin 34 = .ok (.ifCond .eq 5, 3) := by decide +kernel
theorem dX4_twin_37 : decode cX4_twin 37 = .ok (.iconst 0, 1) := by decide +kernel
theorem dX4_twin_38 : decode cX4_twin 38 = .ok (.ireturn, 1) := by decide +kernel
theorem dX4_twin_39 : decode cX4_twin 39 = .ok (.iconst 0, 1) := by decide +kernel
theorem dX4_twin_40 : decode cX4_twin 40 = .ok (.istore_n 2, 1) := by decide +kernel
theorem dX4_twin_41 : decode cX4_twin 41 = .ok (.iload_n 2, 1) := by decide +kernel
theorem dX4_twin_42 : decode cX4_twin 42 = .ok (.iconst 5, 1) := by decide +kernel
theorem dX4_twin_43 : decode cX4_twin 43 = .ok (.if_icmp .ge 32, 3) := by decide +kernel
theorem dX4_twin_46 : decode cX4_twin 46 = .ok (.aload_n 0, 1) := by decide +kernel
theorem dX4_twin_47 : decode cX4_twin 47 = .ok (.getfield 37, 3) := by decide +kernel
theorem dX4_twin_50 : decode cX4_twin 50 = .ok (.iconst 5, 1) := by decide +kernel
theorem dX4_twin_51 : decode cX4_twin 51 = .ok (.aload_n 0, 1) := by decide +kernel
theorem dX4_twin_52 : decode cX4_twin 52 = .ok (.getfield 56, 3) := by decide +kernel
theorem dX4_twin_55 : decode cX4_twin 55 = .ok (.imul, 1) := by decide +kernel
theorem dX4_twin_56 : decode cX4_twin 56 = .ok (.iload_n 2, 1) := by decide +kernel
theorem dX4_twin_57 : decode cX4_twin 57 = .ok (.iadd, 1) := by decide +kernel
theorem dX4_twin_58 : decode cX4_twin 58 = .ok (.aload_n 0, 1) := by decide +kernel
theorem dX4_twin_59 : decode cX4_twin 59 = .ok (.getfield 37, 3) := by decide +kernel
theorem dX4_twin_62 : decode cX4_twin 62 = .ok (.iconst 5, 1) := by decide +kernel
theorem dX4_twin_63 : decode cX4_twin 63 = .ok (.iload_n 1, 1) := by decide +kernel
theorem dX4_twin_64 : decode cX4_twin 64 = .ok (.imul, 1) := by decide +kernel
theorem dX4_twin_65 : decode cX4_twin 65 = .ok (.iload_n 2, 1) := by decide +kernel
theorem dX4_twin_66 : decode cX4_twin 66 = .ok (.iadd, 1) := by decide +kernel
theorem dX4_twin_67 : decode cX4_twin 67 = .ok (.iaload, 1) := by decide +kernel
theorem dX4_twin_68 : decode cX4_twin 68 = .ok (.iastore, 1) := by decide +kernel
theorem dX4_twin_69 : decode cX4_twin 69 = .ok (.iinc 2 1, 3) := by decide +kernel
theorem dX4_twin_72 : decode cX4_twin 72 = .ok (.goto (-31), 3) := by decide +kernel
theorem dX4_twin_75 : decode cX4_twin 75 = .ok (.aload_n 0, 1) := by decide +kernel
theorem dX4_twin_76 : decode cX4_twin 76 = .ok (.dup, 1) := by decide +kernel
theorem dX4_twin_77 : decode cX4_twin 77 = .ok (.getfield 56, 3) := by decide +kernel
theorem dX4_twin_80 : decode cX4_twin 80 = .ok (.iconst 1, 1) := by decide +kernel
theorem dX4_twin_81 : decode cX4_twin 81 = .ok (.iadd, 1) := by decide +kernel
theorem dX4_twin_82 : decode cX4_twin 82 = .ok (.putfield 56, 3) := by decide +kernel
theorem dX4_twin_85 : decode cX4_twin 85 = .ok (.aload_n 0, 1) := by decide +kernel
theorem dX4_twin_86 : decode cX4_twin 86 = .ok (.getfield 56, 3) := by decide +kernel
theorem dX4_twin_89 : decode cX4_twin 89 = .ok (.ireturn, 1) := by decide +kernel
theorem dX4_letters_0 : decode cX4_letters 0 = .ok (.aload_n 0, 1) := by decide +kernel
theorem dX4_letters_1 : decode cX4_letters 1 = .ok (.iconst 0, 1) := by decide +kernel
theorem dX4_letters_2 : decode cX4_letters 2 = .ok (.putfield 53, 3) := by decide +kernel
theorem dX4_letters_5 : decode cX4_letters 5 = .ok (.aload_n 0, 1) := by decide +kernel
theorem dX4_letters_6 : decode cX4_letters 6 = .ok (.getfield 56, 3) := by decide +kernel
theorem dX4_letters_9 : decode cX4_letters 9 = .ok (.ireturn, 1) := by decide +kernel
theorem dX4_letter_0 : decode cX4_letter 0 = .ok (.aload_n 0, 1) := by decide +kernel
theorem dX4_letter_1 : decode cX4_letter 1 = .ok (.aload_n 0, 1) := by decide +kernel
theorem dX4_letter_2 : decode cX4_letter 2 = .ok (.iload_n 1, 1) := by decide +kernel
theorem dX4_letter_3 : decode cX4_letter 3 = .ok (.invokevirtual 75, 3) := by decide +kernel
theorem dX4_letter_6 : decode cX4_letter 6 = .ok (.ifCond .eq 7, 3) := by decide +kernel
theorem dX4_letter_9 : decode cX4_letter 9 = .ok (.iconst 1, 1) := by decide +kernel
theorem dX4_letter_10 : decode cX4_letter 10 = .ok (.goto 17, 3) := by decide +kernel
theorem dX4_letter_13 : decode cX4_letter 13 = .ok (.iload_n 2, 1) := by decide +kernel
theorem dX4_letter_14 : decode cX4_letter 14 = .ok (.ifCond .lt 8, 3) := by decide +kernel
theorem dX4_letter_17 : decode cX4_letter 17 = .ok (.iload_n 2, 1) := by decide +kernel
theorem dX4_letter_18 : decode cX4_letter 18 = .ok (.iconst 4, 1) := by decide +kernel
theorem dX4_letter_19 : decode cX4_letter 19 = .ok (.if_icmp .le 7, 3) := by decide +kernel
theorem dX4_letter_22 : decode cX4_letter 22 = .ok (.iconst 2, 1) := by decide +kernel
theorem dX4_letter_23 : decode cX4_letter 23 = .ok (.goto 4, 3) := by decide +kernel
theorem dX4_letter_26 : decode cX4_letter 26 = .ok (.iconst 0, 1) := by decide +kernel
theorem dX4_letter_27 : decode cX4_letter 27 = .ok (.putfield 53, 3) := by decide +kernel
theorem dX4_letter_30 : decode cX4_letter 30 = .ok (.aload_n 0, 1) := by decide +kernel
theorem dX4_letter_31 : decode cX4_letter 31 = .ok (.getfield 53, 3) := by decide +kernel
theorem dX4_letter_34 : decode cX4_letter 34 = .ok (.ifCond .ne 16, 3) := by decide +kernel
theorem dX4_letter_37 : decode cX4_letter 37 = .ok (.aload_n 0, 1) := by decide +kernel
theorem dX4_letter_38 : decode cX4_letter 38 = .ok (.getfield 37, 3) := by decide +kernel
theorem dX4_letter_41 : decode cX4_letter 41 = .ok (.iconst 5, 1) := by decide +kernel
theorem dX4_letter_42 : decode cX4_letter 42 = .ok (.iload_n 1, 1) := by decide +kernel
theorem dX4_letter_43 : decode cX4_letter 43 = .ok (.imul, 1) := by decide +kernel
theorem dX4_letter_44 : decode cX4_letter 44 = .ok (.iload_n 2, 1) := by decide +kernel
theorem dX4_letter_45 : decode cX4_letter 45 = .ok (.iadd, 1) := by decide +kernel
theorem dX4_letter_46 : decode cX4_letter 46 = .ok (.iaload, 1) := by decide +kernel
theorem dX4_letter_47 : decode cX4_letter 47 = .ok (.goto 4, 3) := by decide +kernel
theorem dX4_letter_50 : decode cX4_letter 50 = .ok (.iconst 0, 1) := by decide +kernel
theorem dX4_letter_51 : decode cX4_letter 51 = .ok (.ireturn, 1) := by decide +kernel
theorem dX4_profitOf_0 : decode cX4_profitOf 0 = .ok (.aload_n 0, 1) := by decide +kernel
theorem dX4_profitOf_1 : decode cX4_profitOf 1 = .ok (.getfield 7, 3) := by decide +kernel
theorem dX4_profitOf_4 : decode cX4_profitOf 4 = .ok (.bipush 6, 2) := by decide +kernel
theorem dX4_profitOf_6 : decode cX4_profitOf 6 = .ok (.iload_n 1, 1) := by decide +kernel
theorem dX4_profitOf_7 : decode cX4_profitOf 7 = .ok (.imul, 1) := by decide +kernel
theorem dX4_profitOf_8 : decode cX4_profitOf 8 = .ok (.iaload, 1) := by decide +kernel
theorem dX4_profitOf_9 : decode cX4_profitOf 9 = .ok (.aload_n 0, 1) := by decide +kernel
theorem dX4_profitOf_10 : decode cX4_profitOf 10 = .ok (.getfield 43, 3) := by decide +kernel
theorem dX4_profitOf_13 : decode cX4_profitOf 13 = .ok (.iconst 1, 1) := by decide +kernel
theorem dX4_profitOf_14 : decode cX4_profitOf 14 = .ok (.iadd, 1) := by decide +kernel
theorem dX4_profitOf_15 : decode cX4_profitOf 15 = .ok (.imul, 1) := by decide +kernel
theorem dX4_profitOf_16 : decode cX4_profitOf 16 = .ok (.aload_n 0, 1) := by decide +kernel
theorem dX4_profitOf_17 : decode cX4_profitOf 17 = .ok (.getfield 16, 3) := by decide +kernel
theorem dX4_profitOf_20 : decode cX4_profitOf 20 = .ok (.iconst 0, 1) := by decide +kernel
theorem dX4_profitOf_21 : decode cX4_profitOf 21 = .ok (.iaload, 1) := by decide +kernel
theorem dX4_profitOf_22 : decode cX4_profitOf 22 = .ok (.isub, 1) := by decide +kernel
theorem dX4_profitOf_23 : decode cX4_profitOf 23 = .ok (.istore_n 2, 1) := by decide +kernel
theorem dX4_profitOf_24 : decode cX4_profitOf 24 = .ok (.iconst 1, 1) := by decide +kernel
theorem dX4_profitOf_25 : decode cX4_profitOf 25 = .ok (.istore_n 3, 1) := by decide +kernel
theorem dX4_profitOf_26 : decode cX4_profitOf 26 = .ok (.iload_n 3, 1) := by decide +kernel
theorem dX4_profitOf_27 : decode cX4_profitOf 27 = .ok (.aload_n 0, 1) := by decide +kernel
theorem dX4_profitOf_28 : decode cX4_profitOf 28 = .ok (.getfield 43, 3) := by decide +kernel
theorem dX4_profitOf_31 : decode cX4_profitOf 31 = .ok (.if_icmp .ge 49, 3) := by decide +kernel
theorem dX4_profitOf_34 : decode cX4_profitOf 34 = .ok (.aload_n 0, 1) := by decide +kernel
theorem dX4_profitOf_35 : decode cX4_profitOf 35 = .ok (.getfield 7, 3) := by decide +kernel
theorem dX4_profitOf_38 : decode cX4_profitOf 38 = .ok (.bipush 6, 2) := by decide +kernel
theorem dX4_profitOf_40 : decode cX4_profitOf 40 = .ok (.iload_n 1, 1) := by decide +kernel
theorem dX4_profitOf_41 : decode cX4_profitOf 41 = .ok (.imul, 1) := by decide +kernel
theorem dX4_profitOf_42 : decode cX4_profitOf 42 = .ok (.iload_n 3, 1) := by decide +kernel
theorem dX4_profitOf_43 : decode cX4_profitOf 43 = .ok (.iadd, 1) := by decide +kernel
theorem dX4_profitOf_44 : decode cX4_profitOf 44 = .ok (.iaload, 1) := by decide +kernel
theorem dX4_profitOf_45 : decode cX4_profitOf 45 = .ok (.aload_n 0, 1) := by decide +kernel
theorem dX4_profitOf_46 : decode cX4_profitOf 46 = .ok (.getfield 43, 3) := by decide +kernel
theorem dX4_profitOf_49 : decode cX4_profitOf 49 = .ok (.iconst 1, 1) := by decide +kernel
theorem dX4_profitOf_50 : decode cX4_profitOf 50 = .ok (.iadd, 1) := by decide +kernel
theorem dX4_profitOf_51 : decode cX4_profitOf 51 = .ok (.imul, 1) := by decide +kernel
theorem dX4_profitOf_52 : decode cX4_profitOf 52 = .ok (.aload_n 0, 1) := by decide +kernel
theorem dX4_profitOf_53 : decode cX4_profitOf 53 = .ok (.getfield 16, 3) := by decide +kernel
theorem dX4_profitOf_56 : decode cX4_profitOf 56 = .ok (.iload_n 3, 1) := by decide +kernel
theorem dX4_profitOf_57 : decode cX4_profitOf 57 = .ok (.iaload, 1) := by decide +kernel
theorem dX4_profitOf_58 : decode cX4_profitOf 58 = .ok (.isub, 1) := by decide +kernel
theorem dX4_profitOf_59 : decode cX4_profitOf 59 = .ok (.istore 4, 2) := by decide +kernel
theorem dX4_profitOf_61 : decode cX4_profitOf 61 = .ok (.iload 4, 2) := by decide +kernel
theorem dX4_profitOf_63 : decode cX4_profitOf 63 = .ok (.iload_n 2, 1) := by decide +kernel
theorem dX4_profitOf_64 : decode cX4_profitOf 64 = .ok (.if_icmp .le 8, 3) := by decide +kernel
theorem dX4_profitOf_67 : decode cX4_profitOf 67 = .ok (.iload 4, 2) := by decide +kernel
theorem dX4_profitOf_69 : decode cX4_profitOf 69 = .ok (.goto 4, 3) := by decide +kernel
theorem dX4_profitOf_72 : decode cX4_profitOf 72 = .ok (.iload_n 2, 1) := by decide +kernel
theorem dX4_profitOf_73 : decode cX4_profitOf 73 = .ok (.istore_n 2, 1) := by decide +kernel
theorem dX4_profitOf_74 : decode cX4_profitOf 74 = .ok (.iinc 3 1, 3) := by decide +kernel
theorem dX4_profitOf_77 : decode cX4_profitOf 77 = .ok (.goto (-51), 3) := by decide +kernel
theorem dX4_profitOf_80 : decode cX4_profitOf 80 = .ok (.iload_n 2, 1) := by decide +kernel
theorem dX4_profitOf_81 : decode cX4_profitOf 81 = .ok (.ireturn, 1) := by decide +kernel
theorem dX4_crew_0 : decode cX4_crew 0 = .ok (.aload_n 0, 1) := by decide +kernel
theorem dX4_crew_1 : decode cX4_crew 1 = .ok (.aload_n 0, 1) := by decide +kernel
theorem dX4_crew_2 : decode cX4_crew 2 = .ok (.iload_n 1, 1) := by decide +kernel
theorem dX4_crew_3 : decode cX4_crew 3 = .ok (.invokevirtual 63, 3) := by decide +kernel
theorem dX4_crew_6 : decode cX4_crew 6 = .ok (.ifCond .ne 12, 3) := by decide +kernel
theorem dX4_crew_9 : decode cX4_crew 9 = .ok (.iload_n 2, 1) := by decide +kernel
theorem dX4_crew_10 : decode cX4_crew 10 = .ok (.ifCond .lt 8, 3) := by decide +kernel
theorem dX4_crew_13 : decode cX4_crew 13 = .ok (.iload_n 2, 1) := by decide +kernel
theorem dX4_crew_14 : decode cX4_crew 14 = .ok (.iconst 3, 1) := by decide +kernel
theorem dX4_crew_15 : decode cX4_crew 15 = .ok (.if_icmp .le 7, 3) := by decide +kernel
theorem dX4_crew_18 : decode cX4_crew 18 = .ok (.iconst 1, 1) := by decide +kernel
theorem dX4_crew_19 : decode cX4_crew 19 = .ok (.goto 4, 3) := by decide +kernel
theorem dX4_crew_22 : decode cX4_crew 22 = .ok (.iconst 0, 1) := by decide +kernel
theorem dX4_crew_23 : decode cX4_crew 23 = .ok (.putfield 53, 3) := by decide +kernel
theorem dX4_crew_26 : decode cX4_crew 26 = .ok (.aload_n 0, 1) := by decide +kernel
theorem dX4_crew_27 : decode cX4_crew 27 = .ok (.getfield 53, 3) := by decide +kernel
theorem dX4_crew_30 : decode cX4_crew 30 = .ok (.ifCond .eq 5, 3) := by decide +kernel
theorem dX4_crew_33 : decode cX4_crew 33 = .ok (.iconst 0, 1) := by decide +kernel
theorem dX4_crew_34 : decode cX4_crew 34 = .ok (.ireturn, 1) := by decide +kernel
theorem dX4_crew_35 : decode cX4_crew 35 = .ok (.iload_n 2, 1) := by decide +kernel
theorem dX4_crew_36 : decode cX4_crew 36 = .ok (.ifCond .ne 12, 3) := by decide +kernel
theorem dX4_crew_39 : decode cX4_crew 39 = .ok (.aload_n 0, 1) := by decide +kernel
theorem dX4_crew_40 : decode cX4_crew 40 = .ok (.getfield 25, 3) := by decide +kernel
theorem dX4_crew_43 : decode cX4_crew 43 = .ok (.iload_n 1, 1) := by decide +kernel
theorem dX4_crew_44 : decode cX4_crew 44 = .ok (.iaload, 1) := by decide +kernel
theorem dX4_crew_45 : decode cX4_crew 45 = .ok (.goto 36, 3) := by decide +kernel
theorem dX4_crew_48 : decode cX4_crew 48 = .ok (.iload_n 2, 1) := by decide +kernel
theorem dX4_crew_49 : decode cX4_crew 49 = .ok (.iconst 1, 1) := by decide +kernel
theorem dX4_crew_50 : decode cX4_crew 50 = .ok (.if_icmp .ne 12, 3) := by decide +kernel
theorem dX4_crew_53 : decode cX4_crew 53 = .ok (.aload_n 0, 1) := by decide +kernel
theorem dX4_crew_54 : decode cX4_crew 54 = .ok (.getfield 28, 3) := by decide +kernel
theorem dX4_crew_57 : decode cX4_crew 57 = .ok (.iload_n 1, 1) := by decide +kernel
theorem dX4_crew_58 : decode cX4_crew 58 = .ok (.iaload, 1) := by decide +kernel
theorem dX4_crew_59 : decode cX4_crew 59 = .ok (.goto 22, 3) := by decide +kernel
theorem dX4_crew_62 : decode cX4_crew 62 = .ok (.iload_n 2, 1) := by decide +kernel
theorem dX4_crew_63 : decode cX4_crew 63 = .ok (.iconst 2, 1) := by decide +kernel
theorem dX4_crew_64 : decode cX4_crew 64 = .ok (.if_icmp .ne 12, 3) := by decide +kernel
theorem dX4_crew_67 : decode cX4_crew 67 = .ok (.aload_n 0, 1) := by decide +kernel
theorem dX4_crew_68 : decode cX4_crew 68 = .ok (.getfield 31, 3) := by decide +kernel
theorem dX4_crew_71 : decode cX4_crew 71 = .ok (.iload_n 1, 1) := by decide +kernel
theorem dX4_crew_72 : decode cX4_crew 72 = .ok (.iaload, 1) := by decide +kernel
theorem dX4_crew_73 : decode cX4_crew 73 = .ok (.goto 8, 3) := by decide +kernel
theorem dX4_crew_76 : decode cX4_crew 76 = .ok (.aload_n 0, 1) := by decide +kernel
theorem dX4_crew_77 : decode cX4_crew 77 = .ok (.iload_n 1, 1) := by decide +kernel
theorem dX4_crew_78 : decode cX4_crew 78 = .ok (.invokevirtual 89, 3) := by decide +kernel
theorem dX4_crew_81 : decode cX4_crew 81 = .ok (.ireturn, 1) := by decide +kernel
theorem dX4_known_0 : decode cX4_known 0 = .ok (.aload_n 0, 1) := by decide +kernel
theorem dX4_known_1 : decode cX4_known 1 = .ok (.aload_n 0, 1) := by decide +kernel
theorem dX4_known_2 : decode cX4_known 2 = .ok (.iload_n 1, 1) := by decide +kernel
theorem dX4_known_3 : decode cX4_known 3 = .ok (.invokevirtual 63, 3) := by decide +kernel
theorem dX4_known_6 : decode cX4_known 6 = .ok (.ifCond .ne 11, 3) := by decide +kernel
theorem dX4_known_9 : decode cX4_known 9 = .ok (.aload_n 0, 1) := by decide +kernel
theorem dX4_known_10 : decode cX4_known 10 = .ok (.iload_n 2, 1) := by decide +kernel
theorem dX4_known_11 : decode cX4_known 11 = .ok (.invokevirtual 63, 3) := by decide +kernel
theorem dX4_known_14 : decode cX4_known 14 = .ok (.ifCond .eq 7, 3) := by decide +kernel
theorem dX4_known_17 : decode cX4_known 17 = .ok (.iconst 1, 1) := by decide +kernel
theorem dX4_known_18 : decode cX4_known 18 = .ok (.goto 4, 3) := by decide +kernel
theorem dX4_known_21 : decode cX4_known 21 = .ok (.iconst 0, 1) := by decide +kernel
theorem dX4_known_22 : decode cX4_known 22 = .ok (.putfield 53, 3) := by decide +kernel
theorem dX4_known_25 : decode cX4_known 25 = .ok (.aload_n 0, 1) := by decide +kernel
theorem dX4_known_26 : decode cX4_known 26 = .ok (.getfield 53, 3) := by decide +kernel
theorem dX4_known_29 : decode cX4_known 29 = .ok (.ifCond .ne 17, 3) := by decide +kernel
theorem dX4_known_32 : decode cX4_known 32 = .ok (.aload_n 0, 1) := by decide +kernel
theorem dX4_known_33 : decode cX4_known 33 = .ok (.getfield 13, 3) := by decide +kernel
theorem dX4_known_36 : decode cX4_known 36 = .ok (.bipush 6, 2) := by decide +kernel
theorem dX4_known_38 : decode cX4_known 38 = .ok (.iload_n 1, 1) := by decide +kernel
theorem dX4_known_39 : decode cX4_known 39 = .ok (.imul, 1) := by decide +kernel
theorem dX4_known_40 : decode cX4_known 40 = .ok (.iload_n 2, 1) := by decide +kernel
theorem dX4_known_41 : decode cX4_known 41 = .ok (.iadd, 1) := by decide +kernel
theorem dX4_known_42 : decode cX4_known 42 = .ok (.iaload, 1) := by decide +kernel
theorem dX4_known_43 : decode cX4_known 43 = .ok (.goto 4, 3) := by decide +kernel
theorem dX4_known_46 : decode cX4_known 46 = .ok (.iconst 0, 1) := by decide +kernel
theorem dX4_known_47 : decode cX4_known 47 = .ok (.ireturn, 1) := by decide +kernel
theorem dX4_desk_0 : decode cX4_desk 0 = .ok (.aload_n 0, 1) := by decide +kernel
theorem dX4_desk_1 : decode cX4_desk 1 = .ok (.aload_n 0, 1) := by decide +kernel
theorem dX4_desk_2 : decode cX4_desk 2 = .ok (.iload_n 1, 1) := by decide +kernel
theorem dX4_desk_3 : decode cX4_desk 3 = .ok (.invokevirtual 63, 3) := by decide +kernel
theorem dX4_desk_6 : decode cX4_desk 6 = .ok (.ifCond .ne 12, 3) := by decide +kernel
theorem dX4_desk_9 : decode cX4_desk 9 = .ok (.iload_n 2, 1) := by decide +kernel
theorem dX4_desk_10 : decode cX4_desk 10 = .ok (.ifCond .lt 8, 3) := by decide +kernel
theorem dX4_desk_13 : decode cX4_desk 13 = .ok (.iload_n 2, 1) := by decide +kernel
theorem dX4_desk_14 : decode cX4_desk 14 = .ok (.iconst 2, 1) := by decide +kernel
theorem dX4_desk_15 : decode cX4_desk 15 = .ok (.if_icmp .le 7, 3) := by decide +kernel
theorem dX4_desk_18 : decode cX4_desk 18 = .ok (.iconst 1, 1) := by decide +kernel
theorem dX4_desk_19 : decode cX4_desk 19 = .ok (.goto 4, 3) := by decide +kernel
theorem dX4_desk_22 : decode cX4_desk 22 = .ok (.iconst 0, 1) := by decide +kernel
theorem dX4_desk_23 : decode cX4_desk 23 = .ok (.putfield 53, 3) := by decide +kernel
theorem dX4_desk_26 : decode cX4_desk 26 = .ok (.aload_n 0, 1) := by decide +kernel
theorem dX4_desk_27 : decode cX4_desk 27 = .ok (.getfield 53, 3) := by decide +kernel
theorem dX4_desk_30 : decode cX4_desk 30 = .ok (.ifCond .eq 7, 3) := by decide +kernel
theorem dX4_desk_33 : decode cX4_desk 33 = .ok (.iconst 0, 1) := by decide +kernel
theorem dX4_desk_34 : decode cX4_desk 34 = .ok (.goto 36, 3) := by decide +kernel
theorem dX4_desk_37 : decode cX4_desk 37 = .ok (.iload_n 2, 1) := by decide +kernel
theorem dX4_desk_38 : decode cX4_desk 38 = .ok (.ifCond .ne 12, 3) := by decide +kernel
theorem dX4_desk_41 : decode cX4_desk 41 = .ok (.aload_n 0, 1) := by decide +kernel
theorem dX4_desk_42 : decode cX4_desk 42 = .ok (.getfield 16, 3) := by decide +kernel
theorem dX4_desk_45 : decode cX4_desk 45 = .ok (.iload_n 1, 1) := by decide +kernel
theorem dX4_desk_46 : decode cX4_desk 46 = .ok (.iaload, 1) := by decide +kernel
theorem dX4_desk_47 : decode cX4_desk 47 = .ok (.goto 23, 3) := by decide +kernel
theorem dX4_desk_50 : decode cX4_desk 50 = .ok (.iload_n 2, 1) := by decide +kernel
theorem dX4_desk_51 : decode cX4_desk 51 = .ok (.iconst 1, 1) := by decide +kernel
theorem dX4_desk_52 : decode cX4_desk 52 = .ok (.if_icmp .ne 12, 3) := by decide +kernel
theorem dX4_desk_55 : decode cX4_desk 55 = .ok (.aload_n 0, 1) := by decide +kernel
theorem dX4_desk_56 : decode cX4_desk 56 = .ok (.getfield 19, 3) := by decide +kernel
theorem dX4_desk_59 : decode cX4_desk 59 = .ok (.iload_n 1, 1) := by decide +kernel
theorem dX4_desk_60 : decode cX4_desk 60 = .ok (.iaload, 1) := by decide +kernel
theorem dX4_desk_61 : decode cX4_desk 61 = .ok (.goto 9, 3) := by decide +kernel
theorem dX4_desk_64 : decode cX4_desk 64 = .ok (.aload_n 0, 1) := by decide +kernel
theorem dX4_desk_65 : decode cX4_desk 65 = .ok (.getfield 22, 3) := by decide +kernel
theorem dX4_desk_68 : decode cX4_desk 68 = .ok (.iload_n 1, 1) := by decide +kernel
theorem dX4_desk_69 : decode cX4_desk 69 = .ok (.iaload, 1) := by decide +kernel
theorem dX4_desk_70 : decode cX4_desk 70 = .ok (.ireturn, 1) := by decide +kernel
theorem dX4_settled_0 : decode cX4_settled 0 = .ok (.aload_n 0, 1) := by decide +kernel
theorem dX4_settled_1 : decode cX4_settled 1 = .ok (.iconst 0, 1) := by decide +kernel
theorem dX4_settled_2 : decode cX4_settled 2 = .ok (.putfield 53, 3) := by decide +kernel
theorem dX4_settled_5 : decode cX4_settled 5 = .ok (.aload_n 0, 1) := by decide +kernel
theorem dX4_settled_6 : decode cX4_settled 6 = .ok (.invokevirtual 59, 3) := by decide +kernel
theorem dX4_settled_9 : decode cX4_settled 9 = .ok (.ireturn, 1) := by decide +kernel
theorem dX4_phase_0 : decode cX4_phase 0 = .ok (.aload_n 0, 1) := by decide +kernel
theorem dX4_phase_1 : decode cX4_phase 1 = .ok (.aload_n 0, 1) := by decide +kernel
theorem dX4_phase_2 : decode cX4_phase 2 = .ok (.invokevirtual 59, 3) := by decide +kernel
theorem dX4_phase_5 : decode cX4_phase 5 = .ok (.ifCond .eq 11, 3) := by decide +kernel
theorem dX4_phase_8 : decode cX4_phase 8 = .ok (.aload_n 0, 1) := by decide +kernel
theorem dX4_phase_9 : decode cX4_phase 9 = .ok (.getfield 47, 3) := by decide +kernel
theorem dX4_phase_12 : decode cX4_phase 12 = .ok (.iconst 1, 1) := by decide +kernel
theorem dX4_phase_13 : decode cX4_phase 13 = .ok (.if_icmp .ne 7, 3) := by decide +kernel
theorem dX4_phase_16 : decode cX4_phase 16 = .ok (.iconst 1, 1) := by decide +kernel
theorem dX4_phase_17 : decode cX4_phase 17 = .ok (.goto 4, 3) := by decide +kernel
theorem dX4_phase_20 : decode cX4_phase 20 = .ok (.iconst 0, 1) := by decide +kernel
theorem dX4_phase_21 : decode cX4_phase 21 = .ok (.putfield 53, 3) := by decide +kernel
theorem dX4_phase_24 : decode cX4_phase 24 = .ok (.aload_n 0, 1) := by decide +kernel
theorem dX4_phase_25 : decode cX4_phase 25 = .ok (.getfield 53, 3) := by decide +kernel
theorem dX4_phase_28 : decode cX4_phase 28 = .ok (.ifCond .eq 5, 3) := by decide +kernel
theorem dX4_phase_31 : decode cX4_phase 31 = .ok (.iconst 0, 1) := by decide +kernel
theorem dX4_phase_32 : decode cX4_phase 32 = .ok (.ireturn, 1) := by decide +kernel
theorem dX4_phase_33 : decode cX4_phase 33 = .ok (.aload_n 0, 1) := by decide +kernel
theorem dX4_phase_34 : decode cX4_phase 34 = .ok (.invokevirtual 50, 3) := by decide +kernel
theorem dX4_phase_37 : decode cX4_phase 37 = .ok (.aload_n 0, 1) := by decide +kernel
theorem dX4_phase_38 : decode cX4_phase 38 = .ok (.aload_n 0, 1) := by decide +kernel
theorem dX4_phase_39 : decode cX4_phase 39 = .ok (.getfield 47, 3) := by decide +kernel
theorem dX4_phase_42 : decode cX4_phase 42 = .ok (.iconst 4, 1) := by decide +kernel
theorem dX4_phase_43 : decode cX4_phase 43 = .ok (.idiv, 1) := by decide +kernel
theorem dX4_phase_44 : decode cX4_phase 44 = .ok (.putfield 47, 3) := by decide +kernel
theorem dX4_phase_47 : decode cX4_phase 47 = .ok (.aload_n 0, 1) := by decide +kernel
theorem dX4_phase_48 : decode cX4_phase 48 = .ok (.getfield 47, 3) := by decide +kernel
theorem dX4_phase_51 : decode cX4_phase 51 = .ok (.ireturn, 1) := by decide +kernel
theorem dX4_total_0 : decode cX4_total 0 = .ok (.aload_n 0, 1) := by decide +kernel
theorem dX4_total_1 : decode cX4_total 1 = .ok (.aload_n 0, 1) := by decide +kernel
theorem dX4_total_2 : decode cX4_total 2 = .ok (.invokevirtual 59, 3) := by decide +kernel
theorem dX4_total_5 : decode cX4_total 5 = .ok (.ifCond .eq 7, 3) := by decide +kernel
theorem dX4_total_8 : decode cX4_total 8 = .ok (.iconst 0, 1) := by decide +kernel
theorem dX4_total_9 : decode cX4_total 9 = .ok (.goto 4, 3) := by decide +kernel
theorem dX4_total_12 : decode cX4_total 12 = .ok (.iconst 1, 1) := by decide +kernel
theorem dX4_total_13 : decode cX4_total 13 = .ok (.putfield 53, 3) := by decide +kernel
theorem dX4_total_16 : decode cX4_total 16 = .ok (.iconst 0, 1) := by decide +kernel
theorem dX4_total_17 : decode cX4_total 17 = .ok (.istore_n 1, 1) := by decide +kernel
theorem dX4_total_18 : decode cX4_total 18 = .ok (.iconst 0, 1) := by decide +kernel
theorem dX4_total_19 : decode cX4_total 19 = .ok (.istore_n 2, 1) := by decide +kernel
theorem dX4_total_20 : decode cX4_total 20 = .ok (.iload_n 2, 1) := by decide +kernel
theorem dX4_total_21 : decode cX4_total 21 = .ok (.aload_n 0, 1) := by decide +kernel
theorem dX4_total_22 : decode cX4_total 22 = .ok (.getfield 43, 3) := by decide +kernel
theorem dX4_total_25 : decode cX4_total 25 = .ok (.if_icmp .ge 35, 3) := by decide +kernel
theorem dX4_total_28 : decode cX4_total 28 = .ok (.aload_n 0, 1) := by decide +kernel
theorem dX4_total_29 : decode cX4_total 29 = .ok (.getfield 53, 3) := by decide +kernel
theorem dX4_total_32 : decode cX4_total 32 = .ok (.ifCond .ne 28, 3) := by decide +kernel
theorem dX4_total_35 : decode cX4_total 35 = .ok (.iload_n 1, 1) := by decide +kernel
theorem dX4_total_36 : decode cX4_total 36 = .ok (.aload_n 0, 1) := by decide +kernel
theorem dX4_total_37 : decode cX4_total 37 = .ok (.getfield 7, 3) := by decide +kernel
theorem dX4_total_40 : decode cX4_total 40 = .ok (.bipush 6, 2) := by decide +kernel
theorem dX4_total_42 : decode cX4_total 42 = .ok (.iload_n 2, 1) := by decide +kernel
theorem dX4_total_43 : decode cX4_total 43 = .ok (.imul, 1) := by decide +kernel
theorem dX4_total_44 : decode cX4_total 44 = .ok (.aload_n 0, 1) := by decide +kernel
theorem dX4_total_45 : decode cX4_total 45 = .ok (.getfield 28, 3) := by decide +kernel
theorem dX4_total_48 : decode cX4_total 48 = .ok (.iload_n 2, 1) := by decide +kernel
theorem dX4_total_49 : decode cX4_total 49 = .ok (.iaload, 1) := by decide +kernel
theorem dX4_total_50 : decode cX4_total 50 = .ok (.iadd, 1) := by decide +kernel
theorem dX4_total_51 : decode cX4_total 51 = .ok (.iaload, 1) := by decide +kernel
theorem dX4_total_52 : decode cX4_total 52 = .ok (.iadd, 1) := by decide +kernel
theorem dX4_total_53 : decode cX4_total 53 = .ok (.istore_n 1, 1) := by decide +kernel
theorem dX4_total_54 : decode cX4_total 54 = .ok (.iinc 2 1, 3) := by decide +kernel
theorem dX4_total_57 : decode cX4_total 57 = .ok (.goto (-37), 3) := by decide +kernel
theorem dX4_total_60 : decode cX4_total 60 = .ok (.iload_n 1, 1) := by decide +kernel
theorem dX4_total_61 : decode cX4_total 61 = .ok (.ireturn, 1) := by decide +kernel
theorem dX4_proves_0 : decode cX4_proves 0 = .ok (.aload_n 0, 1) := by decide +kernel
theorem dX4_proves_1 : decode cX4_proves 1 = .ok (.aload_n 0, 1) := by decide +kernel
theorem dX4_proves_2 : decode cX4_proves 2 = .ok (.invokevirtual 59, 3) := by decide +kernel
theorem dX4_proves_5 : decode cX4_proves 5 = .ok (.ifCond .eq 7, 3) := by decide +kernel
theorem dX4_proves_8 : decode cX4_proves 8 = .ok (.iconst 0, 1) := by decide +kernel
theorem dX4_proves_9 : decode cX4_proves 9 = .ok (.goto 4, 3) := by decide +kernel
theorem dX4_proves_12 : decode cX4_proves 12 = .ok (.iconst 1, 1) := by decide +kernel
theorem dX4_proves_13 : decode cX4_proves 13 = .ok (.putfield 53, 3) := by decide +kernel
theorem dX4_proves_16 : decode cX4_proves 16 = .ok (.iconst 0, 1) := by decide +kernel
theorem dX4_proves_17 : decode cX4_proves 17 = .ok (.istore_n 1, 1) := by decide +kernel
theorem dX4_proves_18 : decode cX4_proves 18 = .ok (.iconst 0, 1) := by decide +kernel
theorem dX4_proves_19 : decode cX4_proves 19 = .ok (.istore_n 2, 1) := by decide +kernel
theorem dX4_proves_20 : decode cX4_proves 20 = .ok (.iload_n 2, 1) := by decide +kernel
theorem dX4_proves_21 : decode cX4_proves 21 = .ok (.aload_n 0, 1) := by decide +kernel
theorem dX4_proves_22 : decode cX4_proves 22 = .ok (.getfield 43, 3) := by decide +kernel
theorem dX4_proves_25 : decode cX4_proves 25 = .ok (.if_icmp .ge 55, 3) := by decide +kernel
theorem dX4_proves_28 : decode cX4_proves 28 = .ok (.aload_n 0, 1) := by decide +kernel
theorem dX4_proves_29 : decode cX4_proves 29 = .ok (.getfield 53, 3) := by decide +kernel
theorem dX4_proves_32 : decode cX4_proves 32 = .ok (.ifCond .ne 48, 3) := by decide +kernel
theorem dX4_proves_35 : decode cX4_proves 35 = .ok (.iload_n 1, 1) := by decide +kernel
theorem dX4_proves_36 : decode cX4_proves 36 = .ok (.aload_n 0, 1) := by decide +kernel
theorem dX4_proves_37 : decode cX4_proves 37 = .ok (.getfield 16, 3) := by decide +kernel
theorem dX4_proves_40 : decode cX4_proves 40 = .ok (.iload_n 2, 1) := by decide +kernel
theorem dX4_proves_41 : decode cX4_proves 41 = .ok (.iaload, 1) := by decide +kernel
theorem dX4_proves_42 : decode cX4_proves 42 = .ok (.aload_n 0, 1) := by decide +kernel
theorem dX4_proves_43 : decode cX4_proves 43 = .ok (.iload_n 2, 1) := by decide +kernel
theorem dX4_proves_44 : decode cX4_proves 44 = .ok (.invokevirtual 89, 3) := by decide +kernel
theorem dX4_proves_47 : decode cX4_proves 47 = .ok (.iadd, 1) := by decide +kernel
theorem dX4_proves_48 : decode cX4_proves 48 = .ok (.aload_n 0, 1) := by decide +kernel
theorem dX4_proves_49 : decode cX4_proves 49 = .ok (.getfield 7, 3) := by decide +kernel
theorem dX4_proves_52 : decode cX4_proves 52 = .ok (.bipush 6, 2) := by decide +kernel
theorem dX4_proves_54 : decode cX4_proves 54 = .ok (.iload_n 2, 1) := by decide +kernel
theorem dX4_proves_55 : decode cX4_proves 55 = .ok (.imul, 1) := by decide +kernel
theorem dX4_proves_56 : decode cX4_proves 56 = .ok (.aload_n 0, 1) := by decide +kernel
theorem dX4_proves_57 : decode cX4_proves 57 = .ok (.getfield 28, 3) := by decide +kernel
theorem dX4_proves_60 : decode cX4_proves 60 = .ok (.iload_n 2, 1) := by decide +kernel
theorem dX4_proves_61 : decode cX4_proves 61 = .ok (.iaload, 1) := by decide +kernel
theorem dX4_proves_62 : decode cX4_proves 62 = .ok (.iadd, 1) := by decide +kernel
theorem dX4_proves_63 : decode cX4_proves 63 = .ok (.iaload, 1) := by decide +kernel
theorem dX4_proves_64 : decode cX4_proves 64 = .ok (.aload_n 0, 1) := by decide +kernel
theorem dX4_proves_65 : decode cX4_proves 65 = .ok (.getfield 43, 3) := by decide +kernel
theorem dX4_proves_68 : decode cX4_proves 68 = .ok (.iconst 1, 1) := by decide +kernel
theorem dX4_proves_69 : decode cX4_proves 69 = .ok (.iadd, 1) := by decide +kernel
theorem dX4_proves_70 : decode cX4_proves 70 = .ok (.imul, 1) := by decide +kernel
theorem dX4_proves_71 : decode cX4_proves 71 = .ok (.isub, 1) := by decide +kernel
theorem dX4_proves_72 : decode cX4_proves 72 = .ok (.iadd, 1) := by decide +kernel
theorem dX4_proves_73 : decode cX4_proves 73 = .ok (.istore_n 1, 1) := by decide +kernel
theorem dX4_proves_74 : decode cX4_proves 74 = .ok (.iinc 2 1, 3) := by decide +kernel
theorem dX4_proves_77 : decode cX4_proves 77 = .ok (.goto (-57), 3) := by decide +kernel
theorem dX4_proves_80 : decode cX4_proves 80 = .ok (.aload_n 0, 1) := by decide +kernel
theorem dX4_proves_81 : decode cX4_proves 81 = .ok (.getfield 53, 3) := by decide +kernel
theorem dX4_proves_84 : decode cX4_proves 84 = .ok (.ifCond .ne 17, 3) := by decide +kernel
theorem dX4_proves_87 : decode cX4_proves 87 = .ok (.iload_n 1, 1) := by decide +kernel
theorem dX4_proves_88 : decode cX4_proves 88 = .ok (.aload_n 0, 1) := by decide +kernel
theorem dX4_proves_89 : decode cX4_proves 89 = .ok (.getfield 43, 3) := by decide +kernel
theorem dX4_proves_92 : decode cX4_proves 92 = .ok (.iconst 1, 1) := by decide +kernel
theorem dX4_proves_93 : decode cX4_proves 93 = .ok (.iadd, 1) := by decide +kernel
theorem dX4_proves_94 : decode cX4_proves 94 = .ok (.if_icmp .ge 7, 3) := by decide +kernel
theorem dX4_proves_97 : decode cX4_proves 97 = .ok (.iconst 1, 1) := by decide +kernel
theorem dX4_proves_98 : decode cX4_proves 98 = .ok (.goto 4, 3) := by decide +kernel
theorem dX4_proves_101 : decode cX4_proves 101 = .ok (.iconst 0, 1) := by decide +kernel
theorem dX4_proves_102 : decode cX4_proves 102 = .ok (.ireturn, 1) := by decide +kernel
theorem dX4_count_0 : decode cX4_count 0 = .ok (.aload_n 0, 1) := by decide +kernel
theorem dX4_count_1 : decode cX4_count 1 = .ok (.iload_n 1, 1) := by decide +kernel
theorem dX4_count_2 : decode cX4_count 2 = .ok (.ifCond .lt 8, 3) := by decide +kernel
theorem dX4_count_5 : decode cX4_count 5 = .ok (.iload_n 1, 1) := by decide +kernel
theorem dX4_count_6 : decode cX4_count 6 = .ok (.iconst 4, 1) := by decide +kernel
theorem dX4_count_7 : decode cX4_count 7 = .ok (.if_icmp .le 7, 3) := by decide +kernel
theorem dX4_count_10 : decode cX4_count 10 = .ok (.iconst 1, 1) := by decide +kernel
theorem dX4_count_11 : decode cX4_count 11 = .ok (.goto 4, 3) := by decide +kernel
theorem dX4_count_14 : decode cX4_count 14 = .ok (.iconst 0, 1) := by decide +kernel
theorem dX4_count_15 : decode cX4_count 15 = .ok (.putfield 53, 3) := by decide +kernel
theorem dX4_count_18 : decode cX4_count 18 = .ok (.aload_n 0, 1) := by decide +kernel
theorem dX4_count_19 : decode cX4_count 19 = .ok (.getfield 53, 3) := by decide +kernel
theorem dX4_count_22 : decode cX4_count 22 = .ok (.ifCond .eq 7, 3) := by decide +kernel
theorem dX4_count_25 : decode cX4_count 25 = .ok (.iconst 0, 1) := by decide +kernel
theorem dX4_count_26 : decode cX4_count 26 = .ok (.goto 21, 3) := by decide +kernel
theorem dX4_count_29 : decode cX4_count 29 = .ok (.iload_n 1, 1) := by decide +kernel
theorem dX4_count_30 : decode cX4_count 30 = .ok (.iconst 4, 1) := by decide +kernel
theorem dX4_count_31 : decode cX4_count 31 = .ok (.if_icmp .ne 10, 3) := by decide +kernel
theorem dX4_count_34 : decode cX4_count 34 = .ok (.aload_n 0, 1) := by decide +kernel
theorem dX4_count_35 : decode cX4_count 35 = .ok (.getfield 47, 3) := by decide +kernel
theorem dX4_count_38 : decode cX4_count 38 = .ok (.goto 9, 3) := by decide +kernel
theorem dX4_count_41 : decode cX4_count 41 = .ok (.aload_n 0, 1) := by decide +kernel
theorem dX4_count_42 : decode cX4_count 42 = .ok (.getfield 40, 3) := by decide +kernel
theorem dX4_count_45 : decode cX4_count 45 = .ok (.iload_n 1, 1) := by decide +kernel
theorem dX4_count_46 : decode cX4_count 46 = .ok (.iaload, 1) := by decide +kernel
theorem dX4_count_47 : decode cX4_count 47 = .ok (.ireturn, 1) := by decide +kernel
end
section
/-! decode rows (starting text: printed by TURN) -/
theorem dX0_init_0 : decode cX0_init 0 = .ok (.aload_n 0, 1) := by decide +kernel
theorem dX0_init_1 : decode cX0_init 1 = .ok (.invokespecial 3, 3) := by decide +kernel
theorem dX0_init_4 : decode cX0_init 4 = .ok (.aload_n 0, 1) := by decide +kernel
theorem dX0_init_5 : decode cX0_init 5 = .ok (.iconst 0, 1) := by decide +kernel
theorem dX0_init_6 : decode cX0_init 6 = .ok (.putfield 9, 3) := by decide +kernel
theorem dX0_init_9 : decode cX0_init 9 = .ok (.aload_n 0, 1) := by decide +kernel
theorem dX0_init_10 : decode cX0_init 10 = .ok (.iconst (-1), 1) := by decide +kernel
theorem dX0_init_11 : decode cX0_init 11 = .ok (.putfield 15, 3) := by decide +kernel
theorem dX0_init_14 : decode cX0_init 14 = .ok (.aload_n 0, 1) := by decide +kernel
theorem dX0_init_15 : decode cX0_init 15 = .ok (.iconst 0, 1) := by decide +kernel
theorem dX0_init_16 : decode cX0_init 16 = .ok (.putfield 18, 3) := by decide +kernel
theorem dX0_init_19 : decode cX0_init 19 = .ok (.aload_n 0, 1) := by decide +kernel
theorem dX0_init_20 : decode cX0_init 20 = .ok (.iconst 0, 1) := by decide +kernel
theorem dX0_init_21 : decode cX0_init 21 = .ok (.putfield 21, 3) := by decide +kernel
theorem dX0_init_24 : decode cX0_init 24 = .ok (.aload_n 0, 1) := by decide +kernel
theorem dX0_init_25 : decode cX0_init 25 = .ok (.iload_n 1, 1) := by decide +kernel
theorem dX0_init_26 : decode cX0_init 26 = .ok (.newarray .int, 2) := by decide +kernel
theorem dX0_init_28 : decode cX0_init 28 = .ok (.putfield 24, 3) := by decide +kernel
theorem dX0_init_31 : decode cX0_init 31 = .ok (.aload_n 0, 1) := by decide +kernel
theorem dX0_init_32 : decode cX0_init 32 = .ok (.iload_n 1, 1) := by decide +kernel
theorem dX0_init_33 : decode cX0_init 33 = .ok (.newarray .int, 2) := by decide +kernel
theorem dX0_init_35 : decode cX0_init 35 = .ok (.putfield 28, 3) := by decide +kernel
theorem dX0_init_38 : decode cX0_init 38 = .ok (.return_, 1) := by decide +kernel
theorem dX0_scaledWorth_0 : decode cX0_scaledWorth 0 = .ok (.aload_n 0, 1) := by decide +kernel
theorem dX0_scaledWorth_1 : decode cX0_scaledWorth 1 = .ok (.getfield 24, 3) := by decide +kernel
theorem dX0_scaledWorth_4 : decode cX0_scaledWorth 4 = .ok (.iload_n 1, 1) := by decide +kernel
theorem dX0_scaledWorth_5 : decode cX0_scaledWorth 5 = .ok (.iaload, 1) := by decide +kernel
theorem dX0_scaledWorth_6 : decode cX0_scaledWorth 6 = .ok (.aload_n 0, 1) := by decide +kernel
theorem dX0_scaledWorth_7 : decode cX0_scaledWorth 7 = .ok (.getfield 24, 3) := by decide +kernel
theorem dX0_scaledWorth_10 : decode cX0_scaledWorth 10 = .ok (.arraylength, 1) := by decide +kernel
theorem dX0_scaledWorth_11 : decode cX0_scaledWorth 11 = .ok (.iconst 1, 1) := by decide +kernel
theorem dX0_scaledWorth_12 : decode cX0_scaledWorth 12 = .ok (.iadd, 1) := by decide +kernel
theorem dX0_scaledWorth_13 : decode cX0_scaledWorth 13 = .ok (.imul, 1) := by decide +kernel
theorem dX0_scaledWorth_14 : decode cX0_scaledWorth 14 = .ok (.ireturn, 1) := by decide +kernel
theorem dX0_valueOf_0 : decode cX0_valueOf 0 = .ok (.aload_n 0, 1) := by decide +kernel
theorem dX0_valueOf_1 : decode cX0_valueOf 1 = .ok (.iload_n 1, 1) := by decide +kernel
theorem dX0_valueOf_2 : decode cX0_valueOf 2 = .ok (.invokevirtual 31, 3) := by decide +kernel
theorem dX0_valueOf_5 : decode cX0_valueOf 5 = .ok (.aload_n 0, 1) := by decide +kernel
theorem dX0_valueOf_6 : decode cX0_valueOf 6 = .ok (.getfield 28, 3) := by decide +kernel
theorem dX0_valueOf_9 : decode cX0_valueOf 9 = .ok (.iload_n 1, 1) := by decide +kernel
theorem dX0_valueOf_10 : decode cX0_valueOf 10 = .ok (.iaload, 1) := by decide +kernel
theorem dX0_valueOf_11 : decode cX0_valueOf 11 = .ok (.isub, 1) := by decide +kernel
theorem dX0_valueOf_12 : decode cX0_valueOf 12 = .ok (.ireturn, 1) := by decide +kernel
theorem dX0_bestJobBut_0 : decode cX0_bestJobBut 0 = .ok (.iload_n 1, 1) := by decide +kernel
theorem dX0_bestJobBut_1 : decode cX0_bestJobBut 1 = .ok (.ifCond .ne 7, 3) := by decide +kernel
theorem dX0_bestJobBut_4 : decode cX0_bestJobBut 4 = .ok (.iconst 1, 1) := by decide +kernel
theorem dX0_bestJobBut_5 : decode cX0_bestJobBut 5 = .ok (.goto 4, 3) := by decide +kernel
theorem dX0_bestJobBut_8 : decode cX0_bestJobBut 8 = .ok (.iconst 0, 1) := by decide +kernel
theorem dX0_bestJobBut_9 : decode cX0_bestJobBut 9 = .ok (.istore_n 2, 1) := by decide +kernel
theorem dX0_bestJobBut_10 : decode cX0_bestJobBut 10 = .ok (.iload_n 2, 1) := by decide +kernel
theorem dX0_bestJobBut_11 : decode cX0_bestJobBut 11 = .ok (.iconst 1, 1) := by decide +kernel
theorem dX0_bestJobBut_12 : decode cX0_bestJobBut 12 = .ok (.iadd, 1) := by decide +kernel
theorem dX0_bestJobBut_13 : decode cX0_bestJobBut 13 = .ok (.istore_n 3, 1) := by decide +kernel
theorem dX0_bestJobBut_14 : decode cX0_bestJobBut 14 = .ok (.iload_n 3, 1) := by decide +kernel
theorem dX0_bestJobBut_15 : decode cX0_bestJobBut 15 = .ok (.aload_n 0, 1) := by decide +kernel
theorem dX0_bestJobBut_16 : decode cX0_bestJobBut 16 = .ok (.getfield 24, 3) := by decide +kernel
theorem dX0_bestJobBut_19 : decode cX0_bestJobBut 19 = .ok (.arraylength, 1) := by decide +kernel
theorem dX0_bestJobBut_20 : decode cX0_bestJobBut 20 = .ok (.if_icmp .ge 29, 3) := by decide +kernel
theorem dX0_bestJobBut_23 : decode cX0_bestJobBut 23 = .ok (.iload_n 3, 1) := by decide +kernel
theorem dX0_bestJobBut_24 : decode cX0_bestJobBut 24 = .ok (.iload_n 1, 1) := by decide +kernel
theorem dX0_bestJobBut_25 : decode cX0_bestJobBut 25 = .ok (.if_icmp .eq 18, 3) := by decide +kernel
theorem dX0_bestJobBut_28 : decode cX0_bestJobBut 28 = .ok (.aload_n 0, 1) := by decide +kernel
theorem dX0_bestJobBut_29 : decode cX0_bestJobBut 29 = .ok (.iload_n 3, 1) := by decide +kernel
theorem dX0_bestJobBut_30 : decode cX0_bestJobBut 30 = .ok (.invokevirtual 35, 3) := by decide +kernel
theorem dX0_bestJobBut_33 : decode cX0_bestJobBut 33 = .ok (.aload_n 0, 1) := by decide +kernel
theorem dX0_bestJobBut_34 : decode cX0_bestJobBut 34 = .ok (.iload_n 2, 1) := by decide +kernel
theorem dX0_bestJobBut_35 : decode cX0_bestJobBut 35 = .ok (.invokevirtual 35, 3) := by decide +kernel
theorem dX0_bestJobBut_38 : decode cX0_bestJobBut 38 = .ok (.if_icmp .le 5, 3) := by decide +kernel
theorem dX0_bestJobBut_41 : decode cX0_bestJobBut 41 = .ok (.iload_n 3, 1) := by decide +kernel
theorem dX0_bestJobBut_42 : decode cX0_bestJobBut 42 = .ok (.istore_n 2, 1) := by decide +kernel
theorem dX0_bestJobBut_43 : decode cX0_bestJobBut 43 = .ok (.iinc 3 1, 3) := by decide +kernel
theorem dX0_bestJobBut_46 : decode cX0_bestJobBut 46 = .ok (.goto (-32), 3) := by decide +kernel
theorem dX0_bestJobBut_49 : decode cX0_bestJobBut 49 = .ok (.iload_n 2, 1) := by decide +kernel
theorem dX0_bestJobBut_50 : decode cX0_bestJobBut 50 = .ok (.ireturn, 1) := by decide +kernel
theorem dX0_chooseBid_0 : decode cX0_chooseBid 0 = .ok (.aload_n 0, 1) := by decide +kernel
theorem dX0_chooseBid_1 : decode cX0_chooseBid 1 = .ok (.aload_n 0, 1) := by decide +kernel
theorem dX0_chooseBid_2 : decode cX0_chooseBid 2 = .ok (.iconst (-1), 1) := by decide +kernel
theorem dX0_chooseBid_3 : decode cX0_chooseBid 3 = .ok (.invokevirtual 38, 3) := by decide +kernel
theorem dX0_chooseBid_6 : decode cX0_chooseBid 6 = .ok (.putfield 15, 3) := by decide +kernel
theorem dX0_chooseBid_9 : decode cX0_chooseBid 9 = .ok (.aload_n 0, 1) := by decide +kernel
theorem dX0_chooseBid_10 : decode cX0_chooseBid 10 = .ok (.aload_n 0, 1) := by decide +kernel
theorem dX0_chooseBid_11 : decode cX0_chooseBid 11 = .ok (.getfield 28, 3) := by decide +kernel
theorem dX0_chooseBid_14 : decode cX0_chooseBid 14 = .ok (.aload_n 0, 1) := by decide +kernel
theorem dX0_chooseBid_15 : decode cX0_chooseBid 15 = .ok (.getfield 15, 3) := by decide +kernel
theorem dX0_chooseBid_18 : decode cX0_chooseBid 18 = .ok (.iaload, 1) := by decide +kernel
theorem dX0_chooseBid_19 : decode cX0_chooseBid 19 = .ok (.aload_n 0, 1) := by decide +kernel
theorem dX0_chooseBid_20 : decode cX0_chooseBid 20 = .ok (.aload_n 0, 1) := by decide +kernel
theorem dX0_chooseBid_21 : decode cX0_chooseBid 21 = .ok (.getfield 15, 3) := by decide +kernel
theorem dX0_chooseBid_24 : decode cX0_chooseBid 24 = .ok (.invokevirtual 35, 3) := by decide +kernel
theorem dX0_chooseBid_27 : decode cX0_chooseBid 27 = .ok (.iadd, 1) := by decide +kernel
theorem dX0_chooseBid_28 : decode cX0_chooseBid 28 = .ok (.aload_n 0, 1) := by decide +kernel
theorem dX0_chooseBid_29 : decode cX0_chooseBid 29 = .ok (.aload_n 0, 1) := by decide +kernel
theorem dX0_chooseBid_30 : decode cX0_chooseBid 30 = .ok (.aload_n 0, 1) := by decide +kernel
theorem dX0_chooseBid_31 : decode cX0_chooseBid 31 = .ok (.getfield 15, 3) := by decide +kernel
theorem dX0_chooseBid_34 : decode cX0_chooseBid 34 = .ok (.invokevirtual 38, 3) := by decide +kernel
theorem dX0_chooseBid_37 : decode cX0_chooseBid 37 = .ok (.invokevirtual 35, 3) := by decide +kernel
theorem dX0_chooseBid_40 : decode cX0_chooseBid 40 = .ok (.isub, 1) := by decide +kernel
theorem dX0_chooseBid_41 : decode cX0_chooseBid 41 = .ok (.iload_n 1, 1) := by decide +kernel
theorem dX0_chooseBid_42 : decode cX0_chooseBid 42 = .ok (.iadd, 1) := by decide +kernel
theorem dX0_chooseBid_43 : decode cX0_chooseBid 43 = .ok (.putfield 21, 3) := by decide +kernel
theorem dX0_chooseBid_46 : decode cX0_chooseBid 46 = .ok (.aload_n 0, 1) := by decide +kernel
theorem dX0_chooseBid_47 : decode cX0_chooseBid 47 = .ok (.dup, 1) := by decide +kernel
theorem dX0_chooseBid_48 : decode cX0_chooseBid 48 = .ok (.getfield 18, 3) := by decide +kernel
theorem dX0_chooseBid_51 : decode cX0_chooseBid 51 = .ok (.iconst 1, 1) := by decide +kernel
theorem dX0_chooseBid_52 : decode cX0_chooseBid 52 = .ok (.iadd, 1) := by decide +kernel
theorem dX0_chooseBid_53 : decode cX0_chooseBid 53 = .ok (.putfield 18, 3) := by decide +kernel
theorem dX0_chooseBid_56 : decode cX0_chooseBid 56 = .ok (.aload_n 0, 1) := by decide +kernel
theorem dX0_chooseBid_57 : decode cX0_chooseBid 57 = .ok (.iconst 1, 1) := by decide +kernel
theorem dX0_chooseBid_58 : decode cX0_chooseBid 58 = .ok (.putfield 9, 3) := by decide +kernel
theorem dX0_chooseBid_61 : decode cX0_chooseBid 61 = .ok (.return_, 1) := by decide +kernel
theorem dX0_learn_0 : decode cX0_learn 0 = .ok (.aload_n 0, 1) := by decide +kernel
theorem dX0_learn_1 : decode cX0_learn 1 = .ok (.getfield 28, 3) := by decide +kernel
theorem dX0_learn_4 : decode cX0_learn 4 = .ok (.iload_n 1, 1) := by decide +kernel
theorem dX0_learn_5 : decode cX0_learn 5 = .ok (.aload_n 0, 1) := by decide +kernel
theorem dX0_learn_6 : decode cX0_learn 6 = .ok (.getfield 28, 3) := by decide +kernel
theorem dX0_learn_9 : decode cX0_learn 9 = .ok (.iload_n 1, 1) := by decide +kernel
theorem dX0_learn_10 : decode cX0_learn 10 = .ok (.iaload, 1) := by decide +kernel
theorem dX0_learn_11 : decode cX0_learn 11 = .ok (.iload_n 2, 1) := by decide +kernel
theorem dX0_learn_12 : decode cX0_learn 12 = .ok (.invokestatic 41, 3) := by decide +kernel
theorem dX0_learn_15 : decode cX0_learn 15 = .ok (.iastore, 1) := by decide +kernel
theorem dX0_learn_16 : decode cX0_learn 16 = .ok (.return_, 1) := by decide +kernel
theorem dX0_hear_0 : decode cX0_hear 0 = .ok (.iload_n 2, 1) := by decide +kernel
theorem dX0_hear_1 : decode cX0_hear 1 = .ok (.aload_n 0, 1) := by decide +kernel
theorem dX0_hear_2 : decode cX0_hear 2 = .ok (.getfield 18, 3) := by decide +kernel
theorem dX0_hear_5 : decode cX0_hear 5 = .ok (.if_icmp .ne 10, 3) := by decide +kernel
theorem dX0_hear_8 : decode cX0_hear 8 = .ok (.aload_n 0, 1) := by decide +kernel
theorem dX0_hear_9 : decode cX0_hear 9 = .ok (.getfield 9, 3) := by decide +kernel
theorem dX0_hear_12 : decode cX0_hear 12 = .ok (.ifCond .ne 4, 3) := by decide +kernel
theorem dX0_hear_15 : decode cX0_hear 15 = .ok (.return_, 1) := by decide +kernel
theorem dX0_hear_16 : decode cX0_hear 16 = .ok (.iload_n 1, 1) := by decide +kernel
theorem dX0_hear_17 : decode cX0_hear 17 = .ok (.iconst 1, 1) := by decide +kernel
theorem dX0_hear_18 : decode cX0_hear 18 = .ok (.if_icmp .ne 11, 3) := by decide +kernel
theorem dX0_hear_21 : decode cX0_hear 21 = .ok (.aload_n 0, 1) := by decide +kernel
theorem dX0_hear_22 : decode cX0_hear 22 = .ok (.iconst 2, 1) := by decide +kernel
theorem dX0_hear_23 : decode cX0_hear 23 = .ok (.putfield 9, 3) := by decide +kernel
theorem dX0_hear_26 : decode cX0_hear 26 = .ok (.goto 7, 3) := by decide +kernel
theorem dX0_hear_29 : decode cX0_hear 29 = .ok (.aload_n 0, 1) := by decide +kernel
theorem dX0_hear_30 : decode cX0_hear 30 = .ok (.invokevirtual 47, 3) := by decide +kernel
theorem dX0_hear_33 : decode cX0_hear 33 = .ok (.return_, 1) := by decide +kernel
theorem dX0_release_0 : decode cX0_release 0 = .ok (.aload_n 0, 1) := by decide +kernel
theorem dX0_release_1 : decode cX0_release 1 = .ok (.iconst 0, 1) := by decide +kernel
theorem dX0_release_2 : decode cX0_release 2 = .ok (.putfield 9, 3) := by decide +kernel
theorem dX0_release_5 : decode cX0_release 5 = .ok (.aload_n 0, 1) := by decide +kernel
theorem dX0_release_6 : decode cX0_release 6 = .ok (.iconst (-1), 1) := by decide +kernel
theorem dX0_release_7 : decode cX0_release 7 = .ok (.putfield 15, 3) := by decide +kernel
theorem dX0_release_10 : decode cX0_release 10 = .ok (.return_, 1) := by decide +kernel
theorem dX1_init_0 : decode cX1_init 0 = .ok (.aload_n 0, 1) := by decide +kernel
theorem dX1_init_1 : decode cX1_init 1 = .ok (.invokespecial 3, 3) := by decide +kernel
theorem dX1_init_4 : decode cX1_init 4 = .ok (.aload_n 0, 1) := by decide +kernel
theorem dX1_init_5 : decode cX1_init 5 = .ok (.iconst 0, 1) := by decide +kernel
theorem dX1_init_6 : decode cX1_init 6 = .ok (.putfield 9, 3) := by decide +kernel
theorem dX1_init_9 : decode cX1_init 9 = .ok (.aload_n 0, 1) := by decide +kernel
theorem dX1_init_10 : decode cX1_init 10 = .ok (.iconst (-1), 1) := by decide +kernel
theorem dX1_init_11 : decode cX1_init 11 = .ok (.putfield 15, 3) := by decide +kernel
theorem dX1_init_14 : decode cX1_init 14 = .ok (.aload_n 0, 1) := by decide +kernel
theorem dX1_init_15 : decode cX1_init 15 = .ok (.iconst 0, 1) := by decide +kernel
theorem dX1_init_16 : decode cX1_init 16 = .ok (.putfield 18, 3) := by decide +kernel
theorem dX1_init_19 : decode cX1_init 19 = .ok (.return_, 1) := by decide +kernel
theorem dX1_has_0 : decode cX1_has 0 = .ok (.aload_n 0, 1) := by decide +kernel
theorem dX1_has_1 : decode cX1_has 1 = .ok (.getfield 15, 3) := by decide +kernel
theorem dX1_has_4 : decode cX1_has 4 = .ok (.iload_n 1, 1) := by decide +kernel
theorem dX1_has_5 : decode cX1_has 5 = .ok (.if_icmp .ne 15, 3) := by decide +kernel
theorem dX1_has_8 : decode cX1_has 8 = .ok (.aload_n 0, 1) := by decide +kernel
theorem dX1_has_9 : decode cX1_has 9 = .ok (.getfield 18, 3) := by decide +kernel
theorem dX1_has_12 : decode cX1_has 12 = .ok (.iload_n 2, 1) := by decide +kernel
theorem dX1_has_13 : decode cX1_has 13 = .ok (.if_icmp .ne 7, 3) := by decide +kernel
theorem dX1_has_16 : decode cX1_has 16 = .ok (.iconst 1, 1) := by decide +kernel
theorem dX1_has_17 : decode cX1_has 17 = .ok (.goto 4, 3) := by decide +kernel
theorem dX1_has_20 : decode cX1_has 20 = .ok (.iconst 0, 1) := by decide +kernel
theorem dX1_has_21 : decode cX1_has 21 = .ok (.ireturn, 1) := by decide +kernel
theorem dX1_dismiss_0 : decode cX1_dismiss 0 = .ok (.aload_n 0, 1) := by decide +kernel
theorem dX1_dismiss_1 : decode cX1_dismiss 1 = .ok (.iconst (-1), 1) := by decide +kernel
theorem dX1_dismiss_2 : decode cX1_dismiss 2 = .ok (.putfield 15, 3) := by decide +kernel
theorem dX1_dismiss_5 : decode cX1_dismiss 5 = .ok (.aload_n 0, 1) := by decide +kernel
theorem dX1_dismiss_6 : decode cX1_dismiss 6 = .ok (.iconst 0, 1) := by decide +kernel
theorem dX1_dismiss_7 : decode cX1_dismiss 7 = .ok (.putfield 18, 3) := by decide +kernel
theorem dX1_dismiss_10 : decode cX1_dismiss 10 = .ok (.return_, 1) := by decide +kernel
theorem dX2_init_0 : decode cX2_init 0 = .ok (.aload_n 0, 1) := by decide +kernel
theorem dX2_init_1 : decode cX2_init 1 = .ok (.invokespecial 3, 3) := by decide +kernel
theorem dX2_init_4 : decode cX2_init 4 = .ok (.aload_n 0, 1) := by decide +kernel
theorem dX2_init_5 : decode cX2_init 5 = .ok (.sipush 400, 3) := by decide +kernel
theorem dX2_init_8 : decode cX2_init 8 = .ok (.newarray .int, 2) := by decide +kernel
theorem dX2_init_10 : decode cX2_init 10 = .ok (.putfield 11, 3) := by decide +kernel
theorem dX2_init_13 : decode cX2_init 13 = .ok (.aload_n 0, 1) := by decide +kernel
theorem dX2_init_14 : decode cX2_init 14 = .ok (.iconst 0, 1) := by decide +kernel
theorem dX2_init_15 : decode cX2_init 15 = .ok (.putfield 15, 3) := by decide +kernel
theorem dX2_init_18 : decode cX2_init 18 = .ok (.return_, 1) := by decide +kernel
theorem dX2_part_0 : decode cX2_part 0 = .ok (.aload_n 0, 1) := by decide +kernel
theorem dX2_part_1 : decode cX2_part 1 = .ok (.getfield 11, 3) := by decide +kernel
theorem dX2_part_4 : decode cX2_part 4 = .ok (.iload_n 1, 1) := by decide +kernel
theorem dX2_part_5 : decode cX2_part 5 = .ok (.iconst 5, 1) := by decide +kernel
theorem dX2_part_6 : decode cX2_part 6 = .ok (.imul, 1) := by decide +kernel
theorem dX2_part_7 : decode cX2_part 7 = .ok (.iload_n 2, 1) := by decide +kernel
theorem dX2_part_8 : decode cX2_part 8 = .ok (.iadd, 1) := by decide +kernel
theorem dX2_part_9 : decode cX2_part 9 = .ok (.iaload, 1) := by decide +kernel
theorem dX2_part_10 : decode cX2_part 10 = .ok (.ireturn, 1) := by decide +kernel
theorem dX2_add_0 : decode cX2_add 0 = .ok (.aload_n 0, 1) := by decide +kernel
theorem dX2_add_1 : decode cX2_add 1 = .ok (.getfield 15, 3) := by decide +kernel
theorem dX2_add_4 : decode cX2_add 4 = .ok (.bipush 80, 2) := by decide +kernel
theorem dX2_add_6 : decode cX2_add 6 = .ok (.if_icmp .lt 4, 3) := by decide +kernel
theorem dX2_add_9 : decode cX2_add 9 = .ok (.return_, 1) := by decide +kernel
theorem dX2_add_10 : decode cX2_add 10 = .ok (.aload_n 0, 1) := by decide +kernel
theorem dX2_add_11 : decode cX2_add 11 = .ok (.getfield 15, 3) := by decide +kernel
theorem dX2_add_14 : decode cX2_add 14 = .ok (.iconst 5, 1) := by decide +kernel
theorem dX2_add_15 : decode cX2_add 15 = .ok (.imul, 1) := by decide +kernel
theorem dX2_add_16 : decode cX2_add 16 = .ok (.istore 6, 2) := by decide +kernel
theorem dX2_add_18 : decode cX2_add 18 = .ok (.aload_n 0, 1) := by decide +kernel
theorem dX2_add_19 : decode cX2_add 19 = .ok (.getfield 11, 3) := by decide +kernel
theorem dX2_add_22 : decode cX2_add 22 = .ok (.iload 6, 2) := by decide +kernel
theorem dX2_add_24 : decode cX2_add 24 = .ok (.iconst 0, 1) := by decide +kernel
theorem dX2_add_25 : decode cX2_add 25 = .ok (.iadd, 1) := by decide +kernel
theorem dX2_add_26 : decode cX2_add 26 = .ok (.iload_n 1, 1) := by decide +kernel
theorem dX2_add_27 : decode cX2_add 27 = .ok (.iastore, 1) := by decide +kernel
theorem dX2_add_28 : decode cX2_add 28 = .ok (.aload_n 0, 1) := by decide +kernel
theorem dX2_add_29 : decode cX2_add 29 = .ok (.getfield 11, 3) := by decide +kernel
theorem dX2_add_32 : decode cX2_add 32 = .ok (.iload 6, 2) := by decide +kernel
theorem dX2_add_34 : decode cX2_add 34 = .ok (.iconst 1, 1) := by decide +kernel
theorem dX2_add_35 : decode cX2_add 35 = .ok (.iadd, 1) := by decide +kernel
theorem dX2_add_36 : decode cX2_add 36 = .ok (.iload_n 2, 1) := by decide +kernel
theorem dX2_add_37 : decode cX2_add 37 = .ok (.iastore, 1) := by decide +kernel
theorem dX2_add_38 : decode cX2_add 38 = .ok (.aload_n 0, 1) := by decide +kernel
theorem dX2_add_39 : decode cX2_add 39 = .ok (.getfield 11, 3) := by decide +kernel
theorem dX2_add_42 : decode cX2_add 42 = .ok (.iload 6, 2) := by decide +kernel
theorem dX2_add_44 : decode cX2_add 44 = .ok (.iconst 2, 1) := by decide +kernel
theorem dX2_add_45 : decode cX2_add 45 = .ok (.iadd, 1) := by decide +kernel
theorem dX2_add_46 : decode cX2_add 46 = .ok (.iload_n 3, 1) := by decide +kernel
theorem dX2_add_47 : decode cX2_add 47 = .ok (.iastore, 1) := by decide +kernel
theorem dX2_add_48 : decode cX2_add 48 = .ok (.aload_n 0, 1) := by decide +kernel
theorem dX2_add_49 : decode cX2_add 49 = .ok (.getfield 11, 3) := by decide +kernel
theorem dX2_add_52 : decode cX2_add 52 = .ok (.iload 6, 2) := by decide +kernel
theorem dX2_add_54 : decode cX2_add 54 = .ok (.iconst 3, 1) := by decide +kernel
theorem dX2_add_55 : decode cX2_add 55 = .ok (.iadd, 1) := by decide +kernel
theorem dX2_add_56 : decode cX2_add 56 = .ok (.iload 4, 2) := by decide +kernel
theorem dX2_add_58 : decode cX2_add 58 = .ok (.iastore, 1) := by decide +kernel
theorem dX2_add_59 : decode cX2_add 59 = .ok (.aload_n 0, 1) := by decide +kernel
theorem dX2_add_60 : decode cX2_add 60 = .ok (.getfield 11, 3) := by decide +kernel
theorem dX2_add_63 : decode cX2_add 63 = .ok (.iload 6, 2) := by decide +kernel
theorem dX2_add_65 : decode cX2_add 65 = .ok (.iconst 4, 1) := by decide +kernel
theorem dX2_add_66 : decode cX2_add 66 = .ok (.iadd, 1) := by decide +kernel
theorem dX2_add_67 : decode cX2_add 67 = .ok (.iload 5, 2) := by decide +kernel
theorem dX2_add_69 : decode cX2_add 69 = .ok (.iastore, 1) := by decide +kernel
theorem dX2_add_70 : decode cX2_add 70 = .ok (.aload_n 0, 1) := by decide +kernel
theorem dX2_add_71 : decode cX2_add 71 = .ok (.dup, 1) := by decide +kernel
theorem dX2_add_72 : decode cX2_add 72 = .ok (.getfield 15, 3) := by decide +kernel
theorem dX2_add_75 : decode cX2_add 75 = .ok (.iconst 1, 1) := by decide +kernel
theorem dX2_add_76 : decode cX2_add 76 = .ok (.iadd, 1) := by decide +kernel
theorem dX2_add_77 : decode cX2_add 77 = .ok (.putfield 15, 3) := by decide +kernel
theorem dX2_add_80 : decode cX2_add 80 = .ok (.return_, 1) := by decide +kernel
theorem dX2_remove_0 : decode cX2_remove 0 = .ok (.iload_n 1, 1) := by decide +kernel
theorem dX2_remove_1 : decode cX2_remove 1 = .ok (.iconst 1, 1) := by decide +kernel
theorem dX2_remove_2 : decode cX2_remove 2 = .ok (.iadd, 1) := by decide +kernel
theorem dX2_remove_3 : decode cX2_remove 3 = .ok (.iconst 5, 1) := by decide +kernel
theorem dX2_remove_4 : decode cX2_remove 4 = .ok (.imul, 1) := by decide +kernel
theorem dX2_remove_5 : decode cX2_remove 5 = .ok (.istore_n 2, 1) := by decide +kernel
theorem dX2_remove_6 : decode cX2_remove 6 = .ok (.aload_n 0, 1) := by decide +kernel
theorem dX2_remove_7 : decode cX2_remove 7 = .ok (.getfield 11, 3) := by decide +kernel
theorem dX2_remove_10 : decode cX2_remove 10 = .ok (.iload_n 2, 1) := by decide +kernel
theorem dX2_remove_11 : decode cX2_remove 11 = .ok (.aload_n 0, 1) := by decide +kernel
theorem dX2_remove_12 : decode cX2_remove 12 = .ok (.getfield 11, 3) := by decide +kernel
theorem dX2_remove_15 : decode cX2_remove 15 = .ok (.iload_n 1, 1) := by decide +kernel
theorem dX2_remove_16 : decode cX2_remove 16 = .ok (.iconst 5, 1) := by decide +kernel
theorem dX2_remove_17 : decode cX2_remove 17 = .ok (.imul, 1) := by decide +kernel
theorem dX2_remove_18 : decode cX2_remove 18 = .ok (.aload_n 0, 1) := by decide +kernel
theorem dX2_remove_19 : decode cX2_remove 19 = .ok (.getfield 15, 3) := by decide +kernel
theorem dX2_remove_22 : decode cX2_remove 22 = .ok (.iconst 5, 1) := by decide +kernel
theorem dX2_remove_23 : decode cX2_remove 23 = .ok (.imul, 1) := by decide +kernel
theorem dX2_remove_24 : decode cX2_remove 24 = .ok (.iload_n 2, 1) := by decide +kernel
theorem dX2_remove_25 : decode cX2_remove 25 = .ok (.isub, 1) := by decide +kernel
theorem dX2_remove_26 : decode cX2_remove 26 = .ok (.invokestatic 19, 3) := by decide +kernel
theorem dX2_remove_29 : decode cX2_remove 29 = .ok (.aload_n 0, 1) := by decide +kernel
theorem dX2_remove_30 : decode cX2_remove 30 = .ok (.dup, 1) := by decide +kernel
theorem dX2_remove_31 : decode cX2_remove 31 = .ok (.getfield 15, 3) := by decide +kernel
theorem dX2_remove_34 : decode cX2_remove 34 = .ok (.iconst 1, 1) := by decide +kernel
theorem dX2_remove_35 : decode cX2_remove 35 = .ok (.isub, 1) := by decide +kernel
theorem dX2_remove_36 : decode cX2_remove 36 = .ok (.putfield 15, 3) := by decide +kernel
theorem dX2_remove_39 : decode cX2_remove 39 = .ok (.return_, 1) := by decide +kernel
theorem dX2_clear_0 : decode cX2_clear 0 = .ok (.aload_n 0, 1) := by decide +kernel
theorem dX2_clear_1 : decode cX2_clear 1 = .ok (.iconst 0, 1) := by decide +kernel
theorem dX2_clear_2 : decode cX2_clear 2 = .ok (.putfield 15, 3) := by decide +kernel
theorem dX2_clear_5 : decode cX2_clear 5 = .ok (.return_, 1) := by decide +kernel
end
section
/-! decode rows (starting text: printed by TURN) -/
theorem dX3_init_0 : decode cX3_init 0 = .ok (.aload_n 0, 1) := by decide +kernel
theorem dX3_init_1 : decode cX3_init 1 = .ok (.invokespecial 1, 3) := by decide +kernel
theorem dX3_init_4 : decode cX3_init 4 = .ok (.aload_n 0, 1) := by decide +kernel
theorem dX3_init_5 : decode cX3_init 5 = .ok (.iconst 2, 1) := by decide +kernel
theorem dX3_init_6 : decode cX3_init 6 = .ok (.bipush 6, 2) := by decide +kernel
theorem dX3_init_8 : decode cX3_init 8 = .ok (.iload_n 1, 1) := by decide +kernel
theorem dX3_init_9 : decode cX3_init 9 = .ok (.invokestatic 9, 3) := by decide +kernel
theorem dX3_init_12 : decode cX3_init 12 = .ok (.invokestatic 15, 3) := by decide +kernel
theorem dX3_init_15 : decode cX3_init 15 = .ok (.putfield 18, 3) := by decide +kernel
theorem dX3_init_18 : decode cX3_init 18 = .ok (.aload_n 0, 1) := by decide +kernel
theorem dX3_init_19 : decode cX3_init 19 = .ok (.aload_n 0, 1) := by decide +kernel
theorem dX3_init_20 : decode cX3_init 20 = .ok (.getfield 18, 3) := by decide +kernel
theorem dX3_init_23 : decode cX3_init 23 = .ok (.anewarray 22, 3) := by decide +kernel
theorem dX3_init_26 : decode cX3_init 26 = .ok (.putfield 24, 3) := by decide +kernel
theorem dX3_init_29 : decode cX3_init 29 = .ok (.aload_n 0, 1) := by decide +kernel
theorem dX3_init_30 : decode cX3_init 30 = .ok (.aload_n 0, 1) := by decide +kernel
theorem dX3_init_31 : decode cX3_init 31 = .ok (.getfield 18, 3) := by decide +kernel
theorem dX3_init_34 : decode cX3_init 34 = .ok (.anewarray 28, 3) := by decide +kernel
theorem dX3_init_37 : decode cX3_init 37 = .ok (.putfield 30, 3) := by decide +kernel
theorem dX3_init_40 : decode cX3_init 40 = .ok (.iconst 0, 1) := by decide +kernel
theorem dX3_init_41 : decode cX3_init 41 = .ok (.istore_n 3, 1) := by decide +kernel
theorem dX3_init_42 : decode cX3_init 42 = .ok (.iload_n 3, 1) := by decide +kernel
theorem dX3_init_43 : decode cX3_init 43 = .ok (.aload_n 0, 1) := by decide +kernel
theorem dX3_init_44 : decode cX3_init 44 = .ok (.getfield 18, 3) := by decide +kernel
theorem dX3_init_47 : decode cX3_init 47 = .ok (.if_icmp .ge 39, 3) := by decide +kernel
theorem dX3_init_50 : decode cX3_init 50 = .ok (.aload_n 0, 1) := by decide +kernel
theorem dX3_init_51 : decode cX3_init 51 = .ok (.getfield 24, 3) := by decide +kernel
theorem dX3_init_54 : decode cX3_init 54 = .ok (.iload_n 3, 1) := by decide +kernel
theorem dX3_init_55 : decode cX3_init 55 = .ok (.new 22, 3) := by decide +kernel
theorem dX3_init_58 : decode cX3_init 58 = .ok (.dup, 1) := by decide +kernel
theorem dX3_init_59 : decode cX3_init 59 = .ok (.aload_n 0, 1) := by decide +kernel
theorem dX3_init_60 : decode cX3_init 60 = .ok (.getfield 18, 3) := by decide +kernel
theorem dX3_init_63 : decode cX3_init 63 = .ok (.invokespecial 34, 3) := by decide +kernel
theorem dX3_init_66 : decode cX3_init 66 = .ok (.aastore, 1) := by decide +kernel
theorem dX3_init_67 : decode cX3_init 67 = .ok (.aload_n 0, 1) := by decide +kernel
theorem dX3_init_68 : decode cX3_init 68 = .ok (.getfield 30, 3) := by decide +kernel
theorem dX3_init_71 : decode cX3_init 71 = .ok (.iload_n 3, 1) := by decide +kernel
theorem dX3_init_72 : decode cX3_init 72 = .ok (.new 28, 3) := by decide +kernel
theorem dX3_init_75 : decode cX3_init 75 = .ok (.dup, 1) := by decide +kernel
theorem dX3_init_76 : decode cX3_init 76 = .ok (.invokespecial 37, 3) := by decide +kernel
theorem dX3_init_79 : decode cX3_init 79 = .ok (.aastore, 1) := by decide +kernel
theorem dX3_init_80 : decode cX3_init 80 = .ok (.iinc 3 1, 3) := by decide +kernel
theorem dX3_init_83 : decode cX3_init 83 = .ok (.goto (-41), 3) := by decide +kernel
theorem dX3_init_86 : decode cX3_init 86 = .ok (.aload_n 0, 1) := by decide +kernel
theorem dX3_init_87 : decode cX3_init 87 = .ok (.new 38, 3) := by decide +kernel
theorem dX3_init_90 : decode cX3_init 90 = .ok (.dup, 1) := by decide +kernel
theorem dX3_init_91 : decode cX3_init 91 = .ok (.invokespecial 40, 3) := by decide +kernel
theorem dX3_init_94 : decode cX3_init 94 = .ok (.putfield 41, 3) := by decide +kernel
theorem dX3_init_97 : decode cX3_init 97 = .ok (.aload_n 0, 1) := by decide +kernel
theorem dX3_init_98 : decode cX3_init 98 = .ok (.iconst 4, 1) := by decide +kernel
theorem dX3_init_99 : decode cX3_init 99 = .ok (.newarray .int, 2) := by decide +kernel
theorem dX3_init_101 : decode cX3_init 101 = .ok (.putfield 45, 3) := by decide +kernel
theorem dX3_init_104 : decode cX3_init 104 = .ok (.aload_n 0, 1) := by decide +kernel
theorem dX3_init_105 : decode cX3_init 105 = .ok (.iload_n 2, 1) := by decide +kernel
theorem dX3_init_106 : decode cX3_init 106 = .ok (.ifCond .ne 7, 3) := by decide +kernel
theorem dX3_init_109 : decode cX3_init 109 = .ok (.iconst 3, 1) := by decide +kernel
theorem dX3_init_110 : decode cX3_init 110 = .ok (.goto 4, 3) := by decide +kernel
theorem dX3_init_113 : decode cX3_init 113 = .ok (.iconst 0, 1) := by decide +kernel
theorem dX3_init_114 : decode cX3_init 114 = .ok (.putfield 49, 3) := by decide +kernel
theorem dX3_init_117 : decode cX3_init 117 = .ok (.return_, 1) := by decide +kernel
theorem dX3_worth_0 : decode cX3_worth 0 = .ok (.aload_n 0, 1) := by decide +kernel
theorem dX3_worth_1 : decode cX3_worth 1 = .ok (.iload_n 1, 1) := by decide +kernel
theorem dX3_worth_2 : decode cX3_worth 2 = .ok (.invokevirtual 52, 3) := by decide +kernel
theorem dX3_worth_5 : decode cX3_worth 5 = .ok (.ifCond .eq 15, 3) := by decide +kernel
theorem dX3_worth_8 : decode cX3_worth 8 = .ok (.aload_n 0, 1) := by decide +kernel
theorem dX3_worth_9 : decode cX3_worth 9 = .ok (.iload_n 2, 1) := by decide +kernel
theorem dX3_worth_10 : decode cX3_worth 10 = .ok (.invokevirtual 52, 3) := by decide +kernel
theorem dX3_worth_13 : decode cX3_worth 13 = .ok (.ifCond .eq 7, 3) := by decide +kernel
theorem dX3_worth_16 : decode cX3_worth 16 = .ok (.iconst 1, 1) := by decide +kernel
theorem dX3_worth_17 : decode cX3_worth 17 = .ok (.goto 4, 3) := by decide +kernel
theorem dX3_worth_20 : decode cX3_worth 20 = .ok (.iconst 0, 1) := by decide +kernel
theorem dX3_worth_21 : decode cX3_worth 21 = .ok (.invokestatic 56, 3) := by decide +kernel
theorem dX3_worth_24 : decode cX3_worth 24 = .ok (.iload_n 3, 1) := by decide +kernel
theorem dX3_worth_25 : decode cX3_worth 25 = .ok (.ifCond .lt 14, 3) := by decide +kernel
theorem dX3_worth_28 : decode cX3_worth 28 = .ok (.iload_n 3, 1) := by decide +kernel
theorem dX3_worth_29 : decode cX3_worth 29 = .ok (.sipush 1000, 3) := by decide +kernel
theorem dX3_worth_32 : decode cX3_worth 32 = .ok (.if_icmp .gt 7, 3) := by decide +kernel
theorem dX3_worth_35 : decode cX3_worth 35 = .ok (.iconst 1, 1) := by decide +kernel
theorem dX3_worth_36 : decode cX3_worth 36 = .ok (.goto 4, 3) := by decide +kernel
theorem dX3_worth_39 : decode cX3_worth 39 = .ok (.iconst 0, 1) := by decide +kernel
theorem dX3_worth_40 : decode cX3_worth 40 = .ok (.invokestatic 56, 3) := by decide +kernel
theorem dX3_worth_43 : decode cX3_worth 43 = .ok (.aload_n 0, 1) := by decide +kernel
theorem dX3_worth_44 : decode cX3_worth 44 = .ok (.getfield 45, 3) := by decide +kernel
theorem dX3_worth_47 : decode cX3_worth 47 = .ok (.iconst 0, 1) := by decide +kernel
theorem dX3_worth_48 : decode cX3_worth 48 = .ok (.iaload, 1) := by decide +kernel
theorem dX3_worth_49 : decode cX3_worth 49 = .ok (.ifCond .le 7, 3) := by decide +kernel
theorem dX3_worth_52 : decode cX3_worth 52 = .ok (.iconst 1, 1) := by decide +kernel
theorem dX3_worth_53 : decode cX3_worth 53 = .ok (.goto 4, 3) := by decide +kernel
theorem dX3_worth_56 : decode cX3_worth 56 = .ok (.iconst 0, 1) := by decide +kernel
theorem dX3_worth_57 : decode cX3_worth 57 = .ok (.istore 4, 2) := by decide +kernel
theorem dX3_worth_59 : decode cX3_worth 59 = .ok (.iload 4, 2) := by decide +kernel
theorem dX3_worth_61 : decode cX3_worth 61 = .ok (.ifCond .eq 10, 3) := by decide +kernel
theorem dX3_worth_64 : decode cX3_worth 64 = .ok (.aload_n 0, 1) := by decide +kernel
theorem dX3_worth_65 : decode cX3_worth 65 = .ok (.invokevirtual 60, 3) := by decide +kernel
theorem dX3_worth_68 : decode cX3_worth 68 = .ok (.ifCond .eq 7, 3) := by decide +kernel
theorem dX3_worth_71 : decode cX3_worth 71 = .ok (.iconst 1, 1) := by decide +kernel
theorem dX3_worth_72 : decode cX3_worth 72 = .ok (.goto 4, 3) := by decide +kernel
theorem dX3_worth_75 : decode cX3_worth 75 = .ok (.iconst 0, 1) := by decide +kernel
theorem dX3_worth_76 : decode cX3_worth 76 = .ok (.invokestatic 64, 3) := by decide +kernel
theorem dX3_worth_79 : decode cX3_worth 79 = .ok (.aload_n 0, 1) := by decide +kernel
theorem dX3_worth_80 : decode cX3_worth 80 = .ok (.getfield 24, 3) := by decide +kernel
theorem dX3_worth_83 : decode cX3_worth 83 = .ok (.iload_n 1, 1) := by decide +kernel
theorem dX3_worth_84 : decode cX3_worth 84 = .ok (.aaload, 1) := by decide +kernel
theorem dX3_worth_85 : decode cX3_worth 85 = .ok (.astore 5, 2) := by decide +kernel
theorem dX3_worth_87 : decode cX3_worth 87 = .ok (.aload 5, 2) := by decide +kernel
theorem dX3_worth_89 : decode cX3_worth 89 = .ok (.getfield 67, 3) := by decide +kernel
theorem dX3_worth_92 : decode cX3_worth 92 = .ok (.iload_n 2, 1) := by decide +kernel
theorem dX3_worth_93 : decode cX3_worth 93 = .ok (.iload_n 3, 1) := by decide +kernel
theorem dX3_worth_94 : decode cX3_worth 94 = .ok (.iastore, 1) := by decide +kernel
theorem dX3_worth_95 : decode cX3_worth 95 = .ok (.iload 4, 2) := by decide +kernel
theorem dX3_worth_97 : decode cX3_worth 97 = .ok (.ifCond .eq 28, 3) := by decide +kernel
theorem dX3_worth_100 : decode cX3_worth 100 = .ok (.aload_n 0, 1) := by decide +kernel
theorem dX3_worth_101 : decode cX3_worth 101 = .ok (.getfield 41, 3) := by decide +kernel
theorem dX3_worth_104 : decode cX3_worth 104 = .ok (.invokevirtual 70, 3) := by decide +kernel
theorem dX3_worth_107 : decode cX3_worth 107 = .ok (.aload_n 0, 1) := by decide +kernel
theorem dX3_worth_108 : decode cX3_worth 108 = .ok (.getfield 30, 3) := by decide +kernel
theorem dX3_worth_111 : decode cX3_worth 111 = .ok (.aload 5, 2) := by decide +kernel
theorem dX3_worth_113 : decode cX3_worth 113 = .ok (.getfield 73, 3) := by decide +kernel
theorem dX3_worth_116 : decode cX3_worth 116 = .ok (.aaload, 1) := by decide +kernel
theorem dX3_worth_117 : decode cX3_worth 117 = .ok (.invokevirtual 76, 3) := by decide +kernel
theorem dX3_worth_120 : decode cX3_worth 120 = .ok (.aload 5, 2) := by decide +kernel
theorem dX3_worth_122 : decode cX3_worth 122 = .ok (.invokevirtual 79, 3) := by decide +kernel
theorem dX3_worth_125 : decode cX3_worth 125 = .ok (.return_, 1) := by decide +kernel
theorem dX3_act_0 : decode cX3_act 0 = .ok (.aload_n 0, 1) := by decide +kernel
theorem dX3_act_1 : decode cX3_act 1 = .ok (.iload_n 1, 1) := by decide +kernel
theorem dX3_act_2 : decode cX3_act 2 = .ok (.invokevirtual 52, 3) := by decide +kernel
theorem dX3_act_5 : decode cX3_act 5 = .ok (.invokestatic 56, 3) := by decide +kernel
theorem dX3_act_8 : decode cX3_act 8 = .ok (.aload_n 0, 1) := by decide +kernel
theorem dX3_act_9 : decode cX3_act 9 = .ok (.getfield 24, 3) := by decide +kernel
theorem dX3_act_12 : decode cX3_act 12 = .ok (.iload_n 1, 1) := by decide +kernel
theorem dX3_act_13 : decode cX3_act 13 = .ok (.aaload, 1) := by decide +kernel
theorem dX3_act_14 : decode cX3_act 14 = .ok (.astore_n 2, 1) := by decide +kernel
theorem dX3_act_15 : decode cX3_act 15 = .ok (.aload_n 2, 1) := by decide +kernel
theorem dX3_act_16 : decode cX3_act 16 = .ok (.getfield 82, 3) := by decide +kernel
theorem dX3_act_19 : decode cX3_act 19 = .ok (.ifCond .ne 19, 3) := by decide +kernel
theorem dX3_act_22 : decode cX3_act 22 = .ok (.aload_n 0, 1) := by decide +kernel
theorem dX3_act_23 : decode cX3_act 23 = .ok (.getfield 41, 3) := by decide +kernel
theorem dX3_act_26 : decode cX3_act 26 = .ok (.getfield 85, 3) := by decide +kernel
theorem dX3_act_29 : decode cX3_act 29 = .ok (.bipush 40, 2) := by decide +kernel
theorem dX3_act_31 : decode cX3_act 31 = .ok (.if_icmp .ge 7, 3) := by decide +kernel
theorem dX3_act_34 : decode cX3_act 34 = .ok (.iconst 1, 1) := by decide +kernel
theorem dX3_act_35 : decode cX3_act 35 = .ok (.goto 4, 3) := by decide +kernel
theorem dX3_act_38 : decode cX3_act 38 = .ok (.iconst 0, 1) := by decide +kernel
theorem dX3_act_39 : decode cX3_act 39 = .ok (.invokestatic 64, 3) := by decide +kernel
theorem dX3_act_42 : decode cX3_act 42 = .ok (.aload_n 2, 1) := by decide +kernel
theorem dX3_act_43 : decode cX3_act 43 = .ok (.getstatic 86, 3) := by decide +kernel
theorem dX3_act_46 : decode cX3_act 46 = .ok (.aload_n 0, 1) := by decide +kernel
theorem dX3_act_47 : decode cX3_act 47 = .ok (.getfield 49, 3) := by decide +kernel
theorem dX3_act_50 : decode cX3_act 50 = .ok (.iaload, 1) := by decide +kernel
theorem dX3_act_51 : decode cX3_act 51 = .ok (.invokevirtual 89, 3) := by decide +kernel
theorem dX3_act_54 : decode cX3_act 54 = .ok (.aload_n 0, 1) := by decide +kernel
theorem dX3_act_55 : decode cX3_act 55 = .ok (.getfield 45, 3) := by decide +kernel
theorem dX3_act_58 : decode cX3_act 58 = .ok (.iconst 0, 1) := by decide +kernel
theorem dX3_act_59 : decode cX3_act 59 = .ok (.dup2, 1) := by decide +kernel
theorem dX3_act_60 : decode cX3_act 60 = .ok (.iaload, 1) := by decide +kernel
theorem dX3_act_61 : decode cX3_act 61 = .ok (.iconst 1, 1) := by decide +kernel
theorem dX3_act_62 : decode cX3_act 62 = .ok (.iadd, 1) := by decide +kernel
theorem dX3_act_63 : decode cX3_act 63 = .ok (.iastore, 1) := by decide +kernel
theorem dX3_act_64 : decode cX3_act 64 = .ok (.aload_n 0, 1) := by decide +kernel
theorem dX3_act_65 : decode cX3_act 65 = .ok (.iload_n 1, 1) := by decide +kernel
theorem dX3_act_66 : decode cX3_act 66 = .ok (.invokevirtual 92, 3) := by decide +kernel
theorem dX3_act_69 : decode cX3_act 69 = .ok (.aload_n 2, 1) := by decide +kernel
theorem dX3_act_70 : decode cX3_act 70 = .ok (.getfield 73, 3) := by decide +kernel
theorem dX3_act_73 : decode cX3_act 73 = .ok (.ireturn, 1) := by decide +kernel
theorem dX3_resend_0 : decode cX3_resend 0 = .ok (.aload_n 0, 1) := by decide +kernel
theorem dX3_resend_1 : decode cX3_resend 1 = .ok (.iload_n 1, 1) := by decide +kernel
theorem dX3_resend_2 : decode cX3_resend 2 = .ok (.invokevirtual 52, 3) := by decide +kernel
theorem dX3_resend_5 : decode cX3_resend 5 = .ok (.invokestatic 56, 3) := by decide +kernel
theorem dX3_resend_8 : decode cX3_resend 8 = .ok (.aload_n 0, 1) := by decide +kernel
theorem dX3_resend_9 : decode cX3_resend 9 = .ok (.getfield 24, 3) := by decide +kernel
theorem dX3_resend_12 : decode cX3_resend 12 = .ok (.iload_n 1, 1) := by decide +kernel
theorem dX3_resend_13 : decode cX3_resend 13 = .ok (.aaload, 1) := by decide +kernel
theorem dX3_resend_14 : decode cX3_resend 14 = .ok (.getfield 82, 3) := by decide +kernel
theorem dX3_resend_17 : decode cX3_resend 17 = .ok (.ifCond .eq 19, 3) := by decide +kernel
theorem dX3_resend_20 : decode cX3_resend 20 = .ok (.aload_n 0, 1) := by decide +kernel
theorem dX3_resend_21 : decode cX3_resend 21 = .ok (.getfield 41, 3) := by decide +kernel
theorem dX3_resend_24 : decode cX3_resend 24 = .ok (.getfield 85, 3) := by decide +kernel
theorem dX3_resend_27 : decode cX3_resend 27 = .ok (.bipush 40, 2) := by decide +kernel
theorem dX3_resend_29 : decode cX3_resend 29 = .ok (.if_icmp .ge 7, 3) := by decide +kernel
theorem dX3_resend_32 : decode cX3_resend 32 = .ok (.iconst 1, 1) := by decide +kernel
theorem dX3_resend_33 : decode cX3_resend 33 = .ok (.goto 4, 3) := by decide +kernel
theorem dX3_resend_36 : decode cX3_resend 36 = .ok (.iconst 0, 1) := by decide +kernel
theorem dX3_resend_37 : decode cX3_resend 37 = .ok (.invokestatic 64, 3) := by decide +kernel
theorem dX3_resend_40 : decode cX3_resend 40 = .ok (.aload_n 0, 1) := by decide +kernel
theorem dX3_resend_41 : decode cX3_resend 41 = .ok (.iload_n 1, 1) := by decide +kernel
theorem dX3_resend_42 : decode cX3_resend 42 = .ok (.invokevirtual 92, 3) := by decide +kernel
theorem dX3_resend_45 : decode cX3_resend 45 = .ok (.aload_n 0, 1) := by decide +kernel
theorem dX3_resend_46 : decode cX3_resend 46 = .ok (.getfield 41, 3) := by decide +kernel
theorem dX3_resend_49 : decode cX3_resend 49 = .ok (.getfield 85, 3) := by decide +kernel
theorem dX3_resend_52 : decode cX3_resend 52 = .ok (.ireturn, 1) := by decide +kernel
theorem dX3_deliver_0 : decode cX3_deliver 0 = .ok (.aload_n 0, 1) := by decide +kernel
theorem dX3_deliver_1 : decode cX3_deliver 1 = .ok (.iload_n 1, 1) := by decide +kernel
theorem dX3_deliver_2 : decode cX3_deliver 2 = .ok (.invokevirtual 95, 3) := by decide +kernel
theorem dX3_deliver_5 : decode cX3_deliver 5 = .ok (.aload_n 0, 1) := by decide +kernel
theorem dX3_deliver_6 : decode cX3_deliver 6 = .ok (.getfield 41, 3) := by decide +kernel
theorem dX3_deliver_9 : decode cX3_deliver 9 = .ok (.iload_n 1, 1) := by decide +kernel
theorem dX3_deliver_10 : decode cX3_deliver 10 = .ok (.iconst 0, 1) := by decide +kernel
theorem dX3_deliver_11 : decode cX3_deliver 11 = .ok (.invokevirtual 98, 3) := by decide +kernel
theorem dX3_deliver_14 : decode cX3_deliver 14 = .ok (.istore_n 2, 1) := by decide +kernel
theorem dX3_deliver_15 : decode cX3_deliver 15 = .ok (.aload_n 0, 1) := by decide +kernel
theorem dX3_deliver_16 : decode cX3_deliver 16 = .ok (.getfield 41, 3) := by decide +kernel
theorem dX3_deliver_19 : decode cX3_deliver 19 = .ok (.iload_n 1, 1) := by decide +kernel
theorem dX3_deliver_20 : decode cX3_deliver 20 = .ok (.iconst 1, 1) := by decide +kernel
theorem dX3_deliver_21 : decode cX3_deliver 21 = .ok (.invokevirtual 98, 3) := by decide +kernel
theorem dX3_deliver_24 : decode cX3_deliver 24 = .ok (.istore_n 3, 1) := by decide +kernel
theorem dX3_deliver_25 : decode cX3_deliver 25 = .ok (.aload_n 0, 1) := by decide +kernel
theorem dX3_deliver_26 : decode cX3_deliver 26 = .ok (.getfield 41, 3) := by decide +kernel
theorem dX3_deliver_29 : decode cX3_deliver 29 = .ok (.iload_n 1, 1) := by decide +kernel
theorem dX3_deliver_30 : decode cX3_deliver 30 = .ok (.iconst 2, 1) := by decide +kernel
theorem dX3_deliver_31 : decode cX3_deliver 31 = .ok (.invokevirtual 98, 3) := by decide +kernel
theorem dX3_deliver_34 : decode cX3_deliver 34 = .ok (.istore 4, 2) := by decide +kernel
theorem dX3_deliver_36 : decode cX3_deliver 36 = .ok (.aload_n 0, 1) := by decide +kernel
theorem dX3_deliver_37 : decode cX3_deliver 37 = .ok (.getfield 41, 3) := by decide +kernel
theorem dX3_deliver_40 : decode cX3_deliver 40 = .ok (.iload_n 1, 1) := by decide +kernel
theorem dX3_deliver_41 : decode cX3_deliver 41 = .ok (.iconst 3, 1) := by decide +kernel
theorem dX3_deliver_42 : decode cX3_deliver 42 = .ok (.invokevirtual 98, 3) := by decide +kernel
theorem dX3_deliver_45 : decode cX3_deliver 45 = .ok (.istore 5, 2) := by decide +kernel
theorem dX3_deliver_47 : decode cX3_deliver 47 = .ok (.aload_n 0, 1) := by decide +kernel
theorem dX3_deliver_48 : decode cX3_deliver 48 = .ok (.getfield 41, 3) := by decide +kernel
theorem dX3_deliver_51 : decode cX3_deliver 51 = .ok (.iload_n 1, 1) := by decide +kernel
theorem dX3_deliver_52 : decode cX3_deliver 52 = .ok (.iconst 4, 1) := by decide +kernel
theorem dX3_deliver_53 : decode cX3_deliver 53 = .ok (.invokevirtual 98, 3) := by decide +kernel
theorem dX3_deliver_56 : decode cX3_deliver 56 = .ok (.istore 6, 2) := by decide +kernel
theorem dX3_deliver_58 : decode cX3_deliver 58 = .ok (.aload_n 0, 1) := by decide +kernel
theorem dX3_deliver_59 : decode cX3_deliver 59 = .ok (.getfield 41, 3) := by decide +kernel
theorem dX3_deliver_62 : decode cX3_deliver 62 = .ok (.iload_n 1, 1) := by decide +kernel
theorem dX3_deliver_63 : decode cX3_deliver 63 = .ok (.invokevirtual 101, 3) := by decide +kernel
theorem dX3_deliver_66 : decode cX3_deliver 66 = .ok (.iload_n 2, 1) := by decide +kernel
theorem dX3_deliver_67 : decode cX3_deliver 67 = .ok (.ifCond .ne 17, 3) := by decide +kernel
theorem dX3_deliver_70 : decode cX3_deliver 70 = .ok (.aload_n 0, 1) := by decide +kernel
theorem dX3_deliver_71 : decode cX3_deliver 71 = .ok (.iload_n 3, 1) := by decide +kernel
theorem dX3_deliver_72 : decode cX3_deliver 72 = .ok (.iload 4, 2) := by decide +kernel
theorem dX3_deliver_74 : decode cX3_deliver 74 = .ok (.iload 5, 2) := by decide +kernel
theorem dX3_deliver_76 : decode cX3_deliver 76 = .ok (.iload 6, 2) := by decide +kernel
theorem dX3_deliver_78 : decode cX3_deliver 78 = .ok (.invokevirtual 104, 3) := by decide +kernel
theorem dX3_deliver_81 : decode cX3_deliver 81 = .ok (.goto 28, 3) := by decide +kernel
theorem dX3_deliver_84 : decode cX3_deliver 84 = .ok (.aload_n 0, 1) := by decide +kernel
theorem dX3_deliver_85 : decode cX3_deliver 85 = .ok (.getfield 24, 3) := by decide +kernel
theorem dX3_deliver_88 : decode cX3_deliver 88 = .ok (.iload_n 3, 1) := by decide +kernel
theorem dX3_deliver_89 : decode cX3_deliver 89 = .ok (.aaload, 1) := by decide +kernel
theorem dX3_deliver_90 : decode cX3_deliver 90 = .ok (.iload 4, 2) := by decide +kernel
theorem dX3_deliver_92 : decode cX3_deliver 92 = .ok (.iload 6, 2) := by decide +kernel
theorem dX3_deliver_94 : decode cX3_deliver 94 = .ok (.invokevirtual 108, 3) := by decide +kernel
theorem dX3_deliver_97 : decode cX3_deliver 97 = .ok (.aload_n 0, 1) := by decide +kernel
theorem dX3_deliver_98 : decode cX3_deliver 98 = .ok (.getfield 24, 3) := by decide +kernel
theorem dX3_deliver_101 : decode cX3_deliver 101 = .ok (.iload_n 3, 1) := by decide +kernel
theorem dX3_deliver_102 : decode cX3_deliver 102 = .ok (.aaload, 1) := by decide +kernel
theorem dX3_deliver_103 : decode cX3_deliver 103 = .ok (.iload_n 2, 1) := by decide +kernel
theorem dX3_deliver_104 : decode cX3_deliver 104 = .ok (.iload 5, 2) := by decide +kernel
theorem dX3_deliver_106 : decode cX3_deliver 106 = .ok (.invokevirtual 112, 3) := by decide +kernel
theorem dX3_deliver_109 : decode cX3_deliver 109 = .ok (.iload_n 2, 1) := by decide +kernel
theorem dX3_deliver_110 : decode cX3_deliver 110 = .ok (.ireturn, 1) := by decide +kernel
theorem dX3_lose_0 : decode cX3_lose 0 = .ok (.aload_n 0, 1) := by decide +kernel
theorem dX3_lose_1 : decode cX3_lose 1 = .ok (.iload_n 1, 1) := by decide +kernel
theorem dX3_lose_2 : decode cX3_lose 2 = .ok (.invokevirtual 95, 3) := by decide +kernel
theorem dX3_lose_5 : decode cX3_lose 5 = .ok (.aload_n 0, 1) := by decide +kernel
theorem dX3_lose_6 : decode cX3_lose 6 = .ok (.getfield 41, 3) := by decide +kernel
theorem dX3_lose_9 : decode cX3_lose 9 = .ok (.iload_n 1, 1) := by decide +kernel
theorem dX3_lose_10 : decode cX3_lose 10 = .ok (.invokevirtual 101, 3) := by decide +kernel
theorem dX3_lose_13 : decode cX3_lose 13 = .ok (.aload_n 0, 1) := by decide +kernel
theorem dX3_lose_14 : decode cX3_lose 14 = .ok (.getfield 41, 3) := by decide +kernel
theorem dX3_lose_17 : decode cX3_lose 17 = .ok (.getfield 85, 3) := by decide +kernel
theorem dX3_lose_20 : decode cX3_lose 20 = .ok (.ireturn, 1) := by decide +kernel
theorem dX3_twin_0 : decode cX3_twin 0 = .ok (.aload_n 0, 1) := by decide +kernel
theorem dX3_twin_1 : decode cX3_twin 1 = .ok (.iload_n 1, 1) := by decide +kernel
theorem dX3_twin_2 : decode cX3_twin 2 = .ok (.invokevirtual 95, 3) := by decide +kernel
theorem dX3_twin_5 : decode cX3_twin 5 = .ok (.aload_n 0, 1) := by decide +kernel
theorem dX3_twin_6 : decode cX3_twin 6 = .ok (.getfield 41, 3) := by decide +kernel
theorem dX3_twin_9 : decode cX3_twin 9 = .ok (.getfield 85, 3) := by decide +kernel
theorem dX3_twin_12 : decode cX3_twin 12 = .ok (.bipush 40, 2) := by decide +kernel
theorem dX3_twin_14 : decode cX3_twin 14 = .ok (.if_icmp .ge 7, 3) := by decide +kernel
theorem dX3_twin_17 : decode cX3_twin 17 = .ok (.iconst 1, 1) := by decide +kernel
theorem dX3_twin_18 : decode cX3_twin 18 = .ok (.goto 4, 3) := by decide +kernel
theorem dX3_twin_21 : decode cX3_twin 21 = .ok (.iconst 0, 1) := by decide +kernel
theorem dX3_twin_22 : decode cX3_twin 22 = .ok (.invokestatic 64, 3) := by decide +kernel
theorem dX3_twin_25 : decode cX3_twin 25 = .ok (.aload_n 0, 1) := by decide +kernel
theorem dX3_twin_26 : decode cX3_twin 26 = .ok (.getfield 41, 3) := by decide +kernel
theorem dX3_twin_29 : decode cX3_twin 29 = .ok (.aload_n 0, 1) := by decide +kernel
theorem dX3_twin_30 : decode cX3_twin 30 = .ok (.getfield 41, 3) := by decide +kernel
theorem dX3_twin_33 : decode cX3_twin 33 = .ok (.iload_n 1, 1) := by decide +kernel
theorem dX3_twin_34 : decode cX3_twin 34 = .ok (.iconst 0, 1) := by decide +kernel
theorem dX3_twin_35 : decode cX3_twin 35 = .ok (.invokevirtual 98, 3) := by decide +kernel
theorem dX3_twin_38 : decode cX3_twin 38 = .ok (.aload_n 0, 1) := by decide +kernel
theorem dX3_twin_39 : decode cX3_twin 39 = .ok (.getfield 41, 3) := by decide +kernel
theorem dX3_twin_42 : decode cX3_twin 42 = .ok (.iload_n 1, 1) := by decide +kernel
theorem dX3_twin_43 : decode cX3_twin 43 = .ok (.iconst 1, 1) := by decide +kernel
theorem dX3_twin_44 : decode cX3_twin 44 = .ok (.invokevirtual 98, 3) := by decide +kernel
theorem dX3_twin_47 : decode cX3_twin 47 = .ok (.aload_n 0, 1) := by decide +kernel
theorem dX3_twin_48 : decode cX3_twin 48 = .ok (.getfield 41, 3) := by decide +kernel
theorem dX3_twin_51 : decode cX3_twin 51 = .ok (.iload_n 1, 1) := by decide +kernel
theorem dX3_twin_52 : decode cX3_twin 52 = .ok (.iconst 2, 1) := by decide +kernel
theorem dX3_twin_53 : decode cX3_twin 53 = .ok (.invokevirtual 98, 3) := by decide +kernel
theorem dX3_twin_56 : decode cX3_twin 56 = .ok (.aload_n 0, 1) := by decide +kernel
theorem dX3_twin_57 : decode cX3_twin 57 = .ok (.getfield 41, 3) := by decide +kernel
theorem dX3_twin_60 : decode cX3_twin 60 = .ok (.iload_n 1, 1) := by decide +kernel
theorem dX3_twin_61 : decode cX3_twin 61 = .ok (.iconst 3, 1) := by decide +kernel
theorem dX3_twin_62 : decode cX3_twin 62 = .ok (.invokevirtual 98, 3) := by decide +kernel
theorem dX3_twin_65 : decode cX3_twin 65 = .ok (.aload_n 0, 1) := by decide +kernel
theorem dX3_twin_66 : decode cX3_twin 66 = .ok (.getfield 41, 3) := by decide +kernel
theorem dX3_twin_69 : decode cX3_twin 69 = .ok (.iload_n 1, 1) := by decide +kernel
theorem dX3_twin_70 : decode cX3_twin 70 = .ok (.iconst 4, 1) := by decide +kernel
theorem dX3_twin_71 : decode cX3_twin 71 = .ok (.invokevirtual 98, 3) := by decide +kernel
theorem dX3_twin_74 : decode cX3_twin 74 = .ok (.invokevirtual 115, 3) := by decide +kernel
theorem dX3_twin_77 : decode cX3_twin 77 = .ok (.aload_n 0, 1) := by decide +kernel
theorem dX3_twin_78 : decode cX3_twin 78 = .ok (.getfield 41, 3) := by decide +kernel
theorem dX3_twin_81 : decode cX3_twin 81 = .ok (.getfield 85, 3) := by decide +kernel
theorem dX3_twin_84 : decode cX3_twin 84 = .ok (.ireturn, 1) := by decide +kernel
theorem dX3_letters_0 : decode cX3_letters 0 = .ok (.aload_n 0, 1) := by decide +kernel
theorem dX3_letters_1 : decode cX3_letters 1 = .ok (.getfield 41, 3) := by decide +kernel
theorem dX3_letters_4 : decode cX3_letters 4 = .ok (.getfield 85, 3) := by decide +kernel
theorem dX3_letters_7 : decode cX3_letters 7 = .ok (.ireturn, 1) := by decide +kernel
theorem dX3_letter_0 : decode cX3_letter 0 = .ok (.aload_n 0, 1) := by decide +kernel
theorem dX3_letter_1 : decode cX3_letter 1 = .ok (.iload_n 1, 1) := by decide +kernel
theorem dX3_letter_2 : decode cX3_letter 2 = .ok (.invokevirtual 95, 3) := by decide +kernel
theorem dX3_letter_5 : decode cX3_letter 5 = .ok (.iload_n 2, 1) := by decide +kernel
theorem dX3_letter_6 : decode cX3_letter 6 = .ok (.ifCond .lt 12, 3) := by decide +kernel
theorem dX3_letter_9 : decode cX3_letter 9 = .ok (.iload_n 2, 1) := by decide +kernel
theorem dX3_letter_10 : decode cX3_letter 10 = .ok (.iconst 5, 1) := by decide +kernel
theorem dX3_letter_11 : decode cX3_letter 11 = .ok (.if_icmp .ge 7, 3) := by decide +kernel
theorem dX3_letter_14 : decode cX3_letter 14 = .ok (.iconst 1, 1) := by decide +kernel
theorem dX3_letter_15 : decode cX3_letter 15 = .ok (.goto 4, 3) := by decide +kernel
theorem dX3_letter_18 : decode cX3_letter 18 = .ok (.iconst 0, 1) := by decide +kernel
theorem dX3_letter_19 : decode cX3_letter 19 = .ok (.invokestatic 56, 3) := by decide +kernel
theorem dX3_letter_22 : decode cX3_letter 22 = .ok (.aload_n 0, 1) := by decide +kernel
theorem dX3_letter_23 : decode cX3_letter 23 = .ok (.getfield 41, 3) := by decide +kernel
theorem dX3_letter_26 : decode cX3_letter 26 = .ok (.iload_n 1, 1) := by decide +kernel
theorem dX3_letter_27 : decode cX3_letter 27 = .ok (.iload_n 2, 1) := by decide +kernel
theorem dX3_letter_28 : decode cX3_letter 28 = .ok (.invokevirtual 98, 3) := by decide +kernel
theorem dX3_letter_31 : decode cX3_letter 31 = .ok (.ireturn, 1) := by decide +kernel
theorem dX3_crew_0 : decode cX3_crew 0 = .ok (.aload_n 0, 1) := by decide +kernel
theorem dX3_crew_1 : decode cX3_crew 1 = .ok (.iload_n 1, 1) := by decide +kernel
theorem dX3_crew_2 : decode cX3_crew 2 = .ok (.invokevirtual 52, 3) := by decide +kernel
theorem dX3_crew_5 : decode cX3_crew 5 = .ok (.ifCond .eq 16, 3) := by decide +kernel
theorem dX3_crew_8 : decode cX3_crew 8 = .ok (.iload_n 2, 1) := by decide +kernel
theorem dX3_crew_9 : decode cX3_crew 9 = .ok (.ifCond .lt 12, 3) := by decide +kernel
theorem dX3_crew_12 : decode cX3_crew 12 = .ok (.iload_n 2, 1) := by decide +kernel
theorem dX3_crew_13 : decode cX3_crew 13 = .ok (.iconst 3, 1) := by decide +kernel
theorem dX3_crew_14 : decode cX3_crew 14 = .ok (.if_icmp .gt 7, 3) := by decide +kernel
theorem dX3_crew_17 : decode cX3_crew 17 = .ok (.iconst 1, 1) := by decide +kernel
theorem dX3_crew_18 : decode cX3_crew 18 = .ok (.goto 4, 3) := by decide +kernel
theorem dX3_crew_21 : decode cX3_crew 21 = .ok (.iconst 0, 1) := by decide +kernel
theorem dX3_crew_22 : decode cX3_crew 22 = .ok (.invokestatic 56, 3) := by decide +kernel
theorem dX3_crew_25 : decode cX3_crew 25 = .ok (.aload_n 0, 1) := by decide +kernel
theorem dX3_crew_26 : decode cX3_crew 26 = .ok (.getfield 24, 3) := by decide +kernel
theorem dX3_crew_29 : decode cX3_crew 29 = .ok (.iload_n 1, 1) := by decide +kernel
theorem dX3_crew_30 : decode cX3_crew 30 = .ok (.aaload, 1) := by decide +kernel
theorem dX3_crew_31 : decode cX3_crew 31 = .ok (.astore_n 3, 1) := by decide +kernel
theorem dX3_crew_32 : decode cX3_crew 32 = .ok (.iload_n 2, 1) := by decide +kernel
theorem dX3_crew_33 : decode cX3_crew 33 = .ok (.tableswitch 42 0 2 #[27, 32, 37], 27) := by decide +kernel
theorem dX3_crew_60 : decode cX3_crew 60 = .ok (.aload_n 3, 1) := by decide +kernel
theorem dX3_crew_61 : decode cX3_crew 61 = .ok (.getfield 82, 3) := by decide +kernel
theorem dX3_crew_64 : decode cX3_crew 64 = .ok (.ireturn, 1) := by decide +kernel
theorem dX3_crew_65 : decode cX3_crew 65 = .ok (.aload_n 3, 1) := by decide +kernel
theorem dX3_crew_66 : decode cX3_crew 66 = .ok (.getfield 73, 3) := by decide +kernel
theorem dX3_crew_69 : decode cX3_crew 69 = .ok (.ireturn, 1) := by decide +kernel
theorem dX3_crew_70 : decode cX3_crew 70 = .ok (.aload_n 3, 1) := by decide +kernel
theorem dX3_crew_71 : decode cX3_crew 71 = .ok (.getfield 119, 3) := by decide +kernel
theorem dX3_crew_74 : decode cX3_crew 74 = .ok (.ireturn, 1) := by decide +kernel
theorem dX3_crew_75 : decode cX3_crew 75 = .ok (.aload_n 0, 1) := by decide +kernel
theorem dX3_crew_76 : decode cX3_crew 76 = .ok (.aload_n 3, 1) := by decide +kernel
theorem dX3_crew_77 : decode cX3_crew 77 = .ok (.invokevirtual 122, 3) := by decide +kernel
theorem dX3_crew_80 : decode cX3_crew 80 = .ok (.ireturn, 1) := by decide +kernel
theorem dX3_known_0 : decode cX3_known 0 = .ok (.aload_n 0, 1) := by decide +kernel
theorem dX3_known_1 : decode cX3_known 1 = .ok (.iload_n 1, 1) := by decide +kernel
theorem dX3_known_2 : decode cX3_known 2 = .ok (.invokevirtual 52, 3) := by decide +kernel
theorem dX3_known_5 : decode cX3_known 5 = .ok (.ifCond .eq 15, 3) := by decide +kernel
theorem dX3_known_8 : decode cX3_known 8 = .ok (.aload_n 0, 1) := by decide +kernel
theorem dX3_known_9 : decode cX3_known 9 = .ok (.iload_n 2, 1) := by decide +kernel
theorem dX3_known_10 : decode cX3_known 10 = .ok (.invokevirtual 52, 3) := by decide +kernel
theorem dX3_known_13 : decode cX3_known 13 = .ok (.ifCond .eq 7, 3) := by decide +kernel
theorem dX3_known_16 : decode cX3_known 16 = .ok (.iconst 1, 1) := by decide +kernel
theorem dX3_known_17 : decode cX3_known 17 = .ok (.goto 4, 3) := by decide +kernel
theorem dX3_known_20 : decode cX3_known 20 = .ok (.iconst 0, 1) := by decide +kernel
theorem dX3_known_21 : decode cX3_known 21 = .ok (.invokestatic 56, 3) := by decide +kernel
theorem dX3_known_24 : decode cX3_known 24 = .ok (.aload_n 0, 1) := by decide +kernel
theorem dX3_known_25 : decode cX3_known 25 = .ok (.getfield 24, 3) := by decide +kernel
theorem dX3_known_28 : decode cX3_known 28 = .ok (.iload_n 1, 1) := by decide +kernel
theorem dX3_known_29 : decode cX3_known 29 = .ok (.aaload, 1) := by decide +kernel
theorem dX3_known_30 : decode cX3_known 30 = .ok (.getfield 126, 3) := by decide +kernel
theorem dX3_known_33 : decode cX3_known 33 = .ok (.iload_n 2, 1) := by decide +kernel
theorem dX3_known_34 : decode cX3_known 34 = .ok (.iaload, 1) := by decide +kernel
theorem dX3_known_35 : decode cX3_known 35 = .ok (.ireturn, 1) := by decide +kernel
theorem dX3_desk_0 : decode cX3_desk 0 = .ok (.aload_n 0, 1) := by decide +kernel
theorem dX3_desk_1 : decode cX3_desk 1 = .ok (.iload_n 1, 1) := by decide +kernel
theorem dX3_desk_2 : decode cX3_desk 2 = .ok (.invokevirtual 52, 3) := by decide +kernel
theorem dX3_desk_5 : decode cX3_desk 5 = .ok (.ifCond .eq 16, 3) := by decide +kernel
theorem dX3_desk_8 : decode cX3_desk 8 = .ok (.iload_n 2, 1) := by decide +kernel
theorem dX3_desk_9 : decode cX3_desk 9 = .ok (.ifCond .lt 12, 3) := by decide +kernel
theorem dX3_desk_12 : decode cX3_desk 12 = .ok (.iload_n 2, 1) := by decide +kernel
theorem dX3_desk_13 : decode cX3_desk 13 = .ok (.iconst 2, 1) := by decide +kernel
theorem dX3_desk_14 : decode cX3_desk 14 = .ok (.if_icmp .gt 7, 3) := by decide +kernel
theorem dX3_desk_17 : decode cX3_desk 17 = .ok (.iconst 1, 1) := by decide +kernel
theorem dX3_desk_18 : decode cX3_desk 18 = .ok (.goto 4, 3) := by decide +kernel
theorem dX3_desk_21 : decode cX3_desk 21 = .ok (.iconst 0, 1) := by decide +kernel
theorem dX3_desk_22 : decode cX3_desk 22 = .ok (.invokestatic 56, 3) := by decide +kernel
theorem dX3_desk_25 : decode cX3_desk 25 = .ok (.aload_n 0, 1) := by decide +kernel
theorem dX3_desk_26 : decode cX3_desk 26 = .ok (.getfield 30, 3) := by decide +kernel
theorem dX3_desk_29 : decode cX3_desk 29 = .ok (.iload_n 1, 1) := by decide +kernel
theorem dX3_desk_30 : decode cX3_desk 30 = .ok (.aaload, 1) := by decide +kernel
theorem dX3_desk_31 : decode cX3_desk 31 = .ok (.astore_n 3, 1) := by decide +kernel
theorem dX3_desk_32 : decode cX3_desk 32 = .ok (.iload_n 2, 1) := by decide +kernel
theorem dX3_desk_33 : decode cX3_desk 33 = .ok (.lookupswitch 37 #[(0, 27), (1, 32)], 27) := by decide +kernel
theorem dX3_desk_60 : decode cX3_desk 60 = .ok (.aload_n 3, 1) := by decide +kernel
theorem dX3_desk_61 : decode cX3_desk 61 = .ok (.getfield 129, 3) := by decide +kernel
theorem dX3_desk_64 : decode cX3_desk 64 = .ok (.ireturn, 1) := by decide +kernel
theorem dX3_desk_65 : decode cX3_desk 65 = .ok (.aload_n 3, 1) := by decide +kernel
theorem dX3_desk_66 : decode cX3_desk 66 = .ok (.getfield 132, 3) := by decide +kernel
theorem dX3_desk_69 : decode cX3_desk 69 = .ok (.ireturn, 1) := by decide +kernel
theorem dX3_desk_70 : decode cX3_desk 70 = .ok (.aload_n 3, 1) := by decide +kernel
theorem dX3_desk_71 : decode cX3_desk 71 = .ok (.getfield 135, 3) := by decide +kernel
theorem dX3_desk_74 : decode cX3_desk 74 = .ok (.ireturn, 1) := by decide +kernel
theorem dX3_settled_0 : decode cX3_settled 0 = .ok (.iconst 0, 1) := by decide +kernel
theorem dX3_settled_1 : decode cX3_settled 1 = .ok (.istore_n 1, 1) := by decide +kernel
theorem dX3_settled_2 : decode cX3_settled 2 = .ok (.iload_n 1, 1) := by decide +kernel
theorem dX3_settled_3 : decode cX3_settled 3 = .ok (.aload_n 0, 1) := by decide +kernel
theorem dX3_settled_4 : decode cX3_settled 4 = .ok (.getfield 18, 3) := by decide +kernel
theorem dX3_settled_7 : decode cX3_settled 7 = .ok (.if_icmp .ge 46, 3) := by decide +kernel
theorem dX3_settled_10 : decode cX3_settled 10 = .ok (.aload_n 0, 1) := by decide +kernel
theorem dX3_settled_11 : decode cX3_settled 11 = .ok (.getfield 24, 3) := by decide +kernel
theorem dX3_settled_14 : decode cX3_settled 14 = .ok (.iload_n 1, 1) := by decide +kernel
theorem dX3_settled_15 : decode cX3_settled 15 = .ok (.aaload, 1) := by decide +kernel
theorem dX3_settled_16 : decode cX3_settled 16 = .ok (.astore_n 2, 1) := by decide +kernel
theorem dX3_settled_17 : decode cX3_settled 17 = .ok (.aload_n 2, 1) := by decide +kernel
theorem dX3_settled_18 : decode cX3_settled 18 = .ok (.getfield 82, 3) := by decide +kernel
theorem dX3_settled_21 : decode cX3_settled 21 = .ok (.iconst 2, 1) := by decide +kernel
theorem dX3_settled_22 : decode cX3_settled 22 = .ok (.if_icmp .ne 23, 3) := by decide +kernel
theorem dX3_settled_25 : decode cX3_settled 25 = .ok (.aload_n 0, 1) := by decide +kernel
theorem dX3_settled_26 : decode cX3_settled 26 = .ok (.getfield 30, 3) := by decide +kernel
theorem dX3_settled_29 : decode cX3_settled 29 = .ok (.aload_n 2, 1) := by decide +kernel
theorem dX3_settled_30 : decode cX3_settled 30 = .ok (.getfield 73, 3) := by decide +kernel
theorem dX3_settled_33 : decode cX3_settled 33 = .ok (.aaload, 1) := by decide +kernel
theorem dX3_settled_34 : decode cX3_settled 34 = .ok (.iload_n 1, 1) := by decide +kernel
theorem dX3_settled_35 : decode cX3_settled 35 = .ok (.aload_n 2, 1) := by decide +kernel
theorem dX3_settled_36 : decode cX3_settled 36 = .ok (.getfield 119, 3) := by decide +kernel
theorem dX3_settled_39 : decode cX3_settled 39 = .ok (.invokevirtual 136, 3) := by decide +kernel
theorem dX3_settled_42 : decode cX3_settled 42 = .ok (.ifCond .ne 5, 3) := by decide +kernel
theorem dX3_settled_45 : decode cX3_settled 45 = .ok (.iconst 0, 1) := by decide +kernel
theorem dX3_settled_46 : decode cX3_settled 46 = .ok (.ireturn, 1) := by decide +kernel
theorem dX3_settled_47 : decode cX3_settled 47 = .ok (.iinc 1 1, 3) := by decide +kernel
theorem dX3_settled_50 : decode cX3_settled 50 = .ok (.goto (-48), 3) := by decide +kernel
theorem dX3_settled_53 : decode cX3_settled 53 = .ok (.iconst 1, 1) := by decide +kernel
theorem dX3_settled_54 : decode cX3_settled 54 = .ok (.ireturn, 1) := by decide +kernel
theorem dX3_phase_0 : decode cX3_phase 0 = .ok (.aload_n 0, 1) := by decide +kernel
theorem dX3_phase_1 : decode cX3_phase 1 = .ok (.invokevirtual 140, 3) := by decide +kernel
theorem dX3_phase_4 : decode cX3_phase 4 = .ok (.ifCond .eq 15, 3) := by decide +kernel
theorem dX3_phase_7 : decode cX3_phase 7 = .ok (.aload_n 0, 1) := by decide +kernel
theorem dX3_phase_8 : decode cX3_phase 8 = .ok (.getfield 49, 3) := by decide +kernel
theorem dX3_phase_11 : decode cX3_phase 11 = .ok (.iconst 3, 1) := by decide +kernel
theorem dX3_phase_12 : decode cX3_phase 12 = .ok (.if_icmp .ge 7, 3) := by decide +kernel
theorem dX3_phase_15 : decode cX3_phase 15 = .ok (.iconst 1, 1) := by decide +kernel
theorem dX3_phase_16 : decode cX3_phase 16 = .ok (.goto 4, 3) := by decide +kernel
theorem dX3_phase_19 : decode cX3_phase 19 = .ok (.iconst 0, 1) := by decide +kernel
theorem dX3_phase_20 : decode cX3_phase 20 = .ok (.invokestatic 64, 3) := by decide +kernel
theorem dX3_phase_23 : decode cX3_phase 23 = .ok (.aload_n 0, 1) := by decide +kernel
theorem dX3_phase_24 : decode cX3_phase 24 = .ok (.dup, 1) := by decide +kernel
theorem dX3_phase_25 : decode cX3_phase 25 = .ok (.getfield 49, 3) := by decide +kernel
theorem dX3_phase_28 : decode cX3_phase 28 = .ok (.iconst 1, 1) := by decide +kernel
theorem dX3_phase_29 : decode cX3_phase 29 = .ok (.iadd, 1) := by decide +kernel
theorem dX3_phase_30 : decode cX3_phase 30 = .ok (.putfield 49, 3) := by decide +kernel
theorem dX3_phase_33 : decode cX3_phase 33 = .ok (.aload_n 0, 1) := by decide +kernel
theorem dX3_phase_34 : decode cX3_phase 34 = .ok (.getfield 41, 3) := by decide +kernel
theorem dX3_phase_37 : decode cX3_phase 37 = .ok (.invokevirtual 70, 3) := by decide +kernel
theorem dX3_phase_40 : decode cX3_phase 40 = .ok (.iconst 0, 1) := by decide +kernel
theorem dX3_phase_41 : decode cX3_phase 41 = .ok (.istore_n 1, 1) := by decide +kernel
theorem dX3_phase_42 : decode cX3_phase 42 = .ok (.iload_n 1, 1) := by decide +kernel
theorem dX3_phase_43 : decode cX3_phase 43 = .ok (.aload_n 0, 1) := by decide +kernel
theorem dX3_phase_44 : decode cX3_phase 44 = .ok (.getfield 18, 3) := by decide +kernel
theorem dX3_phase_47 : decode cX3_phase 47 = .ok (.if_icmp .ge 27, 3) := by decide +kernel
theorem dX3_phase_50 : decode cX3_phase 50 = .ok (.aload_n 0, 1) := by decide +kernel
theorem dX3_phase_51 : decode cX3_phase 51 = .ok (.getfield 30, 3) := by decide +kernel
theorem dX3_phase_54 : decode cX3_phase 54 = .ok (.iload_n 1, 1) := by decide +kernel
theorem dX3_phase_55 : decode cX3_phase 55 = .ok (.aaload, 1) := by decide +kernel
theorem dX3_phase_56 : decode cX3_phase 56 = .ok (.invokevirtual 76, 3) := by decide +kernel
theorem dX3_phase_59 : decode cX3_phase 59 = .ok (.aload_n 0, 1) := by decide +kernel
theorem dX3_phase_60 : decode cX3_phase 60 = .ok (.getfield 24, 3) := by decide +kernel
theorem dX3_phase_63 : decode cX3_phase 63 = .ok (.iload_n 1, 1) := by decide +kernel
theorem dX3_phase_64 : decode cX3_phase 64 = .ok (.aaload, 1) := by decide +kernel
theorem dX3_phase_65 : decode cX3_phase 65 = .ok (.invokevirtual 79, 3) := by decide +kernel
theorem dX3_phase_68 : decode cX3_phase 68 = .ok (.iinc 1 1, 3) := by decide +kernel
theorem dX3_phase_71 : decode cX3_phase 71 = .ok (.goto (-29), 3) := by decide +kernel
theorem dX3_phase_74 : decode cX3_phase 74 = .ok (.getstatic 86, 3) := by decide +kernel
theorem dX3_phase_77 : decode cX3_phase 77 = .ok (.aload_n 0, 1) := by decide +kernel
theorem dX3_phase_78 : decode cX3_phase 78 = .ok (.getfield 49, 3) := by decide +kernel
theorem dX3_phase_81 : decode cX3_phase 81 = .ok (.iaload, 1) := by decide +kernel
theorem dX3_phase_82 : decode cX3_phase 82 = .ok (.ireturn, 1) := by decide +kernel
theorem dX3_total_0 : decode cX3_total 0 = .ok (.aload_n 0, 1) := by decide +kernel
theorem dX3_total_1 : decode cX3_total 1 = .ok (.invokevirtual 140, 3) := by decide +kernel
theorem dX3_total_4 : decode cX3_total 4 = .ok (.invokestatic 64, 3) := by decide +kernel
theorem dX3_total_7 : decode cX3_total 7 = .ok (.iconst 0, 1) := by decide +kernel
theorem dX3_total_8 : decode cX3_total 8 = .ok (.istore_n 1, 1) := by decide +kernel
theorem dX3_total_9 : decode cX3_total 9 = .ok (.iconst 0, 1) := by decide +kernel
theorem dX3_total_10 : decode cX3_total 10 = .ok (.istore_n 2, 1) := by decide +kernel
theorem dX3_total_11 : decode cX3_total 11 = .ok (.iload_n 2, 1) := by decide +kernel
theorem dX3_total_12 : decode cX3_total 12 = .ok (.aload_n 0, 1) := by decide +kernel
theorem dX3_total_13 : decode cX3_total 13 = .ok (.getfield 18, 3) := by decide +kernel
theorem dX3_total_16 : decode cX3_total 16 = .ok (.if_icmp .ge 31, 3) := by decide +kernel
theorem dX3_total_19 : decode cX3_total 19 = .ok (.iload_n 1, 1) := by decide +kernel
theorem dX3_total_20 : decode cX3_total 20 = .ok (.aload_n 0, 1) := by decide +kernel
theorem dX3_total_21 : decode cX3_total 21 = .ok (.getfield 24, 3) := by decide +kernel
theorem dX3_total_24 : decode cX3_total 24 = .ok (.iload_n 2, 1) := by decide +kernel
theorem dX3_total_25 : decode cX3_total 25 = .ok (.aaload, 1) := by decide +kernel
theorem dX3_total_26 : decode cX3_total 26 = .ok (.getfield 67, 3) := by decide +kernel
theorem dX3_total_29 : decode cX3_total 29 = .ok (.aload_n 0, 1) := by decide +kernel
theorem dX3_total_30 : decode cX3_total 30 = .ok (.getfield 24, 3) := by decide +kernel
theorem dX3_total_33 : decode cX3_total 33 = .ok (.iload_n 2, 1) := by decide +kernel
theorem dX3_total_34 : decode cX3_total 34 = .ok (.aaload, 1) := by decide +kernel
theorem dX3_total_35 : decode cX3_total 35 = .ok (.getfield 73, 3) := by decide +kernel
theorem dX3_total_38 : decode cX3_total 38 = .ok (.iaload, 1) := by decide +kernel
theorem dX3_total_39 : decode cX3_total 39 = .ok (.iadd, 1) := by decide +kernel
theorem dX3_total_40 : decode cX3_total 40 = .ok (.istore_n 1, 1) := by decide +kernel
theorem dX3_total_41 : decode cX3_total 41 = .ok (.iinc 2 1, 3) := by decide +kernel
theorem dX3_total_44 : decode cX3_total 44 = .ok (.goto (-33), 3) := by decide +kernel
theorem dX3_total_47 : decode cX3_total 47 = .ok (.iload_n 1, 1) := by decide +kernel
theorem dX3_total_48 : decode cX3_total 48 = .ok (.ireturn, 1) := by decide +kernel
theorem dX3_proves_0 : decode cX3_proves 0 = .ok (.aload_n 0, 1) := by decide +kernel
theorem dX3_proves_1 : decode cX3_proves 1 = .ok (.invokevirtual 140, 3) := by decide +kernel
theorem dX3_proves_4 : decode cX3_proves 4 = .ok (.invokestatic 64, 3) := by decide +kernel
theorem dX3_proves_7 : decode cX3_proves 7 = .ok (.iconst 0, 1) := by decide +kernel
theorem dX3_proves_8 : decode cX3_proves 8 = .ok (.istore_n 1, 1) := by decide +kernel
theorem dX3_proves_9 : decode cX3_proves 9 = .ok (.iconst 0, 1) := by decide +kernel
theorem dX3_proves_10 : decode cX3_proves 10 = .ok (.istore_n 2, 1) := by decide +kernel
theorem dX3_proves_11 : decode cX3_proves 11 = .ok (.iload_n 2, 1) := by decide +kernel
theorem dX3_proves_12 : decode cX3_proves 12 = .ok (.aload_n 0, 1) := by decide +kernel
theorem dX3_proves_13 : decode cX3_proves 13 = .ok (.getfield 18, 3) := by decide +kernel
theorem dX3_proves_16 : decode cX3_proves 16 = .ok (.if_icmp .ge 51, 3) := by decide +kernel
theorem dX3_proves_19 : decode cX3_proves 19 = .ok (.iload_n 1, 1) := by decide +kernel
theorem dX3_proves_20 : decode cX3_proves 20 = .ok (.aload_n 0, 1) := by decide +kernel
theorem dX3_proves_21 : decode cX3_proves 21 = .ok (.getfield 30, 3) := by decide +kernel
theorem dX3_proves_24 : decode cX3_proves 24 = .ok (.iload_n 2, 1) := by decide +kernel
theorem dX3_proves_25 : decode cX3_proves 25 = .ok (.aaload, 1) := by decide +kernel
theorem dX3_proves_26 : decode cX3_proves 26 = .ok (.getfield 129, 3) := by decide +kernel
theorem dX3_proves_29 : decode cX3_proves 29 = .ok (.aload_n 0, 1) := by decide +kernel
theorem dX3_proves_30 : decode cX3_proves 30 = .ok (.aload_n 0, 1) := by decide +kernel
theorem dX3_proves_31 : decode cX3_proves 31 = .ok (.getfield 24, 3) := by decide +kernel
theorem dX3_proves_34 : decode cX3_proves 34 = .ok (.iload_n 2, 1) := by decide +kernel
theorem dX3_proves_35 : decode cX3_proves 35 = .ok (.aaload, 1) := by decide +kernel
theorem dX3_proves_36 : decode cX3_proves 36 = .ok (.invokevirtual 122, 3) := by decide +kernel
theorem dX3_proves_39 : decode cX3_proves 39 = .ok (.iadd, 1) := by decide +kernel
theorem dX3_proves_40 : decode cX3_proves 40 = .ok (.aload_n 0, 1) := by decide +kernel
theorem dX3_proves_41 : decode cX3_proves 41 = .ok (.getfield 24, 3) := by decide +kernel
theorem dX3_proves_44 : decode cX3_proves 44 = .ok (.iload_n 2, 1) := by decide +kernel
theorem dX3_proves_45 : decode cX3_proves 45 = .ok (.aaload, 1) := by decide +kernel
theorem dX3_proves_46 : decode cX3_proves 46 = .ok (.aload_n 0, 1) := by decide +kernel
theorem dX3_proves_47 : decode cX3_proves 47 = .ok (.getfield 24, 3) := by decide +kernel
theorem dX3_proves_50 : decode cX3_proves 50 = .ok (.iload_n 2, 1) := by decide +kernel
theorem dX3_proves_51 : decode cX3_proves 51 = .ok (.aaload, 1) := by decide +kernel
theorem dX3_proves_52 : decode cX3_proves 52 = .ok (.getfield 73, 3) := by decide +kernel
theorem dX3_proves_55 : decode cX3_proves 55 = .ok (.invokevirtual 143, 3) := by decide +kernel
theorem dX3_proves_58 : decode cX3_proves 58 = .ok (.isub, 1) := by decide +kernel
theorem dX3_proves_59 : decode cX3_proves 59 = .ok (.iadd, 1) := by decide +kernel
theorem dX3_proves_60 : decode cX3_proves 60 = .ok (.istore_n 1, 1) := by decide +kernel
theorem dX3_proves_61 : decode cX3_proves 61 = .ok (.iinc 2 1, 3) := by decide +kernel
theorem dX3_proves_64 : decode cX3_proves 64 = .ok (.goto (-53), 3) := by decide +kernel
theorem dX3_proves_67 : decode cX3_proves 67 = .ok (.iload_n 1, 1) := by decide +kernel
theorem dX3_proves_68 : decode cX3_proves 68 = .ok (.aload_n 0, 1) := by decide +kernel
theorem dX3_proves_69 : decode cX3_proves 69 = .ok (.getfield 18, 3) := by decide +kernel
theorem dX3_proves_72 : decode cX3_proves 72 = .ok (.iconst 1, 1) := by decide +kernel
theorem dX3_proves_73 : decode cX3_proves 73 = .ok (.iadd, 1) := by decide +kernel
theorem dX3_proves_74 : decode cX3_proves 74 = .ok (.if_icmp .ge 7, 3) := by decide +kernel
theorem dX3_proves_77 : decode cX3_proves 77 = .ok (.iconst 1, 1) := by decide +kernel
theorem dX3_proves_78 : decode cX3_proves 78 = .ok (.goto 4, 3) := by decide +kernel
theorem dX3_proves_81 : decode cX3_proves 81 = .ok (.iconst 0, 1) := by decide +kernel
theorem dX3_proves_82 : decode cX3_proves 82 = .ok (.ireturn, 1) := by decide +kernel
theorem dX3_count_0 : decode cX3_count 0 = .ok (.iload_n 1, 1) := by decide +kernel
theorem dX3_count_1 : decode cX3_count 1 = .ok (.ifCond .lt 12, 3) := by decide +kernel
theorem dX3_count_4 : decode cX3_count 4 = .ok (.iload_n 1, 1) := by decide +kernel
theorem dX3_count_5 : decode cX3_count 5 = .ok (.iconst 4, 1) := by decide +kernel
theorem dX3_count_6 : decode cX3_count 6 = .ok (.if_icmp .gt 7, 3) := by decide +kernel
theorem dX3_count_9 : decode cX3_count 9 = .ok (.iconst 1, 1) := by decide +kernel
theorem dX3_count_10 : decode cX3_count 10 = .ok (.goto 4, 3) := by decide +kernel
theorem dX3_count_13 : decode cX3_count 13 = .ok (.iconst 0, 1) := by decide +kernel
theorem dX3_count_14 : decode cX3_count 14 = .ok (.invokestatic 56, 3) := by decide +kernel
theorem dX3_count_17 : decode cX3_count 17 = .ok (.iload_n 1, 1) := by decide +kernel
theorem dX3_count_18 : decode cX3_count 18 = .ok (.iconst 4, 1) := by decide +kernel
theorem dX3_count_19 : decode cX3_count 19 = .ok (.if_icmp .ne 14, 3) := by decide +kernel
theorem dX3_count_22 : decode cX3_count 22 = .ok (.getstatic 86, 3) := by decide +kernel
theorem dX3_count_25 : decode cX3_count 25 = .ok (.aload_n 0, 1) := by decide +kernel
theorem dX3_count_26 : decode cX3_count 26 = .ok (.getfield 49, 3) := by decide +kernel
theorem dX3_count_29 : decode cX3_count 29 = .ok (.iaload, 1) := by decide +kernel
theorem dX3_count_30 : decode cX3_count 30 = .ok (.goto 9, 3) := by decide +kernel
theorem dX3_count_33 : decode cX3_count 33 = .ok (.aload_n 0, 1) := by decide +kernel
theorem dX3_count_34 : decode cX3_count 34 = .ok (.getfield 45, 3) := by decide +kernel
theorem dX3_count_37 : decode cX3_count 37 = .ok (.iload_n 1, 1) := by decide +kernel
theorem dX3_count_38 : decode cX3_count 38 = .ok (.iaload, 1) := by decide +kernel
theorem dX3_count_39 : decode cX3_count 39 = .ok (.ireturn, 1) := by decide +kernel
theorem dX3_isIndex_0 : decode cX3_isIndex 0 = .ok (.iload_n 1, 1) := by decide +kernel
theorem dX3_isIndex_1 : decode cX3_isIndex 1 = .ok (.ifCond .lt 15, 3) := by decide +kernel
theorem dX3_isIndex_4 : decode cX3_isIndex 4 = .ok (.iload_n 1, 1) := by decide +kernel
theorem dX3_isIndex_5 : decode cX3_isIndex 5 = .ok (.aload_n 0, 1) := by decide +kernel
theorem dX3_isIndex_6 : decode cX3_isIndex 6 = .ok (.getfield 18, 3) := by decide +kernel
theorem dX3_isIndex_9 : decode cX3_isIndex 9 = .ok (.if_icmp .ge 7, 3) := by decide +kernel
theorem dX3_isIndex_12 : decode cX3_isIndex 12 = .ok (.iconst 1, 1) := by decide +kernel
theorem dX3_isIndex_13 : decode cX3_isIndex 13 = .ok (.goto 4, 3) := by decide +kernel
theorem dX3_isIndex_16 : decode cX3_isIndex 16 = .ok (.iconst 0, 1) := by decide +kernel
theorem dX3_isIndex_17 : decode cX3_isIndex 17 = .ok (.ireturn, 1) := by decide +kernel
theorem dX3_isDone_0 : decode cX3_isDone 0 = .ok (.aload_n 0, 1) := by decide +kernel
theorem dX3_isDone_1 : decode cX3_isDone 1 = .ok (.getfield 49, 3) := by decide +kernel
theorem dX3_isDone_4 : decode cX3_isDone 4 = .ok (.iconst 3, 1) := by decide +kernel
theorem dX3_isDone_5 : decode cX3_isDone 5 = .ok (.if_icmp .ne 14, 3) := by decide +kernel
theorem dX3_isDone_8 : decode cX3_isDone 8 = .ok (.aload_n 0, 1) := by decide +kernel
theorem dX3_isDone_9 : decode cX3_isDone 9 = .ok (.invokevirtual 140, 3) := by decide +kernel
theorem dX3_isDone_12 : decode cX3_isDone 12 = .ok (.ifCond .eq 7, 3) := by decide +kernel
theorem dX3_isDone_15 : decode cX3_isDone 15 = .ok (.iconst 1, 1) := by decide +kernel
theorem dX3_isDone_16 : decode cX3_isDone 16 = .ok (.goto 4, 3) := by decide +kernel
theorem dX3_isDone_19 : decode cX3_isDone 19 = .ok (.iconst 0, 1) := by decide +kernel
theorem dX3_isDone_20 : decode cX3_isDone 20 = .ok (.ireturn, 1) := by decide +kernel
theorem dX3_profitOf_0 : decode cX3_profitOf 0 = .ok (.aload_n 1, 1) := by decide +kernel
theorem dX3_profitOf_1 : decode cX3_profitOf 1 = .ok (.iconst 0, 1) := by decide +kernel
theorem dX3_profitOf_2 : decode cX3_profitOf 2 = .ok (.invokevirtual 143, 3) := by decide +kernel
theorem dX3_profitOf_5 : decode cX3_profitOf 5 = .ok (.aload_n 0, 1) := by decide +kernel
theorem dX3_profitOf_6 : decode cX3_profitOf 6 = .ok (.getfield 30, 3) := by decide +kernel
theorem dX3_profitOf_9 : decode cX3_profitOf 9 = .ok (.iconst 0, 1) := by decide +kernel
theorem dX3_profitOf_10 : decode cX3_profitOf 10 = .ok (.aaload, 1) := by decide +kernel
theorem dX3_profitOf_11 : decode cX3_profitOf 11 = .ok (.getfield 129, 3) := by decide +kernel
theorem dX3_profitOf_14 : decode cX3_profitOf 14 = .ok (.isub, 1) := by decide +kernel
theorem dX3_profitOf_15 : decode cX3_profitOf 15 = .ok (.istore_n 2, 1) := by decide +kernel
theorem dX3_profitOf_16 : decode cX3_profitOf 16 = .ok (.iconst 1, 1) := by decide +kernel
theorem dX3_profitOf_17 : decode cX3_profitOf 17 = .ok (.istore_n 3, 1) := by decide +kernel
theorem dX3_profitOf_18 : decode cX3_profitOf 18 = .ok (.iload_n 3, 1) := by decide +kernel
theorem dX3_profitOf_19 : decode cX3_profitOf 19 = .ok (.aload_n 0, 1) := by decide +kernel
theorem dX3_profitOf_20 : decode cX3_profitOf 20 = .ok (.getfield 18, 3) := by decide +kernel
theorem dX3_profitOf_23 : decode cX3_profitOf 23 = .ok (.if_icmp .ge 29, 3) := by decide +kernel
theorem dX3_profitOf_26 : decode cX3_profitOf 26 = .ok (.iload_n 2, 1) := by decide +kernel
theorem dX3_profitOf_27 : decode cX3_profitOf 27 = .ok (.aload_n 1, 1) := by decide +kernel
theorem dX3_profitOf_28 : decode cX3_profitOf 28 = .ok (.iload_n 3, 1) := by decide +kernel
theorem dX3_profitOf_29 : decode cX3_profitOf 29 = .ok (.invokevirtual 143, 3) := by decide +kernel
theorem dX3_profitOf_32 : decode cX3_profitOf 32 = .ok (.aload_n 0, 1) := by decide +kernel
theorem dX3_profitOf_33 : decode cX3_profitOf 33 = .ok (.getfield 30, 3) := by decide +kernel
theorem dX3_profitOf_36 : decode cX3_profitOf 36 = .ok (.iload_n 3, 1) := by decide +kernel
theorem dX3_profitOf_37 : decode cX3_profitOf 37 = .ok (.aaload, 1) := by decide +kernel
theorem dX3_profitOf_38 : decode cX3_profitOf 38 = .ok (.getfield 129, 3) := by decide +kernel
theorem dX3_profitOf_41 : decode cX3_profitOf 41 = .ok (.isub, 1) := by decide +kernel
theorem dX3_profitOf_42 : decode cX3_profitOf 42 = .ok (.invokestatic 15, 3) := by decide +kernel
theorem dX3_profitOf_45 : decode cX3_profitOf 45 = .ok (.istore_n 2, 1) := by decide +kernel
theorem dX3_profitOf_46 : decode cX3_profitOf 46 = .ok (.iinc 3 1, 3) := by decide +kernel
theorem dX3_profitOf_49 : decode cX3_profitOf 49 = .ok (.goto (-31), 3) := by decide +kernel
theorem dX3_profitOf_52 : decode cX3_profitOf 52 = .ok (.iload_n 2, 1) := by decide +kernel
theorem dX3_profitOf_53 : decode cX3_profitOf 53 = .ok (.ireturn, 1) := by decide +kernel
theorem dX3_sendBid_0 : decode cX3_sendBid 0 = .ok (.aload_n 0, 1) := by decide +kernel
theorem dX3_sendBid_1 : decode cX3_sendBid 1 = .ok (.getfield 24, 3) := by decide +kernel
theorem dX3_sendBid_4 : decode cX3_sendBid 4 = .ok (.iload_n 1, 1) := by decide +kernel
theorem dX3_sendBid_5 : decode cX3_sendBid 5 = .ok (.aaload, 1) := by decide +kernel
theorem dX3_sendBid_6 : decode cX3_sendBid 6 = .ok (.astore_n 2, 1) := by decide +kernel
theorem dX3_sendBid_7 : decode cX3_sendBid 7 = .ok (.aload_n 0, 1) := by decide +kernel
theorem dX3_sendBid_8 : decode cX3_sendBid 8 = .ok (.getfield 41, 3) := by decide +kernel
theorem dX3_sendBid_11 : decode cX3_sendBid 11 = .ok (.iconst 0, 1) := by decide +kernel
theorem dX3_sendBid_12 : decode cX3_sendBid 12 = .ok (.iload_n 1, 1) := by decide +kernel
theorem dX3_sendBid_13 : decode cX3_sendBid 13 = .ok (.aload_n 2, 1) := by decide +kernel
theorem dX3_sendBid_14 : decode cX3_sendBid 14 = .ok (.getfield 73, 3) := by decide +kernel
theorem dX3_sendBid_17 : decode cX3_sendBid 17 = .ok (.aload_n 2, 1) := by decide +kernel
theorem dX3_sendBid_18 : decode cX3_sendBid 18 = .ok (.getfield 119, 3) := by decide +kernel
theorem dX3_sendBid_21 : decode cX3_sendBid 21 = .ok (.aload_n 2, 1) := by decide +kernel
theorem dX3_sendBid_22 : decode cX3_sendBid 22 = .ok (.getfield 147, 3) := by decide +kernel
theorem dX3_sendBid_25 : decode cX3_sendBid 25 = .ok (.invokevirtual 115, 3) := by decide +kernel
theorem dX3_sendBid_28 : decode cX3_sendBid 28 = .ok (.return_, 1) := by decide +kernel
theorem dX3_sendAnswer_0 : decode cX3_sendAnswer 0 = .ok (.aload_n 0, 1) := by decide +kernel
theorem dX3_sendAnswer_1 : decode cX3_sendAnswer 1 = .ok (.getfield 45, 3) := by decide +kernel
theorem dX3_sendAnswer_4 : decode cX3_sendAnswer 4 = .ok (.iload_n 1, 1) := by decide +kernel
theorem dX3_sendAnswer_5 : decode cX3_sendAnswer 5 = .ok (.dup2, 1) := by decide +kernel
theorem dX3_sendAnswer_6 : decode cX3_sendAnswer 6 = .ok (.iaload, 1) := by decide +kernel
theorem dX3_sendAnswer_7 : decode cX3_sendAnswer 7 = .ok (.iconst 1, 1) := by decide +kernel
theorem dX3_sendAnswer_8 : decode cX3_sendAnswer 8 = .ok (.iadd, 1) := by decide +kernel
theorem dX3_sendAnswer_9 : decode cX3_sendAnswer 9 = .ok (.iastore, 1) := by decide +kernel
theorem dX3_sendAnswer_10 : decode cX3_sendAnswer 10 = .ok (.aload_n 0, 1) := by decide +kernel
theorem dX3_sendAnswer_11 : decode cX3_sendAnswer 11 = .ok (.getfield 41, 3) := by decide +kernel
theorem dX3_sendAnswer_14 : decode cX3_sendAnswer 14 = .ok (.iload_n 1, 1) := by decide +kernel
theorem dX3_sendAnswer_15 : decode cX3_sendAnswer 15 = .ok (.iload_n 2, 1) := by decide +kernel
theorem dX3_sendAnswer_16 : decode cX3_sendAnswer 16 = .ok (.iload_n 3, 1) := by decide +kernel
theorem dX3_sendAnswer_17 : decode cX3_sendAnswer 17 = .ok (.iload 4, 2) := by decide +kernel
theorem dX3_sendAnswer_19 : decode cX3_sendAnswer 19 = .ok (.aload_n 0, 1) := by decide +kernel
theorem dX3_sendAnswer_20 : decode cX3_sendAnswer 20 = .ok (.getfield 30, 3) := by decide +kernel
theorem dX3_sendAnswer_23 : decode cX3_sendAnswer 23 = .ok (.iload_n 3, 1) := by decide +kernel
theorem dX3_sendAnswer_24 : decode cX3_sendAnswer 24 = .ok (.aaload, 1) := by decide +kernel
theorem dX3_sendAnswer_25 : decode cX3_sendAnswer 25 = .ok (.getfield 129, 3) := by decide +kernel
theorem dX3_sendAnswer_28 : decode cX3_sendAnswer 28 = .ok (.invokevirtual 115, 3) := by decide +kernel
theorem dX3_sendAnswer_31 : decode cX3_sendAnswer 31 = .ok (.return_, 1) := by decide +kernel
theorem dX3_receiveBid_0 : decode cX3_receiveBid 0 = .ok (.aload_n 0, 1) := by decide +kernel
theorem dX3_receiveBid_1 : decode cX3_receiveBid 1 = .ok (.getfield 30, 3) := by decide +kernel
theorem dX3_receiveBid_4 : decode cX3_receiveBid 4 = .ok (.iload_n 2, 1) := by decide +kernel
theorem dX3_receiveBid_5 : decode cX3_receiveBid 5 = .ok (.aaload, 1) := by decide +kernel
theorem dX3_receiveBid_6 : decode cX3_receiveBid 6 = .ok (.astore 5, 2) := by decide +kernel
theorem dX3_receiveBid_8 : decode cX3_receiveBid 8 = .ok (.aload 5, 2) := by decide +kernel
theorem dX3_receiveBid_10 : decode cX3_receiveBid 10 = .ok (.iload_n 1, 1) := by decide +kernel
theorem dX3_receiveBid_11 : decode cX3_receiveBid 11 = .ok (.iload_n 3, 1) := by decide +kernel
theorem dX3_receiveBid_12 : decode cX3_receiveBid 12 = .ok (.invokevirtual 136, 3) := by decide +kernel
theorem dX3_receiveBid_15 : decode cX3_receiveBid 15 = .ok (.ifCond .eq 14, 3) := by decide +kernel
theorem dX3_receiveBid_18 : decode cX3_receiveBid 18 = .ok (.aload_n 0, 1) := by decide +kernel
theorem dX3_receiveBid_19 : decode cX3_receiveBid 19 = .ok (.iconst 1, 1) := by decide +kernel
theorem dX3_receiveBid_20 : decode cX3_receiveBid 20 = .ok (.iload_n 1, 1) := by decide +kernel
theorem dX3_receiveBid_21 : decode cX3_receiveBid 21 = .ok (.iload_n 2, 1) := by decide +kernel
theorem dX3_receiveBid_22 : decode cX3_receiveBid 22 = .ok (.iload_n 3, 1) := by decide +kernel
theorem dX3_receiveBid_23 : decode cX3_receiveBid 23 = .ok (.invokevirtual 150, 3) := by decide +kernel
theorem dX3_receiveBid_26 : decode cX3_receiveBid 26 = .ok (.goto 85, 3) := by decide +kernel
theorem dX3_receiveBid_29 : decode cX3_receiveBid 29 = .ok (.iload 4, 2) := by decide +kernel
theorem dX3_receiveBid_31 : decode cX3_receiveBid 31 = .ok (.aload 5, 2) := by decide +kernel
theorem dX3_receiveBid_33 : decode cX3_receiveBid 33 = .ok (.getfield 129, 3) := by decide +kernel
theorem dX3_receiveBid_36 : decode cX3_receiveBid 36 = .ok (.getstatic 86, 3) := by decide +kernel
theorem dX3_receiveBid_39 : decode cX3_receiveBid 39 = .ok (.aload_n 0, 1) := by decide +kernel
theorem dX3_receiveBid_40 : decode cX3_receiveBid 40 = .ok (.getfield 49, 3) := by decide +kernel
theorem dX3_receiveBid_43 : decode cX3_receiveBid 43 = .ok (.iaload, 1) := by decide +kernel
theorem dX3_receiveBid_44 : decode cX3_receiveBid 44 = .ok (.iadd, 1) := by decide +kernel
theorem dX3_receiveBid_45 : decode cX3_receiveBid 45 = .ok (.if_icmp .lt 58, 3) := by decide +kernel
theorem dX3_receiveBid_48 : decode cX3_receiveBid 48 = .ok (.aload 5, 2) := by decide +kernel
theorem dX3_receiveBid_50 : decode cX3_receiveBid 50 = .ok (.iload 4, 2) := by decide +kernel
theorem dX3_receiveBid_52 : decode cX3_receiveBid 52 = .ok (.putfield 129, 3) := by decide +kernel
theorem dX3_receiveBid_55 : decode cX3_receiveBid 55 = .ok (.aload 5, 2) := by decide +kernel
theorem dX3_receiveBid_57 : decode cX3_receiveBid 57 = .ok (.getfield 132, 3) := by decide +kernel
theorem dX3_receiveBid_60 : decode cX3_receiveBid 60 = .ok (.iconst (-1), 1) := by decide +kernel
theorem dX3_receiveBid_61 : decode cX3_receiveBid 61 = .ok (.if_icmp .eq 19, 3) := by decide +kernel
theorem dX3_receiveBid_64 : decode cX3_receiveBid 64 = .ok (.aload_n 0, 1) := by decide +kernel
theorem dX3_receiveBid_65 : decode cX3_receiveBid 65 = .ok (.iconst 3, 1) := by decide +kernel
theorem dX3_receiveBid_66 : decode cX3_receiveBid 66 = .ok (.aload 5, 2) := by decide +kernel
theorem dX3_receiveBid_68 : decode cX3_receiveBid 68 = .ok (.getfield 132, 3) := by decide +kernel
theorem dX3_receiveBid_71 : decode cX3_receiveBid 71 = .ok (.iload_n 2, 1) := by decide +kernel
theorem dX3_receiveBid_72 : decode cX3_receiveBid 72 = .ok (.aload 5, 2) := by decide +kernel
theorem dX3_receiveBid_74 : decode cX3_receiveBid 74 = .ok (.getfield 135, 3) := by decide +kernel
theorem dX3_receiveBid_77 : decode cX3_receiveBid 77 = .ok (.invokevirtual 150, 3) := by decide +kernel
theorem dX3_receiveBid_80 : decode cX3_receiveBid 80 = .ok (.aload 5, 2) := by decide +kernel
theorem dX3_receiveBid_82 : decode cX3_receiveBid 82 = .ok (.iload_n 1, 1) := by decide +kernel
theorem dX3_receiveBid_83 : decode cX3_receiveBid 83 = .ok (.putfield 132, 3) := by decide +kernel
theorem dX3_receiveBid_86 : decode cX3_receiveBid 86 = .ok (.aload 5, 2) := by decide +kernel
theorem dX3_receiveBid_88 : decode cX3_receiveBid 88 = .ok (.iload_n 3, 1) := by decide +kernel
theorem dX3_receiveBid_89 : decode cX3_receiveBid 89 = .ok (.putfield 135, 3) := by decide +kernel
theorem dX3_receiveBid_92 : decode cX3_receiveBid 92 = .ok (.aload_n 0, 1) := by decide +kernel
theorem dX3_receiveBid_93 : decode cX3_receiveBid 93 = .ok (.iconst 1, 1) := by decide +kernel
theorem dX3_receiveBid_94 : decode cX3_receiveBid 94 = .ok (.iload_n 1, 1) := by decide +kernel
theorem dX3_receiveBid_95 : decode cX3_receiveBid 95 = .ok (.iload_n 2, 1) := by decide +kernel
theorem dX3_receiveBid_96 : decode cX3_receiveBid 96 = .ok (.iload_n 3, 1) := by decide +kernel
theorem dX3_receiveBid_97 : decode cX3_receiveBid 97 = .ok (.invokevirtual 150, 3) := by decide +kernel
theorem dX3_receiveBid_100 : decode cX3_receiveBid 100 = .ok (.goto 11, 3) := by decide +kernel
theorem dX3_receiveBid_103 : decode cX3_receiveBid 103 = .ok (.aload_n 0, 1) := by decide +kernel
theorem dX3_receiveBid_104 : decode cX3_receiveBid 104 = .ok (.iconst 2, 1) := by decide +kernel
theorem dX3_receiveBid_105 : decode cX3_receiveBid 105 = .ok (.iload_n 1, 1) := by decide +kernel
theorem dX3_receiveBid_106 : decode cX3_receiveBid 106 = .ok (.iload_n 2, 1) := by decide +kernel
theorem dX3_receiveBid_107 : decode cX3_receiveBid 107 = .ok (.iload_n 3, 1) := by decide +kernel
theorem dX3_receiveBid_108 : decode cX3_receiveBid 108 = .ok (.invokevirtual 150, 3) := by decide +kernel
theorem dX3_receiveBid_111 : decode cX3_receiveBid 111 = .ok (.return_, 1) := by decide +kernel
theorem dX3_requireLetter_0 : decode cX3_requireLetter 0 = .ok (.iload_n 1, 1) := by decide +kernel
theorem dX3_requireLetter_1 : decode cX3_requireLetter 1 = .ok (.ifCond .lt 14, 3) := by decide +kernel
theorem dX3_requireLetter_4 : decode cX3_requireLetter 4 = .ok (.iload_n 1, 1) := by decide +kernel
theorem dX3_requireLetter_5 : decode cX3_requireLetter 5 = .ok (.aload_n 0, 1) := by decide +kernel
theorem dX3_requireLetter_6 : decode cX3_requireLetter 6 = .ok (.getfield 41, 3) := by decide +kernel
theorem dX3_requireLetter_9 : decode cX3_requireLetter 9 = .ok (.getfield 85, 3) := by decide +kernel
theorem dX3_requireLetter_12 : decode cX3_requireLetter 12 = .ok (.if_icmp .lt 13, 3) := by decide +kernel
theorem dX3_requireLetter_15 : decode cX3_requireLetter 15 = .ok (.new 153, 3) := by decide +kernel
theorem dX3_requireLetter_18 : decode cX3_requireLetter 18 = .ok (.dup, 1) := by decide +kernel
theorem dX3_requireLetter_19 : decode cX3_requireLetter 19 = .ok (.ldc 155, 2) := by decide +kernel
theorem dX3_requireLetter_21 : decode cX3_requireLetter 21 = .ok (.invokespecial 157, 3) := by decide +kernel
theorem dX3_requireLetter_24 : decode cX3_requireLetter 24 = .ok (.athrow, 1) := by decide +kernel
theorem dX3_requireLetter_25 : decode cX3_requireLetter 25 = .ok (.return_, 1) := by decide +kernel
theorem dX3_requireArgument_0 : decode cX3_requireArgument 0 = .ok (.iload_n 0, 1) := by decide +kernel
theorem dX3_requireArgument_1 : decode cX3_requireArgument 1 = .ok (.ifCond .ne 13, 3) := by decide +kernel
theorem dX3_requireArgument_4 : decode cX3_requireArgument 4 = .ok (.new 160, 3) := by decide +kernel
theorem dX3_requireArgument_7 : decode cX3_requireArgument 7 = .ok (.dup, 1) := by decide +kernel
theorem dX3_requireArgument_8 : decode cX3_requireArgument 8 = .ok (.ldc 162, 2) := by decide +kernel
theorem dX3_requireArgument_10 : decode cX3_requireArgument 10 = .ok (.invokespecial 164, 3) := by decide +kernel
theorem dX3_requireArgument_13 : decode cX3_requireArgument 13 = .ok (.athrow, 1) := by decide +kernel
theorem dX3_requireArgument_14 : decode cX3_requireArgument 14 = .ok (.return_, 1) := by decide +kernel
theorem dX3_requireState_0 : decode cX3_requireState 0 = .ok (.iload_n 0, 1) := by decide +kernel
theorem dX3_requireState_1 : decode cX3_requireState 1 = .ok (.ifCond .ne 13, 3) := by decide +kernel
theorem dX3_requireState_4 : decode cX3_requireState 4 = .ok (.new 165, 3) := by decide +kernel
theorem dX3_requireState_7 : decode cX3_requireState 7 = .ok (.dup, 1) := by decide +kernel
theorem dX3_requireState_8 : decode cX3_requireState 8 = .ok (.ldc 167, 2) := by decide +kernel
theorem dX3_requireState_10 : decode cX3_requireState 10 = .ok (.invokespecial 169, 3) := by decide +kernel
theorem dX3_requireState_13 : decode cX3_requireState 13 = .ok (.athrow, 1) := by decide +kernel
theorem dX3_requireState_14 : decode cX3_requireState 14 = .ok (.return_, 1) := by decide +kernel
end
section
/-! decode rows (starting text: printed by TURN) -/
theorem dL_cell_0 : decode cL_cell 0 = .ok (.iload_n 1, 1) := by decide +kernel
theorem dL_cell_1 : decode cL_cell 1 = .ok (.aload_n 0, 1) := by decide +kernel
theorem dL_cell_2 : decode cL_cell 2 = .ok (.arraylength, 1) := by decide +kernel
theorem dL_cell_3 : decode cL_cell 3 = .ok (.if_icmp .ge 9, 3) := by decide +kernel
theorem dL_cell_6 : decode cL_cell 6 = .ok (.aload_n 0, 1) := by decide +kernel
theorem dL_cell_7 : decode cL_cell 7 = .ok (.iload_n 1, 1) := by decide +kernel
theorem dL_cell_8 : decode cL_cell 8 = .ok (.iaload, 1) := by decide +kernel
theorem dL_cell_9 : decode cL_cell 9 = .ok (.goto 4, 3) := by decide +kernel
theorem dL_cell_12 : decode cL_cell 12 = .ok (.iconst 0, 1) := by decide +kernel
theorem dL_cell_13 : decode cL_cell 13 = .ok (.ireturn, 1) := by decide +kernel
theorem dL_worth_0 : decode cL_worth 0 = .ok (.aload_n 0, 1) := by decide +kernel
theorem dL_worth_1 : decode cL_worth 1 = .ok (.iload_n 1, 1) := by decide +kernel
theorem dL_worth_2 : decode cL_worth 2 = .ok (.iload_n 2, 1) := by decide +kernel
theorem dL_worth_3 : decode cL_worth 3 = .ok (.iload_n 3, 1) := by decide +kernel
theorem dL_worth_4 : decode cL_worth 4 = .ok (.invokevirtual 7, 3) := by decide +kernel
theorem dL_worth_7 : decode cL_worth 7 = .ok (.goto 11, 3) := by decide +kernel
theorem dL_worth_10 : decode cL_worth 10 = .ok (.astore 4, 2) := by decide +kernel
theorem dL_worth_12 : decode cL_worth 12 = .ok (.iconst 1, 1) := by decide +kernel
theorem dL_worth_13 : decode cL_worth 13 = .ok (.ireturn, 1) := by decide +kernel
theorem dL_worth_14 : decode cL_worth 14 = .ok (.astore 4, 2) := by decide +kernel
theorem dL_worth_16 : decode cL_worth 16 = .ok (.iconst 2, 1) := by decide +kernel
theorem dL_worth_17 : decode cL_worth 17 = .ok (.ireturn, 1) := by decide +kernel
theorem dL_worth_18 : decode cL_worth 18 = .ok (.iconst 0, 1) := by decide +kernel
theorem dL_worth_19 : decode cL_worth 19 = .ok (.ireturn, 1) := by decide +kernel
theorem dL_act_0 : decode cL_act 0 = .ok (.aload_n 2, 1) := by decide +kernel
theorem dL_act_1 : decode cL_act 1 = .ok (.iconst 0, 1) := by decide +kernel
theorem dL_act_2 : decode cL_act 2 = .ok (.aload_n 0, 1) := by decide +kernel
theorem dL_act_3 : decode cL_act 3 = .ok (.iload_n 1, 1) := by decide +kernel
theorem dL_act_4 : decode cL_act 4 = .ok (.invokevirtual 17, 3) := by decide +kernel
theorem dL_act_7 : decode cL_act 7 = .ok (.i2l, 1) := by decide +kernel
theorem dL_act_8 : decode cL_act 8 = .ok (.lastore, 1) := by decide +kernel
theorem dL_act_9 : decode cL_act 9 = .ok (.goto 9, 3) := by decide +kernel
theorem dL_act_12 : decode cL_act 12 = .ok (.astore_n 3, 1) := by decide +kernel
theorem dL_act_13 : decode cL_act 13 = .ok (.iconst 1, 1) := by decide +kernel
theorem dL_act_14 : decode cL_act 14 = .ok (.ireturn, 1) := by decide +kernel
theorem dL_act_15 : decode cL_act 15 = .ok (.astore_n 3, 1) := by decide +kernel
theorem dL_act_16 : decode cL_act 16 = .ok (.iconst 2, 1) := by decide +kernel
theorem dL_act_17 : decode cL_act 17 = .ok (.ireturn, 1) := by decide +kernel
theorem dL_act_18 : decode cL_act 18 = .ok (.iconst 0, 1) := by decide +kernel
theorem dL_act_19 : decode cL_act 19 = .ok (.ireturn, 1) := by decide +kernel
theorem dL_resend_0 : decode cL_resend 0 = .ok (.aload_n 2, 1) := by decide +kernel
theorem dL_resend_1 : decode cL_resend 1 = .ok (.iconst 0, 1) := by decide +kernel
theorem dL_resend_2 : decode cL_resend 2 = .ok (.aload_n 0, 1) := by decide +kernel
theorem dL_resend_3 : decode cL_resend 3 = .ok (.iload_n 1, 1) := by decide +kernel
theorem dL_resend_4 : decode cL_resend 4 = .ok (.invokevirtual 21, 3) := by decide +kernel
theorem dL_resend_7 : decode cL_resend 7 = .ok (.i2l, 1) := by decide +kernel
theorem dL_resend_8 : decode cL_resend 8 = .ok (.lastore, 1) := by decide +kernel
theorem dL_resend_9 : decode cL_resend 9 = .ok (.goto 9, 3) := by decide +kernel
theorem dL_resend_12 : decode cL_resend 12 = .ok (.astore_n 3, 1) := by decide +kernel
theorem dL_resend_13 : decode cL_resend 13 = .ok (.iconst 1, 1) := by decide +kernel
theorem dL_resend_14 : decode cL_resend 14 = .ok (.ireturn, 1) := by decide +kernel
theorem dL_resend_15 : decode cL_resend 15 = .ok (.astore_n 3, 1) := by decide +kernel
theorem dL_resend_16 : decode cL_resend 16 = .ok (.iconst 2, 1) := by decide +kernel
theorem dL_resend_17 : decode cL_resend 17 = .ok (.ireturn, 1) := by decide +kernel
theorem dL_resend_18 : decode cL_resend 18 = .ok (.iconst 0, 1) := by decide +kernel
theorem dL_resend_19 : decode cL_resend 19 = .ok (.ireturn, 1) := by decide +kernel
theorem dL_deliver_0 : decode cL_deliver 0 = .ok (.aload_n 2, 1) := by decide +kernel
theorem dL_deliver_1 : decode cL_deliver 1 = .ok (.iconst 0, 1) := by decide +kernel
theorem dL_deliver_2 : decode cL_deliver 2 = .ok (.aload_n 0, 1) := by decide +kernel
theorem dL_deliver_3 : decode cL_deliver 3 = .ok (.iload_n 1, 1) := by decide +kernel
theorem dL_deliver_4 : decode cL_deliver 4 = .ok (.invokevirtual 24, 3) := by decide +kernel
theorem dL_deliver_7 : decode cL_deliver 7 = .ok (.i2l, 1) := by decide +kernel
theorem dL_deliver_8 : decode cL_deliver 8 = .ok (.lastore, 1) := by decide +kernel
theorem dL_deliver_9 : decode cL_deliver 9 = .ok (.goto 6, 3) := by decide +kernel
theorem dL_deliver_12 : decode cL_deliver 12 = .ok (.astore_n 3, 1) := by decide +kernel
theorem dL_deliver_13 : decode cL_deliver 13 = .ok (.iconst 1, 1) := by decide +kernel
theorem dL_deliver_14 : decode cL_deliver 14 = .ok (.ireturn, 1) := by decide +kernel
theorem dL_deliver_15 : decode cL_deliver 15 = .ok (.iconst 0, 1) := by decide +kernel
theorem dL_deliver_16 : decode cL_deliver 16 = .ok (.ireturn, 1) := by decide +kernel
theorem dL_lose_0 : decode cL_lose 0 = .ok (.aload_n 2, 1) := by decide +kernel
theorem dL_lose_1 : decode cL_lose 1 = .ok (.iconst 0, 1) := by decide +kernel
theorem dL_lose_2 : decode cL_lose 2 = .ok (.aload_n 0, 1) := by decide +kernel
theorem dL_lose_3 : decode cL_lose 3 = .ok (.iload_n 1, 1) := by decide +kernel
theorem dL_lose_4 : decode cL_lose 4 = .ok (.invokevirtual 29, 3) := by decide +kernel
theorem dL_lose_7 : decode cL_lose 7 = .ok (.i2l, 1) := by decide +kernel
theorem dL_lose_8 : decode cL_lose 8 = .ok (.lastore, 1) := by decide +kernel
theorem dL_lose_9 : decode cL_lose 9 = .ok (.goto 6, 3) := by decide +kernel
theorem dL_lose_12 : decode cL_lose 12 = .ok (.astore_n 3, 1) := by decide +kernel
theorem dL_lose_13 : decode cL_lose 13 = .ok (.iconst 1, 1) := by decide +kernel
theorem dL_lose_14 : decode cL_lose 14 = .ok (.ireturn, 1) := by decide +kernel
theorem dL_lose_15 : decode cL_lose 15 = .ok (.iconst 0, 1) := by decide +kernel
theorem dL_lose_16 : decode cL_lose 16 = .ok (.ireturn, 1) := by decide +kernel
theorem dL_twin_0 : decode cL_twin 0 = .ok (.aload_n 2, 1) := by decide +kernel
theorem dL_twin_1 : decode cL_twin 1 = .ok (.iconst 0, 1) := by decide +kernel
theorem dL_twin_2 : decode cL_twin 2 = .ok (.aload_n 0, 1) := by decide +kernel
theorem dL_twin_3 : decode cL_twin 3 = .ok (.iload_n 1, 1) := by decide +kernel
theorem dL_twin_4 : decode cL_twin 4 = .ok (.invokevirtual 32, 3) := by decide +kernel
theorem dL_twin_7 : decode cL_twin 7 = .ok (.i2l, 1) := by decide +kernel
theorem dL_twin_8 : decode cL_twin 8 = .ok (.lastore, 1) := by decide +kernel
theorem dL_twin_9 : decode cL_twin 9 = .ok (.goto 9, 3) := by decide +kernel
theorem dL_twin_12 : decode cL_twin 12 = .ok (.astore_n 3, 1) := by decide +kernel
theorem dL_twin_13 : decode cL_twin 13 = .ok (.iconst 1, 1) := by decide +kernel
theorem dL_twin_14 : decode cL_twin 14 = .ok (.ireturn, 1) := by decide +kernel
theorem dL_twin_15 : decode cL_twin 15 = .ok (.astore_n 3, 1) := by decide +kernel
theorem dL_twin_16 : decode cL_twin 16 = .ok (.iconst 2, 1) := by decide +kernel
theorem dL_twin_17 : decode cL_twin 17 = .ok (.ireturn, 1) := by decide +kernel
theorem dL_twin_18 : decode cL_twin 18 = .ok (.iconst 0, 1) := by decide +kernel
theorem dL_twin_19 : decode cL_twin 19 = .ok (.ireturn, 1) := by decide +kernel
theorem dL_letter_0 : decode cL_letter 0 = .ok (.aload_n 3, 1) := by decide +kernel
theorem dL_letter_1 : decode cL_letter 1 = .ok (.iconst 0, 1) := by decide +kernel
theorem dL_letter_2 : decode cL_letter 2 = .ok (.aload_n 0, 1) := by decide +kernel
theorem dL_letter_3 : decode cL_letter 3 = .ok (.iload_n 1, 1) := by decide +kernel
theorem dL_letter_4 : decode cL_letter 4 = .ok (.iload_n 2, 1) := by decide +kernel
theorem dL_letter_5 : decode cL_letter 5 = .ok (.invokevirtual 35, 3) := by decide +kernel
theorem dL_letter_8 : decode cL_letter 8 = .ok (.i2l, 1) := by decide +kernel
theorem dL_letter_9 : decode cL_letter 9 = .ok (.lastore, 1) := by decide +kernel
theorem dL_letter_10 : decode cL_letter 10 = .ok (.goto 11, 3) := by decide +kernel
theorem dL_letter_13 : decode cL_letter 13 = .ok (.astore 4, 2) := by decide +kernel
theorem dL_letter_15 : decode cL_letter 15 = .ok (.iconst 1, 1) := by decide +kernel
theorem dL_letter_16 : decode cL_letter 16 = .ok (.ireturn, 1) := by decide +kernel
theorem dL_letter_17 : decode cL_letter 17 = .ok (.astore 4, 2) := by decide +kernel
theorem dL_letter_19 : decode cL_letter 19 = .ok (.iconst 2, 1) := by decide +kernel
theorem dL_letter_20 : decode cL_letter 20 = .ok (.ireturn, 1) := by decide +kernel
theorem dL_letter_21 : decode cL_letter 21 = .ok (.iconst 0, 1) := by decide +kernel
theorem dL_letter_22 : decode cL_letter 22 = .ok (.ireturn, 1) := by decide +kernel
theorem dL_crew_0 : decode cL_crew 0 = .ok (.aload_n 3, 1) := by decide +kernel
theorem dL_crew_1 : decode cL_crew 1 = .ok (.iconst 0, 1) := by decide +kernel
theorem dL_crew_2 : decode cL_crew 2 = .ok (.aload_n 0, 1) := by decide +kernel
theorem dL_crew_3 : decode cL_crew 3 = .ok (.iload_n 1, 1) := by decide +kernel
theorem dL_crew_4 : decode cL_crew 4 = .ok (.iload_n 2, 1) := by decide +kernel
theorem dL_crew_5 : decode cL_crew 5 = .ok (.invokevirtual 39, 3) := by decide +kernel
theorem dL_crew_8 : decode cL_crew 8 = .ok (.i2l, 1) := by decide +kernel
theorem dL_crew_9 : decode cL_crew 9 = .ok (.lastore, 1) := by decide +kernel
theorem dL_crew_10 : decode cL_crew 10 = .ok (.goto 7, 3) := by decide +kernel
theorem dL_crew_13 : decode cL_crew 13 = .ok (.astore 4, 2) := by decide +kernel
theorem dL_crew_15 : decode cL_crew 15 = .ok (.iconst 1, 1) := by decide +kernel
theorem dL_crew_16 : decode cL_crew 16 = .ok (.ireturn, 1) := by decide +kernel
theorem dL_crew_17 : decode cL_crew 17 = .ok (.iconst 0, 1) := by decide +kernel
theorem dL_crew_18 : decode cL_crew 18 = .ok (.ireturn, 1) := by decide +kernel
theorem dL_known_0 : decode cL_known 0 = .ok (.aload_n 3, 1) := by decide +kernel
theorem dL_known_1 : decode cL_known 1 = .ok (.iconst 0, 1) := by decide +kernel
theorem dL_known_2 : decode cL_known 2 = .ok (.aload_n 0, 1) := by decide +kernel
theorem dL_known_3 : decode cL_known 3 = .ok (.iload_n 1, 1) := by decide +kernel
theorem dL_known_4 : decode cL_known 4 = .ok (.iload_n 2, 1) := by decide +kernel
theorem dL_known_5 : decode cL_known 5 = .ok (.invokevirtual 42, 3) := by decide +kernel
theorem dL_known_8 : decode cL_known 8 = .ok (.i2l, 1) := by decide +kernel
theorem dL_known_9 : decode cL_known 9 = .ok (.lastore, 1) := by decide +kernel
theorem dL_known_10 : decode cL_known 10 = .ok (.goto 7, 3) := by decide +kernel
theorem dL_known_13 : decode cL_known 13 = .ok (.astore 4, 2) := by decide +kernel
theorem dL_known_15 : decode cL_known 15 = .ok (.iconst 1, 1) := by decide +kernel
theorem dL_known_16 : decode cL_known 16 = .ok (.ireturn, 1) := by decide +kernel
theorem dL_known_17 : decode cL_known 17 = .ok (.iconst 0, 1) := by decide +kernel
theorem dL_known_18 : decode cL_known 18 = .ok (.ireturn, 1) := by decide +kernel
theorem dL_desk_0 : decode cL_desk 0 = .ok (.aload_n 3, 1) := by decide +kernel
theorem dL_desk_1 : decode cL_desk 1 = .ok (.iconst 0, 1) := by decide +kernel
theorem dL_desk_2 : decode cL_desk 2 = .ok (.aload_n 0, 1) := by decide +kernel
theorem dL_desk_3 : decode cL_desk 3 = .ok (.iload_n 1, 1) := by decide +kernel
theorem dL_desk_4 : decode cL_desk 4 = .ok (.iload_n 2, 1) := by decide +kernel
theorem dL_desk_5 : decode cL_desk 5 = .ok (.invokevirtual 45, 3) := by decide +kernel
theorem dL_desk_8 : decode cL_desk 8 = .ok (.i2l, 1) := by decide +kernel
theorem dL_desk_9 : decode cL_desk 9 = .ok (.lastore, 1) := by decide +kernel
theorem dL_desk_10 : decode cL_desk 10 = .ok (.goto 7, 3) := by decide +kernel
theorem dL_desk_13 : decode cL_desk 13 = .ok (.astore 4, 2) := by decide +kernel
theorem dL_desk_15 : decode cL_desk 15 = .ok (.iconst 1, 1) := by decide +kernel
theorem dL_desk_16 : decode cL_desk 16 = .ok (.ireturn, 1) := by decide +kernel
theorem dL_desk_17 : decode cL_desk 17 = .ok (.iconst 0, 1) := by decide +kernel
theorem dL_desk_18 : decode cL_desk 18 = .ok (.ireturn, 1) := by decide +kernel
theorem dL_phase_0 : decode cL_phase 0 = .ok (.aload_n 1, 1) := by decide +kernel
theorem dL_phase_1 : decode cL_phase 1 = .ok (.iconst 0, 1) := by decide +kernel
theorem dL_phase_2 : decode cL_phase 2 = .ok (.aload_n 0, 1) := by decide +kernel
theorem dL_phase_3 : decode cL_phase 3 = .ok (.invokevirtual 48, 3) := by decide +kernel
theorem dL_phase_6 : decode cL_phase 6 = .ok (.i2l, 1) := by decide +kernel
theorem dL_phase_7 : decode cL_phase 7 = .ok (.lastore, 1) := by decide +kernel
theorem dL_phase_8 : decode cL_phase 8 = .ok (.goto 6, 3) := by decide +kernel
theorem dL_phase_11 : decode cL_phase 11 = .ok (.astore_n 2, 1) := by decide +kernel
theorem dL_phase_12 : decode cL_phase 12 = .ok (.iconst 1, 1) := by decide +kernel
theorem dL_phase_13 : decode cL_phase 13 = .ok (.ireturn, 1) := by decide +kernel
theorem dL_phase_14 : decode cL_phase 14 = .ok (.iconst 0, 1) := by decide +kernel
theorem dL_phase_15 : decode cL_phase 15 = .ok (.ireturn, 1) := by decide +kernel
theorem dL_total_0 : decode cL_total 0 = .ok (.aload_n 1, 1) := by decide +kernel
theorem dL_total_1 : decode cL_total 1 = .ok (.iconst 0, 1) := by decide +kernel
theorem dL_total_2 : decode cL_total 2 = .ok (.aload_n 0, 1) := by decide +kernel
theorem dL_total_3 : decode cL_total 3 = .ok (.invokevirtual 52, 3) := by decide +kernel
theorem dL_total_6 : decode cL_total 6 = .ok (.i2l, 1) := by decide +kernel
theorem dL_total_7 : decode cL_total 7 = .ok (.lastore, 1) := by decide +kernel
theorem dL_total_8 : decode cL_total 8 = .ok (.goto 6, 3) := by decide +kernel
theorem dL_total_11 : decode cL_total 11 = .ok (.astore_n 2, 1) := by decide +kernel
theorem dL_total_12 : decode cL_total 12 = .ok (.iconst 1, 1) := by decide +kernel
theorem dL_total_13 : decode cL_total 13 = .ok (.ireturn, 1) := by decide +kernel
theorem dL_total_14 : decode cL_total 14 = .ok (.iconst 0, 1) := by decide +kernel
theorem dL_total_15 : decode cL_total 15 = .ok (.ireturn, 1) := by decide +kernel
theorem dL_proves_0 : decode cL_proves 0 = .ok (.aload_n 1, 1) := by decide +kernel
theorem dL_proves_1 : decode cL_proves 1 = .ok (.iconst 0, 1) := by decide +kernel
theorem dL_proves_2 : decode cL_proves 2 = .ok (.aload_n 0, 1) := by decide +kernel
theorem dL_proves_3 : decode cL_proves 3 = .ok (.invokevirtual 55, 3) := by decide +kernel
theorem dL_proves_6 : decode cL_proves 6 = .ok (.ifCond .eq 7, 3) := by decide +kernel
theorem dL_proves_9 : decode cL_proves 9 = .ok (.lconst 1, 1) := by decide +kernel
theorem dL_proves_10 : decode cL_proves 10 = .ok (.goto 4, 3) := by decide +kernel
theorem dL_proves_13 : decode cL_proves 13 = .ok (.lconst 0, 1) := by decide +kernel
theorem dL_proves_14 : decode cL_proves 14 = .ok (.lastore, 1) := by decide +kernel
theorem dL_proves_15 : decode cL_proves 15 = .ok (.goto 6, 3) := by decide +kernel
theorem dL_proves_18 : decode cL_proves 18 = .ok (.astore_n 2, 1) := by decide +kernel
theorem dL_proves_19 : decode cL_proves 19 = .ok (.iconst 1, 1) := by decide +kernel
theorem dL_proves_20 : decode cL_proves 20 = .ok (.ireturn, 1) := by decide +kernel
theorem dL_proves_21 : decode cL_proves 21 = .ok (.iconst 0, 1) := by decide +kernel
theorem dL_proves_22 : decode cL_proves 22 = .ok (.ireturn, 1) := by decide +kernel
theorem dL_count_0 : decode cL_count 0 = .ok (.aload_n 2, 1) := by decide +kernel
theorem dL_count_1 : decode cL_count 1 = .ok (.iconst 0, 1) := by decide +kernel
theorem dL_count_2 : decode cL_count 2 = .ok (.aload_n 0, 1) := by decide +kernel
theorem dL_count_3 : decode cL_count 3 = .ok (.iload_n 1, 1) := by decide +kernel
theorem dL_count_4 : decode cL_count 4 = .ok (.invokevirtual 59, 3) := by decide +kernel
theorem dL_count_7 : decode cL_count 7 = .ok (.i2l, 1) := by decide +kernel
theorem dL_count_8 : decode cL_count 8 = .ok (.lastore, 1) := by decide +kernel
theorem dL_count_9 : decode cL_count 9 = .ok (.goto 6, 3) := by decide +kernel
theorem dL_count_12 : decode cL_count 12 = .ok (.astore_n 3, 1) := by decide +kernel
theorem dL_count_13 : decode cL_count 13 = .ok (.iconst 1, 1) := by decide +kernel
theorem dL_count_14 : decode cL_count 14 = .ok (.ireturn, 1) := by decide +kernel
theorem dL_count_15 : decode cL_count 15 = .ok (.iconst 0, 1) := by decide +kernel
theorem dL_count_16 : decode cL_count 16 = .ok (.ireturn, 1) := by decide +kernel
theorem dL_law_0 : decode cL_law 0 = .ok (.new 8, 3) := by decide +kernel
theorem dL_law_3 : decode cL_law 3 = .ok (.dup, 1) := by decide +kernel
theorem dL_law_4 : decode cL_law 4 = .ok (.aload_n 0, 1) := by decide +kernel
theorem dL_law_5 : decode cL_law 5 = .ok (.iconst 0, 1) := by decide +kernel
theorem dL_law_6 : decode cL_law 6 = .ok (.invokestatic 62, 3) := by decide +kernel
theorem dL_law_9 : decode cL_law 9 = .ok (.aload_n 0, 1) := by decide +kernel
theorem dL_law_10 : decode cL_law 10 = .ok (.iconst 1, 1) := by decide +kernel
theorem dL_law_11 : decode cL_law 11 = .ok (.invokestatic 62, 3) := by decide +kernel
theorem dL_law_14 : decode cL_law 14 = .ok (.invokespecial 68, 3) := by decide +kernel
theorem dL_law_17 : decode cL_law 17 = .ok (.astore_n 1, 1) := by decide +kernel
theorem dL_law_18 : decode cL_law 18 = .ok (.new 71, 3) := by decide +kernel
theorem dL_law_21 : decode cL_law 21 = .ok (.dup, 1) := by decide +kernel
theorem dL_law_22 : decode cL_law 22 = .ok (.aload_n 0, 1) := by decide +kernel
theorem dL_law_23 : decode cL_law 23 = .ok (.iconst 0, 1) := by decide +kernel
theorem dL_law_24 : decode cL_law 24 = .ok (.invokestatic 62, 3) := by decide +kernel
theorem dL_law_27 : decode cL_law 27 = .ok (.aload_n 0, 1) := by decide +kernel
theorem dL_law_28 : decode cL_law 28 = .ok (.iconst 1, 1) := by decide +kernel
theorem dL_law_29 : decode cL_law 29 = .ok (.invokestatic 62, 3) := by decide +kernel
theorem dL_law_32 : decode cL_law 32 = .ok (.invokespecial 73, 3) := by decide +kernel
theorem dL_law_35 : decode cL_law 35 = .ok (.astore_n 2, 1) := by decide +kernel
theorem dL_law_36 : decode cL_law 36 = .ok (.iconst 1, 1) := by decide +kernel
theorem dL_law_37 : decode cL_law 37 = .ok (.newarray .long, 2) := by decide +kernel
theorem dL_law_39 : decode cL_law 39 = .ok (.astore_n 3, 1) := by decide +kernel
theorem dL_law_40 : decode cL_law 40 = .ok (.iconst 2, 1) := by decide +kernel
theorem dL_law_41 : decode cL_law 41 = .ok (.istore 4, 2) := by decide +kernel
theorem dL_law_43 : decode cL_law 43 = .ok (.iload 4, 2) := by decide +kernel
theorem dL_law_45 : decode cL_law 45 = .ok (.aload_n 0, 1) := by decide +kernel
theorem dL_law_46 : decode cL_law 46 = .ok (.arraylength, 1) := by decide +kernel
theorem dL_law_47 : decode cL_law 47 = .ok (.iconst 4, 1) := by decide +kernel
theorem dL_law_48 : decode cL_law 48 = .ok (.isub, 1) := by decide +kernel
theorem dL_law_49 : decode cL_law 49 = .ok (.if_icmp .gt 926, 3) := by decide +kernel
theorem dL_law_52 : decode cL_law 52 = .ok (.aload_n 0, 1) := by decide +kernel
theorem dL_law_53 : decode cL_law 53 = .ok (.iload 4, 2) := by decide +kernel
theorem dL_law_55 : decode cL_law 55 = .ok (.iaload, 1) := by decide +kernel
theorem dL_law_56 : decode cL_law 56 = .ok (.bipush 15, 2) := by decide +kernel
theorem dL_law_58 : decode cL_law 58 = .ok (.iand, 1) := by decide +kernel
theorem dL_law_59 : decode cL_law 59 = .ok (.tableswitch 910 0 15 #[77, 137, 193, 249, 305, 361, 417, 430, 498, 566, 634, 702, 715, 759, 803, 854], 77) := by decide +kernel
theorem dL_law_136 : decode cL_law 136 = .ok (.aload_n 1, 1) := by decide +kernel
theorem dL_law_137 : decode cL_law 137 = .ok (.aload_n 0, 1) := by decide +kernel
theorem dL_law_138 : decode cL_law 138 = .ok (.iload 4, 2) := by decide +kernel
theorem dL_law_140 : decode cL_law 140 = .ok (.iconst 1, 1) := by decide +kernel
theorem dL_law_141 : decode cL_law 141 = .ok (.iadd, 1) := by decide +kernel
theorem dL_law_142 : decode cL_law 142 = .ok (.iaload, 1) := by decide +kernel
theorem dL_law_143 : decode cL_law 143 = .ok (.aload_n 0, 1) := by decide +kernel
theorem dL_law_144 : decode cL_law 144 = .ok (.iload 4, 2) := by decide +kernel
theorem dL_law_146 : decode cL_law 146 = .ok (.iconst 2, 1) := by decide +kernel
theorem dL_law_147 : decode cL_law 147 = .ok (.iadd, 1) := by decide +kernel
theorem dL_law_148 : decode cL_law 148 = .ok (.iaload, 1) := by decide +kernel
theorem dL_law_149 : decode cL_law 149 = .ok (.aload_n 0, 1) := by decide +kernel
theorem dL_law_150 : decode cL_law 150 = .ok (.iload 4, 2) := by decide +kernel
theorem dL_law_152 : decode cL_law 152 = .ok (.iconst 3, 1) := by decide +kernel
theorem dL_law_153 : decode cL_law 153 = .ok (.iadd, 1) := by decide +kernel
theorem dL_law_154 : decode cL_law 154 = .ok (.iaload, 1) := by decide +kernel
theorem dL_law_155 : decode cL_law 155 = .ok (.invokestatic 74, 3) := by decide +kernel
theorem dL_law_158 : decode cL_law 158 = .ok (.istore 5, 2) := by decide +kernel
theorem dL_law_160 : decode cL_law 160 = .ok (.aload_n 2, 1) := by decide +kernel
theorem dL_law_161 : decode cL_law 161 = .ok (.aload_n 0, 1) := by decide +kernel
theorem dL_law_162 : decode cL_law 162 = .ok (.iload 4, 2) := by decide +kernel
theorem dL_law_164 : decode cL_law 164 = .ok (.iconst 1, 1) := by decide +kernel
theorem dL_law_165 : decode cL_law 165 = .ok (.iadd, 1) := by decide +kernel
theorem dL_law_166 : decode cL_law 166 = .ok (.iaload, 1) := by decide +kernel
theorem dL_law_167 : decode cL_law 167 = .ok (.aload_n 0, 1) := by decide +kernel
theorem dL_law_168 : decode cL_law 168 = .ok (.iload 4, 2) := by decide +kernel
theorem dL_law_170 : decode cL_law 170 = .ok (.iconst 2, 1) := by decide +kernel
theorem dL_law_171 : decode cL_law 171 = .ok (.iadd, 1) := by decide +kernel
theorem dL_law_172 : decode cL_law 172 = .ok (.iaload, 1) := by decide +kernel
theorem dL_law_173 : decode cL_law 173 = .ok (.aload_n 0, 1) := by decide +kernel
theorem dL_law_174 : decode cL_law 174 = .ok (.iload 4, 2) := by decide +kernel
theorem dL_law_176 : decode cL_law 176 = .ok (.iconst 3, 1) := by decide +kernel
theorem dL_law_177 : decode cL_law 177 = .ok (.iadd, 1) := by decide +kernel
theorem dL_law_178 : decode cL_law 178 = .ok (.iaload, 1) := by decide +kernel
theorem dL_law_179 : decode cL_law 179 = .ok (.invokevirtual 77, 3) := by decide +kernel
theorem dL_law_182 : decode cL_law 182 = .ok (.aload_n 2, 1) := by decide +kernel
theorem dL_law_183 : decode cL_law 183 = .ok (.invokevirtual 78, 3) := by decide +kernel
theorem dL_law_186 : decode cL_law 186 = .ok (.iload 5, 2) := by decide +kernel
theorem dL_law_188 : decode cL_law 188 = .ok (.if_icmp .eq 5, 3) := by decide +kernel
theorem dL_law_191 : decode cL_law 191 = .ok (.iconst 0, 1) := by decide +kernel
theorem dL_law_192 : decode cL_law 192 = .ok (.ireturn, 1) := by decide +kernel
theorem dL_law_193 : decode cL_law 193 = .ok (.goto 776, 3) := by decide +kernel
theorem dL_law_196 : decode cL_law 196 = .ok (.aload_n 1, 1) := by decide +kernel
theorem dL_law_197 : decode cL_law 197 = .ok (.aload_n 0, 1) := by decide +kernel
theorem dL_law_198 : decode cL_law 198 = .ok (.iload 4, 2) := by decide +kernel
theorem dL_law_200 : decode cL_law 200 = .ok (.iconst 1, 1) := by decide +kernel
theorem dL_law_201 : decode cL_law 201 = .ok (.iadd, 1) := by decide +kernel
theorem dL_law_202 : decode cL_law 202 = .ok (.iaload, 1) := by decide +kernel
theorem dL_law_203 : decode cL_law 203 = .ok (.aload_n 3, 1) := by decide +kernel
theorem dL_law_204 : decode cL_law 204 = .ok (.invokestatic 81, 3) := by decide +kernel
theorem dL_law_207 : decode cL_law 207 = .ok (.istore 5, 2) := by decide +kernel
theorem dL_law_209 : decode cL_law 209 = .ok (.aload_n 2, 1) := by decide +kernel
theorem dL_law_210 : decode cL_law 210 = .ok (.aload_n 0, 1) := by decide +kernel
theorem dL_law_211 : decode cL_law 211 = .ok (.iload 4, 2) := by decide +kernel
theorem dL_law_213 : decode cL_law 213 = .ok (.iconst 1, 1) := by decide +kernel
theorem dL_law_214 : decode cL_law 214 = .ok (.iadd, 1) := by decide +kernel
theorem dL_law_215 : decode cL_law 215 = .ok (.iaload, 1) := by decide +kernel
theorem dL_law_216 : decode cL_law 216 = .ok (.invokevirtual 84, 3) := by decide +kernel
theorem dL_law_219 : decode cL_law 219 = .ok (.istore 6, 2) := by decide +kernel
theorem dL_law_221 : decode cL_law 221 = .ok (.aload_n 2, 1) := by decide +kernel
theorem dL_law_222 : decode cL_law 222 = .ok (.invokevirtual 78, 3) := by decide +kernel
theorem dL_law_225 : decode cL_law 225 = .ok (.iload 5, 2) := by decide +kernel
theorem dL_law_227 : decode cL_law 227 = .ok (.if_icmp .eq 5, 3) := by decide +kernel
theorem dL_law_230 : decode cL_law 230 = .ok (.iconst 0, 1) := by decide +kernel
theorem dL_law_231 : decode cL_law 231 = .ok (.ireturn, 1) := by decide +kernel
theorem dL_law_232 : decode cL_law 232 = .ok (.iload 5, 2) := by decide +kernel
theorem dL_law_234 : decode cL_law 234 = .ok (.ifCond .ne 15, 3) := by decide +kernel
theorem dL_law_237 : decode cL_law 237 = .ok (.aload_n 3, 1) := by decide +kernel
theorem dL_law_238 : decode cL_law 238 = .ok (.iconst 0, 1) := by decide +kernel
theorem dL_law_239 : decode cL_law 239 = .ok (.laload, 1) := by decide +kernel
theorem dL_law_240 : decode cL_law 240 = .ok (.iload 6, 2) := by decide +kernel
theorem dL_law_242 : decode cL_law 242 = .ok (.i2l, 1) := by decide +kernel
theorem dL_law_243 : decode cL_law 243 = .ok (.lcmp, 1) := by decide +kernel
theorem dL_law_244 : decode cL_law 244 = .ok (.ifCond .eq 5, 3) := by decide +kernel
theorem dL_law_247 : decode cL_law 247 = .ok (.iconst 0, 1) := by decide +kernel
theorem dL_law_248 : decode cL_law 248 = .ok (.ireturn, 1) := by decide +kernel
theorem dL_law_249 : decode cL_law 249 = .ok (.goto 720, 3) := by decide +kernel
theorem dL_law_252 : decode cL_law 252 = .ok (.aload_n 1, 1) := by decide +kernel
theorem dL_law_253 : decode cL_law 253 = .ok (.aload_n 0, 1) := by decide +kernel
theorem dL_law_254 : decode cL_law 254 = .ok (.iload 4, 2) := by decide +kernel
theorem dL_law_256 : decode cL_law 256 = .ok (.iconst 1, 1) := by decide +kernel
theorem dL_law_257 : decode cL_law 257 = .ok (.iadd, 1) := by decide +kernel
theorem dL_law_258 : decode cL_law 258 = .ok (.iaload, 1) := by decide +kernel
theorem dL_law_259 : decode cL_law 259 = .ok (.aload_n 3, 1) := by decide +kernel
theorem dL_law_260 : decode cL_law 260 = .ok (.invokestatic 85, 3) := by decide +kernel
theorem dL_law_263 : decode cL_law 263 = .ok (.istore 5, 2) := by decide +kernel
theorem dL_law_265 : decode cL_law 265 = .ok (.aload_n 2, 1) := by decide +kernel
theorem dL_law_266 : decode cL_law 266 = .ok (.aload_n 0, 1) := by decide +kernel
theorem dL_law_267 : decode cL_law 267 = .ok (.iload 4, 2) := by decide +kernel
theorem dL_law_269 : decode cL_law 269 = .ok (.iconst 1, 1) := by decide +kernel
theorem dL_law_270 : decode cL_law 270 = .ok (.iadd, 1) := by decide +kernel
theorem dL_law_271 : decode cL_law 271 = .ok (.iaload, 1) := by decide +kernel
theorem dL_law_272 : decode cL_law 272 = .ok (.invokevirtual 87, 3) := by decide +kernel
theorem dL_law_275 : decode cL_law 275 = .ok (.istore 6, 2) := by decide +kernel
theorem dL_law_277 : decode cL_law 277 = .ok (.aload_n 2, 1) := by decide +kernel
theorem dL_law_278 : decode cL_law 278 = .ok (.invokevirtual 78, 3) := by decide +kernel
theorem dL_law_281 : decode cL_law 281 = .ok (.iload 5, 2) := by decide +kernel
theorem dL_law_283 : decode cL_law 283 = .ok (.if_icmp .eq 5, 3) := by decide +kernel
theorem dL_law_286 : decode cL_law 286 = .ok (.iconst 0, 1) := by decide +kernel
theorem dL_law_287 : decode cL_law 287 = .ok (.ireturn, 1) := by decide +kernel
theorem dL_law_288 : decode cL_law 288 = .ok (.iload 5, 2) := by decide +kernel
theorem dL_law_290 : decode cL_law 290 = .ok (.ifCond .ne 15, 3) := by decide +kernel
theorem dL_law_293 : decode cL_law 293 = .ok (.aload_n 3, 1) := by decide +kernel
theorem dL_law_294 : decode cL_law 294 = .ok (.iconst 0, 1) := by decide +kernel
theorem dL_law_295 : decode cL_law 295 = .ok (.laload, 1) := by decide +kernel
theorem dL_law_296 : decode cL_law 296 = .ok (.iload 6, 2) := by decide +kernel
theorem dL_law_298 : decode cL_law 298 = .ok (.i2l, 1) := by decide +kernel
theorem dL_law_299 : decode cL_law 299 = .ok (.lcmp, 1) := by decide +kernel
theorem dL_law_300 : decode cL_law 300 = .ok (.ifCond .eq 5, 3) := by decide +kernel
theorem dL_law_303 : decode cL_law 303 = .ok (.iconst 0, 1) := by decide +kernel
theorem dL_law_304 : decode cL_law 304 = .ok (.ireturn, 1) := by decide +kernel
theorem dL_law_305 : decode cL_law 305 = .ok (.goto 664, 3) := by decide +kernel
theorem dL_law_308 : decode cL_law 308 = .ok (.aload_n 1, 1) := by decide +kernel
theorem dL_law_309 : decode cL_law 309 = .ok (.aload_n 0, 1) := by decide +kernel
theorem dL_law_310 : decode cL_law 310 = .ok (.iload 4, 2) := by decide +kernel
theorem dL_law_312 : decode cL_law 312 = .ok (.iconst 1, 1) := by decide +kernel
theorem dL_law_313 : decode cL_law 313 = .ok (.iadd, 1) := by decide +kernel
theorem dL_law_314 : decode cL_law 314 = .ok (.iaload, 1) := by decide +kernel
theorem dL_law_315 : decode cL_law 315 = .ok (.aload_n 3, 1) := by decide +kernel
theorem dL_law_316 : decode cL_law 316 = .ok (.invokestatic 88, 3) := by decide +kernel
theorem dL_law_319 : decode cL_law 319 = .ok (.istore 5, 2) := by decide +kernel
theorem dL_law_321 : decode cL_law 321 = .ok (.aload_n 2, 1) := by decide +kernel
theorem dL_law_322 : decode cL_law 322 = .ok (.aload_n 0, 1) := by decide +kernel
theorem dL_law_323 : decode cL_law 323 = .ok (.iload 4, 2) := by decide +kernel
theorem dL_law_325 : decode cL_law 325 = .ok (.iconst 1, 1) := by decide +kernel
theorem dL_law_326 : decode cL_law 326 = .ok (.iadd, 1) := by decide +kernel
theorem dL_law_327 : decode cL_law 327 = .ok (.iaload, 1) := by decide +kernel
theorem dL_law_328 : decode cL_law 328 = .ok (.invokevirtual 90, 3) := by decide +kernel
theorem dL_law_331 : decode cL_law 331 = .ok (.istore 6, 2) := by decide +kernel
theorem dL_law_333 : decode cL_law 333 = .ok (.aload_n 2, 1) := by decide +kernel
theorem dL_law_334 : decode cL_law 334 = .ok (.invokevirtual 78, 3) := by decide +kernel
theorem dL_law_337 : decode cL_law 337 = .ok (.iload 5, 2) := by decide +kernel
theorem dL_law_339 : decode cL_law 339 = .ok (.if_icmp .eq 5, 3) := by decide +kernel
theorem dL_law_342 : decode cL_law 342 = .ok (.iconst 0, 1) := by decide +kernel
theorem dL_law_343 : decode cL_law 343 = .ok (.ireturn, 1) := by decide +kernel
theorem dL_law_344 : decode cL_law 344 = .ok (.iload 5, 2) := by decide +kernel
theorem dL_law_346 : decode cL_law 346 = .ok (.ifCond .ne 15, 3) := by decide +kernel
theorem dL_law_349 : decode cL_law 349 = .ok (.aload_n 3, 1) := by decide +kernel
theorem dL_law_350 : decode cL_law 350 = .ok (.iconst 0, 1) := by decide +kernel
theorem dL_law_351 : decode cL_law 351 = .ok (.laload, 1) := by decide +kernel
theorem dL_law_352 : decode cL_law 352 = .ok (.iload 6, 2) := by decide +kernel
theorem dL_law_354 : decode cL_law 354 = .ok (.i2l, 1) := by decide +kernel
theorem dL_law_355 : decode cL_law 355 = .ok (.lcmp, 1) := by decide +kernel
theorem dL_law_356 : decode cL_law 356 = .ok (.ifCond .eq 5, 3) := by decide +kernel
theorem dL_law_359 : decode cL_law 359 = .ok (.iconst 0, 1) := by decide +kernel
theorem dL_law_360 : decode cL_law 360 = .ok (.ireturn, 1) := by decide +kernel
theorem dL_law_361 : decode cL_law 361 = .ok (.goto 608, 3) := by decide +kernel
theorem dL_law_364 : decode cL_law 364 = .ok (.aload_n 1, 1) := by decide +kernel
theorem dL_law_365 : decode cL_law 365 = .ok (.aload_n 0, 1) := by decide +kernel
theorem dL_law_366 : decode cL_law 366 = .ok (.iload 4, 2) := by decide +kernel
theorem dL_law_368 : decode cL_law 368 = .ok (.iconst 1, 1) := by decide +kernel
theorem dL_law_369 : decode cL_law 369 = .ok (.iadd, 1) := by decide +kernel
theorem dL_law_370 : decode cL_law 370 = .ok (.iaload, 1) := by decide +kernel
theorem dL_law_371 : decode cL_law 371 = .ok (.aload_n 3, 1) := by decide +kernel
theorem dL_law_372 : decode cL_law 372 = .ok (.invokestatic 91, 3) := by decide +kernel
theorem dL_law_375 : decode cL_law 375 = .ok (.istore 5, 2) := by decide +kernel
theorem dL_law_377 : decode cL_law 377 = .ok (.aload_n 2, 1) := by decide +kernel
theorem dL_law_378 : decode cL_law 378 = .ok (.aload_n 0, 1) := by decide +kernel
theorem dL_law_379 : decode cL_law 379 = .ok (.iload 4, 2) := by decide +kernel
theorem dL_law_381 : decode cL_law 381 = .ok (.iconst 1, 1) := by decide +kernel
theorem dL_law_382 : decode cL_law 382 = .ok (.iadd, 1) := by decide +kernel
theorem dL_law_383 : decode cL_law 383 = .ok (.iaload, 1) := by decide +kernel
theorem dL_law_384 : decode cL_law 384 = .ok (.invokevirtual 93, 3) := by decide +kernel
theorem dL_law_387 : decode cL_law 387 = .ok (.istore 6, 2) := by decide +kernel
theorem dL_law_389 : decode cL_law 389 = .ok (.aload_n 2, 1) := by decide +kernel
theorem dL_law_390 : decode cL_law 390 = .ok (.invokevirtual 78, 3) := by decide +kernel
theorem dL_law_393 : decode cL_law 393 = .ok (.iload 5, 2) := by decide +kernel
theorem dL_law_395 : decode cL_law 395 = .ok (.if_icmp .eq 5, 3) := by decide +kernel
theorem dL_law_398 : decode cL_law 398 = .ok (.iconst 0, 1) := by decide +kernel
theorem dL_law_399 : decode cL_law 399 = .ok (.ireturn, 1) := by decide +kernel
theorem dL_law_400 : decode cL_law 400 = .ok (.iload 5, 2) := by decide +kernel
theorem dL_law_402 : decode cL_law 402 = .ok (.ifCond .ne 15, 3) := by decide +kernel
theorem dL_law_405 : decode cL_law 405 = .ok (.aload_n 3, 1) := by decide +kernel
theorem dL_law_406 : decode cL_law 406 = .ok (.iconst 0, 1) := by decide +kernel
theorem dL_law_407 : decode cL_law 407 = .ok (.laload, 1) := by decide +kernel
theorem dL_law_408 : decode cL_law 408 = .ok (.iload 6, 2) := by decide +kernel
theorem dL_law_410 : decode cL_law 410 = .ok (.i2l, 1) := by decide +kernel
theorem dL_law_411 : decode cL_law 411 = .ok (.lcmp, 1) := by decide +kernel
theorem dL_law_412 : decode cL_law 412 = .ok (.ifCond .eq 5, 3) := by decide +kernel
theorem dL_law_415 : decode cL_law 415 = .ok (.iconst 0, 1) := by decide +kernel
theorem dL_law_416 : decode cL_law 416 = .ok (.ireturn, 1) := by decide +kernel
theorem dL_law_417 : decode cL_law 417 = .ok (.goto 552, 3) := by decide +kernel
theorem dL_law_420 : decode cL_law 420 = .ok (.aload_n 1, 1) := by decide +kernel
theorem dL_law_421 : decode cL_law 421 = .ok (.aload_n 0, 1) := by decide +kernel
theorem dL_law_422 : decode cL_law 422 = .ok (.iload 4, 2) := by decide +kernel
theorem dL_law_424 : decode cL_law 424 = .ok (.iconst 1, 1) := by decide +kernel
theorem dL_law_425 : decode cL_law 425 = .ok (.iadd, 1) := by decide +kernel
theorem dL_law_426 : decode cL_law 426 = .ok (.iaload, 1) := by decide +kernel
theorem dL_law_427 : decode cL_law 427 = .ok (.aload_n 3, 1) := by decide +kernel
theorem dL_law_428 : decode cL_law 428 = .ok (.invokestatic 94, 3) := by decide +kernel
theorem dL_law_431 : decode cL_law 431 = .ok (.istore 5, 2) := by decide +kernel
theorem dL_law_433 : decode cL_law 433 = .ok (.aload_n 2, 1) := by decide +kernel
theorem dL_law_434 : decode cL_law 434 = .ok (.aload_n 0, 1) := by decide +kernel
theorem dL_law_435 : decode cL_law 435 = .ok (.iload 4, 2) := by decide +kernel
theorem dL_law_437 : decode cL_law 437 = .ok (.iconst 1, 1) := by decide +kernel
theorem dL_law_438 : decode cL_law 438 = .ok (.iadd, 1) := by decide +kernel
theorem dL_law_439 : decode cL_law 439 = .ok (.iaload, 1) := by decide +kernel
theorem dL_law_440 : decode cL_law 440 = .ok (.invokevirtual 96, 3) := by decide +kernel
theorem dL_law_443 : decode cL_law 443 = .ok (.istore 6, 2) := by decide +kernel
theorem dL_law_445 : decode cL_law 445 = .ok (.aload_n 2, 1) := by decide +kernel
theorem dL_law_446 : decode cL_law 446 = .ok (.invokevirtual 78, 3) := by decide +kernel
theorem dL_law_449 : decode cL_law 449 = .ok (.iload 5, 2) := by decide +kernel
theorem dL_law_451 : decode cL_law 451 = .ok (.if_icmp .eq 5, 3) := by decide +kernel
theorem dL_law_454 : decode cL_law 454 = .ok (.iconst 0, 1) := by decide +kernel
theorem dL_law_455 : decode cL_law 455 = .ok (.ireturn, 1) := by decide +kernel
theorem dL_law_456 : decode cL_law 456 = .ok (.iload 5, 2) := by decide +kernel
theorem dL_law_458 : decode cL_law 458 = .ok (.ifCond .ne 15, 3) := by decide +kernel
theorem dL_law_461 : decode cL_law 461 = .ok (.aload_n 3, 1) := by decide +kernel
theorem dL_law_462 : decode cL_law 462 = .ok (.iconst 0, 1) := by decide +kernel
theorem dL_law_463 : decode cL_law 463 = .ok (.laload, 1) := by decide +kernel
theorem dL_law_464 : decode cL_law 464 = .ok (.iload 6, 2) := by decide +kernel
theorem dL_law_466 : decode cL_law 466 = .ok (.i2l, 1) := by decide +kernel
theorem dL_law_467 : decode cL_law 467 = .ok (.lcmp, 1) := by decide +kernel
theorem dL_law_468 : decode cL_law 468 = .ok (.ifCond .eq 5, 3) := by decide +kernel
theorem dL_law_471 : decode cL_law 471 = .ok (.iconst 0, 1) := by decide +kernel
theorem dL_law_472 : decode cL_law 472 = .ok (.ireturn, 1) := by decide +kernel
theorem dL_law_473 : decode cL_law 473 = .ok (.goto 496, 3) := by decide +kernel
theorem dL_law_476 : decode cL_law 476 = .ok (.aload_n 1, 1) := by decide +kernel
theorem dL_law_477 : decode cL_law 477 = .ok (.invokevirtual 97, 3) := by decide +kernel
theorem dL_law_480 : decode cL_law 480 = .ok (.aload_n 2, 1) := by decide +kernel
theorem dL_law_481 : decode cL_law 481 = .ok (.invokevirtual 100, 3) := by decide +kernel
theorem dL_law_484 : decode cL_law 484 = .ok (.if_icmp .eq 485, 3) := by decide +kernel
theorem dL_law_487 : decode cL_law 487 = .ok (.iconst 0, 1) := by decide +kernel
theorem dL_law_488 : decode cL_law 488 = .ok (.ireturn, 1) := by decide +kernel
theorem dL_law_489 : decode cL_law 489 = .ok (.aload_n 1, 1) := by decide +kernel
theorem dL_law_490 : decode cL_law 490 = .ok (.aload_n 0, 1) := by decide +kernel
theorem dL_law_491 : decode cL_law 491 = .ok (.iload 4, 2) := by decide +kernel
theorem dL_law_493 : decode cL_law 493 = .ok (.iconst 1, 1) := by decide +kernel
theorem dL_law_494 : decode cL_law 494 = .ok (.iadd, 1) := by decide +kernel
theorem dL_law_495 : decode cL_law 495 = .ok (.iaload, 1) := by decide +kernel
theorem dL_law_496 : decode cL_law 496 = .ok (.aload_n 0, 1) := by decide +kernel
theorem dL_law_497 : decode cL_law 497 = .ok (.iload 4, 2) := by decide +kernel
theorem dL_law_499 : decode cL_law 499 = .ok (.iconst 2, 1) := by decide +kernel
theorem dL_law_500 : decode cL_law 500 = .ok (.iadd, 1) := by decide +kernel
theorem dL_law_501 : decode cL_law 501 = .ok (.iaload, 1) := by decide +kernel
theorem dL_law_502 : decode cL_law 502 = .ok (.aload_n 3, 1) := by decide +kernel
theorem dL_law_503 : decode cL_law 503 = .ok (.invokestatic 101, 3) := by decide +kernel
theorem dL_law_506 : decode cL_law 506 = .ok (.istore 5, 2) := by decide +kernel
theorem dL_law_508 : decode cL_law 508 = .ok (.aload_n 2, 1) := by decide +kernel
theorem dL_law_509 : decode cL_law 509 = .ok (.aload_n 0, 1) := by decide +kernel
theorem dL_law_510 : decode cL_law 510 = .ok (.iload 4, 2) := by decide +kernel
theorem dL_law_512 : decode cL_law 512 = .ok (.iconst 1, 1) := by decide +kernel
theorem dL_law_513 : decode cL_law 513 = .ok (.iadd, 1) := by decide +kernel
theorem dL_law_514 : decode cL_law 514 = .ok (.iaload, 1) := by decide +kernel
theorem dL_law_515 : decode cL_law 515 = .ok (.aload_n 0, 1) := by decide +kernel
theorem dL_law_516 : decode cL_law 516 = .ok (.iload 4, 2) := by decide +kernel
theorem dL_law_518 : decode cL_law 518 = .ok (.iconst 2, 1) := by decide +kernel
theorem dL_law_519 : decode cL_law 519 = .ok (.iadd, 1) := by decide +kernel
theorem dL_law_520 : decode cL_law 520 = .ok (.iaload, 1) := by decide +kernel
theorem dL_law_521 : decode cL_law 521 = .ok (.invokevirtual 104, 3) := by decide +kernel
theorem dL_law_524 : decode cL_law 524 = .ok (.istore 6, 2) := by decide +kernel
theorem dL_law_526 : decode cL_law 526 = .ok (.aload_n 2, 1) := by decide +kernel
theorem dL_law_527 : decode cL_law 527 = .ok (.invokevirtual 78, 3) := by decide +kernel
theorem dL_law_530 : decode cL_law 530 = .ok (.iload 5, 2) := by decide +kernel
theorem dL_law_532 : decode cL_law 532 = .ok (.if_icmp .eq 5, 3) := by decide +kernel
theorem dL_law_535 : decode cL_law 535 = .ok (.iconst 0, 1) := by decide +kernel
theorem dL_law_536 : decode cL_law 536 = .ok (.ireturn, 1) := by decide +kernel
theorem dL_law_537 : decode cL_law 537 = .ok (.iload 5, 2) := by decide +kernel
theorem dL_law_539 : decode cL_law 539 = .ok (.ifCond .ne 15, 3) := by decide +kernel
theorem dL_law_542 : decode cL_law 542 = .ok (.aload_n 3, 1) := by decide +kernel
theorem dL_law_543 : decode cL_law 543 = .ok (.iconst 0, 1) := by decide +kernel
theorem dL_law_544 : decode cL_law 544 = .ok (.laload, 1) := by decide +kernel
theorem dL_law_545 : decode cL_law 545 = .ok (.iload 6, 2) := by decide +kernel
theorem dL_law_547 : decode cL_law 547 = .ok (.i2l, 1) := by decide +kernel
theorem dL_law_548 : decode cL_law 548 = .ok (.lcmp, 1) := by decide +kernel
theorem dL_law_549 : decode cL_law 549 = .ok (.ifCond .eq 5, 3) := by decide +kernel
theorem dL_law_552 : decode cL_law 552 = .ok (.iconst 0, 1) := by decide +kernel
theorem dL_law_553 : decode cL_law 553 = .ok (.ireturn, 1) := by decide +kernel
theorem dL_law_554 : decode cL_law 554 = .ok (.goto 415, 3) := by decide +kernel
theorem dL_law_557 : decode cL_law 557 = .ok (.aload_n 1, 1) := by decide +kernel
theorem dL_law_558 : decode cL_law 558 = .ok (.aload_n 0, 1) := by decide +kernel
theorem dL_law_559 : decode cL_law 559 = .ok (.iload 4, 2) := by decide +kernel
theorem dL_law_561 : decode cL_law 561 = .ok (.iconst 1, 1) := by decide +kernel
theorem dL_law_562 : decode cL_law 562 = .ok (.iadd, 1) := by decide +kernel
theorem dL_law_563 : decode cL_law 563 = .ok (.iaload, 1) := by decide +kernel
theorem dL_law_564 : decode cL_law 564 = .ok (.aload_n 0, 1) := by decide +kernel
theorem dL_law_565 : decode cL_law 565 = .ok (.iload 4, 2) := by decide +kernel
theorem dL_law_567 : decode cL_law 567 = .ok (.iconst 2, 1) := by decide +kernel
theorem dL_law_568 : decode cL_law 568 = .ok (.iadd, 1) := by decide +kernel
theorem dL_law_569 : decode cL_law 569 = .ok (.iaload, 1) := by decide +kernel
theorem dL_law_570 : decode cL_law 570 = .ok (.aload_n 3, 1) := by decide +kernel
theorem dL_law_571 : decode cL_law 571 = .ok (.invokestatic 105, 3) := by decide +kernel
theorem dL_law_574 : decode cL_law 574 = .ok (.istore 5, 2) := by decide +kernel
theorem dL_law_576 : decode cL_law 576 = .ok (.aload_n 2, 1) := by decide +kernel
theorem dL_law_577 : decode cL_law 577 = .ok (.aload_n 0, 1) := by decide +kernel
theorem dL_law_578 : decode cL_law 578 = .ok (.iload 4, 2) := by decide +kernel
theorem dL_law_580 : decode cL_law 580 = .ok (.iconst 1, 1) := by decide +kernel
theorem dL_law_581 : decode cL_law 581 = .ok (.iadd, 1) := by decide +kernel
theorem dL_law_582 : decode cL_law 582 = .ok (.iaload, 1) := by decide +kernel
theorem dL_law_583 : decode cL_law 583 = .ok (.aload_n 0, 1) := by decide +kernel
theorem dL_law_584 : decode cL_law 584 = .ok (.iload 4, 2) := by decide +kernel
theorem dL_law_586 : decode cL_law 586 = .ok (.iconst 2, 1) := by decide +kernel
theorem dL_law_587 : decode cL_law 587 = .ok (.iadd, 1) := by decide +kernel
theorem dL_law_588 : decode cL_law 588 = .ok (.iaload, 1) := by decide +kernel
theorem dL_law_589 : decode cL_law 589 = .ok (.invokevirtual 107, 3) := by decide +kernel
theorem dL_law_592 : decode cL_law 592 = .ok (.istore 6, 2) := by decide +kernel
theorem dL_law_594 : decode cL_law 594 = .ok (.aload_n 2, 1) := by decide +kernel
theorem dL_law_595 : decode cL_law 595 = .ok (.invokevirtual 78, 3) := by decide +kernel
theorem dL_law_598 : decode cL_law 598 = .ok (.iload 5, 2) := by decide +kernel
theorem dL_law_600 : decode cL_law 600 = .ok (.if_icmp .eq 5, 3) := by decide +kernel
theorem dL_law_603 : decode cL_law 603 = .ok (.iconst 0, 1) := by decide +kernel
theorem dL_law_604 : decode cL_law 604 = .ok (.ireturn, 1) := by decide +kernel
theorem dL_law_605 : decode cL_law 605 = .ok (.iload 5, 2) := by decide +kernel
theorem dL_law_607 : decode cL_law 607 = .ok (.ifCond .ne 15, 3) := by decide +kernel
theorem dL_law_610 : decode cL_law 610 = .ok (.aload_n 3, 1) := by decide +kernel
theorem dL_law_611 : decode cL_law 611 = .ok (.iconst 0, 1) := by decide +kernel
theorem dL_law_612 : decode cL_law 612 = .ok (.laload, 1) := by decide +kernel
theorem dL_law_613 : decode cL_law 613 = .ok (.iload 6, 2) := by decide +kernel
theorem dL_law_615 : decode cL_law 615 = .ok (.i2l, 1) := by decide +kernel
theorem dL_law_616 : decode cL_law 616 = .ok (.lcmp, 1) := by decide +kernel
theorem dL_law_617 : decode cL_law 617 = .ok (.ifCond .eq 5, 3) := by decide +kernel
theorem dL_law_620 : decode cL_law 620 = .ok (.iconst 0, 1) := by decide +kernel
theorem dL_law_621 : decode cL_law 621 = .ok (.ireturn, 1) := by decide +kernel
theorem dL_law_622 : decode cL_law 622 = .ok (.goto 347, 3) := by decide +kernel
theorem dL_law_625 : decode cL_law 625 = .ok (.aload_n 1, 1) := by decide +kernel
theorem dL_law_626 : decode cL_law 626 = .ok (.aload_n 0, 1) := by decide +kernel
theorem dL_law_627 : decode cL_law 627 = .ok (.iload 4, 2) := by decide +kernel
theorem dL_law_629 : decode cL_law 629 = .ok (.iconst 1, 1) := by decide +kernel
theorem dL_law_630 : decode cL_law 630 = .ok (.iadd, 1) := by decide +kernel
theorem dL_law_631 : decode cL_law 631 = .ok (.iaload, 1) := by decide +kernel
theorem dL_law_632 : decode cL_law 632 = .ok (.aload_n 0, 1) := by decide +kernel
theorem dL_law_633 : decode cL_law 633 = .ok (.iload 4, 2) := by decide +kernel
theorem dL_law_635 : decode cL_law 635 = .ok (.iconst 2, 1) := by decide +kernel
theorem dL_law_636 : decode cL_law 636 = .ok (.iadd, 1) := by decide +kernel
theorem dL_law_637 : decode cL_law 637 = .ok (.iaload, 1) := by decide +kernel
theorem dL_law_638 : decode cL_law 638 = .ok (.aload_n 3, 1) := by decide +kernel
theorem dL_law_639 : decode cL_law 639 = .ok (.invokestatic 108, 3) := by decide +kernel
theorem dL_law_642 : decode cL_law 642 = .ok (.istore 5, 2) := by decide +kernel
theorem dL_law_644 : decode cL_law 644 = .ok (.aload_n 2, 1) := by decide +kernel
theorem dL_law_645 : decode cL_law 645 = .ok (.aload_n 0, 1) := by decide +kernel
theorem dL_law_646 : decode cL_law 646 = .ok (.iload 4, 2) := by decide +kernel
theorem dL_law_648 : decode cL_law 648 = .ok (.iconst 1, 1) := by decide +kernel
theorem dL_law_649 : decode cL_law 649 = .ok (.iadd, 1) := by decide +kernel
theorem dL_law_650 : decode cL_law 650 = .ok (.iaload, 1) := by decide +kernel
theorem dL_law_651 : decode cL_law 651 = .ok (.aload_n 0, 1) := by decide +kernel
theorem dL_law_652 : decode cL_law 652 = .ok (.iload 4, 2) := by decide +kernel
theorem dL_law_654 : decode cL_law 654 = .ok (.iconst 2, 1) := by decide +kernel
theorem dL_law_655 : decode cL_law 655 = .ok (.iadd, 1) := by decide +kernel
theorem dL_law_656 : decode cL_law 656 = .ok (.iaload, 1) := by decide +kernel
theorem dL_law_657 : decode cL_law 657 = .ok (.invokevirtual 110, 3) := by decide +kernel
theorem dL_law_660 : decode cL_law 660 = .ok (.istore 6, 2) := by decide +kernel
theorem dL_law_662 : decode cL_law 662 = .ok (.aload_n 2, 1) := by decide +kernel
theorem dL_law_663 : decode cL_law 663 = .ok (.invokevirtual 78, 3) := by decide +kernel
theorem dL_law_666 : decode cL_law 666 = .ok (.iload 5, 2) := by decide +kernel
theorem dL_law_668 : decode cL_law 668 = .ok (.if_icmp .eq 5, 3) := by decide +kernel
theorem dL_law_671 : decode cL_law 671 = .ok (.iconst 0, 1) := by decide +kernel
theorem dL_law_672 : decode cL_law 672 = .ok (.ireturn, 1) := by decide +kernel
theorem dL_law_673 : decode cL_law 673 = .ok (.iload 5, 2) := by decide +kernel
theorem dL_law_675 : decode cL_law 675 = .ok (.ifCond .ne 15, 3) := by decide +kernel
theorem dL_law_678 : decode cL_law 678 = .ok (.aload_n 3, 1) := by decide +kernel
theorem dL_law_679 : decode cL_law 679 = .ok (.iconst 0, 1) := by decide +kernel
theorem dL_law_680 : decode cL_law 680 = .ok (.laload, 1) := by decide +kernel
theorem dL_law_681 : decode cL_law 681 = .ok (.iload 6, 2) := by decide +kernel
theorem dL_law_683 : decode cL_law 683 = .ok (.i2l, 1) := by decide +kernel
theorem dL_law_684 : decode cL_law 684 = .ok (.lcmp, 1) := by decide +kernel
theorem dL_law_685 : decode cL_law 685 = .ok (.ifCond .eq 5, 3) := by decide +kernel
theorem dL_law_688 : decode cL_law 688 = .ok (.iconst 0, 1) := by decide +kernel
theorem dL_law_689 : decode cL_law 689 = .ok (.ireturn, 1) := by decide +kernel
theorem dL_law_690 : decode cL_law 690 = .ok (.goto 279, 3) := by decide +kernel
theorem dL_law_693 : decode cL_law 693 = .ok (.aload_n 1, 1) := by decide +kernel
theorem dL_law_694 : decode cL_law 694 = .ok (.aload_n 0, 1) := by decide +kernel
theorem dL_law_695 : decode cL_law 695 = .ok (.iload 4, 2) := by decide +kernel
theorem dL_law_697 : decode cL_law 697 = .ok (.iconst 1, 1) := by decide +kernel
theorem dL_law_698 : decode cL_law 698 = .ok (.iadd, 1) := by decide +kernel
theorem dL_law_699 : decode cL_law 699 = .ok (.iaload, 1) := by decide +kernel
theorem dL_law_700 : decode cL_law 700 = .ok (.aload_n 0, 1) := by decide +kernel
theorem dL_law_701 : decode cL_law 701 = .ok (.iload 4, 2) := by decide +kernel
theorem dL_law_703 : decode cL_law 703 = .ok (.iconst 2, 1) := by decide +kernel
theorem dL_law_704 : decode cL_law 704 = .ok (.iadd, 1) := by decide +kernel
theorem dL_law_705 : decode cL_law 705 = .ok (.iaload, 1) := by decide +kernel
theorem dL_law_706 : decode cL_law 706 = .ok (.aload_n 3, 1) := by decide +kernel
theorem dL_law_707 : decode cL_law 707 = .ok (.invokestatic 111, 3) := by decide +kernel
theorem dL_law_710 : decode cL_law 710 = .ok (.istore 5, 2) := by decide +kernel
theorem dL_law_712 : decode cL_law 712 = .ok (.aload_n 2, 1) := by decide +kernel
theorem dL_law_713 : decode cL_law 713 = .ok (.aload_n 0, 1) := by decide +kernel
theorem dL_law_714 : decode cL_law 714 = .ok (.iload 4, 2) := by decide +kernel
theorem dL_law_716 : decode cL_law 716 = .ok (.iconst 1, 1) := by decide +kernel
theorem dL_law_717 : decode cL_law 717 = .ok (.iadd, 1) := by decide +kernel
theorem dL_law_718 : decode cL_law 718 = .ok (.iaload, 1) := by decide +kernel
theorem dL_law_719 : decode cL_law 719 = .ok (.aload_n 0, 1) := by decide +kernel
theorem dL_law_720 : decode cL_law 720 = .ok (.iload 4, 2) := by decide +kernel
theorem dL_law_722 : decode cL_law 722 = .ok (.iconst 2, 1) := by decide +kernel
theorem dL_law_723 : decode cL_law 723 = .ok (.iadd, 1) := by decide +kernel
theorem dL_law_724 : decode cL_law 724 = .ok (.iaload, 1) := by decide +kernel
theorem dL_law_725 : decode cL_law 725 = .ok (.invokevirtual 113, 3) := by decide +kernel
theorem dL_law_728 : decode cL_law 728 = .ok (.istore 6, 2) := by decide +kernel
theorem dL_law_730 : decode cL_law 730 = .ok (.aload_n 2, 1) := by decide +kernel
theorem dL_law_731 : decode cL_law 731 = .ok (.invokevirtual 78, 3) := by decide +kernel
theorem dL_law_734 : decode cL_law 734 = .ok (.iload 5, 2) := by decide +kernel
theorem dL_law_736 : decode cL_law 736 = .ok (.if_icmp .eq 5, 3) := by decide +kernel
theorem dL_law_739 : decode cL_law 739 = .ok (.iconst 0, 1) := by decide +kernel
theorem dL_law_740 : decode cL_law 740 = .ok (.ireturn, 1) := by decide +kernel
theorem dL_law_741 : decode cL_law 741 = .ok (.iload 5, 2) := by decide +kernel
theorem dL_law_743 : decode cL_law 743 = .ok (.ifCond .ne 15, 3) := by decide +kernel
theorem dL_law_746 : decode cL_law 746 = .ok (.aload_n 3, 1) := by decide +kernel
theorem dL_law_747 : decode cL_law 747 = .ok (.iconst 0, 1) := by decide +kernel
theorem dL_law_748 : decode cL_law 748 = .ok (.laload, 1) := by decide +kernel
theorem dL_law_749 : decode cL_law 749 = .ok (.iload 6, 2) := by decide +kernel
theorem dL_law_751 : decode cL_law 751 = .ok (.i2l, 1) := by decide +kernel
theorem dL_law_752 : decode cL_law 752 = .ok (.lcmp, 1) := by decide +kernel
theorem dL_law_753 : decode cL_law 753 = .ok (.ifCond .eq 5, 3) := by decide +kernel
theorem dL_law_756 : decode cL_law 756 = .ok (.iconst 0, 1) := by decide +kernel
theorem dL_law_757 : decode cL_law 757 = .ok (.ireturn, 1) := by decide +kernel
theorem dL_law_758 : decode cL_law 758 = .ok (.goto 211, 3) := by decide +kernel
theorem dL_law_761 : decode cL_law 761 = .ok (.aload_n 1, 1) := by decide +kernel
theorem dL_law_762 : decode cL_law 762 = .ok (.invokevirtual 114, 3) := by decide +kernel
theorem dL_law_765 : decode cL_law 765 = .ok (.aload_n 2, 1) := by decide +kernel
theorem dL_law_766 : decode cL_law 766 = .ok (.invokevirtual 117, 3) := by decide +kernel
theorem dL_law_769 : decode cL_law 769 = .ok (.if_icmp .eq 200, 3) := by decide +kernel
theorem dL_law_772 : decode cL_law 772 = .ok (.iconst 0, 1) := by decide +kernel
theorem dL_law_773 : decode cL_law 773 = .ok (.ireturn, 1) := by decide +kernel
theorem dL_law_774 : decode cL_law 774 = .ok (.aload_n 1, 1) := by decide +kernel
theorem dL_law_775 : decode cL_law 775 = .ok (.aload_n 3, 1) := by decide +kernel
theorem dL_law_776 : decode cL_law 776 = .ok (.invokestatic 118, 3) := by decide +kernel
theorem dL_law_779 : decode cL_law 779 = .ok (.istore 5, 2) := by decide +kernel
theorem dL_law_781 : decode cL_law 781 = .ok (.aload_n 2, 1) := by decide +kernel
theorem dL_law_782 : decode cL_law 782 = .ok (.invokevirtual 121, 3) := by decide +kernel
theorem dL_law_785 : decode cL_law 785 = .ok (.istore 6, 2) := by decide +kernel
theorem dL_law_787 : decode cL_law 787 = .ok (.aload_n 2, 1) := by decide +kernel
theorem dL_law_788 : decode cL_law 788 = .ok (.invokevirtual 78, 3) := by decide +kernel
theorem dL_law_791 : decode cL_law 791 = .ok (.iload 5, 2) := by decide +kernel
theorem dL_law_793 : decode cL_law 793 = .ok (.if_icmp .eq 5, 3) := by decide +kernel
theorem dL_law_796 : decode cL_law 796 = .ok (.iconst 0, 1) := by decide +kernel
theorem dL_law_797 : decode cL_law 797 = .ok (.ireturn, 1) := by decide +kernel
theorem dL_law_798 : decode cL_law 798 = .ok (.iload 5, 2) := by decide +kernel
theorem dL_law_800 : decode cL_law 800 = .ok (.ifCond .ne 15, 3) := by decide +kernel
theorem dL_law_803 : decode cL_law 803 = .ok (.aload_n 3, 1) := by decide +kernel
theorem dL_law_804 : decode cL_law 804 = .ok (.iconst 0, 1) := by decide +kernel
theorem dL_law_805 : decode cL_law 805 = .ok (.laload, 1) := by decide +kernel
theorem dL_law_806 : decode cL_law 806 = .ok (.iload 6, 2) := by decide +kernel
theorem dL_law_808 : decode cL_law 808 = .ok (.i2l, 1) := by decide +kernel
theorem dL_law_809 : decode cL_law 809 = .ok (.lcmp, 1) := by decide +kernel
theorem dL_law_810 : decode cL_law 810 = .ok (.ifCond .eq 5, 3) := by decide +kernel
theorem dL_law_813 : decode cL_law 813 = .ok (.iconst 0, 1) := by decide +kernel
theorem dL_law_814 : decode cL_law 814 = .ok (.ireturn, 1) := by decide +kernel
theorem dL_law_815 : decode cL_law 815 = .ok (.goto 154, 3) := by decide +kernel
theorem dL_law_818 : decode cL_law 818 = .ok (.aload_n 1, 1) := by decide +kernel
theorem dL_law_819 : decode cL_law 819 = .ok (.aload_n 3, 1) := by decide +kernel
theorem dL_law_820 : decode cL_law 820 = .ok (.invokestatic 122, 3) := by decide +kernel
theorem dL_law_823 : decode cL_law 823 = .ok (.istore 5, 2) := by decide +kernel
theorem dL_law_825 : decode cL_law 825 = .ok (.aload_n 2, 1) := by decide +kernel
theorem dL_law_826 : decode cL_law 826 = .ok (.invokevirtual 124, 3) := by decide +kernel
theorem dL_law_829 : decode cL_law 829 = .ok (.istore 6, 2) := by decide +kernel
theorem dL_law_831 : decode cL_law 831 = .ok (.aload_n 2, 1) := by decide +kernel
theorem dL_law_832 : decode cL_law 832 = .ok (.invokevirtual 78, 3) := by decide +kernel
theorem dL_law_835 : decode cL_law 835 = .ok (.iload 5, 2) := by decide +kernel
theorem dL_law_837 : decode cL_law 837 = .ok (.if_icmp .eq 5, 3) := by decide +kernel
theorem dL_law_840 : decode cL_law 840 = .ok (.iconst 0, 1) := by decide +kernel
theorem dL_law_841 : decode cL_law 841 = .ok (.ireturn, 1) := by decide +kernel
theorem dL_law_842 : decode cL_law 842 = .ok (.iload 5, 2) := by decide +kernel
theorem dL_law_844 : decode cL_law 844 = .ok (.ifCond .ne 15, 3) := by decide +kernel
theorem dL_law_847 : decode cL_law 847 = .ok (.aload_n 3, 1) := by decide +kernel
theorem dL_law_848 : decode cL_law 848 = .ok (.iconst 0, 1) := by decide +kernel
theorem dL_law_849 : decode cL_law 849 = .ok (.laload, 1) := by decide +kernel
theorem dL_law_850 : decode cL_law 850 = .ok (.iload 6, 2) := by decide +kernel
theorem dL_law_852 : decode cL_law 852 = .ok (.i2l, 1) := by decide +kernel
theorem dL_law_853 : decode cL_law 853 = .ok (.lcmp, 1) := by decide +kernel
theorem dL_law_854 : decode cL_law 854 = .ok (.ifCond .eq 5, 3) := by decide +kernel
theorem dL_law_857 : decode cL_law 857 = .ok (.iconst 0, 1) := by decide +kernel
theorem dL_law_858 : decode cL_law 858 = .ok (.ireturn, 1) := by decide +kernel
theorem dL_law_859 : decode cL_law 859 = .ok (.goto 110, 3) := by decide +kernel
theorem dL_law_862 : decode cL_law 862 = .ok (.aload_n 1, 1) := by decide +kernel
theorem dL_law_863 : decode cL_law 863 = .ok (.aload_n 3, 1) := by decide +kernel
theorem dL_law_864 : decode cL_law 864 = .ok (.invokestatic 125, 3) := by decide +kernel
theorem dL_law_867 : decode cL_law 867 = .ok (.istore 5, 2) := by decide +kernel
theorem dL_law_869 : decode cL_law 869 = .ok (.aload_n 2, 1) := by decide +kernel
theorem dL_law_870 : decode cL_law 870 = .ok (.invokevirtual 127, 3) := by decide +kernel
theorem dL_law_873 : decode cL_law 873 = .ok (.istore 6, 2) := by decide +kernel
theorem dL_law_875 : decode cL_law 875 = .ok (.aload_n 2, 1) := by decide +kernel
theorem dL_law_876 : decode cL_law 876 = .ok (.invokevirtual 78, 3) := by decide +kernel
theorem dL_law_879 : decode cL_law 879 = .ok (.iload 5, 2) := by decide +kernel
theorem dL_law_881 : decode cL_law 881 = .ok (.if_icmp .eq 5, 3) := by decide +kernel
theorem dL_law_884 : decode cL_law 884 = .ok (.iconst 0, 1) := by decide +kernel
theorem dL_law_885 : decode cL_law 885 = .ok (.ireturn, 1) := by decide +kernel
theorem dL_law_886 : decode cL_law 886 = .ok (.iload 5, 2) := by decide +kernel
theorem dL_law_888 : decode cL_law 888 = .ok (.ifCond .ne 22, 3) := by decide +kernel
theorem dL_law_891 : decode cL_law 891 = .ok (.aload_n 3, 1) := by decide +kernel
theorem dL_law_892 : decode cL_law 892 = .ok (.iconst 0, 1) := by decide +kernel
theorem dL_law_893 : decode cL_law 893 = .ok (.laload, 1) := by decide +kernel
theorem dL_law_894 : decode cL_law 894 = .ok (.iload 6, 2) := by decide +kernel
theorem dL_law_896 : decode cL_law 896 = .ok (.ifCond .eq 7, 3) := by decide +kernel
theorem dL_law_899 : decode cL_law 899 = .ok (.lconst 1, 1) := by decide +kernel
theorem dL_law_900 : decode cL_law 900 = .ok (.goto 4, 3) := by decide +kernel
theorem dL_law_903 : decode cL_law 903 = .ok (.lconst 0, 1) := by decide +kernel
theorem dL_law_904 : decode cL_law 904 = .ok (.lcmp, 1) := by decide +kernel
theorem dL_law_905 : decode cL_law 905 = .ok (.ifCond .eq 5, 3) := by decide +kernel
theorem dL_law_908 : decode cL_law 908 = .ok (.iconst 0, 1) := by decide +kernel
theorem dL_law_909 : decode cL_law 909 = .ok (.ireturn, 1) := by decide +kernel
theorem dL_law_910 : decode cL_law 910 = .ok (.goto 59, 3) := by decide +kernel
theorem dL_law_913 : decode cL_law 913 = .ok (.aload_n 1, 1) := by decide +kernel
theorem dL_law_914 : decode cL_law 914 = .ok (.aload_n 0, 1) := by decide +kernel
theorem dL_law_915 : decode cL_law 915 = .ok (.iload 4, 2) := by decide +kernel
theorem dL_law_917 : decode cL_law 917 = .ok (.iconst 1, 1) := by decide +kernel
theorem dL_law_918 : decode cL_law 918 = .ok (.iadd, 1) := by decide +kernel
theorem dL_law_919 : decode cL_law 919 = .ok (.iaload, 1) := by decide +kernel
theorem dL_law_920 : decode cL_law 920 = .ok (.aload_n 3, 1) := by decide +kernel
theorem dL_law_921 : decode cL_law 921 = .ok (.invokestatic 128, 3) := by decide +kernel
theorem dL_law_924 : decode cL_law 924 = .ok (.istore 5, 2) := by decide +kernel
theorem dL_law_926 : decode cL_law 926 = .ok (.aload_n 2, 1) := by decide +kernel
theorem dL_law_927 : decode cL_law 927 = .ok (.aload_n 0, 1) := by decide +kernel
theorem dL_law_928 : decode cL_law 928 = .ok (.iload 4, 2) := by decide +kernel
theorem dL_law_930 : decode cL_law 930 = .ok (.iconst 1, 1) := by decide +kernel
theorem dL_law_931 : decode cL_law 931 = .ok (.iadd, 1) := by decide +kernel
theorem dL_law_932 : decode cL_law 932 = .ok (.iaload, 1) := by decide +kernel
theorem dL_law_933 : decode cL_law 933 = .ok (.invokevirtual 130, 3) := by decide +kernel
theorem dL_law_936 : decode cL_law 936 = .ok (.istore 6, 2) := by decide +kernel
theorem dL_law_938 : decode cL_law 938 = .ok (.aload_n 2, 1) := by decide +kernel
theorem dL_law_939 : decode cL_law 939 = .ok (.invokevirtual 78, 3) := by decide +kernel
theorem dL_law_942 : decode cL_law 942 = .ok (.iload 5, 2) := by decide +kernel
theorem dL_law_944 : decode cL_law 944 = .ok (.if_icmp .eq 5, 3) := by decide +kernel
theorem dL_law_947 : decode cL_law 947 = .ok (.iconst 0, 1) := by decide +kernel
theorem dL_law_948 : decode cL_law 948 = .ok (.ireturn, 1) := by decide +kernel
theorem dL_law_949 : decode cL_law 949 = .ok (.iload 5, 2) := by decide +kernel
theorem dL_law_951 : decode cL_law 951 = .ok (.ifCond .ne 15, 3) := by decide +kernel
theorem dL_law_954 : decode cL_law 954 = .ok (.aload_n 3, 1) := by decide +kernel
theorem dL_law_955 : decode cL_law 955 = .ok (.iconst 0, 1) := by decide +kernel
theorem dL_law_956 : decode cL_law 956 = .ok (.laload, 1) := by decide +kernel
theorem dL_law_957 : decode cL_law 957 = .ok (.iload 6, 2) := by decide +kernel
theorem dL_law_959 : decode cL_law 959 = .ok (.i2l, 1) := by decide +kernel
theorem dL_law_960 : decode cL_law 960 = .ok (.lcmp, 1) := by decide +kernel
theorem dL_law_961 : decode cL_law 961 = .ok (.ifCond .eq 5, 3) := by decide +kernel
theorem dL_law_964 : decode cL_law 964 = .ok (.iconst 0, 1) := by decide +kernel
theorem dL_law_965 : decode cL_law 965 = .ok (.ireturn, 1) := by decide +kernel
theorem dL_law_966 : decode cL_law 966 = .ok (.goto 3, 3) := by decide +kernel
theorem dL_law_969 : decode cL_law 969 = .ok (.iinc 4 4, 3) := by decide +kernel
theorem dL_law_972 : decode cL_law 972 = .ok (.goto (-929), 3) := by decide +kernel
theorem dL_law_975 : decode cL_law 975 = .ok (.iconst 1, 1) := by decide +kernel
theorem dL_law_976 : decode cL_law 976 = .ok (.ireturn, 1) := by decide +kernel
end
section
/-! worlds by roles: a list of cells, the cell of role r at the address ad r with the contents E r -/
abbrev vcl : List vw_C := [(RX0, TX0, 6), (RX1, TX1, 3), (RX2, TX2, 2), (RX3, TX3, 6), (RX4, TX4, 15)]
def bw : List Cond := lw_tbl.filter goodWord
theorem bw_in {w : Cond} (h : w ∈ bw) : w ∈ lw_tbl := (List.mem_filter.mp h).1
theorem bw_good {w : Cond} (h : w ∈ bw) : goodWord w = true := (List.mem_filter.mp h).2
theorem bw_GI {ts l : List Cond} (hts : ∀ w ∈ bw, w ∈ ts) (h : ∀ w ∈ l, w ∈ bw) : GoodIn ts l := fun w hw => ⟨hts w (h w hw), good_of_word (bw_good (h w hw))⟩
def rlw (ad : Nat → Nat) (E : Nat → va_E) (N : Nat) : va_W := (List.range N).map (fun r => (ad r, E r))
theorem rlw_len {ad : Nat → Nat} {E : Nat → va_E} {N : Nat} : (rlw ad E N).length = N := by simp [rlw]
theorem rlw_at {ad : Nat → Nat} {E : Nat → va_E} {N r : Nat} (h : r < N) : (rlw ad E N)[r]? = some (ad r, E r) := by
  simp [rlw, h]
theorem rlw_inv {ad : Nat → Nat} {E : Nat → va_E} {N k : Nat} {q : Nat × va_E} (h : (rlw ad E N)[k]? = some q) : k < N ∧ q = (ad k, E k) := by
  have hk : k < N := by
    have := (List.getElem?_eq_some_iff.mp h).1
    rwa [rlw_len] at this
  rw [rlw_at hk] at h
  exact ⟨hk, (Option.some.inj h).symm⟩
theorem rlw_congr {ad : Nat → Nat} {E E' : Nat → va_E} {N : Nat} (h : ∀ r, r < N → E r = E' r) : rlw ad E N = rlw ad E' N := by
  apply List.map_congr_left
  intro r hr
  rw [h r (List.mem_range.mp hr)]
theorem rlw_set {ad : Nat → Nat} {E : Nat → va_E} {N r : Nat} {e : va_E} (h : r < N) : (rlw ad E N).set r (ad r, e) = rlw ad (va_up E r e) N := by
  apply List.ext_getElem?
  intro k
  by_cases hk : k = r
  · subst hk
    rw [List.getElem?_set_self (by rw [rlw_len]; exact h), rlw_at h, va_up_self]
  · rw [List.getElem?_set_ne (Ne.symm hk)]
    by_cases hN : k < N
    · rw [rlw_at hN, rlw_at hN, va_up_ne _ _ hk]
    · rw [List.getElem?_eq_none (by rw [rlw_len]; omega), List.getElem?_eq_none (by rw [rlw_len]; omega)]
theorem rlw_D {A : Nat → Prop} {ad : Nat → Nat} {E E' : Nat → va_E} {N : Nat} (h : va_D A (rlw ad E N)) : va_D A (rlw ad E' N) := by
  refine ⟨fun i j p q hp hq e => ?_, fun k q hq => ?_⟩
  · obtain ⟨hi, rfl⟩ := rlw_inv hp
    obtain ⟨hj, rfl⟩ := rlw_inv hq
    exact h.1 i j _ _ (rlw_at hi) (rlw_at hj) e
  · obtain ⟨hk, rfl⟩ := rlw_inv hq
    exact (show A (ad k) from h.2 k (ad k, E k) (rlw_at hk))
theorem rlw_A {ad : Nat → Nat} {E E' : Nat → va_E} {N sz q : Nat} (h : va_A (rlw ad E N) sz q) : va_A (rlw ad E' N) sz q := by
  rcases h with ⟨k, e, hk⟩ | h
  · obtain ⟨h1, h2⟩ := rlw_inv hk
    exact Or.inl ⟨k, E' k, by rw [rlw_at h1, (Prod.mk.inj h2).1]⟩
  · exact Or.inr h
/-- what a method may lean on beside its world: kept by warmer tables, by changes within A, by a smaller A -/
def ENok (EN : (Nat → Prop) → State → Heap → Prop) : Prop :=
  (∀ (A : Nat → Prop) (s U : State) (H : Heap), s.WarmedH U.vm → EN A s H → EN A U H) ∧
  (∀ (A : Nat → Prop) (s : State) (H H1 : Heap), EN A s H → (∀ a : Nat, a < H.size → ¬ A a → H1[a]? = H[a]?) → EN A s H1) ∧
  (∀ (A B : Nat → Prop) (s : State) (H : Heap), EN A s H → (∀ q, B q → A q) → EN B s H)
def EN0 : (Nat → Prop) → State → Heap → Prop := fun _ _ _ => True
theorem EN0_ok : ENok EN0 := ⟨fun _ _ _ _ _ _ => trivial, fun _ _ _ _ _ _ => trivial, fun _ _ _ _ _ _ => trivial⟩
/-- the world at a point of a method's walk -/
def WB (D : va_G) (tys : List (ClassId × FieldType)) (EN : (Nat → Prop) → State → Heap → Prop) (ad : Nat → Nat) (N : Nat) (A : Nat → Prop) (s : State) (E : Nat → va_E) (H : Heap) (locs : List Loc) : Prop :=
  va_K D vcl tys s ∧ va_P D vcl (rlw ad E N) H ∧ va_D A (rlw ad E N) ∧ va_S A s.heap H locs ∧ (∀ q, s.heap.size ≤ q → A q) ∧ EN A s s.heap
theorem WB.to {D : va_G} {tys : List (ClassId × FieldType)} {EN : (Nat → Prop) → State → Heap → Prop} {ad : Nat → Nat} {N : Nat} {A : Nat → Prop} {s : State} {E E' : Nat → va_E} {H : Heap} {locs : List Loc}
    (h : WB D tys EN ad N A s E H locs) (he : ∀ r, r < N → E r = E' r) : WB D tys EN ad N A s E' H locs := by
  obtain ⟨h1, h2, h3, h4⟩ := h
  rw [rlw_congr he] at h2 h3
  exact ⟨h1, h2, h3, h4⟩
def QM (D : va_G) (ad : Nat → Nat) (N : Nat) (A : Nat → Prop) (E' : Nat → va_E) (r : Option Value) : Array Value → State → Outcome → State → Prop :=
  fun _ st oc t => oc = .returned r ∧ va_P D vcl (rlw ad E' N) t.heap ∧ va_F A st t
/-- a method's contract: it makes nothing, answers r, and its world goes from E to E' -/
def RM (l : Launch) (y : MethodName) (cc : ByteArray) (nL : Nat) (ret : Option FieldType) (rm : Room) (D : va_G) (tys : List (ClassId × FieldType)) (EN : (Nat → Prop) → State → Heap → Prop) (av : List Value) (ad : Nat → Nat) (N : Nat) (E E' : Nat → va_E) (r : Option Value) : Prop :=
  ∀ sz : Nat, Met l y (.code y cc nL ret :: bw) rm
    (va_Pc av (fun U => U.heap.size = sz ∧ va_P D vcl (rlw ad E N) U.heap ∧ va_K D vcl tys U ∧ va_D (fun _ => True) (rlw ad E N) ∧ EN (va_A (rlw ad E N) sz) U U.heap))
    (QM D ad N (va_A (rlw ad E N) sz) E' r) 0 0 (va_A (rlw ad E N) sz)
theorem RM.of {l : Launch} {y : MethodName} {cc : ByteArray} {nL : Nat} {ret : Option FieldType} {rm : Room} {D : va_G} {tys : List (ClassId × FieldType)} {EN : (Nat → Prop) → State → Heap → Prop} {av : List Value} {ad : Nat → Nat} {N : Nat} {E E' : Nat → va_E} {r : Option Value}
    (hy : plainName y.cls = true) (hle : (lg_sl av).length ≤ nL)
    (body : ∀ (p : Program) (e : Env) (s : State) (m : MethodId) (below : List Frame) (meth : Method) (c : Code) (A : Nat → Prop) (ls : Array Slot) (args : Array Value) (Q0 : State → Prop),
      CallFix p m c cc nL s args bw y.cls → meth.sig.returnType = ret → meth.locks = false → Q0 = MQ below (QM D ad N A E' r) args s 0 0 A → WB D tys EN ad N A s E s.heap [] → lv_has ls nL (lv_args 0 av) →
      W p l e rm s m args below meth c s.heap [] 0 0 Q0 (F0 m 0 ls [])) : RM l y cc nL ret rm D tys EN av ad N E E' r := by
  intro sz
  refine Met.ofW (cc := cc) (maxL := nL) (ret := ret) hy rfl ?_
  intro p e s m args below meth c s₁ B hml hv
  obtain ⟨rfl, hsz, hP, hK, hD0, hEN⟩ := hv
  have hts := atoms_spec (ws := Cond.code y cc nL ret :: bw) B.pre
  have hown : s.vm.findClass y.cls = some m.cls := findClass_of_methodNamed B.named
  subst hsz
  have hl := lv_entry av (n := nL) hle
  rw [lg_entry_eq]
  exact body p e s m below meth c _ _ _ _ ⟨B.exec, B.bytes, hml, hown, fun w hw => hts w (List.mem_cons_of_mem _ hw)⟩ B.returns B.notSynchronized rfl ⟨hK, hP, hD0.self, va_S.rf, fun q h => Or.inr h, hEN⟩ hl
section RB
variable {p : Program} {l : Launch} {e : Env} {R : Room} {s : State} {m : MethodId} {args : Array Value} {below : List Frame} {meth : Method} {c : Code} {H : Heap} {locs : List Loc} {cells slots : Nat} {Q : State → Prop}
variable {cc : ByteArray} {pc nL : Nat} {ls : Array Slot} {rest : List Value} {D : va_G} {A : Nat → Prop} {tys : List (ClassId × FieldType)} {EN : (Nat → Prop) → State → Heap → Prop} {ad : Nat → Nat} {N : Nat} {E E' : Nat → va_E} {own : String}
theorem rb_get (S : CallFix p m c cc nL s args bw own) (wb : WB D tys EN ad N A s E H locs) (r0 : Nat) (hr : r0 < N) {ci : Nat} {fs : List Value} (hE : E r0 = .inr (ci, fs)) {C : String} {T : u_T} {NF : Nat} (hc : vcl[ci]? = some (C, T, NF)) (hin : ∀ w ∈ u_ws C T NF, w ∈ bw) (k : Nat) (hk : k < NF) {index : Nat}
    (hlink : Cond.fieldLink own index (T k).1 (T k).2.1 (T k).2.2.1 ∈ bw) {v : Value} (hv : fs[k]? = some v) (hdg : decode cc pc = .ok (.getfield index, 3))
    (kk : W p l e R s m args below meth c H locs cells slots Q (F0 m (pc + 3) ls (v :: rest))) : W p l e R s m args below meth c H locs cells slots Q (F0 m pc ls (.ref (ad r0) :: rest)) := by
  obtain ⟨hx, hb, -, hown, hts⟩ := S
  exact va_get (D := D) (ci := ci) (C := C) (T := T) (N := NF) hx hb hts hin hown wb.1 wb.2.1 r0 (by rw [rlw_at hr, hE]) hc k hk (hts _ hlink) (fun _ h => h) hv hdg kk
theorem rb_put (S : CallFix p m c cc nL s args bw own) (wb : WB D tys EN ad N A s E H locs) (r0 : Nat) (hr : r0 < N) {ci : Nat} {fs : List Value} (hE : E r0 = .inr (ci, fs)) {C : String} {T : u_T} {NF : Nat} (hc : vcl[ci]? = some (C, T, NF)) (hin : ∀ w ∈ u_ws C T NF, w ∈ bw) (ty0 : Nat → FieldType)
    (hty : ∀ k, k < NF → parseFieldDescriptor (T k).2.2.1 = some (ty0 k)) (hnm : ∀ a, a < NF → ∀ b, b < NF → a ≠ b → (T a).2.1 ≠ (T b).2.1) (k : Nat) (hk : k < NF) {index : Nat}
    (hlink : Cond.fieldLink own index (T k).1 (T k).2.1 (T k).2.2.1 ∈ bw) (hfin : (T k).2.2.2 = false) {v : Value} (hn : narrow (ty0 k) v = v) (hfit : fits (ty0 k) v = true) (hl : k < fs.length) (hE' : ∀ q, q < N → va_up E r0 (.inr (ci, fs.set k v)) q = E' q) (hdg : decode cc pc = .ok (.putfield index, 3))
    (kk : ∀ (H1 : Heap) (locs1 : List Loc), WB D tys EN ad N A s E' H1 locs1 → W p l e R s m args below meth c H1 locs1 cells slots Q (F0 m (pc + 3) ls rest)) : W p l e R s m args below meth c H locs cells slots Q (F0 m pc ls (v :: .ref (ad r0) :: rest)) := by
  obtain ⟨hx, hb, -, hown, hts⟩ := S
  obtain ⟨hK, hP, hD, hS, hA, hEN⟩ := wb
  refine va_put (D := D) (ci := ci) (C := C) (T := T) (N := NF) (ty := ty0 k) hx hb hts hin ty0 hty hnm hown hK hP hD hS r0 (by rw [rlw_at hr, hE]) hc k hk (hts _ hlink) (fun _ h => h) hfin (hty k hk) hn hfit hl hdg (fun H1 locs1 h1 h2 h3 => ?_)
  rw [rlw_set hr, rlw_congr hE'] at h1 h2
  exact kk H1 locs1 ⟨hK, h1, h2, h3, hA, hEN⟩
theorem rb_ald (S : CallFix p m c cc nL s args bw own) (wb : WB D tys EN ad N A s E H locs) (r0 : Nat) (hr : r0 < N) {cA : ClassId} {n : Nat} {f : Nat → Int32} (hE : E r0 = .inl (cA, n, .inl f)) (t0 : Nat) (ht : tys[t0]? = some (cA, .int)) (j : Nat) (hj : j < n) (hn : n < 2 ^ 31) {x : Int32} (hxv : f j = x) (hdg : decode cc pc = .ok (.iaload, 1))
    (kk : W p l e R s m args below meth c H locs cells slots Q (F0 m (pc + 1) ls (.int x :: rest))) : W p l e R s m args below meth c H locs cells slots Q (F0 m pc ls (.int (nI j) :: .ref (ad r0) :: rest)) := by
  obtain ⟨hx, hb, -, hown, hts⟩ := S
  refine va_iald (D := D) hx hb wb.1 wb.2.1 r0 t0 (by rw [rlw_at hr, hE]) ht (vp_in_nI hj hn) hdg ?_
  rw [nI_clamp (by omega), hxv]
  exact kk
theorem rb_ast (S : CallFix p m c cc nL s args bw own) (wb : WB D tys EN ad N A s E H locs) (r0 : Nat) (hr : r0 < N) {cA : ClassId} {n : Nat} {f : Nat → Int32} (hE : E r0 = .inl (cA, n, .inl f)) (t0 : Nat) (ht : tys[t0]? = some (cA, .int)) (j : Nat) (hj : j < n) (hn : n < 2 ^ 31) {x : Int32} (hE' : ∀ q, q < N → va_up E r0 (.inl (cA, n, .inl (upd f j x))) q = E' q) (hdg : decode cc pc = .ok (.iastore, 1))
    (kk : ∀ (H1 : Heap) (locs1 : List Loc), WB D tys EN ad N A s E' H1 locs1 → W p l e R s m args below meth c H1 locs1 cells slots Q (F0 m (pc + 1) ls rest)) : W p l e R s m args below meth c H locs cells slots Q (F0 m pc ls (.int x :: .int (nI j) :: .ref (ad r0) :: rest)) := by
  obtain ⟨hx, hb, -, hown, hts⟩ := S
  obtain ⟨hK, hP, hD, hS, hA, hEN⟩ := wb
  refine va_iast (D := D) hx hb hK hP hD hS r0 t0 (by rw [rlw_at hr, hE]) ht (vp_in_nI hj hn) hdg (fun H1 locs1 h1 h2 h3 => ?_)
  rw [nI_clamp (by omega), rlw_set hr, rlw_congr hE'] at h1 h2
  exact kk H1 locs1 ⟨hK, h1, h2, h3, hA, hEN⟩
theorem rb_recv (wb : WB D tys EN ad N A s E H locs) (r0 : Nat) (hr : r0 < N) {ci : Nat} {fs : List Value} (hE : E r0 = .inr (ci, fs)) {q : vw_C} (hc : vcl[ci]? = some q) : ∃ cell : Cell, H[ad r0]? = some cell ∧ cell.vm.isStatics = false ∧ s.vm.findClass q.1 = some cell.cls :=
  va_recv wb.1 wb.2.1 hc (by rw [rlw_at hr, hE])
/-- how a callee's contract is met at a call, and what holds behind it -/
theorem rb_pre (wb : WB D tys EN ad N A s E H locs) (hok : ENok EN) (av : List Value) :
    FrameBlind (va_Pc av (fun U => U.heap.size = H.size ∧ va_P D vcl (rlw ad E N) U.heap ∧ va_K D vcl tys U ∧ va_D (fun _ => True) (rlw ad E N) ∧ EN (va_A (rlw ad E N) H.size) U U.heap)) ∧
    ∀ U : State, U.heap = H → s.WarmedH U.vm → va_Pc av (fun U => U.heap.size = H.size ∧ va_P D vcl (rlw ad E N) U.heap ∧ va_K D vcl tys U ∧ va_D (fun _ => True) (rlw ad E N) ∧ EN (va_A (rlw ad E N) H.size) U U.heap) av.toArray U := by
  obtain ⟨hK, hP, hD, hS, hA, hEN⟩ := wb
  refine ⟨fun a U g mk q => ?_, fun U hU hW => ?_⟩
  · obtain ⟨q0, q1, qP, qK, qD, qE⟩ := q
    exact ⟨q0, q1, qP, va_K.moved (u := U) (U := U.calling g mk a) (Vm.Alike.refl U.vm) qK, qD, hok.1 _ U (U.calling g mk a) _ (State.WarmedH.refl U) qE⟩
  · refine ⟨rfl, by rw [hU], by rw [hU]; exact hP, va_K.moved hW.alike hK, hD.weaken (fun _ _ _ _ => trivial), ?_⟩
    rw [hU]
    refine hok.1 _ s U _ hW (hok.2.2 A _ s H (hok.2.1 A s s.heap H hEN hS.2.1) ?_)
    intro q h
    rcases h with ⟨k, e9, hk⟩ | h
    · exact hD.2 k _ hk
    · exact hA q (Nat.le_trans hS.1 h)
theorem rb_back (wb : WB D tys EN ad N A s E H locs) {r : Option Value} {g : JFrame} {st0 : List Value}
    (hr : va_Run p l e R s m args below meth c H locs cells slots 0 0 (F0 m pc ls st0) rest (QM D ad N (va_A (rlw ad E N) H.size) E' r #[]) (va_A (rlw ad E N) H.size))
    (kk : ∀ (H1 : Heap) (locs1 : List Loc), WB D tys EN ad N A s E' H1 locs1 → W p l e R s m args below meth c H1 locs1 cells slots Q (F0 m (pc + 3) ls (r.toList ++ rest))) : W p l e R s m args below meth c H locs cells slots Q (F0 m pc ls st0) := by
  obtain ⟨hK, hP, hD, hS, hA, hEN⟩ := wb
  have hF : ∀ q, va_A (rlw ad E N) H.size q → A q := by
    intro q h
    rcases h with ⟨k, e9, hk⟩ | h
    · exact hD.2 k _ hk
    · exact hA q (Nat.le_trans hS.1 h)
  intro T hT X
  obtain ⟨v, st₀, t, T', L, h0, X', hL, e1, e2, ⟨hv, hP1, hz, hk⟩, st⟩ := hr T hT X
  cases hv
  rw [h0] at hz hk
  obtain ⟨t2, a1, b1⟩ := kk T'.heap (locs ++ L) ⟨hK, by rw [e1]; exact hP1, rlw_D hD, ⟨Nat.le_trans hS.1 (by rw [e1]; exact hz), fun q h1 h2 => by rw [e1, hk q (Nat.lt_of_lt_of_le h1 hS.1) (fun z => h2 (hF q z))]; exact hS.2.1 q h1 h2, fun q hq => by
      rcases List.mem_append.mp hq with h | h
      · exact hS.2.2 q h
      · exact hF _ (hL q h)⟩, hA, hEN⟩ T' rfl X'
  exact ⟨t2, st t2 a1, b1⟩
/-- invokevirtual of a method of the receiver's own class -/
theorem rb_callV (S : CallFix p m c cc nL s args bw own) (wb : WB D tys EN ad N A s E H locs) (hok : ENok EN) {y : MethodName} {cc2 : ByteArray} {nL2 : Nat} {ret2 : Option FieldType} {rm2 : Room} {b : Nat} {As : List Value} {r : Option Value} {index na : Nat}
    (hM : RM l y cc2 nL2 ret2 rm2 D tys EN (.ref b :: As) ad N E E' r) (hwd : ∀ w ∈ ([.methodLink own index y, .instanceMethod y, .selects y.cls y y, .initialized y.cls, .code y cc2 nL2 ret2] : List Cond), w ∈ bw)
    (hrecv : ∃ cell : Cell, H[b]? = some cell ∧ cell.vm.isStatics = false ∧ s.vm.findClass y.cls = some cell.cls) (hd : y.cls = y.cls ∧ y.cls ≠ "java/lang/invoke/MethodHandle" ∧ y.cls ≠ "java/lang/invoke/VarHandle" ∧ (parseMethodDescriptor y.desc).map (fun d => d.parameters.length) = some na) (hna : As.length = na)
    (hz : rm2.cells = 0 ∧ rm2.slots = 0) (hR : rm2.frames + 1 ≤ R.frames ∧ 8 + (nL2 + 11) + rm2.locals ≤ R.locals) (hsize : ls.size = nL) (hroom : (rest.map fun v => v.category).sum ≤ 8) (hcs : cells ≤ R.cells ∧ slots ≤ R.slots) {st0 st1 : List Value} (hst : st0 = As.reverse ++ .ref b :: rest) (hst1 : r.toList ++ rest = st1) (hdg : decode cc pc = .ok (.invokevirtual index, 3))
    (kk : ∀ (H1 : Heap) (locs1 : List Loc), WB D tys EN ad N A s E' H1 locs1 → W p l e R s m args below meth c H1 locs1 cells slots Q (F0 m (pc + 3) ls st1)) : W p l e R s m args below meth c H locs cells slots Q (F0 m pc ls st0) := by
  subst hst; subst hst1; subst hna
  refine rb_back wb (g := F0 m pc ls []) (va_runV (As := As) (rest := rest) (n := As.length) (C := y.cls) (b := b) (bytes := cc2) (maxL := nL2) (ret := ret2) (index := index) S (hM H.size) (cwV As.length S.2.2.2.2 (bw_GI (fun _ h => h) ?_) rfl hz.1 hz.2 hd hR) ⟨(rb_pre wb hok _).1, hrecv, (rb_pre wb hok _).2⟩ rfl rfl hsize rfl (lv_room hroom) hdg hcs) kk
  intro w hw
  unfold wsV at hw
  rcases List.mem_append.mp hw with h | h
  · exact hwd w (by simp only [List.mem_cons, List.not_mem_nil, or_false] at h ⊢; rcases h with h | h | h | h <;> simp [h])
  · rcases List.mem_cons.mp h with h | h
    · exact hwd w (by rw [h]; simp)
    · exact h
theorem rb_iret {v v' : Int32} {Q0 : State → Prop} (hS : CallFix p m c cc nL s args bw own) (hr : meth.sig.returnType = some .int) (hlocks : meth.locks = false) (hQ : Q0 = MQ below (QM D ad N A E' (some (.int v'))) args s 0 0 A) (hv : v' = v) (wb : WB D tys EN ad N A s E H locs) (he : ∀ q, q < N → E q = E' q) (hdg : decode cc pc = .ok (.ireturn, 1)) :
    W p l e R s m args below meth c H locs 0 0 Q0 (F0 m pc ls [.int v]) := by
  subst hQ; subst hv
  obtain ⟨-, hP, -, hSS, -, -⟩ := wb.to he
  exact W.iret hS.1 hS.2.1 hr (fun t ht hW => ⟨rfl, by rw [ht]; exact hP, hSS.F ht⟩) hSS.2.2 hdg hlocks
theorem rb_zret {v v' : Int32} {Q0 : State → Prop} (hS : CallFix p m c cc nL s args bw own) (hr : meth.sig.returnType = some .boolean) (hlocks : meth.locks = false) (hQ : Q0 = MQ below (QM D ad N A E' (some (.int v'))) args s 0 0 A) (hv : v' = v) (hb1 : v = 0 ∨ v = 1) (wb : WB D tys EN ad N A s E H locs) (he : ∀ q, q < N → E q = E' q) (hdg : decode cc pc = .ok (.ireturn, 1)) :
    W p l e R s m args below meth c H locs 0 0 Q0 (F0 m pc ls [.int v]) := by
  subst hQ; subst hv
  obtain ⟨-, hP, -, hSS, -, -⟩ := wb.to he
  exact W.zret hS.1 hS.2.1 hr (by rcases hb1 with h | h <;> rw [h] <;> rfl) (fun t ht hW => ⟨rfl, by rw [ht]; exact hP, hSS.F ht⟩) hSS.2.2 hdg hlocks
theorem rb_vret {Q0 : State → Prop} (hS : CallFix p m c cc nL s args bw own) (hr : meth.sig.returnType = none) (hlocks : meth.locks = false) (hQ : Q0 = MQ below (QM D ad N A E' none) args s 0 0 A) (wb : WB D tys EN ad N A s E H locs) (he : ∀ q, q < N → E q = E' q) (hdg : decode cc pc = .ok (.return_, 1)) :
    W p l e R s m args below meth c H locs 0 0 Q0 (F0 m pc ls []) := by
  subst hQ
  obtain ⟨-, hP, -, hSS, -, -⟩ := wb.to he
  exact W.vret hS.1 hS.2.1 hr (fun t ht hW => ⟨rfl, by rw [ht]; exact hP, hSS.F ht⟩) hSS.2.2 hdg hlocks
/-- the top of the stack by another name -/
theorem nb_ren {x y : Int32} (h : x = y) (kk : W p l e R s m args below meth c H locs cells slots Q (F0 m pc ls (.int y :: rest))) : W p l e R s m args below meth c H locs cells slots Q (F0 m pc ls (.int x :: rest)) := h ▸ kk
theorem nb_icmp_ge (hexec : p.tables.exec = Jvm.exec) (hb : c.code = cc) {a b : Nat} {off : Int} {tgt : Nat} (hdg : decode cc pc = .ok (.if_icmp .ge off, 3)) (ht : (pc : Int) + off = (tgt : Int)) (ha : a < 2 ^ 31) (hb2 : b < 2 ^ 31)
    (kt : b ≤ a → W p l e R s m args below meth c H locs cells slots Q (F0 m tgt ls rest)) (kf : a < b → W p l e R s m args below meth c H locs cells slots Q (F0 m (pc + 3) ls rest)) : W p l e R s m args below meth c H locs cells slots Q (F0 m pc ls (.int (nI b) :: .int (nI a) :: rest)) :=
  lv_icmp_ge hexec hb hdg ht (fun h => kt ((nI_leI hb2 ha).mp h)) (fun h => kf (Nat.lt_of_not_le fun q => h ((nI_leI hb2 ha).mpr q)))
theorem nb_icmp_lt (hexec : p.tables.exec = Jvm.exec) (hb : c.code = cc) {a b : Nat} {off : Int} {tgt : Nat} (hdg : decode cc pc = .ok (.if_icmp .lt off, 3)) (ht : (pc : Int) + off = (tgt : Int)) (ha : a < 2 ^ 31) (hb2 : b < 2 ^ 31)
    (kt : a < b → W p l e R s m args below meth c H locs cells slots Q (F0 m tgt ls rest)) (kf : b ≤ a → W p l e R s m args below meth c H locs cells slots Q (F0 m (pc + 3) ls rest)) : W p l e R s m args below meth c H locs cells slots Q (F0 m pc ls (.int (nI b) :: .int (nI a) :: rest)) :=
  lv_icmp_lt hexec hb hdg ht (fun h => kt ((nI_ltI ha hb2).mp h)) (fun h => kf (Nat.le_of_not_lt fun q => h ((nI_ltI ha hb2).mpr q)))
theorem nb_icmp_gt (hexec : p.tables.exec = Jvm.exec) (hb : c.code = cc) {a b : Nat} {off : Int} {tgt : Nat} (hdg : decode cc pc = .ok (.if_icmp .gt off, 3)) (ht : (pc : Int) + off = (tgt : Int)) (ha : a < 2 ^ 31) (hb2 : b < 2 ^ 31)
    (kt : b < a → W p l e R s m args below meth c H locs cells slots Q (F0 m tgt ls rest)) (kf : a ≤ b → W p l e R s m args below meth c H locs cells slots Q (F0 m (pc + 3) ls rest)) : W p l e R s m args below meth c H locs cells slots Q (F0 m pc ls (.int (nI b) :: .int (nI a) :: rest)) :=
  lv_icmp_gt hexec hb hdg ht (fun h => kt ((nI_ltI hb2 ha).mp h)) (fun h => kf (Nat.le_of_not_lt fun q => h ((nI_ltI hb2 ha).mpr q)))
theorem nb_icmp_le (hexec : p.tables.exec = Jvm.exec) (hb : c.code = cc) {a b : Nat} {off : Int} {tgt : Nat} (hdg : decode cc pc = .ok (.if_icmp .le off, 3)) (ht : (pc : Int) + off = (tgt : Int)) (ha : a < 2 ^ 31) (hb2 : b < 2 ^ 31)
    (kt : a ≤ b → W p l e R s m args below meth c H locs cells slots Q (F0 m tgt ls rest)) (kf : b < a → W p l e R s m args below meth c H locs cells slots Q (F0 m (pc + 3) ls rest)) : W p l e R s m args below meth c H locs cells slots Q (F0 m pc ls (.int (nI b) :: .int (nI a) :: rest)) :=
  lv_icmp_le hexec hb hdg ht (fun h => kt ((nI_leI ha hb2).mp h)) (fun h => kf (Nat.lt_of_not_le fun q => h ((nI_leI ha hb2).mpr q)))
theorem nb_icmp_eq (hexec : p.tables.exec = Jvm.exec) (hb : c.code = cc) {a b : Nat} {off : Int} {tgt : Nat} (hdg : decode cc pc = .ok (.if_icmp .eq off, 3)) (ht : (pc : Int) + off = (tgt : Int)) (ha : a < 2 ^ 31) (hb2 : b < 2 ^ 31)
    (kt : a = b → W p l e R s m args below meth c H locs cells slots Q (F0 m tgt ls rest)) (kf : a ≠ b → W p l e R s m args below meth c H locs cells slots Q (F0 m (pc + 3) ls rest)) : W p l e R s m args below meth c H locs cells slots Q (F0 m pc ls (.int (nI b) :: .int (nI a) :: rest)) :=
  lv_icmp_eq hexec hb hdg ht (fun h => kt ((nI_eq ha hb2).mp h)) (fun h => kf (fun q => h ((nI_eq ha hb2).mpr q)))
theorem nb_icmp_ne (hexec : p.tables.exec = Jvm.exec) (hb : c.code = cc) {a b : Nat} {off : Int} {tgt : Nat} (hdg : decode cc pc = .ok (.if_icmp .ne off, 3)) (ht : (pc : Int) + off = (tgt : Int)) (ha : a < 2 ^ 31) (hb2 : b < 2 ^ 31)
    (kt : a ≠ b → W p l e R s m args below meth c H locs cells slots Q (F0 m tgt ls rest)) (kf : a = b → W p l e R s m args below meth c H locs cells slots Q (F0 m (pc + 3) ls rest)) : W p l e R s m args below meth c H locs cells slots Q (F0 m pc ls (.int (nI b) :: .int (nI a) :: rest)) :=
  lv_icmp_ne hexec hb hdg ht (fun h => kt (fun q => h ((nI_eq ha hb2).mpr q))) (fun h => kf ((nI_eq ha hb2).mp h))
end RB
theorem nI_s1 (j : Nat) : nI j + Int32.ofInt 1 = nI (j + 1) := nI_1 j
theorem i6_mul (a : Nat) : (6 : Int32) * nI a = nI (6 * a) := pk_mul 6 a
theorem i5_mul (a : Nat) : (5 : Int32) * nI a = nI (5 * a) := pk_mul 5 a
end
section
/-! words of the tables that methods lean on -/
theorem bw_0 : Cond.selects "LetterAuction$Desk" ({ cls := "LetterAuction$Desk", name := "has", desc := "(II)Z" } : MethodName) ({ cls := "LetterAuction$Desk", name := "has", desc := "(II)Z" } : MethodName) ∈ bw := List.mem_filter.mpr ⟨List.mem_of_getElem? (i := 0) (by decide +kernel), by decide +kernel⟩
theorem bw_1 : Cond.selects "LetterAuction" ({ cls := "LetterAuction", name := "isIndex", desc := "(I)Z" } : MethodName) ({ cls := "LetterAuction", name := "isIndex", desc := "(I)Z" } : MethodName) ∈ bw := List.mem_filter.mpr ⟨List.mem_of_getElem? (i := 1) (by decide +kernel), by decide +kernel⟩
theorem bw_2 : Cond.selects "java/lang/Throwable" ({ cls := "java/lang/Throwable", name := "fillInStackTrace", desc := "(I)Ljava/lang/Throwable;" } : MethodName) ({ cls := "java/lang/Throwable", name := "fillInStackTrace", desc := "(I)Ljava/lang/Throwable;" } : MethodName) ∈ bw := List.mem_filter.mpr ⟨List.mem_of_getElem? (i := 2) (by decide +kernel), by decide +kernel⟩
theorem bw_3 : Cond.selects "LetterAuction" ({ cls := "LetterAuction", name := "isDone", desc := "()Z" } : MethodName) ({ cls := "LetterAuction", name := "isDone", desc := "()Z" } : MethodName) ∈ bw := List.mem_filter.mpr ⟨List.mem_of_getElem? (i := 3) (by decide +kernel), by decide +kernel⟩
theorem bw_4 : Cond.selects "LetterAuction$Post" ({ cls := "LetterAuction$Post", name := "clear", desc := "()V" } : MethodName) ({ cls := "LetterAuction$Post", name := "clear", desc := "()V" } : MethodName) ∈ bw := List.mem_filter.mpr ⟨List.mem_of_getElem? (i := 4) (by decide +kernel), by decide +kernel⟩
theorem bw_5 : Cond.selects "LetterAuction$Desk" ({ cls := "LetterAuction$Desk", name := "dismiss", desc := "()V" } : MethodName) ({ cls := "LetterAuction$Desk", name := "dismiss", desc := "()V" } : MethodName) ∈ bw := List.mem_filter.mpr ⟨List.mem_of_getElem? (i := 5) (by decide +kernel), by decide +kernel⟩
theorem bw_6 : Cond.selects "LetterAuction$Crew" ({ cls := "LetterAuction$Crew", name := "release", desc := "()V" } : MethodName) ({ cls := "LetterAuction$Crew", name := "release", desc := "()V" } : MethodName) ∈ bw := List.mem_filter.mpr ⟨List.mem_of_getElem? (i := 6) (by decide +kernel), by decide +kernel⟩
theorem bw_7 : Cond.selects "LetterAuction$Crew" ({ cls := "LetterAuction$Crew", name := "chooseBid", desc := "(I)V" } : MethodName) ({ cls := "LetterAuction$Crew", name := "chooseBid", desc := "(I)V" } : MethodName) ∈ bw := List.mem_filter.mpr ⟨List.mem_of_getElem? (i := 7) (by decide +kernel), by decide +kernel⟩
theorem bw_8 : Cond.selects "LetterAuction$Crew" ({ cls := "LetterAuction$Crew", name := "bestJobBut", desc := "(I)I" } : MethodName) ({ cls := "LetterAuction$Crew", name := "bestJobBut", desc := "(I)I" } : MethodName) ∈ bw := List.mem_filter.mpr ⟨List.mem_of_getElem? (i := 8) (by decide +kernel), by decide +kernel⟩
theorem bw_9 : Cond.selects "LetterAuction$Crew" ({ cls := "LetterAuction$Crew", name := "valueOf", desc := "(I)I" } : MethodName) ({ cls := "LetterAuction$Crew", name := "valueOf", desc := "(I)I" } : MethodName) ∈ bw := List.mem_filter.mpr ⟨List.mem_of_getElem? (i := 9) (by decide +kernel), by decide +kernel⟩
theorem bw_10 : Cond.selects "LetterAuction$Crew" ({ cls := "LetterAuction$Crew", name := "scaledWorth", desc := "(I)I" } : MethodName) ({ cls := "LetterAuction$Crew", name := "scaledWorth", desc := "(I)I" } : MethodName) ∈ bw := List.mem_filter.mpr ⟨List.mem_of_getElem? (i := 10) (by decide +kernel), by decide +kernel⟩
theorem bw_11 : Cond.selects "LetterAuction" ({ cls := "LetterAuction", name := "sendBid", desc := "(I)V" } : MethodName) ({ cls := "LetterAuction", name := "sendBid", desc := "(I)V" } : MethodName) ∈ bw := List.mem_filter.mpr ⟨List.mem_of_getElem? (i := 11) (by decide +kernel), by decide +kernel⟩
theorem bw_12 : Cond.selects "LetterAuction$Post" ({ cls := "LetterAuction$Post", name := "add", desc := "(IIIII)V" } : MethodName) ({ cls := "LetterAuction$Post", name := "add", desc := "(IIIII)V" } : MethodName) ∈ bw := List.mem_filter.mpr ⟨List.mem_of_getElem? (i := 12) (by decide +kernel), by decide +kernel⟩
theorem bw_13 : Cond.selects "LetterAuction" ({ cls := "LetterAuction", name := "requireLetter", desc := "(I)V" } : MethodName) ({ cls := "LetterAuction", name := "requireLetter", desc := "(I)V" } : MethodName) ∈ bw := List.mem_filter.mpr ⟨List.mem_of_getElem? (i := 13) (by decide +kernel), by decide +kernel⟩
theorem bw_14 : Cond.selects "LetterAuction$Post" ({ cls := "LetterAuction$Post", name := "part", desc := "(II)I" } : MethodName) ({ cls := "LetterAuction$Post", name := "part", desc := "(II)I" } : MethodName) ∈ bw := List.mem_filter.mpr ⟨List.mem_of_getElem? (i := 14) (by decide +kernel), by decide +kernel⟩
theorem bw_15 : Cond.selects "LetterAuction$Post" ({ cls := "LetterAuction$Post", name := "remove", desc := "(I)V" } : MethodName) ({ cls := "LetterAuction$Post", name := "remove", desc := "(I)V" } : MethodName) ∈ bw := List.mem_filter.mpr ⟨List.mem_of_getElem? (i := 15) (by decide +kernel), by decide +kernel⟩
theorem bw_16 : Cond.selects "LetterAuction" ({ cls := "LetterAuction", name := "receiveBid", desc := "(IIII)V" } : MethodName) ({ cls := "LetterAuction", name := "receiveBid", desc := "(IIII)V" } : MethodName) ∈ bw := List.mem_filter.mpr ⟨List.mem_of_getElem? (i := 16) (by decide +kernel), by decide +kernel⟩
theorem bw_17 : Cond.selects "LetterAuction" ({ cls := "LetterAuction", name := "sendAnswer", desc := "(IIII)V" } : MethodName) ({ cls := "LetterAuction", name := "sendAnswer", desc := "(IIII)V" } : MethodName) ∈ bw := List.mem_filter.mpr ⟨List.mem_of_getElem? (i := 17) (by decide +kernel), by decide +kernel⟩
theorem bw_18 : Cond.selects "LetterAuction$Crew" ({ cls := "LetterAuction$Crew", name := "learn", desc := "(II)V" } : MethodName) ({ cls := "LetterAuction$Crew", name := "learn", desc := "(II)V" } : MethodName) ∈ bw := List.mem_filter.mpr ⟨List.mem_of_getElem? (i := 18) (by decide +kernel), by decide +kernel⟩
theorem bw_19 : Cond.selects "LetterAuction$Crew" ({ cls := "LetterAuction$Crew", name := "hear", desc := "(II)V" } : MethodName) ({ cls := "LetterAuction$Crew", name := "hear", desc := "(II)V" } : MethodName) ∈ bw := List.mem_filter.mpr ⟨List.mem_of_getElem? (i := 19) (by decide +kernel), by decide +kernel⟩
theorem bw_20 : Cond.selects "LetterAuction" ({ cls := "LetterAuction", name := "profitOf", desc := "(LLetterAuction$Crew;)I" } : MethodName) ({ cls := "LetterAuction", name := "profitOf", desc := "(LLetterAuction$Crew;)I" } : MethodName) ∈ bw := List.mem_filter.mpr ⟨List.mem_of_getElem? (i := 20) (by decide +kernel), by decide +kernel⟩
theorem bw_21 : Cond.selects "LetterAuctionModel" ({ cls := "LetterAuctionModel", name := "clean", desc := "()V" } : MethodName) ({ cls := "LetterAuctionModel", name := "clean", desc := "()V" } : MethodName) ∈ bw := List.mem_filter.mpr ⟨List.mem_of_getElem? (i := 21) (by decide +kernel), by decide +kernel⟩
theorem bw_22 : Cond.selects "LetterAuctionModel" ({ cls := "LetterAuctionModel", name := "isSettled", desc := "()Z" } : MethodName) ({ cls := "LetterAuctionModel", name := "isSettled", desc := "()Z" } : MethodName) ∈ bw := List.mem_filter.mpr ⟨List.mem_of_getElem? (i := 22) (by decide +kernel), by decide +kernel⟩
theorem bw_23 : Cond.selects "LetterAuctionModel" ({ cls := "LetterAuctionModel", name := "no", desc := "(I)Z" } : MethodName) ({ cls := "LetterAuctionModel", name := "no", desc := "(I)Z" } : MethodName) ∈ bw := List.mem_filter.mpr ⟨List.mem_of_getElem? (i := 23) (by decide +kernel), by decide +kernel⟩
theorem bw_24 : Cond.selects "LetterAuctionModel" ({ cls := "LetterAuctionModel", name := "valueOf", desc := "(II)I" } : MethodName) ({ cls := "LetterAuctionModel", name := "valueOf", desc := "(II)I" } : MethodName) ∈ bw := List.mem_filter.mpr ⟨List.mem_of_getElem? (i := 24) (by decide +kernel), by decide +kernel⟩
theorem bw_25 : Cond.selects "LetterAuctionModel" ({ cls := "LetterAuctionModel", name := "send", desc := "(IIIII)V" } : MethodName) ({ cls := "LetterAuctionModel", name := "send", desc := "(IIIII)V" } : MethodName) ∈ bw := List.mem_filter.mpr ⟨List.mem_of_getElem? (i := 25) (by decide +kernel), by decide +kernel⟩
theorem bw_26 : Cond.selects "LetterAuctionModel" ({ cls := "LetterAuctionModel", name := "noLetter", desc := "(I)Z" } : MethodName) ({ cls := "LetterAuctionModel", name := "noLetter", desc := "(I)Z" } : MethodName) ∈ bw := List.mem_filter.mpr ⟨List.mem_of_getElem? (i := 26) (by decide +kernel), by decide +kernel⟩
theorem bw_27 : Cond.selects "LetterAuctionModel" ({ cls := "LetterAuctionModel", name := "drop", desc := "(I)V" } : MethodName) ({ cls := "LetterAuctionModel", name := "drop", desc := "(I)V" } : MethodName) ∈ bw := List.mem_filter.mpr ⟨List.mem_of_getElem? (i := 27) (by decide +kernel), by decide +kernel⟩
theorem bw_28 : Cond.selects "LetterAuctionModel" ({ cls := "LetterAuctionModel", name := "bidComes", desc := "(IIII)V" } : MethodName) ({ cls := "LetterAuctionModel", name := "bidComes", desc := "(IIII)V" } : MethodName) ∈ bw := List.mem_filter.mpr ⟨List.mem_of_getElem? (i := 28) (by decide +kernel), by decide +kernel⟩
theorem bw_29 : Cond.selects "LetterAuctionModel" ({ cls := "LetterAuctionModel", name := "answerComes", desc := "(IIIII)V" } : MethodName) ({ cls := "LetterAuctionModel", name := "answerComes", desc := "(IIIII)V" } : MethodName) ∈ bw := List.mem_filter.mpr ⟨List.mem_of_getElem? (i := 29) (by decide +kernel), by decide +kernel⟩
theorem bw_30 : Cond.selects "LetterAuctionModel" ({ cls := "LetterAuctionModel", name := "profitOf", desc := "(I)I" } : MethodName) ({ cls := "LetterAuctionModel", name := "profitOf", desc := "(I)I" } : MethodName) ∈ bw := List.mem_filter.mpr ⟨List.mem_of_getElem? (i := 30) (by decide +kernel), by decide +kernel⟩
theorem bw_31 : Cond.initialized "LetterAuctionLaw" ∈ bw := List.mem_filter.mpr ⟨List.mem_of_getElem? (i := 31) (by decide +kernel), by decide +kernel⟩
theorem bw_32 : Cond.initialized "LetterAuction" ∈ bw := List.mem_filter.mpr ⟨List.mem_of_getElem? (i := 32) (by decide +kernel), by decide +kernel⟩
theorem bw_33 : Cond.initialized "java/lang/Math" ∈ bw := List.mem_filter.mpr ⟨List.mem_of_getElem? (i := 33) (by decide +kernel), by decide +kernel⟩
theorem bw_34 : Cond.initialized "LetterAuction$Crew" ∈ bw := List.mem_filter.mpr ⟨List.mem_of_getElem? (i := 34) (by decide +kernel), by decide +kernel⟩
theorem bw_35 : Cond.initialized "LetterAuction$Desk" ∈ bw := List.mem_filter.mpr ⟨List.mem_of_getElem? (i := 35) (by decide +kernel), by decide +kernel⟩
theorem bw_36 : Cond.initialized "LetterAuction$Post" ∈ bw := List.mem_filter.mpr ⟨List.mem_of_getElem? (i := 36) (by decide +kernel), by decide +kernel⟩
theorem bw_37 : Cond.initialized "LetterAuctionModel" ∈ bw := List.mem_filter.mpr ⟨List.mem_of_getElem? (i := 37) (by decide +kernel), by decide +kernel⟩
theorem bw_38 : Cond.initialized "java/lang/Throwable" ∈ bw := List.mem_filter.mpr ⟨List.mem_of_getElem? (i := 38) (by decide +kernel), by decide +kernel⟩
theorem bw_39 : Cond.initialized "java/lang/Exception" ∈ bw := List.mem_filter.mpr ⟨List.mem_of_getElem? (i := 39) (by decide +kernel), by decide +kernel⟩
theorem bw_40 : Cond.initialized "java/lang/RuntimeException" ∈ bw := List.mem_filter.mpr ⟨List.mem_of_getElem? (i := 40) (by decide +kernel), by decide +kernel⟩
theorem bw_41 : Cond.initialized "java/lang/IllegalArgumentException" ∈ bw := List.mem_filter.mpr ⟨List.mem_of_getElem? (i := 41) (by decide +kernel), by decide +kernel⟩
theorem bw_42 : Cond.initialized "java/lang/IllegalStateException" ∈ bw := List.mem_filter.mpr ⟨List.mem_of_getElem? (i := 42) (by decide +kernel), by decide +kernel⟩
theorem bw_43 : Cond.initialized "java/lang/IndexOutOfBoundsException" ∈ bw := List.mem_filter.mpr ⟨List.mem_of_getElem? (i := 43) (by decide +kernel), by decide +kernel⟩
theorem bw_44 : Cond.initialized "java/lang/System" ∈ bw := List.mem_filter.mpr ⟨List.mem_of_getElem? (i := 44) (by decide +kernel), by decide +kernel⟩
theorem bw_45 : Cond.classLink "LetterAuctionLaw" (8 : Nat) "LetterAuction" ∈ bw := List.mem_filter.mpr ⟨List.mem_of_getElem? (i := 45) (by decide +kernel), by decide +kernel⟩
theorem bw_46 : Cond.instantiable "LetterAuction" (6 : Nat) ∈ bw := List.mem_filter.mpr ⟨List.mem_of_getElem? (i := 46) (by decide +kernel), by decide +kernel⟩
theorem bw_47 : Cond.methodLink "LetterAuctionLaw" (68 : Nat) ({ cls := "LetterAuction", name := "<init>", desc := "(II)V" } : MethodName) ∈ bw := List.mem_filter.mpr ⟨List.mem_of_getElem? (i := 47) (by decide +kernel), by decide +kernel⟩
theorem bw_48 : Cond.instanceMethod ({ cls := "LetterAuction", name := "<init>", desc := "(II)V" } : MethodName) ∈ bw := List.mem_filter.mpr ⟨List.mem_of_getElem? (i := 48) (by decide +kernel), by decide +kernel⟩
theorem bw_49 : Cond.code ({ cls := "LetterAuction", name := "<init>", desc := "(II)V" } : MethodName) prog_1_method_1_code (4 : Nat) (Option.none : Option FieldType) ∈ bw := List.mem_filter.mpr ⟨List.mem_of_getElem? (i := 49) (by decide +kernel), by decide +kernel⟩
theorem bw_50 : Cond.methodLink "LetterAuction" (1 : Nat) ({ cls := "java/lang/Object", name := "<init>", desc := "()V" } : MethodName) ∈ bw := List.mem_filter.mpr ⟨List.mem_of_getElem? (i := 50) (by decide +kernel), by decide +kernel⟩
theorem bw_51 : Cond.instanceMethod ({ cls := "java/lang/Object", name := "<init>", desc := "()V" } : MethodName) ∈ bw := List.mem_filter.mpr ⟨List.mem_of_getElem? (i := 51) (by decide +kernel), by decide +kernel⟩
theorem bw_52 : Cond.code ({ cls := "java/lang/Object", name := "<init>", desc := "()V" } : MethodName) object_method_1_code (1 : Nat) (Option.none : Option FieldType) ∈ bw := List.mem_filter.mpr ⟨List.mem_of_getElem? (i := 52) (by decide +kernel), by decide +kernel⟩
theorem bw_53 : Cond.methodLink "LetterAuction" (9 : Nat) ({ cls := "java/lang/Math", name := "min", desc := "(II)I" } : MethodName) ∈ bw := List.mem_filter.mpr ⟨List.mem_of_getElem? (i := 53) (by decide +kernel), by decide +kernel⟩
theorem bw_54 : Cond.static ({ cls := "java/lang/Math", name := "min", desc := "(II)I" } : MethodName) ∈ bw := List.mem_filter.mpr ⟨List.mem_of_getElem? (i := 54) (by decide +kernel), by decide +kernel⟩
theorem bw_55 : Cond.code ({ cls := "java/lang/Math", name := "min", desc := "(II)I" } : MethodName) prog_11_method_69_code (2 : Nat) (Option.some FieldType.int) ∈ bw := List.mem_filter.mpr ⟨List.mem_of_getElem? (i := 55) (by decide +kernel), by decide +kernel⟩
theorem bw_56 : Cond.methodLink "LetterAuction" (15 : Nat) ({ cls := "java/lang/Math", name := "max", desc := "(II)I" } : MethodName) ∈ bw := List.mem_filter.mpr ⟨List.mem_of_getElem? (i := 56) (by decide +kernel), by decide +kernel⟩
theorem bw_57 : Cond.static ({ cls := "java/lang/Math", name := "max", desc := "(II)I" } : MethodName) ∈ bw := List.mem_filter.mpr ⟨List.mem_of_getElem? (i := 57) (by decide +kernel), by decide +kernel⟩
theorem bw_58 : Cond.code ({ cls := "java/lang/Math", name := "max", desc := "(II)I" } : MethodName) prog_11_method_65_code (2 : Nat) (Option.some FieldType.int) ∈ bw := List.mem_filter.mpr ⟨List.mem_of_getElem? (i := 58) (by decide +kernel), by decide +kernel⟩
theorem bw_59 : Cond.classLink "LetterAuction" (22 : Nat) "LetterAuction$Crew" ∈ bw := List.mem_filter.mpr ⟨List.mem_of_getElem? (i := 59) (by decide +kernel), by decide +kernel⟩
theorem bw_61 : Cond.classLink "LetterAuction" (28 : Nat) "LetterAuction$Desk" ∈ bw := List.mem_filter.mpr ⟨List.mem_of_getElem? (i := 61) (by decide +kernel), by decide +kernel⟩
theorem bw_63 : Cond.instantiable "LetterAuction$Crew" (6 : Nat) ∈ bw := List.mem_filter.mpr ⟨List.mem_of_getElem? (i := 63) (by decide +kernel), by decide +kernel⟩
theorem bw_65 : Cond.instanceMethod ({ cls := "LetterAuction$Crew", name := "<init>", desc := "(I)V" } : MethodName) ∈ bw := List.mem_filter.mpr ⟨List.mem_of_getElem? (i := 65) (by decide +kernel), by decide +kernel⟩
theorem bw_66 : Cond.code ({ cls := "LetterAuction$Crew", name := "<init>", desc := "(I)V" } : MethodName) prog_2_method_1_code (2 : Nat) (Option.none : Option FieldType) ∈ bw := List.mem_filter.mpr ⟨List.mem_of_getElem? (i := 66) (by decide +kernel), by decide +kernel⟩
theorem bw_67 : Cond.methodLink "LetterAuction$Crew" (3 : Nat) ({ cls := "java/lang/Object", name := "<init>", desc := "()V" } : MethodName) ∈ bw := List.mem_filter.mpr ⟨List.mem_of_getElem? (i := 67) (by decide +kernel), by decide +kernel⟩
theorem bw_68 : Cond.fieldLink "LetterAuction$Crew" (24 : Nat) "LetterAuction$Crew" "worths" "[I" ∈ bw := List.mem_filter.mpr ⟨List.mem_of_getElem? (i := 68) (by decide +kernel), by decide +kernel⟩
theorem bw_70 : Cond.fieldLink "LetterAuction$Crew" (28 : Nat) "LetterAuction$Crew" "prices" "[I" ∈ bw := List.mem_filter.mpr ⟨List.mem_of_getElem? (i := 70) (by decide +kernel), by decide +kernel⟩
theorem bw_72 : Cond.fieldLink "LetterAuction$Crew" (9 : Nat) "LetterAuction$Crew" "state" "I" ∈ bw := List.mem_filter.mpr ⟨List.mem_of_getElem? (i := 72) (by decide +kernel), by decide +kernel⟩
theorem bw_74 : Cond.fieldLink "LetterAuction$Crew" (15 : Nat) "LetterAuction$Crew" "target" "I" ∈ bw := List.mem_filter.mpr ⟨List.mem_of_getElem? (i := 74) (by decide +kernel), by decide +kernel⟩
theorem bw_76 : Cond.fieldLink "LetterAuction$Crew" (18 : Nat) "LetterAuction$Crew" "number" "I" ∈ bw := List.mem_filter.mpr ⟨List.mem_of_getElem? (i := 76) (by decide +kernel), by decide +kernel⟩
theorem bw_78 : Cond.fieldLink "LetterAuction$Crew" (21 : Nat) "LetterAuction$Crew" "amount" "I" ∈ bw := List.mem_filter.mpr ⟨List.mem_of_getElem? (i := 78) (by decide +kernel), by decide +kernel⟩
theorem bw_93 : Cond.arrayClass FieldType.int ∈ bw := List.mem_filter.mpr ⟨List.mem_of_getElem? (i := 93) (by decide +kernel), by decide +kernel⟩
theorem bw_94 : Cond.instantiable "LetterAuction$Desk" (3 : Nat) ∈ bw := List.mem_filter.mpr ⟨List.mem_of_getElem? (i := 94) (by decide +kernel), by decide +kernel⟩
theorem bw_96 : Cond.instanceMethod ({ cls := "LetterAuction$Desk", name := "<init>", desc := "()V" } : MethodName) ∈ bw := List.mem_filter.mpr ⟨List.mem_of_getElem? (i := 96) (by decide +kernel), by decide +kernel⟩
theorem bw_97 : Cond.code ({ cls := "LetterAuction$Desk", name := "<init>", desc := "()V" } : MethodName) prog_3_method_1_code (1 : Nat) (Option.none : Option FieldType) ∈ bw := List.mem_filter.mpr ⟨List.mem_of_getElem? (i := 97) (by decide +kernel), by decide +kernel⟩
theorem bw_98 : Cond.methodLink "LetterAuction$Desk" (3 : Nat) ({ cls := "java/lang/Object", name := "<init>", desc := "()V" } : MethodName) ∈ bw := List.mem_filter.mpr ⟨List.mem_of_getElem? (i := 98) (by decide +kernel), by decide +kernel⟩
theorem bw_99 : Cond.fieldLink "LetterAuction$Desk" (9 : Nat) "LetterAuction$Desk" "price" "I" ∈ bw := List.mem_filter.mpr ⟨List.mem_of_getElem? (i := 99) (by decide +kernel), by decide +kernel⟩
theorem bw_101 : Cond.fieldLink "LetterAuction$Desk" (15 : Nat) "LetterAuction$Desk" "holder" "I" ∈ bw := List.mem_filter.mpr ⟨List.mem_of_getElem? (i := 101) (by decide +kernel), by decide +kernel⟩
theorem bw_103 : Cond.fieldLink "LetterAuction$Desk" (18 : Nat) "LetterAuction$Desk" "number" "I" ∈ bw := List.mem_filter.mpr ⟨List.mem_of_getElem? (i := 103) (by decide +kernel), by decide +kernel⟩
theorem bw_112 : Cond.classLink "LetterAuction" (38 : Nat) "LetterAuction$Post" ∈ bw := List.mem_filter.mpr ⟨List.mem_of_getElem? (i := 112) (by decide +kernel), by decide +kernel⟩
theorem bw_113 : Cond.instantiable "LetterAuction$Post" (2 : Nat) ∈ bw := List.mem_filter.mpr ⟨List.mem_of_getElem? (i := 113) (by decide +kernel), by decide +kernel⟩
theorem bw_115 : Cond.instanceMethod ({ cls := "LetterAuction$Post", name := "<init>", desc := "()V" } : MethodName) ∈ bw := List.mem_filter.mpr ⟨List.mem_of_getElem? (i := 115) (by decide +kernel), by decide +kernel⟩
theorem bw_116 : Cond.code ({ cls := "LetterAuction$Post", name := "<init>", desc := "()V" } : MethodName) prog_4_method_1_code (1 : Nat) (Option.none : Option FieldType) ∈ bw := List.mem_filter.mpr ⟨List.mem_of_getElem? (i := 116) (by decide +kernel), by decide +kernel⟩
theorem bw_117 : Cond.methodLink "LetterAuction$Post" (3 : Nat) ({ cls := "java/lang/Object", name := "<init>", desc := "()V" } : MethodName) ∈ bw := List.mem_filter.mpr ⟨List.mem_of_getElem? (i := 117) (by decide +kernel), by decide +kernel⟩
theorem bw_118 : Cond.fieldLink "LetterAuction$Post" (11 : Nat) "LetterAuction$Post" "parts" "[I" ∈ bw := List.mem_filter.mpr ⟨List.mem_of_getElem? (i := 118) (by decide +kernel), by decide +kernel⟩
theorem bw_119 : Cond.fieldLink "LetterAuction$Post" (15 : Nat) "LetterAuction$Post" "size" "I" ∈ bw := List.mem_filter.mpr ⟨List.mem_of_getElem? (i := 119) (by decide +kernel), by decide +kernel⟩
theorem bw_126 : Cond.fieldLink "LetterAuction" (18 : Nat) "LetterAuction" "size" "I" ∈ bw := List.mem_filter.mpr ⟨List.mem_of_getElem? (i := 126) (by decide +kernel), by decide +kernel⟩
theorem bw_127 : Cond.fieldLink "LetterAuction" (24 : Nat) "LetterAuction" "crews" "[LLetterAuction$Crew;" ∈ bw := List.mem_filter.mpr ⟨List.mem_of_getElem? (i := 127) (by decide +kernel), by decide +kernel⟩
theorem bw_128 : Cond.fieldLink "LetterAuction" (30 : Nat) "LetterAuction" "desks" "[LLetterAuction$Desk;" ∈ bw := List.mem_filter.mpr ⟨List.mem_of_getElem? (i := 128) (by decide +kernel), by decide +kernel⟩
theorem bw_129 : Cond.fieldLink "LetterAuction" (41 : Nat) "LetterAuction" "post" "LLetterAuction$Post;" ∈ bw := List.mem_filter.mpr ⟨List.mem_of_getElem? (i := 129) (by decide +kernel), by decide +kernel⟩
theorem bw_130 : Cond.fieldLink "LetterAuction" (45 : Nat) "LetterAuction" "sentOfKind" "[I" ∈ bw := List.mem_filter.mpr ⟨List.mem_of_getElem? (i := 130) (by decide +kernel), by decide +kernel⟩
theorem bw_131 : Cond.fieldLink "LetterAuction" (49 : Nat) "LetterAuction" "phaseNow" "I" ∈ bw := List.mem_filter.mpr ⟨List.mem_of_getElem? (i := 131) (by decide +kernel), by decide +kernel⟩
theorem bw_145 : Cond.methodLink "LetterAuctionLaw" (97 : Nat) ({ cls := "LetterAuction", name := "letters", desc := "()I" } : MethodName) ∈ bw := List.mem_filter.mpr ⟨List.mem_of_getElem? (i := 145) (by decide +kernel), by decide +kernel⟩
theorem bw_146 : Cond.instanceMethod ({ cls := "LetterAuction", name := "letters", desc := "()I" } : MethodName) ∈ bw := List.mem_filter.mpr ⟨List.mem_of_getElem? (i := 146) (by decide +kernel), by decide +kernel⟩
theorem bw_147 : Cond.selects "LetterAuction" ({ cls := "LetterAuction", name := "letters", desc := "()I" } : MethodName) ({ cls := "LetterAuction", name := "letters", desc := "()I" } : MethodName) ∈ bw := List.mem_filter.mpr ⟨List.mem_of_getElem? (i := 147) (by decide +kernel), by decide +kernel⟩
theorem bw_148 : Cond.code ({ cls := "LetterAuction", name := "letters", desc := "()I" } : MethodName) prog_1_method_8_code (1 : Nat) (Option.some FieldType.int) ∈ bw := List.mem_filter.mpr ⟨List.mem_of_getElem? (i := 148) (by decide +kernel), by decide +kernel⟩
theorem bw_149 : Cond.methodLink "LetterAuctionLaw" (114 : Nat) ({ cls := "LetterAuction", name := "settled", desc := "()Z" } : MethodName) ∈ bw := List.mem_filter.mpr ⟨List.mem_of_getElem? (i := 149) (by decide +kernel), by decide +kernel⟩
theorem bw_150 : Cond.instanceMethod ({ cls := "LetterAuction", name := "settled", desc := "()Z" } : MethodName) ∈ bw := List.mem_filter.mpr ⟨List.mem_of_getElem? (i := 150) (by decide +kernel), by decide +kernel⟩
theorem bw_151 : Cond.selects "LetterAuction" ({ cls := "LetterAuction", name := "settled", desc := "()Z" } : MethodName) ({ cls := "LetterAuction", name := "settled", desc := "()Z" } : MethodName) ∈ bw := List.mem_filter.mpr ⟨List.mem_of_getElem? (i := 151) (by decide +kernel), by decide +kernel⟩
theorem bw_152 : Cond.code ({ cls := "LetterAuction", name := "settled", desc := "()Z" } : MethodName) prog_1_method_13_code (3 : Nat) (Option.some FieldType.boolean) ∈ bw := List.mem_filter.mpr ⟨List.mem_of_getElem? (i := 152) (by decide +kernel), by decide +kernel⟩
theorem bw_155 : Cond.instanceMethod ({ cls := "LetterAuction$Desk", name := "has", desc := "(II)Z" } : MethodName) ∈ bw := List.mem_filter.mpr ⟨List.mem_of_getElem? (i := 155) (by decide +kernel), by decide +kernel⟩
theorem bw_156 : Cond.code ({ cls := "LetterAuction$Desk", name := "has", desc := "(II)Z" } : MethodName) prog_3_method_2_code (3 : Nat) (Option.some FieldType.boolean) ∈ bw := List.mem_filter.mpr ⟨List.mem_of_getElem? (i := 156) (by decide +kernel), by decide +kernel⟩
theorem bw_157 : Cond.methodLink "LetterAuctionLaw" (62 : Nat) ({ cls := "LetterAuctionLaw", name := "cell", desc := "([II)I" } : MethodName) ∈ bw := List.mem_filter.mpr ⟨List.mem_of_getElem? (i := 157) (by decide +kernel), by decide +kernel⟩
theorem bw_158 : Cond.static ({ cls := "LetterAuctionLaw", name := "cell", desc := "([II)I" } : MethodName) ∈ bw := List.mem_filter.mpr ⟨List.mem_of_getElem? (i := 158) (by decide +kernel), by decide +kernel⟩
theorem bw_159 : Cond.code ({ cls := "LetterAuctionLaw", name := "cell", desc := "([II)I" } : MethodName) method_2_code (2 : Nat) (Option.some FieldType.int) ∈ bw := List.mem_filter.mpr ⟨List.mem_of_getElem? (i := 159) (by decide +kernel), by decide +kernel⟩
theorem bw_160 : Cond.methodLink "LetterAuctionLaw" (74 : Nat) ({ cls := "LetterAuctionLaw", name := "worth", desc := "(LLetterAuction;III)I" } : MethodName) ∈ bw := List.mem_filter.mpr ⟨List.mem_of_getElem? (i := 160) (by decide +kernel), by decide +kernel⟩
theorem bw_161 : Cond.static ({ cls := "LetterAuctionLaw", name := "worth", desc := "(LLetterAuction;III)I" } : MethodName) ∈ bw := List.mem_filter.mpr ⟨List.mem_of_getElem? (i := 161) (by decide +kernel), by decide +kernel⟩
theorem bw_162 : Cond.codeWith ({ cls := "LetterAuctionLaw", name := "worth", desc := "(LLetterAuction;III)I" } : MethodName) method_3_code (5 : Nat) (Option.some FieldType.int) [((0 : Nat), (7 : Nat), (10 : Nat), (13 : Nat)), ((0 : Nat), (7 : Nat), (14 : Nat), (15 : Nat))] ∈ bw := List.mem_filter.mpr ⟨List.mem_of_getElem? (i := 162) (by decide +kernel), by decide +kernel⟩
theorem bw_163 : Cond.classLink "LetterAuctionLaw" (13 : Nat) "java/lang/IllegalArgumentException" ∈ bw := List.mem_filter.mpr ⟨List.mem_of_getElem? (i := 163) (by decide +kernel), by decide +kernel⟩
theorem bw_164 : Cond.classLink "LetterAuctionLaw" (15 : Nat) "java/lang/IllegalStateException" ∈ bw := List.mem_filter.mpr ⟨List.mem_of_getElem? (i := 164) (by decide +kernel), by decide +kernel⟩
theorem bw_165 : Cond.methodLink "LetterAuctionLaw" (7 : Nat) ({ cls := "LetterAuction", name := "worth", desc := "(III)V" } : MethodName) ∈ bw := List.mem_filter.mpr ⟨List.mem_of_getElem? (i := 165) (by decide +kernel), by decide +kernel⟩
theorem bw_166 : Cond.instanceMethod ({ cls := "LetterAuction", name := "worth", desc := "(III)V" } : MethodName) ∈ bw := List.mem_filter.mpr ⟨List.mem_of_getElem? (i := 166) (by decide +kernel), by decide +kernel⟩
theorem bw_167 : Cond.selects "LetterAuction" ({ cls := "LetterAuction", name := "worth", desc := "(III)V" } : MethodName) ({ cls := "LetterAuction", name := "worth", desc := "(III)V" } : MethodName) ∈ bw := List.mem_filter.mpr ⟨List.mem_of_getElem? (i := 167) (by decide +kernel), by decide +kernel⟩
theorem bw_168 : Cond.code ({ cls := "LetterAuction", name := "worth", desc := "(III)V" } : MethodName) prog_1_method_2_code (6 : Nat) (Option.none : Option FieldType) ∈ bw := List.mem_filter.mpr ⟨List.mem_of_getElem? (i := 168) (by decide +kernel), by decide +kernel⟩
theorem bw_169 : Cond.methodLink "LetterAuction" (52 : Nat) ({ cls := "LetterAuction", name := "isIndex", desc := "(I)Z" } : MethodName) ∈ bw := List.mem_filter.mpr ⟨List.mem_of_getElem? (i := 169) (by decide +kernel), by decide +kernel⟩
theorem bw_171 : Cond.instanceMethod ({ cls := "LetterAuction", name := "isIndex", desc := "(I)Z" } : MethodName) ∈ bw := List.mem_filter.mpr ⟨List.mem_of_getElem? (i := 171) (by decide +kernel), by decide +kernel⟩
theorem bw_172 : Cond.code ({ cls := "LetterAuction", name := "isIndex", desc := "(I)Z" } : MethodName) prog_1_method_18_code (2 : Nat) (Option.some FieldType.boolean) ∈ bw := List.mem_filter.mpr ⟨List.mem_of_getElem? (i := 172) (by decide +kernel), by decide +kernel⟩
theorem bw_173 : Cond.methodLink "LetterAuction" (56 : Nat) ({ cls := "LetterAuction", name := "requireArgument", desc := "(Z)V" } : MethodName) ∈ bw := List.mem_filter.mpr ⟨List.mem_of_getElem? (i := 173) (by decide +kernel), by decide +kernel⟩
theorem bw_174 : Cond.static ({ cls := "LetterAuction", name := "requireArgument", desc := "(Z)V" } : MethodName) ∈ bw := List.mem_filter.mpr ⟨List.mem_of_getElem? (i := 174) (by decide +kernel), by decide +kernel⟩
theorem bw_175 : Cond.code ({ cls := "LetterAuction", name := "requireArgument", desc := "(Z)V" } : MethodName) prog_1_method_25_code (1 : Nat) (Option.none : Option FieldType) ∈ bw := List.mem_filter.mpr ⟨List.mem_of_getElem? (i := 175) (by decide +kernel), by decide +kernel⟩
theorem bw_176 : Cond.classLink "LetterAuction" (160 : Nat) "java/lang/IllegalArgumentException" ∈ bw := List.mem_filter.mpr ⟨List.mem_of_getElem? (i := 176) (by decide +kernel), by decide +kernel⟩
theorem bw_177 : Cond.instantiable "java/lang/IllegalArgumentException" (6 : Nat) ∈ bw := List.mem_filter.mpr ⟨List.mem_of_getElem? (i := 177) (by decide +kernel), by decide +kernel⟩
theorem bw_197 : Cond.fieldLink "java/lang/Throwable" (198 : Nat) "java/lang/Throwable" "backtrace" "Ljava/lang/Object;" ∈ bw := List.mem_filter.mpr ⟨List.mem_of_getElem? (i := 197) (by decide +kernel), by decide +kernel⟩
theorem bw_199 : Cond.instanceMethod ({ cls := "java/lang/Throwable", name := "<init>", desc := "()V" } : MethodName) ∈ bw := List.mem_filter.mpr ⟨List.mem_of_getElem? (i := 199) (by decide +kernel), by decide +kernel⟩
theorem bw_200 : Cond.code ({ cls := "java/lang/Throwable", name := "<init>", desc := "()V" } : MethodName) prog_15_method_1_code (1 : Nat) (Option.none : Option FieldType) ∈ bw := List.mem_filter.mpr ⟨List.mem_of_getElem? (i := 200) (by decide +kernel), by decide +kernel⟩
theorem bw_201 : Cond.methodLink "java/lang/Throwable" (1 : Nat) ({ cls := "java/lang/Object", name := "<init>", desc := "()V" } : MethodName) ∈ bw := List.mem_filter.mpr ⟨List.mem_of_getElem? (i := 201) (by decide +kernel), by decide +kernel⟩
theorem bw_202 : Cond.fieldLink "java/lang/Throwable" (13 : Nat) "java/lang/Throwable" "UNASSIGNED_STACK" "[Ljava/lang/StackTraceElement;" ∈ bw := List.mem_filter.mpr ⟨List.mem_of_getElem? (i := 202) (by decide +kernel), by decide +kernel⟩
theorem bw_204 : Cond.fieldLink "java/lang/Throwable" (20 : Nat) "java/lang/Throwable" "SUPPRESSED_SENTINEL" "Ljava/util/List;" ∈ bw := List.mem_filter.mpr ⟨List.mem_of_getElem? (i := 204) (by decide +kernel), by decide +kernel⟩
theorem bw_206 : Cond.methodLink "java/lang/Throwable" (27 : Nat) ({ cls := "java/lang/Throwable", name := "fillInStackTrace", desc := "()Ljava/lang/Throwable;" } : MethodName) ∈ bw := List.mem_filter.mpr ⟨List.mem_of_getElem? (i := 206) (by decide +kernel), by decide +kernel⟩
theorem bw_207 : Cond.instanceMethod ({ cls := "java/lang/Throwable", name := "fillInStackTrace", desc := "()Ljava/lang/Throwable;" } : MethodName) ∈ bw := List.mem_filter.mpr ⟨List.mem_of_getElem? (i := 207) (by decide +kernel), by decide +kernel⟩
theorem bw_212 : Cond.methodLink "java/lang/Throwable" (202 : Nat) ({ cls := "java/lang/Throwable", name := "fillInStackTrace", desc := "(I)Ljava/lang/Throwable;" } : MethodName) ∈ bw := List.mem_filter.mpr ⟨List.mem_of_getElem? (i := 212) (by decide +kernel), by decide +kernel⟩
theorem bw_214 : Cond.instanceMethod ({ cls := "java/lang/Throwable", name := "fillInStackTrace", desc := "(I)Ljava/lang/Throwable;" } : MethodName) ∈ bw := List.mem_filter.mpr ⟨List.mem_of_getElem? (i := 214) (by decide +kernel), by decide +kernel⟩
theorem bw_215 : Cond.instantiable "java/lang/Throwable" (6 : Nat) ∈ bw := List.mem_filter.mpr ⟨List.mem_of_getElem? (i := 215) (by decide +kernel), by decide +kernel⟩
theorem bw_216 : Cond.native ({ cls := "java/lang/Throwable", name := "fillInStackTrace", desc := "(I)Ljava/lang/Throwable;" } : MethodName) ∈ bw := List.mem_filter.mpr ⟨List.mem_of_getElem? (i := 216) (by decide +kernel), by decide +kernel⟩
theorem bw_218 : Cond.methodLink "LetterAuction" (164 : Nat) ({ cls := "java/lang/IllegalArgumentException", name := "<init>", desc := "(Ljava/lang/String;)V" } : MethodName) ∈ bw := List.mem_filter.mpr ⟨List.mem_of_getElem? (i := 218) (by decide +kernel), by decide +kernel⟩
theorem bw_219 : Cond.instanceMethod ({ cls := "java/lang/IllegalArgumentException", name := "<init>", desc := "(Ljava/lang/String;)V" } : MethodName) ∈ bw := List.mem_filter.mpr ⟨List.mem_of_getElem? (i := 219) (by decide +kernel), by decide +kernel⟩
theorem bw_220 : Cond.code ({ cls := "java/lang/IllegalArgumentException", name := "<init>", desc := "(Ljava/lang/String;)V" } : MethodName) prog_8_method_2_code (2 : Nat) (Option.none : Option FieldType) ∈ bw := List.mem_filter.mpr ⟨List.mem_of_getElem? (i := 220) (by decide +kernel), by decide +kernel⟩
theorem bw_221 : Cond.methodLink "java/lang/IllegalArgumentException" (7 : Nat) ({ cls := "java/lang/RuntimeException", name := "<init>", desc := "(Ljava/lang/String;)V" } : MethodName) ∈ bw := List.mem_filter.mpr ⟨List.mem_of_getElem? (i := 221) (by decide +kernel), by decide +kernel⟩
theorem bw_222 : Cond.instanceMethod ({ cls := "java/lang/RuntimeException", name := "<init>", desc := "(Ljava/lang/String;)V" } : MethodName) ∈ bw := List.mem_filter.mpr ⟨List.mem_of_getElem? (i := 222) (by decide +kernel), by decide +kernel⟩
theorem bw_223 : Cond.code ({ cls := "java/lang/RuntimeException", name := "<init>", desc := "(Ljava/lang/String;)V" } : MethodName) prog_12_method_2_code (2 : Nat) (Option.none : Option FieldType) ∈ bw := List.mem_filter.mpr ⟨List.mem_of_getElem? (i := 223) (by decide +kernel), by decide +kernel⟩
theorem bw_224 : Cond.methodLink "java/lang/RuntimeException" (7 : Nat) ({ cls := "java/lang/Exception", name := "<init>", desc := "(Ljava/lang/String;)V" } : MethodName) ∈ bw := List.mem_filter.mpr ⟨List.mem_of_getElem? (i := 224) (by decide +kernel), by decide +kernel⟩
theorem bw_225 : Cond.instanceMethod ({ cls := "java/lang/Exception", name := "<init>", desc := "(Ljava/lang/String;)V" } : MethodName) ∈ bw := List.mem_filter.mpr ⟨List.mem_of_getElem? (i := 225) (by decide +kernel), by decide +kernel⟩
theorem bw_226 : Cond.code ({ cls := "java/lang/Exception", name := "<init>", desc := "(Ljava/lang/String;)V" } : MethodName) prog_7_method_2_code (2 : Nat) (Option.none : Option FieldType) ∈ bw := List.mem_filter.mpr ⟨List.mem_of_getElem? (i := 226) (by decide +kernel), by decide +kernel⟩
theorem bw_227 : Cond.methodLink "java/lang/Exception" (7 : Nat) ({ cls := "java/lang/Throwable", name := "<init>", desc := "(Ljava/lang/String;)V" } : MethodName) ∈ bw := List.mem_filter.mpr ⟨List.mem_of_getElem? (i := 227) (by decide +kernel), by decide +kernel⟩
theorem bw_228 : Cond.instanceMethod ({ cls := "java/lang/Throwable", name := "<init>", desc := "(Ljava/lang/String;)V" } : MethodName) ∈ bw := List.mem_filter.mpr ⟨List.mem_of_getElem? (i := 228) (by decide +kernel), by decide +kernel⟩
theorem bw_229 : Cond.code ({ cls := "java/lang/Throwable", name := "<init>", desc := "(Ljava/lang/String;)V" } : MethodName) prog_15_method_2_code (2 : Nat) (Option.none : Option FieldType) ∈ bw := List.mem_filter.mpr ⟨List.mem_of_getElem? (i := 229) (by decide +kernel), by decide +kernel⟩
theorem bw_231 : Cond.fieldLink "java/lang/Throwable" (31 : Nat) "java/lang/Throwable" "detailMessage" "Ljava/lang/String;" ∈ bw := List.mem_filter.mpr ⟨List.mem_of_getElem? (i := 231) (by decide +kernel), by decide +kernel⟩
theorem bw_232 : Cond.fieldLink "java/lang/Throwable" (7 : Nat) "java/lang/Throwable" "cause" "Ljava/lang/Throwable;" ∈ bw := List.mem_filter.mpr ⟨List.mem_of_getElem? (i := 232) (by decide +kernel), by decide +kernel⟩
theorem bw_233 : Cond.fieldLink "java/lang/Throwable" (17 : Nat) "java/lang/Throwable" "stackTrace" "[Ljava/lang/StackTraceElement;" ∈ bw := List.mem_filter.mpr ⟨List.mem_of_getElem? (i := 233) (by decide +kernel), by decide +kernel⟩
theorem bw_234 : Cond.fieldLink "java/lang/Throwable" (24 : Nat) "java/lang/Throwable" "suppressedExceptions" "Ljava/util/List;" ∈ bw := List.mem_filter.mpr ⟨List.mem_of_getElem? (i := 234) (by decide +kernel), by decide +kernel⟩
theorem bw_243 : Cond.arrayClass FieldType.byte ∈ bw := List.mem_filter.mpr ⟨List.mem_of_getElem? (i := 243) (by decide +kernel), by decide +kernel⟩
theorem bw_244 : Cond.methodLink "LetterAuction" (60 : Nat) ({ cls := "LetterAuction", name := "isDone", desc := "()Z" } : MethodName) ∈ bw := List.mem_filter.mpr ⟨List.mem_of_getElem? (i := 244) (by decide +kernel), by decide +kernel⟩
theorem bw_246 : Cond.instanceMethod ({ cls := "LetterAuction", name := "isDone", desc := "()Z" } : MethodName) ∈ bw := List.mem_filter.mpr ⟨List.mem_of_getElem? (i := 246) (by decide +kernel), by decide +kernel⟩
theorem bw_247 : Cond.code ({ cls := "LetterAuction", name := "isDone", desc := "()Z" } : MethodName) prog_1_method_19_code (1 : Nat) (Option.some FieldType.boolean) ∈ bw := List.mem_filter.mpr ⟨List.mem_of_getElem? (i := 247) (by decide +kernel), by decide +kernel⟩
theorem bw_248 : Cond.methodLink "LetterAuction" (140 : Nat) ({ cls := "LetterAuction", name := "settled", desc := "()Z" } : MethodName) ∈ bw := List.mem_filter.mpr ⟨List.mem_of_getElem? (i := 248) (by decide +kernel), by decide +kernel⟩
theorem bw_249 : Cond.methodLink "LetterAuction" (64 : Nat) ({ cls := "LetterAuction", name := "requireState", desc := "(Z)V" } : MethodName) ∈ bw := List.mem_filter.mpr ⟨List.mem_of_getElem? (i := 249) (by decide +kernel), by decide +kernel⟩
theorem bw_250 : Cond.static ({ cls := "LetterAuction", name := "requireState", desc := "(Z)V" } : MethodName) ∈ bw := List.mem_filter.mpr ⟨List.mem_of_getElem? (i := 250) (by decide +kernel), by decide +kernel⟩
theorem bw_251 : Cond.code ({ cls := "LetterAuction", name := "requireState", desc := "(Z)V" } : MethodName) prog_1_method_26_code (1 : Nat) (Option.none : Option FieldType) ∈ bw := List.mem_filter.mpr ⟨List.mem_of_getElem? (i := 251) (by decide +kernel), by decide +kernel⟩
theorem bw_252 : Cond.classLink "LetterAuction" (165 : Nat) "java/lang/IllegalStateException" ∈ bw := List.mem_filter.mpr ⟨List.mem_of_getElem? (i := 252) (by decide +kernel), by decide +kernel⟩
theorem bw_253 : Cond.instantiable "java/lang/IllegalStateException" (6 : Nat) ∈ bw := List.mem_filter.mpr ⟨List.mem_of_getElem? (i := 253) (by decide +kernel), by decide +kernel⟩
theorem bw_262 : Cond.methodLink "LetterAuction" (169 : Nat) ({ cls := "java/lang/IllegalStateException", name := "<init>", desc := "(Ljava/lang/String;)V" } : MethodName) ∈ bw := List.mem_filter.mpr ⟨List.mem_of_getElem? (i := 262) (by decide +kernel), by decide +kernel⟩
theorem bw_263 : Cond.instanceMethod ({ cls := "java/lang/IllegalStateException", name := "<init>", desc := "(Ljava/lang/String;)V" } : MethodName) ∈ bw := List.mem_filter.mpr ⟨List.mem_of_getElem? (i := 263) (by decide +kernel), by decide +kernel⟩
theorem bw_264 : Cond.code ({ cls := "java/lang/IllegalStateException", name := "<init>", desc := "(Ljava/lang/String;)V" } : MethodName) prog_9_method_2_code (2 : Nat) (Option.none : Option FieldType) ∈ bw := List.mem_filter.mpr ⟨List.mem_of_getElem? (i := 264) (by decide +kernel), by decide +kernel⟩
theorem bw_265 : Cond.methodLink "java/lang/IllegalStateException" (7 : Nat) ({ cls := "java/lang/RuntimeException", name := "<init>", desc := "(Ljava/lang/String;)V" } : MethodName) ∈ bw := List.mem_filter.mpr ⟨List.mem_of_getElem? (i := 265) (by decide +kernel), by decide +kernel⟩
theorem bw_270 : Cond.instanceMethod ({ cls := "LetterAuction$Post", name := "clear", desc := "()V" } : MethodName) ∈ bw := List.mem_filter.mpr ⟨List.mem_of_getElem? (i := 270) (by decide +kernel), by decide +kernel⟩
theorem bw_271 : Cond.code ({ cls := "LetterAuction$Post", name := "clear", desc := "()V" } : MethodName) prog_4_method_5_code (1 : Nat) (Option.none : Option FieldType) ∈ bw := List.mem_filter.mpr ⟨List.mem_of_getElem? (i := 271) (by decide +kernel), by decide +kernel⟩
theorem bw_274 : Cond.instanceMethod ({ cls := "LetterAuction$Desk", name := "dismiss", desc := "()V" } : MethodName) ∈ bw := List.mem_filter.mpr ⟨List.mem_of_getElem? (i := 274) (by decide +kernel), by decide +kernel⟩
theorem bw_275 : Cond.code ({ cls := "LetterAuction$Desk", name := "dismiss", desc := "()V" } : MethodName) prog_3_method_3_code (1 : Nat) (Option.none : Option FieldType) ∈ bw := List.mem_filter.mpr ⟨List.mem_of_getElem? (i := 275) (by decide +kernel), by decide +kernel⟩
theorem bw_278 : Cond.instanceMethod ({ cls := "LetterAuction$Crew", name := "release", desc := "()V" } : MethodName) ∈ bw := List.mem_filter.mpr ⟨List.mem_of_getElem? (i := 278) (by decide +kernel), by decide +kernel⟩
theorem bw_279 : Cond.code ({ cls := "LetterAuction$Crew", name := "release", desc := "()V" } : MethodName) prog_2_method_8_code (1 : Nat) (Option.none : Option FieldType) ∈ bw := List.mem_filter.mpr ⟨List.mem_of_getElem? (i := 279) (by decide +kernel), by decide +kernel⟩
theorem bw_280 : Cond.methodLink "LetterAuctionLaw" (81 : Nat) ({ cls := "LetterAuctionLaw", name := "act", desc := "(LLetterAuction;I[J)I" } : MethodName) ∈ bw := List.mem_filter.mpr ⟨List.mem_of_getElem? (i := 280) (by decide +kernel), by decide +kernel⟩
theorem bw_281 : Cond.static ({ cls := "LetterAuctionLaw", name := "act", desc := "(LLetterAuction;I[J)I" } : MethodName) ∈ bw := List.mem_filter.mpr ⟨List.mem_of_getElem? (i := 281) (by decide +kernel), by decide +kernel⟩
theorem bw_282 : Cond.codeWith ({ cls := "LetterAuctionLaw", name := "act", desc := "(LLetterAuction;I[J)I" } : MethodName) method_4_code (4 : Nat) (Option.some FieldType.int) [((0 : Nat), (9 : Nat), (12 : Nat), (13 : Nat)), ((0 : Nat), (9 : Nat), (15 : Nat), (15 : Nat))] ∈ bw := List.mem_filter.mpr ⟨List.mem_of_getElem? (i := 282) (by decide +kernel), by decide +kernel⟩
theorem bw_283 : Cond.methodLink "LetterAuctionLaw" (17 : Nat) ({ cls := "LetterAuction", name := "act", desc := "(I)I" } : MethodName) ∈ bw := List.mem_filter.mpr ⟨List.mem_of_getElem? (i := 283) (by decide +kernel), by decide +kernel⟩
theorem bw_284 : Cond.instanceMethod ({ cls := "LetterAuction", name := "act", desc := "(I)I" } : MethodName) ∈ bw := List.mem_filter.mpr ⟨List.mem_of_getElem? (i := 284) (by decide +kernel), by decide +kernel⟩
theorem bw_285 : Cond.selects "LetterAuction" ({ cls := "LetterAuction", name := "act", desc := "(I)I" } : MethodName) ({ cls := "LetterAuction", name := "act", desc := "(I)I" } : MethodName) ∈ bw := List.mem_filter.mpr ⟨List.mem_of_getElem? (i := 285) (by decide +kernel), by decide +kernel⟩
theorem bw_286 : Cond.code ({ cls := "LetterAuction", name := "act", desc := "(I)I" } : MethodName) prog_1_method_3_code (3 : Nat) (Option.some FieldType.int) ∈ bw := List.mem_filter.mpr ⟨List.mem_of_getElem? (i := 286) (by decide +kernel), by decide +kernel⟩
theorem bw_287 : Cond.fieldLink "LetterAuction" (86 : Nat) "LetterAuction" "STEPS" "[I" ∈ bw := List.mem_filter.mpr ⟨List.mem_of_getElem? (i := 287) (by decide +kernel), by decide +kernel⟩
theorem bw_291 : Cond.instanceMethod ({ cls := "LetterAuction$Crew", name := "chooseBid", desc := "(I)V" } : MethodName) ∈ bw := List.mem_filter.mpr ⟨List.mem_of_getElem? (i := 291) (by decide +kernel), by decide +kernel⟩
theorem bw_292 : Cond.code ({ cls := "LetterAuction$Crew", name := "chooseBid", desc := "(I)V" } : MethodName) prog_2_method_5_code (2 : Nat) (Option.none : Option FieldType) ∈ bw := List.mem_filter.mpr ⟨List.mem_of_getElem? (i := 292) (by decide +kernel), by decide +kernel⟩
theorem bw_293 : Cond.methodLink "LetterAuction$Crew" (38 : Nat) ({ cls := "LetterAuction$Crew", name := "bestJobBut", desc := "(I)I" } : MethodName) ∈ bw := List.mem_filter.mpr ⟨List.mem_of_getElem? (i := 293) (by decide +kernel), by decide +kernel⟩
theorem bw_295 : Cond.instanceMethod ({ cls := "LetterAuction$Crew", name := "bestJobBut", desc := "(I)I" } : MethodName) ∈ bw := List.mem_filter.mpr ⟨List.mem_of_getElem? (i := 295) (by decide +kernel), by decide +kernel⟩
theorem bw_296 : Cond.code ({ cls := "LetterAuction$Crew", name := "bestJobBut", desc := "(I)I" } : MethodName) prog_2_method_4_code (4 : Nat) (Option.some FieldType.int) ∈ bw := List.mem_filter.mpr ⟨List.mem_of_getElem? (i := 296) (by decide +kernel), by decide +kernel⟩
theorem bw_297 : Cond.methodLink "LetterAuction$Crew" (35 : Nat) ({ cls := "LetterAuction$Crew", name := "valueOf", desc := "(I)I" } : MethodName) ∈ bw := List.mem_filter.mpr ⟨List.mem_of_getElem? (i := 297) (by decide +kernel), by decide +kernel⟩
theorem bw_299 : Cond.instanceMethod ({ cls := "LetterAuction$Crew", name := "valueOf", desc := "(I)I" } : MethodName) ∈ bw := List.mem_filter.mpr ⟨List.mem_of_getElem? (i := 299) (by decide +kernel), by decide +kernel⟩
theorem bw_300 : Cond.code ({ cls := "LetterAuction$Crew", name := "valueOf", desc := "(I)I" } : MethodName) prog_2_method_3_code (2 : Nat) (Option.some FieldType.int) ∈ bw := List.mem_filter.mpr ⟨List.mem_of_getElem? (i := 300) (by decide +kernel), by decide +kernel⟩
theorem bw_301 : Cond.methodLink "LetterAuction$Crew" (31 : Nat) ({ cls := "LetterAuction$Crew", name := "scaledWorth", desc := "(I)I" } : MethodName) ∈ bw := List.mem_filter.mpr ⟨List.mem_of_getElem? (i := 301) (by decide +kernel), by decide +kernel⟩
theorem bw_303 : Cond.instanceMethod ({ cls := "LetterAuction$Crew", name := "scaledWorth", desc := "(I)I" } : MethodName) ∈ bw := List.mem_filter.mpr ⟨List.mem_of_getElem? (i := 303) (by decide +kernel), by decide +kernel⟩
theorem bw_304 : Cond.code ({ cls := "LetterAuction$Crew", name := "scaledWorth", desc := "(I)I" } : MethodName) prog_2_method_2_code (2 : Nat) (Option.some FieldType.int) ∈ bw := List.mem_filter.mpr ⟨List.mem_of_getElem? (i := 304) (by decide +kernel), by decide +kernel⟩
theorem bw_305 : Cond.methodLink "LetterAuction" (92 : Nat) ({ cls := "LetterAuction", name := "sendBid", desc := "(I)V" } : MethodName) ∈ bw := List.mem_filter.mpr ⟨List.mem_of_getElem? (i := 305) (by decide +kernel), by decide +kernel⟩
theorem bw_307 : Cond.instanceMethod ({ cls := "LetterAuction", name := "sendBid", desc := "(I)V" } : MethodName) ∈ bw := List.mem_filter.mpr ⟨List.mem_of_getElem? (i := 307) (by decide +kernel), by decide +kernel⟩
theorem bw_308 : Cond.code ({ cls := "LetterAuction", name := "sendBid", desc := "(I)V" } : MethodName) prog_1_method_21_code (3 : Nat) (Option.none : Option FieldType) ∈ bw := List.mem_filter.mpr ⟨List.mem_of_getElem? (i := 308) (by decide +kernel), by decide +kernel⟩
theorem bw_311 : Cond.instanceMethod ({ cls := "LetterAuction$Post", name := "add", desc := "(IIIII)V" } : MethodName) ∈ bw := List.mem_filter.mpr ⟨List.mem_of_getElem? (i := 311) (by decide +kernel), by decide +kernel⟩
theorem bw_312 : Cond.code ({ cls := "LetterAuction$Post", name := "add", desc := "(IIIII)V" } : MethodName) prog_4_method_3_code (7 : Nat) (Option.none : Option FieldType) ∈ bw := List.mem_filter.mpr ⟨List.mem_of_getElem? (i := 312) (by decide +kernel), by decide +kernel⟩
theorem bw_313 : Cond.methodLink "LetterAuctionLaw" (85 : Nat) ({ cls := "LetterAuctionLaw", name := "resend", desc := "(LLetterAuction;I[J)I" } : MethodName) ∈ bw := List.mem_filter.mpr ⟨List.mem_of_getElem? (i := 313) (by decide +kernel), by decide +kernel⟩
theorem bw_314 : Cond.static ({ cls := "LetterAuctionLaw", name := "resend", desc := "(LLetterAuction;I[J)I" } : MethodName) ∈ bw := List.mem_filter.mpr ⟨List.mem_of_getElem? (i := 314) (by decide +kernel), by decide +kernel⟩
theorem bw_315 : Cond.codeWith ({ cls := "LetterAuctionLaw", name := "resend", desc := "(LLetterAuction;I[J)I" } : MethodName) method_5_code (4 : Nat) (Option.some FieldType.int) [((0 : Nat), (9 : Nat), (12 : Nat), (13 : Nat)), ((0 : Nat), (9 : Nat), (15 : Nat), (15 : Nat))] ∈ bw := List.mem_filter.mpr ⟨List.mem_of_getElem? (i := 315) (by decide +kernel), by decide +kernel⟩
theorem bw_316 : Cond.methodLink "LetterAuctionLaw" (21 : Nat) ({ cls := "LetterAuction", name := "resend", desc := "(I)I" } : MethodName) ∈ bw := List.mem_filter.mpr ⟨List.mem_of_getElem? (i := 316) (by decide +kernel), by decide +kernel⟩
theorem bw_317 : Cond.instanceMethod ({ cls := "LetterAuction", name := "resend", desc := "(I)I" } : MethodName) ∈ bw := List.mem_filter.mpr ⟨List.mem_of_getElem? (i := 317) (by decide +kernel), by decide +kernel⟩
theorem bw_318 : Cond.selects "LetterAuction" ({ cls := "LetterAuction", name := "resend", desc := "(I)I" } : MethodName) ({ cls := "LetterAuction", name := "resend", desc := "(I)I" } : MethodName) ∈ bw := List.mem_filter.mpr ⟨List.mem_of_getElem? (i := 318) (by decide +kernel), by decide +kernel⟩
theorem bw_319 : Cond.code ({ cls := "LetterAuction", name := "resend", desc := "(I)I" } : MethodName) prog_1_method_4_code (2 : Nat) (Option.some FieldType.int) ∈ bw := List.mem_filter.mpr ⟨List.mem_of_getElem? (i := 319) (by decide +kernel), by decide +kernel⟩
theorem bw_320 : Cond.methodLink "LetterAuctionLaw" (88 : Nat) ({ cls := "LetterAuctionLaw", name := "deliver", desc := "(LLetterAuction;I[J)I" } : MethodName) ∈ bw := List.mem_filter.mpr ⟨List.mem_of_getElem? (i := 320) (by decide +kernel), by decide +kernel⟩
theorem bw_321 : Cond.static ({ cls := "LetterAuctionLaw", name := "deliver", desc := "(LLetterAuction;I[J)I" } : MethodName) ∈ bw := List.mem_filter.mpr ⟨List.mem_of_getElem? (i := 321) (by decide +kernel), by decide +kernel⟩
theorem bw_322 : Cond.codeWith ({ cls := "LetterAuctionLaw", name := "deliver", desc := "(LLetterAuction;I[J)I" } : MethodName) method_6_code (4 : Nat) (Option.some FieldType.int) [((0 : Nat), (9 : Nat), (12 : Nat), (27 : Nat))] ∈ bw := List.mem_filter.mpr ⟨List.mem_of_getElem? (i := 322) (by decide +kernel), by decide +kernel⟩
theorem bw_323 : Cond.classLink "LetterAuctionLaw" (27 : Nat) "java/lang/IndexOutOfBoundsException" ∈ bw := List.mem_filter.mpr ⟨List.mem_of_getElem? (i := 323) (by decide +kernel), by decide +kernel⟩
theorem bw_324 : Cond.methodLink "LetterAuctionLaw" (24 : Nat) ({ cls := "LetterAuction", name := "deliver", desc := "(I)I" } : MethodName) ∈ bw := List.mem_filter.mpr ⟨List.mem_of_getElem? (i := 324) (by decide +kernel), by decide +kernel⟩
theorem bw_325 : Cond.instanceMethod ({ cls := "LetterAuction", name := "deliver", desc := "(I)I" } : MethodName) ∈ bw := List.mem_filter.mpr ⟨List.mem_of_getElem? (i := 325) (by decide +kernel), by decide +kernel⟩
theorem bw_326 : Cond.selects "LetterAuction" ({ cls := "LetterAuction", name := "deliver", desc := "(I)I" } : MethodName) ({ cls := "LetterAuction", name := "deliver", desc := "(I)I" } : MethodName) ∈ bw := List.mem_filter.mpr ⟨List.mem_of_getElem? (i := 326) (by decide +kernel), by decide +kernel⟩
theorem bw_327 : Cond.code ({ cls := "LetterAuction", name := "deliver", desc := "(I)I" } : MethodName) prog_1_method_5_code (7 : Nat) (Option.some FieldType.int) ∈ bw := List.mem_filter.mpr ⟨List.mem_of_getElem? (i := 327) (by decide +kernel), by decide +kernel⟩
theorem bw_328 : Cond.methodLink "LetterAuction" (95 : Nat) ({ cls := "LetterAuction", name := "requireLetter", desc := "(I)V" } : MethodName) ∈ bw := List.mem_filter.mpr ⟨List.mem_of_getElem? (i := 328) (by decide +kernel), by decide +kernel⟩
theorem bw_330 : Cond.instanceMethod ({ cls := "LetterAuction", name := "requireLetter", desc := "(I)V" } : MethodName) ∈ bw := List.mem_filter.mpr ⟨List.mem_of_getElem? (i := 330) (by decide +kernel), by decide +kernel⟩
theorem bw_331 : Cond.code ({ cls := "LetterAuction", name := "requireLetter", desc := "(I)V" } : MethodName) prog_1_method_24_code (2 : Nat) (Option.none : Option FieldType) ∈ bw := List.mem_filter.mpr ⟨List.mem_of_getElem? (i := 331) (by decide +kernel), by decide +kernel⟩
theorem bw_332 : Cond.classLink "LetterAuction" (153 : Nat) "java/lang/IndexOutOfBoundsException" ∈ bw := List.mem_filter.mpr ⟨List.mem_of_getElem? (i := 332) (by decide +kernel), by decide +kernel⟩
theorem bw_333 : Cond.instantiable "java/lang/IndexOutOfBoundsException" (6 : Nat) ∈ bw := List.mem_filter.mpr ⟨List.mem_of_getElem? (i := 333) (by decide +kernel), by decide +kernel⟩
theorem bw_342 : Cond.methodLink "LetterAuction" (157 : Nat) ({ cls := "java/lang/IndexOutOfBoundsException", name := "<init>", desc := "(Ljava/lang/String;)V" } : MethodName) ∈ bw := List.mem_filter.mpr ⟨List.mem_of_getElem? (i := 342) (by decide +kernel), by decide +kernel⟩
theorem bw_343 : Cond.instanceMethod ({ cls := "java/lang/IndexOutOfBoundsException", name := "<init>", desc := "(Ljava/lang/String;)V" } : MethodName) ∈ bw := List.mem_filter.mpr ⟨List.mem_of_getElem? (i := 343) (by decide +kernel), by decide +kernel⟩
theorem bw_344 : Cond.code ({ cls := "java/lang/IndexOutOfBoundsException", name := "<init>", desc := "(Ljava/lang/String;)V" } : MethodName) prog_10_method_2_code (2 : Nat) (Option.none : Option FieldType) ∈ bw := List.mem_filter.mpr ⟨List.mem_of_getElem? (i := 344) (by decide +kernel), by decide +kernel⟩
theorem bw_345 : Cond.methodLink "java/lang/IndexOutOfBoundsException" (7 : Nat) ({ cls := "java/lang/RuntimeException", name := "<init>", desc := "(Ljava/lang/String;)V" } : MethodName) ∈ bw := List.mem_filter.mpr ⟨List.mem_of_getElem? (i := 345) (by decide +kernel), by decide +kernel⟩
theorem bw_350 : Cond.instanceMethod ({ cls := "LetterAuction$Post", name := "part", desc := "(II)I" } : MethodName) ∈ bw := List.mem_filter.mpr ⟨List.mem_of_getElem? (i := 350) (by decide +kernel), by decide +kernel⟩
theorem bw_351 : Cond.code ({ cls := "LetterAuction$Post", name := "part", desc := "(II)I" } : MethodName) prog_4_method_2_code (3 : Nat) (Option.some FieldType.int) ∈ bw := List.mem_filter.mpr ⟨List.mem_of_getElem? (i := 351) (by decide +kernel), by decide +kernel⟩
theorem bw_354 : Cond.instanceMethod ({ cls := "LetterAuction$Post", name := "remove", desc := "(I)V" } : MethodName) ∈ bw := List.mem_filter.mpr ⟨List.mem_of_getElem? (i := 354) (by decide +kernel), by decide +kernel⟩
theorem bw_355 : Cond.code ({ cls := "LetterAuction$Post", name := "remove", desc := "(I)V" } : MethodName) prog_4_method_4_code (3 : Nat) (Option.none : Option FieldType) ∈ bw := List.mem_filter.mpr ⟨List.mem_of_getElem? (i := 355) (by decide +kernel), by decide +kernel⟩
theorem bw_356 : Cond.methodLink "LetterAuction$Post" (19 : Nat) ({ cls := "java/lang/System", name := "arraycopy", desc := "(Ljava/lang/Object;ILjava/lang/Object;II)V" } : MethodName) ∈ bw := List.mem_filter.mpr ⟨List.mem_of_getElem? (i := 356) (by decide +kernel), by decide +kernel⟩
theorem bw_357 : Cond.static ({ cls := "java/lang/System", name := "arraycopy", desc := "(Ljava/lang/Object;ILjava/lang/Object;II)V" } : MethodName) ∈ bw := List.mem_filter.mpr ⟨List.mem_of_getElem? (i := 357) (by decide +kernel), by decide +kernel⟩
theorem bw_358 : Cond.native ({ cls := "java/lang/System", name := "arraycopy", desc := "(Ljava/lang/Object;ILjava/lang/Object;II)V" } : MethodName) ∈ bw := List.mem_filter.mpr ⟨List.mem_of_getElem? (i := 358) (by decide +kernel), by decide +kernel⟩
theorem bw_359 : Cond.methodLink "LetterAuction" (104 : Nat) ({ cls := "LetterAuction", name := "receiveBid", desc := "(IIII)V" } : MethodName) ∈ bw := List.mem_filter.mpr ⟨List.mem_of_getElem? (i := 359) (by decide +kernel), by decide +kernel⟩
theorem bw_361 : Cond.instanceMethod ({ cls := "LetterAuction", name := "receiveBid", desc := "(IIII)V" } : MethodName) ∈ bw := List.mem_filter.mpr ⟨List.mem_of_getElem? (i := 361) (by decide +kernel), by decide +kernel⟩
theorem bw_362 : Cond.code ({ cls := "LetterAuction", name := "receiveBid", desc := "(IIII)V" } : MethodName) prog_1_method_23_code (6 : Nat) (Option.none : Option FieldType) ∈ bw := List.mem_filter.mpr ⟨List.mem_of_getElem? (i := 362) (by decide +kernel), by decide +kernel⟩
theorem bw_363 : Cond.methodLink "LetterAuction" (150 : Nat) ({ cls := "LetterAuction", name := "sendAnswer", desc := "(IIII)V" } : MethodName) ∈ bw := List.mem_filter.mpr ⟨List.mem_of_getElem? (i := 363) (by decide +kernel), by decide +kernel⟩
theorem bw_365 : Cond.instanceMethod ({ cls := "LetterAuction", name := "sendAnswer", desc := "(IIII)V" } : MethodName) ∈ bw := List.mem_filter.mpr ⟨List.mem_of_getElem? (i := 365) (by decide +kernel), by decide +kernel⟩
theorem bw_366 : Cond.code ({ cls := "LetterAuction", name := "sendAnswer", desc := "(IIII)V" } : MethodName) prog_1_method_22_code (5 : Nat) (Option.none : Option FieldType) ∈ bw := List.mem_filter.mpr ⟨List.mem_of_getElem? (i := 366) (by decide +kernel), by decide +kernel⟩
theorem bw_369 : Cond.instanceMethod ({ cls := "LetterAuction$Crew", name := "learn", desc := "(II)V" } : MethodName) ∈ bw := List.mem_filter.mpr ⟨List.mem_of_getElem? (i := 369) (by decide +kernel), by decide +kernel⟩
theorem bw_370 : Cond.code ({ cls := "LetterAuction$Crew", name := "learn", desc := "(II)V" } : MethodName) prog_2_method_6_code (3 : Nat) (Option.none : Option FieldType) ∈ bw := List.mem_filter.mpr ⟨List.mem_of_getElem? (i := 370) (by decide +kernel), by decide +kernel⟩
theorem bw_371 : Cond.methodLink "LetterAuction$Crew" (41 : Nat) ({ cls := "java/lang/Math", name := "max", desc := "(II)I" } : MethodName) ∈ bw := List.mem_filter.mpr ⟨List.mem_of_getElem? (i := 371) (by decide +kernel), by decide +kernel⟩
theorem bw_374 : Cond.instanceMethod ({ cls := "LetterAuction$Crew", name := "hear", desc := "(II)V" } : MethodName) ∈ bw := List.mem_filter.mpr ⟨List.mem_of_getElem? (i := 374) (by decide +kernel), by decide +kernel⟩
theorem bw_375 : Cond.code ({ cls := "LetterAuction$Crew", name := "hear", desc := "(II)V" } : MethodName) prog_2_method_7_code (3 : Nat) (Option.none : Option FieldType) ∈ bw := List.mem_filter.mpr ⟨List.mem_of_getElem? (i := 375) (by decide +kernel), by decide +kernel⟩
theorem bw_376 : Cond.methodLink "LetterAuction$Crew" (47 : Nat) ({ cls := "LetterAuction$Crew", name := "release", desc := "()V" } : MethodName) ∈ bw := List.mem_filter.mpr ⟨List.mem_of_getElem? (i := 376) (by decide +kernel), by decide +kernel⟩
theorem bw_377 : Cond.methodLink "LetterAuctionLaw" (91 : Nat) ({ cls := "LetterAuctionLaw", name := "lose", desc := "(LLetterAuction;I[J)I" } : MethodName) ∈ bw := List.mem_filter.mpr ⟨List.mem_of_getElem? (i := 377) (by decide +kernel), by decide +kernel⟩
theorem bw_378 : Cond.static ({ cls := "LetterAuctionLaw", name := "lose", desc := "(LLetterAuction;I[J)I" } : MethodName) ∈ bw := List.mem_filter.mpr ⟨List.mem_of_getElem? (i := 378) (by decide +kernel), by decide +kernel⟩
theorem bw_379 : Cond.codeWith ({ cls := "LetterAuctionLaw", name := "lose", desc := "(LLetterAuction;I[J)I" } : MethodName) method_7_code (4 : Nat) (Option.some FieldType.int) [((0 : Nat), (9 : Nat), (12 : Nat), (27 : Nat))] ∈ bw := List.mem_filter.mpr ⟨List.mem_of_getElem? (i := 379) (by decide +kernel), by decide +kernel⟩
theorem bw_380 : Cond.methodLink "LetterAuctionLaw" (29 : Nat) ({ cls := "LetterAuction", name := "lose", desc := "(I)I" } : MethodName) ∈ bw := List.mem_filter.mpr ⟨List.mem_of_getElem? (i := 380) (by decide +kernel), by decide +kernel⟩
theorem bw_381 : Cond.instanceMethod ({ cls := "LetterAuction", name := "lose", desc := "(I)I" } : MethodName) ∈ bw := List.mem_filter.mpr ⟨List.mem_of_getElem? (i := 381) (by decide +kernel), by decide +kernel⟩
theorem bw_382 : Cond.selects "LetterAuction" ({ cls := "LetterAuction", name := "lose", desc := "(I)I" } : MethodName) ({ cls := "LetterAuction", name := "lose", desc := "(I)I" } : MethodName) ∈ bw := List.mem_filter.mpr ⟨List.mem_of_getElem? (i := 382) (by decide +kernel), by decide +kernel⟩
theorem bw_383 : Cond.code ({ cls := "LetterAuction", name := "lose", desc := "(I)I" } : MethodName) prog_1_method_6_code (2 : Nat) (Option.some FieldType.int) ∈ bw := List.mem_filter.mpr ⟨List.mem_of_getElem? (i := 383) (by decide +kernel), by decide +kernel⟩
theorem bw_384 : Cond.methodLink "LetterAuctionLaw" (94 : Nat) ({ cls := "LetterAuctionLaw", name := "twin", desc := "(LLetterAuction;I[J)I" } : MethodName) ∈ bw := List.mem_filter.mpr ⟨List.mem_of_getElem? (i := 384) (by decide +kernel), by decide +kernel⟩
theorem bw_385 : Cond.static ({ cls := "LetterAuctionLaw", name := "twin", desc := "(LLetterAuction;I[J)I" } : MethodName) ∈ bw := List.mem_filter.mpr ⟨List.mem_of_getElem? (i := 385) (by decide +kernel), by decide +kernel⟩
theorem bw_386 : Cond.codeWith ({ cls := "LetterAuctionLaw", name := "twin", desc := "(LLetterAuction;I[J)I" } : MethodName) method_8_code (4 : Nat) (Option.some FieldType.int) [((0 : Nat), (9 : Nat), (12 : Nat), (27 : Nat)), ((0 : Nat), (9 : Nat), (15 : Nat), (15 : Nat))] ∈ bw := List.mem_filter.mpr ⟨List.mem_of_getElem? (i := 386) (by decide +kernel), by decide +kernel⟩
theorem bw_387 : Cond.methodLink "LetterAuctionLaw" (32 : Nat) ({ cls := "LetterAuction", name := "twin", desc := "(I)I" } : MethodName) ∈ bw := List.mem_filter.mpr ⟨List.mem_of_getElem? (i := 387) (by decide +kernel), by decide +kernel⟩
theorem bw_388 : Cond.instanceMethod ({ cls := "LetterAuction", name := "twin", desc := "(I)I" } : MethodName) ∈ bw := List.mem_filter.mpr ⟨List.mem_of_getElem? (i := 388) (by decide +kernel), by decide +kernel⟩
theorem bw_389 : Cond.selects "LetterAuction" ({ cls := "LetterAuction", name := "twin", desc := "(I)I" } : MethodName) ({ cls := "LetterAuction", name := "twin", desc := "(I)I" } : MethodName) ∈ bw := List.mem_filter.mpr ⟨List.mem_of_getElem? (i := 389) (by decide +kernel), by decide +kernel⟩
theorem bw_390 : Cond.code ({ cls := "LetterAuction", name := "twin", desc := "(I)I" } : MethodName) prog_1_method_7_code (2 : Nat) (Option.some FieldType.int) ∈ bw := List.mem_filter.mpr ⟨List.mem_of_getElem? (i := 390) (by decide +kernel), by decide +kernel⟩
theorem bw_391 : Cond.methodLink "LetterAuctionLaw" (101 : Nat) ({ cls := "LetterAuctionLaw", name := "letter", desc := "(LLetterAuction;II[J)I" } : MethodName) ∈ bw := List.mem_filter.mpr ⟨List.mem_of_getElem? (i := 391) (by decide +kernel), by decide +kernel⟩
theorem bw_392 : Cond.static ({ cls := "LetterAuctionLaw", name := "letter", desc := "(LLetterAuction;II[J)I" } : MethodName) ∈ bw := List.mem_filter.mpr ⟨List.mem_of_getElem? (i := 392) (by decide +kernel), by decide +kernel⟩
theorem bw_393 : Cond.codeWith ({ cls := "LetterAuctionLaw", name := "letter", desc := "(LLetterAuction;II[J)I" } : MethodName) method_9_code (5 : Nat) (Option.some FieldType.int) [((0 : Nat), (10 : Nat), (13 : Nat), (27 : Nat)), ((0 : Nat), (10 : Nat), (17 : Nat), (13 : Nat))] ∈ bw := List.mem_filter.mpr ⟨List.mem_of_getElem? (i := 393) (by decide +kernel), by decide +kernel⟩
theorem bw_394 : Cond.methodLink "LetterAuctionLaw" (35 : Nat) ({ cls := "LetterAuction", name := "letter", desc := "(II)I" } : MethodName) ∈ bw := List.mem_filter.mpr ⟨List.mem_of_getElem? (i := 394) (by decide +kernel), by decide +kernel⟩
theorem bw_395 : Cond.instanceMethod ({ cls := "LetterAuction", name := "letter", desc := "(II)I" } : MethodName) ∈ bw := List.mem_filter.mpr ⟨List.mem_of_getElem? (i := 395) (by decide +kernel), by decide +kernel⟩
theorem bw_396 : Cond.selects "LetterAuction" ({ cls := "LetterAuction", name := "letter", desc := "(II)I" } : MethodName) ({ cls := "LetterAuction", name := "letter", desc := "(II)I" } : MethodName) ∈ bw := List.mem_filter.mpr ⟨List.mem_of_getElem? (i := 396) (by decide +kernel), by decide +kernel⟩
theorem bw_397 : Cond.code ({ cls := "LetterAuction", name := "letter", desc := "(II)I" } : MethodName) prog_1_method_9_code (3 : Nat) (Option.some FieldType.int) ∈ bw := List.mem_filter.mpr ⟨List.mem_of_getElem? (i := 397) (by decide +kernel), by decide +kernel⟩
theorem bw_398 : Cond.methodLink "LetterAuctionLaw" (105 : Nat) ({ cls := "LetterAuctionLaw", name := "crew", desc := "(LLetterAuction;II[J)I" } : MethodName) ∈ bw := List.mem_filter.mpr ⟨List.mem_of_getElem? (i := 398) (by decide +kernel), by decide +kernel⟩
theorem bw_399 : Cond.static ({ cls := "LetterAuctionLaw", name := "crew", desc := "(LLetterAuction;II[J)I" } : MethodName) ∈ bw := List.mem_filter.mpr ⟨List.mem_of_getElem? (i := 399) (by decide +kernel), by decide +kernel⟩
theorem bw_400 : Cond.codeWith ({ cls := "LetterAuctionLaw", name := "crew", desc := "(LLetterAuction;II[J)I" } : MethodName) method_10_code (5 : Nat) (Option.some FieldType.int) [((0 : Nat), (10 : Nat), (13 : Nat), (13 : Nat))] ∈ bw := List.mem_filter.mpr ⟨List.mem_of_getElem? (i := 400) (by decide +kernel), by decide +kernel⟩
theorem bw_401 : Cond.methodLink "LetterAuctionLaw" (39 : Nat) ({ cls := "LetterAuction", name := "crew", desc := "(II)I" } : MethodName) ∈ bw := List.mem_filter.mpr ⟨List.mem_of_getElem? (i := 401) (by decide +kernel), by decide +kernel⟩
theorem bw_402 : Cond.instanceMethod ({ cls := "LetterAuction", name := "crew", desc := "(II)I" } : MethodName) ∈ bw := List.mem_filter.mpr ⟨List.mem_of_getElem? (i := 402) (by decide +kernel), by decide +kernel⟩
theorem bw_403 : Cond.selects "LetterAuction" ({ cls := "LetterAuction", name := "crew", desc := "(II)I" } : MethodName) ({ cls := "LetterAuction", name := "crew", desc := "(II)I" } : MethodName) ∈ bw := List.mem_filter.mpr ⟨List.mem_of_getElem? (i := 403) (by decide +kernel), by decide +kernel⟩
theorem bw_404 : Cond.code ({ cls := "LetterAuction", name := "crew", desc := "(II)I" } : MethodName) prog_1_method_10_code (4 : Nat) (Option.some FieldType.int) ∈ bw := List.mem_filter.mpr ⟨List.mem_of_getElem? (i := 404) (by decide +kernel), by decide +kernel⟩
theorem bw_405 : Cond.methodLink "LetterAuction" (122 : Nat) ({ cls := "LetterAuction", name := "profitOf", desc := "(LLetterAuction$Crew;)I" } : MethodName) ∈ bw := List.mem_filter.mpr ⟨List.mem_of_getElem? (i := 405) (by decide +kernel), by decide +kernel⟩
theorem bw_407 : Cond.instanceMethod ({ cls := "LetterAuction", name := "profitOf", desc := "(LLetterAuction$Crew;)I" } : MethodName) ∈ bw := List.mem_filter.mpr ⟨List.mem_of_getElem? (i := 407) (by decide +kernel), by decide +kernel⟩
theorem bw_408 : Cond.code ({ cls := "LetterAuction", name := "profitOf", desc := "(LLetterAuction$Crew;)I" } : MethodName) prog_1_method_20_code (4 : Nat) (Option.some FieldType.int) ∈ bw := List.mem_filter.mpr ⟨List.mem_of_getElem? (i := 408) (by decide +kernel), by decide +kernel⟩
theorem bw_410 : Cond.methodLink "LetterAuctionLaw" (108 : Nat) ({ cls := "LetterAuctionLaw", name := "known", desc := "(LLetterAuction;II[J)I" } : MethodName) ∈ bw := List.mem_filter.mpr ⟨List.mem_of_getElem? (i := 410) (by decide +kernel), by decide +kernel⟩
theorem bw_411 : Cond.static ({ cls := "LetterAuctionLaw", name := "known", desc := "(LLetterAuction;II[J)I" } : MethodName) ∈ bw := List.mem_filter.mpr ⟨List.mem_of_getElem? (i := 411) (by decide +kernel), by decide +kernel⟩
theorem bw_412 : Cond.codeWith ({ cls := "LetterAuctionLaw", name := "known", desc := "(LLetterAuction;II[J)I" } : MethodName) method_11_code (5 : Nat) (Option.some FieldType.int) [((0 : Nat), (10 : Nat), (13 : Nat), (13 : Nat))] ∈ bw := List.mem_filter.mpr ⟨List.mem_of_getElem? (i := 412) (by decide +kernel), by decide +kernel⟩
theorem bw_413 : Cond.methodLink "LetterAuctionLaw" (42 : Nat) ({ cls := "LetterAuction", name := "known", desc := "(II)I" } : MethodName) ∈ bw := List.mem_filter.mpr ⟨List.mem_of_getElem? (i := 413) (by decide +kernel), by decide +kernel⟩
theorem bw_414 : Cond.instanceMethod ({ cls := "LetterAuction", name := "known", desc := "(II)I" } : MethodName) ∈ bw := List.mem_filter.mpr ⟨List.mem_of_getElem? (i := 414) (by decide +kernel), by decide +kernel⟩
theorem bw_415 : Cond.selects "LetterAuction" ({ cls := "LetterAuction", name := "known", desc := "(II)I" } : MethodName) ({ cls := "LetterAuction", name := "known", desc := "(II)I" } : MethodName) ∈ bw := List.mem_filter.mpr ⟨List.mem_of_getElem? (i := 415) (by decide +kernel), by decide +kernel⟩
theorem bw_416 : Cond.code ({ cls := "LetterAuction", name := "known", desc := "(II)I" } : MethodName) prog_1_method_11_code (3 : Nat) (Option.some FieldType.int) ∈ bw := List.mem_filter.mpr ⟨List.mem_of_getElem? (i := 416) (by decide +kernel), by decide +kernel⟩
theorem bw_417 : Cond.methodLink "LetterAuctionLaw" (111 : Nat) ({ cls := "LetterAuctionLaw", name := "desk", desc := "(LLetterAuction;II[J)I" } : MethodName) ∈ bw := List.mem_filter.mpr ⟨List.mem_of_getElem? (i := 417) (by decide +kernel), by decide +kernel⟩
theorem bw_418 : Cond.static ({ cls := "LetterAuctionLaw", name := "desk", desc := "(LLetterAuction;II[J)I" } : MethodName) ∈ bw := List.mem_filter.mpr ⟨List.mem_of_getElem? (i := 418) (by decide +kernel), by decide +kernel⟩
theorem bw_419 : Cond.codeWith ({ cls := "LetterAuctionLaw", name := "desk", desc := "(LLetterAuction;II[J)I" } : MethodName) method_12_code (5 : Nat) (Option.some FieldType.int) [((0 : Nat), (10 : Nat), (13 : Nat), (13 : Nat))] ∈ bw := List.mem_filter.mpr ⟨List.mem_of_getElem? (i := 419) (by decide +kernel), by decide +kernel⟩
theorem bw_420 : Cond.methodLink "LetterAuctionLaw" (45 : Nat) ({ cls := "LetterAuction", name := "desk", desc := "(II)I" } : MethodName) ∈ bw := List.mem_filter.mpr ⟨List.mem_of_getElem? (i := 420) (by decide +kernel), by decide +kernel⟩
theorem bw_421 : Cond.instanceMethod ({ cls := "LetterAuction", name := "desk", desc := "(II)I" } : MethodName) ∈ bw := List.mem_filter.mpr ⟨List.mem_of_getElem? (i := 421) (by decide +kernel), by decide +kernel⟩
theorem bw_422 : Cond.selects "LetterAuction" ({ cls := "LetterAuction", name := "desk", desc := "(II)I" } : MethodName) ({ cls := "LetterAuction", name := "desk", desc := "(II)I" } : MethodName) ∈ bw := List.mem_filter.mpr ⟨List.mem_of_getElem? (i := 422) (by decide +kernel), by decide +kernel⟩
theorem bw_423 : Cond.code ({ cls := "LetterAuction", name := "desk", desc := "(II)I" } : MethodName) prog_1_method_12_code (4 : Nat) (Option.some FieldType.int) ∈ bw := List.mem_filter.mpr ⟨List.mem_of_getElem? (i := 423) (by decide +kernel), by decide +kernel⟩
theorem bw_424 : Cond.methodLink "LetterAuctionLaw" (118 : Nat) ({ cls := "LetterAuctionLaw", name := "phase", desc := "(LLetterAuction;[J)I" } : MethodName) ∈ bw := List.mem_filter.mpr ⟨List.mem_of_getElem? (i := 424) (by decide +kernel), by decide +kernel⟩
theorem bw_425 : Cond.static ({ cls := "LetterAuctionLaw", name := "phase", desc := "(LLetterAuction;[J)I" } : MethodName) ∈ bw := List.mem_filter.mpr ⟨List.mem_of_getElem? (i := 425) (by decide +kernel), by decide +kernel⟩
theorem bw_426 : Cond.codeWith ({ cls := "LetterAuctionLaw", name := "phase", desc := "(LLetterAuction;[J)I" } : MethodName) method_13_code (3 : Nat) (Option.some FieldType.int) [((0 : Nat), (8 : Nat), (11 : Nat), (15 : Nat))] ∈ bw := List.mem_filter.mpr ⟨List.mem_of_getElem? (i := 426) (by decide +kernel), by decide +kernel⟩
theorem bw_427 : Cond.methodLink "LetterAuctionLaw" (48 : Nat) ({ cls := "LetterAuction", name := "phase", desc := "()I" } : MethodName) ∈ bw := List.mem_filter.mpr ⟨List.mem_of_getElem? (i := 427) (by decide +kernel), by decide +kernel⟩
theorem bw_428 : Cond.instanceMethod ({ cls := "LetterAuction", name := "phase", desc := "()I" } : MethodName) ∈ bw := List.mem_filter.mpr ⟨List.mem_of_getElem? (i := 428) (by decide +kernel), by decide +kernel⟩
theorem bw_429 : Cond.selects "LetterAuction" ({ cls := "LetterAuction", name := "phase", desc := "()I" } : MethodName) ({ cls := "LetterAuction", name := "phase", desc := "()I" } : MethodName) ∈ bw := List.mem_filter.mpr ⟨List.mem_of_getElem? (i := 429) (by decide +kernel), by decide +kernel⟩
theorem bw_430 : Cond.code ({ cls := "LetterAuction", name := "phase", desc := "()I" } : MethodName) prog_1_method_14_code (2 : Nat) (Option.some FieldType.int) ∈ bw := List.mem_filter.mpr ⟨List.mem_of_getElem? (i := 430) (by decide +kernel), by decide +kernel⟩
theorem bw_431 : Cond.methodLink "LetterAuctionLaw" (122 : Nat) ({ cls := "LetterAuctionLaw", name := "total", desc := "(LLetterAuction;[J)I" } : MethodName) ∈ bw := List.mem_filter.mpr ⟨List.mem_of_getElem? (i := 431) (by decide +kernel), by decide +kernel⟩
theorem bw_432 : Cond.static ({ cls := "LetterAuctionLaw", name := "total", desc := "(LLetterAuction;[J)I" } : MethodName) ∈ bw := List.mem_filter.mpr ⟨List.mem_of_getElem? (i := 432) (by decide +kernel), by decide +kernel⟩
theorem bw_433 : Cond.codeWith ({ cls := "LetterAuctionLaw", name := "total", desc := "(LLetterAuction;[J)I" } : MethodName) method_14_code (3 : Nat) (Option.some FieldType.int) [((0 : Nat), (8 : Nat), (11 : Nat), (15 : Nat))] ∈ bw := List.mem_filter.mpr ⟨List.mem_of_getElem? (i := 433) (by decide +kernel), by decide +kernel⟩
theorem bw_434 : Cond.methodLink "LetterAuctionLaw" (52 : Nat) ({ cls := "LetterAuction", name := "total", desc := "()I" } : MethodName) ∈ bw := List.mem_filter.mpr ⟨List.mem_of_getElem? (i := 434) (by decide +kernel), by decide +kernel⟩
theorem bw_435 : Cond.instanceMethod ({ cls := "LetterAuction", name := "total", desc := "()I" } : MethodName) ∈ bw := List.mem_filter.mpr ⟨List.mem_of_getElem? (i := 435) (by decide +kernel), by decide +kernel⟩
theorem bw_436 : Cond.selects "LetterAuction" ({ cls := "LetterAuction", name := "total", desc := "()I" } : MethodName) ({ cls := "LetterAuction", name := "total", desc := "()I" } : MethodName) ∈ bw := List.mem_filter.mpr ⟨List.mem_of_getElem? (i := 436) (by decide +kernel), by decide +kernel⟩
theorem bw_437 : Cond.code ({ cls := "LetterAuction", name := "total", desc := "()I" } : MethodName) prog_1_method_15_code (3 : Nat) (Option.some FieldType.int) ∈ bw := List.mem_filter.mpr ⟨List.mem_of_getElem? (i := 437) (by decide +kernel), by decide +kernel⟩
theorem bw_438 : Cond.methodLink "LetterAuctionLaw" (125 : Nat) ({ cls := "LetterAuctionLaw", name := "proves", desc := "(LLetterAuction;[J)I" } : MethodName) ∈ bw := List.mem_filter.mpr ⟨List.mem_of_getElem? (i := 438) (by decide +kernel), by decide +kernel⟩
theorem bw_439 : Cond.static ({ cls := "LetterAuctionLaw", name := "proves", desc := "(LLetterAuction;[J)I" } : MethodName) ∈ bw := List.mem_filter.mpr ⟨List.mem_of_getElem? (i := 439) (by decide +kernel), by decide +kernel⟩
theorem bw_440 : Cond.codeWith ({ cls := "LetterAuctionLaw", name := "proves", desc := "(LLetterAuction;[J)I" } : MethodName) method_15_code (3 : Nat) (Option.some FieldType.int) [((0 : Nat), (15 : Nat), (18 : Nat), (15 : Nat))] ∈ bw := List.mem_filter.mpr ⟨List.mem_of_getElem? (i := 440) (by decide +kernel), by decide +kernel⟩
theorem bw_441 : Cond.methodLink "LetterAuctionLaw" (55 : Nat) ({ cls := "LetterAuction", name := "proves", desc := "()Z" } : MethodName) ∈ bw := List.mem_filter.mpr ⟨List.mem_of_getElem? (i := 441) (by decide +kernel), by decide +kernel⟩
theorem bw_442 : Cond.instanceMethod ({ cls := "LetterAuction", name := "proves", desc := "()Z" } : MethodName) ∈ bw := List.mem_filter.mpr ⟨List.mem_of_getElem? (i := 442) (by decide +kernel), by decide +kernel⟩
theorem bw_443 : Cond.selects "LetterAuction" ({ cls := "LetterAuction", name := "proves", desc := "()Z" } : MethodName) ({ cls := "LetterAuction", name := "proves", desc := "()Z" } : MethodName) ∈ bw := List.mem_filter.mpr ⟨List.mem_of_getElem? (i := 443) (by decide +kernel), by decide +kernel⟩
theorem bw_444 : Cond.code ({ cls := "LetterAuction", name := "proves", desc := "()Z" } : MethodName) prog_1_method_16_code (3 : Nat) (Option.some FieldType.boolean) ∈ bw := List.mem_filter.mpr ⟨List.mem_of_getElem? (i := 444) (by decide +kernel), by decide +kernel⟩
theorem bw_445 : Cond.methodLink "LetterAuctionLaw" (128 : Nat) ({ cls := "LetterAuctionLaw", name := "count", desc := "(LLetterAuction;I[J)I" } : MethodName) ∈ bw := List.mem_filter.mpr ⟨List.mem_of_getElem? (i := 445) (by decide +kernel), by decide +kernel⟩
theorem bw_446 : Cond.static ({ cls := "LetterAuctionLaw", name := "count", desc := "(LLetterAuction;I[J)I" } : MethodName) ∈ bw := List.mem_filter.mpr ⟨List.mem_of_getElem? (i := 446) (by decide +kernel), by decide +kernel⟩
theorem bw_447 : Cond.codeWith ({ cls := "LetterAuctionLaw", name := "count", desc := "(LLetterAuction;I[J)I" } : MethodName) method_16_code (4 : Nat) (Option.some FieldType.int) [((0 : Nat), (9 : Nat), (12 : Nat), (13 : Nat))] ∈ bw := List.mem_filter.mpr ⟨List.mem_of_getElem? (i := 447) (by decide +kernel), by decide +kernel⟩
theorem bw_448 : Cond.methodLink "LetterAuctionLaw" (59 : Nat) ({ cls := "LetterAuction", name := "count", desc := "(I)I" } : MethodName) ∈ bw := List.mem_filter.mpr ⟨List.mem_of_getElem? (i := 448) (by decide +kernel), by decide +kernel⟩
theorem bw_449 : Cond.instanceMethod ({ cls := "LetterAuction", name := "count", desc := "(I)I" } : MethodName) ∈ bw := List.mem_filter.mpr ⟨List.mem_of_getElem? (i := 449) (by decide +kernel), by decide +kernel⟩
theorem bw_450 : Cond.selects "LetterAuction" ({ cls := "LetterAuction", name := "count", desc := "(I)I" } : MethodName) ({ cls := "LetterAuction", name := "count", desc := "(I)I" } : MethodName) ∈ bw := List.mem_filter.mpr ⟨List.mem_of_getElem? (i := 450) (by decide +kernel), by decide +kernel⟩
theorem bw_451 : Cond.code ({ cls := "LetterAuction", name := "count", desc := "(I)I" } : MethodName) prog_1_method_17_code (2 : Nat) (Option.some FieldType.int) ∈ bw := List.mem_filter.mpr ⟨List.mem_of_getElem? (i := 451) (by decide +kernel), by decide +kernel⟩
theorem bw_452 : Cond.classLink "LetterAuctionLaw" (71 : Nat) "LetterAuctionModel" ∈ bw := List.mem_filter.mpr ⟨List.mem_of_getElem? (i := 452) (by decide +kernel), by decide +kernel⟩
theorem bw_453 : Cond.instantiable "LetterAuctionModel" (15 : Nat) ∈ bw := List.mem_filter.mpr ⟨List.mem_of_getElem? (i := 453) (by decide +kernel), by decide +kernel⟩
theorem bw_454 : Cond.methodLink "LetterAuctionLaw" (73 : Nat) ({ cls := "LetterAuctionModel", name := "<init>", desc := "(II)V" } : MethodName) ∈ bw := List.mem_filter.mpr ⟨List.mem_of_getElem? (i := 454) (by decide +kernel), by decide +kernel⟩
theorem bw_455 : Cond.instanceMethod ({ cls := "LetterAuctionModel", name := "<init>", desc := "(II)V" } : MethodName) ∈ bw := List.mem_filter.mpr ⟨List.mem_of_getElem? (i := 455) (by decide +kernel), by decide +kernel⟩
theorem bw_456 : Cond.code ({ cls := "LetterAuctionModel", name := "<init>", desc := "(II)V" } : MethodName) prog_6_method_1_code (3 : Nat) (Option.none : Option FieldType) ∈ bw := List.mem_filter.mpr ⟨List.mem_of_getElem? (i := 456) (by decide +kernel), by decide +kernel⟩
theorem bw_457 : Cond.methodLink "LetterAuctionModel" (1 : Nat) ({ cls := "java/lang/Object", name := "<init>", desc := "()V" } : MethodName) ∈ bw := List.mem_filter.mpr ⟨List.mem_of_getElem? (i := 457) (by decide +kernel), by decide +kernel⟩
theorem bw_458 : Cond.methodLink "LetterAuctionModel" (50 : Nat) ({ cls := "LetterAuctionModel", name := "clean", desc := "()V" } : MethodName) ∈ bw := List.mem_filter.mpr ⟨List.mem_of_getElem? (i := 458) (by decide +kernel), by decide +kernel⟩
theorem bw_460 : Cond.instanceMethod ({ cls := "LetterAuctionModel", name := "clean", desc := "()V" } : MethodName) ∈ bw := List.mem_filter.mpr ⟨List.mem_of_getElem? (i := 460) (by decide +kernel), by decide +kernel⟩
theorem bw_461 : Cond.code ({ cls := "LetterAuctionModel", name := "clean", desc := "()V" } : MethodName) prog_6_method_4_code (2 : Nat) (Option.none : Option FieldType) ∈ bw := List.mem_filter.mpr ⟨List.mem_of_getElem? (i := 461) (by decide +kernel), by decide +kernel⟩
theorem bw_462 : Cond.fieldLink "LetterAuctionModel" (53 : Nat) "LetterAuctionModel" "thrown" "I" ∈ bw := List.mem_filter.mpr ⟨List.mem_of_getElem? (i := 462) (by decide +kernel), by decide +kernel⟩
theorem bw_463 : Cond.fieldLink "LetterAuctionModel" (43 : Nat) "LetterAuctionModel" "n" "I" ∈ bw := List.mem_filter.mpr ⟨List.mem_of_getElem? (i := 463) (by decide +kernel), by decide +kernel⟩
theorem bw_464 : Cond.fieldLink "LetterAuctionModel" (47 : Nat) "LetterAuctionModel" "step" "I" ∈ bw := List.mem_filter.mpr ⟨List.mem_of_getElem? (i := 464) (by decide +kernel), by decide +kernel⟩
theorem bw_465 : Cond.fieldLink "LetterAuctionModel" (7 : Nat) "LetterAuctionModel" "worths" "[I" ∈ bw := List.mem_filter.mpr ⟨List.mem_of_getElem? (i := 465) (by decide +kernel), by decide +kernel⟩
theorem bw_466 : Cond.fieldLink "LetterAuctionModel" (13 : Nat) "LetterAuctionModel" "knows" "[I" ∈ bw := List.mem_filter.mpr ⟨List.mem_of_getElem? (i := 466) (by decide +kernel), by decide +kernel⟩
theorem bw_467 : Cond.fieldLink "LetterAuctionModel" (16 : Nat) "LetterAuctionModel" "prices" "[I" ∈ bw := List.mem_filter.mpr ⟨List.mem_of_getElem? (i := 467) (by decide +kernel), by decide +kernel⟩
theorem bw_468 : Cond.fieldLink "LetterAuctionModel" (19 : Nat) "LetterAuctionModel" "deskCrew" "[I" ∈ bw := List.mem_filter.mpr ⟨List.mem_of_getElem? (i := 468) (by decide +kernel), by decide +kernel⟩
theorem bw_469 : Cond.fieldLink "LetterAuctionModel" (22 : Nat) "LetterAuctionModel" "deskBid" "[I" ∈ bw := List.mem_filter.mpr ⟨List.mem_of_getElem? (i := 469) (by decide +kernel), by decide +kernel⟩
theorem bw_470 : Cond.fieldLink "LetterAuctionModel" (25 : Nat) "LetterAuctionModel" "states" "[I" ∈ bw := List.mem_filter.mpr ⟨List.mem_of_getElem? (i := 470) (by decide +kernel), by decide +kernel⟩
theorem bw_471 : Cond.fieldLink "LetterAuctionModel" (28 : Nat) "LetterAuctionModel" "targets" "[I" ∈ bw := List.mem_filter.mpr ⟨List.mem_of_getElem? (i := 471) (by decide +kernel), by decide +kernel⟩
theorem bw_472 : Cond.fieldLink "LetterAuctionModel" (31 : Nat) "LetterAuctionModel" "bids" "[I" ∈ bw := List.mem_filter.mpr ⟨List.mem_of_getElem? (i := 472) (by decide +kernel), by decide +kernel⟩
theorem bw_473 : Cond.fieldLink "LetterAuctionModel" (34 : Nat) "LetterAuctionModel" "amounts" "[I" ∈ bw := List.mem_filter.mpr ⟨List.mem_of_getElem? (i := 473) (by decide +kernel), by decide +kernel⟩
theorem bw_474 : Cond.fieldLink "LetterAuctionModel" (56 : Nat) "LetterAuctionModel" "many" "I" ∈ bw := List.mem_filter.mpr ⟨List.mem_of_getElem? (i := 474) (by decide +kernel), by decide +kernel⟩
theorem bw_475 : Cond.fieldLink "LetterAuctionModel" (37 : Nat) "LetterAuctionModel" "mail" "[I" ∈ bw := List.mem_filter.mpr ⟨List.mem_of_getElem? (i := 475) (by decide +kernel), by decide +kernel⟩
theorem bw_476 : Cond.fieldLink "LetterAuctionModel" (40 : Nat) "LetterAuctionModel" "counts" "[I" ∈ bw := List.mem_filter.mpr ⟨List.mem_of_getElem? (i := 476) (by decide +kernel), by decide +kernel⟩
theorem bw_508 : Cond.methodLink "LetterAuctionLaw" (78 : Nat) ({ cls := "LetterAuctionModel", name := "thrown", desc := "()I" } : MethodName) ∈ bw := List.mem_filter.mpr ⟨List.mem_of_getElem? (i := 508) (by decide +kernel), by decide +kernel⟩
theorem bw_509 : Cond.instanceMethod ({ cls := "LetterAuctionModel", name := "thrown", desc := "()I" } : MethodName) ∈ bw := List.mem_filter.mpr ⟨List.mem_of_getElem? (i := 509) (by decide +kernel), by decide +kernel⟩
theorem bw_510 : Cond.selects "LetterAuctionModel" ({ cls := "LetterAuctionModel", name := "thrown", desc := "()I" } : MethodName) ({ cls := "LetterAuctionModel", name := "thrown", desc := "()I" } : MethodName) ∈ bw := List.mem_filter.mpr ⟨List.mem_of_getElem? (i := 510) (by decide +kernel), by decide +kernel⟩
theorem bw_511 : Cond.code ({ cls := "LetterAuctionModel", name := "thrown", desc := "()I" } : MethodName) prog_6_method_2_code (1 : Nat) (Option.some FieldType.int) ∈ bw := List.mem_filter.mpr ⟨List.mem_of_getElem? (i := 511) (by decide +kernel), by decide +kernel⟩
theorem bw_512 : Cond.methodLink "LetterAuctionLaw" (77 : Nat) ({ cls := "LetterAuctionModel", name := "worth", desc := "(III)V" } : MethodName) ∈ bw := List.mem_filter.mpr ⟨List.mem_of_getElem? (i := 512) (by decide +kernel), by decide +kernel⟩
theorem bw_513 : Cond.instanceMethod ({ cls := "LetterAuctionModel", name := "worth", desc := "(III)V" } : MethodName) ∈ bw := List.mem_filter.mpr ⟨List.mem_of_getElem? (i := 513) (by decide +kernel), by decide +kernel⟩
theorem bw_514 : Cond.selects "LetterAuctionModel" ({ cls := "LetterAuctionModel", name := "worth", desc := "(III)V" } : MethodName) ({ cls := "LetterAuctionModel", name := "worth", desc := "(III)V" } : MethodName) ∈ bw := List.mem_filter.mpr ⟨List.mem_of_getElem? (i := 514) (by decide +kernel), by decide +kernel⟩
theorem bw_515 : Cond.code ({ cls := "LetterAuctionModel", name := "worth", desc := "(III)V" } : MethodName) prog_6_method_6_code (6 : Nat) (Option.none : Option FieldType) ∈ bw := List.mem_filter.mpr ⟨List.mem_of_getElem? (i := 515) (by decide +kernel), by decide +kernel⟩
theorem bw_516 : Cond.methodLink "LetterAuctionModel" (59 : Nat) ({ cls := "LetterAuctionModel", name := "isSettled", desc := "()Z" } : MethodName) ∈ bw := List.mem_filter.mpr ⟨List.mem_of_getElem? (i := 516) (by decide +kernel), by decide +kernel⟩
theorem bw_518 : Cond.instanceMethod ({ cls := "LetterAuctionModel", name := "isSettled", desc := "()Z" } : MethodName) ∈ bw := List.mem_filter.mpr ⟨List.mem_of_getElem? (i := 518) (by decide +kernel), by decide +kernel⟩
theorem bw_519 : Cond.code ({ cls := "LetterAuctionModel", name := "isSettled", desc := "()Z" } : MethodName) prog_6_method_5_code (4 : Nat) (Option.some FieldType.boolean) ∈ bw := List.mem_filter.mpr ⟨List.mem_of_getElem? (i := 519) (by decide +kernel), by decide +kernel⟩
theorem bw_520 : Cond.methodLink "LetterAuctionModel" (63 : Nat) ({ cls := "LetterAuctionModel", name := "no", desc := "(I)Z" } : MethodName) ∈ bw := List.mem_filter.mpr ⟨List.mem_of_getElem? (i := 520) (by decide +kernel), by decide +kernel⟩
theorem bw_522 : Cond.instanceMethod ({ cls := "LetterAuctionModel", name := "no", desc := "(I)Z" } : MethodName) ∈ bw := List.mem_filter.mpr ⟨List.mem_of_getElem? (i := 522) (by decide +kernel), by decide +kernel⟩
theorem bw_523 : Cond.code ({ cls := "LetterAuctionModel", name := "no", desc := "(I)Z" } : MethodName) prog_6_method_3_code (2 : Nat) (Option.some FieldType.boolean) ∈ bw := List.mem_filter.mpr ⟨List.mem_of_getElem? (i := 523) (by decide +kernel), by decide +kernel⟩
theorem bw_524 : Cond.methodLink "LetterAuctionLaw" (84 : Nat) ({ cls := "LetterAuctionModel", name := "act", desc := "(I)I" } : MethodName) ∈ bw := List.mem_filter.mpr ⟨List.mem_of_getElem? (i := 524) (by decide +kernel), by decide +kernel⟩
theorem bw_525 : Cond.instanceMethod ({ cls := "LetterAuctionModel", name := "act", desc := "(I)I" } : MethodName) ∈ bw := List.mem_filter.mpr ⟨List.mem_of_getElem? (i := 525) (by decide +kernel), by decide +kernel⟩
theorem bw_526 : Cond.selects "LetterAuctionModel" ({ cls := "LetterAuctionModel", name := "act", desc := "(I)I" } : MethodName) ({ cls := "LetterAuctionModel", name := "act", desc := "(I)I" } : MethodName) ∈ bw := List.mem_filter.mpr ⟨List.mem_of_getElem? (i := 526) (by decide +kernel), by decide +kernel⟩
theorem bw_527 : Cond.code ({ cls := "LetterAuctionModel", name := "act", desc := "(I)I" } : MethodName) prog_6_method_11_code (5 : Nat) (Option.some FieldType.int) ∈ bw := List.mem_filter.mpr ⟨List.mem_of_getElem? (i := 527) (by decide +kernel), by decide +kernel⟩
theorem bw_528 : Cond.methodLink "LetterAuctionModel" (67 : Nat) ({ cls := "LetterAuctionModel", name := "valueOf", desc := "(II)I" } : MethodName) ∈ bw := List.mem_filter.mpr ⟨List.mem_of_getElem? (i := 528) (by decide +kernel), by decide +kernel⟩
theorem bw_530 : Cond.instanceMethod ({ cls := "LetterAuctionModel", name := "valueOf", desc := "(II)I" } : MethodName) ∈ bw := List.mem_filter.mpr ⟨List.mem_of_getElem? (i := 530) (by decide +kernel), by decide +kernel⟩
theorem bw_531 : Cond.code ({ cls := "LetterAuctionModel", name := "valueOf", desc := "(II)I" } : MethodName) prog_6_method_10_code (3 : Nat) (Option.some FieldType.int) ∈ bw := List.mem_filter.mpr ⟨List.mem_of_getElem? (i := 531) (by decide +kernel), by decide +kernel⟩
theorem bw_532 : Cond.methodLink "LetterAuctionModel" (71 : Nat) ({ cls := "LetterAuctionModel", name := "send", desc := "(IIIII)V" } : MethodName) ∈ bw := List.mem_filter.mpr ⟨List.mem_of_getElem? (i := 532) (by decide +kernel), by decide +kernel⟩
theorem bw_534 : Cond.instanceMethod ({ cls := "LetterAuctionModel", name := "send", desc := "(IIIII)V" } : MethodName) ∈ bw := List.mem_filter.mpr ⟨List.mem_of_getElem? (i := 534) (by decide +kernel), by decide +kernel⟩
theorem bw_535 : Cond.code ({ cls := "LetterAuctionModel", name := "send", desc := "(IIIII)V" } : MethodName) prog_6_method_7_code (7 : Nat) (Option.none : Option FieldType) ∈ bw := List.mem_filter.mpr ⟨List.mem_of_getElem? (i := 535) (by decide +kernel), by decide +kernel⟩
theorem bw_536 : Cond.methodLink "LetterAuctionLaw" (87 : Nat) ({ cls := "LetterAuctionModel", name := "resend", desc := "(I)I" } : MethodName) ∈ bw := List.mem_filter.mpr ⟨List.mem_of_getElem? (i := 536) (by decide +kernel), by decide +kernel⟩
theorem bw_537 : Cond.instanceMethod ({ cls := "LetterAuctionModel", name := "resend", desc := "(I)I" } : MethodName) ∈ bw := List.mem_filter.mpr ⟨List.mem_of_getElem? (i := 537) (by decide +kernel), by decide +kernel⟩
theorem bw_538 : Cond.selects "LetterAuctionModel" ({ cls := "LetterAuctionModel", name := "resend", desc := "(I)I" } : MethodName) ({ cls := "LetterAuctionModel", name := "resend", desc := "(I)I" } : MethodName) ∈ bw := List.mem_filter.mpr ⟨List.mem_of_getElem? (i := 538) (by decide +kernel), by decide +kernel⟩
theorem bw_539 : Cond.code ({ cls := "LetterAuctionModel", name := "resend", desc := "(I)I" } : MethodName) prog_6_method_12_code (2 : Nat) (Option.some FieldType.int) ∈ bw := List.mem_filter.mpr ⟨List.mem_of_getElem? (i := 539) (by decide +kernel), by decide +kernel⟩
theorem bw_540 : Cond.methodLink "LetterAuctionLaw" (90 : Nat) ({ cls := "LetterAuctionModel", name := "deliver", desc := "(I)I" } : MethodName) ∈ bw := List.mem_filter.mpr ⟨List.mem_of_getElem? (i := 540) (by decide +kernel), by decide +kernel⟩
theorem bw_541 : Cond.instanceMethod ({ cls := "LetterAuctionModel", name := "deliver", desc := "(I)I" } : MethodName) ∈ bw := List.mem_filter.mpr ⟨List.mem_of_getElem? (i := 541) (by decide +kernel), by decide +kernel⟩
theorem bw_542 : Cond.selects "LetterAuctionModel" ({ cls := "LetterAuctionModel", name := "deliver", desc := "(I)I" } : MethodName) ({ cls := "LetterAuctionModel", name := "deliver", desc := "(I)I" } : MethodName) ∈ bw := List.mem_filter.mpr ⟨List.mem_of_getElem? (i := 542) (by decide +kernel), by decide +kernel⟩
theorem bw_543 : Cond.code ({ cls := "LetterAuctionModel", name := "deliver", desc := "(I)I" } : MethodName) prog_6_method_15_code (7 : Nat) (Option.some FieldType.int) ∈ bw := List.mem_filter.mpr ⟨List.mem_of_getElem? (i := 543) (by decide +kernel), by decide +kernel⟩
theorem bw_544 : Cond.methodLink "LetterAuctionModel" (75 : Nat) ({ cls := "LetterAuctionModel", name := "noLetter", desc := "(I)Z" } : MethodName) ∈ bw := List.mem_filter.mpr ⟨List.mem_of_getElem? (i := 544) (by decide +kernel), by decide +kernel⟩
theorem bw_546 : Cond.instanceMethod ({ cls := "LetterAuctionModel", name := "noLetter", desc := "(I)Z" } : MethodName) ∈ bw := List.mem_filter.mpr ⟨List.mem_of_getElem? (i := 546) (by decide +kernel), by decide +kernel⟩
theorem bw_547 : Cond.code ({ cls := "LetterAuctionModel", name := "noLetter", desc := "(I)Z" } : MethodName) prog_6_method_9_code (2 : Nat) (Option.some FieldType.boolean) ∈ bw := List.mem_filter.mpr ⟨List.mem_of_getElem? (i := 547) (by decide +kernel), by decide +kernel⟩
theorem bw_548 : Cond.methodLink "LetterAuctionModel" (78 : Nat) ({ cls := "LetterAuctionModel", name := "drop", desc := "(I)V" } : MethodName) ∈ bw := List.mem_filter.mpr ⟨List.mem_of_getElem? (i := 548) (by decide +kernel), by decide +kernel⟩
theorem bw_550 : Cond.instanceMethod ({ cls := "LetterAuctionModel", name := "drop", desc := "(I)V" } : MethodName) ∈ bw := List.mem_filter.mpr ⟨List.mem_of_getElem? (i := 550) (by decide +kernel), by decide +kernel⟩
theorem bw_551 : Cond.code ({ cls := "LetterAuctionModel", name := "drop", desc := "(I)V" } : MethodName) prog_6_method_8_code (3 : Nat) (Option.none : Option FieldType) ∈ bw := List.mem_filter.mpr ⟨List.mem_of_getElem? (i := 551) (by decide +kernel), by decide +kernel⟩
theorem bw_552 : Cond.methodLink "LetterAuctionModel" (82 : Nat) ({ cls := "LetterAuctionModel", name := "bidComes", desc := "(IIII)V" } : MethodName) ∈ bw := List.mem_filter.mpr ⟨List.mem_of_getElem? (i := 552) (by decide +kernel), by decide +kernel⟩
theorem bw_554 : Cond.instanceMethod ({ cls := "LetterAuctionModel", name := "bidComes", desc := "(IIII)V" } : MethodName) ∈ bw := List.mem_filter.mpr ⟨List.mem_of_getElem? (i := 554) (by decide +kernel), by decide +kernel⟩
theorem bw_555 : Cond.code ({ cls := "LetterAuctionModel", name := "bidComes", desc := "(IIII)V" } : MethodName) prog_6_method_13_code (6 : Nat) (Option.none : Option FieldType) ∈ bw := List.mem_filter.mpr ⟨List.mem_of_getElem? (i := 555) (by decide +kernel), by decide +kernel⟩
theorem bw_556 : Cond.methodLink "LetterAuctionModel" (86 : Nat) ({ cls := "LetterAuctionModel", name := "answerComes", desc := "(IIIII)V" } : MethodName) ∈ bw := List.mem_filter.mpr ⟨List.mem_of_getElem? (i := 556) (by decide +kernel), by decide +kernel⟩
theorem bw_558 : Cond.instanceMethod ({ cls := "LetterAuctionModel", name := "answerComes", desc := "(IIIII)V" } : MethodName) ∈ bw := List.mem_filter.mpr ⟨List.mem_of_getElem? (i := 558) (by decide +kernel), by decide +kernel⟩
theorem bw_559 : Cond.code ({ cls := "LetterAuctionModel", name := "answerComes", desc := "(IIIII)V" } : MethodName) prog_6_method_14_code (6 : Nat) (Option.none : Option FieldType) ∈ bw := List.mem_filter.mpr ⟨List.mem_of_getElem? (i := 559) (by decide +kernel), by decide +kernel⟩
theorem bw_560 : Cond.methodLink "LetterAuctionLaw" (93 : Nat) ({ cls := "LetterAuctionModel", name := "lose", desc := "(I)I" } : MethodName) ∈ bw := List.mem_filter.mpr ⟨List.mem_of_getElem? (i := 560) (by decide +kernel), by decide +kernel⟩
theorem bw_561 : Cond.instanceMethod ({ cls := "LetterAuctionModel", name := "lose", desc := "(I)I" } : MethodName) ∈ bw := List.mem_filter.mpr ⟨List.mem_of_getElem? (i := 561) (by decide +kernel), by decide +kernel⟩
theorem bw_562 : Cond.selects "LetterAuctionModel" ({ cls := "LetterAuctionModel", name := "lose", desc := "(I)I" } : MethodName) ({ cls := "LetterAuctionModel", name := "lose", desc := "(I)I" } : MethodName) ∈ bw := List.mem_filter.mpr ⟨List.mem_of_getElem? (i := 562) (by decide +kernel), by decide +kernel⟩
theorem bw_563 : Cond.code ({ cls := "LetterAuctionModel", name := "lose", desc := "(I)I" } : MethodName) prog_6_method_16_code (2 : Nat) (Option.some FieldType.int) ∈ bw := List.mem_filter.mpr ⟨List.mem_of_getElem? (i := 563) (by decide +kernel), by decide +kernel⟩
theorem bw_564 : Cond.methodLink "LetterAuctionLaw" (96 : Nat) ({ cls := "LetterAuctionModel", name := "twin", desc := "(I)I" } : MethodName) ∈ bw := List.mem_filter.mpr ⟨List.mem_of_getElem? (i := 564) (by decide +kernel), by decide +kernel⟩
theorem bw_565 : Cond.instanceMethod ({ cls := "LetterAuctionModel", name := "twin", desc := "(I)I" } : MethodName) ∈ bw := List.mem_filter.mpr ⟨List.mem_of_getElem? (i := 565) (by decide +kernel), by decide +kernel⟩
theorem bw_566 : Cond.selects "LetterAuctionModel" ({ cls := "LetterAuctionModel", name := "twin", desc := "(I)I" } : MethodName) ({ cls := "LetterAuctionModel", name := "twin", desc := "(I)I" } : MethodName) ∈ bw := List.mem_filter.mpr ⟨List.mem_of_getElem? (i := 566) (by decide +kernel), by decide +kernel⟩
theorem bw_567 : Cond.code ({ cls := "LetterAuctionModel", name := "twin", desc := "(I)I" } : MethodName) prog_6_method_17_code (3 : Nat) (Option.some FieldType.int) ∈ bw := List.mem_filter.mpr ⟨List.mem_of_getElem? (i := 567) (by decide +kernel), by decide +kernel⟩
theorem bw_568 : Cond.methodLink "LetterAuctionLaw" (100 : Nat) ({ cls := "LetterAuctionModel", name := "letters", desc := "()I" } : MethodName) ∈ bw := List.mem_filter.mpr ⟨List.mem_of_getElem? (i := 568) (by decide +kernel), by decide +kernel⟩
theorem bw_569 : Cond.instanceMethod ({ cls := "LetterAuctionModel", name := "letters", desc := "()I" } : MethodName) ∈ bw := List.mem_filter.mpr ⟨List.mem_of_getElem? (i := 569) (by decide +kernel), by decide +kernel⟩
theorem bw_570 : Cond.selects "LetterAuctionModel" ({ cls := "LetterAuctionModel", name := "letters", desc := "()I" } : MethodName) ({ cls := "LetterAuctionModel", name := "letters", desc := "()I" } : MethodName) ∈ bw := List.mem_filter.mpr ⟨List.mem_of_getElem? (i := 570) (by decide +kernel), by decide +kernel⟩
theorem bw_571 : Cond.code ({ cls := "LetterAuctionModel", name := "letters", desc := "()I" } : MethodName) prog_6_method_18_code (1 : Nat) (Option.some FieldType.int) ∈ bw := List.mem_filter.mpr ⟨List.mem_of_getElem? (i := 571) (by decide +kernel), by decide +kernel⟩
theorem bw_572 : Cond.methodLink "LetterAuctionLaw" (104 : Nat) ({ cls := "LetterAuctionModel", name := "letter", desc := "(II)I" } : MethodName) ∈ bw := List.mem_filter.mpr ⟨List.mem_of_getElem? (i := 572) (by decide +kernel), by decide +kernel⟩
theorem bw_573 : Cond.instanceMethod ({ cls := "LetterAuctionModel", name := "letter", desc := "(II)I" } : MethodName) ∈ bw := List.mem_filter.mpr ⟨List.mem_of_getElem? (i := 573) (by decide +kernel), by decide +kernel⟩
theorem bw_574 : Cond.selects "LetterAuctionModel" ({ cls := "LetterAuctionModel", name := "letter", desc := "(II)I" } : MethodName) ({ cls := "LetterAuctionModel", name := "letter", desc := "(II)I" } : MethodName) ∈ bw := List.mem_filter.mpr ⟨List.mem_of_getElem? (i := 574) (by decide +kernel), by decide +kernel⟩
theorem bw_575 : Cond.code ({ cls := "LetterAuctionModel", name := "letter", desc := "(II)I" } : MethodName) prog_6_method_19_code (3 : Nat) (Option.some FieldType.int) ∈ bw := List.mem_filter.mpr ⟨List.mem_of_getElem? (i := 575) (by decide +kernel), by decide +kernel⟩
theorem bw_576 : Cond.methodLink "LetterAuctionLaw" (107 : Nat) ({ cls := "LetterAuctionModel", name := "crew", desc := "(II)I" } : MethodName) ∈ bw := List.mem_filter.mpr ⟨List.mem_of_getElem? (i := 576) (by decide +kernel), by decide +kernel⟩
theorem bw_577 : Cond.instanceMethod ({ cls := "LetterAuctionModel", name := "crew", desc := "(II)I" } : MethodName) ∈ bw := List.mem_filter.mpr ⟨List.mem_of_getElem? (i := 577) (by decide +kernel), by decide +kernel⟩
theorem bw_578 : Cond.selects "LetterAuctionModel" ({ cls := "LetterAuctionModel", name := "crew", desc := "(II)I" } : MethodName) ({ cls := "LetterAuctionModel", name := "crew", desc := "(II)I" } : MethodName) ∈ bw := List.mem_filter.mpr ⟨List.mem_of_getElem? (i := 578) (by decide +kernel), by decide +kernel⟩
theorem bw_579 : Cond.code ({ cls := "LetterAuctionModel", name := "crew", desc := "(II)I" } : MethodName) prog_6_method_21_code (3 : Nat) (Option.some FieldType.int) ∈ bw := List.mem_filter.mpr ⟨List.mem_of_getElem? (i := 579) (by decide +kernel), by decide +kernel⟩
theorem bw_580 : Cond.methodLink "LetterAuctionModel" (89 : Nat) ({ cls := "LetterAuctionModel", name := "profitOf", desc := "(I)I" } : MethodName) ∈ bw := List.mem_filter.mpr ⟨List.mem_of_getElem? (i := 580) (by decide +kernel), by decide +kernel⟩
theorem bw_582 : Cond.instanceMethod ({ cls := "LetterAuctionModel", name := "profitOf", desc := "(I)I" } : MethodName) ∈ bw := List.mem_filter.mpr ⟨List.mem_of_getElem? (i := 582) (by decide +kernel), by decide +kernel⟩
theorem bw_583 : Cond.code ({ cls := "LetterAuctionModel", name := "profitOf", desc := "(I)I" } : MethodName) prog_6_method_20_code (5 : Nat) (Option.some FieldType.int) ∈ bw := List.mem_filter.mpr ⟨List.mem_of_getElem? (i := 583) (by decide +kernel), by decide +kernel⟩
theorem bw_584 : Cond.methodLink "LetterAuctionLaw" (110 : Nat) ({ cls := "LetterAuctionModel", name := "known", desc := "(II)I" } : MethodName) ∈ bw := List.mem_filter.mpr ⟨List.mem_of_getElem? (i := 584) (by decide +kernel), by decide +kernel⟩
theorem bw_585 : Cond.instanceMethod ({ cls := "LetterAuctionModel", name := "known", desc := "(II)I" } : MethodName) ∈ bw := List.mem_filter.mpr ⟨List.mem_of_getElem? (i := 585) (by decide +kernel), by decide +kernel⟩
theorem bw_586 : Cond.selects "LetterAuctionModel" ({ cls := "LetterAuctionModel", name := "known", desc := "(II)I" } : MethodName) ({ cls := "LetterAuctionModel", name := "known", desc := "(II)I" } : MethodName) ∈ bw := List.mem_filter.mpr ⟨List.mem_of_getElem? (i := 586) (by decide +kernel), by decide +kernel⟩
theorem bw_587 : Cond.code ({ cls := "LetterAuctionModel", name := "known", desc := "(II)I" } : MethodName) prog_6_method_22_code (3 : Nat) (Option.some FieldType.int) ∈ bw := List.mem_filter.mpr ⟨List.mem_of_getElem? (i := 587) (by decide +kernel), by decide +kernel⟩
theorem bw_588 : Cond.methodLink "LetterAuctionLaw" (113 : Nat) ({ cls := "LetterAuctionModel", name := "desk", desc := "(II)I" } : MethodName) ∈ bw := List.mem_filter.mpr ⟨List.mem_of_getElem? (i := 588) (by decide +kernel), by decide +kernel⟩
theorem bw_589 : Cond.instanceMethod ({ cls := "LetterAuctionModel", name := "desk", desc := "(II)I" } : MethodName) ∈ bw := List.mem_filter.mpr ⟨List.mem_of_getElem? (i := 589) (by decide +kernel), by decide +kernel⟩
theorem bw_590 : Cond.selects "LetterAuctionModel" ({ cls := "LetterAuctionModel", name := "desk", desc := "(II)I" } : MethodName) ({ cls := "LetterAuctionModel", name := "desk", desc := "(II)I" } : MethodName) ∈ bw := List.mem_filter.mpr ⟨List.mem_of_getElem? (i := 590) (by decide +kernel), by decide +kernel⟩
theorem bw_591 : Cond.code ({ cls := "LetterAuctionModel", name := "desk", desc := "(II)I" } : MethodName) prog_6_method_23_code (3 : Nat) (Option.some FieldType.int) ∈ bw := List.mem_filter.mpr ⟨List.mem_of_getElem? (i := 591) (by decide +kernel), by decide +kernel⟩
theorem bw_592 : Cond.methodLink "LetterAuctionLaw" (117 : Nat) ({ cls := "LetterAuctionModel", name := "settled", desc := "()Z" } : MethodName) ∈ bw := List.mem_filter.mpr ⟨List.mem_of_getElem? (i := 592) (by decide +kernel), by decide +kernel⟩
theorem bw_593 : Cond.instanceMethod ({ cls := "LetterAuctionModel", name := "settled", desc := "()Z" } : MethodName) ∈ bw := List.mem_filter.mpr ⟨List.mem_of_getElem? (i := 593) (by decide +kernel), by decide +kernel⟩
theorem bw_594 : Cond.selects "LetterAuctionModel" ({ cls := "LetterAuctionModel", name := "settled", desc := "()Z" } : MethodName) ({ cls := "LetterAuctionModel", name := "settled", desc := "()Z" } : MethodName) ∈ bw := List.mem_filter.mpr ⟨List.mem_of_getElem? (i := 594) (by decide +kernel), by decide +kernel⟩
theorem bw_595 : Cond.code ({ cls := "LetterAuctionModel", name := "settled", desc := "()Z" } : MethodName) prog_6_method_24_code (1 : Nat) (Option.some FieldType.boolean) ∈ bw := List.mem_filter.mpr ⟨List.mem_of_getElem? (i := 595) (by decide +kernel), by decide +kernel⟩
theorem bw_596 : Cond.methodLink "LetterAuctionLaw" (121 : Nat) ({ cls := "LetterAuctionModel", name := "phase", desc := "()I" } : MethodName) ∈ bw := List.mem_filter.mpr ⟨List.mem_of_getElem? (i := 596) (by decide +kernel), by decide +kernel⟩
theorem bw_597 : Cond.instanceMethod ({ cls := "LetterAuctionModel", name := "phase", desc := "()I" } : MethodName) ∈ bw := List.mem_filter.mpr ⟨List.mem_of_getElem? (i := 597) (by decide +kernel), by decide +kernel⟩
theorem bw_598 : Cond.selects "LetterAuctionModel" ({ cls := "LetterAuctionModel", name := "phase", desc := "()I" } : MethodName) ({ cls := "LetterAuctionModel", name := "phase", desc := "()I" } : MethodName) ∈ bw := List.mem_filter.mpr ⟨List.mem_of_getElem? (i := 598) (by decide +kernel), by decide +kernel⟩
theorem bw_599 : Cond.code ({ cls := "LetterAuctionModel", name := "phase", desc := "()I" } : MethodName) prog_6_method_25_code (1 : Nat) (Option.some FieldType.int) ∈ bw := List.mem_filter.mpr ⟨List.mem_of_getElem? (i := 599) (by decide +kernel), by decide +kernel⟩
theorem bw_600 : Cond.methodLink "LetterAuctionLaw" (124 : Nat) ({ cls := "LetterAuctionModel", name := "total", desc := "()I" } : MethodName) ∈ bw := List.mem_filter.mpr ⟨List.mem_of_getElem? (i := 600) (by decide +kernel), by decide +kernel⟩
theorem bw_601 : Cond.instanceMethod ({ cls := "LetterAuctionModel", name := "total", desc := "()I" } : MethodName) ∈ bw := List.mem_filter.mpr ⟨List.mem_of_getElem? (i := 601) (by decide +kernel), by decide +kernel⟩
theorem bw_602 : Cond.selects "LetterAuctionModel" ({ cls := "LetterAuctionModel", name := "total", desc := "()I" } : MethodName) ({ cls := "LetterAuctionModel", name := "total", desc := "()I" } : MethodName) ∈ bw := List.mem_filter.mpr ⟨List.mem_of_getElem? (i := 602) (by decide +kernel), by decide +kernel⟩
theorem bw_603 : Cond.code ({ cls := "LetterAuctionModel", name := "total", desc := "()I" } : MethodName) prog_6_method_26_code (3 : Nat) (Option.some FieldType.int) ∈ bw := List.mem_filter.mpr ⟨List.mem_of_getElem? (i := 603) (by decide +kernel), by decide +kernel⟩
theorem bw_604 : Cond.methodLink "LetterAuctionLaw" (127 : Nat) ({ cls := "LetterAuctionModel", name := "proves", desc := "()Z" } : MethodName) ∈ bw := List.mem_filter.mpr ⟨List.mem_of_getElem? (i := 604) (by decide +kernel), by decide +kernel⟩
theorem bw_605 : Cond.instanceMethod ({ cls := "LetterAuctionModel", name := "proves", desc := "()Z" } : MethodName) ∈ bw := List.mem_filter.mpr ⟨List.mem_of_getElem? (i := 605) (by decide +kernel), by decide +kernel⟩
theorem bw_606 : Cond.selects "LetterAuctionModel" ({ cls := "LetterAuctionModel", name := "proves", desc := "()Z" } : MethodName) ({ cls := "LetterAuctionModel", name := "proves", desc := "()Z" } : MethodName) ∈ bw := List.mem_filter.mpr ⟨List.mem_of_getElem? (i := 606) (by decide +kernel), by decide +kernel⟩
theorem bw_607 : Cond.code ({ cls := "LetterAuctionModel", name := "proves", desc := "()Z" } : MethodName) prog_6_method_27_code (3 : Nat) (Option.some FieldType.boolean) ∈ bw := List.mem_filter.mpr ⟨List.mem_of_getElem? (i := 607) (by decide +kernel), by decide +kernel⟩
theorem bw_608 : Cond.methodLink "LetterAuctionLaw" (130 : Nat) ({ cls := "LetterAuctionModel", name := "count", desc := "(I)I" } : MethodName) ∈ bw := List.mem_filter.mpr ⟨List.mem_of_getElem? (i := 608) (by decide +kernel), by decide +kernel⟩
theorem bw_609 : Cond.instanceMethod ({ cls := "LetterAuctionModel", name := "count", desc := "(I)I" } : MethodName) ∈ bw := List.mem_filter.mpr ⟨List.mem_of_getElem? (i := 609) (by decide +kernel), by decide +kernel⟩
theorem bw_610 : Cond.selects "LetterAuctionModel" ({ cls := "LetterAuctionModel", name := "count", desc := "(I)I" } : MethodName) ({ cls := "LetterAuctionModel", name := "count", desc := "(I)I" } : MethodName) ∈ bw := List.mem_filter.mpr ⟨List.mem_of_getElem? (i := 610) (by decide +kernel), by decide +kernel⟩
theorem bw_611 : Cond.code ({ cls := "LetterAuctionModel", name := "count", desc := "(I)I" } : MethodName) prog_6_method_28_code (2 : Nat) (Option.some FieldType.int) ∈ bw := List.mem_filter.mpr ⟨List.mem_of_getElem? (i := 611) (by decide +kernel), by decide +kernel⟩
theorem bw_612 : Cond.arrayClass FieldType.long ∈ bw := List.mem_filter.mpr ⟨List.mem_of_getElem? (i := 612) (by decide +kernel), by decide +kernel⟩
set_option maxRecDepth 20000 in
theorem in0 : ∀ w ∈ u_ws RX0 TX0 6, w ∈ bw := by decide +kernel
set_option maxRecDepth 20000 in
theorem in1 : ∀ w ∈ u_ws RX1 TX1 3, w ∈ bw := by decide +kernel
set_option maxRecDepth 20000 in
theorem in2 : ∀ w ∈ u_ws RX2 TX2 2, w ∈ bw := by decide +kernel
set_option maxRecDepth 20000 in
theorem in3 : ∀ w ∈ u_ws RX3 TX3 6, w ∈ bw := by decide +kernel
set_option maxRecDepth 20000 in
theorem in4 : ∀ w ∈ u_ws RX4 TX4 15, w ∈ bw := by decide +kernel
theorem bw5 {a b c d e : Cond} (h1 : a ∈ bw) (h2 : b ∈ bw) (h3 : c ∈ bw) (h4 : d ∈ bw) (h5 : e ∈ bw) : ∀ w ∈ ([a, b, c, d, e] : List Cond), w ∈ bw :=
  List.forall_mem_cons.mpr ⟨h1, List.forall_mem_cons.mpr ⟨h2, List.forall_mem_cons.mpr ⟨h3, List.forall_mem_cons.mpr ⟨h4, List.forall_mem_cons.mpr ⟨h5, fun _ h => absurd h List.not_mem_nil⟩⟩⟩⟩⟩
end
section
/-! the model's world and its leaves -/
abbrev ty3 (cI cC cD : ClassId) : List (ClassId × FieldType) := [(cI, .int), (cC, .object RX0), (cD, .object RX1)]
def mlen (r : Nat) : Nat := match r with
  | 1 => 36
  | 2 => 36
  | 10 => 600
  | 11 => 4
  | _ => 6
def mE (ad : Nat → Nat) (cI : ClassId) (th : Int32) (n : Nat) (st : Int32) (mn : Nat) (ar : Nat → Nat → Int32) : Nat → va_E := fun r => match r with
  | 0 => .inr (4, [.int th, .int (nI n), .int st, .ref (ad 1), .ref (ad 2), .ref (ad 3), .ref (ad 4), .ref (ad 5), .ref (ad 6), .ref (ad 7), .ref (ad 8), .ref (ad 9), .int (nI mn), .ref (ad 10), .ref (ad 11)])
  | r + 1 => .inl (cI, mlen (r + 1), .inl (ar (r + 1)))
theorem m12 {P : Nat → Prop} (h0 : P 0) (h1 : P 1) (h2 : P 2) (h3 : P 3) (h4 : P 4) (h5 : P 5) (h6 : P 6) (h7 : P 7) (h8 : P 8) (h9 : P 9) (h10 : P 10) (h11 : P 11) : ∀ q, q < 12 → P q := by
  intro q hq
  rcases (show q = 0 ∨ q = 1 ∨ q = 2 ∨ q = 3 ∨ q = 4 ∨ q = 5 ∨ q = 6 ∨ q = 7 ∨ q = 8 ∨ q = 9 ∨ q = 10 ∨ q = 11 by omega) with h | h | h | h | h | h | h | h | h | h | h | h <;> subst h <;> assumption
theorem nI_c1 : nI 1 = 1 := by decide
theorem nI_c2 : nI 2 = 2 := by decide
theorem nI_s4 (j : Nat) : nI j + Int32.ofInt 4 = nI (j + 4) := nI_add j 4

theorem hdX4_thrown : yX4_thrown.cls = yX4_thrown.cls ∧ yX4_thrown.cls ≠ "java/lang/invoke/MethodHandle" ∧ yX4_thrown.cls ≠ "java/lang/invoke/VarHandle" ∧ (parseMethodDescriptor yX4_thrown.desc).map (fun d => d.parameters.length) = some 0 := by decide +kernel
theorem hdX4_no : yX4_no.cls = yX4_no.cls ∧ yX4_no.cls ≠ "java/lang/invoke/MethodHandle" ∧ yX4_no.cls ≠ "java/lang/invoke/VarHandle" ∧ (parseMethodDescriptor yX4_no.desc).map (fun d => d.parameters.length) = some 1 := by decide +kernel
theorem hdX4_clean : yX4_clean.cls = yX4_clean.cls ∧ yX4_clean.cls ≠ "java/lang/invoke/MethodHandle" ∧ yX4_clean.cls ≠ "java/lang/invoke/VarHandle" ∧ (parseMethodDescriptor yX4_clean.desc).map (fun d => d.parameters.length) = some 0 := by decide +kernel
theorem hdX4_isSettled : yX4_isSettled.cls = yX4_isSettled.cls ∧ yX4_isSettled.cls ≠ "java/lang/invoke/MethodHandle" ∧ yX4_isSettled.cls ≠ "java/lang/invoke/VarHandle" ∧ (parseMethodDescriptor yX4_isSettled.desc).map (fun d => d.parameters.length) = some 0 := by decide +kernel
theorem hdX4_worth : yX4_worth.cls = yX4_worth.cls ∧ yX4_worth.cls ≠ "java/lang/invoke/MethodHandle" ∧ yX4_worth.cls ≠ "java/lang/invoke/VarHandle" ∧ (parseMethodDescriptor yX4_worth.desc).map (fun d => d.parameters.length) = some 3 := by decide +kernel
theorem hdX4_send : yX4_send.cls = yX4_send.cls ∧ yX4_send.cls ≠ "java/lang/invoke/MethodHandle" ∧ yX4_send.cls ≠ "java/lang/invoke/VarHandle" ∧ (parseMethodDescriptor yX4_send.desc).map (fun d => d.parameters.length) = some 5 := by decide +kernel
theorem hdX4_drop : yX4_drop.cls = yX4_drop.cls ∧ yX4_drop.cls ≠ "java/lang/invoke/MethodHandle" ∧ yX4_drop.cls ≠ "java/lang/invoke/VarHandle" ∧ (parseMethodDescriptor yX4_drop.desc).map (fun d => d.parameters.length) = some 1 := by decide +kernel
theorem hdX4_noLetter : yX4_noLetter.cls = yX4_noLetter.cls ∧ yX4_noLetter.cls ≠ "java/lang/invoke/MethodHandle" ∧ yX4_noLetter.cls ≠ "java/lang/invoke/VarHandle" ∧ (parseMethodDescriptor yX4_noLetter.desc).map (fun d => d.parameters.length) = some 1 := by decide +kernel
theorem hdX4_valueOf : yX4_valueOf.cls = yX4_valueOf.cls ∧ yX4_valueOf.cls ≠ "java/lang/invoke/MethodHandle" ∧ yX4_valueOf.cls ≠ "java/lang/invoke/VarHandle" ∧ (parseMethodDescriptor yX4_valueOf.desc).map (fun d => d.parameters.length) = some 2 := by decide +kernel
theorem hdX4_act : yX4_act.cls = yX4_act.cls ∧ yX4_act.cls ≠ "java/lang/invoke/MethodHandle" ∧ yX4_act.cls ≠ "java/lang/invoke/VarHandle" ∧ (parseMethodDescriptor yX4_act.desc).map (fun d => d.parameters.length) = some 1 := by decide +kernel
theorem hdX4_resend : yX4_resend.cls = yX4_resend.cls ∧ yX4_resend.cls ≠ "java/lang/invoke/MethodHandle" ∧ yX4_resend.cls ≠ "java/lang/invoke/VarHandle" ∧ (parseMethodDescriptor yX4_resend.desc).map (fun d => d.parameters.length) = some 1 := by decide +kernel
theorem hdX4_bidComes : yX4_bidComes.cls = yX4_bidComes.cls ∧ yX4_bidComes.cls ≠ "java/lang/invoke/MethodHandle" ∧ yX4_bidComes.cls ≠ "java/lang/invoke/VarHandle" ∧ (parseMethodDescriptor yX4_bidComes.desc).map (fun d => d.parameters.length) = some 4 := by decide +kernel
theorem hdX4_answerComes : yX4_answerComes.cls = yX4_answerComes.cls ∧ yX4_answerComes.cls ≠ "java/lang/invoke/MethodHandle" ∧ yX4_answerComes.cls ≠ "java/lang/invoke/VarHandle" ∧ (parseMethodDescriptor yX4_answerComes.desc).map (fun d => d.parameters.length) = some 5 := by decide +kernel
theorem hdX4_deliver : yX4_deliver.cls = yX4_deliver.cls ∧ yX4_deliver.cls ≠ "java/lang/invoke/MethodHandle" ∧ yX4_deliver.cls ≠ "java/lang/invoke/VarHandle" ∧ (parseMethodDescriptor yX4_deliver.desc).map (fun d => d.parameters.length) = some 1 := by decide +kernel
theorem hdX4_lose : yX4_lose.cls = yX4_lose.cls ∧ yX4_lose.cls ≠ "java/lang/invoke/MethodHandle" ∧ yX4_lose.cls ≠ "java/lang/invoke/VarHandle" ∧ (parseMethodDescriptor yX4_lose.desc).map (fun d => d.parameters.length) = some 1 := by decide +kernel
theorem hdX4_twin : yX4_twin.cls = yX4_twin.cls ∧ yX4_twin.cls ≠ "java/lang/invoke/MethodHandle" ∧ yX4_twin.cls ≠ "java/lang/invoke/VarHandle" ∧ (parseMethodDescriptor yX4_twin.desc).map (fun d => d.parameters.length) = some 1 := by decide +kernel
theorem hdX4_letters : yX4_letters.cls = yX4_letters.cls ∧ yX4_letters.cls ≠ "java/lang/invoke/MethodHandle" ∧ yX4_letters.cls ≠ "java/lang/invoke/VarHandle" ∧ (parseMethodDescriptor yX4_letters.desc).map (fun d => d.parameters.length) = some 0 := by decide +kernel
theorem hdX4_letter : yX4_letter.cls = yX4_letter.cls ∧ yX4_letter.cls ≠ "java/lang/invoke/MethodHandle" ∧ yX4_letter.cls ≠ "java/lang/invoke/VarHandle" ∧ (parseMethodDescriptor yX4_letter.desc).map (fun d => d.parameters.length) = some 2 := by decide +kernel
theorem hdX4_profitOf : yX4_profitOf.cls = yX4_profitOf.cls ∧ yX4_profitOf.cls ≠ "java/lang/invoke/MethodHandle" ∧ yX4_profitOf.cls ≠ "java/lang/invoke/VarHandle" ∧ (parseMethodDescriptor yX4_profitOf.desc).map (fun d => d.parameters.length) = some 1 := by decide +kernel
theorem hdX4_crew : yX4_crew.cls = yX4_crew.cls ∧ yX4_crew.cls ≠ "java/lang/invoke/MethodHandle" ∧ yX4_crew.cls ≠ "java/lang/invoke/VarHandle" ∧ (parseMethodDescriptor yX4_crew.desc).map (fun d => d.parameters.length) = some 2 := by decide +kernel
theorem hdX4_known : yX4_known.cls = yX4_known.cls ∧ yX4_known.cls ≠ "java/lang/invoke/MethodHandle" ∧ yX4_known.cls ≠ "java/lang/invoke/VarHandle" ∧ (parseMethodDescriptor yX4_known.desc).map (fun d => d.parameters.length) = some 2 := by decide +kernel
theorem hdX4_desk : yX4_desk.cls = yX4_desk.cls ∧ yX4_desk.cls ≠ "java/lang/invoke/MethodHandle" ∧ yX4_desk.cls ≠ "java/lang/invoke/VarHandle" ∧ (parseMethodDescriptor yX4_desk.desc).map (fun d => d.parameters.length) = some 2 := by decide +kernel
theorem hdX4_settled : yX4_settled.cls = yX4_settled.cls ∧ yX4_settled.cls ≠ "java/lang/invoke/MethodHandle" ∧ yX4_settled.cls ≠ "java/lang/invoke/VarHandle" ∧ (parseMethodDescriptor yX4_settled.desc).map (fun d => d.parameters.length) = some 0 := by decide +kernel
theorem hdX4_phase : yX4_phase.cls = yX4_phase.cls ∧ yX4_phase.cls ≠ "java/lang/invoke/MethodHandle" ∧ yX4_phase.cls ≠ "java/lang/invoke/VarHandle" ∧ (parseMethodDescriptor yX4_phase.desc).map (fun d => d.parameters.length) = some 0 := by decide +kernel
theorem hdX4_total : yX4_total.cls = yX4_total.cls ∧ yX4_total.cls ≠ "java/lang/invoke/MethodHandle" ∧ yX4_total.cls ≠ "java/lang/invoke/VarHandle" ∧ (parseMethodDescriptor yX4_total.desc).map (fun d => d.parameters.length) = some 0 := by decide +kernel
theorem hdX4_proves : yX4_proves.cls = yX4_proves.cls ∧ yX4_proves.cls ≠ "java/lang/invoke/MethodHandle" ∧ yX4_proves.cls ≠ "java/lang/invoke/VarHandle" ∧ (parseMethodDescriptor yX4_proves.desc).map (fun d => d.parameters.length) = some 0 := by decide +kernel
theorem hdX4_count : yX4_count.cls = yX4_count.cls ∧ yX4_count.cls ≠ "java/lang/invoke/MethodHandle" ∧ yX4_count.cls ≠ "java/lang/invoke/VarHandle" ∧ (parseMethodDescriptor yX4_count.desc).map (fun d => d.parameters.length) = some 1 := by decide +kernel

set_option maxHeartbeats 4000000 in
set_option maxRecDepth 100000 in
theorem m_thrown (l : Launch) (D : va_G) (cI cC cD : ClassId) (ad : Nat → Nat) (th : Int32) (n : Nat) (st : Int32) (mn : Nat) (ar : Nat → Nat → Int32)  : RM l yX4_thrown cX4_thrown 1 (some .int) ({ frames := 0, cells := 0, slots := 0, locals := 0 }) D (ty3 cI cC cD) EN0 [.ref (ad 0)] ad 12 (mE ad cI th n st mn ar) (mE ad cI th n st mn ar) (some (.int th)) := by
  refine RM.of (by decide) (Nat.le_of_ble_eq_true rfl) ?_
  intro p e s m below meth c0 A ls args Q0 S hr hlk hQ wb hl
  have hx := S.1
  have hb := S.2.1
  have hl : lv_has ls 1 [(0, .ref (ad 0))] := hl
  refine lv_aload_n hx hb dX4_thrown_0 rfl (lv_at hl 0 rfl) ?_
  refine rb_get S wb 0 (by decide) rfl rfl in4 0 (by decide) bw_462 rfl dX4_thrown_1 ?_
  exact rb_iret S hr hlk hQ rfl wb (fun _ _ => rfl) dX4_thrown_4

set_option maxHeartbeats 4000000 in
set_option maxRecDepth 100000 in
theorem m_no (l : Launch) (D : va_G) (cI cC cD : ClassId) (ad : Nat → Nat) (th : Int32) (n : Nat) (st : Int32) (mn : Nat) (ar : Nat → Nat → Int32) (x : Int32)  : RM l yX4_no cX4_no 2 (some .boolean) ({ frames := 0, cells := 0, slots := 0, locals := 0 }) D (ty3 cI cC cD) EN0 [.ref (ad 0), .int x] ad 12 (mE ad cI th n st mn ar) (mE ad cI th n st mn ar) (some (.int (if x < 0 ∨ nI n ≤ x then 1 else 0))) := by
  refine RM.of (by decide) (Nat.le_of_ble_eq_true rfl) ?_
  intro p e s m below meth c0 A ls args Q0 S hr hlk hQ wb hl
  have hx := S.1
  have hb := S.2.1
  have hl : lv_has ls 2 [(0, .ref (ad 0)), (1, .int x)] := hl
  refine lv_iload_n hx hb dX4_no_0 rfl (lv_at hl 1 rfl) ?_
  refine lv_if_lt (tgt := 12) hx hb dX4_no_1 (by decide) (fun h1 => ?_) (fun h1 => ?_)
  · refine lv_iconst (v := nI 1) hx hb dX4_no_12 (by decide) ?_
    refine lv_goto (tgt := 17) hx hb dX4_no_13 (by decide) ?_
    exact rb_zret S hr hlk hQ (by first | exact if_pos (Or.inl h1) | exact if_pos (Or.inr (Int32.not_lt.mp h9)) | exact if_neg (fun q => q.elim h1 (fun q => Int32.not_lt.mpr q h9))) (by first | exact Or.inl rfl | exact Or.inr rfl) wb (fun _ _ => rfl) dX4_no_17
  · refine lv_iload_n hx hb dX4_no_4 rfl (lv_at hl 1 rfl) ?_
    refine lv_aload_n hx hb dX4_no_5 rfl (lv_at hl 0 rfl) ?_
    refine rb_get S wb 0 (by decide) rfl rfl in4 1 (by decide) bw_463 rfl dX4_no_6 ?_
    refine lv_icmp_lt (tgt := 16) hx hb dX4_no_9 (by decide) (fun h9 => ?_) (fun h9 => ?_)
    · refine lv_iconst (v := nI 0) hx hb dX4_no_16 (by decide) ?_
      exact rb_zret S hr hlk hQ (by first | exact if_pos (Or.inl h1) | exact if_pos (Or.inr (Int32.not_lt.mp h9)) | exact if_neg (fun q => q.elim h1 (fun q => Int32.not_lt.mpr q h9))) (by first | exact Or.inl rfl | exact Or.inr rfl) wb (fun _ _ => rfl) dX4_no_17
    · refine lv_iconst (v := nI 1) hx hb dX4_no_12 (by decide) ?_
      refine lv_goto (tgt := 17) hx hb dX4_no_13 (by decide) ?_
      exact rb_zret S hr hlk hQ (by first | exact if_pos (Or.inl h1) | exact if_pos (Or.inr (Int32.not_lt.mp h9)) | exact if_neg (fun q => q.elim h1 (fun q => Int32.not_lt.mpr q h9))) (by first | exact Or.inl rfl | exact Or.inr rfl) wb (fun _ _ => rfl) dX4_no_17

set_option maxHeartbeats 4000000 in
set_option maxRecDepth 100000 in
theorem m_noLetter (l : Launch) (D : va_G) (cI cC cD : ClassId) (ad : Nat → Nat) (th : Int32) (n : Nat) (st : Int32) (mn : Nat) (ar : Nat → Nat → Int32) (x : Int32)  : RM l yX4_noLetter cX4_noLetter 2 (some .boolean) ({ frames := 0, cells := 0, slots := 0, locals := 0 }) D (ty3 cI cC cD) EN0 [.ref (ad 0), .int x] ad 12 (mE ad cI th n st mn ar) (mE ad cI th n st mn ar) (some (.int (if x < 0 ∨ nI mn ≤ x then 1 else 0))) := by
  refine RM.of (by decide) (Nat.le_of_ble_eq_true rfl) ?_
  intro p e s m below meth c0 A ls args Q0 S hr hlk hQ wb hl
  have hx := S.1
  have hb := S.2.1
  have hl : lv_has ls 2 [(0, .ref (ad 0)), (1, .int x)] := hl
  refine lv_iload_n hx hb dX4_noLetter_0 rfl (lv_at hl 1 rfl) ?_
  refine lv_if_lt (tgt := 12) hx hb dX4_noLetter_1 (by decide) (fun h1 => ?_) (fun h1 => ?_)
  · refine lv_iconst (v := nI 1) hx hb dX4_noLetter_12 (by decide) ?_
    refine lv_goto (tgt := 17) hx hb dX4_noLetter_13 (by decide) ?_
    exact rb_zret S hr hlk hQ (by first | exact if_pos (Or.inl h1) | exact if_pos (Or.inr (Int32.not_lt.mp h9)) | exact if_neg (fun q => q.elim h1 (fun q => Int32.not_lt.mpr q h9))) (by first | exact Or.inl rfl | exact Or.inr rfl) wb (fun _ _ => rfl) dX4_noLetter_17
  · refine lv_iload_n hx hb dX4_noLetter_4 rfl (lv_at hl 1 rfl) ?_
    refine lv_aload_n hx hb dX4_noLetter_5 rfl (lv_at hl 0 rfl) ?_
    refine rb_get S wb 0 (by decide) rfl rfl in4 12 (by decide) bw_474 rfl dX4_noLetter_6 ?_
    refine lv_icmp_lt (tgt := 16) hx hb dX4_noLetter_9 (by decide) (fun h9 => ?_) (fun h9 => ?_)
    · refine lv_iconst (v := nI 0) hx hb dX4_noLetter_16 (by decide) ?_
      exact rb_zret S hr hlk hQ (by first | exact if_pos (Or.inl h1) | exact if_pos (Or.inr (Int32.not_lt.mp h9)) | exact if_neg (fun q => q.elim h1 (fun q => Int32.not_lt.mpr q h9))) (by first | exact Or.inl rfl | exact Or.inr rfl) wb (fun _ _ => rfl) dX4_noLetter_17
    · refine lv_iconst (v := nI 1) hx hb dX4_noLetter_12 (by decide) ?_
      refine lv_goto (tgt := 17) hx hb dX4_noLetter_13 (by decide) ?_
      exact rb_zret S hr hlk hQ (by first | exact if_pos (Or.inl h1) | exact if_pos (Or.inr (Int32.not_lt.mp h9)) | exact if_neg (fun q => q.elim h1 (fun q => Int32.not_lt.mpr q h9))) (by first | exact Or.inl rfl | exact Or.inr rfl) wb (fun _ _ => rfl) dX4_noLetter_17

set_option maxHeartbeats 4000000 in
set_option maxRecDepth 100000 in
theorem m_letters (l : Launch) (D : va_G) (cI cC cD : ClassId) (ad : Nat → Nat) (th : Int32) (n : Nat) (st : Int32) (mn : Nat) (ar : Nat → Nat → Int32)  : RM l yX4_letters cX4_letters 1 (some .int) ({ frames := 0, cells := 0, slots := 0, locals := 0 }) D (ty3 cI cC cD) EN0 [.ref (ad 0)] ad 12 (mE ad cI th n st mn ar) (mE ad cI (nI 0) n st mn ar) (some (.int (nI mn))) := by
  refine RM.of (by decide) (Nat.le_of_ble_eq_true rfl) ?_
  intro p e s m below meth c0 A ls args Q0 S hr hlk hQ wb hl
  have hx := S.1
  have hb := S.2.1
  have hl : lv_has ls 1 [(0, .ref (ad 0))] := hl
  refine lv_aload_n hx hb dX4_letters_0 rfl (lv_at hl 0 rfl) ?_
  refine lv_iconst (v := nI 0) hx hb dX4_letters_1 (by decide) ?_
  refine rb_put (E' := mE ad cI (nI 0) n st mn ar) S wb 0 (by decide) rfl rfl in4 tyX4 tyX4_ok nmX4 0 (by decide) bw_462 rfl rfl rfl (Nat.le_of_ble_eq_true rfl) (m12 rfl rfl rfl rfl rfl rfl rfl rfl rfl rfl rfl rfl) dX4_letters_2 (fun H locs wb => ?_)
  refine lv_aload_n hx hb dX4_letters_5 rfl (lv_at hl 0 rfl) ?_
  refine rb_get S wb 0 (by decide) rfl rfl in4 12 (by decide) bw_474 rfl dX4_letters_6 ?_
  exact rb_iret S hr hlk hQ rfl wb (fun _ _ => rfl) dX4_letters_9

set_option maxHeartbeats 4000000 in
set_option maxRecDepth 100000 in
theorem m_valueOf (l : Launch) (D : va_G) (cI cC cD : ClassId) (ad : Nat → Nat) (th : Int32) (n : Nat) (st : Int32) (mn : Nat) (ar : Nat → Nat → Int32) (c j : Nat) (hc : c < 6) (hj : j < 6) (hn : n ≤ 6) : RM l yX4_valueOf cX4_valueOf 3 (some .int) ({ frames := 0, cells := 0, slots := 0, locals := 0 }) D (ty3 cI cC cD) EN0 [.ref (ad 0), .int (nI c), .int (nI j)] ad 12 (mE ad cI th n st mn ar) (mE ad cI th n st mn ar) (some (.int (ar 1 (6 * c + j) * nI (n + 1) - ar 2 (6 * c + j)))) := by
  refine RM.of (by decide) (Nat.le_of_ble_eq_true rfl) ?_
  intro p e s m below meth c0 A ls args Q0 S hr hlk hQ wb hl
  have hx := S.1
  have hb := S.2.1
  have hl : lv_has ls 3 [(0, .ref (ad 0)), (1, .int (nI c)), (2, .int (nI j))] := hl
  refine lv_aload_n hx hb dX4_valueOf_0 rfl (lv_at hl 0 rfl) ?_
  refine rb_get S wb 0 (by decide) rfl rfl in4 3 (by decide) bw_465 rfl dX4_valueOf_1 ?_
  refine lv_bipush (v := nI 6) hx hb dX4_valueOf_4 (by decide) ?_
  refine lv_iload_n hx hb dX4_valueOf_6 rfl (lv_at hl 1 rfl) ?_
  refine lv_imul hx hb dX4_valueOf_7 ?_
  refine nb_ren (y := nI (6 * c)) (pk_mul _ _) ?_
  refine lv_iload_n hx hb dX4_valueOf_8 rfl (lv_at hl 2 rfl) ?_
  refine lv_iadd hx hb dX4_valueOf_9 ?_
  refine nb_ren (y := nI (6 * c + j)) (nI_add _ _) ?_
  refine rb_ald (n := 36) (f := ar 1) (x := ar 1 (6 * c + j)) S wb 1 (by decide) rfl 0 rfl (6 * c + j) (by omega) (by decide) rfl dX4_valueOf_10 ?_
  refine lv_aload_n hx hb dX4_valueOf_11 rfl (lv_at hl 0 rfl) ?_
  refine rb_get S wb 0 (by decide) rfl rfl in4 1 (by decide) bw_463 rfl dX4_valueOf_12 ?_
  refine lv_iconst (v := nI 1) hx hb dX4_valueOf_15 (by decide) ?_
  refine lv_iadd hx hb dX4_valueOf_16 ?_
  refine nb_ren (y := nI (n + 1)) (nI_add _ _) ?_
  refine lv_imul hx hb dX4_valueOf_17 ?_
  refine lv_aload_n hx hb dX4_valueOf_18 rfl (lv_at hl 0 rfl) ?_
  refine rb_get S wb 0 (by decide) rfl rfl in4 4 (by decide) bw_466 rfl dX4_valueOf_19 ?_
  refine lv_bipush (v := nI 6) hx hb dX4_valueOf_22 (by decide) ?_
  refine lv_iload_n hx hb dX4_valueOf_24 rfl (lv_at hl 1 rfl) ?_
  refine lv_imul hx hb dX4_valueOf_25 ?_
  refine nb_ren (y := nI (6 * c)) (pk_mul _ _) ?_
  refine lv_iload_n hx hb dX4_valueOf_26 rfl (lv_at hl 2 rfl) ?_
  refine lv_iadd hx hb dX4_valueOf_27 ?_
  refine nb_ren (y := nI (6 * c + j)) (nI_add _ _) ?_
  refine rb_ald (n := 36) (f := ar 2) (x := ar 2 (6 * c + j)) S wb 2 (by decide) rfl 0 rfl (6 * c + j) (by omega) (by decide) rfl dX4_valueOf_28 ?_
  refine lv_isub hx hb dX4_valueOf_29 ?_
  exact rb_iret S hr hlk hQ rfl wb (fun _ _ => rfl) dX4_valueOf_30
end
section
/-! the model's helpers: loops -/
def fz (f : Nat → Int32) (k : Nat) (v : Int32) : Nat → Int32 := fun j => if j < k then v else f j
theorem fz_0 (f : Nat → Int32) (v : Int32) : fz f 0 v = f := by funext j; simp [fz]
theorem fz_s (f : Nat → Int32) (k : Nat) (v : Int32) : upd (fz f k v) k v = fz f (k + 1) v := by
  funext j
  by_cases h : j = k
  · subst h; simp [upd, fz]
  · by_cases h2 : j < k
    · simp [upd, fz, h, h2, Nat.lt_succ_of_lt h2]
    · have h3 : ¬ j < k + 1 := by omega
      simp [upd, fz, h, h2, h3]
theorem inl_eq {cI : ClassId} {n : Nat} {f g : Nat → Int32} (h : f = g) : (.inl (cI, n, .inl f) : va_E) = .inl (cI, n, .inl g) := by rw [h]
def put5 (f : Nat → Int32) (p : Nat) (a b c d e : Int32) : Nat → Int32 := upd (upd (upd (upd (upd f p a) (p + 1) b) (p + 2) c) (p + 3) d) (p + 4) e
def dr (f : Nat → Int32) (a k : Nat) : Nat → Int32 := fun q => if a ≤ q ∧ q < k then f (q + 5) else f q
theorem dr_0 (f : Nat → Int32) (a : Nat) : f = dr f a a := by
  funext q
  have : ¬ (a ≤ q ∧ q < a) := by omega
  simp [dr, this]
theorem dr_s (f : Nat → Int32) (a k : Nat) (h : a ≤ k) : upd (dr f a k) k (dr f a k (k + 5)) = dr f a (k + 1) := by
  funext q
  have h5 : ¬ (a ≤ k + 5 ∧ k + 5 < k) := by omega
  by_cases hq : q = k
  · subst hq
    have : a ≤ q ∧ q < q + 1 := ⟨h, by omega⟩
    simp only [upd, dr, this, h5, if_true, if_false, and_self]
  · by_cases h2 : a ≤ q ∧ q < k
    · have h3 : a ≤ q ∧ q < k + 1 := ⟨h2.1, by omega⟩
      simp [upd, dr, hq, h2, h3]
    · have h3 : ¬ (a ≤ q ∧ q < k + 1) := by omega
      simp only [upd, dr, hq, h2, h3, if_false]
/-- the greatest of w 0 .. w k -/
def pf (w : Nat → Int32) : Nat → Int32
  | 0 => w 0
  | k + 1 => if pf w k < w (k + 1) then w (k + 1) else pf w k
theorem pf_t {w : Nat → Int32} {k : Nat} {b x : Int32} (hb : b = pf w k) (hx : x = w (k + 1)) (h : ¬ x ≤ b) : x = pf w (k + 1) := by
  rw [pf, ← hb, ← hx, if_pos (Int32.not_le.mp h)]
theorem pf_f {w : Nat → Int32} {k : Nat} {b x : Int32} (hb : b = pf w k) (hx : x = w (k + 1)) (h : x ≤ b) : b = pf w (k + 1) := by
  rw [pf, ← hb, ← hx, if_neg (Int32.not_lt.mpr h)]
/-- crew c holds a job whose desk has it by that bid -/
def st1 (ar : Nat → Nat → Int32) (c : Nat) : Prop := ar 6 c = 2 ∧ ar 4 (ar 7 c).toNatClampNeg = nI c ∧ ar 5 (ar 7 c).toNatClampNeg = ar 8 c
def stl (ar : Nat → Nat → Int32) (k : Nat) : Prop := ∀ c, c < k → st1 ar c
theorem stl_s {ar : Nat → Nat → Int32} {k : Nat} (h : stl ar k) (h1 : st1 ar k) : stl ar (k + 1) := by
  intro c hc
  by_cases e : c = k
  · subst e; exact h1
  · exact h c (by omega)
theorem stl_n {ar : Nat → Nat → Int32} {k : Nat} (h : ¬ stl ar k) : ¬ stl ar (k + 1) := fun q => h (fun c hc => q c (by omega))
theorem stl_m {ar : Nat → Nat → Int32} {k : Nat} (h : ¬ st1 ar k) : ¬ stl ar (k + 1) := fun q => h (q k (by omega))
/-- v tells whether P -/
def tells (v : Int32) (P : Prop) : Prop := (P → v = 1) ∧ (¬ P → v = 0)
theorem tells_t {P : Prop} (h : P) : tells (nI 1) P := ⟨fun _ => nI_c1, fun q => absurd h q⟩
theorem tells_f {P : Prop} (h : ¬ P) : tells (nI 0) P := ⟨fun q => absurd q h, fun _ => nI_0⟩
theorem tells_T {P : Prop} {v : Int32} (h : tells v P) (n : ¬ v = 0) : P := Classical.byContradiction fun q => n (h.2 q)
theorem tells_F {P : Prop} {v : Int32} (h : tells v P) (n : v = 0) : ¬ P := fun q => by
  have := h.1 q
  rw [n] at this
  exact absurd this (by decide)
theorem tells_b {P : Prop} {v : Int32} (h : tells v P) : v = 0 ∨ v = 1 := by
  by_cases q : P
  · exact Or.inr (h.1 q)
  · exact Or.inl (h.2 q)
theorem tells_u {P : Prop} {v w : Int32} (h : tells v P) (h2 : tells w P) : v = w := by
  by_cases q : P
  · rw [h.1 q, h2.1 q]
  · rw [h.2 q, h2.2 q]
/-- targets of crews that hold lie among the places -/
def HT (ar : Nat → Nat → Int32) (n : Nat) : Prop := ∀ c, c < n → ar 6 c = 2 → ∃ t, t < 6 ∧ ar 7 c = nI t
theorem HT_x {ar : Nat → Nat → Int32} {n c : Nat} (h : HT ar n) (hc : c < n) (h2 : ar 6 c = 2) : ∃ t, t < 6 ∧ ar 7 c = nI t ∧ (ar 7 c).toNatClampNeg = t := by
  obtain ⟨t, h1, h3⟩ := h c hc h2
  exact ⟨t, h1, h3, by rw [h3]; exact nI_clamp (by omega)⟩

set_option maxHeartbeats 4000000 in
set_option maxRecDepth 100000 in
theorem m_clean (l : Launch) (D : va_G) (cI cC cD : ClassId) (ad : Nat → Nat) (th : Int32) (n : Nat) (st : Int32) (mn : Nat) (ar : Nat → Nat → Int32)  : RM l yX4_clean cX4_clean 2 none ({ frames := 0, cells := 0, slots := 0, locals := 0 }) D (ty3 cI cC cD) EN0 [.ref (ad 0)] ad 12 (mE ad cI th n st mn ar) (mE ad cI th n st 0 (va_up (va_up (va_up (va_up ar 4 (fz (ar 4) 6 (-1))) 5 (fz (ar 5) 6 (nI 0))) 6 (fz (ar 6) 6 (nI 0))) 7 (fz (ar 7) 6 (-1)))) none := by
  refine RM.of (by decide) (Nat.le_of_ble_eq_true rfl) ?_
  intro p e s m below meth c0 A ls args Q0 S hr hlk hQ wb hl
  have hx := S.1
  have hb := S.2.1
  have hl : lv_has ls 2 [(0, .ref (ad 0))] := hl
  refine lv_aload_n hx hb dX4_clean_0 rfl (lv_at hl 0 rfl) ?_
  refine lv_iconst (v := nI 0) hx hb dX4_clean_1 (by decide) ?_
  refine rb_put (E' := mE ad cI th n st 0 ar) S wb 0 (by decide) rfl rfl in4 tyX4 tyX4_ok nmX4 12 (by decide) bw_474 rfl rfl rfl (Nat.le_of_ble_eq_true rfl) (m12 rfl rfl rfl rfl rfl rfl rfl rfl rfl rfl rfl rfl) dX4_clean_2 (fun H locs wb => ?_)
  refine lv_iconst (v := nI 0) hx hb dX4_clean_5 (by decide) ?_
  refine lv_istore_n (lv' := [(1, .int (nI 0)), (0, .ref (ad 0))]) hx hb dX4_clean_6 rfl hl (by decide) rfl (fun ls hl => ?_)
  have L7 : ∀ (fuel : Nat) (k : Nat) (hk : k ≤ 6) (hfu : 6 < k + fuel) (H : Heap) (locs : List Loc) (wb : WB D (ty3 cI cC cD) EN0 ad 12 A s (mE ad cI th n st 0 (va_up (va_up (va_up (va_up ar 4 (fz (ar 4) k (-1))) 5 (fz (ar 5) k (nI 0))) 6 (fz (ar 6) k (nI 0))) 7 (fz (ar 7) k (-1)))) H locs) (ls : Array Slot) (hl : lv_has ls 2 [(0, .ref (ad 0)), (1, .int (nI k))]), W p l e ({ frames := 0, cells := 0, slots := 0, locals := 0 }) s m args below meth c0 H locs 0 0 Q0 (F0 m 7 ls []) := by
    intro fuel
    induction fuel with
    | zero => intro k hk hfu H locs wb ls hl; exact absurd hfu (by omega)
    | succ fuel ih =>
      intro k hk hfu H locs wb ls hl
      refine lv_iload_n hx hb dX4_clean_7 rfl (lv_at hl 1 rfl) ?_
      refine lv_bipush (v := nI 6) hx hb dX4_clean_8 (by decide) ?_
      refine nb_icmp_ge (tgt := 47) hx hb dX4_clean_10 (by decide) (by omega) (by omega) (fun h10 => ?_) (fun h10 => ?_)
      · have hk6 : k = 6 := by omega
        subst hk6
        exact rb_vret S hr hlk hQ wb (fun _ _ => rfl) dX4_clean_47
      · refine lv_aload_n hx hb dX4_clean_13 rfl (lv_at hl 0 rfl) ?_
        refine rb_get S wb 0 (by decide) rfl rfl in4 6 (by decide) bw_468 rfl dX4_clean_14 ?_
        refine lv_iload_n hx hb dX4_clean_17 rfl (lv_at hl 1 rfl) ?_
        refine lv_iconst (v := (-1)) hx hb dX4_clean_18 (by decide) ?_
        refine rb_ast (E' := mE ad cI th n st 0 (va_up (va_up (va_up (va_up ar 4 (upd (fz (ar 4) k (-1)) k (-1))) 5 (fz (ar 5) k (nI 0))) 6 (fz (ar 6) k (nI 0))) 7 (fz (ar 7) k (-1)))) (n := 6) (f := fz (ar 4) k (-1)) S wb 4 (by decide) rfl 0 rfl k (by omega) (by decide) (m12 rfl rfl rfl rfl rfl rfl rfl rfl rfl rfl rfl rfl) dX4_clean_19 (fun H locs wb => ?_)
        refine lv_aload_n hx hb dX4_clean_20 rfl (lv_at hl 0 rfl) ?_
        refine rb_get S wb 0 (by decide) rfl rfl in4 7 (by decide) bw_469 rfl dX4_clean_21 ?_
        refine lv_iload_n hx hb dX4_clean_24 rfl (lv_at hl 1 rfl) ?_
        refine lv_iconst (v := nI 0) hx hb dX4_clean_25 (by decide) ?_
        refine rb_ast (E' := mE ad cI th n st 0 (va_up (va_up (va_up (va_up ar 4 (upd (fz (ar 4) k (-1)) k (-1))) 5 (upd (fz (ar 5) k (nI 0)) k (nI 0))) 6 (fz (ar 6) k (nI 0))) 7 (fz (ar 7) k (-1)))) (n := 6) (f := fz (ar 5) k (nI 0)) S wb 5 (by decide) rfl 0 rfl k (by omega) (by decide) (m12 rfl rfl rfl rfl rfl rfl rfl rfl rfl rfl rfl rfl) dX4_clean_26 (fun H locs wb => ?_)
        refine lv_aload_n hx hb dX4_clean_27 rfl (lv_at hl 0 rfl) ?_
        refine rb_get S wb 0 (by decide) rfl rfl in4 8 (by decide) bw_470 rfl dX4_clean_28 ?_
        refine lv_iload_n hx hb dX4_clean_31 rfl (lv_at hl 1 rfl) ?_
        refine lv_iconst (v := nI 0) hx hb dX4_clean_32 (by decide) ?_
        refine rb_ast (E' := mE ad cI th n st 0 (va_up (va_up (va_up (va_up ar 4 (upd (fz (ar 4) k (-1)) k (-1))) 5 (upd (fz (ar 5) k (nI 0)) k (nI 0))) 6 (upd (fz (ar 6) k (nI 0)) k (nI 0))) 7 (fz (ar 7) k (-1)))) (n := 6) (f := fz (ar 6) k (nI 0)) S wb 6 (by decide) rfl 0 rfl k (by omega) (by decide) (m12 rfl rfl rfl rfl rfl rfl rfl rfl rfl rfl rfl rfl) dX4_clean_33 (fun H locs wb => ?_)
        refine lv_aload_n hx hb dX4_clean_34 rfl (lv_at hl 0 rfl) ?_
        refine rb_get S wb 0 (by decide) rfl rfl in4 9 (by decide) bw_471 rfl dX4_clean_35 ?_
        refine lv_iload_n hx hb dX4_clean_38 rfl (lv_at hl 1 rfl) ?_
        refine lv_iconst (v := (-1)) hx hb dX4_clean_39 (by decide) ?_
        refine rb_ast (E' := mE ad cI th n st 0 (va_up (va_up (va_up (va_up ar 4 (upd (fz (ar 4) k (-1)) k (-1))) 5 (upd (fz (ar 5) k (nI 0)) k (nI 0))) 6 (upd (fz (ar 6) k (nI 0)) k (nI 0))) 7 (upd (fz (ar 7) k (-1)) k (-1)))) (n := 6) (f := fz (ar 7) k (-1)) S wb 7 (by decide) rfl 0 rfl k (by omega) (by decide) (m12 rfl rfl rfl rfl rfl rfl rfl rfl rfl rfl rfl rfl) dX4_clean_40 (fun H locs wb => ?_)
        refine lv_iinc (v := nI (k + 1)) (lv' := [(1, .int (nI (k + 1))), (0, .ref (ad 0))]) hx hb dX4_clean_41 hl (k := 1) rfl (nI_s1 _) (by decide) rfl (fun ls hl => ?_)
        refine lv_goto (tgt := 7) hx hb dX4_clean_44 (by decide) ?_
        exact ih (k + 1) (by omega) (by omega) _ _ (wb.to (m12 rfl rfl rfl rfl (inl_eq (fz_s _ _ _)) (inl_eq (fz_s _ _ _)) (inl_eq (fz_s _ _ _)) (inl_eq (fz_s _ _ _)) rfl rfl rfl rfl)) ls (lv_sub hl [1, 0] rfl)
  exact L7 7 0 (by omega) (by omega) _ _ (wb.to (m12 rfl rfl rfl rfl (inl_eq (fz_0 (ar 4) (-1)).symm) (inl_eq (fz_0 (ar 5) (nI 0)).symm) (inl_eq (fz_0 (ar 6) (nI 0)).symm) (inl_eq (fz_0 (ar 7) (-1)).symm) rfl rfl rfl rfl)) ls (lv_sub hl [1, 0] rfl)

set_option maxHeartbeats 4000000 in
set_option maxRecDepth 100000 in
theorem m_isSettled (l : Launch) (D : va_G) (cI cC cD : ClassId) (ad : Nat → Nat) (th : Int32) (n : Nat) (st : Int32) (mn : Nat) (ar : Nat → Nat → Int32) (hn : n ≤ 6) (hT : HT ar n) (r : Int32) (hr0 : tells r (stl ar n)) : RM l yX4_isSettled cX4_isSettled 4 (some .boolean) ({ frames := 0, cells := 0, slots := 0, locals := 0 }) D (ty3 cI cC cD) EN0 [.ref (ad 0)] ad 12 (mE ad cI th n st mn ar) (mE ad cI th n st mn ar) (some (.int r)) := by
  refine RM.of (by decide) (Nat.le_of_ble_eq_true rfl) ?_
  intro p e s m below meth c0 A ls args Q0 S hr hlk hQ wb hl
  have hx := S.1
  have hb := S.2.1
  have hl : lv_has ls 4 [(0, .ref (ad 0))] := hl
  refine lv_iconst (v := nI 1) hx hb dX4_isSettled_0 (by decide) ?_
  refine lv_istore_n (lv' := [(1, .int (nI 1)), (0, .ref (ad 0))]) hx hb dX4_isSettled_1 rfl hl (by decide) rfl (fun ls hl => ?_)
  refine lv_iconst (v := nI 0) hx hb dX4_isSettled_2 (by decide) ?_
  refine lv_istore_n (lv' := [(2, .int (nI 0)), (1, .int (nI 1)), (0, .ref (ad 0))]) hx hb dX4_isSettled_3 rfl hl (by decide) rfl (fun ls hl => ?_)
  have L4 : ∀ (fuel : Nat) (c : Nat) (v : Int32) (hc : c ≤ n) (hfu : n < c + fuel) (hv : tells v (stl ar c)) (H : Heap) (locs : List Loc) (wb : WB D (ty3 cI cC cD) EN0 ad 12 A s (mE ad cI th n st mn ar) H locs) (ls : Array Slot) (hl : lv_has ls 4 [(0, .ref (ad 0)), (1, .int v), (2, .int (nI c))]), W p l e ({ frames := 0, cells := 0, slots := 0, locals := 0 }) s m args below meth c0 H locs 0 0 Q0 (F0 m 4 ls []) := by
    intro fuel
    induction fuel with
    | zero => intro c v hc hfu hv H locs wb ls hl; exact absurd hfu (by omega)
    | succ fuel ih =>
      intro c v hc hfu hv H locs wb ls hl
      refine lv_iload_n hx hb dX4_isSettled_4 rfl (lv_at hl 2 rfl) ?_
      refine lv_aload_n hx hb dX4_isSettled_5 rfl (lv_at hl 0 rfl) ?_
      refine rb_get S wb 0 (by decide) rfl rfl in4 1 (by decide) bw_463 rfl dX4_isSettled_6 ?_
      refine nb_icmp_ge (tgt := 70) hx hb dX4_isSettled_9 (by decide) (by omega) (by omega) (fun h9 => ?_) (fun h9 => ?_)
      · refine lv_iload_n hx hb dX4_isSettled_70 rfl (lv_at hl 1 rfl) ?_
        have hcn : c = n := by omega
        subst hcn
        exact rb_zret S hr hlk hQ (tells_u hr0 hv) (tells_b hv) wb (fun _ _ => rfl) dX4_isSettled_71
      · refine lv_aload_n hx hb dX4_isSettled_12 rfl (lv_at hl 0 rfl) ?_
        refine rb_get S wb 0 (by decide) rfl rfl in4 9 (by decide) bw_471 rfl dX4_isSettled_13 ?_
        refine lv_iload_n hx hb dX4_isSettled_16 rfl (lv_at hl 2 rfl) ?_
        refine rb_ald (n := 6) (f := ar 7) (x := ar 7 c) S wb 7 (by decide) rfl 0 rfl c (by omega) (by decide) rfl dX4_isSettled_17 ?_
        refine lv_istore_n (lv' := [(3, .int (ar 7 c)), (0, .ref (ad 0)), (1, .int v), (2, .int (nI c))]) hx hb dX4_isSettled_18 rfl hl (by decide) rfl (fun ls hl => ?_)
        refine lv_iload_n hx hb dX4_isSettled_19 rfl (lv_at hl 2 rfl) ?_
        refine lv_if_eq (tgt := 62) hx hb dX4_isSettled_20 (by decide) (fun h20 => ?_) (fun h20 => ?_)
        · refine lv_iconst (v := nI 0) hx hb dX4_isSettled_62 (by decide) ?_
          refine lv_istore_n (lv' := [(1, .int (nI 0)), (3, .int (ar 7 c)), (0, .ref (ad 0)), (2, .int (nI c))]) hx hb dX4_isSettled_63 rfl hl (by decide) rfl (fun ls hl => ?_)
          refine lv_iinc (v := nI (c + 1)) (lv' := [(2, .int (nI (c + 1))), (1, .int (nI 0)), (3, .int (ar 7 c)), (0, .ref (ad 0))]) hx hb dX4_isSettled_64 hl (k := 3) rfl (nI_s1 _) (by decide) rfl (fun ls hl => ?_)
          refine lv_goto (tgt := 4) hx hb dX4_isSettled_67 (by decide) ?_
          exact ih (c + 1) (nI 0) (by omega) (by omega) (by first | exact tells_f (stl_n (tells_F hv h20)) | exact tells_f (stl_m (fun q => h30 q.1)) | exact tells_f (stl_m (fun q => h40 (by rw [← ett]; exact q.2.1))) | exact tells_f (stl_m (fun q => h55 (by rw [← ett]; exact q.2.2))) | exact tells_t (stl_s (tells_T hv h20) ⟨h30, by rw [ett]; exact h40, by rw [ett]; exact h55⟩)) _ _ wb ls (lv_sub hl [3, 1, 0] rfl)
        · refine lv_aload_n hx hb dX4_isSettled_23 rfl (lv_at hl 1 rfl) ?_
          refine rb_get S wb 0 (by decide) rfl rfl in4 8 (by decide) bw_470 rfl dX4_isSettled_24 ?_
          refine lv_iload_n hx hb dX4_isSettled_27 rfl (lv_at hl 3 rfl) ?_
          refine rb_ald (n := 6) (f := ar 6) (x := ar 6 c) S wb 6 (by decide) rfl 0 rfl c (by omega) (by decide) rfl dX4_isSettled_28 ?_
          refine lv_iconst (v := nI 2) hx hb dX4_isSettled_29 (by decide) ?_
          refine lv_icmp_ne (tgt := 62) hx hb dX4_isSettled_30 (by decide) (fun h30 => ?_) (fun h30 => ?_)
          · refine lv_iconst (v := nI 0) hx hb dX4_isSettled_62 (by decide) ?_
            refine lv_istore_n (lv' := [(1, .int (nI 0)), (3, .int (ar 7 c)), (0, .ref (ad 0)), (2, .int (nI c))]) hx hb dX4_isSettled_63 rfl hl (by decide) rfl (fun ls hl => ?_)
            refine lv_iinc (v := nI (c + 1)) (lv' := [(2, .int (nI (c + 1))), (1, .int (nI 0)), (3, .int (ar 7 c)), (0, .ref (ad 0))]) hx hb dX4_isSettled_64 hl (k := 3) rfl (nI_s1 _) (by decide) rfl (fun ls hl => ?_)
            refine lv_goto (tgt := 4) hx hb dX4_isSettled_67 (by decide) ?_
            exact ih (c + 1) (nI 0) (by omega) (by omega) (by first | exact tells_f (stl_n (tells_F hv h20)) | exact tells_f (stl_m (fun q => h30 q.1)) | exact tells_f (stl_m (fun q => h40 (by rw [← ett]; exact q.2.1))) | exact tells_f (stl_m (fun q => h55 (by rw [← ett]; exact q.2.2))) | exact tells_t (stl_s (tells_T hv h20) ⟨h30, by rw [ett]; exact h40, by rw [ett]; exact h55⟩)) _ _ wb ls (lv_sub hl [3, 1, 0] rfl)
          · obtain ⟨t, ht6, et, ett⟩ := HT_x hT h9 h30
            refine lv_aload_n hx hb dX4_isSettled_33 rfl (lv_at hl 1 rfl) ?_
            refine rb_get S wb 0 (by decide) rfl rfl in4 6 (by decide) bw_468 rfl dX4_isSettled_34 ?_
            refine lv_iload_n hx hb dX4_isSettled_37 rfl (lv_at hl 0 rfl) ?_
            refine nb_ren (y := nI t) et ?_
            refine rb_ald (n := 6) (f := ar 4) (x := ar 4 t) S wb 4 (by decide) rfl 0 rfl t (by omega) (by decide) rfl dX4_isSettled_38 ?_
            refine lv_iload_n hx hb dX4_isSettled_39 rfl (lv_at hl 3 rfl) ?_
            refine lv_icmp_ne (tgt := 62) hx hb dX4_isSettled_40 (by decide) (fun h40 => ?_) (fun h40 => ?_)
            · refine lv_iconst (v := nI 0) hx hb dX4_isSettled_62 (by decide) ?_
              refine lv_istore_n (lv' := [(1, .int (nI 0)), (3, .int (ar 7 c)), (0, .ref (ad 0)), (2, .int (nI c))]) hx hb dX4_isSettled_63 rfl hl (by decide) rfl (fun ls hl => ?_)
              refine lv_iinc (v := nI (c + 1)) (lv' := [(2, .int (nI (c + 1))), (1, .int (nI 0)), (3, .int (ar 7 c)), (0, .ref (ad 0))]) hx hb dX4_isSettled_64 hl (k := 3) rfl (nI_s1 _) (by decide) rfl (fun ls hl => ?_)
              refine lv_goto (tgt := 4) hx hb dX4_isSettled_67 (by decide) ?_
              exact ih (c + 1) (nI 0) (by omega) (by omega) (by first | exact tells_f (stl_n (tells_F hv h20)) | exact tells_f (stl_m (fun q => h30 q.1)) | exact tells_f (stl_m (fun q => h40 (by rw [← ett]; exact q.2.1))) | exact tells_f (stl_m (fun q => h55 (by rw [← ett]; exact q.2.2))) | exact tells_t (stl_s (tells_T hv h20) ⟨h30, by rw [ett]; exact h40, by rw [ett]; exact h55⟩)) _ _ wb ls (lv_sub hl [3, 1, 0] rfl)
            · refine lv_aload_n hx hb dX4_isSettled_43 rfl (lv_at hl 1 rfl) ?_
              refine rb_get S wb 0 (by decide) rfl rfl in4 7 (by decide) bw_469 rfl dX4_isSettled_44 ?_
              refine lv_iload_n hx hb dX4_isSettled_47 rfl (lv_at hl 0 rfl) ?_
              refine nb_ren (y := nI t) et ?_
              refine rb_ald (n := 6) (f := ar 5) (x := ar 5 t) S wb 5 (by decide) rfl 0 rfl t (by omega) (by decide) rfl dX4_isSettled_48 ?_
              refine lv_aload_n hx hb dX4_isSettled_49 rfl (lv_at hl 1 rfl) ?_
              refine rb_get S wb 0 (by decide) rfl rfl in4 10 (by decide) bw_472 rfl dX4_isSettled_50 ?_
              refine lv_iload_n hx hb dX4_isSettled_53 rfl (lv_at hl 3 rfl) ?_
              refine rb_ald (n := 6) (f := ar 8) (x := ar 8 c) S wb 8 (by decide) rfl 0 rfl c (by omega) (by decide) rfl dX4_isSettled_54 ?_
              refine lv_icmp_ne (tgt := 62) hx hb dX4_isSettled_55 (by decide) (fun h55 => ?_) (fun h55 => ?_)
              · refine lv_iconst (v := nI 0) hx hb dX4_isSettled_62 (by decide) ?_
                refine lv_istore_n (lv' := [(1, .int (nI 0)), (3, .int (ar 7 c)), (0, .ref (ad 0)), (2, .int (nI c))]) hx hb dX4_isSettled_63 rfl hl (by decide) rfl (fun ls hl => ?_)
                refine lv_iinc (v := nI (c + 1)) (lv' := [(2, .int (nI (c + 1))), (1, .int (nI 0)), (3, .int (ar 7 c)), (0, .ref (ad 0))]) hx hb dX4_isSettled_64 hl (k := 3) rfl (nI_s1 _) (by decide) rfl (fun ls hl => ?_)
                refine lv_goto (tgt := 4) hx hb dX4_isSettled_67 (by decide) ?_
                exact ih (c + 1) (nI 0) (by omega) (by omega) (by first | exact tells_f (stl_n (tells_F hv h20)) | exact tells_f (stl_m (fun q => h30 q.1)) | exact tells_f (stl_m (fun q => h40 (by rw [← ett]; exact q.2.1))) | exact tells_f (stl_m (fun q => h55 (by rw [← ett]; exact q.2.2))) | exact tells_t (stl_s (tells_T hv h20) ⟨h30, by rw [ett]; exact h40, by rw [ett]; exact h55⟩)) _ _ wb ls (lv_sub hl [3, 1, 0] rfl)
              · refine lv_iconst (v := nI 1) hx hb dX4_isSettled_58 (by decide) ?_
                refine lv_goto (tgt := 63) hx hb dX4_isSettled_59 (by decide) ?_
                refine lv_istore_n (lv' := [(1, .int (nI 1)), (3, .int (ar 7 c)), (0, .ref (ad 0)), (2, .int (nI c))]) hx hb dX4_isSettled_63 rfl hl (by decide) rfl (fun ls hl => ?_)
                refine lv_iinc (v := nI (c + 1)) (lv' := [(2, .int (nI (c + 1))), (1, .int (nI 1)), (3, .int (ar 7 c)), (0, .ref (ad 0))]) hx hb dX4_isSettled_64 hl (k := 3) rfl (nI_s1 _) (by decide) rfl (fun ls hl => ?_)
                refine lv_goto (tgt := 4) hx hb dX4_isSettled_67 (by decide) ?_
                exact ih (c + 1) (nI 1) (by omega) (by omega) (by first | exact tells_f (stl_n (tells_F hv h20)) | exact tells_f (stl_m (fun q => h30 q.1)) | exact tells_f (stl_m (fun q => h40 (by rw [← ett]; exact q.2.1))) | exact tells_f (stl_m (fun q => h55 (by rw [← ett]; exact q.2.2))) | exact tells_t (stl_s (tells_T hv h20) ⟨h30, by rw [ett]; exact h40, by rw [ett]; exact h55⟩)) _ _ wb ls (lv_sub hl [3, 1, 0] rfl)
  exact L4 (n + 1) 0 (nI 1) (by omega) (by omega) (tells_t (fun c hc => absurd hc (Nat.not_lt_zero c))) _ _ wb ls (lv_sub hl [2, 1, 0] rfl)

set_option maxHeartbeats 4000000 in
set_option maxRecDepth 100000 in
theorem m_send0 (l : Launch) (D : va_G) (cI cC cD : ClassId) (ad : Nat → Nat) (th : Int32) (n : Nat) (st : Int32) (mn : Nat) (ar : Nat → Nat → Int32) (x2 x3 x4 x5 : Int32) (hm : mn < 120) : RM l yX4_send cX4_send 7 none ({ frames := 0, cells := 0, slots := 0, locals := 0 }) D (ty3 cI cC cD) EN0 [.ref (ad 0), .int (nI 0), .int x2, .int x3, .int x4, .int x5] ad 12 (mE ad cI th n st mn ar) (mE ad cI th n st (mn + 1) (va_up ar 10 (put5 (ar 10) (5 * mn) (nI 0) x2 x3 x4 x5))) none := by
  refine RM.of (by decide) (Nat.le_of_ble_eq_true rfl) ?_
  intro p e s m below meth c0 A ls args Q0 S hr hlk hQ wb hl
  have hx := S.1
  have hb := S.2.1
  have hl : lv_has ls 7 [(0, .ref (ad 0)), (1, .int (nI 0)), (2, .int x2), (3, .int x3), (4, .int x4), (5, .int x5)] := hl
  refine lv_iconst (v := nI 5) hx hb dX4_send_0 (by decide) ?_
  refine lv_aload_n hx hb dX4_send_1 rfl (lv_at hl 0 rfl) ?_
  refine rb_get S wb 0 (by decide) rfl rfl in4 12 (by decide) bw_474 rfl dX4_send_2 ?_
  refine lv_imul hx hb dX4_send_5 ?_
  refine nb_ren (y := nI (5 * mn)) (pk_mul _ _) ?_
  refine lv_istore (lv' := [(6, .int (nI (5 * mn))), (0, .ref (ad 0)), (1, .int (nI 0)), (2, .int x2), (3, .int x3), (4, .int x4), (5, .int x5)]) hx hb dX4_send_6 hl (by decide) rfl (fun ls hl => ?_)
  refine lv_aload_n hx hb dX4_send_8 rfl (lv_at hl 1 rfl) ?_
  refine rb_get S wb 0 (by decide) rfl rfl in4 13 (by decide) bw_475 rfl dX4_send_9 ?_
  refine lv_iload hx hb dX4_send_12 (lv_at hl 0 rfl) ?_
  refine lv_iload_n hx hb dX4_send_14 rfl (lv_at hl 2 rfl) ?_
  refine rb_ast (E' := mE ad cI th n st mn (va_up ar 10 (upd (ar 10) (5 * mn) (nI 0)))) (n := 600) (f := ar 10) S wb 10 (by decide) rfl 0 rfl (5 * mn) (by omega) (by decide) (m12 rfl rfl rfl rfl rfl rfl rfl rfl rfl rfl rfl rfl) dX4_send_15 (fun H locs wb => ?_)
  refine lv_aload_n hx hb dX4_send_16 rfl (lv_at hl 1 rfl) ?_
  refine rb_get S wb 0 (by decide) rfl rfl in4 13 (by decide) bw_475 rfl dX4_send_17 ?_
  refine lv_iload hx hb dX4_send_20 (lv_at hl 0 rfl) ?_
  refine lv_iconst (v := nI 1) hx hb dX4_send_22 (by decide) ?_
  refine lv_iadd hx hb dX4_send_23 ?_
  refine nb_ren (y := nI (5 * mn + 1)) (nI_add _ _) ?_
  refine lv_iload_n hx hb dX4_send_24 rfl (lv_at hl 3 rfl) ?_
  refine rb_ast (E' := mE ad cI th n st mn (va_up ar 10 (upd (upd (ar 10) (5 * mn) (nI 0)) (5 * mn + 1) x2))) (n := 600) (f := upd (ar 10) (5 * mn) (nI 0)) S wb 10 (by decide) rfl 0 rfl (5 * mn + 1) (by omega) (by decide) (m12 rfl rfl rfl rfl rfl rfl rfl rfl rfl rfl rfl rfl) dX4_send_25 (fun H locs wb => ?_)
  refine lv_aload_n hx hb dX4_send_26 rfl (lv_at hl 1 rfl) ?_
  refine rb_get S wb 0 (by decide) rfl rfl in4 13 (by decide) bw_475 rfl dX4_send_27 ?_
  refine lv_iload hx hb dX4_send_30 (lv_at hl 0 rfl) ?_
  refine lv_iconst (v := nI 2) hx hb dX4_send_32 (by decide) ?_
  refine lv_iadd hx hb dX4_send_33 ?_
  refine nb_ren (y := nI (5 * mn + 2)) (nI_add _ _) ?_
  refine lv_iload_n hx hb dX4_send_34 rfl (lv_at hl 4 rfl) ?_
  refine rb_ast (E' := mE ad cI th n st mn (va_up ar 10 (upd (upd (upd (ar 10) (5 * mn) (nI 0)) (5 * mn + 1) x2) (5 * mn + 2) x3))) (n := 600) (f := upd (upd (ar 10) (5 * mn) (nI 0)) (5 * mn + 1) x2) S wb 10 (by decide) rfl 0 rfl (5 * mn + 2) (by omega) (by decide) (m12 rfl rfl rfl rfl rfl rfl rfl rfl rfl rfl rfl rfl) dX4_send_35 (fun H locs wb => ?_)
  refine lv_aload_n hx hb dX4_send_36 rfl (lv_at hl 1 rfl) ?_
  refine rb_get S wb 0 (by decide) rfl rfl in4 13 (by decide) bw_475 rfl dX4_send_37 ?_
  refine lv_iload hx hb dX4_send_40 (lv_at hl 0 rfl) ?_
  refine lv_iconst (v := nI 3) hx hb dX4_send_42 (by decide) ?_
  refine lv_iadd hx hb dX4_send_43 ?_
  refine nb_ren (y := nI (5 * mn + 3)) (nI_add _ _) ?_
  refine lv_iload hx hb dX4_send_44 (lv_at hl 5 rfl) ?_
  refine rb_ast (E' := mE ad cI th n st mn (va_up ar 10 (upd (upd (upd (upd (ar 10) (5 * mn) (nI 0)) (5 * mn + 1) x2) (5 * mn + 2) x3) (5 * mn + 3) x4))) (n := 600) (f := upd (upd (upd (ar 10) (5 * mn) (nI 0)) (5 * mn + 1) x2) (5 * mn + 2) x3) S wb 10 (by decide) rfl 0 rfl (5 * mn + 3) (by omega) (by decide) (m12 rfl rfl rfl rfl rfl rfl rfl rfl rfl rfl rfl rfl) dX4_send_46 (fun H locs wb => ?_)
  refine lv_aload_n hx hb dX4_send_47 rfl (lv_at hl 1 rfl) ?_
  refine rb_get S wb 0 (by decide) rfl rfl in4 13 (by decide) bw_475 rfl dX4_send_48 ?_
  refine lv_iload hx hb dX4_send_51 (lv_at hl 0 rfl) ?_
  refine lv_iconst (v := nI 4) hx hb dX4_send_53 (by decide) ?_
  refine lv_iadd hx hb dX4_send_54 ?_
  refine nb_ren (y := nI (5 * mn + 4)) (nI_add _ _) ?_
  refine lv_iload hx hb dX4_send_55 (lv_at hl 6 rfl) ?_
  refine rb_ast (E' := mE ad cI th n st mn (va_up ar 10 (upd (upd (upd (upd (upd (ar 10) (5 * mn) (nI 0)) (5 * mn + 1) x2) (5 * mn + 2) x3) (5 * mn + 3) x4) (5 * mn + 4) x5))) (n := 600) (f := upd (upd (upd (upd (ar 10) (5 * mn) (nI 0)) (5 * mn + 1) x2) (5 * mn + 2) x3) (5 * mn + 3) x4) S wb 10 (by decide) rfl 0 rfl (5 * mn + 4) (by omega) (by decide) (m12 rfl rfl rfl rfl rfl rfl rfl rfl rfl rfl rfl rfl) dX4_send_57 (fun H locs wb => ?_)
  refine lv_aload_n hx hb dX4_send_58 rfl (lv_at hl 1 rfl) ?_
  refine lv_dup hx hb dX4_send_59 rfl ?_
  refine rb_get S wb 0 (by decide) rfl rfl in4 12 (by decide) bw_474 rfl dX4_send_60 ?_
  refine lv_iconst (v := nI 1) hx hb dX4_send_63 (by decide) ?_
  refine lv_iadd hx hb dX4_send_64 ?_
  refine nb_ren (y := nI (mn + 1)) (nI_add _ _) ?_
  refine rb_put (E' := mE ad cI th n st (mn + 1) (va_up ar 10 (upd (upd (upd (upd (upd (ar 10) (5 * mn) (nI 0)) (5 * mn + 1) x2) (5 * mn + 2) x3) (5 * mn + 3) x4) (5 * mn + 4) x5))) S wb 0 (by decide) rfl rfl in4 tyX4 tyX4_ok nmX4 12 (by decide) bw_474 rfl rfl rfl (Nat.le_of_ble_eq_true rfl) (m12 rfl rfl rfl rfl rfl rfl rfl rfl rfl rfl rfl rfl) dX4_send_65 (fun H locs wb => ?_)
  refine lv_iload_n hx hb dX4_send_68 rfl (lv_at hl 2 rfl) ?_
  refine lv_if_eq (tgt := 82) hx hb dX4_send_69 (by decide) (fun h69 => ?_) (fun h69 => absurd nI_0 h69)
  exact rb_vret S hr hlk hQ wb (fun _ _ => rfl) dX4_send_82

set_option maxHeartbeats 4000000 in
set_option maxRecDepth 100000 in
theorem m_send1 (l : Launch) (D : va_G) (cI cC cD : ClassId) (ad : Nat → Nat) (th : Int32) (n : Nat) (st : Int32) (mn : Nat) (ar : Nat → Nat → Int32) (kd : Nat) (x2 x3 x4 x5 : Int32) (hm : mn < 120) (hk0 : 0 < kd) (hk4 : kd < 4) : RM l yX4_send cX4_send 7 none ({ frames := 0, cells := 0, slots := 0, locals := 0 }) D (ty3 cI cC cD) EN0 [.ref (ad 0), .int (nI kd), .int x2, .int x3, .int x4, .int x5] ad 12 (mE ad cI th n st mn ar) (mE ad cI th n st (mn + 1) (va_up (va_up ar 10 (put5 (ar 10) (5 * mn) (nI kd) x2 x3 x4 x5)) 11 (upd (ar 11) kd (ar 11 kd + nI 1)))) none := by
  refine RM.of (by decide) (Nat.le_of_ble_eq_true rfl) ?_
  intro p e s m below meth c0 A ls args Q0 S hr hlk hQ wb hl
  have hx := S.1
  have hb := S.2.1
  have hl : lv_has ls 7 [(0, .ref (ad 0)), (1, .int (nI kd)), (2, .int x2), (3, .int x3), (4, .int x4), (5, .int x5)] := hl
  refine lv_iconst (v := nI 5) hx hb dX4_send_0 (by decide) ?_
  refine lv_aload_n hx hb dX4_send_1 rfl (lv_at hl 0 rfl) ?_
  refine rb_get S wb 0 (by decide) rfl rfl in4 12 (by decide) bw_474 rfl dX4_send_2 ?_
  refine lv_imul hx hb dX4_send_5 ?_
  refine nb_ren (y := nI (5 * mn)) (pk_mul _ _) ?_
  refine lv_istore (lv' := [(6, .int (nI (5 * mn))), (0, .ref (ad 0)), (1, .int (nI kd)), (2, .int x2), (3, .int x3), (4, .int x4), (5, .int x5)]) hx hb dX4_send_6 hl (by decide) rfl (fun ls hl => ?_)
  refine lv_aload_n hx hb dX4_send_8 rfl (lv_at hl 1 rfl) ?_
  refine rb_get S wb 0 (by decide) rfl rfl in4 13 (by decide) bw_475 rfl dX4_send_9 ?_
  refine lv_iload hx hb dX4_send_12 (lv_at hl 0 rfl) ?_
  refine lv_iload_n hx hb dX4_send_14 rfl (lv_at hl 2 rfl) ?_
  refine rb_ast (E' := mE ad cI th n st mn (va_up ar 10 (upd (ar 10) (5 * mn) (nI kd)))) (n := 600) (f := ar 10) S wb 10 (by decide) rfl 0 rfl (5 * mn) (by omega) (by decide) (m12 rfl rfl rfl rfl rfl rfl rfl rfl rfl rfl rfl rfl) dX4_send_15 (fun H locs wb => ?_)
  refine lv_aload_n hx hb dX4_send_16 rfl (lv_at hl 1 rfl) ?_
  refine rb_get S wb 0 (by decide) rfl rfl in4 13 (by decide) bw_475 rfl dX4_send_17 ?_
  refine lv_iload hx hb dX4_send_20 (lv_at hl 0 rfl) ?_
  refine lv_iconst (v := nI 1) hx hb dX4_send_22 (by decide) ?_
  refine lv_iadd hx hb dX4_send_23 ?_
  refine nb_ren (y := nI (5 * mn + 1)) (nI_add _ _) ?_
  refine lv_iload_n hx hb dX4_send_24 rfl (lv_at hl 3 rfl) ?_
  refine rb_ast (E' := mE ad cI th n st mn (va_up ar 10 (upd (upd (ar 10) (5 * mn) (nI kd)) (5 * mn + 1) x2))) (n := 600) (f := upd (ar 10) (5 * mn) (nI kd)) S wb 10 (by decide) rfl 0 rfl (5 * mn + 1) (by omega) (by decide) (m12 rfl rfl rfl rfl rfl rfl rfl rfl rfl rfl rfl rfl) dX4_send_25 (fun H locs wb => ?_)
  refine lv_aload_n hx hb dX4_send_26 rfl (lv_at hl 1 rfl) ?_
  refine rb_get S wb 0 (by decide) rfl rfl in4 13 (by decide) bw_475 rfl dX4_send_27 ?_
  refine lv_iload hx hb dX4_send_30 (lv_at hl 0 rfl) ?_
  refine lv_iconst (v := nI 2) hx hb dX4_send_32 (by decide) ?_
  refine lv_iadd hx hb dX4_send_33 ?_
  refine nb_ren (y := nI (5 * mn + 2)) (nI_add _ _) ?_
  refine lv_iload_n hx hb dX4_send_34 rfl (lv_at hl 4 rfl) ?_
  refine rb_ast (E' := mE ad cI th n st mn (va_up ar 10 (upd (upd (upd (ar 10) (5 * mn) (nI kd)) (5 * mn + 1) x2) (5 * mn + 2) x3))) (n := 600) (f := upd (upd (ar 10) (5 * mn) (nI kd)) (5 * mn + 1) x2) S wb 10 (by decide) rfl 0 rfl (5 * mn + 2) (by omega) (by decide) (m12 rfl rfl rfl rfl rfl rfl rfl rfl rfl rfl rfl rfl) dX4_send_35 (fun H locs wb => ?_)
  refine lv_aload_n hx hb dX4_send_36 rfl (lv_at hl 1 rfl) ?_
  refine rb_get S wb 0 (by decide) rfl rfl in4 13 (by decide) bw_475 rfl dX4_send_37 ?_
  refine lv_iload hx hb dX4_send_40 (lv_at hl 0 rfl) ?_
  refine lv_iconst (v := nI 3) hx hb dX4_send_42 (by decide) ?_
  refine lv_iadd hx hb dX4_send_43 ?_
  refine nb_ren (y := nI (5 * mn + 3)) (nI_add _ _) ?_
  refine lv_iload hx hb dX4_send_44 (lv_at hl 5 rfl) ?_
  refine rb_ast (E' := mE ad cI th n st mn (va_up ar 10 (upd (upd (upd (upd (ar 10) (5 * mn) (nI kd)) (5 * mn + 1) x2) (5 * mn + 2) x3) (5 * mn + 3) x4))) (n := 600) (f := upd (upd (upd (ar 10) (5 * mn) (nI kd)) (5 * mn + 1) x2) (5 * mn + 2) x3) S wb 10 (by decide) rfl 0 rfl (5 * mn + 3) (by omega) (by decide) (m12 rfl rfl rfl rfl rfl rfl rfl rfl rfl rfl rfl rfl) dX4_send_46 (fun H locs wb => ?_)
  refine lv_aload_n hx hb dX4_send_47 rfl (lv_at hl 1 rfl) ?_
  refine rb_get S wb 0 (by decide) rfl rfl in4 13 (by decide) bw_475 rfl dX4_send_48 ?_
  refine lv_iload hx hb dX4_send_51 (lv_at hl 0 rfl) ?_
  refine lv_iconst (v := nI 4) hx hb dX4_send_53 (by decide) ?_
  refine lv_iadd hx hb dX4_send_54 ?_
  refine nb_ren (y := nI (5 * mn + 4)) (nI_add _ _) ?_
  refine lv_iload hx hb dX4_send_55 (lv_at hl 6 rfl) ?_
  refine rb_ast (E' := mE ad cI th n st mn (va_up ar 10 (upd (upd (upd (upd (upd (ar 10) (5 * mn) (nI kd)) (5 * mn + 1) x2) (5 * mn + 2) x3) (5 * mn + 3) x4) (5 * mn + 4) x5))) (n := 600) (f := upd (upd (upd (upd (ar 10) (5 * mn) (nI kd)) (5 * mn + 1) x2) (5 * mn + 2) x3) (5 * mn + 3) x4) S wb 10 (by decide) rfl 0 rfl (5 * mn + 4) (by omega) (by decide) (m12 rfl rfl rfl rfl rfl rfl rfl rfl rfl rfl rfl rfl) dX4_send_57 (fun H locs wb => ?_)
  refine lv_aload_n hx hb dX4_send_58 rfl (lv_at hl 1 rfl) ?_
  refine lv_dup hx hb dX4_send_59 rfl ?_
  refine rb_get S wb 0 (by decide) rfl rfl in4 12 (by decide) bw_474 rfl dX4_send_60 ?_
  refine lv_iconst (v := nI 1) hx hb dX4_send_63 (by decide) ?_
  refine lv_iadd hx hb dX4_send_64 ?_
  refine nb_ren (y := nI (mn + 1)) (nI_add _ _) ?_
  refine rb_put (E' := mE ad cI th n st (mn + 1) (va_up ar 10 (upd (upd (upd (upd (upd (ar 10) (5 * mn) (nI kd)) (5 * mn + 1) x2) (5 * mn + 2) x3) (5 * mn + 3) x4) (5 * mn + 4) x5))) S wb 0 (by decide) rfl rfl in4 tyX4 tyX4_ok nmX4 12 (by decide) bw_474 rfl rfl rfl (Nat.le_of_ble_eq_true rfl) (m12 rfl rfl rfl rfl rfl rfl rfl rfl rfl rfl rfl rfl) dX4_send_65 (fun H locs wb => ?_)
  refine lv_iload_n hx hb dX4_send_68 rfl (lv_at hl 2 rfl) ?_
  refine lv_if_eq (tgt := 82) hx hb dX4_send_69 (by decide) (fun h69 => absurd h69 (nI_ne0 hk0 (by omega))) (fun h69 => ?_)
  refine lv_aload_n hx hb dX4_send_72 rfl (lv_at hl 1 rfl) ?_
  refine rb_get S wb 0 (by decide) rfl rfl in4 14 (by decide) bw_476 rfl dX4_send_73 ?_
  refine lv_iload_n hx hb dX4_send_76 rfl (lv_at hl 2 rfl) ?_
  refine lv_dup2_11 hx hb dX4_send_77 rfl rfl ?_
  refine rb_ald (n := 4) (f := ar 11) (x := ar 11 kd) S wb 11 (by decide) rfl 0 rfl kd (by omega) (by decide) rfl dX4_send_78 ?_
  refine lv_iconst (v := nI 1) hx hb dX4_send_79 (by decide) ?_
  refine lv_iadd hx hb dX4_send_80 ?_
  refine rb_ast (E' := mE ad cI th n st (mn + 1) (va_up (va_up ar 10 (upd (upd (upd (upd (upd (ar 10) (5 * mn) (nI kd)) (5 * mn + 1) x2) (5 * mn + 2) x3) (5 * mn + 3) x4) (5 * mn + 4) x5)) 11 (upd (ar 11) kd ((ar 11 kd) + (nI 1))))) (n := 4) (f := ar 11) S wb 11 (by decide) rfl 0 rfl kd (by omega) (by decide) (m12 rfl rfl rfl rfl rfl rfl rfl rfl rfl rfl rfl rfl) dX4_send_81 (fun H locs wb => ?_)
  exact rb_vret S hr hlk hQ wb (fun _ _ => rfl) dX4_send_82

set_option maxHeartbeats 4000000 in
set_option maxRecDepth 100000 in
theorem m_drop (l : Launch) (D : va_G) (cI cC cD : ClassId) (ad : Nat → Nat) (th : Int32) (n : Nat) (st : Int32) (mn : Nat) (ar : Nat → Nat → Int32) (i : Nat) (hi : i < mn) (hm : mn ≤ 120) : RM l yX4_drop cX4_drop 3 none ({ frames := 0, cells := 0, slots := 0, locals := 0 }) D (ty3 cI cC cD) EN0 [.ref (ad 0), .int (nI i)] ad 12 (mE ad cI th n st mn ar) (mE ad cI th n st (mn - 1) (va_up ar 10 (dr (ar 10) (5 * i) (5 * (mn - 1))))) none := by
  refine RM.of (by decide) (Nat.le_of_ble_eq_true rfl) ?_
  intro p e s m below meth c0 A ls args Q0 S hr hlk hQ wb hl
  have hx := S.1
  have hb := S.2.1
  have hl : lv_has ls 3 [(0, .ref (ad 0)), (1, .int (nI i))] := hl
  refine lv_aload_n hx hb dX4_drop_0 rfl (lv_at hl 0 rfl) ?_
  refine lv_dup hx hb dX4_drop_1 rfl ?_
  refine rb_get S wb 0 (by decide) rfl rfl in4 12 (by decide) bw_474 rfl dX4_drop_2 ?_
  refine lv_iconst (v := nI 1) hx hb dX4_drop_5 (by decide) ?_
  refine lv_isub hx hb dX4_drop_6 ?_
  refine nb_ren (y := nI (mn - 1)) (pk_sub (by omega)) ?_
  refine rb_put (E' := mE ad cI th n st (mn - 1) ar) S wb 0 (by decide) rfl rfl in4 tyX4 tyX4_ok nmX4 12 (by decide) bw_474 rfl rfl rfl (Nat.le_of_ble_eq_true rfl) (m12 rfl rfl rfl rfl rfl rfl rfl rfl rfl rfl rfl rfl) dX4_drop_7 (fun H locs wb => ?_)
  refine lv_iconst (v := nI 5) hx hb dX4_drop_10 (by decide) ?_
  refine lv_iload_n hx hb dX4_drop_11 rfl (lv_at hl 1 rfl) ?_
  refine lv_imul hx hb dX4_drop_12 ?_
  refine nb_ren (y := nI (5 * i)) (pk_mul _ _) ?_
  refine lv_istore_n (lv' := [(2, .int (nI (5 * i))), (0, .ref (ad 0)), (1, .int (nI i))]) hx hb dX4_drop_13 rfl hl (by decide) rfl (fun ls hl => ?_)
  have L14 : ∀ (fuel : Nat) (k : Nat) (hk1 : 5 * i ≤ k) (hk2 : k ≤ 5 * (mn - 1)) (hfu : 5 * (mn - 1) < k + fuel) (H : Heap) (locs : List Loc) (wb : WB D (ty3 cI cC cD) EN0 ad 12 A s (mE ad cI th n st (mn - 1) (va_up ar 10 (dr (ar 10) (5 * i) k))) H locs) (ls : Array Slot) (hl : lv_has ls 3 [(0, .ref (ad 0)), (2, .int (nI k))]), W p l e ({ frames := 0, cells := 0, slots := 0, locals := 0 }) s m args below meth c0 H locs 0 0 Q0 (F0 m 14 ls []) := by
    intro fuel
    induction fuel with
    | zero => intro k hk1 hk2 hfu H locs wb ls hl; exact absurd hfu (by omega)
    | succ fuel ih =>
      intro k hk1 hk2 hfu H locs wb ls hl
      refine lv_iload_n hx hb dX4_drop_14 rfl (lv_at hl 1 rfl) ?_
      refine lv_iconst (v := nI 5) hx hb dX4_drop_15 (by decide) ?_
      refine lv_aload_n hx hb dX4_drop_16 rfl (lv_at hl 0 rfl) ?_
      refine rb_get S wb 0 (by decide) rfl rfl in4 12 (by decide) bw_474 rfl dX4_drop_17 ?_
      refine lv_imul hx hb dX4_drop_20 ?_
      refine nb_ren (y := nI (5 * (mn - 1))) (pk_mul _ _) ?_
      refine nb_icmp_ge (tgt := 44) hx hb dX4_drop_21 (by decide) (by omega) (by omega) (fun h21 => ?_) (fun h21 => ?_)
      · have hk6 : k = 5 * (mn - 1) := by omega
        subst hk6
        exact rb_vret S hr hlk hQ wb (fun _ _ => rfl) dX4_drop_44
      · refine lv_aload_n hx hb dX4_drop_24 rfl (lv_at hl 0 rfl) ?_
        refine rb_get S wb 0 (by decide) rfl rfl in4 13 (by decide) bw_475 rfl dX4_drop_25 ?_
        refine lv_iload_n hx hb dX4_drop_28 rfl (lv_at hl 1 rfl) ?_
        refine lv_aload_n hx hb dX4_drop_29 rfl (lv_at hl 0 rfl) ?_
        refine rb_get S wb 0 (by decide) rfl rfl in4 13 (by decide) bw_475 rfl dX4_drop_30 ?_
        refine lv_iload_n hx hb dX4_drop_33 rfl (lv_at hl 1 rfl) ?_
        refine lv_iconst (v := nI 5) hx hb dX4_drop_34 (by decide) ?_
        refine lv_iadd hx hb dX4_drop_35 ?_
        refine nb_ren (y := nI (k + 5)) (nI_add _ _) ?_
        refine rb_ald (n := 600) (f := dr (ar 10) (5 * i) k) (x := (dr (ar 10) (5 * i) k) (k + 5)) S wb 10 (by decide) rfl 0 rfl (k + 5) (by omega) (by decide) rfl dX4_drop_36 ?_
        refine rb_ast (E' := mE ad cI th n st (mn - 1) (va_up ar 10 (upd (dr (ar 10) (5 * i) k) k ((dr (ar 10) (5 * i) k) (k + 5))))) (n := 600) (f := dr (ar 10) (5 * i) k) S wb 10 (by decide) rfl 0 rfl k (by omega) (by decide) (m12 rfl rfl rfl rfl rfl rfl rfl rfl rfl rfl rfl rfl) dX4_drop_37 (fun H locs wb => ?_)
        refine lv_iinc (v := nI (k + 1)) (lv' := [(2, .int (nI (k + 1))), (0, .ref (ad 0))]) hx hb dX4_drop_38 hl (k := 1) rfl (nI_s1 _) (by decide) rfl (fun ls hl => ?_)
        refine lv_goto (tgt := 14) hx hb dX4_drop_41 (by decide) ?_
        exact ih (k + 1) (by omega) (by omega) (by omega) _ _ (wb.to (m12 rfl rfl rfl rfl rfl rfl rfl rfl rfl rfl (inl_eq (dr_s _ _ _ hk1)) rfl)) ls (lv_sub hl [1, 0] rfl)
  exact L14 (5 * mn) (5 * i) (by omega) (by omega) (by omega) _ _ (wb.to (m12 rfl rfl rfl rfl rfl rfl rfl rfl rfl rfl (inl_eq (dr_0 _ _)) rfl)) ls (lv_sub hl [1, 0] rfl)

set_option maxHeartbeats 4000000 in
set_option maxRecDepth 100000 in
theorem m_profitOf (l : Launch) (D : va_G) (cI cC cD : ClassId) (ad : Nat → Nat) (th : Int32) (n : Nat) (st : Int32) (mn : Nat) (ar : Nat → Nat → Int32) (c : Nat) (hc : c < 6) (hn : n ≤ 6) (hn2 : 2 ≤ n) : RM l yX4_profitOf cX4_profitOf 5 (some .int) ({ frames := 0, cells := 0, slots := 0, locals := 0 }) D (ty3 cI cC cD) EN0 [.ref (ad 0), .int (nI c)] ad 12 (mE ad cI th n st mn ar) (mE ad cI th n st mn ar) (some (.int (pf (fun j => ar 1 (6 * c + j) * nI (n + 1) - ar 3 j) (n - 1)))) := by
  refine RM.of (by decide) (Nat.le_of_ble_eq_true rfl) ?_
  intro p e s m below meth c0 A ls args Q0 S hr hlk hQ wb hl
  have hx := S.1
  have hb := S.2.1
  have hl : lv_has ls 5 [(0, .ref (ad 0)), (1, .int (nI c))] := hl
  refine lv_aload_n hx hb dX4_profitOf_0 rfl (lv_at hl 0 rfl) ?_
  refine rb_get S wb 0 (by decide) rfl rfl in4 3 (by decide) bw_465 rfl dX4_profitOf_1 ?_
  refine lv_bipush (v := nI 6) hx hb dX4_profitOf_4 (by decide) ?_
  refine lv_iload_n hx hb dX4_profitOf_6 rfl (lv_at hl 1 rfl) ?_
  refine lv_imul hx hb dX4_profitOf_7 ?_
  refine nb_ren (y := nI (6 * c)) (pk_mul _ _) ?_
  refine rb_ald (n := 36) (f := ar 1) (x := ar 1 (6 * c)) S wb 1 (by decide) rfl 0 rfl (6 * c) (by omega) (by decide) rfl dX4_profitOf_8 ?_
  refine lv_aload_n hx hb dX4_profitOf_9 rfl (lv_at hl 0 rfl) ?_
  refine rb_get S wb 0 (by decide) rfl rfl in4 1 (by decide) bw_463 rfl dX4_profitOf_10 ?_
  refine lv_iconst (v := nI 1) hx hb dX4_profitOf_13 (by decide) ?_
  refine lv_iadd hx hb dX4_profitOf_14 ?_
  refine nb_ren (y := nI (n + 1)) (nI_add _ _) ?_
  refine lv_imul hx hb dX4_profitOf_15 ?_
  refine lv_aload_n hx hb dX4_profitOf_16 rfl (lv_at hl 0 rfl) ?_
  refine rb_get S wb 0 (by decide) rfl rfl in4 5 (by decide) bw_467 rfl dX4_profitOf_17 ?_
  refine lv_iconst (v := nI 0) hx hb dX4_profitOf_20 (by decide) ?_
  refine rb_ald (n := 6) (f := ar 3) (x := ar 3 0) S wb 3 (by decide) rfl 0 rfl 0 (by omega) (by decide) rfl dX4_profitOf_21 ?_
  refine lv_isub hx hb dX4_profitOf_22 ?_
  refine lv_istore_n (lv' := [(2, .int (((ar 1 (6 * c)) * (nI (n + 1))) - (ar 3 0))), (0, .ref (ad 0)), (1, .int (nI c))]) hx hb dX4_profitOf_23 rfl hl (by decide) rfl (fun ls hl => ?_)
  refine lv_iconst (v := nI 1) hx hb dX4_profitOf_24 (by decide) ?_
  refine lv_istore_n (lv' := [(3, .int (nI 1)), (2, .int (((ar 1 (6 * c)) * (nI (n + 1))) - (ar 3 0))), (0, .ref (ad 0)), (1, .int (nI c))]) hx hb dX4_profitOf_25 rfl hl (by decide) rfl (fun ls hl => ?_)
  have L26 : ∀ (fuel : Nat) (k : Nat) (v : Int32) (hk : k < n) (hfu : n ≤ k + fuel) (hv : v = pf (fun j => ar 1 (6 * c + j) * nI (n + 1) - ar 3 j) k) (H : Heap) (locs : List Loc) (wb : WB D (ty3 cI cC cD) EN0 ad 12 A s (mE ad cI th n st mn ar) H locs) (ls : Array Slot) (hl : lv_has ls 5 [(0, .ref (ad 0)), (1, .int (nI c)), (2, .int v), (3, .int (nI (k + 1)))]), W p l e ({ frames := 0, cells := 0, slots := 0, locals := 0 }) s m args below meth c0 H locs 0 0 Q0 (F0 m 26 ls []) := by
    intro fuel
    induction fuel with
    | zero => intro k v hk hfu hv H locs wb ls hl; exact absurd hfu (by omega)
    | succ fuel ih =>
      intro k v hk hfu hv H locs wb ls hl
      refine lv_iload_n hx hb dX4_profitOf_26 rfl (lv_at hl 3 rfl) ?_
      refine lv_aload_n hx hb dX4_profitOf_27 rfl (lv_at hl 0 rfl) ?_
      refine rb_get S wb 0 (by decide) rfl rfl in4 1 (by decide) bw_463 rfl dX4_profitOf_28 ?_
      refine nb_icmp_ge (tgt := 80) hx hb dX4_profitOf_31 (by decide) (by omega) (by omega) (fun h31 => ?_) (fun h31 => ?_)
      · refine lv_iload_n hx hb dX4_profitOf_80 rfl (lv_at hl 2 rfl) ?_
        have hkn : n - 1 = k := by omega
        exact rb_iret S hr hlk hQ (by rw [hkn]; exact hv.symm) wb (fun _ _ => rfl) dX4_profitOf_81
      · refine lv_aload_n hx hb dX4_profitOf_34 rfl (lv_at hl 0 rfl) ?_
        refine rb_get S wb 0 (by decide) rfl rfl in4 3 (by decide) bw_465 rfl dX4_profitOf_35 ?_
        refine lv_bipush (v := nI 6) hx hb dX4_profitOf_38 (by decide) ?_
        refine lv_iload_n hx hb dX4_profitOf_40 rfl (lv_at hl 1 rfl) ?_
        refine lv_imul hx hb dX4_profitOf_41 ?_
        refine nb_ren (y := nI (6 * c)) (pk_mul _ _) ?_
        refine lv_iload_n hx hb dX4_profitOf_42 rfl (lv_at hl 3 rfl) ?_
        refine lv_iadd hx hb dX4_profitOf_43 ?_
        refine nb_ren (y := nI (6 * c + (k + 1))) (nI_add _ _) ?_
        refine rb_ald (n := 36) (f := ar 1) (x := ar 1 (6 * c + (k + 1))) S wb 1 (by decide) rfl 0 rfl (6 * c + (k + 1)) (by omega) (by decide) rfl dX4_profitOf_44 ?_
        refine lv_aload_n hx hb dX4_profitOf_45 rfl (lv_at hl 0 rfl) ?_
        refine rb_get S wb 0 (by decide) rfl rfl in4 1 (by decide) bw_463 rfl dX4_profitOf_46 ?_
        refine lv_iconst (v := nI 1) hx hb dX4_profitOf_49 (by decide) ?_
        refine lv_iadd hx hb dX4_profitOf_50 ?_
        refine nb_ren (y := nI (n + 1)) (nI_add _ _) ?_
        refine lv_imul hx hb dX4_profitOf_51 ?_
        refine lv_aload_n hx hb dX4_profitOf_52 rfl (lv_at hl 0 rfl) ?_
        refine rb_get S wb 0 (by decide) rfl rfl in4 5 (by decide) bw_467 rfl dX4_profitOf_53 ?_
        refine lv_iload_n hx hb dX4_profitOf_56 rfl (lv_at hl 3 rfl) ?_
        refine rb_ald (n := 6) (f := ar 3) (x := ar 3 (k + 1)) S wb 3 (by decide) rfl 0 rfl (k + 1) (by omega) (by decide) rfl dX4_profitOf_57 ?_
        refine lv_isub hx hb dX4_profitOf_58 ?_
        refine lv_istore (lv' := [(4, .int (((ar 1 (6 * c + (k + 1))) * (nI (n + 1))) - (ar 3 (k + 1)))), (0, .ref (ad 0)), (1, .int (nI c)), (2, .int v), (3, .int (nI (k + 1)))]) hx hb dX4_profitOf_59 hl (by decide) rfl (fun ls hl => ?_)
        refine lv_iload hx hb dX4_profitOf_61 (lv_at hl 0 rfl) ?_
        refine lv_iload_n hx hb dX4_profitOf_63 rfl (lv_at hl 3 rfl) ?_
        refine lv_icmp_le (tgt := 72) hx hb dX4_profitOf_64 (by decide) (fun h64 => ?_) (fun h64 => ?_)
        · refine lv_iload_n hx hb dX4_profitOf_72 rfl (lv_at hl 3 rfl) ?_
          refine lv_istore_n (lv' := [(2, .int v), (4, .int (((ar 1 (6 * c + (k + 1))) * (nI (n + 1))) - (ar 3 (k + 1)))), (0, .ref (ad 0)), (1, .int (nI c)), (3, .int (nI (k + 1)))]) hx hb dX4_profitOf_73 rfl hl (by decide) rfl (fun ls hl => ?_)
          refine lv_iinc (v := nI (k + 1 + 1)) (lv' := [(3, .int (nI (k + 1 + 1))), (2, .int v), (4, .int (((ar 1 (6 * c + (k + 1))) * (nI (n + 1))) - (ar 3 (k + 1)))), (0, .ref (ad 0)), (1, .int (nI c))]) hx hb dX4_profitOf_74 hl (k := 4) rfl (nI_s1 _) (by decide) rfl (fun ls hl => ?_)
          refine lv_goto (tgt := 26) hx hb dX4_profitOf_77 (by decide) ?_
          exact ih (k + 1) v (by omega) (by omega) (by first | exact pf_t hv rfl h64 | exact pf_f hv rfl h64) _ _ wb ls (lv_sub hl [3, 4, 1, 0] rfl)
        · refine lv_iload hx hb dX4_profitOf_67 (lv_at hl 0 rfl) ?_
          refine lv_goto (tgt := 73) hx hb dX4_profitOf_69 (by decide) ?_
          refine lv_istore_n (lv' := [(2, .int (((ar 1 (6 * c + (k + 1))) * (nI (n + 1))) - (ar 3 (k + 1)))), (4, .int (((ar 1 (6 * c + (k + 1))) * (nI (n + 1))) - (ar 3 (k + 1)))), (0, .ref (ad 0)), (1, .int (nI c)), (3, .int (nI (k + 1)))]) hx hb dX4_profitOf_73 rfl hl (by decide) rfl (fun ls hl => ?_)
          refine lv_iinc (v := nI (k + 1 + 1)) (lv' := [(3, .int (nI (k + 1 + 1))), (2, .int (((ar 1 (6 * c + (k + 1))) * (nI (n + 1))) - (ar 3 (k + 1)))), (4, .int (((ar 1 (6 * c + (k + 1))) * (nI (n + 1))) - (ar 3 (k + 1)))), (0, .ref (ad 0)), (1, .int (nI c))]) hx hb dX4_profitOf_74 hl (k := 4) rfl (nI_s1 _) (by decide) rfl (fun ls hl => ?_)
          refine lv_goto (tgt := 26) hx hb dX4_profitOf_77 (by decide) ?_
          exact ih (k + 1) (((ar 1 (6 * c + (k + 1))) * (nI (n + 1))) - (ar 3 (k + 1))) (by omega) (by omega) (by first | exact pf_t hv rfl h64 | exact pf_f hv rfl h64) _ _ wb ls (lv_sub hl [3, 4, 1, 0] rfl)
  exact L26 n 0 (((ar 1 (6 * c)) * (nI (n + 1))) - (ar 3 0)) (by omega) (by omega) rfl _ _ wb ls (lv_sub hl [2, 3, 1, 0] rfl)
end
section
/-! the model's public methods -/
theorem no_f {c n : Nat} (hc : c < n) (hn : n < 2 ^ 31) : ¬ (nI c < 0 ∨ nI n ≤ nI c) := fun q => q.elim (nI_pos (by omega)) (fun q => nI_ge hc hn q)
theorem tI {P : Prop} {r : Int32} {d : Decidable P} (h : tells r P) : (@ite Int32 P d 1 0) = r := by
  by_cases q : P
  · rw [if_pos q, h.1 q]
  · rw [if_neg q, h.2 q]

theorem m_no_t (l : Launch) (D : va_G) (cI cC cD : ClassId) (ad : Nat → Nat) (th : Int32) (n : Nat) (st : Int32) (mn : Nat) (ar : Nat → Nat → Int32) (x : Int32) (r : Int32) (h : tells r (x < 0 ∨ nI n ≤ x)) : RM l yX4_no cX4_no 2 (some .boolean) ({ frames := 0, cells := 0, slots := 0, locals := 0 }) D (ty3 cI cC cD) EN0 [.ref (ad 0), .int x] ad 12 (mE ad cI th n st mn ar) (mE ad cI th n st mn ar) (some (.int r)) := by
  have := m_no l D cI cC cD ad th n st mn ar x
  rwa [tI h] at this

theorem m_noLetter_t (l : Launch) (D : va_G) (cI cC cD : ClassId) (ad : Nat → Nat) (th : Int32) (n : Nat) (st : Int32) (mn : Nat) (ar : Nat → Nat → Int32) (x : Int32) (r : Int32) (h : tells r (x < 0 ∨ nI mn ≤ x)) : RM l yX4_noLetter cX4_noLetter 2 (some .boolean) ({ frames := 0, cells := 0, slots := 0, locals := 0 }) D (ty3 cI cC cD) EN0 [.ref (ad 0), .int x] ad 12 (mE ad cI th n st mn ar) (mE ad cI th n st mn ar) (some (.int r)) := by
  have := m_noLetter l D cI cC cD ad th n st mn ar x
  rwa [tI h] at this

set_option maxHeartbeats 4000000 in
set_option maxRecDepth 100000 in
theorem m_known_x1 (l : Launch) (D : va_G) (cI cC cD : ClassId) (ad : Nat → Nat) (th : Int32) (n : Nat) (st : Int32) (mn : Nat) (ar : Nat → Nat → Int32) (x y : Int32) (hn : n ≤ 6) (hx0 : x < 0 ∨ nI n ≤ x) : RM l yX4_known cX4_known 3 (some .int) ({ frames := 1, cells := 0, slots := 0, locals := 21 }) D (ty3 cI cC cD) EN0 [.ref (ad 0), .int x, .int y] ad 12 (mE ad cI th n st mn ar) (mE ad cI (nI 1) n st mn ar) (some (.int (nI 0))) := by
  refine RM.of (by decide) (Nat.le_of_ble_eq_true rfl) ?_
  intro p e s m below meth c0 A ls args Q0 S hr hlk hQ wb hl
  have hx := S.1
  have hb := S.2.1
  have hl : lv_has ls 3 [(0, .ref (ad 0)), (1, .int x), (2, .int y)] := hl
  refine lv_aload_n hx hb dX4_known_0 rfl (lv_at hl 0 rfl) ?_
  refine lv_aload_n hx hb dX4_known_1 rfl (lv_at hl 0 rfl) ?_
  refine lv_iload_n hx hb dX4_known_2 rfl (lv_at hl 1 rfl) ?_
  refine rb_callV S wb EN0_ok (m_no_t l D cI cC cD ad th n st mn ar x (nI 1) (tells_t hx0)) (bw5 bw_520 bw_522 bw_23 bw_37 bw_523) (rb_recv wb 0 (by decide) rfl rfl) hdX4_no rfl ⟨rfl, rfl⟩ ⟨by decide, by decide⟩ hl.1 (Nat.le_of_ble_eq_true rfl) ⟨Nat.zero_le _, Nat.zero_le _⟩ (rest := [.ref (ad 0)]) (st1 := [.int (nI 1), .ref (ad 0)]) rfl rfl dX4_known_3 (fun H locs wb => ?_)
  refine lv_if_ne (tgt := 17) hx hb dX4_known_6 (by decide) (fun h6 => ?_) (fun h6 => absurd h6 (by decide))
  refine lv_iconst (v := nI 1) hx hb dX4_known_17 (by decide) ?_
  refine lv_goto (tgt := 22) hx hb dX4_known_18 (by decide) ?_
  refine rb_put (E' := mE ad cI (nI 1) n st mn ar) S wb 0 (by decide) rfl rfl in4 tyX4 tyX4_ok nmX4 0 (by decide) bw_462 rfl rfl rfl (Nat.le_of_ble_eq_true rfl) (m12 rfl rfl rfl rfl rfl rfl rfl rfl rfl rfl rfl rfl) dX4_known_22 (fun H locs wb => ?_)
  refine lv_aload_n hx hb dX4_known_25 rfl (lv_at hl 0 rfl) ?_
  refine rb_get S wb 0 (by decide) rfl rfl in4 0 (by decide) bw_462 rfl dX4_known_26 ?_
  refine lv_if_ne (tgt := 46) hx hb dX4_known_29 (by decide) (fun h29 => ?_) (fun h29 => absurd h29 (by decide))
  refine lv_iconst (v := nI 0) hx hb dX4_known_46 (by decide) ?_
  exact rb_iret S hr hlk hQ rfl wb (m12 rfl rfl rfl rfl rfl rfl rfl rfl rfl rfl rfl rfl) dX4_known_47

set_option maxHeartbeats 4000000 in
set_option maxRecDepth 100000 in
theorem m_known_x2 (l : Launch) (D : va_G) (cI cC cD : ClassId) (ad : Nat → Nat) (th : Int32) (n : Nat) (st : Int32) (mn : Nat) (ar : Nat → Nat → Int32) (x y : Int32) (hn : n ≤ 6) (hx0 : ¬ (x < 0 ∨ nI n ≤ x)) (hy0 : y < 0 ∨ nI n ≤ y) : RM l yX4_known cX4_known 3 (some .int) ({ frames := 1, cells := 0, slots := 0, locals := 21 }) D (ty3 cI cC cD) EN0 [.ref (ad 0), .int x, .int y] ad 12 (mE ad cI th n st mn ar) (mE ad cI (nI 1) n st mn ar) (some (.int (nI 0))) := by
  refine RM.of (by decide) (Nat.le_of_ble_eq_true rfl) ?_
  intro p e s m below meth c0 A ls args Q0 S hr hlk hQ wb hl
  have hx := S.1
  have hb := S.2.1
  have hl : lv_has ls 3 [(0, .ref (ad 0)), (1, .int x), (2, .int y)] := hl
  refine lv_aload_n hx hb dX4_known_0 rfl (lv_at hl 0 rfl) ?_
  refine lv_aload_n hx hb dX4_known_1 rfl (lv_at hl 0 rfl) ?_
  refine lv_iload_n hx hb dX4_known_2 rfl (lv_at hl 1 rfl) ?_
  refine rb_callV S wb EN0_ok (m_no_t l D cI cC cD ad th n st mn ar x (nI 0) (tells_f hx0)) (bw5 bw_520 bw_522 bw_23 bw_37 bw_523) (rb_recv wb 0 (by decide) rfl rfl) hdX4_no rfl ⟨rfl, rfl⟩ ⟨by decide, by decide⟩ hl.1 (Nat.le_of_ble_eq_true rfl) ⟨Nat.zero_le _, Nat.zero_le _⟩ (rest := [.ref (ad 0)]) (st1 := [.int (nI 0), .ref (ad 0)]) rfl rfl dX4_known_3 (fun H locs wb => ?_)
  refine lv_if_ne (tgt := 17) hx hb dX4_known_6 (by decide) (fun h6 => absurd (by decide) h6) (fun h6 => ?_)
  refine lv_aload_n hx hb dX4_known_9 rfl (lv_at hl 0 rfl) ?_
  refine lv_iload_n hx hb dX4_known_10 rfl (lv_at hl 2 rfl) ?_
  refine rb_callV S wb EN0_ok (m_no_t l D cI cC cD ad th n st mn ar y (nI 1) (tells_t hy0)) (bw5 bw_520 bw_522 bw_23 bw_37 bw_523) (rb_recv wb 0 (by decide) rfl rfl) hdX4_no rfl ⟨rfl, rfl⟩ ⟨by decide, by decide⟩ hl.1 (Nat.le_of_ble_eq_true rfl) ⟨Nat.zero_le _, Nat.zero_le _⟩ (rest := [.ref (ad 0)]) (st1 := [.int (nI 1), .ref (ad 0)]) rfl rfl dX4_known_11 (fun H locs wb => ?_)
  refine lv_if_eq (tgt := 21) hx hb dX4_known_14 (by decide) (fun h14 => absurd h14 (by decide)) (fun h14 => ?_)
  refine lv_iconst (v := nI 1) hx hb dX4_known_17 (by decide) ?_
  refine lv_goto (tgt := 22) hx hb dX4_known_18 (by decide) ?_
  refine rb_put (E' := mE ad cI (nI 1) n st mn ar) S wb 0 (by decide) rfl rfl in4 tyX4 tyX4_ok nmX4 0 (by decide) bw_462 rfl rfl rfl (Nat.le_of_ble_eq_true rfl) (m12 rfl rfl rfl rfl rfl rfl rfl rfl rfl rfl rfl rfl) dX4_known_22 (fun H locs wb => ?_)
  refine lv_aload_n hx hb dX4_known_25 rfl (lv_at hl 0 rfl) ?_
  refine rb_get S wb 0 (by decide) rfl rfl in4 0 (by decide) bw_462 rfl dX4_known_26 ?_
  refine lv_if_ne (tgt := 46) hx hb dX4_known_29 (by decide) (fun h29 => ?_) (fun h29 => absurd h29 (by decide))
  refine lv_iconst (v := nI 0) hx hb dX4_known_46 (by decide) ?_
  exact rb_iret S hr hlk hQ rfl wb (m12 rfl rfl rfl rfl rfl rfl rfl rfl rfl rfl rfl rfl) dX4_known_47

set_option maxHeartbeats 4000000 in
set_option maxRecDepth 100000 in
theorem m_known (l : Launch) (D : va_G) (cI cC cD : ClassId) (ad : Nat → Nat) (th : Int32) (n : Nat) (st : Int32) (mn : Nat) (ar : Nat → Nat → Int32) (c j : Nat) (hn : n ≤ 6) (hc : c < n) (hj : j < n) : RM l yX4_known cX4_known 3 (some .int) ({ frames := 1, cells := 0, slots := 0, locals := 21 }) D (ty3 cI cC cD) EN0 [.ref (ad 0), .int (nI c), .int (nI j)] ad 12 (mE ad cI th n st mn ar) (mE ad cI (nI 0) n st mn ar) (some (.int (ar 2 (6 * c + j)))) := by
  refine RM.of (by decide) (Nat.le_of_ble_eq_true rfl) ?_
  intro p e s m below meth c0 A ls args Q0 S hr hlk hQ wb hl
  have hx := S.1
  have hb := S.2.1
  have hl : lv_has ls 3 [(0, .ref (ad 0)), (1, .int (nI c)), (2, .int (nI j))] := hl
  refine lv_aload_n hx hb dX4_known_0 rfl (lv_at hl 0 rfl) ?_
  refine lv_aload_n hx hb dX4_known_1 rfl (lv_at hl 0 rfl) ?_
  refine lv_iload_n hx hb dX4_known_2 rfl (lv_at hl 1 rfl) ?_
  refine rb_callV S wb EN0_ok (m_no_t l D cI cC cD ad th n st mn ar (nI c) (nI 0) (tells_f (no_f hc (by omega)))) (bw5 bw_520 bw_522 bw_23 bw_37 bw_523) (rb_recv wb 0 (by decide) rfl rfl) hdX4_no rfl ⟨rfl, rfl⟩ ⟨by decide, by decide⟩ hl.1 (Nat.le_of_ble_eq_true rfl) ⟨Nat.zero_le _, Nat.zero_le _⟩ (rest := [.ref (ad 0)]) (st1 := [.int (nI 0), .ref (ad 0)]) rfl rfl dX4_known_3 (fun H locs wb => ?_)
  refine lv_if_ne (tgt := 17) hx hb dX4_known_6 (by decide) (fun h6 => absurd (by decide) h6) (fun h6 => ?_)
  refine lv_aload_n hx hb dX4_known_9 rfl (lv_at hl 0 rfl) ?_
  refine lv_iload_n hx hb dX4_known_10 rfl (lv_at hl 2 rfl) ?_
  refine rb_callV S wb EN0_ok (m_no_t l D cI cC cD ad th n st mn ar (nI j) (nI 0) (tells_f (no_f hj (by omega)))) (bw5 bw_520 bw_522 bw_23 bw_37 bw_523) (rb_recv wb 0 (by decide) rfl rfl) hdX4_no rfl ⟨rfl, rfl⟩ ⟨by decide, by decide⟩ hl.1 (Nat.le_of_ble_eq_true rfl) ⟨Nat.zero_le _, Nat.zero_le _⟩ (rest := [.ref (ad 0)]) (st1 := [.int (nI 0), .ref (ad 0)]) rfl rfl dX4_known_11 (fun H locs wb => ?_)
  refine lv_if_eq (tgt := 21) hx hb dX4_known_14 (by decide) (fun h14 => ?_) (fun h14 => absurd (by decide) h14)
  refine lv_iconst (v := nI 0) hx hb dX4_known_21 (by decide) ?_
  refine rb_put (E' := mE ad cI (nI 0) n st mn ar) S wb 0 (by decide) rfl rfl in4 tyX4 tyX4_ok nmX4 0 (by decide) bw_462 rfl rfl rfl (Nat.le_of_ble_eq_true rfl) (m12 rfl rfl rfl rfl rfl rfl rfl rfl rfl rfl rfl rfl) dX4_known_22 (fun H locs wb => ?_)
  refine lv_aload_n hx hb dX4_known_25 rfl (lv_at hl 0 rfl) ?_
  refine rb_get S wb 0 (by decide) rfl rfl in4 0 (by decide) bw_462 rfl dX4_known_26 ?_
  refine lv_if_ne (tgt := 46) hx hb dX4_known_29 (by decide) (fun h29 => absurd (by decide) h29) (fun h29 => ?_)
  refine lv_aload_n hx hb dX4_known_32 rfl (lv_at hl 0 rfl) ?_
  refine rb_get S wb 0 (by decide) rfl rfl in4 4 (by decide) bw_466 rfl dX4_known_33 ?_
  refine lv_bipush (v := nI 6) hx hb dX4_known_36 (by decide) ?_
  refine lv_iload_n hx hb dX4_known_38 rfl (lv_at hl 1 rfl) ?_
  refine lv_imul hx hb dX4_known_39 ?_
  refine nb_ren (y := nI (6 * c)) (pk_mul _ _) ?_
  refine lv_iload_n hx hb dX4_known_40 rfl (lv_at hl 2 rfl) ?_
  refine lv_iadd hx hb dX4_known_41 ?_
  refine nb_ren (y := nI (6 * c + j)) (nI_add _ _) ?_
  refine rb_ald (n := 36) (f := ar 2) (x := ar 2 (6 * c + j)) S wb 2 (by decide) rfl 0 rfl (6 * c + j) (by omega) (by decide) rfl dX4_known_42 ?_
  refine lv_goto (tgt := 47) hx hb dX4_known_43 (by decide) ?_
  exact rb_iret S hr hlk hQ rfl wb (m12 rfl rfl rfl rfl rfl rfl rfl rfl rfl rfl rfl rfl) dX4_known_47

set_option maxHeartbeats 4000000 in
set_option maxRecDepth 100000 in
theorem m_resend_x1 (l : Launch) (D : va_G) (cI cC cD : ClassId) (ad : Nat → Nat) (th : Int32) (n : Nat) (st : Int32) (mn : Nat) (ar : Nat → Nat → Int32) (x : Int32) (hn : n ≤ 6) (hx0 : x < 0 ∨ nI n ≤ x) : RM l yX4_resend cX4_resend 2 (some .int) ({ frames := 1, cells := 0, slots := 0, locals := 21 }) D (ty3 cI cC cD) EN0 [.ref (ad 0), .int x] ad 12 (mE ad cI th n st mn ar) (mE ad cI (nI 1) n st mn ar) (some (.int (nI 0))) := by
  refine RM.of (by decide) (Nat.le_of_ble_eq_true rfl) ?_
  intro p e s m below meth c0 A ls args Q0 S hr hlk hQ wb hl
  have hx := S.1
  have hb := S.2.1
  have hl : lv_has ls 2 [(0, .ref (ad 0)), (1, .int x)] := hl
  refine lv_aload_n hx hb dX4_resend_0 rfl (lv_at hl 0 rfl) ?_
  refine lv_aload_n hx hb dX4_resend_1 rfl (lv_at hl 0 rfl) ?_
  refine lv_iload_n hx hb dX4_resend_2 rfl (lv_at hl 1 rfl) ?_
  refine rb_callV S wb EN0_ok (m_no_t l D cI cC cD ad th n st mn ar x (nI 1) (tells_t hx0)) (bw5 bw_520 bw_522 bw_23 bw_37 bw_523) (rb_recv wb 0 (by decide) rfl rfl) hdX4_no rfl ⟨rfl, rfl⟩ ⟨by decide, by decide⟩ hl.1 (Nat.le_of_ble_eq_true rfl) ⟨Nat.zero_le _, Nat.zero_le _⟩ (rest := [.ref (ad 0)]) (st1 := [.int (nI 1), .ref (ad 0)]) rfl rfl dX4_resend_3 (fun H locs wb => ?_)
  refine lv_if_eq (tgt := 13) hx hb dX4_resend_6 (by decide) (fun h6 => absurd h6 (by decide)) (fun h6 => ?_)
  refine lv_iconst (v := nI 1) hx hb dX4_resend_9 (by decide) ?_
  refine lv_goto (tgt := 36) hx hb dX4_resend_10 (by decide) ?_
  refine rb_put (E' := mE ad cI (nI 1) n st mn ar) S wb 0 (by decide) rfl rfl in4 tyX4 tyX4_ok nmX4 0 (by decide) bw_462 rfl rfl rfl (Nat.le_of_ble_eq_true rfl) (m12 rfl rfl rfl rfl rfl rfl rfl rfl rfl rfl rfl rfl) dX4_resend_36 (fun H locs wb => ?_)
  refine lv_aload_n hx hb dX4_resend_39 rfl (lv_at hl 0 rfl) ?_
  refine rb_get S wb 0 (by decide) rfl rfl in4 0 (by decide) bw_462 rfl dX4_resend_40 ?_
  refine lv_if_eq (tgt := 48) hx hb dX4_resend_43 (by decide) (fun h43 => absurd h43 (by decide)) (fun h43 => ?_)
  refine lv_iconst (v := nI 0) hx hb dX4_resend_46 (by decide) ?_
  exact rb_iret S hr hlk hQ rfl wb (m12 rfl rfl rfl rfl rfl rfl rfl rfl rfl rfl rfl rfl) dX4_resend_47

set_option maxHeartbeats 4000000 in
set_option maxRecDepth 100000 in
theorem m_resend_x2 (l : Launch) (D : va_G) (cI cC cD : ClassId) (ad : Nat → Nat) (th : Int32) (n : Nat) (st : Int32) (mn : Nat) (ar : Nat → Nat → Int32) (c : Nat) (hn : n ≤ 6) (hmn : mn < 2 ^ 31) (hc : c < n) (h2 : ar 6 c = 0 ∨ 39 < mn) : RM l yX4_resend cX4_resend 2 (some .int) ({ frames := 1, cells := 0, slots := 0, locals := 21 }) D (ty3 cI cC cD) EN0 [.ref (ad 0), .int (nI c)] ad 12 (mE ad cI th n st mn ar) (mE ad cI (nI 2) n st mn ar) (some (.int (nI 0))) := by
  refine RM.of (by decide) (Nat.le_of_ble_eq_true rfl) ?_
  intro p e s m below meth c0 A ls args Q0 S hr hlk hQ wb hl
  have hx := S.1
  have hb := S.2.1
  have hl : lv_has ls 2 [(0, .ref (ad 0)), (1, .int (nI c))] := hl
  refine lv_aload_n hx hb dX4_resend_0 rfl (lv_at hl 0 rfl) ?_
  refine lv_aload_n hx hb dX4_resend_1 rfl (lv_at hl 0 rfl) ?_
  refine lv_iload_n hx hb dX4_resend_2 rfl (lv_at hl 1 rfl) ?_
  refine rb_callV S wb EN0_ok (m_no_t l D cI cC cD ad th n st mn ar (nI c) (nI 0) (tells_f (no_f hc (by omega)))) (bw5 bw_520 bw_522 bw_23 bw_37 bw_523) (rb_recv wb 0 (by decide) rfl rfl) hdX4_no rfl ⟨rfl, rfl⟩ ⟨by decide, by decide⟩ hl.1 (Nat.le_of_ble_eq_true rfl) ⟨Nat.zero_le _, Nat.zero_le _⟩ (rest := [.ref (ad 0)]) (st1 := [.int (nI 0), .ref (ad 0)]) rfl rfl dX4_resend_3 (fun H locs wb => ?_)
  refine lv_if_eq (tgt := 13) hx hb dX4_resend_6 (by decide) (fun h6 => ?_) (fun h6 => absurd (by decide) h6)
  refine lv_aload_n hx hb dX4_resend_13 rfl (lv_at hl 0 rfl) ?_
  refine rb_get S wb 0 (by decide) rfl rfl in4 8 (by decide) bw_470 rfl dX4_resend_14 ?_
  refine lv_iload_n hx hb dX4_resend_17 rfl (lv_at hl 1 rfl) ?_
  refine rb_ald (n := 6) (f := ar 6) (x := ar 6 c) S wb 6 (by decide) rfl 0 rfl c (by omega) (by decide) rfl dX4_resend_18 ?_
  refine lv_if_eq (tgt := 31) hx hb dX4_resend_19 (by decide) (fun h19 => ?_) (fun h19 => ?_)
  · refine lv_iconst (v := nI 2) hx hb dX4_resend_31 (by decide) ?_
    refine lv_goto (tgt := 36) hx hb dX4_resend_32 (by decide) ?_
    refine rb_put (E' := mE ad cI (nI 2) n st mn ar) S wb 0 (by decide) rfl rfl in4 tyX4 tyX4_ok nmX4 0 (by decide) bw_462 rfl rfl rfl (Nat.le_of_ble_eq_true rfl) (m12 rfl rfl rfl rfl rfl rfl rfl rfl rfl rfl rfl rfl) dX4_resend_36 (fun H locs wb => ?_)
    refine lv_aload_n hx hb dX4_resend_39 rfl (lv_at hl 0 rfl) ?_
    refine rb_get S wb 0 (by decide) rfl rfl in4 0 (by decide) bw_462 rfl dX4_resend_40 ?_
    refine lv_if_eq (tgt := 48) hx hb dX4_resend_43 (by decide) (fun h43 => absurd h43 (by decide)) (fun h43 => ?_)
    refine lv_iconst (v := nI 0) hx hb dX4_resend_46 (by decide) ?_
    exact rb_iret S hr hlk hQ rfl wb (m12 rfl rfl rfl rfl rfl rfl rfl rfl rfl rfl rfl rfl) dX4_resend_47
  · have hm : 39 < mn := by
      rcases h2 with q | q
      · exact absurd q h19
      · exact q
    refine lv_aload_n hx hb dX4_resend_22 rfl (lv_at hl 0 rfl) ?_
    refine rb_get S wb 0 (by decide) rfl rfl in4 12 (by decide) bw_474 rfl dX4_resend_23 ?_
    refine lv_bipush (v := nI 39) hx hb dX4_resend_26 (by decide) ?_
    refine nb_icmp_le (tgt := 35) hx hb dX4_resend_28 (by decide) (by omega) (by omega) (fun h28 => absurd h28 (by omega)) (fun h28 => ?_)
    refine lv_iconst (v := nI 2) hx hb dX4_resend_31 (by decide) ?_
    refine lv_goto (tgt := 36) hx hb dX4_resend_32 (by decide) ?_
    refine rb_put (E' := mE ad cI (nI 2) n st mn ar) S wb 0 (by decide) rfl rfl in4 tyX4 tyX4_ok nmX4 0 (by decide) bw_462 rfl rfl rfl (Nat.le_of_ble_eq_true rfl) (m12 rfl rfl rfl rfl rfl rfl rfl rfl rfl rfl rfl rfl) dX4_resend_36 (fun H locs wb => ?_)
    refine lv_aload_n hx hb dX4_resend_39 rfl (lv_at hl 0 rfl) ?_
    refine rb_get S wb 0 (by decide) rfl rfl in4 0 (by decide) bw_462 rfl dX4_resend_40 ?_
    refine lv_if_eq (tgt := 48) hx hb dX4_resend_43 (by decide) (fun h43 => absurd h43 (by decide)) (fun h43 => ?_)
    refine lv_iconst (v := nI 0) hx hb dX4_resend_46 (by decide) ?_
    exact rb_iret S hr hlk hQ rfl wb (m12 rfl rfl rfl rfl rfl rfl rfl rfl rfl rfl rfl rfl) dX4_resend_47

set_option maxHeartbeats 4000000 in
set_option maxRecDepth 100000 in
theorem m_resend (l : Launch) (D : va_G) (cI cC cD : ClassId) (ad : Nat → Nat) (th : Int32) (n : Nat) (st : Int32) (mn : Nat) (ar : Nat → Nat → Int32) (c : Nat) (hn : n ≤ 6) (hc : c < n) (h1 : ¬ ar 6 c = 0) (h2 : mn ≤ 39) : RM l yX4_resend cX4_resend 2 (some .int) ({ frames := 1, cells := 0, slots := 0, locals := 26 }) D (ty3 cI cC cD) EN0 [.ref (ad 0), .int (nI c)] ad 12 (mE ad cI th n st mn ar) (mE ad cI (nI 0) n st (mn + 1) (va_up ar 10 (put5 (ar 10) (5 * mn) (nI 0) (nI c) (ar 7 c) (ar 8 c) (ar 9 c)))) (some (.int (nI (mn + 1)))) := by
  refine RM.of (by decide) (Nat.le_of_ble_eq_true rfl) ?_
  intro p e s m below meth c0 A ls args Q0 S hr hlk hQ wb hl
  have hx := S.1
  have hb := S.2.1
  have hl : lv_has ls 2 [(0, .ref (ad 0)), (1, .int (nI c))] := hl
  refine lv_aload_n hx hb dX4_resend_0 rfl (lv_at hl 0 rfl) ?_
  refine lv_aload_n hx hb dX4_resend_1 rfl (lv_at hl 0 rfl) ?_
  refine lv_iload_n hx hb dX4_resend_2 rfl (lv_at hl 1 rfl) ?_
  refine rb_callV S wb EN0_ok (m_no_t l D cI cC cD ad th n st mn ar (nI c) (nI 0) (tells_f (no_f hc (by omega)))) (bw5 bw_520 bw_522 bw_23 bw_37 bw_523) (rb_recv wb 0 (by decide) rfl rfl) hdX4_no rfl ⟨rfl, rfl⟩ ⟨by decide, by decide⟩ hl.1 (Nat.le_of_ble_eq_true rfl) ⟨Nat.zero_le _, Nat.zero_le _⟩ (rest := [.ref (ad 0)]) (st1 := [.int (nI 0), .ref (ad 0)]) rfl rfl dX4_resend_3 (fun H locs wb => ?_)
  refine lv_if_eq (tgt := 13) hx hb dX4_resend_6 (by decide) (fun h6 => ?_) (fun h6 => absurd (by decide) h6)
  refine lv_aload_n hx hb dX4_resend_13 rfl (lv_at hl 0 rfl) ?_
  refine rb_get S wb 0 (by decide) rfl rfl in4 8 (by decide) bw_470 rfl dX4_resend_14 ?_
  refine lv_iload_n hx hb dX4_resend_17 rfl (lv_at hl 1 rfl) ?_
  refine rb_ald (n := 6) (f := ar 6) (x := ar 6 c) S wb 6 (by decide) rfl 0 rfl c (by omega) (by decide) rfl dX4_resend_18 ?_
  refine lv_if_eq (tgt := 31) hx hb dX4_resend_19 (by decide) (fun h19 => absurd h19 h1) (fun h19 => ?_)
  refine lv_aload_n hx hb dX4_resend_22 rfl (lv_at hl 0 rfl) ?_
  refine rb_get S wb 0 (by decide) rfl rfl in4 12 (by decide) bw_474 rfl dX4_resend_23 ?_
  refine lv_bipush (v := nI 39) hx hb dX4_resend_26 (by decide) ?_
  refine nb_icmp_le (tgt := 35) hx hb dX4_resend_28 (by decide) (by omega) (by omega) (fun h28 => ?_) (fun h28 => absurd h28 (by omega))
  refine lv_iconst (v := nI 0) hx hb dX4_resend_35 (by decide) ?_
  refine rb_put (E' := mE ad cI (nI 0) n st mn ar) S wb 0 (by decide) rfl rfl in4 tyX4 tyX4_ok nmX4 0 (by decide) bw_462 rfl rfl rfl (Nat.le_of_ble_eq_true rfl) (m12 rfl rfl rfl rfl rfl rfl rfl rfl rfl rfl rfl rfl) dX4_resend_36 (fun H locs wb => ?_)
  refine lv_aload_n hx hb dX4_resend_39 rfl (lv_at hl 0 rfl) ?_
  refine rb_get S wb 0 (by decide) rfl rfl in4 0 (by decide) bw_462 rfl dX4_resend_40 ?_
  refine lv_if_eq (tgt := 48) hx hb dX4_resend_43 (by decide) (fun h43 => ?_) (fun h43 => absurd (by decide) h43)
  refine lv_aload_n hx hb dX4_resend_48 rfl (lv_at hl 0 rfl) ?_
  refine lv_iconst (v := nI 0) hx hb dX4_resend_49 (by decide) ?_
  refine lv_iload_n hx hb dX4_resend_50 rfl (lv_at hl 1 rfl) ?_
  refine lv_aload_n hx hb dX4_resend_51 rfl (lv_at hl 0 rfl) ?_
  refine rb_get S wb 0 (by decide) rfl rfl in4 9 (by decide) bw_471 rfl dX4_resend_52 ?_
  refine lv_iload_n hx hb dX4_resend_55 rfl (lv_at hl 1 rfl) ?_
  refine rb_ald (n := 6) (f := ar 7) (x := ar 7 c) S wb 7 (by decide) rfl 0 rfl c (by omega) (by decide) rfl dX4_resend_56 ?_
  refine lv_aload_n hx hb dX4_resend_57 rfl (lv_at hl 0 rfl) ?_
  refine rb_get S wb 0 (by decide) rfl rfl in4 10 (by decide) bw_472 rfl dX4_resend_58 ?_
  refine lv_iload_n hx hb dX4_resend_61 rfl (lv_at hl 1 rfl) ?_
  refine rb_ald (n := 6) (f := ar 8) (x := ar 8 c) S wb 8 (by decide) rfl 0 rfl c (by omega) (by decide) rfl dX4_resend_62 ?_
  refine lv_aload_n hx hb dX4_resend_63 rfl (lv_at hl 0 rfl) ?_
  refine rb_get S wb 0 (by decide) rfl rfl in4 11 (by decide) bw_473 rfl dX4_resend_64 ?_
  refine lv_iload_n hx hb dX4_resend_67 rfl (lv_at hl 1 rfl) ?_
  refine rb_ald (n := 6) (f := ar 9) (x := ar 9 c) S wb 9 (by decide) rfl 0 rfl c (by omega) (by decide) rfl dX4_resend_68 ?_
  refine rb_callV S wb EN0_ok (m_send0 l D cI cC cD ad (nI 0) n st mn ar (nI c) (ar 7 c) (ar 8 c) (ar 9 c) (by omega)) (bw5 bw_532 bw_534 bw_25 bw_37 bw_535) (rb_recv wb 0 (by decide) rfl rfl) hdX4_send rfl ⟨rfl, rfl⟩ ⟨by decide, by decide⟩ hl.1 (Nat.le_of_ble_eq_true rfl) ⟨Nat.zero_le _, Nat.zero_le _⟩ (rest := []) (st1 := []) rfl rfl dX4_resend_69 (fun H locs wb => ?_)
  refine lv_aload_n hx hb dX4_resend_72 rfl (lv_at hl 0 rfl) ?_
  refine rb_get S wb 0 (by decide) rfl rfl in4 12 (by decide) bw_474 rfl dX4_resend_73 ?_
  exact rb_iret S hr hlk hQ rfl wb (m12 rfl rfl rfl rfl rfl rfl rfl rfl rfl rfl rfl rfl) dX4_resend_76

set_option maxHeartbeats 4000000 in
set_option maxRecDepth 100000 in
theorem m_lose_x1 (l : Launch) (D : va_G) (cI cC cD : ClassId) (ad : Nat → Nat) (th : Int32) (n : Nat) (st : Int32) (mn : Nat) (ar : Nat → Nat → Int32) (x : Int32) (hx0 : x < 0 ∨ nI mn ≤ x) : RM l yX4_lose cX4_lose 2 (some .int) ({ frames := 1, cells := 0, slots := 0, locals := 21 }) D (ty3 cI cC cD) EN0 [.ref (ad 0), .int x] ad 12 (mE ad cI th n st mn ar) (mE ad cI (nI 1) n st mn ar) (some (.int (nI 0))) := by
  refine RM.of (by decide) (Nat.le_of_ble_eq_true rfl) ?_
  intro p e s m below meth c0 A ls args Q0 S hr hlk hQ wb hl
  have hx := S.1
  have hb := S.2.1
  have hl : lv_has ls 2 [(0, .ref (ad 0)), (1, .int x)] := hl
  refine lv_aload_n hx hb dX4_lose_0 rfl (lv_at hl 0 rfl) ?_
  refine lv_aload_n hx hb dX4_lose_1 rfl (lv_at hl 0 rfl) ?_
  refine lv_iload_n hx hb dX4_lose_2 rfl (lv_at hl 1 rfl) ?_
  refine rb_callV S wb EN0_ok (m_noLetter_t l D cI cC cD ad th n st mn ar x (nI 1) (tells_t hx0)) (bw5 bw_544 bw_546 bw_26 bw_37 bw_547) (rb_recv wb 0 (by decide) rfl rfl) hdX4_noLetter rfl ⟨rfl, rfl⟩ ⟨by decide, by decide⟩ hl.1 (Nat.le_of_ble_eq_true rfl) ⟨Nat.zero_le _, Nat.zero_le _⟩ (rest := [.ref (ad 0)]) (st1 := [.int (nI 1), .ref (ad 0)]) rfl rfl dX4_lose_3 (fun H locs wb => ?_)
  refine lv_if_eq (tgt := 13) hx hb dX4_lose_6 (by decide) (fun h6 => absurd h6 (by decide)) (fun h6 => ?_)
  refine lv_iconst (v := nI 1) hx hb dX4_lose_9 (by decide) ?_
  refine lv_goto (tgt := 14) hx hb dX4_lose_10 (by decide) ?_
  refine rb_put (E' := mE ad cI (nI 1) n st mn ar) S wb 0 (by decide) rfl rfl in4 tyX4 tyX4_ok nmX4 0 (by decide) bw_462 rfl rfl rfl (Nat.le_of_ble_eq_true rfl) (m12 rfl rfl rfl rfl rfl rfl rfl rfl rfl rfl rfl rfl) dX4_lose_14 (fun H locs wb => ?_)
  refine lv_aload_n hx hb dX4_lose_17 rfl (lv_at hl 0 rfl) ?_
  refine rb_get S wb 0 (by decide) rfl rfl in4 0 (by decide) bw_462 rfl dX4_lose_18 ?_
  refine lv_if_ne (tgt := 29) hx hb dX4_lose_21 (by decide) (fun h21 => ?_) (fun h21 => absurd h21 (by decide))
  refine lv_aload_n hx hb dX4_lose_29 rfl (lv_at hl 0 rfl) ?_
  refine rb_get S wb 0 (by decide) rfl rfl in4 0 (by decide) bw_462 rfl dX4_lose_30 ?_
  refine lv_if_ne (tgt := 43) hx hb dX4_lose_33 (by decide) (fun h33 => ?_) (fun h33 => absurd h33 (by decide))
  refine lv_iconst (v := nI 0) hx hb dX4_lose_43 (by decide) ?_
  exact rb_iret S hr hlk hQ rfl wb (m12 rfl rfl rfl rfl rfl rfl rfl rfl rfl rfl rfl rfl) dX4_lose_44

set_option maxHeartbeats 4000000 in
set_option maxRecDepth 100000 in
theorem m_lose (l : Launch) (D : va_G) (cI cC cD : ClassId) (ad : Nat → Nat) (th : Int32) (n : Nat) (st : Int32) (mn : Nat) (ar : Nat → Nat → Int32) (i : Nat) (hm : mn ≤ 120) (hi : i < mn) : RM l yX4_lose cX4_lose 2 (some .int) ({ frames := 1, cells := 0, slots := 0, locals := 22 }) D (ty3 cI cC cD) EN0 [.ref (ad 0), .int (nI i)] ad 12 (mE ad cI th n st mn ar) (mE ad cI (nI 0) n st (mn - 1) (va_up ar 10 (dr (ar 10) (5 * i) (5 * (mn - 1))))) (some (.int (nI (mn - 1)))) := by
  refine RM.of (by decide) (Nat.le_of_ble_eq_true rfl) ?_
  intro p e s m below meth c0 A ls args Q0 S hr hlk hQ wb hl
  have hx := S.1
  have hb := S.2.1
  have hl : lv_has ls 2 [(0, .ref (ad 0)), (1, .int (nI i))] := hl
  refine lv_aload_n hx hb dX4_lose_0 rfl (lv_at hl 0 rfl) ?_
  refine lv_aload_n hx hb dX4_lose_1 rfl (lv_at hl 0 rfl) ?_
  refine lv_iload_n hx hb dX4_lose_2 rfl (lv_at hl 1 rfl) ?_
  refine rb_callV S wb EN0_ok (m_noLetter_t l D cI cC cD ad th n st mn ar (nI i) (nI 0) (tells_f (no_f hi (by omega)))) (bw5 bw_544 bw_546 bw_26 bw_37 bw_547) (rb_recv wb 0 (by decide) rfl rfl) hdX4_noLetter rfl ⟨rfl, rfl⟩ ⟨by decide, by decide⟩ hl.1 (Nat.le_of_ble_eq_true rfl) ⟨Nat.zero_le _, Nat.zero_le _⟩ (rest := [.ref (ad 0)]) (st1 := [.int (nI 0), .ref (ad 0)]) rfl rfl dX4_lose_3 (fun H locs wb => ?_)
  refine lv_if_eq (tgt := 13) hx hb dX4_lose_6 (by decide) (fun h6 => ?_) (fun h6 => absurd (by decide) h6)
  refine lv_iconst (v := nI 0) hx hb dX4_lose_13 (by decide) ?_
  refine rb_put (E' := mE ad cI (nI 0) n st mn ar) S wb 0 (by decide) rfl rfl in4 tyX4 tyX4_ok nmX4 0 (by decide) bw_462 rfl rfl rfl (Nat.le_of_ble_eq_true rfl) (m12 rfl rfl rfl rfl rfl rfl rfl rfl rfl rfl rfl rfl) dX4_lose_14 (fun H locs wb => ?_)
  refine lv_aload_n hx hb dX4_lose_17 rfl (lv_at hl 0 rfl) ?_
  refine rb_get S wb 0 (by decide) rfl rfl in4 0 (by decide) bw_462 rfl dX4_lose_18 ?_
  refine lv_if_ne (tgt := 29) hx hb dX4_lose_21 (by decide) (fun h21 => absurd (by decide) h21) (fun h21 => ?_)
  refine lv_aload_n hx hb dX4_lose_24 rfl (lv_at hl 0 rfl) ?_
  refine lv_iload_n hx hb dX4_lose_25 rfl (lv_at hl 1 rfl) ?_
  refine rb_callV S wb EN0_ok (m_drop l D cI cC cD ad (nI 0) n st mn ar i (by omega) (by omega)) (bw5 bw_548 bw_550 bw_27 bw_37 bw_551) (rb_recv wb 0 (by decide) rfl rfl) hdX4_drop rfl ⟨rfl, rfl⟩ ⟨by decide, by decide⟩ hl.1 (Nat.le_of_ble_eq_true rfl) ⟨Nat.zero_le _, Nat.zero_le _⟩ (rest := []) (st1 := []) rfl rfl dX4_lose_26 (fun H locs wb => ?_)
  refine lv_aload_n hx hb dX4_lose_29 rfl (lv_at hl 0 rfl) ?_
  refine rb_get S wb 0 (by decide) rfl rfl in4 0 (by decide) bw_462 rfl dX4_lose_30 ?_
  refine lv_if_ne (tgt := 43) hx hb dX4_lose_33 (by decide) (fun h33 => absurd (by decide) h33) (fun h33 => ?_)
  refine lv_aload_n hx hb dX4_lose_36 rfl (lv_at hl 0 rfl) ?_
  refine rb_get S wb 0 (by decide) rfl rfl in4 12 (by decide) bw_474 rfl dX4_lose_37 ?_
  refine lv_goto (tgt := 44) hx hb dX4_lose_40 (by decide) ?_
  exact rb_iret S hr hlk hQ rfl wb (m12 rfl rfl rfl rfl rfl rfl rfl rfl rfl rfl rfl rfl) dX4_lose_44

set_option maxHeartbeats 4000000 in
set_option maxRecDepth 100000 in
theorem m_letter_x1 (l : Launch) (D : va_G) (cI cC cD : ClassId) (ad : Nat → Nat) (th : Int32) (n : Nat) (st : Int32) (mn : Nat) (ar : Nat → Nat → Int32) (x y : Int32) (hx0 : x < 0 ∨ nI mn ≤ x) : RM l yX4_letter cX4_letter 3 (some .int) ({ frames := 1, cells := 0, slots := 0, locals := 21 }) D (ty3 cI cC cD) EN0 [.ref (ad 0), .int x, .int y] ad 12 (mE ad cI th n st mn ar) (mE ad cI (nI 1) n st mn ar) (some (.int (nI 0))) := by
  refine RM.of (by decide) (Nat.le_of_ble_eq_true rfl) ?_
  intro p e s m below meth c0 A ls args Q0 S hr hlk hQ wb hl
  have hx := S.1
  have hb := S.2.1
  have hl : lv_has ls 3 [(0, .ref (ad 0)), (1, .int x), (2, .int y)] := hl
  refine lv_aload_n hx hb dX4_letter_0 rfl (lv_at hl 0 rfl) ?_
  refine lv_aload_n hx hb dX4_letter_1 rfl (lv_at hl 0 rfl) ?_
  refine lv_iload_n hx hb dX4_letter_2 rfl (lv_at hl 1 rfl) ?_
  refine rb_callV S wb EN0_ok (m_noLetter_t l D cI cC cD ad th n st mn ar x (nI 1) (tells_t hx0)) (bw5 bw_544 bw_546 bw_26 bw_37 bw_547) (rb_recv wb 0 (by decide) rfl rfl) hdX4_noLetter rfl ⟨rfl, rfl⟩ ⟨by decide, by decide⟩ hl.1 (Nat.le_of_ble_eq_true rfl) ⟨Nat.zero_le _, Nat.zero_le _⟩ (rest := [.ref (ad 0)]) (st1 := [.int (nI 1), .ref (ad 0)]) rfl rfl dX4_letter_3 (fun H locs wb => ?_)
  refine lv_if_eq (tgt := 13) hx hb dX4_letter_6 (by decide) (fun h6 => absurd h6 (by decide)) (fun h6 => ?_)
  refine lv_iconst (v := nI 1) hx hb dX4_letter_9 (by decide) ?_
  refine lv_goto (tgt := 27) hx hb dX4_letter_10 (by decide) ?_
  refine rb_put (E' := mE ad cI (nI 1) n st mn ar) S wb 0 (by decide) rfl rfl in4 tyX4 tyX4_ok nmX4 0 (by decide) bw_462 rfl rfl rfl (Nat.le_of_ble_eq_true rfl) (m12 rfl rfl rfl rfl rfl rfl rfl rfl rfl rfl rfl rfl) dX4_letter_27 (fun H locs wb => ?_)
  refine lv_aload_n hx hb dX4_letter_30 rfl (lv_at hl 0 rfl) ?_
  refine rb_get S wb 0 (by decide) rfl rfl in4 0 (by decide) bw_462 rfl dX4_letter_31 ?_
  refine lv_if_ne (tgt := 50) hx hb dX4_letter_34 (by decide) (fun h34 => ?_) (fun h34 => absurd h34 (by decide))
  refine lv_iconst (v := nI 0) hx hb dX4_letter_50 (by decide) ?_
  exact rb_iret S hr hlk hQ rfl wb (m12 rfl rfl rfl rfl rfl rfl rfl rfl rfl rfl rfl rfl) dX4_letter_51

set_option maxHeartbeats 4000000 in
set_option maxRecDepth 100000 in
theorem m_letter_x2 (l : Launch) (D : va_G) (cI cC cD : ClassId) (ad : Nat → Nat) (th : Int32) (n : Nat) (st : Int32) (mn : Nat) (ar : Nat → Nat → Int32) (i : Nat) (y : Int32) (hm : mn ≤ 120) (hi : i < mn) (hy : y < 0 ∨ 4 < y) : RM l yX4_letter cX4_letter 3 (some .int) ({ frames := 1, cells := 0, slots := 0, locals := 21 }) D (ty3 cI cC cD) EN0 [.ref (ad 0), .int (nI i), .int y] ad 12 (mE ad cI th n st mn ar) (mE ad cI (nI 2) n st mn ar) (some (.int (nI 0))) := by
  refine RM.of (by decide) (Nat.le_of_ble_eq_true rfl) ?_
  intro p e s m below meth c0 A ls args Q0 S hr hlk hQ wb hl
  have hx := S.1
  have hb := S.2.1
  have hl : lv_has ls 3 [(0, .ref (ad 0)), (1, .int (nI i)), (2, .int y)] := hl
  refine lv_aload_n hx hb dX4_letter_0 rfl (lv_at hl 0 rfl) ?_
  refine lv_aload_n hx hb dX4_letter_1 rfl (lv_at hl 0 rfl) ?_
  refine lv_iload_n hx hb dX4_letter_2 rfl (lv_at hl 1 rfl) ?_
  refine rb_callV S wb EN0_ok (m_noLetter_t l D cI cC cD ad th n st mn ar (nI i) (nI 0) (tells_f (no_f hi (by omega)))) (bw5 bw_544 bw_546 bw_26 bw_37 bw_547) (rb_recv wb 0 (by decide) rfl rfl) hdX4_noLetter rfl ⟨rfl, rfl⟩ ⟨by decide, by decide⟩ hl.1 (Nat.le_of_ble_eq_true rfl) ⟨Nat.zero_le _, Nat.zero_le _⟩ (rest := [.ref (ad 0)]) (st1 := [.int (nI 0), .ref (ad 0)]) rfl rfl dX4_letter_3 (fun H locs wb => ?_)
  refine lv_if_eq (tgt := 13) hx hb dX4_letter_6 (by decide) (fun h6 => ?_) (fun h6 => absurd (by decide) h6)
  refine lv_iload_n hx hb dX4_letter_13 rfl (lv_at hl 2 rfl) ?_
  refine lv_if_lt (tgt := 22) hx hb dX4_letter_14 (by decide) (fun h14 => ?_) (fun h14 => ?_)
  · refine lv_iconst (v := nI 2) hx hb dX4_letter_22 (by decide) ?_
    refine lv_goto (tgt := 27) hx hb dX4_letter_23 (by decide) ?_
    refine rb_put (E' := mE ad cI (nI 2) n st mn ar) S wb 0 (by decide) rfl rfl in4 tyX4 tyX4_ok nmX4 0 (by decide) bw_462 rfl rfl rfl (Nat.le_of_ble_eq_true rfl) (m12 rfl rfl rfl rfl rfl rfl rfl rfl rfl rfl rfl rfl) dX4_letter_27 (fun H locs wb => ?_)
    refine lv_aload_n hx hb dX4_letter_30 rfl (lv_at hl 0 rfl) ?_
    refine rb_get S wb 0 (by decide) rfl rfl in4 0 (by decide) bw_462 rfl dX4_letter_31 ?_
    refine lv_if_ne (tgt := 50) hx hb dX4_letter_34 (by decide) (fun h34 => ?_) (fun h34 => absurd h34 (by decide))
    refine lv_iconst (v := nI 0) hx hb dX4_letter_50 (by decide) ?_
    exact rb_iret S hr hlk hQ rfl wb (m12 rfl rfl rfl rfl rfl rfl rfl rfl rfl rfl rfl rfl) dX4_letter_51
  · refine lv_iload_n hx hb dX4_letter_17 rfl (lv_at hl 2 rfl) ?_
    refine lv_iconst (v := nI 4) hx hb dX4_letter_18 (by decide) ?_
    refine lv_icmp_le (tgt := 26) hx hb dX4_letter_19 (by decide) (fun h19 => absurd h19 (Int32.not_le.mpr (hy.resolve_left h14))) (fun h19 => ?_)
    refine lv_iconst (v := nI 2) hx hb dX4_letter_22 (by decide) ?_
    refine lv_goto (tgt := 27) hx hb dX4_letter_23 (by decide) ?_
    refine rb_put (E' := mE ad cI (nI 2) n st mn ar) S wb 0 (by decide) rfl rfl in4 tyX4 tyX4_ok nmX4 0 (by decide) bw_462 rfl rfl rfl (Nat.le_of_ble_eq_true rfl) (m12 rfl rfl rfl rfl rfl rfl rfl rfl rfl rfl rfl rfl) dX4_letter_27 (fun H locs wb => ?_)
    refine lv_aload_n hx hb dX4_letter_30 rfl (lv_at hl 0 rfl) ?_
    refine rb_get S wb 0 (by decide) rfl rfl in4 0 (by decide) bw_462 rfl dX4_letter_31 ?_
    refine lv_if_ne (tgt := 50) hx hb dX4_letter_34 (by decide) (fun h34 => ?_) (fun h34 => absurd h34 (by decide))
    refine lv_iconst (v := nI 0) hx hb dX4_letter_50 (by decide) ?_
    exact rb_iret S hr hlk hQ rfl wb (m12 rfl rfl rfl rfl rfl rfl rfl rfl rfl rfl rfl rfl) dX4_letter_51

set_option maxHeartbeats 4000000 in
set_option maxRecDepth 100000 in
theorem m_letter (l : Launch) (D : va_G) (cI cC cD : ClassId) (ad : Nat → Nat) (th : Int32) (n : Nat) (st : Int32) (mn : Nat) (ar : Nat → Nat → Int32) (i k : Nat) (hm : mn ≤ 120) (hi : i < mn) (hk : k < 5) : RM l yX4_letter cX4_letter 3 (some .int) ({ frames := 1, cells := 0, slots := 0, locals := 21 }) D (ty3 cI cC cD) EN0 [.ref (ad 0), .int (nI i), .int (nI k)] ad 12 (mE ad cI th n st mn ar) (mE ad cI (nI 0) n st mn ar) (some (.int (ar 10 (5 * i + k)))) := by
  refine RM.of (by decide) (Nat.le_of_ble_eq_true rfl) ?_
  intro p e s m below meth c0 A ls args Q0 S hr hlk hQ wb hl
  have hx := S.1
  have hb := S.2.1
  have hl : lv_has ls 3 [(0, .ref (ad 0)), (1, .int (nI i)), (2, .int (nI k))] := hl
  refine lv_aload_n hx hb dX4_letter_0 rfl (lv_at hl 0 rfl) ?_
  refine lv_aload_n hx hb dX4_letter_1 rfl (lv_at hl 0 rfl) ?_
  refine lv_iload_n hx hb dX4_letter_2 rfl (lv_at hl 1 rfl) ?_
  refine rb_callV S wb EN0_ok (m_noLetter_t l D cI cC cD ad th n st mn ar (nI i) (nI 0) (tells_f (no_f hi (by omega)))) (bw5 bw_544 bw_546 bw_26 bw_37 bw_547) (rb_recv wb 0 (by decide) rfl rfl) hdX4_noLetter rfl ⟨rfl, rfl⟩ ⟨by decide, by decide⟩ hl.1 (Nat.le_of_ble_eq_true rfl) ⟨Nat.zero_le _, Nat.zero_le _⟩ (rest := [.ref (ad 0)]) (st1 := [.int (nI 0), .ref (ad 0)]) rfl rfl dX4_letter_3 (fun H locs wb => ?_)
  refine lv_if_eq (tgt := 13) hx hb dX4_letter_6 (by decide) (fun h6 => ?_) (fun h6 => absurd (by decide) h6)
  refine lv_iload_n hx hb dX4_letter_13 rfl (lv_at hl 2 rfl) ?_
  refine lv_if_lt (tgt := 22) hx hb dX4_letter_14 (by decide) (fun h14 => absurd h14 (nI_pos (by omega))) (fun h14 => ?_)
  refine lv_iload_n hx hb dX4_letter_17 rfl (lv_at hl 2 rfl) ?_
  refine lv_iconst (v := nI 4) hx hb dX4_letter_18 (by decide) ?_
  refine nb_icmp_le (tgt := 26) hx hb dX4_letter_19 (by decide) (by omega) (by omega) (fun h19 => ?_) (fun h19 => absurd h19 (by omega))
  refine lv_iconst (v := nI 0) hx hb dX4_letter_26 (by decide) ?_
  refine rb_put (E' := mE ad cI (nI 0) n st mn ar) S wb 0 (by decide) rfl rfl in4 tyX4 tyX4_ok nmX4 0 (by decide) bw_462 rfl rfl rfl (Nat.le_of_ble_eq_true rfl) (m12 rfl rfl rfl rfl rfl rfl rfl rfl rfl rfl rfl rfl) dX4_letter_27 (fun H locs wb => ?_)
  refine lv_aload_n hx hb dX4_letter_30 rfl (lv_at hl 0 rfl) ?_
  refine rb_get S wb 0 (by decide) rfl rfl in4 0 (by decide) bw_462 rfl dX4_letter_31 ?_
  refine lv_if_ne (tgt := 50) hx hb dX4_letter_34 (by decide) (fun h34 => absurd (by decide) h34) (fun h34 => ?_)
  refine lv_aload_n hx hb dX4_letter_37 rfl (lv_at hl 0 rfl) ?_
  refine rb_get S wb 0 (by decide) rfl rfl in4 13 (by decide) bw_475 rfl dX4_letter_38 ?_
  refine lv_iconst (v := nI 5) hx hb dX4_letter_41 (by decide) ?_
  refine lv_iload_n hx hb dX4_letter_42 rfl (lv_at hl 1 rfl) ?_
  refine lv_imul hx hb dX4_letter_43 ?_
  refine nb_ren (y := nI (5 * i)) (pk_mul _ _) ?_
  refine lv_iload_n hx hb dX4_letter_44 rfl (lv_at hl 2 rfl) ?_
  refine lv_iadd hx hb dX4_letter_45 ?_
  refine nb_ren (y := nI (5 * i + k)) (nI_add _ _) ?_
  refine rb_ald (n := 600) (f := ar 10) (x := ar 10 (5 * i + k)) S wb 10 (by decide) rfl 0 rfl (5 * i + k) (by omega) (by decide) rfl dX4_letter_46 ?_
  refine lv_goto (tgt := 51) hx hb dX4_letter_47 (by decide) ?_
  exact rb_iret S hr hlk hQ rfl wb (m12 rfl rfl rfl rfl rfl rfl rfl rfl rfl rfl rfl rfl) dX4_letter_51

set_option maxHeartbeats 4000000 in
set_option maxRecDepth 100000 in
theorem m_count_x1 (l : Launch) (D : va_G) (cI cC cD : ClassId) (ad : Nat → Nat) (th : Int32) (n : Nat) (st : Int32) (mn : Nat) (ar : Nat → Nat → Int32) (y : Int32) (hy : y < 0 ∨ 4 < y) : RM l yX4_count cX4_count 2 (some .int) ({ frames := 0, cells := 0, slots := 0, locals := 0 }) D (ty3 cI cC cD) EN0 [.ref (ad 0), .int y] ad 12 (mE ad cI th n st mn ar) (mE ad cI (nI 1) n st mn ar) (some (.int (nI 0))) := by
  refine RM.of (by decide) (Nat.le_of_ble_eq_true rfl) ?_
  intro p e s m below meth c0 A ls args Q0 S hr hlk hQ wb hl
  have hx := S.1
  have hb := S.2.1
  have hl : lv_has ls 2 [(0, .ref (ad 0)), (1, .int y)] := hl
  refine lv_aload_n hx hb dX4_count_0 rfl (lv_at hl 0 rfl) ?_
  refine lv_iload_n hx hb dX4_count_1 rfl (lv_at hl 1 rfl) ?_
  refine lv_if_lt (tgt := 10) hx hb dX4_count_2 (by decide) (fun h2 => ?_) (fun h2 => ?_)
  · refine lv_iconst (v := nI 1) hx hb dX4_count_10 (by decide) ?_
    refine lv_goto (tgt := 15) hx hb dX4_count_11 (by decide) ?_
    refine rb_put (E' := mE ad cI (nI 1) n st mn ar) S wb 0 (by decide) rfl rfl in4 tyX4 tyX4_ok nmX4 0 (by decide) bw_462 rfl rfl rfl (Nat.le_of_ble_eq_true rfl) (m12 rfl rfl rfl rfl rfl rfl rfl rfl rfl rfl rfl rfl) dX4_count_15 (fun H locs wb => ?_)
    refine lv_aload_n hx hb dX4_count_18 rfl (lv_at hl 0 rfl) ?_
    refine rb_get S wb 0 (by decide) rfl rfl in4 0 (by decide) bw_462 rfl dX4_count_19 ?_
    refine lv_if_eq (tgt := 29) hx hb dX4_count_22 (by decide) (fun h22 => absurd h22 (by decide)) (fun h22 => ?_)
    refine lv_iconst (v := nI 0) hx hb dX4_count_25 (by decide) ?_
    refine lv_goto (tgt := 47) hx hb dX4_count_26 (by decide) ?_
    exact rb_iret S hr hlk hQ rfl wb (m12 rfl rfl rfl rfl rfl rfl rfl rfl rfl rfl rfl rfl) dX4_count_47
  · refine lv_iload_n hx hb dX4_count_5 rfl (lv_at hl 1 rfl) ?_
    refine lv_iconst (v := nI 4) hx hb dX4_count_6 (by decide) ?_
    refine lv_icmp_le (tgt := 14) hx hb dX4_count_7 (by decide) (fun h7 => absurd h7 (Int32.not_le.mpr (hy.resolve_left h2))) (fun h7 => ?_)
    refine lv_iconst (v := nI 1) hx hb dX4_count_10 (by decide) ?_
    refine lv_goto (tgt := 15) hx hb dX4_count_11 (by decide) ?_
    refine rb_put (E' := mE ad cI (nI 1) n st mn ar) S wb 0 (by decide) rfl rfl in4 tyX4 tyX4_ok nmX4 0 (by decide) bw_462 rfl rfl rfl (Nat.le_of_ble_eq_true rfl) (m12 rfl rfl rfl rfl rfl rfl rfl rfl rfl rfl rfl rfl) dX4_count_15 (fun H locs wb => ?_)
    refine lv_aload_n hx hb dX4_count_18 rfl (lv_at hl 0 rfl) ?_
    refine rb_get S wb 0 (by decide) rfl rfl in4 0 (by decide) bw_462 rfl dX4_count_19 ?_
    refine lv_if_eq (tgt := 29) hx hb dX4_count_22 (by decide) (fun h22 => absurd h22 (by decide)) (fun h22 => ?_)
    refine lv_iconst (v := nI 0) hx hb dX4_count_25 (by decide) ?_
    refine lv_goto (tgt := 47) hx hb dX4_count_26 (by decide) ?_
    exact rb_iret S hr hlk hQ rfl wb (m12 rfl rfl rfl rfl rfl rfl rfl rfl rfl rfl rfl rfl) dX4_count_47

set_option maxHeartbeats 4000000 in
set_option maxRecDepth 100000 in
theorem m_count (l : Launch) (D : va_G) (cI cC cD : ClassId) (ad : Nat → Nat) (th : Int32) (n : Nat) (st : Int32) (mn : Nat) (ar : Nat → Nat → Int32) (k : Nat) (hk : k < 4) : RM l yX4_count cX4_count 2 (some .int) ({ frames := 0, cells := 0, slots := 0, locals := 0 }) D (ty3 cI cC cD) EN0 [.ref (ad 0), .int (nI k)] ad 12 (mE ad cI th n st mn ar) (mE ad cI (nI 0) n st mn ar) (some (.int (ar 11 k))) := by
  refine RM.of (by decide) (Nat.le_of_ble_eq_true rfl) ?_
  intro p e s m below meth c0 A ls args Q0 S hr hlk hQ wb hl
  have hx := S.1
  have hb := S.2.1
  have hl : lv_has ls 2 [(0, .ref (ad 0)), (1, .int (nI k))] := hl
  refine lv_aload_n hx hb dX4_count_0 rfl (lv_at hl 0 rfl) ?_
  refine lv_iload_n hx hb dX4_count_1 rfl (lv_at hl 1 rfl) ?_
  refine lv_if_lt (tgt := 10) hx hb dX4_count_2 (by decide) (fun h2 => absurd h2 (nI_pos (by omega))) (fun h2 => ?_)
  refine lv_iload_n hx hb dX4_count_5 rfl (lv_at hl 1 rfl) ?_
  refine lv_iconst (v := nI 4) hx hb dX4_count_6 (by decide) ?_
  refine nb_icmp_le (tgt := 14) hx hb dX4_count_7 (by decide) (by omega) (by omega) (fun h7 => ?_) (fun h7 => absurd h7 (by omega))
  refine lv_iconst (v := nI 0) hx hb dX4_count_14 (by decide) ?_
  refine rb_put (E' := mE ad cI (nI 0) n st mn ar) S wb 0 (by decide) rfl rfl in4 tyX4 tyX4_ok nmX4 0 (by decide) bw_462 rfl rfl rfl (Nat.le_of_ble_eq_true rfl) (m12 rfl rfl rfl rfl rfl rfl rfl rfl rfl rfl rfl rfl) dX4_count_15 (fun H locs wb => ?_)
  refine lv_aload_n hx hb dX4_count_18 rfl (lv_at hl 0 rfl) ?_
  refine rb_get S wb 0 (by decide) rfl rfl in4 0 (by decide) bw_462 rfl dX4_count_19 ?_
  refine lv_if_eq (tgt := 29) hx hb dX4_count_22 (by decide) (fun h22 => ?_) (fun h22 => absurd (by decide) h22)
  refine lv_iload_n hx hb dX4_count_29 rfl (lv_at hl 1 rfl) ?_
  refine lv_iconst (v := nI 4) hx hb dX4_count_30 (by decide) ?_
  refine nb_icmp_ne (tgt := 41) hx hb dX4_count_31 (by decide) (by omega) (by omega) (fun h31 => ?_) (fun h31 => absurd h31 (by omega))
  refine lv_aload_n hx hb dX4_count_41 rfl (lv_at hl 0 rfl) ?_
  refine rb_get S wb 0 (by decide) rfl rfl in4 14 (by decide) bw_476 rfl dX4_count_42 ?_
  refine lv_iload_n hx hb dX4_count_45 rfl (lv_at hl 1 rfl) ?_
  refine rb_ald (n := 4) (f := ar 11) (x := ar 11 k) S wb 11 (by decide) rfl 0 rfl k (by omega) (by decide) rfl dX4_count_46 ?_
  exact rb_iret S hr hlk hQ rfl wb (m12 rfl rfl rfl rfl rfl rfl rfl rfl rfl rfl rfl rfl) dX4_count_47

set_option maxHeartbeats 4000000 in
set_option maxRecDepth 100000 in
theorem m_count4 (l : Launch) (D : va_G) (cI cC cD : ClassId) (ad : Nat → Nat) (th : Int32) (n : Nat) (st : Int32) (mn : Nat) (ar : Nat → Nat → Int32)  : RM l yX4_count cX4_count 2 (some .int) ({ frames := 0, cells := 0, slots := 0, locals := 0 }) D (ty3 cI cC cD) EN0 [.ref (ad 0), .int (nI 4)] ad 12 (mE ad cI th n st mn ar) (mE ad cI (nI 0) n st mn ar) (some (.int st)) := by
  refine RM.of (by decide) (Nat.le_of_ble_eq_true rfl) ?_
  intro p e s m below meth c0 A ls args Q0 S hr hlk hQ wb hl
  have hx := S.1
  have hb := S.2.1
  have hl : lv_has ls 2 [(0, .ref (ad 0)), (1, .int (nI 4))] := hl
  refine lv_aload_n hx hb dX4_count_0 rfl (lv_at hl 0 rfl) ?_
  refine lv_iload_n hx hb dX4_count_1 rfl (lv_at hl 1 rfl) ?_
  refine lv_if_lt (tgt := 10) hx hb dX4_count_2 (by decide) (fun h2 => absurd h2 (by decide)) (fun h2 => ?_)
  refine lv_iload_n hx hb dX4_count_5 rfl (lv_at hl 1 rfl) ?_
  refine lv_iconst (v := nI 4) hx hb dX4_count_6 (by decide) ?_
  refine nb_icmp_le (tgt := 14) hx hb dX4_count_7 (by decide) (by omega) (by omega) (fun h7 => ?_) (fun h7 => absurd h7 (by omega))
  refine lv_iconst (v := nI 0) hx hb dX4_count_14 (by decide) ?_
  refine rb_put (E' := mE ad cI (nI 0) n st mn ar) S wb 0 (by decide) rfl rfl in4 tyX4 tyX4_ok nmX4 0 (by decide) bw_462 rfl rfl rfl (Nat.le_of_ble_eq_true rfl) (m12 rfl rfl rfl rfl rfl rfl rfl rfl rfl rfl rfl rfl) dX4_count_15 (fun H locs wb => ?_)
  refine lv_aload_n hx hb dX4_count_18 rfl (lv_at hl 0 rfl) ?_
  refine rb_get S wb 0 (by decide) rfl rfl in4 0 (by decide) bw_462 rfl dX4_count_19 ?_
  refine lv_if_eq (tgt := 29) hx hb dX4_count_22 (by decide) (fun h22 => ?_) (fun h22 => absurd (by decide) h22)
  refine lv_iload_n hx hb dX4_count_29 rfl (lv_at hl 1 rfl) ?_
  refine lv_iconst (v := nI 4) hx hb dX4_count_30 (by decide) ?_
  refine nb_icmp_ne (tgt := 41) hx hb dX4_count_31 (by decide) (by omega) (by omega) (fun h31 => absurd h31 (by omega)) (fun h31 => ?_)
  refine lv_aload_n hx hb dX4_count_34 rfl (lv_at hl 0 rfl) ?_
  refine rb_get S wb 0 (by decide) rfl rfl in4 2 (by decide) bw_464 rfl dX4_count_35 ?_
  refine lv_goto (tgt := 47) hx hb dX4_count_38 (by decide) ?_
  exact rb_iret S hr hlk hQ rfl wb (m12 rfl rfl rfl rfl rfl rfl rfl rfl rfl rfl rfl rfl) dX4_count_47

set_option maxHeartbeats 4000000 in
set_option maxRecDepth 100000 in
theorem m_desk_x1 (l : Launch) (D : va_G) (cI cC cD : ClassId) (ad : Nat → Nat) (th : Int32) (n : Nat) (st : Int32) (mn : Nat) (ar : Nat → Nat → Int32) (x y : Int32) (hn : n ≤ 6) (hx0 : x < 0 ∨ nI n ≤ x) : RM l yX4_desk cX4_desk 3 (some .int) ({ frames := 1, cells := 0, slots := 0, locals := 21 }) D (ty3 cI cC cD) EN0 [.ref (ad 0), .int x, .int y] ad 12 (mE ad cI th n st mn ar) (mE ad cI (nI 1) n st mn ar) (some (.int (nI 0))) := by
  refine RM.of (by decide) (Nat.le_of_ble_eq_true rfl) ?_
  intro p e s m below meth c0 A ls args Q0 S hr hlk hQ wb hl
  have hx := S.1
  have hb := S.2.1
  have hl : lv_has ls 3 [(0, .ref (ad 0)), (1, .int x), (2, .int y)] := hl
  refine lv_aload_n hx hb dX4_desk_0 rfl (lv_at hl 0 rfl) ?_
  refine lv_aload_n hx hb dX4_desk_1 rfl (lv_at hl 0 rfl) ?_
  refine lv_iload_n hx hb dX4_desk_2 rfl (lv_at hl 1 rfl) ?_
  refine rb_callV S wb EN0_ok (m_no_t l D cI cC cD ad th n st mn ar x (nI 1) (tells_t hx0)) (bw5 bw_520 bw_522 bw_23 bw_37 bw_523) (rb_recv wb 0 (by decide) rfl rfl) hdX4_no rfl ⟨rfl, rfl⟩ ⟨by decide, by decide⟩ hl.1 (Nat.le_of_ble_eq_true rfl) ⟨Nat.zero_le _, Nat.zero_le _⟩ (rest := [.ref (ad 0)]) (st1 := [.int (nI 1), .ref (ad 0)]) rfl rfl dX4_desk_3 (fun H locs wb => ?_)
  refine lv_if_ne (tgt := 18) hx hb dX4_desk_6 (by decide) (fun h6 => ?_) (fun h6 => absurd h6 (by decide))
  refine lv_iconst (v := nI 1) hx hb dX4_desk_18 (by decide) ?_
  refine lv_goto (tgt := 23) hx hb dX4_desk_19 (by decide) ?_
  refine rb_put (E' := mE ad cI (nI 1) n st mn ar) S wb 0 (by decide) rfl rfl in4 tyX4 tyX4_ok nmX4 0 (by decide) bw_462 rfl rfl rfl (Nat.le_of_ble_eq_true rfl) (m12 rfl rfl rfl rfl rfl rfl rfl rfl rfl rfl rfl rfl) dX4_desk_23 (fun H locs wb => ?_)
  refine lv_aload_n hx hb dX4_desk_26 rfl (lv_at hl 0 rfl) ?_
  refine rb_get S wb 0 (by decide) rfl rfl in4 0 (by decide) bw_462 rfl dX4_desk_27 ?_
  refine lv_if_eq (tgt := 37) hx hb dX4_desk_30 (by decide) (fun h30 => absurd h30 (by decide)) (fun h30 => ?_)
  refine lv_iconst (v := nI 0) hx hb dX4_desk_33 (by decide) ?_
  refine lv_goto (tgt := 70) hx hb dX4_desk_34 (by decide) ?_
  exact rb_iret S hr hlk hQ rfl wb (m12 rfl rfl rfl rfl rfl rfl rfl rfl rfl rfl rfl rfl) dX4_desk_70

set_option maxHeartbeats 4000000 in
set_option maxRecDepth 100000 in
theorem m_desk_x2 (l : Launch) (D : va_G) (cI cC cD : ClassId) (ad : Nat → Nat) (th : Int32) (n : Nat) (st : Int32) (mn : Nat) (ar : Nat → Nat → Int32) (c : Nat) (y : Int32) (hn : n ≤ 6) (hc : c < n) (hy : y < 0 ∨ 2 < y) : RM l yX4_desk cX4_desk 3 (some .int) ({ frames := 1, cells := 0, slots := 0, locals := 21 }) D (ty3 cI cC cD) EN0 [.ref (ad 0), .int (nI c), .int y] ad 12 (mE ad cI th n st mn ar) (mE ad cI (nI 1) n st mn ar) (some (.int (nI 0))) := by
  refine RM.of (by decide) (Nat.le_of_ble_eq_true rfl) ?_
  intro p e s m below meth c0 A ls args Q0 S hr hlk hQ wb hl
  have hx := S.1
  have hb := S.2.1
  have hl : lv_has ls 3 [(0, .ref (ad 0)), (1, .int (nI c)), (2, .int y)] := hl
  refine lv_aload_n hx hb dX4_desk_0 rfl (lv_at hl 0 rfl) ?_
  refine lv_aload_n hx hb dX4_desk_1 rfl (lv_at hl 0 rfl) ?_
  refine lv_iload_n hx hb dX4_desk_2 rfl (lv_at hl 1 rfl) ?_
  refine rb_callV S wb EN0_ok (m_no_t l D cI cC cD ad th n st mn ar (nI c) (nI 0) (tells_f (no_f hc (by omega)))) (bw5 bw_520 bw_522 bw_23 bw_37 bw_523) (rb_recv wb 0 (by decide) rfl rfl) hdX4_no rfl ⟨rfl, rfl⟩ ⟨by decide, by decide⟩ hl.1 (Nat.le_of_ble_eq_true rfl) ⟨Nat.zero_le _, Nat.zero_le _⟩ (rest := [.ref (ad 0)]) (st1 := [.int (nI 0), .ref (ad 0)]) rfl rfl dX4_desk_3 (fun H locs wb => ?_)
  refine lv_if_ne (tgt := 18) hx hb dX4_desk_6 (by decide) (fun h6 => absurd (by decide) h6) (fun h6 => ?_)
  refine lv_iload_n hx hb dX4_desk_9 rfl (lv_at hl 2 rfl) ?_
  refine lv_if_lt (tgt := 18) hx hb dX4_desk_10 (by decide) (fun h10 => ?_) (fun h10 => ?_)
  · refine lv_iconst (v := nI 1) hx hb dX4_desk_18 (by decide) ?_
    refine lv_goto (tgt := 23) hx hb dX4_desk_19 (by decide) ?_
    refine rb_put (E' := mE ad cI (nI 1) n st mn ar) S wb 0 (by decide) rfl rfl in4 tyX4 tyX4_ok nmX4 0 (by decide) bw_462 rfl rfl rfl (Nat.le_of_ble_eq_true rfl) (m12 rfl rfl rfl rfl rfl rfl rfl rfl rfl rfl rfl rfl) dX4_desk_23 (fun H locs wb => ?_)
    refine lv_aload_n hx hb dX4_desk_26 rfl (lv_at hl 0 rfl) ?_
    refine rb_get S wb 0 (by decide) rfl rfl in4 0 (by decide) bw_462 rfl dX4_desk_27 ?_
    refine lv_if_eq (tgt := 37) hx hb dX4_desk_30 (by decide) (fun h30 => absurd h30 (by decide)) (fun h30 => ?_)
    refine lv_iconst (v := nI 0) hx hb dX4_desk_33 (by decide) ?_
    refine lv_goto (tgt := 70) hx hb dX4_desk_34 (by decide) ?_
    exact rb_iret S hr hlk hQ rfl wb (m12 rfl rfl rfl rfl rfl rfl rfl rfl rfl rfl rfl rfl) dX4_desk_70
  · refine lv_iload_n hx hb dX4_desk_13 rfl (lv_at hl 2 rfl) ?_
    refine lv_iconst (v := nI 2) hx hb dX4_desk_14 (by decide) ?_
    refine lv_icmp_le (tgt := 22) hx hb dX4_desk_15 (by decide) (fun h15 => absurd h15 (Int32.not_le.mpr (hy.resolve_left h10))) (fun h15 => ?_)
    refine lv_iconst (v := nI 1) hx hb dX4_desk_18 (by decide) ?_
    refine lv_goto (tgt := 23) hx hb dX4_desk_19 (by decide) ?_
    refine rb_put (E' := mE ad cI (nI 1) n st mn ar) S wb 0 (by decide) rfl rfl in4 tyX4 tyX4_ok nmX4 0 (by decide) bw_462 rfl rfl rfl (Nat.le_of_ble_eq_true rfl) (m12 rfl rfl rfl rfl rfl rfl rfl rfl rfl rfl rfl rfl) dX4_desk_23 (fun H locs wb => ?_)
    refine lv_aload_n hx hb dX4_desk_26 rfl (lv_at hl 0 rfl) ?_
    refine rb_get S wb 0 (by decide) rfl rfl in4 0 (by decide) bw_462 rfl dX4_desk_27 ?_
    refine lv_if_eq (tgt := 37) hx hb dX4_desk_30 (by decide) (fun h30 => absurd h30 (by decide)) (fun h30 => ?_)
    refine lv_iconst (v := nI 0) hx hb dX4_desk_33 (by decide) ?_
    refine lv_goto (tgt := 70) hx hb dX4_desk_34 (by decide) ?_
    exact rb_iret S hr hlk hQ rfl wb (m12 rfl rfl rfl rfl rfl rfl rfl rfl rfl rfl rfl rfl) dX4_desk_70

set_option maxHeartbeats 4000000 in
set_option maxRecDepth 100000 in
theorem m_desk0 (l : Launch) (D : va_G) (cI cC cD : ClassId) (ad : Nat → Nat) (th : Int32) (n : Nat) (st : Int32) (mn : Nat) (ar : Nat → Nat → Int32) (c : Nat) (hn : n ≤ 6) (hc : c < n) : RM l yX4_desk cX4_desk 3 (some .int) ({ frames := 1, cells := 0, slots := 0, locals := 21 }) D (ty3 cI cC cD) EN0 [.ref (ad 0), .int (nI c), .int (nI 0)] ad 12 (mE ad cI th n st mn ar) (mE ad cI (nI 0) n st mn ar) (some (.int (ar 3 c))) := by
  refine RM.of (by decide) (Nat.le_of_ble_eq_true rfl) ?_
  intro p e s m below meth c0 A ls args Q0 S hr hlk hQ wb hl
  have hx := S.1
  have hb := S.2.1
  have hl : lv_has ls 3 [(0, .ref (ad 0)), (1, .int (nI c)), (2, .int (nI 0))] := hl
  refine lv_aload_n hx hb dX4_desk_0 rfl (lv_at hl 0 rfl) ?_
  refine lv_aload_n hx hb dX4_desk_1 rfl (lv_at hl 0 rfl) ?_
  refine lv_iload_n hx hb dX4_desk_2 rfl (lv_at hl 1 rfl) ?_
  refine rb_callV S wb EN0_ok (m_no_t l D cI cC cD ad th n st mn ar (nI c) (nI 0) (tells_f (no_f hc (by omega)))) (bw5 bw_520 bw_522 bw_23 bw_37 bw_523) (rb_recv wb 0 (by decide) rfl rfl) hdX4_no rfl ⟨rfl, rfl⟩ ⟨by decide, by decide⟩ hl.1 (Nat.le_of_ble_eq_true rfl) ⟨Nat.zero_le _, Nat.zero_le _⟩ (rest := [.ref (ad 0)]) (st1 := [.int (nI 0), .ref (ad 0)]) rfl rfl dX4_desk_3 (fun H locs wb => ?_)
  refine lv_if_ne (tgt := 18) hx hb dX4_desk_6 (by decide) (fun h6 => absurd (by decide) h6) (fun h6 => ?_)
  refine lv_iload_n hx hb dX4_desk_9 rfl (lv_at hl 2 rfl) ?_
  refine lv_if_lt (tgt := 18) hx hb dX4_desk_10 (by decide) (fun h10 => absurd h10 (by decide)) (fun h10 => ?_)
  refine lv_iload_n hx hb dX4_desk_13 rfl (lv_at hl 2 rfl) ?_
  refine lv_iconst (v := nI 2) hx hb dX4_desk_14 (by decide) ?_
  refine nb_icmp_le (tgt := 22) hx hb dX4_desk_15 (by decide) (by omega) (by omega) (fun h15 => ?_) (fun h15 => absurd h15 (by omega))
  refine lv_iconst (v := nI 0) hx hb dX4_desk_22 (by decide) ?_
  refine rb_put (E' := mE ad cI (nI 0) n st mn ar) S wb 0 (by decide) rfl rfl in4 tyX4 tyX4_ok nmX4 0 (by decide) bw_462 rfl rfl rfl (Nat.le_of_ble_eq_true rfl) (m12 rfl rfl rfl rfl rfl rfl rfl rfl rfl rfl rfl rfl) dX4_desk_23 (fun H locs wb => ?_)
  refine lv_aload_n hx hb dX4_desk_26 rfl (lv_at hl 0 rfl) ?_
  refine rb_get S wb 0 (by decide) rfl rfl in4 0 (by decide) bw_462 rfl dX4_desk_27 ?_
  refine lv_if_eq (tgt := 37) hx hb dX4_desk_30 (by decide) (fun h30 => ?_) (fun h30 => absurd (by decide) h30)
  refine lv_iload_n hx hb dX4_desk_37 rfl (lv_at hl 2 rfl) ?_
  refine lv_if_ne (tgt := 50) hx hb dX4_desk_38 (by decide) (fun h38 => absurd (by decide) h38) (fun h38 => ?_)
  refine lv_aload_n hx hb dX4_desk_41 rfl (lv_at hl 0 rfl) ?_
  refine rb_get S wb 0 (by decide) rfl rfl in4 5 (by decide) bw_467 rfl dX4_desk_42 ?_
  refine lv_iload_n hx hb dX4_desk_45 rfl (lv_at hl 1 rfl) ?_
  refine rb_ald (n := 6) (f := ar 3) (x := ar 3 c) S wb 3 (by decide) rfl 0 rfl c (by omega) (by decide) rfl dX4_desk_46 ?_
  refine lv_goto (tgt := 70) hx hb dX4_desk_47 (by decide) ?_
  exact rb_iret S hr hlk hQ rfl wb (m12 rfl rfl rfl rfl rfl rfl rfl rfl rfl rfl rfl rfl) dX4_desk_70

set_option maxHeartbeats 4000000 in
set_option maxRecDepth 100000 in
theorem m_desk1 (l : Launch) (D : va_G) (cI cC cD : ClassId) (ad : Nat → Nat) (th : Int32) (n : Nat) (st : Int32) (mn : Nat) (ar : Nat → Nat → Int32) (c : Nat) (hn : n ≤ 6) (hc : c < n) : RM l yX4_desk cX4_desk 3 (some .int) ({ frames := 1, cells := 0, slots := 0, locals := 21 }) D (ty3 cI cC cD) EN0 [.ref (ad 0), .int (nI c), .int (nI 1)] ad 12 (mE ad cI th n st mn ar) (mE ad cI (nI 0) n st mn ar) (some (.int (ar 4 c))) := by
  refine RM.of (by decide) (Nat.le_of_ble_eq_true rfl) ?_
  intro p e s m below meth c0 A ls args Q0 S hr hlk hQ wb hl
  have hx := S.1
  have hb := S.2.1
  have hl : lv_has ls 3 [(0, .ref (ad 0)), (1, .int (nI c)), (2, .int (nI 1))] := hl
  refine lv_aload_n hx hb dX4_desk_0 rfl (lv_at hl 0 rfl) ?_
  refine lv_aload_n hx hb dX4_desk_1 rfl (lv_at hl 0 rfl) ?_
  refine lv_iload_n hx hb dX4_desk_2 rfl (lv_at hl 1 rfl) ?_
  refine rb_callV S wb EN0_ok (m_no_t l D cI cC cD ad th n st mn ar (nI c) (nI 0) (tells_f (no_f hc (by omega)))) (bw5 bw_520 bw_522 bw_23 bw_37 bw_523) (rb_recv wb 0 (by decide) rfl rfl) hdX4_no rfl ⟨rfl, rfl⟩ ⟨by decide, by decide⟩ hl.1 (Nat.le_of_ble_eq_true rfl) ⟨Nat.zero_le _, Nat.zero_le _⟩ (rest := [.ref (ad 0)]) (st1 := [.int (nI 0), .ref (ad 0)]) rfl rfl dX4_desk_3 (fun H locs wb => ?_)
  refine lv_if_ne (tgt := 18) hx hb dX4_desk_6 (by decide) (fun h6 => absurd (by decide) h6) (fun h6 => ?_)
  refine lv_iload_n hx hb dX4_desk_9 rfl (lv_at hl 2 rfl) ?_
  refine lv_if_lt (tgt := 18) hx hb dX4_desk_10 (by decide) (fun h10 => absurd h10 (by decide)) (fun h10 => ?_)
  refine lv_iload_n hx hb dX4_desk_13 rfl (lv_at hl 2 rfl) ?_
  refine lv_iconst (v := nI 2) hx hb dX4_desk_14 (by decide) ?_
  refine nb_icmp_le (tgt := 22) hx hb dX4_desk_15 (by decide) (by omega) (by omega) (fun h15 => ?_) (fun h15 => absurd h15 (by omega))
  refine lv_iconst (v := nI 0) hx hb dX4_desk_22 (by decide) ?_
  refine rb_put (E' := mE ad cI (nI 0) n st mn ar) S wb 0 (by decide) rfl rfl in4 tyX4 tyX4_ok nmX4 0 (by decide) bw_462 rfl rfl rfl (Nat.le_of_ble_eq_true rfl) (m12 rfl rfl rfl rfl rfl rfl rfl rfl rfl rfl rfl rfl) dX4_desk_23 (fun H locs wb => ?_)
  refine lv_aload_n hx hb dX4_desk_26 rfl (lv_at hl 0 rfl) ?_
  refine rb_get S wb 0 (by decide) rfl rfl in4 0 (by decide) bw_462 rfl dX4_desk_27 ?_
  refine lv_if_eq (tgt := 37) hx hb dX4_desk_30 (by decide) (fun h30 => ?_) (fun h30 => absurd (by decide) h30)
  refine lv_iload_n hx hb dX4_desk_37 rfl (lv_at hl 2 rfl) ?_
  refine lv_if_ne (tgt := 50) hx hb dX4_desk_38 (by decide) (fun h38 => ?_) (fun h38 => absurd h38 (by decide))
  refine lv_iload_n hx hb dX4_desk_50 rfl (lv_at hl 2 rfl) ?_
  refine lv_iconst (v := nI 1) hx hb dX4_desk_51 (by decide) ?_
  refine nb_icmp_ne (tgt := 64) hx hb dX4_desk_52 (by decide) (by omega) (by omega) (fun h52 => absurd h52 (by omega)) (fun h52 => ?_)
  refine lv_aload_n hx hb dX4_desk_55 rfl (lv_at hl 0 rfl) ?_
  refine rb_get S wb 0 (by decide) rfl rfl in4 6 (by decide) bw_468 rfl dX4_desk_56 ?_
  refine lv_iload_n hx hb dX4_desk_59 rfl (lv_at hl 1 rfl) ?_
  refine rb_ald (n := 6) (f := ar 4) (x := ar 4 c) S wb 4 (by decide) rfl 0 rfl c (by omega) (by decide) rfl dX4_desk_60 ?_
  refine lv_goto (tgt := 70) hx hb dX4_desk_61 (by decide) ?_
  exact rb_iret S hr hlk hQ rfl wb (m12 rfl rfl rfl rfl rfl rfl rfl rfl rfl rfl rfl rfl) dX4_desk_70

set_option maxHeartbeats 4000000 in
set_option maxRecDepth 100000 in
theorem m_desk2 (l : Launch) (D : va_G) (cI cC cD : ClassId) (ad : Nat → Nat) (th : Int32) (n : Nat) (st : Int32) (mn : Nat) (ar : Nat → Nat → Int32) (c : Nat) (hn : n ≤ 6) (hc : c < n) : RM l yX4_desk cX4_desk 3 (some .int) ({ frames := 1, cells := 0, slots := 0, locals := 21 }) D (ty3 cI cC cD) EN0 [.ref (ad 0), .int (nI c), .int (nI 2)] ad 12 (mE ad cI th n st mn ar) (mE ad cI (nI 0) n st mn ar) (some (.int (ar 5 c))) := by
  refine RM.of (by decide) (Nat.le_of_ble_eq_true rfl) ?_
  intro p e s m below meth c0 A ls args Q0 S hr hlk hQ wb hl
  have hx := S.1
  have hb := S.2.1
  have hl : lv_has ls 3 [(0, .ref (ad 0)), (1, .int (nI c)), (2, .int (nI 2))] := hl
  refine lv_aload_n hx hb dX4_desk_0 rfl (lv_at hl 0 rfl) ?_
  refine lv_aload_n hx hb dX4_desk_1 rfl (lv_at hl 0 rfl) ?_
  refine lv_iload_n hx hb dX4_desk_2 rfl (lv_at hl 1 rfl) ?_
  refine rb_callV S wb EN0_ok (m_no_t l D cI cC cD ad th n st mn ar (nI c) (nI 0) (tells_f (no_f hc (by omega)))) (bw5 bw_520 bw_522 bw_23 bw_37 bw_523) (rb_recv wb 0 (by decide) rfl rfl) hdX4_no rfl ⟨rfl, rfl⟩ ⟨by decide, by decide⟩ hl.1 (Nat.le_of_ble_eq_true rfl) ⟨Nat.zero_le _, Nat.zero_le _⟩ (rest := [.ref (ad 0)]) (st1 := [.int (nI 0), .ref (ad 0)]) rfl rfl dX4_desk_3 (fun H locs wb => ?_)
  refine lv_if_ne (tgt := 18) hx hb dX4_desk_6 (by decide) (fun h6 => absurd (by decide) h6) (fun h6 => ?_)
  refine lv_iload_n hx hb dX4_desk_9 rfl (lv_at hl 2 rfl) ?_
  refine lv_if_lt (tgt := 18) hx hb dX4_desk_10 (by decide) (fun h10 => absurd h10 (by decide)) (fun h10 => ?_)
  refine lv_iload_n hx hb dX4_desk_13 rfl (lv_at hl 2 rfl) ?_
  refine lv_iconst (v := nI 2) hx hb dX4_desk_14 (by decide) ?_
  refine nb_icmp_le (tgt := 22) hx hb dX4_desk_15 (by decide) (by omega) (by omega) (fun h15 => ?_) (fun h15 => absurd h15 (by omega))
  refine lv_iconst (v := nI 0) hx hb dX4_desk_22 (by decide) ?_
  refine rb_put (E' := mE ad cI (nI 0) n st mn ar) S wb 0 (by decide) rfl rfl in4 tyX4 tyX4_ok nmX4 0 (by decide) bw_462 rfl rfl rfl (Nat.le_of_ble_eq_true rfl) (m12 rfl rfl rfl rfl rfl rfl rfl rfl rfl rfl rfl rfl) dX4_desk_23 (fun H locs wb => ?_)
  refine lv_aload_n hx hb dX4_desk_26 rfl (lv_at hl 0 rfl) ?_
  refine rb_get S wb 0 (by decide) rfl rfl in4 0 (by decide) bw_462 rfl dX4_desk_27 ?_
  refine lv_if_eq (tgt := 37) hx hb dX4_desk_30 (by decide) (fun h30 => ?_) (fun h30 => absurd (by decide) h30)
  refine lv_iload_n hx hb dX4_desk_37 rfl (lv_at hl 2 rfl) ?_
  refine lv_if_ne (tgt := 50) hx hb dX4_desk_38 (by decide) (fun h38 => ?_) (fun h38 => absurd h38 (by decide))
  refine lv_iload_n hx hb dX4_desk_50 rfl (lv_at hl 2 rfl) ?_
  refine lv_iconst (v := nI 1) hx hb dX4_desk_51 (by decide) ?_
  refine nb_icmp_ne (tgt := 64) hx hb dX4_desk_52 (by decide) (by omega) (by omega) (fun h52 => ?_) (fun h52 => absurd h52 (by omega))
  refine lv_aload_n hx hb dX4_desk_64 rfl (lv_at hl 0 rfl) ?_
  refine rb_get S wb 0 (by decide) rfl rfl in4 7 (by decide) bw_469 rfl dX4_desk_65 ?_
  refine lv_iload_n hx hb dX4_desk_68 rfl (lv_at hl 1 rfl) ?_
  refine rb_ald (n := 6) (f := ar 5) (x := ar 5 c) S wb 5 (by decide) rfl 0 rfl c (by omega) (by decide) rfl dX4_desk_69 ?_
  exact rb_iret S hr hlk hQ rfl wb (m12 rfl rfl rfl rfl rfl rfl rfl rfl rfl rfl rfl rfl) dX4_desk_70

set_option maxHeartbeats 4000000 in
set_option maxRecDepth 100000 in
theorem m_crew_x1 (l : Launch) (D : va_G) (cI cC cD : ClassId) (ad : Nat → Nat) (th : Int32) (n : Nat) (st : Int32) (mn : Nat) (ar : Nat → Nat → Int32) (x y : Int32) (hn : n ≤ 6) (hx0 : x < 0 ∨ nI n ≤ x) : RM l yX4_crew cX4_crew 3 (some .int) ({ frames := 1, cells := 0, slots := 0, locals := 24 }) D (ty3 cI cC cD) EN0 [.ref (ad 0), .int x, .int y] ad 12 (mE ad cI th n st mn ar) (mE ad cI (nI 1) n st mn ar) (some (.int (nI 0))) := by
  refine RM.of (by decide) (Nat.le_of_ble_eq_true rfl) ?_
  intro p e s m below meth c0 A ls args Q0 S hr hlk hQ wb hl
  have hx := S.1
  have hb := S.2.1
  have hl : lv_has ls 3 [(0, .ref (ad 0)), (1, .int x), (2, .int y)] := hl
  refine lv_aload_n hx hb dX4_crew_0 rfl (lv_at hl 0 rfl) ?_
  refine lv_aload_n hx hb dX4_crew_1 rfl (lv_at hl 0 rfl) ?_
  refine lv_iload_n hx hb dX4_crew_2 rfl (lv_at hl 1 rfl) ?_
  refine rb_callV S wb EN0_ok (m_no_t l D cI cC cD ad th n st mn ar x (nI 1) (tells_t hx0)) (bw5 bw_520 bw_522 bw_23 bw_37 bw_523) (rb_recv wb 0 (by decide) rfl rfl) hdX4_no rfl ⟨rfl, rfl⟩ ⟨by decide, by decide⟩ hl.1 (Nat.le_of_ble_eq_true rfl) ⟨Nat.zero_le _, Nat.zero_le _⟩ (rest := [.ref (ad 0)]) (st1 := [.int (nI 1), .ref (ad 0)]) rfl rfl dX4_crew_3 (fun H locs wb => ?_)
  refine lv_if_ne (tgt := 18) hx hb dX4_crew_6 (by decide) (fun h6 => ?_) (fun h6 => absurd h6 (by decide))
  refine lv_iconst (v := nI 1) hx hb dX4_crew_18 (by decide) ?_
  refine lv_goto (tgt := 23) hx hb dX4_crew_19 (by decide) ?_
  refine rb_put (E' := mE ad cI (nI 1) n st mn ar) S wb 0 (by decide) rfl rfl in4 tyX4 tyX4_ok nmX4 0 (by decide) bw_462 rfl rfl rfl (Nat.le_of_ble_eq_true rfl) (m12 rfl rfl rfl rfl rfl rfl rfl rfl rfl rfl rfl rfl) dX4_crew_23 (fun H locs wb => ?_)
  refine lv_aload_n hx hb dX4_crew_26 rfl (lv_at hl 0 rfl) ?_
  refine rb_get S wb 0 (by decide) rfl rfl in4 0 (by decide) bw_462 rfl dX4_crew_27 ?_
  refine lv_if_eq (tgt := 35) hx hb dX4_crew_30 (by decide) (fun h30 => absurd h30 (by decide)) (fun h30 => ?_)
  refine lv_iconst (v := nI 0) hx hb dX4_crew_33 (by decide) ?_
  exact rb_iret S hr hlk hQ rfl wb (m12 rfl rfl rfl rfl rfl rfl rfl rfl rfl rfl rfl rfl) dX4_crew_34

set_option maxHeartbeats 4000000 in
set_option maxRecDepth 100000 in
theorem m_crew_x2 (l : Launch) (D : va_G) (cI cC cD : ClassId) (ad : Nat → Nat) (th : Int32) (n : Nat) (st : Int32) (mn : Nat) (ar : Nat → Nat → Int32) (c : Nat) (y : Int32) (hn : n ≤ 6) (hc : c < n) (hy : y < 0 ∨ 3 < y) : RM l yX4_crew cX4_crew 3 (some .int) ({ frames := 1, cells := 0, slots := 0, locals := 24 }) D (ty3 cI cC cD) EN0 [.ref (ad 0), .int (nI c), .int y] ad 12 (mE ad cI th n st mn ar) (mE ad cI (nI 1) n st mn ar) (some (.int (nI 0))) := by
  refine RM.of (by decide) (Nat.le_of_ble_eq_true rfl) ?_
  intro p e s m below meth c0 A ls args Q0 S hr hlk hQ wb hl
  have hx := S.1
  have hb := S.2.1
  have hl : lv_has ls 3 [(0, .ref (ad 0)), (1, .int (nI c)), (2, .int y)] := hl
  refine lv_aload_n hx hb dX4_crew_0 rfl (lv_at hl 0 rfl) ?_
  refine lv_aload_n hx hb dX4_crew_1 rfl (lv_at hl 0 rfl) ?_
  refine lv_iload_n hx hb dX4_crew_2 rfl (lv_at hl 1 rfl) ?_
  refine rb_callV S wb EN0_ok (m_no_t l D cI cC cD ad th n st mn ar (nI c) (nI 0) (tells_f (no_f hc (by omega)))) (bw5 bw_520 bw_522 bw_23 bw_37 bw_523) (rb_recv wb 0 (by decide) rfl rfl) hdX4_no rfl ⟨rfl, rfl⟩ ⟨by decide, by decide⟩ hl.1 (Nat.le_of_ble_eq_true rfl) ⟨Nat.zero_le _, Nat.zero_le _⟩ (rest := [.ref (ad 0)]) (st1 := [.int (nI 0), .ref (ad 0)]) rfl rfl dX4_crew_3 (fun H locs wb => ?_)
  refine lv_if_ne (tgt := 18) hx hb dX4_crew_6 (by decide) (fun h6 => absurd (by decide) h6) (fun h6 => ?_)
  refine lv_iload_n hx hb dX4_crew_9 rfl (lv_at hl 2 rfl) ?_
  refine lv_if_lt (tgt := 18) hx hb dX4_crew_10 (by decide) (fun h10 => ?_) (fun h10 => ?_)
  · refine lv_iconst (v := nI 1) hx hb dX4_crew_18 (by decide) ?_
    refine lv_goto (tgt := 23) hx hb dX4_crew_19 (by decide) ?_
    refine rb_put (E' := mE ad cI (nI 1) n st mn ar) S wb 0 (by decide) rfl rfl in4 tyX4 tyX4_ok nmX4 0 (by decide) bw_462 rfl rfl rfl (Nat.le_of_ble_eq_true rfl) (m12 rfl rfl rfl rfl rfl rfl rfl rfl rfl rfl rfl rfl) dX4_crew_23 (fun H locs wb => ?_)
    refine lv_aload_n hx hb dX4_crew_26 rfl (lv_at hl 0 rfl) ?_
    refine rb_get S wb 0 (by decide) rfl rfl in4 0 (by decide) bw_462 rfl dX4_crew_27 ?_
    refine lv_if_eq (tgt := 35) hx hb dX4_crew_30 (by decide) (fun h30 => absurd h30 (by decide)) (fun h30 => ?_)
    refine lv_iconst (v := nI 0) hx hb dX4_crew_33 (by decide) ?_
    exact rb_iret S hr hlk hQ rfl wb (m12 rfl rfl rfl rfl rfl rfl rfl rfl rfl rfl rfl rfl) dX4_crew_34
  · refine lv_iload_n hx hb dX4_crew_13 rfl (lv_at hl 2 rfl) ?_
    refine lv_iconst (v := nI 3) hx hb dX4_crew_14 (by decide) ?_
    refine lv_icmp_le (tgt := 22) hx hb dX4_crew_15 (by decide) (fun h15 => absurd h15 (Int32.not_le.mpr (hy.resolve_left h10))) (fun h15 => ?_)
    refine lv_iconst (v := nI 1) hx hb dX4_crew_18 (by decide) ?_
    refine lv_goto (tgt := 23) hx hb dX4_crew_19 (by decide) ?_
    refine rb_put (E' := mE ad cI (nI 1) n st mn ar) S wb 0 (by decide) rfl rfl in4 tyX4 tyX4_ok nmX4 0 (by decide) bw_462 rfl rfl rfl (Nat.le_of_ble_eq_true rfl) (m12 rfl rfl rfl rfl rfl rfl rfl rfl rfl rfl rfl rfl) dX4_crew_23 (fun H locs wb => ?_)
    refine lv_aload_n hx hb dX4_crew_26 rfl (lv_at hl 0 rfl) ?_
    refine rb_get S wb 0 (by decide) rfl rfl in4 0 (by decide) bw_462 rfl dX4_crew_27 ?_
    refine lv_if_eq (tgt := 35) hx hb dX4_crew_30 (by decide) (fun h30 => absurd h30 (by decide)) (fun h30 => ?_)
    refine lv_iconst (v := nI 0) hx hb dX4_crew_33 (by decide) ?_
    exact rb_iret S hr hlk hQ rfl wb (m12 rfl rfl rfl rfl rfl rfl rfl rfl rfl rfl rfl rfl) dX4_crew_34

set_option maxHeartbeats 4000000 in
set_option maxRecDepth 100000 in
theorem m_crew0 (l : Launch) (D : va_G) (cI cC cD : ClassId) (ad : Nat → Nat) (th : Int32) (n : Nat) (st : Int32) (mn : Nat) (ar : Nat → Nat → Int32) (c : Nat) (hn : n ≤ 6) (hn2 : 2 ≤ n) (hc : c < n) : RM l yX4_crew cX4_crew 3 (some .int) ({ frames := 1, cells := 0, slots := 0, locals := 24 }) D (ty3 cI cC cD) EN0 [.ref (ad 0), .int (nI c), .int (nI 0)] ad 12 (mE ad cI th n st mn ar) (mE ad cI (nI 0) n st mn ar) (some (.int (ar 6 c))) := by
  refine RM.of (by decide) (Nat.le_of_ble_eq_true rfl) ?_
  intro p e s m below meth c0 A ls args Q0 S hr hlk hQ wb hl
  have hx := S.1
  have hb := S.2.1
  have hl : lv_has ls 3 [(0, .ref (ad 0)), (1, .int (nI c)), (2, .int (nI 0))] := hl
  refine lv_aload_n hx hb dX4_crew_0 rfl (lv_at hl 0 rfl) ?_
  refine lv_aload_n hx hb dX4_crew_1 rfl (lv_at hl 0 rfl) ?_
  refine lv_iload_n hx hb dX4_crew_2 rfl (lv_at hl 1 rfl) ?_
  refine rb_callV S wb EN0_ok (m_no_t l D cI cC cD ad th n st mn ar (nI c) (nI 0) (tells_f (no_f hc (by omega)))) (bw5 bw_520 bw_522 bw_23 bw_37 bw_523) (rb_recv wb 0 (by decide) rfl rfl) hdX4_no rfl ⟨rfl, rfl⟩ ⟨by decide, by decide⟩ hl.1 (Nat.le_of_ble_eq_true rfl) ⟨Nat.zero_le _, Nat.zero_le _⟩ (rest := [.ref (ad 0)]) (st1 := [.int (nI 0), .ref (ad 0)]) rfl rfl dX4_crew_3 (fun H locs wb => ?_)
  refine lv_if_ne (tgt := 18) hx hb dX4_crew_6 (by decide) (fun h6 => absurd (by decide) h6) (fun h6 => ?_)
  refine lv_iload_n hx hb dX4_crew_9 rfl (lv_at hl 2 rfl) ?_
  refine lv_if_lt (tgt := 18) hx hb dX4_crew_10 (by decide) (fun h10 => absurd h10 (by decide)) (fun h10 => ?_)
  refine lv_iload_n hx hb dX4_crew_13 rfl (lv_at hl 2 rfl) ?_
  refine lv_iconst (v := nI 3) hx hb dX4_crew_14 (by decide) ?_
  refine nb_icmp_le (tgt := 22) hx hb dX4_crew_15 (by decide) (by omega) (by omega) (fun h15 => ?_) (fun h15 => absurd h15 (by omega))
  refine lv_iconst (v := nI 0) hx hb dX4_crew_22 (by decide) ?_
  refine rb_put (E' := mE ad cI (nI 0) n st mn ar) S wb 0 (by decide) rfl rfl in4 tyX4 tyX4_ok nmX4 0 (by decide) bw_462 rfl rfl rfl (Nat.le_of_ble_eq_true rfl) (m12 rfl rfl rfl rfl rfl rfl rfl rfl rfl rfl rfl rfl) dX4_crew_23 (fun H locs wb => ?_)
  refine lv_aload_n hx hb dX4_crew_26 rfl (lv_at hl 0 rfl) ?_
  refine rb_get S wb 0 (by decide) rfl rfl in4 0 (by decide) bw_462 rfl dX4_crew_27 ?_
  refine lv_if_eq (tgt := 35) hx hb dX4_crew_30 (by decide) (fun h30 => ?_) (fun h30 => absurd (by decide) h30)
  refine lv_iload_n hx hb dX4_crew_35 rfl (lv_at hl 2 rfl) ?_
  refine lv_if_ne (tgt := 48) hx hb dX4_crew_36 (by decide) (fun h36 => absurd (by decide) h36) (fun h36 => ?_)
  refine lv_aload_n hx hb dX4_crew_39 rfl (lv_at hl 0 rfl) ?_
  refine rb_get S wb 0 (by decide) rfl rfl in4 8 (by decide) bw_470 rfl dX4_crew_40 ?_
  refine lv_iload_n hx hb dX4_crew_43 rfl (lv_at hl 1 rfl) ?_
  refine rb_ald (n := 6) (f := ar 6) (x := ar 6 c) S wb 6 (by decide) rfl 0 rfl c (by omega) (by decide) rfl dX4_crew_44 ?_
  refine lv_goto (tgt := 81) hx hb dX4_crew_45 (by decide) ?_
  exact rb_iret S hr hlk hQ rfl wb (m12 rfl rfl rfl rfl rfl rfl rfl rfl rfl rfl rfl rfl) dX4_crew_81

set_option maxHeartbeats 4000000 in
set_option maxRecDepth 100000 in
theorem m_crew1 (l : Launch) (D : va_G) (cI cC cD : ClassId) (ad : Nat → Nat) (th : Int32) (n : Nat) (st : Int32) (mn : Nat) (ar : Nat → Nat → Int32) (c : Nat) (hn : n ≤ 6) (hn2 : 2 ≤ n) (hc : c < n) : RM l yX4_crew cX4_crew 3 (some .int) ({ frames := 1, cells := 0, slots := 0, locals := 24 }) D (ty3 cI cC cD) EN0 [.ref (ad 0), .int (nI c), .int (nI 1)] ad 12 (mE ad cI th n st mn ar) (mE ad cI (nI 0) n st mn ar) (some (.int (ar 7 c))) := by
  refine RM.of (by decide) (Nat.le_of_ble_eq_true rfl) ?_
  intro p e s m below meth c0 A ls args Q0 S hr hlk hQ wb hl
  have hx := S.1
  have hb := S.2.1
  have hl : lv_has ls 3 [(0, .ref (ad 0)), (1, .int (nI c)), (2, .int (nI 1))] := hl
  refine lv_aload_n hx hb dX4_crew_0 rfl (lv_at hl 0 rfl) ?_
  refine lv_aload_n hx hb dX4_crew_1 rfl (lv_at hl 0 rfl) ?_
  refine lv_iload_n hx hb dX4_crew_2 rfl (lv_at hl 1 rfl) ?_
  refine rb_callV S wb EN0_ok (m_no_t l D cI cC cD ad th n st mn ar (nI c) (nI 0) (tells_f (no_f hc (by omega)))) (bw5 bw_520 bw_522 bw_23 bw_37 bw_523) (rb_recv wb 0 (by decide) rfl rfl) hdX4_no rfl ⟨rfl, rfl⟩ ⟨by decide, by decide⟩ hl.1 (Nat.le_of_ble_eq_true rfl) ⟨Nat.zero_le _, Nat.zero_le _⟩ (rest := [.ref (ad 0)]) (st1 := [.int (nI 0), .ref (ad 0)]) rfl rfl dX4_crew_3 (fun H locs wb => ?_)
  refine lv_if_ne (tgt := 18) hx hb dX4_crew_6 (by decide) (fun h6 => absurd (by decide) h6) (fun h6 => ?_)
  refine lv_iload_n hx hb dX4_crew_9 rfl (lv_at hl 2 rfl) ?_
  refine lv_if_lt (tgt := 18) hx hb dX4_crew_10 (by decide) (fun h10 => absurd h10 (by decide)) (fun h10 => ?_)
  refine lv_iload_n hx hb dX4_crew_13 rfl (lv_at hl 2 rfl) ?_
  refine lv_iconst (v := nI 3) hx hb dX4_crew_14 (by decide) ?_
  refine nb_icmp_le (tgt := 22) hx hb dX4_crew_15 (by decide) (by omega) (by omega) (fun h15 => ?_) (fun h15 => absurd h15 (by omega))
  refine lv_iconst (v := nI 0) hx hb dX4_crew_22 (by decide) ?_
  refine rb_put (E' := mE ad cI (nI 0) n st mn ar) S wb 0 (by decide) rfl rfl in4 tyX4 tyX4_ok nmX4 0 (by decide) bw_462 rfl rfl rfl (Nat.le_of_ble_eq_true rfl) (m12 rfl rfl rfl rfl rfl rfl rfl rfl rfl rfl rfl rfl) dX4_crew_23 (fun H locs wb => ?_)
  refine lv_aload_n hx hb dX4_crew_26 rfl (lv_at hl 0 rfl) ?_
  refine rb_get S wb 0 (by decide) rfl rfl in4 0 (by decide) bw_462 rfl dX4_crew_27 ?_
  refine lv_if_eq (tgt := 35) hx hb dX4_crew_30 (by decide) (fun h30 => ?_) (fun h30 => absurd (by decide) h30)
  refine lv_iload_n hx hb dX4_crew_35 rfl (lv_at hl 2 rfl) ?_
  refine lv_if_ne (tgt := 48) hx hb dX4_crew_36 (by decide) (fun h36 => ?_) (fun h36 => absurd h36 (by decide))
  refine lv_iload_n hx hb dX4_crew_48 rfl (lv_at hl 2 rfl) ?_
  refine lv_iconst (v := nI 1) hx hb dX4_crew_49 (by decide) ?_
  refine nb_icmp_ne (tgt := 62) hx hb dX4_crew_50 (by decide) (by omega) (by omega) (fun h50 => absurd h50 (by omega)) (fun h50 => ?_)
  refine lv_aload_n hx hb dX4_crew_53 rfl (lv_at hl 0 rfl) ?_
  refine rb_get S wb 0 (by decide) rfl rfl in4 9 (by decide) bw_471 rfl dX4_crew_54 ?_
  refine lv_iload_n hx hb dX4_crew_57 rfl (lv_at hl 1 rfl) ?_
  refine rb_ald (n := 6) (f := ar 7) (x := ar 7 c) S wb 7 (by decide) rfl 0 rfl c (by omega) (by decide) rfl dX4_crew_58 ?_
  refine lv_goto (tgt := 81) hx hb dX4_crew_59 (by decide) ?_
  exact rb_iret S hr hlk hQ rfl wb (m12 rfl rfl rfl rfl rfl rfl rfl rfl rfl rfl rfl rfl) dX4_crew_81

set_option maxHeartbeats 4000000 in
set_option maxRecDepth 100000 in
theorem m_crew2 (l : Launch) (D : va_G) (cI cC cD : ClassId) (ad : Nat → Nat) (th : Int32) (n : Nat) (st : Int32) (mn : Nat) (ar : Nat → Nat → Int32) (c : Nat) (hn : n ≤ 6) (hn2 : 2 ≤ n) (hc : c < n) : RM l yX4_crew cX4_crew 3 (some .int) ({ frames := 1, cells := 0, slots := 0, locals := 24 }) D (ty3 cI cC cD) EN0 [.ref (ad 0), .int (nI c), .int (nI 2)] ad 12 (mE ad cI th n st mn ar) (mE ad cI (nI 0) n st mn ar) (some (.int (ar 8 c))) := by
  refine RM.of (by decide) (Nat.le_of_ble_eq_true rfl) ?_
  intro p e s m below meth c0 A ls args Q0 S hr hlk hQ wb hl
  have hx := S.1
  have hb := S.2.1
  have hl : lv_has ls 3 [(0, .ref (ad 0)), (1, .int (nI c)), (2, .int (nI 2))] := hl
  refine lv_aload_n hx hb dX4_crew_0 rfl (lv_at hl 0 rfl) ?_
  refine lv_aload_n hx hb dX4_crew_1 rfl (lv_at hl 0 rfl) ?_
  refine lv_iload_n hx hb dX4_crew_2 rfl (lv_at hl 1 rfl) ?_
  refine rb_callV S wb EN0_ok (m_no_t l D cI cC cD ad th n st mn ar (nI c) (nI 0) (tells_f (no_f hc (by omega)))) (bw5 bw_520 bw_522 bw_23 bw_37 bw_523) (rb_recv wb 0 (by decide) rfl rfl) hdX4_no rfl ⟨rfl, rfl⟩ ⟨by decide, by decide⟩ hl.1 (Nat.le_of_ble_eq_true rfl) ⟨Nat.zero_le _, Nat.zero_le _⟩ (rest := [.ref (ad 0)]) (st1 := [.int (nI 0), .ref (ad 0)]) rfl rfl dX4_crew_3 (fun H locs wb => ?_)
  refine lv_if_ne (tgt := 18) hx hb dX4_crew_6 (by decide) (fun h6 => absurd (by decide) h6) (fun h6 => ?_)
  refine lv_iload_n hx hb dX4_crew_9 rfl (lv_at hl 2 rfl) ?_
  refine lv_if_lt (tgt := 18) hx hb dX4_crew_10 (by decide) (fun h10 => absurd h10 (by decide)) (fun h10 => ?_)
  refine lv_iload_n hx hb dX4_crew_13 rfl (lv_at hl 2 rfl) ?_
  refine lv_iconst (v := nI 3) hx hb dX4_crew_14 (by decide) ?_
  refine nb_icmp_le (tgt := 22) hx hb dX4_crew_15 (by decide) (by omega) (by omega) (fun h15 => ?_) (fun h15 => absurd h15 (by omega))
  refine lv_iconst (v := nI 0) hx hb dX4_crew_22 (by decide) ?_
  refine rb_put (E' := mE ad cI (nI 0) n st mn ar) S wb 0 (by decide) rfl rfl in4 tyX4 tyX4_ok nmX4 0 (by decide) bw_462 rfl rfl rfl (Nat.le_of_ble_eq_true rfl) (m12 rfl rfl rfl rfl rfl rfl rfl rfl rfl rfl rfl rfl) dX4_crew_23 (fun H locs wb => ?_)
  refine lv_aload_n hx hb dX4_crew_26 rfl (lv_at hl 0 rfl) ?_
  refine rb_get S wb 0 (by decide) rfl rfl in4 0 (by decide) bw_462 rfl dX4_crew_27 ?_
  refine lv_if_eq (tgt := 35) hx hb dX4_crew_30 (by decide) (fun h30 => ?_) (fun h30 => absurd (by decide) h30)
  refine lv_iload_n hx hb dX4_crew_35 rfl (lv_at hl 2 rfl) ?_
  refine lv_if_ne (tgt := 48) hx hb dX4_crew_36 (by decide) (fun h36 => ?_) (fun h36 => absurd h36 (by decide))
  refine lv_iload_n hx hb dX4_crew_48 rfl (lv_at hl 2 rfl) ?_
  refine lv_iconst (v := nI 1) hx hb dX4_crew_49 (by decide) ?_
  refine nb_icmp_ne (tgt := 62) hx hb dX4_crew_50 (by decide) (by omega) (by omega) (fun h50 => ?_) (fun h50 => absurd h50 (by omega))
  refine lv_iload_n hx hb dX4_crew_62 rfl (lv_at hl 2 rfl) ?_
  refine lv_iconst (v := nI 2) hx hb dX4_crew_63 (by decide) ?_
  refine nb_icmp_ne (tgt := 76) hx hb dX4_crew_64 (by decide) (by omega) (by omega) (fun h64 => absurd h64 (by omega)) (fun h64 => ?_)
  refine lv_aload_n hx hb dX4_crew_67 rfl (lv_at hl 0 rfl) ?_
  refine rb_get S wb 0 (by decide) rfl rfl in4 10 (by decide) bw_472 rfl dX4_crew_68 ?_
  refine lv_iload_n hx hb dX4_crew_71 rfl (lv_at hl 1 rfl) ?_
  refine rb_ald (n := 6) (f := ar 8) (x := ar 8 c) S wb 8 (by decide) rfl 0 rfl c (by omega) (by decide) rfl dX4_crew_72 ?_
  refine lv_goto (tgt := 81) hx hb dX4_crew_73 (by decide) ?_
  exact rb_iret S hr hlk hQ rfl wb (m12 rfl rfl rfl rfl rfl rfl rfl rfl rfl rfl rfl rfl) dX4_crew_81

set_option maxHeartbeats 4000000 in
set_option maxRecDepth 100000 in
theorem m_crew3 (l : Launch) (D : va_G) (cI cC cD : ClassId) (ad : Nat → Nat) (th : Int32) (n : Nat) (st : Int32) (mn : Nat) (ar : Nat → Nat → Int32) (c : Nat) (hn : n ≤ 6) (hn2 : 2 ≤ n) (hc : c < n) : RM l yX4_crew cX4_crew 3 (some .int) ({ frames := 1, cells := 0, slots := 0, locals := 24 }) D (ty3 cI cC cD) EN0 [.ref (ad 0), .int (nI c), .int (nI 3)] ad 12 (mE ad cI th n st mn ar) (mE ad cI (nI 0) n st mn ar) (some (.int (pf (fun j => ar 1 (6 * c + j) * nI (n + 1) - ar 3 j) (n - 1)))) := by
  refine RM.of (by decide) (Nat.le_of_ble_eq_true rfl) ?_
  intro p e s m below meth c0 A ls args Q0 S hr hlk hQ wb hl
  have hx := S.1
  have hb := S.2.1
  have hl : lv_has ls 3 [(0, .ref (ad 0)), (1, .int (nI c)), (2, .int (nI 3))] := hl
  refine lv_aload_n hx hb dX4_crew_0 rfl (lv_at hl 0 rfl) ?_
  refine lv_aload_n hx hb dX4_crew_1 rfl (lv_at hl 0 rfl) ?_
  refine lv_iload_n hx hb dX4_crew_2 rfl (lv_at hl 1 rfl) ?_
  refine rb_callV S wb EN0_ok (m_no_t l D cI cC cD ad th n st mn ar (nI c) (nI 0) (tells_f (no_f hc (by omega)))) (bw5 bw_520 bw_522 bw_23 bw_37 bw_523) (rb_recv wb 0 (by decide) rfl rfl) hdX4_no rfl ⟨rfl, rfl⟩ ⟨by decide, by decide⟩ hl.1 (Nat.le_of_ble_eq_true rfl) ⟨Nat.zero_le _, Nat.zero_le _⟩ (rest := [.ref (ad 0)]) (st1 := [.int (nI 0), .ref (ad 0)]) rfl rfl dX4_crew_3 (fun H locs wb => ?_)
  refine lv_if_ne (tgt := 18) hx hb dX4_crew_6 (by decide) (fun h6 => absurd (by decide) h6) (fun h6 => ?_)
  refine lv_iload_n hx hb dX4_crew_9 rfl (lv_at hl 2 rfl) ?_
  refine lv_if_lt (tgt := 18) hx hb dX4_crew_10 (by decide) (fun h10 => absurd h10 (by decide)) (fun h10 => ?_)
  refine lv_iload_n hx hb dX4_crew_13 rfl (lv_at hl 2 rfl) ?_
  refine lv_iconst (v := nI 3) hx hb dX4_crew_14 (by decide) ?_
  refine nb_icmp_le (tgt := 22) hx hb dX4_crew_15 (by decide) (by omega) (by omega) (fun h15 => ?_) (fun h15 => absurd h15 (by omega))
  refine lv_iconst (v := nI 0) hx hb dX4_crew_22 (by decide) ?_
  refine rb_put (E' := mE ad cI (nI 0) n st mn ar) S wb 0 (by decide) rfl rfl in4 tyX4 tyX4_ok nmX4 0 (by decide) bw_462 rfl rfl rfl (Nat.le_of_ble_eq_true rfl) (m12 rfl rfl rfl rfl rfl rfl rfl rfl rfl rfl rfl rfl) dX4_crew_23 (fun H locs wb => ?_)
  refine lv_aload_n hx hb dX4_crew_26 rfl (lv_at hl 0 rfl) ?_
  refine rb_get S wb 0 (by decide) rfl rfl in4 0 (by decide) bw_462 rfl dX4_crew_27 ?_
  refine lv_if_eq (tgt := 35) hx hb dX4_crew_30 (by decide) (fun h30 => ?_) (fun h30 => absurd (by decide) h30)
  refine lv_iload_n hx hb dX4_crew_35 rfl (lv_at hl 2 rfl) ?_
  refine lv_if_ne (tgt := 48) hx hb dX4_crew_36 (by decide) (fun h36 => ?_) (fun h36 => absurd h36 (by decide))
  refine lv_iload_n hx hb dX4_crew_48 rfl (lv_at hl 2 rfl) ?_
  refine lv_iconst (v := nI 1) hx hb dX4_crew_49 (by decide) ?_
  refine nb_icmp_ne (tgt := 62) hx hb dX4_crew_50 (by decide) (by omega) (by omega) (fun h50 => ?_) (fun h50 => absurd h50 (by omega))
  refine lv_iload_n hx hb dX4_crew_62 rfl (lv_at hl 2 rfl) ?_
  refine lv_iconst (v := nI 2) hx hb dX4_crew_63 (by decide) ?_
  refine nb_icmp_ne (tgt := 76) hx hb dX4_crew_64 (by decide) (by omega) (by omega) (fun h64 => ?_) (fun h64 => absurd h64 (by omega))
  refine lv_aload_n hx hb dX4_crew_76 rfl (lv_at hl 0 rfl) ?_
  refine lv_iload_n hx hb dX4_crew_77 rfl (lv_at hl 1 rfl) ?_
  refine rb_callV S wb EN0_ok (m_profitOf l D cI cC cD ad (nI 0) n st mn ar c (by omega) (by omega) (by omega)) (bw5 bw_580 bw_582 bw_30 bw_37 bw_583) (rb_recv wb 0 (by decide) rfl rfl) hdX4_profitOf rfl ⟨rfl, rfl⟩ ⟨by decide, by decide⟩ hl.1 (Nat.le_of_ble_eq_true rfl) ⟨Nat.zero_le _, Nat.zero_le _⟩ (rest := []) (st1 := [.int (pf (fun j => ar 1 (6 * c + j) * nI (n + 1) - ar 3 j) (n - 1))]) rfl rfl dX4_crew_78 (fun H locs wb => ?_)
  exact rb_iret S hr hlk hQ rfl wb (m12 rfl rfl rfl rfl rfl rfl rfl rfl rfl rfl rfl rfl) dX4_crew_81

set_option maxHeartbeats 4000000 in
set_option maxRecDepth 100000 in
theorem m_settled (l : Launch) (D : va_G) (cI cC cD : ClassId) (ad : Nat → Nat) (th : Int32) (n : Nat) (st : Int32) (mn : Nat) (ar : Nat → Nat → Int32) (hn : n ≤ 6) (hT : HT ar n) (r : Int32) (hr0 : tells r (stl ar n)) : RM l yX4_settled cX4_settled 1 (some .boolean) ({ frames := 1, cells := 0, slots := 0, locals := 23 }) D (ty3 cI cC cD) EN0 [.ref (ad 0)] ad 12 (mE ad cI th n st mn ar) (mE ad cI (nI 0) n st mn ar) (some (.int r)) := by
  refine RM.of (by decide) (Nat.le_of_ble_eq_true rfl) ?_
  intro p e s m below meth c0 A ls args Q0 S hr hlk hQ wb hl
  have hx := S.1
  have hb := S.2.1
  have hl : lv_has ls 1 [(0, .ref (ad 0))] := hl
  refine lv_aload_n hx hb dX4_settled_0 rfl (lv_at hl 0 rfl) ?_
  refine lv_iconst (v := nI 0) hx hb dX4_settled_1 (by decide) ?_
  refine rb_put (E' := mE ad cI (nI 0) n st mn ar) S wb 0 (by decide) rfl rfl in4 tyX4 tyX4_ok nmX4 0 (by decide) bw_462 rfl rfl rfl (Nat.le_of_ble_eq_true rfl) (m12 rfl rfl rfl rfl rfl rfl rfl rfl rfl rfl rfl rfl) dX4_settled_2 (fun H locs wb => ?_)
  refine lv_aload_n hx hb dX4_settled_5 rfl (lv_at hl 0 rfl) ?_
  refine rb_callV S wb EN0_ok (m_isSettled l D cI cC cD ad (nI 0) n st mn ar hn hT r hr0) (bw5 bw_516 bw_518 bw_22 bw_37 bw_519) (rb_recv wb 0 (by decide) rfl rfl) hdX4_isSettled rfl ⟨rfl, rfl⟩ ⟨by decide, by decide⟩ hl.1 (Nat.le_of_ble_eq_true rfl) ⟨Nat.zero_le _, Nat.zero_le _⟩ (rest := []) (st1 := [.int r]) rfl rfl dX4_settled_6 (fun H locs wb => ?_)
  exact rb_zret S hr hlk hQ rfl (tells_b hr0) wb (m12 rfl rfl rfl rfl rfl rfl rfl rfl rfl rfl rfl rfl) dX4_settled_9
end
section
/-! the model's public methods: those that move much -/
theorem tells_ex (P : Prop) : ∃ r, tells r P := by
  by_cases h : P
  · exact ⟨_, tells_t h⟩
  · exact ⟨_, tells_f h⟩
def sm (w : Nat → Int32) : Nat → Int32
  | 0 => 0
  | k + 1 => sm w k + w k
theorem sm_s {w : Nat → Int32} {k : Nat} {v x : Int32} (hv : v = sm w k) (hx : w k = x) : v + x = sm w (k + 1) := by rw [hv, ← hx]; rfl
/-- the value of a job for a crew -/
def vl (n : Nat) (ar : Nat → Nat → Int32) (c j : Nat) : Int32 := ar 1 (6 * c + j) * nI (n + 1) - ar 2 (6 * c + j)
def bst (v : Nat → Int32) : Nat → Nat
  | 0 => 0
  | k + 1 => if v (bst v k) < v (k + 1) then k + 1 else bst v k
theorem bst_le (v : Nat → Int32) : ∀ k, bst v k ≤ k
  | 0 => Nat.le_refl 0
  | k + 1 => by
    unfold bst
    have := bst_le v k
    split <;> omega
theorem bst_t {v : Nat → Int32} {k b : Nat} (hb : b = bst v k) (h : ¬ v (k + 1) ≤ v b) : k + 1 = bst v (k + 1) := by
  rw [bst, ← hb, if_pos (Int32.not_le.mp h)]
theorem bst_f {v : Nat → Int32} {k b : Nat} (hb : b = bst v k) (h : v (k + 1) ≤ v b) : b = bst v (k + 1) := by
  rw [bst, ← hb, if_neg (Int32.not_lt.mpr h)]
/-- the best of the others, job by job from the first on; s0 at first -/
def sc2 (v : Nat → Int32) (b s0 : Nat) : Nat → Nat
  | 0 => s0
  | k + 1 => if k ≠ b ∧ v (sc2 v b s0 k) < v k then k else sc2 v b s0 k
theorem sc2_lt {v : Nat → Int32} {b s0 n : Nat} (h0 : s0 < n) : ∀ k, k ≤ n → sc2 v b s0 k < n
  | 0, _ => h0
  | k + 1, h => by
    unfold sc2
    have := sc2_lt (v := v) (b := b) h0 k (by omega)
    split <;> omega
theorem sc2_e {v : Nat → Int32} {b s0 k x : Nat} (hs : x = sc2 v b s0 k) (h : k = b) : x = sc2 v b s0 (k + 1) := by
  rw [sc2, if_neg (fun q => q.1 h)]; exact hs
theorem sc2_f {v : Nat → Int32} {b s0 k x : Nat} (hs : x = sc2 v b s0 k) (h : v k ≤ v x) : x = sc2 v b s0 (k + 1) := by
  rw [sc2, ← hs, if_neg (fun q => Int32.not_lt.mpr h q.2)]
theorem sc2_t {v : Nat → Int32} {b s0 k x : Nat} (hs : x = sc2 v b s0 k) (h : k ≠ b) (h2 : ¬ v k ≤ v x) : k = sc2 v b s0 (k + 1) := by
  rw [sc2, ← hs, if_pos ⟨h, Int32.not_le.mp h2⟩]
def s0of (b : Nat) : Nat := if b = 0 then 1 else 0
def sndA (kd : Nat) (x2 x3 x4 x5 : Int32) (p : Nat × (Nat → Nat → Int32)) : Nat × (Nat → Nat → Int32) :=
  (p.1 + 1, va_up (va_up p.2 10 (put5 (p.2 10) (5 * p.1) (nI kd) x2 x3 x4 x5)) 11 (upd (p.2 11) kd (p.2 11 kd + nI 1)))
/-- a bid comes -/
noncomputable def bidC (st : Int32) (mn : Nat) (ar : Nat → Nat → Int32) (c j : Nat) (b a : Int32) : Nat × (Nat → Nat → Int32) :=
  if ar 4 j = nI c ∧ ar 5 j = b then sndA 1 (nI c) (nI j) b (ar 3 j) (mn, ar)
  else if ¬ ar 3 j + st ≤ a then sndA 2 (nI c) (nI j) b (ar 3 j) (mn, ar)
  else if ar 4 j = -1 then sndA 1 (nI c) (nI j) b a (mn, va_up (va_up (va_up ar 3 (upd (ar 3) j a)) 4 (upd (ar 4) j (nI c))) 5 (upd (ar 5) j b))
  else sndA 1 (nI c) (nI j) b a (mn + 1, va_up (va_up (sndA 3 (ar 4 j) (nI j) (ar 5 j) a (mn, va_up ar 3 (upd (ar 3) j a))).2 4 (upd (ar 4) j (nI c))) 5 (upd (ar 5) j b))
theorem bidC_1 {st : Int32} {mn : Nat} {ar : Nat → Nat → Int32} {c j : Nat} {b a : Int32} (h : ar 4 j = nI c) (h2 : ar 5 j = b) : bidC st mn ar c j b a = sndA 1 (nI c) (nI j) b (ar 3 j) (mn, ar) := by
  unfold bidC; rw [if_pos ⟨h, h2⟩]
theorem bidC_2 {st : Int32} {mn : Nat} {ar : Nat → Nat → Int32} {c j : Nat} {b a : Int32} (h : ¬ (ar 4 j = nI c ∧ ar 5 j = b)) (h2 : ¬ ar 3 j + st ≤ a) : bidC st mn ar c j b a = sndA 2 (nI c) (nI j) b (ar 3 j) (mn, ar) := by
  unfold bidC; rw [if_neg h, if_pos h2]
theorem bidC_3 {st : Int32} {mn : Nat} {ar : Nat → Nat → Int32} {c j : Nat} {b a : Int32} (h : ¬ (ar 4 j = nI c ∧ ar 5 j = b)) (h2 : ar 3 j + st ≤ a) (h3 : ar 4 j = -1) : bidC st mn ar c j b a = sndA 1 (nI c) (nI j) b a (mn, va_up (va_up (va_up ar 3 (upd (ar 3) j a)) 4 (upd (ar 4) j (nI c))) 5 (upd (ar 5) j b)) := by
  unfold bidC; rw [if_neg h, if_neg (fun q => q h2), if_pos h3]
theorem bidC_4 {st : Int32} {mn : Nat} {ar : Nat → Nat → Int32} {c j : Nat} {b a : Int32} (h : ¬ (ar 4 j = nI c ∧ ar 5 j = b)) (h2 : ar 3 j + st ≤ a) (h3 : ¬ ar 4 j = -1) : bidC st mn ar c j b a = sndA 1 (nI c) (nI j) b a (mn + 1, va_up (va_up (sndA 3 (ar 4 j) (nI j) (ar 5 j) a (mn, va_up ar 3 (upd (ar 3) j a))).2 4 (upd (ar 4) j (nI c))) 5 (upd (ar 5) j b)) := by
  unfold bidC; rw [if_neg h, if_neg (fun q => q h2), if_neg h3]
/-- another letter comes: what the crew knows -/
def knw (ar : Nat → Nat → Int32) (c j : Nat) (a : Int32) : Nat → Nat → Int32 := va_up ar 2 (upd (ar 2) (6 * c + j) (if ar 2 (6 * c + j) < a then a else ar 2 (6 * c + j)))
noncomputable def ansC (ar : Nat → Nat → Int32) (kd : Int32) (c j : Nat) (b a : Int32) : Nat → Nat → Int32 :=
  if b = ar 8 c then (if kd = nI 1 then va_up (knw ar c j a) 6 (upd (ar 6) c (if ar 6 c = nI 1 then nI 2 else ar 6 c)) else va_up (va_up (knw ar c j a) 6 (upd (ar 6) c (nI 0))) 7 (upd (ar 7) c (-1))) else knw ar c j a
theorem ansC_0 {ar : Nat → Nat → Int32} {kd : Int32} {c j : Nat} {b a : Int32} (h : ¬ b = ar 8 c) : ansC ar kd c j b a = knw ar c j a := by unfold ansC; rw [if_neg h]
theorem ansC_1 {ar : Nat → Nat → Int32} {kd : Int32} {c j : Nat} {b a : Int32} (h : b = ar 8 c) (h2 : kd = nI 1) : ansC ar kd c j b a = va_up (knw ar c j a) 6 (upd (ar 6) c (if ar 6 c = nI 1 then nI 2 else ar 6 c)) := by unfold ansC; rw [if_pos h, if_pos h2]
theorem ansC_2 {ar : Nat → Nat → Int32} {kd : Int32} {c j : Nat} {b a : Int32} (h : b = ar 8 c) (h2 : ¬ kd = nI 1) : ansC ar kd c j b a = va_up (va_up (knw ar c j a) 6 (upd (ar 6) c (nI 0))) 7 (upd (ar 7) c (-1)) := by unfold ansC; rw [if_pos h, if_neg h2]
/-- some crew has bid -/
def SB (ar : Nat → Nat → Int32) (k : Nat) : Prop := ∃ c, c < k ∧ 0 < ar 8 c
theorem SB_1 {ar : Nat → Nat → Int32} {k : Nat} (h : SB ar k) : SB ar (k + 1) := by obtain ⟨c, h1, h2⟩ := h; exact ⟨c, by omega, h2⟩
theorem SB_2 {ar : Nat → Nat → Int32} {k : Nat} (h : ¬ ar 8 k ≤ 0) : SB ar (k + 1) := ⟨k, by omega, Int32.not_le.mp h⟩
theorem SB_3 {ar : Nat → Nat → Int32} {k : Nat} (h : ¬ SB ar k) (h2 : ar 8 k ≤ 0) : ¬ SB ar (k + 1) := by
  rintro ⟨c, h1, h3⟩
  by_cases e : c = k
  · subst e; exact Int32.not_lt.mpr h2 h3
  · exact h ⟨c, by omega, h3⟩

set_option maxHeartbeats 4000000 in
set_option maxRecDepth 100000 in
theorem m_phase_x1 (l : Launch) (D : va_G) (cI cC cD : ClassId) (ad : Nat → Nat) (th : Int32) (n : Nat) (st : Int32) (mn : Nat) (ar : Nat → Nat → Int32) (hn : n ≤ 6) (hT : HT ar n) (hs : ¬ stl ar n) : RM l yX4_phase cX4_phase 1 (some .int) ({ frames := 1, cells := 0, slots := 0, locals := 23 }) D (ty3 cI cC cD) EN0 [.ref (ad 0)] ad 12 (mE ad cI th n st mn ar) (mE ad cI (nI 1) n st mn ar) (some (.int (nI 0))) := by
  refine RM.of (by decide) (Nat.le_of_ble_eq_true rfl) ?_
  intro p e s m below meth c0 A ls args Q0 S hr hlk hQ wb hl
  have hx := S.1
  have hb := S.2.1
  have hl : lv_has ls 1 [(0, .ref (ad 0))] := hl
  refine lv_aload_n hx hb dX4_phase_0 rfl (lv_at hl 0 rfl) ?_
  refine lv_aload_n hx hb dX4_phase_1 rfl (lv_at hl 0 rfl) ?_
  refine rb_callV S wb EN0_ok (m_isSettled l D cI cC cD ad th n st mn ar hn hT (nI 0) (tells_f hs)) (bw5 bw_516 bw_518 bw_22 bw_37 bw_519) (rb_recv wb 0 (by decide) rfl rfl) hdX4_isSettled rfl ⟨rfl, rfl⟩ ⟨by decide, by decide⟩ hl.1 (Nat.le_of_ble_eq_true rfl) ⟨Nat.zero_le _, Nat.zero_le _⟩ (rest := [.ref (ad 0)]) (st1 := [.int (nI 0), .ref (ad 0)]) rfl rfl dX4_phase_2 (fun H locs wb => ?_)
  refine lv_if_eq (tgt := 16) hx hb dX4_phase_5 (by decide) (fun h5 => ?_) (fun h5 => absurd (by decide) h5)
  refine lv_iconst (v := nI 1) hx hb dX4_phase_16 (by decide) ?_
  refine lv_goto (tgt := 21) hx hb dX4_phase_17 (by decide) ?_
  refine rb_put (E' := mE ad cI (nI 1) n st mn ar) S wb 0 (by decide) rfl rfl in4 tyX4 tyX4_ok nmX4 0 (by decide) bw_462 rfl rfl rfl (Nat.le_of_ble_eq_true rfl) (m12 rfl rfl rfl rfl rfl rfl rfl rfl rfl rfl rfl rfl) dX4_phase_21 (fun H locs wb => ?_)
  refine lv_aload_n hx hb dX4_phase_24 rfl (lv_at hl 0 rfl) ?_
  refine rb_get S wb 0 (by decide) rfl rfl in4 0 (by decide) bw_462 rfl dX4_phase_25 ?_
  refine lv_if_eq (tgt := 33) hx hb dX4_phase_28 (by decide) (fun h28 => absurd h28 (by decide)) (fun h28 => ?_)
  refine lv_iconst (v := nI 0) hx hb dX4_phase_31 (by decide) ?_
  exact rb_iret S hr hlk hQ rfl wb (m12 rfl rfl rfl rfl rfl rfl rfl rfl rfl rfl rfl rfl) dX4_phase_32

set_option maxHeartbeats 4000000 in
set_option maxRecDepth 100000 in
theorem m_phase_x2 (l : Launch) (D : va_G) (cI cC cD : ClassId) (ad : Nat → Nat) (th : Int32) (n : Nat) (st : Int32) (mn : Nat) (ar : Nat → Nat → Int32) (hn : n ≤ 6) (hT : HT ar n) (hs : stl ar n) (h1 : st = nI 1) : RM l yX4_phase cX4_phase 1 (some .int) ({ frames := 1, cells := 0, slots := 0, locals := 23 }) D (ty3 cI cC cD) EN0 [.ref (ad 0)] ad 12 (mE ad cI th n st mn ar) (mE ad cI (nI 1) n st mn ar) (some (.int (nI 0))) := by
  refine RM.of (by decide) (Nat.le_of_ble_eq_true rfl) ?_
  intro p e s m below meth c0 A ls args Q0 S hr hlk hQ wb hl
  have hx := S.1
  have hb := S.2.1
  have hl : lv_has ls 1 [(0, .ref (ad 0))] := hl
  refine lv_aload_n hx hb dX4_phase_0 rfl (lv_at hl 0 rfl) ?_
  refine lv_aload_n hx hb dX4_phase_1 rfl (lv_at hl 0 rfl) ?_
  refine rb_callV S wb EN0_ok (m_isSettled l D cI cC cD ad th n st mn ar hn hT (nI 1) (tells_t hs)) (bw5 bw_516 bw_518 bw_22 bw_37 bw_519) (rb_recv wb 0 (by decide) rfl rfl) hdX4_isSettled rfl ⟨rfl, rfl⟩ ⟨by decide, by decide⟩ hl.1 (Nat.le_of_ble_eq_true rfl) ⟨Nat.zero_le _, Nat.zero_le _⟩ (rest := [.ref (ad 0)]) (st1 := [.int (nI 1), .ref (ad 0)]) rfl rfl dX4_phase_2 (fun H locs wb => ?_)
  refine lv_if_eq (tgt := 16) hx hb dX4_phase_5 (by decide) (fun h5 => absurd h5 (by decide)) (fun h5 => ?_)
  refine lv_aload_n hx hb dX4_phase_8 rfl (lv_at hl 0 rfl) ?_
  refine rb_get S wb 0 (by decide) rfl rfl in4 2 (by decide) bw_464 rfl dX4_phase_9 ?_
  refine lv_iconst (v := nI 1) hx hb dX4_phase_12 (by decide) ?_
  refine lv_icmp_ne (tgt := 20) hx hb dX4_phase_13 (by decide) (fun h13 => absurd h1 h13) (fun h13 => ?_)
  refine lv_iconst (v := nI 1) hx hb dX4_phase_16 (by decide) ?_
  refine lv_goto (tgt := 21) hx hb dX4_phase_17 (by decide) ?_
  refine rb_put (E' := mE ad cI (nI 1) n st mn ar) S wb 0 (by decide) rfl rfl in4 tyX4 tyX4_ok nmX4 0 (by decide) bw_462 rfl rfl rfl (Nat.le_of_ble_eq_true rfl) (m12 rfl rfl rfl rfl rfl rfl rfl rfl rfl rfl rfl rfl) dX4_phase_21 (fun H locs wb => ?_)
  refine lv_aload_n hx hb dX4_phase_24 rfl (lv_at hl 0 rfl) ?_
  refine rb_get S wb 0 (by decide) rfl rfl in4 0 (by decide) bw_462 rfl dX4_phase_25 ?_
  refine lv_if_eq (tgt := 33) hx hb dX4_phase_28 (by decide) (fun h28 => absurd h28 (by decide)) (fun h28 => ?_)
  refine lv_iconst (v := nI 0) hx hb dX4_phase_31 (by decide) ?_
  exact rb_iret S hr hlk hQ rfl wb (m12 rfl rfl rfl rfl rfl rfl rfl rfl rfl rfl rfl rfl) dX4_phase_32

set_option maxHeartbeats 4000000 in
set_option maxRecDepth 100000 in
theorem m_phase (l : Launch) (D : va_G) (cI cC cD : ClassId) (ad : Nat → Nat) (th : Int32) (n : Nat) (st : Int32) (mn : Nat) (ar : Nat → Nat → Int32) (hn : n ≤ 6) (hT : HT ar n) (hs : stl ar n) (h1 : ¬ st = nI 1) : RM l yX4_phase cX4_phase 1 (some .int) ({ frames := 1, cells := 0, slots := 0, locals := 23 }) D (ty3 cI cC cD) EN0 [.ref (ad 0)] ad 12 (mE ad cI th n st mn ar) (mE ad cI (nI 0) n (st / nI 4) 0 (va_up (va_up (va_up (va_up ar 4 (fz (ar 4) 6 (-1))) 5 (fz (ar 5) 6 (nI 0))) 6 (fz (ar 6) 6 (nI 0))) 7 (fz (ar 7) 6 (-1)))) (some (.int (st / nI 4))) := by
  refine RM.of (by decide) (Nat.le_of_ble_eq_true rfl) ?_
  intro p e s m below meth c0 A ls args Q0 S hr hlk hQ wb hl
  have hx := S.1
  have hb := S.2.1
  have hl : lv_has ls 1 [(0, .ref (ad 0))] := hl
  refine lv_aload_n hx hb dX4_phase_0 rfl (lv_at hl 0 rfl) ?_
  refine lv_aload_n hx hb dX4_phase_1 rfl (lv_at hl 0 rfl) ?_
  refine rb_callV S wb EN0_ok (m_isSettled l D cI cC cD ad th n st mn ar hn hT (nI 1) (tells_t hs)) (bw5 bw_516 bw_518 bw_22 bw_37 bw_519) (rb_recv wb 0 (by decide) rfl rfl) hdX4_isSettled rfl ⟨rfl, rfl⟩ ⟨by decide, by decide⟩ hl.1 (Nat.le_of_ble_eq_true rfl) ⟨Nat.zero_le _, Nat.zero_le _⟩ (rest := [.ref (ad 0)]) (st1 := [.int (nI 1), .ref (ad 0)]) rfl rfl dX4_phase_2 (fun H locs wb => ?_)
  refine lv_if_eq (tgt := 16) hx hb dX4_phase_5 (by decide) (fun h5 => absurd h5 (by decide)) (fun h5 => ?_)
  refine lv_aload_n hx hb dX4_phase_8 rfl (lv_at hl 0 rfl) ?_
  refine rb_get S wb 0 (by decide) rfl rfl in4 2 (by decide) bw_464 rfl dX4_phase_9 ?_
  refine lv_iconst (v := nI 1) hx hb dX4_phase_12 (by decide) ?_
  refine lv_icmp_ne (tgt := 20) hx hb dX4_phase_13 (by decide) (fun h13 => ?_) (fun h13 => absurd h13 h1)
  refine lv_iconst (v := nI 0) hx hb dX4_phase_20 (by decide) ?_
  refine rb_put (E' := mE ad cI (nI 0) n st mn ar) S wb 0 (by decide) rfl rfl in4 tyX4 tyX4_ok nmX4 0 (by decide) bw_462 rfl rfl rfl (Nat.le_of_ble_eq_true rfl) (m12 rfl rfl rfl rfl rfl rfl rfl rfl rfl rfl rfl rfl) dX4_phase_21 (fun H locs wb => ?_)
  refine lv_aload_n hx hb dX4_phase_24 rfl (lv_at hl 0 rfl) ?_
  refine rb_get S wb 0 (by decide) rfl rfl in4 0 (by decide) bw_462 rfl dX4_phase_25 ?_
  refine lv_if_eq (tgt := 33) hx hb dX4_phase_28 (by decide) (fun h28 => ?_) (fun h28 => absurd (by decide) h28)
  refine lv_aload_n hx hb dX4_phase_33 rfl (lv_at hl 0 rfl) ?_
  refine rb_callV S wb EN0_ok (m_clean l D cI cC cD ad (nI 0) n st mn ar) (bw5 bw_458 bw_460 bw_21 bw_37 bw_461) (rb_recv wb 0 (by decide) rfl rfl) hdX4_clean rfl ⟨rfl, rfl⟩ ⟨by decide, by decide⟩ hl.1 (Nat.le_of_ble_eq_true rfl) ⟨Nat.zero_le _, Nat.zero_le _⟩ (rest := []) (st1 := []) rfl rfl dX4_phase_34 (fun H locs wb => ?_)
  refine lv_aload_n hx hb dX4_phase_37 rfl (lv_at hl 0 rfl) ?_
  refine lv_aload_n hx hb dX4_phase_38 rfl (lv_at hl 0 rfl) ?_
  refine rb_get S wb 0 (by decide) rfl rfl in4 2 (by decide) bw_464 rfl dX4_phase_39 ?_
  refine lv_iconst (v := nI 4) hx hb dX4_phase_42 (by decide) ?_
  refine lv_idiv hx hb dX4_phase_43 (by decide) ?_
  refine rb_put (E' := mE ad cI (nI 0) n (st / (nI 4)) 0 (va_up (va_up (va_up (va_up ar 4 (fz (ar 4) 6 (-1))) 5 (fz (ar 5) 6 (nI 0))) 6 (fz (ar 6) 6 (nI 0))) 7 (fz (ar 7) 6 (-1)))) S wb 0 (by decide) rfl rfl in4 tyX4 tyX4_ok nmX4 2 (by decide) bw_464 rfl rfl rfl (Nat.le_of_ble_eq_true rfl) (m12 rfl rfl rfl rfl rfl rfl rfl rfl rfl rfl rfl rfl) dX4_phase_44 (fun H locs wb => ?_)
  refine lv_aload_n hx hb dX4_phase_47 rfl (lv_at hl 0 rfl) ?_
  refine rb_get S wb 0 (by decide) rfl rfl in4 2 (by decide) bw_464 rfl dX4_phase_48 ?_
  exact rb_iret S hr hlk hQ rfl wb (m12 rfl rfl rfl rfl rfl rfl rfl rfl rfl rfl rfl rfl) dX4_phase_51

set_option maxHeartbeats 4000000 in
set_option maxRecDepth 100000 in
theorem m_total_x1 (l : Launch) (D : va_G) (cI cC cD : ClassId) (ad : Nat → Nat) (th : Int32) (n : Nat) (st : Int32) (mn : Nat) (ar : Nat → Nat → Int32) (hn : n ≤ 6) (hn2 : 2 ≤ n) (hT : HT ar n) (hs : ¬ stl ar n) : RM l yX4_total cX4_total 3 (some .int) ({ frames := 1, cells := 0, slots := 0, locals := 23 }) D (ty3 cI cC cD) EN0 [.ref (ad 0)] ad 12 (mE ad cI th n st mn ar) (mE ad cI (nI 1) n st mn ar) (some (.int (nI 0))) := by
  refine RM.of (by decide) (Nat.le_of_ble_eq_true rfl) ?_
  intro p e s m below meth c0 A ls args Q0 S hr hlk hQ wb hl
  have hx := S.1
  have hb := S.2.1
  have hl : lv_has ls 3 [(0, .ref (ad 0))] := hl
  refine lv_aload_n hx hb dX4_total_0 rfl (lv_at hl 0 rfl) ?_
  refine lv_aload_n hx hb dX4_total_1 rfl (lv_at hl 0 rfl) ?_
  refine rb_callV S wb EN0_ok (m_isSettled l D cI cC cD ad th n st mn ar hn hT (nI 0) (tells_f hs)) (bw5 bw_516 bw_518 bw_22 bw_37 bw_519) (rb_recv wb 0 (by decide) rfl rfl) hdX4_isSettled rfl ⟨rfl, rfl⟩ ⟨by decide, by decide⟩ hl.1 (Nat.le_of_ble_eq_true rfl) ⟨Nat.zero_le _, Nat.zero_le _⟩ (rest := [.ref (ad 0)]) (st1 := [.int (nI 0), .ref (ad 0)]) rfl rfl dX4_total_2 (fun H locs wb => ?_)
  refine lv_if_eq (tgt := 12) hx hb dX4_total_5 (by decide) (fun h5 => ?_) (fun h5 => absurd (by decide) h5)
  refine lv_iconst (v := nI 1) hx hb dX4_total_12 (by decide) ?_
  refine rb_put (E' := mE ad cI (nI 1) n st mn ar) S wb 0 (by decide) rfl rfl in4 tyX4 tyX4_ok nmX4 0 (by decide) bw_462 rfl rfl rfl (Nat.le_of_ble_eq_true rfl) (m12 rfl rfl rfl rfl rfl rfl rfl rfl rfl rfl rfl rfl) dX4_total_13 (fun H locs wb => ?_)
  refine lv_iconst (v := nI 0) hx hb dX4_total_16 (by decide) ?_
  refine lv_istore_n (lv' := [(1, .int (nI 0)), (0, .ref (ad 0))]) hx hb dX4_total_17 rfl hl (by decide) rfl (fun ls hl => ?_)
  refine lv_iconst (v := nI 0) hx hb dX4_total_18 (by decide) ?_
  refine lv_istore_n (lv' := [(2, .int (nI 0)), (1, .int (nI 0)), (0, .ref (ad 0))]) hx hb dX4_total_19 rfl hl (by decide) rfl (fun ls hl => ?_)
  refine lv_iload_n hx hb dX4_total_20 rfl (lv_at hl 0 rfl) ?_
  refine lv_aload_n hx hb dX4_total_21 rfl (lv_at hl 2 rfl) ?_
  refine rb_get S wb 0 (by decide) rfl rfl in4 1 (by decide) bw_463 rfl dX4_total_22 ?_
  refine nb_icmp_ge (tgt := 60) hx hb dX4_total_25 (by decide) (by omega) (by omega) (fun h25 => absurd h25 (by omega)) (fun h25 => ?_)
  refine lv_aload_n hx hb dX4_total_28 rfl (lv_at hl 2 rfl) ?_
  refine rb_get S wb 0 (by decide) rfl rfl in4 0 (by decide) bw_462 rfl dX4_total_29 ?_
  refine lv_if_ne (tgt := 60) hx hb dX4_total_32 (by decide) (fun h32 => ?_) (fun h32 => absurd h32 (by decide))
  refine lv_iload_n hx hb dX4_total_60 rfl (lv_at hl 1 rfl) ?_
  exact rb_iret S hr hlk hQ rfl wb (m12 rfl rfl rfl rfl rfl rfl rfl rfl rfl rfl rfl rfl) dX4_total_61

set_option maxHeartbeats 4000000 in
set_option maxRecDepth 100000 in
theorem m_total (l : Launch) (D : va_G) (cI cC cD : ClassId) (ad : Nat → Nat) (th : Int32) (n : Nat) (st : Int32) (mn : Nat) (ar : Nat → Nat → Int32) (hn : n ≤ 6) (hn2 : 2 ≤ n) (hT : HT ar n) (hs : stl ar n) : RM l yX4_total cX4_total 3 (some .int) ({ frames := 1, cells := 0, slots := 0, locals := 23 }) D (ty3 cI cC cD) EN0 [.ref (ad 0)] ad 12 (mE ad cI th n st mn ar) (mE ad cI (nI 0) n st mn ar) (some (.int (sm (fun c => ar 1 (6 * c + (ar 7 c).toNatClampNeg)) n))) := by
  refine RM.of (by decide) (Nat.le_of_ble_eq_true rfl) ?_
  intro p e s m below meth c0 A ls args Q0 S hr hlk hQ wb hl
  have hx := S.1
  have hb := S.2.1
  have hl : lv_has ls 3 [(0, .ref (ad 0))] := hl
  refine lv_aload_n hx hb dX4_total_0 rfl (lv_at hl 0 rfl) ?_
  refine lv_aload_n hx hb dX4_total_1 rfl (lv_at hl 0 rfl) ?_
  refine rb_callV S wb EN0_ok (m_isSettled l D cI cC cD ad th n st mn ar hn hT (nI 1) (tells_t hs)) (bw5 bw_516 bw_518 bw_22 bw_37 bw_519) (rb_recv wb 0 (by decide) rfl rfl) hdX4_isSettled rfl ⟨rfl, rfl⟩ ⟨by decide, by decide⟩ hl.1 (Nat.le_of_ble_eq_true rfl) ⟨Nat.zero_le _, Nat.zero_le _⟩ (rest := [.ref (ad 0)]) (st1 := [.int (nI 1), .ref (ad 0)]) rfl rfl dX4_total_2 (fun H locs wb => ?_)
  refine lv_if_eq (tgt := 12) hx hb dX4_total_5 (by decide) (fun h5 => absurd h5 (by decide)) (fun h5 => ?_)
  refine lv_iconst (v := nI 0) hx hb dX4_total_8 (by decide) ?_
  refine lv_goto (tgt := 13) hx hb dX4_total_9 (by decide) ?_
  refine rb_put (E' := mE ad cI (nI 0) n st mn ar) S wb 0 (by decide) rfl rfl in4 tyX4 tyX4_ok nmX4 0 (by decide) bw_462 rfl rfl rfl (Nat.le_of_ble_eq_true rfl) (m12 rfl rfl rfl rfl rfl rfl rfl rfl rfl rfl rfl rfl) dX4_total_13 (fun H locs wb => ?_)
  refine lv_iconst (v := nI 0) hx hb dX4_total_16 (by decide) ?_
  refine lv_istore_n (lv' := [(1, .int (nI 0)), (0, .ref (ad 0))]) hx hb dX4_total_17 rfl hl (by decide) rfl (fun ls hl => ?_)
  refine lv_iconst (v := nI 0) hx hb dX4_total_18 (by decide) ?_
  refine lv_istore_n (lv' := [(2, .int (nI 0)), (1, .int (nI 0)), (0, .ref (ad 0))]) hx hb dX4_total_19 rfl hl (by decide) rfl (fun ls hl => ?_)
  have L20 : ∀ (fuel : Nat) (c : Nat) (v : Int32) (hc : c ≤ n) (hfu : n < c + fuel) (hv : v = sm (fun c => ar 1 (6 * c + (ar 7 c).toNatClampNeg)) c) (H : Heap) (locs : List Loc) (wb : WB D (ty3 cI cC cD) EN0 ad 12 A s (mE ad cI (nI 0) n st mn ar) H locs) (ls : Array Slot) (hl : lv_has ls 3 [(0, .ref (ad 0)), (1, .int v), (2, .int (nI c))]), W p l e ({ frames := 1, cells := 0, slots := 0, locals := 23 }) s m args below meth c0 H locs 0 0 Q0 (F0 m 20 ls []) := by
    intro fuel
    induction fuel with
    | zero => intro c v hc hfu hv H locs wb ls hl; exact absurd hfu (by omega)
    | succ fuel ih =>
      intro c v hc hfu hv H locs wb ls hl
      refine lv_iload_n hx hb dX4_total_20 rfl (lv_at hl 2 rfl) ?_
      refine lv_aload_n hx hb dX4_total_21 rfl (lv_at hl 0 rfl) ?_
      refine rb_get S wb 0 (by decide) rfl rfl in4 1 (by decide) bw_463 rfl dX4_total_22 ?_
      refine nb_icmp_ge (tgt := 60) hx hb dX4_total_25 (by decide) (by omega) (by omega) (fun h25 => ?_) (fun h25 => ?_)
      · refine lv_iload_n hx hb dX4_total_60 rfl (lv_at hl 1 rfl) ?_
        have hcn : c = n := by omega
        subst hcn
        exact rb_iret S hr hlk hQ hv.symm wb (m12 rfl rfl rfl rfl rfl rfl rfl rfl rfl rfl rfl rfl) dX4_total_61
      · obtain ⟨t, ht6, et, ett⟩ := HT_x hT h25 (hs c h25).1
        refine lv_aload_n hx hb dX4_total_28 rfl (lv_at hl 0 rfl) ?_
        refine rb_get S wb 0 (by decide) rfl rfl in4 0 (by decide) bw_462 rfl dX4_total_29 ?_
        refine lv_if_ne (tgt := 60) hx hb dX4_total_32 (by decide) (fun h32 => absurd (by decide) h32) (fun h32 => ?_)
        refine lv_iload_n hx hb dX4_total_35 rfl (lv_at hl 1 rfl) ?_
        refine lv_aload_n hx hb dX4_total_36 rfl (lv_at hl 0 rfl) ?_
        refine rb_get S wb 0 (by decide) rfl rfl in4 3 (by decide) bw_465 rfl dX4_total_37 ?_
        refine lv_bipush (v := nI 6) hx hb dX4_total_40 (by decide) ?_
        refine lv_iload_n hx hb dX4_total_42 rfl (lv_at hl 2 rfl) ?_
        refine lv_imul hx hb dX4_total_43 ?_
        refine nb_ren (y := nI (6 * c)) (pk_mul _ _) ?_
        refine lv_aload_n hx hb dX4_total_44 rfl (lv_at hl 0 rfl) ?_
        refine rb_get S wb 0 (by decide) rfl rfl in4 9 (by decide) bw_471 rfl dX4_total_45 ?_
        refine lv_iload_n hx hb dX4_total_48 rfl (lv_at hl 2 rfl) ?_
        refine rb_ald (n := 6) (f := ar 7) (x := ar 7 c) S wb 7 (by decide) rfl 0 rfl c (by omega) (by decide) rfl dX4_total_49 ?_
        refine nb_ren (y := nI t) et ?_
        refine lv_iadd hx hb dX4_total_50 ?_
        refine nb_ren (y := nI (6 * c + t)) (nI_add _ _) ?_
        refine rb_ald (n := 36) (f := ar 1) (x := ar 1 (6 * c + t)) S wb 1 (by decide) rfl 0 rfl (6 * c + t) (by omega) (by decide) rfl dX4_total_51 ?_
        refine lv_iadd hx hb dX4_total_52 ?_
        refine lv_istore_n (lv' := [(1, .int (v + (ar 1 (6 * c + t)))), (0, .ref (ad 0)), (2, .int (nI c))]) hx hb dX4_total_53 rfl hl (by decide) rfl (fun ls hl => ?_)
        refine lv_iinc (v := nI (c + 1)) (lv' := [(2, .int (nI (c + 1))), (1, .int (v + (ar 1 (6 * c + t)))), (0, .ref (ad 0))]) hx hb dX4_total_54 hl (k := 2) rfl (nI_s1 _) (by decide) rfl (fun ls hl => ?_)
        refine lv_goto (tgt := 20) hx hb dX4_total_57 (by decide) ?_
        exact ih (c + 1) (v + (ar 1 (6 * c + t))) (by omega) (by omega) (sm_s hv (by show ar 1 (6 * c + (ar 7 c).toNatClampNeg) = _; rw [ett])) _ _ wb ls (lv_sub hl [2, 1, 0] rfl)
  exact L20 (n + 1) 0 (nI 0) (by omega) (by omega) nI_0 _ _ wb ls (lv_sub hl [2, 1, 0] rfl)

set_option maxHeartbeats 4000000 in
set_option maxRecDepth 100000 in
theorem m_proves_x1 (l : Launch) (D : va_G) (cI cC cD : ClassId) (ad : Nat → Nat) (th : Int32) (n : Nat) (st : Int32) (mn : Nat) (ar : Nat → Nat → Int32) (hn : n ≤ 6) (hn2 : 2 ≤ n) (hT : HT ar n) (hs : ¬ stl ar n) : RM l yX4_proves cX4_proves 3 (some .boolean) ({ frames := 1, cells := 0, slots := 0, locals := 24 }) D (ty3 cI cC cD) EN0 [.ref (ad 0)] ad 12 (mE ad cI th n st mn ar) (mE ad cI (nI 1) n st mn ar) (some (.int (nI 0))) := by
  refine RM.of (by decide) (Nat.le_of_ble_eq_true rfl) ?_
  intro p e s m below meth c0 A ls args Q0 S hr hlk hQ wb hl
  have hx := S.1
  have hb := S.2.1
  have hl : lv_has ls 3 [(0, .ref (ad 0))] := hl
  refine lv_aload_n hx hb dX4_proves_0 rfl (lv_at hl 0 rfl) ?_
  refine lv_aload_n hx hb dX4_proves_1 rfl (lv_at hl 0 rfl) ?_
  refine rb_callV S wb EN0_ok (m_isSettled l D cI cC cD ad th n st mn ar hn hT (nI 0) (tells_f hs)) (bw5 bw_516 bw_518 bw_22 bw_37 bw_519) (rb_recv wb 0 (by decide) rfl rfl) hdX4_isSettled rfl ⟨rfl, rfl⟩ ⟨by decide, by decide⟩ hl.1 (Nat.le_of_ble_eq_true rfl) ⟨Nat.zero_le _, Nat.zero_le _⟩ (rest := [.ref (ad 0)]) (st1 := [.int (nI 0), .ref (ad 0)]) rfl rfl dX4_proves_2 (fun H locs wb => ?_)
  refine lv_if_eq (tgt := 12) hx hb dX4_proves_5 (by decide) (fun h5 => ?_) (fun h5 => absurd (by decide) h5)
  refine lv_iconst (v := nI 1) hx hb dX4_proves_12 (by decide) ?_
  refine rb_put (E' := mE ad cI (nI 1) n st mn ar) S wb 0 (by decide) rfl rfl in4 tyX4 tyX4_ok nmX4 0 (by decide) bw_462 rfl rfl rfl (Nat.le_of_ble_eq_true rfl) (m12 rfl rfl rfl rfl rfl rfl rfl rfl rfl rfl rfl rfl) dX4_proves_13 (fun H locs wb => ?_)
  refine lv_iconst (v := nI 0) hx hb dX4_proves_16 (by decide) ?_
  refine lv_istore_n (lv' := [(1, .int (nI 0)), (0, .ref (ad 0))]) hx hb dX4_proves_17 rfl hl (by decide) rfl (fun ls hl => ?_)
  refine lv_iconst (v := nI 0) hx hb dX4_proves_18 (by decide) ?_
  refine lv_istore_n (lv' := [(2, .int (nI 0)), (1, .int (nI 0)), (0, .ref (ad 0))]) hx hb dX4_proves_19 rfl hl (by decide) rfl (fun ls hl => ?_)
  refine lv_iload_n hx hb dX4_proves_20 rfl (lv_at hl 0 rfl) ?_
  refine lv_aload_n hx hb dX4_proves_21 rfl (lv_at hl 2 rfl) ?_
  refine rb_get S wb 0 (by decide) rfl rfl in4 1 (by decide) bw_463 rfl dX4_proves_22 ?_
  refine nb_icmp_ge (tgt := 80) hx hb dX4_proves_25 (by decide) (by omega) (by omega) (fun h25 => absurd h25 (by omega)) (fun h25 => ?_)
  refine lv_aload_n hx hb dX4_proves_28 rfl (lv_at hl 2 rfl) ?_
  refine rb_get S wb 0 (by decide) rfl rfl in4 0 (by decide) bw_462 rfl dX4_proves_29 ?_
  refine lv_if_ne (tgt := 80) hx hb dX4_proves_32 (by decide) (fun h32 => ?_) (fun h32 => absurd h32 (by decide))
  refine lv_aload_n hx hb dX4_proves_80 rfl (lv_at hl 2 rfl) ?_
  refine rb_get S wb 0 (by decide) rfl rfl in4 0 (by decide) bw_462 rfl dX4_proves_81 ?_
  refine lv_if_ne (tgt := 101) hx hb dX4_proves_84 (by decide) (fun h84 => ?_) (fun h84 => absurd h84 (by decide))
  refine lv_iconst (v := nI 0) hx hb dX4_proves_101 (by decide) ?_
  exact rb_zret S hr hlk hQ rfl (by first | exact Or.inl rfl | exact Or.inr rfl) wb (m12 rfl rfl rfl rfl rfl rfl rfl rfl rfl rfl rfl rfl) dX4_proves_102

set_option maxHeartbeats 4000000 in
set_option maxRecDepth 100000 in
theorem m_proves (l : Launch) (D : va_G) (cI cC cD : ClassId) (ad : Nat → Nat) (th : Int32) (n : Nat) (st : Int32) (mn : Nat) (ar : Nat → Nat → Int32) (hn : n ≤ 6) (hn2 : 2 ≤ n) (hT : HT ar n) (hs : stl ar n) (r : Int32) (hr0 : tells r (sm (fun c => ar 3 c + pf (fun j => ar 1 (6 * c + j) * nI (n + 1) - ar 3 j) (n - 1) - ar 1 (6 * c + (ar 7 c).toNatClampNeg) * nI (n + 1)) n < nI (n + 1))) : RM l yX4_proves cX4_proves 3 (some .boolean) ({ frames := 1, cells := 0, slots := 0, locals := 24 }) D (ty3 cI cC cD) EN0 [.ref (ad 0)] ad 12 (mE ad cI th n st mn ar) (mE ad cI (nI 0) n st mn ar) (some (.int r)) := by
  refine RM.of (by decide) (Nat.le_of_ble_eq_true rfl) ?_
  intro p e s m below meth c0 A ls args Q0 S hr hlk hQ wb hl
  have hx := S.1
  have hb := S.2.1
  have hl : lv_has ls 3 [(0, .ref (ad 0))] := hl
  refine lv_aload_n hx hb dX4_proves_0 rfl (lv_at hl 0 rfl) ?_
  refine lv_aload_n hx hb dX4_proves_1 rfl (lv_at hl 0 rfl) ?_
  refine rb_callV S wb EN0_ok (m_isSettled l D cI cC cD ad th n st mn ar hn hT (nI 1) (tells_t hs)) (bw5 bw_516 bw_518 bw_22 bw_37 bw_519) (rb_recv wb 0 (by decide) rfl rfl) hdX4_isSettled rfl ⟨rfl, rfl⟩ ⟨by decide, by decide⟩ hl.1 (Nat.le_of_ble_eq_true rfl) ⟨Nat.zero_le _, Nat.zero_le _⟩ (rest := [.ref (ad 0)]) (st1 := [.int (nI 1), .ref (ad 0)]) rfl rfl dX4_proves_2 (fun H locs wb => ?_)
  refine lv_if_eq (tgt := 12) hx hb dX4_proves_5 (by decide) (fun h5 => absurd h5 (by decide)) (fun h5 => ?_)
  refine lv_iconst (v := nI 0) hx hb dX4_proves_8 (by decide) ?_
  refine lv_goto (tgt := 13) hx hb dX4_proves_9 (by decide) ?_
  refine rb_put (E' := mE ad cI (nI 0) n st mn ar) S wb 0 (by decide) rfl rfl in4 tyX4 tyX4_ok nmX4 0 (by decide) bw_462 rfl rfl rfl (Nat.le_of_ble_eq_true rfl) (m12 rfl rfl rfl rfl rfl rfl rfl rfl rfl rfl rfl rfl) dX4_proves_13 (fun H locs wb => ?_)
  refine lv_iconst (v := nI 0) hx hb dX4_proves_16 (by decide) ?_
  refine lv_istore_n (lv' := [(1, .int (nI 0)), (0, .ref (ad 0))]) hx hb dX4_proves_17 rfl hl (by decide) rfl (fun ls hl => ?_)
  refine lv_iconst (v := nI 0) hx hb dX4_proves_18 (by decide) ?_
  refine lv_istore_n (lv' := [(2, .int (nI 0)), (1, .int (nI 0)), (0, .ref (ad 0))]) hx hb dX4_proves_19 rfl hl (by decide) rfl (fun ls hl => ?_)
  have L20 : ∀ (fuel : Nat) (c : Nat) (v : Int32) (hc : c ≤ n) (hfu : n < c + fuel) (hv : v = sm (fun c => ar 3 c + pf (fun j => ar 1 (6 * c + j) * nI (n + 1) - ar 3 j) (n - 1) - ar 1 (6 * c + (ar 7 c).toNatClampNeg) * nI (n + 1)) c) (H : Heap) (locs : List Loc) (wb : WB D (ty3 cI cC cD) EN0 ad 12 A s (mE ad cI (nI 0) n st mn ar) H locs) (ls : Array Slot) (hl : lv_has ls 3 [(0, .ref (ad 0)), (1, .int v), (2, .int (nI c))]), W p l e ({ frames := 1, cells := 0, slots := 0, locals := 24 }) s m args below meth c0 H locs 0 0 Q0 (F0 m 20 ls []) := by
    intro fuel
    induction fuel with
    | zero => intro c v hc hfu hv H locs wb ls hl; exact absurd hfu (by omega)
    | succ fuel ih =>
      intro c v hc hfu hv H locs wb ls hl
      refine lv_iload_n hx hb dX4_proves_20 rfl (lv_at hl 2 rfl) ?_
      refine lv_aload_n hx hb dX4_proves_21 rfl (lv_at hl 0 rfl) ?_
      refine rb_get S wb 0 (by decide) rfl rfl in4 1 (by decide) bw_463 rfl dX4_proves_22 ?_
      refine nb_icmp_ge (tgt := 80) hx hb dX4_proves_25 (by decide) (by omega) (by omega) (fun h25 => ?_) (fun h25 => ?_)
      · have hcn : c = n := by omega
        rw [hcn] at hv
        refine lv_aload_n hx hb dX4_proves_80 rfl (lv_at hl 0 rfl) ?_
        refine rb_get S wb 0 (by decide) rfl rfl in4 0 (by decide) bw_462 rfl dX4_proves_81 ?_
        refine lv_if_ne (tgt := 101) hx hb dX4_proves_84 (by decide) (fun h84 => absurd (by decide) h84) (fun h84 => ?_)
        refine lv_iload_n hx hb dX4_proves_87 rfl (lv_at hl 1 rfl) ?_
        refine lv_aload_n hx hb dX4_proves_88 rfl (lv_at hl 0 rfl) ?_
        refine rb_get S wb 0 (by decide) rfl rfl in4 1 (by decide) bw_463 rfl dX4_proves_89 ?_
        refine lv_iconst (v := nI 1) hx hb dX4_proves_92 (by decide) ?_
        refine lv_iadd hx hb dX4_proves_93 ?_
        refine nb_ren (y := nI (n + 1)) (nI_add _ _) ?_
        refine lv_icmp_ge (tgt := 101) hx hb dX4_proves_94 (by decide) (fun h94 => ?_) (fun h94 => ?_)
        · refine lv_iconst (v := nI 0) hx hb dX4_proves_101 (by decide) ?_
          exact rb_zret S hr hlk hQ (by first | exact tells_u hr0 (tells_f (fun q => Int32.not_lt.mpr h94 (by rw [hv]; exact q))) | exact tells_u hr0 (tells_t (by rw [← hv]; exact Int32.not_le.mp h94))) (by first | exact Or.inl rfl | exact Or.inr rfl) wb (m12 rfl rfl rfl rfl rfl rfl rfl rfl rfl rfl rfl rfl) dX4_proves_102
        · refine lv_iconst (v := nI 1) hx hb dX4_proves_97 (by decide) ?_
          refine lv_goto (tgt := 102) hx hb dX4_proves_98 (by decide) ?_
          exact rb_zret S hr hlk hQ (by first | exact tells_u hr0 (tells_f (fun q => Int32.not_lt.mpr h94 (by rw [hv]; exact q))) | exact tells_u hr0 (tells_t (by rw [← hv]; exact Int32.not_le.mp h94))) (by first | exact Or.inl rfl | exact Or.inr rfl) wb (m12 rfl rfl rfl rfl rfl rfl rfl rfl rfl rfl rfl rfl) dX4_proves_102
      · obtain ⟨t, ht6, et, ett⟩ := HT_x hT h25 (hs c h25).1
        refine lv_aload_n hx hb dX4_proves_28 rfl (lv_at hl 0 rfl) ?_
        refine rb_get S wb 0 (by decide) rfl rfl in4 0 (by decide) bw_462 rfl dX4_proves_29 ?_
        refine lv_if_ne (tgt := 80) hx hb dX4_proves_32 (by decide) (fun h32 => absurd (by decide) h32) (fun h32 => ?_)
        refine lv_iload_n hx hb dX4_proves_35 rfl (lv_at hl 1 rfl) ?_
        refine lv_aload_n hx hb dX4_proves_36 rfl (lv_at hl 0 rfl) ?_
        refine rb_get S wb 0 (by decide) rfl rfl in4 5 (by decide) bw_467 rfl dX4_proves_37 ?_
        refine lv_iload_n hx hb dX4_proves_40 rfl (lv_at hl 2 rfl) ?_
        refine rb_ald (n := 6) (f := ar 3) (x := ar 3 c) S wb 3 (by decide) rfl 0 rfl c (by omega) (by decide) rfl dX4_proves_41 ?_
        refine lv_aload_n hx hb dX4_proves_42 rfl (lv_at hl 0 rfl) ?_
        refine lv_iload_n hx hb dX4_proves_43 rfl (lv_at hl 2 rfl) ?_
        refine rb_callV S wb EN0_ok (m_profitOf l D cI cC cD ad (nI 0) n st mn ar c (by omega) (by omega) (by omega)) (bw5 bw_580 bw_582 bw_30 bw_37 bw_583) (rb_recv wb 0 (by decide) rfl rfl) hdX4_profitOf rfl ⟨rfl, rfl⟩ ⟨by decide, by decide⟩ hl.1 (Nat.le_of_ble_eq_true rfl) ⟨Nat.zero_le _, Nat.zero_le _⟩ (rest := [.int (ar 3 c), .int v]) (st1 := [.int (pf (fun j => ar 1 (6 * c + j) * nI (n + 1) - ar 3 j) (n - 1)), .int (ar 3 c), .int v]) rfl rfl dX4_proves_44 (fun H locs wb => ?_)
        refine lv_iadd hx hb dX4_proves_47 ?_
        refine lv_aload_n hx hb dX4_proves_48 rfl (lv_at hl 0 rfl) ?_
        refine rb_get S wb 0 (by decide) rfl rfl in4 3 (by decide) bw_465 rfl dX4_proves_49 ?_
        refine lv_bipush (v := nI 6) hx hb dX4_proves_52 (by decide) ?_
        refine lv_iload_n hx hb dX4_proves_54 rfl (lv_at hl 2 rfl) ?_
        refine lv_imul hx hb dX4_proves_55 ?_
        refine nb_ren (y := nI (6 * c)) (pk_mul _ _) ?_
        refine lv_aload_n hx hb dX4_proves_56 rfl (lv_at hl 0 rfl) ?_
        refine rb_get S wb 0 (by decide) rfl rfl in4 9 (by decide) bw_471 rfl dX4_proves_57 ?_
        refine lv_iload_n hx hb dX4_proves_60 rfl (lv_at hl 2 rfl) ?_
        refine rb_ald (n := 6) (f := ar 7) (x := ar 7 c) S wb 7 (by decide) rfl 0 rfl c (by omega) (by decide) rfl dX4_proves_61 ?_
        refine nb_ren (y := nI t) et ?_
        refine lv_iadd hx hb dX4_proves_62 ?_
        refine nb_ren (y := nI (6 * c + t)) (nI_add _ _) ?_
        refine rb_ald (n := 36) (f := ar 1) (x := ar 1 (6 * c + t)) S wb 1 (by decide) rfl 0 rfl (6 * c + t) (by omega) (by decide) rfl dX4_proves_63 ?_
        refine lv_aload_n hx hb dX4_proves_64 rfl (lv_at hl 0 rfl) ?_
        refine rb_get S wb 0 (by decide) rfl rfl in4 1 (by decide) bw_463 rfl dX4_proves_65 ?_
        refine lv_iconst (v := nI 1) hx hb dX4_proves_68 (by decide) ?_
        refine lv_iadd hx hb dX4_proves_69 ?_
        refine nb_ren (y := nI (n + 1)) (nI_add _ _) ?_
        refine lv_imul hx hb dX4_proves_70 ?_
        refine lv_isub hx hb dX4_proves_71 ?_
        refine lv_iadd hx hb dX4_proves_72 ?_
        refine lv_istore_n (lv' := [(1, .int (v + (((ar 3 c) + (pf (fun j => ar 1 (6 * c + j) * nI (n + 1) - ar 3 j) (n - 1))) - ((ar 1 (6 * c + t)) * (nI (n + 1)))))), (0, .ref (ad 0)), (2, .int (nI c))]) hx hb dX4_proves_73 rfl hl (by decide) rfl (fun ls hl => ?_)
        refine lv_iinc (v := nI (c + 1)) (lv' := [(2, .int (nI (c + 1))), (1, .int (v + (((ar 3 c) + (pf (fun j => ar 1 (6 * c + j) * nI (n + 1) - ar 3 j) (n - 1))) - ((ar 1 (6 * c + t)) * (nI (n + 1)))))), (0, .ref (ad 0))]) hx hb dX4_proves_74 hl (k := 2) rfl (nI_s1 _) (by decide) rfl (fun ls hl => ?_)
        refine lv_goto (tgt := 20) hx hb dX4_proves_77 (by decide) ?_
        exact ih (c + 1) (v + (((ar 3 c) + (pf (fun j => ar 1 (6 * c + j) * nI (n + 1) - ar 3 j) (n - 1))) - ((ar 1 (6 * c + t)) * (nI (n + 1))))) (by omega) (by omega) (sm_s hv (by show ar 3 c + _ - ar 1 (6 * c + (ar 7 c).toNatClampNeg) * _ = _; rw [ett])) _ _ wb ls (lv_sub hl [2, 1, 0] rfl)
  exact L20 (n + 1) 0 (nI 0) (by omega) (by omega) nI_0 _ _ wb ls (lv_sub hl [2, 1, 0] rfl)

set_option maxHeartbeats 4000000 in
set_option maxRecDepth 100000 in
theorem m_act_x1 (l : Launch) (D : va_G) (cI cC cD : ClassId) (ad : Nat → Nat) (th : Int32) (n : Nat) (st : Int32) (mn : Nat) (ar : Nat → Nat → Int32) (x : Int32) (hn : n ≤ 6) (hx0 : x < 0 ∨ nI n ≤ x) : RM l yX4_act cX4_act 5 (some .int) ({ frames := 1, cells := 0, slots := 0, locals := 26 }) D (ty3 cI cC cD) EN0 [.ref (ad 0), .int x] ad 12 (mE ad cI th n st mn ar) (mE ad cI (nI 1) n st mn ar) (some (.int (nI 0))) := by
  refine RM.of (by decide) (Nat.le_of_ble_eq_true rfl) ?_
  intro p e s m below meth c0 A ls args Q0 S hr hlk hQ wb hl
  have hx := S.1
  have hb := S.2.1
  have hl : lv_has ls 5 [(0, .ref (ad 0)), (1, .int x)] := hl
  refine lv_aload_n hx hb dX4_act_0 rfl (lv_at hl 0 rfl) ?_
  refine lv_aload_n hx hb dX4_act_1 rfl (lv_at hl 0 rfl) ?_
  refine lv_iload_n hx hb dX4_act_2 rfl (lv_at hl 1 rfl) ?_
  refine rb_callV S wb EN0_ok (m_no_t l D cI cC cD ad th n st mn ar x (nI 1) (tells_t hx0)) (bw5 bw_520 bw_522 bw_23 bw_37 bw_523) (rb_recv wb 0 (by decide) rfl rfl) hdX4_no rfl ⟨rfl, rfl⟩ ⟨by decide, by decide⟩ hl.1 (Nat.le_of_ble_eq_true rfl) ⟨Nat.zero_le _, Nat.zero_le _⟩ (rest := [.ref (ad 0)]) (st1 := [.int (nI 1), .ref (ad 0)]) rfl rfl dX4_act_3 (fun H locs wb => ?_)
  refine lv_if_eq (tgt := 13) hx hb dX4_act_6 (by decide) (fun h6 => absurd h6 (by decide)) (fun h6 => ?_)
  refine lv_iconst (v := nI 1) hx hb dX4_act_9 (by decide) ?_
  refine lv_goto (tgt := 36) hx hb dX4_act_10 (by decide) ?_
  refine rb_put (E' := mE ad cI (nI 1) n st mn ar) S wb 0 (by decide) rfl rfl in4 tyX4 tyX4_ok nmX4 0 (by decide) bw_462 rfl rfl rfl (Nat.le_of_ble_eq_true rfl) (m12 rfl rfl rfl rfl rfl rfl rfl rfl rfl rfl rfl rfl) dX4_act_36 (fun H locs wb => ?_)
  refine lv_aload_n hx hb dX4_act_39 rfl (lv_at hl 0 rfl) ?_
  refine rb_get S wb 0 (by decide) rfl rfl in4 0 (by decide) bw_462 rfl dX4_act_40 ?_
  refine lv_if_eq (tgt := 48) hx hb dX4_act_43 (by decide) (fun h43 => absurd h43 (by decide)) (fun h43 => ?_)
  refine lv_iconst (v := nI 0) hx hb dX4_act_46 (by decide) ?_
  exact rb_iret S hr hlk hQ rfl wb (m12 rfl rfl rfl rfl rfl rfl rfl rfl rfl rfl rfl rfl) dX4_act_47

set_option maxHeartbeats 4000000 in
set_option maxRecDepth 100000 in
theorem m_act_x2 (l : Launch) (D : va_G) (cI cC cD : ClassId) (ad : Nat → Nat) (th : Int32) (n : Nat) (st : Int32) (mn : Nat) (ar : Nat → Nat → Int32) (c : Nat) (hn : n ≤ 6) (hmn : mn < 2 ^ 31) (hc : c < n) (h2 : ¬ ar 6 c = 0 ∨ 39 < mn) : RM l yX4_act cX4_act 5 (some .int) ({ frames := 1, cells := 0, slots := 0, locals := 26 }) D (ty3 cI cC cD) EN0 [.ref (ad 0), .int (nI c)] ad 12 (mE ad cI th n st mn ar) (mE ad cI (nI 2) n st mn ar) (some (.int (nI 0))) := by
  refine RM.of (by decide) (Nat.le_of_ble_eq_true rfl) ?_
  intro p e s m below meth c0 A ls args Q0 S hr hlk hQ wb hl
  have hx := S.1
  have hb := S.2.1
  have hl : lv_has ls 5 [(0, .ref (ad 0)), (1, .int (nI c))] := hl
  refine lv_aload_n hx hb dX4_act_0 rfl (lv_at hl 0 rfl) ?_
  refine lv_aload_n hx hb dX4_act_1 rfl (lv_at hl 0 rfl) ?_
  refine lv_iload_n hx hb dX4_act_2 rfl (lv_at hl 1 rfl) ?_
  refine rb_callV S wb EN0_ok (m_no_t l D cI cC cD ad th n st mn ar (nI c) (nI 0) (tells_f (no_f hc (by omega)))) (bw5 bw_520 bw_522 bw_23 bw_37 bw_523) (rb_recv wb 0 (by decide) rfl rfl) hdX4_no rfl ⟨rfl, rfl⟩ ⟨by decide, by decide⟩ hl.1 (Nat.le_of_ble_eq_true rfl) ⟨Nat.zero_le _, Nat.zero_le _⟩ (rest := [.ref (ad 0)]) (st1 := [.int (nI 0), .ref (ad 0)]) rfl rfl dX4_act_3 (fun H locs wb => ?_)
  refine lv_if_eq (tgt := 13) hx hb dX4_act_6 (by decide) (fun h6 => ?_) (fun h6 => absurd (by decide) h6)
  refine lv_aload_n hx hb dX4_act_13 rfl (lv_at hl 0 rfl) ?_
  refine rb_get S wb 0 (by decide) rfl rfl in4 8 (by decide) bw_470 rfl dX4_act_14 ?_
  refine lv_iload_n hx hb dX4_act_17 rfl (lv_at hl 1 rfl) ?_
  refine rb_ald (n := 6) (f := ar 6) (x := ar 6 c) S wb 6 (by decide) rfl 0 rfl c (by omega) (by decide) rfl dX4_act_18 ?_
  refine lv_if_ne (tgt := 31) hx hb dX4_act_19 (by decide) (fun h19 => ?_) (fun h19 => ?_)
  · refine lv_iconst (v := nI 2) hx hb dX4_act_31 (by decide) ?_
    refine lv_goto (tgt := 36) hx hb dX4_act_32 (by decide) ?_
    refine rb_put (E' := mE ad cI (nI 2) n st mn ar) S wb 0 (by decide) rfl rfl in4 tyX4 tyX4_ok nmX4 0 (by decide) bw_462 rfl rfl rfl (Nat.le_of_ble_eq_true rfl) (m12 rfl rfl rfl rfl rfl rfl rfl rfl rfl rfl rfl rfl) dX4_act_36 (fun H locs wb => ?_)
    refine lv_aload_n hx hb dX4_act_39 rfl (lv_at hl 0 rfl) ?_
    refine rb_get S wb 0 (by decide) rfl rfl in4 0 (by decide) bw_462 rfl dX4_act_40 ?_
    refine lv_if_eq (tgt := 48) hx hb dX4_act_43 (by decide) (fun h43 => absurd h43 (by decide)) (fun h43 => ?_)
    refine lv_iconst (v := nI 0) hx hb dX4_act_46 (by decide) ?_
    exact rb_iret S hr hlk hQ rfl wb (m12 rfl rfl rfl rfl rfl rfl rfl rfl rfl rfl rfl rfl) dX4_act_47
  · have hm : 39 < mn := by
      rcases h2 with q | q
      · exact absurd h19 q
      · exact q
    refine lv_aload_n hx hb dX4_act_22 rfl (lv_at hl 0 rfl) ?_
    refine rb_get S wb 0 (by decide) rfl rfl in4 12 (by decide) bw_474 rfl dX4_act_23 ?_
    refine lv_bipush (v := nI 39) hx hb dX4_act_26 (by decide) ?_
    refine nb_icmp_le (tgt := 35) hx hb dX4_act_28 (by decide) (by omega) (by omega) (fun h28 => absurd h28 (by omega)) (fun h28 => ?_)
    refine lv_iconst (v := nI 2) hx hb dX4_act_31 (by decide) ?_
    refine lv_goto (tgt := 36) hx hb dX4_act_32 (by decide) ?_
    refine rb_put (E' := mE ad cI (nI 2) n st mn ar) S wb 0 (by decide) rfl rfl in4 tyX4 tyX4_ok nmX4 0 (by decide) bw_462 rfl rfl rfl (Nat.le_of_ble_eq_true rfl) (m12 rfl rfl rfl rfl rfl rfl rfl rfl rfl rfl rfl rfl) dX4_act_36 (fun H locs wb => ?_)
    refine lv_aload_n hx hb dX4_act_39 rfl (lv_at hl 0 rfl) ?_
    refine rb_get S wb 0 (by decide) rfl rfl in4 0 (by decide) bw_462 rfl dX4_act_40 ?_
    refine lv_if_eq (tgt := 48) hx hb dX4_act_43 (by decide) (fun h43 => absurd h43 (by decide)) (fun h43 => ?_)
    refine lv_iconst (v := nI 0) hx hb dX4_act_46 (by decide) ?_
    exact rb_iret S hr hlk hQ rfl wb (m12 rfl rfl rfl rfl rfl rfl rfl rfl rfl rfl rfl rfl) dX4_act_47

set_option maxHeartbeats 4000000 in
set_option maxRecDepth 100000 in
theorem m_act (l : Launch) (D : va_G) (cI cC cD : ClassId) (ad : Nat → Nat) (th : Int32) (n : Nat) (st : Int32) (mn : Nat) (ar : Nat → Nat → Int32) (c b sd : Nat) (hn : n ≤ 6) (hn2 : 2 ≤ n) (hc : c < n) (h1 : ar 6 c = 0) (h2 : mn ≤ 39) (hbb : b = bst (vl n ar c) (n - 1)) (hss : sd = sc2 (vl n ar c) b (s0of b) n) : RM l yX4_act cX4_act 5 (some .int) ({ frames := 1, cells := 0, slots := 0, locals := 26 }) D (ty3 cI cC cD) EN0 [.ref (ad 0), .int (nI c)] ad 12 (mE ad cI th n st mn ar) (mE ad cI (nI 0) n st (mn + 1) (va_up (va_up (va_up (va_up (va_up (va_up ar 6 (upd (ar 6) c (nI 1))) 7 (upd (ar 7) c (nI b))) 8 (upd (ar 8) c (ar 8 c + nI 1))) 9 (upd (ar 9) c (ar 2 (6 * c + b) + vl n ar c b - vl n ar c sd + st))) 10 (put5 (ar 10) (5 * mn) (nI 0) (nI c) (nI b) (ar 8 c + nI 1) (ar 2 (6 * c + b) + vl n ar c b - vl n ar c sd + st))) 11 (upd (ar 11) 0 (ar 11 0 + nI 1)))) (some (.int (nI b))) := by
  refine RM.of (by decide) (Nat.le_of_ble_eq_true rfl) ?_
  intro p e s m below meth c0 A ls args Q0 S hr hlk hQ wb hl
  have hx := S.1
  have hb := S.2.1
  have hl : lv_has ls 5 [(0, .ref (ad 0)), (1, .int (nI c))] := hl
  refine lv_aload_n hx hb dX4_act_0 rfl (lv_at hl 0 rfl) ?_
  refine lv_aload_n hx hb dX4_act_1 rfl (lv_at hl 0 rfl) ?_
  refine lv_iload_n hx hb dX4_act_2 rfl (lv_at hl 1 rfl) ?_
  refine rb_callV S wb EN0_ok (m_no_t l D cI cC cD ad th n st mn ar (nI c) (nI 0) (tells_f (no_f hc (by omega)))) (bw5 bw_520 bw_522 bw_23 bw_37 bw_523) (rb_recv wb 0 (by decide) rfl rfl) hdX4_no rfl ⟨rfl, rfl⟩ ⟨by decide, by decide⟩ hl.1 (Nat.le_of_ble_eq_true rfl) ⟨Nat.zero_le _, Nat.zero_le _⟩ (rest := [.ref (ad 0)]) (st1 := [.int (nI 0), .ref (ad 0)]) rfl rfl dX4_act_3 (fun H locs wb => ?_)
  refine lv_if_eq (tgt := 13) hx hb dX4_act_6 (by decide) (fun h6 => ?_) (fun h6 => absurd (by decide) h6)
  refine lv_aload_n hx hb dX4_act_13 rfl (lv_at hl 0 rfl) ?_
  refine rb_get S wb 0 (by decide) rfl rfl in4 8 (by decide) bw_470 rfl dX4_act_14 ?_
  refine lv_iload_n hx hb dX4_act_17 rfl (lv_at hl 1 rfl) ?_
  refine rb_ald (n := 6) (f := ar 6) (x := ar 6 c) S wb 6 (by decide) rfl 0 rfl c (by omega) (by decide) rfl dX4_act_18 ?_
  refine lv_if_ne (tgt := 31) hx hb dX4_act_19 (by decide) (fun h19 => absurd h1 h19) (fun h19 => ?_)
  refine lv_aload_n hx hb dX4_act_22 rfl (lv_at hl 0 rfl) ?_
  refine rb_get S wb 0 (by decide) rfl rfl in4 12 (by decide) bw_474 rfl dX4_act_23 ?_
  refine lv_bipush (v := nI 39) hx hb dX4_act_26 (by decide) ?_
  refine nb_icmp_le (tgt := 35) hx hb dX4_act_28 (by decide) (by omega) (by omega) (fun h28 => ?_) (fun h28 => absurd h28 (by omega))
  refine lv_iconst (v := nI 0) hx hb dX4_act_35 (by decide) ?_
  refine rb_put (E' := mE ad cI (nI 0) n st mn ar) S wb 0 (by decide) rfl rfl in4 tyX4 tyX4_ok nmX4 0 (by decide) bw_462 rfl rfl rfl (Nat.le_of_ble_eq_true rfl) (m12 rfl rfl rfl rfl rfl rfl rfl rfl rfl rfl rfl rfl) dX4_act_36 (fun H locs wb => ?_)
  refine lv_aload_n hx hb dX4_act_39 rfl (lv_at hl 0 rfl) ?_
  refine rb_get S wb 0 (by decide) rfl rfl in4 0 (by decide) bw_462 rfl dX4_act_40 ?_
  refine lv_if_eq (tgt := 48) hx hb dX4_act_43 (by decide) (fun h43 => ?_) (fun h43 => absurd (by decide) h43)
  refine lv_iconst (v := nI 0) hx hb dX4_act_48 (by decide) ?_
  refine lv_istore_n (lv' := [(2, .int (nI 0)), (0, .ref (ad 0)), (1, .int (nI c))]) hx hb dX4_act_49 rfl hl (by decide) rfl (fun ls hl => ?_)
  refine lv_iconst (v := nI 1) hx hb dX4_act_50 (by decide) ?_
  refine lv_istore_n (lv' := [(3, .int (nI 1)), (2, .int (nI 0)), (0, .ref (ad 0)), (1, .int (nI c))]) hx hb dX4_act_51 rfl hl (by decide) rfl (fun ls hl => ?_)
  have L52 : ∀ (fuel : Nat) (k : Nat) (b1 : Nat) (hk : k < n) (hfu : n ≤ k + fuel) (hbq : b1 = bst (vl n ar c) k) (hb2 : b1 ≤ k) (H : Heap) (locs : List Loc) (wb : WB D (ty3 cI cC cD) EN0 ad 12 A s (mE ad cI (nI 0) n st mn ar) H locs) (ls : Array Slot) (hl : lv_has ls 5 [(0, .ref (ad 0)), (1, .int (nI c)), (2, .int (nI b1)), (3, .int (nI (k + 1)))]), W p l e ({ frames := 1, cells := 0, slots := 0, locals := 26 }) s m args below meth c0 H locs 0 0 Q0 (F0 m 52 ls []) := by
    intro fuel
    induction fuel with
    | zero => intro k b1 hk hfu hbq hb2 H locs wb ls hl; exact absurd hfu (by omega)
    | succ fuel ih =>
      intro k b1 hk hfu hbq hb2 H locs wb ls hl
      refine lv_iload_n hx hb dX4_act_52 rfl (lv_at hl 3 rfl) ?_
      refine lv_aload_n hx hb dX4_act_53 rfl (lv_at hl 0 rfl) ?_
      refine rb_get S wb 0 (by decide) rfl rfl in4 1 (by decide) bw_463 rfl dX4_act_54 ?_
      refine nb_icmp_ge (tgt := 87) hx hb dX4_act_57 (by decide) (by omega) (by omega) (fun h57 => ?_) (fun h57 => ?_)
      · have hkn : k = n - 1 := by omega
        have hbe : b1 = b := by rw [hbq, hbb, hkn]
        have L100 : ∀ (fuel : Nat) (j : Nat) (sd1 : Nat) (hj : j ≤ n) (hfu2 : n < j + fuel) (hsd : sd1 = sc2 (vl n ar c) b1 (s0of b1) j) (hs2 : sd1 < n) (H : Heap) (locs : List Loc) (wb : WB D (ty3 cI cC cD) EN0 ad 12 A s (mE ad cI (nI 0) n st mn ar) H locs) (ls : Array Slot) (hl : lv_has ls 5 [(0, .ref (ad 0)), (1, .int (nI c)), (2, .int (nI b1)), (3, .int (nI sd1)), (4, .int (nI j))]), W p l e ({ frames := 1, cells := 0, slots := 0, locals := 26 }) s m args below meth c0 H locs 0 0 Q0 (F0 m 100 ls []) := by
          intro fuel
          induction fuel with
          | zero => intro j sd1 hj hfu2 hsd hs2 H locs wb ls hl; exact absurd hfu2 (by omega)
          | succ fuel ih =>
            intro j sd1 hj hfu2 hsd hs2 H locs wb ls hl
            refine lv_iload hx hb dX4_act_100 (lv_at hl 4 rfl) ?_
            refine lv_aload_n hx hb dX4_act_102 rfl (lv_at hl 0 rfl) ?_
            refine rb_get S wb 0 (by decide) rfl rfl in4 1 (by decide) bw_463 rfl dX4_act_103 ?_
            refine nb_icmp_ge (tgt := 144) hx hb dX4_act_106 (by decide) (by omega) (by omega) (fun h106 => ?_) (fun h106 => ?_)
            · have hjn : j = n := by omega
              have hse : sd1 = sd := by rw [hsd, hss, hjn, hbe]
              subst hbe; subst hse
              refine lv_aload_n hx hb dX4_act_144 rfl (lv_at hl 0 rfl) ?_
              refine rb_get S wb 0 (by decide) rfl rfl in4 10 (by decide) bw_472 rfl dX4_act_145 ?_
              refine lv_iload_n hx hb dX4_act_148 rfl (lv_at hl 1 rfl) ?_
              refine lv_dup2_11 hx hb dX4_act_149 rfl rfl ?_
              refine rb_ald (n := 6) (f := ar 8) (x := ar 8 c) S wb 8 (by decide) rfl 0 rfl c (by omega) (by decide) rfl dX4_act_150 ?_
              refine lv_iconst (v := nI 1) hx hb dX4_act_151 (by decide) ?_
              refine lv_iadd hx hb dX4_act_152 ?_
              refine rb_ast (E' := mE ad cI (nI 0) n st mn (va_up ar 8 (upd (ar 8) c ((ar 8 c) + (nI 1))))) (n := 6) (f := ar 8) S wb 8 (by decide) rfl 0 rfl c (by omega) (by decide) (m12 rfl rfl rfl rfl rfl rfl rfl rfl rfl rfl rfl rfl) dX4_act_153 (fun H locs wb => ?_)
              refine lv_aload_n hx hb dX4_act_154 rfl (lv_at hl 0 rfl) ?_
              refine rb_get S wb 0 (by decide) rfl rfl in4 9 (by decide) bw_471 rfl dX4_act_155 ?_
              refine lv_iload_n hx hb dX4_act_158 rfl (lv_at hl 1 rfl) ?_
              refine lv_iload_n hx hb dX4_act_159 rfl (lv_at hl 2 rfl) ?_
              refine rb_ast (E' := mE ad cI (nI 0) n st mn (va_up (va_up ar 7 (upd (ar 7) c (nI b1))) 8 (upd (ar 8) c ((ar 8 c) + (nI 1))))) (n := 6) (f := ar 7) S wb 7 (by decide) rfl 0 rfl c (by omega) (by decide) (m12 rfl rfl rfl rfl rfl rfl rfl rfl rfl rfl rfl rfl) dX4_act_160 (fun H locs wb => ?_)
              refine lv_aload_n hx hb dX4_act_161 rfl (lv_at hl 0 rfl) ?_
              refine rb_get S wb 0 (by decide) rfl rfl in4 8 (by decide) bw_470 rfl dX4_act_162 ?_
              refine lv_iload_n hx hb dX4_act_165 rfl (lv_at hl 1 rfl) ?_
              refine lv_iconst (v := nI 1) hx hb dX4_act_166 (by decide) ?_
              refine rb_ast (E' := mE ad cI (nI 0) n st mn (va_up (va_up (va_up ar 6 (upd (ar 6) c (nI 1))) 7 (upd (ar 7) c (nI b1))) 8 (upd (ar 8) c ((ar 8 c) + (nI 1))))) (n := 6) (f := ar 6) S wb 6 (by decide) rfl 0 rfl c (by omega) (by decide) (m12 rfl rfl rfl rfl rfl rfl rfl rfl rfl rfl rfl rfl) dX4_act_167 (fun H locs wb => ?_)
              refine lv_aload_n hx hb dX4_act_168 rfl (lv_at hl 0 rfl) ?_
              refine rb_get S wb 0 (by decide) rfl rfl in4 11 (by decide) bw_473 rfl dX4_act_169 ?_
              refine lv_iload_n hx hb dX4_act_172 rfl (lv_at hl 1 rfl) ?_
              refine lv_aload_n hx hb dX4_act_173 rfl (lv_at hl 0 rfl) ?_
              refine rb_get S wb 0 (by decide) rfl rfl in4 4 (by decide) bw_466 rfl dX4_act_174 ?_
              refine lv_bipush (v := nI 6) hx hb dX4_act_177 (by decide) ?_
              refine lv_iload_n hx hb dX4_act_179 rfl (lv_at hl 1 rfl) ?_
              refine lv_imul hx hb dX4_act_180 ?_
              refine nb_ren (y := nI (6 * c)) (pk_mul _ _) ?_
              refine lv_iload_n hx hb dX4_act_181 rfl (lv_at hl 2 rfl) ?_
              refine lv_iadd hx hb dX4_act_182 ?_
              refine nb_ren (y := nI (6 * c + b1)) (nI_add _ _) ?_
              refine rb_ald (n := 36) (f := ar 2) (x := ar 2 (6 * c + b1)) S wb 2 (by decide) rfl 0 rfl (6 * c + b1) (by omega) (by decide) rfl dX4_act_183 ?_
              refine lv_aload_n hx hb dX4_act_184 rfl (lv_at hl 0 rfl) ?_
              refine lv_iload_n hx hb dX4_act_185 rfl (lv_at hl 1 rfl) ?_
              refine lv_iload_n hx hb dX4_act_186 rfl (lv_at hl 2 rfl) ?_
              refine rb_callV S wb EN0_ok (m_valueOf l D cI cC cD ad (nI 0) n st mn (va_up (va_up (va_up ar 6 (upd (ar 6) c (nI 1))) 7 (upd (ar 7) c (nI b1))) 8 (upd (ar 8) c ((ar 8 c) + (nI 1)))) c b1 (by omega) (by omega) (by omega)) (bw5 bw_528 bw_530 bw_24 bw_37 bw_531) (rb_recv wb 0 (by decide) rfl rfl) hdX4_valueOf rfl ⟨rfl, rfl⟩ ⟨by decide, by decide⟩ hl.1 (Nat.le_of_ble_eq_true rfl) ⟨Nat.zero_le _, Nat.zero_le _⟩ (rest := [.int (ar 2 (6 * c + b1)), .int (nI c), .ref (ad 9)]) (st1 := [.int (vl n ar c b1), .int (ar 2 (6 * c + b1)), .int (nI c), .ref (ad 9)]) rfl rfl dX4_act_187 (fun H locs wb => ?_)
              refine lv_iadd hx hb dX4_act_190 ?_
              refine lv_aload_n hx hb dX4_act_191 rfl (lv_at hl 0 rfl) ?_
              refine lv_iload_n hx hb dX4_act_192 rfl (lv_at hl 1 rfl) ?_
              refine lv_iload_n hx hb dX4_act_193 rfl (lv_at hl 3 rfl) ?_
              refine rb_callV S wb EN0_ok (m_valueOf l D cI cC cD ad (nI 0) n st mn (va_up (va_up (va_up ar 6 (upd (ar 6) c (nI 1))) 7 (upd (ar 7) c (nI b1))) 8 (upd (ar 8) c ((ar 8 c) + (nI 1)))) c sd1 (by omega) (by omega) (by omega)) (bw5 bw_528 bw_530 bw_24 bw_37 bw_531) (rb_recv wb 0 (by decide) rfl rfl) hdX4_valueOf rfl ⟨rfl, rfl⟩ ⟨by decide, by decide⟩ hl.1 (Nat.le_of_ble_eq_true rfl) ⟨Nat.zero_le _, Nat.zero_le _⟩ (rest := [.int ((ar 2 (6 * c + b1)) + (vl n ar c b1)), .int (nI c), .ref (ad 9)]) (st1 := [.int (vl n ar c sd1), .int ((ar 2 (6 * c + b1)) + (vl n ar c b1)), .int (nI c), .ref (ad 9)]) rfl rfl dX4_act_194 (fun H locs wb => ?_)
              refine lv_isub hx hb dX4_act_197 ?_
              refine lv_aload_n hx hb dX4_act_198 rfl (lv_at hl 0 rfl) ?_
              refine rb_get S wb 0 (by decide) rfl rfl in4 2 (by decide) bw_464 rfl dX4_act_199 ?_
              refine lv_iadd hx hb dX4_act_202 ?_
              refine rb_ast (E' := mE ad cI (nI 0) n st mn (va_up (va_up (va_up (va_up ar 6 (upd (ar 6) c (nI 1))) 7 (upd (ar 7) c (nI b1))) 8 (upd (ar 8) c ((ar 8 c) + (nI 1)))) 9 (upd (ar 9) c ((((ar 2 (6 * c + b1)) + (vl n ar c b1)) - (vl n ar c sd1)) + st)))) (n := 6) (f := ar 9) S wb 9 (by decide) rfl 0 rfl c (by omega) (by decide) (m12 rfl rfl rfl rfl rfl rfl rfl rfl rfl rfl rfl rfl) dX4_act_203 (fun H locs wb => ?_)
              refine lv_aload_n hx hb dX4_act_204 rfl (lv_at hl 0 rfl) ?_
              refine rb_get S wb 0 (by decide) rfl rfl in4 14 (by decide) bw_476 rfl dX4_act_205 ?_
              refine lv_iconst (v := nI 0) hx hb dX4_act_208 (by decide) ?_
              refine lv_dup2_11 hx hb dX4_act_209 rfl rfl ?_
              refine rb_ald (n := 4) (f := ar 11) (x := ar 11 0) S wb 11 (by decide) rfl 0 rfl 0 (by omega) (by decide) rfl dX4_act_210 ?_
              refine lv_iconst (v := nI 1) hx hb dX4_act_211 (by decide) ?_
              refine lv_iadd hx hb dX4_act_212 ?_
              refine rb_ast (E' := mE ad cI (nI 0) n st mn (va_up (va_up (va_up (va_up (va_up ar 6 (upd (ar 6) c (nI 1))) 7 (upd (ar 7) c (nI b1))) 8 (upd (ar 8) c ((ar 8 c) + (nI 1)))) 9 (upd (ar 9) c ((((ar 2 (6 * c + b1)) + (vl n ar c b1)) - (vl n ar c sd1)) + st))) 11 (upd (ar 11) 0 ((ar 11 0) + (nI 1))))) (n := 4) (f := ar 11) S wb 11 (by decide) rfl 0 rfl 0 (by omega) (by decide) (m12 rfl rfl rfl rfl rfl rfl rfl rfl rfl rfl rfl rfl) dX4_act_213 (fun H locs wb => ?_)
              refine lv_aload_n hx hb dX4_act_214 rfl (lv_at hl 0 rfl) ?_
              refine lv_iconst (v := nI 0) hx hb dX4_act_215 (by decide) ?_
              refine lv_iload_n hx hb dX4_act_216 rfl (lv_at hl 1 rfl) ?_
              refine lv_iload_n hx hb dX4_act_217 rfl (lv_at hl 2 rfl) ?_
              refine lv_aload_n hx hb dX4_act_218 rfl (lv_at hl 0 rfl) ?_
              refine rb_get S wb 0 (by decide) rfl rfl in4 10 (by decide) bw_472 rfl dX4_act_219 ?_
              refine lv_iload_n hx hb dX4_act_222 rfl (lv_at hl 1 rfl) ?_
              refine rb_ald (n := 6) (f := upd (ar 8) c ((ar 8 c) + (nI 1))) (x := (ar 8 c) + (nI 1)) S wb 8 (by decide) rfl 0 rfl c (by omega) (by decide) pk_us dX4_act_223 ?_
              refine lv_aload_n hx hb dX4_act_224 rfl (lv_at hl 0 rfl) ?_
              refine rb_get S wb 0 (by decide) rfl rfl in4 11 (by decide) bw_473 rfl dX4_act_225 ?_
              refine lv_iload_n hx hb dX4_act_228 rfl (lv_at hl 1 rfl) ?_
              refine rb_ald (n := 6) (f := upd (ar 9) c ((((ar 2 (6 * c + b1)) + (vl n ar c b1)) - (vl n ar c sd1)) + st)) (x := (((ar 2 (6 * c + b1)) + (vl n ar c b1)) - (vl n ar c sd1)) + st) S wb 9 (by decide) rfl 0 rfl c (by omega) (by decide) pk_us dX4_act_229 ?_
              refine rb_callV S wb EN0_ok (m_send0 l D cI cC cD ad (nI 0) n st mn (va_up (va_up (va_up (va_up (va_up ar 6 (upd (ar 6) c (nI 1))) 7 (upd (ar 7) c (nI b1))) 8 (upd (ar 8) c ((ar 8 c) + (nI 1)))) 9 (upd (ar 9) c ((((ar 2 (6 * c + b1)) + (vl n ar c b1)) - (vl n ar c sd1)) + st))) 11 (upd (ar 11) 0 ((ar 11 0) + (nI 1)))) (nI c) (nI b1) ((ar 8 c) + (nI 1)) ((((ar 2 (6 * c + b1)) + (vl n ar c b1)) - (vl n ar c sd1)) + st) (by omega)) (bw5 bw_532 bw_534 bw_25 bw_37 bw_535) (rb_recv wb 0 (by decide) rfl rfl) hdX4_send rfl ⟨rfl, rfl⟩ ⟨by decide, by decide⟩ hl.1 (Nat.le_of_ble_eq_true rfl) ⟨Nat.zero_le _, Nat.zero_le _⟩ (rest := []) (st1 := []) rfl rfl dX4_act_230 (fun H locs wb => ?_)
              refine lv_iload_n hx hb dX4_act_233 rfl (lv_at hl 2 rfl) ?_
              exact rb_iret S hr hlk hQ rfl wb (m12 rfl rfl rfl rfl rfl rfl rfl rfl rfl rfl rfl rfl) dX4_act_234
            · refine lv_iload hx hb dX4_act_109 (lv_at hl 4 rfl) ?_
              refine lv_iload_n hx hb dX4_act_111 rfl (lv_at hl 2 rfl) ?_
              refine nb_icmp_eq (tgt := 136) hx hb dX4_act_112 (by decide) (by omega) (by omega) (fun h112 => ?_) (fun h112 => ?_)
              · refine lv_iload_n hx hb dX4_act_136 rfl (lv_at hl 3 rfl) ?_
                refine lv_istore_n (lv' := [(3, .int (nI sd1)), (0, .ref (ad 0)), (1, .int (nI c)), (2, .int (nI b1)), (4, .int (nI j))]) hx hb dX4_act_137 rfl hl (by decide) rfl (fun ls hl => ?_)
                refine lv_iinc (v := nI (j + 1)) (lv' := [(4, .int (nI (j + 1))), (3, .int (nI sd1)), (0, .ref (ad 0)), (1, .int (nI c)), (2, .int (nI b1))]) hx hb dX4_act_138 hl (k := 4) rfl (nI_s1 _) (by decide) rfl (fun ls hl => ?_)
                refine lv_goto (tgt := 100) hx hb dX4_act_141 (by decide) ?_
                exact ih (j + 1) sd1 (by omega) (by omega) (by first | exact sc2_e hsd h112 | exact sc2_f hsd h128 | exact sc2_t hsd h112 h128) (by omega) _ _ wb ls (lv_sub hl [2, 3, 4, 1, 0] rfl)
              · refine lv_aload_n hx hb dX4_act_115 rfl (lv_at hl 0 rfl) ?_
                refine lv_iload_n hx hb dX4_act_116 rfl (lv_at hl 1 rfl) ?_
                refine lv_iload hx hb dX4_act_117 (lv_at hl 4 rfl) ?_
                refine rb_callV S wb EN0_ok (m_valueOf l D cI cC cD ad (nI 0) n st mn ar c j (by omega) (by omega) (by omega)) (bw5 bw_528 bw_530 bw_24 bw_37 bw_531) (rb_recv wb 0 (by decide) rfl rfl) hdX4_valueOf rfl ⟨rfl, rfl⟩ ⟨by decide, by decide⟩ hl.1 (Nat.le_of_ble_eq_true rfl) ⟨Nat.zero_le _, Nat.zero_le _⟩ (rest := []) (st1 := [.int (vl n ar c j)]) rfl rfl dX4_act_119 (fun H locs wb => ?_)
                refine lv_aload_n hx hb dX4_act_122 rfl (lv_at hl 0 rfl) ?_
                refine lv_iload_n hx hb dX4_act_123 rfl (lv_at hl 1 rfl) ?_
                refine lv_iload_n hx hb dX4_act_124 rfl (lv_at hl 3 rfl) ?_
                refine rb_callV S wb EN0_ok (m_valueOf l D cI cC cD ad (nI 0) n st mn ar c sd1 (by omega) (by omega) (by omega)) (bw5 bw_528 bw_530 bw_24 bw_37 bw_531) (rb_recv wb 0 (by decide) rfl rfl) hdX4_valueOf rfl ⟨rfl, rfl⟩ ⟨by decide, by decide⟩ hl.1 (Nat.le_of_ble_eq_true rfl) ⟨Nat.zero_le _, Nat.zero_le _⟩ (rest := [.int (vl n ar c j)]) (st1 := [.int (vl n ar c sd1), .int (vl n ar c j)]) rfl rfl dX4_act_125 (fun H locs wb => ?_)
                refine lv_icmp_le (tgt := 136) hx hb dX4_act_128 (by decide) (fun h128 => ?_) (fun h128 => ?_)
                · refine lv_iload_n hx hb dX4_act_136 rfl (lv_at hl 3 rfl) ?_
                  refine lv_istore_n (lv' := [(3, .int (nI sd1)), (0, .ref (ad 0)), (1, .int (nI c)), (2, .int (nI b1)), (4, .int (nI j))]) hx hb dX4_act_137 rfl hl (by decide) rfl (fun ls hl => ?_)
                  refine lv_iinc (v := nI (j + 1)) (lv' := [(4, .int (nI (j + 1))), (3, .int (nI sd1)), (0, .ref (ad 0)), (1, .int (nI c)), (2, .int (nI b1))]) hx hb dX4_act_138 hl (k := 4) rfl (nI_s1 _) (by decide) rfl (fun ls hl => ?_)
                  refine lv_goto (tgt := 100) hx hb dX4_act_141 (by decide) ?_
                  exact ih (j + 1) sd1 (by omega) (by omega) (by first | exact sc2_e hsd h112 | exact sc2_f hsd h128 | exact sc2_t hsd h112 h128) (by omega) _ _ wb ls (lv_sub hl [2, 3, 4, 1, 0] rfl)
                · refine lv_iload hx hb dX4_act_131 (lv_at hl 4 rfl) ?_
                  refine lv_goto (tgt := 137) hx hb dX4_act_133 (by decide) ?_
                  refine lv_istore_n (lv' := [(3, .int (nI j)), (0, .ref (ad 0)), (1, .int (nI c)), (2, .int (nI b1)), (4, .int (nI j))]) hx hb dX4_act_137 rfl hl (by decide) rfl (fun ls hl => ?_)
                  refine lv_iinc (v := nI (j + 1)) (lv' := [(4, .int (nI (j + 1))), (3, .int (nI j)), (0, .ref (ad 0)), (1, .int (nI c)), (2, .int (nI b1))]) hx hb dX4_act_138 hl (k := 4) rfl (nI_s1 _) (by decide) rfl (fun ls hl => ?_)
                  refine lv_goto (tgt := 100) hx hb dX4_act_141 (by decide) ?_
                  exact ih (j + 1) j (by omega) (by omega) (by first | exact sc2_e hsd h112 | exact sc2_f hsd h128 | exact sc2_t hsd h112 h128) (by omega) _ _ wb ls (lv_sub hl [2, 3, 4, 1, 0] rfl)
        refine lv_iload_n hx hb dX4_act_87 rfl (lv_at hl 2 rfl) ?_
        refine lv_if_ne (tgt := 95) hx hb dX4_act_88 (by decide) (fun h88 => ?_) (fun h88 => ?_)
        · have h88z : ¬ b1 = 0 := fun q => h88 (by rw [q]; exact nI_0)
          refine lv_iconst (v := nI 0) hx hb dX4_act_95 (by decide) ?_
          refine lv_istore_n (lv' := [(3, .int (nI 0)), (0, .ref (ad 0)), (1, .int (nI c)), (2, .int (nI b1))]) hx hb dX4_act_96 rfl hl (by decide) rfl (fun ls hl => ?_)
          refine lv_iconst (v := nI 0) hx hb dX4_act_97 (by decide) ?_
          refine lv_istore (lv' := [(4, .int (nI 0)), (3, .int (nI 0)), (0, .ref (ad 0)), (1, .int (nI c)), (2, .int (nI b1))]) hx hb dX4_act_98 hl (by decide) rfl (fun ls hl => ?_)
          exact L100 (n + 1) 0 0 (by omega) (by omega) (by unfold s0of; first | (rw [if_pos h88z]; rfl) | (rw [if_neg h88z]; rfl)) (by omega) _ _ wb ls (lv_sub hl [2, 3, 4, 1, 0] rfl)
        · have h88z : b1 = 0 := Classical.byContradiction fun q => nI_ne0 (by omega) (by omega) h88
          refine lv_iconst (v := nI 1) hx hb dX4_act_91 (by decide) ?_
          refine lv_goto (tgt := 96) hx hb dX4_act_92 (by decide) ?_
          refine lv_istore_n (lv' := [(3, .int (nI 1)), (0, .ref (ad 0)), (1, .int (nI c)), (2, .int (nI b1))]) hx hb dX4_act_96 rfl hl (by decide) rfl (fun ls hl => ?_)
          refine lv_iconst (v := nI 0) hx hb dX4_act_97 (by decide) ?_
          refine lv_istore (lv' := [(4, .int (nI 0)), (3, .int (nI 1)), (0, .ref (ad 0)), (1, .int (nI c)), (2, .int (nI b1))]) hx hb dX4_act_98 hl (by decide) rfl (fun ls hl => ?_)
          exact L100 (n + 1) 0 1 (by omega) (by omega) (by unfold s0of; first | (rw [if_pos h88z]; rfl) | (rw [if_neg h88z]; rfl)) (by omega) _ _ wb ls (lv_sub hl [2, 3, 4, 1, 0] rfl)
      · refine lv_aload_n hx hb dX4_act_60 rfl (lv_at hl 0 rfl) ?_
        refine lv_iload_n hx hb dX4_act_61 rfl (lv_at hl 1 rfl) ?_
        refine lv_iload_n hx hb dX4_act_62 rfl (lv_at hl 3 rfl) ?_
        refine rb_callV S wb EN0_ok (m_valueOf l D cI cC cD ad (nI 0) n st mn ar c (k + 1) (by omega) (by omega) (by omega)) (bw5 bw_528 bw_530 bw_24 bw_37 bw_531) (rb_recv wb 0 (by decide) rfl rfl) hdX4_valueOf rfl ⟨rfl, rfl⟩ ⟨by decide, by decide⟩ hl.1 (Nat.le_of_ble_eq_true rfl) ⟨Nat.zero_le _, Nat.zero_le _⟩ (rest := []) (st1 := [.int (vl n ar c (k + 1))]) rfl rfl dX4_act_63 (fun H locs wb => ?_)
        refine lv_aload_n hx hb dX4_act_66 rfl (lv_at hl 0 rfl) ?_
        refine lv_iload_n hx hb dX4_act_67 rfl (lv_at hl 1 rfl) ?_
        refine lv_iload_n hx hb dX4_act_68 rfl (lv_at hl 2 rfl) ?_
        refine rb_callV S wb EN0_ok (m_valueOf l D cI cC cD ad (nI 0) n st mn ar c b1 (by omega) (by omega) (by omega)) (bw5 bw_528 bw_530 bw_24 bw_37 bw_531) (rb_recv wb 0 (by decide) rfl rfl) hdX4_valueOf rfl ⟨rfl, rfl⟩ ⟨by decide, by decide⟩ hl.1 (Nat.le_of_ble_eq_true rfl) ⟨Nat.zero_le _, Nat.zero_le _⟩ (rest := [.int (vl n ar c (k + 1))]) (st1 := [.int (vl n ar c b1), .int (vl n ar c (k + 1))]) rfl rfl dX4_act_69 (fun H locs wb => ?_)
        refine lv_icmp_le (tgt := 79) hx hb dX4_act_72 (by decide) (fun h72 => ?_) (fun h72 => ?_)
        · refine lv_iload_n hx hb dX4_act_79 rfl (lv_at hl 2 rfl) ?_
          refine lv_istore_n (lv' := [(2, .int (nI b1)), (0, .ref (ad 0)), (1, .int (nI c)), (3, .int (nI (k + 1)))]) hx hb dX4_act_80 rfl hl (by decide) rfl (fun ls hl => ?_)
          refine lv_iinc (v := nI (k + 1 + 1)) (lv' := [(3, .int (nI (k + 1 + 1))), (2, .int (nI b1)), (0, .ref (ad 0)), (1, .int (nI c))]) hx hb dX4_act_81 hl (k := 3) rfl (nI_s1 _) (by decide) rfl (fun ls hl => ?_)
          refine lv_goto (tgt := 52) hx hb dX4_act_84 (by decide) ?_
          exact ih (k + 1) b1 (by omega) (by omega) (by first | exact bst_t hbq h72 | exact bst_f hbq h72) (by omega) _ _ wb ls (lv_sub hl [2, 3, 1, 0] rfl)
        · refine lv_iload_n hx hb dX4_act_75 rfl (lv_at hl 3 rfl) ?_
          refine lv_goto (tgt := 80) hx hb dX4_act_76 (by decide) ?_
          refine lv_istore_n (lv' := [(2, .int (nI (k + 1))), (0, .ref (ad 0)), (1, .int (nI c)), (3, .int (nI (k + 1)))]) hx hb dX4_act_80 rfl hl (by decide) rfl (fun ls hl => ?_)
          refine lv_iinc (v := nI (k + 1 + 1)) (lv' := [(3, .int (nI (k + 1 + 1))), (2, .int (nI (k + 1))), (0, .ref (ad 0)), (1, .int (nI c))]) hx hb dX4_act_81 hl (k := 3) rfl (nI_s1 _) (by decide) rfl (fun ls hl => ?_)
          refine lv_goto (tgt := 52) hx hb dX4_act_84 (by decide) ?_
          exact ih (k + 1) (k + 1) (by omega) (by omega) (by first | exact bst_t hbq h72 | exact bst_f hbq h72) (by omega) _ _ wb ls (lv_sub hl [2, 3, 1, 0] rfl)
  exact L52 n 0 0 (by omega) (by omega) rfl (by omega) _ _ wb ls (lv_sub hl [2, 3, 1, 0] rfl)
end
section
/-! the model: twin, letters that come, worth -/
set_option maxHeartbeats 4000000 in
set_option maxRecDepth 100000 in
theorem m_twin_x1 (l : Launch) (D : va_G) (cI cC cD : ClassId) (ad : Nat → Nat) (th : Int32) (n : Nat) (st : Int32) (mn : Nat) (ar : Nat → Nat → Int32) (x : Int32) (hx0 : x < 0 ∨ nI mn ≤ x) : RM l yX4_twin cX4_twin 3 (some .int) ({ frames := 1, cells := 0, slots := 0, locals := 21 }) D (ty3 cI cC cD) EN0 [.ref (ad 0), .int x] ad 12 (mE ad cI th n st mn ar) (mE ad cI (nI 1) n st mn ar) (some (.int (nI 0))) := by
  refine RM.of (by decide) (Nat.le_of_ble_eq_true rfl) ?_
  intro p e s m below meth c0 A ls args Q0 S hr hlk hQ wb hl
  have hx := S.1
  have hb := S.2.1
  have hl : lv_has ls 3 [(0, .ref (ad 0)), (1, .int x)] := hl
  refine lv_aload_n hx hb dX4_twin_0 rfl (lv_at hl 0 rfl) ?_
  refine lv_aload_n hx hb dX4_twin_1 rfl (lv_at hl 0 rfl) ?_
  refine lv_iload_n hx hb dX4_twin_2 rfl (lv_at hl 1 rfl) ?_
  refine rb_callV S wb EN0_ok (m_noLetter_t l D cI cC cD ad th n st mn ar x (nI 1) (tells_t hx0)) (bw5 bw_544 bw_546 bw_26 bw_37 bw_547) (rb_recv wb 0 (by decide) rfl rfl) hdX4_noLetter rfl ⟨rfl, rfl⟩ ⟨by decide, by decide⟩ hl.1 (Nat.le_of_ble_eq_true rfl) ⟨Nat.zero_le _, Nat.zero_le _⟩ (rest := [.ref (ad 0)]) (st1 := [.int (nI 1), .ref (ad 0)]) rfl rfl dX4_twin_3 (fun H locs wb => ?_)
  refine lv_if_eq (tgt := 13) hx hb dX4_twin_6 (by decide) (fun h6 => absurd h6 (by decide)) (fun h6 => ?_)
  refine lv_iconst (v := nI 1) hx hb dX4_twin_9 (by decide) ?_
  refine lv_goto (tgt := 27) hx hb dX4_twin_10 (by decide) ?_
  refine rb_put (E' := mE ad cI (nI 1) n st mn ar) S wb 0 (by decide) rfl rfl in4 tyX4 tyX4_ok nmX4 0 (by decide) bw_462 rfl rfl rfl (Nat.le_of_ble_eq_true rfl) (m12 rfl rfl rfl rfl rfl rfl rfl rfl rfl rfl rfl rfl) dX4_twin_27 (fun H locs wb => ?_)
  refine lv_aload_n hx hb dX4_twin_30 rfl (lv_at hl 0 rfl) ?_
  refine rb_get S wb 0 (by decide) rfl rfl in4 0 (by decide) bw_462 rfl dX4_twin_31 ?_
  refine lv_if_eq (tgt := 39) hx hb dX4_twin_34 (by decide) (fun h34 => absurd h34 (by decide)) (fun h34 => ?_)
  refine lv_iconst (v := nI 0) hx hb dX4_twin_37 (by decide) ?_
  exact rb_iret S hr hlk hQ rfl wb (m12 rfl rfl rfl rfl rfl rfl rfl rfl rfl rfl rfl rfl) dX4_twin_38

set_option maxHeartbeats 4000000 in
set_option maxRecDepth 100000 in
theorem m_twin_x2 (l : Launch) (D : va_G) (cI cC cD : ClassId) (ad : Nat → Nat) (th : Int32) (n : Nat) (st : Int32) (mn : Nat) (ar : Nat → Nat → Int32) (i : Nat) (hmn : mn < 2 ^ 31) (hi : i < mn) (h2 : 39 < mn) : RM l yX4_twin cX4_twin 3 (some .int) ({ frames := 1, cells := 0, slots := 0, locals := 21 }) D (ty3 cI cC cD) EN0 [.ref (ad 0), .int (nI i)] ad 12 (mE ad cI th n st mn ar) (mE ad cI (nI 2) n st mn ar) (some (.int (nI 0))) := by
  refine RM.of (by decide) (Nat.le_of_ble_eq_true rfl) ?_
  intro p e s m below meth c0 A ls args Q0 S hr hlk hQ wb hl
  have hx := S.1
  have hb := S.2.1
  have hl : lv_has ls 3 [(0, .ref (ad 0)), (1, .int (nI i))] := hl
  refine lv_aload_n hx hb dX4_twin_0 rfl (lv_at hl 0 rfl) ?_
  refine lv_aload_n hx hb dX4_twin_1 rfl (lv_at hl 0 rfl) ?_
  refine lv_iload_n hx hb dX4_twin_2 rfl (lv_at hl 1 rfl) ?_
  refine rb_callV S wb EN0_ok (m_noLetter_t l D cI cC cD ad th n st mn ar (nI i) (nI 0) (tells_f (no_f hi (by omega)))) (bw5 bw_544 bw_546 bw_26 bw_37 bw_547) (rb_recv wb 0 (by decide) rfl rfl) hdX4_noLetter rfl ⟨rfl, rfl⟩ ⟨by decide, by decide⟩ hl.1 (Nat.le_of_ble_eq_true rfl) ⟨Nat.zero_le _, Nat.zero_le _⟩ (rest := [.ref (ad 0)]) (st1 := [.int (nI 0), .ref (ad 0)]) rfl rfl dX4_twin_3 (fun H locs wb => ?_)
  refine lv_if_eq (tgt := 13) hx hb dX4_twin_6 (by decide) (fun h6 => ?_) (fun h6 => absurd (by decide) h6)
  refine lv_aload_n hx hb dX4_twin_13 rfl (lv_at hl 0 rfl) ?_
  refine rb_get S wb 0 (by decide) rfl rfl in4 12 (by decide) bw_474 rfl dX4_twin_14 ?_
  refine lv_bipush (v := nI 39) hx hb dX4_twin_17 (by decide) ?_
  refine nb_icmp_le (tgt := 26) hx hb dX4_twin_19 (by decide) (by omega) (by omega) (fun h19 => absurd h19 (by omega)) (fun h19 => ?_)
  refine lv_iconst (v := nI 2) hx hb dX4_twin_22 (by decide) ?_
  refine lv_goto (tgt := 27) hx hb dX4_twin_23 (by decide) ?_
  refine rb_put (E' := mE ad cI (nI 2) n st mn ar) S wb 0 (by decide) rfl rfl in4 tyX4 tyX4_ok nmX4 0 (by decide) bw_462 rfl rfl rfl (Nat.le_of_ble_eq_true rfl) (m12 rfl rfl rfl rfl rfl rfl rfl rfl rfl rfl rfl rfl) dX4_twin_27 (fun H locs wb => ?_)
  refine lv_aload_n hx hb dX4_twin_30 rfl (lv_at hl 0 rfl) ?_
  refine rb_get S wb 0 (by decide) rfl rfl in4 0 (by decide) bw_462 rfl dX4_twin_31 ?_
  refine lv_if_eq (tgt := 39) hx hb dX4_twin_34 (by decide) (fun h34 => absurd h34 (by decide)) (fun h34 => ?_)
  refine lv_iconst (v := nI 0) hx hb dX4_twin_37 (by decide) ?_
  exact rb_iret S hr hlk hQ rfl wb (m12 rfl rfl rfl rfl rfl rfl rfl rfl rfl rfl rfl rfl) dX4_twin_38

set_option maxHeartbeats 4000000 in
set_option maxRecDepth 100000 in
theorem m_twin (l : Launch) (D : va_G) (cI cC cD : ClassId) (ad : Nat → Nat) (th : Int32) (n : Nat) (st : Int32) (mn : Nat) (ar : Nat → Nat → Int32) (i : Nat) (hi : i < mn) (h2 : mn ≤ 39) : RM l yX4_twin cX4_twin 3 (some .int) ({ frames := 1, cells := 0, slots := 0, locals := 21 }) D (ty3 cI cC cD) EN0 [.ref (ad 0), .int (nI i)] ad 12 (mE ad cI th n st mn ar) (mE ad cI (nI 0) n st (mn + 1) (va_up ar 10 (put5 (ar 10) (5 * mn) (ar 10 (5 * i)) (ar 10 (5 * i + 1)) (ar 10 (5 * i + 2)) (ar 10 (5 * i + 3)) (ar 10 (5 * i + 4))))) (some (.int (nI (mn + 1)))) := by
  refine RM.of (by decide) (Nat.le_of_ble_eq_true rfl) ?_
  intro p e s m below meth c0 A ls args Q0 S hr hlk hQ wb hl
  have hx := S.1
  have hb := S.2.1
  have hl : lv_has ls 3 [(0, .ref (ad 0)), (1, .int (nI i))] := hl
  refine lv_aload_n hx hb dX4_twin_0 rfl (lv_at hl 0 rfl) ?_
  refine lv_aload_n hx hb dX4_twin_1 rfl (lv_at hl 0 rfl) ?_
  refine lv_iload_n hx hb dX4_twin_2 rfl (lv_at hl 1 rfl) ?_
  refine rb_callV S wb EN0_ok (m_noLetter_t l D cI cC cD ad th n st mn ar (nI i) (nI 0) (tells_f (no_f hi (by omega)))) (bw5 bw_544 bw_546 bw_26 bw_37 bw_547) (rb_recv wb 0 (by decide) rfl rfl) hdX4_noLetter rfl ⟨rfl, rfl⟩ ⟨by decide, by decide⟩ hl.1 (Nat.le_of_ble_eq_true rfl) ⟨Nat.zero_le _, Nat.zero_le _⟩ (rest := [.ref (ad 0)]) (st1 := [.int (nI 0), .ref (ad 0)]) rfl rfl dX4_twin_3 (fun H locs wb => ?_)
  refine lv_if_eq (tgt := 13) hx hb dX4_twin_6 (by decide) (fun h6 => ?_) (fun h6 => absurd (by decide) h6)
  refine lv_aload_n hx hb dX4_twin_13 rfl (lv_at hl 0 rfl) ?_
  refine rb_get S wb 0 (by decide) rfl rfl in4 12 (by decide) bw_474 rfl dX4_twin_14 ?_
  refine lv_bipush (v := nI 39) hx hb dX4_twin_17 (by decide) ?_
  refine nb_icmp_le (tgt := 26) hx hb dX4_twin_19 (by decide) (by omega) (by omega) (fun h19 => ?_) (fun h19 => absurd h19 (by omega))
  refine lv_iconst (v := nI 0) hx hb dX4_twin_26 (by decide) ?_
  refine rb_put (E' := mE ad cI (nI 0) n st mn ar) S wb 0 (by decide) rfl rfl in4 tyX4 tyX4_ok nmX4 0 (by decide) bw_462 rfl rfl rfl (Nat.le_of_ble_eq_true rfl) (m12 rfl rfl rfl rfl rfl rfl rfl rfl rfl rfl rfl rfl) dX4_twin_27 (fun H locs wb => ?_)
  refine lv_aload_n hx hb dX4_twin_30 rfl (lv_at hl 0 rfl) ?_
  refine rb_get S wb 0 (by decide) rfl rfl in4 0 (by decide) bw_462 rfl dX4_twin_31 ?_
  refine lv_if_eq (tgt := 39) hx hb dX4_twin_34 (by decide) (fun h34 => ?_) (fun h34 => absurd (by decide) h34)
  refine lv_iconst (v := nI 0) hx hb dX4_twin_39 (by decide) ?_
  refine lv_istore_n (lv' := [(2, .int (nI 0)), (0, .ref (ad 0)), (1, .int (nI i))]) hx hb dX4_twin_40 rfl hl (by decide) rfl (fun ls hl => ?_)
  refine lv_iload_n hx hb dX4_twin_41 rfl (lv_at hl 0 rfl) ?_
  refine lv_iconst (v := nI 5) hx hb dX4_twin_42 (by decide) ?_
  refine nb_icmp_ge (tgt := 75) hx hb dX4_twin_43 (by decide) (by omega) (by omega) (fun h43 => absurd h43 (by omega)) (fun h43 => ?_)
  refine lv_aload_n hx hb dX4_twin_46 rfl (lv_at hl 1 rfl) ?_
  refine rb_get S wb 0 (by decide) rfl rfl in4 13 (by decide) bw_475 rfl dX4_twin_47 ?_
  refine lv_iconst (v := nI 5) hx hb dX4_twin_50 (by decide) ?_
  refine lv_aload_n hx hb dX4_twin_51 rfl (lv_at hl 1 rfl) ?_
  refine rb_get S wb 0 (by decide) rfl rfl in4 12 (by decide) bw_474 rfl dX4_twin_52 ?_
  refine lv_imul hx hb dX4_twin_55 ?_
  refine nb_ren (y := nI (5 * mn)) (pk_mul _ _) ?_
  refine lv_iload_n hx hb dX4_twin_56 rfl (lv_at hl 0 rfl) ?_
  refine lv_iadd hx hb dX4_twin_57 ?_
  refine nb_ren (y := nI (5 * mn + 0)) (nI_add _ _) ?_
  refine lv_aload_n hx hb dX4_twin_58 rfl (lv_at hl 1 rfl) ?_
  refine rb_get S wb 0 (by decide) rfl rfl in4 13 (by decide) bw_475 rfl dX4_twin_59 ?_
  refine lv_iconst (v := nI 5) hx hb dX4_twin_62 (by decide) ?_
  refine lv_iload_n hx hb dX4_twin_63 rfl (lv_at hl 2 rfl) ?_
  refine lv_imul hx hb dX4_twin_64 ?_
  refine nb_ren (y := nI (5 * i)) (pk_mul _ _) ?_
  refine lv_iload_n hx hb dX4_twin_65 rfl (lv_at hl 0 rfl) ?_
  refine lv_iadd hx hb dX4_twin_66 ?_
  refine nb_ren (y := nI (5 * i + 0)) (nI_add _ _) ?_
  refine rb_ald (n := 600) (f := ar 10) (x := ar 10 (5 * i + 0)) S wb 10 (by decide) rfl 0 rfl (5 * i + 0) (by omega) (by decide) rfl dX4_twin_67 ?_
  refine rb_ast (E' := mE ad cI (nI 0) n st mn (va_up ar 10 (upd (ar 10) (5 * mn + 0) (ar 10 (5 * i + 0))))) (n := 600) (f := ar 10) S wb 10 (by decide) rfl 0 rfl (5 * mn + 0) (by omega) (by decide) (m12 rfl rfl rfl rfl rfl rfl rfl rfl rfl rfl rfl rfl) dX4_twin_68 (fun H locs wb => ?_)
  refine lv_iinc (v := nI 1) (lv' := [(2, .int (nI 1)), (0, .ref (ad 0)), (1, .int (nI i))]) hx hb dX4_twin_69 hl (k := 0) rfl (nI_s1 _) (by decide) rfl (fun ls hl => ?_)
  refine lv_goto (tgt := 41) hx hb dX4_twin_72 (by decide) ?_
  refine lv_iload_n hx hb dX4_twin_41 rfl (lv_at hl 0 rfl) ?_
  refine lv_iconst (v := nI 5) hx hb dX4_twin_42 (by decide) ?_
  refine nb_icmp_ge (tgt := 75) hx hb dX4_twin_43 (by decide) (by omega) (by omega) (fun h43 => absurd h43 (by omega)) (fun h43 => ?_)
  refine lv_aload_n hx hb dX4_twin_46 rfl (lv_at hl 1 rfl) ?_
  refine rb_get S wb 0 (by decide) rfl rfl in4 13 (by decide) bw_475 rfl dX4_twin_47 ?_
  refine lv_iconst (v := nI 5) hx hb dX4_twin_50 (by decide) ?_
  refine lv_aload_n hx hb dX4_twin_51 rfl (lv_at hl 1 rfl) ?_
  refine rb_get S wb 0 (by decide) rfl rfl in4 12 (by decide) bw_474 rfl dX4_twin_52 ?_
  refine lv_imul hx hb dX4_twin_55 ?_
  refine nb_ren (y := nI (5 * mn)) (pk_mul _ _) ?_
  refine lv_iload_n hx hb dX4_twin_56 rfl (lv_at hl 0 rfl) ?_
  refine lv_iadd hx hb dX4_twin_57 ?_
  refine nb_ren (y := nI (5 * mn + 1)) (nI_add _ _) ?_
  refine lv_aload_n hx hb dX4_twin_58 rfl (lv_at hl 1 rfl) ?_
  refine rb_get S wb 0 (by decide) rfl rfl in4 13 (by decide) bw_475 rfl dX4_twin_59 ?_
  refine lv_iconst (v := nI 5) hx hb dX4_twin_62 (by decide) ?_
  refine lv_iload_n hx hb dX4_twin_63 rfl (lv_at hl 2 rfl) ?_
  refine lv_imul hx hb dX4_twin_64 ?_
  refine nb_ren (y := nI (5 * i)) (pk_mul _ _) ?_
  refine lv_iload_n hx hb dX4_twin_65 rfl (lv_at hl 0 rfl) ?_
  refine lv_iadd hx hb dX4_twin_66 ?_
  refine nb_ren (y := nI (5 * i + 1)) (nI_add _ _) ?_
  refine rb_ald (n := 600) (f := upd (ar 10) (5 * mn + 0) (ar 10 (5 * i + 0))) (x := ar 10 (5 * i + 1)) S wb 10 (by decide) rfl 0 rfl (5 * i + 1) (by omega) (by decide) (by simp only [upd]; rw [if_neg (by omega)]) dX4_twin_67 ?_
  refine rb_ast (E' := mE ad cI (nI 0) n st mn (va_up ar 10 (upd (upd (ar 10) (5 * mn + 0) (ar 10 (5 * i + 0))) (5 * mn + 1) (ar 10 (5 * i + 1))))) (n := 600) (f := upd (ar 10) (5 * mn + 0) (ar 10 (5 * i + 0))) S wb 10 (by decide) rfl 0 rfl (5 * mn + 1) (by omega) (by decide) (m12 rfl rfl rfl rfl rfl rfl rfl rfl rfl rfl rfl rfl) dX4_twin_68 (fun H locs wb => ?_)
  refine lv_iinc (v := nI 2) (lv' := [(2, .int (nI 2)), (0, .ref (ad 0)), (1, .int (nI i))]) hx hb dX4_twin_69 hl (k := 0) rfl (nI_s1 _) (by decide) rfl (fun ls hl => ?_)
  refine lv_goto (tgt := 41) hx hb dX4_twin_72 (by decide) ?_
  refine lv_iload_n hx hb dX4_twin_41 rfl (lv_at hl 0 rfl) ?_
  refine lv_iconst (v := nI 5) hx hb dX4_twin_42 (by decide) ?_
  refine nb_icmp_ge (tgt := 75) hx hb dX4_twin_43 (by decide) (by omega) (by omega) (fun h43 => absurd h43 (by omega)) (fun h43 => ?_)
  refine lv_aload_n hx hb dX4_twin_46 rfl (lv_at hl 1 rfl) ?_
  refine rb_get S wb 0 (by decide) rfl rfl in4 13 (by decide) bw_475 rfl dX4_twin_47 ?_
  refine lv_iconst (v := nI 5) hx hb dX4_twin_50 (by decide) ?_
  refine lv_aload_n hx hb dX4_twin_51 rfl (lv_at hl 1 rfl) ?_
  refine rb_get S wb 0 (by decide) rfl rfl in4 12 (by decide) bw_474 rfl dX4_twin_52 ?_
  refine lv_imul hx hb dX4_twin_55 ?_
  refine nb_ren (y := nI (5 * mn)) (pk_mul _ _) ?_
  refine lv_iload_n hx hb dX4_twin_56 rfl (lv_at hl 0 rfl) ?_
  refine lv_iadd hx hb dX4_twin_57 ?_
  refine nb_ren (y := nI (5 * mn + 2)) (nI_add _ _) ?_
  refine lv_aload_n hx hb dX4_twin_58 rfl (lv_at hl 1 rfl) ?_
  refine rb_get S wb 0 (by decide) rfl rfl in4 13 (by decide) bw_475 rfl dX4_twin_59 ?_
  refine lv_iconst (v := nI 5) hx hb dX4_twin_62 (by decide) ?_
  refine lv_iload_n hx hb dX4_twin_63 rfl (lv_at hl 2 rfl) ?_
  refine lv_imul hx hb dX4_twin_64 ?_
  refine nb_ren (y := nI (5 * i)) (pk_mul _ _) ?_
  refine lv_iload_n hx hb dX4_twin_65 rfl (lv_at hl 0 rfl) ?_
  refine lv_iadd hx hb dX4_twin_66 ?_
  refine nb_ren (y := nI (5 * i + 2)) (nI_add _ _) ?_
  refine rb_ald (n := 600) (f := upd (upd (ar 10) (5 * mn + 0) (ar 10 (5 * i + 0))) (5 * mn + 1) (ar 10 (5 * i + 1))) (x := ar 10 (5 * i + 2)) S wb 10 (by decide) rfl 0 rfl (5 * i + 2) (by omega) (by decide) (by simp only [upd]; rw [if_neg (by omega)]; rw [if_neg (by omega)]) dX4_twin_67 ?_
  refine rb_ast (E' := mE ad cI (nI 0) n st mn (va_up ar 10 (upd (upd (upd (ar 10) (5 * mn + 0) (ar 10 (5 * i + 0))) (5 * mn + 1) (ar 10 (5 * i + 1))) (5 * mn + 2) (ar 10 (5 * i + 2))))) (n := 600) (f := upd (upd (ar 10) (5 * mn + 0) (ar 10 (5 * i + 0))) (5 * mn + 1) (ar 10 (5 * i + 1))) S wb 10 (by decide) rfl 0 rfl (5 * mn + 2) (by omega) (by decide) (m12 rfl rfl rfl rfl rfl rfl rfl rfl rfl rfl rfl rfl) dX4_twin_68 (fun H locs wb => ?_)
  refine lv_iinc (v := nI 3) (lv' := [(2, .int (nI 3)), (0, .ref (ad 0)), (1, .int (nI i))]) hx hb dX4_twin_69 hl (k := 0) rfl (nI_s1 _) (by decide) rfl (fun ls hl => ?_)
  refine lv_goto (tgt := 41) hx hb dX4_twin_72 (by decide) ?_
  refine lv_iload_n hx hb dX4_twin_41 rfl (lv_at hl 0 rfl) ?_
  refine lv_iconst (v := nI 5) hx hb dX4_twin_42 (by decide) ?_
  refine nb_icmp_ge (tgt := 75) hx hb dX4_twin_43 (by decide) (by omega) (by omega) (fun h43 => absurd h43 (by omega)) (fun h43 => ?_)
  refine lv_aload_n hx hb dX4_twin_46 rfl (lv_at hl 1 rfl) ?_
  refine rb_get S wb 0 (by decide) rfl rfl in4 13 (by decide) bw_475 rfl dX4_twin_47 ?_
  refine lv_iconst (v := nI 5) hx hb dX4_twin_50 (by decide) ?_
  refine lv_aload_n hx hb dX4_twin_51 rfl (lv_at hl 1 rfl) ?_
  refine rb_get S wb 0 (by decide) rfl rfl in4 12 (by decide) bw_474 rfl dX4_twin_52 ?_
  refine lv_imul hx hb dX4_twin_55 ?_
  refine nb_ren (y := nI (5 * mn)) (pk_mul _ _) ?_
  refine lv_iload_n hx hb dX4_twin_56 rfl (lv_at hl 0 rfl) ?_
  refine lv_iadd hx hb dX4_twin_57 ?_
  refine nb_ren (y := nI (5 * mn + 3)) (nI_add _ _) ?_
  refine lv_aload_n hx hb dX4_twin_58 rfl (lv_at hl 1 rfl) ?_
  refine rb_get S wb 0 (by decide) rfl rfl in4 13 (by decide) bw_475 rfl dX4_twin_59 ?_
  refine lv_iconst (v := nI 5) hx hb dX4_twin_62 (by decide) ?_
  refine lv_iload_n hx hb dX4_twin_63 rfl (lv_at hl 2 rfl) ?_
  refine lv_imul hx hb dX4_twin_64 ?_
  refine nb_ren (y := nI (5 * i)) (pk_mul _ _) ?_
  refine lv_iload_n hx hb dX4_twin_65 rfl (lv_at hl 0 rfl) ?_
  refine lv_iadd hx hb dX4_twin_66 ?_
  refine nb_ren (y := nI (5 * i + 3)) (nI_add _ _) ?_
  refine rb_ald (n := 600) (f := upd (upd (upd (ar 10) (5 * mn + 0) (ar 10 (5 * i + 0))) (5 * mn + 1) (ar 10 (5 * i + 1))) (5 * mn + 2) (ar 10 (5 * i + 2))) (x := ar 10 (5 * i + 3)) S wb 10 (by decide) rfl 0 rfl (5 * i + 3) (by omega) (by decide) (by simp only [upd]; rw [if_neg (by omega)]; rw [if_neg (by omega)]; rw [if_neg (by omega)]) dX4_twin_67 ?_
  refine rb_ast (E' := mE ad cI (nI 0) n st mn (va_up ar 10 (upd (upd (upd (upd (ar 10) (5 * mn + 0) (ar 10 (5 * i + 0))) (5 * mn + 1) (ar 10 (5 * i + 1))) (5 * mn + 2) (ar 10 (5 * i + 2))) (5 * mn + 3) (ar 10 (5 * i + 3))))) (n := 600) (f := upd (upd (upd (ar 10) (5 * mn + 0) (ar 10 (5 * i + 0))) (5 * mn + 1) (ar 10 (5 * i + 1))) (5 * mn + 2) (ar 10 (5 * i + 2))) S wb 10 (by decide) rfl 0 rfl (5 * mn + 3) (by omega) (by decide) (m12 rfl rfl rfl rfl rfl rfl rfl rfl rfl rfl rfl rfl) dX4_twin_68 (fun H locs wb => ?_)
  refine lv_iinc (v := nI 4) (lv' := [(2, .int (nI 4)), (0, .ref (ad 0)), (1, .int (nI i))]) hx hb dX4_twin_69 hl (k := 0) rfl (nI_s1 _) (by decide) rfl (fun ls hl => ?_)
  refine lv_goto (tgt := 41) hx hb dX4_twin_72 (by decide) ?_
  refine lv_iload_n hx hb dX4_twin_41 rfl (lv_at hl 0 rfl) ?_
  refine lv_iconst (v := nI 5) hx hb dX4_twin_42 (by decide) ?_
  refine nb_icmp_ge (tgt := 75) hx hb dX4_twin_43 (by decide) (by omega) (by omega) (fun h43 => absurd h43 (by omega)) (fun h43 => ?_)
  refine lv_aload_n hx hb dX4_twin_46 rfl (lv_at hl 1 rfl) ?_
  refine rb_get S wb 0 (by decide) rfl rfl in4 13 (by decide) bw_475 rfl dX4_twin_47 ?_
  refine lv_iconst (v := nI 5) hx hb dX4_twin_50 (by decide) ?_
  refine lv_aload_n hx hb dX4_twin_51 rfl (lv_at hl 1 rfl) ?_
  refine rb_get S wb 0 (by decide) rfl rfl in4 12 (by decide) bw_474 rfl dX4_twin_52 ?_
  refine lv_imul hx hb dX4_twin_55 ?_
  refine nb_ren (y := nI (5 * mn)) (pk_mul _ _) ?_
  refine lv_iload_n hx hb dX4_twin_56 rfl (lv_at hl 0 rfl) ?_
  refine lv_iadd hx hb dX4_twin_57 ?_
  refine nb_ren (y := nI (5 * mn + 4)) (nI_add _ _) ?_
  refine lv_aload_n hx hb dX4_twin_58 rfl (lv_at hl 1 rfl) ?_
  refine rb_get S wb 0 (by decide) rfl rfl in4 13 (by decide) bw_475 rfl dX4_twin_59 ?_
  refine lv_iconst (v := nI 5) hx hb dX4_twin_62 (by decide) ?_
  refine lv_iload_n hx hb dX4_twin_63 rfl (lv_at hl 2 rfl) ?_
  refine lv_imul hx hb dX4_twin_64 ?_
  refine nb_ren (y := nI (5 * i)) (pk_mul _ _) ?_
  refine lv_iload_n hx hb dX4_twin_65 rfl (lv_at hl 0 rfl) ?_
  refine lv_iadd hx hb dX4_twin_66 ?_
  refine nb_ren (y := nI (5 * i + 4)) (nI_add _ _) ?_
  refine rb_ald (n := 600) (f := upd (upd (upd (upd (ar 10) (5 * mn + 0) (ar 10 (5 * i + 0))) (5 * mn + 1) (ar 10 (5 * i + 1))) (5 * mn + 2) (ar 10 (5 * i + 2))) (5 * mn + 3) (ar 10 (5 * i + 3))) (x := ar 10 (5 * i + 4)) S wb 10 (by decide) rfl 0 rfl (5 * i + 4) (by omega) (by decide) (by simp only [upd]; rw [if_neg (by omega)]; rw [if_neg (by omega)]; rw [if_neg (by omega)]; rw [if_neg (by omega)]) dX4_twin_67 ?_
  refine rb_ast (E' := mE ad cI (nI 0) n st mn (va_up ar 10 (upd (upd (upd (upd (upd (ar 10) (5 * mn + 0) (ar 10 (5 * i + 0))) (5 * mn + 1) (ar 10 (5 * i + 1))) (5 * mn + 2) (ar 10 (5 * i + 2))) (5 * mn + 3) (ar 10 (5 * i + 3))) (5 * mn + 4) (ar 10 (5 * i + 4))))) (n := 600) (f := upd (upd (upd (upd (ar 10) (5 * mn + 0) (ar 10 (5 * i + 0))) (5 * mn + 1) (ar 10 (5 * i + 1))) (5 * mn + 2) (ar 10 (5 * i + 2))) (5 * mn + 3) (ar 10 (5 * i + 3))) S wb 10 (by decide) rfl 0 rfl (5 * mn + 4) (by omega) (by decide) (m12 rfl rfl rfl rfl rfl rfl rfl rfl rfl rfl rfl rfl) dX4_twin_68 (fun H locs wb => ?_)
  refine lv_iinc (v := nI 5) (lv' := [(2, .int (nI 5)), (0, .ref (ad 0)), (1, .int (nI i))]) hx hb dX4_twin_69 hl (k := 0) rfl (nI_s1 _) (by decide) rfl (fun ls hl => ?_)
  refine lv_goto (tgt := 41) hx hb dX4_twin_72 (by decide) ?_
  refine lv_iload_n hx hb dX4_twin_41 rfl (lv_at hl 0 rfl) ?_
  refine lv_iconst (v := nI 5) hx hb dX4_twin_42 (by decide) ?_
  refine nb_icmp_ge (tgt := 75) hx hb dX4_twin_43 (by decide) (by omega) (by omega) (fun h43 => ?_) (fun h43 => absurd h43 (by omega))
  refine lv_aload_n hx hb dX4_twin_75 rfl (lv_at hl 1 rfl) ?_
  refine lv_dup hx hb dX4_twin_76 rfl ?_
  refine rb_get S wb 0 (by decide) rfl rfl in4 12 (by decide) bw_474 rfl dX4_twin_77 ?_
  refine lv_iconst (v := nI 1) hx hb dX4_twin_80 (by decide) ?_
  refine lv_iadd hx hb dX4_twin_81 ?_
  refine nb_ren (y := nI (mn + 1)) (nI_add _ _) ?_
  refine rb_put (E' := mE ad cI (nI 0) n st (mn + 1) (va_up ar 10 (upd (upd (upd (upd (upd (ar 10) (5 * mn + 0) (ar 10 (5 * i + 0))) (5 * mn + 1) (ar 10 (5 * i + 1))) (5 * mn + 2) (ar 10 (5 * i + 2))) (5 * mn + 3) (ar 10 (5 * i + 3))) (5 * mn + 4) (ar 10 (5 * i + 4))))) S wb 0 (by decide) rfl rfl in4 tyX4 tyX4_ok nmX4 12 (by decide) bw_474 rfl rfl rfl (Nat.le_of_ble_eq_true rfl) (m12 rfl rfl rfl rfl rfl rfl rfl rfl rfl rfl rfl rfl) dX4_twin_82 (fun H locs wb => ?_)
  refine lv_aload_n hx hb dX4_twin_85 rfl (lv_at hl 1 rfl) ?_
  refine rb_get S wb 0 (by decide) rfl rfl in4 12 (by decide) bw_474 rfl dX4_twin_86 ?_
  exact rb_iret S hr hlk hQ rfl wb (m12 rfl rfl rfl rfl rfl rfl rfl rfl rfl rfl rfl rfl) dX4_twin_89

set_option maxHeartbeats 4000000 in
set_option maxRecDepth 100000 in
theorem m_bidComes (l : Launch) (D : va_G) (cI cC cD : ClassId) (ad : Nat → Nat) (th : Int32) (n : Nat) (st : Int32) (mn : Nat) (ar : Nat → Nat → Int32) (c j : Nat) (b a : Int32) (hc : c < 6) (hj : j < 6) (hm : mn < 118) : RM l yX4_bidComes cX4_bidComes 6 none ({ frames := 1, cells := 0, slots := 0, locals := 26 }) D (ty3 cI cC cD) EN0 [.ref (ad 0), .int (nI c), .int (nI j), .int b, .int a] ad 12 (mE ad cI th n st mn ar) (mE ad cI th n st (bidC st mn ar c j b a).1 (bidC st mn ar c j b a).2) none := by
  refine RM.of (by decide) (Nat.le_of_ble_eq_true rfl) ?_
  intro p e s m below meth c0 A ls args Q0 S hr hlk hQ wb hl
  have hx := S.1
  have hb := S.2.1
  have hl : lv_has ls 6 [(0, .ref (ad 0)), (1, .int (nI c)), (2, .int (nI j)), (3, .int b), (4, .int a)] := hl
  refine lv_aload_n hx hb dX4_bidComes_0 rfl (lv_at hl 0 rfl) ?_
  refine rb_get S wb 0 (by decide) rfl rfl in4 6 (by decide) bw_468 rfl dX4_bidComes_1 ?_
  refine lv_iload_n hx hb dX4_bidComes_4 rfl (lv_at hl 2 rfl) ?_
  refine rb_ald (n := 6) (f := ar 4) (x := ar 4 j) S wb 4 (by decide) rfl 0 rfl j (by omega) (by decide) rfl dX4_bidComes_5 ?_
  refine lv_iload_n hx hb dX4_bidComes_6 rfl (lv_at hl 1 rfl) ?_
  refine lv_icmp_ne (tgt := 24) hx hb dX4_bidComes_7 (by decide) (fun h7 => ?_) (fun h7 => ?_)
  · refine lv_iconst (v := nI 0) hx hb dX4_bidComes_24 (by decide) ?_
    refine lv_istore (lv' := [(5, .int (nI 0)), (0, .ref (ad 0)), (1, .int (nI c)), (2, .int (nI j)), (3, .int b), (4, .int a)]) hx hb dX4_bidComes_25 hl (by decide) rfl (fun ls hl => ?_)
    refine lv_iload hx hb dX4_bidComes_27 (lv_at hl 0 rfl) ?_
    refine lv_if_ne (tgt := 63) hx hb dX4_bidComes_29 (by decide) (fun h29 => absurd (by decide) h29) (fun h29 => ?_)
    refine lv_iload hx hb dX4_bidComes_32 (lv_at hl 5 rfl) ?_
    refine lv_aload_n hx hb dX4_bidComes_34 rfl (lv_at hl 1 rfl) ?_
    refine rb_get S wb 0 (by decide) rfl rfl in4 5 (by decide) bw_467 rfl dX4_bidComes_35 ?_
    refine lv_iload_n hx hb dX4_bidComes_38 rfl (lv_at hl 3 rfl) ?_
    refine rb_ald (n := 6) (f := ar 3) (x := ar 3 j) S wb 3 (by decide) rfl 0 rfl j (by omega) (by decide) rfl dX4_bidComes_39 ?_
    refine lv_aload_n hx hb dX4_bidComes_40 rfl (lv_at hl 1 rfl) ?_
    refine rb_get S wb 0 (by decide) rfl rfl in4 2 (by decide) bw_464 rfl dX4_bidComes_41 ?_
    refine lv_iadd hx hb dX4_bidComes_44 ?_
    refine lv_icmp_ge (tgt := 63) hx hb dX4_bidComes_45 (by decide) (fun h45 => ?_) (fun h45 => ?_)
    · refine lv_iload hx hb dX4_bidComes_63 (lv_at hl 0 rfl) ?_
      refine lv_if_ne (tgt := 120) hx hb dX4_bidComes_65 (by decide) (fun h65 => absurd (by decide) h65) (fun h65 => ?_)
      refine lv_aload_n hx hb dX4_bidComes_68 rfl (lv_at hl 1 rfl) ?_
      refine rb_get S wb 0 (by decide) rfl rfl in4 5 (by decide) bw_467 rfl dX4_bidComes_69 ?_
      refine lv_iload_n hx hb dX4_bidComes_72 rfl (lv_at hl 3 rfl) ?_
      refine lv_iload hx hb dX4_bidComes_73 (lv_at hl 5 rfl) ?_
      refine rb_ast (E' := mE ad cI th n st mn (va_up ar 3 (upd (ar 3) j a))) (n := 6) (f := ar 3) S wb 3 (by decide) rfl 0 rfl j (by omega) (by decide) (m12 rfl rfl rfl rfl rfl rfl rfl rfl rfl rfl rfl rfl) dX4_bidComes_75 (fun H locs wb => ?_)
      refine lv_aload_n hx hb dX4_bidComes_76 rfl (lv_at hl 1 rfl) ?_
      refine rb_get S wb 0 (by decide) rfl rfl in4 6 (by decide) bw_468 rfl dX4_bidComes_77 ?_
      refine lv_iload_n hx hb dX4_bidComes_80 rfl (lv_at hl 3 rfl) ?_
      refine rb_ald (n := 6) (f := ar 4) (x := ar 4 j) S wb 4 (by decide) rfl 0 rfl j (by omega) (by decide) rfl dX4_bidComes_81 ?_
      refine lv_iconst (v := (-1)) hx hb dX4_bidComes_82 (by decide) ?_
      refine lv_icmp_eq (tgt := 106) hx hb dX4_bidComes_83 (by decide) (fun h83 => ?_) (fun h83 => ?_)
      · refine lv_aload_n hx hb dX4_bidComes_106 rfl (lv_at hl 1 rfl) ?_
        refine rb_get S wb 0 (by decide) rfl rfl in4 6 (by decide) bw_468 rfl dX4_bidComes_107 ?_
        refine lv_iload_n hx hb dX4_bidComes_110 rfl (lv_at hl 3 rfl) ?_
        refine lv_iload_n hx hb dX4_bidComes_111 rfl (lv_at hl 2 rfl) ?_
        refine rb_ast (E' := mE ad cI th n st mn (va_up (va_up ar 3 (upd (ar 3) j a)) 4 (upd (ar 4) j (nI c)))) (n := 6) (f := ar 4) S wb 4 (by decide) rfl 0 rfl j (by omega) (by decide) (m12 rfl rfl rfl rfl rfl rfl rfl rfl rfl rfl rfl rfl) dX4_bidComes_112 (fun H locs wb => ?_)
        refine lv_aload_n hx hb dX4_bidComes_113 rfl (lv_at hl 1 rfl) ?_
        refine rb_get S wb 0 (by decide) rfl rfl in4 7 (by decide) bw_469 rfl dX4_bidComes_114 ?_
        refine lv_iload_n hx hb dX4_bidComes_117 rfl (lv_at hl 3 rfl) ?_
        refine lv_iload_n hx hb dX4_bidComes_118 rfl (lv_at hl 4 rfl) ?_
        refine rb_ast (E' := mE ad cI th n st mn (va_up (va_up (va_up ar 3 (upd (ar 3) j a)) 4 (upd (ar 4) j (nI c))) 5 (upd (ar 5) j b))) (n := 6) (f := ar 5) S wb 5 (by decide) rfl 0 rfl j (by omega) (by decide) (m12 rfl rfl rfl rfl rfl rfl rfl rfl rfl rfl rfl rfl) dX4_bidComes_119 (fun H locs wb => ?_)
        refine lv_aload_n hx hb dX4_bidComes_120 rfl (lv_at hl 1 rfl) ?_
        refine lv_iconst (v := nI 1) hx hb dX4_bidComes_121 (by decide) ?_
        refine lv_iload_n hx hb dX4_bidComes_122 rfl (lv_at hl 2 rfl) ?_
        refine lv_iload_n hx hb dX4_bidComes_123 rfl (lv_at hl 3 rfl) ?_
        refine lv_iload_n hx hb dX4_bidComes_124 rfl (lv_at hl 4 rfl) ?_
        refine lv_aload_n hx hb dX4_bidComes_125 rfl (lv_at hl 1 rfl) ?_
        refine rb_get S wb 0 (by decide) rfl rfl in4 5 (by decide) bw_467 rfl dX4_bidComes_126 ?_
        refine lv_iload_n hx hb dX4_bidComes_129 rfl (lv_at hl 3 rfl) ?_
        refine rb_ald (n := 6) (f := upd (ar 3) j a) (x := a) S wb 3 (by decide) rfl 0 rfl j (by omega) (by decide) pk_us dX4_bidComes_130 ?_
        refine rb_callV S wb EN0_ok (m_send1 l D cI cC cD ad th n st mn (va_up (va_up (va_up ar 3 (upd (ar 3) j a)) 4 (upd (ar 4) j (nI c))) 5 (upd (ar 5) j b)) 1 (nI c) (nI j) b a (by omega) (by omega) (by omega)) (bw5 bw_532 bw_534 bw_25 bw_37 bw_535) (rb_recv wb 0 (by decide) rfl rfl) hdX4_send rfl ⟨rfl, rfl⟩ ⟨by decide, by decide⟩ hl.1 (Nat.le_of_ble_eq_true rfl) ⟨Nat.zero_le _, Nat.zero_le _⟩ (rest := []) (st1 := []) rfl rfl dX4_bidComes_131 (fun H locs wb => ?_)
        exact rb_vret S hr hlk hQ wb (by first | (rw [bidC_1 h7 h17]; exact (m12 rfl rfl rfl rfl rfl rfl rfl rfl rfl rfl rfl rfl)) | (rw [bidC_2 (fun q => h7 q.1) h45]; exact (m12 rfl rfl rfl rfl rfl rfl rfl rfl rfl rfl rfl rfl)) | (rw [bidC_2 (fun q => h17 q.2) h45]; exact (m12 rfl rfl rfl rfl rfl rfl rfl rfl rfl rfl rfl rfl)) | (rw [bidC_3 (fun q => h7 q.1) h45 h83]; exact (m12 rfl rfl rfl rfl rfl rfl rfl rfl rfl rfl rfl rfl)) | (rw [bidC_3 (fun q => h17 q.2) h45 h83]; exact (m12 rfl rfl rfl rfl rfl rfl rfl rfl rfl rfl rfl rfl)) | (rw [bidC_4 (fun q => h7 q.1) h45 h83]; exact (m12 rfl rfl rfl rfl rfl rfl rfl rfl rfl rfl rfl rfl)) | (rw [bidC_4 (fun q => h17 q.2) h45 h83]; exact (m12 rfl rfl rfl rfl rfl rfl rfl rfl rfl rfl rfl rfl))) dX4_bidComes_134
      · refine lv_aload_n hx hb dX4_bidComes_86 rfl (lv_at hl 1 rfl) ?_
        refine lv_iconst (v := nI 3) hx hb dX4_bidComes_87 (by decide) ?_
        refine lv_aload_n hx hb dX4_bidComes_88 rfl (lv_at hl 1 rfl) ?_
        refine rb_get S wb 0 (by decide) rfl rfl in4 6 (by decide) bw_468 rfl dX4_bidComes_89 ?_
        refine lv_iload_n hx hb dX4_bidComes_92 rfl (lv_at hl 3 rfl) ?_
        refine rb_ald (n := 6) (f := ar 4) (x := ar 4 j) S wb 4 (by decide) rfl 0 rfl j (by omega) (by decide) rfl dX4_bidComes_93 ?_
        refine lv_iload_n hx hb dX4_bidComes_94 rfl (lv_at hl 3 rfl) ?_
        refine lv_aload_n hx hb dX4_bidComes_95 rfl (lv_at hl 1 rfl) ?_
        refine rb_get S wb 0 (by decide) rfl rfl in4 7 (by decide) bw_469 rfl dX4_bidComes_96 ?_
        refine lv_iload_n hx hb dX4_bidComes_99 rfl (lv_at hl 3 rfl) ?_
        refine rb_ald (n := 6) (f := ar 5) (x := ar 5 j) S wb 5 (by decide) rfl 0 rfl j (by omega) (by decide) rfl dX4_bidComes_100 ?_
        refine lv_iload hx hb dX4_bidComes_101 (lv_at hl 5 rfl) ?_
        refine rb_callV S wb EN0_ok (m_send1 l D cI cC cD ad th n st mn (va_up ar 3 (upd (ar 3) j a)) 3 (ar 4 j) (nI j) (ar 5 j) a (by omega) (by omega) (by omega)) (bw5 bw_532 bw_534 bw_25 bw_37 bw_535) (rb_recv wb 0 (by decide) rfl rfl) hdX4_send rfl ⟨rfl, rfl⟩ ⟨by decide, by decide⟩ hl.1 (Nat.le_of_ble_eq_true rfl) ⟨Nat.zero_le _, Nat.zero_le _⟩ (rest := []) (st1 := []) rfl rfl dX4_bidComes_103 (fun H locs wb => ?_)
        refine lv_aload_n hx hb dX4_bidComes_106 rfl (lv_at hl 1 rfl) ?_
        refine rb_get S wb 0 (by decide) rfl rfl in4 6 (by decide) bw_468 rfl dX4_bidComes_107 ?_
        refine lv_iload_n hx hb dX4_bidComes_110 rfl (lv_at hl 3 rfl) ?_
        refine lv_iload_n hx hb dX4_bidComes_111 rfl (lv_at hl 2 rfl) ?_
        refine rb_ast (E' := mE ad cI th n st (mn + 1) (va_up (va_up (va_up (va_up ar 3 (upd (ar 3) j a)) 4 (upd (ar 4) j (nI c))) 10 (put5 (ar 10) (5 * mn) (nI 3) (ar 4 j) (nI j) (ar 5 j) a)) 11 (upd (ar 11) 3 (ar 11 3 + nI 1)))) (n := 6) (f := ar 4) S wb 4 (by decide) rfl 0 rfl j (by omega) (by decide) (m12 rfl rfl rfl rfl rfl rfl rfl rfl rfl rfl rfl rfl) dX4_bidComes_112 (fun H locs wb => ?_)
        refine lv_aload_n hx hb dX4_bidComes_113 rfl (lv_at hl 1 rfl) ?_
        refine rb_get S wb 0 (by decide) rfl rfl in4 7 (by decide) bw_469 rfl dX4_bidComes_114 ?_
        refine lv_iload_n hx hb dX4_bidComes_117 rfl (lv_at hl 3 rfl) ?_
        refine lv_iload_n hx hb dX4_bidComes_118 rfl (lv_at hl 4 rfl) ?_
        refine rb_ast (E' := mE ad cI th n st (mn + 1) (va_up (va_up (va_up (va_up (va_up ar 3 (upd (ar 3) j a)) 4 (upd (ar 4) j (nI c))) 5 (upd (ar 5) j b)) 10 (put5 (ar 10) (5 * mn) (nI 3) (ar 4 j) (nI j) (ar 5 j) a)) 11 (upd (ar 11) 3 (ar 11 3 + nI 1)))) (n := 6) (f := ar 5) S wb 5 (by decide) rfl 0 rfl j (by omega) (by decide) (m12 rfl rfl rfl rfl rfl rfl rfl rfl rfl rfl rfl rfl) dX4_bidComes_119 (fun H locs wb => ?_)
        refine lv_aload_n hx hb dX4_bidComes_120 rfl (lv_at hl 1 rfl) ?_
        refine lv_iconst (v := nI 1) hx hb dX4_bidComes_121 (by decide) ?_
        refine lv_iload_n hx hb dX4_bidComes_122 rfl (lv_at hl 2 rfl) ?_
        refine lv_iload_n hx hb dX4_bidComes_123 rfl (lv_at hl 3 rfl) ?_
        refine lv_iload_n hx hb dX4_bidComes_124 rfl (lv_at hl 4 rfl) ?_
        refine lv_aload_n hx hb dX4_bidComes_125 rfl (lv_at hl 1 rfl) ?_
        refine rb_get S wb 0 (by decide) rfl rfl in4 5 (by decide) bw_467 rfl dX4_bidComes_126 ?_
        refine lv_iload_n hx hb dX4_bidComes_129 rfl (lv_at hl 3 rfl) ?_
        refine rb_ald (n := 6) (f := upd (ar 3) j a) (x := a) S wb 3 (by decide) rfl 0 rfl j (by omega) (by decide) pk_us dX4_bidComes_130 ?_
        refine rb_callV S wb EN0_ok (m_send1 l D cI cC cD ad th n st (mn + 1) (va_up (va_up (va_up (va_up (va_up ar 3 (upd (ar 3) j a)) 4 (upd (ar 4) j (nI c))) 5 (upd (ar 5) j b)) 10 (put5 (ar 10) (5 * mn) (nI 3) (ar 4 j) (nI j) (ar 5 j) a)) 11 (upd (ar 11) 3 (ar 11 3 + nI 1))) 1 (nI c) (nI j) b a (by omega) (by omega) (by omega)) (bw5 bw_532 bw_534 bw_25 bw_37 bw_535) (rb_recv wb 0 (by decide) rfl rfl) hdX4_send rfl ⟨rfl, rfl⟩ ⟨by decide, by decide⟩ hl.1 (Nat.le_of_ble_eq_true rfl) ⟨Nat.zero_le _, Nat.zero_le _⟩ (rest := []) (st1 := []) rfl rfl dX4_bidComes_131 (fun H locs wb => ?_)
        exact rb_vret S hr hlk hQ wb (by first | (rw [bidC_1 h7 h17]; exact (m12 rfl rfl rfl rfl rfl rfl rfl rfl rfl rfl rfl rfl)) | (rw [bidC_2 (fun q => h7 q.1) h45]; exact (m12 rfl rfl rfl rfl rfl rfl rfl rfl rfl rfl rfl rfl)) | (rw [bidC_2 (fun q => h17 q.2) h45]; exact (m12 rfl rfl rfl rfl rfl rfl rfl rfl rfl rfl rfl rfl)) | (rw [bidC_3 (fun q => h7 q.1) h45 h83]; exact (m12 rfl rfl rfl rfl rfl rfl rfl rfl rfl rfl rfl rfl)) | (rw [bidC_3 (fun q => h17 q.2) h45 h83]; exact (m12 rfl rfl rfl rfl rfl rfl rfl rfl rfl rfl rfl rfl)) | (rw [bidC_4 (fun q => h7 q.1) h45 h83]; exact (m12 rfl rfl rfl rfl rfl rfl rfl rfl rfl rfl rfl rfl)) | (rw [bidC_4 (fun q => h17 q.2) h45 h83]; exact (m12 rfl rfl rfl rfl rfl rfl rfl rfl rfl rfl rfl rfl))) dX4_bidComes_134
    · refine lv_aload_n hx hb dX4_bidComes_48 rfl (lv_at hl 1 rfl) ?_
      refine lv_iconst (v := nI 2) hx hb dX4_bidComes_49 (by decide) ?_
      refine lv_iload_n hx hb dX4_bidComes_50 rfl (lv_at hl 2 rfl) ?_
      refine lv_iload_n hx hb dX4_bidComes_51 rfl (lv_at hl 3 rfl) ?_
      refine lv_iload_n hx hb dX4_bidComes_52 rfl (lv_at hl 4 rfl) ?_
      refine lv_aload_n hx hb dX4_bidComes_53 rfl (lv_at hl 1 rfl) ?_
      refine rb_get S wb 0 (by decide) rfl rfl in4 5 (by decide) bw_467 rfl dX4_bidComes_54 ?_
      refine lv_iload_n hx hb dX4_bidComes_57 rfl (lv_at hl 3 rfl) ?_
      refine rb_ald (n := 6) (f := ar 3) (x := ar 3 j) S wb 3 (by decide) rfl 0 rfl j (by omega) (by decide) rfl dX4_bidComes_58 ?_
      refine rb_callV S wb EN0_ok (m_send1 l D cI cC cD ad th n st mn ar 2 (nI c) (nI j) b (ar 3 j) (by omega) (by omega) (by omega)) (bw5 bw_532 bw_534 bw_25 bw_37 bw_535) (rb_recv wb 0 (by decide) rfl rfl) hdX4_send rfl ⟨rfl, rfl⟩ ⟨by decide, by decide⟩ hl.1 (Nat.le_of_ble_eq_true rfl) ⟨Nat.zero_le _, Nat.zero_le _⟩ (rest := []) (st1 := []) rfl rfl dX4_bidComes_59 (fun H locs wb => ?_)
      exact rb_vret S hr hlk hQ wb (by first | (rw [bidC_1 h7 h17]; exact (m12 rfl rfl rfl rfl rfl rfl rfl rfl rfl rfl rfl rfl)) | (rw [bidC_2 (fun q => h7 q.1) h45]; exact (m12 rfl rfl rfl rfl rfl rfl rfl rfl rfl rfl rfl rfl)) | (rw [bidC_2 (fun q => h17 q.2) h45]; exact (m12 rfl rfl rfl rfl rfl rfl rfl rfl rfl rfl rfl rfl)) | (rw [bidC_3 (fun q => h7 q.1) h45 h83]; exact (m12 rfl rfl rfl rfl rfl rfl rfl rfl rfl rfl rfl rfl)) | (rw [bidC_3 (fun q => h17 q.2) h45 h83]; exact (m12 rfl rfl rfl rfl rfl rfl rfl rfl rfl rfl rfl rfl)) | (rw [bidC_4 (fun q => h7 q.1) h45 h83]; exact (m12 rfl rfl rfl rfl rfl rfl rfl rfl rfl rfl rfl rfl)) | (rw [bidC_4 (fun q => h17 q.2) h45 h83]; exact (m12 rfl rfl rfl rfl rfl rfl rfl rfl rfl rfl rfl rfl))) dX4_bidComes_62
  · refine lv_aload_n hx hb dX4_bidComes_10 rfl (lv_at hl 0 rfl) ?_
    refine rb_get S wb 0 (by decide) rfl rfl in4 7 (by decide) bw_469 rfl dX4_bidComes_11 ?_
    refine lv_iload_n hx hb dX4_bidComes_14 rfl (lv_at hl 2 rfl) ?_
    refine rb_ald (n := 6) (f := ar 5) (x := ar 5 j) S wb 5 (by decide) rfl 0 rfl j (by omega) (by decide) rfl dX4_bidComes_15 ?_
    refine lv_iload_n hx hb dX4_bidComes_16 rfl (lv_at hl 3 rfl) ?_
    refine lv_icmp_ne (tgt := 24) hx hb dX4_bidComes_17 (by decide) (fun h17 => ?_) (fun h17 => ?_)
    · refine lv_iconst (v := nI 0) hx hb dX4_bidComes_24 (by decide) ?_
      refine lv_istore (lv' := [(5, .int (nI 0)), (0, .ref (ad 0)), (1, .int (nI c)), (2, .int (nI j)), (3, .int b), (4, .int a)]) hx hb dX4_bidComes_25 hl (by decide) rfl (fun ls hl => ?_)
      refine lv_iload hx hb dX4_bidComes_27 (lv_at hl 0 rfl) ?_
      refine lv_if_ne (tgt := 63) hx hb dX4_bidComes_29 (by decide) (fun h29 => absurd (by decide) h29) (fun h29 => ?_)
      refine lv_iload hx hb dX4_bidComes_32 (lv_at hl 5 rfl) ?_
      refine lv_aload_n hx hb dX4_bidComes_34 rfl (lv_at hl 1 rfl) ?_
      refine rb_get S wb 0 (by decide) rfl rfl in4 5 (by decide) bw_467 rfl dX4_bidComes_35 ?_
      refine lv_iload_n hx hb dX4_bidComes_38 rfl (lv_at hl 3 rfl) ?_
      refine rb_ald (n := 6) (f := ar 3) (x := ar 3 j) S wb 3 (by decide) rfl 0 rfl j (by omega) (by decide) rfl dX4_bidComes_39 ?_
      refine lv_aload_n hx hb dX4_bidComes_40 rfl (lv_at hl 1 rfl) ?_
      refine rb_get S wb 0 (by decide) rfl rfl in4 2 (by decide) bw_464 rfl dX4_bidComes_41 ?_
      refine lv_iadd hx hb dX4_bidComes_44 ?_
      refine lv_icmp_ge (tgt := 63) hx hb dX4_bidComes_45 (by decide) (fun h45 => ?_) (fun h45 => ?_)
      · refine lv_iload hx hb dX4_bidComes_63 (lv_at hl 0 rfl) ?_
        refine lv_if_ne (tgt := 120) hx hb dX4_bidComes_65 (by decide) (fun h65 => absurd (by decide) h65) (fun h65 => ?_)
        refine lv_aload_n hx hb dX4_bidComes_68 rfl (lv_at hl 1 rfl) ?_
        refine rb_get S wb 0 (by decide) rfl rfl in4 5 (by decide) bw_467 rfl dX4_bidComes_69 ?_
        refine lv_iload_n hx hb dX4_bidComes_72 rfl (lv_at hl 3 rfl) ?_
        refine lv_iload hx hb dX4_bidComes_73 (lv_at hl 5 rfl) ?_
        refine rb_ast (E' := mE ad cI th n st mn (va_up ar 3 (upd (ar 3) j a))) (n := 6) (f := ar 3) S wb 3 (by decide) rfl 0 rfl j (by omega) (by decide) (m12 rfl rfl rfl rfl rfl rfl rfl rfl rfl rfl rfl rfl) dX4_bidComes_75 (fun H locs wb => ?_)
        refine lv_aload_n hx hb dX4_bidComes_76 rfl (lv_at hl 1 rfl) ?_
        refine rb_get S wb 0 (by decide) rfl rfl in4 6 (by decide) bw_468 rfl dX4_bidComes_77 ?_
        refine lv_iload_n hx hb dX4_bidComes_80 rfl (lv_at hl 3 rfl) ?_
        refine rb_ald (n := 6) (f := ar 4) (x := ar 4 j) S wb 4 (by decide) rfl 0 rfl j (by omega) (by decide) rfl dX4_bidComes_81 ?_
        refine lv_iconst (v := (-1)) hx hb dX4_bidComes_82 (by decide) ?_
        refine lv_icmp_eq (tgt := 106) hx hb dX4_bidComes_83 (by decide) (fun h83 => ?_) (fun h83 => ?_)
        · refine lv_aload_n hx hb dX4_bidComes_106 rfl (lv_at hl 1 rfl) ?_
          refine rb_get S wb 0 (by decide) rfl rfl in4 6 (by decide) bw_468 rfl dX4_bidComes_107 ?_
          refine lv_iload_n hx hb dX4_bidComes_110 rfl (lv_at hl 3 rfl) ?_
          refine lv_iload_n hx hb dX4_bidComes_111 rfl (lv_at hl 2 rfl) ?_
          refine rb_ast (E' := mE ad cI th n st mn (va_up (va_up ar 3 (upd (ar 3) j a)) 4 (upd (ar 4) j (nI c)))) (n := 6) (f := ar 4) S wb 4 (by decide) rfl 0 rfl j (by omega) (by decide) (m12 rfl rfl rfl rfl rfl rfl rfl rfl rfl rfl rfl rfl) dX4_bidComes_112 (fun H locs wb => ?_)
          refine lv_aload_n hx hb dX4_bidComes_113 rfl (lv_at hl 1 rfl) ?_
          refine rb_get S wb 0 (by decide) rfl rfl in4 7 (by decide) bw_469 rfl dX4_bidComes_114 ?_
          refine lv_iload_n hx hb dX4_bidComes_117 rfl (lv_at hl 3 rfl) ?_
          refine lv_iload_n hx hb dX4_bidComes_118 rfl (lv_at hl 4 rfl) ?_
          refine rb_ast (E' := mE ad cI th n st mn (va_up (va_up (va_up ar 3 (upd (ar 3) j a)) 4 (upd (ar 4) j (nI c))) 5 (upd (ar 5) j b))) (n := 6) (f := ar 5) S wb 5 (by decide) rfl 0 rfl j (by omega) (by decide) (m12 rfl rfl rfl rfl rfl rfl rfl rfl rfl rfl rfl rfl) dX4_bidComes_119 (fun H locs wb => ?_)
          refine lv_aload_n hx hb dX4_bidComes_120 rfl (lv_at hl 1 rfl) ?_
          refine lv_iconst (v := nI 1) hx hb dX4_bidComes_121 (by decide) ?_
          refine lv_iload_n hx hb dX4_bidComes_122 rfl (lv_at hl 2 rfl) ?_
          refine lv_iload_n hx hb dX4_bidComes_123 rfl (lv_at hl 3 rfl) ?_
          refine lv_iload_n hx hb dX4_bidComes_124 rfl (lv_at hl 4 rfl) ?_
          refine lv_aload_n hx hb dX4_bidComes_125 rfl (lv_at hl 1 rfl) ?_
          refine rb_get S wb 0 (by decide) rfl rfl in4 5 (by decide) bw_467 rfl dX4_bidComes_126 ?_
          refine lv_iload_n hx hb dX4_bidComes_129 rfl (lv_at hl 3 rfl) ?_
          refine rb_ald (n := 6) (f := upd (ar 3) j a) (x := a) S wb 3 (by decide) rfl 0 rfl j (by omega) (by decide) pk_us dX4_bidComes_130 ?_
          refine rb_callV S wb EN0_ok (m_send1 l D cI cC cD ad th n st mn (va_up (va_up (va_up ar 3 (upd (ar 3) j a)) 4 (upd (ar 4) j (nI c))) 5 (upd (ar 5) j b)) 1 (nI c) (nI j) b a (by omega) (by omega) (by omega)) (bw5 bw_532 bw_534 bw_25 bw_37 bw_535) (rb_recv wb 0 (by decide) rfl rfl) hdX4_send rfl ⟨rfl, rfl⟩ ⟨by decide, by decide⟩ hl.1 (Nat.le_of_ble_eq_true rfl) ⟨Nat.zero_le _, Nat.zero_le _⟩ (rest := []) (st1 := []) rfl rfl dX4_bidComes_131 (fun H locs wb => ?_)
          exact rb_vret S hr hlk hQ wb (by first | (rw [bidC_1 h7 h17]; exact (m12 rfl rfl rfl rfl rfl rfl rfl rfl rfl rfl rfl rfl)) | (rw [bidC_2 (fun q => h7 q.1) h45]; exact (m12 rfl rfl rfl rfl rfl rfl rfl rfl rfl rfl rfl rfl)) | (rw [bidC_2 (fun q => h17 q.2) h45]; exact (m12 rfl rfl rfl rfl rfl rfl rfl rfl rfl rfl rfl rfl)) | (rw [bidC_3 (fun q => h7 q.1) h45 h83]; exact (m12 rfl rfl rfl rfl rfl rfl rfl rfl rfl rfl rfl rfl)) | (rw [bidC_3 (fun q => h17 q.2) h45 h83]; exact (m12 rfl rfl rfl rfl rfl rfl rfl rfl rfl rfl rfl rfl)) | (rw [bidC_4 (fun q => h7 q.1) h45 h83]; exact (m12 rfl rfl rfl rfl rfl rfl rfl rfl rfl rfl rfl rfl)) | (rw [bidC_4 (fun q => h17 q.2) h45 h83]; exact (m12 rfl rfl rfl rfl rfl rfl rfl rfl rfl rfl rfl rfl))) dX4_bidComes_134
        · refine lv_aload_n hx hb dX4_bidComes_86 rfl (lv_at hl 1 rfl) ?_
          refine lv_iconst (v := nI 3) hx hb dX4_bidComes_87 (by decide) ?_
          refine lv_aload_n hx hb dX4_bidComes_88 rfl (lv_at hl 1 rfl) ?_
          refine rb_get S wb 0 (by decide) rfl rfl in4 6 (by decide) bw_468 rfl dX4_bidComes_89 ?_
          refine lv_iload_n hx hb dX4_bidComes_92 rfl (lv_at hl 3 rfl) ?_
          refine rb_ald (n := 6) (f := ar 4) (x := ar 4 j) S wb 4 (by decide) rfl 0 rfl j (by omega) (by decide) rfl dX4_bidComes_93 ?_
          refine lv_iload_n hx hb dX4_bidComes_94 rfl (lv_at hl 3 rfl) ?_
          refine lv_aload_n hx hb dX4_bidComes_95 rfl (lv_at hl 1 rfl) ?_
          refine rb_get S wb 0 (by decide) rfl rfl in4 7 (by decide) bw_469 rfl dX4_bidComes_96 ?_
          refine lv_iload_n hx hb dX4_bidComes_99 rfl (lv_at hl 3 rfl) ?_
          refine rb_ald (n := 6) (f := ar 5) (x := ar 5 j) S wb 5 (by decide) rfl 0 rfl j (by omega) (by decide) rfl dX4_bidComes_100 ?_
          refine lv_iload hx hb dX4_bidComes_101 (lv_at hl 5 rfl) ?_
          refine rb_callV S wb EN0_ok (m_send1 l D cI cC cD ad th n st mn (va_up ar 3 (upd (ar 3) j a)) 3 (ar 4 j) (nI j) (ar 5 j) a (by omega) (by omega) (by omega)) (bw5 bw_532 bw_534 bw_25 bw_37 bw_535) (rb_recv wb 0 (by decide) rfl rfl) hdX4_send rfl ⟨rfl, rfl⟩ ⟨by decide, by decide⟩ hl.1 (Nat.le_of_ble_eq_true rfl) ⟨Nat.zero_le _, Nat.zero_le _⟩ (rest := []) (st1 := []) rfl rfl dX4_bidComes_103 (fun H locs wb => ?_)
          refine lv_aload_n hx hb dX4_bidComes_106 rfl (lv_at hl 1 rfl) ?_
          refine rb_get S wb 0 (by decide) rfl rfl in4 6 (by decide) bw_468 rfl dX4_bidComes_107 ?_
          refine lv_iload_n hx hb dX4_bidComes_110 rfl (lv_at hl 3 rfl) ?_
          refine lv_iload_n hx hb dX4_bidComes_111 rfl (lv_at hl 2 rfl) ?_
          refine rb_ast (E' := mE ad cI th n st (mn + 1) (va_up (va_up (va_up (va_up ar 3 (upd (ar 3) j a)) 4 (upd (ar 4) j (nI c))) 10 (put5 (ar 10) (5 * mn) (nI 3) (ar 4 j) (nI j) (ar 5 j) a)) 11 (upd (ar 11) 3 (ar 11 3 + nI 1)))) (n := 6) (f := ar 4) S wb 4 (by decide) rfl 0 rfl j (by omega) (by decide) (m12 rfl rfl rfl rfl rfl rfl rfl rfl rfl rfl rfl rfl) dX4_bidComes_112 (fun H locs wb => ?_)
          refine lv_aload_n hx hb dX4_bidComes_113 rfl (lv_at hl 1 rfl) ?_
          refine rb_get S wb 0 (by decide) rfl rfl in4 7 (by decide) bw_469 rfl dX4_bidComes_114 ?_
          refine lv_iload_n hx hb dX4_bidComes_117 rfl (lv_at hl 3 rfl) ?_
          refine lv_iload_n hx hb dX4_bidComes_118 rfl (lv_at hl 4 rfl) ?_
          refine rb_ast (E' := mE ad cI th n st (mn + 1) (va_up (va_up (va_up (va_up (va_up ar 3 (upd (ar 3) j a)) 4 (upd (ar 4) j (nI c))) 5 (upd (ar 5) j b)) 10 (put5 (ar 10) (5 * mn) (nI 3) (ar 4 j) (nI j) (ar 5 j) a)) 11 (upd (ar 11) 3 (ar 11 3 + nI 1)))) (n := 6) (f := ar 5) S wb 5 (by decide) rfl 0 rfl j (by omega) (by decide) (m12 rfl rfl rfl rfl rfl rfl rfl rfl rfl rfl rfl rfl) dX4_bidComes_119 (fun H locs wb => ?_)
          refine lv_aload_n hx hb dX4_bidComes_120 rfl (lv_at hl 1 rfl) ?_
          refine lv_iconst (v := nI 1) hx hb dX4_bidComes_121 (by decide) ?_
          refine lv_iload_n hx hb dX4_bidComes_122 rfl (lv_at hl 2 rfl) ?_
          refine lv_iload_n hx hb dX4_bidComes_123 rfl (lv_at hl 3 rfl) ?_
          refine lv_iload_n hx hb dX4_bidComes_124 rfl (lv_at hl 4 rfl) ?_
          refine lv_aload_n hx hb dX4_bidComes_125 rfl (lv_at hl 1 rfl) ?_
          refine rb_get S wb 0 (by decide) rfl rfl in4 5 (by decide) bw_467 rfl dX4_bidComes_126 ?_
          refine lv_iload_n hx hb dX4_bidComes_129 rfl (lv_at hl 3 rfl) ?_
          refine rb_ald (n := 6) (f := upd (ar 3) j a) (x := a) S wb 3 (by decide) rfl 0 rfl j (by omega) (by decide) pk_us dX4_bidComes_130 ?_
          refine rb_callV S wb EN0_ok (m_send1 l D cI cC cD ad th n st (mn + 1) (va_up (va_up (va_up (va_up (va_up ar 3 (upd (ar 3) j a)) 4 (upd (ar 4) j (nI c))) 5 (upd (ar 5) j b)) 10 (put5 (ar 10) (5 * mn) (nI 3) (ar 4 j) (nI j) (ar 5 j) a)) 11 (upd (ar 11) 3 (ar 11 3 + nI 1))) 1 (nI c) (nI j) b a (by omega) (by omega) (by omega)) (bw5 bw_532 bw_534 bw_25 bw_37 bw_535) (rb_recv wb 0 (by decide) rfl rfl) hdX4_send rfl ⟨rfl, rfl⟩ ⟨by decide, by decide⟩ hl.1 (Nat.le_of_ble_eq_true rfl) ⟨Nat.zero_le _, Nat.zero_le _⟩ (rest := []) (st1 := []) rfl rfl dX4_bidComes_131 (fun H locs wb => ?_)
          exact rb_vret S hr hlk hQ wb (by first | (rw [bidC_1 h7 h17]; exact (m12 rfl rfl rfl rfl rfl rfl rfl rfl rfl rfl rfl rfl)) | (rw [bidC_2 (fun q => h7 q.1) h45]; exact (m12 rfl rfl rfl rfl rfl rfl rfl rfl rfl rfl rfl rfl)) | (rw [bidC_2 (fun q => h17 q.2) h45]; exact (m12 rfl rfl rfl rfl rfl rfl rfl rfl rfl rfl rfl rfl)) | (rw [bidC_3 (fun q => h7 q.1) h45 h83]; exact (m12 rfl rfl rfl rfl rfl rfl rfl rfl rfl rfl rfl rfl)) | (rw [bidC_3 (fun q => h17 q.2) h45 h83]; exact (m12 rfl rfl rfl rfl rfl rfl rfl rfl rfl rfl rfl rfl)) | (rw [bidC_4 (fun q => h7 q.1) h45 h83]; exact (m12 rfl rfl rfl rfl rfl rfl rfl rfl rfl rfl rfl rfl)) | (rw [bidC_4 (fun q => h17 q.2) h45 h83]; exact (m12 rfl rfl rfl rfl rfl rfl rfl rfl rfl rfl rfl rfl))) dX4_bidComes_134
      · refine lv_aload_n hx hb dX4_bidComes_48 rfl (lv_at hl 1 rfl) ?_
        refine lv_iconst (v := nI 2) hx hb dX4_bidComes_49 (by decide) ?_
        refine lv_iload_n hx hb dX4_bidComes_50 rfl (lv_at hl 2 rfl) ?_
        refine lv_iload_n hx hb dX4_bidComes_51 rfl (lv_at hl 3 rfl) ?_
        refine lv_iload_n hx hb dX4_bidComes_52 rfl (lv_at hl 4 rfl) ?_
        refine lv_aload_n hx hb dX4_bidComes_53 rfl (lv_at hl 1 rfl) ?_
        refine rb_get S wb 0 (by decide) rfl rfl in4 5 (by decide) bw_467 rfl dX4_bidComes_54 ?_
        refine lv_iload_n hx hb dX4_bidComes_57 rfl (lv_at hl 3 rfl) ?_
        refine rb_ald (n := 6) (f := ar 3) (x := ar 3 j) S wb 3 (by decide) rfl 0 rfl j (by omega) (by decide) rfl dX4_bidComes_58 ?_
        refine rb_callV S wb EN0_ok (m_send1 l D cI cC cD ad th n st mn ar 2 (nI c) (nI j) b (ar 3 j) (by omega) (by omega) (by omega)) (bw5 bw_532 bw_534 bw_25 bw_37 bw_535) (rb_recv wb 0 (by decide) rfl rfl) hdX4_send rfl ⟨rfl, rfl⟩ ⟨by decide, by decide⟩ hl.1 (Nat.le_of_ble_eq_true rfl) ⟨Nat.zero_le _, Nat.zero_le _⟩ (rest := []) (st1 := []) rfl rfl dX4_bidComes_59 (fun H locs wb => ?_)
        exact rb_vret S hr hlk hQ wb (by first | (rw [bidC_1 h7 h17]; exact (m12 rfl rfl rfl rfl rfl rfl rfl rfl rfl rfl rfl rfl)) | (rw [bidC_2 (fun q => h7 q.1) h45]; exact (m12 rfl rfl rfl rfl rfl rfl rfl rfl rfl rfl rfl rfl)) | (rw [bidC_2 (fun q => h17 q.2) h45]; exact (m12 rfl rfl rfl rfl rfl rfl rfl rfl rfl rfl rfl rfl)) | (rw [bidC_3 (fun q => h7 q.1) h45 h83]; exact (m12 rfl rfl rfl rfl rfl rfl rfl rfl rfl rfl rfl rfl)) | (rw [bidC_3 (fun q => h17 q.2) h45 h83]; exact (m12 rfl rfl rfl rfl rfl rfl rfl rfl rfl rfl rfl rfl)) | (rw [bidC_4 (fun q => h7 q.1) h45 h83]; exact (m12 rfl rfl rfl rfl rfl rfl rfl rfl rfl rfl rfl rfl)) | (rw [bidC_4 (fun q => h17 q.2) h45 h83]; exact (m12 rfl rfl rfl rfl rfl rfl rfl rfl rfl rfl rfl rfl))) dX4_bidComes_62
    · refine lv_iconst (v := nI 1) hx hb dX4_bidComes_20 (by decide) ?_
      refine lv_goto (tgt := 25) hx hb dX4_bidComes_21 (by decide) ?_
      refine lv_istore (lv' := [(5, .int (nI 1)), (0, .ref (ad 0)), (1, .int (nI c)), (2, .int (nI j)), (3, .int b), (4, .int a)]) hx hb dX4_bidComes_25 hl (by decide) rfl (fun ls hl => ?_)
      refine lv_iload hx hb dX4_bidComes_27 (lv_at hl 0 rfl) ?_
      refine lv_if_ne (tgt := 63) hx hb dX4_bidComes_29 (by decide) (fun h29 => ?_) (fun h29 => absurd h29 (by decide))
      refine lv_iload hx hb dX4_bidComes_63 (lv_at hl 0 rfl) ?_
      refine lv_if_ne (tgt := 120) hx hb dX4_bidComes_65 (by decide) (fun h65 => ?_) (fun h65 => absurd h65 (by decide))
      refine lv_aload_n hx hb dX4_bidComes_120 rfl (lv_at hl 1 rfl) ?_
      refine lv_iconst (v := nI 1) hx hb dX4_bidComes_121 (by decide) ?_
      refine lv_iload_n hx hb dX4_bidComes_122 rfl (lv_at hl 2 rfl) ?_
      refine lv_iload_n hx hb dX4_bidComes_123 rfl (lv_at hl 3 rfl) ?_
      refine lv_iload_n hx hb dX4_bidComes_124 rfl (lv_at hl 4 rfl) ?_
      refine lv_aload_n hx hb dX4_bidComes_125 rfl (lv_at hl 1 rfl) ?_
      refine rb_get S wb 0 (by decide) rfl rfl in4 5 (by decide) bw_467 rfl dX4_bidComes_126 ?_
      refine lv_iload_n hx hb dX4_bidComes_129 rfl (lv_at hl 3 rfl) ?_
      refine rb_ald (n := 6) (f := ar 3) (x := ar 3 j) S wb 3 (by decide) rfl 0 rfl j (by omega) (by decide) rfl dX4_bidComes_130 ?_
      refine rb_callV S wb EN0_ok (m_send1 l D cI cC cD ad th n st mn ar 1 (nI c) (nI j) b (ar 3 j) (by omega) (by omega) (by omega)) (bw5 bw_532 bw_534 bw_25 bw_37 bw_535) (rb_recv wb 0 (by decide) rfl rfl) hdX4_send rfl ⟨rfl, rfl⟩ ⟨by decide, by decide⟩ hl.1 (Nat.le_of_ble_eq_true rfl) ⟨Nat.zero_le _, Nat.zero_le _⟩ (rest := []) (st1 := []) rfl rfl dX4_bidComes_131 (fun H locs wb => ?_)
      exact rb_vret S hr hlk hQ wb (by first | (rw [bidC_1 h7 h17]; exact (m12 rfl rfl rfl rfl rfl rfl rfl rfl rfl rfl rfl rfl)) | (rw [bidC_2 (fun q => h7 q.1) h45]; exact (m12 rfl rfl rfl rfl rfl rfl rfl rfl rfl rfl rfl rfl)) | (rw [bidC_2 (fun q => h17 q.2) h45]; exact (m12 rfl rfl rfl rfl rfl rfl rfl rfl rfl rfl rfl rfl)) | (rw [bidC_3 (fun q => h7 q.1) h45 h83]; exact (m12 rfl rfl rfl rfl rfl rfl rfl rfl rfl rfl rfl rfl)) | (rw [bidC_3 (fun q => h17 q.2) h45 h83]; exact (m12 rfl rfl rfl rfl rfl rfl rfl rfl rfl rfl rfl rfl)) | (rw [bidC_4 (fun q => h7 q.1) h45 h83]; exact (m12 rfl rfl rfl rfl rfl rfl rfl rfl rfl rfl rfl rfl)) | (rw [bidC_4 (fun q => h17 q.2) h45 h83]; exact (m12 rfl rfl rfl rfl rfl rfl rfl rfl rfl rfl rfl rfl))) dX4_bidComes_134

set_option maxHeartbeats 4000000 in
set_option maxRecDepth 100000 in
theorem m_answerComes (l : Launch) (D : va_G) (cI cC cD : ClassId) (ad : Nat → Nat) (th : Int32) (n : Nat) (st : Int32) (mn : Nat) (ar : Nat → Nat → Int32) (kd : Int32) (c j : Nat) (b a : Int32) (hc : c < 6) (hj : j < 6) : RM l yX4_answerComes cX4_answerComes 6 none ({ frames := 0, cells := 0, slots := 0, locals := 0 }) D (ty3 cI cC cD) EN0 [.ref (ad 0), .int kd, .int (nI c), .int (nI j), .int b, .int a] ad 12 (mE ad cI th n st mn ar) (mE ad cI th n st mn (ansC ar kd c j b a)) none := by
  refine RM.of (by decide) (Nat.le_of_ble_eq_true rfl) ?_
  intro p e s m below meth c0 A ls args Q0 S hr hlk hQ wb hl
  have hx := S.1
  have hb := S.2.1
  have hl : lv_has ls 6 [(0, .ref (ad 0)), (1, .int kd), (2, .int (nI c)), (3, .int (nI j)), (4, .int b), (5, .int a)] := hl
  refine lv_aload_n hx hb dX4_answerComes_0 rfl (lv_at hl 0 rfl) ?_
  refine rb_get S wb 0 (by decide) rfl rfl in4 4 (by decide) bw_466 rfl dX4_answerComes_1 ?_
  refine lv_bipush (v := nI 6) hx hb dX4_answerComes_4 (by decide) ?_
  refine lv_iload_n hx hb dX4_answerComes_6 rfl (lv_at hl 2 rfl) ?_
  refine lv_imul hx hb dX4_answerComes_7 ?_
  refine nb_ren (y := nI (6 * c)) (pk_mul _ _) ?_
  refine lv_iload_n hx hb dX4_answerComes_8 rfl (lv_at hl 3 rfl) ?_
  refine lv_iadd hx hb dX4_answerComes_9 ?_
  refine nb_ren (y := nI (6 * c + j)) (nI_add _ _) ?_
  refine lv_iload hx hb dX4_answerComes_10 (lv_at hl 5 rfl) ?_
  refine lv_aload_n hx hb dX4_answerComes_12 rfl (lv_at hl 0 rfl) ?_
  refine rb_get S wb 0 (by decide) rfl rfl in4 4 (by decide) bw_466 rfl dX4_answerComes_13 ?_
  refine lv_bipush (v := nI 6) hx hb dX4_answerComes_16 (by decide) ?_
  refine lv_iload_n hx hb dX4_answerComes_18 rfl (lv_at hl 2 rfl) ?_
  refine lv_imul hx hb dX4_answerComes_19 ?_
  refine nb_ren (y := nI (6 * c)) (pk_mul _ _) ?_
  refine lv_iload_n hx hb dX4_answerComes_20 rfl (lv_at hl 3 rfl) ?_
  refine lv_iadd hx hb dX4_answerComes_21 ?_
  refine nb_ren (y := nI (6 * c + j)) (nI_add _ _) ?_
  refine rb_ald (n := 36) (f := ar 2) (x := ar 2 (6 * c + j)) S wb 2 (by decide) rfl 0 rfl (6 * c + j) (by omega) (by decide) rfl dX4_answerComes_22 ?_
  refine lv_icmp_le (tgt := 31) hx hb dX4_answerComes_23 (by decide) (fun h23 => ?_) (fun h23 => ?_)
  · refine lv_aload_n hx hb dX4_answerComes_31 rfl (lv_at hl 0 rfl) ?_
    refine rb_get S wb 0 (by decide) rfl rfl in4 4 (by decide) bw_466 rfl dX4_answerComes_32 ?_
    refine lv_bipush (v := nI 6) hx hb dX4_answerComes_35 (by decide) ?_
    refine lv_iload_n hx hb dX4_answerComes_37 rfl (lv_at hl 2 rfl) ?_
    refine lv_imul hx hb dX4_answerComes_38 ?_
    refine nb_ren (y := nI (6 * c)) (pk_mul _ _) ?_
    refine lv_iload_n hx hb dX4_answerComes_39 rfl (lv_at hl 3 rfl) ?_
    refine lv_iadd hx hb dX4_answerComes_40 ?_
    refine nb_ren (y := nI (6 * c + j)) (nI_add _ _) ?_
    refine rb_ald (n := 36) (f := ar 2) (x := ar 2 (6 * c + j)) S wb 2 (by decide) rfl 0 rfl (6 * c + j) (by omega) (by decide) rfl dX4_answerComes_41 ?_
    refine rb_ast (E' := mE ad cI th n st mn (va_up ar 2 (upd (ar 2) (6 * c + j) (ar 2 (6 * c + j))))) (n := 36) (f := ar 2) S wb 2 (by decide) rfl 0 rfl (6 * c + j) (by omega) (by decide) (m12 rfl rfl rfl rfl rfl rfl rfl rfl rfl rfl rfl rfl) dX4_answerComes_42 (fun H locs wb => ?_)
    refine lv_iload hx hb dX4_answerComes_43 (lv_at hl 4 rfl) ?_
    refine lv_aload_n hx hb dX4_answerComes_45 rfl (lv_at hl 0 rfl) ?_
    refine rb_get S wb 0 (by decide) rfl rfl in4 10 (by decide) bw_472 rfl dX4_answerComes_46 ?_
    refine lv_iload_n hx hb dX4_answerComes_49 rfl (lv_at hl 2 rfl) ?_
    refine rb_ald (n := 6) (f := ar 8) (x := ar 8 c) S wb 8 (by decide) rfl 0 rfl c (by omega) (by decide) rfl dX4_answerComes_50 ?_
    refine lv_icmp_eq (tgt := 55) hx hb dX4_answerComes_51 (by decide) (fun h51 => ?_) (fun h51 => ?_)
    · refine lv_iload_n hx hb dX4_answerComes_55 rfl (lv_at hl 1 rfl) ?_
      refine lv_iconst (v := nI 1) hx hb dX4_answerComes_56 (by decide) ?_
      refine lv_icmp_ne (tgt := 89) hx hb dX4_answerComes_57 (by decide) (fun h57 => ?_) (fun h57 => ?_)
      · refine lv_aload_n hx hb dX4_answerComes_89 rfl (lv_at hl 0 rfl) ?_
        refine rb_get S wb 0 (by decide) rfl rfl in4 8 (by decide) bw_470 rfl dX4_answerComes_90 ?_
        refine lv_iload_n hx hb dX4_answerComes_93 rfl (lv_at hl 2 rfl) ?_
        refine lv_iconst (v := nI 0) hx hb dX4_answerComes_94 (by decide) ?_
        refine rb_ast (E' := mE ad cI th n st mn (va_up (va_up ar 2 (upd (ar 2) (6 * c + j) (ar 2 (6 * c + j)))) 6 (upd (ar 6) c (nI 0)))) (n := 6) (f := ar 6) S wb 6 (by decide) rfl 0 rfl c (by omega) (by decide) (m12 rfl rfl rfl rfl rfl rfl rfl rfl rfl rfl rfl rfl) dX4_answerComes_95 (fun H locs wb => ?_)
        refine lv_aload_n hx hb dX4_answerComes_96 rfl (lv_at hl 0 rfl) ?_
        refine rb_get S wb 0 (by decide) rfl rfl in4 9 (by decide) bw_471 rfl dX4_answerComes_97 ?_
        refine lv_iload_n hx hb dX4_answerComes_100 rfl (lv_at hl 2 rfl) ?_
        refine lv_iconst (v := (-1)) hx hb dX4_answerComes_101 (by decide) ?_
        refine rb_ast (E' := mE ad cI th n st mn (va_up (va_up (va_up ar 2 (upd (ar 2) (6 * c + j) (ar 2 (6 * c + j)))) 6 (upd (ar 6) c (nI 0))) 7 (upd (ar 7) c (-1)))) (n := 6) (f := ar 7) S wb 7 (by decide) rfl 0 rfl c (by omega) (by decide) (m12 rfl rfl rfl rfl rfl rfl rfl rfl rfl rfl rfl rfl) dX4_answerComes_102 (fun H locs wb => ?_)
        exact rb_vret S hr hlk hQ wb (by first | (rw [ansC_0 h51]; exact (m12 rfl rfl (inl_eq (congrArg (upd (ar 2) (6 * c + j)) (if_neg (Int32.not_lt.mpr h23)).symm)) rfl rfl rfl rfl rfl rfl rfl rfl rfl)) | (rw [ansC_1 h51 h57]; exact (m12 rfl rfl (inl_eq (congrArg (upd (ar 2) (6 * c + j)) (if_neg (Int32.not_lt.mpr h23)).symm)) rfl rfl rfl (inl_eq (congrArg (upd (ar 6) c) (if_neg h72).symm)) rfl rfl rfl rfl rfl)) | (rw [ansC_1 h51 h57]; exact (m12 rfl rfl (inl_eq (congrArg (upd (ar 2) (6 * c + j)) (if_neg (Int32.not_lt.mpr h23)).symm)) rfl rfl rfl (inl_eq (congrArg (upd (ar 6) c) (if_pos h72).symm)) rfl rfl rfl rfl rfl)) | (rw [ansC_2 h51 h57]; exact (m12 rfl rfl (inl_eq (congrArg (upd (ar 2) (6 * c + j)) (if_neg (Int32.not_lt.mpr h23)).symm)) rfl rfl rfl rfl rfl rfl rfl rfl rfl)) | (rw [ansC_0 h51]; exact (m12 rfl rfl (inl_eq (congrArg (upd (ar 2) (6 * c + j)) (if_pos (Int32.not_le.mp h23)).symm)) rfl rfl rfl rfl rfl rfl rfl rfl rfl)) | (rw [ansC_1 h51 h57]; exact (m12 rfl rfl (inl_eq (congrArg (upd (ar 2) (6 * c + j)) (if_pos (Int32.not_le.mp h23)).symm)) rfl rfl rfl (inl_eq (congrArg (upd (ar 6) c) (if_neg h72).symm)) rfl rfl rfl rfl rfl)) | (rw [ansC_1 h51 h57]; exact (m12 rfl rfl (inl_eq (congrArg (upd (ar 2) (6 * c + j)) (if_pos (Int32.not_le.mp h23)).symm)) rfl rfl rfl (inl_eq (congrArg (upd (ar 6) c) (if_pos h72).symm)) rfl rfl rfl rfl rfl)) | (rw [ansC_2 h51 h57]; exact (m12 rfl rfl (inl_eq (congrArg (upd (ar 2) (6 * c + j)) (if_pos (Int32.not_le.mp h23)).symm)) rfl rfl rfl rfl rfl rfl rfl rfl rfl))) dX4_answerComes_103
      · refine lv_aload_n hx hb dX4_answerComes_60 rfl (lv_at hl 0 rfl) ?_
        refine rb_get S wb 0 (by decide) rfl rfl in4 8 (by decide) bw_470 rfl dX4_answerComes_61 ?_
        refine lv_iload_n hx hb dX4_answerComes_64 rfl (lv_at hl 2 rfl) ?_
        refine lv_aload_n hx hb dX4_answerComes_65 rfl (lv_at hl 0 rfl) ?_
        refine rb_get S wb 0 (by decide) rfl rfl in4 8 (by decide) bw_470 rfl dX4_answerComes_66 ?_
        refine lv_iload_n hx hb dX4_answerComes_69 rfl (lv_at hl 2 rfl) ?_
        refine rb_ald (n := 6) (f := ar 6) (x := ar 6 c) S wb 6 (by decide) rfl 0 rfl c (by omega) (by decide) rfl dX4_answerComes_70 ?_
        refine lv_iconst (v := nI 1) hx hb dX4_answerComes_71 (by decide) ?_
        refine lv_icmp_ne (tgt := 79) hx hb dX4_answerComes_72 (by decide) (fun h72 => ?_) (fun h72 => ?_)
        · refine lv_aload_n hx hb dX4_answerComes_79 rfl (lv_at hl 0 rfl) ?_
          refine rb_get S wb 0 (by decide) rfl rfl in4 8 (by decide) bw_470 rfl dX4_answerComes_80 ?_
          refine lv_iload_n hx hb dX4_answerComes_83 rfl (lv_at hl 2 rfl) ?_
          refine rb_ald (n := 6) (f := ar 6) (x := ar 6 c) S wb 6 (by decide) rfl 0 rfl c (by omega) (by decide) rfl dX4_answerComes_84 ?_
          refine rb_ast (E' := mE ad cI th n st mn (va_up (va_up ar 2 (upd (ar 2) (6 * c + j) (ar 2 (6 * c + j)))) 6 (upd (ar 6) c (ar 6 c)))) (n := 6) (f := ar 6) S wb 6 (by decide) rfl 0 rfl c (by omega) (by decide) (m12 rfl rfl rfl rfl rfl rfl rfl rfl rfl rfl rfl rfl) dX4_answerComes_85 (fun H locs wb => ?_)
          refine lv_goto (tgt := 103) hx hb dX4_answerComes_86 (by decide) ?_
          exact rb_vret S hr hlk hQ wb (by first | (rw [ansC_0 h51]; exact (m12 rfl rfl (inl_eq (congrArg (upd (ar 2) (6 * c + j)) (if_neg (Int32.not_lt.mpr h23)).symm)) rfl rfl rfl rfl rfl rfl rfl rfl rfl)) | (rw [ansC_1 h51 h57]; exact (m12 rfl rfl (inl_eq (congrArg (upd (ar 2) (6 * c + j)) (if_neg (Int32.not_lt.mpr h23)).symm)) rfl rfl rfl (inl_eq (congrArg (upd (ar 6) c) (if_neg h72).symm)) rfl rfl rfl rfl rfl)) | (rw [ansC_1 h51 h57]; exact (m12 rfl rfl (inl_eq (congrArg (upd (ar 2) (6 * c + j)) (if_neg (Int32.not_lt.mpr h23)).symm)) rfl rfl rfl (inl_eq (congrArg (upd (ar 6) c) (if_pos h72).symm)) rfl rfl rfl rfl rfl)) | (rw [ansC_2 h51 h57]; exact (m12 rfl rfl (inl_eq (congrArg (upd (ar 2) (6 * c + j)) (if_neg (Int32.not_lt.mpr h23)).symm)) rfl rfl rfl rfl rfl rfl rfl rfl rfl)) | (rw [ansC_0 h51]; exact (m12 rfl rfl (inl_eq (congrArg (upd (ar 2) (6 * c + j)) (if_pos (Int32.not_le.mp h23)).symm)) rfl rfl rfl rfl rfl rfl rfl rfl rfl)) | (rw [ansC_1 h51 h57]; exact (m12 rfl rfl (inl_eq (congrArg (upd (ar 2) (6 * c + j)) (if_pos (Int32.not_le.mp h23)).symm)) rfl rfl rfl (inl_eq (congrArg (upd (ar 6) c) (if_neg h72).symm)) rfl rfl rfl rfl rfl)) | (rw [ansC_1 h51 h57]; exact (m12 rfl rfl (inl_eq (congrArg (upd (ar 2) (6 * c + j)) (if_pos (Int32.not_le.mp h23)).symm)) rfl rfl rfl (inl_eq (congrArg (upd (ar 6) c) (if_pos h72).symm)) rfl rfl rfl rfl rfl)) | (rw [ansC_2 h51 h57]; exact (m12 rfl rfl (inl_eq (congrArg (upd (ar 2) (6 * c + j)) (if_pos (Int32.not_le.mp h23)).symm)) rfl rfl rfl rfl rfl rfl rfl rfl rfl))) dX4_answerComes_103
        · refine lv_iconst (v := nI 2) hx hb dX4_answerComes_75 (by decide) ?_
          refine lv_goto (tgt := 85) hx hb dX4_answerComes_76 (by decide) ?_
          refine rb_ast (E' := mE ad cI th n st mn (va_up (va_up ar 2 (upd (ar 2) (6 * c + j) (ar 2 (6 * c + j)))) 6 (upd (ar 6) c (nI 2)))) (n := 6) (f := ar 6) S wb 6 (by decide) rfl 0 rfl c (by omega) (by decide) (m12 rfl rfl rfl rfl rfl rfl rfl rfl rfl rfl rfl rfl) dX4_answerComes_85 (fun H locs wb => ?_)
          refine lv_goto (tgt := 103) hx hb dX4_answerComes_86 (by decide) ?_
          exact rb_vret S hr hlk hQ wb (by first | (rw [ansC_0 h51]; exact (m12 rfl rfl (inl_eq (congrArg (upd (ar 2) (6 * c + j)) (if_neg (Int32.not_lt.mpr h23)).symm)) rfl rfl rfl rfl rfl rfl rfl rfl rfl)) | (rw [ansC_1 h51 h57]; exact (m12 rfl rfl (inl_eq (congrArg (upd (ar 2) (6 * c + j)) (if_neg (Int32.not_lt.mpr h23)).symm)) rfl rfl rfl (inl_eq (congrArg (upd (ar 6) c) (if_neg h72).symm)) rfl rfl rfl rfl rfl)) | (rw [ansC_1 h51 h57]; exact (m12 rfl rfl (inl_eq (congrArg (upd (ar 2) (6 * c + j)) (if_neg (Int32.not_lt.mpr h23)).symm)) rfl rfl rfl (inl_eq (congrArg (upd (ar 6) c) (if_pos h72).symm)) rfl rfl rfl rfl rfl)) | (rw [ansC_2 h51 h57]; exact (m12 rfl rfl (inl_eq (congrArg (upd (ar 2) (6 * c + j)) (if_neg (Int32.not_lt.mpr h23)).symm)) rfl rfl rfl rfl rfl rfl rfl rfl rfl)) | (rw [ansC_0 h51]; exact (m12 rfl rfl (inl_eq (congrArg (upd (ar 2) (6 * c + j)) (if_pos (Int32.not_le.mp h23)).symm)) rfl rfl rfl rfl rfl rfl rfl rfl rfl)) | (rw [ansC_1 h51 h57]; exact (m12 rfl rfl (inl_eq (congrArg (upd (ar 2) (6 * c + j)) (if_pos (Int32.not_le.mp h23)).symm)) rfl rfl rfl (inl_eq (congrArg (upd (ar 6) c) (if_neg h72).symm)) rfl rfl rfl rfl rfl)) | (rw [ansC_1 h51 h57]; exact (m12 rfl rfl (inl_eq (congrArg (upd (ar 2) (6 * c + j)) (if_pos (Int32.not_le.mp h23)).symm)) rfl rfl rfl (inl_eq (congrArg (upd (ar 6) c) (if_pos h72).symm)) rfl rfl rfl rfl rfl)) | (rw [ansC_2 h51 h57]; exact (m12 rfl rfl (inl_eq (congrArg (upd (ar 2) (6 * c + j)) (if_pos (Int32.not_le.mp h23)).symm)) rfl rfl rfl rfl rfl rfl rfl rfl rfl))) dX4_answerComes_103
    · exact rb_vret S hr hlk hQ wb (by first | (rw [ansC_0 h51]; exact (m12 rfl rfl (inl_eq (congrArg (upd (ar 2) (6 * c + j)) (if_neg (Int32.not_lt.mpr h23)).symm)) rfl rfl rfl rfl rfl rfl rfl rfl rfl)) | (rw [ansC_1 h51 h57]; exact (m12 rfl rfl (inl_eq (congrArg (upd (ar 2) (6 * c + j)) (if_neg (Int32.not_lt.mpr h23)).symm)) rfl rfl rfl (inl_eq (congrArg (upd (ar 6) c) (if_neg h72).symm)) rfl rfl rfl rfl rfl)) | (rw [ansC_1 h51 h57]; exact (m12 rfl rfl (inl_eq (congrArg (upd (ar 2) (6 * c + j)) (if_neg (Int32.not_lt.mpr h23)).symm)) rfl rfl rfl (inl_eq (congrArg (upd (ar 6) c) (if_pos h72).symm)) rfl rfl rfl rfl rfl)) | (rw [ansC_2 h51 h57]; exact (m12 rfl rfl (inl_eq (congrArg (upd (ar 2) (6 * c + j)) (if_neg (Int32.not_lt.mpr h23)).symm)) rfl rfl rfl rfl rfl rfl rfl rfl rfl)) | (rw [ansC_0 h51]; exact (m12 rfl rfl (inl_eq (congrArg (upd (ar 2) (6 * c + j)) (if_pos (Int32.not_le.mp h23)).symm)) rfl rfl rfl rfl rfl rfl rfl rfl rfl)) | (rw [ansC_1 h51 h57]; exact (m12 rfl rfl (inl_eq (congrArg (upd (ar 2) (6 * c + j)) (if_pos (Int32.not_le.mp h23)).symm)) rfl rfl rfl (inl_eq (congrArg (upd (ar 6) c) (if_neg h72).symm)) rfl rfl rfl rfl rfl)) | (rw [ansC_1 h51 h57]; exact (m12 rfl rfl (inl_eq (congrArg (upd (ar 2) (6 * c + j)) (if_pos (Int32.not_le.mp h23)).symm)) rfl rfl rfl (inl_eq (congrArg (upd (ar 6) c) (if_pos h72).symm)) rfl rfl rfl rfl rfl)) | (rw [ansC_2 h51 h57]; exact (m12 rfl rfl (inl_eq (congrArg (upd (ar 2) (6 * c + j)) (if_pos (Int32.not_le.mp h23)).symm)) rfl rfl rfl rfl rfl rfl rfl rfl rfl))) dX4_answerComes_54
  · refine lv_iload hx hb dX4_answerComes_26 (lv_at hl 5 rfl) ?_
    refine lv_goto (tgt := 42) hx hb dX4_answerComes_28 (by decide) ?_
    refine rb_ast (E' := mE ad cI th n st mn (va_up ar 2 (upd (ar 2) (6 * c + j) a))) (n := 36) (f := ar 2) S wb 2 (by decide) rfl 0 rfl (6 * c + j) (by omega) (by decide) (m12 rfl rfl rfl rfl rfl rfl rfl rfl rfl rfl rfl rfl) dX4_answerComes_42 (fun H locs wb => ?_)
    refine lv_iload hx hb dX4_answerComes_43 (lv_at hl 4 rfl) ?_
    refine lv_aload_n hx hb dX4_answerComes_45 rfl (lv_at hl 0 rfl) ?_
    refine rb_get S wb 0 (by decide) rfl rfl in4 10 (by decide) bw_472 rfl dX4_answerComes_46 ?_
    refine lv_iload_n hx hb dX4_answerComes_49 rfl (lv_at hl 2 rfl) ?_
    refine rb_ald (n := 6) (f := ar 8) (x := ar 8 c) S wb 8 (by decide) rfl 0 rfl c (by omega) (by decide) rfl dX4_answerComes_50 ?_
    refine lv_icmp_eq (tgt := 55) hx hb dX4_answerComes_51 (by decide) (fun h51 => ?_) (fun h51 => ?_)
    · refine lv_iload_n hx hb dX4_answerComes_55 rfl (lv_at hl 1 rfl) ?_
      refine lv_iconst (v := nI 1) hx hb dX4_answerComes_56 (by decide) ?_
      refine lv_icmp_ne (tgt := 89) hx hb dX4_answerComes_57 (by decide) (fun h57 => ?_) (fun h57 => ?_)
      · refine lv_aload_n hx hb dX4_answerComes_89 rfl (lv_at hl 0 rfl) ?_
        refine rb_get S wb 0 (by decide) rfl rfl in4 8 (by decide) bw_470 rfl dX4_answerComes_90 ?_
        refine lv_iload_n hx hb dX4_answerComes_93 rfl (lv_at hl 2 rfl) ?_
        refine lv_iconst (v := nI 0) hx hb dX4_answerComes_94 (by decide) ?_
        refine rb_ast (E' := mE ad cI th n st mn (va_up (va_up ar 2 (upd (ar 2) (6 * c + j) a)) 6 (upd (ar 6) c (nI 0)))) (n := 6) (f := ar 6) S wb 6 (by decide) rfl 0 rfl c (by omega) (by decide) (m12 rfl rfl rfl rfl rfl rfl rfl rfl rfl rfl rfl rfl) dX4_answerComes_95 (fun H locs wb => ?_)
        refine lv_aload_n hx hb dX4_answerComes_96 rfl (lv_at hl 0 rfl) ?_
        refine rb_get S wb 0 (by decide) rfl rfl in4 9 (by decide) bw_471 rfl dX4_answerComes_97 ?_
        refine lv_iload_n hx hb dX4_answerComes_100 rfl (lv_at hl 2 rfl) ?_
        refine lv_iconst (v := (-1)) hx hb dX4_answerComes_101 (by decide) ?_
        refine rb_ast (E' := mE ad cI th n st mn (va_up (va_up (va_up ar 2 (upd (ar 2) (6 * c + j) a)) 6 (upd (ar 6) c (nI 0))) 7 (upd (ar 7) c (-1)))) (n := 6) (f := ar 7) S wb 7 (by decide) rfl 0 rfl c (by omega) (by decide) (m12 rfl rfl rfl rfl rfl rfl rfl rfl rfl rfl rfl rfl) dX4_answerComes_102 (fun H locs wb => ?_)
        exact rb_vret S hr hlk hQ wb (by first | (rw [ansC_0 h51]; exact (m12 rfl rfl (inl_eq (congrArg (upd (ar 2) (6 * c + j)) (if_neg (Int32.not_lt.mpr h23)).symm)) rfl rfl rfl rfl rfl rfl rfl rfl rfl)) | (rw [ansC_1 h51 h57]; exact (m12 rfl rfl (inl_eq (congrArg (upd (ar 2) (6 * c + j)) (if_neg (Int32.not_lt.mpr h23)).symm)) rfl rfl rfl (inl_eq (congrArg (upd (ar 6) c) (if_neg h72).symm)) rfl rfl rfl rfl rfl)) | (rw [ansC_1 h51 h57]; exact (m12 rfl rfl (inl_eq (congrArg (upd (ar 2) (6 * c + j)) (if_neg (Int32.not_lt.mpr h23)).symm)) rfl rfl rfl (inl_eq (congrArg (upd (ar 6) c) (if_pos h72).symm)) rfl rfl rfl rfl rfl)) | (rw [ansC_2 h51 h57]; exact (m12 rfl rfl (inl_eq (congrArg (upd (ar 2) (6 * c + j)) (if_neg (Int32.not_lt.mpr h23)).symm)) rfl rfl rfl rfl rfl rfl rfl rfl rfl)) | (rw [ansC_0 h51]; exact (m12 rfl rfl (inl_eq (congrArg (upd (ar 2) (6 * c + j)) (if_pos (Int32.not_le.mp h23)).symm)) rfl rfl rfl rfl rfl rfl rfl rfl rfl)) | (rw [ansC_1 h51 h57]; exact (m12 rfl rfl (inl_eq (congrArg (upd (ar 2) (6 * c + j)) (if_pos (Int32.not_le.mp h23)).symm)) rfl rfl rfl (inl_eq (congrArg (upd (ar 6) c) (if_neg h72).symm)) rfl rfl rfl rfl rfl)) | (rw [ansC_1 h51 h57]; exact (m12 rfl rfl (inl_eq (congrArg (upd (ar 2) (6 * c + j)) (if_pos (Int32.not_le.mp h23)).symm)) rfl rfl rfl (inl_eq (congrArg (upd (ar 6) c) (if_pos h72).symm)) rfl rfl rfl rfl rfl)) | (rw [ansC_2 h51 h57]; exact (m12 rfl rfl (inl_eq (congrArg (upd (ar 2) (6 * c + j)) (if_pos (Int32.not_le.mp h23)).symm)) rfl rfl rfl rfl rfl rfl rfl rfl rfl))) dX4_answerComes_103
      · refine lv_aload_n hx hb dX4_answerComes_60 rfl (lv_at hl 0 rfl) ?_
        refine rb_get S wb 0 (by decide) rfl rfl in4 8 (by decide) bw_470 rfl dX4_answerComes_61 ?_
        refine lv_iload_n hx hb dX4_answerComes_64 rfl (lv_at hl 2 rfl) ?_
        refine lv_aload_n hx hb dX4_answerComes_65 rfl (lv_at hl 0 rfl) ?_
        refine rb_get S wb 0 (by decide) rfl rfl in4 8 (by decide) bw_470 rfl dX4_answerComes_66 ?_
        refine lv_iload_n hx hb dX4_answerComes_69 rfl (lv_at hl 2 rfl) ?_
        refine rb_ald (n := 6) (f := ar 6) (x := ar 6 c) S wb 6 (by decide) rfl 0 rfl c (by omega) (by decide) rfl dX4_answerComes_70 ?_
        refine lv_iconst (v := nI 1) hx hb dX4_answerComes_71 (by decide) ?_
        refine lv_icmp_ne (tgt := 79) hx hb dX4_answerComes_72 (by decide) (fun h72 => ?_) (fun h72 => ?_)
        · refine lv_aload_n hx hb dX4_answerComes_79 rfl (lv_at hl 0 rfl) ?_
          refine rb_get S wb 0 (by decide) rfl rfl in4 8 (by decide) bw_470 rfl dX4_answerComes_80 ?_
          refine lv_iload_n hx hb dX4_answerComes_83 rfl (lv_at hl 2 rfl) ?_
          refine rb_ald (n := 6) (f := ar 6) (x := ar 6 c) S wb 6 (by decide) rfl 0 rfl c (by omega) (by decide) rfl dX4_answerComes_84 ?_
          refine rb_ast (E' := mE ad cI th n st mn (va_up (va_up ar 2 (upd (ar 2) (6 * c + j) a)) 6 (upd (ar 6) c (ar 6 c)))) (n := 6) (f := ar 6) S wb 6 (by decide) rfl 0 rfl c (by omega) (by decide) (m12 rfl rfl rfl rfl rfl rfl rfl rfl rfl rfl rfl rfl) dX4_answerComes_85 (fun H locs wb => ?_)
          refine lv_goto (tgt := 103) hx hb dX4_answerComes_86 (by decide) ?_
          exact rb_vret S hr hlk hQ wb (by first | (rw [ansC_0 h51]; exact (m12 rfl rfl (inl_eq (congrArg (upd (ar 2) (6 * c + j)) (if_neg (Int32.not_lt.mpr h23)).symm)) rfl rfl rfl rfl rfl rfl rfl rfl rfl)) | (rw [ansC_1 h51 h57]; exact (m12 rfl rfl (inl_eq (congrArg (upd (ar 2) (6 * c + j)) (if_neg (Int32.not_lt.mpr h23)).symm)) rfl rfl rfl (inl_eq (congrArg (upd (ar 6) c) (if_neg h72).symm)) rfl rfl rfl rfl rfl)) | (rw [ansC_1 h51 h57]; exact (m12 rfl rfl (inl_eq (congrArg (upd (ar 2) (6 * c + j)) (if_neg (Int32.not_lt.mpr h23)).symm)) rfl rfl rfl (inl_eq (congrArg (upd (ar 6) c) (if_pos h72).symm)) rfl rfl rfl rfl rfl)) | (rw [ansC_2 h51 h57]; exact (m12 rfl rfl (inl_eq (congrArg (upd (ar 2) (6 * c + j)) (if_neg (Int32.not_lt.mpr h23)).symm)) rfl rfl rfl rfl rfl rfl rfl rfl rfl)) | (rw [ansC_0 h51]; exact (m12 rfl rfl (inl_eq (congrArg (upd (ar 2) (6 * c + j)) (if_pos (Int32.not_le.mp h23)).symm)) rfl rfl rfl rfl rfl rfl rfl rfl rfl)) | (rw [ansC_1 h51 h57]; exact (m12 rfl rfl (inl_eq (congrArg (upd (ar 2) (6 * c + j)) (if_pos (Int32.not_le.mp h23)).symm)) rfl rfl rfl (inl_eq (congrArg (upd (ar 6) c) (if_neg h72).symm)) rfl rfl rfl rfl rfl)) | (rw [ansC_1 h51 h57]; exact (m12 rfl rfl (inl_eq (congrArg (upd (ar 2) (6 * c + j)) (if_pos (Int32.not_le.mp h23)).symm)) rfl rfl rfl (inl_eq (congrArg (upd (ar 6) c) (if_pos h72).symm)) rfl rfl rfl rfl rfl)) | (rw [ansC_2 h51 h57]; exact (m12 rfl rfl (inl_eq (congrArg (upd (ar 2) (6 * c + j)) (if_pos (Int32.not_le.mp h23)).symm)) rfl rfl rfl rfl rfl rfl rfl rfl rfl))) dX4_answerComes_103
        · refine lv_iconst (v := nI 2) hx hb dX4_answerComes_75 (by decide) ?_
          refine lv_goto (tgt := 85) hx hb dX4_answerComes_76 (by decide) ?_
          refine rb_ast (E' := mE ad cI th n st mn (va_up (va_up ar 2 (upd (ar 2) (6 * c + j) a)) 6 (upd (ar 6) c (nI 2)))) (n := 6) (f := ar 6) S wb 6 (by decide) rfl 0 rfl c (by omega) (by decide) (m12 rfl rfl rfl rfl rfl rfl rfl rfl rfl rfl rfl rfl) dX4_answerComes_85 (fun H locs wb => ?_)
          refine lv_goto (tgt := 103) hx hb dX4_answerComes_86 (by decide) ?_
          exact rb_vret S hr hlk hQ wb (by first | (rw [ansC_0 h51]; exact (m12 rfl rfl (inl_eq (congrArg (upd (ar 2) (6 * c + j)) (if_neg (Int32.not_lt.mpr h23)).symm)) rfl rfl rfl rfl rfl rfl rfl rfl rfl)) | (rw [ansC_1 h51 h57]; exact (m12 rfl rfl (inl_eq (congrArg (upd (ar 2) (6 * c + j)) (if_neg (Int32.not_lt.mpr h23)).symm)) rfl rfl rfl (inl_eq (congrArg (upd (ar 6) c) (if_neg h72).symm)) rfl rfl rfl rfl rfl)) | (rw [ansC_1 h51 h57]; exact (m12 rfl rfl (inl_eq (congrArg (upd (ar 2) (6 * c + j)) (if_neg (Int32.not_lt.mpr h23)).symm)) rfl rfl rfl (inl_eq (congrArg (upd (ar 6) c) (if_pos h72).symm)) rfl rfl rfl rfl rfl)) | (rw [ansC_2 h51 h57]; exact (m12 rfl rfl (inl_eq (congrArg (upd (ar 2) (6 * c + j)) (if_neg (Int32.not_lt.mpr h23)).symm)) rfl rfl rfl rfl rfl rfl rfl rfl rfl)) | (rw [ansC_0 h51]; exact (m12 rfl rfl (inl_eq (congrArg (upd (ar 2) (6 * c + j)) (if_pos (Int32.not_le.mp h23)).symm)) rfl rfl rfl rfl rfl rfl rfl rfl rfl)) | (rw [ansC_1 h51 h57]; exact (m12 rfl rfl (inl_eq (congrArg (upd (ar 2) (6 * c + j)) (if_pos (Int32.not_le.mp h23)).symm)) rfl rfl rfl (inl_eq (congrArg (upd (ar 6) c) (if_neg h72).symm)) rfl rfl rfl rfl rfl)) | (rw [ansC_1 h51 h57]; exact (m12 rfl rfl (inl_eq (congrArg (upd (ar 2) (6 * c + j)) (if_pos (Int32.not_le.mp h23)).symm)) rfl rfl rfl (inl_eq (congrArg (upd (ar 6) c) (if_pos h72).symm)) rfl rfl rfl rfl rfl)) | (rw [ansC_2 h51 h57]; exact (m12 rfl rfl (inl_eq (congrArg (upd (ar 2) (6 * c + j)) (if_pos (Int32.not_le.mp h23)).symm)) rfl rfl rfl rfl rfl rfl rfl rfl rfl))) dX4_answerComes_103
    · exact rb_vret S hr hlk hQ wb (by first | (rw [ansC_0 h51]; exact (m12 rfl rfl (inl_eq (congrArg (upd (ar 2) (6 * c + j)) (if_neg (Int32.not_lt.mpr h23)).symm)) rfl rfl rfl rfl rfl rfl rfl rfl rfl)) | (rw [ansC_1 h51 h57]; exact (m12 rfl rfl (inl_eq (congrArg (upd (ar 2) (6 * c + j)) (if_neg (Int32.not_lt.mpr h23)).symm)) rfl rfl rfl (inl_eq (congrArg (upd (ar 6) c) (if_neg h72).symm)) rfl rfl rfl rfl rfl)) | (rw [ansC_1 h51 h57]; exact (m12 rfl rfl (inl_eq (congrArg (upd (ar 2) (6 * c + j)) (if_neg (Int32.not_lt.mpr h23)).symm)) rfl rfl rfl (inl_eq (congrArg (upd (ar 6) c) (if_pos h72).symm)) rfl rfl rfl rfl rfl)) | (rw [ansC_2 h51 h57]; exact (m12 rfl rfl (inl_eq (congrArg (upd (ar 2) (6 * c + j)) (if_neg (Int32.not_lt.mpr h23)).symm)) rfl rfl rfl rfl rfl rfl rfl rfl rfl)) | (rw [ansC_0 h51]; exact (m12 rfl rfl (inl_eq (congrArg (upd (ar 2) (6 * c + j)) (if_pos (Int32.not_le.mp h23)).symm)) rfl rfl rfl rfl rfl rfl rfl rfl rfl)) | (rw [ansC_1 h51 h57]; exact (m12 rfl rfl (inl_eq (congrArg (upd (ar 2) (6 * c + j)) (if_pos (Int32.not_le.mp h23)).symm)) rfl rfl rfl (inl_eq (congrArg (upd (ar 6) c) (if_neg h72).symm)) rfl rfl rfl rfl rfl)) | (rw [ansC_1 h51 h57]; exact (m12 rfl rfl (inl_eq (congrArg (upd (ar 2) (6 * c + j)) (if_pos (Int32.not_le.mp h23)).symm)) rfl rfl rfl (inl_eq (congrArg (upd (ar 6) c) (if_pos h72).symm)) rfl rfl rfl rfl rfl)) | (rw [ansC_2 h51 h57]; exact (m12 rfl rfl (inl_eq (congrArg (upd (ar 2) (6 * c + j)) (if_pos (Int32.not_le.mp h23)).symm)) rfl rfl rfl rfl rfl rfl rfl rfl rfl))) dX4_answerComes_54

set_option maxHeartbeats 4000000 in
set_option maxRecDepth 100000 in
theorem m_deliver_x1 (l : Launch) (D : va_G) (cI cC cD : ClassId) (ad : Nat → Nat) (th : Int32) (n : Nat) (st : Int32) (mn : Nat) (ar : Nat → Nat → Int32) (x : Int32) (hx0 : x < 0 ∨ nI mn ≤ x) : RM l yX4_deliver cX4_deliver 7 (some .int) ({ frames := 2, cells := 0, slots := 0, locals := 51 }) D (ty3 cI cC cD) EN0 [.ref (ad 0), .int x] ad 12 (mE ad cI th n st mn ar) (mE ad cI (nI 1) n st mn ar) (some (.int (nI 0))) := by
  refine RM.of (by decide) (Nat.le_of_ble_eq_true rfl) ?_
  intro p e s m below meth c0 A ls args Q0 S hr hlk hQ wb hl
  have hx := S.1
  have hb := S.2.1
  have hl : lv_has ls 7 [(0, .ref (ad 0)), (1, .int x)] := hl
  refine lv_aload_n hx hb dX4_deliver_0 rfl (lv_at hl 0 rfl) ?_
  refine lv_aload_n hx hb dX4_deliver_1 rfl (lv_at hl 0 rfl) ?_
  refine lv_iload_n hx hb dX4_deliver_2 rfl (lv_at hl 1 rfl) ?_
  refine rb_callV S wb EN0_ok (m_noLetter_t l D cI cC cD ad th n st mn ar x (nI 1) (tells_t hx0)) (bw5 bw_544 bw_546 bw_26 bw_37 bw_547) (rb_recv wb 0 (by decide) rfl rfl) hdX4_noLetter rfl ⟨rfl, rfl⟩ ⟨by decide, by decide⟩ hl.1 (Nat.le_of_ble_eq_true rfl) ⟨Nat.zero_le _, Nat.zero_le _⟩ (rest := [.ref (ad 0)]) (st1 := [.int (nI 1), .ref (ad 0)]) rfl rfl dX4_deliver_3 (fun H locs wb => ?_)
  refine lv_if_eq (tgt := 13) hx hb dX4_deliver_6 (by decide) (fun h6 => absurd h6 (by decide)) (fun h6 => ?_)
  refine lv_iconst (v := nI 1) hx hb dX4_deliver_9 (by decide) ?_
  refine lv_goto (tgt := 14) hx hb dX4_deliver_10 (by decide) ?_
  refine rb_put (E' := mE ad cI (nI 1) n st mn ar) S wb 0 (by decide) rfl rfl in4 tyX4 tyX4_ok nmX4 0 (by decide) bw_462 rfl rfl rfl (Nat.le_of_ble_eq_true rfl) (m12 rfl rfl rfl rfl rfl rfl rfl rfl rfl rfl rfl rfl) dX4_deliver_14 (fun H locs wb => ?_)
  refine lv_aload_n hx hb dX4_deliver_17 rfl (lv_at hl 0 rfl) ?_
  refine rb_get S wb 0 (by decide) rfl rfl in4 0 (by decide) bw_462 rfl dX4_deliver_18 ?_
  refine lv_if_eq (tgt := 26) hx hb dX4_deliver_21 (by decide) (fun h21 => absurd h21 (by decide)) (fun h21 => ?_)
  refine lv_iconst (v := nI 0) hx hb dX4_deliver_24 (by decide) ?_
  exact rb_iret S hr hlk hQ rfl wb (m12 rfl rfl rfl rfl rfl rfl rfl rfl rfl rfl rfl rfl) dX4_deliver_25

set_option maxHeartbeats 4000000 in
set_option maxRecDepth 100000 in
theorem m_deliver_b (l : Launch) (D : va_G) (cI cC cD : ClassId) (ad : Nat → Nat) (th : Int32) (n : Nat) (st : Int32) (mn : Nat) (ar : Nat → Nat → Int32) (i c j : Nat) (hn : n ≤ 6) (hm : mn < 118) (hi : i < mn) (hc : c < n) (hj : j < n) (ec : ar 10 (5 * i + 1) = nI c) (ej : ar 10 (5 * i + 2) = nI j) (hk : ar 10 (5 * i) = 0) : RM l yX4_deliver cX4_deliver 7 (some .int) ({ frames := 2, cells := 0, slots := 0, locals := 51 }) D (ty3 cI cC cD) EN0 [.ref (ad 0), .int (nI i)] ad 12 (mE ad cI th n st mn ar) (mE ad cI (nI 0) n st (bidC st (mn - 1) (va_up ar 10 (dr (ar 10) (5 * i) (5 * (mn - 1)))) c j (ar 10 (5 * i + 3)) (ar 10 (5 * i + 4))).1 (bidC st (mn - 1) (va_up ar 10 (dr (ar 10) (5 * i) (5 * (mn - 1)))) c j (ar 10 (5 * i + 3)) (ar 10 (5 * i + 4))).2) (some (.int (ar 10 (5 * i)))) := by
  refine RM.of (by decide) (Nat.le_of_ble_eq_true rfl) ?_
  intro p e s m below meth c0 A ls args Q0 S hr hlk hQ wb hl
  have hx := S.1
  have hb := S.2.1
  have hl : lv_has ls 7 [(0, .ref (ad 0)), (1, .int (nI i))] := hl
  refine lv_aload_n hx hb dX4_deliver_0 rfl (lv_at hl 0 rfl) ?_
  refine lv_aload_n hx hb dX4_deliver_1 rfl (lv_at hl 0 rfl) ?_
  refine lv_iload_n hx hb dX4_deliver_2 rfl (lv_at hl 1 rfl) ?_
  refine rb_callV S wb EN0_ok (m_noLetter_t l D cI cC cD ad th n st mn ar (nI i) (nI 0) (tells_f (no_f hi (by omega)))) (bw5 bw_544 bw_546 bw_26 bw_37 bw_547) (rb_recv wb 0 (by decide) rfl rfl) hdX4_noLetter rfl ⟨rfl, rfl⟩ ⟨by decide, by decide⟩ hl.1 (Nat.le_of_ble_eq_true rfl) ⟨Nat.zero_le _, Nat.zero_le _⟩ (rest := [.ref (ad 0)]) (st1 := [.int (nI 0), .ref (ad 0)]) rfl rfl dX4_deliver_3 (fun H locs wb => ?_)
  refine lv_if_eq (tgt := 13) hx hb dX4_deliver_6 (by decide) (fun h6 => ?_) (fun h6 => absurd (by decide) h6)
  refine lv_iconst (v := nI 0) hx hb dX4_deliver_13 (by decide) ?_
  refine rb_put (E' := mE ad cI (nI 0) n st mn ar) S wb 0 (by decide) rfl rfl in4 tyX4 tyX4_ok nmX4 0 (by decide) bw_462 rfl rfl rfl (Nat.le_of_ble_eq_true rfl) (m12 rfl rfl rfl rfl rfl rfl rfl rfl rfl rfl rfl rfl) dX4_deliver_14 (fun H locs wb => ?_)
  refine lv_aload_n hx hb dX4_deliver_17 rfl (lv_at hl 0 rfl) ?_
  refine rb_get S wb 0 (by decide) rfl rfl in4 0 (by decide) bw_462 rfl dX4_deliver_18 ?_
  refine lv_if_eq (tgt := 26) hx hb dX4_deliver_21 (by decide) (fun h21 => ?_) (fun h21 => absurd (by decide) h21)
  refine lv_aload_n hx hb dX4_deliver_26 rfl (lv_at hl 0 rfl) ?_
  refine rb_get S wb 0 (by decide) rfl rfl in4 13 (by decide) bw_475 rfl dX4_deliver_27 ?_
  refine lv_iconst (v := nI 5) hx hb dX4_deliver_30 (by decide) ?_
  refine lv_iload_n hx hb dX4_deliver_31 rfl (lv_at hl 1 rfl) ?_
  refine lv_imul hx hb dX4_deliver_32 ?_
  refine nb_ren (y := nI (5 * i)) (pk_mul _ _) ?_
  refine rb_ald (n := 600) (f := ar 10) (x := ar 10 (5 * i)) S wb 10 (by decide) rfl 0 rfl (5 * i) (by omega) (by decide) rfl dX4_deliver_33 ?_
  refine lv_istore_n (lv' := [(2, .int (ar 10 (5 * i))), (0, .ref (ad 0)), (1, .int (nI i))]) hx hb dX4_deliver_34 rfl hl (by decide) rfl (fun ls hl => ?_)
  refine lv_aload_n hx hb dX4_deliver_35 rfl (lv_at hl 1 rfl) ?_
  refine rb_get S wb 0 (by decide) rfl rfl in4 13 (by decide) bw_475 rfl dX4_deliver_36 ?_
  refine lv_iconst (v := nI 5) hx hb dX4_deliver_39 (by decide) ?_
  refine lv_iload_n hx hb dX4_deliver_40 rfl (lv_at hl 2 rfl) ?_
  refine lv_imul hx hb dX4_deliver_41 ?_
  refine nb_ren (y := nI (5 * i)) (pk_mul _ _) ?_
  refine lv_iconst (v := nI 1) hx hb dX4_deliver_42 (by decide) ?_
  refine lv_iadd hx hb dX4_deliver_43 ?_
  refine nb_ren (y := nI (5 * i + 1)) (nI_add _ _) ?_
  refine rb_ald (n := 600) (f := ar 10) (x := ar 10 (5 * i + 1)) S wb 10 (by decide) rfl 0 rfl (5 * i + 1) (by omega) (by decide) rfl dX4_deliver_44 ?_
  refine nb_ren (y := nI c) ec ?_
  refine lv_istore_n (lv' := [(3, .int (nI c)), (2, .int (ar 10 (5 * i))), (0, .ref (ad 0)), (1, .int (nI i))]) hx hb dX4_deliver_45 rfl hl (by decide) rfl (fun ls hl => ?_)
  refine lv_aload_n hx hb dX4_deliver_46 rfl (lv_at hl 2 rfl) ?_
  refine rb_get S wb 0 (by decide) rfl rfl in4 13 (by decide) bw_475 rfl dX4_deliver_47 ?_
  refine lv_iconst (v := nI 5) hx hb dX4_deliver_50 (by decide) ?_
  refine lv_iload_n hx hb dX4_deliver_51 rfl (lv_at hl 3 rfl) ?_
  refine lv_imul hx hb dX4_deliver_52 ?_
  refine nb_ren (y := nI (5 * i)) (pk_mul _ _) ?_
  refine lv_iconst (v := nI 2) hx hb dX4_deliver_53 (by decide) ?_
  refine lv_iadd hx hb dX4_deliver_54 ?_
  refine nb_ren (y := nI (5 * i + 2)) (nI_add _ _) ?_
  refine rb_ald (n := 600) (f := ar 10) (x := ar 10 (5 * i + 2)) S wb 10 (by decide) rfl 0 rfl (5 * i + 2) (by omega) (by decide) rfl dX4_deliver_55 ?_
  refine nb_ren (y := nI j) ej ?_
  refine lv_istore (lv' := [(4, .int (nI j)), (3, .int (nI c)), (2, .int (ar 10 (5 * i))), (0, .ref (ad 0)), (1, .int (nI i))]) hx hb dX4_deliver_56 hl (by decide) rfl (fun ls hl => ?_)
  refine lv_aload_n hx hb dX4_deliver_58 rfl (lv_at hl 3 rfl) ?_
  refine rb_get S wb 0 (by decide) rfl rfl in4 13 (by decide) bw_475 rfl dX4_deliver_59 ?_
  refine lv_iconst (v := nI 5) hx hb dX4_deliver_62 (by decide) ?_
  refine lv_iload_n hx hb dX4_deliver_63 rfl (lv_at hl 4 rfl) ?_
  refine lv_imul hx hb dX4_deliver_64 ?_
  refine nb_ren (y := nI (5 * i)) (pk_mul _ _) ?_
  refine lv_iconst (v := nI 3) hx hb dX4_deliver_65 (by decide) ?_
  refine lv_iadd hx hb dX4_deliver_66 ?_
  refine nb_ren (y := nI (5 * i + 3)) (nI_add _ _) ?_
  refine rb_ald (n := 600) (f := ar 10) (x := ar 10 (5 * i + 3)) S wb 10 (by decide) rfl 0 rfl (5 * i + 3) (by omega) (by decide) rfl dX4_deliver_67 ?_
  refine lv_istore (lv' := [(5, .int (ar 10 (5 * i + 3))), (4, .int (nI j)), (3, .int (nI c)), (2, .int (ar 10 (5 * i))), (0, .ref (ad 0)), (1, .int (nI i))]) hx hb dX4_deliver_68 hl (by decide) rfl (fun ls hl => ?_)
  refine lv_aload_n hx hb dX4_deliver_70 rfl (lv_at hl 4 rfl) ?_
  refine rb_get S wb 0 (by decide) rfl rfl in4 13 (by decide) bw_475 rfl dX4_deliver_71 ?_
  refine lv_iconst (v := nI 5) hx hb dX4_deliver_74 (by decide) ?_
  refine lv_iload_n hx hb dX4_deliver_75 rfl (lv_at hl 5 rfl) ?_
  refine lv_imul hx hb dX4_deliver_76 ?_
  refine nb_ren (y := nI (5 * i)) (pk_mul _ _) ?_
  refine lv_iconst (v := nI 4) hx hb dX4_deliver_77 (by decide) ?_
  refine lv_iadd hx hb dX4_deliver_78 ?_
  refine nb_ren (y := nI (5 * i + 4)) (nI_add _ _) ?_
  refine rb_ald (n := 600) (f := ar 10) (x := ar 10 (5 * i + 4)) S wb 10 (by decide) rfl 0 rfl (5 * i + 4) (by omega) (by decide) rfl dX4_deliver_79 ?_
  refine lv_istore (lv' := [(6, .int (ar 10 (5 * i + 4))), (5, .int (ar 10 (5 * i + 3))), (4, .int (nI j)), (3, .int (nI c)), (2, .int (ar 10 (5 * i))), (0, .ref (ad 0)), (1, .int (nI i))]) hx hb dX4_deliver_80 hl (by decide) rfl (fun ls hl => ?_)
  refine lv_aload_n hx hb dX4_deliver_82 rfl (lv_at hl 5 rfl) ?_
  refine lv_iload_n hx hb dX4_deliver_83 rfl (lv_at hl 6 rfl) ?_
  refine rb_callV S wb EN0_ok (m_drop l D cI cC cD ad (nI 0) n st mn ar i (by omega) (by omega)) (bw5 bw_548 bw_550 bw_27 bw_37 bw_551) (rb_recv wb 0 (by decide) rfl rfl) hdX4_drop rfl ⟨rfl, rfl⟩ ⟨by decide, by decide⟩ hl.1 (Nat.le_of_ble_eq_true rfl) ⟨Nat.zero_le _, Nat.zero_le _⟩ (rest := []) (st1 := []) rfl rfl dX4_deliver_84 (fun H locs wb => ?_)
  refine lv_iload_n hx hb dX4_deliver_87 rfl (lv_at hl 4 rfl) ?_
  refine lv_if_ne (tgt := 105) hx hb dX4_deliver_88 (by decide) (fun h88 => absurd hk h88) (fun h88 => ?_)
  refine lv_aload_n hx hb dX4_deliver_91 rfl (lv_at hl 5 rfl) ?_
  refine lv_iload_n hx hb dX4_deliver_92 rfl (lv_at hl 3 rfl) ?_
  refine lv_iload hx hb dX4_deliver_93 (lv_at hl 2 rfl) ?_
  refine lv_iload hx hb dX4_deliver_95 (lv_at hl 1 rfl) ?_
  refine lv_iload hx hb dX4_deliver_97 (lv_at hl 0 rfl) ?_
  refine rb_callV S wb EN0_ok (m_bidComes l D cI cC cD ad (nI 0) n st (mn - 1) (va_up ar 10 (dr (ar 10) (5 * i) (5 * (mn - 1)))) c j (ar 10 (5 * i + 3)) (ar 10 (5 * i + 4)) (by omega) (by omega) (by omega)) (bw5 bw_552 bw_554 bw_28 bw_37 bw_555) (rb_recv wb 0 (by decide) rfl rfl) hdX4_bidComes rfl ⟨rfl, rfl⟩ ⟨by decide, by decide⟩ hl.1 (Nat.le_of_ble_eq_true rfl) ⟨Nat.zero_le _, Nat.zero_le _⟩ (rest := []) (st1 := []) rfl rfl dX4_deliver_99 (fun H locs wb => ?_)
  refine lv_goto (tgt := 117) hx hb dX4_deliver_102 (by decide) ?_
  refine lv_iload_n hx hb dX4_deliver_117 rfl (lv_at hl 4 rfl) ?_
  exact rb_iret S hr hlk hQ rfl wb (fun _ _ => rfl) dX4_deliver_118

set_option maxHeartbeats 4000000 in
set_option maxRecDepth 100000 in
theorem m_deliver_a (l : Launch) (D : va_G) (cI cC cD : ClassId) (ad : Nat → Nat) (th : Int32) (n : Nat) (st : Int32) (mn : Nat) (ar : Nat → Nat → Int32) (i c j : Nat) (hn : n ≤ 6) (hm : mn < 118) (hi : i < mn) (hc : c < n) (hj : j < n) (ec : ar 10 (5 * i + 1) = nI c) (ej : ar 10 (5 * i + 2) = nI j) (hk : ¬ ar 10 (5 * i) = 0) : RM l yX4_deliver cX4_deliver 7 (some .int) ({ frames := 2, cells := 0, slots := 0, locals := 51 }) D (ty3 cI cC cD) EN0 [.ref (ad 0), .int (nI i)] ad 12 (mE ad cI th n st mn ar) (mE ad cI (nI 0) n st (mn - 1) (ansC (va_up ar 10 (dr (ar 10) (5 * i) (5 * (mn - 1)))) (ar 10 (5 * i)) c j (ar 10 (5 * i + 3)) (ar 10 (5 * i + 4)))) (some (.int (ar 10 (5 * i)))) := by
  refine RM.of (by decide) (Nat.le_of_ble_eq_true rfl) ?_
  intro p e s m below meth c0 A ls args Q0 S hr hlk hQ wb hl
  have hx := S.1
  have hb := S.2.1
  have hl : lv_has ls 7 [(0, .ref (ad 0)), (1, .int (nI i))] := hl
  refine lv_aload_n hx hb dX4_deliver_0 rfl (lv_at hl 0 rfl) ?_
  refine lv_aload_n hx hb dX4_deliver_1 rfl (lv_at hl 0 rfl) ?_
  refine lv_iload_n hx hb dX4_deliver_2 rfl (lv_at hl 1 rfl) ?_
  refine rb_callV S wb EN0_ok (m_noLetter_t l D cI cC cD ad th n st mn ar (nI i) (nI 0) (tells_f (no_f hi (by omega)))) (bw5 bw_544 bw_546 bw_26 bw_37 bw_547) (rb_recv wb 0 (by decide) rfl rfl) hdX4_noLetter rfl ⟨rfl, rfl⟩ ⟨by decide, by decide⟩ hl.1 (Nat.le_of_ble_eq_true rfl) ⟨Nat.zero_le _, Nat.zero_le _⟩ (rest := [.ref (ad 0)]) (st1 := [.int (nI 0), .ref (ad 0)]) rfl rfl dX4_deliver_3 (fun H locs wb => ?_)
  refine lv_if_eq (tgt := 13) hx hb dX4_deliver_6 (by decide) (fun h6 => ?_) (fun h6 => absurd (by decide) h6)
  refine lv_iconst (v := nI 0) hx hb dX4_deliver_13 (by decide) ?_
  refine rb_put (E' := mE ad cI (nI 0) n st mn ar) S wb 0 (by decide) rfl rfl in4 tyX4 tyX4_ok nmX4 0 (by decide) bw_462 rfl rfl rfl (Nat.le_of_ble_eq_true rfl) (m12 rfl rfl rfl rfl rfl rfl rfl rfl rfl rfl rfl rfl) dX4_deliver_14 (fun H locs wb => ?_)
  refine lv_aload_n hx hb dX4_deliver_17 rfl (lv_at hl 0 rfl) ?_
  refine rb_get S wb 0 (by decide) rfl rfl in4 0 (by decide) bw_462 rfl dX4_deliver_18 ?_
  refine lv_if_eq (tgt := 26) hx hb dX4_deliver_21 (by decide) (fun h21 => ?_) (fun h21 => absurd (by decide) h21)
  refine lv_aload_n hx hb dX4_deliver_26 rfl (lv_at hl 0 rfl) ?_
  refine rb_get S wb 0 (by decide) rfl rfl in4 13 (by decide) bw_475 rfl dX4_deliver_27 ?_
  refine lv_iconst (v := nI 5) hx hb dX4_deliver_30 (by decide) ?_
  refine lv_iload_n hx hb dX4_deliver_31 rfl (lv_at hl 1 rfl) ?_
  refine lv_imul hx hb dX4_deliver_32 ?_
  refine nb_ren (y := nI (5 * i)) (pk_mul _ _) ?_
  refine rb_ald (n := 600) (f := ar 10) (x := ar 10 (5 * i)) S wb 10 (by decide) rfl 0 rfl (5 * i) (by omega) (by decide) rfl dX4_deliver_33 ?_
  refine lv_istore_n (lv' := [(2, .int (ar 10 (5 * i))), (0, .ref (ad 0)), (1, .int (nI i))]) hx hb dX4_deliver_34 rfl hl (by decide) rfl (fun ls hl => ?_)
  refine lv_aload_n hx hb dX4_deliver_35 rfl (lv_at hl 1 rfl) ?_
  refine rb_get S wb 0 (by decide) rfl rfl in4 13 (by decide) bw_475 rfl dX4_deliver_36 ?_
  refine lv_iconst (v := nI 5) hx hb dX4_deliver_39 (by decide) ?_
  refine lv_iload_n hx hb dX4_deliver_40 rfl (lv_at hl 2 rfl) ?_
  refine lv_imul hx hb dX4_deliver_41 ?_
  refine nb_ren (y := nI (5 * i)) (pk_mul _ _) ?_
  refine lv_iconst (v := nI 1) hx hb dX4_deliver_42 (by decide) ?_
  refine lv_iadd hx hb dX4_deliver_43 ?_
  refine nb_ren (y := nI (5 * i + 1)) (nI_add _ _) ?_
  refine rb_ald (n := 600) (f := ar 10) (x := ar 10 (5 * i + 1)) S wb 10 (by decide) rfl 0 rfl (5 * i + 1) (by omega) (by decide) rfl dX4_deliver_44 ?_
  refine nb_ren (y := nI c) ec ?_
  refine lv_istore_n (lv' := [(3, .int (nI c)), (2, .int (ar 10 (5 * i))), (0, .ref (ad 0)), (1, .int (nI i))]) hx hb dX4_deliver_45 rfl hl (by decide) rfl (fun ls hl => ?_)
  refine lv_aload_n hx hb dX4_deliver_46 rfl (lv_at hl 2 rfl) ?_
  refine rb_get S wb 0 (by decide) rfl rfl in4 13 (by decide) bw_475 rfl dX4_deliver_47 ?_
  refine lv_iconst (v := nI 5) hx hb dX4_deliver_50 (by decide) ?_
  refine lv_iload_n hx hb dX4_deliver_51 rfl (lv_at hl 3 rfl) ?_
  refine lv_imul hx hb dX4_deliver_52 ?_
  refine nb_ren (y := nI (5 * i)) (pk_mul _ _) ?_
  refine lv_iconst (v := nI 2) hx hb dX4_deliver_53 (by decide) ?_
  refine lv_iadd hx hb dX4_deliver_54 ?_
  refine nb_ren (y := nI (5 * i + 2)) (nI_add _ _) ?_
  refine rb_ald (n := 600) (f := ar 10) (x := ar 10 (5 * i + 2)) S wb 10 (by decide) rfl 0 rfl (5 * i + 2) (by omega) (by decide) rfl dX4_deliver_55 ?_
  refine nb_ren (y := nI j) ej ?_
  refine lv_istore (lv' := [(4, .int (nI j)), (3, .int (nI c)), (2, .int (ar 10 (5 * i))), (0, .ref (ad 0)), (1, .int (nI i))]) hx hb dX4_deliver_56 hl (by decide) rfl (fun ls hl => ?_)
  refine lv_aload_n hx hb dX4_deliver_58 rfl (lv_at hl 3 rfl) ?_
  refine rb_get S wb 0 (by decide) rfl rfl in4 13 (by decide) bw_475 rfl dX4_deliver_59 ?_
  refine lv_iconst (v := nI 5) hx hb dX4_deliver_62 (by decide) ?_
  refine lv_iload_n hx hb dX4_deliver_63 rfl (lv_at hl 4 rfl) ?_
  refine lv_imul hx hb dX4_deliver_64 ?_
  refine nb_ren (y := nI (5 * i)) (pk_mul _ _) ?_
  refine lv_iconst (v := nI 3) hx hb dX4_deliver_65 (by decide) ?_
  refine lv_iadd hx hb dX4_deliver_66 ?_
  refine nb_ren (y := nI (5 * i + 3)) (nI_add _ _) ?_
  refine rb_ald (n := 600) (f := ar 10) (x := ar 10 (5 * i + 3)) S wb 10 (by decide) rfl 0 rfl (5 * i + 3) (by omega) (by decide) rfl dX4_deliver_67 ?_
  refine lv_istore (lv' := [(5, .int (ar 10 (5 * i + 3))), (4, .int (nI j)), (3, .int (nI c)), (2, .int (ar 10 (5 * i))), (0, .ref (ad 0)), (1, .int (nI i))]) hx hb dX4_deliver_68 hl (by decide) rfl (fun ls hl => ?_)
  refine lv_aload_n hx hb dX4_deliver_70 rfl (lv_at hl 4 rfl) ?_
  refine rb_get S wb 0 (by decide) rfl rfl in4 13 (by decide) bw_475 rfl dX4_deliver_71 ?_
  refine lv_iconst (v := nI 5) hx hb dX4_deliver_74 (by decide) ?_
  refine lv_iload_n hx hb dX4_deliver_75 rfl (lv_at hl 5 rfl) ?_
  refine lv_imul hx hb dX4_deliver_76 ?_
  refine nb_ren (y := nI (5 * i)) (pk_mul _ _) ?_
  refine lv_iconst (v := nI 4) hx hb dX4_deliver_77 (by decide) ?_
  refine lv_iadd hx hb dX4_deliver_78 ?_
  refine nb_ren (y := nI (5 * i + 4)) (nI_add _ _) ?_
  refine rb_ald (n := 600) (f := ar 10) (x := ar 10 (5 * i + 4)) S wb 10 (by decide) rfl 0 rfl (5 * i + 4) (by omega) (by decide) rfl dX4_deliver_79 ?_
  refine lv_istore (lv' := [(6, .int (ar 10 (5 * i + 4))), (5, .int (ar 10 (5 * i + 3))), (4, .int (nI j)), (3, .int (nI c)), (2, .int (ar 10 (5 * i))), (0, .ref (ad 0)), (1, .int (nI i))]) hx hb dX4_deliver_80 hl (by decide) rfl (fun ls hl => ?_)
  refine lv_aload_n hx hb dX4_deliver_82 rfl (lv_at hl 5 rfl) ?_
  refine lv_iload_n hx hb dX4_deliver_83 rfl (lv_at hl 6 rfl) ?_
  refine rb_callV S wb EN0_ok (m_drop l D cI cC cD ad (nI 0) n st mn ar i (by omega) (by omega)) (bw5 bw_548 bw_550 bw_27 bw_37 bw_551) (rb_recv wb 0 (by decide) rfl rfl) hdX4_drop rfl ⟨rfl, rfl⟩ ⟨by decide, by decide⟩ hl.1 (Nat.le_of_ble_eq_true rfl) ⟨Nat.zero_le _, Nat.zero_le _⟩ (rest := []) (st1 := []) rfl rfl dX4_deliver_84 (fun H locs wb => ?_)
  refine lv_iload_n hx hb dX4_deliver_87 rfl (lv_at hl 4 rfl) ?_
  refine lv_if_ne (tgt := 105) hx hb dX4_deliver_88 (by decide) (fun h88 => ?_) (fun h88 => absurd h88 hk)
  refine lv_aload_n hx hb dX4_deliver_105 rfl (lv_at hl 5 rfl) ?_
  refine lv_iload_n hx hb dX4_deliver_106 rfl (lv_at hl 4 rfl) ?_
  refine lv_iload_n hx hb dX4_deliver_107 rfl (lv_at hl 3 rfl) ?_
  refine lv_iload hx hb dX4_deliver_108 (lv_at hl 2 rfl) ?_
  refine lv_iload hx hb dX4_deliver_110 (lv_at hl 1 rfl) ?_
  refine lv_iload hx hb dX4_deliver_112 (lv_at hl 0 rfl) ?_
  refine rb_callV S wb EN0_ok (m_answerComes l D cI cC cD ad (nI 0) n st (mn - 1) (va_up ar 10 (dr (ar 10) (5 * i) (5 * (mn - 1)))) (ar 10 (5 * i)) c j (ar 10 (5 * i + 3)) (ar 10 (5 * i + 4)) (by omega) (by omega)) (bw5 bw_556 bw_558 bw_29 bw_37 bw_559) (rb_recv wb 0 (by decide) rfl rfl) hdX4_answerComes rfl ⟨rfl, rfl⟩ ⟨by decide, by decide⟩ hl.1 (Nat.le_of_ble_eq_true rfl) ⟨Nat.zero_le _, Nat.zero_le _⟩ (rest := []) (st1 := []) rfl rfl dX4_deliver_114 (fun H locs wb => ?_)
  refine lv_iload_n hx hb dX4_deliver_117 rfl (lv_at hl 4 rfl) ?_
  exact rb_iret S hr hlk hQ rfl wb (fun _ _ => rfl) dX4_deliver_118

set_option maxHeartbeats 4000000 in
set_option maxRecDepth 100000 in
theorem m_worth_x1a (l : Launch) (D : va_G) (cI cC cD : ClassId) (ad : Nat → Nat) (th : Int32) (n : Nat) (st : Int32) (mn : Nat) (ar : Nat → Nat → Int32) (x y z : Int32) (hn : n ≤ 6) (hT : HT ar n) (hx0 : x < 0 ∨ nI n ≤ x) : RM l yX4_worth cX4_worth 6 none ({ frames := 1, cells := 0, slots := 0, locals := 23 }) D (ty3 cI cC cD) EN0 [.ref (ad 0), .int x, .int y, .int z] ad 12 (mE ad cI th n st mn ar) (mE ad cI (nI 1) n st mn ar) none := by
  refine RM.of (by decide) (Nat.le_of_ble_eq_true rfl) ?_
  intro p e s m below meth c0 A ls args Q0 S hr hlk hQ wb hl
  have hx := S.1
  have hb := S.2.1
  have hl : lv_has ls 6 [(0, .ref (ad 0)), (1, .int x), (2, .int y), (3, .int z)] := hl
  refine lv_iconst (v := nI 0) hx hb dX4_worth_0 (by decide) ?_
  refine lv_istore (lv' := [(4, .int (nI 0)), (0, .ref (ad 0)), (1, .int x), (2, .int y), (3, .int z)]) hx hb dX4_worth_1 hl (by decide) rfl (fun ls hl => ?_)
  refine lv_iconst (v := nI 0) hx hb dX4_worth_3 (by decide) ?_
  refine lv_istore (lv' := [(5, .int (nI 0)), (4, .int (nI 0)), (0, .ref (ad 0)), (1, .int x), (2, .int y), (3, .int z)]) hx hb dX4_worth_4 hl (by decide) rfl (fun ls hl => ?_)
  have L6 : ∀ (fuel : Nat) (k : Nat) (v : Int32) (hkn : k ≤ n) (hfu : n < k + fuel) (hv : tells v (SB ar k)) (H : Heap) (locs : List Loc) (wb : WB D (ty3 cI cC cD) EN0 ad 12 A s (mE ad cI th n st mn ar) H locs) (ls : Array Slot) (hl : lv_has ls 6 [(0, .ref (ad 0)), (1, .int x), (2, .int y), (3, .int z), (4, .int v), (5, .int (nI k))]), W p l e ({ frames := 1, cells := 0, slots := 0, locals := 23 }) s m args below meth c0 H locs 0 0 Q0 (F0 m 6 ls []) := by
    intro fuel
    induction fuel with
    | zero => intro k v hkn hfu hv H locs wb ls hl; exact absurd hfu (by omega)
    | succ fuel ih =>
      intro k v hkn hfu hv H locs wb ls hl
      refine lv_iload hx hb dX4_worth_6 (lv_at hl 5 rfl) ?_
      refine lv_aload_n hx hb dX4_worth_8 rfl (lv_at hl 0 rfl) ?_
      refine rb_get S wb 0 (by decide) rfl rfl in4 1 (by decide) bw_463 rfl dX4_worth_9 ?_
      refine nb_icmp_ge (tgt := 43) hx hb dX4_worth_12 (by decide) (by omega) (by omega) (fun h12 => ?_) (fun h12 => ?_)
      · have hke : k = n := by omega
        rw [hke] at hv
        have L65 : ∀ (v5 : Int32) (hv5 : tells v5 (st = nI 1 ∧ stl ar n)) (H : Heap) (locs : List Loc) (wb : WB D (ty3 cI cC cD) EN0 ad 12 A s (mE ad cI th n st mn ar) H locs) (ls : Array Slot) (hl : lv_has ls 6 [(0, .ref (ad 0)), (1, .int x), (2, .int y), (3, .int z), (4, .int v), (5, .int v5)]), W p l e ({ frames := 1, cells := 0, slots := 0, locals := 23 }) s m args below meth c0 H locs 0 0 Q0 (F0 m 65 ls []) := by
            intro v5 hv5 H locs wb ls hl
            refine lv_aload_n hx hb dX4_worth_65 rfl (lv_at hl 0 rfl) ?_
            refine lv_aload_n hx hb dX4_worth_66 rfl (lv_at hl 0 rfl) ?_
            refine lv_iload_n hx hb dX4_worth_67 rfl (lv_at hl 1 rfl) ?_
            refine rb_callV S wb EN0_ok (m_no_t l D cI cC cD ad th n st mn ar x (nI 1) (tells_t hx0)) (bw5 bw_520 bw_522 bw_23 bw_37 bw_523) (rb_recv wb 0 (by decide) rfl rfl) hdX4_no rfl ⟨rfl, rfl⟩ ⟨by decide, by decide⟩ hl.1 (Nat.le_of_ble_eq_true rfl) ⟨Nat.zero_le _, Nat.zero_le _⟩ (rest := [.ref (ad 0)]) (st1 := [.int (nI 1), .ref (ad 0)]) rfl rfl dX4_worth_68 (fun H locs wb => ?_)
            refine lv_if_ne (tgt := 93) hx hb dX4_worth_71 (by decide) (fun h71 => ?_) (fun h71 => absurd h71 (by decide))
            refine lv_iconst (v := nI 1) hx hb dX4_worth_93 (by decide) ?_
            refine lv_goto (tgt := 112) hx hb dX4_worth_94 (by decide) ?_
            refine rb_put (E' := mE ad cI (nI 1) n st mn ar) S wb 0 (by decide) rfl rfl in4 tyX4 tyX4_ok nmX4 0 (by decide) bw_462 rfl rfl rfl (Nat.le_of_ble_eq_true rfl) (m12 rfl rfl rfl rfl rfl rfl rfl rfl rfl rfl rfl rfl) dX4_worth_112 (fun H locs wb => ?_)
            refine lv_aload_n hx hb dX4_worth_115 rfl (lv_at hl 0 rfl) ?_
            refine rb_get S wb 0 (by decide) rfl rfl in4 0 (by decide) bw_462 rfl dX4_worth_116 ?_
            refine lv_if_eq (tgt := 123) hx hb dX4_worth_119 (by decide) (fun h119 => absurd h119 (by decide)) (fun h119 => ?_)
            exact rb_vret S hr hlk hQ wb (m12 rfl rfl rfl rfl rfl rfl rfl rfl rfl rfl rfl rfl) dX4_worth_122
        refine lv_aload_n hx hb dX4_worth_43 rfl (lv_at hl 0 rfl) ?_
        refine rb_get S wb 0 (by decide) rfl rfl in4 2 (by decide) bw_464 rfl dX4_worth_44 ?_
        refine lv_iconst (v := nI 1) hx hb dX4_worth_47 (by decide) ?_
        refine lv_icmp_ne (tgt := 62) hx hb dX4_worth_48 (by decide) (fun h48 => ?_) (fun h48 => ?_)
        · refine lv_iconst (v := nI 0) hx hb dX4_worth_62 (by decide) ?_
          refine lv_istore (lv' := [(5, .int (nI 0)), (0, .ref (ad 0)), (1, .int x), (2, .int y), (3, .int z), (4, .int v)]) hx hb dX4_worth_63 hl (by decide) rfl (fun ls hl => ?_)
          exact L65 (nI 0) (by first | exact tells_f (fun q => h48 q.1) | exact tells_f (fun q => tells_F hrs h55 q.2) | exact tells_t ⟨h48, tells_T hrs h55⟩) _ _ wb ls (lv_sub hl [1, 2, 3, 4, 5, 0] rfl)
        · refine lv_aload_n hx hb dX4_worth_51 rfl (lv_at hl 0 rfl) ?_
          obtain ⟨rs, hrs⟩ := tells_ex (stl ar n)
          refine rb_callV S wb EN0_ok (m_isSettled l D cI cC cD ad th n st mn ar hn hT rs hrs) (bw5 bw_516 bw_518 bw_22 bw_37 bw_519) (rb_recv wb 0 (by decide) rfl rfl) hdX4_isSettled rfl ⟨rfl, rfl⟩ ⟨by decide, by decide⟩ hl.1 (Nat.le_of_ble_eq_true rfl) ⟨Nat.zero_le _, Nat.zero_le _⟩ (rest := []) (st1 := [.int rs]) rfl rfl dX4_worth_52 (fun H locs wb => ?_)
          refine lv_if_eq (tgt := 62) hx hb dX4_worth_55 (by decide) (fun h55 => ?_) (fun h55 => ?_)
          · refine lv_iconst (v := nI 0) hx hb dX4_worth_62 (by decide) ?_
            refine lv_istore (lv' := [(5, .int (nI 0)), (0, .ref (ad 0)), (1, .int x), (2, .int y), (3, .int z), (4, .int v)]) hx hb dX4_worth_63 hl (by decide) rfl (fun ls hl => ?_)
            exact L65 (nI 0) (by first | exact tells_f (fun q => h48 q.1) | exact tells_f (fun q => tells_F hrs h55 q.2) | exact tells_t ⟨h48, tells_T hrs h55⟩) _ _ wb ls (lv_sub hl [1, 2, 3, 4, 5, 0] rfl)
          · refine lv_iconst (v := nI 1) hx hb dX4_worth_58 (by decide) ?_
            refine lv_goto (tgt := 63) hx hb dX4_worth_59 (by decide) ?_
            refine lv_istore (lv' := [(5, .int (nI 1)), (0, .ref (ad 0)), (1, .int x), (2, .int y), (3, .int z), (4, .int v)]) hx hb dX4_worth_63 hl (by decide) rfl (fun ls hl => ?_)
            exact L65 (nI 1) (by first | exact tells_f (fun q => h48 q.1) | exact tells_f (fun q => tells_F hrs h55 q.2) | exact tells_t ⟨h48, tells_T hrs h55⟩) _ _ wb ls (lv_sub hl [1, 2, 3, 4, 5, 0] rfl)
      · refine lv_iload hx hb dX4_worth_15 (lv_at hl 4 rfl) ?_
        refine lv_if_ne (tgt := 30) hx hb dX4_worth_17 (by decide) (fun h17 => ?_) (fun h17 => ?_)
        · refine lv_iconst (v := nI 1) hx hb dX4_worth_30 (by decide) ?_
          refine lv_goto (tgt := 35) hx hb dX4_worth_31 (by decide) ?_
          refine lv_istore (lv' := [(4, .int (nI 1)), (0, .ref (ad 0)), (1, .int x), (2, .int y), (3, .int z), (5, .int (nI k))]) hx hb dX4_worth_35 hl (by decide) rfl (fun ls hl => ?_)
          refine lv_iinc (v := nI (k + 1)) (lv' := [(5, .int (nI (k + 1))), (4, .int (nI 1)), (0, .ref (ad 0)), (1, .int x), (2, .int y), (3, .int z)]) hx hb dX4_worth_37 hl (k := 5) rfl (nI_s1 _) (by decide) rfl (fun ls hl => ?_)
          refine lv_goto (tgt := 6) hx hb dX4_worth_40 (by decide) ?_
          exact ih (k + 1) (nI 1) (by omega) (by omega) (by first | exact tells_t (SB_1 (tells_T hv h17)) | exact tells_t (SB_2 h27) | exact tells_f (SB_3 (tells_F hv h17) h27)) _ _ wb ls (lv_sub hl [2, 3, 4, 5, 1, 0] rfl)
        · refine lv_aload_n hx hb dX4_worth_20 rfl (lv_at hl 0 rfl) ?_
          refine rb_get S wb 0 (by decide) rfl rfl in4 10 (by decide) bw_472 rfl dX4_worth_21 ?_
          refine lv_iload hx hb dX4_worth_24 (lv_at hl 5 rfl) ?_
          refine rb_ald (n := 6) (f := ar 8) (x := ar 8 k) S wb 8 (by decide) rfl 0 rfl k (by omega) (by decide) rfl dX4_worth_26 ?_
          refine lv_if_le (tgt := 34) hx hb dX4_worth_27 (by decide) (fun h27 => ?_) (fun h27 => ?_)
          · refine lv_iconst (v := nI 0) hx hb dX4_worth_34 (by decide) ?_
            refine lv_istore (lv' := [(4, .int (nI 0)), (0, .ref (ad 0)), (1, .int x), (2, .int y), (3, .int z), (5, .int (nI k))]) hx hb dX4_worth_35 hl (by decide) rfl (fun ls hl => ?_)
            refine lv_iinc (v := nI (k + 1)) (lv' := [(5, .int (nI (k + 1))), (4, .int (nI 0)), (0, .ref (ad 0)), (1, .int x), (2, .int y), (3, .int z)]) hx hb dX4_worth_37 hl (k := 5) rfl (nI_s1 _) (by decide) rfl (fun ls hl => ?_)
            refine lv_goto (tgt := 6) hx hb dX4_worth_40 (by decide) ?_
            exact ih (k + 1) (nI 0) (by omega) (by omega) (by first | exact tells_t (SB_1 (tells_T hv h17)) | exact tells_t (SB_2 h27) | exact tells_f (SB_3 (tells_F hv h17) h27)) _ _ wb ls (lv_sub hl [2, 3, 4, 5, 1, 0] rfl)
          · refine lv_iconst (v := nI 1) hx hb dX4_worth_30 (by decide) ?_
            refine lv_goto (tgt := 35) hx hb dX4_worth_31 (by decide) ?_
            refine lv_istore (lv' := [(4, .int (nI 1)), (0, .ref (ad 0)), (1, .int x), (2, .int y), (3, .int z), (5, .int (nI k))]) hx hb dX4_worth_35 hl (by decide) rfl (fun ls hl => ?_)
            refine lv_iinc (v := nI (k + 1)) (lv' := [(5, .int (nI (k + 1))), (4, .int (nI 1)), (0, .ref (ad 0)), (1, .int x), (2, .int y), (3, .int z)]) hx hb dX4_worth_37 hl (k := 5) rfl (nI_s1 _) (by decide) rfl (fun ls hl => ?_)
            refine lv_goto (tgt := 6) hx hb dX4_worth_40 (by decide) ?_
            exact ih (k + 1) (nI 1) (by omega) (by omega) (by first | exact tells_t (SB_1 (tells_T hv h17)) | exact tells_t (SB_2 h27) | exact tells_f (SB_3 (tells_F hv h17) h27)) _ _ wb ls (lv_sub hl [2, 3, 4, 5, 1, 0] rfl)
  exact L6 (n + 1) 0 (nI 0) (by omega) (by omega) (tells_f (fun q => by obtain ⟨_, q, _⟩ := q; exact absurd q (Nat.not_lt_zero _))) _ _ wb ls (lv_sub hl [2, 3, 4, 5, 1, 0] rfl)

set_option maxHeartbeats 4000000 in
set_option maxRecDepth 100000 in
theorem m_worth_x1b (l : Launch) (D : va_G) (cI cC cD : ClassId) (ad : Nat → Nat) (th : Int32) (n : Nat) (st : Int32) (mn : Nat) (ar : Nat → Nat → Int32) (x y z : Int32) (hn : n ≤ 6) (hT : HT ar n) (hx0 : ¬ (x < 0 ∨ nI n ≤ x)) (hy0 : y < 0 ∨ nI n ≤ y) : RM l yX4_worth cX4_worth 6 none ({ frames := 1, cells := 0, slots := 0, locals := 23 }) D (ty3 cI cC cD) EN0 [.ref (ad 0), .int x, .int y, .int z] ad 12 (mE ad cI th n st mn ar) (mE ad cI (nI 1) n st mn ar) none := by
  refine RM.of (by decide) (Nat.le_of_ble_eq_true rfl) ?_
  intro p e s m below meth c0 A ls args Q0 S hr hlk hQ wb hl
  have hx := S.1
  have hb := S.2.1
  have hl : lv_has ls 6 [(0, .ref (ad 0)), (1, .int x), (2, .int y), (3, .int z)] := hl
  refine lv_iconst (v := nI 0) hx hb dX4_worth_0 (by decide) ?_
  refine lv_istore (lv' := [(4, .int (nI 0)), (0, .ref (ad 0)), (1, .int x), (2, .int y), (3, .int z)]) hx hb dX4_worth_1 hl (by decide) rfl (fun ls hl => ?_)
  refine lv_iconst (v := nI 0) hx hb dX4_worth_3 (by decide) ?_
  refine lv_istore (lv' := [(5, .int (nI 0)), (4, .int (nI 0)), (0, .ref (ad 0)), (1, .int x), (2, .int y), (3, .int z)]) hx hb dX4_worth_4 hl (by decide) rfl (fun ls hl => ?_)
  have L6 : ∀ (fuel : Nat) (k : Nat) (v : Int32) (hkn : k ≤ n) (hfu : n < k + fuel) (hv : tells v (SB ar k)) (H : Heap) (locs : List Loc) (wb : WB D (ty3 cI cC cD) EN0 ad 12 A s (mE ad cI th n st mn ar) H locs) (ls : Array Slot) (hl : lv_has ls 6 [(0, .ref (ad 0)), (1, .int x), (2, .int y), (3, .int z), (4, .int v), (5, .int (nI k))]), W p l e ({ frames := 1, cells := 0, slots := 0, locals := 23 }) s m args below meth c0 H locs 0 0 Q0 (F0 m 6 ls []) := by
    intro fuel
    induction fuel with
    | zero => intro k v hkn hfu hv H locs wb ls hl; exact absurd hfu (by omega)
    | succ fuel ih =>
      intro k v hkn hfu hv H locs wb ls hl
      refine lv_iload hx hb dX4_worth_6 (lv_at hl 5 rfl) ?_
      refine lv_aload_n hx hb dX4_worth_8 rfl (lv_at hl 0 rfl) ?_
      refine rb_get S wb 0 (by decide) rfl rfl in4 1 (by decide) bw_463 rfl dX4_worth_9 ?_
      refine nb_icmp_ge (tgt := 43) hx hb dX4_worth_12 (by decide) (by omega) (by omega) (fun h12 => ?_) (fun h12 => ?_)
      · have hke : k = n := by omega
        rw [hke] at hv
        have L65 : ∀ (v5 : Int32) (hv5 : tells v5 (st = nI 1 ∧ stl ar n)) (H : Heap) (locs : List Loc) (wb : WB D (ty3 cI cC cD) EN0 ad 12 A s (mE ad cI th n st mn ar) H locs) (ls : Array Slot) (hl : lv_has ls 6 [(0, .ref (ad 0)), (1, .int x), (2, .int y), (3, .int z), (4, .int v), (5, .int v5)]), W p l e ({ frames := 1, cells := 0, slots := 0, locals := 23 }) s m args below meth c0 H locs 0 0 Q0 (F0 m 65 ls []) := by
            intro v5 hv5 H locs wb ls hl
            refine lv_aload_n hx hb dX4_worth_65 rfl (lv_at hl 0 rfl) ?_
            refine lv_aload_n hx hb dX4_worth_66 rfl (lv_at hl 0 rfl) ?_
            refine lv_iload_n hx hb dX4_worth_67 rfl (lv_at hl 1 rfl) ?_
            refine rb_callV S wb EN0_ok (m_no_t l D cI cC cD ad th n st mn ar x (nI 0) (tells_f hx0)) (bw5 bw_520 bw_522 bw_23 bw_37 bw_523) (rb_recv wb 0 (by decide) rfl rfl) hdX4_no rfl ⟨rfl, rfl⟩ ⟨by decide, by decide⟩ hl.1 (Nat.le_of_ble_eq_true rfl) ⟨Nat.zero_le _, Nat.zero_le _⟩ (rest := [.ref (ad 0)]) (st1 := [.int (nI 0), .ref (ad 0)]) rfl rfl dX4_worth_68 (fun H locs wb => ?_)
            refine lv_if_ne (tgt := 93) hx hb dX4_worth_71 (by decide) (fun h71 => absurd (by decide) h71) (fun h71 => ?_)
            refine lv_aload_n hx hb dX4_worth_74 rfl (lv_at hl 0 rfl) ?_
            refine lv_iload_n hx hb dX4_worth_75 rfl (lv_at hl 2 rfl) ?_
            refine rb_callV S wb EN0_ok (m_no_t l D cI cC cD ad th n st mn ar y (nI 1) (tells_t hy0)) (bw5 bw_520 bw_522 bw_23 bw_37 bw_523) (rb_recv wb 0 (by decide) rfl rfl) hdX4_no rfl ⟨rfl, rfl⟩ ⟨by decide, by decide⟩ hl.1 (Nat.le_of_ble_eq_true rfl) ⟨Nat.zero_le _, Nat.zero_le _⟩ (rest := [.ref (ad 0)]) (st1 := [.int (nI 1), .ref (ad 0)]) rfl rfl dX4_worth_76 (fun H locs wb => ?_)
            refine lv_if_ne (tgt := 93) hx hb dX4_worth_79 (by decide) (fun h79 => ?_) (fun h79 => absurd h79 (by decide))
            refine lv_iconst (v := nI 1) hx hb dX4_worth_93 (by decide) ?_
            refine lv_goto (tgt := 112) hx hb dX4_worth_94 (by decide) ?_
            refine rb_put (E' := mE ad cI (nI 1) n st mn ar) S wb 0 (by decide) rfl rfl in4 tyX4 tyX4_ok nmX4 0 (by decide) bw_462 rfl rfl rfl (Nat.le_of_ble_eq_true rfl) (m12 rfl rfl rfl rfl rfl rfl rfl rfl rfl rfl rfl rfl) dX4_worth_112 (fun H locs wb => ?_)
            refine lv_aload_n hx hb dX4_worth_115 rfl (lv_at hl 0 rfl) ?_
            refine rb_get S wb 0 (by decide) rfl rfl in4 0 (by decide) bw_462 rfl dX4_worth_116 ?_
            refine lv_if_eq (tgt := 123) hx hb dX4_worth_119 (by decide) (fun h119 => absurd h119 (by decide)) (fun h119 => ?_)
            exact rb_vret S hr hlk hQ wb (m12 rfl rfl rfl rfl rfl rfl rfl rfl rfl rfl rfl rfl) dX4_worth_122
        refine lv_aload_n hx hb dX4_worth_43 rfl (lv_at hl 0 rfl) ?_
        refine rb_get S wb 0 (by decide) rfl rfl in4 2 (by decide) bw_464 rfl dX4_worth_44 ?_
        refine lv_iconst (v := nI 1) hx hb dX4_worth_47 (by decide) ?_
        refine lv_icmp_ne (tgt := 62) hx hb dX4_worth_48 (by decide) (fun h48 => ?_) (fun h48 => ?_)
        · refine lv_iconst (v := nI 0) hx hb dX4_worth_62 (by decide) ?_
          refine lv_istore (lv' := [(5, .int (nI 0)), (0, .ref (ad 0)), (1, .int x), (2, .int y), (3, .int z), (4, .int v)]) hx hb dX4_worth_63 hl (by decide) rfl (fun ls hl => ?_)
          exact L65 (nI 0) (by first | exact tells_f (fun q => h48 q.1) | exact tells_f (fun q => tells_F hrs h55 q.2) | exact tells_t ⟨h48, tells_T hrs h55⟩) _ _ wb ls (lv_sub hl [1, 2, 3, 4, 5, 0] rfl)
        · refine lv_aload_n hx hb dX4_worth_51 rfl (lv_at hl 0 rfl) ?_
          obtain ⟨rs, hrs⟩ := tells_ex (stl ar n)
          refine rb_callV S wb EN0_ok (m_isSettled l D cI cC cD ad th n st mn ar hn hT rs hrs) (bw5 bw_516 bw_518 bw_22 bw_37 bw_519) (rb_recv wb 0 (by decide) rfl rfl) hdX4_isSettled rfl ⟨rfl, rfl⟩ ⟨by decide, by decide⟩ hl.1 (Nat.le_of_ble_eq_true rfl) ⟨Nat.zero_le _, Nat.zero_le _⟩ (rest := []) (st1 := [.int rs]) rfl rfl dX4_worth_52 (fun H locs wb => ?_)
          refine lv_if_eq (tgt := 62) hx hb dX4_worth_55 (by decide) (fun h55 => ?_) (fun h55 => ?_)
          · refine lv_iconst (v := nI 0) hx hb dX4_worth_62 (by decide) ?_
            refine lv_istore (lv' := [(5, .int (nI 0)), (0, .ref (ad 0)), (1, .int x), (2, .int y), (3, .int z), (4, .int v)]) hx hb dX4_worth_63 hl (by decide) rfl (fun ls hl => ?_)
            exact L65 (nI 0) (by first | exact tells_f (fun q => h48 q.1) | exact tells_f (fun q => tells_F hrs h55 q.2) | exact tells_t ⟨h48, tells_T hrs h55⟩) _ _ wb ls (lv_sub hl [1, 2, 3, 4, 5, 0] rfl)
          · refine lv_iconst (v := nI 1) hx hb dX4_worth_58 (by decide) ?_
            refine lv_goto (tgt := 63) hx hb dX4_worth_59 (by decide) ?_
            refine lv_istore (lv' := [(5, .int (nI 1)), (0, .ref (ad 0)), (1, .int x), (2, .int y), (3, .int z), (4, .int v)]) hx hb dX4_worth_63 hl (by decide) rfl (fun ls hl => ?_)
            exact L65 (nI 1) (by first | exact tells_f (fun q => h48 q.1) | exact tells_f (fun q => tells_F hrs h55 q.2) | exact tells_t ⟨h48, tells_T hrs h55⟩) _ _ wb ls (lv_sub hl [1, 2, 3, 4, 5, 0] rfl)
      · refine lv_iload hx hb dX4_worth_15 (lv_at hl 4 rfl) ?_
        refine lv_if_ne (tgt := 30) hx hb dX4_worth_17 (by decide) (fun h17 => ?_) (fun h17 => ?_)
        · refine lv_iconst (v := nI 1) hx hb dX4_worth_30 (by decide) ?_
          refine lv_goto (tgt := 35) hx hb dX4_worth_31 (by decide) ?_
          refine lv_istore (lv' := [(4, .int (nI 1)), (0, .ref (ad 0)), (1, .int x), (2, .int y), (3, .int z), (5, .int (nI k))]) hx hb dX4_worth_35 hl (by decide) rfl (fun ls hl => ?_)
          refine lv_iinc (v := nI (k + 1)) (lv' := [(5, .int (nI (k + 1))), (4, .int (nI 1)), (0, .ref (ad 0)), (1, .int x), (2, .int y), (3, .int z)]) hx hb dX4_worth_37 hl (k := 5) rfl (nI_s1 _) (by decide) rfl (fun ls hl => ?_)
          refine lv_goto (tgt := 6) hx hb dX4_worth_40 (by decide) ?_
          exact ih (k + 1) (nI 1) (by omega) (by omega) (by first | exact tells_t (SB_1 (tells_T hv h17)) | exact tells_t (SB_2 h27) | exact tells_f (SB_3 (tells_F hv h17) h27)) _ _ wb ls (lv_sub hl [2, 3, 4, 5, 1, 0] rfl)
        · refine lv_aload_n hx hb dX4_worth_20 rfl (lv_at hl 0 rfl) ?_
          refine rb_get S wb 0 (by decide) rfl rfl in4 10 (by decide) bw_472 rfl dX4_worth_21 ?_
          refine lv_iload hx hb dX4_worth_24 (lv_at hl 5 rfl) ?_
          refine rb_ald (n := 6) (f := ar 8) (x := ar 8 k) S wb 8 (by decide) rfl 0 rfl k (by omega) (by decide) rfl dX4_worth_26 ?_
          refine lv_if_le (tgt := 34) hx hb dX4_worth_27 (by decide) (fun h27 => ?_) (fun h27 => ?_)
          · refine lv_iconst (v := nI 0) hx hb dX4_worth_34 (by decide) ?_
            refine lv_istore (lv' := [(4, .int (nI 0)), (0, .ref (ad 0)), (1, .int x), (2, .int y), (3, .int z), (5, .int (nI k))]) hx hb dX4_worth_35 hl (by decide) rfl (fun ls hl => ?_)
            refine lv_iinc (v := nI (k + 1)) (lv' := [(5, .int (nI (k + 1))), (4, .int (nI 0)), (0, .ref (ad 0)), (1, .int x), (2, .int y), (3, .int z)]) hx hb dX4_worth_37 hl (k := 5) rfl (nI_s1 _) (by decide) rfl (fun ls hl => ?_)
            refine lv_goto (tgt := 6) hx hb dX4_worth_40 (by decide) ?_
            exact ih (k + 1) (nI 0) (by omega) (by omega) (by first | exact tells_t (SB_1 (tells_T hv h17)) | exact tells_t (SB_2 h27) | exact tells_f (SB_3 (tells_F hv h17) h27)) _ _ wb ls (lv_sub hl [2, 3, 4, 5, 1, 0] rfl)
          · refine lv_iconst (v := nI 1) hx hb dX4_worth_30 (by decide) ?_
            refine lv_goto (tgt := 35) hx hb dX4_worth_31 (by decide) ?_
            refine lv_istore (lv' := [(4, .int (nI 1)), (0, .ref (ad 0)), (1, .int x), (2, .int y), (3, .int z), (5, .int (nI k))]) hx hb dX4_worth_35 hl (by decide) rfl (fun ls hl => ?_)
            refine lv_iinc (v := nI (k + 1)) (lv' := [(5, .int (nI (k + 1))), (4, .int (nI 1)), (0, .ref (ad 0)), (1, .int x), (2, .int y), (3, .int z)]) hx hb dX4_worth_37 hl (k := 5) rfl (nI_s1 _) (by decide) rfl (fun ls hl => ?_)
            refine lv_goto (tgt := 6) hx hb dX4_worth_40 (by decide) ?_
            exact ih (k + 1) (nI 1) (by omega) (by omega) (by first | exact tells_t (SB_1 (tells_T hv h17)) | exact tells_t (SB_2 h27) | exact tells_f (SB_3 (tells_F hv h17) h27)) _ _ wb ls (lv_sub hl [2, 3, 4, 5, 1, 0] rfl)
  exact L6 (n + 1) 0 (nI 0) (by omega) (by omega) (tells_f (fun q => by obtain ⟨_, q, _⟩ := q; exact absurd q (Nat.not_lt_zero _))) _ _ wb ls (lv_sub hl [2, 3, 4, 5, 1, 0] rfl)

set_option maxHeartbeats 4000000 in
set_option maxRecDepth 100000 in
theorem m_worth_x1c (l : Launch) (D : va_G) (cI cC cD : ClassId) (ad : Nat → Nat) (th : Int32) (n : Nat) (st : Int32) (mn : Nat) (ar : Nat → Nat → Int32) (x y z : Int32) (hn : n ≤ 6) (hT : HT ar n) (hx0 : ¬ (x < 0 ∨ nI n ≤ x)) (hy0 : ¬ (y < 0 ∨ nI n ≤ y)) (hz0 : z < 0 ∨ nI 1000 < z) : RM l yX4_worth cX4_worth 6 none ({ frames := 1, cells := 0, slots := 0, locals := 23 }) D (ty3 cI cC cD) EN0 [.ref (ad 0), .int x, .int y, .int z] ad 12 (mE ad cI th n st mn ar) (mE ad cI (nI 1) n st mn ar) none := by
  refine RM.of (by decide) (Nat.le_of_ble_eq_true rfl) ?_
  intro p e s m below meth c0 A ls args Q0 S hr hlk hQ wb hl
  have hx := S.1
  have hb := S.2.1
  have hl : lv_has ls 6 [(0, .ref (ad 0)), (1, .int x), (2, .int y), (3, .int z)] := hl
  refine lv_iconst (v := nI 0) hx hb dX4_worth_0 (by decide) ?_
  refine lv_istore (lv' := [(4, .int (nI 0)), (0, .ref (ad 0)), (1, .int x), (2, .int y), (3, .int z)]) hx hb dX4_worth_1 hl (by decide) rfl (fun ls hl => ?_)
  refine lv_iconst (v := nI 0) hx hb dX4_worth_3 (by decide) ?_
  refine lv_istore (lv' := [(5, .int (nI 0)), (4, .int (nI 0)), (0, .ref (ad 0)), (1, .int x), (2, .int y), (3, .int z)]) hx hb dX4_worth_4 hl (by decide) rfl (fun ls hl => ?_)
  have L6 : ∀ (fuel : Nat) (k : Nat) (v : Int32) (hkn : k ≤ n) (hfu : n < k + fuel) (hv : tells v (SB ar k)) (H : Heap) (locs : List Loc) (wb : WB D (ty3 cI cC cD) EN0 ad 12 A s (mE ad cI th n st mn ar) H locs) (ls : Array Slot) (hl : lv_has ls 6 [(0, .ref (ad 0)), (1, .int x), (2, .int y), (3, .int z), (4, .int v), (5, .int (nI k))]), W p l e ({ frames := 1, cells := 0, slots := 0, locals := 23 }) s m args below meth c0 H locs 0 0 Q0 (F0 m 6 ls []) := by
    intro fuel
    induction fuel with
    | zero => intro k v hkn hfu hv H locs wb ls hl; exact absurd hfu (by omega)
    | succ fuel ih =>
      intro k v hkn hfu hv H locs wb ls hl
      refine lv_iload hx hb dX4_worth_6 (lv_at hl 5 rfl) ?_
      refine lv_aload_n hx hb dX4_worth_8 rfl (lv_at hl 0 rfl) ?_
      refine rb_get S wb 0 (by decide) rfl rfl in4 1 (by decide) bw_463 rfl dX4_worth_9 ?_
      refine nb_icmp_ge (tgt := 43) hx hb dX4_worth_12 (by decide) (by omega) (by omega) (fun h12 => ?_) (fun h12 => ?_)
      · have hke : k = n := by omega
        rw [hke] at hv
        have L65 : ∀ (v5 : Int32) (hv5 : tells v5 (st = nI 1 ∧ stl ar n)) (H : Heap) (locs : List Loc) (wb : WB D (ty3 cI cC cD) EN0 ad 12 A s (mE ad cI th n st mn ar) H locs) (ls : Array Slot) (hl : lv_has ls 6 [(0, .ref (ad 0)), (1, .int x), (2, .int y), (3, .int z), (4, .int v), (5, .int v5)]), W p l e ({ frames := 1, cells := 0, slots := 0, locals := 23 }) s m args below meth c0 H locs 0 0 Q0 (F0 m 65 ls []) := by
            intro v5 hv5 H locs wb ls hl
            refine lv_aload_n hx hb dX4_worth_65 rfl (lv_at hl 0 rfl) ?_
            refine lv_aload_n hx hb dX4_worth_66 rfl (lv_at hl 0 rfl) ?_
            refine lv_iload_n hx hb dX4_worth_67 rfl (lv_at hl 1 rfl) ?_
            refine rb_callV S wb EN0_ok (m_no_t l D cI cC cD ad th n st mn ar x (nI 0) (tells_f hx0)) (bw5 bw_520 bw_522 bw_23 bw_37 bw_523) (rb_recv wb 0 (by decide) rfl rfl) hdX4_no rfl ⟨rfl, rfl⟩ ⟨by decide, by decide⟩ hl.1 (Nat.le_of_ble_eq_true rfl) ⟨Nat.zero_le _, Nat.zero_le _⟩ (rest := [.ref (ad 0)]) (st1 := [.int (nI 0), .ref (ad 0)]) rfl rfl dX4_worth_68 (fun H locs wb => ?_)
            refine lv_if_ne (tgt := 93) hx hb dX4_worth_71 (by decide) (fun h71 => absurd (by decide) h71) (fun h71 => ?_)
            refine lv_aload_n hx hb dX4_worth_74 rfl (lv_at hl 0 rfl) ?_
            refine lv_iload_n hx hb dX4_worth_75 rfl (lv_at hl 2 rfl) ?_
            refine rb_callV S wb EN0_ok (m_no_t l D cI cC cD ad th n st mn ar y (nI 0) (tells_f hy0)) (bw5 bw_520 bw_522 bw_23 bw_37 bw_523) (rb_recv wb 0 (by decide) rfl rfl) hdX4_no rfl ⟨rfl, rfl⟩ ⟨by decide, by decide⟩ hl.1 (Nat.le_of_ble_eq_true rfl) ⟨Nat.zero_le _, Nat.zero_le _⟩ (rest := [.ref (ad 0)]) (st1 := [.int (nI 0), .ref (ad 0)]) rfl rfl dX4_worth_76 (fun H locs wb => ?_)
            refine lv_if_ne (tgt := 93) hx hb dX4_worth_79 (by decide) (fun h79 => absurd (by decide) h79) (fun h79 => ?_)
            refine lv_iload_n hx hb dX4_worth_82 rfl (lv_at hl 3 rfl) ?_
            refine lv_if_lt (tgt := 93) hx hb dX4_worth_83 (by decide) (fun h83 => ?_) (fun h83 => ?_)
            · refine lv_iconst (v := nI 1) hx hb dX4_worth_93 (by decide) ?_
              refine lv_goto (tgt := 112) hx hb dX4_worth_94 (by decide) ?_
              refine rb_put (E' := mE ad cI (nI 1) n st mn ar) S wb 0 (by decide) rfl rfl in4 tyX4 tyX4_ok nmX4 0 (by decide) bw_462 rfl rfl rfl (Nat.le_of_ble_eq_true rfl) (m12 rfl rfl rfl rfl rfl rfl rfl rfl rfl rfl rfl rfl) dX4_worth_112 (fun H locs wb => ?_)
              refine lv_aload_n hx hb dX4_worth_115 rfl (lv_at hl 0 rfl) ?_
              refine rb_get S wb 0 (by decide) rfl rfl in4 0 (by decide) bw_462 rfl dX4_worth_116 ?_
              refine lv_if_eq (tgt := 123) hx hb dX4_worth_119 (by decide) (fun h119 => absurd h119 (by decide)) (fun h119 => ?_)
              exact rb_vret S hr hlk hQ wb (m12 rfl rfl rfl rfl rfl rfl rfl rfl rfl rfl rfl rfl) dX4_worth_122
            · refine lv_iload_n hx hb dX4_worth_86 rfl (lv_at hl 3 rfl) ?_
              refine lv_sipush (v := nI 1000) hx hb dX4_worth_87 (by decide) ?_
              refine lv_icmp_le (tgt := 97) hx hb dX4_worth_90 (by decide) (fun h90 => absurd h90 (Int32.not_le.mpr (hz0.resolve_left h83))) (fun h90 => ?_)
              refine lv_iconst (v := nI 1) hx hb dX4_worth_93 (by decide) ?_
              refine lv_goto (tgt := 112) hx hb dX4_worth_94 (by decide) ?_
              refine rb_put (E' := mE ad cI (nI 1) n st mn ar) S wb 0 (by decide) rfl rfl in4 tyX4 tyX4_ok nmX4 0 (by decide) bw_462 rfl rfl rfl (Nat.le_of_ble_eq_true rfl) (m12 rfl rfl rfl rfl rfl rfl rfl rfl rfl rfl rfl rfl) dX4_worth_112 (fun H locs wb => ?_)
              refine lv_aload_n hx hb dX4_worth_115 rfl (lv_at hl 0 rfl) ?_
              refine rb_get S wb 0 (by decide) rfl rfl in4 0 (by decide) bw_462 rfl dX4_worth_116 ?_
              refine lv_if_eq (tgt := 123) hx hb dX4_worth_119 (by decide) (fun h119 => absurd h119 (by decide)) (fun h119 => ?_)
              exact rb_vret S hr hlk hQ wb (m12 rfl rfl rfl rfl rfl rfl rfl rfl rfl rfl rfl rfl) dX4_worth_122
        refine lv_aload_n hx hb dX4_worth_43 rfl (lv_at hl 0 rfl) ?_
        refine rb_get S wb 0 (by decide) rfl rfl in4 2 (by decide) bw_464 rfl dX4_worth_44 ?_
        refine lv_iconst (v := nI 1) hx hb dX4_worth_47 (by decide) ?_
        refine lv_icmp_ne (tgt := 62) hx hb dX4_worth_48 (by decide) (fun h48 => ?_) (fun h48 => ?_)
        · refine lv_iconst (v := nI 0) hx hb dX4_worth_62 (by decide) ?_
          refine lv_istore (lv' := [(5, .int (nI 0)), (0, .ref (ad 0)), (1, .int x), (2, .int y), (3, .int z), (4, .int v)]) hx hb dX4_worth_63 hl (by decide) rfl (fun ls hl => ?_)
          exact L65 (nI 0) (by first | exact tells_f (fun q => h48 q.1) | exact tells_f (fun q => tells_F hrs h55 q.2) | exact tells_t ⟨h48, tells_T hrs h55⟩) _ _ wb ls (lv_sub hl [1, 2, 3, 4, 5, 0] rfl)
        · refine lv_aload_n hx hb dX4_worth_51 rfl (lv_at hl 0 rfl) ?_
          obtain ⟨rs, hrs⟩ := tells_ex (stl ar n)
          refine rb_callV S wb EN0_ok (m_isSettled l D cI cC cD ad th n st mn ar hn hT rs hrs) (bw5 bw_516 bw_518 bw_22 bw_37 bw_519) (rb_recv wb 0 (by decide) rfl rfl) hdX4_isSettled rfl ⟨rfl, rfl⟩ ⟨by decide, by decide⟩ hl.1 (Nat.le_of_ble_eq_true rfl) ⟨Nat.zero_le _, Nat.zero_le _⟩ (rest := []) (st1 := [.int rs]) rfl rfl dX4_worth_52 (fun H locs wb => ?_)
          refine lv_if_eq (tgt := 62) hx hb dX4_worth_55 (by decide) (fun h55 => ?_) (fun h55 => ?_)
          · refine lv_iconst (v := nI 0) hx hb dX4_worth_62 (by decide) ?_
            refine lv_istore (lv' := [(5, .int (nI 0)), (0, .ref (ad 0)), (1, .int x), (2, .int y), (3, .int z), (4, .int v)]) hx hb dX4_worth_63 hl (by decide) rfl (fun ls hl => ?_)
            exact L65 (nI 0) (by first | exact tells_f (fun q => h48 q.1) | exact tells_f (fun q => tells_F hrs h55 q.2) | exact tells_t ⟨h48, tells_T hrs h55⟩) _ _ wb ls (lv_sub hl [1, 2, 3, 4, 5, 0] rfl)
          · refine lv_iconst (v := nI 1) hx hb dX4_worth_58 (by decide) ?_
            refine lv_goto (tgt := 63) hx hb dX4_worth_59 (by decide) ?_
            refine lv_istore (lv' := [(5, .int (nI 1)), (0, .ref (ad 0)), (1, .int x), (2, .int y), (3, .int z), (4, .int v)]) hx hb dX4_worth_63 hl (by decide) rfl (fun ls hl => ?_)
            exact L65 (nI 1) (by first | exact tells_f (fun q => h48 q.1) | exact tells_f (fun q => tells_F hrs h55 q.2) | exact tells_t ⟨h48, tells_T hrs h55⟩) _ _ wb ls (lv_sub hl [1, 2, 3, 4, 5, 0] rfl)
      · refine lv_iload hx hb dX4_worth_15 (lv_at hl 4 rfl) ?_
        refine lv_if_ne (tgt := 30) hx hb dX4_worth_17 (by decide) (fun h17 => ?_) (fun h17 => ?_)
        · refine lv_iconst (v := nI 1) hx hb dX4_worth_30 (by decide) ?_
          refine lv_goto (tgt := 35) hx hb dX4_worth_31 (by decide) ?_
          refine lv_istore (lv' := [(4, .int (nI 1)), (0, .ref (ad 0)), (1, .int x), (2, .int y), (3, .int z), (5, .int (nI k))]) hx hb dX4_worth_35 hl (by decide) rfl (fun ls hl => ?_)
          refine lv_iinc (v := nI (k + 1)) (lv' := [(5, .int (nI (k + 1))), (4, .int (nI 1)), (0, .ref (ad 0)), (1, .int x), (2, .int y), (3, .int z)]) hx hb dX4_worth_37 hl (k := 5) rfl (nI_s1 _) (by decide) rfl (fun ls hl => ?_)
          refine lv_goto (tgt := 6) hx hb dX4_worth_40 (by decide) ?_
          exact ih (k + 1) (nI 1) (by omega) (by omega) (by first | exact tells_t (SB_1 (tells_T hv h17)) | exact tells_t (SB_2 h27) | exact tells_f (SB_3 (tells_F hv h17) h27)) _ _ wb ls (lv_sub hl [2, 3, 4, 5, 1, 0] rfl)
        · refine lv_aload_n hx hb dX4_worth_20 rfl (lv_at hl 0 rfl) ?_
          refine rb_get S wb 0 (by decide) rfl rfl in4 10 (by decide) bw_472 rfl dX4_worth_21 ?_
          refine lv_iload hx hb dX4_worth_24 (lv_at hl 5 rfl) ?_
          refine rb_ald (n := 6) (f := ar 8) (x := ar 8 k) S wb 8 (by decide) rfl 0 rfl k (by omega) (by decide) rfl dX4_worth_26 ?_
          refine lv_if_le (tgt := 34) hx hb dX4_worth_27 (by decide) (fun h27 => ?_) (fun h27 => ?_)
          · refine lv_iconst (v := nI 0) hx hb dX4_worth_34 (by decide) ?_
            refine lv_istore (lv' := [(4, .int (nI 0)), (0, .ref (ad 0)), (1, .int x), (2, .int y), (3, .int z), (5, .int (nI k))]) hx hb dX4_worth_35 hl (by decide) rfl (fun ls hl => ?_)
            refine lv_iinc (v := nI (k + 1)) (lv' := [(5, .int (nI (k + 1))), (4, .int (nI 0)), (0, .ref (ad 0)), (1, .int x), (2, .int y), (3, .int z)]) hx hb dX4_worth_37 hl (k := 5) rfl (nI_s1 _) (by decide) rfl (fun ls hl => ?_)
            refine lv_goto (tgt := 6) hx hb dX4_worth_40 (by decide) ?_
            exact ih (k + 1) (nI 0) (by omega) (by omega) (by first | exact tells_t (SB_1 (tells_T hv h17)) | exact tells_t (SB_2 h27) | exact tells_f (SB_3 (tells_F hv h17) h27)) _ _ wb ls (lv_sub hl [2, 3, 4, 5, 1, 0] rfl)
          · refine lv_iconst (v := nI 1) hx hb dX4_worth_30 (by decide) ?_
            refine lv_goto (tgt := 35) hx hb dX4_worth_31 (by decide) ?_
            refine lv_istore (lv' := [(4, .int (nI 1)), (0, .ref (ad 0)), (1, .int x), (2, .int y), (3, .int z), (5, .int (nI k))]) hx hb dX4_worth_35 hl (by decide) rfl (fun ls hl => ?_)
            refine lv_iinc (v := nI (k + 1)) (lv' := [(5, .int (nI (k + 1))), (4, .int (nI 1)), (0, .ref (ad 0)), (1, .int x), (2, .int y), (3, .int z)]) hx hb dX4_worth_37 hl (k := 5) rfl (nI_s1 _) (by decide) rfl (fun ls hl => ?_)
            refine lv_goto (tgt := 6) hx hb dX4_worth_40 (by decide) ?_
            exact ih (k + 1) (nI 1) (by omega) (by omega) (by first | exact tells_t (SB_1 (tells_T hv h17)) | exact tells_t (SB_2 h27) | exact tells_f (SB_3 (tells_F hv h17) h27)) _ _ wb ls (lv_sub hl [2, 3, 4, 5, 1, 0] rfl)
  exact L6 (n + 1) 0 (nI 0) (by omega) (by omega) (tells_f (fun q => by obtain ⟨_, q, _⟩ := q; exact absurd q (Nat.not_lt_zero _))) _ _ wb ls (lv_sub hl [2, 3, 4, 5, 1, 0] rfl)

set_option maxHeartbeats 4000000 in
set_option maxRecDepth 100000 in
theorem m_worth_x2 (l : Launch) (D : va_G) (cI cC cD : ClassId) (ad : Nat → Nat) (th : Int32) (n : Nat) (st : Int32) (mn : Nat) (ar : Nat → Nat → Int32) (c j : Nat) (z : Int32) (hn : n ≤ 6) (hT : HT ar n) (hc : c < n) (hj : j < n) (hz1 : ¬ z < 0) (hz2 : z ≤ nI 1000) (hs : SB ar n) (hd : ¬ (st = nI 1 ∧ stl ar n)) : RM l yX4_worth cX4_worth 6 none ({ frames := 1, cells := 0, slots := 0, locals := 23 }) D (ty3 cI cC cD) EN0 [.ref (ad 0), .int (nI c), .int (nI j), .int z] ad 12 (mE ad cI th n st mn ar) (mE ad cI (nI 2) n st mn ar) none := by
  refine RM.of (by decide) (Nat.le_of_ble_eq_true rfl) ?_
  intro p e s m below meth c0 A ls args Q0 S hr hlk hQ wb hl
  have hx := S.1
  have hb := S.2.1
  have hl : lv_has ls 6 [(0, .ref (ad 0)), (1, .int (nI c)), (2, .int (nI j)), (3, .int z)] := hl
  refine lv_iconst (v := nI 0) hx hb dX4_worth_0 (by decide) ?_
  refine lv_istore (lv' := [(4, .int (nI 0)), (0, .ref (ad 0)), (1, .int (nI c)), (2, .int (nI j)), (3, .int z)]) hx hb dX4_worth_1 hl (by decide) rfl (fun ls hl => ?_)
  refine lv_iconst (v := nI 0) hx hb dX4_worth_3 (by decide) ?_
  refine lv_istore (lv' := [(5, .int (nI 0)), (4, .int (nI 0)), (0, .ref (ad 0)), (1, .int (nI c)), (2, .int (nI j)), (3, .int z)]) hx hb dX4_worth_4 hl (by decide) rfl (fun ls hl => ?_)
  have L6 : ∀ (fuel : Nat) (k : Nat) (v : Int32) (hkn : k ≤ n) (hfu : n < k + fuel) (hv : tells v (SB ar k)) (H : Heap) (locs : List Loc) (wb : WB D (ty3 cI cC cD) EN0 ad 12 A s (mE ad cI th n st mn ar) H locs) (ls : Array Slot) (hl : lv_has ls 6 [(0, .ref (ad 0)), (1, .int (nI c)), (2, .int (nI j)), (3, .int z), (4, .int v), (5, .int (nI k))]), W p l e ({ frames := 1, cells := 0, slots := 0, locals := 23 }) s m args below meth c0 H locs 0 0 Q0 (F0 m 6 ls []) := by
    intro fuel
    induction fuel with
    | zero => intro k v hkn hfu hv H locs wb ls hl; exact absurd hfu (by omega)
    | succ fuel ih =>
      intro k v hkn hfu hv H locs wb ls hl
      refine lv_iload hx hb dX4_worth_6 (lv_at hl 5 rfl) ?_
      refine lv_aload_n hx hb dX4_worth_8 rfl (lv_at hl 0 rfl) ?_
      refine rb_get S wb 0 (by decide) rfl rfl in4 1 (by decide) bw_463 rfl dX4_worth_9 ?_
      refine nb_icmp_ge (tgt := 43) hx hb dX4_worth_12 (by decide) (by omega) (by omega) (fun h12 => ?_) (fun h12 => ?_)
      · have hke : k = n := by omega
        rw [hke] at hv
        have L65 : ∀ (v5 : Int32) (hv5 : tells v5 (st = nI 1 ∧ stl ar n)) (H : Heap) (locs : List Loc) (wb : WB D (ty3 cI cC cD) EN0 ad 12 A s (mE ad cI th n st mn ar) H locs) (ls : Array Slot) (hl : lv_has ls 6 [(0, .ref (ad 0)), (1, .int (nI c)), (2, .int (nI j)), (3, .int z), (4, .int v), (5, .int v5)]), W p l e ({ frames := 1, cells := 0, slots := 0, locals := 23 }) s m args below meth c0 H locs 0 0 Q0 (F0 m 65 ls []) := by
            intro v5 hv5 H locs wb ls hl
            refine lv_aload_n hx hb dX4_worth_65 rfl (lv_at hl 0 rfl) ?_
            refine lv_aload_n hx hb dX4_worth_66 rfl (lv_at hl 0 rfl) ?_
            refine lv_iload_n hx hb dX4_worth_67 rfl (lv_at hl 1 rfl) ?_
            refine rb_callV S wb EN0_ok (m_no_t l D cI cC cD ad th n st mn ar (nI c) (nI 0) (tells_f (no_f hc (by omega)))) (bw5 bw_520 bw_522 bw_23 bw_37 bw_523) (rb_recv wb 0 (by decide) rfl rfl) hdX4_no rfl ⟨rfl, rfl⟩ ⟨by decide, by decide⟩ hl.1 (Nat.le_of_ble_eq_true rfl) ⟨Nat.zero_le _, Nat.zero_le _⟩ (rest := [.ref (ad 0)]) (st1 := [.int (nI 0), .ref (ad 0)]) rfl rfl dX4_worth_68 (fun H locs wb => ?_)
            refine lv_if_ne (tgt := 93) hx hb dX4_worth_71 (by decide) (fun h71 => absurd (by decide) h71) (fun h71 => ?_)
            refine lv_aload_n hx hb dX4_worth_74 rfl (lv_at hl 0 rfl) ?_
            refine lv_iload_n hx hb dX4_worth_75 rfl (lv_at hl 2 rfl) ?_
            refine rb_callV S wb EN0_ok (m_no_t l D cI cC cD ad th n st mn ar (nI j) (nI 0) (tells_f (no_f hj (by omega)))) (bw5 bw_520 bw_522 bw_23 bw_37 bw_523) (rb_recv wb 0 (by decide) rfl rfl) hdX4_no rfl ⟨rfl, rfl⟩ ⟨by decide, by decide⟩ hl.1 (Nat.le_of_ble_eq_true rfl) ⟨Nat.zero_le _, Nat.zero_le _⟩ (rest := [.ref (ad 0)]) (st1 := [.int (nI 0), .ref (ad 0)]) rfl rfl dX4_worth_76 (fun H locs wb => ?_)
            refine lv_if_ne (tgt := 93) hx hb dX4_worth_79 (by decide) (fun h79 => absurd (by decide) h79) (fun h79 => ?_)
            refine lv_iload_n hx hb dX4_worth_82 rfl (lv_at hl 3 rfl) ?_
            refine lv_if_lt (tgt := 93) hx hb dX4_worth_83 (by decide) (fun h83 => absurd h83 hz1) (fun h83 => ?_)
            refine lv_iload_n hx hb dX4_worth_86 rfl (lv_at hl 3 rfl) ?_
            refine lv_sipush (v := nI 1000) hx hb dX4_worth_87 (by decide) ?_
            refine lv_icmp_le (tgt := 97) hx hb dX4_worth_90 (by decide) (fun h90 => ?_) (fun h90 => absurd hz2 h90)
            refine lv_iload hx hb dX4_worth_97 (lv_at hl 4 rfl) ?_
            refine lv_if_eq (tgt := 111) hx hb dX4_worth_99 (by decide) (fun h99 => absurd h99 (fun q => tells_F hv q hs)) (fun h99 => ?_)
            refine lv_iload hx hb dX4_worth_102 (lv_at hl 5 rfl) ?_
            refine lv_if_ne (tgt := 111) hx hb dX4_worth_104 (by decide) (fun h104 => absurd (hv5.2 hd) h104) (fun h104 => ?_)
            refine lv_iconst (v := nI 2) hx hb dX4_worth_107 (by decide) ?_
            refine lv_goto (tgt := 112) hx hb dX4_worth_108 (by decide) ?_
            refine rb_put (E' := mE ad cI (nI 2) n st mn ar) S wb 0 (by decide) rfl rfl in4 tyX4 tyX4_ok nmX4 0 (by decide) bw_462 rfl rfl rfl (Nat.le_of_ble_eq_true rfl) (m12 rfl rfl rfl rfl rfl rfl rfl rfl rfl rfl rfl rfl) dX4_worth_112 (fun H locs wb => ?_)
            refine lv_aload_n hx hb dX4_worth_115 rfl (lv_at hl 0 rfl) ?_
            refine rb_get S wb 0 (by decide) rfl rfl in4 0 (by decide) bw_462 rfl dX4_worth_116 ?_
            refine lv_if_eq (tgt := 123) hx hb dX4_worth_119 (by decide) (fun h119 => absurd h119 (by decide)) (fun h119 => ?_)
            exact rb_vret S hr hlk hQ wb (m12 rfl rfl rfl rfl rfl rfl rfl rfl rfl rfl rfl rfl) dX4_worth_122
        refine lv_aload_n hx hb dX4_worth_43 rfl (lv_at hl 0 rfl) ?_
        refine rb_get S wb 0 (by decide) rfl rfl in4 2 (by decide) bw_464 rfl dX4_worth_44 ?_
        refine lv_iconst (v := nI 1) hx hb dX4_worth_47 (by decide) ?_
        refine lv_icmp_ne (tgt := 62) hx hb dX4_worth_48 (by decide) (fun h48 => ?_) (fun h48 => ?_)
        · refine lv_iconst (v := nI 0) hx hb dX4_worth_62 (by decide) ?_
          refine lv_istore (lv' := [(5, .int (nI 0)), (0, .ref (ad 0)), (1, .int (nI c)), (2, .int (nI j)), (3, .int z), (4, .int v)]) hx hb dX4_worth_63 hl (by decide) rfl (fun ls hl => ?_)
          exact L65 (nI 0) (by first | exact tells_f (fun q => h48 q.1) | exact tells_f (fun q => tells_F hrs h55 q.2) | exact tells_t ⟨h48, tells_T hrs h55⟩) _ _ wb ls (lv_sub hl [1, 2, 3, 4, 5, 0] rfl)
        · refine lv_aload_n hx hb dX4_worth_51 rfl (lv_at hl 0 rfl) ?_
          obtain ⟨rs, hrs⟩ := tells_ex (stl ar n)
          refine rb_callV S wb EN0_ok (m_isSettled l D cI cC cD ad th n st mn ar hn hT rs hrs) (bw5 bw_516 bw_518 bw_22 bw_37 bw_519) (rb_recv wb 0 (by decide) rfl rfl) hdX4_isSettled rfl ⟨rfl, rfl⟩ ⟨by decide, by decide⟩ hl.1 (Nat.le_of_ble_eq_true rfl) ⟨Nat.zero_le _, Nat.zero_le _⟩ (rest := []) (st1 := [.int rs]) rfl rfl dX4_worth_52 (fun H locs wb => ?_)
          refine lv_if_eq (tgt := 62) hx hb dX4_worth_55 (by decide) (fun h55 => ?_) (fun h55 => ?_)
          · refine lv_iconst (v := nI 0) hx hb dX4_worth_62 (by decide) ?_
            refine lv_istore (lv' := [(5, .int (nI 0)), (0, .ref (ad 0)), (1, .int (nI c)), (2, .int (nI j)), (3, .int z), (4, .int v)]) hx hb dX4_worth_63 hl (by decide) rfl (fun ls hl => ?_)
            exact L65 (nI 0) (by first | exact tells_f (fun q => h48 q.1) | exact tells_f (fun q => tells_F hrs h55 q.2) | exact tells_t ⟨h48, tells_T hrs h55⟩) _ _ wb ls (lv_sub hl [1, 2, 3, 4, 5, 0] rfl)
          · refine lv_iconst (v := nI 1) hx hb dX4_worth_58 (by decide) ?_
            refine lv_goto (tgt := 63) hx hb dX4_worth_59 (by decide) ?_
            refine lv_istore (lv' := [(5, .int (nI 1)), (0, .ref (ad 0)), (1, .int (nI c)), (2, .int (nI j)), (3, .int z), (4, .int v)]) hx hb dX4_worth_63 hl (by decide) rfl (fun ls hl => ?_)
            exact L65 (nI 1) (by first | exact tells_f (fun q => h48 q.1) | exact tells_f (fun q => tells_F hrs h55 q.2) | exact tells_t ⟨h48, tells_T hrs h55⟩) _ _ wb ls (lv_sub hl [1, 2, 3, 4, 5, 0] rfl)
      · refine lv_iload hx hb dX4_worth_15 (lv_at hl 4 rfl) ?_
        refine lv_if_ne (tgt := 30) hx hb dX4_worth_17 (by decide) (fun h17 => ?_) (fun h17 => ?_)
        · refine lv_iconst (v := nI 1) hx hb dX4_worth_30 (by decide) ?_
          refine lv_goto (tgt := 35) hx hb dX4_worth_31 (by decide) ?_
          refine lv_istore (lv' := [(4, .int (nI 1)), (0, .ref (ad 0)), (1, .int (nI c)), (2, .int (nI j)), (3, .int z), (5, .int (nI k))]) hx hb dX4_worth_35 hl (by decide) rfl (fun ls hl => ?_)
          refine lv_iinc (v := nI (k + 1)) (lv' := [(5, .int (nI (k + 1))), (4, .int (nI 1)), (0, .ref (ad 0)), (1, .int (nI c)), (2, .int (nI j)), (3, .int z)]) hx hb dX4_worth_37 hl (k := 5) rfl (nI_s1 _) (by decide) rfl (fun ls hl => ?_)
          refine lv_goto (tgt := 6) hx hb dX4_worth_40 (by decide) ?_
          exact ih (k + 1) (nI 1) (by omega) (by omega) (by first | exact tells_t (SB_1 (tells_T hv h17)) | exact tells_t (SB_2 h27) | exact tells_f (SB_3 (tells_F hv h17) h27)) _ _ wb ls (lv_sub hl [2, 3, 4, 5, 1, 0] rfl)
        · refine lv_aload_n hx hb dX4_worth_20 rfl (lv_at hl 0 rfl) ?_
          refine rb_get S wb 0 (by decide) rfl rfl in4 10 (by decide) bw_472 rfl dX4_worth_21 ?_
          refine lv_iload hx hb dX4_worth_24 (lv_at hl 5 rfl) ?_
          refine rb_ald (n := 6) (f := ar 8) (x := ar 8 k) S wb 8 (by decide) rfl 0 rfl k (by omega) (by decide) rfl dX4_worth_26 ?_
          refine lv_if_le (tgt := 34) hx hb dX4_worth_27 (by decide) (fun h27 => ?_) (fun h27 => ?_)
          · refine lv_iconst (v := nI 0) hx hb dX4_worth_34 (by decide) ?_
            refine lv_istore (lv' := [(4, .int (nI 0)), (0, .ref (ad 0)), (1, .int (nI c)), (2, .int (nI j)), (3, .int z), (5, .int (nI k))]) hx hb dX4_worth_35 hl (by decide) rfl (fun ls hl => ?_)
            refine lv_iinc (v := nI (k + 1)) (lv' := [(5, .int (nI (k + 1))), (4, .int (nI 0)), (0, .ref (ad 0)), (1, .int (nI c)), (2, .int (nI j)), (3, .int z)]) hx hb dX4_worth_37 hl (k := 5) rfl (nI_s1 _) (by decide) rfl (fun ls hl => ?_)
            refine lv_goto (tgt := 6) hx hb dX4_worth_40 (by decide) ?_
            exact ih (k + 1) (nI 0) (by omega) (by omega) (by first | exact tells_t (SB_1 (tells_T hv h17)) | exact tells_t (SB_2 h27) | exact tells_f (SB_3 (tells_F hv h17) h27)) _ _ wb ls (lv_sub hl [2, 3, 4, 5, 1, 0] rfl)
          · refine lv_iconst (v := nI 1) hx hb dX4_worth_30 (by decide) ?_
            refine lv_goto (tgt := 35) hx hb dX4_worth_31 (by decide) ?_
            refine lv_istore (lv' := [(4, .int (nI 1)), (0, .ref (ad 0)), (1, .int (nI c)), (2, .int (nI j)), (3, .int z), (5, .int (nI k))]) hx hb dX4_worth_35 hl (by decide) rfl (fun ls hl => ?_)
            refine lv_iinc (v := nI (k + 1)) (lv' := [(5, .int (nI (k + 1))), (4, .int (nI 1)), (0, .ref (ad 0)), (1, .int (nI c)), (2, .int (nI j)), (3, .int z)]) hx hb dX4_worth_37 hl (k := 5) rfl (nI_s1 _) (by decide) rfl (fun ls hl => ?_)
            refine lv_goto (tgt := 6) hx hb dX4_worth_40 (by decide) ?_
            exact ih (k + 1) (nI 1) (by omega) (by omega) (by first | exact tells_t (SB_1 (tells_T hv h17)) | exact tells_t (SB_2 h27) | exact tells_f (SB_3 (tells_F hv h17) h27)) _ _ wb ls (lv_sub hl [2, 3, 4, 5, 1, 0] rfl)
  exact L6 (n + 1) 0 (nI 0) (by omega) (by omega) (tells_f (fun q => by obtain ⟨_, q, _⟩ := q; exact absurd q (Nat.not_lt_zero _))) _ _ wb ls (lv_sub hl [2, 3, 4, 5, 1, 0] rfl)

set_option maxHeartbeats 4000000 in
set_option maxRecDepth 100000 in
theorem m_worth0 (l : Launch) (D : va_G) (cI cC cD : ClassId) (ad : Nat → Nat) (th : Int32) (n : Nat) (st : Int32) (mn : Nat) (ar : Nat → Nat → Int32) (c j : Nat) (z : Int32) (hn : n ≤ 6) (hT : HT ar n) (hc : c < n) (hj : j < n) (hz1 : ¬ z < 0) (hz2 : z ≤ nI 1000) (hs : ¬ SB ar n) : RM l yX4_worth cX4_worth 6 none ({ frames := 1, cells := 0, slots := 0, locals := 23 }) D (ty3 cI cC cD) EN0 [.ref (ad 0), .int (nI c), .int (nI j), .int z] ad 12 (mE ad cI th n st mn ar) (mE ad cI (nI 0) n st mn (va_up ar 1 (upd (ar 1) (6 * c + j) z))) none := by
  refine RM.of (by decide) (Nat.le_of_ble_eq_true rfl) ?_
  intro p e s m below meth c0 A ls args Q0 S hr hlk hQ wb hl
  have hx := S.1
  have hb := S.2.1
  have hl : lv_has ls 6 [(0, .ref (ad 0)), (1, .int (nI c)), (2, .int (nI j)), (3, .int z)] := hl
  refine lv_iconst (v := nI 0) hx hb dX4_worth_0 (by decide) ?_
  refine lv_istore (lv' := [(4, .int (nI 0)), (0, .ref (ad 0)), (1, .int (nI c)), (2, .int (nI j)), (3, .int z)]) hx hb dX4_worth_1 hl (by decide) rfl (fun ls hl => ?_)
  refine lv_iconst (v := nI 0) hx hb dX4_worth_3 (by decide) ?_
  refine lv_istore (lv' := [(5, .int (nI 0)), (4, .int (nI 0)), (0, .ref (ad 0)), (1, .int (nI c)), (2, .int (nI j)), (3, .int z)]) hx hb dX4_worth_4 hl (by decide) rfl (fun ls hl => ?_)
  have L6 : ∀ (fuel : Nat) (k : Nat) (v : Int32) (hkn : k ≤ n) (hfu : n < k + fuel) (hv : tells v (SB ar k)) (H : Heap) (locs : List Loc) (wb : WB D (ty3 cI cC cD) EN0 ad 12 A s (mE ad cI th n st mn ar) H locs) (ls : Array Slot) (hl : lv_has ls 6 [(0, .ref (ad 0)), (1, .int (nI c)), (2, .int (nI j)), (3, .int z), (4, .int v), (5, .int (nI k))]), W p l e ({ frames := 1, cells := 0, slots := 0, locals := 23 }) s m args below meth c0 H locs 0 0 Q0 (F0 m 6 ls []) := by
    intro fuel
    induction fuel with
    | zero => intro k v hkn hfu hv H locs wb ls hl; exact absurd hfu (by omega)
    | succ fuel ih =>
      intro k v hkn hfu hv H locs wb ls hl
      refine lv_iload hx hb dX4_worth_6 (lv_at hl 5 rfl) ?_
      refine lv_aload_n hx hb dX4_worth_8 rfl (lv_at hl 0 rfl) ?_
      refine rb_get S wb 0 (by decide) rfl rfl in4 1 (by decide) bw_463 rfl dX4_worth_9 ?_
      refine nb_icmp_ge (tgt := 43) hx hb dX4_worth_12 (by decide) (by omega) (by omega) (fun h12 => ?_) (fun h12 => ?_)
      · have hke : k = n := by omega
        rw [hke] at hv
        have L65 : ∀ (v5 : Int32) (hv5 : tells v5 (st = nI 1 ∧ stl ar n)) (H : Heap) (locs : List Loc) (wb : WB D (ty3 cI cC cD) EN0 ad 12 A s (mE ad cI th n st mn ar) H locs) (ls : Array Slot) (hl : lv_has ls 6 [(0, .ref (ad 0)), (1, .int (nI c)), (2, .int (nI j)), (3, .int z), (4, .int v), (5, .int v5)]), W p l e ({ frames := 1, cells := 0, slots := 0, locals := 23 }) s m args below meth c0 H locs 0 0 Q0 (F0 m 65 ls []) := by
            intro v5 hv5 H locs wb ls hl
            refine lv_aload_n hx hb dX4_worth_65 rfl (lv_at hl 0 rfl) ?_
            refine lv_aload_n hx hb dX4_worth_66 rfl (lv_at hl 0 rfl) ?_
            refine lv_iload_n hx hb dX4_worth_67 rfl (lv_at hl 1 rfl) ?_
            refine rb_callV S wb EN0_ok (m_no_t l D cI cC cD ad th n st mn ar (nI c) (nI 0) (tells_f (no_f hc (by omega)))) (bw5 bw_520 bw_522 bw_23 bw_37 bw_523) (rb_recv wb 0 (by decide) rfl rfl) hdX4_no rfl ⟨rfl, rfl⟩ ⟨by decide, by decide⟩ hl.1 (Nat.le_of_ble_eq_true rfl) ⟨Nat.zero_le _, Nat.zero_le _⟩ (rest := [.ref (ad 0)]) (st1 := [.int (nI 0), .ref (ad 0)]) rfl rfl dX4_worth_68 (fun H locs wb => ?_)
            refine lv_if_ne (tgt := 93) hx hb dX4_worth_71 (by decide) (fun h71 => absurd (by decide) h71) (fun h71 => ?_)
            refine lv_aload_n hx hb dX4_worth_74 rfl (lv_at hl 0 rfl) ?_
            refine lv_iload_n hx hb dX4_worth_75 rfl (lv_at hl 2 rfl) ?_
            refine rb_callV S wb EN0_ok (m_no_t l D cI cC cD ad th n st mn ar (nI j) (nI 0) (tells_f (no_f hj (by omega)))) (bw5 bw_520 bw_522 bw_23 bw_37 bw_523) (rb_recv wb 0 (by decide) rfl rfl) hdX4_no rfl ⟨rfl, rfl⟩ ⟨by decide, by decide⟩ hl.1 (Nat.le_of_ble_eq_true rfl) ⟨Nat.zero_le _, Nat.zero_le _⟩ (rest := [.ref (ad 0)]) (st1 := [.int (nI 0), .ref (ad 0)]) rfl rfl dX4_worth_76 (fun H locs wb => ?_)
            refine lv_if_ne (tgt := 93) hx hb dX4_worth_79 (by decide) (fun h79 => absurd (by decide) h79) (fun h79 => ?_)
            refine lv_iload_n hx hb dX4_worth_82 rfl (lv_at hl 3 rfl) ?_
            refine lv_if_lt (tgt := 93) hx hb dX4_worth_83 (by decide) (fun h83 => absurd h83 hz1) (fun h83 => ?_)
            refine lv_iload_n hx hb dX4_worth_86 rfl (lv_at hl 3 rfl) ?_
            refine lv_sipush (v := nI 1000) hx hb dX4_worth_87 (by decide) ?_
            refine lv_icmp_le (tgt := 97) hx hb dX4_worth_90 (by decide) (fun h90 => ?_) (fun h90 => absurd hz2 h90)
            refine lv_iload hx hb dX4_worth_97 (lv_at hl 4 rfl) ?_
            refine lv_if_eq (tgt := 111) hx hb dX4_worth_99 (by decide) (fun h99 => ?_) (fun h99 => absurd (hv.2 hs) h99)
            refine lv_iconst (v := nI 0) hx hb dX4_worth_111 (by decide) ?_
            refine rb_put (E' := mE ad cI (nI 0) n st mn ar) S wb 0 (by decide) rfl rfl in4 tyX4 tyX4_ok nmX4 0 (by decide) bw_462 rfl rfl rfl (Nat.le_of_ble_eq_true rfl) (m12 rfl rfl rfl rfl rfl rfl rfl rfl rfl rfl rfl rfl) dX4_worth_112 (fun H locs wb => ?_)
            refine lv_aload_n hx hb dX4_worth_115 rfl (lv_at hl 0 rfl) ?_
            refine rb_get S wb 0 (by decide) rfl rfl in4 0 (by decide) bw_462 rfl dX4_worth_116 ?_
            refine lv_if_eq (tgt := 123) hx hb dX4_worth_119 (by decide) (fun h119 => ?_) (fun h119 => absurd (by decide) h119)
            refine lv_aload_n hx hb dX4_worth_123 rfl (lv_at hl 0 rfl) ?_
            refine rb_get S wb 0 (by decide) rfl rfl in4 3 (by decide) bw_465 rfl dX4_worth_124 ?_
            refine lv_bipush (v := nI 6) hx hb dX4_worth_127 (by decide) ?_
            refine lv_iload_n hx hb dX4_worth_129 rfl (lv_at hl 1 rfl) ?_
            refine lv_imul hx hb dX4_worth_130 ?_
            refine nb_ren (y := nI (6 * c)) (pk_mul _ _) ?_
            refine lv_iload_n hx hb dX4_worth_131 rfl (lv_at hl 2 rfl) ?_
            refine lv_iadd hx hb dX4_worth_132 ?_
            refine nb_ren (y := nI (6 * c + j)) (nI_add _ _) ?_
            refine lv_iload_n hx hb dX4_worth_133 rfl (lv_at hl 3 rfl) ?_
            refine rb_ast (E' := mE ad cI (nI 0) n st mn (va_up ar 1 (upd (ar 1) (6 * c + j) z))) (n := 36) (f := ar 1) S wb 1 (by decide) rfl 0 rfl (6 * c + j) (by omega) (by decide) (m12 rfl rfl rfl rfl rfl rfl rfl rfl rfl rfl rfl rfl) dX4_worth_134 (fun H locs wb => ?_)
            refine lv_iload hx hb dX4_worth_135 (lv_at hl 4 rfl) ?_
            refine lv_if_eq (tgt := 183) hx hb dX4_worth_137 (by decide) (fun h137 => ?_) (fun h137 => absurd (hv.2 hs) h137)
            exact rb_vret S hr hlk hQ wb (m12 rfl rfl rfl rfl rfl rfl rfl rfl rfl rfl rfl rfl) dX4_worth_183
        refine lv_aload_n hx hb dX4_worth_43 rfl (lv_at hl 0 rfl) ?_
        refine rb_get S wb 0 (by decide) rfl rfl in4 2 (by decide) bw_464 rfl dX4_worth_44 ?_
        refine lv_iconst (v := nI 1) hx hb dX4_worth_47 (by decide) ?_
        refine lv_icmp_ne (tgt := 62) hx hb dX4_worth_48 (by decide) (fun h48 => ?_) (fun h48 => ?_)
        · refine lv_iconst (v := nI 0) hx hb dX4_worth_62 (by decide) ?_
          refine lv_istore (lv' := [(5, .int (nI 0)), (0, .ref (ad 0)), (1, .int (nI c)), (2, .int (nI j)), (3, .int z), (4, .int v)]) hx hb dX4_worth_63 hl (by decide) rfl (fun ls hl => ?_)
          exact L65 (nI 0) (by first | exact tells_f (fun q => h48 q.1) | exact tells_f (fun q => tells_F hrs h55 q.2) | exact tells_t ⟨h48, tells_T hrs h55⟩) _ _ wb ls (lv_sub hl [1, 2, 3, 4, 5, 0] rfl)
        · refine lv_aload_n hx hb dX4_worth_51 rfl (lv_at hl 0 rfl) ?_
          obtain ⟨rs, hrs⟩ := tells_ex (stl ar n)
          refine rb_callV S wb EN0_ok (m_isSettled l D cI cC cD ad th n st mn ar hn hT rs hrs) (bw5 bw_516 bw_518 bw_22 bw_37 bw_519) (rb_recv wb 0 (by decide) rfl rfl) hdX4_isSettled rfl ⟨rfl, rfl⟩ ⟨by decide, by decide⟩ hl.1 (Nat.le_of_ble_eq_true rfl) ⟨Nat.zero_le _, Nat.zero_le _⟩ (rest := []) (st1 := [.int rs]) rfl rfl dX4_worth_52 (fun H locs wb => ?_)
          refine lv_if_eq (tgt := 62) hx hb dX4_worth_55 (by decide) (fun h55 => ?_) (fun h55 => ?_)
          · refine lv_iconst (v := nI 0) hx hb dX4_worth_62 (by decide) ?_
            refine lv_istore (lv' := [(5, .int (nI 0)), (0, .ref (ad 0)), (1, .int (nI c)), (2, .int (nI j)), (3, .int z), (4, .int v)]) hx hb dX4_worth_63 hl (by decide) rfl (fun ls hl => ?_)
            exact L65 (nI 0) (by first | exact tells_f (fun q => h48 q.1) | exact tells_f (fun q => tells_F hrs h55 q.2) | exact tells_t ⟨h48, tells_T hrs h55⟩) _ _ wb ls (lv_sub hl [1, 2, 3, 4, 5, 0] rfl)
          · refine lv_iconst (v := nI 1) hx hb dX4_worth_58 (by decide) ?_
            refine lv_goto (tgt := 63) hx hb dX4_worth_59 (by decide) ?_
            refine lv_istore (lv' := [(5, .int (nI 1)), (0, .ref (ad 0)), (1, .int (nI c)), (2, .int (nI j)), (3, .int z), (4, .int v)]) hx hb dX4_worth_63 hl (by decide) rfl (fun ls hl => ?_)
            exact L65 (nI 1) (by first | exact tells_f (fun q => h48 q.1) | exact tells_f (fun q => tells_F hrs h55 q.2) | exact tells_t ⟨h48, tells_T hrs h55⟩) _ _ wb ls (lv_sub hl [1, 2, 3, 4, 5, 0] rfl)
      · refine lv_iload hx hb dX4_worth_15 (lv_at hl 4 rfl) ?_
        refine lv_if_ne (tgt := 30) hx hb dX4_worth_17 (by decide) (fun h17 => ?_) (fun h17 => ?_)
        · refine lv_iconst (v := nI 1) hx hb dX4_worth_30 (by decide) ?_
          refine lv_goto (tgt := 35) hx hb dX4_worth_31 (by decide) ?_
          refine lv_istore (lv' := [(4, .int (nI 1)), (0, .ref (ad 0)), (1, .int (nI c)), (2, .int (nI j)), (3, .int z), (5, .int (nI k))]) hx hb dX4_worth_35 hl (by decide) rfl (fun ls hl => ?_)
          refine lv_iinc (v := nI (k + 1)) (lv' := [(5, .int (nI (k + 1))), (4, .int (nI 1)), (0, .ref (ad 0)), (1, .int (nI c)), (2, .int (nI j)), (3, .int z)]) hx hb dX4_worth_37 hl (k := 5) rfl (nI_s1 _) (by decide) rfl (fun ls hl => ?_)
          refine lv_goto (tgt := 6) hx hb dX4_worth_40 (by decide) ?_
          exact ih (k + 1) (nI 1) (by omega) (by omega) (by first | exact tells_t (SB_1 (tells_T hv h17)) | exact tells_t (SB_2 h27) | exact tells_f (SB_3 (tells_F hv h17) h27)) _ _ wb ls (lv_sub hl [2, 3, 4, 5, 1, 0] rfl)
        · refine lv_aload_n hx hb dX4_worth_20 rfl (lv_at hl 0 rfl) ?_
          refine rb_get S wb 0 (by decide) rfl rfl in4 10 (by decide) bw_472 rfl dX4_worth_21 ?_
          refine lv_iload hx hb dX4_worth_24 (lv_at hl 5 rfl) ?_
          refine rb_ald (n := 6) (f := ar 8) (x := ar 8 k) S wb 8 (by decide) rfl 0 rfl k (by omega) (by decide) rfl dX4_worth_26 ?_
          refine lv_if_le (tgt := 34) hx hb dX4_worth_27 (by decide) (fun h27 => ?_) (fun h27 => ?_)
          · refine lv_iconst (v := nI 0) hx hb dX4_worth_34 (by decide) ?_
            refine lv_istore (lv' := [(4, .int (nI 0)), (0, .ref (ad 0)), (1, .int (nI c)), (2, .int (nI j)), (3, .int z), (5, .int (nI k))]) hx hb dX4_worth_35 hl (by decide) rfl (fun ls hl => ?_)
            refine lv_iinc (v := nI (k + 1)) (lv' := [(5, .int (nI (k + 1))), (4, .int (nI 0)), (0, .ref (ad 0)), (1, .int (nI c)), (2, .int (nI j)), (3, .int z)]) hx hb dX4_worth_37 hl (k := 5) rfl (nI_s1 _) (by decide) rfl (fun ls hl => ?_)
            refine lv_goto (tgt := 6) hx hb dX4_worth_40 (by decide) ?_
            exact ih (k + 1) (nI 0) (by omega) (by omega) (by first | exact tells_t (SB_1 (tells_T hv h17)) | exact tells_t (SB_2 h27) | exact tells_f (SB_3 (tells_F hv h17) h27)) _ _ wb ls (lv_sub hl [2, 3, 4, 5, 1, 0] rfl)
          · refine lv_iconst (v := nI 1) hx hb dX4_worth_30 (by decide) ?_
            refine lv_goto (tgt := 35) hx hb dX4_worth_31 (by decide) ?_
            refine lv_istore (lv' := [(4, .int (nI 1)), (0, .ref (ad 0)), (1, .int (nI c)), (2, .int (nI j)), (3, .int z), (5, .int (nI k))]) hx hb dX4_worth_35 hl (by decide) rfl (fun ls hl => ?_)
            refine lv_iinc (v := nI (k + 1)) (lv' := [(5, .int (nI (k + 1))), (4, .int (nI 1)), (0, .ref (ad 0)), (1, .int (nI c)), (2, .int (nI j)), (3, .int z)]) hx hb dX4_worth_37 hl (k := 5) rfl (nI_s1 _) (by decide) rfl (fun ls hl => ?_)
            refine lv_goto (tgt := 6) hx hb dX4_worth_40 (by decide) ?_
            exact ih (k + 1) (nI 1) (by omega) (by omega) (by first | exact tells_t (SB_1 (tells_T hv h17)) | exact tells_t (SB_2 h27) | exact tells_f (SB_3 (tells_F hv h17) h27)) _ _ wb ls (lv_sub hl [2, 3, 4, 5, 1, 0] rfl)
  exact L6 (n + 1) 0 (nI 0) (by omega) (by omega) (tells_f (fun q => by obtain ⟨_, q, _⟩ := q; exact absurd q (Nat.not_lt_zero _))) _ _ wb ls (lv_sub hl [2, 3, 4, 5, 1, 0] rfl)

set_option maxHeartbeats 4000000 in
set_option maxRecDepth 100000 in
theorem m_worth1 (l : Launch) (D : va_G) (cI cC cD : ClassId) (ad : Nat → Nat) (th : Int32) (n : Nat) (st : Int32) (mn : Nat) (ar : Nat → Nat → Int32) (c j t : Nat) (z : Int32) (hn : n ≤ 6) (hT : HT ar n) (hc : c < n) (hj : j < n) (hz1 : ¬ z < 0) (hz2 : z ≤ nI 1000) (hs : SB ar n) (hd : st = nI 1 ∧ stl ar n) (ht : t < 6) (et : ar 7 c = nI t) : RM l yX4_worth cX4_worth 6 none ({ frames := 1, cells := 0, slots := 0, locals := 23 }) D (ty3 cI cC cD) EN0 [.ref (ad 0), .int (nI c), .int (nI j), .int z] ad 12 (mE ad cI th n st mn ar) (mE ad cI (nI 0) n st 0 (va_up (va_up (va_up (va_up (va_up ar 1 (upd (ar 1) (6 * c + j) z)) 4 (upd (ar 4) t (-1))) 5 (upd (ar 5) t (nI 0))) 6 (upd (ar 6) c (nI 0))) 7 (upd (ar 7) c (-1)))) none := by
  refine RM.of (by decide) (Nat.le_of_ble_eq_true rfl) ?_
  intro p e s m below meth c0 A ls args Q0 S hr hlk hQ wb hl
  have hx := S.1
  have hb := S.2.1
  have hl : lv_has ls 6 [(0, .ref (ad 0)), (1, .int (nI c)), (2, .int (nI j)), (3, .int z)] := hl
  refine lv_iconst (v := nI 0) hx hb dX4_worth_0 (by decide) ?_
  refine lv_istore (lv' := [(4, .int (nI 0)), (0, .ref (ad 0)), (1, .int (nI c)), (2, .int (nI j)), (3, .int z)]) hx hb dX4_worth_1 hl (by decide) rfl (fun ls hl => ?_)
  refine lv_iconst (v := nI 0) hx hb dX4_worth_3 (by decide) ?_
  refine lv_istore (lv' := [(5, .int (nI 0)), (4, .int (nI 0)), (0, .ref (ad 0)), (1, .int (nI c)), (2, .int (nI j)), (3, .int z)]) hx hb dX4_worth_4 hl (by decide) rfl (fun ls hl => ?_)
  have L6 : ∀ (fuel : Nat) (k : Nat) (v : Int32) (hkn : k ≤ n) (hfu : n < k + fuel) (hv : tells v (SB ar k)) (H : Heap) (locs : List Loc) (wb : WB D (ty3 cI cC cD) EN0 ad 12 A s (mE ad cI th n st mn ar) H locs) (ls : Array Slot) (hl : lv_has ls 6 [(0, .ref (ad 0)), (1, .int (nI c)), (2, .int (nI j)), (3, .int z), (4, .int v), (5, .int (nI k))]), W p l e ({ frames := 1, cells := 0, slots := 0, locals := 23 }) s m args below meth c0 H locs 0 0 Q0 (F0 m 6 ls []) := by
    intro fuel
    induction fuel with
    | zero => intro k v hkn hfu hv H locs wb ls hl; exact absurd hfu (by omega)
    | succ fuel ih =>
      intro k v hkn hfu hv H locs wb ls hl
      refine lv_iload hx hb dX4_worth_6 (lv_at hl 5 rfl) ?_
      refine lv_aload_n hx hb dX4_worth_8 rfl (lv_at hl 0 rfl) ?_
      refine rb_get S wb 0 (by decide) rfl rfl in4 1 (by decide) bw_463 rfl dX4_worth_9 ?_
      refine nb_icmp_ge (tgt := 43) hx hb dX4_worth_12 (by decide) (by omega) (by omega) (fun h12 => ?_) (fun h12 => ?_)
      · have hke : k = n := by omega
        rw [hke] at hv
        have L65 : ∀ (v5 : Int32) (hv5 : tells v5 (st = nI 1 ∧ stl ar n)) (H : Heap) (locs : List Loc) (wb : WB D (ty3 cI cC cD) EN0 ad 12 A s (mE ad cI th n st mn ar) H locs) (ls : Array Slot) (hl : lv_has ls 6 [(0, .ref (ad 0)), (1, .int (nI c)), (2, .int (nI j)), (3, .int z), (4, .int v), (5, .int v5)]), W p l e ({ frames := 1, cells := 0, slots := 0, locals := 23 }) s m args below meth c0 H locs 0 0 Q0 (F0 m 65 ls []) := by
            intro v5 hv5 H locs wb ls hl
            refine lv_aload_n hx hb dX4_worth_65 rfl (lv_at hl 0 rfl) ?_
            refine lv_aload_n hx hb dX4_worth_66 rfl (lv_at hl 0 rfl) ?_
            refine lv_iload_n hx hb dX4_worth_67 rfl (lv_at hl 1 rfl) ?_
            refine rb_callV S wb EN0_ok (m_no_t l D cI cC cD ad th n st mn ar (nI c) (nI 0) (tells_f (no_f hc (by omega)))) (bw5 bw_520 bw_522 bw_23 bw_37 bw_523) (rb_recv wb 0 (by decide) rfl rfl) hdX4_no rfl ⟨rfl, rfl⟩ ⟨by decide, by decide⟩ hl.1 (Nat.le_of_ble_eq_true rfl) ⟨Nat.zero_le _, Nat.zero_le _⟩ (rest := [.ref (ad 0)]) (st1 := [.int (nI 0), .ref (ad 0)]) rfl rfl dX4_worth_68 (fun H locs wb => ?_)
            refine lv_if_ne (tgt := 93) hx hb dX4_worth_71 (by decide) (fun h71 => absurd (by decide) h71) (fun h71 => ?_)
            refine lv_aload_n hx hb dX4_worth_74 rfl (lv_at hl 0 rfl) ?_
            refine lv_iload_n hx hb dX4_worth_75 rfl (lv_at hl 2 rfl) ?_
            refine rb_callV S wb EN0_ok (m_no_t l D cI cC cD ad th n st mn ar (nI j) (nI 0) (tells_f (no_f hj (by omega)))) (bw5 bw_520 bw_522 bw_23 bw_37 bw_523) (rb_recv wb 0 (by decide) rfl rfl) hdX4_no rfl ⟨rfl, rfl⟩ ⟨by decide, by decide⟩ hl.1 (Nat.le_of_ble_eq_true rfl) ⟨Nat.zero_le _, Nat.zero_le _⟩ (rest := [.ref (ad 0)]) (st1 := [.int (nI 0), .ref (ad 0)]) rfl rfl dX4_worth_76 (fun H locs wb => ?_)
            refine lv_if_ne (tgt := 93) hx hb dX4_worth_79 (by decide) (fun h79 => absurd (by decide) h79) (fun h79 => ?_)
            refine lv_iload_n hx hb dX4_worth_82 rfl (lv_at hl 3 rfl) ?_
            refine lv_if_lt (tgt := 93) hx hb dX4_worth_83 (by decide) (fun h83 => absurd h83 hz1) (fun h83 => ?_)
            refine lv_iload_n hx hb dX4_worth_86 rfl (lv_at hl 3 rfl) ?_
            refine lv_sipush (v := nI 1000) hx hb dX4_worth_87 (by decide) ?_
            refine lv_icmp_le (tgt := 97) hx hb dX4_worth_90 (by decide) (fun h90 => ?_) (fun h90 => absurd hz2 h90)
            refine lv_iload hx hb dX4_worth_97 (lv_at hl 4 rfl) ?_
            refine lv_if_eq (tgt := 111) hx hb dX4_worth_99 (by decide) (fun h99 => absurd h99 (fun q => tells_F hv q hs)) (fun h99 => ?_)
            refine lv_iload hx hb dX4_worth_102 (lv_at hl 5 rfl) ?_
            refine lv_if_ne (tgt := 111) hx hb dX4_worth_104 (by decide) (fun h104 => ?_) (fun h104 => absurd h104 (fun q => tells_F hv5 q hd))
            refine lv_iconst (v := nI 0) hx hb dX4_worth_111 (by decide) ?_
            refine rb_put (E' := mE ad cI (nI 0) n st mn ar) S wb 0 (by decide) rfl rfl in4 tyX4 tyX4_ok nmX4 0 (by decide) bw_462 rfl rfl rfl (Nat.le_of_ble_eq_true rfl) (m12 rfl rfl rfl rfl rfl rfl rfl rfl rfl rfl rfl rfl) dX4_worth_112 (fun H locs wb => ?_)
            refine lv_aload_n hx hb dX4_worth_115 rfl (lv_at hl 0 rfl) ?_
            refine rb_get S wb 0 (by decide) rfl rfl in4 0 (by decide) bw_462 rfl dX4_worth_116 ?_
            refine lv_if_eq (tgt := 123) hx hb dX4_worth_119 (by decide) (fun h119 => ?_) (fun h119 => absurd (by decide) h119)
            refine lv_aload_n hx hb dX4_worth_123 rfl (lv_at hl 0 rfl) ?_
            refine rb_get S wb 0 (by decide) rfl rfl in4 3 (by decide) bw_465 rfl dX4_worth_124 ?_
            refine lv_bipush (v := nI 6) hx hb dX4_worth_127 (by decide) ?_
            refine lv_iload_n hx hb dX4_worth_129 rfl (lv_at hl 1 rfl) ?_
            refine lv_imul hx hb dX4_worth_130 ?_
            refine nb_ren (y := nI (6 * c)) (pk_mul _ _) ?_
            refine lv_iload_n hx hb dX4_worth_131 rfl (lv_at hl 2 rfl) ?_
            refine lv_iadd hx hb dX4_worth_132 ?_
            refine nb_ren (y := nI (6 * c + j)) (nI_add _ _) ?_
            refine lv_iload_n hx hb dX4_worth_133 rfl (lv_at hl 3 rfl) ?_
            refine rb_ast (E' := mE ad cI (nI 0) n st mn (va_up ar 1 (upd (ar 1) (6 * c + j) z))) (n := 36) (f := ar 1) S wb 1 (by decide) rfl 0 rfl (6 * c + j) (by omega) (by decide) (m12 rfl rfl rfl rfl rfl rfl rfl rfl rfl rfl rfl rfl) dX4_worth_134 (fun H locs wb => ?_)
            refine lv_iload hx hb dX4_worth_135 (lv_at hl 4 rfl) ?_
            refine lv_if_eq (tgt := 183) hx hb dX4_worth_137 (by decide) (fun h137 => absurd h137 (fun q => tells_F hv q hs)) (fun h137 => ?_)
            refine lv_aload_n hx hb dX4_worth_140 rfl (lv_at hl 0 rfl) ?_
            refine lv_iconst (v := nI 0) hx hb dX4_worth_141 (by decide) ?_
            refine rb_put (E' := mE ad cI (nI 0) n st 0 (va_up ar 1 (upd (ar 1) (6 * c + j) z))) S wb 0 (by decide) rfl rfl in4 tyX4 tyX4_ok nmX4 12 (by decide) bw_474 rfl rfl rfl (Nat.le_of_ble_eq_true rfl) (m12 rfl rfl rfl rfl rfl rfl rfl rfl rfl rfl rfl rfl) dX4_worth_142 (fun H locs wb => ?_)
            refine lv_aload_n hx hb dX4_worth_145 rfl (lv_at hl 0 rfl) ?_
            refine rb_get S wb 0 (by decide) rfl rfl in4 6 (by decide) bw_468 rfl dX4_worth_146 ?_
            refine lv_aload_n hx hb dX4_worth_149 rfl (lv_at hl 0 rfl) ?_
            refine rb_get S wb 0 (by decide) rfl rfl in4 9 (by decide) bw_471 rfl dX4_worth_150 ?_
            refine lv_iload_n hx hb dX4_worth_153 rfl (lv_at hl 1 rfl) ?_
            refine rb_ald (n := 6) (f := ar 7) (x := ar 7 c) S wb 7 (by decide) rfl 0 rfl c (by omega) (by decide) rfl dX4_worth_154 ?_
            refine nb_ren (y := nI t) et ?_
            refine lv_iconst (v := (-1)) hx hb dX4_worth_155 (by decide) ?_
            refine rb_ast (E' := mE ad cI (nI 0) n st 0 (va_up (va_up ar 1 (upd (ar 1) (6 * c + j) z)) 4 (upd (ar 4) t (-1)))) (n := 6) (f := ar 4) S wb 4 (by decide) rfl 0 rfl t (by omega) (by decide) (m12 rfl rfl rfl rfl rfl rfl rfl rfl rfl rfl rfl rfl) dX4_worth_156 (fun H locs wb => ?_)
            refine lv_aload_n hx hb dX4_worth_157 rfl (lv_at hl 0 rfl) ?_
            refine rb_get S wb 0 (by decide) rfl rfl in4 7 (by decide) bw_469 rfl dX4_worth_158 ?_
            refine lv_aload_n hx hb dX4_worth_161 rfl (lv_at hl 0 rfl) ?_
            refine rb_get S wb 0 (by decide) rfl rfl in4 9 (by decide) bw_471 rfl dX4_worth_162 ?_
            refine lv_iload_n hx hb dX4_worth_165 rfl (lv_at hl 1 rfl) ?_
            refine rb_ald (n := 6) (f := ar 7) (x := ar 7 c) S wb 7 (by decide) rfl 0 rfl c (by omega) (by decide) rfl dX4_worth_166 ?_
            refine nb_ren (y := nI t) et ?_
            refine lv_iconst (v := nI 0) hx hb dX4_worth_167 (by decide) ?_
            refine rb_ast (E' := mE ad cI (nI 0) n st 0 (va_up (va_up (va_up ar 1 (upd (ar 1) (6 * c + j) z)) 4 (upd (ar 4) t (-1))) 5 (upd (ar 5) t (nI 0)))) (n := 6) (f := ar 5) S wb 5 (by decide) rfl 0 rfl t (by omega) (by decide) (m12 rfl rfl rfl rfl rfl rfl rfl rfl rfl rfl rfl rfl) dX4_worth_168 (fun H locs wb => ?_)
            refine lv_aload_n hx hb dX4_worth_169 rfl (lv_at hl 0 rfl) ?_
            refine rb_get S wb 0 (by decide) rfl rfl in4 8 (by decide) bw_470 rfl dX4_worth_170 ?_
            refine lv_iload_n hx hb dX4_worth_173 rfl (lv_at hl 1 rfl) ?_
            refine lv_iconst (v := nI 0) hx hb dX4_worth_174 (by decide) ?_
            refine rb_ast (E' := mE ad cI (nI 0) n st 0 (va_up (va_up (va_up (va_up ar 1 (upd (ar 1) (6 * c + j) z)) 4 (upd (ar 4) t (-1))) 5 (upd (ar 5) t (nI 0))) 6 (upd (ar 6) c (nI 0)))) (n := 6) (f := ar 6) S wb 6 (by decide) rfl 0 rfl c (by omega) (by decide) (m12 rfl rfl rfl rfl rfl rfl rfl rfl rfl rfl rfl rfl) dX4_worth_175 (fun H locs wb => ?_)
            refine lv_aload_n hx hb dX4_worth_176 rfl (lv_at hl 0 rfl) ?_
            refine rb_get S wb 0 (by decide) rfl rfl in4 9 (by decide) bw_471 rfl dX4_worth_177 ?_
            refine lv_iload_n hx hb dX4_worth_180 rfl (lv_at hl 1 rfl) ?_
            refine lv_iconst (v := (-1)) hx hb dX4_worth_181 (by decide) ?_
            refine rb_ast (E' := mE ad cI (nI 0) n st 0 (va_up (va_up (va_up (va_up (va_up ar 1 (upd (ar 1) (6 * c + j) z)) 4 (upd (ar 4) t (-1))) 5 (upd (ar 5) t (nI 0))) 6 (upd (ar 6) c (nI 0))) 7 (upd (ar 7) c (-1)))) (n := 6) (f := ar 7) S wb 7 (by decide) rfl 0 rfl c (by omega) (by decide) (m12 rfl rfl rfl rfl rfl rfl rfl rfl rfl rfl rfl rfl) dX4_worth_182 (fun H locs wb => ?_)
            exact rb_vret S hr hlk hQ wb (m12 rfl rfl rfl rfl rfl rfl rfl rfl rfl rfl rfl rfl) dX4_worth_183
        refine lv_aload_n hx hb dX4_worth_43 rfl (lv_at hl 0 rfl) ?_
        refine rb_get S wb 0 (by decide) rfl rfl in4 2 (by decide) bw_464 rfl dX4_worth_44 ?_
        refine lv_iconst (v := nI 1) hx hb dX4_worth_47 (by decide) ?_
        refine lv_icmp_ne (tgt := 62) hx hb dX4_worth_48 (by decide) (fun h48 => ?_) (fun h48 => ?_)
        · refine lv_iconst (v := nI 0) hx hb dX4_worth_62 (by decide) ?_
          refine lv_istore (lv' := [(5, .int (nI 0)), (0, .ref (ad 0)), (1, .int (nI c)), (2, .int (nI j)), (3, .int z), (4, .int v)]) hx hb dX4_worth_63 hl (by decide) rfl (fun ls hl => ?_)
          exact L65 (nI 0) (by first | exact tells_f (fun q => h48 q.1) | exact tells_f (fun q => tells_F hrs h55 q.2) | exact tells_t ⟨h48, tells_T hrs h55⟩) _ _ wb ls (lv_sub hl [1, 2, 3, 4, 5, 0] rfl)
        · refine lv_aload_n hx hb dX4_worth_51 rfl (lv_at hl 0 rfl) ?_
          obtain ⟨rs, hrs⟩ := tells_ex (stl ar n)
          refine rb_callV S wb EN0_ok (m_isSettled l D cI cC cD ad th n st mn ar hn hT rs hrs) (bw5 bw_516 bw_518 bw_22 bw_37 bw_519) (rb_recv wb 0 (by decide) rfl rfl) hdX4_isSettled rfl ⟨rfl, rfl⟩ ⟨by decide, by decide⟩ hl.1 (Nat.le_of_ble_eq_true rfl) ⟨Nat.zero_le _, Nat.zero_le _⟩ (rest := []) (st1 := [.int rs]) rfl rfl dX4_worth_52 (fun H locs wb => ?_)
          refine lv_if_eq (tgt := 62) hx hb dX4_worth_55 (by decide) (fun h55 => ?_) (fun h55 => ?_)
          · refine lv_iconst (v := nI 0) hx hb dX4_worth_62 (by decide) ?_
            refine lv_istore (lv' := [(5, .int (nI 0)), (0, .ref (ad 0)), (1, .int (nI c)), (2, .int (nI j)), (3, .int z), (4, .int v)]) hx hb dX4_worth_63 hl (by decide) rfl (fun ls hl => ?_)
            exact L65 (nI 0) (by first | exact tells_f (fun q => h48 q.1) | exact tells_f (fun q => tells_F hrs h55 q.2) | exact tells_t ⟨h48, tells_T hrs h55⟩) _ _ wb ls (lv_sub hl [1, 2, 3, 4, 5, 0] rfl)
          · refine lv_iconst (v := nI 1) hx hb dX4_worth_58 (by decide) ?_
            refine lv_goto (tgt := 63) hx hb dX4_worth_59 (by decide) ?_
            refine lv_istore (lv' := [(5, .int (nI 1)), (0, .ref (ad 0)), (1, .int (nI c)), (2, .int (nI j)), (3, .int z), (4, .int v)]) hx hb dX4_worth_63 hl (by decide) rfl (fun ls hl => ?_)
            exact L65 (nI 1) (by first | exact tells_f (fun q => h48 q.1) | exact tells_f (fun q => tells_F hrs h55 q.2) | exact tells_t ⟨h48, tells_T hrs h55⟩) _ _ wb ls (lv_sub hl [1, 2, 3, 4, 5, 0] rfl)
      · refine lv_iload hx hb dX4_worth_15 (lv_at hl 4 rfl) ?_
        refine lv_if_ne (tgt := 30) hx hb dX4_worth_17 (by decide) (fun h17 => ?_) (fun h17 => ?_)
        · refine lv_iconst (v := nI 1) hx hb dX4_worth_30 (by decide) ?_
          refine lv_goto (tgt := 35) hx hb dX4_worth_31 (by decide) ?_
          refine lv_istore (lv' := [(4, .int (nI 1)), (0, .ref (ad 0)), (1, .int (nI c)), (2, .int (nI j)), (3, .int z), (5, .int (nI k))]) hx hb dX4_worth_35 hl (by decide) rfl (fun ls hl => ?_)
          refine lv_iinc (v := nI (k + 1)) (lv' := [(5, .int (nI (k + 1))), (4, .int (nI 1)), (0, .ref (ad 0)), (1, .int (nI c)), (2, .int (nI j)), (3, .int z)]) hx hb dX4_worth_37 hl (k := 5) rfl (nI_s1 _) (by decide) rfl (fun ls hl => ?_)
          refine lv_goto (tgt := 6) hx hb dX4_worth_40 (by decide) ?_
          exact ih (k + 1) (nI 1) (by omega) (by omega) (by first | exact tells_t (SB_1 (tells_T hv h17)) | exact tells_t (SB_2 h27) | exact tells_f (SB_3 (tells_F hv h17) h27)) _ _ wb ls (lv_sub hl [2, 3, 4, 5, 1, 0] rfl)
        · refine lv_aload_n hx hb dX4_worth_20 rfl (lv_at hl 0 rfl) ?_
          refine rb_get S wb 0 (by decide) rfl rfl in4 10 (by decide) bw_472 rfl dX4_worth_21 ?_
          refine lv_iload hx hb dX4_worth_24 (lv_at hl 5 rfl) ?_
          refine rb_ald (n := 6) (f := ar 8) (x := ar 8 k) S wb 8 (by decide) rfl 0 rfl k (by omega) (by decide) rfl dX4_worth_26 ?_
          refine lv_if_le (tgt := 34) hx hb dX4_worth_27 (by decide) (fun h27 => ?_) (fun h27 => ?_)
          · refine lv_iconst (v := nI 0) hx hb dX4_worth_34 (by decide) ?_
            refine lv_istore (lv' := [(4, .int (nI 0)), (0, .ref (ad 0)), (1, .int (nI c)), (2, .int (nI j)), (3, .int z), (5, .int (nI k))]) hx hb dX4_worth_35 hl (by decide) rfl (fun ls hl => ?_)
            refine lv_iinc (v := nI (k + 1)) (lv' := [(5, .int (nI (k + 1))), (4, .int (nI 0)), (0, .ref (ad 0)), (1, .int (nI c)), (2, .int (nI j)), (3, .int z)]) hx hb dX4_worth_37 hl (k := 5) rfl (nI_s1 _) (by decide) rfl (fun ls hl => ?_)
            refine lv_goto (tgt := 6) hx hb dX4_worth_40 (by decide) ?_
            exact ih (k + 1) (nI 0) (by omega) (by omega) (by first | exact tells_t (SB_1 (tells_T hv h17)) | exact tells_t (SB_2 h27) | exact tells_f (SB_3 (tells_F hv h17) h27)) _ _ wb ls (lv_sub hl [2, 3, 4, 5, 1, 0] rfl)
          · refine lv_iconst (v := nI 1) hx hb dX4_worth_30 (by decide) ?_
            refine lv_goto (tgt := 35) hx hb dX4_worth_31 (by decide) ?_
            refine lv_istore (lv' := [(4, .int (nI 1)), (0, .ref (ad 0)), (1, .int (nI c)), (2, .int (nI j)), (3, .int z), (5, .int (nI k))]) hx hb dX4_worth_35 hl (by decide) rfl (fun ls hl => ?_)
            refine lv_iinc (v := nI (k + 1)) (lv' := [(5, .int (nI (k + 1))), (4, .int (nI 1)), (0, .ref (ad 0)), (1, .int (nI c)), (2, .int (nI j)), (3, .int z)]) hx hb dX4_worth_37 hl (k := 5) rfl (nI_s1 _) (by decide) rfl (fun ls hl => ?_)
            refine lv_goto (tgt := 6) hx hb dX4_worth_40 (by decide) ?_
            exact ih (k + 1) (nI 1) (by omega) (by omega) (by first | exact tells_t (SB_1 (tells_T hv h17)) | exact tells_t (SB_2 h27) | exact tells_f (SB_3 (tells_F hv h17) h27)) _ _ wb ls (lv_sub hl [2, 3, 4, 5, 1, 0] rfl)
  exact L6 (n + 1) 0 (nI 0) (by omega) (by omega) (tells_f (fun q => by obtain ⟨_, q, _⟩ := q; exact absurd q (Nat.not_lt_zero _))) _ _ wb ls (lv_sub hl [2, 3, 4, 5, 1, 0] rfl)
end
section
/-! own rows: the search of a handler where the classes of the table need not be resolved yet -/
section KH
def kh_F (e : Env) (s : State) (f : JFrame) (a : Addr) (pc : Nat) (vm' : Vm) : Prop :=
  ∀ (Q : Handler → Pre) (E : CtlPost) (d : Bool) (acts : List Action), wp (findHandler f a) Q E e d acts s ↔ Q (.found pc) d acts (s.setVm vm')
theorem kh_one {Q : Handler → Pre} {E : CtlPost} {e : Env} {d : Bool} {acts : List Action} {s : State} {f : JFrame} {a : Addr} {x : ExceptionTableEntry} {t : List ExceptionTableEntry} {k : ClassId} {cell : Cell} (hx : covers x f.pc = true) (h0 : x.catchType ≠ 0)
    (hl : s.vm.ClassLinks e.platform f.method.cls x.catchType k) (hcell : s.heap[a]? = some cell) (hobj : ∀ z, cell.vm ≠ .statics z) (hk : ∃ z, s.vm.classes[cell.cls]? = some z) (hc : ∃ z, s.vm.classes[k]? = some z) :
    (s.vm.assignable cell.cls k = true → (wp (findHandler.go f a (x :: t)) Q E e d acts s ↔ Q (.found x.handlerPc) d acts (s.setVm (s.vm.noted f.method.cls x.catchType (.cls k))))) ∧
    (s.vm.assignable cell.cls k = false → (wp (findHandler.go f a (x :: t)) Q E e d acts s ↔ wp (findHandler.go f a t) Q E e d acts (s.setVm (s.vm.noted f.method.cls x.catchType (.cls k))))) := by
  simp only [covers] at hx
  obtain ⟨ha, ht⟩ := (resolveClass_links e.toSetting hl).op (op := VmOp.resolveClass f.method.cls x.catchType) rfl
  have hal : s.vm.Alike (s.vm.noted f.method.cls x.catchType (.cls k)) := (Vm.Alike.refl s.vm).noted _ _ _
  obtain ⟨k1, hk1⟩ := hk
  obtain ⟨k2, hk2⟩ := hc
  obtain ⟨k1', hk1', -⟩ := hal.2.2 _ _ hk1
  obtain ⟨k2', hk2', -⟩ := hal.2.2 _ _ hk2
  constructor
  · intro hf
    have hf' : (s.vm.noted f.method.cls x.catchType (.cls k)).assignable cell.cls k = true := by rw [hal.assignable]; exact hf
    simp [findHandler.go, hx, h0, ha, ht, hcell, hobj, hk1', hk2', hf', VmOp.dirties, VmOp.acts]
  · intro hf
    have hf' : (s.vm.noted f.method.cls x.catchType (.cls k)).assignable cell.cls k = false := by rw [hal.assignable]; exact hf
    simp [findHandler.go, hx, h0, ha, ht, hcell, hobj, hk1', hk2', hf', VmOp.dirties, VmOp.acts]
def kh_pass (pl : Platform) (s₀ : State) (d : ClassId) (pc : Nat) (thrown : ClassId) (y : ExceptionTableEntry) : Prop :=
  covers y pc = false ∨ (y.catchType ≠ 0 ∧ ∃ k, s₀.vm.ClassLinks pl d y.catchType k ∧ s₀.vm.assignable thrown k = false)
theorem kh_go {e : Env} {s₀ : State} {f : JFrame} {a : Addr} {cell : Cell} (hobj : ∀ k, cell.vm ≠ .statics k) (hk0 : ∃ k, s₀.vm.classes[cell.cls]? = some k)
    (x : ExceptionTableEntry) (rest : List ExceptionTableEntry) (hx : covers x f.pc = true) (h0 : x.catchType ≠ 0) {k9 : ClassId} (hl : s₀.vm.ClassLinks e.platform f.method.cls x.catchType k9) (hfit : s₀.vm.assignable cell.cls k9 = true) :
    ∀ (pre : List ExceptionTableEntry) (S : State), s₀.WarmedH S.vm → S.heap[a]? = some cell → (∀ y ∈ pre, kh_pass e.platform s₀ f.method.cls f.pc cell.cls y) →
      ∃ vm', s₀.WarmedH vm' ∧ ∀ (Q : Handler → Pre) (E : CtlPost) (d : Bool) (acts : List Action), wp (findHandler.go f a (pre ++ x :: rest)) Q E e d acts S ↔ Q (.found x.handlerPc) d acts (S.setVm vm') := by
  obtain ⟨k0, hk0⟩ := hk0
  intro pre
  induction pre with
  | nil =>
    intro S hW hcell _
    obtain ⟨k0', hk0', -⟩ := hW.alike.2.2 _ _ hk0
    obtain ⟨dk, _, _, kt, hd, _, _, _, _, hkt, _, hopen⟩ := hl.here
    obtain ⟨kt', hkt', -⟩ := hW.alike.2.2 _ _ hkt
    exact ⟨_, hW.noted hd hopen (State.rightAt_cls hl), fun Q E d acts => by
      rw [List.nil_append]
      exact (kh_one hx h0 (hW.classLinks hl) hcell hobj ⟨k0', hk0'⟩ ⟨kt', hkt'⟩).1 (by rw [hW.alike.assignable]; exact hfit)⟩
  | cons y ys ih =>
    intro S hW hcell hpass
    obtain ⟨k0', hk0', -⟩ := hW.alike.2.2 _ _ hk0
    have hrest : ∀ z ∈ ys, kh_pass e.platform s₀ f.method.cls f.pc cell.cls z := fun z hz => hpass z (List.mem_cons_of_mem _ hz)
    by_cases hcov : covers y f.pc = true
    · rcases hpass y (List.mem_cons_self ..) with h | ⟨hy0, k, hly, hno⟩
      · rw [h] at hcov; cases hcov
      · obtain ⟨dk, _, _, kt, hd, _, _, _, _, hkt, _, hopen⟩ := hly.here
        obtain ⟨kt', hkt', -⟩ := hW.alike.2.2 _ _ hkt
        obtain ⟨vm', hW', hq⟩ := ih (S.setVm (S.vm.noted f.method.cls y.catchType (.cls k))) (hW.noted hd hopen (State.rightAt_cls hly)) hcell hrest
        exact ⟨vm', hW', fun Q E d acts => by
          rw [List.cons_append, (kh_one hcov hy0 (hW.classLinks hly) hcell hobj ⟨k0', hk0'⟩ ⟨kt', hkt'⟩).2 (by rw [hW.alike.assignable]; exact hno)]
          exact hq Q E d acts⟩
    · obtain ⟨vm', hW', hq⟩ := ih S hW hcell hrest
      exact ⟨vm', hW', fun Q E d acts => by
        rw [List.cons_append, W.findHandler_go_skip (by simpa using hcov)]
        exact hq Q E d acts⟩
theorem kh_setF (u : State) (vm' : Vm) (F G : List Frame) : ((u.setFrames F).setVm vm').setFrames G = (u.setVm vm').setFrames G := by
  have h1 : (u.setFrames F).setVm vm' = (u.setVm vm').setFrames F := rfl
  rw [h1, State.setFrames_setFrames]
theorem kh_step {e : Env} {s : State} {a : Addr} {f : JFrame} {r : List Frame} {pc : Nat} {vm' : Vm} (hfind : kh_F e s f a pc vm') :
    (stepThrowing e s a (.java f :: r)).Is ((s.setVm vm').setFrames (.java { f with pc := pc, stack := [.ref a] } :: r)) [] := by
  simp only [stepThrowing, searchFrame, vmDo]
  generalize hr : Sem.go _ e false [] s = res
  obtain ⟨as, rfl, ha⟩ := Sem.eq_ok_of hr (a := Handler.found pc) (s' := s.setVm vm') (acts' := []) (by simp [hfind _ _ _ _])
  exact ⟨rfl, ha⟩
theorem kh_caught {tb : Tables} {e : Env} {s target : State} {g : JFrame} {c : Code} {below : List Frame} {a : Addr} (h : At s g.method c below) {pc : Nat} {vm' : Vm}
    (hfind : kh_F e ((s.setTop g).pushFrame (.throwing a)) g a pc vm') (hrest : Steps tb e below ((s.setVm vm').setTop { g with pc := pc, stack := [.ref a] }) target) :
    Steps tb e below ((s.setTop g).pushFrame (.throwing a)) target := by
  obtain ⟨hgo, hw⟩ := h.throwing a
  refine Steps.head hgo hw ?_
  rw [stepThread_throwing (frames_entered h.top _), (kh_step (s := (s.setTop g).pushFrame (.throwing a)) hfind).1]
  obtain ⟨g₀, hg⟩ := Option.isSome_iff_exists.mp h.top
  obtain ⟨r, hr⟩ := State.topJava?_eq_some.mp hg
  have hr' : (s.setVm vm').frames = .java g₀ :: r := hr
  rw [State.setTop_of_frames _ hr'] at hrest
  rw [hr, List.tail_cons, State.pushFrame, kh_setF, State.setTop_of_frames _ hr, kh_setF]
  exact hrest
/-- a throw over the frame g, caught by the row x of its own table -/
theorem kh_stand {p : Program} {l : Launch} {e : Env} {R : Room} {s : State} {m : MethodId} {args : Array Value} {below : List Frame} {meth : Method} {c : Code} {T : State} {locs : List Loc} {cells slots : Nat}
    (X : Stand p l e R s m args below meth c T locs cells slots) (a : Addr) {g : JFrame} (hg : g.method = m) {cell : Cell} (hcell : T.heap[a]? = some cell) (hobj : cell.vm.isStatics = false)
    (hk0 : ∃ k, s.vm.classes[cell.cls]? = some k) (pre : List ExceptionTableEntry) (x : ExceptionTableEntry) (rest : List ExceptionTableEntry) (hsplit : c.exceptionTable.toList = pre ++ x :: rest)
    (hpass : ∀ y ∈ pre, kh_pass e.platform s m.cls g.pc cell.cls y) (hx : covers x g.pc = true) (h0 : x.catchType ≠ 0) {k9 : ClassId} (hl : s.vm.ClassLinks e.platform m.cls x.catchType k9) (hfit : s.vm.assignable cell.cls k9 = true) :
    ∃ vm', Stand p l e R s m args below meth c (T.setVm vm') locs cells slots ∧ Steps p.tables e below ((T.setTop g).pushFrame (.throwing a)) ((T.setVm vm').setTop { g with pc := x.handlerPc, stack := [.ref a] }) := by
  subst hg
  obtain ⟨vm', hW', hq⟩ := kh_go (e := e) (s₀ := s) (f := g) (a := a) (cell := cell) (VmData.ne_statics_of hobj) hk0 x rest hx h0 hl hfit pre ((T.setTop g).pushFrame (.throwing a)) X.warmed hcell hpass
  refine ⟨vm', X.noted hW', kh_caught X.here (vm' := vm') (fun Q E d acts => ?_) (Steps.refl _)⟩
  rw [W.findHandler_eq (s := (T.setTop g).pushFrame (.throwing a)) (meth := meth) (code := c) X.method' X.code, hsplit]
  exact hq Q E d acts
end KH
/-! ===== BEGIN words of one list among another's, by their places ===== -/
theorem goodIn_r {big : List Cond} (ws : List Cond) (ps : List Nat) (hp : ws = ps.filterMap (fun i => big[i]?)) (h : ws.all goodWord = true) : GoodIn big ws := by
  intro w hw
  have h1 := List.all_eq_true.mp h w hw
  rw [hp] at hw
  obtain ⟨i, -, hi⟩ := List.mem_filterMap.mp hw
  have hm : w ∈ big := by first | exact List.mem_of_getElem? hi | exact List.getElem?_mem hi
  exact ⟨hm, good_of_word h1⟩
theorem goodIn_app {big a b : List Cond} (ha : GoodIn big a) (hb : GoodIn big b) : GoodIn big (a ++ b) := fun w h => (List.mem_append.mp h).elim (ha w) (hb w)
theorem goodIn_ca {big a b : List Cond} {c : Cond} (ha : GoodIn big (c :: a)) (hb : GoodIn big b) : GoodIn big (c :: (a ++ b)) := fun w h => (List.mem_cons.mp h).elim (fun e => ha w (List.mem_cons.mpr (Or.inl e))) (fun h => (List.mem_append.mp h).elim (fun h => ha w (List.mem_cons.mpr (Or.inr h))) (hb w))
theorem goodIn_sub {big ws : List Cond} (hm : ∀ w ∈ ws, w ∈ big) (h : ws.all goodWord = true) : GoodIn big ws := fun w hw => ⟨hm w hw, good_of_word (List.all_eq_true.mp h w hw)⟩
/-! ===== END ===== -/

/-! ===== BEGIN exceptions that leave a method, and their catching by the caller (launches without stack traces) ===== -/
section VXA
/-! The laws vx_back, vx_callV, vx_callS, vx_callSW, vx_throw0, vx_throwS follow proofs of the library, with one case more: JvmDerived/Free/Laws.lean (Back.of_free), Shelf42/LK1.lean (callV, callS), Shelf/KitTraced.lean (throwNew0V, throwNewS). -/
/-- where a method has thrown q: the class by its name, the cell, what was written, the world -/
def vx_T (XC : String → State → State → Prop) (st : State) (q : Addr) (t : State) (mc ms : Nat) (free : Addr → Prop) : Prop :=
  ∃ (E : String) (ce : Cell) (L : List Loc), XC E st t ∧ t.heap[q]? = some ce ∧ ce.vm = .none ∧ st.vm.findClass E = some ce.cls ∧ st.WarmedH t.vm ∧ st.sameButNew ({ t with vm := st.vm } : State) L mc ms ∧ ∀ z ∈ L, free z.base
def vx_Q (Qc : Array Value → State → Outcome → State → Prop) (XC : String → State → State → Prop) (mc ms : Nat) (free : Addr → Prop) : Array Value → State → Outcome → State → Prop := fun a st o t =>
  (Qc a st o t ∧ ∃ L, FrameEnd st o t L mc ms ∧ ∀ q ∈ L, free q.base) ∨ ∃ q, o = .threw q ∧ vx_T XC st q t mc ms free
/-- a callee that returns or throws -/
def vx_Met (l : Launch) (y : MethodName) (ws : List Cond) (rm : Room) (Pc : Array Value → State → Prop) (Qc : Array Value → State → Outcome → State → Prop) (XC : String → State → State → Prop) (mc ms : Nat) (free : Addr → Prop) : Prop :=
  MetFree l y (headSpec ws rm) Pc (fun _ _ _ _ _ => True) (vx_Q Qc XC mc ms free)
def vx_Post (XC : String → State → State → Prop) (mc ms : Nat) (free : Addr → Prop) : Pt → Array Value → Addr → Pt → Prop := fun A a q B =>
  ∃ (g : JFrame) (mk : MethodId) (t : State) (L : List Loc) (E : String) (ce : Cell), B.U.heap = t.heap ∧ B.U.vm = t.vm ∧ XC E (A.U.calling g mk a) t ∧ t.heap[q]? = some ce ∧ ce.vm = .none ∧ A.U.vm.findClass E = some ce.cls ∧ B.locs = A.locs ++ L ∧ (∀ z ∈ L, free z.base) ∧ B.cells = A.cells + mc ∧ B.slots = A.slots + ms
def vx_Back (l : Launch) (R : Room) (p : Program) (e : Env) (below : List Frame) (s : State) (sargs : Array Value) (y : MethodName) (len W9 : Nat)
    (Pre : Pt → Array Value → Prop) (Post : Pt → Array Value → Option Value → Pt → Prop) (PostX : Pt → Array Value → Addr → Pt → Prop) : Prop :=
  ∀ (m : MethodId) (meth : Method) (c : Code) (A : Pt) (g : JFrame) (ig : Instr) (mk : MethodId) (a : Array Value),
    Stand p l e R s m sargs below meth c A.U A.locs A.cells A.slots → g.method = m → g.locals.size = c.maxLocals → decode c.code g.pc = .ok (ig, len) →
    2 * g.monitorRoom + (g.stack.map fun v => v.category).sum ≤ W9 → A.U.methodNamed? y = some mk → Pre A a →
    (∃ (v : Option Value) (B : Pt), Stand p l e R s m sargs below meth c B.U B.locs B.cells B.slots ∧ Post A a v B ∧
      Steps p.tables e below (doInvoke e (A.U.setTop g) [] mk a).1 (B.U.setTop { g with pc := g.pc + len, stack := v.toList ++ g.stack })) ∨
    (∃ (q : Addr) (B : Pt), Stand p l e R s m sargs below meth c B.U B.locs B.cells B.slots ∧ PostX A a q B ∧
      Steps p.tables e below (doInvoke e (A.U.setTop g) [] mk a).1 ((B.U.setTop g).pushFrame (.throwing q)))
section Payer
variable {l : Launch} {R : Room} {p : Program} {e : Env} {below : List Frame} {s : State} {sargs : Array Value} {y : MethodName} {len W9 : Nat}
theorem vx_back {ws : List Cond} {rm : Room} {Pc : Array Value → State → Prop} {Qc : Array Value → State → Outcome → State → Prop} {XC : String → State → State → Prop} {mc ms : Nat} {free : Addr → Prop} {bytes : ByteArray} {maxL : Nat} {ret : Option FieldType}
    (hM : vx_Met l y ws rm Pc Qc XC mc ms free) (hblind : FrameBlind Pc) (hrc : rm.cells = mc) (hrs : rm.slots = ms)
    (hframes : rm.frames + 1 ≤ R.frames) (hlocals : W9 + (maxL + 11) + rm.locals ≤ R.locals)
    (hws : ∀ w ∈ ws, ∀ a' U, s.WarmedH U.vm → w.before a' U = true) (hcode : Cond.code y bytes maxL ret ∈ ws) (hinit : ∀ a' U, s.WarmedH U.vm → (Cond.initialized y.cls).before a' U = true) :
    vx_Back l R p e below s sargs y len W9 (PreOf R mc ms Pc) (PostOf Qc mc ms free) (vx_Post XC mc ms free) := by
  intro m meth c A g ig mk a X hg hsize hdg hW hn hp
  have h1 : (headSpec ws rm).pre.before a A.U = true := atoms_intro fun w hw => hws w hw _ _ X.warmed
  have h2 : (Cond.code y bytes maxL ret).before a A.U = true := hws _ hcode _ _ X.warmed
  have h3 : (Cond.initialized y.cls).before a A.U = true := hinit _ _ X.warmed
  have h4 : A.cells + (headSpec ws rm).room.cells ≤ R.cells := by rw [show (headSpec ws rm).room.cells = mc from hrc]; exact hp.1
  have h5 : A.slots + (headSpec ws rm).room.slots ≤ R.slots := by rw [show (headSpec ws rm).room.slots = ms from hrs]; exact hp.2.1
  have hPc : Pc a (A.U.calling g mk a) := hblind _ _ _ _ hp.2.2
  obtain ⟨U, Ls, c0, s0⟩ := A
  dsimp only [Pt.U, Pt.locs, Pt.cells, Pt.slots] at h1 h2 h3 h4 h5 X hn hPc ⊢
  obtain ⟨methY, cY, hmY, hcY, -, hlY, -, -, -, -⟩ := Cond.code_spec hn h2
  obtain ⟨kY, hkY, -⟩ := className_of_methodNamed hn
  have hinitY : kY.init = .initialized := Cond.initialized_spec (findClass_of_methodNamed hn) hkY h3
  have h : At U g.method c below := by rw [hg]; exact X.here
  have hlocals9 : W9 + (maxL + 11) + (headSpec ws rm).room.locals ≤ R.locals := hlocals
  have happ : (headSpec ws rm).appliesLoose y e.platform (U.calling g mk a) = true :=
    Spec.appliesLoose_calling (g := g) h hdg hn hkY hinitY
      (X.room_calling (g := g) (R' := (headSpec ws rm).room) hsize hmY hcY hframes (by rw [hlY]; omega) h4 h5) h1
  obtain ⟨mid, hmid⟩ := h.above
  have hfr : (U.setTop g).frames = (.java g :: mid) ++ below := by rw [State.frames_setTop' g h.top, hmid]; rfl
  obtain ⟨o, s₂, hsteps, -, hend, hq⟩ := Steps.callFree hM p X.admits X.cas X.clock (acts := []) hfr happ hPc trivial
  have hq' : vx_Q Qc XC mc ms free a (U.calling g mk a) o s₂ := hq
  rw [State.frames_setTop' g h.top] at hend
  obtain ⟨g₀, hg0⟩ := Option.isSome_iff_exists.mp h.top
  obtain ⟨r, hr⟩ := State.topJava?_eq_some.mp hg0
  have hr' : (({ U with heap := s₂.heap, slotsUsed := s₂.slotsUsed } : State).setVm s₂.vm).frames = .java g₀ :: r := hr
  rcases hq' with ⟨hqc, L, hfe, hL⟩ | ⟨q, rfl, E, ce, L, hx, hce, hcv, hcl, hW₂, hsm, hL⟩
  · obtain ⟨⟨v, rfl⟩, hW₂, e2, q2, q3, q4, q5, q6⟩ := id hfe
    have e3 : s₂ = ({ (U.calling g mk a).setFrames s₂.frames with heap := s₂.heap, slotsUsed := s₂.slotsUsed } : State).setVm s₂.vm := by
      have : s₂ = ({ s₂ with vm := (U.calling g mk a).vm } : State).setVm s₂.vm := rfl
      rw [e2] at this
      exact this
    obtain ⟨c₂, i₂, len₂, hc₂, hd₂, hf₂⟩ := hend
    have hW' : U.WarmedH s₂.vm := hW₂
    have hcc : c₂ = c := by
      have h1 : s₂.code? g.method = U.code? g.method := by
        rw [State.code?_eq, State.code?_eq, hW'.alike.method?]
      exact Option.some.inj (hc₂.symm.trans (h1.trans h.code))
    subst hcc
    have hlen : len₂ = len := by rw [hdg] at hd₂; cases hd₂; rfl
    subst hlen
    have hs₂ : s₂ = (({ U with heap := s₂.heap, slotsUsed := s₂.slotsUsed } : State).setVm s₂.vm).setTop { g with pc := g.pc + len₂, stack := v.toList ++ g.stack } := by
      refine e3.trans ?_
      rw [hf₂, State.calling_eq h.top, State.setFrames_setFrames, State.setTop_of_frames _ hr', hr]
      rfl
    have hsame : U.sameButNew ({ U with heap := s₂.heap, slotsUsed := s₂.slotsUsed } : State) L mc ms := by
      refine ⟨?_, q2, q3, q4, q5, q6⟩
      obtain ⟨t, ht, -⟩ := State.frames_cons hr
      show ({ U with heap := s₂.heap, slotsUsed := s₂.slotsUsed } : State) = { U.setFrames U.frames with heap := s₂.heap, slotsUsed := s₂.slotsUsed }
      rw [State.setFrames_self ht]
    subst hg
    refine Or.inl ⟨v, ⟨(({ U with heap := s₂.heap, slotsUsed := s₂.slotsUsed } : State).setVm s₂.vm), Ls ++ L, c0 + mc, s0 + ms⟩,
      ⟨X.admits, X.cas, X.clock, X.frames, X.room, X.hears, X.method, X.code, (X.here.setHeapUsed s₂.heap s₂.slotsUsed).setVm hW'.alike, X.tail, State.WarmedH.trans X.warmed hW', X.limits, X.bytes, X.same.trans (hsame.setVm s.vm)⟩,
      ⟨g, mk, s₂, L, rfl, rfl, hqc, rfl, hL, rfl, rfl⟩, ?_⟩
    show Steps p.tables e below _ ((({ U with heap := s₂.heap, slotsUsed := s₂.slotsUsed } : State).setVm s₂.vm).setTop { g with pc := g.pc + len₂, stack := v.toList ++ g.stack })
    rw [← hs₂]
    exact hsteps
  · obtain ⟨e2, q2, q3, q4, q5, q6⟩ := id hsm
    have e3 : s₂ = ({ (U.calling g mk a).setFrames s₂.frames with heap := s₂.heap, slotsUsed := s₂.slotsUsed } : State).setVm s₂.vm := by
      have : s₂ = ({ s₂ with vm := (U.calling g mk a).vm } : State).setVm s₂.vm := rfl
      rw [e2] at this
      exact this
    have hf₂ : s₂.frames = .throwing q :: .java g :: U.frames.tail := hend
    have hW' : U.WarmedH s₂.vm := hW₂
    have hs₂ : s₂ = ((({ U with heap := s₂.heap, slotsUsed := s₂.slotsUsed } : State).setVm s₂.vm).setTop g).pushFrame (.throwing q) := by
      refine e3.trans ?_
      rw [hf₂, State.calling_eq h.top, State.setFrames_setFrames, State.pushFrame, State.frames_setTop _ hr', State.setTop_of_frames _ hr', State.setFrames_setFrames, hr]
      rfl
    have hsame : U.sameButNew ({ U with heap := s₂.heap, slotsUsed := s₂.slotsUsed } : State) L mc ms := by
      refine ⟨?_, q2, q3, q4, q5, q6⟩
      obtain ⟨t, ht, -⟩ := State.frames_cons hr
      show ({ U with heap := s₂.heap, slotsUsed := s₂.slotsUsed } : State) = { U.setFrames U.frames with heap := s₂.heap, slotsUsed := s₂.slotsUsed }
      rw [State.setFrames_self ht]
    subst hg
    refine Or.inr ⟨q, ⟨(({ U with heap := s₂.heap, slotsUsed := s₂.slotsUsed } : State).setVm s₂.vm), Ls ++ L, c0 + mc, s0 + ms⟩,
      ⟨X.admits, X.cas, X.clock, X.frames, X.room, X.hears, X.method, X.code, (X.here.setHeapUsed s₂.heap s₂.slotsUsed).setVm hW'.alike, X.tail, State.WarmedH.trans X.warmed hW', X.limits, X.bytes, X.same.trans (hsame.setVm s.vm)⟩,
      ⟨g, mk, s₂, L, E, ce, rfl, rfl, hx, hce, hcv, hcl, rfl, hL, rfl, rfl⟩, ?_⟩
    show Steps p.tables e below _ (((({ U with heap := s₂.heap, slotsUsed := s₂.slotsUsed } : State).setVm s₂.vm).setTop g).pushFrame (.throwing q))
    rw [← hs₂]
    exact hsteps
end Payer
section Calls
variable {p : Program} {l : Launch} {e : Env} {R : Room} {s : State} {m : MethodId} {args : Array Value} {below : List Frame} {meth : Method} {c : Code} {T : State} {locs : List Loc} {cells slots : Nat}
theorem vx_callV (X : Stand p l e R s m args below meth c T locs cells slots) (hexec : p.tables.exec = Jvm.exec) {own C : String} {index : Nat} {y : MethodName} {bytes : ByteArray} {maxL : Nat} {ret : Option FieldType}
    (hown : s.vm.findClass own = some m.cls) (hlink : (Cond.methodLink own index y).before args s = true) (hinst : (Cond.instanceMethod y).before args s = true) (hsel : (Cond.selects C y y).before args s = true)
    (hcode : (Cond.code y bytes maxL ret).before args s = true) (hy : y.cls ≠ "java/lang/invoke/MethodHandle" ∧ y.cls ≠ "java/lang/invoke/VarHandle")
    {W9 : Nat} {Pre : Pt → Array Value → Prop} {Post : Pt → Array Value → Option Value → Pt → Prop} {PostX : Pt → Array Value → Addr → Pt → Prop} (hK : vx_Back l R p e below s args y 3 W9 Pre Post PostX)
    {b : Addr} {cellB : Cell} (hcell : T.heap[b]? = some cellB) (hobj : cellB.vm.isStatics = false) (hcls : s.vm.findClass C = some cellB.cls)
    {g : JFrame} (hg : g.method = m) (hsize : g.locals.size = c.maxLocals) {argsL rest : List Value} (hlen : ∀ sig, parseMethodDescriptor y.desc = some sig → argsL.length = sig.parameters.length)
    (hstack : g.stack = argsL.reverse ++ .ref b :: rest) (hW : 2 * g.monitorRoom + (rest.map fun v => v.category).sum ≤ W9) (hdg : decode c.code g.pc = .ok (.invokevirtual index, 3))
    (hpre : ∀ vm₁, s.WarmedH vm₁ → Pre ⟨T.setVm vm₁, locs, cells, slots⟩ (Value.ref b :: argsL).toArray) :
    (∃ (v : Option Value) (vm₁ : Vm) (B : Pt), s.WarmedH vm₁ ∧ Stand p l e R s m args below meth c B.U B.locs B.cells B.slots ∧ Post ⟨T.setVm vm₁, locs, cells, slots⟩ (Value.ref b :: argsL).toArray v B ∧
      ∀ target, Steps p.tables e below (B.U.setTop { g with pc := g.pc + 3, stack := v.toList ++ rest }) target → Steps p.tables e below (T.setTop g) target) ∨
    (∃ (q : Addr) (vm₁ : Vm) (B : Pt), s.WarmedH vm₁ ∧ Stand p l e R s m args below meth c B.U B.locs B.cells B.slots ∧ PostX ⟨T.setVm vm₁, locs, cells, slots⟩ (Value.ref b :: argsL).toArray q B ∧
      Steps p.tables e below (T.setTop g) ((B.U.setTop { g with stack := rest }).pushFrame (.throwing q))) := by
  obtain ⟨mk, methM, hnamed, hmethM, hstM, habM⟩ := Cond.instanceMethod_spec hinst
  obtain ⟨methM', cM, hmethM', -, -, -, -, -, -, hsigM⟩ := Cond.code_spec hnamed hcode
  cases hmethM.symm.trans hmethM'
  obtain ⟨c2, r2, m2, q1, q2, q3, q4, kP, hkP, hkPi⟩ := Cond.selects_spec hsel
  cases hcls.symm.trans q1
  cases (State.methodFound?_of_named hnamed hy).symm.trans q2
  cases hnamed.symm.trans q3
  have hselP : selectMethod e.platform s.vm cellB.cls mk = .method mk := by rw [Launch.admits_selectMethod X.admits]; exact q4
  obtain ⟨vm₁, X₁, hstep₁⟩ := X.invokevirtual hexec hown hlink hnamed hmethM hstM hkP hkPi hy (a := b) (cell := cellB) hcell
    (fun z h => by rw [h] at hobj; cases hobj) hselP hmethM habM hkP hkPi (g := g) hg (argsL := argsL) (rest := rest) (hlen _ hsigM) hstack hdg
  rcases hK m meth c ⟨T.setVm vm₁, locs, cells, slots⟩ { g with stack := rest } (.invokevirtual index) mk (Value.ref b :: argsL).toArray X₁ hg hsize hdg hW (X₁.named hnamed) (hpre vm₁ X₁.warmed) with ⟨v, B, X', hpost, hsteps⟩ | ⟨q, B, X', hpost, hsteps⟩
  · exact Or.inl ⟨v, vm₁, B, X₁.warmed, X', hpost, fun target h => hstep₁ _ fun acts => by rw [doInvoke_state]; exact hsteps.trans h⟩
  · exact Or.inr ⟨q, vm₁, B, X₁.warmed, X', hpost, hstep₁ _ fun acts => by rw [doInvoke_state]; exact hsteps⟩
theorem vx_callS (X : Stand p l e R s m args below meth c T locs cells slots) (hexec : p.tables.exec = Jvm.exec) {own : String} {index : Nat} {y : MethodName} {bytes : ByteArray} {maxL : Nat} {ret : Option FieldType}
    (hown : s.vm.findClass own = some m.cls) (hlink : (Cond.methodLink own index y).before args s = true) (hstat : (Cond.static y).before args s = true) (hinit : (Cond.initialized y.cls).before args s = true)
    (hcode : (Cond.code y bytes maxL ret).before args s = true) (hy : y.cls ≠ "java/lang/invoke/MethodHandle" ∧ y.cls ≠ "java/lang/invoke/VarHandle")
    {W9 : Nat} {Pre : Pt → Array Value → Prop} {Post : Pt → Array Value → Option Value → Pt → Prop} {PostX : Pt → Array Value → Addr → Pt → Prop} (hK : vx_Back l R p e below s args y 3 W9 Pre Post PostX)
    {g : JFrame} (hg : g.method = m) (hsize : g.locals.size = c.maxLocals) {argsL rest : List Value} (hlen : ∀ sig, parseMethodDescriptor y.desc = some sig → argsL.length = sig.parameters.length)
    (hstack : g.stack = argsL.reverse ++ rest) (hW : 2 * g.monitorRoom + (rest.map fun v => v.category).sum ≤ W9) (hdg : decode c.code g.pc = .ok (.invokestatic index, 3))
    (hpre : ∀ vm₁, s.WarmedH vm₁ → Pre ⟨T.setVm vm₁, locs, cells, slots⟩ argsL.toArray) :
    (∃ (v : Option Value) (vm₁ : Vm) (B : Pt), s.WarmedH vm₁ ∧ Stand p l e R s m args below meth c B.U B.locs B.cells B.slots ∧ Post ⟨T.setVm vm₁, locs, cells, slots⟩ argsL.toArray v B ∧
      ∀ target, Steps p.tables e below (B.U.setTop { g with pc := g.pc + 3, stack := v.toList ++ rest }) target → Steps p.tables e below (T.setTop g) target) ∨
    (∃ (q : Addr) (vm₁ : Vm) (B : Pt), s.WarmedH vm₁ ∧ Stand p l e R s m args below meth c B.U B.locs B.cells B.slots ∧ PostX ⟨T.setVm vm₁, locs, cells, slots⟩ argsL.toArray q B ∧
      Steps p.tables e below (T.setTop g) ((B.U.setTop { g with stack := rest }).pushFrame (.throwing q))) := by
  obtain ⟨mk, hnamed⟩ := Cond.code_named hcode
  obtain ⟨methM, cM, hmethM, -, -, -, -, -, -, hsigM⟩ := Cond.code_spec hnamed hcode
  have hstatic : methM.isStatic = true := Cond.static_spec hnamed hmethM hstat
  obtain ⟨kP, hkP, -⟩ := className_of_methodNamed hnamed
  have hinitP : kP.init = .initialized := Cond.initialized_spec (findClass_of_methodNamed hnamed) hkP hinit
  obtain ⟨vm₁, X₁, hstep₁⟩ := X.invokestatic hexec hown hlink hnamed hmethM hstatic hkP hinitP hy (g := g) hg (argsL := argsL) (rest := rest) (hlen _ hsigM) hstack hdg
  rcases hK m meth c ⟨T.setVm vm₁, locs, cells, slots⟩ { g with stack := rest } (.invokestatic index) mk argsL.toArray X₁ hg hsize hdg hW (X₁.named hnamed) (hpre vm₁ X₁.warmed) with ⟨v, B, X', hpost, hsteps⟩ | ⟨q, B, X', hpost, hsteps⟩
  · exact Or.inl ⟨v, vm₁, B, X₁.warmed, X', hpost, fun target h => hstep₁ _ fun acts => by rw [doInvoke_state]; exact hsteps.trans h⟩
  · exact Or.inr ⟨q, vm₁, B, X₁.warmed, X', hpost, hstep₁ _ fun acts => by rw [doInvoke_state]; exact hsteps⟩
end Calls
theorem vx_cls {s : State} {T : State} {vm₁ : Vm} {E : String} {k : ClassId} (hW : s.WarmedH vm₁) (h : (T.setVm vm₁).vm.findClass E = some k) : s.vm.findClass E = some k := by
  have h1 : vm₁.findClass E = some k := h
  rw [hW.alike.findClass] at h1
  exact h1
/-- the method's frame g, with q thrown over it -/
def vx_W (p : Program) (l : Launch) (e : Env) (R : Room) (s : State) (m : MethodId) (args : Array Value) (below : List Frame) (meth : Method) (c : Code) (H : Heap) (locs : List Loc) (cells slots : Nat) (Q : State → Prop) (g : JFrame) (q : Addr) : Prop :=
  ∀ T : State, T.heap = H → Stand p l e R s m args below meth c T locs cells slots → ∃ t, Steps p.tables e below ((T.setTop g).pushFrame (.throwing q)) t ∧ Q t
def vx_Run (p : Program) (l : Launch) (e : Env) (R : Room) (s : State) (m : MethodId) (args : Array Value) (below : List Frame) (meth : Method) (c : Code) (H : Heap) (locs : List Loc) (cells slots mc ms : Nat) (g : JFrame) (rest : List Value) (Qa : State → Outcome → State → Prop) (XC : String → State → State → Prop) (free : Addr → Prop) : Prop :=
  ∀ T : State, T.heap = H → Stand p l e R s m args below meth c T locs cells slots →
    (∃ (v : Option Value) (st₀ t T' : State) (L : List Loc), st₀.heap = H ∧ Stand p l e R s m args below meth c T' (locs ++ L) (cells + mc) (slots + ms) ∧ (∀ q ∈ L, free q.base) ∧ T'.heap = t.heap ∧ T'.vm = t.vm ∧ Qa st₀ (.returned v) t ∧
      Goes p e below T g T' { g with pc := g.pc + 3, stack := v.toList ++ rest }) ∨
    (∃ (q : Addr) (st₀ t T' : State) (L : List Loc) (E : String) (ce : Cell), st₀.heap = H ∧ Stand p l e R s m args below meth c T' (locs ++ L) (cells + mc) (slots + ms) ∧ (∀ z ∈ L, free z.base) ∧ T'.heap = t.heap ∧ T'.vm = t.vm ∧ XC E st₀ t ∧ t.heap[q]? = some ce ∧ ce.vm = .none ∧ s.vm.findClass E = some ce.cls ∧
      Steps p.tables e below (T.setTop g) ((T'.setTop { g with stack := rest }).pushFrame (.throwing q)))
def vx_X {S : Type} (px : S → Prop) (B : String → S → State → Prop) (A : Nat → Prop) : String → State → State → Prop := fun E st t => ∃ u : S, px u ∧ B E u t ∧ va_F A st t
section Runs
variable {p : Program} {l : Launch} {e : Env} {R : Room} {s : State} {m : MethodId} {args : Array Value} {below : List Frame} {meth : Method} {c : Code} {H : Heap} {locs : List Loc} {cells slots : Nat}
variable {y : MethodName} {bytes cc : ByteArray} {maxL nL mc ms n index : Nat} {ret : Option FieldType} {ws : List Cond} {rm : Room} {Pc : Array Value → State → Prop} {Qc : Array Value → State → Outcome → State → Prop} {XC : String → State → State → Prop} {free : Addr → Prop} {Ts : List Cond} {own C : String} {b : Addr} {As rest : List Value} {g : JFrame}
theorem vx_callBack (cb : CallB R s args own index y bytes maxL ret ws rm mc ms n) (hM : vx_Met l y ws rm Pc Qc XC mc ms free) (hbl : FrameBlind Pc) : vx_Back l R p e below s args y 3 8 (PreOf R mc ms Pc) (PostOf Qc mc ms free) (vx_Post XC mc ms free) := by
  obtain ⟨hrc, hrs, hfr, hlo, hws, hcw, -, hini, -⟩ := cb
  exact vx_back (bytes := bytes) (maxL := maxL) (ret := ret) hM hbl hrc hrs hfr hlo hws hcw (fun a' U hW => word_at hW (Or.inl (by first | rfl | simp [Cond.onTables, Cond.keeps, Cond.steady])) hini)
theorem vx_runV (S : CallFix p m c cc nL s args Ts own) (hM : vx_Met l y ws rm Pc Qc XC mc ms free) (cw : CallW R s args own C index y bytes maxL ret ws rm mc ms n) (hp : PreV s H C b Pc As)
    (hg : g.method = m) (hn : As.length = n) (hsize : g.locals.size = nL) (hstack : g.stack = As.reverse ++ .ref b :: rest) (hW : 2 * g.monitorRoom + (rest.map fun v => v.category).sum ≤ 8) (hdg : decode cc g.pc = .ok (.invokevirtual index, 3)) (hf : cells + mc ≤ R.cells ∧ slots + ms ≤ R.slots) :
    vx_Run p l e R s m args below meth c H locs cells slots mc ms g rest (Qc (Value.ref b :: As).toArray) XC free := by
  have hK : vx_Back l R p e below s args y 3 8 (PreOf R mc ms Pc) (PostOf Qc mc ms free) (vx_Post XC mc ms free) := vx_callBack cw.1 hM hp.1
  obtain ⟨⟨-, -, -, -, -, -, hcode, -, hy, hlen, hl⟩, hin, hse⟩ := cw
  obtain ⟨hx, hb, hml, ho, -⟩ := S
  obtain ⟨-, ⟨cellB, hcB, hoB, hclB⟩, hPc⟩ := hp
  intro T hT X
  rcases vx_callV X hx (C := C) (bytes := bytes) (maxL := maxL) (ret := ret) ho hl hin hse hcode hy hK (by rw [hT]; exact hcB) hoB hclB hg (hsize.trans hml.symm) (argsL := As) (rest := rest) (fun sig h => hn.trans (hlen sig h)) hstack hW (by rw [hb]; exact hdg)
    (fun vm₁ hW₁ => ⟨hf.1, hf.2, hPc (T.setVm vm₁) hT hW₁⟩) with ⟨v, vm₁, ⟨U', l2, c2, s2⟩, hW₁, X', ⟨g', mk, t, L, e1, e2, hq, h1, hL, h2, h3⟩, st⟩ | ⟨q, vm₁, ⟨U', l2, c2, s2⟩, hW₁, X', ⟨g', mk, t, L, E, ce, e1, e2, hq, hce, hcv, hcl, h1, hL, h2, h3⟩, st⟩
  · dsimp only [Pt.U, Pt.locs, Pt.cells, Pt.slots] at X' e1 e2 h1 h2 h3 st
    subst h1; subst h2; subst h3
    exact Or.inl ⟨v, (T.setVm vm₁).calling g' mk (Value.ref b :: As).toArray, t, U', L, hT, X', hL, e1, e2, hq, st⟩
  · dsimp only [Pt.U, Pt.locs, Pt.cells, Pt.slots] at X' e1 e2 h1 h2 h3 st hcl
    subst h1; subst h2; subst h3
    exact Or.inr ⟨q, (T.setVm vm₁).calling g' mk (Value.ref b :: As).toArray, t, U', L, E, ce, hT, X', hL, e1, e2, hq, hce, hcv, vx_cls hW₁ hcl, st⟩
theorem vx_runS (S : CallFix p m c cc nL s args Ts own) (hM : vx_Met l y ws rm Pc Qc XC mc ms free) (cw : CallB R s args own index y bytes maxL ret ws rm mc ms n ∧ (Cond.static y).before args s = true) (hp : PreS s H Pc As)
    (hg : g.method = m) (hn : As.length = n) (hsize : g.locals.size = nL) (hstack : g.stack = As.reverse ++ rest) (hW : 2 * g.monitorRoom + (rest.map fun v => v.category).sum ≤ 8) (hdg : decode cc g.pc = .ok (.invokestatic index, 3)) (hf : cells + mc ≤ R.cells ∧ slots + ms ≤ R.slots) :
    vx_Run p l e R s m args below meth c H locs cells slots mc ms g rest (Qc As.toArray) XC free := by
  have hK : vx_Back l R p e below s args y 3 8 (PreOf R mc ms Pc) (PostOf Qc mc ms free) (vx_Post XC mc ms free) := vx_callBack cw.1 hM hp.1
  obtain ⟨⟨-, -, -, -, -, -, hcode, hini, hy, hlen, hl⟩, hstt⟩ := cw
  obtain ⟨hx, hb, hml, ho, -⟩ := S
  intro T hT X
  rcases vx_callS X hx (bytes := bytes) (maxL := maxL) (ret := ret) ho hl hstt hini hcode hy hK hg (hsize.trans hml.symm) (argsL := As) (rest := rest) (fun sig h => hn.trans (hlen sig h)) hstack hW (by rw [hb]; exact hdg)
    (fun vm₁ hW₁ => ⟨hf.1, hf.2, hp.2 (T.setVm vm₁) hT hW₁⟩) with ⟨v, vm₁, ⟨U', l2, c2, s2⟩, hW₁, X', ⟨g', mk, t, L, e1, e2, hq, h1, hL, h2, h3⟩, st⟩ | ⟨q, vm₁, ⟨U', l2, c2, s2⟩, hW₁, X', ⟨g', mk, t, L, E, ce, e1, e2, hq, hce, hcv, hcl, h1, hL, h2, h3⟩, st⟩
  · dsimp only [Pt.U, Pt.locs, Pt.cells, Pt.slots] at X' e1 e2 h1 h2 h3 st
    subst h1; subst h2; subst h3
    exact Or.inl ⟨v, (T.setVm vm₁).calling g' mk As.toArray, t, U', L, hT, X', hL, e1, e2, hq, st⟩
  · dsimp only [Pt.U, Pt.locs, Pt.cells, Pt.slots] at X' e1 e2 h1 h2 h3 st hcl
    subst h1; subst h2; subst h3
    exact Or.inr ⟨q, (T.setVm vm₁).calling g' mk As.toArray, t, U', L, E, ce, hT, X', hL, e1, e2, hq, hce, hcv, vx_cls hW₁ hcl, st⟩
end Runs
section Rows
variable {p : Program} {l : Launch} {e : Env} {R : Room} {s : State} {m : MethodId} {args : Array Value} {below : List Frame} {meth : Method} {c : Code} {H : Heap} {locs : List Loc} {cells slots : Nat} {Q : State → Prop}
variable {mc ms : Nat} {free : Addr → Prop} {A0 A1 : Nat → Prop} {H0 : Heap} {a : Array Value} {pc : Nat} {ls : Array Slot} {st0 rest : List Value}
theorem vx_keep {st₀ t T' : State} {L : List Loc} (h0 : st₀.heap = H) (e1 : T'.heap = t.heap) (hS : va_S A0 H0 H locs) (hA : ∀ q, q < H.size → A1 q → A0 q) (hf : ∀ q, free q → A0 q) (hL : ∀ q ∈ L, free q.base) (hF : va_F A1 st₀ t) :
    H.size ≤ T'.heap.size ∧ (∀ q : Nat, q < H.size → ¬ A1 q → T'.heap[q]? = H[q]?) ∧ va_S A0 H0 T'.heap (locs ++ L) := by
  obtain ⟨hz, hk⟩ := hF
  rw [h0] at hz hk
  exact ⟨by rw [e1]; exact hz, fun q h1 h2 => by rw [e1]; exact hk q h1 h2,
    ⟨Nat.le_trans hS.1 (by rw [e1]; exact hz), fun q h1 h2 => by rw [e1, hk q (Nat.lt_of_lt_of_le h1 hS.1) (fun z => h2 (hA q (Nat.lt_of_lt_of_le h1 hS.1) z))]; exact hS.2.1 q h1 h2, fun q hq => by
      rcases List.mem_append.mp hq with h | h
      · exact hS.2.2 q h
      · exact hf _ (hL q h)⟩⟩
theorem vx_calli {S SX : Type} {post : Int32 → S → Prop} {px : SX → Prop} {B : S → State → Prop} {BX : String → SX → State → Prop} {AX : Nat → Prop} (hr : vx_Run p l e R s m args below meth c H locs cells slots mc ms (F0 m pc ls st0) rest (va_Qi post B A1 a) (vx_X px BX AX) free) (hS : va_S A0 H0 H locs) (hA : ∀ q, q < H.size → A1 q → A0 q) (hf : ∀ q, free q → A0 q) (hAX : ∀ q, q < H.size → AX q → A0 q)
    (kx : ∀ (E : String) (ce : Cell) (q9 : Addr) (u : SX) (t : State) (H1 : Heap) (locs1 : List Loc), t.heap = H1 → s.vm.Alike t.vm → px u → BX E u t → H.size ≤ H1.size → (∀ q : Nat, q < H.size → ¬ AX q → H1[q]? = H[q]?) → va_S A0 H0 H1 locs1 → H1[q9]? = some ce → ce.vm = .none → s.vm.findClass E = some ce.cls → vx_W p l e R s m args below meth c H1 locs1 (cells + mc) (slots + ms) Q (F0 m pc ls rest) q9)
    (kk : ∀ (r : Int32) (u : S) (t : State) (H1 : Heap) (locs1 : List Loc), t.heap = H1 → s.vm.Alike t.vm → post r u → B u t → H.size ≤ H1.size → (∀ q : Nat, q < H.size → ¬ A1 q → H1[q]? = H[q]?) → va_S A0 H0 H1 locs1 → W p l e R s m args below meth c H1 locs1 (cells + mc) (slots + ms) Q (F0 m (pc + 3) ls (.int r :: rest))) : W p l e R s m args below meth c H locs cells slots Q (F0 m pc ls st0) := by
  intro T hT X
  rcases hr T hT X with ⟨v, st₀, t, T', L, h0, X', hL, e1, e2, ⟨⟨r, u, hv, hp, hb⟩, hF⟩, st⟩ | ⟨q, st₀, t, T', L, E, ce, h0, X', hL, e1, e2, ⟨u, hp, hb, hF⟩, hce, hcv, hcl, st⟩
  · cases hv
    obtain ⟨k1, k2, k3⟩ := vx_keep h0 e1 hS hA hf hL hF
    obtain ⟨t2, a1, b1⟩ := kk r u t T'.heap (locs ++ L) e1.symm (by rw [← e2]; exact X'.warmed.alike) hp hb k1 k2 k3 T' rfl X'
    exact ⟨t2, st t2 a1, b1⟩
  · obtain ⟨k1, k2, k3⟩ := vx_keep h0 e1 hS hAX hf hL hF
    obtain ⟨t2, a1, b1⟩ := kx E ce q u t T'.heap (locs ++ L) e1.symm (by rw [← e2]; exact X'.warmed.alike) hp hb k1 k2 k3 (by rw [e1]; exact hce) hcv hcl T' rfl X'
    exact ⟨t2, st.trans a1, b1⟩
theorem vx_calll {S SX : Type} {post : Int64 → S → Prop} {px : SX → Prop} {B : S → State → Prop} {BX : String → SX → State → Prop} {AX : Nat → Prop} (hr : vx_Run p l e R s m args below meth c H locs cells slots mc ms (F0 m pc ls st0) rest (va_Ql post B A1 a) (vx_X px BX AX) free) (hS : va_S A0 H0 H locs) (hA : ∀ q, q < H.size → A1 q → A0 q) (hf : ∀ q, free q → A0 q) (hAX : ∀ q, q < H.size → AX q → A0 q)
    (kx : ∀ (E : String) (ce : Cell) (q9 : Addr) (u : SX) (t : State) (H1 : Heap) (locs1 : List Loc), t.heap = H1 → s.vm.Alike t.vm → px u → BX E u t → H.size ≤ H1.size → (∀ q : Nat, q < H.size → ¬ AX q → H1[q]? = H[q]?) → va_S A0 H0 H1 locs1 → H1[q9]? = some ce → ce.vm = .none → s.vm.findClass E = some ce.cls → vx_W p l e R s m args below meth c H1 locs1 (cells + mc) (slots + ms) Q (F0 m pc ls rest) q9)
    (kk : ∀ (r : Int64) (u : S) (t : State) (H1 : Heap) (locs1 : List Loc), t.heap = H1 → s.vm.Alike t.vm → post r u → B u t → H.size ≤ H1.size → (∀ q : Nat, q < H.size → ¬ A1 q → H1[q]? = H[q]?) → va_S A0 H0 H1 locs1 → W p l e R s m args below meth c H1 locs1 (cells + mc) (slots + ms) Q (F0 m (pc + 3) ls (.long r :: rest))) : W p l e R s m args below meth c H locs cells slots Q (F0 m pc ls st0) := by
  intro T hT X
  rcases hr T hT X with ⟨v, st₀, t, T', L, h0, X', hL, e1, e2, ⟨⟨r, u, hv, hp, hb⟩, hF⟩, st⟩ | ⟨q, st₀, t, T', L, E, ce, h0, X', hL, e1, e2, ⟨u, hp, hb, hF⟩, hce, hcv, hcl, st⟩
  · cases hv
    obtain ⟨k1, k2, k3⟩ := vx_keep h0 e1 hS hA hf hL hF
    obtain ⟨t2, a1, b1⟩ := kk r u t T'.heap (locs ++ L) e1.symm (by rw [← e2]; exact X'.warmed.alike) hp hb k1 k2 k3 T' rfl X'
    exact ⟨t2, st t2 a1, b1⟩
  · obtain ⟨k1, k2, k3⟩ := vx_keep h0 e1 hS hAX hf hL hF
    obtain ⟨t2, a1, b1⟩ := kx E ce q u t T'.heap (locs ++ L) e1.symm (by rw [← e2]; exact X'.warmed.alike) hp hb k1 k2 k3 (by rw [e1]; exact hce) hcv hcl T' rfl X'
    exact ⟨t2, st.trans a1, b1⟩
theorem vx_callf {S SX : Type} {post : UInt32 → S → Prop} {px : SX → Prop} {B : S → State → Prop} {BX : String → SX → State → Prop} {AX : Nat → Prop} (hr : vx_Run p l e R s m args below meth c H locs cells slots mc ms (F0 m pc ls st0) rest (va_Qf post B A1 a) (vx_X px BX AX) free) (hS : va_S A0 H0 H locs) (hA : ∀ q, q < H.size → A1 q → A0 q) (hf : ∀ q, free q → A0 q) (hAX : ∀ q, q < H.size → AX q → A0 q)
    (kx : ∀ (E : String) (ce : Cell) (q9 : Addr) (u : SX) (t : State) (H1 : Heap) (locs1 : List Loc), t.heap = H1 → s.vm.Alike t.vm → px u → BX E u t → H.size ≤ H1.size → (∀ q : Nat, q < H.size → ¬ AX q → H1[q]? = H[q]?) → va_S A0 H0 H1 locs1 → H1[q9]? = some ce → ce.vm = .none → s.vm.findClass E = some ce.cls → vx_W p l e R s m args below meth c H1 locs1 (cells + mc) (slots + ms) Q (F0 m pc ls rest) q9)
    (kk : ∀ (r : UInt32) (u : S) (t : State) (H1 : Heap) (locs1 : List Loc), t.heap = H1 → s.vm.Alike t.vm → post r u → B u t → H.size ≤ H1.size → (∀ q : Nat, q < H.size → ¬ A1 q → H1[q]? = H[q]?) → va_S A0 H0 H1 locs1 → W p l e R s m args below meth c H1 locs1 (cells + mc) (slots + ms) Q (F0 m (pc + 3) ls (.float r :: rest))) : W p l e R s m args below meth c H locs cells slots Q (F0 m pc ls st0) := by
  intro T hT X
  rcases hr T hT X with ⟨v, st₀, t, T', L, h0, X', hL, e1, e2, ⟨⟨r, u, hv, hp, hb⟩, hF⟩, st⟩ | ⟨q, st₀, t, T', L, E, ce, h0, X', hL, e1, e2, ⟨u, hp, hb, hF⟩, hce, hcv, hcl, st⟩
  · cases hv
    obtain ⟨k1, k2, k3⟩ := vx_keep h0 e1 hS hA hf hL hF
    obtain ⟨t2, a1, b1⟩ := kk r u t T'.heap (locs ++ L) e1.symm (by rw [← e2]; exact X'.warmed.alike) hp hb k1 k2 k3 T' rfl X'
    exact ⟨t2, st t2 a1, b1⟩
  · obtain ⟨k1, k2, k3⟩ := vx_keep h0 e1 hS hAX hf hL hF
    obtain ⟨t2, a1, b1⟩ := kx E ce q u t T'.heap (locs ++ L) e1.symm (by rw [← e2]; exact X'.warmed.alike) hp hb k1 k2 k3 (by rw [e1]; exact hce) hcv hcl T' rfl X'
    exact ⟨t2, st.trans a1, b1⟩
theorem vx_calld {S SX : Type} {post : UInt64 → S → Prop} {px : SX → Prop} {B : S → State → Prop} {BX : String → SX → State → Prop} {AX : Nat → Prop} (hr : vx_Run p l e R s m args below meth c H locs cells slots mc ms (F0 m pc ls st0) rest (va_Qd post B A1 a) (vx_X px BX AX) free) (hS : va_S A0 H0 H locs) (hA : ∀ q, q < H.size → A1 q → A0 q) (hf : ∀ q, free q → A0 q) (hAX : ∀ q, q < H.size → AX q → A0 q)
    (kx : ∀ (E : String) (ce : Cell) (q9 : Addr) (u : SX) (t : State) (H1 : Heap) (locs1 : List Loc), t.heap = H1 → s.vm.Alike t.vm → px u → BX E u t → H.size ≤ H1.size → (∀ q : Nat, q < H.size → ¬ AX q → H1[q]? = H[q]?) → va_S A0 H0 H1 locs1 → H1[q9]? = some ce → ce.vm = .none → s.vm.findClass E = some ce.cls → vx_W p l e R s m args below meth c H1 locs1 (cells + mc) (slots + ms) Q (F0 m pc ls rest) q9)
    (kk : ∀ (r : UInt64) (u : S) (t : State) (H1 : Heap) (locs1 : List Loc), t.heap = H1 → s.vm.Alike t.vm → post r u → B u t → H.size ≤ H1.size → (∀ q : Nat, q < H.size → ¬ A1 q → H1[q]? = H[q]?) → va_S A0 H0 H1 locs1 → W p l e R s m args below meth c H1 locs1 (cells + mc) (slots + ms) Q (F0 m (pc + 3) ls (.double r :: rest))) : W p l e R s m args below meth c H locs cells slots Q (F0 m pc ls st0) := by
  intro T hT X
  rcases hr T hT X with ⟨v, st₀, t, T', L, h0, X', hL, e1, e2, ⟨⟨r, u, hv, hp, hb⟩, hF⟩, st⟩ | ⟨q, st₀, t, T', L, E, ce, h0, X', hL, e1, e2, ⟨u, hp, hb, hF⟩, hce, hcv, hcl, st⟩
  · cases hv
    obtain ⟨k1, k2, k3⟩ := vx_keep h0 e1 hS hA hf hL hF
    obtain ⟨t2, a1, b1⟩ := kk r u t T'.heap (locs ++ L) e1.symm (by rw [← e2]; exact X'.warmed.alike) hp hb k1 k2 k3 T' rfl X'
    exact ⟨t2, st t2 a1, b1⟩
  · obtain ⟨k1, k2, k3⟩ := vx_keep h0 e1 hS hAX hf hL hF
    obtain ⟨t2, a1, b1⟩ := kx E ce q u t T'.heap (locs ++ L) e1.symm (by rw [← e2]; exact X'.warmed.alike) hp hb k1 k2 k3 (by rw [e1]; exact hce) hcv hcl T' rfl X'
    exact ⟨t2, st.trans a1, b1⟩
theorem vx_callv {S SX : Type} {post : S → Prop} {px : SX → Prop} {B : S → State → Prop} {BX : String → SX → State → Prop} {AX : Nat → Prop} (hr : vx_Run p l e R s m args below meth c H locs cells slots mc ms (F0 m pc ls st0) rest (va_Qv post B A1 a) (vx_X px BX AX) free) (hS : va_S A0 H0 H locs) (hA : ∀ q, q < H.size → A1 q → A0 q) (hf : ∀ q, free q → A0 q) (hAX : ∀ q, q < H.size → AX q → A0 q)
    (kx : ∀ (E : String) (ce : Cell) (q9 : Addr) (u : SX) (t : State) (H1 : Heap) (locs1 : List Loc), t.heap = H1 → s.vm.Alike t.vm → px u → BX E u t → H.size ≤ H1.size → (∀ q : Nat, q < H.size → ¬ AX q → H1[q]? = H[q]?) → va_S A0 H0 H1 locs1 → H1[q9]? = some ce → ce.vm = .none → s.vm.findClass E = some ce.cls → vx_W p l e R s m args below meth c H1 locs1 (cells + mc) (slots + ms) Q (F0 m pc ls rest) q9)
    (kk : ∀ (u : S) (t : State) (H1 : Heap) (locs1 : List Loc), t.heap = H1 → s.vm.Alike t.vm → post u → B u t → H.size ≤ H1.size → (∀ q : Nat, q < H.size → ¬ A1 q → H1[q]? = H[q]?) → va_S A0 H0 H1 locs1 → W p l e R s m args below meth c H1 locs1 (cells + mc) (slots + ms) Q (F0 m (pc + 3) ls (rest))) : W p l e R s m args below meth c H locs cells slots Q (F0 m pc ls st0) := by
  intro T hT X
  rcases hr T hT X with ⟨v, st₀, t, T', L, h0, X', hL, e1, e2, ⟨⟨u, hv, hp, hb⟩, hF⟩, st⟩ | ⟨q, st₀, t, T', L, E, ce, h0, X', hL, e1, e2, ⟨u, hp, hb, hF⟩, hce, hcv, hcl, st⟩
  · cases hv
    obtain ⟨k1, k2, k3⟩ := vx_keep h0 e1 hS hA hf hL hF
    obtain ⟨t2, a1, b1⟩ := kk u t T'.heap (locs ++ L) e1.symm (by rw [← e2]; exact X'.warmed.alike) hp hb k1 k2 k3 T' rfl X'
    exact ⟨t2, st t2 a1, b1⟩
  · obtain ⟨k1, k2, k3⟩ := vx_keep h0 e1 hS hAX hf hL hF
    obtain ⟨t2, a1, b1⟩ := kx E ce q u t T'.heap (locs ++ L) e1.symm (by rw [← e2]; exact X'.warmed.alike) hp hb k1 k2 k3 (by rw [e1]; exact hce) hcv hcl T' rfl X'
    exact ⟨t2, st.trans a1, b1⟩
/-- caught by the row x of this method's table; the rows ahead don't take it -/
theorem vx_catch {own name : String} {E : String} {ce : Cell} {q : Addr} (hown : s.vm.findClass own = some m.cls) (pre : List ExceptionTableEntry) (x : ExceptionTableEntry) (suf : List ExceptionTableEntry) (hsplit : c.exceptionTable.toList = pre ++ x :: suf)
    (hpass : ∀ z ∈ pre, covers z pc = false ∨ (z.catchType ≠ 0 ∧ ∃ nm : String, (Cond.classLink own z.catchType nm).before args s = true ∧ va_Nc E nm s)) (hx : covers x pc = true) (h0 : x.catchType ≠ 0)
    (hlink : (Cond.classLink own x.catchType name).before args s = true) (hcast : (Cond.castable E name).before args s = true) (hcell : H[q]? = some ce) (hv : ce.vm = .none) (hcl : s.vm.findClass E = some ce.cls)
    (kk : W p l e R s m args below meth c H locs cells slots Q (F0 m x.handlerPc ls [.ref q])) : vx_W p l e R s m args below meth c H locs cells slots Q (F0 m pc ls rest) q := by
  intro T hT X
  have hpl : e.platform.magicAccessors = ({} : Platform).magicAccessors := by rw [X.admits.platform]
  obtain ⟨c3, c4, hc3, hc4, hasg⟩ := Cond.castable_spec hcast
  cases Option.some.inj (hc3.symm.trans hcl)
  obtain ⟨c5, hc5, hcl5⟩ := Cond.classLink_spec hown hlink e.platform hpl
  cases Option.some.inj (hc4.symm.trans hc5)
  obtain ⟨vm', X', st⟩ := kh_stand X q (g := F0 m pc ls rest) rfl (by rw [hT]; exact hcell) (by rw [hv]; rfl) (by obtain ⟨k9, h9, -⟩ := Vm.findClass_spec hcl; exact ⟨k9, h9⟩) pre x suf hsplit
    (fun z hz => by
      rcases hpass z hz with h | ⟨hz0, nm, hl1, hn1⟩
      · exact Or.inl h
      · obtain ⟨c6, hc6, hcl6⟩ := Cond.classLink_spec hown hl1 e.platform hpl
        obtain ⟨a8, b8, h1, h2, h3⟩ := hn1
        cases Option.some.inj (h1.symm.trans hcl)
        cases Option.some.inj (h2.symm.trans hc6)
        exact Or.inr ⟨hz0, _, hcl6, h3⟩) hx h0 hcl5 hasg
  obtain ⟨t, a1, b1⟩ := kk (T.setVm vm') hT X'
  exact ⟨t, st.trans a1, b1⟩
end Rows
section Ends
variable {p : Program} {l : Launch} {e : Env} {R : Room} {s : State} {m : MethodId} {args : Array Value} {below : List Frame} {meth : Method} {c : Code} {H : Heap} {locs : List Loc} {cells slots : Nat} {Q : State → Prop}
variable {mc ms : Nat} {free : Addr → Prop} {A0 A1 : Nat → Prop} {H0 : Heap} {a : Array Value} {ls : Array Slot} {st0 rest : List Value}
variable {Qc : Array Value → State → Outcome → State → Prop} {XC : String → State → State → Prop}
/-- what a body that may throw owes at its end -/
def vx_MQ (below : List Frame) (Qc : Array Value → State → Outcome → State → Prop) (XC : String → State → State → Prop) (a : Array Value) (s : State) (mc ms : Nat) (free : Addr → Prop) : State → Prop := fun t =>
  ∃ o, t.status = .running ∧ Ended t below o ∧ vx_Q Qc XC mc ms free a s o t
theorem vx_ret {g : JFrame} {mc ms : Nat} (k : W p l e R s m args below meth c H locs cells slots (MQ below Qc args s mc ms free) g) : W p l e R s m args below meth c H locs cells slots (vx_MQ below Qc XC args s mc ms free) g := by
  intro T hT X
  obtain ⟨t, a1, o, b1, b2, b3, b4⟩ := k T hT X
  exact ⟨t, a1, o, b1, b2, Or.inl ⟨b3, b4⟩⟩
/-- not caught here: it goes on to the caller -/
theorem vx_widen {g : JFrame} {q : Addr} {k n : Nat} (h1 : cells ≤ k) (h2 : slots ≤ n) (kk : vx_W p l e R s m args below meth c H locs k n Q g q) : vx_W p l e R s m args below meth c H locs cells slots Q g q := fun T hT X => kk T hT (stand_widen X h1 h2)
theorem vx_out {pc : Nat} {E : String} {ce : Cell} {q : Addr} {mc ms : Nat} (hout : ∀ x ∈ c.exceptionTable.toList, covers x pc = false) (hlocks : meth.locks = false) (hcell : H[q]? = some ce) (hv : ce.vm = .none) (hcl : s.vm.findClass E = some ce.cls)
    (hx : ∀ t : State, t.heap = H → s.vm.Alike t.vm → XC E s t) (hf : ∀ z ∈ locs, free z.base) (hc : cells ≤ mc) (hs : slots ≤ ms) :
    vx_W p l e R s m args below meth c H locs cells slots (vx_MQ below Qc XC args s mc ms free) (F0 m pc ls rest) q := by
  intro T hT X
  obtain ⟨st1, hrun, hend, hW, hsm⟩ := X.leaveThrown q (g := F0 m pc ls rest) rfl rfl rfl hout hlocks
  have hcell9 : (T.setFrames (.throwing q :: below)).heap[q]? = some ce := by
    show T.heap[q]? = some ce
    rw [hT]; exact hcell
  exact ⟨_, st1, .threw q, hrun, hend, Or.inr ⟨q, rfl, E, ce, locs, hx _ hT hW.alike, hcell9, hv, hcl, hW, hsm.mono hc hs, hf⟩⟩
theorem vx_frame {U : State} {k n : Nat} (h : s.sameButNew ({ U with vm := s.vm } : State) locs k n) : s.heap.size ≤ U.heap.size ∧ ∀ q : Nat, q < s.heap.size → (∀ z ∈ locs, z.base ≠ q) → U.heap[q]? = s.heap[q]? := by
  obtain ⟨-, h2, -, -, -, h6⟩ := h
  refine ⟨h2, fun q hq hz => ?_⟩
  obtain ⟨c9, e1, e2, e3, e4⟩ := h6 q _ (Array.getElem?_eq_getElem hq)
  have hs : c9.slots = (s.heap[q]).slots := Array.ext_getElem? fun i => e4 i fun hm => hz _ hm rfl
  have h9 : c9 = s.heap[q] := by
    rw [hs] at e2
    exact e2
  have e5 : U.heap[q]? = some c9 := e1
  rw [e5, h9, Array.getElem?_eq_getElem hq]
/-- the words of a throw but the four that speak of the heap -/
def vx_no (w : Cond) : Bool := decide (w ≠ .isRef (.static Bundle.tN "UNASSIGNED_STACK" Bundle.steD)) && decide (w ≠ .isRef (.static Bundle.tN "SUPPRESSED_SENTINEL" Bundle.listD)) && decide (w ≠ .laysStatic Bundle.tN "UNASSIGNED_STACK" Bundle.steD) && decide (w ≠ .laysStatic Bundle.tN "SUPPRESSED_SENTINEL" Bundle.listD)
def vx_at0 (own : String) (ic : Nat) (X : String) (names : List String) : List Cond := (Bundle.ownAtoms0 own ic X names).filter vx_no
def vx_atS (own : String) (ic : Nat) (X : String) (names : List String) : List Cond := (Bundle.ownAtoms own ic X names).filter vx_no
/-- a word that the tables alone decide, or a good one -/
def vx_ot (w : Cond) : Bool := w.onTables || goodWord w
theorem vx_ot_at {args a' : Array Value} {s U : State} {w : Cond} (hW : s.WarmedH U.vm) (hvm : s.vm = U.vm) (hg : vx_ot w = true) (h : w.before args s = true) : w.before a' U = true := by
  simp only [vx_ot, Bool.or_eq_true] at hg
  rcases hg with hg | hg
  · exact va_tabs hg hvm h
  · exact word_at hW (good_of_word hg) h
/-- a list's words: the good ones out of the method's own list, the others by premises of their own -/
theorem vx_hat {args : Array Value} {s : State} {L B : List Cond} (h1 : ∀ w ∈ L.filter goodWord, w.before args s = true) (h2 : ∀ w ∈ L.filter (fun w => !goodWord w), w ∈ B) (h3 : ∀ w ∈ B, w.before args s = true) : ∀ w ∈ L, w.before args s = true := by
  intro w hw
  by_cases g : goodWord w = true
  · exact h1 w (List.mem_filter.mpr ⟨hw, g⟩)
  · refine h3 w (h2 w (List.mem_filter.mpr ⟨hw, ?_⟩))
    show (!goodWord w) = true
    cases hgw : goodWord w
    · rfl
    · exact absurd hgw g
theorem vx_c {args : Array Value} {s : State} {w : Cond} {B : List Cond} (h : w.before args s = true) (t : ∀ w ∈ B, w.before args s = true) : ∀ w' ∈ w :: B, w'.before args s = true := fun w' h' => (List.mem_cons.mp h').elim (fun e => by rw [e]; exact h) (t w')
theorem vx_n {args : Array Value} {s : State} : ∀ w ∈ ([] : List Cond), w.before args s = true := fun _ h => nomatch h
theorem vx_own {args : Array Value} {s : State} {L : List Cond} (h1 : ∀ w ∈ L.filter vx_no, w.before args s = true)
    (hU : (Cond.isRef (.static Bundle.tN "UNASSIGNED_STACK" Bundle.steD)).before args s = true) (hN : (Cond.isRef (.static Bundle.tN "SUPPRESSED_SENTINEL" Bundle.listD)).before args s = true)
    (lU : (Cond.laysStatic Bundle.tN "UNASSIGNED_STACK" Bundle.steD).before args s = true) (lN : (Cond.laysStatic Bundle.tN "SUPPRESSED_SENTINEL" Bundle.listD).before args s = true) : ∀ w ∈ L, w.before args s = true := by
  intro w hw
  by_cases e1 : w = .isRef (.static Bundle.tN "UNASSIGNED_STACK" Bundle.steD)
  · rw [e1]; exact hU
  · by_cases e2 : w = .isRef (.static Bundle.tN "SUPPRESSED_SENTINEL" Bundle.listD)
    · rw [e2]; exact hN
    · by_cases e3 : w = .laysStatic Bundle.tN "UNASSIGNED_STACK" Bundle.steD
      · rw [e3]; exact lU
      · by_cases e4 : w = .laysStatic Bundle.tN "SUPPRESSED_SENTINEL" Bundle.listD
        · rw [e4]; exact lN
        · exact h1 w (List.mem_filter.mpr ⟨hw, by unfold vx_no; rw [decide_eq_true e1, decide_eq_true e2, decide_eq_true e3, decide_eq_true e4]; rfl⟩)
/-- where a static field lies, its class's statics cell in H -/
def vx_L (C n d : String) (A : Nat → Prop) (U : State) (H : Heap) : Prop := ∃ (c : ClassId) (k : Class) (i : Nat) (f : Field) (a : Nat) (cell : Cell), U.vm.findClass C = some c ∧ U.fieldFound? C n d = some (c, k, i, f) ∧ f.isStatic = true ∧ k.statics = some a ∧ H[a]? = some cell ∧ cell.vm.isStatics = true ∧ cell.cls = c ∧ f.slot < cell.slots.size ∧ k.staticTypes[f.slot]? = some f.type ∧ ¬ A a
theorem vx_L.moved {C n d : String} {A : Nat → Prop} {u U : State} {H : Heap} (hvm : u.vm.Alike U.vm) (h : vx_L C n d A u H) : vx_L C n d A U H := by
  obtain ⟨c, k, i, f, a, cell, h1, h2, h3, h4, h5, h6, h7, h8, h9, h10⟩ := h
  obtain ⟨k', hi', he⟩ := State.fieldFound?_setVm hvm h2
  exact ⟨c, k', i, f, a, cell, by rw [hvm.findClass]; exact h1, hi', h3, by rw [he]; exact h4, h5, h6, h7, h8, by rw [he]; exact h9, h10⟩
theorem vx_L.kept {C n d : String} {A : Nat → Prop} {U : State} {H H1 : Heap} (h : vx_L C n d A U H) (hq : ∀ a : Nat, a < H.size → ¬ A a → H1[a]? = H[a]?) : vx_L C n d A U H1 := by
  obtain ⟨c, k, i, f, a, cell, h1, h2, h3, h4, h5, h6, h7, h8, h9, h10⟩ := h
  exact ⟨c, k, i, f, a, cell, h1, h2, h3, h4, by rw [hq a (Array.getElem?_eq_some_iff.mp h5).1 h10]; exact h5, h6, h7, h8, h9, h10⟩
theorem vx_L.narrow {C n d : String} {A B : Nat → Prop} {U : State} {H : Heap} (h : vx_L C n d A U H) (hAB : ∀ q, B q → A q) : vx_L C n d B U H := by
  obtain ⟨c, k, i, f, a, cell, h1, h2, h3, h4, h5, h6, h7, h8, h9, h10⟩ := h
  exact ⟨c, k, i, f, a, cell, h1, h2, h3, h4, h5, h6, h7, h8, h9, fun z => h10 (hAB _ z)⟩
theorem vx_L.word {C n d : String} {A : Nat → Prop} {s : State} {args : Array Value} (h : vx_L C n d A s s.heap) : (Cond.laysStatic C n d).before args s = true := by
  obtain ⟨c, k, i, f, a, cell, h1, h2, h3, h4, h5, h6, h7, h8, h9, -⟩ := h
  show (Cond.laysStatic C n d).holds args s none s [] = true
  exact Cond.laysStatic_of h1 h2 h3 h4 h5 h6 h7 h8 h9
/-- .. and what it holds: null or some reference -/
def vx_Zq (C n d : String) (A : Nat → Prop) (U : State) (H : Heap) : Prop := va_Zq C n d A U H ∧ vx_L C n d A U H
theorem vx_Zq.moved {C n d : String} {A : Nat → Prop} {u U : State} {H : Heap} (hvm : u.vm.Alike U.vm) (h : vx_Zq C n d A u H) : vx_Zq C n d A U H := ⟨va_Zq.moved hvm h.1, vx_L.moved hvm h.2⟩
theorem vx_Zq.kept {C n d : String} {A : Nat → Prop} {U : State} {H H1 : Heap} (h : vx_Zq C n d A U H) (hq : ∀ a : Nat, a < H.size → ¬ A a → H1[a]? = H[a]?) : vx_Zq C n d A U H1 := ⟨va_Zq.kept h.1 hq, vx_L.kept h.2 hq⟩
theorem vx_Zq.narrow {C n d : String} {A B : Nat → Prop} {U : State} {H : Heap} (h : vx_Zq C n d A U H) (hAB : ∀ q, B q → A q) : vx_Zq C n d B U H := ⟨va_Zq.narrow h.1 hAB, vx_L.narrow h.2 hAB⟩
theorem vx_Zqof {args : Array Value} {s : State} {C n d : String} {A : Nat → Prop} (hl : (Cond.laysStatic C n d).before args s = true) (hini : (Cond.initialized C).before args s = true) (h : (Cond.isRef (.static C n d)).before args s = true) (hA : ∀ a : Nat, a < s.heap.size → ¬ A a) : vx_Zq C n d A s s.heap := by
  refine ⟨va_Zqof hl hini h hA, ?_⟩
  obtain ⟨c, k, i, f, a, cell, h1, h2, h3, h4, h5, h6, h7, h8, h9⟩ := Cond.laysStatic_spec hl
  exact ⟨c, k, i, f, a, cell, h1, h2, h3, h4, h5, h6, h7, h8, h9, hA a (Array.getElem?_eq_some_iff.mp h5).1⟩
theorem vx_isRef {C n d : String} {v : Value} {A : Nat → Prop} {s : State} {args : Array Value} (h : va_Z C n d v A s s.heap) (hv : v.isRef = true) : (Cond.isRef (.static C n d)).before args s = true := by
  obtain ⟨cf, kf, fi, f, a, cell, h1, h2, h3, h4, h5, h6, h7, -⟩ := h
  have he : (Term.static C n d).eval args s none [] s = some v := by
    simp [Term.eval, State.fieldNamed?, h1, h2, h4, h5, h6, h7]
  simp only [Cond.before, Cond.holds, Cond.value, he]
  cases v <;> simp_all [Value.isRef]
theorem vx_isRefq {C n d : String} {A : Nat → Prop} {s : State} {args : Array Value} (h : va_Zq C n d A s s.heap) : (Cond.isRef (.static C n d)).before args s = true := by
  rcases h with h | ⟨t, h⟩
  · exact vx_isRef h rfl
  · exact vx_isRef h rfl
/-- the same frame, seen from here: as if the method were called anew in this heap -/
theorem vx_rebase {T : State} (X : Stand p l e R s m args below meth c T locs cells slots) {R' : Room} (hf : R'.frames ≤ R.frames) (hl : R'.locals ≤ R.locals) (hc : cells + R'.cells ≤ R.cells) (hs : slots + R'.slots ≤ R.slots) :
    Stand p l e R' ((T.setVm s.vm).setFrames (.invoking m args :: below)) m args below meth c T [] 0 0 := by
  have htop : (T.setVm s.vm).topJava?.isSome := X.here.top
  have hF : ((T.setVm s.vm).setFrames (.invoking m args :: below)).frames = .invoking m args :: below := State.frames_setFrames _ (State.cur_lt_of_top htop)
  obtain ⟨g₀, hg0⟩ := Option.isSome_iff_exists.mp htop
  obtain ⟨r, hr⟩ := State.topJava?_eq_some.mp hg0
  have hl9 : e.platform.stackLimits (T.setVm s.vm).me = e.platform.stackLimits s.me := X.limits
  have hb9 : (T.setVm s.vm).me.stackBytes = s.me.stackBytes := X.bytes
  refine ⟨X.admits, X.cas, X.clock, hF, ?_, X.hears, X.method, X.code, X.here, X.tail, X.warmed, ?_, ?_, ?_⟩
  · have h := X.room
    have hU : ((T.setVm s.vm).setFrames (.invoking m args :: below)).localsInUse = s.localsInUse := by
      rw [State.localsInUse_invoking hF (meth := meth) (c := c) X.method X.code, State.localsInUse_invoking X.frames X.method X.code]
    simp only [State.hasRoom, Bool.and_eq_true, decide_eq_true_eq] at h ⊢
    obtain ⟨⟨⟨⟨h1, h2, h3, h4, h5, h6⟩, h7⟩, h8⟩, h9⟩ := h
    rw [X.frames, List.length_cons] at h2 h3
    have q1 := X.heapSize
    have q2 := X.used
    simp only [hF, hU, List.length_cons, State.stackLimits_setFrames, State.stackBytes_setFrames, hl9, hb9]
    refine ⟨⟨⟨⟨by omega, by omega, by omega, by omega, by omega, h6⟩, ?_⟩, ?_⟩, X.book⟩
    · show T.heap.size + R'.cells ≤ e.platform.maxCells
      omega
    · show T.slotsUsed + R'.slots ≤ e.platform.maxSlots
      omega
  · rw [State.stackLimits_setFrames]; rfl
  · rw [State.stackBytes_setFrames]; rfl
  · refine ⟨?_, Nat.le_refl _, Nat.le_refl _, ?_, ?_, fun a c9 h9 => ⟨c9, h9, rfl, rfl, fun _ _ => rfl⟩⟩
    · obtain ⟨t, ht, -⟩ := State.frames_cons hr
      show T.setVm s.vm = { ((T.setVm s.vm).setFrames (.invoking m args :: below)).setFrames (T.setVm s.vm).frames with heap := T.heap, slotsUsed := T.slotsUsed }
      rw [State.setFrames_setFrames, State.setFrames_self ht]
      rfl
    · show T.slotsUsed = T.slotsUsed + ((T.heap.toList.drop T.heap.size).map (·.slots.size)).sum
      rw [List.drop_eq_nil_of_le (Nat.le_of_eq Array.length_toList)]
      rfl
    · show ((T.heap.toList.drop T.heap.size).map (·.slots.size)).sum ≤ 0
      rw [List.drop_eq_nil_of_le (Nat.le_of_eq Array.length_toList)]
      exact Nat.le_refl _
/-- 'throw new E()': new; dup; invokespecial; athrow -/
theorem vx_throw0 {cc : ByteArray} {pc : Nat} (hexec : p.tables.exec = Jvm.exec) (hb : c.code = cc) (hl : l.stackTraces = false) {own cls : String} {names : List String} {ik ic mc ms : Nat} {A : Nat → Prop}
    (hown : s.vm.findClass own = some m.cls) (hcls : Bundle.fit cls = true) (hnames : ∀ n ∈ names, Bundle.fit n = true)
    (hk : (Cond.classLink own ik cls).before args s = true) (hini : (Cond.initialized cls).before args s = true) (hat : ∀ w ∈ vx_at0 own ic cls names, w.before args s = true)
    (hgood : ∀ w ∈ Cond.classLink own ik cls :: Cond.initialized cls :: vx_at0 own ic cls names, vx_ot w = true)
    (hU : vx_Zq Bundle.tN "UNASSIGNED_STACK" Bundle.steD A s s.heap) (hN : vx_Zq Bundle.tN "SUPPRESSED_SENTINEL" Bundle.listD A s s.heap) (hS : va_S A s.heap H locs) (hsize : ls.size = c.maxLocals)
    (d0 : decode cc pc = .ok (.new ik, 3)) (d3 : decode cc (pc + 3) = .ok (.dup, 1)) (d4 : decode cc (pc + 4) = .ok (.invokespecial ic, 3)) (d7 : decode cc (pc + 7) = .ok (.athrow, 1))
    (hout : ∀ x ∈ c.exceptionTable.toList, covers x (pc + 7) = false)
    (hRframes : names.length + 3 < R.frames) (hRlocals : (rest.map fun v => v.category).sum + (13 * (names.length + 1) + 42) ≤ R.locals) (hRcells : cells + 1 ≤ R.cells) (hRslots : slots + 6 ≤ R.slots) (hlocks : meth.locks = false)
    (hx : ∀ t : State, s.vm.Alike t.vm → H.size ≤ t.heap.size → (∀ q : Nat, q < H.size → t.heap[q]? = H[q]?) → XC cls s t)
    (hf : ∀ z ∈ locs, free z.base) (hc : cells + 1 ≤ mc) (hs : slots + 6 ≤ ms) :
    W p l e R s m args below meth c H locs cells slots (vx_MQ below Qc XC args s mc ms free) (F0 m pc ls rest) := by
  intro T hT X
  have htr : e.platform.stackTraces = false := (show e.platform.stackTraces = l.stackTraces by rw [X.admits.platform]).trans hl
  have Y := vx_rebase X (R' := { frames := R.frames, locals := R.locals, cells := 1, slots := 6 }) (Nat.le_refl _) (Nat.le_refl _) hRcells hRslots
  obtain ⟨s', hA⟩ : ∃ z, z = (T.setVm s.vm).setFrames (.invoking m args :: below) := ⟨_, rfl⟩
  rw [← hA] at Y
  have hvm : s'.vm = s.vm := by rw [hA]; rfl
  have hhp : s'.heap = H := by rw [hA]; exact hT
  have hW0 : s.WarmedH s'.vm := by rw [hvm]; exact State.WarmedH.refl s
  have hat' : ∀ w ∈ vx_at0 own ic cls names, w.before args s' = true := fun w hw => vx_ot_at hW0 hvm.symm (hgood w (List.mem_cons_of_mem _ (List.mem_cons_of_mem _ hw))) (hat w hw)
  have hk' : (Cond.classLink own ik cls).before args s' = true := vx_ot_at hW0 hvm.symm (hgood _ List.mem_cons_self) hk
  have hini' : (Cond.initialized cls).before args s' = true := vx_ot_at hW0 hvm.symm (hgood _ (List.mem_cons_of_mem _ List.mem_cons_self)) hini
  have hU' : vx_Zq Bundle.tN "UNASSIGNED_STACK" Bundle.steD A s' s'.heap := by rw [hhp]; exact vx_Zq.moved hW0.alike (hU.kept hS.2.1)
  have hN' : vx_Zq Bundle.tN "SUPPRESSED_SENTINEL" Bundle.listD A s' s'.heap := by rw [hhp]; exact vx_Zq.moved hW0.alike (hN.kept hS.2.1)
  have h : ∀ w ∈ Bundle.ownAtoms0 own ic cls names, w.before args s' = true := vx_own hat' (vx_isRefq hU'.1) (vx_isRefq hN'.1) hU'.2.word hN'.2.word
  have hown' : s'.vm.findClass own = some m.cls := by rw [hvm]; exact hown
  have hins : (Cond.instantiable cls 6).before args s' = true := h _ (by simp [Bundle.ownAtoms0])
  obtain ⟨vm₁, cX, kX, hfX, hkX, -, -, X₁, st1⟩ := Y.newCold hexec (own := own) (C := cls) (index := ik) (n := 6) hown' hk' hins hini'
    (g := F0 m pc ls rest) rfl (by rw [hb]; exact d0) (Nat.le_refl _) (Nat.le_refl _)
  generalize hT1 : (T.setVm vm₁).pushCell { cls := cX, slots := kX.instanceTypes.map defaultValue, vm := .none } = T1 at X₁ st1
  have hcat : (Value.ref T.heap.size).category = 1 := rfl
  have hcellA : T1.heap[T.heap.size]? = some (freshCell cX kX) := by rw [← hT1]; exact State.heap_pushCell_size _ _
  have d3' : decode c.code (pc + 3) = .ok (.dup, 1) := by rw [hb]; exact d3
  obtain ⟨U, hsteps, hrun, hend, hW, hsame, ce, hce, hO⟩ := X₁.ctorThrow0 hexec htr (own := own) (cls := cls) (names := names) (ic := ic) hown' hcls hnames h (fun x hx => nomatch hx) hfX hkX hcellA (by rw [hhp, hT]; exact Nat.le_refl _)
    (g := { method := m, pc := pc + 4, locals := ls, stack := .ref T.heap.size :: .ref T.heap.size :: rest, locked := none }) rfl hsize rfl rfl (rest := rest) rfl
    (by rw [hb]; exact d4) (by rw [hb]; exact d7) hout hRframes (by simp only [List.map_cons, List.sum_cons, hcat]; omega) hlocks
  obtain ⟨f1, f2⟩ := vx_frame hsame
  rw [hhp] at f1 f2
  have hWs : s.WarmedH U.vm := State.WarmedH.trans hW0 hW
  have hcl : s.vm.findClass cls = some ce.cls := by
    have h9 := hO.cls
    rw [hvm] at h9
    exact h9
  have hall : s.sameButNew ({ U with vm := s.vm } : State) locs mc ms := by
    subst hA
    obtain ⟨e1, e2⟩ := hsame
    rw [State.setFrames_setFrames] at e1
    have h2 : (T.setVm s.vm).sameButNew ({ U with vm := s.vm } : State) [] (0 + 1) (0 + 6) := ⟨e1, e2⟩
    have h3 := X.same.trans h2
    rw [List.append_nil] at h3
    exact h3.mono hc hs
  refine ⟨U, ?_, .threw T.heap.size, hrun, hend, Or.inr ⟨T.heap.size, rfl, cls, ce, locs, hx U hWs.alike f1 (fun q hq => f2 q hq (fun z hz => nomatch hz)), hce, hO.vm, hcl, hWs, hall, hf⟩⟩
  refine st1 _ ?_
  show Steps p.tables e below (T1.setTop { method := m, pc := pc + 3, locals := ls, stack := .ref T.heap.size :: rest, locked := none }) _
  jvm_step X₁.here [X₁.here.top, hexec, d3', Value.category]
  exact hsteps
/-- 'throw new E("text")': new; dup; ldc; invokespecial; athrow -/
theorem vx_throwS {cc : ByteArray} {pc : Nat} (hexec : p.tables.exec = Jvm.exec) (hb : c.code = cc) (hl : l.stackTraces = false) {own cls text : String} {names : List String} {ik is ic mc ms sa : Nat} {A : Nat → Prop}
    (hown : s.vm.findClass own = some m.cls) (hcls : Bundle.fit cls = true) (hnames : ∀ n ∈ names, Bundle.fit n = true)
    (hk : (Cond.classLink own ik cls).before args s = true) (hini : (Cond.initialized cls).before args s = true) (hstr : vk_R own is text sa s) (hat : ∀ w ∈ vx_atS own ic cls names, w.before args s = true)
    (hgood : ∀ w ∈ Cond.classLink own ik cls :: Cond.initialized cls :: vx_atS own ic cls names, vx_ot w = true)
    (hU : vx_Zq Bundle.tN "UNASSIGNED_STACK" Bundle.steD A s s.heap) (hN : vx_Zq Bundle.tN "SUPPRESSED_SENTINEL" Bundle.listD A s s.heap) (hS : va_S A s.heap H locs) (hsize : ls.size = c.maxLocals)
    (d0 : decode cc pc = .ok (.new ik, 3)) (d3 : decode cc (pc + 3) = .ok (.dup, 1)) (d4 : decode cc (pc + 4) = .ok (.ldc is, 2)) (d6 : decode cc (pc + 6) = .ok (.invokespecial ic, 3)) (d9 : decode cc (pc + 9) = .ok (.athrow, 1))
    (hout : ∀ x ∈ c.exceptionTable.toList, covers x (pc + 9) = false)
    (hRframes : names.length + 3 < R.frames) (hRlocals : (rest.map fun v => v.category).sum + (13 * (names.length + 1) + 43) ≤ R.locals) (hRcells : cells + 1 ≤ R.cells) (hRslots : slots + 6 ≤ R.slots) (hlocks : meth.locks = false)
    (hx : ∀ t : State, s.vm.Alike t.vm → H.size ≤ t.heap.size → (∀ q : Nat, q < H.size → t.heap[q]? = H[q]?) → XC cls s t)
    (hf : ∀ z ∈ locs, free z.base) (hc : cells + 1 ≤ mc) (hs : slots + 6 ≤ ms) :
    W p l e R s m args below meth c H locs cells slots (vx_MQ below Qc XC args s mc ms free) (F0 m pc ls rest) := by
  intro T hT X
  have htr : e.platform.stackTraces = false := (show e.platform.stackTraces = l.stackTraces by rw [X.admits.platform]).trans hl
  have Y := vx_rebase X (R' := { frames := R.frames, locals := R.locals, cells := 1, slots := 6 }) (Nat.le_refl _) (Nat.le_refl _) hRcells hRslots
  obtain ⟨s', hA⟩ : ∃ z, z = (T.setVm s.vm).setFrames (.invoking m args :: below) := ⟨_, rfl⟩
  rw [← hA] at Y
  have hvm : s'.vm = s.vm := by rw [hA]; rfl
  have hhp : s'.heap = H := by rw [hA]; exact hT
  have hW0 : s.WarmedH s'.vm := by rw [hvm]; exact State.WarmedH.refl s
  have hat' : ∀ w ∈ vx_atS own ic cls names, w.before args s' = true := fun w hw => vx_ot_at hW0 hvm.symm (hgood w (List.mem_cons_of_mem _ (List.mem_cons_of_mem _ hw))) (hat w hw)
  have hk' : (Cond.classLink own ik cls).before args s' = true := vx_ot_at hW0 hvm.symm (hgood _ List.mem_cons_self) hk
  have hini' : (Cond.initialized cls).before args s' = true := vx_ot_at hW0 hvm.symm (hgood _ (List.mem_cons_of_mem _ List.mem_cons_self)) hini
  have hU' : vx_Zq Bundle.tN "UNASSIGNED_STACK" Bundle.steD A s' s'.heap := by rw [hhp]; exact vx_Zq.moved hW0.alike (hU.kept hS.2.1)
  have hN' : vx_Zq Bundle.tN "SUPPRESSED_SENTINEL" Bundle.listD A s' s'.heap := by rw [hhp]; exact vx_Zq.moved hW0.alike (hN.kept hS.2.1)
  have h : ∀ w ∈ Bundle.ownAtoms own ic cls names, w.before args s' = true := vx_own hat' (vx_isRefq hU'.1) (vx_isRefq hN'.1) hU'.2.word hN'.2.word
  have hown' : s'.vm.findClass own = some m.cls := by rw [hvm]; exact hown
  have hins : (Cond.instantiable cls 6).before args s' = true := h _ (by simp [Bundle.ownAtoms])
  obtain ⟨vm₁, cX, kX, hfX, hkX, -, -, X₁, st1⟩ := Y.newCold hexec (own := own) (C := cls) (index := ik) (n := 6) hown' hk' hins hini'
    (g := F0 m pc ls rest) rfl (by rw [hb]; exact d0) (Nat.le_refl _) (Nat.le_refl _)
  generalize hT1 : (T.setVm vm₁).pushCell { cls := cX, slots := kX.instanceTypes.map defaultValue, vm := .none } = T1 at X₁ st1
  have hcat : (Value.ref T.heap.size).category = 1 := rfl
  have hcellA : T1.heap[T.heap.size]? = some (freshCell cX kX) := by rw [← hT1]; exact State.heap_pushCell_size _ _
  have d3' : decode c.code (pc + 3) = .ok (.dup, 1) := by rw [hb]; exact d3
  have d4' : decode c.code (pc + 4) = .ok (.ldc is, 2) := by rw [hb]; exact d4
  have hstr' : vk_R own is text sa s' := vk_R.warm hW0 hstr
  obtain ⟨U, hsteps, hrun, hend, hW, hsame, ce, hce, hO⟩ := X₁.ctorThrowS hexec htr (own := own) (cls := cls) (names := names) (ic := ic) hown' hcls hnames h (fun x hx => nomatch hx) hfX hkX hcellA (by rw [hhp, hT]; exact Nat.le_refl _) (msg := .ref sa) rfl
    (g := { method := m, pc := pc + 6, locals := ls, stack := .ref sa :: .ref T.heap.size :: .ref T.heap.size :: rest, locked := none }) rfl hsize rfl rfl (rest := rest) rfl
    (by rw [hb]; exact d6) (by rw [hb]; exact d9) hout hRframes (by simp only [List.map_cons, List.sum_cons, hcat]; omega) hlocks
  obtain ⟨f1, f2⟩ := vx_frame hsame
  rw [hhp] at f1 f2
  have hWs : s.WarmedH U.vm := State.WarmedH.trans hW0 hW
  have hcl : s.vm.findClass cls = some ce.cls := by
    have h9 := hO.cls
    rw [hvm] at h9
    exact h9
  have hall : s.sameButNew ({ U with vm := s.vm } : State) locs mc ms := by
    subst hA
    obtain ⟨e1, e2⟩ := hsame
    rw [State.setFrames_setFrames] at e1
    have h2 : (T.setVm s.vm).sameButNew ({ U with vm := s.vm } : State) [] (0 + 1) (0 + 6) := ⟨e1, e2⟩
    have h3 := X.same.trans h2
    rw [List.append_nil] at h3
    exact h3.mono hc hs
  refine ⟨U, ?_, .threw T.heap.size, hrun, hend, Or.inr ⟨T.heap.size, rfl, cls, ce, locs, hx U hWs.alike f1 (fun q hq => f2 q hq (fun z hz => nomatch hz)), hce, hO.vm, hcl, hWs, hall, hf⟩⟩
  refine st1 _ ?_
  show Steps p.tables e below (T1.setTop { method := m, pc := pc + 3, locals := ls, stack := .ref T.heap.size :: rest, locked := none }) _
  jvm_step X₁.here [X₁.here.top, hexec, d3', Value.category]
  exact X₁.ldcString hexec (own := own) (text := text) (index := is) (a := sa) hown' hstr'.1 hstr'.2
    (g := { method := m, pc := pc + 4, locals := ls, stack := .ref T.heap.size :: .ref T.heap.size :: rest, locked := none }) rfl d4' _ hsteps
/-- 'throw new E("text")', the text by a wide index -/
theorem vx_throwSW {cc : ByteArray} {pc : Nat} (hexec : p.tables.exec = Jvm.exec) (hb : c.code = cc) (hl : l.stackTraces = false) {own cls text : String} {names : List String} {ik is ic mc ms sa : Nat} {A : Nat → Prop}
    (hown : s.vm.findClass own = some m.cls) (hcls : Bundle.fit cls = true) (hnames : ∀ n ∈ names, Bundle.fit n = true)
    (hk : (Cond.classLink own ik cls).before args s = true) (hini : (Cond.initialized cls).before args s = true) (hstr : vk_R own is text sa s) (hat : ∀ w ∈ vx_atS own ic cls names, w.before args s = true)
    (hgood : ∀ w ∈ Cond.classLink own ik cls :: Cond.initialized cls :: vx_atS own ic cls names, vx_ot w = true)
    (hU : vx_Zq Bundle.tN "UNASSIGNED_STACK" Bundle.steD A s s.heap) (hN : vx_Zq Bundle.tN "SUPPRESSED_SENTINEL" Bundle.listD A s s.heap) (hS : va_S A s.heap H locs) (hsize : ls.size = c.maxLocals)
    (d0 : decode cc pc = .ok (.new ik, 3)) (d3 : decode cc (pc + 3) = .ok (.dup, 1)) (d4 : decode cc (pc + 4) = .ok (.ldc_w is, 3)) (d7 : decode cc (pc + 7) = .ok (.invokespecial ic, 3)) (d10 : decode cc (pc + 10) = .ok (.athrow, 1))
    (hout : ∀ x ∈ c.exceptionTable.toList, covers x (pc + 10) = false)
    (hRframes : names.length + 3 < R.frames) (hRlocals : (rest.map fun v => v.category).sum + (13 * (names.length + 1) + 43) ≤ R.locals) (hRcells : cells + 1 ≤ R.cells) (hRslots : slots + 6 ≤ R.slots) (hlocks : meth.locks = false)
    (hx : ∀ t : State, s.vm.Alike t.vm → H.size ≤ t.heap.size → (∀ q : Nat, q < H.size → t.heap[q]? = H[q]?) → XC cls s t)
    (hf : ∀ z ∈ locs, free z.base) (hc : cells + 1 ≤ mc) (hs : slots + 6 ≤ ms) :
    W p l e R s m args below meth c H locs cells slots (vx_MQ below Qc XC args s mc ms free) (F0 m pc ls rest) := by
  intro T hT X
  have htr : e.platform.stackTraces = false := (show e.platform.stackTraces = l.stackTraces by rw [X.admits.platform]).trans hl
  have Y := vx_rebase X (R' := { frames := R.frames, locals := R.locals, cells := 1, slots := 6 }) (Nat.le_refl _) (Nat.le_refl _) hRcells hRslots
  obtain ⟨s', hA⟩ : ∃ z, z = (T.setVm s.vm).setFrames (.invoking m args :: below) := ⟨_, rfl⟩
  rw [← hA] at Y
  have hvm : s'.vm = s.vm := by rw [hA]; rfl
  have hhp : s'.heap = H := by rw [hA]; exact hT
  have hW0 : s.WarmedH s'.vm := by rw [hvm]; exact State.WarmedH.refl s
  have hat' : ∀ w ∈ vx_atS own ic cls names, w.before args s' = true := fun w hw => vx_ot_at hW0 hvm.symm (hgood w (List.mem_cons_of_mem _ (List.mem_cons_of_mem _ hw))) (hat w hw)
  have hk' : (Cond.classLink own ik cls).before args s' = true := vx_ot_at hW0 hvm.symm (hgood _ List.mem_cons_self) hk
  have hini' : (Cond.initialized cls).before args s' = true := vx_ot_at hW0 hvm.symm (hgood _ (List.mem_cons_of_mem _ List.mem_cons_self)) hini
  have hU' : vx_Zq Bundle.tN "UNASSIGNED_STACK" Bundle.steD A s' s'.heap := by rw [hhp]; exact vx_Zq.moved hW0.alike (hU.kept hS.2.1)
  have hN' : vx_Zq Bundle.tN "SUPPRESSED_SENTINEL" Bundle.listD A s' s'.heap := by rw [hhp]; exact vx_Zq.moved hW0.alike (hN.kept hS.2.1)
  have h : ∀ w ∈ Bundle.ownAtoms own ic cls names, w.before args s' = true := vx_own hat' (vx_isRefq hU'.1) (vx_isRefq hN'.1) hU'.2.word hN'.2.word
  have hown' : s'.vm.findClass own = some m.cls := by rw [hvm]; exact hown
  have hins : (Cond.instantiable cls 6).before args s' = true := h _ (by simp [Bundle.ownAtoms])
  obtain ⟨vm₁, cX, kX, hfX, hkX, -, -, X₁, st1⟩ := Y.newCold hexec (own := own) (C := cls) (index := ik) (n := 6) hown' hk' hins hini'
    (g := F0 m pc ls rest) rfl (by rw [hb]; exact d0) (Nat.le_refl _) (Nat.le_refl _)
  generalize hT1 : (T.setVm vm₁).pushCell { cls := cX, slots := kX.instanceTypes.map defaultValue, vm := .none } = T1 at X₁ st1
  have hcat : (Value.ref T.heap.size).category = 1 := rfl
  have hcellA : T1.heap[T.heap.size]? = some (freshCell cX kX) := by rw [← hT1]; exact State.heap_pushCell_size _ _
  have d3' : decode c.code (pc + 3) = .ok (.dup, 1) := by rw [hb]; exact d3
  have d4' : decode c.code (pc + 4) = .ok (.ldc_w is, 3) := by rw [hb]; exact d4
  have hstr' : vk_R own is text sa s' := vk_R.warm hW0 hstr
  obtain ⟨U, hsteps, hrun, hend, hW, hsame, ce, hce, hO⟩ := X₁.ctorThrowS hexec htr (own := own) (cls := cls) (names := names) (ic := ic) hown' hcls hnames h (fun x hx => nomatch hx) hfX hkX hcellA (by rw [hhp, hT]; exact Nat.le_refl _) (msg := .ref sa) rfl
    (g := { method := m, pc := pc + 7, locals := ls, stack := .ref sa :: .ref T.heap.size :: .ref T.heap.size :: rest, locked := none }) rfl hsize rfl rfl (rest := rest) rfl
    (by rw [hb]; exact d7) (by rw [hb]; exact d10) hout hRframes (by simp only [List.map_cons, List.sum_cons, hcat]; omega) hlocks
  obtain ⟨f1, f2⟩ := vx_frame hsame
  rw [hhp] at f1 f2
  have hWs : s.WarmedH U.vm := State.WarmedH.trans hW0 hW
  have hcl : s.vm.findClass cls = some ce.cls := by
    have h9 := hO.cls
    rw [hvm] at h9
    exact h9
  have hall : s.sameButNew ({ U with vm := s.vm } : State) locs mc ms := by
    subst hA
    obtain ⟨e1, e2⟩ := hsame
    rw [State.setFrames_setFrames] at e1
    have h2 : (T.setVm s.vm).sameButNew ({ U with vm := s.vm } : State) [] (0 + 1) (0 + 6) := ⟨e1, e2⟩
    have h3 := X.same.trans h2
    rw [List.append_nil] at h3
    exact h3.mono hc hs
  refine ⟨U, ?_, .threw T.heap.size, hrun, hend, Or.inr ⟨T.heap.size, rfl, cls, ce, locs, hx U hWs.alike f1 (fun q hq => f2 q hq (fun z hz => nomatch hz)), hce, hO.vm, hcl, hWs, hall, hf⟩⟩
  refine st1 _ ?_
  show Steps p.tables e below (T1.setTop { method := m, pc := pc + 3, locals := ls, stack := .ref T.heap.size :: rest, locked := none }) _
  jvm_step X₁.here [X₁.here.top, hexec, d3', Value.category]
  exact X₁.ldcStringW hexec (own := own) (text := text) (index := is) (a := sa) hown' hstr'.1 hstr'.2
    (g := { method := m, pc := pc + 4, locals := ls, stack := .ref T.heap.size :: .ref T.heap.size :: rest, locked := none }) rfl d4' _ hsteps
end Ends
section Bodies
variable {l : Launch}
theorem vx_ofW {y : MethodName} {ws ws' : List Cond} {rm : Room} {Pc : Array Value → State → Prop} {Qc : Array Value → State → Outcome → State → Prop} {XC : String → State → State → Prop} {mc ms : Nat} {free : Addr → Prop} {cc : ByteArray} {maxL : Nat} {ret : Option FieldType}
    (hy : plainName y.cls = true) (hw : ws = Cond.code y cc maxL ret :: ws')
    (body : ∀ p e s m args below meth c s₁, BodyLoose p l y (headSpec ws rm) cc maxL ret e s m args below meth c s₁ → c.maxLocals = maxL → (∀ x ∈ c.exceptionTable.toList, False) → Pc args s →
      W p l e (headSpec ws rm).room s m args below meth c s.heap [] 0 0 (vx_MQ below Qc XC args s mc ms free) (entryFrame m args maxL)) : vx_Met l y ws rm Pc Qc XC mc ms free := by
  refine MetFree.of_bodyS (code := cc) (maxLocals := maxL) (ret := ret) hy ?_ ?_
  · intro args s m h hn
    obtain ⟨meth, c, h1, h2, h3, h4, h5, h6, -, -⟩ := Cond.code_spec hn (atoms_spec (ws := ws) h _ (by rw [hw]; exact List.mem_cons_self))
    exact ⟨meth, c, h1, h2, h3, h4, h5, h6⟩
  · intro p e s m args below meth c s₁ B hml hP _
    have hh0 : s₁.heap = s.heap := by rw [B.state]; rfl
    have ht : ∀ x ∈ c.exceptionTable.toList, False := by
      obtain ⟨meth9, c9, h1, h2, -, -, -, -, h7, -⟩ := Cond.code_spec B.named (atoms_spec (ws := ws) B.pre _ (by rw [hw]; exact List.mem_cons_self))
      cases Option.some.inj (h1.symm.trans B.method)
      cases Option.some.inj (h2.symm.trans (Stand.of_body B).code)
      intro x hx
      rw [Array.isEmpty_iff.mp h7] at hx
      cases hx
    obtain ⟨t, a1, o, b1, b2, b3⟩ := body p e s m args below meth c s₁ B hml ht hP s₁ hh0 (Stand.of_body B)
    exact ⟨t, o, a1, b1, b2, b3⟩
/-- the table of a body with handlers -/
theorem vx_table {p : Program} {x y : MethodName} {S : Spec} {cc bytes : ByteArray} {maxL maxL' : Nat} {ret ret' : Option FieldType} {e : Env} {s s₁ : State} {m : MethodId} {args : Array Value} {below : List Frame} {meth : Method} {c : Code} {hh : List (Nat × Nat × Nat × Nat)}
    (B : BodyLoose p l y S cc maxL ret e s m args below meth c s₁) (h : (Cond.codeWith y bytes maxL' ret' hh).before args s = true) : c.exceptionTable.toList = tableOf hh := by
  obtain ⟨m9, meth9, c9, hn9, h1, h2, -, -, h6, -⟩ := Cond.codeWith_spec h
  cases Option.some.inj (hn9.symm.trans B.named)
  cases Option.some.inj (h1.symm.trans B.method)
  cases Option.some.inj (h2.symm.trans (Stand.of_body B).code)
  rw [← h6, table_eq]
end Bodies
end VXA
/-! ===== END ===== -/
/-! ===== BEGIN a static call of a method with an exception table ===== -/
section VXS
variable {p : Program} {l : Launch} {e : Env} {R : Room} {s : State} {m : MethodId} {args : Array Value} {below : List Frame} {meth : Method} {c : Code} {T : State} {H : Heap} {locs : List Loc} {cells slots : Nat}
abbrev vx_CSW (R : Room) (s : State) (args : Array Value) (own : String) (index : Nat) (y : MethodName) (bytes : ByteArray) (maxL : Nat) (ret : Option FieldType) (hh : List (Nat × Nat × Nat × Nat)) (ws : List Cond) (rm : Room) (mc ms n : Nat) : Prop :=
  (rm.cells = mc ∧ rm.slots = ms ∧ rm.frames + 1 ≤ R.frames ∧ 8 + (maxL + 11) + rm.locals ≤ R.locals ∧ (∀ w ∈ ws, ∀ (a' : Array Value) (U : State), s.WarmedH U.vm → w.before a' U = true) ∧ Cond.codeWith y bytes maxL ret hh ∈ ws) ∧
  (Cond.codeWith y bytes maxL ret hh).before args s = true ∧ (Cond.initialized y.cls).before args s = true ∧ (y.cls ≠ "java/lang/invoke/MethodHandle" ∧ y.cls ≠ "java/lang/invoke/VarHandle") ∧
  (∀ sig, parseMethodDescriptor y.desc = some sig → n = sig.parameters.length) ∧ (Cond.methodLink own index y).before args s = true ∧ (Cond.static y).before args s = true
theorem vx_cwSW {own : String} {index maxL mc ms : Nat} {y : MethodName} {bytes : ByteArray} {ret : Option FieldType} {hh : List (Nat × Nat × Nat × Nat)} {Ts ws ws' : List Cond} {rm : Room} (n : Nat) (ht : ∀ w ∈ Ts, w.before args s = true) (hT : GoodIn Ts (va_wsS own index y ws)) (hw : ws = Cond.codeWith y bytes maxL ret hh :: ws') (hrc : rm.cells = mc) (hrs : rm.slots = ms)
    (hd : y.cls ≠ "java/lang/invoke/MethodHandle" ∧ y.cls ≠ "java/lang/invoke/VarHandle" ∧ (parseMethodDescriptor y.desc).map (fun d => d.parameters.length) = some n) (hR : rm.frames + 1 ≤ R.frames ∧ 8 + (maxL + 11) + rm.locals ≤ R.locals) :
    vx_CSW R s args own index y bytes maxL ret hh ws rm mc ms n := by
  have ok : ∀ w ∈ va_wsS own index y ws, w.before args s = true := fun w h => ht w (hT w h).1
  have hG : GoodIn Ts ws := fun w h => hT w (by unfold va_wsS; exact List.mem_append_right _ h)
  have hc : Cond.codeWith y bytes maxL ret hh ∈ ws := by rw [hw]; exact List.mem_cons_self
  refine ⟨⟨hrc, hrs, hR.1, hR.2, pay_in ht hG, hc⟩, ht _ (hG _ hc).1, ok _ (by simp [va_wsS]), ⟨hd.1, hd.2.1⟩, fun sig h => ?_, ok _ (by simp [va_wsS]), ok _ (by simp [va_wsS])⟩
  have h2 := hd.2.2
  rw [h] at h2
  exact (Option.some.inj h2).symm
theorem vx_callSW (X : Stand p l e R s m args below meth c T locs cells slots) (hexec : p.tables.exec = Jvm.exec) {own : String} {index : Nat} {y : MethodName} {bytes : ByteArray} {maxL : Nat} {ret : Option FieldType} {hh : List (Nat × Nat × Nat × Nat)}
    (hown : s.vm.findClass own = some m.cls) (hlink : (Cond.methodLink own index y).before args s = true) (hstat : (Cond.static y).before args s = true) (hinit : (Cond.initialized y.cls).before args s = true)
    (hcode : (Cond.codeWith y bytes maxL ret hh).before args s = true) (hy : y.cls ≠ "java/lang/invoke/MethodHandle" ∧ y.cls ≠ "java/lang/invoke/VarHandle")
    {W9 : Nat} {Pre : Pt → Array Value → Prop} {Post : Pt → Array Value → Option Value → Pt → Prop} (hK : Back l R p e below s args y 3 W9 Pre Post)
    {g : JFrame} (hg : g.method = m) (hsize : g.locals.size = c.maxLocals) {argsL rest : List Value} (hlen : ∀ sig, parseMethodDescriptor y.desc = some sig → argsL.length = sig.parameters.length)
    (hstack : g.stack = argsL.reverse ++ rest) (hW : 2 * g.monitorRoom + (rest.map fun v => v.category).sum ≤ W9) (hdg : decode c.code g.pc = .ok (.invokestatic index, 3))
    (hpre : ∀ vm₁, s.WarmedH vm₁ → Pre ⟨T.setVm vm₁, locs, cells, slots⟩ argsL.toArray) :
    ∃ (v : Option Value) (vm₁ : Vm) (B : Pt), s.WarmedH vm₁ ∧ Stand p l e R s m args below meth c B.U B.locs B.cells B.slots ∧ Post ⟨T.setVm vm₁, locs, cells, slots⟩ argsL.toArray v B ∧
      ∀ target, Steps p.tables e below (B.U.setTop { g with pc := g.pc + 3, stack := v.toList ++ rest }) target → Steps p.tables e below (T.setTop g) target := by
  obtain ⟨mk, methM, cM, hnamed, hmethM, -, -, -, -, -, -, hsigM⟩ := Cond.codeWith_spec hcode
  have hstatic : methM.isStatic = true := Cond.static_spec hnamed hmethM hstat
  obtain ⟨kP, hkP, -⟩ := className_of_methodNamed hnamed
  have hinitP : kP.init = .initialized := Cond.initialized_spec (findClass_of_methodNamed hnamed) hkP hinit
  obtain ⟨vm₁, X₁, hstep₁⟩ := X.invokestatic hexec hown hlink hnamed hmethM hstatic hkP hinitP hy (g := g) hg (argsL := argsL) (rest := rest) (hlen _ hsigM) hstack hdg
  obtain ⟨v, B, X', hpost, hsteps⟩ := hK m meth c ⟨T.setVm vm₁, locs, cells, slots⟩ { g with stack := rest } (.invokestatic index) mk argsL.toArray X₁ hg hsize hdg hW (X₁.named hnamed) (hpre vm₁ X₁.warmed)
  exact ⟨v, vm₁, B, X₁.warmed, X', hpost, fun target h => hstep₁ _ fun acts => by rw [doInvoke_state]; exact hsteps.trans h⟩
theorem vx_runSW {y : MethodName} {bytes cc : ByteArray} {maxL nL mc ms n index : Nat} {ret : Option FieldType} {hh : List (Nat × Nat × Nat × Nat)} {ws : List Cond} {rm : Room} {Pc : Array Value → State → Prop} {Qc : Array Value → State → Outcome → State → Prop} {free : Addr → Prop} {Ts : List Cond} {own : String} {As rest : List Value} {g : JFrame}
    (S : CallFix p m c cc nL s args Ts own) (hM : Met l y ws rm Pc Qc mc ms free) (cw : vx_CSW R s args own index y bytes maxL ret hh ws rm mc ms n) (hp : PreS s H Pc As)
    (hg : g.method = m) (hn : As.length = n) (hsize : g.locals.size = nL) (hstack : g.stack = As.reverse ++ rest) (hW : 2 * g.monitorRoom + (rest.map fun v => v.category).sum ≤ 8) (hdg : decode cc g.pc = .ok (.invokestatic index, 3)) (hf : cells + mc ≤ R.cells ∧ slots + ms ≤ R.slots) :
    va_Run p l e R s m args below meth c H locs cells slots mc ms g rest (Qc As.toArray) (free) := by
  obtain ⟨⟨hrc, hrs, hfr, hlo, hws, hcw⟩, hcode, hini, hy, hlen, hl, hstt⟩ := cw
  have hK : Back l R p e below s args y 3 8 (PreOf R mc ms Pc) (PostOf Qc mc ms free) := va_backW (hh := hh) (bytes := bytes) (maxL := maxL) (ret := ret) hM hp.1 hrc hrs hfr hlo hws hcw (fun a' U hW => word_at hW (Or.inl (by first | rfl | simp [Cond.onTables, Cond.keeps, Cond.steady])) hini)
  obtain ⟨hx, hb, hml, ho, -⟩ := S
  intro T hT X
  obtain ⟨v, vm₁, ⟨U', l2, c2, s2⟩, hW₁, X', ⟨g', mk, t, L, e1, e2, hq, h1, hL, h2, h3⟩, st⟩ := vx_callSW X hx (hh := hh) (bytes := bytes) (maxL := maxL) (ret := ret) ho hl hstt hini hcode hy hK hg (hsize.trans hml.symm) (argsL := As) (rest := rest) (fun sig h => hn.trans (hlen sig h)) hstack hW (by rw [hb]; exact hdg)
    (fun vm₁ hW₁ => ⟨hf.1, hf.2, hp.2 (T.setVm vm₁) hT hW₁⟩)
  dsimp only [Pt.U, Pt.locs, Pt.cells, Pt.slots] at X' e1 e2 h1 h2 h3 st
  subst h1; subst h2; subst h3
  exact ⟨v, (T.setVm vm₁).calling g' mk As.toArray, t, U', L, hT, X', hL, e1, e2, hq, st⟩
/-- a thing of a world lies in the heap -/
theorem vx_lt {D : va_G} {cl : List vw_C} {ws : va_W} {H1 : Heap} (h : va_P D cl ws H1) {k : Nat} {q : Nat × va_E} (hk : ws[k]? = some q) : q.1 < H1.size := (h k q hk).lt
end VXS
/-! ===== END ===== -/
end
section
/-! the class: what its methods lean on beside their world; its world; rows -/

def nwW : List Cond := [Cond.methodLinkNest "LetterAuction" (34 : Nat) ({ cls := "LetterAuction$Crew", name := "<init>", desc := "(I)V" } : MethodName) "LetterAuction", Cond.fieldLinkNest "LetterAuction" (67 : Nat) "LetterAuction$Crew" "worths" "[I" "LetterAuction", Cond.fieldLinkNest "LetterAuction" (126 : Nat) "LetterAuction$Crew" "prices" "[I" "LetterAuction", Cond.fieldLinkNest "LetterAuction" (82 : Nat) "LetterAuction$Crew" "state" "I" "LetterAuction", Cond.fieldLinkNest "LetterAuction" (73 : Nat) "LetterAuction$Crew" "target" "I" "LetterAuction", Cond.fieldLinkNest "LetterAuction" (119 : Nat) "LetterAuction$Crew" "number" "I" "LetterAuction", Cond.fieldLinkNest "LetterAuction" (147 : Nat) "LetterAuction$Crew" "amount" "I" "LetterAuction", Cond.methodLinkNest "LetterAuction" (37 : Nat) ({ cls := "LetterAuction$Desk", name := "<init>", desc := "()V" } : MethodName) "LetterAuction", Cond.fieldLinkNest "LetterAuction" (129 : Nat) "LetterAuction$Desk" "price" "I" "LetterAuction", Cond.fieldLinkNest "LetterAuction" (132 : Nat) "LetterAuction$Desk" "holder" "I" "LetterAuction", Cond.fieldLinkNest "LetterAuction" (135 : Nat) "LetterAuction$Desk" "number" "I" "LetterAuction", Cond.methodLinkNest "LetterAuction" (40 : Nat) ({ cls := "LetterAuction$Post", name := "<init>", desc := "()V" } : MethodName) "LetterAuction", Cond.fieldLinkNest "LetterAuction" (85 : Nat) "LetterAuction$Post" "size" "I" "LetterAuction", Cond.methodLinkNest "LetterAuction" (136 : Nat) ({ cls := "LetterAuction$Desk", name := "has", desc := "(II)Z" } : MethodName) "LetterAuction", Cond.methodLinkNest "LetterAuction" (70 : Nat) ({ cls := "LetterAuction$Post", name := "clear", desc := "()V" } : MethodName) "LetterAuction", Cond.methodLinkNest "LetterAuction" (76 : Nat) ({ cls := "LetterAuction$Desk", name := "dismiss", desc := "()V" } : MethodName) "LetterAuction", Cond.methodLinkNest "LetterAuction" (79 : Nat) ({ cls := "LetterAuction$Crew", name := "release", desc := "()V" } : MethodName) "LetterAuction", Cond.methodLinkNest "LetterAuction" (89 : Nat) ({ cls := "LetterAuction$Crew", name := "chooseBid", desc := "(I)V" } : MethodName) "LetterAuction", Cond.methodLinkNest "LetterAuction" (115 : Nat) ({ cls := "LetterAuction$Post", name := "add", desc := "(IIIII)V" } : MethodName) "LetterAuction", Cond.methodLinkNest "LetterAuction" (98 : Nat) ({ cls := "LetterAuction$Post", name := "part", desc := "(II)I" } : MethodName) "LetterAuction", Cond.methodLinkNest "LetterAuction" (101 : Nat) ({ cls := "LetterAuction$Post", name := "remove", desc := "(I)V" } : MethodName) "LetterAuction", Cond.methodLinkNest "LetterAuction" (108 : Nat) ({ cls := "LetterAuction$Crew", name := "learn", desc := "(II)V" } : MethodName) "LetterAuction", Cond.methodLinkNest "LetterAuction" (112 : Nat) ({ cls := "LetterAuction$Crew", name := "hear", desc := "(II)V" } : MethodName) "LetterAuction", Cond.methodLinkNest "LetterAuction" (143 : Nat) ({ cls := "LetterAuction$Crew", name := "scaledWorth", desc := "(I)I" } : MethodName) "LetterAuction", Cond.castable "java/lang/IllegalArgumentException" "java/lang/IllegalArgumentException", Cond.castable "java/lang/IllegalStateException" "java/lang/IllegalStateException", Cond.castable "java/lang/IndexOutOfBoundsException" "java/lang/IndexOutOfBoundsException", Cond.declares (Bundle.initS "java/lang/RuntimeException"), Cond.declares (Bundle.initS "java/lang/Exception"), Cond.declares (Bundle.initS "java/lang/Throwable")]

theorem nw_0 : Cond.methodLinkNest "LetterAuction" (34 : Nat) ({ cls := "LetterAuction$Crew", name := "<init>", desc := "(I)V" } : MethodName) "LetterAuction" ∈ nwW := List.mem_of_getElem? (i := 0) rfl

theorem nw_1 : Cond.fieldLinkNest "LetterAuction" (67 : Nat) "LetterAuction$Crew" "worths" "[I" "LetterAuction" ∈ nwW := List.mem_of_getElem? (i := 1) rfl

theorem nw_2 : Cond.fieldLinkNest "LetterAuction" (126 : Nat) "LetterAuction$Crew" "prices" "[I" "LetterAuction" ∈ nwW := List.mem_of_getElem? (i := 2) rfl

theorem nw_3 : Cond.fieldLinkNest "LetterAuction" (82 : Nat) "LetterAuction$Crew" "state" "I" "LetterAuction" ∈ nwW := List.mem_of_getElem? (i := 3) rfl

theorem nw_4 : Cond.fieldLinkNest "LetterAuction" (73 : Nat) "LetterAuction$Crew" "target" "I" "LetterAuction" ∈ nwW := List.mem_of_getElem? (i := 4) rfl

theorem nw_5 : Cond.fieldLinkNest "LetterAuction" (119 : Nat) "LetterAuction$Crew" "number" "I" "LetterAuction" ∈ nwW := List.mem_of_getElem? (i := 5) rfl

theorem nw_6 : Cond.fieldLinkNest "LetterAuction" (147 : Nat) "LetterAuction$Crew" "amount" "I" "LetterAuction" ∈ nwW := List.mem_of_getElem? (i := 6) rfl

theorem nw_7 : Cond.methodLinkNest "LetterAuction" (37 : Nat) ({ cls := "LetterAuction$Desk", name := "<init>", desc := "()V" } : MethodName) "LetterAuction" ∈ nwW := List.mem_of_getElem? (i := 7) rfl

theorem nw_8 : Cond.fieldLinkNest "LetterAuction" (129 : Nat) "LetterAuction$Desk" "price" "I" "LetterAuction" ∈ nwW := List.mem_of_getElem? (i := 8) rfl

theorem nw_9 : Cond.fieldLinkNest "LetterAuction" (132 : Nat) "LetterAuction$Desk" "holder" "I" "LetterAuction" ∈ nwW := List.mem_of_getElem? (i := 9) rfl

theorem nw_10 : Cond.fieldLinkNest "LetterAuction" (135 : Nat) "LetterAuction$Desk" "number" "I" "LetterAuction" ∈ nwW := List.mem_of_getElem? (i := 10) rfl

theorem nw_11 : Cond.methodLinkNest "LetterAuction" (40 : Nat) ({ cls := "LetterAuction$Post", name := "<init>", desc := "()V" } : MethodName) "LetterAuction" ∈ nwW := List.mem_of_getElem? (i := 11) rfl

theorem nw_12 : Cond.fieldLinkNest "LetterAuction" (85 : Nat) "LetterAuction$Post" "size" "I" "LetterAuction" ∈ nwW := List.mem_of_getElem? (i := 12) rfl

theorem nw_13 : Cond.methodLinkNest "LetterAuction" (136 : Nat) ({ cls := "LetterAuction$Desk", name := "has", desc := "(II)Z" } : MethodName) "LetterAuction" ∈ nwW := List.mem_of_getElem? (i := 13) rfl

theorem nw_14 : Cond.methodLinkNest "LetterAuction" (70 : Nat) ({ cls := "LetterAuction$Post", name := "clear", desc := "()V" } : MethodName) "LetterAuction" ∈ nwW := List.mem_of_getElem? (i := 14) rfl

theorem nw_15 : Cond.methodLinkNest "LetterAuction" (76 : Nat) ({ cls := "LetterAuction$Desk", name := "dismiss", desc := "()V" } : MethodName) "LetterAuction" ∈ nwW := List.mem_of_getElem? (i := 15) rfl

theorem nw_16 : Cond.methodLinkNest "LetterAuction" (79 : Nat) ({ cls := "LetterAuction$Crew", name := "release", desc := "()V" } : MethodName) "LetterAuction" ∈ nwW := List.mem_of_getElem? (i := 16) rfl

theorem nw_17 : Cond.methodLinkNest "LetterAuction" (89 : Nat) ({ cls := "LetterAuction$Crew", name := "chooseBid", desc := "(I)V" } : MethodName) "LetterAuction" ∈ nwW := List.mem_of_getElem? (i := 17) rfl

theorem nw_18 : Cond.methodLinkNest "LetterAuction" (115 : Nat) ({ cls := "LetterAuction$Post", name := "add", desc := "(IIIII)V" } : MethodName) "LetterAuction" ∈ nwW := List.mem_of_getElem? (i := 18) rfl

theorem nw_19 : Cond.methodLinkNest "LetterAuction" (98 : Nat) ({ cls := "LetterAuction$Post", name := "part", desc := "(II)I" } : MethodName) "LetterAuction" ∈ nwW := List.mem_of_getElem? (i := 19) rfl

theorem nw_20 : Cond.methodLinkNest "LetterAuction" (101 : Nat) ({ cls := "LetterAuction$Post", name := "remove", desc := "(I)V" } : MethodName) "LetterAuction" ∈ nwW := List.mem_of_getElem? (i := 20) rfl

theorem nw_21 : Cond.methodLinkNest "LetterAuction" (108 : Nat) ({ cls := "LetterAuction$Crew", name := "learn", desc := "(II)V" } : MethodName) "LetterAuction" ∈ nwW := List.mem_of_getElem? (i := 21) rfl

theorem nw_22 : Cond.methodLinkNest "LetterAuction" (112 : Nat) ({ cls := "LetterAuction$Crew", name := "hear", desc := "(II)V" } : MethodName) "LetterAuction" ∈ nwW := List.mem_of_getElem? (i := 22) rfl

theorem nw_23 : Cond.methodLinkNest "LetterAuction" (143 : Nat) ({ cls := "LetterAuction$Crew", name := "scaledWorth", desc := "(I)I" } : MethodName) "LetterAuction" ∈ nwW := List.mem_of_getElem? (i := 23) rfl

theorem nw_24 : Cond.castable "java/lang/IllegalArgumentException" "java/lang/IllegalArgumentException" ∈ nwW := List.mem_of_getElem? (i := 24) rfl

theorem nw_25 : Cond.castable "java/lang/IllegalStateException" "java/lang/IllegalStateException" ∈ nwW := List.mem_of_getElem? (i := 25) rfl

theorem nw_26 : Cond.castable "java/lang/IndexOutOfBoundsException" "java/lang/IndexOutOfBoundsException" ∈ nwW := List.mem_of_getElem? (i := 26) rfl

theorem nw_27 : Cond.declares (Bundle.initS "java/lang/RuntimeException") ∈ nwW := List.mem_of_getElem? (i := 27) rfl

theorem nw_28 : Cond.declares (Bundle.initS "java/lang/Exception") ∈ nwW := List.mem_of_getElem? (i := 28) rfl

theorem nw_29 : Cond.declares (Bundle.initS "java/lang/Throwable") ∈ nwW := List.mem_of_getElem? (i := 29) rfl

theorem nw_warm {s U : State} (hW : s.WarmedH U.vm) : ∀ w ∈ nwW, va_Nw w s → va_Nw w U := by
  unfold nwW
  refine List.forall_mem_cons.mpr ⟨fun h => va_Nw.warmM hW h, ?_⟩
  refine List.forall_mem_cons.mpr ⟨fun h => va_Nw.warmF hW h, ?_⟩
  refine List.forall_mem_cons.mpr ⟨fun h => va_Nw.warmF hW h, ?_⟩
  refine List.forall_mem_cons.mpr ⟨fun h => va_Nw.warmF hW h, ?_⟩
  refine List.forall_mem_cons.mpr ⟨fun h => va_Nw.warmF hW h, ?_⟩
  refine List.forall_mem_cons.mpr ⟨fun h => va_Nw.warmF hW h, ?_⟩
  refine List.forall_mem_cons.mpr ⟨fun h => va_Nw.warmF hW h, ?_⟩
  refine List.forall_mem_cons.mpr ⟨fun h => va_Nw.warmM hW h, ?_⟩
  refine List.forall_mem_cons.mpr ⟨fun h => va_Nw.warmF hW h, ?_⟩
  refine List.forall_mem_cons.mpr ⟨fun h => va_Nw.warmF hW h, ?_⟩
  refine List.forall_mem_cons.mpr ⟨fun h => va_Nw.warmF hW h, ?_⟩
  refine List.forall_mem_cons.mpr ⟨fun h => va_Nw.warmM hW h, ?_⟩
  refine List.forall_mem_cons.mpr ⟨fun h => va_Nw.warmF hW h, ?_⟩
  refine List.forall_mem_cons.mpr ⟨fun h => va_Nw.warmM hW h, ?_⟩
  refine List.forall_mem_cons.mpr ⟨fun h => va_Nw.warmM hW h, ?_⟩
  refine List.forall_mem_cons.mpr ⟨fun h => va_Nw.warmM hW h, ?_⟩
  refine List.forall_mem_cons.mpr ⟨fun h => va_Nw.warmM hW h, ?_⟩
  refine List.forall_mem_cons.mpr ⟨fun h => va_Nw.warmM hW h, ?_⟩
  refine List.forall_mem_cons.mpr ⟨fun h => va_Nw.warmM hW h, ?_⟩
  refine List.forall_mem_cons.mpr ⟨fun h => va_Nw.warmM hW h, ?_⟩
  refine List.forall_mem_cons.mpr ⟨fun h => va_Nw.warmM hW h, ?_⟩
  refine List.forall_mem_cons.mpr ⟨fun h => va_Nw.warmM hW h, ?_⟩
  refine List.forall_mem_cons.mpr ⟨fun h => va_Nw.warmM hW h, ?_⟩
  refine List.forall_mem_cons.mpr ⟨fun h => va_Nw.warmM hW h, ?_⟩
  refine List.forall_mem_cons.mpr ⟨fun h => va_Nw.warmC hW h, ?_⟩
  refine List.forall_mem_cons.mpr ⟨fun h => va_Nw.warmC hW h, ?_⟩
  refine List.forall_mem_cons.mpr ⟨fun h => va_Nw.warmC hW h, ?_⟩
  refine List.forall_mem_cons.mpr ⟨fun h => va_Nw.warmD hW h, ?_⟩
  refine List.forall_mem_cons.mpr ⟨fun h => va_Nw.warmD hW h, ?_⟩
  refine List.forall_mem_cons.mpr ⟨fun h => va_Nw.warmD hW h, ?_⟩
  exact fun w hw => absurd hw List.not_mem_nil

def stp (k : Nat) : Int32 := match k with
  | 0 => 64
  | 1 => 16
  | 2 => 4
  | _ => 1
def ENC : (Nat → Prop) → State → Heap → Prop := fun A U H =>
  (∀ w ∈ nwW, va_Nw w U) ∧ (∃ t : Nat, va_Z "LetterAuction" "STEPS" "[I" (.ref t) A U H ∧ va_T .int t 4 (fun j => .int (stp j)) A U H) ∧
  vx_Zq Bundle.tN "UNASSIGNED_STACK" Bundle.steD A U H ∧ vx_Zq Bundle.tN "SUPPRESSED_SENTINEL" Bundle.listD A U H ∧
  (∃ a : Nat, vk_R "LetterAuction" 162 "an argument is out of range" a U) ∧ (∃ a : Nat, vk_R "LetterAuction" 167 "the call does not fit the state" a U) ∧ (∃ a : Nat, vk_R "LetterAuction" 155 "there is no such letter" a U) ∧
  va_Nc "java/lang/IllegalStateException" "java/lang/IllegalArgumentException" U ∧ va_Nc "java/lang/IllegalStateException" "java/lang/IndexOutOfBoundsException" U ∧ va_Nc "java/lang/IllegalArgumentException" "java/lang/IndexOutOfBoundsException" U
theorem ENC_ok : ENok ENC := by
  refine ⟨fun A s U H hW h => ?_, fun A s H H1 h hq => ?_, fun A B s H h hAB => ?_⟩
  · obtain ⟨h1, ⟨t, h2, h3⟩, h4, h5, ⟨a1, h6⟩, ⟨a2, h7⟩, ⟨a3, h8⟩, h9, h10, h11⟩ := h
    exact ⟨fun w hw => nw_warm hW w hw (h1 w hw), ⟨t, va_Z.moved hW.alike h2, va_T.moved hW.alike h3⟩, vx_Zq.moved hW.alike h4, vx_Zq.moved hW.alike h5, ⟨a1, vk_R.warm hW h6⟩, ⟨a2, vk_R.warm hW h7⟩, ⟨a3, vk_R.warm hW h8⟩, va_Nc.moved hW.alike h9, va_Nc.moved hW.alike h10, va_Nc.moved hW.alike h11⟩
  · obtain ⟨h1, ⟨t, h2, h3⟩, h4, h5, h6⟩ := h
    exact ⟨h1, ⟨t, va_Z.kept h2 hq, va_T.kept h3 hq⟩, vx_Zq.kept h4 hq, vx_Zq.kept h5 hq, h6⟩
  · obtain ⟨h1, ⟨t, h2, h3⟩, h4, h5, h6⟩ := h
    exact ⟨h1, ⟨t, va_Z.narrow h2 hAB, va_T.narrow h3 hAB⟩, vx_Zq.narrow h4 hAB, vx_Zq.narrow h5 hAB, h6⟩

def row (ar : Nat → Nat → Int32) (k i : Nat) : Nat → Int32 := fun j => if j < 6 then ar k (6 * i + j) else 0
def cE (ad : Nat → Nat) (cI cC cD : ClassId) (n ph mn : Nat) (ar : Nat → Nat → Int32) : Nat → va_E := fun r => match r with
  | 0 => .inr (3, [.int (nI n), .ref (ad 1), .ref (ad 2), .ref (ad 3), .ref (ad 5), .int (nI ph)])
  | 1 => .inl (cC, n, .inr (.inr (.inr (.inr (fun i => some (ad (4 * i + 6)))))))
  | 2 => .inl (cD, n, .inr (.inr (.inr (.inr (fun i => some (ad (4 * i + 9)))))))
  | 3 => .inr (2, [.ref (ad 4), .int (nI mn)])
  | 4 => .inl (cI, 400, .inl (ar 10))
  | 5 => .inl (cI, 4, .inl (ar 11))
  | r + 6 => if r % 4 = 0 then .inr (0, [.ref (ad (4 * (r / 4) + 7)), .ref (ad (4 * (r / 4) + 8)), .int (ar 6 (r / 4)), .int (ar 7 (r / 4)), .int (ar 8 (r / 4)), .int (ar 9 (r / 4))])
    else if r % 4 = 1 then .inl (cI, n, .inl (row ar 1 (r / 4))) else if r % 4 = 2 then .inl (cI, n, .inl (row ar 2 (r / 4))) else .inr (1, [.int (ar 3 (r / 4)), .int (ar 4 (r / 4)), .int (ar 5 (r / 4))])
section CE
variable {ad : Nat → Nat} {cI cC cD : ClassId} {n ph mn : Nat} {ar : Nat → Nat → Int32}
theorem cE_crew (i : Nat) : cE ad cI cC cD n ph mn ar (4 * i + 6) = .inr (0, [.ref (ad (4 * i + 7)), .ref (ad (4 * i + 8)), .int (ar 6 i), .int (ar 7 i), .int (ar 8 i), .int (ar 9 i)]) := by
  have h1 : 4 * i % 4 = 0 := by omega
  have h2 : 4 * i / 4 = i := by omega
  show (if 4 * i % 4 = 0 then _ else _) = _
  rw [if_pos h1, h2]
theorem cE_wr (i : Nat) : cE ad cI cC cD n ph mn ar (4 * i + 7) = .inl (cI, n, .inl (row ar 1 i)) := by
  have h1 : (4 * i + 1) % 4 = 1 := by omega
  have h2 : (4 * i + 1) / 4 = i := by omega
  show (if (4 * i + 1) % 4 = 0 then _ else if (4 * i + 1) % 4 = 1 then _ else _) = _
  rw [if_neg (by omega), if_pos h1, h2]
theorem cE_kn (i : Nat) : cE ad cI cC cD n ph mn ar (4 * i + 8) = .inl (cI, n, .inl (row ar 2 i)) := by
  have h1 : (4 * i + 2) % 4 = 2 := by omega
  have h2 : (4 * i + 2) / 4 = i := by omega
  show (if (4 * i + 2) % 4 = 0 then _ else if (4 * i + 2) % 4 = 1 then _ else if (4 * i + 2) % 4 = 2 then _ else _) = _
  rw [if_neg (by omega), if_neg (by omega), if_pos h1, h2]
theorem cE_desk (i : Nat) : cE ad cI cC cD n ph mn ar (4 * i + 9) = .inr (1, [.int (ar 3 i), .int (ar 4 i), .int (ar 5 i)]) := by
  have h2 : (4 * i + 3) / 4 = i := by omega
  show (if (4 * i + 3) % 4 = 0 then _ else if (4 * i + 3) % 4 = 1 then _ else if (4 * i + 3) % 4 = 2 then _ else _) = _
  rw [if_neg (by omega), if_neg (by omega), if_neg (by omega), h2]
theorem cE_cases {P : Nat → Prop} (h0 : P 0) (h1 : P 1) (h2 : P 2) (h3 : P 3) (h4 : P 4) (h5 : P 5) (hc : ∀ i, P (4 * i + 6)) (hw : ∀ i, P (4 * i + 7)) (hk : ∀ i, P (4 * i + 8)) (hd : ∀ i, P (4 * i + 9)) : ∀ q, P q := by
  intro q
  rcases (show q = 0 ∨ q = 1 ∨ q = 2 ∨ q = 3 ∨ q = 4 ∨ q = 5 ∨ 6 ≤ q by omega) with h | h | h | h | h | h | h
  · subst h; exact h0
  · subst h; exact h1
  · subst h; exact h2
  · subst h; exact h3
  · subst h; exact h4
  · subst h; exact h5
  · rcases (show (q - 6) % 4 = 0 ∨ (q - 6) % 4 = 1 ∨ (q - 6) % 4 = 2 ∨ (q - 6) % 4 = 3 by omega) with g | g | g | g
    · have := hc ((q - 6) / 4); rwa [show 4 * ((q - 6) / 4) + 6 = q by omega] at this
    · have := hw ((q - 6) / 4); rwa [show 4 * ((q - 6) / 4) + 7 = q by omega] at this
    · have := hk ((q - 6) / 4); rwa [show 4 * ((q - 6) / 4) + 8 = q by omega] at this
    · have := hd ((q - 6) / 4); rwa [show 4 * ((q - 6) / 4) + 9 = q by omega] at this
theorem upd_ne' {f : Nat → Int32} {k j : Nat} {x : Int32} (h : j ≠ k) : upd f k x j = f j := pk_un h

theorem cu_st (i : Nat) (v : Int32) : ∀ q : Nat, va_up (cE ad cI cC cD n ph mn ar) (4 * i + 6) (.inr (0, [.ref (ad (4 * i + 7)), .ref (ad (4 * i + 8)), .int v, .int (ar 7 i), .int (ar 8 i), .int (ar 9 i)])) q = cE ad cI cC cD n ph mn (va_up ar 6 (upd (ar 6) i v)) q := by
  refine cE_cases ?_ ?_ ?_ ?_ ?_ ?_ (fun j => ?_) (fun j => ?_) (fun j => ?_) (fun j => ?_)
  iterate 6 (rw [va_up_ne _ _ (by omega)]; rfl)
  · by_cases e : j = i
    · subst e; rw [va_up_self, cE_crew]; simp [va_up, upd]
    · rw [va_up_ne _ _ (by omega), cE_crew, cE_crew]; simp [va_up, upd, e]
  · rw [va_up_ne _ _ (by omega), cE_wr, cE_wr]; rfl
  · rw [va_up_ne _ _ (by omega), cE_kn, cE_kn]; rfl
  · rw [va_up_ne _ _ (by omega), cE_desk, cE_desk]; rfl

theorem cu_tg (i : Nat) (v : Int32) : ∀ q : Nat, va_up (cE ad cI cC cD n ph mn ar) (4 * i + 6) (.inr (0, [.ref (ad (4 * i + 7)), .ref (ad (4 * i + 8)), .int (ar 6 i), .int v, .int (ar 8 i), .int (ar 9 i)])) q = cE ad cI cC cD n ph mn (va_up ar 7 (upd (ar 7) i v)) q := by
  refine cE_cases ?_ ?_ ?_ ?_ ?_ ?_ (fun j => ?_) (fun j => ?_) (fun j => ?_) (fun j => ?_)
  iterate 6 (rw [va_up_ne _ _ (by omega)]; rfl)
  · by_cases e : j = i
    · subst e; rw [va_up_self, cE_crew]; simp [va_up, upd]
    · rw [va_up_ne _ _ (by omega), cE_crew, cE_crew]; simp [va_up, upd, e]
  · rw [va_up_ne _ _ (by omega), cE_wr, cE_wr]; rfl
  · rw [va_up_ne _ _ (by omega), cE_kn, cE_kn]; rfl
  · rw [va_up_ne _ _ (by omega), cE_desk, cE_desk]; rfl

theorem cu_nb (i : Nat) (v : Int32) : ∀ q : Nat, va_up (cE ad cI cC cD n ph mn ar) (4 * i + 6) (.inr (0, [.ref (ad (4 * i + 7)), .ref (ad (4 * i + 8)), .int (ar 6 i), .int (ar 7 i), .int v, .int (ar 9 i)])) q = cE ad cI cC cD n ph mn (va_up ar 8 (upd (ar 8) i v)) q := by
  refine cE_cases ?_ ?_ ?_ ?_ ?_ ?_ (fun j => ?_) (fun j => ?_) (fun j => ?_) (fun j => ?_)
  iterate 6 (rw [va_up_ne _ _ (by omega)]; rfl)
  · by_cases e : j = i
    · subst e; rw [va_up_self, cE_crew]; simp [va_up, upd]
    · rw [va_up_ne _ _ (by omega), cE_crew, cE_crew]; simp [va_up, upd, e]
  · rw [va_up_ne _ _ (by omega), cE_wr, cE_wr]; rfl
  · rw [va_up_ne _ _ (by omega), cE_kn, cE_kn]; rfl
  · rw [va_up_ne _ _ (by omega), cE_desk, cE_desk]; rfl

theorem cu_am (i : Nat) (v : Int32) : ∀ q : Nat, va_up (cE ad cI cC cD n ph mn ar) (4 * i + 6) (.inr (0, [.ref (ad (4 * i + 7)), .ref (ad (4 * i + 8)), .int (ar 6 i), .int (ar 7 i), .int (ar 8 i), .int v])) q = cE ad cI cC cD n ph mn (va_up ar 9 (upd (ar 9) i v)) q := by
  refine cE_cases ?_ ?_ ?_ ?_ ?_ ?_ (fun j => ?_) (fun j => ?_) (fun j => ?_) (fun j => ?_)
  iterate 6 (rw [va_up_ne _ _ (by omega)]; rfl)
  · by_cases e : j = i
    · subst e; rw [va_up_self, cE_crew]; simp [va_up, upd]
    · rw [va_up_ne _ _ (by omega), cE_crew, cE_crew]; simp [va_up, upd, e]
  · rw [va_up_ne _ _ (by omega), cE_wr, cE_wr]; rfl
  · rw [va_up_ne _ _ (by omega), cE_kn, cE_kn]; rfl
  · rw [va_up_ne _ _ (by omega), cE_desk, cE_desk]; rfl

theorem cu_pr (i : Nat) (v : Int32) : ∀ q : Nat, va_up (cE ad cI cC cD n ph mn ar) (4 * i + 9) (.inr (1, [.int v, .int (ar 4 i), .int (ar 5 i)])) q = cE ad cI cC cD n ph mn (va_up ar 3 (upd (ar 3) i v)) q := by
  refine cE_cases ?_ ?_ ?_ ?_ ?_ ?_ (fun j => ?_) (fun j => ?_) (fun j => ?_) (fun j => ?_)
  iterate 6 (rw [va_up_ne _ _ (by omega)]; rfl)
  · rw [va_up_ne _ _ (by omega), cE_crew, cE_crew]; rfl
  · rw [va_up_ne _ _ (by omega), cE_wr, cE_wr]; rfl
  · rw [va_up_ne _ _ (by omega), cE_kn, cE_kn]; rfl
  · by_cases e : j = i
    · subst e; rw [va_up_self, cE_desk]; simp [va_up, upd]
    · rw [va_up_ne _ _ (by omega), cE_desk, cE_desk]; simp [va_up, upd, e]

theorem cu_ho (i : Nat) (v : Int32) : ∀ q : Nat, va_up (cE ad cI cC cD n ph mn ar) (4 * i + 9) (.inr (1, [.int (ar 3 i), .int v, .int (ar 5 i)])) q = cE ad cI cC cD n ph mn (va_up ar 4 (upd (ar 4) i v)) q := by
  refine cE_cases ?_ ?_ ?_ ?_ ?_ ?_ (fun j => ?_) (fun j => ?_) (fun j => ?_) (fun j => ?_)
  iterate 6 (rw [va_up_ne _ _ (by omega)]; rfl)
  · rw [va_up_ne _ _ (by omega), cE_crew, cE_crew]; rfl
  · rw [va_up_ne _ _ (by omega), cE_wr, cE_wr]; rfl
  · rw [va_up_ne _ _ (by omega), cE_kn, cE_kn]; rfl
  · by_cases e : j = i
    · subst e; rw [va_up_self, cE_desk]; simp [va_up, upd]
    · rw [va_up_ne _ _ (by omega), cE_desk, cE_desk]; simp [va_up, upd, e]

theorem cu_dn (i : Nat) (v : Int32) : ∀ q : Nat, va_up (cE ad cI cC cD n ph mn ar) (4 * i + 9) (.inr (1, [.int (ar 3 i), .int (ar 4 i), .int v])) q = cE ad cI cC cD n ph mn (va_up ar 5 (upd (ar 5) i v)) q := by
  refine cE_cases ?_ ?_ ?_ ?_ ?_ ?_ (fun j => ?_) (fun j => ?_) (fun j => ?_) (fun j => ?_)
  iterate 6 (rw [va_up_ne _ _ (by omega)]; rfl)
  · rw [va_up_ne _ _ (by omega), cE_crew, cE_crew]; rfl
  · rw [va_up_ne _ _ (by omega), cE_wr, cE_wr]; rfl
  · rw [va_up_ne _ _ (by omega), cE_kn, cE_kn]; rfl
  · by_cases e : j = i
    · subst e; rw [va_up_self, cE_desk]; simp [va_up, upd]
    · rw [va_up_ne _ _ (by omega), cE_desk, cE_desk]; simp [va_up, upd, e]

theorem row_upd (k i j : Nat) (v : Int32) (hj : j < 6) (i2 : Nat) : row (va_up ar k (upd (ar k) (6 * i + j) v)) k i2 = if i2 = i then upd (row ar k i) j v else row ar k i2 := by
  funext q
  by_cases e : i2 = i
  · subst e
    rw [if_pos rfl]
    by_cases hq : q < 6
    · by_cases e2 : q = j
      · subst e2; simp [row, va_up, upd, hq]
      · have : ¬ 6 * i2 + q = 6 * i2 + j := by omega
        simp [row, va_up, upd, hq, e2]
    · have : ¬ q = j := by omega
      simp [row, upd, hq, this]
  · rw [if_neg e]
    by_cases hq : q < 6
    · have : ¬ 6 * i2 + q = 6 * i + j := by omega
      simp [row, va_up, upd, hq, this]
    · simp [row, hq]

theorem cu_W (i j : Nat) (v : Int32) (hj : j < 6) : ∀ q : Nat, va_up (cE ad cI cC cD n ph mn ar) (4 * i + 7) (.inl (cI, n, .inl (upd (row ar 1 i) j v))) q = cE ad cI cC cD n ph mn (va_up ar 1 (upd (ar 1) (6 * i + j) v)) q := by
  refine cE_cases ?_ ?_ ?_ ?_ ?_ ?_ (fun j2 => ?_) (fun j2 => ?_) (fun j2 => ?_) (fun j2 => ?_)
  iterate 6 (rw [va_up_ne _ _ (by omega)]; rfl)
  · rw [va_up_ne _ _ (by omega), cE_crew, cE_crew]; rfl
  · by_cases e : j2 = i
    · subst e; rw [va_up_self, cE_wr, row_upd 1 j2 j v hj, if_pos rfl]
    · rw [va_up_ne _ _ (by omega), cE_wr, cE_wr, row_upd 1 i j v hj, if_neg e]
  · rw [va_up_ne _ _ (by omega), cE_kn, cE_kn]; rfl
  · rw [va_up_ne _ _ (by omega), cE_desk, cE_desk]; rfl

theorem cu_K (i j : Nat) (v : Int32) (hj : j < 6) : ∀ q : Nat, va_up (cE ad cI cC cD n ph mn ar) (4 * i + 8) (.inl (cI, n, .inl (upd (row ar 2 i) j v))) q = cE ad cI cC cD n ph mn (va_up ar 2 (upd (ar 2) (6 * i + j) v)) q := by
  refine cE_cases ?_ ?_ ?_ ?_ ?_ ?_ (fun j2 => ?_) (fun j2 => ?_) (fun j2 => ?_) (fun j2 => ?_)
  iterate 6 (rw [va_up_ne _ _ (by omega)]; rfl)
  · rw [va_up_ne _ _ (by omega), cE_crew, cE_crew]; rfl
  · rw [va_up_ne _ _ (by omega), cE_wr, cE_wr]; rfl
  · by_cases e : j2 = i
    · subst e; rw [va_up_self, cE_kn, row_upd 2 j2 j v hj, if_pos rfl]
    · rw [va_up_ne _ _ (by omega), cE_kn, cE_kn, row_upd 2 i j v hj, if_neg e]
  · rw [va_up_ne _ _ (by omega), cE_desk, cE_desk]; rfl

theorem cu_ml (f : Nat → Int32) : ∀ q : Nat, va_up (cE ad cI cC cD n ph mn ar) 4 (.inl (cI, 400, .inl f)) q = cE ad cI cC cD n ph mn (va_up ar 10 f) q := by
  refine cE_cases ?_ ?_ ?_ ?_ ?_ ?_ (fun j2 => ?_) (fun j2 => ?_) (fun j2 => ?_) (fun j2 => ?_)
  · rw [va_up_ne _ _ (by omega)]; rfl
  · rw [va_up_ne _ _ (by omega)]; rfl
  · rw [va_up_ne _ _ (by omega)]; rfl
  · rw [va_up_ne _ _ (by omega)]; rfl
  · rw [va_up_self]; rfl
  · rw [va_up_ne _ _ (by omega)]; rfl
  · rw [va_up_ne _ _ (by omega), cE_crew, cE_crew]; rfl
  · rw [va_up_ne _ _ (by omega), cE_wr, cE_wr]; rfl
  · rw [va_up_ne _ _ (by omega), cE_kn, cE_kn]; rfl
  · rw [va_up_ne _ _ (by omega), cE_desk, cE_desk]; rfl

theorem cu_ct (f : Nat → Int32) : ∀ q : Nat, va_up (cE ad cI cC cD n ph mn ar) 5 (.inl (cI, 4, .inl f)) q = cE ad cI cC cD n ph mn (va_up ar 11 f) q := by
  refine cE_cases ?_ ?_ ?_ ?_ ?_ ?_ (fun j2 => ?_) (fun j2 => ?_) (fun j2 => ?_) (fun j2 => ?_)
  · rw [va_up_ne _ _ (by omega)]; rfl
  · rw [va_up_ne _ _ (by omega)]; rfl
  · rw [va_up_ne _ _ (by omega)]; rfl
  · rw [va_up_ne _ _ (by omega)]; rfl
  · rw [va_up_ne _ _ (by omega)]; rfl
  · rw [va_up_self]; rfl
  · rw [va_up_ne _ _ (by omega), cE_crew, cE_crew]; rfl
  · rw [va_up_ne _ _ (by omega), cE_wr, cE_wr]; rfl
  · rw [va_up_ne _ _ (by omega), cE_kn, cE_kn]; rfl
  · rw [va_up_ne _ _ (by omega), cE_desk, cE_desk]; rfl

theorem cu_mn (mn' : Nat) : ∀ q : Nat, va_up (cE ad cI cC cD n ph mn ar) 3 (.inr (2, [.ref (ad 4), .int (nI mn')])) q = cE ad cI cC cD n ph mn' ar q := by
  refine cE_cases ?_ ?_ ?_ ?_ ?_ ?_ (fun j2 => ?_) (fun j2 => ?_) (fun j2 => ?_) (fun j2 => ?_)
  · rw [va_up_ne _ _ (by omega)]; rfl
  · rw [va_up_ne _ _ (by omega)]; rfl
  · rw [va_up_ne _ _ (by omega)]; rfl
  · rw [va_up_self]; rfl
  · rw [va_up_ne _ _ (by omega)]; rfl
  · rw [va_up_ne _ _ (by omega)]; rfl
  · rw [va_up_ne _ _ (by omega), cE_crew, cE_crew]
  · rw [va_up_ne _ _ (by omega), cE_wr, cE_wr]
  · rw [va_up_ne _ _ (by omega), cE_kn, cE_kn]
  · rw [va_up_ne _ _ (by omega), cE_desk, cE_desk]

theorem cu_ph (ph' : Nat) : ∀ q : Nat, va_up (cE ad cI cC cD n ph mn ar) 0 (.inr (3, [.int (nI n), .ref (ad 1), .ref (ad 2), .ref (ad 3), .ref (ad 5), .int (nI ph')])) q = cE ad cI cC cD n ph' mn ar q := by
  refine cE_cases ?_ ?_ ?_ ?_ ?_ ?_ (fun j2 => ?_) (fun j2 => ?_) (fun j2 => ?_) (fun j2 => ?_)
  · rw [va_up_self]; rfl
  · rw [va_up_ne _ _ (by omega)]; rfl
  · rw [va_up_ne _ _ (by omega)]; rfl
  · rw [va_up_ne _ _ (by omega)]; rfl
  · rw [va_up_ne _ _ (by omega)]; rfl
  · rw [va_up_ne _ _ (by omega)]; rfl
  · rw [va_up_ne _ _ (by omega), cE_crew, cE_crew]
  · rw [va_up_ne _ _ (by omega), cE_wr, cE_wr]
  · rw [va_up_ne _ _ (by omega), cE_kn, cE_kn]
  · rw [va_up_ne _ _ (by omega), cE_desk, cE_desk]

end CE

theorem bw4 {a b c d : Cond} (h1 : a ∈ bw) (h2 : b ∈ bw) (h3 : c ∈ bw) (h4 : d ∈ bw) : ∀ w ∈ ([a, b, c, d] : List Cond), w ∈ bw :=
  List.forall_mem_cons.mpr ⟨h1, List.forall_mem_cons.mpr ⟨h2, List.forall_mem_cons.mpr ⟨h3, List.forall_mem_cons.mpr ⟨h4, fun _ h => absurd h List.not_mem_nil⟩⟩⟩⟩
section RC
variable {p : Program} {l : Launch} {e : Env} {R : Room} {s : State} {m : MethodId} {args : Array Value} {below : List Frame} {meth : Method} {c : Code} {H : Heap} {locs : List Loc} {cells slots : Nat} {Q : State → Prop}
variable {cc : ByteArray} {pc nL : Nat} {ls : Array Slot} {rest : List Value} {D : va_G} {A : Nat → Prop} {tys : List (ClassId × FieldType)} {EN : (Nat → Prop) → State → Heap → Prop} {ad : Nat → Nat} {N : Nat} {E E' : Nat → va_E} {own : String}
theorem rc_nw (wb : WB D tys ENC ad N A s E H locs) {w : Cond} (h : w ∈ nwW) : va_Nw w s := wb.2.2.2.2.2.1 w h
theorem rb_getN (S : CallFix p m c cc nL s args bw own) (wb : WB D tys EN ad N A s E H locs) (r0 : Nat) (hr : r0 < N) {ci : Nat} {fs : List Value} (hE : E r0 = .inr (ci, fs)) {C host : String} {T : u_T} {NF : Nat} (hc : vcl[ci]? = some (C, T, NF)) (hin : ∀ w ∈ u_ws C T NF, w ∈ bw) (k : Nat) (hk : k < NF) {index : Nat}
    (hlink : va_Nw (.fieldLinkNest own index (T k).1 (T k).2.1 (T k).2.2.1 host) s) {v : Value} (hv : fs[k]? = some v) (hdg : decode cc pc = .ok (.getfield index, 3))
    (kk : W p l e R s m args below meth c H locs cells slots Q (F0 m (pc + 3) ls (v :: rest))) : W p l e R s m args below meth c H locs cells slots Q (F0 m pc ls (.ref (ad r0) :: rest)) := by
  obtain ⟨hx, hb, -, hown, hts⟩ := S
  exact va_getN (D := D) (ci := ci) (C := C) (T := T) (N := NF) hx hb hts hin hown wb.1 wb.2.1 r0 (by rw [rlw_at hr, hE]) hc k hk (va_Nw.use rfl hlink) (fun _ h => h) hv hdg kk
theorem rb_putN (S : CallFix p m c cc nL s args bw own) (wb : WB D tys EN ad N A s E H locs) (r0 : Nat) (hr : r0 < N) {ci : Nat} {fs : List Value} (hE : E r0 = .inr (ci, fs)) {C host : String} {T : u_T} {NF : Nat} (hc : vcl[ci]? = some (C, T, NF)) (hin : ∀ w ∈ u_ws C T NF, w ∈ bw) (ty0 : Nat → FieldType)
    (hty : ∀ k, k < NF → parseFieldDescriptor (T k).2.2.1 = some (ty0 k)) (hnm : ∀ a, a < NF → ∀ b, b < NF → a ≠ b → (T a).2.1 ≠ (T b).2.1) (k : Nat) (hk : k < NF) {index : Nat}
    (hlink : va_Nw (.fieldLinkNest own index (T k).1 (T k).2.1 (T k).2.2.1 host) s) (hfin : (T k).2.2.2 = false) {v : Value} (hn : narrow (ty0 k) v = v) (hfit : fits (ty0 k) v = true) (hl : k < fs.length) (hE' : ∀ q, q < N → va_up E r0 (.inr (ci, fs.set k v)) q = E' q) (hdg : decode cc pc = .ok (.putfield index, 3))
    (kk : ∀ (H1 : Heap) (locs1 : List Loc), WB D tys EN ad N A s E' H1 locs1 → W p l e R s m args below meth c H1 locs1 cells slots Q (F0 m (pc + 3) ls rest)) : W p l e R s m args below meth c H locs cells slots Q (F0 m pc ls (v :: .ref (ad r0) :: rest)) := by
  obtain ⟨hx, hb, -, hown, hts⟩ := S
  obtain ⟨hK, hP, hD, hS, hA, hEN⟩ := wb
  refine va_putN (D := D) (ci := ci) (C := C) (T := T) (N := NF) (ty := ty0 k) hx hb hts hin ty0 hty hnm hown hK hP hD hS r0 (by rw [rlw_at hr, hE]) hc k hk (va_Nw.use rfl hlink) (fun _ h => h) hfin (hty k hk) hn hfit hl hdg (fun H1 locs1 h1 h2 h3 => ?_)
  rw [rlw_set hr, rlw_congr hE'] at h1 h2
  exact kk H1 locs1 ⟨hK, h1, h2, h3, hA, hEN⟩
theorem rb_aald (S : CallFix p m c cc nL s args bw own) (wb : WB D tys EN ad N A s E H locs) (r0 : Nat) (hr : r0 < N) {cA : ClassId} {C : String} {n : Nat} {f : Nat → Option Nat} (hE : E r0 = .inl (cA, n, .inr (.inr (.inr (.inr f))))) (t0 : Nat) (ht : tys[t0]? = some (cA, .object C)) (j : Nat) (hj : j < n) (hn : n < 2 ^ 31) {a : Nat} (hxv : f j = some a) (hdg : decode cc pc = .ok (.aaload, 1))
    (kk : W p l e R s m args below meth c H locs cells slots Q (F0 m (pc + 1) ls (.ref a :: rest))) : W p l e R s m args below meth c H locs cells slots Q (F0 m pc ls (.int (nI j) :: .ref (ad r0) :: rest)) := by
  obtain ⟨hx, hb, -, hown, hts⟩ := S
  refine va_aldq (D := D) hx hb wb.1 wb.2.1 r0 t0 (by rw [rlw_at hr, hE]) ht (vp_in_nI hj hn) hdg ?_
  rw [nI_clamp (by omega), hxv]
  exact kk
theorem rb_alen (S : CallFix p m c cc nL s args bw own) (wb : WB D tys EN ad N A s E H locs) (r0 : Nat) (hr : r0 < N) {cA : ClassId} {x : vp_A} (hE : E r0 = .inl (cA, x)) (t0 : Nat) {ty : FieldType} (ht : tys[t0]? = some (cA, ty)) {v : Int32} (hv : Int32.ofNat x.1 = v) (hdg : decode cc pc = .ok (.arraylength, 1))
    (kk : W p l e R s m args below meth c H locs cells slots Q (F0 m (pc + 1) ls (.int v :: rest))) : W p l e R s m args below meth c H locs cells slots Q (F0 m pc ls (.ref (ad r0) :: rest)) := by
  obtain ⟨hx, hb, -, hown, hts⟩ := S
  exact va_alen (D := D) hx hb wb.1 wb.2.1 r0 t0 (by rw [rlw_at hr, hE]) ht hv hdg kk
theorem rb_steps (S : CallFix p m c cc nL s args bw own) (wb : WB D tys ENC ad N A s E H locs) {index : Nat} (hlink : Cond.fieldLink own index "LetterAuction" "STEPS" "[I" ∈ bw) (hdg : decode cc pc = .ok (.getstatic index, 3))
    (kk : ∀ tS : Nat, va_T .int tS 4 (fun j => .int (stp j)) A s s.heap → W p l e R s m args below meth c H locs cells slots Q (F0 m (pc + 3) ls (.ref tS :: rest))) : W p l e R s m args below meth c H locs cells slots Q (F0 m pc ls rest) := by
  obtain ⟨hx, hb, -, hown, hts⟩ := S
  obtain ⟨hK, hP, hD, hS, hA, -, ⟨t, hZ, hT⟩, -⟩ := wb
  exact va_gets hx hb hZ hS hown (hts _ hlink) (fun _ h => h) hdg (kk t hT)
theorem rb_stepAt (S : CallFix p m c cc nL s args bw own) (wb : WB D tys ENC ad N A s E H locs) {tS : Nat} (hT : va_T .int tS 4 (fun j => .int (stp j)) A s s.heap) (j : Nat) (hj : j < 4) (hdg : decode cc pc = .ok (.iaload, 1))
    (kk : W p l e R s m args below meth c H locs cells slots Q (F0 m (pc + 1) ls (.int (stp j) :: rest))) : W p l e R s m args below meth c H locs cells slots Q (F0 m pc ls (.int (nI j) :: .ref tS :: rest)) := by
  obtain ⟨hx, hb, -, hown, hts⟩ := S
  refine va_ti hx hb hT wb.2.2.2.1 (vp_in_nI hj (by omega)) (v := .int (stp j)) ?_ hdg kk
  rw [nI_clamp (by omega)]
theorem rb_max (S : CallFix p m c cc nL s args bw own) {index : Nat} (hsize : ls.size = nL) (hlink : Cond.methodLink own index Lib.Math.max.name ∈ bw) (hstat : Cond.static Lib.Math.max.name ∈ bw) (hini : Cond.initialized "java/lang/Math" ∈ bw) (hcode : Cond.code Lib.Math.max.name Lib.Math.max.code 2 (some .int) ∈ bw)
    (hframes : 1 ≤ R.frames) (hlocals : (rest.map fun v => v.category).sum + 13 ≤ R.locals) (hc : cells ≤ R.cells) (hs : slots ≤ R.slots) {x y : Int32} (hdg : decode cc pc = .ok (.invokestatic index, 3))
    (kk : W p l e R s m args below meth c H locs cells slots Q (F0 m (pc + 3) ls (.int (if x < y then y else x) :: rest))) : W p l e R s m args below meth c H locs cells slots Q (F0 m pc ls (.int y :: .int x :: rest)) := by
  obtain ⟨hx, hb, hml, hown, hts⟩ := S
  exact va_mmax hx hb (hml.trans hsize.symm) hown (hts _ hlink) (hts _ hstat) (hts _ hini) (hts _ hcode) hframes hlocals hc hs hdg kk
theorem rb_copy (S : CallFix p m c cc nL s args bw own) (wb : WB D tys EN ad N A s E H locs) {index : Nat} (hsize : ls.size = nL) (hlink : Cond.methodLink own index arraycopyName ∈ bw) (hnat : Cond.native arraycopyName ∈ bw) (hstat : Cond.static arraycopyName ∈ bw) (hini : Cond.initialized "java/lang/System" ∈ bw)
    (r0 : Nat) (hr : r0 < N) {cA : ClassId} {n : Nat} {f : Nat → Int32} (hE : E r0 = .inl (cA, n, .inl f)) (t0 : Nat) (ht : tys[t0]? = some (cA, .int)) (sp dp k : Nat) (h4 : sp + k ≤ n) (h5 : dp + k ≤ n) (hn : n < 2 ^ 31) (hframes : 1 ≤ R.frames) (hlocals : (rest.map fun v => v.category).sum + (nativeFrameWords "java/lang/System" "arraycopy" 5 + 11) ≤ R.locals)
    (hE' : ∀ q, q < N → va_up E r0 (.inl (cA, n, .inl (va_cpy f f sp dp k))) q = E' q) (hdg : decode cc pc = .ok (.invokestatic index, 3))
    (kk : ∀ (H1 : Heap) (locs1 : List Loc), WB D tys EN ad N A s E' H1 locs1 → W p l e R s m args below meth c H1 locs1 cells slots Q (F0 m (pc + 3) ls rest)) : W p l e R s m args below meth c H locs cells slots Q (F0 m pc ls (.int (nI k) :: .int (nI dp) :: .ref (ad r0) :: .int (nI sp) :: .ref (ad r0) :: rest)) := by
  obtain ⟨hx, hb, hml, hown, hts⟩ := S
  obtain ⟨hK, hP, hD, hS, hA, hEN⟩ := wb
  refine va_copyi (D := D) (ty := .int) hx hb (hml.trans hsize.symm) hown (hts _ hlink) (hts _ hnat) (hts _ hstat) (hts _ hini) hK hP hD hS r0 r0 t0 t0 (by rw [rlw_at hr, hE]) (by rw [rlw_at hr, hE]) ht ht rfl (nI_pos (by omega)) (nI_pos (by omega)) (nI_pos (by omega))
    (by rw [nI_clamp (by omega), nI_clamp (by omega)]; exact h4) (by rw [nI_clamp (by omega), nI_clamp (by omega)]; exact h5) (fun _ _ => rfl) hframes hlocals hdg (fun H1 locs1 h1 h2 h3 => ?_)
  rw [nI_clamp (by omega), nI_clamp (by omega), nI_clamp (by omega), rlw_set hr, rlw_congr hE'] at h1 h2
  exact kk H1 locs1 ⟨hK, h1, h2, h3, hA, hEN⟩
/-- invokevirtual of a nest mate's private method -/
theorem rb_callVN (S : CallFix p m c cc nL s args bw own) (wb : WB D tys EN ad N A s E H locs) (hok : ENok EN) {y : MethodName} {cc2 : ByteArray} {nL2 : Nat} {ret2 : Option FieldType} {rm2 : Room} {b : Nat} {As : List Value} {r : Option Value} {index na : Nat} {host : String}
    (hM : RM l y cc2 nL2 ret2 rm2 D tys EN (.ref b :: As) ad N E E' r) (hl : va_Nw (.methodLinkNest own index y host) s) (hwd : ∀ w ∈ ([.instanceMethod y, .selects y.cls y y, .initialized y.cls, .code y cc2 nL2 ret2] : List Cond), w ∈ bw)
    (hrecv : ∃ cell : Cell, H[b]? = some cell ∧ cell.vm.isStatics = false ∧ s.vm.findClass y.cls = some cell.cls) (hd : y.cls = y.cls ∧ y.cls ≠ "java/lang/invoke/MethodHandle" ∧ y.cls ≠ "java/lang/invoke/VarHandle" ∧ (parseMethodDescriptor y.desc).map (fun d => d.parameters.length) = some na) (hna : As.length = na)
    (hz : rm2.cells = 0 ∧ rm2.slots = 0) (hR : rm2.frames + 1 ≤ R.frames ∧ 8 + (nL2 + 11) + rm2.locals ≤ R.locals) (hsize : ls.size = nL) (hroom : (rest.map fun v => v.category).sum ≤ 8) (hcs : cells ≤ R.cells ∧ slots ≤ R.slots) {st0 st1 : List Value} (hst : st0 = As.reverse ++ .ref b :: rest) (hst1 : r.toList ++ rest = st1) (hdg : decode cc pc = .ok (.invokevirtual index, 3))
    (kk : ∀ (H1 : Heap) (locs1 : List Loc), WB D tys EN ad N A s E' H1 locs1 → W p l e R s m args below meth c H1 locs1 cells slots Q (F0 m (pc + 3) ls st1)) : W p l e R s m args below meth c H locs cells slots Q (F0 m pc ls st0) := by
  subst hst; subst hst1; subst hna
  have hi : Cond.initialized y.cls ∈ bw := hwd _ (by simp)
  refine rb_back wb (g := F0 m pc ls []) (va_runVN (As := As) (rest := rest) (n := As.length) (C := y.cls) (b := b) (host := host) (bytes := cc2) (maxL := nL2) (ret := ret2) (index := index) S (hM H.size) ⟨va_cnB As.length S.2.2.2.2 (bw_GI (fun _ h => h) ?_) rfl hz.1 hz.2 hl (S.2.2.2.2 _ hi) hd.2 hR, S.2.2.2.2 _ (hwd _ (by simp)), S.2.2.2.2 _ (hwd _ (by simp))⟩ ⟨(rb_pre wb hok _).1, hrecv, (rb_pre wb hok _).2⟩ rfl rfl hsize rfl (lv_room hroom) hdg hcs) kk
  intro w hw
  rcases List.mem_cons.mp hw with h | h
  · exact hwd w (by rw [h]; simp)
  · exact h
theorem rb_callS (S : CallFix p m c cc nL s args bw own) (wb : WB D tys EN ad N A s E H locs) (hok : ENok EN) {y : MethodName} {cc2 : ByteArray} {nL2 : Nat} {ret2 : Option FieldType} {rm2 : Room} {As : List Value} {r : Option Value} {index na : Nat}
    (hM : RM l y cc2 nL2 ret2 rm2 D tys EN As ad N E E' r) (hwd : ∀ w ∈ ([.methodLink own index y, .static y, .initialized y.cls, .code y cc2 nL2 ret2] : List Cond), w ∈ bw)
    (hd : y.cls = y.cls ∧ y.cls ≠ "java/lang/invoke/MethodHandle" ∧ y.cls ≠ "java/lang/invoke/VarHandle" ∧ (parseMethodDescriptor y.desc).map (fun d => d.parameters.length) = some na) (hna : As.length = na)
    (hz : rm2.cells = 0 ∧ rm2.slots = 0) (hR : rm2.frames + 1 ≤ R.frames ∧ 8 + (nL2 + 11) + rm2.locals ≤ R.locals) (hsize : ls.size = nL) (hroom : (rest.map fun v => v.category).sum ≤ 8) (hcs : cells ≤ R.cells ∧ slots ≤ R.slots) {st0 st1 : List Value} (hst : st0 = As.reverse ++ rest) (hst1 : r.toList ++ rest = st1) (hdg : decode cc pc = .ok (.invokestatic index, 3))
    (kk : ∀ (H1 : Heap) (locs1 : List Loc), WB D tys EN ad N A s E' H1 locs1 → W p l e R s m args below meth c H1 locs1 cells slots Q (F0 m (pc + 3) ls st1)) : W p l e R s m args below meth c H locs cells slots Q (F0 m pc ls st0) := by
  subst hst; subst hst1; subst hna
  refine rb_back wb (g := F0 m pc ls []) (va_runS (As := As) (rest := rest) (n := As.length) (bytes := cc2) (maxL := nL2) (ret := ret2) (index := index) S (hM H.size) (va_cwS As.length S.2.2.2.2 (bw_GI (fun _ h => h) ?_) rfl hz.1 hz.2 hd.2 hR) (rb_pre wb hok _) rfl rfl hsize rfl (lv_room hroom) hdg hcs) kk
  intro w hw
  unfold va_wsS at hw
  rcases List.mem_append.mp hw with h | h
  · exact hwd w (by simp only [List.mem_cons, List.not_mem_nil, or_false] at h ⊢; rcases h with h | h | h <;> simp [h])
  · rcases List.mem_cons.mp h with h | h
    · exact hwd w (by rw [h]; simp)
    · exact h
end RC
end
