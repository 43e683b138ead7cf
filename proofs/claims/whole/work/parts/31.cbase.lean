/-! the class: what its methods lean on beside their world; its world; rows -/

def nwW : List Cond := [Cond.methodLinkNest "LetterAuction" (34 : Nat) ({ cls := "LetterAuction$Crew", name := "<init>", desc := "(I)V" } : MethodName) "LetterAuction", Cond.fieldLinkNest "LetterAuction" (67 : Nat) "LetterAuction$Crew" "worths" "[I" "LetterAuction", Cond.fieldLinkNest "LetterAuction" (126 : Nat) "LetterAuction$Crew" "prices" "[I" "LetterAuction", Cond.fieldLinkNest "LetterAuction" (82 : Nat) "LetterAuction$Crew" "state" "I" "LetterAuction", Cond.fieldLinkNest "LetterAuction" (73 : Nat) "LetterAuction$Crew" "target" "I" "LetterAuction", Cond.fieldLinkNest "LetterAuction" (119 : Nat) "LetterAuction$Crew" "number" "I" "LetterAuction", Cond.fieldLinkNest "LetterAuction" (147 : Nat) "LetterAuction$Crew" "amount" "I" "LetterAuction", Cond.methodLinkNest "LetterAuction" (37 : Nat) ({ cls := "LetterAuction$Desk", name := "<init>", desc := "()V" } : MethodName) "LetterAuction", Cond.fieldLinkNest "LetterAuction" (129 : Nat) "LetterAuction$Desk" "price" "I" "LetterAuction", Cond.fieldLinkNest "LetterAuction" (132 : Nat) "LetterAuction$Desk" "holder" "I" "LetterAuction", Cond.fieldLinkNest "LetterAuction" (135 : Nat) "LetterAuction$Desk" "number" "I" "LetterAuction", Cond.methodLinkNest "LetterAuction" (40 : Nat) ({ cls := "LetterAuction$Post", name := "<init>", desc := "()V" } : MethodName) "LetterAuction", Cond.fieldLinkNest "LetterAuction" (85 : Nat) "LetterAuction$Post" "size" "I" "LetterAuction", Cond.methodLinkNest "LetterAuction" (136 : Nat) ({ cls := "LetterAuction$Desk", name := "has", desc := "(II)Z" } : MethodName) "LetterAuction", Cond.methodLinkNest "LetterAuction" (70 : Nat) ({ cls := "LetterAuction$Post", name := "clear", desc := "()V" } : MethodName) "LetterAuction", Cond.methodLinkNest "LetterAuction" (76 : Nat) ({ cls := "LetterAuction$Desk", name := "dismiss", desc := "()V" } : MethodName) "LetterAuction", Cond.methodLinkNest "LetterAuction" (79 : Nat) ({ cls := "LetterAuction$Crew", name := "release", desc := "()V" } : MethodName) "LetterAuction", Cond.methodLinkNest "LetterAuction" (89 : Nat) ({ cls := "LetterAuction$Crew", name := "chooseBid", desc := "(I)V" } : MethodName) "LetterAuction", Cond.methodLinkNest "LetterAuction" (115 : Nat) ({ cls := "LetterAuction$Post", name := "add", desc := "(IIIII)V" } : MethodName) "LetterAuction", Cond.methodLinkNest "LetterAuction" (98 : Nat) ({ cls := "LetterAuction$Post", name := "part", desc := "(II)I" } : MethodName) "LetterAuction", Cond.methodLinkNest "LetterAuction" (101 : Nat) ({ cls := "LetterAuction$Post", name := "remove", desc := "(I)V" } : MethodName) "LetterAuction", Cond.methodLinkNest "LetterAuction" (108 : Nat) ({ cls := "LetterAuction$Crew", name := "learn", desc := "(II)V" } : MethodName) "LetterAuction", Cond.methodLinkNest "LetterAuction" (112 : Nat) ({ cls := "LetterAuction$Crew", name := "hear", desc := "(II)V" } : MethodName) "LetterAuction", Cond.methodLinkNest "LetterAuction" (143 : Nat) ({ cls := "LetterAuction$Crew", name := "scaledWorth", desc := "(I)I" } : MethodName) "LetterAuction", Cond.castable "java/lang/IllegalArgumentException" "java/lang/IllegalArgumentException", Cond.castable "java/lang/IllegalStateException" "java/lang/IllegalStateException", Cond.castable "java/lang/IndexOutOfBoundsException" "java/lang/IndexOutOfBoundsException", Cond.declares (Bundle.initS "java/lang/RuntimeException"), Cond.declares (Bundle.initS "java/lang/Exception"), Cond.declares (Bundle.initS "java/lang/Throwable")]

theorem nw_0 : Cond.methodLinkNest "LetterAuction" (34 : Nat) ({ cls := "LetterAuction$Crew", name := "<init>", desc := "(I)V" } : MethodName) "LetterAuction" ∈ nwW := List.mem_of_getElem? (i := 0) rfl

theorem nw_1 : Cond.fieldLinkNest "LetterAuction" (67 : Nat) "LetterAuction$Crew" "worths" "[I" "LetterAuction" ∈ nwW := List.mem_of_getElem? (i := 1) rfl

theorem nw_2 : Cond.fieldLinkNest "LetterAuction" (126 : Nat) "LetterAuction$Crew" "prices" "[I" "LetterAuction" ∈ nwW := List.mem_of_getElem? (i := 2) rfl

theorem nw_3 : Cond.fieldLinkNest "LetterAuction" (82 : Nat) "LetterAuction$Crew" "state" "I" "LetterAuction" ∈ nwW := List.mem_of_getElem? (i := 3) rfl

theorem nw_4 : Cond.fieldLinkNest "LetterAuction" (73 : Nat) "LetterAuction$Crew" "target" "I" "LetterAuction" ∈ nwW := List.mem_of_getElem? (i := 4) rfl

theorem nw_5 : Cond.fieldLinkNest "LetterAuction" (119 : Nat) "LetterAuction$Crew" "number" "I" "LetterAuction" ∈ nwW := List.mem_of_getElem? (i := 5) rfl

theorem nw_6 : Cond.fieldLinkNest "LetterAuction" (147 : Nat) "LetterAuction$Crew" "amount" "I" "LetterAuction" ∈ nwW := List.mem_of_getElem? (i := 6) rfl

theorem nw_7 : Cond.methodLinkNest "LetterAuction" (37 : Nat) ({ cls := "LetterAuction$Desk", name := "<init>", desc := "()V" } : MethodName) "LetterAuction" ∈ nwW := List.mem_of_getElem? (i := 7) rfl

theorem nw_8 : Cond.fieldLinkNest "LetterAuction" (129 : Nat) "LetterAuction$Desk" "price" "I" "LetterAuction" ∈ nwW := List.mem_of_getElem? (i := 8) rfl

theorem nw_9 : Cond.fieldLinkNest "LetterAuction" (132 : Nat) "LetterAuction$Desk" "holder" "I" "LetterAuction" ∈ nwW := List.mem_of_getElem? (i := 9) rfl

theorem nw_10 : Cond.fieldLinkNest "LetterAuction" (135 : Nat) "LetterAuction$Desk" "number" "I" "LetterAuction" ∈ nwW := List.mem_of_getElem? (i := 10) rfl

theorem nw_11 : Cond.methodLinkNest "LetterAuction" (40 : Nat) ({ cls := "LetterAuction$Post", name := "<init>", desc := "()V" } : MethodName) "LetterAuction" ∈ nwW := List.mem_of_getElem? (i := 11) rfl

theorem nw_12 : Cond.fieldLinkNest "LetterAuction" (85 : Nat) "LetterAuction$Post" "size" "I" "LetterAuction" ∈ nwW := List.mem_of_getElem? (i := 12) rfl

theorem nw_13 : Cond.methodLinkNest "LetterAuction" (136 : Nat) ({ cls := "LetterAuction$Desk", name := "has", desc := "(II)Z" } : MethodName) "LetterAuction" ∈ nwW := List.mem_of_getElem? (i := 13) rfl

theorem nw_14 : Cond.methodLinkNest "LetterAuction" (70 : Nat) ({ cls := "LetterAuction$Post", name := "clear", desc := "()V" } : MethodName) "LetterAuction" ∈ nwW := List.mem_of_getElem? (i := 14) rfl

theorem nw_15 : Cond.methodLinkNest "LetterAuction" (76 : Nat) ({ cls := "LetterAuction$Desk", name := "dismiss", desc := "()V" } : MethodName) "LetterAuction" ∈ nwW := List.mem_of_getElem? (i := 15) rfl

theorem nw_16 : Cond.methodLinkNest "LetterAuction" (79 : Nat) ({ cls := "LetterAuction$Crew", name := "release", desc := "()V" } : MethodName) "LetterAuction" ∈ nwW := List.mem_of_getElem? (i := 16) rfl

theorem nw_17 : Cond.methodLinkNest "LetterAuction" (89 : Nat) ({ cls := "LetterAuction$Crew", name := "chooseBid", desc := "(I)V" } : MethodName) "LetterAuction" ∈ nwW := List.mem_of_getElem? (i := 17) rfl

theorem nw_18 : Cond.methodLinkNest "LetterAuction" (115 : Nat) ({ cls := "LetterAuction$Post", name := "add", desc := "(IIIII)V" } : MethodName) "LetterAuction" ∈ nwW := List.mem_of_getElem? (i := 18) rfl

theorem nw_19 : Cond.methodLinkNest "LetterAuction" (98 : Nat) ({ cls := "LetterAuction$Post", name := "part", desc := "(II)I" } : MethodName) "LetterAuction" ∈ nwW := List.mem_of_getElem? (i := 19) rfl

theorem nw_20 : Cond.methodLinkNest "LetterAuction" (101 : Nat) ({ cls := "LetterAuction$Post", name := "remove", desc := "(I)V" } : MethodName) "LetterAuction" ∈ nwW := List.mem_of_getElem? (i := 20) rfl

theorem nw_21 : Cond.methodLinkNest "LetterAuction" (108 : Nat) ({ cls := "LetterAuction$Crew", name := "learn", desc := "(II)V" } : MethodName) "LetterAuction" ∈ nwW := List.mem_of_getElem? (i := 21) rfl

theorem nw_22 : Cond.methodLinkNest "LetterAuction" (112 : Nat) ({ cls := "LetterAuction$Crew", name := "hear", desc := "(II)V" } : MethodName) "LetterAuction" ∈ nwW := List.mem_of_getElem? (i := 22) rfl

theorem nw_23 : Cond.methodLinkNest "LetterAuction" (143 : Nat) ({ cls := "LetterAuction$Crew", name := "scaledWorth", desc := "(I)I" } : MethodName) "LetterAuction" ∈ nwW := List.mem_of_getElem? (i := 23) rfl

theorem nw_24 : Cond.castable "java/lang/IllegalArgumentException" "java/lang/IllegalArgumentException" ∈ nwW := List.mem_of_getElem? (i := 24) rfl

theorem nw_25 : Cond.castable "java/lang/IllegalStateException" "java/lang/IllegalStateException" ∈ nwW := List.mem_of_getElem? (i := 25) rfl

theorem nw_26 : Cond.castable "java/lang/IndexOutOfBoundsException" "java/lang/IndexOutOfBoundsException" ∈ nwW := List.mem_of_getElem? (i := 26) rfl

theorem nw_27 : Cond.declares (Bundle.initS "java/lang/RuntimeException") ∈ nwW := List.mem_of_getElem? (i := 27) rfl

theorem nw_28 : Cond.declares (Bundle.initS "java/lang/Exception") ∈ nwW := List.mem_of_getElem? (i := 28) rfl

theorem nw_29 : Cond.declares (Bundle.initS "java/lang/Throwable") ∈ nwW := List.mem_of_getElem? (i := 29) rfl

theorem nw_warm {s U : State} (hW : s.WarmedH U.vm) : ∀ w ∈ nwW, va_Nw w s → va_Nw w U := by
  unfold nwW
  refine List.forall_mem_cons.mpr ⟨fun h => va_Nw.warmM hW h, ?_⟩
  refine List.forall_mem_cons.mpr ⟨fun h => va_Nw.warmF hW h, ?_⟩
  refine List.forall_mem_cons.mpr ⟨fun h => va_Nw.warmF hW h, ?_⟩
  refine List.forall_mem_cons.mpr ⟨fun h => va_Nw.warmF hW h, ?_⟩
  refine List.forall_mem_cons.mpr ⟨fun h => va_Nw.warmF hW h, ?_⟩
  refine List.forall_mem_cons.mpr ⟨fun h => va_Nw.warmF hW h, ?_⟩
  refine List.forall_mem_cons.mpr ⟨fun h => va_Nw.warmF hW h, ?_⟩
  refine List.forall_mem_cons.mpr ⟨fun h => va_Nw.warmM hW h, ?_⟩
  refine List.forall_mem_cons.mpr ⟨fun h => va_Nw.warmF hW h, ?_⟩
  refine List.forall_mem_cons.mpr ⟨fun h => va_Nw.warmF hW h, ?_⟩
  refine List.forall_mem_cons.mpr ⟨fun h => va_Nw.warmF hW h, ?_⟩
  refine List.forall_mem_cons.mpr ⟨fun h => va_Nw.warmM hW h, ?_⟩
  refine List.forall_mem_cons.mpr ⟨fun h => va_Nw.warmF hW h, ?_⟩
  refine List.forall_mem_cons.mpr ⟨fun h => va_Nw.warmM hW h, ?_⟩
  refine List.forall_mem_cons.mpr ⟨fun h => va_Nw.warmM hW h, ?_⟩
  refine List.forall_mem_cons.mpr ⟨fun h => va_Nw.warmM hW h, ?_⟩
  refine List.forall_mem_cons.mpr ⟨fun h => va_Nw.warmM hW h, ?_⟩
  refine List.forall_mem_cons.mpr ⟨fun h => va_Nw.warmM hW h, ?_⟩
  refine List.forall_mem_cons.mpr ⟨fun h => va_Nw.warmM hW h, ?_⟩
  refine List.forall_mem_cons.mpr ⟨fun h => va_Nw.warmM hW h, ?_⟩
  refine List.forall_mem_cons.mpr ⟨fun h => va_Nw.warmM hW h, ?_⟩
  refine List.forall_mem_cons.mpr ⟨fun h => va_Nw.warmM hW h, ?_⟩
  refine List.forall_mem_cons.mpr ⟨fun h => va_Nw.warmM hW h, ?_⟩
  refine List.forall_mem_cons.mpr ⟨fun h => va_Nw.warmM hW h, ?_⟩
  refine List.forall_mem_cons.mpr ⟨fun h => va_Nw.warmC hW h, ?_⟩
  refine List.forall_mem_cons.mpr ⟨fun h => va_Nw.warmC hW h, ?_⟩
  refine List.forall_mem_cons.mpr ⟨fun h => va_Nw.warmC hW h, ?_⟩
  refine List.forall_mem_cons.mpr ⟨fun h => va_Nw.warmD hW h, ?_⟩
  refine List.forall_mem_cons.mpr ⟨fun h => va_Nw.warmD hW h, ?_⟩
  refine List.forall_mem_cons.mpr ⟨fun h => va_Nw.warmD hW h, ?_⟩
  exact fun w hw => absurd hw List.not_mem_nil

def stp (k : Nat) : Int32 := match k with
  | 0 => 64
  | 1 => 16
  | 2 => 4
  | _ => 1
def ENC : (Nat → Prop) → State → Heap → Prop := fun A U H =>
  (∀ w ∈ nwW, va_Nw w U) ∧ (∃ t : Nat, va_Z "LetterAuction" "STEPS" "[I" (.ref t) A U H ∧ va_T .int t 4 (fun j => .int (stp j)) A U H) ∧
  vx_Zq Bundle.tN "UNASSIGNED_STACK" Bundle.steD A U H ∧ vx_Zq Bundle.tN "SUPPRESSED_SENTINEL" Bundle.listD A U H ∧
  (∃ a : Nat, vk_R "LetterAuction" 162 "an argument is out of range" a U) ∧ (∃ a : Nat, vk_R "LetterAuction" 167 "the call does not fit the state" a U) ∧ (∃ a : Nat, vk_R "LetterAuction" 155 "there is no such letter" a U) ∧
  va_Nc "java/lang/IllegalStateException" "java/lang/IllegalArgumentException" U ∧ va_Nc "java/lang/IllegalStateException" "java/lang/IndexOutOfBoundsException" U ∧ va_Nc "java/lang/IllegalArgumentException" "java/lang/IndexOutOfBoundsException" U
theorem ENC_ok : ENok ENC := by
  refine ⟨fun A s U H hW h => ?_, fun A s H H1 h hq => ?_, fun A B s H h hAB => ?_⟩
  · obtain ⟨h1, ⟨t, h2, h3⟩, h4, h5, ⟨a1, h6⟩, ⟨a2, h7⟩, ⟨a3, h8⟩, h9, h10, h11⟩ := h
    exact ⟨fun w hw => nw_warm hW w hw (h1 w hw), ⟨t, va_Z.moved hW.alike h2, va_T.moved hW.alike h3⟩, vx_Zq.moved hW.alike h4, vx_Zq.moved hW.alike h5, ⟨a1, vk_R.warm hW h6⟩, ⟨a2, vk_R.warm hW h7⟩, ⟨a3, vk_R.warm hW h8⟩, va_Nc.moved hW.alike h9, va_Nc.moved hW.alike h10, va_Nc.moved hW.alike h11⟩
  · obtain ⟨h1, ⟨t, h2, h3⟩, h4, h5, h6⟩ := h
    exact ⟨h1, ⟨t, va_Z.kept h2 hq, va_T.kept h3 hq⟩, vx_Zq.kept h4 hq, vx_Zq.kept h5 hq, h6⟩
  · obtain ⟨h1, ⟨t, h2, h3⟩, h4, h5, h6⟩ := h
    exact ⟨h1, ⟨t, va_Z.narrow h2 hAB, va_T.narrow h3 hAB⟩, vx_Zq.narrow h4 hAB, vx_Zq.narrow h5 hAB, h6⟩

def row (ar : Nat → Nat → Int32) (k i : Nat) : Nat → Int32 := fun j => if j < 6 then ar k (6 * i + j) else 0
def cE (ad : Nat → Nat) (cI cC cD : ClassId) (n ph mn : Nat) (ar : Nat → Nat → Int32) : Nat → va_E := fun r => match r with
  | 0 => .inr (3, [.int (nI n), .ref (ad 1), .ref (ad 2), .ref (ad 3), .ref (ad 5), .int (nI ph)])
  | 1 => .inl (cC, n, .inr (.inr (.inr (.inr (fun i => some (ad (4 * i + 6)))))))
  | 2 => .inl (cD, n, .inr (.inr (.inr (.inr (fun i => some (ad (4 * i + 9)))))))
  | 3 => .inr (2, [.ref (ad 4), .int (nI mn)])
  | 4 => .inl (cI, 400, .inl (ar 10))
  | 5 => .inl (cI, 4, .inl (ar 11))
  | r + 6 => if r % 4 = 0 then .inr (0, [.ref (ad (4 * (r / 4) + 7)), .ref (ad (4 * (r / 4) + 8)), .int (ar 6 (r / 4)), .int (ar 7 (r / 4)), .int (ar 8 (r / 4)), .int (ar 9 (r / 4))])
    else if r % 4 = 1 then .inl (cI, n, .inl (row ar 1 (r / 4))) else if r % 4 = 2 then .inl (cI, n, .inl (row ar 2 (r / 4))) else .inr (1, [.int (ar 3 (r / 4)), .int (ar 4 (r / 4)), .int (ar 5 (r / 4))])
section CE
variable {ad : Nat → Nat} {cI cC cD : ClassId} {n ph mn : Nat} {ar : Nat → Nat → Int32}
theorem cE_crew (i : Nat) : cE ad cI cC cD n ph mn ar (4 * i + 6) = .inr (0, [.ref (ad (4 * i + 7)), .ref (ad (4 * i + 8)), .int (ar 6 i), .int (ar 7 i), .int (ar 8 i), .int (ar 9 i)]) := by
  have h1 : 4 * i % 4 = 0 := by omega
  have h2 : 4 * i / 4 = i := by omega
  show (if 4 * i % 4 = 0 then _ else _) = _
  rw [if_pos h1, h2]
theorem cE_wr (i : Nat) : cE ad cI cC cD n ph mn ar (4 * i + 7) = .inl (cI, n, .inl (row ar 1 i)) := by
  have h1 : (4 * i + 1) % 4 = 1 := by omega
  have h2 : (4 * i + 1) / 4 = i := by omega
  show (if (4 * i + 1) % 4 = 0 then _ else if (4 * i + 1) % 4 = 1 then _ else _) = _
  rw [if_neg (by omega), if_pos h1, h2]
theorem cE_kn (i : Nat) : cE ad cI cC cD n ph mn ar (4 * i + 8) = .inl (cI, n, .inl (row ar 2 i)) := by
  have h1 : (4 * i + 2) % 4 = 2 := by omega
  have h2 : (4 * i + 2) / 4 = i := by omega
  show (if (4 * i + 2) % 4 = 0 then _ else if (4 * i + 2) % 4 = 1 then _ else if (4 * i + 2) % 4 = 2 then _ else _) = _
  rw [if_neg (by omega), if_neg (by omega), if_pos h1, h2]
theorem cE_desk (i : Nat) : cE ad cI cC cD n ph mn ar (4 * i + 9) = .inr (1, [.int (ar 3 i), .int (ar 4 i), .int (ar 5 i)]) := by
  have h2 : (4 * i + 3) / 4 = i := by omega
  show (if (4 * i + 3) % 4 = 0 then _ else if (4 * i + 3) % 4 = 1 then _ else if (4 * i + 3) % 4 = 2 then _ else _) = _
  rw [if_neg (by omega), if_neg (by omega), if_neg (by omega), h2]
theorem cE_cases {P : Nat → Prop} (h0 : P 0) (h1 : P 1) (h2 : P 2) (h3 : P 3) (h4 : P 4) (h5 : P 5) (hc : ∀ i, P (4 * i + 6)) (hw : ∀ i, P (4 * i + 7)) (hk : ∀ i, P (4 * i + 8)) (hd : ∀ i, P (4 * i + 9)) : ∀ q, P q := by
  intro q
  rcases (show q = 0 ∨ q = 1 ∨ q = 2 ∨ q = 3 ∨ q = 4 ∨ q = 5 ∨ 6 ≤ q by omega) with h | h | h | h | h | h | h
  · subst h; exact h0
  · subst h; exact h1
  · subst h; exact h2
  · subst h; exact h3
  · subst h; exact h4
  · subst h; exact h5
  · rcases (show (q - 6) % 4 = 0 ∨ (q - 6) % 4 = 1 ∨ (q - 6) % 4 = 2 ∨ (q - 6) % 4 = 3 by omega) with g | g | g | g
    · have := hc ((q - 6) / 4); rwa [show 4 * ((q - 6) / 4) + 6 = q by omega] at this
    · have := hw ((q - 6) / 4); rwa [show 4 * ((q - 6) / 4) + 7 = q by omega] at this
    · have := hk ((q - 6) / 4); rwa [show 4 * ((q - 6) / 4) + 8 = q by omega] at this
    · have := hd ((q - 6) / 4); rwa [show 4 * ((q - 6) / 4) + 9 = q by omega] at this
theorem upd_ne' {f : Nat → Int32} {k j : Nat} {x : Int32} (h : j ≠ k) : upd f k x j = f j := pk_un h

theorem cu_st (i : Nat) (v : Int32) : ∀ q : Nat, va_up (cE ad cI cC cD n ph mn ar) (4 * i + 6) (.inr (0, [.ref (ad (4 * i + 7)), .ref (ad (4 * i + 8)), .int v, .int (ar 7 i), .int (ar 8 i), .int (ar 9 i)])) q = cE ad cI cC cD n ph mn (va_up ar 6 (upd (ar 6) i v)) q := by
  refine cE_cases ?_ ?_ ?_ ?_ ?_ ?_ (fun j => ?_) (fun j => ?_) (fun j => ?_) (fun j => ?_)
  iterate 6 (rw [va_up_ne _ _ (by omega)]; rfl)
  · by_cases e : j = i
    · subst e; rw [va_up_self, cE_crew]; simp [va_up, upd]
    · rw [va_up_ne _ _ (by omega), cE_crew, cE_crew]; simp [va_up, upd, e]
  · rw [va_up_ne _ _ (by omega), cE_wr, cE_wr]; rfl
  · rw [va_up_ne _ _ (by omega), cE_kn, cE_kn]; rfl
  · rw [va_up_ne _ _ (by omega), cE_desk, cE_desk]; rfl

theorem cu_tg (i : Nat) (v : Int32) : ∀ q : Nat, va_up (cE ad cI cC cD n ph mn ar) (4 * i + 6) (.inr (0, [.ref (ad (4 * i + 7)), .ref (ad (4 * i + 8)), .int (ar 6 i), .int v, .int (ar 8 i), .int (ar 9 i)])) q = cE ad cI cC cD n ph mn (va_up ar 7 (upd (ar 7) i v)) q := by
  refine cE_cases ?_ ?_ ?_ ?_ ?_ ?_ (fun j => ?_) (fun j => ?_) (fun j => ?_) (fun j => ?_)
  iterate 6 (rw [va_up_ne _ _ (by omega)]; rfl)
  · by_cases e : j = i
    · subst e; rw [va_up_self, cE_crew]; simp [va_up, upd]
    · rw [va_up_ne _ _ (by omega), cE_crew, cE_crew]; simp [va_up, upd, e]
  · rw [va_up_ne _ _ (by omega), cE_wr, cE_wr]; rfl
  · rw [va_up_ne _ _ (by omega), cE_kn, cE_kn]; rfl
  · rw [va_up_ne _ _ (by omega), cE_desk, cE_desk]; rfl

theorem cu_nb (i : Nat) (v : Int32) : ∀ q : Nat, va_up (cE ad cI cC cD n ph mn ar) (4 * i + 6) (.inr (0, [.ref (ad (4 * i + 7)), .ref (ad (4 * i + 8)), .int (ar 6 i), .int (ar 7 i), .int v, .int (ar 9 i)])) q = cE ad cI cC cD n ph mn (va_up ar 8 (upd (ar 8) i v)) q := by
  refine cE_cases ?_ ?_ ?_ ?_ ?_ ?_ (fun j => ?_) (fun j => ?_) (fun j => ?_) (fun j => ?_)
  iterate 6 (rw [va_up_ne _ _ (by omega)]; rfl)
  · by_cases e : j = i
    · subst e; rw [va_up_self, cE_crew]; simp [va_up, upd]
    · rw [va_up_ne _ _ (by omega), cE_crew, cE_crew]; simp [va_up, upd, e]
  · rw [va_up_ne _ _ (by omega), cE_wr, cE_wr]; rfl
  · rw [va_up_ne _ _ (by omega), cE_kn, cE_kn]; rfl
  · rw [va_up_ne _ _ (by omega), cE_desk, cE_desk]; rfl

theorem cu_am (i : Nat) (v : Int32) : ∀ q : Nat, va_up (cE ad cI cC cD n ph mn ar) (4 * i + 6) (.inr (0, [.ref (ad (4 * i + 7)), .ref (ad (4 * i + 8)), .int (ar 6 i), .int (ar 7 i), .int (ar 8 i), .int v])) q = cE ad cI cC cD n ph mn (va_up ar 9 (upd (ar 9) i v)) q := by
  refine cE_cases ?_ ?_ ?_ ?_ ?_ ?_ (fun j => ?_) (fun j => ?_) (fun j => ?_) (fun j => ?_)
  iterate 6 (rw [va_up_ne _ _ (by omega)]; rfl)
  · by_cases e : j = i
    · subst e; rw [va_up_self, cE_crew]; simp [va_up, upd]
    · rw [va_up_ne _ _ (by omega), cE_crew, cE_crew]; simp [va_up, upd, e]
  · rw [va_up_ne _ _ (by omega), cE_wr, cE_wr]; rfl
  · rw [va_up_ne _ _ (by omega), cE_kn, cE_kn]; rfl
  · rw [va_up_ne _ _ (by omega), cE_desk, cE_desk]; rfl

theorem cu_pr (i : Nat) (v : Int32) : ∀ q : Nat, va_up (cE ad cI cC cD n ph mn ar) (4 * i + 9) (.inr (1, [.int v, .int (ar 4 i), .int (ar 5 i)])) q = cE ad cI cC cD n ph mn (va_up ar 3 (upd (ar 3) i v)) q := by
  refine cE_cases ?_ ?_ ?_ ?_ ?_ ?_ (fun j => ?_) (fun j => ?_) (fun j => ?_) (fun j => ?_)
  iterate 6 (rw [va_up_ne _ _ (by omega)]; rfl)
  · rw [va_up_ne _ _ (by omega), cE_crew, cE_crew]; rfl
  · rw [va_up_ne _ _ (by omega), cE_wr, cE_wr]; rfl
  · rw [va_up_ne _ _ (by omega), cE_kn, cE_kn]; rfl
  · by_cases e : j = i
    · subst e; rw [va_up_self, cE_desk]; simp [va_up, upd]
    · rw [va_up_ne _ _ (by omega), cE_desk, cE_desk]; simp [va_up, upd, e]

theorem cu_ho (i : Nat) (v : Int32) : ∀ q : Nat, va_up (cE ad cI cC cD n ph mn ar) (4 * i + 9) (.inr (1, [.int (ar 3 i), .int v, .int (ar 5 i)])) q = cE ad cI cC cD n ph mn (va_up ar 4 (upd (ar 4) i v)) q := by
  refine cE_cases ?_ ?_ ?_ ?_ ?_ ?_ (fun j => ?_) (fun j => ?_) (fun j => ?_) (fun j => ?_)
  iterate 6 (rw [va_up_ne _ _ (by omega)]; rfl)
  · rw [va_up_ne _ _ (by omega), cE_crew, cE_crew]; rfl
  · rw [va_up_ne _ _ (by omega), cE_wr, cE_wr]; rfl
  · rw [va_up_ne _ _ (by omega), cE_kn, cE_kn]; rfl
  · by_cases e : j = i
    · subst e; rw [va_up_self, cE_desk]; simp [va_up, upd]
    · rw [va_up_ne _ _ (by omega), cE_desk, cE_desk]; simp [va_up, upd, e]

theorem cu_dn (i : Nat) (v : Int32) : ∀ q : Nat, va_up (cE ad cI cC cD n ph mn ar) (4 * i + 9) (.inr (1, [.int (ar 3 i), .int (ar 4 i), .int v])) q = cE ad cI cC cD n ph mn (va_up ar 5 (upd (ar 5) i v)) q := by
  refine cE_cases ?_ ?_ ?_ ?_ ?_ ?_ (fun j => ?_) (fun j => ?_) (fun j => ?_) (fun j => ?_)
  iterate 6 (rw [va_up_ne _ _ (by omega)]; rfl)
  · rw [va_up_ne _ _ (by omega), cE_crew, cE_crew]; rfl
  · rw [va_up_ne _ _ (by omega), cE_wr, cE_wr]; rfl
  · rw [va_up_ne _ _ (by omega), cE_kn, cE_kn]; rfl
  · by_cases e : j = i
    · subst e; rw [va_up_self, cE_desk]; simp [va_up, upd]
    · rw [va_up_ne _ _ (by omega), cE_desk, cE_desk]; simp [va_up, upd, e]

theorem row_upd (k i j : Nat) (v : Int32) (hj : j < 6) (i2 : Nat) : row (va_up ar k (upd (ar k) (6 * i + j) v)) k i2 = if i2 = i then upd (row ar k i) j v else row ar k i2 := by
  funext q
  by_cases e : i2 = i
  · subst e
    rw [if_pos rfl]
    by_cases hq : q < 6
    · by_cases e2 : q = j
      · subst e2; simp [row, va_up, upd, hq]
      · have : ¬ 6 * i2 + q = 6 * i2 + j := by omega
        simp [row, va_up, upd, hq, e2]
    · have : ¬ q = j := by omega
      simp [row, upd, hq, this]
  · rw [if_neg e]
    by_cases hq : q < 6
    · have : ¬ 6 * i2 + q = 6 * i + j := by omega
      simp [row, va_up, upd, hq, this]
    · simp [row, hq]

theorem cu_W (i j : Nat) (v : Int32) (hj : j < 6) : ∀ q : Nat, va_up (cE ad cI cC cD n ph mn ar) (4 * i + 7) (.inl (cI, n, .inl (upd (row ar 1 i) j v))) q = cE ad cI cC cD n ph mn (va_up ar 1 (upd (ar 1) (6 * i + j) v)) q := by
  refine cE_cases ?_ ?_ ?_ ?_ ?_ ?_ (fun j2 => ?_) (fun j2 => ?_) (fun j2 => ?_) (fun j2 => ?_)
  iterate 6 (rw [va_up_ne _ _ (by omega)]; rfl)
  · rw [va_up_ne _ _ (by omega), cE_crew, cE_crew]; rfl
  · by_cases e : j2 = i
    · subst e; rw [va_up_self, cE_wr, row_upd 1 j2 j v hj, if_pos rfl]
    · rw [va_up_ne _ _ (by omega), cE_wr, cE_wr, row_upd 1 i j v hj, if_neg e]
  · rw [va_up_ne _ _ (by omega), cE_kn, cE_kn]; rfl
  · rw [va_up_ne _ _ (by omega), cE_desk, cE_desk]; rfl

theorem cu_K (i j : Nat) (v : Int32) (hj : j < 6) : ∀ q : Nat, va_up (cE ad cI cC cD n ph mn ar) (4 * i + 8) (.inl (cI, n, .inl (upd (row ar 2 i) j v))) q = cE ad cI cC cD n ph mn (va_up ar 2 (upd (ar 2) (6 * i + j) v)) q := by
  refine cE_cases ?_ ?_ ?_ ?_ ?_ ?_ (fun j2 => ?_) (fun j2 => ?_) (fun j2 => ?_) (fun j2 => ?_)
  iterate 6 (rw [va_up_ne _ _ (by omega)]; rfl)
  · rw [va_up_ne _ _ (by omega), cE_crew, cE_crew]; rfl
  · rw [va_up_ne _ _ (by omega), cE_wr, cE_wr]; rfl
  · by_cases e : j2 = i
    · subst e; rw [va_up_self, cE_kn, row_upd 2 j2 j v hj, if_pos rfl]
    · rw [va_up_ne _ _ (by omega), cE_kn, cE_kn, row_upd 2 i j v hj, if_neg e]
  · rw [va_up_ne _ _ (by omega), cE_desk, cE_desk]; rfl

theorem cu_ml (f : Nat → Int32) : ∀ q : Nat, va_up (cE ad cI cC cD n ph mn ar) 4 (.inl (cI, 400, .inl f)) q = cE ad cI cC cD n ph mn (va_up ar 10 f) q := by
  refine cE_cases ?_ ?_ ?_ ?_ ?_ ?_ (fun j2 => ?_) (fun j2 => ?_) (fun j2 => ?_) (fun j2 => ?_)
  · rw [va_up_ne _ _ (by omega)]; rfl
  · rw [va_up_ne _ _ (by omega)]; rfl
  · rw [va_up_ne _ _ (by omega)]; rfl
  · rw [va_up_ne _ _ (by omega)]; rfl
  · rw [va_up_self]; rfl
  · rw [va_up_ne _ _ (by omega)]; rfl
  · rw [va_up_ne _ _ (by omega), cE_crew, cE_crew]; rfl
  · rw [va_up_ne _ _ (by omega), cE_wr, cE_wr]; rfl
  · rw [va_up_ne _ _ (by omega), cE_kn, cE_kn]; rfl
  · rw [va_up_ne _ _ (by omega), cE_desk, cE_desk]; rfl

theorem cu_ct (f : Nat → Int32) : ∀ q : Nat, va_up (cE ad cI cC cD n ph mn ar) 5 (.inl (cI, 4, .inl f)) q = cE ad cI cC cD n ph mn (va_up ar 11 f) q := by
  refine cE_cases ?_ ?_ ?_ ?_ ?_ ?_ (fun j2 => ?_) (fun j2 => ?_) (fun j2 => ?_) (fun j2 => ?_)
  · rw [va_up_ne _ _ (by omega)]; rfl
  · rw [va_up_ne _ _ (by omega)]; rfl
  · rw [va_up_ne _ _ (by omega)]; rfl
  · rw [va_up_ne _ _ (by omega)]; rfl
  · rw [va_up_ne _ _ (by omega)]; rfl
  · rw [va_up_self]; rfl
  · rw [va_up_ne _ _ (by omega), cE_crew, cE_crew]; rfl
  · rw [va_up_ne _ _ (by omega), cE_wr, cE_wr]; rfl
  · rw [va_up_ne _ _ (by omega), cE_kn, cE_kn]; rfl
  · rw [va_up_ne _ _ (by omega), cE_desk, cE_desk]; rfl

theorem cu_mn (mn' : Nat) : ∀ q : Nat, va_up (cE ad cI cC cD n ph mn ar) 3 (.inr (2, [.ref (ad 4), .int (nI mn')])) q = cE ad cI cC cD n ph mn' ar q := by
  refine cE_cases ?_ ?_ ?_ ?_ ?_ ?_ (fun j2 => ?_) (fun j2 => ?_) (fun j2 => ?_) (fun j2 => ?_)
  · rw [va_up_ne _ _ (by omega)]; rfl
  · rw [va_up_ne _ _ (by omega)]; rfl
  · rw [va_up_ne _ _ (by omega)]; rfl
  · rw [va_up_self]; rfl
  · rw [va_up_ne _ _ (by omega)]; rfl
  · rw [va_up_ne _ _ (by omega)]; rfl
  · rw [va_up_ne _ _ (by omega), cE_crew, cE_crew]
  · rw [va_up_ne _ _ (by omega), cE_wr, cE_wr]
  · rw [va_up_ne _ _ (by omega), cE_kn, cE_kn]
  · rw [va_up_ne _ _ (by omega), cE_desk, cE_desk]

theorem cu_ph (ph' : Nat) : ∀ q : Nat, va_up (cE ad cI cC cD n ph mn ar) 0 (.inr (3, [.int (nI n), .ref (ad 1), .ref (ad 2), .ref (ad 3), .ref (ad 5), .int (nI ph')])) q = cE ad cI cC cD n ph' mn ar q := by
  refine cE_cases ?_ ?_ ?_ ?_ ?_ ?_ (fun j2 => ?_) (fun j2 => ?_) (fun j2 => ?_) (fun j2 => ?_)
  · rw [va_up_self]; rfl
  · rw [va_up_ne _ _ (by omega)]; rfl
  · rw [va_up_ne _ _ (by omega)]; rfl
  · rw [va_up_ne _ _ (by omega)]; rfl
  · rw [va_up_ne _ _ (by omega)]; rfl
  · rw [va_up_ne _ _ (by omega)]; rfl
  · rw [va_up_ne _ _ (by omega), cE_crew, cE_crew]
  · rw [va_up_ne _ _ (by omega), cE_wr, cE_wr]
  · rw [va_up_ne _ _ (by omega), cE_kn, cE_kn]
  · rw [va_up_ne _ _ (by omega), cE_desk, cE_desk]

end CE

theorem bw4 {a b c d : Cond} (h1 : a ∈ bw) (h2 : b ∈ bw) (h3 : c ∈ bw) (h4 : d ∈ bw) : ∀ w ∈ ([a, b, c, d] : List Cond), w ∈ bw :=
  List.forall_mem_cons.mpr ⟨h1, List.forall_mem_cons.mpr ⟨h2, List.forall_mem_cons.mpr ⟨h3, List.forall_mem_cons.mpr ⟨h4, fun _ h => absurd h List.not_mem_nil⟩⟩⟩⟩
section RC
variable {p : Program} {l : Launch} {e : Env} {R : Room} {s : State} {m : MethodId} {args : Array Value} {below : List Frame} {meth : Method} {c : Code} {H : Heap} {locs : List Loc} {cells slots : Nat} {Q : State → Prop}
variable {cc : ByteArray} {pc nL : Nat} {ls : Array Slot} {rest : List Value} {D : va_G} {A : Nat → Prop} {tys : List (ClassId × FieldType)} {EN : (Nat → Prop) → State → Heap → Prop} {ad : Nat → Nat} {N : Nat} {E E' : Nat → va_E} {own : String}
theorem rc_nw (wb : WB D tys ENC ad N A s E H locs) {w : Cond} (h : w ∈ nwW) : va_Nw w s := wb.2.2.2.2.2.1 w h
theorem rb_getN (S : CallFix p m c cc nL s args bw own) (wb : WB D tys EN ad N A s E H locs) (r0 : Nat) (hr : r0 < N) {ci : Nat} {fs : List Value} (hE : E r0 = .inr (ci, fs)) {C host : String} {T : u_T} {NF : Nat} (hc : vcl[ci]? = some (C, T, NF)) (hin : ∀ w ∈ u_ws C T NF, w ∈ bw) (k : Nat) (hk : k < NF) {index : Nat}
    (hlink : va_Nw (.fieldLinkNest own index (T k).1 (T k).2.1 (T k).2.2.1 host) s) {v : Value} (hv : fs[k]? = some v) (hdg : decode cc pc = .ok (.getfield index, 3))
    (kk : W p l e R s m args below meth c H locs cells slots Q (F0 m (pc + 3) ls (v :: rest))) : W p l e R s m args below meth c H locs cells slots Q (F0 m pc ls (.ref (ad r0) :: rest)) := by
  obtain ⟨hx, hb, -, hown, hts⟩ := S
  exact va_getN (D := D) (ci := ci) (C := C) (T := T) (N := NF) hx hb hts hin hown wb.1 wb.2.1 r0 (by rw [rlw_at hr, hE]) hc k hk (va_Nw.use rfl hlink) (fun _ h => h) hv hdg kk
theorem rb_putN (S : CallFix p m c cc nL s args bw own) (wb : WB D tys EN ad N A s E H locs) (r0 : Nat) (hr : r0 < N) {ci : Nat} {fs : List Value} (hE : E r0 = .inr (ci, fs)) {C host : String} {T : u_T} {NF : Nat} (hc : vcl[ci]? = some (C, T, NF)) (hin : ∀ w ∈ u_ws C T NF, w ∈ bw) (ty0 : Nat → FieldType)
    (hty : ∀ k, k < NF → parseFieldDescriptor (T k).2.2.1 = some (ty0 k)) (hnm : ∀ a, a < NF → ∀ b, b < NF → a ≠ b → (T a).2.1 ≠ (T b).2.1) (k : Nat) (hk : k < NF) {index : Nat}
    (hlink : va_Nw (.fieldLinkNest own index (T k).1 (T k).2.1 (T k).2.2.1 host) s) (hfin : (T k).2.2.2 = false) {v : Value} (hn : narrow (ty0 k) v = v) (hfit : fits (ty0 k) v = true) (hl : k < fs.length) (hE' : ∀ q, q < N → va_up E r0 (.inr (ci, fs.set k v)) q = E' q) (hdg : decode cc pc = .ok (.putfield index, 3))
    (kk : ∀ (H1 : Heap) (locs1 : List Loc), WB D tys EN ad N A s E' H1 locs1 → W p l e R s m args below meth c H1 locs1 cells slots Q (F0 m (pc + 3) ls rest)) : W p l e R s m args below meth c H locs cells slots Q (F0 m pc ls (v :: .ref (ad r0) :: rest)) := by
  obtain ⟨hx, hb, -, hown, hts⟩ := S
  obtain ⟨hK, hP, hD, hS, hA, hEN⟩ := wb
  refine va_putN (D := D) (ci := ci) (C := C) (T := T) (N := NF) (ty := ty0 k) hx hb hts hin ty0 hty hnm hown hK hP hD hS r0 (by rw [rlw_at hr, hE]) hc k hk (va_Nw.use rfl hlink) (fun _ h => h) hfin (hty k hk) hn hfit hl hdg (fun H1 locs1 h1 h2 h3 => ?_)
  rw [rlw_set hr, rlw_congr hE'] at h1 h2
  exact kk H1 locs1 ⟨hK, h1, h2, h3, hA, hEN⟩
theorem rb_aald (S : CallFix p m c cc nL s args bw own) (wb : WB D tys EN ad N A s E H locs) (r0 : Nat) (hr : r0 < N) {cA : ClassId} {C : String} {n : Nat} {f : Nat → Option Nat} (hE : E r0 = .inl (cA, n, .inr (.inr (.inr (.inr f))))) (t0 : Nat) (ht : tys[t0]? = some (cA, .object C)) (j : Nat) (hj : j < n) (hn : n < 2 ^ 31) {a : Nat} (hxv : f j = some a) (hdg : decode cc pc = .ok (.aaload, 1))
    (kk : W p l e R s m args below meth c H locs cells slots Q (F0 m (pc + 1) ls (.ref a :: rest))) : W p l e R s m args below meth c H locs cells slots Q (F0 m pc ls (.int (nI j) :: .ref (ad r0) :: rest)) := by
  obtain ⟨hx, hb, -, hown, hts⟩ := S
  refine va_aldq (D := D) hx hb wb.1 wb.2.1 r0 t0 (by rw [rlw_at hr, hE]) ht (vp_in_nI hj hn) hdg ?_
  rw [nI_clamp (by omega), hxv]
  exact kk
theorem rb_alen (S : CallFix p m c cc nL s args bw own) (wb : WB D tys EN ad N A s E H locs) (r0 : Nat) (hr : r0 < N) {cA : ClassId} {x : vp_A} (hE : E r0 = .inl (cA, x)) (t0 : Nat) {ty : FieldType} (ht : tys[t0]? = some (cA, ty)) {v : Int32} (hv : Int32.ofNat x.1 = v) (hdg : decode cc pc = .ok (.arraylength, 1))
    (kk : W p l e R s m args below meth c H locs cells slots Q (F0 m (pc + 1) ls (.int v :: rest))) : W p l e R s m args below meth c H locs cells slots Q (F0 m pc ls (.ref (ad r0) :: rest)) := by
  obtain ⟨hx, hb, -, hown, hts⟩ := S
  exact va_alen (D := D) hx hb wb.1 wb.2.1 r0 t0 (by rw [rlw_at hr, hE]) ht hv hdg kk
theorem rb_steps (S : CallFix p m c cc nL s args bw own) (wb : WB D tys ENC ad N A s E H locs) {index : Nat} (hlink : Cond.fieldLink own index "LetterAuction" "STEPS" "[I" ∈ bw) (hdg : decode cc pc = .ok (.getstatic index, 3))
    (kk : ∀ tS : Nat, va_T .int tS 4 (fun j => .int (stp j)) A s s.heap → W p l e R s m args below meth c H locs cells slots Q (F0 m (pc + 3) ls (.ref tS :: rest))) : W p l e R s m args below meth c H locs cells slots Q (F0 m pc ls rest) := by
  obtain ⟨hx, hb, -, hown, hts⟩ := S
  obtain ⟨hK, hP, hD, hS, hA, -, ⟨t, hZ, hT⟩, -⟩ := wb
  exact va_gets hx hb hZ hS hown (hts _ hlink) (fun _ h => h) hdg (kk t hT)
theorem rb_stepAt (S : CallFix p m c cc nL s args bw own) (wb : WB D tys ENC ad N A s E H locs) {tS : Nat} (hT : va_T .int tS 4 (fun j => .int (stp j)) A s s.heap) (j : Nat) (hj : j < 4) (hdg : decode cc pc = .ok (.iaload, 1))
    (kk : W p l e R s m args below meth c H locs cells slots Q (F0 m (pc + 1) ls (.int (stp j) :: rest))) : W p l e R s m args below meth c H locs cells slots Q (F0 m pc ls (.int (nI j) :: .ref tS :: rest)) := by
  obtain ⟨hx, hb, -, hown, hts⟩ := S
  refine va_ti hx hb hT wb.2.2.2.1 (vp_in_nI hj (by omega)) (v := .int (stp j)) ?_ hdg kk
  rw [nI_clamp (by omega)]
theorem rb_max (S : CallFix p m c cc nL s args bw own) {index : Nat} (hsize : ls.size = nL) (hlink : Cond.methodLink own index Lib.Math.max.name ∈ bw) (hstat : Cond.static Lib.Math.max.name ∈ bw) (hini : Cond.initialized "java/lang/Math" ∈ bw) (hcode : Cond.code Lib.Math.max.name Lib.Math.max.code 2 (some .int) ∈ bw)
    (hframes : 1 ≤ R.frames) (hlocals : (rest.map fun v => v.category).sum + 13 ≤ R.locals) (hc : cells ≤ R.cells) (hs : slots ≤ R.slots) {x y : Int32} (hdg : decode cc pc = .ok (.invokestatic index, 3))
    (kk : W p l e R s m args below meth c H locs cells slots Q (F0 m (pc + 3) ls (.int (if x < y then y else x) :: rest))) : W p l e R s m args below meth c H locs cells slots Q (F0 m pc ls (.int y :: .int x :: rest)) := by
  obtain ⟨hx, hb, hml, hown, hts⟩ := S
  exact va_mmax hx hb (hml.trans hsize.symm) hown (hts _ hlink) (hts _ hstat) (hts _ hini) (hts _ hcode) hframes hlocals hc hs hdg kk
theorem rb_copy (S : CallFix p m c cc nL s args bw own) (wb : WB D tys EN ad N A s E H locs) {index : Nat} (hsize : ls.size = nL) (hlink : Cond.methodLink own index arraycopyName ∈ bw) (hnat : Cond.native arraycopyName ∈ bw) (hstat : Cond.static arraycopyName ∈ bw) (hini : Cond.initialized "java/lang/System" ∈ bw)
    (r0 : Nat) (hr : r0 < N) {cA : ClassId} {n : Nat} {f : Nat → Int32} (hE : E r0 = .inl (cA, n, .inl f)) (t0 : Nat) (ht : tys[t0]? = some (cA, .int)) (sp dp k : Nat) (h4 : sp + k ≤ n) (h5 : dp + k ≤ n) (hn : n < 2 ^ 31) (hframes : 1 ≤ R.frames) (hlocals : (rest.map fun v => v.category).sum + (nativeFrameWords "java/lang/System" "arraycopy" 5 + 11) ≤ R.locals)
    (hE' : ∀ q, q < N → va_up E r0 (.inl (cA, n, .inl (va_cpy f f sp dp k))) q = E' q) (hdg : decode cc pc = .ok (.invokestatic index, 3))
    (kk : ∀ (H1 : Heap) (locs1 : List Loc), WB D tys EN ad N A s E' H1 locs1 → W p l e R s m args below meth c H1 locs1 cells slots Q (F0 m (pc + 3) ls rest)) : W p l e R s m args below meth c H locs cells slots Q (F0 m pc ls (.int (nI k) :: .int (nI dp) :: .ref (ad r0) :: .int (nI sp) :: .ref (ad r0) :: rest)) := by
  obtain ⟨hx, hb, hml, hown, hts⟩ := S
  obtain ⟨hK, hP, hD, hS, hA, hEN⟩ := wb
  refine va_copyi (D := D) (ty := .int) hx hb (hml.trans hsize.symm) hown (hts _ hlink) (hts _ hnat) (hts _ hstat) (hts _ hini) hK hP hD hS r0 r0 t0 t0 (by rw [rlw_at hr, hE]) (by rw [rlw_at hr, hE]) ht ht rfl (nI_pos (by omega)) (nI_pos (by omega)) (nI_pos (by omega))
    (by rw [nI_clamp (by omega), nI_clamp (by omega)]; exact h4) (by rw [nI_clamp (by omega), nI_clamp (by omega)]; exact h5) (fun _ _ => rfl) hframes hlocals hdg (fun H1 locs1 h1 h2 h3 => ?_)
  rw [nI_clamp (by omega), nI_clamp (by omega), nI_clamp (by omega), rlw_set hr, rlw_congr hE'] at h1 h2
  exact kk H1 locs1 ⟨hK, h1, h2, h3, hA, hEN⟩
/-- invokevirtual of a nest mate's private method -/
theorem rb_callVN (S : CallFix p m c cc nL s args bw own) (wb : WB D tys EN ad N A s E H locs) (hok : ENok EN) {y : MethodName} {cc2 : ByteArray} {nL2 : Nat} {ret2 : Option FieldType} {rm2 : Room} {b : Nat} {As : List Value} {r : Option Value} {index na : Nat} {host : String}
    (hM : RM l y cc2 nL2 ret2 rm2 D tys EN (.ref b :: As) ad N E E' r) (hl : va_Nw (.methodLinkNest own index y host) s) (hwd : ∀ w ∈ ([.instanceMethod y, .selects y.cls y y, .initialized y.cls, .code y cc2 nL2 ret2] : List Cond), w ∈ bw)
    (hrecv : ∃ cell : Cell, H[b]? = some cell ∧ cell.vm.isStatics = false ∧ s.vm.findClass y.cls = some cell.cls) (hd : y.cls = y.cls ∧ y.cls ≠ "java/lang/invoke/MethodHandle" ∧ y.cls ≠ "java/lang/invoke/VarHandle" ∧ (parseMethodDescriptor y.desc).map (fun d => d.parameters.length) = some na) (hna : As.length = na)
    (hz : rm2.cells = 0 ∧ rm2.slots = 0) (hR : rm2.frames + 1 ≤ R.frames ∧ 8 + (nL2 + 11) + rm2.locals ≤ R.locals) (hsize : ls.size = nL) (hroom : (rest.map fun v => v.category).sum ≤ 8) (hcs : cells ≤ R.cells ∧ slots ≤ R.slots) {st0 st1 : List Value} (hst : st0 = As.reverse ++ .ref b :: rest) (hst1 : r.toList ++ rest = st1) (hdg : decode cc pc = .ok (.invokevirtual index, 3))
    (kk : ∀ (H1 : Heap) (locs1 : List Loc), WB D tys EN ad N A s E' H1 locs1 → W p l e R s m args below meth c H1 locs1 cells slots Q (F0 m (pc + 3) ls st1)) : W p l e R s m args below meth c H locs cells slots Q (F0 m pc ls st0) := by
  subst hst; subst hst1; subst hna
  have hi : Cond.initialized y.cls ∈ bw := hwd _ (by simp)
  refine rb_back wb (g := F0 m pc ls []) (va_runVN (As := As) (rest := rest) (n := As.length) (C := y.cls) (b := b) (host := host) (bytes := cc2) (maxL := nL2) (ret := ret2) (index := index) S (hM H.size) ⟨va_cnB As.length S.2.2.2.2 (bw_GI (fun _ h => h) ?_) rfl hz.1 hz.2 hl (S.2.2.2.2 _ hi) hd.2 hR, S.2.2.2.2 _ (hwd _ (by simp)), S.2.2.2.2 _ (hwd _ (by simp))⟩ ⟨(rb_pre wb hok _).1, hrecv, (rb_pre wb hok _).2⟩ rfl rfl hsize rfl (lv_room hroom) hdg hcs) kk
  intro w hw
  rcases List.mem_cons.mp hw with h | h
  · exact hwd w (by rw [h]; simp)
  · exact h
theorem rb_callS (S : CallFix p m c cc nL s args bw own) (wb : WB D tys EN ad N A s E H locs) (hok : ENok EN) {y : MethodName} {cc2 : ByteArray} {nL2 : Nat} {ret2 : Option FieldType} {rm2 : Room} {As : List Value} {r : Option Value} {index na : Nat}
    (hM : RM l y cc2 nL2 ret2 rm2 D tys EN As ad N E E' r) (hwd : ∀ w ∈ ([.methodLink own index y, .static y, .initialized y.cls, .code y cc2 nL2 ret2] : List Cond), w ∈ bw)
    (hd : y.cls = y.cls ∧ y.cls ≠ "java/lang/invoke/MethodHandle" ∧ y.cls ≠ "java/lang/invoke/VarHandle" ∧ (parseMethodDescriptor y.desc).map (fun d => d.parameters.length) = some na) (hna : As.length = na)
    (hz : rm2.cells = 0 ∧ rm2.slots = 0) (hR : rm2.frames + 1 ≤ R.frames ∧ 8 + (nL2 + 11) + rm2.locals ≤ R.locals) (hsize : ls.size = nL) (hroom : (rest.map fun v => v.category).sum ≤ 8) (hcs : cells ≤ R.cells ∧ slots ≤ R.slots) {st0 st1 : List Value} (hst : st0 = As.reverse ++ rest) (hst1 : r.toList ++ rest = st1) (hdg : decode cc pc = .ok (.invokestatic index, 3))
    (kk : ∀ (H1 : Heap) (locs1 : List Loc), WB D tys EN ad N A s E' H1 locs1 → W p l e R s m args below meth c H1 locs1 cells slots Q (F0 m (pc + 3) ls st1)) : W p l e R s m args below meth c H locs cells slots Q (F0 m pc ls st0) := by
  subst hst; subst hst1; subst hna
  refine rb_back wb (g := F0 m pc ls []) (va_runS (As := As) (rest := rest) (n := As.length) (bytes := cc2) (maxL := nL2) (ret := ret2) (index := index) S (hM H.size) (va_cwS As.length S.2.2.2.2 (bw_GI (fun _ h => h) ?_) rfl hz.1 hz.2 hd.2 hR) (rb_pre wb hok _) rfl rfl hsize rfl (lv_room hroom) hdg hcs) kk
  intro w hw
  unfold va_wsS at hw
  rcases List.mem_append.mp hw with h | h
  · exact hwd w (by simp only [List.mem_cons, List.not_mem_nil, or_false] at h ⊢; rcases h with h | h | h <;> simp [h])
  · rcases List.mem_cons.mp h with h | h
    · exact hwd w (by rw [h]; simp)
    · exact h
end RC
