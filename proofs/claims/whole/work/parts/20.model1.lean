/-! the model's world and its leaves -/
abbrev ty3 (cI cC cD : ClassId) : List (ClassId × FieldType) := [(cI, .int), (cC, .object RX0), (cD, .object RX1)]
def mlen (r : Nat) : Nat := match r with
  | 1 => 36
  | 2 => 36
  | 10 => 600
  | 11 => 4
  | _ => 6
def mE (ad : Nat → Nat) (cI : ClassId) (th : Int32) (n : Nat) (st : Int32) (mn : Nat) (ar : Nat → Nat → Int32) : Nat → va_E := fun r => match r with
  | 0 => .inr (4, [.int th, .int (nI n), .int st, .ref (ad 1), .ref (ad 2), .ref (ad 3), .ref (ad 4), .ref (ad 5), .ref (ad 6), .ref (ad 7), .ref (ad 8), .ref (ad 9), .int (nI mn), .ref (ad 10), .ref (ad 11)])
  | r + 1 => .inl (cI, mlen (r + 1), .inl (ar (r + 1)))
theorem m12 {P : Nat → Prop} (h0 : P 0) (h1 : P 1) (h2 : P 2) (h3 : P 3) (h4 : P 4) (h5 : P 5) (h6 : P 6) (h7 : P 7) (h8 : P 8) (h9 : P 9) (h10 : P 10) (h11 : P 11) : ∀ q, q < 12 → P q := by
  intro q hq
  rcases (show q = 0 ∨ q = 1 ∨ q = 2 ∨ q = 3 ∨ q = 4 ∨ q = 5 ∨ q = 6 ∨ q = 7 ∨ q = 8 ∨ q = 9 ∨ q = 10 ∨ q = 11 by omega) with h | h | h | h | h | h | h | h | h | h | h | h <;> subst h <;> assumption
theorem nI_c1 : nI 1 = 1 := by decide
theorem nI_c2 : nI 2 = 2 := by decide
theorem nI_s4 (j : Nat) : nI j + Int32.ofInt 4 = nI (j + 4) := nI_add j 4

theorem hdX4_thrown : yX4_thrown.cls = yX4_thrown.cls ∧ yX4_thrown.cls ≠ "java/lang/invoke/MethodHandle" ∧ yX4_thrown.cls ≠ "java/lang/invoke/VarHandle" ∧ (parseMethodDescriptor yX4_thrown.desc).map (fun d => d.parameters.length) = some 0 := by decide +kernel
theorem hdX4_no : yX4_no.cls = yX4_no.cls ∧ yX4_no.cls ≠ "java/lang/invoke/MethodHandle" ∧ yX4_no.cls ≠ "java/lang/invoke/VarHandle" ∧ (parseMethodDescriptor yX4_no.desc).map (fun d => d.parameters.length) = some 1 := by decide +kernel
theorem hdX4_clean : yX4_clean.cls = yX4_clean.cls ∧ yX4_clean.cls ≠ "java/lang/invoke/MethodHandle" ∧ yX4_clean.cls ≠ "java/lang/invoke/VarHandle" ∧ (parseMethodDescriptor yX4_clean.desc).map (fun d => d.parameters.length) = some 0 := by decide +kernel
theorem hdX4_isSettled : yX4_isSettled.cls = yX4_isSettled.cls ∧ yX4_isSettled.cls ≠ "java/lang/invoke/MethodHandle" ∧ yX4_isSettled.cls ≠ "java/lang/invoke/VarHandle" ∧ (parseMethodDescriptor yX4_isSettled.desc).map (fun d => d.parameters.length) = some 0 := by decide +kernel
theorem hdX4_worth : yX4_worth.cls = yX4_worth.cls ∧ yX4_worth.cls ≠ "java/lang/invoke/MethodHandle" ∧ yX4_worth.cls ≠ "java/lang/invoke/VarHandle" ∧ (parseMethodDescriptor yX4_worth.desc).map (fun d => d.parameters.length) = some 3 := by decide +kernel
theorem hdX4_send : yX4_send.cls = yX4_send.cls ∧ yX4_send.cls ≠ "java/lang/invoke/MethodHandle" ∧ yX4_send.cls ≠ "java/lang/invoke/VarHandle" ∧ (parseMethodDescriptor yX4_send.desc).map (fun d => d.parameters.length) = some 5 := by decide +kernel
theorem hdX4_drop : yX4_drop.cls = yX4_drop.cls ∧ yX4_drop.cls ≠ "java/lang/invoke/MethodHandle" ∧ yX4_drop.cls ≠ "java/lang/invoke/VarHandle" ∧ (parseMethodDescriptor yX4_drop.desc).map (fun d => d.parameters.length) = some 1 := by decide +kernel
theorem hdX4_noLetter : yX4_noLetter.cls = yX4_noLetter.cls ∧ yX4_noLetter.cls ≠ "java/lang/invoke/MethodHandle" ∧ yX4_noLetter.cls ≠ "java/lang/invoke/VarHandle" ∧ (parseMethodDescriptor yX4_noLetter.desc).map (fun d => d.parameters.length) = some 1 := by decide +kernel
theorem hdX4_valueOf : yX4_valueOf.cls = yX4_valueOf.cls ∧ yX4_valueOf.cls ≠ "java/lang/invoke/MethodHandle" ∧ yX4_valueOf.cls ≠ "java/lang/invoke/VarHandle" ∧ (parseMethodDescriptor yX4_valueOf.desc).map (fun d => d.parameters.length) = some 2 := by decide +kernel
theorem hdX4_act : yX4_act.cls = yX4_act.cls ∧ yX4_act.cls ≠ "java/lang/invoke/MethodHandle" ∧ yX4_act.cls ≠ "java/lang/invoke/VarHandle" ∧ (parseMethodDescriptor yX4_act.desc).map (fun d => d.parameters.length) = some 1 := by decide +kernel
theorem hdX4_resend : yX4_resend.cls = yX4_resend.cls ∧ yX4_resend.cls ≠ "java/lang/invoke/MethodHandle" ∧ yX4_resend.cls ≠ "java/lang/invoke/VarHandle" ∧ (parseMethodDescriptor yX4_resend.desc).map (fun d => d.parameters.length) = some 1 := by decide +kernel
theorem hdX4_bidComes : yX4_bidComes.cls = yX4_bidComes.cls ∧ yX4_bidComes.cls ≠ "java/lang/invoke/MethodHandle" ∧ yX4_bidComes.cls ≠ "java/lang/invoke/VarHandle" ∧ (parseMethodDescriptor yX4_bidComes.desc).map (fun d => d.parameters.length) = some 4 := by decide +kernel
theorem hdX4_answerComes : yX4_answerComes.cls = yX4_answerComes.cls ∧ yX4_answerComes.cls ≠ "java/lang/invoke/MethodHandle" ∧ yX4_answerComes.cls ≠ "java/lang/invoke/VarHandle" ∧ (parseMethodDescriptor yX4_answerComes.desc).map (fun d => d.parameters.length) = some 5 := by decide +kernel
theorem hdX4_deliver : yX4_deliver.cls = yX4_deliver.cls ∧ yX4_deliver.cls ≠ "java/lang/invoke/MethodHandle" ∧ yX4_deliver.cls ≠ "java/lang/invoke/VarHandle" ∧ (parseMethodDescriptor yX4_deliver.desc).map (fun d => d.parameters.length) = some 1 := by decide +kernel
theorem hdX4_lose : yX4_lose.cls = yX4_lose.cls ∧ yX4_lose.cls ≠ "java/lang/invoke/MethodHandle" ∧ yX4_lose.cls ≠ "java/lang/invoke/VarHandle" ∧ (parseMethodDescriptor yX4_lose.desc).map (fun d => d.parameters.length) = some 1 := by decide +kernel
theorem hdX4_twin : yX4_twin.cls = yX4_twin.cls ∧ yX4_twin.cls ≠ "java/lang/invoke/MethodHandle" ∧ yX4_twin.cls ≠ "java/lang/invoke/VarHandle" ∧ (parseMethodDescriptor yX4_twin.desc).map (fun d => d.parameters.length) = some 1 := by decide +kernel
theorem hdX4_letters : yX4_letters.cls = yX4_letters.cls ∧ yX4_letters.cls ≠ "java/lang/invoke/MethodHandle" ∧ yX4_letters.cls ≠ "java/lang/invoke/VarHandle" ∧ (parseMethodDescriptor yX4_letters.desc).map (fun d => d.parameters.length) = some 0 := by decide +kernel
theorem hdX4_letter : yX4_letter.cls = yX4_letter.cls ∧ yX4_letter.cls ≠ "java/lang/invoke/MethodHandle" ∧ yX4_letter.cls ≠ "java/lang/invoke/VarHandle" ∧ (parseMethodDescriptor yX4_letter.desc).map (fun d => d.parameters.length) = some 2 := by decide +kernel
theorem hdX4_profitOf : yX4_profitOf.cls = yX4_profitOf.cls ∧ yX4_profitOf.cls ≠ "java/lang/invoke/MethodHandle" ∧ yX4_profitOf.cls ≠ "java/lang/invoke/VarHandle" ∧ (parseMethodDescriptor yX4_profitOf.desc).map (fun d => d.parameters.length) = some 1 := by decide +kernel
theorem hdX4_crew : yX4_crew.cls = yX4_crew.cls ∧ yX4_crew.cls ≠ "java/lang/invoke/MethodHandle" ∧ yX4_crew.cls ≠ "java/lang/invoke/VarHandle" ∧ (parseMethodDescriptor yX4_crew.desc).map (fun d => d.parameters.length) = some 2 := by decide +kernel
theorem hdX4_known : yX4_known.cls = yX4_known.cls ∧ yX4_known.cls ≠ "java/lang/invoke/MethodHandle" ∧ yX4_known.cls ≠ "java/lang/invoke/VarHandle" ∧ (parseMethodDescriptor yX4_known.desc).map (fun d => d.parameters.length) = some 2 := by decide +kernel
theorem hdX4_desk : yX4_desk.cls = yX4_desk.cls ∧ yX4_desk.cls ≠ "java/lang/invoke/MethodHandle" ∧ yX4_desk.cls ≠ "java/lang/invoke/VarHandle" ∧ (parseMethodDescriptor yX4_desk.desc).map (fun d => d.parameters.length) = some 2 := by decide +kernel
theorem hdX4_settled : yX4_settled.cls = yX4_settled.cls ∧ yX4_settled.cls ≠ "java/lang/invoke/MethodHandle" ∧ yX4_settled.cls ≠ "java/lang/invoke/VarHandle" ∧ (parseMethodDescriptor yX4_settled.desc).map (fun d => d.parameters.length) = some 0 := by decide +kernel
theorem hdX4_phase : yX4_phase.cls = yX4_phase.cls ∧ yX4_phase.cls ≠ "java/lang/invoke/MethodHandle" ∧ yX4_phase.cls ≠ "java/lang/invoke/VarHandle" ∧ (parseMethodDescriptor yX4_phase.desc).map (fun d => d.parameters.length) = some 0 := by decide +kernel
theorem hdX4_total : yX4_total.cls = yX4_total.cls ∧ yX4_total.cls ≠ "java/lang/invoke/MethodHandle" ∧ yX4_total.cls ≠ "java/lang/invoke/VarHandle" ∧ (parseMethodDescriptor yX4_total.desc).map (fun d => d.parameters.length) = some 0 := by decide +kernel
theorem hdX4_proves : yX4_proves.cls = yX4_proves.cls ∧ yX4_proves.cls ≠ "java/lang/invoke/MethodHandle" ∧ yX4_proves.cls ≠ "java/lang/invoke/VarHandle" ∧ (parseMethodDescriptor yX4_proves.desc).map (fun d => d.parameters.length) = some 0 := by decide +kernel
theorem hdX4_count : yX4_count.cls = yX4_count.cls ∧ yX4_count.cls ≠ "java/lang/invoke/MethodHandle" ∧ yX4_count.cls ≠ "java/lang/invoke/VarHandle" ∧ (parseMethodDescriptor yX4_count.desc).map (fun d => d.parameters.length) = some 1 := by decide +kernel

set_option maxHeartbeats 4000000 in
set_option maxRecDepth 100000 in
theorem m_thrown (l : Launch) (D : va_G) (cI cC cD : ClassId) (ad : Nat → Nat) (th : Int32) (n : Nat) (st : Int32) (mn : Nat) (ar : Nat → Nat → Int32)  : RM l yX4_thrown cX4_thrown 1 (some .int) ({ frames := 0, cells := 0, slots := 0, locals := 0 }) D (ty3 cI cC cD) EN0 [.ref (ad 0)] ad 12 (mE ad cI th n st mn ar) (mE ad cI th n st mn ar) (some (.int th)) := by
  refine RM.of (by decide) (Nat.le_of_ble_eq_true rfl) ?_
  intro p e s m below meth c0 A ls args Q0 S hr hlk hQ wb hl
  have hx := S.1
  have hb := S.2.1
  have hl : lv_has ls 1 [(0, .ref (ad 0))] := hl
  refine lv_aload_n hx hb dX4_thrown_0 rfl (lv_at hl 0 rfl) ?_
  refine rb_get S wb 0 (by decide) rfl rfl in4 0 (by decide) bw_462 rfl dX4_thrown_1 ?_
  exact rb_iret S hr hlk hQ rfl wb (fun _ _ => rfl) dX4_thrown_4

set_option maxHeartbeats 4000000 in
set_option maxRecDepth 100000 in
theorem m_no (l : Launch) (D : va_G) (cI cC cD : ClassId) (ad : Nat → Nat) (th : Int32) (n : Nat) (st : Int32) (mn : Nat) (ar : Nat → Nat → Int32) (x : Int32)  : RM l yX4_no cX4_no 2 (some .boolean) ({ frames := 0, cells := 0, slots := 0, locals := 0 }) D (ty3 cI cC cD) EN0 [.ref (ad 0), .int x] ad 12 (mE ad cI th n st mn ar) (mE ad cI th n st mn ar) (some (.int (if x < 0 ∨ nI n ≤ x then 1 else 0))) := by
  refine RM.of (by decide) (Nat.le_of_ble_eq_true rfl) ?_
  intro p e s m below meth c0 A ls args Q0 S hr hlk hQ wb hl
  have hx := S.1
  have hb := S.2.1
  have hl : lv_has ls 2 [(0, .ref (ad 0)), (1, .int x)] := hl
  refine lv_iload_n hx hb dX4_no_0 rfl (lv_at hl 1 rfl) ?_
  refine lv_if_lt (tgt := 12) hx hb dX4_no_1 (by decide) (fun h1 => ?_) (fun h1 => ?_)
  · refine lv_iconst (v := nI 1) hx hb dX4_no_12 (by decide) ?_
    refine lv_goto (tgt := 17) hx hb dX4_no_13 (by decide) ?_
    exact rb_zret S hr hlk hQ (by first | exact if_pos (Or.inl h1) | exact if_pos (Or.inr (Int32.not_lt.mp h9)) | exact if_neg (fun q => q.elim h1 (fun q => Int32.not_lt.mpr q h9))) (by first | exact Or.inl rfl | exact Or.inr rfl) wb (fun _ _ => rfl) dX4_no_17
  · refine lv_iload_n hx hb dX4_no_4 rfl (lv_at hl 1 rfl) ?_
    refine lv_aload_n hx hb dX4_no_5 rfl (lv_at hl 0 rfl) ?_
    refine rb_get S wb 0 (by decide) rfl rfl in4 1 (by decide) bw_463 rfl dX4_no_6 ?_
    refine lv_icmp_lt (tgt := 16) hx hb dX4_no_9 (by decide) (fun h9 => ?_) (fun h9 => ?_)
    · refine lv_iconst (v := nI 0) hx hb dX4_no_16 (by decide) ?_
      exact rb_zret S hr hlk hQ (by first | exact if_pos (Or.inl h1) | exact if_pos (Or.inr (Int32.not_lt.mp h9)) | exact if_neg (fun q => q.elim h1 (fun q => Int32.not_lt.mpr q h9))) (by first | exact Or.inl rfl | exact Or.inr rfl) wb (fun _ _ => rfl) dX4_no_17
    · refine lv_iconst (v := nI 1) hx hb dX4_no_12 (by decide) ?_
      refine lv_goto (tgt := 17) hx hb dX4_no_13 (by decide) ?_
      exact rb_zret S hr hlk hQ (by first | exact if_pos (Or.inl h1) | exact if_pos (Or.inr (Int32.not_lt.mp h9)) | exact if_neg (fun q => q.elim h1 (fun q => Int32.not_lt.mpr q h9))) (by first | exact Or.inl rfl | exact Or.inr rfl) wb (fun _ _ => rfl) dX4_no_17

set_option maxHeartbeats 4000000 in
set_option maxRecDepth 100000 in
theorem m_noLetter (l : Launch) (D : va_G) (cI cC cD : ClassId) (ad : Nat → Nat) (th : Int32) (n : Nat) (st : Int32) (mn : Nat) (ar : Nat → Nat → Int32) (x : Int32)  : RM l yX4_noLetter cX4_noLetter 2 (some .boolean) ({ frames := 0, cells := 0, slots := 0, locals := 0 }) D (ty3 cI cC cD) EN0 [.ref (ad 0), .int x] ad 12 (mE ad cI th n st mn ar) (mE ad cI th n st mn ar) (some (.int (if x < 0 ∨ nI mn ≤ x then 1 else 0))) := by
  refine RM.of (by decide) (Nat.le_of_ble_eq_true rfl) ?_
  intro p e s m below meth c0 A ls args Q0 S hr hlk hQ wb hl
  have hx := S.1
  have hb := S.2.1
  have hl : lv_has ls 2 [(0, .ref (ad 0)), (1, .int x)] := hl
  refine lv_iload_n hx hb dX4_noLetter_0 rfl (lv_at hl 1 rfl) ?_
  refine lv_if_lt (tgt := 12) hx hb dX4_noLetter_1 (by decide) (fun h1 => ?_) (fun h1 => ?_)
  · refine lv_iconst (v := nI 1) hx hb dX4_noLetter_12 (by decide) ?_
    refine lv_goto (tgt := 17) hx hb dX4_noLetter_13 (by decide) ?_
    exact rb_zret S hr hlk hQ (by first | exact if_pos (Or.inl h1) | exact if_pos (Or.inr (Int32.not_lt.mp h9)) | exact if_neg (fun q => q.elim h1 (fun q => Int32.not_lt.mpr q h9))) (by first | exact Or.inl rfl | exact Or.inr rfl) wb (fun _ _ => rfl) dX4_noLetter_17
  · refine lv_iload_n hx hb dX4_noLetter_4 rfl (lv_at hl 1 rfl) ?_
    refine lv_aload_n hx hb dX4_noLetter_5 rfl (lv_at hl 0 rfl) ?_
    refine rb_get S wb 0 (by decide) rfl rfl in4 12 (by decide) bw_474 rfl dX4_noLetter_6 ?_
    refine lv_icmp_lt (tgt := 16) hx hb dX4_noLetter_9 (by decide) (fun h9 => ?_) (fun h9 => ?_)
    · refine lv_iconst (v := nI 0) hx hb dX4_noLetter_16 (by decide) ?_
      exact rb_zret S hr hlk hQ (by first | exact if_pos (Or.inl h1) | exact if_pos (Or.inr (Int32.not_lt.mp h9)) | exact if_neg (fun q => q.elim h1 (fun q => Int32.not_lt.mpr q h9))) (by first | exact Or.inl rfl | exact Or.inr rfl) wb (fun _ _ => rfl) dX4_noLetter_17
    · refine lv_iconst (v := nI 1) hx hb dX4_noLetter_12 (by decide) ?_
      refine lv_goto (tgt := 17) hx hb dX4_noLetter_13 (by decide) ?_
      exact rb_zret S hr hlk hQ (by first | exact if_pos (Or.inl h1) | exact if_pos (Or.inr (Int32.not_lt.mp h9)) | exact if_neg (fun q => q.elim h1 (fun q => Int32.not_lt.mpr q h9))) (by first | exact Or.inl rfl | exact Or.inr rfl) wb (fun _ _ => rfl) dX4_noLetter_17

set_option maxHeartbeats 4000000 in
set_option maxRecDepth 100000 in
theorem m_letters (l : Launch) (D : va_G) (cI cC cD : ClassId) (ad : Nat → Nat) (th : Int32) (n : Nat) (st : Int32) (mn : Nat) (ar : Nat → Nat → Int32)  : RM l yX4_letters cX4_letters 1 (some .int) ({ frames := 0, cells := 0, slots := 0, locals := 0 }) D (ty3 cI cC cD) EN0 [.ref (ad 0)] ad 12 (mE ad cI th n st mn ar) (mE ad cI (nI 0) n st mn ar) (some (.int (nI mn))) := by
  refine RM.of (by decide) (Nat.le_of_ble_eq_true rfl) ?_
  intro p e s m below meth c0 A ls args Q0 S hr hlk hQ wb hl
  have hx := S.1
  have hb := S.2.1
  have hl : lv_has ls 1 [(0, .ref (ad 0))] := hl
  refine lv_aload_n hx hb dX4_letters_0 rfl (lv_at hl 0 rfl) ?_
  refine lv_iconst (v := nI 0) hx hb dX4_letters_1 (by decide) ?_
  refine rb_put (E' := mE ad cI (nI 0) n st mn ar) S wb 0 (by decide) rfl rfl in4 tyX4 tyX4_ok nmX4 0 (by decide) bw_462 rfl rfl rfl (Nat.le_of_ble_eq_true rfl) (m12 rfl rfl rfl rfl rfl rfl rfl rfl rfl rfl rfl rfl) dX4_letters_2 (fun H locs wb => ?_)
  refine lv_aload_n hx hb dX4_letters_5 rfl (lv_at hl 0 rfl) ?_
  refine rb_get S wb 0 (by decide) rfl rfl in4 12 (by decide) bw_474 rfl dX4_letters_6 ?_
  exact rb_iret S hr hlk hQ rfl wb (fun _ _ => rfl) dX4_letters_9

set_option maxHeartbeats 4000000 in
set_option maxRecDepth 100000 in
theorem m_valueOf (l : Launch) (D : va_G) (cI cC cD : ClassId) (ad : Nat → Nat) (th : Int32) (n : Nat) (st : Int32) (mn : Nat) (ar : Nat → Nat → Int32) (c j : Nat) (hc : c < 6) (hj : j < 6) (hn : n ≤ 6) : RM l yX4_valueOf cX4_valueOf 3 (some .int) ({ frames := 0, cells := 0, slots := 0, locals := 0 }) D (ty3 cI cC cD) EN0 [.ref (ad 0), .int (nI c), .int (nI j)] ad 12 (mE ad cI th n st mn ar) (mE ad cI th n st mn ar) (some (.int (ar 1 (6 * c + j) * nI (n + 1) - ar 2 (6 * c + j)))) := by
  refine RM.of (by decide) (Nat.le_of_ble_eq_true rfl) ?_
  intro p e s m below meth c0 A ls args Q0 S hr hlk hQ wb hl
  have hx := S.1
  have hb := S.2.1
  have hl : lv_has ls 3 [(0, .ref (ad 0)), (1, .int (nI c)), (2, .int (nI j))] := hl
  refine lv_aload_n hx hb dX4_valueOf_0 rfl (lv_at hl 0 rfl) ?_
  refine rb_get S wb 0 (by decide) rfl rfl in4 3 (by decide) bw_465 rfl dX4_valueOf_1 ?_
  refine lv_bipush (v := nI 6) hx hb dX4_valueOf_4 (by decide) ?_
  refine lv_iload_n hx hb dX4_valueOf_6 rfl (lv_at hl 1 rfl) ?_
  refine lv_imul hx hb dX4_valueOf_7 ?_
  refine nb_ren (y := nI (6 * c)) (pk_mul _ _) ?_
  refine lv_iload_n hx hb dX4_valueOf_8 rfl (lv_at hl 2 rfl) ?_
  refine lv_iadd hx hb dX4_valueOf_9 ?_
  refine nb_ren (y := nI (6 * c + j)) (nI_add _ _) ?_
  refine rb_ald (n := 36) (f := ar 1) (x := ar 1 (6 * c + j)) S wb 1 (by decide) rfl 0 rfl (6 * c + j) (by omega) (by decide) rfl dX4_valueOf_10 ?_
  refine lv_aload_n hx hb dX4_valueOf_11 rfl (lv_at hl 0 rfl) ?_
  refine rb_get S wb 0 (by decide) rfl rfl in4 1 (by decide) bw_463 rfl dX4_valueOf_12 ?_
  refine lv_iconst (v := nI 1) hx hb dX4_valueOf_15 (by decide) ?_
  refine lv_iadd hx hb dX4_valueOf_16 ?_
  refine nb_ren (y := nI (n + 1)) (nI_add _ _) ?_
  refine lv_imul hx hb dX4_valueOf_17 ?_
  refine lv_aload_n hx hb dX4_valueOf_18 rfl (lv_at hl 0 rfl) ?_
  refine rb_get S wb 0 (by decide) rfl rfl in4 4 (by decide) bw_466 rfl dX4_valueOf_19 ?_
  refine lv_bipush (v := nI 6) hx hb dX4_valueOf_22 (by decide) ?_
  refine lv_iload_n hx hb dX4_valueOf_24 rfl (lv_at hl 1 rfl) ?_
  refine lv_imul hx hb dX4_valueOf_25 ?_
  refine nb_ren (y := nI (6 * c)) (pk_mul _ _) ?_
  refine lv_iload_n hx hb dX4_valueOf_26 rfl (lv_at hl 2 rfl) ?_
  refine lv_iadd hx hb dX4_valueOf_27 ?_
  refine nb_ren (y := nI (6 * c + j)) (nI_add _ _) ?_
  refine rb_ald (n := 36) (f := ar 2) (x := ar 2 (6 * c + j)) S wb 2 (by decide) rfl 0 rfl (6 * c + j) (by omega) (by decide) rfl dX4_valueOf_28 ?_
  refine lv_isub hx hb dX4_valueOf_29 ?_
  exact rb_iret S hr hlk hQ rfl wb (fun _ _ => rfl) dX4_valueOf_30
