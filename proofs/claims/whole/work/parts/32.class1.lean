/-! the class: methods of crews, desks and the post, and its helpers -/
theorem row_at {ar : Nat → Nat → Int32} {k i j : Nat} (h : j < 6) : row ar k i j = ar k (6 * i + j) := if_pos h
theorem nI_nm1 {j : Nat} (h : j < 2 ^ 31) : ¬ nI j = -1 := fun q => by
  have h1 := nI_pos h
  rw [q] at h1
  exact h1 (by decide)
theorem sc2_start (v : Nat → Int32) (b : Nat) : s0of b = sc2 v b (s0of b) (s0of b + 1) := by
  unfold s0of
  by_cases h : b = 0
  · subst h; simp [sc2]
  · simp [h, sc2]
noncomputable def hearR (ar : Nat → Nat → Int32) (kd : Int32) (c : Nat) (b : Int32) : Nat → Nat → Int32 :=
  if b = ar 8 c then (if kd = nI 1 then va_up ar 6 (upd (ar 6) c (if ar 6 c = nI 1 then nI 2 else ar 6 c)) else va_up (va_up ar 6 (upd (ar 6) c (nI 0))) 7 (upd (ar 7) c (-1))) else ar
theorem ansC_eq (ar : Nat → Nat → Int32) (kd : Int32) (c j : Nat) (b a : Int32) : ansC ar kd c j b a = hearR (knw ar c j a) kd c b := rfl
theorem upd_same {f : Nat → Int32} {k : Nat} {x : Int32} (h : f k = x) : upd f k x = f := by
  funext j
  by_cases e : j = k
  · subst e; rw [pk_us, h]
  · rw [pk_un e]
theorem va_up_same {α : Type} {f : Nat → α} {k : Nat} {x : α} (h : f k = x) : va_up f k x = f := by
  funext j
  by_cases e : j = k
  · subst e; rw [va_up_self, h]
  · rw [va_up_ne _ _ e]
/-- states are free, waiting or holding, and a free crew has no target -/
def okS (ar : Nat → Nat → Int32) (c : Nat) : Prop := (ar 6 c = 0 → ar 7 c = -1) ∧ (ar 6 c = 0 ∨ ar 6 c = 1 ∨ ar 6 c = 2)
theorem hearR_0 {ar : Nat → Nat → Int32} {kd : Int32} {c : Nat} {b : Int32} (h : ¬ b = ar 8 c) : ar = hearR ar kd c b := by unfold hearR; rw [if_neg h]
theorem hearR_1 {ar : Nat → Nat → Int32} {kd : Int32} {c : Nat} {b : Int32} (ok : okS ar c) (h : ar 6 c = 0) : ar = hearR ar kd c b := by
  unfold hearR
  by_cases e : b = ar 8 c
  · rw [if_pos e]
    by_cases k : kd = nI 1
    · rw [if_pos k, if_neg (by rw [h]; decide), upd_same rfl, va_up_same rfl]
    · rw [if_neg k, upd_same (by rw [h]; rfl), va_up_same (f := ar) rfl, upd_same (ok.1 h), va_up_same rfl]
  · rw [if_neg e]
theorem hearR_2 {ar : Nat → Nat → Int32} {kd : Int32} {c : Nat} {b : Int32} (ok : okS ar c) (h : ¬ ar 6 c = 0) (e : b = ar 8 c) (k : kd = nI 1) : va_up ar 6 (upd (ar 6) c (nI 2)) = hearR ar kd c b := by
  unfold hearR
  rw [if_pos e, if_pos k]
  rcases ok.2 with q | q | q
  · exact absurd q h
  · rw [if_pos (by rw [q]; decide)]
  · rw [if_neg (by rw [q]; decide), q]; rfl
theorem hearR_3 {ar : Nat → Nat → Int32} {kd : Int32} {c : Nat} {b : Int32} (e : b = ar 8 c) (k : ¬ kd = nI 1) : va_up (va_up ar 6 (upd (ar 6) c (nI 0))) 7 (upd (ar 7) c (-1)) = hearR ar kd c b := by
  unfold hearR
  rw [if_pos e, if_neg k]
theorem add_eq (ar : Nat → Nat → Int32) (mn : Nat) (x1 x2 x3 x4 x5 : Int32) : va_up (va_up (va_up (va_up (va_up ar 10 (upd (ar 10) (mn * 5 + 0) x1)) 10 (upd (upd (ar 10) (mn * 5 + 0) x1) (mn * 5 + 1) x2)) 10 (upd (upd (upd (ar 10) (mn * 5 + 0) x1) (mn * 5 + 1) x2) (mn * 5 + 2) x3)) 10 (upd (upd (upd (upd (ar 10) (mn * 5 + 0) x1) (mn * 5 + 1) x2) (mn * 5 + 2) x3) (mn * 5 + 3) x4)) 10 (upd (upd (upd (upd (upd (ar 10) (mn * 5 + 0) x1) (mn * 5 + 1) x2) (mn * 5 + 2) x3) (mn * 5 + 3) x4) (mn * 5 + 4) x5) = va_up ar 10 (put5 (ar 10) (5 * mn) x1 x2 x3 x4 x5) := by
  rw [show 5 * mn = mn * 5 by omega, bx_uu, bx_uu, bx_uu, bx_uu]
  rfl
theorem cpy_dr (f : Nat → Int32) (i m : Nat) (h : i < m) : va_cpy f f ((i + 1) * 5) (i * 5) (m * 5 - (i + 1) * 5) = dr f (5 * i) (5 * (m - 1)) := by
  funext q
  unfold va_cpy dr
  by_cases hq : 5 * i ≤ q ∧ q < 5 * (m - 1)
  · rw [if_pos (by omega), if_pos hq]
    congr 1; omega
  · rw [if_neg (by omega), if_neg hq]

theorem hdX0_scaledWorth : yX0_scaledWorth.cls = yX0_scaledWorth.cls ∧ yX0_scaledWorth.cls ≠ "java/lang/invoke/MethodHandle" ∧ yX0_scaledWorth.cls ≠ "java/lang/invoke/VarHandle" ∧ (parseMethodDescriptor yX0_scaledWorth.desc).map (fun d => d.parameters.length) = some 1 := by decide +kernel
theorem hdX0_valueOf : yX0_valueOf.cls = yX0_valueOf.cls ∧ yX0_valueOf.cls ≠ "java/lang/invoke/MethodHandle" ∧ yX0_valueOf.cls ≠ "java/lang/invoke/VarHandle" ∧ (parseMethodDescriptor yX0_valueOf.desc).map (fun d => d.parameters.length) = some 1 := by decide +kernel
theorem hdX0_bestJobBut : yX0_bestJobBut.cls = yX0_bestJobBut.cls ∧ yX0_bestJobBut.cls ≠ "java/lang/invoke/MethodHandle" ∧ yX0_bestJobBut.cls ≠ "java/lang/invoke/VarHandle" ∧ (parseMethodDescriptor yX0_bestJobBut.desc).map (fun d => d.parameters.length) = some 1 := by decide +kernel
theorem hdX0_chooseBid : yX0_chooseBid.cls = yX0_chooseBid.cls ∧ yX0_chooseBid.cls ≠ "java/lang/invoke/MethodHandle" ∧ yX0_chooseBid.cls ≠ "java/lang/invoke/VarHandle" ∧ (parseMethodDescriptor yX0_chooseBid.desc).map (fun d => d.parameters.length) = some 1 := by decide +kernel
theorem hdX0_learn : yX0_learn.cls = yX0_learn.cls ∧ yX0_learn.cls ≠ "java/lang/invoke/MethodHandle" ∧ yX0_learn.cls ≠ "java/lang/invoke/VarHandle" ∧ (parseMethodDescriptor yX0_learn.desc).map (fun d => d.parameters.length) = some 2 := by decide +kernel
theorem hdX0_hear : yX0_hear.cls = yX0_hear.cls ∧ yX0_hear.cls ≠ "java/lang/invoke/MethodHandle" ∧ yX0_hear.cls ≠ "java/lang/invoke/VarHandle" ∧ (parseMethodDescriptor yX0_hear.desc).map (fun d => d.parameters.length) = some 2 := by decide +kernel
theorem hdX0_release : yX0_release.cls = yX0_release.cls ∧ yX0_release.cls ≠ "java/lang/invoke/MethodHandle" ∧ yX0_release.cls ≠ "java/lang/invoke/VarHandle" ∧ (parseMethodDescriptor yX0_release.desc).map (fun d => d.parameters.length) = some 0 := by decide +kernel
theorem hdX1_has : yX1_has.cls = yX1_has.cls ∧ yX1_has.cls ≠ "java/lang/invoke/MethodHandle" ∧ yX1_has.cls ≠ "java/lang/invoke/VarHandle" ∧ (parseMethodDescriptor yX1_has.desc).map (fun d => d.parameters.length) = some 2 := by decide +kernel
theorem hdX1_dismiss : yX1_dismiss.cls = yX1_dismiss.cls ∧ yX1_dismiss.cls ≠ "java/lang/invoke/MethodHandle" ∧ yX1_dismiss.cls ≠ "java/lang/invoke/VarHandle" ∧ (parseMethodDescriptor yX1_dismiss.desc).map (fun d => d.parameters.length) = some 0 := by decide +kernel
theorem hdX2_part : yX2_part.cls = yX2_part.cls ∧ yX2_part.cls ≠ "java/lang/invoke/MethodHandle" ∧ yX2_part.cls ≠ "java/lang/invoke/VarHandle" ∧ (parseMethodDescriptor yX2_part.desc).map (fun d => d.parameters.length) = some 2 := by decide +kernel
theorem hdX2_add : yX2_add.cls = yX2_add.cls ∧ yX2_add.cls ≠ "java/lang/invoke/MethodHandle" ∧ yX2_add.cls ≠ "java/lang/invoke/VarHandle" ∧ (parseMethodDescriptor yX2_add.desc).map (fun d => d.parameters.length) = some 5 := by decide +kernel
theorem hdX2_remove : yX2_remove.cls = yX2_remove.cls ∧ yX2_remove.cls ≠ "java/lang/invoke/MethodHandle" ∧ yX2_remove.cls ≠ "java/lang/invoke/VarHandle" ∧ (parseMethodDescriptor yX2_remove.desc).map (fun d => d.parameters.length) = some 1 := by decide +kernel
theorem hdX2_clear : yX2_clear.cls = yX2_clear.cls ∧ yX2_clear.cls ≠ "java/lang/invoke/MethodHandle" ∧ yX2_clear.cls ≠ "java/lang/invoke/VarHandle" ∧ (parseMethodDescriptor yX2_clear.desc).map (fun d => d.parameters.length) = some 0 := by decide +kernel
theorem hdX3_worth : yX3_worth.cls = yX3_worth.cls ∧ yX3_worth.cls ≠ "java/lang/invoke/MethodHandle" ∧ yX3_worth.cls ≠ "java/lang/invoke/VarHandle" ∧ (parseMethodDescriptor yX3_worth.desc).map (fun d => d.parameters.length) = some 3 := by decide +kernel
theorem hdX3_act : yX3_act.cls = yX3_act.cls ∧ yX3_act.cls ≠ "java/lang/invoke/MethodHandle" ∧ yX3_act.cls ≠ "java/lang/invoke/VarHandle" ∧ (parseMethodDescriptor yX3_act.desc).map (fun d => d.parameters.length) = some 1 := by decide +kernel
theorem hdX3_resend : yX3_resend.cls = yX3_resend.cls ∧ yX3_resend.cls ≠ "java/lang/invoke/MethodHandle" ∧ yX3_resend.cls ≠ "java/lang/invoke/VarHandle" ∧ (parseMethodDescriptor yX3_resend.desc).map (fun d => d.parameters.length) = some 1 := by decide +kernel
theorem hdX3_deliver : yX3_deliver.cls = yX3_deliver.cls ∧ yX3_deliver.cls ≠ "java/lang/invoke/MethodHandle" ∧ yX3_deliver.cls ≠ "java/lang/invoke/VarHandle" ∧ (parseMethodDescriptor yX3_deliver.desc).map (fun d => d.parameters.length) = some 1 := by decide +kernel
theorem hdX3_lose : yX3_lose.cls = yX3_lose.cls ∧ yX3_lose.cls ≠ "java/lang/invoke/MethodHandle" ∧ yX3_lose.cls ≠ "java/lang/invoke/VarHandle" ∧ (parseMethodDescriptor yX3_lose.desc).map (fun d => d.parameters.length) = some 1 := by decide +kernel
theorem hdX3_twin : yX3_twin.cls = yX3_twin.cls ∧ yX3_twin.cls ≠ "java/lang/invoke/MethodHandle" ∧ yX3_twin.cls ≠ "java/lang/invoke/VarHandle" ∧ (parseMethodDescriptor yX3_twin.desc).map (fun d => d.parameters.length) = some 1 := by decide +kernel
theorem hdX3_letters : yX3_letters.cls = yX3_letters.cls ∧ yX3_letters.cls ≠ "java/lang/invoke/MethodHandle" ∧ yX3_letters.cls ≠ "java/lang/invoke/VarHandle" ∧ (parseMethodDescriptor yX3_letters.desc).map (fun d => d.parameters.length) = some 0 := by decide +kernel
theorem hdX3_letter : yX3_letter.cls = yX3_letter.cls ∧ yX3_letter.cls ≠ "java/lang/invoke/MethodHandle" ∧ yX3_letter.cls ≠ "java/lang/invoke/VarHandle" ∧ (parseMethodDescriptor yX3_letter.desc).map (fun d => d.parameters.length) = some 2 := by decide +kernel
theorem hdX3_crew : yX3_crew.cls = yX3_crew.cls ∧ yX3_crew.cls ≠ "java/lang/invoke/MethodHandle" ∧ yX3_crew.cls ≠ "java/lang/invoke/VarHandle" ∧ (parseMethodDescriptor yX3_crew.desc).map (fun d => d.parameters.length) = some 2 := by decide +kernel
theorem hdX3_known : yX3_known.cls = yX3_known.cls ∧ yX3_known.cls ≠ "java/lang/invoke/MethodHandle" ∧ yX3_known.cls ≠ "java/lang/invoke/VarHandle" ∧ (parseMethodDescriptor yX3_known.desc).map (fun d => d.parameters.length) = some 2 := by decide +kernel
theorem hdX3_desk : yX3_desk.cls = yX3_desk.cls ∧ yX3_desk.cls ≠ "java/lang/invoke/MethodHandle" ∧ yX3_desk.cls ≠ "java/lang/invoke/VarHandle" ∧ (parseMethodDescriptor yX3_desk.desc).map (fun d => d.parameters.length) = some 2 := by decide +kernel
theorem hdX3_settled : yX3_settled.cls = yX3_settled.cls ∧ yX3_settled.cls ≠ "java/lang/invoke/MethodHandle" ∧ yX3_settled.cls ≠ "java/lang/invoke/VarHandle" ∧ (parseMethodDescriptor yX3_settled.desc).map (fun d => d.parameters.length) = some 0 := by decide +kernel
theorem hdX3_phase : yX3_phase.cls = yX3_phase.cls ∧ yX3_phase.cls ≠ "java/lang/invoke/MethodHandle" ∧ yX3_phase.cls ≠ "java/lang/invoke/VarHandle" ∧ (parseMethodDescriptor yX3_phase.desc).map (fun d => d.parameters.length) = some 0 := by decide +kernel
theorem hdX3_total : yX3_total.cls = yX3_total.cls ∧ yX3_total.cls ≠ "java/lang/invoke/MethodHandle" ∧ yX3_total.cls ≠ "java/lang/invoke/VarHandle" ∧ (parseMethodDescriptor yX3_total.desc).map (fun d => d.parameters.length) = some 0 := by decide +kernel
theorem hdX3_proves : yX3_proves.cls = yX3_proves.cls ∧ yX3_proves.cls ≠ "java/lang/invoke/MethodHandle" ∧ yX3_proves.cls ≠ "java/lang/invoke/VarHandle" ∧ (parseMethodDescriptor yX3_proves.desc).map (fun d => d.parameters.length) = some 0 := by decide +kernel
theorem hdX3_count : yX3_count.cls = yX3_count.cls ∧ yX3_count.cls ≠ "java/lang/invoke/MethodHandle" ∧ yX3_count.cls ≠ "java/lang/invoke/VarHandle" ∧ (parseMethodDescriptor yX3_count.desc).map (fun d => d.parameters.length) = some 1 := by decide +kernel
theorem hdX3_isIndex : yX3_isIndex.cls = yX3_isIndex.cls ∧ yX3_isIndex.cls ≠ "java/lang/invoke/MethodHandle" ∧ yX3_isIndex.cls ≠ "java/lang/invoke/VarHandle" ∧ (parseMethodDescriptor yX3_isIndex.desc).map (fun d => d.parameters.length) = some 1 := by decide +kernel
theorem hdX3_isDone : yX3_isDone.cls = yX3_isDone.cls ∧ yX3_isDone.cls ≠ "java/lang/invoke/MethodHandle" ∧ yX3_isDone.cls ≠ "java/lang/invoke/VarHandle" ∧ (parseMethodDescriptor yX3_isDone.desc).map (fun d => d.parameters.length) = some 0 := by decide +kernel
theorem hdX3_profitOf : yX3_profitOf.cls = yX3_profitOf.cls ∧ yX3_profitOf.cls ≠ "java/lang/invoke/MethodHandle" ∧ yX3_profitOf.cls ≠ "java/lang/invoke/VarHandle" ∧ (parseMethodDescriptor yX3_profitOf.desc).map (fun d => d.parameters.length) = some 1 := by decide +kernel
theorem hdX3_sendBid : yX3_sendBid.cls = yX3_sendBid.cls ∧ yX3_sendBid.cls ≠ "java/lang/invoke/MethodHandle" ∧ yX3_sendBid.cls ≠ "java/lang/invoke/VarHandle" ∧ (parseMethodDescriptor yX3_sendBid.desc).map (fun d => d.parameters.length) = some 1 := by decide +kernel
theorem hdX3_sendAnswer : yX3_sendAnswer.cls = yX3_sendAnswer.cls ∧ yX3_sendAnswer.cls ≠ "java/lang/invoke/MethodHandle" ∧ yX3_sendAnswer.cls ≠ "java/lang/invoke/VarHandle" ∧ (parseMethodDescriptor yX3_sendAnswer.desc).map (fun d => d.parameters.length) = some 4 := by decide +kernel
theorem hdX3_receiveBid : yX3_receiveBid.cls = yX3_receiveBid.cls ∧ yX3_receiveBid.cls ≠ "java/lang/invoke/MethodHandle" ∧ yX3_receiveBid.cls ≠ "java/lang/invoke/VarHandle" ∧ (parseMethodDescriptor yX3_receiveBid.desc).map (fun d => d.parameters.length) = some 4 := by decide +kernel
theorem hdX3_requireLetter : yX3_requireLetter.cls = yX3_requireLetter.cls ∧ yX3_requireLetter.cls ≠ "java/lang/invoke/MethodHandle" ∧ yX3_requireLetter.cls ≠ "java/lang/invoke/VarHandle" ∧ (parseMethodDescriptor yX3_requireLetter.desc).map (fun d => d.parameters.length) = some 1 := by decide +kernel
theorem hdX3_requireArgument : yX3_requireArgument.cls = yX3_requireArgument.cls ∧ yX3_requireArgument.cls ≠ "java/lang/invoke/MethodHandle" ∧ yX3_requireArgument.cls ≠ "java/lang/invoke/VarHandle" ∧ (parseMethodDescriptor yX3_requireArgument.desc).map (fun d => d.parameters.length) = some 1 := by decide +kernel
theorem hdX3_requireState : yX3_requireState.cls = yX3_requireState.cls ∧ yX3_requireState.cls ≠ "java/lang/invoke/MethodHandle" ∧ yX3_requireState.cls ≠ "java/lang/invoke/VarHandle" ∧ (parseMethodDescriptor yX3_requireState.desc).map (fun d => d.parameters.length) = some 1 := by decide +kernel

set_option maxHeartbeats 4000000 in
set_option maxRecDepth 100000 in
theorem k_scaledWorth (l : Launch) (D : va_G) (cI cC cD : ClassId) (ad : Nat → Nat) (n ph mn : Nat) (ar : Nat → Nat → Int32) (c j : Nat) (hn : n ≤ 6) (hn2 : 2 ≤ n) (hc : c < n) (hj : j < n) : RM l yX0_scaledWorth cX0_scaledWorth 2 (some .int) ({ frames := 0, cells := 0, slots := 0, locals := 0 }) D (ty3 cI cC cD) ENC [.ref (ad (4 * c + 6)), .int (nI j)] ad (4 * n + 6) (cE ad cI cC cD n ph mn ar) (cE ad cI cC cD n ph mn ar) (some (.int (ar 1 (6 * c + j) * nI (n + 1)))) := by
  refine RM.of (by decide) (Nat.le_of_ble_eq_true rfl) ?_
  intro p e s m below meth c0 A ls args Q0 S hr hlk hQ wb hl
  have hx := S.1
  have hb := S.2.1
  have hl : lv_has ls 2 [(0, .ref (ad (4 * c + 6))), (1, .int (nI j))] := hl
  refine lv_aload_n hx hb dX0_scaledWorth_0 rfl (lv_at hl 0 rfl) ?_
  refine rb_get (v := .ref (ad (4 * c + 7))) S wb (4 * c + 6) (by omega) (cE_crew c) rfl in0 0 (by decide) bw_68 rfl dX0_scaledWorth_1 ?_
  refine lv_iload_n hx hb dX0_scaledWorth_4 rfl (lv_at hl 1 rfl) ?_
  refine rb_ald (n := n) (x := ar 1 (6 * c + j)) S wb (4 * c + 7) (by omega) (cE_wr c) 0 rfl j (by omega) (by omega) (row_at (by omega)) dX0_scaledWorth_5 ?_
  refine lv_aload_n hx hb dX0_scaledWorth_6 rfl (lv_at hl 0 rfl) ?_
  refine rb_get (v := .ref (ad (4 * c + 7))) S wb (4 * c + 6) (by omega) (cE_crew c) rfl in0 0 (by decide) bw_68 rfl dX0_scaledWorth_7 ?_
  refine rb_alen (v := nI n) S wb (4 * c + 7) (by omega) (cE_wr c) 0 rfl rfl dX0_scaledWorth_10 ?_
  refine lv_iconst (v := nI 1) hx hb dX0_scaledWorth_11 (by decide) ?_
  refine lv_iadd hx hb dX0_scaledWorth_12 ?_
  refine nb_ren (y := nI (n + 1)) (nI_add _ _) ?_
  refine lv_imul hx hb dX0_scaledWorth_13 ?_
  exact rb_iret S hr hlk hQ rfl wb (fun _ _ => rfl) dX0_scaledWorth_14

set_option maxHeartbeats 4000000 in
set_option maxRecDepth 100000 in
theorem k_valueOf (l : Launch) (D : va_G) (cI cC cD : ClassId) (ad : Nat → Nat) (n ph mn : Nat) (ar : Nat → Nat → Int32) (c j : Nat) (hn : n ≤ 6) (hn2 : 2 ≤ n) (hc : c < n) (hj : j < n) : RM l yX0_valueOf cX0_valueOf 2 (some .int) ({ frames := 1, cells := 0, slots := 0, locals := 21 }) D (ty3 cI cC cD) ENC [.ref (ad (4 * c + 6)), .int (nI j)] ad (4 * n + 6) (cE ad cI cC cD n ph mn ar) (cE ad cI cC cD n ph mn ar) (some (.int (vl n ar c j))) := by
  refine RM.of (by decide) (Nat.le_of_ble_eq_true rfl) ?_
  intro p e s m below meth c0 A ls args Q0 S hr hlk hQ wb hl
  have hx := S.1
  have hb := S.2.1
  have hl : lv_has ls 2 [(0, .ref (ad (4 * c + 6))), (1, .int (nI j))] := hl
  refine lv_aload_n hx hb dX0_valueOf_0 rfl (lv_at hl 0 rfl) ?_
  refine lv_iload_n hx hb dX0_valueOf_1 rfl (lv_at hl 1 rfl) ?_
  refine rb_callV S wb ENC_ok (k_scaledWorth l D cI cC cD ad n ph mn ar c j hn hn2 (by omega) (by omega)) (bw5 bw_301 bw_303 bw_10 bw_34 bw_304) (rb_recv wb (4 * c + 6) (by omega) (cE_crew c) rfl) hdX0_scaledWorth rfl ⟨rfl, rfl⟩ ⟨by decide, by decide⟩ hl.1 (Nat.le_of_ble_eq_true rfl) ⟨Nat.zero_le _, Nat.zero_le _⟩ (rest := []) (st1 := [.int (ar 1 (6 * c + j) * nI (n + 1))]) rfl rfl dX0_valueOf_2 (fun H locs wb => ?_)
  refine lv_aload_n hx hb dX0_valueOf_5 rfl (lv_at hl 0 rfl) ?_
  refine rb_get (v := .ref (ad (4 * c + 8))) S wb (4 * c + 6) (by omega) (cE_crew c) rfl in0 1 (by decide) bw_70 rfl dX0_valueOf_6 ?_
  refine lv_iload_n hx hb dX0_valueOf_9 rfl (lv_at hl 1 rfl) ?_
  refine rb_ald (n := n) (x := ar 2 (6 * c + j)) S wb (4 * c + 8) (by omega) (cE_kn c) 0 rfl j (by omega) (by omega) (row_at (by omega)) dX0_valueOf_10 ?_
  refine lv_isub hx hb dX0_valueOf_11 ?_
  exact rb_iret S hr hlk hQ rfl wb (fun _ _ => rfl) dX0_valueOf_12

set_option maxHeartbeats 4000000 in
set_option maxRecDepth 100000 in
theorem k_best (l : Launch) (D : va_G) (cI cC cD : ClassId) (ad : Nat → Nat) (n ph mn : Nat) (ar : Nat → Nat → Int32) (c : Nat) (hn : n ≤ 6) (hn2 : 2 ≤ n) (hc : c < n) : RM l yX0_bestJobBut cX0_bestJobBut 4 (some .int) ({ frames := 2, cells := 0, slots := 0, locals := 42 }) D (ty3 cI cC cD) ENC [.ref (ad (4 * c + 6)), .int (-1)] ad (4 * n + 6) (cE ad cI cC cD n ph mn ar) (cE ad cI cC cD n ph mn ar) (some (.int (nI (bst (vl n ar c) (n - 1))))) := by
  refine RM.of (by decide) (Nat.le_of_ble_eq_true rfl) ?_
  intro p e s m below meth c0 A ls args Q0 S hr hlk hQ wb hl
  have hx := S.1
  have hb := S.2.1
  have hl : lv_has ls 4 [(0, .ref (ad (4 * c + 6))), (1, .int (-1))] := hl
  refine lv_iload_n hx hb dX0_bestJobBut_0 rfl (lv_at hl 1 rfl) ?_
  refine lv_if_ne (tgt := 8) hx hb dX0_bestJobBut_1 (by decide) (fun h1 => ?_) (fun h1 => absurd h1 (by decide))
  refine lv_iconst (v := nI 0) hx hb dX0_bestJobBut_8 (by decide) ?_
  refine lv_istore_n (lv' := [(2, .int (nI 0)), (0, .ref (ad (4 * c + 6))), (1, .int (-1))]) hx hb dX0_bestJobBut_9 rfl hl (by decide) rfl (fun ls hl => ?_)
  refine lv_iload_n hx hb dX0_bestJobBut_10 rfl (lv_at hl 0 rfl) ?_
  refine lv_iconst (v := nI 1) hx hb dX0_bestJobBut_11 (by decide) ?_
  refine lv_iadd hx hb dX0_bestJobBut_12 ?_
  refine nb_ren (y := nI 1) (nI_add _ _) ?_
  refine lv_istore_n (lv' := [(3, .int (nI 1)), (2, .int (nI 0)), (0, .ref (ad (4 * c + 6))), (1, .int (-1))]) hx hb dX0_bestJobBut_13 rfl hl (by decide) rfl (fun ls hl => ?_)
  have L14 : ∀ (fuel : Nat) (k : Nat) (b1 : Nat) (hk : k < n) (hfu : n ≤ k + fuel) (hbq : b1 = bst (vl n ar c) k) (hb2 : b1 ≤ k) (H : Heap) (locs : List Loc) (wb : WB D (ty3 cI cC cD) ENC ad (4 * n + 6) A s (cE ad cI cC cD n ph mn ar) H locs) (ls : Array Slot) (hl : lv_has ls 4 [(0, .ref (ad (4 * c + 6))), (1, .int (-1)), (2, .int (nI b1)), (3, .int (nI (k + 1)))]), W p l e ({ frames := 2, cells := 0, slots := 0, locals := 42 }) s m args below meth c0 H locs 0 0 Q0 (F0 m 14 ls []) := by
    intro fuel
    induction fuel with
    | zero => intro k b1 hk hfu hbq hb2 H locs wb ls hl; exact absurd hfu (by omega)
    | succ fuel ih =>
      intro k b1 hk hfu hbq hb2 H locs wb ls hl
      refine lv_iload_n hx hb dX0_bestJobBut_14 rfl (lv_at hl 3 rfl) ?_
      refine lv_aload_n hx hb dX0_bestJobBut_15 rfl (lv_at hl 0 rfl) ?_
      refine rb_get (v := .ref (ad (4 * c + 7))) S wb (4 * c + 6) (by omega) (cE_crew c) rfl in0 0 (by decide) bw_68 rfl dX0_bestJobBut_16 ?_
      refine rb_alen (v := nI n) S wb (4 * c + 7) (by omega) (cE_wr c) 0 rfl rfl dX0_bestJobBut_19 ?_
      refine nb_icmp_ge (tgt := 49) hx hb dX0_bestJobBut_20 (by decide) (by omega) (by omega) (fun h20 => ?_) (fun h20 => ?_)
      · refine lv_iload_n hx hb dX0_bestJobBut_49 rfl (lv_at hl 2 rfl) ?_
        have hkn : k = n - 1 := by omega
        exact rb_iret S hr hlk hQ (by rw [hbq, hkn]) wb (fun _ _ => rfl) dX0_bestJobBut_50
      · refine lv_iload_n hx hb dX0_bestJobBut_23 rfl (lv_at hl 3 rfl) ?_
        refine lv_iload_n hx hb dX0_bestJobBut_24 rfl (lv_at hl 1 rfl) ?_
        refine lv_icmp_eq (tgt := 43) hx hb dX0_bestJobBut_25 (by decide) (fun h25 => absurd h25 (nI_nm1 (by omega))) (fun h25 => ?_)
        refine lv_aload_n hx hb dX0_bestJobBut_28 rfl (lv_at hl 0 rfl) ?_
        refine lv_iload_n hx hb dX0_bestJobBut_29 rfl (lv_at hl 3 rfl) ?_
        refine rb_callV S wb ENC_ok (k_valueOf l D cI cC cD ad n ph mn ar c (k + 1) hn hn2 (by omega) (by omega)) (bw5 bw_297 bw_299 bw_9 bw_34 bw_300) (rb_recv wb (4 * c + 6) (by omega) (cE_crew c) rfl) hdX0_valueOf rfl ⟨rfl, rfl⟩ ⟨by decide, by decide⟩ hl.1 (Nat.le_of_ble_eq_true rfl) ⟨Nat.zero_le _, Nat.zero_le _⟩ (rest := []) (st1 := [.int (vl n ar c (k + 1))]) rfl rfl dX0_bestJobBut_30 (fun H locs wb => ?_)
        refine lv_aload_n hx hb dX0_bestJobBut_33 rfl (lv_at hl 0 rfl) ?_
        refine lv_iload_n hx hb dX0_bestJobBut_34 rfl (lv_at hl 2 rfl) ?_
        refine rb_callV S wb ENC_ok (k_valueOf l D cI cC cD ad n ph mn ar c b1 hn hn2 (by omega) (by omega)) (bw5 bw_297 bw_299 bw_9 bw_34 bw_300) (rb_recv wb (4 * c + 6) (by omega) (cE_crew c) rfl) hdX0_valueOf rfl ⟨rfl, rfl⟩ ⟨by decide, by decide⟩ hl.1 (Nat.le_of_ble_eq_true rfl) ⟨Nat.zero_le _, Nat.zero_le _⟩ (rest := [.int (vl n ar c (k + 1))]) (st1 := [.int (vl n ar c b1), .int (vl n ar c (k + 1))]) rfl rfl dX0_bestJobBut_35 (fun H locs wb => ?_)
        refine lv_icmp_le (tgt := 43) hx hb dX0_bestJobBut_38 (by decide) (fun h38 => ?_) (fun h38 => ?_)
        · refine lv_iinc (v := nI (k + 1 + 1)) (lv' := [(3, .int (nI (k + 1 + 1))), (0, .ref (ad (4 * c + 6))), (1, .int (-1)), (2, .int (nI b1))]) hx hb dX0_bestJobBut_43 hl (k := 3) rfl (nI_s1 _) (by decide) rfl (fun ls hl => ?_)
          refine lv_goto (tgt := 14) hx hb dX0_bestJobBut_46 (by decide) ?_
          exact ih (k + 1) b1 (by omega) (by omega) (by first | exact bst_t hbq h38 | exact bst_f hbq h38) (by omega) _ _ wb ls (lv_sub hl [1, 2, 3, 0] rfl)
        · refine lv_iload_n hx hb dX0_bestJobBut_41 rfl (lv_at hl 3 rfl) ?_
          refine lv_istore_n (lv' := [(2, .int (nI (k + 1))), (0, .ref (ad (4 * c + 6))), (1, .int (-1)), (3, .int (nI (k + 1)))]) hx hb dX0_bestJobBut_42 rfl hl (by decide) rfl (fun ls hl => ?_)
          refine lv_iinc (v := nI (k + 1 + 1)) (lv' := [(3, .int (nI (k + 1 + 1))), (2, .int (nI (k + 1))), (0, .ref (ad (4 * c + 6))), (1, .int (-1))]) hx hb dX0_bestJobBut_43 hl (k := 3) rfl (nI_s1 _) (by decide) rfl (fun ls hl => ?_)
          refine lv_goto (tgt := 14) hx hb dX0_bestJobBut_46 (by decide) ?_
          exact ih (k + 1) (k + 1) (by omega) (by omega) (by first | exact bst_t hbq h38 | exact bst_f hbq h38) (by omega) _ _ wb ls (lv_sub hl [2, 3, 1, 0] rfl)
  exact L14 n 0 0 (by omega) (by omega) rfl (by omega) _ _ wb ls (lv_sub hl [2, 3, 1, 0] rfl)

set_option maxHeartbeats 4000000 in
set_option maxRecDepth 100000 in
theorem k_second (l : Launch) (D : va_G) (cI cC cD : ClassId) (ad : Nat → Nat) (n ph mn : Nat) (ar : Nat → Nat → Int32) (c b : Nat) (hn : n ≤ 6) (hn2 : 2 ≤ n) (hc : c < n) (hbn : b < n) : RM l yX0_bestJobBut cX0_bestJobBut 4 (some .int) ({ frames := 2, cells := 0, slots := 0, locals := 42 }) D (ty3 cI cC cD) ENC [.ref (ad (4 * c + 6)), .int (nI b)] ad (4 * n + 6) (cE ad cI cC cD n ph mn ar) (cE ad cI cC cD n ph mn ar) (some (.int (nI (sc2 (vl n ar c) b (s0of b) n)))) := by
  refine RM.of (by decide) (Nat.le_of_ble_eq_true rfl) ?_
  intro p e s m below meth c0 A ls args Q0 S hr hlk hQ wb hl
  have hx := S.1
  have hb := S.2.1
  have hl : lv_has ls 4 [(0, .ref (ad (4 * c + 6))), (1, .int (nI b))] := hl
  have L14 : ∀ (fuel : Nat) (k : Nat) (b1 : Nat) (hk : k < n) (hfu : n ≤ k + fuel) (hsd : b1 = sc2 (vl n ar c) b (s0of b) (k + 1)) (hb2 : b1 < n) (H : Heap) (locs : List Loc) (wb : WB D (ty3 cI cC cD) ENC ad (4 * n + 6) A s (cE ad cI cC cD n ph mn ar) H locs) (ls : Array Slot) (hl : lv_has ls 4 [(0, .ref (ad (4 * c + 6))), (1, .int (nI b)), (2, .int (nI b1)), (3, .int (nI (k + 1)))]), W p l e ({ frames := 2, cells := 0, slots := 0, locals := 42 }) s m args below meth c0 H locs 0 0 Q0 (F0 m 14 ls []) := by
    intro fuel
    induction fuel with
    | zero => intro k b1 hk hfu hsd hb2 H locs wb ls hl; exact absurd hfu (by omega)
    | succ fuel ih =>
      intro k b1 hk hfu hsd hb2 H locs wb ls hl
      refine lv_iload_n hx hb dX0_bestJobBut_14 rfl (lv_at hl 3 rfl) ?_
      refine lv_aload_n hx hb dX0_bestJobBut_15 rfl (lv_at hl 0 rfl) ?_
      refine rb_get (v := .ref (ad (4 * c + 7))) S wb (4 * c + 6) (by omega) (cE_crew c) rfl in0 0 (by decide) bw_68 rfl dX0_bestJobBut_16 ?_
      refine rb_alen (v := nI n) S wb (4 * c + 7) (by omega) (cE_wr c) 0 rfl rfl dX0_bestJobBut_19 ?_
      refine nb_icmp_ge (tgt := 49) hx hb dX0_bestJobBut_20 (by decide) (by omega) (by omega) (fun h20 => ?_) (fun h20 => ?_)
      · refine lv_iload_n hx hb dX0_bestJobBut_49 rfl (lv_at hl 2 rfl) ?_
        have hkn : k + 1 = n := by omega
        exact rb_iret S hr hlk hQ (by rw [hsd, hkn]) wb (fun _ _ => rfl) dX0_bestJobBut_50
      · refine lv_iload_n hx hb dX0_bestJobBut_23 rfl (lv_at hl 3 rfl) ?_
        refine lv_iload_n hx hb dX0_bestJobBut_24 rfl (lv_at hl 1 rfl) ?_
        refine nb_icmp_eq (tgt := 43) hx hb dX0_bestJobBut_25 (by decide) (by omega) (by omega) (fun h25 => ?_) (fun h25 => ?_)
        · refine lv_iinc (v := nI (k + 1 + 1)) (lv' := [(3, .int (nI (k + 1 + 1))), (0, .ref (ad (4 * c + 6))), (1, .int (nI b)), (2, .int (nI b1))]) hx hb dX0_bestJobBut_43 hl (k := 3) rfl (nI_s1 _) (by decide) rfl (fun ls hl => ?_)
          refine lv_goto (tgt := 14) hx hb dX0_bestJobBut_46 (by decide) ?_
          exact ih (k + 1) b1 (by omega) (by omega) (by first | exact sc2_e hsd h25 | exact sc2_f hsd h38 | exact sc2_t hsd h25 h38) (by omega) _ _ wb ls (lv_sub hl [1, 2, 3, 0] rfl)
        · refine lv_aload_n hx hb dX0_bestJobBut_28 rfl (lv_at hl 0 rfl) ?_
          refine lv_iload_n hx hb dX0_bestJobBut_29 rfl (lv_at hl 3 rfl) ?_
          refine rb_callV S wb ENC_ok (k_valueOf l D cI cC cD ad n ph mn ar c (k + 1) hn hn2 (by omega) (by omega)) (bw5 bw_297 bw_299 bw_9 bw_34 bw_300) (rb_recv wb (4 * c + 6) (by omega) (cE_crew c) rfl) hdX0_valueOf rfl ⟨rfl, rfl⟩ ⟨by decide, by decide⟩ hl.1 (Nat.le_of_ble_eq_true rfl) ⟨Nat.zero_le _, Nat.zero_le _⟩ (rest := []) (st1 := [.int (vl n ar c (k + 1))]) rfl rfl dX0_bestJobBut_30 (fun H locs wb => ?_)
          refine lv_aload_n hx hb dX0_bestJobBut_33 rfl (lv_at hl 0 rfl) ?_
          refine lv_iload_n hx hb dX0_bestJobBut_34 rfl (lv_at hl 2 rfl) ?_
          refine rb_callV S wb ENC_ok (k_valueOf l D cI cC cD ad n ph mn ar c b1 hn hn2 (by omega) (by omega)) (bw5 bw_297 bw_299 bw_9 bw_34 bw_300) (rb_recv wb (4 * c + 6) (by omega) (cE_crew c) rfl) hdX0_valueOf rfl ⟨rfl, rfl⟩ ⟨by decide, by decide⟩ hl.1 (Nat.le_of_ble_eq_true rfl) ⟨Nat.zero_le _, Nat.zero_le _⟩ (rest := [.int (vl n ar c (k + 1))]) (st1 := [.int (vl n ar c b1), .int (vl n ar c (k + 1))]) rfl rfl dX0_bestJobBut_35 (fun H locs wb => ?_)
          refine lv_icmp_le (tgt := 43) hx hb dX0_bestJobBut_38 (by decide) (fun h38 => ?_) (fun h38 => ?_)
          · refine lv_iinc (v := nI (k + 1 + 1)) (lv' := [(3, .int (nI (k + 1 + 1))), (0, .ref (ad (4 * c + 6))), (1, .int (nI b)), (2, .int (nI b1))]) hx hb dX0_bestJobBut_43 hl (k := 3) rfl (nI_s1 _) (by decide) rfl (fun ls hl => ?_)
            refine lv_goto (tgt := 14) hx hb dX0_bestJobBut_46 (by decide) ?_
            exact ih (k + 1) b1 (by omega) (by omega) (by first | exact sc2_e hsd h25 | exact sc2_f hsd h38 | exact sc2_t hsd h25 h38) (by omega) _ _ wb ls (lv_sub hl [1, 2, 3, 0] rfl)
          · refine lv_iload_n hx hb dX0_bestJobBut_41 rfl (lv_at hl 3 rfl) ?_
            refine lv_istore_n (lv' := [(2, .int (nI (k + 1))), (0, .ref (ad (4 * c + 6))), (1, .int (nI b)), (3, .int (nI (k + 1)))]) hx hb dX0_bestJobBut_42 rfl hl (by decide) rfl (fun ls hl => ?_)
            refine lv_iinc (v := nI (k + 1 + 1)) (lv' := [(3, .int (nI (k + 1 + 1))), (2, .int (nI (k + 1))), (0, .ref (ad (4 * c + 6))), (1, .int (nI b))]) hx hb dX0_bestJobBut_43 hl (k := 3) rfl (nI_s1 _) (by decide) rfl (fun ls hl => ?_)
            refine lv_goto (tgt := 14) hx hb dX0_bestJobBut_46 (by decide) ?_
            exact ih (k + 1) (k + 1) (by omega) (by omega) (by first | exact sc2_e hsd h25 | exact sc2_f hsd h38 | exact sc2_t hsd h25 h38) (by omega) _ _ wb ls (lv_sub hl [2, 3, 1, 0] rfl)
  refine lv_iload_n hx hb dX0_bestJobBut_0 rfl (lv_at hl 1 rfl) ?_
  refine lv_if_ne (tgt := 8) hx hb dX0_bestJobBut_1 (by decide) (fun h1 => ?_) (fun h1 => ?_)
  · have hb0 : ¬ b = 0 := fun q => h1 (by rw [q]; exact nI_0)
    have es : s0of b = 0 := by unfold s0of; rw [if_neg hb0]
    refine lv_iconst (v := nI 0) hx hb dX0_bestJobBut_8 (by decide) ?_
    refine lv_istore_n (lv' := [(2, .int (nI 0)), (0, .ref (ad (4 * c + 6))), (1, .int (nI b))]) hx hb dX0_bestJobBut_9 rfl hl (by decide) rfl (fun ls hl => ?_)
    refine lv_iload_n hx hb dX0_bestJobBut_10 rfl (lv_at hl 0 rfl) ?_
    refine lv_iconst (v := nI 1) hx hb dX0_bestJobBut_11 (by decide) ?_
    refine lv_iadd hx hb dX0_bestJobBut_12 ?_
    refine nb_ren (y := nI 1) (nI_add _ _) ?_
    refine lv_istore_n (lv' := [(3, .int (nI 1)), (2, .int (nI 0)), (0, .ref (ad (4 * c + 6))), (1, .int (nI b))]) hx hb dX0_bestJobBut_13 rfl hl (by decide) rfl (fun ls hl => ?_)
    exact L14 n 0 0 (by omega) (by omega) (by have q := sc2_start (vl n ar c) b; rwa [es] at q ⊢) (by omega) _ _ wb ls (lv_sub hl [2, 3, 1, 0] rfl)
  · have hb0 : b = 0 := Classical.byContradiction fun q => nI_ne0 (by omega) (by omega) h1
    have es : s0of b = 1 := by rw [hb0]; rfl
    refine lv_iconst (v := nI 1) hx hb dX0_bestJobBut_4 (by decide) ?_
    refine lv_goto (tgt := 9) hx hb dX0_bestJobBut_5 (by decide) ?_
    refine lv_istore_n (lv' := [(2, .int (nI 1)), (0, .ref (ad (4 * c + 6))), (1, .int (nI b))]) hx hb dX0_bestJobBut_9 rfl hl (by decide) rfl (fun ls hl => ?_)
    refine lv_iload_n hx hb dX0_bestJobBut_10 rfl (lv_at hl 0 rfl) ?_
    refine lv_iconst (v := nI 1) hx hb dX0_bestJobBut_11 (by decide) ?_
    refine lv_iadd hx hb dX0_bestJobBut_12 ?_
    refine nb_ren (y := nI 2) (nI_add _ _) ?_
    refine lv_istore_n (lv' := [(3, .int (nI 2)), (2, .int (nI 1)), (0, .ref (ad (4 * c + 6))), (1, .int (nI b))]) hx hb dX0_bestJobBut_13 rfl hl (by decide) rfl (fun ls hl => ?_)
    exact L14 n 1 1 (by omega) (by omega) (by have q := sc2_start (vl n ar c) b; rwa [es] at q ⊢) (by omega) _ _ wb ls (lv_sub hl [2, 3, 1, 0] rfl)

set_option maxHeartbeats 4000000 in
set_option maxRecDepth 100000 in
theorem k_choose (l : Launch) (D : va_G) (cI cC cD : ClassId) (ad : Nat → Nat) (n ph mn : Nat) (ar : Nat → Nat → Int32) (c b sd : Nat) (x : Int32) (hn : n ≤ 6) (hn2 : 2 ≤ n) (hc : c < n) (hbb : b = bst (vl n ar c) (n - 1)) (hss : sd = sc2 (vl n ar c) b (s0of b) n) : RM l yX0_chooseBid cX0_chooseBid 2 none ({ frames := 3, cells := 0, slots := 0, locals := 65 }) D (ty3 cI cC cD) ENC [.ref (ad (4 * c + 6)), .int x] ad (4 * n + 6) (cE ad cI cC cD n ph mn ar) (cE ad cI cC cD n ph mn (va_up (va_up (va_up (va_up ar 7 (upd (ar 7) c (nI b))) 9 (upd (ar 9) c (ar 2 (6 * c + b) + vl n ar c b - vl n ar c sd + x))) 8 (upd (ar 8) c (ar 8 c + nI 1))) 6 (upd (ar 6) c (nI 1)))) none := by
  refine RM.of (by decide) (Nat.le_of_ble_eq_true rfl) ?_
  intro p e s m below meth c0 A ls args Q0 S hr hlk hQ wb hl
  have hx := S.1
  have hb := S.2.1
  have hl : lv_has ls 2 [(0, .ref (ad (4 * c + 6))), (1, .int x)] := hl
  have hbl := bst_le (vl n ar c) (n - 1)
  have hbn : b < n := by omega
  have hsn : sd < n := by rw [hss]; exact sc2_lt (by unfold s0of; split <;> omega) n (Nat.le_refl n)
  refine lv_aload_n hx hb dX0_chooseBid_0 rfl (lv_at hl 0 rfl) ?_
  refine lv_aload_n hx hb dX0_chooseBid_1 rfl (lv_at hl 0 rfl) ?_
  refine lv_iconst (v := (-1)) hx hb dX0_chooseBid_2 (by decide) ?_
  refine rb_callV S wb ENC_ok (k_best l D cI cC cD ad n ph mn ar c hn hn2 (by omega)) (bw5 bw_293 bw_295 bw_8 bw_34 bw_296) (rb_recv wb (4 * c + 6) (by omega) (cE_crew c) rfl) hdX0_bestJobBut rfl ⟨rfl, rfl⟩ ⟨by decide, by decide⟩ hl.1 (Nat.le_of_ble_eq_true rfl) ⟨Nat.zero_le _, Nat.zero_le _⟩ (rest := [.ref (ad (4 * c + 6))]) (st1 := [.int (nI (bst (vl n ar c) (n - 1))), .ref (ad (4 * c + 6))]) rfl rfl dX0_chooseBid_3 (fun H locs wb => ?_)
  refine nb_ren (y := nI b) (by rw [hbb]) ?_
  refine rb_put (E' := cE ad cI cC cD n ph mn (va_up ar 7 (upd (ar 7) c (nI b)))) S wb (4 * c + 6) (by omega) (cE_crew c) rfl in0 tyX0 tyX0_ok nmX0 3 (by decide) bw_74 rfl rfl rfl (Nat.le_of_ble_eq_true rfl) (fun q _ => cu_tg c _ q) dX0_chooseBid_6 (fun H locs wb => ?_)
  refine lv_aload_n hx hb dX0_chooseBid_9 rfl (lv_at hl 0 rfl) ?_
  refine lv_aload_n hx hb dX0_chooseBid_10 rfl (lv_at hl 0 rfl) ?_
  refine rb_get (v := .ref (ad (4 * c + 8))) S wb (4 * c + 6) (by omega) (cE_crew c) rfl in0 1 (by decide) bw_70 rfl dX0_chooseBid_11 ?_
  refine lv_aload_n hx hb dX0_chooseBid_14 rfl (lv_at hl 0 rfl) ?_
  refine rb_get (v := .int ((upd (ar 7) c (nI b)) c)) S wb (4 * c + 6) (by omega) (cE_crew c) rfl in0 3 (by decide) bw_74 rfl dX0_chooseBid_15 ?_
  refine nb_ren (y := nI b) pk_us ?_
  refine rb_ald (n := n) (x := ar 2 (6 * c + b)) S wb (4 * c + 8) (by omega) (cE_kn c) 0 rfl b (by omega) (by omega) (row_at (by omega)) dX0_chooseBid_18 ?_
  refine lv_aload_n hx hb dX0_chooseBid_19 rfl (lv_at hl 0 rfl) ?_
  refine lv_aload_n hx hb dX0_chooseBid_20 rfl (lv_at hl 0 rfl) ?_
  refine rb_get (v := .int ((upd (ar 7) c (nI b)) c)) S wb (4 * c + 6) (by omega) (cE_crew c) rfl in0 3 (by decide) bw_74 rfl dX0_chooseBid_21 ?_
  refine nb_ren (y := nI b) pk_us ?_
  refine rb_callV S wb ENC_ok (k_valueOf l D cI cC cD ad n ph mn (va_up ar 7 (upd (ar 7) c (nI b))) c b hn hn2 (by omega) (by omega)) (bw5 bw_297 bw_299 bw_9 bw_34 bw_300) (rb_recv wb (4 * c + 6) (by omega) (cE_crew c) rfl) hdX0_valueOf rfl ⟨rfl, rfl⟩ ⟨by decide, by decide⟩ hl.1 (Nat.le_of_ble_eq_true rfl) ⟨Nat.zero_le _, Nat.zero_le _⟩ (rest := [.int (ar 2 (6 * c + b)), .ref (ad (4 * c + 6))]) (st1 := [.int (vl n ar c b), .int (ar 2 (6 * c + b)), .ref (ad (4 * c + 6))]) rfl rfl dX0_chooseBid_24 (fun H locs wb => ?_)
  refine lv_iadd hx hb dX0_chooseBid_27 ?_
  refine lv_aload_n hx hb dX0_chooseBid_28 rfl (lv_at hl 0 rfl) ?_
  refine lv_aload_n hx hb dX0_chooseBid_29 rfl (lv_at hl 0 rfl) ?_
  refine lv_aload_n hx hb dX0_chooseBid_30 rfl (lv_at hl 0 rfl) ?_
  refine rb_get (v := .int ((upd (ar 7) c (nI b)) c)) S wb (4 * c + 6) (by omega) (cE_crew c) rfl in0 3 (by decide) bw_74 rfl dX0_chooseBid_31 ?_
  refine nb_ren (y := nI b) pk_us ?_
  refine rb_callV S wb ENC_ok (k_second l D cI cC cD ad n ph mn (va_up ar 7 (upd (ar 7) c (nI b))) c b hn hn2 (by omega) (by omega)) (bw5 bw_293 bw_295 bw_8 bw_34 bw_296) (rb_recv wb (4 * c + 6) (by omega) (cE_crew c) rfl) hdX0_bestJobBut rfl ⟨rfl, rfl⟩ ⟨by decide, by decide⟩ hl.1 (Nat.le_of_ble_eq_true rfl) ⟨Nat.zero_le _, Nat.zero_le _⟩ (rest := [.ref (ad (4 * c + 6)), .int ((ar 2 (6 * c + b)) + (vl n ar c b)), .ref (ad (4 * c + 6))]) (st1 := [.int (nI (sc2 (vl n ar c) b (s0of b) n)), .ref (ad (4 * c + 6)), .int ((ar 2 (6 * c + b)) + (vl n ar c b)), .ref (ad (4 * c + 6))]) rfl rfl dX0_chooseBid_34 (fun H locs wb => ?_)
  refine nb_ren (y := nI sd) (by rw [hss]) ?_
  refine rb_callV S wb ENC_ok (k_valueOf l D cI cC cD ad n ph mn (va_up ar 7 (upd (ar 7) c (nI b))) c sd hn hn2 (by omega) (by omega)) (bw5 bw_297 bw_299 bw_9 bw_34 bw_300) (rb_recv wb (4 * c + 6) (by omega) (cE_crew c) rfl) hdX0_valueOf rfl ⟨rfl, rfl⟩ ⟨by decide, by decide⟩ hl.1 (Nat.le_of_ble_eq_true rfl) ⟨Nat.zero_le _, Nat.zero_le _⟩ (rest := [.int ((ar 2 (6 * c + b)) + (vl n ar c b)), .ref (ad (4 * c + 6))]) (st1 := [.int (vl n ar c sd), .int ((ar 2 (6 * c + b)) + (vl n ar c b)), .ref (ad (4 * c + 6))]) rfl rfl dX0_chooseBid_37 (fun H locs wb => ?_)
  refine lv_isub hx hb dX0_chooseBid_40 ?_
  refine lv_iload_n hx hb dX0_chooseBid_41 rfl (lv_at hl 1 rfl) ?_
  refine lv_iadd hx hb dX0_chooseBid_42 ?_
  refine rb_put (E' := cE ad cI cC cD n ph mn (va_up (va_up ar 7 (upd (ar 7) c (nI b))) 9 (upd (ar 9) c ((((ar 2 (6 * c + b)) + (vl n ar c b)) - (vl n ar c sd)) + x)))) S wb (4 * c + 6) (by omega) (cE_crew c) rfl in0 tyX0 tyX0_ok nmX0 5 (by decide) bw_78 rfl rfl rfl (Nat.le_of_ble_eq_true rfl) (fun q _ => cu_am c _ q) dX0_chooseBid_43 (fun H locs wb => ?_)
  refine lv_aload_n hx hb dX0_chooseBid_46 rfl (lv_at hl 0 rfl) ?_
  refine lv_dup hx hb dX0_chooseBid_47 rfl ?_
  refine rb_get (v := .int (ar 8 c)) S wb (4 * c + 6) (by omega) (cE_crew c) rfl in0 4 (by decide) bw_76 rfl dX0_chooseBid_48 ?_
  refine lv_iconst (v := nI 1) hx hb dX0_chooseBid_51 (by decide) ?_
  refine lv_iadd hx hb dX0_chooseBid_52 ?_
  refine rb_put (E' := cE ad cI cC cD n ph mn (va_up (va_up (va_up ar 7 (upd (ar 7) c (nI b))) 9 (upd (ar 9) c ((((ar 2 (6 * c + b)) + (vl n ar c b)) - (vl n ar c sd)) + x))) 8 (upd (ar 8) c ((ar 8 c) + (nI 1))))) S wb (4 * c + 6) (by omega) (cE_crew c) rfl in0 tyX0 tyX0_ok nmX0 4 (by decide) bw_76 rfl rfl rfl (Nat.le_of_ble_eq_true rfl) (fun q _ => cu_nb c _ q) dX0_chooseBid_53 (fun H locs wb => ?_)
  refine lv_aload_n hx hb dX0_chooseBid_56 rfl (lv_at hl 0 rfl) ?_
  refine lv_iconst (v := nI 1) hx hb dX0_chooseBid_57 (by decide) ?_
  refine rb_put (E' := cE ad cI cC cD n ph mn (va_up (va_up (va_up (va_up ar 7 (upd (ar 7) c (nI b))) 9 (upd (ar 9) c ((((ar 2 (6 * c + b)) + (vl n ar c b)) - (vl n ar c sd)) + x))) 8 (upd (ar 8) c ((ar 8 c) + (nI 1)))) 6 (upd (ar 6) c (nI 1)))) S wb (4 * c + 6) (by omega) (cE_crew c) rfl in0 tyX0 tyX0_ok nmX0 2 (by decide) bw_72 rfl rfl rfl (Nat.le_of_ble_eq_true rfl) (fun q _ => cu_st c _ q) dX0_chooseBid_58 (fun H locs wb => ?_)
  exact rb_vret S hr hlk hQ wb (fun _ _ => rfl) dX0_chooseBid_61

set_option maxHeartbeats 4000000 in
set_option maxRecDepth 100000 in
theorem k_learn (l : Launch) (D : va_G) (cI cC cD : ClassId) (ad : Nat → Nat) (n ph mn : Nat) (ar : Nat → Nat → Int32) (c j : Nat) (x : Int32) (hn : n ≤ 6) (hn2 : 2 ≤ n) (hc : c < n) (hj : j < n) : RM l yX0_learn cX0_learn 3 none ({ frames := 1, cells := 0, slots := 0, locals := 20 }) D (ty3 cI cC cD) ENC [.ref (ad (4 * c + 6)), .int (nI j), .int x] ad (4 * n + 6) (cE ad cI cC cD n ph mn ar) (cE ad cI cC cD n ph mn (knw ar c j x)) none := by
  refine RM.of (by decide) (Nat.le_of_ble_eq_true rfl) ?_
  intro p e s m below meth c0 A ls args Q0 S hr hlk hQ wb hl
  have hx := S.1
  have hb := S.2.1
  have hl : lv_has ls 3 [(0, .ref (ad (4 * c + 6))), (1, .int (nI j)), (2, .int x)] := hl
  refine lv_aload_n hx hb dX0_learn_0 rfl (lv_at hl 0 rfl) ?_
  refine rb_get (v := .ref (ad (4 * c + 8))) S wb (4 * c + 6) (by omega) (cE_crew c) rfl in0 1 (by decide) bw_70 rfl dX0_learn_1 ?_
  refine lv_iload_n hx hb dX0_learn_4 rfl (lv_at hl 1 rfl) ?_
  refine lv_aload_n hx hb dX0_learn_5 rfl (lv_at hl 0 rfl) ?_
  refine rb_get (v := .ref (ad (4 * c + 8))) S wb (4 * c + 6) (by omega) (cE_crew c) rfl in0 1 (by decide) bw_70 rfl dX0_learn_6 ?_
  refine lv_iload_n hx hb dX0_learn_9 rfl (lv_at hl 1 rfl) ?_
  refine rb_ald (n := n) (x := ar 2 (6 * c + j)) S wb (4 * c + 8) (by omega) (cE_kn c) 0 rfl j (by omega) (by omega) (row_at (by omega)) dX0_learn_10 ?_
  refine lv_iload_n hx hb dX0_learn_11 rfl (lv_at hl 2 rfl) ?_
  refine rb_max S hl.1 bw_371 bw_57 bw_33 bw_58 (by decide) (Nat.le_of_ble_eq_true rfl) (Nat.zero_le _) (Nat.zero_le _) dX0_learn_12 ?_
  refine rb_ast (E' := cE ad cI cC cD n ph mn (va_up ar 2 (upd (ar 2) (6 * c + j) (if ar 2 (6 * c + j) < x then x else ar 2 (6 * c + j))))) (n := n) S wb (4 * c + 8) (by omega) (cE_kn c) 0 rfl j (by omega) (by omega) (fun q _ => cu_K c j _ (by omega) q) dX0_learn_15 (fun H locs wb => ?_)
  exact rb_vret S hr hlk hQ wb (fun _ _ => rfl) dX0_learn_16

set_option maxHeartbeats 4000000 in
set_option maxRecDepth 100000 in
theorem k_release (l : Launch) (D : va_G) (cI cC cD : ClassId) (ad : Nat → Nat) (n ph mn : Nat) (ar : Nat → Nat → Int32) (c : Nat) (hn : n ≤ 6) (hn2 : 2 ≤ n) (hc : c < n) : RM l yX0_release cX0_release 1 none ({ frames := 0, cells := 0, slots := 0, locals := 0 }) D (ty3 cI cC cD) ENC [.ref (ad (4 * c + 6))] ad (4 * n + 6) (cE ad cI cC cD n ph mn ar) (cE ad cI cC cD n ph mn (va_up (va_up ar 6 (upd (ar 6) c (nI 0))) 7 (upd (ar 7) c (-1)))) none := by
  refine RM.of (by decide) (Nat.le_of_ble_eq_true rfl) ?_
  intro p e s m below meth c0 A ls args Q0 S hr hlk hQ wb hl
  have hx := S.1
  have hb := S.2.1
  have hl : lv_has ls 1 [(0, .ref (ad (4 * c + 6)))] := hl
  refine lv_aload_n hx hb dX0_release_0 rfl (lv_at hl 0 rfl) ?_
  refine lv_iconst (v := nI 0) hx hb dX0_release_1 (by decide) ?_
  refine rb_put (E' := cE ad cI cC cD n ph mn (va_up ar 6 (upd (ar 6) c (nI 0)))) S wb (4 * c + 6) (by omega) (cE_crew c) rfl in0 tyX0 tyX0_ok nmX0 2 (by decide) bw_72 rfl rfl rfl (Nat.le_of_ble_eq_true rfl) (fun q _ => cu_st c _ q) dX0_release_2 (fun H locs wb => ?_)
  refine lv_aload_n hx hb dX0_release_5 rfl (lv_at hl 0 rfl) ?_
  refine lv_iconst (v := (-1)) hx hb dX0_release_6 (by decide) ?_
  refine rb_put (E' := cE ad cI cC cD n ph mn (va_up (va_up ar 6 (upd (ar 6) c (nI 0))) 7 (upd (ar 7) c (-1)))) S wb (4 * c + 6) (by omega) (cE_crew c) rfl in0 tyX0 tyX0_ok nmX0 3 (by decide) bw_74 rfl rfl rfl (Nat.le_of_ble_eq_true rfl) (fun q _ => cu_tg c _ q) dX0_release_7 (fun H locs wb => ?_)
  exact rb_vret S hr hlk hQ wb (fun _ _ => rfl) dX0_release_10

set_option maxHeartbeats 4000000 in
set_option maxRecDepth 100000 in
theorem k_hear (l : Launch) (D : va_G) (cI cC cD : ClassId) (ad : Nat → Nat) (n ph mn : Nat) (ar : Nat → Nat → Int32) (c : Nat) (kd b : Int32) (hn : n ≤ 6) (hn2 : 2 ≤ n) (hc : c < n) (ok : okS ar c) : RM l yX0_hear cX0_hear 3 none ({ frames := 1, cells := 0, slots := 0, locals := 20 }) D (ty3 cI cC cD) ENC [.ref (ad (4 * c + 6)), .int kd, .int b] ad (4 * n + 6) (cE ad cI cC cD n ph mn ar) (cE ad cI cC cD n ph mn (hearR ar kd c b)) none := by
  refine RM.of (by decide) (Nat.le_of_ble_eq_true rfl) ?_
  intro p e s m below meth c0 A ls args Q0 S hr hlk hQ wb hl
  have hx := S.1
  have hb := S.2.1
  have hl : lv_has ls 3 [(0, .ref (ad (4 * c + 6))), (1, .int kd), (2, .int b)] := hl
  refine lv_iload_n hx hb dX0_hear_0 rfl (lv_at hl 2 rfl) ?_
  refine lv_aload_n hx hb dX0_hear_1 rfl (lv_at hl 0 rfl) ?_
  refine rb_get (v := .int (ar 8 c)) S wb (4 * c + 6) (by omega) (cE_crew c) rfl in0 4 (by decide) bw_76 rfl dX0_hear_2 ?_
  refine lv_icmp_ne (tgt := 15) hx hb dX0_hear_5 (by decide) (fun h5 => ?_) (fun h5 => ?_)
  · exact rb_vret S hr hlk hQ wb (by first | exact (fun q _ => congrFun (congrArg (cE ad cI cC cD n ph mn) (hearR_0 h5)) q) | exact (fun q _ => congrFun (congrArg (cE ad cI cC cD n ph mn) (hearR_1 ok h12)) q) | exact (fun q _ => congrFun (congrArg (cE ad cI cC cD n ph mn) (hearR_2 ok h12 h5 h18)) q) | exact (fun q _ => congrFun (congrArg (cE ad cI cC cD n ph mn) (hearR_3 h5 h18)) q)) dX0_hear_15
  · refine lv_aload_n hx hb dX0_hear_8 rfl (lv_at hl 0 rfl) ?_
    refine rb_get (v := .int (ar 6 c)) S wb (4 * c + 6) (by omega) (cE_crew c) rfl in0 2 (by decide) bw_72 rfl dX0_hear_9 ?_
    refine lv_if_ne (tgt := 16) hx hb dX0_hear_12 (by decide) (fun h12 => ?_) (fun h12 => ?_)
    · refine lv_iload_n hx hb dX0_hear_16 rfl (lv_at hl 1 rfl) ?_
      refine lv_iconst (v := nI 1) hx hb dX0_hear_17 (by decide) ?_
      refine lv_icmp_ne (tgt := 29) hx hb dX0_hear_18 (by decide) (fun h18 => ?_) (fun h18 => ?_)
      · refine lv_aload_n hx hb dX0_hear_29 rfl (lv_at hl 0 rfl) ?_
        refine rb_callV S wb ENC_ok (k_release l D cI cC cD ad n ph mn ar c hn hn2 (by omega)) (bw5 bw_376 bw_278 bw_6 bw_34 bw_279) (rb_recv wb (4 * c + 6) (by omega) (cE_crew c) rfl) hdX0_release rfl ⟨rfl, rfl⟩ ⟨by decide, by decide⟩ hl.1 (Nat.le_of_ble_eq_true rfl) ⟨Nat.zero_le _, Nat.zero_le _⟩ (rest := []) (st1 := []) rfl rfl dX0_hear_30 (fun H locs wb => ?_)
        exact rb_vret S hr hlk hQ wb (by first | exact (fun q _ => congrFun (congrArg (cE ad cI cC cD n ph mn) (hearR_0 h5)) q) | exact (fun q _ => congrFun (congrArg (cE ad cI cC cD n ph mn) (hearR_1 ok h12)) q) | exact (fun q _ => congrFun (congrArg (cE ad cI cC cD n ph mn) (hearR_2 ok h12 h5 h18)) q) | exact (fun q _ => congrFun (congrArg (cE ad cI cC cD n ph mn) (hearR_3 h5 h18)) q)) dX0_hear_33
      · refine lv_aload_n hx hb dX0_hear_21 rfl (lv_at hl 0 rfl) ?_
        refine lv_iconst (v := nI 2) hx hb dX0_hear_22 (by decide) ?_
        refine rb_put (E' := cE ad cI cC cD n ph mn (va_up ar 6 (upd (ar 6) c (nI 2)))) S wb (4 * c + 6) (by omega) (cE_crew c) rfl in0 tyX0 tyX0_ok nmX0 2 (by decide) bw_72 rfl rfl rfl (Nat.le_of_ble_eq_true rfl) (fun q _ => cu_st c _ q) dX0_hear_23 (fun H locs wb => ?_)
        refine lv_goto (tgt := 33) hx hb dX0_hear_26 (by decide) ?_
        exact rb_vret S hr hlk hQ wb (by first | exact (fun q _ => congrFun (congrArg (cE ad cI cC cD n ph mn) (hearR_0 h5)) q) | exact (fun q _ => congrFun (congrArg (cE ad cI cC cD n ph mn) (hearR_1 ok h12)) q) | exact (fun q _ => congrFun (congrArg (cE ad cI cC cD n ph mn) (hearR_2 ok h12 h5 h18)) q) | exact (fun q _ => congrFun (congrArg (cE ad cI cC cD n ph mn) (hearR_3 h5 h18)) q)) dX0_hear_33
    · exact rb_vret S hr hlk hQ wb (by first | exact (fun q _ => congrFun (congrArg (cE ad cI cC cD n ph mn) (hearR_0 h5)) q) | exact (fun q _ => congrFun (congrArg (cE ad cI cC cD n ph mn) (hearR_1 ok h12)) q) | exact (fun q _ => congrFun (congrArg (cE ad cI cC cD n ph mn) (hearR_2 ok h12 h5 h18)) q) | exact (fun q _ => congrFun (congrArg (cE ad cI cC cD n ph mn) (hearR_3 h5 h18)) q)) dX0_hear_15

set_option maxHeartbeats 4000000 in
set_option maxRecDepth 100000 in
theorem k_has (l : Launch) (D : va_G) (cI cC cD : ClassId) (ad : Nat → Nat) (n ph mn : Nat) (ar : Nat → Nat → Int32) (j : Nat) (x y : Int32) (hn : n ≤ 6) (hn2 : 2 ≤ n) (hj : j < n) (r : Int32) (hr0 : tells r (ar 4 j = x ∧ ar 5 j = y)) : RM l yX1_has cX1_has 3 (some .boolean) ({ frames := 0, cells := 0, slots := 0, locals := 0 }) D (ty3 cI cC cD) ENC [.ref (ad (4 * j + 9)), .int x, .int y] ad (4 * n + 6) (cE ad cI cC cD n ph mn ar) (cE ad cI cC cD n ph mn ar) (some (.int r)) := by
  refine RM.of (by decide) (Nat.le_of_ble_eq_true rfl) ?_
  intro p e s m below meth c0 A ls args Q0 S hr hlk hQ wb hl
  have hx := S.1
  have hb := S.2.1
  have hl : lv_has ls 3 [(0, .ref (ad (4 * j + 9))), (1, .int x), (2, .int y)] := hl
  refine lv_aload_n hx hb dX1_has_0 rfl (lv_at hl 0 rfl) ?_
  refine rb_get (v := .int (ar 4 j)) S wb (4 * j + 9) (by omega) (cE_desk j) rfl in1 1 (by decide) bw_101 rfl dX1_has_1 ?_
  refine lv_iload_n hx hb dX1_has_4 rfl (lv_at hl 1 rfl) ?_
  refine lv_icmp_ne (tgt := 20) hx hb dX1_has_5 (by decide) (fun h5 => ?_) (fun h5 => ?_)
  · refine lv_iconst (v := nI 0) hx hb dX1_has_20 (by decide) ?_
    exact rb_zret S hr hlk hQ (by first | exact tells_u hr0 (tells_f (fun q => h5 q.1)) | exact tells_u hr0 (tells_f (fun q => h13 q.2)) | exact tells_u hr0 (tells_t ⟨h5, h13⟩)) (by first | exact Or.inl rfl | exact Or.inr rfl) wb (fun _ _ => rfl) dX1_has_21
  · refine lv_aload_n hx hb dX1_has_8 rfl (lv_at hl 0 rfl) ?_
    refine rb_get (v := .int (ar 5 j)) S wb (4 * j + 9) (by omega) (cE_desk j) rfl in1 2 (by decide) bw_103 rfl dX1_has_9 ?_
    refine lv_iload_n hx hb dX1_has_12 rfl (lv_at hl 2 rfl) ?_
    refine lv_icmp_ne (tgt := 20) hx hb dX1_has_13 (by decide) (fun h13 => ?_) (fun h13 => ?_)
    · refine lv_iconst (v := nI 0) hx hb dX1_has_20 (by decide) ?_
      exact rb_zret S hr hlk hQ (by first | exact tells_u hr0 (tells_f (fun q => h5 q.1)) | exact tells_u hr0 (tells_f (fun q => h13 q.2)) | exact tells_u hr0 (tells_t ⟨h5, h13⟩)) (by first | exact Or.inl rfl | exact Or.inr rfl) wb (fun _ _ => rfl) dX1_has_21
    · refine lv_iconst (v := nI 1) hx hb dX1_has_16 (by decide) ?_
      refine lv_goto (tgt := 21) hx hb dX1_has_17 (by decide) ?_
      exact rb_zret S hr hlk hQ (by first | exact tells_u hr0 (tells_f (fun q => h5 q.1)) | exact tells_u hr0 (tells_f (fun q => h13 q.2)) | exact tells_u hr0 (tells_t ⟨h5, h13⟩)) (by first | exact Or.inl rfl | exact Or.inr rfl) wb (fun _ _ => rfl) dX1_has_21

set_option maxHeartbeats 4000000 in
set_option maxRecDepth 100000 in
theorem k_dismiss (l : Launch) (D : va_G) (cI cC cD : ClassId) (ad : Nat → Nat) (n ph mn : Nat) (ar : Nat → Nat → Int32) (j : Nat) (hn : n ≤ 6) (hn2 : 2 ≤ n) (hj : j < n) : RM l yX1_dismiss cX1_dismiss 1 none ({ frames := 0, cells := 0, slots := 0, locals := 0 }) D (ty3 cI cC cD) ENC [.ref (ad (4 * j + 9))] ad (4 * n + 6) (cE ad cI cC cD n ph mn ar) (cE ad cI cC cD n ph mn (va_up (va_up ar 4 (upd (ar 4) j (-1))) 5 (upd (ar 5) j (nI 0)))) none := by
  refine RM.of (by decide) (Nat.le_of_ble_eq_true rfl) ?_
  intro p e s m below meth c0 A ls args Q0 S hr hlk hQ wb hl
  have hx := S.1
  have hb := S.2.1
  have hl : lv_has ls 1 [(0, .ref (ad (4 * j + 9)))] := hl
  refine lv_aload_n hx hb dX1_dismiss_0 rfl (lv_at hl 0 rfl) ?_
  refine lv_iconst (v := (-1)) hx hb dX1_dismiss_1 (by decide) ?_
  refine rb_put (E' := cE ad cI cC cD n ph mn (va_up ar 4 (upd (ar 4) j (-1)))) S wb (4 * j + 9) (by omega) (cE_desk j) rfl in1 tyX1 tyX1_ok nmX1 1 (by decide) bw_101 rfl rfl rfl (Nat.le_of_ble_eq_true rfl) (fun q _ => cu_ho j _ q) dX1_dismiss_2 (fun H locs wb => ?_)
  refine lv_aload_n hx hb dX1_dismiss_5 rfl (lv_at hl 0 rfl) ?_
  refine lv_iconst (v := nI 0) hx hb dX1_dismiss_6 (by decide) ?_
  refine rb_put (E' := cE ad cI cC cD n ph mn (va_up (va_up ar 4 (upd (ar 4) j (-1))) 5 (upd (ar 5) j (nI 0)))) S wb (4 * j + 9) (by omega) (cE_desk j) rfl in1 tyX1 tyX1_ok nmX1 2 (by decide) bw_103 rfl rfl rfl (Nat.le_of_ble_eq_true rfl) (fun q _ => cu_dn j _ q) dX1_dismiss_7 (fun H locs wb => ?_)
  exact rb_vret S hr hlk hQ wb (fun _ _ => rfl) dX1_dismiss_10

set_option maxHeartbeats 4000000 in
set_option maxRecDepth 100000 in
theorem k_part (l : Launch) (D : va_G) (cI cC cD : ClassId) (ad : Nat → Nat) (n ph mn : Nat) (ar : Nat → Nat → Int32) (i k : Nat) (hn : n ≤ 6) (hn2 : 2 ≤ n) (hi : i < 80) (hk : k < 5) : RM l yX2_part cX2_part 3 (some .int) ({ frames := 0, cells := 0, slots := 0, locals := 0 }) D (ty3 cI cC cD) ENC [.ref (ad 3), .int (nI i), .int (nI k)] ad (4 * n + 6) (cE ad cI cC cD n ph mn ar) (cE ad cI cC cD n ph mn ar) (some (.int (ar 10 (5 * i + k)))) := by
  refine RM.of (by decide) (Nat.le_of_ble_eq_true rfl) ?_
  intro p e s m below meth c0 A ls args Q0 S hr hlk hQ wb hl
  have hx := S.1
  have hb := S.2.1
  have hl : lv_has ls 3 [(0, .ref (ad 3)), (1, .int (nI i)), (2, .int (nI k))] := hl
  refine lv_aload_n hx hb dX2_part_0 rfl (lv_at hl 0 rfl) ?_
  refine rb_get (v := .ref (ad 4)) S wb 3 (by omega) rfl rfl in2 0 (by decide) bw_118 rfl dX2_part_1 ?_
  refine lv_iload_n hx hb dX2_part_4 rfl (lv_at hl 1 rfl) ?_
  refine lv_iconst (v := nI 5) hx hb dX2_part_5 (by decide) ?_
  refine lv_imul hx hb dX2_part_6 ?_
  refine nb_ren (y := nI (i * 5)) (pk_mul _ _) ?_
  refine lv_iload_n hx hb dX2_part_7 rfl (lv_at hl 2 rfl) ?_
  refine lv_iadd hx hb dX2_part_8 ?_
  refine nb_ren (y := nI (i * 5 + k)) (nI_add _ _) ?_
  refine rb_ald (n := 400) (f := ar 10) (x := ar 10 (i * 5 + k)) S wb 4 (by omega) rfl 0 rfl (i * 5 + k) (by omega) (by decide) rfl dX2_part_9 ?_
  exact rb_iret S hr hlk hQ (by rw [show 5 * i + k = i * 5 + k by omega]) wb (fun _ _ => rfl) dX2_part_10

set_option maxHeartbeats 4000000 in
set_option maxRecDepth 100000 in
theorem k_add (l : Launch) (D : va_G) (cI cC cD : ClassId) (ad : Nat → Nat) (n ph mn : Nat) (ar : Nat → Nat → Int32) (x1 x2 x3 x4 x5 : Int32) (hn : n ≤ 6) (hn2 : 2 ≤ n) (hm : mn < 80) : RM l yX2_add cX2_add 7 none ({ frames := 0, cells := 0, slots := 0, locals := 0 }) D (ty3 cI cC cD) ENC [.ref (ad 3), .int x1, .int x2, .int x3, .int x4, .int x5] ad (4 * n + 6) (cE ad cI cC cD n ph mn ar) (cE ad cI cC cD n ph (mn + 1) (va_up ar 10 (put5 (ar 10) (5 * mn) x1 x2 x3 x4 x5))) none := by
  refine RM.of (by decide) (Nat.le_of_ble_eq_true rfl) ?_
  intro p e s m below meth c0 A ls args Q0 S hr hlk hQ wb hl
  have hx := S.1
  have hb := S.2.1
  have hl : lv_has ls 7 [(0, .ref (ad 3)), (1, .int x1), (2, .int x2), (3, .int x3), (4, .int x4), (5, .int x5)] := hl
  refine lv_aload_n hx hb dX2_add_0 rfl (lv_at hl 0 rfl) ?_
  refine rb_get (v := .int (nI mn)) S wb 3 (by omega) rfl rfl in2 1 (by decide) bw_119 rfl dX2_add_1 ?_
  refine lv_bipush (v := nI 80) hx hb dX2_add_4 (by decide) ?_
  refine nb_icmp_lt (tgt := 10) hx hb dX2_add_6 (by decide) (by omega) (by omega) (fun h6 => ?_) (fun h6 => absurd h6 (by omega))
  refine lv_aload_n hx hb dX2_add_10 rfl (lv_at hl 0 rfl) ?_
  refine rb_get (v := .int (nI mn)) S wb 3 (by omega) rfl rfl in2 1 (by decide) bw_119 rfl dX2_add_11 ?_
  refine lv_iconst (v := nI 5) hx hb dX2_add_14 (by decide) ?_
  refine lv_imul hx hb dX2_add_15 ?_
  refine nb_ren (y := nI (mn * 5)) (pk_mul _ _) ?_
  refine lv_istore (lv' := [(6, .int (nI (mn * 5))), (0, .ref (ad 3)), (1, .int x1), (2, .int x2), (3, .int x3), (4, .int x4), (5, .int x5)]) hx hb dX2_add_16 hl (by decide) rfl (fun ls hl => ?_)
  refine lv_aload_n hx hb dX2_add_18 rfl (lv_at hl 1 rfl) ?_
  refine rb_get (v := .ref (ad 4)) S wb 3 (by omega) rfl rfl in2 0 (by decide) bw_118 rfl dX2_add_19 ?_
  refine lv_iload hx hb dX2_add_22 (lv_at hl 0 rfl) ?_
  refine lv_iconst (v := nI 0) hx hb dX2_add_24 (by decide) ?_
  refine lv_iadd hx hb dX2_add_25 ?_
  refine nb_ren (y := nI (mn * 5 + 0)) (nI_add _ _) ?_
  refine lv_iload_n hx hb dX2_add_26 rfl (lv_at hl 2 rfl) ?_
  refine rb_ast (E' := cE ad cI cC cD n ph mn (va_up ar 10 (upd (ar 10) (mn * 5 + 0) x1))) (n := 400) (f := ar 10) S wb 4 (by omega) rfl 0 rfl (mn * 5 + 0) (by omega) (by decide) (fun q _ => cu_ml _ q) dX2_add_27 (fun H locs wb => ?_)
  refine lv_aload_n hx hb dX2_add_28 rfl (lv_at hl 1 rfl) ?_
  refine rb_get (v := .ref (ad 4)) S wb 3 (by omega) rfl rfl in2 0 (by decide) bw_118 rfl dX2_add_29 ?_
  refine lv_iload hx hb dX2_add_32 (lv_at hl 0 rfl) ?_
  refine lv_iconst (v := nI 1) hx hb dX2_add_34 (by decide) ?_
  refine lv_iadd hx hb dX2_add_35 ?_
  refine nb_ren (y := nI (mn * 5 + 1)) (nI_add _ _) ?_
  refine lv_iload_n hx hb dX2_add_36 rfl (lv_at hl 3 rfl) ?_
  refine rb_ast (E' := cE ad cI cC cD n ph mn (va_up (va_up ar 10 (upd (ar 10) (mn * 5 + 0) x1)) 10 (upd (upd (ar 10) (mn * 5 + 0) x1) (mn * 5 + 1) x2))) (n := 400) (f := upd (ar 10) (mn * 5 + 0) x1) S wb 4 (by omega) rfl 0 rfl (mn * 5 + 1) (by omega) (by decide) (fun q _ => cu_ml _ q) dX2_add_37 (fun H locs wb => ?_)
  refine lv_aload_n hx hb dX2_add_38 rfl (lv_at hl 1 rfl) ?_
  refine rb_get (v := .ref (ad 4)) S wb 3 (by omega) rfl rfl in2 0 (by decide) bw_118 rfl dX2_add_39 ?_
  refine lv_iload hx hb dX2_add_42 (lv_at hl 0 rfl) ?_
  refine lv_iconst (v := nI 2) hx hb dX2_add_44 (by decide) ?_
  refine lv_iadd hx hb dX2_add_45 ?_
  refine nb_ren (y := nI (mn * 5 + 2)) (nI_add _ _) ?_
  refine lv_iload_n hx hb dX2_add_46 rfl (lv_at hl 4 rfl) ?_
  refine rb_ast (E' := cE ad cI cC cD n ph mn (va_up (va_up (va_up ar 10 (upd (ar 10) (mn * 5 + 0) x1)) 10 (upd (upd (ar 10) (mn * 5 + 0) x1) (mn * 5 + 1) x2)) 10 (upd (upd (upd (ar 10) (mn * 5 + 0) x1) (mn * 5 + 1) x2) (mn * 5 + 2) x3))) (n := 400) (f := upd (upd (ar 10) (mn * 5 + 0) x1) (mn * 5 + 1) x2) S wb 4 (by omega) rfl 0 rfl (mn * 5 + 2) (by omega) (by decide) (fun q _ => cu_ml _ q) dX2_add_47 (fun H locs wb => ?_)
  refine lv_aload_n hx hb dX2_add_48 rfl (lv_at hl 1 rfl) ?_
  refine rb_get (v := .ref (ad 4)) S wb 3 (by omega) rfl rfl in2 0 (by decide) bw_118 rfl dX2_add_49 ?_
  refine lv_iload hx hb dX2_add_52 (lv_at hl 0 rfl) ?_
  refine lv_iconst (v := nI 3) hx hb dX2_add_54 (by decide) ?_
  refine lv_iadd hx hb dX2_add_55 ?_
  refine nb_ren (y := nI (mn * 5 + 3)) (nI_add _ _) ?_
  refine lv_iload hx hb dX2_add_56 (lv_at hl 5 rfl) ?_
  refine rb_ast (E' := cE ad cI cC cD n ph mn (va_up (va_up (va_up (va_up ar 10 (upd (ar 10) (mn * 5 + 0) x1)) 10 (upd (upd (ar 10) (mn * 5 + 0) x1) (mn * 5 + 1) x2)) 10 (upd (upd (upd (ar 10) (mn * 5 + 0) x1) (mn * 5 + 1) x2) (mn * 5 + 2) x3)) 10 (upd (upd (upd (upd (ar 10) (mn * 5 + 0) x1) (mn * 5 + 1) x2) (mn * 5 + 2) x3) (mn * 5 + 3) x4))) (n := 400) (f := upd (upd (upd (ar 10) (mn * 5 + 0) x1) (mn * 5 + 1) x2) (mn * 5 + 2) x3) S wb 4 (by omega) rfl 0 rfl (mn * 5 + 3) (by omega) (by decide) (fun q _ => cu_ml _ q) dX2_add_58 (fun H locs wb => ?_)
  refine lv_aload_n hx hb dX2_add_59 rfl (lv_at hl 1 rfl) ?_
  refine rb_get (v := .ref (ad 4)) S wb 3 (by omega) rfl rfl in2 0 (by decide) bw_118 rfl dX2_add_60 ?_
  refine lv_iload hx hb dX2_add_63 (lv_at hl 0 rfl) ?_
  refine lv_iconst (v := nI 4) hx hb dX2_add_65 (by decide) ?_
  refine lv_iadd hx hb dX2_add_66 ?_
  refine nb_ren (y := nI (mn * 5 + 4)) (nI_add _ _) ?_
  refine lv_iload hx hb dX2_add_67 (lv_at hl 6 rfl) ?_
  refine rb_ast (E' := cE ad cI cC cD n ph mn (va_up (va_up (va_up (va_up (va_up ar 10 (upd (ar 10) (mn * 5 + 0) x1)) 10 (upd (upd (ar 10) (mn * 5 + 0) x1) (mn * 5 + 1) x2)) 10 (upd (upd (upd (ar 10) (mn * 5 + 0) x1) (mn * 5 + 1) x2) (mn * 5 + 2) x3)) 10 (upd (upd (upd (upd (ar 10) (mn * 5 + 0) x1) (mn * 5 + 1) x2) (mn * 5 + 2) x3) (mn * 5 + 3) x4)) 10 (upd (upd (upd (upd (upd (ar 10) (mn * 5 + 0) x1) (mn * 5 + 1) x2) (mn * 5 + 2) x3) (mn * 5 + 3) x4) (mn * 5 + 4) x5))) (n := 400) (f := upd (upd (upd (upd (ar 10) (mn * 5 + 0) x1) (mn * 5 + 1) x2) (mn * 5 + 2) x3) (mn * 5 + 3) x4) S wb 4 (by omega) rfl 0 rfl (mn * 5 + 4) (by omega) (by decide) (fun q _ => cu_ml _ q) dX2_add_69 (fun H locs wb => ?_)
  refine lv_aload_n hx hb dX2_add_70 rfl (lv_at hl 1 rfl) ?_
  refine lv_dup hx hb dX2_add_71 rfl ?_
  refine rb_get (v := .int (nI mn)) S wb 3 (by omega) rfl rfl in2 1 (by decide) bw_119 rfl dX2_add_72 ?_
  refine lv_iconst (v := nI 1) hx hb dX2_add_75 (by decide) ?_
  refine lv_iadd hx hb dX2_add_76 ?_
  refine nb_ren (y := nI (mn + 1)) (nI_add _ _) ?_
  refine rb_put (E' := cE ad cI cC cD n ph (mn + 1) (va_up (va_up (va_up (va_up (va_up ar 10 (upd (ar 10) (mn * 5 + 0) x1)) 10 (upd (upd (ar 10) (mn * 5 + 0) x1) (mn * 5 + 1) x2)) 10 (upd (upd (upd (ar 10) (mn * 5 + 0) x1) (mn * 5 + 1) x2) (mn * 5 + 2) x3)) 10 (upd (upd (upd (upd (ar 10) (mn * 5 + 0) x1) (mn * 5 + 1) x2) (mn * 5 + 2) x3) (mn * 5 + 3) x4)) 10 (upd (upd (upd (upd (upd (ar 10) (mn * 5 + 0) x1) (mn * 5 + 1) x2) (mn * 5 + 2) x3) (mn * 5 + 3) x4) (mn * 5 + 4) x5))) S wb 3 (by omega) rfl rfl in2 tyX2 tyX2_ok nmX2 1 (by decide) bw_119 rfl rfl rfl (Nat.le_of_ble_eq_true rfl) (fun q _ => cu_mn _ q) dX2_add_77 (fun H locs wb => ?_)
  exact rb_vret S hr hlk hQ wb (fun q _ => congrFun (congrArg (cE ad cI cC cD n ph (mn + 1)) (add_eq ar mn x1 x2 x3 x4 x5)) q) dX2_add_80

set_option maxHeartbeats 4000000 in
set_option maxRecDepth 100000 in
theorem k_remove (l : Launch) (D : va_G) (cI cC cD : ClassId) (ad : Nat → Nat) (n ph mn : Nat) (ar : Nat → Nat → Int32) (i : Nat) (hn : n ≤ 6) (hn2 : 2 ≤ n) (hm : mn ≤ 80) (hi : i < mn) : RM l yX2_remove cX2_remove 3 none ({ frames := 1, cells := 0, slots := 0, locals := 60 }) D (ty3 cI cC cD) ENC [.ref (ad 3), .int (nI i)] ad (4 * n + 6) (cE ad cI cC cD n ph mn ar) (cE ad cI cC cD n ph (mn - 1) (va_up ar 10 (dr (ar 10) (5 * i) (5 * (mn - 1))))) none := by
  refine RM.of (by decide) (Nat.le_of_ble_eq_true rfl) ?_
  intro p e s m below meth c0 A ls args Q0 S hr hlk hQ wb hl
  have hx := S.1
  have hb := S.2.1
  have hl : lv_has ls 3 [(0, .ref (ad 3)), (1, .int (nI i))] := hl
  refine lv_iload_n hx hb dX2_remove_0 rfl (lv_at hl 1 rfl) ?_
  refine lv_iconst (v := nI 1) hx hb dX2_remove_1 (by decide) ?_
  refine lv_iadd hx hb dX2_remove_2 ?_
  refine nb_ren (y := nI (i + 1)) (nI_add _ _) ?_
  refine lv_iconst (v := nI 5) hx hb dX2_remove_3 (by decide) ?_
  refine lv_imul hx hb dX2_remove_4 ?_
  refine nb_ren (y := nI ((i + 1) * 5)) (pk_mul _ _) ?_
  refine lv_istore_n (lv' := [(2, .int (nI ((i + 1) * 5))), (0, .ref (ad 3)), (1, .int (nI i))]) hx hb dX2_remove_5 rfl hl (by decide) rfl (fun ls hl => ?_)
  refine lv_aload_n hx hb dX2_remove_6 rfl (lv_at hl 1 rfl) ?_
  refine rb_get (v := .ref (ad 4)) S wb 3 (by omega) rfl rfl in2 0 (by decide) bw_118 rfl dX2_remove_7 ?_
  refine lv_iload_n hx hb dX2_remove_10 rfl (lv_at hl 0 rfl) ?_
  refine lv_aload_n hx hb dX2_remove_11 rfl (lv_at hl 1 rfl) ?_
  refine rb_get (v := .ref (ad 4)) S wb 3 (by omega) rfl rfl in2 0 (by decide) bw_118 rfl dX2_remove_12 ?_
  refine lv_iload_n hx hb dX2_remove_15 rfl (lv_at hl 2 rfl) ?_
  refine lv_iconst (v := nI 5) hx hb dX2_remove_16 (by decide) ?_
  refine lv_imul hx hb dX2_remove_17 ?_
  refine nb_ren (y := nI (i * 5)) (pk_mul _ _) ?_
  refine lv_aload_n hx hb dX2_remove_18 rfl (lv_at hl 1 rfl) ?_
  refine rb_get (v := .int (nI mn)) S wb 3 (by omega) rfl rfl in2 1 (by decide) bw_119 rfl dX2_remove_19 ?_
  refine lv_iconst (v := nI 5) hx hb dX2_remove_22 (by decide) ?_
  refine lv_imul hx hb dX2_remove_23 ?_
  refine nb_ren (y := nI (mn * 5)) (pk_mul _ _) ?_
  refine lv_iload_n hx hb dX2_remove_24 rfl (lv_at hl 0 rfl) ?_
  refine lv_isub hx hb dX2_remove_25 ?_
  refine nb_ren (y := nI ((mn * 5) - ((i + 1) * 5))) (pk_sub (by omega)) ?_
  refine rb_copy (E' := cE ad cI cC cD n ph mn (va_up ar 10 (va_cpy (ar 10) (ar 10) ((i + 1) * 5) (i * 5) ((mn * 5) - ((i + 1) * 5))))) (n := 400) (f := ar 10) S wb hl.1 bw_356 bw_358 bw_357 bw_44 4 (by omega) rfl 0 rfl ((i + 1) * 5) (i * 5) ((mn * 5) - ((i + 1) * 5)) (by omega) (by omega) (by decide) (by decide) (Nat.le_of_ble_eq_true rfl) (fun q _ => cu_ml _ q) dX2_remove_26 (fun H locs wb => ?_)
  refine lv_aload_n hx hb dX2_remove_29 rfl (lv_at hl 1 rfl) ?_
  refine lv_dup hx hb dX2_remove_30 rfl ?_
  refine rb_get (v := .int (nI mn)) S wb 3 (by omega) rfl rfl in2 1 (by decide) bw_119 rfl dX2_remove_31 ?_
  refine lv_iconst (v := nI 1) hx hb dX2_remove_34 (by decide) ?_
  refine lv_isub hx hb dX2_remove_35 ?_
  refine nb_ren (y := nI (mn - 1)) (pk_sub (by omega)) ?_
  refine rb_put (E' := cE ad cI cC cD n ph (mn - 1) (va_up ar 10 (va_cpy (ar 10) (ar 10) ((i + 1) * 5) (i * 5) ((mn * 5) - ((i + 1) * 5))))) S wb 3 (by omega) rfl rfl in2 tyX2 tyX2_ok nmX2 1 (by decide) bw_119 rfl rfl rfl (Nat.le_of_ble_eq_true rfl) (fun q _ => cu_mn _ q) dX2_remove_36 (fun H locs wb => ?_)
  exact rb_vret S hr hlk hQ wb (fun q _ => congrFun (congrArg (cE ad cI cC cD n ph (mn - 1)) (by rw [cpy_dr _ _ _ hi])) q) dX2_remove_39

set_option maxHeartbeats 4000000 in
set_option maxRecDepth 100000 in
theorem k_clear (l : Launch) (D : va_G) (cI cC cD : ClassId) (ad : Nat → Nat) (n ph mn : Nat) (ar : Nat → Nat → Int32) (hn : n ≤ 6) (hn2 : 2 ≤ n)  : RM l yX2_clear cX2_clear 1 none ({ frames := 0, cells := 0, slots := 0, locals := 0 }) D (ty3 cI cC cD) ENC [.ref (ad 3)] ad (4 * n + 6) (cE ad cI cC cD n ph mn ar) (cE ad cI cC cD n ph 0 ar) none := by
  refine RM.of (by decide) (Nat.le_of_ble_eq_true rfl) ?_
  intro p e s m below meth c0 A ls args Q0 S hr hlk hQ wb hl
  have hx := S.1
  have hb := S.2.1
  have hl : lv_has ls 1 [(0, .ref (ad 3))] := hl
  refine lv_aload_n hx hb dX2_clear_0 rfl (lv_at hl 0 rfl) ?_
  refine lv_iconst (v := nI 0) hx hb dX2_clear_1 (by decide) ?_
  refine rb_put (E' := cE ad cI cC cD n ph 0 ar) S wb 3 (by omega) rfl rfl in2 tyX2 tyX2_ok nmX2 1 (by decide) bw_119 rfl rfl rfl (Nat.le_of_ble_eq_true rfl) (fun q _ => cu_mn _ q) dX2_clear_2 (fun H locs wb => ?_)
  exact rb_vret S hr hlk hQ wb (fun _ _ => rfl) dX2_clear_5
