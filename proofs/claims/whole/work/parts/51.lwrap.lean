/-! the law's wrappers: what each does where the class answers and where it throws -/
set_option maxHeartbeats 4000000 in
set_option maxRecDepth 100000 in
theorem wn_worth (l : Launch) (D : va_G) (cI cC cD cJ : ClassId) (ad : Nat → Nat) (N : Nat) (x y z : Int32) (o : Nat) (f : Nat → Int64) (E E' : Nat → va_E) {rm2 : Room} (hR : rm2.frames + 1 ≤ 10 ∧ 8 + (6 + 11) + rm2.locals ≤ 360) {fs : List Value} (hN : 0 < N) (h0 : E 0 = .inr (3, fs)) (hz : rm2.cells = 0 ∧ rm2.slots = 0) (hM : RM l yX3_worth cX3_worth 6 none rm2 D (ty3 cI cC cD) ENC [.ref (ad 0), .int x, .int y, .int z] ad N E E' none) : RLc l yL_worth cL_worth 5 [(0, 7, 10, 13), (0, 7, 14, 15)] D (ty3 cI cC cD) cJ [.ref (ad 0), .int x, .int y, .int z] ad N E E' o f f (nI 0) := by
  refine RLc.of (by decide) (Nat.le_of_ble_eq_true rfl) ?_
  intro p e s m below meth c0 A ls args Q0 S hr hlk htab hQ wo hl
  have hx := S.1
  have hb := S.2.1
  have hl : lv_has ls 5 [(0, .ref (ad 0)), (1, .int x), (2, .int y), (3, .int z)] := hl
  refine lv_aload_n hx hb dL_worth_0 rfl (lv_at hl 0 rfl) ?_
  refine lv_iload_n hx hb dL_worth_1 rfl (lv_at hl 1 rfl) ?_
  refine lv_iload_n hx hb dL_worth_2 rfl (lv_at hl 2 rfl) ?_
  refine lv_iload_n hx hb dL_worth_3 rfl (lv_at hl 3 rfl) ?_
  refine lo_callV S wo hM (bw5 bw_165 bw_166 bw_167 bw_32 bw_168) (rb_recv wo.wb 0 hN h0 rfl) hdX3_worth rfl hz hR hl.1 (Nat.le_of_ble_eq_true rfl) ⟨Nat.zero_le _, Nat.zero_le _⟩ (rest := []) rfl rfl dL_worth_4 (fun H locs wo => ?_)
  refine lv_goto (tgt := 18) hx hb dL_worth_7 (by decide) ?_
  refine lv_iconst (v := nI 0) hx hb dL_worth_18 (by decide) ?_
  refine W.widen (k := 1) (n := 6) (by omega) (by omega) ?_
  exact lo_iret S hr hlk hQ rfl wo dL_worth_19
set_option maxHeartbeats 4000000 in
set_option maxRecDepth 100000 in
theorem wx_worth1 (l : Launch) (D : va_G) (cI cC cD cJ : ClassId) (ad : Nat → Nat) (N : Nat) (x y z : Int32) (o : Nat) (f : Nat → Int64) (E : Nat → va_E) {rm2 : Room} (hR : rm2.frames + 1 ≤ 10 ∧ 8 + (6 + 11) + rm2.locals ≤ 360) {fs : List Value} (hN : 0 < N) (h0 : E 0 = .inr (3, fs)) (hz : rm2.cells = 1 ∧ rm2.slots = 6) (hM : RX l yX3_worth cX3_worth 6 none rm2 D (ty3 cI cC cD) ENC [.ref (ad 0), .int x, .int y, .int z] ad N E "java/lang/IllegalArgumentException") : RLc l yL_worth cL_worth 5 [(0, 7, 10, 13), (0, 7, 14, 15)] D (ty3 cI cC cD) cJ [.ref (ad 0), .int x, .int y, .int z] ad N E E o f f (nI 1) := by
  refine RLc.of (by decide) (Nat.le_of_ble_eq_true rfl) ?_
  intro p e s m below meth c0 A ls args Q0 S hr hlk htab hQ wo hl
  have hx := S.1
  have hb := S.2.1
  have hl : lv_has ls 5 [(0, .ref (ad 0)), (1, .int x), (2, .int y), (3, .int z)] := hl
  refine lv_aload_n hx hb dL_worth_0 rfl (lv_at hl 0 rfl) ?_
  refine lv_iload_n hx hb dL_worth_1 rfl (lv_at hl 1 rfl) ?_
  refine lv_iload_n hx hb dL_worth_2 rfl (lv_at hl 2 rfl) ?_
  refine lv_iload_n hx hb dL_worth_3 rfl (lv_at hl 3 rfl) ?_
  refine lo_callX S wo hM (bw5 bw_165 bw_166 bw_167 bw_32 bw_168) (rb_recv wo.wb 0 hN h0 rfl) hdX3_worth rfl hz hR hl.1 (Nat.le_of_ble_eq_true rfl) ⟨Nat.le_refl _, Nat.le_refl _⟩ (rest := []) rfl dL_worth_4 [] ⟨0, 7, 10, 13⟩ [⟨0, 7, 14, 15⟩] (by rw [htab]; rfl) (fun z h => absurd h List.not_mem_nil) (by decide) (by decide) bw_163 nw_24 (hpc := 10) rfl (fun H locs q9 wo => ?_)
  refine lv_astore hx hb dL_worth_10 hl (by decide) rfl (fun ls hl => ?_)
  refine lv_iconst (v := nI 1) hx hb dL_worth_12 (by decide) ?_
  exact lo_iret S hr hlk hQ rfl wo dL_worth_13
set_option maxHeartbeats 4000000 in
set_option maxRecDepth 100000 in
theorem wx_worth2 (l : Launch) (D : va_G) (cI cC cD cJ : ClassId) (ad : Nat → Nat) (N : Nat) (x y z : Int32) (o : Nat) (f : Nat → Int64) (E : Nat → va_E) {rm2 : Room} (hR : rm2.frames + 1 ≤ 10 ∧ 8 + (6 + 11) + rm2.locals ≤ 360) {fs : List Value} (hN : 0 < N) (h0 : E 0 = .inr (3, fs)) (hz : rm2.cells = 1 ∧ rm2.slots = 6) (hM : RX l yX3_worth cX3_worth 6 none rm2 D (ty3 cI cC cD) ENC [.ref (ad 0), .int x, .int y, .int z] ad N E "java/lang/IllegalStateException") : RLc l yL_worth cL_worth 5 [(0, 7, 10, 13), (0, 7, 14, 15)] D (ty3 cI cC cD) cJ [.ref (ad 0), .int x, .int y, .int z] ad N E E o f f (nI 2) := by
  refine RLc.of (by decide) (Nat.le_of_ble_eq_true rfl) ?_
  intro p e s m below meth c0 A ls args Q0 S hr hlk htab hQ wo hl
  have hx := S.1
  have hb := S.2.1
  have hl : lv_has ls 5 [(0, .ref (ad 0)), (1, .int x), (2, .int y), (3, .int z)] := hl
  refine lv_aload_n hx hb dL_worth_0 rfl (lv_at hl 0 rfl) ?_
  refine lv_iload_n hx hb dL_worth_1 rfl (lv_at hl 1 rfl) ?_
  refine lv_iload_n hx hb dL_worth_2 rfl (lv_at hl 2 rfl) ?_
  refine lv_iload_n hx hb dL_worth_3 rfl (lv_at hl 3 rfl) ?_
  refine lo_callX S wo hM (bw5 bw_165 bw_166 bw_167 bw_32 bw_168) (rb_recv wo.wb 0 hN h0 rfl) hdX3_worth rfl hz hR hl.1 (Nat.le_of_ble_eq_true rfl) ⟨Nat.le_refl _, Nat.le_refl _⟩ (rest := []) rfl dL_worth_4 [⟨0, 7, 10, 13⟩] ⟨0, 7, 14, 15⟩ [] (by rw [htab]; rfl) (List.forall_mem_cons.mpr ⟨Or.inr ⟨by decide, "java/lang/IllegalArgumentException", bw_163, wo.2.2.2.2.2.2.2.2.2.2.2.2.2.1⟩, fun z h => absurd h List.not_mem_nil⟩) (by decide) (by decide) bw_164 nw_25 (hpc := 14) rfl (fun H locs q9 wo => ?_)
  refine lv_astore hx hb dL_worth_14 hl (by decide) rfl (fun ls hl => ?_)
  refine lv_iconst (v := nI 2) hx hb dL_worth_16 (by decide) ?_
  exact lo_iret S hr hlk hQ rfl wo dL_worth_17
set_option maxHeartbeats 4000000 in
set_option maxRecDepth 100000 in
theorem wn_act (l : Launch) (D : va_G) (cI cC cD cJ : ClassId) (ad : Nat → Nat) (N : Nat) (x : Int32) (o : Nat) (f : Nat → Int64) (E E' : Nat → va_E) (v : Int32) {rm2 : Room} (hR : rm2.frames + 1 ≤ 10 ∧ 8 + (3 + 11) + rm2.locals ≤ 360) {fs : List Value} (hN : 0 < N) (h0 : E 0 = .inr (3, fs)) (hz : rm2.cells = 0 ∧ rm2.slots = 0) (hM : RM l yX3_act cX3_act 3 (some .int) rm2 D (ty3 cI cC cD) ENC [.ref (ad 0), .int x] ad N E E' (some (.int v))) : RLc l yL_act cL_act 4 [(0, 9, 12, 13), (0, 9, 15, 15)] D (ty3 cI cC cD) cJ [.ref (ad 0), .int x, .ref o] ad N E E' o f (vp_updL f 0 v.toInt64) (nI 0) := by
  refine RLc.of (by decide) (Nat.le_of_ble_eq_true rfl) ?_
  intro p e s m below meth c0 A ls args Q0 S hr hlk htab hQ wo hl
  have hx := S.1
  have hb := S.2.1
  have hl : lv_has ls 4 [(0, .ref (ad 0)), (1, .int x), (2, .ref o)] := hl
  refine lv_aload_n hx hb dL_act_0 rfl (lv_at hl 2 rfl) ?_
  refine lv_iconst (v := nI 0) hx hb dL_act_1 (by decide) ?_
  refine lv_aload_n hx hb dL_act_2 rfl (lv_at hl 0 rfl) ?_
  refine lv_iload_n hx hb dL_act_3 rfl (lv_at hl 1 rfl) ?_
  refine lo_callV S wo hM (bw5 bw_283 bw_284 bw_285 bw_32 bw_286) (rb_recv wo.wb 0 hN h0 rfl) hdX3_act rfl hz hR hl.1 (Nat.le_of_ble_eq_true rfl) ⟨Nat.zero_le _, Nat.zero_le _⟩ (rest := [.int (nI 0), .ref o]) rfl rfl dL_act_4 (fun H locs wo => ?_)
  refine lv_i2l hx hb dL_act_7 rfl ?_
  refine lo_last S wo dL_act_8 (fun H locs wo => ?_)
  refine lv_goto (tgt := 18) hx hb dL_act_9 (by decide) ?_
  refine lv_iconst (v := nI 0) hx hb dL_act_18 (by decide) ?_
  refine W.widen (k := 1) (n := 6) (by omega) (by omega) ?_
  exact lo_iret S hr hlk hQ rfl wo dL_act_19
set_option maxHeartbeats 4000000 in
set_option maxRecDepth 100000 in
theorem wx_act1 (l : Launch) (D : va_G) (cI cC cD cJ : ClassId) (ad : Nat → Nat) (N : Nat) (x : Int32) (o : Nat) (f : Nat → Int64) (E : Nat → va_E) {rm2 : Room} (hR : rm2.frames + 1 ≤ 10 ∧ 8 + (3 + 11) + rm2.locals ≤ 360) {fs : List Value} (hN : 0 < N) (h0 : E 0 = .inr (3, fs)) (hz : rm2.cells = 1 ∧ rm2.slots = 6) (hM : RX l yX3_act cX3_act 3 (some .int) rm2 D (ty3 cI cC cD) ENC [.ref (ad 0), .int x] ad N E "java/lang/IllegalArgumentException") : RLc l yL_act cL_act 4 [(0, 9, 12, 13), (0, 9, 15, 15)] D (ty3 cI cC cD) cJ [.ref (ad 0), .int x, .ref o] ad N E E o f f (nI 1) := by
  refine RLc.of (by decide) (Nat.le_of_ble_eq_true rfl) ?_
  intro p e s m below meth c0 A ls args Q0 S hr hlk htab hQ wo hl
  have hx := S.1
  have hb := S.2.1
  have hl : lv_has ls 4 [(0, .ref (ad 0)), (1, .int x), (2, .ref o)] := hl
  refine lv_aload_n hx hb dL_act_0 rfl (lv_at hl 2 rfl) ?_
  refine lv_iconst (v := nI 0) hx hb dL_act_1 (by decide) ?_
  refine lv_aload_n hx hb dL_act_2 rfl (lv_at hl 0 rfl) ?_
  refine lv_iload_n hx hb dL_act_3 rfl (lv_at hl 1 rfl) ?_
  refine lo_callX S wo hM (bw5 bw_283 bw_284 bw_285 bw_32 bw_286) (rb_recv wo.wb 0 hN h0 rfl) hdX3_act rfl hz hR hl.1 (Nat.le_of_ble_eq_true rfl) ⟨Nat.le_refl _, Nat.le_refl _⟩ (rest := [.int (nI 0), .ref o]) rfl dL_act_4 [] ⟨0, 9, 12, 13⟩ [⟨0, 9, 15, 15⟩] (by rw [htab]; rfl) (fun z h => absurd h List.not_mem_nil) (by decide) (by decide) bw_163 nw_24 (hpc := 12) rfl (fun H locs q9 wo => ?_)
  refine lv_astore_n hx hb dL_act_12 rfl hl (by decide) rfl (fun ls hl => ?_)
  refine lv_iconst (v := nI 1) hx hb dL_act_13 (by decide) ?_
  exact lo_iret S hr hlk hQ rfl wo dL_act_14
set_option maxHeartbeats 4000000 in
set_option maxRecDepth 100000 in
theorem wx_act2 (l : Launch) (D : va_G) (cI cC cD cJ : ClassId) (ad : Nat → Nat) (N : Nat) (x : Int32) (o : Nat) (f : Nat → Int64) (E : Nat → va_E) {rm2 : Room} (hR : rm2.frames + 1 ≤ 10 ∧ 8 + (3 + 11) + rm2.locals ≤ 360) {fs : List Value} (hN : 0 < N) (h0 : E 0 = .inr (3, fs)) (hz : rm2.cells = 1 ∧ rm2.slots = 6) (hM : RX l yX3_act cX3_act 3 (some .int) rm2 D (ty3 cI cC cD) ENC [.ref (ad 0), .int x] ad N E "java/lang/IllegalStateException") : RLc l yL_act cL_act 4 [(0, 9, 12, 13), (0, 9, 15, 15)] D (ty3 cI cC cD) cJ [.ref (ad 0), .int x, .ref o] ad N E E o f f (nI 2) := by
  refine RLc.of (by decide) (Nat.le_of_ble_eq_true rfl) ?_
  intro p e s m below meth c0 A ls args Q0 S hr hlk htab hQ wo hl
  have hx := S.1
  have hb := S.2.1
  have hl : lv_has ls 4 [(0, .ref (ad 0)), (1, .int x), (2, .ref o)] := hl
  refine lv_aload_n hx hb dL_act_0 rfl (lv_at hl 2 rfl) ?_
  refine lv_iconst (v := nI 0) hx hb dL_act_1 (by decide) ?_
  refine lv_aload_n hx hb dL_act_2 rfl (lv_at hl 0 rfl) ?_
  refine lv_iload_n hx hb dL_act_3 rfl (lv_at hl 1 rfl) ?_
  refine lo_callX S wo hM (bw5 bw_283 bw_284 bw_285 bw_32 bw_286) (rb_recv wo.wb 0 hN h0 rfl) hdX3_act rfl hz hR hl.1 (Nat.le_of_ble_eq_true rfl) ⟨Nat.le_refl _, Nat.le_refl _⟩ (rest := [.int (nI 0), .ref o]) rfl dL_act_4 [⟨0, 9, 12, 13⟩] ⟨0, 9, 15, 15⟩ [] (by rw [htab]; rfl) (List.forall_mem_cons.mpr ⟨Or.inr ⟨by decide, "java/lang/IllegalArgumentException", bw_163, wo.2.2.2.2.2.2.2.2.2.2.2.2.2.1⟩, fun z h => absurd h List.not_mem_nil⟩) (by decide) (by decide) bw_164 nw_25 (hpc := 15) rfl (fun H locs q9 wo => ?_)
  refine lv_astore_n hx hb dL_act_15 rfl hl (by decide) rfl (fun ls hl => ?_)
  refine lv_iconst (v := nI 2) hx hb dL_act_16 (by decide) ?_
  exact lo_iret S hr hlk hQ rfl wo dL_act_17
set_option maxHeartbeats 4000000 in
set_option maxRecDepth 100000 in
theorem wn_resend (l : Launch) (D : va_G) (cI cC cD cJ : ClassId) (ad : Nat → Nat) (N : Nat) (x : Int32) (o : Nat) (f : Nat → Int64) (E E' : Nat → va_E) (v : Int32) {rm2 : Room} (hR : rm2.frames + 1 ≤ 10 ∧ 8 + (2 + 11) + rm2.locals ≤ 360) {fs : List Value} (hN : 0 < N) (h0 : E 0 = .inr (3, fs)) (hz : rm2.cells = 0 ∧ rm2.slots = 0) (hM : RM l yX3_resend cX3_resend 2 (some .int) rm2 D (ty3 cI cC cD) ENC [.ref (ad 0), .int x] ad N E E' (some (.int v))) : RLc l yL_resend cL_resend 4 [(0, 9, 12, 13), (0, 9, 15, 15)] D (ty3 cI cC cD) cJ [.ref (ad 0), .int x, .ref o] ad N E E' o f (vp_updL f 0 v.toInt64) (nI 0) := by
  refine RLc.of (by decide) (Nat.le_of_ble_eq_true rfl) ?_
  intro p e s m below meth c0 A ls args Q0 S hr hlk htab hQ wo hl
  have hx := S.1
  have hb := S.2.1
  have hl : lv_has ls 4 [(0, .ref (ad 0)), (1, .int x), (2, .ref o)] := hl
  refine lv_aload_n hx hb dL_resend_0 rfl (lv_at hl 2 rfl) ?_
  refine lv_iconst (v := nI 0) hx hb dL_resend_1 (by decide) ?_
  refine lv_aload_n hx hb dL_resend_2 rfl (lv_at hl 0 rfl) ?_
  refine lv_iload_n hx hb dL_resend_3 rfl (lv_at hl 1 rfl) ?_
  refine lo_callV S wo hM (bw5 bw_316 bw_317 bw_318 bw_32 bw_319) (rb_recv wo.wb 0 hN h0 rfl) hdX3_resend rfl hz hR hl.1 (Nat.le_of_ble_eq_true rfl) ⟨Nat.zero_le _, Nat.zero_le _⟩ (rest := [.int (nI 0), .ref o]) rfl rfl dL_resend_4 (fun H locs wo => ?_)
  refine lv_i2l hx hb dL_resend_7 rfl ?_
  refine lo_last S wo dL_resend_8 (fun H locs wo => ?_)
  refine lv_goto (tgt := 18) hx hb dL_resend_9 (by decide) ?_
  refine lv_iconst (v := nI 0) hx hb dL_resend_18 (by decide) ?_
  refine W.widen (k := 1) (n := 6) (by omega) (by omega) ?_
  exact lo_iret S hr hlk hQ rfl wo dL_resend_19
set_option maxHeartbeats 4000000 in
set_option maxRecDepth 100000 in
theorem wx_resend1 (l : Launch) (D : va_G) (cI cC cD cJ : ClassId) (ad : Nat → Nat) (N : Nat) (x : Int32) (o : Nat) (f : Nat → Int64) (E : Nat → va_E) {rm2 : Room} (hR : rm2.frames + 1 ≤ 10 ∧ 8 + (2 + 11) + rm2.locals ≤ 360) {fs : List Value} (hN : 0 < N) (h0 : E 0 = .inr (3, fs)) (hz : rm2.cells = 1 ∧ rm2.slots = 6) (hM : RX l yX3_resend cX3_resend 2 (some .int) rm2 D (ty3 cI cC cD) ENC [.ref (ad 0), .int x] ad N E "java/lang/IllegalArgumentException") : RLc l yL_resend cL_resend 4 [(0, 9, 12, 13), (0, 9, 15, 15)] D (ty3 cI cC cD) cJ [.ref (ad 0), .int x, .ref o] ad N E E o f f (nI 1) := by
  refine RLc.of (by decide) (Nat.le_of_ble_eq_true rfl) ?_
  intro p e s m below meth c0 A ls args Q0 S hr hlk htab hQ wo hl
  have hx := S.1
  have hb := S.2.1
  have hl : lv_has ls 4 [(0, .ref (ad 0)), (1, .int x), (2, .ref o)] := hl
  refine lv_aload_n hx hb dL_resend_0 rfl (lv_at hl 2 rfl) ?_
  refine lv_iconst (v := nI 0) hx hb dL_resend_1 (by decide) ?_
  refine lv_aload_n hx hb dL_resend_2 rfl (lv_at hl 0 rfl) ?_
  refine lv_iload_n hx hb dL_resend_3 rfl (lv_at hl 1 rfl) ?_
  refine lo_callX S wo hM (bw5 bw_316 bw_317 bw_318 bw_32 bw_319) (rb_recv wo.wb 0 hN h0 rfl) hdX3_resend rfl hz hR hl.1 (Nat.le_of_ble_eq_true rfl) ⟨Nat.le_refl _, Nat.le_refl _⟩ (rest := [.int (nI 0), .ref o]) rfl dL_resend_4 [] ⟨0, 9, 12, 13⟩ [⟨0, 9, 15, 15⟩] (by rw [htab]; rfl) (fun z h => absurd h List.not_mem_nil) (by decide) (by decide) bw_163 nw_24 (hpc := 12) rfl (fun H locs q9 wo => ?_)
  refine lv_astore_n hx hb dL_resend_12 rfl hl (by decide) rfl (fun ls hl => ?_)
  refine lv_iconst (v := nI 1) hx hb dL_resend_13 (by decide) ?_
  exact lo_iret S hr hlk hQ rfl wo dL_resend_14
set_option maxHeartbeats 4000000 in
set_option maxRecDepth 100000 in
theorem wx_resend2 (l : Launch) (D : va_G) (cI cC cD cJ : ClassId) (ad : Nat → Nat) (N : Nat) (x : Int32) (o : Nat) (f : Nat → Int64) (E : Nat → va_E) {rm2 : Room} (hR : rm2.frames + 1 ≤ 10 ∧ 8 + (2 + 11) + rm2.locals ≤ 360) {fs : List Value} (hN : 0 < N) (h0 : E 0 = .inr (3, fs)) (hz : rm2.cells = 1 ∧ rm2.slots = 6) (hM : RX l yX3_resend cX3_resend 2 (some .int) rm2 D (ty3 cI cC cD) ENC [.ref (ad 0), .int x] ad N E "java/lang/IllegalStateException") : RLc l yL_resend cL_resend 4 [(0, 9, 12, 13), (0, 9, 15, 15)] D (ty3 cI cC cD) cJ [.ref (ad 0), .int x, .ref o] ad N E E o f f (nI 2) := by
  refine RLc.of (by decide) (Nat.le_of_ble_eq_true rfl) ?_
  intro p e s m below meth c0 A ls args Q0 S hr hlk htab hQ wo hl
  have hx := S.1
  have hb := S.2.1
  have hl : lv_has ls 4 [(0, .ref (ad 0)), (1, .int x), (2, .ref o)] := hl
  refine lv_aload_n hx hb dL_resend_0 rfl (lv_at hl 2 rfl) ?_
  refine lv_iconst (v := nI 0) hx hb dL_resend_1 (by decide) ?_
  refine lv_aload_n hx hb dL_resend_2 rfl (lv_at hl 0 rfl) ?_
  refine lv_iload_n hx hb dL_resend_3 rfl (lv_at hl 1 rfl) ?_
  refine lo_callX S wo hM (bw5 bw_316 bw_317 bw_318 bw_32 bw_319) (rb_recv wo.wb 0 hN h0 rfl) hdX3_resend rfl hz hR hl.1 (Nat.le_of_ble_eq_true rfl) ⟨Nat.le_refl _, Nat.le_refl _⟩ (rest := [.int (nI 0), .ref o]) rfl dL_resend_4 [⟨0, 9, 12, 13⟩] ⟨0, 9, 15, 15⟩ [] (by rw [htab]; rfl) (List.forall_mem_cons.mpr ⟨Or.inr ⟨by decide, "java/lang/IllegalArgumentException", bw_163, wo.2.2.2.2.2.2.2.2.2.2.2.2.2.1⟩, fun z h => absurd h List.not_mem_nil⟩) (by decide) (by decide) bw_164 nw_25 (hpc := 15) rfl (fun H locs q9 wo => ?_)
  refine lv_astore_n hx hb dL_resend_15 rfl hl (by decide) rfl (fun ls hl => ?_)
  refine lv_iconst (v := nI 2) hx hb dL_resend_16 (by decide) ?_
  exact lo_iret S hr hlk hQ rfl wo dL_resend_17
set_option maxHeartbeats 4000000 in
set_option maxRecDepth 100000 in
theorem wn_deliver (l : Launch) (D : va_G) (cI cC cD cJ : ClassId) (ad : Nat → Nat) (N : Nat) (x : Int32) (o : Nat) (f : Nat → Int64) (E E' : Nat → va_E) (v : Int32) {rm2 : Room} (hR : rm2.frames + 1 ≤ 10 ∧ 8 + (7 + 11) + rm2.locals ≤ 360) {fs : List Value} (hN : 0 < N) (h0 : E 0 = .inr (3, fs)) (hz : rm2.cells = 0 ∧ rm2.slots = 0) (hM : RM l yX3_deliver cX3_deliver 7 (some .int) rm2 D (ty3 cI cC cD) ENC [.ref (ad 0), .int x] ad N E E' (some (.int v))) : RLc l yL_deliver cL_deliver 4 [(0, 9, 12, 27)] D (ty3 cI cC cD) cJ [.ref (ad 0), .int x, .ref o] ad N E E' o f (vp_updL f 0 v.toInt64) (nI 0) := by
  refine RLc.of (by decide) (Nat.le_of_ble_eq_true rfl) ?_
  intro p e s m below meth c0 A ls args Q0 S hr hlk htab hQ wo hl
  have hx := S.1
  have hb := S.2.1
  have hl : lv_has ls 4 [(0, .ref (ad 0)), (1, .int x), (2, .ref o)] := hl
  refine lv_aload_n hx hb dL_deliver_0 rfl (lv_at hl 2 rfl) ?_
  refine lv_iconst (v := nI 0) hx hb dL_deliver_1 (by decide) ?_
  refine lv_aload_n hx hb dL_deliver_2 rfl (lv_at hl 0 rfl) ?_
  refine lv_iload_n hx hb dL_deliver_3 rfl (lv_at hl 1 rfl) ?_
  refine lo_callV S wo hM (bw5 bw_324 bw_325 bw_326 bw_32 bw_327) (rb_recv wo.wb 0 hN h0 rfl) hdX3_deliver rfl hz hR hl.1 (Nat.le_of_ble_eq_true rfl) ⟨Nat.zero_le _, Nat.zero_le _⟩ (rest := [.int (nI 0), .ref o]) rfl rfl dL_deliver_4 (fun H locs wo => ?_)
  refine lv_i2l hx hb dL_deliver_7 rfl ?_
  refine lo_last S wo dL_deliver_8 (fun H locs wo => ?_)
  refine lv_goto (tgt := 15) hx hb dL_deliver_9 (by decide) ?_
  refine lv_iconst (v := nI 0) hx hb dL_deliver_15 (by decide) ?_
  refine W.widen (k := 1) (n := 6) (by omega) (by omega) ?_
  exact lo_iret S hr hlk hQ rfl wo dL_deliver_16
set_option maxHeartbeats 4000000 in
set_option maxRecDepth 100000 in
theorem wx_deliver1 (l : Launch) (D : va_G) (cI cC cD cJ : ClassId) (ad : Nat → Nat) (N : Nat) (x : Int32) (o : Nat) (f : Nat → Int64) (E : Nat → va_E) {rm2 : Room} (hR : rm2.frames + 1 ≤ 10 ∧ 8 + (7 + 11) + rm2.locals ≤ 360) {fs : List Value} (hN : 0 < N) (h0 : E 0 = .inr (3, fs)) (hz : rm2.cells = 1 ∧ rm2.slots = 6) (hM : RX l yX3_deliver cX3_deliver 7 (some .int) rm2 D (ty3 cI cC cD) ENC [.ref (ad 0), .int x] ad N E "java/lang/IndexOutOfBoundsException") : RLc l yL_deliver cL_deliver 4 [(0, 9, 12, 27)] D (ty3 cI cC cD) cJ [.ref (ad 0), .int x, .ref o] ad N E E o f f (nI 1) := by
  refine RLc.of (by decide) (Nat.le_of_ble_eq_true rfl) ?_
  intro p e s m below meth c0 A ls args Q0 S hr hlk htab hQ wo hl
  have hx := S.1
  have hb := S.2.1
  have hl : lv_has ls 4 [(0, .ref (ad 0)), (1, .int x), (2, .ref o)] := hl
  refine lv_aload_n hx hb dL_deliver_0 rfl (lv_at hl 2 rfl) ?_
  refine lv_iconst (v := nI 0) hx hb dL_deliver_1 (by decide) ?_
  refine lv_aload_n hx hb dL_deliver_2 rfl (lv_at hl 0 rfl) ?_
  refine lv_iload_n hx hb dL_deliver_3 rfl (lv_at hl 1 rfl) ?_
  refine lo_callX S wo hM (bw5 bw_324 bw_325 bw_326 bw_32 bw_327) (rb_recv wo.wb 0 hN h0 rfl) hdX3_deliver rfl hz hR hl.1 (Nat.le_of_ble_eq_true rfl) ⟨Nat.le_refl _, Nat.le_refl _⟩ (rest := [.int (nI 0), .ref o]) rfl dL_deliver_4 [] ⟨0, 9, 12, 27⟩ [] (by rw [htab]; rfl) (fun z h => absurd h List.not_mem_nil) (by decide) (by decide) bw_323 nw_26 (hpc := 12) rfl (fun H locs q9 wo => ?_)
  refine lv_astore_n hx hb dL_deliver_12 rfl hl (by decide) rfl (fun ls hl => ?_)
  refine lv_iconst (v := nI 1) hx hb dL_deliver_13 (by decide) ?_
  exact lo_iret S hr hlk hQ rfl wo dL_deliver_14
set_option maxHeartbeats 4000000 in
set_option maxRecDepth 100000 in
theorem wn_lose (l : Launch) (D : va_G) (cI cC cD cJ : ClassId) (ad : Nat → Nat) (N : Nat) (x : Int32) (o : Nat) (f : Nat → Int64) (E E' : Nat → va_E) (v : Int32) {rm2 : Room} (hR : rm2.frames + 1 ≤ 10 ∧ 8 + (2 + 11) + rm2.locals ≤ 360) {fs : List Value} (hN : 0 < N) (h0 : E 0 = .inr (3, fs)) (hz : rm2.cells = 0 ∧ rm2.slots = 0) (hM : RM l yX3_lose cX3_lose 2 (some .int) rm2 D (ty3 cI cC cD) ENC [.ref (ad 0), .int x] ad N E E' (some (.int v))) : RLc l yL_lose cL_lose 4 [(0, 9, 12, 27)] D (ty3 cI cC cD) cJ [.ref (ad 0), .int x, .ref o] ad N E E' o f (vp_updL f 0 v.toInt64) (nI 0) := by
  refine RLc.of (by decide) (Nat.le_of_ble_eq_true rfl) ?_
  intro p e s m below meth c0 A ls args Q0 S hr hlk htab hQ wo hl
  have hx := S.1
  have hb := S.2.1
  have hl : lv_has ls 4 [(0, .ref (ad 0)), (1, .int x), (2, .ref o)] := hl
  refine lv_aload_n hx hb dL_lose_0 rfl (lv_at hl 2 rfl) ?_
  refine lv_iconst (v := nI 0) hx hb dL_lose_1 (by decide) ?_
  refine lv_aload_n hx hb dL_lose_2 rfl (lv_at hl 0 rfl) ?_
  refine lv_iload_n hx hb dL_lose_3 rfl (lv_at hl 1 rfl) ?_
  refine lo_callV S wo hM (bw5 bw_380 bw_381 bw_382 bw_32 bw_383) (rb_recv wo.wb 0 hN h0 rfl) hdX3_lose rfl hz hR hl.1 (Nat.le_of_ble_eq_true rfl) ⟨Nat.zero_le _, Nat.zero_le _⟩ (rest := [.int (nI 0), .ref o]) rfl rfl dL_lose_4 (fun H locs wo => ?_)
  refine lv_i2l hx hb dL_lose_7 rfl ?_
  refine lo_last S wo dL_lose_8 (fun H locs wo => ?_)
  refine lv_goto (tgt := 15) hx hb dL_lose_9 (by decide) ?_
  refine lv_iconst (v := nI 0) hx hb dL_lose_15 (by decide) ?_
  refine W.widen (k := 1) (n := 6) (by omega) (by omega) ?_
  exact lo_iret S hr hlk hQ rfl wo dL_lose_16
set_option maxHeartbeats 4000000 in
set_option maxRecDepth 100000 in
theorem wx_lose1 (l : Launch) (D : va_G) (cI cC cD cJ : ClassId) (ad : Nat → Nat) (N : Nat) (x : Int32) (o : Nat) (f : Nat → Int64) (E : Nat → va_E) {rm2 : Room} (hR : rm2.frames + 1 ≤ 10 ∧ 8 + (2 + 11) + rm2.locals ≤ 360) {fs : List Value} (hN : 0 < N) (h0 : E 0 = .inr (3, fs)) (hz : rm2.cells = 1 ∧ rm2.slots = 6) (hM : RX l yX3_lose cX3_lose 2 (some .int) rm2 D (ty3 cI cC cD) ENC [.ref (ad 0), .int x] ad N E "java/lang/IndexOutOfBoundsException") : RLc l yL_lose cL_lose 4 [(0, 9, 12, 27)] D (ty3 cI cC cD) cJ [.ref (ad 0), .int x, .ref o] ad N E E o f f (nI 1) := by
  refine RLc.of (by decide) (Nat.le_of_ble_eq_true rfl) ?_
  intro p e s m below meth c0 A ls args Q0 S hr hlk htab hQ wo hl
  have hx := S.1
  have hb := S.2.1
  have hl : lv_has ls 4 [(0, .ref (ad 0)), (1, .int x), (2, .ref o)] := hl
  refine lv_aload_n hx hb dL_lose_0 rfl (lv_at hl 2 rfl) ?_
  refine lv_iconst (v := nI 0) hx hb dL_lose_1 (by decide) ?_
  refine lv_aload_n hx hb dL_lose_2 rfl (lv_at hl 0 rfl) ?_
  refine lv_iload_n hx hb dL_lose_3 rfl (lv_at hl 1 rfl) ?_
  refine lo_callX S wo hM (bw5 bw_380 bw_381 bw_382 bw_32 bw_383) (rb_recv wo.wb 0 hN h0 rfl) hdX3_lose rfl hz hR hl.1 (Nat.le_of_ble_eq_true rfl) ⟨Nat.le_refl _, Nat.le_refl _⟩ (rest := [.int (nI 0), .ref o]) rfl dL_lose_4 [] ⟨0, 9, 12, 27⟩ [] (by rw [htab]; rfl) (fun z h => absurd h List.not_mem_nil) (by decide) (by decide) bw_323 nw_26 (hpc := 12) rfl (fun H locs q9 wo => ?_)
  refine lv_astore_n hx hb dL_lose_12 rfl hl (by decide) rfl (fun ls hl => ?_)
  refine lv_iconst (v := nI 1) hx hb dL_lose_13 (by decide) ?_
  exact lo_iret S hr hlk hQ rfl wo dL_lose_14
set_option maxHeartbeats 4000000 in
set_option maxRecDepth 100000 in
theorem wn_twin (l : Launch) (D : va_G) (cI cC cD cJ : ClassId) (ad : Nat → Nat) (N : Nat) (x : Int32) (o : Nat) (f : Nat → Int64) (E E' : Nat → va_E) (v : Int32) {rm2 : Room} (hR : rm2.frames + 1 ≤ 10 ∧ 8 + (2 + 11) + rm2.locals ≤ 360) {fs : List Value} (hN : 0 < N) (h0 : E 0 = .inr (3, fs)) (hz : rm2.cells = 0 ∧ rm2.slots = 0) (hM : RM l yX3_twin cX3_twin 2 (some .int) rm2 D (ty3 cI cC cD) ENC [.ref (ad 0), .int x] ad N E E' (some (.int v))) : RLc l yL_twin cL_twin 4 [(0, 9, 12, 27), (0, 9, 15, 15)] D (ty3 cI cC cD) cJ [.ref (ad 0), .int x, .ref o] ad N E E' o f (vp_updL f 0 v.toInt64) (nI 0) := by
  refine RLc.of (by decide) (Nat.le_of_ble_eq_true rfl) ?_
  intro p e s m below meth c0 A ls args Q0 S hr hlk htab hQ wo hl
  have hx := S.1
  have hb := S.2.1
  have hl : lv_has ls 4 [(0, .ref (ad 0)), (1, .int x), (2, .ref o)] := hl
  refine lv_aload_n hx hb dL_twin_0 rfl (lv_at hl 2 rfl) ?_
  refine lv_iconst (v := nI 0) hx hb dL_twin_1 (by decide) ?_
  refine lv_aload_n hx hb dL_twin_2 rfl (lv_at hl 0 rfl) ?_
  refine lv_iload_n hx hb dL_twin_3 rfl (lv_at hl 1 rfl) ?_
  refine lo_callV S wo hM (bw5 bw_387 bw_388 bw_389 bw_32 bw_390) (rb_recv wo.wb 0 hN h0 rfl) hdX3_twin rfl hz hR hl.1 (Nat.le_of_ble_eq_true rfl) ⟨Nat.zero_le _, Nat.zero_le _⟩ (rest := [.int (nI 0), .ref o]) rfl rfl dL_twin_4 (fun H locs wo => ?_)
  refine lv_i2l hx hb dL_twin_7 rfl ?_
  refine lo_last S wo dL_twin_8 (fun H locs wo => ?_)
  refine lv_goto (tgt := 18) hx hb dL_twin_9 (by decide) ?_
  refine lv_iconst (v := nI 0) hx hb dL_twin_18 (by decide) ?_
  refine W.widen (k := 1) (n := 6) (by omega) (by omega) ?_
  exact lo_iret S hr hlk hQ rfl wo dL_twin_19
set_option maxHeartbeats 4000000 in
set_option maxRecDepth 100000 in
theorem wx_twin1 (l : Launch) (D : va_G) (cI cC cD cJ : ClassId) (ad : Nat → Nat) (N : Nat) (x : Int32) (o : Nat) (f : Nat → Int64) (E : Nat → va_E) {rm2 : Room} (hR : rm2.frames + 1 ≤ 10 ∧ 8 + (2 + 11) + rm2.locals ≤ 360) {fs : List Value} (hN : 0 < N) (h0 : E 0 = .inr (3, fs)) (hz : rm2.cells = 1 ∧ rm2.slots = 6) (hM : RX l yX3_twin cX3_twin 2 (some .int) rm2 D (ty3 cI cC cD) ENC [.ref (ad 0), .int x] ad N E "java/lang/IndexOutOfBoundsException") : RLc l yL_twin cL_twin 4 [(0, 9, 12, 27), (0, 9, 15, 15)] D (ty3 cI cC cD) cJ [.ref (ad 0), .int x, .ref o] ad N E E o f f (nI 1) := by
  refine RLc.of (by decide) (Nat.le_of_ble_eq_true rfl) ?_
  intro p e s m below meth c0 A ls args Q0 S hr hlk htab hQ wo hl
  have hx := S.1
  have hb := S.2.1
  have hl : lv_has ls 4 [(0, .ref (ad 0)), (1, .int x), (2, .ref o)] := hl
  refine lv_aload_n hx hb dL_twin_0 rfl (lv_at hl 2 rfl) ?_
  refine lv_iconst (v := nI 0) hx hb dL_twin_1 (by decide) ?_
  refine lv_aload_n hx hb dL_twin_2 rfl (lv_at hl 0 rfl) ?_
  refine lv_iload_n hx hb dL_twin_3 rfl (lv_at hl 1 rfl) ?_
  refine lo_callX S wo hM (bw5 bw_387 bw_388 bw_389 bw_32 bw_390) (rb_recv wo.wb 0 hN h0 rfl) hdX3_twin rfl hz hR hl.1 (Nat.le_of_ble_eq_true rfl) ⟨Nat.le_refl _, Nat.le_refl _⟩ (rest := [.int (nI 0), .ref o]) rfl dL_twin_4 [] ⟨0, 9, 12, 27⟩ [⟨0, 9, 15, 15⟩] (by rw [htab]; rfl) (fun z h => absurd h List.not_mem_nil) (by decide) (by decide) bw_323 nw_26 (hpc := 12) rfl (fun H locs q9 wo => ?_)
  refine lv_astore_n hx hb dL_twin_12 rfl hl (by decide) rfl (fun ls hl => ?_)
  refine lv_iconst (v := nI 1) hx hb dL_twin_13 (by decide) ?_
  exact lo_iret S hr hlk hQ rfl wo dL_twin_14
set_option maxHeartbeats 4000000 in
set_option maxRecDepth 100000 in
theorem wx_twin2 (l : Launch) (D : va_G) (cI cC cD cJ : ClassId) (ad : Nat → Nat) (N : Nat) (x : Int32) (o : Nat) (f : Nat → Int64) (E : Nat → va_E) {rm2 : Room} (hR : rm2.frames + 1 ≤ 10 ∧ 8 + (2 + 11) + rm2.locals ≤ 360) {fs : List Value} (hN : 0 < N) (h0 : E 0 = .inr (3, fs)) (hz : rm2.cells = 1 ∧ rm2.slots = 6) (hM : RX l yX3_twin cX3_twin 2 (some .int) rm2 D (ty3 cI cC cD) ENC [.ref (ad 0), .int x] ad N E "java/lang/IllegalStateException") : RLc l yL_twin cL_twin 4 [(0, 9, 12, 27), (0, 9, 15, 15)] D (ty3 cI cC cD) cJ [.ref (ad 0), .int x, .ref o] ad N E E o f f (nI 2) := by
  refine RLc.of (by decide) (Nat.le_of_ble_eq_true rfl) ?_
  intro p e s m below meth c0 A ls args Q0 S hr hlk htab hQ wo hl
  have hx := S.1
  have hb := S.2.1
  have hl : lv_has ls 4 [(0, .ref (ad 0)), (1, .int x), (2, .ref o)] := hl
  refine lv_aload_n hx hb dL_twin_0 rfl (lv_at hl 2 rfl) ?_
  refine lv_iconst (v := nI 0) hx hb dL_twin_1 (by decide) ?_
  refine lv_aload_n hx hb dL_twin_2 rfl (lv_at hl 0 rfl) ?_
  refine lv_iload_n hx hb dL_twin_3 rfl (lv_at hl 1 rfl) ?_
  refine lo_callX S wo hM (bw5 bw_387 bw_388 bw_389 bw_32 bw_390) (rb_recv wo.wb 0 hN h0 rfl) hdX3_twin rfl hz hR hl.1 (Nat.le_of_ble_eq_true rfl) ⟨Nat.le_refl _, Nat.le_refl _⟩ (rest := [.int (nI 0), .ref o]) rfl dL_twin_4 [⟨0, 9, 12, 27⟩] ⟨0, 9, 15, 15⟩ [] (by rw [htab]; rfl) (List.forall_mem_cons.mpr ⟨Or.inr ⟨by decide, "java/lang/IndexOutOfBoundsException", bw_323, wo.2.2.2.2.2.2.2.2.2.2.2.2.2.2.1⟩, fun z h => absurd h List.not_mem_nil⟩) (by decide) (by decide) bw_164 nw_25 (hpc := 15) rfl (fun H locs q9 wo => ?_)
  refine lv_astore_n hx hb dL_twin_15 rfl hl (by decide) rfl (fun ls hl => ?_)
  refine lv_iconst (v := nI 2) hx hb dL_twin_16 (by decide) ?_
  exact lo_iret S hr hlk hQ rfl wo dL_twin_17
set_option maxHeartbeats 4000000 in
set_option maxRecDepth 100000 in
theorem wn_letter (l : Launch) (D : va_G) (cI cC cD cJ : ClassId) (ad : Nat → Nat) (N : Nat) (x y : Int32) (o : Nat) (f : Nat → Int64) (E E' : Nat → va_E) (v : Int32) {rm2 : Room} (hR : rm2.frames + 1 ≤ 10 ∧ 8 + (3 + 11) + rm2.locals ≤ 360) {fs : List Value} (hN : 0 < N) (h0 : E 0 = .inr (3, fs)) (hz : rm2.cells = 0 ∧ rm2.slots = 0) (hM : RM l yX3_letter cX3_letter 3 (some .int) rm2 D (ty3 cI cC cD) ENC [.ref (ad 0), .int x, .int y] ad N E E' (some (.int v))) : RLc l yL_letter cL_letter 5 [(0, 10, 13, 27), (0, 10, 17, 13)] D (ty3 cI cC cD) cJ [.ref (ad 0), .int x, .int y, .ref o] ad N E E' o f (vp_updL f 0 v.toInt64) (nI 0) := by
  refine RLc.of (by decide) (Nat.le_of_ble_eq_true rfl) ?_
  intro p e s m below meth c0 A ls args Q0 S hr hlk htab hQ wo hl
  have hx := S.1
  have hb := S.2.1
  have hl : lv_has ls 5 [(0, .ref (ad 0)), (1, .int x), (2, .int y), (3, .ref o)] := hl
  refine lv_aload_n hx hb dL_letter_0 rfl (lv_at hl 3 rfl) ?_
  refine lv_iconst (v := nI 0) hx hb dL_letter_1 (by decide) ?_
  refine lv_aload_n hx hb dL_letter_2 rfl (lv_at hl 0 rfl) ?_
  refine lv_iload_n hx hb dL_letter_3 rfl (lv_at hl 1 rfl) ?_
  refine lv_iload_n hx hb dL_letter_4 rfl (lv_at hl 2 rfl) ?_
  refine lo_callV S wo hM (bw5 bw_394 bw_395 bw_396 bw_32 bw_397) (rb_recv wo.wb 0 hN h0 rfl) hdX3_letter rfl hz hR hl.1 (Nat.le_of_ble_eq_true rfl) ⟨Nat.zero_le _, Nat.zero_le _⟩ (rest := [.int (nI 0), .ref o]) rfl rfl dL_letter_5 (fun H locs wo => ?_)
  refine lv_i2l hx hb dL_letter_8 rfl ?_
  refine lo_last S wo dL_letter_9 (fun H locs wo => ?_)
  refine lv_goto (tgt := 21) hx hb dL_letter_10 (by decide) ?_
  refine lv_iconst (v := nI 0) hx hb dL_letter_21 (by decide) ?_
  refine W.widen (k := 1) (n := 6) (by omega) (by omega) ?_
  exact lo_iret S hr hlk hQ rfl wo dL_letter_22
set_option maxHeartbeats 4000000 in
set_option maxRecDepth 100000 in
theorem wx_letter1 (l : Launch) (D : va_G) (cI cC cD cJ : ClassId) (ad : Nat → Nat) (N : Nat) (x y : Int32) (o : Nat) (f : Nat → Int64) (E : Nat → va_E) {rm2 : Room} (hR : rm2.frames + 1 ≤ 10 ∧ 8 + (3 + 11) + rm2.locals ≤ 360) {fs : List Value} (hN : 0 < N) (h0 : E 0 = .inr (3, fs)) (hz : rm2.cells = 1 ∧ rm2.slots = 6) (hM : RX l yX3_letter cX3_letter 3 (some .int) rm2 D (ty3 cI cC cD) ENC [.ref (ad 0), .int x, .int y] ad N E "java/lang/IndexOutOfBoundsException") : RLc l yL_letter cL_letter 5 [(0, 10, 13, 27), (0, 10, 17, 13)] D (ty3 cI cC cD) cJ [.ref (ad 0), .int x, .int y, .ref o] ad N E E o f f (nI 1) := by
  refine RLc.of (by decide) (Nat.le_of_ble_eq_true rfl) ?_
  intro p e s m below meth c0 A ls args Q0 S hr hlk htab hQ wo hl
  have hx := S.1
  have hb := S.2.1
  have hl : lv_has ls 5 [(0, .ref (ad 0)), (1, .int x), (2, .int y), (3, .ref o)] := hl
  refine lv_aload_n hx hb dL_letter_0 rfl (lv_at hl 3 rfl) ?_
  refine lv_iconst (v := nI 0) hx hb dL_letter_1 (by decide) ?_
  refine lv_aload_n hx hb dL_letter_2 rfl (lv_at hl 0 rfl) ?_
  refine lv_iload_n hx hb dL_letter_3 rfl (lv_at hl 1 rfl) ?_
  refine lv_iload_n hx hb dL_letter_4 rfl (lv_at hl 2 rfl) ?_
  refine lo_callX S wo hM (bw5 bw_394 bw_395 bw_396 bw_32 bw_397) (rb_recv wo.wb 0 hN h0 rfl) hdX3_letter rfl hz hR hl.1 (Nat.le_of_ble_eq_true rfl) ⟨Nat.le_refl _, Nat.le_refl _⟩ (rest := [.int (nI 0), .ref o]) rfl dL_letter_5 [] ⟨0, 10, 13, 27⟩ [⟨0, 10, 17, 13⟩] (by rw [htab]; rfl) (fun z h => absurd h List.not_mem_nil) (by decide) (by decide) bw_323 nw_26 (hpc := 13) rfl (fun H locs q9 wo => ?_)
  refine lv_astore hx hb dL_letter_13 hl (by decide) rfl (fun ls hl => ?_)
  refine lv_iconst (v := nI 1) hx hb dL_letter_15 (by decide) ?_
  exact lo_iret S hr hlk hQ rfl wo dL_letter_16
set_option maxHeartbeats 4000000 in
set_option maxRecDepth 100000 in
theorem wx_letter2 (l : Launch) (D : va_G) (cI cC cD cJ : ClassId) (ad : Nat → Nat) (N : Nat) (x y : Int32) (o : Nat) (f : Nat → Int64) (E : Nat → va_E) {rm2 : Room} (hR : rm2.frames + 1 ≤ 10 ∧ 8 + (3 + 11) + rm2.locals ≤ 360) {fs : List Value} (hN : 0 < N) (h0 : E 0 = .inr (3, fs)) (hz : rm2.cells = 1 ∧ rm2.slots = 6) (hM : RX l yX3_letter cX3_letter 3 (some .int) rm2 D (ty3 cI cC cD) ENC [.ref (ad 0), .int x, .int y] ad N E "java/lang/IllegalArgumentException") : RLc l yL_letter cL_letter 5 [(0, 10, 13, 27), (0, 10, 17, 13)] D (ty3 cI cC cD) cJ [.ref (ad 0), .int x, .int y, .ref o] ad N E E o f f (nI 2) := by
  refine RLc.of (by decide) (Nat.le_of_ble_eq_true rfl) ?_
  intro p e s m below meth c0 A ls args Q0 S hr hlk htab hQ wo hl
  have hx := S.1
  have hb := S.2.1
  have hl : lv_has ls 5 [(0, .ref (ad 0)), (1, .int x), (2, .int y), (3, .ref o)] := hl
  refine lv_aload_n hx hb dL_letter_0 rfl (lv_at hl 3 rfl) ?_
  refine lv_iconst (v := nI 0) hx hb dL_letter_1 (by decide) ?_
  refine lv_aload_n hx hb dL_letter_2 rfl (lv_at hl 0 rfl) ?_
  refine lv_iload_n hx hb dL_letter_3 rfl (lv_at hl 1 rfl) ?_
  refine lv_iload_n hx hb dL_letter_4 rfl (lv_at hl 2 rfl) ?_
  refine lo_callX S wo hM (bw5 bw_394 bw_395 bw_396 bw_32 bw_397) (rb_recv wo.wb 0 hN h0 rfl) hdX3_letter rfl hz hR hl.1 (Nat.le_of_ble_eq_true rfl) ⟨Nat.le_refl _, Nat.le_refl _⟩ (rest := [.int (nI 0), .ref o]) rfl dL_letter_5 [⟨0, 10, 13, 27⟩] ⟨0, 10, 17, 13⟩ [] (by rw [htab]; rfl) (List.forall_mem_cons.mpr ⟨Or.inr ⟨by decide, "java/lang/IndexOutOfBoundsException", bw_323, wo.2.2.2.2.2.2.2.2.2.2.2.2.2.2.2⟩, fun z h => absurd h List.not_mem_nil⟩) (by decide) (by decide) bw_163 nw_24 (hpc := 17) rfl (fun H locs q9 wo => ?_)
  refine lv_astore hx hb dL_letter_17 hl (by decide) rfl (fun ls hl => ?_)
  refine lv_iconst (v := nI 2) hx hb dL_letter_19 (by decide) ?_
  exact lo_iret S hr hlk hQ rfl wo dL_letter_20
set_option maxHeartbeats 4000000 in
set_option maxRecDepth 100000 in
theorem wn_crew (l : Launch) (D : va_G) (cI cC cD cJ : ClassId) (ad : Nat → Nat) (N : Nat) (x y : Int32) (o : Nat) (f : Nat → Int64) (E E' : Nat → va_E) (v : Int32) {rm2 : Room} (hR : rm2.frames + 1 ≤ 10 ∧ 8 + (4 + 11) + rm2.locals ≤ 360) {fs : List Value} (hN : 0 < N) (h0 : E 0 = .inr (3, fs)) (hz : rm2.cells = 0 ∧ rm2.slots = 0) (hM : RM l yX3_crew cX3_crew 4 (some .int) rm2 D (ty3 cI cC cD) ENC [.ref (ad 0), .int x, .int y] ad N E E' (some (.int v))) : RLc l yL_crew cL_crew 5 [(0, 10, 13, 13)] D (ty3 cI cC cD) cJ [.ref (ad 0), .int x, .int y, .ref o] ad N E E' o f (vp_updL f 0 v.toInt64) (nI 0) := by
  refine RLc.of (by decide) (Nat.le_of_ble_eq_true rfl) ?_
  intro p e s m below meth c0 A ls args Q0 S hr hlk htab hQ wo hl
  have hx := S.1
  have hb := S.2.1
  have hl : lv_has ls 5 [(0, .ref (ad 0)), (1, .int x), (2, .int y), (3, .ref o)] := hl
  refine lv_aload_n hx hb dL_crew_0 rfl (lv_at hl 3 rfl) ?_
  refine lv_iconst (v := nI 0) hx hb dL_crew_1 (by decide) ?_
  refine lv_aload_n hx hb dL_crew_2 rfl (lv_at hl 0 rfl) ?_
  refine lv_iload_n hx hb dL_crew_3 rfl (lv_at hl 1 rfl) ?_
  refine lv_iload_n hx hb dL_crew_4 rfl (lv_at hl 2 rfl) ?_
  refine lo_callV S wo hM (bw5 bw_401 bw_402 bw_403 bw_32 bw_404) (rb_recv wo.wb 0 hN h0 rfl) hdX3_crew rfl hz hR hl.1 (Nat.le_of_ble_eq_true rfl) ⟨Nat.zero_le _, Nat.zero_le _⟩ (rest := [.int (nI 0), .ref o]) rfl rfl dL_crew_5 (fun H locs wo => ?_)
  refine lv_i2l hx hb dL_crew_8 rfl ?_
  refine lo_last S wo dL_crew_9 (fun H locs wo => ?_)
  refine lv_goto (tgt := 17) hx hb dL_crew_10 (by decide) ?_
  refine lv_iconst (v := nI 0) hx hb dL_crew_17 (by decide) ?_
  refine W.widen (k := 1) (n := 6) (by omega) (by omega) ?_
  exact lo_iret S hr hlk hQ rfl wo dL_crew_18
set_option maxHeartbeats 4000000 in
set_option maxRecDepth 100000 in
theorem wx_crew1 (l : Launch) (D : va_G) (cI cC cD cJ : ClassId) (ad : Nat → Nat) (N : Nat) (x y : Int32) (o : Nat) (f : Nat → Int64) (E : Nat → va_E) {rm2 : Room} (hR : rm2.frames + 1 ≤ 10 ∧ 8 + (4 + 11) + rm2.locals ≤ 360) {fs : List Value} (hN : 0 < N) (h0 : E 0 = .inr (3, fs)) (hz : rm2.cells = 1 ∧ rm2.slots = 6) (hM : RX l yX3_crew cX3_crew 4 (some .int) rm2 D (ty3 cI cC cD) ENC [.ref (ad 0), .int x, .int y] ad N E "java/lang/IllegalArgumentException") : RLc l yL_crew cL_crew 5 [(0, 10, 13, 13)] D (ty3 cI cC cD) cJ [.ref (ad 0), .int x, .int y, .ref o] ad N E E o f f (nI 1) := by
  refine RLc.of (by decide) (Nat.le_of_ble_eq_true rfl) ?_
  intro p e s m below meth c0 A ls args Q0 S hr hlk htab hQ wo hl
  have hx := S.1
  have hb := S.2.1
  have hl : lv_has ls 5 [(0, .ref (ad 0)), (1, .int x), (2, .int y), (3, .ref o)] := hl
  refine lv_aload_n hx hb dL_crew_0 rfl (lv_at hl 3 rfl) ?_
  refine lv_iconst (v := nI 0) hx hb dL_crew_1 (by decide) ?_
  refine lv_aload_n hx hb dL_crew_2 rfl (lv_at hl 0 rfl) ?_
  refine lv_iload_n hx hb dL_crew_3 rfl (lv_at hl 1 rfl) ?_
  refine lv_iload_n hx hb dL_crew_4 rfl (lv_at hl 2 rfl) ?_
  refine lo_callX S wo hM (bw5 bw_401 bw_402 bw_403 bw_32 bw_404) (rb_recv wo.wb 0 hN h0 rfl) hdX3_crew rfl hz hR hl.1 (Nat.le_of_ble_eq_true rfl) ⟨Nat.le_refl _, Nat.le_refl _⟩ (rest := [.int (nI 0), .ref o]) rfl dL_crew_5 [] ⟨0, 10, 13, 13⟩ [] (by rw [htab]; rfl) (fun z h => absurd h List.not_mem_nil) (by decide) (by decide) bw_163 nw_24 (hpc := 13) rfl (fun H locs q9 wo => ?_)
  refine lv_astore hx hb dL_crew_13 hl (by decide) rfl (fun ls hl => ?_)
  refine lv_iconst (v := nI 1) hx hb dL_crew_15 (by decide) ?_
  exact lo_iret S hr hlk hQ rfl wo dL_crew_16
set_option maxHeartbeats 4000000 in
set_option maxRecDepth 100000 in
theorem wn_known (l : Launch) (D : va_G) (cI cC cD cJ : ClassId) (ad : Nat → Nat) (N : Nat) (x y : Int32) (o : Nat) (f : Nat → Int64) (E E' : Nat → va_E) (v : Int32) {rm2 : Room} (hR : rm2.frames + 1 ≤ 10 ∧ 8 + (3 + 11) + rm2.locals ≤ 360) {fs : List Value} (hN : 0 < N) (h0 : E 0 = .inr (3, fs)) (hz : rm2.cells = 0 ∧ rm2.slots = 0) (hM : RM l yX3_known cX3_known 3 (some .int) rm2 D (ty3 cI cC cD) ENC [.ref (ad 0), .int x, .int y] ad N E E' (some (.int v))) : RLc l yL_known cL_known 5 [(0, 10, 13, 13)] D (ty3 cI cC cD) cJ [.ref (ad 0), .int x, .int y, .ref o] ad N E E' o f (vp_updL f 0 v.toInt64) (nI 0) := by
  refine RLc.of (by decide) (Nat.le_of_ble_eq_true rfl) ?_
  intro p e s m below meth c0 A ls args Q0 S hr hlk htab hQ wo hl
  have hx := S.1
  have hb := S.2.1
  have hl : lv_has ls 5 [(0, .ref (ad 0)), (1, .int x), (2, .int y), (3, .ref o)] := hl
  refine lv_aload_n hx hb dL_known_0 rfl (lv_at hl 3 rfl) ?_
  refine lv_iconst (v := nI 0) hx hb dL_known_1 (by decide) ?_
  refine lv_aload_n hx hb dL_known_2 rfl (lv_at hl 0 rfl) ?_
  refine lv_iload_n hx hb dL_known_3 rfl (lv_at hl 1 rfl) ?_
  refine lv_iload_n hx hb dL_known_4 rfl (lv_at hl 2 rfl) ?_
  refine lo_callV S wo hM (bw5 bw_413 bw_414 bw_415 bw_32 bw_416) (rb_recv wo.wb 0 hN h0 rfl) hdX3_known rfl hz hR hl.1 (Nat.le_of_ble_eq_true rfl) ⟨Nat.zero_le _, Nat.zero_le _⟩ (rest := [.int (nI 0), .ref o]) rfl rfl dL_known_5 (fun H locs wo => ?_)
  refine lv_i2l hx hb dL_known_8 rfl ?_
  refine lo_last S wo dL_known_9 (fun H locs wo => ?_)
  refine lv_goto (tgt := 17) hx hb dL_known_10 (by decide) ?_
  refine lv_iconst (v := nI 0) hx hb dL_known_17 (by decide) ?_
  refine W.widen (k := 1) (n := 6) (by omega) (by omega) ?_
  exact lo_iret S hr hlk hQ rfl wo dL_known_18
set_option maxHeartbeats 4000000 in
set_option maxRecDepth 100000 in
theorem wx_known1 (l : Launch) (D : va_G) (cI cC cD cJ : ClassId) (ad : Nat → Nat) (N : Nat) (x y : Int32) (o : Nat) (f : Nat → Int64) (E : Nat → va_E) {rm2 : Room} (hR : rm2.frames + 1 ≤ 10 ∧ 8 + (3 + 11) + rm2.locals ≤ 360) {fs : List Value} (hN : 0 < N) (h0 : E 0 = .inr (3, fs)) (hz : rm2.cells = 1 ∧ rm2.slots = 6) (hM : RX l yX3_known cX3_known 3 (some .int) rm2 D (ty3 cI cC cD) ENC [.ref (ad 0), .int x, .int y] ad N E "java/lang/IllegalArgumentException") : RLc l yL_known cL_known 5 [(0, 10, 13, 13)] D (ty3 cI cC cD) cJ [.ref (ad 0), .int x, .int y, .ref o] ad N E E o f f (nI 1) := by
  refine RLc.of (by decide) (Nat.le_of_ble_eq_true rfl) ?_
  intro p e s m below meth c0 A ls args Q0 S hr hlk htab hQ wo hl
  have hx := S.1
  have hb := S.2.1
  have hl : lv_has ls 5 [(0, .ref (ad 0)), (1, .int x), (2, .int y), (3, .ref o)] := hl
  refine lv_aload_n hx hb dL_known_0 rfl (lv_at hl 3 rfl) ?_
  refine lv_iconst (v := nI 0) hx hb dL_known_1 (by decide) ?_
  refine lv_aload_n hx hb dL_known_2 rfl (lv_at hl 0 rfl) ?_
  refine lv_iload_n hx hb dL_known_3 rfl (lv_at hl 1 rfl) ?_
  refine lv_iload_n hx hb dL_known_4 rfl (lv_at hl 2 rfl) ?_
  refine lo_callX S wo hM (bw5 bw_413 bw_414 bw_415 bw_32 bw_416) (rb_recv wo.wb 0 hN h0 rfl) hdX3_known rfl hz hR hl.1 (Nat.le_of_ble_eq_true rfl) ⟨Nat.le_refl _, Nat.le_refl _⟩ (rest := [.int (nI 0), .ref o]) rfl dL_known_5 [] ⟨0, 10, 13, 13⟩ [] (by rw [htab]; rfl) (fun z h => absurd h List.not_mem_nil) (by decide) (by decide) bw_163 nw_24 (hpc := 13) rfl (fun H locs q9 wo => ?_)
  refine lv_astore hx hb dL_known_13 hl (by decide) rfl (fun ls hl => ?_)
  refine lv_iconst (v := nI 1) hx hb dL_known_15 (by decide) ?_
  exact lo_iret S hr hlk hQ rfl wo dL_known_16
set_option maxHeartbeats 4000000 in
set_option maxRecDepth 100000 in
theorem wn_desk (l : Launch) (D : va_G) (cI cC cD cJ : ClassId) (ad : Nat → Nat) (N : Nat) (x y : Int32) (o : Nat) (f : Nat → Int64) (E E' : Nat → va_E) (v : Int32) {rm2 : Room} (hR : rm2.frames + 1 ≤ 10 ∧ 8 + (4 + 11) + rm2.locals ≤ 360) {fs : List Value} (hN : 0 < N) (h0 : E 0 = .inr (3, fs)) (hz : rm2.cells = 0 ∧ rm2.slots = 0) (hM : RM l yX3_desk cX3_desk 4 (some .int) rm2 D (ty3 cI cC cD) ENC [.ref (ad 0), .int x, .int y] ad N E E' (some (.int v))) : RLc l yL_desk cL_desk 5 [(0, 10, 13, 13)] D (ty3 cI cC cD) cJ [.ref (ad 0), .int x, .int y, .ref o] ad N E E' o f (vp_updL f 0 v.toInt64) (nI 0) := by
  refine RLc.of (by decide) (Nat.le_of_ble_eq_true rfl) ?_
  intro p e s m below meth c0 A ls args Q0 S hr hlk htab hQ wo hl
  have hx := S.1
  have hb := S.2.1
  have hl : lv_has ls 5 [(0, .ref (ad 0)), (1, .int x), (2, .int y), (3, .ref o)] := hl
  refine lv_aload_n hx hb dL_desk_0 rfl (lv_at hl 3 rfl) ?_
  refine lv_iconst (v := nI 0) hx hb dL_desk_1 (by decide) ?_
  refine lv_aload_n hx hb dL_desk_2 rfl (lv_at hl 0 rfl) ?_
  refine lv_iload_n hx hb dL_desk_3 rfl (lv_at hl 1 rfl) ?_
  refine lv_iload_n hx hb dL_desk_4 rfl (lv_at hl 2 rfl) ?_
  refine lo_callV S wo hM (bw5 bw_420 bw_421 bw_422 bw_32 bw_423) (rb_recv wo.wb 0 hN h0 rfl) hdX3_desk rfl hz hR hl.1 (Nat.le_of_ble_eq_true rfl) ⟨Nat.zero_le _, Nat.zero_le _⟩ (rest := [.int (nI 0), .ref o]) rfl rfl dL_desk_5 (fun H locs wo => ?_)
  refine lv_i2l hx hb dL_desk_8 rfl ?_
  refine lo_last S wo dL_desk_9 (fun H locs wo => ?_)
  refine lv_goto (tgt := 17) hx hb dL_desk_10 (by decide) ?_
  refine lv_iconst (v := nI 0) hx hb dL_desk_17 (by decide) ?_
  refine W.widen (k := 1) (n := 6) (by omega) (by omega) ?_
  exact lo_iret S hr hlk hQ rfl wo dL_desk_18
set_option maxHeartbeats 4000000 in
set_option maxRecDepth 100000 in
theorem wx_desk1 (l : Launch) (D : va_G) (cI cC cD cJ : ClassId) (ad : Nat → Nat) (N : Nat) (x y : Int32) (o : Nat) (f : Nat → Int64) (E : Nat → va_E) {rm2 : Room} (hR : rm2.frames + 1 ≤ 10 ∧ 8 + (4 + 11) + rm2.locals ≤ 360) {fs : List Value} (hN : 0 < N) (h0 : E 0 = .inr (3, fs)) (hz : rm2.cells = 1 ∧ rm2.slots = 6) (hM : RX l yX3_desk cX3_desk 4 (some .int) rm2 D (ty3 cI cC cD) ENC [.ref (ad 0), .int x, .int y] ad N E "java/lang/IllegalArgumentException") : RLc l yL_desk cL_desk 5 [(0, 10, 13, 13)] D (ty3 cI cC cD) cJ [.ref (ad 0), .int x, .int y, .ref o] ad N E E o f f (nI 1) := by
  refine RLc.of (by decide) (Nat.le_of_ble_eq_true rfl) ?_
  intro p e s m below meth c0 A ls args Q0 S hr hlk htab hQ wo hl
  have hx := S.1
  have hb := S.2.1
  have hl : lv_has ls 5 [(0, .ref (ad 0)), (1, .int x), (2, .int y), (3, .ref o)] := hl
  refine lv_aload_n hx hb dL_desk_0 rfl (lv_at hl 3 rfl) ?_
  refine lv_iconst (v := nI 0) hx hb dL_desk_1 (by decide) ?_
  refine lv_aload_n hx hb dL_desk_2 rfl (lv_at hl 0 rfl) ?_
  refine lv_iload_n hx hb dL_desk_3 rfl (lv_at hl 1 rfl) ?_
  refine lv_iload_n hx hb dL_desk_4 rfl (lv_at hl 2 rfl) ?_
  refine lo_callX S wo hM (bw5 bw_420 bw_421 bw_422 bw_32 bw_423) (rb_recv wo.wb 0 hN h0 rfl) hdX3_desk rfl hz hR hl.1 (Nat.le_of_ble_eq_true rfl) ⟨Nat.le_refl _, Nat.le_refl _⟩ (rest := [.int (nI 0), .ref o]) rfl dL_desk_5 [] ⟨0, 10, 13, 13⟩ [] (by rw [htab]; rfl) (fun z h => absurd h List.not_mem_nil) (by decide) (by decide) bw_163 nw_24 (hpc := 13) rfl (fun H locs q9 wo => ?_)
  refine lv_astore hx hb dL_desk_13 hl (by decide) rfl (fun ls hl => ?_)
  refine lv_iconst (v := nI 1) hx hb dL_desk_15 (by decide) ?_
  exact lo_iret S hr hlk hQ rfl wo dL_desk_16
set_option maxHeartbeats 4000000 in
set_option maxRecDepth 100000 in
theorem wn_phase (l : Launch) (D : va_G) (cI cC cD cJ : ClassId) (ad : Nat → Nat) (N : Nat) (o : Nat) (f : Nat → Int64) (E E' : Nat → va_E) (v : Int32) {rm2 : Room} (hR : rm2.frames + 1 ≤ 10 ∧ 8 + (2 + 11) + rm2.locals ≤ 360) {fs : List Value} (hN : 0 < N) (h0 : E 0 = .inr (3, fs)) (hz : rm2.cells = 0 ∧ rm2.slots = 0) (hM : RM l yX3_phase cX3_phase 2 (some .int) rm2 D (ty3 cI cC cD) ENC [.ref (ad 0)] ad N E E' (some (.int v))) : RLc l yL_phase cL_phase 3 [(0, 8, 11, 15)] D (ty3 cI cC cD) cJ [.ref (ad 0), .ref o] ad N E E' o f (vp_updL f 0 v.toInt64) (nI 0) := by
  refine RLc.of (by decide) (Nat.le_of_ble_eq_true rfl) ?_
  intro p e s m below meth c0 A ls args Q0 S hr hlk htab hQ wo hl
  have hx := S.1
  have hb := S.2.1
  have hl : lv_has ls 3 [(0, .ref (ad 0)), (1, .ref o)] := hl
  refine lv_aload_n hx hb dL_phase_0 rfl (lv_at hl 1 rfl) ?_
  refine lv_iconst (v := nI 0) hx hb dL_phase_1 (by decide) ?_
  refine lv_aload_n hx hb dL_phase_2 rfl (lv_at hl 0 rfl) ?_
  refine lo_callV S wo hM (bw5 bw_427 bw_428 bw_429 bw_32 bw_430) (rb_recv wo.wb 0 hN h0 rfl) hdX3_phase rfl hz hR hl.1 (Nat.le_of_ble_eq_true rfl) ⟨Nat.zero_le _, Nat.zero_le _⟩ (rest := [.int (nI 0), .ref o]) rfl rfl dL_phase_3 (fun H locs wo => ?_)
  refine lv_i2l hx hb dL_phase_6 rfl ?_
  refine lo_last S wo dL_phase_7 (fun H locs wo => ?_)
  refine lv_goto (tgt := 14) hx hb dL_phase_8 (by decide) ?_
  refine lv_iconst (v := nI 0) hx hb dL_phase_14 (by decide) ?_
  refine W.widen (k := 1) (n := 6) (by omega) (by omega) ?_
  exact lo_iret S hr hlk hQ rfl wo dL_phase_15
set_option maxHeartbeats 4000000 in
set_option maxRecDepth 100000 in
theorem wx_phase1 (l : Launch) (D : va_G) (cI cC cD cJ : ClassId) (ad : Nat → Nat) (N : Nat) (o : Nat) (f : Nat → Int64) (E : Nat → va_E) {rm2 : Room} (hR : rm2.frames + 1 ≤ 10 ∧ 8 + (2 + 11) + rm2.locals ≤ 360) {fs : List Value} (hN : 0 < N) (h0 : E 0 = .inr (3, fs)) (hz : rm2.cells = 1 ∧ rm2.slots = 6) (hM : RX l yX3_phase cX3_phase 2 (some .int) rm2 D (ty3 cI cC cD) ENC [.ref (ad 0)] ad N E "java/lang/IllegalStateException") : RLc l yL_phase cL_phase 3 [(0, 8, 11, 15)] D (ty3 cI cC cD) cJ [.ref (ad 0), .ref o] ad N E E o f f (nI 1) := by
  refine RLc.of (by decide) (Nat.le_of_ble_eq_true rfl) ?_
  intro p e s m below meth c0 A ls args Q0 S hr hlk htab hQ wo hl
  have hx := S.1
  have hb := S.2.1
  have hl : lv_has ls 3 [(0, .ref (ad 0)), (1, .ref o)] := hl
  refine lv_aload_n hx hb dL_phase_0 rfl (lv_at hl 1 rfl) ?_
  refine lv_iconst (v := nI 0) hx hb dL_phase_1 (by decide) ?_
  refine lv_aload_n hx hb dL_phase_2 rfl (lv_at hl 0 rfl) ?_
  refine lo_callX S wo hM (bw5 bw_427 bw_428 bw_429 bw_32 bw_430) (rb_recv wo.wb 0 hN h0 rfl) hdX3_phase rfl hz hR hl.1 (Nat.le_of_ble_eq_true rfl) ⟨Nat.le_refl _, Nat.le_refl _⟩ (rest := [.int (nI 0), .ref o]) rfl dL_phase_3 [] ⟨0, 8, 11, 15⟩ [] (by rw [htab]; rfl) (fun z h => absurd h List.not_mem_nil) (by decide) (by decide) bw_164 nw_25 (hpc := 11) rfl (fun H locs q9 wo => ?_)
  refine lv_astore_n hx hb dL_phase_11 rfl hl (by decide) rfl (fun ls hl => ?_)
  refine lv_iconst (v := nI 1) hx hb dL_phase_12 (by decide) ?_
  exact lo_iret S hr hlk hQ rfl wo dL_phase_13
set_option maxHeartbeats 4000000 in
set_option maxRecDepth 100000 in
theorem wn_total (l : Launch) (D : va_G) (cI cC cD cJ : ClassId) (ad : Nat → Nat) (N : Nat) (o : Nat) (f : Nat → Int64) (E E' : Nat → va_E) (v : Int32) {rm2 : Room} (hR : rm2.frames + 1 ≤ 10 ∧ 8 + (3 + 11) + rm2.locals ≤ 360) {fs : List Value} (hN : 0 < N) (h0 : E 0 = .inr (3, fs)) (hz : rm2.cells = 0 ∧ rm2.slots = 0) (hM : RM l yX3_total cX3_total 3 (some .int) rm2 D (ty3 cI cC cD) ENC [.ref (ad 0)] ad N E E' (some (.int v))) : RLc l yL_total cL_total 3 [(0, 8, 11, 15)] D (ty3 cI cC cD) cJ [.ref (ad 0), .ref o] ad N E E' o f (vp_updL f 0 v.toInt64) (nI 0) := by
  refine RLc.of (by decide) (Nat.le_of_ble_eq_true rfl) ?_
  intro p e s m below meth c0 A ls args Q0 S hr hlk htab hQ wo hl
  have hx := S.1
  have hb := S.2.1
  have hl : lv_has ls 3 [(0, .ref (ad 0)), (1, .ref o)] := hl
  refine lv_aload_n hx hb dL_total_0 rfl (lv_at hl 1 rfl) ?_
  refine lv_iconst (v := nI 0) hx hb dL_total_1 (by decide) ?_
  refine lv_aload_n hx hb dL_total_2 rfl (lv_at hl 0 rfl) ?_
  refine lo_callV S wo hM (bw5 bw_434 bw_435 bw_436 bw_32 bw_437) (rb_recv wo.wb 0 hN h0 rfl) hdX3_total rfl hz hR hl.1 (Nat.le_of_ble_eq_true rfl) ⟨Nat.zero_le _, Nat.zero_le _⟩ (rest := [.int (nI 0), .ref o]) rfl rfl dL_total_3 (fun H locs wo => ?_)
  refine lv_i2l hx hb dL_total_6 rfl ?_
  refine lo_last S wo dL_total_7 (fun H locs wo => ?_)
  refine lv_goto (tgt := 14) hx hb dL_total_8 (by decide) ?_
  refine lv_iconst (v := nI 0) hx hb dL_total_14 (by decide) ?_
  refine W.widen (k := 1) (n := 6) (by omega) (by omega) ?_
  exact lo_iret S hr hlk hQ rfl wo dL_total_15
set_option maxHeartbeats 4000000 in
set_option maxRecDepth 100000 in
theorem wx_total1 (l : Launch) (D : va_G) (cI cC cD cJ : ClassId) (ad : Nat → Nat) (N : Nat) (o : Nat) (f : Nat → Int64) (E : Nat → va_E) {rm2 : Room} (hR : rm2.frames + 1 ≤ 10 ∧ 8 + (3 + 11) + rm2.locals ≤ 360) {fs : List Value} (hN : 0 < N) (h0 : E 0 = .inr (3, fs)) (hz : rm2.cells = 1 ∧ rm2.slots = 6) (hM : RX l yX3_total cX3_total 3 (some .int) rm2 D (ty3 cI cC cD) ENC [.ref (ad 0)] ad N E "java/lang/IllegalStateException") : RLc l yL_total cL_total 3 [(0, 8, 11, 15)] D (ty3 cI cC cD) cJ [.ref (ad 0), .ref o] ad N E E o f f (nI 1) := by
  refine RLc.of (by decide) (Nat.le_of_ble_eq_true rfl) ?_
  intro p e s m below meth c0 A ls args Q0 S hr hlk htab hQ wo hl
  have hx := S.1
  have hb := S.2.1
  have hl : lv_has ls 3 [(0, .ref (ad 0)), (1, .ref o)] := hl
  refine lv_aload_n hx hb dL_total_0 rfl (lv_at hl 1 rfl) ?_
  refine lv_iconst (v := nI 0) hx hb dL_total_1 (by decide) ?_
  refine lv_aload_n hx hb dL_total_2 rfl (lv_at hl 0 rfl) ?_
  refine lo_callX S wo hM (bw5 bw_434 bw_435 bw_436 bw_32 bw_437) (rb_recv wo.wb 0 hN h0 rfl) hdX3_total rfl hz hR hl.1 (Nat.le_of_ble_eq_true rfl) ⟨Nat.le_refl _, Nat.le_refl _⟩ (rest := [.int (nI 0), .ref o]) rfl dL_total_3 [] ⟨0, 8, 11, 15⟩ [] (by rw [htab]; rfl) (fun z h => absurd h List.not_mem_nil) (by decide) (by decide) bw_164 nw_25 (hpc := 11) rfl (fun H locs q9 wo => ?_)
  refine lv_astore_n hx hb dL_total_11 rfl hl (by decide) rfl (fun ls hl => ?_)
  refine lv_iconst (v := nI 1) hx hb dL_total_12 (by decide) ?_
  exact lo_iret S hr hlk hQ rfl wo dL_total_13
set_option maxHeartbeats 4000000 in
set_option maxRecDepth 100000 in
theorem wn_proves (l : Launch) (D : va_G) (cI cC cD cJ : ClassId) (ad : Nat → Nat) (N : Nat) (o : Nat) (f : Nat → Int64) (E E' : Nat → va_E) (v : Int32) {rm2 : Room} (hR : rm2.frames + 1 ≤ 10 ∧ 8 + (3 + 11) + rm2.locals ≤ 360) {fs : List Value} (hN : 0 < N) (h0 : E 0 = .inr (3, fs)) (hz : rm2.cells = 0 ∧ rm2.slots = 0) (hM : RM l yX3_proves cX3_proves 3 (some .boolean) rm2 D (ty3 cI cC cD) ENC [.ref (ad 0)] ad N E E' (some (.int v))) (hv : v = 0 ∨ v = 1) : RLc l yL_proves cL_proves 3 [(0, 15, 18, 15)] D (ty3 cI cC cD) cJ [.ref (ad 0), .ref o] ad N E E' o f (vp_updL f 0 v.toInt64) (nI 0) := by
  refine RLc.of (by decide) (Nat.le_of_ble_eq_true rfl) ?_
  intro p e s m below meth c0 A ls args Q0 S hr hlk htab hQ wo hl
  have hx := S.1
  have hb := S.2.1
  have hl : lv_has ls 3 [(0, .ref (ad 0)), (1, .ref o)] := hl
  refine lv_aload_n hx hb dL_proves_0 rfl (lv_at hl 1 rfl) ?_
  refine lv_iconst (v := nI 0) hx hb dL_proves_1 (by decide) ?_
  refine lv_aload_n hx hb dL_proves_2 rfl (lv_at hl 0 rfl) ?_
  refine lo_callV S wo hM (bw5 bw_441 bw_442 bw_443 bw_32 bw_444) (rb_recv wo.wb 0 hN h0 rfl) hdX3_proves rfl hz hR hl.1 (Nat.le_of_ble_eq_true rfl) ⟨Nat.zero_le _, Nat.zero_le _⟩ (rest := [.int (nI 0), .ref o]) rfl rfl dL_proves_3 (fun H locs wo => ?_)
  refine lv_if_eq (tgt := 13) hx hb dL_proves_6 (by decide) (fun h9 => ?_) (fun h9 => ?_)
  · subst h9
    refine lv_lconst (v := (0 : Int32).toInt64) hx hb dL_proves_13 (by decide) ?_
    refine lo_last S wo dL_proves_14 (fun H locs wo => ?_)
    refine lv_goto (tgt := 21) hx hb dL_proves_15 (by decide) ?_
    refine lv_iconst (v := nI 0) hx hb dL_proves_21 (by decide) ?_
    refine W.widen (k := 1) (n := 6) (by omega) (by omega) ?_
    exact lo_iret S hr hlk hQ rfl wo dL_proves_22
  · have h8 : v = 1 := hv.resolve_left h9
    subst h8
    refine lv_lconst (v := (1 : Int32).toInt64) hx hb dL_proves_9 (by decide) ?_
    refine lv_goto (tgt := 14) hx hb dL_proves_10 (by decide) ?_
    refine lo_last S wo dL_proves_14 (fun H locs wo => ?_)
    refine lv_goto (tgt := 21) hx hb dL_proves_15 (by decide) ?_
    refine lv_iconst (v := nI 0) hx hb dL_proves_21 (by decide) ?_
    refine W.widen (k := 1) (n := 6) (by omega) (by omega) ?_
    exact lo_iret S hr hlk hQ rfl wo dL_proves_22
set_option maxHeartbeats 4000000 in
set_option maxRecDepth 100000 in
theorem wx_proves1 (l : Launch) (D : va_G) (cI cC cD cJ : ClassId) (ad : Nat → Nat) (N : Nat) (o : Nat) (f : Nat → Int64) (E : Nat → va_E) {rm2 : Room} (hR : rm2.frames + 1 ≤ 10 ∧ 8 + (3 + 11) + rm2.locals ≤ 360) {fs : List Value} (hN : 0 < N) (h0 : E 0 = .inr (3, fs)) (hz : rm2.cells = 1 ∧ rm2.slots = 6) (hM : RX l yX3_proves cX3_proves 3 (some .boolean) rm2 D (ty3 cI cC cD) ENC [.ref (ad 0)] ad N E "java/lang/IllegalStateException") : RLc l yL_proves cL_proves 3 [(0, 15, 18, 15)] D (ty3 cI cC cD) cJ [.ref (ad 0), .ref o] ad N E E o f f (nI 1) := by
  refine RLc.of (by decide) (Nat.le_of_ble_eq_true rfl) ?_
  intro p e s m below meth c0 A ls args Q0 S hr hlk htab hQ wo hl
  have hx := S.1
  have hb := S.2.1
  have hl : lv_has ls 3 [(0, .ref (ad 0)), (1, .ref o)] := hl
  refine lv_aload_n hx hb dL_proves_0 rfl (lv_at hl 1 rfl) ?_
  refine lv_iconst (v := nI 0) hx hb dL_proves_1 (by decide) ?_
  refine lv_aload_n hx hb dL_proves_2 rfl (lv_at hl 0 rfl) ?_
  refine lo_callX S wo hM (bw5 bw_441 bw_442 bw_443 bw_32 bw_444) (rb_recv wo.wb 0 hN h0 rfl) hdX3_proves rfl hz hR hl.1 (Nat.le_of_ble_eq_true rfl) ⟨Nat.le_refl _, Nat.le_refl _⟩ (rest := [.int (nI 0), .ref o]) rfl dL_proves_3 [] ⟨0, 15, 18, 15⟩ [] (by rw [htab]; rfl) (fun z h => absurd h List.not_mem_nil) (by decide) (by decide) bw_164 nw_25 (hpc := 18) rfl (fun H locs q9 wo => ?_)
  refine lv_astore_n hx hb dL_proves_18 rfl hl (by decide) rfl (fun ls hl => ?_)
  refine lv_iconst (v := nI 1) hx hb dL_proves_19 (by decide) ?_
  exact lo_iret S hr hlk hQ rfl wo dL_proves_20
set_option maxHeartbeats 4000000 in
set_option maxRecDepth 100000 in
theorem wn_count (l : Launch) (D : va_G) (cI cC cD cJ : ClassId) (ad : Nat → Nat) (N : Nat) (x : Int32) (o : Nat) (f : Nat → Int64) (E E' : Nat → va_E) (v : Int32) {rm2 : Room} (hR : rm2.frames + 1 ≤ 10 ∧ 8 + (2 + 11) + rm2.locals ≤ 360) {fs : List Value} (hN : 0 < N) (h0 : E 0 = .inr (3, fs)) (hz : rm2.cells = 0 ∧ rm2.slots = 0) (hM : RM l yX3_count cX3_count 2 (some .int) rm2 D (ty3 cI cC cD) ENC [.ref (ad 0), .int x] ad N E E' (some (.int v))) : RLc l yL_count cL_count 4 [(0, 9, 12, 13)] D (ty3 cI cC cD) cJ [.ref (ad 0), .int x, .ref o] ad N E E' o f (vp_updL f 0 v.toInt64) (nI 0) := by
  refine RLc.of (by decide) (Nat.le_of_ble_eq_true rfl) ?_
  intro p e s m below meth c0 A ls args Q0 S hr hlk htab hQ wo hl
  have hx := S.1
  have hb := S.2.1
  have hl : lv_has ls 4 [(0, .ref (ad 0)), (1, .int x), (2, .ref o)] := hl
  refine lv_aload_n hx hb dL_count_0 rfl (lv_at hl 2 rfl) ?_
  refine lv_iconst (v := nI 0) hx hb dL_count_1 (by decide) ?_
  refine lv_aload_n hx hb dL_count_2 rfl (lv_at hl 0 rfl) ?_
  refine lv_iload_n hx hb dL_count_3 rfl (lv_at hl 1 rfl) ?_
  refine lo_callV S wo hM (bw5 bw_448 bw_449 bw_450 bw_32 bw_451) (rb_recv wo.wb 0 hN h0 rfl) hdX3_count rfl hz hR hl.1 (Nat.le_of_ble_eq_true rfl) ⟨Nat.zero_le _, Nat.zero_le _⟩ (rest := [.int (nI 0), .ref o]) rfl rfl dL_count_4 (fun H locs wo => ?_)
  refine lv_i2l hx hb dL_count_7 rfl ?_
  refine lo_last S wo dL_count_8 (fun H locs wo => ?_)
  refine lv_goto (tgt := 15) hx hb dL_count_9 (by decide) ?_
  refine lv_iconst (v := nI 0) hx hb dL_count_15 (by decide) ?_
  refine W.widen (k := 1) (n := 6) (by omega) (by omega) ?_
  exact lo_iret S hr hlk hQ rfl wo dL_count_16
set_option maxHeartbeats 4000000 in
set_option maxRecDepth 100000 in
theorem wx_count1 (l : Launch) (D : va_G) (cI cC cD cJ : ClassId) (ad : Nat → Nat) (N : Nat) (x : Int32) (o : Nat) (f : Nat → Int64) (E : Nat → va_E) {rm2 : Room} (hR : rm2.frames + 1 ≤ 10 ∧ 8 + (2 + 11) + rm2.locals ≤ 360) {fs : List Value} (hN : 0 < N) (h0 : E 0 = .inr (3, fs)) (hz : rm2.cells = 1 ∧ rm2.slots = 6) (hM : RX l yX3_count cX3_count 2 (some .int) rm2 D (ty3 cI cC cD) ENC [.ref (ad 0), .int x] ad N E "java/lang/IllegalArgumentException") : RLc l yL_count cL_count 4 [(0, 9, 12, 13)] D (ty3 cI cC cD) cJ [.ref (ad 0), .int x, .ref o] ad N E E o f f (nI 1) := by
  refine RLc.of (by decide) (Nat.le_of_ble_eq_true rfl) ?_
  intro p e s m below meth c0 A ls args Q0 S hr hlk htab hQ wo hl
  have hx := S.1
  have hb := S.2.1
  have hl : lv_has ls 4 [(0, .ref (ad 0)), (1, .int x), (2, .ref o)] := hl
  refine lv_aload_n hx hb dL_count_0 rfl (lv_at hl 2 rfl) ?_
  refine lv_iconst (v := nI 0) hx hb dL_count_1 (by decide) ?_
  refine lv_aload_n hx hb dL_count_2 rfl (lv_at hl 0 rfl) ?_
  refine lv_iload_n hx hb dL_count_3 rfl (lv_at hl 1 rfl) ?_
  refine lo_callX S wo hM (bw5 bw_448 bw_449 bw_450 bw_32 bw_451) (rb_recv wo.wb 0 hN h0 rfl) hdX3_count rfl hz hR hl.1 (Nat.le_of_ble_eq_true rfl) ⟨Nat.le_refl _, Nat.le_refl _⟩ (rest := [.int (nI 0), .ref o]) rfl dL_count_4 [] ⟨0, 9, 12, 13⟩ [] (by rw [htab]; rfl) (fun z h => absurd h List.not_mem_nil) (by decide) (by decide) bw_163 nw_24 (hpc := 12) rfl (fun H locs q9 wo => ?_)
  refine lv_astore_n hx hb dL_count_12 rfl hl (by decide) rfl (fun ls hl => ?_)
  refine lv_iconst (v := nI 1) hx hb dL_count_13 (by decide) ?_
  exact lo_iret S hr hlk hQ rfl wo dL_count_14
