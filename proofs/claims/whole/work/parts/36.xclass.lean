/-! the class: where its methods throw -/
theorem ge5 {y : Int32} (h : nI 4 < y) : nI 5 ≤ y := by
  rw [Int32.lt_iff_toInt_lt, nI_toInt (by omega)] at h
  rw [Int32.le_iff_toInt_le, nI_toInt (by omega)]
  omega

set_option maxHeartbeats 4000000 in
set_option maxRecDepth 100000 in
theorem x_reqA (l : Launch) (hlt : l.stackTraces = false) (D : va_G) (cI cC cD : ClassId) (ad : Nat → Nat) (n ph mn : Nat) (ar : Nat → Nat → Int32) (hn : n ≤ 6) (hn2 : 2 ≤ n)  : RX l yX3_requireArgument cX3_requireArgument 1 none ({ frames := 6, cells := 1, slots := 6, locals := 82 }) D (ty3 cI cC cD) ENC [.int (nI 0)] ad (4 * n + 6) (cE ad cI cC cD n ph mn ar) "java/lang/IllegalArgumentException" := by
  refine RX.of (by decide) (Nat.le_of_ble_eq_true rfl) ?_
  intro p e s m below meth c0 A ls args Q0 S htab hlk hQ wb hl
  have hx := S.1
  have hb := S.2.1
  have hl : lv_has ls 1 [(0, .int (nI 0))] := hl
  refine lv_iload_n hx hb dX3_requireArgument_0 rfl (lv_at hl 0 rfl) ?_
  refine lv_if_ne (tgt := 14) hx hb dX3_requireArgument_1 (by decide) (fun h1 => absurd (by decide) h1) (fun h1 => ?_)
  exact (wb.2.2.2.2.2.2.2.2.2.1).elim (fun sa hsa => rx_throw S wb hlt (text := "an argument is out of range") (names := ["java/lang/RuntimeException", "java/lang/Exception"]) (by decide +kernel) (by decide +kernel) bw_176 bw_41 hsa atA_1 atA_2 nw_tab atA_3 hl.1 dX3_requireArgument_4 dX3_requireArgument_7 dX3_requireArgument_8 dX3_requireArgument_10 dX3_requireArgument_13 htab (by decide) (Nat.le_of_ble_eq_true rfl) (by decide) (by decide) hlk hQ)

set_option maxHeartbeats 4000000 in
set_option maxRecDepth 100000 in
theorem x_reqS (l : Launch) (hlt : l.stackTraces = false) (D : va_G) (cI cC cD : ClassId) (ad : Nat → Nat) (n ph mn : Nat) (ar : Nat → Nat → Int32) (hn : n ≤ 6) (hn2 : 2 ≤ n)  : RX l yX3_requireState cX3_requireState 1 none ({ frames := 6, cells := 1, slots := 6, locals := 82 }) D (ty3 cI cC cD) ENC [.int (nI 0)] ad (4 * n + 6) (cE ad cI cC cD n ph mn ar) "java/lang/IllegalStateException" := by
  refine RX.of (by decide) (Nat.le_of_ble_eq_true rfl) ?_
  intro p e s m below meth c0 A ls args Q0 S htab hlk hQ wb hl
  have hx := S.1
  have hb := S.2.1
  have hl : lv_has ls 1 [(0, .int (nI 0))] := hl
  refine lv_iload_n hx hb dX3_requireState_0 rfl (lv_at hl 0 rfl) ?_
  refine lv_if_ne (tgt := 14) hx hb dX3_requireState_1 (by decide) (fun h1 => absurd (by decide) h1) (fun h1 => ?_)
  exact (wb.2.2.2.2.2.2.2.2.2.2.1).elim (fun sa hsa => rx_throw S wb hlt (text := "the call does not fit the state") (names := ["java/lang/RuntimeException", "java/lang/Exception"]) (by decide +kernel) (by decide +kernel) bw_252 bw_42 hsa atS_1 atS_2 nw_tab atS_3 hl.1 dX3_requireState_4 dX3_requireState_7 dX3_requireState_8 dX3_requireState_10 dX3_requireState_13 htab (by decide) (Nat.le_of_ble_eq_true rfl) (by decide) (by decide) hlk hQ)

set_option maxHeartbeats 4000000 in
set_option maxRecDepth 100000 in
theorem x_reqL (l : Launch) (hlt : l.stackTraces = false) (D : va_G) (cI cC cD : ClassId) (ad : Nat → Nat) (n ph mn : Nat) (ar : Nat → Nat → Int32) (x : Int32) (hn : n ≤ 6) (hn2 : 2 ≤ n) (hx0 : x < 0 ∨ nI mn ≤ x) : RX l yX3_requireLetter cX3_requireLetter 2 none ({ frames := 6, cells := 1, slots := 6, locals := 82 }) D (ty3 cI cC cD) ENC [.ref (ad 0), .int x] ad (4 * n + 6) (cE ad cI cC cD n ph mn ar) "java/lang/IndexOutOfBoundsException" := by
  refine RX.of (by decide) (Nat.le_of_ble_eq_true rfl) ?_
  intro p e s m below meth c0 A ls args Q0 S htab hlk hQ wb hl
  have hx := S.1
  have hb := S.2.1
  have hl : lv_has ls 2 [(0, .ref (ad 0)), (1, .int x)] := hl
  refine lv_iload_n hx hb dX3_requireLetter_0 rfl (lv_at hl 1 rfl) ?_
  refine lv_if_lt (tgt := 15) hx hb dX3_requireLetter_1 (by decide) (fun h1 => ?_) (fun h1 => ?_)
  · exact (wb.2.2.2.2.2.2.2.2.2.2.2.1).elim (fun sa hsa => rx_throw S wb hlt (text := "there is no such letter") (names := ["java/lang/RuntimeException", "java/lang/Exception"]) (by decide +kernel) (by decide +kernel) bw_332 bw_43 hsa atL_1 atL_2 nw_tab atL_3 hl.1 dX3_requireLetter_15 dX3_requireLetter_18 dX3_requireLetter_19 dX3_requireLetter_21 dX3_requireLetter_24 htab (by decide) (Nat.le_of_ble_eq_true rfl) (by decide) (by decide) hlk hQ)
  · refine lv_iload_n hx hb dX3_requireLetter_4 rfl (lv_at hl 1 rfl) ?_
    refine lv_aload_n hx hb dX3_requireLetter_5 rfl (lv_at hl 0 rfl) ?_
    refine rb_get (v := .ref (ad 3)) S wb 0 (by omega) rfl rfl in3 3 (by decide) bw_129 rfl dX3_requireLetter_6 ?_
    refine rb_getN (v := .int (nI mn)) S wb 3 (by omega) rfl rfl in2 1 (by decide) (rc_nw wb nw_12) rfl dX3_requireLetter_9 ?_
    refine lv_icmp_lt (tgt := 25) hx hb dX3_requireLetter_12 (by decide) (fun h12 => absurd h12 (Int32.not_lt.mpr (hx0.resolve_left h1))) (fun h12 => ?_)
    exact (wb.2.2.2.2.2.2.2.2.2.2.2.1).elim (fun sa hsa => rx_throw S wb hlt (text := "there is no such letter") (names := ["java/lang/RuntimeException", "java/lang/Exception"]) (by decide +kernel) (by decide +kernel) bw_332 bw_43 hsa atL_1 atL_2 nw_tab atL_3 hl.1 dX3_requireLetter_15 dX3_requireLetter_18 dX3_requireLetter_19 dX3_requireLetter_21 dX3_requireLetter_24 htab (by decide) (Nat.le_of_ble_eq_true rfl) (by decide) (by decide) hlk hQ)

set_option maxHeartbeats 4000000 in
set_option maxRecDepth 100000 in
theorem x_worth1a (l : Launch) (hlt : l.stackTraces = false) (D : va_G) (cI cC cD : ClassId) (ad : Nat → Nat) (n ph mn : Nat) (ar : Nat → Nat → Int32) (x y z : Int32) (hn : n ≤ 6) (hn2 : 2 ≤ n) (hx0 : x < 0 ∨ nI n ≤ x) : RX l yX3_worth cX3_worth 6 none ({ frames := 7, cells := 1, slots := 6, locals := 102 }) D (ty3 cI cC cD) ENC [.ref (ad 0), .int x, .int y, .int z] ad (4 * n + 6) (cE ad cI cC cD n ph mn ar) "java/lang/IllegalArgumentException" := by
  refine RX.of (by decide) (Nat.le_of_ble_eq_true rfl) ?_
  intro p e s m below meth c0 A ls args Q0 S htab hlk hQ wb hl
  have hx := S.1
  have hb := S.2.1
  have hl : lv_has ls 6 [(0, .ref (ad 0)), (1, .int x), (2, .int y), (3, .int z)] := hl
  refine lv_aload_n hx hb dX3_worth_0 rfl (lv_at hl 0 rfl) ?_
  refine lv_iload_n hx hb dX3_worth_1 rfl (lv_at hl 1 rfl) ?_
  refine rb_callV S wb ENC_ok (k_isIndex l D cI cC cD ad n ph mn ar x hn hn2 (nI 0) (tells_f (fun q => q hx0))) (bw5 bw_169 bw_171 bw_1 bw_32 bw_172) (rb_recv wb 0 (by omega) rfl rfl) hdX3_isIndex rfl ⟨rfl, rfl⟩ ⟨by decide, by decide⟩ hl.1 (Nat.le_of_ble_eq_true rfl) ⟨Nat.zero_le _, Nat.zero_le _⟩ (rest := []) (st1 := [.int (nI 0)]) rfl rfl dX3_worth_2 (fun H locs wb => ?_)
  refine lv_if_eq (tgt := 20) hx hb dX3_worth_5 (by decide) (fun h5 => ?_) (fun h5 => absurd (by decide) h5)
  refine lv_iconst (v := nI 0) hx hb dX3_worth_20 (by decide) ?_
  exact rx_callS S wb ENC_ok (x_reqA l hlt D cI cC cD ad n ph mn ar hn hn2) (bw4 bw_173 bw_174 bw_32 bw_175) hdX3_requireArgument rfl ⟨rfl, rfl⟩ ⟨by decide, by decide⟩ hl.1 (Nat.le_of_ble_eq_true rfl) ⟨by decide, by decide⟩ (rest := []) rfl dX3_worth_21 hlk htab hQ

set_option maxHeartbeats 4000000 in
set_option maxRecDepth 100000 in
theorem x_worth1b (l : Launch) (hlt : l.stackTraces = false) (D : va_G) (cI cC cD : ClassId) (ad : Nat → Nat) (n ph mn : Nat) (ar : Nat → Nat → Int32) (x y z : Int32) (hn : n ≤ 6) (hn2 : 2 ≤ n) (hx0 : ¬ (x < 0 ∨ nI n ≤ x)) (hy0 : y < 0 ∨ nI n ≤ y) : RX l yX3_worth cX3_worth 6 none ({ frames := 7, cells := 1, slots := 6, locals := 102 }) D (ty3 cI cC cD) ENC [.ref (ad 0), .int x, .int y, .int z] ad (4 * n + 6) (cE ad cI cC cD n ph mn ar) "java/lang/IllegalArgumentException" := by
  refine RX.of (by decide) (Nat.le_of_ble_eq_true rfl) ?_
  intro p e s m below meth c0 A ls args Q0 S htab hlk hQ wb hl
  have hx := S.1
  have hb := S.2.1
  have hl : lv_has ls 6 [(0, .ref (ad 0)), (1, .int x), (2, .int y), (3, .int z)] := hl
  refine lv_aload_n hx hb dX3_worth_0 rfl (lv_at hl 0 rfl) ?_
  refine lv_iload_n hx hb dX3_worth_1 rfl (lv_at hl 1 rfl) ?_
  refine rb_callV S wb ENC_ok (k_isIndex l D cI cC cD ad n ph mn ar x hn hn2 (nI 1) (tells_t hx0)) (bw5 bw_169 bw_171 bw_1 bw_32 bw_172) (rb_recv wb 0 (by omega) rfl rfl) hdX3_isIndex rfl ⟨rfl, rfl⟩ ⟨by decide, by decide⟩ hl.1 (Nat.le_of_ble_eq_true rfl) ⟨Nat.zero_le _, Nat.zero_le _⟩ (rest := []) (st1 := [.int (nI 1)]) rfl rfl dX3_worth_2 (fun H locs wb => ?_)
  refine lv_if_eq (tgt := 20) hx hb dX3_worth_5 (by decide) (fun h5 => absurd h5 (by decide)) (fun h5 => ?_)
  refine lv_aload_n hx hb dX3_worth_8 rfl (lv_at hl 0 rfl) ?_
  refine lv_iload_n hx hb dX3_worth_9 rfl (lv_at hl 2 rfl) ?_
  refine rb_callV S wb ENC_ok (k_isIndex l D cI cC cD ad n ph mn ar y hn hn2 (nI 0) (tells_f (fun q => q hy0))) (bw5 bw_169 bw_171 bw_1 bw_32 bw_172) (rb_recv wb 0 (by omega) rfl rfl) hdX3_isIndex rfl ⟨rfl, rfl⟩ ⟨by decide, by decide⟩ hl.1 (Nat.le_of_ble_eq_true rfl) ⟨Nat.zero_le _, Nat.zero_le _⟩ (rest := []) (st1 := [.int (nI 0)]) rfl rfl dX3_worth_10 (fun H locs wb => ?_)
  refine lv_if_eq (tgt := 20) hx hb dX3_worth_13 (by decide) (fun h13 => ?_) (fun h13 => absurd (by decide) h13)
  refine lv_iconst (v := nI 0) hx hb dX3_worth_20 (by decide) ?_
  exact rx_callS S wb ENC_ok (x_reqA l hlt D cI cC cD ad n ph mn ar hn hn2) (bw4 bw_173 bw_174 bw_32 bw_175) hdX3_requireArgument rfl ⟨rfl, rfl⟩ ⟨by decide, by decide⟩ hl.1 (Nat.le_of_ble_eq_true rfl) ⟨by decide, by decide⟩ (rest := []) rfl dX3_worth_21 hlk htab hQ

set_option maxHeartbeats 4000000 in
set_option maxRecDepth 100000 in
theorem x_worth1c (l : Launch) (hlt : l.stackTraces = false) (D : va_G) (cI cC cD : ClassId) (ad : Nat → Nat) (n ph mn : Nat) (ar : Nat → Nat → Int32) (x y z : Int32) (hn : n ≤ 6) (hn2 : 2 ≤ n) (hx0 : ¬ (x < 0 ∨ nI n ≤ x)) (hy0 : ¬ (y < 0 ∨ nI n ≤ y)) (hz0 : z < 0 ∨ nI 1000 < z) : RX l yX3_worth cX3_worth 6 none ({ frames := 7, cells := 1, slots := 6, locals := 102 }) D (ty3 cI cC cD) ENC [.ref (ad 0), .int x, .int y, .int z] ad (4 * n + 6) (cE ad cI cC cD n ph mn ar) "java/lang/IllegalArgumentException" := by
  refine RX.of (by decide) (Nat.le_of_ble_eq_true rfl) ?_
  intro p e s m below meth c0 A ls args Q0 S htab hlk hQ wb hl
  have hx := S.1
  have hb := S.2.1
  have hl : lv_has ls 6 [(0, .ref (ad 0)), (1, .int x), (2, .int y), (3, .int z)] := hl
  refine lv_aload_n hx hb dX3_worth_0 rfl (lv_at hl 0 rfl) ?_
  refine lv_iload_n hx hb dX3_worth_1 rfl (lv_at hl 1 rfl) ?_
  refine rb_callV S wb ENC_ok (k_isIndex l D cI cC cD ad n ph mn ar x hn hn2 (nI 1) (tells_t hx0)) (bw5 bw_169 bw_171 bw_1 bw_32 bw_172) (rb_recv wb 0 (by omega) rfl rfl) hdX3_isIndex rfl ⟨rfl, rfl⟩ ⟨by decide, by decide⟩ hl.1 (Nat.le_of_ble_eq_true rfl) ⟨Nat.zero_le _, Nat.zero_le _⟩ (rest := []) (st1 := [.int (nI 1)]) rfl rfl dX3_worth_2 (fun H locs wb => ?_)
  refine lv_if_eq (tgt := 20) hx hb dX3_worth_5 (by decide) (fun h5 => absurd h5 (by decide)) (fun h5 => ?_)
  refine lv_aload_n hx hb dX3_worth_8 rfl (lv_at hl 0 rfl) ?_
  refine lv_iload_n hx hb dX3_worth_9 rfl (lv_at hl 2 rfl) ?_
  refine rb_callV S wb ENC_ok (k_isIndex l D cI cC cD ad n ph mn ar y hn hn2 (nI 1) (tells_t hy0)) (bw5 bw_169 bw_171 bw_1 bw_32 bw_172) (rb_recv wb 0 (by omega) rfl rfl) hdX3_isIndex rfl ⟨rfl, rfl⟩ ⟨by decide, by decide⟩ hl.1 (Nat.le_of_ble_eq_true rfl) ⟨Nat.zero_le _, Nat.zero_le _⟩ (rest := []) (st1 := [.int (nI 1)]) rfl rfl dX3_worth_10 (fun H locs wb => ?_)
  refine lv_if_eq (tgt := 20) hx hb dX3_worth_13 (by decide) (fun h13 => absurd h13 (by decide)) (fun h13 => ?_)
  refine lv_iconst (v := nI 1) hx hb dX3_worth_16 (by decide) ?_
  refine lv_goto (tgt := 21) hx hb dX3_worth_17 (by decide) ?_
  refine rb_callS S wb ENC_ok (k_reqA l D cI cC cD ad n ph mn ar hn hn2) (bw4 bw_173 bw_174 bw_32 bw_175) hdX3_requireArgument rfl ⟨rfl, rfl⟩ ⟨by decide, by decide⟩ hl.1 (Nat.le_of_ble_eq_true rfl) ⟨Nat.zero_le _, Nat.zero_le _⟩ (rest := []) (st1 := []) rfl rfl dX3_worth_21 (fun H locs wb => ?_)
  refine lv_iload_n hx hb dX3_worth_24 rfl (lv_at hl 3 rfl) ?_
  refine lv_if_lt (tgt := 39) hx hb dX3_worth_25 (by decide) (fun h25 => ?_) (fun h25 => ?_)
  · refine lv_iconst (v := nI 0) hx hb dX3_worth_39 (by decide) ?_
    exact rx_callS S wb ENC_ok (x_reqA l hlt D cI cC cD ad n ph mn ar hn hn2) (bw4 bw_173 bw_174 bw_32 bw_175) hdX3_requireArgument rfl ⟨rfl, rfl⟩ ⟨by decide, by decide⟩ hl.1 (Nat.le_of_ble_eq_true rfl) ⟨by decide, by decide⟩ (rest := []) rfl dX3_worth_40 hlk htab hQ
  · refine lv_iload_n hx hb dX3_worth_28 rfl (lv_at hl 3 rfl) ?_
    refine lv_sipush (v := nI 1000) hx hb dX3_worth_29 (by decide) ?_
    refine lv_icmp_gt (tgt := 39) hx hb dX3_worth_32 (by decide) (fun h32 => ?_) (fun h32 => absurd (hz0.resolve_left h25) h32)
    refine lv_iconst (v := nI 0) hx hb dX3_worth_39 (by decide) ?_
    exact rx_callS S wb ENC_ok (x_reqA l hlt D cI cC cD ad n ph mn ar hn hn2) (bw4 bw_173 bw_174 bw_32 bw_175) hdX3_requireArgument rfl ⟨rfl, rfl⟩ ⟨by decide, by decide⟩ hl.1 (Nat.le_of_ble_eq_true rfl) ⟨by decide, by decide⟩ (rest := []) rfl dX3_worth_40 hlk htab hQ

set_option maxHeartbeats 4000000 in
set_option maxRecDepth 100000 in
theorem x_worth2 (l : Launch) (hlt : l.stackTraces = false) (D : va_G) (cI cC cD : ClassId) (ad : Nat → Nat) (n ph mn : Nat) (ar : Nat → Nat → Int32) (c j : Nat) (z : Int32) (hn : n ≤ 6) (hn2 : 2 ≤ n) (hc : c < n) (hj : j < n) (hz1 : ¬ z < 0) (hz2 : z ≤ nI 1000) (hph : ph ≤ 3) (hT : HTn ar n) (hs : 0 < ar 11 0) (hd : ¬ (ph = 3 ∧ stl ar n)) : RX l yX3_worth cX3_worth 6 none ({ frames := 7, cells := 1, slots := 6, locals := 102 }) D (ty3 cI cC cD) ENC [.ref (ad 0), .int (nI c), .int (nI j), .int z] ad (4 * n + 6) (cE ad cI cC cD n ph mn ar) "java/lang/IllegalStateException" := by
  refine RX.of (by decide) (Nat.le_of_ble_eq_true rfl) ?_
  intro p e s m below meth c0 A ls args Q0 S htab hlk hQ wb hl
  have hx := S.1
  have hb := S.2.1
  have hl : lv_has ls 6 [(0, .ref (ad 0)), (1, .int (nI c)), (2, .int (nI j)), (3, .int z)] := hl
  refine lv_aload_n hx hb dX3_worth_0 rfl (lv_at hl 0 rfl) ?_
  refine lv_iload_n hx hb dX3_worth_1 rfl (lv_at hl 1 rfl) ?_
  refine rb_callV S wb ENC_ok (k_isIndex l D cI cC cD ad n ph mn ar (nI c) hn hn2 (nI 1) (tells_t (no_f (by omega) (by omega)))) (bw5 bw_169 bw_171 bw_1 bw_32 bw_172) (rb_recv wb 0 (by omega) rfl rfl) hdX3_isIndex rfl ⟨rfl, rfl⟩ ⟨by decide, by decide⟩ hl.1 (Nat.le_of_ble_eq_true rfl) ⟨Nat.zero_le _, Nat.zero_le _⟩ (rest := []) (st1 := [.int (nI 1)]) rfl rfl dX3_worth_2 (fun H locs wb => ?_)
  refine lv_if_eq (tgt := 20) hx hb dX3_worth_5 (by decide) (fun h5 => absurd h5 (by decide)) (fun h5 => ?_)
  refine lv_aload_n hx hb dX3_worth_8 rfl (lv_at hl 0 rfl) ?_
  refine lv_iload_n hx hb dX3_worth_9 rfl (lv_at hl 2 rfl) ?_
  refine rb_callV S wb ENC_ok (k_isIndex l D cI cC cD ad n ph mn ar (nI j) hn hn2 (nI 1) (tells_t (no_f (by omega) (by omega)))) (bw5 bw_169 bw_171 bw_1 bw_32 bw_172) (rb_recv wb 0 (by omega) rfl rfl) hdX3_isIndex rfl ⟨rfl, rfl⟩ ⟨by decide, by decide⟩ hl.1 (Nat.le_of_ble_eq_true rfl) ⟨Nat.zero_le _, Nat.zero_le _⟩ (rest := []) (st1 := [.int (nI 1)]) rfl rfl dX3_worth_10 (fun H locs wb => ?_)
  refine lv_if_eq (tgt := 20) hx hb dX3_worth_13 (by decide) (fun h13 => absurd h13 (by decide)) (fun h13 => ?_)
  refine lv_iconst (v := nI 1) hx hb dX3_worth_16 (by decide) ?_
  refine lv_goto (tgt := 21) hx hb dX3_worth_17 (by decide) ?_
  refine rb_callS S wb ENC_ok (k_reqA l D cI cC cD ad n ph mn ar hn hn2) (bw4 bw_173 bw_174 bw_32 bw_175) hdX3_requireArgument rfl ⟨rfl, rfl⟩ ⟨by decide, by decide⟩ hl.1 (Nat.le_of_ble_eq_true rfl) ⟨Nat.zero_le _, Nat.zero_le _⟩ (rest := []) (st1 := []) rfl rfl dX3_worth_21 (fun H locs wb => ?_)
  refine lv_iload_n hx hb dX3_worth_24 rfl (lv_at hl 3 rfl) ?_
  refine lv_if_lt (tgt := 39) hx hb dX3_worth_25 (by decide) (fun h25 => absurd h25 hz1) (fun h25 => ?_)
  refine lv_iload_n hx hb dX3_worth_28 rfl (lv_at hl 3 rfl) ?_
  refine lv_sipush (v := nI 1000) hx hb dX3_worth_29 (by decide) ?_
  refine lv_icmp_gt (tgt := 39) hx hb dX3_worth_32 (by decide) (fun h32 => absurd h32 (Int32.not_lt.mpr hz2)) (fun h32 => ?_)
  refine lv_iconst (v := nI 1) hx hb dX3_worth_35 (by decide) ?_
  refine lv_goto (tgt := 40) hx hb dX3_worth_36 (by decide) ?_
  refine rb_callS S wb ENC_ok (k_reqA l D cI cC cD ad n ph mn ar hn hn2) (bw4 bw_173 bw_174 bw_32 bw_175) hdX3_requireArgument rfl ⟨rfl, rfl⟩ ⟨by decide, by decide⟩ hl.1 (Nat.le_of_ble_eq_true rfl) ⟨Nat.zero_le _, Nat.zero_le _⟩ (rest := []) (st1 := []) rfl rfl dX3_worth_40 (fun H locs wb => ?_)
  refine lv_aload_n hx hb dX3_worth_43 rfl (lv_at hl 0 rfl) ?_
  refine rb_get (v := .ref (ad 5)) S wb 0 (by omega) rfl rfl in3 4 (by decide) bw_130 rfl dX3_worth_44 ?_
  refine lv_iconst (v := nI 0) hx hb dX3_worth_47 (by decide) ?_
  refine rb_ald (n := 4) (f := ar 11) (x := ar 11 0) S wb 5 (by omega) rfl 0 rfl 0 (by omega) (by decide) rfl dX3_worth_48 ?_
  refine lv_if_le (tgt := 56) hx hb dX3_worth_49 (by decide) (fun h49 => absurd h49 (Int32.not_le.mpr hs)) (fun h49 => ?_)
  refine lv_iconst (v := nI 1) hx hb dX3_worth_52 (by decide) ?_
  refine lv_goto (tgt := 57) hx hb dX3_worth_53 (by decide) ?_
  refine lv_istore (lv' := [(4, .int (nI 1)), (0, .ref (ad 0)), (1, .int (nI c)), (2, .int (nI j)), (3, .int z)]) hx hb dX3_worth_57 hl (by decide) rfl (fun ls hl => ?_)
  refine lv_iload hx hb dX3_worth_59 (lv_at hl 0 rfl) ?_
  refine lv_if_eq (tgt := 71) hx hb dX3_worth_61 (by decide) (fun h61 => absurd h61 (by decide)) (fun h61 => ?_)
  refine lv_aload_n hx hb dX3_worth_64 rfl (lv_at hl 1 rfl) ?_
  refine rb_callV S wb ENC_ok (k_isDone l D cI cC cD ad n ph mn ar hn hn2 hT hph (nI 0) (tells_f hd)) (bw5 bw_244 bw_246 bw_3 bw_32 bw_247) (rb_recv wb 0 (by omega) rfl rfl) hdX3_isDone rfl ⟨rfl, rfl⟩ ⟨by decide, by decide⟩ hl.1 (Nat.le_of_ble_eq_true rfl) ⟨Nat.zero_le _, Nat.zero_le _⟩ (rest := []) (st1 := [.int (nI 0)]) rfl rfl dX3_worth_65 (fun H locs wb => ?_)
  refine lv_if_eq (tgt := 75) hx hb dX3_worth_68 (by decide) (fun h68 => ?_) (fun h68 => absurd (by decide) h68)
  refine lv_iconst (v := nI 0) hx hb dX3_worth_75 (by decide) ?_
  exact rx_callS S wb ENC_ok (x_reqS l hlt D cI cC cD ad n ph mn ar hn hn2) (bw4 bw_249 bw_250 bw_32 bw_251) hdX3_requireState rfl ⟨rfl, rfl⟩ ⟨by decide, by decide⟩ hl.1 (Nat.le_of_ble_eq_true rfl) ⟨by decide, by decide⟩ (rest := []) rfl dX3_worth_76 hlk htab hQ

set_option maxHeartbeats 4000000 in
set_option maxRecDepth 100000 in
theorem x_act1 (l : Launch) (hlt : l.stackTraces = false) (D : va_G) (cI cC cD : ClassId) (ad : Nat → Nat) (n ph mn : Nat) (ar : Nat → Nat → Int32) (x : Int32) (hn : n ≤ 6) (hn2 : 2 ≤ n) (hx0 : x < 0 ∨ nI n ≤ x) : RX l yX3_act cX3_act 3 (some .int) ({ frames := 7, cells := 1, slots := 6, locals := 102 }) D (ty3 cI cC cD) ENC [.ref (ad 0), .int x] ad (4 * n + 6) (cE ad cI cC cD n ph mn ar) "java/lang/IllegalArgumentException" := by
  refine RX.of (by decide) (Nat.le_of_ble_eq_true rfl) ?_
  intro p e s m below meth c0 A ls args Q0 S htab hlk hQ wb hl
  have hx := S.1
  have hb := S.2.1
  have hl : lv_has ls 3 [(0, .ref (ad 0)), (1, .int x)] := hl
  refine lv_aload_n hx hb dX3_act_0 rfl (lv_at hl 0 rfl) ?_
  refine lv_iload_n hx hb dX3_act_1 rfl (lv_at hl 1 rfl) ?_
  refine rb_callV S wb ENC_ok (k_isIndex l D cI cC cD ad n ph mn ar x hn hn2 (nI 0) (tells_f (fun q => q hx0))) (bw5 bw_169 bw_171 bw_1 bw_32 bw_172) (rb_recv wb 0 (by omega) rfl rfl) hdX3_isIndex rfl ⟨rfl, rfl⟩ ⟨by decide, by decide⟩ hl.1 (Nat.le_of_ble_eq_true rfl) ⟨Nat.zero_le _, Nat.zero_le _⟩ (rest := []) (st1 := [.int (nI 0)]) rfl rfl dX3_act_2 (fun H locs wb => ?_)
  exact rx_callS S wb ENC_ok (x_reqA l hlt D cI cC cD ad n ph mn ar hn hn2) (bw4 bw_173 bw_174 bw_32 bw_175) hdX3_requireArgument rfl ⟨rfl, rfl⟩ ⟨by decide, by decide⟩ hl.1 (Nat.le_of_ble_eq_true rfl) ⟨by decide, by decide⟩ (rest := []) rfl dX3_act_5 hlk htab hQ

set_option maxHeartbeats 4000000 in
set_option maxRecDepth 100000 in
theorem x_act2 (l : Launch) (hlt : l.stackTraces = false) (D : va_G) (cI cC cD : ClassId) (ad : Nat → Nat) (n ph mn : Nat) (ar : Nat → Nat → Int32) (c : Nat) (hn : n ≤ 6) (hn2 : 2 ≤ n) (hc : c < n) (hmn : mn < 2 ^ 31) (h2 : ¬ ar 6 c = 0 ∨ 39 < mn) : RX l yX3_act cX3_act 3 (some .int) ({ frames := 7, cells := 1, slots := 6, locals := 102 }) D (ty3 cI cC cD) ENC [.ref (ad 0), .int (nI c)] ad (4 * n + 6) (cE ad cI cC cD n ph mn ar) "java/lang/IllegalStateException" := by
  refine RX.of (by decide) (Nat.le_of_ble_eq_true rfl) ?_
  intro p e s m below meth c0 A ls args Q0 S htab hlk hQ wb hl
  have hx := S.1
  have hb := S.2.1
  have hl : lv_has ls 3 [(0, .ref (ad 0)), (1, .int (nI c))] := hl
  refine lv_aload_n hx hb dX3_act_0 rfl (lv_at hl 0 rfl) ?_
  refine lv_iload_n hx hb dX3_act_1 rfl (lv_at hl 1 rfl) ?_
  refine rb_callV S wb ENC_ok (k_isIndex l D cI cC cD ad n ph mn ar (nI c) hn hn2 (nI 1) (tells_t (no_f (by omega) (by omega)))) (bw5 bw_169 bw_171 bw_1 bw_32 bw_172) (rb_recv wb 0 (by omega) rfl rfl) hdX3_isIndex rfl ⟨rfl, rfl⟩ ⟨by decide, by decide⟩ hl.1 (Nat.le_of_ble_eq_true rfl) ⟨Nat.zero_le _, Nat.zero_le _⟩ (rest := []) (st1 := [.int (nI 1)]) rfl rfl dX3_act_2 (fun H locs wb => ?_)
  refine rb_callS S wb ENC_ok (k_reqA l D cI cC cD ad n ph mn ar hn hn2) (bw4 bw_173 bw_174 bw_32 bw_175) hdX3_requireArgument rfl ⟨rfl, rfl⟩ ⟨by decide, by decide⟩ hl.1 (Nat.le_of_ble_eq_true rfl) ⟨Nat.zero_le _, Nat.zero_le _⟩ (rest := []) (st1 := []) rfl rfl dX3_act_5 (fun H locs wb => ?_)
  refine lv_aload_n hx hb dX3_act_8 rfl (lv_at hl 0 rfl) ?_
  refine rb_get (v := .ref (ad 1)) S wb 0 (by omega) rfl rfl in3 1 (by decide) bw_127 rfl dX3_act_9 ?_
  refine lv_iload_n hx hb dX3_act_12 rfl (lv_at hl 1 rfl) ?_
  refine rb_aald (n := n) (a := ad (4 * c + 6)) S wb 1 (by omega) rfl 1 rfl c (by omega) (by omega) rfl dX3_act_13 ?_
  refine lv_astore_n (lv' := [(2, .ref (ad (4 * c + 6))), (0, .ref (ad 0)), (1, .int (nI c))]) hx hb dX3_act_14 rfl hl (by decide) rfl (fun ls hl => ?_)
  refine lv_aload_n hx hb dX3_act_15 rfl (lv_at hl 0 rfl) ?_
  refine rb_getN (v := .int (ar 6 c)) S wb (4 * c + 6) (by omega) (cE_crew c) rfl in0 2 (by decide) (rc_nw wb nw_3) rfl dX3_act_16 ?_
  refine lv_if_ne (tgt := 38) hx hb dX3_act_19 (by decide) (fun h19 => ?_) (fun h19 => ?_)
  · refine lv_iconst (v := nI 0) hx hb dX3_act_38 (by decide) ?_
    exact rx_callS S wb ENC_ok (x_reqS l hlt D cI cC cD ad n ph mn ar hn hn2) (bw4 bw_249 bw_250 bw_32 bw_251) hdX3_requireState rfl ⟨rfl, rfl⟩ ⟨by decide, by decide⟩ hl.1 (Nat.le_of_ble_eq_true rfl) ⟨by decide, by decide⟩ (rest := []) rfl dX3_act_39 hlk htab hQ
  · have hm : 40 ≤ mn := by
      rcases h2 with q | q
      · exact absurd h19 q
      · omega
    refine lv_aload_n hx hb dX3_act_22 rfl (lv_at hl 1 rfl) ?_
    refine rb_get (v := .ref (ad 3)) S wb 0 (by omega) rfl rfl in3 3 (by decide) bw_129 rfl dX3_act_23 ?_
    refine rb_getN (v := .int (nI mn)) S wb 3 (by omega) rfl rfl in2 1 (by decide) (rc_nw wb nw_12) rfl dX3_act_26 ?_
    refine lv_bipush (v := nI 40) hx hb dX3_act_29 (by decide) ?_
    refine nb_icmp_ge (tgt := 38) hx hb dX3_act_31 (by decide) (by omega) (by omega) (fun h31 => ?_) (fun h31 => absurd h31 (by omega))
    refine lv_iconst (v := nI 0) hx hb dX3_act_38 (by decide) ?_
    exact rx_callS S wb ENC_ok (x_reqS l hlt D cI cC cD ad n ph mn ar hn hn2) (bw4 bw_249 bw_250 bw_32 bw_251) hdX3_requireState rfl ⟨rfl, rfl⟩ ⟨by decide, by decide⟩ hl.1 (Nat.le_of_ble_eq_true rfl) ⟨by decide, by decide⟩ (rest := []) rfl dX3_act_39 hlk htab hQ

set_option maxHeartbeats 4000000 in
set_option maxRecDepth 100000 in
theorem x_resend1 (l : Launch) (hlt : l.stackTraces = false) (D : va_G) (cI cC cD : ClassId) (ad : Nat → Nat) (n ph mn : Nat) (ar : Nat → Nat → Int32) (x : Int32) (hn : n ≤ 6) (hn2 : 2 ≤ n) (hx0 : x < 0 ∨ nI n ≤ x) : RX l yX3_resend cX3_resend 2 (some .int) ({ frames := 7, cells := 1, slots := 6, locals := 102 }) D (ty3 cI cC cD) ENC [.ref (ad 0), .int x] ad (4 * n + 6) (cE ad cI cC cD n ph mn ar) "java/lang/IllegalArgumentException" := by
  refine RX.of (by decide) (Nat.le_of_ble_eq_true rfl) ?_
  intro p e s m below meth c0 A ls args Q0 S htab hlk hQ wb hl
  have hx := S.1
  have hb := S.2.1
  have hl : lv_has ls 2 [(0, .ref (ad 0)), (1, .int x)] := hl
  refine lv_aload_n hx hb dX3_resend_0 rfl (lv_at hl 0 rfl) ?_
  refine lv_iload_n hx hb dX3_resend_1 rfl (lv_at hl 1 rfl) ?_
  refine rb_callV S wb ENC_ok (k_isIndex l D cI cC cD ad n ph mn ar x hn hn2 (nI 0) (tells_f (fun q => q hx0))) (bw5 bw_169 bw_171 bw_1 bw_32 bw_172) (rb_recv wb 0 (by omega) rfl rfl) hdX3_isIndex rfl ⟨rfl, rfl⟩ ⟨by decide, by decide⟩ hl.1 (Nat.le_of_ble_eq_true rfl) ⟨Nat.zero_le _, Nat.zero_le _⟩ (rest := []) (st1 := [.int (nI 0)]) rfl rfl dX3_resend_2 (fun H locs wb => ?_)
  exact rx_callS S wb ENC_ok (x_reqA l hlt D cI cC cD ad n ph mn ar hn hn2) (bw4 bw_173 bw_174 bw_32 bw_175) hdX3_requireArgument rfl ⟨rfl, rfl⟩ ⟨by decide, by decide⟩ hl.1 (Nat.le_of_ble_eq_true rfl) ⟨by decide, by decide⟩ (rest := []) rfl dX3_resend_5 hlk htab hQ

set_option maxHeartbeats 4000000 in
set_option maxRecDepth 100000 in
theorem x_resend2 (l : Launch) (hlt : l.stackTraces = false) (D : va_G) (cI cC cD : ClassId) (ad : Nat → Nat) (n ph mn : Nat) (ar : Nat → Nat → Int32) (c : Nat) (hn : n ≤ 6) (hn2 : 2 ≤ n) (hc : c < n) (hmn : mn < 2 ^ 31) (h2 : ar 6 c = 0 ∨ 39 < mn) : RX l yX3_resend cX3_resend 2 (some .int) ({ frames := 7, cells := 1, slots := 6, locals := 102 }) D (ty3 cI cC cD) ENC [.ref (ad 0), .int (nI c)] ad (4 * n + 6) (cE ad cI cC cD n ph mn ar) "java/lang/IllegalStateException" := by
  refine RX.of (by decide) (Nat.le_of_ble_eq_true rfl) ?_
  intro p e s m below meth c0 A ls args Q0 S htab hlk hQ wb hl
  have hx := S.1
  have hb := S.2.1
  have hl : lv_has ls 2 [(0, .ref (ad 0)), (1, .int (nI c))] := hl
  refine lv_aload_n hx hb dX3_resend_0 rfl (lv_at hl 0 rfl) ?_
  refine lv_iload_n hx hb dX3_resend_1 rfl (lv_at hl 1 rfl) ?_
  refine rb_callV S wb ENC_ok (k_isIndex l D cI cC cD ad n ph mn ar (nI c) hn hn2 (nI 1) (tells_t (no_f (by omega) (by omega)))) (bw5 bw_169 bw_171 bw_1 bw_32 bw_172) (rb_recv wb 0 (by omega) rfl rfl) hdX3_isIndex rfl ⟨rfl, rfl⟩ ⟨by decide, by decide⟩ hl.1 (Nat.le_of_ble_eq_true rfl) ⟨Nat.zero_le _, Nat.zero_le _⟩ (rest := []) (st1 := [.int (nI 1)]) rfl rfl dX3_resend_2 (fun H locs wb => ?_)
  refine rb_callS S wb ENC_ok (k_reqA l D cI cC cD ad n ph mn ar hn hn2) (bw4 bw_173 bw_174 bw_32 bw_175) hdX3_requireArgument rfl ⟨rfl, rfl⟩ ⟨by decide, by decide⟩ hl.1 (Nat.le_of_ble_eq_true rfl) ⟨Nat.zero_le _, Nat.zero_le _⟩ (rest := []) (st1 := []) rfl rfl dX3_resend_5 (fun H locs wb => ?_)
  refine lv_aload_n hx hb dX3_resend_8 rfl (lv_at hl 0 rfl) ?_
  refine rb_get (v := .ref (ad 1)) S wb 0 (by omega) rfl rfl in3 1 (by decide) bw_127 rfl dX3_resend_9 ?_
  refine lv_iload_n hx hb dX3_resend_12 rfl (lv_at hl 1 rfl) ?_
  refine rb_aald (n := n) (a := ad (4 * c + 6)) S wb 1 (by omega) rfl 1 rfl c (by omega) (by omega) rfl dX3_resend_13 ?_
  refine rb_getN (v := .int (ar 6 c)) S wb (4 * c + 6) (by omega) (cE_crew c) rfl in0 2 (by decide) (rc_nw wb nw_3) rfl dX3_resend_14 ?_
  refine lv_if_eq (tgt := 36) hx hb dX3_resend_17 (by decide) (fun h17 => ?_) (fun h17 => ?_)
  · refine lv_iconst (v := nI 0) hx hb dX3_resend_36 (by decide) ?_
    exact rx_callS S wb ENC_ok (x_reqS l hlt D cI cC cD ad n ph mn ar hn hn2) (bw4 bw_249 bw_250 bw_32 bw_251) hdX3_requireState rfl ⟨rfl, rfl⟩ ⟨by decide, by decide⟩ hl.1 (Nat.le_of_ble_eq_true rfl) ⟨by decide, by decide⟩ (rest := []) rfl dX3_resend_37 hlk htab hQ
  · have hm : 40 ≤ mn := by
      rcases h2 with q | q
      · exact absurd q h17
      · omega
    refine lv_aload_n hx hb dX3_resend_20 rfl (lv_at hl 0 rfl) ?_
    refine rb_get (v := .ref (ad 3)) S wb 0 (by omega) rfl rfl in3 3 (by decide) bw_129 rfl dX3_resend_21 ?_
    refine rb_getN (v := .int (nI mn)) S wb 3 (by omega) rfl rfl in2 1 (by decide) (rc_nw wb nw_12) rfl dX3_resend_24 ?_
    refine lv_bipush (v := nI 40) hx hb dX3_resend_27 (by decide) ?_
    refine nb_icmp_ge (tgt := 36) hx hb dX3_resend_29 (by decide) (by omega) (by omega) (fun h29 => ?_) (fun h29 => absurd h29 (by omega))
    refine lv_iconst (v := nI 0) hx hb dX3_resend_36 (by decide) ?_
    exact rx_callS S wb ENC_ok (x_reqS l hlt D cI cC cD ad n ph mn ar hn hn2) (bw4 bw_249 bw_250 bw_32 bw_251) hdX3_requireState rfl ⟨rfl, rfl⟩ ⟨by decide, by decide⟩ hl.1 (Nat.le_of_ble_eq_true rfl) ⟨by decide, by decide⟩ (rest := []) rfl dX3_resend_37 hlk htab hQ

set_option maxHeartbeats 4000000 in
set_option maxRecDepth 100000 in
theorem x_deliver (l : Launch) (hlt : l.stackTraces = false) (D : va_G) (cI cC cD : ClassId) (ad : Nat → Nat) (n ph mn : Nat) (ar : Nat → Nat → Int32) (x : Int32) (hn : n ≤ 6) (hn2 : 2 ≤ n) (hx0 : x < 0 ∨ nI mn ≤ x) : RX l yX3_deliver cX3_deliver 7 (some .int) ({ frames := 7, cells := 1, slots := 6, locals := 103 }) D (ty3 cI cC cD) ENC [.ref (ad 0), .int x] ad (4 * n + 6) (cE ad cI cC cD n ph mn ar) "java/lang/IndexOutOfBoundsException" := by
  refine RX.of (by decide) (Nat.le_of_ble_eq_true rfl) ?_
  intro p e s m below meth c0 A ls args Q0 S htab hlk hQ wb hl
  have hx := S.1
  have hb := S.2.1
  have hl : lv_has ls 7 [(0, .ref (ad 0)), (1, .int x)] := hl
  refine lv_aload_n hx hb dX3_deliver_0 rfl (lv_at hl 0 rfl) ?_
  refine lv_iload_n hx hb dX3_deliver_1 rfl (lv_at hl 1 rfl) ?_
  exact rx_callV S wb ENC_ok (x_reqL l hlt D cI cC cD ad n ph mn ar x hn hn2 hx0) (bw5 bw_328 bw_330 bw_13 bw_32 bw_331) (rb_recv wb 0 (by omega) rfl rfl) hdX3_requireLetter rfl ⟨rfl, rfl⟩ ⟨by decide, by decide⟩ hl.1 (Nat.le_of_ble_eq_true rfl) ⟨by decide, by decide⟩ (rest := []) rfl dX3_deliver_2 hlk htab hQ

set_option maxHeartbeats 4000000 in
set_option maxRecDepth 100000 in
theorem x_lose (l : Launch) (hlt : l.stackTraces = false) (D : va_G) (cI cC cD : ClassId) (ad : Nat → Nat) (n ph mn : Nat) (ar : Nat → Nat → Int32) (x : Int32) (hn : n ≤ 6) (hn2 : 2 ≤ n) (hx0 : x < 0 ∨ nI mn ≤ x) : RX l yX3_lose cX3_lose 2 (some .int) ({ frames := 7, cells := 1, slots := 6, locals := 103 }) D (ty3 cI cC cD) ENC [.ref (ad 0), .int x] ad (4 * n + 6) (cE ad cI cC cD n ph mn ar) "java/lang/IndexOutOfBoundsException" := by
  refine RX.of (by decide) (Nat.le_of_ble_eq_true rfl) ?_
  intro p e s m below meth c0 A ls args Q0 S htab hlk hQ wb hl
  have hx := S.1
  have hb := S.2.1
  have hl : lv_has ls 2 [(0, .ref (ad 0)), (1, .int x)] := hl
  refine lv_aload_n hx hb dX3_lose_0 rfl (lv_at hl 0 rfl) ?_
  refine lv_iload_n hx hb dX3_lose_1 rfl (lv_at hl 1 rfl) ?_
  exact rx_callV S wb ENC_ok (x_reqL l hlt D cI cC cD ad n ph mn ar x hn hn2 hx0) (bw5 bw_328 bw_330 bw_13 bw_32 bw_331) (rb_recv wb 0 (by omega) rfl rfl) hdX3_requireLetter rfl ⟨rfl, rfl⟩ ⟨by decide, by decide⟩ hl.1 (Nat.le_of_ble_eq_true rfl) ⟨by decide, by decide⟩ (rest := []) rfl dX3_lose_2 hlk htab hQ

set_option maxHeartbeats 4000000 in
set_option maxRecDepth 100000 in
theorem x_twin1 (l : Launch) (hlt : l.stackTraces = false) (D : va_G) (cI cC cD : ClassId) (ad : Nat → Nat) (n ph mn : Nat) (ar : Nat → Nat → Int32) (x : Int32) (hn : n ≤ 6) (hn2 : 2 ≤ n) (hx0 : x < 0 ∨ nI mn ≤ x) : RX l yX3_twin cX3_twin 2 (some .int) ({ frames := 7, cells := 1, slots := 6, locals := 103 }) D (ty3 cI cC cD) ENC [.ref (ad 0), .int x] ad (4 * n + 6) (cE ad cI cC cD n ph mn ar) "java/lang/IndexOutOfBoundsException" := by
  refine RX.of (by decide) (Nat.le_of_ble_eq_true rfl) ?_
  intro p e s m below meth c0 A ls args Q0 S htab hlk hQ wb hl
  have hx := S.1
  have hb := S.2.1
  have hl : lv_has ls 2 [(0, .ref (ad 0)), (1, .int x)] := hl
  refine lv_aload_n hx hb dX3_twin_0 rfl (lv_at hl 0 rfl) ?_
  refine lv_iload_n hx hb dX3_twin_1 rfl (lv_at hl 1 rfl) ?_
  exact rx_callV S wb ENC_ok (x_reqL l hlt D cI cC cD ad n ph mn ar x hn hn2 hx0) (bw5 bw_328 bw_330 bw_13 bw_32 bw_331) (rb_recv wb 0 (by omega) rfl rfl) hdX3_requireLetter rfl ⟨rfl, rfl⟩ ⟨by decide, by decide⟩ hl.1 (Nat.le_of_ble_eq_true rfl) ⟨by decide, by decide⟩ (rest := []) rfl dX3_twin_2 hlk htab hQ

set_option maxHeartbeats 4000000 in
set_option maxRecDepth 100000 in
theorem x_twin2 (l : Launch) (hlt : l.stackTraces = false) (D : va_G) (cI cC cD : ClassId) (ad : Nat → Nat) (n ph mn : Nat) (ar : Nat → Nat → Int32) (i : Nat) (hn : n ≤ 6) (hn2 : 2 ≤ n) (hm : mn ≤ 80) (hi : i < mn) (h2 : 39 < mn) : RX l yX3_twin cX3_twin 2 (some .int) ({ frames := 7, cells := 1, slots := 6, locals := 102 }) D (ty3 cI cC cD) ENC [.ref (ad 0), .int (nI i)] ad (4 * n + 6) (cE ad cI cC cD n ph mn ar) "java/lang/IllegalStateException" := by
  refine RX.of (by decide) (Nat.le_of_ble_eq_true rfl) ?_
  intro p e s m below meth c0 A ls args Q0 S htab hlk hQ wb hl
  have hx := S.1
  have hb := S.2.1
  have hl : lv_has ls 2 [(0, .ref (ad 0)), (1, .int (nI i))] := hl
  refine lv_aload_n hx hb dX3_twin_0 rfl (lv_at hl 0 rfl) ?_
  refine lv_iload_n hx hb dX3_twin_1 rfl (lv_at hl 1 rfl) ?_
  refine rb_callV S wb ENC_ok (k_reqL l D cI cC cD ad n ph mn ar i hn hn2 (by omega) (by omega)) (bw5 bw_328 bw_330 bw_13 bw_32 bw_331) (rb_recv wb 0 (by omega) rfl rfl) hdX3_requireLetter rfl ⟨rfl, rfl⟩ ⟨by decide, by decide⟩ hl.1 (Nat.le_of_ble_eq_true rfl) ⟨Nat.zero_le _, Nat.zero_le _⟩ (rest := []) (st1 := []) rfl rfl dX3_twin_2 (fun H locs wb => ?_)
  refine lv_aload_n hx hb dX3_twin_5 rfl (lv_at hl 0 rfl) ?_
  refine rb_get (v := .ref (ad 3)) S wb 0 (by omega) rfl rfl in3 3 (by decide) bw_129 rfl dX3_twin_6 ?_
  refine rb_getN (v := .int (nI mn)) S wb 3 (by omega) rfl rfl in2 1 (by decide) (rc_nw wb nw_12) rfl dX3_twin_9 ?_
  refine lv_bipush (v := nI 40) hx hb dX3_twin_12 (by decide) ?_
  refine nb_icmp_ge (tgt := 21) hx hb dX3_twin_14 (by decide) (by omega) (by omega) (fun h14 => ?_) (fun h14 => absurd h14 (by omega))
  refine lv_iconst (v := nI 0) hx hb dX3_twin_21 (by decide) ?_
  exact rx_callS S wb ENC_ok (x_reqS l hlt D cI cC cD ad n ph mn ar hn hn2) (bw4 bw_249 bw_250 bw_32 bw_251) hdX3_requireState rfl ⟨rfl, rfl⟩ ⟨by decide, by decide⟩ hl.1 (Nat.le_of_ble_eq_true rfl) ⟨by decide, by decide⟩ (rest := []) rfl dX3_twin_22 hlk htab hQ

set_option maxHeartbeats 4000000 in
set_option maxRecDepth 100000 in
theorem x_letter1 (l : Launch) (hlt : l.stackTraces = false) (D : va_G) (cI cC cD : ClassId) (ad : Nat → Nat) (n ph mn : Nat) (ar : Nat → Nat → Int32) (x y : Int32) (hn : n ≤ 6) (hn2 : 2 ≤ n) (hx0 : x < 0 ∨ nI mn ≤ x) : RX l yX3_letter cX3_letter 3 (some .int) ({ frames := 7, cells := 1, slots := 6, locals := 103 }) D (ty3 cI cC cD) ENC [.ref (ad 0), .int x, .int y] ad (4 * n + 6) (cE ad cI cC cD n ph mn ar) "java/lang/IndexOutOfBoundsException" := by
  refine RX.of (by decide) (Nat.le_of_ble_eq_true rfl) ?_
  intro p e s m below meth c0 A ls args Q0 S htab hlk hQ wb hl
  have hx := S.1
  have hb := S.2.1
  have hl : lv_has ls 3 [(0, .ref (ad 0)), (1, .int x), (2, .int y)] := hl
  refine lv_aload_n hx hb dX3_letter_0 rfl (lv_at hl 0 rfl) ?_
  refine lv_iload_n hx hb dX3_letter_1 rfl (lv_at hl 1 rfl) ?_
  exact rx_callV S wb ENC_ok (x_reqL l hlt D cI cC cD ad n ph mn ar x hn hn2 hx0) (bw5 bw_328 bw_330 bw_13 bw_32 bw_331) (rb_recv wb 0 (by omega) rfl rfl) hdX3_requireLetter rfl ⟨rfl, rfl⟩ ⟨by decide, by decide⟩ hl.1 (Nat.le_of_ble_eq_true rfl) ⟨by decide, by decide⟩ (rest := []) rfl dX3_letter_2 hlk htab hQ

set_option maxHeartbeats 4000000 in
set_option maxRecDepth 100000 in
theorem x_letter2 (l : Launch) (hlt : l.stackTraces = false) (D : va_G) (cI cC cD : ClassId) (ad : Nat → Nat) (n ph mn : Nat) (ar : Nat → Nat → Int32) (i : Nat) (y : Int32) (hn : n ≤ 6) (hn2 : 2 ≤ n) (hm : mn ≤ 80) (hi : i < mn) (hy : y < 0 ∨ nI 4 < y) : RX l yX3_letter cX3_letter 3 (some .int) ({ frames := 7, cells := 1, slots := 6, locals := 102 }) D (ty3 cI cC cD) ENC [.ref (ad 0), .int (nI i), .int y] ad (4 * n + 6) (cE ad cI cC cD n ph mn ar) "java/lang/IllegalArgumentException" := by
  refine RX.of (by decide) (Nat.le_of_ble_eq_true rfl) ?_
  intro p e s m below meth c0 A ls args Q0 S htab hlk hQ wb hl
  have hx := S.1
  have hb := S.2.1
  have hl : lv_has ls 3 [(0, .ref (ad 0)), (1, .int (nI i)), (2, .int y)] := hl
  refine lv_aload_n hx hb dX3_letter_0 rfl (lv_at hl 0 rfl) ?_
  refine lv_iload_n hx hb dX3_letter_1 rfl (lv_at hl 1 rfl) ?_
  refine rb_callV S wb ENC_ok (k_reqL l D cI cC cD ad n ph mn ar i hn hn2 (by omega) (by omega)) (bw5 bw_328 bw_330 bw_13 bw_32 bw_331) (rb_recv wb 0 (by omega) rfl rfl) hdX3_requireLetter rfl ⟨rfl, rfl⟩ ⟨by decide, by decide⟩ hl.1 (Nat.le_of_ble_eq_true rfl) ⟨Nat.zero_le _, Nat.zero_le _⟩ (rest := []) (st1 := []) rfl rfl dX3_letter_2 (fun H locs wb => ?_)
  refine lv_iload_n hx hb dX3_letter_5 rfl (lv_at hl 2 rfl) ?_
  refine lv_if_lt (tgt := 18) hx hb dX3_letter_6 (by decide) (fun h6 => ?_) (fun h6 => ?_)
  · refine lv_iconst (v := nI 0) hx hb dX3_letter_18 (by decide) ?_
    exact rx_callS S wb ENC_ok (x_reqA l hlt D cI cC cD ad n ph mn ar hn hn2) (bw4 bw_173 bw_174 bw_32 bw_175) hdX3_requireArgument rfl ⟨rfl, rfl⟩ ⟨by decide, by decide⟩ hl.1 (Nat.le_of_ble_eq_true rfl) ⟨by decide, by decide⟩ (rest := []) rfl dX3_letter_19 hlk htab hQ
  · refine lv_iload_n hx hb dX3_letter_9 rfl (lv_at hl 2 rfl) ?_
    refine lv_iconst (v := nI 5) hx hb dX3_letter_10 (by decide) ?_
    refine lv_icmp_ge (tgt := 18) hx hb dX3_letter_11 (by decide) (fun h11 => ?_) (fun h11 => absurd (ge5 (hy.resolve_left h6)) h11)
    refine lv_iconst (v := nI 0) hx hb dX3_letter_18 (by decide) ?_
    exact rx_callS S wb ENC_ok (x_reqA l hlt D cI cC cD ad n ph mn ar hn hn2) (bw4 bw_173 bw_174 bw_32 bw_175) hdX3_requireArgument rfl ⟨rfl, rfl⟩ ⟨by decide, by decide⟩ hl.1 (Nat.le_of_ble_eq_true rfl) ⟨by decide, by decide⟩ (rest := []) rfl dX3_letter_19 hlk htab hQ

set_option maxHeartbeats 4000000 in
set_option maxRecDepth 100000 in
theorem x_crew1 (l : Launch) (hlt : l.stackTraces = false) (D : va_G) (cI cC cD : ClassId) (ad : Nat → Nat) (n ph mn : Nat) (ar : Nat → Nat → Int32) (x y : Int32) (hn : n ≤ 6) (hn2 : 2 ≤ n) (hx0 : x < 0 ∨ nI n ≤ x) : RX l yX3_crew cX3_crew 4 (some .int) ({ frames := 7, cells := 1, slots := 6, locals := 102 }) D (ty3 cI cC cD) ENC [.ref (ad 0), .int x, .int y] ad (4 * n + 6) (cE ad cI cC cD n ph mn ar) "java/lang/IllegalArgumentException" := by
  refine RX.of (by decide) (Nat.le_of_ble_eq_true rfl) ?_
  intro p e s m below meth c0 A ls args Q0 S htab hlk hQ wb hl
  have hx := S.1
  have hb := S.2.1
  have hl : lv_has ls 4 [(0, .ref (ad 0)), (1, .int x), (2, .int y)] := hl
  refine lv_aload_n hx hb dX3_crew_0 rfl (lv_at hl 0 rfl) ?_
  refine lv_iload_n hx hb dX3_crew_1 rfl (lv_at hl 1 rfl) ?_
  refine rb_callV S wb ENC_ok (k_isIndex l D cI cC cD ad n ph mn ar x hn hn2 (nI 0) (tells_f (fun q => q hx0))) (bw5 bw_169 bw_171 bw_1 bw_32 bw_172) (rb_recv wb 0 (by omega) rfl rfl) hdX3_isIndex rfl ⟨rfl, rfl⟩ ⟨by decide, by decide⟩ hl.1 (Nat.le_of_ble_eq_true rfl) ⟨Nat.zero_le _, Nat.zero_le _⟩ (rest := []) (st1 := [.int (nI 0)]) rfl rfl dX3_crew_2 (fun H locs wb => ?_)
  refine lv_if_eq (tgt := 21) hx hb dX3_crew_5 (by decide) (fun h5 => ?_) (fun h5 => absurd (by decide) h5)
  refine lv_iconst (v := nI 0) hx hb dX3_crew_21 (by decide) ?_
  exact rx_callS S wb ENC_ok (x_reqA l hlt D cI cC cD ad n ph mn ar hn hn2) (bw4 bw_173 bw_174 bw_32 bw_175) hdX3_requireArgument rfl ⟨rfl, rfl⟩ ⟨by decide, by decide⟩ hl.1 (Nat.le_of_ble_eq_true rfl) ⟨by decide, by decide⟩ (rest := []) rfl dX3_crew_22 hlk htab hQ

set_option maxHeartbeats 4000000 in
set_option maxRecDepth 100000 in
theorem x_crew2 (l : Launch) (hlt : l.stackTraces = false) (D : va_G) (cI cC cD : ClassId) (ad : Nat → Nat) (n ph mn : Nat) (ar : Nat → Nat → Int32) (c : Nat) (y : Int32) (hn : n ≤ 6) (hn2 : 2 ≤ n) (hc : c < n) (hy : y < 0 ∨ nI 3 < y) : RX l yX3_crew cX3_crew 4 (some .int) ({ frames := 7, cells := 1, slots := 6, locals := 102 }) D (ty3 cI cC cD) ENC [.ref (ad 0), .int (nI c), .int y] ad (4 * n + 6) (cE ad cI cC cD n ph mn ar) "java/lang/IllegalArgumentException" := by
  refine RX.of (by decide) (Nat.le_of_ble_eq_true rfl) ?_
  intro p e s m below meth c0 A ls args Q0 S htab hlk hQ wb hl
  have hx := S.1
  have hb := S.2.1
  have hl : lv_has ls 4 [(0, .ref (ad 0)), (1, .int (nI c)), (2, .int y)] := hl
  refine lv_aload_n hx hb dX3_crew_0 rfl (lv_at hl 0 rfl) ?_
  refine lv_iload_n hx hb dX3_crew_1 rfl (lv_at hl 1 rfl) ?_
  refine rb_callV S wb ENC_ok (k_isIndex l D cI cC cD ad n ph mn ar (nI c) hn hn2 (nI 1) (tells_t (no_f (by omega) (by omega)))) (bw5 bw_169 bw_171 bw_1 bw_32 bw_172) (rb_recv wb 0 (by omega) rfl rfl) hdX3_isIndex rfl ⟨rfl, rfl⟩ ⟨by decide, by decide⟩ hl.1 (Nat.le_of_ble_eq_true rfl) ⟨Nat.zero_le _, Nat.zero_le _⟩ (rest := []) (st1 := [.int (nI 1)]) rfl rfl dX3_crew_2 (fun H locs wb => ?_)
  refine lv_if_eq (tgt := 21) hx hb dX3_crew_5 (by decide) (fun h5 => absurd h5 (by decide)) (fun h5 => ?_)
  refine lv_iload_n hx hb dX3_crew_8 rfl (lv_at hl 2 rfl) ?_
  refine lv_if_lt (tgt := 21) hx hb dX3_crew_9 (by decide) (fun h9 => ?_) (fun h9 => ?_)
  · refine lv_iconst (v := nI 0) hx hb dX3_crew_21 (by decide) ?_
    exact rx_callS S wb ENC_ok (x_reqA l hlt D cI cC cD ad n ph mn ar hn hn2) (bw4 bw_173 bw_174 bw_32 bw_175) hdX3_requireArgument rfl ⟨rfl, rfl⟩ ⟨by decide, by decide⟩ hl.1 (Nat.le_of_ble_eq_true rfl) ⟨by decide, by decide⟩ (rest := []) rfl dX3_crew_22 hlk htab hQ
  · refine lv_iload_n hx hb dX3_crew_12 rfl (lv_at hl 2 rfl) ?_
    refine lv_iconst (v := nI 3) hx hb dX3_crew_13 (by decide) ?_
    refine lv_icmp_gt (tgt := 21) hx hb dX3_crew_14 (by decide) (fun h14 => ?_) (fun h14 => absurd (hy.resolve_left h9) h14)
    refine lv_iconst (v := nI 0) hx hb dX3_crew_21 (by decide) ?_
    exact rx_callS S wb ENC_ok (x_reqA l hlt D cI cC cD ad n ph mn ar hn hn2) (bw4 bw_173 bw_174 bw_32 bw_175) hdX3_requireArgument rfl ⟨rfl, rfl⟩ ⟨by decide, by decide⟩ hl.1 (Nat.le_of_ble_eq_true rfl) ⟨by decide, by decide⟩ (rest := []) rfl dX3_crew_22 hlk htab hQ

set_option maxHeartbeats 4000000 in
set_option maxRecDepth 100000 in
theorem x_desk1 (l : Launch) (hlt : l.stackTraces = false) (D : va_G) (cI cC cD : ClassId) (ad : Nat → Nat) (n ph mn : Nat) (ar : Nat → Nat → Int32) (x y : Int32) (hn : n ≤ 6) (hn2 : 2 ≤ n) (hx0 : x < 0 ∨ nI n ≤ x) : RX l yX3_desk cX3_desk 4 (some .int) ({ frames := 7, cells := 1, slots := 6, locals := 102 }) D (ty3 cI cC cD) ENC [.ref (ad 0), .int x, .int y] ad (4 * n + 6) (cE ad cI cC cD n ph mn ar) "java/lang/IllegalArgumentException" := by
  refine RX.of (by decide) (Nat.le_of_ble_eq_true rfl) ?_
  intro p e s m below meth c0 A ls args Q0 S htab hlk hQ wb hl
  have hx := S.1
  have hb := S.2.1
  have hl : lv_has ls 4 [(0, .ref (ad 0)), (1, .int x), (2, .int y)] := hl
  refine lv_aload_n hx hb dX3_desk_0 rfl (lv_at hl 0 rfl) ?_
  refine lv_iload_n hx hb dX3_desk_1 rfl (lv_at hl 1 rfl) ?_
  refine rb_callV S wb ENC_ok (k_isIndex l D cI cC cD ad n ph mn ar x hn hn2 (nI 0) (tells_f (fun q => q hx0))) (bw5 bw_169 bw_171 bw_1 bw_32 bw_172) (rb_recv wb 0 (by omega) rfl rfl) hdX3_isIndex rfl ⟨rfl, rfl⟩ ⟨by decide, by decide⟩ hl.1 (Nat.le_of_ble_eq_true rfl) ⟨Nat.zero_le _, Nat.zero_le _⟩ (rest := []) (st1 := [.int (nI 0)]) rfl rfl dX3_desk_2 (fun H locs wb => ?_)
  refine lv_if_eq (tgt := 21) hx hb dX3_desk_5 (by decide) (fun h5 => ?_) (fun h5 => absurd (by decide) h5)
  refine lv_iconst (v := nI 0) hx hb dX3_desk_21 (by decide) ?_
  exact rx_callS S wb ENC_ok (x_reqA l hlt D cI cC cD ad n ph mn ar hn hn2) (bw4 bw_173 bw_174 bw_32 bw_175) hdX3_requireArgument rfl ⟨rfl, rfl⟩ ⟨by decide, by decide⟩ hl.1 (Nat.le_of_ble_eq_true rfl) ⟨by decide, by decide⟩ (rest := []) rfl dX3_desk_22 hlk htab hQ

set_option maxHeartbeats 4000000 in
set_option maxRecDepth 100000 in
theorem x_desk2 (l : Launch) (hlt : l.stackTraces = false) (D : va_G) (cI cC cD : ClassId) (ad : Nat → Nat) (n ph mn : Nat) (ar : Nat → Nat → Int32) (c : Nat) (y : Int32) (hn : n ≤ 6) (hn2 : 2 ≤ n) (hc : c < n) (hy : y < 0 ∨ nI 2 < y) : RX l yX3_desk cX3_desk 4 (some .int) ({ frames := 7, cells := 1, slots := 6, locals := 102 }) D (ty3 cI cC cD) ENC [.ref (ad 0), .int (nI c), .int y] ad (4 * n + 6) (cE ad cI cC cD n ph mn ar) "java/lang/IllegalArgumentException" := by
  refine RX.of (by decide) (Nat.le_of_ble_eq_true rfl) ?_
  intro p e s m below meth c0 A ls args Q0 S htab hlk hQ wb hl
  have hx := S.1
  have hb := S.2.1
  have hl : lv_has ls 4 [(0, .ref (ad 0)), (1, .int (nI c)), (2, .int y)] := hl
  refine lv_aload_n hx hb dX3_desk_0 rfl (lv_at hl 0 rfl) ?_
  refine lv_iload_n hx hb dX3_desk_1 rfl (lv_at hl 1 rfl) ?_
  refine rb_callV S wb ENC_ok (k_isIndex l D cI cC cD ad n ph mn ar (nI c) hn hn2 (nI 1) (tells_t (no_f (by omega) (by omega)))) (bw5 bw_169 bw_171 bw_1 bw_32 bw_172) (rb_recv wb 0 (by omega) rfl rfl) hdX3_isIndex rfl ⟨rfl, rfl⟩ ⟨by decide, by decide⟩ hl.1 (Nat.le_of_ble_eq_true rfl) ⟨Nat.zero_le _, Nat.zero_le _⟩ (rest := []) (st1 := [.int (nI 1)]) rfl rfl dX3_desk_2 (fun H locs wb => ?_)
  refine lv_if_eq (tgt := 21) hx hb dX3_desk_5 (by decide) (fun h5 => absurd h5 (by decide)) (fun h5 => ?_)
  refine lv_iload_n hx hb dX3_desk_8 rfl (lv_at hl 2 rfl) ?_
  refine lv_if_lt (tgt := 21) hx hb dX3_desk_9 (by decide) (fun h9 => ?_) (fun h9 => ?_)
  · refine lv_iconst (v := nI 0) hx hb dX3_desk_21 (by decide) ?_
    exact rx_callS S wb ENC_ok (x_reqA l hlt D cI cC cD ad n ph mn ar hn hn2) (bw4 bw_173 bw_174 bw_32 bw_175) hdX3_requireArgument rfl ⟨rfl, rfl⟩ ⟨by decide, by decide⟩ hl.1 (Nat.le_of_ble_eq_true rfl) ⟨by decide, by decide⟩ (rest := []) rfl dX3_desk_22 hlk htab hQ
  · refine lv_iload_n hx hb dX3_desk_12 rfl (lv_at hl 2 rfl) ?_
    refine lv_iconst (v := nI 2) hx hb dX3_desk_13 (by decide) ?_
    refine lv_icmp_gt (tgt := 21) hx hb dX3_desk_14 (by decide) (fun h14 => ?_) (fun h14 => absurd (hy.resolve_left h9) h14)
    refine lv_iconst (v := nI 0) hx hb dX3_desk_21 (by decide) ?_
    exact rx_callS S wb ENC_ok (x_reqA l hlt D cI cC cD ad n ph mn ar hn hn2) (bw4 bw_173 bw_174 bw_32 bw_175) hdX3_requireArgument rfl ⟨rfl, rfl⟩ ⟨by decide, by decide⟩ hl.1 (Nat.le_of_ble_eq_true rfl) ⟨by decide, by decide⟩ (rest := []) rfl dX3_desk_22 hlk htab hQ

set_option maxHeartbeats 4000000 in
set_option maxRecDepth 100000 in
theorem x_known1 (l : Launch) (hlt : l.stackTraces = false) (D : va_G) (cI cC cD : ClassId) (ad : Nat → Nat) (n ph mn : Nat) (ar : Nat → Nat → Int32) (x y : Int32) (hn : n ≤ 6) (hn2 : 2 ≤ n) (hx0 : x < 0 ∨ nI n ≤ x) : RX l yX3_known cX3_known 3 (some .int) ({ frames := 7, cells := 1, slots := 6, locals := 102 }) D (ty3 cI cC cD) ENC [.ref (ad 0), .int x, .int y] ad (4 * n + 6) (cE ad cI cC cD n ph mn ar) "java/lang/IllegalArgumentException" := by
  refine RX.of (by decide) (Nat.le_of_ble_eq_true rfl) ?_
  intro p e s m below meth c0 A ls args Q0 S htab hlk hQ wb hl
  have hx := S.1
  have hb := S.2.1
  have hl : lv_has ls 3 [(0, .ref (ad 0)), (1, .int x), (2, .int y)] := hl
  refine lv_aload_n hx hb dX3_known_0 rfl (lv_at hl 0 rfl) ?_
  refine lv_iload_n hx hb dX3_known_1 rfl (lv_at hl 1 rfl) ?_
  refine rb_callV S wb ENC_ok (k_isIndex l D cI cC cD ad n ph mn ar x hn hn2 (nI 0) (tells_f (fun q => q hx0))) (bw5 bw_169 bw_171 bw_1 bw_32 bw_172) (rb_recv wb 0 (by omega) rfl rfl) hdX3_isIndex rfl ⟨rfl, rfl⟩ ⟨by decide, by decide⟩ hl.1 (Nat.le_of_ble_eq_true rfl) ⟨Nat.zero_le _, Nat.zero_le _⟩ (rest := []) (st1 := [.int (nI 0)]) rfl rfl dX3_known_2 (fun H locs wb => ?_)
  refine lv_if_eq (tgt := 20) hx hb dX3_known_5 (by decide) (fun h5 => ?_) (fun h5 => absurd (by decide) h5)
  refine lv_iconst (v := nI 0) hx hb dX3_known_20 (by decide) ?_
  exact rx_callS S wb ENC_ok (x_reqA l hlt D cI cC cD ad n ph mn ar hn hn2) (bw4 bw_173 bw_174 bw_32 bw_175) hdX3_requireArgument rfl ⟨rfl, rfl⟩ ⟨by decide, by decide⟩ hl.1 (Nat.le_of_ble_eq_true rfl) ⟨by decide, by decide⟩ (rest := []) rfl dX3_known_21 hlk htab hQ

set_option maxHeartbeats 4000000 in
set_option maxRecDepth 100000 in
theorem x_known2 (l : Launch) (hlt : l.stackTraces = false) (D : va_G) (cI cC cD : ClassId) (ad : Nat → Nat) (n ph mn : Nat) (ar : Nat → Nat → Int32) (x y : Int32) (hn : n ≤ 6) (hn2 : 2 ≤ n) (hx0 : ¬ (x < 0 ∨ nI n ≤ x)) (hy0 : y < 0 ∨ nI n ≤ y) : RX l yX3_known cX3_known 3 (some .int) ({ frames := 7, cells := 1, slots := 6, locals := 102 }) D (ty3 cI cC cD) ENC [.ref (ad 0), .int x, .int y] ad (4 * n + 6) (cE ad cI cC cD n ph mn ar) "java/lang/IllegalArgumentException" := by
  refine RX.of (by decide) (Nat.le_of_ble_eq_true rfl) ?_
  intro p e s m below meth c0 A ls args Q0 S htab hlk hQ wb hl
  have hx := S.1
  have hb := S.2.1
  have hl : lv_has ls 3 [(0, .ref (ad 0)), (1, .int x), (2, .int y)] := hl
  refine lv_aload_n hx hb dX3_known_0 rfl (lv_at hl 0 rfl) ?_
  refine lv_iload_n hx hb dX3_known_1 rfl (lv_at hl 1 rfl) ?_
  refine rb_callV S wb ENC_ok (k_isIndex l D cI cC cD ad n ph mn ar x hn hn2 (nI 1) (tells_t hx0)) (bw5 bw_169 bw_171 bw_1 bw_32 bw_172) (rb_recv wb 0 (by omega) rfl rfl) hdX3_isIndex rfl ⟨rfl, rfl⟩ ⟨by decide, by decide⟩ hl.1 (Nat.le_of_ble_eq_true rfl) ⟨Nat.zero_le _, Nat.zero_le _⟩ (rest := []) (st1 := [.int (nI 1)]) rfl rfl dX3_known_2 (fun H locs wb => ?_)
  refine lv_if_eq (tgt := 20) hx hb dX3_known_5 (by decide) (fun h5 => absurd h5 (by decide)) (fun h5 => ?_)
  refine lv_aload_n hx hb dX3_known_8 rfl (lv_at hl 0 rfl) ?_
  refine lv_iload_n hx hb dX3_known_9 rfl (lv_at hl 2 rfl) ?_
  refine rb_callV S wb ENC_ok (k_isIndex l D cI cC cD ad n ph mn ar y hn hn2 (nI 0) (tells_f (fun q => q hy0))) (bw5 bw_169 bw_171 bw_1 bw_32 bw_172) (rb_recv wb 0 (by omega) rfl rfl) hdX3_isIndex rfl ⟨rfl, rfl⟩ ⟨by decide, by decide⟩ hl.1 (Nat.le_of_ble_eq_true rfl) ⟨Nat.zero_le _, Nat.zero_le _⟩ (rest := []) (st1 := [.int (nI 0)]) rfl rfl dX3_known_10 (fun H locs wb => ?_)
  refine lv_if_eq (tgt := 20) hx hb dX3_known_13 (by decide) (fun h13 => ?_) (fun h13 => absurd (by decide) h13)
  refine lv_iconst (v := nI 0) hx hb dX3_known_20 (by decide) ?_
  exact rx_callS S wb ENC_ok (x_reqA l hlt D cI cC cD ad n ph mn ar hn hn2) (bw4 bw_173 bw_174 bw_32 bw_175) hdX3_requireArgument rfl ⟨rfl, rfl⟩ ⟨by decide, by decide⟩ hl.1 (Nat.le_of_ble_eq_true rfl) ⟨by decide, by decide⟩ (rest := []) rfl dX3_known_21 hlk htab hQ

set_option maxHeartbeats 4000000 in
set_option maxRecDepth 100000 in
theorem x_phase1 (l : Launch) (hlt : l.stackTraces = false) (D : va_G) (cI cC cD : ClassId) (ad : Nat → Nat) (n ph mn : Nat) (ar : Nat → Nat → Int32) (hn : n ≤ 6) (hn2 : 2 ≤ n) (hT : HTn ar n) (hs : ¬ stl ar n) : RX l yX3_phase cX3_phase 2 (some .int) ({ frames := 7, cells := 1, slots := 6, locals := 102 }) D (ty3 cI cC cD) ENC [.ref (ad 0)] ad (4 * n + 6) (cE ad cI cC cD n ph mn ar) "java/lang/IllegalStateException" := by
  refine RX.of (by decide) (Nat.le_of_ble_eq_true rfl) ?_
  intro p e s m below meth c0 A ls args Q0 S htab hlk hQ wb hl
  have hx := S.1
  have hb := S.2.1
  have hl : lv_has ls 2 [(0, .ref (ad 0))] := hl
  refine lv_aload_n hx hb dX3_phase_0 rfl (lv_at hl 0 rfl) ?_
  refine rb_callV S wb ENC_ok (k_settled l D cI cC cD ad n ph mn ar hn hn2 hT (nI 0) (tells_f hs)) (bw5 bw_248 bw_150 bw_151 bw_32 bw_152) (rb_recv wb 0 (by omega) rfl rfl) hdX3_settled rfl ⟨rfl, rfl⟩ ⟨by decide, by decide⟩ hl.1 (Nat.le_of_ble_eq_true rfl) ⟨Nat.zero_le _, Nat.zero_le _⟩ (rest := []) (st1 := [.int (nI 0)]) rfl rfl dX3_phase_1 (fun H locs wb => ?_)
  refine lv_if_eq (tgt := 19) hx hb dX3_phase_4 (by decide) (fun h4 => ?_) (fun h4 => absurd (by decide) h4)
  refine lv_iconst (v := nI 0) hx hb dX3_phase_19 (by decide) ?_
  exact rx_callS S wb ENC_ok (x_reqS l hlt D cI cC cD ad n ph mn ar hn hn2) (bw4 bw_249 bw_250 bw_32 bw_251) hdX3_requireState rfl ⟨rfl, rfl⟩ ⟨by decide, by decide⟩ hl.1 (Nat.le_of_ble_eq_true rfl) ⟨by decide, by decide⟩ (rest := []) rfl dX3_phase_20 hlk htab hQ

set_option maxHeartbeats 4000000 in
set_option maxRecDepth 100000 in
theorem x_phase2 (l : Launch) (hlt : l.stackTraces = false) (D : va_G) (cI cC cD : ClassId) (ad : Nat → Nat) (n ph mn : Nat) (ar : Nat → Nat → Int32) (hn : n ≤ 6) (hn2 : 2 ≤ n) (hT : HTn ar n) (hs : stl ar n) (hp3 : ph = 3) : RX l yX3_phase cX3_phase 2 (some .int) ({ frames := 7, cells := 1, slots := 6, locals := 102 }) D (ty3 cI cC cD) ENC [.ref (ad 0)] ad (4 * n + 6) (cE ad cI cC cD n ph mn ar) "java/lang/IllegalStateException" := by
  refine RX.of (by decide) (Nat.le_of_ble_eq_true rfl) ?_
  intro p e s m below meth c0 A ls args Q0 S htab hlk hQ wb hl
  have hx := S.1
  have hb := S.2.1
  have hl : lv_has ls 2 [(0, .ref (ad 0))] := hl
  refine lv_aload_n hx hb dX3_phase_0 rfl (lv_at hl 0 rfl) ?_
  refine rb_callV S wb ENC_ok (k_settled l D cI cC cD ad n ph mn ar hn hn2 hT (nI 1) (tells_t hs)) (bw5 bw_248 bw_150 bw_151 bw_32 bw_152) (rb_recv wb 0 (by omega) rfl rfl) hdX3_settled rfl ⟨rfl, rfl⟩ ⟨by decide, by decide⟩ hl.1 (Nat.le_of_ble_eq_true rfl) ⟨Nat.zero_le _, Nat.zero_le _⟩ (rest := []) (st1 := [.int (nI 1)]) rfl rfl dX3_phase_1 (fun H locs wb => ?_)
  refine lv_if_eq (tgt := 19) hx hb dX3_phase_4 (by decide) (fun h4 => absurd h4 (by decide)) (fun h4 => ?_)
  refine lv_aload_n hx hb dX3_phase_7 rfl (lv_at hl 0 rfl) ?_
  refine rb_get (v := .int (nI ph)) S wb 0 (by omega) rfl rfl in3 5 (by decide) bw_131 rfl dX3_phase_8 ?_
  refine lv_iconst (v := nI 3) hx hb dX3_phase_11 (by decide) ?_
  refine nb_icmp_ge (tgt := 19) hx hb dX3_phase_12 (by decide) (by omega) (by omega) (fun h12 => ?_) (fun h12 => absurd h12 (by omega))
  refine lv_iconst (v := nI 0) hx hb dX3_phase_19 (by decide) ?_
  exact rx_callS S wb ENC_ok (x_reqS l hlt D cI cC cD ad n ph mn ar hn hn2) (bw4 bw_249 bw_250 bw_32 bw_251) hdX3_requireState rfl ⟨rfl, rfl⟩ ⟨by decide, by decide⟩ hl.1 (Nat.le_of_ble_eq_true rfl) ⟨by decide, by decide⟩ (rest := []) rfl dX3_phase_20 hlk htab hQ

set_option maxHeartbeats 4000000 in
set_option maxRecDepth 100000 in
theorem x_total (l : Launch) (hlt : l.stackTraces = false) (D : va_G) (cI cC cD : ClassId) (ad : Nat → Nat) (n ph mn : Nat) (ar : Nat → Nat → Int32) (hn : n ≤ 6) (hn2 : 2 ≤ n) (hT : HTn ar n) (hs : ¬ stl ar n) : RX l yX3_total cX3_total 3 (some .int) ({ frames := 7, cells := 1, slots := 6, locals := 102 }) D (ty3 cI cC cD) ENC [.ref (ad 0)] ad (4 * n + 6) (cE ad cI cC cD n ph mn ar) "java/lang/IllegalStateException" := by
  refine RX.of (by decide) (Nat.le_of_ble_eq_true rfl) ?_
  intro p e s m below meth c0 A ls args Q0 S htab hlk hQ wb hl
  have hx := S.1
  have hb := S.2.1
  have hl : lv_has ls 3 [(0, .ref (ad 0))] := hl
  refine lv_aload_n hx hb dX3_total_0 rfl (lv_at hl 0 rfl) ?_
  refine rb_callV S wb ENC_ok (k_settled l D cI cC cD ad n ph mn ar hn hn2 hT (nI 0) (tells_f hs)) (bw5 bw_248 bw_150 bw_151 bw_32 bw_152) (rb_recv wb 0 (by omega) rfl rfl) hdX3_settled rfl ⟨rfl, rfl⟩ ⟨by decide, by decide⟩ hl.1 (Nat.le_of_ble_eq_true rfl) ⟨Nat.zero_le _, Nat.zero_le _⟩ (rest := []) (st1 := [.int (nI 0)]) rfl rfl dX3_total_1 (fun H locs wb => ?_)
  exact rx_callS S wb ENC_ok (x_reqS l hlt D cI cC cD ad n ph mn ar hn hn2) (bw4 bw_249 bw_250 bw_32 bw_251) hdX3_requireState rfl ⟨rfl, rfl⟩ ⟨by decide, by decide⟩ hl.1 (Nat.le_of_ble_eq_true rfl) ⟨by decide, by decide⟩ (rest := []) rfl dX3_total_4 hlk htab hQ

set_option maxHeartbeats 4000000 in
set_option maxRecDepth 100000 in
theorem x_proves (l : Launch) (hlt : l.stackTraces = false) (D : va_G) (cI cC cD : ClassId) (ad : Nat → Nat) (n ph mn : Nat) (ar : Nat → Nat → Int32) (hn : n ≤ 6) (hn2 : 2 ≤ n) (hT : HTn ar n) (hs : ¬ stl ar n) : RX l yX3_proves cX3_proves 3 (some .boolean) ({ frames := 7, cells := 1, slots := 6, locals := 102 }) D (ty3 cI cC cD) ENC [.ref (ad 0)] ad (4 * n + 6) (cE ad cI cC cD n ph mn ar) "java/lang/IllegalStateException" := by
  refine RX.of (by decide) (Nat.le_of_ble_eq_true rfl) ?_
  intro p e s m below meth c0 A ls args Q0 S htab hlk hQ wb hl
  have hx := S.1
  have hb := S.2.1
  have hl : lv_has ls 3 [(0, .ref (ad 0))] := hl
  refine lv_aload_n hx hb dX3_proves_0 rfl (lv_at hl 0 rfl) ?_
  refine rb_callV S wb ENC_ok (k_settled l D cI cC cD ad n ph mn ar hn hn2 hT (nI 0) (tells_f hs)) (bw5 bw_248 bw_150 bw_151 bw_32 bw_152) (rb_recv wb 0 (by omega) rfl rfl) hdX3_settled rfl ⟨rfl, rfl⟩ ⟨by decide, by decide⟩ hl.1 (Nat.le_of_ble_eq_true rfl) ⟨Nat.zero_le _, Nat.zero_le _⟩ (rest := []) (st1 := [.int (nI 0)]) rfl rfl dX3_proves_1 (fun H locs wb => ?_)
  exact rx_callS S wb ENC_ok (x_reqS l hlt D cI cC cD ad n ph mn ar hn hn2) (bw4 bw_249 bw_250 bw_32 bw_251) hdX3_requireState rfl ⟨rfl, rfl⟩ ⟨by decide, by decide⟩ hl.1 (Nat.le_of_ble_eq_true rfl) ⟨by decide, by decide⟩ (rest := []) rfl dX3_proves_4 hlk htab hQ

set_option maxHeartbeats 4000000 in
set_option maxRecDepth 100000 in
theorem x_count (l : Launch) (hlt : l.stackTraces = false) (D : va_G) (cI cC cD : ClassId) (ad : Nat → Nat) (n ph mn : Nat) (ar : Nat → Nat → Int32) (y : Int32) (hn : n ≤ 6) (hn2 : 2 ≤ n) (hy : y < 0 ∨ nI 4 < y) : RX l yX3_count cX3_count 2 (some .int) ({ frames := 7, cells := 1, slots := 6, locals := 102 }) D (ty3 cI cC cD) ENC [.ref (ad 0), .int y] ad (4 * n + 6) (cE ad cI cC cD n ph mn ar) "java/lang/IllegalArgumentException" := by
  refine RX.of (by decide) (Nat.le_of_ble_eq_true rfl) ?_
  intro p e s m below meth c0 A ls args Q0 S htab hlk hQ wb hl
  have hx := S.1
  have hb := S.2.1
  have hl : lv_has ls 2 [(0, .ref (ad 0)), (1, .int y)] := hl
  refine lv_iload_n hx hb dX3_count_0 rfl (lv_at hl 1 rfl) ?_
  refine lv_if_lt (tgt := 13) hx hb dX3_count_1 (by decide) (fun h1 => ?_) (fun h1 => ?_)
  · refine lv_iconst (v := nI 0) hx hb dX3_count_13 (by decide) ?_
    exact rx_callS S wb ENC_ok (x_reqA l hlt D cI cC cD ad n ph mn ar hn hn2) (bw4 bw_173 bw_174 bw_32 bw_175) hdX3_requireArgument rfl ⟨rfl, rfl⟩ ⟨by decide, by decide⟩ hl.1 (Nat.le_of_ble_eq_true rfl) ⟨by decide, by decide⟩ (rest := []) rfl dX3_count_14 hlk htab hQ
  · refine lv_iload_n hx hb dX3_count_4 rfl (lv_at hl 1 rfl) ?_
    refine lv_iconst (v := nI 4) hx hb dX3_count_5 (by decide) ?_
    refine lv_icmp_gt (tgt := 13) hx hb dX3_count_6 (by decide) (fun h6 => ?_) (fun h6 => absurd (hy.resolve_left h1) h6)
    refine lv_iconst (v := nI 0) hx hb dX3_count_13 (by decide) ?_
    exact rx_callS S wb ENC_ok (x_reqA l hlt D cI cC cD ad n ph mn ar hn hn2) (bw4 bw_173 bw_174 bw_32 bw_175) hdX3_requireArgument rfl ⟨rfl, rfl⟩ ⟨by decide, by decide⟩ hl.1 (Nat.le_of_ble_eq_true rfl) ⟨by decide, by decide⟩ (rest := []) rfl dX3_count_14 hlk htab hQ
