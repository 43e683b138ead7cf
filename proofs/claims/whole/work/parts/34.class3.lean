/-! the class: public methods, where they return -/
set_option maxHeartbeats 4000000 in
set_option maxRecDepth 100000 in
theorem c_letters (l : Launch) (D : va_G) (cI cC cD : ClassId) (ad : Nat → Nat) (n ph mn : Nat) (ar : Nat → Nat → Int32) (hn : n ≤ 6) (hn2 : 2 ≤ n)  : RM l yX3_letters cX3_letters 1 (some .int) ({ frames := 0, cells := 0, slots := 0, locals := 0 }) D (ty3 cI cC cD) ENC [.ref (ad 0)] ad (4 * n + 6) (cE ad cI cC cD n ph mn ar) (cE ad cI cC cD n ph mn ar) (some (.int (nI mn))) := by
  refine RM.of (by decide) (Nat.le_of_ble_eq_true rfl) ?_
  intro p e s m below meth c0 A ls args Q0 S hr hlk hQ wb hl
  have hx := S.1
  have hb := S.2.1
  have hl : lv_has ls 1 [(0, .ref (ad 0))] := hl
  refine lv_aload_n hx hb dX3_letters_0 rfl (lv_at hl 0 rfl) ?_
  refine rb_get (v := .ref (ad 3)) S wb 0 (by omega) rfl rfl in3 3 (by decide) bw_129 rfl dX3_letters_1 ?_
  refine rb_getN (v := .int (nI mn)) S wb 3 (by omega) rfl rfl in2 1 (by decide) (rc_nw wb nw_12) rfl dX3_letters_4 ?_
  exact rb_iret S hr hlk hQ rfl wb (fun _ _ => rfl) dX3_letters_7

set_option maxHeartbeats 4000000 in
set_option maxRecDepth 100000 in
theorem c_letter (l : Launch) (D : va_G) (cI cC cD : ClassId) (ad : Nat → Nat) (n ph mn : Nat) (ar : Nat → Nat → Int32) (i k : Nat) (hn : n ≤ 6) (hn2 : 2 ≤ n) (hm : mn ≤ 80) (hi : i < mn) (hk : k < 5) : RM l yX3_letter cX3_letter 3 (some .int) ({ frames := 1, cells := 0, slots := 0, locals := 22 }) D (ty3 cI cC cD) ENC [.ref (ad 0), .int (nI i), .int (nI k)] ad (4 * n + 6) (cE ad cI cC cD n ph mn ar) (cE ad cI cC cD n ph mn ar) (some (.int (ar 10 (5 * i + k)))) := by
  refine RM.of (by decide) (Nat.le_of_ble_eq_true rfl) ?_
  intro p e s m below meth c0 A ls args Q0 S hr hlk hQ wb hl
  have hx := S.1
  have hb := S.2.1
  have hl : lv_has ls 3 [(0, .ref (ad 0)), (1, .int (nI i)), (2, .int (nI k))] := hl
  refine lv_aload_n hx hb dX3_letter_0 rfl (lv_at hl 0 rfl) ?_
  refine lv_iload_n hx hb dX3_letter_1 rfl (lv_at hl 1 rfl) ?_
  refine rb_callV S wb ENC_ok (k_reqL l D cI cC cD ad n ph mn ar i hn hn2 (by omega) (by omega)) (bw5 bw_328 bw_330 bw_13 bw_32 bw_331) (rb_recv wb 0 (by omega) rfl rfl) hdX3_requireLetter rfl ⟨rfl, rfl⟩ ⟨by decide, by decide⟩ hl.1 (Nat.le_of_ble_eq_true rfl) ⟨Nat.zero_le _, Nat.zero_le _⟩ (rest := []) (st1 := []) rfl rfl dX3_letter_2 (fun H locs wb => ?_)
  refine lv_iload_n hx hb dX3_letter_5 rfl (lv_at hl 2 rfl) ?_
  refine lv_if_lt (tgt := 18) hx hb dX3_letter_6 (by decide) (fun h6 => absurd h6 (nI_pos (by omega))) (fun h6 => ?_)
  refine lv_iload_n hx hb dX3_letter_9 rfl (lv_at hl 2 rfl) ?_
  refine lv_iconst (v := nI 5) hx hb dX3_letter_10 (by decide) ?_
  refine nb_icmp_ge (tgt := 18) hx hb dX3_letter_11 (by decide) (by omega) (by omega) (fun h11 => absurd h11 (by omega)) (fun h11 => ?_)
  refine lv_iconst (v := nI 1) hx hb dX3_letter_14 (by decide) ?_
  refine lv_goto (tgt := 19) hx hb dX3_letter_15 (by decide) ?_
  refine rb_callS S wb ENC_ok (k_reqA l D cI cC cD ad n ph mn ar hn hn2) (bw4 bw_173 bw_174 bw_32 bw_175) hdX3_requireArgument rfl ⟨rfl, rfl⟩ ⟨by decide, by decide⟩ hl.1 (Nat.le_of_ble_eq_true rfl) ⟨Nat.zero_le _, Nat.zero_le _⟩ (rest := []) (st1 := []) rfl rfl dX3_letter_19 (fun H locs wb => ?_)
  refine lv_aload_n hx hb dX3_letter_22 rfl (lv_at hl 0 rfl) ?_
  refine rb_get (v := .ref (ad 3)) S wb 0 (by omega) rfl rfl in3 3 (by decide) bw_129 rfl dX3_letter_23 ?_
  refine lv_iload_n hx hb dX3_letter_26 rfl (lv_at hl 1 rfl) ?_
  refine lv_iload_n hx hb dX3_letter_27 rfl (lv_at hl 2 rfl) ?_
  refine rb_callVN S wb ENC_ok (k_part l D cI cC cD ad n ph mn ar i k hn hn2 (by omega) (by omega)) (rc_nw wb nw_19) (bw4 bw_350 bw_14 bw_36 bw_351) (rb_recv wb 3 (by omega) rfl rfl) hdX2_part rfl ⟨rfl, rfl⟩ ⟨by decide, by decide⟩ hl.1 (Nat.le_of_ble_eq_true rfl) ⟨Nat.zero_le _, Nat.zero_le _⟩ (rest := []) (st1 := [.int (ar 10 (5 * i + k))]) rfl rfl dX3_letter_28 (fun H locs wb => ?_)
  exact rb_iret S hr hlk hQ rfl wb (fun _ _ => rfl) dX3_letter_31

set_option maxHeartbeats 4000000 in
set_option maxRecDepth 100000 in
theorem c_known (l : Launch) (D : va_G) (cI cC cD : ClassId) (ad : Nat → Nat) (n ph mn : Nat) (ar : Nat → Nat → Int32) (c j : Nat) (hn : n ≤ 6) (hn2 : 2 ≤ n) (hc : c < n) (hj : j < n) : RM l yX3_known cX3_known 3 (some .int) ({ frames := 1, cells := 0, slots := 0, locals := 21 }) D (ty3 cI cC cD) ENC [.ref (ad 0), .int (nI c), .int (nI j)] ad (4 * n + 6) (cE ad cI cC cD n ph mn ar) (cE ad cI cC cD n ph mn ar) (some (.int (ar 2 (6 * c + j)))) := by
  refine RM.of (by decide) (Nat.le_of_ble_eq_true rfl) ?_
  intro p e s m below meth c0 A ls args Q0 S hr hlk hQ wb hl
  have hx := S.1
  have hb := S.2.1
  have hl : lv_has ls 3 [(0, .ref (ad 0)), (1, .int (nI c)), (2, .int (nI j))] := hl
  refine lv_aload_n hx hb dX3_known_0 rfl (lv_at hl 0 rfl) ?_
  refine lv_iload_n hx hb dX3_known_1 rfl (lv_at hl 1 rfl) ?_
  refine rb_callV S wb ENC_ok (k_isIndex l D cI cC cD ad n ph mn ar (nI c) hn hn2 (nI 1) (tells_t (no_f (by omega) (by omega)))) (bw5 bw_169 bw_171 bw_1 bw_32 bw_172) (rb_recv wb 0 (by omega) rfl rfl) hdX3_isIndex rfl ⟨rfl, rfl⟩ ⟨by decide, by decide⟩ hl.1 (Nat.le_of_ble_eq_true rfl) ⟨Nat.zero_le _, Nat.zero_le _⟩ (rest := []) (st1 := [.int (nI 1)]) rfl rfl dX3_known_2 (fun H locs wb => ?_)
  refine lv_if_eq (tgt := 20) hx hb dX3_known_5 (by decide) (fun h5 => absurd h5 (by decide)) (fun h5 => ?_)
  refine lv_aload_n hx hb dX3_known_8 rfl (lv_at hl 0 rfl) ?_
  refine lv_iload_n hx hb dX3_known_9 rfl (lv_at hl 2 rfl) ?_
  refine rb_callV S wb ENC_ok (k_isIndex l D cI cC cD ad n ph mn ar (nI j) hn hn2 (nI 1) (tells_t (no_f (by omega) (by omega)))) (bw5 bw_169 bw_171 bw_1 bw_32 bw_172) (rb_recv wb 0 (by omega) rfl rfl) hdX3_isIndex rfl ⟨rfl, rfl⟩ ⟨by decide, by decide⟩ hl.1 (Nat.le_of_ble_eq_true rfl) ⟨Nat.zero_le _, Nat.zero_le _⟩ (rest := []) (st1 := [.int (nI 1)]) rfl rfl dX3_known_10 (fun H locs wb => ?_)
  refine lv_if_eq (tgt := 20) hx hb dX3_known_13 (by decide) (fun h13 => absurd h13 (by decide)) (fun h13 => ?_)
  refine lv_iconst (v := nI 1) hx hb dX3_known_16 (by decide) ?_
  refine lv_goto (tgt := 21) hx hb dX3_known_17 (by decide) ?_
  refine rb_callS S wb ENC_ok (k_reqA l D cI cC cD ad n ph mn ar hn hn2) (bw4 bw_173 bw_174 bw_32 bw_175) hdX3_requireArgument rfl ⟨rfl, rfl⟩ ⟨by decide, by decide⟩ hl.1 (Nat.le_of_ble_eq_true rfl) ⟨Nat.zero_le _, Nat.zero_le _⟩ (rest := []) (st1 := []) rfl rfl dX3_known_21 (fun H locs wb => ?_)
  refine lv_aload_n hx hb dX3_known_24 rfl (lv_at hl 0 rfl) ?_
  refine rb_get (v := .ref (ad 1)) S wb 0 (by omega) rfl rfl in3 1 (by decide) bw_127 rfl dX3_known_25 ?_
  refine lv_iload_n hx hb dX3_known_28 rfl (lv_at hl 1 rfl) ?_
  refine rb_aald (n := n) (a := ad (4 * c + 6)) S wb 1 (by omega) rfl 1 rfl c (by omega) (by omega) rfl dX3_known_29 ?_
  refine rb_getN (v := .ref (ad (4 * c + 8))) S wb (4 * c + 6) (by omega) (cE_crew c) rfl in0 1 (by decide) (rc_nw wb nw_2) rfl dX3_known_30 ?_
  refine lv_iload_n hx hb dX3_known_33 rfl (lv_at hl 2 rfl) ?_
  refine rb_ald (n := n) (x := ar 2 (6 * c + j)) S wb (4 * c + 8) (by omega) (cE_kn c) 0 rfl j (by omega) (by omega) (row_at (by omega)) dX3_known_34 ?_
  exact rb_iret S hr hlk hQ rfl wb (fun _ _ => rfl) dX3_known_35

set_option maxHeartbeats 4000000 in
set_option maxRecDepth 100000 in
theorem c_count (l : Launch) (D : va_G) (cI cC cD : ClassId) (ad : Nat → Nat) (n ph mn : Nat) (ar : Nat → Nat → Int32) (k : Nat) (hn : n ≤ 6) (hn2 : 2 ≤ n) (hk : k < 4) : RM l yX3_count cX3_count 2 (some .int) ({ frames := 1, cells := 0, slots := 0, locals := 20 }) D (ty3 cI cC cD) ENC [.ref (ad 0), .int (nI k)] ad (4 * n + 6) (cE ad cI cC cD n ph mn ar) (cE ad cI cC cD n ph mn ar) (some (.int (ar 11 k))) := by
  refine RM.of (by decide) (Nat.le_of_ble_eq_true rfl) ?_
  intro p e s m below meth c0 A ls args Q0 S hr hlk hQ wb hl
  have hx := S.1
  have hb := S.2.1
  have hl : lv_has ls 2 [(0, .ref (ad 0)), (1, .int (nI k))] := hl
  refine lv_iload_n hx hb dX3_count_0 rfl (lv_at hl 1 rfl) ?_
  refine lv_if_lt (tgt := 13) hx hb dX3_count_1 (by decide) (fun h1 => absurd h1 (nI_pos (by omega))) (fun h1 => ?_)
  refine lv_iload_n hx hb dX3_count_4 rfl (lv_at hl 1 rfl) ?_
  refine lv_iconst (v := nI 4) hx hb dX3_count_5 (by decide) ?_
  refine nb_icmp_gt (tgt := 13) hx hb dX3_count_6 (by decide) (by omega) (by omega) (fun h6 => absurd h6 (by omega)) (fun h6 => ?_)
  refine lv_iconst (v := nI 1) hx hb dX3_count_9 (by decide) ?_
  refine lv_goto (tgt := 14) hx hb dX3_count_10 (by decide) ?_
  refine rb_callS S wb ENC_ok (k_reqA l D cI cC cD ad n ph mn ar hn hn2) (bw4 bw_173 bw_174 bw_32 bw_175) hdX3_requireArgument rfl ⟨rfl, rfl⟩ ⟨by decide, by decide⟩ hl.1 (Nat.le_of_ble_eq_true rfl) ⟨Nat.zero_le _, Nat.zero_le _⟩ (rest := []) (st1 := []) rfl rfl dX3_count_14 (fun H locs wb => ?_)
  refine lv_iload_n hx hb dX3_count_17 rfl (lv_at hl 1 rfl) ?_
  refine lv_iconst (v := nI 4) hx hb dX3_count_18 (by decide) ?_
  refine nb_icmp_ne (tgt := 33) hx hb dX3_count_19 (by decide) (by omega) (by omega) (fun h19 => ?_) (fun h19 => absurd h19 (by omega))
  refine lv_aload_n hx hb dX3_count_33 rfl (lv_at hl 0 rfl) ?_
  refine rb_get (v := .ref (ad 5)) S wb 0 (by omega) rfl rfl in3 4 (by decide) bw_130 rfl dX3_count_34 ?_
  refine lv_iload_n hx hb dX3_count_37 rfl (lv_at hl 1 rfl) ?_
  refine rb_ald (n := 4) (f := ar 11) (x := ar 11 k) S wb 5 (by omega) rfl 0 rfl k (by omega) (by decide) rfl dX3_count_38 ?_
  exact rb_iret S hr hlk hQ rfl wb (fun _ _ => rfl) dX3_count_39

set_option maxHeartbeats 4000000 in
set_option maxRecDepth 100000 in
theorem c_count4 (l : Launch) (D : va_G) (cI cC cD : ClassId) (ad : Nat → Nat) (n ph mn : Nat) (ar : Nat → Nat → Int32) (hn : n ≤ 6) (hn2 : 2 ≤ n) (hph : ph ≤ 3) : RM l yX3_count cX3_count 2 (some .int) ({ frames := 1, cells := 0, slots := 0, locals := 20 }) D (ty3 cI cC cD) ENC [.ref (ad 0), .int (nI 4)] ad (4 * n + 6) (cE ad cI cC cD n ph mn ar) (cE ad cI cC cD n ph mn ar) (some (.int (stp ph))) := by
  refine RM.of (by decide) (Nat.le_of_ble_eq_true rfl) ?_
  intro p e s m below meth c0 A ls args Q0 S hr hlk hQ wb hl
  have hx := S.1
  have hb := S.2.1
  have hl : lv_has ls 2 [(0, .ref (ad 0)), (1, .int (nI 4))] := hl
  refine lv_iload_n hx hb dX3_count_0 rfl (lv_at hl 1 rfl) ?_
  refine lv_if_lt (tgt := 13) hx hb dX3_count_1 (by decide) (fun h1 => absurd h1 (by decide)) (fun h1 => ?_)
  refine lv_iload_n hx hb dX3_count_4 rfl (lv_at hl 1 rfl) ?_
  refine lv_iconst (v := nI 4) hx hb dX3_count_5 (by decide) ?_
  refine nb_icmp_gt (tgt := 13) hx hb dX3_count_6 (by decide) (by omega) (by omega) (fun h6 => absurd h6 (by omega)) (fun h6 => ?_)
  refine lv_iconst (v := nI 1) hx hb dX3_count_9 (by decide) ?_
  refine lv_goto (tgt := 14) hx hb dX3_count_10 (by decide) ?_
  refine rb_callS S wb ENC_ok (k_reqA l D cI cC cD ad n ph mn ar hn hn2) (bw4 bw_173 bw_174 bw_32 bw_175) hdX3_requireArgument rfl ⟨rfl, rfl⟩ ⟨by decide, by decide⟩ hl.1 (Nat.le_of_ble_eq_true rfl) ⟨Nat.zero_le _, Nat.zero_le _⟩ (rest := []) (st1 := []) rfl rfl dX3_count_14 (fun H locs wb => ?_)
  refine lv_iload_n hx hb dX3_count_17 rfl (lv_at hl 1 rfl) ?_
  refine lv_iconst (v := nI 4) hx hb dX3_count_18 (by decide) ?_
  refine nb_icmp_ne (tgt := 33) hx hb dX3_count_19 (by decide) (by omega) (by omega) (fun h19 => absurd h19 (by omega)) (fun h19 => ?_)
  refine rb_steps S wb bw_287 dX3_count_22 (fun tS hTS => ?_)
  refine lv_aload_n hx hb dX3_count_25 rfl (lv_at hl 0 rfl) ?_
  refine rb_get (v := .int (nI ph)) S wb 0 (by omega) rfl rfl in3 5 (by decide) bw_131 rfl dX3_count_26 ?_
  refine rb_stepAt S wb hTS ph (by omega) dX3_count_29 ?_
  refine lv_goto (tgt := 39) hx hb dX3_count_30 (by decide) ?_
  exact rb_iret S hr hlk hQ rfl wb (fun _ _ => rfl) dX3_count_39

set_option maxHeartbeats 4000000 in
set_option maxRecDepth 100000 in
theorem c_crew0 (l : Launch) (D : va_G) (cI cC cD : ClassId) (ad : Nat → Nat) (n ph mn : Nat) (ar : Nat → Nat → Int32) (c : Nat) (hn : n ≤ 6) (hn2 : 2 ≤ n) (hc : c < n) : RM l yX3_crew cX3_crew 4 (some .int) ({ frames := 1, cells := 0, slots := 0, locals := 21 }) D (ty3 cI cC cD) ENC [.ref (ad 0), .int (nI c), .int (nI 0)] ad (4 * n + 6) (cE ad cI cC cD n ph mn ar) (cE ad cI cC cD n ph mn ar) (some (.int (ar 6 c))) := by
  refine RM.of (by decide) (Nat.le_of_ble_eq_true rfl) ?_
  intro p e s m below meth c0 A ls args Q0 S hr hlk hQ wb hl
  have hx := S.1
  have hb := S.2.1
  have hl : lv_has ls 4 [(0, .ref (ad 0)), (1, .int (nI c)), (2, .int (nI 0))] := hl
  refine lv_aload_n hx hb dX3_crew_0 rfl (lv_at hl 0 rfl) ?_
  refine lv_iload_n hx hb dX3_crew_1 rfl (lv_at hl 1 rfl) ?_
  refine rb_callV S wb ENC_ok (k_isIndex l D cI cC cD ad n ph mn ar (nI c) hn hn2 (nI 1) (tells_t (no_f (by omega) (by omega)))) (bw5 bw_169 bw_171 bw_1 bw_32 bw_172) (rb_recv wb 0 (by omega) rfl rfl) hdX3_isIndex rfl ⟨rfl, rfl⟩ ⟨by decide, by decide⟩ hl.1 (Nat.le_of_ble_eq_true rfl) ⟨Nat.zero_le _, Nat.zero_le _⟩ (rest := []) (st1 := [.int (nI 1)]) rfl rfl dX3_crew_2 (fun H locs wb => ?_)
  refine lv_if_eq (tgt := 21) hx hb dX3_crew_5 (by decide) (fun h5 => absurd h5 (by decide)) (fun h5 => ?_)
  refine lv_iload_n hx hb dX3_crew_8 rfl (lv_at hl 2 rfl) ?_
  refine lv_if_lt (tgt := 21) hx hb dX3_crew_9 (by decide) (fun h9 => absurd h9 (by decide)) (fun h9 => ?_)
  refine lv_iload_n hx hb dX3_crew_12 rfl (lv_at hl 2 rfl) ?_
  refine lv_iconst (v := nI 3) hx hb dX3_crew_13 (by decide) ?_
  refine nb_icmp_gt (tgt := 21) hx hb dX3_crew_14 (by decide) (by omega) (by omega) (fun h14 => absurd h14 (by omega)) (fun h14 => ?_)
  refine lv_iconst (v := nI 1) hx hb dX3_crew_17 (by decide) ?_
  refine lv_goto (tgt := 22) hx hb dX3_crew_18 (by decide) ?_
  refine rb_callS S wb ENC_ok (k_reqA l D cI cC cD ad n ph mn ar hn hn2) (bw4 bw_173 bw_174 bw_32 bw_175) hdX3_requireArgument rfl ⟨rfl, rfl⟩ ⟨by decide, by decide⟩ hl.1 (Nat.le_of_ble_eq_true rfl) ⟨Nat.zero_le _, Nat.zero_le _⟩ (rest := []) (st1 := []) rfl rfl dX3_crew_22 (fun H locs wb => ?_)
  refine lv_aload_n hx hb dX3_crew_25 rfl (lv_at hl 0 rfl) ?_
  refine rb_get (v := .ref (ad 1)) S wb 0 (by omega) rfl rfl in3 1 (by decide) bw_127 rfl dX3_crew_26 ?_
  refine lv_iload_n hx hb dX3_crew_29 rfl (lv_at hl 1 rfl) ?_
  refine rb_aald (n := n) (a := ad (4 * c + 6)) S wb 1 (by omega) rfl 1 rfl c (by omega) (by omega) rfl dX3_crew_30 ?_
  refine lv_astore_n (lv' := [(3, .ref (ad (4 * c + 6))), (0, .ref (ad 0)), (1, .int (nI c)), (2, .int (nI 0))]) hx hb dX3_crew_31 rfl hl (by decide) rfl (fun ls hl => ?_)
  refine lv_iload_n hx hb dX3_crew_32 rfl (lv_at hl 3 rfl) ?_
  refine lv_tableIn (off := 27) (tgt := 60) hx hb dX3_crew_33 (by decide) (by decide) (by decide) (by decide) ?_
  refine lv_aload_n hx hb dX3_crew_60 rfl (lv_at hl 0 rfl) ?_
  refine rb_getN (v := .int (ar 6 c)) S wb (4 * c + 6) (by omega) (cE_crew c) rfl in0 2 (by decide) (rc_nw wb nw_3) rfl dX3_crew_61 ?_
  exact rb_iret S hr hlk hQ rfl wb (fun _ _ => rfl) dX3_crew_64

set_option maxHeartbeats 4000000 in
set_option maxRecDepth 100000 in
theorem c_crew1 (l : Launch) (D : va_G) (cI cC cD : ClassId) (ad : Nat → Nat) (n ph mn : Nat) (ar : Nat → Nat → Int32) (c : Nat) (hn : n ≤ 6) (hn2 : 2 ≤ n) (hc : c < n) : RM l yX3_crew cX3_crew 4 (some .int) ({ frames := 1, cells := 0, slots := 0, locals := 21 }) D (ty3 cI cC cD) ENC [.ref (ad 0), .int (nI c), .int (nI 1)] ad (4 * n + 6) (cE ad cI cC cD n ph mn ar) (cE ad cI cC cD n ph mn ar) (some (.int (ar 7 c))) := by
  refine RM.of (by decide) (Nat.le_of_ble_eq_true rfl) ?_
  intro p e s m below meth c0 A ls args Q0 S hr hlk hQ wb hl
  have hx := S.1
  have hb := S.2.1
  have hl : lv_has ls 4 [(0, .ref (ad 0)), (1, .int (nI c)), (2, .int (nI 1))] := hl
  refine lv_aload_n hx hb dX3_crew_0 rfl (lv_at hl 0 rfl) ?_
  refine lv_iload_n hx hb dX3_crew_1 rfl (lv_at hl 1 rfl) ?_
  refine rb_callV S wb ENC_ok (k_isIndex l D cI cC cD ad n ph mn ar (nI c) hn hn2 (nI 1) (tells_t (no_f (by omega) (by omega)))) (bw5 bw_169 bw_171 bw_1 bw_32 bw_172) (rb_recv wb 0 (by omega) rfl rfl) hdX3_isIndex rfl ⟨rfl, rfl⟩ ⟨by decide, by decide⟩ hl.1 (Nat.le_of_ble_eq_true rfl) ⟨Nat.zero_le _, Nat.zero_le _⟩ (rest := []) (st1 := [.int (nI 1)]) rfl rfl dX3_crew_2 (fun H locs wb => ?_)
  refine lv_if_eq (tgt := 21) hx hb dX3_crew_5 (by decide) (fun h5 => absurd h5 (by decide)) (fun h5 => ?_)
  refine lv_iload_n hx hb dX3_crew_8 rfl (lv_at hl 2 rfl) ?_
  refine lv_if_lt (tgt := 21) hx hb dX3_crew_9 (by decide) (fun h9 => absurd h9 (by decide)) (fun h9 => ?_)
  refine lv_iload_n hx hb dX3_crew_12 rfl (lv_at hl 2 rfl) ?_
  refine lv_iconst (v := nI 3) hx hb dX3_crew_13 (by decide) ?_
  refine nb_icmp_gt (tgt := 21) hx hb dX3_crew_14 (by decide) (by omega) (by omega) (fun h14 => absurd h14 (by omega)) (fun h14 => ?_)
  refine lv_iconst (v := nI 1) hx hb dX3_crew_17 (by decide) ?_
  refine lv_goto (tgt := 22) hx hb dX3_crew_18 (by decide) ?_
  refine rb_callS S wb ENC_ok (k_reqA l D cI cC cD ad n ph mn ar hn hn2) (bw4 bw_173 bw_174 bw_32 bw_175) hdX3_requireArgument rfl ⟨rfl, rfl⟩ ⟨by decide, by decide⟩ hl.1 (Nat.le_of_ble_eq_true rfl) ⟨Nat.zero_le _, Nat.zero_le _⟩ (rest := []) (st1 := []) rfl rfl dX3_crew_22 (fun H locs wb => ?_)
  refine lv_aload_n hx hb dX3_crew_25 rfl (lv_at hl 0 rfl) ?_
  refine rb_get (v := .ref (ad 1)) S wb 0 (by omega) rfl rfl in3 1 (by decide) bw_127 rfl dX3_crew_26 ?_
  refine lv_iload_n hx hb dX3_crew_29 rfl (lv_at hl 1 rfl) ?_
  refine rb_aald (n := n) (a := ad (4 * c + 6)) S wb 1 (by omega) rfl 1 rfl c (by omega) (by omega) rfl dX3_crew_30 ?_
  refine lv_astore_n (lv' := [(3, .ref (ad (4 * c + 6))), (0, .ref (ad 0)), (1, .int (nI c)), (2, .int (nI 1))]) hx hb dX3_crew_31 rfl hl (by decide) rfl (fun ls hl => ?_)
  refine lv_iload_n hx hb dX3_crew_32 rfl (lv_at hl 3 rfl) ?_
  refine lv_tableIn (off := 32) (tgt := 65) hx hb dX3_crew_33 (by decide) (by decide) (by decide) (by decide) ?_
  refine lv_aload_n hx hb dX3_crew_65 rfl (lv_at hl 0 rfl) ?_
  refine rb_getN (v := .int (ar 7 c)) S wb (4 * c + 6) (by omega) (cE_crew c) rfl in0 3 (by decide) (rc_nw wb nw_4) rfl dX3_crew_66 ?_
  exact rb_iret S hr hlk hQ rfl wb (fun _ _ => rfl) dX3_crew_69

set_option maxHeartbeats 4000000 in
set_option maxRecDepth 100000 in
theorem c_crew2 (l : Launch) (D : va_G) (cI cC cD : ClassId) (ad : Nat → Nat) (n ph mn : Nat) (ar : Nat → Nat → Int32) (c : Nat) (hn : n ≤ 6) (hn2 : 2 ≤ n) (hc : c < n) : RM l yX3_crew cX3_crew 4 (some .int) ({ frames := 1, cells := 0, slots := 0, locals := 21 }) D (ty3 cI cC cD) ENC [.ref (ad 0), .int (nI c), .int (nI 2)] ad (4 * n + 6) (cE ad cI cC cD n ph mn ar) (cE ad cI cC cD n ph mn ar) (some (.int (ar 8 c))) := by
  refine RM.of (by decide) (Nat.le_of_ble_eq_true rfl) ?_
  intro p e s m below meth c0 A ls args Q0 S hr hlk hQ wb hl
  have hx := S.1
  have hb := S.2.1
  have hl : lv_has ls 4 [(0, .ref (ad 0)), (1, .int (nI c)), (2, .int (nI 2))] := hl
  refine lv_aload_n hx hb dX3_crew_0 rfl (lv_at hl 0 rfl) ?_
  refine lv_iload_n hx hb dX3_crew_1 rfl (lv_at hl 1 rfl) ?_
  refine rb_callV S wb ENC_ok (k_isIndex l D cI cC cD ad n ph mn ar (nI c) hn hn2 (nI 1) (tells_t (no_f (by omega) (by omega)))) (bw5 bw_169 bw_171 bw_1 bw_32 bw_172) (rb_recv wb 0 (by omega) rfl rfl) hdX3_isIndex rfl ⟨rfl, rfl⟩ ⟨by decide, by decide⟩ hl.1 (Nat.le_of_ble_eq_true rfl) ⟨Nat.zero_le _, Nat.zero_le _⟩ (rest := []) (st1 := [.int (nI 1)]) rfl rfl dX3_crew_2 (fun H locs wb => ?_)
  refine lv_if_eq (tgt := 21) hx hb dX3_crew_5 (by decide) (fun h5 => absurd h5 (by decide)) (fun h5 => ?_)
  refine lv_iload_n hx hb dX3_crew_8 rfl (lv_at hl 2 rfl) ?_
  refine lv_if_lt (tgt := 21) hx hb dX3_crew_9 (by decide) (fun h9 => absurd h9 (by decide)) (fun h9 => ?_)
  refine lv_iload_n hx hb dX3_crew_12 rfl (lv_at hl 2 rfl) ?_
  refine lv_iconst (v := nI 3) hx hb dX3_crew_13 (by decide) ?_
  refine nb_icmp_gt (tgt := 21) hx hb dX3_crew_14 (by decide) (by omega) (by omega) (fun h14 => absurd h14 (by omega)) (fun h14 => ?_)
  refine lv_iconst (v := nI 1) hx hb dX3_crew_17 (by decide) ?_
  refine lv_goto (tgt := 22) hx hb dX3_crew_18 (by decide) ?_
  refine rb_callS S wb ENC_ok (k_reqA l D cI cC cD ad n ph mn ar hn hn2) (bw4 bw_173 bw_174 bw_32 bw_175) hdX3_requireArgument rfl ⟨rfl, rfl⟩ ⟨by decide, by decide⟩ hl.1 (Nat.le_of_ble_eq_true rfl) ⟨Nat.zero_le _, Nat.zero_le _⟩ (rest := []) (st1 := []) rfl rfl dX3_crew_22 (fun H locs wb => ?_)
  refine lv_aload_n hx hb dX3_crew_25 rfl (lv_at hl 0 rfl) ?_
  refine rb_get (v := .ref (ad 1)) S wb 0 (by omega) rfl rfl in3 1 (by decide) bw_127 rfl dX3_crew_26 ?_
  refine lv_iload_n hx hb dX3_crew_29 rfl (lv_at hl 1 rfl) ?_
  refine rb_aald (n := n) (a := ad (4 * c + 6)) S wb 1 (by omega) rfl 1 rfl c (by omega) (by omega) rfl dX3_crew_30 ?_
  refine lv_astore_n (lv' := [(3, .ref (ad (4 * c + 6))), (0, .ref (ad 0)), (1, .int (nI c)), (2, .int (nI 2))]) hx hb dX3_crew_31 rfl hl (by decide) rfl (fun ls hl => ?_)
  refine lv_iload_n hx hb dX3_crew_32 rfl (lv_at hl 3 rfl) ?_
  refine lv_tableIn (off := 37) (tgt := 70) hx hb dX3_crew_33 (by decide) (by decide) (by decide) (by decide) ?_
  refine lv_aload_n hx hb dX3_crew_70 rfl (lv_at hl 0 rfl) ?_
  refine rb_getN (v := .int (ar 8 c)) S wb (4 * c + 6) (by omega) (cE_crew c) rfl in0 4 (by decide) (rc_nw wb nw_5) rfl dX3_crew_71 ?_
  exact rb_iret S hr hlk hQ rfl wb (fun _ _ => rfl) dX3_crew_74

set_option maxHeartbeats 4000000 in
set_option maxRecDepth 100000 in
theorem c_crew3 (l : Launch) (D : va_G) (cI cC cD : ClassId) (ad : Nat → Nat) (n ph mn : Nat) (ar : Nat → Nat → Int32) (c : Nat) (hn : n ≤ 6) (hn2 : 2 ≤ n) (hc : c < n) : RM l yX3_crew cX3_crew 4 (some .int) ({ frames := 2, cells := 0, slots := 0, locals := 44 }) D (ty3 cI cC cD) ENC [.ref (ad 0), .int (nI c), .int (nI 3)] ad (4 * n + 6) (cE ad cI cC cD n ph mn ar) (cE ad cI cC cD n ph mn ar) (some (.int (pf (fun j => ar 1 (6 * c + j) * nI (n + 1) - ar 3 j) (n - 1)))) := by
  refine RM.of (by decide) (Nat.le_of_ble_eq_true rfl) ?_
  intro p e s m below meth c0 A ls args Q0 S hr hlk hQ wb hl
  have hx := S.1
  have hb := S.2.1
  have hl : lv_has ls 4 [(0, .ref (ad 0)), (1, .int (nI c)), (2, .int (nI 3))] := hl
  refine lv_aload_n hx hb dX3_crew_0 rfl (lv_at hl 0 rfl) ?_
  refine lv_iload_n hx hb dX3_crew_1 rfl (lv_at hl 1 rfl) ?_
  refine rb_callV S wb ENC_ok (k_isIndex l D cI cC cD ad n ph mn ar (nI c) hn hn2 (nI 1) (tells_t (no_f (by omega) (by omega)))) (bw5 bw_169 bw_171 bw_1 bw_32 bw_172) (rb_recv wb 0 (by omega) rfl rfl) hdX3_isIndex rfl ⟨rfl, rfl⟩ ⟨by decide, by decide⟩ hl.1 (Nat.le_of_ble_eq_true rfl) ⟨Nat.zero_le _, Nat.zero_le _⟩ (rest := []) (st1 := [.int (nI 1)]) rfl rfl dX3_crew_2 (fun H locs wb => ?_)
  refine lv_if_eq (tgt := 21) hx hb dX3_crew_5 (by decide) (fun h5 => absurd h5 (by decide)) (fun h5 => ?_)
  refine lv_iload_n hx hb dX3_crew_8 rfl (lv_at hl 2 rfl) ?_
  refine lv_if_lt (tgt := 21) hx hb dX3_crew_9 (by decide) (fun h9 => absurd h9 (by decide)) (fun h9 => ?_)
  refine lv_iload_n hx hb dX3_crew_12 rfl (lv_at hl 2 rfl) ?_
  refine lv_iconst (v := nI 3) hx hb dX3_crew_13 (by decide) ?_
  refine nb_icmp_gt (tgt := 21) hx hb dX3_crew_14 (by decide) (by omega) (by omega) (fun h14 => absurd h14 (by omega)) (fun h14 => ?_)
  refine lv_iconst (v := nI 1) hx hb dX3_crew_17 (by decide) ?_
  refine lv_goto (tgt := 22) hx hb dX3_crew_18 (by decide) ?_
  refine rb_callS S wb ENC_ok (k_reqA l D cI cC cD ad n ph mn ar hn hn2) (bw4 bw_173 bw_174 bw_32 bw_175) hdX3_requireArgument rfl ⟨rfl, rfl⟩ ⟨by decide, by decide⟩ hl.1 (Nat.le_of_ble_eq_true rfl) ⟨Nat.zero_le _, Nat.zero_le _⟩ (rest := []) (st1 := []) rfl rfl dX3_crew_22 (fun H locs wb => ?_)
  refine lv_aload_n hx hb dX3_crew_25 rfl (lv_at hl 0 rfl) ?_
  refine rb_get (v := .ref (ad 1)) S wb 0 (by omega) rfl rfl in3 1 (by decide) bw_127 rfl dX3_crew_26 ?_
  refine lv_iload_n hx hb dX3_crew_29 rfl (lv_at hl 1 rfl) ?_
  refine rb_aald (n := n) (a := ad (4 * c + 6)) S wb 1 (by omega) rfl 1 rfl c (by omega) (by omega) rfl dX3_crew_30 ?_
  refine lv_astore_n (lv' := [(3, .ref (ad (4 * c + 6))), (0, .ref (ad 0)), (1, .int (nI c)), (2, .int (nI 3))]) hx hb dX3_crew_31 rfl hl (by decide) rfl (fun ls hl => ?_)
  refine lv_iload_n hx hb dX3_crew_32 rfl (lv_at hl 3 rfl) ?_
  refine lv_tableOut (tgt := 75) hx hb dX3_crew_33 (by decide) (by decide) ?_
  refine lv_aload_n hx hb dX3_crew_75 rfl (lv_at hl 1 rfl) ?_
  refine lv_aload_n hx hb dX3_crew_76 rfl (lv_at hl 0 rfl) ?_
  refine rb_callV S wb ENC_ok (k_profitOf l D cI cC cD ad n ph mn ar c hn hn2 (by omega)) (bw5 bw_405 bw_407 bw_20 bw_32 bw_408) (rb_recv wb 0 (by omega) rfl rfl) hdX3_profitOf rfl ⟨rfl, rfl⟩ ⟨by decide, by decide⟩ hl.1 (Nat.le_of_ble_eq_true rfl) ⟨Nat.zero_le _, Nat.zero_le _⟩ (rest := []) (st1 := [.int (pf (fun j => ar 1 (6 * c + j) * nI (n + 1) - ar 3 j) (n - 1))]) rfl rfl dX3_crew_77 (fun H locs wb => ?_)
  exact rb_iret S hr hlk hQ rfl wb (fun _ _ => rfl) dX3_crew_80

set_option maxHeartbeats 4000000 in
set_option maxRecDepth 100000 in
theorem c_desk0 (l : Launch) (D : va_G) (cI cC cD : ClassId) (ad : Nat → Nat) (n ph mn : Nat) (ar : Nat → Nat → Int32) (c : Nat) (hn : n ≤ 6) (hn2 : 2 ≤ n) (hc : c < n) : RM l yX3_desk cX3_desk 4 (some .int) ({ frames := 1, cells := 0, slots := 0, locals := 21 }) D (ty3 cI cC cD) ENC [.ref (ad 0), .int (nI c), .int (nI 0)] ad (4 * n + 6) (cE ad cI cC cD n ph mn ar) (cE ad cI cC cD n ph mn ar) (some (.int (ar 3 c))) := by
  refine RM.of (by decide) (Nat.le_of_ble_eq_true rfl) ?_
  intro p e s m below meth c0 A ls args Q0 S hr hlk hQ wb hl
  have hx := S.1
  have hb := S.2.1
  have hl : lv_has ls 4 [(0, .ref (ad 0)), (1, .int (nI c)), (2, .int (nI 0))] := hl
  refine lv_aload_n hx hb dX3_desk_0 rfl (lv_at hl 0 rfl) ?_
  refine lv_iload_n hx hb dX3_desk_1 rfl (lv_at hl 1 rfl) ?_
  refine rb_callV S wb ENC_ok (k_isIndex l D cI cC cD ad n ph mn ar (nI c) hn hn2 (nI 1) (tells_t (no_f (by omega) (by omega)))) (bw5 bw_169 bw_171 bw_1 bw_32 bw_172) (rb_recv wb 0 (by omega) rfl rfl) hdX3_isIndex rfl ⟨rfl, rfl⟩ ⟨by decide, by decide⟩ hl.1 (Nat.le_of_ble_eq_true rfl) ⟨Nat.zero_le _, Nat.zero_le _⟩ (rest := []) (st1 := [.int (nI 1)]) rfl rfl dX3_desk_2 (fun H locs wb => ?_)
  refine lv_if_eq (tgt := 21) hx hb dX3_desk_5 (by decide) (fun h5 => absurd h5 (by decide)) (fun h5 => ?_)
  refine lv_iload_n hx hb dX3_desk_8 rfl (lv_at hl 2 rfl) ?_
  refine lv_if_lt (tgt := 21) hx hb dX3_desk_9 (by decide) (fun h9 => absurd h9 (by decide)) (fun h9 => ?_)
  refine lv_iload_n hx hb dX3_desk_12 rfl (lv_at hl 2 rfl) ?_
  refine lv_iconst (v := nI 2) hx hb dX3_desk_13 (by decide) ?_
  refine nb_icmp_gt (tgt := 21) hx hb dX3_desk_14 (by decide) (by omega) (by omega) (fun h14 => absurd h14 (by omega)) (fun h14 => ?_)
  refine lv_iconst (v := nI 1) hx hb dX3_desk_17 (by decide) ?_
  refine lv_goto (tgt := 22) hx hb dX3_desk_18 (by decide) ?_
  refine rb_callS S wb ENC_ok (k_reqA l D cI cC cD ad n ph mn ar hn hn2) (bw4 bw_173 bw_174 bw_32 bw_175) hdX3_requireArgument rfl ⟨rfl, rfl⟩ ⟨by decide, by decide⟩ hl.1 (Nat.le_of_ble_eq_true rfl) ⟨Nat.zero_le _, Nat.zero_le _⟩ (rest := []) (st1 := []) rfl rfl dX3_desk_22 (fun H locs wb => ?_)
  refine lv_aload_n hx hb dX3_desk_25 rfl (lv_at hl 0 rfl) ?_
  refine rb_get (v := .ref (ad 2)) S wb 0 (by omega) rfl rfl in3 2 (by decide) bw_128 rfl dX3_desk_26 ?_
  refine lv_iload_n hx hb dX3_desk_29 rfl (lv_at hl 1 rfl) ?_
  refine rb_aald (n := n) (a := ad (4 * c + 9)) S wb 2 (by omega) rfl 2 rfl c (by omega) (by omega) rfl dX3_desk_30 ?_
  refine lv_astore_n (lv' := [(3, .ref (ad (4 * c + 9))), (0, .ref (ad 0)), (1, .int (nI c)), (2, .int (nI 0))]) hx hb dX3_desk_31 rfl hl (by decide) rfl (fun ls hl => ?_)
  refine lv_iload_n hx hb dX3_desk_32 rfl (lv_at hl 3 rfl) ?_
  refine lv_lookup (off := 27) (tgt := 60) hx hb dX3_desk_33 (by decide) (by decide) (by decide) ?_
  refine lv_aload_n hx hb dX3_desk_60 rfl (lv_at hl 0 rfl) ?_
  refine rb_getN (v := .int (ar 3 c)) S wb (4 * c + 9) (by omega) (cE_desk c) rfl in1 0 (by decide) (rc_nw wb nw_8) rfl dX3_desk_61 ?_
  exact rb_iret S hr hlk hQ rfl wb (fun _ _ => rfl) dX3_desk_64

set_option maxHeartbeats 4000000 in
set_option maxRecDepth 100000 in
theorem c_desk1 (l : Launch) (D : va_G) (cI cC cD : ClassId) (ad : Nat → Nat) (n ph mn : Nat) (ar : Nat → Nat → Int32) (c : Nat) (hn : n ≤ 6) (hn2 : 2 ≤ n) (hc : c < n) : RM l yX3_desk cX3_desk 4 (some .int) ({ frames := 1, cells := 0, slots := 0, locals := 21 }) D (ty3 cI cC cD) ENC [.ref (ad 0), .int (nI c), .int (nI 1)] ad (4 * n + 6) (cE ad cI cC cD n ph mn ar) (cE ad cI cC cD n ph mn ar) (some (.int (ar 4 c))) := by
  refine RM.of (by decide) (Nat.le_of_ble_eq_true rfl) ?_
  intro p e s m below meth c0 A ls args Q0 S hr hlk hQ wb hl
  have hx := S.1
  have hb := S.2.1
  have hl : lv_has ls 4 [(0, .ref (ad 0)), (1, .int (nI c)), (2, .int (nI 1))] := hl
  refine lv_aload_n hx hb dX3_desk_0 rfl (lv_at hl 0 rfl) ?_
  refine lv_iload_n hx hb dX3_desk_1 rfl (lv_at hl 1 rfl) ?_
  refine rb_callV S wb ENC_ok (k_isIndex l D cI cC cD ad n ph mn ar (nI c) hn hn2 (nI 1) (tells_t (no_f (by omega) (by omega)))) (bw5 bw_169 bw_171 bw_1 bw_32 bw_172) (rb_recv wb 0 (by omega) rfl rfl) hdX3_isIndex rfl ⟨rfl, rfl⟩ ⟨by decide, by decide⟩ hl.1 (Nat.le_of_ble_eq_true rfl) ⟨Nat.zero_le _, Nat.zero_le _⟩ (rest := []) (st1 := [.int (nI 1)]) rfl rfl dX3_desk_2 (fun H locs wb => ?_)
  refine lv_if_eq (tgt := 21) hx hb dX3_desk_5 (by decide) (fun h5 => absurd h5 (by decide)) (fun h5 => ?_)
  refine lv_iload_n hx hb dX3_desk_8 rfl (lv_at hl 2 rfl) ?_
  refine lv_if_lt (tgt := 21) hx hb dX3_desk_9 (by decide) (fun h9 => absurd h9 (by decide)) (fun h9 => ?_)
  refine lv_iload_n hx hb dX3_desk_12 rfl (lv_at hl 2 rfl) ?_
  refine lv_iconst (v := nI 2) hx hb dX3_desk_13 (by decide) ?_
  refine nb_icmp_gt (tgt := 21) hx hb dX3_desk_14 (by decide) (by omega) (by omega) (fun h14 => absurd h14 (by omega)) (fun h14 => ?_)
  refine lv_iconst (v := nI 1) hx hb dX3_desk_17 (by decide) ?_
  refine lv_goto (tgt := 22) hx hb dX3_desk_18 (by decide) ?_
  refine rb_callS S wb ENC_ok (k_reqA l D cI cC cD ad n ph mn ar hn hn2) (bw4 bw_173 bw_174 bw_32 bw_175) hdX3_requireArgument rfl ⟨rfl, rfl⟩ ⟨by decide, by decide⟩ hl.1 (Nat.le_of_ble_eq_true rfl) ⟨Nat.zero_le _, Nat.zero_le _⟩ (rest := []) (st1 := []) rfl rfl dX3_desk_22 (fun H locs wb => ?_)
  refine lv_aload_n hx hb dX3_desk_25 rfl (lv_at hl 0 rfl) ?_
  refine rb_get (v := .ref (ad 2)) S wb 0 (by omega) rfl rfl in3 2 (by decide) bw_128 rfl dX3_desk_26 ?_
  refine lv_iload_n hx hb dX3_desk_29 rfl (lv_at hl 1 rfl) ?_
  refine rb_aald (n := n) (a := ad (4 * c + 9)) S wb 2 (by omega) rfl 2 rfl c (by omega) (by omega) rfl dX3_desk_30 ?_
  refine lv_astore_n (lv' := [(3, .ref (ad (4 * c + 9))), (0, .ref (ad 0)), (1, .int (nI c)), (2, .int (nI 1))]) hx hb dX3_desk_31 rfl hl (by decide) rfl (fun ls hl => ?_)
  refine lv_iload_n hx hb dX3_desk_32 rfl (lv_at hl 3 rfl) ?_
  refine lv_lookup (off := 32) (tgt := 65) hx hb dX3_desk_33 (by decide) (by decide) (by decide) ?_
  refine lv_aload_n hx hb dX3_desk_65 rfl (lv_at hl 0 rfl) ?_
  refine rb_getN (v := .int (ar 4 c)) S wb (4 * c + 9) (by omega) (cE_desk c) rfl in1 1 (by decide) (rc_nw wb nw_9) rfl dX3_desk_66 ?_
  exact rb_iret S hr hlk hQ rfl wb (fun _ _ => rfl) dX3_desk_69

set_option maxHeartbeats 4000000 in
set_option maxRecDepth 100000 in
theorem c_desk2 (l : Launch) (D : va_G) (cI cC cD : ClassId) (ad : Nat → Nat) (n ph mn : Nat) (ar : Nat → Nat → Int32) (c : Nat) (hn : n ≤ 6) (hn2 : 2 ≤ n) (hc : c < n) : RM l yX3_desk cX3_desk 4 (some .int) ({ frames := 1, cells := 0, slots := 0, locals := 21 }) D (ty3 cI cC cD) ENC [.ref (ad 0), .int (nI c), .int (nI 2)] ad (4 * n + 6) (cE ad cI cC cD n ph mn ar) (cE ad cI cC cD n ph mn ar) (some (.int (ar 5 c))) := by
  refine RM.of (by decide) (Nat.le_of_ble_eq_true rfl) ?_
  intro p e s m below meth c0 A ls args Q0 S hr hlk hQ wb hl
  have hx := S.1
  have hb := S.2.1
  have hl : lv_has ls 4 [(0, .ref (ad 0)), (1, .int (nI c)), (2, .int (nI 2))] := hl
  refine lv_aload_n hx hb dX3_desk_0 rfl (lv_at hl 0 rfl) ?_
  refine lv_iload_n hx hb dX3_desk_1 rfl (lv_at hl 1 rfl) ?_
  refine rb_callV S wb ENC_ok (k_isIndex l D cI cC cD ad n ph mn ar (nI c) hn hn2 (nI 1) (tells_t (no_f (by omega) (by omega)))) (bw5 bw_169 bw_171 bw_1 bw_32 bw_172) (rb_recv wb 0 (by omega) rfl rfl) hdX3_isIndex rfl ⟨rfl, rfl⟩ ⟨by decide, by decide⟩ hl.1 (Nat.le_of_ble_eq_true rfl) ⟨Nat.zero_le _, Nat.zero_le _⟩ (rest := []) (st1 := [.int (nI 1)]) rfl rfl dX3_desk_2 (fun H locs wb => ?_)
  refine lv_if_eq (tgt := 21) hx hb dX3_desk_5 (by decide) (fun h5 => absurd h5 (by decide)) (fun h5 => ?_)
  refine lv_iload_n hx hb dX3_desk_8 rfl (lv_at hl 2 rfl) ?_
  refine lv_if_lt (tgt := 21) hx hb dX3_desk_9 (by decide) (fun h9 => absurd h9 (by decide)) (fun h9 => ?_)
  refine lv_iload_n hx hb dX3_desk_12 rfl (lv_at hl 2 rfl) ?_
  refine lv_iconst (v := nI 2) hx hb dX3_desk_13 (by decide) ?_
  refine nb_icmp_gt (tgt := 21) hx hb dX3_desk_14 (by decide) (by omega) (by omega) (fun h14 => absurd h14 (by omega)) (fun h14 => ?_)
  refine lv_iconst (v := nI 1) hx hb dX3_desk_17 (by decide) ?_
  refine lv_goto (tgt := 22) hx hb dX3_desk_18 (by decide) ?_
  refine rb_callS S wb ENC_ok (k_reqA l D cI cC cD ad n ph mn ar hn hn2) (bw4 bw_173 bw_174 bw_32 bw_175) hdX3_requireArgument rfl ⟨rfl, rfl⟩ ⟨by decide, by decide⟩ hl.1 (Nat.le_of_ble_eq_true rfl) ⟨Nat.zero_le _, Nat.zero_le _⟩ (rest := []) (st1 := []) rfl rfl dX3_desk_22 (fun H locs wb => ?_)
  refine lv_aload_n hx hb dX3_desk_25 rfl (lv_at hl 0 rfl) ?_
  refine rb_get (v := .ref (ad 2)) S wb 0 (by omega) rfl rfl in3 2 (by decide) bw_128 rfl dX3_desk_26 ?_
  refine lv_iload_n hx hb dX3_desk_29 rfl (lv_at hl 1 rfl) ?_
  refine rb_aald (n := n) (a := ad (4 * c + 9)) S wb 2 (by omega) rfl 2 rfl c (by omega) (by omega) rfl dX3_desk_30 ?_
  refine lv_astore_n (lv' := [(3, .ref (ad (4 * c + 9))), (0, .ref (ad 0)), (1, .int (nI c)), (2, .int (nI 2))]) hx hb dX3_desk_31 rfl hl (by decide) rfl (fun ls hl => ?_)
  refine lv_iload_n hx hb dX3_desk_32 rfl (lv_at hl 3 rfl) ?_
  refine lv_lookup (off := 37) (tgt := 70) hx hb dX3_desk_33 (by decide) (by decide) (by decide) ?_
  refine lv_aload_n hx hb dX3_desk_70 rfl (lv_at hl 0 rfl) ?_
  refine rb_getN (v := .int (ar 5 c)) S wb (4 * c + 9) (by omega) (cE_desk c) rfl in1 2 (by decide) (rc_nw wb nw_10) rfl dX3_desk_71 ?_
  exact rb_iret S hr hlk hQ rfl wb (fun _ _ => rfl) dX3_desk_74

set_option maxHeartbeats 4000000 in
set_option maxRecDepth 100000 in
theorem c_lose (l : Launch) (D : va_G) (cI cC cD : ClassId) (ad : Nat → Nat) (n ph mn : Nat) (ar : Nat → Nat → Int32) (i : Nat) (hn : n ≤ 6) (hn2 : 2 ≤ n) (hm : mn ≤ 80) (hi : i < mn) : RM l yX3_lose cX3_lose 2 (some .int) ({ frames := 2, cells := 0, slots := 0, locals := 82 }) D (ty3 cI cC cD) ENC [.ref (ad 0), .int (nI i)] ad (4 * n + 6) (cE ad cI cC cD n ph mn ar) (cE ad cI cC cD n ph (mn - 1) (va_up ar 10 (dr (ar 10) (5 * i) (5 * (mn - 1))))) (some (.int (nI (mn - 1)))) := by
  refine RM.of (by decide) (Nat.le_of_ble_eq_true rfl) ?_
  intro p e s m below meth c0 A ls args Q0 S hr hlk hQ wb hl
  have hx := S.1
  have hb := S.2.1
  have hl : lv_has ls 2 [(0, .ref (ad 0)), (1, .int (nI i))] := hl
  refine lv_aload_n hx hb dX3_lose_0 rfl (lv_at hl 0 rfl) ?_
  refine lv_iload_n hx hb dX3_lose_1 rfl (lv_at hl 1 rfl) ?_
  refine rb_callV S wb ENC_ok (k_reqL l D cI cC cD ad n ph mn ar i hn hn2 (by omega) (by omega)) (bw5 bw_328 bw_330 bw_13 bw_32 bw_331) (rb_recv wb 0 (by omega) rfl rfl) hdX3_requireLetter rfl ⟨rfl, rfl⟩ ⟨by decide, by decide⟩ hl.1 (Nat.le_of_ble_eq_true rfl) ⟨Nat.zero_le _, Nat.zero_le _⟩ (rest := []) (st1 := []) rfl rfl dX3_lose_2 (fun H locs wb => ?_)
  refine lv_aload_n hx hb dX3_lose_5 rfl (lv_at hl 0 rfl) ?_
  refine rb_get (v := .ref (ad 3)) S wb 0 (by omega) rfl rfl in3 3 (by decide) bw_129 rfl dX3_lose_6 ?_
  refine lv_iload_n hx hb dX3_lose_9 rfl (lv_at hl 1 rfl) ?_
  refine rb_callVN S wb ENC_ok (k_remove l D cI cC cD ad n ph mn ar i hn hn2 (by omega) (by omega)) (rc_nw wb nw_20) (bw4 bw_354 bw_15 bw_36 bw_355) (rb_recv wb 3 (by omega) rfl rfl) hdX2_remove rfl ⟨rfl, rfl⟩ ⟨by decide, by decide⟩ hl.1 (Nat.le_of_ble_eq_true rfl) ⟨Nat.zero_le _, Nat.zero_le _⟩ (rest := []) (st1 := []) rfl rfl dX3_lose_10 (fun H locs wb => ?_)
  refine lv_aload_n hx hb dX3_lose_13 rfl (lv_at hl 0 rfl) ?_
  refine rb_get (v := .ref (ad 3)) S wb 0 (by omega) rfl rfl in3 3 (by decide) bw_129 rfl dX3_lose_14 ?_
  refine rb_getN (v := .int (nI (mn - 1))) S wb 3 (by omega) rfl rfl in2 1 (by decide) (rc_nw wb nw_12) rfl dX3_lose_17 ?_
  exact rb_iret S hr hlk hQ rfl wb (fun _ _ => rfl) dX3_lose_20

set_option maxHeartbeats 4000000 in
set_option maxRecDepth 100000 in
theorem c_twin (l : Launch) (D : va_G) (cI cC cD : ClassId) (ad : Nat → Nat) (n ph mn : Nat) (ar : Nat → Nat → Int32) (i : Nat) (hn : n ≤ 6) (hn2 : 2 ≤ n) (hi : i < mn) (h2 : mn ≤ 39) : RM l yX3_twin cX3_twin 2 (some .int) ({ frames := 1, cells := 0, slots := 0, locals := 26 }) D (ty3 cI cC cD) ENC [.ref (ad 0), .int (nI i)] ad (4 * n + 6) (cE ad cI cC cD n ph mn ar) (cE ad cI cC cD n ph (mn + 1) (va_up ar 10 (put5 (ar 10) (5 * mn) (ar 10 (5 * i)) (ar 10 (5 * i + 1)) (ar 10 (5 * i + 2)) (ar 10 (5 * i + 3)) (ar 10 (5 * i + 4))))) (some (.int (nI (mn + 1)))) := by
  refine RM.of (by decide) (Nat.le_of_ble_eq_true rfl) ?_
  intro p e s m below meth c0 A ls args Q0 S hr hlk hQ wb hl
  have hx := S.1
  have hb := S.2.1
  have hl : lv_has ls 2 [(0, .ref (ad 0)), (1, .int (nI i))] := hl
  refine lv_aload_n hx hb dX3_twin_0 rfl (lv_at hl 0 rfl) ?_
  refine lv_iload_n hx hb dX3_twin_1 rfl (lv_at hl 1 rfl) ?_
  refine rb_callV S wb ENC_ok (k_reqL l D cI cC cD ad n ph mn ar i hn hn2 (by omega) (by omega)) (bw5 bw_328 bw_330 bw_13 bw_32 bw_331) (rb_recv wb 0 (by omega) rfl rfl) hdX3_requireLetter rfl ⟨rfl, rfl⟩ ⟨by decide, by decide⟩ hl.1 (Nat.le_of_ble_eq_true rfl) ⟨Nat.zero_le _, Nat.zero_le _⟩ (rest := []) (st1 := []) rfl rfl dX3_twin_2 (fun H locs wb => ?_)
  refine lv_aload_n hx hb dX3_twin_5 rfl (lv_at hl 0 rfl) ?_
  refine rb_get (v := .ref (ad 3)) S wb 0 (by omega) rfl rfl in3 3 (by decide) bw_129 rfl dX3_twin_6 ?_
  refine rb_getN (v := .int (nI mn)) S wb 3 (by omega) rfl rfl in2 1 (by decide) (rc_nw wb nw_12) rfl dX3_twin_9 ?_
  refine lv_bipush (v := nI 40) hx hb dX3_twin_12 (by decide) ?_
  refine nb_icmp_ge (tgt := 21) hx hb dX3_twin_14 (by decide) (by omega) (by omega) (fun h14 => absurd h14 (by omega)) (fun h14 => ?_)
  refine lv_iconst (v := nI 1) hx hb dX3_twin_17 (by decide) ?_
  refine lv_goto (tgt := 22) hx hb dX3_twin_18 (by decide) ?_
  refine rb_callS S wb ENC_ok (k_reqS l D cI cC cD ad n ph mn ar hn hn2) (bw4 bw_249 bw_250 bw_32 bw_251) hdX3_requireState rfl ⟨rfl, rfl⟩ ⟨by decide, by decide⟩ hl.1 (Nat.le_of_ble_eq_true rfl) ⟨Nat.zero_le _, Nat.zero_le _⟩ (rest := []) (st1 := []) rfl rfl dX3_twin_22 (fun H locs wb => ?_)
  refine lv_aload_n hx hb dX3_twin_25 rfl (lv_at hl 0 rfl) ?_
  refine rb_get (v := .ref (ad 3)) S wb 0 (by omega) rfl rfl in3 3 (by decide) bw_129 rfl dX3_twin_26 ?_
  refine lv_aload_n hx hb dX3_twin_29 rfl (lv_at hl 0 rfl) ?_
  refine rb_get (v := .ref (ad 3)) S wb 0 (by omega) rfl rfl in3 3 (by decide) bw_129 rfl dX3_twin_30 ?_
  refine lv_iload_n hx hb dX3_twin_33 rfl (lv_at hl 1 rfl) ?_
  refine lv_iconst (v := nI 0) hx hb dX3_twin_34 (by decide) ?_
  refine rb_callVN S wb ENC_ok (k_part l D cI cC cD ad n ph mn ar i 0 hn hn2 (by omega) (by omega)) (rc_nw wb nw_19) (bw4 bw_350 bw_14 bw_36 bw_351) (rb_recv wb 3 (by omega) rfl rfl) hdX2_part rfl ⟨rfl, rfl⟩ ⟨by decide, by decide⟩ hl.1 (Nat.le_of_ble_eq_true rfl) ⟨Nat.zero_le _, Nat.zero_le _⟩ (rest := [.ref (ad 3)]) (st1 := [.int (ar 10 (5 * i + 0)), .ref (ad 3)]) rfl rfl dX3_twin_35 (fun H locs wb => ?_)
  refine lv_aload_n hx hb dX3_twin_38 rfl (lv_at hl 0 rfl) ?_
  refine rb_get (v := .ref (ad 3)) S wb 0 (by omega) rfl rfl in3 3 (by decide) bw_129 rfl dX3_twin_39 ?_
  refine lv_iload_n hx hb dX3_twin_42 rfl (lv_at hl 1 rfl) ?_
  refine lv_iconst (v := nI 1) hx hb dX3_twin_43 (by decide) ?_
  refine rb_callVN S wb ENC_ok (k_part l D cI cC cD ad n ph mn ar i 1 hn hn2 (by omega) (by omega)) (rc_nw wb nw_19) (bw4 bw_350 bw_14 bw_36 bw_351) (rb_recv wb 3 (by omega) rfl rfl) hdX2_part rfl ⟨rfl, rfl⟩ ⟨by decide, by decide⟩ hl.1 (Nat.le_of_ble_eq_true rfl) ⟨Nat.zero_le _, Nat.zero_le _⟩ (rest := [.int (ar 10 (5 * i + 0)), .ref (ad 3)]) (st1 := [.int (ar 10 (5 * i + 1)), .int (ar 10 (5 * i + 0)), .ref (ad 3)]) rfl rfl dX3_twin_44 (fun H locs wb => ?_)
  refine lv_aload_n hx hb dX3_twin_47 rfl (lv_at hl 0 rfl) ?_
  refine rb_get (v := .ref (ad 3)) S wb 0 (by omega) rfl rfl in3 3 (by decide) bw_129 rfl dX3_twin_48 ?_
  refine lv_iload_n hx hb dX3_twin_51 rfl (lv_at hl 1 rfl) ?_
  refine lv_iconst (v := nI 2) hx hb dX3_twin_52 (by decide) ?_
  refine rb_callVN S wb ENC_ok (k_part l D cI cC cD ad n ph mn ar i 2 hn hn2 (by omega) (by omega)) (rc_nw wb nw_19) (bw4 bw_350 bw_14 bw_36 bw_351) (rb_recv wb 3 (by omega) rfl rfl) hdX2_part rfl ⟨rfl, rfl⟩ ⟨by decide, by decide⟩ hl.1 (Nat.le_of_ble_eq_true rfl) ⟨Nat.zero_le _, Nat.zero_le _⟩ (rest := [.int (ar 10 (5 * i + 1)), .int (ar 10 (5 * i + 0)), .ref (ad 3)]) (st1 := [.int (ar 10 (5 * i + 2)), .int (ar 10 (5 * i + 1)), .int (ar 10 (5 * i + 0)), .ref (ad 3)]) rfl rfl dX3_twin_53 (fun H locs wb => ?_)
  refine lv_aload_n hx hb dX3_twin_56 rfl (lv_at hl 0 rfl) ?_
  refine rb_get (v := .ref (ad 3)) S wb 0 (by omega) rfl rfl in3 3 (by decide) bw_129 rfl dX3_twin_57 ?_
  refine lv_iload_n hx hb dX3_twin_60 rfl (lv_at hl 1 rfl) ?_
  refine lv_iconst (v := nI 3) hx hb dX3_twin_61 (by decide) ?_
  refine rb_callVN S wb ENC_ok (k_part l D cI cC cD ad n ph mn ar i 3 hn hn2 (by omega) (by omega)) (rc_nw wb nw_19) (bw4 bw_350 bw_14 bw_36 bw_351) (rb_recv wb 3 (by omega) rfl rfl) hdX2_part rfl ⟨rfl, rfl⟩ ⟨by decide, by decide⟩ hl.1 (Nat.le_of_ble_eq_true rfl) ⟨Nat.zero_le _, Nat.zero_le _⟩ (rest := [.int (ar 10 (5 * i + 2)), .int (ar 10 (5 * i + 1)), .int (ar 10 (5 * i + 0)), .ref (ad 3)]) (st1 := [.int (ar 10 (5 * i + 3)), .int (ar 10 (5 * i + 2)), .int (ar 10 (5 * i + 1)), .int (ar 10 (5 * i + 0)), .ref (ad 3)]) rfl rfl dX3_twin_62 (fun H locs wb => ?_)
  refine lv_aload_n hx hb dX3_twin_65 rfl (lv_at hl 0 rfl) ?_
  refine rb_get (v := .ref (ad 3)) S wb 0 (by omega) rfl rfl in3 3 (by decide) bw_129 rfl dX3_twin_66 ?_
  refine lv_iload_n hx hb dX3_twin_69 rfl (lv_at hl 1 rfl) ?_
  refine lv_iconst (v := nI 4) hx hb dX3_twin_70 (by decide) ?_
  refine rb_callVN S wb ENC_ok (k_part l D cI cC cD ad n ph mn ar i 4 hn hn2 (by omega) (by omega)) (rc_nw wb nw_19) (bw4 bw_350 bw_14 bw_36 bw_351) (rb_recv wb 3 (by omega) rfl rfl) hdX2_part rfl ⟨rfl, rfl⟩ ⟨by decide, by decide⟩ hl.1 (Nat.le_of_ble_eq_true rfl) ⟨Nat.zero_le _, Nat.zero_le _⟩ (rest := [.int (ar 10 (5 * i + 3)), .int (ar 10 (5 * i + 2)), .int (ar 10 (5 * i + 1)), .int (ar 10 (5 * i + 0)), .ref (ad 3)]) (st1 := [.int (ar 10 (5 * i + 4)), .int (ar 10 (5 * i + 3)), .int (ar 10 (5 * i + 2)), .int (ar 10 (5 * i + 1)), .int (ar 10 (5 * i + 0)), .ref (ad 3)]) rfl rfl dX3_twin_71 (fun H locs wb => ?_)
  refine rb_callVN S wb ENC_ok (k_add l D cI cC cD ad n ph mn ar (ar 10 (5 * i + 0)) (ar 10 (5 * i + 1)) (ar 10 (5 * i + 2)) (ar 10 (5 * i + 3)) (ar 10 (5 * i + 4)) hn hn2 (by omega)) (rc_nw wb nw_18) (bw4 bw_311 bw_12 bw_36 bw_312) (rb_recv wb 3 (by omega) rfl rfl) hdX2_add rfl ⟨rfl, rfl⟩ ⟨by decide, by decide⟩ hl.1 (Nat.le_of_ble_eq_true rfl) ⟨Nat.zero_le _, Nat.zero_le _⟩ (rest := []) (st1 := []) rfl rfl dX3_twin_74 (fun H locs wb => ?_)
  refine lv_aload_n hx hb dX3_twin_77 rfl (lv_at hl 0 rfl) ?_
  refine rb_get (v := .ref (ad 3)) S wb 0 (by omega) rfl rfl in3 3 (by decide) bw_129 rfl dX3_twin_78 ?_
  refine rb_getN (v := .int (nI (mn + 1))) S wb 3 (by omega) rfl rfl in2 1 (by decide) (rc_nw wb nw_12) rfl dX3_twin_81 ?_
  exact rb_iret S hr hlk hQ rfl wb (fun _ _ => rfl) dX3_twin_84

set_option maxHeartbeats 4000000 in
set_option maxRecDepth 100000 in
theorem c_resend (l : Launch) (D : va_G) (cI cC cD : ClassId) (ad : Nat → Nat) (n ph mn : Nat) (ar : Nat → Nat → Int32) (c : Nat) (hn : n ≤ 6) (hn2 : 2 ≤ n) (hc : c < n) (h1 : ¬ ar 6 c = 0) (h2 : mn ≤ 39) : RM l yX3_resend cX3_resend 2 (some .int) ({ frames := 2, cells := 0, slots := 0, locals := 48 }) D (ty3 cI cC cD) ENC [.ref (ad 0), .int (nI c)] ad (4 * n + 6) (cE ad cI cC cD n ph mn ar) (cE ad cI cC cD n ph (mn + 1) (va_up ar 10 (put5 (ar 10) (5 * mn) (nI 0) (nI c) (ar 7 c) (ar 8 c) (ar 9 c)))) (some (.int (nI (mn + 1)))) := by
  refine RM.of (by decide) (Nat.le_of_ble_eq_true rfl) ?_
  intro p e s m below meth c0 A ls args Q0 S hr hlk hQ wb hl
  have hx := S.1
  have hb := S.2.1
  have hl : lv_has ls 2 [(0, .ref (ad 0)), (1, .int (nI c))] := hl
  refine lv_aload_n hx hb dX3_resend_0 rfl (lv_at hl 0 rfl) ?_
  refine lv_iload_n hx hb dX3_resend_1 rfl (lv_at hl 1 rfl) ?_
  refine rb_callV S wb ENC_ok (k_isIndex l D cI cC cD ad n ph mn ar (nI c) hn hn2 (nI 1) (tells_t (no_f (by omega) (by omega)))) (bw5 bw_169 bw_171 bw_1 bw_32 bw_172) (rb_recv wb 0 (by omega) rfl rfl) hdX3_isIndex rfl ⟨rfl, rfl⟩ ⟨by decide, by decide⟩ hl.1 (Nat.le_of_ble_eq_true rfl) ⟨Nat.zero_le _, Nat.zero_le _⟩ (rest := []) (st1 := [.int (nI 1)]) rfl rfl dX3_resend_2 (fun H locs wb => ?_)
  refine rb_callS S wb ENC_ok (k_reqA l D cI cC cD ad n ph mn ar hn hn2) (bw4 bw_173 bw_174 bw_32 bw_175) hdX3_requireArgument rfl ⟨rfl, rfl⟩ ⟨by decide, by decide⟩ hl.1 (Nat.le_of_ble_eq_true rfl) ⟨Nat.zero_le _, Nat.zero_le _⟩ (rest := []) (st1 := []) rfl rfl dX3_resend_5 (fun H locs wb => ?_)
  refine lv_aload_n hx hb dX3_resend_8 rfl (lv_at hl 0 rfl) ?_
  refine rb_get (v := .ref (ad 1)) S wb 0 (by omega) rfl rfl in3 1 (by decide) bw_127 rfl dX3_resend_9 ?_
  refine lv_iload_n hx hb dX3_resend_12 rfl (lv_at hl 1 rfl) ?_
  refine rb_aald (n := n) (a := ad (4 * c + 6)) S wb 1 (by omega) rfl 1 rfl c (by omega) (by omega) rfl dX3_resend_13 ?_
  refine rb_getN (v := .int (ar 6 c)) S wb (4 * c + 6) (by omega) (cE_crew c) rfl in0 2 (by decide) (rc_nw wb nw_3) rfl dX3_resend_14 ?_
  refine lv_if_eq (tgt := 36) hx hb dX3_resend_17 (by decide) (fun h17 => absurd h17 h1) (fun h17 => ?_)
  refine lv_aload_n hx hb dX3_resend_20 rfl (lv_at hl 0 rfl) ?_
  refine rb_get (v := .ref (ad 3)) S wb 0 (by omega) rfl rfl in3 3 (by decide) bw_129 rfl dX3_resend_21 ?_
  refine rb_getN (v := .int (nI mn)) S wb 3 (by omega) rfl rfl in2 1 (by decide) (rc_nw wb nw_12) rfl dX3_resend_24 ?_
  refine lv_bipush (v := nI 40) hx hb dX3_resend_27 (by decide) ?_
  refine nb_icmp_ge (tgt := 36) hx hb dX3_resend_29 (by decide) (by omega) (by omega) (fun h29 => absurd h29 (by omega)) (fun h29 => ?_)
  refine lv_iconst (v := nI 1) hx hb dX3_resend_32 (by decide) ?_
  refine lv_goto (tgt := 37) hx hb dX3_resend_33 (by decide) ?_
  refine rb_callS S wb ENC_ok (k_reqS l D cI cC cD ad n ph mn ar hn hn2) (bw4 bw_249 bw_250 bw_32 bw_251) hdX3_requireState rfl ⟨rfl, rfl⟩ ⟨by decide, by decide⟩ hl.1 (Nat.le_of_ble_eq_true rfl) ⟨Nat.zero_le _, Nat.zero_le _⟩ (rest := []) (st1 := []) rfl rfl dX3_resend_37 (fun H locs wb => ?_)
  refine lv_aload_n hx hb dX3_resend_40 rfl (lv_at hl 0 rfl) ?_
  refine lv_iload_n hx hb dX3_resend_41 rfl (lv_at hl 1 rfl) ?_
  refine rb_callV S wb ENC_ok (k_sendBid l D cI cC cD ad n ph mn ar c hn hn2 (by omega) (by omega)) (bw5 bw_305 bw_307 bw_11 bw_32 bw_308) (rb_recv wb 0 (by omega) rfl rfl) hdX3_sendBid rfl ⟨rfl, rfl⟩ ⟨by decide, by decide⟩ hl.1 (Nat.le_of_ble_eq_true rfl) ⟨Nat.zero_le _, Nat.zero_le _⟩ (rest := []) (st1 := []) rfl rfl dX3_resend_42 (fun H locs wb => ?_)
  refine lv_aload_n hx hb dX3_resend_45 rfl (lv_at hl 0 rfl) ?_
  refine rb_get (v := .ref (ad 3)) S wb 0 (by omega) rfl rfl in3 3 (by decide) bw_129 rfl dX3_resend_46 ?_
  refine rb_getN (v := .int (nI (mn + 1))) S wb 3 (by omega) rfl rfl in2 1 (by decide) (rc_nw wb nw_12) rfl dX3_resend_49 ?_
  exact rb_iret S hr hlk hQ rfl wb (fun _ _ => rfl) dX3_resend_52

set_option maxHeartbeats 4000000 in
set_option maxRecDepth 100000 in
theorem c_act (l : Launch) (D : va_G) (cI cC cD : ClassId) (ad : Nat → Nat) (n ph mn : Nat) (ar : Nat → Nat → Int32) (c b sd : Nat) (hn : n ≤ 6) (hn2 : 2 ≤ n) (hc : c < n) (hph : ph ≤ 3) (h1 : ar 6 c = 0) (h2 : mn ≤ 39) (hbb : b = bst (vl n ar c) (n - 1)) (hss : sd = sc2 (vl n ar c) b (s0of b) n) : RM l yX3_act cX3_act 3 (some .int) ({ frames := 4, cells := 0, slots := 0, locals := 86 }) D (ty3 cI cC cD) ENC [.ref (ad 0), .int (nI c)] ad (4 * n + 6) (cE ad cI cC cD n ph mn ar) (cE ad cI cC cD n ph (mn + 1) (va_up (va_up (va_up (va_up (va_up (va_up ar 6 (upd (ar 6) c (nI 1))) 7 (upd (ar 7) c (nI b))) 8 (upd (ar 8) c (ar 8 c + nI 1))) 9 (upd (ar 9) c (ar 2 (6 * c + b) + vl n ar c b - vl n ar c sd + stp ph))) 10 (put5 (ar 10) (5 * mn) (nI 0) (nI c) (nI b) (ar 8 c + nI 1) (ar 2 (6 * c + b) + vl n ar c b - vl n ar c sd + stp ph))) 11 (upd (ar 11) 0 (ar 11 0 + nI 1)))) (some (.int (nI b))) := by
  refine RM.of (by decide) (Nat.le_of_ble_eq_true rfl) ?_
  intro p e s m below meth c0 A ls args Q0 S hr hlk hQ wb hl
  have hx := S.1
  have hb := S.2.1
  have hl : lv_has ls 3 [(0, .ref (ad 0)), (1, .int (nI c))] := hl
  refine lv_aload_n hx hb dX3_act_0 rfl (lv_at hl 0 rfl) ?_
  refine lv_iload_n hx hb dX3_act_1 rfl (lv_at hl 1 rfl) ?_
  refine rb_callV S wb ENC_ok (k_isIndex l D cI cC cD ad n ph mn ar (nI c) hn hn2 (nI 1) (tells_t (no_f (by omega) (by omega)))) (bw5 bw_169 bw_171 bw_1 bw_32 bw_172) (rb_recv wb 0 (by omega) rfl rfl) hdX3_isIndex rfl ⟨rfl, rfl⟩ ⟨by decide, by decide⟩ hl.1 (Nat.le_of_ble_eq_true rfl) ⟨Nat.zero_le _, Nat.zero_le _⟩ (rest := []) (st1 := [.int (nI 1)]) rfl rfl dX3_act_2 (fun H locs wb => ?_)
  refine rb_callS S wb ENC_ok (k_reqA l D cI cC cD ad n ph mn ar hn hn2) (bw4 bw_173 bw_174 bw_32 bw_175) hdX3_requireArgument rfl ⟨rfl, rfl⟩ ⟨by decide, by decide⟩ hl.1 (Nat.le_of_ble_eq_true rfl) ⟨Nat.zero_le _, Nat.zero_le _⟩ (rest := []) (st1 := []) rfl rfl dX3_act_5 (fun H locs wb => ?_)
  refine lv_aload_n hx hb dX3_act_8 rfl (lv_at hl 0 rfl) ?_
  refine rb_get (v := .ref (ad 1)) S wb 0 (by omega) rfl rfl in3 1 (by decide) bw_127 rfl dX3_act_9 ?_
  refine lv_iload_n hx hb dX3_act_12 rfl (lv_at hl 1 rfl) ?_
  refine rb_aald (n := n) (a := ad (4 * c + 6)) S wb 1 (by omega) rfl 1 rfl c (by omega) (by omega) rfl dX3_act_13 ?_
  refine lv_astore_n (lv' := [(2, .ref (ad (4 * c + 6))), (0, .ref (ad 0)), (1, .int (nI c))]) hx hb dX3_act_14 rfl hl (by decide) rfl (fun ls hl => ?_)
  refine lv_aload_n hx hb dX3_act_15 rfl (lv_at hl 0 rfl) ?_
  refine rb_getN (v := .int (ar 6 c)) S wb (4 * c + 6) (by omega) (cE_crew c) rfl in0 2 (by decide) (rc_nw wb nw_3) rfl dX3_act_16 ?_
  refine lv_if_ne (tgt := 38) hx hb dX3_act_19 (by decide) (fun h19 => absurd h1 h19) (fun h19 => ?_)
  refine lv_aload_n hx hb dX3_act_22 rfl (lv_at hl 1 rfl) ?_
  refine rb_get (v := .ref (ad 3)) S wb 0 (by omega) rfl rfl in3 3 (by decide) bw_129 rfl dX3_act_23 ?_
  refine rb_getN (v := .int (nI mn)) S wb 3 (by omega) rfl rfl in2 1 (by decide) (rc_nw wb nw_12) rfl dX3_act_26 ?_
  refine lv_bipush (v := nI 40) hx hb dX3_act_29 (by decide) ?_
  refine nb_icmp_ge (tgt := 38) hx hb dX3_act_31 (by decide) (by omega) (by omega) (fun h31 => absurd h31 (by omega)) (fun h31 => ?_)
  refine lv_iconst (v := nI 1) hx hb dX3_act_34 (by decide) ?_
  refine lv_goto (tgt := 39) hx hb dX3_act_35 (by decide) ?_
  refine rb_callS S wb ENC_ok (k_reqS l D cI cC cD ad n ph mn ar hn hn2) (bw4 bw_249 bw_250 bw_32 bw_251) hdX3_requireState rfl ⟨rfl, rfl⟩ ⟨by decide, by decide⟩ hl.1 (Nat.le_of_ble_eq_true rfl) ⟨Nat.zero_le _, Nat.zero_le _⟩ (rest := []) (st1 := []) rfl rfl dX3_act_39 (fun H locs wb => ?_)
  refine lv_aload_n hx hb dX3_act_42 rfl (lv_at hl 0 rfl) ?_
  refine rb_steps S wb bw_287 dX3_act_43 (fun tS hTS => ?_)
  refine lv_aload_n hx hb dX3_act_46 rfl (lv_at hl 1 rfl) ?_
  refine rb_get (v := .int (nI ph)) S wb 0 (by omega) rfl rfl in3 5 (by decide) bw_131 rfl dX3_act_47 ?_
  refine rb_stepAt S wb hTS ph (by omega) dX3_act_50 ?_
  refine rb_callVN S wb ENC_ok (k_choose l D cI cC cD ad n ph mn ar c b sd (stp ph) hn hn2 (by omega) hbb hss) (rc_nw wb nw_17) (bw4 bw_291 bw_7 bw_34 bw_292) (rb_recv wb (4 * c + 6) (by omega) (cE_crew c) rfl) hdX0_chooseBid rfl ⟨rfl, rfl⟩ ⟨by decide, by decide⟩ hl.1 (Nat.le_of_ble_eq_true rfl) ⟨Nat.zero_le _, Nat.zero_le _⟩ (rest := []) (st1 := []) rfl rfl dX3_act_51 (fun H locs wb => ?_)
  refine lv_aload_n hx hb dX3_act_54 rfl (lv_at hl 1 rfl) ?_
  refine rb_get (v := .ref (ad 5)) S wb 0 (by omega) rfl rfl in3 4 (by decide) bw_130 rfl dX3_act_55 ?_
  refine lv_iconst (v := nI 0) hx hb dX3_act_58 (by decide) ?_
  refine lv_dup2_11 hx hb dX3_act_59 rfl rfl ?_
  refine rb_ald (n := 4) (f := ar 11) (x := ar 11 0) S wb 5 (by omega) rfl 0 rfl 0 (by omega) (by decide) rfl dX3_act_60 ?_
  refine lv_iconst (v := nI 1) hx hb dX3_act_61 (by decide) ?_
  refine lv_iadd hx hb dX3_act_62 ?_
  refine rb_ast (E' := cE ad cI cC cD n ph mn (va_up (va_up (va_up (va_up (va_up ar 7 (upd (ar 7) c (nI b))) 9 (upd (ar 9) c (ar 2 (6 * c + b) + vl n ar c b - vl n ar c sd + stp ph))) 8 (upd (ar 8) c (ar 8 c + nI 1))) 6 (upd (ar 6) c (nI 1))) 11 (upd (ar 11) 0 ((ar 11 0) + (nI 1))))) (n := 4) (f := ar 11) S wb 5 (by omega) rfl 0 rfl 0 (by omega) (by decide) (fun q _ => cu_ct _ q) dX3_act_63 (fun H locs wb => ?_)
  refine lv_aload_n hx hb dX3_act_64 rfl (lv_at hl 1 rfl) ?_
  refine lv_iload_n hx hb dX3_act_65 rfl (lv_at hl 2 rfl) ?_
  refine rb_callV S wb ENC_ok (k_sendBid l D cI cC cD ad n ph mn (va_up (va_up (va_up (va_up (va_up ar 7 (upd (ar 7) c (nI b))) 9 (upd (ar 9) c (ar 2 (6 * c + b) + vl n ar c b - vl n ar c sd + stp ph))) 8 (upd (ar 8) c (ar 8 c + nI 1))) 6 (upd (ar 6) c (nI 1))) 11 (upd (ar 11) 0 ((ar 11 0) + (nI 1)))) c hn hn2 (by omega) (by omega)) (bw5 bw_305 bw_307 bw_11 bw_32 bw_308) (rb_recv wb 0 (by omega) rfl rfl) hdX3_sendBid rfl ⟨rfl, rfl⟩ ⟨by decide, by decide⟩ hl.1 (Nat.le_of_ble_eq_true rfl) ⟨Nat.zero_le _, Nat.zero_le _⟩ (rest := []) (st1 := []) rfl rfl dX3_act_66 (fun H locs wb => ?_)
  refine lv_aload_n hx hb dX3_act_69 rfl (lv_at hl 0 rfl) ?_
  refine rb_getN (v := .int ((upd (ar 7) c (nI b)) c)) S wb (4 * c + 6) (by omega) (cE_crew c) rfl in0 3 (by decide) (rc_nw wb nw_4) rfl dX3_act_70 ?_
  refine nb_ren (y := nI b) pk_us ?_
  have ep : put5 (ar 10) (5 * mn) (nI 0) (nI c) (upd (ar 7) c (nI b) c) (upd (ar 8) c (ar 8 c + nI 1) c) (upd (ar 9) c (ar 2 (6 * c + b) + vl n ar c b - vl n ar c sd + stp ph) c) = put5 (ar 10) (5 * mn) (nI 0) (nI c) (nI b) (ar 8 c + nI 1) (ar 2 (6 * c + b) + vl n ar c b - vl n ar c sd + stp ph) := by rw [pk_us, pk_us, pk_us]
  exact rb_iret S hr hlk hQ rfl wb (fun q _ => by refine congrFun (congrArg (cE ad cI cC cD n ph (mn + 1)) ?_) q; exact (up_ext rfl rfl rfl rfl rfl rfl rfl rfl rfl ep rfl (fun q hq => by repeat rw [va_up_ne _ _ (by omega)]))) dX3_act_73

set_option maxHeartbeats 4000000 in
set_option maxRecDepth 100000 in
theorem c_deliver_b (l : Launch) (D : va_G) (cI cC cD : ClassId) (ad : Nat → Nat) (n ph mn : Nat) (ar : Nat → Nat → Int32) (i c j : Nat) (hn : n ≤ 6) (hn2 : 2 ≤ n) (hph : ph ≤ 3) (hm : mn ≤ 79) (hi : i < mn) (hc : c < n) (hj : j < n) (ec : ar 10 (5 * i + 1) = nI c) (ej : ar 10 (5 * i + 2) = nI j) (hk : ar 10 (5 * i) = 0) : RM l yX3_deliver cX3_deliver 7 (some .int) ({ frames := 3, cells := 0, slots := 0, locals := 82 }) D (ty3 cI cC cD) ENC [.ref (ad 0), .int (nI i)] ad (4 * n + 6) (cE ad cI cC cD n ph mn ar) (cE ad cI cC cD n ph (bidC (stp ph) (mn - 1) (va_up ar 10 (dr (ar 10) (5 * i) (5 * (mn - 1)))) c j (ar 10 (5 * i + 3)) (ar 10 (5 * i + 4))).1 (bidC (stp ph) (mn - 1) (va_up ar 10 (dr (ar 10) (5 * i) (5 * (mn - 1)))) c j (ar 10 (5 * i + 3)) (ar 10 (5 * i + 4))).2) (some (.int (ar 10 (5 * i)))) := by
  refine RM.of (by decide) (Nat.le_of_ble_eq_true rfl) ?_
  intro p e s m below meth c0 A ls args Q0 S hr hlk hQ wb hl
  have hx := S.1
  have hb := S.2.1
  have hl : lv_has ls 7 [(0, .ref (ad 0)), (1, .int (nI i))] := hl
  refine lv_aload_n hx hb dX3_deliver_0 rfl (lv_at hl 0 rfl) ?_
  refine lv_iload_n hx hb dX3_deliver_1 rfl (lv_at hl 1 rfl) ?_
  refine rb_callV S wb ENC_ok (k_reqL l D cI cC cD ad n ph mn ar i hn hn2 (by omega) (by omega)) (bw5 bw_328 bw_330 bw_13 bw_32 bw_331) (rb_recv wb 0 (by omega) rfl rfl) hdX3_requireLetter rfl ⟨rfl, rfl⟩ ⟨by decide, by decide⟩ hl.1 (Nat.le_of_ble_eq_true rfl) ⟨Nat.zero_le _, Nat.zero_le _⟩ (rest := []) (st1 := []) rfl rfl dX3_deliver_2 (fun H locs wb => ?_)
  refine lv_aload_n hx hb dX3_deliver_5 rfl (lv_at hl 0 rfl) ?_
  refine rb_get (v := .ref (ad 3)) S wb 0 (by omega) rfl rfl in3 3 (by decide) bw_129 rfl dX3_deliver_6 ?_
  refine lv_iload_n hx hb dX3_deliver_9 rfl (lv_at hl 1 rfl) ?_
  refine lv_iconst (v := nI 0) hx hb dX3_deliver_10 (by decide) ?_
  refine rb_callVN S wb ENC_ok (k_part l D cI cC cD ad n ph mn ar i 0 hn hn2 (by omega) (by omega)) (rc_nw wb nw_19) (bw4 bw_350 bw_14 bw_36 bw_351) (rb_recv wb 3 (by omega) rfl rfl) hdX2_part rfl ⟨rfl, rfl⟩ ⟨by decide, by decide⟩ hl.1 (Nat.le_of_ble_eq_true rfl) ⟨Nat.zero_le _, Nat.zero_le _⟩ (rest := []) (st1 := [.int (ar 10 (5 * i + 0))]) rfl rfl dX3_deliver_11 (fun H locs wb => ?_)
  refine lv_istore_n (lv' := [(2, .int (ar 10 (5 * i + 0))), (0, .ref (ad 0)), (1, .int (nI i))]) hx hb dX3_deliver_14 rfl hl (by decide) rfl (fun ls hl => ?_)
  refine lv_aload_n hx hb dX3_deliver_15 rfl (lv_at hl 1 rfl) ?_
  refine rb_get (v := .ref (ad 3)) S wb 0 (by omega) rfl rfl in3 3 (by decide) bw_129 rfl dX3_deliver_16 ?_
  refine lv_iload_n hx hb dX3_deliver_19 rfl (lv_at hl 2 rfl) ?_
  refine lv_iconst (v := nI 1) hx hb dX3_deliver_20 (by decide) ?_
  refine rb_callVN S wb ENC_ok (k_part l D cI cC cD ad n ph mn ar i 1 hn hn2 (by omega) (by omega)) (rc_nw wb nw_19) (bw4 bw_350 bw_14 bw_36 bw_351) (rb_recv wb 3 (by omega) rfl rfl) hdX2_part rfl ⟨rfl, rfl⟩ ⟨by decide, by decide⟩ hl.1 (Nat.le_of_ble_eq_true rfl) ⟨Nat.zero_le _, Nat.zero_le _⟩ (rest := []) (st1 := [.int (ar 10 (5 * i + 1))]) rfl rfl dX3_deliver_21 (fun H locs wb => ?_)
  refine nb_ren (y := nI c) ec ?_
  refine lv_istore_n (lv' := [(3, .int (nI c)), (2, .int (ar 10 (5 * i + 0))), (0, .ref (ad 0)), (1, .int (nI i))]) hx hb dX3_deliver_24 rfl hl (by decide) rfl (fun ls hl => ?_)
  refine lv_aload_n hx hb dX3_deliver_25 rfl (lv_at hl 2 rfl) ?_
  refine rb_get (v := .ref (ad 3)) S wb 0 (by omega) rfl rfl in3 3 (by decide) bw_129 rfl dX3_deliver_26 ?_
  refine lv_iload_n hx hb dX3_deliver_29 rfl (lv_at hl 3 rfl) ?_
  refine lv_iconst (v := nI 2) hx hb dX3_deliver_30 (by decide) ?_
  refine rb_callVN S wb ENC_ok (k_part l D cI cC cD ad n ph mn ar i 2 hn hn2 (by omega) (by omega)) (rc_nw wb nw_19) (bw4 bw_350 bw_14 bw_36 bw_351) (rb_recv wb 3 (by omega) rfl rfl) hdX2_part rfl ⟨rfl, rfl⟩ ⟨by decide, by decide⟩ hl.1 (Nat.le_of_ble_eq_true rfl) ⟨Nat.zero_le _, Nat.zero_le _⟩ (rest := []) (st1 := [.int (ar 10 (5 * i + 2))]) rfl rfl dX3_deliver_31 (fun H locs wb => ?_)
  refine nb_ren (y := nI j) ej ?_
  refine lv_istore (lv' := [(4, .int (nI j)), (3, .int (nI c)), (2, .int (ar 10 (5 * i + 0))), (0, .ref (ad 0)), (1, .int (nI i))]) hx hb dX3_deliver_34 hl (by decide) rfl (fun ls hl => ?_)
  refine lv_aload_n hx hb dX3_deliver_36 rfl (lv_at hl 3 rfl) ?_
  refine rb_get (v := .ref (ad 3)) S wb 0 (by omega) rfl rfl in3 3 (by decide) bw_129 rfl dX3_deliver_37 ?_
  refine lv_iload_n hx hb dX3_deliver_40 rfl (lv_at hl 4 rfl) ?_
  refine lv_iconst (v := nI 3) hx hb dX3_deliver_41 (by decide) ?_
  refine rb_callVN S wb ENC_ok (k_part l D cI cC cD ad n ph mn ar i 3 hn hn2 (by omega) (by omega)) (rc_nw wb nw_19) (bw4 bw_350 bw_14 bw_36 bw_351) (rb_recv wb 3 (by omega) rfl rfl) hdX2_part rfl ⟨rfl, rfl⟩ ⟨by decide, by decide⟩ hl.1 (Nat.le_of_ble_eq_true rfl) ⟨Nat.zero_le _, Nat.zero_le _⟩ (rest := []) (st1 := [.int (ar 10 (5 * i + 3))]) rfl rfl dX3_deliver_42 (fun H locs wb => ?_)
  refine lv_istore (lv' := [(5, .int (ar 10 (5 * i + 3))), (4, .int (nI j)), (3, .int (nI c)), (2, .int (ar 10 (5 * i + 0))), (0, .ref (ad 0)), (1, .int (nI i))]) hx hb dX3_deliver_45 hl (by decide) rfl (fun ls hl => ?_)
  refine lv_aload_n hx hb dX3_deliver_47 rfl (lv_at hl 4 rfl) ?_
  refine rb_get (v := .ref (ad 3)) S wb 0 (by omega) rfl rfl in3 3 (by decide) bw_129 rfl dX3_deliver_48 ?_
  refine lv_iload_n hx hb dX3_deliver_51 rfl (lv_at hl 5 rfl) ?_
  refine lv_iconst (v := nI 4) hx hb dX3_deliver_52 (by decide) ?_
  refine rb_callVN S wb ENC_ok (k_part l D cI cC cD ad n ph mn ar i 4 hn hn2 (by omega) (by omega)) (rc_nw wb nw_19) (bw4 bw_350 bw_14 bw_36 bw_351) (rb_recv wb 3 (by omega) rfl rfl) hdX2_part rfl ⟨rfl, rfl⟩ ⟨by decide, by decide⟩ hl.1 (Nat.le_of_ble_eq_true rfl) ⟨Nat.zero_le _, Nat.zero_le _⟩ (rest := []) (st1 := [.int (ar 10 (5 * i + 4))]) rfl rfl dX3_deliver_53 (fun H locs wb => ?_)
  refine lv_istore (lv' := [(6, .int (ar 10 (5 * i + 4))), (5, .int (ar 10 (5 * i + 3))), (4, .int (nI j)), (3, .int (nI c)), (2, .int (ar 10 (5 * i + 0))), (0, .ref (ad 0)), (1, .int (nI i))]) hx hb dX3_deliver_56 hl (by decide) rfl (fun ls hl => ?_)
  refine lv_aload_n hx hb dX3_deliver_58 rfl (lv_at hl 5 rfl) ?_
  refine rb_get (v := .ref (ad 3)) S wb 0 (by omega) rfl rfl in3 3 (by decide) bw_129 rfl dX3_deliver_59 ?_
  refine lv_iload_n hx hb dX3_deliver_62 rfl (lv_at hl 6 rfl) ?_
  refine rb_callVN S wb ENC_ok (k_remove l D cI cC cD ad n ph mn ar i hn hn2 (by omega) (by omega)) (rc_nw wb nw_20) (bw4 bw_354 bw_15 bw_36 bw_355) (rb_recv wb 3 (by omega) rfl rfl) hdX2_remove rfl ⟨rfl, rfl⟩ ⟨by decide, by decide⟩ hl.1 (Nat.le_of_ble_eq_true rfl) ⟨Nat.zero_le _, Nat.zero_le _⟩ (rest := []) (st1 := []) rfl rfl dX3_deliver_63 (fun H locs wb => ?_)
  refine lv_iload_n hx hb dX3_deliver_66 rfl (lv_at hl 4 rfl) ?_
  refine lv_if_ne (tgt := 84) hx hb dX3_deliver_67 (by decide) (fun h67 => absurd hk h67) (fun h67 => ?_)
  refine lv_aload_n hx hb dX3_deliver_70 rfl (lv_at hl 5 rfl) ?_
  refine lv_iload_n hx hb dX3_deliver_71 rfl (lv_at hl 3 rfl) ?_
  refine lv_iload hx hb dX3_deliver_72 (lv_at hl 2 rfl) ?_
  refine lv_iload hx hb dX3_deliver_74 (lv_at hl 1 rfl) ?_
  refine lv_iload hx hb dX3_deliver_76 (lv_at hl 0 rfl) ?_
  refine rb_callV S wb ENC_ok (k_receiveBid l D cI cC cD ad n ph (mn - 1) (va_up ar 10 (dr (ar 10) (5 * i) (5 * (mn - 1)))) c j (ar 10 (5 * i + 3)) (ar 10 (5 * i + 4)) hn hn2 (by omega) (by omega) (by omega) (by omega)) (bw5 bw_359 bw_361 bw_16 bw_32 bw_362) (rb_recv wb 0 (by omega) rfl rfl) hdX3_receiveBid rfl ⟨rfl, rfl⟩ ⟨by decide, by decide⟩ hl.1 (Nat.le_of_ble_eq_true rfl) ⟨Nat.zero_le _, Nat.zero_le _⟩ (rest := []) (st1 := []) rfl rfl dX3_deliver_78 (fun H locs wb => ?_)
  refine lv_goto (tgt := 109) hx hb dX3_deliver_81 (by decide) ?_
  refine lv_iload_n hx hb dX3_deliver_109 rfl (lv_at hl 4 rfl) ?_
  exact rb_iret S hr hlk hQ rfl wb (fun _ _ => rfl) dX3_deliver_110

set_option maxHeartbeats 4000000 in
set_option maxRecDepth 100000 in
theorem c_deliver_a (l : Launch) (D : va_G) (cI cC cD : ClassId) (ad : Nat → Nat) (n ph mn : Nat) (ar : Nat → Nat → Int32) (i c j : Nat) (hn : n ≤ 6) (hn2 : 2 ≤ n) (hph : ph ≤ 3) (hm : mn ≤ 80) (hi : i < mn) (hc : c < n) (hj : j < n) (ec : ar 10 (5 * i + 1) = nI c) (ej : ar 10 (5 * i + 2) = nI j) (hk : ¬ ar 10 (5 * i) = 0) (ok : okS ar c) : RM l yX3_deliver cX3_deliver 7 (some .int) ({ frames := 2, cells := 0, slots := 0, locals := 82 }) D (ty3 cI cC cD) ENC [.ref (ad 0), .int (nI i)] ad (4 * n + 6) (cE ad cI cC cD n ph mn ar) (cE ad cI cC cD n ph (mn - 1) (ansC (va_up ar 10 (dr (ar 10) (5 * i) (5 * (mn - 1)))) (ar 10 (5 * i)) c j (ar 10 (5 * i + 3)) (ar 10 (5 * i + 4)))) (some (.int (ar 10 (5 * i)))) := by
  refine RM.of (by decide) (Nat.le_of_ble_eq_true rfl) ?_
  intro p e s m below meth c0 A ls args Q0 S hr hlk hQ wb hl
  have hx := S.1
  have hb := S.2.1
  have hl : lv_has ls 7 [(0, .ref (ad 0)), (1, .int (nI i))] := hl
  refine lv_aload_n hx hb dX3_deliver_0 rfl (lv_at hl 0 rfl) ?_
  refine lv_iload_n hx hb dX3_deliver_1 rfl (lv_at hl 1 rfl) ?_
  refine rb_callV S wb ENC_ok (k_reqL l D cI cC cD ad n ph mn ar i hn hn2 (by omega) (by omega)) (bw5 bw_328 bw_330 bw_13 bw_32 bw_331) (rb_recv wb 0 (by omega) rfl rfl) hdX3_requireLetter rfl ⟨rfl, rfl⟩ ⟨by decide, by decide⟩ hl.1 (Nat.le_of_ble_eq_true rfl) ⟨Nat.zero_le _, Nat.zero_le _⟩ (rest := []) (st1 := []) rfl rfl dX3_deliver_2 (fun H locs wb => ?_)
  refine lv_aload_n hx hb dX3_deliver_5 rfl (lv_at hl 0 rfl) ?_
  refine rb_get (v := .ref (ad 3)) S wb 0 (by omega) rfl rfl in3 3 (by decide) bw_129 rfl dX3_deliver_6 ?_
  refine lv_iload_n hx hb dX3_deliver_9 rfl (lv_at hl 1 rfl) ?_
  refine lv_iconst (v := nI 0) hx hb dX3_deliver_10 (by decide) ?_
  refine rb_callVN S wb ENC_ok (k_part l D cI cC cD ad n ph mn ar i 0 hn hn2 (by omega) (by omega)) (rc_nw wb nw_19) (bw4 bw_350 bw_14 bw_36 bw_351) (rb_recv wb 3 (by omega) rfl rfl) hdX2_part rfl ⟨rfl, rfl⟩ ⟨by decide, by decide⟩ hl.1 (Nat.le_of_ble_eq_true rfl) ⟨Nat.zero_le _, Nat.zero_le _⟩ (rest := []) (st1 := [.int (ar 10 (5 * i + 0))]) rfl rfl dX3_deliver_11 (fun H locs wb => ?_)
  refine lv_istore_n (lv' := [(2, .int (ar 10 (5 * i + 0))), (0, .ref (ad 0)), (1, .int (nI i))]) hx hb dX3_deliver_14 rfl hl (by decide) rfl (fun ls hl => ?_)
  refine lv_aload_n hx hb dX3_deliver_15 rfl (lv_at hl 1 rfl) ?_
  refine rb_get (v := .ref (ad 3)) S wb 0 (by omega) rfl rfl in3 3 (by decide) bw_129 rfl dX3_deliver_16 ?_
  refine lv_iload_n hx hb dX3_deliver_19 rfl (lv_at hl 2 rfl) ?_
  refine lv_iconst (v := nI 1) hx hb dX3_deliver_20 (by decide) ?_
  refine rb_callVN S wb ENC_ok (k_part l D cI cC cD ad n ph mn ar i 1 hn hn2 (by omega) (by omega)) (rc_nw wb nw_19) (bw4 bw_350 bw_14 bw_36 bw_351) (rb_recv wb 3 (by omega) rfl rfl) hdX2_part rfl ⟨rfl, rfl⟩ ⟨by decide, by decide⟩ hl.1 (Nat.le_of_ble_eq_true rfl) ⟨Nat.zero_le _, Nat.zero_le _⟩ (rest := []) (st1 := [.int (ar 10 (5 * i + 1))]) rfl rfl dX3_deliver_21 (fun H locs wb => ?_)
  refine nb_ren (y := nI c) ec ?_
  refine lv_istore_n (lv' := [(3, .int (nI c)), (2, .int (ar 10 (5 * i + 0))), (0, .ref (ad 0)), (1, .int (nI i))]) hx hb dX3_deliver_24 rfl hl (by decide) rfl (fun ls hl => ?_)
  refine lv_aload_n hx hb dX3_deliver_25 rfl (lv_at hl 2 rfl) ?_
  refine rb_get (v := .ref (ad 3)) S wb 0 (by omega) rfl rfl in3 3 (by decide) bw_129 rfl dX3_deliver_26 ?_
  refine lv_iload_n hx hb dX3_deliver_29 rfl (lv_at hl 3 rfl) ?_
  refine lv_iconst (v := nI 2) hx hb dX3_deliver_30 (by decide) ?_
  refine rb_callVN S wb ENC_ok (k_part l D cI cC cD ad n ph mn ar i 2 hn hn2 (by omega) (by omega)) (rc_nw wb nw_19) (bw4 bw_350 bw_14 bw_36 bw_351) (rb_recv wb 3 (by omega) rfl rfl) hdX2_part rfl ⟨rfl, rfl⟩ ⟨by decide, by decide⟩ hl.1 (Nat.le_of_ble_eq_true rfl) ⟨Nat.zero_le _, Nat.zero_le _⟩ (rest := []) (st1 := [.int (ar 10 (5 * i + 2))]) rfl rfl dX3_deliver_31 (fun H locs wb => ?_)
  refine nb_ren (y := nI j) ej ?_
  refine lv_istore (lv' := [(4, .int (nI j)), (3, .int (nI c)), (2, .int (ar 10 (5 * i + 0))), (0, .ref (ad 0)), (1, .int (nI i))]) hx hb dX3_deliver_34 hl (by decide) rfl (fun ls hl => ?_)
  refine lv_aload_n hx hb dX3_deliver_36 rfl (lv_at hl 3 rfl) ?_
  refine rb_get (v := .ref (ad 3)) S wb 0 (by omega) rfl rfl in3 3 (by decide) bw_129 rfl dX3_deliver_37 ?_
  refine lv_iload_n hx hb dX3_deliver_40 rfl (lv_at hl 4 rfl) ?_
  refine lv_iconst (v := nI 3) hx hb dX3_deliver_41 (by decide) ?_
  refine rb_callVN S wb ENC_ok (k_part l D cI cC cD ad n ph mn ar i 3 hn hn2 (by omega) (by omega)) (rc_nw wb nw_19) (bw4 bw_350 bw_14 bw_36 bw_351) (rb_recv wb 3 (by omega) rfl rfl) hdX2_part rfl ⟨rfl, rfl⟩ ⟨by decide, by decide⟩ hl.1 (Nat.le_of_ble_eq_true rfl) ⟨Nat.zero_le _, Nat.zero_le _⟩ (rest := []) (st1 := [.int (ar 10 (5 * i + 3))]) rfl rfl dX3_deliver_42 (fun H locs wb => ?_)
  refine lv_istore (lv' := [(5, .int (ar 10 (5 * i + 3))), (4, .int (nI j)), (3, .int (nI c)), (2, .int (ar 10 (5 * i + 0))), (0, .ref (ad 0)), (1, .int (nI i))]) hx hb dX3_deliver_45 hl (by decide) rfl (fun ls hl => ?_)
  refine lv_aload_n hx hb dX3_deliver_47 rfl (lv_at hl 4 rfl) ?_
  refine rb_get (v := .ref (ad 3)) S wb 0 (by omega) rfl rfl in3 3 (by decide) bw_129 rfl dX3_deliver_48 ?_
  refine lv_iload_n hx hb dX3_deliver_51 rfl (lv_at hl 5 rfl) ?_
  refine lv_iconst (v := nI 4) hx hb dX3_deliver_52 (by decide) ?_
  refine rb_callVN S wb ENC_ok (k_part l D cI cC cD ad n ph mn ar i 4 hn hn2 (by omega) (by omega)) (rc_nw wb nw_19) (bw4 bw_350 bw_14 bw_36 bw_351) (rb_recv wb 3 (by omega) rfl rfl) hdX2_part rfl ⟨rfl, rfl⟩ ⟨by decide, by decide⟩ hl.1 (Nat.le_of_ble_eq_true rfl) ⟨Nat.zero_le _, Nat.zero_le _⟩ (rest := []) (st1 := [.int (ar 10 (5 * i + 4))]) rfl rfl dX3_deliver_53 (fun H locs wb => ?_)
  refine lv_istore (lv' := [(6, .int (ar 10 (5 * i + 4))), (5, .int (ar 10 (5 * i + 3))), (4, .int (nI j)), (3, .int (nI c)), (2, .int (ar 10 (5 * i + 0))), (0, .ref (ad 0)), (1, .int (nI i))]) hx hb dX3_deliver_56 hl (by decide) rfl (fun ls hl => ?_)
  refine lv_aload_n hx hb dX3_deliver_58 rfl (lv_at hl 5 rfl) ?_
  refine rb_get (v := .ref (ad 3)) S wb 0 (by omega) rfl rfl in3 3 (by decide) bw_129 rfl dX3_deliver_59 ?_
  refine lv_iload_n hx hb dX3_deliver_62 rfl (lv_at hl 6 rfl) ?_
  refine rb_callVN S wb ENC_ok (k_remove l D cI cC cD ad n ph mn ar i hn hn2 (by omega) (by omega)) (rc_nw wb nw_20) (bw4 bw_354 bw_15 bw_36 bw_355) (rb_recv wb 3 (by omega) rfl rfl) hdX2_remove rfl ⟨rfl, rfl⟩ ⟨by decide, by decide⟩ hl.1 (Nat.le_of_ble_eq_true rfl) ⟨Nat.zero_le _, Nat.zero_le _⟩ (rest := []) (st1 := []) rfl rfl dX3_deliver_63 (fun H locs wb => ?_)
  refine lv_iload_n hx hb dX3_deliver_66 rfl (lv_at hl 4 rfl) ?_
  refine lv_if_ne (tgt := 84) hx hb dX3_deliver_67 (by decide) (fun h67 => ?_) (fun h67 => absurd h67 hk)
  refine lv_aload_n hx hb dX3_deliver_84 rfl (lv_at hl 5 rfl) ?_
  refine rb_get (v := .ref (ad 1)) S wb 0 (by omega) rfl rfl in3 1 (by decide) bw_127 rfl dX3_deliver_85 ?_
  refine lv_iload_n hx hb dX3_deliver_88 rfl (lv_at hl 3 rfl) ?_
  refine rb_aald (n := n) (a := ad (4 * c + 6)) S wb 1 (by omega) rfl 1 rfl c (by omega) (by omega) rfl dX3_deliver_89 ?_
  refine lv_iload hx hb dX3_deliver_90 (lv_at hl 2 rfl) ?_
  refine lv_iload hx hb dX3_deliver_92 (lv_at hl 0 rfl) ?_
  refine rb_callVN S wb ENC_ok (k_learn l D cI cC cD ad n ph (mn - 1) (va_up ar 10 (dr (ar 10) (5 * i) (5 * (mn - 1)))) c j (ar 10 (5 * i + 4)) hn hn2 (by omega) (by omega)) (rc_nw wb nw_21) (bw4 bw_369 bw_18 bw_34 bw_370) (rb_recv wb (4 * c + 6) (by omega) (cE_crew c) rfl) hdX0_learn rfl ⟨rfl, rfl⟩ ⟨by decide, by decide⟩ hl.1 (Nat.le_of_ble_eq_true rfl) ⟨Nat.zero_le _, Nat.zero_le _⟩ (rest := []) (st1 := []) rfl rfl dX3_deliver_94 (fun H locs wb => ?_)
  refine lv_aload_n hx hb dX3_deliver_97 rfl (lv_at hl 5 rfl) ?_
  refine rb_get (v := .ref (ad 1)) S wb 0 (by omega) rfl rfl in3 1 (by decide) bw_127 rfl dX3_deliver_98 ?_
  refine lv_iload_n hx hb dX3_deliver_101 rfl (lv_at hl 3 rfl) ?_
  refine rb_aald (n := n) (a := ad (4 * c + 6)) S wb 1 (by omega) rfl 1 rfl c (by omega) (by omega) rfl dX3_deliver_102 ?_
  refine lv_iload_n hx hb dX3_deliver_103 rfl (lv_at hl 4 rfl) ?_
  refine lv_iload hx hb dX3_deliver_104 (lv_at hl 1 rfl) ?_
  refine rb_callVN S wb ENC_ok (k_hear l D cI cC cD ad n ph (mn - 1) (knw (va_up ar 10 (dr (ar 10) (5 * i) (5 * (mn - 1)))) c j (ar 10 (5 * i + 4))) c (ar 10 (5 * i + 0)) (ar 10 (5 * i + 3)) hn hn2 (by omega) ok) (rc_nw wb nw_22) (bw4 bw_374 bw_19 bw_34 bw_375) (rb_recv wb (4 * c + 6) (by omega) (cE_crew c) rfl) hdX0_hear rfl ⟨rfl, rfl⟩ ⟨by decide, by decide⟩ hl.1 (Nat.le_of_ble_eq_true rfl) ⟨Nat.zero_le _, Nat.zero_le _⟩ (rest := []) (st1 := []) rfl rfl dX3_deliver_106 (fun H locs wb => ?_)
  refine lv_iload_n hx hb dX3_deliver_109 rfl (lv_at hl 4 rfl) ?_
  exact rb_iret S hr hlk hQ rfl wb (fun _ _ => rfl) dX3_deliver_110

set_option maxHeartbeats 4000000 in
set_option maxRecDepth 100000 in
theorem c_phase (l : Launch) (D : va_G) (cI cC cD : ClassId) (ad : Nat → Nat) (n ph mn : Nat) (ar : Nat → Nat → Int32) (hn : n ≤ 6) (hn2 : 2 ≤ n) (hT : HTn ar n) (hs : stl ar n) (hp3 : ph < 3) : RM l yX3_phase cX3_phase 2 (some .int) ({ frames := 2, cells := 0, slots := 0, locals := 44 }) D (ty3 cI cC cD) ENC [.ref (ad 0)] ad (4 * n + 6) (cE ad cI cC cD n ph mn ar) (cE ad cI cC cD n (ph + 1) 0 (clA ar 6)) (some (.int (stp (ph + 1)))) := by
  refine RM.of (by decide) (Nat.le_of_ble_eq_true rfl) ?_
  intro p e s m below meth c0 A ls args Q0 S hr hlk hQ wb hl
  have hx := S.1
  have hb := S.2.1
  have hl : lv_has ls 2 [(0, .ref (ad 0))] := hl
  refine lv_aload_n hx hb dX3_phase_0 rfl (lv_at hl 0 rfl) ?_
  refine rb_callV S wb ENC_ok (k_settled l D cI cC cD ad n ph mn ar hn hn2 hT (nI 1) (tells_t hs)) (bw5 bw_248 bw_150 bw_151 bw_32 bw_152) (rb_recv wb 0 (by omega) rfl rfl) hdX3_settled rfl ⟨rfl, rfl⟩ ⟨by decide, by decide⟩ hl.1 (Nat.le_of_ble_eq_true rfl) ⟨Nat.zero_le _, Nat.zero_le _⟩ (rest := []) (st1 := [.int (nI 1)]) rfl rfl dX3_phase_1 (fun H locs wb => ?_)
  refine lv_if_eq (tgt := 19) hx hb dX3_phase_4 (by decide) (fun h4 => absurd h4 (by decide)) (fun h4 => ?_)
  refine lv_aload_n hx hb dX3_phase_7 rfl (lv_at hl 0 rfl) ?_
  refine rb_get (v := .int (nI ph)) S wb 0 (by omega) rfl rfl in3 5 (by decide) bw_131 rfl dX3_phase_8 ?_
  refine lv_iconst (v := nI 3) hx hb dX3_phase_11 (by decide) ?_
  refine nb_icmp_ge (tgt := 19) hx hb dX3_phase_12 (by decide) (by omega) (by omega) (fun h12 => absurd h12 (by omega)) (fun h12 => ?_)
  refine lv_iconst (v := nI 1) hx hb dX3_phase_15 (by decide) ?_
  refine lv_goto (tgt := 20) hx hb dX3_phase_16 (by decide) ?_
  refine rb_callS S wb ENC_ok (k_reqS l D cI cC cD ad n ph mn ar hn hn2) (bw4 bw_249 bw_250 bw_32 bw_251) hdX3_requireState rfl ⟨rfl, rfl⟩ ⟨by decide, by decide⟩ hl.1 (Nat.le_of_ble_eq_true rfl) ⟨Nat.zero_le _, Nat.zero_le _⟩ (rest := []) (st1 := []) rfl rfl dX3_phase_20 (fun H locs wb => ?_)
  refine lv_aload_n hx hb dX3_phase_23 rfl (lv_at hl 0 rfl) ?_
  refine lv_dup hx hb dX3_phase_24 rfl ?_
  refine rb_get (v := .int (nI ph)) S wb 0 (by omega) rfl rfl in3 5 (by decide) bw_131 rfl dX3_phase_25 ?_
  refine lv_iconst (v := nI 1) hx hb dX3_phase_28 (by decide) ?_
  refine lv_iadd hx hb dX3_phase_29 ?_
  refine nb_ren (y := nI (ph + 1)) (nI_add _ _) ?_
  refine rb_put (E' := cE ad cI cC cD n (ph + 1) mn ar) S wb 0 (by omega) rfl rfl in3 tyX3 tyX3_ok nmX3 5 (by decide) bw_131 rfl rfl rfl (Nat.le_of_ble_eq_true rfl) (fun q _ => cu_ph _ q) dX3_phase_30 (fun H locs wb => ?_)
  refine lv_aload_n hx hb dX3_phase_33 rfl (lv_at hl 0 rfl) ?_
  refine rb_get (v := .ref (ad 3)) S wb 0 (by omega) rfl rfl in3 3 (by decide) bw_129 rfl dX3_phase_34 ?_
  refine rb_callVN S wb ENC_ok (k_clear l D cI cC cD ad n (ph + 1) mn ar hn hn2) (rc_nw wb nw_14) (bw4 bw_270 bw_4 bw_36 bw_271) (rb_recv wb 3 (by omega) rfl rfl) hdX2_clear rfl ⟨rfl, rfl⟩ ⟨by decide, by decide⟩ hl.1 (Nat.le_of_ble_eq_true rfl) ⟨Nat.zero_le _, Nat.zero_le _⟩ (rest := []) (st1 := []) rfl rfl dX3_phase_37 (fun H locs wb => ?_)
  refine lv_iconst (v := nI 0) hx hb dX3_phase_40 (by decide) ?_
  refine lv_istore_n (lv' := [(1, .int (nI 0)), (0, .ref (ad 0))]) hx hb dX3_phase_41 rfl hl (by decide) rfl (fun ls hl => ?_)
  have L42 : ∀ (fuel : Nat) (k : Nat) (hk : k ≤ n) (hfu : n < k + fuel) (H : Heap) (locs : List Loc) (wb : WB D (ty3 cI cC cD) ENC ad (4 * n + 6) A s (cE ad cI cC cD n (ph + 1) 0 (clA ar k)) H locs) (ls : Array Slot) (hl : lv_has ls 2 [(0, .ref (ad 0)), (1, .int (nI k))]), W p l e ({ frames := 2, cells := 0, slots := 0, locals := 44 }) s m args below meth c0 H locs 0 0 Q0 (F0 m 42 ls []) := by
    intro fuel
    induction fuel with
    | zero => intro k hk hfu H locs wb ls hl; exact absurd hfu (by omega)
    | succ fuel ih =>
      intro k hk hfu H locs wb ls hl
      refine lv_iload_n hx hb dX3_phase_42 rfl (lv_at hl 1 rfl) ?_
      refine lv_aload_n hx hb dX3_phase_43 rfl (lv_at hl 0 rfl) ?_
      refine rb_get (v := .int (nI n)) S wb 0 (by omega) rfl rfl in3 0 (by decide) bw_126 rfl dX3_phase_44 ?_
      refine nb_icmp_ge (tgt := 74) hx hb dX3_phase_47 (by decide) (by omega) (by omega) (fun h47 => ?_) (fun h47 => ?_)
      · refine rb_steps S wb bw_287 dX3_phase_74 (fun tS hTS => ?_)
        refine lv_aload_n hx hb dX3_phase_77 rfl (lv_at hl 0 rfl) ?_
        refine rb_get (v := .int (nI (ph + 1))) S wb 0 (by omega) rfl rfl in3 5 (by decide) bw_131 rfl dX3_phase_78 ?_
        refine rb_stepAt S wb hTS (ph + 1) (by omega) dX3_phase_81 ?_
        have hkn : k = n := by omega
        subst hkn
        exact rb_iret S hr hlk hQ rfl wb (clA_n hn) dX3_phase_82
      · refine lv_aload_n hx hb dX3_phase_50 rfl (lv_at hl 0 rfl) ?_
        refine rb_get (v := .ref (ad 2)) S wb 0 (by omega) rfl rfl in3 2 (by decide) bw_128 rfl dX3_phase_51 ?_
        refine lv_iload_n hx hb dX3_phase_54 rfl (lv_at hl 1 rfl) ?_
        refine rb_aald (n := n) (a := ad (4 * k + 9)) S wb 2 (by omega) rfl 2 rfl k (by omega) (by omega) rfl dX3_phase_55 ?_
        refine rb_callVN S wb ENC_ok (k_dismiss l D cI cC cD ad n (ph + 1) 0 (clA ar k) k hn hn2 (by omega)) (rc_nw wb nw_15) (bw4 bw_274 bw_5 bw_35 bw_275) (rb_recv wb (4 * k + 9) (by omega) (cE_desk k) rfl) hdX1_dismiss rfl ⟨rfl, rfl⟩ ⟨by decide, by decide⟩ hl.1 (Nat.le_of_ble_eq_true rfl) ⟨Nat.zero_le _, Nat.zero_le _⟩ (rest := []) (st1 := []) rfl rfl dX3_phase_56 (fun H locs wb => ?_)
        refine lv_aload_n hx hb dX3_phase_59 rfl (lv_at hl 0 rfl) ?_
        refine rb_get (v := .ref (ad 1)) S wb 0 (by omega) rfl rfl in3 1 (by decide) bw_127 rfl dX3_phase_60 ?_
        refine lv_iload_n hx hb dX3_phase_63 rfl (lv_at hl 1 rfl) ?_
        refine rb_aald (n := n) (a := ad (4 * k + 6)) S wb 1 (by omega) rfl 1 rfl k (by omega) (by omega) rfl dX3_phase_64 ?_
        refine rb_callVN S wb ENC_ok (k_release l D cI cC cD ad n (ph + 1) 0 (va_up (va_up (clA ar k) 4 (upd (fz (ar 4) k (-1)) k (-1))) 5 (upd (fz (ar 5) k (nI 0)) k (nI 0))) k hn hn2 (by omega)) (rc_nw wb nw_16) (bw4 bw_278 bw_6 bw_34 bw_279) (rb_recv wb (4 * k + 6) (by omega) (cE_crew k) rfl) hdX0_release rfl ⟨rfl, rfl⟩ ⟨by decide, by decide⟩ hl.1 (Nat.le_of_ble_eq_true rfl) ⟨Nat.zero_le _, Nat.zero_le _⟩ (rest := []) (st1 := []) rfl rfl dX3_phase_65 (fun H locs wb => ?_)
        refine lv_iinc (v := nI (k + 1)) (lv' := [(1, .int (nI (k + 1))), (0, .ref (ad 0))]) hx hb dX3_phase_68 hl (k := 1) rfl (nI_s1 _) (by decide) rfl (fun ls hl => ?_)
        refine lv_goto (tgt := 42) hx hb dX3_phase_71 (by decide) ?_
        exact ih (k + 1) (by omega) (by omega) _ _ (wb.to (fun q _ => congrFun (congrArg (cE ad cI cC cD n (ph + 1) 0) (clA_s ar k)) q)) ls (lv_sub hl [1, 0] rfl)
  exact L42 (n + 1) 0 (by omega) (by omega) _ _ (wb.to (fun q _ => congrFun (congrArg (cE ad cI cC cD n (ph + 1) 0) (clA_0 ar)) q)) ls (lv_sub hl [1, 0] rfl)

set_option maxHeartbeats 4000000 in
set_option maxRecDepth 100000 in
theorem c_total (l : Launch) (D : va_G) (cI cC cD : ClassId) (ad : Nat → Nat) (n ph mn : Nat) (ar : Nat → Nat → Int32) (hn : n ≤ 6) (hn2 : 2 ≤ n) (hT : HTn ar n) (hs : stl ar n) : RM l yX3_total cX3_total 3 (some .int) ({ frames := 2, cells := 0, slots := 0, locals := 44 }) D (ty3 cI cC cD) ENC [.ref (ad 0)] ad (4 * n + 6) (cE ad cI cC cD n ph mn ar) (cE ad cI cC cD n ph mn ar) (some (.int (sm (fun c => ar 1 (6 * c + (ar 7 c).toNatClampNeg)) n))) := by
  refine RM.of (by decide) (Nat.le_of_ble_eq_true rfl) ?_
  intro p e s m below meth c0 A ls args Q0 S hr hlk hQ wb hl
  have hx := S.1
  have hb := S.2.1
  have hl : lv_has ls 3 [(0, .ref (ad 0))] := hl
  refine lv_aload_n hx hb dX3_total_0 rfl (lv_at hl 0 rfl) ?_
  refine rb_callV S wb ENC_ok (k_settled l D cI cC cD ad n ph mn ar hn hn2 hT (nI 1) (tells_t hs)) (bw5 bw_248 bw_150 bw_151 bw_32 bw_152) (rb_recv wb 0 (by omega) rfl rfl) hdX3_settled rfl ⟨rfl, rfl⟩ ⟨by decide, by decide⟩ hl.1 (Nat.le_of_ble_eq_true rfl) ⟨Nat.zero_le _, Nat.zero_le _⟩ (rest := []) (st1 := [.int (nI 1)]) rfl rfl dX3_total_1 (fun H locs wb => ?_)
  refine rb_callS S wb ENC_ok (k_reqS l D cI cC cD ad n ph mn ar hn hn2) (bw4 bw_249 bw_250 bw_32 bw_251) hdX3_requireState rfl ⟨rfl, rfl⟩ ⟨by decide, by decide⟩ hl.1 (Nat.le_of_ble_eq_true rfl) ⟨Nat.zero_le _, Nat.zero_le _⟩ (rest := []) (st1 := []) rfl rfl dX3_total_4 (fun H locs wb => ?_)
  refine lv_iconst (v := nI 0) hx hb dX3_total_7 (by decide) ?_
  refine lv_istore_n (lv' := [(1, .int (nI 0)), (0, .ref (ad 0))]) hx hb dX3_total_8 rfl hl (by decide) rfl (fun ls hl => ?_)
  refine lv_iconst (v := nI 0) hx hb dX3_total_9 (by decide) ?_
  refine lv_istore_n (lv' := [(2, .int (nI 0)), (1, .int (nI 0)), (0, .ref (ad 0))]) hx hb dX3_total_10 rfl hl (by decide) rfl (fun ls hl => ?_)
  have L11 : ∀ (fuel : Nat) (c : Nat) (v : Int32) (hc : c ≤ n) (hfu : n < c + fuel) (hv : v = sm (fun c => ar 1 (6 * c + (ar 7 c).toNatClampNeg)) c) (H : Heap) (locs : List Loc) (wb : WB D (ty3 cI cC cD) ENC ad (4 * n + 6) A s (cE ad cI cC cD n ph mn ar) H locs) (ls : Array Slot) (hl : lv_has ls 3 [(0, .ref (ad 0)), (1, .int v), (2, .int (nI c))]), W p l e ({ frames := 2, cells := 0, slots := 0, locals := 44 }) s m args below meth c0 H locs 0 0 Q0 (F0 m 11 ls []) := by
    intro fuel
    induction fuel with
    | zero => intro c v hc hfu hv H locs wb ls hl; exact absurd hfu (by omega)
    | succ fuel ih =>
      intro c v hc hfu hv H locs wb ls hl
      refine lv_iload_n hx hb dX3_total_11 rfl (lv_at hl 2 rfl) ?_
      refine lv_aload_n hx hb dX3_total_12 rfl (lv_at hl 0 rfl) ?_
      refine rb_get (v := .int (nI n)) S wb 0 (by omega) rfl rfl in3 0 (by decide) bw_126 rfl dX3_total_13 ?_
      refine nb_icmp_ge (tgt := 47) hx hb dX3_total_16 (by decide) (by omega) (by omega) (fun h16 => ?_) (fun h16 => ?_)
      · refine lv_iload_n hx hb dX3_total_47 rfl (lv_at hl 1 rfl) ?_
        have hcn : c = n := by omega
        subst hcn
        exact rb_iret S hr hlk hQ hv.symm wb (fun _ _ => rfl) dX3_total_48
      · obtain ⟨t, ht6, et, ett⟩ := HTn_x hT hn h16 (hs c h16).1
        refine lv_iload_n hx hb dX3_total_19 rfl (lv_at hl 1 rfl) ?_
        refine lv_aload_n hx hb dX3_total_20 rfl (lv_at hl 0 rfl) ?_
        refine rb_get (v := .ref (ad 1)) S wb 0 (by omega) rfl rfl in3 1 (by decide) bw_127 rfl dX3_total_21 ?_
        refine lv_iload_n hx hb dX3_total_24 rfl (lv_at hl 2 rfl) ?_
        refine rb_aald (n := n) (a := ad (4 * c + 6)) S wb 1 (by omega) rfl 1 rfl c (by omega) (by omega) rfl dX3_total_25 ?_
        refine rb_getN (v := .ref (ad (4 * c + 7))) S wb (4 * c + 6) (by omega) (cE_crew c) rfl in0 0 (by decide) (rc_nw wb nw_1) rfl dX3_total_26 ?_
        refine lv_aload_n hx hb dX3_total_29 rfl (lv_at hl 0 rfl) ?_
        refine rb_get (v := .ref (ad 1)) S wb 0 (by omega) rfl rfl in3 1 (by decide) bw_127 rfl dX3_total_30 ?_
        refine lv_iload_n hx hb dX3_total_33 rfl (lv_at hl 2 rfl) ?_
        refine rb_aald (n := n) (a := ad (4 * c + 6)) S wb 1 (by omega) rfl 1 rfl c (by omega) (by omega) rfl dX3_total_34 ?_
        refine rb_getN (v := .int (ar 7 c)) S wb (4 * c + 6) (by omega) (cE_crew c) rfl in0 3 (by decide) (rc_nw wb nw_4) rfl dX3_total_35 ?_
        refine nb_ren (y := nI t) et ?_
        refine rb_ald (n := n) (x := ar 1 (6 * c + t)) S wb (4 * c + 7) (by omega) (cE_wr c) 0 rfl t (by omega) (by omega) (row_at (by omega)) dX3_total_38 ?_
        refine lv_iadd hx hb dX3_total_39 ?_
        refine lv_istore_n (lv' := [(1, .int (v + (ar 1 (6 * c + t)))), (0, .ref (ad 0)), (2, .int (nI c))]) hx hb dX3_total_40 rfl hl (by decide) rfl (fun ls hl => ?_)
        refine lv_iinc (v := nI (c + 1)) (lv' := [(2, .int (nI (c + 1))), (1, .int (v + (ar 1 (6 * c + t)))), (0, .ref (ad 0))]) hx hb dX3_total_41 hl (k := 2) rfl (nI_s1 _) (by decide) rfl (fun ls hl => ?_)
        refine lv_goto (tgt := 11) hx hb dX3_total_44 (by decide) ?_
        exact ih (c + 1) (v + (ar 1 (6 * c + t))) (by omega) (by omega) (sm_s hv (by show ar 1 (6 * c + (ar 7 c).toNatClampNeg) = _; rw [ett])) _ _ wb ls (lv_sub hl [2, 1, 0] rfl)
  exact L11 (n + 1) 0 (nI 0) (by omega) (by omega) nI_0 _ _ wb ls (lv_sub hl [2, 1, 0] rfl)

set_option maxHeartbeats 4000000 in
set_option maxRecDepth 100000 in
theorem c_proves (l : Launch) (D : va_G) (cI cC cD : ClassId) (ad : Nat → Nat) (n ph mn : Nat) (ar : Nat → Nat → Int32) (hn : n ≤ 6) (hn2 : 2 ≤ n) (hT : HTn ar n) (hs : stl ar n) (r : Int32) (hr0 : tells r (sm (fun c => ar 3 c + pf (fun j => ar 1 (6 * c + j) * nI (n + 1) - ar 3 j) (n - 1) - ar 1 (6 * c + (ar 7 c).toNatClampNeg) * nI (n + 1)) n < nI (n + 1))) : RM l yX3_proves cX3_proves 3 (some .boolean) ({ frames := 2, cells := 0, slots := 0, locals := 44 }) D (ty3 cI cC cD) ENC [.ref (ad 0)] ad (4 * n + 6) (cE ad cI cC cD n ph mn ar) (cE ad cI cC cD n ph mn ar) (some (.int r)) := by
  refine RM.of (by decide) (Nat.le_of_ble_eq_true rfl) ?_
  intro p e s m below meth c0 A ls args Q0 S hr hlk hQ wb hl
  have hx := S.1
  have hb := S.2.1
  have hl : lv_has ls 3 [(0, .ref (ad 0))] := hl
  refine lv_aload_n hx hb dX3_proves_0 rfl (lv_at hl 0 rfl) ?_
  refine rb_callV S wb ENC_ok (k_settled l D cI cC cD ad n ph mn ar hn hn2 hT (nI 1) (tells_t hs)) (bw5 bw_248 bw_150 bw_151 bw_32 bw_152) (rb_recv wb 0 (by omega) rfl rfl) hdX3_settled rfl ⟨rfl, rfl⟩ ⟨by decide, by decide⟩ hl.1 (Nat.le_of_ble_eq_true rfl) ⟨Nat.zero_le _, Nat.zero_le _⟩ (rest := []) (st1 := [.int (nI 1)]) rfl rfl dX3_proves_1 (fun H locs wb => ?_)
  refine rb_callS S wb ENC_ok (k_reqS l D cI cC cD ad n ph mn ar hn hn2) (bw4 bw_249 bw_250 bw_32 bw_251) hdX3_requireState rfl ⟨rfl, rfl⟩ ⟨by decide, by decide⟩ hl.1 (Nat.le_of_ble_eq_true rfl) ⟨Nat.zero_le _, Nat.zero_le _⟩ (rest := []) (st1 := []) rfl rfl dX3_proves_4 (fun H locs wb => ?_)
  refine lv_iconst (v := nI 0) hx hb dX3_proves_7 (by decide) ?_
  refine lv_istore_n (lv' := [(1, .int (nI 0)), (0, .ref (ad 0))]) hx hb dX3_proves_8 rfl hl (by decide) rfl (fun ls hl => ?_)
  refine lv_iconst (v := nI 0) hx hb dX3_proves_9 (by decide) ?_
  refine lv_istore_n (lv' := [(2, .int (nI 0)), (1, .int (nI 0)), (0, .ref (ad 0))]) hx hb dX3_proves_10 rfl hl (by decide) rfl (fun ls hl => ?_)
  have L11 : ∀ (fuel : Nat) (c : Nat) (v : Int32) (hc : c ≤ n) (hfu : n < c + fuel) (hv : v = sm (fun c => ar 3 c + pf (fun j => ar 1 (6 * c + j) * nI (n + 1) - ar 3 j) (n - 1) - ar 1 (6 * c + (ar 7 c).toNatClampNeg) * nI (n + 1)) c) (H : Heap) (locs : List Loc) (wb : WB D (ty3 cI cC cD) ENC ad (4 * n + 6) A s (cE ad cI cC cD n ph mn ar) H locs) (ls : Array Slot) (hl : lv_has ls 3 [(0, .ref (ad 0)), (1, .int v), (2, .int (nI c))]), W p l e ({ frames := 2, cells := 0, slots := 0, locals := 44 }) s m args below meth c0 H locs 0 0 Q0 (F0 m 11 ls []) := by
    intro fuel
    induction fuel with
    | zero => intro c v hc hfu hv H locs wb ls hl; exact absurd hfu (by omega)
    | succ fuel ih =>
      intro c v hc hfu hv H locs wb ls hl
      refine lv_iload_n hx hb dX3_proves_11 rfl (lv_at hl 2 rfl) ?_
      refine lv_aload_n hx hb dX3_proves_12 rfl (lv_at hl 0 rfl) ?_
      refine rb_get (v := .int (nI n)) S wb 0 (by omega) rfl rfl in3 0 (by decide) bw_126 rfl dX3_proves_13 ?_
      refine nb_icmp_ge (tgt := 67) hx hb dX3_proves_16 (by decide) (by omega) (by omega) (fun h16 => ?_) (fun h16 => ?_)
      · have hcn : c = n := by omega
        rw [hcn] at hv
        refine lv_iload_n hx hb dX3_proves_67 rfl (lv_at hl 1 rfl) ?_
        refine lv_aload_n hx hb dX3_proves_68 rfl (lv_at hl 0 rfl) ?_
        refine rb_get (v := .int (nI n)) S wb 0 (by omega) rfl rfl in3 0 (by decide) bw_126 rfl dX3_proves_69 ?_
        refine lv_iconst (v := nI 1) hx hb dX3_proves_72 (by decide) ?_
        refine lv_iadd hx hb dX3_proves_73 ?_
        refine nb_ren (y := nI (n + 1)) (nI_add _ _) ?_
        refine lv_icmp_ge (tgt := 81) hx hb dX3_proves_74 (by decide) (fun h74 => ?_) (fun h74 => ?_)
        · refine lv_iconst (v := nI 0) hx hb dX3_proves_81 (by decide) ?_
          exact rb_zret S hr hlk hQ (by first | exact tells_u hr0 (tells_f (fun q => Int32.not_lt.mpr h74 (by rw [hv]; exact q))) | exact tells_u hr0 (tells_t (by rw [← hv]; exact Int32.not_le.mp h74))) (by first | exact Or.inl rfl | exact Or.inr rfl) wb (fun _ _ => rfl) dX3_proves_82
        · refine lv_iconst (v := nI 1) hx hb dX3_proves_77 (by decide) ?_
          refine lv_goto (tgt := 82) hx hb dX3_proves_78 (by decide) ?_
          exact rb_zret S hr hlk hQ (by first | exact tells_u hr0 (tells_f (fun q => Int32.not_lt.mpr h74 (by rw [hv]; exact q))) | exact tells_u hr0 (tells_t (by rw [← hv]; exact Int32.not_le.mp h74))) (by first | exact Or.inl rfl | exact Or.inr rfl) wb (fun _ _ => rfl) dX3_proves_82
      · obtain ⟨t, ht6, et, ett⟩ := HTn_x hT hn h16 (hs c h16).1
        refine lv_iload_n hx hb dX3_proves_19 rfl (lv_at hl 1 rfl) ?_
        refine lv_aload_n hx hb dX3_proves_20 rfl (lv_at hl 0 rfl) ?_
        refine rb_get (v := .ref (ad 2)) S wb 0 (by omega) rfl rfl in3 2 (by decide) bw_128 rfl dX3_proves_21 ?_
        refine lv_iload_n hx hb dX3_proves_24 rfl (lv_at hl 2 rfl) ?_
        refine rb_aald (n := n) (a := ad (4 * c + 9)) S wb 2 (by omega) rfl 2 rfl c (by omega) (by omega) rfl dX3_proves_25 ?_
        refine rb_getN (v := .int (ar 3 c)) S wb (4 * c + 9) (by omega) (cE_desk c) rfl in1 0 (by decide) (rc_nw wb nw_8) rfl dX3_proves_26 ?_
        refine lv_aload_n hx hb dX3_proves_29 rfl (lv_at hl 0 rfl) ?_
        refine lv_aload_n hx hb dX3_proves_30 rfl (lv_at hl 0 rfl) ?_
        refine rb_get (v := .ref (ad 1)) S wb 0 (by omega) rfl rfl in3 1 (by decide) bw_127 rfl dX3_proves_31 ?_
        refine lv_iload_n hx hb dX3_proves_34 rfl (lv_at hl 2 rfl) ?_
        refine rb_aald (n := n) (a := ad (4 * c + 6)) S wb 1 (by omega) rfl 1 rfl c (by omega) (by omega) rfl dX3_proves_35 ?_
        refine rb_callV S wb ENC_ok (k_profitOf l D cI cC cD ad n ph mn ar c hn hn2 (by omega)) (bw5 bw_405 bw_407 bw_20 bw_32 bw_408) (rb_recv wb 0 (by omega) rfl rfl) hdX3_profitOf rfl ⟨rfl, rfl⟩ ⟨by decide, by decide⟩ hl.1 (Nat.le_of_ble_eq_true rfl) ⟨Nat.zero_le _, Nat.zero_le _⟩ (rest := [.int (ar 3 c), .int v]) (st1 := [.int (pf (fun j => ar 1 (6 * c + j) * nI (n + 1) - ar 3 j) (n - 1)), .int (ar 3 c), .int v]) rfl rfl dX3_proves_36 (fun H locs wb => ?_)
        refine lv_iadd hx hb dX3_proves_39 ?_
        refine lv_aload_n hx hb dX3_proves_40 rfl (lv_at hl 0 rfl) ?_
        refine rb_get (v := .ref (ad 1)) S wb 0 (by omega) rfl rfl in3 1 (by decide) bw_127 rfl dX3_proves_41 ?_
        refine lv_iload_n hx hb dX3_proves_44 rfl (lv_at hl 2 rfl) ?_
        refine rb_aald (n := n) (a := ad (4 * c + 6)) S wb 1 (by omega) rfl 1 rfl c (by omega) (by omega) rfl dX3_proves_45 ?_
        refine lv_aload_n hx hb dX3_proves_46 rfl (lv_at hl 0 rfl) ?_
        refine rb_get (v := .ref (ad 1)) S wb 0 (by omega) rfl rfl in3 1 (by decide) bw_127 rfl dX3_proves_47 ?_
        refine lv_iload_n hx hb dX3_proves_50 rfl (lv_at hl 2 rfl) ?_
        refine rb_aald (n := n) (a := ad (4 * c + 6)) S wb 1 (by omega) rfl 1 rfl c (by omega) (by omega) rfl dX3_proves_51 ?_
        refine rb_getN (v := .int (ar 7 c)) S wb (4 * c + 6) (by omega) (cE_crew c) rfl in0 3 (by decide) (rc_nw wb nw_4) rfl dX3_proves_52 ?_
        refine nb_ren (y := nI t) et ?_
        refine rb_callVN S wb ENC_ok (k_scaledWorth l D cI cC cD ad n ph mn ar c t hn hn2 (by omega) (by omega)) (rc_nw wb nw_23) (bw4 bw_303 bw_10 bw_34 bw_304) (rb_recv wb (4 * c + 6) (by omega) (cE_crew c) rfl) hdX0_scaledWorth rfl ⟨rfl, rfl⟩ ⟨by decide, by decide⟩ hl.1 (Nat.le_of_ble_eq_true rfl) ⟨Nat.zero_le _, Nat.zero_le _⟩ (rest := [.int ((ar 3 c) + (pf (fun j => ar 1 (6 * c + j) * nI (n + 1) - ar 3 j) (n - 1))), .int v]) (st1 := [.int (ar 1 (6 * c + t) * nI (n + 1)), .int ((ar 3 c) + (pf (fun j => ar 1 (6 * c + j) * nI (n + 1) - ar 3 j) (n - 1))), .int v]) rfl rfl dX3_proves_55 (fun H locs wb => ?_)
        refine lv_isub hx hb dX3_proves_58 ?_
        refine lv_iadd hx hb dX3_proves_59 ?_
        refine lv_istore_n (lv' := [(1, .int (v + (((ar 3 c) + (pf (fun j => ar 1 (6 * c + j) * nI (n + 1) - ar 3 j) (n - 1))) - (ar 1 (6 * c + t) * nI (n + 1))))), (0, .ref (ad 0)), (2, .int (nI c))]) hx hb dX3_proves_60 rfl hl (by decide) rfl (fun ls hl => ?_)
        refine lv_iinc (v := nI (c + 1)) (lv' := [(2, .int (nI (c + 1))), (1, .int (v + (((ar 3 c) + (pf (fun j => ar 1 (6 * c + j) * nI (n + 1) - ar 3 j) (n - 1))) - (ar 1 (6 * c + t) * nI (n + 1))))), (0, .ref (ad 0))]) hx hb dX3_proves_61 hl (k := 2) rfl (nI_s1 _) (by decide) rfl (fun ls hl => ?_)
        refine lv_goto (tgt := 11) hx hb dX3_proves_64 (by decide) ?_
        exact ih (c + 1) (v + (((ar 3 c) + (pf (fun j => ar 1 (6 * c + j) * nI (n + 1) - ar 3 j) (n - 1))) - (ar 1 (6 * c + t) * nI (n + 1)))) (by omega) (by omega) (sm_s hv (by show ar 3 c + _ - ar 1 (6 * c + (ar 7 c).toNatClampNeg) * _ = _; rw [ett])) _ _ wb ls (lv_sub hl [2, 1, 0] rfl)
  exact L11 (n + 1) 0 (nI 0) (by omega) (by omega) nI_0 _ _ wb ls (lv_sub hl [2, 1, 0] rfl)

set_option maxHeartbeats 4000000 in
set_option maxRecDepth 100000 in
theorem c_worth0 (l : Launch) (D : va_G) (cI cC cD : ClassId) (ad : Nat → Nat) (n ph mn : Nat) (ar : Nat → Nat → Int32) (c j : Nat) (z : Int32) (hn : n ≤ 6) (hn2 : 2 ≤ n) (hc : c < n) (hj : j < n) (hz1 : ¬ z < 0) (hz2 : z ≤ nI 1000) (hs : ¬ 0 < ar 11 0) : RM l yX3_worth cX3_worth 6 none ({ frames := 1, cells := 0, slots := 0, locals := 21 }) D (ty3 cI cC cD) ENC [.ref (ad 0), .int (nI c), .int (nI j), .int z] ad (4 * n + 6) (cE ad cI cC cD n ph mn ar) (cE ad cI cC cD n ph mn (va_up ar 1 (upd (ar 1) (6 * c + j) z))) none := by
  refine RM.of (by decide) (Nat.le_of_ble_eq_true rfl) ?_
  intro p e s m below meth c0 A ls args Q0 S hr hlk hQ wb hl
  have hx := S.1
  have hb := S.2.1
  have hl : lv_has ls 6 [(0, .ref (ad 0)), (1, .int (nI c)), (2, .int (nI j)), (3, .int z)] := hl
  refine lv_aload_n hx hb dX3_worth_0 rfl (lv_at hl 0 rfl) ?_
  refine lv_iload_n hx hb dX3_worth_1 rfl (lv_at hl 1 rfl) ?_
  refine rb_callV S wb ENC_ok (k_isIndex l D cI cC cD ad n ph mn ar (nI c) hn hn2 (nI 1) (tells_t (no_f (by omega) (by omega)))) (bw5 bw_169 bw_171 bw_1 bw_32 bw_172) (rb_recv wb 0 (by omega) rfl rfl) hdX3_isIndex rfl ⟨rfl, rfl⟩ ⟨by decide, by decide⟩ hl.1 (Nat.le_of_ble_eq_true rfl) ⟨Nat.zero_le _, Nat.zero_le _⟩ (rest := []) (st1 := [.int (nI 1)]) rfl rfl dX3_worth_2 (fun H locs wb => ?_)
  refine lv_if_eq (tgt := 20) hx hb dX3_worth_5 (by decide) (fun h5 => absurd h5 (by decide)) (fun h5 => ?_)
  refine lv_aload_n hx hb dX3_worth_8 rfl (lv_at hl 0 rfl) ?_
  refine lv_iload_n hx hb dX3_worth_9 rfl (lv_at hl 2 rfl) ?_
  refine rb_callV S wb ENC_ok (k_isIndex l D cI cC cD ad n ph mn ar (nI j) hn hn2 (nI 1) (tells_t (no_f (by omega) (by omega)))) (bw5 bw_169 bw_171 bw_1 bw_32 bw_172) (rb_recv wb 0 (by omega) rfl rfl) hdX3_isIndex rfl ⟨rfl, rfl⟩ ⟨by decide, by decide⟩ hl.1 (Nat.le_of_ble_eq_true rfl) ⟨Nat.zero_le _, Nat.zero_le _⟩ (rest := []) (st1 := [.int (nI 1)]) rfl rfl dX3_worth_10 (fun H locs wb => ?_)
  refine lv_if_eq (tgt := 20) hx hb dX3_worth_13 (by decide) (fun h13 => absurd h13 (by decide)) (fun h13 => ?_)
  refine lv_iconst (v := nI 1) hx hb dX3_worth_16 (by decide) ?_
  refine lv_goto (tgt := 21) hx hb dX3_worth_17 (by decide) ?_
  refine rb_callS S wb ENC_ok (k_reqA l D cI cC cD ad n ph mn ar hn hn2) (bw4 bw_173 bw_174 bw_32 bw_175) hdX3_requireArgument rfl ⟨rfl, rfl⟩ ⟨by decide, by decide⟩ hl.1 (Nat.le_of_ble_eq_true rfl) ⟨Nat.zero_le _, Nat.zero_le _⟩ (rest := []) (st1 := []) rfl rfl dX3_worth_21 (fun H locs wb => ?_)
  refine lv_iload_n hx hb dX3_worth_24 rfl (lv_at hl 3 rfl) ?_
  refine lv_if_lt (tgt := 39) hx hb dX3_worth_25 (by decide) (fun h25 => absurd h25 hz1) (fun h25 => ?_)
  refine lv_iload_n hx hb dX3_worth_28 rfl (lv_at hl 3 rfl) ?_
  refine lv_sipush (v := nI 1000) hx hb dX3_worth_29 (by decide) ?_
  refine lv_icmp_gt (tgt := 39) hx hb dX3_worth_32 (by decide) (fun h32 => absurd h32 (Int32.not_lt.mpr hz2)) (fun h32 => ?_)
  refine lv_iconst (v := nI 1) hx hb dX3_worth_35 (by decide) ?_
  refine lv_goto (tgt := 40) hx hb dX3_worth_36 (by decide) ?_
  refine rb_callS S wb ENC_ok (k_reqA l D cI cC cD ad n ph mn ar hn hn2) (bw4 bw_173 bw_174 bw_32 bw_175) hdX3_requireArgument rfl ⟨rfl, rfl⟩ ⟨by decide, by decide⟩ hl.1 (Nat.le_of_ble_eq_true rfl) ⟨Nat.zero_le _, Nat.zero_le _⟩ (rest := []) (st1 := []) rfl rfl dX3_worth_40 (fun H locs wb => ?_)
  refine lv_aload_n hx hb dX3_worth_43 rfl (lv_at hl 0 rfl) ?_
  refine rb_get (v := .ref (ad 5)) S wb 0 (by omega) rfl rfl in3 4 (by decide) bw_130 rfl dX3_worth_44 ?_
  refine lv_iconst (v := nI 0) hx hb dX3_worth_47 (by decide) ?_
  refine rb_ald (n := 4) (f := ar 11) (x := ar 11 0) S wb 5 (by omega) rfl 0 rfl 0 (by omega) (by decide) rfl dX3_worth_48 ?_
  refine lv_if_le (tgt := 56) hx hb dX3_worth_49 (by decide) (fun h49 => ?_) (fun h49 => absurd (Int32.not_lt.mp hs) h49)
  refine lv_iconst (v := nI 0) hx hb dX3_worth_56 (by decide) ?_
  refine lv_istore (lv' := [(4, .int (nI 0)), (0, .ref (ad 0)), (1, .int (nI c)), (2, .int (nI j)), (3, .int z)]) hx hb dX3_worth_57 hl (by decide) rfl (fun ls hl => ?_)
  refine lv_iload hx hb dX3_worth_59 (lv_at hl 0 rfl) ?_
  refine lv_if_eq (tgt := 71) hx hb dX3_worth_61 (by decide) (fun h61 => ?_) (fun h61 => absurd (by decide) h61)
  refine lv_iconst (v := nI 1) hx hb dX3_worth_71 (by decide) ?_
  refine lv_goto (tgt := 76) hx hb dX3_worth_72 (by decide) ?_
  refine rb_callS S wb ENC_ok (k_reqS l D cI cC cD ad n ph mn ar hn hn2) (bw4 bw_249 bw_250 bw_32 bw_251) hdX3_requireState rfl ⟨rfl, rfl⟩ ⟨by decide, by decide⟩ hl.1 (Nat.le_of_ble_eq_true rfl) ⟨Nat.zero_le _, Nat.zero_le _⟩ (rest := []) (st1 := []) rfl rfl dX3_worth_76 (fun H locs wb => ?_)
  refine lv_aload_n hx hb dX3_worth_79 rfl (lv_at hl 1 rfl) ?_
  refine rb_get (v := .ref (ad 1)) S wb 0 (by omega) rfl rfl in3 1 (by decide) bw_127 rfl dX3_worth_80 ?_
  refine lv_iload_n hx hb dX3_worth_83 rfl (lv_at hl 2 rfl) ?_
  refine rb_aald (n := n) (a := ad (4 * c + 6)) S wb 1 (by omega) rfl 1 rfl c (by omega) (by omega) rfl dX3_worth_84 ?_
  refine lv_astore (lv' := [(5, .ref (ad (4 * c + 6))), (4, .int (nI 0)), (0, .ref (ad 0)), (1, .int (nI c)), (2, .int (nI j)), (3, .int z)]) hx hb dX3_worth_85 hl (by decide) rfl (fun ls hl => ?_)
  refine lv_aload hx hb dX3_worth_87 (lv_at hl 0 rfl) ?_
  refine rb_getN (v := .ref (ad (4 * c + 7))) S wb (4 * c + 6) (by omega) (cE_crew c) rfl in0 0 (by decide) (rc_nw wb nw_1) rfl dX3_worth_89 ?_
  refine lv_iload_n hx hb dX3_worth_92 rfl (lv_at hl 4 rfl) ?_
  refine lv_iload_n hx hb dX3_worth_93 rfl (lv_at hl 5 rfl) ?_
  refine rb_ast (E' := cE ad cI cC cD n ph mn (va_up ar 1 (upd (ar 1) (6 * c + j) z))) (n := n) S wb (4 * c + 7) (by omega) (cE_wr c) 0 rfl j (by omega) (by omega) (fun q _ => cu_W c j _ (by omega) q) dX3_worth_94 (fun H locs wb => ?_)
  refine lv_iload hx hb dX3_worth_95 (lv_at hl 1 rfl) ?_
  refine lv_if_eq (tgt := 125) hx hb dX3_worth_97 (by decide) (fun h97 => ?_) (fun h97 => absurd (by decide) h97)
  exact rb_vret S hr hlk hQ wb (fun _ _ => rfl) dX3_worth_125

set_option maxHeartbeats 4000000 in
set_option maxRecDepth 100000 in
theorem c_worth1 (l : Launch) (D : va_G) (cI cC cD : ClassId) (ad : Nat → Nat) (n ph mn : Nat) (ar : Nat → Nat → Int32) (c j t : Nat) (z : Int32) (hn : n ≤ 6) (hn2 : 2 ≤ n) (hc : c < n) (hj : j < n) (hz1 : ¬ z < 0) (hz2 : z ≤ nI 1000) (hph : ph ≤ 3) (hT : HTn ar n) (hs : 0 < ar 11 0) (hd : ph = 3 ∧ stl ar n) (ht : t < n) (et : ar 7 c = nI t) : RM l yX3_worth cX3_worth 6 none ({ frames := 3, cells := 0, slots := 0, locals := 64 }) D (ty3 cI cC cD) ENC [.ref (ad 0), .int (nI c), .int (nI j), .int z] ad (4 * n + 6) (cE ad cI cC cD n ph mn ar) (cE ad cI cC cD n ph 0 (va_up (va_up (va_up (va_up (va_up ar 1 (upd (ar 1) (6 * c + j) z)) 4 (upd (ar 4) t (-1))) 5 (upd (ar 5) t (nI 0))) 6 (upd (ar 6) c (nI 0))) 7 (upd (ar 7) c (-1)))) none := by
  refine RM.of (by decide) (Nat.le_of_ble_eq_true rfl) ?_
  intro p e s m below meth c0 A ls args Q0 S hr hlk hQ wb hl
  have hx := S.1
  have hb := S.2.1
  have hl : lv_has ls 6 [(0, .ref (ad 0)), (1, .int (nI c)), (2, .int (nI j)), (3, .int z)] := hl
  refine lv_aload_n hx hb dX3_worth_0 rfl (lv_at hl 0 rfl) ?_
  refine lv_iload_n hx hb dX3_worth_1 rfl (lv_at hl 1 rfl) ?_
  refine rb_callV S wb ENC_ok (k_isIndex l D cI cC cD ad n ph mn ar (nI c) hn hn2 (nI 1) (tells_t (no_f (by omega) (by omega)))) (bw5 bw_169 bw_171 bw_1 bw_32 bw_172) (rb_recv wb 0 (by omega) rfl rfl) hdX3_isIndex rfl ⟨rfl, rfl⟩ ⟨by decide, by decide⟩ hl.1 (Nat.le_of_ble_eq_true rfl) ⟨Nat.zero_le _, Nat.zero_le _⟩ (rest := []) (st1 := [.int (nI 1)]) rfl rfl dX3_worth_2 (fun H locs wb => ?_)
  refine lv_if_eq (tgt := 20) hx hb dX3_worth_5 (by decide) (fun h5 => absurd h5 (by decide)) (fun h5 => ?_)
  refine lv_aload_n hx hb dX3_worth_8 rfl (lv_at hl 0 rfl) ?_
  refine lv_iload_n hx hb dX3_worth_9 rfl (lv_at hl 2 rfl) ?_
  refine rb_callV S wb ENC_ok (k_isIndex l D cI cC cD ad n ph mn ar (nI j) hn hn2 (nI 1) (tells_t (no_f (by omega) (by omega)))) (bw5 bw_169 bw_171 bw_1 bw_32 bw_172) (rb_recv wb 0 (by omega) rfl rfl) hdX3_isIndex rfl ⟨rfl, rfl⟩ ⟨by decide, by decide⟩ hl.1 (Nat.le_of_ble_eq_true rfl) ⟨Nat.zero_le _, Nat.zero_le _⟩ (rest := []) (st1 := [.int (nI 1)]) rfl rfl dX3_worth_10 (fun H locs wb => ?_)
  refine lv_if_eq (tgt := 20) hx hb dX3_worth_13 (by decide) (fun h13 => absurd h13 (by decide)) (fun h13 => ?_)
  refine lv_iconst (v := nI 1) hx hb dX3_worth_16 (by decide) ?_
  refine lv_goto (tgt := 21) hx hb dX3_worth_17 (by decide) ?_
  refine rb_callS S wb ENC_ok (k_reqA l D cI cC cD ad n ph mn ar hn hn2) (bw4 bw_173 bw_174 bw_32 bw_175) hdX3_requireArgument rfl ⟨rfl, rfl⟩ ⟨by decide, by decide⟩ hl.1 (Nat.le_of_ble_eq_true rfl) ⟨Nat.zero_le _, Nat.zero_le _⟩ (rest := []) (st1 := []) rfl rfl dX3_worth_21 (fun H locs wb => ?_)
  refine lv_iload_n hx hb dX3_worth_24 rfl (lv_at hl 3 rfl) ?_
  refine lv_if_lt (tgt := 39) hx hb dX3_worth_25 (by decide) (fun h25 => absurd h25 hz1) (fun h25 => ?_)
  refine lv_iload_n hx hb dX3_worth_28 rfl (lv_at hl 3 rfl) ?_
  refine lv_sipush (v := nI 1000) hx hb dX3_worth_29 (by decide) ?_
  refine lv_icmp_gt (tgt := 39) hx hb dX3_worth_32 (by decide) (fun h32 => absurd h32 (Int32.not_lt.mpr hz2)) (fun h32 => ?_)
  refine lv_iconst (v := nI 1) hx hb dX3_worth_35 (by decide) ?_
  refine lv_goto (tgt := 40) hx hb dX3_worth_36 (by decide) ?_
  refine rb_callS S wb ENC_ok (k_reqA l D cI cC cD ad n ph mn ar hn hn2) (bw4 bw_173 bw_174 bw_32 bw_175) hdX3_requireArgument rfl ⟨rfl, rfl⟩ ⟨by decide, by decide⟩ hl.1 (Nat.le_of_ble_eq_true rfl) ⟨Nat.zero_le _, Nat.zero_le _⟩ (rest := []) (st1 := []) rfl rfl dX3_worth_40 (fun H locs wb => ?_)
  refine lv_aload_n hx hb dX3_worth_43 rfl (lv_at hl 0 rfl) ?_
  refine rb_get (v := .ref (ad 5)) S wb 0 (by omega) rfl rfl in3 4 (by decide) bw_130 rfl dX3_worth_44 ?_
  refine lv_iconst (v := nI 0) hx hb dX3_worth_47 (by decide) ?_
  refine rb_ald (n := 4) (f := ar 11) (x := ar 11 0) S wb 5 (by omega) rfl 0 rfl 0 (by omega) (by decide) rfl dX3_worth_48 ?_
  refine lv_if_le (tgt := 56) hx hb dX3_worth_49 (by decide) (fun h49 => absurd h49 (Int32.not_le.mpr hs)) (fun h49 => ?_)
  refine lv_iconst (v := nI 1) hx hb dX3_worth_52 (by decide) ?_
  refine lv_goto (tgt := 57) hx hb dX3_worth_53 (by decide) ?_
  refine lv_istore (lv' := [(4, .int (nI 1)), (0, .ref (ad 0)), (1, .int (nI c)), (2, .int (nI j)), (3, .int z)]) hx hb dX3_worth_57 hl (by decide) rfl (fun ls hl => ?_)
  refine lv_iload hx hb dX3_worth_59 (lv_at hl 0 rfl) ?_
  refine lv_if_eq (tgt := 71) hx hb dX3_worth_61 (by decide) (fun h61 => absurd h61 (by decide)) (fun h61 => ?_)
  refine lv_aload_n hx hb dX3_worth_64 rfl (lv_at hl 1 rfl) ?_
  refine rb_callV S wb ENC_ok (k_isDone l D cI cC cD ad n ph mn ar hn hn2 hT hph (nI 1) (tells_t hd)) (bw5 bw_244 bw_246 bw_3 bw_32 bw_247) (rb_recv wb 0 (by omega) rfl rfl) hdX3_isDone rfl ⟨rfl, rfl⟩ ⟨by decide, by decide⟩ hl.1 (Nat.le_of_ble_eq_true rfl) ⟨Nat.zero_le _, Nat.zero_le _⟩ (rest := []) (st1 := [.int (nI 1)]) rfl rfl dX3_worth_65 (fun H locs wb => ?_)
  refine lv_if_eq (tgt := 75) hx hb dX3_worth_68 (by decide) (fun h68 => absurd h68 (by decide)) (fun h68 => ?_)
  refine lv_iconst (v := nI 1) hx hb dX3_worth_71 (by decide) ?_
  refine lv_goto (tgt := 76) hx hb dX3_worth_72 (by decide) ?_
  refine rb_callS S wb ENC_ok (k_reqS l D cI cC cD ad n ph mn ar hn hn2) (bw4 bw_249 bw_250 bw_32 bw_251) hdX3_requireState rfl ⟨rfl, rfl⟩ ⟨by decide, by decide⟩ hl.1 (Nat.le_of_ble_eq_true rfl) ⟨Nat.zero_le _, Nat.zero_le _⟩ (rest := []) (st1 := []) rfl rfl dX3_worth_76 (fun H locs wb => ?_)
  refine lv_aload_n hx hb dX3_worth_79 rfl (lv_at hl 1 rfl) ?_
  refine rb_get (v := .ref (ad 1)) S wb 0 (by omega) rfl rfl in3 1 (by decide) bw_127 rfl dX3_worth_80 ?_
  refine lv_iload_n hx hb dX3_worth_83 rfl (lv_at hl 2 rfl) ?_
  refine rb_aald (n := n) (a := ad (4 * c + 6)) S wb 1 (by omega) rfl 1 rfl c (by omega) (by omega) rfl dX3_worth_84 ?_
  refine lv_astore (lv' := [(5, .ref (ad (4 * c + 6))), (4, .int (nI 1)), (0, .ref (ad 0)), (1, .int (nI c)), (2, .int (nI j)), (3, .int z)]) hx hb dX3_worth_85 hl (by decide) rfl (fun ls hl => ?_)
  refine lv_aload hx hb dX3_worth_87 (lv_at hl 0 rfl) ?_
  refine rb_getN (v := .ref (ad (4 * c + 7))) S wb (4 * c + 6) (by omega) (cE_crew c) rfl in0 0 (by decide) (rc_nw wb nw_1) rfl dX3_worth_89 ?_
  refine lv_iload_n hx hb dX3_worth_92 rfl (lv_at hl 4 rfl) ?_
  refine lv_iload_n hx hb dX3_worth_93 rfl (lv_at hl 5 rfl) ?_
  refine rb_ast (E' := cE ad cI cC cD n ph mn (va_up ar 1 (upd (ar 1) (6 * c + j) z))) (n := n) S wb (4 * c + 7) (by omega) (cE_wr c) 0 rfl j (by omega) (by omega) (fun q _ => cu_W c j _ (by omega) q) dX3_worth_94 (fun H locs wb => ?_)
  refine lv_iload hx hb dX3_worth_95 (lv_at hl 1 rfl) ?_
  refine lv_if_eq (tgt := 125) hx hb dX3_worth_97 (by decide) (fun h97 => absurd h97 (by decide)) (fun h97 => ?_)
  refine lv_aload_n hx hb dX3_worth_100 rfl (lv_at hl 2 rfl) ?_
  refine rb_get (v := .ref (ad 3)) S wb 0 (by omega) rfl rfl in3 3 (by decide) bw_129 rfl dX3_worth_101 ?_
  refine rb_callVN S wb ENC_ok (k_clear l D cI cC cD ad n ph mn (va_up ar 1 (upd (ar 1) (6 * c + j) z)) hn hn2) (rc_nw wb nw_14) (bw4 bw_270 bw_4 bw_36 bw_271) (rb_recv wb 3 (by omega) rfl rfl) hdX2_clear rfl ⟨rfl, rfl⟩ ⟨by decide, by decide⟩ hl.1 (Nat.le_of_ble_eq_true rfl) ⟨Nat.zero_le _, Nat.zero_le _⟩ (rest := []) (st1 := []) rfl rfl dX3_worth_104 (fun H locs wb => ?_)
  refine lv_aload_n hx hb dX3_worth_107 rfl (lv_at hl 2 rfl) ?_
  refine rb_get (v := .ref (ad 2)) S wb 0 (by omega) rfl rfl in3 2 (by decide) bw_128 rfl dX3_worth_108 ?_
  refine lv_aload hx hb dX3_worth_111 (lv_at hl 0 rfl) ?_
  refine rb_getN (v := .int (ar 7 c)) S wb (4 * c + 6) (by omega) (cE_crew c) rfl in0 3 (by decide) (rc_nw wb nw_4) rfl dX3_worth_113 ?_
  refine nb_ren (y := nI t) et ?_
  refine rb_aald (n := n) (a := ad (4 * t + 9)) S wb 2 (by omega) rfl 2 rfl t (by omega) (by omega) rfl dX3_worth_116 ?_
  refine rb_callVN S wb ENC_ok (k_dismiss l D cI cC cD ad n ph 0 (va_up ar 1 (upd (ar 1) (6 * c + j) z)) t hn hn2 (by omega)) (rc_nw wb nw_15) (bw4 bw_274 bw_5 bw_35 bw_275) (rb_recv wb (4 * t + 9) (by omega) (cE_desk t) rfl) hdX1_dismiss rfl ⟨rfl, rfl⟩ ⟨by decide, by decide⟩ hl.1 (Nat.le_of_ble_eq_true rfl) ⟨Nat.zero_le _, Nat.zero_le _⟩ (rest := []) (st1 := []) rfl rfl dX3_worth_117 (fun H locs wb => ?_)
  refine lv_aload hx hb dX3_worth_120 (lv_at hl 0 rfl) ?_
  refine rb_callVN S wb ENC_ok (k_release l D cI cC cD ad n ph 0 (va_up (va_up (va_up ar 1 (upd (ar 1) (6 * c + j) z)) 4 (upd (ar 4) t (-1))) 5 (upd (ar 5) t (nI 0))) c hn hn2 (by omega)) (rc_nw wb nw_16) (bw4 bw_278 bw_6 bw_34 bw_279) (rb_recv wb (4 * c + 6) (by omega) (cE_crew c) rfl) hdX0_release rfl ⟨rfl, rfl⟩ ⟨by decide, by decide⟩ hl.1 (Nat.le_of_ble_eq_true rfl) ⟨Nat.zero_le _, Nat.zero_le _⟩ (rest := []) (st1 := []) rfl rfl dX3_worth_122 (fun H locs wb => ?_)
  exact rb_vret S hr hlk hQ wb (fun _ _ => rfl) dX3_worth_125
