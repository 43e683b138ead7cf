/-! the model's public methods -/
theorem no_f {c n : Nat} (hc : c < n) (hn : n < 2 ^ 31) : ¬ (nI c < 0 ∨ nI n ≤ nI c) := fun q => q.elim (nI_pos (by omega)) (fun q => nI_ge hc hn q)
theorem tI {P : Prop} {r : Int32} {d : Decidable P} (h : tells r P) : (@ite Int32 P d 1 0) = r := by
  by_cases q : P
  · rw [if_pos q, h.1 q]
  · rw [if_neg q, h.2 q]

theorem m_no_t (l : Launch) (D : va_G) (cI cC cD : ClassId) (ad : Nat → Nat) (th : Int32) (n : Nat) (st : Int32) (mn : Nat) (ar : Nat → Nat → Int32) (x : Int32) (r : Int32) (h : tells r (x < 0 ∨ nI n ≤ x)) : RM l yX4_no cX4_no 2 (some .boolean) ({ frames := 0, cells := 0, slots := 0, locals := 0 }) D (ty3 cI cC cD) EN0 [.ref (ad 0), .int x] ad 12 (mE ad cI th n st mn ar) (mE ad cI th n st mn ar) (some (.int r)) := by
  have := m_no l D cI cC cD ad th n st mn ar x
  rwa [tI h] at this

theorem m_noLetter_t (l : Launch) (D : va_G) (cI cC cD : ClassId) (ad : Nat → Nat) (th : Int32) (n : Nat) (st : Int32) (mn : Nat) (ar : Nat → Nat → Int32) (x : Int32) (r : Int32) (h : tells r (x < 0 ∨ nI mn ≤ x)) : RM l yX4_noLetter cX4_noLetter 2 (some .boolean) ({ frames := 0, cells := 0, slots := 0, locals := 0 }) D (ty3 cI cC cD) EN0 [.ref (ad 0), .int x] ad 12 (mE ad cI th n st mn ar) (mE ad cI th n st mn ar) (some (.int r)) := by
  have := m_noLetter l D cI cC cD ad th n st mn ar x
  rwa [tI h] at this

set_option maxHeartbeats 4000000 in
set_option maxRecDepth 100000 in
theorem m_known_x1 (l : Launch) (D : va_G) (cI cC cD : ClassId) (ad : Nat → Nat) (th : Int32) (n : Nat) (st : Int32) (mn : Nat) (ar : Nat → Nat → Int32) (x y : Int32) (hn : n ≤ 6) (hx0 : x < 0 ∨ nI n ≤ x) : RM l yX4_known cX4_known 3 (some .int) ({ frames := 1, cells := 0, slots := 0, locals := 21 }) D (ty3 cI cC cD) EN0 [.ref (ad 0), .int x, .int y] ad 12 (mE ad cI th n st mn ar) (mE ad cI (nI 1) n st mn ar) (some (.int (nI 0))) := by
  refine RM.of (by decide) (Nat.le_of_ble_eq_true rfl) ?_
  intro p e s m below meth c0 A ls args Q0 S hr hlk hQ wb hl
  have hx := S.1
  have hb := S.2.1
  have hl : lv_has ls 3 [(0, .ref (ad 0)), (1, .int x), (2, .int y)] := hl
  refine lv_aload_n hx hb dX4_known_0 rfl (lv_at hl 0 rfl) ?_
  refine lv_aload_n hx hb dX4_known_1 rfl (lv_at hl 0 rfl) ?_
  refine lv_iload_n hx hb dX4_known_2 rfl (lv_at hl 1 rfl) ?_
  refine rb_callV S wb EN0_ok (m_no_t l D cI cC cD ad th n st mn ar x (nI 1) (tells_t hx0)) (bw5 bw_520 bw_522 bw_23 bw_37 bw_523) (rb_recv wb 0 (by decide) rfl rfl) hdX4_no rfl ⟨rfl, rfl⟩ ⟨by decide, by decide⟩ hl.1 (Nat.le_of_ble_eq_true rfl) ⟨Nat.zero_le _, Nat.zero_le _⟩ (rest := [.ref (ad 0)]) (st1 := [.int (nI 1), .ref (ad 0)]) rfl rfl dX4_known_3 (fun H locs wb => ?_)
  refine lv_if_ne (tgt := 17) hx hb dX4_known_6 (by decide) (fun h6 => ?_) (fun h6 => absurd h6 (by decide))
  refine lv_iconst (v := nI 1) hx hb dX4_known_17 (by decide) ?_
  refine lv_goto (tgt := 22) hx hb dX4_known_18 (by decide) ?_
  refine rb_put (E' := mE ad cI (nI 1) n st mn ar) S wb 0 (by decide) rfl rfl in4 tyX4 tyX4_ok nmX4 0 (by decide) bw_462 rfl rfl rfl (Nat.le_of_ble_eq_true rfl) (m12 rfl rfl rfl rfl rfl rfl rfl rfl rfl rfl rfl rfl) dX4_known_22 (fun H locs wb => ?_)
  refine lv_aload_n hx hb dX4_known_25 rfl (lv_at hl 0 rfl) ?_
  refine rb_get S wb 0 (by decide) rfl rfl in4 0 (by decide) bw_462 rfl dX4_known_26 ?_
  refine lv_if_ne (tgt := 46) hx hb dX4_known_29 (by decide) (fun h29 => ?_) (fun h29 => absurd h29 (by decide))
  refine lv_iconst (v := nI 0) hx hb dX4_known_46 (by decide) ?_
  exact rb_iret S hr hlk hQ rfl wb (m12 rfl rfl rfl rfl rfl rfl rfl rfl rfl rfl rfl rfl) dX4_known_47

set_option maxHeartbeats 4000000 in
set_option maxRecDepth 100000 in
theorem m_known_x2 (l : Launch) (D : va_G) (cI cC cD : ClassId) (ad : Nat → Nat) (th : Int32) (n : Nat) (st : Int32) (mn : Nat) (ar : Nat → Nat → Int32) (x y : Int32) (hn : n ≤ 6) (hx0 : ¬ (x < 0 ∨ nI n ≤ x)) (hy0 : y < 0 ∨ nI n ≤ y) : RM l yX4_known cX4_known 3 (some .int) ({ frames := 1, cells := 0, slots := 0, locals := 21 }) D (ty3 cI cC cD) EN0 [.ref (ad 0), .int x, .int y] ad 12 (mE ad cI th n st mn ar) (mE ad cI (nI 1) n st mn ar) (some (.int (nI 0))) := by
  refine RM.of (by decide) (Nat.le_of_ble_eq_true rfl) ?_
  intro p e s m below meth c0 A ls args Q0 S hr hlk hQ wb hl
  have hx := S.1
  have hb := S.2.1
  have hl : lv_has ls 3 [(0, .ref (ad 0)), (1, .int x), (2, .int y)] := hl
  refine lv_aload_n hx hb dX4_known_0 rfl (lv_at hl 0 rfl) ?_
  refine lv_aload_n hx hb dX4_known_1 rfl (lv_at hl 0 rfl) ?_
  refine lv_iload_n hx hb dX4_known_2 rfl (lv_at hl 1 rfl) ?_
  refine rb_callV S wb EN0_ok (m_no_t l D cI cC cD ad th n st mn ar x (nI 0) (tells_f hx0)) (bw5 bw_520 bw_522 bw_23 bw_37 bw_523) (rb_recv wb 0 (by decide) rfl rfl) hdX4_no rfl ⟨rfl, rfl⟩ ⟨by decide, by decide⟩ hl.1 (Nat.le_of_ble_eq_true rfl) ⟨Nat.zero_le _, Nat.zero_le _⟩ (rest := [.ref (ad 0)]) (st1 := [.int (nI 0), .ref (ad 0)]) rfl rfl dX4_known_3 (fun H locs wb => ?_)
  refine lv_if_ne (tgt := 17) hx hb dX4_known_6 (by decide) (fun h6 => absurd (by decide) h6) (fun h6 => ?_)
  refine lv_aload_n hx hb dX4_known_9 rfl (lv_at hl 0 rfl) ?_
  refine lv_iload_n hx hb dX4_known_10 rfl (lv_at hl 2 rfl) ?_
  refine rb_callV S wb EN0_ok (m_no_t l D cI cC cD ad th n st mn ar y (nI 1) (tells_t hy0)) (bw5 bw_520 bw_522 bw_23 bw_37 bw_523) (rb_recv wb 0 (by decide) rfl rfl) hdX4_no rfl ⟨rfl, rfl⟩ ⟨by decide, by decide⟩ hl.1 (Nat.le_of_ble_eq_true rfl) ⟨Nat.zero_le _, Nat.zero_le _⟩ (rest := [.ref (ad 0)]) (st1 := [.int (nI 1), .ref (ad 0)]) rfl rfl dX4_known_11 (fun H locs wb => ?_)
  refine lv_if_eq (tgt := 21) hx hb dX4_known_14 (by decide) (fun h14 => absurd h14 (by decide)) (fun h14 => ?_)
  refine lv_iconst (v := nI 1) hx hb dX4_known_17 (by decide) ?_
  refine lv_goto (tgt := 22) hx hb dX4_known_18 (by decide) ?_
  refine rb_put (E' := mE ad cI (nI 1) n st mn ar) S wb 0 (by decide) rfl rfl in4 tyX4 tyX4_ok nmX4 0 (by decide) bw_462 rfl rfl rfl (Nat.le_of_ble_eq_true rfl) (m12 rfl rfl rfl rfl rfl rfl rfl rfl rfl rfl rfl rfl) dX4_known_22 (fun H locs wb => ?_)
  refine lv_aload_n hx hb dX4_known_25 rfl (lv_at hl 0 rfl) ?_
  refine rb_get S wb 0 (by decide) rfl rfl in4 0 (by decide) bw_462 rfl dX4_known_26 ?_
  refine lv_if_ne (tgt := 46) hx hb dX4_known_29 (by decide) (fun h29 => ?_) (fun h29 => absurd h29 (by decide))
  refine lv_iconst (v := nI 0) hx hb dX4_known_46 (by decide) ?_
  exact rb_iret S hr hlk hQ rfl wb (m12 rfl rfl rfl rfl rfl rfl rfl rfl rfl rfl rfl rfl) dX4_known_47

set_option maxHeartbeats 4000000 in
set_option maxRecDepth 100000 in
theorem m_known (l : Launch) (D : va_G) (cI cC cD : ClassId) (ad : Nat → Nat) (th : Int32) (n : Nat) (st : Int32) (mn : Nat) (ar : Nat → Nat → Int32) (c j : Nat) (hn : n ≤ 6) (hc : c < n) (hj : j < n) : RM l yX4_known cX4_known 3 (some .int) ({ frames := 1, cells := 0, slots := 0, locals := 21 }) D (ty3 cI cC cD) EN0 [.ref (ad 0), .int (nI c), .int (nI j)] ad 12 (mE ad cI th n st mn ar) (mE ad cI (nI 0) n st mn ar) (some (.int (ar 2 (6 * c + j)))) := by
  refine RM.of (by decide) (Nat.le_of_ble_eq_true rfl) ?_
  intro p e s m below meth c0 A ls args Q0 S hr hlk hQ wb hl
  have hx := S.1
  have hb := S.2.1
  have hl : lv_has ls 3 [(0, .ref (ad 0)), (1, .int (nI c)), (2, .int (nI j))] := hl
  refine lv_aload_n hx hb dX4_known_0 rfl (lv_at hl 0 rfl) ?_
  refine lv_aload_n hx hb dX4_known_1 rfl (lv_at hl 0 rfl) ?_
  refine lv_iload_n hx hb dX4_known_2 rfl (lv_at hl 1 rfl) ?_
  refine rb_callV S wb EN0_ok (m_no_t l D cI cC cD ad th n st mn ar (nI c) (nI 0) (tells_f (no_f hc (by omega)))) (bw5 bw_520 bw_522 bw_23 bw_37 bw_523) (rb_recv wb 0 (by decide) rfl rfl) hdX4_no rfl ⟨rfl, rfl⟩ ⟨by decide, by decide⟩ hl.1 (Nat.le_of_ble_eq_true rfl) ⟨Nat.zero_le _, Nat.zero_le _⟩ (rest := [.ref (ad 0)]) (st1 := [.int (nI 0), .ref (ad 0)]) rfl rfl dX4_known_3 (fun H locs wb => ?_)
  refine lv_if_ne (tgt := 17) hx hb dX4_known_6 (by decide) (fun h6 => absurd (by decide) h6) (fun h6 => ?_)
  refine lv_aload_n hx hb dX4_known_9 rfl (lv_at hl 0 rfl) ?_
  refine lv_iload_n hx hb dX4_known_10 rfl (lv_at hl 2 rfl) ?_
  refine rb_callV S wb EN0_ok (m_no_t l D cI cC cD ad th n st mn ar (nI j) (nI 0) (tells_f (no_f hj (by omega)))) (bw5 bw_520 bw_522 bw_23 bw_37 bw_523) (rb_recv wb 0 (by decide) rfl rfl) hdX4_no rfl ⟨rfl, rfl⟩ ⟨by decide, by decide⟩ hl.1 (Nat.le_of_ble_eq_true rfl) ⟨Nat.zero_le _, Nat.zero_le _⟩ (rest := [.ref (ad 0)]) (st1 := [.int (nI 0), .ref (ad 0)]) rfl rfl dX4_known_11 (fun H locs wb => ?_)
  refine lv_if_eq (tgt := 21) hx hb dX4_known_14 (by decide) (fun h14 => ?_) (fun h14 => absurd (by decide) h14)
  refine lv_iconst (v := nI 0) hx hb dX4_known_21 (by decide) ?_
  refine rb_put (E' := mE ad cI (nI 0) n st mn ar) S wb 0 (by decide) rfl rfl in4 tyX4 tyX4_ok nmX4 0 (by decide) bw_462 rfl rfl rfl (Nat.le_of_ble_eq_true rfl) (m12 rfl rfl rfl rfl rfl rfl rfl rfl rfl rfl rfl rfl) dX4_known_22 (fun H locs wb => ?_)
  refine lv_aload_n hx hb dX4_known_25 rfl (lv_at hl 0 rfl) ?_
  refine rb_get S wb 0 (by decide) rfl rfl in4 0 (by decide) bw_462 rfl dX4_known_26 ?_
  refine lv_if_ne (tgt := 46) hx hb dX4_known_29 (by decide) (fun h29 => absurd (by decide) h29) (fun h29 => ?_)
  refine lv_aload_n hx hb dX4_known_32 rfl (lv_at hl 0 rfl) ?_
  refine rb_get S wb 0 (by decide) rfl rfl in4 4 (by decide) bw_466 rfl dX4_known_33 ?_
  refine lv_bipush (v := nI 6) hx hb dX4_known_36 (by decide) ?_
  refine lv_iload_n hx hb dX4_known_38 rfl (lv_at hl 1 rfl) ?_
  refine lv_imul hx hb dX4_known_39 ?_
  refine nb_ren (y := nI (6 * c)) (pk_mul _ _) ?_
  refine lv_iload_n hx hb dX4_known_40 rfl (lv_at hl 2 rfl) ?_
  refine lv_iadd hx hb dX4_known_41 ?_
  refine nb_ren (y := nI (6 * c + j)) (nI_add _ _) ?_
  refine rb_ald (n := 36) (f := ar 2) (x := ar 2 (6 * c + j)) S wb 2 (by decide) rfl 0 rfl (6 * c + j) (by omega) (by decide) rfl dX4_known_42 ?_
  refine lv_goto (tgt := 47) hx hb dX4_known_43 (by decide) ?_
  exact rb_iret S hr hlk hQ rfl wb (m12 rfl rfl rfl rfl rfl rfl rfl rfl rfl rfl rfl rfl) dX4_known_47

set_option maxHeartbeats 4000000 in
set_option maxRecDepth 100000 in
theorem m_resend_x1 (l : Launch) (D : va_G) (cI cC cD : ClassId) (ad : Nat → Nat) (th : Int32) (n : Nat) (st : Int32) (mn : Nat) (ar : Nat → Nat → Int32) (x : Int32) (hn : n ≤ 6) (hx0 : x < 0 ∨ nI n ≤ x) : RM l yX4_resend cX4_resend 2 (some .int) ({ frames := 1, cells := 0, slots := 0, locals := 21 }) D (ty3 cI cC cD) EN0 [.ref (ad 0), .int x] ad 12 (mE ad cI th n st mn ar) (mE ad cI (nI 1) n st mn ar) (some (.int (nI 0))) := by
  refine RM.of (by decide) (Nat.le_of_ble_eq_true rfl) ?_
  intro p e s m below meth c0 A ls args Q0 S hr hlk hQ wb hl
  have hx := S.1
  have hb := S.2.1
  have hl : lv_has ls 2 [(0, .ref (ad 0)), (1, .int x)] := hl
  refine lv_aload_n hx hb dX4_resend_0 rfl (lv_at hl 0 rfl) ?_
  refine lv_aload_n hx hb dX4_resend_1 rfl (lv_at hl 0 rfl) ?_
  refine lv_iload_n hx hb dX4_resend_2 rfl (lv_at hl 1 rfl) ?_
  refine rb_callV S wb EN0_ok (m_no_t l D cI cC cD ad th n st mn ar x (nI 1) (tells_t hx0)) (bw5 bw_520 bw_522 bw_23 bw_37 bw_523) (rb_recv wb 0 (by decide) rfl rfl) hdX4_no rfl ⟨rfl, rfl⟩ ⟨by decide, by decide⟩ hl.1 (Nat.le_of_ble_eq_true rfl) ⟨Nat.zero_le _, Nat.zero_le _⟩ (rest := [.ref (ad 0)]) (st1 := [.int (nI 1), .ref (ad 0)]) rfl rfl dX4_resend_3 (fun H locs wb => ?_)
  refine lv_if_eq (tgt := 13) hx hb dX4_resend_6 (by decide) (fun h6 => absurd h6 (by decide)) (fun h6 => ?_)
  refine lv_iconst (v := nI 1) hx hb dX4_resend_9 (by decide) ?_
  refine lv_goto (tgt := 36) hx hb dX4_resend_10 (by decide) ?_
  refine rb_put (E' := mE ad cI (nI 1) n st mn ar) S wb 0 (by decide) rfl rfl in4 tyX4 tyX4_ok nmX4 0 (by decide) bw_462 rfl rfl rfl (Nat.le_of_ble_eq_true rfl) (m12 rfl rfl rfl rfl rfl rfl rfl rfl rfl rfl rfl rfl) dX4_resend_36 (fun H locs wb => ?_)
  refine lv_aload_n hx hb dX4_resend_39 rfl (lv_at hl 0 rfl) ?_
  refine rb_get S wb 0 (by decide) rfl rfl in4 0 (by decide) bw_462 rfl dX4_resend_40 ?_
  refine lv_if_eq (tgt := 48) hx hb dX4_resend_43 (by decide) (fun h43 => absurd h43 (by decide)) (fun h43 => ?_)
  refine lv_iconst (v := nI 0) hx hb dX4_resend_46 (by decide) ?_
  exact rb_iret S hr hlk hQ rfl wb (m12 rfl rfl rfl rfl rfl rfl rfl rfl rfl rfl rfl rfl) dX4_resend_47

set_option maxHeartbeats 4000000 in
set_option maxRecDepth 100000 in
theorem m_resend_x2 (l : Launch) (D : va_G) (cI cC cD : ClassId) (ad : Nat → Nat) (th : Int32) (n : Nat) (st : Int32) (mn : Nat) (ar : Nat → Nat → Int32) (c : Nat) (hn : n ≤ 6) (hmn : mn < 2 ^ 31) (hc : c < n) (h2 : ar 6 c = 0 ∨ 39 < mn) : RM l yX4_resend cX4_resend 2 (some .int) ({ frames := 1, cells := 0, slots := 0, locals := 21 }) D (ty3 cI cC cD) EN0 [.ref (ad 0), .int (nI c)] ad 12 (mE ad cI th n st mn ar) (mE ad cI (nI 2) n st mn ar) (some (.int (nI 0))) := by
  refine RM.of (by decide) (Nat.le_of_ble_eq_true rfl) ?_
  intro p e s m below meth c0 A ls args Q0 S hr hlk hQ wb hl
  have hx := S.1
  have hb := S.2.1
  have hl : lv_has ls 2 [(0, .ref (ad 0)), (1, .int (nI c))] := hl
  refine lv_aload_n hx hb dX4_resend_0 rfl (lv_at hl 0 rfl) ?_
  refine lv_aload_n hx hb dX4_resend_1 rfl (lv_at hl 0 rfl) ?_
  refine lv_iload_n hx hb dX4_resend_2 rfl (lv_at hl 1 rfl) ?_
  refine rb_callV S wb EN0_ok (m_no_t l D cI cC cD ad th n st mn ar (nI c) (nI 0) (tells_f (no_f hc (by omega)))) (bw5 bw_520 bw_522 bw_23 bw_37 bw_523) (rb_recv wb 0 (by decide) rfl rfl) hdX4_no rfl ⟨rfl, rfl⟩ ⟨by decide, by decide⟩ hl.1 (Nat.le_of_ble_eq_true rfl) ⟨Nat.zero_le _, Nat.zero_le _⟩ (rest := [.ref (ad 0)]) (st1 := [.int (nI 0), .ref (ad 0)]) rfl rfl dX4_resend_3 (fun H locs wb => ?_)
  refine lv_if_eq (tgt := 13) hx hb dX4_resend_6 (by decide) (fun h6 => ?_) (fun h6 => absurd (by decide) h6)
  refine lv_aload_n hx hb dX4_resend_13 rfl (lv_at hl 0 rfl) ?_
  refine rb_get S wb 0 (by decide) rfl rfl in4 8 (by decide) bw_470 rfl dX4_resend_14 ?_
  refine lv_iload_n hx hb dX4_resend_17 rfl (lv_at hl 1 rfl) ?_
  refine rb_ald (n := 6) (f := ar 6) (x := ar 6 c) S wb 6 (by decide) rfl 0 rfl c (by omega) (by decide) rfl dX4_resend_18 ?_
  refine lv_if_eq (tgt := 31) hx hb dX4_resend_19 (by decide) (fun h19 => ?_) (fun h19 => ?_)
  · refine lv_iconst (v := nI 2) hx hb dX4_resend_31 (by decide) ?_
    refine lv_goto (tgt := 36) hx hb dX4_resend_32 (by decide) ?_
    refine rb_put (E' := mE ad cI (nI 2) n st mn ar) S wb 0 (by decide) rfl rfl in4 tyX4 tyX4_ok nmX4 0 (by decide) bw_462 rfl rfl rfl (Nat.le_of_ble_eq_true rfl) (m12 rfl rfl rfl rfl rfl rfl rfl rfl rfl rfl rfl rfl) dX4_resend_36 (fun H locs wb => ?_)
    refine lv_aload_n hx hb dX4_resend_39 rfl (lv_at hl 0 rfl) ?_
    refine rb_get S wb 0 (by decide) rfl rfl in4 0 (by decide) bw_462 rfl dX4_resend_40 ?_
    refine lv_if_eq (tgt := 48) hx hb dX4_resend_43 (by decide) (fun h43 => absurd h43 (by decide)) (fun h43 => ?_)
    refine lv_iconst (v := nI 0) hx hb dX4_resend_46 (by decide) ?_
    exact rb_iret S hr hlk hQ rfl wb (m12 rfl rfl rfl rfl rfl rfl rfl rfl rfl rfl rfl rfl) dX4_resend_47
  · have hm : 39 < mn := by
      rcases h2 with q | q
      · exact absurd q h19
      · exact q
    refine lv_aload_n hx hb dX4_resend_22 rfl (lv_at hl 0 rfl) ?_
    refine rb_get S wb 0 (by decide) rfl rfl in4 12 (by decide) bw_474 rfl dX4_resend_23 ?_
    refine lv_bipush (v := nI 39) hx hb dX4_resend_26 (by decide) ?_
    refine nb_icmp_le (tgt := 35) hx hb dX4_resend_28 (by decide) (by omega) (by omega) (fun h28 => absurd h28 (by omega)) (fun h28 => ?_)
    refine lv_iconst (v := nI 2) hx hb dX4_resend_31 (by decide) ?_
    refine lv_goto (tgt := 36) hx hb dX4_resend_32 (by decide) ?_
    refine rb_put (E' := mE ad cI (nI 2) n st mn ar) S wb 0 (by decide) rfl rfl in4 tyX4 tyX4_ok nmX4 0 (by decide) bw_462 rfl rfl rfl (Nat.le_of_ble_eq_true rfl) (m12 rfl rfl rfl rfl rfl rfl rfl rfl rfl rfl rfl rfl) dX4_resend_36 (fun H locs wb => ?_)
    refine lv_aload_n hx hb dX4_resend_39 rfl (lv_at hl 0 rfl) ?_
    refine rb_get S wb 0 (by decide) rfl rfl in4 0 (by decide) bw_462 rfl dX4_resend_40 ?_
    refine lv_if_eq (tgt := 48) hx hb dX4_resend_43 (by decide) (fun h43 => absurd h43 (by decide)) (fun h43 => ?_)
    refine lv_iconst (v := nI 0) hx hb dX4_resend_46 (by decide) ?_
    exact rb_iret S hr hlk hQ rfl wb (m12 rfl rfl rfl rfl rfl rfl rfl rfl rfl rfl rfl rfl) dX4_resend_47

set_option maxHeartbeats 4000000 in
set_option maxRecDepth 100000 in
theorem m_resend (l : Launch) (D : va_G) (cI cC cD : ClassId) (ad : Nat → Nat) (th : Int32) (n : Nat) (st : Int32) (mn : Nat) (ar : Nat → Nat → Int32) (c : Nat) (hn : n ≤ 6) (hc : c < n) (h1 : ¬ ar 6 c = 0) (h2 : mn ≤ 39) : RM l yX4_resend cX4_resend 2 (some .int) ({ frames := 1, cells := 0, slots := 0, locals := 26 }) D (ty3 cI cC cD) EN0 [.ref (ad 0), .int (nI c)] ad 12 (mE ad cI th n st mn ar) (mE ad cI (nI 0) n st (mn + 1) (va_up ar 10 (put5 (ar 10) (5 * mn) (nI 0) (nI c) (ar 7 c) (ar 8 c) (ar 9 c)))) (some (.int (nI (mn + 1)))) := by
  refine RM.of (by decide) (Nat.le_of_ble_eq_true rfl) ?_
  intro p e s m below meth c0 A ls args Q0 S hr hlk hQ wb hl
  have hx := S.1
  have hb := S.2.1
  have hl : lv_has ls 2 [(0, .ref (ad 0)), (1, .int (nI c))] := hl
  refine lv_aload_n hx hb dX4_resend_0 rfl (lv_at hl 0 rfl) ?_
  refine lv_aload_n hx hb dX4_resend_1 rfl (lv_at hl 0 rfl) ?_
  refine lv_iload_n hx hb dX4_resend_2 rfl (lv_at hl 1 rfl) ?_
  refine rb_callV S wb EN0_ok (m_no_t l D cI cC cD ad th n st mn ar (nI c) (nI 0) (tells_f (no_f hc (by omega)))) (bw5 bw_520 bw_522 bw_23 bw_37 bw_523) (rb_recv wb 0 (by decide) rfl rfl) hdX4_no rfl ⟨rfl, rfl⟩ ⟨by decide, by decide⟩ hl.1 (Nat.le_of_ble_eq_true rfl) ⟨Nat.zero_le _, Nat.zero_le _⟩ (rest := [.ref (ad 0)]) (st1 := [.int (nI 0), .ref (ad 0)]) rfl rfl dX4_resend_3 (fun H locs wb => ?_)
  refine lv_if_eq (tgt := 13) hx hb dX4_resend_6 (by decide) (fun h6 => ?_) (fun h6 => absurd (by decide) h6)
  refine lv_aload_n hx hb dX4_resend_13 rfl (lv_at hl 0 rfl) ?_
  refine rb_get S wb 0 (by decide) rfl rfl in4 8 (by decide) bw_470 rfl dX4_resend_14 ?_
  refine lv_iload_n hx hb dX4_resend_17 rfl (lv_at hl 1 rfl) ?_
  refine rb_ald (n := 6) (f := ar 6) (x := ar 6 c) S wb 6 (by decide) rfl 0 rfl c (by omega) (by decide) rfl dX4_resend_18 ?_
  refine lv_if_eq (tgt := 31) hx hb dX4_resend_19 (by decide) (fun h19 => absurd h19 h1) (fun h19 => ?_)
  refine lv_aload_n hx hb dX4_resend_22 rfl (lv_at hl 0 rfl) ?_
  refine rb_get S wb 0 (by decide) rfl rfl in4 12 (by decide) bw_474 rfl dX4_resend_23 ?_
  refine lv_bipush (v := nI 39) hx hb dX4_resend_26 (by decide) ?_
  refine nb_icmp_le (tgt := 35) hx hb dX4_resend_28 (by decide) (by omega) (by omega) (fun h28 => ?_) (fun h28 => absurd h28 (by omega))
  refine lv_iconst (v := nI 0) hx hb dX4_resend_35 (by decide) ?_
  refine rb_put (E' := mE ad cI (nI 0) n st mn ar) S wb 0 (by decide) rfl rfl in4 tyX4 tyX4_ok nmX4 0 (by decide) bw_462 rfl rfl rfl (Nat.le_of_ble_eq_true rfl) (m12 rfl rfl rfl rfl rfl rfl rfl rfl rfl rfl rfl rfl) dX4_resend_36 (fun H locs wb => ?_)
  refine lv_aload_n hx hb dX4_resend_39 rfl (lv_at hl 0 rfl) ?_
  refine rb_get S wb 0 (by decide) rfl rfl in4 0 (by decide) bw_462 rfl dX4_resend_40 ?_
  refine lv_if_eq (tgt := 48) hx hb dX4_resend_43 (by decide) (fun h43 => ?_) (fun h43 => absurd (by decide) h43)
  refine lv_aload_n hx hb dX4_resend_48 rfl (lv_at hl 0 rfl) ?_
  refine lv_iconst (v := nI 0) hx hb dX4_resend_49 (by decide) ?_
  refine lv_iload_n hx hb dX4_resend_50 rfl (lv_at hl 1 rfl) ?_
  refine lv_aload_n hx hb dX4_resend_51 rfl (lv_at hl 0 rfl) ?_
  refine rb_get S wb 0 (by decide) rfl rfl in4 9 (by decide) bw_471 rfl dX4_resend_52 ?_
  refine lv_iload_n hx hb dX4_resend_55 rfl (lv_at hl 1 rfl) ?_
  refine rb_ald (n := 6) (f := ar 7) (x := ar 7 c) S wb 7 (by decide) rfl 0 rfl c (by omega) (by decide) rfl dX4_resend_56 ?_
  refine lv_aload_n hx hb dX4_resend_57 rfl (lv_at hl 0 rfl) ?_
  refine rb_get S wb 0 (by decide) rfl rfl in4 10 (by decide) bw_472 rfl dX4_resend_58 ?_
  refine lv_iload_n hx hb dX4_resend_61 rfl (lv_at hl 1 rfl) ?_
  refine rb_ald (n := 6) (f := ar 8) (x := ar 8 c) S wb 8 (by decide) rfl 0 rfl c (by omega) (by decide) rfl dX4_resend_62 ?_
  refine lv_aload_n hx hb dX4_resend_63 rfl (lv_at hl 0 rfl) ?_
  refine rb_get S wb 0 (by decide) rfl rfl in4 11 (by decide) bw_473 rfl dX4_resend_64 ?_
  refine lv_iload_n hx hb dX4_resend_67 rfl (lv_at hl 1 rfl) ?_
  refine rb_ald (n := 6) (f := ar 9) (x := ar 9 c) S wb 9 (by decide) rfl 0 rfl c (by omega) (by decide) rfl dX4_resend_68 ?_
  refine rb_callV S wb EN0_ok (m_send0 l D cI cC cD ad (nI 0) n st mn ar (nI c) (ar 7 c) (ar 8 c) (ar 9 c) (by omega)) (bw5 bw_532 bw_534 bw_25 bw_37 bw_535) (rb_recv wb 0 (by decide) rfl rfl) hdX4_send rfl ⟨rfl, rfl⟩ ⟨by decide, by decide⟩ hl.1 (Nat.le_of_ble_eq_true rfl) ⟨Nat.zero_le _, Nat.zero_le _⟩ (rest := []) (st1 := []) rfl rfl dX4_resend_69 (fun H locs wb => ?_)
  refine lv_aload_n hx hb dX4_resend_72 rfl (lv_at hl 0 rfl) ?_
  refine rb_get S wb 0 (by decide) rfl rfl in4 12 (by decide) bw_474 rfl dX4_resend_73 ?_
  exact rb_iret S hr hlk hQ rfl wb (m12 rfl rfl rfl rfl rfl rfl rfl rfl rfl rfl rfl rfl) dX4_resend_76

set_option maxHeartbeats 4000000 in
set_option maxRecDepth 100000 in
theorem m_lose_x1 (l : Launch) (D : va_G) (cI cC cD : ClassId) (ad : Nat → Nat) (th : Int32) (n : Nat) (st : Int32) (mn : Nat) (ar : Nat → Nat → Int32) (x : Int32) (hx0 : x < 0 ∨ nI mn ≤ x) : RM l yX4_lose cX4_lose 2 (some .int) ({ frames := 1, cells := 0, slots := 0, locals := 21 }) D (ty3 cI cC cD) EN0 [.ref (ad 0), .int x] ad 12 (mE ad cI th n st mn ar) (mE ad cI (nI 1) n st mn ar) (some (.int (nI 0))) := by
  refine RM.of (by decide) (Nat.le_of_ble_eq_true rfl) ?_
  intro p e s m below meth c0 A ls args Q0 S hr hlk hQ wb hl
  have hx := S.1
  have hb := S.2.1
  have hl : lv_has ls 2 [(0, .ref (ad 0)), (1, .int x)] := hl
  refine lv_aload_n hx hb dX4_lose_0 rfl (lv_at hl 0 rfl) ?_
  refine lv_aload_n hx hb dX4_lose_1 rfl (lv_at hl 0 rfl) ?_
  refine lv_iload_n hx hb dX4_lose_2 rfl (lv_at hl 1 rfl) ?_
  refine rb_callV S wb EN0_ok (m_noLetter_t l D cI cC cD ad th n st mn ar x (nI 1) (tells_t hx0)) (bw5 bw_544 bw_546 bw_26 bw_37 bw_547) (rb_recv wb 0 (by decide) rfl rfl) hdX4_noLetter rfl ⟨rfl, rfl⟩ ⟨by decide, by decide⟩ hl.1 (Nat.le_of_ble_eq_true rfl) ⟨Nat.zero_le _, Nat.zero_le _⟩ (rest := [.ref (ad 0)]) (st1 := [.int (nI 1), .ref (ad 0)]) rfl rfl dX4_lose_3 (fun H locs wb => ?_)
  refine lv_if_eq (tgt := 13) hx hb dX4_lose_6 (by decide) (fun h6 => absurd h6 (by decide)) (fun h6 => ?_)
  refine lv_iconst (v := nI 1) hx hb dX4_lose_9 (by decide) ?_
  refine lv_goto (tgt := 14) hx hb dX4_lose_10 (by decide) ?_
  refine rb_put (E' := mE ad cI (nI 1) n st mn ar) S wb 0 (by decide) rfl rfl in4 tyX4 tyX4_ok nmX4 0 (by decide) bw_462 rfl rfl rfl (Nat.le_of_ble_eq_true rfl) (m12 rfl rfl rfl rfl rfl rfl rfl rfl rfl rfl rfl rfl) dX4_lose_14 (fun H locs wb => ?_)
  refine lv_aload_n hx hb dX4_lose_17 rfl (lv_at hl 0 rfl) ?_
  refine rb_get S wb 0 (by decide) rfl rfl in4 0 (by decide) bw_462 rfl dX4_lose_18 ?_
  refine lv_if_ne (tgt := 29) hx hb dX4_lose_21 (by decide) (fun h21 => ?_) (fun h21 => absurd h21 (by decide))
  refine lv_aload_n hx hb dX4_lose_29 rfl (lv_at hl 0 rfl) ?_
  refine rb_get S wb 0 (by decide) rfl rfl in4 0 (by decide) bw_462 rfl dX4_lose_30 ?_
  refine lv_if_ne (tgt := 43) hx hb dX4_lose_33 (by decide) (fun h33 => ?_) (fun h33 => absurd h33 (by decide))
  refine lv_iconst (v := nI 0) hx hb dX4_lose_43 (by decide) ?_
  exact rb_iret S hr hlk hQ rfl wb (m12 rfl rfl rfl rfl rfl rfl rfl rfl rfl rfl rfl rfl) dX4_lose_44

set_option maxHeartbeats 4000000 in
set_option maxRecDepth 100000 in
theorem m_lose (l : Launch) (D : va_G) (cI cC cD : ClassId) (ad : Nat → Nat) (th : Int32) (n : Nat) (st : Int32) (mn : Nat) (ar : Nat → Nat → Int32) (i : Nat) (hm : mn ≤ 120) (hi : i < mn) : RM l yX4_lose cX4_lose 2 (some .int) ({ frames := 1, cells := 0, slots := 0, locals := 22 }) D (ty3 cI cC cD) EN0 [.ref (ad 0), .int (nI i)] ad 12 (mE ad cI th n st mn ar) (mE ad cI (nI 0) n st (mn - 1) (va_up ar 10 (dr (ar 10) (5 * i) (5 * (mn - 1))))) (some (.int (nI (mn - 1)))) := by
  refine RM.of (by decide) (Nat.le_of_ble_eq_true rfl) ?_
  intro p e s m below meth c0 A ls args Q0 S hr hlk hQ wb hl
  have hx := S.1
  have hb := S.2.1
  have hl : lv_has ls 2 [(0, .ref (ad 0)), (1, .int (nI i))] := hl
  refine lv_aload_n hx hb dX4_lose_0 rfl (lv_at hl 0 rfl) ?_
  refine lv_aload_n hx hb dX4_lose_1 rfl (lv_at hl 0 rfl) ?_
  refine lv_iload_n hx hb dX4_lose_2 rfl (lv_at hl 1 rfl) ?_
  refine rb_callV S wb EN0_ok (m_noLetter_t l D cI cC cD ad th n st mn ar (nI i) (nI 0) (tells_f (no_f hi (by omega)))) (bw5 bw_544 bw_546 bw_26 bw_37 bw_547) (rb_recv wb 0 (by decide) rfl rfl) hdX4_noLetter rfl ⟨rfl, rfl⟩ ⟨by decide, by decide⟩ hl.1 (Nat.le_of_ble_eq_true rfl) ⟨Nat.zero_le _, Nat.zero_le _⟩ (rest := [.ref (ad 0)]) (st1 := [.int (nI 0), .ref (ad 0)]) rfl rfl dX4_lose_3 (fun H locs wb => ?_)
  refine lv_if_eq (tgt := 13) hx hb dX4_lose_6 (by decide) (fun h6 => ?_) (fun h6 => absurd (by decide) h6)
  refine lv_iconst (v := nI 0) hx hb dX4_lose_13 (by decide) ?_
  refine rb_put (E' := mE ad cI (nI 0) n st mn ar) S wb 0 (by decide) rfl rfl in4 tyX4 tyX4_ok nmX4 0 (by decide) bw_462 rfl rfl rfl (Nat.le_of_ble_eq_true rfl) (m12 rfl rfl rfl rfl rfl rfl rfl rfl rfl rfl rfl rfl) dX4_lose_14 (fun H locs wb => ?_)
  refine lv_aload_n hx hb dX4_lose_17 rfl (lv_at hl 0 rfl) ?_
  refine rb_get S wb 0 (by decide) rfl rfl in4 0 (by decide) bw_462 rfl dX4_lose_18 ?_
  refine lv_if_ne (tgt := 29) hx hb dX4_lose_21 (by decide) (fun h21 => absurd (by decide) h21) (fun h21 => ?_)
  refine lv_aload_n hx hb dX4_lose_24 rfl (lv_at hl 0 rfl) ?_
  refine lv_iload_n hx hb dX4_lose_25 rfl (lv_at hl 1 rfl) ?_
  refine rb_callV S wb EN0_ok (m_drop l D cI cC cD ad (nI 0) n st mn ar i (by omega) (by omega)) (bw5 bw_548 bw_550 bw_27 bw_37 bw_551) (rb_recv wb 0 (by decide) rfl rfl) hdX4_drop rfl ⟨rfl, rfl⟩ ⟨by decide, by decide⟩ hl.1 (Nat.le_of_ble_eq_true rfl) ⟨Nat.zero_le _, Nat.zero_le _⟩ (rest := []) (st1 := []) rfl rfl dX4_lose_26 (fun H locs wb => ?_)
  refine lv_aload_n hx hb dX4_lose_29 rfl (lv_at hl 0 rfl) ?_
  refine rb_get S wb 0 (by decide) rfl rfl in4 0 (by decide) bw_462 rfl dX4_lose_30 ?_
  refine lv_if_ne (tgt := 43) hx hb dX4_lose_33 (by decide) (fun h33 => absurd (by decide) h33) (fun h33 => ?_)
  refine lv_aload_n hx hb dX4_lose_36 rfl (lv_at hl 0 rfl) ?_
  refine rb_get S wb 0 (by decide) rfl rfl in4 12 (by decide) bw_474 rfl dX4_lose_37 ?_
  refine lv_goto (tgt := 44) hx hb dX4_lose_40 (by decide) ?_
  exact rb_iret S hr hlk hQ rfl wb (m12 rfl rfl rfl rfl rfl rfl rfl rfl rfl rfl rfl rfl) dX4_lose_44

set_option maxHeartbeats 4000000 in
set_option maxRecDepth 100000 in
theorem m_letter_x1 (l : Launch) (D : va_G) (cI cC cD : ClassId) (ad : Nat → Nat) (th : Int32) (n : Nat) (st : Int32) (mn : Nat) (ar : Nat → Nat → Int32) (x y : Int32) (hx0 : x < 0 ∨ nI mn ≤ x) : RM l yX4_letter cX4_letter 3 (some .int) ({ frames := 1, cells := 0, slots := 0, locals := 21 }) D (ty3 cI cC cD) EN0 [.ref (ad 0), .int x, .int y] ad 12 (mE ad cI th n st mn ar) (mE ad cI (nI 1) n st mn ar) (some (.int (nI 0))) := by
  refine RM.of (by decide) (Nat.le_of_ble_eq_true rfl) ?_
  intro p e s m below meth c0 A ls args Q0 S hr hlk hQ wb hl
  have hx := S.1
  have hb := S.2.1
  have hl : lv_has ls 3 [(0, .ref (ad 0)), (1, .int x), (2, .int y)] := hl
  refine lv_aload_n hx hb dX4_letter_0 rfl (lv_at hl 0 rfl) ?_
  refine lv_aload_n hx hb dX4_letter_1 rfl (lv_at hl 0 rfl) ?_
  refine lv_iload_n hx hb dX4_letter_2 rfl (lv_at hl 1 rfl) ?_
  refine rb_callV S wb EN0_ok (m_noLetter_t l D cI cC cD ad th n st mn ar x (nI 1) (tells_t hx0)) (bw5 bw_544 bw_546 bw_26 bw_37 bw_547) (rb_recv wb 0 (by decide) rfl rfl) hdX4_noLetter rfl ⟨rfl, rfl⟩ ⟨by decide, by decide⟩ hl.1 (Nat.le_of_ble_eq_true rfl) ⟨Nat.zero_le _, Nat.zero_le _⟩ (rest := [.ref (ad 0)]) (st1 := [.int (nI 1), .ref (ad 0)]) rfl rfl dX4_letter_3 (fun H locs wb => ?_)
  refine lv_if_eq (tgt := 13) hx hb dX4_letter_6 (by decide) (fun h6 => absurd h6 (by decide)) (fun h6 => ?_)
  refine lv_iconst (v := nI 1) hx hb dX4_letter_9 (by decide) ?_
  refine lv_goto (tgt := 27) hx hb dX4_letter_10 (by decide) ?_
  refine rb_put (E' := mE ad cI (nI 1) n st mn ar) S wb 0 (by decide) rfl rfl in4 tyX4 tyX4_ok nmX4 0 (by decide) bw_462 rfl rfl rfl (Nat.le_of_ble_eq_true rfl) (m12 rfl rfl rfl rfl rfl rfl rfl rfl rfl rfl rfl rfl) dX4_letter_27 (fun H locs wb => ?_)
  refine lv_aload_n hx hb dX4_letter_30 rfl (lv_at hl 0 rfl) ?_
  refine rb_get S wb 0 (by decide) rfl rfl in4 0 (by decide) bw_462 rfl dX4_letter_31 ?_
  refine lv_if_ne (tgt := 50) hx hb dX4_letter_34 (by decide) (fun h34 => ?_) (fun h34 => absurd h34 (by decide))
  refine lv_iconst (v := nI 0) hx hb dX4_letter_50 (by decide) ?_
  exact rb_iret S hr hlk hQ rfl wb (m12 rfl rfl rfl rfl rfl rfl rfl rfl rfl rfl rfl rfl) dX4_letter_51

set_option maxHeartbeats 4000000 in
set_option maxRecDepth 100000 in
theorem m_letter_x2 (l : Launch) (D : va_G) (cI cC cD : ClassId) (ad : Nat → Nat) (th : Int32) (n : Nat) (st : Int32) (mn : Nat) (ar : Nat → Nat → Int32) (i : Nat) (y : Int32) (hm : mn ≤ 120) (hi : i < mn) (hy : y < 0 ∨ 4 < y) : RM l yX4_letter cX4_letter 3 (some .int) ({ frames := 1, cells := 0, slots := 0, locals := 21 }) D (ty3 cI cC cD) EN0 [.ref (ad 0), .int (nI i), .int y] ad 12 (mE ad cI th n st mn ar) (mE ad cI (nI 2) n st mn ar) (some (.int (nI 0))) := by
  refine RM.of (by decide) (Nat.le_of_ble_eq_true rfl) ?_
  intro p e s m below meth c0 A ls args Q0 S hr hlk hQ wb hl
  have hx := S.1
  have hb := S.2.1
  have hl : lv_has ls 3 [(0, .ref (ad 0)), (1, .int (nI i)), (2, .int y)] := hl
  refine lv_aload_n hx hb dX4_letter_0 rfl (lv_at hl 0 rfl) ?_
  refine lv_aload_n hx hb dX4_letter_1 rfl (lv_at hl 0 rfl) ?_
  refine lv_iload_n hx hb dX4_letter_2 rfl (lv_at hl 1 rfl) ?_
  refine rb_callV S wb EN0_ok (m_noLetter_t l D cI cC cD ad th n st mn ar (nI i) (nI 0) (tells_f (no_f hi (by omega)))) (bw5 bw_544 bw_546 bw_26 bw_37 bw_547) (rb_recv wb 0 (by decide) rfl rfl) hdX4_noLetter rfl ⟨rfl, rfl⟩ ⟨by decide, by decide⟩ hl.1 (Nat.le_of_ble_eq_true rfl) ⟨Nat.zero_le _, Nat.zero_le _⟩ (rest := [.ref (ad 0)]) (st1 := [.int (nI 0), .ref (ad 0)]) rfl rfl dX4_letter_3 (fun H locs wb => ?_)
  refine lv_if_eq (tgt := 13) hx hb dX4_letter_6 (by decide) (fun h6 => ?_) (fun h6 => absurd (by decide) h6)
  refine lv_iload_n hx hb dX4_letter_13 rfl (lv_at hl 2 rfl) ?_
  refine lv_if_lt (tgt := 22) hx hb dX4_letter_14 (by decide) (fun h14 => ?_) (fun h14 => ?_)
  · refine lv_iconst (v := nI 2) hx hb dX4_letter_22 (by decide) ?_
    refine lv_goto (tgt := 27) hx hb dX4_letter_23 (by decide) ?_
    refine rb_put (E' := mE ad cI (nI 2) n st mn ar) S wb 0 (by decide) rfl rfl in4 tyX4 tyX4_ok nmX4 0 (by decide) bw_462 rfl rfl rfl (Nat.le_of_ble_eq_true rfl) (m12 rfl rfl rfl rfl rfl rfl rfl rfl rfl rfl rfl rfl) dX4_letter_27 (fun H locs wb => ?_)
    refine lv_aload_n hx hb dX4_letter_30 rfl (lv_at hl 0 rfl) ?_
    refine rb_get S wb 0 (by decide) rfl rfl in4 0 (by decide) bw_462 rfl dX4_letter_31 ?_
    refine lv_if_ne (tgt := 50) hx hb dX4_letter_34 (by decide) (fun h34 => ?_) (fun h34 => absurd h34 (by decide))
    refine lv_iconst (v := nI 0) hx hb dX4_letter_50 (by decide) ?_
    exact rb_iret S hr hlk hQ rfl wb (m12 rfl rfl rfl rfl rfl rfl rfl rfl rfl rfl rfl rfl) dX4_letter_51
  · refine lv_iload_n hx hb dX4_letter_17 rfl (lv_at hl 2 rfl) ?_
    refine lv_iconst (v := nI 4) hx hb dX4_letter_18 (by decide) ?_
    refine lv_icmp_le (tgt := 26) hx hb dX4_letter_19 (by decide) (fun h19 => absurd h19 (Int32.not_le.mpr (hy.resolve_left h14))) (fun h19 => ?_)
    refine lv_iconst (v := nI 2) hx hb dX4_letter_22 (by decide) ?_
    refine lv_goto (tgt := 27) hx hb dX4_letter_23 (by decide) ?_
    refine rb_put (E' := mE ad cI (nI 2) n st mn ar) S wb 0 (by decide) rfl rfl in4 tyX4 tyX4_ok nmX4 0 (by decide) bw_462 rfl rfl rfl (Nat.le_of_ble_eq_true rfl) (m12 rfl rfl rfl rfl rfl rfl rfl rfl rfl rfl rfl rfl) dX4_letter_27 (fun H locs wb => ?_)
    refine lv_aload_n hx hb dX4_letter_30 rfl (lv_at hl 0 rfl) ?_
    refine rb_get S wb 0 (by decide) rfl rfl in4 0 (by decide) bw_462 rfl dX4_letter_31 ?_
    refine lv_if_ne (tgt := 50) hx hb dX4_letter_34 (by decide) (fun h34 => ?_) (fun h34 => absurd h34 (by decide))
    refine lv_iconst (v := nI 0) hx hb dX4_letter_50 (by decide) ?_
    exact rb_iret S hr hlk hQ rfl wb (m12 rfl rfl rfl rfl rfl rfl rfl rfl rfl rfl rfl rfl) dX4_letter_51

set_option maxHeartbeats 4000000 in
set_option maxRecDepth 100000 in
theorem m_letter (l : Launch) (D : va_G) (cI cC cD : ClassId) (ad : Nat → Nat) (th : Int32) (n : Nat) (st : Int32) (mn : Nat) (ar : Nat → Nat → Int32) (i k : Nat) (hm : mn ≤ 120) (hi : i < mn) (hk : k < 5) : RM l yX4_letter cX4_letter 3 (some .int) ({ frames := 1, cells := 0, slots := 0, locals := 21 }) D (ty3 cI cC cD) EN0 [.ref (ad 0), .int (nI i), .int (nI k)] ad 12 (mE ad cI th n st mn ar) (mE ad cI (nI 0) n st mn ar) (some (.int (ar 10 (5 * i + k)))) := by
  refine RM.of (by decide) (Nat.le_of_ble_eq_true rfl) ?_
  intro p e s m below meth c0 A ls args Q0 S hr hlk hQ wb hl
  have hx := S.1
  have hb := S.2.1
  have hl : lv_has ls 3 [(0, .ref (ad 0)), (1, .int (nI i)), (2, .int (nI k))] := hl
  refine lv_aload_n hx hb dX4_letter_0 rfl (lv_at hl 0 rfl) ?_
  refine lv_aload_n hx hb dX4_letter_1 rfl (lv_at hl 0 rfl) ?_
  refine lv_iload_n hx hb dX4_letter_2 rfl (lv_at hl 1 rfl) ?_
  refine rb_callV S wb EN0_ok (m_noLetter_t l D cI cC cD ad th n st mn ar (nI i) (nI 0) (tells_f (no_f hi (by omega)))) (bw5 bw_544 bw_546 bw_26 bw_37 bw_547) (rb_recv wb 0 (by decide) rfl rfl) hdX4_noLetter rfl ⟨rfl, rfl⟩ ⟨by decide, by decide⟩ hl.1 (Nat.le_of_ble_eq_true rfl) ⟨Nat.zero_le _, Nat.zero_le _⟩ (rest := [.ref (ad 0)]) (st1 := [.int (nI 0), .ref (ad 0)]) rfl rfl dX4_letter_3 (fun H locs wb => ?_)
  refine lv_if_eq (tgt := 13) hx hb dX4_letter_6 (by decide) (fun h6 => ?_) (fun h6 => absurd (by decide) h6)
  refine lv_iload_n hx hb dX4_letter_13 rfl (lv_at hl 2 rfl) ?_
  refine lv_if_lt (tgt := 22) hx hb dX4_letter_14 (by decide) (fun h14 => absurd h14 (nI_pos (by omega))) (fun h14 => ?_)
  refine lv_iload_n hx hb dX4_letter_17 rfl (lv_at hl 2 rfl) ?_
  refine lv_iconst (v := nI 4) hx hb dX4_letter_18 (by decide) ?_
  refine nb_icmp_le (tgt := 26) hx hb dX4_letter_19 (by decide) (by omega) (by omega) (fun h19 => ?_) (fun h19 => absurd h19 (by omega))
  refine lv_iconst (v := nI 0) hx hb dX4_letter_26 (by decide) ?_
  refine rb_put (E' := mE ad cI (nI 0) n st mn ar) S wb 0 (by decide) rfl rfl in4 tyX4 tyX4_ok nmX4 0 (by decide) bw_462 rfl rfl rfl (Nat.le_of_ble_eq_true rfl) (m12 rfl rfl rfl rfl rfl rfl rfl rfl rfl rfl rfl rfl) dX4_letter_27 (fun H locs wb => ?_)
  refine lv_aload_n hx hb dX4_letter_30 rfl (lv_at hl 0 rfl) ?_
  refine rb_get S wb 0 (by decide) rfl rfl in4 0 (by decide) bw_462 rfl dX4_letter_31 ?_
  refine lv_if_ne (tgt := 50) hx hb dX4_letter_34 (by decide) (fun h34 => absurd (by decide) h34) (fun h34 => ?_)
  refine lv_aload_n hx hb dX4_letter_37 rfl (lv_at hl 0 rfl) ?_
  refine rb_get S wb 0 (by decide) rfl rfl in4 13 (by decide) bw_475 rfl dX4_letter_38 ?_
  refine lv_iconst (v := nI 5) hx hb dX4_letter_41 (by decide) ?_
  refine lv_iload_n hx hb dX4_letter_42 rfl (lv_at hl 1 rfl) ?_
  refine lv_imul hx hb dX4_letter_43 ?_
  refine nb_ren (y := nI (5 * i)) (pk_mul _ _) ?_
  refine lv_iload_n hx hb dX4_letter_44 rfl (lv_at hl 2 rfl) ?_
  refine lv_iadd hx hb dX4_letter_45 ?_
  refine nb_ren (y := nI (5 * i + k)) (nI_add _ _) ?_
  refine rb_ald (n := 600) (f := ar 10) (x := ar 10 (5 * i + k)) S wb 10 (by decide) rfl 0 rfl (5 * i + k) (by omega) (by decide) rfl dX4_letter_46 ?_
  refine lv_goto (tgt := 51) hx hb dX4_letter_47 (by decide) ?_
  exact rb_iret S hr hlk hQ rfl wb (m12 rfl rfl rfl rfl rfl rfl rfl rfl rfl rfl rfl rfl) dX4_letter_51

set_option maxHeartbeats 4000000 in
set_option maxRecDepth 100000 in
theorem m_count_x1 (l : Launch) (D : va_G) (cI cC cD : ClassId) (ad : Nat → Nat) (th : Int32) (n : Nat) (st : Int32) (mn : Nat) (ar : Nat → Nat → Int32) (y : Int32) (hy : y < 0 ∨ 4 < y) : RM l yX4_count cX4_count 2 (some .int) ({ frames := 0, cells := 0, slots := 0, locals := 0 }) D (ty3 cI cC cD) EN0 [.ref (ad 0), .int y] ad 12 (mE ad cI th n st mn ar) (mE ad cI (nI 1) n st mn ar) (some (.int (nI 0))) := by
  refine RM.of (by decide) (Nat.le_of_ble_eq_true rfl) ?_
  intro p e s m below meth c0 A ls args Q0 S hr hlk hQ wb hl
  have hx := S.1
  have hb := S.2.1
  have hl : lv_has ls 2 [(0, .ref (ad 0)), (1, .int y)] := hl
  refine lv_aload_n hx hb dX4_count_0 rfl (lv_at hl 0 rfl) ?_
  refine lv_iload_n hx hb dX4_count_1 rfl (lv_at hl 1 rfl) ?_
  refine lv_if_lt (tgt := 10) hx hb dX4_count_2 (by decide) (fun h2 => ?_) (fun h2 => ?_)
  · refine lv_iconst (v := nI 1) hx hb dX4_count_10 (by decide) ?_
    refine lv_goto (tgt := 15) hx hb dX4_count_11 (by decide) ?_
    refine rb_put (E' := mE ad cI (nI 1) n st mn ar) S wb 0 (by decide) rfl rfl in4 tyX4 tyX4_ok nmX4 0 (by decide) bw_462 rfl rfl rfl (Nat.le_of_ble_eq_true rfl) (m12 rfl rfl rfl rfl rfl rfl rfl rfl rfl rfl rfl rfl) dX4_count_15 (fun H locs wb => ?_)
    refine lv_aload_n hx hb dX4_count_18 rfl (lv_at hl 0 rfl) ?_
    refine rb_get S wb 0 (by decide) rfl rfl in4 0 (by decide) bw_462 rfl dX4_count_19 ?_
    refine lv_if_eq (tgt := 29) hx hb dX4_count_22 (by decide) (fun h22 => absurd h22 (by decide)) (fun h22 => ?_)
    refine lv_iconst (v := nI 0) hx hb dX4_count_25 (by decide) ?_
    refine lv_goto (tgt := 47) hx hb dX4_count_26 (by decide) ?_
    exact rb_iret S hr hlk hQ rfl wb (m12 rfl rfl rfl rfl rfl rfl rfl rfl rfl rfl rfl rfl) dX4_count_47
  · refine lv_iload_n hx hb dX4_count_5 rfl (lv_at hl 1 rfl) ?_
    refine lv_iconst (v := nI 4) hx hb dX4_count_6 (by decide) ?_
    refine lv_icmp_le (tgt := 14) hx hb dX4_count_7 (by decide) (fun h7 => absurd h7 (Int32.not_le.mpr (hy.resolve_left h2))) (fun h7 => ?_)
    refine lv_iconst (v := nI 1) hx hb dX4_count_10 (by decide) ?_
    refine lv_goto (tgt := 15) hx hb dX4_count_11 (by decide) ?_
    refine rb_put (E' := mE ad cI (nI 1) n st mn ar) S wb 0 (by decide) rfl rfl in4 tyX4 tyX4_ok nmX4 0 (by decide) bw_462 rfl rfl rfl (Nat.le_of_ble_eq_true rfl) (m12 rfl rfl rfl rfl rfl rfl rfl rfl rfl rfl rfl rfl) dX4_count_15 (fun H locs wb => ?_)
    refine lv_aload_n hx hb dX4_count_18 rfl (lv_at hl 0 rfl) ?_
    refine rb_get S wb 0 (by decide) rfl rfl in4 0 (by decide) bw_462 rfl dX4_count_19 ?_
    refine lv_if_eq (tgt := 29) hx hb dX4_count_22 (by decide) (fun h22 => absurd h22 (by decide)) (fun h22 => ?_)
    refine lv_iconst (v := nI 0) hx hb dX4_count_25 (by decide) ?_
    refine lv_goto (tgt := 47) hx hb dX4_count_26 (by decide) ?_
    exact rb_iret S hr hlk hQ rfl wb (m12 rfl rfl rfl rfl rfl rfl rfl rfl rfl rfl rfl rfl) dX4_count_47

set_option maxHeartbeats 4000000 in
set_option maxRecDepth 100000 in
theorem m_count (l : Launch) (D : va_G) (cI cC cD : ClassId) (ad : Nat → Nat) (th : Int32) (n : Nat) (st : Int32) (mn : Nat) (ar : Nat → Nat → Int32) (k : Nat) (hk : k < 4) : RM l yX4_count cX4_count 2 (some .int) ({ frames := 0, cells := 0, slots := 0, locals := 0 }) D (ty3 cI cC cD) EN0 [.ref (ad 0), .int (nI k)] ad 12 (mE ad cI th n st mn ar) (mE ad cI (nI 0) n st mn ar) (some (.int (ar 11 k))) := by
  refine RM.of (by decide) (Nat.le_of_ble_eq_true rfl) ?_
  intro p e s m below meth c0 A ls args Q0 S hr hlk hQ wb hl
  have hx := S.1
  have hb := S.2.1
  have hl : lv_has ls 2 [(0, .ref (ad 0)), (1, .int (nI k))] := hl
  refine lv_aload_n hx hb dX4_count_0 rfl (lv_at hl 0 rfl) ?_
  refine lv_iload_n hx hb dX4_count_1 rfl (lv_at hl 1 rfl) ?_
  refine lv_if_lt (tgt := 10) hx hb dX4_count_2 (by decide) (fun h2 => absurd h2 (nI_pos (by omega))) (fun h2 => ?_)
  refine lv_iload_n hx hb dX4_count_5 rfl (lv_at hl 1 rfl) ?_
  refine lv_iconst (v := nI 4) hx hb dX4_count_6 (by decide) ?_
  refine nb_icmp_le (tgt := 14) hx hb dX4_count_7 (by decide) (by omega) (by omega) (fun h7 => ?_) (fun h7 => absurd h7 (by omega))
  refine lv_iconst (v := nI 0) hx hb dX4_count_14 (by decide) ?_
  refine rb_put (E' := mE ad cI (nI 0) n st mn ar) S wb 0 (by decide) rfl rfl in4 tyX4 tyX4_ok nmX4 0 (by decide) bw_462 rfl rfl rfl (Nat.le_of_ble_eq_true rfl) (m12 rfl rfl rfl rfl rfl rfl rfl rfl rfl rfl rfl rfl) dX4_count_15 (fun H locs wb => ?_)
  refine lv_aload_n hx hb dX4_count_18 rfl (lv_at hl 0 rfl) ?_
  refine rb_get S wb 0 (by decide) rfl rfl in4 0 (by decide) bw_462 rfl dX4_count_19 ?_
  refine lv_if_eq (tgt := 29) hx hb dX4_count_22 (by decide) (fun h22 => ?_) (fun h22 => absurd (by decide) h22)
  refine lv_iload_n hx hb dX4_count_29 rfl (lv_at hl 1 rfl) ?_
  refine lv_iconst (v := nI 4) hx hb dX4_count_30 (by decide) ?_
  refine nb_icmp_ne (tgt := 41) hx hb dX4_count_31 (by decide) (by omega) (by omega) (fun h31 => ?_) (fun h31 => absurd h31 (by omega))
  refine lv_aload_n hx hb dX4_count_41 rfl (lv_at hl 0 rfl) ?_
  refine rb_get S wb 0 (by decide) rfl rfl in4 14 (by decide) bw_476 rfl dX4_count_42 ?_
  refine lv_iload_n hx hb dX4_count_45 rfl (lv_at hl 1 rfl) ?_
  refine rb_ald (n := 4) (f := ar 11) (x := ar 11 k) S wb 11 (by decide) rfl 0 rfl k (by omega) (by decide) rfl dX4_count_46 ?_
  exact rb_iret S hr hlk hQ rfl wb (m12 rfl rfl rfl rfl rfl rfl rfl rfl rfl rfl rfl rfl) dX4_count_47

set_option maxHeartbeats 4000000 in
set_option maxRecDepth 100000 in
theorem m_count4 (l : Launch) (D : va_G) (cI cC cD : ClassId) (ad : Nat → Nat) (th : Int32) (n : Nat) (st : Int32) (mn : Nat) (ar : Nat → Nat → Int32)  : RM l yX4_count cX4_count 2 (some .int) ({ frames := 0, cells := 0, slots := 0, locals := 0 }) D (ty3 cI cC cD) EN0 [.ref (ad 0), .int (nI 4)] ad 12 (mE ad cI th n st mn ar) (mE ad cI (nI 0) n st mn ar) (some (.int st)) := by
  refine RM.of (by decide) (Nat.le_of_ble_eq_true rfl) ?_
  intro p e s m below meth c0 A ls args Q0 S hr hlk hQ wb hl
  have hx := S.1
  have hb := S.2.1
  have hl : lv_has ls 2 [(0, .ref (ad 0)), (1, .int (nI 4))] := hl
  refine lv_aload_n hx hb dX4_count_0 rfl (lv_at hl 0 rfl) ?_
  refine lv_iload_n hx hb dX4_count_1 rfl (lv_at hl 1 rfl) ?_
  refine lv_if_lt (tgt := 10) hx hb dX4_count_2 (by decide) (fun h2 => absurd h2 (by decide)) (fun h2 => ?_)
  refine lv_iload_n hx hb dX4_count_5 rfl (lv_at hl 1 rfl) ?_
  refine lv_iconst (v := nI 4) hx hb dX4_count_6 (by decide) ?_
  refine nb_icmp_le (tgt := 14) hx hb dX4_count_7 (by decide) (by omega) (by omega) (fun h7 => ?_) (fun h7 => absurd h7 (by omega))
  refine lv_iconst (v := nI 0) hx hb dX4_count_14 (by decide) ?_
  refine rb_put (E' := mE ad cI (nI 0) n st mn ar) S wb 0 (by decide) rfl rfl in4 tyX4 tyX4_ok nmX4 0 (by decide) bw_462 rfl rfl rfl (Nat.le_of_ble_eq_true rfl) (m12 rfl rfl rfl rfl rfl rfl rfl rfl rfl rfl rfl rfl) dX4_count_15 (fun H locs wb => ?_)
  refine lv_aload_n hx hb dX4_count_18 rfl (lv_at hl 0 rfl) ?_
  refine rb_get S wb 0 (by decide) rfl rfl in4 0 (by decide) bw_462 rfl dX4_count_19 ?_
  refine lv_if_eq (tgt := 29) hx hb dX4_count_22 (by decide) (fun h22 => ?_) (fun h22 => absurd (by decide) h22)
  refine lv_iload_n hx hb dX4_count_29 rfl (lv_at hl 1 rfl) ?_
  refine lv_iconst (v := nI 4) hx hb dX4_count_30 (by decide) ?_
  refine nb_icmp_ne (tgt := 41) hx hb dX4_count_31 (by decide) (by omega) (by omega) (fun h31 => absurd h31 (by omega)) (fun h31 => ?_)
  refine lv_aload_n hx hb dX4_count_34 rfl (lv_at hl 0 rfl) ?_
  refine rb_get S wb 0 (by decide) rfl rfl in4 2 (by decide) bw_464 rfl dX4_count_35 ?_
  refine lv_goto (tgt := 47) hx hb dX4_count_38 (by decide) ?_
  exact rb_iret S hr hlk hQ rfl wb (m12 rfl rfl rfl rfl rfl rfl rfl rfl rfl rfl rfl rfl) dX4_count_47

set_option maxHeartbeats 4000000 in
set_option maxRecDepth 100000 in
theorem m_desk_x1 (l : Launch) (D : va_G) (cI cC cD : ClassId) (ad : Nat → Nat) (th : Int32) (n : Nat) (st : Int32) (mn : Nat) (ar : Nat → Nat → Int32) (x y : Int32) (hn : n ≤ 6) (hx0 : x < 0 ∨ nI n ≤ x) : RM l yX4_desk cX4_desk 3 (some .int) ({ frames := 1, cells := 0, slots := 0, locals := 21 }) D (ty3 cI cC cD) EN0 [.ref (ad 0), .int x, .int y] ad 12 (mE ad cI th n st mn ar) (mE ad cI (nI 1) n st mn ar) (some (.int (nI 0))) := by
  refine RM.of (by decide) (Nat.le_of_ble_eq_true rfl) ?_
  intro p e s m below meth c0 A ls args Q0 S hr hlk hQ wb hl
  have hx := S.1
  have hb := S.2.1
  have hl : lv_has ls 3 [(0, .ref (ad 0)), (1, .int x), (2, .int y)] := hl
  refine lv_aload_n hx hb dX4_desk_0 rfl (lv_at hl 0 rfl) ?_
  refine lv_aload_n hx hb dX4_desk_1 rfl (lv_at hl 0 rfl) ?_
  refine lv_iload_n hx hb dX4_desk_2 rfl (lv_at hl 1 rfl) ?_
  refine rb_callV S wb EN0_ok (m_no_t l D cI cC cD ad th n st mn ar x (nI 1) (tells_t hx0)) (bw5 bw_520 bw_522 bw_23 bw_37 bw_523) (rb_recv wb 0 (by decide) rfl rfl) hdX4_no rfl ⟨rfl, rfl⟩ ⟨by decide, by decide⟩ hl.1 (Nat.le_of_ble_eq_true rfl) ⟨Nat.zero_le _, Nat.zero_le _⟩ (rest := [.ref (ad 0)]) (st1 := [.int (nI 1), .ref (ad 0)]) rfl rfl dX4_desk_3 (fun H locs wb => ?_)
  refine lv_if_ne (tgt := 18) hx hb dX4_desk_6 (by decide) (fun h6 => ?_) (fun h6 => absurd h6 (by decide))
  refine lv_iconst (v := nI 1) hx hb dX4_desk_18 (by decide) ?_
  refine lv_goto (tgt := 23) hx hb dX4_desk_19 (by decide) ?_
  refine rb_put (E' := mE ad cI (nI 1) n st mn ar) S wb 0 (by decide) rfl rfl in4 tyX4 tyX4_ok nmX4 0 (by decide) bw_462 rfl rfl rfl (Nat.le_of_ble_eq_true rfl) (m12 rfl rfl rfl rfl rfl rfl rfl rfl rfl rfl rfl rfl) dX4_desk_23 (fun H locs wb => ?_)
  refine lv_aload_n hx hb dX4_desk_26 rfl (lv_at hl 0 rfl) ?_
  refine rb_get S wb 0 (by decide) rfl rfl in4 0 (by decide) bw_462 rfl dX4_desk_27 ?_
  refine lv_if_eq (tgt := 37) hx hb dX4_desk_30 (by decide) (fun h30 => absurd h30 (by decide)) (fun h30 => ?_)
  refine lv_iconst (v := nI 0) hx hb dX4_desk_33 (by decide) ?_
  refine lv_goto (tgt := 70) hx hb dX4_desk_34 (by decide) ?_
  exact rb_iret S hr hlk hQ rfl wb (m12 rfl rfl rfl rfl rfl rfl rfl rfl rfl rfl rfl rfl) dX4_desk_70

set_option maxHeartbeats 4000000 in
set_option maxRecDepth 100000 in
theorem m_desk_x2 (l : Launch) (D : va_G) (cI cC cD : ClassId) (ad : Nat → Nat) (th : Int32) (n : Nat) (st : Int32) (mn : Nat) (ar : Nat → Nat → Int32) (c : Nat) (y : Int32) (hn : n ≤ 6) (hc : c < n) (hy : y < 0 ∨ 2 < y) : RM l yX4_desk cX4_desk 3 (some .int) ({ frames := 1, cells := 0, slots := 0, locals := 21 }) D (ty3 cI cC cD) EN0 [.ref (ad 0), .int (nI c), .int y] ad 12 (mE ad cI th n st mn ar) (mE ad cI (nI 1) n st mn ar) (some (.int (nI 0))) := by
  refine RM.of (by decide) (Nat.le_of_ble_eq_true rfl) ?_
  intro p e s m below meth c0 A ls args Q0 S hr hlk hQ wb hl
  have hx := S.1
  have hb := S.2.1
  have hl : lv_has ls 3 [(0, .ref (ad 0)), (1, .int (nI c)), (2, .int y)] := hl
  refine lv_aload_n hx hb dX4_desk_0 rfl (lv_at hl 0 rfl) ?_
  refine lv_aload_n hx hb dX4_desk_1 rfl (lv_at hl 0 rfl) ?_
  refine lv_iload_n hx hb dX4_desk_2 rfl (lv_at hl 1 rfl) ?_
  refine rb_callV S wb EN0_ok (m_no_t l D cI cC cD ad th n st mn ar (nI c) (nI 0) (tells_f (no_f hc (by omega)))) (bw5 bw_520 bw_522 bw_23 bw_37 bw_523) (rb_recv wb 0 (by decide) rfl rfl) hdX4_no rfl ⟨rfl, rfl⟩ ⟨by decide, by decide⟩ hl.1 (Nat.le_of_ble_eq_true rfl) ⟨Nat.zero_le _, Nat.zero_le _⟩ (rest := [.ref (ad 0)]) (st1 := [.int (nI 0), .ref (ad 0)]) rfl rfl dX4_desk_3 (fun H locs wb => ?_)
  refine lv_if_ne (tgt := 18) hx hb dX4_desk_6 (by decide) (fun h6 => absurd (by decide) h6) (fun h6 => ?_)
  refine lv_iload_n hx hb dX4_desk_9 rfl (lv_at hl 2 rfl) ?_
  refine lv_if_lt (tgt := 18) hx hb dX4_desk_10 (by decide) (fun h10 => ?_) (fun h10 => ?_)
  · refine lv_iconst (v := nI 1) hx hb dX4_desk_18 (by decide) ?_
    refine lv_goto (tgt := 23) hx hb dX4_desk_19 (by decide) ?_
    refine rb_put (E' := mE ad cI (nI 1) n st mn ar) S wb 0 (by decide) rfl rfl in4 tyX4 tyX4_ok nmX4 0 (by decide) bw_462 rfl rfl rfl (Nat.le_of_ble_eq_true rfl) (m12 rfl rfl rfl rfl rfl rfl rfl rfl rfl rfl rfl rfl) dX4_desk_23 (fun H locs wb => ?_)
    refine lv_aload_n hx hb dX4_desk_26 rfl (lv_at hl 0 rfl) ?_
    refine rb_get S wb 0 (by decide) rfl rfl in4 0 (by decide) bw_462 rfl dX4_desk_27 ?_
    refine lv_if_eq (tgt := 37) hx hb dX4_desk_30 (by decide) (fun h30 => absurd h30 (by decide)) (fun h30 => ?_)
    refine lv_iconst (v := nI 0) hx hb dX4_desk_33 (by decide) ?_
    refine lv_goto (tgt := 70) hx hb dX4_desk_34 (by decide) ?_
    exact rb_iret S hr hlk hQ rfl wb (m12 rfl rfl rfl rfl rfl rfl rfl rfl rfl rfl rfl rfl) dX4_desk_70
  · refine lv_iload_n hx hb dX4_desk_13 rfl (lv_at hl 2 rfl) ?_
    refine lv_iconst (v := nI 2) hx hb dX4_desk_14 (by decide) ?_
    refine lv_icmp_le (tgt := 22) hx hb dX4_desk_15 (by decide) (fun h15 => absurd h15 (Int32.not_le.mpr (hy.resolve_left h10))) (fun h15 => ?_)
    refine lv_iconst (v := nI 1) hx hb dX4_desk_18 (by decide) ?_
    refine lv_goto (tgt := 23) hx hb dX4_desk_19 (by decide) ?_
    refine rb_put (E' := mE ad cI (nI 1) n st mn ar) S wb 0 (by decide) rfl rfl in4 tyX4 tyX4_ok nmX4 0 (by decide) bw_462 rfl rfl rfl (Nat.le_of_ble_eq_true rfl) (m12 rfl rfl rfl rfl rfl rfl rfl rfl rfl rfl rfl rfl) dX4_desk_23 (fun H locs wb => ?_)
    refine lv_aload_n hx hb dX4_desk_26 rfl (lv_at hl 0 rfl) ?_
    refine rb_get S wb 0 (by decide) rfl rfl in4 0 (by decide) bw_462 rfl dX4_desk_27 ?_
    refine lv_if_eq (tgt := 37) hx hb dX4_desk_30 (by decide) (fun h30 => absurd h30 (by decide)) (fun h30 => ?_)
    refine lv_iconst (v := nI 0) hx hb dX4_desk_33 (by decide) ?_
    refine lv_goto (tgt := 70) hx hb dX4_desk_34 (by decide) ?_
    exact rb_iret S hr hlk hQ rfl wb (m12 rfl rfl rfl rfl rfl rfl rfl rfl rfl rfl rfl rfl) dX4_desk_70

set_option maxHeartbeats 4000000 in
set_option maxRecDepth 100000 in
theorem m_desk0 (l : Launch) (D : va_G) (cI cC cD : ClassId) (ad : Nat → Nat) (th : Int32) (n : Nat) (st : Int32) (mn : Nat) (ar : Nat → Nat → Int32) (c : Nat) (hn : n ≤ 6) (hc : c < n) : RM l yX4_desk cX4_desk 3 (some .int) ({ frames := 1, cells := 0, slots := 0, locals := 21 }) D (ty3 cI cC cD) EN0 [.ref (ad 0), .int (nI c), .int (nI 0)] ad 12 (mE ad cI th n st mn ar) (mE ad cI (nI 0) n st mn ar) (some (.int (ar 3 c))) := by
  refine RM.of (by decide) (Nat.le_of_ble_eq_true rfl) ?_
  intro p e s m below meth c0 A ls args Q0 S hr hlk hQ wb hl
  have hx := S.1
  have hb := S.2.1
  have hl : lv_has ls 3 [(0, .ref (ad 0)), (1, .int (nI c)), (2, .int (nI 0))] := hl
  refine lv_aload_n hx hb dX4_desk_0 rfl (lv_at hl 0 rfl) ?_
  refine lv_aload_n hx hb dX4_desk_1 rfl (lv_at hl 0 rfl) ?_
  refine lv_iload_n hx hb dX4_desk_2 rfl (lv_at hl 1 rfl) ?_
  refine rb_callV S wb EN0_ok (m_no_t l D cI cC cD ad th n st mn ar (nI c) (nI 0) (tells_f (no_f hc (by omega)))) (bw5 bw_520 bw_522 bw_23 bw_37 bw_523) (rb_recv wb 0 (by decide) rfl rfl) hdX4_no rfl ⟨rfl, rfl⟩ ⟨by decide, by decide⟩ hl.1 (Nat.le_of_ble_eq_true rfl) ⟨Nat.zero_le _, Nat.zero_le _⟩ (rest := [.ref (ad 0)]) (st1 := [.int (nI 0), .ref (ad 0)]) rfl rfl dX4_desk_3 (fun H locs wb => ?_)
  refine lv_if_ne (tgt := 18) hx hb dX4_desk_6 (by decide) (fun h6 => absurd (by decide) h6) (fun h6 => ?_)
  refine lv_iload_n hx hb dX4_desk_9 rfl (lv_at hl 2 rfl) ?_
  refine lv_if_lt (tgt := 18) hx hb dX4_desk_10 (by decide) (fun h10 => absurd h10 (by decide)) (fun h10 => ?_)
  refine lv_iload_n hx hb dX4_desk_13 rfl (lv_at hl 2 rfl) ?_
  refine lv_iconst (v := nI 2) hx hb dX4_desk_14 (by decide) ?_
  refine nb_icmp_le (tgt := 22) hx hb dX4_desk_15 (by decide) (by omega) (by omega) (fun h15 => ?_) (fun h15 => absurd h15 (by omega))
  refine lv_iconst (v := nI 0) hx hb dX4_desk_22 (by decide) ?_
  refine rb_put (E' := mE ad cI (nI 0) n st mn ar) S wb 0 (by decide) rfl rfl in4 tyX4 tyX4_ok nmX4 0 (by decide) bw_462 rfl rfl rfl (Nat.le_of_ble_eq_true rfl) (m12 rfl rfl rfl rfl rfl rfl rfl rfl rfl rfl rfl rfl) dX4_desk_23 (fun H locs wb => ?_)
  refine lv_aload_n hx hb dX4_desk_26 rfl (lv_at hl 0 rfl) ?_
  refine rb_get S wb 0 (by decide) rfl rfl in4 0 (by decide) bw_462 rfl dX4_desk_27 ?_
  refine lv_if_eq (tgt := 37) hx hb dX4_desk_30 (by decide) (fun h30 => ?_) (fun h30 => absurd (by decide) h30)
  refine lv_iload_n hx hb dX4_desk_37 rfl (lv_at hl 2 rfl) ?_
  refine lv_if_ne (tgt := 50) hx hb dX4_desk_38 (by decide) (fun h38 => absurd (by decide) h38) (fun h38 => ?_)
  refine lv_aload_n hx hb dX4_desk_41 rfl (lv_at hl 0 rfl) ?_
  refine rb_get S wb 0 (by decide) rfl rfl in4 5 (by decide) bw_467 rfl dX4_desk_42 ?_
  refine lv_iload_n hx hb dX4_desk_45 rfl (lv_at hl 1 rfl) ?_
  refine rb_ald (n := 6) (f := ar 3) (x := ar 3 c) S wb 3 (by decide) rfl 0 rfl c (by omega) (by decide) rfl dX4_desk_46 ?_
  refine lv_goto (tgt := 70) hx hb dX4_desk_47 (by decide) ?_
  exact rb_iret S hr hlk hQ rfl wb (m12 rfl rfl rfl rfl rfl rfl rfl rfl rfl rfl rfl rfl) dX4_desk_70

set_option maxHeartbeats 4000000 in
set_option maxRecDepth 100000 in
theorem m_desk1 (l : Launch) (D : va_G) (cI cC cD : ClassId) (ad : Nat → Nat) (th : Int32) (n : Nat) (st : Int32) (mn : Nat) (ar : Nat → Nat → Int32) (c : Nat) (hn : n ≤ 6) (hc : c < n) : RM l yX4_desk cX4_desk 3 (some .int) ({ frames := 1, cells := 0, slots := 0, locals := 21 }) D (ty3 cI cC cD) EN0 [.ref (ad 0), .int (nI c), .int (nI 1)] ad 12 (mE ad cI th n st mn ar) (mE ad cI (nI 0) n st mn ar) (some (.int (ar 4 c))) := by
  refine RM.of (by decide) (Nat.le_of_ble_eq_true rfl) ?_
  intro p e s m below meth c0 A ls args Q0 S hr hlk hQ wb hl
  have hx := S.1
  have hb := S.2.1
  have hl : lv_has ls 3 [(0, .ref (ad 0)), (1, .int (nI c)), (2, .int (nI 1))] := hl
  refine lv_aload_n hx hb dX4_desk_0 rfl (lv_at hl 0 rfl) ?_
  refine lv_aload_n hx hb dX4_desk_1 rfl (lv_at hl 0 rfl) ?_
  refine lv_iload_n hx hb dX4_desk_2 rfl (lv_at hl 1 rfl) ?_
  refine rb_callV S wb EN0_ok (m_no_t l D cI cC cD ad th n st mn ar (nI c) (nI 0) (tells_f (no_f hc (by omega)))) (bw5 bw_520 bw_522 bw_23 bw_37 bw_523) (rb_recv wb 0 (by decide) rfl rfl) hdX4_no rfl ⟨rfl, rfl⟩ ⟨by decide, by decide⟩ hl.1 (Nat.le_of_ble_eq_true rfl) ⟨Nat.zero_le _, Nat.zero_le _⟩ (rest := [.ref (ad 0)]) (st1 := [.int (nI 0), .ref (ad 0)]) rfl rfl dX4_desk_3 (fun H locs wb => ?_)
  refine lv_if_ne (tgt := 18) hx hb dX4_desk_6 (by decide) (fun h6 => absurd (by decide) h6) (fun h6 => ?_)
  refine lv_iload_n hx hb dX4_desk_9 rfl (lv_at hl 2 rfl) ?_
  refine lv_if_lt (tgt := 18) hx hb dX4_desk_10 (by decide) (fun h10 => absurd h10 (by decide)) (fun h10 => ?_)
  refine lv_iload_n hx hb dX4_desk_13 rfl (lv_at hl 2 rfl) ?_
  refine lv_iconst (v := nI 2) hx hb dX4_desk_14 (by decide) ?_
  refine nb_icmp_le (tgt := 22) hx hb dX4_desk_15 (by decide) (by omega) (by omega) (fun h15 => ?_) (fun h15 => absurd h15 (by omega))
  refine lv_iconst (v := nI 0) hx hb dX4_desk_22 (by decide) ?_
  refine rb_put (E' := mE ad cI (nI 0) n st mn ar) S wb 0 (by decide) rfl rfl in4 tyX4 tyX4_ok nmX4 0 (by decide) bw_462 rfl rfl rfl (Nat.le_of_ble_eq_true rfl) (m12 rfl rfl rfl rfl rfl rfl rfl rfl rfl rfl rfl rfl) dX4_desk_23 (fun H locs wb => ?_)
  refine lv_aload_n hx hb dX4_desk_26 rfl (lv_at hl 0 rfl) ?_
  refine rb_get S wb 0 (by decide) rfl rfl in4 0 (by decide) bw_462 rfl dX4_desk_27 ?_
  refine lv_if_eq (tgt := 37) hx hb dX4_desk_30 (by decide) (fun h30 => ?_) (fun h30 => absurd (by decide) h30)
  refine lv_iload_n hx hb dX4_desk_37 rfl (lv_at hl 2 rfl) ?_
  refine lv_if_ne (tgt := 50) hx hb dX4_desk_38 (by decide) (fun h38 => ?_) (fun h38 => absurd h38 (by decide))
  refine lv_iload_n hx hb dX4_desk_50 rfl (lv_at hl 2 rfl) ?_
  refine lv_iconst (v := nI 1) hx hb dX4_desk_51 (by decide) ?_
  refine nb_icmp_ne (tgt := 64) hx hb dX4_desk_52 (by decide) (by omega) (by omega) (fun h52 => absurd h52 (by omega)) (fun h52 => ?_)
  refine lv_aload_n hx hb dX4_desk_55 rfl (lv_at hl 0 rfl) ?_
  refine rb_get S wb 0 (by decide) rfl rfl in4 6 (by decide) bw_468 rfl dX4_desk_56 ?_
  refine lv_iload_n hx hb dX4_desk_59 rfl (lv_at hl 1 rfl) ?_
  refine rb_ald (n := 6) (f := ar 4) (x := ar 4 c) S wb 4 (by decide) rfl 0 rfl c (by omega) (by decide) rfl dX4_desk_60 ?_
  refine lv_goto (tgt := 70) hx hb dX4_desk_61 (by decide) ?_
  exact rb_iret S hr hlk hQ rfl wb (m12 rfl rfl rfl rfl rfl rfl rfl rfl rfl rfl rfl rfl) dX4_desk_70

set_option maxHeartbeats 4000000 in
set_option maxRecDepth 100000 in
theorem m_desk2 (l : Launch) (D : va_G) (cI cC cD : ClassId) (ad : Nat → Nat) (th : Int32) (n : Nat) (st : Int32) (mn : Nat) (ar : Nat → Nat → Int32) (c : Nat) (hn : n ≤ 6) (hc : c < n) : RM l yX4_desk cX4_desk 3 (some .int) ({ frames := 1, cells := 0, slots := 0, locals := 21 }) D (ty3 cI cC cD) EN0 [.ref (ad 0), .int (nI c), .int (nI 2)] ad 12 (mE ad cI th n st mn ar) (mE ad cI (nI 0) n st mn ar) (some (.int (ar 5 c))) := by
  refine RM.of (by decide) (Nat.le_of_ble_eq_true rfl) ?_
  intro p e s m below meth c0 A ls args Q0 S hr hlk hQ wb hl
  have hx := S.1
  have hb := S.2.1
  have hl : lv_has ls 3 [(0, .ref (ad 0)), (1, .int (nI c)), (2, .int (nI 2))] := hl
  refine lv_aload_n hx hb dX4_desk_0 rfl (lv_at hl 0 rfl) ?_
  refine lv_aload_n hx hb dX4_desk_1 rfl (lv_at hl 0 rfl) ?_
  refine lv_iload_n hx hb dX4_desk_2 rfl (lv_at hl 1 rfl) ?_
  refine rb_callV S wb EN0_ok (m_no_t l D cI cC cD ad th n st mn ar (nI c) (nI 0) (tells_f (no_f hc (by omega)))) (bw5 bw_520 bw_522 bw_23 bw_37 bw_523) (rb_recv wb 0 (by decide) rfl rfl) hdX4_no rfl ⟨rfl, rfl⟩ ⟨by decide, by decide⟩ hl.1 (Nat.le_of_ble_eq_true rfl) ⟨Nat.zero_le _, Nat.zero_le _⟩ (rest := [.ref (ad 0)]) (st1 := [.int (nI 0), .ref (ad 0)]) rfl rfl dX4_desk_3 (fun H locs wb => ?_)
  refine lv_if_ne (tgt := 18) hx hb dX4_desk_6 (by decide) (fun h6 => absurd (by decide) h6) (fun h6 => ?_)
  refine lv_iload_n hx hb dX4_desk_9 rfl (lv_at hl 2 rfl) ?_
  refine lv_if_lt (tgt := 18) hx hb dX4_desk_10 (by decide) (fun h10 => absurd h10 (by decide)) (fun h10 => ?_)
  refine lv_iload_n hx hb dX4_desk_13 rfl (lv_at hl 2 rfl) ?_
  refine lv_iconst (v := nI 2) hx hb dX4_desk_14 (by decide) ?_
  refine nb_icmp_le (tgt := 22) hx hb dX4_desk_15 (by decide) (by omega) (by omega) (fun h15 => ?_) (fun h15 => absurd h15 (by omega))
  refine lv_iconst (v := nI 0) hx hb dX4_desk_22 (by decide) ?_
  refine rb_put (E' := mE ad cI (nI 0) n st mn ar) S wb 0 (by decide) rfl rfl in4 tyX4 tyX4_ok nmX4 0 (by decide) bw_462 rfl rfl rfl (Nat.le_of_ble_eq_true rfl) (m12 rfl rfl rfl rfl rfl rfl rfl rfl rfl rfl rfl rfl) dX4_desk_23 (fun H locs wb => ?_)
  refine lv_aload_n hx hb dX4_desk_26 rfl (lv_at hl 0 rfl) ?_
  refine rb_get S wb 0 (by decide) rfl rfl in4 0 (by decide) bw_462 rfl dX4_desk_27 ?_
  refine lv_if_eq (tgt := 37) hx hb dX4_desk_30 (by decide) (fun h30 => ?_) (fun h30 => absurd (by decide) h30)
  refine lv_iload_n hx hb dX4_desk_37 rfl (lv_at hl 2 rfl) ?_
  refine lv_if_ne (tgt := 50) hx hb dX4_desk_38 (by decide) (fun h38 => ?_) (fun h38 => absurd h38 (by decide))
  refine lv_iload_n hx hb dX4_desk_50 rfl (lv_at hl 2 rfl) ?_
  refine lv_iconst (v := nI 1) hx hb dX4_desk_51 (by decide) ?_
  refine nb_icmp_ne (tgt := 64) hx hb dX4_desk_52 (by decide) (by omega) (by omega) (fun h52 => ?_) (fun h52 => absurd h52 (by omega))
  refine lv_aload_n hx hb dX4_desk_64 rfl (lv_at hl 0 rfl) ?_
  refine rb_get S wb 0 (by decide) rfl rfl in4 7 (by decide) bw_469 rfl dX4_desk_65 ?_
  refine lv_iload_n hx hb dX4_desk_68 rfl (lv_at hl 1 rfl) ?_
  refine rb_ald (n := 6) (f := ar 5) (x := ar 5 c) S wb 5 (by decide) rfl 0 rfl c (by omega) (by decide) rfl dX4_desk_69 ?_
  exact rb_iret S hr hlk hQ rfl wb (m12 rfl rfl rfl rfl rfl rfl rfl rfl rfl rfl rfl rfl) dX4_desk_70

set_option maxHeartbeats 4000000 in
set_option maxRecDepth 100000 in
theorem m_crew_x1 (l : Launch) (D : va_G) (cI cC cD : ClassId) (ad : Nat → Nat) (th : Int32) (n : Nat) (st : Int32) (mn : Nat) (ar : Nat → Nat → Int32) (x y : Int32) (hn : n ≤ 6) (hx0 : x < 0 ∨ nI n ≤ x) : RM l yX4_crew cX4_crew 3 (some .int) ({ frames := 1, cells := 0, slots := 0, locals := 24 }) D (ty3 cI cC cD) EN0 [.ref (ad 0), .int x, .int y] ad 12 (mE ad cI th n st mn ar) (mE ad cI (nI 1) n st mn ar) (some (.int (nI 0))) := by
  refine RM.of (by decide) (Nat.le_of_ble_eq_true rfl) ?_
  intro p e s m below meth c0 A ls args Q0 S hr hlk hQ wb hl
  have hx := S.1
  have hb := S.2.1
  have hl : lv_has ls 3 [(0, .ref (ad 0)), (1, .int x), (2, .int y)] := hl
  refine lv_aload_n hx hb dX4_crew_0 rfl (lv_at hl 0 rfl) ?_
  refine lv_aload_n hx hb dX4_crew_1 rfl (lv_at hl 0 rfl) ?_
  refine lv_iload_n hx hb dX4_crew_2 rfl (lv_at hl 1 rfl) ?_
  refine rb_callV S wb EN0_ok (m_no_t l D cI cC cD ad th n st mn ar x (nI 1) (tells_t hx0)) (bw5 bw_520 bw_522 bw_23 bw_37 bw_523) (rb_recv wb 0 (by decide) rfl rfl) hdX4_no rfl ⟨rfl, rfl⟩ ⟨by decide, by decide⟩ hl.1 (Nat.le_of_ble_eq_true rfl) ⟨Nat.zero_le _, Nat.zero_le _⟩ (rest := [.ref (ad 0)]) (st1 := [.int (nI 1), .ref (ad 0)]) rfl rfl dX4_crew_3 (fun H locs wb => ?_)
  refine lv_if_ne (tgt := 18) hx hb dX4_crew_6 (by decide) (fun h6 => ?_) (fun h6 => absurd h6 (by decide))
  refine lv_iconst (v := nI 1) hx hb dX4_crew_18 (by decide) ?_
  refine lv_goto (tgt := 23) hx hb dX4_crew_19 (by decide) ?_
  refine rb_put (E' := mE ad cI (nI 1) n st mn ar) S wb 0 (by decide) rfl rfl in4 tyX4 tyX4_ok nmX4 0 (by decide) bw_462 rfl rfl rfl (Nat.le_of_ble_eq_true rfl) (m12 rfl rfl rfl rfl rfl rfl rfl rfl rfl rfl rfl rfl) dX4_crew_23 (fun H locs wb => ?_)
  refine lv_aload_n hx hb dX4_crew_26 rfl (lv_at hl 0 rfl) ?_
  refine rb_get S wb 0 (by decide) rfl rfl in4 0 (by decide) bw_462 rfl dX4_crew_27 ?_
  refine lv_if_eq (tgt := 35) hx hb dX4_crew_30 (by decide) (fun h30 => absurd h30 (by decide)) (fun h30 => ?_)
  refine lv_iconst (v := nI 0) hx hb dX4_crew_33 (by decide) ?_
  exact rb_iret S hr hlk hQ rfl wb (m12 rfl rfl rfl rfl rfl rfl rfl rfl rfl rfl rfl rfl) dX4_crew_34

set_option maxHeartbeats 4000000 in
set_option maxRecDepth 100000 in
theorem m_crew_x2 (l : Launch) (D : va_G) (cI cC cD : ClassId) (ad : Nat → Nat) (th : Int32) (n : Nat) (st : Int32) (mn : Nat) (ar : Nat → Nat → Int32) (c : Nat) (y : Int32) (hn : n ≤ 6) (hc : c < n) (hy : y < 0 ∨ 3 < y) : RM l yX4_crew cX4_crew 3 (some .int) ({ frames := 1, cells := 0, slots := 0, locals := 24 }) D (ty3 cI cC cD) EN0 [.ref (ad 0), .int (nI c), .int y] ad 12 (mE ad cI th n st mn ar) (mE ad cI (nI 1) n st mn ar) (some (.int (nI 0))) := by
  refine RM.of (by decide) (Nat.le_of_ble_eq_true rfl) ?_
  intro p e s m below meth c0 A ls args Q0 S hr hlk hQ wb hl
  have hx := S.1
  have hb := S.2.1
  have hl : lv_has ls 3 [(0, .ref (ad 0)), (1, .int (nI c)), (2, .int y)] := hl
  refine lv_aload_n hx hb dX4_crew_0 rfl (lv_at hl 0 rfl) ?_
  refine lv_aload_n hx hb dX4_crew_1 rfl (lv_at hl 0 rfl) ?_
  refine lv_iload_n hx hb dX4_crew_2 rfl (lv_at hl 1 rfl) ?_
  refine rb_callV S wb EN0_ok (m_no_t l D cI cC cD ad th n st mn ar (nI c) (nI 0) (tells_f (no_f hc (by omega)))) (bw5 bw_520 bw_522 bw_23 bw_37 bw_523) (rb_recv wb 0 (by decide) rfl rfl) hdX4_no rfl ⟨rfl, rfl⟩ ⟨by decide, by decide⟩ hl.1 (Nat.le_of_ble_eq_true rfl) ⟨Nat.zero_le _, Nat.zero_le _⟩ (rest := [.ref (ad 0)]) (st1 := [.int (nI 0), .ref (ad 0)]) rfl rfl dX4_crew_3 (fun H locs wb => ?_)
  refine lv_if_ne (tgt := 18) hx hb dX4_crew_6 (by decide) (fun h6 => absurd (by decide) h6) (fun h6 => ?_)
  refine lv_iload_n hx hb dX4_crew_9 rfl (lv_at hl 2 rfl) ?_
  refine lv_if_lt (tgt := 18) hx hb dX4_crew_10 (by decide) (fun h10 => ?_) (fun h10 => ?_)
  · refine lv_iconst (v := nI 1) hx hb dX4_crew_18 (by decide) ?_
    refine lv_goto (tgt := 23) hx hb dX4_crew_19 (by decide) ?_
    refine rb_put (E' := mE ad cI (nI 1) n st mn ar) S wb 0 (by decide) rfl rfl in4 tyX4 tyX4_ok nmX4 0 (by decide) bw_462 rfl rfl rfl (Nat.le_of_ble_eq_true rfl) (m12 rfl rfl rfl rfl rfl rfl rfl rfl rfl rfl rfl rfl) dX4_crew_23 (fun H locs wb => ?_)
    refine lv_aload_n hx hb dX4_crew_26 rfl (lv_at hl 0 rfl) ?_
    refine rb_get S wb 0 (by decide) rfl rfl in4 0 (by decide) bw_462 rfl dX4_crew_27 ?_
    refine lv_if_eq (tgt := 35) hx hb dX4_crew_30 (by decide) (fun h30 => absurd h30 (by decide)) (fun h30 => ?_)
    refine lv_iconst (v := nI 0) hx hb dX4_crew_33 (by decide) ?_
    exact rb_iret S hr hlk hQ rfl wb (m12 rfl rfl rfl rfl rfl rfl rfl rfl rfl rfl rfl rfl) dX4_crew_34
  · refine lv_iload_n hx hb dX4_crew_13 rfl (lv_at hl 2 rfl) ?_
    refine lv_iconst (v := nI 3) hx hb dX4_crew_14 (by decide) ?_
    refine lv_icmp_le (tgt := 22) hx hb dX4_crew_15 (by decide) (fun h15 => absurd h15 (Int32.not_le.mpr (hy.resolve_left h10))) (fun h15 => ?_)
    refine lv_iconst (v := nI 1) hx hb dX4_crew_18 (by decide) ?_
    refine lv_goto (tgt := 23) hx hb dX4_crew_19 (by decide) ?_
    refine rb_put (E' := mE ad cI (nI 1) n st mn ar) S wb 0 (by decide) rfl rfl in4 tyX4 tyX4_ok nmX4 0 (by decide) bw_462 rfl rfl rfl (Nat.le_of_ble_eq_true rfl) (m12 rfl rfl rfl rfl rfl rfl rfl rfl rfl rfl rfl rfl) dX4_crew_23 (fun H locs wb => ?_)
    refine lv_aload_n hx hb dX4_crew_26 rfl (lv_at hl 0 rfl) ?_
    refine rb_get S wb 0 (by decide) rfl rfl in4 0 (by decide) bw_462 rfl dX4_crew_27 ?_
    refine lv_if_eq (tgt := 35) hx hb dX4_crew_30 (by decide) (fun h30 => absurd h30 (by decide)) (fun h30 => ?_)
    refine lv_iconst (v := nI 0) hx hb dX4_crew_33 (by decide) ?_
    exact rb_iret S hr hlk hQ rfl wb (m12 rfl rfl rfl rfl rfl rfl rfl rfl rfl rfl rfl rfl) dX4_crew_34

set_option maxHeartbeats 4000000 in
set_option maxRecDepth 100000 in
theorem m_crew0 (l : Launch) (D : va_G) (cI cC cD : ClassId) (ad : Nat → Nat) (th : Int32) (n : Nat) (st : Int32) (mn : Nat) (ar : Nat → Nat → Int32) (c : Nat) (hn : n ≤ 6) (hn2 : 2 ≤ n) (hc : c < n) : RM l yX4_crew cX4_crew 3 (some .int) ({ frames := 1, cells := 0, slots := 0, locals := 24 }) D (ty3 cI cC cD) EN0 [.ref (ad 0), .int (nI c), .int (nI 0)] ad 12 (mE ad cI th n st mn ar) (mE ad cI (nI 0) n st mn ar) (some (.int (ar 6 c))) := by
  refine RM.of (by decide) (Nat.le_of_ble_eq_true rfl) ?_
  intro p e s m below meth c0 A ls args Q0 S hr hlk hQ wb hl
  have hx := S.1
  have hb := S.2.1
  have hl : lv_has ls 3 [(0, .ref (ad 0)), (1, .int (nI c)), (2, .int (nI 0))] := hl
  refine lv_aload_n hx hb dX4_crew_0 rfl (lv_at hl 0 rfl) ?_
  refine lv_aload_n hx hb dX4_crew_1 rfl (lv_at hl 0 rfl) ?_
  refine lv_iload_n hx hb dX4_crew_2 rfl (lv_at hl 1 rfl) ?_
  refine rb_callV S wb EN0_ok (m_no_t l D cI cC cD ad th n st mn ar (nI c) (nI 0) (tells_f (no_f hc (by omega)))) (bw5 bw_520 bw_522 bw_23 bw_37 bw_523) (rb_recv wb 0 (by decide) rfl rfl) hdX4_no rfl ⟨rfl, rfl⟩ ⟨by decide, by decide⟩ hl.1 (Nat.le_of_ble_eq_true rfl) ⟨Nat.zero_le _, Nat.zero_le _⟩ (rest := [.ref (ad 0)]) (st1 := [.int (nI 0), .ref (ad 0)]) rfl rfl dX4_crew_3 (fun H locs wb => ?_)
  refine lv_if_ne (tgt := 18) hx hb dX4_crew_6 (by decide) (fun h6 => absurd (by decide) h6) (fun h6 => ?_)
  refine lv_iload_n hx hb dX4_crew_9 rfl (lv_at hl 2 rfl) ?_
  refine lv_if_lt (tgt := 18) hx hb dX4_crew_10 (by decide) (fun h10 => absurd h10 (by decide)) (fun h10 => ?_)
  refine lv_iload_n hx hb dX4_crew_13 rfl (lv_at hl 2 rfl) ?_
  refine lv_iconst (v := nI 3) hx hb dX4_crew_14 (by decide) ?_
  refine nb_icmp_le (tgt := 22) hx hb dX4_crew_15 (by decide) (by omega) (by omega) (fun h15 => ?_) (fun h15 => absurd h15 (by omega))
  refine lv_iconst (v := nI 0) hx hb dX4_crew_22 (by decide) ?_
  refine rb_put (E' := mE ad cI (nI 0) n st mn ar) S wb 0 (by decide) rfl rfl in4 tyX4 tyX4_ok nmX4 0 (by decide) bw_462 rfl rfl rfl (Nat.le_of_ble_eq_true rfl) (m12 rfl rfl rfl rfl rfl rfl rfl rfl rfl rfl rfl rfl) dX4_crew_23 (fun H locs wb => ?_)
  refine lv_aload_n hx hb dX4_crew_26 rfl (lv_at hl 0 rfl) ?_
  refine rb_get S wb 0 (by decide) rfl rfl in4 0 (by decide) bw_462 rfl dX4_crew_27 ?_
  refine lv_if_eq (tgt := 35) hx hb dX4_crew_30 (by decide) (fun h30 => ?_) (fun h30 => absurd (by decide) h30)
  refine lv_iload_n hx hb dX4_crew_35 rfl (lv_at hl 2 rfl) ?_
  refine lv_if_ne (tgt := 48) hx hb dX4_crew_36 (by decide) (fun h36 => absurd (by decide) h36) (fun h36 => ?_)
  refine lv_aload_n hx hb dX4_crew_39 rfl (lv_at hl 0 rfl) ?_
  refine rb_get S wb 0 (by decide) rfl rfl in4 8 (by decide) bw_470 rfl dX4_crew_40 ?_
  refine lv_iload_n hx hb dX4_crew_43 rfl (lv_at hl 1 rfl) ?_
  refine rb_ald (n := 6) (f := ar 6) (x := ar 6 c) S wb 6 (by decide) rfl 0 rfl c (by omega) (by decide) rfl dX4_crew_44 ?_
  refine lv_goto (tgt := 81) hx hb dX4_crew_45 (by decide) ?_
  exact rb_iret S hr hlk hQ rfl wb (m12 rfl rfl rfl rfl rfl rfl rfl rfl rfl rfl rfl rfl) dX4_crew_81

set_option maxHeartbeats 4000000 in
set_option maxRecDepth 100000 in
theorem m_crew1 (l : Launch) (D : va_G) (cI cC cD : ClassId) (ad : Nat → Nat) (th : Int32) (n : Nat) (st : Int32) (mn : Nat) (ar : Nat → Nat → Int32) (c : Nat) (hn : n ≤ 6) (hn2 : 2 ≤ n) (hc : c < n) : RM l yX4_crew cX4_crew 3 (some .int) ({ frames := 1, cells := 0, slots := 0, locals := 24 }) D (ty3 cI cC cD) EN0 [.ref (ad 0), .int (nI c), .int (nI 1)] ad 12 (mE ad cI th n st mn ar) (mE ad cI (nI 0) n st mn ar) (some (.int (ar 7 c))) := by
  refine RM.of (by decide) (Nat.le_of_ble_eq_true rfl) ?_
  intro p e s m below meth c0 A ls args Q0 S hr hlk hQ wb hl
  have hx := S.1
  have hb := S.2.1
  have hl : lv_has ls 3 [(0, .ref (ad 0)), (1, .int (nI c)), (2, .int (nI 1))] := hl
  refine lv_aload_n hx hb dX4_crew_0 rfl (lv_at hl 0 rfl) ?_
  refine lv_aload_n hx hb dX4_crew_1 rfl (lv_at hl 0 rfl) ?_
  refine lv_iload_n hx hb dX4_crew_2 rfl (lv_at hl 1 rfl) ?_
  refine rb_callV S wb EN0_ok (m_no_t l D cI cC cD ad th n st mn ar (nI c) (nI 0) (tells_f (no_f hc (by omega)))) (bw5 bw_520 bw_522 bw_23 bw_37 bw_523) (rb_recv wb 0 (by decide) rfl rfl) hdX4_no rfl ⟨rfl, rfl⟩ ⟨by decide, by decide⟩ hl.1 (Nat.le_of_ble_eq_true rfl) ⟨Nat.zero_le _, Nat.zero_le _⟩ (rest := [.ref (ad 0)]) (st1 := [.int (nI 0), .ref (ad 0)]) rfl rfl dX4_crew_3 (fun H locs wb => ?_)
  refine lv_if_ne (tgt := 18) hx hb dX4_crew_6 (by decide) (fun h6 => absurd (by decide) h6) (fun h6 => ?_)
  refine lv_iload_n hx hb dX4_crew_9 rfl (lv_at hl 2 rfl) ?_
  refine lv_if_lt (tgt := 18) hx hb dX4_crew_10 (by decide) (fun h10 => absurd h10 (by decide)) (fun h10 => ?_)
  refine lv_iload_n hx hb dX4_crew_13 rfl (lv_at hl 2 rfl) ?_
  refine lv_iconst (v := nI 3) hx hb dX4_crew_14 (by decide) ?_
  refine nb_icmp_le (tgt := 22) hx hb dX4_crew_15 (by decide) (by omega) (by omega) (fun h15 => ?_) (fun h15 => absurd h15 (by omega))
  refine lv_iconst (v := nI 0) hx hb dX4_crew_22 (by decide) ?_
  refine rb_put (E' := mE ad cI (nI 0) n st mn ar) S wb 0 (by decide) rfl rfl in4 tyX4 tyX4_ok nmX4 0 (by decide) bw_462 rfl rfl rfl (Nat.le_of_ble_eq_true rfl) (m12 rfl rfl rfl rfl rfl rfl rfl rfl rfl rfl rfl rfl) dX4_crew_23 (fun H locs wb => ?_)
  refine lv_aload_n hx hb dX4_crew_26 rfl (lv_at hl 0 rfl) ?_
  refine rb_get S wb 0 (by decide) rfl rfl in4 0 (by decide) bw_462 rfl dX4_crew_27 ?_
  refine lv_if_eq (tgt := 35) hx hb dX4_crew_30 (by decide) (fun h30 => ?_) (fun h30 => absurd (by decide) h30)
  refine lv_iload_n hx hb dX4_crew_35 rfl (lv_at hl 2 rfl) ?_
  refine lv_if_ne (tgt := 48) hx hb dX4_crew_36 (by decide) (fun h36 => ?_) (fun h36 => absurd h36 (by decide))
  refine lv_iload_n hx hb dX4_crew_48 rfl (lv_at hl 2 rfl) ?_
  refine lv_iconst (v := nI 1) hx hb dX4_crew_49 (by decide) ?_
  refine nb_icmp_ne (tgt := 62) hx hb dX4_crew_50 (by decide) (by omega) (by omega) (fun h50 => absurd h50 (by omega)) (fun h50 => ?_)
  refine lv_aload_n hx hb dX4_crew_53 rfl (lv_at hl 0 rfl) ?_
  refine rb_get S wb 0 (by decide) rfl rfl in4 9 (by decide) bw_471 rfl dX4_crew_54 ?_
  refine lv_iload_n hx hb dX4_crew_57 rfl (lv_at hl 1 rfl) ?_
  refine rb_ald (n := 6) (f := ar 7) (x := ar 7 c) S wb 7 (by decide) rfl 0 rfl c (by omega) (by decide) rfl dX4_crew_58 ?_
  refine lv_goto (tgt := 81) hx hb dX4_crew_59 (by decide) ?_
  exact rb_iret S hr hlk hQ rfl wb (m12 rfl rfl rfl rfl rfl rfl rfl rfl rfl rfl rfl rfl) dX4_crew_81

set_option maxHeartbeats 4000000 in
set_option maxRecDepth 100000 in
theorem m_crew2 (l : Launch) (D : va_G) (cI cC cD : ClassId) (ad : Nat → Nat) (th : Int32) (n : Nat) (st : Int32) (mn : Nat) (ar : Nat → Nat → Int32) (c : Nat) (hn : n ≤ 6) (hn2 : 2 ≤ n) (hc : c < n) : RM l yX4_crew cX4_crew 3 (some .int) ({ frames := 1, cells := 0, slots := 0, locals := 24 }) D (ty3 cI cC cD) EN0 [.ref (ad 0), .int (nI c), .int (nI 2)] ad 12 (mE ad cI th n st mn ar) (mE ad cI (nI 0) n st mn ar) (some (.int (ar 8 c))) := by
  refine RM.of (by decide) (Nat.le_of_ble_eq_true rfl) ?_
  intro p e s m below meth c0 A ls args Q0 S hr hlk hQ wb hl
  have hx := S.1
  have hb := S.2.1
  have hl : lv_has ls 3 [(0, .ref (ad 0)), (1, .int (nI c)), (2, .int (nI 2))] := hl
  refine lv_aload_n hx hb dX4_crew_0 rfl (lv_at hl 0 rfl) ?_
  refine lv_aload_n hx hb dX4_crew_1 rfl (lv_at hl 0 rfl) ?_
  refine lv_iload_n hx hb dX4_crew_2 rfl (lv_at hl 1 rfl) ?_
  refine rb_callV S wb EN0_ok (m_no_t l D cI cC cD ad th n st mn ar (nI c) (nI 0) (tells_f (no_f hc (by omega)))) (bw5 bw_520 bw_522 bw_23 bw_37 bw_523) (rb_recv wb 0 (by decide) rfl rfl) hdX4_no rfl ⟨rfl, rfl⟩ ⟨by decide, by decide⟩ hl.1 (Nat.le_of_ble_eq_true rfl) ⟨Nat.zero_le _, Nat.zero_le _⟩ (rest := [.ref (ad 0)]) (st1 := [.int (nI 0), .ref (ad 0)]) rfl rfl dX4_crew_3 (fun H locs wb => ?_)
  refine lv_if_ne (tgt := 18) hx hb dX4_crew_6 (by decide) (fun h6 => absurd (by decide) h6) (fun h6 => ?_)
  refine lv_iload_n hx hb dX4_crew_9 rfl (lv_at hl 2 rfl) ?_
  refine lv_if_lt (tgt := 18) hx hb dX4_crew_10 (by decide) (fun h10 => absurd h10 (by decide)) (fun h10 => ?_)
  refine lv_iload_n hx hb dX4_crew_13 rfl (lv_at hl 2 rfl) ?_
  refine lv_iconst (v := nI 3) hx hb dX4_crew_14 (by decide) ?_
  refine nb_icmp_le (tgt := 22) hx hb dX4_crew_15 (by decide) (by omega) (by omega) (fun h15 => ?_) (fun h15 => absurd h15 (by omega))
  refine lv_iconst (v := nI 0) hx hb dX4_crew_22 (by decide) ?_
  refine rb_put (E' := mE ad cI (nI 0) n st mn ar) S wb 0 (by decide) rfl rfl in4 tyX4 tyX4_ok nmX4 0 (by decide) bw_462 rfl rfl rfl (Nat.le_of_ble_eq_true rfl) (m12 rfl rfl rfl rfl rfl rfl rfl rfl rfl rfl rfl rfl) dX4_crew_23 (fun H locs wb => ?_)
  refine lv_aload_n hx hb dX4_crew_26 rfl (lv_at hl 0 rfl) ?_
  refine rb_get S wb 0 (by decide) rfl rfl in4 0 (by decide) bw_462 rfl dX4_crew_27 ?_
  refine lv_if_eq (tgt := 35) hx hb dX4_crew_30 (by decide) (fun h30 => ?_) (fun h30 => absurd (by decide) h30)
  refine lv_iload_n hx hb dX4_crew_35 rfl (lv_at hl 2 rfl) ?_
  refine lv_if_ne (tgt := 48) hx hb dX4_crew_36 (by decide) (fun h36 => ?_) (fun h36 => absurd h36 (by decide))
  refine lv_iload_n hx hb dX4_crew_48 rfl (lv_at hl 2 rfl) ?_
  refine lv_iconst (v := nI 1) hx hb dX4_crew_49 (by decide) ?_
  refine nb_icmp_ne (tgt := 62) hx hb dX4_crew_50 (by decide) (by omega) (by omega) (fun h50 => ?_) (fun h50 => absurd h50 (by omega))
  refine lv_iload_n hx hb dX4_crew_62 rfl (lv_at hl 2 rfl) ?_
  refine lv_iconst (v := nI 2) hx hb dX4_crew_63 (by decide) ?_
  refine nb_icmp_ne (tgt := 76) hx hb dX4_crew_64 (by decide) (by omega) (by omega) (fun h64 => absurd h64 (by omega)) (fun h64 => ?_)
  refine lv_aload_n hx hb dX4_crew_67 rfl (lv_at hl 0 rfl) ?_
  refine rb_get S wb 0 (by decide) rfl rfl in4 10 (by decide) bw_472 rfl dX4_crew_68 ?_
  refine lv_iload_n hx hb dX4_crew_71 rfl (lv_at hl 1 rfl) ?_
  refine rb_ald (n := 6) (f := ar 8) (x := ar 8 c) S wb 8 (by decide) rfl 0 rfl c (by omega) (by decide) rfl dX4_crew_72 ?_
  refine lv_goto (tgt := 81) hx hb dX4_crew_73 (by decide) ?_
  exact rb_iret S hr hlk hQ rfl wb (m12 rfl rfl rfl rfl rfl rfl rfl rfl rfl rfl rfl rfl) dX4_crew_81

set_option maxHeartbeats 4000000 in
set_option maxRecDepth 100000 in
theorem m_crew3 (l : Launch) (D : va_G) (cI cC cD : ClassId) (ad : Nat → Nat) (th : Int32) (n : Nat) (st : Int32) (mn : Nat) (ar : Nat → Nat → Int32) (c : Nat) (hn : n ≤ 6) (hn2 : 2 ≤ n) (hc : c < n) : RM l yX4_crew cX4_crew 3 (some .int) ({ frames := 1, cells := 0, slots := 0, locals := 24 }) D (ty3 cI cC cD) EN0 [.ref (ad 0), .int (nI c), .int (nI 3)] ad 12 (mE ad cI th n st mn ar) (mE ad cI (nI 0) n st mn ar) (some (.int (pf (fun j => ar 1 (6 * c + j) * nI (n + 1) - ar 3 j) (n - 1)))) := by
  refine RM.of (by decide) (Nat.le_of_ble_eq_true rfl) ?_
  intro p e s m below meth c0 A ls args Q0 S hr hlk hQ wb hl
  have hx := S.1
  have hb := S.2.1
  have hl : lv_has ls 3 [(0, .ref (ad 0)), (1, .int (nI c)), (2, .int (nI 3))] := hl
  refine lv_aload_n hx hb dX4_crew_0 rfl (lv_at hl 0 rfl) ?_
  refine lv_aload_n hx hb dX4_crew_1 rfl (lv_at hl 0 rfl) ?_
  refine lv_iload_n hx hb dX4_crew_2 rfl (lv_at hl 1 rfl) ?_
  refine rb_callV S wb EN0_ok (m_no_t l D cI cC cD ad th n st mn ar (nI c) (nI 0) (tells_f (no_f hc (by omega)))) (bw5 bw_520 bw_522 bw_23 bw_37 bw_523) (rb_recv wb 0 (by decide) rfl rfl) hdX4_no rfl ⟨rfl, rfl⟩ ⟨by decide, by decide⟩ hl.1 (Nat.le_of_ble_eq_true rfl) ⟨Nat.zero_le _, Nat.zero_le _⟩ (rest := [.ref (ad 0)]) (st1 := [.int (nI 0), .ref (ad 0)]) rfl rfl dX4_crew_3 (fun H locs wb => ?_)
  refine lv_if_ne (tgt := 18) hx hb dX4_crew_6 (by decide) (fun h6 => absurd (by decide) h6) (fun h6 => ?_)
  refine lv_iload_n hx hb dX4_crew_9 rfl (lv_at hl 2 rfl) ?_
  refine lv_if_lt (tgt := 18) hx hb dX4_crew_10 (by decide) (fun h10 => absurd h10 (by decide)) (fun h10 => ?_)
  refine lv_iload_n hx hb dX4_crew_13 rfl (lv_at hl 2 rfl) ?_
  refine lv_iconst (v := nI 3) hx hb dX4_crew_14 (by decide) ?_
  refine nb_icmp_le (tgt := 22) hx hb dX4_crew_15 (by decide) (by omega) (by omega) (fun h15 => ?_) (fun h15 => absurd h15 (by omega))
  refine lv_iconst (v := nI 0) hx hb dX4_crew_22 (by decide) ?_
  refine rb_put (E' := mE ad cI (nI 0) n st mn ar) S wb 0 (by decide) rfl rfl in4 tyX4 tyX4_ok nmX4 0 (by decide) bw_462 rfl rfl rfl (Nat.le_of_ble_eq_true rfl) (m12 rfl rfl rfl rfl rfl rfl rfl rfl rfl rfl rfl rfl) dX4_crew_23 (fun H locs wb => ?_)
  refine lv_aload_n hx hb dX4_crew_26 rfl (lv_at hl 0 rfl) ?_
  refine rb_get S wb 0 (by decide) rfl rfl in4 0 (by decide) bw_462 rfl dX4_crew_27 ?_
  refine lv_if_eq (tgt := 35) hx hb dX4_crew_30 (by decide) (fun h30 => ?_) (fun h30 => absurd (by decide) h30)
  refine lv_iload_n hx hb dX4_crew_35 rfl (lv_at hl 2 rfl) ?_
  refine lv_if_ne (tgt := 48) hx hb dX4_crew_36 (by decide) (fun h36 => ?_) (fun h36 => absurd h36 (by decide))
  refine lv_iload_n hx hb dX4_crew_48 rfl (lv_at hl 2 rfl) ?_
  refine lv_iconst (v := nI 1) hx hb dX4_crew_49 (by decide) ?_
  refine nb_icmp_ne (tgt := 62) hx hb dX4_crew_50 (by decide) (by omega) (by omega) (fun h50 => ?_) (fun h50 => absurd h50 (by omega))
  refine lv_iload_n hx hb dX4_crew_62 rfl (lv_at hl 2 rfl) ?_
  refine lv_iconst (v := nI 2) hx hb dX4_crew_63 (by decide) ?_
  refine nb_icmp_ne (tgt := 76) hx hb dX4_crew_64 (by decide) (by omega) (by omega) (fun h64 => ?_) (fun h64 => absurd h64 (by omega))
  refine lv_aload_n hx hb dX4_crew_76 rfl (lv_at hl 0 rfl) ?_
  refine lv_iload_n hx hb dX4_crew_77 rfl (lv_at hl 1 rfl) ?_
  refine rb_callV S wb EN0_ok (m_profitOf l D cI cC cD ad (nI 0) n st mn ar c (by omega) (by omega) (by omega)) (bw5 bw_580 bw_582 bw_30 bw_37 bw_583) (rb_recv wb 0 (by decide) rfl rfl) hdX4_profitOf rfl ⟨rfl, rfl⟩ ⟨by decide, by decide⟩ hl.1 (Nat.le_of_ble_eq_true rfl) ⟨Nat.zero_le _, Nat.zero_le _⟩ (rest := []) (st1 := [.int (pf (fun j => ar 1 (6 * c + j) * nI (n + 1) - ar 3 j) (n - 1))]) rfl rfl dX4_crew_78 (fun H locs wb => ?_)
  exact rb_iret S hr hlk hQ rfl wb (m12 rfl rfl rfl rfl rfl rfl rfl rfl rfl rfl rfl rfl) dX4_crew_81

set_option maxHeartbeats 4000000 in
set_option maxRecDepth 100000 in
theorem m_settled (l : Launch) (D : va_G) (cI cC cD : ClassId) (ad : Nat → Nat) (th : Int32) (n : Nat) (st : Int32) (mn : Nat) (ar : Nat → Nat → Int32) (hn : n ≤ 6) (hT : HT ar n) (r : Int32) (hr0 : tells r (stl ar n)) : RM l yX4_settled cX4_settled 1 (some .boolean) ({ frames := 1, cells := 0, slots := 0, locals := 23 }) D (ty3 cI cC cD) EN0 [.ref (ad 0)] ad 12 (mE ad cI th n st mn ar) (mE ad cI (nI 0) n st mn ar) (some (.int r)) := by
  refine RM.of (by decide) (Nat.le_of_ble_eq_true rfl) ?_
  intro p e s m below meth c0 A ls args Q0 S hr hlk hQ wb hl
  have hx := S.1
  have hb := S.2.1
  have hl : lv_has ls 1 [(0, .ref (ad 0))] := hl
  refine lv_aload_n hx hb dX4_settled_0 rfl (lv_at hl 0 rfl) ?_
  refine lv_iconst (v := nI 0) hx hb dX4_settled_1 (by decide) ?_
  refine rb_put (E' := mE ad cI (nI 0) n st mn ar) S wb 0 (by decide) rfl rfl in4 tyX4 tyX4_ok nmX4 0 (by decide) bw_462 rfl rfl rfl (Nat.le_of_ble_eq_true rfl) (m12 rfl rfl rfl rfl rfl rfl rfl rfl rfl rfl rfl rfl) dX4_settled_2 (fun H locs wb => ?_)
  refine lv_aload_n hx hb dX4_settled_5 rfl (lv_at hl 0 rfl) ?_
  refine rb_callV S wb EN0_ok (m_isSettled l D cI cC cD ad (nI 0) n st mn ar hn hT r hr0) (bw5 bw_516 bw_518 bw_22 bw_37 bw_519) (rb_recv wb 0 (by decide) rfl rfl) hdX4_isSettled rfl ⟨rfl, rfl⟩ ⟨by decide, by decide⟩ hl.1 (Nat.le_of_ble_eq_true rfl) ⟨Nat.zero_le _, Nat.zero_le _⟩ (rest := []) (st1 := [.int r]) rfl rfl dX4_settled_6 (fun H locs wb => ?_)
  exact rb_zret S hr hlk hQ rfl (tells_b hr0) wb (m12 rfl rfl rfl rfl rfl rfl rfl rfl rfl rfl rfl rfl) dX4_settled_9
