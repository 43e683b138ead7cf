/-! the model: twin, letters that come, worth -/
set_option maxHeartbeats 4000000 in
set_option maxRecDepth 100000 in
theorem m_twin_x1 (l : Launch) (D : va_G) (cI cC cD : ClassId) (ad : Nat → Nat) (th : Int32) (n : Nat) (st : Int32) (mn : Nat) (ar : Nat → Nat → Int32) (x : Int32) (hx0 : x < 0 ∨ nI mn ≤ x) : RM l yX4_twin cX4_twin 3 (some .int) ({ frames := 1, cells := 0, slots := 0, locals := 21 }) D (ty3 cI cC cD) EN0 [.ref (ad 0), .int x] ad 12 (mE ad cI th n st mn ar) (mE ad cI (nI 1) n st mn ar) (some (.int (nI 0))) := by
  refine RM.of (by decide) (Nat.le_of_ble_eq_true rfl) ?_
  intro p e s m below meth c0 A ls args Q0 S hr hlk hQ wb hl
  have hx := S.1
  have hb := S.2.1
  have hl : lv_has ls 3 [(0, .ref (ad 0)), (1, .int x)] := hl
  refine lv_aload_n hx hb dX4_twin_0 rfl (lv_at hl 0 rfl) ?_
  refine lv_aload_n hx hb dX4_twin_1 rfl (lv_at hl 0 rfl) ?_
  refine lv_iload_n hx hb dX4_twin_2 rfl (lv_at hl 1 rfl) ?_
  refine rb_callV S wb EN0_ok (m_noLetter_t l D cI cC cD ad th n st mn ar x (nI 1) (tells_t hx0)) (bw5 bw_544 bw_546 bw_26 bw_37 bw_547) (rb_recv wb 0 (by decide) rfl rfl) hdX4_noLetter rfl ⟨rfl, rfl⟩ ⟨by decide, by decide⟩ hl.1 (Nat.le_of_ble_eq_true rfl) ⟨Nat.zero_le _, Nat.zero_le _⟩ (rest := [.ref (ad 0)]) (st1 := [.int (nI 1), .ref (ad 0)]) rfl rfl dX4_twin_3 (fun H locs wb => ?_)
  refine lv_if_eq (tgt := 13) hx hb dX4_twin_6 (by decide) (fun h6 => absurd h6 (by decide)) (fun h6 => ?_)
  refine lv_iconst (v := nI 1) hx hb dX4_twin_9 (by decide) ?_
  refine lv_goto (tgt := 27) hx hb dX4_twin_10 (by decide) ?_
  refine rb_put (E' := mE ad cI (nI 1) n st mn ar) S wb 0 (by decide) rfl rfl in4 tyX4 tyX4_ok nmX4 0 (by decide) bw_462 rfl rfl rfl (Nat.le_of_ble_eq_true rfl) (m12 rfl rfl rfl rfl rfl rfl rfl rfl rfl rfl rfl rfl) dX4_twin_27 (fun H locs wb => ?_)
  refine lv_aload_n hx hb dX4_twin_30 rfl (lv_at hl 0 rfl) ?_
  refine rb_get S wb 0 (by decide) rfl rfl in4 0 (by decide) bw_462 rfl dX4_twin_31 ?_
  refine lv_if_eq (tgt := 39) hx hb dX4_twin_34 (by decide) (fun h34 => absurd h34 (by decide)) (fun h34 => ?_)
  refine lv_iconst (v := nI 0) hx hb dX4_twin_37 (by decide) ?_
  exact rb_iret S hr hlk hQ rfl wb (m12 rfl rfl rfl rfl rfl rfl rfl rfl rfl rfl rfl rfl) dX4_twin_38

set_option maxHeartbeats 4000000 in
set_option maxRecDepth 100000 in
theorem m_twin_x2 (l : Launch) (D : va_G) (cI cC cD : ClassId) (ad : Nat → Nat) (th : Int32) (n : Nat) (st : Int32) (mn : Nat) (ar : Nat → Nat → Int32) (i : Nat) (hmn : mn < 2 ^ 31) (hi : i < mn) (h2 : 39 < mn) : RM l yX4_twin cX4_twin 3 (some .int) ({ frames := 1, cells := 0, slots := 0, locals := 21 }) D (ty3 cI cC cD) EN0 [.ref (ad 0), .int (nI i)] ad 12 (mE ad cI th n st mn ar) (mE ad cI (nI 2) n st mn ar) (some (.int (nI 0))) := by
  refine RM.of (by decide) (Nat.le_of_ble_eq_true rfl) ?_
  intro p e s m below meth c0 A ls args Q0 S hr hlk hQ wb hl
  have hx := S.1
  have hb := S.2.1
  have hl : lv_has ls 3 [(0, .ref (ad 0)), (1, .int (nI i))] := hl
  refine lv_aload_n hx hb dX4_twin_0 rfl (lv_at hl 0 rfl) ?_
  refine lv_aload_n hx hb dX4_twin_1 rfl (lv_at hl 0 rfl) ?_
  refine lv_iload_n hx hb dX4_twin_2 rfl (lv_at hl 1 rfl) ?_
  refine rb_callV S wb EN0_ok (m_noLetter_t l D cI cC cD ad th n st mn ar (nI i) (nI 0) (tells_f (no_f hi (by omega)))) (bw5 bw_544 bw_546 bw_26 bw_37 bw_547) (rb_recv wb 0 (by decide) rfl rfl) hdX4_noLetter rfl ⟨rfl, rfl⟩ ⟨by decide, by decide⟩ hl.1 (Nat.le_of_ble_eq_true rfl) ⟨Nat.zero_le _, Nat.zero_le _⟩ (rest := [.ref (ad 0)]) (st1 := [.int (nI 0), .ref (ad 0)]) rfl rfl dX4_twin_3 (fun H locs wb => ?_)
  refine lv_if_eq (tgt := 13) hx hb dX4_twin_6 (by decide) (fun h6 => ?_) (fun h6 => absurd (by decide) h6)
  refine lv_aload_n hx hb dX4_twin_13 rfl (lv_at hl 0 rfl) ?_
  refine rb_get S wb 0 (by decide) rfl rfl in4 12 (by decide) bw_474 rfl dX4_twin_14 ?_
  refine lv_bipush (v := nI 39) hx hb dX4_twin_17 (by decide) ?_
  refine nb_icmp_le (tgt := 26) hx hb dX4_twin_19 (by decide) (by omega) (by omega) (fun h19 => absurd h19 (by omega)) (fun h19 => ?_)
  refine lv_iconst (v := nI 2) hx hb dX4_twin_22 (by decide) ?_
  refine lv_goto (tgt := 27) hx hb dX4_twin_23 (by decide) ?_
  refine rb_put (E' := mE ad cI (nI 2) n st mn ar) S wb 0 (by decide) rfl rfl in4 tyX4 tyX4_ok nmX4 0 (by decide) bw_462 rfl rfl rfl (Nat.le_of_ble_eq_true rfl) (m12 rfl rfl rfl rfl rfl rfl rfl rfl rfl rfl rfl rfl) dX4_twin_27 (fun H locs wb => ?_)
  refine lv_aload_n hx hb dX4_twin_30 rfl (lv_at hl 0 rfl) ?_
  refine rb_get S wb 0 (by decide) rfl rfl in4 0 (by decide) bw_462 rfl dX4_twin_31 ?_
  refine lv_if_eq (tgt := 39) hx hb dX4_twin_34 (by decide) (fun h34 => absurd h34 (by decide)) (fun h34 => ?_)
  refine lv_iconst (v := nI 0) hx hb dX4_twin_37 (by decide) ?_
  exact rb_iret S hr hlk hQ rfl wb (m12 rfl rfl rfl rfl rfl rfl rfl rfl rfl rfl rfl rfl) dX4_twin_38

set_option maxHeartbeats 4000000 in
set_option maxRecDepth 100000 in
theorem m_twin (l : Launch) (D : va_G) (cI cC cD : ClassId) (ad : Nat → Nat) (th : Int32) (n : Nat) (st : Int32) (mn : Nat) (ar : Nat → Nat → Int32) (i : Nat) (hi : i < mn) (h2 : mn ≤ 39) : RM l yX4_twin cX4_twin 3 (some .int) ({ frames := 1, cells := 0, slots := 0, locals := 21 }) D (ty3 cI cC cD) EN0 [.ref (ad 0), .int (nI i)] ad 12 (mE ad cI th n st mn ar) (mE ad cI (nI 0) n st (mn + 1) (va_up ar 10 (put5 (ar 10) (5 * mn) (ar 10 (5 * i)) (ar 10 (5 * i + 1)) (ar 10 (5 * i + 2)) (ar 10 (5 * i + 3)) (ar 10 (5 * i + 4))))) (some (.int (nI (mn + 1)))) := by
  refine RM.of (by decide) (Nat.le_of_ble_eq_true rfl) ?_
  intro p e s m below meth c0 A ls args Q0 S hr hlk hQ wb hl
  have hx := S.1
  have hb := S.2.1
  have hl : lv_has ls 3 [(0, .ref (ad 0)), (1, .int (nI i))] := hl
  refine lv_aload_n hx hb dX4_twin_0 rfl (lv_at hl 0 rfl) ?_
  refine lv_aload_n hx hb dX4_twin_1 rfl (lv_at hl 0 rfl) ?_
  refine lv_iload_n hx hb dX4_twin_2 rfl (lv_at hl 1 rfl) ?_
  refine rb_callV S wb EN0_ok (m_noLetter_t l D cI cC cD ad th n st mn ar (nI i) (nI 0) (tells_f (no_f hi (by omega)))) (bw5 bw_544 bw_546 bw_26 bw_37 bw_547) (rb_recv wb 0 (by decide) rfl rfl) hdX4_noLetter rfl ⟨rfl, rfl⟩ ⟨by decide, by decide⟩ hl.1 (Nat.le_of_ble_eq_true rfl) ⟨Nat.zero_le _, Nat.zero_le _⟩ (rest := [.ref (ad 0)]) (st1 := [.int (nI 0), .ref (ad 0)]) rfl rfl dX4_twin_3 (fun H locs wb => ?_)
  refine lv_if_eq (tgt := 13) hx hb dX4_twin_6 (by decide) (fun h6 => ?_) (fun h6 => absurd (by decide) h6)
  refine lv_aload_n hx hb dX4_twin_13 rfl (lv_at hl 0 rfl) ?_
  refine rb_get S wb 0 (by decide) rfl rfl in4 12 (by decide) bw_474 rfl dX4_twin_14 ?_
  refine lv_bipush (v := nI 39) hx hb dX4_twin_17 (by decide) ?_
  refine nb_icmp_le (tgt := 26) hx hb dX4_twin_19 (by decide) (by omega) (by omega) (fun h19 => ?_) (fun h19 => absurd h19 (by omega))
  refine lv_iconst (v := nI 0) hx hb dX4_twin_26 (by decide) ?_
  refine rb_put (E' := mE ad cI (nI 0) n st mn ar) S wb 0 (by decide) rfl rfl in4 tyX4 tyX4_ok nmX4 0 (by decide) bw_462 rfl rfl rfl (Nat.le_of_ble_eq_true rfl) (m12 rfl rfl rfl rfl rfl rfl rfl rfl rfl rfl rfl rfl) dX4_twin_27 (fun H locs wb => ?_)
  refine lv_aload_n hx hb dX4_twin_30 rfl (lv_at hl 0 rfl) ?_
  refine rb_get S wb 0 (by decide) rfl rfl in4 0 (by decide) bw_462 rfl dX4_twin_31 ?_
  refine lv_if_eq (tgt := 39) hx hb dX4_twin_34 (by decide) (fun h34 => ?_) (fun h34 => absurd (by decide) h34)
  refine lv_iconst (v := nI 0) hx hb dX4_twin_39 (by decide) ?_
  refine lv_istore_n (lv' := [(2, .int (nI 0)), (0, .ref (ad 0)), (1, .int (nI i))]) hx hb dX4_twin_40 rfl hl (by decide) rfl (fun ls hl => ?_)
  refine lv_iload_n hx hb dX4_twin_41 rfl (lv_at hl 0 rfl) ?_
  refine lv_iconst (v := nI 5) hx hb dX4_twin_42 (by decide) ?_
  refine nb_icmp_ge (tgt := 75) hx hb dX4_twin_43 (by decide) (by omega) (by omega) (fun h43 => absurd h43 (by omega)) (fun h43 => ?_)
  refine lv_aload_n hx hb dX4_twin_46 rfl (lv_at hl 1 rfl) ?_
  refine rb_get S wb 0 (by decide) rfl rfl in4 13 (by decide) bw_475 rfl dX4_twin_47 ?_
  refine lv_iconst (v := nI 5) hx hb dX4_twin_50 (by decide) ?_
  refine lv_aload_n hx hb dX4_twin_51 rfl (lv_at hl 1 rfl) ?_
  refine rb_get S wb 0 (by decide) rfl rfl in4 12 (by decide) bw_474 rfl dX4_twin_52 ?_
  refine lv_imul hx hb dX4_twin_55 ?_
  refine nb_ren (y := nI (5 * mn)) (pk_mul _ _) ?_
  refine lv_iload_n hx hb dX4_twin_56 rfl (lv_at hl 0 rfl) ?_
  refine lv_iadd hx hb dX4_twin_57 ?_
  refine nb_ren (y := nI (5 * mn + 0)) (nI_add _ _) ?_
  refine lv_aload_n hx hb dX4_twin_58 rfl (lv_at hl 1 rfl) ?_
  refine rb_get S wb 0 (by decide) rfl rfl in4 13 (by decide) bw_475 rfl dX4_twin_59 ?_
  refine lv_iconst (v := nI 5) hx hb dX4_twin_62 (by decide) ?_
  refine lv_iload_n hx hb dX4_twin_63 rfl (lv_at hl 2 rfl) ?_
  refine lv_imul hx hb dX4_twin_64 ?_
  refine nb_ren (y := nI (5 * i)) (pk_mul _ _) ?_
  refine lv_iload_n hx hb dX4_twin_65 rfl (lv_at hl 0 rfl) ?_
  refine lv_iadd hx hb dX4_twin_66 ?_
  refine nb_ren (y := nI (5 * i + 0)) (nI_add _ _) ?_
  refine rb_ald (n := 600) (f := ar 10) (x := ar 10 (5 * i + 0)) S wb 10 (by decide) rfl 0 rfl (5 * i + 0) (by omega) (by decide) rfl dX4_twin_67 ?_
  refine rb_ast (E' := mE ad cI (nI 0) n st mn (va_up ar 10 (upd (ar 10) (5 * mn + 0) (ar 10 (5 * i + 0))))) (n := 600) (f := ar 10) S wb 10 (by decide) rfl 0 rfl (5 * mn + 0) (by omega) (by decide) (m12 rfl rfl rfl rfl rfl rfl rfl rfl rfl rfl rfl rfl) dX4_twin_68 (fun H locs wb => ?_)
  refine lv_iinc (v := nI 1) (lv' := [(2, .int (nI 1)), (0, .ref (ad 0)), (1, .int (nI i))]) hx hb dX4_twin_69 hl (k := 0) rfl (nI_s1 _) (by decide) rfl (fun ls hl => ?_)
  refine lv_goto (tgt := 41) hx hb dX4_twin_72 (by decide) ?_
  refine lv_iload_n hx hb dX4_twin_41 rfl (lv_at hl 0 rfl) ?_
  refine lv_iconst (v := nI 5) hx hb dX4_twin_42 (by decide) ?_
  refine nb_icmp_ge (tgt := 75) hx hb dX4_twin_43 (by decide) (by omega) (by omega) (fun h43 => absurd h43 (by omega)) (fun h43 => ?_)
  refine lv_aload_n hx hb dX4_twin_46 rfl (lv_at hl 1 rfl) ?_
  refine rb_get S wb 0 (by decide) rfl rfl in4 13 (by decide) bw_475 rfl dX4_twin_47 ?_
  refine lv_iconst (v := nI 5) hx hb dX4_twin_50 (by decide) ?_
  refine lv_aload_n hx hb dX4_twin_51 rfl (lv_at hl 1 rfl) ?_
  refine rb_get S wb 0 (by decide) rfl rfl in4 12 (by decide) bw_474 rfl dX4_twin_52 ?_
  refine lv_imul hx hb dX4_twin_55 ?_
  refine nb_ren (y := nI (5 * mn)) (pk_mul _ _) ?_
  refine lv_iload_n hx hb dX4_twin_56 rfl (lv_at hl 0 rfl) ?_
  refine lv_iadd hx hb dX4_twin_57 ?_
  refine nb_ren (y := nI (5 * mn + 1)) (nI_add _ _) ?_
  refine lv_aload_n hx hb dX4_twin_58 rfl (lv_at hl 1 rfl) ?_
  refine rb_get S wb 0 (by decide) rfl rfl in4 13 (by decide) bw_475 rfl dX4_twin_59 ?_
  refine lv_iconst (v := nI 5) hx hb dX4_twin_62 (by decide) ?_
  refine lv_iload_n hx hb dX4_twin_63 rfl (lv_at hl 2 rfl) ?_
  refine lv_imul hx hb dX4_twin_64 ?_
  refine nb_ren (y := nI (5 * i)) (pk_mul _ _) ?_
  refine lv_iload_n hx hb dX4_twin_65 rfl (lv_at hl 0 rfl) ?_
  refine lv_iadd hx hb dX4_twin_66 ?_
  refine nb_ren (y := nI (5 * i + 1)) (nI_add _ _) ?_
  refine rb_ald (n := 600) (f := upd (ar 10) (5 * mn + 0) (ar 10 (5 * i + 0))) (x := ar 10 (5 * i + 1)) S wb 10 (by decide) rfl 0 rfl (5 * i + 1) (by omega) (by decide) (by simp only [upd]; rw [if_neg (by omega)]) dX4_twin_67 ?_
  refine rb_ast (E' := mE ad cI (nI 0) n st mn (va_up ar 10 (upd (upd (ar 10) (5 * mn + 0) (ar 10 (5 * i + 0))) (5 * mn + 1) (ar 10 (5 * i + 1))))) (n := 600) (f := upd (ar 10) (5 * mn + 0) (ar 10 (5 * i + 0))) S wb 10 (by decide) rfl 0 rfl (5 * mn + 1) (by omega) (by decide) (m12 rfl rfl rfl rfl rfl rfl rfl rfl rfl rfl rfl rfl) dX4_twin_68 (fun H locs wb => ?_)
  refine lv_iinc (v := nI 2) (lv' := [(2, .int (nI 2)), (0, .ref (ad 0)), (1, .int (nI i))]) hx hb dX4_twin_69 hl (k := 0) rfl (nI_s1 _) (by decide) rfl (fun ls hl => ?_)
  refine lv_goto (tgt := 41) hx hb dX4_twin_72 (by decide) ?_
  refine lv_iload_n hx hb dX4_twin_41 rfl (lv_at hl 0 rfl) ?_
  refine lv_iconst (v := nI 5) hx hb dX4_twin_42 (by decide) ?_
  refine nb_icmp_ge (tgt := 75) hx hb dX4_twin_43 (by decide) (by omega) (by omega) (fun h43 => absurd h43 (by omega)) (fun h43 => ?_)
  refine lv_aload_n hx hb dX4_twin_46 rfl (lv_at hl 1 rfl) ?_
  refine rb_get S wb 0 (by decide) rfl rfl in4 13 (by decide) bw_475 rfl dX4_twin_47 ?_
  refine lv_iconst (v := nI 5) hx hb dX4_twin_50 (by decide) ?_
  refine lv_aload_n hx hb dX4_twin_51 rfl (lv_at hl 1 rfl) ?_
  refine rb_get S wb 0 (by decide) rfl rfl in4 12 (by decide) bw_474 rfl dX4_twin_52 ?_
  refine lv_imul hx hb dX4_twin_55 ?_
  refine nb_ren (y := nI (5 * mn)) (pk_mul _ _) ?_
  refine lv_iload_n hx hb dX4_twin_56 rfl (lv_at hl 0 rfl) ?_
  refine lv_iadd hx hb dX4_twin_57 ?_
  refine nb_ren (y := nI (5 * mn + 2)) (nI_add _ _) ?_
  refine lv_aload_n hx hb dX4_twin_58 rfl (lv_at hl 1 rfl) ?_
  refine rb_get S wb 0 (by decide) rfl rfl in4 13 (by decide) bw_475 rfl dX4_twin_59 ?_
  refine lv_iconst (v := nI 5) hx hb dX4_twin_62 (by decide) ?_
  refine lv_iload_n hx hb dX4_twin_63 rfl (lv_at hl 2 rfl) ?_
  refine lv_imul hx hb dX4_twin_64 ?_
  refine nb_ren (y := nI (5 * i)) (pk_mul _ _) ?_
  refine lv_iload_n hx hb dX4_twin_65 rfl (lv_at hl 0 rfl) ?_
  refine lv_iadd hx hb dX4_twin_66 ?_
  refine nb_ren (y := nI (5 * i + 2)) (nI_add _ _) ?_
  refine rb_ald (n := 600) (f := upd (upd (ar 10) (5 * mn + 0) (ar 10 (5 * i + 0))) (5 * mn + 1) (ar 10 (5 * i + 1))) (x := ar 10 (5 * i + 2)) S wb 10 (by decide) rfl 0 rfl (5 * i + 2) (by omega) (by decide) (by simp only [upd]; rw [if_neg (by omega)]; rw [if_neg (by omega)]) dX4_twin_67 ?_
  refine rb_ast (E' := mE ad cI (nI 0) n st mn (va_up ar 10 (upd (upd (upd (ar 10) (5 * mn + 0) (ar 10 (5 * i + 0))) (5 * mn + 1) (ar 10 (5 * i + 1))) (5 * mn + 2) (ar 10 (5 * i + 2))))) (n := 600) (f := upd (upd (ar 10) (5 * mn + 0) (ar 10 (5 * i + 0))) (5 * mn + 1) (ar 10 (5 * i + 1))) S wb 10 (by decide) rfl 0 rfl (5 * mn + 2) (by omega) (by decide) (m12 rfl rfl rfl rfl rfl rfl rfl rfl rfl rfl rfl rfl) dX4_twin_68 (fun H locs wb => ?_)
  refine lv_iinc (v := nI 3) (lv' := [(2, .int (nI 3)), (0, .ref (ad 0)), (1, .int (nI i))]) hx hb dX4_twin_69 hl (k := 0) rfl (nI_s1 _) (by decide) rfl (fun ls hl => ?_)
  refine lv_goto (tgt := 41) hx hb dX4_twin_72 (by decide) ?_
  refine lv_iload_n hx hb dX4_twin_41 rfl (lv_at hl 0 rfl) ?_
  refine lv_iconst (v := nI 5) hx hb dX4_twin_42 (by decide) ?_
  refine nb_icmp_ge (tgt := 75) hx hb dX4_twin_43 (by decide) (by omega) (by omega) (fun h43 => absurd h43 (by omega)) (fun h43 => ?_)
  refine lv_aload_n hx hb dX4_twin_46 rfl (lv_at hl 1 rfl) ?_
  refine rb_get S wb 0 (by decide) rfl rfl in4 13 (by decide) bw_475 rfl dX4_twin_47 ?_
  refine lv_iconst (v := nI 5) hx hb dX4_twin_50 (by decide) ?_
  refine lv_aload_n hx hb dX4_twin_51 rfl (lv_at hl 1 rfl) ?_
  refine rb_get S wb 0 (by decide) rfl rfl in4 12 (by decide) bw_474 rfl dX4_twin_52 ?_
  refine lv_imul hx hb dX4_twin_55 ?_
  refine nb_ren (y := nI (5 * mn)) (pk_mul _ _) ?_
  refine lv_iload_n hx hb dX4_twin_56 rfl (lv_at hl 0 rfl) ?_
  refine lv_iadd hx hb dX4_twin_57 ?_
  refine nb_ren (y := nI (5 * mn + 3)) (nI_add _ _) ?_
  refine lv_aload_n hx hb dX4_twin_58 rfl (lv_at hl 1 rfl) ?_
  refine rb_get S wb 0 (by decide) rfl rfl in4 13 (by decide) bw_475 rfl dX4_twin_59 ?_
  refine lv_iconst (v := nI 5) hx hb dX4_twin_62 (by decide) ?_
  refine lv_iload_n hx hb dX4_twin_63 rfl (lv_at hl 2 rfl) ?_
  refine lv_imul hx hb dX4_twin_64 ?_
  refine nb_ren (y := nI (5 * i)) (pk_mul _ _) ?_
  refine lv_iload_n hx hb dX4_twin_65 rfl (lv_at hl 0 rfl) ?_
  refine lv_iadd hx hb dX4_twin_66 ?_
  refine nb_ren (y := nI (5 * i + 3)) (nI_add _ _) ?_
  refine rb_ald (n := 600) (f := upd (upd (upd (ar 10) (5 * mn + 0) (ar 10 (5 * i + 0))) (5 * mn + 1) (ar 10 (5 * i + 1))) (5 * mn + 2) (ar 10 (5 * i + 2))) (x := ar 10 (5 * i + 3)) S wb 10 (by decide) rfl 0 rfl (5 * i + 3) (by omega) (by decide) (by simp only [upd]; rw [if_neg (by omega)]; rw [if_neg (by omega)]; rw [if_neg (by omega)]) dX4_twin_67 ?_
  refine rb_ast (E' := mE ad cI (nI 0) n st mn (va_up ar 10 (upd (upd (upd (upd (ar 10) (5 * mn + 0) (ar 10 (5 * i + 0))) (5 * mn + 1) (ar 10 (5 * i + 1))) (5 * mn + 2) (ar 10 (5 * i + 2))) (5 * mn + 3) (ar 10 (5 * i + 3))))) (n := 600) (f := upd (upd (upd (ar 10) (5 * mn + 0) (ar 10 (5 * i + 0))) (5 * mn + 1) (ar 10 (5 * i + 1))) (5 * mn + 2) (ar 10 (5 * i + 2))) S wb 10 (by decide) rfl 0 rfl (5 * mn + 3) (by omega) (by decide) (m12 rfl rfl rfl rfl rfl rfl rfl rfl rfl rfl rfl rfl) dX4_twin_68 (fun H locs wb => ?_)
  refine lv_iinc (v := nI 4) (lv' := [(2, .int (nI 4)), (0, .ref (ad 0)), (1, .int (nI i))]) hx hb dX4_twin_69 hl (k := 0) rfl (nI_s1 _) (by decide) rfl (fun ls hl => ?_)
  refine lv_goto (tgt := 41) hx hb dX4_twin_72 (by decide) ?_
  refine lv_iload_n hx hb dX4_twin_41 rfl (lv_at hl 0 rfl) ?_
  refine lv_iconst (v := nI 5) hx hb dX4_twin_42 (by decide) ?_
  refine nb_icmp_ge (tgt := 75) hx hb dX4_twin_43 (by decide) (by omega) (by omega) (fun h43 => absurd h43 (by omega)) (fun h43 => ?_)
  refine lv_aload_n hx hb dX4_twin_46 rfl (lv_at hl 1 rfl) ?_
  refine rb_get S wb 0 (by decide) rfl rfl in4 13 (by decide) bw_475 rfl dX4_twin_47 ?_
  refine lv_iconst (v := nI 5) hx hb dX4_twin_50 (by decide) ?_
  refine lv_aload_n hx hb dX4_twin_51 rfl (lv_at hl 1 rfl) ?_
  refine rb_get S wb 0 (by decide) rfl rfl in4 12 (by decide) bw_474 rfl dX4_twin_52 ?_
  refine lv_imul hx hb dX4_twin_55 ?_
  refine nb_ren (y := nI (5 * mn)) (pk_mul _ _) ?_
  refine lv_iload_n hx hb dX4_twin_56 rfl (lv_at hl 0 rfl) ?_
  refine lv_iadd hx hb dX4_twin_57 ?_
  refine nb_ren (y := nI (5 * mn + 4)) (nI_add _ _) ?_
  refine lv_aload_n hx hb dX4_twin_58 rfl (lv_at hl 1 rfl) ?_
  refine rb_get S wb 0 (by decide) rfl rfl in4 13 (by decide) bw_475 rfl dX4_twin_59 ?_
  refine lv_iconst (v := nI 5) hx hb dX4_twin_62 (by decide) ?_
  refine lv_iload_n hx hb dX4_twin_63 rfl (lv_at hl 2 rfl) ?_
  refine lv_imul hx hb dX4_twin_64 ?_
  refine nb_ren (y := nI (5 * i)) (pk_mul _ _) ?_
  refine lv_iload_n hx hb dX4_twin_65 rfl (lv_at hl 0 rfl) ?_
  refine lv_iadd hx hb dX4_twin_66 ?_
  refine nb_ren (y := nI (5 * i + 4)) (nI_add _ _) ?_
  refine rb_ald (n := 600) (f := upd (upd (upd (upd (ar 10) (5 * mn + 0) (ar 10 (5 * i + 0))) (5 * mn + 1) (ar 10 (5 * i + 1))) (5 * mn + 2) (ar 10 (5 * i + 2))) (5 * mn + 3) (ar 10 (5 * i + 3))) (x := ar 10 (5 * i + 4)) S wb 10 (by decide) rfl 0 rfl (5 * i + 4) (by omega) (by decide) (by simp only [upd]; rw [if_neg (by omega)]; rw [if_neg (by omega)]; rw [if_neg (by omega)]; rw [if_neg (by omega)]) dX4_twin_67 ?_
  refine rb_ast (E' := mE ad cI (nI 0) n st mn (va_up ar 10 (upd (upd (upd (upd (upd (ar 10) (5 * mn + 0) (ar 10 (5 * i + 0))) (5 * mn + 1) (ar 10 (5 * i + 1))) (5 * mn + 2) (ar 10 (5 * i + 2))) (5 * mn + 3) (ar 10 (5 * i + 3))) (5 * mn + 4) (ar 10 (5 * i + 4))))) (n := 600) (f := upd (upd (upd (upd (ar 10) (5 * mn + 0) (ar 10 (5 * i + 0))) (5 * mn + 1) (ar 10 (5 * i + 1))) (5 * mn + 2) (ar 10 (5 * i + 2))) (5 * mn + 3) (ar 10 (5 * i + 3))) S wb 10 (by decide) rfl 0 rfl (5 * mn + 4) (by omega) (by decide) (m12 rfl rfl rfl rfl rfl rfl rfl rfl rfl rfl rfl rfl) dX4_twin_68 (fun H locs wb => ?_)
  refine lv_iinc (v := nI 5) (lv' := [(2, .int (nI 5)), (0, .ref (ad 0)), (1, .int (nI i))]) hx hb dX4_twin_69 hl (k := 0) rfl (nI_s1 _) (by decide) rfl (fun ls hl => ?_)
  refine lv_goto (tgt := 41) hx hb dX4_twin_72 (by decide) ?_
  refine lv_iload_n hx hb dX4_twin_41 rfl (lv_at hl 0 rfl) ?_
  refine lv_iconst (v := nI 5) hx hb dX4_twin_42 (by decide) ?_
  refine nb_icmp_ge (tgt := 75) hx hb dX4_twin_43 (by decide) (by omega) (by omega) (fun h43 => ?_) (fun h43 => absurd h43 (by omega))
  refine lv_aload_n hx hb dX4_twin_75 rfl (lv_at hl 1 rfl) ?_
  refine lv_dup hx hb dX4_twin_76 rfl ?_
  refine rb_get S wb 0 (by decide) rfl rfl in4 12 (by decide) bw_474 rfl dX4_twin_77 ?_
  refine lv_iconst (v := nI 1) hx hb dX4_twin_80 (by decide) ?_
  refine lv_iadd hx hb dX4_twin_81 ?_
  refine nb_ren (y := nI (mn + 1)) (nI_add _ _) ?_
  refine rb_put (E' := mE ad cI (nI 0) n st (mn + 1) (va_up ar 10 (upd (upd (upd (upd (upd (ar 10) (5 * mn + 0) (ar 10 (5 * i + 0))) (5 * mn + 1) (ar 10 (5 * i + 1))) (5 * mn + 2) (ar 10 (5 * i + 2))) (5 * mn + 3) (ar 10 (5 * i + 3))) (5 * mn + 4) (ar 10 (5 * i + 4))))) S wb 0 (by decide) rfl rfl in4 tyX4 tyX4_ok nmX4 12 (by decide) bw_474 rfl rfl rfl (Nat.le_of_ble_eq_true rfl) (m12 rfl rfl rfl rfl rfl rfl rfl rfl rfl rfl rfl rfl) dX4_twin_82 (fun H locs wb => ?_)
  refine lv_aload_n hx hb dX4_twin_85 rfl (lv_at hl 1 rfl) ?_
  refine rb_get S wb 0 (by decide) rfl rfl in4 12 (by decide) bw_474 rfl dX4_twin_86 ?_
  exact rb_iret S hr hlk hQ rfl wb (m12 rfl rfl rfl rfl rfl rfl rfl rfl rfl rfl rfl rfl) dX4_twin_89

set_option maxHeartbeats 4000000 in
set_option maxRecDepth 100000 in
theorem m_bidComes (l : Launch) (D : va_G) (cI cC cD : ClassId) (ad : Nat → Nat) (th : Int32) (n : Nat) (st : Int32) (mn : Nat) (ar : Nat → Nat → Int32) (c j : Nat) (b a : Int32) (hc : c < 6) (hj : j < 6) (hm : mn < 118) : RM l yX4_bidComes cX4_bidComes 6 none ({ frames := 1, cells := 0, slots := 0, locals := 26 }) D (ty3 cI cC cD) EN0 [.ref (ad 0), .int (nI c), .int (nI j), .int b, .int a] ad 12 (mE ad cI th n st mn ar) (mE ad cI th n st (bidC st mn ar c j b a).1 (bidC st mn ar c j b a).2) none := by
  refine RM.of (by decide) (Nat.le_of_ble_eq_true rfl) ?_
  intro p e s m below meth c0 A ls args Q0 S hr hlk hQ wb hl
  have hx := S.1
  have hb := S.2.1
  have hl : lv_has ls 6 [(0, .ref (ad 0)), (1, .int (nI c)), (2, .int (nI j)), (3, .int b), (4, .int a)] := hl
  refine lv_aload_n hx hb dX4_bidComes_0 rfl (lv_at hl 0 rfl) ?_
  refine rb_get S wb 0 (by decide) rfl rfl in4 6 (by decide) bw_468 rfl dX4_bidComes_1 ?_
  refine lv_iload_n hx hb dX4_bidComes_4 rfl (lv_at hl 2 rfl) ?_
  refine rb_ald (n := 6) (f := ar 4) (x := ar 4 j) S wb 4 (by decide) rfl 0 rfl j (by omega) (by decide) rfl dX4_bidComes_5 ?_
  refine lv_iload_n hx hb dX4_bidComes_6 rfl (lv_at hl 1 rfl) ?_
  refine lv_icmp_ne (tgt := 24) hx hb dX4_bidComes_7 (by decide) (fun h7 => ?_) (fun h7 => ?_)
  · refine lv_iconst (v := nI 0) hx hb dX4_bidComes_24 (by decide) ?_
    refine lv_istore (lv' := [(5, .int (nI 0)), (0, .ref (ad 0)), (1, .int (nI c)), (2, .int (nI j)), (3, .int b), (4, .int a)]) hx hb dX4_bidComes_25 hl (by decide) rfl (fun ls hl => ?_)
    refine lv_iload hx hb dX4_bidComes_27 (lv_at hl 0 rfl) ?_
    refine lv_if_ne (tgt := 63) hx hb dX4_bidComes_29 (by decide) (fun h29 => absurd (by decide) h29) (fun h29 => ?_)
    refine lv_iload hx hb dX4_bidComes_32 (lv_at hl 5 rfl) ?_
    refine lv_aload_n hx hb dX4_bidComes_34 rfl (lv_at hl 1 rfl) ?_
    refine rb_get S wb 0 (by decide) rfl rfl in4 5 (by decide) bw_467 rfl dX4_bidComes_35 ?_
    refine lv_iload_n hx hb dX4_bidComes_38 rfl (lv_at hl 3 rfl) ?_
    refine rb_ald (n := 6) (f := ar 3) (x := ar 3 j) S wb 3 (by decide) rfl 0 rfl j (by omega) (by decide) rfl dX4_bidComes_39 ?_
    refine lv_aload_n hx hb dX4_bidComes_40 rfl (lv_at hl 1 rfl) ?_
    refine rb_get S wb 0 (by decide) rfl rfl in4 2 (by decide) bw_464 rfl dX4_bidComes_41 ?_
    refine lv_iadd hx hb dX4_bidComes_44 ?_
    refine lv_icmp_ge (tgt := 63) hx hb dX4_bidComes_45 (by decide) (fun h45 => ?_) (fun h45 => ?_)
    · refine lv_iload hx hb dX4_bidComes_63 (lv_at hl 0 rfl) ?_
      refine lv_if_ne (tgt := 120) hx hb dX4_bidComes_65 (by decide) (fun h65 => absurd (by decide) h65) (fun h65 => ?_)
      refine lv_aload_n hx hb dX4_bidComes_68 rfl (lv_at hl 1 rfl) ?_
      refine rb_get S wb 0 (by decide) rfl rfl in4 5 (by decide) bw_467 rfl dX4_bidComes_69 ?_
      refine lv_iload_n hx hb dX4_bidComes_72 rfl (lv_at hl 3 rfl) ?_
      refine lv_iload hx hb dX4_bidComes_73 (lv_at hl 5 rfl) ?_
      refine rb_ast (E' := mE ad cI th n st mn (va_up ar 3 (upd (ar 3) j a))) (n := 6) (f := ar 3) S wb 3 (by decide) rfl 0 rfl j (by omega) (by decide) (m12 rfl rfl rfl rfl rfl rfl rfl rfl rfl rfl rfl rfl) dX4_bidComes_75 (fun H locs wb => ?_)
      refine lv_aload_n hx hb dX4_bidComes_76 rfl (lv_at hl 1 rfl) ?_
      refine rb_get S wb 0 (by decide) rfl rfl in4 6 (by decide) bw_468 rfl dX4_bidComes_77 ?_
      refine lv_iload_n hx hb dX4_bidComes_80 rfl (lv_at hl 3 rfl) ?_
      refine rb_ald (n := 6) (f := ar 4) (x := ar 4 j) S wb 4 (by decide) rfl 0 rfl j (by omega) (by decide) rfl dX4_bidComes_81 ?_
      refine lv_iconst (v := (-1)) hx hb dX4_bidComes_82 (by decide) ?_
      refine lv_icmp_eq (tgt := 106) hx hb dX4_bidComes_83 (by decide) (fun h83 => ?_) (fun h83 => ?_)
      · refine lv_aload_n hx hb dX4_bidComes_106 rfl (lv_at hl 1 rfl) ?_
        refine rb_get S wb 0 (by decide) rfl rfl in4 6 (by decide) bw_468 rfl dX4_bidComes_107 ?_
        refine lv_iload_n hx hb dX4_bidComes_110 rfl (lv_at hl 3 rfl) ?_
        refine lv_iload_n hx hb dX4_bidComes_111 rfl (lv_at hl 2 rfl) ?_
        refine rb_ast (E' := mE ad cI th n st mn (va_up (va_up ar 3 (upd (ar 3) j a)) 4 (upd (ar 4) j (nI c)))) (n := 6) (f := ar 4) S wb 4 (by decide) rfl 0 rfl j (by omega) (by decide) (m12 rfl rfl rfl rfl rfl rfl rfl rfl rfl rfl rfl rfl) dX4_bidComes_112 (fun H locs wb => ?_)
        refine lv_aload_n hx hb dX4_bidComes_113 rfl (lv_at hl 1 rfl) ?_
        refine rb_get S wb 0 (by decide) rfl rfl in4 7 (by decide) bw_469 rfl dX4_bidComes_114 ?_
        refine lv_iload_n hx hb dX4_bidComes_117 rfl (lv_at hl 3 rfl) ?_
        refine lv_iload_n hx hb dX4_bidComes_118 rfl (lv_at hl 4 rfl) ?_
        refine rb_ast (E' := mE ad cI th n st mn (va_up (va_up (va_up ar 3 (upd (ar 3) j a)) 4 (upd (ar 4) j (nI c))) 5 (upd (ar 5) j b))) (n := 6) (f := ar 5) S wb 5 (by decide) rfl 0 rfl j (by omega) (by decide) (m12 rfl rfl rfl rfl rfl rfl rfl rfl rfl rfl rfl rfl) dX4_bidComes_119 (fun H locs wb => ?_)
        refine lv_aload_n hx hb dX4_bidComes_120 rfl (lv_at hl 1 rfl) ?_
        refine lv_iconst (v := nI 1) hx hb dX4_bidComes_121 (by decide) ?_
        refine lv_iload_n hx hb dX4_bidComes_122 rfl (lv_at hl 2 rfl) ?_
        refine lv_iload_n hx hb dX4_bidComes_123 rfl (lv_at hl 3 rfl) ?_
        refine lv_iload_n hx hb dX4_bidComes_124 rfl (lv_at hl 4 rfl) ?_
        refine lv_aload_n hx hb dX4_bidComes_125 rfl (lv_at hl 1 rfl) ?_
        refine rb_get S wb 0 (by decide) rfl rfl in4 5 (by decide) bw_467 rfl dX4_bidComes_126 ?_
        refine lv_iload_n hx hb dX4_bidComes_129 rfl (lv_at hl 3 rfl) ?_
        refine rb_ald (n := 6) (f := upd (ar 3) j a) (x := a) S wb 3 (by decide) rfl 0 rfl j (by omega) (by decide) pk_us dX4_bidComes_130 ?_
        refine rb_callV S wb EN0_ok (m_send1 l D cI cC cD ad th n st mn (va_up (va_up (va_up ar 3 (upd (ar 3) j a)) 4 (upd (ar 4) j (nI c))) 5 (upd (ar 5) j b)) 1 (nI c) (nI j) b a (by omega) (by omega) (by omega)) (bw5 bw_532 bw_534 bw_25 bw_37 bw_535) (rb_recv wb 0 (by decide) rfl rfl) hdX4_send rfl ⟨rfl, rfl⟩ ⟨by decide, by decide⟩ hl.1 (Nat.le_of_ble_eq_true rfl) ⟨Nat.zero_le _, Nat.zero_le _⟩ (rest := []) (st1 := []) rfl rfl dX4_bidComes_131 (fun H locs wb => ?_)
        exact rb_vret S hr hlk hQ wb (by first | (rw [bidC_1 h7 h17]; exact (m12 rfl rfl rfl rfl rfl rfl rfl rfl rfl rfl rfl rfl)) | (rw [bidC_2 (fun q => h7 q.1) h45]; exact (m12 rfl rfl rfl rfl rfl rfl rfl rfl rfl rfl rfl rfl)) | (rw [bidC_2 (fun q => h17 q.2) h45]; exact (m12 rfl rfl rfl rfl rfl rfl rfl rfl rfl rfl rfl rfl)) | (rw [bidC_3 (fun q => h7 q.1) h45 h83]; exact (m12 rfl rfl rfl rfl rfl rfl rfl rfl rfl rfl rfl rfl)) | (rw [bidC_3 (fun q => h17 q.2) h45 h83]; exact (m12 rfl rfl rfl rfl rfl rfl rfl rfl rfl rfl rfl rfl)) | (rw [bidC_4 (fun q => h7 q.1) h45 h83]; exact (m12 rfl rfl rfl rfl rfl rfl rfl rfl rfl rfl rfl rfl)) | (rw [bidC_4 (fun q => h17 q.2) h45 h83]; exact (m12 rfl rfl rfl rfl rfl rfl rfl rfl rfl rfl rfl rfl))) dX4_bidComes_134
      · refine lv_aload_n hx hb dX4_bidComes_86 rfl (lv_at hl 1 rfl) ?_
        refine lv_iconst (v := nI 3) hx hb dX4_bidComes_87 (by decide) ?_
        refine lv_aload_n hx hb dX4_bidComes_88 rfl (lv_at hl 1 rfl) ?_
        refine rb_get S wb 0 (by decide) rfl rfl in4 6 (by decide) bw_468 rfl dX4_bidComes_89 ?_
        refine lv_iload_n hx hb dX4_bidComes_92 rfl (lv_at hl 3 rfl) ?_
        refine rb_ald (n := 6) (f := ar 4) (x := ar 4 j) S wb 4 (by decide) rfl 0 rfl j (by omega) (by decide) rfl dX4_bidComes_93 ?_
        refine lv_iload_n hx hb dX4_bidComes_94 rfl (lv_at hl 3 rfl) ?_
        refine lv_aload_n hx hb dX4_bidComes_95 rfl (lv_at hl 1 rfl) ?_
        refine rb_get S wb 0 (by decide) rfl rfl in4 7 (by decide) bw_469 rfl dX4_bidComes_96 ?_
        refine lv_iload_n hx hb dX4_bidComes_99 rfl (lv_at hl 3 rfl) ?_
        refine rb_ald (n := 6) (f := ar 5) (x := ar 5 j) S wb 5 (by decide) rfl 0 rfl j (by omega) (by decide) rfl dX4_bidComes_100 ?_
        refine lv_iload hx hb dX4_bidComes_101 (lv_at hl 5 rfl) ?_
        refine rb_callV S wb EN0_ok (m_send1 l D cI cC cD ad th n st mn (va_up ar 3 (upd (ar 3) j a)) 3 (ar 4 j) (nI j) (ar 5 j) a (by omega) (by omega) (by omega)) (bw5 bw_532 bw_534 bw_25 bw_37 bw_535) (rb_recv wb 0 (by decide) rfl rfl) hdX4_send rfl ⟨rfl, rfl⟩ ⟨by decide, by decide⟩ hl.1 (Nat.le_of_ble_eq_true rfl) ⟨Nat.zero_le _, Nat.zero_le _⟩ (rest := []) (st1 := []) rfl rfl dX4_bidComes_103 (fun H locs wb => ?_)
        refine lv_aload_n hx hb dX4_bidComes_106 rfl (lv_at hl 1 rfl) ?_
        refine rb_get S wb 0 (by decide) rfl rfl in4 6 (by decide) bw_468 rfl dX4_bidComes_107 ?_
        refine lv_iload_n hx hb dX4_bidComes_110 rfl (lv_at hl 3 rfl) ?_
        refine lv_iload_n hx hb dX4_bidComes_111 rfl (lv_at hl 2 rfl) ?_
        refine rb_ast (E' := mE ad cI th n st (mn + 1) (va_up (va_up (va_up (va_up ar 3 (upd (ar 3) j a)) 4 (upd (ar 4) j (nI c))) 10 (put5 (ar 10) (5 * mn) (nI 3) (ar 4 j) (nI j) (ar 5 j) a)) 11 (upd (ar 11) 3 (ar 11 3 + nI 1)))) (n := 6) (f := ar 4) S wb 4 (by decide) rfl 0 rfl j (by omega) (by decide) (m12 rfl rfl rfl rfl rfl rfl rfl rfl rfl rfl rfl rfl) dX4_bidComes_112 (fun H locs wb => ?_)
        refine lv_aload_n hx hb dX4_bidComes_113 rfl (lv_at hl 1 rfl) ?_
        refine rb_get S wb 0 (by decide) rfl rfl in4 7 (by decide) bw_469 rfl dX4_bidComes_114 ?_
        refine lv_iload_n hx hb dX4_bidComes_117 rfl (lv_at hl 3 rfl) ?_
        refine lv_iload_n hx hb dX4_bidComes_118 rfl (lv_at hl 4 rfl) ?_
        refine rb_ast (E' := mE ad cI th n st (mn + 1) (va_up (va_up (va_up (va_up (va_up ar 3 (upd (ar 3) j a)) 4 (upd (ar 4) j (nI c))) 5 (upd (ar 5) j b)) 10 (put5 (ar 10) (5 * mn) (nI 3) (ar 4 j) (nI j) (ar 5 j) a)) 11 (upd (ar 11) 3 (ar 11 3 + nI 1)))) (n := 6) (f := ar 5) S wb 5 (by decide) rfl 0 rfl j (by omega) (by decide) (m12 rfl rfl rfl rfl rfl rfl rfl rfl rfl rfl rfl rfl) dX4_bidComes_119 (fun H locs wb => ?_)
        refine lv_aload_n hx hb dX4_bidComes_120 rfl (lv_at hl 1 rfl) ?_
        refine lv_iconst (v := nI 1) hx hb dX4_bidComes_121 (by decide) ?_
        refine lv_iload_n hx hb dX4_bidComes_122 rfl (lv_at hl 2 rfl) ?_
        refine lv_iload_n hx hb dX4_bidComes_123 rfl (lv_at hl 3 rfl) ?_
        refine lv_iload_n hx hb dX4_bidComes_124 rfl (lv_at hl 4 rfl) ?_
        refine lv_aload_n hx hb dX4_bidComes_125 rfl (lv_at hl 1 rfl) ?_
        refine rb_get S wb 0 (by decide) rfl rfl in4 5 (by decide) bw_467 rfl dX4_bidComes_126 ?_
        refine lv_iload_n hx hb dX4_bidComes_129 rfl (lv_at hl 3 rfl) ?_
        refine rb_ald (n := 6) (f := upd (ar 3) j a) (x := a) S wb 3 (by decide) rfl 0 rfl j (by omega) (by decide) pk_us dX4_bidComes_130 ?_
        refine rb_callV S wb EN0_ok (m_send1 l D cI cC cD ad th n st (mn + 1) (va_up (va_up (va_up (va_up (va_up ar 3 (upd (ar 3) j a)) 4 (upd (ar 4) j (nI c))) 5 (upd (ar 5) j b)) 10 (put5 (ar 10) (5 * mn) (nI 3) (ar 4 j) (nI j) (ar 5 j) a)) 11 (upd (ar 11) 3 (ar 11 3 + nI 1))) 1 (nI c) (nI j) b a (by omega) (by omega) (by omega)) (bw5 bw_532 bw_534 bw_25 bw_37 bw_535) (rb_recv wb 0 (by decide) rfl rfl) hdX4_send rfl ⟨rfl, rfl⟩ ⟨by decide, by decide⟩ hl.1 (Nat.le_of_ble_eq_true rfl) ⟨Nat.zero_le _, Nat.zero_le _⟩ (rest := []) (st1 := []) rfl rfl dX4_bidComes_131 (fun H locs wb => ?_)
        exact rb_vret S hr hlk hQ wb (by first | (rw [bidC_1 h7 h17]; exact (m12 rfl rfl rfl rfl rfl rfl rfl rfl rfl rfl rfl rfl)) | (rw [bidC_2 (fun q => h7 q.1) h45]; exact (m12 rfl rfl rfl rfl rfl rfl rfl rfl rfl rfl rfl rfl)) | (rw [bidC_2 (fun q => h17 q.2) h45]; exact (m12 rfl rfl rfl rfl rfl rfl rfl rfl rfl rfl rfl rfl)) | (rw [bidC_3 (fun q => h7 q.1) h45 h83]; exact (m12 rfl rfl rfl rfl rfl rfl rfl rfl rfl rfl rfl rfl)) | (rw [bidC_3 (fun q => h17 q.2) h45 h83]; exact (m12 rfl rfl rfl rfl rfl rfl rfl rfl rfl rfl rfl rfl)) | (rw [bidC_4 (fun q => h7 q.1) h45 h83]; exact (m12 rfl rfl rfl rfl rfl rfl rfl rfl rfl rfl rfl rfl)) | (rw [bidC_4 (fun q => h17 q.2) h45 h83]; exact (m12 rfl rfl rfl rfl rfl rfl rfl rfl rfl rfl rfl rfl))) dX4_bidComes_134
    · refine lv_aload_n hx hb dX4_bidComes_48 rfl (lv_at hl 1 rfl) ?_
      refine lv_iconst (v := nI 2) hx hb dX4_bidComes_49 (by decide) ?_
      refine lv_iload_n hx hb dX4_bidComes_50 rfl (lv_at hl 2 rfl) ?_
      refine lv_iload_n hx hb dX4_bidComes_51 rfl (lv_at hl 3 rfl) ?_
      refine lv_iload_n hx hb dX4_bidComes_52 rfl (lv_at hl 4 rfl) ?_
      refine lv_aload_n hx hb dX4_bidComes_53 rfl (lv_at hl 1 rfl) ?_
      refine rb_get S wb 0 (by decide) rfl rfl in4 5 (by decide) bw_467 rfl dX4_bidComes_54 ?_
      refine lv_iload_n hx hb dX4_bidComes_57 rfl (lv_at hl 3 rfl) ?_
      refine rb_ald (n := 6) (f := ar 3) (x := ar 3 j) S wb 3 (by decide) rfl 0 rfl j (by omega) (by decide) rfl dX4_bidComes_58 ?_
      refine rb_callV S wb EN0_ok (m_send1 l D cI cC cD ad th n st mn ar 2 (nI c) (nI j) b (ar 3 j) (by omega) (by omega) (by omega)) (bw5 bw_532 bw_534 bw_25 bw_37 bw_535) (rb_recv wb 0 (by decide) rfl rfl) hdX4_send rfl ⟨rfl, rfl⟩ ⟨by decide, by decide⟩ hl.1 (Nat.le_of_ble_eq_true rfl) ⟨Nat.zero_le _, Nat.zero_le _⟩ (rest := []) (st1 := []) rfl rfl dX4_bidComes_59 (fun H locs wb => ?_)
      exact rb_vret S hr hlk hQ wb (by first | (rw [bidC_1 h7 h17]; exact (m12 rfl rfl rfl rfl rfl rfl rfl rfl rfl rfl rfl rfl)) | (rw [bidC_2 (fun q => h7 q.1) h45]; exact (m12 rfl rfl rfl rfl rfl rfl rfl rfl rfl rfl rfl rfl)) | (rw [bidC_2 (fun q => h17 q.2) h45]; exact (m12 rfl rfl rfl rfl rfl rfl rfl rfl rfl rfl rfl rfl)) | (rw [bidC_3 (fun q => h7 q.1) h45 h83]; exact (m12 rfl rfl rfl rfl rfl rfl rfl rfl rfl rfl rfl rfl)) | (rw [bidC_3 (fun q => h17 q.2) h45 h83]; exact (m12 rfl rfl rfl rfl rfl rfl rfl rfl rfl rfl rfl rfl)) | (rw [bidC_4 (fun q => h7 q.1) h45 h83]; exact (m12 rfl rfl rfl rfl rfl rfl rfl rfl rfl rfl rfl rfl)) | (rw [bidC_4 (fun q => h17 q.2) h45 h83]; exact (m12 rfl rfl rfl rfl rfl rfl rfl rfl rfl rfl rfl rfl))) dX4_bidComes_62
  · refine lv_aload_n hx hb dX4_bidComes_10 rfl (lv_at hl 0 rfl) ?_
    refine rb_get S wb 0 (by decide) rfl rfl in4 7 (by decide) bw_469 rfl dX4_bidComes_11 ?_
    refine lv_iload_n hx hb dX4_bidComes_14 rfl (lv_at hl 2 rfl) ?_
    refine rb_ald (n := 6) (f := ar 5) (x := ar 5 j) S wb 5 (by decide) rfl 0 rfl j (by omega) (by decide) rfl dX4_bidComes_15 ?_
    refine lv_iload_n hx hb dX4_bidComes_16 rfl (lv_at hl 3 rfl) ?_
    refine lv_icmp_ne (tgt := 24) hx hb dX4_bidComes_17 (by decide) (fun h17 => ?_) (fun h17 => ?_)
    · refine lv_iconst (v := nI 0) hx hb dX4_bidComes_24 (by decide) ?_
      refine lv_istore (lv' := [(5, .int (nI 0)), (0, .ref (ad 0)), (1, .int (nI c)), (2, .int (nI j)), (3, .int b), (4, .int a)]) hx hb dX4_bidComes_25 hl (by decide) rfl (fun ls hl => ?_)
      refine lv_iload hx hb dX4_bidComes_27 (lv_at hl 0 rfl) ?_
      refine lv_if_ne (tgt := 63) hx hb dX4_bidComes_29 (by decide) (fun h29 => absurd (by decide) h29) (fun h29 => ?_)
      refine lv_iload hx hb dX4_bidComes_32 (lv_at hl 5 rfl) ?_
      refine lv_aload_n hx hb dX4_bidComes_34 rfl (lv_at hl 1 rfl) ?_
      refine rb_get S wb 0 (by decide) rfl rfl in4 5 (by decide) bw_467 rfl dX4_bidComes_35 ?_
      refine lv_iload_n hx hb dX4_bidComes_38 rfl (lv_at hl 3 rfl) ?_
      refine rb_ald (n := 6) (f := ar 3) (x := ar 3 j) S wb 3 (by decide) rfl 0 rfl j (by omega) (by decide) rfl dX4_bidComes_39 ?_
      refine lv_aload_n hx hb dX4_bidComes_40 rfl (lv_at hl 1 rfl) ?_
      refine rb_get S wb 0 (by decide) rfl rfl in4 2 (by decide) bw_464 rfl dX4_bidComes_41 ?_
      refine lv_iadd hx hb dX4_bidComes_44 ?_
      refine lv_icmp_ge (tgt := 63) hx hb dX4_bidComes_45 (by decide) (fun h45 => ?_) (fun h45 => ?_)
      · refine lv_iload hx hb dX4_bidComes_63 (lv_at hl 0 rfl) ?_
        refine lv_if_ne (tgt := 120) hx hb dX4_bidComes_65 (by decide) (fun h65 => absurd (by decide) h65) (fun h65 => ?_)
        refine lv_aload_n hx hb dX4_bidComes_68 rfl (lv_at hl 1 rfl) ?_
        refine rb_get S wb 0 (by decide) rfl rfl in4 5 (by decide) bw_467 rfl dX4_bidComes_69 ?_
        refine lv_iload_n hx hb dX4_bidComes_72 rfl (lv_at hl 3 rfl) ?_
        refine lv_iload hx hb dX4_bidComes_73 (lv_at hl 5 rfl) ?_
        refine rb_ast (E' := mE ad cI th n st mn (va_up ar 3 (upd (ar 3) j a))) (n := 6) (f := ar 3) S wb 3 (by decide) rfl 0 rfl j (by omega) (by decide) (m12 rfl rfl rfl rfl rfl rfl rfl rfl rfl rfl rfl rfl) dX4_bidComes_75 (fun H locs wb => ?_)
        refine lv_aload_n hx hb dX4_bidComes_76 rfl (lv_at hl 1 rfl) ?_
        refine rb_get S wb 0 (by decide) rfl rfl in4 6 (by decide) bw_468 rfl dX4_bidComes_77 ?_
        refine lv_iload_n hx hb dX4_bidComes_80 rfl (lv_at hl 3 rfl) ?_
        refine rb_ald (n := 6) (f := ar 4) (x := ar 4 j) S wb 4 (by decide) rfl 0 rfl j (by omega) (by decide) rfl dX4_bidComes_81 ?_
        refine lv_iconst (v := (-1)) hx hb dX4_bidComes_82 (by decide) ?_
        refine lv_icmp_eq (tgt := 106) hx hb dX4_bidComes_83 (by decide) (fun h83 => ?_) (fun h83 => ?_)
        · refine lv_aload_n hx hb dX4_bidComes_106 rfl (lv_at hl 1 rfl) ?_
          refine rb_get S wb 0 (by decide) rfl rfl in4 6 (by decide) bw_468 rfl dX4_bidComes_107 ?_
          refine lv_iload_n hx hb dX4_bidComes_110 rfl (lv_at hl 3 rfl) ?_
          refine lv_iload_n hx hb dX4_bidComes_111 rfl (lv_at hl 2 rfl) ?_
          refine rb_ast (E' := mE ad cI th n st mn (va_up (va_up ar 3 (upd (ar 3) j a)) 4 (upd (ar 4) j (nI c)))) (n := 6) (f := ar 4) S wb 4 (by decide) rfl 0 rfl j (by omega) (by decide) (m12 rfl rfl rfl rfl rfl rfl rfl rfl rfl rfl rfl rfl) dX4_bidComes_112 (fun H locs wb => ?_)
          refine lv_aload_n hx hb dX4_bidComes_113 rfl (lv_at hl 1 rfl) ?_
          refine rb_get S wb 0 (by decide) rfl rfl in4 7 (by decide) bw_469 rfl dX4_bidComes_114 ?_
          refine lv_iload_n hx hb dX4_bidComes_117 rfl (lv_at hl 3 rfl) ?_
          refine lv_iload_n hx hb dX4_bidComes_118 rfl (lv_at hl 4 rfl) ?_
          refine rb_ast (E' := mE ad cI th n st mn (va_up (va_up (va_up ar 3 (upd (ar 3) j a)) 4 (upd (ar 4) j (nI c))) 5 (upd (ar 5) j b))) (n := 6) (f := ar 5) S wb 5 (by decide) rfl 0 rfl j (by omega) (by decide) (m12 rfl rfl rfl rfl rfl rfl rfl rfl rfl rfl rfl rfl) dX4_bidComes_119 (fun H locs wb => ?_)
          refine lv_aload_n hx hb dX4_bidComes_120 rfl (lv_at hl 1 rfl) ?_
          refine lv_iconst (v := nI 1) hx hb dX4_bidComes_121 (by decide) ?_
          refine lv_iload_n hx hb dX4_bidComes_122 rfl (lv_at hl 2 rfl) ?_
          refine lv_iload_n hx hb dX4_bidComes_123 rfl (lv_at hl 3 rfl) ?_
          refine lv_iload_n hx hb dX4_bidComes_124 rfl (lv_at hl 4 rfl) ?_
          refine lv_aload_n hx hb dX4_bidComes_125 rfl (lv_at hl 1 rfl) ?_
          refine rb_get S wb 0 (by decide) rfl rfl in4 5 (by decide) bw_467 rfl dX4_bidComes_126 ?_
          refine lv_iload_n hx hb dX4_bidComes_129 rfl (lv_at hl 3 rfl) ?_
          refine rb_ald (n := 6) (f := upd (ar 3) j a) (x := a) S wb 3 (by decide) rfl 0 rfl j (by omega) (by decide) pk_us dX4_bidComes_130 ?_
          refine rb_callV S wb EN0_ok (m_send1 l D cI cC cD ad th n st mn (va_up (va_up (va_up ar 3 (upd (ar 3) j a)) 4 (upd (ar 4) j (nI c))) 5 (upd (ar 5) j b)) 1 (nI c) (nI j) b a (by omega) (by omega) (by omega)) (bw5 bw_532 bw_534 bw_25 bw_37 bw_535) (rb_recv wb 0 (by decide) rfl rfl) hdX4_send rfl ⟨rfl, rfl⟩ ⟨by decide, by decide⟩ hl.1 (Nat.le_of_ble_eq_true rfl) ⟨Nat.zero_le _, Nat.zero_le _⟩ (rest := []) (st1 := []) rfl rfl dX4_bidComes_131 (fun H locs wb => ?_)
          exact rb_vret S hr hlk hQ wb (by first | (rw [bidC_1 h7 h17]; exact (m12 rfl rfl rfl rfl rfl rfl rfl rfl rfl rfl rfl rfl)) | (rw [bidC_2 (fun q => h7 q.1) h45]; exact (m12 rfl rfl rfl rfl rfl rfl rfl rfl rfl rfl rfl rfl)) | (rw [bidC_2 (fun q => h17 q.2) h45]; exact (m12 rfl rfl rfl rfl rfl rfl rfl rfl rfl rfl rfl rfl)) | (rw [bidC_3 (fun q => h7 q.1) h45 h83]; exact (m12 rfl rfl rfl rfl rfl rfl rfl rfl rfl rfl rfl rfl)) | (rw [bidC_3 (fun q => h17 q.2) h45 h83]; exact (m12 rfl rfl rfl rfl rfl rfl rfl rfl rfl rfl rfl rfl)) | (rw [bidC_4 (fun q => h7 q.1) h45 h83]; exact (m12 rfl rfl rfl rfl rfl rfl rfl rfl rfl rfl rfl rfl)) | (rw [bidC_4 (fun q => h17 q.2) h45 h83]; exact (m12 rfl rfl rfl rfl rfl rfl rfl rfl rfl rfl rfl rfl))) dX4_bidComes_134
        · refine lv_aload_n hx hb dX4_bidComes_86 rfl (lv_at hl 1 rfl) ?_
          refine lv_iconst (v := nI 3) hx hb dX4_bidComes_87 (by decide) ?_
          refine lv_aload_n hx hb dX4_bidComes_88 rfl (lv_at hl 1 rfl) ?_
          refine rb_get S wb 0 (by decide) rfl rfl in4 6 (by decide) bw_468 rfl dX4_bidComes_89 ?_
          refine lv_iload_n hx hb dX4_bidComes_92 rfl (lv_at hl 3 rfl) ?_
          refine rb_ald (n := 6) (f := ar 4) (x := ar 4 j) S wb 4 (by decide) rfl 0 rfl j (by omega) (by decide) rfl dX4_bidComes_93 ?_
          refine lv_iload_n hx hb dX4_bidComes_94 rfl (lv_at hl 3 rfl) ?_
          refine lv_aload_n hx hb dX4_bidComes_95 rfl (lv_at hl 1 rfl) ?_
          refine rb_get S wb 0 (by decide) rfl rfl in4 7 (by decide) bw_469 rfl dX4_bidComes_96 ?_
          refine lv_iload_n hx hb dX4_bidComes_99 rfl (lv_at hl 3 rfl) ?_
          refine rb_ald (n := 6) (f := ar 5) (x := ar 5 j) S wb 5 (by decide) rfl 0 rfl j (by omega) (by decide) rfl dX4_bidComes_100 ?_
          refine lv_iload hx hb dX4_bidComes_101 (lv_at hl 5 rfl) ?_
          refine rb_callV S wb EN0_ok (m_send1 l D cI cC cD ad th n st mn (va_up ar 3 (upd (ar 3) j a)) 3 (ar 4 j) (nI j) (ar 5 j) a (by omega) (by omega) (by omega)) (bw5 bw_532 bw_534 bw_25 bw_37 bw_535) (rb_recv wb 0 (by decide) rfl rfl) hdX4_send rfl ⟨rfl, rfl⟩ ⟨by decide, by decide⟩ hl.1 (Nat.le_of_ble_eq_true rfl) ⟨Nat.zero_le _, Nat.zero_le _⟩ (rest := []) (st1 := []) rfl rfl dX4_bidComes_103 (fun H locs wb => ?_)
          refine lv_aload_n hx hb dX4_bidComes_106 rfl (lv_at hl 1 rfl) ?_
          refine rb_get S wb 0 (by decide) rfl rfl in4 6 (by decide) bw_468 rfl dX4_bidComes_107 ?_
          refine lv_iload_n hx hb dX4_bidComes_110 rfl (lv_at hl 3 rfl) ?_
          refine lv_iload_n hx hb dX4_bidComes_111 rfl (lv_at hl 2 rfl) ?_
          refine rb_ast (E' := mE ad cI th n st (mn + 1) (va_up (va_up (va_up (va_up ar 3 (upd (ar 3) j a)) 4 (upd (ar 4) j (nI c))) 10 (put5 (ar 10) (5 * mn) (nI 3) (ar 4 j) (nI j) (ar 5 j) a)) 11 (upd (ar 11) 3 (ar 11 3 + nI 1)))) (n := 6) (f := ar 4) S wb 4 (by decide) rfl 0 rfl j (by omega) (by decide) (m12 rfl rfl rfl rfl rfl rfl rfl rfl rfl rfl rfl rfl) dX4_bidComes_112 (fun H locs wb => ?_)
          refine lv_aload_n hx hb dX4_bidComes_113 rfl (lv_at hl 1 rfl) ?_
          refine rb_get S wb 0 (by decide) rfl rfl in4 7 (by decide) bw_469 rfl dX4_bidComes_114 ?_
          refine lv_iload_n hx hb dX4_bidComes_117 rfl (lv_at hl 3 rfl) ?_
          refine lv_iload_n hx hb dX4_bidComes_118 rfl (lv_at hl 4 rfl) ?_
          refine rb_ast (E' := mE ad cI th n st (mn + 1) (va_up (va_up (va_up (va_up (va_up ar 3 (upd (ar 3) j a)) 4 (upd (ar 4) j (nI c))) 5 (upd (ar 5) j b)) 10 (put5 (ar 10) (5 * mn) (nI 3) (ar 4 j) (nI j) (ar 5 j) a)) 11 (upd (ar 11) 3 (ar 11 3 + nI 1)))) (n := 6) (f := ar 5) S wb 5 (by decide) rfl 0 rfl j (by omega) (by decide) (m12 rfl rfl rfl rfl rfl rfl rfl rfl rfl rfl rfl rfl) dX4_bidComes_119 (fun H locs wb => ?_)
          refine lv_aload_n hx hb dX4_bidComes_120 rfl (lv_at hl 1 rfl) ?_
          refine lv_iconst (v := nI 1) hx hb dX4_bidComes_121 (by decide) ?_
          refine lv_iload_n hx hb dX4_bidComes_122 rfl (lv_at hl 2 rfl) ?_
          refine lv_iload_n hx hb dX4_bidComes_123 rfl (lv_at hl 3 rfl) ?_
          refine lv_iload_n hx hb dX4_bidComes_124 rfl (lv_at hl 4 rfl) ?_
          refine lv_aload_n hx hb dX4_bidComes_125 rfl (lv_at hl 1 rfl) ?_
          refine rb_get S wb 0 (by decide) rfl rfl in4 5 (by decide) bw_467 rfl dX4_bidComes_126 ?_
          refine lv_iload_n hx hb dX4_bidComes_129 rfl (lv_at hl 3 rfl) ?_
          refine rb_ald (n := 6) (f := upd (ar 3) j a) (x := a) S wb 3 (by decide) rfl 0 rfl j (by omega) (by decide) pk_us dX4_bidComes_130 ?_
          refine rb_callV S wb EN0_ok (m_send1 l D cI cC cD ad th n st (mn + 1) (va_up (va_up (va_up (va_up (va_up ar 3 (upd (ar 3) j a)) 4 (upd (ar 4) j (nI c))) 5 (upd (ar 5) j b)) 10 (put5 (ar 10) (5 * mn) (nI 3) (ar 4 j) (nI j) (ar 5 j) a)) 11 (upd (ar 11) 3 (ar 11 3 + nI 1))) 1 (nI c) (nI j) b a (by omega) (by omega) (by omega)) (bw5 bw_532 bw_534 bw_25 bw_37 bw_535) (rb_recv wb 0 (by decide) rfl rfl) hdX4_send rfl ⟨rfl, rfl⟩ ⟨by decide, by decide⟩ hl.1 (Nat.le_of_ble_eq_true rfl) ⟨Nat.zero_le _, Nat.zero_le _⟩ (rest := []) (st1 := []) rfl rfl dX4_bidComes_131 (fun H locs wb => ?_)
          exact rb_vret S hr hlk hQ wb (by first | (rw [bidC_1 h7 h17]; exact (m12 rfl rfl rfl rfl rfl rfl rfl rfl rfl rfl rfl rfl)) | (rw [bidC_2 (fun q => h7 q.1) h45]; exact (m12 rfl rfl rfl rfl rfl rfl rfl rfl rfl rfl rfl rfl)) | (rw [bidC_2 (fun q => h17 q.2) h45]; exact (m12 rfl rfl rfl rfl rfl rfl rfl rfl rfl rfl rfl rfl)) | (rw [bidC_3 (fun q => h7 q.1) h45 h83]; exact (m12 rfl rfl rfl rfl rfl rfl rfl rfl rfl rfl rfl rfl)) | (rw [bidC_3 (fun q => h17 q.2) h45 h83]; exact (m12 rfl rfl rfl rfl rfl rfl rfl rfl rfl rfl rfl rfl)) | (rw [bidC_4 (fun q => h7 q.1) h45 h83]; exact (m12 rfl rfl rfl rfl rfl rfl rfl rfl rfl rfl rfl rfl)) | (rw [bidC_4 (fun q => h17 q.2) h45 h83]; exact (m12 rfl rfl rfl rfl rfl rfl rfl rfl rfl rfl rfl rfl))) dX4_bidComes_134
      · refine lv_aload_n hx hb dX4_bidComes_48 rfl (lv_at hl 1 rfl) ?_
        refine lv_iconst (v := nI 2) hx hb dX4_bidComes_49 (by decide) ?_
        refine lv_iload_n hx hb dX4_bidComes_50 rfl (lv_at hl 2 rfl) ?_
        refine lv_iload_n hx hb dX4_bidComes_51 rfl (lv_at hl 3 rfl) ?_
        refine lv_iload_n hx hb dX4_bidComes_52 rfl (lv_at hl 4 rfl) ?_
        refine lv_aload_n hx hb dX4_bidComes_53 rfl (lv_at hl 1 rfl) ?_
        refine rb_get S wb 0 (by decide) rfl rfl in4 5 (by decide) bw_467 rfl dX4_bidComes_54 ?_
        refine lv_iload_n hx hb dX4_bidComes_57 rfl (lv_at hl 3 rfl) ?_
        refine rb_ald (n := 6) (f := ar 3) (x := ar 3 j) S wb 3 (by decide) rfl 0 rfl j (by omega) (by decide) rfl dX4_bidComes_58 ?_
        refine rb_callV S wb EN0_ok (m_send1 l D cI cC cD ad th n st mn ar 2 (nI c) (nI j) b (ar 3 j) (by omega) (by omega) (by omega)) (bw5 bw_532 bw_534 bw_25 bw_37 bw_535) (rb_recv wb 0 (by decide) rfl rfl) hdX4_send rfl ⟨rfl, rfl⟩ ⟨by decide, by decide⟩ hl.1 (Nat.le_of_ble_eq_true rfl) ⟨Nat.zero_le _, Nat.zero_le _⟩ (rest := []) (st1 := []) rfl rfl dX4_bidComes_59 (fun H locs wb => ?_)
        exact rb_vret S hr hlk hQ wb (by first | (rw [bidC_1 h7 h17]; exact (m12 rfl rfl rfl rfl rfl rfl rfl rfl rfl rfl rfl rfl)) | (rw [bidC_2 (fun q => h7 q.1) h45]; exact (m12 rfl rfl rfl rfl rfl rfl rfl rfl rfl rfl rfl rfl)) | (rw [bidC_2 (fun q => h17 q.2) h45]; exact (m12 rfl rfl rfl rfl rfl rfl rfl rfl rfl rfl rfl rfl)) | (rw [bidC_3 (fun q => h7 q.1) h45 h83]; exact (m12 rfl rfl rfl rfl rfl rfl rfl rfl rfl rfl rfl rfl)) | (rw [bidC_3 (fun q => h17 q.2) h45 h83]; exact (m12 rfl rfl rfl rfl rfl rfl rfl rfl rfl rfl rfl rfl)) | (rw [bidC_4 (fun q => h7 q.1) h45 h83]; exact (m12 rfl rfl rfl rfl rfl rfl rfl rfl rfl rfl rfl rfl)) | (rw [bidC_4 (fun q => h17 q.2) h45 h83]; exact (m12 rfl rfl rfl rfl rfl rfl rfl rfl rfl rfl rfl rfl))) dX4_bidComes_62
    · refine lv_iconst (v := nI 1) hx hb dX4_bidComes_20 (by decide) ?_
      refine lv_goto (tgt := 25) hx hb dX4_bidComes_21 (by decide) ?_
      refine lv_istore (lv' := [(5, .int (nI 1)), (0, .ref (ad 0)), (1, .int (nI c)), (2, .int (nI j)), (3, .int b), (4, .int a)]) hx hb dX4_bidComes_25 hl (by decide) rfl (fun ls hl => ?_)
      refine lv_iload hx hb dX4_bidComes_27 (lv_at hl 0 rfl) ?_
      refine lv_if_ne (tgt := 63) hx hb dX4_bidComes_29 (by decide) (fun h29 => ?_) (fun h29 => absurd h29 (by decide))
      refine lv_iload hx hb dX4_bidComes_63 (lv_at hl 0 rfl) ?_
      refine lv_if_ne (tgt := 120) hx hb dX4_bidComes_65 (by decide) (fun h65 => ?_) (fun h65 => absurd h65 (by decide))
      refine lv_aload_n hx hb dX4_bidComes_120 rfl (lv_at hl 1 rfl) ?_
      refine lv_iconst (v := nI 1) hx hb dX4_bidComes_121 (by decide) ?_
      refine lv_iload_n hx hb dX4_bidComes_122 rfl (lv_at hl 2 rfl) ?_
      refine lv_iload_n hx hb dX4_bidComes_123 rfl (lv_at hl 3 rfl) ?_
      refine lv_iload_n hx hb dX4_bidComes_124 rfl (lv_at hl 4 rfl) ?_
      refine lv_aload_n hx hb dX4_bidComes_125 rfl (lv_at hl 1 rfl) ?_
      refine rb_get S wb 0 (by decide) rfl rfl in4 5 (by decide) bw_467 rfl dX4_bidComes_126 ?_
      refine lv_iload_n hx hb dX4_bidComes_129 rfl (lv_at hl 3 rfl) ?_
      refine rb_ald (n := 6) (f := ar 3) (x := ar 3 j) S wb 3 (by decide) rfl 0 rfl j (by omega) (by decide) rfl dX4_bidComes_130 ?_
      refine rb_callV S wb EN0_ok (m_send1 l D cI cC cD ad th n st mn ar 1 (nI c) (nI j) b (ar 3 j) (by omega) (by omega) (by omega)) (bw5 bw_532 bw_534 bw_25 bw_37 bw_535) (rb_recv wb 0 (by decide) rfl rfl) hdX4_send rfl ⟨rfl, rfl⟩ ⟨by decide, by decide⟩ hl.1 (Nat.le_of_ble_eq_true rfl) ⟨Nat.zero_le _, Nat.zero_le _⟩ (rest := []) (st1 := []) rfl rfl dX4_bidComes_131 (fun H locs wb => ?_)
      exact rb_vret S hr hlk hQ wb (by first | (rw [bidC_1 h7 h17]; exact (m12 rfl rfl rfl rfl rfl rfl rfl rfl rfl rfl rfl rfl)) | (rw [bidC_2 (fun q => h7 q.1) h45]; exact (m12 rfl rfl rfl rfl rfl rfl rfl rfl rfl rfl rfl rfl)) | (rw [bidC_2 (fun q => h17 q.2) h45]; exact (m12 rfl rfl rfl rfl rfl rfl rfl rfl rfl rfl rfl rfl)) | (rw [bidC_3 (fun q => h7 q.1) h45 h83]; exact (m12 rfl rfl rfl rfl rfl rfl rfl rfl rfl rfl rfl rfl)) | (rw [bidC_3 (fun q => h17 q.2) h45 h83]; exact (m12 rfl rfl rfl rfl rfl rfl rfl rfl rfl rfl rfl rfl)) | (rw [bidC_4 (fun q => h7 q.1) h45 h83]; exact (m12 rfl rfl rfl rfl rfl rfl rfl rfl rfl rfl rfl rfl)) | (rw [bidC_4 (fun q => h17 q.2) h45 h83]; exact (m12 rfl rfl rfl rfl rfl rfl rfl rfl rfl rfl rfl rfl))) dX4_bidComes_134

set_option maxHeartbeats 4000000 in
set_option maxRecDepth 100000 in
theorem m_answerComes (l : Launch) (D : va_G) (cI cC cD : ClassId) (ad : Nat → Nat) (th : Int32) (n : Nat) (st : Int32) (mn : Nat) (ar : Nat → Nat → Int32) (kd : Int32) (c j : Nat) (b a : Int32) (hc : c < 6) (hj : j < 6) : RM l yX4_answerComes cX4_answerComes 6 none ({ frames := 0, cells := 0, slots := 0, locals := 0 }) D (ty3 cI cC cD) EN0 [.ref (ad 0), .int kd, .int (nI c), .int (nI j), .int b, .int a] ad 12 (mE ad cI th n st mn ar) (mE ad cI th n st mn (ansC ar kd c j b a)) none := by
  refine RM.of (by decide) (Nat.le_of_ble_eq_true rfl) ?_
  intro p e s m below meth c0 A ls args Q0 S hr hlk hQ wb hl
  have hx := S.1
  have hb := S.2.1
  have hl : lv_has ls 6 [(0, .ref (ad 0)), (1, .int kd), (2, .int (nI c)), (3, .int (nI j)), (4, .int b), (5, .int a)] := hl
  refine lv_aload_n hx hb dX4_answerComes_0 rfl (lv_at hl 0 rfl) ?_
  refine rb_get S wb 0 (by decide) rfl rfl in4 4 (by decide) bw_466 rfl dX4_answerComes_1 ?_
  refine lv_bipush (v := nI 6) hx hb dX4_answerComes_4 (by decide) ?_
  refine lv_iload_n hx hb dX4_answerComes_6 rfl (lv_at hl 2 rfl) ?_
  refine lv_imul hx hb dX4_answerComes_7 ?_
  refine nb_ren (y := nI (6 * c)) (pk_mul _ _) ?_
  refine lv_iload_n hx hb dX4_answerComes_8 rfl (lv_at hl 3 rfl) ?_
  refine lv_iadd hx hb dX4_answerComes_9 ?_
  refine nb_ren (y := nI (6 * c + j)) (nI_add _ _) ?_
  refine lv_iload hx hb dX4_answerComes_10 (lv_at hl 5 rfl) ?_
  refine lv_aload_n hx hb dX4_answerComes_12 rfl (lv_at hl 0 rfl) ?_
  refine rb_get S wb 0 (by decide) rfl rfl in4 4 (by decide) bw_466 rfl dX4_answerComes_13 ?_
  refine lv_bipush (v := nI 6) hx hb dX4_answerComes_16 (by decide) ?_
  refine lv_iload_n hx hb dX4_answerComes_18 rfl (lv_at hl 2 rfl) ?_
  refine lv_imul hx hb dX4_answerComes_19 ?_
  refine nb_ren (y := nI (6 * c)) (pk_mul _ _) ?_
  refine lv_iload_n hx hb dX4_answerComes_20 rfl (lv_at hl 3 rfl) ?_
  refine lv_iadd hx hb dX4_answerComes_21 ?_
  refine nb_ren (y := nI (6 * c + j)) (nI_add _ _) ?_
  refine rb_ald (n := 36) (f := ar 2) (x := ar 2 (6 * c + j)) S wb 2 (by decide) rfl 0 rfl (6 * c + j) (by omega) (by decide) rfl dX4_answerComes_22 ?_
  refine lv_icmp_le (tgt := 31) hx hb dX4_answerComes_23 (by decide) (fun h23 => ?_) (fun h23 => ?_)
  · refine lv_aload_n hx hb dX4_answerComes_31 rfl (lv_at hl 0 rfl) ?_
    refine rb_get S wb 0 (by decide) rfl rfl in4 4 (by decide) bw_466 rfl dX4_answerComes_32 ?_
    refine lv_bipush (v := nI 6) hx hb dX4_answerComes_35 (by decide) ?_
    refine lv_iload_n hx hb dX4_answerComes_37 rfl (lv_at hl 2 rfl) ?_
    refine lv_imul hx hb dX4_answerComes_38 ?_
    refine nb_ren (y := nI (6 * c)) (pk_mul _ _) ?_
    refine lv_iload_n hx hb dX4_answerComes_39 rfl (lv_at hl 3 rfl) ?_
    refine lv_iadd hx hb dX4_answerComes_40 ?_
    refine nb_ren (y := nI (6 * c + j)) (nI_add _ _) ?_
    refine rb_ald (n := 36) (f := ar 2) (x := ar 2 (6 * c + j)) S wb 2 (by decide) rfl 0 rfl (6 * c + j) (by omega) (by decide) rfl dX4_answerComes_41 ?_
    refine rb_ast (E' := mE ad cI th n st mn (va_up ar 2 (upd (ar 2) (6 * c + j) (ar 2 (6 * c + j))))) (n := 36) (f := ar 2) S wb 2 (by decide) rfl 0 rfl (6 * c + j) (by omega) (by decide) (m12 rfl rfl rfl rfl rfl rfl rfl rfl rfl rfl rfl rfl) dX4_answerComes_42 (fun H locs wb => ?_)
    refine lv_iload hx hb dX4_answerComes_43 (lv_at hl 4 rfl) ?_
    refine lv_aload_n hx hb dX4_answerComes_45 rfl (lv_at hl 0 rfl) ?_
    refine rb_get S wb 0 (by decide) rfl rfl in4 10 (by decide) bw_472 rfl dX4_answerComes_46 ?_
    refine lv_iload_n hx hb dX4_answerComes_49 rfl (lv_at hl 2 rfl) ?_
    refine rb_ald (n := 6) (f := ar 8) (x := ar 8 c) S wb 8 (by decide) rfl 0 rfl c (by omega) (by decide) rfl dX4_answerComes_50 ?_
    refine lv_icmp_eq (tgt := 55) hx hb dX4_answerComes_51 (by decide) (fun h51 => ?_) (fun h51 => ?_)
    · refine lv_iload_n hx hb dX4_answerComes_55 rfl (lv_at hl 1 rfl) ?_
      refine lv_iconst (v := nI 1) hx hb dX4_answerComes_56 (by decide) ?_
      refine lv_icmp_ne (tgt := 89) hx hb dX4_answerComes_57 (by decide) (fun h57 => ?_) (fun h57 => ?_)
      · refine lv_aload_n hx hb dX4_answerComes_89 rfl (lv_at hl 0 rfl) ?_
        refine rb_get S wb 0 (by decide) rfl rfl in4 8 (by decide) bw_470 rfl dX4_answerComes_90 ?_
        refine lv_iload_n hx hb dX4_answerComes_93 rfl (lv_at hl 2 rfl) ?_
        refine lv_iconst (v := nI 0) hx hb dX4_answerComes_94 (by decide) ?_
        refine rb_ast (E' := mE ad cI th n st mn (va_up (va_up ar 2 (upd (ar 2) (6 * c + j) (ar 2 (6 * c + j)))) 6 (upd (ar 6) c (nI 0)))) (n := 6) (f := ar 6) S wb 6 (by decide) rfl 0 rfl c (by omega) (by decide) (m12 rfl rfl rfl rfl rfl rfl rfl rfl rfl rfl rfl rfl) dX4_answerComes_95 (fun H locs wb => ?_)
        refine lv_aload_n hx hb dX4_answerComes_96 rfl (lv_at hl 0 rfl) ?_
        refine rb_get S wb 0 (by decide) rfl rfl in4 9 (by decide) bw_471 rfl dX4_answerComes_97 ?_
        refine lv_iload_n hx hb dX4_answerComes_100 rfl (lv_at hl 2 rfl) ?_
        refine lv_iconst (v := (-1)) hx hb dX4_answerComes_101 (by decide) ?_
        refine rb_ast (E' := mE ad cI th n st mn (va_up (va_up (va_up ar 2 (upd (ar 2) (6 * c + j) (ar 2 (6 * c + j)))) 6 (upd (ar 6) c (nI 0))) 7 (upd (ar 7) c (-1)))) (n := 6) (f := ar 7) S wb 7 (by decide) rfl 0 rfl c (by omega) (by decide) (m12 rfl rfl rfl rfl rfl rfl rfl rfl rfl rfl rfl rfl) dX4_answerComes_102 (fun H locs wb => ?_)
        exact rb_vret S hr hlk hQ wb (by first | (rw [ansC_0 h51]; exact (m12 rfl rfl (inl_eq (congrArg (upd (ar 2) (6 * c + j)) (if_neg (Int32.not_lt.mpr h23)).symm)) rfl rfl rfl rfl rfl rfl rfl rfl rfl)) | (rw [ansC_1 h51 h57]; exact (m12 rfl rfl (inl_eq (congrArg (upd (ar 2) (6 * c + j)) (if_neg (Int32.not_lt.mpr h23)).symm)) rfl rfl rfl (inl_eq (congrArg (upd (ar 6) c) (if_neg h72).symm)) rfl rfl rfl rfl rfl)) | (rw [ansC_1 h51 h57]; exact (m12 rfl rfl (inl_eq (congrArg (upd (ar 2) (6 * c + j)) (if_neg (Int32.not_lt.mpr h23)).symm)) rfl rfl rfl (inl_eq (congrArg (upd (ar 6) c) (if_pos h72).symm)) rfl rfl rfl rfl rfl)) | (rw [ansC_2 h51 h57]; exact (m12 rfl rfl (inl_eq (congrArg (upd (ar 2) (6 * c + j)) (if_neg (Int32.not_lt.mpr h23)).symm)) rfl rfl rfl rfl rfl rfl rfl rfl rfl)) | (rw [ansC_0 h51]; exact (m12 rfl rfl (inl_eq (congrArg (upd (ar 2) (6 * c + j)) (if_pos (Int32.not_le.mp h23)).symm)) rfl rfl rfl rfl rfl rfl rfl rfl rfl)) | (rw [ansC_1 h51 h57]; exact (m12 rfl rfl (inl_eq (congrArg (upd (ar 2) (6 * c + j)) (if_pos (Int32.not_le.mp h23)).symm)) rfl rfl rfl (inl_eq (congrArg (upd (ar 6) c) (if_neg h72).symm)) rfl rfl rfl rfl rfl)) | (rw [ansC_1 h51 h57]; exact (m12 rfl rfl (inl_eq (congrArg (upd (ar 2) (6 * c + j)) (if_pos (Int32.not_le.mp h23)).symm)) rfl rfl rfl (inl_eq (congrArg (upd (ar 6) c) (if_pos h72).symm)) rfl rfl rfl rfl rfl)) | (rw [ansC_2 h51 h57]; exact (m12 rfl rfl (inl_eq (congrArg (upd (ar 2) (6 * c + j)) (if_pos (Int32.not_le.mp h23)).symm)) rfl rfl rfl rfl rfl rfl rfl rfl rfl))) dX4_answerComes_103
      · refine lv_aload_n hx hb dX4_answerComes_60 rfl (lv_at hl 0 rfl) ?_
        refine rb_get S wb 0 (by decide) rfl rfl in4 8 (by decide) bw_470 rfl dX4_answerComes_61 ?_
        refine lv_iload_n hx hb dX4_answerComes_64 rfl (lv_at hl 2 rfl) ?_
        refine lv_aload_n hx hb dX4_answerComes_65 rfl (lv_at hl 0 rfl) ?_
        refine rb_get S wb 0 (by decide) rfl rfl in4 8 (by decide) bw_470 rfl dX4_answerComes_66 ?_
        refine lv_iload_n hx hb dX4_answerComes_69 rfl (lv_at hl 2 rfl) ?_
        refine rb_ald (n := 6) (f := ar 6) (x := ar 6 c) S wb 6 (by decide) rfl 0 rfl c (by omega) (by decide) rfl dX4_answerComes_70 ?_
        refine lv_iconst (v := nI 1) hx hb dX4_answerComes_71 (by decide) ?_
        refine lv_icmp_ne (tgt := 79) hx hb dX4_answerComes_72 (by decide) (fun h72 => ?_) (fun h72 => ?_)
        · refine lv_aload_n hx hb dX4_answerComes_79 rfl (lv_at hl 0 rfl) ?_
          refine rb_get S wb 0 (by decide) rfl rfl in4 8 (by decide) bw_470 rfl dX4_answerComes_80 ?_
          refine lv_iload_n hx hb dX4_answerComes_83 rfl (lv_at hl 2 rfl) ?_
          refine rb_ald (n := 6) (f := ar 6) (x := ar 6 c) S wb 6 (by decide) rfl 0 rfl c (by omega) (by decide) rfl dX4_answerComes_84 ?_
          refine rb_ast (E' := mE ad cI th n st mn (va_up (va_up ar 2 (upd (ar 2) (6 * c + j) (ar 2 (6 * c + j)))) 6 (upd (ar 6) c (ar 6 c)))) (n := 6) (f := ar 6) S wb 6 (by decide) rfl 0 rfl c (by omega) (by decide) (m12 rfl rfl rfl rfl rfl rfl rfl rfl rfl rfl rfl rfl) dX4_answerComes_85 (fun H locs wb => ?_)
          refine lv_goto (tgt := 103) hx hb dX4_answerComes_86 (by decide) ?_
          exact rb_vret S hr hlk hQ wb (by first | (rw [ansC_0 h51]; exact (m12 rfl rfl (inl_eq (congrArg (upd (ar 2) (6 * c + j)) (if_neg (Int32.not_lt.mpr h23)).symm)) rfl rfl rfl rfl rfl rfl rfl rfl rfl)) | (rw [ansC_1 h51 h57]; exact (m12 rfl rfl (inl_eq (congrArg (upd (ar 2) (6 * c + j)) (if_neg (Int32.not_lt.mpr h23)).symm)) rfl rfl rfl (inl_eq (congrArg (upd (ar 6) c) (if_neg h72).symm)) rfl rfl rfl rfl rfl)) | (rw [ansC_1 h51 h57]; exact (m12 rfl rfl (inl_eq (congrArg (upd (ar 2) (6 * c + j)) (if_neg (Int32.not_lt.mpr h23)).symm)) rfl rfl rfl (inl_eq (congrArg (upd (ar 6) c) (if_pos h72).symm)) rfl rfl rfl rfl rfl)) | (rw [ansC_2 h51 h57]; exact (m12 rfl rfl (inl_eq (congrArg (upd (ar 2) (6 * c + j)) (if_neg (Int32.not_lt.mpr h23)).symm)) rfl rfl rfl rfl rfl rfl rfl rfl rfl)) | (rw [ansC_0 h51]; exact (m12 rfl rfl (inl_eq (congrArg (upd (ar 2) (6 * c + j)) (if_pos (Int32.not_le.mp h23)).symm)) rfl rfl rfl rfl rfl rfl rfl rfl rfl)) | (rw [ansC_1 h51 h57]; exact (m12 rfl rfl (inl_eq (congrArg (upd (ar 2) (6 * c + j)) (if_pos (Int32.not_le.mp h23)).symm)) rfl rfl rfl (inl_eq (congrArg (upd (ar 6) c) (if_neg h72).symm)) rfl rfl rfl rfl rfl)) | (rw [ansC_1 h51 h57]; exact (m12 rfl rfl (inl_eq (congrArg (upd (ar 2) (6 * c + j)) (if_pos (Int32.not_le.mp h23)).symm)) rfl rfl rfl (inl_eq (congrArg (upd (ar 6) c) (if_pos h72).symm)) rfl rfl rfl rfl rfl)) | (rw [ansC_2 h51 h57]; exact (m12 rfl rfl (inl_eq (congrArg (upd (ar 2) (6 * c + j)) (if_pos (Int32.not_le.mp h23)).symm)) rfl rfl rfl rfl rfl rfl rfl rfl rfl))) dX4_answerComes_103
        · refine lv_iconst (v := nI 2) hx hb dX4_answerComes_75 (by decide) ?_
          refine lv_goto (tgt := 85) hx hb dX4_answerComes_76 (by decide) ?_
          refine rb_ast (E' := mE ad cI th n st mn (va_up (va_up ar 2 (upd (ar 2) (6 * c + j) (ar 2 (6 * c + j)))) 6 (upd (ar 6) c (nI 2)))) (n := 6) (f := ar 6) S wb 6 (by decide) rfl 0 rfl c (by omega) (by decide) (m12 rfl rfl rfl rfl rfl rfl rfl rfl rfl rfl rfl rfl) dX4_answerComes_85 (fun H locs wb => ?_)
          refine lv_goto (tgt := 103) hx hb dX4_answerComes_86 (by decide) ?_
          exact rb_vret S hr hlk hQ wb (by first | (rw [ansC_0 h51]; exact (m12 rfl rfl (inl_eq (congrArg (upd (ar 2) (6 * c + j)) (if_neg (Int32.not_lt.mpr h23)).symm)) rfl rfl rfl rfl rfl rfl rfl rfl rfl)) | (rw [ansC_1 h51 h57]; exact (m12 rfl rfl (inl_eq (congrArg (upd (ar 2) (6 * c + j)) (if_neg (Int32.not_lt.mpr h23)).symm)) rfl rfl rfl (inl_eq (congrArg (upd (ar 6) c) (if_neg h72).symm)) rfl rfl rfl rfl rfl)) | (rw [ansC_1 h51 h57]; exact (m12 rfl rfl (inl_eq (congrArg (upd (ar 2) (6 * c + j)) (if_neg (Int32.not_lt.mpr h23)).symm)) rfl rfl rfl (inl_eq (congrArg (upd (ar 6) c) (if_pos h72).symm)) rfl rfl rfl rfl rfl)) | (rw [ansC_2 h51 h57]; exact (m12 rfl rfl (inl_eq (congrArg (upd (ar 2) (6 * c + j)) (if_neg (Int32.not_lt.mpr h23)).symm)) rfl rfl rfl rfl rfl rfl rfl rfl rfl)) | (rw [ansC_0 h51]; exact (m12 rfl rfl (inl_eq (congrArg (upd (ar 2) (6 * c + j)) (if_pos (Int32.not_le.mp h23)).symm)) rfl rfl rfl rfl rfl rfl rfl rfl rfl)) | (rw [ansC_1 h51 h57]; exact (m12 rfl rfl (inl_eq (congrArg (upd (ar 2) (6 * c + j)) (if_pos (Int32.not_le.mp h23)).symm)) rfl rfl rfl (inl_eq (congrArg (upd (ar 6) c) (if_neg h72).symm)) rfl rfl rfl rfl rfl)) | (rw [ansC_1 h51 h57]; exact (m12 rfl rfl (inl_eq (congrArg (upd (ar 2) (6 * c + j)) (if_pos (Int32.not_le.mp h23)).symm)) rfl rfl rfl (inl_eq (congrArg (upd (ar 6) c) (if_pos h72).symm)) rfl rfl rfl rfl rfl)) | (rw [ansC_2 h51 h57]; exact (m12 rfl rfl (inl_eq (congrArg (upd (ar 2) (6 * c + j)) (if_pos (Int32.not_le.mp h23)).symm)) rfl rfl rfl rfl rfl rfl rfl rfl rfl))) dX4_answerComes_103
    · exact rb_vret S hr hlk hQ wb (by first | (rw [ansC_0 h51]; exact (m12 rfl rfl (inl_eq (congrArg (upd (ar 2) (6 * c + j)) (if_neg (Int32.not_lt.mpr h23)).symm)) rfl rfl rfl rfl rfl rfl rfl rfl rfl)) | (rw [ansC_1 h51 h57]; exact (m12 rfl rfl (inl_eq (congrArg (upd (ar 2) (6 * c + j)) (if_neg (Int32.not_lt.mpr h23)).symm)) rfl rfl rfl (inl_eq (congrArg (upd (ar 6) c) (if_neg h72).symm)) rfl rfl rfl rfl rfl)) | (rw [ansC_1 h51 h57]; exact (m12 rfl rfl (inl_eq (congrArg (upd (ar 2) (6 * c + j)) (if_neg (Int32.not_lt.mpr h23)).symm)) rfl rfl rfl (inl_eq (congrArg (upd (ar 6) c) (if_pos h72).symm)) rfl rfl rfl rfl rfl)) | (rw [ansC_2 h51 h57]; exact (m12 rfl rfl (inl_eq (congrArg (upd (ar 2) (6 * c + j)) (if_neg (Int32.not_lt.mpr h23)).symm)) rfl rfl rfl rfl rfl rfl rfl rfl rfl)) | (rw [ansC_0 h51]; exact (m12 rfl rfl (inl_eq (congrArg (upd (ar 2) (6 * c + j)) (if_pos (Int32.not_le.mp h23)).symm)) rfl rfl rfl rfl rfl rfl rfl rfl rfl)) | (rw [ansC_1 h51 h57]; exact (m12 rfl rfl (inl_eq (congrArg (upd (ar 2) (6 * c + j)) (if_pos (Int32.not_le.mp h23)).symm)) rfl rfl rfl (inl_eq (congrArg (upd (ar 6) c) (if_neg h72).symm)) rfl rfl rfl rfl rfl)) | (rw [ansC_1 h51 h57]; exact (m12 rfl rfl (inl_eq (congrArg (upd (ar 2) (6 * c + j)) (if_pos (Int32.not_le.mp h23)).symm)) rfl rfl rfl (inl_eq (congrArg (upd (ar 6) c) (if_pos h72).symm)) rfl rfl rfl rfl rfl)) | (rw [ansC_2 h51 h57]; exact (m12 rfl rfl (inl_eq (congrArg (upd (ar 2) (6 * c + j)) (if_pos (Int32.not_le.mp h23)).symm)) rfl rfl rfl rfl rfl rfl rfl rfl rfl))) dX4_answerComes_54
  · refine lv_iload hx hb dX4_answerComes_26 (lv_at hl 5 rfl) ?_
    refine lv_goto (tgt := 42) hx hb dX4_answerComes_28 (by decide) ?_
    refine rb_ast (E' := mE ad cI th n st mn (va_up ar 2 (upd (ar 2) (6 * c + j) a))) (n := 36) (f := ar 2) S wb 2 (by decide) rfl 0 rfl (6 * c + j) (by omega) (by decide) (m12 rfl rfl rfl rfl rfl rfl rfl rfl rfl rfl rfl rfl) dX4_answerComes_42 (fun H locs wb => ?_)
    refine lv_iload hx hb dX4_answerComes_43 (lv_at hl 4 rfl) ?_
    refine lv_aload_n hx hb dX4_answerComes_45 rfl (lv_at hl 0 rfl) ?_
    refine rb_get S wb 0 (by decide) rfl rfl in4 10 (by decide) bw_472 rfl dX4_answerComes_46 ?_
    refine lv_iload_n hx hb dX4_answerComes_49 rfl (lv_at hl 2 rfl) ?_
    refine rb_ald (n := 6) (f := ar 8) (x := ar 8 c) S wb 8 (by decide) rfl 0 rfl c (by omega) (by decide) rfl dX4_answerComes_50 ?_
    refine lv_icmp_eq (tgt := 55) hx hb dX4_answerComes_51 (by decide) (fun h51 => ?_) (fun h51 => ?_)
    · refine lv_iload_n hx hb dX4_answerComes_55 rfl (lv_at hl 1 rfl) ?_
      refine lv_iconst (v := nI 1) hx hb dX4_answerComes_56 (by decide) ?_
      refine lv_icmp_ne (tgt := 89) hx hb dX4_answerComes_57 (by decide) (fun h57 => ?_) (fun h57 => ?_)
      · refine lv_aload_n hx hb dX4_answerComes_89 rfl (lv_at hl 0 rfl) ?_
        refine rb_get S wb 0 (by decide) rfl rfl in4 8 (by decide) bw_470 rfl dX4_answerComes_90 ?_
        refine lv_iload_n hx hb dX4_answerComes_93 rfl (lv_at hl 2 rfl) ?_
        refine lv_iconst (v := nI 0) hx hb dX4_answerComes_94 (by decide) ?_
        refine rb_ast (E' := mE ad cI th n st mn (va_up (va_up ar 2 (upd (ar 2) (6 * c + j) a)) 6 (upd (ar 6) c (nI 0)))) (n := 6) (f := ar 6) S wb 6 (by decide) rfl 0 rfl c (by omega) (by decide) (m12 rfl rfl rfl rfl rfl rfl rfl rfl rfl rfl rfl rfl) dX4_answerComes_95 (fun H locs wb => ?_)
        refine lv_aload_n hx hb dX4_answerComes_96 rfl (lv_at hl 0 rfl) ?_
        refine rb_get S wb 0 (by decide) rfl rfl in4 9 (by decide) bw_471 rfl dX4_answerComes_97 ?_
        refine lv_iload_n hx hb dX4_answerComes_100 rfl (lv_at hl 2 rfl) ?_
        refine lv_iconst (v := (-1)) hx hb dX4_answerComes_101 (by decide) ?_
        refine rb_ast (E' := mE ad cI th n st mn (va_up (va_up (va_up ar 2 (upd (ar 2) (6 * c + j) a)) 6 (upd (ar 6) c (nI 0))) 7 (upd (ar 7) c (-1)))) (n := 6) (f := ar 7) S wb 7 (by decide) rfl 0 rfl c (by omega) (by decide) (m12 rfl rfl rfl rfl rfl rfl rfl rfl rfl rfl rfl rfl) dX4_answerComes_102 (fun H locs wb => ?_)
        exact rb_vret S hr hlk hQ wb (by first | (rw [ansC_0 h51]; exact (m12 rfl rfl (inl_eq (congrArg (upd (ar 2) (6 * c + j)) (if_neg (Int32.not_lt.mpr h23)).symm)) rfl rfl rfl rfl rfl rfl rfl rfl rfl)) | (rw [ansC_1 h51 h57]; exact (m12 rfl rfl (inl_eq (congrArg (upd (ar 2) (6 * c + j)) (if_neg (Int32.not_lt.mpr h23)).symm)) rfl rfl rfl (inl_eq (congrArg (upd (ar 6) c) (if_neg h72).symm)) rfl rfl rfl rfl rfl)) | (rw [ansC_1 h51 h57]; exact (m12 rfl rfl (inl_eq (congrArg (upd (ar 2) (6 * c + j)) (if_neg (Int32.not_lt.mpr h23)).symm)) rfl rfl rfl (inl_eq (congrArg (upd (ar 6) c) (if_pos h72).symm)) rfl rfl rfl rfl rfl)) | (rw [ansC_2 h51 h57]; exact (m12 rfl rfl (inl_eq (congrArg (upd (ar 2) (6 * c + j)) (if_neg (Int32.not_lt.mpr h23)).symm)) rfl rfl rfl rfl rfl rfl rfl rfl rfl)) | (rw [ansC_0 h51]; exact (m12 rfl rfl (inl_eq (congrArg (upd (ar 2) (6 * c + j)) (if_pos (Int32.not_le.mp h23)).symm)) rfl rfl rfl rfl rfl rfl rfl rfl rfl)) | (rw [ansC_1 h51 h57]; exact (m12 rfl rfl (inl_eq (congrArg (upd (ar 2) (6 * c + j)) (if_pos (Int32.not_le.mp h23)).symm)) rfl rfl rfl (inl_eq (congrArg (upd (ar 6) c) (if_neg h72).symm)) rfl rfl rfl rfl rfl)) | (rw [ansC_1 h51 h57]; exact (m12 rfl rfl (inl_eq (congrArg (upd (ar 2) (6 * c + j)) (if_pos (Int32.not_le.mp h23)).symm)) rfl rfl rfl (inl_eq (congrArg (upd (ar 6) c) (if_pos h72).symm)) rfl rfl rfl rfl rfl)) | (rw [ansC_2 h51 h57]; exact (m12 rfl rfl (inl_eq (congrArg (upd (ar 2) (6 * c + j)) (if_pos (Int32.not_le.mp h23)).symm)) rfl rfl rfl rfl rfl rfl rfl rfl rfl))) dX4_answerComes_103
      · refine lv_aload_n hx hb dX4_answerComes_60 rfl (lv_at hl 0 rfl) ?_
        refine rb_get S wb 0 (by decide) rfl rfl in4 8 (by decide) bw_470 rfl dX4_answerComes_61 ?_
        refine lv_iload_n hx hb dX4_answerComes_64 rfl (lv_at hl 2 rfl) ?_
        refine lv_aload_n hx hb dX4_answerComes_65 rfl (lv_at hl 0 rfl) ?_
        refine rb_get S wb 0 (by decide) rfl rfl in4 8 (by decide) bw_470 rfl dX4_answerComes_66 ?_
        refine lv_iload_n hx hb dX4_answerComes_69 rfl (lv_at hl 2 rfl) ?_
        refine rb_ald (n := 6) (f := ar 6) (x := ar 6 c) S wb 6 (by decide) rfl 0 rfl c (by omega) (by decide) rfl dX4_answerComes_70 ?_
        refine lv_iconst (v := nI 1) hx hb dX4_answerComes_71 (by decide) ?_
        refine lv_icmp_ne (tgt := 79) hx hb dX4_answerComes_72 (by decide) (fun h72 => ?_) (fun h72 => ?_)
        · refine lv_aload_n hx hb dX4_answerComes_79 rfl (lv_at hl 0 rfl) ?_
          refine rb_get S wb 0 (by decide) rfl rfl in4 8 (by decide) bw_470 rfl dX4_answerComes_80 ?_
          refine lv_iload_n hx hb dX4_answerComes_83 rfl (lv_at hl 2 rfl) ?_
          refine rb_ald (n := 6) (f := ar 6) (x := ar 6 c) S wb 6 (by decide) rfl 0 rfl c (by omega) (by decide) rfl dX4_answerComes_84 ?_
          refine rb_ast (E' := mE ad cI th n st mn (va_up (va_up ar 2 (upd (ar 2) (6 * c + j) a)) 6 (upd (ar 6) c (ar 6 c)))) (n := 6) (f := ar 6) S wb 6 (by decide) rfl 0 rfl c (by omega) (by decide) (m12 rfl rfl rfl rfl rfl rfl rfl rfl rfl rfl rfl rfl) dX4_answerComes_85 (fun H locs wb => ?_)
          refine lv_goto (tgt := 103) hx hb dX4_answerComes_86 (by decide) ?_
          exact rb_vret S hr hlk hQ wb (by first | (rw [ansC_0 h51]; exact (m12 rfl rfl (inl_eq (congrArg (upd (ar 2) (6 * c + j)) (if_neg (Int32.not_lt.mpr h23)).symm)) rfl rfl rfl rfl rfl rfl rfl rfl rfl)) | (rw [ansC_1 h51 h57]; exact (m12 rfl rfl (inl_eq (congrArg (upd (ar 2) (6 * c + j)) (if_neg (Int32.not_lt.mpr h23)).symm)) rfl rfl rfl (inl_eq (congrArg (upd (ar 6) c) (if_neg h72).symm)) rfl rfl rfl rfl rfl)) | (rw [ansC_1 h51 h57]; exact (m12 rfl rfl (inl_eq (congrArg (upd (ar 2) (6 * c + j)) (if_neg (Int32.not_lt.mpr h23)).symm)) rfl rfl rfl (inl_eq (congrArg (upd (ar 6) c) (if_pos h72).symm)) rfl rfl rfl rfl rfl)) | (rw [ansC_2 h51 h57]; exact (m12 rfl rfl (inl_eq (congrArg (upd (ar 2) (6 * c + j)) (if_neg (Int32.not_lt.mpr h23)).symm)) rfl rfl rfl rfl rfl rfl rfl rfl rfl)) | (rw [ansC_0 h51]; exact (m12 rfl rfl (inl_eq (congrArg (upd (ar 2) (6 * c + j)) (if_pos (Int32.not_le.mp h23)).symm)) rfl rfl rfl rfl rfl rfl rfl rfl rfl)) | (rw [ansC_1 h51 h57]; exact (m12 rfl rfl (inl_eq (congrArg (upd (ar 2) (6 * c + j)) (if_pos (Int32.not_le.mp h23)).symm)) rfl rfl rfl (inl_eq (congrArg (upd (ar 6) c) (if_neg h72).symm)) rfl rfl rfl rfl rfl)) | (rw [ansC_1 h51 h57]; exact (m12 rfl rfl (inl_eq (congrArg (upd (ar 2) (6 * c + j)) (if_pos (Int32.not_le.mp h23)).symm)) rfl rfl rfl (inl_eq (congrArg (upd (ar 6) c) (if_pos h72).symm)) rfl rfl rfl rfl rfl)) | (rw [ansC_2 h51 h57]; exact (m12 rfl rfl (inl_eq (congrArg (upd (ar 2) (6 * c + j)) (if_pos (Int32.not_le.mp h23)).symm)) rfl rfl rfl rfl rfl rfl rfl rfl rfl))) dX4_answerComes_103
        · refine lv_iconst (v := nI 2) hx hb dX4_answerComes_75 (by decide) ?_
          refine lv_goto (tgt := 85) hx hb dX4_answerComes_76 (by decide) ?_
          refine rb_ast (E' := mE ad cI th n st mn (va_up (va_up ar 2 (upd (ar 2) (6 * c + j) a)) 6 (upd (ar 6) c (nI 2)))) (n := 6) (f := ar 6) S wb 6 (by decide) rfl 0 rfl c (by omega) (by decide) (m12 rfl rfl rfl rfl rfl rfl rfl rfl rfl rfl rfl rfl) dX4_answerComes_85 (fun H locs wb => ?_)
          refine lv_goto (tgt := 103) hx hb dX4_answerComes_86 (by decide) ?_
          exact rb_vret S hr hlk hQ wb (by first | (rw [ansC_0 h51]; exact (m12 rfl rfl (inl_eq (congrArg (upd (ar 2) (6 * c + j)) (if_neg (Int32.not_lt.mpr h23)).symm)) rfl rfl rfl rfl rfl rfl rfl rfl rfl)) | (rw [ansC_1 h51 h57]; exact (m12 rfl rfl (inl_eq (congrArg (upd (ar 2) (6 * c + j)) (if_neg (Int32.not_lt.mpr h23)).symm)) rfl rfl rfl (inl_eq (congrArg (upd (ar 6) c) (if_neg h72).symm)) rfl rfl rfl rfl rfl)) | (rw [ansC_1 h51 h57]; exact (m12 rfl rfl (inl_eq (congrArg (upd (ar 2) (6 * c + j)) (if_neg (Int32.not_lt.mpr h23)).symm)) rfl rfl rfl (inl_eq (congrArg (upd (ar 6) c) (if_pos h72).symm)) rfl rfl rfl rfl rfl)) | (rw [ansC_2 h51 h57]; exact (m12 rfl rfl (inl_eq (congrArg (upd (ar 2) (6 * c + j)) (if_neg (Int32.not_lt.mpr h23)).symm)) rfl rfl rfl rfl rfl rfl rfl rfl rfl)) | (rw [ansC_0 h51]; exact (m12 rfl rfl (inl_eq (congrArg (upd (ar 2) (6 * c + j)) (if_pos (Int32.not_le.mp h23)).symm)) rfl rfl rfl rfl rfl rfl rfl rfl rfl)) | (rw [ansC_1 h51 h57]; exact (m12 rfl rfl (inl_eq (congrArg (upd (ar 2) (6 * c + j)) (if_pos (Int32.not_le.mp h23)).symm)) rfl rfl rfl (inl_eq (congrArg (upd (ar 6) c) (if_neg h72).symm)) rfl rfl rfl rfl rfl)) | (rw [ansC_1 h51 h57]; exact (m12 rfl rfl (inl_eq (congrArg (upd (ar 2) (6 * c + j)) (if_pos (Int32.not_le.mp h23)).symm)) rfl rfl rfl (inl_eq (congrArg (upd (ar 6) c) (if_pos h72).symm)) rfl rfl rfl rfl rfl)) | (rw [ansC_2 h51 h57]; exact (m12 rfl rfl (inl_eq (congrArg (upd (ar 2) (6 * c + j)) (if_pos (Int32.not_le.mp h23)).symm)) rfl rfl rfl rfl rfl rfl rfl rfl rfl))) dX4_answerComes_103
    · exact rb_vret S hr hlk hQ wb (by first | (rw [ansC_0 h51]; exact (m12 rfl rfl (inl_eq (congrArg (upd (ar 2) (6 * c + j)) (if_neg (Int32.not_lt.mpr h23)).symm)) rfl rfl rfl rfl rfl rfl rfl rfl rfl)) | (rw [ansC_1 h51 h57]; exact (m12 rfl rfl (inl_eq (congrArg (upd (ar 2) (6 * c + j)) (if_neg (Int32.not_lt.mpr h23)).symm)) rfl rfl rfl (inl_eq (congrArg (upd (ar 6) c) (if_neg h72).symm)) rfl rfl rfl rfl rfl)) | (rw [ansC_1 h51 h57]; exact (m12 rfl rfl (inl_eq (congrArg (upd (ar 2) (6 * c + j)) (if_neg (Int32.not_lt.mpr h23)).symm)) rfl rfl rfl (inl_eq (congrArg (upd (ar 6) c) (if_pos h72).symm)) rfl rfl rfl rfl rfl)) | (rw [ansC_2 h51 h57]; exact (m12 rfl rfl (inl_eq (congrArg (upd (ar 2) (6 * c + j)) (if_neg (Int32.not_lt.mpr h23)).symm)) rfl rfl rfl rfl rfl rfl rfl rfl rfl)) | (rw [ansC_0 h51]; exact (m12 rfl rfl (inl_eq (congrArg (upd (ar 2) (6 * c + j)) (if_pos (Int32.not_le.mp h23)).symm)) rfl rfl rfl rfl rfl rfl rfl rfl rfl)) | (rw [ansC_1 h51 h57]; exact (m12 rfl rfl (inl_eq (congrArg (upd (ar 2) (6 * c + j)) (if_pos (Int32.not_le.mp h23)).symm)) rfl rfl rfl (inl_eq (congrArg (upd (ar 6) c) (if_neg h72).symm)) rfl rfl rfl rfl rfl)) | (rw [ansC_1 h51 h57]; exact (m12 rfl rfl (inl_eq (congrArg (upd (ar 2) (6 * c + j)) (if_pos (Int32.not_le.mp h23)).symm)) rfl rfl rfl (inl_eq (congrArg (upd (ar 6) c) (if_pos h72).symm)) rfl rfl rfl rfl rfl)) | (rw [ansC_2 h51 h57]; exact (m12 rfl rfl (inl_eq (congrArg (upd (ar 2) (6 * c + j)) (if_pos (Int32.not_le.mp h23)).symm)) rfl rfl rfl rfl rfl rfl rfl rfl rfl))) dX4_answerComes_54

set_option maxHeartbeats 4000000 in
set_option maxRecDepth 100000 in
theorem m_deliver_x1 (l : Launch) (D : va_G) (cI cC cD : ClassId) (ad : Nat → Nat) (th : Int32) (n : Nat) (st : Int32) (mn : Nat) (ar : Nat → Nat → Int32) (x : Int32) (hx0 : x < 0 ∨ nI mn ≤ x) : RM l yX4_deliver cX4_deliver 7 (some .int) ({ frames := 2, cells := 0, slots := 0, locals := 51 }) D (ty3 cI cC cD) EN0 [.ref (ad 0), .int x] ad 12 (mE ad cI th n st mn ar) (mE ad cI (nI 1) n st mn ar) (some (.int (nI 0))) := by
  refine RM.of (by decide) (Nat.le_of_ble_eq_true rfl) ?_
  intro p e s m below meth c0 A ls args Q0 S hr hlk hQ wb hl
  have hx := S.1
  have hb := S.2.1
  have hl : lv_has ls 7 [(0, .ref (ad 0)), (1, .int x)] := hl
  refine lv_aload_n hx hb dX4_deliver_0 rfl (lv_at hl 0 rfl) ?_
  refine lv_aload_n hx hb dX4_deliver_1 rfl (lv_at hl 0 rfl) ?_
  refine lv_iload_n hx hb dX4_deliver_2 rfl (lv_at hl 1 rfl) ?_
  refine rb_callV S wb EN0_ok (m_noLetter_t l D cI cC cD ad th n st mn ar x (nI 1) (tells_t hx0)) (bw5 bw_544 bw_546 bw_26 bw_37 bw_547) (rb_recv wb 0 (by decide) rfl rfl) hdX4_noLetter rfl ⟨rfl, rfl⟩ ⟨by decide, by decide⟩ hl.1 (Nat.le_of_ble_eq_true rfl) ⟨Nat.zero_le _, Nat.zero_le _⟩ (rest := [.ref (ad 0)]) (st1 := [.int (nI 1), .ref (ad 0)]) rfl rfl dX4_deliver_3 (fun H locs wb => ?_)
  refine lv_if_eq (tgt := 13) hx hb dX4_deliver_6 (by decide) (fun h6 => absurd h6 (by decide)) (fun h6 => ?_)
  refine lv_iconst (v := nI 1) hx hb dX4_deliver_9 (by decide) ?_
  refine lv_goto (tgt := 14) hx hb dX4_deliver_10 (by decide) ?_
  refine rb_put (E' := mE ad cI (nI 1) n st mn ar) S wb 0 (by decide) rfl rfl in4 tyX4 tyX4_ok nmX4 0 (by decide) bw_462 rfl rfl rfl (Nat.le_of_ble_eq_true rfl) (m12 rfl rfl rfl rfl rfl rfl rfl rfl rfl rfl rfl rfl) dX4_deliver_14 (fun H locs wb => ?_)
  refine lv_aload_n hx hb dX4_deliver_17 rfl (lv_at hl 0 rfl) ?_
  refine rb_get S wb 0 (by decide) rfl rfl in4 0 (by decide) bw_462 rfl dX4_deliver_18 ?_
  refine lv_if_eq (tgt := 26) hx hb dX4_deliver_21 (by decide) (fun h21 => absurd h21 (by decide)) (fun h21 => ?_)
  refine lv_iconst (v := nI 0) hx hb dX4_deliver_24 (by decide) ?_
  exact rb_iret S hr hlk hQ rfl wb (m12 rfl rfl rfl rfl rfl rfl rfl rfl rfl rfl rfl rfl) dX4_deliver_25

set_option maxHeartbeats 4000000 in
set_option maxRecDepth 100000 in
theorem m_deliver_b (l : Launch) (D : va_G) (cI cC cD : ClassId) (ad : Nat → Nat) (th : Int32) (n : Nat) (st : Int32) (mn : Nat) (ar : Nat → Nat → Int32) (i c j : Nat) (hn : n ≤ 6) (hm : mn < 118) (hi : i < mn) (hc : c < n) (hj : j < n) (ec : ar 10 (5 * i + 1) = nI c) (ej : ar 10 (5 * i + 2) = nI j) (hk : ar 10 (5 * i) = 0) : RM l yX4_deliver cX4_deliver 7 (some .int) ({ frames := 2, cells := 0, slots := 0, locals := 51 }) D (ty3 cI cC cD) EN0 [.ref (ad 0), .int (nI i)] ad 12 (mE ad cI th n st mn ar) (mE ad cI (nI 0) n st (bidC st (mn - 1) (va_up ar 10 (dr (ar 10) (5 * i) (5 * (mn - 1)))) c j (ar 10 (5 * i + 3)) (ar 10 (5 * i + 4))).1 (bidC st (mn - 1) (va_up ar 10 (dr (ar 10) (5 * i) (5 * (mn - 1)))) c j (ar 10 (5 * i + 3)) (ar 10 (5 * i + 4))).2) (some (.int (ar 10 (5 * i)))) := by
  refine RM.of (by decide) (Nat.le_of_ble_eq_true rfl) ?_
  intro p e s m below meth c0 A ls args Q0 S hr hlk hQ wb hl
  have hx := S.1
  have hb := S.2.1
  have hl : lv_has ls 7 [(0, .ref (ad 0)), (1, .int (nI i))] := hl
  refine lv_aload_n hx hb dX4_deliver_0 rfl (lv_at hl 0 rfl) ?_
  refine lv_aload_n hx hb dX4_deliver_1 rfl (lv_at hl 0 rfl) ?_
  refine lv_iload_n hx hb dX4_deliver_2 rfl (lv_at hl 1 rfl) ?_
  refine rb_callV S wb EN0_ok (m_noLetter_t l D cI cC cD ad th n st mn ar (nI i) (nI 0) (tells_f (no_f hi (by omega)))) (bw5 bw_544 bw_546 bw_26 bw_37 bw_547) (rb_recv wb 0 (by decide) rfl rfl) hdX4_noLetter rfl ⟨rfl, rfl⟩ ⟨by decide, by decide⟩ hl.1 (Nat.le_of_ble_eq_true rfl) ⟨Nat.zero_le _, Nat.zero_le _⟩ (rest := [.ref (ad 0)]) (st1 := [.int (nI 0), .ref (ad 0)]) rfl rfl dX4_deliver_3 (fun H locs wb => ?_)
  refine lv_if_eq (tgt := 13) hx hb dX4_deliver_6 (by decide) (fun h6 => ?_) (fun h6 => absurd (by decide) h6)
  refine lv_iconst (v := nI 0) hx hb dX4_deliver_13 (by decide) ?_
  refine rb_put (E' := mE ad cI (nI 0) n st mn ar) S wb 0 (by decide) rfl rfl in4 tyX4 tyX4_ok nmX4 0 (by decide) bw_462 rfl rfl rfl (Nat.le_of_ble_eq_true rfl) (m12 rfl rfl rfl rfl rfl rfl rfl rfl rfl rfl rfl rfl) dX4_deliver_14 (fun H locs wb => ?_)
  refine lv_aload_n hx hb dX4_deliver_17 rfl (lv_at hl 0 rfl) ?_
  refine rb_get S wb 0 (by decide) rfl rfl in4 0 (by decide) bw_462 rfl dX4_deliver_18 ?_
  refine lv_if_eq (tgt := 26) hx hb dX4_deliver_21 (by decide) (fun h21 => ?_) (fun h21 => absurd (by decide) h21)
  refine lv_aload_n hx hb dX4_deliver_26 rfl (lv_at hl 0 rfl) ?_
  refine rb_get S wb 0 (by decide) rfl rfl in4 13 (by decide) bw_475 rfl dX4_deliver_27 ?_
  refine lv_iconst (v := nI 5) hx hb dX4_deliver_30 (by decide) ?_
  refine lv_iload_n hx hb dX4_deliver_31 rfl (lv_at hl 1 rfl) ?_
  refine lv_imul hx hb dX4_deliver_32 ?_
  refine nb_ren (y := nI (5 * i)) (pk_mul _ _) ?_
  refine rb_ald (n := 600) (f := ar 10) (x := ar 10 (5 * i)) S wb 10 (by decide) rfl 0 rfl (5 * i) (by omega) (by decide) rfl dX4_deliver_33 ?_
  refine lv_istore_n (lv' := [(2, .int (ar 10 (5 * i))), (0, .ref (ad 0)), (1, .int (nI i))]) hx hb dX4_deliver_34 rfl hl (by decide) rfl (fun ls hl => ?_)
  refine lv_aload_n hx hb dX4_deliver_35 rfl (lv_at hl 1 rfl) ?_
  refine rb_get S wb 0 (by decide) rfl rfl in4 13 (by decide) bw_475 rfl dX4_deliver_36 ?_
  refine lv_iconst (v := nI 5) hx hb dX4_deliver_39 (by decide) ?_
  refine lv_iload_n hx hb dX4_deliver_40 rfl (lv_at hl 2 rfl) ?_
  refine lv_imul hx hb dX4_deliver_41 ?_
  refine nb_ren (y := nI (5 * i)) (pk_mul _ _) ?_
  refine lv_iconst (v := nI 1) hx hb dX4_deliver_42 (by decide) ?_
  refine lv_iadd hx hb dX4_deliver_43 ?_
  refine nb_ren (y := nI (5 * i + 1)) (nI_add _ _) ?_
  refine rb_ald (n := 600) (f := ar 10) (x := ar 10 (5 * i + 1)) S wb 10 (by decide) rfl 0 rfl (5 * i + 1) (by omega) (by decide) rfl dX4_deliver_44 ?_
  refine nb_ren (y := nI c) ec ?_
  refine lv_istore_n (lv' := [(3, .int (nI c)), (2, .int (ar 10 (5 * i))), (0, .ref (ad 0)), (1, .int (nI i))]) hx hb dX4_deliver_45 rfl hl (by decide) rfl (fun ls hl => ?_)
  refine lv_aload_n hx hb dX4_deliver_46 rfl (lv_at hl 2 rfl) ?_
  refine rb_get S wb 0 (by decide) rfl rfl in4 13 (by decide) bw_475 rfl dX4_deliver_47 ?_
  refine lv_iconst (v := nI 5) hx hb dX4_deliver_50 (by decide) ?_
  refine lv_iload_n hx hb dX4_deliver_51 rfl (lv_at hl 3 rfl) ?_
  refine lv_imul hx hb dX4_deliver_52 ?_
  refine nb_ren (y := nI (5 * i)) (pk_mul _ _) ?_
  refine lv_iconst (v := nI 2) hx hb dX4_deliver_53 (by decide) ?_
  refine lv_iadd hx hb dX4_deliver_54 ?_
  refine nb_ren (y := nI (5 * i + 2)) (nI_add _ _) ?_
  refine rb_ald (n := 600) (f := ar 10) (x := ar 10 (5 * i + 2)) S wb 10 (by decide) rfl 0 rfl (5 * i + 2) (by omega) (by decide) rfl dX4_deliver_55 ?_
  refine nb_ren (y := nI j) ej ?_
  refine lv_istore (lv' := [(4, .int (nI j)), (3, .int (nI c)), (2, .int (ar 10 (5 * i))), (0, .ref (ad 0)), (1, .int (nI i))]) hx hb dX4_deliver_56 hl (by decide) rfl (fun ls hl => ?_)
  refine lv_aload_n hx hb dX4_deliver_58 rfl (lv_at hl 3 rfl) ?_
  refine rb_get S wb 0 (by decide) rfl rfl in4 13 (by decide) bw_475 rfl dX4_deliver_59 ?_
  refine lv_iconst (v := nI 5) hx hb dX4_deliver_62 (by decide) ?_
  refine lv_iload_n hx hb dX4_deliver_63 rfl (lv_at hl 4 rfl) ?_
  refine lv_imul hx hb dX4_deliver_64 ?_
  refine nb_ren (y := nI (5 * i)) (pk_mul _ _) ?_
  refine lv_iconst (v := nI 3) hx hb dX4_deliver_65 (by decide) ?_
  refine lv_iadd hx hb dX4_deliver_66 ?_
  refine nb_ren (y := nI (5 * i + 3)) (nI_add _ _) ?_
  refine rb_ald (n := 600) (f := ar 10) (x := ar 10 (5 * i + 3)) S wb 10 (by decide) rfl 0 rfl (5 * i + 3) (by omega) (by decide) rfl dX4_deliver_67 ?_
  refine lv_istore (lv' := [(5, .int (ar 10 (5 * i + 3))), (4, .int (nI j)), (3, .int (nI c)), (2, .int (ar 10 (5 * i))), (0, .ref (ad 0)), (1, .int (nI i))]) hx hb dX4_deliver_68 hl (by decide) rfl (fun ls hl => ?_)
  refine lv_aload_n hx hb dX4_deliver_70 rfl (lv_at hl 4 rfl) ?_
  refine rb_get S wb 0 (by decide) rfl rfl in4 13 (by decide) bw_475 rfl dX4_deliver_71 ?_
  refine lv_iconst (v := nI 5) hx hb dX4_deliver_74 (by decide) ?_
  refine lv_iload_n hx hb dX4_deliver_75 rfl (lv_at hl 5 rfl) ?_
  refine lv_imul hx hb dX4_deliver_76 ?_
  refine nb_ren (y := nI (5 * i)) (pk_mul _ _) ?_
  refine lv_iconst (v := nI 4) hx hb dX4_deliver_77 (by decide) ?_
  refine lv_iadd hx hb dX4_deliver_78 ?_
  refine nb_ren (y := nI (5 * i + 4)) (nI_add _ _) ?_
  refine rb_ald (n := 600) (f := ar 10) (x := ar 10 (5 * i + 4)) S wb 10 (by decide) rfl 0 rfl (5 * i + 4) (by omega) (by decide) rfl dX4_deliver_79 ?_
  refine lv_istore (lv' := [(6, .int (ar 10 (5 * i + 4))), (5, .int (ar 10 (5 * i + 3))), (4, .int (nI j)), (3, .int (nI c)), (2, .int (ar 10 (5 * i))), (0, .ref (ad 0)), (1, .int (nI i))]) hx hb dX4_deliver_80 hl (by decide) rfl (fun ls hl => ?_)
  refine lv_aload_n hx hb dX4_deliver_82 rfl (lv_at hl 5 rfl) ?_
  refine lv_iload_n hx hb dX4_deliver_83 rfl (lv_at hl 6 rfl) ?_
  refine rb_callV S wb EN0_ok (m_drop l D cI cC cD ad (nI 0) n st mn ar i (by omega) (by omega)) (bw5 bw_548 bw_550 bw_27 bw_37 bw_551) (rb_recv wb 0 (by decide) rfl rfl) hdX4_drop rfl ⟨rfl, rfl⟩ ⟨by decide, by decide⟩ hl.1 (Nat.le_of_ble_eq_true rfl) ⟨Nat.zero_le _, Nat.zero_le _⟩ (rest := []) (st1 := []) rfl rfl dX4_deliver_84 (fun H locs wb => ?_)
  refine lv_iload_n hx hb dX4_deliver_87 rfl (lv_at hl 4 rfl) ?_
  refine lv_if_ne (tgt := 105) hx hb dX4_deliver_88 (by decide) (fun h88 => absurd hk h88) (fun h88 => ?_)
  refine lv_aload_n hx hb dX4_deliver_91 rfl (lv_at hl 5 rfl) ?_
  refine lv_iload_n hx hb dX4_deliver_92 rfl (lv_at hl 3 rfl) ?_
  refine lv_iload hx hb dX4_deliver_93 (lv_at hl 2 rfl) ?_
  refine lv_iload hx hb dX4_deliver_95 (lv_at hl 1 rfl) ?_
  refine lv_iload hx hb dX4_deliver_97 (lv_at hl 0 rfl) ?_
  refine rb_callV S wb EN0_ok (m_bidComes l D cI cC cD ad (nI 0) n st (mn - 1) (va_up ar 10 (dr (ar 10) (5 * i) (5 * (mn - 1)))) c j (ar 10 (5 * i + 3)) (ar 10 (5 * i + 4)) (by omega) (by omega) (by omega)) (bw5 bw_552 bw_554 bw_28 bw_37 bw_555) (rb_recv wb 0 (by decide) rfl rfl) hdX4_bidComes rfl ⟨rfl, rfl⟩ ⟨by decide, by decide⟩ hl.1 (Nat.le_of_ble_eq_true rfl) ⟨Nat.zero_le _, Nat.zero_le _⟩ (rest := []) (st1 := []) rfl rfl dX4_deliver_99 (fun H locs wb => ?_)
  refine lv_goto (tgt := 117) hx hb dX4_deliver_102 (by decide) ?_
  refine lv_iload_n hx hb dX4_deliver_117 rfl (lv_at hl 4 rfl) ?_
  exact rb_iret S hr hlk hQ rfl wb (fun _ _ => rfl) dX4_deliver_118

set_option maxHeartbeats 4000000 in
set_option maxRecDepth 100000 in
theorem m_deliver_a (l : Launch) (D : va_G) (cI cC cD : ClassId) (ad : Nat → Nat) (th : Int32) (n : Nat) (st : Int32) (mn : Nat) (ar : Nat → Nat → Int32) (i c j : Nat) (hn : n ≤ 6) (hm : mn < 118) (hi : i < mn) (hc : c < n) (hj : j < n) (ec : ar 10 (5 * i + 1) = nI c) (ej : ar 10 (5 * i + 2) = nI j) (hk : ¬ ar 10 (5 * i) = 0) : RM l yX4_deliver cX4_deliver 7 (some .int) ({ frames := 2, cells := 0, slots := 0, locals := 51 }) D (ty3 cI cC cD) EN0 [.ref (ad 0), .int (nI i)] ad 12 (mE ad cI th n st mn ar) (mE ad cI (nI 0) n st (mn - 1) (ansC (va_up ar 10 (dr (ar 10) (5 * i) (5 * (mn - 1)))) (ar 10 (5 * i)) c j (ar 10 (5 * i + 3)) (ar 10 (5 * i + 4)))) (some (.int (ar 10 (5 * i)))) := by
  refine RM.of (by decide) (Nat.le_of_ble_eq_true rfl) ?_
  intro p e s m below meth c0 A ls args Q0 S hr hlk hQ wb hl
  have hx := S.1
  have hb := S.2.1
  have hl : lv_has ls 7 [(0, .ref (ad 0)), (1, .int (nI i))] := hl
  refine lv_aload_n hx hb dX4_deliver_0 rfl (lv_at hl 0 rfl) ?_
  refine lv_aload_n hx hb dX4_deliver_1 rfl (lv_at hl 0 rfl) ?_
  refine lv_iload_n hx hb dX4_deliver_2 rfl (lv_at hl 1 rfl) ?_
  refine rb_callV S wb EN0_ok (m_noLetter_t l D cI cC cD ad th n st mn ar (nI i) (nI 0) (tells_f (no_f hi (by omega)))) (bw5 bw_544 bw_546 bw_26 bw_37 bw_547) (rb_recv wb 0 (by decide) rfl rfl) hdX4_noLetter rfl ⟨rfl, rfl⟩ ⟨by decide, by decide⟩ hl.1 (Nat.le_of_ble_eq_true rfl) ⟨Nat.zero_le _, Nat.zero_le _⟩ (rest := [.ref (ad 0)]) (st1 := [.int (nI 0), .ref (ad 0)]) rfl rfl dX4_deliver_3 (fun H locs wb => ?_)
  refine lv_if_eq (tgt := 13) hx hb dX4_deliver_6 (by decide) (fun h6 => ?_) (fun h6 => absurd (by decide) h6)
  refine lv_iconst (v := nI 0) hx hb dX4_deliver_13 (by decide) ?_
  refine rb_put (E' := mE ad cI (nI 0) n st mn ar) S wb 0 (by decide) rfl rfl in4 tyX4 tyX4_ok nmX4 0 (by decide) bw_462 rfl rfl rfl (Nat.le_of_ble_eq_true rfl) (m12 rfl rfl rfl rfl rfl rfl rfl rfl rfl rfl rfl rfl) dX4_deliver_14 (fun H locs wb => ?_)
  refine lv_aload_n hx hb dX4_deliver_17 rfl (lv_at hl 0 rfl) ?_
  refine rb_get S wb 0 (by decide) rfl rfl in4 0 (by decide) bw_462 rfl dX4_deliver_18 ?_
  refine lv_if_eq (tgt := 26) hx hb dX4_deliver_21 (by decide) (fun h21 => ?_) (fun h21 => absurd (by decide) h21)
  refine lv_aload_n hx hb dX4_deliver_26 rfl (lv_at hl 0 rfl) ?_
  refine rb_get S wb 0 (by decide) rfl rfl in4 13 (by decide) bw_475 rfl dX4_deliver_27 ?_
  refine lv_iconst (v := nI 5) hx hb dX4_deliver_30 (by decide) ?_
  refine lv_iload_n hx hb dX4_deliver_31 rfl (lv_at hl 1 rfl) ?_
  refine lv_imul hx hb dX4_deliver_32 ?_
  refine nb_ren (y := nI (5 * i)) (pk_mul _ _) ?_
  refine rb_ald (n := 600) (f := ar 10) (x := ar 10 (5 * i)) S wb 10 (by decide) rfl 0 rfl (5 * i) (by omega) (by decide) rfl dX4_deliver_33 ?_
  refine lv_istore_n (lv' := [(2, .int (ar 10 (5 * i))), (0, .ref (ad 0)), (1, .int (nI i))]) hx hb dX4_deliver_34 rfl hl (by decide) rfl (fun ls hl => ?_)
  refine lv_aload_n hx hb dX4_deliver_35 rfl (lv_at hl 1 rfl) ?_
  refine rb_get S wb 0 (by decide) rfl rfl in4 13 (by decide) bw_475 rfl dX4_deliver_36 ?_
  refine lv_iconst (v := nI 5) hx hb dX4_deliver_39 (by decide) ?_
  refine lv_iload_n hx hb dX4_deliver_40 rfl (lv_at hl 2 rfl) ?_
  refine lv_imul hx hb dX4_deliver_41 ?_
  refine nb_ren (y := nI (5 * i)) (pk_mul _ _) ?_
  refine lv_iconst (v := nI 1) hx hb dX4_deliver_42 (by decide) ?_
  refine lv_iadd hx hb dX4_deliver_43 ?_
  refine nb_ren (y := nI (5 * i + 1)) (nI_add _ _) ?_
  refine rb_ald (n := 600) (f := ar 10) (x := ar 10 (5 * i + 1)) S wb 10 (by decide) rfl 0 rfl (5 * i + 1) (by omega) (by decide) rfl dX4_deliver_44 ?_
  refine nb_ren (y := nI c) ec ?_
  refine lv_istore_n (lv' := [(3, .int (nI c)), (2, .int (ar 10 (5 * i))), (0, .ref (ad 0)), (1, .int (nI i))]) hx hb dX4_deliver_45 rfl hl (by decide) rfl (fun ls hl => ?_)
  refine lv_aload_n hx hb dX4_deliver_46 rfl (lv_at hl 2 rfl) ?_
  refine rb_get S wb 0 (by decide) rfl rfl in4 13 (by decide) bw_475 rfl dX4_deliver_47 ?_
  refine lv_iconst (v := nI 5) hx hb dX4_deliver_50 (by decide) ?_
  refine lv_iload_n hx hb dX4_deliver_51 rfl (lv_at hl 3 rfl) ?_
  refine lv_imul hx hb dX4_deliver_52 ?_
  refine nb_ren (y := nI (5 * i)) (pk_mul _ _) ?_
  refine lv_iconst (v := nI 2) hx hb dX4_deliver_53 (by decide) ?_
  refine lv_iadd hx hb dX4_deliver_54 ?_
  refine nb_ren (y := nI (5 * i + 2)) (nI_add _ _) ?_
  refine rb_ald (n := 600) (f := ar 10) (x := ar 10 (5 * i + 2)) S wb 10 (by decide) rfl 0 rfl (5 * i + 2) (by omega) (by decide) rfl dX4_deliver_55 ?_
  refine nb_ren (y := nI j) ej ?_
  refine lv_istore (lv' := [(4, .int (nI j)), (3, .int (nI c)), (2, .int (ar 10 (5 * i))), (0, .ref (ad 0)), (1, .int (nI i))]) hx hb dX4_deliver_56 hl (by decide) rfl (fun ls hl => ?_)
  refine lv_aload_n hx hb dX4_deliver_58 rfl (lv_at hl 3 rfl) ?_
  refine rb_get S wb 0 (by decide) rfl rfl in4 13 (by decide) bw_475 rfl dX4_deliver_59 ?_
  refine lv_iconst (v := nI 5) hx hb dX4_deliver_62 (by decide) ?_
  refine lv_iload_n hx hb dX4_deliver_63 rfl (lv_at hl 4 rfl) ?_
  refine lv_imul hx hb dX4_deliver_64 ?_
  refine nb_ren (y := nI (5 * i)) (pk_mul _ _) ?_
  refine lv_iconst (v := nI 3) hx hb dX4_deliver_65 (by decide) ?_
  refine lv_iadd hx hb dX4_deliver_66 ?_
  refine nb_ren (y := nI (5 * i + 3)) (nI_add _ _) ?_
  refine rb_ald (n := 600) (f := ar 10) (x := ar 10 (5 * i + 3)) S wb 10 (by decide) rfl 0 rfl (5 * i + 3) (by omega) (by decide) rfl dX4_deliver_67 ?_
  refine lv_istore (lv' := [(5, .int (ar 10 (5 * i + 3))), (4, .int (nI j)), (3, .int (nI c)), (2, .int (ar 10 (5 * i))), (0, .ref (ad 0)), (1, .int (nI i))]) hx hb dX4_deliver_68 hl (by decide) rfl (fun ls hl => ?_)
  refine lv_aload_n hx hb dX4_deliver_70 rfl (lv_at hl 4 rfl) ?_
  refine rb_get S wb 0 (by decide) rfl rfl in4 13 (by decide) bw_475 rfl dX4_deliver_71 ?_
  refine lv_iconst (v := nI 5) hx hb dX4_deliver_74 (by decide) ?_
  refine lv_iload_n hx hb dX4_deliver_75 rfl (lv_at hl 5 rfl) ?_
  refine lv_imul hx hb dX4_deliver_76 ?_
  refine nb_ren (y := nI (5 * i)) (pk_mul _ _) ?_
  refine lv_iconst (v := nI 4) hx hb dX4_deliver_77 (by decide) ?_
  refine lv_iadd hx hb dX4_deliver_78 ?_
  refine nb_ren (y := nI (5 * i + 4)) (nI_add _ _) ?_
  refine rb_ald (n := 600) (f := ar 10) (x := ar 10 (5 * i + 4)) S wb 10 (by decide) rfl 0 rfl (5 * i + 4) (by omega) (by decide) rfl dX4_deliver_79 ?_
  refine lv_istore (lv' := [(6, .int (ar 10 (5 * i + 4))), (5, .int (ar 10 (5 * i + 3))), (4, .int (nI j)), (3, .int (nI c)), (2, .int (ar 10 (5 * i))), (0, .ref (ad 0)), (1, .int (nI i))]) hx hb dX4_deliver_80 hl (by decide) rfl (fun ls hl => ?_)
  refine lv_aload_n hx hb dX4_deliver_82 rfl (lv_at hl 5 rfl) ?_
  refine lv_iload_n hx hb dX4_deliver_83 rfl (lv_at hl 6 rfl) ?_
  refine rb_callV S wb EN0_ok (m_drop l D cI cC cD ad (nI 0) n st mn ar i (by omega) (by omega)) (bw5 bw_548 bw_550 bw_27 bw_37 bw_551) (rb_recv wb 0 (by decide) rfl rfl) hdX4_drop rfl ⟨rfl, rfl⟩ ⟨by decide, by decide⟩ hl.1 (Nat.le_of_ble_eq_true rfl) ⟨Nat.zero_le _, Nat.zero_le _⟩ (rest := []) (st1 := []) rfl rfl dX4_deliver_84 (fun H locs wb => ?_)
  refine lv_iload_n hx hb dX4_deliver_87 rfl (lv_at hl 4 rfl) ?_
  refine lv_if_ne (tgt := 105) hx hb dX4_deliver_88 (by decide) (fun h88 => ?_) (fun h88 => absurd h88 hk)
  refine lv_aload_n hx hb dX4_deliver_105 rfl (lv_at hl 5 rfl) ?_
  refine lv_iload_n hx hb dX4_deliver_106 rfl (lv_at hl 4 rfl) ?_
  refine lv_iload_n hx hb dX4_deliver_107 rfl (lv_at hl 3 rfl) ?_
  refine lv_iload hx hb dX4_deliver_108 (lv_at hl 2 rfl) ?_
  refine lv_iload hx hb dX4_deliver_110 (lv_at hl 1 rfl) ?_
  refine lv_iload hx hb dX4_deliver_112 (lv_at hl 0 rfl) ?_
  refine rb_callV S wb EN0_ok (m_answerComes l D cI cC cD ad (nI 0) n st (mn - 1) (va_up ar 10 (dr (ar 10) (5 * i) (5 * (mn - 1)))) (ar 10 (5 * i)) c j (ar 10 (5 * i + 3)) (ar 10 (5 * i + 4)) (by omega) (by omega)) (bw5 bw_556 bw_558 bw_29 bw_37 bw_559) (rb_recv wb 0 (by decide) rfl rfl) hdX4_answerComes rfl ⟨rfl, rfl⟩ ⟨by decide, by decide⟩ hl.1 (Nat.le_of_ble_eq_true rfl) ⟨Nat.zero_le _, Nat.zero_le _⟩ (rest := []) (st1 := []) rfl rfl dX4_deliver_114 (fun H locs wb => ?_)
  refine lv_iload_n hx hb dX4_deliver_117 rfl (lv_at hl 4 rfl) ?_
  exact rb_iret S hr hlk hQ rfl wb (fun _ _ => rfl) dX4_deliver_118

set_option maxHeartbeats 4000000 in
set_option maxRecDepth 100000 in
theorem m_worth_x1a (l : Launch) (D : va_G) (cI cC cD : ClassId) (ad : Nat → Nat) (th : Int32) (n : Nat) (st : Int32) (mn : Nat) (ar : Nat → Nat → Int32) (x y z : Int32) (hn : n ≤ 6) (hT : HT ar n) (hx0 : x < 0 ∨ nI n ≤ x) : RM l yX4_worth cX4_worth 6 none ({ frames := 1, cells := 0, slots := 0, locals := 23 }) D (ty3 cI cC cD) EN0 [.ref (ad 0), .int x, .int y, .int z] ad 12 (mE ad cI th n st mn ar) (mE ad cI (nI 1) n st mn ar) none := by
  refine RM.of (by decide) (Nat.le_of_ble_eq_true rfl) ?_
  intro p e s m below meth c0 A ls args Q0 S hr hlk hQ wb hl
  have hx := S.1
  have hb := S.2.1
  have hl : lv_has ls 6 [(0, .ref (ad 0)), (1, .int x), (2, .int y), (3, .int z)] := hl
  refine lv_iconst (v := nI 0) hx hb dX4_worth_0 (by decide) ?_
  refine lv_istore (lv' := [(4, .int (nI 0)), (0, .ref (ad 0)), (1, .int x), (2, .int y), (3, .int z)]) hx hb dX4_worth_1 hl (by decide) rfl (fun ls hl => ?_)
  refine lv_iconst (v := nI 0) hx hb dX4_worth_3 (by decide) ?_
  refine lv_istore (lv' := [(5, .int (nI 0)), (4, .int (nI 0)), (0, .ref (ad 0)), (1, .int x), (2, .int y), (3, .int z)]) hx hb dX4_worth_4 hl (by decide) rfl (fun ls hl => ?_)
  have L6 : ∀ (fuel : Nat) (k : Nat) (v : Int32) (hkn : k ≤ n) (hfu : n < k + fuel) (hv : tells v (SB ar k)) (H : Heap) (locs : List Loc) (wb : WB D (ty3 cI cC cD) EN0 ad 12 A s (mE ad cI th n st mn ar) H locs) (ls : Array Slot) (hl : lv_has ls 6 [(0, .ref (ad 0)), (1, .int x), (2, .int y), (3, .int z), (4, .int v), (5, .int (nI k))]), W p l e ({ frames := 1, cells := 0, slots := 0, locals := 23 }) s m args below meth c0 H locs 0 0 Q0 (F0 m 6 ls []) := by
    intro fuel
    induction fuel with
    | zero => intro k v hkn hfu hv H locs wb ls hl; exact absurd hfu (by omega)
    | succ fuel ih =>
      intro k v hkn hfu hv H locs wb ls hl
      refine lv_iload hx hb dX4_worth_6 (lv_at hl 5 rfl) ?_
      refine lv_aload_n hx hb dX4_worth_8 rfl (lv_at hl 0 rfl) ?_
      refine rb_get S wb 0 (by decide) rfl rfl in4 1 (by decide) bw_463 rfl dX4_worth_9 ?_
      refine nb_icmp_ge (tgt := 43) hx hb dX4_worth_12 (by decide) (by omega) (by omega) (fun h12 => ?_) (fun h12 => ?_)
      · have hke : k = n := by omega
        rw [hke] at hv
        have L65 : ∀ (v5 : Int32) (hv5 : tells v5 (st = nI 1 ∧ stl ar n)) (H : Heap) (locs : List Loc) (wb : WB D (ty3 cI cC cD) EN0 ad 12 A s (mE ad cI th n st mn ar) H locs) (ls : Array Slot) (hl : lv_has ls 6 [(0, .ref (ad 0)), (1, .int x), (2, .int y), (3, .int z), (4, .int v), (5, .int v5)]), W p l e ({ frames := 1, cells := 0, slots := 0, locals := 23 }) s m args below meth c0 H locs 0 0 Q0 (F0 m 65 ls []) := by
            intro v5 hv5 H locs wb ls hl
            refine lv_aload_n hx hb dX4_worth_65 rfl (lv_at hl 0 rfl) ?_
            refine lv_aload_n hx hb dX4_worth_66 rfl (lv_at hl 0 rfl) ?_
            refine lv_iload_n hx hb dX4_worth_67 rfl (lv_at hl 1 rfl) ?_
            refine rb_callV S wb EN0_ok (m_no_t l D cI cC cD ad th n st mn ar x (nI 1) (tells_t hx0)) (bw5 bw_520 bw_522 bw_23 bw_37 bw_523) (rb_recv wb 0 (by decide) rfl rfl) hdX4_no rfl ⟨rfl, rfl⟩ ⟨by decide, by decide⟩ hl.1 (Nat.le_of_ble_eq_true rfl) ⟨Nat.zero_le _, Nat.zero_le _⟩ (rest := [.ref (ad 0)]) (st1 := [.int (nI 1), .ref (ad 0)]) rfl rfl dX4_worth_68 (fun H locs wb => ?_)
            refine lv_if_ne (tgt := 93) hx hb dX4_worth_71 (by decide) (fun h71 => ?_) (fun h71 => absurd h71 (by decide))
            refine lv_iconst (v := nI 1) hx hb dX4_worth_93 (by decide) ?_
            refine lv_goto (tgt := 112) hx hb dX4_worth_94 (by decide) ?_
            refine rb_put (E' := mE ad cI (nI 1) n st mn ar) S wb 0 (by decide) rfl rfl in4 tyX4 tyX4_ok nmX4 0 (by decide) bw_462 rfl rfl rfl (Nat.le_of_ble_eq_true rfl) (m12 rfl rfl rfl rfl rfl rfl rfl rfl rfl rfl rfl rfl) dX4_worth_112 (fun H locs wb => ?_)
            refine lv_aload_n hx hb dX4_worth_115 rfl (lv_at hl 0 rfl) ?_
            refine rb_get S wb 0 (by decide) rfl rfl in4 0 (by decide) bw_462 rfl dX4_worth_116 ?_
            refine lv_if_eq (tgt := 123) hx hb dX4_worth_119 (by decide) (fun h119 => absurd h119 (by decide)) (fun h119 => ?_)
            exact rb_vret S hr hlk hQ wb (m12 rfl rfl rfl rfl rfl rfl rfl rfl rfl rfl rfl rfl) dX4_worth_122
        refine lv_aload_n hx hb dX4_worth_43 rfl (lv_at hl 0 rfl) ?_
        refine rb_get S wb 0 (by decide) rfl rfl in4 2 (by decide) bw_464 rfl dX4_worth_44 ?_
        refine lv_iconst (v := nI 1) hx hb dX4_worth_47 (by decide) ?_
        refine lv_icmp_ne (tgt := 62) hx hb dX4_worth_48 (by decide) (fun h48 => ?_) (fun h48 => ?_)
        · refine lv_iconst (v := nI 0) hx hb dX4_worth_62 (by decide) ?_
          refine lv_istore (lv' := [(5, .int (nI 0)), (0, .ref (ad 0)), (1, .int x), (2, .int y), (3, .int z), (4, .int v)]) hx hb dX4_worth_63 hl (by decide) rfl (fun ls hl => ?_)
          exact L65 (nI 0) (by first | exact tells_f (fun q => h48 q.1) | exact tells_f (fun q => tells_F hrs h55 q.2) | exact tells_t ⟨h48, tells_T hrs h55⟩) _ _ wb ls (lv_sub hl [1, 2, 3, 4, 5, 0] rfl)
        · refine lv_aload_n hx hb dX4_worth_51 rfl (lv_at hl 0 rfl) ?_
          obtain ⟨rs, hrs⟩ := tells_ex (stl ar n)
          refine rb_callV S wb EN0_ok (m_isSettled l D cI cC cD ad th n st mn ar hn hT rs hrs) (bw5 bw_516 bw_518 bw_22 bw_37 bw_519) (rb_recv wb 0 (by decide) rfl rfl) hdX4_isSettled rfl ⟨rfl, rfl⟩ ⟨by decide, by decide⟩ hl.1 (Nat.le_of_ble_eq_true rfl) ⟨Nat.zero_le _, Nat.zero_le _⟩ (rest := []) (st1 := [.int rs]) rfl rfl dX4_worth_52 (fun H locs wb => ?_)
          refine lv_if_eq (tgt := 62) hx hb dX4_worth_55 (by decide) (fun h55 => ?_) (fun h55 => ?_)
          · refine lv_iconst (v := nI 0) hx hb dX4_worth_62 (by decide) ?_
            refine lv_istore (lv' := [(5, .int (nI 0)), (0, .ref (ad 0)), (1, .int x), (2, .int y), (3, .int z), (4, .int v)]) hx hb dX4_worth_63 hl (by decide) rfl (fun ls hl => ?_)
            exact L65 (nI 0) (by first | exact tells_f (fun q => h48 q.1) | exact tells_f (fun q => tells_F hrs h55 q.2) | exact tells_t ⟨h48, tells_T hrs h55⟩) _ _ wb ls (lv_sub hl [1, 2, 3, 4, 5, 0] rfl)
          · refine lv_iconst (v := nI 1) hx hb dX4_worth_58 (by decide) ?_
            refine lv_goto (tgt := 63) hx hb dX4_worth_59 (by decide) ?_
            refine lv_istore (lv' := [(5, .int (nI 1)), (0, .ref (ad 0)), (1, .int x), (2, .int y), (3, .int z), (4, .int v)]) hx hb dX4_worth_63 hl (by decide) rfl (fun ls hl => ?_)
            exact L65 (nI 1) (by first | exact tells_f (fun q => h48 q.1) | exact tells_f (fun q => tells_F hrs h55 q.2) | exact tells_t ⟨h48, tells_T hrs h55⟩) _ _ wb ls (lv_sub hl [1, 2, 3, 4, 5, 0] rfl)
      · refine lv_iload hx hb dX4_worth_15 (lv_at hl 4 rfl) ?_
        refine lv_if_ne (tgt := 30) hx hb dX4_worth_17 (by decide) (fun h17 => ?_) (fun h17 => ?_)
        · refine lv_iconst (v := nI 1) hx hb dX4_worth_30 (by decide) ?_
          refine lv_goto (tgt := 35) hx hb dX4_worth_31 (by decide) ?_
          refine lv_istore (lv' := [(4, .int (nI 1)), (0, .ref (ad 0)), (1, .int x), (2, .int y), (3, .int z), (5, .int (nI k))]) hx hb dX4_worth_35 hl (by decide) rfl (fun ls hl => ?_)
          refine lv_iinc (v := nI (k + 1)) (lv' := [(5, .int (nI (k + 1))), (4, .int (nI 1)), (0, .ref (ad 0)), (1, .int x), (2, .int y), (3, .int z)]) hx hb dX4_worth_37 hl (k := 5) rfl (nI_s1 _) (by decide) rfl (fun ls hl => ?_)
          refine lv_goto (tgt := 6) hx hb dX4_worth_40 (by decide) ?_
          exact ih (k + 1) (nI 1) (by omega) (by omega) (by first | exact tells_t (SB_1 (tells_T hv h17)) | exact tells_t (SB_2 h27) | exact tells_f (SB_3 (tells_F hv h17) h27)) _ _ wb ls (lv_sub hl [2, 3, 4, 5, 1, 0] rfl)
        · refine lv_aload_n hx hb dX4_worth_20 rfl (lv_at hl 0 rfl) ?_
          refine rb_get S wb 0 (by decide) rfl rfl in4 10 (by decide) bw_472 rfl dX4_worth_21 ?_
          refine lv_iload hx hb dX4_worth_24 (lv_at hl 5 rfl) ?_
          refine rb_ald (n := 6) (f := ar 8) (x := ar 8 k) S wb 8 (by decide) rfl 0 rfl k (by omega) (by decide) rfl dX4_worth_26 ?_
          refine lv_if_le (tgt := 34) hx hb dX4_worth_27 (by decide) (fun h27 => ?_) (fun h27 => ?_)
          · refine lv_iconst (v := nI 0) hx hb dX4_worth_34 (by decide) ?_
            refine lv_istore (lv' := [(4, .int (nI 0)), (0, .ref (ad 0)), (1, .int x), (2, .int y), (3, .int z), (5, .int (nI k))]) hx hb dX4_worth_35 hl (by decide) rfl (fun ls hl => ?_)
            refine lv_iinc (v := nI (k + 1)) (lv' := [(5, .int (nI (k + 1))), (4, .int (nI 0)), (0, .ref (ad 0)), (1, .int x), (2, .int y), (3, .int z)]) hx hb dX4_worth_37 hl (k := 5) rfl (nI_s1 _) (by decide) rfl (fun ls hl => ?_)
            refine lv_goto (tgt := 6) hx hb dX4_worth_40 (by decide) ?_
            exact ih (k + 1) (nI 0) (by omega) (by omega) (by first | exact tells_t (SB_1 (tells_T hv h17)) | exact tells_t (SB_2 h27) | exact tells_f (SB_3 (tells_F hv h17) h27)) _ _ wb ls (lv_sub hl [2, 3, 4, 5, 1, 0] rfl)
          · refine lv_iconst (v := nI 1) hx hb dX4_worth_30 (by decide) ?_
            refine lv_goto (tgt := 35) hx hb dX4_worth_31 (by decide) ?_
            refine lv_istore (lv' := [(4, .int (nI 1)), (0, .ref (ad 0)), (1, .int x), (2, .int y), (3, .int z), (5, .int (nI k))]) hx hb dX4_worth_35 hl (by decide) rfl (fun ls hl => ?_)
            refine lv_iinc (v := nI (k + 1)) (lv' := [(5, .int (nI (k + 1))), (4, .int (nI 1)), (0, .ref (ad 0)), (1, .int x), (2, .int y), (3, .int z)]) hx hb dX4_worth_37 hl (k := 5) rfl (nI_s1 _) (by decide) rfl (fun ls hl => ?_)
            refine lv_goto (tgt := 6) hx hb dX4_worth_40 (by decide) ?_
            exact ih (k + 1) (nI 1) (by omega) (by omega) (by first | exact tells_t (SB_1 (tells_T hv h17)) | exact tells_t (SB_2 h27) | exact tells_f (SB_3 (tells_F hv h17) h27)) _ _ wb ls (lv_sub hl [2, 3, 4, 5, 1, 0] rfl)
  exact L6 (n + 1) 0 (nI 0) (by omega) (by omega) (tells_f (fun q => by obtain ⟨_, q, _⟩ := q; exact absurd q (Nat.not_lt_zero _))) _ _ wb ls (lv_sub hl [2, 3, 4, 5, 1, 0] rfl)

set_option maxHeartbeats 4000000 in
set_option maxRecDepth 100000 in
theorem m_worth_x1b (l : Launch) (D : va_G) (cI cC cD : ClassId) (ad : Nat → Nat) (th : Int32) (n : Nat) (st : Int32) (mn : Nat) (ar : Nat → Nat → Int32) (x y z : Int32) (hn : n ≤ 6) (hT : HT ar n) (hx0 : ¬ (x < 0 ∨ nI n ≤ x)) (hy0 : y < 0 ∨ nI n ≤ y) : RM l yX4_worth cX4_worth 6 none ({ frames := 1, cells := 0, slots := 0, locals := 23 }) D (ty3 cI cC cD) EN0 [.ref (ad 0), .int x, .int y, .int z] ad 12 (mE ad cI th n st mn ar) (mE ad cI (nI 1) n st mn ar) none := by
  refine RM.of (by decide) (Nat.le_of_ble_eq_true rfl) ?_
  intro p e s m below meth c0 A ls args Q0 S hr hlk hQ wb hl
  have hx := S.1
  have hb := S.2.1
  have hl : lv_has ls 6 [(0, .ref (ad 0)), (1, .int x), (2, .int y), (3, .int z)] := hl
  refine lv_iconst (v := nI 0) hx hb dX4_worth_0 (by decide) ?_
  refine lv_istore (lv' := [(4, .int (nI 0)), (0, .ref (ad 0)), (1, .int x), (2, .int y), (3, .int z)]) hx hb dX4_worth_1 hl (by decide) rfl (fun ls hl => ?_)
  refine lv_iconst (v := nI 0) hx hb dX4_worth_3 (by decide) ?_
  refine lv_istore (lv' := [(5, .int (nI 0)), (4, .int (nI 0)), (0, .ref (ad 0)), (1, .int x), (2, .int y), (3, .int z)]) hx hb dX4_worth_4 hl (by decide) rfl (fun ls hl => ?_)
  have L6 : ∀ (fuel : Nat) (k : Nat) (v : Int32) (hkn : k ≤ n) (hfu : n < k + fuel) (hv : tells v (SB ar k)) (H : Heap) (locs : List Loc) (wb : WB D (ty3 cI cC cD) EN0 ad 12 A s (mE ad cI th n st mn ar) H locs) (ls : Array Slot) (hl : lv_has ls 6 [(0, .ref (ad 0)), (1, .int x), (2, .int y), (3, .int z), (4, .int v), (5, .int (nI k))]), W p l e ({ frames := 1, cells := 0, slots := 0, locals := 23 }) s m args below meth c0 H locs 0 0 Q0 (F0 m 6 ls []) := by
    intro fuel
    induction fuel with
    | zero => intro k v hkn hfu hv H locs wb ls hl; exact absurd hfu (by omega)
    | succ fuel ih =>
      intro k v hkn hfu hv H locs wb ls hl
      refine lv_iload hx hb dX4_worth_6 (lv_at hl 5 rfl) ?_
      refine lv_aload_n hx hb dX4_worth_8 rfl (lv_at hl 0 rfl) ?_
      refine rb_get S wb 0 (by decide) rfl rfl in4 1 (by decide) bw_463 rfl dX4_worth_9 ?_
      refine nb_icmp_ge (tgt := 43) hx hb dX4_worth_12 (by decide) (by omega) (by omega) (fun h12 => ?_) (fun h12 => ?_)
      · have hke : k = n := by omega
        rw [hke] at hv
        have L65 : ∀ (v5 : Int32) (hv5 : tells v5 (st = nI 1 ∧ stl ar n)) (H : Heap) (locs : List Loc) (wb : WB D (ty3 cI cC cD) EN0 ad 12 A s (mE ad cI th n st mn ar) H locs) (ls : Array Slot) (hl : lv_has ls 6 [(0, .ref (ad 0)), (1, .int x), (2, .int y), (3, .int z), (4, .int v), (5, .int v5)]), W p l e ({ frames := 1, cells := 0, slots := 0, locals := 23 }) s m args below meth c0 H locs 0 0 Q0 (F0 m 65 ls []) := by
            intro v5 hv5 H locs wb ls hl
            refine lv_aload_n hx hb dX4_worth_65 rfl (lv_at hl 0 rfl) ?_
            refine lv_aload_n hx hb dX4_worth_66 rfl (lv_at hl 0 rfl) ?_
            refine lv_iload_n hx hb dX4_worth_67 rfl (lv_at hl 1 rfl) ?_
            refine rb_callV S wb EN0_ok (m_no_t l D cI cC cD ad th n st mn ar x (nI 0) (tells_f hx0)) (bw5 bw_520 bw_522 bw_23 bw_37 bw_523) (rb_recv wb 0 (by decide) rfl rfl) hdX4_no rfl ⟨rfl, rfl⟩ ⟨by decide, by decide⟩ hl.1 (Nat.le_of_ble_eq_true rfl) ⟨Nat.zero_le _, Nat.zero_le _⟩ (rest := [.ref (ad 0)]) (st1 := [.int (nI 0), .ref (ad 0)]) rfl rfl dX4_worth_68 (fun H locs wb => ?_)
            refine lv_if_ne (tgt := 93) hx hb dX4_worth_71 (by decide) (fun h71 => absurd (by decide) h71) (fun h71 => ?_)
            refine lv_aload_n hx hb dX4_worth_74 rfl (lv_at hl 0 rfl) ?_
            refine lv_iload_n hx hb dX4_worth_75 rfl (lv_at hl 2 rfl) ?_
            refine rb_callV S wb EN0_ok (m_no_t l D cI cC cD ad th n st mn ar y (nI 1) (tells_t hy0)) (bw5 bw_520 bw_522 bw_23 bw_37 bw_523) (rb_recv wb 0 (by decide) rfl rfl) hdX4_no rfl ⟨rfl, rfl⟩ ⟨by decide, by decide⟩ hl.1 (Nat.le_of_ble_eq_true rfl) ⟨Nat.zero_le _, Nat.zero_le _⟩ (rest := [.ref (ad 0)]) (st1 := [.int (nI 1), .ref (ad 0)]) rfl rfl dX4_worth_76 (fun H locs wb => ?_)
            refine lv_if_ne (tgt := 93) hx hb dX4_worth_79 (by decide) (fun h79 => ?_) (fun h79 => absurd h79 (by decide))
            refine lv_iconst (v := nI 1) hx hb dX4_worth_93 (by decide) ?_
            refine lv_goto (tgt := 112) hx hb dX4_worth_94 (by decide) ?_
            refine rb_put (E' := mE ad cI (nI 1) n st mn ar) S wb 0 (by decide) rfl rfl in4 tyX4 tyX4_ok nmX4 0 (by decide) bw_462 rfl rfl rfl (Nat.le_of_ble_eq_true rfl) (m12 rfl rfl rfl rfl rfl rfl rfl rfl rfl rfl rfl rfl) dX4_worth_112 (fun H locs wb => ?_)
            refine lv_aload_n hx hb dX4_worth_115 rfl (lv_at hl 0 rfl) ?_
            refine rb_get S wb 0 (by decide) rfl rfl in4 0 (by decide) bw_462 rfl dX4_worth_116 ?_
            refine lv_if_eq (tgt := 123) hx hb dX4_worth_119 (by decide) (fun h119 => absurd h119 (by decide)) (fun h119 => ?_)
            exact rb_vret S hr hlk hQ wb (m12 rfl rfl rfl rfl rfl rfl rfl rfl rfl rfl rfl rfl) dX4_worth_122
        refine lv_aload_n hx hb dX4_worth_43 rfl (lv_at hl 0 rfl) ?_
        refine rb_get S wb 0 (by decide) rfl rfl in4 2 (by decide) bw_464 rfl dX4_worth_44 ?_
        refine lv_iconst (v := nI 1) hx hb dX4_worth_47 (by decide) ?_
        refine lv_icmp_ne (tgt := 62) hx hb dX4_worth_48 (by decide) (fun h48 => ?_) (fun h48 => ?_)
        · refine lv_iconst (v := nI 0) hx hb dX4_worth_62 (by decide) ?_
          refine lv_istore (lv' := [(5, .int (nI 0)), (0, .ref (ad 0)), (1, .int x), (2, .int y), (3, .int z), (4, .int v)]) hx hb dX4_worth_63 hl (by decide) rfl (fun ls hl => ?_)
          exact L65 (nI 0) (by first | exact tells_f (fun q => h48 q.1) | exact tells_f (fun q => tells_F hrs h55 q.2) | exact tells_t ⟨h48, tells_T hrs h55⟩) _ _ wb ls (lv_sub hl [1, 2, 3, 4, 5, 0] rfl)
        · refine lv_aload_n hx hb dX4_worth_51 rfl (lv_at hl 0 rfl) ?_
          obtain ⟨rs, hrs⟩ := tells_ex (stl ar n)
          refine rb_callV S wb EN0_ok (m_isSettled l D cI cC cD ad th n st mn ar hn hT rs hrs) (bw5 bw_516 bw_518 bw_22 bw_37 bw_519) (rb_recv wb 0 (by decide) rfl rfl) hdX4_isSettled rfl ⟨rfl, rfl⟩ ⟨by decide, by decide⟩ hl.1 (Nat.le_of_ble_eq_true rfl) ⟨Nat.zero_le _, Nat.zero_le _⟩ (rest := []) (st1 := [.int rs]) rfl rfl dX4_worth_52 (fun H locs wb => ?_)
          refine lv_if_eq (tgt := 62) hx hb dX4_worth_55 (by decide) (fun h55 => ?_) (fun h55 => ?_)
          · refine lv_iconst (v := nI 0) hx hb dX4_worth_62 (by decide) ?_
            refine lv_istore (lv' := [(5, .int (nI 0)), (0, .ref (ad 0)), (1, .int x), (2, .int y), (3, .int z), (4, .int v)]) hx hb dX4_worth_63 hl (by decide) rfl (fun ls hl => ?_)
            exact L65 (nI 0) (by first | exact tells_f (fun q => h48 q.1) | exact tells_f (fun q => tells_F hrs h55 q.2) | exact tells_t ⟨h48, tells_T hrs h55⟩) _ _ wb ls (lv_sub hl [1, 2, 3, 4, 5, 0] rfl)
          · refine lv_iconst (v := nI 1) hx hb dX4_worth_58 (by decide) ?_
            refine lv_goto (tgt := 63) hx hb dX4_worth_59 (by decide) ?_
            refine lv_istore (lv' := [(5, .int (nI 1)), (0, .ref (ad 0)), (1, .int x), (2, .int y), (3, .int z), (4, .int v)]) hx hb dX4_worth_63 hl (by decide) rfl (fun ls hl => ?_)
            exact L65 (nI 1) (by first | exact tells_f (fun q => h48 q.1) | exact tells_f (fun q => tells_F hrs h55 q.2) | exact tells_t ⟨h48, tells_T hrs h55⟩) _ _ wb ls (lv_sub hl [1, 2, 3, 4, 5, 0] rfl)
      · refine lv_iload hx hb dX4_worth_15 (lv_at hl 4 rfl) ?_
        refine lv_if_ne (tgt := 30) hx hb dX4_worth_17 (by decide) (fun h17 => ?_) (fun h17 => ?_)
        · refine lv_iconst (v := nI 1) hx hb dX4_worth_30 (by decide) ?_
          refine lv_goto (tgt := 35) hx hb dX4_worth_31 (by decide) ?_
          refine lv_istore (lv' := [(4, .int (nI 1)), (0, .ref (ad 0)), (1, .int x), (2, .int y), (3, .int z), (5, .int (nI k))]) hx hb dX4_worth_35 hl (by decide) rfl (fun ls hl => ?_)
          refine lv_iinc (v := nI (k + 1)) (lv' := [(5, .int (nI (k + 1))), (4, .int (nI 1)), (0, .ref (ad 0)), (1, .int x), (2, .int y), (3, .int z)]) hx hb dX4_worth_37 hl (k := 5) rfl (nI_s1 _) (by decide) rfl (fun ls hl => ?_)
          refine lv_goto (tgt := 6) hx hb dX4_worth_40 (by decide) ?_
          exact ih (k + 1) (nI 1) (by omega) (by omega) (by first | exact tells_t (SB_1 (tells_T hv h17)) | exact tells_t (SB_2 h27) | exact tells_f (SB_3 (tells_F hv h17) h27)) _ _ wb ls (lv_sub hl [2, 3, 4, 5, 1, 0] rfl)
        · refine lv_aload_n hx hb dX4_worth_20 rfl (lv_at hl 0 rfl) ?_
          refine rb_get S wb 0 (by decide) rfl rfl in4 10 (by decide) bw_472 rfl dX4_worth_21 ?_
          refine lv_iload hx hb dX4_worth_24 (lv_at hl 5 rfl) ?_
          refine rb_ald (n := 6) (f := ar 8) (x := ar 8 k) S wb 8 (by decide) rfl 0 rfl k (by omega) (by decide) rfl dX4_worth_26 ?_
          refine lv_if_le (tgt := 34) hx hb dX4_worth_27 (by decide) (fun h27 => ?_) (fun h27 => ?_)
          · refine lv_iconst (v := nI 0) hx hb dX4_worth_34 (by decide) ?_
            refine lv_istore (lv' := [(4, .int (nI 0)), (0, .ref (ad 0)), (1, .int x), (2, .int y), (3, .int z), (5, .int (nI k))]) hx hb dX4_worth_35 hl (by decide) rfl (fun ls hl => ?_)
            refine lv_iinc (v := nI (k + 1)) (lv' := [(5, .int (nI (k + 1))), (4, .int (nI 0)), (0, .ref (ad 0)), (1, .int x), (2, .int y), (3, .int z)]) hx hb dX4_worth_37 hl (k := 5) rfl (nI_s1 _) (by decide) rfl (fun ls hl => ?_)
            refine lv_goto (tgt := 6) hx hb dX4_worth_40 (by decide) ?_
            exact ih (k + 1) (nI 0) (by omega) (by omega) (by first | exact tells_t (SB_1 (tells_T hv h17)) | exact tells_t (SB_2 h27) | exact tells_f (SB_3 (tells_F hv h17) h27)) _ _ wb ls (lv_sub hl [2, 3, 4, 5, 1, 0] rfl)
          · refine lv_iconst (v := nI 1) hx hb dX4_worth_30 (by decide) ?_
            refine lv_goto (tgt := 35) hx hb dX4_worth_31 (by decide) ?_
            refine lv_istore (lv' := [(4, .int (nI 1)), (0, .ref (ad 0)), (1, .int x), (2, .int y), (3, .int z), (5, .int (nI k))]) hx hb dX4_worth_35 hl (by decide) rfl (fun ls hl => ?_)
            refine lv_iinc (v := nI (k + 1)) (lv' := [(5, .int (nI (k + 1))), (4, .int (nI 1)), (0, .ref (ad 0)), (1, .int x), (2, .int y), (3, .int z)]) hx hb dX4_worth_37 hl (k := 5) rfl (nI_s1 _) (by decide) rfl (fun ls hl => ?_)
            refine lv_goto (tgt := 6) hx hb dX4_worth_40 (by decide) ?_
            exact ih (k + 1) (nI 1) (by omega) (by omega) (by first | exact tells_t (SB_1 (tells_T hv h17)) | exact tells_t (SB_2 h27) | exact tells_f (SB_3 (tells_F hv h17) h27)) _ _ wb ls (lv_sub hl [2, 3, 4, 5, 1, 0] rfl)
  exact L6 (n + 1) 0 (nI 0) (by omega) (by omega) (tells_f (fun q => by obtain ⟨_, q, _⟩ := q; exact absurd q (Nat.not_lt_zero _))) _ _ wb ls (lv_sub hl [2, 3, 4, 5, 1, 0] rfl)

set_option maxHeartbeats 4000000 in
set_option maxRecDepth 100000 in
theorem m_worth_x1c (l : Launch) (D : va_G) (cI cC cD : ClassId) (ad : Nat → Nat) (th : Int32) (n : Nat) (st : Int32) (mn : Nat) (ar : Nat → Nat → Int32) (x y z : Int32) (hn : n ≤ 6) (hT : HT ar n) (hx0 : ¬ (x < 0 ∨ nI n ≤ x)) (hy0 : ¬ (y < 0 ∨ nI n ≤ y)) (hz0 : z < 0 ∨ nI 1000 < z) : RM l yX4_worth cX4_worth 6 none ({ frames := 1, cells := 0, slots := 0, locals := 23 }) D (ty3 cI cC cD) EN0 [.ref (ad 0), .int x, .int y, .int z] ad 12 (mE ad cI th n st mn ar) (mE ad cI (nI 1) n st mn ar) none := by
  refine RM.of (by decide) (Nat.le_of_ble_eq_true rfl) ?_
  intro p e s m below meth c0 A ls args Q0 S hr hlk hQ wb hl
  have hx := S.1
  have hb := S.2.1
  have hl : lv_has ls 6 [(0, .ref (ad 0)), (1, .int x), (2, .int y), (3, .int z)] := hl
  refine lv_iconst (v := nI 0) hx hb dX4_worth_0 (by decide) ?_
  refine lv_istore (lv' := [(4, .int (nI 0)), (0, .ref (ad 0)), (1, .int x), (2, .int y), (3, .int z)]) hx hb dX4_worth_1 hl (by decide) rfl (fun ls hl => ?_)
  refine lv_iconst (v := nI 0) hx hb dX4_worth_3 (by decide) ?_
  refine lv_istore (lv' := [(5, .int (nI 0)), (4, .int (nI 0)), (0, .ref (ad 0)), (1, .int x), (2, .int y), (3, .int z)]) hx hb dX4_worth_4 hl (by decide) rfl (fun ls hl => ?_)
  have L6 : ∀ (fuel : Nat) (k : Nat) (v : Int32) (hkn : k ≤ n) (hfu : n < k + fuel) (hv : tells v (SB ar k)) (H : Heap) (locs : List Loc) (wb : WB D (ty3 cI cC cD) EN0 ad 12 A s (mE ad cI th n st mn ar) H locs) (ls : Array Slot) (hl : lv_has ls 6 [(0, .ref (ad 0)), (1, .int x), (2, .int y), (3, .int z), (4, .int v), (5, .int (nI k))]), W p l e ({ frames := 1, cells := 0, slots := 0, locals := 23 }) s m args below meth c0 H locs 0 0 Q0 (F0 m 6 ls []) := by
    intro fuel
    induction fuel with
    | zero => intro k v hkn hfu hv H locs wb ls hl; exact absurd hfu (by omega)
    | succ fuel ih =>
      intro k v hkn hfu hv H locs wb ls hl
      refine lv_iload hx hb dX4_worth_6 (lv_at hl 5 rfl) ?_
      refine lv_aload_n hx hb dX4_worth_8 rfl (lv_at hl 0 rfl) ?_
      refine rb_get S wb 0 (by decide) rfl rfl in4 1 (by decide) bw_463 rfl dX4_worth_9 ?_
      refine nb_icmp_ge (tgt := 43) hx hb dX4_worth_12 (by decide) (by omega) (by omega) (fun h12 => ?_) (fun h12 => ?_)
      · have hke : k = n := by omega
        rw [hke] at hv
        have L65 : ∀ (v5 : Int32) (hv5 : tells v5 (st = nI 1 ∧ stl ar n)) (H : Heap) (locs : List Loc) (wb : WB D (ty3 cI cC cD) EN0 ad 12 A s (mE ad cI th n st mn ar) H locs) (ls : Array Slot) (hl : lv_has ls 6 [(0, .ref (ad 0)), (1, .int x), (2, .int y), (3, .int z), (4, .int v), (5, .int v5)]), W p l e ({ frames := 1, cells := 0, slots := 0, locals := 23 }) s m args below meth c0 H locs 0 0 Q0 (F0 m 65 ls []) := by
            intro v5 hv5 H locs wb ls hl
            refine lv_aload_n hx hb dX4_worth_65 rfl (lv_at hl 0 rfl) ?_
            refine lv_aload_n hx hb dX4_worth_66 rfl (lv_at hl 0 rfl) ?_
            refine lv_iload_n hx hb dX4_worth_67 rfl (lv_at hl 1 rfl) ?_
            refine rb_callV S wb EN0_ok (m_no_t l D cI cC cD ad th n st mn ar x (nI 0) (tells_f hx0)) (bw5 bw_520 bw_522 bw_23 bw_37 bw_523) (rb_recv wb 0 (by decide) rfl rfl) hdX4_no rfl ⟨rfl, rfl⟩ ⟨by decide, by decide⟩ hl.1 (Nat.le_of_ble_eq_true rfl) ⟨Nat.zero_le _, Nat.zero_le _⟩ (rest := [.ref (ad 0)]) (st1 := [.int (nI 0), .ref (ad 0)]) rfl rfl dX4_worth_68 (fun H locs wb => ?_)
            refine lv_if_ne (tgt := 93) hx hb dX4_worth_71 (by decide) (fun h71 => absurd (by decide) h71) (fun h71 => ?_)
            refine lv_aload_n hx hb dX4_worth_74 rfl (lv_at hl 0 rfl) ?_
            refine lv_iload_n hx hb dX4_worth_75 rfl (lv_at hl 2 rfl) ?_
            refine rb_callV S wb EN0_ok (m_no_t l D cI cC cD ad th n st mn ar y (nI 0) (tells_f hy0)) (bw5 bw_520 bw_522 bw_23 bw_37 bw_523) (rb_recv wb 0 (by decide) rfl rfl) hdX4_no rfl ⟨rfl, rfl⟩ ⟨by decide, by decide⟩ hl.1 (Nat.le_of_ble_eq_true rfl) ⟨Nat.zero_le _, Nat.zero_le _⟩ (rest := [.ref (ad 0)]) (st1 := [.int (nI 0), .ref (ad 0)]) rfl rfl dX4_worth_76 (fun H locs wb => ?_)
            refine lv_if_ne (tgt := 93) hx hb dX4_worth_79 (by decide) (fun h79 => absurd (by decide) h79) (fun h79 => ?_)
            refine lv_iload_n hx hb dX4_worth_82 rfl (lv_at hl 3 rfl) ?_
            refine lv_if_lt (tgt := 93) hx hb dX4_worth_83 (by decide) (fun h83 => ?_) (fun h83 => ?_)
            · refine lv_iconst (v := nI 1) hx hb dX4_worth_93 (by decide) ?_
              refine lv_goto (tgt := 112) hx hb dX4_worth_94 (by decide) ?_
              refine rb_put (E' := mE ad cI (nI 1) n st mn ar) S wb 0 (by decide) rfl rfl in4 tyX4 tyX4_ok nmX4 0 (by decide) bw_462 rfl rfl rfl (Nat.le_of_ble_eq_true rfl) (m12 rfl rfl rfl rfl rfl rfl rfl rfl rfl rfl rfl rfl) dX4_worth_112 (fun H locs wb => ?_)
              refine lv_aload_n hx hb dX4_worth_115 rfl (lv_at hl 0 rfl) ?_
              refine rb_get S wb 0 (by decide) rfl rfl in4 0 (by decide) bw_462 rfl dX4_worth_116 ?_
              refine lv_if_eq (tgt := 123) hx hb dX4_worth_119 (by decide) (fun h119 => absurd h119 (by decide)) (fun h119 => ?_)
              exact rb_vret S hr hlk hQ wb (m12 rfl rfl rfl rfl rfl rfl rfl rfl rfl rfl rfl rfl) dX4_worth_122
            · refine lv_iload_n hx hb dX4_worth_86 rfl (lv_at hl 3 rfl) ?_
              refine lv_sipush (v := nI 1000) hx hb dX4_worth_87 (by decide) ?_
              refine lv_icmp_le (tgt := 97) hx hb dX4_worth_90 (by decide) (fun h90 => absurd h90 (Int32.not_le.mpr (hz0.resolve_left h83))) (fun h90 => ?_)
              refine lv_iconst (v := nI 1) hx hb dX4_worth_93 (by decide) ?_
              refine lv_goto (tgt := 112) hx hb dX4_worth_94 (by decide) ?_
              refine rb_put (E' := mE ad cI (nI 1) n st mn ar) S wb 0 (by decide) rfl rfl in4 tyX4 tyX4_ok nmX4 0 (by decide) bw_462 rfl rfl rfl (Nat.le_of_ble_eq_true rfl) (m12 rfl rfl rfl rfl rfl rfl rfl rfl rfl rfl rfl rfl) dX4_worth_112 (fun H locs wb => ?_)
              refine lv_aload_n hx hb dX4_worth_115 rfl (lv_at hl 0 rfl) ?_
              refine rb_get S wb 0 (by decide) rfl rfl in4 0 (by decide) bw_462 rfl dX4_worth_116 ?_
              refine lv_if_eq (tgt := 123) hx hb dX4_worth_119 (by decide) (fun h119 => absurd h119 (by decide)) (fun h119 => ?_)
              exact rb_vret S hr hlk hQ wb (m12 rfl rfl rfl rfl rfl rfl rfl rfl rfl rfl rfl rfl) dX4_worth_122
        refine lv_aload_n hx hb dX4_worth_43 rfl (lv_at hl 0 rfl) ?_
        refine rb_get S wb 0 (by decide) rfl rfl in4 2 (by decide) bw_464 rfl dX4_worth_44 ?_
        refine lv_iconst (v := nI 1) hx hb dX4_worth_47 (by decide) ?_
        refine lv_icmp_ne (tgt := 62) hx hb dX4_worth_48 (by decide) (fun h48 => ?_) (fun h48 => ?_)
        · refine lv_iconst (v := nI 0) hx hb dX4_worth_62 (by decide) ?_
          refine lv_istore (lv' := [(5, .int (nI 0)), (0, .ref (ad 0)), (1, .int x), (2, .int y), (3, .int z), (4, .int v)]) hx hb dX4_worth_63 hl (by decide) rfl (fun ls hl => ?_)
          exact L65 (nI 0) (by first | exact tells_f (fun q => h48 q.1) | exact tells_f (fun q => tells_F hrs h55 q.2) | exact tells_t ⟨h48, tells_T hrs h55⟩) _ _ wb ls (lv_sub hl [1, 2, 3, 4, 5, 0] rfl)
        · refine lv_aload_n hx hb dX4_worth_51 rfl (lv_at hl 0 rfl) ?_
          obtain ⟨rs, hrs⟩ := tells_ex (stl ar n)
          refine rb_callV S wb EN0_ok (m_isSettled l D cI cC cD ad th n st mn ar hn hT rs hrs) (bw5 bw_516 bw_518 bw_22 bw_37 bw_519) (rb_recv wb 0 (by decide) rfl rfl) hdX4_isSettled rfl ⟨rfl, rfl⟩ ⟨by decide, by decide⟩ hl.1 (Nat.le_of_ble_eq_true rfl) ⟨Nat.zero_le _, Nat.zero_le _⟩ (rest := []) (st1 := [.int rs]) rfl rfl dX4_worth_52 (fun H locs wb => ?_)
          refine lv_if_eq (tgt := 62) hx hb dX4_worth_55 (by decide) (fun h55 => ?_) (fun h55 => ?_)
          · refine lv_iconst (v := nI 0) hx hb dX4_worth_62 (by decide) ?_
            refine lv_istore (lv' := [(5, .int (nI 0)), (0, .ref (ad 0)), (1, .int x), (2, .int y), (3, .int z), (4, .int v)]) hx hb dX4_worth_63 hl (by decide) rfl (fun ls hl => ?_)
            exact L65 (nI 0) (by first | exact tells_f (fun q => h48 q.1) | exact tells_f (fun q => tells_F hrs h55 q.2) | exact tells_t ⟨h48, tells_T hrs h55⟩) _ _ wb ls (lv_sub hl [1, 2, 3, 4, 5, 0] rfl)
          · refine lv_iconst (v := nI 1) hx hb dX4_worth_58 (by decide) ?_
            refine lv_goto (tgt := 63) hx hb dX4_worth_59 (by decide) ?_
            refine lv_istore (lv' := [(5, .int (nI 1)), (0, .ref (ad 0)), (1, .int x), (2, .int y), (3, .int z), (4, .int v)]) hx hb dX4_worth_63 hl (by decide) rfl (fun ls hl => ?_)
            exact L65 (nI 1) (by first | exact tells_f (fun q => h48 q.1) | exact tells_f (fun q => tells_F hrs h55 q.2) | exact tells_t ⟨h48, tells_T hrs h55⟩) _ _ wb ls (lv_sub hl [1, 2, 3, 4, 5, 0] rfl)
      · refine lv_iload hx hb dX4_worth_15 (lv_at hl 4 rfl) ?_
        refine lv_if_ne (tgt := 30) hx hb dX4_worth_17 (by decide) (fun h17 => ?_) (fun h17 => ?_)
        · refine lv_iconst (v := nI 1) hx hb dX4_worth_30 (by decide) ?_
          refine lv_goto (tgt := 35) hx hb dX4_worth_31 (by decide) ?_
          refine lv_istore (lv' := [(4, .int (nI 1)), (0, .ref (ad 0)), (1, .int x), (2, .int y), (3, .int z), (5, .int (nI k))]) hx hb dX4_worth_35 hl (by decide) rfl (fun ls hl => ?_)
          refine lv_iinc (v := nI (k + 1)) (lv' := [(5, .int (nI (k + 1))), (4, .int (nI 1)), (0, .ref (ad 0)), (1, .int x), (2, .int y), (3, .int z)]) hx hb dX4_worth_37 hl (k := 5) rfl (nI_s1 _) (by decide) rfl (fun ls hl => ?_)
          refine lv_goto (tgt := 6) hx hb dX4_worth_40 (by decide) ?_
          exact ih (k + 1) (nI 1) (by omega) (by omega) (by first | exact tells_t (SB_1 (tells_T hv h17)) | exact tells_t (SB_2 h27) | exact tells_f (SB_3 (tells_F hv h17) h27)) _ _ wb ls (lv_sub hl [2, 3, 4, 5, 1, 0] rfl)
        · refine lv_aload_n hx hb dX4_worth_20 rfl (lv_at hl 0 rfl) ?_
          refine rb_get S wb 0 (by decide) rfl rfl in4 10 (by decide) bw_472 rfl dX4_worth_21 ?_
          refine lv_iload hx hb dX4_worth_24 (lv_at hl 5 rfl) ?_
          refine rb_ald (n := 6) (f := ar 8) (x := ar 8 k) S wb 8 (by decide) rfl 0 rfl k (by omega) (by decide) rfl dX4_worth_26 ?_
          refine lv_if_le (tgt := 34) hx hb dX4_worth_27 (by decide) (fun h27 => ?_) (fun h27 => ?_)
          · refine lv_iconst (v := nI 0) hx hb dX4_worth_34 (by decide) ?_
            refine lv_istore (lv' := [(4, .int (nI 0)), (0, .ref (ad 0)), (1, .int x), (2, .int y), (3, .int z), (5, .int (nI k))]) hx hb dX4_worth_35 hl (by decide) rfl (fun ls hl => ?_)
            refine lv_iinc (v := nI (k + 1)) (lv' := [(5, .int (nI (k + 1))), (4, .int (nI 0)), (0, .ref (ad 0)), (1, .int x), (2, .int y), (3, .int z)]) hx hb dX4_worth_37 hl (k := 5) rfl (nI_s1 _) (by decide) rfl (fun ls hl => ?_)
            refine lv_goto (tgt := 6) hx hb dX4_worth_40 (by decide) ?_
            exact ih (k + 1) (nI 0) (by omega) (by omega) (by first | exact tells_t (SB_1 (tells_T hv h17)) | exact tells_t (SB_2 h27) | exact tells_f (SB_3 (tells_F hv h17) h27)) _ _ wb ls (lv_sub hl [2, 3, 4, 5, 1, 0] rfl)
          · refine lv_iconst (v := nI 1) hx hb dX4_worth_30 (by decide) ?_
            refine lv_goto (tgt := 35) hx hb dX4_worth_31 (by decide) ?_
            refine lv_istore (lv' := [(4, .int (nI 1)), (0, .ref (ad 0)), (1, .int x), (2, .int y), (3, .int z), (5, .int (nI k))]) hx hb dX4_worth_35 hl (by decide) rfl (fun ls hl => ?_)
            refine lv_iinc (v := nI (k + 1)) (lv' := [(5, .int (nI (k + 1))), (4, .int (nI 1)), (0, .ref (ad 0)), (1, .int x), (2, .int y), (3, .int z)]) hx hb dX4_worth_37 hl (k := 5) rfl (nI_s1 _) (by decide) rfl (fun ls hl => ?_)
            refine lv_goto (tgt := 6) hx hb dX4_worth_40 (by decide) ?_
            exact ih (k + 1) (nI 1) (by omega) (by omega) (by first | exact tells_t (SB_1 (tells_T hv h17)) | exact tells_t (SB_2 h27) | exact tells_f (SB_3 (tells_F hv h17) h27)) _ _ wb ls (lv_sub hl [2, 3, 4, 5, 1, 0] rfl)
  exact L6 (n + 1) 0 (nI 0) (by omega) (by omega) (tells_f (fun q => by obtain ⟨_, q, _⟩ := q; exact absurd q (Nat.not_lt_zero _))) _ _ wb ls (lv_sub hl [2, 3, 4, 5, 1, 0] rfl)

set_option maxHeartbeats 4000000 in
set_option maxRecDepth 100000 in
theorem m_worth_x2 (l : Launch) (D : va_G) (cI cC cD : ClassId) (ad : Nat → Nat) (th : Int32) (n : Nat) (st : Int32) (mn : Nat) (ar : Nat → Nat → Int32) (c j : Nat) (z : Int32) (hn : n ≤ 6) (hT : HT ar n) (hc : c < n) (hj : j < n) (hz1 : ¬ z < 0) (hz2 : z ≤ nI 1000) (hs : SB ar n) (hd : ¬ (st = nI 1 ∧ stl ar n)) : RM l yX4_worth cX4_worth 6 none ({ frames := 1, cells := 0, slots := 0, locals := 23 }) D (ty3 cI cC cD) EN0 [.ref (ad 0), .int (nI c), .int (nI j), .int z] ad 12 (mE ad cI th n st mn ar) (mE ad cI (nI 2) n st mn ar) none := by
  refine RM.of (by decide) (Nat.le_of_ble_eq_true rfl) ?_
  intro p e s m below meth c0 A ls args Q0 S hr hlk hQ wb hl
  have hx := S.1
  have hb := S.2.1
  have hl : lv_has ls 6 [(0, .ref (ad 0)), (1, .int (nI c)), (2, .int (nI j)), (3, .int z)] := hl
  refine lv_iconst (v := nI 0) hx hb dX4_worth_0 (by decide) ?_
  refine lv_istore (lv' := [(4, .int (nI 0)), (0, .ref (ad 0)), (1, .int (nI c)), (2, .int (nI j)), (3, .int z)]) hx hb dX4_worth_1 hl (by decide) rfl (fun ls hl => ?_)
  refine lv_iconst (v := nI 0) hx hb dX4_worth_3 (by decide) ?_
  refine lv_istore (lv' := [(5, .int (nI 0)), (4, .int (nI 0)), (0, .ref (ad 0)), (1, .int (nI c)), (2, .int (nI j)), (3, .int z)]) hx hb dX4_worth_4 hl (by decide) rfl (fun ls hl => ?_)
  have L6 : ∀ (fuel : Nat) (k : Nat) (v : Int32) (hkn : k ≤ n) (hfu : n < k + fuel) (hv : tells v (SB ar k)) (H : Heap) (locs : List Loc) (wb : WB D (ty3 cI cC cD) EN0 ad 12 A s (mE ad cI th n st mn ar) H locs) (ls : Array Slot) (hl : lv_has ls 6 [(0, .ref (ad 0)), (1, .int (nI c)), (2, .int (nI j)), (3, .int z), (4, .int v), (5, .int (nI k))]), W p l e ({ frames := 1, cells := 0, slots := 0, locals := 23 }) s m args below meth c0 H locs 0 0 Q0 (F0 m 6 ls []) := by
    intro fuel
    induction fuel with
    | zero => intro k v hkn hfu hv H locs wb ls hl; exact absurd hfu (by omega)
    | succ fuel ih =>
      intro k v hkn hfu hv H locs wb ls hl
      refine lv_iload hx hb dX4_worth_6 (lv_at hl 5 rfl) ?_
      refine lv_aload_n hx hb dX4_worth_8 rfl (lv_at hl 0 rfl) ?_
      refine rb_get S wb 0 (by decide) rfl rfl in4 1 (by decide) bw_463 rfl dX4_worth_9 ?_
      refine nb_icmp_ge (tgt := 43) hx hb dX4_worth_12 (by decide) (by omega) (by omega) (fun h12 => ?_) (fun h12 => ?_)
      · have hke : k = n := by omega
        rw [hke] at hv
        have L65 : ∀ (v5 : Int32) (hv5 : tells v5 (st = nI 1 ∧ stl ar n)) (H : Heap) (locs : List Loc) (wb : WB D (ty3 cI cC cD) EN0 ad 12 A s (mE ad cI th n st mn ar) H locs) (ls : Array Slot) (hl : lv_has ls 6 [(0, .ref (ad 0)), (1, .int (nI c)), (2, .int (nI j)), (3, .int z), (4, .int v), (5, .int v5)]), W p l e ({ frames := 1, cells := 0, slots := 0, locals := 23 }) s m args below meth c0 H locs 0 0 Q0 (F0 m 65 ls []) := by
            intro v5 hv5 H locs wb ls hl
            refine lv_aload_n hx hb dX4_worth_65 rfl (lv_at hl 0 rfl) ?_
            refine lv_aload_n hx hb dX4_worth_66 rfl (lv_at hl 0 rfl) ?_
            refine lv_iload_n hx hb dX4_worth_67 rfl (lv_at hl 1 rfl) ?_
            refine rb_callV S wb EN0_ok (m_no_t l D cI cC cD ad th n st mn ar (nI c) (nI 0) (tells_f (no_f hc (by omega)))) (bw5 bw_520 bw_522 bw_23 bw_37 bw_523) (rb_recv wb 0 (by decide) rfl rfl) hdX4_no rfl ⟨rfl, rfl⟩ ⟨by decide, by decide⟩ hl.1 (Nat.le_of_ble_eq_true rfl) ⟨Nat.zero_le _, Nat.zero_le _⟩ (rest := [.ref (ad 0)]) (st1 := [.int (nI 0), .ref (ad 0)]) rfl rfl dX4_worth_68 (fun H locs wb => ?_)
            refine lv_if_ne (tgt := 93) hx hb dX4_worth_71 (by decide) (fun h71 => absurd (by decide) h71) (fun h71 => ?_)
            refine lv_aload_n hx hb dX4_worth_74 rfl (lv_at hl 0 rfl) ?_
            refine lv_iload_n hx hb dX4_worth_75 rfl (lv_at hl 2 rfl) ?_
            refine rb_callV S wb EN0_ok (m_no_t l D cI cC cD ad th n st mn ar (nI j) (nI 0) (tells_f (no_f hj (by omega)))) (bw5 bw_520 bw_522 bw_23 bw_37 bw_523) (rb_recv wb 0 (by decide) rfl rfl) hdX4_no rfl ⟨rfl, rfl⟩ ⟨by decide, by decide⟩ hl.1 (Nat.le_of_ble_eq_true rfl) ⟨Nat.zero_le _, Nat.zero_le _⟩ (rest := [.ref (ad 0)]) (st1 := [.int (nI 0), .ref (ad 0)]) rfl rfl dX4_worth_76 (fun H locs wb => ?_)
            refine lv_if_ne (tgt := 93) hx hb dX4_worth_79 (by decide) (fun h79 => absurd (by decide) h79) (fun h79 => ?_)
            refine lv_iload_n hx hb dX4_worth_82 rfl (lv_at hl 3 rfl) ?_
            refine lv_if_lt (tgt := 93) hx hb dX4_worth_83 (by decide) (fun h83 => absurd h83 hz1) (fun h83 => ?_)
            refine lv_iload_n hx hb dX4_worth_86 rfl (lv_at hl 3 rfl) ?_
            refine lv_sipush (v := nI 1000) hx hb dX4_worth_87 (by decide) ?_
            refine lv_icmp_le (tgt := 97) hx hb dX4_worth_90 (by decide) (fun h90 => ?_) (fun h90 => absurd hz2 h90)
            refine lv_iload hx hb dX4_worth_97 (lv_at hl 4 rfl) ?_
            refine lv_if_eq (tgt := 111) hx hb dX4_worth_99 (by decide) (fun h99 => absurd h99 (fun q => tells_F hv q hs)) (fun h99 => ?_)
            refine lv_iload hx hb dX4_worth_102 (lv_at hl 5 rfl) ?_
            refine lv_if_ne (tgt := 111) hx hb dX4_worth_104 (by decide) (fun h104 => absurd (hv5.2 hd) h104) (fun h104 => ?_)
            refine lv_iconst (v := nI 2) hx hb dX4_worth_107 (by decide) ?_
            refine lv_goto (tgt := 112) hx hb dX4_worth_108 (by decide) ?_
            refine rb_put (E' := mE ad cI (nI 2) n st mn ar) S wb 0 (by decide) rfl rfl in4 tyX4 tyX4_ok nmX4 0 (by decide) bw_462 rfl rfl rfl (Nat.le_of_ble_eq_true rfl) (m12 rfl rfl rfl rfl rfl rfl rfl rfl rfl rfl rfl rfl) dX4_worth_112 (fun H locs wb => ?_)
            refine lv_aload_n hx hb dX4_worth_115 rfl (lv_at hl 0 rfl) ?_
            refine rb_get S wb 0 (by decide) rfl rfl in4 0 (by decide) bw_462 rfl dX4_worth_116 ?_
            refine lv_if_eq (tgt := 123) hx hb dX4_worth_119 (by decide) (fun h119 => absurd h119 (by decide)) (fun h119 => ?_)
            exact rb_vret S hr hlk hQ wb (m12 rfl rfl rfl rfl rfl rfl rfl rfl rfl rfl rfl rfl) dX4_worth_122
        refine lv_aload_n hx hb dX4_worth_43 rfl (lv_at hl 0 rfl) ?_
        refine rb_get S wb 0 (by decide) rfl rfl in4 2 (by decide) bw_464 rfl dX4_worth_44 ?_
        refine lv_iconst (v := nI 1) hx hb dX4_worth_47 (by decide) ?_
        refine lv_icmp_ne (tgt := 62) hx hb dX4_worth_48 (by decide) (fun h48 => ?_) (fun h48 => ?_)
        · refine lv_iconst (v := nI 0) hx hb dX4_worth_62 (by decide) ?_
          refine lv_istore (lv' := [(5, .int (nI 0)), (0, .ref (ad 0)), (1, .int (nI c)), (2, .int (nI j)), (3, .int z), (4, .int v)]) hx hb dX4_worth_63 hl (by decide) rfl (fun ls hl => ?_)
          exact L65 (nI 0) (by first | exact tells_f (fun q => h48 q.1) | exact tells_f (fun q => tells_F hrs h55 q.2) | exact tells_t ⟨h48, tells_T hrs h55⟩) _ _ wb ls (lv_sub hl [1, 2, 3, 4, 5, 0] rfl)
        · refine lv_aload_n hx hb dX4_worth_51 rfl (lv_at hl 0 rfl) ?_
          obtain ⟨rs, hrs⟩ := tells_ex (stl ar n)
          refine rb_callV S wb EN0_ok (m_isSettled l D cI cC cD ad th n st mn ar hn hT rs hrs) (bw5 bw_516 bw_518 bw_22 bw_37 bw_519) (rb_recv wb 0 (by decide) rfl rfl) hdX4_isSettled rfl ⟨rfl, rfl⟩ ⟨by decide, by decide⟩ hl.1 (Nat.le_of_ble_eq_true rfl) ⟨Nat.zero_le _, Nat.zero_le _⟩ (rest := []) (st1 := [.int rs]) rfl rfl dX4_worth_52 (fun H locs wb => ?_)
          refine lv_if_eq (tgt := 62) hx hb dX4_worth_55 (by decide) (fun h55 => ?_) (fun h55 => ?_)
          · refine lv_iconst (v := nI 0) hx hb dX4_worth_62 (by decide) ?_
            refine lv_istore (lv' := [(5, .int (nI 0)), (0, .ref (ad 0)), (1, .int (nI c)), (2, .int (nI j)), (3, .int z), (4, .int v)]) hx hb dX4_worth_63 hl (by decide) rfl (fun ls hl => ?_)
            exact L65 (nI 0) (by first | exact tells_f (fun q => h48 q.1) | exact tells_f (fun q => tells_F hrs h55 q.2) | exact tells_t ⟨h48, tells_T hrs h55⟩) _ _ wb ls (lv_sub hl [1, 2, 3, 4, 5, 0] rfl)
          · refine lv_iconst (v := nI 1) hx hb dX4_worth_58 (by decide) ?_
            refine lv_goto (tgt := 63) hx hb dX4_worth_59 (by decide) ?_
            refine lv_istore (lv' := [(5, .int (nI 1)), (0, .ref (ad 0)), (1, .int (nI c)), (2, .int (nI j)), (3, .int z), (4, .int v)]) hx hb dX4_worth_63 hl (by decide) rfl (fun ls hl => ?_)
            exact L65 (nI 1) (by first | exact tells_f (fun q => h48 q.1) | exact tells_f (fun q => tells_F hrs h55 q.2) | exact tells_t ⟨h48, tells_T hrs h55⟩) _ _ wb ls (lv_sub hl [1, 2, 3, 4, 5, 0] rfl)
      · refine lv_iload hx hb dX4_worth_15 (lv_at hl 4 rfl) ?_
        refine lv_if_ne (tgt := 30) hx hb dX4_worth_17 (by decide) (fun h17 => ?_) (fun h17 => ?_)
        · refine lv_iconst (v := nI 1) hx hb dX4_worth_30 (by decide) ?_
          refine lv_goto (tgt := 35) hx hb dX4_worth_31 (by decide) ?_
          refine lv_istore (lv' := [(4, .int (nI 1)), (0, .ref (ad 0)), (1, .int (nI c)), (2, .int (nI j)), (3, .int z), (5, .int (nI k))]) hx hb dX4_worth_35 hl (by decide) rfl (fun ls hl => ?_)
          refine lv_iinc (v := nI (k + 1)) (lv' := [(5, .int (nI (k + 1))), (4, .int (nI 1)), (0, .ref (ad 0)), (1, .int (nI c)), (2, .int (nI j)), (3, .int z)]) hx hb dX4_worth_37 hl (k := 5) rfl (nI_s1 _) (by decide) rfl (fun ls hl => ?_)
          refine lv_goto (tgt := 6) hx hb dX4_worth_40 (by decide) ?_
          exact ih (k + 1) (nI 1) (by omega) (by omega) (by first | exact tells_t (SB_1 (tells_T hv h17)) | exact tells_t (SB_2 h27) | exact tells_f (SB_3 (tells_F hv h17) h27)) _ _ wb ls (lv_sub hl [2, 3, 4, 5, 1, 0] rfl)
        · refine lv_aload_n hx hb dX4_worth_20 rfl (lv_at hl 0 rfl) ?_
          refine rb_get S wb 0 (by decide) rfl rfl in4 10 (by decide) bw_472 rfl dX4_worth_21 ?_
          refine lv_iload hx hb dX4_worth_24 (lv_at hl 5 rfl) ?_
          refine rb_ald (n := 6) (f := ar 8) (x := ar 8 k) S wb 8 (by decide) rfl 0 rfl k (by omega) (by decide) rfl dX4_worth_26 ?_
          refine lv_if_le (tgt := 34) hx hb dX4_worth_27 (by decide) (fun h27 => ?_) (fun h27 => ?_)
          · refine lv_iconst (v := nI 0) hx hb dX4_worth_34 (by decide) ?_
            refine lv_istore (lv' := [(4, .int (nI 0)), (0, .ref (ad 0)), (1, .int (nI c)), (2, .int (nI j)), (3, .int z), (5, .int (nI k))]) hx hb dX4_worth_35 hl (by decide) rfl (fun ls hl => ?_)
            refine lv_iinc (v := nI (k + 1)) (lv' := [(5, .int (nI (k + 1))), (4, .int (nI 0)), (0, .ref (ad 0)), (1, .int (nI c)), (2, .int (nI j)), (3, .int z)]) hx hb dX4_worth_37 hl (k := 5) rfl (nI_s1 _) (by decide) rfl (fun ls hl => ?_)
            refine lv_goto (tgt := 6) hx hb dX4_worth_40 (by decide) ?_
            exact ih (k + 1) (nI 0) (by omega) (by omega) (by first | exact tells_t (SB_1 (tells_T hv h17)) | exact tells_t (SB_2 h27) | exact tells_f (SB_3 (tells_F hv h17) h27)) _ _ wb ls (lv_sub hl [2, 3, 4, 5, 1, 0] rfl)
          · refine lv_iconst (v := nI 1) hx hb dX4_worth_30 (by decide) ?_
            refine lv_goto (tgt := 35) hx hb dX4_worth_31 (by decide) ?_
            refine lv_istore (lv' := [(4, .int (nI 1)), (0, .ref (ad 0)), (1, .int (nI c)), (2, .int (nI j)), (3, .int z), (5, .int (nI k))]) hx hb dX4_worth_35 hl (by decide) rfl (fun ls hl => ?_)
            refine lv_iinc (v := nI (k + 1)) (lv' := [(5, .int (nI (k + 1))), (4, .int (nI 1)), (0, .ref (ad 0)), (1, .int (nI c)), (2, .int (nI j)), (3, .int z)]) hx hb dX4_worth_37 hl (k := 5) rfl (nI_s1 _) (by decide) rfl (fun ls hl => ?_)
            refine lv_goto (tgt := 6) hx hb dX4_worth_40 (by decide) ?_
            exact ih (k + 1) (nI 1) (by omega) (by omega) (by first | exact tells_t (SB_1 (tells_T hv h17)) | exact tells_t (SB_2 h27) | exact tells_f (SB_3 (tells_F hv h17) h27)) _ _ wb ls (lv_sub hl [2, 3, 4, 5, 1, 0] rfl)
  exact L6 (n + 1) 0 (nI 0) (by omega) (by omega) (tells_f (fun q => by obtain ⟨_, q, _⟩ := q; exact absurd q (Nat.not_lt_zero _))) _ _ wb ls (lv_sub hl [2, 3, 4, 5, 1, 0] rfl)

set_option maxHeartbeats 4000000 in
set_option maxRecDepth 100000 in
theorem m_worth0 (l : Launch) (D : va_G) (cI cC cD : ClassId) (ad : Nat → Nat) (th : Int32) (n : Nat) (st : Int32) (mn : Nat) (ar : Nat → Nat → Int32) (c j : Nat) (z : Int32) (hn : n ≤ 6) (hT : HT ar n) (hc : c < n) (hj : j < n) (hz1 : ¬ z < 0) (hz2 : z ≤ nI 1000) (hs : ¬ SB ar n) : RM l yX4_worth cX4_worth 6 none ({ frames := 1, cells := 0, slots := 0, locals := 23 }) D (ty3 cI cC cD) EN0 [.ref (ad 0), .int (nI c), .int (nI j), .int z] ad 12 (mE ad cI th n st mn ar) (mE ad cI (nI 0) n st mn (va_up ar 1 (upd (ar 1) (6 * c + j) z))) none := by
  refine RM.of (by decide) (Nat.le_of_ble_eq_true rfl) ?_
  intro p e s m below meth c0 A ls args Q0 S hr hlk hQ wb hl
  have hx := S.1
  have hb := S.2.1
  have hl : lv_has ls 6 [(0, .ref (ad 0)), (1, .int (nI c)), (2, .int (nI j)), (3, .int z)] := hl
  refine lv_iconst (v := nI 0) hx hb dX4_worth_0 (by decide) ?_
  refine lv_istore (lv' := [(4, .int (nI 0)), (0, .ref (ad 0)), (1, .int (nI c)), (2, .int (nI j)), (3, .int z)]) hx hb dX4_worth_1 hl (by decide) rfl (fun ls hl => ?_)
  refine lv_iconst (v := nI 0) hx hb dX4_worth_3 (by decide) ?_
  refine lv_istore (lv' := [(5, .int (nI 0)), (4, .int (nI 0)), (0, .ref (ad 0)), (1, .int (nI c)), (2, .int (nI j)), (3, .int z)]) hx hb dX4_worth_4 hl (by decide) rfl (fun ls hl => ?_)
  have L6 : ∀ (fuel : Nat) (k : Nat) (v : Int32) (hkn : k ≤ n) (hfu : n < k + fuel) (hv : tells v (SB ar k)) (H : Heap) (locs : List Loc) (wb : WB D (ty3 cI cC cD) EN0 ad 12 A s (mE ad cI th n st mn ar) H locs) (ls : Array Slot) (hl : lv_has ls 6 [(0, .ref (ad 0)), (1, .int (nI c)), (2, .int (nI j)), (3, .int z), (4, .int v), (5, .int (nI k))]), W p l e ({ frames := 1, cells := 0, slots := 0, locals := 23 }) s m args below meth c0 H locs 0 0 Q0 (F0 m 6 ls []) := by
    intro fuel
    induction fuel with
    | zero => intro k v hkn hfu hv H locs wb ls hl; exact absurd hfu (by omega)
    | succ fuel ih =>
      intro k v hkn hfu hv H locs wb ls hl
      refine lv_iload hx hb dX4_worth_6 (lv_at hl 5 rfl) ?_
      refine lv_aload_n hx hb dX4_worth_8 rfl (lv_at hl 0 rfl) ?_
      refine rb_get S wb 0 (by decide) rfl rfl in4 1 (by decide) bw_463 rfl dX4_worth_9 ?_
      refine nb_icmp_ge (tgt := 43) hx hb dX4_worth_12 (by decide) (by omega) (by omega) (fun h12 => ?_) (fun h12 => ?_)
      · have hke : k = n := by omega
        rw [hke] at hv
        have L65 : ∀ (v5 : Int32) (hv5 : tells v5 (st = nI 1 ∧ stl ar n)) (H : Heap) (locs : List Loc) (wb : WB D (ty3 cI cC cD) EN0 ad 12 A s (mE ad cI th n st mn ar) H locs) (ls : Array Slot) (hl : lv_has ls 6 [(0, .ref (ad 0)), (1, .int (nI c)), (2, .int (nI j)), (3, .int z), (4, .int v), (5, .int v5)]), W p l e ({ frames := 1, cells := 0, slots := 0, locals := 23 }) s m args below meth c0 H locs 0 0 Q0 (F0 m 65 ls []) := by
            intro v5 hv5 H locs wb ls hl
            refine lv_aload_n hx hb dX4_worth_65 rfl (lv_at hl 0 rfl) ?_
            refine lv_aload_n hx hb dX4_worth_66 rfl (lv_at hl 0 rfl) ?_
            refine lv_iload_n hx hb dX4_worth_67 rfl (lv_at hl 1 rfl) ?_
            refine rb_callV S wb EN0_ok (m_no_t l D cI cC cD ad th n st mn ar (nI c) (nI 0) (tells_f (no_f hc (by omega)))) (bw5 bw_520 bw_522 bw_23 bw_37 bw_523) (rb_recv wb 0 (by decide) rfl rfl) hdX4_no rfl ⟨rfl, rfl⟩ ⟨by decide, by decide⟩ hl.1 (Nat.le_of_ble_eq_true rfl) ⟨Nat.zero_le _, Nat.zero_le _⟩ (rest := [.ref (ad 0)]) (st1 := [.int (nI 0), .ref (ad 0)]) rfl rfl dX4_worth_68 (fun H locs wb => ?_)
            refine lv_if_ne (tgt := 93) hx hb dX4_worth_71 (by decide) (fun h71 => absurd (by decide) h71) (fun h71 => ?_)
            refine lv_aload_n hx hb dX4_worth_74 rfl (lv_at hl 0 rfl) ?_
            refine lv_iload_n hx hb dX4_worth_75 rfl (lv_at hl 2 rfl) ?_
            refine rb_callV S wb EN0_ok (m_no_t l D cI cC cD ad th n st mn ar (nI j) (nI 0) (tells_f (no_f hj (by omega)))) (bw5 bw_520 bw_522 bw_23 bw_37 bw_523) (rb_recv wb 0 (by decide) rfl rfl) hdX4_no rfl ⟨rfl, rfl⟩ ⟨by decide, by decide⟩ hl.1 (Nat.le_of_ble_eq_true rfl) ⟨Nat.zero_le _, Nat.zero_le _⟩ (rest := [.ref (ad 0)]) (st1 := [.int (nI 0), .ref (ad 0)]) rfl rfl dX4_worth_76 (fun H locs wb => ?_)
            refine lv_if_ne (tgt := 93) hx hb dX4_worth_79 (by decide) (fun h79 => absurd (by decide) h79) (fun h79 => ?_)
            refine lv_iload_n hx hb dX4_worth_82 rfl (lv_at hl 3 rfl) ?_
            refine lv_if_lt (tgt := 93) hx hb dX4_worth_83 (by decide) (fun h83 => absurd h83 hz1) (fun h83 => ?_)
            refine lv_iload_n hx hb dX4_worth_86 rfl (lv_at hl 3 rfl) ?_
            refine lv_sipush (v := nI 1000) hx hb dX4_worth_87 (by decide) ?_
            refine lv_icmp_le (tgt := 97) hx hb dX4_worth_90 (by decide) (fun h90 => ?_) (fun h90 => absurd hz2 h90)
            refine lv_iload hx hb dX4_worth_97 (lv_at hl 4 rfl) ?_
            refine lv_if_eq (tgt := 111) hx hb dX4_worth_99 (by decide) (fun h99 => ?_) (fun h99 => absurd (hv.2 hs) h99)
            refine lv_iconst (v := nI 0) hx hb dX4_worth_111 (by decide) ?_
            refine rb_put (E' := mE ad cI (nI 0) n st mn ar) S wb 0 (by decide) rfl rfl in4 tyX4 tyX4_ok nmX4 0 (by decide) bw_462 rfl rfl rfl (Nat.le_of_ble_eq_true rfl) (m12 rfl rfl rfl rfl rfl rfl rfl rfl rfl rfl rfl rfl) dX4_worth_112 (fun H locs wb => ?_)
            refine lv_aload_n hx hb dX4_worth_115 rfl (lv_at hl 0 rfl) ?_
            refine rb_get S wb 0 (by decide) rfl rfl in4 0 (by decide) bw_462 rfl dX4_worth_116 ?_
            refine lv_if_eq (tgt := 123) hx hb dX4_worth_119 (by decide) (fun h119 => ?_) (fun h119 => absurd (by decide) h119)
            refine lv_aload_n hx hb dX4_worth_123 rfl (lv_at hl 0 rfl) ?_
            refine rb_get S wb 0 (by decide) rfl rfl in4 3 (by decide) bw_465 rfl dX4_worth_124 ?_
            refine lv_bipush (v := nI 6) hx hb dX4_worth_127 (by decide) ?_
            refine lv_iload_n hx hb dX4_worth_129 rfl (lv_at hl 1 rfl) ?_
            refine lv_imul hx hb dX4_worth_130 ?_
            refine nb_ren (y := nI (6 * c)) (pk_mul _ _) ?_
            refine lv_iload_n hx hb dX4_worth_131 rfl (lv_at hl 2 rfl) ?_
            refine lv_iadd hx hb dX4_worth_132 ?_
            refine nb_ren (y := nI (6 * c + j)) (nI_add _ _) ?_
            refine lv_iload_n hx hb dX4_worth_133 rfl (lv_at hl 3 rfl) ?_
            refine rb_ast (E' := mE ad cI (nI 0) n st mn (va_up ar 1 (upd (ar 1) (6 * c + j) z))) (n := 36) (f := ar 1) S wb 1 (by decide) rfl 0 rfl (6 * c + j) (by omega) (by decide) (m12 rfl rfl rfl rfl rfl rfl rfl rfl rfl rfl rfl rfl) dX4_worth_134 (fun H locs wb => ?_)
            refine lv_iload hx hb dX4_worth_135 (lv_at hl 4 rfl) ?_
            refine lv_if_eq (tgt := 183) hx hb dX4_worth_137 (by decide) (fun h137 => ?_) (fun h137 => absurd (hv.2 hs) h137)
            exact rb_vret S hr hlk hQ wb (m12 rfl rfl rfl rfl rfl rfl rfl rfl rfl rfl rfl rfl) dX4_worth_183
        refine lv_aload_n hx hb dX4_worth_43 rfl (lv_at hl 0 rfl) ?_
        refine rb_get S wb 0 (by decide) rfl rfl in4 2 (by decide) bw_464 rfl dX4_worth_44 ?_
        refine lv_iconst (v := nI 1) hx hb dX4_worth_47 (by decide) ?_
        refine lv_icmp_ne (tgt := 62) hx hb dX4_worth_48 (by decide) (fun h48 => ?_) (fun h48 => ?_)
        · refine lv_iconst (v := nI 0) hx hb dX4_worth_62 (by decide) ?_
          refine lv_istore (lv' := [(5, .int (nI 0)), (0, .ref (ad 0)), (1, .int (nI c)), (2, .int (nI j)), (3, .int z), (4, .int v)]) hx hb dX4_worth_63 hl (by decide) rfl (fun ls hl => ?_)
          exact L65 (nI 0) (by first | exact tells_f (fun q => h48 q.1) | exact tells_f (fun q => tells_F hrs h55 q.2) | exact tells_t ⟨h48, tells_T hrs h55⟩) _ _ wb ls (lv_sub hl [1, 2, 3, 4, 5, 0] rfl)
        · refine lv_aload_n hx hb dX4_worth_51 rfl (lv_at hl 0 rfl) ?_
          obtain ⟨rs, hrs⟩ := tells_ex (stl ar n)
          refine rb_callV S wb EN0_ok (m_isSettled l D cI cC cD ad th n st mn ar hn hT rs hrs) (bw5 bw_516 bw_518 bw_22 bw_37 bw_519) (rb_recv wb 0 (by decide) rfl rfl) hdX4_isSettled rfl ⟨rfl, rfl⟩ ⟨by decide, by decide⟩ hl.1 (Nat.le_of_ble_eq_true rfl) ⟨Nat.zero_le _, Nat.zero_le _⟩ (rest := []) (st1 := [.int rs]) rfl rfl dX4_worth_52 (fun H locs wb => ?_)
          refine lv_if_eq (tgt := 62) hx hb dX4_worth_55 (by decide) (fun h55 => ?_) (fun h55 => ?_)
          · refine lv_iconst (v := nI 0) hx hb dX4_worth_62 (by decide) ?_
            refine lv_istore (lv' := [(5, .int (nI 0)), (0, .ref (ad 0)), (1, .int (nI c)), (2, .int (nI j)), (3, .int z), (4, .int v)]) hx hb dX4_worth_63 hl (by decide) rfl (fun ls hl => ?_)
            exact L65 (nI 0) (by first | exact tells_f (fun q => h48 q.1) | exact tells_f (fun q => tells_F hrs h55 q.2) | exact tells_t ⟨h48, tells_T hrs h55⟩) _ _ wb ls (lv_sub hl [1, 2, 3, 4, 5, 0] rfl)
          · refine lv_iconst (v := nI 1) hx hb dX4_worth_58 (by decide) ?_
            refine lv_goto (tgt := 63) hx hb dX4_worth_59 (by decide) ?_
            refine lv_istore (lv' := [(5, .int (nI 1)), (0, .ref (ad 0)), (1, .int (nI c)), (2, .int (nI j)), (3, .int z), (4, .int v)]) hx hb dX4_worth_63 hl (by decide) rfl (fun ls hl => ?_)
            exact L65 (nI 1) (by first | exact tells_f (fun q => h48 q.1) | exact tells_f (fun q => tells_F hrs h55 q.2) | exact tells_t ⟨h48, tells_T hrs h55⟩) _ _ wb ls (lv_sub hl [1, 2, 3, 4, 5, 0] rfl)
      · refine lv_iload hx hb dX4_worth_15 (lv_at hl 4 rfl) ?_
        refine lv_if_ne (tgt := 30) hx hb dX4_worth_17 (by decide) (fun h17 => ?_) (fun h17 => ?_)
        · refine lv_iconst (v := nI 1) hx hb dX4_worth_30 (by decide) ?_
          refine lv_goto (tgt := 35) hx hb dX4_worth_31 (by decide) ?_
          refine lv_istore (lv' := [(4, .int (nI 1)), (0, .ref (ad 0)), (1, .int (nI c)), (2, .int (nI j)), (3, .int z), (5, .int (nI k))]) hx hb dX4_worth_35 hl (by decide) rfl (fun ls hl => ?_)
          refine lv_iinc (v := nI (k + 1)) (lv' := [(5, .int (nI (k + 1))), (4, .int (nI 1)), (0, .ref (ad 0)), (1, .int (nI c)), (2, .int (nI j)), (3, .int z)]) hx hb dX4_worth_37 hl (k := 5) rfl (nI_s1 _) (by decide) rfl (fun ls hl => ?_)
          refine lv_goto (tgt := 6) hx hb dX4_worth_40 (by decide) ?_
          exact ih (k + 1) (nI 1) (by omega) (by omega) (by first | exact tells_t (SB_1 (tells_T hv h17)) | exact tells_t (SB_2 h27) | exact tells_f (SB_3 (tells_F hv h17) h27)) _ _ wb ls (lv_sub hl [2, 3, 4, 5, 1, 0] rfl)
        · refine lv_aload_n hx hb dX4_worth_20 rfl (lv_at hl 0 rfl) ?_
          refine rb_get S wb 0 (by decide) rfl rfl in4 10 (by decide) bw_472 rfl dX4_worth_21 ?_
          refine lv_iload hx hb dX4_worth_24 (lv_at hl 5 rfl) ?_
          refine rb_ald (n := 6) (f := ar 8) (x := ar 8 k) S wb 8 (by decide) rfl 0 rfl k (by omega) (by decide) rfl dX4_worth_26 ?_
          refine lv_if_le (tgt := 34) hx hb dX4_worth_27 (by decide) (fun h27 => ?_) (fun h27 => ?_)
          · refine lv_iconst (v := nI 0) hx hb dX4_worth_34 (by decide) ?_
            refine lv_istore (lv' := [(4, .int (nI 0)), (0, .ref (ad 0)), (1, .int (nI c)), (2, .int (nI j)), (3, .int z), (5, .int (nI k))]) hx hb dX4_worth_35 hl (by decide) rfl (fun ls hl => ?_)
            refine lv_iinc (v := nI (k + 1)) (lv' := [(5, .int (nI (k + 1))), (4, .int (nI 0)), (0, .ref (ad 0)), (1, .int (nI c)), (2, .int (nI j)), (3, .int z)]) hx hb dX4_worth_37 hl (k := 5) rfl (nI_s1 _) (by decide) rfl (fun ls hl => ?_)
            refine lv_goto (tgt := 6) hx hb dX4_worth_40 (by decide) ?_
            exact ih (k + 1) (nI 0) (by omega) (by omega) (by first | exact tells_t (SB_1 (tells_T hv h17)) | exact tells_t (SB_2 h27) | exact tells_f (SB_3 (tells_F hv h17) h27)) _ _ wb ls (lv_sub hl [2, 3, 4, 5, 1, 0] rfl)
          · refine lv_iconst (v := nI 1) hx hb dX4_worth_30 (by decide) ?_
            refine lv_goto (tgt := 35) hx hb dX4_worth_31 (by decide) ?_
            refine lv_istore (lv' := [(4, .int (nI 1)), (0, .ref (ad 0)), (1, .int (nI c)), (2, .int (nI j)), (3, .int z), (5, .int (nI k))]) hx hb dX4_worth_35 hl (by decide) rfl (fun ls hl => ?_)
            refine lv_iinc (v := nI (k + 1)) (lv' := [(5, .int (nI (k + 1))), (4, .int (nI 1)), (0, .ref (ad 0)), (1, .int (nI c)), (2, .int (nI j)), (3, .int z)]) hx hb dX4_worth_37 hl (k := 5) rfl (nI_s1 _) (by decide) rfl (fun ls hl => ?_)
            refine lv_goto (tgt := 6) hx hb dX4_worth_40 (by decide) ?_
            exact ih (k + 1) (nI 1) (by omega) (by omega) (by first | exact tells_t (SB_1 (tells_T hv h17)) | exact tells_t (SB_2 h27) | exact tells_f (SB_3 (tells_F hv h17) h27)) _ _ wb ls (lv_sub hl [2, 3, 4, 5, 1, 0] rfl)
  exact L6 (n + 1) 0 (nI 0) (by omega) (by omega) (tells_f (fun q => by obtain ⟨_, q, _⟩ := q; exact absurd q (Nat.not_lt_zero _))) _ _ wb ls (lv_sub hl [2, 3, 4, 5, 1, 0] rfl)

set_option maxHeartbeats 4000000 in
set_option maxRecDepth 100000 in
theorem m_worth1 (l : Launch) (D : va_G) (cI cC cD : ClassId) (ad : Nat → Nat) (th : Int32) (n : Nat) (st : Int32) (mn : Nat) (ar : Nat → Nat → Int32) (c j t : Nat) (z : Int32) (hn : n ≤ 6) (hT : HT ar n) (hc : c < n) (hj : j < n) (hz1 : ¬ z < 0) (hz2 : z ≤ nI 1000) (hs : SB ar n) (hd : st = nI 1 ∧ stl ar n) (ht : t < 6) (et : ar 7 c = nI t) : RM l yX4_worth cX4_worth 6 none ({ frames := 1, cells := 0, slots := 0, locals := 23 }) D (ty3 cI cC cD) EN0 [.ref (ad 0), .int (nI c), .int (nI j), .int z] ad 12 (mE ad cI th n st mn ar) (mE ad cI (nI 0) n st 0 (va_up (va_up (va_up (va_up (va_up ar 1 (upd (ar 1) (6 * c + j) z)) 4 (upd (ar 4) t (-1))) 5 (upd (ar 5) t (nI 0))) 6 (upd (ar 6) c (nI 0))) 7 (upd (ar 7) c (-1)))) none := by
  refine RM.of (by decide) (Nat.le_of_ble_eq_true rfl) ?_
  intro p e s m below meth c0 A ls args Q0 S hr hlk hQ wb hl
  have hx := S.1
  have hb := S.2.1
  have hl : lv_has ls 6 [(0, .ref (ad 0)), (1, .int (nI c)), (2, .int (nI j)), (3, .int z)] := hl
  refine lv_iconst (v := nI 0) hx hb dX4_worth_0 (by decide) ?_
  refine lv_istore (lv' := [(4, .int (nI 0)), (0, .ref (ad 0)), (1, .int (nI c)), (2, .int (nI j)), (3, .int z)]) hx hb dX4_worth_1 hl (by decide) rfl (fun ls hl => ?_)
  refine lv_iconst (v := nI 0) hx hb dX4_worth_3 (by decide) ?_
  refine lv_istore (lv' := [(5, .int (nI 0)), (4, .int (nI 0)), (0, .ref (ad 0)), (1, .int (nI c)), (2, .int (nI j)), (3, .int z)]) hx hb dX4_worth_4 hl (by decide) rfl (fun ls hl => ?_)
  have L6 : ∀ (fuel : Nat) (k : Nat) (v : Int32) (hkn : k ≤ n) (hfu : n < k + fuel) (hv : tells v (SB ar k)) (H : Heap) (locs : List Loc) (wb : WB D (ty3 cI cC cD) EN0 ad 12 A s (mE ad cI th n st mn ar) H locs) (ls : Array Slot) (hl : lv_has ls 6 [(0, .ref (ad 0)), (1, .int (nI c)), (2, .int (nI j)), (3, .int z), (4, .int v), (5, .int (nI k))]), W p l e ({ frames := 1, cells := 0, slots := 0, locals := 23 }) s m args below meth c0 H locs 0 0 Q0 (F0 m 6 ls []) := by
    intro fuel
    induction fuel with
    | zero => intro k v hkn hfu hv H locs wb ls hl; exact absurd hfu (by omega)
    | succ fuel ih =>
      intro k v hkn hfu hv H locs wb ls hl
      refine lv_iload hx hb dX4_worth_6 (lv_at hl 5 rfl) ?_
      refine lv_aload_n hx hb dX4_worth_8 rfl (lv_at hl 0 rfl) ?_
      refine rb_get S wb 0 (by decide) rfl rfl in4 1 (by decide) bw_463 rfl dX4_worth_9 ?_
      refine nb_icmp_ge (tgt := 43) hx hb dX4_worth_12 (by decide) (by omega) (by omega) (fun h12 => ?_) (fun h12 => ?_)
      · have hke : k = n := by omega
        rw [hke] at hv
        have L65 : ∀ (v5 : Int32) (hv5 : tells v5 (st = nI 1 ∧ stl ar n)) (H : Heap) (locs : List Loc) (wb : WB D (ty3 cI cC cD) EN0 ad 12 A s (mE ad cI th n st mn ar) H locs) (ls : Array Slot) (hl : lv_has ls 6 [(0, .ref (ad 0)), (1, .int (nI c)), (2, .int (nI j)), (3, .int z), (4, .int v), (5, .int v5)]), W p l e ({ frames := 1, cells := 0, slots := 0, locals := 23 }) s m args below meth c0 H locs 0 0 Q0 (F0 m 65 ls []) := by
            intro v5 hv5 H locs wb ls hl
            refine lv_aload_n hx hb dX4_worth_65 rfl (lv_at hl 0 rfl) ?_
            refine lv_aload_n hx hb dX4_worth_66 rfl (lv_at hl 0 rfl) ?_
            refine lv_iload_n hx hb dX4_worth_67 rfl (lv_at hl 1 rfl) ?_
            refine rb_callV S wb EN0_ok (m_no_t l D cI cC cD ad th n st mn ar (nI c) (nI 0) (tells_f (no_f hc (by omega)))) (bw5 bw_520 bw_522 bw_23 bw_37 bw_523) (rb_recv wb 0 (by decide) rfl rfl) hdX4_no rfl ⟨rfl, rfl⟩ ⟨by decide, by decide⟩ hl.1 (Nat.le_of_ble_eq_true rfl) ⟨Nat.zero_le _, Nat.zero_le _⟩ (rest := [.ref (ad 0)]) (st1 := [.int (nI 0), .ref (ad 0)]) rfl rfl dX4_worth_68 (fun H locs wb => ?_)
            refine lv_if_ne (tgt := 93) hx hb dX4_worth_71 (by decide) (fun h71 => absurd (by decide) h71) (fun h71 => ?_)
            refine lv_aload_n hx hb dX4_worth_74 rfl (lv_at hl 0 rfl) ?_
            refine lv_iload_n hx hb dX4_worth_75 rfl (lv_at hl 2 rfl) ?_
            refine rb_callV S wb EN0_ok (m_no_t l D cI cC cD ad th n st mn ar (nI j) (nI 0) (tells_f (no_f hj (by omega)))) (bw5 bw_520 bw_522 bw_23 bw_37 bw_523) (rb_recv wb 0 (by decide) rfl rfl) hdX4_no rfl ⟨rfl, rfl⟩ ⟨by decide, by decide⟩ hl.1 (Nat.le_of_ble_eq_true rfl) ⟨Nat.zero_le _, Nat.zero_le _⟩ (rest := [.ref (ad 0)]) (st1 := [.int (nI 0), .ref (ad 0)]) rfl rfl dX4_worth_76 (fun H locs wb => ?_)
            refine lv_if_ne (tgt := 93) hx hb dX4_worth_79 (by decide) (fun h79 => absurd (by decide) h79) (fun h79 => ?_)
            refine lv_iload_n hx hb dX4_worth_82 rfl (lv_at hl 3 rfl) ?_
            refine lv_if_lt (tgt := 93) hx hb dX4_worth_83 (by decide) (fun h83 => absurd h83 hz1) (fun h83 => ?_)
            refine lv_iload_n hx hb dX4_worth_86 rfl (lv_at hl 3 rfl) ?_
            refine lv_sipush (v := nI 1000) hx hb dX4_worth_87 (by decide) ?_
            refine lv_icmp_le (tgt := 97) hx hb dX4_worth_90 (by decide) (fun h90 => ?_) (fun h90 => absurd hz2 h90)
            refine lv_iload hx hb dX4_worth_97 (lv_at hl 4 rfl) ?_
            refine lv_if_eq (tgt := 111) hx hb dX4_worth_99 (by decide) (fun h99 => absurd h99 (fun q => tells_F hv q hs)) (fun h99 => ?_)
            refine lv_iload hx hb dX4_worth_102 (lv_at hl 5 rfl) ?_
            refine lv_if_ne (tgt := 111) hx hb dX4_worth_104 (by decide) (fun h104 => ?_) (fun h104 => absurd h104 (fun q => tells_F hv5 q hd))
            refine lv_iconst (v := nI 0) hx hb dX4_worth_111 (by decide) ?_
            refine rb_put (E' := mE ad cI (nI 0) n st mn ar) S wb 0 (by decide) rfl rfl in4 tyX4 tyX4_ok nmX4 0 (by decide) bw_462 rfl rfl rfl (Nat.le_of_ble_eq_true rfl) (m12 rfl rfl rfl rfl rfl rfl rfl rfl rfl rfl rfl rfl) dX4_worth_112 (fun H locs wb => ?_)
            refine lv_aload_n hx hb dX4_worth_115 rfl (lv_at hl 0 rfl) ?_
            refine rb_get S wb 0 (by decide) rfl rfl in4 0 (by decide) bw_462 rfl dX4_worth_116 ?_
            refine lv_if_eq (tgt := 123) hx hb dX4_worth_119 (by decide) (fun h119 => ?_) (fun h119 => absurd (by decide) h119)
            refine lv_aload_n hx hb dX4_worth_123 rfl (lv_at hl 0 rfl) ?_
            refine rb_get S wb 0 (by decide) rfl rfl in4 3 (by decide) bw_465 rfl dX4_worth_124 ?_
            refine lv_bipush (v := nI 6) hx hb dX4_worth_127 (by decide) ?_
            refine lv_iload_n hx hb dX4_worth_129 rfl (lv_at hl 1 rfl) ?_
            refine lv_imul hx hb dX4_worth_130 ?_
            refine nb_ren (y := nI (6 * c)) (pk_mul _ _) ?_
            refine lv_iload_n hx hb dX4_worth_131 rfl (lv_at hl 2 rfl) ?_
            refine lv_iadd hx hb dX4_worth_132 ?_
            refine nb_ren (y := nI (6 * c + j)) (nI_add _ _) ?_
            refine lv_iload_n hx hb dX4_worth_133 rfl (lv_at hl 3 rfl) ?_
            refine rb_ast (E' := mE ad cI (nI 0) n st mn (va_up ar 1 (upd (ar 1) (6 * c + j) z))) (n := 36) (f := ar 1) S wb 1 (by decide) rfl 0 rfl (6 * c + j) (by omega) (by decide) (m12 rfl rfl rfl rfl rfl rfl rfl rfl rfl rfl rfl rfl) dX4_worth_134 (fun H locs wb => ?_)
            refine lv_iload hx hb dX4_worth_135 (lv_at hl 4 rfl) ?_
            refine lv_if_eq (tgt := 183) hx hb dX4_worth_137 (by decide) (fun h137 => absurd h137 (fun q => tells_F hv q hs)) (fun h137 => ?_)
            refine lv_aload_n hx hb dX4_worth_140 rfl (lv_at hl 0 rfl) ?_
            refine lv_iconst (v := nI 0) hx hb dX4_worth_141 (by decide) ?_
            refine rb_put (E' := mE ad cI (nI 0) n st 0 (va_up ar 1 (upd (ar 1) (6 * c + j) z))) S wb 0 (by decide) rfl rfl in4 tyX4 tyX4_ok nmX4 12 (by decide) bw_474 rfl rfl rfl (Nat.le_of_ble_eq_true rfl) (m12 rfl rfl rfl rfl rfl rfl rfl rfl rfl rfl rfl rfl) dX4_worth_142 (fun H locs wb => ?_)
            refine lv_aload_n hx hb dX4_worth_145 rfl (lv_at hl 0 rfl) ?_
            refine rb_get S wb 0 (by decide) rfl rfl in4 6 (by decide) bw_468 rfl dX4_worth_146 ?_
            refine lv_aload_n hx hb dX4_worth_149 rfl (lv_at hl 0 rfl) ?_
            refine rb_get S wb 0 (by decide) rfl rfl in4 9 (by decide) bw_471 rfl dX4_worth_150 ?_
            refine lv_iload_n hx hb dX4_worth_153 rfl (lv_at hl 1 rfl) ?_
            refine rb_ald (n := 6) (f := ar 7) (x := ar 7 c) S wb 7 (by decide) rfl 0 rfl c (by omega) (by decide) rfl dX4_worth_154 ?_
            refine nb_ren (y := nI t) et ?_
            refine lv_iconst (v := (-1)) hx hb dX4_worth_155 (by decide) ?_
            refine rb_ast (E' := mE ad cI (nI 0) n st 0 (va_up (va_up ar 1 (upd (ar 1) (6 * c + j) z)) 4 (upd (ar 4) t (-1)))) (n := 6) (f := ar 4) S wb 4 (by decide) rfl 0 rfl t (by omega) (by decide) (m12 rfl rfl rfl rfl rfl rfl rfl rfl rfl rfl rfl rfl) dX4_worth_156 (fun H locs wb => ?_)
            refine lv_aload_n hx hb dX4_worth_157 rfl (lv_at hl 0 rfl) ?_
            refine rb_get S wb 0 (by decide) rfl rfl in4 7 (by decide) bw_469 rfl dX4_worth_158 ?_
            refine lv_aload_n hx hb dX4_worth_161 rfl (lv_at hl 0 rfl) ?_
            refine rb_get S wb 0 (by decide) rfl rfl in4 9 (by decide) bw_471 rfl dX4_worth_162 ?_
            refine lv_iload_n hx hb dX4_worth_165 rfl (lv_at hl 1 rfl) ?_
            refine rb_ald (n := 6) (f := ar 7) (x := ar 7 c) S wb 7 (by decide) rfl 0 rfl c (by omega) (by decide) rfl dX4_worth_166 ?_
            refine nb_ren (y := nI t) et ?_
            refine lv_iconst (v := nI 0) hx hb dX4_worth_167 (by decide) ?_
            refine rb_ast (E' := mE ad cI (nI 0) n st 0 (va_up (va_up (va_up ar 1 (upd (ar 1) (6 * c + j) z)) 4 (upd (ar 4) t (-1))) 5 (upd (ar 5) t (nI 0)))) (n := 6) (f := ar 5) S wb 5 (by decide) rfl 0 rfl t (by omega) (by decide) (m12 rfl rfl rfl rfl rfl rfl rfl rfl rfl rfl rfl rfl) dX4_worth_168 (fun H locs wb => ?_)
            refine lv_aload_n hx hb dX4_worth_169 rfl (lv_at hl 0 rfl) ?_
            refine rb_get S wb 0 (by decide) rfl rfl in4 8 (by decide) bw_470 rfl dX4_worth_170 ?_
            refine lv_iload_n hx hb dX4_worth_173 rfl (lv_at hl 1 rfl) ?_
            refine lv_iconst (v := nI 0) hx hb dX4_worth_174 (by decide) ?_
            refine rb_ast (E' := mE ad cI (nI 0) n st 0 (va_up (va_up (va_up (va_up ar 1 (upd (ar 1) (6 * c + j) z)) 4 (upd (ar 4) t (-1))) 5 (upd (ar 5) t (nI 0))) 6 (upd (ar 6) c (nI 0)))) (n := 6) (f := ar 6) S wb 6 (by decide) rfl 0 rfl c (by omega) (by decide) (m12 rfl rfl rfl rfl rfl rfl rfl rfl rfl rfl rfl rfl) dX4_worth_175 (fun H locs wb => ?_)
            refine lv_aload_n hx hb dX4_worth_176 rfl (lv_at hl 0 rfl) ?_
            refine rb_get S wb 0 (by decide) rfl rfl in4 9 (by decide) bw_471 rfl dX4_worth_177 ?_
            refine lv_iload_n hx hb dX4_worth_180 rfl (lv_at hl 1 rfl) ?_
            refine lv_iconst (v := (-1)) hx hb dX4_worth_181 (by decide) ?_
            refine rb_ast (E' := mE ad cI (nI 0) n st 0 (va_up (va_up (va_up (va_up (va_up ar 1 (upd (ar 1) (6 * c + j) z)) 4 (upd (ar 4) t (-1))) 5 (upd (ar 5) t (nI 0))) 6 (upd (ar 6) c (nI 0))) 7 (upd (ar 7) c (-1)))) (n := 6) (f := ar 7) S wb 7 (by decide) rfl 0 rfl c (by omega) (by decide) (m12 rfl rfl rfl rfl rfl rfl rfl rfl rfl rfl rfl rfl) dX4_worth_182 (fun H locs wb => ?_)
            exact rb_vret S hr hlk hQ wb (m12 rfl rfl rfl rfl rfl rfl rfl rfl rfl rfl rfl rfl) dX4_worth_183
        refine lv_aload_n hx hb dX4_worth_43 rfl (lv_at hl 0 rfl) ?_
        refine rb_get S wb 0 (by decide) rfl rfl in4 2 (by decide) bw_464 rfl dX4_worth_44 ?_
        refine lv_iconst (v := nI 1) hx hb dX4_worth_47 (by decide) ?_
        refine lv_icmp_ne (tgt := 62) hx hb dX4_worth_48 (by decide) (fun h48 => ?_) (fun h48 => ?_)
        · refine lv_iconst (v := nI 0) hx hb dX4_worth_62 (by decide) ?_
          refine lv_istore (lv' := [(5, .int (nI 0)), (0, .ref (ad 0)), (1, .int (nI c)), (2, .int (nI j)), (3, .int z), (4, .int v)]) hx hb dX4_worth_63 hl (by decide) rfl (fun ls hl => ?_)
          exact L65 (nI 0) (by first | exact tells_f (fun q => h48 q.1) | exact tells_f (fun q => tells_F hrs h55 q.2) | exact tells_t ⟨h48, tells_T hrs h55⟩) _ _ wb ls (lv_sub hl [1, 2, 3, 4, 5, 0] rfl)
        · refine lv_aload_n hx hb dX4_worth_51 rfl (lv_at hl 0 rfl) ?_
          obtain ⟨rs, hrs⟩ := tells_ex (stl ar n)
          refine rb_callV S wb EN0_ok (m_isSettled l D cI cC cD ad th n st mn ar hn hT rs hrs) (bw5 bw_516 bw_518 bw_22 bw_37 bw_519) (rb_recv wb 0 (by decide) rfl rfl) hdX4_isSettled rfl ⟨rfl, rfl⟩ ⟨by decide, by decide⟩ hl.1 (Nat.le_of_ble_eq_true rfl) ⟨Nat.zero_le _, Nat.zero_le _⟩ (rest := []) (st1 := [.int rs]) rfl rfl dX4_worth_52 (fun H locs wb => ?_)
          refine lv_if_eq (tgt := 62) hx hb dX4_worth_55 (by decide) (fun h55 => ?_) (fun h55 => ?_)
          · refine lv_iconst (v := nI 0) hx hb dX4_worth_62 (by decide) ?_
            refine lv_istore (lv' := [(5, .int (nI 0)), (0, .ref (ad 0)), (1, .int (nI c)), (2, .int (nI j)), (3, .int z), (4, .int v)]) hx hb dX4_worth_63 hl (by decide) rfl (fun ls hl => ?_)
            exact L65 (nI 0) (by first | exact tells_f (fun q => h48 q.1) | exact tells_f (fun q => tells_F hrs h55 q.2) | exact tells_t ⟨h48, tells_T hrs h55⟩) _ _ wb ls (lv_sub hl [1, 2, 3, 4, 5, 0] rfl)
          · refine lv_iconst (v := nI 1) hx hb dX4_worth_58 (by decide) ?_
            refine lv_goto (tgt := 63) hx hb dX4_worth_59 (by decide) ?_
            refine lv_istore (lv' := [(5, .int (nI 1)), (0, .ref (ad 0)), (1, .int (nI c)), (2, .int (nI j)), (3, .int z), (4, .int v)]) hx hb dX4_worth_63 hl (by decide) rfl (fun ls hl => ?_)
            exact L65 (nI 1) (by first | exact tells_f (fun q => h48 q.1) | exact tells_f (fun q => tells_F hrs h55 q.2) | exact tells_t ⟨h48, tells_T hrs h55⟩) _ _ wb ls (lv_sub hl [1, 2, 3, 4, 5, 0] rfl)
      · refine lv_iload hx hb dX4_worth_15 (lv_at hl 4 rfl) ?_
        refine lv_if_ne (tgt := 30) hx hb dX4_worth_17 (by decide) (fun h17 => ?_) (fun h17 => ?_)
        · refine lv_iconst (v := nI 1) hx hb dX4_worth_30 (by decide) ?_
          refine lv_goto (tgt := 35) hx hb dX4_worth_31 (by decide) ?_
          refine lv_istore (lv' := [(4, .int (nI 1)), (0, .ref (ad 0)), (1, .int (nI c)), (2, .int (nI j)), (3, .int z), (5, .int (nI k))]) hx hb dX4_worth_35 hl (by decide) rfl (fun ls hl => ?_)
          refine lv_iinc (v := nI (k + 1)) (lv' := [(5, .int (nI (k + 1))), (4, .int (nI 1)), (0, .ref (ad 0)), (1, .int (nI c)), (2, .int (nI j)), (3, .int z)]) hx hb dX4_worth_37 hl (k := 5) rfl (nI_s1 _) (by decide) rfl (fun ls hl => ?_)
          refine lv_goto (tgt := 6) hx hb dX4_worth_40 (by decide) ?_
          exact ih (k + 1) (nI 1) (by omega) (by omega) (by first | exact tells_t (SB_1 (tells_T hv h17)) | exact tells_t (SB_2 h27) | exact tells_f (SB_3 (tells_F hv h17) h27)) _ _ wb ls (lv_sub hl [2, 3, 4, 5, 1, 0] rfl)
        · refine lv_aload_n hx hb dX4_worth_20 rfl (lv_at hl 0 rfl) ?_
          refine rb_get S wb 0 (by decide) rfl rfl in4 10 (by decide) bw_472 rfl dX4_worth_21 ?_
          refine lv_iload hx hb dX4_worth_24 (lv_at hl 5 rfl) ?_
          refine rb_ald (n := 6) (f := ar 8) (x := ar 8 k) S wb 8 (by decide) rfl 0 rfl k (by omega) (by decide) rfl dX4_worth_26 ?_
          refine lv_if_le (tgt := 34) hx hb dX4_worth_27 (by decide) (fun h27 => ?_) (fun h27 => ?_)
          · refine lv_iconst (v := nI 0) hx hb dX4_worth_34 (by decide) ?_
            refine lv_istore (lv' := [(4, .int (nI 0)), (0, .ref (ad 0)), (1, .int (nI c)), (2, .int (nI j)), (3, .int z), (5, .int (nI k))]) hx hb dX4_worth_35 hl (by decide) rfl (fun ls hl => ?_)
            refine lv_iinc (v := nI (k + 1)) (lv' := [(5, .int (nI (k + 1))), (4, .int (nI 0)), (0, .ref (ad 0)), (1, .int (nI c)), (2, .int (nI j)), (3, .int z)]) hx hb dX4_worth_37 hl (k := 5) rfl (nI_s1 _) (by decide) rfl (fun ls hl => ?_)
            refine lv_goto (tgt := 6) hx hb dX4_worth_40 (by decide) ?_
            exact ih (k + 1) (nI 0) (by omega) (by omega) (by first | exact tells_t (SB_1 (tells_T hv h17)) | exact tells_t (SB_2 h27) | exact tells_f (SB_3 (tells_F hv h17) h27)) _ _ wb ls (lv_sub hl [2, 3, 4, 5, 1, 0] rfl)
          · refine lv_iconst (v := nI 1) hx hb dX4_worth_30 (by decide) ?_
            refine lv_goto (tgt := 35) hx hb dX4_worth_31 (by decide) ?_
            refine lv_istore (lv' := [(4, .int (nI 1)), (0, .ref (ad 0)), (1, .int (nI c)), (2, .int (nI j)), (3, .int z), (5, .int (nI k))]) hx hb dX4_worth_35 hl (by decide) rfl (fun ls hl => ?_)
            refine lv_iinc (v := nI (k + 1)) (lv' := [(5, .int (nI (k + 1))), (4, .int (nI 1)), (0, .ref (ad 0)), (1, .int (nI c)), (2, .int (nI j)), (3, .int z)]) hx hb dX4_worth_37 hl (k := 5) rfl (nI_s1 _) (by decide) rfl (fun ls hl => ?_)
            refine lv_goto (tgt := 6) hx hb dX4_worth_40 (by decide) ?_
            exact ih (k + 1) (nI 1) (by omega) (by omega) (by first | exact tells_t (SB_1 (tells_T hv h17)) | exact tells_t (SB_2 h27) | exact tells_f (SB_3 (tells_F hv h17) h27)) _ _ wb ls (lv_sub hl [2, 3, 4, 5, 1, 0] rfl)
  exact L6 (n + 1) 0 (nI 0) (by omega) (by omega) (tells_f (fun q => by obtain ⟨_, q, _⟩ := q; exact absurd q (Nat.not_lt_zero _))) _ _ wb ls (lv_sub hl [2, 3, 4, 5, 1, 0] rfl)
