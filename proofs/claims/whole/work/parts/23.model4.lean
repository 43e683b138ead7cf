/-! the model's public methods: those that move much -/
theorem tells_ex (P : Prop) : ∃ r, tells r P := by
  by_cases h : P
  · exact ⟨_, tells_t h⟩
  · exact ⟨_, tells_f h⟩
def sm (w : Nat → Int32) : Nat → Int32
  | 0 => 0
  | k + 1 => sm w k + w k
theorem sm_s {w : Nat → Int32} {k : Nat} {v x : Int32} (hv : v = sm w k) (hx : w k = x) : v + x = sm w (k + 1) := by rw [hv, ← hx]; rfl
/-- the value of a job for a crew -/
def vl (n : Nat) (ar : Nat → Nat → Int32) (c j : Nat) : Int32 := ar 1 (6 * c + j) * nI (n + 1) - ar 2 (6 * c + j)
def bst (v : Nat → Int32) : Nat → Nat
  | 0 => 0
  | k + 1 => if v (bst v k) < v (k + 1) then k + 1 else bst v k
theorem bst_le (v : Nat → Int32) : ∀ k, bst v k ≤ k
  | 0 => Nat.le_refl 0
  | k + 1 => by
    unfold bst
    have := bst_le v k
    split <;> omega
theorem bst_t {v : Nat → Int32} {k b : Nat} (hb : b = bst v k) (h : ¬ v (k + 1) ≤ v b) : k + 1 = bst v (k + 1) := by
  rw [bst, ← hb, if_pos (Int32.not_le.mp h)]
theorem bst_f {v : Nat → Int32} {k b : Nat} (hb : b = bst v k) (h : v (k + 1) ≤ v b) : b = bst v (k + 1) := by
  rw [bst, ← hb, if_neg (Int32.not_lt.mpr h)]
/-- the best of the others, job by job from the first on; s0 at first -/
def sc2 (v : Nat → Int32) (b s0 : Nat) : Nat → Nat
  | 0 => s0
  | k + 1 => if k ≠ b ∧ v (sc2 v b s0 k) < v k then k else sc2 v b s0 k
theorem sc2_lt {v : Nat → Int32} {b s0 n : Nat} (h0 : s0 < n) : ∀ k, k ≤ n → sc2 v b s0 k < n
  | 0, _ => h0
  | k + 1, h => by
    unfold sc2
    have := sc2_lt (v := v) (b := b) h0 k (by omega)
    split <;> omega
theorem sc2_e {v : Nat → Int32} {b s0 k x : Nat} (hs : x = sc2 v b s0 k) (h : k = b) : x = sc2 v b s0 (k + 1) := by
  rw [sc2, if_neg (fun q => q.1 h)]; exact hs
theorem sc2_f {v : Nat → Int32} {b s0 k x : Nat} (hs : x = sc2 v b s0 k) (h : v k ≤ v x) : x = sc2 v b s0 (k + 1) := by
  rw [sc2, ← hs, if_neg (fun q => Int32.not_lt.mpr h q.2)]
theorem sc2_t {v : Nat → Int32} {b s0 k x : Nat} (hs : x = sc2 v b s0 k) (h : k ≠ b) (h2 : ¬ v k ≤ v x) : k = sc2 v b s0 (k + 1) := by
  rw [sc2, ← hs, if_pos ⟨h, Int32.not_le.mp h2⟩]
def s0of (b : Nat) : Nat := if b = 0 then 1 else 0
def sndA (kd : Nat) (x2 x3 x4 x5 : Int32) (p : Nat × (Nat → Nat → Int32)) : Nat × (Nat → Nat → Int32) :=
  (p.1 + 1, va_up (va_up p.2 10 (put5 (p.2 10) (5 * p.1) (nI kd) x2 x3 x4 x5)) 11 (upd (p.2 11) kd (p.2 11 kd + nI 1)))
/-- a bid comes -/
noncomputable def bidC (st : Int32) (mn : Nat) (ar : Nat → Nat → Int32) (c j : Nat) (b a : Int32) : Nat × (Nat → Nat → Int32) :=
  if ar 4 j = nI c ∧ ar 5 j = b then sndA 1 (nI c) (nI j) b (ar 3 j) (mn, ar)
  else if ¬ ar 3 j + st ≤ a then sndA 2 (nI c) (nI j) b (ar 3 j) (mn, ar)
  else if ar 4 j = -1 then sndA 1 (nI c) (nI j) b a (mn, va_up (va_up (va_up ar 3 (upd (ar 3) j a)) 4 (upd (ar 4) j (nI c))) 5 (upd (ar 5) j b))
  else sndA 1 (nI c) (nI j) b a (mn + 1, va_up (va_up (sndA 3 (ar 4 j) (nI j) (ar 5 j) a (mn, va_up ar 3 (upd (ar 3) j a))).2 4 (upd (ar 4) j (nI c))) 5 (upd (ar 5) j b))
theorem bidC_1 {st : Int32} {mn : Nat} {ar : Nat → Nat → Int32} {c j : Nat} {b a : Int32} (h : ar 4 j = nI c) (h2 : ar 5 j = b) : bidC st mn ar c j b a = sndA 1 (nI c) (nI j) b (ar 3 j) (mn, ar) := by
  unfold bidC; rw [if_pos ⟨h, h2⟩]
theorem bidC_2 {st : Int32} {mn : Nat} {ar : Nat → Nat → Int32} {c j : Nat} {b a : Int32} (h : ¬ (ar 4 j = nI c ∧ ar 5 j = b)) (h2 : ¬ ar 3 j + st ≤ a) : bidC st mn ar c j b a = sndA 2 (nI c) (nI j) b (ar 3 j) (mn, ar) := by
  unfold bidC; rw [if_neg h, if_pos h2]
theorem bidC_3 {st : Int32} {mn : Nat} {ar : Nat → Nat → Int32} {c j : Nat} {b a : Int32} (h : ¬ (ar 4 j = nI c ∧ ar 5 j = b)) (h2 : ar 3 j + st ≤ a) (h3 : ar 4 j = -1) : bidC st mn ar c j b a = sndA 1 (nI c) (nI j) b a (mn, va_up (va_up (va_up ar 3 (upd (ar 3) j a)) 4 (upd (ar 4) j (nI c))) 5 (upd (ar 5) j b)) := by
  unfold bidC; rw [if_neg h, if_neg (fun q => q h2), if_pos h3]
theorem bidC_4 {st : Int32} {mn : Nat} {ar : Nat → Nat → Int32} {c j : Nat} {b a : Int32} (h : ¬ (ar 4 j = nI c ∧ ar 5 j = b)) (h2 : ar 3 j + st ≤ a) (h3 : ¬ ar 4 j = -1) : bidC st mn ar c j b a = sndA 1 (nI c) (nI j) b a (mn + 1, va_up (va_up (sndA 3 (ar 4 j) (nI j) (ar 5 j) a (mn, va_up ar 3 (upd (ar 3) j a))).2 4 (upd (ar 4) j (nI c))) 5 (upd (ar 5) j b)) := by
  unfold bidC; rw [if_neg h, if_neg (fun q => q h2), if_neg h3]
/-- another letter comes: what the crew knows -/
def knw (ar : Nat → Nat → Int32) (c j : Nat) (a : Int32) : Nat → Nat → Int32 := va_up ar 2 (upd (ar 2) (6 * c + j) (if ar 2 (6 * c + j) < a then a else ar 2 (6 * c + j)))
noncomputable def ansC (ar : Nat → Nat → Int32) (kd : Int32) (c j : Nat) (b a : Int32) : Nat → Nat → Int32 :=
  if b = ar 8 c then (if kd = nI 1 then va_up (knw ar c j a) 6 (upd (ar 6) c (if ar 6 c = nI 1 then nI 2 else ar 6 c)) else va_up (va_up (knw ar c j a) 6 (upd (ar 6) c (nI 0))) 7 (upd (ar 7) c (-1))) else knw ar c j a
theorem ansC_0 {ar : Nat → Nat → Int32} {kd : Int32} {c j : Nat} {b a : Int32} (h : ¬ b = ar 8 c) : ansC ar kd c j b a = knw ar c j a := by unfold ansC; rw [if_neg h]
theorem ansC_1 {ar : Nat → Nat → Int32} {kd : Int32} {c j : Nat} {b a : Int32} (h : b = ar 8 c) (h2 : kd = nI 1) : ansC ar kd c j b a = va_up (knw ar c j a) 6 (upd (ar 6) c (if ar 6 c = nI 1 then nI 2 else ar 6 c)) := by unfold ansC; rw [if_pos h, if_pos h2]
theorem ansC_2 {ar : Nat → Nat → Int32} {kd : Int32} {c j : Nat} {b a : Int32} (h : b = ar 8 c) (h2 : ¬ kd = nI 1) : ansC ar kd c j b a = va_up (va_up (knw ar c j a) 6 (upd (ar 6) c (nI 0))) 7 (upd (ar 7) c (-1)) := by unfold ansC; rw [if_pos h, if_neg h2]
/-- some crew has bid -/
def SB (ar : Nat → Nat → Int32) (k : Nat) : Prop := ∃ c, c < k ∧ 0 < ar 8 c
theorem SB_1 {ar : Nat → Nat → Int32} {k : Nat} (h : SB ar k) : SB ar (k + 1) := by obtain ⟨c, h1, h2⟩ := h; exact ⟨c, by omega, h2⟩
theorem SB_2 {ar : Nat → Nat → Int32} {k : Nat} (h : ¬ ar 8 k ≤ 0) : SB ar (k + 1) := ⟨k, by omega, Int32.not_le.mp h⟩
theorem SB_3 {ar : Nat → Nat → Int32} {k : Nat} (h : ¬ SB ar k) (h2 : ar 8 k ≤ 0) : ¬ SB ar (k + 1) := by
  rintro ⟨c, h1, h3⟩
  by_cases e : c = k
  · subst e; exact Int32.not_lt.mpr h2 h3
  · exact h ⟨c, by omega, h3⟩

set_option maxHeartbeats 4000000 in
set_option maxRecDepth 100000 in
theorem m_phase_x1 (l : Launch) (D : va_G) (cI cC cD : ClassId) (ad : Nat → Nat) (th : Int32) (n : Nat) (st : Int32) (mn : Nat) (ar : Nat → Nat → Int32) (hn : n ≤ 6) (hT : HT ar n) (hs : ¬ stl ar n) : RM l yX4_phase cX4_phase 1 (some .int) ({ frames := 1, cells := 0, slots := 0, locals := 23 }) D (ty3 cI cC cD) EN0 [.ref (ad 0)] ad 12 (mE ad cI th n st mn ar) (mE ad cI (nI 1) n st mn ar) (some (.int (nI 0))) := by
  refine RM.of (by decide) (Nat.le_of_ble_eq_true rfl) ?_
  intro p e s m below meth c0 A ls args Q0 S hr hlk hQ wb hl
  have hx := S.1
  have hb := S.2.1
  have hl : lv_has ls 1 [(0, .ref (ad 0))] := hl
  refine lv_aload_n hx hb dX4_phase_0 rfl (lv_at hl 0 rfl) ?_
  refine lv_aload_n hx hb dX4_phase_1 rfl (lv_at hl 0 rfl) ?_
  refine rb_callV S wb EN0_ok (m_isSettled l D cI cC cD ad th n st mn ar hn hT (nI 0) (tells_f hs)) (bw5 bw_516 bw_518 bw_22 bw_37 bw_519) (rb_recv wb 0 (by decide) rfl rfl) hdX4_isSettled rfl ⟨rfl, rfl⟩ ⟨by decide, by decide⟩ hl.1 (Nat.le_of_ble_eq_true rfl) ⟨Nat.zero_le _, Nat.zero_le _⟩ (rest := [.ref (ad 0)]) (st1 := [.int (nI 0), .ref (ad 0)]) rfl rfl dX4_phase_2 (fun H locs wb => ?_)
  refine lv_if_eq (tgt := 16) hx hb dX4_phase_5 (by decide) (fun h5 => ?_) (fun h5 => absurd (by decide) h5)
  refine lv_iconst (v := nI 1) hx hb dX4_phase_16 (by decide) ?_
  refine lv_goto (tgt := 21) hx hb dX4_phase_17 (by decide) ?_
  refine rb_put (E' := mE ad cI (nI 1) n st mn ar) S wb 0 (by decide) rfl rfl in4 tyX4 tyX4_ok nmX4 0 (by decide) bw_462 rfl rfl rfl (Nat.le_of_ble_eq_true rfl) (m12 rfl rfl rfl rfl rfl rfl rfl rfl rfl rfl rfl rfl) dX4_phase_21 (fun H locs wb => ?_)
  refine lv_aload_n hx hb dX4_phase_24 rfl (lv_at hl 0 rfl) ?_
  refine rb_get S wb 0 (by decide) rfl rfl in4 0 (by decide) bw_462 rfl dX4_phase_25 ?_
  refine lv_if_eq (tgt := 33) hx hb dX4_phase_28 (by decide) (fun h28 => absurd h28 (by decide)) (fun h28 => ?_)
  refine lv_iconst (v := nI 0) hx hb dX4_phase_31 (by decide) ?_
  exact rb_iret S hr hlk hQ rfl wb (m12 rfl rfl rfl rfl rfl rfl rfl rfl rfl rfl rfl rfl) dX4_phase_32

set_option maxHeartbeats 4000000 in
set_option maxRecDepth 100000 in
theorem m_phase_x2 (l : Launch) (D : va_G) (cI cC cD : ClassId) (ad : Nat → Nat) (th : Int32) (n : Nat) (st : Int32) (mn : Nat) (ar : Nat → Nat → Int32) (hn : n ≤ 6) (hT : HT ar n) (hs : stl ar n) (h1 : st = nI 1) : RM l yX4_phase cX4_phase 1 (some .int) ({ frames := 1, cells := 0, slots := 0, locals := 23 }) D (ty3 cI cC cD) EN0 [.ref (ad 0)] ad 12 (mE ad cI th n st mn ar) (mE ad cI (nI 1) n st mn ar) (some (.int (nI 0))) := by
  refine RM.of (by decide) (Nat.le_of_ble_eq_true rfl) ?_
  intro p e s m below meth c0 A ls args Q0 S hr hlk hQ wb hl
  have hx := S.1
  have hb := S.2.1
  have hl : lv_has ls 1 [(0, .ref (ad 0))] := hl
  refine lv_aload_n hx hb dX4_phase_0 rfl (lv_at hl 0 rfl) ?_
  refine lv_aload_n hx hb dX4_phase_1 rfl (lv_at hl 0 rfl) ?_
  refine rb_callV S wb EN0_ok (m_isSettled l D cI cC cD ad th n st mn ar hn hT (nI 1) (tells_t hs)) (bw5 bw_516 bw_518 bw_22 bw_37 bw_519) (rb_recv wb 0 (by decide) rfl rfl) hdX4_isSettled rfl ⟨rfl, rfl⟩ ⟨by decide, by decide⟩ hl.1 (Nat.le_of_ble_eq_true rfl) ⟨Nat.zero_le _, Nat.zero_le _⟩ (rest := [.ref (ad 0)]) (st1 := [.int (nI 1), .ref (ad 0)]) rfl rfl dX4_phase_2 (fun H locs wb => ?_)
  refine lv_if_eq (tgt := 16) hx hb dX4_phase_5 (by decide) (fun h5 => absurd h5 (by decide)) (fun h5 => ?_)
  refine lv_aload_n hx hb dX4_phase_8 rfl (lv_at hl 0 rfl) ?_
  refine rb_get S wb 0 (by decide) rfl rfl in4 2 (by decide) bw_464 rfl dX4_phase_9 ?_
  refine lv_iconst (v := nI 1) hx hb dX4_phase_12 (by decide) ?_
  refine lv_icmp_ne (tgt := 20) hx hb dX4_phase_13 (by decide) (fun h13 => absurd h1 h13) (fun h13 => ?_)
  refine lv_iconst (v := nI 1) hx hb dX4_phase_16 (by decide) ?_
  refine lv_goto (tgt := 21) hx hb dX4_phase_17 (by decide) ?_
  refine rb_put (E' := mE ad cI (nI 1) n st mn ar) S wb 0 (by decide) rfl rfl in4 tyX4 tyX4_ok nmX4 0 (by decide) bw_462 rfl rfl rfl (Nat.le_of_ble_eq_true rfl) (m12 rfl rfl rfl rfl rfl rfl rfl rfl rfl rfl rfl rfl) dX4_phase_21 (fun H locs wb => ?_)
  refine lv_aload_n hx hb dX4_phase_24 rfl (lv_at hl 0 rfl) ?_
  refine rb_get S wb 0 (by decide) rfl rfl in4 0 (by decide) bw_462 rfl dX4_phase_25 ?_
  refine lv_if_eq (tgt := 33) hx hb dX4_phase_28 (by decide) (fun h28 => absurd h28 (by decide)) (fun h28 => ?_)
  refine lv_iconst (v := nI 0) hx hb dX4_phase_31 (by decide) ?_
  exact rb_iret S hr hlk hQ rfl wb (m12 rfl rfl rfl rfl rfl rfl rfl rfl rfl rfl rfl rfl) dX4_phase_32

set_option maxHeartbeats 4000000 in
set_option maxRecDepth 100000 in
theorem m_phase (l : Launch) (D : va_G) (cI cC cD : ClassId) (ad : Nat → Nat) (th : Int32) (n : Nat) (st : Int32) (mn : Nat) (ar : Nat → Nat → Int32) (hn : n ≤ 6) (hT : HT ar n) (hs : stl ar n) (h1 : ¬ st = nI 1) : RM l yX4_phase cX4_phase 1 (some .int) ({ frames := 1, cells := 0, slots := 0, locals := 23 }) D (ty3 cI cC cD) EN0 [.ref (ad 0)] ad 12 (mE ad cI th n st mn ar) (mE ad cI (nI 0) n (st / nI 4) 0 (va_up (va_up (va_up (va_up ar 4 (fz (ar 4) 6 (-1))) 5 (fz (ar 5) 6 (nI 0))) 6 (fz (ar 6) 6 (nI 0))) 7 (fz (ar 7) 6 (-1)))) (some (.int (st / nI 4))) := by
  refine RM.of (by decide) (Nat.le_of_ble_eq_true rfl) ?_
  intro p e s m below meth c0 A ls args Q0 S hr hlk hQ wb hl
  have hx := S.1
  have hb := S.2.1
  have hl : lv_has ls 1 [(0, .ref (ad 0))] := hl
  refine lv_aload_n hx hb dX4_phase_0 rfl (lv_at hl 0 rfl) ?_
  refine lv_aload_n hx hb dX4_phase_1 rfl (lv_at hl 0 rfl) ?_
  refine rb_callV S wb EN0_ok (m_isSettled l D cI cC cD ad th n st mn ar hn hT (nI 1) (tells_t hs)) (bw5 bw_516 bw_518 bw_22 bw_37 bw_519) (rb_recv wb 0 (by decide) rfl rfl) hdX4_isSettled rfl ⟨rfl, rfl⟩ ⟨by decide, by decide⟩ hl.1 (Nat.le_of_ble_eq_true rfl) ⟨Nat.zero_le _, Nat.zero_le _⟩ (rest := [.ref (ad 0)]) (st1 := [.int (nI 1), .ref (ad 0)]) rfl rfl dX4_phase_2 (fun H locs wb => ?_)
  refine lv_if_eq (tgt := 16) hx hb dX4_phase_5 (by decide) (fun h5 => absurd h5 (by decide)) (fun h5 => ?_)
  refine lv_aload_n hx hb dX4_phase_8 rfl (lv_at hl 0 rfl) ?_
  refine rb_get S wb 0 (by decide) rfl rfl in4 2 (by decide) bw_464 rfl dX4_phase_9 ?_
  refine lv_iconst (v := nI 1) hx hb dX4_phase_12 (by decide) ?_
  refine lv_icmp_ne (tgt := 20) hx hb dX4_phase_13 (by decide) (fun h13 => ?_) (fun h13 => absurd h13 h1)
  refine lv_iconst (v := nI 0) hx hb dX4_phase_20 (by decide) ?_
  refine rb_put (E' := mE ad cI (nI 0) n st mn ar) S wb 0 (by decide) rfl rfl in4 tyX4 tyX4_ok nmX4 0 (by decide) bw_462 rfl rfl rfl (Nat.le_of_ble_eq_true rfl) (m12 rfl rfl rfl rfl rfl rfl rfl rfl rfl rfl rfl rfl) dX4_phase_21 (fun H locs wb => ?_)
  refine lv_aload_n hx hb dX4_phase_24 rfl (lv_at hl 0 rfl) ?_
  refine rb_get S wb 0 (by decide) rfl rfl in4 0 (by decide) bw_462 rfl dX4_phase_25 ?_
  refine lv_if_eq (tgt := 33) hx hb dX4_phase_28 (by decide) (fun h28 => ?_) (fun h28 => absurd (by decide) h28)
  refine lv_aload_n hx hb dX4_phase_33 rfl (lv_at hl 0 rfl) ?_
  refine rb_callV S wb EN0_ok (m_clean l D cI cC cD ad (nI 0) n st mn ar) (bw5 bw_458 bw_460 bw_21 bw_37 bw_461) (rb_recv wb 0 (by decide) rfl rfl) hdX4_clean rfl ⟨rfl, rfl⟩ ⟨by decide, by decide⟩ hl.1 (Nat.le_of_ble_eq_true rfl) ⟨Nat.zero_le _, Nat.zero_le _⟩ (rest := []) (st1 := []) rfl rfl dX4_phase_34 (fun H locs wb => ?_)
  refine lv_aload_n hx hb dX4_phase_37 rfl (lv_at hl 0 rfl) ?_
  refine lv_aload_n hx hb dX4_phase_38 rfl (lv_at hl 0 rfl) ?_
  refine rb_get S wb 0 (by decide) rfl rfl in4 2 (by decide) bw_464 rfl dX4_phase_39 ?_
  refine lv_iconst (v := nI 4) hx hb dX4_phase_42 (by decide) ?_
  refine lv_idiv hx hb dX4_phase_43 (by decide) ?_
  refine rb_put (E' := mE ad cI (nI 0) n (st / (nI 4)) 0 (va_up (va_up (va_up (va_up ar 4 (fz (ar 4) 6 (-1))) 5 (fz (ar 5) 6 (nI 0))) 6 (fz (ar 6) 6 (nI 0))) 7 (fz (ar 7) 6 (-1)))) S wb 0 (by decide) rfl rfl in4 tyX4 tyX4_ok nmX4 2 (by decide) bw_464 rfl rfl rfl (Nat.le_of_ble_eq_true rfl) (m12 rfl rfl rfl rfl rfl rfl rfl rfl rfl rfl rfl rfl) dX4_phase_44 (fun H locs wb => ?_)
  refine lv_aload_n hx hb dX4_phase_47 rfl (lv_at hl 0 rfl) ?_
  refine rb_get S wb 0 (by decide) rfl rfl in4 2 (by decide) bw_464 rfl dX4_phase_48 ?_
  exact rb_iret S hr hlk hQ rfl wb (m12 rfl rfl rfl rfl rfl rfl rfl rfl rfl rfl rfl rfl) dX4_phase_51

set_option maxHeartbeats 4000000 in
set_option maxRecDepth 100000 in
theorem m_total_x1 (l : Launch) (D : va_G) (cI cC cD : ClassId) (ad : Nat → Nat) (th : Int32) (n : Nat) (st : Int32) (mn : Nat) (ar : Nat → Nat → Int32) (hn : n ≤ 6) (hn2 : 2 ≤ n) (hT : HT ar n) (hs : ¬ stl ar n) : RM l yX4_total cX4_total 3 (some .int) ({ frames := 1, cells := 0, slots := 0, locals := 23 }) D (ty3 cI cC cD) EN0 [.ref (ad 0)] ad 12 (mE ad cI th n st mn ar) (mE ad cI (nI 1) n st mn ar) (some (.int (nI 0))) := by
  refine RM.of (by decide) (Nat.le_of_ble_eq_true rfl) ?_
  intro p e s m below meth c0 A ls args Q0 S hr hlk hQ wb hl
  have hx := S.1
  have hb := S.2.1
  have hl : lv_has ls 3 [(0, .ref (ad 0))] := hl
  refine lv_aload_n hx hb dX4_total_0 rfl (lv_at hl 0 rfl) ?_
  refine lv_aload_n hx hb dX4_total_1 rfl (lv_at hl 0 rfl) ?_
  refine rb_callV S wb EN0_ok (m_isSettled l D cI cC cD ad th n st mn ar hn hT (nI 0) (tells_f hs)) (bw5 bw_516 bw_518 bw_22 bw_37 bw_519) (rb_recv wb 0 (by decide) rfl rfl) hdX4_isSettled rfl ⟨rfl, rfl⟩ ⟨by decide, by decide⟩ hl.1 (Nat.le_of_ble_eq_true rfl) ⟨Nat.zero_le _, Nat.zero_le _⟩ (rest := [.ref (ad 0)]) (st1 := [.int (nI 0), .ref (ad 0)]) rfl rfl dX4_total_2 (fun H locs wb => ?_)
  refine lv_if_eq (tgt := 12) hx hb dX4_total_5 (by decide) (fun h5 => ?_) (fun h5 => absurd (by decide) h5)
  refine lv_iconst (v := nI 1) hx hb dX4_total_12 (by decide) ?_
  refine rb_put (E' := mE ad cI (nI 1) n st mn ar) S wb 0 (by decide) rfl rfl in4 tyX4 tyX4_ok nmX4 0 (by decide) bw_462 rfl rfl rfl (Nat.le_of_ble_eq_true rfl) (m12 rfl rfl rfl rfl rfl rfl rfl rfl rfl rfl rfl rfl) dX4_total_13 (fun H locs wb => ?_)
  refine lv_iconst (v := nI 0) hx hb dX4_total_16 (by decide) ?_
  refine lv_istore_n (lv' := [(1, .int (nI 0)), (0, .ref (ad 0))]) hx hb dX4_total_17 rfl hl (by decide) rfl (fun ls hl => ?_)
  refine lv_iconst (v := nI 0) hx hb dX4_total_18 (by decide) ?_
  refine lv_istore_n (lv' := [(2, .int (nI 0)), (1, .int (nI 0)), (0, .ref (ad 0))]) hx hb dX4_total_19 rfl hl (by decide) rfl (fun ls hl => ?_)
  refine lv_iload_n hx hb dX4_total_20 rfl (lv_at hl 0 rfl) ?_
  refine lv_aload_n hx hb dX4_total_21 rfl (lv_at hl 2 rfl) ?_
  refine rb_get S wb 0 (by decide) rfl rfl in4 1 (by decide) bw_463 rfl dX4_total_22 ?_
  refine nb_icmp_ge (tgt := 60) hx hb dX4_total_25 (by decide) (by omega) (by omega) (fun h25 => absurd h25 (by omega)) (fun h25 => ?_)
  refine lv_aload_n hx hb dX4_total_28 rfl (lv_at hl 2 rfl) ?_
  refine rb_get S wb 0 (by decide) rfl rfl in4 0 (by decide) bw_462 rfl dX4_total_29 ?_
  refine lv_if_ne (tgt := 60) hx hb dX4_total_32 (by decide) (fun h32 => ?_) (fun h32 => absurd h32 (by decide))
  refine lv_iload_n hx hb dX4_total_60 rfl (lv_at hl 1 rfl) ?_
  exact rb_iret S hr hlk hQ rfl wb (m12 rfl rfl rfl rfl rfl rfl rfl rfl rfl rfl rfl rfl) dX4_total_61

set_option maxHeartbeats 4000000 in
set_option maxRecDepth 100000 in
theorem m_total (l : Launch) (D : va_G) (cI cC cD : ClassId) (ad : Nat → Nat) (th : Int32) (n : Nat) (st : Int32) (mn : Nat) (ar : Nat → Nat → Int32) (hn : n ≤ 6) (hn2 : 2 ≤ n) (hT : HT ar n) (hs : stl ar n) : RM l yX4_total cX4_total 3 (some .int) ({ frames := 1, cells := 0, slots := 0, locals := 23 }) D (ty3 cI cC cD) EN0 [.ref (ad 0)] ad 12 (mE ad cI th n st mn ar) (mE ad cI (nI 0) n st mn ar) (some (.int (sm (fun c => ar 1 (6 * c + (ar 7 c).toNatClampNeg)) n))) := by
  refine RM.of (by decide) (Nat.le_of_ble_eq_true rfl) ?_
  intro p e s m below meth c0 A ls args Q0 S hr hlk hQ wb hl
  have hx := S.1
  have hb := S.2.1
  have hl : lv_has ls 3 [(0, .ref (ad 0))] := hl
  refine lv_aload_n hx hb dX4_total_0 rfl (lv_at hl 0 rfl) ?_
  refine lv_aload_n hx hb dX4_total_1 rfl (lv_at hl 0 rfl) ?_
  refine rb_callV S wb EN0_ok (m_isSettled l D cI cC cD ad th n st mn ar hn hT (nI 1) (tells_t hs)) (bw5 bw_516 bw_518 bw_22 bw_37 bw_519) (rb_recv wb 0 (by decide) rfl rfl) hdX4_isSettled rfl ⟨rfl, rfl⟩ ⟨by decide, by decide⟩ hl.1 (Nat.le_of_ble_eq_true rfl) ⟨Nat.zero_le _, Nat.zero_le _⟩ (rest := [.ref (ad 0)]) (st1 := [.int (nI 1), .ref (ad 0)]) rfl rfl dX4_total_2 (fun H locs wb => ?_)
  refine lv_if_eq (tgt := 12) hx hb dX4_total_5 (by decide) (fun h5 => absurd h5 (by decide)) (fun h5 => ?_)
  refine lv_iconst (v := nI 0) hx hb dX4_total_8 (by decide) ?_
  refine lv_goto (tgt := 13) hx hb dX4_total_9 (by decide) ?_
  refine rb_put (E' := mE ad cI (nI 0) n st mn ar) S wb 0 (by decide) rfl rfl in4 tyX4 tyX4_ok nmX4 0 (by decide) bw_462 rfl rfl rfl (Nat.le_of_ble_eq_true rfl) (m12 rfl rfl rfl rfl rfl rfl rfl rfl rfl rfl rfl rfl) dX4_total_13 (fun H locs wb => ?_)
  refine lv_iconst (v := nI 0) hx hb dX4_total_16 (by decide) ?_
  refine lv_istore_n (lv' := [(1, .int (nI 0)), (0, .ref (ad 0))]) hx hb dX4_total_17 rfl hl (by decide) rfl (fun ls hl => ?_)
  refine lv_iconst (v := nI 0) hx hb dX4_total_18 (by decide) ?_
  refine lv_istore_n (lv' := [(2, .int (nI 0)), (1, .int (nI 0)), (0, .ref (ad 0))]) hx hb dX4_total_19 rfl hl (by decide) rfl (fun ls hl => ?_)
  have L20 : ∀ (fuel : Nat) (c : Nat) (v : Int32) (hc : c ≤ n) (hfu : n < c + fuel) (hv : v = sm (fun c => ar 1 (6 * c + (ar 7 c).toNatClampNeg)) c) (H : Heap) (locs : List Loc) (wb : WB D (ty3 cI cC cD) EN0 ad 12 A s (mE ad cI (nI 0) n st mn ar) H locs) (ls : Array Slot) (hl : lv_has ls 3 [(0, .ref (ad 0)), (1, .int v), (2, .int (nI c))]), W p l e ({ frames := 1, cells := 0, slots := 0, locals := 23 }) s m args below meth c0 H locs 0 0 Q0 (F0 m 20 ls []) := by
    intro fuel
    induction fuel with
    | zero => intro c v hc hfu hv H locs wb ls hl; exact absurd hfu (by omega)
    | succ fuel ih =>
      intro c v hc hfu hv H locs wb ls hl
      refine lv_iload_n hx hb dX4_total_20 rfl (lv_at hl 2 rfl) ?_
      refine lv_aload_n hx hb dX4_total_21 rfl (lv_at hl 0 rfl) ?_
      refine rb_get S wb 0 (by decide) rfl rfl in4 1 (by decide) bw_463 rfl dX4_total_22 ?_
      refine nb_icmp_ge (tgt := 60) hx hb dX4_total_25 (by decide) (by omega) (by omega) (fun h25 => ?_) (fun h25 => ?_)
      · refine lv_iload_n hx hb dX4_total_60 rfl (lv_at hl 1 rfl) ?_
        have hcn : c = n := by omega
        subst hcn
        exact rb_iret S hr hlk hQ hv.symm wb (m12 rfl rfl rfl rfl rfl rfl rfl rfl rfl rfl rfl rfl) dX4_total_61
      · obtain ⟨t, ht6, et, ett⟩ := HT_x hT h25 (hs c h25).1
        refine lv_aload_n hx hb dX4_total_28 rfl (lv_at hl 0 rfl) ?_
        refine rb_get S wb 0 (by decide) rfl rfl in4 0 (by decide) bw_462 rfl dX4_total_29 ?_
        refine lv_if_ne (tgt := 60) hx hb dX4_total_32 (by decide) (fun h32 => absurd (by decide) h32) (fun h32 => ?_)
        refine lv_iload_n hx hb dX4_total_35 rfl (lv_at hl 1 rfl) ?_
        refine lv_aload_n hx hb dX4_total_36 rfl (lv_at hl 0 rfl) ?_
        refine rb_get S wb 0 (by decide) rfl rfl in4 3 (by decide) bw_465 rfl dX4_total_37 ?_
        refine lv_bipush (v := nI 6) hx hb dX4_total_40 (by decide) ?_
        refine lv_iload_n hx hb dX4_total_42 rfl (lv_at hl 2 rfl) ?_
        refine lv_imul hx hb dX4_total_43 ?_
        refine nb_ren (y := nI (6 * c)) (pk_mul _ _) ?_
        refine lv_aload_n hx hb dX4_total_44 rfl (lv_at hl 0 rfl) ?_
        refine rb_get S wb 0 (by decide) rfl rfl in4 9 (by decide) bw_471 rfl dX4_total_45 ?_
        refine lv_iload_n hx hb dX4_total_48 rfl (lv_at hl 2 rfl) ?_
        refine rb_ald (n := 6) (f := ar 7) (x := ar 7 c) S wb 7 (by decide) rfl 0 rfl c (by omega) (by decide) rfl dX4_total_49 ?_
        refine nb_ren (y := nI t) et ?_
        refine lv_iadd hx hb dX4_total_50 ?_
        refine nb_ren (y := nI (6 * c + t)) (nI_add _ _) ?_
        refine rb_ald (n := 36) (f := ar 1) (x := ar 1 (6 * c + t)) S wb 1 (by decide) rfl 0 rfl (6 * c + t) (by omega) (by decide) rfl dX4_total_51 ?_
        refine lv_iadd hx hb dX4_total_52 ?_
        refine lv_istore_n (lv' := [(1, .int (v + (ar 1 (6 * c + t)))), (0, .ref (ad 0)), (2, .int (nI c))]) hx hb dX4_total_53 rfl hl (by decide) rfl (fun ls hl => ?_)
        refine lv_iinc (v := nI (c + 1)) (lv' := [(2, .int (nI (c + 1))), (1, .int (v + (ar 1 (6 * c + t)))), (0, .ref (ad 0))]) hx hb dX4_total_54 hl (k := 2) rfl (nI_s1 _) (by decide) rfl (fun ls hl => ?_)
        refine lv_goto (tgt := 20) hx hb dX4_total_57 (by decide) ?_
        exact ih (c + 1) (v + (ar 1 (6 * c + t))) (by omega) (by omega) (sm_s hv (by show ar 1 (6 * c + (ar 7 c).toNatClampNeg) = _; rw [ett])) _ _ wb ls (lv_sub hl [2, 1, 0] rfl)
  exact L20 (n + 1) 0 (nI 0) (by omega) (by omega) nI_0 _ _ wb ls (lv_sub hl [2, 1, 0] rfl)

set_option maxHeartbeats 4000000 in
set_option maxRecDepth 100000 in
theorem m_proves_x1 (l : Launch) (D : va_G) (cI cC cD : ClassId) (ad : Nat → Nat) (th : Int32) (n : Nat) (st : Int32) (mn : Nat) (ar : Nat → Nat → Int32) (hn : n ≤ 6) (hn2 : 2 ≤ n) (hT : HT ar n) (hs : ¬ stl ar n) : RM l yX4_proves cX4_proves 3 (some .boolean) ({ frames := 1, cells := 0, slots := 0, locals := 24 }) D (ty3 cI cC cD) EN0 [.ref (ad 0)] ad 12 (mE ad cI th n st mn ar) (mE ad cI (nI 1) n st mn ar) (some (.int (nI 0))) := by
  refine RM.of (by decide) (Nat.le_of_ble_eq_true rfl) ?_
  intro p e s m below meth c0 A ls args Q0 S hr hlk hQ wb hl
  have hx := S.1
  have hb := S.2.1
  have hl : lv_has ls 3 [(0, .ref (ad 0))] := hl
  refine lv_aload_n hx hb dX4_proves_0 rfl (lv_at hl 0 rfl) ?_
  refine lv_aload_n hx hb dX4_proves_1 rfl (lv_at hl 0 rfl) ?_
  refine rb_callV S wb EN0_ok (m_isSettled l D cI cC cD ad th n st mn ar hn hT (nI 0) (tells_f hs)) (bw5 bw_516 bw_518 bw_22 bw_37 bw_519) (rb_recv wb 0 (by decide) rfl rfl) hdX4_isSettled rfl ⟨rfl, rfl⟩ ⟨by decide, by decide⟩ hl.1 (Nat.le_of_ble_eq_true rfl) ⟨Nat.zero_le _, Nat.zero_le _⟩ (rest := [.ref (ad 0)]) (st1 := [.int (nI 0), .ref (ad 0)]) rfl rfl dX4_proves_2 (fun H locs wb => ?_)
  refine lv_if_eq (tgt := 12) hx hb dX4_proves_5 (by decide) (fun h5 => ?_) (fun h5 => absurd (by decide) h5)
  refine lv_iconst (v := nI 1) hx hb dX4_proves_12 (by decide) ?_
  refine rb_put (E' := mE ad cI (nI 1) n st mn ar) S wb 0 (by decide) rfl rfl in4 tyX4 tyX4_ok nmX4 0 (by decide) bw_462 rfl rfl rfl (Nat.le_of_ble_eq_true rfl) (m12 rfl rfl rfl rfl rfl rfl rfl rfl rfl rfl rfl rfl) dX4_proves_13 (fun H locs wb => ?_)
  refine lv_iconst (v := nI 0) hx hb dX4_proves_16 (by decide) ?_
  refine lv_istore_n (lv' := [(1, .int (nI 0)), (0, .ref (ad 0))]) hx hb dX4_proves_17 rfl hl (by decide) rfl (fun ls hl => ?_)
  refine lv_iconst (v := nI 0) hx hb dX4_proves_18 (by decide) ?_
  refine lv_istore_n (lv' := [(2, .int (nI 0)), (1, .int (nI 0)), (0, .ref (ad 0))]) hx hb dX4_proves_19 rfl hl (by decide) rfl (fun ls hl => ?_)
  refine lv_iload_n hx hb dX4_proves_20 rfl (lv_at hl 0 rfl) ?_
  refine lv_aload_n hx hb dX4_proves_21 rfl (lv_at hl 2 rfl) ?_
  refine rb_get S wb 0 (by decide) rfl rfl in4 1 (by decide) bw_463 rfl dX4_proves_22 ?_
  refine nb_icmp_ge (tgt := 80) hx hb dX4_proves_25 (by decide) (by omega) (by omega) (fun h25 => absurd h25 (by omega)) (fun h25 => ?_)
  refine lv_aload_n hx hb dX4_proves_28 rfl (lv_at hl 2 rfl) ?_
  refine rb_get S wb 0 (by decide) rfl rfl in4 0 (by decide) bw_462 rfl dX4_proves_29 ?_
  refine lv_if_ne (tgt := 80) hx hb dX4_proves_32 (by decide) (fun h32 => ?_) (fun h32 => absurd h32 (by decide))
  refine lv_aload_n hx hb dX4_proves_80 rfl (lv_at hl 2 rfl) ?_
  refine rb_get S wb 0 (by decide) rfl rfl in4 0 (by decide) bw_462 rfl dX4_proves_81 ?_
  refine lv_if_ne (tgt := 101) hx hb dX4_proves_84 (by decide) (fun h84 => ?_) (fun h84 => absurd h84 (by decide))
  refine lv_iconst (v := nI 0) hx hb dX4_proves_101 (by decide) ?_
  exact rb_zret S hr hlk hQ rfl (by first | exact Or.inl rfl | exact Or.inr rfl) wb (m12 rfl rfl rfl rfl rfl rfl rfl rfl rfl rfl rfl rfl) dX4_proves_102

set_option maxHeartbeats 4000000 in
set_option maxRecDepth 100000 in
theorem m_proves (l : Launch) (D : va_G) (cI cC cD : ClassId) (ad : Nat → Nat) (th : Int32) (n : Nat) (st : Int32) (mn : Nat) (ar : Nat → Nat → Int32) (hn : n ≤ 6) (hn2 : 2 ≤ n) (hT : HT ar n) (hs : stl ar n) (r : Int32) (hr0 : tells r (sm (fun c => ar 3 c + pf (fun j => ar 1 (6 * c + j) * nI (n + 1) - ar 3 j) (n - 1) - ar 1 (6 * c + (ar 7 c).toNatClampNeg) * nI (n + 1)) n < nI (n + 1))) : RM l yX4_proves cX4_proves 3 (some .boolean) ({ frames := 1, cells := 0, slots := 0, locals := 24 }) D (ty3 cI cC cD) EN0 [.ref (ad 0)] ad 12 (mE ad cI th n st mn ar) (mE ad cI (nI 0) n st mn ar) (some (.int r)) := by
  refine RM.of (by decide) (Nat.le_of_ble_eq_true rfl) ?_
  intro p e s m below meth c0 A ls args Q0 S hr hlk hQ wb hl
  have hx := S.1
  have hb := S.2.1
  have hl : lv_has ls 3 [(0, .ref (ad 0))] := hl
  refine lv_aload_n hx hb dX4_proves_0 rfl (lv_at hl 0 rfl) ?_
  refine lv_aload_n hx hb dX4_proves_1 rfl (lv_at hl 0 rfl) ?_
  refine rb_callV S wb EN0_ok (m_isSettled l D cI cC cD ad th n st mn ar hn hT (nI 1) (tells_t hs)) (bw5 bw_516 bw_518 bw_22 bw_37 bw_519) (rb_recv wb 0 (by decide) rfl rfl) hdX4_isSettled rfl ⟨rfl, rfl⟩ ⟨by decide, by decide⟩ hl.1 (Nat.le_of_ble_eq_true rfl) ⟨Nat.zero_le _, Nat.zero_le _⟩ (rest := [.ref (ad 0)]) (st1 := [.int (nI 1), .ref (ad 0)]) rfl rfl dX4_proves_2 (fun H locs wb => ?_)
  refine lv_if_eq (tgt := 12) hx hb dX4_proves_5 (by decide) (fun h5 => absurd h5 (by decide)) (fun h5 => ?_)
  refine lv_iconst (v := nI 0) hx hb dX4_proves_8 (by decide) ?_
  refine lv_goto (tgt := 13) hx hb dX4_proves_9 (by decide) ?_
  refine rb_put (E' := mE ad cI (nI 0) n st mn ar) S wb 0 (by decide) rfl rfl in4 tyX4 tyX4_ok nmX4 0 (by decide) bw_462 rfl rfl rfl (Nat.le_of_ble_eq_true rfl) (m12 rfl rfl rfl rfl rfl rfl rfl rfl rfl rfl rfl rfl) dX4_proves_13 (fun H locs wb => ?_)
  refine lv_iconst (v := nI 0) hx hb dX4_proves_16 (by decide) ?_
  refine lv_istore_n (lv' := [(1, .int (nI 0)), (0, .ref (ad 0))]) hx hb dX4_proves_17 rfl hl (by decide) rfl (fun ls hl => ?_)
  refine lv_iconst (v := nI 0) hx hb dX4_proves_18 (by decide) ?_
  refine lv_istore_n (lv' := [(2, .int (nI 0)), (1, .int (nI 0)), (0, .ref (ad 0))]) hx hb dX4_proves_19 rfl hl (by decide) rfl (fun ls hl => ?_)
  have L20 : ∀ (fuel : Nat) (c : Nat) (v : Int32) (hc : c ≤ n) (hfu : n < c + fuel) (hv : v = sm (fun c => ar 3 c + pf (fun j => ar 1 (6 * c + j) * nI (n + 1) - ar 3 j) (n - 1) - ar 1 (6 * c + (ar 7 c).toNatClampNeg) * nI (n + 1)) c) (H : Heap) (locs : List Loc) (wb : WB D (ty3 cI cC cD) EN0 ad 12 A s (mE ad cI (nI 0) n st mn ar) H locs) (ls : Array Slot) (hl : lv_has ls 3 [(0, .ref (ad 0)), (1, .int v), (2, .int (nI c))]), W p l e ({ frames := 1, cells := 0, slots := 0, locals := 24 }) s m args below meth c0 H locs 0 0 Q0 (F0 m 20 ls []) := by
    intro fuel
    induction fuel with
    | zero => intro c v hc hfu hv H locs wb ls hl; exact absurd hfu (by omega)
    | succ fuel ih =>
      intro c v hc hfu hv H locs wb ls hl
      refine lv_iload_n hx hb dX4_proves_20 rfl (lv_at hl 2 rfl) ?_
      refine lv_aload_n hx hb dX4_proves_21 rfl (lv_at hl 0 rfl) ?_
      refine rb_get S wb 0 (by decide) rfl rfl in4 1 (by decide) bw_463 rfl dX4_proves_22 ?_
      refine nb_icmp_ge (tgt := 80) hx hb dX4_proves_25 (by decide) (by omega) (by omega) (fun h25 => ?_) (fun h25 => ?_)
      · have hcn : c = n := by omega
        rw [hcn] at hv
        refine lv_aload_n hx hb dX4_proves_80 rfl (lv_at hl 0 rfl) ?_
        refine rb_get S wb 0 (by decide) rfl rfl in4 0 (by decide) bw_462 rfl dX4_proves_81 ?_
        refine lv_if_ne (tgt := 101) hx hb dX4_proves_84 (by decide) (fun h84 => absurd (by decide) h84) (fun h84 => ?_)
        refine lv_iload_n hx hb dX4_proves_87 rfl (lv_at hl 1 rfl) ?_
        refine lv_aload_n hx hb dX4_proves_88 rfl (lv_at hl 0 rfl) ?_
        refine rb_get S wb 0 (by decide) rfl rfl in4 1 (by decide) bw_463 rfl dX4_proves_89 ?_
        refine lv_iconst (v := nI 1) hx hb dX4_proves_92 (by decide) ?_
        refine lv_iadd hx hb dX4_proves_93 ?_
        refine nb_ren (y := nI (n + 1)) (nI_add _ _) ?_
        refine lv_icmp_ge (tgt := 101) hx hb dX4_proves_94 (by decide) (fun h94 => ?_) (fun h94 => ?_)
        · refine lv_iconst (v := nI 0) hx hb dX4_proves_101 (by decide) ?_
          exact rb_zret S hr hlk hQ (by first | exact tells_u hr0 (tells_f (fun q => Int32.not_lt.mpr h94 (by rw [hv]; exact q))) | exact tells_u hr0 (tells_t (by rw [← hv]; exact Int32.not_le.mp h94))) (by first | exact Or.inl rfl | exact Or.inr rfl) wb (m12 rfl rfl rfl rfl rfl rfl rfl rfl rfl rfl rfl rfl) dX4_proves_102
        · refine lv_iconst (v := nI 1) hx hb dX4_proves_97 (by decide) ?_
          refine lv_goto (tgt := 102) hx hb dX4_proves_98 (by decide) ?_
          exact rb_zret S hr hlk hQ (by first | exact tells_u hr0 (tells_f (fun q => Int32.not_lt.mpr h94 (by rw [hv]; exact q))) | exact tells_u hr0 (tells_t (by rw [← hv]; exact Int32.not_le.mp h94))) (by first | exact Or.inl rfl | exact Or.inr rfl) wb (m12 rfl rfl rfl rfl rfl rfl rfl rfl rfl rfl rfl rfl) dX4_proves_102
      · obtain ⟨t, ht6, et, ett⟩ := HT_x hT h25 (hs c h25).1
        refine lv_aload_n hx hb dX4_proves_28 rfl (lv_at hl 0 rfl) ?_
        refine rb_get S wb 0 (by decide) rfl rfl in4 0 (by decide) bw_462 rfl dX4_proves_29 ?_
        refine lv_if_ne (tgt := 80) hx hb dX4_proves_32 (by decide) (fun h32 => absurd (by decide) h32) (fun h32 => ?_)
        refine lv_iload_n hx hb dX4_proves_35 rfl (lv_at hl 1 rfl) ?_
        refine lv_aload_n hx hb dX4_proves_36 rfl (lv_at hl 0 rfl) ?_
        refine rb_get S wb 0 (by decide) rfl rfl in4 5 (by decide) bw_467 rfl dX4_proves_37 ?_
        refine lv_iload_n hx hb dX4_proves_40 rfl (lv_at hl 2 rfl) ?_
        refine rb_ald (n := 6) (f := ar 3) (x := ar 3 c) S wb 3 (by decide) rfl 0 rfl c (by omega) (by decide) rfl dX4_proves_41 ?_
        refine lv_aload_n hx hb dX4_proves_42 rfl (lv_at hl 0 rfl) ?_
        refine lv_iload_n hx hb dX4_proves_43 rfl (lv_at hl 2 rfl) ?_
        refine rb_callV S wb EN0_ok (m_profitOf l D cI cC cD ad (nI 0) n st mn ar c (by omega) (by omega) (by omega)) (bw5 bw_580 bw_582 bw_30 bw_37 bw_583) (rb_recv wb 0 (by decide) rfl rfl) hdX4_profitOf rfl ⟨rfl, rfl⟩ ⟨by decide, by decide⟩ hl.1 (Nat.le_of_ble_eq_true rfl) ⟨Nat.zero_le _, Nat.zero_le _⟩ (rest := [.int (ar 3 c), .int v]) (st1 := [.int (pf (fun j => ar 1 (6 * c + j) * nI (n + 1) - ar 3 j) (n - 1)), .int (ar 3 c), .int v]) rfl rfl dX4_proves_44 (fun H locs wb => ?_)
        refine lv_iadd hx hb dX4_proves_47 ?_
        refine lv_aload_n hx hb dX4_proves_48 rfl (lv_at hl 0 rfl) ?_
        refine rb_get S wb 0 (by decide) rfl rfl in4 3 (by decide) bw_465 rfl dX4_proves_49 ?_
        refine lv_bipush (v := nI 6) hx hb dX4_proves_52 (by decide) ?_
        refine lv_iload_n hx hb dX4_proves_54 rfl (lv_at hl 2 rfl) ?_
        refine lv_imul hx hb dX4_proves_55 ?_
        refine nb_ren (y := nI (6 * c)) (pk_mul _ _) ?_
        refine lv_aload_n hx hb dX4_proves_56 rfl (lv_at hl 0 rfl) ?_
        refine rb_get S wb 0 (by decide) rfl rfl in4 9 (by decide) bw_471 rfl dX4_proves_57 ?_
        refine lv_iload_n hx hb dX4_proves_60 rfl (lv_at hl 2 rfl) ?_
        refine rb_ald (n := 6) (f := ar 7) (x := ar 7 c) S wb 7 (by decide) rfl 0 rfl c (by omega) (by decide) rfl dX4_proves_61 ?_
        refine nb_ren (y := nI t) et ?_
        refine lv_iadd hx hb dX4_proves_62 ?_
        refine nb_ren (y := nI (6 * c + t)) (nI_add _ _) ?_
        refine rb_ald (n := 36) (f := ar 1) (x := ar 1 (6 * c + t)) S wb 1 (by decide) rfl 0 rfl (6 * c + t) (by omega) (by decide) rfl dX4_proves_63 ?_
        refine lv_aload_n hx hb dX4_proves_64 rfl (lv_at hl 0 rfl) ?_
        refine rb_get S wb 0 (by decide) rfl rfl in4 1 (by decide) bw_463 rfl dX4_proves_65 ?_
        refine lv_iconst (v := nI 1) hx hb dX4_proves_68 (by decide) ?_
        refine lv_iadd hx hb dX4_proves_69 ?_
        refine nb_ren (y := nI (n + 1)) (nI_add _ _) ?_
        refine lv_imul hx hb dX4_proves_70 ?_
        refine lv_isub hx hb dX4_proves_71 ?_
        refine lv_iadd hx hb dX4_proves_72 ?_
        refine lv_istore_n (lv' := [(1, .int (v + (((ar 3 c) + (pf (fun j => ar 1 (6 * c + j) * nI (n + 1) - ar 3 j) (n - 1))) - ((ar 1 (6 * c + t)) * (nI (n + 1)))))), (0, .ref (ad 0)), (2, .int (nI c))]) hx hb dX4_proves_73 rfl hl (by decide) rfl (fun ls hl => ?_)
        refine lv_iinc (v := nI (c + 1)) (lv' := [(2, .int (nI (c + 1))), (1, .int (v + (((ar 3 c) + (pf (fun j => ar 1 (6 * c + j) * nI (n + 1) - ar 3 j) (n - 1))) - ((ar 1 (6 * c + t)) * (nI (n + 1)))))), (0, .ref (ad 0))]) hx hb dX4_proves_74 hl (k := 2) rfl (nI_s1 _) (by decide) rfl (fun ls hl => ?_)
        refine lv_goto (tgt := 20) hx hb dX4_proves_77 (by decide) ?_
        exact ih (c + 1) (v + (((ar 3 c) + (pf (fun j => ar 1 (6 * c + j) * nI (n + 1) - ar 3 j) (n - 1))) - ((ar 1 (6 * c + t)) * (nI (n + 1))))) (by omega) (by omega) (sm_s hv (by show ar 3 c + _ - ar 1 (6 * c + (ar 7 c).toNatClampNeg) * _ = _; rw [ett])) _ _ wb ls (lv_sub hl [2, 1, 0] rfl)
  exact L20 (n + 1) 0 (nI 0) (by omega) (by omega) nI_0 _ _ wb ls (lv_sub hl [2, 1, 0] rfl)

set_option maxHeartbeats 4000000 in
set_option maxRecDepth 100000 in
theorem m_act_x1 (l : Launch) (D : va_G) (cI cC cD : ClassId) (ad : Nat → Nat) (th : Int32) (n : Nat) (st : Int32) (mn : Nat) (ar : Nat → Nat → Int32) (x : Int32) (hn : n ≤ 6) (hx0 : x < 0 ∨ nI n ≤ x) : RM l yX4_act cX4_act 5 (some .int) ({ frames := 1, cells := 0, slots := 0, locals := 26 }) D (ty3 cI cC cD) EN0 [.ref (ad 0), .int x] ad 12 (mE ad cI th n st mn ar) (mE ad cI (nI 1) n st mn ar) (some (.int (nI 0))) := by
  refine RM.of (by decide) (Nat.le_of_ble_eq_true rfl) ?_
  intro p e s m below meth c0 A ls args Q0 S hr hlk hQ wb hl
  have hx := S.1
  have hb := S.2.1
  have hl : lv_has ls 5 [(0, .ref (ad 0)), (1, .int x)] := hl
  refine lv_aload_n hx hb dX4_act_0 rfl (lv_at hl 0 rfl) ?_
  refine lv_aload_n hx hb dX4_act_1 rfl (lv_at hl 0 rfl) ?_
  refine lv_iload_n hx hb dX4_act_2 rfl (lv_at hl 1 rfl) ?_
  refine rb_callV S wb EN0_ok (m_no_t l D cI cC cD ad th n st mn ar x (nI 1) (tells_t hx0)) (bw5 bw_520 bw_522 bw_23 bw_37 bw_523) (rb_recv wb 0 (by decide) rfl rfl) hdX4_no rfl ⟨rfl, rfl⟩ ⟨by decide, by decide⟩ hl.1 (Nat.le_of_ble_eq_true rfl) ⟨Nat.zero_le _, Nat.zero_le _⟩ (rest := [.ref (ad 0)]) (st1 := [.int (nI 1), .ref (ad 0)]) rfl rfl dX4_act_3 (fun H locs wb => ?_)
  refine lv_if_eq (tgt := 13) hx hb dX4_act_6 (by decide) (fun h6 => absurd h6 (by decide)) (fun h6 => ?_)
  refine lv_iconst (v := nI 1) hx hb dX4_act_9 (by decide) ?_
  refine lv_goto (tgt := 36) hx hb dX4_act_10 (by decide) ?_
  refine rb_put (E' := mE ad cI (nI 1) n st mn ar) S wb 0 (by decide) rfl rfl in4 tyX4 tyX4_ok nmX4 0 (by decide) bw_462 rfl rfl rfl (Nat.le_of_ble_eq_true rfl) (m12 rfl rfl rfl rfl rfl rfl rfl rfl rfl rfl rfl rfl) dX4_act_36 (fun H locs wb => ?_)
  refine lv_aload_n hx hb dX4_act_39 rfl (lv_at hl 0 rfl) ?_
  refine rb_get S wb 0 (by decide) rfl rfl in4 0 (by decide) bw_462 rfl dX4_act_40 ?_
  refine lv_if_eq (tgt := 48) hx hb dX4_act_43 (by decide) (fun h43 => absurd h43 (by decide)) (fun h43 => ?_)
  refine lv_iconst (v := nI 0) hx hb dX4_act_46 (by decide) ?_
  exact rb_iret S hr hlk hQ rfl wb (m12 rfl rfl rfl rfl rfl rfl rfl rfl rfl rfl rfl rfl) dX4_act_47

set_option maxHeartbeats 4000000 in
set_option maxRecDepth 100000 in
theorem m_act_x2 (l : Launch) (D : va_G) (cI cC cD : ClassId) (ad : Nat → Nat) (th : Int32) (n : Nat) (st : Int32) (mn : Nat) (ar : Nat → Nat → Int32) (c : Nat) (hn : n ≤ 6) (hmn : mn < 2 ^ 31) (hc : c < n) (h2 : ¬ ar 6 c = 0 ∨ 39 < mn) : RM l yX4_act cX4_act 5 (some .int) ({ frames := 1, cells := 0, slots := 0, locals := 26 }) D (ty3 cI cC cD) EN0 [.ref (ad 0), .int (nI c)] ad 12 (mE ad cI th n st mn ar) (mE ad cI (nI 2) n st mn ar) (some (.int (nI 0))) := by
  refine RM.of (by decide) (Nat.le_of_ble_eq_true rfl) ?_
  intro p e s m below meth c0 A ls args Q0 S hr hlk hQ wb hl
  have hx := S.1
  have hb := S.2.1
  have hl : lv_has ls 5 [(0, .ref (ad 0)), (1, .int (nI c))] := hl
  refine lv_aload_n hx hb dX4_act_0 rfl (lv_at hl 0 rfl) ?_
  refine lv_aload_n hx hb dX4_act_1 rfl (lv_at hl 0 rfl) ?_
  refine lv_iload_n hx hb dX4_act_2 rfl (lv_at hl 1 rfl) ?_
  refine rb_callV S wb EN0_ok (m_no_t l D cI cC cD ad th n st mn ar (nI c) (nI 0) (tells_f (no_f hc (by omega)))) (bw5 bw_520 bw_522 bw_23 bw_37 bw_523) (rb_recv wb 0 (by decide) rfl rfl) hdX4_no rfl ⟨rfl, rfl⟩ ⟨by decide, by decide⟩ hl.1 (Nat.le_of_ble_eq_true rfl) ⟨Nat.zero_le _, Nat.zero_le _⟩ (rest := [.ref (ad 0)]) (st1 := [.int (nI 0), .ref (ad 0)]) rfl rfl dX4_act_3 (fun H locs wb => ?_)
  refine lv_if_eq (tgt := 13) hx hb dX4_act_6 (by decide) (fun h6 => ?_) (fun h6 => absurd (by decide) h6)
  refine lv_aload_n hx hb dX4_act_13 rfl (lv_at hl 0 rfl) ?_
  refine rb_get S wb 0 (by decide) rfl rfl in4 8 (by decide) bw_470 rfl dX4_act_14 ?_
  refine lv_iload_n hx hb dX4_act_17 rfl (lv_at hl 1 rfl) ?_
  refine rb_ald (n := 6) (f := ar 6) (x := ar 6 c) S wb 6 (by decide) rfl 0 rfl c (by omega) (by decide) rfl dX4_act_18 ?_
  refine lv_if_ne (tgt := 31) hx hb dX4_act_19 (by decide) (fun h19 => ?_) (fun h19 => ?_)
  · refine lv_iconst (v := nI 2) hx hb dX4_act_31 (by decide) ?_
    refine lv_goto (tgt := 36) hx hb dX4_act_32 (by decide) ?_
    refine rb_put (E' := mE ad cI (nI 2) n st mn ar) S wb 0 (by decide) rfl rfl in4 tyX4 tyX4_ok nmX4 0 (by decide) bw_462 rfl rfl rfl (Nat.le_of_ble_eq_true rfl) (m12 rfl rfl rfl rfl rfl rfl rfl rfl rfl rfl rfl rfl) dX4_act_36 (fun H locs wb => ?_)
    refine lv_aload_n hx hb dX4_act_39 rfl (lv_at hl 0 rfl) ?_
    refine rb_get S wb 0 (by decide) rfl rfl in4 0 (by decide) bw_462 rfl dX4_act_40 ?_
    refine lv_if_eq (tgt := 48) hx hb dX4_act_43 (by decide) (fun h43 => absurd h43 (by decide)) (fun h43 => ?_)
    refine lv_iconst (v := nI 0) hx hb dX4_act_46 (by decide) ?_
    exact rb_iret S hr hlk hQ rfl wb (m12 rfl rfl rfl rfl rfl rfl rfl rfl rfl rfl rfl rfl) dX4_act_47
  · have hm : 39 < mn := by
      rcases h2 with q | q
      · exact absurd h19 q
      · exact q
    refine lv_aload_n hx hb dX4_act_22 rfl (lv_at hl 0 rfl) ?_
    refine rb_get S wb 0 (by decide) rfl rfl in4 12 (by decide) bw_474 rfl dX4_act_23 ?_
    refine lv_bipush (v := nI 39) hx hb dX4_act_26 (by decide) ?_
    refine nb_icmp_le (tgt := 35) hx hb dX4_act_28 (by decide) (by omega) (by omega) (fun h28 => absurd h28 (by omega)) (fun h28 => ?_)
    refine lv_iconst (v := nI 2) hx hb dX4_act_31 (by decide) ?_
    refine lv_goto (tgt := 36) hx hb dX4_act_32 (by decide) ?_
    refine rb_put (E' := mE ad cI (nI 2) n st mn ar) S wb 0 (by decide) rfl rfl in4 tyX4 tyX4_ok nmX4 0 (by decide) bw_462 rfl rfl rfl (Nat.le_of_ble_eq_true rfl) (m12 rfl rfl rfl rfl rfl rfl rfl rfl rfl rfl rfl rfl) dX4_act_36 (fun H locs wb => ?_)
    refine lv_aload_n hx hb dX4_act_39 rfl (lv_at hl 0 rfl) ?_
    refine rb_get S wb 0 (by decide) rfl rfl in4 0 (by decide) bw_462 rfl dX4_act_40 ?_
    refine lv_if_eq (tgt := 48) hx hb dX4_act_43 (by decide) (fun h43 => absurd h43 (by decide)) (fun h43 => ?_)
    refine lv_iconst (v := nI 0) hx hb dX4_act_46 (by decide) ?_
    exact rb_iret S hr hlk hQ rfl wb (m12 rfl rfl rfl rfl rfl rfl rfl rfl rfl rfl rfl rfl) dX4_act_47

set_option maxHeartbeats 4000000 in
set_option maxRecDepth 100000 in
theorem m_act (l : Launch) (D : va_G) (cI cC cD : ClassId) (ad : Nat → Nat) (th : Int32) (n : Nat) (st : Int32) (mn : Nat) (ar : Nat → Nat → Int32) (c b sd : Nat) (hn : n ≤ 6) (hn2 : 2 ≤ n) (hc : c < n) (h1 : ar 6 c = 0) (h2 : mn ≤ 39) (hbb : b = bst (vl n ar c) (n - 1)) (hss : sd = sc2 (vl n ar c) b (s0of b) n) : RM l yX4_act cX4_act 5 (some .int) ({ frames := 1, cells := 0, slots := 0, locals := 26 }) D (ty3 cI cC cD) EN0 [.ref (ad 0), .int (nI c)] ad 12 (mE ad cI th n st mn ar) (mE ad cI (nI 0) n st (mn + 1) (va_up (va_up (va_up (va_up (va_up (va_up ar 6 (upd (ar 6) c (nI 1))) 7 (upd (ar 7) c (nI b))) 8 (upd (ar 8) c (ar 8 c + nI 1))) 9 (upd (ar 9) c (ar 2 (6 * c + b) + vl n ar c b - vl n ar c sd + st))) 10 (put5 (ar 10) (5 * mn) (nI 0) (nI c) (nI b) (ar 8 c + nI 1) (ar 2 (6 * c + b) + vl n ar c b - vl n ar c sd + st))) 11 (upd (ar 11) 0 (ar 11 0 + nI 1)))) (some (.int (nI b))) := by
  refine RM.of (by decide) (Nat.le_of_ble_eq_true rfl) ?_
  intro p e s m below meth c0 A ls args Q0 S hr hlk hQ wb hl
  have hx := S.1
  have hb := S.2.1
  have hl : lv_has ls 5 [(0, .ref (ad 0)), (1, .int (nI c))] := hl
  refine lv_aload_n hx hb dX4_act_0 rfl (lv_at hl 0 rfl) ?_
  refine lv_aload_n hx hb dX4_act_1 rfl (lv_at hl 0 rfl) ?_
  refine lv_iload_n hx hb dX4_act_2 rfl (lv_at hl 1 rfl) ?_
  refine rb_callV S wb EN0_ok (m_no_t l D cI cC cD ad th n st mn ar (nI c) (nI 0) (tells_f (no_f hc (by omega)))) (bw5 bw_520 bw_522 bw_23 bw_37 bw_523) (rb_recv wb 0 (by decide) rfl rfl) hdX4_no rfl ⟨rfl, rfl⟩ ⟨by decide, by decide⟩ hl.1 (Nat.le_of_ble_eq_true rfl) ⟨Nat.zero_le _, Nat.zero_le _⟩ (rest := [.ref (ad 0)]) (st1 := [.int (nI 0), .ref (ad 0)]) rfl rfl dX4_act_3 (fun H locs wb => ?_)
  refine lv_if_eq (tgt := 13) hx hb dX4_act_6 (by decide) (fun h6 => ?_) (fun h6 => absurd (by decide) h6)
  refine lv_aload_n hx hb dX4_act_13 rfl (lv_at hl 0 rfl) ?_
  refine rb_get S wb 0 (by decide) rfl rfl in4 8 (by decide) bw_470 rfl dX4_act_14 ?_
  refine lv_iload_n hx hb dX4_act_17 rfl (lv_at hl 1 rfl) ?_
  refine rb_ald (n := 6) (f := ar 6) (x := ar 6 c) S wb 6 (by decide) rfl 0 rfl c (by omega) (by decide) rfl dX4_act_18 ?_
  refine lv_if_ne (tgt := 31) hx hb dX4_act_19 (by decide) (fun h19 => absurd h1 h19) (fun h19 => ?_)
  refine lv_aload_n hx hb dX4_act_22 rfl (lv_at hl 0 rfl) ?_
  refine rb_get S wb 0 (by decide) rfl rfl in4 12 (by decide) bw_474 rfl dX4_act_23 ?_
  refine lv_bipush (v := nI 39) hx hb dX4_act_26 (by decide) ?_
  refine nb_icmp_le (tgt := 35) hx hb dX4_act_28 (by decide) (by omega) (by omega) (fun h28 => ?_) (fun h28 => absurd h28 (by omega))
  refine lv_iconst (v := nI 0) hx hb dX4_act_35 (by decide) ?_
  refine rb_put (E' := mE ad cI (nI 0) n st mn ar) S wb 0 (by decide) rfl rfl in4 tyX4 tyX4_ok nmX4 0 (by decide) bw_462 rfl rfl rfl (Nat.le_of_ble_eq_true rfl) (m12 rfl rfl rfl rfl rfl rfl rfl rfl rfl rfl rfl rfl) dX4_act_36 (fun H locs wb => ?_)
  refine lv_aload_n hx hb dX4_act_39 rfl (lv_at hl 0 rfl) ?_
  refine rb_get S wb 0 (by decide) rfl rfl in4 0 (by decide) bw_462 rfl dX4_act_40 ?_
  refine lv_if_eq (tgt := 48) hx hb dX4_act_43 (by decide) (fun h43 => ?_) (fun h43 => absurd (by decide) h43)
  refine lv_iconst (v := nI 0) hx hb dX4_act_48 (by decide) ?_
  refine lv_istore_n (lv' := [(2, .int (nI 0)), (0, .ref (ad 0)), (1, .int (nI c))]) hx hb dX4_act_49 rfl hl (by decide) rfl (fun ls hl => ?_)
  refine lv_iconst (v := nI 1) hx hb dX4_act_50 (by decide) ?_
  refine lv_istore_n (lv' := [(3, .int (nI 1)), (2, .int (nI 0)), (0, .ref (ad 0)), (1, .int (nI c))]) hx hb dX4_act_51 rfl hl (by decide) rfl (fun ls hl => ?_)
  have L52 : ∀ (fuel : Nat) (k : Nat) (b1 : Nat) (hk : k < n) (hfu : n ≤ k + fuel) (hbq : b1 = bst (vl n ar c) k) (hb2 : b1 ≤ k) (H : Heap) (locs : List Loc) (wb : WB D (ty3 cI cC cD) EN0 ad 12 A s (mE ad cI (nI 0) n st mn ar) H locs) (ls : Array Slot) (hl : lv_has ls 5 [(0, .ref (ad 0)), (1, .int (nI c)), (2, .int (nI b1)), (3, .int (nI (k + 1)))]), W p l e ({ frames := 1, cells := 0, slots := 0, locals := 26 }) s m args below meth c0 H locs 0 0 Q0 (F0 m 52 ls []) := by
    intro fuel
    induction fuel with
    | zero => intro k b1 hk hfu hbq hb2 H locs wb ls hl; exact absurd hfu (by omega)
    | succ fuel ih =>
      intro k b1 hk hfu hbq hb2 H locs wb ls hl
      refine lv_iload_n hx hb dX4_act_52 rfl (lv_at hl 3 rfl) ?_
      refine lv_aload_n hx hb dX4_act_53 rfl (lv_at hl 0 rfl) ?_
      refine rb_get S wb 0 (by decide) rfl rfl in4 1 (by decide) bw_463 rfl dX4_act_54 ?_
      refine nb_icmp_ge (tgt := 87) hx hb dX4_act_57 (by decide) (by omega) (by omega) (fun h57 => ?_) (fun h57 => ?_)
      · have hkn : k = n - 1 := by omega
        have hbe : b1 = b := by rw [hbq, hbb, hkn]
        have L100 : ∀ (fuel : Nat) (j : Nat) (sd1 : Nat) (hj : j ≤ n) (hfu2 : n < j + fuel) (hsd : sd1 = sc2 (vl n ar c) b1 (s0of b1) j) (hs2 : sd1 < n) (H : Heap) (locs : List Loc) (wb : WB D (ty3 cI cC cD) EN0 ad 12 A s (mE ad cI (nI 0) n st mn ar) H locs) (ls : Array Slot) (hl : lv_has ls 5 [(0, .ref (ad 0)), (1, .int (nI c)), (2, .int (nI b1)), (3, .int (nI sd1)), (4, .int (nI j))]), W p l e ({ frames := 1, cells := 0, slots := 0, locals := 26 }) s m args below meth c0 H locs 0 0 Q0 (F0 m 100 ls []) := by
          intro fuel
          induction fuel with
          | zero => intro j sd1 hj hfu2 hsd hs2 H locs wb ls hl; exact absurd hfu2 (by omega)
          | succ fuel ih =>
            intro j sd1 hj hfu2 hsd hs2 H locs wb ls hl
            refine lv_iload hx hb dX4_act_100 (lv_at hl 4 rfl) ?_
            refine lv_aload_n hx hb dX4_act_102 rfl (lv_at hl 0 rfl) ?_
            refine rb_get S wb 0 (by decide) rfl rfl in4 1 (by decide) bw_463 rfl dX4_act_103 ?_
            refine nb_icmp_ge (tgt := 144) hx hb dX4_act_106 (by decide) (by omega) (by omega) (fun h106 => ?_) (fun h106 => ?_)
            · have hjn : j = n := by omega
              have hse : sd1 = sd := by rw [hsd, hss, hjn, hbe]
              subst hbe; subst hse
              refine lv_aload_n hx hb dX4_act_144 rfl (lv_at hl 0 rfl) ?_
              refine rb_get S wb 0 (by decide) rfl rfl in4 10 (by decide) bw_472 rfl dX4_act_145 ?_
              refine lv_iload_n hx hb dX4_act_148 rfl (lv_at hl 1 rfl) ?_
              refine lv_dup2_11 hx hb dX4_act_149 rfl rfl ?_
              refine rb_ald (n := 6) (f := ar 8) (x := ar 8 c) S wb 8 (by decide) rfl 0 rfl c (by omega) (by decide) rfl dX4_act_150 ?_
              refine lv_iconst (v := nI 1) hx hb dX4_act_151 (by decide) ?_
              refine lv_iadd hx hb dX4_act_152 ?_
              refine rb_ast (E' := mE ad cI (nI 0) n st mn (va_up ar 8 (upd (ar 8) c ((ar 8 c) + (nI 1))))) (n := 6) (f := ar 8) S wb 8 (by decide) rfl 0 rfl c (by omega) (by decide) (m12 rfl rfl rfl rfl rfl rfl rfl rfl rfl rfl rfl rfl) dX4_act_153 (fun H locs wb => ?_)
              refine lv_aload_n hx hb dX4_act_154 rfl (lv_at hl 0 rfl) ?_
              refine rb_get S wb 0 (by decide) rfl rfl in4 9 (by decide) bw_471 rfl dX4_act_155 ?_
              refine lv_iload_n hx hb dX4_act_158 rfl (lv_at hl 1 rfl) ?_
              refine lv_iload_n hx hb dX4_act_159 rfl (lv_at hl 2 rfl) ?_
              refine rb_ast (E' := mE ad cI (nI 0) n st mn (va_up (va_up ar 7 (upd (ar 7) c (nI b1))) 8 (upd (ar 8) c ((ar 8 c) + (nI 1))))) (n := 6) (f := ar 7) S wb 7 (by decide) rfl 0 rfl c (by omega) (by decide) (m12 rfl rfl rfl rfl rfl rfl rfl rfl rfl rfl rfl rfl) dX4_act_160 (fun H locs wb => ?_)
              refine lv_aload_n hx hb dX4_act_161 rfl (lv_at hl 0 rfl) ?_
              refine rb_get S wb 0 (by decide) rfl rfl in4 8 (by decide) bw_470 rfl dX4_act_162 ?_
              refine lv_iload_n hx hb dX4_act_165 rfl (lv_at hl 1 rfl) ?_
              refine lv_iconst (v := nI 1) hx hb dX4_act_166 (by decide) ?_
              refine rb_ast (E' := mE ad cI (nI 0) n st mn (va_up (va_up (va_up ar 6 (upd (ar 6) c (nI 1))) 7 (upd (ar 7) c (nI b1))) 8 (upd (ar 8) c ((ar 8 c) + (nI 1))))) (n := 6) (f := ar 6) S wb 6 (by decide) rfl 0 rfl c (by omega) (by decide) (m12 rfl rfl rfl rfl rfl rfl rfl rfl rfl rfl rfl rfl) dX4_act_167 (fun H locs wb => ?_)
              refine lv_aload_n hx hb dX4_act_168 rfl (lv_at hl 0 rfl) ?_
              refine rb_get S wb 0 (by decide) rfl rfl in4 11 (by decide) bw_473 rfl dX4_act_169 ?_
              refine lv_iload_n hx hb dX4_act_172 rfl (lv_at hl 1 rfl) ?_
              refine lv_aload_n hx hb dX4_act_173 rfl (lv_at hl 0 rfl) ?_
              refine rb_get S wb 0 (by decide) rfl rfl in4 4 (by decide) bw_466 rfl dX4_act_174 ?_
              refine lv_bipush (v := nI 6) hx hb dX4_act_177 (by decide) ?_
              refine lv_iload_n hx hb dX4_act_179 rfl (lv_at hl 1 rfl) ?_
              refine lv_imul hx hb dX4_act_180 ?_
              refine nb_ren (y := nI (6 * c)) (pk_mul _ _) ?_
              refine lv_iload_n hx hb dX4_act_181 rfl (lv_at hl 2 rfl) ?_
              refine lv_iadd hx hb dX4_act_182 ?_
              refine nb_ren (y := nI (6 * c + b1)) (nI_add _ _) ?_
              refine rb_ald (n := 36) (f := ar 2) (x := ar 2 (6 * c + b1)) S wb 2 (by decide) rfl 0 rfl (6 * c + b1) (by omega) (by decide) rfl dX4_act_183 ?_
              refine lv_aload_n hx hb dX4_act_184 rfl (lv_at hl 0 rfl) ?_
              refine lv_iload_n hx hb dX4_act_185 rfl (lv_at hl 1 rfl) ?_
              refine lv_iload_n hx hb dX4_act_186 rfl (lv_at hl 2 rfl) ?_
              refine rb_callV S wb EN0_ok (m_valueOf l D cI cC cD ad (nI 0) n st mn (va_up (va_up (va_up ar 6 (upd (ar 6) c (nI 1))) 7 (upd (ar 7) c (nI b1))) 8 (upd (ar 8) c ((ar 8 c) + (nI 1)))) c b1 (by omega) (by omega) (by omega)) (bw5 bw_528 bw_530 bw_24 bw_37 bw_531) (rb_recv wb 0 (by decide) rfl rfl) hdX4_valueOf rfl ⟨rfl, rfl⟩ ⟨by decide, by decide⟩ hl.1 (Nat.le_of_ble_eq_true rfl) ⟨Nat.zero_le _, Nat.zero_le _⟩ (rest := [.int (ar 2 (6 * c + b1)), .int (nI c), .ref (ad 9)]) (st1 := [.int (vl n ar c b1), .int (ar 2 (6 * c + b1)), .int (nI c), .ref (ad 9)]) rfl rfl dX4_act_187 (fun H locs wb => ?_)
              refine lv_iadd hx hb dX4_act_190 ?_
              refine lv_aload_n hx hb dX4_act_191 rfl (lv_at hl 0 rfl) ?_
              refine lv_iload_n hx hb dX4_act_192 rfl (lv_at hl 1 rfl) ?_
              refine lv_iload_n hx hb dX4_act_193 rfl (lv_at hl 3 rfl) ?_
              refine rb_callV S wb EN0_ok (m_valueOf l D cI cC cD ad (nI 0) n st mn (va_up (va_up (va_up ar 6 (upd (ar 6) c (nI 1))) 7 (upd (ar 7) c (nI b1))) 8 (upd (ar 8) c ((ar 8 c) + (nI 1)))) c sd1 (by omega) (by omega) (by omega)) (bw5 bw_528 bw_530 bw_24 bw_37 bw_531) (rb_recv wb 0 (by decide) rfl rfl) hdX4_valueOf rfl ⟨rfl, rfl⟩ ⟨by decide, by decide⟩ hl.1 (Nat.le_of_ble_eq_true rfl) ⟨Nat.zero_le _, Nat.zero_le _⟩ (rest := [.int ((ar 2 (6 * c + b1)) + (vl n ar c b1)), .int (nI c), .ref (ad 9)]) (st1 := [.int (vl n ar c sd1), .int ((ar 2 (6 * c + b1)) + (vl n ar c b1)), .int (nI c), .ref (ad 9)]) rfl rfl dX4_act_194 (fun H locs wb => ?_)
              refine lv_isub hx hb dX4_act_197 ?_
              refine lv_aload_n hx hb dX4_act_198 rfl (lv_at hl 0 rfl) ?_
              refine rb_get S wb 0 (by decide) rfl rfl in4 2 (by decide) bw_464 rfl dX4_act_199 ?_
              refine lv_iadd hx hb dX4_act_202 ?_
              refine rb_ast (E' := mE ad cI (nI 0) n st mn (va_up (va_up (va_up (va_up ar 6 (upd (ar 6) c (nI 1))) 7 (upd (ar 7) c (nI b1))) 8 (upd (ar 8) c ((ar 8 c) + (nI 1)))) 9 (upd (ar 9) c ((((ar 2 (6 * c + b1)) + (vl n ar c b1)) - (vl n ar c sd1)) + st)))) (n := 6) (f := ar 9) S wb 9 (by decide) rfl 0 rfl c (by omega) (by decide) (m12 rfl rfl rfl rfl rfl rfl rfl rfl rfl rfl rfl rfl) dX4_act_203 (fun H locs wb => ?_)
              refine lv_aload_n hx hb dX4_act_204 rfl (lv_at hl 0 rfl) ?_
              refine rb_get S wb 0 (by decide) rfl rfl in4 14 (by decide) bw_476 rfl dX4_act_205 ?_
              refine lv_iconst (v := nI 0) hx hb dX4_act_208 (by decide) ?_
              refine lv_dup2_11 hx hb dX4_act_209 rfl rfl ?_
              refine rb_ald (n := 4) (f := ar 11) (x := ar 11 0) S wb 11 (by decide) rfl 0 rfl 0 (by omega) (by decide) rfl dX4_act_210 ?_
              refine lv_iconst (v := nI 1) hx hb dX4_act_211 (by decide) ?_
              refine lv_iadd hx hb dX4_act_212 ?_
              refine rb_ast (E' := mE ad cI (nI 0) n st mn (va_up (va_up (va_up (va_up (va_up ar 6 (upd (ar 6) c (nI 1))) 7 (upd (ar 7) c (nI b1))) 8 (upd (ar 8) c ((ar 8 c) + (nI 1)))) 9 (upd (ar 9) c ((((ar 2 (6 * c + b1)) + (vl n ar c b1)) - (vl n ar c sd1)) + st))) 11 (upd (ar 11) 0 ((ar 11 0) + (nI 1))))) (n := 4) (f := ar 11) S wb 11 (by decide) rfl 0 rfl 0 (by omega) (by decide) (m12 rfl rfl rfl rfl rfl rfl rfl rfl rfl rfl rfl rfl) dX4_act_213 (fun H locs wb => ?_)
              refine lv_aload_n hx hb dX4_act_214 rfl (lv_at hl 0 rfl) ?_
              refine lv_iconst (v := nI 0) hx hb dX4_act_215 (by decide) ?_
              refine lv_iload_n hx hb dX4_act_216 rfl (lv_at hl 1 rfl) ?_
              refine lv_iload_n hx hb dX4_act_217 rfl (lv_at hl 2 rfl) ?_
              refine lv_aload_n hx hb dX4_act_218 rfl (lv_at hl 0 rfl) ?_
              refine rb_get S wb 0 (by decide) rfl rfl in4 10 (by decide) bw_472 rfl dX4_act_219 ?_
              refine lv_iload_n hx hb dX4_act_222 rfl (lv_at hl 1 rfl) ?_
              refine rb_ald (n := 6) (f := upd (ar 8) c ((ar 8 c) + (nI 1))) (x := (ar 8 c) + (nI 1)) S wb 8 (by decide) rfl 0 rfl c (by omega) (by decide) pk_us dX4_act_223 ?_
              refine lv_aload_n hx hb dX4_act_224 rfl (lv_at hl 0 rfl) ?_
              refine rb_get S wb 0 (by decide) rfl rfl in4 11 (by decide) bw_473 rfl dX4_act_225 ?_
              refine lv_iload_n hx hb dX4_act_228 rfl (lv_at hl 1 rfl) ?_
              refine rb_ald (n := 6) (f := upd (ar 9) c ((((ar 2 (6 * c + b1)) + (vl n ar c b1)) - (vl n ar c sd1)) + st)) (x := (((ar 2 (6 * c + b1)) + (vl n ar c b1)) - (vl n ar c sd1)) + st) S wb 9 (by decide) rfl 0 rfl c (by omega) (by decide) pk_us dX4_act_229 ?_
              refine rb_callV S wb EN0_ok (m_send0 l D cI cC cD ad (nI 0) n st mn (va_up (va_up (va_up (va_up (va_up ar 6 (upd (ar 6) c (nI 1))) 7 (upd (ar 7) c (nI b1))) 8 (upd (ar 8) c ((ar 8 c) + (nI 1)))) 9 (upd (ar 9) c ((((ar 2 (6 * c + b1)) + (vl n ar c b1)) - (vl n ar c sd1)) + st))) 11 (upd (ar 11) 0 ((ar 11 0) + (nI 1)))) (nI c) (nI b1) ((ar 8 c) + (nI 1)) ((((ar 2 (6 * c + b1)) + (vl n ar c b1)) - (vl n ar c sd1)) + st) (by omega)) (bw5 bw_532 bw_534 bw_25 bw_37 bw_535) (rb_recv wb 0 (by decide) rfl rfl) hdX4_send rfl ⟨rfl, rfl⟩ ⟨by decide, by decide⟩ hl.1 (Nat.le_of_ble_eq_true rfl) ⟨Nat.zero_le _, Nat.zero_le _⟩ (rest := []) (st1 := []) rfl rfl dX4_act_230 (fun H locs wb => ?_)
              refine lv_iload_n hx hb dX4_act_233 rfl (lv_at hl 2 rfl) ?_
              exact rb_iret S hr hlk hQ rfl wb (m12 rfl rfl rfl rfl rfl rfl rfl rfl rfl rfl rfl rfl) dX4_act_234
            · refine lv_iload hx hb dX4_act_109 (lv_at hl 4 rfl) ?_
              refine lv_iload_n hx hb dX4_act_111 rfl (lv_at hl 2 rfl) ?_
              refine nb_icmp_eq (tgt := 136) hx hb dX4_act_112 (by decide) (by omega) (by omega) (fun h112 => ?_) (fun h112 => ?_)
              · refine lv_iload_n hx hb dX4_act_136 rfl (lv_at hl 3 rfl) ?_
                refine lv_istore_n (lv' := [(3, .int (nI sd1)), (0, .ref (ad 0)), (1, .int (nI c)), (2, .int (nI b1)), (4, .int (nI j))]) hx hb dX4_act_137 rfl hl (by decide) rfl (fun ls hl => ?_)
                refine lv_iinc (v := nI (j + 1)) (lv' := [(4, .int (nI (j + 1))), (3, .int (nI sd1)), (0, .ref (ad 0)), (1, .int (nI c)), (2, .int (nI b1))]) hx hb dX4_act_138 hl (k := 4) rfl (nI_s1 _) (by decide) rfl (fun ls hl => ?_)
                refine lv_goto (tgt := 100) hx hb dX4_act_141 (by decide) ?_
                exact ih (j + 1) sd1 (by omega) (by omega) (by first | exact sc2_e hsd h112 | exact sc2_f hsd h128 | exact sc2_t hsd h112 h128) (by omega) _ _ wb ls (lv_sub hl [2, 3, 4, 1, 0] rfl)
              · refine lv_aload_n hx hb dX4_act_115 rfl (lv_at hl 0 rfl) ?_
                refine lv_iload_n hx hb dX4_act_116 rfl (lv_at hl 1 rfl) ?_
                refine lv_iload hx hb dX4_act_117 (lv_at hl 4 rfl) ?_
                refine rb_callV S wb EN0_ok (m_valueOf l D cI cC cD ad (nI 0) n st mn ar c j (by omega) (by omega) (by omega)) (bw5 bw_528 bw_530 bw_24 bw_37 bw_531) (rb_recv wb 0 (by decide) rfl rfl) hdX4_valueOf rfl ⟨rfl, rfl⟩ ⟨by decide, by decide⟩ hl.1 (Nat.le_of_ble_eq_true rfl) ⟨Nat.zero_le _, Nat.zero_le _⟩ (rest := []) (st1 := [.int (vl n ar c j)]) rfl rfl dX4_act_119 (fun H locs wb => ?_)
                refine lv_aload_n hx hb dX4_act_122 rfl (lv_at hl 0 rfl) ?_
                refine lv_iload_n hx hb dX4_act_123 rfl (lv_at hl 1 rfl) ?_
                refine lv_iload_n hx hb dX4_act_124 rfl (lv_at hl 3 rfl) ?_
                refine rb_callV S wb EN0_ok (m_valueOf l D cI cC cD ad (nI 0) n st mn ar c sd1 (by omega) (by omega) (by omega)) (bw5 bw_528 bw_530 bw_24 bw_37 bw_531) (rb_recv wb 0 (by decide) rfl rfl) hdX4_valueOf rfl ⟨rfl, rfl⟩ ⟨by decide, by decide⟩ hl.1 (Nat.le_of_ble_eq_true rfl) ⟨Nat.zero_le _, Nat.zero_le _⟩ (rest := [.int (vl n ar c j)]) (st1 := [.int (vl n ar c sd1), .int (vl n ar c j)]) rfl rfl dX4_act_125 (fun H locs wb => ?_)
                refine lv_icmp_le (tgt := 136) hx hb dX4_act_128 (by decide) (fun h128 => ?_) (fun h128 => ?_)
                · refine lv_iload_n hx hb dX4_act_136 rfl (lv_at hl 3 rfl) ?_
                  refine lv_istore_n (lv' := [(3, .int (nI sd1)), (0, .ref (ad 0)), (1, .int (nI c)), (2, .int (nI b1)), (4, .int (nI j))]) hx hb dX4_act_137 rfl hl (by decide) rfl (fun ls hl => ?_)
                  refine lv_iinc (v := nI (j + 1)) (lv' := [(4, .int (nI (j + 1))), (3, .int (nI sd1)), (0, .ref (ad 0)), (1, .int (nI c)), (2, .int (nI b1))]) hx hb dX4_act_138 hl (k := 4) rfl (nI_s1 _) (by decide) rfl (fun ls hl => ?_)
                  refine lv_goto (tgt := 100) hx hb dX4_act_141 (by decide) ?_
                  exact ih (j + 1) sd1 (by omega) (by omega) (by first | exact sc2_e hsd h112 | exact sc2_f hsd h128 | exact sc2_t hsd h112 h128) (by omega) _ _ wb ls (lv_sub hl [2, 3, 4, 1, 0] rfl)
                · refine lv_iload hx hb dX4_act_131 (lv_at hl 4 rfl) ?_
                  refine lv_goto (tgt := 137) hx hb dX4_act_133 (by decide) ?_
                  refine lv_istore_n (lv' := [(3, .int (nI j)), (0, .ref (ad 0)), (1, .int (nI c)), (2, .int (nI b1)), (4, .int (nI j))]) hx hb dX4_act_137 rfl hl (by decide) rfl (fun ls hl => ?_)
                  refine lv_iinc (v := nI (j + 1)) (lv' := [(4, .int (nI (j + 1))), (3, .int (nI j)), (0, .ref (ad 0)), (1, .int (nI c)), (2, .int (nI b1))]) hx hb dX4_act_138 hl (k := 4) rfl (nI_s1 _) (by decide) rfl (fun ls hl => ?_)
                  refine lv_goto (tgt := 100) hx hb dX4_act_141 (by decide) ?_
                  exact ih (j + 1) j (by omega) (by omega) (by first | exact sc2_e hsd h112 | exact sc2_f hsd h128 | exact sc2_t hsd h112 h128) (by omega) _ _ wb ls (lv_sub hl [2, 3, 4, 1, 0] rfl)
        refine lv_iload_n hx hb dX4_act_87 rfl (lv_at hl 2 rfl) ?_
        refine lv_if_ne (tgt := 95) hx hb dX4_act_88 (by decide) (fun h88 => ?_) (fun h88 => ?_)
        · have h88z : ¬ b1 = 0 := fun q => h88 (by rw [q]; exact nI_0)
          refine lv_iconst (v := nI 0) hx hb dX4_act_95 (by decide) ?_
          refine lv_istore_n (lv' := [(3, .int (nI 0)), (0, .ref (ad 0)), (1, .int (nI c)), (2, .int (nI b1))]) hx hb dX4_act_96 rfl hl (by decide) rfl (fun ls hl => ?_)
          refine lv_iconst (v := nI 0) hx hb dX4_act_97 (by decide) ?_
          refine lv_istore (lv' := [(4, .int (nI 0)), (3, .int (nI 0)), (0, .ref (ad 0)), (1, .int (nI c)), (2, .int (nI b1))]) hx hb dX4_act_98 hl (by decide) rfl (fun ls hl => ?_)
          exact L100 (n + 1) 0 0 (by omega) (by omega) (by unfold s0of; first | (rw [if_pos h88z]; rfl) | (rw [if_neg h88z]; rfl)) (by omega) _ _ wb ls (lv_sub hl [2, 3, 4, 1, 0] rfl)
        · have h88z : b1 = 0 := Classical.byContradiction fun q => nI_ne0 (by omega) (by omega) h88
          refine lv_iconst (v := nI 1) hx hb dX4_act_91 (by decide) ?_
          refine lv_goto (tgt := 96) hx hb dX4_act_92 (by decide) ?_
          refine lv_istore_n (lv' := [(3, .int (nI 1)), (0, .ref (ad 0)), (1, .int (nI c)), (2, .int (nI b1))]) hx hb dX4_act_96 rfl hl (by decide) rfl (fun ls hl => ?_)
          refine lv_iconst (v := nI 0) hx hb dX4_act_97 (by decide) ?_
          refine lv_istore (lv' := [(4, .int (nI 0)), (3, .int (nI 1)), (0, .ref (ad 0)), (1, .int (nI c)), (2, .int (nI b1))]) hx hb dX4_act_98 hl (by decide) rfl (fun ls hl => ?_)
          exact L100 (n + 1) 0 1 (by omega) (by omega) (by unfold s0of; first | (rw [if_pos h88z]; rfl) | (rw [if_neg h88z]; rfl)) (by omega) _ _ wb ls (lv_sub hl [2, 3, 4, 1, 0] rfl)
      · refine lv_aload_n hx hb dX4_act_60 rfl (lv_at hl 0 rfl) ?_
        refine lv_iload_n hx hb dX4_act_61 rfl (lv_at hl 1 rfl) ?_
        refine lv_iload_n hx hb dX4_act_62 rfl (lv_at hl 3 rfl) ?_
        refine rb_callV S wb EN0_ok (m_valueOf l D cI cC cD ad (nI 0) n st mn ar c (k + 1) (by omega) (by omega) (by omega)) (bw5 bw_528 bw_530 bw_24 bw_37 bw_531) (rb_recv wb 0 (by decide) rfl rfl) hdX4_valueOf rfl ⟨rfl, rfl⟩ ⟨by decide, by decide⟩ hl.1 (Nat.le_of_ble_eq_true rfl) ⟨Nat.zero_le _, Nat.zero_le _⟩ (rest := []) (st1 := [.int (vl n ar c (k + 1))]) rfl rfl dX4_act_63 (fun H locs wb => ?_)
        refine lv_aload_n hx hb dX4_act_66 rfl (lv_at hl 0 rfl) ?_
        refine lv_iload_n hx hb dX4_act_67 rfl (lv_at hl 1 rfl) ?_
        refine lv_iload_n hx hb dX4_act_68 rfl (lv_at hl 2 rfl) ?_
        refine rb_callV S wb EN0_ok (m_valueOf l D cI cC cD ad (nI 0) n st mn ar c b1 (by omega) (by omega) (by omega)) (bw5 bw_528 bw_530 bw_24 bw_37 bw_531) (rb_recv wb 0 (by decide) rfl rfl) hdX4_valueOf rfl ⟨rfl, rfl⟩ ⟨by decide, by decide⟩ hl.1 (Nat.le_of_ble_eq_true rfl) ⟨Nat.zero_le _, Nat.zero_le _⟩ (rest := [.int (vl n ar c (k + 1))]) (st1 := [.int (vl n ar c b1), .int (vl n ar c (k + 1))]) rfl rfl dX4_act_69 (fun H locs wb => ?_)
        refine lv_icmp_le (tgt := 79) hx hb dX4_act_72 (by decide) (fun h72 => ?_) (fun h72 => ?_)
        · refine lv_iload_n hx hb dX4_act_79 rfl (lv_at hl 2 rfl) ?_
          refine lv_istore_n (lv' := [(2, .int (nI b1)), (0, .ref (ad 0)), (1, .int (nI c)), (3, .int (nI (k + 1)))]) hx hb dX4_act_80 rfl hl (by decide) rfl (fun ls hl => ?_)
          refine lv_iinc (v := nI (k + 1 + 1)) (lv' := [(3, .int (nI (k + 1 + 1))), (2, .int (nI b1)), (0, .ref (ad 0)), (1, .int (nI c))]) hx hb dX4_act_81 hl (k := 3) rfl (nI_s1 _) (by decide) rfl (fun ls hl => ?_)
          refine lv_goto (tgt := 52) hx hb dX4_act_84 (by decide) ?_
          exact ih (k + 1) b1 (by omega) (by omega) (by first | exact bst_t hbq h72 | exact bst_f hbq h72) (by omega) _ _ wb ls (lv_sub hl [2, 3, 1, 0] rfl)
        · refine lv_iload_n hx hb dX4_act_75 rfl (lv_at hl 3 rfl) ?_
          refine lv_goto (tgt := 80) hx hb dX4_act_76 (by decide) ?_
          refine lv_istore_n (lv' := [(2, .int (nI (k + 1))), (0, .ref (ad 0)), (1, .int (nI c)), (3, .int (nI (k + 1)))]) hx hb dX4_act_80 rfl hl (by decide) rfl (fun ls hl => ?_)
          refine lv_iinc (v := nI (k + 1 + 1)) (lv' := [(3, .int (nI (k + 1 + 1))), (2, .int (nI (k + 1))), (0, .ref (ad 0)), (1, .int (nI c))]) hx hb dX4_act_81 hl (k := 3) rfl (nI_s1 _) (by decide) rfl (fun ls hl => ?_)
          refine lv_goto (tgt := 52) hx hb dX4_act_84 (by decide) ?_
          exact ih (k + 1) (k + 1) (by omega) (by omega) (by first | exact bst_t hbq h72 | exact bst_f hbq h72) (by omega) _ _ wb ls (lv_sub hl [2, 3, 1, 0] rfl)
  exact L52 n 0 0 (by omega) (by omega) rfl (by omega) _ _ wb ls (lv_sub hl [2, 3, 1, 0] rfl)
