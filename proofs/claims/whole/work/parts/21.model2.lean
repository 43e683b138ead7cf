/-! the model's helpers: loops -/
def fz (f : Nat → Int32) (k : Nat) (v : Int32) : Nat → Int32 := fun j => if j < k then v else f j
theorem fz_0 (f : Nat → Int32) (v : Int32) : fz f 0 v = f := by funext j; simp [fz]
theorem fz_s (f : Nat → Int32) (k : Nat) (v : Int32) : upd (fz f k v) k v = fz f (k + 1) v := by
  funext j
  by_cases h : j = k
  · subst h; simp [upd, fz]
  · by_cases h2 : j < k
    · simp [upd, fz, h, h2, Nat.lt_succ_of_lt h2]
    · have h3 : ¬ j < k + 1 := by omega
      simp [upd, fz, h, h2, h3]
theorem inl_eq {cI : ClassId} {n : Nat} {f g : Nat → Int32} (h : f = g) : (.inl (cI, n, .inl f) : va_E) = .inl (cI, n, .inl g) := by rw [h]
def put5 (f : Nat → Int32) (p : Nat) (a b c d e : Int32) : Nat → Int32 := upd (upd (upd (upd (upd f p a) (p + 1) b) (p + 2) c) (p + 3) d) (p + 4) e
def dr (f : Nat → Int32) (a k : Nat) : Nat → Int32 := fun q => if a ≤ q ∧ q < k then f (q + 5) else f q
theorem dr_0 (f : Nat → Int32) (a : Nat) : f = dr f a a := by
  funext q
  have : ¬ (a ≤ q ∧ q < a) := by omega
  simp [dr, this]
theorem dr_s (f : Nat → Int32) (a k : Nat) (h : a ≤ k) : upd (dr f a k) k (dr f a k (k + 5)) = dr f a (k + 1) := by
  funext q
  have h5 : ¬ (a ≤ k + 5 ∧ k + 5 < k) := by omega
  by_cases hq : q = k
  · subst hq
    have : a ≤ q ∧ q < q + 1 := ⟨h, by omega⟩
    simp only [upd, dr, this, h5, if_true, if_false, and_self]
  · by_cases h2 : a ≤ q ∧ q < k
    · have h3 : a ≤ q ∧ q < k + 1 := ⟨h2.1, by omega⟩
      simp [upd, dr, hq, h2, h3]
    · have h3 : ¬ (a ≤ q ∧ q < k + 1) := by omega
      simp only [upd, dr, hq, h2, h3, if_false]
/-- the greatest of w 0 .. w k -/
def pf (w : Nat → Int32) : Nat → Int32
  | 0 => w 0
  | k + 1 => if pf w k < w (k + 1) then w (k + 1) else pf w k
theorem pf_t {w : Nat → Int32} {k : Nat} {b x : Int32} (hb : b = pf w k) (hx : x = w (k + 1)) (h : ¬ x ≤ b) : x = pf w (k + 1) := by
  rw [pf, ← hb, ← hx, if_pos (Int32.not_le.mp h)]
theorem pf_f {w : Nat → Int32} {k : Nat} {b x : Int32} (hb : b = pf w k) (hx : x = w (k + 1)) (h : x ≤ b) : b = pf w (k + 1) := by
  rw [pf, ← hb, ← hx, if_neg (Int32.not_lt.mpr h)]
/-- crew c holds a job whose desk has it by that bid -/
def st1 (ar : Nat → Nat → Int32) (c : Nat) : Prop := ar 6 c = 2 ∧ ar 4 (ar 7 c).toNatClampNeg = nI c ∧ ar 5 (ar 7 c).toNatClampNeg = ar 8 c
def stl (ar : Nat → Nat → Int32) (k : Nat) : Prop := ∀ c, c < k → st1 ar c
theorem stl_s {ar : Nat → Nat → Int32} {k : Nat} (h : stl ar k) (h1 : st1 ar k) : stl ar (k + 1) := by
  intro c hc
  by_cases e : c = k
  · subst e; exact h1
  · exact h c (by omega)
theorem stl_n {ar : Nat → Nat → Int32} {k : Nat} (h : ¬ stl ar k) : ¬ stl ar (k + 1) := fun q => h (fun c hc => q c (by omega))
theorem stl_m {ar : Nat → Nat → Int32} {k : Nat} (h : ¬ st1 ar k) : ¬ stl ar (k + 1) := fun q => h (q k (by omega))
/-- v tells whether P -/
def tells (v : Int32) (P : Prop) : Prop := (P → v = 1) ∧ (¬ P → v = 0)
theorem tells_t {P : Prop} (h : P) : tells (nI 1) P := ⟨fun _ => nI_c1, fun q => absurd h q⟩
theorem tells_f {P : Prop} (h : ¬ P) : tells (nI 0) P := ⟨fun q => absurd q h, fun _ => nI_0⟩
theorem tells_T {P : Prop} {v : Int32} (h : tells v P) (n : ¬ v = 0) : P := Classical.byContradiction fun q => n (h.2 q)
theorem tells_F {P : Prop} {v : Int32} (h : tells v P) (n : v = 0) : ¬ P := fun q => by
  have := h.1 q
  rw [n] at this
  exact absurd this (by decide)
theorem tells_b {P : Prop} {v : Int32} (h : tells v P) : v = 0 ∨ v = 1 := by
  by_cases q : P
  · exact Or.inr (h.1 q)
  · exact Or.inl (h.2 q)
theorem tells_u {P : Prop} {v w : Int32} (h : tells v P) (h2 : tells w P) : v = w := by
  by_cases q : P
  · rw [h.1 q, h2.1 q]
  · rw [h.2 q, h2.2 q]
/-- targets of crews that hold lie among the places -/
def HT (ar : Nat → Nat → Int32) (n : Nat) : Prop := ∀ c, c < n → ar 6 c = 2 → ∃ t, t < 6 ∧ ar 7 c = nI t
theorem HT_x {ar : Nat → Nat → Int32} {n c : Nat} (h : HT ar n) (hc : c < n) (h2 : ar 6 c = 2) : ∃ t, t < 6 ∧ ar 7 c = nI t ∧ (ar 7 c).toNatClampNeg = t := by
  obtain ⟨t, h1, h3⟩ := h c hc h2
  exact ⟨t, h1, h3, by rw [h3]; exact nI_clamp (by omega)⟩

set_option maxHeartbeats 4000000 in
set_option maxRecDepth 100000 in
theorem m_clean (l : Launch) (D : va_G) (cI cC cD : ClassId) (ad : Nat → Nat) (th : Int32) (n : Nat) (st : Int32) (mn : Nat) (ar : Nat → Nat → Int32)  : RM l yX4_clean cX4_clean 2 none ({ frames := 0, cells := 0, slots := 0, locals := 0 }) D (ty3 cI cC cD) EN0 [.ref (ad 0)] ad 12 (mE ad cI th n st mn ar) (mE ad cI th n st 0 (va_up (va_up (va_up (va_up ar 4 (fz (ar 4) 6 (-1))) 5 (fz (ar 5) 6 (nI 0))) 6 (fz (ar 6) 6 (nI 0))) 7 (fz (ar 7) 6 (-1)))) none := by
  refine RM.of (by decide) (Nat.le_of_ble_eq_true rfl) ?_
  intro p e s m below meth c0 A ls args Q0 S hr hlk hQ wb hl
  have hx := S.1
  have hb := S.2.1
  have hl : lv_has ls 2 [(0, .ref (ad 0))] := hl
  refine lv_aload_n hx hb dX4_clean_0 rfl (lv_at hl 0 rfl) ?_
  refine lv_iconst (v := nI 0) hx hb dX4_clean_1 (by decide) ?_
  refine rb_put (E' := mE ad cI th n st 0 ar) S wb 0 (by decide) rfl rfl in4 tyX4 tyX4_ok nmX4 12 (by decide) bw_474 rfl rfl rfl (Nat.le_of_ble_eq_true rfl) (m12 rfl rfl rfl rfl rfl rfl rfl rfl rfl rfl rfl rfl) dX4_clean_2 (fun H locs wb => ?_)
  refine lv_iconst (v := nI 0) hx hb dX4_clean_5 (by decide) ?_
  refine lv_istore_n (lv' := [(1, .int (nI 0)), (0, .ref (ad 0))]) hx hb dX4_clean_6 rfl hl (by decide) rfl (fun ls hl => ?_)
  have L7 : ∀ (fuel : Nat) (k : Nat) (hk : k ≤ 6) (hfu : 6 < k + fuel) (H : Heap) (locs : List Loc) (wb : WB D (ty3 cI cC cD) EN0 ad 12 A s (mE ad cI th n st 0 (va_up (va_up (va_up (va_up ar 4 (fz (ar 4) k (-1))) 5 (fz (ar 5) k (nI 0))) 6 (fz (ar 6) k (nI 0))) 7 (fz (ar 7) k (-1)))) H locs) (ls : Array Slot) (hl : lv_has ls 2 [(0, .ref (ad 0)), (1, .int (nI k))]), W p l e ({ frames := 0, cells := 0, slots := 0, locals := 0 }) s m args below meth c0 H locs 0 0 Q0 (F0 m 7 ls []) := by
    intro fuel
    induction fuel with
    | zero => intro k hk hfu H locs wb ls hl; exact absurd hfu (by omega)
    | succ fuel ih =>
      intro k hk hfu H locs wb ls hl
      refine lv_iload_n hx hb dX4_clean_7 rfl (lv_at hl 1 rfl) ?_
      refine lv_bipush (v := nI 6) hx hb dX4_clean_8 (by decide) ?_
      refine nb_icmp_ge (tgt := 47) hx hb dX4_clean_10 (by decide) (by omega) (by omega) (fun h10 => ?_) (fun h10 => ?_)
      · have hk6 : k = 6 := by omega
        subst hk6
        exact rb_vret S hr hlk hQ wb (fun _ _ => rfl) dX4_clean_47
      · refine lv_aload_n hx hb dX4_clean_13 rfl (lv_at hl 0 rfl) ?_
        refine rb_get S wb 0 (by decide) rfl rfl in4 6 (by decide) bw_468 rfl dX4_clean_14 ?_
        refine lv_iload_n hx hb dX4_clean_17 rfl (lv_at hl 1 rfl) ?_
        refine lv_iconst (v := (-1)) hx hb dX4_clean_18 (by decide) ?_
        refine rb_ast (E' := mE ad cI th n st 0 (va_up (va_up (va_up (va_up ar 4 (upd (fz (ar 4) k (-1)) k (-1))) 5 (fz (ar 5) k (nI 0))) 6 (fz (ar 6) k (nI 0))) 7 (fz (ar 7) k (-1)))) (n := 6) (f := fz (ar 4) k (-1)) S wb 4 (by decide) rfl 0 rfl k (by omega) (by decide) (m12 rfl rfl rfl rfl rfl rfl rfl rfl rfl rfl rfl rfl) dX4_clean_19 (fun H locs wb => ?_)
        refine lv_aload_n hx hb dX4_clean_20 rfl (lv_at hl 0 rfl) ?_
        refine rb_get S wb 0 (by decide) rfl rfl in4 7 (by decide) bw_469 rfl dX4_clean_21 ?_
        refine lv_iload_n hx hb dX4_clean_24 rfl (lv_at hl 1 rfl) ?_
        refine lv_iconst (v := nI 0) hx hb dX4_clean_25 (by decide) ?_
        refine rb_ast (E' := mE ad cI th n st 0 (va_up (va_up (va_up (va_up ar 4 (upd (fz (ar 4) k (-1)) k (-1))) 5 (upd (fz (ar 5) k (nI 0)) k (nI 0))) 6 (fz (ar 6) k (nI 0))) 7 (fz (ar 7) k (-1)))) (n := 6) (f := fz (ar 5) k (nI 0)) S wb 5 (by decide) rfl 0 rfl k (by omega) (by decide) (m12 rfl rfl rfl rfl rfl rfl rfl rfl rfl rfl rfl rfl) dX4_clean_26 (fun H locs wb => ?_)
        refine lv_aload_n hx hb dX4_clean_27 rfl (lv_at hl 0 rfl) ?_
        refine rb_get S wb 0 (by decide) rfl rfl in4 8 (by decide) bw_470 rfl dX4_clean_28 ?_
        refine lv_iload_n hx hb dX4_clean_31 rfl (lv_at hl 1 rfl) ?_
        refine lv_iconst (v := nI 0) hx hb dX4_clean_32 (by decide) ?_
        refine rb_ast (E' := mE ad cI th n st 0 (va_up (va_up (va_up (va_up ar 4 (upd (fz (ar 4) k (-1)) k (-1))) 5 (upd (fz (ar 5) k (nI 0)) k (nI 0))) 6 (upd (fz (ar 6) k (nI 0)) k (nI 0))) 7 (fz (ar 7) k (-1)))) (n := 6) (f := fz (ar 6) k (nI 0)) S wb 6 (by decide) rfl 0 rfl k (by omega) (by decide) (m12 rfl rfl rfl rfl rfl rfl rfl rfl rfl rfl rfl rfl) dX4_clean_33 (fun H locs wb => ?_)
        refine lv_aload_n hx hb dX4_clean_34 rfl (lv_at hl 0 rfl) ?_
        refine rb_get S wb 0 (by decide) rfl rfl in4 9 (by decide) bw_471 rfl dX4_clean_35 ?_
        refine lv_iload_n hx hb dX4_clean_38 rfl (lv_at hl 1 rfl) ?_
        refine lv_iconst (v := (-1)) hx hb dX4_clean_39 (by decide) ?_
        refine rb_ast (E' := mE ad cI th n st 0 (va_up (va_up (va_up (va_up ar 4 (upd (fz (ar 4) k (-1)) k (-1))) 5 (upd (fz (ar 5) k (nI 0)) k (nI 0))) 6 (upd (fz (ar 6) k (nI 0)) k (nI 0))) 7 (upd (fz (ar 7) k (-1)) k (-1)))) (n := 6) (f := fz (ar 7) k (-1)) S wb 7 (by decide) rfl 0 rfl k (by omega) (by decide) (m12 rfl rfl rfl rfl rfl rfl rfl rfl rfl rfl rfl rfl) dX4_clean_40 (fun H locs wb => ?_)
        refine lv_iinc (v := nI (k + 1)) (lv' := [(1, .int (nI (k + 1))), (0, .ref (ad 0))]) hx hb dX4_clean_41 hl (k := 1) rfl (nI_s1 _) (by decide) rfl (fun ls hl => ?_)
        refine lv_goto (tgt := 7) hx hb dX4_clean_44 (by decide) ?_
        exact ih (k + 1) (by omega) (by omega) _ _ (wb.to (m12 rfl rfl rfl rfl (inl_eq (fz_s _ _ _)) (inl_eq (fz_s _ _ _)) (inl_eq (fz_s _ _ _)) (inl_eq (fz_s _ _ _)) rfl rfl rfl rfl)) ls (lv_sub hl [1, 0] rfl)
  exact L7 7 0 (by omega) (by omega) _ _ (wb.to (m12 rfl rfl rfl rfl (inl_eq (fz_0 (ar 4) (-1)).symm) (inl_eq (fz_0 (ar 5) (nI 0)).symm) (inl_eq (fz_0 (ar 6) (nI 0)).symm) (inl_eq (fz_0 (ar 7) (-1)).symm) rfl rfl rfl rfl)) ls (lv_sub hl [1, 0] rfl)

set_option maxHeartbeats 4000000 in
set_option maxRecDepth 100000 in
theorem m_isSettled (l : Launch) (D : va_G) (cI cC cD : ClassId) (ad : Nat → Nat) (th : Int32) (n : Nat) (st : Int32) (mn : Nat) (ar : Nat → Nat → Int32) (hn : n ≤ 6) (hT : HT ar n) (r : Int32) (hr0 : tells r (stl ar n)) : RM l yX4_isSettled cX4_isSettled 4 (some .boolean) ({ frames := 0, cells := 0, slots := 0, locals := 0 }) D (ty3 cI cC cD) EN0 [.ref (ad 0)] ad 12 (mE ad cI th n st mn ar) (mE ad cI th n st mn ar) (some (.int r)) := by
  refine RM.of (by decide) (Nat.le_of_ble_eq_true rfl) ?_
  intro p e s m below meth c0 A ls args Q0 S hr hlk hQ wb hl
  have hx := S.1
  have hb := S.2.1
  have hl : lv_has ls 4 [(0, .ref (ad 0))] := hl
  refine lv_iconst (v := nI 1) hx hb dX4_isSettled_0 (by decide) ?_
  refine lv_istore_n (lv' := [(1, .int (nI 1)), (0, .ref (ad 0))]) hx hb dX4_isSettled_1 rfl hl (by decide) rfl (fun ls hl => ?_)
  refine lv_iconst (v := nI 0) hx hb dX4_isSettled_2 (by decide) ?_
  refine lv_istore_n (lv' := [(2, .int (nI 0)), (1, .int (nI 1)), (0, .ref (ad 0))]) hx hb dX4_isSettled_3 rfl hl (by decide) rfl (fun ls hl => ?_)
  have L4 : ∀ (fuel : Nat) (c : Nat) (v : Int32) (hc : c ≤ n) (hfu : n < c + fuel) (hv : tells v (stl ar c)) (H : Heap) (locs : List Loc) (wb : WB D (ty3 cI cC cD) EN0 ad 12 A s (mE ad cI th n st mn ar) H locs) (ls : Array Slot) (hl : lv_has ls 4 [(0, .ref (ad 0)), (1, .int v), (2, .int (nI c))]), W p l e ({ frames := 0, cells := 0, slots := 0, locals := 0 }) s m args below meth c0 H locs 0 0 Q0 (F0 m 4 ls []) := by
    intro fuel
    induction fuel with
    | zero => intro c v hc hfu hv H locs wb ls hl; exact absurd hfu (by omega)
    | succ fuel ih =>
      intro c v hc hfu hv H locs wb ls hl
      refine lv_iload_n hx hb dX4_isSettled_4 rfl (lv_at hl 2 rfl) ?_
      refine lv_aload_n hx hb dX4_isSettled_5 rfl (lv_at hl 0 rfl) ?_
      refine rb_get S wb 0 (by decide) rfl rfl in4 1 (by decide) bw_463 rfl dX4_isSettled_6 ?_
      refine nb_icmp_ge (tgt := 70) hx hb dX4_isSettled_9 (by decide) (by omega) (by omega) (fun h9 => ?_) (fun h9 => ?_)
      · refine lv_iload_n hx hb dX4_isSettled_70 rfl (lv_at hl 1 rfl) ?_
        have hcn : c = n := by omega
        subst hcn
        exact rb_zret S hr hlk hQ (tells_u hr0 hv) (tells_b hv) wb (fun _ _ => rfl) dX4_isSettled_71
      · refine lv_aload_n hx hb dX4_isSettled_12 rfl (lv_at hl 0 rfl) ?_
        refine rb_get S wb 0 (by decide) rfl rfl in4 9 (by decide) bw_471 rfl dX4_isSettled_13 ?_
        refine lv_iload_n hx hb dX4_isSettled_16 rfl (lv_at hl 2 rfl) ?_
        refine rb_ald (n := 6) (f := ar 7) (x := ar 7 c) S wb 7 (by decide) rfl 0 rfl c (by omega) (by decide) rfl dX4_isSettled_17 ?_
        refine lv_istore_n (lv' := [(3, .int (ar 7 c)), (0, .ref (ad 0)), (1, .int v), (2, .int (nI c))]) hx hb dX4_isSettled_18 rfl hl (by decide) rfl (fun ls hl => ?_)
        refine lv_iload_n hx hb dX4_isSettled_19 rfl (lv_at hl 2 rfl) ?_
        refine lv_if_eq (tgt := 62) hx hb dX4_isSettled_20 (by decide) (fun h20 => ?_) (fun h20 => ?_)
        · refine lv_iconst (v := nI 0) hx hb dX4_isSettled_62 (by decide) ?_
          refine lv_istore_n (lv' := [(1, .int (nI 0)), (3, .int (ar 7 c)), (0, .ref (ad 0)), (2, .int (nI c))]) hx hb dX4_isSettled_63 rfl hl (by decide) rfl (fun ls hl => ?_)
          refine lv_iinc (v := nI (c + 1)) (lv' := [(2, .int (nI (c + 1))), (1, .int (nI 0)), (3, .int (ar 7 c)), (0, .ref (ad 0))]) hx hb dX4_isSettled_64 hl (k := 3) rfl (nI_s1 _) (by decide) rfl (fun ls hl => ?_)
          refine lv_goto (tgt := 4) hx hb dX4_isSettled_67 (by decide) ?_
          exact ih (c + 1) (nI 0) (by omega) (by omega) (by first | exact tells_f (stl_n (tells_F hv h20)) | exact tells_f (stl_m (fun q => h30 q.1)) | exact tells_f (stl_m (fun q => h40 (by rw [← ett]; exact q.2.1))) | exact tells_f (stl_m (fun q => h55 (by rw [← ett]; exact q.2.2))) | exact tells_t (stl_s (tells_T hv h20) ⟨h30, by rw [ett]; exact h40, by rw [ett]; exact h55⟩)) _ _ wb ls (lv_sub hl [3, 1, 0] rfl)
        · refine lv_aload_n hx hb dX4_isSettled_23 rfl (lv_at hl 1 rfl) ?_
          refine rb_get S wb 0 (by decide) rfl rfl in4 8 (by decide) bw_470 rfl dX4_isSettled_24 ?_
          refine lv_iload_n hx hb dX4_isSettled_27 rfl (lv_at hl 3 rfl) ?_
          refine rb_ald (n := 6) (f := ar 6) (x := ar 6 c) S wb 6 (by decide) rfl 0 rfl c (by omega) (by decide) rfl dX4_isSettled_28 ?_
          refine lv_iconst (v := nI 2) hx hb dX4_isSettled_29 (by decide) ?_
          refine lv_icmp_ne (tgt := 62) hx hb dX4_isSettled_30 (by decide) (fun h30 => ?_) (fun h30 => ?_)
          · refine lv_iconst (v := nI 0) hx hb dX4_isSettled_62 (by decide) ?_
            refine lv_istore_n (lv' := [(1, .int (nI 0)), (3, .int (ar 7 c)), (0, .ref (ad 0)), (2, .int (nI c))]) hx hb dX4_isSettled_63 rfl hl (by decide) rfl (fun ls hl => ?_)
            refine lv_iinc (v := nI (c + 1)) (lv' := [(2, .int (nI (c + 1))), (1, .int (nI 0)), (3, .int (ar 7 c)), (0, .ref (ad 0))]) hx hb dX4_isSettled_64 hl (k := 3) rfl (nI_s1 _) (by decide) rfl (fun ls hl => ?_)
            refine lv_goto (tgt := 4) hx hb dX4_isSettled_67 (by decide) ?_
            exact ih (c + 1) (nI 0) (by omega) (by omega) (by first | exact tells_f (stl_n (tells_F hv h20)) | exact tells_f (stl_m (fun q => h30 q.1)) | exact tells_f (stl_m (fun q => h40 (by rw [← ett]; exact q.2.1))) | exact tells_f (stl_m (fun q => h55 (by rw [← ett]; exact q.2.2))) | exact tells_t (stl_s (tells_T hv h20) ⟨h30, by rw [ett]; exact h40, by rw [ett]; exact h55⟩)) _ _ wb ls (lv_sub hl [3, 1, 0] rfl)
          · obtain ⟨t, ht6, et, ett⟩ := HT_x hT h9 h30
            refine lv_aload_n hx hb dX4_isSettled_33 rfl (lv_at hl 1 rfl) ?_
            refine rb_get S wb 0 (by decide) rfl rfl in4 6 (by decide) bw_468 rfl dX4_isSettled_34 ?_
            refine lv_iload_n hx hb dX4_isSettled_37 rfl (lv_at hl 0 rfl) ?_
            refine nb_ren (y := nI t) et ?_
            refine rb_ald (n := 6) (f := ar 4) (x := ar 4 t) S wb 4 (by decide) rfl 0 rfl t (by omega) (by decide) rfl dX4_isSettled_38 ?_
            refine lv_iload_n hx hb dX4_isSettled_39 rfl (lv_at hl 3 rfl) ?_
            refine lv_icmp_ne (tgt := 62) hx hb dX4_isSettled_40 (by decide) (fun h40 => ?_) (fun h40 => ?_)
            · refine lv_iconst (v := nI 0) hx hb dX4_isSettled_62 (by decide) ?_
              refine lv_istore_n (lv' := [(1, .int (nI 0)), (3, .int (ar 7 c)), (0, .ref (ad 0)), (2, .int (nI c))]) hx hb dX4_isSettled_63 rfl hl (by decide) rfl (fun ls hl => ?_)
              refine lv_iinc (v := nI (c + 1)) (lv' := [(2, .int (nI (c + 1))), (1, .int (nI 0)), (3, .int (ar 7 c)), (0, .ref (ad 0))]) hx hb dX4_isSettled_64 hl (k := 3) rfl (nI_s1 _) (by decide) rfl (fun ls hl => ?_)
              refine lv_goto (tgt := 4) hx hb dX4_isSettled_67 (by decide) ?_
              exact ih (c + 1) (nI 0) (by omega) (by omega) (by first | exact tells_f (stl_n (tells_F hv h20)) | exact tells_f (stl_m (fun q => h30 q.1)) | exact tells_f (stl_m (fun q => h40 (by rw [← ett]; exact q.2.1))) | exact tells_f (stl_m (fun q => h55 (by rw [← ett]; exact q.2.2))) | exact tells_t (stl_s (tells_T hv h20) ⟨h30, by rw [ett]; exact h40, by rw [ett]; exact h55⟩)) _ _ wb ls (lv_sub hl [3, 1, 0] rfl)
            · refine lv_aload_n hx hb dX4_isSettled_43 rfl (lv_at hl 1 rfl) ?_
              refine rb_get S wb 0 (by decide) rfl rfl in4 7 (by decide) bw_469 rfl dX4_isSettled_44 ?_
              refine lv_iload_n hx hb dX4_isSettled_47 rfl (lv_at hl 0 rfl) ?_
              refine nb_ren (y := nI t) et ?_
              refine rb_ald (n := 6) (f := ar 5) (x := ar 5 t) S wb 5 (by decide) rfl 0 rfl t (by omega) (by decide) rfl dX4_isSettled_48 ?_
              refine lv_aload_n hx hb dX4_isSettled_49 rfl (lv_at hl 1 rfl) ?_
              refine rb_get S wb 0 (by decide) rfl rfl in4 10 (by decide) bw_472 rfl dX4_isSettled_50 ?_
              refine lv_iload_n hx hb dX4_isSettled_53 rfl (lv_at hl 3 rfl) ?_
              refine rb_ald (n := 6) (f := ar 8) (x := ar 8 c) S wb 8 (by decide) rfl 0 rfl c (by omega) (by decide) rfl dX4_isSettled_54 ?_
              refine lv_icmp_ne (tgt := 62) hx hb dX4_isSettled_55 (by decide) (fun h55 => ?_) (fun h55 => ?_)
              · refine lv_iconst (v := nI 0) hx hb dX4_isSettled_62 (by decide) ?_
                refine lv_istore_n (lv' := [(1, .int (nI 0)), (3, .int (ar 7 c)), (0, .ref (ad 0)), (2, .int (nI c))]) hx hb dX4_isSettled_63 rfl hl (by decide) rfl (fun ls hl => ?_)
                refine lv_iinc (v := nI (c + 1)) (lv' := [(2, .int (nI (c + 1))), (1, .int (nI 0)), (3, .int (ar 7 c)), (0, .ref (ad 0))]) hx hb dX4_isSettled_64 hl (k := 3) rfl (nI_s1 _) (by decide) rfl (fun ls hl => ?_)
                refine lv_goto (tgt := 4) hx hb dX4_isSettled_67 (by decide) ?_
                exact ih (c + 1) (nI 0) (by omega) (by omega) (by first | exact tells_f (stl_n (tells_F hv h20)) | exact tells_f (stl_m (fun q => h30 q.1)) | exact tells_f (stl_m (fun q => h40 (by rw [← ett]; exact q.2.1))) | exact tells_f (stl_m (fun q => h55 (by rw [← ett]; exact q.2.2))) | exact tells_t (stl_s (tells_T hv h20) ⟨h30, by rw [ett]; exact h40, by rw [ett]; exact h55⟩)) _ _ wb ls (lv_sub hl [3, 1, 0] rfl)
              · refine lv_iconst (v := nI 1) hx hb dX4_isSettled_58 (by decide) ?_
                refine lv_goto (tgt := 63) hx hb dX4_isSettled_59 (by decide) ?_
                refine lv_istore_n (lv' := [(1, .int (nI 1)), (3, .int (ar 7 c)), (0, .ref (ad 0)), (2, .int (nI c))]) hx hb dX4_isSettled_63 rfl hl (by decide) rfl (fun ls hl => ?_)
                refine lv_iinc (v := nI (c + 1)) (lv' := [(2, .int (nI (c + 1))), (1, .int (nI 1)), (3, .int (ar 7 c)), (0, .ref (ad 0))]) hx hb dX4_isSettled_64 hl (k := 3) rfl (nI_s1 _) (by decide) rfl (fun ls hl => ?_)
                refine lv_goto (tgt := 4) hx hb dX4_isSettled_67 (by decide) ?_
                exact ih (c + 1) (nI 1) (by omega) (by omega) (by first | exact tells_f (stl_n (tells_F hv h20)) | exact tells_f (stl_m (fun q => h30 q.1)) | exact tells_f (stl_m (fun q => h40 (by rw [← ett]; exact q.2.1))) | exact tells_f (stl_m (fun q => h55 (by rw [← ett]; exact q.2.2))) | exact tells_t (stl_s (tells_T hv h20) ⟨h30, by rw [ett]; exact h40, by rw [ett]; exact h55⟩)) _ _ wb ls (lv_sub hl [3, 1, 0] rfl)
  exact L4 (n + 1) 0 (nI 1) (by omega) (by omega) (tells_t (fun c hc => absurd hc (Nat.not_lt_zero c))) _ _ wb ls (lv_sub hl [2, 1, 0] rfl)

set_option maxHeartbeats 4000000 in
set_option maxRecDepth 100000 in
theorem m_send0 (l : Launch) (D : va_G) (cI cC cD : ClassId) (ad : Nat → Nat) (th : Int32) (n : Nat) (st : Int32) (mn : Nat) (ar : Nat → Nat → Int32) (x2 x3 x4 x5 : Int32) (hm : mn < 120) : RM l yX4_send cX4_send 7 none ({ frames := 0, cells := 0, slots := 0, locals := 0 }) D (ty3 cI cC cD) EN0 [.ref (ad 0), .int (nI 0), .int x2, .int x3, .int x4, .int x5] ad 12 (mE ad cI th n st mn ar) (mE ad cI th n st (mn + 1) (va_up ar 10 (put5 (ar 10) (5 * mn) (nI 0) x2 x3 x4 x5))) none := by
  refine RM.of (by decide) (Nat.le_of_ble_eq_true rfl) ?_
  intro p e s m below meth c0 A ls args Q0 S hr hlk hQ wb hl
  have hx := S.1
  have hb := S.2.1
  have hl : lv_has ls 7 [(0, .ref (ad 0)), (1, .int (nI 0)), (2, .int x2), (3, .int x3), (4, .int x4), (5, .int x5)] := hl
  refine lv_iconst (v := nI 5) hx hb dX4_send_0 (by decide) ?_
  refine lv_aload_n hx hb dX4_send_1 rfl (lv_at hl 0 rfl) ?_
  refine rb_get S wb 0 (by decide) rfl rfl in4 12 (by decide) bw_474 rfl dX4_send_2 ?_
  refine lv_imul hx hb dX4_send_5 ?_
  refine nb_ren (y := nI (5 * mn)) (pk_mul _ _) ?_
  refine lv_istore (lv' := [(6, .int (nI (5 * mn))), (0, .ref (ad 0)), (1, .int (nI 0)), (2, .int x2), (3, .int x3), (4, .int x4), (5, .int x5)]) hx hb dX4_send_6 hl (by decide) rfl (fun ls hl => ?_)
  refine lv_aload_n hx hb dX4_send_8 rfl (lv_at hl 1 rfl) ?_
  refine rb_get S wb 0 (by decide) rfl rfl in4 13 (by decide) bw_475 rfl dX4_send_9 ?_
  refine lv_iload hx hb dX4_send_12 (lv_at hl 0 rfl) ?_
  refine lv_iload_n hx hb dX4_send_14 rfl (lv_at hl 2 rfl) ?_
  refine rb_ast (E' := mE ad cI th n st mn (va_up ar 10 (upd (ar 10) (5 * mn) (nI 0)))) (n := 600) (f := ar 10) S wb 10 (by decide) rfl 0 rfl (5 * mn) (by omega) (by decide) (m12 rfl rfl rfl rfl rfl rfl rfl rfl rfl rfl rfl rfl) dX4_send_15 (fun H locs wb => ?_)
  refine lv_aload_n hx hb dX4_send_16 rfl (lv_at hl 1 rfl) ?_
  refine rb_get S wb 0 (by decide) rfl rfl in4 13 (by decide) bw_475 rfl dX4_send_17 ?_
  refine lv_iload hx hb dX4_send_20 (lv_at hl 0 rfl) ?_
  refine lv_iconst (v := nI 1) hx hb dX4_send_22 (by decide) ?_
  refine lv_iadd hx hb dX4_send_23 ?_
  refine nb_ren (y := nI (5 * mn + 1)) (nI_add _ _) ?_
  refine lv_iload_n hx hb dX4_send_24 rfl (lv_at hl 3 rfl) ?_
  refine rb_ast (E' := mE ad cI th n st mn (va_up ar 10 (upd (upd (ar 10) (5 * mn) (nI 0)) (5 * mn + 1) x2))) (n := 600) (f := upd (ar 10) (5 * mn) (nI 0)) S wb 10 (by decide) rfl 0 rfl (5 * mn + 1) (by omega) (by decide) (m12 rfl rfl rfl rfl rfl rfl rfl rfl rfl rfl rfl rfl) dX4_send_25 (fun H locs wb => ?_)
  refine lv_aload_n hx hb dX4_send_26 rfl (lv_at hl 1 rfl) ?_
  refine rb_get S wb 0 (by decide) rfl rfl in4 13 (by decide) bw_475 rfl dX4_send_27 ?_
  refine lv_iload hx hb dX4_send_30 (lv_at hl 0 rfl) ?_
  refine lv_iconst (v := nI 2) hx hb dX4_send_32 (by decide) ?_
  refine lv_iadd hx hb dX4_send_33 ?_
  refine nb_ren (y := nI (5 * mn + 2)) (nI_add _ _) ?_
  refine lv_iload_n hx hb dX4_send_34 rfl (lv_at hl 4 rfl) ?_
  refine rb_ast (E' := mE ad cI th n st mn (va_up ar 10 (upd (upd (upd (ar 10) (5 * mn) (nI 0)) (5 * mn + 1) x2) (5 * mn + 2) x3))) (n := 600) (f := upd (upd (ar 10) (5 * mn) (nI 0)) (5 * mn + 1) x2) S wb 10 (by decide) rfl 0 rfl (5 * mn + 2) (by omega) (by decide) (m12 rfl rfl rfl rfl rfl rfl rfl rfl rfl rfl rfl rfl) dX4_send_35 (fun H locs wb => ?_)
  refine lv_aload_n hx hb dX4_send_36 rfl (lv_at hl 1 rfl) ?_
  refine rb_get S wb 0 (by decide) rfl rfl in4 13 (by decide) bw_475 rfl dX4_send_37 ?_
  refine lv_iload hx hb dX4_send_40 (lv_at hl 0 rfl) ?_
  refine lv_iconst (v := nI 3) hx hb dX4_send_42 (by decide) ?_
  refine lv_iadd hx hb dX4_send_43 ?_
  refine nb_ren (y := nI (5 * mn + 3)) (nI_add _ _) ?_
  refine lv_iload hx hb dX4_send_44 (lv_at hl 5 rfl) ?_
  refine rb_ast (E' := mE ad cI th n st mn (va_up ar 10 (upd (upd (upd (upd (ar 10) (5 * mn) (nI 0)) (5 * mn + 1) x2) (5 * mn + 2) x3) (5 * mn + 3) x4))) (n := 600) (f := upd (upd (upd (ar 10) (5 * mn) (nI 0)) (5 * mn + 1) x2) (5 * mn + 2) x3) S wb 10 (by decide) rfl 0 rfl (5 * mn + 3) (by omega) (by decide) (m12 rfl rfl rfl rfl rfl rfl rfl rfl rfl rfl rfl rfl) dX4_send_46 (fun H locs wb => ?_)
  refine lv_aload_n hx hb dX4_send_47 rfl (lv_at hl 1 rfl) ?_
  refine rb_get S wb 0 (by decide) rfl rfl in4 13 (by decide) bw_475 rfl dX4_send_48 ?_
  refine lv_iload hx hb dX4_send_51 (lv_at hl 0 rfl) ?_
  refine lv_iconst (v := nI 4) hx hb dX4_send_53 (by decide) ?_
  refine lv_iadd hx hb dX4_send_54 ?_
  refine nb_ren (y := nI (5 * mn + 4)) (nI_add _ _) ?_
  refine lv_iload hx hb dX4_send_55 (lv_at hl 6 rfl) ?_
  refine rb_ast (E' := mE ad cI th n st mn (va_up ar 10 (upd (upd (upd (upd (upd (ar 10) (5 * mn) (nI 0)) (5 * mn + 1) x2) (5 * mn + 2) x3) (5 * mn + 3) x4) (5 * mn + 4) x5))) (n := 600) (f := upd (upd (upd (upd (ar 10) (5 * mn) (nI 0)) (5 * mn + 1) x2) (5 * mn + 2) x3) (5 * mn + 3) x4) S wb 10 (by decide) rfl 0 rfl (5 * mn + 4) (by omega) (by decide) (m12 rfl rfl rfl rfl rfl rfl rfl rfl rfl rfl rfl rfl) dX4_send_57 (fun H locs wb => ?_)
  refine lv_aload_n hx hb dX4_send_58 rfl (lv_at hl 1 rfl) ?_
  refine lv_dup hx hb dX4_send_59 rfl ?_
  refine rb_get S wb 0 (by decide) rfl rfl in4 12 (by decide) bw_474 rfl dX4_send_60 ?_
  refine lv_iconst (v := nI 1) hx hb dX4_send_63 (by decide) ?_
  refine lv_iadd hx hb dX4_send_64 ?_
  refine nb_ren (y := nI (mn + 1)) (nI_add _ _) ?_
  refine rb_put (E' := mE ad cI th n st (mn + 1) (va_up ar 10 (upd (upd (upd (upd (upd (ar 10) (5 * mn) (nI 0)) (5 * mn + 1) x2) (5 * mn + 2) x3) (5 * mn + 3) x4) (5 * mn + 4) x5))) S wb 0 (by decide) rfl rfl in4 tyX4 tyX4_ok nmX4 12 (by decide) bw_474 rfl rfl rfl (Nat.le_of_ble_eq_true rfl) (m12 rfl rfl rfl rfl rfl rfl rfl rfl rfl rfl rfl rfl) dX4_send_65 (fun H locs wb => ?_)
  refine lv_iload_n hx hb dX4_send_68 rfl (lv_at hl 2 rfl) ?_
  refine lv_if_eq (tgt := 82) hx hb dX4_send_69 (by decide) (fun h69 => ?_) (fun h69 => absurd nI_0 h69)
  exact rb_vret S hr hlk hQ wb (fun _ _ => rfl) dX4_send_82

set_option maxHeartbeats 4000000 in
set_option maxRecDepth 100000 in
theorem m_send1 (l : Launch) (D : va_G) (cI cC cD : ClassId) (ad : Nat → Nat) (th : Int32) (n : Nat) (st : Int32) (mn : Nat) (ar : Nat → Nat → Int32) (kd : Nat) (x2 x3 x4 x5 : Int32) (hm : mn < 120) (hk0 : 0 < kd) (hk4 : kd < 4) : RM l yX4_send cX4_send 7 none ({ frames := 0, cells := 0, slots := 0, locals := 0 }) D (ty3 cI cC cD) EN0 [.ref (ad 0), .int (nI kd), .int x2, .int x3, .int x4, .int x5] ad 12 (mE ad cI th n st mn ar) (mE ad cI th n st (mn + 1) (va_up (va_up ar 10 (put5 (ar 10) (5 * mn) (nI kd) x2 x3 x4 x5)) 11 (upd (ar 11) kd (ar 11 kd + nI 1)))) none := by
  refine RM.of (by decide) (Nat.le_of_ble_eq_true rfl) ?_
  intro p e s m below meth c0 A ls args Q0 S hr hlk hQ wb hl
  have hx := S.1
  have hb := S.2.1
  have hl : lv_has ls 7 [(0, .ref (ad 0)), (1, .int (nI kd)), (2, .int x2), (3, .int x3), (4, .int x4), (5, .int x5)] := hl
  refine lv_iconst (v := nI 5) hx hb dX4_send_0 (by decide) ?_
  refine lv_aload_n hx hb dX4_send_1 rfl (lv_at hl 0 rfl) ?_
  refine rb_get S wb 0 (by decide) rfl rfl in4 12 (by decide) bw_474 rfl dX4_send_2 ?_
  refine lv_imul hx hb dX4_send_5 ?_
  refine nb_ren (y := nI (5 * mn)) (pk_mul _ _) ?_
  refine lv_istore (lv' := [(6, .int (nI (5 * mn))), (0, .ref (ad 0)), (1, .int (nI kd)), (2, .int x2), (3, .int x3), (4, .int x4), (5, .int x5)]) hx hb dX4_send_6 hl (by decide) rfl (fun ls hl => ?_)
  refine lv_aload_n hx hb dX4_send_8 rfl (lv_at hl 1 rfl) ?_
  refine rb_get S wb 0 (by decide) rfl rfl in4 13 (by decide) bw_475 rfl dX4_send_9 ?_
  refine lv_iload hx hb dX4_send_12 (lv_at hl 0 rfl) ?_
  refine lv_iload_n hx hb dX4_send_14 rfl (lv_at hl 2 rfl) ?_
  refine rb_ast (E' := mE ad cI th n st mn (va_up ar 10 (upd (ar 10) (5 * mn) (nI kd)))) (n := 600) (f := ar 10) S wb 10 (by decide) rfl 0 rfl (5 * mn) (by omega) (by decide) (m12 rfl rfl rfl rfl rfl rfl rfl rfl rfl rfl rfl rfl) dX4_send_15 (fun H locs wb => ?_)
  refine lv_aload_n hx hb dX4_send_16 rfl (lv_at hl 1 rfl) ?_
  refine rb_get S wb 0 (by decide) rfl rfl in4 13 (by decide) bw_475 rfl dX4_send_17 ?_
  refine lv_iload hx hb dX4_send_20 (lv_at hl 0 rfl) ?_
  refine lv_iconst (v := nI 1) hx hb dX4_send_22 (by decide) ?_
  refine lv_iadd hx hb dX4_send_23 ?_
  refine nb_ren (y := nI (5 * mn + 1)) (nI_add _ _) ?_
  refine lv_iload_n hx hb dX4_send_24 rfl (lv_at hl 3 rfl) ?_
  refine rb_ast (E' := mE ad cI th n st mn (va_up ar 10 (upd (upd (ar 10) (5 * mn) (nI kd)) (5 * mn + 1) x2))) (n := 600) (f := upd (ar 10) (5 * mn) (nI kd)) S wb 10 (by decide) rfl 0 rfl (5 * mn + 1) (by omega) (by decide) (m12 rfl rfl rfl rfl rfl rfl rfl rfl rfl rfl rfl rfl) dX4_send_25 (fun H locs wb => ?_)
  refine lv_aload_n hx hb dX4_send_26 rfl (lv_at hl 1 rfl) ?_
  refine rb_get S wb 0 (by decide) rfl rfl in4 13 (by decide) bw_475 rfl dX4_send_27 ?_
  refine lv_iload hx hb dX4_send_30 (lv_at hl 0 rfl) ?_
  refine lv_iconst (v := nI 2) hx hb dX4_send_32 (by decide) ?_
  refine lv_iadd hx hb dX4_send_33 ?_
  refine nb_ren (y := nI (5 * mn + 2)) (nI_add _ _) ?_
  refine lv_iload_n hx hb dX4_send_34 rfl (lv_at hl 4 rfl) ?_
  refine rb_ast (E' := mE ad cI th n st mn (va_up ar 10 (upd (upd (upd (ar 10) (5 * mn) (nI kd)) (5 * mn + 1) x2) (5 * mn + 2) x3))) (n := 600) (f := upd (upd (ar 10) (5 * mn) (nI kd)) (5 * mn + 1) x2) S wb 10 (by decide) rfl 0 rfl (5 * mn + 2) (by omega) (by decide) (m12 rfl rfl rfl rfl rfl rfl rfl rfl rfl rfl rfl rfl) dX4_send_35 (fun H locs wb => ?_)
  refine lv_aload_n hx hb dX4_send_36 rfl (lv_at hl 1 rfl) ?_
  refine rb_get S wb 0 (by decide) rfl rfl in4 13 (by decide) bw_475 rfl dX4_send_37 ?_
  refine lv_iload hx hb dX4_send_40 (lv_at hl 0 rfl) ?_
  refine lv_iconst (v := nI 3) hx hb dX4_send_42 (by decide) ?_
  refine lv_iadd hx hb dX4_send_43 ?_
  refine nb_ren (y := nI (5 * mn + 3)) (nI_add _ _) ?_
  refine lv_iload hx hb dX4_send_44 (lv_at hl 5 rfl) ?_
  refine rb_ast (E' := mE ad cI th n st mn (va_up ar 10 (upd (upd (upd (upd (ar 10) (5 * mn) (nI kd)) (5 * mn + 1) x2) (5 * mn + 2) x3) (5 * mn + 3) x4))) (n := 600) (f := upd (upd (upd (ar 10) (5 * mn) (nI kd)) (5 * mn + 1) x2) (5 * mn + 2) x3) S wb 10 (by decide) rfl 0 rfl (5 * mn + 3) (by omega) (by decide) (m12 rfl rfl rfl rfl rfl rfl rfl rfl rfl rfl rfl rfl) dX4_send_46 (fun H locs wb => ?_)
  refine lv_aload_n hx hb dX4_send_47 rfl (lv_at hl 1 rfl) ?_
  refine rb_get S wb 0 (by decide) rfl rfl in4 13 (by decide) bw_475 rfl dX4_send_48 ?_
  refine lv_iload hx hb dX4_send_51 (lv_at hl 0 rfl) ?_
  refine lv_iconst (v := nI 4) hx hb dX4_send_53 (by decide) ?_
  refine lv_iadd hx hb dX4_send_54 ?_
  refine nb_ren (y := nI (5 * mn + 4)) (nI_add _ _) ?_
  refine lv_iload hx hb dX4_send_55 (lv_at hl 6 rfl) ?_
  refine rb_ast (E' := mE ad cI th n st mn (va_up ar 10 (upd (upd (upd (upd (upd (ar 10) (5 * mn) (nI kd)) (5 * mn + 1) x2) (5 * mn + 2) x3) (5 * mn + 3) x4) (5 * mn + 4) x5))) (n := 600) (f := upd (upd (upd (upd (ar 10) (5 * mn) (nI kd)) (5 * mn + 1) x2) (5 * mn + 2) x3) (5 * mn + 3) x4) S wb 10 (by decide) rfl 0 rfl (5 * mn + 4) (by omega) (by decide) (m12 rfl rfl rfl rfl rfl rfl rfl rfl rfl rfl rfl rfl) dX4_send_57 (fun H locs wb => ?_)
  refine lv_aload_n hx hb dX4_send_58 rfl (lv_at hl 1 rfl) ?_
  refine lv_dup hx hb dX4_send_59 rfl ?_
  refine rb_get S wb 0 (by decide) rfl rfl in4 12 (by decide) bw_474 rfl dX4_send_60 ?_
  refine lv_iconst (v := nI 1) hx hb dX4_send_63 (by decide) ?_
  refine lv_iadd hx hb dX4_send_64 ?_
  refine nb_ren (y := nI (mn + 1)) (nI_add _ _) ?_
  refine rb_put (E' := mE ad cI th n st (mn + 1) (va_up ar 10 (upd (upd (upd (upd (upd (ar 10) (5 * mn) (nI kd)) (5 * mn + 1) x2) (5 * mn + 2) x3) (5 * mn + 3) x4) (5 * mn + 4) x5))) S wb 0 (by decide) rfl rfl in4 tyX4 tyX4_ok nmX4 12 (by decide) bw_474 rfl rfl rfl (Nat.le_of_ble_eq_true rfl) (m12 rfl rfl rfl rfl rfl rfl rfl rfl rfl rfl rfl rfl) dX4_send_65 (fun H locs wb => ?_)
  refine lv_iload_n hx hb dX4_send_68 rfl (lv_at hl 2 rfl) ?_
  refine lv_if_eq (tgt := 82) hx hb dX4_send_69 (by decide) (fun h69 => absurd h69 (nI_ne0 hk0 (by omega))) (fun h69 => ?_)
  refine lv_aload_n hx hb dX4_send_72 rfl (lv_at hl 1 rfl) ?_
  refine rb_get S wb 0 (by decide) rfl rfl in4 14 (by decide) bw_476 rfl dX4_send_73 ?_
  refine lv_iload_n hx hb dX4_send_76 rfl (lv_at hl 2 rfl) ?_
  refine lv_dup2_11 hx hb dX4_send_77 rfl rfl ?_
  refine rb_ald (n := 4) (f := ar 11) (x := ar 11 kd) S wb 11 (by decide) rfl 0 rfl kd (by omega) (by decide) rfl dX4_send_78 ?_
  refine lv_iconst (v := nI 1) hx hb dX4_send_79 (by decide) ?_
  refine lv_iadd hx hb dX4_send_80 ?_
  refine rb_ast (E' := mE ad cI th n st (mn + 1) (va_up (va_up ar 10 (upd (upd (upd (upd (upd (ar 10) (5 * mn) (nI kd)) (5 * mn + 1) x2) (5 * mn + 2) x3) (5 * mn + 3) x4) (5 * mn + 4) x5)) 11 (upd (ar 11) kd ((ar 11 kd) + (nI 1))))) (n := 4) (f := ar 11) S wb 11 (by decide) rfl 0 rfl kd (by omega) (by decide) (m12 rfl rfl rfl rfl rfl rfl rfl rfl rfl rfl rfl rfl) dX4_send_81 (fun H locs wb => ?_)
  exact rb_vret S hr hlk hQ wb (fun _ _ => rfl) dX4_send_82

set_option maxHeartbeats 4000000 in
set_option maxRecDepth 100000 in
theorem m_drop (l : Launch) (D : va_G) (cI cC cD : ClassId) (ad : Nat → Nat) (th : Int32) (n : Nat) (st : Int32) (mn : Nat) (ar : Nat → Nat → Int32) (i : Nat) (hi : i < mn) (hm : mn ≤ 120) : RM l yX4_drop cX4_drop 3 none ({ frames := 0, cells := 0, slots := 0, locals := 0 }) D (ty3 cI cC cD) EN0 [.ref (ad 0), .int (nI i)] ad 12 (mE ad cI th n st mn ar) (mE ad cI th n st (mn - 1) (va_up ar 10 (dr (ar 10) (5 * i) (5 * (mn - 1))))) none := by
  refine RM.of (by decide) (Nat.le_of_ble_eq_true rfl) ?_
  intro p e s m below meth c0 A ls args Q0 S hr hlk hQ wb hl
  have hx := S.1
  have hb := S.2.1
  have hl : lv_has ls 3 [(0, .ref (ad 0)), (1, .int (nI i))] := hl
  refine lv_aload_n hx hb dX4_drop_0 rfl (lv_at hl 0 rfl) ?_
  refine lv_dup hx hb dX4_drop_1 rfl ?_
  refine rb_get S wb 0 (by decide) rfl rfl in4 12 (by decide) bw_474 rfl dX4_drop_2 ?_
  refine lv_iconst (v := nI 1) hx hb dX4_drop_5 (by decide) ?_
  refine lv_isub hx hb dX4_drop_6 ?_
  refine nb_ren (y := nI (mn - 1)) (pk_sub (by omega)) ?_
  refine rb_put (E' := mE ad cI th n st (mn - 1) ar) S wb 0 (by decide) rfl rfl in4 tyX4 tyX4_ok nmX4 12 (by decide) bw_474 rfl rfl rfl (Nat.le_of_ble_eq_true rfl) (m12 rfl rfl rfl rfl rfl rfl rfl rfl rfl rfl rfl rfl) dX4_drop_7 (fun H locs wb => ?_)
  refine lv_iconst (v := nI 5) hx hb dX4_drop_10 (by decide) ?_
  refine lv_iload_n hx hb dX4_drop_11 rfl (lv_at hl 1 rfl) ?_
  refine lv_imul hx hb dX4_drop_12 ?_
  refine nb_ren (y := nI (5 * i)) (pk_mul _ _) ?_
  refine lv_istore_n (lv' := [(2, .int (nI (5 * i))), (0, .ref (ad 0)), (1, .int (nI i))]) hx hb dX4_drop_13 rfl hl (by decide) rfl (fun ls hl => ?_)
  have L14 : ∀ (fuel : Nat) (k : Nat) (hk1 : 5 * i ≤ k) (hk2 : k ≤ 5 * (mn - 1)) (hfu : 5 * (mn - 1) < k + fuel) (H : Heap) (locs : List Loc) (wb : WB D (ty3 cI cC cD) EN0 ad 12 A s (mE ad cI th n st (mn - 1) (va_up ar 10 (dr (ar 10) (5 * i) k))) H locs) (ls : Array Slot) (hl : lv_has ls 3 [(0, .ref (ad 0)), (2, .int (nI k))]), W p l e ({ frames := 0, cells := 0, slots := 0, locals := 0 }) s m args below meth c0 H locs 0 0 Q0 (F0 m 14 ls []) := by
    intro fuel
    induction fuel with
    | zero => intro k hk1 hk2 hfu H locs wb ls hl; exact absurd hfu (by omega)
    | succ fuel ih =>
      intro k hk1 hk2 hfu H locs wb ls hl
      refine lv_iload_n hx hb dX4_drop_14 rfl (lv_at hl 1 rfl) ?_
      refine lv_iconst (v := nI 5) hx hb dX4_drop_15 (by decide) ?_
      refine lv_aload_n hx hb dX4_drop_16 rfl (lv_at hl 0 rfl) ?_
      refine rb_get S wb 0 (by decide) rfl rfl in4 12 (by decide) bw_474 rfl dX4_drop_17 ?_
      refine lv_imul hx hb dX4_drop_20 ?_
      refine nb_ren (y := nI (5 * (mn - 1))) (pk_mul _ _) ?_
      refine nb_icmp_ge (tgt := 44) hx hb dX4_drop_21 (by decide) (by omega) (by omega) (fun h21 => ?_) (fun h21 => ?_)
      · have hk6 : k = 5 * (mn - 1) := by omega
        subst hk6
        exact rb_vret S hr hlk hQ wb (fun _ _ => rfl) dX4_drop_44
      · refine lv_aload_n hx hb dX4_drop_24 rfl (lv_at hl 0 rfl) ?_
        refine rb_get S wb 0 (by decide) rfl rfl in4 13 (by decide) bw_475 rfl dX4_drop_25 ?_
        refine lv_iload_n hx hb dX4_drop_28 rfl (lv_at hl 1 rfl) ?_
        refine lv_aload_n hx hb dX4_drop_29 rfl (lv_at hl 0 rfl) ?_
        refine rb_get S wb 0 (by decide) rfl rfl in4 13 (by decide) bw_475 rfl dX4_drop_30 ?_
        refine lv_iload_n hx hb dX4_drop_33 rfl (lv_at hl 1 rfl) ?_
        refine lv_iconst (v := nI 5) hx hb dX4_drop_34 (by decide) ?_
        refine lv_iadd hx hb dX4_drop_35 ?_
        refine nb_ren (y := nI (k + 5)) (nI_add _ _) ?_
        refine rb_ald (n := 600) (f := dr (ar 10) (5 * i) k) (x := (dr (ar 10) (5 * i) k) (k + 5)) S wb 10 (by decide) rfl 0 rfl (k + 5) (by omega) (by decide) rfl dX4_drop_36 ?_
        refine rb_ast (E' := mE ad cI th n st (mn - 1) (va_up ar 10 (upd (dr (ar 10) (5 * i) k) k ((dr (ar 10) (5 * i) k) (k + 5))))) (n := 600) (f := dr (ar 10) (5 * i) k) S wb 10 (by decide) rfl 0 rfl k (by omega) (by decide) (m12 rfl rfl rfl rfl rfl rfl rfl rfl rfl rfl rfl rfl) dX4_drop_37 (fun H locs wb => ?_)
        refine lv_iinc (v := nI (k + 1)) (lv' := [(2, .int (nI (k + 1))), (0, .ref (ad 0))]) hx hb dX4_drop_38 hl (k := 1) rfl (nI_s1 _) (by decide) rfl (fun ls hl => ?_)
        refine lv_goto (tgt := 14) hx hb dX4_drop_41 (by decide) ?_
        exact ih (k + 1) (by omega) (by omega) (by omega) _ _ (wb.to (m12 rfl rfl rfl rfl rfl rfl rfl rfl rfl rfl (inl_eq (dr_s _ _ _ hk1)) rfl)) ls (lv_sub hl [1, 0] rfl)
  exact L14 (5 * mn) (5 * i) (by omega) (by omega) (by omega) _ _ (wb.to (m12 rfl rfl rfl rfl rfl rfl rfl rfl rfl rfl (inl_eq (dr_0 _ _)) rfl)) ls (lv_sub hl [1, 0] rfl)

set_option maxHeartbeats 4000000 in
set_option maxRecDepth 100000 in
theorem m_profitOf (l : Launch) (D : va_G) (cI cC cD : ClassId) (ad : Nat → Nat) (th : Int32) (n : Nat) (st : Int32) (mn : Nat) (ar : Nat → Nat → Int32) (c : Nat) (hc : c < 6) (hn : n ≤ 6) (hn2 : 2 ≤ n) : RM l yX4_profitOf cX4_profitOf 5 (some .int) ({ frames := 0, cells := 0, slots := 0, locals := 0 }) D (ty3 cI cC cD) EN0 [.ref (ad 0), .int (nI c)] ad 12 (mE ad cI th n st mn ar) (mE ad cI th n st mn ar) (some (.int (pf (fun j => ar 1 (6 * c + j) * nI (n + 1) - ar 3 j) (n - 1)))) := by
  refine RM.of (by decide) (Nat.le_of_ble_eq_true rfl) ?_
  intro p e s m below meth c0 A ls args Q0 S hr hlk hQ wb hl
  have hx := S.1
  have hb := S.2.1
  have hl : lv_has ls 5 [(0, .ref (ad 0)), (1, .int (nI c))] := hl
  refine lv_aload_n hx hb dX4_profitOf_0 rfl (lv_at hl 0 rfl) ?_
  refine rb_get S wb 0 (by decide) rfl rfl in4 3 (by decide) bw_465 rfl dX4_profitOf_1 ?_
  refine lv_bipush (v := nI 6) hx hb dX4_profitOf_4 (by decide) ?_
  refine lv_iload_n hx hb dX4_profitOf_6 rfl (lv_at hl 1 rfl) ?_
  refine lv_imul hx hb dX4_profitOf_7 ?_
  refine nb_ren (y := nI (6 * c)) (pk_mul _ _) ?_
  refine rb_ald (n := 36) (f := ar 1) (x := ar 1 (6 * c)) S wb 1 (by decide) rfl 0 rfl (6 * c) (by omega) (by decide) rfl dX4_profitOf_8 ?_
  refine lv_aload_n hx hb dX4_profitOf_9 rfl (lv_at hl 0 rfl) ?_
  refine rb_get S wb 0 (by decide) rfl rfl in4 1 (by decide) bw_463 rfl dX4_profitOf_10 ?_
  refine lv_iconst (v := nI 1) hx hb dX4_profitOf_13 (by decide) ?_
  refine lv_iadd hx hb dX4_profitOf_14 ?_
  refine nb_ren (y := nI (n + 1)) (nI_add _ _) ?_
  refine lv_imul hx hb dX4_profitOf_15 ?_
  refine lv_aload_n hx hb dX4_profitOf_16 rfl (lv_at hl 0 rfl) ?_
  refine rb_get S wb 0 (by decide) rfl rfl in4 5 (by decide) bw_467 rfl dX4_profitOf_17 ?_
  refine lv_iconst (v := nI 0) hx hb dX4_profitOf_20 (by decide) ?_
  refine rb_ald (n := 6) (f := ar 3) (x := ar 3 0) S wb 3 (by decide) rfl 0 rfl 0 (by omega) (by decide) rfl dX4_profitOf_21 ?_
  refine lv_isub hx hb dX4_profitOf_22 ?_
  refine lv_istore_n (lv' := [(2, .int (((ar 1 (6 * c)) * (nI (n + 1))) - (ar 3 0))), (0, .ref (ad 0)), (1, .int (nI c))]) hx hb dX4_profitOf_23 rfl hl (by decide) rfl (fun ls hl => ?_)
  refine lv_iconst (v := nI 1) hx hb dX4_profitOf_24 (by decide) ?_
  refine lv_istore_n (lv' := [(3, .int (nI 1)), (2, .int (((ar 1 (6 * c)) * (nI (n + 1))) - (ar 3 0))), (0, .ref (ad 0)), (1, .int (nI c))]) hx hb dX4_profitOf_25 rfl hl (by decide) rfl (fun ls hl => ?_)
  have L26 : ∀ (fuel : Nat) (k : Nat) (v : Int32) (hk : k < n) (hfu : n ≤ k + fuel) (hv : v = pf (fun j => ar 1 (6 * c + j) * nI (n + 1) - ar 3 j) k) (H : Heap) (locs : List Loc) (wb : WB D (ty3 cI cC cD) EN0 ad 12 A s (mE ad cI th n st mn ar) H locs) (ls : Array Slot) (hl : lv_has ls 5 [(0, .ref (ad 0)), (1, .int (nI c)), (2, .int v), (3, .int (nI (k + 1)))]), W p l e ({ frames := 0, cells := 0, slots := 0, locals := 0 }) s m args below meth c0 H locs 0 0 Q0 (F0 m 26 ls []) := by
    intro fuel
    induction fuel with
    | zero => intro k v hk hfu hv H locs wb ls hl; exact absurd hfu (by omega)
    | succ fuel ih =>
      intro k v hk hfu hv H locs wb ls hl
      refine lv_iload_n hx hb dX4_profitOf_26 rfl (lv_at hl 3 rfl) ?_
      refine lv_aload_n hx hb dX4_profitOf_27 rfl (lv_at hl 0 rfl) ?_
      refine rb_get S wb 0 (by decide) rfl rfl in4 1 (by decide) bw_463 rfl dX4_profitOf_28 ?_
      refine nb_icmp_ge (tgt := 80) hx hb dX4_profitOf_31 (by decide) (by omega) (by omega) (fun h31 => ?_) (fun h31 => ?_)
      · refine lv_iload_n hx hb dX4_profitOf_80 rfl (lv_at hl 2 rfl) ?_
        have hkn : n - 1 = k := by omega
        exact rb_iret S hr hlk hQ (by rw [hkn]; exact hv.symm) wb (fun _ _ => rfl) dX4_profitOf_81
      · refine lv_aload_n hx hb dX4_profitOf_34 rfl (lv_at hl 0 rfl) ?_
        refine rb_get S wb 0 (by decide) rfl rfl in4 3 (by decide) bw_465 rfl dX4_profitOf_35 ?_
        refine lv_bipush (v := nI 6) hx hb dX4_profitOf_38 (by decide) ?_
        refine lv_iload_n hx hb dX4_profitOf_40 rfl (lv_at hl 1 rfl) ?_
        refine lv_imul hx hb dX4_profitOf_41 ?_
        refine nb_ren (y := nI (6 * c)) (pk_mul _ _) ?_
        refine lv_iload_n hx hb dX4_profitOf_42 rfl (lv_at hl 3 rfl) ?_
        refine lv_iadd hx hb dX4_profitOf_43 ?_
        refine nb_ren (y := nI (6 * c + (k + 1))) (nI_add _ _) ?_
        refine rb_ald (n := 36) (f := ar 1) (x := ar 1 (6 * c + (k + 1))) S wb 1 (by decide) rfl 0 rfl (6 * c + (k + 1)) (by omega) (by decide) rfl dX4_profitOf_44 ?_
        refine lv_aload_n hx hb dX4_profitOf_45 rfl (lv_at hl 0 rfl) ?_
        refine rb_get S wb 0 (by decide) rfl rfl in4 1 (by decide) bw_463 rfl dX4_profitOf_46 ?_
        refine lv_iconst (v := nI 1) hx hb dX4_profitOf_49 (by decide) ?_
        refine lv_iadd hx hb dX4_profitOf_50 ?_
        refine nb_ren (y := nI (n + 1)) (nI_add _ _) ?_
        refine lv_imul hx hb dX4_profitOf_51 ?_
        refine lv_aload_n hx hb dX4_profitOf_52 rfl (lv_at hl 0 rfl) ?_
        refine rb_get S wb 0 (by decide) rfl rfl in4 5 (by decide) bw_467 rfl dX4_profitOf_53 ?_
        refine lv_iload_n hx hb dX4_profitOf_56 rfl (lv_at hl 3 rfl) ?_
        refine rb_ald (n := 6) (f := ar 3) (x := ar 3 (k + 1)) S wb 3 (by decide) rfl 0 rfl (k + 1) (by omega) (by decide) rfl dX4_profitOf_57 ?_
        refine lv_isub hx hb dX4_profitOf_58 ?_
        refine lv_istore (lv' := [(4, .int (((ar 1 (6 * c + (k + 1))) * (nI (n + 1))) - (ar 3 (k + 1)))), (0, .ref (ad 0)), (1, .int (nI c)), (2, .int v), (3, .int (nI (k + 1)))]) hx hb dX4_profitOf_59 hl (by decide) rfl (fun ls hl => ?_)
        refine lv_iload hx hb dX4_profitOf_61 (lv_at hl 0 rfl) ?_
        refine lv_iload_n hx hb dX4_profitOf_63 rfl (lv_at hl 3 rfl) ?_
        refine lv_icmp_le (tgt := 72) hx hb dX4_profitOf_64 (by decide) (fun h64 => ?_) (fun h64 => ?_)
        · refine lv_iload_n hx hb dX4_profitOf_72 rfl (lv_at hl 3 rfl) ?_
          refine lv_istore_n (lv' := [(2, .int v), (4, .int (((ar 1 (6 * c + (k + 1))) * (nI (n + 1))) - (ar 3 (k + 1)))), (0, .ref (ad 0)), (1, .int (nI c)), (3, .int (nI (k + 1)))]) hx hb dX4_profitOf_73 rfl hl (by decide) rfl (fun ls hl => ?_)
          refine lv_iinc (v := nI (k + 1 + 1)) (lv' := [(3, .int (nI (k + 1 + 1))), (2, .int v), (4, .int (((ar 1 (6 * c + (k + 1))) * (nI (n + 1))) - (ar 3 (k + 1)))), (0, .ref (ad 0)), (1, .int (nI c))]) hx hb dX4_profitOf_74 hl (k := 4) rfl (nI_s1 _) (by decide) rfl (fun ls hl => ?_)
          refine lv_goto (tgt := 26) hx hb dX4_profitOf_77 (by decide) ?_
          exact ih (k + 1) v (by omega) (by omega) (by first | exact pf_t hv rfl h64 | exact pf_f hv rfl h64) _ _ wb ls (lv_sub hl [3, 4, 1, 0] rfl)
        · refine lv_iload hx hb dX4_profitOf_67 (lv_at hl 0 rfl) ?_
          refine lv_goto (tgt := 73) hx hb dX4_profitOf_69 (by decide) ?_
          refine lv_istore_n (lv' := [(2, .int (((ar 1 (6 * c + (k + 1))) * (nI (n + 1))) - (ar 3 (k + 1)))), (4, .int (((ar 1 (6 * c + (k + 1))) * (nI (n + 1))) - (ar 3 (k + 1)))), (0, .ref (ad 0)), (1, .int (nI c)), (3, .int (nI (k + 1)))]) hx hb dX4_profitOf_73 rfl hl (by decide) rfl (fun ls hl => ?_)
          refine lv_iinc (v := nI (k + 1 + 1)) (lv' := [(3, .int (nI (k + 1 + 1))), (2, .int (((ar 1 (6 * c + (k + 1))) * (nI (n + 1))) - (ar 3 (k + 1)))), (4, .int (((ar 1 (6 * c + (k + 1))) * (nI (n + 1))) - (ar 3 (k + 1)))), (0, .ref (ad 0)), (1, .int (nI c))]) hx hb dX4_profitOf_74 hl (k := 4) rfl (nI_s1 _) (by decide) rfl (fun ls hl => ?_)
          refine lv_goto (tgt := 26) hx hb dX4_profitOf_77 (by decide) ?_
          exact ih (k + 1) (((ar 1 (6 * c + (k + 1))) * (nI (n + 1))) - (ar 3 (k + 1))) (by omega) (by omega) (by first | exact pf_t hv rfl h64 | exact pf_f hv rfl h64) _ _ wb ls (lv_sub hl [3, 4, 1, 0] rfl)
  exact L26 n 0 (((ar 1 (6 * c)) * (nI (n + 1))) - (ar 3 0)) (by omega) (by omega) rfl _ _ wb ls (lv_sub hl [2, 3, 1, 0] rfl)
