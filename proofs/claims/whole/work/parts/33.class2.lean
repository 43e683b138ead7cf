/-! the class: its own methods, where they return -/
theorem va_up_comm {α : Type} {f : Nat → α} {a b : Nat} {x y : α} (h : a ≠ b) : va_up (va_up f a x) b y = va_up (va_up f b y) a x := by
  funext j
  by_cases e : j = a
  · subst e; rw [va_up_ne _ _ h, va_up_self, va_up_self]
  · by_cases e2 : j = b
    · subst e2; rw [va_up_self, va_up_ne _ _ e, va_up_self]
    · rw [va_up_ne _ _ e2, va_up_ne _ _ e, va_up_ne _ _ e, va_up_ne _ _ e2]
def HTn (ar : Nat → Nat → Int32) (n : Nat) : Prop := ∀ c, c < n → ar 6 c = 2 → ∃ t, t < n ∧ ar 7 c = nI t
theorem HTn_x {ar : Nat → Nat → Int32} {n c : Nat} (h : HTn ar n) (hn : n ≤ 6) (hc : c < n) (h2 : ar 6 c = 2) : ∃ t, t < n ∧ ar 7 c = nI t ∧ (ar 7 c).toNatClampNeg = t := by
  obtain ⟨t, h1, h3⟩ := h c hc h2
  exact ⟨t, h1, h3, by rw [h3]; exact nI_clamp (by omega)⟩
theorem HTn_HT {ar : Nat → Nat → Int32} {n : Nat} (h : HTn ar n) (hn : n ≤ 6) : HT ar n := fun c hc h2 => by
  obtain ⟨t, h1, h3⟩ := h c hc h2
  exact ⟨t, by omega, h3⟩
def clA (ar : Nat → Nat → Int32) (k : Nat) : Nat → Nat → Int32 := va_up (va_up (va_up (va_up ar 4 (fz (ar 4) k (-1))) 5 (fz (ar 5) k (nI 0))) 6 (fz (ar 6) k (nI 0))) 7 (fz (ar 7) k (-1))
theorem clA_0 (ar : Nat → Nat → Int32) : ar = clA ar 0 := by
  unfold clA
  rw [fz_0, fz_0, fz_0, fz_0, va_up_same rfl, va_up_same rfl, va_up_same rfl, va_up_same rfl]
theorem up_ext {f g : Nat → Nat → Int32} (h1 : f 1 = g 1) (h2 : f 2 = g 2) (h3 : f 3 = g 3) (h4 : f 4 = g 4) (h5 : f 5 = g 5) (h6 : f 6 = g 6) (h7 : f 7 = g 7) (h8 : f 8 = g 8) (h9 : f 9 = g 9) (h10 : f 10 = g 10) (h11 : f 11 = g 11) (ho : ∀ k, k = 0 ∨ 11 < k → f k = g k) : f = g := by
  funext k
  rcases (show (k = 0 ∨ 11 < k) ∨ k = 1 ∨ k = 2 ∨ k = 3 ∨ k = 4 ∨ k = 5 ∨ k = 6 ∨ k = 7 ∨ k = 8 ∨ k = 9 ∨ k = 10 ∨ k = 11 by omega) with h | h | h | h | h | h | h | h | h | h | h | h
  · exact ho k h
  all_goals (subst h; assumption)
theorem clA_s (ar : Nat → Nat → Int32) (k : Nat) : va_up (va_up (va_up (va_up (clA ar k) 4 (upd (fz (ar 4) k (-1)) k (-1))) 5 (upd (fz (ar 5) k (nI 0)) k (nI 0))) 6 (upd (fz (ar 6) k (nI 0)) k (nI 0))) 7 (upd (fz (ar 7) k (-1)) k (-1)) = clA ar (k + 1) := by
  rw [fz_s, fz_s, fz_s, fz_s]
  refine up_ext rfl rfl rfl rfl rfl rfl rfl rfl rfl rfl rfl (fun q hq => ?_)
  unfold clA
  rw [va_up_ne _ _ (by omega), va_up_ne _ _ (by omega), va_up_ne _ _ (by omega), va_up_ne _ _ (by omega), va_up_ne _ _ (by omega), va_up_ne _ _ (by omega), va_up_ne _ _ (by omega), va_up_ne _ _ (by omega), va_up_ne _ _ (by omega), va_up_ne _ _ (by omega), va_up_ne _ _ (by omega), va_up_ne _ _ (by omega)]
theorem clA_n {ad : Nat → Nat} {cI cC cD : ClassId} {n ph mn : Nat} {ar : Nat → Nat → Int32} (hn : n ≤ 6) : ∀ q, q < 4 * n + 6 → cE ad cI cC cD n ph mn (clA ar n) q = cE ad cI cC cD n ph mn (clA ar 6) q := by
  have f : ∀ (g : Nat → Int32) (v : Int32) (i : Nat), i < n → fz g n v i = fz g 6 v i := fun g v i h => by
    unfold fz; rw [if_pos h, if_pos (by omega)]
  have key : ∀ q, (q < 4 * n + 6 → cE ad cI cC cD n ph mn (clA ar n) q = cE ad cI cC cD n ph mn (clA ar 6) q) := by
    refine cE_cases (fun _ => rfl) (fun _ => rfl) (fun _ => rfl) (fun _ => rfl) (fun _ => rfl) (fun _ => rfl) (fun i h => ?_) (fun i _ => ?_) (fun i _ => ?_) (fun i h => ?_)
    · have e6 : clA ar n 6 i = clA ar 6 6 i := f (ar 6) (nI 0) i (by omega)
      have e7 : clA ar n 7 i = clA ar 6 7 i := f (ar 7) (-1) i (by omega)
      rw [cE_crew, cE_crew, e6, e7]
      rfl
    · rw [cE_wr, cE_wr]; rfl
    · rw [cE_kn, cE_kn]; rfl
    · have e6 : clA ar n 4 i = clA ar 6 4 i := f (ar 4) (-1) i (by omega)
      have e7 : clA ar n 5 i = clA ar 6 5 i := f (ar 5) (nI 0) i (by omega)
      rw [cE_desk, cE_desk, e6, e7]
      rfl
  exact key
theorem pf_m {w : Nat → Int32} {k : Nat} {v x : Int32} (hv : v = pf w k) (hx : x = w (k + 1)) : (if v < x then x else v) = pf w (k + 1) := by
  rw [pf, ← hv, ← hx]

set_option maxHeartbeats 4000000 in
set_option maxRecDepth 100000 in
theorem k_reqA (l : Launch) (D : va_G) (cI cC cD : ClassId) (ad : Nat → Nat) (n ph mn : Nat) (ar : Nat → Nat → Int32) (hn : n ≤ 6) (hn2 : 2 ≤ n)  : RM l yX3_requireArgument cX3_requireArgument 1 none ({ frames := 0, cells := 0, slots := 0, locals := 0 }) D (ty3 cI cC cD) ENC [.int (nI 1)] ad (4 * n + 6) (cE ad cI cC cD n ph mn ar) (cE ad cI cC cD n ph mn ar) none := by
  refine RM.of (by decide) (Nat.le_of_ble_eq_true rfl) ?_
  intro p e s m below meth c0 A ls args Q0 S hr hlk hQ wb hl
  have hx := S.1
  have hb := S.2.1
  have hl : lv_has ls 1 [(0, .int (nI 1))] := hl
  refine lv_iload_n hx hb dX3_requireArgument_0 rfl (lv_at hl 0 rfl) ?_
  refine lv_if_ne (tgt := 14) hx hb dX3_requireArgument_1 (by decide) (fun h1 => ?_) (fun h1 => absurd h1 (by decide))
  exact rb_vret S hr hlk hQ wb (fun _ _ => rfl) dX3_requireArgument_14

set_option maxHeartbeats 4000000 in
set_option maxRecDepth 100000 in
theorem k_reqS (l : Launch) (D : va_G) (cI cC cD : ClassId) (ad : Nat → Nat) (n ph mn : Nat) (ar : Nat → Nat → Int32) (hn : n ≤ 6) (hn2 : 2 ≤ n)  : RM l yX3_requireState cX3_requireState 1 none ({ frames := 0, cells := 0, slots := 0, locals := 0 }) D (ty3 cI cC cD) ENC [.int (nI 1)] ad (4 * n + 6) (cE ad cI cC cD n ph mn ar) (cE ad cI cC cD n ph mn ar) none := by
  refine RM.of (by decide) (Nat.le_of_ble_eq_true rfl) ?_
  intro p e s m below meth c0 A ls args Q0 S hr hlk hQ wb hl
  have hx := S.1
  have hb := S.2.1
  have hl : lv_has ls 1 [(0, .int (nI 1))] := hl
  refine lv_iload_n hx hb dX3_requireState_0 rfl (lv_at hl 0 rfl) ?_
  refine lv_if_ne (tgt := 14) hx hb dX3_requireState_1 (by decide) (fun h1 => ?_) (fun h1 => absurd h1 (by decide))
  exact rb_vret S hr hlk hQ wb (fun _ _ => rfl) dX3_requireState_14

set_option maxHeartbeats 4000000 in
set_option maxRecDepth 100000 in
theorem k_reqL (l : Launch) (D : va_G) (cI cC cD : ClassId) (ad : Nat → Nat) (n ph mn : Nat) (ar : Nat → Nat → Int32) (i : Nat) (hn : n ≤ 6) (hn2 : 2 ≤ n) (hm : mn ≤ 80) (hi : i < mn) : RM l yX3_requireLetter cX3_requireLetter 2 none ({ frames := 0, cells := 0, slots := 0, locals := 0 }) D (ty3 cI cC cD) ENC [.ref (ad 0), .int (nI i)] ad (4 * n + 6) (cE ad cI cC cD n ph mn ar) (cE ad cI cC cD n ph mn ar) none := by
  refine RM.of (by decide) (Nat.le_of_ble_eq_true rfl) ?_
  intro p e s m below meth c0 A ls args Q0 S hr hlk hQ wb hl
  have hx := S.1
  have hb := S.2.1
  have hl : lv_has ls 2 [(0, .ref (ad 0)), (1, .int (nI i))] := hl
  refine lv_iload_n hx hb dX3_requireLetter_0 rfl (lv_at hl 1 rfl) ?_
  refine lv_if_lt (tgt := 15) hx hb dX3_requireLetter_1 (by decide) (fun h1 => absurd h1 (nI_pos (by omega))) (fun h1 => ?_)
  refine lv_iload_n hx hb dX3_requireLetter_4 rfl (lv_at hl 1 rfl) ?_
  refine lv_aload_n hx hb dX3_requireLetter_5 rfl (lv_at hl 0 rfl) ?_
  refine rb_get (v := .ref (ad 3)) S wb 0 (by omega) rfl rfl in3 3 (by decide) bw_129 rfl dX3_requireLetter_6 ?_
  refine rb_getN (v := .int (nI mn)) S wb 3 (by omega) rfl rfl in2 1 (by decide) (rc_nw wb nw_12) rfl dX3_requireLetter_9 ?_
  refine nb_icmp_lt (tgt := 25) hx hb dX3_requireLetter_12 (by decide) (by omega) (by omega) (fun h12 => ?_) (fun h12 => absurd h12 (by omega))
  exact rb_vret S hr hlk hQ wb (fun _ _ => rfl) dX3_requireLetter_25

set_option maxHeartbeats 4000000 in
set_option maxRecDepth 100000 in
theorem k_isIndex (l : Launch) (D : va_G) (cI cC cD : ClassId) (ad : Nat → Nat) (n ph mn : Nat) (ar : Nat → Nat → Int32) (x : Int32) (hn : n ≤ 6) (hn2 : 2 ≤ n) (r : Int32) (hr0 : tells r (¬ (x < 0 ∨ nI n ≤ x))) : RM l yX3_isIndex cX3_isIndex 2 (some .boolean) ({ frames := 0, cells := 0, slots := 0, locals := 0 }) D (ty3 cI cC cD) ENC [.ref (ad 0), .int x] ad (4 * n + 6) (cE ad cI cC cD n ph mn ar) (cE ad cI cC cD n ph mn ar) (some (.int r)) := by
  refine RM.of (by decide) (Nat.le_of_ble_eq_true rfl) ?_
  intro p e s m below meth c0 A ls args Q0 S hr hlk hQ wb hl
  have hx := S.1
  have hb := S.2.1
  have hl : lv_has ls 2 [(0, .ref (ad 0)), (1, .int x)] := hl
  refine lv_iload_n hx hb dX3_isIndex_0 rfl (lv_at hl 1 rfl) ?_
  refine lv_if_lt (tgt := 16) hx hb dX3_isIndex_1 (by decide) (fun h1 => ?_) (fun h1 => ?_)
  · refine lv_iconst (v := nI 0) hx hb dX3_isIndex_16 (by decide) ?_
    exact rb_zret S hr hlk hQ (by first | exact tells_u hr0 (tells_f (fun q => q (Or.inl h1))) | exact tells_u hr0 (tells_f (fun q => q (Or.inr h9))) | exact tells_u hr0 (tells_t (fun q => q.elim h1 h9))) (by first | exact Or.inl rfl | exact Or.inr rfl) wb (fun _ _ => rfl) dX3_isIndex_17
  · refine lv_iload_n hx hb dX3_isIndex_4 rfl (lv_at hl 1 rfl) ?_
    refine lv_aload_n hx hb dX3_isIndex_5 rfl (lv_at hl 0 rfl) ?_
    refine rb_get (v := .int (nI n)) S wb 0 (by omega) rfl rfl in3 0 (by decide) bw_126 rfl dX3_isIndex_6 ?_
    refine lv_icmp_ge (tgt := 16) hx hb dX3_isIndex_9 (by decide) (fun h9 => ?_) (fun h9 => ?_)
    · refine lv_iconst (v := nI 0) hx hb dX3_isIndex_16 (by decide) ?_
      exact rb_zret S hr hlk hQ (by first | exact tells_u hr0 (tells_f (fun q => q (Or.inl h1))) | exact tells_u hr0 (tells_f (fun q => q (Or.inr h9))) | exact tells_u hr0 (tells_t (fun q => q.elim h1 h9))) (by first | exact Or.inl rfl | exact Or.inr rfl) wb (fun _ _ => rfl) dX3_isIndex_17
    · refine lv_iconst (v := nI 1) hx hb dX3_isIndex_12 (by decide) ?_
      refine lv_goto (tgt := 17) hx hb dX3_isIndex_13 (by decide) ?_
      exact rb_zret S hr hlk hQ (by first | exact tells_u hr0 (tells_f (fun q => q (Or.inl h1))) | exact tells_u hr0 (tells_f (fun q => q (Or.inr h9))) | exact tells_u hr0 (tells_t (fun q => q.elim h1 h9))) (by first | exact Or.inl rfl | exact Or.inr rfl) wb (fun _ _ => rfl) dX3_isIndex_17

set_option maxHeartbeats 4000000 in
set_option maxRecDepth 100000 in
theorem k_settled (l : Launch) (D : va_G) (cI cC cD : ClassId) (ad : Nat → Nat) (n ph mn : Nat) (ar : Nat → Nat → Int32) (hn : n ≤ 6) (hn2 : 2 ≤ n) (hT : HTn ar n) (r : Int32) (hr0 : tells r (stl ar n)) : RM l yX3_settled cX3_settled 3 (some .boolean) ({ frames := 1, cells := 0, slots := 0, locals := 22 }) D (ty3 cI cC cD) ENC [.ref (ad 0)] ad (4 * n + 6) (cE ad cI cC cD n ph mn ar) (cE ad cI cC cD n ph mn ar) (some (.int r)) := by
  refine RM.of (by decide) (Nat.le_of_ble_eq_true rfl) ?_
  intro p e s m below meth c0 A ls args Q0 S hr hlk hQ wb hl
  have hx := S.1
  have hb := S.2.1
  have hl : lv_has ls 3 [(0, .ref (ad 0))] := hl
  refine lv_iconst (v := nI 0) hx hb dX3_settled_0 (by decide) ?_
  refine lv_istore_n (lv' := [(1, .int (nI 0)), (0, .ref (ad 0))]) hx hb dX3_settled_1 rfl hl (by decide) rfl (fun ls hl => ?_)
  have L2 : ∀ (fuel : Nat) (c : Nat) (hc : c ≤ n) (hfu : n < c + fuel) (hv : stl ar c) (H : Heap) (locs : List Loc) (wb : WB D (ty3 cI cC cD) ENC ad (4 * n + 6) A s (cE ad cI cC cD n ph mn ar) H locs) (ls : Array Slot) (hl : lv_has ls 3 [(0, .ref (ad 0)), (1, .int (nI c))]), W p l e ({ frames := 1, cells := 0, slots := 0, locals := 22 }) s m args below meth c0 H locs 0 0 Q0 (F0 m 2 ls []) := by
    intro fuel
    induction fuel with
    | zero => intro c hc hfu hv H locs wb ls hl; exact absurd hfu (by omega)
    | succ fuel ih =>
      intro c hc hfu hv H locs wb ls hl
      refine lv_iload_n hx hb dX3_settled_2 rfl (lv_at hl 1 rfl) ?_
      refine lv_aload_n hx hb dX3_settled_3 rfl (lv_at hl 0 rfl) ?_
      refine rb_get (v := .int (nI n)) S wb 0 (by omega) rfl rfl in3 0 (by decide) bw_126 rfl dX3_settled_4 ?_
      refine nb_icmp_ge (tgt := 53) hx hb dX3_settled_7 (by decide) (by omega) (by omega) (fun h7 => ?_) (fun h7 => ?_)
      · refine lv_iconst (v := nI 1) hx hb dX3_settled_53 (by decide) ?_
        exact rb_zret S hr hlk hQ (by first | exact tells_u hr0 (tells_f (fun q => h22 (q c h7).1)) | exact tells_u hr0 (tells_f (fun q => tells_F hrh h42 (by rw [← ett]; exact (q c h7).2))) | exact tells_u hr0 (tells_t (by rw [show n = c by omega]; exact hv))) (by first | exact Or.inl rfl | exact Or.inr rfl) wb (fun _ _ => rfl) dX3_settled_54
      · refine lv_aload_n hx hb dX3_settled_10 rfl (lv_at hl 0 rfl) ?_
        refine rb_get (v := .ref (ad 1)) S wb 0 (by omega) rfl rfl in3 1 (by decide) bw_127 rfl dX3_settled_11 ?_
        refine lv_iload_n hx hb dX3_settled_14 rfl (lv_at hl 1 rfl) ?_
        refine rb_aald (n := n) (a := ad (4 * c + 6)) S wb 1 (by omega) rfl 1 rfl c (by omega) (by omega) rfl dX3_settled_15 ?_
        refine lv_astore_n (lv' := [(2, .ref (ad (4 * c + 6))), (0, .ref (ad 0)), (1, .int (nI c))]) hx hb dX3_settled_16 rfl hl (by decide) rfl (fun ls hl => ?_)
        refine lv_aload_n hx hb dX3_settled_17 rfl (lv_at hl 0 rfl) ?_
        refine rb_getN (v := .int (ar 6 c)) S wb (4 * c + 6) (by omega) (cE_crew c) rfl in0 2 (by decide) (rc_nw wb nw_3) rfl dX3_settled_18 ?_
        refine lv_iconst (v := nI 2) hx hb dX3_settled_21 (by decide) ?_
        refine lv_icmp_ne (tgt := 45) hx hb dX3_settled_22 (by decide) (fun h22 => ?_) (fun h22 => ?_)
        · refine lv_iconst (v := nI 0) hx hb dX3_settled_45 (by decide) ?_
          exact rb_zret S hr hlk hQ (by first | exact tells_u hr0 (tells_f (fun q => h22 (q c h7).1)) | exact tells_u hr0 (tells_f (fun q => tells_F hrh h42 (by rw [← ett]; exact (q c h7).2))) | exact tells_u hr0 (tells_t (by rw [show n = c by omega]; exact hv))) (by first | exact Or.inl rfl | exact Or.inr rfl) wb (fun _ _ => rfl) dX3_settled_46
        · obtain ⟨t, ht6, et, ett⟩ := HTn_x hT hn h7 h22
          refine lv_aload_n hx hb dX3_settled_25 rfl (lv_at hl 1 rfl) ?_
          refine rb_get (v := .ref (ad 2)) S wb 0 (by omega) rfl rfl in3 2 (by decide) bw_128 rfl dX3_settled_26 ?_
          refine lv_aload_n hx hb dX3_settled_29 rfl (lv_at hl 0 rfl) ?_
          refine rb_getN (v := .int (ar 7 c)) S wb (4 * c + 6) (by omega) (cE_crew c) rfl in0 3 (by decide) (rc_nw wb nw_4) rfl dX3_settled_30 ?_
          refine nb_ren (y := nI t) et ?_
          refine rb_aald (n := n) (a := ad (4 * t + 9)) S wb 2 (by omega) rfl 2 rfl t (by omega) (by omega) rfl dX3_settled_33 ?_
          refine lv_iload_n hx hb dX3_settled_34 rfl (lv_at hl 2 rfl) ?_
          refine lv_aload_n hx hb dX3_settled_35 rfl (lv_at hl 0 rfl) ?_
          refine rb_getN (v := .int (ar 8 c)) S wb (4 * c + 6) (by omega) (cE_crew c) rfl in0 4 (by decide) (rc_nw wb nw_5) rfl dX3_settled_36 ?_
          obtain ⟨rh, hrh⟩ := tells_ex (ar 4 t = nI c ∧ ar 5 t = ar 8 c)
          refine rb_callVN S wb ENC_ok (k_has l D cI cC cD ad n ph mn ar t (nI c) (ar 8 c) hn hn2 (by omega) rh hrh) (rc_nw wb nw_13) (bw4 bw_155 bw_0 bw_35 bw_156) (rb_recv wb (4 * t + 9) (by omega) (cE_desk t) rfl) hdX1_has rfl ⟨rfl, rfl⟩ ⟨by decide, by decide⟩ hl.1 (Nat.le_of_ble_eq_true rfl) ⟨Nat.zero_le _, Nat.zero_le _⟩ (rest := []) (st1 := [.int rh]) rfl rfl dX3_settled_39 (fun H locs wb => ?_)
          refine lv_if_ne (tgt := 47) hx hb dX3_settled_42 (by decide) (fun h42 => ?_) (fun h42 => ?_)
          · refine lv_iinc (v := nI (c + 1)) (lv' := [(1, .int (nI (c + 1))), (2, .ref (ad (4 * c + 6))), (0, .ref (ad 0))]) hx hb dX3_settled_47 hl (k := 2) rfl (nI_s1 _) (by decide) rfl (fun ls hl => ?_)
            refine lv_goto (tgt := 2) hx hb dX3_settled_50 (by decide) ?_
            exact ih (c + 1) (by omega) (by omega) (stl_s hv ⟨h22, by rw [ett]; exact (tells_T hrh h42).1, by rw [ett]; exact (tells_T hrh h42).2⟩) _ _ wb ls (lv_sub hl [2, 0] rfl)
          · refine lv_iconst (v := nI 0) hx hb dX3_settled_45 (by decide) ?_
            exact rb_zret S hr hlk hQ (by first | exact tells_u hr0 (tells_f (fun q => h22 (q c h7).1)) | exact tells_u hr0 (tells_f (fun q => tells_F hrh h42 (by rw [← ett]; exact (q c h7).2))) | exact tells_u hr0 (tells_t (by rw [show n = c by omega]; exact hv))) (by first | exact Or.inl rfl | exact Or.inr rfl) wb (fun _ _ => rfl) dX3_settled_46
  exact L2 (n + 1) 0 (by omega) (by omega) (fun c hc => absurd hc (Nat.not_lt_zero c)) _ _ wb ls (lv_sub hl [1, 0] rfl)

set_option maxHeartbeats 4000000 in
set_option maxRecDepth 100000 in
theorem k_isDone (l : Launch) (D : va_G) (cI cC cD : ClassId) (ad : Nat → Nat) (n ph mn : Nat) (ar : Nat → Nat → Int32) (hn : n ≤ 6) (hn2 : 2 ≤ n) (hT : HTn ar n) (hph : ph ≤ 3) (r : Int32) (hr0 : tells r (ph = 3 ∧ stl ar n)) : RM l yX3_isDone cX3_isDone 1 (some .boolean) ({ frames := 2, cells := 0, slots := 0, locals := 44 }) D (ty3 cI cC cD) ENC [.ref (ad 0)] ad (4 * n + 6) (cE ad cI cC cD n ph mn ar) (cE ad cI cC cD n ph mn ar) (some (.int r)) := by
  refine RM.of (by decide) (Nat.le_of_ble_eq_true rfl) ?_
  intro p e s m below meth c0 A ls args Q0 S hr hlk hQ wb hl
  have hx := S.1
  have hb := S.2.1
  have hl : lv_has ls 1 [(0, .ref (ad 0))] := hl
  refine lv_aload_n hx hb dX3_isDone_0 rfl (lv_at hl 0 rfl) ?_
  refine rb_get (v := .int (nI ph)) S wb 0 (by omega) rfl rfl in3 5 (by decide) bw_131 rfl dX3_isDone_1 ?_
  refine lv_iconst (v := nI 3) hx hb dX3_isDone_4 (by decide) ?_
  refine nb_icmp_ne (tgt := 19) hx hb dX3_isDone_5 (by decide) (by omega) (by omega) (fun h5 => ?_) (fun h5 => ?_)
  · refine lv_iconst (v := nI 0) hx hb dX3_isDone_19 (by decide) ?_
    exact rb_zret S hr hlk hQ (by first | exact tells_u hr0 (tells_f (fun q => h5 q.1)) | exact tells_u hr0 (tells_f (fun q => tells_F hrs h12 q.2)) | exact tells_u hr0 (tells_t ⟨h5, tells_T hrs h12⟩)) (by first | exact Or.inl rfl | exact Or.inr rfl) wb (fun _ _ => rfl) dX3_isDone_20
  · refine lv_aload_n hx hb dX3_isDone_8 rfl (lv_at hl 0 rfl) ?_
    obtain ⟨rs, hrs⟩ := tells_ex (stl ar n)
    refine rb_callV S wb ENC_ok (k_settled l D cI cC cD ad n ph mn ar hn hn2 hT rs hrs) (bw5 bw_248 bw_150 bw_151 bw_32 bw_152) (rb_recv wb 0 (by omega) rfl rfl) hdX3_settled rfl ⟨rfl, rfl⟩ ⟨by decide, by decide⟩ hl.1 (Nat.le_of_ble_eq_true rfl) ⟨Nat.zero_le _, Nat.zero_le _⟩ (rest := []) (st1 := [.int rs]) rfl rfl dX3_isDone_9 (fun H locs wb => ?_)
    refine lv_if_eq (tgt := 19) hx hb dX3_isDone_12 (by decide) (fun h12 => ?_) (fun h12 => ?_)
    · refine lv_iconst (v := nI 0) hx hb dX3_isDone_19 (by decide) ?_
      exact rb_zret S hr hlk hQ (by first | exact tells_u hr0 (tells_f (fun q => h5 q.1)) | exact tells_u hr0 (tells_f (fun q => tells_F hrs h12 q.2)) | exact tells_u hr0 (tells_t ⟨h5, tells_T hrs h12⟩)) (by first | exact Or.inl rfl | exact Or.inr rfl) wb (fun _ _ => rfl) dX3_isDone_20
    · refine lv_iconst (v := nI 1) hx hb dX3_isDone_15 (by decide) ?_
      refine lv_goto (tgt := 20) hx hb dX3_isDone_16 (by decide) ?_
      exact rb_zret S hr hlk hQ (by first | exact tells_u hr0 (tells_f (fun q => h5 q.1)) | exact tells_u hr0 (tells_f (fun q => tells_F hrs h12 q.2)) | exact tells_u hr0 (tells_t ⟨h5, tells_T hrs h12⟩)) (by first | exact Or.inl rfl | exact Or.inr rfl) wb (fun _ _ => rfl) dX3_isDone_20

set_option maxHeartbeats 4000000 in
set_option maxRecDepth 100000 in
theorem k_profitOf (l : Launch) (D : va_G) (cI cC cD : ClassId) (ad : Nat → Nat) (n ph mn : Nat) (ar : Nat → Nat → Int32) (c : Nat) (hn : n ≤ 6) (hn2 : 2 ≤ n) (hc : c < n) : RM l yX3_profitOf cX3_profitOf 4 (some .int) ({ frames := 1, cells := 0, slots := 0, locals := 21 }) D (ty3 cI cC cD) ENC [.ref (ad 0), .ref (ad (4 * c + 6))] ad (4 * n + 6) (cE ad cI cC cD n ph mn ar) (cE ad cI cC cD n ph mn ar) (some (.int (pf (fun j => ar 1 (6 * c + j) * nI (n + 1) - ar 3 j) (n - 1)))) := by
  refine RM.of (by decide) (Nat.le_of_ble_eq_true rfl) ?_
  intro p e s m below meth c0 A ls args Q0 S hr hlk hQ wb hl
  have hx := S.1
  have hb := S.2.1
  have hl : lv_has ls 4 [(0, .ref (ad 0)), (1, .ref (ad (4 * c + 6)))] := hl
  refine lv_aload_n hx hb dX3_profitOf_0 rfl (lv_at hl 1 rfl) ?_
  refine lv_iconst (v := nI 0) hx hb dX3_profitOf_1 (by decide) ?_
  refine rb_callVN S wb ENC_ok (k_scaledWorth l D cI cC cD ad n ph mn ar c 0 hn hn2 (by omega) (by omega)) (rc_nw wb nw_23) (bw4 bw_303 bw_10 bw_34 bw_304) (rb_recv wb (4 * c + 6) (by omega) (cE_crew c) rfl) hdX0_scaledWorth rfl ⟨rfl, rfl⟩ ⟨by decide, by decide⟩ hl.1 (Nat.le_of_ble_eq_true rfl) ⟨Nat.zero_le _, Nat.zero_le _⟩ (rest := []) (st1 := [.int (ar 1 (6 * c + 0) * nI (n + 1))]) rfl rfl dX3_profitOf_2 (fun H locs wb => ?_)
  refine lv_aload_n hx hb dX3_profitOf_5 rfl (lv_at hl 0 rfl) ?_
  refine rb_get (v := .ref (ad 2)) S wb 0 (by omega) rfl rfl in3 2 (by decide) bw_128 rfl dX3_profitOf_6 ?_
  refine lv_iconst (v := nI 0) hx hb dX3_profitOf_9 (by decide) ?_
  refine rb_aald (n := n) (a := ad (4 * 0 + 9)) S wb 2 (by omega) rfl 2 rfl 0 (by omega) (by omega) rfl dX3_profitOf_10 ?_
  refine rb_getN (v := .int (ar 3 0)) S wb (4 * 0 + 9) (by omega) (cE_desk 0) rfl in1 0 (by decide) (rc_nw wb nw_8) rfl dX3_profitOf_11 ?_
  refine lv_isub hx hb dX3_profitOf_14 ?_
  refine lv_istore_n (lv' := [(2, .int ((ar 1 (6 * c + 0) * nI (n + 1)) - (ar 3 0))), (0, .ref (ad 0)), (1, .ref (ad (4 * c + 6)))]) hx hb dX3_profitOf_15 rfl hl (by decide) rfl (fun ls hl => ?_)
  refine lv_iconst (v := nI 1) hx hb dX3_profitOf_16 (by decide) ?_
  refine lv_istore_n (lv' := [(3, .int (nI 1)), (2, .int ((ar 1 (6 * c + 0) * nI (n + 1)) - (ar 3 0))), (0, .ref (ad 0)), (1, .ref (ad (4 * c + 6)))]) hx hb dX3_profitOf_17 rfl hl (by decide) rfl (fun ls hl => ?_)
  have L18 : ∀ (fuel : Nat) (k : Nat) (v : Int32) (hk : k < n) (hfu : n ≤ k + fuel) (hv : v = pf (fun j => ar 1 (6 * c + j) * nI (n + 1) - ar 3 j) k) (H : Heap) (locs : List Loc) (wb : WB D (ty3 cI cC cD) ENC ad (4 * n + 6) A s (cE ad cI cC cD n ph mn ar) H locs) (ls : Array Slot) (hl : lv_has ls 4 [(0, .ref (ad 0)), (1, .ref (ad (4 * c + 6))), (2, .int v), (3, .int (nI (k + 1)))]), W p l e ({ frames := 1, cells := 0, slots := 0, locals := 21 }) s m args below meth c0 H locs 0 0 Q0 (F0 m 18 ls []) := by
    intro fuel
    induction fuel with
    | zero => intro k v hk hfu hv H locs wb ls hl; exact absurd hfu (by omega)
    | succ fuel ih =>
      intro k v hk hfu hv H locs wb ls hl
      refine lv_iload_n hx hb dX3_profitOf_18 rfl (lv_at hl 3 rfl) ?_
      refine lv_aload_n hx hb dX3_profitOf_19 rfl (lv_at hl 0 rfl) ?_
      refine rb_get (v := .int (nI n)) S wb 0 (by omega) rfl rfl in3 0 (by decide) bw_126 rfl dX3_profitOf_20 ?_
      refine nb_icmp_ge (tgt := 52) hx hb dX3_profitOf_23 (by decide) (by omega) (by omega) (fun h23 => ?_) (fun h23 => ?_)
      · refine lv_iload_n hx hb dX3_profitOf_52 rfl (lv_at hl 2 rfl) ?_
        have hkn : n - 1 = k := by omega
        exact rb_iret S hr hlk hQ (by rw [hkn]; exact hv.symm) wb (fun _ _ => rfl) dX3_profitOf_53
      · refine lv_iload_n hx hb dX3_profitOf_26 rfl (lv_at hl 2 rfl) ?_
        refine lv_aload_n hx hb dX3_profitOf_27 rfl (lv_at hl 1 rfl) ?_
        refine lv_iload_n hx hb dX3_profitOf_28 rfl (lv_at hl 3 rfl) ?_
        refine rb_callVN S wb ENC_ok (k_scaledWorth l D cI cC cD ad n ph mn ar c (k + 1) hn hn2 (by omega) (by omega)) (rc_nw wb nw_23) (bw4 bw_303 bw_10 bw_34 bw_304) (rb_recv wb (4 * c + 6) (by omega) (cE_crew c) rfl) hdX0_scaledWorth rfl ⟨rfl, rfl⟩ ⟨by decide, by decide⟩ hl.1 (Nat.le_of_ble_eq_true rfl) ⟨Nat.zero_le _, Nat.zero_le _⟩ (rest := [.int v]) (st1 := [.int (ar 1 (6 * c + (k + 1)) * nI (n + 1)), .int v]) rfl rfl dX3_profitOf_29 (fun H locs wb => ?_)
        refine lv_aload_n hx hb dX3_profitOf_32 rfl (lv_at hl 0 rfl) ?_
        refine rb_get (v := .ref (ad 2)) S wb 0 (by omega) rfl rfl in3 2 (by decide) bw_128 rfl dX3_profitOf_33 ?_
        refine lv_iload_n hx hb dX3_profitOf_36 rfl (lv_at hl 3 rfl) ?_
        refine rb_aald (n := n) (a := ad (4 * (k + 1) + 9)) S wb 2 (by omega) rfl 2 rfl (k + 1) (by omega) (by omega) rfl dX3_profitOf_37 ?_
        refine rb_getN (v := .int (ar 3 (k + 1))) S wb (4 * (k + 1) + 9) (by omega) (cE_desk (k + 1)) rfl in1 0 (by decide) (rc_nw wb nw_8) rfl dX3_profitOf_38 ?_
        refine lv_isub hx hb dX3_profitOf_41 ?_
        refine rb_max S hl.1 bw_56 bw_57 bw_33 bw_58 (by decide) (Nat.le_of_ble_eq_true rfl) (Nat.zero_le _) (Nat.zero_le _) dX3_profitOf_42 ?_
        refine lv_istore_n (lv' := [(2, .int (if v < (ar 1 (6 * c + (k + 1)) * nI (n + 1)) - (ar 3 (k + 1)) then (ar 1 (6 * c + (k + 1)) * nI (n + 1)) - (ar 3 (k + 1)) else v)), (0, .ref (ad 0)), (1, .ref (ad (4 * c + 6))), (3, .int (nI (k + 1)))]) hx hb dX3_profitOf_45 rfl hl (by decide) rfl (fun ls hl => ?_)
        refine lv_iinc (v := nI (k + 1 + 1)) (lv' := [(3, .int (nI (k + 1 + 1))), (2, .int (if v < (ar 1 (6 * c + (k + 1)) * nI (n + 1)) - (ar 3 (k + 1)) then (ar 1 (6 * c + (k + 1)) * nI (n + 1)) - (ar 3 (k + 1)) else v)), (0, .ref (ad 0)), (1, .ref (ad (4 * c + 6)))]) hx hb dX3_profitOf_46 hl (k := 3) rfl (nI_s1 _) (by decide) rfl (fun ls hl => ?_)
        refine lv_goto (tgt := 18) hx hb dX3_profitOf_49 (by decide) ?_
        exact ih (k + 1) (if v < (ar 1 (6 * c + (k + 1)) * nI (n + 1)) - (ar 3 (k + 1)) then (ar 1 (6 * c + (k + 1)) * nI (n + 1)) - (ar 3 (k + 1)) else v) (by omega) (by omega) (pf_m hv rfl) _ _ wb ls (lv_sub hl [2, 3, 1, 0] rfl)
  exact L18 n 0 ((ar 1 (6 * c + 0) * nI (n + 1)) - (ar 3 0)) (by omega) (by omega) rfl _ _ wb ls (lv_sub hl [2, 3, 1, 0] rfl)

set_option maxHeartbeats 4000000 in
set_option maxRecDepth 100000 in
theorem k_sendBid (l : Launch) (D : va_G) (cI cC cD : ClassId) (ad : Nat → Nat) (n ph mn : Nat) (ar : Nat → Nat → Int32) (c : Nat) (hn : n ≤ 6) (hn2 : 2 ≤ n) (hc : c < n) (hm : mn < 80) : RM l yX3_sendBid cX3_sendBid 3 none ({ frames := 1, cells := 0, slots := 0, locals := 26 }) D (ty3 cI cC cD) ENC [.ref (ad 0), .int (nI c)] ad (4 * n + 6) (cE ad cI cC cD n ph mn ar) (cE ad cI cC cD n ph (mn + 1) (va_up ar 10 (put5 (ar 10) (5 * mn) (nI 0) (nI c) (ar 7 c) (ar 8 c) (ar 9 c)))) none := by
  refine RM.of (by decide) (Nat.le_of_ble_eq_true rfl) ?_
  intro p e s m below meth c0 A ls args Q0 S hr hlk hQ wb hl
  have hx := S.1
  have hb := S.2.1
  have hl : lv_has ls 3 [(0, .ref (ad 0)), (1, .int (nI c))] := hl
  refine lv_aload_n hx hb dX3_sendBid_0 rfl (lv_at hl 0 rfl) ?_
  refine rb_get (v := .ref (ad 1)) S wb 0 (by omega) rfl rfl in3 1 (by decide) bw_127 rfl dX3_sendBid_1 ?_
  refine lv_iload_n hx hb dX3_sendBid_4 rfl (lv_at hl 1 rfl) ?_
  refine rb_aald (n := n) (a := ad (4 * c + 6)) S wb 1 (by omega) rfl 1 rfl c (by omega) (by omega) rfl dX3_sendBid_5 ?_
  refine lv_astore_n (lv' := [(2, .ref (ad (4 * c + 6))), (0, .ref (ad 0)), (1, .int (nI c))]) hx hb dX3_sendBid_6 rfl hl (by decide) rfl (fun ls hl => ?_)
  refine lv_aload_n hx hb dX3_sendBid_7 rfl (lv_at hl 1 rfl) ?_
  refine rb_get (v := .ref (ad 3)) S wb 0 (by omega) rfl rfl in3 3 (by decide) bw_129 rfl dX3_sendBid_8 ?_
  refine lv_iconst (v := nI 0) hx hb dX3_sendBid_11 (by decide) ?_
  refine lv_iload_n hx hb dX3_sendBid_12 rfl (lv_at hl 2 rfl) ?_
  refine lv_aload_n hx hb dX3_sendBid_13 rfl (lv_at hl 0 rfl) ?_
  refine rb_getN (v := .int (ar 7 c)) S wb (4 * c + 6) (by omega) (cE_crew c) rfl in0 3 (by decide) (rc_nw wb nw_4) rfl dX3_sendBid_14 ?_
  refine lv_aload_n hx hb dX3_sendBid_17 rfl (lv_at hl 0 rfl) ?_
  refine rb_getN (v := .int (ar 8 c)) S wb (4 * c + 6) (by omega) (cE_crew c) rfl in0 4 (by decide) (rc_nw wb nw_5) rfl dX3_sendBid_18 ?_
  refine lv_aload_n hx hb dX3_sendBid_21 rfl (lv_at hl 0 rfl) ?_
  refine rb_getN (v := .int (ar 9 c)) S wb (4 * c + 6) (by omega) (cE_crew c) rfl in0 5 (by decide) (rc_nw wb nw_6) rfl dX3_sendBid_22 ?_
  refine rb_callVN S wb ENC_ok (k_add l D cI cC cD ad n ph mn ar (nI 0) (nI c) (ar 7 c) (ar 8 c) (ar 9 c) hn hn2 (by omega)) (rc_nw wb nw_18) (bw4 bw_311 bw_12 bw_36 bw_312) (rb_recv wb 3 (by omega) rfl rfl) hdX2_add rfl ⟨rfl, rfl⟩ ⟨by decide, by decide⟩ hl.1 (Nat.le_of_ble_eq_true rfl) ⟨Nat.zero_le _, Nat.zero_le _⟩ (rest := []) (st1 := []) rfl rfl dX3_sendBid_25 (fun H locs wb => ?_)
  exact rb_vret S hr hlk hQ wb (fun _ _ => rfl) dX3_sendBid_28

set_option maxHeartbeats 4000000 in
set_option maxRecDepth 100000 in
theorem k_sendAnswer (l : Launch) (D : va_G) (cI cC cD : ClassId) (ad : Nat → Nat) (n ph mn : Nat) (ar : Nat → Nat → Int32) (kd j : Nat) (x2 x4 pz : Int32) (hn : n ≤ 6) (hn2 : 2 ≤ n) (hk : kd < 4) (hj : j < n) (hm : mn < 80) (hpz : ar 3 j = pz) : RM l yX3_sendAnswer cX3_sendAnswer 5 none ({ frames := 1, cells := 0, slots := 0, locals := 26 }) D (ty3 cI cC cD) ENC [.ref (ad 0), .int (nI kd), .int x2, .int (nI j), .int x4] ad (4 * n + 6) (cE ad cI cC cD n ph mn ar) (cE ad cI cC cD n ph (mn + 1) (sndA kd x2 (nI j) x4 pz (mn, ar)).2) none := by
  refine RM.of (by decide) (Nat.le_of_ble_eq_true rfl) ?_
  intro p e s m below meth c0 A ls args Q0 S hr hlk hQ wb hl
  have hx := S.1
  have hb := S.2.1
  have hl : lv_has ls 5 [(0, .ref (ad 0)), (1, .int (nI kd)), (2, .int x2), (3, .int (nI j)), (4, .int x4)] := hl
  refine lv_aload_n hx hb dX3_sendAnswer_0 rfl (lv_at hl 0 rfl) ?_
  refine rb_get (v := .ref (ad 5)) S wb 0 (by omega) rfl rfl in3 4 (by decide) bw_130 rfl dX3_sendAnswer_1 ?_
  refine lv_iload_n hx hb dX3_sendAnswer_4 rfl (lv_at hl 1 rfl) ?_
  refine lv_dup2_11 hx hb dX3_sendAnswer_5 rfl rfl ?_
  refine rb_ald (n := 4) (f := ar 11) (x := ar 11 kd) S wb 5 (by omega) rfl 0 rfl kd (by omega) (by decide) rfl dX3_sendAnswer_6 ?_
  refine lv_iconst (v := nI 1) hx hb dX3_sendAnswer_7 (by decide) ?_
  refine lv_iadd hx hb dX3_sendAnswer_8 ?_
  refine rb_ast (E' := cE ad cI cC cD n ph mn (va_up ar 11 (upd (ar 11) kd ((ar 11 kd) + (nI 1))))) (n := 4) (f := ar 11) S wb 5 (by omega) rfl 0 rfl kd (by omega) (by decide) (fun q _ => cu_ct _ q) dX3_sendAnswer_9 (fun H locs wb => ?_)
  refine lv_aload_n hx hb dX3_sendAnswer_10 rfl (lv_at hl 0 rfl) ?_
  refine rb_get (v := .ref (ad 3)) S wb 0 (by omega) rfl rfl in3 3 (by decide) bw_129 rfl dX3_sendAnswer_11 ?_
  refine lv_iload_n hx hb dX3_sendAnswer_14 rfl (lv_at hl 1 rfl) ?_
  refine lv_iload_n hx hb dX3_sendAnswer_15 rfl (lv_at hl 2 rfl) ?_
  refine lv_iload_n hx hb dX3_sendAnswer_16 rfl (lv_at hl 3 rfl) ?_
  refine lv_iload hx hb dX3_sendAnswer_17 (lv_at hl 4 rfl) ?_
  refine lv_aload_n hx hb dX3_sendAnswer_19 rfl (lv_at hl 0 rfl) ?_
  refine rb_get (v := .ref (ad 2)) S wb 0 (by omega) rfl rfl in3 2 (by decide) bw_128 rfl dX3_sendAnswer_20 ?_
  refine lv_iload_n hx hb dX3_sendAnswer_23 rfl (lv_at hl 3 rfl) ?_
  refine rb_aald (n := n) (a := ad (4 * j + 9)) S wb 2 (by omega) rfl 2 rfl j (by omega) (by omega) rfl dX3_sendAnswer_24 ?_
  refine rb_getN (v := .int (ar 3 j)) S wb (4 * j + 9) (by omega) (cE_desk j) rfl in1 0 (by decide) (rc_nw wb nw_8) rfl dX3_sendAnswer_25 ?_
  refine nb_ren (y := pz) hpz ?_
  refine rb_callVN S wb ENC_ok (k_add l D cI cC cD ad n ph mn (va_up ar 11 (upd (ar 11) kd ((ar 11 kd) + (nI 1)))) (nI kd) x2 (nI j) x4 pz hn hn2 (by omega)) (rc_nw wb nw_18) (bw4 bw_311 bw_12 bw_36 bw_312) (rb_recv wb 3 (by omega) rfl rfl) hdX2_add rfl ⟨rfl, rfl⟩ ⟨by decide, by decide⟩ hl.1 (Nat.le_of_ble_eq_true rfl) ⟨Nat.zero_le _, Nat.zero_le _⟩ (rest := []) (st1 := []) rfl rfl dX3_sendAnswer_28 (fun H locs wb => ?_)
  exact rb_vret S hr hlk hQ wb (fun q _ => congrFun (congrArg (cE ad cI cC cD n ph (mn + 1)) (va_up_comm (by decide))) q) dX3_sendAnswer_31

set_option maxHeartbeats 4000000 in
set_option maxRecDepth 100000 in
theorem k_receiveBid (l : Launch) (D : va_G) (cI cC cD : ClassId) (ad : Nat → Nat) (n ph mn : Nat) (ar : Nat → Nat → Int32) (c j : Nat) (b a : Int32) (hn : n ≤ 6) (hn2 : 2 ≤ n) (hc : c < n) (hj : j < n) (hph : ph ≤ 3) (hm : mn < 79) : RM l yX3_receiveBid cX3_receiveBid 6 none ({ frames := 2, cells := 0, slots := 0, locals := 50 }) D (ty3 cI cC cD) ENC [.ref (ad 0), .int (nI c), .int (nI j), .int b, .int a] ad (4 * n + 6) (cE ad cI cC cD n ph mn ar) (cE ad cI cC cD n ph (bidC (stp ph) mn ar c j b a).1 (bidC (stp ph) mn ar c j b a).2) none := by
  refine RM.of (by decide) (Nat.le_of_ble_eq_true rfl) ?_
  intro p e s m below meth c0 A ls args Q0 S hr hlk hQ wb hl
  have hx := S.1
  have hb := S.2.1
  have hl : lv_has ls 6 [(0, .ref (ad 0)), (1, .int (nI c)), (2, .int (nI j)), (3, .int b), (4, .int a)] := hl
  refine lv_aload_n hx hb dX3_receiveBid_0 rfl (lv_at hl 0 rfl) ?_
  refine rb_get (v := .ref (ad 2)) S wb 0 (by omega) rfl rfl in3 2 (by decide) bw_128 rfl dX3_receiveBid_1 ?_
  refine lv_iload_n hx hb dX3_receiveBid_4 rfl (lv_at hl 2 rfl) ?_
  refine rb_aald (n := n) (a := ad (4 * j + 9)) S wb 2 (by omega) rfl 2 rfl j (by omega) (by omega) rfl dX3_receiveBid_5 ?_
  refine lv_astore (lv' := [(5, .ref (ad (4 * j + 9))), (0, .ref (ad 0)), (1, .int (nI c)), (2, .int (nI j)), (3, .int b), (4, .int a)]) hx hb dX3_receiveBid_6 hl (by decide) rfl (fun ls hl => ?_)
  refine lv_aload hx hb dX3_receiveBid_8 (lv_at hl 0 rfl) ?_
  refine lv_iload_n hx hb dX3_receiveBid_10 rfl (lv_at hl 2 rfl) ?_
  refine lv_iload_n hx hb dX3_receiveBid_11 rfl (lv_at hl 4 rfl) ?_
  obtain ⟨rh, hrh⟩ := tells_ex (ar 4 j = nI c ∧ ar 5 j = b)
  refine rb_callVN S wb ENC_ok (k_has l D cI cC cD ad n ph mn ar j (nI c) b hn hn2 (by omega) rh hrh) (rc_nw wb nw_13) (bw4 bw_155 bw_0 bw_35 bw_156) (rb_recv wb (4 * j + 9) (by omega) (cE_desk j) rfl) hdX1_has rfl ⟨rfl, rfl⟩ ⟨by decide, by decide⟩ hl.1 (Nat.le_of_ble_eq_true rfl) ⟨Nat.zero_le _, Nat.zero_le _⟩ (rest := []) (st1 := [.int rh]) rfl rfl dX3_receiveBid_12 (fun H locs wb => ?_)
  refine lv_if_eq (tgt := 29) hx hb dX3_receiveBid_15 (by decide) (fun h15 => ?_) (fun h15 => ?_)
  · refine lv_iload hx hb dX3_receiveBid_29 (lv_at hl 5 rfl) ?_
    refine lv_aload hx hb dX3_receiveBid_31 (lv_at hl 0 rfl) ?_
    refine rb_getN (v := .int (ar 3 j)) S wb (4 * j + 9) (by omega) (cE_desk j) rfl in1 0 (by decide) (rc_nw wb nw_8) rfl dX3_receiveBid_33 ?_
    refine rb_steps S wb bw_287 dX3_receiveBid_36 (fun tS hTS => ?_)
    refine lv_aload_n hx hb dX3_receiveBid_39 rfl (lv_at hl 1 rfl) ?_
    refine rb_get (v := .int (nI ph)) S wb 0 (by omega) rfl rfl in3 5 (by decide) bw_131 rfl dX3_receiveBid_40 ?_
    refine rb_stepAt S wb hTS ph (by omega) dX3_receiveBid_43 ?_
    refine lv_iadd hx hb dX3_receiveBid_44 ?_
    refine lv_icmp_lt (tgt := 103) hx hb dX3_receiveBid_45 (by decide) (fun h45 => ?_) (fun h45 => ?_)
    · refine lv_aload_n hx hb dX3_receiveBid_103 rfl (lv_at hl 1 rfl) ?_
      refine lv_iconst (v := nI 2) hx hb dX3_receiveBid_104 (by decide) ?_
      refine lv_iload_n hx hb dX3_receiveBid_105 rfl (lv_at hl 2 rfl) ?_
      refine lv_iload_n hx hb dX3_receiveBid_106 rfl (lv_at hl 3 rfl) ?_
      refine lv_iload_n hx hb dX3_receiveBid_107 rfl (lv_at hl 4 rfl) ?_
      refine rb_callV S wb ENC_ok (k_sendAnswer l D cI cC cD ad n ph mn ar 2 j (nI c) b (ar 3 j) hn hn2 (by omega) (by omega) (by omega) rfl) (bw5 bw_363 bw_365 bw_17 bw_32 bw_366) (rb_recv wb 0 (by omega) rfl rfl) hdX3_sendAnswer rfl ⟨rfl, rfl⟩ ⟨by decide, by decide⟩ hl.1 (Nat.le_of_ble_eq_true rfl) ⟨Nat.zero_le _, Nat.zero_le _⟩ (rest := []) (st1 := []) rfl rfl dX3_receiveBid_108 (fun H locs wb => ?_)
      exact rb_vret S hr hlk hQ wb (by first | (rw [bidC_1 (tells_T hrh h15).1 (tells_T hrh h15).2]; exact fun _ _ => rfl) | (rw [bidC_2 (tells_F hrh h15) (Int32.not_le.mpr h45)]; exact fun _ _ => rfl) | (rw [bidC_3 (tells_F hrh h15) (Int32.not_lt.mp h45) h61]; exact fun _ _ => rfl) | (rw [bidC_4 (tells_F hrh h15) (Int32.not_lt.mp h45) h61]; exact fun _ _ => rfl)) dX3_receiveBid_111
    · refine lv_aload hx hb dX3_receiveBid_48 (lv_at hl 0 rfl) ?_
      refine lv_iload hx hb dX3_receiveBid_50 (lv_at hl 5 rfl) ?_
      refine rb_putN (E' := cE ad cI cC cD n ph mn (va_up ar 3 (upd (ar 3) j a))) S wb (4 * j + 9) (by omega) (cE_desk j) rfl in1 tyX1 tyX1_ok nmX1 0 (by decide) (rc_nw wb nw_8) rfl rfl rfl (Nat.le_of_ble_eq_true rfl) (fun q _ => cu_pr j _ q) dX3_receiveBid_52 (fun H locs wb => ?_)
      refine lv_aload hx hb dX3_receiveBid_55 (lv_at hl 0 rfl) ?_
      refine rb_getN (v := .int (ar 4 j)) S wb (4 * j + 9) (by omega) (cE_desk j) rfl in1 1 (by decide) (rc_nw wb nw_9) rfl dX3_receiveBid_57 ?_
      refine lv_iconst (v := (-1)) hx hb dX3_receiveBid_60 (by decide) ?_
      refine lv_icmp_eq (tgt := 80) hx hb dX3_receiveBid_61 (by decide) (fun h61 => ?_) (fun h61 => ?_)
      · refine lv_aload hx hb dX3_receiveBid_80 (lv_at hl 0 rfl) ?_
        refine lv_iload_n hx hb dX3_receiveBid_82 rfl (lv_at hl 2 rfl) ?_
        refine rb_putN (E' := cE ad cI cC cD n ph mn (va_up (va_up ar 3 (upd (ar 3) j a)) 4 (upd (ar 4) j (nI c)))) S wb (4 * j + 9) (by omega) (cE_desk j) rfl in1 tyX1 tyX1_ok nmX1 1 (by decide) (rc_nw wb nw_9) rfl rfl rfl (Nat.le_of_ble_eq_true rfl) (fun q _ => cu_ho j _ q) dX3_receiveBid_83 (fun H locs wb => ?_)
        refine lv_aload hx hb dX3_receiveBid_86 (lv_at hl 0 rfl) ?_
        refine lv_iload_n hx hb dX3_receiveBid_88 rfl (lv_at hl 4 rfl) ?_
        refine rb_putN (E' := cE ad cI cC cD n ph mn (va_up (va_up (va_up ar 3 (upd (ar 3) j a)) 4 (upd (ar 4) j (nI c))) 5 (upd (ar 5) j b))) S wb (4 * j + 9) (by omega) (cE_desk j) rfl in1 tyX1 tyX1_ok nmX1 2 (by decide) (rc_nw wb nw_10) rfl rfl rfl (Nat.le_of_ble_eq_true rfl) (fun q _ => cu_dn j _ q) dX3_receiveBid_89 (fun H locs wb => ?_)
        refine lv_aload_n hx hb dX3_receiveBid_92 rfl (lv_at hl 1 rfl) ?_
        refine lv_iconst (v := nI 1) hx hb dX3_receiveBid_93 (by decide) ?_
        refine lv_iload_n hx hb dX3_receiveBid_94 rfl (lv_at hl 2 rfl) ?_
        refine lv_iload_n hx hb dX3_receiveBid_95 rfl (lv_at hl 3 rfl) ?_
        refine lv_iload_n hx hb dX3_receiveBid_96 rfl (lv_at hl 4 rfl) ?_
        refine rb_callV S wb ENC_ok (k_sendAnswer l D cI cC cD ad n ph mn (va_up (va_up (va_up ar 3 (upd (ar 3) j a)) 4 (upd (ar 4) j (nI c))) 5 (upd (ar 5) j b)) 1 j (nI c) b a hn hn2 (by omega) (by omega) (by omega) pk_us) (bw5 bw_363 bw_365 bw_17 bw_32 bw_366) (rb_recv wb 0 (by omega) rfl rfl) hdX3_sendAnswer rfl ⟨rfl, rfl⟩ ⟨by decide, by decide⟩ hl.1 (Nat.le_of_ble_eq_true rfl) ⟨Nat.zero_le _, Nat.zero_le _⟩ (rest := []) (st1 := []) rfl rfl dX3_receiveBid_97 (fun H locs wb => ?_)
        refine lv_goto (tgt := 111) hx hb dX3_receiveBid_100 (by decide) ?_
        exact rb_vret S hr hlk hQ wb (by first | (rw [bidC_1 (tells_T hrh h15).1 (tells_T hrh h15).2]; exact fun _ _ => rfl) | (rw [bidC_2 (tells_F hrh h15) (Int32.not_le.mpr h45)]; exact fun _ _ => rfl) | (rw [bidC_3 (tells_F hrh h15) (Int32.not_lt.mp h45) h61]; exact fun _ _ => rfl) | (rw [bidC_4 (tells_F hrh h15) (Int32.not_lt.mp h45) h61]; exact fun _ _ => rfl)) dX3_receiveBid_111
      · refine lv_aload_n hx hb dX3_receiveBid_64 rfl (lv_at hl 1 rfl) ?_
        refine lv_iconst (v := nI 3) hx hb dX3_receiveBid_65 (by decide) ?_
        refine lv_aload hx hb dX3_receiveBid_66 (lv_at hl 0 rfl) ?_
        refine rb_getN (v := .int (ar 4 j)) S wb (4 * j + 9) (by omega) (cE_desk j) rfl in1 1 (by decide) (rc_nw wb nw_9) rfl dX3_receiveBid_68 ?_
        refine lv_iload_n hx hb dX3_receiveBid_71 rfl (lv_at hl 3 rfl) ?_
        refine lv_aload hx hb dX3_receiveBid_72 (lv_at hl 0 rfl) ?_
        refine rb_getN (v := .int (ar 5 j)) S wb (4 * j + 9) (by omega) (cE_desk j) rfl in1 2 (by decide) (rc_nw wb nw_10) rfl dX3_receiveBid_74 ?_
        refine rb_callV S wb ENC_ok (k_sendAnswer l D cI cC cD ad n ph mn (va_up ar 3 (upd (ar 3) j a)) 3 j (ar 4 j) (ar 5 j) a hn hn2 (by omega) (by omega) (by omega) pk_us) (bw5 bw_363 bw_365 bw_17 bw_32 bw_366) (rb_recv wb 0 (by omega) rfl rfl) hdX3_sendAnswer rfl ⟨rfl, rfl⟩ ⟨by decide, by decide⟩ hl.1 (Nat.le_of_ble_eq_true rfl) ⟨Nat.zero_le _, Nat.zero_le _⟩ (rest := []) (st1 := []) rfl rfl dX3_receiveBid_77 (fun H locs wb => ?_)
        refine lv_aload hx hb dX3_receiveBid_80 (lv_at hl 0 rfl) ?_
        refine lv_iload_n hx hb dX3_receiveBid_82 rfl (lv_at hl 2 rfl) ?_
        refine rb_putN (E' := cE ad cI cC cD n ph (mn + 1) (va_up ((sndA 3 (ar 4 j) (nI j) (ar 5 j) a (mn, va_up ar 3 (upd (ar 3) j a))).2) 4 (upd (ar 4) j (nI c)))) S wb (4 * j + 9) (by omega) (cE_desk j) rfl in1 tyX1 tyX1_ok nmX1 1 (by decide) (rc_nw wb nw_9) rfl rfl rfl (Nat.le_of_ble_eq_true rfl) (fun q _ => cu_ho j _ q) dX3_receiveBid_83 (fun H locs wb => ?_)
        refine lv_aload hx hb dX3_receiveBid_86 (lv_at hl 0 rfl) ?_
        refine lv_iload_n hx hb dX3_receiveBid_88 rfl (lv_at hl 4 rfl) ?_
        refine rb_putN (E' := cE ad cI cC cD n ph (mn + 1) (va_up (va_up ((sndA 3 (ar 4 j) (nI j) (ar 5 j) a (mn, va_up ar 3 (upd (ar 3) j a))).2) 4 (upd (ar 4) j (nI c))) 5 (upd (ar 5) j b))) S wb (4 * j + 9) (by omega) (cE_desk j) rfl in1 tyX1 tyX1_ok nmX1 2 (by decide) (rc_nw wb nw_10) rfl rfl rfl (Nat.le_of_ble_eq_true rfl) (fun q _ => cu_dn j _ q) dX3_receiveBid_89 (fun H locs wb => ?_)
        refine lv_aload_n hx hb dX3_receiveBid_92 rfl (lv_at hl 1 rfl) ?_
        refine lv_iconst (v := nI 1) hx hb dX3_receiveBid_93 (by decide) ?_
        refine lv_iload_n hx hb dX3_receiveBid_94 rfl (lv_at hl 2 rfl) ?_
        refine lv_iload_n hx hb dX3_receiveBid_95 rfl (lv_at hl 3 rfl) ?_
        refine lv_iload_n hx hb dX3_receiveBid_96 rfl (lv_at hl 4 rfl) ?_
        refine rb_callV S wb ENC_ok (k_sendAnswer l D cI cC cD ad n ph (mn + 1) (va_up (va_up ((sndA 3 (ar 4 j) (nI j) (ar 5 j) a (mn, va_up ar 3 (upd (ar 3) j a))).2) 4 (upd (ar 4) j (nI c))) 5 (upd (ar 5) j b)) 1 j (nI c) b a hn hn2 (by omega) (by omega) (by omega) pk_us) (bw5 bw_363 bw_365 bw_17 bw_32 bw_366) (rb_recv wb 0 (by omega) rfl rfl) hdX3_sendAnswer rfl ⟨rfl, rfl⟩ ⟨by decide, by decide⟩ hl.1 (Nat.le_of_ble_eq_true rfl) ⟨Nat.zero_le _, Nat.zero_le _⟩ (rest := []) (st1 := []) rfl rfl dX3_receiveBid_97 (fun H locs wb => ?_)
        refine lv_goto (tgt := 111) hx hb dX3_receiveBid_100 (by decide) ?_
        exact rb_vret S hr hlk hQ wb (by first | (rw [bidC_1 (tells_T hrh h15).1 (tells_T hrh h15).2]; exact fun _ _ => rfl) | (rw [bidC_2 (tells_F hrh h15) (Int32.not_le.mpr h45)]; exact fun _ _ => rfl) | (rw [bidC_3 (tells_F hrh h15) (Int32.not_lt.mp h45) h61]; exact fun _ _ => rfl) | (rw [bidC_4 (tells_F hrh h15) (Int32.not_lt.mp h45) h61]; exact fun _ _ => rfl)) dX3_receiveBid_111
  · refine lv_aload_n hx hb dX3_receiveBid_18 rfl (lv_at hl 1 rfl) ?_
    refine lv_iconst (v := nI 1) hx hb dX3_receiveBid_19 (by decide) ?_
    refine lv_iload_n hx hb dX3_receiveBid_20 rfl (lv_at hl 2 rfl) ?_
    refine lv_iload_n hx hb dX3_receiveBid_21 rfl (lv_at hl 3 rfl) ?_
    refine lv_iload_n hx hb dX3_receiveBid_22 rfl (lv_at hl 4 rfl) ?_
    refine rb_callV S wb ENC_ok (k_sendAnswer l D cI cC cD ad n ph mn ar 1 j (nI c) b (ar 3 j) hn hn2 (by omega) (by omega) (by omega) rfl) (bw5 bw_363 bw_365 bw_17 bw_32 bw_366) (rb_recv wb 0 (by omega) rfl rfl) hdX3_sendAnswer rfl ⟨rfl, rfl⟩ ⟨by decide, by decide⟩ hl.1 (Nat.le_of_ble_eq_true rfl) ⟨Nat.zero_le _, Nat.zero_le _⟩ (rest := []) (st1 := []) rfl rfl dX3_receiveBid_23 (fun H locs wb => ?_)
    refine lv_goto (tgt := 111) hx hb dX3_receiveBid_26 (by decide) ?_
    exact rb_vret S hr hlk hQ wb (by first | (rw [bidC_1 (tells_T hrh h15).1 (tells_T hrh h15).2]; exact fun _ _ => rfl) | (rw [bidC_2 (tells_F hrh h15) (Int32.not_le.mpr h45)]; exact fun _ _ => rfl) | (rw [bidC_3 (tells_F hrh h15) (Int32.not_lt.mp h45) h61]; exact fun _ _ => rfl) | (rw [bidC_4 (tells_F hrh h15) (Int32.not_lt.mp h45) h61]; exact fun _ _ => rfl)) dX3_receiveBid_111
