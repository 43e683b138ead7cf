/-! the turns of the law: class and model answer alike, and go on alike -/
theorem updL0 {f : Nat → Int64} {x : Int64} : vp_updL f 0 x 0 = x := by simp [vp_updL]
theorem lt_of5 {y : Int32} {k : Nat} (hk : k < 100) (h : nI (k + 1) ≤ y) : nI k < y := by
  rw [Int32.le_iff_toInt_le, nI_toInt (by omega)] at h
  rw [Int32.lt_iff_toInt_lt, nI_toInt (by omega)]
  omega
theorem z_or (z : Int32) : (z < 0 ∨ nI 1000 < z) ∨ (¬ z < 0 ∧ z ≤ nI 1000) := by
  by_cases h : z < 0
  · exact Or.inl (Or.inl h)
  · by_cases h2 : nI 1000 < z
    · exact Or.inl (Or.inr h2)
    · exact Or.inr ⟨h, Int32.not_lt.mp h2⟩
theorem k_or (y : Int32) {k : Nat} (hk : k < 100) : (y < 0 ∨ nI k < y) ∨ ∃ q, q < k + 1 ∧ y = nI q := by
  rcases idx_or y (n := k + 1) (by omega) with h | h
  · exact Or.inl (h.imp id (lt_of5 hk))
  · exact Or.inr h
set_option maxHeartbeats 4000000 in
set_option maxRecDepth 100000 in
theorem tn_worth {p : Program} {l : Launch} {e : Env} {s : State} {m : MethodId} {args : Array Value} {below : List Frame} {meth : Method} {c0 : Code} {H : Heap} {locs : List Loc} {cells slots : Nat} {Q : State → Prop} {ls : Array Slot} {D : va_G} {A : Nat → Prop} {cI cC cD cJ : ClassId} {ad1 ad2 : Nat → Nat} {o b L i n ph mn t : Nat} {xs : Nat → Int32} {ar : Nat → Nat → Int32} {th : Int32} {f : Nat → Int64} (hlt : l.stackTraces = false) (S : CallFix p m c0 cL_law 7 s args bw "LetterAuctionLaw") (hX : va_X b L xs s s.heap) (hbl : b < s.heap.size) (hbA : ¬ A b) (hL : L ≤ 2050) (hi : i + 3 < L) (hcs : cells + 1 ≤ 601475 ∧ slots + 6 ≤ 7291645) (hl : lv_has ls 7 [(0, .ref b), (1, .ref (ad1 0)), (2, .ref (ad2 0)), (3, .ref o), (4, .int (nI i))]) (ht : t < 2 ^ 30) (lp : LPt D (ty3 cI cC cD) cJ ad1 (4 * n + 6) ad2 A s (cE ad1 cI cC cD n ph mn ar) (mE ad2 cI th n (stp ph) mn ar) o f H locs) (inv : InvS n ph mn ar t 80) (kk : ∀ (ph' mn' : Nat) (ar' : Nat → Nat → Int32) (th' : Int32) (f' : Nat → Int64) (H1 : Heap) (locs1 : List Loc) (ls1 : Array Slot), LPt D (ty3 cI cC cD) cJ ad1 (4 * n + 6) ad2 A s (cE ad1 cI cC cD n ph' mn' ar') (mE ad2 cI th' n (stp ph') mn' ar') o f' H1 locs1 → lv_has ls1 7 [(0, .ref b), (1, .ref (ad1 0)), (2, .ref (ad2 0)), (3, .ref o), (4, .int (nI i))] → InvS n ph' mn' ar' (t + 1) 80 → W p l e room_1 s m args below meth c0 H1 locs1 (cells + 1) (slots + 6) Q (F0 m 969 ls1 [])) : W p l e room_1 s m args below meth c0 H locs cells slots Q (F0 m 136 ls []) := by
  have hn2 : 2 ≤ n := inv.1
  have hn : n ≤ 6 := inv.2.1
  have hph : ph ≤ 3 := inv.2.2.1
  have hTn := iv_HTn inv
  have hT := HTn_HT hTn hn
  have h80 := iv_80 inv
  have hLI := inv.2.2.2.2.2.1
  rcases idx_or (xs (i + 1)) (n := n) (by omega) with hx0 | ⟨c, hc, e1⟩
  · exact g_worth S hX hbl hbA hL hi hcs hl rfl rfl rfl lp (wx_worth1 l D cI cC cD cJ ad1 _ _ _ _ o f _ ⟨by decide, by decide⟩ (by omega) (by rfl) ⟨rfl, rfl⟩ (x_worth1a l hlt D cI cC cD ad1 n ph mn ar _ _ _ hn hn2 hx0)) (m_worth_x1a l D cI cC cD ad2 th n (stp ph) mn ar _ _ _ hn hT hx0) ⟨rfl, rfl⟩ ⟨by decide, by decide⟩ (fun H1 locs1 ls1 lp hl => kk _ _ _ _ _ H1 locs1 ls1 lp hl (iv_mono inv (Nat.le_succ t) (Nat.le_refl _)))
  · rcases idx_or (xs (i + 2)) (n := n) (by omega) with hy0 | ⟨j, hj, e2⟩
    · exact g_worth S hX hbl hbA hL hi hcs hl e1 rfl rfl lp (wx_worth1 l D cI cC cD cJ ad1 _ _ _ _ o f _ ⟨by decide, by decide⟩ (by omega) (by rfl) ⟨rfl, rfl⟩ (x_worth1b l hlt D cI cC cD ad1 n ph mn ar _ _ _ hn hn2 (not_idx hc (by omega)) hy0)) (m_worth_x1b l D cI cC cD ad2 th n (stp ph) mn ar _ _ _ hn hT (not_idx hc (by omega)) hy0) ⟨rfl, rfl⟩ ⟨by decide, by decide⟩ (fun H1 locs1 ls1 lp hl => kk _ _ _ _ _ H1 locs1 ls1 lp hl (iv_mono inv (Nat.le_succ t) (Nat.le_refl _)))
    · rcases z_or (xs (i + 3)) with hz0 | ⟨hz1, hz2⟩
      · exact g_worth S hX hbl hbA hL hi hcs hl e1 e2 rfl lp (wx_worth1 l D cI cC cD cJ ad1 _ _ _ _ o f _ ⟨by decide, by decide⟩ (by omega) (by rfl) ⟨rfl, rfl⟩ (x_worth1c l hlt D cI cC cD ad1 n ph mn ar _ _ _ hn hn2 (not_idx hc (by omega)) (not_idx hj (by omega)) hz0)) (m_worth_x1c l D cI cC cD ad2 th n (stp ph) mn ar _ _ _ hn hT (not_idx hc (by omega)) (not_idx hj (by omega)) hz0) ⟨rfl, rfl⟩ ⟨by decide, by decide⟩ (fun H1 locs1 ls1 lp hl => kk _ _ _ _ _ H1 locs1 ls1 lp hl (iv_mono inv (Nat.le_succ t) (Nat.le_refl _)))
      · by_cases hs : 0 < ar 11 0
        · have hsb : SB ar n := (iv_SB inv ht).mp hs
          by_cases hd : ph = 3 ∧ stl ar n
          · obtain ⟨q, hq, eq⟩ := hTn c hc (hd.2 c hc).1
            exact g_worth S hX hbl hbA hL hi hcs hl e1 e2 rfl lp (wn_worth l D cI cC cD cJ ad1 _ _ _ _ o f _ _ ⟨by decide, by decide⟩ (by omega) (by rfl) ⟨rfl, rfl⟩ (c_worth1 l D cI cC cD ad1 n ph mn ar c j q _ hn hn2 hc hj hz1 hz2 hph hTn hs hd hq eq)) (m_worth1 l D cI cC cD ad2 th n (stp ph) mn ar c j q _ hn hT hc hj hz1 hz2 hsb ⟨(stp_3 hph).mpr hd.1, hd.2⟩ (by omega) eq) ⟨rfl, rfl⟩ ⟨by decide, by decide⟩ (fun H1 locs1 ls1 lp hl => kk _ _ _ _ _ H1 locs1 ls1 lp hl (iv_worth1 (iv_mono inv (Nat.le_succ t) (Nat.le_refl _))))
          · exact g_worth S hX hbl hbA hL hi hcs hl e1 e2 rfl lp (wx_worth2 l D cI cC cD cJ ad1 _ _ _ _ o f _ ⟨by decide, by decide⟩ (by omega) (by rfl) ⟨rfl, rfl⟩ (x_worth2 l hlt D cI cC cD ad1 n ph mn ar c j _ hn hn2 hc hj hz1 hz2 hph hTn hs hd)) (m_worth_x2 l D cI cC cD ad2 th n (stp ph) mn ar c j _ hn hT hc hj hz1 hz2 hsb (fun q => hd ⟨(stp_3 hph).mp q.1, q.2⟩)) ⟨rfl, rfl⟩ ⟨by decide, by decide⟩ (fun H1 locs1 ls1 lp hl => kk _ _ _ _ _ H1 locs1 ls1 lp hl (iv_mono inv (Nat.le_succ t) (Nat.le_refl _)))
        · have hsb : ¬ SB ar n := fun q => hs ((iv_SB inv ht).mpr q)
          exact g_worth S hX hbl hbA hL hi hcs hl e1 e2 rfl lp (wn_worth l D cI cC cD cJ ad1 _ _ _ _ o f _ _ ⟨by decide, by decide⟩ (by omega) (by rfl) ⟨rfl, rfl⟩ (c_worth0 l D cI cC cD ad1 n ph mn ar c j _ hn hn2 hc hj hz1 hz2 hs)) (m_worth0 l D cI cC cD ad2 th n (stp ph) mn ar c j _ hn hT hc hj hz1 hz2 hsb) ⟨rfl, rfl⟩ ⟨by decide, by decide⟩ (fun H1 locs1 ls1 lp hl => kk _ _ _ _ _ H1 locs1 ls1 lp hl (iv_worth0 (iv_mono inv (Nat.le_succ t) (Nat.le_refl _))))
set_option maxHeartbeats 4000000 in
set_option maxRecDepth 100000 in
theorem tn_act {p : Program} {l : Launch} {e : Env} {s : State} {m : MethodId} {args : Array Value} {below : List Frame} {meth : Method} {c0 : Code} {H : Heap} {locs : List Loc} {cells slots : Nat} {Q : State → Prop} {ls : Array Slot} {D : va_G} {A : Nat → Prop} {cI cC cD cJ : ClassId} {ad1 ad2 : Nat → Nat} {o b L i n ph mn t : Nat} {xs : Nat → Int32} {ar : Nat → Nat → Int32} {th : Int32} {f : Nat → Int64} (hlt : l.stackTraces = false) (S : CallFix p m c0 cL_law 7 s args bw "LetterAuctionLaw") (hX : va_X b L xs s s.heap) (hbl : b < s.heap.size) (hbA : ¬ A b) (hL : L ≤ 2050) (hi : i + 3 < L) (hcs : cells + 1 ≤ 601475 ∧ slots + 6 ≤ 7291645) (hl : lv_has ls 7 [(0, .ref b), (1, .ref (ad1 0)), (2, .ref (ad2 0)), (3, .ref o), (4, .int (nI i))]) (ht : t < 2 ^ 30) (lp : LPt D (ty3 cI cC cD) cJ ad1 (4 * n + 6) ad2 A s (cE ad1 cI cC cD n ph mn ar) (mE ad2 cI th n (stp ph) mn ar) o f H locs) (inv : InvS n ph mn ar t 80) (kk : ∀ (ph' mn' : Nat) (ar' : Nat → Nat → Int32) (th' : Int32) (f' : Nat → Int64) (H1 : Heap) (locs1 : List Loc) (ls1 : Array Slot), LPt D (ty3 cI cC cD) cJ ad1 (4 * n + 6) ad2 A s (cE ad1 cI cC cD n ph' mn' ar') (mE ad2 cI th' n (stp ph') mn' ar') o f' H1 locs1 → lv_has ls1 7 [(0, .ref b), (1, .ref (ad1 0)), (2, .ref (ad2 0)), (3, .ref o), (4, .int (nI i))] → InvS n ph' mn' ar' (t + 1) 80 → W p l e room_1 s m args below meth c0 H1 locs1 (cells + 1) (slots + 6) Q (F0 m 969 ls1 [])) : W p l e room_1 s m args below meth c0 H locs cells slots Q (F0 m 196 ls []) := by
  have hn2 : 2 ≤ n := inv.1
  have hn : n ≤ 6 := inv.2.1
  have hph : ph ≤ 3 := inv.2.2.1
  have hTn := iv_HTn inv
  have hT := HTn_HT hTn hn
  have h80 := iv_80 inv
  have hLI := inv.2.2.2.2.2.1
  rcases idx_or (xs (i + 1)) (n := n) (by omega) with hx0 | ⟨c, hc, e1⟩
  · exact g_act S hX hbl hbA hL hi hcs hl rfl lp (wx_act1 l D cI cC cD cJ ad1 _ _ o f _ ⟨by decide, by decide⟩ (by omega) (by rfl) ⟨rfl, rfl⟩ (x_act1 l hlt D cI cC cD ad1 n ph mn ar _ hn hn2 hx0)) (fun h => absurd h (by decide)) (m_act_x1 l D cI cC cD ad2 th n (stp ph) mn ar _ hn hx0) ⟨rfl, rfl⟩ ⟨by decide, by decide⟩ (fun H1 locs1 ls1 lp hl => kk _ _ _ _ _ H1 locs1 ls1 lp hl (iv_mono inv (Nat.le_succ t) (Nat.le_refl _)))
  · by_cases h2 : ¬ ar 6 c = 0 ∨ 39 < mn
    · exact g_act S hX hbl hbA hL hi hcs hl e1 lp (wx_act2 l D cI cC cD cJ ad1 _ _ o f _ ⟨by decide, by decide⟩ (by omega) (by rfl) ⟨rfl, rfl⟩ (x_act2 l hlt D cI cC cD ad1 n ph mn ar c hn hn2 hc (by omega) h2)) (fun h => absurd h (by decide)) (m_act_x2 l D cI cC cD ad2 th n (stp ph) mn ar c hn (by omega) hc h2) ⟨rfl, rfl⟩ ⟨by decide, by decide⟩ (fun H1 locs1 ls1 lp hl => kk _ _ _ _ _ H1 locs1 ls1 lp hl (iv_mono inv (Nat.le_succ t) (Nat.le_refl _)))
    · have h6 : ar 6 c = 0 := Classical.byContradiction fun q => h2 (Or.inl q)
      have h39 : mn ≤ 39 := Nat.le_of_not_lt fun q => h2 (Or.inr q)
      have hb9 := bst_le (vl n ar c) (n - 1)
      exact g_act S hX hbl hbA hL hi hcs hl e1 lp (wn_act l D cI cC cD cJ ad1 _ _ o f _ _ _ ⟨by decide, by decide⟩ (by omega) (by rfl) ⟨rfl, rfl⟩ (c_act l D cI cC cD ad1 n ph mn ar c _ _ hn hn2 hc hph h6 h39 rfl rfl)) (fun _ => updL0) (m_act l D cI cC cD ad2 th n (stp ph) mn ar c _ _ hn hn2 hc h6 h39 rfl rfl) ⟨rfl, rfl⟩ ⟨by decide, by decide⟩ (fun H1 locs1 ls1 lp hl => kk _ _ _ _ _ H1 locs1 ls1 lp hl (iv_act inv hc (by omega) h39 ht))
set_option maxHeartbeats 4000000 in
set_option maxRecDepth 100000 in
theorem tn_resend {p : Program} {l : Launch} {e : Env} {s : State} {m : MethodId} {args : Array Value} {below : List Frame} {meth : Method} {c0 : Code} {H : Heap} {locs : List Loc} {cells slots : Nat} {Q : State → Prop} {ls : Array Slot} {D : va_G} {A : Nat → Prop} {cI cC cD cJ : ClassId} {ad1 ad2 : Nat → Nat} {o b L i n ph mn t : Nat} {xs : Nat → Int32} {ar : Nat → Nat → Int32} {th : Int32} {f : Nat → Int64} (hlt : l.stackTraces = false) (S : CallFix p m c0 cL_law 7 s args bw "LetterAuctionLaw") (hX : va_X b L xs s s.heap) (hbl : b < s.heap.size) (hbA : ¬ A b) (hL : L ≤ 2050) (hi : i + 3 < L) (hcs : cells + 1 ≤ 601475 ∧ slots + 6 ≤ 7291645) (hl : lv_has ls 7 [(0, .ref b), (1, .ref (ad1 0)), (2, .ref (ad2 0)), (3, .ref o), (4, .int (nI i))]) (ht : t < 2 ^ 30) (lp : LPt D (ty3 cI cC cD) cJ ad1 (4 * n + 6) ad2 A s (cE ad1 cI cC cD n ph mn ar) (mE ad2 cI th n (stp ph) mn ar) o f H locs) (inv : InvS n ph mn ar t 80) (kk : ∀ (ph' mn' : Nat) (ar' : Nat → Nat → Int32) (th' : Int32) (f' : Nat → Int64) (H1 : Heap) (locs1 : List Loc) (ls1 : Array Slot), LPt D (ty3 cI cC cD) cJ ad1 (4 * n + 6) ad2 A s (cE ad1 cI cC cD n ph' mn' ar') (mE ad2 cI th' n (stp ph') mn' ar') o f' H1 locs1 → lv_has ls1 7 [(0, .ref b), (1, .ref (ad1 0)), (2, .ref (ad2 0)), (3, .ref o), (4, .int (nI i))] → InvS n ph' mn' ar' (t + 1) 80 → W p l e room_1 s m args below meth c0 H1 locs1 (cells + 1) (slots + 6) Q (F0 m 969 ls1 [])) : W p l e room_1 s m args below meth c0 H locs cells slots Q (F0 m 252 ls []) := by
  have hn2 : 2 ≤ n := inv.1
  have hn : n ≤ 6 := inv.2.1
  have hph : ph ≤ 3 := inv.2.2.1
  have hTn := iv_HTn inv
  have hT := HTn_HT hTn hn
  have h80 := iv_80 inv
  have hLI := inv.2.2.2.2.2.1
  rcases idx_or (xs (i + 1)) (n := n) (by omega) with hx0 | ⟨c, hc, e1⟩
  · exact g_resend S hX hbl hbA hL hi hcs hl rfl lp (wx_resend1 l D cI cC cD cJ ad1 _ _ o f _ ⟨by decide, by decide⟩ (by omega) (by rfl) ⟨rfl, rfl⟩ (x_resend1 l hlt D cI cC cD ad1 n ph mn ar _ hn hn2 hx0)) (fun h => absurd h (by decide)) (m_resend_x1 l D cI cC cD ad2 th n (stp ph) mn ar _ hn hx0) ⟨rfl, rfl⟩ ⟨by decide, by decide⟩ (fun H1 locs1 ls1 lp hl => kk _ _ _ _ _ H1 locs1 ls1 lp hl (iv_mono inv (Nat.le_succ t) (Nat.le_refl _)))
  · by_cases h2 : ar 6 c = 0 ∨ 39 < mn
    · exact g_resend S hX hbl hbA hL hi hcs hl e1 lp (wx_resend2 l D cI cC cD cJ ad1 _ _ o f _ ⟨by decide, by decide⟩ (by omega) (by rfl) ⟨rfl, rfl⟩ (x_resend2 l hlt D cI cC cD ad1 n ph mn ar c hn hn2 hc (by omega) h2)) (fun h => absurd h (by decide)) (m_resend_x2 l D cI cC cD ad2 th n (stp ph) mn ar c hn (by omega) hc h2) ⟨rfl, rfl⟩ ⟨by decide, by decide⟩ (fun H1 locs1 ls1 lp hl => kk _ _ _ _ _ H1 locs1 ls1 lp hl (iv_mono inv (Nat.le_succ t) (Nat.le_refl _)))
    · have h6 : ¬ ar 6 c = 0 := fun q => h2 (Or.inl q)
      have h39 : mn ≤ 39 := Nat.le_of_not_lt fun q => h2 (Or.inr q)
      exact g_resend S hX hbl hbA hL hi hcs hl e1 lp (wn_resend l D cI cC cD cJ ad1 _ _ o f _ _ _ ⟨by decide, by decide⟩ (by omega) (by rfl) ⟨rfl, rfl⟩ (c_resend l D cI cC cD ad1 n ph mn ar c hn hn2 hc h6 h39)) (fun _ => updL0) (m_resend l D cI cC cD ad2 th n (stp ph) mn ar c hn hc h6 h39) ⟨rfl, rfl⟩ ⟨by decide, by decide⟩ (fun H1 locs1 ls1 lp hl => kk _ _ _ _ _ H1 locs1 ls1 lp hl (iv_put (iv_mono inv (Nat.le_succ t) (Nat.le_refl _)) h39 ⟨c, hc, rfl⟩ (iv_tg inv hc h6)))
set_option maxHeartbeats 4000000 in
set_option maxRecDepth 100000 in
theorem tn_deliver {p : Program} {l : Launch} {e : Env} {s : State} {m : MethodId} {args : Array Value} {below : List Frame} {meth : Method} {c0 : Code} {H : Heap} {locs : List Loc} {cells slots : Nat} {Q : State → Prop} {ls : Array Slot} {D : va_G} {A : Nat → Prop} {cI cC cD cJ : ClassId} {ad1 ad2 : Nat → Nat} {o b L i n ph mn t : Nat} {xs : Nat → Int32} {ar : Nat → Nat → Int32} {th : Int32} {f : Nat → Int64} (hlt : l.stackTraces = false) (S : CallFix p m c0 cL_law 7 s args bw "LetterAuctionLaw") (hX : va_X b L xs s s.heap) (hbl : b < s.heap.size) (hbA : ¬ A b) (hL : L ≤ 2050) (hi : i + 3 < L) (hcs : cells + 1 ≤ 601475 ∧ slots + 6 ≤ 7291645) (hl : lv_has ls 7 [(0, .ref b), (1, .ref (ad1 0)), (2, .ref (ad2 0)), (3, .ref o), (4, .int (nI i))]) (ht : t < 2 ^ 30) (lp : LPt D (ty3 cI cC cD) cJ ad1 (4 * n + 6) ad2 A s (cE ad1 cI cC cD n ph mn ar) (mE ad2 cI th n (stp ph) mn ar) o f H locs) (inv : InvS n ph mn ar t 80) (kk : ∀ (ph' mn' : Nat) (ar' : Nat → Nat → Int32) (th' : Int32) (f' : Nat → Int64) (H1 : Heap) (locs1 : List Loc) (ls1 : Array Slot), LPt D (ty3 cI cC cD) cJ ad1 (4 * n + 6) ad2 A s (cE ad1 cI cC cD n ph' mn' ar') (mE ad2 cI th' n (stp ph') mn' ar') o f' H1 locs1 → lv_has ls1 7 [(0, .ref b), (1, .ref (ad1 0)), (2, .ref (ad2 0)), (3, .ref o), (4, .int (nI i))] → InvS n ph' mn' ar' (t + 1) 80 → W p l e room_1 s m args below meth c0 H1 locs1 (cells + 1) (slots + 6) Q (F0 m 969 ls1 [])) : W p l e room_1 s m args below meth c0 H locs cells slots Q (F0 m 308 ls []) := by
  have hn2 : 2 ≤ n := inv.1
  have hn : n ≤ 6 := inv.2.1
  have hph : ph ≤ 3 := inv.2.2.1
  have hTn := iv_HTn inv
  have hT := HTn_HT hTn hn
  have h80 := iv_80 inv
  have hLI := inv.2.2.2.2.2.1
  rcases idx_or (xs (i + 1)) (n := mn) (by omega) with hx0 | ⟨q, hq, e1⟩
  · exact g_deliver S hX hbl hbA hL hi hcs hl rfl lp (wx_deliver1 l D cI cC cD cJ ad1 _ _ o f _ ⟨by decide, by decide⟩ (by omega) (by rfl) ⟨rfl, rfl⟩ (x_deliver l hlt D cI cC cD ad1 n ph mn ar _ hn hn2 hx0)) (fun h => absurd h (by decide)) (m_deliver_x1 l D cI cC cD ad2 th n (stp ph) mn ar _ hx0) ⟨rfl, rfl⟩ ⟨by decide, by decide⟩ (fun H1 locs1 ls1 lp hl => kk _ _ _ _ _ H1 locs1 ls1 lp hl (iv_mono inv (Nat.le_succ t) (Nat.le_refl _)))
  · obtain ⟨⟨c, hc, ec⟩, j, hj, ej⟩ := hLI q hq
    by_cases hk : ar 10 (5 * q) = 0
    · have h79 := iv_79 inv hq hk
      exact g_deliver S hX hbl hbA hL hi hcs hl e1 lp (wn_deliver l D cI cC cD cJ ad1 _ _ o f _ _ _ ⟨by decide, by decide⟩ (by omega) (by rfl) ⟨rfl, rfl⟩ (c_deliver_b l D cI cC cD ad1 n ph mn ar q c j hn hn2 hph h79 hq hc hj ec ej hk)) (fun _ => updL0) (m_deliver_b l D cI cC cD ad2 th n (stp ph) mn ar q c j hn (by omega) hq hc hj ec ej hk) ⟨rfl, rfl⟩ ⟨by decide, by decide⟩ (fun H1 locs1 ls1 lp hl => kk _ _ _ _ _ H1 locs1 ls1 lp hl (iv_mono (iv_bid (iv_dropb inv hq hk) hc hj) (Nat.le_succ t) (Nat.le_refl _)))
    · exact g_deliver S hX hbl hbA hL hi hcs hl e1 lp (wn_deliver l D cI cC cD cJ ad1 _ _ o f _ _ _ ⟨by decide, by decide⟩ (by omega) (by rfl) ⟨rfl, rfl⟩ (c_deliver_a l D cI cC cD ad1 n ph mn ar q c j hn hn2 hph h80 hq hc hj ec ej hk (iv_okS inv hc))) (fun _ => updL0) (m_deliver_a l D cI cC cD ad2 th n (stp ph) mn ar q c j hn (by omega) hq hc hj ec ej hk) ⟨rfl, rfl⟩ ⟨by decide, by decide⟩ (fun H1 locs1 ls1 lp hl => kk _ _ _ _ _ H1 locs1 ls1 lp hl (iv_mono (iv_ans (iv_drop inv hq)) (Nat.le_succ t) (Nat.le_refl _)))
set_option maxHeartbeats 4000000 in
set_option maxRecDepth 100000 in
theorem tn_lose {p : Program} {l : Launch} {e : Env} {s : State} {m : MethodId} {args : Array Value} {below : List Frame} {meth : Method} {c0 : Code} {H : Heap} {locs : List Loc} {cells slots : Nat} {Q : State → Prop} {ls : Array Slot} {D : va_G} {A : Nat → Prop} {cI cC cD cJ : ClassId} {ad1 ad2 : Nat → Nat} {o b L i n ph mn t : Nat} {xs : Nat → Int32} {ar : Nat → Nat → Int32} {th : Int32} {f : Nat → Int64} (hlt : l.stackTraces = false) (S : CallFix p m c0 cL_law 7 s args bw "LetterAuctionLaw") (hX : va_X b L xs s s.heap) (hbl : b < s.heap.size) (hbA : ¬ A b) (hL : L ≤ 2050) (hi : i + 3 < L) (hcs : cells + 1 ≤ 601475 ∧ slots + 6 ≤ 7291645) (hl : lv_has ls 7 [(0, .ref b), (1, .ref (ad1 0)), (2, .ref (ad2 0)), (3, .ref o), (4, .int (nI i))]) (ht : t < 2 ^ 30) (lp : LPt D (ty3 cI cC cD) cJ ad1 (4 * n + 6) ad2 A s (cE ad1 cI cC cD n ph mn ar) (mE ad2 cI th n (stp ph) mn ar) o f H locs) (inv : InvS n ph mn ar t 80) (kk : ∀ (ph' mn' : Nat) (ar' : Nat → Nat → Int32) (th' : Int32) (f' : Nat → Int64) (H1 : Heap) (locs1 : List Loc) (ls1 : Array Slot), LPt D (ty3 cI cC cD) cJ ad1 (4 * n + 6) ad2 A s (cE ad1 cI cC cD n ph' mn' ar') (mE ad2 cI th' n (stp ph') mn' ar') o f' H1 locs1 → lv_has ls1 7 [(0, .ref b), (1, .ref (ad1 0)), (2, .ref (ad2 0)), (3, .ref o), (4, .int (nI i))] → InvS n ph' mn' ar' (t + 1) 80 → W p l e room_1 s m args below meth c0 H1 locs1 (cells + 1) (slots + 6) Q (F0 m 969 ls1 [])) : W p l e room_1 s m args below meth c0 H locs cells slots Q (F0 m 364 ls []) := by
  have hn2 : 2 ≤ n := inv.1
  have hn : n ≤ 6 := inv.2.1
  have hph : ph ≤ 3 := inv.2.2.1
  have hTn := iv_HTn inv
  have hT := HTn_HT hTn hn
  have h80 := iv_80 inv
  have hLI := inv.2.2.2.2.2.1
  rcases idx_or (xs (i + 1)) (n := mn) (by omega) with hx0 | ⟨q, hq, e1⟩
  · exact g_lose S hX hbl hbA hL hi hcs hl rfl lp (wx_lose1 l D cI cC cD cJ ad1 _ _ o f _ ⟨by decide, by decide⟩ (by omega) (by rfl) ⟨rfl, rfl⟩ (x_lose l hlt D cI cC cD ad1 n ph mn ar _ hn hn2 hx0)) (fun h => absurd h (by decide)) (m_lose_x1 l D cI cC cD ad2 th n (stp ph) mn ar _ hx0) ⟨rfl, rfl⟩ ⟨by decide, by decide⟩ (fun H1 locs1 ls1 lp hl => kk _ _ _ _ _ H1 locs1 ls1 lp hl (iv_mono inv (Nat.le_succ t) (Nat.le_refl _)))
  · exact g_lose S hX hbl hbA hL hi hcs hl e1 lp (wn_lose l D cI cC cD cJ ad1 _ _ o f _ _ _ ⟨by decide, by decide⟩ (by omega) (by rfl) ⟨rfl, rfl⟩ (c_lose l D cI cC cD ad1 n ph mn ar q hn hn2 h80 hq)) (fun _ => updL0) (m_lose l D cI cC cD ad2 th n (stp ph) mn ar q (by omega) hq) ⟨rfl, rfl⟩ ⟨by decide, by decide⟩ (fun H1 locs1 ls1 lp hl => kk _ _ _ _ _ H1 locs1 ls1 lp hl (iv_drop (iv_mono inv (Nat.le_succ t) (Nat.le_refl _)) hq))
set_option maxHeartbeats 4000000 in
set_option maxRecDepth 100000 in
theorem tn_twin {p : Program} {l : Launch} {e : Env} {s : State} {m : MethodId} {args : Array Value} {below : List Frame} {meth : Method} {c0 : Code} {H : Heap} {locs : List Loc} {cells slots : Nat} {Q : State → Prop} {ls : Array Slot} {D : va_G} {A : Nat → Prop} {cI cC cD cJ : ClassId} {ad1 ad2 : Nat → Nat} {o b L i n ph mn t : Nat} {xs : Nat → Int32} {ar : Nat → Nat → Int32} {th : Int32} {f : Nat → Int64} (hlt : l.stackTraces = false) (S : CallFix p m c0 cL_law 7 s args bw "LetterAuctionLaw") (hX : va_X b L xs s s.heap) (hbl : b < s.heap.size) (hbA : ¬ A b) (hL : L ≤ 2050) (hi : i + 3 < L) (hcs : cells + 1 ≤ 601475 ∧ slots + 6 ≤ 7291645) (hl : lv_has ls 7 [(0, .ref b), (1, .ref (ad1 0)), (2, .ref (ad2 0)), (3, .ref o), (4, .int (nI i))]) (ht : t < 2 ^ 30) (lp : LPt D (ty3 cI cC cD) cJ ad1 (4 * n + 6) ad2 A s (cE ad1 cI cC cD n ph mn ar) (mE ad2 cI th n (stp ph) mn ar) o f H locs) (inv : InvS n ph mn ar t 80) (kk : ∀ (ph' mn' : Nat) (ar' : Nat → Nat → Int32) (th' : Int32) (f' : Nat → Int64) (H1 : Heap) (locs1 : List Loc) (ls1 : Array Slot), LPt D (ty3 cI cC cD) cJ ad1 (4 * n + 6) ad2 A s (cE ad1 cI cC cD n ph' mn' ar') (mE ad2 cI th' n (stp ph') mn' ar') o f' H1 locs1 → lv_has ls1 7 [(0, .ref b), (1, .ref (ad1 0)), (2, .ref (ad2 0)), (3, .ref o), (4, .int (nI i))] → InvS n ph' mn' ar' (t + 1) 80 → W p l e room_1 s m args below meth c0 H1 locs1 (cells + 1) (slots + 6) Q (F0 m 969 ls1 [])) : W p l e room_1 s m args below meth c0 H locs cells slots Q (F0 m 420 ls []) := by
  have hn2 : 2 ≤ n := inv.1
  have hn : n ≤ 6 := inv.2.1
  have hph : ph ≤ 3 := inv.2.2.1
  have hTn := iv_HTn inv
  have hT := HTn_HT hTn hn
  have h80 := iv_80 inv
  have hLI := inv.2.2.2.2.2.1
  rcases idx_or (xs (i + 1)) (n := mn) (by omega) with hx0 | ⟨q, hq, e1⟩
  · exact g_twin S hX hbl hbA hL hi hcs hl rfl lp (wx_twin1 l D cI cC cD cJ ad1 _ _ o f _ ⟨by decide, by decide⟩ (by omega) (by rfl) ⟨rfl, rfl⟩ (x_twin1 l hlt D cI cC cD ad1 n ph mn ar _ hn hn2 hx0)) (fun h => absurd h (by decide)) (m_twin_x1 l D cI cC cD ad2 th n (stp ph) mn ar _ hx0) ⟨rfl, rfl⟩ ⟨by decide, by decide⟩ (fun H1 locs1 ls1 lp hl => kk _ _ _ _ _ H1 locs1 ls1 lp hl (iv_mono inv (Nat.le_succ t) (Nat.le_refl _)))
  · by_cases h2 : 39 < mn
    · exact g_twin S hX hbl hbA hL hi hcs hl e1 lp (wx_twin2 l D cI cC cD cJ ad1 _ _ o f _ ⟨by decide, by decide⟩ (by omega) (by rfl) ⟨rfl, rfl⟩ (x_twin2 l hlt D cI cC cD ad1 n ph mn ar q hn hn2 h80 hq h2)) (fun h => absurd h (by decide)) (m_twin_x2 l D cI cC cD ad2 th n (stp ph) mn ar q (by omega) hq h2) ⟨rfl, rfl⟩ ⟨by decide, by decide⟩ (fun H1 locs1 ls1 lp hl => kk _ _ _ _ _ H1 locs1 ls1 lp hl (iv_mono inv (Nat.le_succ t) (Nat.le_refl _)))
    · exact g_twin S hX hbl hbA hL hi hcs hl e1 lp (wn_twin l D cI cC cD cJ ad1 _ _ o f _ _ _ ⟨by decide, by decide⟩ (by omega) (by rfl) ⟨rfl, rfl⟩ (c_twin l D cI cC cD ad1 n ph mn ar q hn hn2 hq (by omega))) (fun _ => updL0) (m_twin l D cI cC cD ad2 th n (stp ph) mn ar q hq (by omega)) ⟨rfl, rfl⟩ ⟨by decide, by decide⟩ (fun H1 locs1 ls1 lp hl => kk _ _ _ _ _ H1 locs1 ls1 lp hl (iv_put (iv_mono inv (Nat.le_succ t) (Nat.le_refl _)) (by omega) (hLI q hq).1 (hLI q hq).2))
set_option maxHeartbeats 4000000 in
set_option maxRecDepth 100000 in
theorem tn_letters {p : Program} {l : Launch} {e : Env} {s : State} {m : MethodId} {args : Array Value} {below : List Frame} {meth : Method} {c0 : Code} {H : Heap} {locs : List Loc} {cells slots : Nat} {Q : State → Prop} {ls : Array Slot} {D : va_G} {A : Nat → Prop} {cI cC cD cJ : ClassId} {ad1 ad2 : Nat → Nat} {o b L i n ph mn t : Nat} {xs : Nat → Int32} {ar : Nat → Nat → Int32} {th : Int32} {f : Nat → Int64} (hlt : l.stackTraces = false) (S : CallFix p m c0 cL_law 7 s args bw "LetterAuctionLaw") (hX : va_X b L xs s s.heap) (hbl : b < s.heap.size) (hbA : ¬ A b) (hL : L ≤ 2050) (hi : i + 3 < L) (hcs : cells + 1 ≤ 601475 ∧ slots + 6 ≤ 7291645) (hl : lv_has ls 7 [(0, .ref b), (1, .ref (ad1 0)), (2, .ref (ad2 0)), (3, .ref o), (4, .int (nI i))]) (ht : t < 2 ^ 30) (lp : LPt D (ty3 cI cC cD) cJ ad1 (4 * n + 6) ad2 A s (cE ad1 cI cC cD n ph mn ar) (mE ad2 cI th n (stp ph) mn ar) o f H locs) (inv : InvS n ph mn ar t 80) (kk : ∀ (ph' mn' : Nat) (ar' : Nat → Nat → Int32) (th' : Int32) (f' : Nat → Int64) (H1 : Heap) (locs1 : List Loc) (ls1 : Array Slot), LPt D (ty3 cI cC cD) cJ ad1 (4 * n + 6) ad2 A s (cE ad1 cI cC cD n ph' mn' ar') (mE ad2 cI th' n (stp ph') mn' ar') o f' H1 locs1 → lv_has ls1 7 [(0, .ref b), (1, .ref (ad1 0)), (2, .ref (ad2 0)), (3, .ref o), (4, .int (nI i))] → InvS n ph' mn' ar' (t + 1) 80 → W p l e room_1 s m args below meth c0 H1 locs1 (cells + 1) (slots + 6) Q (F0 m 969 ls1 [])) : W p l e room_1 s m args below meth c0 H locs cells slots Q (F0 m 476 ls []) := by
  have hn2 : 2 ≤ n := inv.1
  have hn : n ≤ 6 := inv.2.1
  have hph : ph ≤ 3 := inv.2.2.1
  have hTn := iv_HTn inv
  have hT := HTn_HT hTn hn
  have h80 := iv_80 inv
  have hLI := inv.2.2.2.2.2.1
  exact g_letters S hX hbl hbA hL hi hcs hl lp (c_letters l D cI cC cD ad1 n ph mn ar hn hn2) ⟨rfl, rfl⟩ ⟨by decide, by decide⟩ (by omega) (by rfl) (m_letters l D cI cC cD ad2 th n (stp ph) mn ar) ⟨rfl, rfl⟩ ⟨by decide, by decide⟩ (fun H1 locs1 ls1 lp hl => kk _ _ _ _ _ H1 locs1 ls1 lp hl (iv_mono inv (Nat.le_succ t) (Nat.le_refl _)))
set_option maxHeartbeats 4000000 in
set_option maxRecDepth 100000 in
theorem tn_letter {p : Program} {l : Launch} {e : Env} {s : State} {m : MethodId} {args : Array Value} {below : List Frame} {meth : Method} {c0 : Code} {H : Heap} {locs : List Loc} {cells slots : Nat} {Q : State → Prop} {ls : Array Slot} {D : va_G} {A : Nat → Prop} {cI cC cD cJ : ClassId} {ad1 ad2 : Nat → Nat} {o b L i n ph mn t : Nat} {xs : Nat → Int32} {ar : Nat → Nat → Int32} {th : Int32} {f : Nat → Int64} (hlt : l.stackTraces = false) (S : CallFix p m c0 cL_law 7 s args bw "LetterAuctionLaw") (hX : va_X b L xs s s.heap) (hbl : b < s.heap.size) (hbA : ¬ A b) (hL : L ≤ 2050) (hi : i + 3 < L) (hcs : cells + 1 ≤ 601475 ∧ slots + 6 ≤ 7291645) (hl : lv_has ls 7 [(0, .ref b), (1, .ref (ad1 0)), (2, .ref (ad2 0)), (3, .ref o), (4, .int (nI i))]) (ht : t < 2 ^ 30) (lp : LPt D (ty3 cI cC cD) cJ ad1 (4 * n + 6) ad2 A s (cE ad1 cI cC cD n ph mn ar) (mE ad2 cI th n (stp ph) mn ar) o f H locs) (inv : InvS n ph mn ar t 80) (kk : ∀ (ph' mn' : Nat) (ar' : Nat → Nat → Int32) (th' : Int32) (f' : Nat → Int64) (H1 : Heap) (locs1 : List Loc) (ls1 : Array Slot), LPt D (ty3 cI cC cD) cJ ad1 (4 * n + 6) ad2 A s (cE ad1 cI cC cD n ph' mn' ar') (mE ad2 cI th' n (stp ph') mn' ar') o f' H1 locs1 → lv_has ls1 7 [(0, .ref b), (1, .ref (ad1 0)), (2, .ref (ad2 0)), (3, .ref o), (4, .int (nI i))] → InvS n ph' mn' ar' (t + 1) 80 → W p l e room_1 s m args below meth c0 H1 locs1 (cells + 1) (slots + 6) Q (F0 m 969 ls1 [])) : W p l e room_1 s m args below meth c0 H locs cells slots Q (F0 m 489 ls []) := by
  have hn2 : 2 ≤ n := inv.1
  have hn : n ≤ 6 := inv.2.1
  have hph : ph ≤ 3 := inv.2.2.1
  have hTn := iv_HTn inv
  have hT := HTn_HT hTn hn
  have h80 := iv_80 inv
  have hLI := inv.2.2.2.2.2.1
  rcases idx_or (xs (i + 1)) (n := mn) (by omega) with hx0 | ⟨q, hq, e1⟩
  · exact g_letter S hX hbl hbA hL hi hcs hl rfl rfl lp (wx_letter1 l D cI cC cD cJ ad1 _ _ _ o f _ ⟨by decide, by decide⟩ (by omega) (by rfl) ⟨rfl, rfl⟩ (x_letter1 l hlt D cI cC cD ad1 n ph mn ar _ _ hn hn2 hx0)) (fun h => absurd h (by decide)) (m_letter_x1 l D cI cC cD ad2 th n (stp ph) mn ar _ _ hx0) ⟨rfl, rfl⟩ ⟨by decide, by decide⟩ (fun H1 locs1 ls1 lp hl => kk _ _ _ _ _ H1 locs1 ls1 lp hl (iv_mono inv (Nat.le_succ t) (Nat.le_refl _)))
  · rcases k_or (xs (i + 2)) (k := 4) (by omega) with hy | ⟨k, hk, e2⟩
    · exact g_letter S hX hbl hbA hL hi hcs hl e1 rfl lp (wx_letter2 l D cI cC cD cJ ad1 _ _ _ o f _ ⟨by decide, by decide⟩ (by omega) (by rfl) ⟨rfl, rfl⟩ (x_letter2 l hlt D cI cC cD ad1 n ph mn ar q _ hn hn2 h80 hq hy)) (fun h => absurd h (by decide)) (m_letter_x2 l D cI cC cD ad2 th n (stp ph) mn ar q _ (by omega) hq hy) ⟨rfl, rfl⟩ ⟨by decide, by decide⟩ (fun H1 locs1 ls1 lp hl => kk _ _ _ _ _ H1 locs1 ls1 lp hl (iv_mono inv (Nat.le_succ t) (Nat.le_refl _)))
    · exact g_letter S hX hbl hbA hL hi hcs hl e1 e2 lp (wn_letter l D cI cC cD cJ ad1 _ _ _ o f _ _ _ ⟨by decide, by decide⟩ (by omega) (by rfl) ⟨rfl, rfl⟩ (c_letter l D cI cC cD ad1 n ph mn ar q k hn hn2 h80 hq hk)) (fun _ => updL0) (m_letter l D cI cC cD ad2 th n (stp ph) mn ar q k (by omega) hq hk) ⟨rfl, rfl⟩ ⟨by decide, by decide⟩ (fun H1 locs1 ls1 lp hl => kk _ _ _ _ _ H1 locs1 ls1 lp hl (iv_mono inv (Nat.le_succ t) (Nat.le_refl _)))
set_option maxHeartbeats 4000000 in
set_option maxRecDepth 100000 in
theorem tn_crew {p : Program} {l : Launch} {e : Env} {s : State} {m : MethodId} {args : Array Value} {below : List Frame} {meth : Method} {c0 : Code} {H : Heap} {locs : List Loc} {cells slots : Nat} {Q : State → Prop} {ls : Array Slot} {D : va_G} {A : Nat → Prop} {cI cC cD cJ : ClassId} {ad1 ad2 : Nat → Nat} {o b L i n ph mn t : Nat} {xs : Nat → Int32} {ar : Nat → Nat → Int32} {th : Int32} {f : Nat → Int64} (hlt : l.stackTraces = false) (S : CallFix p m c0 cL_law 7 s args bw "LetterAuctionLaw") (hX : va_X b L xs s s.heap) (hbl : b < s.heap.size) (hbA : ¬ A b) (hL : L ≤ 2050) (hi : i + 3 < L) (hcs : cells + 1 ≤ 601475 ∧ slots + 6 ≤ 7291645) (hl : lv_has ls 7 [(0, .ref b), (1, .ref (ad1 0)), (2, .ref (ad2 0)), (3, .ref o), (4, .int (nI i))]) (ht : t < 2 ^ 30) (lp : LPt D (ty3 cI cC cD) cJ ad1 (4 * n + 6) ad2 A s (cE ad1 cI cC cD n ph mn ar) (mE ad2 cI th n (stp ph) mn ar) o f H locs) (inv : InvS n ph mn ar t 80) (kk : ∀ (ph' mn' : Nat) (ar' : Nat → Nat → Int32) (th' : Int32) (f' : Nat → Int64) (H1 : Heap) (locs1 : List Loc) (ls1 : Array Slot), LPt D (ty3 cI cC cD) cJ ad1 (4 * n + 6) ad2 A s (cE ad1 cI cC cD n ph' mn' ar') (mE ad2 cI th' n (stp ph') mn' ar') o f' H1 locs1 → lv_has ls1 7 [(0, .ref b), (1, .ref (ad1 0)), (2, .ref (ad2 0)), (3, .ref o), (4, .int (nI i))] → InvS n ph' mn' ar' (t + 1) 80 → W p l e room_1 s m args below meth c0 H1 locs1 (cells + 1) (slots + 6) Q (F0 m 969 ls1 [])) : W p l e room_1 s m args below meth c0 H locs cells slots Q (F0 m 557 ls []) := by
  have hn2 : 2 ≤ n := inv.1
  have hn : n ≤ 6 := inv.2.1
  have hph : ph ≤ 3 := inv.2.2.1
  have hTn := iv_HTn inv
  have hT := HTn_HT hTn hn
  have h80 := iv_80 inv
  have hLI := inv.2.2.2.2.2.1
  rcases idx_or (xs (i + 1)) (n := n) (by omega) with hx0 | ⟨c, hc, e1⟩
  · exact g_crew S hX hbl hbA hL hi hcs hl rfl rfl lp (wx_crew1 l D cI cC cD cJ ad1 _ _ _ o f _ ⟨by decide, by decide⟩ (by omega) (by rfl) ⟨rfl, rfl⟩ (x_crew1 l hlt D cI cC cD ad1 n ph mn ar _ _ hn hn2 hx0)) (fun h => absurd h (by decide)) (m_crew_x1 l D cI cC cD ad2 th n (stp ph) mn ar _ _ hn hx0) ⟨rfl, rfl⟩ ⟨by decide, by decide⟩ (fun H1 locs1 ls1 lp hl => kk _ _ _ _ _ H1 locs1 ls1 lp hl (iv_mono inv (Nat.le_succ t) (Nat.le_refl _)))
  · rcases k_or (xs (i + 2)) (k := 3) (by omega) with hy | ⟨k, hk, e2⟩
    · exact g_crew S hX hbl hbA hL hi hcs hl e1 rfl lp (wx_crew1 l D cI cC cD cJ ad1 _ _ _ o f _ ⟨by decide, by decide⟩ (by omega) (by rfl) ⟨rfl, rfl⟩ (x_crew2 l hlt D cI cC cD ad1 n ph mn ar c _ hn hn2 hc hy)) (fun h => absurd h (by decide)) (m_crew_x2 l D cI cC cD ad2 th n (stp ph) mn ar c _ hn hc hy) ⟨rfl, rfl⟩ ⟨by decide, by decide⟩ (fun H1 locs1 ls1 lp hl => kk _ _ _ _ _ H1 locs1 ls1 lp hl (iv_mono inv (Nat.le_succ t) (Nat.le_refl _)))
    · rcases (show k = 0 ∨ k = 1 ∨ k = 2 ∨ k = 3 by omega) with rfl | rfl | rfl | rfl
      · exact g_crew S hX hbl hbA hL hi hcs hl e1 e2 lp (wn_crew l D cI cC cD cJ ad1 _ _ _ o f _ _ _ ⟨by decide, by decide⟩ (by omega) (by rfl) ⟨rfl, rfl⟩ (c_crew0 l D cI cC cD ad1 n ph mn ar c hn hn2 hc)) (fun _ => updL0) (m_crew0 l D cI cC cD ad2 th n (stp ph) mn ar c hn hn2 hc) ⟨rfl, rfl⟩ ⟨by decide, by decide⟩ (fun H1 locs1 ls1 lp hl => kk _ _ _ _ _ H1 locs1 ls1 lp hl (iv_mono inv (Nat.le_succ t) (Nat.le_refl _)))
      · exact g_crew S hX hbl hbA hL hi hcs hl e1 e2 lp (wn_crew l D cI cC cD cJ ad1 _ _ _ o f _ _ _ ⟨by decide, by decide⟩ (by omega) (by rfl) ⟨rfl, rfl⟩ (c_crew1 l D cI cC cD ad1 n ph mn ar c hn hn2 hc)) (fun _ => updL0) (m_crew1 l D cI cC cD ad2 th n (stp ph) mn ar c hn hn2 hc) ⟨rfl, rfl⟩ ⟨by decide, by decide⟩ (fun H1 locs1 ls1 lp hl => kk _ _ _ _ _ H1 locs1 ls1 lp hl (iv_mono inv (Nat.le_succ t) (Nat.le_refl _)))
      · exact g_crew S hX hbl hbA hL hi hcs hl e1 e2 lp (wn_crew l D cI cC cD cJ ad1 _ _ _ o f _ _ _ ⟨by decide, by decide⟩ (by omega) (by rfl) ⟨rfl, rfl⟩ (c_crew2 l D cI cC cD ad1 n ph mn ar c hn hn2 hc)) (fun _ => updL0) (m_crew2 l D cI cC cD ad2 th n (stp ph) mn ar c hn hn2 hc) ⟨rfl, rfl⟩ ⟨by decide, by decide⟩ (fun H1 locs1 ls1 lp hl => kk _ _ _ _ _ H1 locs1 ls1 lp hl (iv_mono inv (Nat.le_succ t) (Nat.le_refl _)))
      · exact g_crew S hX hbl hbA hL hi hcs hl e1 e2 lp (wn_crew l D cI cC cD cJ ad1 _ _ _ o f _ _ _ ⟨by decide, by decide⟩ (by omega) (by rfl) ⟨rfl, rfl⟩ (c_crew3 l D cI cC cD ad1 n ph mn ar c hn hn2 hc)) (fun _ => updL0) (m_crew3 l D cI cC cD ad2 th n (stp ph) mn ar c hn hn2 hc) ⟨rfl, rfl⟩ ⟨by decide, by decide⟩ (fun H1 locs1 ls1 lp hl => kk _ _ _ _ _ H1 locs1 ls1 lp hl (iv_mono inv (Nat.le_succ t) (Nat.le_refl _)))
set_option maxHeartbeats 4000000 in
set_option maxRecDepth 100000 in
theorem tn_known {p : Program} {l : Launch} {e : Env} {s : State} {m : MethodId} {args : Array Value} {below : List Frame} {meth : Method} {c0 : Code} {H : Heap} {locs : List Loc} {cells slots : Nat} {Q : State → Prop} {ls : Array Slot} {D : va_G} {A : Nat → Prop} {cI cC cD cJ : ClassId} {ad1 ad2 : Nat → Nat} {o b L i n ph mn t : Nat} {xs : Nat → Int32} {ar : Nat → Nat → Int32} {th : Int32} {f : Nat → Int64} (hlt : l.stackTraces = false) (S : CallFix p m c0 cL_law 7 s args bw "LetterAuctionLaw") (hX : va_X b L xs s s.heap) (hbl : b < s.heap.size) (hbA : ¬ A b) (hL : L ≤ 2050) (hi : i + 3 < L) (hcs : cells + 1 ≤ 601475 ∧ slots + 6 ≤ 7291645) (hl : lv_has ls 7 [(0, .ref b), (1, .ref (ad1 0)), (2, .ref (ad2 0)), (3, .ref o), (4, .int (nI i))]) (ht : t < 2 ^ 30) (lp : LPt D (ty3 cI cC cD) cJ ad1 (4 * n + 6) ad2 A s (cE ad1 cI cC cD n ph mn ar) (mE ad2 cI th n (stp ph) mn ar) o f H locs) (inv : InvS n ph mn ar t 80) (kk : ∀ (ph' mn' : Nat) (ar' : Nat → Nat → Int32) (th' : Int32) (f' : Nat → Int64) (H1 : Heap) (locs1 : List Loc) (ls1 : Array Slot), LPt D (ty3 cI cC cD) cJ ad1 (4 * n + 6) ad2 A s (cE ad1 cI cC cD n ph' mn' ar') (mE ad2 cI th' n (stp ph') mn' ar') o f' H1 locs1 → lv_has ls1 7 [(0, .ref b), (1, .ref (ad1 0)), (2, .ref (ad2 0)), (3, .ref o), (4, .int (nI i))] → InvS n ph' mn' ar' (t + 1) 80 → W p l e room_1 s m args below meth c0 H1 locs1 (cells + 1) (slots + 6) Q (F0 m 969 ls1 [])) : W p l e room_1 s m args below meth c0 H locs cells slots Q (F0 m 625 ls []) := by
  have hn2 : 2 ≤ n := inv.1
  have hn : n ≤ 6 := inv.2.1
  have hph : ph ≤ 3 := inv.2.2.1
  have hTn := iv_HTn inv
  have hT := HTn_HT hTn hn
  have h80 := iv_80 inv
  have hLI := inv.2.2.2.2.2.1
  rcases idx_or (xs (i + 1)) (n := n) (by omega) with hx0 | ⟨c, hc, e1⟩
  · exact g_known S hX hbl hbA hL hi hcs hl rfl rfl lp (wx_known1 l D cI cC cD cJ ad1 _ _ _ o f _ ⟨by decide, by decide⟩ (by omega) (by rfl) ⟨rfl, rfl⟩ (x_known1 l hlt D cI cC cD ad1 n ph mn ar _ _ hn hn2 hx0)) (fun h => absurd h (by decide)) (m_known_x1 l D cI cC cD ad2 th n (stp ph) mn ar _ _ hn hx0) ⟨rfl, rfl⟩ ⟨by decide, by decide⟩ (fun H1 locs1 ls1 lp hl => kk _ _ _ _ _ H1 locs1 ls1 lp hl (iv_mono inv (Nat.le_succ t) (Nat.le_refl _)))
  · rcases idx_or (xs (i + 2)) (n := n) (by omega) with hy0 | ⟨j, hj, e2⟩
    · exact g_known S hX hbl hbA hL hi hcs hl e1 rfl lp (wx_known1 l D cI cC cD cJ ad1 _ _ _ o f _ ⟨by decide, by decide⟩ (by omega) (by rfl) ⟨rfl, rfl⟩ (x_known2 l hlt D cI cC cD ad1 n ph mn ar _ _ hn hn2 (not_idx hc (by omega)) hy0)) (fun h => absurd h (by decide)) (m_known_x2 l D cI cC cD ad2 th n (stp ph) mn ar _ _ hn (not_idx hc (by omega)) hy0) ⟨rfl, rfl⟩ ⟨by decide, by decide⟩ (fun H1 locs1 ls1 lp hl => kk _ _ _ _ _ H1 locs1 ls1 lp hl (iv_mono inv (Nat.le_succ t) (Nat.le_refl _)))
    · exact g_known S hX hbl hbA hL hi hcs hl e1 e2 lp (wn_known l D cI cC cD cJ ad1 _ _ _ o f _ _ _ ⟨by decide, by decide⟩ (by omega) (by rfl) ⟨rfl, rfl⟩ (c_known l D cI cC cD ad1 n ph mn ar c j hn hn2 hc hj)) (fun _ => updL0) (m_known l D cI cC cD ad2 th n (stp ph) mn ar c j hn hc hj) ⟨rfl, rfl⟩ ⟨by decide, by decide⟩ (fun H1 locs1 ls1 lp hl => kk _ _ _ _ _ H1 locs1 ls1 lp hl (iv_mono inv (Nat.le_succ t) (Nat.le_refl _)))
set_option maxHeartbeats 4000000 in
set_option maxRecDepth 100000 in
theorem tn_desk {p : Program} {l : Launch} {e : Env} {s : State} {m : MethodId} {args : Array Value} {below : List Frame} {meth : Method} {c0 : Code} {H : Heap} {locs : List Loc} {cells slots : Nat} {Q : State → Prop} {ls : Array Slot} {D : va_G} {A : Nat → Prop} {cI cC cD cJ : ClassId} {ad1 ad2 : Nat → Nat} {o b L i n ph mn t : Nat} {xs : Nat → Int32} {ar : Nat → Nat → Int32} {th : Int32} {f : Nat → Int64} (hlt : l.stackTraces = false) (S : CallFix p m c0 cL_law 7 s args bw "LetterAuctionLaw") (hX : va_X b L xs s s.heap) (hbl : b < s.heap.size) (hbA : ¬ A b) (hL : L ≤ 2050) (hi : i + 3 < L) (hcs : cells + 1 ≤ 601475 ∧ slots + 6 ≤ 7291645) (hl : lv_has ls 7 [(0, .ref b), (1, .ref (ad1 0)), (2, .ref (ad2 0)), (3, .ref o), (4, .int (nI i))]) (ht : t < 2 ^ 30) (lp : LPt D (ty3 cI cC cD) cJ ad1 (4 * n + 6) ad2 A s (cE ad1 cI cC cD n ph mn ar) (mE ad2 cI th n (stp ph) mn ar) o f H locs) (inv : InvS n ph mn ar t 80) (kk : ∀ (ph' mn' : Nat) (ar' : Nat → Nat → Int32) (th' : Int32) (f' : Nat → Int64) (H1 : Heap) (locs1 : List Loc) (ls1 : Array Slot), LPt D (ty3 cI cC cD) cJ ad1 (4 * n + 6) ad2 A s (cE ad1 cI cC cD n ph' mn' ar') (mE ad2 cI th' n (stp ph') mn' ar') o f' H1 locs1 → lv_has ls1 7 [(0, .ref b), (1, .ref (ad1 0)), (2, .ref (ad2 0)), (3, .ref o), (4, .int (nI i))] → InvS n ph' mn' ar' (t + 1) 80 → W p l e room_1 s m args below meth c0 H1 locs1 (cells + 1) (slots + 6) Q (F0 m 969 ls1 [])) : W p l e room_1 s m args below meth c0 H locs cells slots Q (F0 m 693 ls []) := by
  have hn2 : 2 ≤ n := inv.1
  have hn : n ≤ 6 := inv.2.1
  have hph : ph ≤ 3 := inv.2.2.1
  have hTn := iv_HTn inv
  have hT := HTn_HT hTn hn
  have h80 := iv_80 inv
  have hLI := inv.2.2.2.2.2.1
  rcases idx_or (xs (i + 1)) (n := n) (by omega) with hx0 | ⟨c, hc, e1⟩
  · exact g_desk S hX hbl hbA hL hi hcs hl rfl rfl lp (wx_desk1 l D cI cC cD cJ ad1 _ _ _ o f _ ⟨by decide, by decide⟩ (by omega) (by rfl) ⟨rfl, rfl⟩ (x_desk1 l hlt D cI cC cD ad1 n ph mn ar _ _ hn hn2 hx0)) (fun h => absurd h (by decide)) (m_desk_x1 l D cI cC cD ad2 th n (stp ph) mn ar _ _ hn hx0) ⟨rfl, rfl⟩ ⟨by decide, by decide⟩ (fun H1 locs1 ls1 lp hl => kk _ _ _ _ _ H1 locs1 ls1 lp hl (iv_mono inv (Nat.le_succ t) (Nat.le_refl _)))
  · rcases k_or (xs (i + 2)) (k := 2) (by omega) with hy | ⟨k, hk, e2⟩
    · exact g_desk S hX hbl hbA hL hi hcs hl e1 rfl lp (wx_desk1 l D cI cC cD cJ ad1 _ _ _ o f _ ⟨by decide, by decide⟩ (by omega) (by rfl) ⟨rfl, rfl⟩ (x_desk2 l hlt D cI cC cD ad1 n ph mn ar c _ hn hn2 hc hy)) (fun h => absurd h (by decide)) (m_desk_x2 l D cI cC cD ad2 th n (stp ph) mn ar c _ hn hc hy) ⟨rfl, rfl⟩ ⟨by decide, by decide⟩ (fun H1 locs1 ls1 lp hl => kk _ _ _ _ _ H1 locs1 ls1 lp hl (iv_mono inv (Nat.le_succ t) (Nat.le_refl _)))
    · rcases (show k = 0 ∨ k = 1 ∨ k = 2 by omega) with rfl | rfl | rfl
      · exact g_desk S hX hbl hbA hL hi hcs hl e1 e2 lp (wn_desk l D cI cC cD cJ ad1 _ _ _ o f _ _ _ ⟨by decide, by decide⟩ (by omega) (by rfl) ⟨rfl, rfl⟩ (c_desk0 l D cI cC cD ad1 n ph mn ar c hn hn2 hc)) (fun _ => updL0) (m_desk0 l D cI cC cD ad2 th n (stp ph) mn ar c hn hc) ⟨rfl, rfl⟩ ⟨by decide, by decide⟩ (fun H1 locs1 ls1 lp hl => kk _ _ _ _ _ H1 locs1 ls1 lp hl (iv_mono inv (Nat.le_succ t) (Nat.le_refl _)))
      · exact g_desk S hX hbl hbA hL hi hcs hl e1 e2 lp (wn_desk l D cI cC cD cJ ad1 _ _ _ o f _ _ _ ⟨by decide, by decide⟩ (by omega) (by rfl) ⟨rfl, rfl⟩ (c_desk1 l D cI cC cD ad1 n ph mn ar c hn hn2 hc)) (fun _ => updL0) (m_desk1 l D cI cC cD ad2 th n (stp ph) mn ar c hn hc) ⟨rfl, rfl⟩ ⟨by decide, by decide⟩ (fun H1 locs1 ls1 lp hl => kk _ _ _ _ _ H1 locs1 ls1 lp hl (iv_mono inv (Nat.le_succ t) (Nat.le_refl _)))
      · exact g_desk S hX hbl hbA hL hi hcs hl e1 e2 lp (wn_desk l D cI cC cD cJ ad1 _ _ _ o f _ _ _ ⟨by decide, by decide⟩ (by omega) (by rfl) ⟨rfl, rfl⟩ (c_desk2 l D cI cC cD ad1 n ph mn ar c hn hn2 hc)) (fun _ => updL0) (m_desk2 l D cI cC cD ad2 th n (stp ph) mn ar c hn hc) ⟨rfl, rfl⟩ ⟨by decide, by decide⟩ (fun H1 locs1 ls1 lp hl => kk _ _ _ _ _ H1 locs1 ls1 lp hl (iv_mono inv (Nat.le_succ t) (Nat.le_refl _)))
set_option maxHeartbeats 4000000 in
set_option maxRecDepth 100000 in
theorem tn_settled {p : Program} {l : Launch} {e : Env} {s : State} {m : MethodId} {args : Array Value} {below : List Frame} {meth : Method} {c0 : Code} {H : Heap} {locs : List Loc} {cells slots : Nat} {Q : State → Prop} {ls : Array Slot} {D : va_G} {A : Nat → Prop} {cI cC cD cJ : ClassId} {ad1 ad2 : Nat → Nat} {o b L i n ph mn t : Nat} {xs : Nat → Int32} {ar : Nat → Nat → Int32} {th : Int32} {f : Nat → Int64} (hlt : l.stackTraces = false) (S : CallFix p m c0 cL_law 7 s args bw "LetterAuctionLaw") (hX : va_X b L xs s s.heap) (hbl : b < s.heap.size) (hbA : ¬ A b) (hL : L ≤ 2050) (hi : i + 3 < L) (hcs : cells + 1 ≤ 601475 ∧ slots + 6 ≤ 7291645) (hl : lv_has ls 7 [(0, .ref b), (1, .ref (ad1 0)), (2, .ref (ad2 0)), (3, .ref o), (4, .int (nI i))]) (ht : t < 2 ^ 30) (lp : LPt D (ty3 cI cC cD) cJ ad1 (4 * n + 6) ad2 A s (cE ad1 cI cC cD n ph mn ar) (mE ad2 cI th n (stp ph) mn ar) o f H locs) (inv : InvS n ph mn ar t 80) (kk : ∀ (ph' mn' : Nat) (ar' : Nat → Nat → Int32) (th' : Int32) (f' : Nat → Int64) (H1 : Heap) (locs1 : List Loc) (ls1 : Array Slot), LPt D (ty3 cI cC cD) cJ ad1 (4 * n + 6) ad2 A s (cE ad1 cI cC cD n ph' mn' ar') (mE ad2 cI th' n (stp ph') mn' ar') o f' H1 locs1 → lv_has ls1 7 [(0, .ref b), (1, .ref (ad1 0)), (2, .ref (ad2 0)), (3, .ref o), (4, .int (nI i))] → InvS n ph' mn' ar' (t + 1) 80 → W p l e room_1 s m args below meth c0 H1 locs1 (cells + 1) (slots + 6) Q (F0 m 969 ls1 [])) : W p l e room_1 s m args below meth c0 H locs cells slots Q (F0 m 761 ls []) := by
  have hn2 : 2 ≤ n := inv.1
  have hn : n ≤ 6 := inv.2.1
  have hph : ph ≤ 3 := inv.2.2.1
  have hTn := iv_HTn inv
  have hT := HTn_HT hTn hn
  have h80 := iv_80 inv
  have hLI := inv.2.2.2.2.2.1
  obtain ⟨r, hr⟩ := tells_ex (stl ar n)
  exact g_settled S hX hbl hbA hL hi hcs hl lp (k_settled l D cI cC cD ad1 n ph mn ar hn hn2 hTn r hr) ⟨rfl, rfl⟩ ⟨by decide, by decide⟩ (by omega) (by rfl) (m_settled l D cI cC cD ad2 th n (stp ph) mn ar hn hT r hr) ⟨rfl, rfl⟩ ⟨by decide, by decide⟩ (fun H1 locs1 ls1 lp hl => kk _ _ _ _ _ H1 locs1 ls1 lp hl (iv_mono inv (Nat.le_succ t) (Nat.le_refl _)))
set_option maxHeartbeats 4000000 in
set_option maxRecDepth 100000 in
theorem tn_phase {p : Program} {l : Launch} {e : Env} {s : State} {m : MethodId} {args : Array Value} {below : List Frame} {meth : Method} {c0 : Code} {H : Heap} {locs : List Loc} {cells slots : Nat} {Q : State → Prop} {ls : Array Slot} {D : va_G} {A : Nat → Prop} {cI cC cD cJ : ClassId} {ad1 ad2 : Nat → Nat} {o b L i n ph mn t : Nat} {xs : Nat → Int32} {ar : Nat → Nat → Int32} {th : Int32} {f : Nat → Int64} (hlt : l.stackTraces = false) (S : CallFix p m c0 cL_law 7 s args bw "LetterAuctionLaw") (hX : va_X b L xs s s.heap) (hbl : b < s.heap.size) (hbA : ¬ A b) (hL : L ≤ 2050) (hi : i + 3 < L) (hcs : cells + 1 ≤ 601475 ∧ slots + 6 ≤ 7291645) (hl : lv_has ls 7 [(0, .ref b), (1, .ref (ad1 0)), (2, .ref (ad2 0)), (3, .ref o), (4, .int (nI i))]) (ht : t < 2 ^ 30) (lp : LPt D (ty3 cI cC cD) cJ ad1 (4 * n + 6) ad2 A s (cE ad1 cI cC cD n ph mn ar) (mE ad2 cI th n (stp ph) mn ar) o f H locs) (inv : InvS n ph mn ar t 80) (kk : ∀ (ph' mn' : Nat) (ar' : Nat → Nat → Int32) (th' : Int32) (f' : Nat → Int64) (H1 : Heap) (locs1 : List Loc) (ls1 : Array Slot), LPt D (ty3 cI cC cD) cJ ad1 (4 * n + 6) ad2 A s (cE ad1 cI cC cD n ph' mn' ar') (mE ad2 cI th' n (stp ph') mn' ar') o f' H1 locs1 → lv_has ls1 7 [(0, .ref b), (1, .ref (ad1 0)), (2, .ref (ad2 0)), (3, .ref o), (4, .int (nI i))] → InvS n ph' mn' ar' (t + 1) 80 → W p l e room_1 s m args below meth c0 H1 locs1 (cells + 1) (slots + 6) Q (F0 m 969 ls1 [])) : W p l e room_1 s m args below meth c0 H locs cells slots Q (F0 m 774 ls []) := by
  have hn2 : 2 ≤ n := inv.1
  have hn : n ≤ 6 := inv.2.1
  have hph : ph ≤ 3 := inv.2.2.1
  have hTn := iv_HTn inv
  have hT := HTn_HT hTn hn
  have h80 := iv_80 inv
  have hLI := inv.2.2.2.2.2.1
  by_cases hs : stl ar n
  · by_cases hp3 : ph = 3
    · exact g_phase S hX hbl hbA hL hi hcs hl  lp (wx_phase1 l D cI cC cD cJ ad1 _ o f _ ⟨by decide, by decide⟩ (by omega) (by rfl) ⟨rfl, rfl⟩ (x_phase2 l hlt D cI cC cD ad1 n ph mn ar hn hn2 hTn hs hp3)) (fun h => absurd h (by decide)) (m_phase_x2 l D cI cC cD ad2 th n (stp ph) mn ar hn hT hs ((stp_3 hph).mpr hp3)) ⟨rfl, rfl⟩ ⟨by decide, by decide⟩ (fun H1 locs1 ls1 lp hl => kk _ _ _ _ _ H1 locs1 ls1 lp hl (iv_mono inv (Nat.le_succ t) (Nat.le_refl _)))
    · have hp : ph < 3 := by omega
      have hm := m_phase l D cI cC cD ad2 th n (stp ph) mn ar hn hT hs (fun q => hp3 ((stp_3 hph).mp q))
      rw [stp_4 hp] at hm
      exact g_phase S hX hbl hbA hL hi hcs hl  lp (wn_phase l D cI cC cD cJ ad1 _ o f _ _ _ ⟨by decide, by decide⟩ (by omega) (by rfl) ⟨rfl, rfl⟩ (c_phase l D cI cC cD ad1 n ph mn ar hn hn2 hTn hs hp)) (fun _ => updL0) (hm) ⟨rfl, rfl⟩ ⟨by decide, by decide⟩ (fun H1 locs1 ls1 lp hl => kk _ _ _ _ _ H1 locs1 ls1 lp hl (iv_phase (iv_mono inv (Nat.le_succ t) (Nat.le_refl _)) hp))
  · exact g_phase S hX hbl hbA hL hi hcs hl  lp (wx_phase1 l D cI cC cD cJ ad1 _ o f _ ⟨by decide, by decide⟩ (by omega) (by rfl) ⟨rfl, rfl⟩ (x_phase1 l hlt D cI cC cD ad1 n ph mn ar hn hn2 hTn hs)) (fun h => absurd h (by decide)) (m_phase_x1 l D cI cC cD ad2 th n (stp ph) mn ar hn hT hs) ⟨rfl, rfl⟩ ⟨by decide, by decide⟩ (fun H1 locs1 ls1 lp hl => kk _ _ _ _ _ H1 locs1 ls1 lp hl (iv_mono inv (Nat.le_succ t) (Nat.le_refl _)))
set_option maxHeartbeats 4000000 in
set_option maxRecDepth 100000 in
theorem tn_total {p : Program} {l : Launch} {e : Env} {s : State} {m : MethodId} {args : Array Value} {below : List Frame} {meth : Method} {c0 : Code} {H : Heap} {locs : List Loc} {cells slots : Nat} {Q : State → Prop} {ls : Array Slot} {D : va_G} {A : Nat → Prop} {cI cC cD cJ : ClassId} {ad1 ad2 : Nat → Nat} {o b L i n ph mn t : Nat} {xs : Nat → Int32} {ar : Nat → Nat → Int32} {th : Int32} {f : Nat → Int64} (hlt : l.stackTraces = false) (S : CallFix p m c0 cL_law 7 s args bw "LetterAuctionLaw") (hX : va_X b L xs s s.heap) (hbl : b < s.heap.size) (hbA : ¬ A b) (hL : L ≤ 2050) (hi : i + 3 < L) (hcs : cells + 1 ≤ 601475 ∧ slots + 6 ≤ 7291645) (hl : lv_has ls 7 [(0, .ref b), (1, .ref (ad1 0)), (2, .ref (ad2 0)), (3, .ref o), (4, .int (nI i))]) (ht : t < 2 ^ 30) (lp : LPt D (ty3 cI cC cD) cJ ad1 (4 * n + 6) ad2 A s (cE ad1 cI cC cD n ph mn ar) (mE ad2 cI th n (stp ph) mn ar) o f H locs) (inv : InvS n ph mn ar t 80) (kk : ∀ (ph' mn' : Nat) (ar' : Nat → Nat → Int32) (th' : Int32) (f' : Nat → Int64) (H1 : Heap) (locs1 : List Loc) (ls1 : Array Slot), LPt D (ty3 cI cC cD) cJ ad1 (4 * n + 6) ad2 A s (cE ad1 cI cC cD n ph' mn' ar') (mE ad2 cI th' n (stp ph') mn' ar') o f' H1 locs1 → lv_has ls1 7 [(0, .ref b), (1, .ref (ad1 0)), (2, .ref (ad2 0)), (3, .ref o), (4, .int (nI i))] → InvS n ph' mn' ar' (t + 1) 80 → W p l e room_1 s m args below meth c0 H1 locs1 (cells + 1) (slots + 6) Q (F0 m 969 ls1 [])) : W p l e room_1 s m args below meth c0 H locs cells slots Q (F0 m 818 ls []) := by
  have hn2 : 2 ≤ n := inv.1
  have hn : n ≤ 6 := inv.2.1
  have hph : ph ≤ 3 := inv.2.2.1
  have hTn := iv_HTn inv
  have hT := HTn_HT hTn hn
  have h80 := iv_80 inv
  have hLI := inv.2.2.2.2.2.1
  by_cases hs : stl ar n
  · exact g_total S hX hbl hbA hL hi hcs hl  lp (wn_total l D cI cC cD cJ ad1 _ o f _ _ _ ⟨by decide, by decide⟩ (by omega) (by rfl) ⟨rfl, rfl⟩ (c_total l D cI cC cD ad1 n ph mn ar hn hn2 hTn hs)) (fun _ => updL0) (m_total l D cI cC cD ad2 th n (stp ph) mn ar hn hn2 hT hs) ⟨rfl, rfl⟩ ⟨by decide, by decide⟩ (fun H1 locs1 ls1 lp hl => kk _ _ _ _ _ H1 locs1 ls1 lp hl (iv_mono inv (Nat.le_succ t) (Nat.le_refl _)))
  · exact g_total S hX hbl hbA hL hi hcs hl  lp (wx_total1 l D cI cC cD cJ ad1 _ o f _ ⟨by decide, by decide⟩ (by omega) (by rfl) ⟨rfl, rfl⟩ (x_total l hlt D cI cC cD ad1 n ph mn ar hn hn2 hTn hs)) (fun h => absurd h (by decide)) (m_total_x1 l D cI cC cD ad2 th n (stp ph) mn ar hn hn2 hT hs) ⟨rfl, rfl⟩ ⟨by decide, by decide⟩ (fun H1 locs1 ls1 lp hl => kk _ _ _ _ _ H1 locs1 ls1 lp hl (iv_mono inv (Nat.le_succ t) (Nat.le_refl _)))
set_option maxHeartbeats 4000000 in
set_option maxRecDepth 100000 in
theorem tn_proves {p : Program} {l : Launch} {e : Env} {s : State} {m : MethodId} {args : Array Value} {below : List Frame} {meth : Method} {c0 : Code} {H : Heap} {locs : List Loc} {cells slots : Nat} {Q : State → Prop} {ls : Array Slot} {D : va_G} {A : Nat → Prop} {cI cC cD cJ : ClassId} {ad1 ad2 : Nat → Nat} {o b L i n ph mn t : Nat} {xs : Nat → Int32} {ar : Nat → Nat → Int32} {th : Int32} {f : Nat → Int64} (hlt : l.stackTraces = false) (S : CallFix p m c0 cL_law 7 s args bw "LetterAuctionLaw") (hX : va_X b L xs s s.heap) (hbl : b < s.heap.size) (hbA : ¬ A b) (hL : L ≤ 2050) (hi : i + 3 < L) (hcs : cells + 1 ≤ 601475 ∧ slots + 6 ≤ 7291645) (hl : lv_has ls 7 [(0, .ref b), (1, .ref (ad1 0)), (2, .ref (ad2 0)), (3, .ref o), (4, .int (nI i))]) (ht : t < 2 ^ 30) (lp : LPt D (ty3 cI cC cD) cJ ad1 (4 * n + 6) ad2 A s (cE ad1 cI cC cD n ph mn ar) (mE ad2 cI th n (stp ph) mn ar) o f H locs) (inv : InvS n ph mn ar t 80) (kk : ∀ (ph' mn' : Nat) (ar' : Nat → Nat → Int32) (th' : Int32) (f' : Nat → Int64) (H1 : Heap) (locs1 : List Loc) (ls1 : Array Slot), LPt D (ty3 cI cC cD) cJ ad1 (4 * n + 6) ad2 A s (cE ad1 cI cC cD n ph' mn' ar') (mE ad2 cI th' n (stp ph') mn' ar') o f' H1 locs1 → lv_has ls1 7 [(0, .ref b), (1, .ref (ad1 0)), (2, .ref (ad2 0)), (3, .ref o), (4, .int (nI i))] → InvS n ph' mn' ar' (t + 1) 80 → W p l e room_1 s m args below meth c0 H1 locs1 (cells + 1) (slots + 6) Q (F0 m 969 ls1 [])) : W p l e room_1 s m args below meth c0 H locs cells slots Q (F0 m 862 ls []) := by
  have hn2 : 2 ≤ n := inv.1
  have hn : n ≤ 6 := inv.2.1
  have hph : ph ≤ 3 := inv.2.2.1
  have hTn := iv_HTn inv
  have hT := HTn_HT hTn hn
  have h80 := iv_80 inv
  have hLI := inv.2.2.2.2.2.1
  by_cases hs : stl ar n
  · obtain ⟨r, hr⟩ := tells_ex (sm (fun c => ar 3 c + pf (fun j => ar 1 (6 * c + j) * nI (n + 1) - ar 3 j) (n - 1) - ar 1 (6 * c + (ar 7 c).toNatClampNeg) * nI (n + 1)) n < nI (n + 1))
    exact g_proves S hX hbl hbA hL hi hcs hl  lp (wn_proves l D cI cC cD cJ ad1 _ o f _ _ _ ⟨by decide, by decide⟩ (by omega) (by rfl) ⟨rfl, rfl⟩ (c_proves l D cI cC cD ad1 n ph mn ar hn hn2 hTn hs r hr) (tells_b hr)) (fun _ => updL0) (tells_b hr) (m_proves l D cI cC cD ad2 th n (stp ph) mn ar hn hn2 hT hs r hr) ⟨rfl, rfl⟩ ⟨by decide, by decide⟩ (fun H1 locs1 ls1 lp hl => kk _ _ _ _ _ H1 locs1 ls1 lp hl (iv_mono inv (Nat.le_succ t) (Nat.le_refl _)))
  · exact g_proves S hX hbl hbA hL hi hcs hl  lp (wx_proves1 l D cI cC cD cJ ad1 _ o f _ ⟨by decide, by decide⟩ (by omega) (by rfl) ⟨rfl, rfl⟩ (x_proves l hlt D cI cC cD ad1 n ph mn ar hn hn2 hTn hs)) (fun h => absurd h (by decide)) (Or.inl rfl) (m_proves_x1 l D cI cC cD ad2 th n (stp ph) mn ar hn hn2 hT hs) ⟨rfl, rfl⟩ ⟨by decide, by decide⟩ (fun H1 locs1 ls1 lp hl => kk _ _ _ _ _ H1 locs1 ls1 lp hl (iv_mono inv (Nat.le_succ t) (Nat.le_refl _)))
set_option maxHeartbeats 4000000 in
set_option maxRecDepth 100000 in
theorem tn_count {p : Program} {l : Launch} {e : Env} {s : State} {m : MethodId} {args : Array Value} {below : List Frame} {meth : Method} {c0 : Code} {H : Heap} {locs : List Loc} {cells slots : Nat} {Q : State → Prop} {ls : Array Slot} {D : va_G} {A : Nat → Prop} {cI cC cD cJ : ClassId} {ad1 ad2 : Nat → Nat} {o b L i n ph mn t : Nat} {xs : Nat → Int32} {ar : Nat → Nat → Int32} {th : Int32} {f : Nat → Int64} (hlt : l.stackTraces = false) (S : CallFix p m c0 cL_law 7 s args bw "LetterAuctionLaw") (hX : va_X b L xs s s.heap) (hbl : b < s.heap.size) (hbA : ¬ A b) (hL : L ≤ 2050) (hi : i + 3 < L) (hcs : cells + 1 ≤ 601475 ∧ slots + 6 ≤ 7291645) (hl : lv_has ls 7 [(0, .ref b), (1, .ref (ad1 0)), (2, .ref (ad2 0)), (3, .ref o), (4, .int (nI i))]) (ht : t < 2 ^ 30) (lp : LPt D (ty3 cI cC cD) cJ ad1 (4 * n + 6) ad2 A s (cE ad1 cI cC cD n ph mn ar) (mE ad2 cI th n (stp ph) mn ar) o f H locs) (inv : InvS n ph mn ar t 80) (kk : ∀ (ph' mn' : Nat) (ar' : Nat → Nat → Int32) (th' : Int32) (f' : Nat → Int64) (H1 : Heap) (locs1 : List Loc) (ls1 : Array Slot), LPt D (ty3 cI cC cD) cJ ad1 (4 * n + 6) ad2 A s (cE ad1 cI cC cD n ph' mn' ar') (mE ad2 cI th' n (stp ph') mn' ar') o f' H1 locs1 → lv_has ls1 7 [(0, .ref b), (1, .ref (ad1 0)), (2, .ref (ad2 0)), (3, .ref o), (4, .int (nI i))] → InvS n ph' mn' ar' (t + 1) 80 → W p l e room_1 s m args below meth c0 H1 locs1 (cells + 1) (slots + 6) Q (F0 m 969 ls1 [])) : W p l e room_1 s m args below meth c0 H locs cells slots Q (F0 m 913 ls []) := by
  have hn2 : 2 ≤ n := inv.1
  have hn : n ≤ 6 := inv.2.1
  have hph : ph ≤ 3 := inv.2.2.1
  have hTn := iv_HTn inv
  have hT := HTn_HT hTn hn
  have h80 := iv_80 inv
  have hLI := inv.2.2.2.2.2.1
  rcases k_or (xs (i + 1)) (k := 4) (by omega) with hy | ⟨k, hk, e1⟩
  · exact g_count S hX hbl hbA hL hi hcs hl rfl lp (wx_count1 l D cI cC cD cJ ad1 _ _ o f _ ⟨by decide, by decide⟩ (by omega) (by rfl) ⟨rfl, rfl⟩ (x_count l hlt D cI cC cD ad1 n ph mn ar _ hn hn2 hy)) (fun h => absurd h (by decide)) (m_count_x1 l D cI cC cD ad2 th n (stp ph) mn ar _ hy) ⟨rfl, rfl⟩ ⟨by decide, by decide⟩ (fun H1 locs1 ls1 lp hl => kk _ _ _ _ _ H1 locs1 ls1 lp hl (iv_mono inv (Nat.le_succ t) (Nat.le_refl _)))
  · by_cases hk4 : k = 4
    · subst hk4
      exact g_count S hX hbl hbA hL hi hcs hl e1 lp (wn_count l D cI cC cD cJ ad1 _ _ o f _ _ _ ⟨by decide, by decide⟩ (by omega) (by rfl) ⟨rfl, rfl⟩ (c_count4 l D cI cC cD ad1 n ph mn ar hn hn2 hph)) (fun _ => updL0) (m_count4 l D cI cC cD ad2 th n (stp ph) mn ar) ⟨rfl, rfl⟩ ⟨by decide, by decide⟩ (fun H1 locs1 ls1 lp hl => kk _ _ _ _ _ H1 locs1 ls1 lp hl (iv_mono inv (Nat.le_succ t) (Nat.le_refl _)))
    · exact g_count S hX hbl hbA hL hi hcs hl e1 lp (wn_count l D cI cC cD cJ ad1 _ _ o f _ _ _ ⟨by decide, by decide⟩ (by omega) (by rfl) ⟨rfl, rfl⟩ (c_count l D cI cC cD ad1 n ph mn ar k hn hn2 (by omega))) (fun _ => updL0) (m_count l D cI cC cD ad2 th n (stp ph) mn ar k (by omega)) ⟨rfl, rfl⟩ ⟨by decide, by decide⟩ (fun H1 locs1 ls1 lp hl => kk _ _ _ _ _ H1 locs1 ls1 lp hl (iv_mono inv (Nat.le_succ t) (Nat.le_refl _)))
