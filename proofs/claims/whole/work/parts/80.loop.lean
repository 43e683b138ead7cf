/-! the law's loop -/
theorem i4 (t : Nat) : nI (2 + 4 * t) + Int32.ofInt 4 = nI (2 + 4 * (t + 1)) := by
  rw [show 2 + 4 * (t + 1) = (2 + 4 * t) + 4 by omega]
  exact nI_add _ 4
theorem neg_lt {L t : Nat} (h : L < 4) (ht : t ≤ 512) : nI L - nI 4 < nI (2 + 4 * t) := by
  have h1 := pk_sneg (a := L) (b := 4) (by omega) h
  have h2 := nI_pos' (n := 2 + 4 * t) (by omega)
  rw [Int32.lt_iff_toInt_lt] at h1 ⊢
  rw [Int32.le_iff_toInt_le] at h2
  omega
set_option maxHeartbeats 4000000 in
set_option maxRecDepth 100000 in
theorem law_loop {p : Program} {l : Launch} {e : Env} {s : State} {m : MethodId} {args : Array Value} {below : List Frame} {meth : Method} {c0 : Code} {Q : State → Prop} {D : va_G} {A : Nat → Prop} {cI cC cD cJ : ClassId} {ad1 ad2 : Nat → Nat} {o b L n : Nat} {xs : Nat → Int32} (hlt : l.stackTraces = false) (S : CallFix p m c0 cL_law 7 s args bw "LetterAuctionLaw") (hX : va_X b L xs s s.heap) (hbl : b < s.heap.size) (hbA : ¬ A b) (hL : L ≤ 2050)
    (hend : ∀ (H : Heap) (locs : List Loc) (ls : Array Slot), va_S A s.heap H locs → W p l e room_1 s m args below meth c0 H locs 601475 7291645 Q (F0 m 975 ls [])) :
    ∀ (fuel t cells slots ph mn : Nat) (ar : Nat → Nat → Int32) (th : Int32) (f : Nat → Int64) (H : Heap) (locs : List Loc) (ls : Array Slot), 512 < t + fuel → cells ≤ 50 + t → slots ≤ 2000 + 6 * t → t ≤ 512 →
      LPt D (ty3 cI cC cD) cJ ad1 (4 * n + 6) ad2 A s (cE ad1 cI cC cD n ph mn ar) (mE ad2 cI th n (stp ph) mn ar) o f H locs → lv_has ls 7 [(0, .ref b), (1, .ref (ad1 0)), (2, .ref (ad2 0)), (3, .ref o), (4, .int (nI (2 + 4 * t)))] → InvS n ph mn ar t 80 → W p l e room_1 s m args below meth c0 H locs cells slots Q (F0 m 43 ls []) := by
  have hx := S.1
  have hb := S.2.1
  intro fuel
  induction fuel with
  | zero => intro t cells slots ph mn ar th f H locs ls hfu _ _ ht _ _ _; exact absurd hfu (by omega)
  | succ fuel ih =>
    intro t cells slots ph mn ar th f H locs ls hfu hcl hsl ht lp hl inv
    refine lv_iload hx hb dL_law_43 (lv_at hl 4 rfl) ?_
    refine lv_aload_n hx hb dL_law_45 rfl (lv_at hl 0 rfl) ?_
    refine va_slen hx hb hX hbl hbA lp.2.2.2.2.1 dL_law_46 ?_
    refine lv_iconst (v := nI 4) hx hb dL_law_47 (by decide) ?_
    refine lv_isub hx hb dL_law_48 ?_
    by_cases h4 : L < 4
    · refine lv_icmp_gt (tgt := 975) hx hb dL_law_49 (by decide) (fun _ => ?_) (fun h9 => absurd (neg_lt h4 ht) h9)
      exact W.widen (k := 601475) (n := 7291645) (by omega) (by omega) (hend H locs ls lp.2.2.2.2.1)
    · refine nb_ren (y := nI (L - 4)) (pk_sub (a := L) (b := 4) (by omega)) ?_
      refine nb_icmp_gt (tgt := 975) hx hb dL_law_49 (by decide) (by omega) (by omega) (fun _ => ?_) (fun h9 => ?_)
      · exact W.widen (k := 601475) (n := 7291645) (by omega) (by omega) (hend H locs ls lp.2.2.2.2.1)
      · refine lv_aload_n hx hb dL_law_52 rfl (lv_at hl 0 rfl) ?_
        refine lv_iload hx hb dL_law_53 (lv_at hl 4 rfl) ?_
        refine lp_ld S lp.2.2.2.2.1 hX hbl hbA hL (2 + 4 * t) (by omega) dL_law_55 ?_
        refine lv_bipush (v := nI 15) hx hb dL_law_56 (by decide) ?_
        refine lv_iand hx hb dL_law_58 ?_
        obtain ⟨j, hj, ej⟩ := pk_andE (xs (2 + 4 * t)) (m := nI 15) 4 (by decide)
        refine nb_ren (y := nI j) ej ?_
        have fin : ∀ (ph' mn' : Nat) (ar' : Nat → Nat → Int32) (th' : Int32) (f' : Nat → Int64) (H1 : Heap) (locs1 : List Loc) (ls1 : Array Slot), LPt D (ty3 cI cC cD) cJ ad1 (4 * n + 6) ad2 A s (cE ad1 cI cC cD n ph' mn' ar') (mE ad2 cI th' n (stp ph') mn' ar') o f' H1 locs1 → lv_has ls1 7 [(0, .ref b), (1, .ref (ad1 0)), (2, .ref (ad2 0)), (3, .ref o), (4, .int (nI (2 + 4 * t)))] → InvS n ph' mn' ar' (t + 1) 80 → W p l e room_1 s m args below meth c0 H1 locs1 (cells + 1) (slots + 6) Q (F0 m 969 ls1 []) := by
          intro ph' mn' ar' th' f' H1 locs1 ls1 lp hl inv
          refine lv_iinc (v := nI (2 + 4 * (t + 1))) (lv' := [(4, .int (nI (2 + 4 * (t + 1)))), (0, .ref b), (1, .ref (ad1 0)), (2, .ref (ad2 0)), (3, .ref o)]) hx hb dL_law_969 hl (k := 4) rfl (i4 t) (by decide) rfl (fun ls hl => ?_)
          refine lv_goto (tgt := 43) hx hb dL_law_972 (by decide) ?_
          exact ih (t + 1) _ _ ph' mn' ar' th' f' H1 locs1 ls (by omega) (by omega) (by omega) (by omega) lp (lv_sub hl [1, 2, 3, 4, 0] rfl) inv
        have hj16 : j < 16 := hj
        rcases (show j = 0 ∨ j = 1 ∨ j = 2 ∨ j = 3 ∨ j = 4 ∨ j = 5 ∨ j = 6 ∨ j = 7 ∨ j = 8 ∨ j = 9 ∨ j = 10 ∨ j = 11 ∨ j = 12 ∨ j = 13 ∨ j = 14 ∨ j = 15 by omega) with rfl | rfl | rfl | rfl | rfl | rfl | rfl | rfl | rfl | rfl | rfl | rfl | rfl | rfl | rfl | rfl
        · refine lv_tableIn (off := 77) (tgt := 136) hx hb dL_law_59 (by decide) (by decide) (by decide) (by decide) ?_
          exact tn_worth hlt S hX hbl hbA hL (by omega) ⟨by omega, by omega⟩ hl (by omega) lp inv fin
        · refine lv_tableIn (off := 137) (tgt := 196) hx hb dL_law_59 (by decide) (by decide) (by decide) (by decide) ?_
          exact tn_act hlt S hX hbl hbA hL (by omega) ⟨by omega, by omega⟩ hl (by omega) lp inv fin
        · refine lv_tableIn (off := 193) (tgt := 252) hx hb dL_law_59 (by decide) (by decide) (by decide) (by decide) ?_
          exact tn_resend hlt S hX hbl hbA hL (by omega) ⟨by omega, by omega⟩ hl (by omega) lp inv fin
        · refine lv_tableIn (off := 249) (tgt := 308) hx hb dL_law_59 (by decide) (by decide) (by decide) (by decide) ?_
          exact tn_deliver hlt S hX hbl hbA hL (by omega) ⟨by omega, by omega⟩ hl (by omega) lp inv fin
        · refine lv_tableIn (off := 305) (tgt := 364) hx hb dL_law_59 (by decide) (by decide) (by decide) (by decide) ?_
          exact tn_lose hlt S hX hbl hbA hL (by omega) ⟨by omega, by omega⟩ hl (by omega) lp inv fin
        · refine lv_tableIn (off := 361) (tgt := 420) hx hb dL_law_59 (by decide) (by decide) (by decide) (by decide) ?_
          exact tn_twin hlt S hX hbl hbA hL (by omega) ⟨by omega, by omega⟩ hl (by omega) lp inv fin
        · refine lv_tableIn (off := 417) (tgt := 476) hx hb dL_law_59 (by decide) (by decide) (by decide) (by decide) ?_
          exact tn_letters hlt S hX hbl hbA hL (by omega) ⟨by omega, by omega⟩ hl (by omega) lp inv fin
        · refine lv_tableIn (off := 430) (tgt := 489) hx hb dL_law_59 (by decide) (by decide) (by decide) (by decide) ?_
          exact tn_letter hlt S hX hbl hbA hL (by omega) ⟨by omega, by omega⟩ hl (by omega) lp inv fin
        · refine lv_tableIn (off := 498) (tgt := 557) hx hb dL_law_59 (by decide) (by decide) (by decide) (by decide) ?_
          exact tn_crew hlt S hX hbl hbA hL (by omega) ⟨by omega, by omega⟩ hl (by omega) lp inv fin
        · refine lv_tableIn (off := 566) (tgt := 625) hx hb dL_law_59 (by decide) (by decide) (by decide) (by decide) ?_
          exact tn_known hlt S hX hbl hbA hL (by omega) ⟨by omega, by omega⟩ hl (by omega) lp inv fin
        · refine lv_tableIn (off := 634) (tgt := 693) hx hb dL_law_59 (by decide) (by decide) (by decide) (by decide) ?_
          exact tn_desk hlt S hX hbl hbA hL (by omega) ⟨by omega, by omega⟩ hl (by omega) lp inv fin
        · refine lv_tableIn (off := 702) (tgt := 761) hx hb dL_law_59 (by decide) (by decide) (by decide) (by decide) ?_
          exact tn_settled hlt S hX hbl hbA hL (by omega) ⟨by omega, by omega⟩ hl (by omega) lp inv fin
        · refine lv_tableIn (off := 715) (tgt := 774) hx hb dL_law_59 (by decide) (by decide) (by decide) (by decide) ?_
          exact tn_phase hlt S hX hbl hbA hL (by omega) ⟨by omega, by omega⟩ hl (by omega) lp inv fin
        · refine lv_tableIn (off := 759) (tgt := 818) hx hb dL_law_59 (by decide) (by decide) (by decide) (by decide) ?_
          exact tn_total hlt S hX hbl hbA hL (by omega) ⟨by omega, by omega⟩ hl (by omega) lp inv fin
        · refine lv_tableIn (off := 803) (tgt := 862) hx hb dL_law_59 (by decide) (by decide) (by decide) (by decide) ?_
          exact tn_proves hlt S hX hbl hbA hL (by omega) ⟨by omega, by omega⟩ hl (by omega) lp inv fin
        · refine lv_tableIn (off := 854) (tgt := 913) hx hb dL_law_59 (by decide) (by decide) (by decide) (by decide) ?_
          exact tn_count hlt S hX hbl hbA hL (by omega) ⟨by omega, by omega⟩ hl (by omega) lp inv fin
