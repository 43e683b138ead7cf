/-! the class's constructor: crews and desks one after the other, in a list that grows -/
theorem join_last {D : va_G} {A : Nat → Prop} {P w1 : va_W} {x : Nat × va_E} {H H1 : Heap} (hP : va_P D vcl (P ++ [x]) H) (hD : va_D A (P ++ [x])) (hk : ∀ q : Nat, q < H.size → ¬ va_A [x] H.size q → H1[q]? = H[q]?) (hF : ∀ q, va_A [x] H.size q → A q) (hP1 : va_P D vcl w1 H1) (hD1 : va_D (va_A [x] H.size) w1) : va_P D vcl (P ++ w1) H1 ∧ va_D A (P ++ w1) := by
  have hx : (P ++ [x])[P.length]? = some x := by simp
  have hl : ∀ (k : Nat) (q : Nat × va_E), P[k]? = some q → (P ++ [x])[k]? = some q := fun k q hq => by
    rw [List.getElem?_append_left (List.getElem?_eq_some_iff.mp hq).1]; exact hq
  have ap : ∀ (k : Nat) (q : Nat × va_E), P[k]? = some q → q.1 < H.size ∧ ¬ va_A [x] H.size q.1 := by
    intro k q hq
    have h1 := hl k q hq
    refine ⟨(hP k q h1).lt, fun h => ?_⟩
    rcases h with ⟨j, e, h⟩ | h
    · have hj : j = 0 := by
        have := (List.getElem?_eq_some_iff.mp h).1
        simp at this; exact this
      subst hj
      have hxe : x = (q.1, e) := Option.some.inj h
      have := hD.1 k P.length q x h1 hx (by rw [hxe])
      have h2 := (List.getElem?_eq_some_iff.mp hq).1
      omega
    · have := (hP k q h1).lt; omega
  refine ⟨va_P.app (fun k q hq => ?_) hP1, va_D.app ⟨fun i j p q hp hq he => hD.1 i j p q (hl i p hp) (hl j q hq) he, fun k q hq => hD.2 k q (hl k q hq)⟩ (hD1.weaken (fun k q _ h => hF q.1 h)) (fun i j p q hp hq he => ?_)⟩
  · obtain ⟨g1, g2⟩ := ap k q hq
    exact (hP k q (hl k q hq)).kept (hk q.1 g1 g2)
  · exact (ap i p hp).2 (by rw [he]; exact hD1.2 j q hq)
theorem last_P {D : va_G} {P : va_W} {x : Nat × va_E} {H : Heap} (hP : va_P D vcl (P ++ [x]) H) : va_P D vcl [x] H := fun k q hq => by
  have hk : k = 0 := by
    have := (List.getElem?_eq_some_iff.mp hq).1
    simp at this; exact this
  subst hk
  exact hP P.length q (by rw [List.getElem?_append_right (Nat.le_refl _), Nat.sub_self]; exact hq)
theorem last_D {A : Nat → Prop} {P : va_W} {x : Nat × va_E} (hD : va_D A (P ++ [x])) : va_D (fun _ => True) [x] := by
  refine ⟨fun i j p q hp hq _ => ?_, fun _ _ _ => trivial⟩
  have h1 := (List.getElem?_eq_some_iff.mp hp).1
  have h2 := (List.getElem?_eq_some_iff.mp hq).1
  simp at h1 h2
  omega
theorem last_F {A : Nat → Prop} {P : va_W} {x : Nat × va_E} {H0 H : Heap} {locs : List Loc} (hD : va_D A (P ++ [x])) (hS : va_S A H0 H locs) (hA : ∀ q, H0.size ≤ q → A q) : ∀ q, va_A [x] H.size q → A q := by
  intro q h
  rcases h with ⟨j, e, h⟩ | h
  · have hj : j = 0 := by
      have := (List.getElem?_eq_some_iff.mp h).1
      simp at this; exact this
    subst hj
    have hxe : x = (q, e) := Option.some.inj h
    have := hD.2 P.length x (by simp)
    rw [hxe] at this; exact this
  · exact hA q (Nat.le_trans hS.1 h)
theorem kc_obj {D : va_G} {tys tys2 : List (ClassId × FieldType)} {s : State} {cA cC : ClassId} {C : String} (h2 : va_K D vcl (tys2 ++ [(cA, .object C)]) s) (h : va_K D vcl tys s) (k0 : Nat) (hk0 : tys[k0]? = some (cC, .object C)) : cA = cC := by
  have a := (h2.2 tys2.length (cA, .object C) (by rw [List.getElem?_append_right (Nat.le_refl _), Nat.sub_self]; rfl)).2
  have b := (h.2 k0 (cC, .object C) hk0).2
  obtain ⟨_, _, _, _, _, a⟩ := a
  obtain ⟨_, _, _, _, _, b⟩ := b
  exact Option.some.inj (a.symm.trans b)
def gE (u : Nat → Nat) (cI : ClassId) (n : Nat) : Nat → va_E := fun r =>
  if r % 4 = 0 then .inr (0, [.ref (u (r + 1)), .ref (u (r + 2)), .int (nI 0), .int (-1), .int (nI 0), .int (nI 0)])
  else if r % 4 = 1 then .inl (cI, n, .inl (fun _ => 0)) else if r % 4 = 2 then .inl (cI, n, .inl (fun _ => 0)) else .inr (1, [.int (nI 0), .int (-1), .int (nI 0)])
def fbk (k : Nat) (u : Nat → Nat) (o : Nat) : Nat → Option Nat := fun i => if i < k then some (u (4 * i + o)) else none
def wl3 (h0 qc qd : Nat) (cC cD : ClassId) (n : Nat) (fs : List Value) (fb fd : Nat → Option Nat) (G : va_W) : va_W :=
  (h0, .inr (3, fs)) :: (qc, .inl (cC, n, .inr (.inr (.inr (.inr fb))))) :: (qd, .inl (cD, n, .inr (.inr (.inr (.inr fd))))) :: G
def u4 (u : Nat → Nat) (k a b c d : Nat) : Nat → Nat := va_up (va_up (va_up (va_up u (4 * k) a) (4 * k + 1) b) (4 * k + 2) c) (4 * k + 3) d
theorem u4_lt {u : Nat → Nat} {k a b c d j : Nat} (h : j < 4 * k) : u4 u k a b c d j = u j := by
  unfold u4; rw [va_up_ne _ _ (by omega), va_up_ne _ _ (by omega), va_up_ne _ _ (by omega), va_up_ne _ _ (by omega)]
theorem u4_0 {u : Nat → Nat} {k a b c d : Nat} : u4 u k a b c d (4 * k) = a := by
  unfold u4; rw [va_up_ne _ _ (by omega), va_up_ne _ _ (by omega), va_up_ne _ _ (by omega), va_up_self]
theorem u4_1 {u : Nat → Nat} {k a b c d : Nat} : u4 u k a b c d (4 * k + 1) = b := by
  unfold u4; rw [va_up_ne _ _ (by omega), va_up_ne _ _ (by omega), va_up_self]
theorem u4_2 {u : Nat → Nat} {k a b c d : Nat} : u4 u k a b c d (4 * k + 2) = c := by
  unfold u4; rw [va_up_ne _ _ (by omega), va_up_self]
theorem u4_3 {u : Nat → Nat} {k a b c d : Nat} : u4 u k a b c d (4 * k + 3) = d := by
  unfold u4; rw [va_up_self]
theorem grow4 (u : Nat → Nat) (cI : ClassId) (n k a b c d : Nat) :
    rlw u (gE u cI n) (4 * k) ++ [(a, .inr (0, [.ref b, .ref c, .int (nI 0), .int (-1), .int (nI 0), .int (nI 0)])), (b, .inl (cI, n, .inl (fun _ => 0))), (c, .inl (cI, n, .inl (fun _ => 0))), (d, .inr (1, [.int (nI 0), .int (-1), .int (nI 0)]))] = rlw (u4 u k a b c d) (gE (u4 u k a b c d) cI n) (4 * (k + 1)) := by
  apply List.ext_getElem?
  intro j
  by_cases h : j < 4 * k
  · rw [List.getElem?_append_left (by rw [rlw_len]; exact h), rlw_at h, rlw_at (by omega), u4_lt h]
    have e : gE u cI n j = gE (u4 u k a b c d) cI n j := by
      unfold gE
      by_cases h0 : j % 4 = 0
      · rw [if_pos h0, if_pos h0, u4_lt (by omega), u4_lt (by omega)]
      · rw [if_neg h0, if_neg h0]
    rw [e]
  · rw [List.getElem?_append_right (by rw [rlw_len]; omega), rlw_len]
    by_cases h4 : j < 4 * k + 4
    · rcases (show j = 4 * k ∨ j = 4 * k + 1 ∨ j = 4 * k + 2 ∨ j = 4 * k + 3 by omega) with e | e | e | e
      · subst e
        rw [Nat.sub_self, rlw_at (by omega), u4_0]
        have : gE (u4 u k a b c d) cI n (4 * k) = .inr (0, [.ref b, .ref c, .int (nI 0), .int (-1), .int (nI 0), .int (nI 0)]) := by
          unfold gE; rw [if_pos (by omega), u4_1, u4_2]
        rw [this]; rfl
      · subst e
        rw [show 4 * k + 1 - 4 * k = 1 by omega, rlw_at (by omega), u4_1]
        have : gE (u4 u k a b c d) cI n (4 * k + 1) = .inl (cI, n, .inl (fun _ => 0)) := by
          unfold gE; rw [if_neg (by omega), if_pos (by omega)]
        rw [this]; rfl
      · subst e
        rw [show 4 * k + 2 - 4 * k = 2 by omega, rlw_at (by omega), u4_2]
        have : gE (u4 u k a b c d) cI n (4 * k + 2) = .inl (cI, n, .inl (fun _ => 0)) := by
          unfold gE; rw [if_neg (by omega), if_neg (by omega), if_pos (by omega)]
        rw [this]; rfl
      · subst e
        rw [show 4 * k + 3 - 4 * k = 3 by omega, rlw_at (by omega), u4_3]
        have : gE (u4 u k a b c d) cI n (4 * k + 3) = .inr (1, [.int (nI 0), .int (-1), .int (nI 0)]) := by
          unfold gE; rw [if_neg (by omega), if_neg (by omega), if_neg (by omega)]
        rw [this]; rfl
    · rw [List.getElem?_eq_none (by simp; omega), List.getElem?_eq_none (by rw [rlw_len]; omega)]
theorem fbk_s {u : Nat → Nat} {k a b c d o q : Nat} (ho : o < 4) (hq : u4 u k a b c d (4 * k + o) = q) : va_up (fbk k u o) k (some q) = fbk (k + 1) (u4 u k a b c d) o := by
  funext i
  unfold fbk
  by_cases e : i = k
  · subst e; rw [va_up_self, if_pos (by omega), hq]
  · rw [va_up_ne _ _ e]
    by_cases h : i < k
    · rw [if_pos h, if_pos (by omega), u4_lt (by omega)]
    · rw [if_neg h, if_neg (by omega)]
theorem fbk_0 (u : Nat → Nat) (o : Nat) : fbk 0 u o = fun _ => none := by funext i; unfold fbk; rw [if_neg (by omega)]
def adC (h0 qc qd qp qm qs : Nat) (u : Nat → Nat) : Nat → Nat := fun r => match r with
  | 0 => h0
  | 1 => qc
  | 2 => qd
  | 3 => qp
  | 4 => qm
  | 5 => qs
  | r + 6 => u r
def piC (n r : Nat) : Nat := if r < 3 then r else if r < 6 then r + 4 * n else r - 3
theorem reord {h0 qc qd qp qm qs n ph : Nat} {u : Nat → Nat} {cI cC cD : ClassId} {ar : Nat → Nat → Int32} (hn : n ≤ 6) (h1 : ∀ j, ar 1 j = 0) (h2 : ∀ j, ar 2 j = 0) (h3 : ∀ j, ar 3 j = nI 0) (h4 : ∀ j, j < 6 → ar 4 j = -1) (h5 : ∀ j, ar 5 j = nI 0) (h6 : ∀ j, ar 6 j = nI 0) (h7 : ∀ j, j < 6 → ar 7 j = -1) (h8 : ∀ j, ar 8 j = nI 0) (h9 : ∀ j, ar 9 j = nI 0) (h10 : ∀ j, ar 10 j = 0) (h11 : ∀ j, ar 11 j = 0) :
    ∀ k, k < 4 * n + 6 → (wl3 h0 qc qd cC cD n [.int (nI n), .ref qc, .ref qd, .ref qp, .ref qs, .int (nI ph)] (fbk n u 0) (fbk n u 3) (rlw u (gE u cI n) (4 * n) ++ [(qp, .inr (2, [.ref qm, .int (nI 0)])), (qm, .inl (cI, 400, .inl (fun _ => 0))), (qs, .inl (cI, 4, .inl (fun _ => 0)))]))[piC n k]? = some (adC h0 qc qd qp qm qs u k, (if k = 1 then .inl (cC, n, .inr (.inr (.inr (.inr (fbk n u 0))))) else if k = 2 then .inl (cD, n, .inr (.inr (.inr (.inr (fbk n u 3))))) else cE (adC h0 qc qd qp qm qs u) cI cC cD n ph 0 ar k)) := by
  have t : ∀ j, (wl3 h0 qc qd cC cD n [.int (nI n), .ref qc, .ref qd, .ref qp, .ref qs, .int (nI ph)] (fbk n u 0) (fbk n u 3) (rlw u (gE u cI n) (4 * n) ++ [(qp, .inr (2, [.ref qm, .int (nI 0)])), (qm, .inl (cI, 400, .inl (fun _ => 0))), (qs, .inl (cI, 4, .inl (fun _ => 0)))]))[j + 3]? = (rlw u (gE u cI n) (4 * n) ++ [(qp, .inr (2, [.ref qm, .int (nI 0)])), (qm, .inl (cI, 400, .inl (fun _ => 0))), (qs, .inl (cI, 4, .inl (fun _ => 0)))])[j]? := fun j => rfl
  have z10 : ar 10 = fun _ => 0 := funext h10
  have z11 : ar 11 = fun _ => 0 := funext h11
  have zr : ∀ k i, (∀ j, ar k j = 0) → row ar k i = fun _ => 0 := fun k i h => by
    funext j; unfold row; split
    · exact h _
    · rfl
  have key : ∀ k, (k < 4 * n + 6 → (wl3 h0 qc qd cC cD n [.int (nI n), .ref qc, .ref qd, .ref qp, .ref qs, .int (nI ph)] (fbk n u 0) (fbk n u 3) (rlw u (gE u cI n) (4 * n) ++ [(qp, .inr (2, [.ref qm, .int (nI 0)])), (qm, .inl (cI, 400, .inl (fun _ => 0))), (qs, .inl (cI, 4, .inl (fun _ => 0)))]))[piC n k]? = some (adC h0 qc qd qp qm qs u k, (if k = 1 then .inl (cC, n, .inr (.inr (.inr (.inr (fbk n u 0))))) else if k = 2 then .inl (cD, n, .inr (.inr (.inr (.inr (fbk n u 3))))) else cE (adC h0 qc qd qp qm qs u) cI cC cD n ph 0 ar k))) := by
    refine cE_cases (fun _ => rfl) (fun _ => rfl) (fun _ => rfl) (fun _ => ?_) (fun _ => ?_) (fun _ => ?_) (fun i h => ?_) (fun i h => ?_) (fun i h => ?_) (fun i h => ?_)
    · rw [show piC n 3 = 4 * n + 3 by unfold piC; rw [if_neg (by omega), if_pos (by omega)]; omega, t, List.getElem?_append_right (by rw [rlw_len]; omega), rlw_len, Nat.sub_self]; rfl
    · rw [show piC n 4 = (4 * n + 1) + 3 by unfold piC; rw [if_neg (by omega), if_pos (by omega)]; omega, t, List.getElem?_append_right (by rw [rlw_len]; omega), rlw_len, show 4 * n + 1 - 4 * n = 1 by omega]
      show some (qm, _) = some (qm, Sum.inl (cI, 400, Sum.inl (ar 10)))
      rw [z10]
    · rw [show piC n 5 = (4 * n + 2) + 3 by unfold piC; rw [if_neg (by omega), if_pos (by omega)]; omega, t, List.getElem?_append_right (by rw [rlw_len]; omega), rlw_len, show 4 * n + 2 - 4 * n = 2 by omega]
      show some (qs, _) = some (qs, Sum.inl (cI, 4, Sum.inl (ar 11)))
      rw [z11]
    · rw [show piC n (4 * i + 6) = 4 * i + 3 by unfold piC; rw [if_neg (by omega), if_neg (by omega)]; omega, t, List.getElem?_append_left (by rw [rlw_len]; omega), rlw_at (by omega), if_neg (by omega), if_neg (by omega), cE_crew, h6, h7 i (by omega), h8, h9]
      unfold gE; rw [if_pos (by omega)]; rfl
    · rw [show piC n (4 * i + 7) = (4 * i + 1) + 3 by unfold piC; rw [if_neg (by omega), if_neg (by omega)]; omega, t, List.getElem?_append_left (by rw [rlw_len]; omega), rlw_at (by omega), if_neg (by omega), if_neg (by omega), cE_wr, zr 1 i h1]
      unfold gE; rw [if_neg (by omega), if_pos (by omega)]; rfl
    · rw [show piC n (4 * i + 8) = (4 * i + 2) + 3 by unfold piC; rw [if_neg (by omega), if_neg (by omega)]; omega, t, List.getElem?_append_left (by rw [rlw_len]; omega), rlw_at (by omega), if_neg (by omega), if_neg (by omega), cE_kn, zr 2 i h2]
      unfold gE; rw [if_neg (by omega), if_neg (by omega), if_pos (by omega)]; rfl
    · rw [show piC n (4 * i + 9) = (4 * i + 3) + 3 by unfold piC; rw [if_neg (by omega), if_neg (by omega)]; omega, t, List.getElem?_append_left (by rw [rlw_len]; omega), rlw_at (by omega), if_neg (by omega), if_neg (by omega), cE_desk, h3, h4 i (by omega), h5]
      unfold gE; rw [if_neg (by omega), if_neg (by omega), if_neg (by omega)]; rfl
  exact key
