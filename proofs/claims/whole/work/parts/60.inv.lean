/-! the invariant of the state that the class and the model share -/
def CI (s g : Nat → Int32) (n : Nat) : Prop := ∀ c, c < n → (s c = 0 ∧ g c = -1) ∨ ((s c = 1 ∨ s c = 2) ∧ ∃ t, t < n ∧ g c = nI t)
def DI (h : Nat → Int32) (n : Nat) : Prop := ∀ j, j < n → h j = -1 ∨ ∃ c, c < n ∧ h j = nI c
def LI (f : Nat → Int32) (n mn : Nat) : Prop := ∀ k, k < mn → (∃ c, c < n ∧ f (5 * k + 1) = nI c) ∧ ∃ j, j < n ∧ f (5 * k + 2) = nI j
def KI (b : Nat → Int32) (x : Int32) (n t : Nat) : Prop := ∃ K, K ≤ t ∧ x = nI K ∧ (0 < K ↔ ∃ c, c < n ∧ 0 < b c) ∧ ∀ c, c < n → ∃ v, v ≤ K ∧ b c = nI v
/-- the bids among the first letters -/
def bd (f : Nat → Int32) : Nat → Nat
  | 0 => 0
  | k + 1 => bd f k + (if f (5 * k) = 0 then 1 else 0)
def InvS (n ph mn : Nat) (ar : Nat → Nat → Int32) (t S : Nat) : Prop := 2 ≤ n ∧ n ≤ 6 ∧ ph ≤ 3 ∧ CI (ar 6) (ar 7) n ∧ DI (ar 4) n ∧ LI (ar 10) n mn ∧ mn + bd (ar 10) mn ≤ S ∧ KI (ar 8) (ar 11 0) n t
theorem CI_set {s g : Nat → Int32} {n c t : Nat} {v : Int32} (h : CI s g n) (ht : t < n) (hv : v = 1 ∨ v = 2) : CI (upd s c v) (upd g c (nI t)) n := fun c' hc' => by
  by_cases e : c' = c
  · subst e; simp only [upd, if_true]; exact Or.inr ⟨hv, t, ht, rfl⟩
  · simp only [upd, if_neg e]; exact h c' hc'
theorem CI_clr {s g : Nat → Int32} {n c : Nat} (h : CI s g n) : CI (upd s c (nI 0)) (upd g c (-1)) n := fun c' hc' => by
  by_cases e : c' = c
  · subst e; simp only [upd, if_true]; exact Or.inl ⟨nI_0, trivial⟩
  · simp only [upd, if_neg e]; exact h c' hc'
theorem CI_win {s g : Nat → Int32} {n c : Nat} (h : CI s g n) : CI (upd s c (if s c = nI 1 then nI 2 else s c)) g n := fun c' hc' => by
  by_cases e : c' = c
  · subst e; simp only [upd, if_true]
    rcases h c' hc' with ⟨h1, h2⟩ | ⟨h1, h2⟩
    · refine Or.inl ⟨?_, h2⟩
      rw [h1, if_neg (by decide)]
    · refine Or.inr ⟨?_, h2⟩
      rcases h1 with h1 | h1
      · rw [h1, if_pos (by decide)]; exact Or.inr (by decide)
      · rw [h1, if_neg (by decide)]; exact Or.inr rfl
  · simp only [upd, if_neg e]; exact h c' hc'
theorem CI_fz {s g : Nat → Int32} {n : Nat} (hn : n ≤ 6) : CI (fz s 6 (nI 0)) (fz g 6 (-1)) n := fun c hc => by
  have : c < 6 := by omega
  simp only [fz, if_pos this]; exact Or.inl ⟨nI_0, trivial⟩
theorem DI_set {h : Nat → Int32} {n c j : Nat} (hd : DI h n) (hc : c < n) : DI (upd h j (nI c)) n := fun j' hj' => by
  by_cases e : j' = j
  · subst e; simp only [upd, if_true]; exact Or.inr ⟨c, hc, rfl⟩
  · simp only [upd, if_neg e]; exact hd j' hj'
theorem DI_clr {h : Nat → Int32} {n j : Nat} (hd : DI h n) : DI (upd h j (-1)) n := fun j' hj' => by
  by_cases e : j' = j
  · subst e; simp only [upd, if_true]; exact Or.inl trivial
  · simp only [upd, if_neg e]; exact hd j' hj'
theorem DI_fz {h : Nat → Int32} {n : Nat} (hn : n ≤ 6) : DI (fz h 6 (-1)) n := fun c hc => by
  have : c < 6 := by omega
  simp only [fz, if_pos this]; exact Or.inl trivial
theorem dr_lo {f : Nat → Int32} {i m k r : Nat} (hr : r < 5) (h : k < i) : dr f (5 * i) m (5 * k + r) = f (5 * k + r) := by
  unfold dr; rw [if_neg (by omega)]
theorem dr_hi {f : Nat → Int32} {i m k r : Nat} (hr : r < 5) (h : i ≤ k) (h2 : k < m) : dr f (5 * i) (5 * m) (5 * k + r) = f (5 * (k + 1) + r) := by
  unfold dr; rw [if_pos (by omega)]; congr 1; omega
theorem LI_dr {f : Nat → Int32} {n mn i : Nat} (h : LI f n mn) : LI (dr f (5 * i) (5 * (mn - 1))) n (mn - 1) := fun k hk => by
  by_cases e : k < i
  · rw [dr_lo (by omega) e, dr_lo (by omega) e]; exact h k (by omega)
  · rw [dr_hi (by omega) (by omega) hk, dr_hi (by omega) (by omega) hk]; exact h (k + 1) (by omega)
theorem put5_lo {f : Nat → Int32} {m k r : Nat} {a b c d e : Int32} (hr : r < 5) (h : k < m) : put5 f (5 * m) a b c d e (5 * k + r) = f (5 * k + r) := by
  unfold put5 upd
  rw [if_neg (by omega), if_neg (by omega), if_neg (by omega), if_neg (by omega), if_neg (by omega)]
theorem put5_0 {f : Nat → Int32} {m : Nat} {a b c d e : Int32} : put5 f (5 * m) a b c d e (5 * m) = a := by
  unfold put5 upd
  rw [if_neg (by omega), if_neg (by omega), if_neg (by omega), if_neg (by omega), if_pos rfl]
theorem put5_1 {f : Nat → Int32} {m : Nat} {a b c d e : Int32} : put5 f (5 * m) a b c d e (5 * m + 1) = b := by
  unfold put5 upd
  rw [if_neg (by omega), if_neg (by omega), if_neg (by omega), if_pos rfl]
theorem put5_2 {f : Nat → Int32} {m : Nat} {a b c d e : Int32} : put5 f (5 * m) a b c d e (5 * m + 2) = c := by
  unfold put5 upd
  rw [if_neg (by omega), if_neg (by omega), if_pos rfl]
theorem LI_put {f : Nat → Int32} {n mn : Nat} {a b c d e : Int32} (h : LI f n mn) (hb : ∃ q, q < n ∧ b = nI q) (hc : ∃ q, q < n ∧ c = nI q) : LI (put5 f (5 * mn) a b c d e) n (mn + 1) := fun k hk => by
  by_cases q : k = mn
  · subst q; rw [put5_1, put5_2]; exact ⟨hb, hc⟩
  · rw [put5_lo (by omega) (by omega), put5_lo (by omega) (by omega)]; exact h k (by omega)
theorem bd_le (f : Nat → Int32) : ∀ k, bd f k ≤ k
  | 0 => Nat.le_refl 0
  | k + 1 => by
    have := bd_le f k
    unfold bd
    split <;> omega
theorem bd_congr {f g : Nat → Int32} : ∀ k, (∀ j, j < k → f (5 * j) = g (5 * j)) → bd f k = bd g k
  | 0, _ => rfl
  | k + 1, h => by
    unfold bd
    rw [bd_congr k (fun j hj => h j (by omega)), h k (by omega)]
theorem bd_dr_hi {f : Nat → Int32} {i m : Nat} : ∀ k, i ≤ k → k ≤ m → bd (dr f (5 * i) (5 * m)) k + (if f (5 * i) = 0 then 1 else 0) = bd f (k + 1) := by
  intro k
  induction k with
  | zero =>
    intro h1 _
    have : i = 0 := by omega
    subst this
    simp [bd]
  | succ k ih =>
    intro h1 h2
    by_cases e : i = k + 1
    · subst e
      have h3 : bd (dr f (5 * (k + 1)) (5 * m)) (k + 1) = bd f (k + 1) := bd_congr (k + 1) (fun j hj => dr_lo (r := 0) (by omega) hj)
      rw [h3]
      rfl
    · have h3 := ih (by omega) (by omega)
      have h4 : dr f (5 * i) (5 * m) (5 * k) = f (5 * (k + 1)) := dr_hi (r := 0) (by omega) (by omega) (by omega)
      show bd (dr f (5 * i) (5 * m)) k + (if dr f (5 * i) (5 * m) (5 * k) = 0 then 1 else 0) + _ = bd f (k + 1) + (if f (5 * (k + 1)) = 0 then 1 else 0)
      rw [h4]
      omega
theorem bd_dr {f : Nat → Int32} {i mn : Nat} (h : i < mn) : bd (dr f (5 * i) (5 * (mn - 1))) (mn - 1) + (if f (5 * i) = 0 then 1 else 0) = bd f mn := by
  have := bd_dr_hi (f := f) (i := i) (m := mn - 1) (mn - 1) (by omega) (by omega)
  rw [show mn - 1 + 1 = mn by omega] at this
  exact this
theorem bd_put {f : Nat → Int32} {mn : Nat} {a b c d e : Int32} : bd (put5 f (5 * mn) a b c d e) (mn + 1) = bd f mn + (if a = 0 then 1 else 0) := by
  show bd (put5 f (5 * mn) a b c d e) mn + (if put5 f (5 * mn) a b c d e (5 * mn) = 0 then 1 else 0) = _
  rw [put5_0, bd_congr mn (fun j hj => put5_lo (r := 0) (by omega) hj)]
theorem KI_mono {b : Nat → Int32} {x : Int32} {n t t' : Nat} (h : KI b x n t) (ht : t ≤ t') : KI b x n t' := by
  obtain ⟨K, h1, h2⟩ := h
  exact ⟨K, Nat.le_trans h1 ht, h2⟩
theorem nI_gt0 {v : Nat} (h : v < 2 ^ 31) : 0 < nI v ↔ 0 < v := by
  rw [← nI_0]; exact nI_ltI (by omega) h
theorem KI_act {b : Nat → Int32} {x : Int32} {n t c : Nat} (h : KI b x n t) (hc : c < n) (ht : t < 2 ^ 30) : KI (upd b c (b c + nI 1)) (x + nI 1) n (t + 1) := by
  obtain ⟨K, h1, h2, h3, h4⟩ := h
  refine ⟨K + 1, by omega, by rw [h2]; exact nI_1 K, ⟨fun _ => ?_, fun _ => by omega⟩, fun c' hc' => ?_⟩
  · obtain ⟨v, hv, e⟩ := h4 c hc
    refine ⟨c, hc, ?_⟩
    simp only [upd, if_true]
    rw [e, show nI v + nI 1 = nI (v + 1) from nI_1 v]
    exact (nI_gt0 (by omega)).mpr (by omega)
  · by_cases q : c' = c
    · subst q
      obtain ⟨v, hv, e⟩ := h4 c' hc
      refine ⟨v + 1, by omega, ?_⟩
      simp only [upd, if_true]
      rw [e]; exact nI_1 v
    · obtain ⟨v, hv, e⟩ := h4 c' hc'
      refine ⟨v, by omega, ?_⟩
      simp only [upd, if_neg q]; exact e
theorem KI_pos {b : Nat → Int32} {x : Int32} {n t : Nat} (h : KI b x n t) (ht : t < 2 ^ 30) : 0 < x ↔ ∃ c, c < n ∧ 0 < b c := by
  obtain ⟨K, h1, h2, h3, -⟩ := h
  rw [h2, ← h3]; exact nI_gt0 (by omega)
section IV
variable {n ph mn t S : Nat} {ar : Nat → Nat → Int32}
theorem iv_mono {t' S' : Nat} (h : InvS n ph mn ar t S) (ht : t ≤ t') (hS : S ≤ S') : InvS n ph mn ar t' S' := by
  obtain ⟨h1, h2, h3, h4, h5, h6, h7, h8⟩ := h
  exact ⟨h1, h2, h3, h4, h5, h6, Nat.le_trans h7 hS, KI_mono h8 ht⟩
theorem iv_drop {i : Nat} (h : InvS n ph mn ar t S) (hi : i < mn) : InvS n ph (mn - 1) (va_up ar 10 (dr (ar 10) (5 * i) (5 * (mn - 1)))) t S := by
  obtain ⟨h1, h2, h3, h4, h5, h6, h7, h8⟩ := h
  have hb := bd_dr (f := ar 10) hi
  refine ⟨h1, h2, h3, h4, h5, LI_dr h6, ?_, h8⟩
  show mn - 1 + bd (dr (ar 10) (5 * i) (5 * (mn - 1))) (mn - 1) ≤ S
  split at hb <;> omega
theorem iv_dropb {i : Nat} (h : InvS n ph mn ar t 80) (hi : i < mn) (hk : ar 10 (5 * i) = 0) : InvS n ph (mn - 1) (va_up ar 10 (dr (ar 10) (5 * i) (5 * (mn - 1)))) t 78 := by
  obtain ⟨h1, h2, h3, h4, h5, h6, h7, h8⟩ := h
  have hb := bd_dr (f := ar 10) hi
  rw [if_pos hk] at hb
  refine ⟨h1, h2, h3, h4, h5, LI_dr h6, ?_, h8⟩
  show mn - 1 + bd (dr (ar 10) (5 * i) (5 * (mn - 1))) (mn - 1) ≤ 78
  omega
theorem iv_79 {i : Nat} (h : InvS n ph mn ar t 80) (hi : i < mn) (hk : ar 10 (5 * i) = 0) : mn ≤ 79 := by
  have hb := bd_dr (f := ar 10) hi
  rw [if_pos hk] at hb
  have := h.2.2.2.2.2.2.1
  omega
theorem iv_80 (h : InvS n ph mn ar t 80) : mn ≤ 80 := by
  have := h.2.2.2.2.2.2.1
  omega
theorem iv_put {a b c d e : Int32} (h : InvS n ph mn ar t 80) (hm : mn ≤ 39) (hb : ∃ q, q < n ∧ b = nI q) (hc : ∃ q, q < n ∧ c = nI q) : InvS n ph (mn + 1) (va_up ar 10 (put5 (ar 10) (5 * mn) a b c d e)) t 80 := by
  obtain ⟨h1, h2, h3, h4, h5, h6, h7, h8⟩ := h
  refine ⟨h1, h2, h3, h4, h5, LI_put h6 hb hc, ?_, h8⟩
  have q := bd_put (f := ar 10) (mn := mn) (a := a) (b := b) (c := c) (d := d) (e := e)
  have q2 := bd_le (ar 10) mn
  show mn + 1 + bd (put5 (ar 10) (5 * mn) a b c d e) (mn + 1) ≤ 80
  split at q <;> omega
theorem iv_snd {kd : Nat} {x2 x3 x4 x5 : Int32} (h : InvS n ph mn ar t S) (hk : 0 < kd) (hk4 : kd < 4) (hb : ∃ q, q < n ∧ x2 = nI q) (hc : ∃ q, q < n ∧ x3 = nI q) : InvS n ph (sndA kd x2 x3 x4 x5 (mn, ar)).1 (sndA kd x2 x3 x4 x5 (mn, ar)).2 t (S + 1) := by
  obtain ⟨h1, h2, h3, h4, h5, h6, h7, h8⟩ := h
  have h11 : (sndA kd x2 x3 x4 x5 (mn, ar)).2 11 0 = ar 11 0 := by
    show upd (ar 11) kd (ar 11 kd + nI 1) 0 = ar 11 0
    unfold upd; rw [if_neg (by omega)]
  refine ⟨h1, h2, h3, h4, h5, LI_put h6 hb hc, ?_, ?_⟩
  · have q := bd_put (f := ar 10) (mn := mn) (a := nI kd) (b := x2) (c := x3) (d := x4) (e := x5)
    rw [if_neg (fun z => by
      have z2 : nI kd = nI 0 := z.trans nI_0.symm
      have z3 : kd = 0 := (nI_eq (by omega) (by omega)).mp z2
      omega)] at q
    show mn + 1 + bd (put5 (ar 10) (5 * mn) (nI kd) x2 x3 x4 x5) (mn + 1) ≤ S + 1
    omega
  · rw [h11]; exact h8
theorem iv_desk {c j : Nat} {f g : Nat → Int32} (h : InvS n ph mn ar t S) (hc : c < n) : InvS n ph mn (va_up (va_up (va_up ar 3 f) 4 (upd (ar 4) j (nI c))) 5 g) t S := by
  obtain ⟨h1, h2, h3, h4, h5, h6, h7, h8⟩ := h
  exact ⟨h1, h2, h3, h4, DI_set h5 hc, h6, h7, h8⟩
theorem iv_price {f : Nat → Int32} (h : InvS n ph mn ar t S) : InvS n ph mn (va_up ar 3 f) t S := h
theorem iv_desk2 {c j : Nat} {g : Nat → Int32} (h : InvS n ph mn ar t S) (hc : c < n) : InvS n ph mn (va_up (va_up ar 4 (upd (ar 4) j (nI c))) 5 g) t S := by
  obtain ⟨h1, h2, h3, h4, h5, h6, h7, h8⟩ := h
  exact ⟨h1, h2, h3, h4, DI_set h5 hc, h6, h7, h8⟩
theorem iv_bid {st b a : Int32} {c j : Nat} (h : InvS n ph mn ar t 78) (hc : c < n) (hj : j < n) : InvS n ph (bidC st mn ar c j b a).1 (bidC st mn ar c j b a).2 t 80 := by
  have ec : ∃ q, q < n ∧ nI c = nI q := ⟨c, hc, rfl⟩
  have ej : ∃ q, q < n ∧ nI j = nI q := ⟨j, hj, rfl⟩
  by_cases q1 : ar 4 j = nI c ∧ ar 5 j = b
  · rw [bidC_1 q1.1 q1.2]
    exact iv_mono (iv_snd h (by omega) (by omega) ec ej) (Nat.le_refl _) (by omega)
  · by_cases q2 : ar 3 j + st ≤ a
    · by_cases q3 : ar 4 j = -1
      · rw [bidC_3 q1 q2 q3]
        exact iv_mono (iv_snd (iv_desk h hc) (by omega) (by omega) ec ej) (Nat.le_refl _) (by omega)
      · rw [bidC_4 q1 q2 q3]
        have eh : ∃ q, q < n ∧ ar 4 j = nI q := (h.2.2.2.2.1 j hj).resolve_left q3
        have h9 := iv_snd (kd := 3) (x2 := ar 4 j) (x3 := nI j) (x4 := ar 5 j) (x5 := a) (iv_price (f := upd (ar 3) j a) h) (by omega) (by omega) eh ej
        exact iv_snd (S := 79) (iv_desk2 h9 hc) (by omega) (by omega) ec ej
    · rw [bidC_2 q1 q2]
      exact iv_mono (iv_snd h (by omega) (by omega) ec ej) (Nat.le_refl _) (by omega)
theorem iv_ans {kd b a : Int32} {c j : Nat} (h : InvS n ph mn ar t S) : InvS n ph mn (ansC ar kd c j b a) t S := by
  have h0 : InvS n ph mn (knw ar c j a) t S := h
  by_cases q1 : b = ar 8 c
  · by_cases q2 : kd = nI 1
    · rw [ansC_1 q1 q2]
      obtain ⟨h1, h2, h3, h4, h5, h6, h7, h8⟩ := h
      exact ⟨h1, h2, h3, CI_win h4, h5, h6, h7, h8⟩
    · rw [ansC_2 q1 q2]
      obtain ⟨h1, h2, h3, h4, h5, h6, h7, h8⟩ := h
      exact ⟨h1, h2, h3, CI_clr h4, h5, h6, h7, h8⟩
  · rw [ansC_0 q1]; exact h0
theorem iv_act {c b : Nat} {x y z : Int32} {g : Nat → Int32} (h : InvS n ph mn ar t 80) (hc : c < n) (hb : b < n) (hm : mn ≤ 39) (ht : t < 2 ^ 30) :
    InvS n ph (mn + 1) (va_up (va_up (va_up (va_up (va_up (va_up ar 6 (upd (ar 6) c (nI 1))) 7 (upd (ar 7) c (nI b))) 8 (upd (ar 8) c (ar 8 c + nI 1))) 9 g) 10 (put5 (ar 10) (5 * mn) x (nI c) (nI b) y z)) 11 (upd (ar 11) 0 (ar 11 0 + nI 1))) (t + 1) 80 := by
  have hp := iv_put (a := x) (b := nI c) (c := nI b) (d := y) (e := z) h hm ⟨c, hc, rfl⟩ ⟨b, hb, rfl⟩
  obtain ⟨h1, h2, h3, h4, h5, h6, h7, h8⟩ := hp
  exact ⟨h1, h2, h3, CI_set h4 hb (Or.inl (by decide)), h5, h6, h7, KI_act h8 hc ht⟩
theorem iv_phase (h : InvS n ph mn ar t S) (hp : ph < 3) : InvS n (ph + 1) 0 (clA ar 6) t S := by
  obtain ⟨h1, h2, h3, h4, h5, h6, h7, h8⟩ := h
  exact ⟨h1, h2, by omega, CI_fz h2, DI_fz h2, fun k hk => absurd hk (Nat.not_lt_zero k), Nat.zero_le _, h8⟩
theorem iv_worth0 {g : Nat → Int32} (h : InvS n ph mn ar t S) : InvS n ph mn (va_up ar 1 g) t S := h
theorem iv_worth1 {g g5 : Nat → Int32} {c j : Nat} (h : InvS n ph mn ar t S) : InvS n ph 0 (va_up (va_up (va_up (va_up (va_up ar 1 g) 4 (upd (ar 4) j (-1))) 5 g5) 6 (upd (ar 6) c (nI 0))) 7 (upd (ar 7) c (-1))) t S := by
  obtain ⟨h1, h2, h3, h4, h5, h6, h7, h8⟩ := h
  exact ⟨h1, h2, h3, CI_clr h4, DI_clr h5, fun k hk => absurd hk (Nat.not_lt_zero k), Nat.zero_le _, h8⟩
theorem iv_okS {c : Nat} (h : InvS n ph mn ar t S) (hc : c < n) : okS ar c := by
  rcases h.2.2.2.1 c hc with ⟨q1, q2⟩ | ⟨q1, q2⟩
  · exact ⟨fun _ => q2, Or.inl q1⟩
  · refine ⟨fun z => ?_, Or.inr q1⟩
    rcases q1 with q | q <;> rw [q] at z <;> exact absurd z (by decide)
theorem iv_HTn (h : InvS n ph mn ar t S) : HTn ar n := fun c hc h2 => by
  rcases h.2.2.2.1 c hc with ⟨q1, q2⟩ | ⟨q1, q2⟩
  · rw [q1] at h2; exact absurd h2 (by decide)
  · exact q2
theorem iv_tg {c : Nat} (h : InvS n ph mn ar t S) (hc : c < n) (h0 : ¬ ar 6 c = 0) : ∃ t, t < n ∧ ar 7 c = nI t := by
  rcases h.2.2.2.1 c hc with ⟨q1, q2⟩ | ⟨q1, q2⟩
  · exact absurd q1 h0
  · exact q2
theorem iv_SB (h : InvS n ph mn ar t S) (ht : t < 2 ^ 30) : 0 < ar 11 0 ↔ SB ar n := KI_pos h.2.2.2.2.2.2.2 ht
end IV
theorem iv_init {n ph : Nat} {ar : Nat → Nat → Int32} (hn : 2 ≤ n) (hn6 : n ≤ 6) (hp : ph ≤ 3) (ha : okAr ar) : InvS n ph 0 ar 0 80 := by
  obtain ⟨-, -, -, h4, -, h6, h7, h8, -, -, h11⟩ := ha
  refine ⟨hn, hn6, hp, fun c hc => Or.inl ⟨(h6 c).trans nI_0, h7 c (by omega)⟩, fun j hj => Or.inl (h4 j (by omega)), fun k hk => absurd hk (Nat.not_lt_zero k), Nat.zero_le _, 0, Nat.le_refl _, (h11 0).trans nI_0.symm, ⟨fun h => absurd h (Nat.lt_irrefl 0), fun ⟨c, _, h⟩ => ?_⟩, fun c _ => ⟨0, Nat.le_refl _, h8 c⟩⟩
  rw [h8 c] at h
  exact (nI_gt0 (by omega)).mp h
theorem stp_3 {ph : Nat} (h : ph ≤ 3) : stp ph = nI 1 ↔ ph = 3 := by
  match ph, h with
  | 0, _ => decide
  | 1, _ => decide
  | 2, _ => decide
  | 3, _ => decide
theorem stp_4 {ph : Nat} (h : ph < 3) : stp ph / nI 4 = stp (ph + 1) := by
  match ph, h with
  | 0, _ => decide
  | 1, _ => decide
  | 2, _ => decide
/-- an index is none of the first n, or one of them -/
theorem idx_or (x : Int32) {n : Nat} (hn : n < 2 ^ 31) : (x < 0 ∨ nI n ≤ x) ∨ ∃ c, c < n ∧ x = nI c := by
  by_cases h : x < 0 ∨ nI n ≤ x
  · exact Or.inl h
  · refine Or.inr ⟨x.toNatClampNeg, ?_⟩
    have h1 : ¬ x < 0 := fun q => h (Or.inl q)
    have h2 : ¬ nI n ≤ x := fun q => h (Or.inr q)
    rw [Int32.lt_iff_toInt_lt] at h1
    rw [Int32.le_iff_toInt_le, nI_toInt hn] at h2
    have h0 : (0 : Int32).toInt = 0 := rfl
    rw [h0] at h1
    have h3 : (x.toNatClampNeg : Int) = x.toInt := by
      show ((x.toInt).toNat : Int) = x.toInt
      omega
    refine ⟨by omega, ?_⟩
    apply Int32.toInt_inj.mp
    rw [nI_toInt (by omega), h3]
theorem not_idx {c n : Nat} (hc : c < n) (hn : n < 2 ^ 31) : ¬ (nI c < 0 ∨ nI n ≤ nI c) := by
  rintro (h | h)
  · exact absurd h (nI_pos (by omega))
  · have := (nI_leI hn (by omega)).mp h
    omega
