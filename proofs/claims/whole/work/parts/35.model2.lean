/-! ===== the other way round: halves of the weights and all of them ===== -/
theorem q_neg : ∀ n, n < 343 → (342 - n) / 49 + n / 49 = 6 ∧ (342 - n) / 7 % 7 + n / 7 % 7 = 6 ∧ (342 - n) % 7 + n % 7 = 6 := by decide +kernel
theorem pWP_neg {n : Nat} (hn : n < 343) (x y z : Nat) : pWP (342 - n) x y z = -pWP n x y z := by
  obtain ⟨h1, h2, h3⟩ := q_neg n hn
  unfold pWP
  rw [show (((342 - n) / 49 : Nat) - 3 : Int) = -((n / 49 : Nat) - 3 : Int) by omega, show (((342 - n) / 7 % 7 : Nat) - 3 : Int) = -((n / 7 % 7 : Nat) - 3 : Int) by omega, show (((342 - n) % 7 : Nat) - 3 : Int) = -((n % 7 : Nat) - 3 : Int) by omega, Int.neg_mul, Int.neg_mul, Int.neg_mul]
  omega
theorem pWT_neg {n : Nat} (hn : n < 343) (c : Nat) : pWT (342 - n) c = -pWT n c := pWP_neg hn _ _ _
theorem mn_mx {b n : Nat} (hn : n < 343) : ∀ i, i ≤ 8 → ((mnL b n i = 2147483647 ∧ mxL b (342 - n) i = -2147483648 ∧ ∀ c, c < i → ¬ zb b c = 1) ∨ (mnL b n i = -mxL b (342 - n) i ∧ -9 ≤ mnL b n i ∧ mnL b n i ≤ 9)) ∧ bmL b n i = amL b (342 - n) i
  | 0, _ => ⟨Or.inl ⟨rfl, rfl, fun c h => absurd h (Nat.not_lt_zero c)⟩, rfl⟩
  | i + 1, h => by
    have hw := (q_wt n hn i (by omega)).2
    have he := pWT_neg hn i
    obtain ⟨ih, ih2⟩ := mn_mx (b := b) hn i (by omega)
    unfold mnL mxL bmL amL
    rw [he, ih2]
    by_cases c : zb b i = 1
    · rcases ih with ⟨h1, h2, h3⟩ | ⟨h1, h2, h3⟩
      · have k1 : zb b i = 1 ∧ pWT n i ≤ mnL b n i := ⟨c, by omega⟩
        have k2 : zb b i = 1 ∧ mxL b (342 - n) i ≤ -pWT n i := ⟨c, by omega⟩
        have k3 : pWT n i < mnL b n i := by omega
        have k4 : mxL b (342 - n) i < -pWT n i := by omega
        simp only [if_pos k1, if_pos k2, if_pos k3, if_pos k4]
        exact ⟨Or.inr ⟨by omega, hw⟩, trivial⟩
      · by_cases c2 : pWT n i ≤ mnL b n i
        · have k1 : zb b i = 1 ∧ pWT n i ≤ mnL b n i := ⟨c, c2⟩
          have k2 : zb b i = 1 ∧ mxL b (342 - n) i ≤ -pWT n i := ⟨c, by omega⟩
          simp only [if_pos k1, if_pos k2]
          refine ⟨Or.inr ⟨by omega, hw⟩, ?_⟩
          by_cases c3 : pWT n i < mnL b n i
          · rw [if_pos c3, if_pos (by omega)]
          · rw [if_neg c3, if_neg (by omega)]
        · have k1 : ¬ (zb b i = 1 ∧ pWT n i ≤ mnL b n i) := fun q => c2 q.2
          have k2 : ¬ (zb b i = 1 ∧ mxL b (342 - n) i ≤ -pWT n i) := fun q => c2 (by have := q.2; omega)
          simp only [if_neg k1, if_neg k2]
          exact ⟨Or.inr ⟨h1, h2, h3⟩, trivial⟩
    · rw [if_neg (fun q => c q.1), if_neg (fun q => c q.1), if_neg (fun q => c q.1), if_neg (fun q => c q.1)]
      refine ⟨?_, rfl⟩
      rcases ih with ⟨h1, h2, h3⟩ | h1
      · refine Or.inl ⟨h1, h2, fun j hj => ?_⟩
        rcases (show j < i ∨ j = i by omega) with h4 | h4
        · exact h3 j h4
        · rw [h4]; exact c
      · exact Or.inr h1
theorem mn_eq {b n : Nat} (hb : b < 256) (h0 : b ≠ 0) (hn : n < 343) : mnL b n 8 = -mxL b (342 - n) 8 := by
  rcases (mn_mx (b := b) hn 8 (Nat.le_refl _)).1 with ⟨_, _, h⟩ | h
  · obtain ⟨c, h1, h2⟩ := q_some b hb h0
    exact absurd h2 (h c h1)
  · exact h.1
theorem bm_am {b n : Nat} (hn : n < 343) : bmL b n 8 = amL b (342 - n) 8 := (mn_mx hn 8 (Nat.le_refl _)).2
theorem mx_ge {b n : Nat} : ∀ i j, j < i → zb b j = 1 → pWT n j ≤ mxL b n i
  | 0, j, h, _ => absurd h (Nat.not_lt_zero j)
  | i + 1, j, h, hz => by
    unfold mxL
    rcases (show j < i ∨ j = i by omega) with h1 | h1
    · have ih := mx_ge (b := b) (n := n) i j h1 hz
      by_cases c : zb b i = 1 ∧ mxL b n i ≤ pWT n i
      · rw [if_pos c]; exact Int.le_trans ih c.2
      · rw [if_neg c]; exact ih
    · subst h1
      by_cases c : zb b j = 1 ∧ mxL b n j ≤ pWT n j
      · rw [if_pos c]; exact Int.le_refl _
      · rw [if_neg c]
        rcases Int.le_total (mxL b n j) (pWT n j) with h2 | h2
        · exact absurd ⟨hz, h2⟩ c
        · exact h2
theorem th_0 {b n : Nat} {v : Int} : ∀ i, (∀ j, j < i → zb b j = 1 → pWT n j < v) → thL b n v i = 0
  | 0, _ => rfl
  | i + 1, h => by
    unfold thL
    rw [if_neg (fun q => by have := h i (Nat.lt_succ_self i) q.1; omega)]
    exact th_0 i (fun j hj => h j (by omega))
theorem am_th {b n : Nat} : ∀ i, amL b n i = thL b n (mxL b n i) i
  | 0 => rfl
  | i + 1 => by
    have ih := am_th (b := b) (n := n) i
    rw [show amL b n (i + 1) = (if zb b i = 1 ∧ mxL b n i ≤ pWT n i then (if mxL b n i < pWT n i then 2 ^ i else amL b n i ||| 2 ^ i) else amL b n i) from rfl, show mxL b n (i + 1) = (if zb b i = 1 ∧ mxL b n i ≤ pWT n i then pWT n i else mxL b n i) from rfl]
    by_cases c : zb b i = 1 ∧ mxL b n i ≤ pWT n i
    · rw [if_pos c, if_pos c]
      rw [show thL b n (pWT n i) (i + 1) = thL b n (pWT n i) i ||| 2 ^ i from by rw [thL, if_pos ⟨c.1, rfl⟩]]
      by_cases c2 : mxL b n i < pWT n i
      · rw [if_pos c2, th_0 i (fun j hj hz => Int.lt_of_le_of_lt (mx_ge i j hj hz) c2), Nat.zero_or]
      · rw [if_neg c2, ih, show mxL b n i = pWT n i by omega]
    · rw [if_neg c, if_neg c, ih]
      rw [show thL b n (mxL b n i) (i + 1) = thL b n (mxL b n i) i from by rw [thL, if_neg (fun q => c ⟨q.1, by rw [q.2]; exact Int.le_refl _⟩)]]
theorem hv_am {b n : Nat} (hb : b < 256) (h0 : b ≠ 0) (hn : n < 343) : hvQ b n = amL b n 8 := by
  unfold hvQ
  rw [mq_eq hb h0 hn, am_th 8]
theorem th_sub {b n : Nat} {v : Int} : ∀ i k, (thL b n v i).testBit k = true → zb b k = 1
  | 0, k, h => by unfold thL at h; rw [Nat.zero_testBit] at h; cases h
  | i + 1, k, h => by
    unfold thL at h
    by_cases c : zb b i = 1 ∧ pWT n i = v
    · rw [if_pos c, fb_bit_set] at h
      rcases Bool.or_eq_true_iff.mp h with h1 | h1
      · exact th_sub i k h1
      · rw [of_decide_eq_true h1]; exact c.1
    · rw [if_neg c] at h
      exact th_sub i k h
theorem it_iff {b c : Nat} : ∀ n, itL b (fun _ => 0) n c = 1 ↔ ∃ j, j < n ∧ (amL b j 8 = c ∨ bmL b j 8 = c)
  | 0 => ⟨fun h => absurd (show (0 : Int32) = 1 from h) (by decide), fun ⟨j, h, _⟩ => absurd h (Nat.not_lt_zero j)⟩
  | n + 1 => by
    have ih := it_iff (b := b) (c := c) n
    unfold itL upd
    by_cases c1 : c = bmL b n 8
    · rw [if_pos c1]
      exact ⟨fun _ => ⟨n, Nat.lt_succ_self n, Or.inr c1.symm⟩, fun _ => rfl⟩
    rw [if_neg c1]
    by_cases c2 : c = amL b n 8
    · rw [if_pos c2]
      exact ⟨fun _ => ⟨n, Nat.lt_succ_self n, Or.inl c2.symm⟩, fun _ => rfl⟩
    rw [if_neg c2, ih]
    constructor
    · rintro ⟨j, h1, h2⟩
      exact ⟨j, by omega, h2⟩
    · rintro ⟨j, h1, h2⟩
      rcases (show j < n ∨ j = n by omega) with h3 | h3
      · exact ⟨j, h3, h2⟩
      · subst h3
        rcases h2 with h2 | h2
        · exact absurd h2.symm c2
        · exact absurd h2.symm c1
theorem tp_iff {b c : Nat} (hb : b < 256) (h0 : b ≠ 0) : kTP b c = true ↔ ∃ j, j < 343 ∧ j ≠ 171 ∧ hvQ b j = c := by
  unfold kTP kIT
  rw [if_neg h0, decide_eq_true_iff, it_iff]
  constructor
  · rintro ⟨j, h1, h2 | h2⟩
    · exact ⟨j, by omega, by omega, by rw [hv_am hb h0 (by omega)]; exact h2⟩
    · refine ⟨342 - j, by omega, by omega, ?_⟩
      rw [hv_am hb h0 (by omega), ← bm_am (by omega)]
      exact h2
  · rintro ⟨j, h1, h2, h3⟩
    rw [hv_am hb h0 h1] at h3
    rcases (show j < 171 ∨ 171 < j by omega) with h4 | h4
    · exact ⟨j, h4, Or.inl h3⟩
    · refine ⟨342 - j, by omega, Or.inr ?_⟩
      rw [bm_am (by omega), show 342 - (342 - j) = j by omega]
      exact h3
theorem tp_zero (c : Nat) : kTP 0 c = false := rfl
theorem tp_sub {b c k : Nat} (hb : b < 256) (h : kTP b c = true) (hk : c.testBit k = true) : zb b k = 1 := by
  by_cases h0 : b = 0
  · subst h0
    rw [tp_zero] at h
    cases h
  obtain ⟨j, _, _, h3⟩ := (tp_iff hb h0).mp h
  rw [← h3] at hk
  exact th_sub 8 k hk
theorem fc_iff {b c : Nat} (hb : b < 256) (h0 : b ≠ 0) : kFC b c = true ↔ ∃ j, j < 343 ∧ j ≠ 171 ∧ hvQ b j ≠ b ∧ 2 < pPOP (hvQ b j) ∧ hvQ b j = c := by
  unfold kFC
  rw [Bool.and_eq_true_iff, Bool.and_eq_true_iff, tp_iff hb h0]
  constructor
  · rintro ⟨⟨j, h1, h2, h3⟩, h4, h5⟩
    refine ⟨j, h1, h2, ?_, ?_, h3⟩
    · rw [h3]
      intro e
      rw [e] at h4
      simp at h4
    · rw [h3]
      have := of_decide_eq_true h5
      omega
  · rintro ⟨j, h1, h2, h3, h4, h5⟩
    refine ⟨⟨j, h1, h2, h5⟩, ?_, ?_⟩
    · rw [← h5, decide_eq_false h3]; rfl
    · rw [← h5]
      exact decide_eq_true (by omega)
/-! within -/
def wiL (b m x y z : Nat) : Nat → Nat → Bool
  | 0, _ => true
  | n + 1, i => if pWP i x y z ≤ (m : Int) * mqL b i 8 then wiL b m x y z n (i + 1) else false
theorem wi_iff {b m x y z : Nat} : ∀ n i, wiL b m x y z n i = true ↔ ∀ j, i ≤ j → j < i + n → pWP j x y z ≤ (m : Int) * mqL b j 8
  | 0, i => ⟨fun _ j h1 h2 => by omega, fun _ => rfl⟩
  | n + 1, i => by
    unfold wiL
    by_cases c : pWP i x y z ≤ (m : Int) * mqL b i 8
    · rw [if_pos c, wi_iff n (i + 1)]
      constructor
      · intro h j h1 h2
        rcases (show j = i ∨ i + 1 ≤ j by omega) with h3 | h3
        · rw [h3]; exact c
        · exact h j h3 (by omega)
      · intro h j h1 h2
        exact h j (by omega) (by omega)
    · rw [if_neg c]
      exact ⟨fun h => (by cases h), fun h => absurd (h i (Nat.le_refl _) (by omega)) c⟩
theorem in_iff {b m x y z : Nat} : ∀ n i, kIN b m x y z n i = true ↔ ∀ j, i ≤ j → j < i + n → pWP j x y z ≤ (m : Int) * mxL b j 8 ∧ (m : Int) * mnL b j 8 ≤ pWP j x y z
  | 0, i => ⟨fun _ j h1 h2 => by omega, fun _ => rfl⟩
  | n + 1, i => by
    unfold kIN
    by_cases c : (m : Int) * mxL b i 8 < pWP i x y z
    · rw [if_pos c]
      exact ⟨fun h => (by cases h), fun h => absurd (h i (Nat.le_refl _) (by omega)).1 (Int.not_le.mpr c)⟩
    rw [if_neg c]
    by_cases c2 : (m : Int) * mnL b i 8 ≤ pWP i x y z
    · rw [if_pos c2, in_iff n (i + 1)]
      constructor
      · intro h j h1 h2
        rcases (show j = i ∨ i + 1 ≤ j by omega) with h3 | h3
        · rw [h3]; exact ⟨Int.not_lt.mp c, c2⟩
        · exact h j h3 (by omega)
      · intro h j h1 h2
        exact h j (by omega) (by omega)
    · rw [if_neg c2]
      exact ⟨fun h => (by cases h), fun h => absurd (h i (Nat.le_refl _) (by omega)).2 c2⟩
theorem pWP_171 (x y z : Nat) : pWP 171 x y z = 0 := by
  have h := pWP_neg (n := 171) (by decide) x y z
  rw [show 342 - 171 = 171 from rfl] at h
  omega
theorem mx_171 {b : Nat} (hb : b < 256) (h0 : b ≠ 0) : 0 ≤ mxL b 171 8 := by
  obtain ⟨c, h1, h2⟩ := q_some b hb h0
  have h := mx_ge (b := b) (n := 171) 8 c h1 h2
  have h3 : pWT 171 c = 0 := pWP_171 _ _ _
  omega
theorem wi_in {b m x y z : Nat} (hb : b < 256) (h0 : b ≠ 0) : wiL b m x y z 343 0 = kIN b m x y z 171 0 := by
  rw [Bool.eq_iff_iff, wi_iff, in_iff]
  constructor
  · intro h j _ h2
    have h3 := h j (Nat.zero_le _) (by omega)
    have h4 := h (342 - j) (Nat.zero_le _) (by omega)
    rw [mq_eq hb h0 (by omega)] at h3 h4
    rw [pWP_neg (by omega)] at h4
    refine ⟨h3, ?_⟩
    rw [mn_eq hb h0 (by omega), Int.mul_neg]
    omega
  · intro h j _ h2
    rw [mq_eq hb h0 (by omega)]
    rcases (show j < 171 ∨ j = 171 ∨ 171 < j by omega) with h3 | h3 | h3
    · exact (h j (Nat.zero_le _) (by omega)).1
    · subst h3
      rw [pWP_171]
      exact Int.mul_nonneg (Int.natCast_nonneg m) (mx_171 hb h0)
    · have h4 := (h (342 - j) (Nat.zero_le _) (by omega)).2
      rw [mn_eq hb h0 (by omega), pWP_neg (by omega), show 342 - (342 - j) = j by omega, Int.mul_neg] at h4
      omega
/-! width -/
def zV (b n : Nat) : Int := mqL b n 8 - -mqL b (342 - n) 8
def wdL (b : Nat) : Nat → Nat → Int → Int
  | 0, _, a => a
  | n + 1, i, a => wdL b n (i + 1) (if i ≠ 171 ∧ zV b i < a then zV b i else a)
theorem zV_rng {b n : Nat} (hn : n < 343) : -54 ≤ zV b n ∧ zV b n ≤ 18 := by
  have h1 := mq_rng (b := b) hn 8 (Nat.le_refl _)
  have h2 := mq_rng (b := b) (n := 342 - n) (by omega) 8 (Nat.le_refl _)
  unfold zV
  omega
theorem zV_neg {b n : Nat} (hn : n < 343) : zV b (342 - n) = zV b n := by
  unfold zV
  rw [show 342 - (342 - n) = n by omega]
  omega
theorem zV_mx {b n : Nat} (hb : b < 256) (h0 : b ≠ 0) (hn : n < 343) : zV b n = mxL b n 8 - mnL b n 8 := by
  unfold zV
  rw [mq_eq hb h0 hn, mq_eq hb h0 (by omega), mn_eq hb h0 hn]
theorem lw_spec {b : Nat} (hb : b < 256) (h0 : b ≠ 0) : ∀ n, n ≤ 343 → (∀ j, j < n → lwL b n ≤ zV b j) ∧ (n = 0 ∨ ∃ j, j < n ∧ lwL b n = zV b j)
  | 0, _ => ⟨fun j h => absurd h (Nat.not_lt_zero j), Or.inl rfl⟩
  | n + 1, h => by
    obtain ⟨h1, h2⟩ := lw_spec hb h0 n (by omega)
    have hv := zV_mx hb h0 (show n < 343 by omega)
    have hr := zV_rng (b := b) (show n < 343 by omega)
    unfold lwL
    rw [← hv]
    by_cases c : zV b n < lwL b n
    · rw [if_pos c]
      refine ⟨fun j hj => ?_, Or.inr ⟨n, Nat.lt_succ_self n, rfl⟩⟩
      rcases (show j < n ∨ j = n by omega) with h3 | h3
      · have := h1 j h3; omega
      · rw [h3]; exact Int.le_refl _
    · rw [if_neg c]
      refine ⟨fun j hj => ?_, ?_⟩
      · rcases (show j < n ∨ j = n by omega) with h3 | h3
        · exact h1 j h3
        · rw [h3]; omega
      · rcases h2 with h2 | ⟨j, h3, h4⟩
        · subst h2
          unfold lwL at c
          exact absurd c (by omega)
        · exact Or.inr ⟨j, by omega, h4⟩
theorem wd_spec {b : Nat} : ∀ n i a, i + n = 343 → (∀ j, i ≤ j → j < 343 → j ≠ 171 → wdL b n i a ≤ zV b j) ∧ wdL b n i a ≤ a ∧ (wdL b n i a = a ∨ ∃ j, i ≤ j ∧ j < 343 ∧ j ≠ 171 ∧ wdL b n i a = zV b j)
  | 0, i, a, h => ⟨fun j h1 h2 _ => by omega, Int.le_refl _, Or.inl rfl⟩
  | n + 1, i, a, h => by
    unfold wdL
    by_cases c : i ≠ 171 ∧ zV b i < a
    · rw [if_pos c]
      obtain ⟨h1, h2, h3⟩ := wd_spec (b := b) n (i + 1) (zV b i) (by omega)
      refine ⟨fun j hj hj2 hj3 => ?_, by omega, Or.inr ?_⟩
      · rcases (show j = i ∨ i + 1 ≤ j by omega) with h4 | h4
        · rw [h4]; exact h2
        · exact h1 j h4 hj2 hj3
      · rcases h3 with h3 | ⟨j, h4, h5, h6, h7⟩
        · exact ⟨i, Nat.le_refl _, by omega, c.1, h3⟩
        · exact ⟨j, by omega, h5, h6, h7⟩
    · rw [if_neg c]
      obtain ⟨h1, h2, h3⟩ := wd_spec (b := b) n (i + 1) a (by omega)
      refine ⟨fun j hj hj2 hj3 => ?_, h2, ?_⟩
      · rcases (show j = i ∨ i + 1 ≤ j by omega) with h4 | h4
        · subst h4
          rcases Int.le_total a (zV b j) with h5 | h5
          · omega
          · by_cases h6 : zV b j < a
            · exact absurd ⟨hj3, h6⟩ c
            · omega
        · exact h1 j h4 hj2 hj3
      · rcases h3 with h3 | ⟨j, h4, h5, h6, h7⟩
        · exact Or.inl h3
        · exact Or.inr ⟨j, by omega, h5, h6, h7⟩
theorem wd_lw {b : Nat} (hb : b < 256) (h0 : b ≠ 0) : wdL b 343 0 99 = lwL b 171 := by
  obtain ⟨h1, h2, h3⟩ := wd_spec (b := b) 343 0 99 rfl
  obtain ⟨g1, g2⟩ := lw_spec hb h0 171 (by decide)
  have e1 : wdL b 343 0 99 ≤ lwL b 171 := by
    rcases g2 with g2 | ⟨j, g3, g4⟩
    · omega
    · rw [g4]
      exact h1 j (Nat.zero_le _) (by omega) (by omega)
  have e2 : lwL b 171 ≤ wdL b 343 0 99 := by
    rcases h3 with h3 | ⟨j, _, h5, h6, h7⟩
    · have := g1 0 (by decide)
      have := zV_rng (b := b) (n := 0) (by decide)
      omega
    · rw [h7]
      rcases (show j < 171 ∨ 171 < j by omega) with h8 | h8
      · exact g1 j h8
      · have := g1 (342 - j) (by omega)
        rw [zV_neg h5] at this
        exact this
  omega
/-! edges -/
def eiL (P : Nat → Bool) (o : Nat) : Nat → Nat → Nat → Nat
  | 0, _, a => a
  | n + 1, j, a => eiL P o n (j + 1) (if P (2 ^ o ||| 2 ^ j) = true then a + 1 else a)
def eoL (P : Nat → Bool) : Nat → Nat → Nat → Nat
  | 0, _, a => a
  | n + 1, o, a => eoL P n (o + 1) (eiL P o (7 - o) (o + 1) a)
theorem ei_cnt (P : Nat → Bool) (o : Nat) : ∀ n j a, eiL P o n j a = a + ((List.range' j n).map (fun j => 2 ^ o ||| 2 ^ j)).countP P
  | 0, _, a => rfl
  | n + 1, j, a => by
    unfold eiL
    rw [ei_cnt P o n (j + 1), List.range'_succ, List.map_cons, List.countP_cons]
    by_cases c : P (2 ^ o ||| 2 ^ j) = true
    · rw [if_pos c, if_pos c]; omega
    · rw [if_neg c, if_neg c]; rfl
def eoP (n o : Nat) : List Nat := (List.range' o n).flatMap (fun o => (List.range' (o + 1) (7 - o)).map (fun j => 2 ^ o ||| 2 ^ j))
theorem eo_cnt (P : Nat → Bool) : ∀ n o a, eoL P n o a = a + (eoP n o).countP P
  | 0, _, a => rfl
  | n + 1, o, a => by
    unfold eoL
    rw [eo_cnt P n (o + 1), ei_cnt P o, show eoP (n + 1) o = (List.range' (o + 1) (7 - o)).map (fun j => 2 ^ o ||| 2 ^ j) ++ eoP n (o + 1) from by rw [eoP, List.range'_succ, List.flatMap_cons, eoP], List.countP_append]
    omega
theorem el_cnt (b : Nat) : ∀ n c a, kEL b n c a = a + ((List.range' c n).filter (fun c => decide (pPOP c = 2))).countP (kTP b)
  | 0, _, a => rfl
  | n + 1, c, a => by
    unfold kEL
    rw [el_cnt b n (c + 1), List.range'_succ, List.filter_cons]
    by_cases h : pPOP c = 2
    · rw [if_pos (decide_eq_true h), List.countP_cons]
      by_cases h2 : kTP b c = true
      · rw [if_pos ⟨h2, h⟩, if_pos h2]; omega
      · rw [if_neg (fun q => h2 q.1), if_neg h2]; rfl
    · rw [if_neg (fun q => h q.2), if_neg (fun q => h (of_decide_eq_true q))]
theorem q_perm : (eoP 8 0).Perm ((List.range' 0 256).filter (fun c => decide (pPOP c = 2))) := by decide +kernel
theorem eo_el (b : Nat) : eoL (kTP b) 8 0 0 = kEL b 256 0 0 := by
  rw [eo_cnt, el_cnt, q_perm.countP_eq]
