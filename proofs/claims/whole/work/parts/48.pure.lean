/-! ===== points counted by sums of corners; volumes are from 0 to 6, widths 0 or 1 ===== -/
def ofc (c : Nat) : Nat := c % 2 + 8 * (c / 2 % 2) + 64 * (c / 4 % 2)
def sS (b D : Nat) : Nat → Nat
  | 0 => 0
  | c + 1 => if zb b c = 1 then sS b D c ||| D <<< ofc c else sS b D c
def dK (b : Nat) : Nat → Nat
  | 0 => 1
  | k + 1 => sS b (dK b k) 8
theorem sS_bit {b D i : Nat} : ∀ n, (sS b D n).testBit i = true → ∃ c, c < n ∧ zb b c = 1 ∧ ofc c ≤ i ∧ D.testBit (i - ofc c) = true
  | 0, h => by
    rw [show sS b D 0 = 0 from rfl, Nat.testBit_lt_two_pow (Nat.two_pow_pos i)] at h
    cases h
  | n + 1, h => by
    unfold sS at h
    by_cases k : zb b n = 1
    · rw [if_pos k, Nat.testBit_or, Bool.or_eq_true] at h
      rcases h with h | h
      · obtain ⟨c, h1, h2⟩ := sS_bit n h
        exact ⟨c, by omega, h2⟩
      · rw [Nat.testBit_shiftLeft, Bool.and_eq_true] at h
        exact ⟨n, by omega, k, of_decide_eq_true h.1, h.2⟩
    · rw [if_neg k] at h
      obtain ⟨c, h1, h2⟩ := sS_bit n h
      exact ⟨c, by omega, h2⟩
theorem pWP_add (j x y z c : Nat) : pWP j (x + c % 2) (y + c / 2 % 2) (z + c / 4 % 2) = pWP j x y z + pWT j c := by
  unfold pWP pWT
  rw [Int.natCast_add, Int.natCast_add, Int.natCast_add, Int.mul_add, Int.mul_add, Int.mul_add]
  omega
theorem pWP_dbl (j x y z : Nat) : pWP j (2 * x) (2 * y) (2 * z) = 2 * pWP j x y z := by
  unfold pWP
  have e : ∀ (a : Int) (n : Nat), a * ((2 * n : Nat) : Int) = 2 * (a * (n : Int)) := fun a n => by
    rw [Int.natCast_mul, ← Int.mul_assoc, Int.mul_comm a, Int.mul_assoc]
    rfl
  rw [e, e, e]
  omega
theorem dK_ok {b : Nat} : ∀ k i, (dK b k).testBit i = true → ∃ x y z : Nat, i = x + 8 * y + 64 * z ∧ x ≤ k ∧ y ≤ k ∧ z ≤ k ∧ ∀ j, pWP j x y z ≤ (k : Int) * mxL b j 8
  | 0, i, h => by
    have hi : i = 0 := by
      rcases Nat.eq_zero_or_pos i with h1 | h1
      · exact h1
      · rw [show dK b 0 = 1 from rfl, Nat.testBit_lt_two_pow (Nat.one_lt_two_pow (by omega))] at h
        cases h
    refine ⟨0, 0, 0, hi, Nat.le_refl _, Nat.le_refl _, Nat.le_refl _, fun j => ?_⟩
    unfold pWP
    simp
  | k + 1, i, h => by
    obtain ⟨c, h1, h2, h3, h4⟩ := sS_bit 8 (show (sS b (dK b k) 8).testBit i = true from h)
    obtain ⟨x, y, z, e, hx, hy, hz, hw⟩ := dK_ok k _ h4
    refine ⟨x + c % 2, y + c / 2 % 2, z + c / 4 % 2, ?_, by omega, by omega, by omega, fun j => ?_⟩
    · unfold ofc at e h3
      omega
    · have a1 := hw j
      have a2 := mx_ge (n := j) 8 c h1 h2
      rw [pWP_add, Int.natCast_add, Int.add_mul]
      show _ ≤ _ + (1 : Int) * _
      rw [Int.one_mul]
      omega
theorem in_ok {b m x y z : Nat} (hb : b < 256) (h0 : b ≠ 0) (hm : m ≤ 3) (hx : x < 4) (hy : y < 4) (hz : z < 4) (h : (dK b (2 * m)).testBit (2 * x + 16 * y + 128 * z) = true) : kIN b m x y z 171 0 = true := by
  obtain ⟨x', y', z', e, h1, h2, h3, h4⟩ := dK_ok _ _ h
  have ex : x' = 2 * x := by omega
  have ey : y' = 2 * y := by omega
  have ez : z' = 2 * z := by omega
  subst ex ey ez
  rw [← wi_in hb h0, wi_iff]
  intro j _ hj
  rw [mq_eq hb h0 (by omega)]
  have a := h4 j
  rw [pWP_dbl, Int.natCast_mul, Int.mul_assoc] at a
  have a : 2 * pWP j x y z ≤ 2 * ((m : Int) * mxL b j 8) := a
  omega
theorem out_ok {b m x y z : Nat} (hb : b < 256) (h0 : b ≠ 0) (h : ∃ j, j < 343 ∧ (m : Int) * mxL b j 8 < pWP j x y z) : kIN b m x y z 171 0 = false := by
  obtain ⟨j, hj, hw⟩ := h
  cases hk : kIN b m x y z 171 0 with
  | false => rfl
  | true =>
    rw [← wi_in hb h0, wi_iff] at hk
    have a := hk j (Nat.zero_le _) (by omega)
    rw [mq_eq hb h0 hj] at a
    omega
def oDs : List Nat := [228, 130, 212, 165, 177, 114, 214, 226, 116, 128, 221, 227, 179, 123, 213, 121, 219, 129, 115, 163, 172, 178, 220, 122, 164, 170]
def oW (b m x y z : Nat) : Bool := oDs.any (fun j => decide ((m : Int) * mxL b j 8 < pWP j x y z))
theorem oDs_lt : ∀ j ∈ oDs, j < 343 := by decide
theorem oW_ok {b m x y z : Nat} (h : oW b m x y z = true) : ∃ j, j < 343 ∧ (m : Int) * mxL b j 8 < pWP j x y z := by
  obtain ⟨j, h1, h2⟩ := List.any_eq_true.mp h
  exact ⟨j, oDs_lt j h1, of_decide_eq_true h2⟩
def dB (b m p : Nat) : Bool := (dK b (2 * m)).testBit (2 * (p % 4) + 16 * (p / 4 % 4) + 128 * (p / 16 % 4))
def dQ (b m p : Nat) : Bool := dB b m p || oW b m (p % 4) (p / 4 % 4) (p / 16 % 4)
theorem q_dQ0 : ∀ b, b < 32 → b + 0 ≠ 0 → ∀ m, m < 3 → ∀ p, p < 64 → dQ (b + 0) (m + 1) p = true := by decide +kernel
theorem q_dQ1 : ∀ b, b < 32 → b + 32 ≠ 0 → ∀ m, m < 3 → ∀ p, p < 64 → dQ (b + 32) (m + 1) p = true := by decide +kernel
theorem q_dQ2 : ∀ b, b < 32 → b + 64 ≠ 0 → ∀ m, m < 3 → ∀ p, p < 64 → dQ (b + 64) (m + 1) p = true := by decide +kernel
theorem q_dQ3 : ∀ b, b < 32 → b + 96 ≠ 0 → ∀ m, m < 3 → ∀ p, p < 64 → dQ (b + 96) (m + 1) p = true := by decide +kernel
theorem q_dQ4 : ∀ b, b < 32 → b + 128 ≠ 0 → ∀ m, m < 3 → ∀ p, p < 64 → dQ (b + 128) (m + 1) p = true := by decide +kernel
theorem q_dQ5 : ∀ b, b < 32 → b + 160 ≠ 0 → ∀ m, m < 3 → ∀ p, p < 64 → dQ (b + 160) (m + 1) p = true := by decide +kernel
theorem q_dQ6 : ∀ b, b < 32 → b + 192 ≠ 0 → ∀ m, m < 3 → ∀ p, p < 64 → dQ (b + 192) (m + 1) p = true := by decide +kernel
theorem q_dQ7 : ∀ b, b < 32 → b + 224 ≠ 0 → ∀ m, m < 3 → ∀ p, p < 64 → dQ (b + 224) (m + 1) p = true := by decide +kernel
theorem q_dQ {b m p : Nat} (hb : b < 256) (h0 : b ≠ 0) (hm1 : 1 ≤ m) (hm : m ≤ 3) (hp : p < 64) : dQ b m p = true := by
  obtain ⟨n, rfl⟩ : ∃ n, m = n + 1 := ⟨m - 1, by omega⟩
  obtain ⟨c, rfl⟩ | ⟨c, hc, hc2⟩ : (∃ c, b = c + 224) ∨ ∃ c, b = c ∧ c < 224 := by
    by_cases h : b < 224
    · exact Or.inr ⟨b, rfl, h⟩
    · exact Or.inl ⟨b - 224, by omega⟩
  · exact q_dQ7 c (by omega) h0 n (by omega) p hp
  subst hc
  by_cases h6 : 192 ≤ b
  · obtain ⟨c, rfl⟩ : ∃ c, b = c + 192 := ⟨b - 192, by omega⟩
    exact q_dQ6 c (by omega) h0 n (by omega) p hp
  by_cases h5 : 160 ≤ b
  · obtain ⟨c, rfl⟩ : ∃ c, b = c + 160 := ⟨b - 160, by omega⟩
    exact q_dQ5 c (by omega) h0 n (by omega) p hp
  by_cases h4 : 128 ≤ b
  · obtain ⟨c, rfl⟩ : ∃ c, b = c + 128 := ⟨b - 128, by omega⟩
    exact q_dQ4 c (by omega) h0 n (by omega) p hp
  by_cases h3 : 96 ≤ b
  · obtain ⟨c, rfl⟩ : ∃ c, b = c + 96 := ⟨b - 96, by omega⟩
    exact q_dQ3 c (by omega) h0 n (by omega) p hp
  by_cases h2 : 64 ≤ b
  · obtain ⟨c, rfl⟩ : ∃ c, b = c + 64 := ⟨b - 64, by omega⟩
    exact q_dQ2 c (by omega) h0 n (by omega) p hp
  by_cases h1 : 32 ≤ b
  · obtain ⟨c, rfl⟩ : ∃ c, b = c + 32 := ⟨b - 32, by omega⟩
    exact q_dQ1 c (by omega) h0 n (by omega) p hp
  · exact q_dQ0 b (by omega) h0 n (by omega) p hp
theorem kIN_dB {b m p : Nat} (hb : b < 256) (h0 : b ≠ 0) (hm1 : 1 ≤ m) (hm : m ≤ 3) (hp : p < 64) : kIN b m (p % 4) (p / 4 % 4) (p / 16 % 4) 171 0 = dB b m p := by
  have h := q_dQ hb h0 hm1 hm hp
  unfold dQ at h
  cases hd : dB b m p with
  | true => exact in_ok hb h0 hm (by omega) (by omega) (by omega) hd
  | false =>
    rw [hd, Bool.false_or] at h
    exact out_ok hb h0 (oW_ok h)
def cPL (b m : Nat) : Nat → Nat → Nat → Nat
  | 0, _, a => a
  | n + 1, p, a => cPL b m n (p + 1) (if dB b m p = true then a + 1 else a)
theorem kPL_cPL {b m : Nat} (hb : b < 256) (h0 : b ≠ 0) (hm1 : 1 ≤ m) (hm : m ≤ 3) : ∀ n p a, p + n = 64 → kPL b m n p a = cPL b m n p a
  | 0, _, _, _ => rfl
  | n + 1, p, a, h => by
    rw [kPL, cPL, kIN_dB hb h0 hm1 hm (by omega)]
    exact kPL_cPL hb h0 hm1 hm n (p + 1) _ (by omega)
def cP (b m : Nat) : Nat := cPL b m 64 0 0
theorem kPT_cP {b m : Nat} (hb : b < 256) (h0 : b ≠ 0) (hm1 : 1 ≤ m) (hm : m ≤ 3) : kPT b m = cP b m := kPL_cPL hb h0 hm1 hm 64 0 0 rfl
theorem q_six : ∀ b, b < 256 → b ≠ 0 → 3 * cP b 2 + 1 ≤ cP b 3 + 3 * cP b 1 ∧ cP b 3 + 3 * cP b 1 ≤ 3 * cP b 2 + 7 := by decide +kernel
theorem kSIX_nI {b : Nat} (hb : b < 256) (h0 : b ≠ 0) : ∃ s, s < 7 ∧ kSIX b = nI s := by
  obtain ⟨h1, h2⟩ := q_six b hb h0
  refine ⟨cP b 3 + 3 * cP b 1 - (3 * cP b 2 + 1), by omega, ?_⟩
  unfold kSIX
  rw [if_neg h0, kPT_cP hb h0 (by decide) (by decide), kPT_cP hb h0 (by decide) (by decide), kPT_cP hb h0 (by decide) (by decide)]
  rw [nI_nZ, nI_nZ, nI_nZ, nI_nZ]
  rw [show (3 : Int32) = nZ 3 from rfl, show (1 : Int32) = nZ 1 from rfl]
  rw [← Int32.ofInt_mul, ← Int32.ofInt_mul, ← Int32.ofInt_sub, ← Int32.ofInt_add, ← Int32.ofInt_sub]
  exact congrArg Int32.ofInt (by omega)
theorem q_zV : ∀ b, b < 256 → b ≠ 0 → zV b 122 ≤ 1 := by decide +kernel
theorem zV_0 {b n : Nat} (hb : b < 256) (h0 : b ≠ 0) (hn : n < 343) : 0 ≤ zV b n := by
  obtain ⟨c, h1, h2⟩ := q_some b hb h0
  unfold zV
  rw [mq_eq hb h0 hn, mq_eq hb h0 (show 342 - n < 343 by omega)]
  have a1 := mx_ge (n := n) 8 c h1 h2
  have a2 := mx_ge (n := 342 - n) 8 c h1 h2
  rw [pWT_neg hn] at a2
  omega
theorem kLW_01 {b : Nat} (hb : b < 256) (h0 : b ≠ 0) : kLW b = 0 ∨ kLW b = 1 := by
  obtain ⟨h1, h2⟩ := lw_spec hb h0 171 (by decide)
  have a1 := h1 122 (by decide)
  have a2 := q_zV b hb h0
  have a3 : 0 ≤ lwL b 171 := by
    rcases h2 with h2 | ⟨j, hj, e⟩
    · exact absurd h2 (by decide)
    · rw [e]; exact zV_0 hb h0 (by omega)
  unfold kLW
  rw [if_neg h0]
  rcases (show lwL b 171 = 0 ∨ lwL b 171 = 1 by omega) with e | e
  · rw [e]; exact Or.inl rfl
  · rw [e]; exact Or.inr rfl
