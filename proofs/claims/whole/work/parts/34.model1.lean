/-! ===== the model: numbers, weights ===== -/
theorem miY {j n : Nat} (hj : j ≤ n) (hn : n < 2 ^ 31) : ¬ (if nI j < 0 then (0 : Int32) else if nI n < nI j then 0 else 1) = 0 := by
  rw [if_neg (nI_pos (by omega)), if_neg (nI_nlt hj hn)]
  decide
theorem miN {c : Int32} {n : Nat} (hn : n < 2 ^ 30) (h : c < 0 ∨ nI (n + 1) ≤ c) : (if c < 0 then (0 : Int32) else if nI n < c then 0 else 1) = 0 := by
  rcases h with h | h
  · rw [if_pos h]
  · by_cases h2 : c < 0
    · rw [if_pos h2]
    · rw [if_neg h2, if_pos (fa_of_nle (zle3 hn h))]
def pBL (b : Nat) : Nat → Nat → Nat → Nat
  | 0, _, a => a
  | n + 1, i, a => pBL b n (i + 1) (a + zb b i)
theorem pBL_8 (b : Nat) : pBL b 8 0 0 = pPOP b := by
  unfold pPOP
  simp only [pBL, Nat.zero_add]
set_option maxHeartbeats 4000000 in
set_option maxRecDepth 100000 in
theorem c_X8_isIn {Z : zS} {d : Nat} {w : zW} {v a b : Int32} : zF Z M_X8_isIn (d) [.int v, .int a, .int b] w [.int (if v < a then 0 else if b < v then 0 else 1)] w := by
  show zG Z M_X8_isIn (d) _ _ 0 [(0, .int v), (1, .int a), (2, .int b)] [] w
  refine s_iload_n dX8_isIn_0 rfl ?_
  refine s_iload_n dX8_isIn_1 rfl ?_
  refine s_icmp_lt (tgt := 14) dX8_isIn_2 (by decide) (fun h_2 => ?_) (fun h_2 => ?_)
  · refine s_iconst (v := 0) dX8_isIn_14 rfl ?_
    exact s_zret dX8_isIn_15 rfl (by first | exact Or.inl rfl | exact Or.inr rfl) ⟨by simp [h_2], rfl⟩ rfl
  · refine s_iload_n dX8_isIn_5 rfl ?_
    refine s_iload_n dX8_isIn_6 rfl ?_
    refine s_icmp_gt (tgt := 14) dX8_isIn_7 (by decide) (fun h_7 => ?_) (fun h_7 => ?_)
    · refine s_iconst (v := 0) dX8_isIn_14 rfl ?_
      exact s_zret dX8_isIn_15 rfl (by first | exact Or.inl rfl | exact Or.inr rfl) ⟨by simp [h_2, h_7], rfl⟩ rfl
    · refine s_iconst (v := 1) dX8_isIn_10 rfl ?_
      refine s_goto (tgt := 15) dX8_isIn_11 (by decide) ?_
      exact s_zret dX8_isIn_15 rfl (by first | exact Or.inl rfl | exact Or.inr rfl) ⟨by simp [h_2, h_7], rfl⟩ rfl
set_option maxHeartbeats 4000000 in
set_option maxRecDepth 100000 in
theorem c_X8_isCorner {Z : zS} {d : Nat} {w : zW} {v : Int32} : zF Z M_X8_isCorner (d + 1) [.int v] w [.int (if v < 0 then 0 else if 7 < v then 0 else 1)] w := by
  show zG Z M_X8_isCorner (d + 1) _ _ 0 [(0, .int v)] [] w
  refine s_iload_n dX8_isCorner_0 rfl ?_
  refine s_iconst (v := 0) dX8_isCorner_1 rfl ?_
  refine s_bipush (v := 7) dX8_isCorner_2 rfl ?_
  refine s_cs1 dX8_isCorner_4 g_X8_5 (c_X8_isIn) rfl rfl (Nat.le_of_ble_eq_true rfl) (Nat.le_of_ble_eq_true rfl) rfl ?_
  exact s_zret dX8_isCorner_7 rfl (by first | exact Or.inl rfl | exact Or.inr rfl | (split; exact Or.inl rfl; split; exact Or.inl rfl; exact Or.inr rfl)) ⟨rfl, rfl⟩ rfl
set_option maxHeartbeats 4000000 in
set_option maxRecDepth 100000 in
theorem c_X8_isMove {Z : zS} {d : Nat} {w : zW} {v : Int32} : zF Z M_X8_isMove (d + 1) [.int v] w [.int (if v < 0 then 0 else if 47 < v then 0 else 1)] w := by
  show zG Z M_X8_isMove (d + 1) _ _ 0 [(0, .int v)] [] w
  refine s_iload_n dX8_isMove_0 rfl ?_
  refine s_iconst (v := 0) dX8_isMove_1 rfl ?_
  refine s_bipush (v := 47) dX8_isMove_2 rfl ?_
  refine s_cs1 dX8_isMove_4 g_X8_5 (c_X8_isIn) rfl rfl (Nat.le_of_ble_eq_true rfl) (Nat.le_of_ble_eq_true rfl) rfl ?_
  exact s_zret dX8_isMove_7 rfl (by first | exact Or.inl rfl | exact Or.inr rfl | (split; exact Or.inl rfl; split; exact Or.inl rfl; exact Or.inr rfl)) ⟨rfl, rfl⟩ rfl
set_option maxHeartbeats 4000000 in
set_option maxRecDepth 100000 in
theorem c_X8_isTape {Z : zS} {d : Nat} {w : zW} {v : Int32} : zF Z M_X8_isTape (d + 1) [.int v] w [.int (if v < 0 then 0 else if 5 < v then 0 else 1)] w := by
  show zG Z M_X8_isTape (d + 1) _ _ 0 [(0, .int v)] [] w
  refine s_iload_n dX8_isTape_0 rfl ?_
  refine s_iconst (v := 0) dX8_isTape_1 rfl ?_
  refine s_iconst (v := 5) dX8_isTape_2 rfl ?_
  refine s_cs1 dX8_isTape_3 g_X8_5 (c_X8_isIn) rfl rfl (Nat.le_of_ble_eq_true rfl) (Nat.le_of_ble_eq_true rfl) rfl ?_
  exact s_zret dX8_isTape_6 rfl (by first | exact Or.inl rfl | exact Or.inr rfl | (split; exact Or.inl rfl; split; exact Or.inl rfl; exact Or.inr rfl)) ⟨rfl, rfl⟩ rfl
set_option maxHeartbeats 4000000 in
set_option maxRecDepth 100000 in
theorem l_X8_bits {Z : zS} {d : Nat} {w : zW} {b : Nat} (hb : b < 256) : ∀ (n : Nat) (i a : Nat), i + n = 8 → zG Z M_X8_bits (d) (fun r1 w1 => r1 = [.int (nI (pBL b n i a))] ∧ w1 = w) w.length 4 [(0, .int (nI b)), (1, .int (nI a)), (2, .int (nI i))] [] w := by
  intro n
  induction n with
  | zero =>
    intro i a hi
    have hi : i = 8 := by omega
    subst hi
    refine s_iload_n dX8_bits_4 rfl ?_
    refine s_bipush (v := 8) dX8_bits_5 rfl ?_
    refine s_icmp_ge (tgt := 24) dX8_bits_7 (by decide) (fun hz => ?_) (fun hqz => absurd (by decide) hqz)
    clear hz
    refine s_iload_n dX8_bits_24 rfl ?_
    exact s_iret dX8_bits_25 rfl ⟨rfl, rfl⟩ rfl
  | succ n ih =>
    intro i a hi
    have hm : i < 8 := by omega
    refine s_iload_n dX8_bits_4 rfl ?_
    refine s_bipush (v := 8) dX8_bits_5 rfl ?_
    refine s_icmp_ge (tgt := 24) dX8_bits_7 (by decide) (fun hqz => absurd hqz (nI_ge hm (by decide))) (fun hz => ?_)
    clear hz
    refine s_iload_n dX8_bits_10 rfl ?_
    refine s_iload_n dX8_bits_11 rfl ?_
    refine s_iload_n dX8_bits_12 rfl ?_
    refine s_ishr dX8_bits_13 ?_
    refine s_iconst (v := 1) dX8_bits_14 rfl ?_
    refine s_iand dX8_bits_15 ?_
    refine s_iadd dX8_bits_16 ?_
    rw [zbit (by omega) (by omega), nI_add]
    refine s_istore_n dX8_bits_17 (Nat.le_of_ble_eq_true rfl) rfl ?_
    refine s_iinc (nI (i + 1)) dX8_bits_18 rfl (nI_1 _) (Nat.le_of_ble_eq_true rfl) rfl ?_
    refine s_goto (tgt := 4) dX8_bits_21 (by decide) ?_
    exact ih (i + 1) (a + zb b i) (by omega)
set_option maxHeartbeats 4000000 in
set_option maxRecDepth 100000 in
theorem c_X8_bits {Z : zS} {d : Nat} {w : zW} {b : Nat} (hb : b < 256) : zF Z M_X8_bits (d) [.int (nI b)] w [.int (nI (pPOP b))] w := by
  show zG Z M_X8_bits (d) _ _ 0 [(0, .int (nI b))] [] w
  refine s_iconst (v := 0) dX8_bits_0 rfl ?_
  refine s_istore_n dX8_bits_1 (Nat.le_of_ble_eq_true rfl) rfl ?_
  refine s_iconst (v := 0) dX8_bits_2 rfl ?_
  refine s_istore_n dX8_bits_3 (Nat.le_of_ble_eq_true rfl) rfl ?_
  have K := l_X8_bits (Z := Z) (d := d) (w := w) hb 8 0 0 rfl
  rw [pBL_8] at K
  exact K
set_option maxHeartbeats 4000000 in
set_option maxRecDepth 100000 in
theorem c_wtAt0 {Z : zS} {d : Nat} {w : zW} {n : Nat} (hn : n < 343) : zF Z M_X8_weightAt (d) [.int (nI n), .int (nI 0)] w [.int (nZ (wa n))] w := by
  show zG Z M_X8_weightAt (d) _ _ 0 [(0, .int (nI n)), (1, .int (nI 0))] [] w
  refine s_iload_n dX8_weightAt_0 rfl ?_
  refine s_if_ne (tgt := 11) dX8_weightAt_1 (by decide) (fun hqz => absurd rfl hqz) (fun hz => ?_)
  clear hz
  refine s_iload_n dX8_weightAt_4 rfl ?_
  refine s_bipush (v := 49) dX8_weightAt_5 rfl ?_
  refine s_idiv dX8_weightAt_7 (by decide) ?_
  refine s_goto (tgt := 30) dX8_weightAt_8 (by decide) ?_
  refine s_iconst (v := 3) dX8_weightAt_30 rfl ?_
  refine s_isub dX8_weightAt_31 ?_
  exact s_iret dX8_weightAt_32 rfl ⟨by rw [show nZ (wa n) = _ from (q_w0 n hn).1.symm], rfl⟩ rfl
set_option maxHeartbeats 4000000 in
set_option maxRecDepth 100000 in
theorem c_wtAt1 {Z : zS} {d : Nat} {w : zW} {n : Nat} (hn : n < 343) : zF Z M_X8_weightAt (d) [.int (nI n), .int (nI 1)] w [.int (nZ (wb n))] w := by
  show zG Z M_X8_weightAt (d) _ _ 0 [(0, .int (nI n)), (1, .int (nI 1))] [] w
  refine s_iload_n dX8_weightAt_0 rfl ?_
  refine s_if_ne (tgt := 11) dX8_weightAt_1 (by decide) (fun hz => ?_) (fun hqz => absurd hqz (by decide))
  clear hz
  refine s_iload_n dX8_weightAt_11 rfl ?_
  refine s_iconst (v := 1) dX8_weightAt_12 rfl ?_
  refine s_icmp_ne (tgt := 26) dX8_weightAt_13 (by decide) (fun hqz => absurd rfl hqz) (fun hz => ?_)
  clear hz
  refine s_iload_n dX8_weightAt_16 rfl ?_
  refine s_bipush (v := 7) dX8_weightAt_17 rfl ?_
  refine s_idiv dX8_weightAt_19 (by decide) ?_
  refine s_bipush (v := 7) dX8_weightAt_20 rfl ?_
  refine s_irem dX8_weightAt_22 (by decide) ?_
  refine s_goto (tgt := 30) dX8_weightAt_23 (by decide) ?_
  refine s_iconst (v := 3) dX8_weightAt_30 rfl ?_
  refine s_isub dX8_weightAt_31 ?_
  exact s_iret dX8_weightAt_32 rfl ⟨by rw [show nZ (wb n) = _ from (q_w0 n hn).2.1.symm], rfl⟩ rfl
set_option maxHeartbeats 4000000 in
set_option maxRecDepth 100000 in
theorem c_wtAt2 {Z : zS} {d : Nat} {w : zW} {n : Nat} (hn : n < 343) : zF Z M_X8_weightAt (d) [.int (nI n), .int (nI 2)] w [.int (nZ (wc n))] w := by
  show zG Z M_X8_weightAt (d) _ _ 0 [(0, .int (nI n)), (1, .int (nI 2))] [] w
  refine s_iload_n dX8_weightAt_0 rfl ?_
  refine s_if_ne (tgt := 11) dX8_weightAt_1 (by decide) (fun hz => ?_) (fun hqz => absurd hqz (by decide))
  clear hz
  refine s_iload_n dX8_weightAt_11 rfl ?_
  refine s_iconst (v := 1) dX8_weightAt_12 rfl ?_
  refine s_icmp_ne (tgt := 26) dX8_weightAt_13 (by decide) (fun hz => ?_) (fun hqz => absurd hqz (by decide))
  clear hz
  refine s_iload_n dX8_weightAt_26 rfl ?_
  refine s_bipush (v := 7) dX8_weightAt_27 rfl ?_
  refine s_irem dX8_weightAt_29 (by decide) ?_
  refine s_iconst (v := 3) dX8_weightAt_30 rfl ?_
  refine s_isub dX8_weightAt_31 ?_
  exact s_iret dX8_weightAt_32 rfl ⟨by rw [show nZ (wc n) = _ from (q_w0 n hn).2.2.symm], rfl⟩ rfl
set_option maxHeartbeats 4000000 in
set_option maxRecDepth 100000 in
theorem c_X8_weighsAt {Z : zS} {d : Nat} {w : zW} {n : Nat} {x y z : Int32} (hn : n < 343) : zF Z M_X8_weighsAt (d + 1) [.int (nI n), .int x, .int y, .int z] w [.int (nZ (wa n) * x + nZ (wb n) * y + nZ (wc n) * z)] w := by
  show zG Z M_X8_weighsAt (d + 1) _ _ 0 [(0, .int (nI n)), (1, .int x), (2, .int y), (3, .int z)] [] w
  refine s_iload_n dX8_weighsAt_0 rfl ?_
  refine s_iconst (v := 0) dX8_weighsAt_1 rfl ?_
  refine s_cs1 dX8_weighsAt_2 g_X8_85 (c_wtAt0 hn) rfl rfl (Nat.le_of_ble_eq_true rfl) (Nat.le_of_ble_eq_true rfl) rfl ?_
  refine s_iload_n dX8_weighsAt_5 rfl ?_
  refine s_imul dX8_weighsAt_6 ?_
  refine s_iload_n dX8_weighsAt_7 rfl ?_
  refine s_iconst (v := 1) dX8_weighsAt_8 rfl ?_
  refine s_cs1 dX8_weighsAt_9 g_X8_85 (c_wtAt1 hn) rfl rfl (Nat.le_of_ble_eq_true rfl) (Nat.le_of_ble_eq_true rfl) rfl ?_
  refine s_iload_n dX8_weighsAt_12 rfl ?_
  refine s_imul dX8_weighsAt_13 ?_
  refine s_iadd dX8_weighsAt_14 ?_
  refine s_iload_n dX8_weighsAt_15 rfl ?_
  refine s_iconst (v := 2) dX8_weighsAt_16 rfl ?_
  refine s_cs1 dX8_weighsAt_17 g_X8_85 (c_wtAt2 hn) rfl rfl (Nat.le_of_ble_eq_true rfl) (Nat.le_of_ble_eq_true rfl) rfl ?_
  refine s_iload_n dX8_weighsAt_20 rfl ?_
  refine s_imul dX8_weighsAt_21 ?_
  refine s_iadd dX8_weighsAt_22 ?_
  exact s_iret dX8_weighsAt_23 rfl ⟨rfl, rfl⟩ rfl
set_option maxHeartbeats 4000000 in
set_option maxRecDepth 100000 in
theorem c_X8_weighsCorner {Z : zS} {d : Nat} {w : zW} {n c : Nat} (hn : n < 343) (hc : c < 8) : zF Z M_X8_weighsCorner (d + 2) [.int (nI n), .int (nI c)] w [.int (nZ (pWT n c))] w := by
  show zG Z M_X8_weighsCorner (d + 2) _ _ 0 [(0, .int (nI n)), (1, .int (nI c))] [] w
  refine s_iload_n dX8_weighsCorner_0 rfl ?_
  refine s_iload_n dX8_weighsCorner_1 rfl ?_
  refine s_iconst (v := 1) dX8_weighsCorner_2 rfl ?_
  refine s_iand dX8_weighsCorner_3 ?_
  refine s_iload_n dX8_weighsCorner_4 rfl ?_
  refine s_iconst (v := 1) dX8_weighsCorner_5 rfl ?_
  refine s_ishr dX8_weighsCorner_6 ?_
  refine s_iconst (v := 1) dX8_weighsCorner_7 rfl ?_
  refine s_iand dX8_weighsCorner_8 ?_
  refine s_iload_n dX8_weighsCorner_9 rfl ?_
  refine s_iconst (v := 2) dX8_weighsCorner_10 rfl ?_
  refine s_ishr dX8_weighsCorner_11 ?_
  refine s_iconst (v := 1) dX8_weighsCorner_12 rfl ?_
  refine s_iand dX8_weighsCorner_13 ?_
  refine s_cs1 dX8_weighsCorner_14 g_X8_88 (c_X8_weighsAt hn) rfl rfl (Nat.le_of_ble_eq_true rfl) (Nat.le_of_ble_eq_true rfl) rfl ?_
  exact s_iret dX8_weighsCorner_17 rfl ⟨by rw [zcwt hn hc], rfl⟩ rfl
theorem c_wtP {Z : zS} {d : Nat} {w : zW} {n x y z : Nat} (hn : n < 343) : zF Z M_X8_weighsAt (d + 1) [.int (nI n), .int (nI x), .int (nI y), .int (nI z)] w [.int (nZ (pWP n x y z))] w := by
  obtain ⟨h1, h2, h3⟩ := q_w0 n hn
  have h := zwp hn x y z
  rw [h1, h2, h3] at h
  rw [← h]
  exact c_X8_weighsAt hn
def mqL (b n : Nat) : Nat → Int
  | 0 => -27
  | i + 1 => if zb b i = 1 ∧ mqL b n i < pWT n i then pWT n i else mqL b n i
theorem mq_rng {b n : Nat} (hn : n < 343) : ∀ i, i ≤ 8 → -27 ≤ mqL b n i ∧ mqL b n i ≤ 9
  | 0, _ => by unfold mqL; omega
  | i + 1, h => by
    have hw := (q_wt n hn i (by omega)).2
    have ih := mq_rng (b := b) hn i (by omega)
    unfold mqL
    by_cases c : zb b i = 1 ∧ mqL b n i < pWT n i
    · rw [if_pos c]; omega
    · rw [if_neg c]; exact ih
theorem zR27 {v : Int} (h : -27 ≤ v ∧ v ≤ 9) : zRng v := by unfold zRng; omega
theorem mq_mx {b n : Nat} (hn : n < 343) : ∀ i, i ≤ 8 → (mxL b n i = -2147483648 ∧ mqL b n i = -27 ∧ ∀ c, c < i → ¬ zb b c = 1) ∨ (mxL b n i = mqL b n i ∧ -9 ≤ mqL b n i)
  | 0, _ => Or.inl ⟨rfl, rfl, fun c h => absurd h (Nat.not_lt_zero c)⟩
  | i + 1, h => by
    have hw := (q_wt n hn i (by omega)).2
    unfold mxL mqL
    rcases mq_mx (b := b) hn i (by omega) with ⟨h1, h2, h3⟩ | ⟨h1, h2⟩
    · rw [h1, h2]
      by_cases c : zb b i = 1
      · rw [if_pos ⟨c, by omega⟩, if_pos ⟨c, by omega⟩]
        exact Or.inr ⟨rfl, hw.1⟩
      · rw [if_neg (fun q => c q.1), if_neg (fun q => c q.1)]
        refine Or.inl ⟨rfl, rfl, fun j hj => ?_⟩
        rcases (show j < i ∨ j = i by omega) with h4 | h4
        · exact h3 j h4
        · rw [h4]; exact c
    · rw [h1]
      by_cases c : zb b i = 1
      · by_cases c2 : mqL b n i < pWT n i
        · rw [if_pos ⟨c, by omega⟩, if_pos ⟨c, c2⟩]
          exact Or.inr ⟨rfl, hw.1⟩
        · by_cases c3 : mqL b n i ≤ pWT n i
          · rw [if_pos ⟨c, c3⟩, if_neg (fun q => c2 q.2)]
            exact Or.inr ⟨by omega, h2⟩
          · rw [if_neg (fun q => c3 q.2), if_neg (fun q => c2 q.2)]
            exact Or.inr ⟨rfl, h2⟩
      · rw [if_neg (fun q => c q.1), if_neg (fun q => c q.1)]
        exact Or.inr ⟨rfl, h2⟩
theorem mq_eq {b n : Nat} (hb : b < 256) (h0 : b ≠ 0) (hn : n < 343) : mqL b n 8 = mxL b n 8 := by
  rcases mq_mx (b := b) hn 8 (Nat.le_refl _) with ⟨_, _, h⟩ | ⟨h, _⟩
  · obtain ⟨c, h1, h2⟩ := q_some b hb h0
    exact absurd h2 (h c h1)
  · exact h.symm
theorem nZ_neg (a : Int) : -nZ a = nZ (-a) := (Int32.ofInt_neg a).symm
set_option maxHeartbeats 4000000 in
set_option maxRecDepth 100000 in
theorem l_X8_mostOf {Z : zS} {d : Nat} {w : zW} {b k : Nat} (hb : b < 256) (hn : k < 343) : ∀ (n : Nat) (i : Nat), i + n = 8 → zG Z M_X8_mostOf (d + 3) (fun r1 w1 => r1 = [.int (nZ (mqL b k 8))] ∧ w1 = w) w.length 5 [(0, .int (nI b)), (1, .int (nI k)), (2, .int (nZ (mqL b k i))), (3, .int (nI i))] [] w := by
  intro n
  induction n with
  | zero =>
    intro i hi
    have hi : i = 8 := by omega
    subst hi
    refine s_iload_n dX8_mostOf_5 rfl ?_
    refine s_bipush (v := 8) dX8_mostOf_6 rfl ?_
    refine s_icmp_ge (tgt := 41) dX8_mostOf_8 (by decide) (fun hz => ?_) (fun hqz => absurd (by decide) hqz)
    clear hz
    refine s_iload_n dX8_mostOf_41 rfl ?_
    exact s_iret dX8_mostOf_42 rfl ⟨rfl, rfl⟩ rfl
  | succ n ih =>
    intro i hi
    have hm : i < 8 := by omega
    have hx := zR27 (mq_rng (b := b) hn i (by omega))
    have hw := (q_wt k hn i hm).2
    have hr : zRng (pWT k i) := by unfold zRng; omega
    refine s_iload_n dX8_mostOf_5 rfl ?_
    refine s_bipush (v := 8) dX8_mostOf_6 rfl ?_
    refine s_icmp_ge (tgt := 41) dX8_mostOf_8 (by decide) (fun hqz => absurd hqz (nI_ge hm (by decide))) (fun hz => ?_)
    clear hz
    refine s_iload_n dX8_mostOf_11 rfl ?_
    refine s_iload_n dX8_mostOf_12 rfl ?_
    refine s_ishr dX8_mostOf_13 ?_
    refine s_iconst (v := 1) dX8_mostOf_14 rfl ?_
    refine s_iand dX8_mostOf_15 ?_
    rw [zbit (by omega) (by omega)]
    refine s_iconst (v := 1) dX8_mostOf_16 rfl ?_
    refine s_icmp_ne (tgt := 35) dX8_mostOf_17 (by decide) (fun h_17 => ?_) (fun h_17 => ?_)
    · refine s_iinc (nI (i + 1)) dX8_mostOf_35 rfl (nI_1 _) (Nat.le_of_ble_eq_true rfl) rfl ?_
      refine s_goto (tgt := 5) dX8_mostOf_38 (by decide) ?_
      rw [show mqL b k i = mqL b k (i + 1) from by rw [mqL, if_neg (fun q => h_17 ((zn1 (zbL b i)).mpr q.1))]]
      exact ih (i + 1) (by omega)
    · refine s_iload_n dX8_mostOf_20 rfl ?_
      refine s_iload_n dX8_mostOf_21 rfl ?_
      refine s_cs1 dX8_mostOf_22 g_X8_92 (c_X8_weighsCorner hn hm) rfl rfl (Nat.le_of_ble_eq_true rfl) (Nat.le_of_ble_eq_true rfl) rfl ?_
      refine s_iload_n dX8_mostOf_25 rfl ?_
      refine s_icmp_le (tgt := 35) dX8_mostOf_26 (by decide) (fun h_26 => ?_) (fun h_26 => ?_)
      · refine s_iinc (nI (i + 1)) dX8_mostOf_35 rfl (nI_1 _) (Nat.le_of_ble_eq_true rfl) rfl ?_
        refine s_goto (tgt := 5) dX8_mostOf_38 (by decide) ?_
        first
          | (rw [show mqL b k i = mqL b k (i + 1) from by rw [mqL, if_neg (fun q => absurd q.2 (Int.not_lt.mpr ((nZ_le hr hx).mp h_26)))]]
             exact ih (i + 1) (by omega))
          | (rw [show pWT k i = mqL b k (i + 1) from by rw [mqL, if_pos ⟨(zn1 (zbL b i)).mp h_17, Int.not_le.mp (fun q => h_26 ((nZ_le hr hx).mpr q))⟩]]
             exact ih (i + 1) (by omega))
      · refine s_iload_n dX8_mostOf_29 rfl ?_
        refine s_iload_n dX8_mostOf_30 rfl ?_
        refine s_cs1 dX8_mostOf_31 g_X8_92 (c_X8_weighsCorner hn hm) rfl rfl (Nat.le_of_ble_eq_true rfl) (Nat.le_of_ble_eq_true rfl) rfl ?_
        refine s_istore_n dX8_mostOf_34 (Nat.le_of_ble_eq_true rfl) rfl ?_
        refine s_iinc (nI (i + 1)) dX8_mostOf_35 rfl (nI_1 _) (Nat.le_of_ble_eq_true rfl) rfl ?_
        refine s_goto (tgt := 5) dX8_mostOf_38 (by decide) ?_
        first
          | (rw [show mqL b k i = mqL b k (i + 1) from by rw [mqL, if_neg (fun q => absurd q.2 (Int.not_lt.mpr ((nZ_le hr hx).mp h_26)))]]
             exact ih (i + 1) (by omega))
          | (rw [show pWT k i = mqL b k (i + 1) from by rw [mqL, if_pos ⟨(zn1 (zbL b i)).mp h_17, Int.not_le.mp (fun q => h_26 ((nZ_le hr hx).mpr q))⟩]]
             exact ih (i + 1) (by omega))
set_option maxHeartbeats 4000000 in
set_option maxRecDepth 100000 in
theorem c_X8_mostOf {Z : zS} {d : Nat} {w : zW} {b n : Nat} (hb : b < 256) (hn : n < 343) : zF Z M_X8_mostOf (d + 3) [.int (nI b), .int (nI n)] w [.int (nZ (mqL b n 8))] w := by
  show zG Z M_X8_mostOf (d + 3) _ _ 0 [(0, .int (nI b)), (1, .int (nI n))] [] w
  refine s_bipush (v := (-27)) dX8_mostOf_0 rfl ?_
  refine s_istore_n dX8_mostOf_2 (Nat.le_of_ble_eq_true rfl) rfl ?_
  refine s_iconst (v := 0) dX8_mostOf_3 rfl ?_
  refine s_istore_n dX8_mostOf_4 (Nat.le_of_ble_eq_true rfl) rfl ?_
  exact l_X8_mostOf hb hn 8 0 rfl
set_option maxHeartbeats 4000000 in
set_option maxRecDepth 100000 in
theorem c_X8_leastOf {Z : zS} {d : Nat} {w : zW} {b n : Nat} (hb : b < 256) (hn : n < 343) : zF Z M_X8_leastOf (d + 4) [.int (nI b), .int (nI n)] w [.int (nZ (-mqL b (342 - n) 8))] w := by
  show zG Z M_X8_leastOf (d + 4) _ _ 0 [(0, .int (nI b)), (1, .int (nI n))] [] w
  refine s_iload_n dX8_leastOf_0 rfl ?_
  refine s_sipush (v := 342) dX8_leastOf_1 rfl ?_
  refine s_iload_n dX8_leastOf_4 rfl ?_
  refine s_isub dX8_leastOf_5 ?_
  rw [show (342 : Int32) = nI 342 from rfl, pk_sub (show n ≤ 342 by omega)]
  refine s_cs1 dX8_leastOf_6 g_X8_95 (c_X8_mostOf hb (show 342 - n < 343 by omega)) rfl rfl (Nat.le_of_ble_eq_true rfl) (Nat.le_of_ble_eq_true rfl) rfl ?_
  refine s_ineg dX8_leastOf_9 ?_
  exact s_iret dX8_leastOf_10 rfl ⟨by rw [nZ_neg], rfl⟩ rfl
set_option maxHeartbeats 4000000 in
set_option maxRecDepth 100000 in
theorem l_X8_heaviest {Z : zS} {d : Nat} {w : zW} {b k : Nat} {v : Int} (hb : b < 256) (hn : k < 343) (hv : zRng v) : ∀ (n : Nat) (i : Nat), i + n = 8 → zG Z M_X8_heaviest (d + 4) (fun r1 w1 => r1 = [.int (nI (thL b k v 8))] ∧ w1 = w) w.length 11 [(0, .int (nI b)), (1, .int (nI k)), (2, .int (nZ v)), (3, .int (nI (thL b k v i))), (4, .int (nI i))] [] w := by
  intro n
  induction n with
  | zero =>
    intro i hi
    have hi : i = 8 := by omega
    subst hi
    refine s_iload dX8_heaviest_11 rfl ?_
    refine s_bipush (v := 8) dX8_heaviest_13 rfl ?_
    refine s_icmp_ge (tgt := 55) dX8_heaviest_15 (by decide) (fun hz => ?_) (fun hqz => absurd (by decide) hqz)
    clear hz
    refine s_iload_n dX8_heaviest_55 rfl ?_
    exact s_iret dX8_heaviest_56 rfl ⟨rfl, rfl⟩ rfl
  | succ n ih =>
    intro i hi
    have hm : i < 8 := by omega
    have hw := (q_wt k hn i hm).2
    have hr : zRng (pWT k i) := by unfold zRng; omega
    refine s_iload dX8_heaviest_11 rfl ?_
    refine s_bipush (v := 8) dX8_heaviest_13 rfl ?_
    refine s_icmp_ge (tgt := 55) dX8_heaviest_15 (by decide) (fun hqz => absurd hqz (nI_ge hm (by decide))) (fun hz => ?_)
    clear hz
    refine s_iload_n dX8_heaviest_18 rfl ?_
    refine s_iload_n dX8_heaviest_19 rfl ?_
    refine s_iload dX8_heaviest_20 rfl ?_
    refine s_ishr dX8_heaviest_22 ?_
    refine s_iconst (v := 1) dX8_heaviest_23 rfl ?_
    refine s_iand dX8_heaviest_24 ?_
    rw [zbit (by omega) (by omega)]
    refine s_iconst (v := 1) dX8_heaviest_25 rfl ?_
    refine s_icmp_ne (tgt := 46) dX8_heaviest_26 (by decide) (fun h_26 => ?_) (fun h_26 => ?_)
    · refine s_iconst (v := 0) dX8_heaviest_46 rfl ?_
      refine s_ior dX8_heaviest_47 ?_
      refine s_istore_n dX8_heaviest_48 (Nat.le_of_ble_eq_true rfl) rfl ?_
      refine s_iinc (nI (i + 1)) dX8_heaviest_49 rfl (nI_1 _) (Nat.le_of_ble_eq_true rfl) rfl ?_
      refine s_goto (tgt := 11) dX8_heaviest_52 (by decide) ?_
      rw [Int32.or_zero, show thL b k v i = thL b k v (i + 1) from by rw [thL, if_neg (fun q => h_26 ((zn1 (zbL b i)).mpr q.1))]]
      exact ih (i + 1) (by omega)
    · refine s_iload_n dX8_heaviest_29 rfl ?_
      refine s_iload dX8_heaviest_30 rfl ?_
      refine s_cs1 dX8_heaviest_32 g_X8_92 (c_X8_weighsCorner hn hm) rfl rfl (Nat.le_of_ble_eq_true rfl) (Nat.le_of_ble_eq_true rfl) rfl ?_
      refine s_iload_n dX8_heaviest_35 rfl ?_
      refine s_icmp_ne (tgt := 46) dX8_heaviest_36 (by decide) (fun h_36 => ?_) (fun h_36 => ?_)
      · refine s_iconst (v := 0) dX8_heaviest_46 rfl ?_
        refine s_ior dX8_heaviest_47 ?_
        refine s_istore_n dX8_heaviest_48 (Nat.le_of_ble_eq_true rfl) rfl ?_
        refine s_iinc (nI (i + 1)) dX8_heaviest_49 rfl (nI_1 _) (Nat.le_of_ble_eq_true rfl) rfl ?_
        refine s_goto (tgt := 11) dX8_heaviest_52 (by decide) ?_
        first
          | (rw [zsh8 i (by omega), fa_or, show thL b k v i ||| 2 ^ i = thL b k v (i + 1) from by rw [thL, if_pos ⟨(zn1 (zbL b i)).mp h_26, (nZ_eq hr hv).mp h_36⟩]]
             exact ih (i + 1) (by omega))
          | (rw [Int32.or_zero, show thL b k v i = thL b k v (i + 1) from by rw [thL, if_neg (fun q => h_36 ((nZ_eq hr hv).mpr q.2))]]
             exact ih (i + 1) (by omega))
      · refine s_iconst (v := 1) dX8_heaviest_39 rfl ?_
        refine s_iload dX8_heaviest_40 rfl ?_
        refine s_ishl dX8_heaviest_42 ?_
        refine s_goto (tgt := 47) dX8_heaviest_43 (by decide) ?_
        refine s_ior dX8_heaviest_47 ?_
        refine s_istore_n dX8_heaviest_48 (Nat.le_of_ble_eq_true rfl) rfl ?_
        refine s_iinc (nI (i + 1)) dX8_heaviest_49 rfl (nI_1 _) (Nat.le_of_ble_eq_true rfl) rfl ?_
        refine s_goto (tgt := 11) dX8_heaviest_52 (by decide) ?_
        first
          | (rw [zsh8 i (by omega), fa_or, show thL b k v i ||| 2 ^ i = thL b k v (i + 1) from by rw [thL, if_pos ⟨(zn1 (zbL b i)).mp h_26, (nZ_eq hr hv).mp h_36⟩]]
             exact ih (i + 1) (by omega))
          | (rw [Int32.or_zero, show thL b k v i = thL b k v (i + 1) from by rw [thL, if_neg (fun q => h_36 ((nZ_eq hr hv).mpr q.2))]]
             exact ih (i + 1) (by omega))
def hvQ (b n : Nat) : Nat := thL b n (mqL b n 8) 8
theorem thL_lt {b n : Nat} {v : Int} : ∀ i, i ≤ 8 → thL b n v i < 256
  | 0, _ => by unfold thL; decide
  | i + 1, h => by
    unfold thL
    exact zite (zor8 (thL_lt i (by omega)) (zp8 i (by omega))) (thL_lt i (by omega))
theorem hvQ_lt (b n : Nat) : hvQ b n < 256 := thL_lt 8 (Nat.le_refl _)
set_option maxHeartbeats 4000000 in
set_option maxRecDepth 100000 in
theorem c_X8_heaviest {Z : zS} {d : Nat} {w : zW} {b n : Nat} (hb : b < 256) (hn : n < 343) : zF Z M_X8_heaviest (d + 4) [.int (nI b), .int (nI n)] w [.int (nI (hvQ b n))] w := by
  show zG Z M_X8_heaviest (d + 4) _ _ 0 [(0, .int (nI b)), (1, .int (nI n))] [] w
  refine s_iload_n dX8_heaviest_0 rfl ?_
  refine s_iload_n dX8_heaviest_1 rfl ?_
  refine s_cs1 dX8_heaviest_2 g_X8_95 (c_X8_mostOf hb hn) rfl rfl (Nat.le_of_ble_eq_true rfl) (Nat.le_of_ble_eq_true rfl) rfl ?_
  refine s_istore_n dX8_heaviest_5 (Nat.le_of_ble_eq_true rfl) rfl ?_
  refine s_iconst (v := 0) dX8_heaviest_6 rfl ?_
  refine s_istore_n dX8_heaviest_7 (Nat.le_of_ble_eq_true rfl) rfl ?_
  refine s_iconst (v := 0) dX8_heaviest_8 rfl ?_
  refine s_istore dX8_heaviest_9 (Nat.le_of_ble_eq_true rfl) rfl ?_
  exact l_X8_heaviest hb hn (zR27 (mq_rng hn 8 (Nat.le_refl _))) 8 0 rfl
set_option maxHeartbeats 4000000 in
set_option maxRecDepth 100000 in
theorem c_X8_isNought {Z : zS} {d : Nat} {w : zW} {n : Nat} (hn : n < 343) : zF Z M_X8_isNought (d) [.int (nI n)] w [.int (if n = 171 then 1 else 0)] w := by
  show zG Z M_X8_isNought (d) _ _ 0 [(0, .int (nI n))] [] w
  refine s_iload_n dX8_isNought_0 rfl ?_
  refine s_sipush (v := 171) dX8_isNought_1 rfl ?_
  refine s_icmp_ne (tgt := 11) dX8_isNought_4 (by decide) (fun h_4 => ?_) (fun h_4 => ?_)
  · refine s_iconst (v := 0) dX8_isNought_11 rfl ?_
    exact s_zret dX8_isNought_12 rfl (by first | exact Or.inl rfl | exact Or.inr rfl) ⟨by first | (rw [if_neg (fun e => h_4 (by rw [e]; rfl))]) | (rw [if_pos ((nI_eq (b := 171) (by omega) (by decide)).mp h_4)]), rfl⟩ rfl
  · refine s_iconst (v := 1) dX8_isNought_7 rfl ?_
    refine s_goto (tgt := 12) dX8_isNought_8 (by decide) ?_
    exact s_zret dX8_isNought_12 rfl (by first | exact Or.inl rfl | exact Or.inr rfl) ⟨by first | (rw [if_neg (fun e => h_4 (by rw [e]; rfl))]) | (rw [if_pos ((nI_eq (b := 171) (by omega) (by decide)).mp h_4)]), rfl⟩ rfl
