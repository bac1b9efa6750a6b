/-! ===== the model: edges, points, widths ===== -/
def edL (b t : Nat) : Nat → Nat → Bool
  | 0, _ => false
  | n + 1, i => if i ≠ 171 ∧ hvQ b i = t then true else edL b t n (i + 1)
theorem ed_iff {b t : Nat} : ∀ n i, edL b t n i = true ↔ ∃ j, i ≤ j ∧ j < i + n ∧ j ≠ 171 ∧ hvQ b j = t
  | 0, i => ⟨fun h => (by cases h), fun ⟨j, h1, h2, _⟩ => by omega⟩
  | n + 1, i => by
    unfold edL
    by_cases c : i ≠ 171 ∧ hvQ b i = t
    · rw [if_pos c]
      exact ⟨fun _ => ⟨i, Nat.le_refl _, by omega, c.1, c.2⟩, fun _ => rfl⟩
    · rw [if_neg c, ed_iff n (i + 1)]
      constructor
      · rintro ⟨j, h1, h2, h3⟩
        exact ⟨j, by omega, by omega, h3⟩
      · rintro ⟨j, h1, h2, h3⟩
        rcases (show j = i ∨ i + 1 ≤ j by omega) with h4 | h4
        · subst h4; exact absurd h3 c
        · exact ⟨j, h4, by omega, h3⟩
theorem ed_tp {b t : Nat} (hb : b < 256) (h0 : b ≠ 0) : edL b t 343 0 = kTP b t := by
  rw [Bool.eq_iff_iff, ed_iff, tp_iff hb h0]
  constructor
  · rintro ⟨j, h1, h2, h3⟩
    exact ⟨j, by omega, h3⟩
  · rintro ⟨j, h1, h2⟩
    exact ⟨j, Nat.zero_le _, by omega, h2⟩
theorem zNO {i : Nat} (h : ¬ (if i = 171 then (1 : Int32) else 0) = 0) : i = 171 := by
  by_cases c : i = 171
  · exact c
  · rw [if_neg c] at h; exact absurd rfl h
theorem zNN {i : Nat} (h : (if i = 171 then (1 : Int32) else 0) = 0) : i ≠ 171 := by
  intro c
  rw [if_pos c] at h
  exact absurd h (by decide)
theorem zB0' {x : Bool} (h : x = false) : (if x = true then (1 : Int32) else 0) = 0 := by rw [h]; rfl
set_option maxHeartbeats 4000000 in
set_option maxRecDepth 100000 in
theorem l_X8_isEdge {Z : zS} {d : Nat} {w : zW} {b a e : Nat} (hb : b < 256) (ha : a < 8) (he : e < 8) : ∀ (n : Nat) (i : Nat), i + n = 343 → zG Z M_X8_isEdge (d + 5) (fun r1 w1 => r1 = [.int (if edL b (2 ^ a ||| 2 ^ e) n i = true then 1 else 0)] ∧ w1 = w) w.length 5 [(0, .int (nI b)), (1, .int (nI a)), (2, .int (nI e)), (3, .int 0), (4, .int (nI i))] [] w := by
  intro n
  induction n with
  | zero =>
    intro i hi
    have hi : i = 343 := by omega
    subst hi
    refine s_iload dX8_isEdge_5 rfl ?_
    refine s_sipush (v := 343) dX8_isEdge_7 rfl ?_
    refine s_icmp_ge (tgt := 53) dX8_isEdge_10 (by decide) (fun hz => ?_) (fun hqz => absurd (by decide) hqz)
    clear hz
    refine s_iload_n dX8_isEdge_53 rfl ?_
    exact s_zret dX8_isEdge_54 rfl (by first | exact Or.inl rfl | exact Or.inr rfl) ⟨rfl, rfl⟩ rfl
  | succ n ih =>
    intro i hi
    have hm : i < 343 := by omega
    have ht31 : 2 ^ a ||| 2 ^ e < 2 ^ 31 := Nat.lt_trans (zor8 (zp8 a ha) (zp8 e he)) (by decide)
    by_cases h1 : i = 171
    · rw [show edL b (2 ^ a ||| 2 ^ e) (n + 1) i = edL b (2 ^ a ||| 2 ^ e) n (i + 1) from by rw [edL, if_neg (fun q => q.1 h1)]]
      refine s_iload dX8_isEdge_5 rfl ?_
      refine s_sipush (v := 343) dX8_isEdge_7 rfl ?_
      refine s_icmp_ge (tgt := 53) dX8_isEdge_10 (by decide) (fun hqz => absurd hqz (nI_ge hm (by decide))) (fun hz => ?_)
      clear hz
      refine s_iload_n dX8_isEdge_13 rfl ?_
      refine s_if_ne (tgt := 53) dX8_isEdge_14 (by decide) (fun hqz => absurd rfl hqz) (fun hz => ?_)
      clear hz
      refine s_iload dX8_isEdge_17 rfl ?_
      refine s_cs1 dX8_isEdge_19 g_X8_101 (c_X8_isNought hm) rfl rfl (Nat.le_of_ble_eq_true rfl) (Nat.le_of_ble_eq_true rfl) rfl ?_
      refine s_if_ne (tgt := 45) dX8_isEdge_22 (by decide) (fun hz => ?_) (fun hqz => absurd hqz (by rw [if_pos h1]; decide))
      clear hz
      refine s_iconst (v := 0) dX8_isEdge_45 rfl ?_
      refine s_istore_n dX8_isEdge_46 (Nat.le_of_ble_eq_true rfl) rfl ?_
      refine s_iinc (nI (i + 1)) dX8_isEdge_47 rfl (nI_1 _) (Nat.le_of_ble_eq_true rfl) rfl ?_
      refine s_goto (tgt := 5) dX8_isEdge_50 (by decide) ?_
      exact ih (i + 1) (by omega)
    by_cases hh : hvQ b i = 2 ^ a ||| 2 ^ e
    · rw [show edL b (2 ^ a ||| 2 ^ e) (n + 1) i = true from by rw [edL, if_pos ⟨h1, hh⟩]]
      refine s_iload dX8_isEdge_5 rfl ?_
      refine s_sipush (v := 343) dX8_isEdge_7 rfl ?_
      refine s_icmp_ge (tgt := 53) dX8_isEdge_10 (by decide) (fun hqz => absurd hqz (nI_ge hm (by decide))) (fun hz => ?_)
      clear hz
      refine s_iload_n dX8_isEdge_13 rfl ?_
      refine s_if_ne (tgt := 53) dX8_isEdge_14 (by decide) (fun hqz => absurd rfl hqz) (fun hz => ?_)
      clear hz
      refine s_iload dX8_isEdge_17 rfl ?_
      refine s_cs1 dX8_isEdge_19 g_X8_101 (c_X8_isNought hm) rfl rfl (Nat.le_of_ble_eq_true rfl) (Nat.le_of_ble_eq_true rfl) rfl ?_
      refine s_if_ne (tgt := 45) dX8_isEdge_22 (by decide) (fun hqz => absurd (if_neg h1) hqz) (fun hz => ?_)
      clear hz
      refine s_iload_n dX8_isEdge_25 rfl ?_
      refine s_iload dX8_isEdge_26 rfl ?_
      refine s_cs1 dX8_isEdge_28 g_X8_98 (c_X8_heaviest hb hm) rfl rfl (Nat.le_of_ble_eq_true rfl) (Nat.le_of_ble_eq_true rfl) rfl ?_
      refine s_iconst (v := 1) dX8_isEdge_31 rfl ?_
      refine s_iload_n dX8_isEdge_32 rfl ?_
      refine s_ishl dX8_isEdge_33 ?_
      refine s_iconst (v := 1) dX8_isEdge_34 rfl ?_
      refine s_iload_n dX8_isEdge_35 rfl ?_
      refine s_ishl dX8_isEdge_36 ?_
      refine s_ior dX8_isEdge_37 ?_
      rw [zsh8 a (by omega), zsh8 e (by omega), fa_or]
      refine s_icmp_ne (tgt := 45) dX8_isEdge_38 (by decide) (fun hqz => absurd (by rw [hh]) hqz) (fun hz => ?_)
      clear hz
      refine s_iconst (v := 1) dX8_isEdge_41 rfl ?_
      refine s_goto (tgt := 46) dX8_isEdge_42 (by decide) ?_
      refine s_istore_n dX8_isEdge_46 (Nat.le_of_ble_eq_true rfl) rfl ?_
      refine s_iinc (nI (i + 1)) dX8_isEdge_47 rfl (nI_1 _) (Nat.le_of_ble_eq_true rfl) rfl ?_
      refine s_goto (tgt := 5) dX8_isEdge_50 (by decide) ?_
      refine s_iload dX8_isEdge_5 rfl ?_
      refine s_sipush (v := 343) dX8_isEdge_7 rfl ?_
      refine s_icmp_ge (tgt := 53) dX8_isEdge_10 (by decide) (fun h_10 => ?_) (fun h_10 => ?_)
      · refine s_iload_n dX8_isEdge_53 rfl ?_
        exact s_zret dX8_isEdge_54 rfl (by first | exact Or.inl rfl | exact Or.inr rfl) ⟨rfl, rfl⟩ rfl
      · refine s_iload_n dX8_isEdge_13 rfl ?_
        refine s_if_ne (tgt := 53) dX8_isEdge_14 (by decide) (fun hz => ?_) (fun hqz => absurd hqz (by decide))
        clear hz
        refine s_iload_n dX8_isEdge_53 rfl ?_
        exact s_zret dX8_isEdge_54 rfl (by first | exact Or.inl rfl | exact Or.inr rfl) ⟨rfl, rfl⟩ rfl
    · rw [show edL b (2 ^ a ||| 2 ^ e) (n + 1) i = edL b (2 ^ a ||| 2 ^ e) n (i + 1) from by rw [edL, if_neg (fun q => hh q.2)]]
      refine s_iload dX8_isEdge_5 rfl ?_
      refine s_sipush (v := 343) dX8_isEdge_7 rfl ?_
      refine s_icmp_ge (tgt := 53) dX8_isEdge_10 (by decide) (fun hqz => absurd hqz (nI_ge hm (by decide))) (fun hz => ?_)
      clear hz
      refine s_iload_n dX8_isEdge_13 rfl ?_
      refine s_if_ne (tgt := 53) dX8_isEdge_14 (by decide) (fun hqz => absurd rfl hqz) (fun hz => ?_)
      clear hz
      refine s_iload dX8_isEdge_17 rfl ?_
      refine s_cs1 dX8_isEdge_19 g_X8_101 (c_X8_isNought hm) rfl rfl (Nat.le_of_ble_eq_true rfl) (Nat.le_of_ble_eq_true rfl) rfl ?_
      refine s_if_ne (tgt := 45) dX8_isEdge_22 (by decide) (fun hqz => absurd (if_neg h1) hqz) (fun hz => ?_)
      clear hz
      refine s_iload_n dX8_isEdge_25 rfl ?_
      refine s_iload dX8_isEdge_26 rfl ?_
      refine s_cs1 dX8_isEdge_28 g_X8_98 (c_X8_heaviest hb hm) rfl rfl (Nat.le_of_ble_eq_true rfl) (Nat.le_of_ble_eq_true rfl) rfl ?_
      refine s_iconst (v := 1) dX8_isEdge_31 rfl ?_
      refine s_iload_n dX8_isEdge_32 rfl ?_
      refine s_ishl dX8_isEdge_33 ?_
      refine s_iconst (v := 1) dX8_isEdge_34 rfl ?_
      refine s_iload_n dX8_isEdge_35 rfl ?_
      refine s_ishl dX8_isEdge_36 ?_
      refine s_ior dX8_isEdge_37 ?_
      rw [zsh8 a (by omega), zsh8 e (by omega), fa_or]
      refine s_icmp_ne (tgt := 45) dX8_isEdge_38 (by decide) (fun hz => ?_) (fun hqz => absurd hqz (fun q => hh ((nI_eq (Nat.lt_trans (hvQ_lt b i) (by decide)) ht31).mp q)))
      clear hz
      refine s_iconst (v := 0) dX8_isEdge_45 rfl ?_
      refine s_istore_n dX8_isEdge_46 (Nat.le_of_ble_eq_true rfl) rfl ?_
      refine s_iinc (nI (i + 1)) dX8_isEdge_47 rfl (nI_1 _) (Nat.le_of_ble_eq_true rfl) rfl ?_
      refine s_goto (tgt := 5) dX8_isEdge_50 (by decide) ?_
      exact ih (i + 1) (by omega)
set_option maxHeartbeats 4000000 in
set_option maxRecDepth 100000 in
theorem c_X8_isEdge {Z : zS} {d : Nat} {w : zW} {b a e : Nat} (hb : b < 256) (h0 : b ≠ 0) (ha : a < 8) (he : e < 8) : zF Z M_X8_isEdge (d + 5) [.int (nI b), .int (nI a), .int (nI e)] w [.int (if kTP b (2 ^ a ||| 2 ^ e) = true then 1 else 0)] w := by
  show zG Z M_X8_isEdge (d + 5) _ _ 0 [(0, .int (nI b)), (1, .int (nI a)), (2, .int (nI e))] [] w
  refine s_iconst (v := 0) dX8_isEdge_0 rfl ?_
  refine s_istore_n dX8_isEdge_1 (Nat.le_of_ble_eq_true rfl) rfl ?_
  refine s_iconst (v := 0) dX8_isEdge_2 rfl ?_
  refine s_istore dX8_isEdge_3 (Nat.le_of_ble_eq_true rfl) rfl ?_
  have K := l_X8_isEdge (Z := Z) (d := d) (w := w) hb ha he 343 0 rfl
  rw [ed_tp hb h0] at K
  exact K
theorem q_bb : ∀ b, b < 256 → ∀ o, o < 8 → ∀ j, j < 8 → nI b >>> (nI o &&& 31) &&& nI b >>> (nI j &&& 31) &&& 1 = nI (zb b o * zb b j) := by decide +kernel
theorem zbm {b o j : Nat} : nI (zb b o * zb b j) = 1 ↔ zb b o = 1 ∧ zb b j = 1 := by
  have h1 := zb_lt b o
  have h2 := zb_lt b j
  rcases (show zb b o = 0 ∨ zb b o = 1 by omega) with h3 | h3
  · rw [h3, Nat.zero_mul]
    exact ⟨fun h => absurd h (by decide), fun h => absurd h.1 (by decide)⟩
  · rw [h3, Nat.one_mul, zn1 (by omega)]
    exact ⟨fun h => ⟨rfl, h⟩, fun h => h.2⟩
theorem tp_bits {b o j : Nat} (hb : b < 256) (h : kTP b (2 ^ o ||| 2 ^ j) = true) : zb b o = 1 ∧ zb b j = 1 := by
  refine ⟨tp_sub hb h ?_, tp_sub hb h ?_⟩
  · rw [Nat.testBit_or, Nat.testBit_two_pow_self]; rfl
  · rw [fb_bit_set, decide_eq_true rfl, Bool.or_true]
theorem zb_ne {b o : Nat} (h : zb b o = 1) : b ≠ 0 := by
  intro e
  rw [e] at h
  unfold zb at h
  rw [Nat.zero_div] at h
  exact absurd h (by decide)
set_option maxHeartbeats 4000000 in
set_option maxRecDepth 100000 in
theorem l_eoI {Z : zS} {d : Nat} {w : zW} {Q : List Value → zW → Prop} {b o : Nat} (hb : b < 256) (ho : o < 8) : ∀ (n : Nat) (j a : Nat), j + n = 8 → (zG Z M_X8_edgesOf (d + 6) Q w.length 56 [(0, .int (nI b)), (1, .int (nI (eiL (kTP b) o n j a))), (2, .int (nI o)), (3, .int (nI 8))] [] w) → zG Z M_X8_edgesOf (d + 6) Q w.length 14 [(0, .int (nI b)), (1, .int (nI a)), (2, .int (nI o)), (3, .int (nI j))] [] w := by
  intro n
  induction n with
  | zero =>
    intro j a hj K
    have hj : j = 8 := by omega
    subst hj
    refine s_iload_n dX8_edgesOf_14 rfl ?_
    refine s_bipush (v := 8) dX8_edgesOf_15 rfl ?_
    refine s_icmp_ge (tgt := 56) dX8_edgesOf_17 (by decide) (fun hz => ?_) (fun hqz => absurd (by decide) hqz)
    clear hz
    exact K
  | succ n ih =>
    intro j a hj K
    have hm : j < 8 := by omega
    by_cases hz : zb b o = 1 ∧ zb b j = 1
    · have h0 := zb_ne hz.1
      by_cases ht : kTP b (2 ^ o ||| 2 ^ j) = true
      · rw [show eiL (kTP b) o (n + 1) j a = eiL (kTP b) o n (j + 1) (a + 1) from by rw [eiL, if_pos ht]] at K
        refine s_iload_n dX8_edgesOf_14 rfl ?_
        refine s_bipush (v := 8) dX8_edgesOf_15 rfl ?_
        refine s_icmp_ge (tgt := 56) dX8_edgesOf_17 (by decide) (fun hqz => absurd hqz (nI_ge hm (by decide))) (fun hz => ?_)
        clear hz
        refine s_iload_n dX8_edgesOf_20 rfl ?_
        refine s_iload_n dX8_edgesOf_21 rfl ?_
        refine s_iload_n dX8_edgesOf_22 rfl ?_
        refine s_ishr dX8_edgesOf_23 ?_
        refine s_iload_n dX8_edgesOf_24 rfl ?_
        refine s_iload_n dX8_edgesOf_25 rfl ?_
        refine s_ishr dX8_edgesOf_26 ?_
        refine s_iand dX8_edgesOf_27 ?_
        refine s_iconst (v := 1) dX8_edgesOf_28 rfl ?_
        refine s_iand dX8_edgesOf_29 ?_
        rw [q_bb b hb o ho j hm]
        refine s_iconst (v := 1) dX8_edgesOf_30 rfl ?_
        refine s_icmp_ne (tgt := 47) dX8_edgesOf_31 (by decide) (fun hqz => absurd (zbm.mpr hz) hqz) (fun hz => ?_)
        clear hz
        refine s_iload_n dX8_edgesOf_34 rfl ?_
        refine s_iload_n dX8_edgesOf_35 rfl ?_
        refine s_iload_n dX8_edgesOf_36 rfl ?_
        refine s_cs1 dX8_edgesOf_37 g_X8_109 (c_X8_isEdge hb h0 ho hm) rfl rfl (Nat.le_of_ble_eq_true rfl) (Nat.le_of_ble_eq_true rfl) rfl ?_
        refine s_if_eq (tgt := 47) dX8_edgesOf_40 (by decide) (fun hqz => absurd hqz (by rw [if_pos ht]; decide)) (fun hz => ?_)
        clear hz
        refine s_iconst (v := 1) dX8_edgesOf_43 rfl ?_
        refine s_goto (tgt := 48) dX8_edgesOf_44 (by decide) ?_
        refine s_iadd dX8_edgesOf_48 ?_
        rw [nI_1]
        refine s_istore_n dX8_edgesOf_49 (Nat.le_of_ble_eq_true rfl) rfl ?_
        refine s_iinc (nI (j + 1)) dX8_edgesOf_50 rfl (nI_1 _) (Nat.le_of_ble_eq_true rfl) rfl ?_
        refine s_goto (tgt := 14) dX8_edgesOf_53 (by decide) ?_
        exact ih (j + 1) (a + 1) (by omega) K
      · rw [show eiL (kTP b) o (n + 1) j a = eiL (kTP b) o n (j + 1) a from by rw [eiL, if_neg ht]] at K
        refine s_iload_n dX8_edgesOf_14 rfl ?_
        refine s_bipush (v := 8) dX8_edgesOf_15 rfl ?_
        refine s_icmp_ge (tgt := 56) dX8_edgesOf_17 (by decide) (fun hqz => absurd hqz (nI_ge hm (by decide))) (fun hz => ?_)
        clear hz
        refine s_iload_n dX8_edgesOf_20 rfl ?_
        refine s_iload_n dX8_edgesOf_21 rfl ?_
        refine s_iload_n dX8_edgesOf_22 rfl ?_
        refine s_ishr dX8_edgesOf_23 ?_
        refine s_iload_n dX8_edgesOf_24 rfl ?_
        refine s_iload_n dX8_edgesOf_25 rfl ?_
        refine s_ishr dX8_edgesOf_26 ?_
        refine s_iand dX8_edgesOf_27 ?_
        refine s_iconst (v := 1) dX8_edgesOf_28 rfl ?_
        refine s_iand dX8_edgesOf_29 ?_
        rw [q_bb b hb o ho j hm]
        refine s_iconst (v := 1) dX8_edgesOf_30 rfl ?_
        refine s_icmp_ne (tgt := 47) dX8_edgesOf_31 (by decide) (fun hqz => absurd (zbm.mpr hz) hqz) (fun hz => ?_)
        clear hz
        refine s_iload_n dX8_edgesOf_34 rfl ?_
        refine s_iload_n dX8_edgesOf_35 rfl ?_
        refine s_iload_n dX8_edgesOf_36 rfl ?_
        refine s_cs1 dX8_edgesOf_37 g_X8_109 (c_X8_isEdge hb h0 ho hm) rfl rfl (Nat.le_of_ble_eq_true rfl) (Nat.le_of_ble_eq_true rfl) rfl ?_
        refine s_if_eq (tgt := 47) dX8_edgesOf_40 (by decide) (fun hz => ?_) (fun hqz => absurd (if_neg ht) hqz)
        clear hz
        refine s_iconst (v := 0) dX8_edgesOf_47 rfl ?_
        refine s_iadd dX8_edgesOf_48 ?_
        rw [Int32.add_zero]
        refine s_istore_n dX8_edgesOf_49 (Nat.le_of_ble_eq_true rfl) rfl ?_
        refine s_iinc (nI (j + 1)) dX8_edgesOf_50 rfl (nI_1 _) (Nat.le_of_ble_eq_true rfl) rfl ?_
        refine s_goto (tgt := 14) dX8_edgesOf_53 (by decide) ?_
        exact ih (j + 1) a (by omega) K
    · rw [show eiL (kTP b) o (n + 1) j a = eiL (kTP b) o n (j + 1) a from by rw [eiL, if_neg (fun q => hz (tp_bits hb q))]] at K
      refine s_iload_n dX8_edgesOf_14 rfl ?_
      refine s_bipush (v := 8) dX8_edgesOf_15 rfl ?_
      refine s_icmp_ge (tgt := 56) dX8_edgesOf_17 (by decide) (fun hqz => absurd hqz (nI_ge hm (by decide))) (fun hz => ?_)
      clear hz
      refine s_iload_n dX8_edgesOf_20 rfl ?_
      refine s_iload_n dX8_edgesOf_21 rfl ?_
      refine s_iload_n dX8_edgesOf_22 rfl ?_
      refine s_ishr dX8_edgesOf_23 ?_
      refine s_iload_n dX8_edgesOf_24 rfl ?_
      refine s_iload_n dX8_edgesOf_25 rfl ?_
      refine s_ishr dX8_edgesOf_26 ?_
      refine s_iand dX8_edgesOf_27 ?_
      refine s_iconst (v := 1) dX8_edgesOf_28 rfl ?_
      refine s_iand dX8_edgesOf_29 ?_
      rw [q_bb b hb o ho j hm]
      refine s_iconst (v := 1) dX8_edgesOf_30 rfl ?_
      refine s_icmp_ne (tgt := 47) dX8_edgesOf_31 (by decide) (fun hz => ?_) (fun hqz => absurd hqz (fun q => hz (zbm.mp q)))
      clear hz
      refine s_iconst (v := 0) dX8_edgesOf_47 rfl ?_
      refine s_iadd dX8_edgesOf_48 ?_
      rw [Int32.add_zero]
      refine s_istore_n dX8_edgesOf_49 (Nat.le_of_ble_eq_true rfl) rfl ?_
      refine s_iinc (nI (j + 1)) dX8_edgesOf_50 rfl (nI_1 _) (Nat.le_of_ble_eq_true rfl) rfl ?_
      refine s_goto (tgt := 14) dX8_edgesOf_53 (by decide) ?_
      exact ih (j + 1) a (by omega) K
set_option maxHeartbeats 4000000 in
set_option maxRecDepth 100000 in
theorem l_eoO {Z : zS} {d : Nat} {w : zW} {b : Nat} (hb : b < 256) : ∀ (n : Nat) (o a : Nat) (lv : List (Nat × Value)), o + n = 8 → (lv = [] ∨ lv = [(3, .int (nI 8))]) → zG Z M_X8_edgesOf (d + 6) (fun r1 w1 => r1 = [.int (nI (eoL (kTP b) n o a))] ∧ w1 = w) w.length 4 ([(0, .int (nI b)), (1, .int (nI a)), (2, .int (nI o))] ++ lv) [] w := by
  intro n
  induction n with
  | zero =>
    intro o a lv ho hl
    have ho : o = 8 := by omega
    subst ho
    refine s_take 3 ?_
    show zG Z M_X8_edgesOf (d + 6) _ w.length 4 [(0, .int (nI b)), (1, .int (nI a)), (2, .int (nI 8))] [] w
    refine s_iload_n dX8_edgesOf_4 rfl ?_
    refine s_bipush (v := 8) dX8_edgesOf_5 rfl ?_
    refine s_icmp_ge (tgt := 62) dX8_edgesOf_7 (by decide) (fun hz => ?_) (fun hqz => absurd (by decide) hqz)
    clear hz
    refine s_iload_n dX8_edgesOf_62 rfl ?_
    exact s_iret dX8_edgesOf_63 rfl ⟨rfl, rfl⟩ rfl
  | succ n ih =>
    intro o a lv ho hl
    have hm : o < 8 := by omega
    refine s_take 3 ?_
    show zG Z M_X8_edgesOf (d + 6) _ w.length 4 [(0, .int (nI b)), (1, .int (nI a)), (2, .int (nI o))] [] w
    refine s_iload_n dX8_edgesOf_4 rfl ?_
    refine s_bipush (v := 8) dX8_edgesOf_5 rfl ?_
    refine s_icmp_ge (tgt := 62) dX8_edgesOf_7 (by decide) (fun hqz => absurd hqz (nI_ge hm (by decide))) (fun hz => ?_)
    clear hz
    refine s_iload_n dX8_edgesOf_10 rfl ?_
    refine s_iconst (v := 1) dX8_edgesOf_11 rfl ?_
    refine s_iadd dX8_edgesOf_12 ?_
    rw [nI_1]
    refine s_istore_n dX8_edgesOf_13 (Nat.le_of_ble_eq_true rfl) rfl ?_
    refine l_eoI hb hm (7 - o) (o + 1) a (by omega) ?_
    refine s_iinc (nI (o + 1)) dX8_edgesOf_56 rfl (nI_1 _) (Nat.le_of_ble_eq_true rfl) rfl ?_
    refine s_goto (tgt := 4) dX8_edgesOf_59 (by decide) ?_
    exact ih (o + 1) _ [(3, .int (nI 8))] (by omega) (Or.inr rfl)
set_option maxHeartbeats 4000000 in
set_option maxRecDepth 100000 in
theorem c_X8_edgesOf {Z : zS} {d : Nat} {w : zW} {b : Nat} (hb : b < 256) : zF Z M_X8_edgesOf (d + 6) [.int (nI b)] w [.int (nI (kEL b 256 0 0))] w := by
  show zG Z M_X8_edgesOf (d + 6) _ _ 0 [(0, .int (nI b))] [] w
  refine s_iconst (v := 0) dX8_edgesOf_0 rfl ?_
  refine s_istore_n dX8_edgesOf_1 (Nat.le_of_ble_eq_true rfl) rfl ?_
  refine s_iconst (v := 0) dX8_edgesOf_2 rfl ?_
  refine s_istore_n dX8_edgesOf_3 (Nat.le_of_ble_eq_true rfl) rfl ?_
  have K := l_eoO (Z := Z) (d := d) (w := w) hb 8 0 0 [] rfl (Or.inl rfl)
  rw [eo_el] at K
  exact K
set_option maxHeartbeats 4000000 in
set_option maxRecDepth 100000 in
theorem l_X8_isWithin {Z : zS} {d : Nat} {w : zW} {b m x y z : Nat} (hb : b < 256) (hm3 : m ≤ 3) (hx : x < 4) (hy : y < 4) (hz : z < 4) : ∀ (n : Nat) (i : Nat), i + n = 343 → zG Z M_X8_isWithin (d + 4) (fun r1 w1 => r1 = [.int (if wiL b m x y z n i = true then 1 else 0)] ∧ w1 = w) w.length 6 [(0, .int (nI b)), (1, .int (nI m)), (2, .int (nI x)), (3, .int (nI y)), (4, .int (nI z)), (5, .int 1), (6, .int (nI i))] [] w := by
  intro n
  induction n with
  | zero =>
    intro i hi
    have hi : i = 343 := by omega
    subst hi
    refine s_iload dX8_isWithin_6 rfl ?_
    refine s_sipush (v := 343) dX8_isWithin_8 rfl ?_
    refine s_icmp_ge (tgt := 52) dX8_isWithin_11 (by decide) (fun hz => ?_) (fun hqz => absurd (by decide) hqz)
    clear hz
    refine s_iload dX8_isWithin_52 rfl ?_
    exact s_zret dX8_isWithin_54 rfl (by first | exact Or.inl rfl | exact Or.inr rfl) ⟨rfl, rfl⟩ rfl
  | succ n ih =>
    intro i hi
    have hm : i < 343 := by omega
    have hr := pWP_rng hm hx hy hz
    have hr1 : zRng (pWP i x y z) := by unfold zRng; omega
    have hq := mq_rng (b := b) hm 8 (Nat.le_refl _)
    have hr2 : zRng ((m : Int) * mqL b i 8) := by
      rcases (show m = 0 ∨ m = 1 ∨ m = 2 ∨ m = 3 by omega) with rfl | rfl | rfl | rfl <;> (unfold zRng; omega)
    by_cases hh : pWP i x y z ≤ (m : Int) * mqL b i 8
    · rw [show wiL b m x y z (n + 1) i = wiL b m x y z n (i + 1) from by rw [wiL, if_pos hh]]
      refine s_iload dX8_isWithin_6 rfl ?_
      refine s_sipush (v := 343) dX8_isWithin_8 rfl ?_
      refine s_icmp_ge (tgt := 52) dX8_isWithin_11 (by decide) (fun hqz => absurd hqz (nI_ge hm (by decide))) (fun hz => ?_)
      clear hz
      refine s_iload dX8_isWithin_14 rfl ?_
      refine s_if_eq (tgt := 52) dX8_isWithin_16 (by decide) (fun hqz => absurd hqz (by decide)) (fun hz => ?_)
      clear hz
      refine s_iload dX8_isWithin_19 rfl ?_
      refine s_iload_n dX8_isWithin_21 rfl ?_
      refine s_iload_n dX8_isWithin_22 rfl ?_
      refine s_iload dX8_isWithin_23 rfl ?_
      refine s_cs1 dX8_isWithin_25 g_X8_88 (c_wtP hm) rfl rfl (Nat.le_of_ble_eq_true rfl) (Nat.le_of_ble_eq_true rfl) rfl ?_
      refine s_iload_n dX8_isWithin_28 rfl ?_
      refine s_iload_n dX8_isWithin_29 rfl ?_
      refine s_iload dX8_isWithin_30 rfl ?_
      refine s_cs1 dX8_isWithin_32 g_X8_95 (c_X8_mostOf hb hm) rfl rfl (Nat.le_of_ble_eq_true rfl) (Nat.le_of_ble_eq_true rfl) rfl ?_
      refine s_imul dX8_isWithin_35 ?_
      rw [nI_nZ m, ← Int32.ofInt_mul]
      refine s_icmp_gt (tgt := 43) dX8_isWithin_36 (by decide) (fun hqz => absurd hqz (fun q => Int.not_lt.mpr hh ((nZ_lt hr2 hr1).mp q))) (fun hz => ?_)
      clear hz
      refine s_iconst (v := 1) dX8_isWithin_39 rfl ?_
      refine s_goto (tgt := 44) dX8_isWithin_40 (by decide) ?_
      refine s_istore dX8_isWithin_44 (Nat.le_of_ble_eq_true rfl) rfl ?_
      refine s_iinc (nI (i + 1)) dX8_isWithin_46 rfl (nI_1 _) (Nat.le_of_ble_eq_true rfl) rfl ?_
      refine s_goto (tgt := 6) dX8_isWithin_49 (by decide) ?_
      exact ih (i + 1) (by omega)
    · rw [show wiL b m x y z (n + 1) i = false from by rw [wiL, if_neg hh]]
      refine s_iload dX8_isWithin_6 rfl ?_
      refine s_sipush (v := 343) dX8_isWithin_8 rfl ?_
      refine s_icmp_ge (tgt := 52) dX8_isWithin_11 (by decide) (fun hqz => absurd hqz (nI_ge hm (by decide))) (fun hz => ?_)
      clear hz
      refine s_iload dX8_isWithin_14 rfl ?_
      refine s_if_eq (tgt := 52) dX8_isWithin_16 (by decide) (fun hqz => absurd hqz (by decide)) (fun hz => ?_)
      clear hz
      refine s_iload dX8_isWithin_19 rfl ?_
      refine s_iload_n dX8_isWithin_21 rfl ?_
      refine s_iload_n dX8_isWithin_22 rfl ?_
      refine s_iload dX8_isWithin_23 rfl ?_
      refine s_cs1 dX8_isWithin_25 g_X8_88 (c_wtP hm) rfl rfl (Nat.le_of_ble_eq_true rfl) (Nat.le_of_ble_eq_true rfl) rfl ?_
      refine s_iload_n dX8_isWithin_28 rfl ?_
      refine s_iload_n dX8_isWithin_29 rfl ?_
      refine s_iload dX8_isWithin_30 rfl ?_
      refine s_cs1 dX8_isWithin_32 g_X8_95 (c_X8_mostOf hb hm) rfl rfl (Nat.le_of_ble_eq_true rfl) (Nat.le_of_ble_eq_true rfl) rfl ?_
      refine s_imul dX8_isWithin_35 ?_
      rw [nI_nZ m, ← Int32.ofInt_mul]
      refine s_icmp_gt (tgt := 43) dX8_isWithin_36 (by decide) (fun hz => ?_) (fun hqz => absurd ((nZ_lt hr2 hr1).mpr (Int.not_le.mp hh)) hqz)
      clear hz
      refine s_iconst (v := 0) dX8_isWithin_43 rfl ?_
      refine s_istore dX8_isWithin_44 (Nat.le_of_ble_eq_true rfl) rfl ?_
      refine s_iinc (nI (i + 1)) dX8_isWithin_46 rfl (nI_1 _) (Nat.le_of_ble_eq_true rfl) rfl ?_
      refine s_goto (tgt := 6) dX8_isWithin_49 (by decide) ?_
      refine s_iload dX8_isWithin_6 rfl ?_
      refine s_sipush (v := 343) dX8_isWithin_8 rfl ?_
      refine s_icmp_ge (tgt := 52) dX8_isWithin_11 (by decide) (fun h_11 => ?_) (fun h_11 => ?_)
      · refine s_iload dX8_isWithin_52 rfl ?_
        exact s_zret dX8_isWithin_54 rfl (by first | exact Or.inl rfl | exact Or.inr rfl) ⟨rfl, rfl⟩ rfl
      · refine s_iload dX8_isWithin_14 rfl ?_
        refine s_if_eq (tgt := 52) dX8_isWithin_16 (by decide) (fun hz => ?_) (fun hqz => absurd rfl hqz)
        clear hz
        refine s_iload dX8_isWithin_52 rfl ?_
        exact s_zret dX8_isWithin_54 rfl (by first | exact Or.inl rfl | exact Or.inr rfl) ⟨rfl, rfl⟩ rfl
set_option maxHeartbeats 4000000 in
set_option maxRecDepth 100000 in
theorem c_X8_isWithin {Z : zS} {d : Nat} {w : zW} {b m x y z : Nat} (hb : b < 256) (h0 : b ≠ 0) (hm3 : m ≤ 3) (hx : x < 4) (hy : y < 4) (hz : z < 4) : zF Z M_X8_isWithin (d + 4) [.int (nI b), .int (nI m), .int (nI x), .int (nI y), .int (nI z)] w [.int (if kIN b m x y z 171 0 = true then 1 else 0)] w := by
  show zG Z M_X8_isWithin (d + 4) _ _ 0 [(0, .int (nI b)), (1, .int (nI m)), (2, .int (nI x)), (3, .int (nI y)), (4, .int (nI z))] [] w
  refine s_iconst (v := 1) dX8_isWithin_0 rfl ?_
  refine s_istore dX8_isWithin_1 (Nat.le_of_ble_eq_true rfl) rfl ?_
  refine s_iconst (v := 0) dX8_isWithin_3 rfl ?_
  refine s_istore dX8_isWithin_4 (Nat.le_of_ble_eq_true rfl) rfl ?_
  have K := l_X8_isWithin (Z := Z) (d := d) (w := w) hb hm3 hx hy hz 343 0 rfl
  rw [wi_in hb h0] at K
  exact K
theorem q_pl2 : ∀ p, p < 64 → nI p >>> ((4 : Int32) &&& 31) = nI (p / 16 % 4) := by decide +kernel
set_option maxHeartbeats 4000000 in
set_option maxRecDepth 100000 in
theorem l_X8_pointsOf {Z : zS} {d : Nat} {w : zW} {b m : Nat} (hb : b < 256) (h0 : b ≠ 0) (hm3 : m ≤ 3) : ∀ (n : Nat) (p a : Nat), p + n = 64 → zG Z M_X8_pointsOf (d + 5) (fun r1 w1 => r1 = [.int (nI (kPL b m n p a))] ∧ w1 = w) w.length 4 [(0, .int (nI b)), (1, .int (nI m)), (2, .int (nI a)), (3, .int (nI p))] [] w := by
  intro n
  induction n with
  | zero =>
    intro p a hp
    have hp : p = 64 := by omega
    subst hp
    refine s_iload_n dX8_pointsOf_4 rfl ?_
    refine s_bipush (v := 64) dX8_pointsOf_5 rfl ?_
    refine s_icmp_ge (tgt := 43) dX8_pointsOf_7 (by decide) (fun hz => ?_) (fun hqz => absurd (by decide) hqz)
    clear hz
    refine s_iload_n dX8_pointsOf_43 rfl ?_
    exact s_iret dX8_pointsOf_44 rfl ⟨rfl, rfl⟩ rfl
  | succ n ih =>
    intro p a hp
    have hm : p < 64 := by omega
    refine s_iload_n dX8_pointsOf_4 rfl ?_
    refine s_bipush (v := 64) dX8_pointsOf_5 rfl ?_
    refine s_icmp_ge (tgt := 43) dX8_pointsOf_7 (by decide) (fun hqz => absurd hqz (nI_ge hm (by decide))) (fun hz => ?_)
    clear hz
    refine s_iload_n dX8_pointsOf_10 rfl ?_
    refine s_iload_n dX8_pointsOf_11 rfl ?_
    refine s_iload_n dX8_pointsOf_12 rfl ?_
    refine s_iload_n dX8_pointsOf_13 rfl ?_
    refine s_iconst (v := 3) dX8_pointsOf_14 rfl ?_
    refine s_iand dX8_pointsOf_15 ?_
    refine s_iload_n dX8_pointsOf_16 rfl ?_
    refine s_iconst (v := 2) dX8_pointsOf_17 rfl ?_
    refine s_ishr dX8_pointsOf_18 ?_
    refine s_iconst (v := 3) dX8_pointsOf_19 rfl ?_
    refine s_iand dX8_pointsOf_20 ?_
    refine s_iload_n dX8_pointsOf_21 rfl ?_
    refine s_iconst (v := 4) dX8_pointsOf_22 rfl ?_
    refine s_ishr dX8_pointsOf_23 ?_
    rw [(q_pl p hm).1, (q_pl p hm).2.1, q_pl2 p hm]
    refine s_cs1 dX8_pointsOf_24 g_X8_112 (c_X8_isWithin hb h0 hm3 (Nat.mod_lt _ (by decide)) (Nat.mod_lt _ (by decide)) (Nat.mod_lt _ (by decide))) rfl rfl (Nat.le_of_ble_eq_true rfl) (Nat.le_of_ble_eq_true rfl) rfl ?_
    refine s_if_eq (tgt := 34) dX8_pointsOf_27 (by decide) (fun h_27 => ?_) (fun h_27 => ?_)
    · refine s_iconst (v := 0) dX8_pointsOf_34 rfl ?_
      refine s_iadd dX8_pointsOf_35 ?_
      refine s_istore_n dX8_pointsOf_36 (Nat.le_of_ble_eq_true rfl) rfl ?_
      refine s_iinc (nI (p + 1)) dX8_pointsOf_37 rfl (nI_1 _) (Nat.le_of_ble_eq_true rfl) rfl ?_
      refine s_goto (tgt := 4) dX8_pointsOf_40 (by decide) ?_
      first
        | (rw [nI_1, show kPL b m (n + 1) p a = kPL b m n (p + 1) (a + 1) from by rw [kPL, if_pos (zB1 h_27)]]
           exact ih (p + 1) (a + 1) (by omega))
        | (rw [Int32.add_zero, show kPL b m (n + 1) p a = kPL b m n (p + 1) a from by rw [kPL, if_neg (by rw [zB0 h_27]; decide)]]
           exact ih (p + 1) a (by omega))
    · refine s_iconst (v := 1) dX8_pointsOf_30 rfl ?_
      refine s_goto (tgt := 35) dX8_pointsOf_31 (by decide) ?_
      refine s_iadd dX8_pointsOf_35 ?_
      refine s_istore_n dX8_pointsOf_36 (Nat.le_of_ble_eq_true rfl) rfl ?_
      refine s_iinc (nI (p + 1)) dX8_pointsOf_37 rfl (nI_1 _) (Nat.le_of_ble_eq_true rfl) rfl ?_
      refine s_goto (tgt := 4) dX8_pointsOf_40 (by decide) ?_
      first
        | (rw [nI_1, show kPL b m (n + 1) p a = kPL b m n (p + 1) (a + 1) from by rw [kPL, if_pos (zB1 h_27)]]
           exact ih (p + 1) (a + 1) (by omega))
        | (rw [Int32.add_zero, show kPL b m (n + 1) p a = kPL b m n (p + 1) a from by rw [kPL, if_neg (by rw [zB0 h_27]; decide)]]
           exact ih (p + 1) a (by omega))
set_option maxHeartbeats 4000000 in
set_option maxRecDepth 100000 in
theorem c_X8_pointsOf {Z : zS} {d : Nat} {w : zW} {b m : Nat} (hb : b < 256) (h0 : b ≠ 0) (hm3 : m ≤ 3) : zF Z M_X8_pointsOf (d + 5) [.int (nI b), .int (nI m)] w [.int (nI (kPT b m))] w := by
  show zG Z M_X8_pointsOf (d + 5) _ _ 0 [(0, .int (nI b)), (1, .int (nI m))] [] w
  refine s_iconst (v := 0) dX8_pointsOf_0 rfl ?_
  refine s_istore_n dX8_pointsOf_1 (Nat.le_of_ble_eq_true rfl) rfl ?_
  refine s_iconst (v := 0) dX8_pointsOf_2 rfl ?_
  refine s_istore_n dX8_pointsOf_3 (Nat.le_of_ble_eq_true rfl) rfl ?_
  exact l_X8_pointsOf hb h0 hm3 64 0 0 rfl
set_option maxHeartbeats 4000000 in
set_option maxRecDepth 100000 in
theorem c_X8_sixfold {Z : zS} {d : Nat} {w : zW} {b : Nat} (hb : b < 256) : zF Z M_X8_sixfold (d + 6) [.int (nI b)] w [.int (kSIX b)] w := by
  show zG Z M_X8_sixfold (d + 6) _ _ 0 [(0, .int (nI b))] [] w
  by_cases h0 : b = 0
  · subst h0
    refine s_iload_n dX8_sixfold_0 rfl ?_
    refine s_if_ne (tgt := 8) dX8_sixfold_1 (by decide) (fun hqz => absurd rfl hqz) (fun hz => ?_)
    clear hz
    refine s_iconst (v := 0) dX8_sixfold_4 rfl ?_
    refine s_goto (tgt := 31) dX8_sixfold_5 (by decide) ?_
    exact s_iret dX8_sixfold_31 rfl ⟨rfl, rfl⟩ rfl
  · rw [show kSIX b = nI (kPT b 3) - 3 * nI (kPT b 2) + 3 * nI (kPT b 1) - 1 from if_neg h0]
    refine s_iload_n dX8_sixfold_0 rfl ?_
    refine s_if_ne (tgt := 8) dX8_sixfold_1 (by decide) (fun hz => ?_) (fun hqz => absurd hqz (fun q => h0 ((zn0 (by omega)).mp q)))
    clear hz
    refine s_iload_n dX8_sixfold_8 rfl ?_
    refine s_iconst (v := 3) dX8_sixfold_9 rfl ?_
    refine s_cs1 dX8_sixfold_10 g_X8_116 (c_X8_pointsOf (m := 3) hb h0 (by decide)) rfl rfl (Nat.le_of_ble_eq_true rfl) (Nat.le_of_ble_eq_true rfl) rfl ?_
    refine s_iconst (v := 3) dX8_sixfold_13 rfl ?_
    refine s_iload_n dX8_sixfold_14 rfl ?_
    refine s_iconst (v := 2) dX8_sixfold_15 rfl ?_
    refine s_cs1 dX8_sixfold_16 g_X8_116 (c_X8_pointsOf (m := 2) hb h0 (by decide)) rfl rfl (Nat.le_of_ble_eq_true rfl) (Nat.le_of_ble_eq_true rfl) rfl ?_
    refine s_imul dX8_sixfold_19 ?_
    refine s_isub dX8_sixfold_20 ?_
    refine s_iconst (v := 3) dX8_sixfold_21 rfl ?_
    refine s_iload_n dX8_sixfold_22 rfl ?_
    refine s_iconst (v := 1) dX8_sixfold_23 rfl ?_
    refine s_cs1 dX8_sixfold_24 g_X8_116 (c_X8_pointsOf (m := 1) hb h0 (by decide)) rfl rfl (Nat.le_of_ble_eq_true rfl) (Nat.le_of_ble_eq_true rfl) rfl ?_
    refine s_imul dX8_sixfold_27 ?_
    refine s_iadd dX8_sixfold_28 ?_
    refine s_iconst (v := 1) dX8_sixfold_29 rfl ?_
    refine s_isub dX8_sixfold_30 ?_
    exact s_iret dX8_sixfold_31 rfl ⟨rfl, rfl⟩ rfl
set_option maxHeartbeats 4000000 in
set_option maxRecDepth 100000 in
theorem l_X8_width {Z : zS} {d : Nat} {w : zW} {b : Nat} (hb : b < 256) : ∀ (n : Nat) (i : Nat) (a : Int), i + n = 343 → zRng a → zG Z M_X8_width (d + 5) (fun r1 w1 => r1 = [.int (nZ (wdL b n i a))] ∧ w1 = w) w.length 12 [(0, .int (nI b)), (1, .int (nZ a)), (2, .int (nI i))] [] w := by
  intro n
  induction n with
  | zero =>
    intro i a hi ha
    have hi : i = 343 := by omega
    subst hi
    refine s_iload_n dX8_width_12 rfl ?_
    refine s_sipush (v := 343) dX8_width_13 rfl ?_
    refine s_icmp_ge (tgt := 55) dX8_width_16 (by decide) (fun hz => ?_) (fun hqz => absurd (by decide) hqz)
    clear hz
    refine s_iload_n dX8_width_55 rfl ?_
    exact s_iret dX8_width_56 rfl ⟨rfl, rfl⟩ rfl
  | succ n ih =>
    intro i a hi ha
    have hm : i < 343 := by omega
    have hv := zV_rng (b := b) hm
    have hv2 : zRng (zV b i) := by unfold zRng; omega
    refine s_iload_n dX8_width_12 rfl ?_
    refine s_sipush (v := 343) dX8_width_13 rfl ?_
    refine s_icmp_ge (tgt := 55) dX8_width_16 (by decide) (fun hqz => absurd hqz (nI_ge hm (by decide))) (fun hz => ?_)
    clear hz
    refine s_iload_n dX8_width_19 rfl ?_
    refine s_iload_n dX8_width_20 rfl ?_
    refine s_cs1 dX8_width_21 g_X8_95 (c_X8_mostOf hb hm) rfl rfl (Nat.le_of_ble_eq_true rfl) (Nat.le_of_ble_eq_true rfl) rfl ?_
    refine s_iload_n dX8_width_24 rfl ?_
    refine s_iload_n dX8_width_25 rfl ?_
    refine s_cs1 dX8_width_26 g_X8_119 (c_X8_leastOf hb hm) rfl rfl (Nat.le_of_ble_eq_true rfl) (Nat.le_of_ble_eq_true rfl) rfl ?_
    refine s_isub dX8_width_29 ?_
    rw [← Int32.ofInt_sub, show mqL b i 8 - -mqL b (342 - i) 8 = zV b i from rfl]
    refine s_istore_n dX8_width_30 (Nat.le_of_ble_eq_true rfl) rfl ?_
    refine s_iload_n dX8_width_31 rfl ?_
    refine s_cs1 dX8_width_32 g_X8_101 (c_X8_isNought hm) rfl rfl (Nat.le_of_ble_eq_true rfl) (Nat.le_of_ble_eq_true rfl) rfl ?_
    refine s_if_ne (tgt := 47) dX8_width_35 (by decide) (fun h_35 => ?_) (fun h_35 => ?_)
    · refine s_iload_n dX8_width_47 rfl ?_
      refine s_istore_n dX8_width_48 (Nat.le_of_ble_eq_true rfl) rfl ?_
      refine s_iinc (nI (i + 1)) dX8_width_49 rfl (nI_1 _) (Nat.le_of_ble_eq_true rfl) rfl ?_
      refine s_goto (tgt := 12) dX8_width_52 (by decide) ?_
      rw [show wdL b (n + 1) i a = wdL b n (i + 1) a from by rw [wdL, if_neg (fun q => q.1 (zNO h_35))]]
      refine s_take 3 ?_
      exact ih (i + 1) a (by omega) ha
    · refine s_iload_n dX8_width_38 rfl ?_
      refine s_iload_n dX8_width_39 rfl ?_
      refine s_icmp_ge (tgt := 47) dX8_width_40 (by decide) (fun h_40 => ?_) (fun h_40 => ?_)
      · refine s_iload_n dX8_width_47 rfl ?_
        refine s_istore_n dX8_width_48 (Nat.le_of_ble_eq_true rfl) rfl ?_
        refine s_iinc (nI (i + 1)) dX8_width_49 rfl (nI_1 _) (Nat.le_of_ble_eq_true rfl) rfl ?_
        refine s_goto (tgt := 12) dX8_width_52 (by decide) ?_
        first
          | (rw [show wdL b (n + 1) i a = wdL b n (i + 1) a from by rw [wdL, if_neg (fun q => absurd q.2 (Int.not_lt.mpr ((nZ_le ha hv2).mp h_40)))]]
             refine s_take 3 ?_
             exact ih (i + 1) a (by omega) ha)
          | (rw [show wdL b (n + 1) i a = wdL b n (i + 1) (zV b i) from by rw [wdL, if_pos ⟨zNN h_35, Int.not_le.mp (fun q => h_40 ((nZ_le ha hv2).mpr q))⟩]]
             refine s_take 3 ?_
             exact ih (i + 1) (zV b i) (by omega) hv2)
      · refine s_iload_n dX8_width_43 rfl ?_
        refine s_goto (tgt := 48) dX8_width_44 (by decide) ?_
        refine s_istore_n dX8_width_48 (Nat.le_of_ble_eq_true rfl) rfl ?_
        refine s_iinc (nI (i + 1)) dX8_width_49 rfl (nI_1 _) (Nat.le_of_ble_eq_true rfl) rfl ?_
        refine s_goto (tgt := 12) dX8_width_52 (by decide) ?_
        first
          | (rw [show wdL b (n + 1) i a = wdL b n (i + 1) a from by rw [wdL, if_neg (fun q => absurd q.2 (Int.not_lt.mpr ((nZ_le ha hv2).mp h_40)))]]
             refine s_take 3 ?_
             exact ih (i + 1) a (by omega) ha)
          | (rw [show wdL b (n + 1) i a = wdL b n (i + 1) (zV b i) from by rw [wdL, if_pos ⟨zNN h_35, Int.not_le.mp (fun q => h_40 ((nZ_le ha hv2).mpr q))⟩]]
             refine s_take 3 ?_
             exact ih (i + 1) (zV b i) (by omega) hv2)
set_option maxHeartbeats 4000000 in
set_option maxRecDepth 100000 in
theorem c_X8_width {Z : zS} {d : Nat} {w : zW} {b : Nat} (hb : b < 256) : zF Z M_X8_width (d + 5) [.int (nI b)] w [.int (kLW b)] w := by
  show zG Z M_X8_width (d + 5) _ _ 0 [(0, .int (nI b))] [] w
  by_cases h0 : b = 0
  · subst h0
    refine s_iload_n dX8_width_0 rfl ?_
    refine s_if_ne (tgt := 7) dX8_width_1 (by decide) (fun hqz => absurd rfl hqz) (fun hz => ?_)
    clear hz
    refine s_bipush (v := (-5)) dX8_width_4 rfl ?_
    exact s_iret dX8_width_6 rfl ⟨rfl, rfl⟩ rfl
  · rw [show kLW b = nZ (lwL b 171) from if_neg h0, ← wd_lw hb h0]
    refine s_iload_n dX8_width_0 rfl ?_
    refine s_if_ne (tgt := 7) dX8_width_1 (by decide) (fun hz => ?_) (fun hqz => absurd hqz (fun q => h0 ((zn0 (by omega)).mp q)))
    clear hz
    refine s_bipush (v := 99) dX8_width_7 rfl ?_
    refine s_istore_n dX8_width_9 (Nat.le_of_ble_eq_true rfl) rfl ?_
    refine s_iconst (v := 0) dX8_width_10 rfl ?_
    refine s_istore_n dX8_width_11 (Nat.le_of_ble_eq_true rfl) rfl ?_
    exact l_X8_width hb 343 0 99 rfl (by unfold zRng; omega)
set_option maxHeartbeats 4000000 in
set_option maxRecDepth 100000 in
theorem l_pO {Z : zS} {d : Nat} {w : zW} {Q : List Value → zW → Prop} {p q r : Int32} : ∀ (n x y : Nat) (K : zG Z M_X8_partOf d Q w.length 26 [(0, .int p), (1, .int q), (2, .int r), (3, .int (nI (cdL n x y)))] [] w), y < n → x < 2 ^ 31 → y < 2 ^ 31 → zG Z M_X8_partOf d Q w.length 5 [(0, .int p), (1, .int q), (2, .int r), (3, .int (nI x)), (4, .int (nI y))] [] w := by
  intro n
  induction n with
  | zero =>
    intro x y K h
    exact absurd h (Nat.not_lt_zero y)
  | succ n ih =>
    intro x y K h hx hy
    by_cases hy0 : y = 0
    · subst hy0
      rw [show cdL (n + 1) x 0 = x from by rw [cdL, if_pos rfl]] at K
      refine s_iload dX8_partOf_5 rfl ?_
      refine s_if_eq (tgt := 26) dX8_partOf_7 (by decide) (fun hz => ?_) (fun hqz => absurd rfl hqz)
      clear hz
      refine s_take 4 ?_
      exact K
    · rw [show cdL (n + 1) x y = cdL n y (x % y) from by rw [cdL, if_neg hy0]] at K
      have hy1 : ¬ nI y = 0 := fun z => hy0 ((zn0 hy).mp z)
      have hml := Nat.mod_lt x (show 0 < y by omega)
      refine s_iload dX8_partOf_5 rfl ?_
      refine s_if_eq (tgt := 26) dX8_partOf_7 (by decide) (fun hqz => absurd hqz hy1) (fun hz => ?_)
      clear hz
      refine s_iload_n dX8_partOf_10 rfl ?_
      refine s_iload dX8_partOf_11 rfl ?_
      refine s_irem dX8_partOf_13 hy1 ?_
      rw [pk_rem hx (by omega) hy]
      refine s_istore dX8_partOf_14 (Nat.le_of_ble_eq_true rfl) rfl ?_
      refine s_iload dX8_partOf_16 rfl ?_
      refine s_istore_n dX8_partOf_18 (Nat.le_of_ble_eq_true rfl) rfl ?_
      refine s_iload dX8_partOf_19 rfl ?_
      refine s_istore dX8_partOf_21 (Nat.le_of_ble_eq_true rfl) rfl ?_
      refine s_goto (tgt := 5) dX8_partOf_23 (by decide) ?_
      refine s_take 5 ?_
      exact ih y (x % y) K (by omega) hy (by omega)
set_option maxHeartbeats 4000000 in
set_option maxRecDepth 100000 in
theorem c_pO0 {Z : zS} {d : Nat} {w : zW} {a : Nat} (ha : a < 400) : zF Z M_X8_partOf (d) [.int (nI a), .int (nI 48), .int (nI 0)] w [.long (kLO a 0)] w := by
  show zG Z M_X8_partOf (d) _ _ 0 [(0, .int (nI a)), (1, .int (nI 48)), (2, .int (nI 0))] [] w
  refine s_iload_n dX8_partOf_0 rfl ?_
  refine s_istore_n dX8_partOf_1 (Nat.le_of_ble_eq_true rfl) rfl ?_
  refine s_iload_n dX8_partOf_2 rfl ?_
  refine s_istore dX8_partOf_3 (Nat.le_of_ble_eq_true rfl) rfl ?_
  refine l_pO 100 a 48 ?_ (by decide) (by omega) (by decide)
  refine s_iload_n dX8_partOf_26 rfl ?_
  refine s_if_ne (tgt := 37) dX8_partOf_27 (by decide) (fun hqz => absurd rfl hqz) (fun hz => ?_)
  clear hz
  refine s_iload_n dX8_partOf_30 rfl ?_
  refine s_iload_n dX8_partOf_31 rfl ?_
  refine s_idiv dX8_partOf_32 (q_cd a ha).2 ?_
  refine s_i2l dX8_partOf_33 rfl ?_
  refine s_goto (tgt := 41) dX8_partOf_34 (by decide) ?_
  exact s_lret dX8_partOf_41 rfl ⟨rfl, rfl⟩ rfl
set_option maxHeartbeats 4000000 in
set_option maxRecDepth 100000 in
theorem c_pO1 {Z : zS} {d : Nat} {w : zW} {a : Nat} (ha : a < 400) : zF Z M_X8_partOf (d) [.int (nI a), .int (nI 48), .int (nI 1)] w [.long (kLO a 1)] w := by
  show zG Z M_X8_partOf (d) _ _ 0 [(0, .int (nI a)), (1, .int (nI 48)), (2, .int (nI 1))] [] w
  refine s_iload_n dX8_partOf_0 rfl ?_
  refine s_istore_n dX8_partOf_1 (Nat.le_of_ble_eq_true rfl) rfl ?_
  refine s_iload_n dX8_partOf_2 rfl ?_
  refine s_istore dX8_partOf_3 (Nat.le_of_ble_eq_true rfl) rfl ?_
  refine l_pO 100 a 48 ?_ (by decide) (by omega) (by decide)
  refine s_iload_n dX8_partOf_26 rfl ?_
  refine s_if_ne (tgt := 37) dX8_partOf_27 (by decide) (fun hz => ?_) (fun hqz => absurd hqz (by decide))
  clear hz
  refine s_iload_n dX8_partOf_37 rfl ?_
  refine s_iload_n dX8_partOf_38 rfl ?_
  refine s_idiv dX8_partOf_39 (q_cd a ha).2 ?_
  refine s_i2l dX8_partOf_40 rfl ?_
  exact s_lret dX8_partOf_41 rfl ⟨rfl, rfl⟩ rfl
theorem c_X8_partOf {Z : zS} {d : Nat} {w : zW} {a p : Nat} (ha : a < 400) (hp : p < 2) : zF Z M_X8_partOf d [.int (nI a), .int (nI 48), .int (nI p)] w [.long (kLO a p)] w := by
  rcases (show p = 0 ∨ p = 1 by omega) with rfl | rfl
  · exact c_pO0 ha
  · exact c_pO1 ha
set_option maxHeartbeats 4000000 in
set_option maxRecDepth 100000 in
theorem c_lo0 {Z : zS} {d : Nat} {w : zW} {v : Int64} : zF Z M_X8_lowest (d) [.int (nI 0), .long v] w [.long (zcut 0 v)] w := by
  show zG Z M_X8_lowest (d) _ _ 0 [(0, .int (nI 0)), (1, .long v)] [] w
  refine s_iload_n dX8_lowest_0 rfl ?_
  refine s_if_ne (tgt := 11) dX8_lowest_1 (by decide) (fun hqz => absurd rfl hqz) (fun hz => ?_)
  clear hz
  refine s_lload_n dX8_lowest_4 rfl ?_
  refine s_l2i dX8_lowest_5 rfl ?_
  refine s_i2b dX8_lowest_6 rfl ?_
  refine s_i2l dX8_lowest_7 rfl ?_
  refine s_goto (tgt := 54) dX8_lowest_8 (by decide) ?_
  exact s_lret dX8_lowest_54 rfl ⟨rfl, rfl⟩ rfl
set_option maxHeartbeats 4000000 in
set_option maxRecDepth 100000 in
theorem c_lo1 {Z : zS} {d : Nat} {w : zW} {v : Int64} : zF Z M_X8_lowest (d) [.int (nI 1), .long v] w [.long (zcut 1 v)] w := by
  show zG Z M_X8_lowest (d) _ _ 0 [(0, .int (nI 1)), (1, .long v)] [] w
  refine s_iload_n dX8_lowest_0 rfl ?_
  refine s_if_ne (tgt := 11) dX8_lowest_1 (by decide) (fun hz => ?_) (fun hqz => absurd hqz (by decide))
  clear hz
  refine s_iload_n dX8_lowest_11 rfl ?_
  refine s_iconst (v := 1) dX8_lowest_12 rfl ?_
  refine s_icmp_ne (tgt := 23) dX8_lowest_13 (by decide) (fun hqz => absurd rfl hqz) (fun hz => ?_)
  clear hz
  refine s_lload_n dX8_lowest_16 rfl ?_
  refine s_l2i dX8_lowest_17 rfl ?_
  refine s_i2s dX8_lowest_18 rfl ?_
  refine s_i2l dX8_lowest_19 rfl ?_
  refine s_goto (tgt := 54) dX8_lowest_20 (by decide) ?_
  exact s_lret dX8_lowest_54 rfl ⟨rfl, rfl⟩ rfl
set_option maxHeartbeats 4000000 in
set_option maxRecDepth 100000 in
theorem c_lo2 {Z : zS} {d : Nat} {w : zW} {v : Int64} : zF Z M_X8_lowest (d) [.int (nI 2), .long v] w [.long (zcut 2 v)] w := by
  show zG Z M_X8_lowest (d) _ _ 0 [(0, .int (nI 2)), (1, .long v)] [] w
  refine s_iload_n dX8_lowest_0 rfl ?_
  refine s_if_ne (tgt := 11) dX8_lowest_1 (by decide) (fun hz => ?_) (fun hqz => absurd hqz (by decide))
  clear hz
  refine s_iload_n dX8_lowest_11 rfl ?_
  refine s_iconst (v := 1) dX8_lowest_12 rfl ?_
  refine s_icmp_ne (tgt := 23) dX8_lowest_13 (by decide) (fun hz => ?_) (fun hqz => absurd hqz (by decide))
  clear hz
  refine s_iload_n dX8_lowest_23 rfl ?_
  refine s_iconst (v := 2) dX8_lowest_24 rfl ?_
  refine s_icmp_ne (tgt := 34) dX8_lowest_25 (by decide) (fun hqz => absurd rfl hqz) (fun hz => ?_)
  clear hz
  refine s_lload_n dX8_lowest_28 rfl ?_
  refine s_l2i dX8_lowest_29 rfl ?_
  refine s_i2l dX8_lowest_30 rfl ?_
  refine s_goto (tgt := 54) dX8_lowest_31 (by decide) ?_
  exact s_lret dX8_lowest_54 rfl ⟨rfl, rfl⟩ rfl
set_option maxHeartbeats 4000000 in
set_option maxRecDepth 100000 in
theorem c_lo3 {Z : zS} {d : Nat} {w : zW} {v : Int64} : zF Z M_X8_lowest (d) [.int (nI 3), .long v] w [.long (zcut 3 v)] w := by
  show zG Z M_X8_lowest (d) _ _ 0 [(0, .int (nI 3)), (1, .long v)] [] w
  refine s_iload_n dX8_lowest_0 rfl ?_
  refine s_if_ne (tgt := 11) dX8_lowest_1 (by decide) (fun hz => ?_) (fun hqz => absurd hqz (by decide))
  clear hz
  refine s_iload_n dX8_lowest_11 rfl ?_
  refine s_iconst (v := 1) dX8_lowest_12 rfl ?_
  refine s_icmp_ne (tgt := 23) dX8_lowest_13 (by decide) (fun hz => ?_) (fun hqz => absurd hqz (by decide))
  clear hz
  refine s_iload_n dX8_lowest_23 rfl ?_
  refine s_iconst (v := 2) dX8_lowest_24 rfl ?_
  refine s_icmp_ne (tgt := 34) dX8_lowest_25 (by decide) (fun hz => ?_) (fun hqz => absurd hqz (by decide))
  clear hz
  refine s_iload_n dX8_lowest_34 rfl ?_
  refine s_iconst (v := 3) dX8_lowest_35 rfl ?_
  refine s_icmp_ne (tgt := 43) dX8_lowest_36 (by decide) (fun hqz => absurd rfl hqz) (fun hz => ?_)
  clear hz
  refine s_lload_n dX8_lowest_39 rfl ?_
  refine s_goto (tgt := 54) dX8_lowest_40 (by decide) ?_
  exact s_lret dX8_lowest_54 rfl ⟨rfl, rfl⟩ rfl
set_option maxHeartbeats 4000000 in
set_option maxRecDepth 100000 in
theorem c_lo4 {Z : zS} {d : Nat} {w : zW} {v : Int64} : zF Z M_X8_lowest (d) [.int (nI 4), .long v] w [.long (zcut 4 v)] w := by
  show zG Z M_X8_lowest (d) _ _ 0 [(0, .int (nI 4)), (1, .long v)] [] w
  refine s_iload_n dX8_lowest_0 rfl ?_
  refine s_if_ne (tgt := 11) dX8_lowest_1 (by decide) (fun hz => ?_) (fun hqz => absurd hqz (by decide))
  clear hz
  refine s_iload_n dX8_lowest_11 rfl ?_
  refine s_iconst (v := 1) dX8_lowest_12 rfl ?_
  refine s_icmp_ne (tgt := 23) dX8_lowest_13 (by decide) (fun hz => ?_) (fun hqz => absurd hqz (by decide))
  clear hz
  refine s_iload_n dX8_lowest_23 rfl ?_
  refine s_iconst (v := 2) dX8_lowest_24 rfl ?_
  refine s_icmp_ne (tgt := 34) dX8_lowest_25 (by decide) (fun hz => ?_) (fun hqz => absurd hqz (by decide))
  clear hz
  refine s_iload_n dX8_lowest_34 rfl ?_
  refine s_iconst (v := 3) dX8_lowest_35 rfl ?_
  refine s_icmp_ne (tgt := 43) dX8_lowest_36 (by decide) (fun hz => ?_) (fun hqz => absurd hqz (by decide))
  clear hz
  refine s_lload_n dX8_lowest_43 rfl ?_
  refine s_lconst (v := 0) dX8_lowest_44 rfl ?_
  refine s_lcmp dX8_lowest_45 ?_
  refine s_if_eq (tgt := 53) dX8_lowest_46 (by decide) (fun h_46 => ?_) (fun h_46 => ?_)
  · refine s_lconst (v := 0) dX8_lowest_53 rfl ?_
    exact s_lret dX8_lowest_54 rfl ⟨by first | (rw [show zcut 4 v = 0 from if_pos (zlcmp0.mp h_46)]) | (rw [show zcut 4 v = 1 from if_neg (fun z => h_46 (zlcmp0.mpr z))]), rfl⟩ rfl
  · refine s_lconst (v := 1) dX8_lowest_49 rfl ?_
    refine s_goto (tgt := 54) dX8_lowest_50 (by decide) ?_
    exact s_lret dX8_lowest_54 rfl ⟨by first | (rw [show zcut 4 v = 0 from if_pos (zlcmp0.mp h_46)]) | (rw [show zcut 4 v = 1 from if_neg (fun z => h_46 (zlcmp0.mpr z))]), rfl⟩ rfl
theorem c_X8_lowest {Z : zS} {d : Nat} {w : zW} {s : Nat} {v : Int64} (hs : s < 5) : zF Z M_X8_lowest d [.int (nI s), .long v] w [.long (zcut s v)] w := by
  rcases (show s = 0 ∨ s = 1 ∨ s = 2 ∨ s = 3 ∨ s = 4 by omega) with rfl | rfl | rfl | rfl | rfl
  · exact c_lo0
  · exact c_lo1
  · exact c_lo2
  · exact c_lo3
  · exact c_lo4
