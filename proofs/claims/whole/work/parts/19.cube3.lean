/-! ===== the cube: dimension, centre, spread; bits of floats ===== -/
def zAW (f t a : Nat) : Int32 := nI (zb t a) - nI (zb f a)
def zMI (f b c a o : Nat) : Int32 := zAW f b a * zAW f c o - zAW f b o * zAW f c a
def zDT (f a b c : Nat) : Int32 := zAW f a 0 * zMI f b c 1 2 - zAW f a 1 * zMI f b c 0 2 + zAW f a 2 * zMI f b c 0 1
set_option maxHeartbeats 4000000 in
set_option maxRecDepth 100000 in
theorem c_X1_away {Z : zS} {d : Nat} {w : zW} {f t a : Nat} (hf : f < 8) (ht : t < 8) (ha : a < 3) : zF Z M_X1_away (d + 1) [.int (nI f), .int (nI t), .int (nI a)] w [.int (zAW f t a)] w := by
  show zG Z M_X1_away (d + 1) _ _ 0 [(0, .int (nI f)), (1, .int (nI t)), (2, .int (nI a))] [] w
  refine s_iload_n dX1_away_0 rfl ?_
  refine s_iload_n dX1_away_1 rfl ?_
  refine s_cs1 dX1_away_2 g_X1_15 (c_X7_bitOfN (by omega) (by omega)) rfl rfl (Nat.le_of_ble_eq_true rfl) (Nat.le_of_ble_eq_true rfl) rfl ?_
  refine s_iload_n dX1_away_5 rfl ?_
  refine s_iload_n dX1_away_6 rfl ?_
  refine s_cs1 dX1_away_7 g_X1_15 (c_X7_bitOfN (by omega) (by omega)) rfl rfl (Nat.le_of_ble_eq_true rfl) (Nat.le_of_ble_eq_true rfl) rfl ?_
  refine s_isub dX1_away_10 ?_
  exact s_iret dX1_away_11 rfl ⟨rfl, rfl⟩ rfl
set_option maxHeartbeats 4000000 in
set_option maxRecDepth 100000 in
theorem c_X1_minor {Z : zS} {d : Nat} {w : zW} {f b c a o : Nat} (hf : f < 8) (hb : b < 8) (hc : c < 8) (ha : a < 3) (ho : o < 3) : zF Z M_X1_minor (d + 2) [.int (nI f), .int (nI b), .int (nI c), .int (nI a), .int (nI o)] w [.int (zMI f b c a o)] w := by
  show zG Z M_X1_minor (d + 2) _ _ 0 [(0, .int (nI f)), (1, .int (nI b)), (2, .int (nI c)), (3, .int (nI a)), (4, .int (nI o))] [] w
  refine s_iload_n dX1_minor_0 rfl ?_
  refine s_iload_n dX1_minor_1 rfl ?_
  refine s_iload_n dX1_minor_2 rfl ?_
  refine s_cs1 dX1_minor_3 g_X1_52 (c_X1_away hf hb ha) rfl rfl (Nat.le_of_ble_eq_true rfl) (Nat.le_of_ble_eq_true rfl) rfl ?_
  refine s_iload_n dX1_minor_6 rfl ?_
  refine s_iload_n dX1_minor_7 rfl ?_
  refine s_iload dX1_minor_8 rfl ?_
  refine s_cs1 dX1_minor_10 g_X1_52 (c_X1_away hf hc ho) rfl rfl (Nat.le_of_ble_eq_true rfl) (Nat.le_of_ble_eq_true rfl) rfl ?_
  refine s_imul dX1_minor_13 ?_
  refine s_iload_n dX1_minor_14 rfl ?_
  refine s_iload_n dX1_minor_15 rfl ?_
  refine s_iload dX1_minor_16 rfl ?_
  refine s_cs1 dX1_minor_18 g_X1_52 (c_X1_away hf hb ho) rfl rfl (Nat.le_of_ble_eq_true rfl) (Nat.le_of_ble_eq_true rfl) rfl ?_
  refine s_iload_n dX1_minor_21 rfl ?_
  refine s_iload_n dX1_minor_22 rfl ?_
  refine s_iload_n dX1_minor_23 rfl ?_
  refine s_cs1 dX1_minor_24 g_X1_52 (c_X1_away hf hc ha) rfl rfl (Nat.le_of_ble_eq_true rfl) (Nat.le_of_ble_eq_true rfl) rfl ?_
  refine s_imul dX1_minor_27 ?_
  refine s_isub dX1_minor_28 ?_
  exact s_iret dX1_minor_29 rfl ⟨rfl, rfl⟩ rfl
set_option maxHeartbeats 4000000 in
set_option maxRecDepth 100000 in
theorem c_X1_determinant {Z : zS} {d : Nat} {w : zW} {f a b c : Nat} (hf : f < 8) (ha : a < 8) (hb : b < 8) (hc : c < 8) : zF Z M_X1_determinant (d + 3) [.int (nI f), .int (nI a), .int (nI b), .int (nI c)] w [.int (zDT f a b c)] w := by
  show zG Z M_X1_determinant (d + 3) _ _ 0 [(0, .int (nI f)), (1, .int (nI a)), (2, .int (nI b)), (3, .int (nI c))] [] w
  refine s_iload_n dX1_determinant_0 rfl ?_
  refine s_iload_n dX1_determinant_1 rfl ?_
  refine s_iconst (v := 0) dX1_determinant_2 rfl ?_
  refine s_cs1 dX1_determinant_3 g_X1_52 (c_X1_away (a := 0) hf ha (by decide)) rfl rfl (Nat.le_of_ble_eq_true rfl) (Nat.le_of_ble_eq_true rfl) rfl ?_
  refine s_iload_n dX1_determinant_6 rfl ?_
  refine s_iload_n dX1_determinant_7 rfl ?_
  refine s_iload_n dX1_determinant_8 rfl ?_
  refine s_iconst (v := 1) dX1_determinant_9 rfl ?_
  refine s_iconst (v := 2) dX1_determinant_10 rfl ?_
  refine s_cs1 dX1_determinant_11 g_X1_56 (c_X1_minor (a := 1) (o := 2) hf hb hc (by decide) (by decide)) rfl rfl (Nat.le_of_ble_eq_true rfl) (Nat.le_of_ble_eq_true rfl) rfl ?_
  refine s_imul dX1_determinant_14 ?_
  refine s_iload_n dX1_determinant_15 rfl ?_
  refine s_iload_n dX1_determinant_16 rfl ?_
  refine s_iconst (v := 1) dX1_determinant_17 rfl ?_
  refine s_cs1 dX1_determinant_18 g_X1_52 (c_X1_away (a := 1) hf ha (by decide)) rfl rfl (Nat.le_of_ble_eq_true rfl) (Nat.le_of_ble_eq_true rfl) rfl ?_
  refine s_iload_n dX1_determinant_21 rfl ?_
  refine s_iload_n dX1_determinant_22 rfl ?_
  refine s_iload_n dX1_determinant_23 rfl ?_
  refine s_iconst (v := 0) dX1_determinant_24 rfl ?_
  refine s_iconst (v := 2) dX1_determinant_25 rfl ?_
  refine s_cs1 dX1_determinant_26 g_X1_56 (c_X1_minor (a := 0) (o := 2) hf hb hc (by decide) (by decide)) rfl rfl (Nat.le_of_ble_eq_true rfl) (Nat.le_of_ble_eq_true rfl) rfl ?_
  refine s_imul dX1_determinant_29 ?_
  refine s_isub dX1_determinant_30 ?_
  refine s_iload_n dX1_determinant_31 rfl ?_
  refine s_iload_n dX1_determinant_32 rfl ?_
  refine s_iconst (v := 2) dX1_determinant_33 rfl ?_
  refine s_cs1 dX1_determinant_34 g_X1_52 (c_X1_away (a := 2) hf ha (by decide)) rfl rfl (Nat.le_of_ble_eq_true rfl) (Nat.le_of_ble_eq_true rfl) rfl ?_
  refine s_iload_n dX1_determinant_37 rfl ?_
  refine s_iload_n dX1_determinant_38 rfl ?_
  refine s_iload_n dX1_determinant_39 rfl ?_
  refine s_iconst (v := 0) dX1_determinant_40 rfl ?_
  refine s_iconst (v := 1) dX1_determinant_41 rfl ?_
  refine s_cs1 dX1_determinant_42 g_X1_56 (c_X1_minor (a := 0) (o := 1) hf hb hc (by decide) (by decide)) rfl rfl (Nat.le_of_ble_eq_true rfl) (Nat.le_of_ble_eq_true rfl) rfl ?_
  refine s_imul dX1_determinant_45 ?_
  refine s_iadd dX1_determinant_46 ?_
  exact s_iret dX1_determinant_47 rfl ⟨rfl, rfl⟩ rfl
def pLCL (b : Nat) : Nat → Nat → Nat
  | 0, i => i
  | n + 1, i => if zb b i = 0 then pLCL b n (i + 1) else i
theorem pLCL_le (b : Nat) : ∀ (n i : Nat), pLCL b n i ≤ i + n
  | 0, i => Nat.le_refl _
  | n + 1, i => by
    unfold pLCL
    have h := pLCL_le b n (i + 1)
    by_cases c : zb b i = 0
    · rw [if_pos c]; omega
    · rw [if_neg c]; omega
theorem zn0 {a : Nat} (ha : a < 2 ^ 31) : nI a = 0 ↔ a = 0 := nI_eq (b := 0) ha (by decide)
theorem zbL (b i : Nat) : zb b i < 2 ^ 31 := Nat.lt_trans (zb_lt b i) (by decide)
set_option maxHeartbeats 4000000 in
set_option maxRecDepth 100000 in
theorem l_X1_leastCorner {Z : zS} {d : Nat} {w : zW} {b : Nat} (hb : b < 256) : ∀ (n : Nat) (i : Nat), i + n = 7 → zG Z M_X1_leastCorner (d + 1) (fun r1 w1 => r1 = [.int (nI (pLCL b n i))] ∧ w1 = w) w.length 2 [(0, .int (nI b)), (1, .int (nI i))] [] w := by
  intro n
  induction n with
  | zero =>
    intro i hi
    have hi : i = 7 := by omega
    subst hi
    refine s_iload_n dX1_leastCorner_2 rfl ?_
    refine s_bipush (v := 7) dX1_leastCorner_3 rfl ?_
    refine s_icmp_ge (tgt := 22) dX1_leastCorner_5 (by decide) (fun hz => ?_) (fun h => absurd (by decide) h)
    clear hz
    refine s_iload_n dX1_leastCorner_22 rfl ?_
    exact s_iret dX1_leastCorner_23 rfl ⟨rfl, rfl⟩ rfl
  | succ n ih =>
    intro i hi
    have hm : i < 7 := by omega
    refine s_iload_n dX1_leastCorner_2 rfl ?_
    refine s_bipush (v := 7) dX1_leastCorner_3 rfl ?_
    refine s_icmp_ge (tgt := 22) dX1_leastCorner_5 (by decide) (fun h => absurd h (nI_ge hm (by decide))) (fun hz => ?_)
    clear hz
    refine s_iload_n dX1_leastCorner_8 rfl ?_
    refine s_iload_n dX1_leastCorner_9 rfl ?_
    refine s_cs1 dX1_leastCorner_10 g_X1_15 (c_X7_bitOfN (by omega) (by omega)) rfl rfl (Nat.le_of_ble_eq_true rfl) (Nat.le_of_ble_eq_true rfl) rfl ?_
    refine s_if_ne (tgt := 22) dX1_leastCorner_13 (by decide) (fun h_13 => ?_) (fun h_13 => ?_)
    · refine s_iload_n dX1_leastCorner_22 rfl ?_
      exact s_iret dX1_leastCorner_23 rfl ⟨by rw [pLCL, if_neg (fun z => h_13 ((zn0 (zbL b i)).mpr z))], rfl⟩ rfl
    · refine s_iinc (nI (i + 1)) dX1_leastCorner_16 rfl (nI_1 _) (Nat.le_of_ble_eq_true rfl) rfl ?_
      refine s_goto (tgt := 2) dX1_leastCorner_19 (by decide) ?_
      rw [show pLCL b (n + 1) i = pLCL b n (i + 1) from by rw [pLCL, if_pos ((zn0 (zbL b i)).mp h_13)]]
      exact ih (i + 1) (by omega)
set_option maxHeartbeats 4000000 in
set_option maxRecDepth 100000 in
theorem c_X1_leastCorner {Z : zS} {d : Nat} {w : zW} {b : Nat} (hb : b < 256) : zF Z M_X1_leastCorner (d + 1) [.int (nI b)] w [.int (nI (pLCL b 7 0))] w := by
  show zG Z M_X1_leastCorner (d + 1) _ _ 0 [(0, .int (nI b))] [] w
  refine s_iconst (v := 0) dX1_leastCorner_0 rfl ?_
  refine s_istore_n dX1_leastCorner_1 (Nat.le_of_ble_eq_true rfl) rfl ?_
  exact l_X1_leastCorner hb 7 0 rfl
def zT3 (a b c : Nat) : Int32 := 1 <<< (nI a &&& 31) ||| 1 <<< (nI b &&& 31) ||| 1 <<< (nI c &&& 31)
def zPP (ot : Int32) (f a b c : Nat) : Bool := decide (ot &&& zT3 a b c = zT3 a b c) && decide (¬ zDT f a b c = 0)
def zdC (ot : Int32) (f a b : Nat) : Nat → Nat → Bool
  | 0, _ => false
  | n + 1, c => zPP ot f a b c || zdC ot f a b n (c + 1)
def zdB (ot : Int32) (f a : Nat) : Nat → Nat → Bool
  | 0, _ => false
  | n + 1, b => zdC ot f a b b 0 || zdB ot f a n (b + 1)
def zdA (ot : Int32) (f : Nat) : Nat → Nat → Bool
  | 0, _ => false
  | n + 1, a => zdB ot f a a 0 || zdA ot f n (a + 1)
theorem zPP_t {ot : Int32} {f a b c : Nat} (h1 : ot &&& zT3 a b c = zT3 a b c) (h2 : ¬ zDT f a b c = 0) : zPP ot f a b c = true := by
  unfold zPP
  rw [decide_eq_true h1, decide_eq_true h2]
  rfl
theorem zPP_f1 {ot : Int32} {f a b c : Nat} (h1 : ¬ ot &&& zT3 a b c = zT3 a b c) : zPP ot f a b c = false := by
  unfold zPP
  rw [decide_eq_false h1]
  rfl
theorem zPP_f2 {ot : Int32} {f a b c : Nat} (h2 : zDT f a b c = 0) : zPP ot f a b c = false := by
  have e : decide (¬ zDT f a b c = 0) = false := decide_eq_false (fun z => z h2)
  unfold zPP
  rw [e, Bool.and_false]
set_option maxHeartbeats 4000000 in
set_option maxRecDepth 100000 in
theorem l_dimC {Z : zS} {d : Nat} {w : zW} {Q : List Value → zW → Prop} {bd cn ot : Int32} {f a b : Nat} (hf : f < 8) (ha : a < 8) (hb : b < 8) : ∀ (n c : Nat), c + n = b → (zdC ot f a b n c = true → Q [.int 3] w) → (zdC ot f a b n c = false → zG Z M_X1_dimension (d + 4) Q w.length 103 [(0, .int bd), (1, .int cn), (2, .int (nI f)), (3, .int ot), (4, .int (nI a)), (5, .int (nI b))] [] w) → zG Z M_X1_dimension (d + 4) Q w.length 50 [(0, .int bd), (1, .int cn), (2, .int (nI f)), (3, .int ot), (4, .int (nI a)), (5, .int (nI b)), (6, .int (nI c))] [] w := by
  intro n
  induction n with
  | zero =>
    intro c hc h3 hk
    have hc : c = b := by omega
    subst hc
    refine s_iload dX1_dimension_50 rfl ?_
    refine s_iload dX1_dimension_52 rfl ?_
    refine s_icmp_ge (tgt := 103) dX1_dimension_54 (by decide) (fun hz => ?_) (fun h => absurd (nI_le (Nat.le_refl _) (by omega)) h)
    clear hz
    refine s_take 6 ?_
    exact hk rfl
  | succ n ih =>
    intro c hc h3 hk
    refine s_iload dX1_dimension_50 rfl ?_
    refine s_iload dX1_dimension_52 rfl ?_
    refine s_icmp_ge (tgt := 103) dX1_dimension_54 (by decide) (fun h => absurd h (nI_ge (show c < b by omega) (by omega))) (fun hz => ?_)
    clear hz
    refine s_iconst (v := 1) dX1_dimension_57 rfl ?_
    refine s_iload dX1_dimension_58 rfl ?_
    refine s_ishl dX1_dimension_60 ?_
    refine s_iconst (v := 1) dX1_dimension_61 rfl ?_
    refine s_iload dX1_dimension_62 rfl ?_
    refine s_ishl dX1_dimension_64 ?_
    refine s_ior dX1_dimension_65 ?_
    refine s_iconst (v := 1) dX1_dimension_66 rfl ?_
    refine s_iload dX1_dimension_67 rfl ?_
    refine s_ishl dX1_dimension_69 ?_
    refine s_ior dX1_dimension_70 ?_
    refine s_istore dX1_dimension_71 (Nat.le_of_ble_eq_true rfl) rfl ?_
    refine s_iload_n dX1_dimension_73 rfl ?_
    refine s_iload dX1_dimension_74 rfl ?_
    refine s_iand dX1_dimension_76 ?_
    refine s_iload dX1_dimension_77 rfl ?_
    refine s_icmp_ne (tgt := 97) dX1_dimension_79 (by decide) (fun h_79 => ?_) (fun h_79 => ?_)
    · refine s_iinc (nI (c + 1)) dX1_dimension_97 rfl (nI_1 _) (Nat.le_of_ble_eq_true rfl) rfl ?_
      refine s_goto (tgt := 50) dX1_dimension_100 (by decide) ?_
      have e : zdC ot f a b (n + 1) c = zdC ot f a b n (c + 1) := by rw [zdC, zPP_f1 h_79, Bool.false_or]
      rw [e] at h3 hk
      refine s_take 7 ?_
      exact ih (c + 1) (by omega) h3 hk
    · refine s_iload_n dX1_dimension_82 rfl ?_
      refine s_iload dX1_dimension_83 rfl ?_
      refine s_iload dX1_dimension_85 rfl ?_
      refine s_iload dX1_dimension_87 rfl ?_
      refine s_cs1 dX1_dimension_89 g_X1_48 (c_X1_determinant hf ha hb (by omega)) rfl rfl (Nat.le_of_ble_eq_true rfl) (Nat.le_of_ble_eq_true rfl) rfl ?_
      refine s_if_eq (tgt := 97) dX1_dimension_92 (by decide) (fun h_92 => ?_) (fun h_92 => ?_)
      · refine s_iinc (nI (c + 1)) dX1_dimension_97 rfl (nI_1 _) (Nat.le_of_ble_eq_true rfl) rfl ?_
        refine s_goto (tgt := 50) dX1_dimension_100 (by decide) ?_
        have e : zdC ot f a b (n + 1) c = zdC ot f a b n (c + 1) := by rw [zdC, zPP_f2 h_92, Bool.false_or]
        rw [e] at h3 hk
        refine s_take 7 ?_
        exact ih (c + 1) (by omega) h3 hk
      · refine s_iconst (v := 3) dX1_dimension_95 rfl ?_
        exact s_iret dX1_dimension_96 rfl (h3 (by rw [zdC, zPP_t h_79 h_92, Bool.true_or])) rfl
set_option maxHeartbeats 4000000 in
set_option maxRecDepth 100000 in
theorem l_dimB {Z : zS} {d : Nat} {w : zW} {Q : List Value → zW → Prop} {bd cn ot : Int32} {f a : Nat} (hf : f < 8) (ha : a < 8) : ∀ (n b : Nat), b + n = a → (zdB ot f a n b = true → Q [.int 3] w) → (zdB ot f a n b = false → zG Z M_X1_dimension (d + 4) Q w.length 109 [(0, .int bd), (1, .int cn), (2, .int (nI f)), (3, .int ot), (4, .int (nI a))] [] w) → zG Z M_X1_dimension (d + 4) Q w.length 40 [(0, .int bd), (1, .int cn), (2, .int (nI f)), (3, .int ot), (4, .int (nI a)), (5, .int (nI b))] [] w := by
  intro n
  induction n with
  | zero =>
    intro b hc h3 hk
    have hc : b = a := by omega
    subst hc
    refine s_iload dX1_dimension_40 rfl ?_
    refine s_iload dX1_dimension_42 rfl ?_
    refine s_icmp_ge (tgt := 109) dX1_dimension_44 (by decide) (fun hz => ?_) (fun h => absurd (nI_le (Nat.le_refl _) (by omega)) h)
    clear hz
    refine s_take 5 ?_
    exact hk rfl
  | succ n ih =>
    intro b hc h3 hk
    refine s_iload dX1_dimension_40 rfl ?_
    refine s_iload dX1_dimension_42 rfl ?_
    refine s_icmp_ge (tgt := 109) dX1_dimension_44 (by decide) (fun h => absurd h (nI_ge (show b < a by omega) (by omega))) (fun hz => ?_)
    clear hz
    refine s_iconst (v := 0) dX1_dimension_47 rfl ?_
    refine s_istore dX1_dimension_48 (Nat.le_of_ble_eq_true rfl) rfl ?_
    refine l_dimC hf ha (show b < 8 by omega) b 0 (by omega) (fun z => h3 (by rw [zdB, z, Bool.true_or])) (fun e => ?_)
    refine s_iinc (nI (b + 1)) dX1_dimension_103 rfl (nI_1 _) (Nat.le_of_ble_eq_true rfl) rfl ?_
    refine s_goto (tgt := 40) dX1_dimension_106 (by decide) ?_
    exact ih (b + 1) (by omega) (fun z => h3 (by rw [zdB, e, Bool.false_or]; exact z)) (fun z => hk (by rw [zdB, e, Bool.false_or]; exact z))
set_option maxHeartbeats 4000000 in
set_option maxRecDepth 100000 in
theorem l_dimA {Z : zS} {d : Nat} {w : zW} {Q : List Value → zW → Prop} {bd cn ot : Int32} {f : Nat} (hf : f < 8)  : ∀ (n a : Nat), a + n = 8 → (zdA ot f n a = true → Q [.int 3] w) → (zdA ot f n a = false → zG Z M_X1_dimension (d + 4) Q w.length 115 [(0, .int bd), (1, .int cn), (2, .int (nI f)), (3, .int ot)] [] w) → zG Z M_X1_dimension (d + 4) Q w.length 30 [(0, .int bd), (1, .int cn), (2, .int (nI f)), (3, .int ot), (4, .int (nI a))] [] w := by
  intro n
  induction n with
  | zero =>
    intro a hc h3 hk
    have hc : a = 8 := by omega
    subst hc
    refine s_iload dX1_dimension_30 rfl ?_
    refine s_bipush (v := 8) dX1_dimension_32 rfl ?_
    refine s_icmp_ge (tgt := 115) dX1_dimension_34 (by decide) (fun hz => ?_) (fun h => absurd (by decide) h)
    clear hz
    refine s_take 4 ?_
    exact hk rfl
  | succ n ih =>
    intro a hc h3 hk
    refine s_iload dX1_dimension_30 rfl ?_
    refine s_bipush (v := 8) dX1_dimension_32 rfl ?_
    refine s_icmp_ge (tgt := 115) dX1_dimension_34 (by decide) (fun h => absurd h (nI_ge (show a < 8 by omega) (by decide))) (fun hz => ?_)
    clear hz
    refine s_iconst (v := 0) dX1_dimension_37 rfl ?_
    refine s_istore dX1_dimension_38 (Nat.le_of_ble_eq_true rfl) rfl ?_
    refine l_dimB hf (show a < 8 by omega) a 0 (by omega) (fun z => h3 (by rw [zdA, z, Bool.true_or])) (fun e => ?_)
    refine s_iinc (nI (a + 1)) dX1_dimension_109 rfl (nI_1 _) (Nat.le_of_ble_eq_true rfl) rfl ?_
    refine s_goto (tgt := 30) dX1_dimension_112 (by decide) ?_
    exact ih (a + 1) (by omega) (fun z => h3 (by rw [zdA, e, Bool.false_or]; exact z)) (fun z => hk (by rw [zdA, e, Bool.false_or]; exact z))
def zOT (b f : Nat) : Int32 := nI b &&& ((1 : Int32) <<< (nI f &&& 31) ^^^ (-1))
def pDIM (b : Nat) : Int32 := if 3 < nI (pPOP b) then (if zdA (zOT b (pLCL b 7 0)) (pLCL b 7 0) 8 0 = true then 3 else 2) else nI (pPOP b) - 1
set_option maxHeartbeats 4000000 in
set_option maxRecDepth 100000 in
theorem c_X1_dimension {Z : zS} {d : Nat} {w : zW} {b : Nat} (hb : b < 256) : zF Z M_X1_dimension (d + 4) [.int (nI b)] w [.int (pDIM b)] w := by
  show zG Z M_X1_dimension (d + 4) _ _ 0 [(0, .int (nI b))] [] w
  refine s_iload_n dX1_dimension_0 rfl ?_
  refine s_cs1 dX1_dimension_1 g_X1_37 (c_bcN hb) rfl rfl (Nat.le_of_ble_eq_true rfl) (Nat.le_of_ble_eq_true rfl) rfl ?_
  refine s_istore_n dX1_dimension_4 (Nat.le_of_ble_eq_true rfl) rfl ?_
  refine s_iload_n dX1_dimension_5 rfl ?_
  refine s_iconst (v := 3) dX1_dimension_6 rfl ?_
  refine s_icmp_gt (tgt := 14) dX1_dimension_7 (by decide) (fun h_7 => ?_) (fun h_7 => ?_)
  · refine s_iload_n dX1_dimension_14 rfl ?_
    refine s_cs1 dX1_dimension_15 g_X1_45 (c_X1_leastCorner hb) rfl rfl (Nat.le_of_ble_eq_true rfl) (Nat.le_of_ble_eq_true rfl) rfl ?_
    refine s_istore_n dX1_dimension_18 (Nat.le_of_ble_eq_true rfl) rfl ?_
    refine s_iload_n dX1_dimension_19 rfl ?_
    refine s_iconst (v := 1) dX1_dimension_20 rfl ?_
    refine s_iload_n dX1_dimension_21 rfl ?_
    refine s_ishl dX1_dimension_22 ?_
    refine s_iconst (v := (-1)) dX1_dimension_23 rfl ?_
    refine s_ixor dX1_dimension_24 ?_
    refine s_iand dX1_dimension_25 ?_
    refine s_istore_n dX1_dimension_26 (Nat.le_of_ble_eq_true rfl) rfl ?_
    refine s_iconst (v := 0) dX1_dimension_27 rfl ?_
    refine s_istore dX1_dimension_28 (Nat.le_of_ble_eq_true rfl) rfl ?_
    refine l_dimA (ot := zOT b (pLCL b 7 0)) (show pLCL b 7 0 < 8 from Nat.lt_succ_of_le (pLCL_le b 7 0)) 8 0 rfl (fun z => ⟨by rw [pDIM, if_pos h_7, z]; rfl, rfl⟩) (fun z => ?_)
    refine s_iconst (v := 2) dX1_dimension_115 rfl ?_
    exact s_iret dX1_dimension_116 rfl ⟨by rw [pDIM, if_pos h_7, z]; rfl, rfl⟩ rfl
  · refine s_iload_n dX1_dimension_10 rfl ?_
    refine s_iconst (v := 1) dX1_dimension_11 rfl ?_
    refine s_isub dX1_dimension_12 ?_
    exact s_iret dX1_dimension_13 rfl ⟨by rw [pDIM, if_neg h_7], rfl⟩ rfl
def pSUML (b ax : Nat) : Nat → Nat → Nat → Nat
  | 0, _, s => s
  | n + 1, i, s => pSUML b ax n (i + 1) (if zb b i = 1 then s + zb i ax else s)
def pSUM (b ax : Nat) : Nat := pSUML b ax 8 0 0
theorem pSUML_le (b ax : Nat) : ∀ (n i s : Nat), pSUML b ax n i s ≤ s + n
  | 0, _, _ => Nat.le_refl _
  | n + 1, i, s => by
    unfold pSUML
    have h := zb_lt i ax
    have h2 := pSUML_le b ax n (i + 1) (if zb b i = 1 then s + zb i ax else s)
    by_cases c : zb b i = 1
    · rw [if_pos c] at h2 ⊢; omega
    · rw [if_neg c] at h2 ⊢; omega
def zFI (s : Nat) : UInt32 := FP.i2f (nI s)
theorem q_f1 : ∀ s, s < 8 → ∀ t, t < 2 → FP.fadd (zFI s) (zFI t) = zFI (s + t) ∧ vf_n32 (FP.fadd (zFI s) (zFI t)) := by
  unfold vf_n32
  decide +kernel
theorem q_fd : ∀ s, s < 9 → ∀ n, n < 9 → n ≠ 0 → vf_n32 (FP.fdiv (zFI s) (zFI n)) := by
  unfold vf_n32
  decide +kernel
def zCQ (s n : Nat) : UInt32 := FP.fdiv (zFI s) (zFI n)
def pCEN (b ax : Nat) : UInt32 := if pPOP b = 0 then FP.fconst0 else zCQ (pSUM b ax) (pPOP b)
set_option maxHeartbeats 4000000 in
set_option maxRecDepth 100000 in
theorem l_X1_centre {Z : zS} {d : Nat} {w : zW} {b ax : Nat} (hb : b < 256) (hax : ax < 3) (hp : pPOP b ≠ 0) : ∀ (n : Nat) (i s : Nat), i + n = 8 → s ≤ i → zG Z M_X1_centre (d + 1) (fun r1 w1 => r1 = [.float (zCQ (pSUML b ax n i s) (pPOP b))] ∧ w1 = w) w.length 16 [(0, .int (nI b)), (1, .int (nI ax)), (2, .int (nI (pPOP b))), (3, .float (zFI s)), (4, .int (nI i))] [] w := by
  intro n
  induction n with
  | zero =>
    intro i s hi hs
    have hi : i = 8 := by omega
    subst hi
    refine s_iload dX1_centre_16 rfl ?_
    refine s_bipush (v := 8) dX1_centre_18 rfl ?_
    refine s_icmp_ge (tgt := 49) dX1_centre_20 (by decide) (fun hz => ?_) (fun h => absurd (by decide) h)
    clear hz
    refine s_fload_n dX1_centre_49 rfl ?_
    refine s_iload_n dX1_centre_50 rfl ?_
    refine s_i2f dX1_centre_51 ?_
    refine s_fdiv dX1_centre_52 (q_fd s (by omega) (pPOP b) (by have := pPOP_le b; omega) hp) ?_
    exact s_fret dX1_centre_53 rfl ⟨rfl, rfl⟩ rfl
  | succ n ih =>
    intro i s hi hs
    have hm : i < 8 := by omega
    refine s_iload dX1_centre_16 rfl ?_
    refine s_bipush (v := 8) dX1_centre_18 rfl ?_
    refine s_icmp_ge (tgt := 49) dX1_centre_20 (by decide) (fun h => absurd h (nI_ge hm (by decide))) (fun hz => ?_)
    clear hz
    refine s_iload_n dX1_centre_23 rfl ?_
    refine s_iload dX1_centre_24 rfl ?_
    refine s_cs1 dX1_centre_26 g_X1_15 (c_X7_bitOfN (by omega) (by omega)) rfl rfl (Nat.le_of_ble_eq_true rfl) (Nat.le_of_ble_eq_true rfl) rfl ?_
    refine s_iconst (v := 1) dX1_centre_29 rfl ?_
    refine s_icmp_ne (tgt := 43) dX1_centre_30 (by decide) (fun h_30 => ?_) (fun h_30 => ?_)
    · refine s_iinc (nI (i + 1)) dX1_centre_43 rfl (nI_1 _) (Nat.le_of_ble_eq_true rfl) rfl ?_
      refine s_goto (tgt := 16) dX1_centre_46 (by decide) ?_
      first
        | (have hz : zb b i = 1 := (zn1 (zbL b i)).mp h_30
           rw [show pSUML b ax (n + 1) i s = pSUML b ax n (i + 1) (s + zb i ax) from by rw [pSUML, if_pos hz]]
           refine (show FP.fadd (zFI s) (FP.i2f (nI (zb i ax))) = zFI (s + zb i ax) from (q_f1 s (by omega) _ (zb_lt i ax)).1) ▸ ?_
           exact ih (i + 1) _ (by omega) (by have := zb_lt i ax; omega))
        | (have hz : ¬ zb b i = 1 := fun z => h_30 ((zn1 (zbL b i)).mpr z)
           rw [show pSUML b ax (n + 1) i s = pSUML b ax n (i + 1) s from by rw [pSUML, if_neg hz]]
           exact ih (i + 1) _ (by omega) (by omega))
    · refine s_fload_n dX1_centre_33 rfl ?_
      refine s_iload dX1_centre_34 rfl ?_
      refine s_iload_n dX1_centre_36 rfl ?_
      refine s_cs1 dX1_centre_37 g_X1_15 (c_X7_bitOfN (by omega) (by omega)) rfl rfl (Nat.le_of_ble_eq_true rfl) (Nat.le_of_ble_eq_true rfl) rfl ?_
      refine s_i2f dX1_centre_40 ?_
      refine s_fadd dX1_centre_41 (q_f1 s (by omega) _ (zb_lt i ax)).2 ?_
      refine s_fstore_n dX1_centre_42 (Nat.le_of_ble_eq_true rfl) rfl ?_
      refine s_iinc (nI (i + 1)) dX1_centre_43 rfl (nI_1 _) (Nat.le_of_ble_eq_true rfl) rfl ?_
      refine s_goto (tgt := 16) dX1_centre_46 (by decide) ?_
      first
        | (have hz : zb b i = 1 := (zn1 (zbL b i)).mp h_30
           rw [show pSUML b ax (n + 1) i s = pSUML b ax n (i + 1) (s + zb i ax) from by rw [pSUML, if_pos hz]]
           refine (show FP.fadd (zFI s) (FP.i2f (nI (zb i ax))) = zFI (s + zb i ax) from (q_f1 s (by omega) _ (zb_lt i ax)).1) ▸ ?_
           exact ih (i + 1) _ (by omega) (by have := zb_lt i ax; omega))
        | (have hz : ¬ zb b i = 1 := fun z => h_30 ((zn1 (zbL b i)).mpr z)
           rw [show pSUML b ax (n + 1) i s = pSUML b ax n (i + 1) s from by rw [pSUML, if_neg hz]]
           exact ih (i + 1) _ (by omega) (by omega))
set_option maxHeartbeats 4000000 in
set_option maxRecDepth 100000 in
theorem c_X1_centre {Z : zS} {d : Nat} {w : zW} {b ax : Nat} (hb : b < 256) (hax : ax < 3) : zF Z M_X1_centre (d + 1) [.int (nI b), .int (nI ax)] w [.float (pCEN b ax)] w := by
  show zG Z M_X1_centre (d + 1) _ _ 0 [(0, .int (nI b)), (1, .int (nI ax))] [] w
  refine s_iload_n dX1_centre_0 rfl ?_
  refine s_cs1 dX1_centre_1 g_X1_37 (c_bcN hb) rfl rfl (Nat.le_of_ble_eq_true rfl) (Nat.le_of_ble_eq_true rfl) rfl ?_
  refine s_istore_n dX1_centre_4 (Nat.le_of_ble_eq_true rfl) rfl ?_
  refine s_iload_n dX1_centre_5 rfl ?_
  refine s_if_ne (tgt := 11) dX1_centre_6 (by decide) (fun h_6 => ?_) (fun h_6 => ?_)
  · refine s_fconst0 dX1_centre_11 ?_
    refine s_fstore_n dX1_centre_12 (Nat.le_of_ble_eq_true rfl) rfl ?_
    refine s_iconst (v := 0) dX1_centre_13 rfl ?_
    refine s_istore dX1_centre_14 (Nat.le_of_ble_eq_true rfl) rfl ?_
    have hp : pPOP b ≠ 0 := fun z => h_6 ((zn0 (by have := pPOP_le b; omega)).mpr z)
    rw [pCEN, if_neg hp]
    exact l_X1_centre hb hax hp 8 0 0 rfl (Nat.le_refl _)
  · refine s_fconst0 dX1_centre_9 ?_
    exact s_fret dX1_centre_10 rfl ⟨by rw [pCEN, if_pos ((zn0 (by have := pPOP_le b; omega)).mp h_6)], rfl⟩ rfl
def zn64 (r : UInt64) : Bool := decide (r &&& 0x7fffffffffffffff ≤ 0x7ff0000000000000)
theorem zn64_t {r : UInt64} (h : zn64 r = true) : vf_n64 r := by
  unfold zn64 at h
  have h2 := of_decide_eq_true h
  exact h2
def zOFF (b i : Nat) : UInt64 := FP.dsub (FP.f2d (pCEN b i)) 4602678819172646912
def pSPL (b : Nat) : Nat → Nat → UInt64 → UInt64
  | 0, _, a => a
  | n + 1, i, a => pSPL b n (i + 1) (FP.dadd a (FP.dmul (zOFF b i) (zOFF b i)))
def pSPO (b : Nat) : Nat → Nat → UInt64 → Bool
  | 0, _, _ => true
  | n + 1, i, a => zn64 (FP.f2d (pCEN b i)) && (zn64 (zOFF b i) && (zn64 (FP.dmul (zOFF b i) (zOFF b i)) && (zn64 (FP.dadd a (FP.dmul (zOFF b i) (zOFF b i))) && pSPO b n (i + 1) (FP.dadd a (FP.dmul (zOFF b i) (zOFF b i))))))
set_option maxHeartbeats 4000000 in
set_option maxRecDepth 100000 in
theorem l_X1_spreadOf {Z : zS} {d : Nat} {w : zW} {b : Nat} (hb : b < 256) : ∀ (n : Nat) (i : Nat) (a : UInt64), i + n = 3 → pSPO b n i a = true → zG Z M_X1_spreadOf (d + 2) (fun r1 w1 => r1 = [.double (pSPL b n i a)] ∧ w1 = w) w.length 4 [(0, .int (nI b)), (1, .double a), (3, .int (nI i))] [] w := by
  intro n
  induction n with
  | zero =>
    intro i a hi ho
    have hi : i = 3 := by omega
    subst hi
    refine s_iload_n dX1_spreadOf_4 rfl ?_
    refine s_iconst (v := 3) dX1_spreadOf_5 rfl ?_
    refine s_icmp_ge (tgt := 35) dX1_spreadOf_6 (by decide) (fun hz => ?_) (fun h => absurd (by decide) h)
    clear hz
    refine s_dload_n dX1_spreadOf_35 rfl ?_
    exact s_dret dX1_spreadOf_36 rfl ⟨rfl, rfl⟩ rfl
  | succ n ih =>
    intro i a hi ho
    have hm : i < 3 := by omega
    rw [pSPO, Bool.and_eq_true, Bool.and_eq_true, Bool.and_eq_true, Bool.and_eq_true] at ho
    obtain ⟨o1, o2, o3, o4, o5⟩ := ho
    refine s_iload_n dX1_spreadOf_4 rfl ?_
    refine s_iconst (v := 3) dX1_spreadOf_5 rfl ?_
    refine s_icmp_ge (tgt := 35) dX1_spreadOf_6 (by decide) (fun h => absurd h (nI_ge hm (by decide))) (fun hz => ?_)
    clear hz
    refine s_iload_n dX1_spreadOf_9 rfl ?_
    refine s_iload_n dX1_spreadOf_10 rfl ?_
    refine s_cs1 dX1_spreadOf_11 g_X1_60 (c_X1_centre hb hm) rfl rfl (Nat.le_of_ble_eq_true rfl) (Nat.le_of_ble_eq_true rfl) rfl ?_
    refine s_f2d dX1_spreadOf_14 (zn64_t o1) ?_
    refine s_ldc2d (v := (4602678819172646912)) dX1_spreadOf_15 (zin 509 (by decide +kernel) (by decide +kernel)) ?_
    refine s_dsub dX1_spreadOf_18 (zn64_t o2) ?_
    refine s_dstore dX1_spreadOf_19 (Nat.le_of_ble_eq_true rfl) rfl ?_
    refine s_dload_n dX1_spreadOf_21 rfl ?_
    refine s_dload dX1_spreadOf_22 rfl ?_
    refine s_dload dX1_spreadOf_24 rfl ?_
    refine s_dmul dX1_spreadOf_26 (zn64_t o3) ?_
    refine s_dadd dX1_spreadOf_27 (zn64_t o4) ?_
    refine s_dstore_n dX1_spreadOf_28 (Nat.le_of_ble_eq_true rfl) rfl ?_
    refine s_iinc (nI (i + 1)) dX1_spreadOf_29 rfl (nI_1 _) (Nat.le_of_ble_eq_true rfl) rfl ?_
    refine s_goto (tgt := 4) dX1_spreadOf_32 (by decide) ?_
    refine s_take 3 ?_
    exact ih (i + 1) _ (by omega) o5
set_option maxHeartbeats 4000000 in
set_option maxRecDepth 100000 in
theorem c_X1_spreadOf {Z : zS} {d : Nat} {w : zW} {b : Nat} (hb : b < 256) (ho : pSPO b 3 0 FP.dconst0 = true) : zF Z M_X1_spreadOf (d + 2) [.int (nI b)] w [.double (pSPL b 3 0 FP.dconst0)] w := by
  show zG Z M_X1_spreadOf (d + 2) _ _ 0 [(0, .int (nI b))] [] w
  refine s_dconst0 dX1_spreadOf_0 ?_
  refine s_dstore_n dX1_spreadOf_1 (Nat.le_of_ble_eq_true rfl) rfl ?_
  refine s_iconst (v := 0) dX1_spreadOf_2 rfl ?_
  refine s_istore_n dX1_spreadOf_3 (Nat.le_of_ble_eq_true rfl) rfl ?_
  exact l_X1_spreadOf hb 3 0 _ rfl ho
