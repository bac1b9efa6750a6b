/-! ===== the cube: bodies as numbers below 256 ===== -/
def zb (b i : Nat) : Nat := b / 2 ^ i % 2
theorem zs_l : ∀ n, n < 32 → ((nI n &&& 31).toBitVec.smod 32).toNat = n := by decide +kernel
theorem zbit {b i : Nat} (hb : b < 2 ^ 31) (hi : i < 32) : nI b >>> (nI i &&& 31) &&& 1 = nI (zb b i) := by
  rw [pk_shrN hb _ i (zs_l i hi)]
  have h : b / 2 ^ i < 2 ^ 32 := Nat.lt_of_le_of_lt (Nat.div_le_self _ _) (by omega)
  rw [pk_andN h 1 (by decide)]
  rfl
theorem zb_lt (b i : Nat) : zb b i < 2 := Nat.mod_lt _ (by decide)
theorem zsh8 : ∀ k, k < 16 → (1 : Int32) <<< (nI k &&& 31) = nI (2 ^ k) := by decide +kernel
def pORD : List Nat := [0, 1, 2, 0, 2, 1, 1, 0, 2, 1, 2, 0, 2, 0, 1, 2, 1, 0]
def pCO (m c : Nat) : Nat := (zb c (pORD.getD (m / 8 * 3) 0) + 2 * zb c (pORD.getD (m / 8 * 3 + 1) 0) + 4 * zb c (pORD.getD (m / 8 * 3 + 2) 0)) ^^^ (m % 8)
theorem pCO_lt : ∀ m, m < 48 → ∀ c, c < 8 → pCO m c < 8 := by decide +kernel
def pIMGL (m b : Nat) : Nat → Nat → Nat → Nat
  | 0, _, a => a
  | n + 1, i, a => pIMGL m b n (i + 1) (if zb b i = 1 then a ||| 2 ^ pCO m i else a)
def pIMG (m b : Nat) : Nat := pIMGL m b 8 0 0
theorem zp8 : ∀ k, k < 8 → 2 ^ k < 256 := by decide
theorem zor8 {a b : Nat} (ha : a < 256) (hb : b < 256) : a ||| b < 256 := Nat.or_lt_two_pow (n := 8) ha hb
theorem pIMGL_lt {m b : Nat} (hm : m < 48) : ∀ (n i a : Nat), i + n = 8 → a < 256 → pIMGL m b n i a < 256
  | 0, _, _, _, h => h
  | n + 1, i, a, hi, h => by
    unfold pIMGL
    refine pIMGL_lt hm n (i + 1) _ (by omega) ?_
    by_cases c : zb b i = 1
    · rw [if_pos c]
      exact zor8 h (zp8 _ (pCO_lt m hm i (by omega)))
    · rw [if_neg c]
      exact h
theorem pIMG_lt {m : Nat} (hm : m < 48) (b : Nat) : pIMG m b < 256 := pIMGL_lt hm 8 0 0 rfl (by decide)
theorem zn1 {a : Nat} (ha : a < 2 ^ 31) : nI a = 1 ↔ a = 1 := nI_eq (b := 1) ha (by decide)
theorem c_X7_bitOfN {Z : zS} {d : Nat} {w : zW} {b i : Nat} (hb : b < 2 ^ 31) (hi : i < 32) : zF Z M_X7_bitOf d [.int (nI b), .int (nI i)] w [.int (nI (zb b i))] w := by
  rw [← zbit hb hi]
  exact c_X7_bitOf
theorem q_ord : ∀ m, m < 48 → ¬ (nI m >>> ((3 : Int32) &&& 31) * 3 < 0) ∧ (nI m >>> ((3 : Int32) &&& 31) * 3 + 2 < 18) ∧ vp_in (nI m >>> ((3 : Int32) &&& 31) * 3) 18 ∧ vp_in (nI m >>> ((3 : Int32) &&& 31) * 3 + 1) 18 ∧ vp_in (nI m >>> ((3 : Int32) &&& 31) * 3 + 2) 18 := by
  unfold vp_in
  decide +kernel
set_option maxHeartbeats 4000000 in
set_option maxRecDepth 100000 in
theorem c_X1_cornerBy {Z : zS} {d : Nat} {w : zW} {m c : Nat} (hm : m < 48) (hc : c < 8) : zF Z M_X1_cornerBy (d) [.int (nI m), .int (nI c)] w [.int (nI (pCO m c))] w := by
  show zG Z M_X1_cornerBy (d) _ _ 0 [(0, .int (nI m)), (1, .int (nI c))] [] w
  refine s_iload_n dX1_cornerBy_0 rfl ?_
  refine s_iconst (v := 3) dX1_cornerBy_1 rfl ?_
  refine s_ishr dX1_cornerBy_2 ?_
  refine s_iconst (v := 3) dX1_cornerBy_3 rfl ?_
  refine s_imul dX1_cornerBy_4 ?_
  refine s_istore_n dX1_cornerBy_5 (Nat.le_of_ble_eq_true rfl) rfl ?_
  refine s_iload_n dX1_cornerBy_6 rfl ?_
  refine s_if_lt (tgt := 20) dX1_cornerBy_7 (by decide) (fun h => absurd h (q_ord m hm).1) (fun hz => ?_)
  clear hz
  refine s_iload_n dX1_cornerBy_10 rfl ?_
  refine s_iconst (v := 2) dX1_cornerBy_11 rfl ?_
  refine s_iadd dX1_cornerBy_12 ?_
  refine s_ord dX1_cornerBy_13 (zin 238 (by decide +kernel) (by decide +kernel)) ?_
  refine s_rlen 0 18 dX1_cornerBy_16 rfl (by decide) rfl ?_
  refine s_icmp_lt (tgt := 22) dX1_cornerBy_17 (by decide) (fun hz => ?_) (fun h => absurd (q_ord m hm).2.1 h)
  clear hz
  refine s_iload_n dX1_cornerBy_22 rfl ?_
  refine s_ord dX1_cornerBy_23 (zin 238 (by decide +kernel) (by decide +kernel)) ?_
  refine s_iload_n dX1_cornerBy_26 rfl ?_
  refine s_rald (v := zORD _) 0 dX1_cornerBy_27 rfl (by decide) (q_ord m hm).2.2.1 rfl ?_
  refine s_ishr dX1_cornerBy_28 ?_
  refine s_iconst (v := 1) dX1_cornerBy_29 rfl ?_
  refine s_iand dX1_cornerBy_30 ?_
  refine s_istore_n dX1_cornerBy_31 (Nat.le_of_ble_eq_true rfl) rfl ?_
  refine s_iload_n dX1_cornerBy_32 rfl ?_
  refine s_ord dX1_cornerBy_33 (zin 238 (by decide +kernel) (by decide +kernel)) ?_
  refine s_iload_n dX1_cornerBy_36 rfl ?_
  refine s_iconst (v := 1) dX1_cornerBy_37 rfl ?_
  refine s_iadd dX1_cornerBy_38 ?_
  refine s_rald (v := zORD _) 0 dX1_cornerBy_39 rfl (by decide) (q_ord m hm).2.2.2.1 rfl ?_
  refine s_ishr dX1_cornerBy_40 ?_
  refine s_iconst (v := 1) dX1_cornerBy_41 rfl ?_
  refine s_iand dX1_cornerBy_42 ?_
  refine s_istore dX1_cornerBy_43 (Nat.le_of_ble_eq_true rfl) rfl ?_
  refine s_iload_n dX1_cornerBy_45 rfl ?_
  refine s_ord dX1_cornerBy_46 (zin 238 (by decide +kernel) (by decide +kernel)) ?_
  refine s_iload_n dX1_cornerBy_49 rfl ?_
  refine s_iconst (v := 2) dX1_cornerBy_50 rfl ?_
  refine s_iadd dX1_cornerBy_51 ?_
  refine s_rald (v := zORD _) 0 dX1_cornerBy_52 rfl (by decide) (q_ord m hm).2.2.2.2 rfl ?_
  refine s_ishr dX1_cornerBy_53 ?_
  refine s_iconst (v := 1) dX1_cornerBy_54 rfl ?_
  refine s_iand dX1_cornerBy_55 ?_
  refine s_istore dX1_cornerBy_56 (Nat.le_of_ble_eq_true rfl) rfl ?_
  refine s_iload_n dX1_cornerBy_58 rfl ?_
  refine s_iload dX1_cornerBy_59 rfl ?_
  refine s_iconst (v := 1) dX1_cornerBy_61 rfl ?_
  refine s_ishl dX1_cornerBy_62 ?_
  refine s_ior dX1_cornerBy_63 ?_
  refine s_iload dX1_cornerBy_64 rfl ?_
  refine s_iconst (v := 2) dX1_cornerBy_66 rfl ?_
  refine s_ishl dX1_cornerBy_67 ?_
  refine s_ior dX1_cornerBy_68 ?_
  refine s_iload_n dX1_cornerBy_69 rfl ?_
  refine s_bipush (v := 7) dX1_cornerBy_70 rfl ?_
  refine s_iand dX1_cornerBy_72 ?_
  refine s_ixor dX1_cornerBy_73 ?_
  exact s_iret dX1_cornerBy_74 rfl ⟨by revert hc; revert c; revert hm; revert m; decide +kernel, rfl⟩ rfl
set_option maxHeartbeats 4000000 in
set_option maxRecDepth 100000 in
theorem l_X1_imageBy {Z : zS} {d : Nat} {w : zW} {m b : Nat} (hm : m < 48) (hb : b < 256) : ∀ (n : Nat) (i a : Nat), i + n = 8 → a < 256 → zG Z M_X1_imageBy (d + 1) (fun r1 w1 => r1 = [.int (nI (pIMGL m b n i a))] ∧ w1 = w) w.length 4 [(0, .int (nI m)), (1, .int (nI b)), (2, .int (nI a)), (3, .int (nI i))] [] w := by
  intro n
  induction n with
  | zero =>
    intro i a hi ha
    have hi : i = 8 := by omega
    subst hi
    refine s_iload_n dX1_imageBy_4 rfl ?_
    refine s_bipush (v := 8) dX1_imageBy_5 rfl ?_
    refine s_icmp_ge (tgt := 35) dX1_imageBy_7 (by decide) (fun hz => ?_) (fun h => absurd (by decide) h)
    clear hz
    refine s_iload_n dX1_imageBy_35 rfl ?_
    exact s_iret dX1_imageBy_36 rfl ⟨rfl, rfl⟩ rfl
  | succ n ih =>
    intro i a hi ha
    refine s_iload_n dX1_imageBy_4 rfl ?_
    refine s_bipush (v := 8) dX1_imageBy_5 rfl ?_
    refine s_icmp_ge (tgt := 35) dX1_imageBy_7 (by decide) (fun h => absurd h (nI_ge (show i < 8 by omega) (by decide))) (fun hz => ?_)
    clear hz
    refine s_iload_n dX1_imageBy_10 rfl ?_
    refine s_iload_n dX1_imageBy_11 rfl ?_
    refine s_cs1 dX1_imageBy_12 g_X1_15 (c_X7_bitOfN (by omega) (by omega)) rfl rfl (Nat.le_of_ble_eq_true rfl) (Nat.le_of_ble_eq_true rfl) rfl ?_
    refine s_iconst (v := 1) dX1_imageBy_15 rfl ?_
    refine s_icmp_ne (tgt := 29) dX1_imageBy_16 (by decide) (fun h_16 => ?_) (fun h_16 => ?_)
    · refine s_iinc (nI (i + 1)) dX1_imageBy_29 rfl (nI_1 _) (Nat.le_of_ble_eq_true rfl) rfl ?_
      refine s_goto (tgt := 4) dX1_imageBy_32 (by decide) ?_
      first
        | (have hz : ¬ zb b i = 1 := fun e => h_16 ((zn1 (by have := zb_lt b i; omega)).mpr e)
           rw [show pIMGL m b (n + 1) i a = pIMGL m b n (i + 1) a from by rw [pIMGL, if_neg hz]]
           exact ih (i + 1) a (by omega) ha)
        | (have hz : zb b i = 1 := (zn1 (by have := zb_lt b i; omega)).mp h_16
           rw [show pIMGL m b (n + 1) i a = pIMGL m b n (i + 1) (a ||| 2 ^ pCO m i) from by rw [pIMGL, if_pos hz], zsh8 _ (Nat.lt_trans (pCO_lt m hm i (by omega)) (by decide)), fa_or]
           exact ih (i + 1) _ (by omega) (zor8 ha (zp8 _ (pCO_lt m hm i (by omega)))))
    · refine s_iload_n dX1_imageBy_19 rfl ?_
      refine s_iconst (v := 1) dX1_imageBy_20 rfl ?_
      refine s_iload_n dX1_imageBy_21 rfl ?_
      refine s_iload_n dX1_imageBy_22 rfl ?_
      refine s_cs1 dX1_imageBy_23 g_X1_19 (c_X1_cornerBy hm (by omega)) rfl rfl (Nat.le_of_ble_eq_true rfl) (Nat.le_of_ble_eq_true rfl) rfl ?_
      refine s_ishl dX1_imageBy_26 ?_
      refine s_ior dX1_imageBy_27 ?_
      refine s_istore_n dX1_imageBy_28 (Nat.le_of_ble_eq_true rfl) rfl ?_
      refine s_iinc (nI (i + 1)) dX1_imageBy_29 rfl (nI_1 _) (Nat.le_of_ble_eq_true rfl) rfl ?_
      refine s_goto (tgt := 4) dX1_imageBy_32 (by decide) ?_
      first
        | (have hz : ¬ zb b i = 1 := fun e => h_16 ((zn1 (by have := zb_lt b i; omega)).mpr e)
           rw [show pIMGL m b (n + 1) i a = pIMGL m b n (i + 1) a from by rw [pIMGL, if_neg hz]]
           exact ih (i + 1) a (by omega) ha)
        | (have hz : zb b i = 1 := (zn1 (by have := zb_lt b i; omega)).mp h_16
           rw [show pIMGL m b (n + 1) i a = pIMGL m b n (i + 1) (a ||| 2 ^ pCO m i) from by rw [pIMGL, if_pos hz], zsh8 _ (Nat.lt_trans (pCO_lt m hm i (by omega)) (by decide)), fa_or]
           exact ih (i + 1) _ (by omega) (zor8 ha (zp8 _ (pCO_lt m hm i (by omega)))))
set_option maxHeartbeats 4000000 in
set_option maxRecDepth 100000 in
theorem c_X1_imageBy {Z : zS} {d : Nat} {w : zW} {m b : Nat} (hm : m < 48) (hb : b < 256) : zF Z M_X1_imageBy (d + 1) [.int (nI m), .int (nI b)] w [.int (nI (pIMG m b))] w := by
  show zG Z M_X1_imageBy (d + 1) _ _ 0 [(0, .int (nI m)), (1, .int (nI b))] [] w
  refine s_iconst (v := 0) dX1_imageBy_0 rfl ?_
  refine s_istore_n dX1_imageBy_1 (Nat.le_of_ble_eq_true rfl) rfl ?_
  refine s_iconst (v := 0) dX1_imageBy_2 rfl ?_
  refine s_istore_n dX1_imageBy_3 (Nat.le_of_ble_eq_true rfl) rfl ?_
  exact l_X1_imageBy hm hb 8 0 0 rfl (by decide)
