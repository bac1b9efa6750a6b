/-! ===== the model: its object; images, forms ===== -/
abbrev oM (mb mk mf ma mc ms me mq mu mh mp : Int32) : va_E := .inr (6, [.ref 42, .ref 43, .ref 44, .ref 45, .ref 46, .ref 47, .ref 48, .int mb, .int mk, .ref 49, .ref 50, .ref 51, .int mf, .int ma, .int mc, .ref 52, .ref 53, .int ms, .ref 54, .ref 55, .ref 56, .ref 57, .int me, .int mq, .ref 58, .int mu, .int mh, .int mp, .ref 59, .ref 60, .ref 61, .ref 62])
def CMok (cm : Nat → Int32) : Prop := ∀ m, m < 48 → ∀ c, c < 8 → cm (8 * m + c) = nI (pCO m c)
def FOok (fo : Nat → Int32) : Prop := ∀ c, c < 256 → fo c = nI (pFOR c)
def NUok (nu : Nat → Int32) : Prop := ∀ c, c < 256 → nu c = nI (pNUM c)
theorem q_sl : ∀ v, v < 2 → ∀ k, k < 8 → nI v <<< (nI k &&& 31) = nI (v * 2 ^ k) := by decide +kernel
theorem z8m (m i : Nat) : (8 : Int32) * nI m + nI i = nI (8 * m + i) := by rw [show (8 : Int32) = nI 8 from rfl, pk_mul, nI_add]
theorem pIMGL_s (m b n i a : Nat) : pIMGL m b (n + 1) i a = pIMGL m b n (i + 1) (a ||| zb b i * 2 ^ pCO m i) := by
  rw [pIMGL]
  have h := zb_lt b i
  rcases (show zb b i = 0 ∨ zb b i = 1 by omega) with h1 | h1
  · rw [if_neg (by rw [h1]; decide), h1, Nat.zero_mul, Nat.or_zero]
  · rw [if_pos h1, h1, Nat.one_mul]
set_option maxHeartbeats 4000000 in
set_option maxRecDepth 100000 in
theorem l_X8_imageOf {Z : zS} {d : Nat} {w : zW} {mb mk mf ma mc ms me mq mu mh mp : Int32} (ho : w[41]? = some (oM mb mk mf ma mc ms me mq mu mh mp)) {cm : Nat → Int32} (hcm : w[42]? = some (aI 384 cm)) (hC : CMok cm) {b m : Nat} (hm : m < 48) (hb : b < 256) : ∀ (n : Nat) (i a : Nat), i + n = 8 → a < 256 → zG Z M_X8_imageOf (d) (fun r1 w1 => r1 = [.int (nI (pIMGL m b n i a))] ∧ w1 = w) w.length 5 [(0, .ref 41), (1, .int (nI b)), (2, .int (nI m)), (3, .int (nI a)), (4, .int (nI i))] [] w := by
  intro n
  induction n with
  | zero =>
    intro i a hi ha
    have hi : i = 8 := by omega
    subst hi
    refine s_iload dX8_imageOf_5 rfl ?_
    refine s_bipush (v := 8) dX8_imageOf_7 rfl ?_
    refine s_icmp_ge (tgt := 40) dX8_imageOf_9 (by decide) (fun hz => ?_) (fun hqz => absurd (by decide) hqz)
    clear hz
    refine s_iload_n dX8_imageOf_40 rfl ?_
    exact s_iret dX8_imageOf_41 rfl ⟨rfl, rfl⟩ rfl
  | succ n ih =>
    intro i a hi ha
    have h8 : i < 8 := by omega
    have hp := pCO_lt m hm i h8
    rw [pIMGL_s]
    refine s_iload dX8_imageOf_5 rfl ?_
    refine s_bipush (v := 8) dX8_imageOf_7 rfl ?_
    refine s_icmp_ge (tgt := 40) dX8_imageOf_9 (by decide) (fun hqz => absurd hqz (nI_ge h8 (by decide))) (fun hz => ?_)
    clear hz
    refine s_iload_n dX8_imageOf_12 rfl ?_
    refine s_iload_n dX8_imageOf_13 rfl ?_
    refine s_iload dX8_imageOf_14 rfl ?_
    refine s_ishr dX8_imageOf_16 ?_
    refine s_iconst (v := 1) dX8_imageOf_17 rfl ?_
    refine s_iand dX8_imageOf_18 ?_
    rw [zbit (by omega) (by omega)]
    refine s_aload_n dX8_imageOf_19 rfl ?_
    refine s_get dX8_imageOf_20 f_X8_15 (by assumption) (by rfl) ?_
    refine s_bipush (v := 8) dX8_imageOf_23 rfl ?_
    refine s_iload_n dX8_imageOf_25 rfl ?_
    refine s_imul dX8_imageOf_26 ?_
    refine s_iload dX8_imageOf_27 rfl ?_
    refine s_iadd dX8_imageOf_29 ?_
    rw [z8m]
    refine s_iald dX8_imageOf_30 (by assumption) (zrd (n := 384) (by omega) (by decide)) ?_
    rw [nI_clamp (by omega), hC m hm i h8]
    refine s_ishl dX8_imageOf_31 ?_
    rw [q_sl _ (zb_lt b i) _ hp]
    refine s_ior dX8_imageOf_32 ?_
    rw [fa_or]
    refine s_istore_n dX8_imageOf_33 (Nat.le_of_ble_eq_true rfl) rfl ?_
    refine s_iinc (nI (i + 1)) dX8_imageOf_34 rfl (nI_1 _) (Nat.le_of_ble_eq_true rfl) rfl ?_
    refine s_goto (tgt := 5) dX8_imageOf_37 (by decide) ?_
    refine ih (i + 1) _ (by omega) (zor8 ha ?_)
    rcases (show zb b i = 0 ∨ zb b i = 1 by have := zb_lt b i; omega) with h1 | h1
    · rw [h1, Nat.zero_mul]; decide
    · rw [h1, Nat.one_mul]; exact zp8 _ hp
set_option maxHeartbeats 4000000 in
set_option maxRecDepth 100000 in
theorem c_X8_imageOf {Z : zS} {d : Nat} {w : zW} {mb mk mf ma mc ms me mq mu mh mp : Int32} (ho : w[41]? = some (oM mb mk mf ma mc ms me mq mu mh mp)) {cm : Nat → Int32} (hcm : w[42]? = some (aI 384 cm)) (hC : CMok cm) {b m : Nat} (hm : m < 48) (hb : b < 256) : zF Z M_X8_imageOf (d) [.ref 41, .int (nI b), .int (nI m)] w [.int (nI (pIMG m b))] w := by
  show zG Z M_X8_imageOf (d) _ _ 0 [(0, .ref 41), (1, .int (nI b)), (2, .int (nI m))] [] w
  refine s_iconst (v := 0) dX8_imageOf_0 rfl ?_
  refine s_istore_n dX8_imageOf_1 (Nat.le_of_ble_eq_true rfl) rfl ?_
  refine s_iconst (v := 0) dX8_imageOf_2 rfl ?_
  refine s_istore dX8_imageOf_3 (Nat.le_of_ble_eq_true rfl) rfl ?_
  exact l_X8_imageOf ho hcm hC hm hb 8 0 0 rfl (by decide)
def lkL (v : Nat) : Nat → Nat → Nat → Nat
  | 0, _, a => a
  | n + 1, i, a => lkL v n (i + 1) (if pFOR i = v then a + 1 else a)
def lkT (v : Nat) : List Nat → Nat → Nat
  | [], a => a
  | x :: xs, a => lkT v xs (if x = v then a + 1 else a)
theorem lk_T (v : Nat) : ∀ n i a, lkL v n i a = lkT v ((List.range' i n).map pFOR) a
  | 0, _, _ => rfl
  | n + 1, i, a => by
    rw [List.range'_succ, List.map_cons]
    exact lk_T v n (i + 1) _
def zT : List Nat := [0, 1, 1, 3, 1, 3, 6, 7, 1, 6, 3, 7, 3, 7, 7, 15, 1, 3, 6, 7, 6, 7, 22, 23, 24, 25, 25, 27, 25, 27, 30, 31, 1, 6, 3, 7, 24, 25, 25, 27, 6, 22, 7, 23, 25, 30, 27, 31, 3, 7, 7, 15, 25, 27, 30, 31, 25, 30, 27, 31, 60, 61, 61, 63, 1, 6, 24, 25, 3, 7, 25, 27, 6, 22, 25, 30, 7, 23, 27, 31, 3, 7, 25, 27, 7, 15, 30, 31, 25, 30, 60, 61, 27, 31, 61, 63, 6, 22, 25, 30, 25, 30, 60, 61, 22, 105, 30, 107, 30, 107, 61, 111, 7, 23, 27, 31, 27, 31, 61, 63, 30, 107, 61, 111, 61, 111, 126, 127, 1, 24, 6, 25, 6, 25, 22, 30, 3, 25, 7, 27, 7, 27, 23, 31, 6, 25, 22, 30, 22, 30, 105, 107, 25, 60, 30, 61, 30, 61, 107, 111, 3, 25, 7, 27, 25, 60, 30, 61, 7, 30, 15, 31, 27, 61, 31, 63, 7, 27, 23, 31, 30, 61, 107, 111, 27, 61, 31, 63, 61, 126, 111, 127, 3, 25, 25, 60, 7, 27, 30, 61, 7, 30, 27, 61, 15, 31, 31, 63, 7, 27, 30, 61, 23, 31, 107, 111, 27, 61, 61, 126, 31, 63, 111, 127, 7, 30, 27, 61, 27, 61, 61, 126, 23, 107, 31, 111, 31, 111, 63, 127, 15, 31, 31, 63, 31, 63, 111, 127, 31, 111, 63, 127, 63, 127, 127, 255]
theorem q_T : (List.range' 0 256).map pFOR = zT := by decide +kernel
theorem q_Ti : ∀ b, b < 256 → pFOR b = zT.getD b 0 := by decide +kernel
theorem q_lk : ∀ b, b < 256 → lkT (zT.getD b 0) zT 0 = 48 / pSTI b := by decide +kernel
theorem lk_eq {b : Nat} (hb : b < 256) : lkL (pFOR b) 256 0 0 = 48 / pSTI b := by
  rw [lk_T, q_T, q_Ti b hb]
  exact q_lk b hb
set_option maxHeartbeats 4000000 in
set_option maxRecDepth 100000 in
theorem l_X8_likes {Z : zS} {d : Nat} {w : zW} {mb mk mf ma mc ms me mq mu mh mp : Int32} (ho : w[41]? = some (oM mb mk mf ma mc ms me mq mu mh mp)) {fo : Nat → Int32} (hfo : w[43]? = some (aI 256 fo)) (hF : FOok fo) {b : Nat} (hb : b < 256) : ∀ (n : Nat) (i a : Nat), i + n = 256 → zG Z M_X8_likes (d) (fun r1 w1 => r1 = [.int (nI (lkL (pFOR b) n i a))] ∧ w1 = w) w.length 4 [(0, .ref 41), (1, .int (nI b)), (2, .int (nI a)), (3, .int (nI i))] [] w := by
  intro n
  induction n with
  | zero =>
    intro i a hi
    have hi : i = 256 := by omega
    subst hi
    refine s_iload_n dX8_likes_4 rfl ?_
    refine s_sipush (v := 256) dX8_likes_5 rfl ?_
    refine s_icmp_ge (tgt := 40) dX8_likes_8 (by decide) (fun hz => ?_) (fun hqz => absurd (by decide) hqz)
    clear hz
    refine s_iload_n dX8_likes_40 rfl ?_
    exact s_iret dX8_likes_41 rfl ⟨rfl, rfl⟩ rfl
  | succ n ih =>
    intro i a hi
    have h8 : i < 256 := by omega
    have hp1 : pFOR i < 2 ^ 31 := Nat.lt_trans (pFOR_lt h8) (by decide)
    have hp2 : pFOR b < 2 ^ 31 := Nat.lt_trans (pFOR_lt hb) (by decide)
    refine s_iload_n dX8_likes_4 rfl ?_
    refine s_sipush (v := 256) dX8_likes_5 rfl ?_
    refine s_icmp_ge (tgt := 40) dX8_likes_8 (by decide) (fun hqz => absurd hqz (nI_ge h8 (by decide))) (fun hz => ?_)
    clear hz
    refine s_iload_n dX8_likes_11 rfl ?_
    refine s_aload_n dX8_likes_12 rfl ?_
    refine s_get dX8_likes_13 f_X8_19 (by assumption) (by rfl) ?_
    refine s_iload_n dX8_likes_16 rfl ?_
    refine s_iald dX8_likes_17 (by assumption) (zrd (n := 256) h8 (by decide)) ?_
    rw [nI_clamp (by omega), hF i h8]
    refine s_aload_n dX8_likes_18 rfl ?_
    refine s_get dX8_likes_19 f_X8_19 (by assumption) (by rfl) ?_
    refine s_iload_n dX8_likes_22 rfl ?_
    refine s_iald dX8_likes_23 (by assumption) (zrd (n := 256) hb (by decide)) ?_
    rw [nI_clamp (by omega), hF b hb]
    refine s_icmp_ne (tgt := 31) dX8_likes_24 (by decide) (fun h_24 => ?_) (fun h_24 => ?_)
    · refine s_iconst (v := 0) dX8_likes_31 rfl ?_
      refine s_iadd dX8_likes_32 ?_
      refine s_istore_n dX8_likes_33 (Nat.le_of_ble_eq_true rfl) rfl ?_
      refine s_iinc (nI (i + 1)) dX8_likes_34 rfl (nI_1 _) (Nat.le_of_ble_eq_true rfl) rfl ?_
      refine s_goto (tgt := 4) dX8_likes_37 (by decide) ?_
      first
        | (rw [nI_1, show lkL (pFOR b) (n + 1) i a = lkL (pFOR b) n (i + 1) (a + 1) from by rw [lkL, if_pos ((nI_eq hp1 hp2).mp h_24)]]
           exact ih (i + 1) (a + 1) (by omega))
        | (rw [Int32.add_zero, show lkL (pFOR b) (n + 1) i a = lkL (pFOR b) n (i + 1) a from by rw [lkL, if_neg (fun q => h_24 (by rw [q]))]]
           exact ih (i + 1) a (by omega))
    · refine s_iconst (v := 1) dX8_likes_27 rfl ?_
      refine s_goto (tgt := 32) dX8_likes_28 (by decide) ?_
      refine s_iadd dX8_likes_32 ?_
      refine s_istore_n dX8_likes_33 (Nat.le_of_ble_eq_true rfl) rfl ?_
      refine s_iinc (nI (i + 1)) dX8_likes_34 rfl (nI_1 _) (Nat.le_of_ble_eq_true rfl) rfl ?_
      refine s_goto (tgt := 4) dX8_likes_37 (by decide) ?_
      first
        | (rw [nI_1, show lkL (pFOR b) (n + 1) i a = lkL (pFOR b) n (i + 1) (a + 1) from by rw [lkL, if_pos ((nI_eq hp1 hp2).mp h_24)]]
           exact ih (i + 1) (a + 1) (by omega))
        | (rw [Int32.add_zero, show lkL (pFOR b) (n + 1) i a = lkL (pFOR b) n (i + 1) a from by rw [lkL, if_neg (fun q => h_24 (by rw [q]))]]
           exact ih (i + 1) a (by omega))
set_option maxHeartbeats 4000000 in
set_option maxRecDepth 100000 in
theorem c_X8_likes {Z : zS} {d : Nat} {w : zW} {mb mk mf ma mc ms me mq mu mh mp : Int32} (ho : w[41]? = some (oM mb mk mf ma mc ms me mq mu mh mp)) {fo : Nat → Int32} (hfo : w[43]? = some (aI 256 fo)) (hF : FOok fo) {b : Nat} (hb : b < 256) : zF Z M_X8_likes (d) [.ref 41, .int (nI b)] w [.int (nI (48 / pSTI b))] w := by
  show zG Z M_X8_likes (d) _ _ 0 [(0, .ref 41), (1, .int (nI b))] [] w
  refine s_iconst (v := 0) dX8_likes_0 rfl ?_
  refine s_istore_n dX8_likes_1 (Nat.le_of_ble_eq_true rfl) rfl ?_
  refine s_iconst (v := 0) dX8_likes_2 rfl ?_
  refine s_istore_n dX8_likes_3 (Nat.le_of_ble_eq_true rfl) rfl ?_
  have K := l_X8_likes (Z := Z) (d := d) ho hfo hF hb 256 0 0 rfl
  rw [lk_eq hb] at K
  exact K
set_option maxHeartbeats 4000000 in
set_option maxRecDepth 100000 in
theorem l_X8_stills {Z : zS} {d : Nat} {w : zW} {mb mk mf ma mc ms me mq mu mh mp : Int32} (ho : w[41]? = some (oM mb mk mf ma mc ms me mq mu mh mp)) {cm : Nat → Int32} (hcm : w[42]? = some (aI 384 cm)) (hC : CMok cm) {b : Nat} (hb : b < 256) : ∀ (n : Nat) (i a : Nat), i + n = 48 → zG Z M_X8_stills (d + 1) (fun r1 w1 => r1 = [.int (nI (pSTL b n i a))] ∧ w1 = w) w.length 4 [(0, .ref 41), (1, .int (nI b)), (2, .int (nI a)), (3, .int (nI i))] [] w := by
  intro n
  induction n with
  | zero =>
    intro i a hi
    have hi : i = 48 := by omega
    subst hi
    refine s_iload_n dX8_stills_4 rfl ?_
    refine s_bipush (v := 48) dX8_stills_5 rfl ?_
    refine s_icmp_ge (tgt := 34) dX8_stills_7 (by decide) (fun hz => ?_) (fun hqz => absurd (by decide) hqz)
    clear hz
    refine s_iload_n dX8_stills_34 rfl ?_
    exact s_iret dX8_stills_35 rfl ⟨rfl, rfl⟩ rfl
  | succ n ih =>
    intro i a hi
    have h8 : i < 48 := by omega
    have hp1 : pIMG i b < 2 ^ 31 := Nat.lt_trans (pIMG_lt h8 b) (by decide)
    refine s_iload_n dX8_stills_4 rfl ?_
    refine s_bipush (v := 48) dX8_stills_5 rfl ?_
    refine s_icmp_ge (tgt := 34) dX8_stills_7 (by decide) (fun hqz => absurd hqz (nI_ge h8 (by decide))) (fun hz => ?_)
    clear hz
    refine s_iload_n dX8_stills_10 rfl ?_
    refine s_aload_n dX8_stills_11 rfl ?_
    refine s_iload_n dX8_stills_12 rfl ?_
    refine s_iload_n dX8_stills_13 rfl ?_
    refine s_cv1 dX8_stills_14 g_X8_81 (c_X8_imageOf ho hcm hC (h8) (hb)) (by assumption) rfl rfl rfl rfl (Nat.le_of_ble_eq_true rfl) (Nat.le_of_ble_eq_true rfl) rfl ?_
    refine s_iload_n dX8_stills_17 rfl ?_
    refine s_icmp_ne (tgt := 25) dX8_stills_18 (by decide) (fun h_18 => ?_) (fun h_18 => ?_)
    · refine s_iconst (v := 0) dX8_stills_25 rfl ?_
      refine s_iadd dX8_stills_26 ?_
      refine s_istore_n dX8_stills_27 (Nat.le_of_ble_eq_true rfl) rfl ?_
      refine s_iinc (nI (i + 1)) dX8_stills_28 rfl (nI_1 _) (Nat.le_of_ble_eq_true rfl) rfl ?_
      refine s_goto (tgt := 4) dX8_stills_31 (by decide) ?_
      first
        | (rw [nI_1, show pSTL b (n + 1) i a = pSTL b n (i + 1) (a + 1) from by rw [pSTL, if_pos ((nI_eq hp1 (by omega)).mp h_18)]]
           exact ih (i + 1) (a + 1) (by omega))
        | (rw [Int32.add_zero, show pSTL b (n + 1) i a = pSTL b n (i + 1) a from by rw [pSTL, if_neg (fun q => h_18 (by rw [q]))]]
           exact ih (i + 1) a (by omega))
    · refine s_iconst (v := 1) dX8_stills_21 rfl ?_
      refine s_goto (tgt := 26) dX8_stills_22 (by decide) ?_
      refine s_iadd dX8_stills_26 ?_
      refine s_istore_n dX8_stills_27 (Nat.le_of_ble_eq_true rfl) rfl ?_
      refine s_iinc (nI (i + 1)) dX8_stills_28 rfl (nI_1 _) (Nat.le_of_ble_eq_true rfl) rfl ?_
      refine s_goto (tgt := 4) dX8_stills_31 (by decide) ?_
      first
        | (rw [nI_1, show pSTL b (n + 1) i a = pSTL b n (i + 1) (a + 1) from by rw [pSTL, if_pos ((nI_eq hp1 (by omega)).mp h_18)]]
           exact ih (i + 1) (a + 1) (by omega))
        | (rw [Int32.add_zero, show pSTL b (n + 1) i a = pSTL b n (i + 1) a from by rw [pSTL, if_neg (fun q => h_18 (by rw [q]))]]
           exact ih (i + 1) a (by omega))
set_option maxHeartbeats 4000000 in
set_option maxRecDepth 100000 in
theorem c_X8_stills {Z : zS} {d : Nat} {w : zW} {mb mk mf ma mc ms me mq mu mh mp : Int32} (ho : w[41]? = some (oM mb mk mf ma mc ms me mq mu mh mp)) {cm : Nat → Int32} (hcm : w[42]? = some (aI 384 cm)) (hC : CMok cm) {b : Nat} (hb : b < 256) : zF Z M_X8_stills (d + 1) [.ref 41, .int (nI b)] w [.int (nI (pSTI b))] w := by
  show zG Z M_X8_stills (d + 1) _ _ 0 [(0, .ref 41), (1, .int (nI b))] [] w
  refine s_iconst (v := 0) dX8_stills_0 rfl ?_
  refine s_istore_n dX8_stills_1 (Nat.le_of_ble_eq_true rfl) rfl ?_
  refine s_iconst (v := 0) dX8_stills_2 rfl ?_
  refine s_istore_n dX8_stills_3 (Nat.le_of_ble_eq_true rfl) rfl ?_
  exact l_X8_stills ho hcm hC hb 48 0 0 rfl
set_option maxHeartbeats 4000000 in
set_option maxRecDepth 100000 in
theorem l_X8_far {Z : zS} {d : Nat} {w : zW} {b k : Nat} {mf ma mc ms me mq mu mh mp : Int32} (ho : w[41]? = some (oM (nI b) (nI k) mf ma mc ms me mq mu mh mp)) (hb : b < 256) (hk : k < 256) {cm : Nat → Int32} (hcm : w[42]? = some (aI 384 cm)) (hC : CMok cm) : ∀ (n : Nat) (i a : Nat), i + n = 48 → a < 256 → zG Z M_X8_far (d + 1) (fun r1 w1 => r1 = [.int (nI (pDSL b k n i a))] ∧ w1 = w) w.length 5 [(0, .ref 41), (1, .int (nI a)), (2, .int (nI i))] [] w := by
  intro n
  induction n with
  | zero =>
    intro i a hi ha
    have hi : i = 48 := by omega
    subst hi
    refine s_iload_n dX8_far_5 rfl ?_
    refine s_bipush (v := 48) dX8_far_6 rfl ?_
    refine s_icmp_ge (tgt := 46) dX8_far_8 (by decide) (fun hz => ?_) (fun hqz => absurd (by decide) hqz)
    clear hz
    refine s_iload_n dX8_far_46 rfl ?_
    exact s_iret dX8_far_47 rfl ⟨rfl, rfl⟩ rfl
  | succ n ih =>
    intro i a hi ha
    have h8 : i < 48 := by omega
    have hp2 : pPOP (pIMG i b ^^^ k) < 2 ^ 31 := pPOP31 _
    refine s_iload_n dX8_far_5 rfl ?_
    refine s_bipush (v := 48) dX8_far_6 rfl ?_
    refine s_icmp_ge (tgt := 46) dX8_far_8 (by decide) (fun hqz => absurd hqz (nI_ge h8 (by decide))) (fun hz => ?_)
    clear hz
    refine s_aload_n dX8_far_11 rfl ?_
    refine s_aload_n dX8_far_12 rfl ?_
    refine s_get dX8_far_13 f_X8_125 (by assumption) (by rfl) ?_
    refine s_iload_n dX8_far_16 rfl ?_
    refine s_cv1 dX8_far_17 g_X8_81 (c_X8_imageOf ho hcm hC (h8) (hb)) (by assumption) rfl rfl rfl rfl (Nat.le_of_ble_eq_true rfl) (Nat.le_of_ble_eq_true rfl) rfl ?_
    refine s_aload_n dX8_far_20 rfl ?_
    refine s_get dX8_far_21 f_X8_132 (by assumption) (by rfl) ?_
    refine s_ixor dX8_far_24 ?_
    rw [fb_xorI]
    refine s_cs1 dX8_far_25 g_X8_105 (c_X8_bits (zxor8 (pIMG_lt h8 b) hk)) rfl rfl (Nat.le_of_ble_eq_true rfl) (Nat.le_of_ble_eq_true rfl) rfl ?_
    refine s_istore_n dX8_far_28 (Nat.le_of_ble_eq_true rfl) rfl ?_
    refine s_iload_n dX8_far_29 rfl ?_
    refine s_iload_n dX8_far_30 rfl ?_
    refine s_icmp_ge (tgt := 38) dX8_far_31 (by decide) (fun h_31 => ?_) (fun h_31 => ?_)
    · refine s_iload_n dX8_far_38 rfl ?_
      refine s_istore_n dX8_far_39 (Nat.le_of_ble_eq_true rfl) rfl ?_
      refine s_iinc (nI (i + 1)) dX8_far_40 rfl (nI_1 _) (Nat.le_of_ble_eq_true rfl) rfl ?_
      refine s_goto (tgt := 5) dX8_far_43 (by decide) ?_
      first
        | (rw [show pDSL b k (n + 1) i a = pDSL b k n (i + 1) a from by rw [pDSL, if_neg (fun q => absurd ((nI_ltI hp2 (by omega)).mpr q) (Int32.not_lt.mpr h_31))]]
           refine s_take 3 ?_
           exact ih (i + 1) a (by omega) ha)
        | (rw [show pDSL b k (n + 1) i a = pDSL b k n (i + 1) (pPOP (pIMG i b ^^^ k)) from by rw [pDSL, if_pos ((nI_ltI hp2 (by omega)).mp (fa_of_nle h_31))]]
           refine s_take 3 ?_
           exact ih (i + 1) _ (by omega) (by have := pPOP_le (pIMG i b ^^^ k); omega))
    · refine s_iload_n dX8_far_34 rfl ?_
      refine s_goto (tgt := 39) dX8_far_35 (by decide) ?_
      refine s_istore_n dX8_far_39 (Nat.le_of_ble_eq_true rfl) rfl ?_
      refine s_iinc (nI (i + 1)) dX8_far_40 rfl (nI_1 _) (Nat.le_of_ble_eq_true rfl) rfl ?_
      refine s_goto (tgt := 5) dX8_far_43 (by decide) ?_
      first
        | (rw [show pDSL b k (n + 1) i a = pDSL b k n (i + 1) a from by rw [pDSL, if_neg (fun q => absurd ((nI_ltI hp2 (by omega)).mpr q) (Int32.not_lt.mpr h_31))]]
           refine s_take 3 ?_
           exact ih (i + 1) a (by omega) ha)
        | (rw [show pDSL b k (n + 1) i a = pDSL b k n (i + 1) (pPOP (pIMG i b ^^^ k)) from by rw [pDSL, if_pos ((nI_ltI hp2 (by omega)).mp (fa_of_nle h_31))]]
           refine s_take 3 ?_
           exact ih (i + 1) _ (by omega) (by have := pPOP_le (pIMG i b ^^^ k); omega))
set_option maxHeartbeats 4000000 in
set_option maxRecDepth 100000 in
theorem c_X8_far {Z : zS} {d : Nat} {w : zW} {b k : Nat} {mf ma mc ms me mq mu mh mp : Int32} (ho : w[41]? = some (oM (nI b) (nI k) mf ma mc ms me mq mu mh mp)) (hb : b < 256) (hk : k < 256) {cm : Nat → Int32} (hcm : w[42]? = some (aI 384 cm)) (hC : CMok cm) : zF Z M_X8_far (d + 1) [.ref 41] w [.int (nI (pDSL b k 48 0 8))] w := by
  show zG Z M_X8_far (d + 1) _ _ 0 [(0, .ref 41)] [] w
  refine s_bipush (v := 8) dX8_far_0 rfl ?_
  refine s_istore_n dX8_far_2 (Nat.le_of_ble_eq_true rfl) rfl ?_
  refine s_iconst (v := 0) dX8_far_3 rfl ?_
  refine s_istore_n dX8_far_4 (Nat.le_of_ble_eq_true rfl) rfl ?_
  exact l_X8_far ho hb hk hcm hC 48 0 8 rfl (by decide)
def fmL (i : Int32) : Nat → Nat → Int32
  | 0, _ => -5
  | n + 1, c => if pFOR c = c ∧ nI (pNUM c) = i then nI c else fmL i n (c + 1)
theorem pNUM_lt : ∀ c, c < 256 → pNUM c < 22 := by decide +kernel
theorem fm_no {i : Int32} (hi : 22 ≤ i) : ∀ n c, c + n = 256 → fmL i n c = -5
  | 0, _, _ => rfl
  | n + 1, c, h => by
    unfold fmL
    rw [if_neg (fun q => nI_ge (pNUM_lt c (by omega)) (by decide) (by rw [q.2]; exact hi))]
    exact fm_no hi n (c + 1) (by omega)
theorem q_fm : ∀ t, t < 22 → fmL (nI t) 256 0 = zFRM t := by decide +kernel
def clL (k : Nat) : Nat → Nat → Nat → Nat
  | 0, _, a => a
  | n + 1, c, a => clL k n (c + 1) (if pFOR c = c ∧ pPOP c = k then a + 1 else a)
theorem q_clL : ∀ k, k < 9 → nI (clL k 256 0 0) = pCWL (nI k) 22 0 0 := by decide +kernel
set_option maxHeartbeats 4000000 in
set_option maxRecDepth 100000 in
theorem l_X8_form {Z : zS} {d : Nat} {w : zW} {mb mk mf ma mc ms me mq mu mh mp : Int32} (ho : w[41]? = some (oM mb mk mf ma mc ms me mq mu mh mp)) {fo : Nat → Int32} (hfo : w[43]? = some (aI 256 fo)) (hF : FOok fo) {nu : Nat → Int32} (hnu : w[44]? = some (aI 256 nu)) (hN : NUok nu) {v : Int32} : ∀ (n : Nat) (i : Nat), i + n = 256 → zG Z M_X8_form (d) (fun r1 w1 => r1 = [.int (fmL v n i)] ∧ w1 = w) w.length 8 [(0, .ref 41), (1, .int v), (2, .int (nI i))] [] w := by
  intro n
  induction n with
  | zero =>
    intro i hi
    have hi : i = 256 := by omega
    subst hi
    refine s_iload_n dX8_form_8 rfl ?_
    refine s_sipush (v := 256) dX8_form_9 rfl ?_
    refine s_icmp_ge (tgt := 43) dX8_form_12 (by decide) (fun hz => ?_) (fun hqz => absurd (by decide) hqz)
    clear hz
    refine s_bipush (v := (-5)) dX8_form_43 rfl ?_
    exact s_iret dX8_form_45 rfl ⟨rfl, rfl⟩ rfl
  | succ n ih =>
    intro i hi
    have h8 : i < 256 := by omega
    have hp1 : pFOR i < 2 ^ 31 := Nat.lt_trans (pFOR_lt h8) (by decide)
    refine s_iload_n dX8_form_8 rfl ?_
    refine s_sipush (v := 256) dX8_form_9 rfl ?_
    refine s_icmp_ge (tgt := 43) dX8_form_12 (by decide) (fun hqz => absurd hqz (nI_ge h8 (by decide))) (fun hz => ?_)
    clear hz
    refine s_aload_n dX8_form_15 rfl ?_
    refine s_get dX8_form_16 f_X8_19 (by assumption) (by rfl) ?_
    refine s_iload_n dX8_form_19 rfl ?_
    refine s_iald dX8_form_20 (by assumption) (zrd (n := 256) h8 (by decide)) ?_
    rw [nI_clamp (by omega), hF i h8]
    refine s_iload_n dX8_form_21 rfl ?_
    refine s_icmp_ne (tgt := 37) dX8_form_22 (by decide) (fun h_22 => ?_) (fun h_22 => ?_)
    · refine s_iinc (nI (i + 1)) dX8_form_37 rfl (nI_1 _) (Nat.le_of_ble_eq_true rfl) rfl ?_
      refine s_goto (tgt := 8) dX8_form_40 (by decide) ?_
      rw [show fmL v (n + 1) i = fmL v n (i + 1) from by rw [fmL, if_neg (fun q => h_22 (by rw [q.1]))]]
      exact ih (i + 1) (by omega)
    · refine s_aload_n dX8_form_25 rfl ?_
      refine s_get dX8_form_26 f_X8_22 (by assumption) (by rfl) ?_
      refine s_iload_n dX8_form_29 rfl ?_
      refine s_iald dX8_form_30 (by assumption) (zrd (n := 256) h8 (by decide)) ?_
      rw [nI_clamp (by omega), hN i h8]
      refine s_iload_n dX8_form_31 rfl ?_
      refine s_icmp_ne (tgt := 37) dX8_form_32 (by decide) (fun h_32 => ?_) (fun h_32 => ?_)
      · refine s_iinc (nI (i + 1)) dX8_form_37 rfl (nI_1 _) (Nat.le_of_ble_eq_true rfl) rfl ?_
        refine s_goto (tgt := 8) dX8_form_40 (by decide) ?_
        rw [show fmL v (n + 1) i = fmL v n (i + 1) from by rw [fmL, if_neg (fun q => h_32 q.2)]]
        exact ih (i + 1) (by omega)
      · refine s_iload_n dX8_form_35 rfl ?_
        exact s_iret dX8_form_36 rfl ⟨by rw [fmL, if_pos ⟨(nI_eq hp1 (by omega)).mp h_22, h_32⟩], rfl⟩ rfl
set_option maxHeartbeats 4000000 in
set_option maxRecDepth 100000 in
theorem y_form1 {Z : zS} {d : Nat} {w : zW} {mb mk mf ma mc ms me mq mu mh mp : Int32} (ho : w[41]? = some (oM mb mk mf ma mc ms me mq mu mh mp)) {v : Int32} (hv : v < 0) : zF Z M_X8_form (d) [.ref 41, .int v] w [.int (-1)] w := by
  show zG Z M_X8_form (d) _ _ 0 [(0, .ref 41), (1, .int v)] [] w
  refine s_iload_n dX8_form_0 rfl ?_
  refine s_if_ge (tgt := 6) dX8_form_1 (by decide) (fun hqz => absurd hqz (Int32.not_le.mpr hv)) (fun hz => ?_)
  clear hz
  refine s_iconst (v := (-1)) dX8_form_4 rfl ?_
  exact s_iret dX8_form_5 rfl ⟨rfl, rfl⟩ rfl
set_option maxHeartbeats 4000000 in
set_option maxRecDepth 100000 in
theorem y_form2 {Z : zS} {d : Nat} {w : zW} {mb mk mf ma mc ms me mq mu mh mp : Int32} (ho : w[41]? = some (oM mb mk mf ma mc ms me mq mu mh mp)) {fo : Nat → Int32} (hfo : w[43]? = some (aI 256 fo)) (hF : FOok fo) {nu : Nat → Int32} (hnu : w[44]? = some (aI 256 nu)) (hN : NUok nu) {v : Int32} (hv : 0 ≤ v) (hv2 : 22 ≤ v) : zF Z M_X8_form (d) [.ref 41, .int v] w [.int (-5)] w := by
  show zG Z M_X8_form (d) _ _ 0 [(0, .ref 41), (1, .int v)] [] w
  refine s_iload_n dX8_form_0 rfl ?_
  refine s_if_ge (tgt := 6) dX8_form_1 (by decide) (fun hz => ?_) (fun hqz => absurd hv hqz)
  clear hz
  refine s_iconst (v := 0) dX8_form_6 rfl ?_
  refine s_istore_n dX8_form_7 (Nat.le_of_ble_eq_true rfl) rfl ?_
  have K := l_X8_form (Z := Z) (d := d) (v := v) ho hfo hF hnu hN 256 0 rfl
  rw [fm_no hv2 256 0 rfl] at K
  exact K
set_option maxHeartbeats 4000000 in
set_option maxRecDepth 100000 in
theorem y_form {Z : zS} {d : Nat} {w : zW} {mb mk mf ma mc ms me mq mu mh mp : Int32} (ho : w[41]? = some (oM mb mk mf ma mc ms me mq mu mh mp)) {fo : Nat → Int32} (hfo : w[43]? = some (aI 256 fo)) (hF : FOok fo) {nu : Nat → Int32} (hnu : w[44]? = some (aI 256 nu)) (hN : NUok nu) {t : Nat} (ht : t < 22) : zF Z M_X8_form (d) [.ref 41, .int (nI t)] w [.int (zFRM t)] w := by
  show zG Z M_X8_form (d) _ _ 0 [(0, .ref 41), (1, .int (nI t))] [] w
  refine s_iload_n dX8_form_0 rfl ?_
  refine s_if_ge (tgt := 6) dX8_form_1 (by decide) (fun hz => ?_) (fun hqz => absurd (nI_pos' (by omega)) hqz)
  clear hz
  refine s_iconst (v := 0) dX8_form_6 rfl ?_
  refine s_istore_n dX8_form_7 (Nat.le_of_ble_eq_true rfl) rfl ?_
  have K := l_X8_form (Z := Z) (d := d) (v := nI t) ho hfo hF hnu hN 256 0 rfl
  rw [q_fm t ht] at K
  exact K
set_option maxHeartbeats 4000000 in
set_option maxRecDepth 100000 in
theorem l_X8_classes {Z : zS} {d : Nat} {w : zW} {mb mk mf ma mc ms me mq mu mh mp : Int32} (ho : w[41]? = some (oM mb mk mf ma mc ms me mq mu mh mp)) {fo : Nat → Int32} (hfo : w[43]? = some (aI 256 fo)) (hF : FOok fo) {k : Nat} (hk : k < 9) : ∀ (n : Nat) (i a : Nat), i + n = 256 → zG Z M_X8_classes (d + 1) (fun r1 w1 => r1 = [.int (nI (clL k n i a))] ∧ w1 = w) w.length 17 [(0, .ref 41), (1, .int (nI k)), (2, .int (nI a)), (3, .int (nI i))] [] w := by
  intro n
  induction n with
  | zero =>
    intro i a hi
    have hi : i = 256 := by omega
    subst hi
    refine s_iload_n dX8_classes_17 rfl ?_
    refine s_sipush (v := 256) dX8_classes_18 rfl ?_
    refine s_icmp_ge (tgt := 56) dX8_classes_21 (by decide) (fun hz => ?_) (fun hqz => absurd (by decide) hqz)
    clear hz
    refine s_iload_n dX8_classes_56 rfl ?_
    exact s_iret dX8_classes_57 rfl ⟨rfl, rfl⟩ rfl
  | succ n ih =>
    intro i a hi
    have h8 : i < 256 := by omega
    have hp1 : pFOR i < 2 ^ 31 := Nat.lt_trans (pFOR_lt h8) (by decide)
    refine s_iload_n dX8_classes_17 rfl ?_
    refine s_sipush (v := 256) dX8_classes_18 rfl ?_
    refine s_icmp_ge (tgt := 56) dX8_classes_21 (by decide) (fun hqz => absurd hqz (nI_ge h8 (by decide))) (fun hz => ?_)
    clear hz
    refine s_iload_n dX8_classes_24 rfl ?_
    refine s_aload_n dX8_classes_25 rfl ?_
    refine s_get dX8_classes_26 f_X8_19 (by assumption) (by rfl) ?_
    refine s_iload_n dX8_classes_29 rfl ?_
    refine s_iald dX8_classes_30 (by assumption) (zrd (n := 256) h8 (by decide)) ?_
    rw [nI_clamp (by omega), hF i h8]
    refine s_iload_n dX8_classes_31 rfl ?_
    refine s_icmp_ne (tgt := 47) dX8_classes_32 (by decide) (fun h_32 => ?_) (fun h_32 => ?_)
    · refine s_iconst (v := 0) dX8_classes_47 rfl ?_
      refine s_iadd dX8_classes_48 ?_
      refine s_istore_n dX8_classes_49 (Nat.le_of_ble_eq_true rfl) rfl ?_
      refine s_iinc (nI (i + 1)) dX8_classes_50 rfl (nI_1 _) (Nat.le_of_ble_eq_true rfl) rfl ?_
      refine s_goto (tgt := 17) dX8_classes_53 (by decide) ?_
      rw [Int32.add_zero, show clL k (n + 1) i a = clL k n (i + 1) a from by rw [clL, if_neg (fun q => h_32 (by rw [q.1]))]]
      exact ih (i + 1) a (by omega)
    · refine s_iload_n dX8_classes_35 rfl ?_
      refine s_cs1 dX8_classes_36 g_X8_105 (c_X8_bits h8) rfl rfl (Nat.le_of_ble_eq_true rfl) (Nat.le_of_ble_eq_true rfl) rfl ?_
      refine s_iload_n dX8_classes_39 rfl ?_
      refine s_icmp_ne (tgt := 47) dX8_classes_40 (by decide) (fun h_40 => ?_) (fun h_40 => ?_)
      · refine s_iconst (v := 0) dX8_classes_47 rfl ?_
        refine s_iadd dX8_classes_48 ?_
        refine s_istore_n dX8_classes_49 (Nat.le_of_ble_eq_true rfl) rfl ?_
        refine s_iinc (nI (i + 1)) dX8_classes_50 rfl (nI_1 _) (Nat.le_of_ble_eq_true rfl) rfl ?_
        refine s_goto (tgt := 17) dX8_classes_53 (by decide) ?_
        first
          | (rw [nI_1, show clL k (n + 1) i a = clL k n (i + 1) (a + 1) from by rw [clL, if_pos ⟨(nI_eq hp1 (by omega)).mp h_32, (nI_eq (pPOP31 i) (by omega)).mp h_40⟩]]
             exact ih (i + 1) (a + 1) (by omega))
          | (rw [Int32.add_zero, show clL k (n + 1) i a = clL k n (i + 1) a from by rw [clL, if_neg (fun q => h_40 (by rw [q.2]))]]
             exact ih (i + 1) a (by omega))
      · refine s_iconst (v := 1) dX8_classes_43 rfl ?_
        refine s_goto (tgt := 48) dX8_classes_44 (by decide) ?_
        refine s_iadd dX8_classes_48 ?_
        refine s_istore_n dX8_classes_49 (Nat.le_of_ble_eq_true rfl) rfl ?_
        refine s_iinc (nI (i + 1)) dX8_classes_50 rfl (nI_1 _) (Nat.le_of_ble_eq_true rfl) rfl ?_
        refine s_goto (tgt := 17) dX8_classes_53 (by decide) ?_
        first
          | (rw [nI_1, show clL k (n + 1) i a = clL k n (i + 1) (a + 1) from by rw [clL, if_pos ⟨(nI_eq hp1 (by omega)).mp h_32, (nI_eq (pPOP31 i) (by omega)).mp h_40⟩]]
             exact ih (i + 1) (a + 1) (by omega))
          | (rw [Int32.add_zero, show clL k (n + 1) i a = clL k n (i + 1) a from by rw [clL, if_neg (fun q => h_40 (by rw [q.2]))]]
             exact ih (i + 1) a (by omega))
set_option maxHeartbeats 4000000 in
set_option maxRecDepth 100000 in
theorem y_classes1 {Z : zS} {d : Nat} {w : zW} {mb mk mf ma mc ms me mq mu mh mp : Int32} (ho : w[41]? = some (oM mb mk mf ma mc ms me mq mu mh mp)) {v : Int32} (hv : v < 0 ∨ 9 ≤ v) : zF Z M_X8_classes (d + 1) [.ref 41, .int v] w [.int (-2)] w := by
  show zG Z M_X8_classes (d + 1) _ _ 0 [(0, .ref 41), (1, .int v)] [] w
  refine s_iload_n dX8_classes_0 rfl ?_
  refine s_iconst (v := 0) dX8_classes_1 rfl ?_
  refine s_bipush (v := 8) dX8_classes_2 rfl ?_
  refine s_cs1 dX8_classes_4 g_X8_5 (c_X8_isIn) rfl rfl (Nat.le_of_ble_eq_true rfl) (Nat.le_of_ble_eq_true rfl) rfl ?_
  refine s_if_ne (tgt := 13) dX8_classes_7 (by decide) (fun hqz => absurd (miN (n := 8) (by decide) hv) hqz) (fun hz => ?_)
  clear hz
  refine s_bipush (v := (-2)) dX8_classes_10 rfl ?_
  exact s_iret dX8_classes_12 rfl ⟨rfl, rfl⟩ rfl
set_option maxHeartbeats 4000000 in
set_option maxRecDepth 100000 in
theorem y_classes {Z : zS} {d : Nat} {w : zW} {mb mk mf ma mc ms me mq mu mh mp : Int32} (ho : w[41]? = some (oM mb mk mf ma mc ms me mq mu mh mp)) {fo : Nat → Int32} (hfo : w[43]? = some (aI 256 fo)) (hF : FOok fo) {c : Nat} (hc : c < 9) : zF Z M_X8_classes (d + 1) [.ref 41, .int (nI c)] w [.int (pCWL (nI c) 22 0 0)] w := by
  show zG Z M_X8_classes (d + 1) _ _ 0 [(0, .ref 41), (1, .int (nI c))] [] w
  refine s_iload_n dX8_classes_0 rfl ?_
  refine s_iconst (v := 0) dX8_classes_1 rfl ?_
  refine s_bipush (v := 8) dX8_classes_2 rfl ?_
  refine s_cs1 dX8_classes_4 g_X8_5 (c_X8_isIn) rfl rfl (Nat.le_of_ble_eq_true rfl) (Nat.le_of_ble_eq_true rfl) rfl ?_
  refine s_if_ne (tgt := 13) dX8_classes_7 (by decide) (fun hz => ?_) (fun hqz => absurd hqz (miY (n := 8) (by omega) (by decide)))
  clear hz
  refine s_iconst (v := 0) dX8_classes_13 rfl ?_
  refine s_istore_n dX8_classes_14 (Nat.le_of_ble_eq_true rfl) rfl ?_
  refine s_iconst (v := 0) dX8_classes_15 rfl ?_
  refine s_istore_n dX8_classes_16 (Nat.le_of_ble_eq_true rfl) rfl ?_
  have K := l_X8_classes (Z := Z) (d := d) ho hfo hF hc 256 0 0 rfl
  rw [q_clL c hc] at K
  exact K
