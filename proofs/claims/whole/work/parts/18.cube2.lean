/-! ===== the cube: forms, classes, moves counted ===== -/
def zus (x y : Int32) : Int32 := (x.toUInt32 >>> (y.toUInt32 &&& Int32.toUInt32 31)).toInt32
def zBC1 (x : Int32) : Int32 := x - (zus x 1 &&& 1431655765)
def zBC2 (x : Int32) : Int32 := (x &&& 858993459) + (zus x 2 &&& 858993459)
def zBC3 (x : Int32) : Int32 := (x + zus x 4) &&& 252645135
def zBC4 (x : Int32) : Int32 := x + zus x 8
def zBC5 (x : Int32) : Int32 := x + zus x 16
def zBC (x : Int32) : Int32 := zBC5 (zBC4 (zBC3 (zBC2 (zBC1 x)))) &&& 63
def pPOP (b : Nat) : Nat := zb b 0 + zb b 1 + zb b 2 + zb b 3 + zb b 4 + zb b 5 + zb b 6 + zb b 7
theorem q_pop : ∀ b, b < 256 → zBC (nI b) = nI (pPOP b) := by decide +kernel
theorem pPOP_le (b : Nat) : pPOP b ≤ 8 := by
  unfold pPOP
  have h0 := zb_lt b 0
  have h1 := zb_lt b 1
  have h2 := zb_lt b 2
  have h3 := zb_lt b 3
  have h4 := zb_lt b 4
  have h5 := zb_lt b 5
  have h6 := zb_lt b 6
  have h7 := zb_lt b 7
  omega
theorem zmin {x y : Nat} (hx : x < 2 ^ 31) (hy : y < 2 ^ 31) : (if nI y < nI x then nI y else nI x) = nI (if y < x then y else x) := by
  by_cases h : y < x
  · rw [if_pos h, if_pos ((nI_ltI hy hx).mpr h)]
  · rw [if_neg h, if_neg (fun z => h ((nI_ltI hy hx).mp z))]
def pFORL (b : Nat) : Nat → Nat → Nat → Nat
  | 0, _, a => a
  | n + 1, i, a => pFORL b n (i + 1) (if pIMG i b < a then pIMG i b else a)
def pFOR (b : Nat) : Nat := pFORL b 48 0 b
theorem pFORL_le (b : Nat) : ∀ (n i a : Nat), pFORL b n i a ≤ a
  | 0, _, _ => Nat.le_refl _
  | n + 1, i, a => by
    unfold pFORL
    refine Nat.le_trans (pFORL_le b n (i + 1) _) ?_
    by_cases h : pIMG i b < a
    · rw [if_pos h]; exact Nat.le_of_lt h
    · rw [if_neg h]; exact Nat.le_refl _
theorem zite {c : Prop} [Decidable c] {x a n : Nat} (hx : x < n) (ha : a < n) : (if c then x else a) < n := by
  by_cases h : c
  · rw [if_pos h]; exact hx
  · rw [if_neg h]; exact ha
theorem pFOR_lt {b : Nat} (hb : b < 256) : pFOR b < 256 := Nat.lt_of_le_of_lt (pFORL_le b 48 0 b) hb
set_option maxHeartbeats 4000000 in
set_option maxRecDepth 100000 in
theorem c_J6_bitCount_0f7a4 {Z : zS} {d : Nat} {w : zW} {x : Int32} : zF Z M_J6_bitCount_0f7a4 (d) [.int x] w [.int (zBC x)] w := by
  show zG Z M_J6_bitCount_0f7a4 (d) _ _ 0 [(0, .int x)] [] w
  refine s_iload_n dJ6_bitCount_0f7a4_0 rfl ?_
  refine s_iload_n dJ6_bitCount_0f7a4_1 rfl ?_
  refine s_iconst (v := 1) dJ6_bitCount_0f7a4_2 rfl ?_
  refine s_iushr dJ6_bitCount_0f7a4_3 rfl ?_
  refine s_ldcw (v := (1431655765)) dJ6_bitCount_0f7a4_4 (zin 319 (by decide +kernel) (by decide +kernel)) ?_
  refine s_iand dJ6_bitCount_0f7a4_7 ?_
  refine s_isub dJ6_bitCount_0f7a4_8 ?_
  refine s_istore_n dJ6_bitCount_0f7a4_9 (Nat.le_of_ble_eq_true rfl) rfl ?_
  refine s_iload_n dJ6_bitCount_0f7a4_10 rfl ?_
  refine s_ldcw (v := (858993459)) dJ6_bitCount_0f7a4_11 (zin 320 (by decide +kernel) (by decide +kernel)) ?_
  refine s_iand dJ6_bitCount_0f7a4_14 ?_
  refine s_iload_n dJ6_bitCount_0f7a4_15 rfl ?_
  refine s_iconst (v := 2) dJ6_bitCount_0f7a4_16 rfl ?_
  refine s_iushr dJ6_bitCount_0f7a4_17 rfl ?_
  refine s_ldcw (v := (858993459)) dJ6_bitCount_0f7a4_18 (zin 320 (by decide +kernel) (by decide +kernel)) ?_
  refine s_iand dJ6_bitCount_0f7a4_21 ?_
  refine s_iadd dJ6_bitCount_0f7a4_22 ?_
  refine s_istore_n dJ6_bitCount_0f7a4_23 (Nat.le_of_ble_eq_true rfl) rfl ?_
  refine s_iload_n dJ6_bitCount_0f7a4_24 rfl ?_
  refine s_iload_n dJ6_bitCount_0f7a4_25 rfl ?_
  refine s_iconst (v := 4) dJ6_bitCount_0f7a4_26 rfl ?_
  refine s_iushr dJ6_bitCount_0f7a4_27 rfl ?_
  refine s_iadd dJ6_bitCount_0f7a4_28 ?_
  refine s_ldcw (v := (252645135)) dJ6_bitCount_0f7a4_29 (zin 321 (by decide +kernel) (by decide +kernel)) ?_
  refine s_iand dJ6_bitCount_0f7a4_32 ?_
  refine s_istore_n dJ6_bitCount_0f7a4_33 (Nat.le_of_ble_eq_true rfl) rfl ?_
  refine s_iload_n dJ6_bitCount_0f7a4_34 rfl ?_
  refine s_iload_n dJ6_bitCount_0f7a4_35 rfl ?_
  refine s_bipush (v := 8) dJ6_bitCount_0f7a4_36 rfl ?_
  refine s_iushr dJ6_bitCount_0f7a4_38 rfl ?_
  refine s_iadd dJ6_bitCount_0f7a4_39 ?_
  refine s_istore_n dJ6_bitCount_0f7a4_40 (Nat.le_of_ble_eq_true rfl) rfl ?_
  refine s_iload_n dJ6_bitCount_0f7a4_41 rfl ?_
  refine s_iload_n dJ6_bitCount_0f7a4_42 rfl ?_
  refine s_bipush (v := 16) dJ6_bitCount_0f7a4_43 rfl ?_
  refine s_iushr dJ6_bitCount_0f7a4_45 rfl ?_
  refine s_iadd dJ6_bitCount_0f7a4_46 ?_
  refine s_istore_n dJ6_bitCount_0f7a4_47 (Nat.le_of_ble_eq_true rfl) rfl ?_
  refine s_iload_n dJ6_bitCount_0f7a4_48 rfl ?_
  refine s_bipush (v := 63) dJ6_bitCount_0f7a4_49 rfl ?_
  refine s_iand dJ6_bitCount_0f7a4_51 ?_
  exact s_iret dJ6_bitCount_0f7a4_52 rfl ⟨rfl, rfl⟩ rfl
theorem c_bcN {Z : zS} {d : Nat} {w : zW} {b : Nat} (hb : b < 256) : zF Z M_J6_bitCount_0f7a4 d [.int (nI b)] w [.int (nI (pPOP b))] w := by
  rw [← q_pop b hb]
  exact c_J6_bitCount_0f7a4
set_option maxHeartbeats 4000000 in
set_option maxRecDepth 100000 in
theorem l_X1_formOf {Z : zS} {d : Nat} {w : zW} {b : Nat} (hb : b < 256) : ∀ (n : Nat) (i a : Nat), i + n = 48 → a < 256 → zG Z M_X1_formOf (d + 2) (fun r1 w1 => r1 = [.int (nI (pFORL b n i a))] ∧ w1 = w) w.length 4 [(0, .int (nI b)), (1, .int (nI a)), (2, .int (nI i))] [] w := by
  intro n
  induction n with
  | zero =>
    intro i a hi ha
    have hi : i = 48 := by omega
    subst hi
    refine s_iload_n dX1_formOf_4 rfl ?_
    refine s_bipush (v := 48) dX1_formOf_5 rfl ?_
    refine s_icmp_ge (tgt := 26) dX1_formOf_7 (by decide) (fun hz => ?_) (fun h => absurd (by decide) h)
    clear hz
    refine s_iload_n dX1_formOf_26 rfl ?_
    exact s_iret dX1_formOf_27 rfl ⟨rfl, rfl⟩ rfl
  | succ n ih =>
    intro i a hi ha
    have hm : i < 48 := by omega
    have hp := pIMG_lt hm b
    refine s_iload_n dX1_formOf_4 rfl ?_
    refine s_bipush (v := 48) dX1_formOf_5 rfl ?_
    refine s_icmp_ge (tgt := 26) dX1_formOf_7 (by decide) (fun h => absurd h (nI_ge hm (by decide))) (fun hz => ?_)
    clear hz
    refine s_iload_n dX1_formOf_10 rfl ?_
    refine s_iload_n dX1_formOf_11 rfl ?_
    refine s_iload_n dX1_formOf_12 rfl ?_
    refine s_cs1 dX1_formOf_13 g_X1_22 (c_X1_imageBy hm hb) rfl rfl (Nat.le_of_ble_eq_true rfl) (Nat.le_of_ble_eq_true rfl) rfl ?_
    refine s_min dX1_formOf_16 (zin 252 (by decide +kernel) (by decide +kernel)) (zin 253 (by decide +kernel) (by decide +kernel)) (zin 67 (by decide +kernel) (by decide +kernel)) (zin 254 (by decide +kernel) (by decide +kernel)) (Nat.le_of_ble_eq_true rfl) ?_
    refine s_istore_n dX1_formOf_19 (Nat.le_of_ble_eq_true rfl) rfl ?_
    refine s_iinc (nI (i + 1)) dX1_formOf_20 rfl (nI_1 _) (Nat.le_of_ble_eq_true rfl) rfl ?_
    refine s_goto (tgt := 4) dX1_formOf_23 (by decide) ?_
    rw [zmin (by omega) (by omega)]
    exact ih (i + 1) _ (by omega) (zite hp ha)
set_option maxHeartbeats 4000000 in
set_option maxRecDepth 100000 in
theorem c_X1_formOf {Z : zS} {d : Nat} {w : zW} {b : Nat} (hb : b < 256) : zF Z M_X1_formOf (d + 2) [.int (nI b)] w [.int (nI (pFOR b))] w := by
  show zG Z M_X1_formOf (d + 2) _ _ 0 [(0, .int (nI b))] [] w
  refine s_iload_n dX1_formOf_0 rfl ?_
  refine s_istore_n dX1_formOf_1 (Nat.le_of_ble_eq_true rfl) rfl ?_
  refine s_iconst (v := 0) dX1_formOf_2 rfl ?_
  refine s_istore_n dX1_formOf_3 (Nat.le_of_ble_eq_true rfl) rfl ?_
  exact l_X1_formOf hb 48 0 b rfl hb
def pCLSL (f : Int32) : Nat → Nat → Int32
  | 0, _ => -1
  | n + 1, i => if zFRM i = f then nI i else pCLSL f n (i + 1)
def pFORMS : List Nat := [0, 1, 3, 6, 7, 15, 22, 23, 24, 25, 27, 30, 31, 60, 61, 63, 105, 107, 111, 126, 127, 255]
def pNUM (b : Nat) : Nat := pFORMS.idxOf (pFOR b)
theorem q_cls : ∀ b, b < 256 → pCLSL (nI (pFOR b)) 22 0 = nI (pNUM b) := by decide +kernel
theorem zrd {i n : Nat} (h : i < n) (hn : n < 2 ^ 31) : vp_in (nI i) n := vp_in_nI h hn
set_option maxHeartbeats 4000000 in
set_option maxRecDepth 100000 in
theorem l_X1_classOf {Z : zS} {d : Nat} {w : zW} {b : Nat} {f : Int32} : ∀ (n : Nat) (i : Nat), i + n = 22 → zG Z M_X1_classOf (d + 3) (fun r1 w1 => r1 = [.int (pCLSL f n i)] ∧ w1 = w) w.length 7 [(0, .int (nI b)), (1, .int f), (2, .int (nI i))] [] w := by
  intro n
  induction n with
  | zero =>
    intro i hi
    have hi : i = 22 := by omega
    subst hi
    refine s_iload_n dX1_classOf_7 rfl ?_
    refine s_frm dX1_classOf_8 (Or.inl (zin 327 (by decide +kernel) (by decide +kernel))) ?_
    refine s_rlen 1 22 dX1_classOf_11 rfl (by decide) rfl ?_
    refine s_icmp_ge (tgt := 32) dX1_classOf_12 (by decide) (fun hz => ?_) (fun h => absurd (by decide) h)
    clear hz
    refine s_iconst (v := (-1)) dX1_classOf_32 rfl ?_
    exact s_iret dX1_classOf_33 rfl ⟨rfl, rfl⟩ rfl
  | succ n ih =>
    intro i hi
    have hm : i < 22 := by omega
    refine s_iload_n dX1_classOf_7 rfl ?_
    refine s_frm dX1_classOf_8 (Or.inl (zin 327 (by decide +kernel) (by decide +kernel))) ?_
    refine s_rlen 1 22 dX1_classOf_11 rfl (by decide) rfl ?_
    refine s_icmp_ge (tgt := 32) dX1_classOf_12 (by decide) (fun h => absurd h (nI_ge hm (by decide))) (fun hz => ?_)
    clear hz
    refine s_frm dX1_classOf_15 (Or.inl (zin 327 (by decide +kernel) (by decide +kernel))) ?_
    refine s_iload_n dX1_classOf_18 rfl ?_
    refine s_rald (v := zFRM _) 1 dX1_classOf_19 rfl (by decide) (zrd (n := 22) hm (by decide)) rfl ?_
    refine s_iload_n dX1_classOf_20 rfl ?_
    refine s_icmp_ne (tgt := 26) dX1_classOf_21 (by decide) (fun h_21 => ?_) (fun h_21 => ?_)
    · refine s_iinc (nI (i + 1)) dX1_classOf_26 rfl (nI_1 _) (Nat.le_of_ble_eq_true rfl) rfl ?_
      refine s_goto (tgt := 7) dX1_classOf_29 (by decide) ?_
      rw [show pCLSL f (n + 1) i = pCLSL f n (i + 1) from by rw [pCLSL, if_neg (fun z => h_21 (by rw [nI_clamp (by omega)]; exact z))]]
      exact ih (i + 1) (by omega)
    · refine s_iload_n dX1_classOf_24 rfl ?_
      exact s_iret dX1_classOf_25 rfl ⟨by rw [pCLSL, if_pos (by rw [nI_clamp (by omega)] at h_21; exact h_21)], rfl⟩ rfl
set_option maxHeartbeats 4000000 in
set_option maxRecDepth 100000 in
theorem c_X1_classOf {Z : zS} {d : Nat} {w : zW} {b : Nat} (hb : b < 256) : zF Z M_X1_classOf (d + 3) [.int (nI b)] w [.int (nI (pNUM b))] w := by
  show zG Z M_X1_classOf (d + 3) _ _ 0 [(0, .int (nI b))] [] w
  rw [← q_cls b hb]
  refine s_iload_n dX1_classOf_0 rfl ?_
  refine s_cs1 dX1_classOf_1 g_X1_30 (c_X1_formOf hb) rfl rfl (Nat.le_of_ble_eq_true rfl) (Nat.le_of_ble_eq_true rfl) rfl ?_
  refine s_istore_n dX1_classOf_4 (Nat.le_of_ble_eq_true rfl) rfl ?_
  refine s_iconst (v := 0) dX1_classOf_5 rfl ?_
  refine s_istore_n dX1_classOf_6 (Nat.le_of_ble_eq_true rfl) rfl ?_
  exact l_X1_classOf 22 0 rfl
def pCWL (k : Int32) : Nat → Nat → Int32 → Int32
  | 0, _, a => a
  | n + 1, i, a => pCWL k n (i + 1) (if zBC (zFRM i) = k then a + 1 else a)
set_option maxHeartbeats 4000000 in
set_option maxRecDepth 100000 in
theorem l_X1_classesWith {Z : zS} {d : Nat} {w : zW} {k : Int32} : ∀ (n : Nat) (i : Nat) (a : Int32), i + n = 22 → zG Z M_X1_classesWith (d + 1) (fun r1 w1 => r1 = [.int (pCWL k n i a)] ∧ w1 = w) w.length 4 [(0, .int k), (1, .int a), (2, .int (nI i))] [] w := by
  intro n
  induction n with
  | zero =>
    intro i a hi
    have hi : i = 22 := by omega
    subst hi
    refine s_iload_n dX1_classesWith_4 rfl ?_
    refine s_frm dX1_classesWith_5 (Or.inl (zin 327 (by decide +kernel) (by decide +kernel))) ?_
    refine s_rlen 1 22 dX1_classesWith_8 rfl (by decide) rfl ?_
    refine s_icmp_ge (tgt := 33) dX1_classesWith_9 (by decide) (fun hz => ?_) (fun h => absurd (by decide) h)
    clear hz
    refine s_iload_n dX1_classesWith_33 rfl ?_
    exact s_iret dX1_classesWith_34 rfl ⟨rfl, rfl⟩ rfl
  | succ n ih =>
    intro i a hi
    have hm : i < 22 := by omega
    refine s_iload_n dX1_classesWith_4 rfl ?_
    refine s_frm dX1_classesWith_5 (Or.inl (zin 327 (by decide +kernel) (by decide +kernel))) ?_
    refine s_rlen 1 22 dX1_classesWith_8 rfl (by decide) rfl ?_
    refine s_icmp_ge (tgt := 33) dX1_classesWith_9 (by decide) (fun h => absurd h (nI_ge hm (by decide))) (fun hz => ?_)
    clear hz
    refine s_frm dX1_classesWith_12 (Or.inl (zin 327 (by decide +kernel) (by decide +kernel))) ?_
    refine s_iload_n dX1_classesWith_15 rfl ?_
    refine s_rald (v := zFRM _) 1 dX1_classesWith_16 rfl (by decide) (zrd (n := 22) hm (by decide)) rfl ?_
    refine s_cs1 dX1_classesWith_17 g_X1_37 (c_J6_bitCount_0f7a4) rfl rfl (Nat.le_of_ble_eq_true rfl) (Nat.le_of_ble_eq_true rfl) rfl ?_
    refine s_iload_n dX1_classesWith_20 rfl ?_
    refine s_icmp_ne (tgt := 27) dX1_classesWith_21 (by decide) (fun h_21 => ?_) (fun h_21 => ?_)
    · refine s_iinc (nI (i + 1)) dX1_classesWith_27 rfl (nI_1 _) (Nat.le_of_ble_eq_true rfl) rfl ?_
      refine s_goto (tgt := 4) dX1_classesWith_30 (by decide) ?_
      first
        | (rw [nI_clamp (by omega)] at h_21
           rw [show pCWL k (n + 1) i a = pCWL k n (i + 1) (a + 1) from by rw [pCWL, if_pos h_21]]
           exact ih (i + 1) _ (by omega))
        | (rw [nI_clamp (by omega)] at h_21
           rw [show pCWL k (n + 1) i a = pCWL k n (i + 1) a from by rw [pCWL, if_neg h_21]]
           exact ih (i + 1) _ (by omega))
    · refine s_iinc (_ + 1) dX1_classesWith_24 rfl rfl (Nat.le_of_ble_eq_true rfl) rfl ?_
      refine s_iinc (nI (i + 1)) dX1_classesWith_27 rfl (nI_1 _) (Nat.le_of_ble_eq_true rfl) rfl ?_
      refine s_goto (tgt := 4) dX1_classesWith_30 (by decide) ?_
      first
        | (rw [nI_clamp (by omega)] at h_21
           rw [show pCWL k (n + 1) i a = pCWL k n (i + 1) (a + 1) from by rw [pCWL, if_pos h_21]]
           exact ih (i + 1) _ (by omega))
        | (rw [nI_clamp (by omega)] at h_21
           rw [show pCWL k (n + 1) i a = pCWL k n (i + 1) a from by rw [pCWL, if_neg h_21]]
           exact ih (i + 1) _ (by omega))
set_option maxHeartbeats 4000000 in
set_option maxRecDepth 100000 in
theorem c_X1_classesWith {Z : zS} {d : Nat} {w : zW} {k : Int32} : zF Z M_X1_classesWith (d + 1) [.int k] w [.int (pCWL k 22 0 0)] w := by
  show zG Z M_X1_classesWith (d + 1) _ _ 0 [(0, .int k)] [] w
  refine s_iconst (v := 0) dX1_classesWith_0 rfl ?_
  refine s_istore_n dX1_classesWith_1 (Nat.le_of_ble_eq_true rfl) rfl ?_
  refine s_iconst (v := 0) dX1_classesWith_2 rfl ?_
  refine s_istore_n dX1_classesWith_3 (Nat.le_of_ble_eq_true rfl) rfl ?_
  exact l_X1_classesWith 22 0 0 rfl
def pSTL (b : Nat) : Nat → Nat → Nat → Nat
  | 0, _, a => a
  | n + 1, i, a => pSTL b n (i + 1) (if pIMG i b = b then a + 1 else a)
def pSTI (b : Nat) : Nat := pSTL b 48 0 0
set_option maxHeartbeats 4000000 in
set_option maxRecDepth 100000 in
theorem l_X1_stillMoves {Z : zS} {d : Nat} {w : zW} {b : Nat} (hb : b < 256) : ∀ (n : Nat) (i a : Nat), i + n = 48 → zG Z M_X1_stillMoves (d + 2) (fun r1 w1 => r1 = [.int (nI (pSTL b n i a))] ∧ w1 = w) w.length 4 [(0, .int (nI b)), (1, .int (nI a)), (2, .int (nI i))] [] w := by
  intro n
  induction n with
  | zero =>
    intro i a hi
    have hi : i = 48 := by omega
    subst hi
    refine s_iload_n dX1_stillMoves_4 rfl ?_
    refine s_bipush (v := 48) dX1_stillMoves_5 rfl ?_
    refine s_icmp_ge (tgt := 28) dX1_stillMoves_7 (by decide) (fun hz => ?_) (fun h => absurd (by decide) h)
    clear hz
    refine s_iload_n dX1_stillMoves_28 rfl ?_
    exact s_iret dX1_stillMoves_29 rfl ⟨rfl, rfl⟩ rfl
  | succ n ih =>
    intro i a hi
    have hm : i < 48 := by omega
    have hp := pIMG_lt hm b
    have hq := nI_eq (a := pIMG i b) (b := b) (by omega) (by omega)
    refine s_iload_n dX1_stillMoves_4 rfl ?_
    refine s_bipush (v := 48) dX1_stillMoves_5 rfl ?_
    refine s_icmp_ge (tgt := 28) dX1_stillMoves_7 (by decide) (fun h => absurd h (nI_ge hm (by decide))) (fun hz => ?_)
    clear hz
    refine s_iload_n dX1_stillMoves_10 rfl ?_
    refine s_iload_n dX1_stillMoves_11 rfl ?_
    refine s_cs1 dX1_stillMoves_12 g_X1_22 (c_X1_imageBy hm hb) rfl rfl (Nat.le_of_ble_eq_true rfl) (Nat.le_of_ble_eq_true rfl) rfl ?_
    refine s_iload_n dX1_stillMoves_15 rfl ?_
    refine s_icmp_ne (tgt := 22) dX1_stillMoves_16 (by decide) (fun h_16 => ?_) (fun h_16 => ?_)
    · refine s_iinc (nI (i + 1)) dX1_stillMoves_22 rfl (nI_1 _) (Nat.le_of_ble_eq_true rfl) rfl ?_
      refine s_goto (tgt := 4) dX1_stillMoves_25 (by decide) ?_
      first
        | (rw [show pSTL b (n + 1) i a = pSTL b n (i + 1) (a + 1) from by rw [pSTL, if_pos (hq.mp h_16)]]
           exact ih (i + 1) (a + 1) (by omega))
        | (rw [show pSTL b (n + 1) i a = pSTL b n (i + 1) a from by rw [pSTL, if_neg (fun z => h_16 (hq.mpr z))]]
           exact ih (i + 1) a (by omega))
    · refine s_iinc (nI (a + 1)) dX1_stillMoves_19 rfl (nI_1 _) (Nat.le_of_ble_eq_true rfl) rfl ?_
      refine s_iinc (nI (i + 1)) dX1_stillMoves_22 rfl (nI_1 _) (Nat.le_of_ble_eq_true rfl) rfl ?_
      refine s_goto (tgt := 4) dX1_stillMoves_25 (by decide) ?_
      first
        | (rw [show pSTL b (n + 1) i a = pSTL b n (i + 1) (a + 1) from by rw [pSTL, if_pos (hq.mp h_16)]]
           exact ih (i + 1) (a + 1) (by omega))
        | (rw [show pSTL b (n + 1) i a = pSTL b n (i + 1) a from by rw [pSTL, if_neg (fun z => h_16 (hq.mpr z))]]
           exact ih (i + 1) a (by omega))
set_option maxHeartbeats 4000000 in
set_option maxRecDepth 100000 in
theorem c_X1_stillMoves {Z : zS} {d : Nat} {w : zW} {b : Nat} (hb : b < 256) : zF Z M_X1_stillMoves (d + 2) [.int (nI b)] w [.int (nI (pSTI b))] w := by
  show zG Z M_X1_stillMoves (d + 2) _ _ 0 [(0, .int (nI b))] [] w
  refine s_iconst (v := 0) dX1_stillMoves_0 rfl ?_
  refine s_istore_n dX1_stillMoves_1 (Nat.le_of_ble_eq_true rfl) rfl ?_
  refine s_iconst (v := 0) dX1_stillMoves_2 rfl ?_
  refine s_istore_n dX1_stillMoves_3 (Nat.le_of_ble_eq_true rfl) rfl ?_
  exact l_X1_stillMoves hb 48 0 0 rfl
theorem q_uli : ∀ b, b < 256 → pSTI b ≠ 0 ∧ ¬ nI (pSTI b) = 0 ∧ 48 / nI (pSTI b) = nI (48 / pSTI b) := by decide +kernel
set_option maxHeartbeats 4000000 in
set_option maxRecDepth 100000 in
theorem c_X1_unlikeImages {Z : zS} {d : Nat} {w : zW} {b : Nat} (hb : b < 256) : zF Z M_X1_unlikeImages (d + 3) [.int (nI b)] w [.int (nI (48 / pSTI b))] w := by
  show zG Z M_X1_unlikeImages (d + 3) _ _ 0 [(0, .int (nI b))] [] w
  refine s_iload_n dX1_unlikeImages_0 rfl ?_
  refine s_cs1 dX1_unlikeImages_1 g_X1_42 (c_X1_stillMoves hb) rfl rfl (Nat.le_of_ble_eq_true rfl) (Nat.le_of_ble_eq_true rfl) rfl ?_
  refine s_istore_n dX1_unlikeImages_4 (Nat.le_of_ble_eq_true rfl) rfl ?_
  refine s_iload_n dX1_unlikeImages_5 rfl ?_
  refine s_if_ne (tgt := 14) dX1_unlikeImages_6 (by decide) (fun hz => ?_) (fun h => absurd h (q_uli b hb).2.1)
  clear hz
  refine s_bipush (v := 48) dX1_unlikeImages_14 rfl ?_
  refine s_iload_n dX1_unlikeImages_16 rfl ?_
  refine s_idiv dX1_unlikeImages_17 (q_uli b hb).2.1 ?_
  exact s_iret dX1_unlikeImages_18 rfl ⟨by rw [(q_uli b hb).2.2], rfl⟩ rfl
def pDSL (b k : Nat) : Nat → Nat → Nat → Nat
  | 0, _, a => a
  | n + 1, i, a => pDSL b k n (i + 1) (if pPOP (pIMG i b ^^^ k) < a then pPOP (pIMG i b ^^^ k) else a)
theorem zxor8 {a b : Nat} (ha : a < 256) (hb : b < 256) : a ^^^ b < 256 := Nat.xor_lt_two_pow (n := 8) ha hb
theorem zand8 {a b : Nat} (ha : a < 256) : a &&& b < 256 := Nat.lt_of_le_of_lt Nat.and_le_left ha
set_option maxHeartbeats 4000000 in
set_option maxRecDepth 100000 in
theorem l_X1_distance {Z : zS} {d : Nat} {w : zW} {b k : Nat} (hb : b < 256) (hk : k < 256) : ∀ (n : Nat) (i a : Nat), i + n = 48 → a < 256 → zG Z M_X1_distance (d + 2) (fun r1 w1 => r1 = [.int (nI (pDSL b k n i a))] ∧ w1 = w) w.length 5 [(0, .int (nI b)), (1, .int (nI k)), (2, .int (nI a)), (3, .int (nI i))] [] w := by
  intro n
  induction n with
  | zero =>
    intro i a hi ha
    have hi : i = 48 := by omega
    subst hi
    refine s_iload_n dX1_distance_5 rfl ?_
    refine s_bipush (v := 48) dX1_distance_6 rfl ?_
    refine s_icmp_ge (tgt := 32) dX1_distance_8 (by decide) (fun hz => ?_) (fun h => absurd (by decide) h)
    clear hz
    refine s_iload_n dX1_distance_32 rfl ?_
    exact s_iret dX1_distance_33 rfl ⟨rfl, rfl⟩ rfl
  | succ n ih =>
    intro i a hi ha
    have hm : i < 48 := by omega
    have hp := pIMG_lt hm b
    have hq := pPOP_le (pIMG i b ^^^ k)
    refine s_iload_n dX1_distance_5 rfl ?_
    refine s_bipush (v := 48) dX1_distance_6 rfl ?_
    refine s_icmp_ge (tgt := 32) dX1_distance_8 (by decide) (fun h => absurd h (nI_ge hm (by decide))) (fun hz => ?_)
    clear hz
    refine s_iload_n dX1_distance_11 rfl ?_
    refine s_iload_n dX1_distance_12 rfl ?_
    refine s_iload_n dX1_distance_13 rfl ?_
    refine s_cs1 dX1_distance_14 g_X1_22 (c_X1_imageBy hm hb) rfl rfl (Nat.le_of_ble_eq_true rfl) (Nat.le_of_ble_eq_true rfl) rfl ?_
    refine s_iload_n dX1_distance_17 rfl ?_
    refine s_ixor dX1_distance_18 ?_
    rw [fb_xorI]
    refine s_cs1 dX1_distance_19 g_X1_37 (c_bcN (zxor8 hp hk)) rfl rfl (Nat.le_of_ble_eq_true rfl) (Nat.le_of_ble_eq_true rfl) rfl ?_
    refine s_min dX1_distance_22 (zin 252 (by decide +kernel) (by decide +kernel)) (zin 253 (by decide +kernel) (by decide +kernel)) (zin 67 (by decide +kernel) (by decide +kernel)) (zin 254 (by decide +kernel) (by decide +kernel)) (Nat.le_of_ble_eq_true rfl) ?_
    refine s_istore_n dX1_distance_25 (Nat.le_of_ble_eq_true rfl) rfl ?_
    refine s_iinc (nI (i + 1)) dX1_distance_26 rfl (nI_1 _) (Nat.le_of_ble_eq_true rfl) rfl ?_
    refine s_goto (tgt := 5) dX1_distance_29 (by decide) ?_
    rw [zmin (by omega) (by omega)]
    exact ih (i + 1) _ (by omega) (zite (by omega) ha)
set_option maxHeartbeats 4000000 in
set_option maxRecDepth 100000 in
theorem c_X1_distance {Z : zS} {d : Nat} {w : zW} {b k : Nat} (hb : b < 256) (hk : k < 256) : zF Z M_X1_distance (d + 2) [.int (nI b), .int (nI k)] w [.int (nI (pDSL b k 48 0 8))] w := by
  show zG Z M_X1_distance (d + 2) _ _ 0 [(0, .int (nI b)), (1, .int (nI k))] [] w
  refine s_bipush (v := 8) dX1_distance_0 rfl ?_
  refine s_istore_n dX1_distance_2 (Nat.le_of_ble_eq_true rfl) rfl ?_
  refine s_iconst (v := 0) dX1_distance_3 rfl ?_
  refine s_istore_n dX1_distance_4 (Nat.le_of_ble_eq_true rfl) rfl ?_
  exact l_X1_distance hb hk 48 0 8 rfl (by decide)
def pCML (b k : Nat) : Nat → Nat → Nat → Nat
  | 0, _, a => a
  | n + 1, i, a => pCML b k n (i + 1) (a + pPOP (pIMG i b &&& k))
set_option maxHeartbeats 4000000 in
set_option maxRecDepth 100000 in
theorem l_X1_commonOverMoves {Z : zS} {d : Nat} {w : zW} {b k : Nat} (hb : b < 256) : ∀ (n : Nat) (i a : Nat), i + n = 48 → zG Z M_X1_commonOverMoves (d + 2) (fun r1 w1 => r1 = [.int (nI (pCML b k n i a))] ∧ w1 = w) w.length 4 [(0, .int (nI b)), (1, .int (nI k)), (2, .int (nI a)), (3, .int (nI i))] [] w := by
  intro n
  induction n with
  | zero =>
    intro i a hi
    have hi : i = 48 := by omega
    subst hi
    refine s_iload_n dX1_commonOverMoves_4 rfl ?_
    refine s_bipush (v := 48) dX1_commonOverMoves_5 rfl ?_
    refine s_icmp_ge (tgt := 29) dX1_commonOverMoves_7 (by decide) (fun hz => ?_) (fun h => absurd (by decide) h)
    clear hz
    refine s_iload_n dX1_commonOverMoves_29 rfl ?_
    exact s_iret dX1_commonOverMoves_30 rfl ⟨rfl, rfl⟩ rfl
  | succ n ih =>
    intro i a hi
    have hm : i < 48 := by omega
    have hp := pIMG_lt hm b
    refine s_iload_n dX1_commonOverMoves_4 rfl ?_
    refine s_bipush (v := 48) dX1_commonOverMoves_5 rfl ?_
    refine s_icmp_ge (tgt := 29) dX1_commonOverMoves_7 (by decide) (fun h => absurd h (nI_ge hm (by decide))) (fun hz => ?_)
    clear hz
    refine s_iload_n dX1_commonOverMoves_10 rfl ?_
    refine s_iload_n dX1_commonOverMoves_11 rfl ?_
    refine s_iload_n dX1_commonOverMoves_12 rfl ?_
    refine s_cs1 dX1_commonOverMoves_13 g_X1_22 (c_X1_imageBy hm hb) rfl rfl (Nat.le_of_ble_eq_true rfl) (Nat.le_of_ble_eq_true rfl) rfl ?_
    refine s_iload_n dX1_commonOverMoves_16 rfl ?_
    refine s_iand dX1_commonOverMoves_17 ?_
    rw [fa_and]
    refine s_cs1 dX1_commonOverMoves_18 g_X1_37 (c_bcN (zand8 hp)) rfl rfl (Nat.le_of_ble_eq_true rfl) (Nat.le_of_ble_eq_true rfl) rfl ?_
    refine s_iadd dX1_commonOverMoves_21 ?_
    refine s_istore_n dX1_commonOverMoves_22 (Nat.le_of_ble_eq_true rfl) rfl ?_
    refine s_iinc (nI (i + 1)) dX1_commonOverMoves_23 rfl (nI_1 _) (Nat.le_of_ble_eq_true rfl) rfl ?_
    refine s_goto (tgt := 4) dX1_commonOverMoves_26 (by decide) ?_
    rw [nI_add]
    exact ih (i + 1) _ (by omega)
set_option maxHeartbeats 4000000 in
set_option maxRecDepth 100000 in
theorem c_X1_commonOverMoves {Z : zS} {d : Nat} {w : zW} {b k : Nat} (hb : b < 256) : zF Z M_X1_commonOverMoves (d + 2) [.int (nI b), .int (nI k)] w [.int (nI (pCML b k 48 0 0))] w := by
  show zG Z M_X1_commonOverMoves (d + 2) _ _ 0 [(0, .int (nI b)), (1, .int (nI k))] [] w
  refine s_iconst (v := 0) dX1_commonOverMoves_0 rfl ?_
  refine s_istore_n dX1_commonOverMoves_1 (Nat.le_of_ble_eq_true rfl) rfl ?_
  refine s_iconst (v := 0) dX1_commonOverMoves_2 rfl ?_
  refine s_istore_n dX1_commonOverMoves_3 (Nat.le_of_ble_eq_true rfl) rfl ?_
  exact l_X1_commonOverMoves hb 48 0 0 rfl
