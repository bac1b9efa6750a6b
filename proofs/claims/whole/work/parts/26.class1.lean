/-! ===== the class: bodies, what is told ===== -/
theorem zrN {c N : Int32} (h : c < 0 ∨ N ≤ c) : (if c < 0 then (0 : Int32) else if N ≤ c then 0 else 1) = 0 := by
  rcases h with h | h
  · rw [if_pos h]
  · by_cases h2 : c < 0
    · rw [if_pos h2]
    · rw [if_neg h2, if_pos h]
theorem zrY {j n : Nat} (hj : j < n) (hn : n < 2 ^ 31) : ¬ (if nI j < 0 then (0 : Int32) else if nI n ≤ nI j then 0 else 1) = 0 := by
  rw [if_neg (nI_pos (by omega)), if_neg (nI_ge hj hn)]
  decide
theorem ztN {c : Int32} (h : ¬ c = 0 ∧ ¬ c = 1) : (if c = 0 then (1 : Int32) else if c = 1 then 1 else 0) = 0 := by
  rw [if_neg h.1, if_neg h.2]
theorem ztY {t : Nat} (h : t < 2) : ¬ (if nI t = 0 then (1 : Int32) else if nI t = 1 then 1 else 0) = 0 := by
  rcases (show t = 0 ∨ t = 1 by omega) with rfl | rfl <;> decide
theorem q_clr : ∀ b, b < 256 → ∀ j, j < 8 → nI b &&& ((1 : Int32) <<< (nI j &&& 31) ^^^ (-1)) = nI (b &&& (255 ^^^ 2 ^ j)) := by decide +kernel
def pSET (b j t : Nat) : Nat := if t = 1 then b ||| 2 ^ j else b &&& (255 ^^^ 2 ^ j)
theorem pSET_lt {b j t : Nat} (hb : b < 256) (hj : j < 8) : pSET b j t < 256 := by
  unfold pSET
  exact zite (zor8 hb (zp8 j hj)) (zand8 hb)
theorem pSET1 (b j : Nat) : pSET b j 1 = b ||| 2 ^ j := if_pos rfl
theorem pSET0 (b j : Nat) : pSET b j 0 = b &&& (255 ^^^ 2 ^ j) := if_neg (by decide)
set_option maxHeartbeats 4000000 in
set_option maxRecDepth 100000 in
theorem x_corner1 {Z : zS} {d : Nat} {b k : Nat} {rs re rb : zRw} {th : zHd} {hi : Int32} {tx : zTx} {sh : zSh} {tp : zTs} {R : zW} {c i : Int32} (hc : c < 0 ∨ 8 ≤ c) : zF Z M_X7_corner (d + 1) [.ref 0, .int c, .int i] (wX (nI b, nI k, rs, re, rb) th hi tx sh tp ++ R) [.int (-1)] (wX (nI b, nI k, rs, re, rb) th hi tx sh tp ++ R) := by
  unfold zF
  rw [wXlen]
  show zG Z M_X7_corner (d + 1) _ (R.length + 41) 0 [(0, .ref 0), (1, .int c), (2, .int i)] [] (wX (nI b, nI k, rs, re, rb) th hi tx sh tp ++ R)
  refine s_iload_n dX7_corner_0 rfl ?_
  refine s_cs1 dX7_corner_1 g_X7_46 (c_X7_isCorner) rfl rfl (Nat.le_of_ble_eq_true rfl) (Nat.le_of_ble_eq_true rfl) rfl ?_
  refine s_if_ne (tgt := 9) dX7_corner_4 (by decide) (fun hqz => absurd (zrN hc) hqz) (fun hz => ?_)
  clear hz
  refine s_iconst (v := (-1)) dX7_corner_7 rfl ?_
  exact s_iret dX7_corner_8 rfl ⟨rfl, rfl⟩ (by first | exact wXlen | rfl)
set_option maxHeartbeats 4000000 in
set_option maxRecDepth 100000 in
theorem x_corner2 {Z : zS} {d : Nat} {b k : Nat} {rs re rb : zRw} {th : zHd} {hi : Int32} {tx : zTx} {sh : zSh} {tp : zTs} {R : zW} {j : Nat} {i : Int32} (hj : j < 8) (hi2 : ¬ i = 0 ∧ ¬ i = 1) : zF Z M_X7_corner (d + 1) [.ref 0, .int (nI j), .int i] (wX (nI b, nI k, rs, re, rb) th hi tx sh tp ++ R) [.int (-2)] (wX (nI b, nI k, rs, re, rb) th hi tx sh tp ++ R) := by
  unfold zF
  rw [wXlen]
  show zG Z M_X7_corner (d + 1) _ (R.length + 41) 0 [(0, .ref 0), (1, .int (nI j)), (2, .int i)] [] (wX (nI b, nI k, rs, re, rb) th hi tx sh tp ++ R)
  refine s_iload_n dX7_corner_0 rfl ?_
  refine s_cs1 dX7_corner_1 g_X7_46 (c_X7_isCorner) rfl rfl (Nat.le_of_ble_eq_true rfl) (Nat.le_of_ble_eq_true rfl) rfl ?_
  refine s_if_ne (tgt := 9) dX7_corner_4 (by decide) (fun hz => ?_) (fun hqz => absurd hqz (zrY (n := 8) hj (by decide)))
  clear hz
  refine s_iload_n dX7_corner_9 rfl ?_
  refine s_cs1 dX7_corner_10 g_X7_50 (c_X7_isBit) rfl rfl (Nat.le_of_ble_eq_true rfl) (Nat.le_of_ble_eq_true rfl) rfl ?_
  refine s_if_ne (tgt := 19) dX7_corner_13 (by decide) (fun hqz => absurd (ztN hi2) hqz) (fun hz => ?_)
  clear hz
  refine s_bipush (v := (-2)) dX7_corner_16 rfl ?_
  exact s_iret dX7_corner_18 rfl ⟨rfl, rfl⟩ (by first | exact wXlen | rfl)
set_option maxHeartbeats 4000000 in
set_option maxRecDepth 100000 in
theorem x_corner_0 {Z : zS} {d : Nat} {b k : Nat} {rs re rb : zRw} {th : zHd} {hi : Int32} {tx : zTx} {sh : zSh} {tp : zTs} {R : zW} {j : Nat} (hb : b < 256) (hj : j < 8) : zF Z M_X7_corner (d + 1) [.ref 0, .int (nI j), .int (nI 0)] (wX (nI b, nI k, rs, re, rb) th hi tx sh tp ++ R) [.int (nI (zb b j))] (wX (nI (pSET b j 0), nI k, rs, re, rb) th hi tx sh tp ++ R) := by
  unfold zF
  rw [wXlen]
  show zG Z M_X7_corner (d + 1) _ (R.length + 41) 0 [(0, .ref 0), (1, .int (nI j)), (2, .int (nI 0))] [] (wX (nI b, nI k, rs, re, rb) th hi tx sh tp ++ R)
  refine s_iload_n dX7_corner_0 rfl ?_
  refine s_cs1 dX7_corner_1 g_X7_46 (c_X7_isCorner) rfl rfl (Nat.le_of_ble_eq_true rfl) (Nat.le_of_ble_eq_true rfl) rfl ?_
  refine s_if_ne (tgt := 9) dX7_corner_4 (by decide) (fun hz => ?_) (fun hqz => absurd hqz (zrY (n := 8) hj (by decide)))
  clear hz
  refine s_iload_n dX7_corner_9 rfl ?_
  refine s_cs1 dX7_corner_10 g_X7_50 (c_X7_isBit) rfl rfl (Nat.le_of_ble_eq_true rfl) (Nat.le_of_ble_eq_true rfl) rfl ?_
  refine s_if_ne (tgt := 19) dX7_corner_13 (by decide) (fun hz => ?_) (fun hqz => absurd hqz (ztY (t := 0) (by decide)))
  clear hz
  refine s_aload_n dX7_corner_19 rfl ?_
  refine s_get dX7_corner_20 f_X7_14 (by rfl) (by rfl) ?_
  refine s_get dX7_corner_23 f_X7_53 (by rfl) (by rfl) ?_
  refine s_iload_n dX7_corner_26 rfl ?_
  refine s_cs1 dX7_corner_27 g_X7_57 (c_X7_bitOfN (by omega) (by omega)) rfl rfl (Nat.le_of_ble_eq_true rfl) (Nat.le_of_ble_eq_true rfl) rfl ?_
  refine s_istore_n dX7_corner_30 (Nat.le_of_ble_eq_true rfl) rfl ?_
  refine s_aload_n dX7_corner_31 rfl ?_
  refine s_get dX7_corner_32 f_X7_14 (by rfl) (by rfl) ?_
  refine s_iload_n dX7_corner_35 rfl ?_
  refine s_iconst (v := 1) dX7_corner_36 rfl ?_
  refine s_icmp_ne (tgt := 54) dX7_corner_37 (by decide) (fun hz => ?_) (fun hqz => absurd hqz (by decide))
  clear hz
  refine s_aload_n dX7_corner_54 rfl ?_
  refine s_get dX7_corner_55 f_X7_14 (by rfl) (by rfl) ?_
  refine s_get dX7_corner_58 f_X7_53 (by rfl) (by rfl) ?_
  refine s_iconst (v := 1) dX7_corner_61 rfl ?_
  refine s_iload_n dX7_corner_62 rfl ?_
  refine s_ishl dX7_corner_63 ?_
  refine s_iconst (v := (-1)) dX7_corner_64 rfl ?_
  refine s_ixor dX7_corner_65 ?_
  refine s_iand dX7_corner_66 ?_
  refine s_put dX7_corner_67 f_X7_53 (by rfl) (fun _ => ⟨rfl, rfl⟩) (Nat.le_of_ble_eq_true rfl) ?_
  refine s_iload_n dX7_corner_70 rfl ?_
  exact s_iret dX7_corner_71 rfl ⟨rfl, by rw [q_clr b hb j hj, pSET0]; rfl⟩ (by first | exact wXlen | rfl)
set_option maxHeartbeats 4000000 in
set_option maxRecDepth 100000 in
theorem x_corner_1 {Z : zS} {d : Nat} {b k : Nat} {rs re rb : zRw} {th : zHd} {hi : Int32} {tx : zTx} {sh : zSh} {tp : zTs} {R : zW} {j : Nat} (hb : b < 256) (hj : j < 8) : zF Z M_X7_corner (d + 1) [.ref 0, .int (nI j), .int (nI 1)] (wX (nI b, nI k, rs, re, rb) th hi tx sh tp ++ R) [.int (nI (zb b j))] (wX (nI (pSET b j 1), nI k, rs, re, rb) th hi tx sh tp ++ R) := by
  unfold zF
  rw [wXlen]
  show zG Z M_X7_corner (d + 1) _ (R.length + 41) 0 [(0, .ref 0), (1, .int (nI j)), (2, .int (nI 1))] [] (wX (nI b, nI k, rs, re, rb) th hi tx sh tp ++ R)
  refine s_iload_n dX7_corner_0 rfl ?_
  refine s_cs1 dX7_corner_1 g_X7_46 (c_X7_isCorner) rfl rfl (Nat.le_of_ble_eq_true rfl) (Nat.le_of_ble_eq_true rfl) rfl ?_
  refine s_if_ne (tgt := 9) dX7_corner_4 (by decide) (fun hz => ?_) (fun hqz => absurd hqz (zrY (n := 8) hj (by decide)))
  clear hz
  refine s_iload_n dX7_corner_9 rfl ?_
  refine s_cs1 dX7_corner_10 g_X7_50 (c_X7_isBit) rfl rfl (Nat.le_of_ble_eq_true rfl) (Nat.le_of_ble_eq_true rfl) rfl ?_
  refine s_if_ne (tgt := 19) dX7_corner_13 (by decide) (fun hz => ?_) (fun hqz => absurd hqz (ztY (t := 1) (by decide)))
  clear hz
  refine s_aload_n dX7_corner_19 rfl ?_
  refine s_get dX7_corner_20 f_X7_14 (by rfl) (by rfl) ?_
  refine s_get dX7_corner_23 f_X7_53 (by rfl) (by rfl) ?_
  refine s_iload_n dX7_corner_26 rfl ?_
  refine s_cs1 dX7_corner_27 g_X7_57 (c_X7_bitOfN (by omega) (by omega)) rfl rfl (Nat.le_of_ble_eq_true rfl) (Nat.le_of_ble_eq_true rfl) rfl ?_
  refine s_istore_n dX7_corner_30 (Nat.le_of_ble_eq_true rfl) rfl ?_
  refine s_aload_n dX7_corner_31 rfl ?_
  refine s_get dX7_corner_32 f_X7_14 (by rfl) (by rfl) ?_
  refine s_iload_n dX7_corner_35 rfl ?_
  refine s_iconst (v := 1) dX7_corner_36 rfl ?_
  refine s_icmp_ne (tgt := 54) dX7_corner_37 (by decide) (fun hqz => absurd rfl hqz) (fun hz => ?_)
  clear hz
  refine s_aload_n dX7_corner_40 rfl ?_
  refine s_get dX7_corner_41 f_X7_14 (by rfl) (by rfl) ?_
  refine s_get dX7_corner_44 f_X7_53 (by rfl) (by rfl) ?_
  refine s_iconst (v := 1) dX7_corner_47 rfl ?_
  refine s_iload_n dX7_corner_48 rfl ?_
  refine s_ishl dX7_corner_49 ?_
  refine s_ior dX7_corner_50 ?_
  refine s_goto (tgt := 67) dX7_corner_51 (by decide) ?_
  refine s_put dX7_corner_67 f_X7_53 (by rfl) (fun _ => ⟨rfl, rfl⟩) (Nat.le_of_ble_eq_true rfl) ?_
  refine s_iload_n dX7_corner_70 rfl ?_
  exact s_iret dX7_corner_71 rfl ⟨rfl, by rw [zsh8 j (by omega), fa_or, pSET1]; rfl⟩ (by first | exact wXlen | rfl)
set_option maxHeartbeats 4000000 in
set_option maxRecDepth 100000 in
theorem x_code1 {Z : zS} {d : Nat} {b k : Nat} {rs re rb : zRw} {th : zHd} {hi : Int32} {tx : zTx} {sh : zSh} {tp : zTs} {R : zW} {c : Int32} (hc : c < 0 ∨ 256 ≤ c) : zF Z M_X7_code d [.ref 0, .int c] (wX (nI b, nI k, rs, re, rb) th hi tx sh tp ++ R) [.int (-2)] (wX (nI b, nI k, rs, re, rb) th hi tx sh tp ++ R) := by
  unfold zF
  rw [wXlen]
  show zG Z M_X7_code (d) _ (R.length + 41) 0 [(0, .ref 0), (1, .int c)] [] (wX (nI b, nI k, rs, re, rb) th hi tx sh tp ++ R)
  refine s_iload_n dX7_code_0 rfl ?_
  refine s_if_lt (tgt := 11) dX7_code_1 (by decide) (fun h_1 => ?_) (fun h_1 => ?_)
  · refine s_bipush (v := (-2)) dX7_code_11 rfl ?_
    exact s_iret dX7_code_13 rfl ⟨rfl, rfl⟩ (by first | exact wXlen | rfl)
  · refine s_iload_n dX7_code_4 rfl ?_
    refine s_sipush (v := 256) dX7_code_5 rfl ?_
    refine s_icmp_lt (tgt := 14) dX7_code_8 (by decide) (fun h_8 => ?_) (fun h_8 => ?_)
    · exact absurd (hc.resolve_left h_1) (Int32.not_le.mpr h_8)
    · refine s_bipush (v := (-2)) dX7_code_11 rfl ?_
      exact s_iret dX7_code_13 rfl ⟨rfl, rfl⟩ (by first | exact wXlen | rfl)
set_option maxHeartbeats 4000000 in
set_option maxRecDepth 100000 in
theorem x_code {Z : zS} {d : Nat} {b k : Nat} {rs re rb : zRw} {th : zHd} {hi : Int32} {tx : zTx} {sh : zSh} {tp : zTs} {R : zW} {c : Nat} (hc : c < 256) : zF Z M_X7_code (d) [.ref 0, .int (nI c)] (wX (nI b, nI k, rs, re, rb) th hi tx sh tp ++ R) [.int (nI b)] (wX (nI c, nI k, rs, re, rb) th hi tx sh tp ++ R) := by
  unfold zF
  rw [wXlen]
  show zG Z M_X7_code (d) _ (R.length + 41) 0 [(0, .ref 0), (1, .int (nI c))] [] (wX (nI b, nI k, rs, re, rb) th hi tx sh tp ++ R)
  refine s_iload_n dX7_code_0 rfl ?_
  refine s_if_lt (tgt := 11) dX7_code_1 (by decide) (fun hqz => absurd hqz (nI_pos (by omega))) (fun hz => ?_)
  clear hz
  refine s_iload_n dX7_code_4 rfl ?_
  refine s_sipush (v := 256) dX7_code_5 rfl ?_
  refine s_icmp_lt (tgt := 14) dX7_code_8 (by decide) (fun hz => ?_) (fun hqz => absurd (nI_lt hc (by decide)) hqz)
  clear hz
  refine s_aload_n dX7_code_14 rfl ?_
  refine s_get dX7_code_15 f_X7_14 (by rfl) (by rfl) ?_
  refine s_get dX7_code_18 f_X7_53 (by rfl) (by rfl) ?_
  refine s_istore_n dX7_code_21 (Nat.le_of_ble_eq_true rfl) rfl ?_
  refine s_aload_n dX7_code_22 rfl ?_
  refine s_get dX7_code_23 f_X7_14 (by rfl) (by rfl) ?_
  refine s_iload_n dX7_code_26 rfl ?_
  refine s_put dX7_code_27 f_X7_53 (by rfl) (fun _ => ⟨rfl, rfl⟩) (Nat.le_of_ble_eq_true rfl) ?_
  refine s_iload_n dX7_code_30 rfl ?_
  exact s_iret dX7_code_31 rfl ⟨rfl, rfl⟩ (by first | exact wXlen | rfl)
set_option maxHeartbeats 4000000 in
set_option maxRecDepth 100000 in
theorem x_move1 {Z : zS} {d : Nat} {b k : Nat} {rs re rb : zRw} {th : zHd} {hi : Int32} {tx : zTx} {sh : zSh} {tp : zTs} {R : zW} {c : Int32} (hc : c < 0 ∨ 48 ≤ c) : zF Z M_X7_move (d + 1) [.ref 0, .int c] (wX (nI b, nI k, rs, re, rb) th hi tx sh tp ++ R) [.int (-1)] (wX (nI b, nI k, rs, re, rb) th hi tx sh tp ++ R) := by
  unfold zF
  rw [wXlen]
  show zG Z M_X7_move (d + 1) _ (R.length + 41) 0 [(0, .ref 0), (1, .int c)] [] (wX (nI b, nI k, rs, re, rb) th hi tx sh tp ++ R)
  refine s_iload_n dX7_move_0 rfl ?_
  refine s_cs1 dX7_move_1 g_X7_61 (c_X7_isMove) rfl rfl (Nat.le_of_ble_eq_true rfl) (Nat.le_of_ble_eq_true rfl) rfl ?_
  refine s_if_ne (tgt := 9) dX7_move_4 (by decide) (fun hqz => absurd (zrN hc) hqz) (fun hz => ?_)
  clear hz
  refine s_iconst (v := (-1)) dX7_move_7 rfl ?_
  exact s_iret dX7_move_8 rfl ⟨rfl, rfl⟩ (by first | exact wXlen | rfl)
set_option maxHeartbeats 4000000 in
set_option maxRecDepth 100000 in
theorem x_move {Z : zS} {d : Nat} {b k : Nat} {rs re rb : zRw} {th : zHd} {hi : Int32} {tx : zTx} {sh : zSh} {tp : zTs} {R : zW} {m : Nat} (hb : b < 256) (hm : m < 48) : zF Z M_X7_move (d + 2) [.ref 0, .int (nI m)] (wX (nI b, nI k, rs, re, rb) th hi tx sh tp ++ R) [.int (nI (pIMG m b))] (wX (nI (pIMG m b), nI k, rs, re, rb) th hi tx sh tp ++ R) := by
  unfold zF
  rw [wXlen]
  show zG Z M_X7_move (d + 2) _ (R.length + 41) 0 [(0, .ref 0), (1, .int (nI m))] [] (wX (nI b, nI k, rs, re, rb) th hi tx sh tp ++ R)
  refine s_iload_n dX7_move_0 rfl ?_
  refine s_cs1 dX7_move_1 g_X7_61 (c_X7_isMove) rfl rfl (Nat.le_of_ble_eq_true rfl) (Nat.le_of_ble_eq_true rfl) rfl ?_
  refine s_if_ne (tgt := 9) dX7_move_4 (by decide) (fun hz => ?_) (fun hqz => absurd hqz (zrY (n := 48) hm (by decide)))
  clear hz
  refine s_aload_n dX7_move_9 rfl ?_
  refine s_get dX7_move_10 f_X7_14 (by rfl) (by rfl) ?_
  refine s_iload_n dX7_move_13 rfl ?_
  refine s_aload_n dX7_move_14 rfl ?_
  refine s_get dX7_move_15 f_X7_14 (by rfl) (by rfl) ?_
  refine s_get dX7_move_18 f_X7_53 (by rfl) (by rfl) ?_
  refine s_cs1 dX7_move_21 g_X7_64 (c_X1_imageBy hm hb) rfl rfl (Nat.le_of_ble_eq_true rfl) (Nat.le_of_ble_eq_true rfl) rfl ?_
  refine s_put dX7_move_24 f_X7_53 (by rfl) (fun _ => ⟨rfl, rfl⟩) (Nat.le_of_ble_eq_true rfl) ?_
  refine s_aload_n dX7_move_27 rfl ?_
  refine s_get dX7_move_28 f_X7_14 (by rfl) (by rfl) ?_
  refine s_get dX7_move_31 f_X7_53 (by rfl) (by rfl) ?_
  exact s_iret dX7_move_34 rfl ⟨rfl, rfl⟩ (by first | exact wXlen | rfl)
theorem zle3 {c : Int32} {n : Nat} (hn : n < 2 ^ 30) (h1 : nI (n + 1) ≤ c) : ¬ c ≤ nI n := by
  rw [fa_le, nI_toInt (by omega)] at *
  omega
set_option maxHeartbeats 4000000 in
set_option maxRecDepth 100000 in
theorem x_becomes1 {Z : zS} {d : Nat} {b k : Nat} {rs re rb : zRw} {th : zHd} {hi : Int32} {tx : zTx} {sh : zSh} {tp : zTs} {R : zW} {c : Int32} (hc : c < 0 ∨ 4 ≤ c) : zF Z M_X7_becomes d [.ref 0, .int c] (wX (nI b, nI k, rs, re, rb) th hi tx sh tp ++ R) [.int (-1)] (wX (nI b, nI k, rs, re, rb) th hi tx sh tp ++ R) := by
  unfold zF
  rw [wXlen]
  show zG Z M_X7_becomes (d) _ (R.length + 41) 0 [(0, .ref 0), (1, .int c)] [] (wX (nI b, nI k, rs, re, rb) th hi tx sh tp ++ R)
  refine s_iload_n dX7_becomes_0 rfl ?_
  refine s_if_lt (tgt := 9) dX7_becomes_1 (by decide) (fun h_1 => ?_) (fun h_1 => ?_)
  · refine s_iconst (v := (-1)) dX7_becomes_9 rfl ?_
    exact s_iret dX7_becomes_10 rfl ⟨rfl, rfl⟩ (by first | exact wXlen | rfl)
  · refine s_iload_n dX7_becomes_4 rfl ?_
    refine s_iconst (v := 3) dX7_becomes_5 rfl ?_
    refine s_icmp_le (tgt := 11) dX7_becomes_6 (by decide) (fun h_6 => ?_) (fun h_6 => ?_)
    · exact absurd h_6 (zle3 (n := 3) (by decide) (hc.resolve_left h_1))
    · refine s_iconst (v := (-1)) dX7_becomes_9 rfl ?_
      exact s_iret dX7_becomes_10 rfl ⟨rfl, rfl⟩ (by first | exact wXlen | rfl)
set_option maxHeartbeats 4000000 in
set_option maxRecDepth 100000 in
theorem x_becomes {Z : zS} {d : Nat} {b k : Nat} {rs re rb : zRw} {th : zHd} {hi : Int32} {tx : zTx} {sh : zSh} {tp : zTs} {R : zW} {h : Nat} (hb : b < 256) (hh : h < 4) : zF Z M_X7_becomes (d + 4) [.ref 0, .int (nI h)] (wX (nI b, nI k, rs, re, rb) th hi tx sh tp ++ R) [.int (nI (pCHG h b k))] (wX (nI (pCHG h b k), nI k, rs, re, rb) th hi tx sh tp ++ R) := by
  unfold zF
  rw [wXlen]
  show zG Z M_X7_becomes (d + 4) _ (R.length + 41) 0 [(0, .ref 0), (1, .int (nI h))] [] (wX (nI b, nI k, rs, re, rb) th hi tx sh tp ++ R)
  refine s_iload_n dX7_becomes_0 rfl ?_
  refine s_if_lt (tgt := 9) dX7_becomes_1 (by decide) (fun hqz => absurd hqz (nI_pos (by omega))) (fun hz => ?_)
  clear hz
  refine s_iload_n dX7_becomes_4 rfl ?_
  refine s_iconst (v := 3) dX7_becomes_5 rfl ?_
  refine s_icmp_le (tgt := 11) dX7_becomes_6 (by decide) (fun hz => ?_) (fun hqz => absurd (nI_le (show h ≤ 3 by omega) (by decide)) hqz)
  clear hz
  refine s_aload_n dX7_becomes_11 rfl ?_
  refine s_get dX7_becomes_12 f_X7_14 (by rfl) (by rfl) ?_
  refine s_iload_n dX7_becomes_15 rfl ?_
  refine s_cv0 dX7_becomes_16 g_X7_69 (c_X2_change (by rfl) hb hh) (by rfl) rfl rfl rfl rfl (Nat.le_of_ble_eq_true rfl) (Nat.le_of_ble_eq_true rfl) rfl ?_
  refine s_aload_n dX7_becomes_19 rfl ?_
  refine s_get dX7_becomes_20 f_X7_14 (by rfl) (by rfl) ?_
  refine s_get dX7_becomes_23 f_X7_53 (by rfl) (by rfl) ?_
  exact s_iret dX7_becomes_26 rfl ⟨rfl, rfl⟩ (by first | exact wXlen | rfl)
set_option maxHeartbeats 4000000 in
set_option maxRecDepth 100000 in
theorem x_keep {Z : zS} {d : Nat} {b k : Nat} {rs re rb : zRw} {th : zHd} {hi : Int32} {tx : zTx} {sh : zSh} {tp : zTs} {R : zW}  : zF Z M_X7_keep (d) [.ref 0] (wX (nI b, nI k, rs, re, rb) th hi tx sh tp ++ R) [.int (nI b)] (wX (nI b, nI b, rs, re, rb) th hi tx sh tp ++ R) := by
  unfold zF
  rw [wXlen]
  show zG Z M_X7_keep (d) _ (R.length + 41) 0 [(0, .ref 0)] [] (wX (nI b, nI k, rs, re, rb) th hi tx sh tp ++ R)
  refine s_aload_n dX7_keep_0 rfl ?_
  refine s_get dX7_keep_1 f_X7_14 (by rfl) (by rfl) ?_
  refine s_aload_n dX7_keep_4 rfl ?_
  refine s_get dX7_keep_5 f_X7_14 (by rfl) (by rfl) ?_
  refine s_get dX7_keep_8 f_X7_53 (by rfl) (by rfl) ?_
  refine s_put dX7_keep_11 f_X7_73 (by rfl) (fun _ => ⟨rfl, rfl⟩) (Nat.le_of_ble_eq_true rfl) ?_
  refine s_aload_n dX7_keep_14 rfl ?_
  refine s_get dX7_keep_15 f_X7_14 (by rfl) (by rfl) ?_
  refine s_get dX7_keep_18 f_X7_73 (by rfl) (by rfl) ?_
  exact s_iret dX7_keep_21 rfl ⟨rfl, rfl⟩ (by first | exact wXlen | rfl)
set_option maxHeartbeats 4000000 in
set_option maxRecDepth 100000 in
theorem x_told0 {Z : zS} {d : Nat} {b k : Nat} {rs re rb : zRw} {th : zHd} {hi : Int32} {tx : zTx} {sh : zSh} {tp : zTs} {R : zW} (hb : b < 256) (hk : k < 256) : zF Z M_X7_told (d) [.ref 0, .int (nI 0)] (wX (nI b, nI k, rs, re, rb) th hi tx sh tp ++ R) [.int (nI b)] (wX (nI b, nI k, rs, re, rb) th hi tx sh tp ++ R) := by
  unfold zF
  rw [wXlen]
  show zG Z M_X7_told (d) _ (R.length + 41) 0 [(0, .ref 0), (1, .int (nI 0))] [] (wX (nI b, nI k, rs, re, rb) th hi tx sh tp ++ R)
  refine s_iload_n dX7_told_0 rfl ?_
  refine s_tableIn (off := 67) (tgt := 68) dX7_told_1 (by decide) (by decide) (by rfl) (by decide) ?_
  refine s_aload_n dX7_told_68 rfl ?_
  refine s_get dX7_told_69 f_X7_14 (by rfl) (by rfl) ?_
  refine s_get dX7_told_72 f_X7_53 (by rfl) (by rfl) ?_
  exact s_iret dX7_told_75 rfl ⟨rfl, rfl⟩ (by first | exact wXlen | rfl)
set_option maxHeartbeats 4000000 in
set_option maxRecDepth 100000 in
theorem x_told1 {Z : zS} {d : Nat} {b k : Nat} {rs re rb : zRw} {th : zHd} {hi : Int32} {tx : zTx} {sh : zSh} {tp : zTs} {R : zW} (hb : b < 256) (hk : k < 256) : zF Z M_X7_told (d) [.ref 0, .int (nI 1)] (wX (nI b, nI k, rs, re, rb) th hi tx sh tp ++ R) [.int (nI k)] (wX (nI b, nI k, rs, re, rb) th hi tx sh tp ++ R) := by
  unfold zF
  rw [wXlen]
  show zG Z M_X7_told (d) _ (R.length + 41) 0 [(0, .ref 0), (1, .int (nI 1))] [] (wX (nI b, nI k, rs, re, rb) th hi tx sh tp ++ R)
  refine s_iload_n dX7_told_0 rfl ?_
  refine s_tableIn (off := 75) (tgt := 76) dX7_told_1 (by decide) (by decide) (by rfl) (by decide) ?_
  refine s_aload_n dX7_told_76 rfl ?_
  refine s_get dX7_told_77 f_X7_14 (by rfl) (by rfl) ?_
  refine s_get dX7_told_80 f_X7_73 (by rfl) (by rfl) ?_
  exact s_iret dX7_told_83 rfl ⟨rfl, rfl⟩ (by first | exact wXlen | rfl)
set_option maxHeartbeats 4000000 in
set_option maxRecDepth 100000 in
theorem x_told2 {Z : zS} {d : Nat} {b k : Nat} {rs re rb : zRw} {th : zHd} {hi : Int32} {tx : zTx} {sh : zSh} {tp : zTs} {R : zW} (hb : b < 256) (hk : k < 256) : zF Z M_X7_told (d + 1) [.ref 0, .int (nI 2)] (wX (nI b, nI k, rs, re, rb) th hi tx sh tp ++ R) [.int (nI (pPOP b))] (wX (nI b, nI k, rs, re, rb) th hi tx sh tp ++ R) := by
  unfold zF
  rw [wXlen]
  show zG Z M_X7_told (d + 1) _ (R.length + 41) 0 [(0, .ref 0), (1, .int (nI 2))] [] (wX (nI b, nI k, rs, re, rb) th hi tx sh tp ++ R)
  refine s_iload_n dX7_told_0 rfl ?_
  refine s_tableIn (off := 83) (tgt := 84) dX7_told_1 (by decide) (by decide) (by rfl) (by decide) ?_
  refine s_aload_n dX7_told_84 rfl ?_
  refine s_get dX7_told_85 f_X7_14 (by rfl) (by rfl) ?_
  refine s_get dX7_told_88 f_X7_53 (by rfl) (by rfl) ?_
  refine s_cs1 dX7_told_91 g_X7_91 (c_bcN hb) rfl rfl (Nat.le_of_ble_eq_true rfl) (Nat.le_of_ble_eq_true rfl) rfl ?_
  exact s_iret dX7_told_94 rfl ⟨rfl, rfl⟩ (by first | exact wXlen | rfl)
set_option maxHeartbeats 4000000 in
set_option maxRecDepth 100000 in
theorem x_told3 {Z : zS} {d : Nat} {b k : Nat} {rs re rb : zRw} {th : zHd} {hi : Int32} {tx : zTx} {sh : zSh} {tp : zTs} {R : zW} (hb : b < 256) (hk : k < 256) : zF Z M_X7_told (d + 3) [.ref 0, .int (nI 3)] (wX (nI b, nI k, rs, re, rb) th hi tx sh tp ++ R) [.int (nI (pFOR b))] (wX (nI b, nI k, rs, re, rb) th hi tx sh tp ++ R) := by
  unfold zF
  rw [wXlen]
  show zG Z M_X7_told (d + 3) _ (R.length + 41) 0 [(0, .ref 0), (1, .int (nI 3))] [] (wX (nI b, nI k, rs, re, rb) th hi tx sh tp ++ R)
  refine s_iload_n dX7_told_0 rfl ?_
  refine s_tableIn (off := 94) (tgt := 95) dX7_told_1 (by decide) (by decide) (by rfl) (by decide) ?_
  refine s_aload_n dX7_told_95 rfl ?_
  refine s_get dX7_told_96 f_X7_14 (by rfl) (by rfl) ?_
  refine s_get dX7_told_99 f_X7_53 (by rfl) (by rfl) ?_
  refine s_cs1 dX7_told_102 g_X7_96 (c_X1_formOf hb) rfl rfl (Nat.le_of_ble_eq_true rfl) (Nat.le_of_ble_eq_true rfl) rfl ?_
  exact s_iret dX7_told_105 rfl ⟨rfl, rfl⟩ (by first | exact wXlen | rfl)
set_option maxHeartbeats 4000000 in
set_option maxRecDepth 100000 in
theorem x_told4 {Z : zS} {d : Nat} {b k : Nat} {rs re rb : zRw} {th : zHd} {hi : Int32} {tx : zTx} {sh : zSh} {tp : zTs} {R : zW} (hb : b < 256) (hk : k < 256) : zF Z M_X7_told (d + 4) [.ref 0, .int (nI 4)] (wX (nI b, nI k, rs, re, rb) th hi tx sh tp ++ R) [.int (nI (pNUM b))] (wX (nI b, nI k, rs, re, rb) th hi tx sh tp ++ R) := by
  unfold zF
  rw [wXlen]
  show zG Z M_X7_told (d + 4) _ (R.length + 41) 0 [(0, .ref 0), (1, .int (nI 4))] [] (wX (nI b, nI k, rs, re, rb) th hi tx sh tp ++ R)
  refine s_iload_n dX7_told_0 rfl ?_
  refine s_tableIn (off := 105) (tgt := 106) dX7_told_1 (by decide) (by decide) (by rfl) (by decide) ?_
  refine s_aload_n dX7_told_106 rfl ?_
  refine s_get dX7_told_107 f_X7_14 (by rfl) (by rfl) ?_
  refine s_get dX7_told_110 f_X7_53 (by rfl) (by rfl) ?_
  refine s_cs1 dX7_told_113 g_X7_99 (c_X1_classOf hb) rfl rfl (Nat.le_of_ble_eq_true rfl) (Nat.le_of_ble_eq_true rfl) rfl ?_
  exact s_iret dX7_told_116 rfl ⟨rfl, rfl⟩ (by first | exact wXlen | rfl)
set_option maxHeartbeats 4000000 in
set_option maxRecDepth 100000 in
theorem x_told5 {Z : zS} {d : Nat} {b k : Nat} {rs re rb : zRw} {th : zHd} {hi : Int32} {tx : zTx} {sh : zSh} {tp : zTs} {R : zW} (hb : b < 256) (hk : k < 256) : zF Z M_X7_told (d + 4) [.ref 0, .int (nI 5)] (wX (nI b, nI k, rs, re, rb) th hi tx sh tp ++ R) [.int (nI (48 / pSTI b))] (wX (nI b, nI k, rs, re, rb) th hi tx sh tp ++ R) := by
  unfold zF
  rw [wXlen]
  show zG Z M_X7_told (d + 4) _ (R.length + 41) 0 [(0, .ref 0), (1, .int (nI 5))] [] (wX (nI b, nI k, rs, re, rb) th hi tx sh tp ++ R)
  refine s_iload_n dX7_told_0 rfl ?_
  refine s_tableIn (off := 116) (tgt := 117) dX7_told_1 (by decide) (by decide) (by rfl) (by decide) ?_
  refine s_aload_n dX7_told_117 rfl ?_
  refine s_get dX7_told_118 f_X7_14 (by rfl) (by rfl) ?_
  refine s_get dX7_told_121 f_X7_53 (by rfl) (by rfl) ?_
  refine s_cs1 dX7_told_124 g_X7_102 (c_X1_unlikeImages hb) rfl rfl (Nat.le_of_ble_eq_true rfl) (Nat.le_of_ble_eq_true rfl) rfl ?_
  exact s_iret dX7_told_127 rfl ⟨rfl, rfl⟩ (by first | exact wXlen | rfl)
set_option maxHeartbeats 4000000 in
set_option maxRecDepth 100000 in
theorem x_told6 {Z : zS} {d : Nat} {b k : Nat} {rs re rb : zRw} {th : zHd} {hi : Int32} {tx : zTx} {sh : zSh} {tp : zTs} {R : zW} (hb : b < 256) (hk : k < 256) : zF Z M_X7_told (d + 3) [.ref 0, .int (nI 6)] (wX (nI b, nI k, rs, re, rb) th hi tx sh tp ++ R) [.int (nI (pSTI b))] (wX (nI b, nI k, rs, re, rb) th hi tx sh tp ++ R) := by
  unfold zF
  rw [wXlen]
  show zG Z M_X7_told (d + 3) _ (R.length + 41) 0 [(0, .ref 0), (1, .int (nI 6))] [] (wX (nI b, nI k, rs, re, rb) th hi tx sh tp ++ R)
  refine s_iload_n dX7_told_0 rfl ?_
  refine s_tableIn (off := 127) (tgt := 128) dX7_told_1 (by decide) (by decide) (by rfl) (by decide) ?_
  refine s_aload_n dX7_told_128 rfl ?_
  refine s_get dX7_told_129 f_X7_14 (by rfl) (by rfl) ?_
  refine s_get dX7_told_132 f_X7_53 (by rfl) (by rfl) ?_
  refine s_cs1 dX7_told_135 g_X7_105 (c_X1_stillMoves hb) rfl rfl (Nat.le_of_ble_eq_true rfl) (Nat.le_of_ble_eq_true rfl) rfl ?_
  exact s_iret dX7_told_138 rfl ⟨rfl, rfl⟩ (by first | exact wXlen | rfl)
set_option maxHeartbeats 4000000 in
set_option maxRecDepth 100000 in
theorem x_told7 {Z : zS} {d : Nat} {b k : Nat} {rs re rb : zRw} {th : zHd} {hi : Int32} {tx : zTx} {sh : zSh} {tp : zTs} {R : zW} (hb : b < 256) (hk : k < 256) : zF Z M_X7_told (d + 3) [.ref 0, .int (nI 7)] (wX (nI b, nI k, rs, re, rb) th hi tx sh tp ++ R) [.int (nI (pDSL b k 48 0 8))] (wX (nI b, nI k, rs, re, rb) th hi tx sh tp ++ R) := by
  unfold zF
  rw [wXlen]
  show zG Z M_X7_told (d + 3) _ (R.length + 41) 0 [(0, .ref 0), (1, .int (nI 7))] [] (wX (nI b, nI k, rs, re, rb) th hi tx sh tp ++ R)
  refine s_iload_n dX7_told_0 rfl ?_
  refine s_tableIn (off := 138) (tgt := 139) dX7_told_1 (by decide) (by decide) (by rfl) (by decide) ?_
  refine s_aload_n dX7_told_139 rfl ?_
  refine s_get dX7_told_140 f_X7_14 (by rfl) (by rfl) ?_
  refine s_get dX7_told_143 f_X7_53 (by rfl) (by rfl) ?_
  refine s_aload_n dX7_told_146 rfl ?_
  refine s_get dX7_told_147 f_X7_14 (by rfl) (by rfl) ?_
  refine s_get dX7_told_150 f_X7_73 (by rfl) (by rfl) ?_
  refine s_cs1 dX7_told_153 g_X7_108 (c_X1_distance hb hk) rfl rfl (Nat.le_of_ble_eq_true rfl) (Nat.le_of_ble_eq_true rfl) rfl ?_
  exact s_iret dX7_told_156 rfl ⟨rfl, rfl⟩ (by first | exact wXlen | rfl)
set_option maxHeartbeats 4000000 in
set_option maxRecDepth 100000 in
theorem x_told8 {Z : zS} {d : Nat} {b k : Nat} {rs re rb : zRw} {th : zHd} {hi : Int32} {tx : zTx} {sh : zSh} {tp : zTs} {R : zW} (hS : SOK sh) (hb : b < 256) (hk : k < 256) : ∃ sh' : zSh, SOK sh' ∧ zF Z M_X7_told (d + 3) [.ref 0, .int (nI 8)] (wX (nI b, nI k, rs, re, rb) th hi tx sh tp ++ R) [.int (nI (kFL b 256 0 0))] (wX (nI b, nI k, rs, re, rb) th hi tx sh' tp ++ R) := by
  obtain ⟨sh', hS', hz⟩ := c_faceCount (Z := Z) (d := d) (hd := (nI b, nI k, rs, re, rb)) (th := th) (hi := hi) (tx := tx) (tp := tp) (R := R) hS hb
  refine ⟨sh', hS', ?_⟩
  unfold zF
  rw [wXlen]
  show zG Z M_X7_told (d + 3) _ (R.length + 41) 0 [(0, .ref 0), (1, .int (nI 8))] [] (wX (nI b, nI k, rs, re, rb) th hi tx sh tp ++ R)
  refine s_iload_n dX7_told_0 rfl ?_
  refine s_tableIn (off := 156) (tgt := 157) dX7_told_1 (by decide) (by decide) (by rfl) (by decide) ?_
  refine s_aload_n dX7_told_157 rfl ?_
  refine s_get dX7_told_158 f_X7_35 (by rfl) (by rfl) ?_
  refine s_aload_n dX7_told_161 rfl ?_
  refine s_get dX7_told_162 f_X7_14 (by rfl) (by rfl) ?_
  refine s_get dX7_told_165 f_X7_53 (by rfl) (by rfl) ?_
  refine s_cv1 dX7_told_168 g_X7_111 (hz) (by rfl) rfl rfl rfl rfl (Nat.le_of_ble_eq_true rfl) (Nat.le_of_ble_eq_true rfl) rfl ?_
  exact s_iret dX7_told_171 rfl ⟨rfl, rfl⟩ (by first | exact wXlen | rfl)
set_option maxHeartbeats 4000000 in
set_option maxRecDepth 100000 in
theorem x_told9 {Z : zS} {d : Nat} {b k : Nat} {rs re rb : zRw} {th : zHd} {hi : Int32} {tx : zTx} {sh : zSh} {tp : zTs} {R : zW} (hS : SOK sh) (hb : b < 256) (hk : k < 256) : ∃ sh' : zSh, SOK sh' ∧ zF Z M_X7_told (d + 3) [.ref 0, .int (nI 9)] (wX (nI b, nI k, rs, re, rb) th hi tx sh tp ++ R) [.int (nI (kEL b 256 0 0))] (wX (nI b, nI k, rs, re, rb) th hi tx sh' tp ++ R) := by
  obtain ⟨sh', hS', hz⟩ := c_edgeCount (Z := Z) (d := d) (hd := (nI b, nI k, rs, re, rb)) (th := th) (hi := hi) (tx := tx) (tp := tp) (R := R) hS hb
  refine ⟨sh', hS', ?_⟩
  unfold zF
  rw [wXlen]
  show zG Z M_X7_told (d + 3) _ (R.length + 41) 0 [(0, .ref 0), (1, .int (nI 9))] [] (wX (nI b, nI k, rs, re, rb) th hi tx sh tp ++ R)
  refine s_iload_n dX7_told_0 rfl ?_
  refine s_tableIn (off := 171) (tgt := 172) dX7_told_1 (by decide) (by decide) (by rfl) (by decide) ?_
  refine s_aload_n dX7_told_172 rfl ?_
  refine s_get dX7_told_173 f_X7_35 (by rfl) (by rfl) ?_
  refine s_aload_n dX7_told_176 rfl ?_
  refine s_get dX7_told_177 f_X7_14 (by rfl) (by rfl) ?_
  refine s_get dX7_told_180 f_X7_53 (by rfl) (by rfl) ?_
  refine s_cv1 dX7_told_183 g_X7_114 (hz) (by rfl) rfl rfl rfl rfl (Nat.le_of_ble_eq_true rfl) (Nat.le_of_ble_eq_true rfl) rfl ?_
  exact s_iret dX7_told_186 rfl ⟨rfl, rfl⟩ (by first | exact wXlen | rfl)
set_option maxHeartbeats 4000000 in
set_option maxRecDepth 100000 in
theorem x_told10 {Z : zS} {d : Nat} {b k : Nat} {rs re rb : zRw} {th : zHd} {hi : Int32} {tx : zTx} {sh : zSh} {tp : zTs} {R : zW} (hb : b < 256) (hk : k < 256) : zF Z M_X7_told (d + 5) [.ref 0, .int (nI 10)] (wX (nI b, nI k, rs, re, rb) th hi tx sh tp ++ R) [.int (pDIM b + 1)] (wX (nI b, nI k, rs, re, rb) th hi tx sh tp ++ R) := by
  unfold zF
  rw [wXlen]
  show zG Z M_X7_told (d + 5) _ (R.length + 41) 0 [(0, .ref 0), (1, .int (nI 10))] [] (wX (nI b, nI k, rs, re, rb) th hi tx sh tp ++ R)
  refine s_iload_n dX7_told_0 rfl ?_
  refine s_tableIn (off := 186) (tgt := 187) dX7_told_1 (by decide) (by decide) (by rfl) (by decide) ?_
  refine s_aload_n dX7_told_187 rfl ?_
  refine s_get dX7_told_188 f_X7_14 (by rfl) (by rfl) ?_
  refine s_get dX7_told_191 f_X7_53 (by rfl) (by rfl) ?_
  refine s_cs1 dX7_told_194 g_X7_117 (c_X1_dimension hb) rfl rfl (Nat.le_of_ble_eq_true rfl) (Nat.le_of_ble_eq_true rfl) rfl ?_
  refine s_iconst (v := 1) dX7_told_197 rfl ?_
  refine s_iadd dX7_told_198 ?_
  exact s_iret dX7_told_199 rfl ⟨rfl, rfl⟩ (by first | exact wXlen | rfl)
set_option maxHeartbeats 4000000 in
set_option maxRecDepth 100000 in
theorem x_told11 {Z : zS} {d : Nat} {b k : Nat} {rs re rb : zRw} {th : zHd} {hi : Int32} {tx : zTx} {sh : zSh} {tp : zTs} {R : zW} (hS : SOK sh) (hb : b < 256) (hk : k < 256) : ∃ sh' : zSh, SOK sh' ∧ zF Z M_X7_told (d + 4) [.ref 0, .int (nI 11)] (wX (nI b, nI k, rs, re, rb) th hi tx sh tp ++ R) [.int (kSIX b)] (wX (nI b, nI k, rs, re, rb) th hi tx sh' tp ++ R) := by
  obtain ⟨sh', hS', hz⟩ := c_sixfold (Z := Z) (d := d) (hd := (nI b, nI k, rs, re, rb)) (th := th) (hi := hi) (tx := tx) (tp := tp) (R := R) hS hb
  refine ⟨sh', hS', ?_⟩
  unfold zF
  rw [wXlen]
  show zG Z M_X7_told (d + 4) _ (R.length + 41) 0 [(0, .ref 0), (1, .int (nI 11))] [] (wX (nI b, nI k, rs, re, rb) th hi tx sh tp ++ R)
  refine s_iload_n dX7_told_0 rfl ?_
  refine s_tableIn (off := 199) (tgt := 200) dX7_told_1 (by decide) (by decide) (by rfl) (by decide) ?_
  refine s_aload_n dX7_told_200 rfl ?_
  refine s_get dX7_told_201 f_X7_35 (by rfl) (by rfl) ?_
  refine s_aload_n dX7_told_204 rfl ?_
  refine s_get dX7_told_205 f_X7_14 (by rfl) (by rfl) ?_
  refine s_get dX7_told_208 f_X7_53 (by rfl) (by rfl) ?_
  refine s_cv1 dX7_told_211 g_X7_120 (hz) (by rfl) rfl rfl rfl rfl (Nat.le_of_ble_eq_true rfl) (Nat.le_of_ble_eq_true rfl) rfl ?_
  exact s_iret dX7_told_214 rfl ⟨rfl, rfl⟩ (by first | exact wXlen | rfl)
set_option maxHeartbeats 4000000 in
set_option maxRecDepth 100000 in
theorem x_told12 {Z : zS} {d : Nat} {b k : Nat} {rs re rb : zRw} {th : zHd} {hi : Int32} {tx : zTx} {sh : zSh} {tp : zTs} {R : zW} (hS : SOK sh) (hb : b < 256) (hk : k < 256) : ∃ sh' : zSh, SOK sh' ∧ zF Z M_X7_told (d + 3) [.ref 0, .int (nI 12)] (wX (nI b, nI k, rs, re, rb) th hi tx sh tp ++ R) [.int (kLW b)] (wX (nI b, nI k, rs, re, rb) th hi tx sh' tp ++ R) := by
  obtain ⟨sh', hS', hz⟩ := c_width (Z := Z) (d := d) (hd := (nI b, nI k, rs, re, rb)) (th := th) (hi := hi) (tx := tx) (tp := tp) (R := R) hS hb
  refine ⟨sh', hS', ?_⟩
  unfold zF
  rw [wXlen]
  show zG Z M_X7_told (d + 3) _ (R.length + 41) 0 [(0, .ref 0), (1, .int (nI 12))] [] (wX (nI b, nI k, rs, re, rb) th hi tx sh tp ++ R)
  refine s_iload_n dX7_told_0 rfl ?_
  refine s_tableIn (off := 214) (tgt := 215) dX7_told_1 (by decide) (by decide) (by rfl) (by decide) ?_
  refine s_aload_n dX7_told_215 rfl ?_
  refine s_get dX7_told_216 f_X7_35 (by rfl) (by rfl) ?_
  refine s_aload_n dX7_told_219 rfl ?_
  refine s_get dX7_told_220 f_X7_14 (by rfl) (by rfl) ?_
  refine s_get dX7_told_223 f_X7_53 (by rfl) (by rfl) ?_
  refine s_cv1 dX7_told_226 g_X7_123 (hz) (by rfl) rfl rfl rfl rfl (Nat.le_of_ble_eq_true rfl) (Nat.le_of_ble_eq_true rfl) rfl ?_
  exact s_iret dX7_told_229 rfl ⟨rfl, rfl⟩ (by first | exact wXlen | rfl)
theorem zsw {c : Int32} {n : Nat} (hn : n < 2 ^ 30) (h : c < 0 ∨ nI (n + 1) ≤ c) : c.toInt < 0 ∨ (n : Int) < c.toInt := by
  rcases h with h | h
  · rw [fa_lt] at h
    exact Or.inl h
  · rw [fa_le, nI_toInt (by omega)] at h
    refine Or.inr ?_
    omega
set_option maxHeartbeats 4000000 in
set_option maxRecDepth 100000 in
theorem x_told_no {Z : zS} {d : Nat} {b k : Nat} {rs re rb : zRw} {th : zHd} {hi : Int32} {tx : zTx} {sh : zSh} {tp : zTs} {R : zW} {c : Int32} (hc : c < 0 ∨ 13 ≤ c) : zF Z M_X7_told (d) [.ref 0, .int c] (wX (nI b, nI k, rs, re, rb) th hi tx sh tp ++ R) [.int (-1)] (wX (nI b, nI k, rs, re, rb) th hi tx sh tp ++ R) := by
  unfold zF
  rw [wXlen]
  show zG Z M_X7_told (d) _ (R.length + 41) 0 [(0, .ref 0), (1, .int c)] [] (wX (nI b, nI k, rs, re, rb) th hi tx sh tp ++ R)
  refine s_iload_n dX7_told_0 rfl ?_
  refine s_tableOut (tgt := 230) dX7_told_1 (zsw (n := 12) (by decide) hc) (by decide) ?_
  refine s_iconst (v := (-1)) dX7_told_230 rfl ?_
  exact s_iret dX7_told_231 rfl ⟨rfl, rfl⟩ (by first | exact wXlen | rfl)
set_option maxHeartbeats 4000000 in
set_option maxRecDepth 100000 in
theorem x_carried1 {Z : zS} {d : Nat} {b k : Nat} {rs re rb : zRw} {th : zHd} {hi : Int32} {tx : zTx} {sh : zSh} {tp : zTs} {R : zW} {m c : Int32} (hm : m < 0 ∨ 48 ≤ m) : zF Z M_X7_carried (d + 1) [.ref 0, .int m, .int c] (wX (nI b, nI k, rs, re, rb) th hi tx sh tp ++ R) [.int (-1)] (wX (nI b, nI k, rs, re, rb) th hi tx sh tp ++ R) := by
  unfold zF
  rw [wXlen]
  show zG Z M_X7_carried (d + 1) _ (R.length + 41) 0 [(0, .ref 0), (1, .int m), (2, .int c)] [] (wX (nI b, nI k, rs, re, rb) th hi tx sh tp ++ R)
  refine s_iload_n dX7_carried_0 rfl ?_
  refine s_cs1 dX7_carried_1 g_X7_61 (c_X7_isMove) rfl rfl (Nat.le_of_ble_eq_true rfl) (Nat.le_of_ble_eq_true rfl) rfl ?_
  refine s_if_eq (tgt := 22) dX7_carried_4 (by decide) (fun hz => ?_) (fun hqz => absurd (zrN hm) hqz)
  clear hz
  refine s_iconst (v := (-1)) dX7_carried_22 rfl ?_
  exact s_iret dX7_carried_23 rfl ⟨rfl, rfl⟩ (by first | exact wXlen | rfl)
set_option maxHeartbeats 4000000 in
set_option maxRecDepth 100000 in
theorem x_carried2 {Z : zS} {d : Nat} {b k : Nat} {rs re rb : zRw} {th : zHd} {hi : Int32} {tx : zTx} {sh : zSh} {tp : zTs} {R : zW} {m : Nat} {c : Int32} (hm : m < 48) (hc : c < 0 ∨ 8 ≤ c) : zF Z M_X7_carried (d + 1) [.ref 0, .int (nI m), .int c] (wX (nI b, nI k, rs, re, rb) th hi tx sh tp ++ R) [.int (-1)] (wX (nI b, nI k, rs, re, rb) th hi tx sh tp ++ R) := by
  unfold zF
  rw [wXlen]
  show zG Z M_X7_carried (d + 1) _ (R.length + 41) 0 [(0, .ref 0), (1, .int (nI m)), (2, .int c)] [] (wX (nI b, nI k, rs, re, rb) th hi tx sh tp ++ R)
  refine s_iload_n dX7_carried_0 rfl ?_
  refine s_cs1 dX7_carried_1 g_X7_61 (c_X7_isMove) rfl rfl (Nat.le_of_ble_eq_true rfl) (Nat.le_of_ble_eq_true rfl) rfl ?_
  refine s_if_eq (tgt := 22) dX7_carried_4 (by decide) (fun hqz => absurd hqz (zrY (n := 48) hm (by decide))) (fun hz => ?_)
  clear hz
  refine s_iload_n dX7_carried_7 rfl ?_
  refine s_cs1 dX7_carried_8 g_X7_46 (c_X7_isCorner) rfl rfl (Nat.le_of_ble_eq_true rfl) (Nat.le_of_ble_eq_true rfl) rfl ?_
  refine s_if_eq (tgt := 22) dX7_carried_11 (by decide) (fun hz => ?_) (fun hqz => absurd (zrN hc) hqz)
  clear hz
  refine s_iconst (v := (-1)) dX7_carried_22 rfl ?_
  exact s_iret dX7_carried_23 rfl ⟨rfl, rfl⟩ (by first | exact wXlen | rfl)
set_option maxHeartbeats 4000000 in
set_option maxRecDepth 100000 in
theorem x_carried {Z : zS} {d : Nat} {b k : Nat} {rs re rb : zRw} {th : zHd} {hi : Int32} {tx : zTx} {sh : zSh} {tp : zTs} {R : zW} {m c : Nat} (hm : m < 48) (hc : c < 8) : zF Z M_X7_carried (d + 1) [.ref 0, .int (nI m), .int (nI c)] (wX (nI b, nI k, rs, re, rb) th hi tx sh tp ++ R) [.int (nI (pCO m c))] (wX (nI b, nI k, rs, re, rb) th hi tx sh tp ++ R) := by
  unfold zF
  rw [wXlen]
  show zG Z M_X7_carried (d + 1) _ (R.length + 41) 0 [(0, .ref 0), (1, .int (nI m)), (2, .int (nI c))] [] (wX (nI b, nI k, rs, re, rb) th hi tx sh tp ++ R)
  refine s_iload_n dX7_carried_0 rfl ?_
  refine s_cs1 dX7_carried_1 g_X7_61 (c_X7_isMove) rfl rfl (Nat.le_of_ble_eq_true rfl) (Nat.le_of_ble_eq_true rfl) rfl ?_
  refine s_if_eq (tgt := 22) dX7_carried_4 (by decide) (fun hqz => absurd hqz (zrY (n := 48) hm (by decide))) (fun hz => ?_)
  clear hz
  refine s_iload_n dX7_carried_7 rfl ?_
  refine s_cs1 dX7_carried_8 g_X7_46 (c_X7_isCorner) rfl rfl (Nat.le_of_ble_eq_true rfl) (Nat.le_of_ble_eq_true rfl) rfl ?_
  refine s_if_eq (tgt := 22) dX7_carried_11 (by decide) (fun hqz => absurd hqz (zrY (n := 8) hc (by decide))) (fun hz => ?_)
  clear hz
  refine s_iload_n dX7_carried_14 rfl ?_
  refine s_iload_n dX7_carried_15 rfl ?_
  refine s_cs1 dX7_carried_16 g_X7_126 (c_X1_cornerBy hm hc) rfl rfl (Nat.le_of_ble_eq_true rfl) (Nat.le_of_ble_eq_true rfl) rfl ?_
  refine s_goto (tgt := 23) dX7_carried_19 (by decide) ?_
  exact s_iret dX7_carried_23 rfl ⟨rfl, rfl⟩ (by first | exact wXlen | rfl)
set_option maxHeartbeats 4000000 in
set_option maxRecDepth 100000 in
theorem x_imaged1 {Z : zS} {d : Nat} {b k : Nat} {rs re rb : zRw} {th : zHd} {hi : Int32} {tx : zTx} {sh : zSh} {tp : zTs} {R : zW} {m : Int32} (hm : m < 0 ∨ 48 ≤ m) : zF Z M_X7_imaged (d + 1) [.ref 0, .int m] (wX (nI b, nI k, rs, re, rb) th hi tx sh tp ++ R) [.int (-1)] (wX (nI b, nI k, rs, re, rb) th hi tx sh tp ++ R) := by
  unfold zF
  rw [wXlen]
  show zG Z M_X7_imaged (d + 1) _ (R.length + 41) 0 [(0, .ref 0), (1, .int m)] [] (wX (nI b, nI k, rs, re, rb) th hi tx sh tp ++ R)
  refine s_iload_n dX7_imaged_0 rfl ?_
  refine s_cs1 dX7_imaged_1 g_X7_61 (c_X7_isMove) rfl rfl (Nat.le_of_ble_eq_true rfl) (Nat.le_of_ble_eq_true rfl) rfl ?_
  refine s_if_eq (tgt := 21) dX7_imaged_4 (by decide) (fun hz => ?_) (fun hqz => absurd (zrN hm) hqz)
  clear hz
  refine s_iconst (v := (-1)) dX7_imaged_21 rfl ?_
  exact s_iret dX7_imaged_22 rfl ⟨rfl, rfl⟩ (by first | exact wXlen | rfl)
set_option maxHeartbeats 4000000 in
set_option maxRecDepth 100000 in
theorem x_imaged {Z : zS} {d : Nat} {b k : Nat} {rs re rb : zRw} {th : zHd} {hi : Int32} {tx : zTx} {sh : zSh} {tp : zTs} {R : zW} {m : Nat} (hb : b < 256) (hm : m < 48) : zF Z M_X7_imaged (d + 2) [.ref 0, .int (nI m)] (wX (nI b, nI k, rs, re, rb) th hi tx sh tp ++ R) [.int (nI (pIMG m b))] (wX (nI b, nI k, rs, re, rb) th hi tx sh tp ++ R) := by
  unfold zF
  rw [wXlen]
  show zG Z M_X7_imaged (d + 2) _ (R.length + 41) 0 [(0, .ref 0), (1, .int (nI m))] [] (wX (nI b, nI k, rs, re, rb) th hi tx sh tp ++ R)
  refine s_iload_n dX7_imaged_0 rfl ?_
  refine s_cs1 dX7_imaged_1 g_X7_61 (c_X7_isMove) rfl rfl (Nat.le_of_ble_eq_true rfl) (Nat.le_of_ble_eq_true rfl) rfl ?_
  refine s_if_eq (tgt := 21) dX7_imaged_4 (by decide) (fun hqz => absurd hqz (zrY (n := 48) hm (by decide))) (fun hz => ?_)
  clear hz
  refine s_iload_n dX7_imaged_7 rfl ?_
  refine s_aload_n dX7_imaged_8 rfl ?_
  refine s_get dX7_imaged_9 f_X7_14 (by rfl) (by rfl) ?_
  refine s_get dX7_imaged_12 f_X7_53 (by rfl) (by rfl) ?_
  refine s_cs1 dX7_imaged_15 g_X7_64 (c_X1_imageBy hm hb) rfl rfl (Nat.le_of_ble_eq_true rfl) (Nat.le_of_ble_eq_true rfl) rfl ?_
  refine s_goto (tgt := 22) dX7_imaged_18 (by decide) ?_
  exact s_iret dX7_imaged_22 rfl ⟨rfl, rfl⟩ (by first | exact wXlen | rfl)
set_option maxHeartbeats 4000000 in
set_option maxRecDepth 100000 in
theorem x_form1 {Z : zS} {d : Nat} {b k : Nat} {rs re rb : zRw} {th : zHd} {hi : Int32} {tx : zTx} {sh : zSh} {tp : zTs} {R : zW} {i : Int32} (hi2 : i < 0) : zF Z M_X7_form (d) [.ref 0, .int i] (wX (nI b, nI k, rs, re, rb) th hi tx sh tp ++ R) [.int (-1)] (wX (nI b, nI k, rs, re, rb) th hi tx sh tp ++ R) := by
  unfold zF
  rw [wXlen]
  show zG Z M_X7_form (d) _ (R.length + 41) 0 [(0, .ref 0), (1, .int i)] [] (wX (nI b, nI k, rs, re, rb) th hi tx sh tp ++ R)
  refine s_iload_n dX7_form_0 rfl ?_
  refine s_if_ge (tgt := 6) dX7_form_1 (by decide) (fun hqz => absurd hqz (fun z => absurd hi2 (Int32.not_lt.mpr z))) (fun hz => ?_)
  clear hz
  refine s_iconst (v := (-1)) dX7_form_4 rfl ?_
  exact s_iret dX7_form_5 rfl ⟨rfl, rfl⟩ (by first | exact wXlen | rfl)
set_option maxHeartbeats 4000000 in
set_option maxRecDepth 100000 in
theorem x_form2 {Z : zS} {d : Nat} {b k : Nat} {rs re rb : zRw} {th : zHd} {hi : Int32} {tx : zTx} {sh : zSh} {tp : zTs} {R : zW} {i : Int32} (hi1 : 0 ≤ i) (hi2 : 22 ≤ i) : zF Z M_X7_form (d) [.ref 0, .int i] (wX (nI b, nI k, rs, re, rb) th hi tx sh tp ++ R) [.int (-5)] (wX (nI b, nI k, rs, re, rb) th hi tx sh tp ++ R) := by
  unfold zF
  rw [wXlen]
  show zG Z M_X7_form (d) _ (R.length + 41) 0 [(0, .ref 0), (1, .int i)] [] (wX (nI b, nI k, rs, re, rb) th hi tx sh tp ++ R)
  refine s_iload_n dX7_form_0 rfl ?_
  refine s_if_ge (tgt := 6) dX7_form_1 (by decide) (fun hz => ?_) (fun hqz => absurd hi1 hqz)
  clear hz
  refine s_iload_n dX7_form_6 rfl ?_
  refine s_frm dX7_form_7 (Or.inr ⟨"CubeBodies", (znin 412 (by decide +kernel) (by decide +kernel))⟩) ?_
  refine s_rlen 1 22 dX7_form_10 rfl (by decide) rfl ?_
  refine s_icmp_ge (tgt := 22) dX7_form_11 (by decide) (fun hz => ?_) (fun hqz => absurd hi2 hqz)
  clear hz
  refine s_bipush (v := (-5)) dX7_form_22 rfl ?_
  exact s_iret dX7_form_24 rfl ⟨rfl, rfl⟩ (by first | exact wXlen | rfl)
set_option maxHeartbeats 4000000 in
set_option maxRecDepth 100000 in
theorem x_form {Z : zS} {d : Nat} {b k : Nat} {rs re rb : zRw} {th : zHd} {hi : Int32} {tx : zTx} {sh : zSh} {tp : zTs} {R : zW} {i : Nat} (hi2 : i < 22) : zF Z M_X7_form (d) [.ref 0, .int (nI i)] (wX (nI b, nI k, rs, re, rb) th hi tx sh tp ++ R) [.int (zFRM i)] (wX (nI b, nI k, rs, re, rb) th hi tx sh tp ++ R) := by
  unfold zF
  rw [wXlen]
  show zG Z M_X7_form (d) _ (R.length + 41) 0 [(0, .ref 0), (1, .int (nI i))] [] (wX (nI b, nI k, rs, re, rb) th hi tx sh tp ++ R)
  refine s_iload_n dX7_form_0 rfl ?_
  refine s_if_ge (tgt := 6) dX7_form_1 (by decide) (fun hz => ?_) (fun hqz => absurd (nI_pos' (by omega)) hqz)
  clear hz
  refine s_iload_n dX7_form_6 rfl ?_
  refine s_frm dX7_form_7 (Or.inr ⟨"CubeBodies", (znin 412 (by decide +kernel) (by decide +kernel))⟩) ?_
  refine s_rlen 1 22 dX7_form_10 rfl (by decide) rfl ?_
  refine s_icmp_ge (tgt := 22) dX7_form_11 (by decide) (fun hqz => absurd hqz (nI_ge hi2 (by decide))) (fun hz => ?_)
  clear hz
  refine s_frm dX7_form_14 (Or.inr ⟨"CubeBodies", (znin 412 (by decide +kernel) (by decide +kernel))⟩) ?_
  refine s_iload_n dX7_form_17 rfl ?_
  refine s_rald (v := zFRM _) 1 dX7_form_18 rfl (by decide) (zrd (n := 22) hi2 (by decide)) rfl ?_
  refine s_goto (tgt := 24) dX7_form_19 (by decide) ?_
  exact s_iret dX7_form_24 rfl ⟨by rw [nI_clamp (show i < 2 ^ 31 by omega)], rfl⟩ (by first | exact wXlen | rfl)
set_option maxHeartbeats 4000000 in
set_option maxRecDepth 100000 in
theorem x_classes1 {Z : zS} {d : Nat} {b k : Nat} {rs re rb : zRw} {th : zHd} {hi : Int32} {tx : zTx} {sh : zSh} {tp : zTs} {R : zW} {c : Int32} (hc : c < 0 ∨ 9 ≤ c) : zF Z M_X7_classes (d + 1) [.ref 0, .int c] (wX (nI b, nI k, rs, re, rb) th hi tx sh tp ++ R) [.int (-2)] (wX (nI b, nI k, rs, re, rb) th hi tx sh tp ++ R) := by
  unfold zF
  rw [wXlen]
  show zG Z M_X7_classes (d + 1) _ (R.length + 41) 0 [(0, .ref 0), (1, .int c)] [] (wX (nI b, nI k, rs, re, rb) th hi tx sh tp ++ R)
  refine s_iload_n dX7_classes_0 rfl ?_
  refine s_if_lt (tgt := 10) dX7_classes_1 (by decide) (fun h_1 => ?_) (fun h_1 => ?_)
  · refine s_bipush (v := (-2)) dX7_classes_10 rfl ?_
    refine s_goto (tgt := 19) dX7_classes_12 (by decide) ?_
    exact s_iret dX7_classes_19 rfl ⟨rfl, rfl⟩ (by first | exact wXlen | rfl)
  · refine s_iload_n dX7_classes_4 rfl ?_
    refine s_bipush (v := 8) dX7_classes_5 rfl ?_
    refine s_icmp_le (tgt := 15) dX7_classes_7 (by decide) (fun h_7 => ?_) (fun h_7 => ?_)
    · exact absurd h_7 (zle3 (n := 8) (by decide) (hc.resolve_left h_1))
    · refine s_bipush (v := (-2)) dX7_classes_10 rfl ?_
      refine s_goto (tgt := 19) dX7_classes_12 (by decide) ?_
      exact s_iret dX7_classes_19 rfl ⟨rfl, rfl⟩ (by first | exact wXlen | rfl)
set_option maxHeartbeats 4000000 in
set_option maxRecDepth 100000 in
theorem x_classes {Z : zS} {d : Nat} {b k : Nat} {rs re rb : zRw} {th : zHd} {hi : Int32} {tx : zTx} {sh : zSh} {tp : zTs} {R : zW} {c : Nat} (hc : c < 9) : zF Z M_X7_classes (d + 2) [.ref 0, .int (nI c)] (wX (nI b, nI k, rs, re, rb) th hi tx sh tp ++ R) [.int (pCWL (nI c) 22 0 0)] (wX (nI b, nI k, rs, re, rb) th hi tx sh tp ++ R) := by
  unfold zF
  rw [wXlen]
  show zG Z M_X7_classes (d + 2) _ (R.length + 41) 0 [(0, .ref 0), (1, .int (nI c))] [] (wX (nI b, nI k, rs, re, rb) th hi tx sh tp ++ R)
  refine s_iload_n dX7_classes_0 rfl ?_
  refine s_if_lt (tgt := 10) dX7_classes_1 (by decide) (fun hqz => absurd hqz (nI_pos (by omega))) (fun hz => ?_)
  clear hz
  refine s_iload_n dX7_classes_4 rfl ?_
  refine s_bipush (v := 8) dX7_classes_5 rfl ?_
  refine s_icmp_le (tgt := 15) dX7_classes_7 (by decide) (fun hz => ?_) (fun hqz => absurd (nI_le (show c ≤ 8 by omega) (by decide)) hqz)
  clear hz
  refine s_iload_n dX7_classes_15 rfl ?_
  refine s_cs1 dX7_classes_16 g_X7_133 (c_X1_classesWith) rfl rfl (Nat.le_of_ble_eq_true rfl) (Nat.le_of_ble_eq_true rfl) rfl ?_
  exact s_iret dX7_classes_19 rfl ⟨rfl, rfl⟩ (by first | exact wXlen | rfl)
