/-! ===== the model: bodies, what is told ===== -/
theorem mi01 {c : Int32} (h : ¬ c = 0 ∧ ¬ c = 1) : (if c < 0 then (0 : Int32) else if 1 < c then 0 else 1) = 0 := by
  by_cases h1 : c < 0
  · rw [if_pos h1]
  rw [if_neg h1]
  rw [if_pos]
  have h2 := h.1
  have h3 := h.2
  rw [fa_lt] at h1 ⊢
  rw [fa_eq] at h2 h3
  have e0 : (0 : Int32).toInt = 0 := by decide
  have e1 : (1 : Int32).toInt = 1 := by decide
  rw [e0] at h1 h2
  rw [e1] at h3 ⊢
  omega
theorem q_set : ∀ b, b < 256 → ∀ j, j < 8 → ∀ t, t < 2 → nI b &&& ((1 : Int32) <<< (nI j &&& 31) ^^^ (-1)) ||| nI t <<< (nI j &&& 31) = nI (pSET b j t) := by decide +kernel
theorem q_255 : ∀ b, b < 256 → 255 - nI b = nI (b ^^^ 255) := by decide +kernel
theorem q_wi : ∀ n, n < 343 → 49 * (nZ (wa n) + 3) + 7 * (nZ (wb n) + 3) + nZ (wc n) + 3 = nI n := by decide +kernel
set_option maxHeartbeats 4000000 in
set_option maxRecDepth 100000 in
theorem y_corner1 {Z : zS} {d : Nat} {w : zW} {b k : Nat} {mf ma mc ms me mq mu mh mp : Int32} (ho : w[41]? = some (oM (nI b) (nI k) mf ma mc ms me mq mu mh mp)) (hb : b < 256) {c i : Int32} (hc : c < 0 ∨ 8 ≤ c) : zF Z M_X8_corner (d + 2) [.ref 41, .int c, .int i] w [.int (-1)] w := by
  show zG Z M_X8_corner (d + 2) _ _ 0 [(0, .ref 41), (1, .int c), (2, .int i)] [] w
  refine s_iload_n dX8_corner_0 rfl ?_
  refine s_cs1 dX8_corner_1 g_X8_122 (c_X8_isCorner) rfl rfl (Nat.le_of_ble_eq_true rfl) (Nat.le_of_ble_eq_true rfl) rfl ?_
  refine s_if_ne (tgt := 9) dX8_corner_4 (by decide) (fun hqz => absurd (miN (n := 7) (by decide) hc) hqz) (fun hz => ?_)
  clear hz
  refine s_iconst (v := (-1)) dX8_corner_7 rfl ?_
  exact s_iret dX8_corner_8 rfl ⟨rfl, rfl⟩ (by first | rfl | exact List.length_set)
set_option maxHeartbeats 4000000 in
set_option maxRecDepth 100000 in
theorem y_corner2 {Z : zS} {d : Nat} {w : zW} {b k : Nat} {mf ma mc ms me mq mu mh mp : Int32} (ho : w[41]? = some (oM (nI b) (nI k) mf ma mc ms me mq mu mh mp)) (hb : b < 256) {j : Nat} {i : Int32} (hj : j < 8) (hi : ¬ i = 0 ∧ ¬ i = 1) : zF Z M_X8_corner (d + 2) [.ref 41, .int (nI j), .int i] w [.int (-2)] w := by
  show zG Z M_X8_corner (d + 2) _ _ 0 [(0, .ref 41), (1, .int (nI j)), (2, .int i)] [] w
  refine s_iload_n dX8_corner_0 rfl ?_
  refine s_cs1 dX8_corner_1 g_X8_122 (c_X8_isCorner) rfl rfl (Nat.le_of_ble_eq_true rfl) (Nat.le_of_ble_eq_true rfl) rfl ?_
  refine s_if_ne (tgt := 9) dX8_corner_4 (by decide) (fun hz => ?_) (fun hqz => absurd hqz (miY (n := 7) (by omega) (by decide)))
  clear hz
  refine s_iload_n dX8_corner_9 rfl ?_
  refine s_iconst (v := 0) dX8_corner_10 rfl ?_
  refine s_iconst (v := 1) dX8_corner_11 rfl ?_
  refine s_cs1 dX8_corner_12 g_X8_5 (c_X8_isIn) rfl rfl (Nat.le_of_ble_eq_true rfl) (Nat.le_of_ble_eq_true rfl) rfl ?_
  refine s_if_ne (tgt := 21) dX8_corner_15 (by decide) (fun hqz => absurd (mi01 hi) hqz) (fun hz => ?_)
  clear hz
  refine s_bipush (v := (-2)) dX8_corner_18 rfl ?_
  exact s_iret dX8_corner_20 rfl ⟨rfl, rfl⟩ (by first | rfl | exact List.length_set)
set_option maxHeartbeats 4000000 in
set_option maxRecDepth 100000 in
theorem y_corner {Z : zS} {d : Nat} {w : zW} {b k : Nat} {mf ma mc ms me mq mu mh mp : Int32} (ho : w[41]? = some (oM (nI b) (nI k) mf ma mc ms me mq mu mh mp)) (hb : b < 256) {j t : Nat} (hj : j < 8) (ht : t < 2) : zF Z M_X8_corner (d + 2) [.ref 41, .int (nI j), .int (nI t)] w [.int (nI (zb b j))] (w.set 41 (oM (nI (pSET b j t)) (nI k) mf ma mc ms me mq mu mh mp)) := by
  show zG Z M_X8_corner (d + 2) _ _ 0 [(0, .ref 41), (1, .int (nI j)), (2, .int (nI t))] [] w
  refine s_iload_n dX8_corner_0 rfl ?_
  refine s_cs1 dX8_corner_1 g_X8_122 (c_X8_isCorner) rfl rfl (Nat.le_of_ble_eq_true rfl) (Nat.le_of_ble_eq_true rfl) rfl ?_
  refine s_if_ne (tgt := 9) dX8_corner_4 (by decide) (fun hz => ?_) (fun hqz => absurd hqz (miY (n := 7) (by omega) (by decide)))
  clear hz
  refine s_iload_n dX8_corner_9 rfl ?_
  refine s_iconst (v := 0) dX8_corner_10 rfl ?_
  refine s_iconst (v := 1) dX8_corner_11 rfl ?_
  refine s_cs1 dX8_corner_12 g_X8_5 (c_X8_isIn) rfl rfl (Nat.le_of_ble_eq_true rfl) (Nat.le_of_ble_eq_true rfl) rfl ?_
  refine s_if_ne (tgt := 21) dX8_corner_15 (by decide) (fun hz => ?_) (fun hqz => absurd hqz (miY (n := 1) (by omega) (by decide)))
  clear hz
  refine s_aload_n dX8_corner_21 rfl ?_
  refine s_get dX8_corner_22 f_X8_125 (by first | assumption | exact zgs (zlt ho) | exact zg1 (by assumption) (by decide)) (by rfl) ?_
  refine s_iload_n dX8_corner_25 rfl ?_
  refine s_ishr dX8_corner_26 ?_
  refine s_iconst (v := 1) dX8_corner_27 rfl ?_
  refine s_iand dX8_corner_28 ?_
  rw [zbit (by omega) (by omega)]
  refine s_istore_n dX8_corner_29 (Nat.le_of_ble_eq_true rfl) rfl ?_
  refine s_aload_n dX8_corner_30 rfl ?_
  refine s_aload_n dX8_corner_31 rfl ?_
  refine s_get dX8_corner_32 f_X8_125 (by first | assumption | exact zgs (zlt ho) | exact zg1 (by assumption) (by decide)) (by rfl) ?_
  refine s_iconst (v := 1) dX8_corner_35 rfl ?_
  refine s_iload_n dX8_corner_36 rfl ?_
  refine s_ishl dX8_corner_37 ?_
  refine s_iconst (v := (-1)) dX8_corner_38 rfl ?_
  refine s_ixor dX8_corner_39 ?_
  refine s_iand dX8_corner_40 ?_
  refine s_iload_n dX8_corner_41 rfl ?_
  refine s_iload_n dX8_corner_42 rfl ?_
  refine s_ishl dX8_corner_43 ?_
  refine s_ior dX8_corner_44 ?_
  rw [q_set b hb j hj t ht]
  refine s_put dX8_corner_45 f_X8_125 (by first | assumption | exact zgs (zlt ho) | exact zg1 (by assumption) (by decide)) (fun _ => ⟨rfl, rfl⟩) (Nat.le_of_ble_eq_true rfl) ?_
  refine s_iload_n dX8_corner_48 rfl ?_
  exact s_iret dX8_corner_49 rfl ⟨rfl, rfl⟩ (by first | rfl | exact List.length_set)
set_option maxHeartbeats 4000000 in
set_option maxRecDepth 100000 in
theorem y_code1 {Z : zS} {d : Nat} {w : zW} {b k : Nat} {mf ma mc ms me mq mu mh mp : Int32} (ho : w[41]? = some (oM (nI b) (nI k) mf ma mc ms me mq mu mh mp)) (hb : b < 256) {c : Int32} (hc : c < 0 ∨ 256 ≤ c) : zF Z M_X8_code (d + 1) [.ref 41, .int c] w [.int (-2)] w := by
  show zG Z M_X8_code (d + 1) _ _ 0 [(0, .ref 41), (1, .int c)] [] w
  refine s_iload_n dX8_code_0 rfl ?_
  refine s_iconst (v := 0) dX8_code_1 rfl ?_
  refine s_sipush (v := 255) dX8_code_2 rfl ?_
  refine s_cs1 dX8_code_5 g_X8_5 (c_X8_isIn) rfl rfl (Nat.le_of_ble_eq_true rfl) (Nat.le_of_ble_eq_true rfl) rfl ?_
  refine s_if_ne (tgt := 14) dX8_code_8 (by decide) (fun hqz => absurd (miN (n := 255) (by decide) hc) hqz) (fun hz => ?_)
  clear hz
  refine s_bipush (v := (-2)) dX8_code_11 rfl ?_
  exact s_iret dX8_code_13 rfl ⟨rfl, rfl⟩ (by first | rfl | exact List.length_set)
set_option maxHeartbeats 4000000 in
set_option maxRecDepth 100000 in
theorem y_code {Z : zS} {d : Nat} {w : zW} {b k : Nat} {mf ma mc ms me mq mu mh mp : Int32} (ho : w[41]? = some (oM (nI b) (nI k) mf ma mc ms me mq mu mh mp)) (hb : b < 256) {c : Nat} (hc : c < 256) : zF Z M_X8_code (d + 1) [.ref 41, .int (nI c)] w [.int (nI b)] (w.set 41 (oM (nI c) (nI k) mf ma mc ms me mq mu mh mp)) := by
  show zG Z M_X8_code (d + 1) _ _ 0 [(0, .ref 41), (1, .int (nI c))] [] w
  refine s_iload_n dX8_code_0 rfl ?_
  refine s_iconst (v := 0) dX8_code_1 rfl ?_
  refine s_sipush (v := 255) dX8_code_2 rfl ?_
  refine s_cs1 dX8_code_5 g_X8_5 (c_X8_isIn) rfl rfl (Nat.le_of_ble_eq_true rfl) (Nat.le_of_ble_eq_true rfl) rfl ?_
  refine s_if_ne (tgt := 14) dX8_code_8 (by decide) (fun hz => ?_) (fun hqz => absurd hqz (miY (n := 255) (by omega) (by decide)))
  clear hz
  refine s_aload_n dX8_code_14 rfl ?_
  refine s_get dX8_code_15 f_X8_125 (by first | assumption | exact zgs (zlt ho) | exact zg1 (by assumption) (by decide)) (by rfl) ?_
  refine s_istore_n dX8_code_18 (Nat.le_of_ble_eq_true rfl) rfl ?_
  refine s_aload_n dX8_code_19 rfl ?_
  refine s_iload_n dX8_code_20 rfl ?_
  refine s_put dX8_code_21 f_X8_125 (by first | assumption | exact zgs (zlt ho) | exact zg1 (by assumption) (by decide)) (fun _ => ⟨rfl, rfl⟩) (Nat.le_of_ble_eq_true rfl) ?_
  refine s_iload_n dX8_code_24 rfl ?_
  exact s_iret dX8_code_25 rfl ⟨rfl, rfl⟩ (by first | rfl | exact List.length_set)
set_option maxHeartbeats 4000000 in
set_option maxRecDepth 100000 in
theorem y_move1 {Z : zS} {d : Nat} {w : zW} {b k : Nat} {mf ma mc ms me mq mu mh mp : Int32} (ho : w[41]? = some (oM (nI b) (nI k) mf ma mc ms me mq mu mh mp)) (hb : b < 256) {c : Int32} (hc : c < 0 ∨ 48 ≤ c) : zF Z M_X8_move (d + 2) [.ref 41, .int c] w [.int (-1)] w := by
  show zG Z M_X8_move (d + 2) _ _ 0 [(0, .ref 41), (1, .int c)] [] w
  refine s_iload_n dX8_move_0 rfl ?_
  refine s_cs1 dX8_move_1 g_X8_129 (c_X8_isMove) rfl rfl (Nat.le_of_ble_eq_true rfl) (Nat.le_of_ble_eq_true rfl) rfl ?_
  refine s_if_ne (tgt := 9) dX8_move_4 (by decide) (fun hqz => absurd (miN (n := 47) (by decide) hc) hqz) (fun hz => ?_)
  clear hz
  refine s_iconst (v := (-1)) dX8_move_7 rfl ?_
  exact s_iret dX8_move_8 rfl ⟨rfl, rfl⟩ (by first | rfl | exact List.length_set)
set_option maxHeartbeats 4000000 in
set_option maxRecDepth 100000 in
theorem y_move {Z : zS} {d : Nat} {w : zW} {b k : Nat} {mf ma mc ms me mq mu mh mp : Int32} (ho : w[41]? = some (oM (nI b) (nI k) mf ma mc ms me mq mu mh mp)) (hb : b < 256) {cm : Nat → Int32} (hcm : w[42]? = some (aI 384 cm)) (hC : CMok cm) {m : Nat} (hm : m < 48) : zF Z M_X8_move (d + 2) [.ref 41, .int (nI m)] w [.int (nI (pIMG m b))] (w.set 41 (oM (nI (pIMG m b)) (nI k) mf ma mc ms me mq mu mh mp)) := by
  show zG Z M_X8_move (d + 2) _ _ 0 [(0, .ref 41), (1, .int (nI m))] [] w
  refine s_iload_n dX8_move_0 rfl ?_
  refine s_cs1 dX8_move_1 g_X8_129 (c_X8_isMove) rfl rfl (Nat.le_of_ble_eq_true rfl) (Nat.le_of_ble_eq_true rfl) rfl ?_
  refine s_if_ne (tgt := 9) dX8_move_4 (by decide) (fun hz => ?_) (fun hqz => absurd hqz (miY (n := 47) (by omega) (by decide)))
  clear hz
  refine s_aload_n dX8_move_9 rfl ?_
  refine s_aload_n dX8_move_10 rfl ?_
  refine s_aload_n dX8_move_11 rfl ?_
  refine s_get dX8_move_12 f_X8_125 (by first | assumption | exact zgs (zlt ho) | exact zg1 (by assumption) (by decide)) (by rfl) ?_
  refine s_iload_n dX8_move_15 rfl ?_
  refine s_cv1 dX8_move_16 g_X8_81 (c_X8_imageOf ho hcm hC (hm) (hb)) (by first | assumption | exact zgs (zlt ho) | exact zg1 (by assumption) (by decide)) rfl rfl rfl rfl (Nat.le_of_ble_eq_true rfl) (Nat.le_of_ble_eq_true rfl) rfl ?_
  refine s_put dX8_move_19 f_X8_125 (by first | assumption | exact zgs (zlt ho) | exact zg1 (by assumption) (by decide)) (fun _ => ⟨rfl, rfl⟩) (Nat.le_of_ble_eq_true rfl) ?_
  refine s_aload_n dX8_move_22 rfl ?_
  refine s_get dX8_move_23 f_X8_125 (by first | assumption | exact zgs (zlt ho) | exact zg1 (by assumption) (by decide)) (by rfl) ?_
  exact s_iret dX8_move_26 rfl ⟨rfl, rfl⟩ (by first | rfl | exact List.length_set)
set_option maxHeartbeats 4000000 in
set_option maxRecDepth 100000 in
theorem y_becomes1 {Z : zS} {d : Nat} {w : zW} {b k : Nat} {mf ma mc ms me mq mu mh mp : Int32} (ho : w[41]? = some (oM (nI b) (nI k) mf ma mc ms me mq mu mh mp)) (hb : b < 256) {c : Int32} (hc : c < 0 ∨ 4 ≤ c) : zF Z M_X8_becomes (d + 1) [.ref 41, .int c] w [.int (-1)] w := by
  show zG Z M_X8_becomes (d + 1) _ _ 0 [(0, .ref 41), (1, .int c)] [] w
  refine s_iload_n dX8_becomes_0 rfl ?_
  refine s_iconst (v := 0) dX8_becomes_1 rfl ?_
  refine s_iconst (v := 3) dX8_becomes_2 rfl ?_
  refine s_cs1 dX8_becomes_3 g_X8_5 (c_X8_isIn) rfl rfl (Nat.le_of_ble_eq_true rfl) (Nat.le_of_ble_eq_true rfl) rfl ?_
  refine s_if_ne (tgt := 11) dX8_becomes_6 (by decide) (fun hqz => absurd (miN (n := 3) (by decide) hc) hqz) (fun hz => ?_)
  clear hz
  refine s_iconst (v := (-1)) dX8_becomes_9 rfl ?_
  exact s_iret dX8_becomes_10 rfl ⟨rfl, rfl⟩ (by first | rfl | exact List.length_set)
set_option maxHeartbeats 4000000 in
set_option maxRecDepth 100000 in
theorem y_bec0 {Z : zS} {d : Nat} {w : zW} {b k : Nat} {mf ma mc ms me mq mu mh mp : Int32} (ho : w[41]? = some (oM (nI b) (nI k) mf ma mc ms me mq mu mh mp)) (hb : b < 256) {fo : Nat → Int32} (hfo : w[43]? = some (aI 256 fo)) (hF : FOok fo) : zF Z M_X8_becomes (d + 1) [.ref 41, .int (nI 0)] w [.int (nI (pCHG 0 b k))] (w.set 41 (oM (nI (pCHG 0 b k)) (nI k) mf ma mc ms me mq mu mh mp)) := by
  show zG Z M_X8_becomes (d + 1) _ _ 0 [(0, .ref 41), (1, .int (nI 0))] [] w
  refine s_iload_n dX8_becomes_0 rfl ?_
  refine s_iconst (v := 0) dX8_becomes_1 rfl ?_
  refine s_iconst (v := 3) dX8_becomes_2 rfl ?_
  refine s_cs1 dX8_becomes_3 g_X8_5 (c_X8_isIn) rfl rfl (Nat.le_of_ble_eq_true rfl) (Nat.le_of_ble_eq_true rfl) rfl ?_
  refine s_if_ne (tgt := 11) dX8_becomes_6 (by decide) (fun hz => ?_) (fun hqz => absurd hqz (by decide))
  clear hz
  refine s_aload_n dX8_becomes_11 rfl ?_
  refine s_iload_n dX8_becomes_12 rfl ?_
  refine s_if_ne (tgt := 28) dX8_becomes_13 (by decide) (fun hqz => absurd rfl hqz) (fun hz => ?_)
  clear hz
  refine s_aload_n dX8_becomes_16 rfl ?_
  refine s_get dX8_becomes_17 f_X8_19 (by first | assumption | exact zgs (zlt ho) | exact zg1 (by assumption) (by decide)) (by rfl) ?_
  refine s_aload_n dX8_becomes_20 rfl ?_
  refine s_get dX8_becomes_21 f_X8_125 (by first | assumption | exact zgs (zlt ho) | exact zg1 (by assumption) (by decide)) (by rfl) ?_
  refine s_iald dX8_becomes_24 (by first | assumption | exact zgs (zlt ho) | exact zg1 (by assumption) (by decide)) (zrd (n := 256) hb (by decide)) ?_
  refine s_goto (tgt := 70) dX8_becomes_25 (by decide) ?_
  rw [nI_clamp (by omega), hF b hb, ← pCHG0 b k]
  refine s_put dX8_becomes_70 f_X8_125 (by first | assumption | exact zgs (zlt ho) | exact zg1 (by assumption) (by decide)) (fun _ => ⟨rfl, rfl⟩) (Nat.le_of_ble_eq_true rfl) ?_
  refine s_aload_n dX8_becomes_73 rfl ?_
  refine s_get dX8_becomes_74 f_X8_125 (by first | assumption | exact zgs (zlt ho) | exact zg1 (by assumption) (by decide)) (by rfl) ?_
  exact s_iret dX8_becomes_77 rfl ⟨rfl, rfl⟩ (by first | rfl | exact List.length_set)
set_option maxHeartbeats 4000000 in
set_option maxRecDepth 100000 in
theorem y_bec1 {Z : zS} {d : Nat} {w : zW} {b k : Nat} {mf ma mc ms me mq mu mh mp : Int32} (ho : w[41]? = some (oM (nI b) (nI k) mf ma mc ms me mq mu mh mp)) (hb : b < 256) {fo : Nat → Int32} (hfo : w[43]? = some (aI 256 fo)) (hF : FOok fo) : zF Z M_X8_becomes (d + 1) [.ref 41, .int (nI 1)] w [.int (nI (pCHG 1 b k))] (w.set 41 (oM (nI (pCHG 1 b k)) (nI k) mf ma mc ms me mq mu mh mp)) := by
  show zG Z M_X8_becomes (d + 1) _ _ 0 [(0, .ref 41), (1, .int (nI 1))] [] w
  refine s_iload_n dX8_becomes_0 rfl ?_
  refine s_iconst (v := 0) dX8_becomes_1 rfl ?_
  refine s_iconst (v := 3) dX8_becomes_2 rfl ?_
  refine s_cs1 dX8_becomes_3 g_X8_5 (c_X8_isIn) rfl rfl (Nat.le_of_ble_eq_true rfl) (Nat.le_of_ble_eq_true rfl) rfl ?_
  refine s_if_ne (tgt := 11) dX8_becomes_6 (by decide) (fun hz => ?_) (fun hqz => absurd hqz (by decide))
  clear hz
  refine s_aload_n dX8_becomes_11 rfl ?_
  refine s_iload_n dX8_becomes_12 rfl ?_
  refine s_if_ne (tgt := 28) dX8_becomes_13 (by decide) (fun hz => ?_) (fun hqz => absurd hqz (by decide))
  clear hz
  refine s_iload_n dX8_becomes_28 rfl ?_
  refine s_iconst (v := 1) dX8_becomes_29 rfl ?_
  refine s_icmp_ne (tgt := 44) dX8_becomes_30 (by decide) (fun hqz => absurd rfl hqz) (fun hz => ?_)
  clear hz
  refine s_sipush (v := 255) dX8_becomes_33 rfl ?_
  refine s_aload_n dX8_becomes_36 rfl ?_
  refine s_get dX8_becomes_37 f_X8_125 (by first | assumption | exact zgs (zlt ho) | exact zg1 (by assumption) (by decide)) (by rfl) ?_
  refine s_isub dX8_becomes_40 ?_
  refine s_goto (tgt := 70) dX8_becomes_41 (by decide) ?_
  rw [q_255 b hb, ← pCHG1 b k]
  refine s_put dX8_becomes_70 f_X8_125 (by first | assumption | exact zgs (zlt ho) | exact zg1 (by assumption) (by decide)) (fun _ => ⟨rfl, rfl⟩) (Nat.le_of_ble_eq_true rfl) ?_
  refine s_aload_n dX8_becomes_73 rfl ?_
  refine s_get dX8_becomes_74 f_X8_125 (by first | assumption | exact zgs (zlt ho) | exact zg1 (by assumption) (by decide)) (by rfl) ?_
  exact s_iret dX8_becomes_77 rfl ⟨rfl, rfl⟩ (by first | rfl | exact List.length_set)
set_option maxHeartbeats 4000000 in
set_option maxRecDepth 100000 in
theorem y_bec2 {Z : zS} {d : Nat} {w : zW} {b k : Nat} {mf ma mc ms me mq mu mh mp : Int32} (ho : w[41]? = some (oM (nI b) (nI k) mf ma mc ms me mq mu mh mp)) (hb : b < 256) {fo : Nat → Int32} (hfo : w[43]? = some (aI 256 fo)) (hF : FOok fo) : zF Z M_X8_becomes (d + 1) [.ref 41, .int (nI 2)] w [.int (nI (pCHG 2 b k))] (w.set 41 (oM (nI (pCHG 2 b k)) (nI k) mf ma mc ms me mq mu mh mp)) := by
  show zG Z M_X8_becomes (d + 1) _ _ 0 [(0, .ref 41), (1, .int (nI 2))] [] w
  refine s_iload_n dX8_becomes_0 rfl ?_
  refine s_iconst (v := 0) dX8_becomes_1 rfl ?_
  refine s_iconst (v := 3) dX8_becomes_2 rfl ?_
  refine s_cs1 dX8_becomes_3 g_X8_5 (c_X8_isIn) rfl rfl (Nat.le_of_ble_eq_true rfl) (Nat.le_of_ble_eq_true rfl) rfl ?_
  refine s_if_ne (tgt := 11) dX8_becomes_6 (by decide) (fun hz => ?_) (fun hqz => absurd hqz (by decide))
  clear hz
  refine s_aload_n dX8_becomes_11 rfl ?_
  refine s_iload_n dX8_becomes_12 rfl ?_
  refine s_if_ne (tgt := 28) dX8_becomes_13 (by decide) (fun hz => ?_) (fun hqz => absurd hqz (by decide))
  clear hz
  refine s_iload_n dX8_becomes_28 rfl ?_
  refine s_iconst (v := 1) dX8_becomes_29 rfl ?_
  refine s_icmp_ne (tgt := 44) dX8_becomes_30 (by decide) (fun hz => ?_) (fun hqz => absurd hqz (by decide))
  clear hz
  refine s_iload_n dX8_becomes_44 rfl ?_
  refine s_iconst (v := 2) dX8_becomes_45 rfl ?_
  refine s_icmp_ne (tgt := 61) dX8_becomes_46 (by decide) (fun hqz => absurd rfl hqz) (fun hz => ?_)
  clear hz
  refine s_aload_n dX8_becomes_49 rfl ?_
  refine s_get dX8_becomes_50 f_X8_125 (by first | assumption | exact zgs (zlt ho) | exact zg1 (by assumption) (by decide)) (by rfl) ?_
  refine s_aload_n dX8_becomes_53 rfl ?_
  refine s_get dX8_becomes_54 f_X8_132 (by first | assumption | exact zgs (zlt ho) | exact zg1 (by assumption) (by decide)) (by rfl) ?_
  refine s_ior dX8_becomes_57 ?_
  refine s_goto (tgt := 70) dX8_becomes_58 (by decide) ?_
  rw [fa_or, ← pCHG2]
  refine s_put dX8_becomes_70 f_X8_125 (by first | assumption | exact zgs (zlt ho) | exact zg1 (by assumption) (by decide)) (fun _ => ⟨rfl, rfl⟩) (Nat.le_of_ble_eq_true rfl) ?_
  refine s_aload_n dX8_becomes_73 rfl ?_
  refine s_get dX8_becomes_74 f_X8_125 (by first | assumption | exact zgs (zlt ho) | exact zg1 (by assumption) (by decide)) (by rfl) ?_
  exact s_iret dX8_becomes_77 rfl ⟨rfl, rfl⟩ (by first | rfl | exact List.length_set)
set_option maxHeartbeats 4000000 in
set_option maxRecDepth 100000 in
theorem y_bec3 {Z : zS} {d : Nat} {w : zW} {b k : Nat} {mf ma mc ms me mq mu mh mp : Int32} (ho : w[41]? = some (oM (nI b) (nI k) mf ma mc ms me mq mu mh mp)) (hb : b < 256) {fo : Nat → Int32} (hfo : w[43]? = some (aI 256 fo)) (hF : FOok fo) : zF Z M_X8_becomes (d + 1) [.ref 41, .int (nI 3)] w [.int (nI (pCHG 3 b k))] (w.set 41 (oM (nI (pCHG 3 b k)) (nI k) mf ma mc ms me mq mu mh mp)) := by
  show zG Z M_X8_becomes (d + 1) _ _ 0 [(0, .ref 41), (1, .int (nI 3))] [] w
  refine s_iload_n dX8_becomes_0 rfl ?_
  refine s_iconst (v := 0) dX8_becomes_1 rfl ?_
  refine s_iconst (v := 3) dX8_becomes_2 rfl ?_
  refine s_cs1 dX8_becomes_3 g_X8_5 (c_X8_isIn) rfl rfl (Nat.le_of_ble_eq_true rfl) (Nat.le_of_ble_eq_true rfl) rfl ?_
  refine s_if_ne (tgt := 11) dX8_becomes_6 (by decide) (fun hz => ?_) (fun hqz => absurd hqz (by decide))
  clear hz
  refine s_aload_n dX8_becomes_11 rfl ?_
  refine s_iload_n dX8_becomes_12 rfl ?_
  refine s_if_ne (tgt := 28) dX8_becomes_13 (by decide) (fun hz => ?_) (fun hqz => absurd hqz (by decide))
  clear hz
  refine s_iload_n dX8_becomes_28 rfl ?_
  refine s_iconst (v := 1) dX8_becomes_29 rfl ?_
  refine s_icmp_ne (tgt := 44) dX8_becomes_30 (by decide) (fun hz => ?_) (fun hqz => absurd hqz (by decide))
  clear hz
  refine s_iload_n dX8_becomes_44 rfl ?_
  refine s_iconst (v := 2) dX8_becomes_45 rfl ?_
  refine s_icmp_ne (tgt := 61) dX8_becomes_46 (by decide) (fun hz => ?_) (fun hqz => absurd hqz (by decide))
  clear hz
  refine s_aload_n dX8_becomes_61 rfl ?_
  refine s_get dX8_becomes_62 f_X8_125 (by first | assumption | exact zgs (zlt ho) | exact zg1 (by assumption) (by decide)) (by rfl) ?_
  refine s_aload_n dX8_becomes_65 rfl ?_
  refine s_get dX8_becomes_66 f_X8_132 (by first | assumption | exact zgs (zlt ho) | exact zg1 (by assumption) (by decide)) (by rfl) ?_
  refine s_iand dX8_becomes_69 ?_
  rw [fa_and, ← pCHG3]
  refine s_put dX8_becomes_70 f_X8_125 (by first | assumption | exact zgs (zlt ho) | exact zg1 (by assumption) (by decide)) (fun _ => ⟨rfl, rfl⟩) (Nat.le_of_ble_eq_true rfl) ?_
  refine s_aload_n dX8_becomes_73 rfl ?_
  refine s_get dX8_becomes_74 f_X8_125 (by first | assumption | exact zgs (zlt ho) | exact zg1 (by assumption) (by decide)) (by rfl) ?_
  exact s_iret dX8_becomes_77 rfl ⟨rfl, rfl⟩ (by first | rfl | exact List.length_set)
theorem y_becomes {Z : zS} {d : Nat} {w : zW} {b k : Nat} {mf ma mc ms me mq mu mh mp : Int32} (ho : w[41]? = some (oM (nI b) (nI k) mf ma mc ms me mq mu mh mp)) (hb : b < 256) {fo : Nat → Int32} (hfo : w[43]? = some (aI 256 fo)) (hF : FOok fo) {h : Nat} (hh : h < 4) : zF Z M_X8_becomes (d + 1) [.ref 41, .int (nI h)] w [.int (nI (pCHG h b k))] (w.set 41 (oM (nI (pCHG h b k)) (nI k) mf ma mc ms me mq mu mh mp)) := by
  rcases (show h = 0 ∨ h = 1 ∨ h = 2 ∨ h = 3 by omega) with rfl | rfl | rfl | rfl
  · exact y_bec0 ho hb hfo hF
  · exact y_bec1 ho hb hfo hF
  · exact y_bec2 ho hb hfo hF
  · exact y_bec3 ho hb hfo hF
set_option maxHeartbeats 4000000 in
set_option maxRecDepth 100000 in
theorem y_keep {Z : zS} {d : Nat} {w : zW} {b k : Nat} {mf ma mc ms me mq mu mh mp : Int32} (ho : w[41]? = some (oM (nI b) (nI k) mf ma mc ms me mq mu mh mp)) (hb : b < 256)  : zF Z M_X8_keep (d) [.ref 41] w [.int (nI b)] (w.set 41 (oM (nI b) (nI b) mf ma mc ms me mq mu mh mp)) := by
  show zG Z M_X8_keep (d) _ _ 0 [(0, .ref 41)] [] w
  refine s_aload_n dX8_keep_0 rfl ?_
  refine s_aload_n dX8_keep_1 rfl ?_
  refine s_get dX8_keep_2 f_X8_125 (by first | assumption | exact zgs (zlt ho) | exact zg1 (by assumption) (by decide)) (by rfl) ?_
  refine s_put dX8_keep_5 f_X8_132 (by first | assumption | exact zgs (zlt ho) | exact zg1 (by assumption) (by decide)) (fun _ => ⟨rfl, rfl⟩) (Nat.le_of_ble_eq_true rfl) ?_
  refine s_aload_n dX8_keep_8 rfl ?_
  refine s_get dX8_keep_9 f_X8_132 (by first | assumption | exact zgs (zlt ho) | exact zg1 (by assumption) (by decide)) (by rfl) ?_
  exact s_iret dX8_keep_12 rfl ⟨rfl, rfl⟩ (by first | rfl | exact List.length_set)
set_option maxHeartbeats 4000000 in
set_option maxRecDepth 100000 in
theorem c_X8_set {Z : zS} {d : Nat} {w : zW} {b k : Nat} {mf ma mc ms me mq mu mh mp : Int32} (ho : w[41]? = some (oM (nI b) (nI k) mf ma mc ms me mq mu mh mp)) (hb : b < 256) {c : Nat} : zF Z M_X8_set (d) [.ref 41, .int (nI c)] w [.int (nI c)] (w.set 41 (oM (nI c) (nI k) mf ma mc ms me mq mu mh mp)) := by
  show zG Z M_X8_set (d) _ _ 0 [(0, .ref 41), (1, .int (nI c))] [] w
  refine s_aload_n dX8_set_0 rfl ?_
  refine s_iload_n dX8_set_1 rfl ?_
  refine s_put dX8_set_2 f_X8_125 (by first | assumption | exact zgs (zlt ho) | exact zg1 (by assumption) (by decide)) (fun _ => ⟨rfl, rfl⟩) (Nat.le_of_ble_eq_true rfl) ?_
  refine s_aload_n dX8_set_5 rfl ?_
  refine s_get dX8_set_6 f_X8_125 (by first | assumption | exact zgs (zlt ho) | exact zg1 (by assumption) (by decide)) (by rfl) ?_
  exact s_iret dX8_set_9 rfl ⟨rfl, rfl⟩ (by first | rfl | exact List.length_set)
set_option maxHeartbeats 4000000 in
set_option maxRecDepth 100000 in
theorem y_told0 {Z : zS} {d : Nat} {w : zW} {b k : Nat} {mf ma mc ms me mq mu mh mp : Int32} (ho : w[41]? = some (oM (nI b) (nI k) mf ma mc ms me mq mu mh mp)) (hb : b < 256)  : zF Z M_X8_told (d) [.ref 41, .int (nI 0)] w [.int (nI b)] w := by
  show zG Z M_X8_told (d) _ _ 0 [(0, .ref 41), (1, .int (nI 0))] [] w
  refine s_iload_n dX8_told_0 rfl ?_
  refine s_tableIn (off := 67) (tgt := 68) dX8_told_1 (by decide) (by decide) (by rfl) (by decide) ?_
  refine s_aload_n dX8_told_68 rfl ?_
  refine s_get dX8_told_69 f_X8_125 (by first | assumption | exact zgs (zlt ho) | exact zg1 (by assumption) (by decide)) (by rfl) ?_
  exact s_iret dX8_told_72 rfl ⟨rfl, rfl⟩ (by first | rfl | exact List.length_set)
set_option maxHeartbeats 4000000 in
set_option maxRecDepth 100000 in
theorem y_told1 {Z : zS} {d : Nat} {w : zW} {b k : Nat} {mf ma mc ms me mq mu mh mp : Int32} (ho : w[41]? = some (oM (nI b) (nI k) mf ma mc ms me mq mu mh mp)) (hb : b < 256)  : zF Z M_X8_told (d) [.ref 41, .int (nI 1)] w [.int (nI k)] w := by
  show zG Z M_X8_told (d) _ _ 0 [(0, .ref 41), (1, .int (nI 1))] [] w
  refine s_iload_n dX8_told_0 rfl ?_
  refine s_tableIn (off := 72) (tgt := 73) dX8_told_1 (by decide) (by decide) (by rfl) (by decide) ?_
  refine s_aload_n dX8_told_73 rfl ?_
  refine s_get dX8_told_74 f_X8_132 (by first | assumption | exact zgs (zlt ho) | exact zg1 (by assumption) (by decide)) (by rfl) ?_
  exact s_iret dX8_told_77 rfl ⟨rfl, rfl⟩ (by first | rfl | exact List.length_set)
set_option maxHeartbeats 4000000 in
set_option maxRecDepth 100000 in
theorem y_told2 {Z : zS} {d : Nat} {w : zW} {b k : Nat} {mf ma mc ms me mq mu mh mp : Int32} (ho : w[41]? = some (oM (nI b) (nI k) mf ma mc ms me mq mu mh mp)) (hb : b < 256)  : zF Z M_X8_told (d + 1) [.ref 41, .int (nI 2)] w [.int (nI (pPOP b))] w := by
  show zG Z M_X8_told (d + 1) _ _ 0 [(0, .ref 41), (1, .int (nI 2))] [] w
  refine s_iload_n dX8_told_0 rfl ?_
  refine s_tableIn (off := 77) (tgt := 78) dX8_told_1 (by decide) (by decide) (by rfl) (by decide) ?_
  refine s_aload_n dX8_told_78 rfl ?_
  refine s_get dX8_told_79 f_X8_125 (by first | assumption | exact zgs (zlt ho) | exact zg1 (by assumption) (by decide)) (by rfl) ?_
  refine s_cs1 dX8_told_82 g_X8_105 (c_X8_bits hb) rfl rfl (Nat.le_of_ble_eq_true rfl) (Nat.le_of_ble_eq_true rfl) rfl ?_
  exact s_iret dX8_told_85 rfl ⟨rfl, rfl⟩ (by first | rfl | exact List.length_set)
set_option maxHeartbeats 4000000 in
set_option maxRecDepth 100000 in
theorem y_told3 {Z : zS} {d : Nat} {w : zW} {b k : Nat} {mf ma mc ms me mq mu mh mp : Int32} (ho : w[41]? = some (oM (nI b) (nI k) mf ma mc ms me mq mu mh mp)) (hb : b < 256) {fo : Nat → Int32} (hfo : w[43]? = some (aI 256 fo)) (hF : FOok fo) : zF Z M_X8_told (d) [.ref 41, .int (nI 3)] w [.int (nI (pFOR b))] w := by
  show zG Z M_X8_told (d) _ _ 0 [(0, .ref 41), (1, .int (nI 3))] [] w
  refine s_iload_n dX8_told_0 rfl ?_
  refine s_tableIn (off := 85) (tgt := 86) dX8_told_1 (by decide) (by decide) (by rfl) (by decide) ?_
  refine s_aload_n dX8_told_86 rfl ?_
  refine s_get dX8_told_87 f_X8_19 (by first | assumption | exact zgs (zlt ho) | exact zg1 (by assumption) (by decide)) (by rfl) ?_
  refine s_aload_n dX8_told_90 rfl ?_
  refine s_get dX8_told_91 f_X8_125 (by first | assumption | exact zgs (zlt ho) | exact zg1 (by assumption) (by decide)) (by rfl) ?_
  refine s_iald dX8_told_94 (by first | assumption | exact zgs (zlt ho) | exact zg1 (by assumption) (by decide)) (zrd (n := 256) hb (by decide)) ?_
  rw [nI_clamp (by omega), hF b hb]
  exact s_iret dX8_told_95 rfl ⟨rfl, rfl⟩ (by first | rfl | exact List.length_set)
set_option maxHeartbeats 4000000 in
set_option maxRecDepth 100000 in
theorem y_told4 {Z : zS} {d : Nat} {w : zW} {b k : Nat} {mf ma mc ms me mq mu mh mp : Int32} (ho : w[41]? = some (oM (nI b) (nI k) mf ma mc ms me mq mu mh mp)) (hb : b < 256) {nu : Nat → Int32} (hnu : w[44]? = some (aI 256 nu)) (hN : NUok nu) : zF Z M_X8_told (d) [.ref 41, .int (nI 4)] w [.int (nI (pNUM b))] w := by
  show zG Z M_X8_told (d) _ _ 0 [(0, .ref 41), (1, .int (nI 4))] [] w
  refine s_iload_n dX8_told_0 rfl ?_
  refine s_tableIn (off := 95) (tgt := 96) dX8_told_1 (by decide) (by decide) (by rfl) (by decide) ?_
  refine s_aload_n dX8_told_96 rfl ?_
  refine s_get dX8_told_97 f_X8_22 (by first | assumption | exact zgs (zlt ho) | exact zg1 (by assumption) (by decide)) (by rfl) ?_
  refine s_aload_n dX8_told_100 rfl ?_
  refine s_get dX8_told_101 f_X8_125 (by first | assumption | exact zgs (zlt ho) | exact zg1 (by assumption) (by decide)) (by rfl) ?_
  refine s_iald dX8_told_104 (by first | assumption | exact zgs (zlt ho) | exact zg1 (by assumption) (by decide)) (zrd (n := 256) hb (by decide)) ?_
  rw [nI_clamp (by omega), hN b hb]
  exact s_iret dX8_told_105 rfl ⟨rfl, rfl⟩ (by first | rfl | exact List.length_set)
set_option maxHeartbeats 4000000 in
set_option maxRecDepth 100000 in
theorem y_told5 {Z : zS} {d : Nat} {w : zW} {b k : Nat} {mf ma mc ms me mq mu mh mp : Int32} (ho : w[41]? = some (oM (nI b) (nI k) mf ma mc ms me mq mu mh mp)) (hb : b < 256) {fo : Nat → Int32} (hfo : w[43]? = some (aI 256 fo)) (hF : FOok fo) : zF Z M_X8_told (d + 1) [.ref 41, .int (nI 5)] w [.int (nI (48 / pSTI b))] w := by
  show zG Z M_X8_told (d + 1) _ _ 0 [(0, .ref 41), (1, .int (nI 5))] [] w
  refine s_iload_n dX8_told_0 rfl ?_
  refine s_tableIn (off := 105) (tgt := 106) dX8_told_1 (by decide) (by decide) (by rfl) (by decide) ?_
  refine s_aload_n dX8_told_106 rfl ?_
  refine s_aload_n dX8_told_107 rfl ?_
  refine s_get dX8_told_108 f_X8_125 (by first | assumption | exact zgs (zlt ho) | exact zg1 (by assumption) (by decide)) (by rfl) ?_
  refine s_cv1 dX8_told_111 g_X8_177 (c_X8_likes ho hfo hF hb) (by first | assumption | exact zgs (zlt ho) | exact zg1 (by assumption) (by decide)) rfl rfl rfl rfl (Nat.le_of_ble_eq_true rfl) (Nat.le_of_ble_eq_true rfl) rfl ?_
  exact s_iret dX8_told_114 rfl ⟨rfl, rfl⟩ (by first | rfl | exact List.length_set)
set_option maxHeartbeats 4000000 in
set_option maxRecDepth 100000 in
theorem y_told6 {Z : zS} {d : Nat} {w : zW} {b k : Nat} {mf ma mc ms me mq mu mh mp : Int32} (ho : w[41]? = some (oM (nI b) (nI k) mf ma mc ms me mq mu mh mp)) (hb : b < 256) {cm : Nat → Int32} (hcm : w[42]? = some (aI 384 cm)) (hC : CMok cm) : zF Z M_X8_told (d + 2) [.ref 41, .int (nI 6)] w [.int (nI (pSTI b))] w := by
  show zG Z M_X8_told (d + 2) _ _ 0 [(0, .ref 41), (1, .int (nI 6))] [] w
  refine s_iload_n dX8_told_0 rfl ?_
  refine s_tableIn (off := 114) (tgt := 115) dX8_told_1 (by decide) (by decide) (by rfl) (by decide) ?_
  refine s_aload_n dX8_told_115 rfl ?_
  refine s_aload_n dX8_told_116 rfl ?_
  refine s_get dX8_told_117 f_X8_125 (by first | assumption | exact zgs (zlt ho) | exact zg1 (by assumption) (by decide)) (by rfl) ?_
  refine s_cv1 dX8_told_120 g_X8_180 (c_X8_stills ho hcm hC hb) (by first | assumption | exact zgs (zlt ho) | exact zg1 (by assumption) (by decide)) rfl rfl rfl rfl (Nat.le_of_ble_eq_true rfl) (Nat.le_of_ble_eq_true rfl) rfl ?_
  exact s_iret dX8_told_123 rfl ⟨rfl, rfl⟩ (by first | rfl | exact List.length_set)
set_option maxHeartbeats 4000000 in
set_option maxRecDepth 100000 in
theorem y_told7 {Z : zS} {d : Nat} {w : zW} {b k : Nat} {mf ma mc ms me mq mu mh mp : Int32} (ho : w[41]? = some (oM (nI b) (nI k) mf ma mc ms me mq mu mh mp)) (hb : b < 256) (hk : k < 256) {cm : Nat → Int32} (hcm : w[42]? = some (aI 384 cm)) (hC : CMok cm) : zF Z M_X8_told (d + 2) [.ref 41, .int (nI 7)] w [.int (nI (pDSL b k 48 0 8))] w := by
  show zG Z M_X8_told (d + 2) _ _ 0 [(0, .ref 41), (1, .int (nI 7))] [] w
  refine s_iload_n dX8_told_0 rfl ?_
  refine s_tableIn (off := 123) (tgt := 124) dX8_told_1 (by decide) (by decide) (by rfl) (by decide) ?_
  refine s_aload_n dX8_told_124 rfl ?_
  refine s_cv1 dX8_told_125 g_X8_183 (c_X8_far ho hb hk hcm hC) (by first | assumption | exact zgs (zlt ho) | exact zg1 (by assumption) (by decide)) rfl rfl rfl rfl (Nat.le_of_ble_eq_true rfl) (Nat.le_of_ble_eq_true rfl) rfl ?_
  exact s_iret dX8_told_128 rfl ⟨rfl, rfl⟩ (by first | rfl | exact List.length_set)
set_option maxHeartbeats 4000000 in
set_option maxRecDepth 100000 in
theorem y_told8 {Z : zS} {d : Nat} {w : zW} {b k : Nat} {mf ma mc ms me mq mu mh mp : Int32} (ho : w[41]? = some (oM (nI b) (nI k) mf ma mc ms me mq mu mh mp)) (hb : b < 256) {f : Nat → Int32} (hfc : w[47]? = some (aZ 256 f)) : zF Z M_X8_told (d + 6) [.ref 41, .int (nI 8)] w [.int (nI (kFL b 256 0 0))] (w.set 47 (aZ 256 (fcF b f))) := by
  show zG Z M_X8_told (d + 6) _ _ 0 [(0, .ref 41), (1, .int (nI 8))] [] w
  refine s_iload_n dX8_told_0 rfl ?_
  refine s_tableIn (off := 128) (tgt := 129) dX8_told_1 (by decide) (by decide) (by rfl) (by decide) ?_
  refine s_aload_n dX8_told_129 rfl ?_
  refine s_aload_n dX8_told_130 rfl ?_
  refine s_get dX8_told_131 f_X8_125 (by first | assumption | exact zgs (zlt ho) | exact zg1 (by assumption) (by decide)) (by rfl) ?_
  refine s_cv1 dX8_told_134 g_X8_186 (c_X8_findFaces ho hfc hb) (by first | assumption | exact zgs (zlt ho) | exact zg1 (by assumption) (by decide)) rfl rfl rfl rfl (Nat.le_of_ble_eq_true rfl) (Nat.le_of_ble_eq_true rfl) rfl ?_
  exact s_iret dX8_told_137 rfl ⟨rfl, rfl⟩ (by first | rfl | exact List.length_set)
set_option maxHeartbeats 4000000 in
set_option maxRecDepth 100000 in
theorem y_told9 {Z : zS} {d : Nat} {w : zW} {b k : Nat} {mf ma mc ms me mq mu mh mp : Int32} (ho : w[41]? = some (oM (nI b) (nI k) mf ma mc ms me mq mu mh mp)) (hb : b < 256)  : zF Z M_X8_told (d + 7) [.ref 41, .int (nI 9)] w [.int (nI (kEL b 256 0 0))] w := by
  show zG Z M_X8_told (d + 7) _ _ 0 [(0, .ref 41), (1, .int (nI 9))] [] w
  refine s_iload_n dX8_told_0 rfl ?_
  refine s_tableIn (off := 137) (tgt := 138) dX8_told_1 (by decide) (by decide) (by rfl) (by decide) ?_
  refine s_aload_n dX8_told_138 rfl ?_
  refine s_get dX8_told_139 f_X8_125 (by first | assumption | exact zgs (zlt ho) | exact zg1 (by assumption) (by decide)) (by rfl) ?_
  refine s_cs1 dX8_told_142 g_X8_189 (c_X8_edgesOf hb) rfl rfl (Nat.le_of_ble_eq_true rfl) (Nat.le_of_ble_eq_true rfl) rfl ?_
  exact s_iret dX8_told_145 rfl ⟨rfl, rfl⟩ (by first | rfl | exact List.length_set)
set_option maxHeartbeats 4000000 in
set_option maxRecDepth 100000 in
theorem y_told10 {Z : zS} {d : Nat} {w : zW} {b k : Nat} {mf ma mc ms me mq mu mh mp : Int32} (ho : w[41]? = some (oM (nI b) (nI k) mf ma mc ms me mq mu mh mp)) (hb : b < 256) {f : Nat → Int32} (hvc : w[48]? = some (aI 24 f)) : zF Z M_X8_told (d + 1) [.ref 41, .int (nI 10)] w [.int (pDIM b + 1)] (w.set 48 (aI 24 (gW b f))) := by
  show zG Z M_X8_told (d + 1) _ _ 0 [(0, .ref 41), (1, .int (nI 10))] [] w
  refine s_iload_n dX8_told_0 rfl ?_
  refine s_tableIn (off := 145) (tgt := 146) dX8_told_1 (by decide) (by decide) (by rfl) (by decide) ?_
  refine s_aload_n dX8_told_146 rfl ?_
  refine s_aload_n dX8_told_147 rfl ?_
  refine s_get dX8_told_148 f_X8_125 (by first | assumption | exact zgs (zlt ho) | exact zg1 (by assumption) (by decide)) (by rfl) ?_
  refine s_cv1 dX8_told_151 g_X8_192 (c_X8_dimension ho hvc hb) (by first | assumption | exact zgs (zlt ho) | exact zg1 (by assumption) (by decide)) rfl rfl rfl rfl (Nat.le_of_ble_eq_true rfl) (Nat.le_of_ble_eq_true rfl) rfl ?_
  refine s_iconst (v := 1) dX8_told_154 rfl ?_
  refine s_iadd dX8_told_155 ?_
  exact s_iret dX8_told_156 rfl ⟨rfl, rfl⟩ (by first | rfl | exact List.length_set)
set_option maxHeartbeats 4000000 in
set_option maxRecDepth 100000 in
theorem y_told11 {Z : zS} {d : Nat} {w : zW} {b k : Nat} {mf ma mc ms me mq mu mh mp : Int32} (ho : w[41]? = some (oM (nI b) (nI k) mf ma mc ms me mq mu mh mp)) (hb : b < 256)  : zF Z M_X8_told (d + 7) [.ref 41, .int (nI 11)] w [.int (kSIX b)] w := by
  show zG Z M_X8_told (d + 7) _ _ 0 [(0, .ref 41), (1, .int (nI 11))] [] w
  refine s_iload_n dX8_told_0 rfl ?_
  refine s_tableIn (off := 156) (tgt := 157) dX8_told_1 (by decide) (by decide) (by rfl) (by decide) ?_
  refine s_aload_n dX8_told_157 rfl ?_
  refine s_get dX8_told_158 f_X8_125 (by first | assumption | exact zgs (zlt ho) | exact zg1 (by assumption) (by decide)) (by rfl) ?_
  refine s_cs1 dX8_told_161 g_X8_195 (c_X8_sixfold hb) rfl rfl (Nat.le_of_ble_eq_true rfl) (Nat.le_of_ble_eq_true rfl) rfl ?_
  exact s_iret dX8_told_164 rfl ⟨rfl, rfl⟩ (by first | rfl | exact List.length_set)
set_option maxHeartbeats 4000000 in
set_option maxRecDepth 100000 in
theorem y_told12 {Z : zS} {d : Nat} {w : zW} {b k : Nat} {mf ma mc ms me mq mu mh mp : Int32} (ho : w[41]? = some (oM (nI b) (nI k) mf ma mc ms me mq mu mh mp)) (hb : b < 256)  : zF Z M_X8_told (d + 6) [.ref 41, .int (nI 12)] w [.int (kLW b)] w := by
  show zG Z M_X8_told (d + 6) _ _ 0 [(0, .ref 41), (1, .int (nI 12))] [] w
  refine s_iload_n dX8_told_0 rfl ?_
  refine s_tableIn (off := 164) (tgt := 165) dX8_told_1 (by decide) (by decide) (by rfl) (by decide) ?_
  refine s_aload_n dX8_told_165 rfl ?_
  refine s_get dX8_told_166 f_X8_125 (by first | assumption | exact zgs (zlt ho) | exact zg1 (by assumption) (by decide)) (by rfl) ?_
  refine s_cs1 dX8_told_169 g_X8_198 (c_X8_width hb) rfl rfl (Nat.le_of_ble_eq_true rfl) (Nat.le_of_ble_eq_true rfl) rfl ?_
  exact s_iret dX8_told_172 rfl ⟨rfl, rfl⟩ (by first | rfl | exact List.length_set)
set_option maxHeartbeats 4000000 in
set_option maxRecDepth 100000 in
theorem y_told_no {Z : zS} {d : Nat} {w : zW} {b k : Nat} {mf ma mc ms me mq mu mh mp : Int32} (ho : w[41]? = some (oM (nI b) (nI k) mf ma mc ms me mq mu mh mp)) (hb : b < 256) {c : Int32} (hc : c < 0 ∨ 13 ≤ c) : zF Z M_X8_told (d) [.ref 41, .int c] w [.int (-1)] w := by
  show zG Z M_X8_told (d) _ _ 0 [(0, .ref 41), (1, .int c)] [] w
  refine s_iload_n dX8_told_0 rfl ?_
  refine s_tableOut (tgt := 173) dX8_told_1 (zsw (n := 12) (by decide) hc) (by decide) ?_
  refine s_iconst (v := (-1)) dX8_told_173 rfl ?_
  exact s_iret dX8_told_174 rfl ⟨rfl, rfl⟩ (by first | rfl | exact List.length_set)
set_option maxHeartbeats 4000000 in
set_option maxRecDepth 100000 in
theorem y_carried1 {Z : zS} {d : Nat} {w : zW} {b k : Nat} {mf ma mc ms me mq mu mh mp : Int32} (ho : w[41]? = some (oM (nI b) (nI k) mf ma mc ms me mq mu mh mp)) (hb : b < 256) {m c : Int32} (hc : m < 0 ∨ 48 ≤ m) : zF Z M_X8_carried (d + 2) [.ref 41, .int m, .int c] w [.int (-1)] w := by
  show zG Z M_X8_carried (d + 2) _ _ 0 [(0, .ref 41), (1, .int m), (2, .int c)] [] w
  refine s_iload_n dX8_carried_0 rfl ?_
  refine s_cs1 dX8_carried_1 g_X8_129 (c_X8_isMove) rfl rfl (Nat.le_of_ble_eq_true rfl) (Nat.le_of_ble_eq_true rfl) rfl ?_
  refine s_if_eq (tgt := 28) dX8_carried_4 (by decide) (fun hz => ?_) (fun hqz => absurd (miN (n := 47) (by decide) hc) hqz)
  clear hz
  refine s_iconst (v := (-1)) dX8_carried_28 rfl ?_
  exact s_iret dX8_carried_29 rfl ⟨rfl, rfl⟩ (by first | rfl | exact List.length_set)
set_option maxHeartbeats 4000000 in
set_option maxRecDepth 100000 in
theorem y_carried2 {Z : zS} {d : Nat} {w : zW} {b k : Nat} {mf ma mc ms me mq mu mh mp : Int32} (ho : w[41]? = some (oM (nI b) (nI k) mf ma mc ms me mq mu mh mp)) (hb : b < 256) {m : Nat} {c : Int32} (hm : m < 48) (hc : c < 0 ∨ 8 ≤ c) : zF Z M_X8_carried (d + 2) [.ref 41, .int (nI m), .int c] w [.int (-1)] w := by
  show zG Z M_X8_carried (d + 2) _ _ 0 [(0, .ref 41), (1, .int (nI m)), (2, .int c)] [] w
  refine s_iload_n dX8_carried_0 rfl ?_
  refine s_cs1 dX8_carried_1 g_X8_129 (c_X8_isMove) rfl rfl (Nat.le_of_ble_eq_true rfl) (Nat.le_of_ble_eq_true rfl) rfl ?_
  refine s_if_eq (tgt := 28) dX8_carried_4 (by decide) (fun hqz => absurd hqz (miY (n := 47) (by omega) (by decide))) (fun hz => ?_)
  clear hz
  refine s_iload_n dX8_carried_7 rfl ?_
  refine s_cs1 dX8_carried_8 g_X8_122 (c_X8_isCorner) rfl rfl (Nat.le_of_ble_eq_true rfl) (Nat.le_of_ble_eq_true rfl) rfl ?_
  refine s_if_eq (tgt := 28) dX8_carried_11 (by decide) (fun hz => ?_) (fun hqz => absurd (miN (n := 7) (by decide) hc) hqz)
  clear hz
  refine s_iconst (v := (-1)) dX8_carried_28 rfl ?_
  exact s_iret dX8_carried_29 rfl ⟨rfl, rfl⟩ (by first | rfl | exact List.length_set)
set_option maxHeartbeats 4000000 in
set_option maxRecDepth 100000 in
theorem y_carried {Z : zS} {d : Nat} {w : zW} {b k : Nat} {mf ma mc ms me mq mu mh mp : Int32} (ho : w[41]? = some (oM (nI b) (nI k) mf ma mc ms me mq mu mh mp)) (hb : b < 256) {cm : Nat → Int32} (hcm : w[42]? = some (aI 384 cm)) (hC : CMok cm) {m c : Nat} (hm : m < 48) (hc : c < 8) : zF Z M_X8_carried (d + 2) [.ref 41, .int (nI m), .int (nI c)] w [.int (nI (pCO m c))] w := by
  show zG Z M_X8_carried (d + 2) _ _ 0 [(0, .ref 41), (1, .int (nI m)), (2, .int (nI c))] [] w
  refine s_iload_n dX8_carried_0 rfl ?_
  refine s_cs1 dX8_carried_1 g_X8_129 (c_X8_isMove) rfl rfl (Nat.le_of_ble_eq_true rfl) (Nat.le_of_ble_eq_true rfl) rfl ?_
  refine s_if_eq (tgt := 28) dX8_carried_4 (by decide) (fun hqz => absurd hqz (miY (n := 47) (by omega) (by decide))) (fun hz => ?_)
  clear hz
  refine s_iload_n dX8_carried_7 rfl ?_
  refine s_cs1 dX8_carried_8 g_X8_122 (c_X8_isCorner) rfl rfl (Nat.le_of_ble_eq_true rfl) (Nat.le_of_ble_eq_true rfl) rfl ?_
  refine s_if_eq (tgt := 28) dX8_carried_11 (by decide) (fun hqz => absurd hqz (miY (n := 7) (by omega) (by decide))) (fun hz => ?_)
  clear hz
  refine s_aload_n dX8_carried_14 rfl ?_
  refine s_get dX8_carried_15 f_X8_15 (by first | assumption | exact zgs (zlt ho) | exact zg1 (by assumption) (by decide)) (by rfl) ?_
  refine s_bipush (v := 8) dX8_carried_18 rfl ?_
  refine s_iload_n dX8_carried_20 rfl ?_
  refine s_imul dX8_carried_21 ?_
  refine s_iload_n dX8_carried_22 rfl ?_
  refine s_iadd dX8_carried_23 ?_
  rw [z8m]
  refine s_iald dX8_carried_24 (by first | assumption | exact zgs (zlt ho) | exact zg1 (by assumption) (by decide)) (zrd (n := 384) (by omega) (by decide)) ?_
  rw [nI_clamp (by omega), hC m hm c hc]
  refine s_goto (tgt := 29) dX8_carried_25 (by decide) ?_
  exact s_iret dX8_carried_29 rfl ⟨rfl, rfl⟩ (by first | rfl | exact List.length_set)
set_option maxHeartbeats 4000000 in
set_option maxRecDepth 100000 in
theorem y_imaged1 {Z : zS} {d : Nat} {w : zW} {b k : Nat} {mf ma mc ms me mq mu mh mp : Int32} (ho : w[41]? = some (oM (nI b) (nI k) mf ma mc ms me mq mu mh mp)) (hb : b < 256) {m : Int32} (hc : m < 0 ∨ 48 ≤ m) : zF Z M_X8_imaged (d + 2) [.ref 41, .int m] w [.int (-1)] w := by
  show zG Z M_X8_imaged (d + 2) _ _ 0 [(0, .ref 41), (1, .int m)] [] w
  refine s_iload_n dX8_imaged_0 rfl ?_
  refine s_cs1 dX8_imaged_1 g_X8_129 (c_X8_isMove) rfl rfl (Nat.le_of_ble_eq_true rfl) (Nat.le_of_ble_eq_true rfl) rfl ?_
  refine s_if_eq (tgt := 19) dX8_imaged_4 (by decide) (fun hz => ?_) (fun hqz => absurd (miN (n := 47) (by decide) hc) hqz)
  clear hz
  refine s_iconst (v := (-1)) dX8_imaged_19 rfl ?_
  exact s_iret dX8_imaged_20 rfl ⟨rfl, rfl⟩ (by first | rfl | exact List.length_set)
set_option maxHeartbeats 4000000 in
set_option maxRecDepth 100000 in
theorem y_imaged {Z : zS} {d : Nat} {w : zW} {b k : Nat} {mf ma mc ms me mq mu mh mp : Int32} (ho : w[41]? = some (oM (nI b) (nI k) mf ma mc ms me mq mu mh mp)) (hb : b < 256) {cm : Nat → Int32} (hcm : w[42]? = some (aI 384 cm)) (hC : CMok cm) {m : Nat} (hm : m < 48) : zF Z M_X8_imaged (d + 2) [.ref 41, .int (nI m)] w [.int (nI (pIMG m b))] w := by
  show zG Z M_X8_imaged (d + 2) _ _ 0 [(0, .ref 41), (1, .int (nI m))] [] w
  refine s_iload_n dX8_imaged_0 rfl ?_
  refine s_cs1 dX8_imaged_1 g_X8_129 (c_X8_isMove) rfl rfl (Nat.le_of_ble_eq_true rfl) (Nat.le_of_ble_eq_true rfl) rfl ?_
  refine s_if_eq (tgt := 19) dX8_imaged_4 (by decide) (fun hqz => absurd hqz (miY (n := 47) (by omega) (by decide))) (fun hz => ?_)
  clear hz
  refine s_aload_n dX8_imaged_7 rfl ?_
  refine s_aload_n dX8_imaged_8 rfl ?_
  refine s_get dX8_imaged_9 f_X8_125 (by first | assumption | exact zgs (zlt ho) | exact zg1 (by assumption) (by decide)) (by rfl) ?_
  refine s_iload_n dX8_imaged_12 rfl ?_
  refine s_cv1 dX8_imaged_13 g_X8_81 (c_X8_imageOf ho hcm hC (hm) (hb)) (by first | assumption | exact zgs (zlt ho) | exact zg1 (by assumption) (by decide)) rfl rfl rfl rfl (Nat.le_of_ble_eq_true rfl) (Nat.le_of_ble_eq_true rfl) rfl ?_
  refine s_goto (tgt := 20) dX8_imaged_16 (by decide) ?_
  exact s_iret dX8_imaged_20 rfl ⟨rfl, rfl⟩ (by first | rfl | exact List.length_set)
set_option maxHeartbeats 4000000 in
set_option maxRecDepth 100000 in
theorem y_weighs1 {Z : zS} {d : Nat} {w : zW} {b k : Nat} {mf ma mc ms me mq mu mh mp : Int32} (ho : w[41]? = some (oM (nI b) (nI k) mf ma mc ms me mq mu mh mp)) (hb : b < 256) {a1 a2 a3 a4 : Int32} (hbad : (a1 < -3 ∨ 3 < a1) ∨ (a2 < -3 ∨ 3 < a2) ∨ (a3 < -3 ∨ 3 < a3) ∨ (a1 = 0 ∧ a2 = 0 ∧ a3 = 0)) : zF Z M_X8_weighs (d + 1) [.ref 41, .int a1, .int a2, .int a3, .int a4] w [.int (-2)] w := by
  show zG Z M_X8_weighs (d + 1) _ _ 0 [(0, .ref 41), (1, .int a1), (2, .int a2), (3, .int a3), (4, .int a4)] [] w
  refine s_iload_n dX8_weighs_0 rfl ?_
  refine s_bipush (v := (-3)) dX8_weighs_1 rfl ?_
  refine s_iconst (v := 3) dX8_weighs_3 rfl ?_
  refine s_cs1 dX8_weighs_4 g_X8_5 (c_X8_isIn) rfl rfl (Nat.le_of_ble_eq_true rfl) (Nat.le_of_ble_eq_true rfl) rfl ?_
  refine s_if_eq (tgt := 42) dX8_weighs_7 (by decide) (fun h_7 => ?_) (fun h_7 => ?_)
  · refine s_bipush (v := (-2)) dX8_weighs_42 rfl ?_
    exact s_iret dX8_weighs_44 rfl ⟨rfl, rfl⟩ (by first | rfl | exact List.length_set)
  · refine s_iload_n dX8_weighs_10 rfl ?_
    refine s_bipush (v := (-3)) dX8_weighs_11 rfl ?_
    refine s_iconst (v := 3) dX8_weighs_13 rfl ?_
    refine s_cs1 dX8_weighs_14 g_X8_5 (c_X8_isIn) rfl rfl (Nat.le_of_ble_eq_true rfl) (Nat.le_of_ble_eq_true rfl) rfl ?_
    refine s_if_eq (tgt := 42) dX8_weighs_17 (by decide) (fun h_17 => ?_) (fun h_17 => ?_)
    · refine s_bipush (v := (-2)) dX8_weighs_42 rfl ?_
      exact s_iret dX8_weighs_44 rfl ⟨rfl, rfl⟩ (by first | rfl | exact List.length_set)
    · refine s_iload_n dX8_weighs_20 rfl ?_
      refine s_bipush (v := (-3)) dX8_weighs_21 rfl ?_
      refine s_iconst (v := 3) dX8_weighs_23 rfl ?_
      refine s_cs1 dX8_weighs_24 g_X8_5 (c_X8_isIn) rfl rfl (Nat.le_of_ble_eq_true rfl) (Nat.le_of_ble_eq_true rfl) rfl ?_
      refine s_if_eq (tgt := 42) dX8_weighs_27 (by decide) (fun h_27 => ?_) (fun h_27 => ?_)
      · refine s_bipush (v := (-2)) dX8_weighs_42 rfl ?_
        exact s_iret dX8_weighs_44 rfl ⟨rfl, rfl⟩ (by first | rfl | exact List.length_set)
      · refine s_iload_n dX8_weighs_30 rfl ?_
        refine s_if_ne (tgt := 45) dX8_weighs_31 (by decide) (fun h_31 => ?_) (fun h_31 => ?_)
        · exfalso
          rcases hbad with h | h | h | h
          · exact h_7 (zwN h)
          · exact h_17 (zwN h)
          · exact h_27 (zwN h)
          · exact h_31 h.1
        · refine s_iload_n dX8_weighs_34 rfl ?_
          refine s_if_ne (tgt := 45) dX8_weighs_35 (by decide) (fun h_35 => ?_) (fun h_35 => ?_)
          · exfalso
            rcases hbad with h | h | h | h
            · exact h_7 (zwN h)
            · exact h_17 (zwN h)
            · exact h_27 (zwN h)
            · exact h_35 h.2.1
          · refine s_iload_n dX8_weighs_38 rfl ?_
            refine s_if_ne (tgt := 45) dX8_weighs_39 (by decide) (fun h_39 => ?_) (fun h_39 => ?_)
            · exfalso
              rcases hbad with h | h | h | h
              · exact h_7 (zwN h)
              · exact h_17 (zwN h)
              · exact h_27 (zwN h)
              · exact h_39 h.2.2
            · refine s_bipush (v := (-2)) dX8_weighs_42 rfl ?_
              exact s_iret dX8_weighs_44 rfl ⟨rfl, rfl⟩ (by first | rfl | exact List.length_set)
set_option maxHeartbeats 4000000 in
set_option maxRecDepth 100000 in
theorem y_weighs45 {Z : zS} {d : Nat} {w : zW} {b k : Nat} {mf ma mc ms me mq mu mh mp : Int32} (ho : w[41]? = some (oM (nI b) (nI k) mf ma mc ms me mq mu mh mp)) (hb : b < 256) {n : Nat} {a4 r : Int32} (hn : n < 343) (h0 : n ≠ 171) (K : zG Z M_X8_weighs (d + 5) (fun r1 w1 => r1 = [.int r] ∧ w1 = w) w.length 45 [(0, .ref 41), (1, .int (nZ (wa n))), (2, .int (nZ (wb n))), (3, .int (nZ (wc n))), (4, .int a4)] [] w) : zF Z M_X8_weighs (d + 5) [.ref 41, .int (nZ (wa n)), .int (nZ (wb n)), .int (nZ (wc n)), .int a4] w [.int r] w := by
  show zG Z M_X8_weighs (d + 5) _ w.length 0 [(0, .ref 41), (1, .int (nZ (wa n))), (2, .int (nZ (wb n))), (3, .int (nZ (wc n))), (4, .int a4)] [] w
  refine s_iload_n dX8_weighs_0 rfl ?_
  refine s_bipush (v := (-3)) dX8_weighs_1 rfl ?_
  refine s_iconst (v := 3) dX8_weighs_3 rfl ?_
  refine s_cs1 dX8_weighs_4 g_X8_5 (c_X8_isIn) rfl rfl (Nat.le_of_ble_eq_true rfl) (Nat.le_of_ble_eq_true rfl) rfl ?_
  refine s_if_eq (tgt := 42) dX8_weighs_7 (by decide) (fun hqz => absurd hqz (q_iw n hn).1) (fun hz => ?_)
  clear hz
  refine s_iload_n dX8_weighs_10 rfl ?_
  refine s_bipush (v := (-3)) dX8_weighs_11 rfl ?_
  refine s_iconst (v := 3) dX8_weighs_13 rfl ?_
  refine s_cs1 dX8_weighs_14 g_X8_5 (c_X8_isIn) rfl rfl (Nat.le_of_ble_eq_true rfl) (Nat.le_of_ble_eq_true rfl) rfl ?_
  refine s_if_eq (tgt := 42) dX8_weighs_17 (by decide) (fun hqz => absurd hqz (q_iw n hn).2.1) (fun hz => ?_)
  clear hz
  refine s_iload_n dX8_weighs_20 rfl ?_
  refine s_bipush (v := (-3)) dX8_weighs_21 rfl ?_
  refine s_iconst (v := 3) dX8_weighs_23 rfl ?_
  refine s_cs1 dX8_weighs_24 g_X8_5 (c_X8_isIn) rfl rfl (Nat.le_of_ble_eq_true rfl) (Nat.le_of_ble_eq_true rfl) rfl ?_
  refine s_if_eq (tgt := 42) dX8_weighs_27 (by decide) (fun hqz => absurd hqz (q_iw n hn).2.2) (fun hz => ?_)
  clear hz
  refine s_iload_n dX8_weighs_30 rfl ?_
  refine s_if_ne (tgt := 45) dX8_weighs_31 (by decide) (fun h_31 => ?_) (fun h_31 => ?_)
  · exact K
  · refine s_iload_n dX8_weighs_34 rfl ?_
    refine s_if_ne (tgt := 45) dX8_weighs_35 (by decide) (fun h_35 => ?_) (fun h_35 => ?_)
    · exact K
    · refine s_iload_n dX8_weighs_38 rfl ?_
      refine s_if_ne (tgt := 45) dX8_weighs_39 (by decide) (fun h_39 => ?_) (fun h_39 => ?_)
      · exact K
      · exact absurd ⟨h_31, h_35, h_39⟩ (q_nw n hn h0)
set_option maxHeartbeats 4000000 in
set_option maxRecDepth 100000 in
theorem y_weighs2 {Z : zS} {d : Nat} {w : zW} {b k : Nat} {mf ma mc ms me mq mu mh mp : Int32} (ho : w[41]? = some (oM (nI b) (nI k) mf ma mc ms me mq mu mh mp)) (hb : b < 256) {n : Nat} (hn : n < 343) (h0 : n ≠ 171) {a4 : Int32} (hc : a4 < 0 ∨ 3 ≤ a4) : zF Z M_X8_weighs (d + 5) [.ref 41, .int (nZ (wa n)), .int (nZ (wb n)), .int (nZ (wc n)), .int a4] w [.int (-1)] w := by
  refine y_weighs45 ho hb hn h0 ?_
  refine s_iload dX8_weighs_45 rfl ?_
  refine s_iconst (v := 0) dX8_weighs_47 rfl ?_
  refine s_iconst (v := 2) dX8_weighs_48 rfl ?_
  refine s_cs1 dX8_weighs_49 g_X8_5 (c_X8_isIn) rfl rfl (Nat.le_of_ble_eq_true rfl) (Nat.le_of_ble_eq_true rfl) rfl ?_
  refine s_if_ne (tgt := 57) dX8_weighs_52 (by decide) (fun hqz => absurd (miN (n := 2) (by decide) hc) hqz) (fun hz => ?_)
  clear hz
  refine s_iconst (v := (-1)) dX8_weighs_55 rfl ?_
  exact s_iret dX8_weighs_56 rfl ⟨rfl, rfl⟩ (by first | rfl | exact List.length_set)
set_option maxHeartbeats 4000000 in
set_option maxRecDepth 100000 in
theorem y_weighs3 {Z : zS} {d : Nat} {w : zW} {b k : Nat} {mf ma mc ms me mq mu mh mp : Int32} (ho : w[41]? = some (oM (nI b) (nI k) mf ma mc ms me mq mu mh mp)) (hb : b < 256) {n : Nat} (hn : n < 343) (h0 : n ≠ 171) {t : Nat} (ht : t < 3) (hb0 : b = 0) : zF Z M_X8_weighs (d + 5) [.ref 41, .int (nZ (wa n)), .int (nZ (wb n)), .int (nZ (wc n)), .int (nI t)] w [.int (-3)] w := by
  refine y_weighs45 ho hb hn h0 ?_
  refine s_iload dX8_weighs_45 rfl ?_
  refine s_iconst (v := 0) dX8_weighs_47 rfl ?_
  refine s_iconst (v := 2) dX8_weighs_48 rfl ?_
  refine s_cs1 dX8_weighs_49 g_X8_5 (c_X8_isIn) rfl rfl (Nat.le_of_ble_eq_true rfl) (Nat.le_of_ble_eq_true rfl) rfl ?_
  refine s_if_ne (tgt := 57) dX8_weighs_52 (by decide) (fun hz => ?_) (fun hqz => absurd hqz (miY (n := 2) (by omega) (by decide)))
  clear hz
  refine s_aload_n dX8_weighs_57 rfl ?_
  refine s_get dX8_weighs_58 f_X8_125 (by first | assumption | exact zgs (zlt ho) | exact zg1 (by assumption) (by decide)) (by rfl) ?_
  refine s_if_ne (tgt := 67) dX8_weighs_61 (by decide) (fun hqz => absurd (by rw [hb0]; rfl) hqz) (fun hz => ?_)
  clear hz
  refine s_bipush (v := (-3)) dX8_weighs_64 rfl ?_
  exact s_iret dX8_weighs_66 rfl ⟨rfl, rfl⟩ (by first | rfl | exact List.length_set)
set_option maxHeartbeats 4000000 in
set_option maxRecDepth 100000 in
theorem y_weighs_0 {Z : zS} {d : Nat} {w : zW} {b k : Nat} {mf ma mc ms me mq mu mh mp : Int32} (ho : w[41]? = some (oM (nI b) (nI k) mf ma mc ms me mq mu mh mp)) (hb : b < 256) {n : Nat} (hn : n < 343) (h0 : n ≠ 171) (hb0 : b ≠ 0) : zF Z M_X8_weighs (d + 5) [.ref 41, .int (nZ (wa n)), .int (nZ (wb n)), .int (nZ (wc n)), .int (nI 0)] w [.int (nZ (mxL b n 8) + 100)] w := by
  refine y_weighs45 ho hb hn h0 ?_
  refine s_iload dX8_weighs_45 rfl ?_
  refine s_iconst (v := 0) dX8_weighs_47 rfl ?_
  refine s_iconst (v := 2) dX8_weighs_48 rfl ?_
  refine s_cs1 dX8_weighs_49 g_X8_5 (c_X8_isIn) rfl rfl (Nat.le_of_ble_eq_true rfl) (Nat.le_of_ble_eq_true rfl) rfl ?_
  refine s_if_ne (tgt := 57) dX8_weighs_52 (by decide) (fun hz => ?_) (fun hqz => absurd hqz (by decide))
  clear hz
  refine s_aload_n dX8_weighs_57 rfl ?_
  refine s_get dX8_weighs_58 f_X8_125 (by first | assumption | exact zgs (zlt ho) | exact zg1 (by assumption) (by decide)) (by rfl) ?_
  refine s_if_ne (tgt := 67) dX8_weighs_61 (by decide) (fun hz => ?_) (fun hqz => absurd hqz (fun q => hb0 ((zn0 (by omega)).mp q)))
  clear hz
  refine s_bipush (v := 49) dX8_weighs_67 rfl ?_
  refine s_iload_n dX8_weighs_69 rfl ?_
  refine s_iconst (v := 3) dX8_weighs_70 rfl ?_
  refine s_iadd dX8_weighs_71 ?_
  refine s_imul dX8_weighs_72 ?_
  refine s_bipush (v := 7) dX8_weighs_73 rfl ?_
  refine s_iload_n dX8_weighs_75 rfl ?_
  refine s_iconst (v := 3) dX8_weighs_76 rfl ?_
  refine s_iadd dX8_weighs_77 ?_
  refine s_imul dX8_weighs_78 ?_
  refine s_iadd dX8_weighs_79 ?_
  refine s_iload_n dX8_weighs_80 rfl ?_
  refine s_iadd dX8_weighs_81 ?_
  refine s_iconst (v := 3) dX8_weighs_82 rfl ?_
  refine s_iadd dX8_weighs_83 ?_
  rw [q_wi n hn]
  refine s_istore dX8_weighs_84 (Nat.le_of_ble_eq_true rfl) rfl ?_
  refine s_iload dX8_weighs_86 rfl ?_
  refine s_if_ne (tgt := 106) dX8_weighs_88 (by decide) (fun hqz => absurd rfl hqz) (fun hz => ?_)
  clear hz
  refine s_bipush (v := 100) dX8_weighs_91 rfl ?_
  refine s_aload_n dX8_weighs_93 rfl ?_
  refine s_get dX8_weighs_94 f_X8_125 (by first | assumption | exact zgs (zlt ho) | exact zg1 (by assumption) (by decide)) (by rfl) ?_
  refine s_iload dX8_weighs_97 rfl ?_
  refine s_cs1 dX8_weighs_99 g_X8_95 (c_X8_mostOf hb hn) rfl rfl (Nat.le_of_ble_eq_true rfl) (Nat.le_of_ble_eq_true rfl) rfl ?_
  refine s_iadd dX8_weighs_102 ?_
  refine s_goto (tgt := 136) dX8_weighs_103 (by decide) ?_
  exact s_iret dX8_weighs_136 rfl ⟨by rw [mq_eq hb hb0 hn, Int32.add_comm], rfl⟩ (by first | rfl | exact List.length_set)
set_option maxHeartbeats 4000000 in
set_option maxRecDepth 100000 in
theorem y_weighs_1 {Z : zS} {d : Nat} {w : zW} {b k : Nat} {mf ma mc ms me mq mu mh mp : Int32} (ho : w[41]? = some (oM (nI b) (nI k) mf ma mc ms me mq mu mh mp)) (hb : b < 256) {n : Nat} (hn : n < 343) (h0 : n ≠ 171) (hb0 : b ≠ 0) : zF Z M_X8_weighs (d + 5) [.ref 41, .int (nZ (wa n)), .int (nZ (wb n)), .int (nZ (wc n)), .int (nI 1)] w [.int (100 - nZ (mxL b (342 - n) 8))] w := by
  refine y_weighs45 ho hb hn h0 ?_
  refine s_iload dX8_weighs_45 rfl ?_
  refine s_iconst (v := 0) dX8_weighs_47 rfl ?_
  refine s_iconst (v := 2) dX8_weighs_48 rfl ?_
  refine s_cs1 dX8_weighs_49 g_X8_5 (c_X8_isIn) rfl rfl (Nat.le_of_ble_eq_true rfl) (Nat.le_of_ble_eq_true rfl) rfl ?_
  refine s_if_ne (tgt := 57) dX8_weighs_52 (by decide) (fun hz => ?_) (fun hqz => absurd hqz (by decide))
  clear hz
  refine s_aload_n dX8_weighs_57 rfl ?_
  refine s_get dX8_weighs_58 f_X8_125 (by first | assumption | exact zgs (zlt ho) | exact zg1 (by assumption) (by decide)) (by rfl) ?_
  refine s_if_ne (tgt := 67) dX8_weighs_61 (by decide) (fun hz => ?_) (fun hqz => absurd hqz (fun q => hb0 ((zn0 (by omega)).mp q)))
  clear hz
  refine s_bipush (v := 49) dX8_weighs_67 rfl ?_
  refine s_iload_n dX8_weighs_69 rfl ?_
  refine s_iconst (v := 3) dX8_weighs_70 rfl ?_
  refine s_iadd dX8_weighs_71 ?_
  refine s_imul dX8_weighs_72 ?_
  refine s_bipush (v := 7) dX8_weighs_73 rfl ?_
  refine s_iload_n dX8_weighs_75 rfl ?_
  refine s_iconst (v := 3) dX8_weighs_76 rfl ?_
  refine s_iadd dX8_weighs_77 ?_
  refine s_imul dX8_weighs_78 ?_
  refine s_iadd dX8_weighs_79 ?_
  refine s_iload_n dX8_weighs_80 rfl ?_
  refine s_iadd dX8_weighs_81 ?_
  refine s_iconst (v := 3) dX8_weighs_82 rfl ?_
  refine s_iadd dX8_weighs_83 ?_
  rw [q_wi n hn]
  refine s_istore dX8_weighs_84 (Nat.le_of_ble_eq_true rfl) rfl ?_
  refine s_iload dX8_weighs_86 rfl ?_
  refine s_if_ne (tgt := 106) dX8_weighs_88 (by decide) (fun hz => ?_) (fun hqz => absurd hqz (by decide))
  clear hz
  refine s_iload dX8_weighs_106 rfl ?_
  refine s_iconst (v := 1) dX8_weighs_108 rfl ?_
  refine s_icmp_ne (tgt := 127) dX8_weighs_109 (by decide) (fun hqz => absurd rfl hqz) (fun hz => ?_)
  clear hz
  refine s_bipush (v := 100) dX8_weighs_112 rfl ?_
  refine s_aload_n dX8_weighs_114 rfl ?_
  refine s_get dX8_weighs_115 f_X8_125 (by first | assumption | exact zgs (zlt ho) | exact zg1 (by assumption) (by decide)) (by rfl) ?_
  refine s_iload dX8_weighs_118 rfl ?_
  refine s_cs1 dX8_weighs_120 g_X8_119 (c_X8_leastOf hb hn) rfl rfl (Nat.le_of_ble_eq_true rfl) (Nat.le_of_ble_eq_true rfl) rfl ?_
  refine s_iadd dX8_weighs_123 ?_
  refine s_goto (tgt := 136) dX8_weighs_124 (by decide) ?_
  exact s_iret dX8_weighs_136 rfl ⟨by rw [mq_eq hb hb0 (by omega), ← nZ_neg, Int32.sub_eq_add_neg], rfl⟩ (by first | rfl | exact List.length_set)
set_option maxHeartbeats 4000000 in
set_option maxRecDepth 100000 in
theorem y_weighs_2 {Z : zS} {d : Nat} {w : zW} {b k : Nat} {mf ma mc ms me mq mu mh mp : Int32} (ho : w[41]? = some (oM (nI b) (nI k) mf ma mc ms me mq mu mh mp)) (hb : b < 256) {n : Nat} (hn : n < 343) (h0 : n ≠ 171) (hb0 : b ≠ 0) : zF Z M_X8_weighs (d + 5) [.ref 41, .int (nZ (wa n)), .int (nZ (wb n)), .int (nZ (wc n)), .int (nI 2)] w [.int (nI (thL b n (mxL b n 8) 8))] w := by
  refine y_weighs45 ho hb hn h0 ?_
  refine s_iload dX8_weighs_45 rfl ?_
  refine s_iconst (v := 0) dX8_weighs_47 rfl ?_
  refine s_iconst (v := 2) dX8_weighs_48 rfl ?_
  refine s_cs1 dX8_weighs_49 g_X8_5 (c_X8_isIn) rfl rfl (Nat.le_of_ble_eq_true rfl) (Nat.le_of_ble_eq_true rfl) rfl ?_
  refine s_if_ne (tgt := 57) dX8_weighs_52 (by decide) (fun hz => ?_) (fun hqz => absurd hqz (by decide))
  clear hz
  refine s_aload_n dX8_weighs_57 rfl ?_
  refine s_get dX8_weighs_58 f_X8_125 (by first | assumption | exact zgs (zlt ho) | exact zg1 (by assumption) (by decide)) (by rfl) ?_
  refine s_if_ne (tgt := 67) dX8_weighs_61 (by decide) (fun hz => ?_) (fun hqz => absurd hqz (fun q => hb0 ((zn0 (by omega)).mp q)))
  clear hz
  refine s_bipush (v := 49) dX8_weighs_67 rfl ?_
  refine s_iload_n dX8_weighs_69 rfl ?_
  refine s_iconst (v := 3) dX8_weighs_70 rfl ?_
  refine s_iadd dX8_weighs_71 ?_
  refine s_imul dX8_weighs_72 ?_
  refine s_bipush (v := 7) dX8_weighs_73 rfl ?_
  refine s_iload_n dX8_weighs_75 rfl ?_
  refine s_iconst (v := 3) dX8_weighs_76 rfl ?_
  refine s_iadd dX8_weighs_77 ?_
  refine s_imul dX8_weighs_78 ?_
  refine s_iadd dX8_weighs_79 ?_
  refine s_iload_n dX8_weighs_80 rfl ?_
  refine s_iadd dX8_weighs_81 ?_
  refine s_iconst (v := 3) dX8_weighs_82 rfl ?_
  refine s_iadd dX8_weighs_83 ?_
  rw [q_wi n hn]
  refine s_istore dX8_weighs_84 (Nat.le_of_ble_eq_true rfl) rfl ?_
  refine s_iload dX8_weighs_86 rfl ?_
  refine s_if_ne (tgt := 106) dX8_weighs_88 (by decide) (fun hz => ?_) (fun hqz => absurd hqz (by decide))
  clear hz
  refine s_iload dX8_weighs_106 rfl ?_
  refine s_iconst (v := 1) dX8_weighs_108 rfl ?_
  refine s_icmp_ne (tgt := 127) dX8_weighs_109 (by decide) (fun hz => ?_) (fun hqz => absurd hqz (by decide))
  clear hz
  refine s_aload_n dX8_weighs_127 rfl ?_
  refine s_get dX8_weighs_128 f_X8_125 (by first | assumption | exact zgs (zlt ho) | exact zg1 (by assumption) (by decide)) (by rfl) ?_
  refine s_iload dX8_weighs_131 rfl ?_
  refine s_cs1 dX8_weighs_133 g_X8_98 (c_X8_heaviest hb hn) rfl rfl (Nat.le_of_ble_eq_true rfl) (Nat.le_of_ble_eq_true rfl) rfl ?_
  exact s_iret dX8_weighs_136 rfl ⟨by rw [hvQ, mq_eq hb hb0 hn], rfl⟩ (by first | rfl | exact List.length_set)
set_option maxHeartbeats 4000000 in
set_option maxRecDepth 100000 in
theorem y_edge1 {Z : zS} {d : Nat} {w : zW} {b k : Nat} {mf ma mc ms me mq mu mh mp : Int32} (ho : w[41]? = some (oM (nI b) (nI k) mf ma mc ms me mq mu mh mp)) (hb : b < 256) {c e : Int32} (hc : c < 0 ∨ 8 ≤ c) : zF Z M_X8_edge (d + 2) [.ref 41, .int c, .int e] w [.int (-1)] w := by
  show zG Z M_X8_edge (d + 2) _ _ 0 [(0, .ref 41), (1, .int c), (2, .int e)] [] w
  refine s_iload_n dX8_edge_0 rfl ?_
  refine s_cs1 dX8_edge_1 g_X8_122 (c_X8_isCorner) rfl rfl (Nat.le_of_ble_eq_true rfl) (Nat.le_of_ble_eq_true rfl) rfl ?_
  refine s_if_eq (tgt := 14) dX8_edge_4 (by decide) (fun hz => ?_) (fun hqz => absurd (miN (n := 7) (by decide) hc) hqz)
  clear hz
  refine s_iconst (v := (-1)) dX8_edge_14 rfl ?_
  exact s_iret dX8_edge_15 rfl ⟨rfl, rfl⟩ (by first | rfl | exact List.length_set)
set_option maxHeartbeats 4000000 in
set_option maxRecDepth 100000 in
theorem y_edge2 {Z : zS} {d : Nat} {w : zW} {b k : Nat} {mf ma mc ms me mq mu mh mp : Int32} (ho : w[41]? = some (oM (nI b) (nI k) mf ma mc ms me mq mu mh mp)) (hb : b < 256) {c : Nat} {e : Int32} (hj : c < 8) (hc : e < 0 ∨ 8 ≤ e) : zF Z M_X8_edge (d + 2) [.ref 41, .int (nI c), .int e] w [.int (-1)] w := by
  show zG Z M_X8_edge (d + 2) _ _ 0 [(0, .ref 41), (1, .int (nI c)), (2, .int e)] [] w
  refine s_iload_n dX8_edge_0 rfl ?_
  refine s_cs1 dX8_edge_1 g_X8_122 (c_X8_isCorner) rfl rfl (Nat.le_of_ble_eq_true rfl) (Nat.le_of_ble_eq_true rfl) rfl ?_
  refine s_if_eq (tgt := 14) dX8_edge_4 (by decide) (fun hqz => absurd hqz (miY (n := 7) (by omega) (by decide))) (fun hz => ?_)
  clear hz
  refine s_iload_n dX8_edge_7 rfl ?_
  refine s_cs1 dX8_edge_8 g_X8_122 (c_X8_isCorner) rfl rfl (Nat.le_of_ble_eq_true rfl) (Nat.le_of_ble_eq_true rfl) rfl ?_
  refine s_if_ne (tgt := 16) dX8_edge_11 (by decide) (fun hqz => absurd (miN (n := 7) (by decide) hc) hqz) (fun hz => ?_)
  clear hz
  refine s_iconst (v := (-1)) dX8_edge_14 rfl ?_
  exact s_iret dX8_edge_15 rfl ⟨rfl, rfl⟩ (by first | rfl | exact List.length_set)
set_option maxHeartbeats 4000000 in
set_option maxRecDepth 100000 in
theorem y_edge3 {Z : zS} {d : Nat} {w : zW} {b k : Nat} {mf ma mc ms me mq mu mh mp : Int32} (ho : w[41]? = some (oM (nI b) (nI k) mf ma mc ms me mq mu mh mp)) (hb : b < 256) {c e : Nat} (hc : c < 8) (he : e < 8) (hx : c = e ∨ zb b c = 0 ∨ zb b e = 0) : zF Z M_X8_edge (d + 6) [.ref 41, .int (nI c), .int (nI e)] w [.int (-5)] w := by
  show zG Z M_X8_edge (d + 6) _ w.length 0 [(0, .ref 41), (1, .int (nI c)), (2, .int (nI e))] [] w
  by_cases h1 : c = e
  · refine s_iload_n dX8_edge_0 rfl ?_
    refine s_cs1 dX8_edge_1 g_X8_122 (c_X8_isCorner) rfl rfl (Nat.le_of_ble_eq_true rfl) (Nat.le_of_ble_eq_true rfl) rfl ?_
    refine s_if_eq (tgt := 14) dX8_edge_4 (by decide) (fun hqz => absurd hqz (miY (n := 7) (by omega) (by decide))) (fun hz => ?_)
    clear hz
    refine s_iload_n dX8_edge_7 rfl ?_
    refine s_cs1 dX8_edge_8 g_X8_122 (c_X8_isCorner) rfl rfl (Nat.le_of_ble_eq_true rfl) (Nat.le_of_ble_eq_true rfl) rfl ?_
    refine s_if_ne (tgt := 16) dX8_edge_11 (by decide) (fun hz => ?_) (fun hqz => absurd hqz (miY (n := 7) (by omega) (by decide)))
    clear hz
    refine s_iload_n dX8_edge_16 rfl ?_
    refine s_iload_n dX8_edge_17 rfl ?_
    refine s_icmp_eq (tgt := 39) dX8_edge_18 (by decide) (fun hz => ?_) (fun hqz => absurd (by rw [h1]) hqz)
    clear hz
    refine s_bipush (v := (-5)) dX8_edge_39 rfl ?_
    exact s_iret dX8_edge_41 rfl ⟨rfl, rfl⟩ (by first | rfl | exact List.length_set)
  · have hx2 : ¬ (zb b c = 1 ∧ zb b e = 1) := by rcases hx with h | h | h <;> omega
    refine s_iload_n dX8_edge_0 rfl ?_
    refine s_cs1 dX8_edge_1 g_X8_122 (c_X8_isCorner) rfl rfl (Nat.le_of_ble_eq_true rfl) (Nat.le_of_ble_eq_true rfl) rfl ?_
    refine s_if_eq (tgt := 14) dX8_edge_4 (by decide) (fun hqz => absurd hqz (miY (n := 7) (by omega) (by decide))) (fun hz => ?_)
    clear hz
    refine s_iload_n dX8_edge_7 rfl ?_
    refine s_cs1 dX8_edge_8 g_X8_122 (c_X8_isCorner) rfl rfl (Nat.le_of_ble_eq_true rfl) (Nat.le_of_ble_eq_true rfl) rfl ?_
    refine s_if_ne (tgt := 16) dX8_edge_11 (by decide) (fun hz => ?_) (fun hqz => absurd hqz (miY (n := 7) (by omega) (by decide)))
    clear hz
    refine s_iload_n dX8_edge_16 rfl ?_
    refine s_iload_n dX8_edge_17 rfl ?_
    refine s_icmp_eq (tgt := 39) dX8_edge_18 (by decide) (fun hqz => absurd hqz (fun q => h1 ((nI_eq (by omega) (by omega)).mp q))) (fun hz => ?_)
    clear hz
    refine s_aload_n dX8_edge_21 rfl ?_
    refine s_get dX8_edge_22 f_X8_125 (by first | assumption | exact zgs (zlt ho) | exact zg1 (by assumption) (by decide)) (by rfl) ?_
    refine s_iload_n dX8_edge_25 rfl ?_
    refine s_ishr dX8_edge_26 ?_
    refine s_aload_n dX8_edge_27 rfl ?_
    refine s_get dX8_edge_28 f_X8_125 (by first | assumption | exact zgs (zlt ho) | exact zg1 (by assumption) (by decide)) (by rfl) ?_
    refine s_iload_n dX8_edge_31 rfl ?_
    refine s_ishr dX8_edge_32 ?_
    refine s_iand dX8_edge_33 ?_
    refine s_iconst (v := 1) dX8_edge_34 rfl ?_
    refine s_iand dX8_edge_35 ?_
    rw [q_bb b hb c hc e he]
    refine s_if_ne (tgt := 42) dX8_edge_36 (by decide) (fun hqz => absurd (by rcases hx with h | h | h; exact absurd h h1; rw [h, Nat.zero_mul]; rfl; rw [h, Nat.mul_zero]; rfl) hqz) (fun hz => ?_)
    clear hz
    refine s_bipush (v := (-5)) dX8_edge_39 rfl ?_
    exact s_iret dX8_edge_41 rfl ⟨rfl, rfl⟩ (by first | rfl | exact List.length_set)
theorem q_pp : ∀ c, c < 8 → ∀ e, e < 8 → c ≠ e → pPOP (2 ^ c ||| 2 ^ e) = 2 := by decide +kernel
set_option maxHeartbeats 4000000 in
set_option maxRecDepth 100000 in
theorem y_edge {Z : zS} {d : Nat} {w : zW} {b k : Nat} {mf ma mc ms me mq mu mh mp : Int32} (ho : w[41]? = some (oM (nI b) (nI k) mf ma mc ms me mq mu mh mp)) (hb : b < 256) {c e : Nat} (hc : c < 8) (he : e < 8) (h1 : ¬ c = e) (h2 : ¬ zb b c = 0) (h3 : ¬ zb b e = 0) : zF Z M_X8_edge (d + 6) [.ref 41, .int (nI c), .int (nI e)] w [.int (if (kTP b (2 ^ c ||| 2 ^ e) && decide (pPOP (2 ^ c ||| 2 ^ e) = 2)) = true then 1 else 0)] w := by
  show zG Z M_X8_edge (d + 6) _ w.length 0 [(0, .ref 41), (1, .int (nI c)), (2, .int (nI e))] [] w
  rw [decide_eq_true (q_pp c hc e he h1), Bool.and_true]
  refine s_iload_n dX8_edge_0 rfl ?_
  refine s_cs1 dX8_edge_1 g_X8_122 (c_X8_isCorner) rfl rfl (Nat.le_of_ble_eq_true rfl) (Nat.le_of_ble_eq_true rfl) rfl ?_
  refine s_if_eq (tgt := 14) dX8_edge_4 (by decide) (fun hqz => absurd hqz (miY (n := 7) (by omega) (by decide))) (fun hz => ?_)
  clear hz
  refine s_iload_n dX8_edge_7 rfl ?_
  refine s_cs1 dX8_edge_8 g_X8_122 (c_X8_isCorner) rfl rfl (Nat.le_of_ble_eq_true rfl) (Nat.le_of_ble_eq_true rfl) rfl ?_
  refine s_if_ne (tgt := 16) dX8_edge_11 (by decide) (fun hz => ?_) (fun hqz => absurd hqz (miY (n := 7) (by omega) (by decide)))
  clear hz
  refine s_iload_n dX8_edge_16 rfl ?_
  refine s_iload_n dX8_edge_17 rfl ?_
  refine s_icmp_eq (tgt := 39) dX8_edge_18 (by decide) (fun hqz => absurd hqz (fun q => h1 ((nI_eq (by omega) (by omega)).mp q))) (fun hz => ?_)
  clear hz
  refine s_aload_n dX8_edge_21 rfl ?_
  refine s_get dX8_edge_22 f_X8_125 (by first | assumption | exact zgs (zlt ho) | exact zg1 (by assumption) (by decide)) (by rfl) ?_
  refine s_iload_n dX8_edge_25 rfl ?_
  refine s_ishr dX8_edge_26 ?_
  refine s_aload_n dX8_edge_27 rfl ?_
  refine s_get dX8_edge_28 f_X8_125 (by first | assumption | exact zgs (zlt ho) | exact zg1 (by assumption) (by decide)) (by rfl) ?_
  refine s_iload_n dX8_edge_31 rfl ?_
  refine s_ishr dX8_edge_32 ?_
  refine s_iand dX8_edge_33 ?_
  refine s_iconst (v := 1) dX8_edge_34 rfl ?_
  refine s_iand dX8_edge_35 ?_
  rw [q_bb b hb c hc e he]
  refine s_if_ne (tgt := 42) dX8_edge_36 (by decide) (fun hz => ?_) (fun hqz => absurd hqz (by rw [zb1 h2, zb1 h3]; decide))
  clear hz
  refine s_aload_n dX8_edge_42 rfl ?_
  refine s_get dX8_edge_43 f_X8_125 (by first | assumption | exact zgs (zlt ho) | exact zg1 (by assumption) (by decide)) (by rfl) ?_
  refine s_iload_n dX8_edge_46 rfl ?_
  refine s_iload_n dX8_edge_47 rfl ?_
  refine s_cs1 dX8_edge_48 g_X8_109 (c_X8_isEdge hb (zb_ne (zb1 h2)) hc he) rfl rfl (Nat.le_of_ble_eq_true rfl) (Nat.le_of_ble_eq_true rfl) rfl ?_
  refine s_if_eq (tgt := 58) dX8_edge_51 (by decide) (fun h_51 => ?_) (fun h_51 => ?_)
  · refine s_iconst (v := 0) dX8_edge_58 rfl ?_
    exact s_iret dX8_edge_59 rfl ⟨by first | (rw [zB1 h_51]; rfl) | (rw [zB0 h_51]; rfl), rfl⟩ (by first | rfl | exact List.length_set)
  · refine s_iconst (v := 1) dX8_edge_54 rfl ?_
    refine s_goto (tgt := 59) dX8_edge_55 (by decide) ?_
    exact s_iret dX8_edge_59 rfl ⟨by first | (rw [zB1 h_51]; rfl) | (rw [zB0 h_51]; rfl), rfl⟩ (by first | rfl | exact List.length_set)
set_option maxHeartbeats 4000000 in
set_option maxRecDepth 100000 in
theorem y_points1 {Z : zS} {d : Nat} {w : zW} {b k : Nat} {mf ma mc ms me mq mu mh mp : Int32} (ho : w[41]? = some (oM (nI b) (nI k) mf ma mc ms me mq mu mh mp)) (hb : b < 256) {m : Int32} (hm : m < 1 ∨ 3 < m) : zF Z M_X8_points (d + 1) [.ref 41, .int m] w [.int (-2)] w := by
  show zG Z M_X8_points (d + 1) _ _ 0 [(0, .ref 41), (1, .int m)] [] w
  refine s_iload_n dX8_points_0 rfl ?_
  refine s_iconst (v := 1) dX8_points_1 rfl ?_
  refine s_iconst (v := 3) dX8_points_2 rfl ?_
  refine s_cs1 dX8_points_3 g_X8_5 (c_X8_isIn) rfl rfl (Nat.le_of_ble_eq_true rfl) (Nat.le_of_ble_eq_true rfl) rfl ?_
  refine s_if_ne (tgt := 14) dX8_points_6 (by decide) (fun hqz => absurd (zmN hm) hqz) (fun hz => ?_)
  clear hz
  refine s_bipush (v := (-2)) dX8_points_9 rfl ?_
  refine s_goto (tgt := 34) dX8_points_11 (by decide) ?_
  exact s_iret dX8_points_34 rfl ⟨rfl, rfl⟩ (by first | rfl | exact List.length_set)
set_option maxHeartbeats 4000000 in
set_option maxRecDepth 100000 in
theorem y_points2 {Z : zS} {d : Nat} {w : zW} {b k : Nat} {mf ma mc ms me mq mu mh mp : Int32} (ho : w[41]? = some (oM (nI b) (nI k) mf ma mc ms me mq mu mh mp)) (hb : b < 256) {m : Nat} (h1 : 1 ≤ m) (h3 : m ≤ 3) (hb0 : b = 0) : zF Z M_X8_points (d + 1) [.ref 41, .int (nI m)] w [.int (-3)] w := by
  show zG Z M_X8_points (d + 1) _ _ 0 [(0, .ref 41), (1, .int (nI m))] [] w
  refine s_iload_n dX8_points_0 rfl ?_
  refine s_iconst (v := 1) dX8_points_1 rfl ?_
  refine s_iconst (v := 3) dX8_points_2 rfl ?_
  refine s_cs1 dX8_points_3 g_X8_5 (c_X8_isIn) rfl rfl (Nat.le_of_ble_eq_true rfl) (Nat.le_of_ble_eq_true rfl) rfl ?_
  refine s_if_ne (tgt := 14) dX8_points_6 (by decide) (fun hz => ?_) (fun hqz => absurd hqz (zmY h1 h3))
  clear hz
  refine s_aload_n dX8_points_14 rfl ?_
  refine s_get dX8_points_15 f_X8_125 (by first | assumption | exact zgs (zlt ho) | exact zg1 (by assumption) (by decide)) (by rfl) ?_
  refine s_if_ne (tgt := 26) dX8_points_18 (by decide) (fun hqz => absurd (by rw [hb0]; rfl) hqz) (fun hz => ?_)
  clear hz
  refine s_bipush (v := (-3)) dX8_points_21 rfl ?_
  refine s_goto (tgt := 34) dX8_points_23 (by decide) ?_
  exact s_iret dX8_points_34 rfl ⟨rfl, rfl⟩ (by first | rfl | exact List.length_set)
set_option maxHeartbeats 4000000 in
set_option maxRecDepth 100000 in
theorem y_points {Z : zS} {d : Nat} {w : zW} {b k : Nat} {mf ma mc ms me mq mu mh mp : Int32} (ho : w[41]? = some (oM (nI b) (nI k) mf ma mc ms me mq mu mh mp)) (hb : b < 256) {m : Nat} (h1 : 1 ≤ m) (h3 : m ≤ 3) (hb0 : b ≠ 0) : zF Z M_X8_points (d + 6) [.ref 41, .int (nI m)] w [.int (nI (kPT b m))] w := by
  show zG Z M_X8_points (d + 6) _ _ 0 [(0, .ref 41), (1, .int (nI m))] [] w
  refine s_iload_n dX8_points_0 rfl ?_
  refine s_iconst (v := 1) dX8_points_1 rfl ?_
  refine s_iconst (v := 3) dX8_points_2 rfl ?_
  refine s_cs1 dX8_points_3 g_X8_5 (c_X8_isIn) rfl rfl (Nat.le_of_ble_eq_true rfl) (Nat.le_of_ble_eq_true rfl) rfl ?_
  refine s_if_ne (tgt := 14) dX8_points_6 (by decide) (fun hz => ?_) (fun hqz => absurd hqz (zmY h1 h3))
  clear hz
  refine s_aload_n dX8_points_14 rfl ?_
  refine s_get dX8_points_15 f_X8_125 (by first | assumption | exact zgs (zlt ho) | exact zg1 (by assumption) (by decide)) (by rfl) ?_
  refine s_if_ne (tgt := 26) dX8_points_18 (by decide) (fun hz => ?_) (fun hqz => absurd hqz (fun q => hb0 ((zn0 (by omega)).mp q)))
  clear hz
  refine s_aload_n dX8_points_26 rfl ?_
  refine s_get dX8_points_27 f_X8_125 (by first | assumption | exact zgs (zlt ho) | exact zg1 (by assumption) (by decide)) (by rfl) ?_
  refine s_iload_n dX8_points_30 rfl ?_
  refine s_cs1 dX8_points_31 g_X8_116 (c_X8_pointsOf hb hb0 h3) rfl rfl (Nat.le_of_ble_eq_true rfl) (Nat.le_of_ble_eq_true rfl) rfl ?_
  exact s_iret dX8_points_34 rfl ⟨rfl, rfl⟩ (by first | rfl | exact List.length_set)
set_option maxHeartbeats 4000000 in
set_option maxRecDepth 100000 in
theorem y_holds1 {Z : zS} {d : Nat} {w : zW} {b k : Nat} {mf ma mc ms me mq mu mh mp : Int32} (ho : w[41]? = some (oM (nI b) (nI k) mf ma mc ms me mq mu mh mp)) (hb : b < 256) {m x y z : Int32} (hbad : (m < 1 ∨ 3 < m) ∨ (x < 0 ∨ 3 < x) ∨ (y < 0 ∨ 3 < y) ∨ (z < 0 ∨ 3 < z)) : zF Z M_X8_holds (d + 1) [.ref 41, .int m, .int x, .int y, .int z] w [.int (-2)] w := by
  show zG Z M_X8_holds (d + 1) _ _ 0 [(0, .ref 41), (1, .int m), (2, .int x), (3, .int y), (4, .int z)] [] w
  refine s_iload_n dX8_holds_0 rfl ?_
  refine s_iconst (v := 1) dX8_holds_1 rfl ?_
  refine s_iconst (v := 3) dX8_holds_2 rfl ?_
  refine s_cs1 dX8_holds_3 g_X8_5 (c_X8_isIn) rfl rfl (Nat.le_of_ble_eq_true rfl) (Nat.le_of_ble_eq_true rfl) rfl ?_
  refine s_if_eq (tgt := 37) dX8_holds_6 (by decide) (fun h_6 => ?_) (fun h_6 => ?_)
  · refine s_bipush (v := (-2)) dX8_holds_37 rfl ?_
    exact s_iret dX8_holds_39 rfl ⟨rfl, rfl⟩ (by first | rfl | exact List.length_set)
  · refine s_iload_n dX8_holds_9 rfl ?_
    refine s_iconst (v := 0) dX8_holds_10 rfl ?_
    refine s_iconst (v := 3) dX8_holds_11 rfl ?_
    refine s_cs1 dX8_holds_12 g_X8_5 (c_X8_isIn) rfl rfl (Nat.le_of_ble_eq_true rfl) (Nat.le_of_ble_eq_true rfl) rfl ?_
    refine s_if_eq (tgt := 37) dX8_holds_15 (by decide) (fun h_15 => ?_) (fun h_15 => ?_)
    · refine s_bipush (v := (-2)) dX8_holds_37 rfl ?_
      exact s_iret dX8_holds_39 rfl ⟨rfl, rfl⟩ (by first | rfl | exact List.length_set)
    · refine s_iload_n dX8_holds_18 rfl ?_
      refine s_iconst (v := 0) dX8_holds_19 rfl ?_
      refine s_iconst (v := 3) dX8_holds_20 rfl ?_
      refine s_cs1 dX8_holds_21 g_X8_5 (c_X8_isIn) rfl rfl (Nat.le_of_ble_eq_true rfl) (Nat.le_of_ble_eq_true rfl) rfl ?_
      refine s_if_eq (tgt := 37) dX8_holds_24 (by decide) (fun h_24 => ?_) (fun h_24 => ?_)
      · refine s_bipush (v := (-2)) dX8_holds_37 rfl ?_
        exact s_iret dX8_holds_39 rfl ⟨rfl, rfl⟩ (by first | rfl | exact List.length_set)
      · refine s_iload dX8_holds_27 rfl ?_
        refine s_iconst (v := 0) dX8_holds_29 rfl ?_
        refine s_iconst (v := 3) dX8_holds_30 rfl ?_
        refine s_cs1 dX8_holds_31 g_X8_5 (c_X8_isIn) rfl rfl (Nat.le_of_ble_eq_true rfl) (Nat.le_of_ble_eq_true rfl) rfl ?_
        refine s_if_ne (tgt := 40) dX8_holds_34 (by decide) (fun h_34 => ?_) (fun h_34 => ?_)
        · exfalso
          rcases hbad with h | h | h | h
          · exact h_6 (zmN h)
          · exact h_15 (zpN h)
          · exact h_24 (zpN h)
          · exact h_34 (zpN h)
        · refine s_bipush (v := (-2)) dX8_holds_37 rfl ?_
          exact s_iret dX8_holds_39 rfl ⟨rfl, rfl⟩ (by first | rfl | exact List.length_set)
set_option maxHeartbeats 4000000 in
set_option maxRecDepth 100000 in
theorem y_holds2 {Z : zS} {d : Nat} {w : zW} {b k : Nat} {mf ma mc ms me mq mu mh mp : Int32} (ho : w[41]? = some (oM (nI b) (nI k) mf ma mc ms me mq mu mh mp)) (hb : b < 256) {m x y z : Nat} (h1 : 1 ≤ m) (h3 : m ≤ 3) (hx : x < 4) (hy : y < 4) (hz4 : z < 4) (hb0 : b = 0) : zF Z M_X8_holds (d + 1) [.ref 41, .int (nI m), .int (nI x), .int (nI y), .int (nI z)] w [.int (-3)] w := by
  show zG Z M_X8_holds (d + 1) _ _ 0 [(0, .ref 41), (1, .int (nI m)), (2, .int (nI x)), (3, .int (nI y)), (4, .int (nI z))] [] w
  refine s_iload_n dX8_holds_0 rfl ?_
  refine s_iconst (v := 1) dX8_holds_1 rfl ?_
  refine s_iconst (v := 3) dX8_holds_2 rfl ?_
  refine s_cs1 dX8_holds_3 g_X8_5 (c_X8_isIn) rfl rfl (Nat.le_of_ble_eq_true rfl) (Nat.le_of_ble_eq_true rfl) rfl ?_
  refine s_if_eq (tgt := 37) dX8_holds_6 (by decide) (fun hqz => absurd hqz (zmY h1 h3)) (fun hz => ?_)
  clear hz
  refine s_iload_n dX8_holds_9 rfl ?_
  refine s_iconst (v := 0) dX8_holds_10 rfl ?_
  refine s_iconst (v := 3) dX8_holds_11 rfl ?_
  refine s_cs1 dX8_holds_12 g_X8_5 (c_X8_isIn) rfl rfl (Nat.le_of_ble_eq_true rfl) (Nat.le_of_ble_eq_true rfl) rfl ?_
  refine s_if_eq (tgt := 37) dX8_holds_15 (by decide) (fun hqz => absurd hqz (zpY hx)) (fun hz => ?_)
  clear hz
  refine s_iload_n dX8_holds_18 rfl ?_
  refine s_iconst (v := 0) dX8_holds_19 rfl ?_
  refine s_iconst (v := 3) dX8_holds_20 rfl ?_
  refine s_cs1 dX8_holds_21 g_X8_5 (c_X8_isIn) rfl rfl (Nat.le_of_ble_eq_true rfl) (Nat.le_of_ble_eq_true rfl) rfl ?_
  refine s_if_eq (tgt := 37) dX8_holds_24 (by decide) (fun hqz => absurd hqz (zpY hy)) (fun hz => ?_)
  clear hz
  refine s_iload dX8_holds_27 rfl ?_
  refine s_iconst (v := 0) dX8_holds_29 rfl ?_
  refine s_iconst (v := 3) dX8_holds_30 rfl ?_
  refine s_cs1 dX8_holds_31 g_X8_5 (c_X8_isIn) rfl rfl (Nat.le_of_ble_eq_true rfl) (Nat.le_of_ble_eq_true rfl) rfl ?_
  refine s_if_ne (tgt := 40) dX8_holds_34 (by decide) (fun hz => ?_) (fun hqz => absurd hqz (zpY hz4))
  clear hz
  refine s_aload_n dX8_holds_40 rfl ?_
  refine s_get dX8_holds_41 f_X8_125 (by first | assumption | exact zgs (zlt ho) | exact zg1 (by assumption) (by decide)) (by rfl) ?_
  refine s_if_ne (tgt := 52) dX8_holds_44 (by decide) (fun hqz => absurd (by rw [hb0]; rfl) hqz) (fun hz => ?_)
  clear hz
  refine s_bipush (v := (-3)) dX8_holds_47 rfl ?_
  refine s_goto (tgt := 72) dX8_holds_49 (by decide) ?_
  exact s_iret dX8_holds_72 rfl ⟨rfl, rfl⟩ (by first | rfl | exact List.length_set)
set_option maxHeartbeats 4000000 in
set_option maxRecDepth 100000 in
theorem y_holds {Z : zS} {d : Nat} {w : zW} {b k : Nat} {mf ma mc ms me mq mu mh mp : Int32} (ho : w[41]? = some (oM (nI b) (nI k) mf ma mc ms me mq mu mh mp)) (hb : b < 256) {m x y z : Nat} (h1 : 1 ≤ m) (h3 : m ≤ 3) (hx : x < 4) (hy : y < 4) (hz4 : z < 4) (hb0 : b ≠ 0) : zF Z M_X8_holds (d + 5) [.ref 41, .int (nI m), .int (nI x), .int (nI y), .int (nI z)] w [.int (if kIN b m x y z 171 0 = true then 1 else 0)] w := by
  show zG Z M_X8_holds (d + 5) _ _ 0 [(0, .ref 41), (1, .int (nI m)), (2, .int (nI x)), (3, .int (nI y)), (4, .int (nI z))] [] w
  refine s_iload_n dX8_holds_0 rfl ?_
  refine s_iconst (v := 1) dX8_holds_1 rfl ?_
  refine s_iconst (v := 3) dX8_holds_2 rfl ?_
  refine s_cs1 dX8_holds_3 g_X8_5 (c_X8_isIn) rfl rfl (Nat.le_of_ble_eq_true rfl) (Nat.le_of_ble_eq_true rfl) rfl ?_
  refine s_if_eq (tgt := 37) dX8_holds_6 (by decide) (fun hqz => absurd hqz (zmY h1 h3)) (fun hz => ?_)
  clear hz
  refine s_iload_n dX8_holds_9 rfl ?_
  refine s_iconst (v := 0) dX8_holds_10 rfl ?_
  refine s_iconst (v := 3) dX8_holds_11 rfl ?_
  refine s_cs1 dX8_holds_12 g_X8_5 (c_X8_isIn) rfl rfl (Nat.le_of_ble_eq_true rfl) (Nat.le_of_ble_eq_true rfl) rfl ?_
  refine s_if_eq (tgt := 37) dX8_holds_15 (by decide) (fun hqz => absurd hqz (zpY hx)) (fun hz => ?_)
  clear hz
  refine s_iload_n dX8_holds_18 rfl ?_
  refine s_iconst (v := 0) dX8_holds_19 rfl ?_
  refine s_iconst (v := 3) dX8_holds_20 rfl ?_
  refine s_cs1 dX8_holds_21 g_X8_5 (c_X8_isIn) rfl rfl (Nat.le_of_ble_eq_true rfl) (Nat.le_of_ble_eq_true rfl) rfl ?_
  refine s_if_eq (tgt := 37) dX8_holds_24 (by decide) (fun hqz => absurd hqz (zpY hy)) (fun hz => ?_)
  clear hz
  refine s_iload dX8_holds_27 rfl ?_
  refine s_iconst (v := 0) dX8_holds_29 rfl ?_
  refine s_iconst (v := 3) dX8_holds_30 rfl ?_
  refine s_cs1 dX8_holds_31 g_X8_5 (c_X8_isIn) rfl rfl (Nat.le_of_ble_eq_true rfl) (Nat.le_of_ble_eq_true rfl) rfl ?_
  refine s_if_ne (tgt := 40) dX8_holds_34 (by decide) (fun hz => ?_) (fun hqz => absurd hqz (zpY hz4))
  clear hz
  refine s_aload_n dX8_holds_40 rfl ?_
  refine s_get dX8_holds_41 f_X8_125 (by first | assumption | exact zgs (zlt ho) | exact zg1 (by assumption) (by decide)) (by rfl) ?_
  refine s_if_ne (tgt := 52) dX8_holds_44 (by decide) (fun hz => ?_) (fun hqz => absurd hqz (fun q => hb0 ((zn0 (by omega)).mp q)))
  clear hz
  refine s_aload_n dX8_holds_52 rfl ?_
  refine s_get dX8_holds_53 f_X8_125 (by first | assumption | exact zgs (zlt ho) | exact zg1 (by assumption) (by decide)) (by rfl) ?_
  refine s_iload_n dX8_holds_56 rfl ?_
  refine s_iload_n dX8_holds_57 rfl ?_
  refine s_iload_n dX8_holds_58 rfl ?_
  refine s_iload dX8_holds_59 rfl ?_
  refine s_cs1 dX8_holds_61 g_X8_112 (c_X8_isWithin hb hb0 h3 hx hy hz4) rfl rfl (Nat.le_of_ble_eq_true rfl) (Nat.le_of_ble_eq_true rfl) rfl ?_
  refine s_if_eq (tgt := 71) dX8_holds_64 (by decide) (fun h_64 => ?_) (fun h_64 => ?_)
  · refine s_iconst (v := 0) dX8_holds_71 rfl ?_
    exact s_iret dX8_holds_72 rfl ⟨by first | (rw [zB1 h_64]; rfl) | (rw [zB0 h_64]; rfl), rfl⟩ (by first | rfl | exact List.length_set)
  · refine s_iconst (v := 1) dX8_holds_67 rfl ?_
    refine s_goto (tgt := 72) dX8_holds_68 (by decide) ?_
    exact s_iret dX8_holds_72 rfl ⟨by first | (rw [zB1 h_64]; rfl) | (rw [zB0 h_64]; rfl), rfl⟩ (by first | rfl | exact List.length_set)
