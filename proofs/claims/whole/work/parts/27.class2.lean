/-! ===== the class: weights, faces, points, floats, odds ===== -/
theorem zwN {a : Int32} (h : a < -3 ∨ 3 < a) : (if a < -3 then (0 : Int32) else if 3 < a then 0 else 1) = 0 := by
  by_cases h2 : a < -3
  · rw [if_pos h2]
  · rw [if_neg h2, if_pos (h.resolve_left h2)]
theorem q_iw : ∀ n, n < 343 → (¬ (if nZ (wa n) < -3 then (0 : Int32) else if 3 < nZ (wa n) then 0 else 1) = 0) ∧ (¬ (if nZ (wb n) < -3 then (0 : Int32) else if 3 < nZ (wb n) then 0 else 1) = 0) ∧ (¬ (if nZ (wc n) < -3 then (0 : Int32) else if 3 < nZ (wc n) then 0 else 1) = 0) := by decide +kernel
theorem q_nw : ∀ n, n < 343 → n ≠ 171 → ¬ (nZ (wa n) = 0 ∧ nZ (wb n) = 0 ∧ nZ (wc n) = 0) := by decide +kernel
theorem q_ng : ∀ n, n < 343 → -nZ (wa n) = nZ (wa (342 - n)) ∧ -nZ (wb n) = nZ (wb (342 - n)) ∧ -nZ (wc n) = nZ (wc (342 - n)) := by decide +kernel
set_option maxHeartbeats 4000000 in
set_option maxRecDepth 100000 in
theorem x_weighs1 {Z : zS} {d : Nat} {b k : Nat} {rs re rb : zRw} {th : zHd} {hi : Int32} {tx : zTx} {sh : zSh} {tp : zTs} {R : zW} {a1 a2 a3 a4 : Int32} (hbad : (a1 < -3 ∨ 3 < a1) ∨ (a2 < -3 ∨ 3 < a2) ∨ (a3 < -3 ∨ 3 < a3) ∨ (a1 = 0 ∧ a2 = 0 ∧ a3 = 0)) : zF Z M_X7_weighs (d + 1) [.ref 0, .int a1, .int a2, .int a3, .int a4] (wX (nI b, nI k, rs, re, rb) th hi tx sh tp ++ R) [.int (-2)] (wX (nI b, nI k, rs, re, rb) th hi tx sh tp ++ R) := by
  unfold zF
  rw [wXlen]
  show zG Z M_X7_weighs (d + 1) _ (R.length + 41) 0 [(0, .ref 0), (1, .int a1), (2, .int a2), (3, .int a3), (4, .int a4)] [] (wX (nI b, nI k, rs, re, rb) th hi tx sh tp ++ R)
  refine s_iload_n dX7_weighs_0 rfl ?_
  refine s_cs1 dX7_weighs_1 g_X7_136 (c_X7_isWeight) rfl rfl (Nat.le_of_ble_eq_true rfl) (Nat.le_of_ble_eq_true rfl) rfl ?_
  refine s_if_eq (tgt := 33) dX7_weighs_4 (by decide) (fun h_4 => ?_) (fun h_4 => ?_)
  · refine s_bipush (v := (-2)) dX7_weighs_33 rfl ?_
    exact s_iret dX7_weighs_35 rfl ⟨rfl, rfl⟩ (by first | exact wXlen | rfl)
  · refine s_iload_n dX7_weighs_7 rfl ?_
    refine s_cs1 dX7_weighs_8 g_X7_136 (c_X7_isWeight) rfl rfl (Nat.le_of_ble_eq_true rfl) (Nat.le_of_ble_eq_true rfl) rfl ?_
    refine s_if_eq (tgt := 33) dX7_weighs_11 (by decide) (fun h_11 => ?_) (fun h_11 => ?_)
    · refine s_bipush (v := (-2)) dX7_weighs_33 rfl ?_
      exact s_iret dX7_weighs_35 rfl ⟨rfl, rfl⟩ (by first | exact wXlen | rfl)
    · refine s_iload_n dX7_weighs_14 rfl ?_
      refine s_cs1 dX7_weighs_15 g_X7_136 (c_X7_isWeight) rfl rfl (Nat.le_of_ble_eq_true rfl) (Nat.le_of_ble_eq_true rfl) rfl ?_
      refine s_if_eq (tgt := 33) dX7_weighs_18 (by decide) (fun h_18 => ?_) (fun h_18 => ?_)
      · refine s_bipush (v := (-2)) dX7_weighs_33 rfl ?_
        exact s_iret dX7_weighs_35 rfl ⟨rfl, rfl⟩ (by first | exact wXlen | rfl)
      · refine s_iload_n dX7_weighs_21 rfl ?_
        refine s_if_ne (tgt := 36) dX7_weighs_22 (by decide) (fun h_22 => ?_) (fun h_22 => ?_)
        · rcases hbad with h | h | h | h
          · exact absurd (zwN h) h_4
          · exact absurd (zwN h) h_11
          · exact absurd (zwN h) h_18
          · exact absurd h.1 h_22
        · refine s_iload_n dX7_weighs_25 rfl ?_
          refine s_if_ne (tgt := 36) dX7_weighs_26 (by decide) (fun h_26 => ?_) (fun h_26 => ?_)
          · rcases hbad with h | h | h | h
            · exact absurd (zwN h) h_4
            · exact absurd (zwN h) h_11
            · exact absurd (zwN h) h_18
            · exact absurd h.2.1 h_26
          · refine s_iload_n dX7_weighs_29 rfl ?_
            refine s_if_ne (tgt := 36) dX7_weighs_30 (by decide) (fun h_30 => ?_) (fun h_30 => ?_)
            · rcases hbad with h | h | h | h
              · exact absurd (zwN h) h_4
              · exact absurd (zwN h) h_11
              · exact absurd (zwN h) h_18
              · exact absurd h.2.2 h_30
            · refine s_bipush (v := (-2)) dX7_weighs_33 rfl ?_
              exact s_iret dX7_weighs_35 rfl ⟨rfl, rfl⟩ (by first | exact wXlen | rfl)
set_option maxHeartbeats 4000000 in
set_option maxRecDepth 100000 in
theorem x_weighs36 {Z : zS} {d : Nat} {b k : Nat} {rs re rb : zRw} {th : zHd} {hi : Int32} {tx : zTx} {sh : zSh} {tp : zTs} {R : zW} {n : Nat} {a4 r : Int32} (hn : n < 343) (h0 : n ≠ 171) (K : zG Z M_X7_weighs (d + 2) (fun r1 w1 => r1 = [.int r] ∧ w1 = (wX (nI b, nI k, rs, re, rb) th hi tx sh tp ++ R)) (R.length + 41) 36 [(0, .ref 0), (1, .int (nZ (wa n))), (2, .int (nZ (wb n))), (3, .int (nZ (wc n))), (4, .int a4)] [] (wX (nI b, nI k, rs, re, rb) th hi tx sh tp ++ R)) : zF Z M_X7_weighs (d + 2) [.ref 0, .int (nZ (wa n)), .int (nZ (wb n)), .int (nZ (wc n)), .int a4] (wX (nI b, nI k, rs, re, rb) th hi tx sh tp ++ R) [.int r] (wX (nI b, nI k, rs, re, rb) th hi tx sh tp ++ R) := by
  have hw := q_iw n hn
  unfold zF
  rw [wXlen]
  show zG Z M_X7_weighs (d + 2) _ (R.length + 41) 0 [(0, .ref 0), (1, .int (nZ (wa n))), (2, .int (nZ (wb n))), (3, .int (nZ (wc n))), (4, .int a4)] [] (wX (nI b, nI k, rs, re, rb) th hi tx sh tp ++ R)
  refine s_iload_n dX7_weighs_0 rfl ?_
  refine s_cs1 dX7_weighs_1 g_X7_136 (c_X7_isWeight) rfl rfl (Nat.le_of_ble_eq_true rfl) (Nat.le_of_ble_eq_true rfl) rfl ?_
  refine s_if_eq (tgt := 33) dX7_weighs_4 (by decide) (fun hqz => absurd hqz hw.1) (fun hz => ?_)
  clear hz
  refine s_iload_n dX7_weighs_7 rfl ?_
  refine s_cs1 dX7_weighs_8 g_X7_136 (c_X7_isWeight) rfl rfl (Nat.le_of_ble_eq_true rfl) (Nat.le_of_ble_eq_true rfl) rfl ?_
  refine s_if_eq (tgt := 33) dX7_weighs_11 (by decide) (fun hqz => absurd hqz hw.2.1) (fun hz => ?_)
  clear hz
  refine s_iload_n dX7_weighs_14 rfl ?_
  refine s_cs1 dX7_weighs_15 g_X7_136 (c_X7_isWeight) rfl rfl (Nat.le_of_ble_eq_true rfl) (Nat.le_of_ble_eq_true rfl) rfl ?_
  refine s_if_eq (tgt := 33) dX7_weighs_18 (by decide) (fun hqz => absurd hqz hw.2.2) (fun hz => ?_)
  clear hz
  refine s_iload_n dX7_weighs_21 rfl ?_
  refine s_if_ne (tgt := 36) dX7_weighs_22 (by decide) (fun h_22 => ?_) (fun h_22 => ?_)
  · exact K
  · refine s_iload_n dX7_weighs_25 rfl ?_
    refine s_if_ne (tgt := 36) dX7_weighs_26 (by decide) (fun h_26 => ?_) (fun h_26 => ?_)
    · exact K
    · refine s_iload_n dX7_weighs_29 rfl ?_
      refine s_if_ne (tgt := 36) dX7_weighs_30 (by decide) (fun h_30 => ?_) (fun h_30 => ?_)
      · exact K
      · exact absurd ⟨h_22, h_26, h_30⟩ (q_nw n hn h0)
set_option maxHeartbeats 4000000 in
set_option maxRecDepth 100000 in
theorem x_weighs2 {Z : zS} {d : Nat} {b k : Nat} {rs re rb : zRw} {th : zHd} {hi : Int32} {tx : zTx} {sh : zSh} {tp : zTs} {R : zW} {n : Nat} (hn : n < 343) (h0 : n ≠ 171) {a4 : Int32} (ha : a4 < 0 ∨ 3 ≤ a4) : zF Z M_X7_weighs (d + 2) [.ref 0, .int (nZ (wa n)), .int (nZ (wb n)), .int (nZ (wc n)), .int a4] (wX (nI b, nI k, rs, re, rb) th hi tx sh tp ++ R) [.int (-1)] (wX (nI b, nI k, rs, re, rb) th hi tx sh tp ++ R) := by
  refine x_weighs36 hn h0 ?_
  refine s_iload dX7_weighs_36 rfl ?_
  refine s_if_lt (tgt := 47) dX7_weighs_38 (by decide) (fun h_38 => ?_) (fun h_38 => ?_)
  · refine s_iconst (v := (-1)) dX7_weighs_47 rfl ?_
    exact s_iret dX7_weighs_48 rfl ⟨rfl, rfl⟩ (by first | exact wXlen | rfl)
  · refine s_iload dX7_weighs_41 rfl ?_
    refine s_iconst (v := 2) dX7_weighs_43 rfl ?_
    refine s_icmp_le (tgt := 49) dX7_weighs_44 (by decide) (fun h_44 => ?_) (fun h_44 => ?_)
    · exact absurd h_44 (zle3 (n := 2) (by decide) (ha.resolve_left h_38))
    · refine s_iconst (v := (-1)) dX7_weighs_47 rfl ?_
      exact s_iret dX7_weighs_48 rfl ⟨rfl, rfl⟩ (by first | exact wXlen | rfl)
set_option maxHeartbeats 4000000 in
set_option maxRecDepth 100000 in
theorem x_weighs3 {Z : zS} {d : Nat} {b k : Nat} {rs re rb : zRw} {th : zHd} {hi : Int32} {tx : zTx} {sh : zSh} {tp : zTs} {R : zW} {n : Nat} (hn : n < 343) (h0 : n ≠ 171) {t : Nat} (ht : t < 3) (hb0 : b = 0) : zF Z M_X7_weighs (d + 2) [.ref 0, .int (nZ (wa n)), .int (nZ (wb n)), .int (nZ (wc n)), .int (nI t)] (wX (nI b, nI k, rs, re, rb) th hi tx sh tp ++ R) [.int (-3)] (wX (nI b, nI k, rs, re, rb) th hi tx sh tp ++ R) := by
  refine x_weighs36 hn h0 ?_
  refine s_iload dX7_weighs_36 rfl ?_
  refine s_if_lt (tgt := 47) dX7_weighs_38 (by decide) (fun hqz => absurd hqz (nI_pos (by omega))) (fun hz => ?_)
  clear hz
  refine s_iload dX7_weighs_41 rfl ?_
  refine s_iconst (v := 2) dX7_weighs_43 rfl ?_
  refine s_icmp_le (tgt := 49) dX7_weighs_44 (by decide) (fun hz => ?_) (fun hqz => absurd (nI_le (show t ≤ 2 by omega) (by decide)) hqz)
  clear hz
  refine s_aload_n dX7_weighs_49 rfl ?_
  refine s_get dX7_weighs_50 f_X7_14 (by rfl) (by rfl) ?_
  refine s_get dX7_weighs_53 f_X7_53 (by rfl) (by rfl) ?_
  refine s_if_ne (tgt := 62) dX7_weighs_56 (by decide) (fun hqz => absurd (by rw [hb0]; rfl) hqz) (fun hz => ?_)
  clear hz
  refine s_bipush (v := (-3)) dX7_weighs_59 rfl ?_
  exact s_iret dX7_weighs_61 rfl ⟨rfl, rfl⟩ (by first | exact wXlen | rfl)
set_option maxHeartbeats 4000000 in
set_option maxRecDepth 100000 in
theorem x_weighs_0 {Z : zS} {d : Nat} {b k : Nat} {rs re rb : zRw} {th : zHd} {hi : Int32} {tx : zTx} {sh : zSh} {tp : zTs} {R : zW} {n : Nat} (hn : n < 343) (h0 : n ≠ 171) (hb : b < 256) (hb0 : b ≠ 0) : zF Z M_X7_weighs (d + 2) [.ref 0, .int (nZ (wa n)), .int (nZ (wb n)), .int (nZ (wc n)), .int (nI 0)] (wX (nI b, nI k, rs, re, rb) th hi tx sh tp ++ R) [.int (nZ (mxL b n 8) + 100)] (wX (nI b, nI k, rs, re, rb) th hi tx sh tp ++ R) := by
  refine x_weighs36 hn h0 ?_
  refine s_iload dX7_weighs_36 rfl ?_
  refine s_if_lt (tgt := 47) dX7_weighs_38 (by decide) (fun hqz => absurd hqz (by decide)) (fun hz => ?_)
  clear hz
  refine s_iload dX7_weighs_41 rfl ?_
  refine s_iconst (v := 2) dX7_weighs_43 rfl ?_
  refine s_icmp_le (tgt := 49) dX7_weighs_44 (by decide) (fun hz => ?_) (fun hqz => absurd (by decide) hqz)
  clear hz
  refine s_aload_n dX7_weighs_49 rfl ?_
  refine s_get dX7_weighs_50 f_X7_14 (by rfl) (by rfl) ?_
  refine s_get dX7_weighs_53 f_X7_53 (by rfl) (by rfl) ?_
  refine s_if_ne (tgt := 62) dX7_weighs_56 (by decide) (fun hz => ?_) (fun hqz => absurd hqz (nI_ne0 (by omega) (by omega)))
  clear hz
  refine s_aload_n dX7_weighs_62 rfl ?_
  refine s_get dX7_weighs_63 f_X7_14 (by rfl) (by rfl) ?_
  refine s_get dX7_weighs_66 f_X7_53 (by rfl) (by rfl) ?_
  refine s_iload_n dX7_weighs_69 rfl ?_
  refine s_iload_n dX7_weighs_70 rfl ?_
  refine s_iload_n dX7_weighs_71 rfl ?_
  refine s_cs1 dX7_weighs_72 g_X7_139 (c_X4_mostBy hb hn) rfl rfl (Nat.le_of_ble_eq_true rfl) (Nat.le_of_ble_eq_true rfl) rfl ?_
  refine s_istore dX7_weighs_75 (Nat.le_of_ble_eq_true rfl) rfl ?_
  refine s_iload dX7_weighs_77 rfl ?_
  refine s_if_ne (tgt := 88) dX7_weighs_79 (by decide) (fun hqz => absurd rfl hqz) (fun hz => ?_)
  clear hz
  refine s_iload dX7_weighs_82 rfl ?_
  refine s_bipush (v := 100) dX7_weighs_84 rfl ?_
  refine s_iadd dX7_weighs_86 ?_
  exact s_iret dX7_weighs_87 rfl ⟨rfl, rfl⟩ (by first | exact wXlen | rfl)
set_option maxHeartbeats 4000000 in
set_option maxRecDepth 100000 in
theorem x_weighs_1 {Z : zS} {d : Nat} {b k : Nat} {rs re rb : zRw} {th : zHd} {hi : Int32} {tx : zTx} {sh : zSh} {tp : zTs} {R : zW} {n : Nat} (hn : n < 343) (h0 : n ≠ 171) (hb : b < 256) (hb0 : b ≠ 0) : zF Z M_X7_weighs (d + 2) [.ref 0, .int (nZ (wa n)), .int (nZ (wb n)), .int (nZ (wc n)), .int (nI 1)] (wX (nI b, nI k, rs, re, rb) th hi tx sh tp ++ R) [.int (100 - nZ (mxL b (342 - n) 8))] (wX (nI b, nI k, rs, re, rb) th hi tx sh tp ++ R) := by
  refine x_weighs36 hn h0 ?_
  refine s_iload dX7_weighs_36 rfl ?_
  refine s_if_lt (tgt := 47) dX7_weighs_38 (by decide) (fun hqz => absurd hqz (by decide)) (fun hz => ?_)
  clear hz
  refine s_iload dX7_weighs_41 rfl ?_
  refine s_iconst (v := 2) dX7_weighs_43 rfl ?_
  refine s_icmp_le (tgt := 49) dX7_weighs_44 (by decide) (fun hz => ?_) (fun hqz => absurd (by decide) hqz)
  clear hz
  refine s_aload_n dX7_weighs_49 rfl ?_
  refine s_get dX7_weighs_50 f_X7_14 (by rfl) (by rfl) ?_
  refine s_get dX7_weighs_53 f_X7_53 (by rfl) (by rfl) ?_
  refine s_if_ne (tgt := 62) dX7_weighs_56 (by decide) (fun hz => ?_) (fun hqz => absurd hqz (nI_ne0 (by omega) (by omega)))
  clear hz
  refine s_aload_n dX7_weighs_62 rfl ?_
  refine s_get dX7_weighs_63 f_X7_14 (by rfl) (by rfl) ?_
  refine s_get dX7_weighs_66 f_X7_53 (by rfl) (by rfl) ?_
  refine s_iload_n dX7_weighs_69 rfl ?_
  refine s_iload_n dX7_weighs_70 rfl ?_
  refine s_iload_n dX7_weighs_71 rfl ?_
  refine s_cs1 dX7_weighs_72 g_X7_139 (c_X4_mostBy hb hn) rfl rfl (Nat.le_of_ble_eq_true rfl) (Nat.le_of_ble_eq_true rfl) rfl ?_
  refine s_istore dX7_weighs_75 (Nat.le_of_ble_eq_true rfl) rfl ?_
  refine s_iload dX7_weighs_77 rfl ?_
  refine s_if_ne (tgt := 88) dX7_weighs_79 (by decide) (fun hz => ?_) (fun hqz => absurd hqz (by decide))
  clear hz
  refine s_iload dX7_weighs_88 rfl ?_
  refine s_iconst (v := 1) dX7_weighs_90 rfl ?_
  refine s_icmp_ne (tgt := 116) dX7_weighs_91 (by decide) (fun hqz => absurd rfl hqz) (fun hz => ?_)
  clear hz
  refine s_bipush (v := 100) dX7_weighs_94 rfl ?_
  refine s_aload_n dX7_weighs_96 rfl ?_
  refine s_get dX7_weighs_97 f_X7_14 (by rfl) (by rfl) ?_
  refine s_get dX7_weighs_100 f_X7_53 (by rfl) (by rfl) ?_
  refine s_iload_n dX7_weighs_103 rfl ?_
  refine s_ineg dX7_weighs_104 ?_
  refine s_iload_n dX7_weighs_105 rfl ?_
  refine s_ineg dX7_weighs_106 ?_
  refine s_iload_n dX7_weighs_107 rfl ?_
  refine s_ineg dX7_weighs_108 ?_
  rw [(q_ng n hn).1, (q_ng n hn).2.1, (q_ng n hn).2.2]
  refine s_cs1 dX7_weighs_109 g_X7_139 (c_X4_mostBy hb (show 342 - n < 343 by omega)) rfl rfl (Nat.le_of_ble_eq_true rfl) (Nat.le_of_ble_eq_true rfl) rfl ?_
  refine s_isub dX7_weighs_112 ?_
  refine s_goto (tgt := 131) dX7_weighs_113 (by decide) ?_
  exact s_iret dX7_weighs_131 rfl ⟨rfl, rfl⟩ (by first | exact wXlen | rfl)
set_option maxHeartbeats 4000000 in
set_option maxRecDepth 100000 in
theorem x_weighs_2 {Z : zS} {d : Nat} {b k : Nat} {rs re rb : zRw} {th : zHd} {hi : Int32} {tx : zTx} {sh : zSh} {tp : zTs} {R : zW} {n : Nat} (hn : n < 343) (h0 : n ≠ 171) (hb : b < 256) (hb0 : b ≠ 0) : zF Z M_X7_weighs (d + 2) [.ref 0, .int (nZ (wa n)), .int (nZ (wb n)), .int (nZ (wc n)), .int (nI 2)] (wX (nI b, nI k, rs, re, rb) th hi tx sh tp ++ R) [.int (nI (thL b n (mxL b n 8) 8))] (wX (nI b, nI k, rs, re, rb) th hi tx sh tp ++ R) := by
  refine x_weighs36 hn h0 ?_
  refine s_iload dX7_weighs_36 rfl ?_
  refine s_if_lt (tgt := 47) dX7_weighs_38 (by decide) (fun hqz => absurd hqz (by decide)) (fun hz => ?_)
  clear hz
  refine s_iload dX7_weighs_41 rfl ?_
  refine s_iconst (v := 2) dX7_weighs_43 rfl ?_
  refine s_icmp_le (tgt := 49) dX7_weighs_44 (by decide) (fun hz => ?_) (fun hqz => absurd (by decide) hqz)
  clear hz
  refine s_aload_n dX7_weighs_49 rfl ?_
  refine s_get dX7_weighs_50 f_X7_14 (by rfl) (by rfl) ?_
  refine s_get dX7_weighs_53 f_X7_53 (by rfl) (by rfl) ?_
  refine s_if_ne (tgt := 62) dX7_weighs_56 (by decide) (fun hz => ?_) (fun hqz => absurd hqz (nI_ne0 (by omega) (by omega)))
  clear hz
  refine s_aload_n dX7_weighs_62 rfl ?_
  refine s_get dX7_weighs_63 f_X7_14 (by rfl) (by rfl) ?_
  refine s_get dX7_weighs_66 f_X7_53 (by rfl) (by rfl) ?_
  refine s_iload_n dX7_weighs_69 rfl ?_
  refine s_iload_n dX7_weighs_70 rfl ?_
  refine s_iload_n dX7_weighs_71 rfl ?_
  refine s_cs1 dX7_weighs_72 g_X7_139 (c_X4_mostBy hb hn) rfl rfl (Nat.le_of_ble_eq_true rfl) (Nat.le_of_ble_eq_true rfl) rfl ?_
  refine s_istore dX7_weighs_75 (Nat.le_of_ble_eq_true rfl) rfl ?_
  refine s_iload dX7_weighs_77 rfl ?_
  refine s_if_ne (tgt := 88) dX7_weighs_79 (by decide) (fun hz => ?_) (fun hqz => absurd hqz (by decide))
  clear hz
  refine s_iload dX7_weighs_88 rfl ?_
  refine s_iconst (v := 1) dX7_weighs_90 rfl ?_
  refine s_icmp_ne (tgt := 116) dX7_weighs_91 (by decide) (fun hz => ?_) (fun hqz => absurd hqz (by decide))
  clear hz
  refine s_aload_n dX7_weighs_116 rfl ?_
  refine s_get dX7_weighs_117 f_X7_14 (by rfl) (by rfl) ?_
  refine s_get dX7_weighs_120 f_X7_53 (by rfl) (by rfl) ?_
  refine s_iload_n dX7_weighs_123 rfl ?_
  refine s_iload_n dX7_weighs_124 rfl ?_
  refine s_iload_n dX7_weighs_125 rfl ?_
  refine s_iload dX7_weighs_126 rfl ?_
  refine s_cs1 dX7_weighs_128 g_X7_143 (c_X4_thoseThatWeigh hb hn (mxL_rng hn 8 (Nat.le_refl _))) rfl rfl (Nat.le_of_ble_eq_true rfl) (Nat.le_of_ble_eq_true rfl) rfl ?_
  exact s_iret dX7_weighs_131 rfl ⟨rfl, rfl⟩ (by first | exact wXlen | rfl)
set_option maxHeartbeats 4000000 in
set_option maxRecDepth 100000 in
theorem x_face1 {Z : zS} {d : Nat} {b k : Nat} {rs re rb : zRw} {th : zHd} {hi : Int32} {tx : zTx} {sh : zSh} {tp : zTs} {R : zW} {i : Int32} (hi2 : i < 0) : zF Z M_X7_face (d) [.ref 0, .int i] (wX (nI b, nI k, rs, re, rb) th hi tx sh tp ++ R) [.int (-1)] (wX (nI b, nI k, rs, re, rb) th hi tx sh tp ++ R) := by
  unfold zF
  rw [wXlen]
  show zG Z M_X7_face (d) _ (R.length + 41) 0 [(0, .ref 0), (1, .int i)] [] (wX (nI b, nI k, rs, re, rb) th hi tx sh tp ++ R)
  refine s_iload_n dX7_face_0 rfl ?_
  refine s_if_ge (tgt := 8) dX7_face_1 (by decide) (fun hqz => absurd hqz (fun z => absurd hi2 (Int32.not_lt.mpr z))) (fun hz => ?_)
  clear hz
  refine s_iconst (v := (-1)) dX7_face_4 rfl ?_
  refine s_goto (tgt := 23) dX7_face_5 (by decide) ?_
  exact s_iret dX7_face_23 rfl ⟨rfl, rfl⟩ (by first | exact wXlen | rfl)
set_option maxHeartbeats 4000000 in
set_option maxRecDepth 100000 in
theorem x_face {Z : zS} {d : Nat} {b k : Nat} {rs re rb : zRw} {th : zHd} {hi : Int32} {tx : zTx} {sh : zSh} {tp : zTs} {R : zW} (hS : SOK sh) {i : Int32} (hi2 : 0 ≤ i) (hb : b < 256) : ∃ sh' : zSh, SOK sh' ∧ zF Z M_X7_face (d + 3) [.ref 0, .int i] (wX (nI b, nI k, rs, re, rb) th hi tx sh tp ++ R) [.int (kFA b i 256 0 0)] (wX (nI b, nI k, rs, re, rb) th hi tx sh' tp ++ R) := by
  obtain ⟨sh', hS', hz⟩ := c_faceAt (Z := Z) (d := d) (hd := (nI b, nI k, rs, re, rb)) (th := th) (hi := hi) (tx := tx) (tp := tp) (R := R) hS hb
  refine ⟨sh', hS', ?_⟩
  unfold zF
  rw [wXlen]
  show zG Z M_X7_face (d + 3) _ (R.length + 41) 0 [(0, .ref 0), (1, .int i)] [] (wX (nI b, nI k, rs, re, rb) th hi tx sh tp ++ R)
  refine s_iload_n dX7_face_0 rfl ?_
  refine s_if_ge (tgt := 8) dX7_face_1 (by decide) (fun hz => ?_) (fun hqz => absurd hi2 hqz)
  clear hz
  refine s_aload_n dX7_face_8 rfl ?_
  refine s_get dX7_face_9 f_X7_35 (by rfl) (by rfl) ?_
  refine s_aload_n dX7_face_12 rfl ?_
  refine s_get dX7_face_13 f_X7_14 (by rfl) (by rfl) ?_
  refine s_get dX7_face_16 f_X7_53 (by rfl) (by rfl) ?_
  refine s_iload_n dX7_face_19 rfl ?_
  refine s_cv1 dX7_face_20 g_X7_147 (hz) (by rfl) rfl rfl rfl rfl (Nat.le_of_ble_eq_true rfl) (Nat.le_of_ble_eq_true rfl) rfl ?_
  exact s_iret dX7_face_23 rfl ⟨rfl, rfl⟩ (by first | exact wXlen | rfl)
set_option maxHeartbeats 4000000 in
set_option maxRecDepth 100000 in
theorem x_edge1 {Z : zS} {d : Nat} {b k : Nat} {rs re rb : zRw} {th : zHd} {hi : Int32} {tx : zTx} {sh : zSh} {tp : zTs} {R : zW} {c e : Int32} (hc : c < 0 ∨ 8 ≤ c) : zF Z M_X7_edge (d + 1) [.ref 0, .int c, .int e] (wX (nI b, nI k, rs, re, rb) th hi tx sh tp ++ R) [.int (-1)] (wX (nI b, nI k, rs, re, rb) th hi tx sh tp ++ R) := by
  unfold zF
  rw [wXlen]
  show zG Z M_X7_edge (d + 1) _ (R.length + 41) 0 [(0, .ref 0), (1, .int c), (2, .int e)] [] (wX (nI b, nI k, rs, re, rb) th hi tx sh tp ++ R)
  refine s_iload_n dX7_edge_0 rfl ?_
  refine s_cs1 dX7_edge_1 g_X7_46 (c_X7_isCorner) rfl rfl (Nat.le_of_ble_eq_true rfl) (Nat.le_of_ble_eq_true rfl) rfl ?_
  refine s_if_eq (tgt := 14) dX7_edge_4 (by decide) (fun hz => ?_) (fun hqz => absurd (zrN hc) hqz)
  clear hz
  refine s_iconst (v := (-1)) dX7_edge_14 rfl ?_
  exact s_iret dX7_edge_15 rfl ⟨rfl, rfl⟩ (by first | exact wXlen | rfl)
set_option maxHeartbeats 4000000 in
set_option maxRecDepth 100000 in
theorem x_edge2 {Z : zS} {d : Nat} {b k : Nat} {rs re rb : zRw} {th : zHd} {hi : Int32} {tx : zTx} {sh : zSh} {tp : zTs} {R : zW} {c : Nat} {e : Int32} (hc : c < 8) (he : e < 0 ∨ 8 ≤ e) : zF Z M_X7_edge (d + 1) [.ref 0, .int (nI c), .int e] (wX (nI b, nI k, rs, re, rb) th hi tx sh tp ++ R) [.int (-1)] (wX (nI b, nI k, rs, re, rb) th hi tx sh tp ++ R) := by
  unfold zF
  rw [wXlen]
  show zG Z M_X7_edge (d + 1) _ (R.length + 41) 0 [(0, .ref 0), (1, .int (nI c)), (2, .int e)] [] (wX (nI b, nI k, rs, re, rb) th hi tx sh tp ++ R)
  refine s_iload_n dX7_edge_0 rfl ?_
  refine s_cs1 dX7_edge_1 g_X7_46 (c_X7_isCorner) rfl rfl (Nat.le_of_ble_eq_true rfl) (Nat.le_of_ble_eq_true rfl) rfl ?_
  refine s_if_eq (tgt := 14) dX7_edge_4 (by decide) (fun hqz => absurd hqz (zrY (n := 8) hc (by decide))) (fun hz => ?_)
  clear hz
  refine s_iload_n dX7_edge_7 rfl ?_
  refine s_cs1 dX7_edge_8 g_X7_46 (c_X7_isCorner) rfl rfl (Nat.le_of_ble_eq_true rfl) (Nat.le_of_ble_eq_true rfl) rfl ?_
  refine s_if_ne (tgt := 16) dX7_edge_11 (by decide) (fun hqz => absurd (zrN he) hqz) (fun hz => ?_)
  clear hz
  refine s_iconst (v := (-1)) dX7_edge_14 rfl ?_
  exact s_iret dX7_edge_15 rfl ⟨rfl, rfl⟩ (by first | exact wXlen | rfl)
set_option maxHeartbeats 4000000 in
set_option maxRecDepth 100000 in
theorem x_edge3 {Z : zS} {d : Nat} {b k : Nat} {rs re rb : zRw} {th : zHd} {hi : Int32} {tx : zTx} {sh : zSh} {tp : zTs} {R : zW} {c e : Nat} (hb : b < 256) (hc : c < 8) (he : e < 8) (hx : c = e ∨ zb b c = 0 ∨ zb b e = 0) : zF Z M_X7_edge (d + 1) [.ref 0, .int (nI c), .int (nI e)] (wX (nI b, nI k, rs, re, rb) th hi tx sh tp ++ R) [.int (-5)] (wX (nI b, nI k, rs, re, rb) th hi tx sh tp ++ R) := by
  unfold zF
  rw [wXlen]
  show zG Z M_X7_edge (d + 1) _ (R.length + 41) 0 [(0, .ref 0), (1, .int (nI c)), (2, .int (nI e))] [] (wX (nI b, nI k, rs, re, rb) th hi tx sh tp ++ R)
  refine s_iload_n dX7_edge_0 rfl ?_
  refine s_cs1 dX7_edge_1 g_X7_46 (c_X7_isCorner) rfl rfl (Nat.le_of_ble_eq_true rfl) (Nat.le_of_ble_eq_true rfl) rfl ?_
  refine s_if_eq (tgt := 14) dX7_edge_4 (by decide) (fun hqz => absurd hqz (zrY (n := 8) hc (by decide))) (fun hz => ?_)
  clear hz
  refine s_iload_n dX7_edge_7 rfl ?_
  refine s_cs1 dX7_edge_8 g_X7_46 (c_X7_isCorner) rfl rfl (Nat.le_of_ble_eq_true rfl) (Nat.le_of_ble_eq_true rfl) rfl ?_
  refine s_if_ne (tgt := 16) dX7_edge_11 (by decide) (fun hz => ?_) (fun hqz => absurd hqz (zrY (n := 8) he (by decide)))
  clear hz
  refine s_iload_n dX7_edge_16 rfl ?_
  refine s_iload_n dX7_edge_17 rfl ?_
  refine s_icmp_eq (tgt := 49) dX7_edge_18 (by decide) (fun h_18 => ?_) (fun h_18 => ?_)
  · refine s_bipush (v := (-5)) dX7_edge_49 rfl ?_
    exact s_iret dX7_edge_51 rfl ⟨rfl, rfl⟩ (by first | exact wXlen | rfl)
  · refine s_aload_n dX7_edge_21 rfl ?_
    refine s_get dX7_edge_22 f_X7_14 (by rfl) (by rfl) ?_
    refine s_get dX7_edge_25 f_X7_53 (by rfl) (by rfl) ?_
    refine s_iload_n dX7_edge_28 rfl ?_
    refine s_cs1 dX7_edge_29 g_X7_57 (c_X7_bitOfN (by omega) (by omega)) rfl rfl (Nat.le_of_ble_eq_true rfl) (Nat.le_of_ble_eq_true rfl) rfl ?_
    refine s_if_eq (tgt := 49) dX7_edge_32 (by decide) (fun h_32 => ?_) (fun h_32 => ?_)
    · refine s_bipush (v := (-5)) dX7_edge_49 rfl ?_
      exact s_iret dX7_edge_51 rfl ⟨rfl, rfl⟩ (by first | exact wXlen | rfl)
    · refine s_aload_n dX7_edge_35 rfl ?_
      refine s_get dX7_edge_36 f_X7_14 (by rfl) (by rfl) ?_
      refine s_get dX7_edge_39 f_X7_53 (by rfl) (by rfl) ?_
      refine s_iload_n dX7_edge_42 rfl ?_
      refine s_cs1 dX7_edge_43 g_X7_57 (c_X7_bitOfN (by omega) (by omega)) rfl rfl (Nat.le_of_ble_eq_true rfl) (Nat.le_of_ble_eq_true rfl) rfl ?_
      refine s_if_ne (tgt := 52) dX7_edge_46 (by decide) (fun h_46 => ?_) (fun h_46 => ?_)
      · rcases hx with h | h | h
        · exact absurd (by rw [h]) h_18
        · exact absurd (by rw [h]; rfl) h_32
        · exact absurd (by rw [h]; rfl) h_46
      · refine s_bipush (v := (-5)) dX7_edge_49 rfl ?_
        exact s_iret dX7_edge_51 rfl ⟨rfl, rfl⟩ (by first | exact wXlen | rfl)
theorem zb1 {b c : Nat} (h : ¬ zb b c = 0) : zb b c = 1 := by
  have := zb_lt b c
  omega
set_option maxHeartbeats 4000000 in
set_option maxRecDepth 100000 in
theorem x_edge {Z : zS} {d : Nat} {b k : Nat} {rs re rb : zRw} {th : zHd} {hi : Int32} {tx : zTx} {sh : zSh} {tp : zTs} {R : zW} (hS : SOK sh) {c e : Nat} (hb : b < 256) (hc : c < 8) (he : e < 8) (h1 : ¬ c = e) (h2 : ¬ zb b c = 0) (h3 : ¬ zb b e = 0) : ∃ sh' : zSh, SOK sh' ∧ zF Z M_X7_edge (d + 3) [.ref 0, .int (nI c), .int (nI e)] (wX (nI b, nI k, rs, re, rb) th hi tx sh tp ++ R) [.int (if (kTP b (2 ^ c ||| 2 ^ e) && decide (pPOP (2 ^ c ||| 2 ^ e) = 2)) = true then 1 else 0)] (wX (nI b, nI k, rs, re, rb) th hi tx sh' tp ++ R) := by
  obtain ⟨sh', hS', hz⟩ := c_isEdge (Z := Z) (d := d) (hd := (nI b, nI k, rs, re, rb)) (th := th) (hi := hi) (tx := tx) (tp := tp) (R := R) hS hb (zor8 (zp8 c hc) (zp8 e he))
  refine ⟨sh', hS', ?_⟩
  unfold zF
  rw [wXlen]
  show zG Z M_X7_edge (d + 3) _ (R.length + 41) 0 [(0, .ref 0), (1, .int (nI c)), (2, .int (nI e))] [] (wX (nI b, nI k, rs, re, rb) th hi tx sh tp ++ R)
  refine s_iload_n dX7_edge_0 rfl ?_
  refine s_cs1 dX7_edge_1 g_X7_46 (c_X7_isCorner) rfl rfl (Nat.le_of_ble_eq_true rfl) (Nat.le_of_ble_eq_true rfl) rfl ?_
  refine s_if_eq (tgt := 14) dX7_edge_4 (by decide) (fun hqz => absurd hqz (zrY (n := 8) hc (by decide))) (fun hz => ?_)
  clear hz
  refine s_iload_n dX7_edge_7 rfl ?_
  refine s_cs1 dX7_edge_8 g_X7_46 (c_X7_isCorner) rfl rfl (Nat.le_of_ble_eq_true rfl) (Nat.le_of_ble_eq_true rfl) rfl ?_
  refine s_if_ne (tgt := 16) dX7_edge_11 (by decide) (fun hz => ?_) (fun hqz => absurd hqz (zrY (n := 8) he (by decide)))
  clear hz
  refine s_iload_n dX7_edge_16 rfl ?_
  refine s_iload_n dX7_edge_17 rfl ?_
  refine s_icmp_eq (tgt := 49) dX7_edge_18 (by decide) (fun hqz => absurd hqz (fun z => h1 ((nI_eq (by omega) (by omega)).mp z))) (fun hz => ?_)
  clear hz
  refine s_aload_n dX7_edge_21 rfl ?_
  refine s_get dX7_edge_22 f_X7_14 (by rfl) (by rfl) ?_
  refine s_get dX7_edge_25 f_X7_53 (by rfl) (by rfl) ?_
  refine s_iload_n dX7_edge_28 rfl ?_
  refine s_cs1 dX7_edge_29 g_X7_57 (c_X7_bitOfN (by omega) (by omega)) rfl rfl (Nat.le_of_ble_eq_true rfl) (Nat.le_of_ble_eq_true rfl) rfl ?_
  refine s_if_eq (tgt := 49) dX7_edge_32 (by decide) (fun hqz => absurd hqz (fun z => h2 ((zn0 (zbL b c)).mp z))) (fun hz => ?_)
  clear hz
  refine s_aload_n dX7_edge_35 rfl ?_
  refine s_get dX7_edge_36 f_X7_14 (by rfl) (by rfl) ?_
  refine s_get dX7_edge_39 f_X7_53 (by rfl) (by rfl) ?_
  refine s_iload_n dX7_edge_42 rfl ?_
  refine s_cs1 dX7_edge_43 g_X7_57 (c_X7_bitOfN (by omega) (by omega)) rfl rfl (Nat.le_of_ble_eq_true rfl) (Nat.le_of_ble_eq_true rfl) rfl ?_
  refine s_if_ne (tgt := 52) dX7_edge_46 (by decide) (fun hz => ?_) (fun hqz => absurd hqz (fun z => h3 ((zn0 (zbL b e)).mp z)))
  clear hz
  refine s_aload_n dX7_edge_52 rfl ?_
  refine s_get dX7_edge_53 f_X7_35 (by rfl) (by rfl) ?_
  refine s_aload_n dX7_edge_56 rfl ?_
  refine s_get dX7_edge_57 f_X7_14 (by rfl) (by rfl) ?_
  refine s_get dX7_edge_60 f_X7_53 (by rfl) (by rfl) ?_
  refine s_iconst (v := 1) dX7_edge_63 rfl ?_
  refine s_iload_n dX7_edge_64 rfl ?_
  refine s_ishl dX7_edge_65 ?_
  refine s_iconst (v := 1) dX7_edge_66 rfl ?_
  refine s_iload_n dX7_edge_67 rfl ?_
  refine s_ishl dX7_edge_68 ?_
  refine s_ior dX7_edge_69 ?_
  rw [zsh8 c (by omega), zsh8 e (by omega), fa_or]
  refine s_cv1 dX7_edge_70 g_X7_150 (hz) (by rfl) rfl rfl rfl rfl (Nat.le_of_ble_eq_true rfl) (Nat.le_of_ble_eq_true rfl) rfl ?_
  refine s_if_eq (tgt := 80) dX7_edge_73 (by decide) (fun h_73 => ?_) (fun h_73 => ?_)
  · refine s_iconst (v := 0) dX7_edge_80 rfl ?_
    exact s_iret dX7_edge_81 rfl ⟨by first | (rw [zB0 h_73]; rfl) | (rw [zB1 h_73]; rfl), rfl⟩ (by first | exact wXlen | rfl)
  · refine s_iconst (v := 1) dX7_edge_76 rfl ?_
    refine s_goto (tgt := 81) dX7_edge_77 (by decide) ?_
    exact s_iret dX7_edge_81 rfl ⟨by first | (rw [zB0 h_73]; rfl) | (rw [zB1 h_73]; rfl), rfl⟩ (by first | exact wXlen | rfl)
theorem zmN {a : Int32} (h : a < 1 ∨ 3 < a) : (if a < 1 then (0 : Int32) else if 3 < a then 0 else 1) = 0 := by
  by_cases h2 : a < 1
  · rw [if_pos h2]
  · rw [if_neg h2, if_pos (h.resolve_left h2)]
theorem zmY {m : Nat} (h1 : 1 ≤ m) (h3 : m ≤ 3) : ¬ (if nI m < 1 then (0 : Int32) else if 3 < nI m then 0 else 1) = 0 := by
  rcases (show m = 1 ∨ m = 2 ∨ m = 3 by omega) with rfl | rfl | rfl <;> decide
theorem zpN {a : Int32} (h : a < 0 ∨ 3 < a) : (if a < 0 then (0 : Int32) else if 3 < a then 0 else 1) = 0 := by
  by_cases h2 : a < 0
  · rw [if_pos h2]
  · rw [if_neg h2, if_pos (h.resolve_left h2)]
theorem zpY {m : Nat} (h3 : m < 4) : ¬ (if nI m < 0 then (0 : Int32) else if 3 < nI m then 0 else 1) = 0 := by
  rcases (show m = 0 ∨ m = 1 ∨ m = 2 ∨ m = 3 by omega) with rfl | rfl | rfl | rfl <;> decide
set_option maxHeartbeats 4000000 in
set_option maxRecDepth 100000 in
theorem x_points1 {Z : zS} {d : Nat} {b k : Nat} {rs re rb : zRw} {th : zHd} {hi : Int32} {tx : zTx} {sh : zSh} {tp : zTs} {R : zW} {m : Int32} (hm : m < 1 ∨ 3 < m) : zF Z M_X7_points (d + 1) [.ref 0, .int m] (wX (nI b, nI k, rs, re, rb) th hi tx sh tp ++ R) [.int (-2)] (wX (nI b, nI k, rs, re, rb) th hi tx sh tp ++ R) := by
  unfold zF
  rw [wXlen]
  show zG Z M_X7_points (d + 1) _ (R.length + 41) 0 [(0, .ref 0), (1, .int m)] [] (wX (nI b, nI k, rs, re, rb) th hi tx sh tp ++ R)
  refine s_iload_n dX7_points_0 rfl ?_
  refine s_cs1 dX7_points_1 g_X7_154 (c_X7_isTimes) rfl rfl (Nat.le_of_ble_eq_true rfl) (Nat.le_of_ble_eq_true rfl) rfl ?_
  refine s_if_ne (tgt := 10) dX7_points_4 (by decide) (fun hqz => absurd (zmN hm) hqz) (fun hz => ?_)
  clear hz
  refine s_bipush (v := (-2)) dX7_points_7 rfl ?_
  exact s_iret dX7_points_9 rfl ⟨rfl, rfl⟩ (by first | exact wXlen | rfl)
set_option maxHeartbeats 4000000 in
set_option maxRecDepth 100000 in
theorem x_points2 {Z : zS} {d : Nat} {b k : Nat} {rs re rb : zRw} {th : zHd} {hi : Int32} {tx : zTx} {sh : zSh} {tp : zTs} {R : zW} {m : Nat} (h1 : 1 ≤ m) (h3 : m ≤ 3) (hb0 : b = 0) : zF Z M_X7_points (d + 1) [.ref 0, .int (nI m)] (wX (nI b, nI k, rs, re, rb) th hi tx sh tp ++ R) [.int (-3)] (wX (nI b, nI k, rs, re, rb) th hi tx sh tp ++ R) := by
  unfold zF
  rw [wXlen]
  show zG Z M_X7_points (d + 1) _ (R.length + 41) 0 [(0, .ref 0), (1, .int (nI m))] [] (wX (nI b, nI k, rs, re, rb) th hi tx sh tp ++ R)
  refine s_iload_n dX7_points_0 rfl ?_
  refine s_cs1 dX7_points_1 g_X7_154 (c_X7_isTimes) rfl rfl (Nat.le_of_ble_eq_true rfl) (Nat.le_of_ble_eq_true rfl) rfl ?_
  refine s_if_ne (tgt := 10) dX7_points_4 (by decide) (fun hz => ?_) (fun hqz => absurd hqz (zmY h1 h3))
  clear hz
  refine s_aload_n dX7_points_10 rfl ?_
  refine s_get dX7_points_11 f_X7_14 (by rfl) (by rfl) ?_
  refine s_get dX7_points_14 f_X7_53 (by rfl) (by rfl) ?_
  refine s_if_ne (tgt := 25) dX7_points_17 (by decide) (fun hqz => absurd (by rw [hb0]; rfl) hqz) (fun hz => ?_)
  clear hz
  refine s_bipush (v := (-3)) dX7_points_20 rfl ?_
  refine s_goto (tgt := 40) dX7_points_22 (by decide) ?_
  exact s_iret dX7_points_40 rfl ⟨rfl, rfl⟩ (by first | exact wXlen | rfl)
set_option maxHeartbeats 4000000 in
set_option maxRecDepth 100000 in
theorem x_points {Z : zS} {d : Nat} {b k : Nat} {rs re rb : zRw} {th : zHd} {hi : Int32} {tx : zTx} {sh : zSh} {tp : zTs} {R : zW} (hS : SOK sh) {m : Nat} (h1 : 1 ≤ m) (h3 : m ≤ 3) (hb : b < 256) (hb0 : b ≠ 0) : ∃ sh' : zSh, SOK sh' ∧ zF Z M_X7_points (d + 3) [.ref 0, .int (nI m)] (wX (nI b, nI k, rs, re, rb) th hi tx sh tp ++ R) [.int (nI (kPT b m))] (wX (nI b, nI k, rs, re, rb) th hi tx sh' tp ++ R) := by
  obtain ⟨sh', hS', hz⟩ := c_points (Z := Z) (d := d) (hd := (nI b, nI k, rs, re, rb)) (th := th) (hi := hi) (tx := tx) (tp := tp) (R := R) hS hb hb0 h1 h3
  refine ⟨sh', hS', ?_⟩
  unfold zF
  rw [wXlen]
  show zG Z M_X7_points (d + 3) _ (R.length + 41) 0 [(0, .ref 0), (1, .int (nI m))] [] (wX (nI b, nI k, rs, re, rb) th hi tx sh tp ++ R)
  refine s_iload_n dX7_points_0 rfl ?_
  refine s_cs1 dX7_points_1 g_X7_154 (c_X7_isTimes) rfl rfl (Nat.le_of_ble_eq_true rfl) (Nat.le_of_ble_eq_true rfl) rfl ?_
  refine s_if_ne (tgt := 10) dX7_points_4 (by decide) (fun hz => ?_) (fun hqz => absurd hqz (zmY h1 h3))
  clear hz
  refine s_aload_n dX7_points_10 rfl ?_
  refine s_get dX7_points_11 f_X7_14 (by rfl) (by rfl) ?_
  refine s_get dX7_points_14 f_X7_53 (by rfl) (by rfl) ?_
  refine s_if_ne (tgt := 25) dX7_points_17 (by decide) (fun hz => ?_) (fun hqz => absurd hqz (nI_ne0 (by omega) (by omega)))
  clear hz
  refine s_aload_n dX7_points_25 rfl ?_
  refine s_get dX7_points_26 f_X7_35 (by rfl) (by rfl) ?_
  refine s_aload_n dX7_points_29 rfl ?_
  refine s_get dX7_points_30 f_X7_14 (by rfl) (by rfl) ?_
  refine s_get dX7_points_33 f_X7_53 (by rfl) (by rfl) ?_
  refine s_iload_n dX7_points_36 rfl ?_
  refine s_cv1 dX7_points_37 g_X7_157 (hz) (by rfl) rfl rfl rfl rfl (Nat.le_of_ble_eq_true rfl) (Nat.le_of_ble_eq_true rfl) rfl ?_
  exact s_iret dX7_points_40 rfl ⟨rfl, rfl⟩ (by first | exact wXlen | rfl)
set_option maxHeartbeats 4000000 in
set_option maxRecDepth 100000 in
theorem x_holds1 {Z : zS} {d : Nat} {b k : Nat} {rs re rb : zRw} {th : zHd} {hi : Int32} {tx : zTx} {sh : zSh} {tp : zTs} {R : zW} {m x y z : Int32} (hbad : (m < 1 ∨ 3 < m) ∨ (x < 0 ∨ 3 < x) ∨ (y < 0 ∨ 3 < y) ∨ (z < 0 ∨ 3 < z)) : zF Z M_X7_holds (d + 1) [.ref 0, .int m, .int x, .int y, .int z] (wX (nI b, nI k, rs, re, rb) th hi tx sh tp ++ R) [.int (-2)] (wX (nI b, nI k, rs, re, rb) th hi tx sh tp ++ R) := by
  unfold zF
  rw [wXlen]
  show zG Z M_X7_holds (d + 1) _ (R.length + 41) 0 [(0, .ref 0), (1, .int m), (2, .int x), (3, .int y), (4, .int z)] [] (wX (nI b, nI k, rs, re, rb) th hi tx sh tp ++ R)
  refine s_iload_n dX7_holds_0 rfl ?_
  refine s_cs1 dX7_holds_1 g_X7_154 (c_X7_isTimes) rfl rfl (Nat.le_of_ble_eq_true rfl) (Nat.le_of_ble_eq_true rfl) rfl ?_
  refine s_if_eq (tgt := 29) dX7_holds_4 (by decide) (fun h_4 => ?_) (fun h_4 => ?_)
  · refine s_bipush (v := (-2)) dX7_holds_29 rfl ?_
    exact s_iret dX7_holds_31 rfl ⟨rfl, rfl⟩ (by first | exact wXlen | rfl)
  · refine s_iload_n dX7_holds_7 rfl ?_
    refine s_cs1 dX7_holds_8 g_X7_160 (c_X7_isPlace) rfl rfl (Nat.le_of_ble_eq_true rfl) (Nat.le_of_ble_eq_true rfl) rfl ?_
    refine s_if_eq (tgt := 29) dX7_holds_11 (by decide) (fun h_11 => ?_) (fun h_11 => ?_)
    · refine s_bipush (v := (-2)) dX7_holds_29 rfl ?_
      exact s_iret dX7_holds_31 rfl ⟨rfl, rfl⟩ (by first | exact wXlen | rfl)
    · refine s_iload_n dX7_holds_14 rfl ?_
      refine s_cs1 dX7_holds_15 g_X7_160 (c_X7_isPlace) rfl rfl (Nat.le_of_ble_eq_true rfl) (Nat.le_of_ble_eq_true rfl) rfl ?_
      refine s_if_eq (tgt := 29) dX7_holds_18 (by decide) (fun h_18 => ?_) (fun h_18 => ?_)
      · refine s_bipush (v := (-2)) dX7_holds_29 rfl ?_
        exact s_iret dX7_holds_31 rfl ⟨rfl, rfl⟩ (by first | exact wXlen | rfl)
      · refine s_iload dX7_holds_21 rfl ?_
        refine s_cs1 dX7_holds_23 g_X7_160 (c_X7_isPlace) rfl rfl (Nat.le_of_ble_eq_true rfl) (Nat.le_of_ble_eq_true rfl) rfl ?_
        refine s_if_ne (tgt := 32) dX7_holds_26 (by decide) (fun h_26 => ?_) (fun h_26 => ?_)
        · rcases hbad with h | h | h | h
          · exact absurd (zmN h) h_4
          · exact absurd (zpN h) h_11
          · exact absurd (zpN h) h_18
          · exact absurd (zpN h) h_26
        · refine s_bipush (v := (-2)) dX7_holds_29 rfl ?_
          exact s_iret dX7_holds_31 rfl ⟨rfl, rfl⟩ (by first | exact wXlen | rfl)
set_option maxHeartbeats 4000000 in
set_option maxRecDepth 100000 in
theorem x_holds2 {Z : zS} {d : Nat} {b k : Nat} {rs re rb : zRw} {th : zHd} {hi : Int32} {tx : zTx} {sh : zSh} {tp : zTs} {R : zW} {m x y z : Nat} (h1 : 1 ≤ m) (h3 : m ≤ 3) (hx : x < 4) (hy : y < 4) (hz4 : z < 4) (hb0 : b = 0) : zF Z M_X7_holds (d + 1) [.ref 0, .int (nI m), .int (nI x), .int (nI y), .int (nI z)] (wX (nI b, nI k, rs, re, rb) th hi tx sh tp ++ R) [.int (-3)] (wX (nI b, nI k, rs, re, rb) th hi tx sh tp ++ R) := by
  unfold zF
  rw [wXlen]
  show zG Z M_X7_holds (d + 1) _ (R.length + 41) 0 [(0, .ref 0), (1, .int (nI m)), (2, .int (nI x)), (3, .int (nI y)), (4, .int (nI z))] [] (wX (nI b, nI k, rs, re, rb) th hi tx sh tp ++ R)
  refine s_iload_n dX7_holds_0 rfl ?_
  refine s_cs1 dX7_holds_1 g_X7_154 (c_X7_isTimes) rfl rfl (Nat.le_of_ble_eq_true rfl) (Nat.le_of_ble_eq_true rfl) rfl ?_
  refine s_if_eq (tgt := 29) dX7_holds_4 (by decide) (fun hqz => absurd hqz (zmY h1 h3)) (fun hz => ?_)
  clear hz
  refine s_iload_n dX7_holds_7 rfl ?_
  refine s_cs1 dX7_holds_8 g_X7_160 (c_X7_isPlace) rfl rfl (Nat.le_of_ble_eq_true rfl) (Nat.le_of_ble_eq_true rfl) rfl ?_
  refine s_if_eq (tgt := 29) dX7_holds_11 (by decide) (fun hqz => absurd hqz (zpY hx)) (fun hz => ?_)
  clear hz
  refine s_iload_n dX7_holds_14 rfl ?_
  refine s_cs1 dX7_holds_15 g_X7_160 (c_X7_isPlace) rfl rfl (Nat.le_of_ble_eq_true rfl) (Nat.le_of_ble_eq_true rfl) rfl ?_
  refine s_if_eq (tgt := 29) dX7_holds_18 (by decide) (fun hqz => absurd hqz (zpY hy)) (fun hz => ?_)
  clear hz
  refine s_iload dX7_holds_21 rfl ?_
  refine s_cs1 dX7_holds_23 g_X7_160 (c_X7_isPlace) rfl rfl (Nat.le_of_ble_eq_true rfl) (Nat.le_of_ble_eq_true rfl) rfl ?_
  refine s_if_ne (tgt := 32) dX7_holds_26 (by decide) (fun hz => ?_) (fun hqz => absurd hqz (zpY hz4))
  clear hz
  refine s_aload_n dX7_holds_32 rfl ?_
  refine s_get dX7_holds_33 f_X7_14 (by rfl) (by rfl) ?_
  refine s_get dX7_holds_36 f_X7_53 (by rfl) (by rfl) ?_
  refine s_if_ne (tgt := 45) dX7_holds_39 (by decide) (fun hqz => absurd (by rw [hb0]; rfl) hqz) (fun hz => ?_)
  clear hz
  refine s_bipush (v := (-3)) dX7_holds_42 rfl ?_
  exact s_iret dX7_holds_44 rfl ⟨rfl, rfl⟩ (by first | exact wXlen | rfl)
set_option maxHeartbeats 4000000 in
set_option maxRecDepth 100000 in
theorem x_holds {Z : zS} {d : Nat} {b k : Nat} {rs re rb : zRw} {th : zHd} {hi : Int32} {tx : zTx} {sh : zSh} {tp : zTs} {R : zW} (hS : SOK sh) {m x y z : Nat} (h1 : 1 ≤ m) (h3 : m ≤ 3) (hx : x < 4) (hy : y < 4) (hz4 : z < 4) (hb : b < 256) (hb0 : b ≠ 0) : ∃ sh' : zSh, SOK sh' ∧ zF Z M_X7_holds (d + 3) [.ref 0, .int (nI m), .int (nI x), .int (nI y), .int (nI z)] (wX (nI b, nI k, rs, re, rb) th hi tx sh tp ++ R) [.int (if kIN b m x y z 171 0 = true then 1 else 0)] (wX (nI b, nI k, rs, re, rb) th hi tx sh' tp ++ R) := by
  obtain ⟨sh', hS', hz⟩ := c_isIn (Z := Z) (d := d) (hd := (nI b, nI k, rs, re, rb)) (th := th) (hi := hi) (tx := tx) (tp := tp) (R := R) hS hb hb0 h3 hx hy hz4
  refine ⟨sh', hS', ?_⟩
  unfold zF
  rw [wXlen]
  show zG Z M_X7_holds (d + 3) _ (R.length + 41) 0 [(0, .ref 0), (1, .int (nI m)), (2, .int (nI x)), (3, .int (nI y)), (4, .int (nI z))] [] (wX (nI b, nI k, rs, re, rb) th hi tx sh tp ++ R)
  refine s_iload_n dX7_holds_0 rfl ?_
  refine s_cs1 dX7_holds_1 g_X7_154 (c_X7_isTimes) rfl rfl (Nat.le_of_ble_eq_true rfl) (Nat.le_of_ble_eq_true rfl) rfl ?_
  refine s_if_eq (tgt := 29) dX7_holds_4 (by decide) (fun hqz => absurd hqz (zmY h1 h3)) (fun hz => ?_)
  clear hz
  refine s_iload_n dX7_holds_7 rfl ?_
  refine s_cs1 dX7_holds_8 g_X7_160 (c_X7_isPlace) rfl rfl (Nat.le_of_ble_eq_true rfl) (Nat.le_of_ble_eq_true rfl) rfl ?_
  refine s_if_eq (tgt := 29) dX7_holds_11 (by decide) (fun hqz => absurd hqz (zpY hx)) (fun hz => ?_)
  clear hz
  refine s_iload_n dX7_holds_14 rfl ?_
  refine s_cs1 dX7_holds_15 g_X7_160 (c_X7_isPlace) rfl rfl (Nat.le_of_ble_eq_true rfl) (Nat.le_of_ble_eq_true rfl) rfl ?_
  refine s_if_eq (tgt := 29) dX7_holds_18 (by decide) (fun hqz => absurd hqz (zpY hy)) (fun hz => ?_)
  clear hz
  refine s_iload dX7_holds_21 rfl ?_
  refine s_cs1 dX7_holds_23 g_X7_160 (c_X7_isPlace) rfl rfl (Nat.le_of_ble_eq_true rfl) (Nat.le_of_ble_eq_true rfl) rfl ?_
  refine s_if_ne (tgt := 32) dX7_holds_26 (by decide) (fun hz => ?_) (fun hqz => absurd hqz (zpY hz4))
  clear hz
  refine s_aload_n dX7_holds_32 rfl ?_
  refine s_get dX7_holds_33 f_X7_14 (by rfl) (by rfl) ?_
  refine s_get dX7_holds_36 f_X7_53 (by rfl) (by rfl) ?_
  refine s_if_ne (tgt := 45) dX7_holds_39 (by decide) (fun hz => ?_) (fun hqz => absurd hqz (nI_ne0 (by omega) (by omega)))
  clear hz
  refine s_aload_n dX7_holds_45 rfl ?_
  refine s_get dX7_holds_46 f_X7_35 (by rfl) (by rfl) ?_
  refine s_aload_n dX7_holds_49 rfl ?_
  refine s_get dX7_holds_50 f_X7_14 (by rfl) (by rfl) ?_
  refine s_get dX7_holds_53 f_X7_53 (by rfl) (by rfl) ?_
  refine s_iload_n dX7_holds_56 rfl ?_
  refine s_iload_n dX7_holds_57 rfl ?_
  refine s_iload_n dX7_holds_58 rfl ?_
  refine s_iload dX7_holds_59 rfl ?_
  refine s_cv1 dX7_holds_61 g_X7_163 (hz) (by rfl) rfl rfl rfl rfl (Nat.le_of_ble_eq_true rfl) (Nat.le_of_ble_eq_true rfl) rfl ?_
  refine s_if_eq (tgt := 71) dX7_holds_64 (by decide) (fun h_64 => ?_) (fun h_64 => ?_)
  · refine s_iconst (v := 0) dX7_holds_71 rfl ?_
    exact s_iret dX7_holds_72 rfl ⟨by first | (rw [zB0 h_64]; rfl) | (rw [zB1 h_64]; rfl), rfl⟩ (by first | exact wXlen | rfl)
  · refine s_iconst (v := 1) dX7_holds_67 rfl ?_
    refine s_goto (tgt := 72) dX7_holds_68 (by decide) ?_
    exact s_iret dX7_holds_72 rfl ⟨by first | (rw [zB0 h_64]; rfl) | (rw [zB1 h_64]; rfl), rfl⟩ (by first | exact wXlen | rfl)
def kFQ (b : Nat) : UInt32 := FP.fdiv (FP.i2f (kSIX b)) 1086324736
def kFAT (b : Nat) : UInt32 := if kLW b = 0 then FP.fconst0 else FP.fdiv (kFQ b) (FP.i2f (kLW b))
set_option maxHeartbeats 4000000 in
set_option maxRecDepth 100000 in
theorem c_fat {Z : zS} {d : Nat} {hd th : zHd} {hi : Int32} {tx : zTx} {tp : zTs} {R : zW} {sh : zSh} (hS : SOK sh) {b : Nat} (hb : b < 256) (h1 : ¬ kLW b = 0 → vf_n32 (kFQ b) ∧ vf_n32 (FP.fdiv (kFQ b) (FP.i2f (kLW b)))) : ∃ sh' : zSh, SOK sh' ∧ zF Z M_X4_fat (d + 4) [.ref 23, .int (nI b)] (wX hd th hi tx sh tp ++ R) [.float (kFAT b)] (wX hd th hi tx sh' tp ++ R) := by
  obtain ⟨s1, hS1, z1⟩ := c_width (Z := Z) (d := d + 1) (hd := hd) (th := th) (hi := hi) (tx := tx) (tp := tp) (R := R) hS hb
  obtain ⟨s2, hS2, z2⟩ := c_sixfold (Z := Z) (d := d) (hd := hd) (th := th) (hi := hi) (tx := tx) (tp := tp) (R := R) hS1 hb
  by_cases h0 : kLW b = 0
  · refine ⟨s1, hS1, ?_⟩
    unfold zF
    rw [wXlen]
    show zG Z M_X4_fat (d + 4) _ (R.length + 41) 0 [(0, .ref 23), (1, .int (nI b))] [] (wX hd th hi tx sh tp ++ R)
    refine s_aload_n dX4_fat_0 rfl ?_
    refine s_iload_n dX4_fat_1 rfl ?_
    refine s_cv1 dX4_fat_2 g_X4_76 (z1) (by rfl) rfl rfl rfl rfl (Nat.le_of_ble_eq_true rfl) (Nat.le_of_ble_eq_true rfl) rfl ?_
    refine s_istore_n dX4_fat_5 (Nat.le_of_ble_eq_true rfl) rfl ?_
    refine s_iload_n dX4_fat_6 rfl ?_
    refine s_if_ne (tgt := 14) dX4_fat_7 (by decide) (fun hqz => absurd h0 hqz) (fun hz => ?_)
    clear hz
    refine s_fconst0 dX4_fat_10 ?_
    refine s_goto (tgt := 26) dX4_fat_11 (by decide) ?_
    exact s_fret dX4_fat_26 rfl ⟨by rw [kFAT, if_pos h0], rfl⟩ (by first | exact wXlen | rfl)
  · refine ⟨s2, hS2, ?_⟩
    unfold zF
    rw [wXlen]
    show zG Z M_X4_fat (d + 4) _ (R.length + 41) 0 [(0, .ref 23), (1, .int (nI b))] [] (wX hd th hi tx sh tp ++ R)
    refine s_aload_n dX4_fat_0 rfl ?_
    refine s_iload_n dX4_fat_1 rfl ?_
    refine s_cv1 dX4_fat_2 g_X4_76 (z1) (by rfl) rfl rfl rfl rfl (Nat.le_of_ble_eq_true rfl) (Nat.le_of_ble_eq_true rfl) rfl ?_
    refine s_istore_n dX4_fat_5 (Nat.le_of_ble_eq_true rfl) rfl ?_
    refine s_iload_n dX4_fat_6 rfl ?_
    refine s_if_ne (tgt := 14) dX4_fat_7 (by decide) (fun hz => ?_) (fun hqz => absurd hqz h0)
    clear hz
    refine s_aload_n dX4_fat_14 rfl ?_
    refine s_iload_n dX4_fat_15 rfl ?_
    refine s_cv1 dX4_fat_16 g_X4_79 (z2) (by rfl) rfl rfl rfl rfl (Nat.le_of_ble_eq_true rfl) (Nat.le_of_ble_eq_true rfl) rfl ?_
    refine s_i2f dX4_fat_19 ?_
    refine s_ldcf (v := (1086324736)) dX4_fat_20 (zin 485 (by decide +kernel) (by decide +kernel)) ?_
    refine s_fdiv dX4_fat_22 (h1 h0).1 ?_
    refine s_iload_n dX4_fat_23 rfl ?_
    refine s_i2f dX4_fat_24 ?_
    refine s_fdiv dX4_fat_25 (h1 h0).2 ?_
    exact s_fret dX4_fat_26 rfl ⟨by rw [kFAT, if_neg h0]; rfl, rfl⟩ (by first | exact wXlen | rfl)
set_option maxHeartbeats 4000000 in
set_option maxRecDepth 100000 in
theorem x_floats1 {Z : zS} {d : Nat} {b k : Nat} {rs re rb : zRw} {th : zHd} {hi : Int32} {tx : zTx} {sh : zSh} {tp : zTs} {R : zW} {c : Int32} (hc : c < 0 ∨ 4 ≤ c) : zF Z M_X7_floats (d + 1) [.ref 0, .int c] (wX (nI b, nI k, rs, re, rb) th hi tx sh tp ++ R) [.int (-1)] (wX (nI b, nI k, rs, re, rb) th hi tx sh tp ++ R) := by
  unfold zF
  rw [wXlen]
  show zG Z M_X7_floats (d + 1) _ (R.length + 41) 0 [(0, .ref 0), (1, .int c)] [] (wX (nI b, nI k, rs, re, rb) th hi tx sh tp ++ R)
  refine s_iload_n dX7_floats_0 rfl ?_
  refine s_if_lt (tgt := 9) dX7_floats_1 (by decide) (fun h_1 => ?_) (fun h_1 => ?_)
  · refine s_iconst (v := (-1)) dX7_floats_9 rfl ?_
    exact s_iret dX7_floats_10 rfl ⟨rfl, rfl⟩ (by first | exact wXlen | rfl)
  · refine s_iload_n dX7_floats_4 rfl ?_
    refine s_iconst (v := 3) dX7_floats_5 rfl ?_
    refine s_icmp_le (tgt := 11) dX7_floats_6 (by decide) (fun h_6 => ?_) (fun h_6 => ?_)
    · exact absurd h_6 (zle3 (n := 3) (by decide) (hc.resolve_left h_1))
    · refine s_iconst (v := (-1)) dX7_floats_9 rfl ?_
      exact s_iret dX7_floats_10 rfl ⟨rfl, rfl⟩ (by first | exact wXlen | rfl)
set_option maxHeartbeats 4000000 in
set_option maxRecDepth 100000 in
theorem x_floats2 {Z : zS} {d : Nat} {b k : Nat} {rs re rb : zRw} {th : zHd} {hi : Int32} {tx : zTx} {sh : zSh} {tp : zTs} {R : zW} {t : Nat} (ht : t < 4) (hb0 : b = 0) : zF Z M_X7_floats (d + 1) [.ref 0, .int (nI t)] (wX (nI b, nI k, rs, re, rb) th hi tx sh tp ++ R) [.int (-3)] (wX (nI b, nI k, rs, re, rb) th hi tx sh tp ++ R) := by
  unfold zF
  rw [wXlen]
  show zG Z M_X7_floats (d + 1) _ (R.length + 41) 0 [(0, .ref 0), (1, .int (nI t))] [] (wX (nI b, nI k, rs, re, rb) th hi tx sh tp ++ R)
  refine s_iload_n dX7_floats_0 rfl ?_
  refine s_if_lt (tgt := 9) dX7_floats_1 (by decide) (fun hqz => absurd hqz (nI_pos (by omega))) (fun hz => ?_)
  clear hz
  refine s_iload_n dX7_floats_4 rfl ?_
  refine s_iconst (v := 3) dX7_floats_5 rfl ?_
  refine s_icmp_le (tgt := 11) dX7_floats_6 (by decide) (fun hz => ?_) (fun hqz => absurd (nI_le (show t ≤ 3 by omega) (by decide)) hqz)
  clear hz
  refine s_aload_n dX7_floats_11 rfl ?_
  refine s_get dX7_floats_12 f_X7_14 (by rfl) (by rfl) ?_
  refine s_get dX7_floats_15 f_X7_53 (by rfl) (by rfl) ?_
  refine s_if_ne (tgt := 24) dX7_floats_18 (by decide) (fun hqz => absurd (by rw [hb0]; rfl) hqz) (fun hz => ?_)
  clear hz
  refine s_bipush (v := (-3)) dX7_floats_21 rfl ?_
  exact s_iret dX7_floats_23 rfl ⟨rfl, rfl⟩ (by first | exact wXlen | rfl)
set_option maxHeartbeats 4000000 in
set_option maxRecDepth 100000 in
theorem x_floats {Z : zS} {d : Nat} {b k : Nat} {rs re rb : zRw} {th : zHd} {hi : Int32} {tx : zTx} {sh : zSh} {tp : zTs} {R : zW} {t : Nat} {r : Int32} (ht : t < 3) (hb : b < 256) (hb0 : b ≠ 0) (hr : zOF (pCEN b t) = some r) : zF Z M_X7_floats (d + 2) [.ref 0, .int (nI t)] (wX (nI b, nI k, rs, re, rb) th hi tx sh tp ++ R) [.int r] (wX (nI b, nI k, rs, re, rb) th hi tx sh tp ++ R) := by
  unfold zF
  rw [wXlen]
  show zG Z M_X7_floats (d + 2) _ (R.length + 41) 0 [(0, .ref 0), (1, .int (nI t))] [] (wX (nI b, nI k, rs, re, rb) th hi tx sh tp ++ R)
  refine s_iload_n dX7_floats_0 rfl ?_
  refine s_if_lt (tgt := 9) dX7_floats_1 (by decide) (fun hqz => absurd hqz (nI_pos (by omega))) (fun hz => ?_)
  clear hz
  refine s_iload_n dX7_floats_4 rfl ?_
  refine s_iconst (v := 3) dX7_floats_5 rfl ?_
  refine s_icmp_le (tgt := 11) dX7_floats_6 (by decide) (fun hz => ?_) (fun hqz => absurd (nI_le (show t ≤ 3 by omega) (by decide)) hqz)
  clear hz
  refine s_aload_n dX7_floats_11 rfl ?_
  refine s_get dX7_floats_12 f_X7_14 (by rfl) (by rfl) ?_
  refine s_get dX7_floats_15 f_X7_53 (by rfl) (by rfl) ?_
  refine s_if_ne (tgt := 24) dX7_floats_18 (by decide) (fun hz => ?_) (fun hqz => absurd hqz (nI_ne0 (by omega) (by omega)))
  clear hz
  refine s_iload_n dX7_floats_24 rfl ?_
  refine s_iconst (v := 3) dX7_floats_25 rfl ?_
  refine s_icmp_ne (tgt := 46) dX7_floats_26 (by decide) (fun hz => ?_) (fun hqz => absurd hqz (fun z => absurd ((nI_eq (b := 3) (by omega) (by decide)).mp z) (by omega)))
  clear hz
  refine s_aload_n dX7_floats_46 rfl ?_
  refine s_get dX7_floats_47 f_X7_14 (by rfl) (by rfl) ?_
  refine s_get dX7_floats_50 f_X7_53 (by rfl) (by rfl) ?_
  refine s_iload_n dX7_floats_53 rfl ?_
  refine s_cs1 dX7_floats_54 g_X7_171 (c_X1_centre hb ht) rfl rfl (Nat.le_of_ble_eq_true rfl) (Nat.le_of_ble_eq_true rfl) rfl ?_
  refine s_cs1 dX7_floats_57 g_X7_175 (c_X0_ofFloat hr) rfl rfl (Nat.le_of_ble_eq_true rfl) (Nat.le_of_ble_eq_true rfl) rfl ?_
  exact s_iret dX7_floats_60 rfl ⟨rfl, rfl⟩ (by first | exact wXlen | rfl)
set_option maxHeartbeats 4000000 in
set_option maxRecDepth 100000 in
theorem x_floats_fat {Z : zS} {d : Nat} {b k : Nat} {rs re rb : zRw} {th : zHd} {hi : Int32} {tx : zTx} {sh : zSh} {tp : zTs} {R : zW} (hS : SOK sh) {r : Int32} (hb : b < 256) (hb0 : b ≠ 0) (h1 : ¬ kLW b = 0 → vf_n32 (kFQ b) ∧ vf_n32 (FP.fdiv (kFQ b) (FP.i2f (kLW b)))) (hr : zOF (kFAT b) = some r) : ∃ sh' : zSh, SOK sh' ∧ zF Z M_X7_floats (d + 5) [.ref 0, .int (nI 3)] (wX (nI b, nI k, rs, re, rb) th hi tx sh tp ++ R) [.int r] (wX (nI b, nI k, rs, re, rb) th hi tx sh' tp ++ R) := by
  obtain ⟨sh', hS', hz⟩ := c_fat (Z := Z) (d := d) (hd := (nI b, nI k, rs, re, rb)) (th := th) (hi := hi) (tx := tx) (tp := tp) (R := R) hS hb h1
  refine ⟨sh', hS', ?_⟩
  unfold zF
  rw [wXlen]
  show zG Z M_X7_floats (d + 5) _ (R.length + 41) 0 [(0, .ref 0), (1, .int (nI 3))] [] (wX (nI b, nI k, rs, re, rb) th hi tx sh tp ++ R)
  refine s_iload_n dX7_floats_0 rfl ?_
  refine s_if_lt (tgt := 9) dX7_floats_1 (by decide) (fun hqz => absurd hqz (by decide)) (fun hz => ?_)
  clear hz
  refine s_iload_n dX7_floats_4 rfl ?_
  refine s_iconst (v := 3) dX7_floats_5 rfl ?_
  refine s_icmp_le (tgt := 11) dX7_floats_6 (by decide) (fun hz => ?_) (fun hqz => absurd (by decide) hqz)
  clear hz
  refine s_aload_n dX7_floats_11 rfl ?_
  refine s_get dX7_floats_12 f_X7_14 (by rfl) (by rfl) ?_
  refine s_get dX7_floats_15 f_X7_53 (by rfl) (by rfl) ?_
  refine s_if_ne (tgt := 24) dX7_floats_18 (by decide) (fun hz => ?_) (fun hqz => absurd hqz (nI_ne0 (by omega) (by omega)))
  clear hz
  refine s_iload_n dX7_floats_24 rfl ?_
  refine s_iconst (v := 3) dX7_floats_25 rfl ?_
  refine s_icmp_ne (tgt := 46) dX7_floats_26 (by decide) (fun hqz => absurd rfl hqz) (fun hz => ?_)
  clear hz
  refine s_aload_n dX7_floats_29 rfl ?_
  refine s_get dX7_floats_30 f_X7_35 (by rfl) (by rfl) ?_
  refine s_aload_n dX7_floats_33 rfl ?_
  refine s_get dX7_floats_34 f_X7_14 (by rfl) (by rfl) ?_
  refine s_get dX7_floats_37 f_X7_53 (by rfl) (by rfl) ?_
  refine s_cv1 dX7_floats_40 g_X7_167 (hz) (by rfl) rfl rfl rfl rfl (Nat.le_of_ble_eq_true rfl) (Nat.le_of_ble_eq_true rfl) rfl ?_
  refine s_goto (tgt := 57) dX7_floats_43 (by decide) ?_
  refine s_cs1 dX7_floats_57 g_X7_175 (c_X0_ofFloat hr) rfl rfl (Nat.le_of_ble_eq_true rfl) (Nat.le_of_ble_eq_true rfl) rfl ?_
  exact s_iret dX7_floats_60 rfl ⟨rfl, rfl⟩ (by first | exact wXlen | rfl)
set_option maxHeartbeats 4000000 in
set_option maxRecDepth 100000 in
theorem x_spread1 {Z : zS} {d : Nat} {b k : Nat} {rs re rb : zRw} {th : zHd} {hi : Int32} {tx : zTx} {sh : zSh} {tp : zTs} {R : zW} (hb0 : b = 0) : zF Z M_X7_spread (d + 1) [.ref 0] (wX (nI b, nI k, rs, re, rb) th hi tx sh tp ++ R) [.long (-9223372036854775808)] (wX (nI b, nI k, rs, re, rb) th hi tx sh tp ++ R) := by
  unfold zF
  rw [wXlen]
  show zG Z M_X7_spread (d + 1) _ (R.length + 41) 0 [(0, .ref 0)] [] (wX (nI b, nI k, rs, re, rb) th hi tx sh tp ++ R)
  refine s_aload_n dX7_spread_0 rfl ?_
  refine s_get dX7_spread_1 f_X7_14 (by rfl) (by rfl) ?_
  refine s_get dX7_spread_4 f_X7_53 (by rfl) (by rfl) ?_
  refine s_if_ne (tgt := 16) dX7_spread_7 (by decide) (fun hqz => absurd (by rw [hb0]; rfl) hqz) (fun hz => ?_)
  clear hz
  refine s_ldc2 (v := (-9223372036854775808)) dX7_spread_10 (zin 504 (by decide +kernel) (by decide +kernel)) ?_
  refine s_goto (tgt := 29) dX7_spread_13 (by decide) ?_
  exact s_lret dX7_spread_29 rfl ⟨rfl, rfl⟩ (by first | exact wXlen | rfl)
set_option maxHeartbeats 4000000 in
set_option maxRecDepth 100000 in
theorem x_spread {Z : zS} {d : Nat} {b k : Nat} {rs re rb : zRw} {th : zHd} {hi : Int32} {tx : zTx} {sh : zSh} {tp : zTs} {R : zW} {r : Int64} (hb : b < 256) (hb0 : b ≠ 0) (ho : pSPO b 3 0 FP.dconst0 = true) (hr : zOD (pSPL b 3 0 FP.dconst0) = some r) : zF Z M_X7_spread (d + 3) [.ref 0] (wX (nI b, nI k, rs, re, rb) th hi tx sh tp ++ R) [.long r] (wX (nI b, nI k, rs, re, rb) th hi tx sh tp ++ R) := by
  unfold zF
  rw [wXlen]
  show zG Z M_X7_spread (d + 3) _ (R.length + 41) 0 [(0, .ref 0)] [] (wX (nI b, nI k, rs, re, rb) th hi tx sh tp ++ R)
  refine s_aload_n dX7_spread_0 rfl ?_
  refine s_get dX7_spread_1 f_X7_14 (by rfl) (by rfl) ?_
  refine s_get dX7_spread_4 f_X7_53 (by rfl) (by rfl) ?_
  refine s_if_ne (tgt := 16) dX7_spread_7 (by decide) (fun hz => ?_) (fun hqz => absurd hqz (nI_ne0 (by omega) (by omega)))
  clear hz
  refine s_aload_n dX7_spread_16 rfl ?_
  refine s_get dX7_spread_17 f_X7_14 (by rfl) (by rfl) ?_
  refine s_get dX7_spread_20 f_X7_53 (by rfl) (by rfl) ?_
  refine s_cs1 dX7_spread_23 g_X7_183 (c_X1_spreadOf hb ho) rfl rfl (Nat.le_of_ble_eq_true rfl) (Nat.le_of_ble_eq_true rfl) rfl ?_
  refine s_cs1 dX7_spread_26 g_X7_187 (c_X0_ofDouble hr) rfl rfl (Nat.le_of_ble_eq_true rfl) (Nat.le_of_ble_eq_true rfl) rfl ?_
  exact s_lret dX7_spread_29 rfl ⟨rfl, rfl⟩ (by first | exact wXlen | rfl)
def cdL : Nat → Nat → Nat → Nat
  | 0, x, _ => x
  | n + 1, x, y => if y = 0 then x else cdL n y (x % y)
set_option maxHeartbeats 4000000 in
set_option maxRecDepth 100000 in
theorem l_cd {Z : zS} {d : Nat} {w : zW} {p q : Int32} : ∀ (n i x y : Nat), i + n = 100 → x < 2 ^ 31 → y < 2 ^ 31 → zG Z M_X7_commonDivisor d (fun r1 w1 => r1 = [.int (nI (cdL n x y))] ∧ w1 = w) w.length 7 [(0, .int p), (1, .int q), (2, .int (nI x)), (3, .int (nI y)), (4, .int (nI i))] [] w := by
  intro n
  induction n with
  | zero =>
    intro i x y hi hx hy
    have hi : i = 100 := by omega
    subst hi
    refine s_iload dX7_commonDivisor_7 rfl ?_
    refine s_bipush (v := 100) dX7_commonDivisor_9 rfl ?_
    refine s_icmp_ge (tgt := 34) dX7_commonDivisor_11 (by decide) (fun hz => ?_) (fun hqz => absurd (by decide) hqz)
    clear hz
    refine s_iload_n dX7_commonDivisor_34 rfl ?_
    exact s_iret dX7_commonDivisor_35 rfl ⟨rfl, rfl⟩ rfl
  | succ n ih =>
    intro i x y hi hx hy
    have hm : i < 100 := by omega
    refine s_iload dX7_commonDivisor_7 rfl ?_
    refine s_bipush (v := 100) dX7_commonDivisor_9 rfl ?_
    refine s_icmp_ge (tgt := 34) dX7_commonDivisor_11 (by decide) (fun hqz => absurd hqz (nI_ge hm (by decide))) (fun hz => ?_)
    clear hz
    refine s_iload_n dX7_commonDivisor_14 rfl ?_
    refine s_if_eq (tgt := 34) dX7_commonDivisor_15 (by decide) (fun h_15 => ?_) (fun h_15 => ?_)
    · refine s_iload_n dX7_commonDivisor_34 rfl ?_
      exact s_iret dX7_commonDivisor_35 rfl ⟨by rw [cdL, if_pos ((zn0 hy).mp h_15)], rfl⟩ rfl
    · have hy0 : y ≠ 0 := fun z => h_15 (by rw [z]; rfl)
      refine s_iload_n dX7_commonDivisor_18 rfl ?_
      refine s_iload_n dX7_commonDivisor_19 rfl ?_
      refine s_irem dX7_commonDivisor_20 h_15 ?_
      rw [pk_rem hx (by omega) hy]
      refine s_istore dX7_commonDivisor_21 (Nat.le_of_ble_eq_true rfl) rfl ?_
      refine s_iload_n dX7_commonDivisor_23 rfl ?_
      refine s_istore_n dX7_commonDivisor_24 (Nat.le_of_ble_eq_true rfl) rfl ?_
      refine s_iload dX7_commonDivisor_25 rfl ?_
      refine s_istore_n dX7_commonDivisor_27 (Nat.le_of_ble_eq_true rfl) rfl ?_
      refine s_iinc (nI (i + 1)) dX7_commonDivisor_28 rfl (nI_1 _) (Nat.le_of_ble_eq_true rfl) rfl ?_
      refine s_goto (tgt := 7) dX7_commonDivisor_31 (by decide) ?_
      rw [show cdL (n + 1) x y = cdL n y (x % y) from by rw [cdL, if_neg hy0]]
      refine s_take 5 ?_
      exact ih (i + 1) y (x % y) (by omega) hy (Nat.lt_of_le_of_lt (Nat.mod_le x y) hx)
set_option maxHeartbeats 4000000 in
set_option maxRecDepth 100000 in
theorem c_X7_commonDivisor {Z : zS} {d : Nat} {w : zW} {x y : Nat} (hx : x < 2 ^ 31) (hy : y < 2 ^ 31) : zF Z M_X7_commonDivisor (d) [.int (nI x), .int (nI y)] w [.int (nI (cdL 100 x y))] w := by
  show zG Z M_X7_commonDivisor (d) _ _ 0 [(0, .int (nI x)), (1, .int (nI y))] [] w
  refine s_iload_n dX7_commonDivisor_0 rfl ?_
  refine s_istore_n dX7_commonDivisor_1 (Nat.le_of_ble_eq_true rfl) rfl ?_
  refine s_iload_n dX7_commonDivisor_2 rfl ?_
  refine s_istore_n dX7_commonDivisor_3 (Nat.le_of_ble_eq_true rfl) rfl ?_
  refine s_iconst (v := 0) dX7_commonDivisor_4 rfl ?_
  refine s_istore dX7_commonDivisor_5 (Nat.le_of_ble_eq_true rfl) rfl ?_
  exact l_cd 100 0 x y rfl hx hy
def kLO (a p : Nat) : Int64 := if p = 0 then (nI a / nI (cdL 100 a 48)).toInt64 else ((48 : Int32) / nI (cdL 100 a 48)).toInt64
theorem q_cd : ∀ a, a < 400 → 1 ≤ nI (cdL 100 a 48) ∧ ¬ nI (cdL 100 a 48) = 0 := by decide +kernel
theorem pCML_le (b k : Nat) : ∀ (n i a : Nat), pCML b k n i a ≤ a + 8 * n
  | 0, _, a => by show a ≤ a + 0; omega
  | n + 1, i, a => by
    unfold pCML
    have h := pCML_le b k n (i + 1) (a + pPOP (pIMG i b &&& k))
    have h2 := pPOP_le (pIMG i b &&& k)
    omega
set_option maxHeartbeats 4000000 in
set_option maxRecDepth 100000 in
theorem c_low0 {Z : zS} {d : Nat} {w : zW} {a : Nat} (ha : a < 400) : zF Z M_X7_lowestOfMoves (d + 1) [.int (nI a), .int (nI 0)] w [.long (kLO a 0)] w := by
  show zG Z M_X7_lowestOfMoves (d + 1) _ _ 0 [(0, .int (nI a)), (1, .int (nI 0))] [] w
  refine s_iload_n dX7_lowestOfMoves_0 rfl ?_
  refine s_bipush (v := 48) dX7_lowestOfMoves_1 rfl ?_
  refine s_cs1 dX7_lowestOfMoves_3 g_X7_223 (c_X7_commonDivisor (y := 48) (by omega) (by decide)) rfl rfl (Nat.le_of_ble_eq_true rfl) (Nat.le_of_ble_eq_true rfl) rfl ?_
  refine s_istore_n dX7_lowestOfMoves_6 (Nat.le_of_ble_eq_true rfl) rfl ?_
  refine s_iload_n dX7_lowestOfMoves_7 rfl ?_
  refine s_iconst (v := 1) dX7_lowestOfMoves_8 rfl ?_
  refine s_icmp_ge (tgt := 16) dX7_lowestOfMoves_9 (by decide) (fun hz => ?_) (fun hqz => absurd (q_cd a ha).1 hqz)
  clear hz
  refine s_iload_n dX7_lowestOfMoves_16 rfl ?_
  refine s_if_ne (tgt := 27) dX7_lowestOfMoves_17 (by decide) (fun hqz => absurd rfl hqz) (fun hz => ?_)
  clear hz
  refine s_iload_n dX7_lowestOfMoves_20 rfl ?_
  refine s_iload_n dX7_lowestOfMoves_21 rfl ?_
  refine s_idiv dX7_lowestOfMoves_22 (q_cd a ha).2 ?_
  refine s_i2l dX7_lowestOfMoves_23 rfl ?_
  refine s_goto (tgt := 32) dX7_lowestOfMoves_24 (by decide) ?_
  exact s_lret dX7_lowestOfMoves_32 rfl ⟨rfl, rfl⟩ rfl
set_option maxHeartbeats 4000000 in
set_option maxRecDepth 100000 in
theorem c_low1 {Z : zS} {d : Nat} {w : zW} {a : Nat} (ha : a < 400) : zF Z M_X7_lowestOfMoves (d + 1) [.int (nI a), .int (nI 1)] w [.long (kLO a 1)] w := by
  show zG Z M_X7_lowestOfMoves (d + 1) _ _ 0 [(0, .int (nI a)), (1, .int (nI 1))] [] w
  refine s_iload_n dX7_lowestOfMoves_0 rfl ?_
  refine s_bipush (v := 48) dX7_lowestOfMoves_1 rfl ?_
  refine s_cs1 dX7_lowestOfMoves_3 g_X7_223 (c_X7_commonDivisor (y := 48) (by omega) (by decide)) rfl rfl (Nat.le_of_ble_eq_true rfl) (Nat.le_of_ble_eq_true rfl) rfl ?_
  refine s_istore_n dX7_lowestOfMoves_6 (Nat.le_of_ble_eq_true rfl) rfl ?_
  refine s_iload_n dX7_lowestOfMoves_7 rfl ?_
  refine s_iconst (v := 1) dX7_lowestOfMoves_8 rfl ?_
  refine s_icmp_ge (tgt := 16) dX7_lowestOfMoves_9 (by decide) (fun hz => ?_) (fun hqz => absurd (q_cd a ha).1 hqz)
  clear hz
  refine s_iload_n dX7_lowestOfMoves_16 rfl ?_
  refine s_if_ne (tgt := 27) dX7_lowestOfMoves_17 (by decide) (fun hz => ?_) (fun hqz => absurd hqz (by decide))
  clear hz
  refine s_bipush (v := 48) dX7_lowestOfMoves_27 rfl ?_
  refine s_iload_n dX7_lowestOfMoves_29 rfl ?_
  refine s_idiv dX7_lowestOfMoves_30 (q_cd a ha).2 ?_
  refine s_i2l dX7_lowestOfMoves_31 rfl ?_
  exact s_lret dX7_lowestOfMoves_32 rfl ⟨rfl, rfl⟩ rfl
theorem c_low {Z : zS} {d : Nat} {w : zW} {a p : Nat} (ha : a < 400) (hp : p < 2) : zF Z M_X7_lowestOfMoves (d + 1) [.int (nI a), .int (nI p)] w [.long (kLO a p)] w := by
  rcases (show p = 0 ∨ p = 1 by omega) with rfl | rfl
  · exact c_low0 ha
  · exact c_low1 ha
set_option maxHeartbeats 4000000 in
set_option maxRecDepth 100000 in
theorem x_odds1 {Z : zS} {d : Nat} {b k : Nat} {rs re rb : zRw} {th : zHd} {hi : Int32} {tx : zTx} {sh : zSh} {tp : zTs} {R : zW} {c p : Int32} (hc : c < 0 ∨ 8 ≤ c) : zF Z M_X7_odds (d + 1) [.ref 0, .int c, .int p] (wX (nI b, nI k, rs, re, rb) th hi tx sh tp ++ R) [.long (-9223372036854775808)] (wX (nI b, nI k, rs, re, rb) th hi tx sh tp ++ R) := by
  unfold zF
  rw [wXlen]
  show zG Z M_X7_odds (d + 1) _ (R.length + 41) 0 [(0, .ref 0), (1, .int c), (2, .int p)] [] (wX (nI b, nI k, rs, re, rb) th hi tx sh tp ++ R)
  refine s_iload_n dX7_odds_0 rfl ?_
  refine s_cs1 dX7_odds_1 g_X7_46 (c_X7_isCorner) rfl rfl (Nat.le_of_ble_eq_true rfl) (Nat.le_of_ble_eq_true rfl) rfl ?_
  refine s_if_eq (tgt := 14) dX7_odds_4 (by decide) (fun hz => ?_) (fun hqz => absurd (zrN hc) hqz)
  clear hz
  refine s_ldc2 (v := (-9223372036854775808)) dX7_odds_14 (zin 504 (by decide +kernel) (by decide +kernel)) ?_
  exact s_lret dX7_odds_17 rfl ⟨rfl, rfl⟩ (by first | exact wXlen | rfl)
set_option maxHeartbeats 4000000 in
set_option maxRecDepth 100000 in
theorem x_odds2 {Z : zS} {d : Nat} {b k : Nat} {rs re rb : zRw} {th : zHd} {hi : Int32} {tx : zTx} {sh : zSh} {tp : zTs} {R : zW} {c : Nat} {p : Int32} (hc : c < 8) (hp : ¬ p = 0 ∧ ¬ p = 1) : zF Z M_X7_odds (d + 1) [.ref 0, .int (nI c), .int p] (wX (nI b, nI k, rs, re, rb) th hi tx sh tp ++ R) [.long (-9223372036854775808)] (wX (nI b, nI k, rs, re, rb) th hi tx sh tp ++ R) := by
  unfold zF
  rw [wXlen]
  show zG Z M_X7_odds (d + 1) _ (R.length + 41) 0 [(0, .ref 0), (1, .int (nI c)), (2, .int p)] [] (wX (nI b, nI k, rs, re, rb) th hi tx sh tp ++ R)
  refine s_iload_n dX7_odds_0 rfl ?_
  refine s_cs1 dX7_odds_1 g_X7_46 (c_X7_isCorner) rfl rfl (Nat.le_of_ble_eq_true rfl) (Nat.le_of_ble_eq_true rfl) rfl ?_
  refine s_if_eq (tgt := 14) dX7_odds_4 (by decide) (fun hqz => absurd hqz (zrY (n := 8) hc (by decide))) (fun hz => ?_)
  clear hz
  refine s_iload_n dX7_odds_7 rfl ?_
  refine s_cs1 dX7_odds_8 g_X7_50 (c_X7_isBit) rfl rfl (Nat.le_of_ble_eq_true rfl) (Nat.le_of_ble_eq_true rfl) rfl ?_
  refine s_if_ne (tgt := 18) dX7_odds_11 (by decide) (fun hqz => absurd (ztN hp) hqz) (fun hz => ?_)
  clear hz
  refine s_ldc2 (v := (-9223372036854775808)) dX7_odds_14 (zin 504 (by decide +kernel) (by decide +kernel)) ?_
  exact s_lret dX7_odds_17 rfl ⟨rfl, rfl⟩ (by first | exact wXlen | rfl)
set_option maxHeartbeats 4000000 in
set_option maxRecDepth 100000 in
theorem x_odds {Z : zS} {d : Nat} {b k : Nat} {rs re rb : zRw} {th : zHd} {hi : Int32} {tx : zTx} {sh : zSh} {tp : zTs} {R : zW} {c p : Nat} (hb : b < 256) (hc : c < 8) (hp : p < 2) : zF Z M_X7_odds (d + 3) [.ref 0, .int (nI c), .int (nI p)] (wX (nI b, nI k, rs, re, rb) th hi tx sh tp ++ R) [.long (kLO (pCML b (2 ^ c) 48 0 0) p)] (wX (nI b, nI k, rs, re, rb) th hi tx sh tp ++ R) := by
  unfold zF
  rw [wXlen]
  show zG Z M_X7_odds (d + 3) _ (R.length + 41) 0 [(0, .ref 0), (1, .int (nI c)), (2, .int (nI p))] [] (wX (nI b, nI k, rs, re, rb) th hi tx sh tp ++ R)
  refine s_iload_n dX7_odds_0 rfl ?_
  refine s_cs1 dX7_odds_1 g_X7_46 (c_X7_isCorner) rfl rfl (Nat.le_of_ble_eq_true rfl) (Nat.le_of_ble_eq_true rfl) rfl ?_
  refine s_if_eq (tgt := 14) dX7_odds_4 (by decide) (fun hqz => absurd hqz (zrY (n := 8) hc (by decide))) (fun hz => ?_)
  clear hz
  refine s_iload_n dX7_odds_7 rfl ?_
  refine s_cs1 dX7_odds_8 g_X7_50 (c_X7_isBit) rfl rfl (Nat.le_of_ble_eq_true rfl) (Nat.le_of_ble_eq_true rfl) rfl ?_
  refine s_if_ne (tgt := 18) dX7_odds_11 (by decide) (fun hz => ?_) (fun hqz => absurd hqz (ztY hp))
  clear hz
  refine s_aload_n dX7_odds_18 rfl ?_
  refine s_get dX7_odds_19 f_X7_14 (by rfl) (by rfl) ?_
  refine s_get dX7_odds_22 f_X7_53 (by rfl) (by rfl) ?_
  refine s_iconst (v := 1) dX7_odds_25 rfl ?_
  refine s_iload_n dX7_odds_26 rfl ?_
  refine s_ishl dX7_odds_27 ?_
  rw [zsh8 c (by omega)]
  refine s_cs1 dX7_odds_28 g_X7_216 (c_X1_commonOverMoves hb) rfl rfl (Nat.le_of_ble_eq_true rfl) (Nat.le_of_ble_eq_true rfl) rfl ?_
  refine s_iload_n dX7_odds_31 rfl ?_
  refine s_cs1 dX7_odds_32 g_X7_219 (c_low (by have := pCML_le b (2 ^ c) 48 0 0; omega) hp) rfl rfl (Nat.le_of_ble_eq_true rfl) (Nat.le_of_ble_eq_true rfl) rfl ?_
  exact s_lret dX7_odds_35 rfl ⟨rfl, rfl⟩ (by first | exact wXlen | rfl)
set_option maxHeartbeats 4000000 in
set_option maxRecDepth 100000 in
theorem x_mean1 {Z : zS} {d : Nat} {b k : Nat} {rs re rb : zRw} {th : zHd} {hi : Int32} {tx : zTx} {sh : zSh} {tp : zTs} {R : zW} {p : Int32} (hp : ¬ p = 0 ∧ ¬ p = 1) : zF Z M_X7_mean (d + 1) [.ref 0, .int p] (wX (nI b, nI k, rs, re, rb) th hi tx sh tp ++ R) [.long (-9223372036854775808)] (wX (nI b, nI k, rs, re, rb) th hi tx sh tp ++ R) := by
  unfold zF
  rw [wXlen]
  show zG Z M_X7_mean (d + 1) _ (R.length + 41) 0 [(0, .ref 0), (1, .int p)] [] (wX (nI b, nI k, rs, re, rb) th hi tx sh tp ++ R)
  refine s_iload_n dX7_mean_0 rfl ?_
  refine s_cs1 dX7_mean_1 g_X7_50 (c_X7_isBit) rfl rfl (Nat.le_of_ble_eq_true rfl) (Nat.le_of_ble_eq_true rfl) rfl ?_
  refine s_if_eq (tgt := 31) dX7_mean_4 (by decide) (fun hz => ?_) (fun hqz => absurd (ztN hp) hqz)
  clear hz
  refine s_ldc2 (v := (-9223372036854775808)) dX7_mean_31 (zin 504 (by decide +kernel) (by decide +kernel)) ?_
  exact s_lret dX7_mean_34 rfl ⟨rfl, rfl⟩ (by first | exact wXlen | rfl)
set_option maxHeartbeats 4000000 in
set_option maxRecDepth 100000 in
theorem x_mean {Z : zS} {d : Nat} {b k : Nat} {rs re rb : zRw} {th : zHd} {hi : Int32} {tx : zTx} {sh : zSh} {tp : zTs} {R : zW} {p : Nat} (hb : b < 256) (hp : p < 2) : zF Z M_X7_mean (d + 3) [.ref 0, .int (nI p)] (wX (nI b, nI k, rs, re, rb) th hi tx sh tp ++ R) [.long (kLO (pCML b k 48 0 0) p)] (wX (nI b, nI k, rs, re, rb) th hi tx sh tp ++ R) := by
  unfold zF
  rw [wXlen]
  show zG Z M_X7_mean (d + 3) _ (R.length + 41) 0 [(0, .ref 0), (1, .int (nI p))] [] (wX (nI b, nI k, rs, re, rb) th hi tx sh tp ++ R)
  refine s_iload_n dX7_mean_0 rfl ?_
  refine s_cs1 dX7_mean_1 g_X7_50 (c_X7_isBit) rfl rfl (Nat.le_of_ble_eq_true rfl) (Nat.le_of_ble_eq_true rfl) rfl ?_
  refine s_if_eq (tgt := 31) dX7_mean_4 (by decide) (fun hqz => absurd hqz (ztY hp)) (fun hz => ?_)
  clear hz
  refine s_aload_n dX7_mean_7 rfl ?_
  refine s_get dX7_mean_8 f_X7_14 (by rfl) (by rfl) ?_
  refine s_get dX7_mean_11 f_X7_53 (by rfl) (by rfl) ?_
  refine s_aload_n dX7_mean_14 rfl ?_
  refine s_get dX7_mean_15 f_X7_14 (by rfl) (by rfl) ?_
  refine s_get dX7_mean_18 f_X7_73 (by rfl) (by rfl) ?_
  refine s_cs1 dX7_mean_21 g_X7_216 (c_X1_commonOverMoves hb) rfl rfl (Nat.le_of_ble_eq_true rfl) (Nat.le_of_ble_eq_true rfl) rfl ?_
  refine s_iload_n dX7_mean_24 rfl ?_
  refine s_cs1 dX7_mean_25 g_X7_219 (c_low (by have := pCML_le b k 48 0 0; omega) hp) rfl rfl (Nat.le_of_ble_eq_true rfl) (Nat.le_of_ble_eq_true rfl) rfl ?_
  refine s_goto (tgt := 34) dX7_mean_28 (by decide) ?_
  exact s_lret dX7_mean_34 rfl ⟨rfl, rfl⟩ (by first | exact wXlen | rfl)
