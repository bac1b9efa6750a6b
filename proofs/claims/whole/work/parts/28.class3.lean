/-! ===== the class: rows told by hand, image, tapes ===== -/
def cpR (a b : zRw) : zRw := (va_cpy a.1 b.1 0 0 8, va_cpy a.2.1 b.2.1 0 0 8, a.2.2)
set_option maxHeartbeats 4000000 in
set_option maxRecDepth 100000 in
theorem x_see_e {Z : zS} {d : Nat} {b k : Nat} {rs re rb : zRw} {th : zHd} {hi : Int32} {tx : zTx} {sh : zSh} {tp : zTs} {R : zW} {n : Int32} : zF Z M_X7_see (d + 1) [.ref 0, .int (-1), .int n] (wX (nI b, nI k, rs, re, rb) th hi tx sh tp ++ R) [.int 0] (wX (nI b, nI k, (rs.1, rs.2.1, 0), re, rb) th hi tx sh tp ++ R) := by
  unfold zF
  rw [wXlen]
  show zG Z M_X7_see (d + 1) _ (R.length + 41) 0 [(0, .ref 0), (1, .int (-1)), (2, .int n)] [] (wX (nI b, nI k, rs, re, rb) th hi tx sh tp ++ R)
  refine s_iload_n dX7_see_0 rfl ?_
  refine s_iconst (v := (-1)) dX7_see_1 rfl ?_
  refine s_icmp_ne (tgt := 16) dX7_see_2 (by decide) (fun hqz => absurd rfl hqz) (fun hz => ?_)
  clear hz
  refine s_aload_n dX7_see_5 rfl ?_
  refine s_get dX7_see_6 f_X7_14 (by rfl) (by rfl) ?_
  refine s_get dX7_see_9 f_X7_191 (by rfl) (by rfl) ?_
  refine s_cv1 dX7_see_12 g_X7_195 (c_X3_empty (by rfl)) (by rfl) rfl rfl rfl rfl (Nat.le_of_ble_eq_true rfl) (Nat.le_of_ble_eq_true rfl) rfl ?_
  exact s_iret dX7_see_15 rfl ⟨rfl, rfl⟩ (by first | exact wXlen | rfl)
set_option maxHeartbeats 4000000 in
set_option maxRecDepth 100000 in
theorem x_see1 {Z : zS} {d : Nat} {b k : Nat} {rs re rb : zRw} {th : zHd} {hi : Int32} {tx : zTx} {sh : zSh} {tp : zTs} {R : zW} {c n : Int32} (h1 : ¬ c = -1) (hc : c < 0 ∨ 4 ≤ c) : zF Z M_X7_see (d + 1) [.ref 0, .int c, .int n] (wX (nI b, nI k, rs, re, rb) th hi tx sh tp ++ R) [.int (-1)] (wX (nI b, nI k, rs, re, rb) th hi tx sh tp ++ R) := by
  unfold zF
  rw [wXlen]
  show zG Z M_X7_see (d + 1) _ (R.length + 41) 0 [(0, .ref 0), (1, .int c), (2, .int n)] [] (wX (nI b, nI k, rs, re, rb) th hi tx sh tp ++ R)
  refine s_iload_n dX7_see_0 rfl ?_
  refine s_iconst (v := (-1)) dX7_see_1 rfl ?_
  refine s_icmp_ne (tgt := 16) dX7_see_2 (by decide) (fun hz => ?_) (fun hqz => absurd hqz h1)
  clear hz
  refine s_iload_n dX7_see_16 rfl ?_
  refine s_if_lt (tgt := 25) dX7_see_17 (by decide) (fun h_17 => ?_) (fun h_17 => ?_)
  · refine s_iconst (v := (-1)) dX7_see_25 rfl ?_
    exact s_iret dX7_see_26 rfl ⟨rfl, rfl⟩ (by first | exact wXlen | rfl)
  · refine s_iload_n dX7_see_20 rfl ?_
    refine s_iconst (v := 3) dX7_see_21 rfl ?_
    refine s_icmp_le (tgt := 27) dX7_see_22 (by decide) (fun h_22 => ?_) (fun h_22 => ?_)
    · exact absurd h_22 (zle3 (n := 3) (by decide) (hc.resolve_left h_17))
    · refine s_iconst (v := (-1)) dX7_see_25 rfl ?_
      exact s_iret dX7_see_26 rfl ⟨rfl, rfl⟩ (by first | exact wXlen | rfl)
theorem znm {t : Nat} (ht : t < 2 ^ 31) : ¬ nI t = -1 := by
  intro h
  have h2 := congrArg Int32.toInt h
  rw [nI_toInt ht] at h2
  have h3 : ((-1 : Int32)).toInt = -1 := by decide
  rw [h3] at h2
  omega
set_option maxHeartbeats 4000000 in
set_option maxRecDepth 100000 in
theorem x_see2 {Z : zS} {d : Nat} {b k : Nat} {rs re rb : zRw} {th : zHd} {hi : Int32} {tx : zTx} {sh : zSh} {tp : zTs} {R : zW} {t : Nat} {n : Int32} (ht : t < 4) (hn : n < 0 ∨ 100 ≤ n) : zF Z M_X7_see (d + 1) [.ref 0, .int (nI t), .int n] (wX (nI b, nI k, rs, re, rb) th hi tx sh tp ++ R) [.int (-2)] (wX (nI b, nI k, rs, re, rb) th hi tx sh tp ++ R) := by
  unfold zF
  rw [wXlen]
  show zG Z M_X7_see (d + 1) _ (R.length + 41) 0 [(0, .ref 0), (1, .int (nI t)), (2, .int n)] [] (wX (nI b, nI k, rs, re, rb) th hi tx sh tp ++ R)
  refine s_iload_n dX7_see_0 rfl ?_
  refine s_iconst (v := (-1)) dX7_see_1 rfl ?_
  refine s_icmp_ne (tgt := 16) dX7_see_2 (by decide) (fun hz => ?_) (fun hqz => absurd hqz (znm (by omega)))
  clear hz
  refine s_iload_n dX7_see_16 rfl ?_
  refine s_if_lt (tgt := 25) dX7_see_17 (by decide) (fun hqz => absurd hqz (nI_pos (by omega))) (fun hz => ?_)
  clear hz
  refine s_iload_n dX7_see_20 rfl ?_
  refine s_iconst (v := 3) dX7_see_21 rfl ?_
  refine s_icmp_le (tgt := 27) dX7_see_22 (by decide) (fun hz => ?_) (fun hqz => absurd (nI_le (show t ≤ 3 by omega) (by decide)) hqz)
  clear hz
  refine s_iload_n dX7_see_27 rfl ?_
  refine s_if_lt (tgt := 37) dX7_see_28 (by decide) (fun h_28 => ?_) (fun h_28 => ?_)
  · refine s_bipush (v := (-2)) dX7_see_37 rfl ?_
    exact s_iret dX7_see_39 rfl ⟨rfl, rfl⟩ (by first | exact wXlen | rfl)
  · refine s_iload_n dX7_see_31 rfl ?_
    refine s_bipush (v := 99) dX7_see_32 rfl ?_
    refine s_icmp_le (tgt := 40) dX7_see_34 (by decide) (fun h_34 => ?_) (fun h_34 => ?_)
    · exact absurd h_34 (zle3 (n := 99) (by decide) (hn.resolve_left h_28))
    · refine s_bipush (v := (-2)) dX7_see_37 rfl ?_
      exact s_iret dX7_see_39 rfl ⟨rfl, rfl⟩ (by first | exact wXlen | rfl)
set_option maxHeartbeats 4000000 in
set_option maxRecDepth 100000 in
theorem x_see_f {Z : zS} {d : Nat} {b k : Nat} {re rb : zRw} {th : zHd} {hi : Int32} {tx : zTx} {sh : zSh} {tp : zTs} {R : zW} {f g : Nat → Int32} {s : Nat} {t u : Nat} (ht : t < 4) (hu : u < 100) (hs : 4 ≤ s) (hs31 : s < 2 ^ 31) : zF Z M_X7_see (d + 1) [.ref 0, .int (nI t), .int (nI u)] (wX (nI b, nI k, (f, g, nI s), re, rb) th hi tx sh tp ++ R) [.int (-4)] (wX (nI b, nI k, (f, g, nI s), re, rb) th hi tx sh tp ++ R) := by
  unfold zF
  rw [wXlen]
  show zG Z M_X7_see (d + 1) _ (R.length + 41) 0 [(0, .ref 0), (1, .int (nI t)), (2, .int (nI u))] [] (wX (nI b, nI k, (f, g, nI s), re, rb) th hi tx sh tp ++ R)
  refine s_iload_n dX7_see_0 rfl ?_
  refine s_iconst (v := (-1)) dX7_see_1 rfl ?_
  refine s_icmp_ne (tgt := 16) dX7_see_2 (by decide) (fun hz => ?_) (fun hqz => absurd hqz (znm (by omega)))
  clear hz
  refine s_iload_n dX7_see_16 rfl ?_
  refine s_if_lt (tgt := 25) dX7_see_17 (by decide) (fun hqz => absurd hqz (nI_pos (by omega))) (fun hz => ?_)
  clear hz
  refine s_iload_n dX7_see_20 rfl ?_
  refine s_iconst (v := 3) dX7_see_21 rfl ?_
  refine s_icmp_le (tgt := 27) dX7_see_22 (by decide) (fun hz => ?_) (fun hqz => absurd (nI_le (show t ≤ 3 by omega) (by decide)) hqz)
  clear hz
  refine s_iload_n dX7_see_27 rfl ?_
  refine s_if_lt (tgt := 37) dX7_see_28 (by decide) (fun hqz => absurd hqz (nI_pos (by omega))) (fun hz => ?_)
  clear hz
  refine s_iload_n dX7_see_31 rfl ?_
  refine s_bipush (v := 99) dX7_see_32 rfl ?_
  refine s_icmp_le (tgt := 40) dX7_see_34 (by decide) (fun hz => ?_) (fun hqz => absurd (nI_le (show u ≤ 99 by omega) (by decide)) hqz)
  clear hz
  refine s_aload_n dX7_see_40 rfl ?_
  refine s_get dX7_see_41 f_X7_14 (by rfl) (by rfl) ?_
  refine s_get dX7_see_44 f_X7_191 (by rfl) (by rfl) ?_
  refine s_iload_n dX7_see_47 rfl ?_
  refine s_iload_n dX7_see_48 rfl ?_
  refine s_iconst (v := 4) dX7_see_49 rfl ?_
  refine s_cv1 dX7_see_50 g_X7_200 (c_append_full (l := 4) (by rfl) hs31 hs) (by rfl) rfl rfl rfl rfl (Nat.le_of_ble_eq_true rfl) (Nat.le_of_ble_eq_true rfl) rfl ?_
  exact s_iret dX7_see_53 rfl ⟨rfl, rfl⟩ (by first | exact wXlen | rfl)
set_option maxHeartbeats 4000000 in
set_option maxRecDepth 100000 in
theorem x_see {Z : zS} {d : Nat} {b k : Nat} {re rb : zRw} {th : zHd} {hi : Int32} {tx : zTx} {sh : zSh} {tp : zTs} {R : zW} {f g : Nat → Int32} {s : Nat} {t u : Nat} (ht : t < 4) (hu : u < 100) (hs : s < 4) : zF Z M_X7_see (d + 1) [.ref 0, .int (nI t), .int (nI u)] (wX (nI b, nI k, (f, g, nI s), re, rb) th hi tx sh tp ++ R) [.int (nI (s + 1))] (wX (nI b, nI k, (upd f s (nI t), upd g s (nI u), nI (s + 1)), re, rb) th hi tx sh tp ++ R) := by
  unfold zF
  rw [wXlen]
  show zG Z M_X7_see (d + 1) _ (R.length + 41) 0 [(0, .ref 0), (1, .int (nI t)), (2, .int (nI u))] [] (wX (nI b, nI k, (f, g, nI s), re, rb) th hi tx sh tp ++ R)
  refine s_iload_n dX7_see_0 rfl ?_
  refine s_iconst (v := (-1)) dX7_see_1 rfl ?_
  refine s_icmp_ne (tgt := 16) dX7_see_2 (by decide) (fun hz => ?_) (fun hqz => absurd hqz (znm (by omega)))
  clear hz
  refine s_iload_n dX7_see_16 rfl ?_
  refine s_if_lt (tgt := 25) dX7_see_17 (by decide) (fun hqz => absurd hqz (nI_pos (by omega))) (fun hz => ?_)
  clear hz
  refine s_iload_n dX7_see_20 rfl ?_
  refine s_iconst (v := 3) dX7_see_21 rfl ?_
  refine s_icmp_le (tgt := 27) dX7_see_22 (by decide) (fun hz => ?_) (fun hqz => absurd (nI_le (show t ≤ 3 by omega) (by decide)) hqz)
  clear hz
  refine s_iload_n dX7_see_27 rfl ?_
  refine s_if_lt (tgt := 37) dX7_see_28 (by decide) (fun hqz => absurd hqz (nI_pos (by omega))) (fun hz => ?_)
  clear hz
  refine s_iload_n dX7_see_31 rfl ?_
  refine s_bipush (v := 99) dX7_see_32 rfl ?_
  refine s_icmp_le (tgt := 40) dX7_see_34 (by decide) (fun hz => ?_) (fun hqz => absurd (nI_le (show u ≤ 99 by omega) (by decide)) hqz)
  clear hz
  refine s_aload_n dX7_see_40 rfl ?_
  refine s_get dX7_see_41 f_X7_14 (by rfl) (by rfl) ?_
  refine s_get dX7_see_44 f_X7_191 (by rfl) (by rfl) ?_
  refine s_iload_n dX7_see_47 rfl ?_
  refine s_iload_n dX7_see_48 rfl ?_
  refine s_iconst (v := 4) dX7_see_49 rfl ?_
  refine s_cv1 dX7_see_50 g_X7_200 (c_append_ok (k := 2) (a := 3) (b := 4) (l := 4) (by rfl) (by rfl) (by rfl) (by decide) (by decide) (by decide) hs (by decide)) (by rfl) rfl rfl rfl rfl (Nat.le_of_ble_eq_true rfl) (Nat.le_of_ble_eq_true rfl) rfl ?_
  exact s_iret dX7_see_53 rfl ⟨rfl, rfl⟩ (by first | exact wXlen | rfl)
set_option maxHeartbeats 4000000 in
set_option maxRecDepth 100000 in
theorem x_event_e {Z : zS} {d : Nat} {b k : Nat} {rs re rb : zRw} {th : zHd} {hi : Int32} {tx : zTx} {sh : zSh} {tp : zTs} {R : zW} {n : Int32} : zF Z M_X7_event (d + 1) [.ref 0, .int (-1), .int n] (wX (nI b, nI k, rs, re, rb) th hi tx sh tp ++ R) [.int 0] (wX (nI b, nI k, rs, (re.1, re.2.1, 0), rb) th hi tx sh tp ++ R) := by
  unfold zF
  rw [wXlen]
  show zG Z M_X7_event (d + 1) _ (R.length + 41) 0 [(0, .ref 0), (1, .int (-1)), (2, .int n)] [] (wX (nI b, nI k, rs, re, rb) th hi tx sh tp ++ R)
  refine s_iload_n dX7_event_0 rfl ?_
  refine s_tableIn (off := 31) (tgt := 32) dX7_event_1 (by decide) (by decide) (by rfl) (by decide) ?_
  refine s_aload_n dX7_event_32 rfl ?_
  refine s_get dX7_event_33 f_X7_14 (by rfl) (by rfl) ?_
  refine s_get dX7_event_36 f_X7_226 (by rfl) (by rfl) ?_
  refine s_cv1 dX7_event_39 g_X7_195 (c_X3_empty (by rfl)) (by rfl) rfl rfl rfl rfl (Nat.le_of_ble_eq_true rfl) (Nat.le_of_ble_eq_true rfl) rfl ?_
  exact s_iret dX7_event_42 rfl ⟨rfl, rfl⟩ (by first | exact wXlen | rfl)
theorem zsw1 {c : Int32} (h1 : ¬ c = -1) (h : c < 0 ∨ 3 ≤ c) : c.toInt < -1 ∨ (2 : Int) < c.toInt := by
  rcases h with h | h
  · rw [fa_lt] at h
    refine Or.inl ?_
    have h2 : c.toInt ≠ -1 := fun z => h1 ((fa_eq c (-1)).mpr z)
    have h3 : (0 : Int32).toInt = 0 := by decide
    omega
  · rw [fa_le] at h
    have h3 : (3 : Int32).toInt = 3 := by decide
    omega
set_option maxHeartbeats 4000000 in
set_option maxRecDepth 100000 in
theorem x_event_no {Z : zS} {d : Nat} {b k : Nat} {rs re rb : zRw} {th : zHd} {hi : Int32} {tx : zTx} {sh : zSh} {tp : zTs} {R : zW} {c n : Int32} (h1 : ¬ c = -1) (hc : c < 0 ∨ 3 ≤ c) : zF Z M_X7_event (d + 1) [.ref 0, .int c, .int n] (wX (nI b, nI k, rs, re, rb) th hi tx sh tp ++ R) [.int (-1)] (wX (nI b, nI k, rs, re, rb) th hi tx sh tp ++ R) := by
  unfold zF
  rw [wXlen]
  show zG Z M_X7_event (d + 1) _ (R.length + 41) 0 [(0, .ref 0), (1, .int c), (2, .int n)] [] (wX (nI b, nI k, rs, re, rb) th hi tx sh tp ++ R)
  refine s_iload_n dX7_event_0 rfl ?_
  refine s_tableOut (tgt := 119) dX7_event_1 (zsw1 h1 hc) (by decide) ?_
  refine s_iconst (v := (-1)) dX7_event_119 rfl ?_
  exact s_iret dX7_event_120 rfl ⟨rfl, rfl⟩ (by first | exact wXlen | rfl)
set_option maxHeartbeats 4000000 in
set_option maxRecDepth 100000 in
theorem x_event0_b {Z : zS} {d : Nat} {b k : Nat} {rs re rb : zRw} {th : zHd} {hi : Int32} {tx : zTx} {sh : zSh} {tp : zTs} {R : zW} {n : Int32} (hn : n < 0 ∨ 8 ≤ n) : zF Z M_X7_event (d + 1) [.ref 0, .int (nI 0), .int n] (wX (nI b, nI k, rs, re, rb) th hi tx sh tp ++ R) [.int (-1)] (wX (nI b, nI k, rs, re, rb) th hi tx sh tp ++ R) := by
  unfold zF
  rw [wXlen]
  show zG Z M_X7_event (d + 1) _ (R.length + 41) 0 [(0, .ref 0), (1, .int (nI 0)), (2, .int n)] [] (wX (nI b, nI k, rs, re, rb) th hi tx sh tp ++ R)
  refine s_iload_n dX7_event_0 rfl ?_
  refine s_tableIn (off := 42) (tgt := 43) dX7_event_1 (by decide) (by decide) (by rfl) (by decide) ?_
  refine s_iload_n dX7_event_43 rfl ?_
  refine s_cs1 dX7_event_44 g_X7_46 (c_X7_isCorner) rfl rfl (Nat.le_of_ble_eq_true rfl) (Nat.le_of_ble_eq_true rfl) rfl ?_
  refine s_if_eq (tgt := 67) dX7_event_47 (by decide) (fun hz => ?_) (fun hqz => absurd (zrN hn) hqz)
  clear hz
  refine s_iconst (v := (-1)) dX7_event_67 rfl ?_
  exact s_iret dX7_event_68 rfl ⟨rfl, rfl⟩ (by first | exact wXlen | rfl)
set_option maxHeartbeats 4000000 in
set_option maxRecDepth 100000 in
theorem x_event0_f {Z : zS} {d : Nat} {b k : Nat} {rs rb : zRw} {th : zHd} {hi : Int32} {tx : zTx} {sh : zSh} {tp : zTs} {R : zW} {f g : Nat → Int32} {s : Nat} {u : Nat} (hu : u < 8) (hs : 8 ≤ s) (hs31 : s < 2 ^ 31) : zF Z M_X7_event (d + 1) [.ref 0, .int (nI 0), .int (nI u)] (wX (nI b, nI k, rs, (f, g, nI s), rb) th hi tx sh tp ++ R) [.int (-4)] (wX (nI b, nI k, rs, (f, g, nI s), rb) th hi tx sh tp ++ R) := by
  unfold zF
  rw [wXlen]
  show zG Z M_X7_event (d + 1) _ (R.length + 41) 0 [(0, .ref 0), (1, .int (nI 0)), (2, .int (nI u))] [] (wX (nI b, nI k, rs, (f, g, nI s), rb) th hi tx sh tp ++ R)
  refine s_iload_n dX7_event_0 rfl ?_
  refine s_tableIn (off := 42) (tgt := 43) dX7_event_1 (by decide) (by decide) (by rfl) (by decide) ?_
  refine s_iload_n dX7_event_43 rfl ?_
  refine s_cs1 dX7_event_44 g_X7_46 (c_X7_isCorner) rfl rfl (Nat.le_of_ble_eq_true rfl) (Nat.le_of_ble_eq_true rfl) rfl ?_
  refine s_if_eq (tgt := 67) dX7_event_47 (by decide) (fun hqz => absurd hqz (zrY (n := 8) hu (by decide))) (fun hz => ?_)
  clear hz
  refine s_aload_n dX7_event_50 rfl ?_
  refine s_get dX7_event_51 f_X7_14 (by rfl) (by rfl) ?_
  refine s_get dX7_event_54 f_X7_226 (by rfl) (by rfl) ?_
  refine s_iload_n dX7_event_57 rfl ?_
  refine s_iload_n dX7_event_58 rfl ?_
  refine s_bipush (v := 8) dX7_event_59 rfl ?_
  refine s_cv1 dX7_event_61 g_X7_200 (c_append_full (l := 8) (by rfl) hs31 hs) (by rfl) rfl rfl rfl rfl (Nat.le_of_ble_eq_true rfl) (Nat.le_of_ble_eq_true rfl) rfl ?_
  refine s_goto (tgt := 68) dX7_event_64 (by decide) ?_
  exact s_iret dX7_event_68 rfl ⟨rfl, rfl⟩ (by first | exact wXlen | rfl)
set_option maxHeartbeats 4000000 in
set_option maxRecDepth 100000 in
theorem x_event0 {Z : zS} {d : Nat} {b k : Nat} {rs rb : zRw} {th : zHd} {hi : Int32} {tx : zTx} {sh : zSh} {tp : zTs} {R : zW} {f g : Nat → Int32} {s : Nat} {u : Nat} (hu : u < 8) (hs : s < 8) : zF Z M_X7_event (d + 1) [.ref 0, .int (nI 0), .int (nI u)] (wX (nI b, nI k, rs, (f, g, nI s), rb) th hi tx sh tp ++ R) [.int (nI (s + 1))] (wX (nI b, nI k, rs, (upd f s (nI 0), upd g s (nI u), nI (s + 1)), rb) th hi tx sh tp ++ R) := by
  unfold zF
  rw [wXlen]
  show zG Z M_X7_event (d + 1) _ (R.length + 41) 0 [(0, .ref 0), (1, .int (nI 0)), (2, .int (nI u))] [] (wX (nI b, nI k, rs, (f, g, nI s), rb) th hi tx sh tp ++ R)
  refine s_iload_n dX7_event_0 rfl ?_
  refine s_tableIn (off := 42) (tgt := 43) dX7_event_1 (by decide) (by decide) (by rfl) (by decide) ?_
  refine s_iload_n dX7_event_43 rfl ?_
  refine s_cs1 dX7_event_44 g_X7_46 (c_X7_isCorner) rfl rfl (Nat.le_of_ble_eq_true rfl) (Nat.le_of_ble_eq_true rfl) rfl ?_
  refine s_if_eq (tgt := 67) dX7_event_47 (by decide) (fun hqz => absurd hqz (zrY (n := 8) hu (by decide))) (fun hz => ?_)
  clear hz
  refine s_aload_n dX7_event_50 rfl ?_
  refine s_get dX7_event_51 f_X7_14 (by rfl) (by rfl) ?_
  refine s_get dX7_event_54 f_X7_226 (by rfl) (by rfl) ?_
  refine s_iload_n dX7_event_57 rfl ?_
  refine s_iload_n dX7_event_58 rfl ?_
  refine s_bipush (v := 8) dX7_event_59 rfl ?_
  refine s_cv1 dX7_event_61 g_X7_200 (c_append_ok (k := 5) (a := 6) (b := 7) (l := 8) (by rfl) (by rfl) (by rfl) (by decide) (by decide) (by decide) hs (by decide)) (by rfl) rfl rfl rfl rfl (Nat.le_of_ble_eq_true rfl) (Nat.le_of_ble_eq_true rfl) rfl ?_
  refine s_goto (tgt := 68) dX7_event_64 (by decide) ?_
  exact s_iret dX7_event_68 rfl ⟨rfl, rfl⟩ (by first | exact wXlen | rfl)
set_option maxHeartbeats 4000000 in
set_option maxRecDepth 100000 in
theorem x_event1_b {Z : zS} {d : Nat} {b k : Nat} {rs re rb : zRw} {th : zHd} {hi : Int32} {tx : zTx} {sh : zSh} {tp : zTs} {R : zW} {n : Int32} (hn : n < 0 ∨ 48 ≤ n) : zF Z M_X7_event (d + 1) [.ref 0, .int (nI 1), .int n] (wX (nI b, nI k, rs, re, rb) th hi tx sh tp ++ R) [.int (-1)] (wX (nI b, nI k, rs, re, rb) th hi tx sh tp ++ R) := by
  unfold zF
  rw [wXlen]
  show zG Z M_X7_event (d + 1) _ (R.length + 41) 0 [(0, .ref 0), (1, .int (nI 1)), (2, .int n)] [] (wX (nI b, nI k, rs, re, rb) th hi tx sh tp ++ R)
  refine s_iload_n dX7_event_0 rfl ?_
  refine s_tableIn (off := 68) (tgt := 69) dX7_event_1 (by decide) (by decide) (by rfl) (by decide) ?_
  refine s_iload_n dX7_event_69 rfl ?_
  refine s_cs1 dX7_event_70 g_X7_61 (c_X7_isMove) rfl rfl (Nat.le_of_ble_eq_true rfl) (Nat.le_of_ble_eq_true rfl) rfl ?_
  refine s_if_eq (tgt := 93) dX7_event_73 (by decide) (fun hz => ?_) (fun hqz => absurd (zrN hn) hqz)
  clear hz
  refine s_iconst (v := (-1)) dX7_event_93 rfl ?_
  exact s_iret dX7_event_94 rfl ⟨rfl, rfl⟩ (by first | exact wXlen | rfl)
set_option maxHeartbeats 4000000 in
set_option maxRecDepth 100000 in
theorem x_event1_f {Z : zS} {d : Nat} {b k : Nat} {rs rb : zRw} {th : zHd} {hi : Int32} {tx : zTx} {sh : zSh} {tp : zTs} {R : zW} {f g : Nat → Int32} {s : Nat} {u : Nat} (hu : u < 48) (hs : 8 ≤ s) (hs31 : s < 2 ^ 31) : zF Z M_X7_event (d + 1) [.ref 0, .int (nI 1), .int (nI u)] (wX (nI b, nI k, rs, (f, g, nI s), rb) th hi tx sh tp ++ R) [.int (-4)] (wX (nI b, nI k, rs, (f, g, nI s), rb) th hi tx sh tp ++ R) := by
  unfold zF
  rw [wXlen]
  show zG Z M_X7_event (d + 1) _ (R.length + 41) 0 [(0, .ref 0), (1, .int (nI 1)), (2, .int (nI u))] [] (wX (nI b, nI k, rs, (f, g, nI s), rb) th hi tx sh tp ++ R)
  refine s_iload_n dX7_event_0 rfl ?_
  refine s_tableIn (off := 68) (tgt := 69) dX7_event_1 (by decide) (by decide) (by rfl) (by decide) ?_
  refine s_iload_n dX7_event_69 rfl ?_
  refine s_cs1 dX7_event_70 g_X7_61 (c_X7_isMove) rfl rfl (Nat.le_of_ble_eq_true rfl) (Nat.le_of_ble_eq_true rfl) rfl ?_
  refine s_if_eq (tgt := 93) dX7_event_73 (by decide) (fun hqz => absurd hqz (zrY (n := 48) hu (by decide))) (fun hz => ?_)
  clear hz
  refine s_aload_n dX7_event_76 rfl ?_
  refine s_get dX7_event_77 f_X7_14 (by rfl) (by rfl) ?_
  refine s_get dX7_event_80 f_X7_226 (by rfl) (by rfl) ?_
  refine s_iload_n dX7_event_83 rfl ?_
  refine s_iload_n dX7_event_84 rfl ?_
  refine s_bipush (v := 8) dX7_event_85 rfl ?_
  refine s_cv1 dX7_event_87 g_X7_200 (c_append_full (l := 8) (by rfl) hs31 hs) (by rfl) rfl rfl rfl rfl (Nat.le_of_ble_eq_true rfl) (Nat.le_of_ble_eq_true rfl) rfl ?_
  refine s_goto (tgt := 94) dX7_event_90 (by decide) ?_
  exact s_iret dX7_event_94 rfl ⟨rfl, rfl⟩ (by first | exact wXlen | rfl)
set_option maxHeartbeats 4000000 in
set_option maxRecDepth 100000 in
theorem x_event1 {Z : zS} {d : Nat} {b k : Nat} {rs rb : zRw} {th : zHd} {hi : Int32} {tx : zTx} {sh : zSh} {tp : zTs} {R : zW} {f g : Nat → Int32} {s : Nat} {u : Nat} (hu : u < 48) (hs : s < 8) : zF Z M_X7_event (d + 1) [.ref 0, .int (nI 1), .int (nI u)] (wX (nI b, nI k, rs, (f, g, nI s), rb) th hi tx sh tp ++ R) [.int (nI (s + 1))] (wX (nI b, nI k, rs, (upd f s (nI 1), upd g s (nI u), nI (s + 1)), rb) th hi tx sh tp ++ R) := by
  unfold zF
  rw [wXlen]
  show zG Z M_X7_event (d + 1) _ (R.length + 41) 0 [(0, .ref 0), (1, .int (nI 1)), (2, .int (nI u))] [] (wX (nI b, nI k, rs, (f, g, nI s), rb) th hi tx sh tp ++ R)
  refine s_iload_n dX7_event_0 rfl ?_
  refine s_tableIn (off := 68) (tgt := 69) dX7_event_1 (by decide) (by decide) (by rfl) (by decide) ?_
  refine s_iload_n dX7_event_69 rfl ?_
  refine s_cs1 dX7_event_70 g_X7_61 (c_X7_isMove) rfl rfl (Nat.le_of_ble_eq_true rfl) (Nat.le_of_ble_eq_true rfl) rfl ?_
  refine s_if_eq (tgt := 93) dX7_event_73 (by decide) (fun hqz => absurd hqz (zrY (n := 48) hu (by decide))) (fun hz => ?_)
  clear hz
  refine s_aload_n dX7_event_76 rfl ?_
  refine s_get dX7_event_77 f_X7_14 (by rfl) (by rfl) ?_
  refine s_get dX7_event_80 f_X7_226 (by rfl) (by rfl) ?_
  refine s_iload_n dX7_event_83 rfl ?_
  refine s_iload_n dX7_event_84 rfl ?_
  refine s_bipush (v := 8) dX7_event_85 rfl ?_
  refine s_cv1 dX7_event_87 g_X7_200 (c_append_ok (k := 5) (a := 6) (b := 7) (l := 8) (by rfl) (by rfl) (by rfl) (by decide) (by decide) (by decide) hs (by decide)) (by rfl) rfl rfl rfl rfl (Nat.le_of_ble_eq_true rfl) (Nat.le_of_ble_eq_true rfl) rfl ?_
  refine s_goto (tgt := 94) dX7_event_90 (by decide) ?_
  exact s_iret dX7_event_94 rfl ⟨rfl, rfl⟩ (by first | exact wXlen | rfl)
set_option maxHeartbeats 4000000 in
set_option maxRecDepth 100000 in
theorem x_event2_b {Z : zS} {d : Nat} {b k : Nat} {rs re rb : zRw} {th : zHd} {hi : Int32} {tx : zTx} {sh : zSh} {tp : zTs} {R : zW} {n : Int32} (hn : ¬ n = 0) : zF Z M_X7_event (d + 1) [.ref 0, .int (nI 2), .int n] (wX (nI b, nI k, rs, re, rb) th hi tx sh tp ++ R) [.int (-2)] (wX (nI b, nI k, rs, re, rb) th hi tx sh tp ++ R) := by
  unfold zF
  rw [wXlen]
  show zG Z M_X7_event (d + 1) _ (R.length + 41) 0 [(0, .ref 0), (1, .int (nI 2)), (2, .int n)] [] (wX (nI b, nI k, rs, re, rb) th hi tx sh tp ++ R)
  refine s_iload_n dX7_event_0 rfl ?_
  refine s_tableIn (off := 94) (tgt := 95) dX7_event_1 (by decide) (by decide) (by rfl) (by decide) ?_
  refine s_iload_n dX7_event_95 rfl ?_
  refine s_if_ne (tgt := 116) dX7_event_96 (by decide) (fun hz => ?_) (fun hqz => absurd hqz hn)
  clear hz
  refine s_bipush (v := (-2)) dX7_event_116 rfl ?_
  exact s_iret dX7_event_118 rfl ⟨rfl, rfl⟩ (by first | exact wXlen | rfl)
set_option maxHeartbeats 4000000 in
set_option maxRecDepth 100000 in
theorem x_event2_f {Z : zS} {d : Nat} {b k : Nat} {rs rb : zRw} {th : zHd} {hi : Int32} {tx : zTx} {sh : zSh} {tp : zTs} {R : zW} {f g : Nat → Int32} {s : Nat} (hs : 8 ≤ s) (hs31 : s < 2 ^ 31) : zF Z M_X7_event (d + 1) [.ref 0, .int (nI 2), .int (nI 0)] (wX (nI b, nI k, rs, (f, g, nI s), rb) th hi tx sh tp ++ R) [.int (-4)] (wX (nI b, nI k, rs, (f, g, nI s), rb) th hi tx sh tp ++ R) := by
  unfold zF
  rw [wXlen]
  show zG Z M_X7_event (d + 1) _ (R.length + 41) 0 [(0, .ref 0), (1, .int (nI 2)), (2, .int (nI 0))] [] (wX (nI b, nI k, rs, (f, g, nI s), rb) th hi tx sh tp ++ R)
  refine s_iload_n dX7_event_0 rfl ?_
  refine s_tableIn (off := 94) (tgt := 95) dX7_event_1 (by decide) (by decide) (by rfl) (by decide) ?_
  refine s_iload_n dX7_event_95 rfl ?_
  refine s_if_ne (tgt := 116) dX7_event_96 (by decide) (fun hqz => absurd rfl hqz) (fun hz => ?_)
  clear hz
  refine s_aload_n dX7_event_99 rfl ?_
  refine s_get dX7_event_100 f_X7_14 (by rfl) (by rfl) ?_
  refine s_get dX7_event_103 f_X7_226 (by rfl) (by rfl) ?_
  refine s_iload_n dX7_event_106 rfl ?_
  refine s_iload_n dX7_event_107 rfl ?_
  refine s_bipush (v := 8) dX7_event_108 rfl ?_
  refine s_cv1 dX7_event_110 g_X7_200 (c_append_full (l := 8) (by rfl) hs31 hs) (by rfl) rfl rfl rfl rfl (Nat.le_of_ble_eq_true rfl) (Nat.le_of_ble_eq_true rfl) rfl ?_
  refine s_goto (tgt := 118) dX7_event_113 (by decide) ?_
  exact s_iret dX7_event_118 rfl ⟨rfl, rfl⟩ (by first | exact wXlen | rfl)
set_option maxHeartbeats 4000000 in
set_option maxRecDepth 100000 in
theorem x_event2 {Z : zS} {d : Nat} {b k : Nat} {rs rb : zRw} {th : zHd} {hi : Int32} {tx : zTx} {sh : zSh} {tp : zTs} {R : zW} {f g : Nat → Int32} {s : Nat} (hs : s < 8) : zF Z M_X7_event (d + 1) [.ref 0, .int (nI 2), .int (nI 0)] (wX (nI b, nI k, rs, (f, g, nI s), rb) th hi tx sh tp ++ R) [.int (nI (s + 1))] (wX (nI b, nI k, rs, (upd f s (nI 2), upd g s (nI 0), nI (s + 1)), rb) th hi tx sh tp ++ R) := by
  unfold zF
  rw [wXlen]
  show zG Z M_X7_event (d + 1) _ (R.length + 41) 0 [(0, .ref 0), (1, .int (nI 2)), (2, .int (nI 0))] [] (wX (nI b, nI k, rs, (f, g, nI s), rb) th hi tx sh tp ++ R)
  refine s_iload_n dX7_event_0 rfl ?_
  refine s_tableIn (off := 94) (tgt := 95) dX7_event_1 (by decide) (by decide) (by rfl) (by decide) ?_
  refine s_iload_n dX7_event_95 rfl ?_
  refine s_if_ne (tgt := 116) dX7_event_96 (by decide) (fun hqz => absurd rfl hqz) (fun hz => ?_)
  clear hz
  refine s_aload_n dX7_event_99 rfl ?_
  refine s_get dX7_event_100 f_X7_14 (by rfl) (by rfl) ?_
  refine s_get dX7_event_103 f_X7_226 (by rfl) (by rfl) ?_
  refine s_iload_n dX7_event_106 rfl ?_
  refine s_iload_n dX7_event_107 rfl ?_
  refine s_bipush (v := 8) dX7_event_108 rfl ?_
  refine s_cv1 dX7_event_110 g_X7_200 (c_append_ok (k := 5) (a := 6) (b := 7) (l := 8) (by rfl) (by rfl) (by rfl) (by decide) (by decide) (by decide) hs (by decide)) (by rfl) rfl rfl rfl rfl (Nat.le_of_ble_eq_true rfl) (Nat.le_of_ble_eq_true rfl) rfl ?_
  refine s_goto (tgt := 118) dX7_event_113 (by decide) ?_
  exact s_iret dX7_event_118 rfl ⟨rfl, rfl⟩ (by first | exact wXlen | rfl)
set_option maxHeartbeats 4000000 in
set_option maxRecDepth 100000 in
theorem x_book_e {Z : zS} {d : Nat} {b k : Nat} {rs re rb : zRw} {th : zHd} {hi : Int32} {tx : zTx} {sh : zSh} {tp : zTs} {R : zW} {n : Int32} : zF Z M_X7_book (d + 1) [.ref 0, .int (-1), .int n] (wX (nI b, nI k, rs, re, rb) th hi tx sh tp ++ R) [.int 0] (wX (nI b, nI k, rs, re, (rb.1, rb.2.1, 0)) th hi tx sh tp ++ R) := by
  unfold zF
  rw [wXlen]
  show zG Z M_X7_book (d + 1) _ (R.length + 41) 0 [(0, .ref 0), (1, .int (-1)), (2, .int n)] [] (wX (nI b, nI k, rs, re, rb) th hi tx sh tp ++ R)
  refine s_iload_n dX7_book_0 rfl ?_
  refine s_iconst (v := (-1)) dX7_book_1 rfl ?_
  refine s_icmp_ne (tgt := 16) dX7_book_2 (by decide) (fun hqz => absurd rfl hqz) (fun hz => ?_)
  clear hz
  refine s_aload_n dX7_book_5 rfl ?_
  refine s_get dX7_book_6 f_X7_14 (by rfl) (by rfl) ?_
  refine s_get dX7_book_9 f_X7_232 (by rfl) (by rfl) ?_
  refine s_cv1 dX7_book_12 g_X7_195 (c_X3_empty (by rfl)) (by rfl) rfl rfl rfl rfl (Nat.le_of_ble_eq_true rfl) (Nat.le_of_ble_eq_true rfl) rfl ?_
  exact s_iret dX7_book_15 rfl ⟨rfl, rfl⟩ (by first | exact wXlen | rfl)
set_option maxHeartbeats 4000000 in
set_option maxRecDepth 100000 in
theorem x_book1 {Z : zS} {d : Nat} {b k : Nat} {rs re rb : zRw} {th : zHd} {hi : Int32} {tx : zTx} {sh : zSh} {tp : zTs} {R : zW} {c n : Int32} (h1 : ¬ c = -1) (hc : c < 0 ∨ 8 ≤ c) : zF Z M_X7_book (d + 1) [.ref 0, .int c, .int n] (wX (nI b, nI k, rs, re, rb) th hi tx sh tp ++ R) [.int (-1)] (wX (nI b, nI k, rs, re, rb) th hi tx sh tp ++ R) := by
  unfold zF
  rw [wXlen]
  show zG Z M_X7_book (d + 1) _ (R.length + 41) 0 [(0, .ref 0), (1, .int c), (2, .int n)] [] (wX (nI b, nI k, rs, re, rb) th hi tx sh tp ++ R)
  refine s_iload_n dX7_book_0 rfl ?_
  refine s_iconst (v := (-1)) dX7_book_1 rfl ?_
  refine s_icmp_ne (tgt := 16) dX7_book_2 (by decide) (fun hz => ?_) (fun hqz => absurd hqz h1)
  clear hz
  refine s_iload_n dX7_book_16 rfl ?_
  refine s_cs1 dX7_book_17 g_X7_46 (c_X7_isCorner) rfl rfl (Nat.le_of_ble_eq_true rfl) (Nat.le_of_ble_eq_true rfl) rfl ?_
  refine s_if_ne (tgt := 25) dX7_book_20 (by decide) (fun hqz => absurd (zrN hc) hqz) (fun hz => ?_)
  clear hz
  refine s_iconst (v := (-1)) dX7_book_23 rfl ?_
  exact s_iret dX7_book_24 rfl ⟨rfl, rfl⟩ (by first | exact wXlen | rfl)
set_option maxHeartbeats 4000000 in
set_option maxRecDepth 100000 in
theorem x_book2 {Z : zS} {d : Nat} {b k : Nat} {rs re rb : zRw} {th : zHd} {hi : Int32} {tx : zTx} {sh : zSh} {tp : zTs} {R : zW} {c : Nat} {n : Int32} (hc : c < 8) (hn : ¬ n = 0 ∧ ¬ n = 1) : zF Z M_X7_book (d + 1) [.ref 0, .int (nI c), .int n] (wX (nI b, nI k, rs, re, rb) th hi tx sh tp ++ R) [.int (-2)] (wX (nI b, nI k, rs, re, rb) th hi tx sh tp ++ R) := by
  unfold zF
  rw [wXlen]
  show zG Z M_X7_book (d + 1) _ (R.length + 41) 0 [(0, .ref 0), (1, .int (nI c)), (2, .int n)] [] (wX (nI b, nI k, rs, re, rb) th hi tx sh tp ++ R)
  refine s_iload_n dX7_book_0 rfl ?_
  refine s_iconst (v := (-1)) dX7_book_1 rfl ?_
  refine s_icmp_ne (tgt := 16) dX7_book_2 (by decide) (fun hz => ?_) (fun hqz => absurd hqz (znm (by omega)))
  clear hz
  refine s_iload_n dX7_book_16 rfl ?_
  refine s_cs1 dX7_book_17 g_X7_46 (c_X7_isCorner) rfl rfl (Nat.le_of_ble_eq_true rfl) (Nat.le_of_ble_eq_true rfl) rfl ?_
  refine s_if_ne (tgt := 25) dX7_book_20 (by decide) (fun hz => ?_) (fun hqz => absurd hqz (zrY (n := 8) hc (by decide)))
  clear hz
  refine s_iload_n dX7_book_25 rfl ?_
  refine s_cs1 dX7_book_26 g_X7_50 (c_X7_isBit) rfl rfl (Nat.le_of_ble_eq_true rfl) (Nat.le_of_ble_eq_true rfl) rfl ?_
  refine s_if_eq (tgt := 49) dX7_book_29 (by decide) (fun hz => ?_) (fun hqz => absurd (ztN hn) hqz)
  clear hz
  refine s_bipush (v := (-2)) dX7_book_49 rfl ?_
  exact s_iret dX7_book_51 rfl ⟨rfl, rfl⟩ (by first | exact wXlen | rfl)
set_option maxHeartbeats 4000000 in
set_option maxRecDepth 100000 in
theorem x_book_f {Z : zS} {d : Nat} {b k : Nat} {rs re : zRw} {th : zHd} {hi : Int32} {tx : zTx} {sh : zSh} {tp : zTs} {R : zW} {f g : Nat → Int32} {s : Nat} {c u : Nat} (hc : c < 8) (hu : u < 2) (hs : 8 ≤ s) (hs31 : s < 2 ^ 31) : zF Z M_X7_book (d + 1) [.ref 0, .int (nI c), .int (nI u)] (wX (nI b, nI k, rs, re, (f, g, nI s)) th hi tx sh tp ++ R) [.int (-4)] (wX (nI b, nI k, rs, re, (f, g, nI s)) th hi tx sh tp ++ R) := by
  unfold zF
  rw [wXlen]
  show zG Z M_X7_book (d + 1) _ (R.length + 41) 0 [(0, .ref 0), (1, .int (nI c)), (2, .int (nI u))] [] (wX (nI b, nI k, rs, re, (f, g, nI s)) th hi tx sh tp ++ R)
  refine s_iload_n dX7_book_0 rfl ?_
  refine s_iconst (v := (-1)) dX7_book_1 rfl ?_
  refine s_icmp_ne (tgt := 16) dX7_book_2 (by decide) (fun hz => ?_) (fun hqz => absurd hqz (znm (by omega)))
  clear hz
  refine s_iload_n dX7_book_16 rfl ?_
  refine s_cs1 dX7_book_17 g_X7_46 (c_X7_isCorner) rfl rfl (Nat.le_of_ble_eq_true rfl) (Nat.le_of_ble_eq_true rfl) rfl ?_
  refine s_if_ne (tgt := 25) dX7_book_20 (by decide) (fun hz => ?_) (fun hqz => absurd hqz (zrY (n := 8) hc (by decide)))
  clear hz
  refine s_iload_n dX7_book_25 rfl ?_
  refine s_cs1 dX7_book_26 g_X7_50 (c_X7_isBit) rfl rfl (Nat.le_of_ble_eq_true rfl) (Nat.le_of_ble_eq_true rfl) rfl ?_
  refine s_if_eq (tgt := 49) dX7_book_29 (by decide) (fun hqz => absurd hqz (ztY hu)) (fun hz => ?_)
  clear hz
  refine s_aload_n dX7_book_32 rfl ?_
  refine s_get dX7_book_33 f_X7_14 (by rfl) (by rfl) ?_
  refine s_get dX7_book_36 f_X7_232 (by rfl) (by rfl) ?_
  refine s_iload_n dX7_book_39 rfl ?_
  refine s_iload_n dX7_book_40 rfl ?_
  refine s_bipush (v := 8) dX7_book_41 rfl ?_
  refine s_cv1 dX7_book_43 g_X7_200 (c_append_full (l := 8) (by rfl) hs31 hs) (by rfl) rfl rfl rfl rfl (Nat.le_of_ble_eq_true rfl) (Nat.le_of_ble_eq_true rfl) rfl ?_
  refine s_goto (tgt := 51) dX7_book_46 (by decide) ?_
  exact s_iret dX7_book_51 rfl ⟨rfl, rfl⟩ (by first | exact wXlen | rfl)
set_option maxHeartbeats 4000000 in
set_option maxRecDepth 100000 in
theorem x_book {Z : zS} {d : Nat} {b k : Nat} {rs re : zRw} {th : zHd} {hi : Int32} {tx : zTx} {sh : zSh} {tp : zTs} {R : zW} {f g : Nat → Int32} {s : Nat} {c u : Nat} (hc : c < 8) (hu : u < 2) (hs : s < 8) : zF Z M_X7_book (d + 1) [.ref 0, .int (nI c), .int (nI u)] (wX (nI b, nI k, rs, re, (f, g, nI s)) th hi tx sh tp ++ R) [.int (nI (s + 1))] (wX (nI b, nI k, rs, re, (upd f s (nI c), upd g s (nI u), nI (s + 1))) th hi tx sh tp ++ R) := by
  unfold zF
  rw [wXlen]
  show zG Z M_X7_book (d + 1) _ (R.length + 41) 0 [(0, .ref 0), (1, .int (nI c)), (2, .int (nI u))] [] (wX (nI b, nI k, rs, re, (f, g, nI s)) th hi tx sh tp ++ R)
  refine s_iload_n dX7_book_0 rfl ?_
  refine s_iconst (v := (-1)) dX7_book_1 rfl ?_
  refine s_icmp_ne (tgt := 16) dX7_book_2 (by decide) (fun hz => ?_) (fun hqz => absurd hqz (znm (by omega)))
  clear hz
  refine s_iload_n dX7_book_16 rfl ?_
  refine s_cs1 dX7_book_17 g_X7_46 (c_X7_isCorner) rfl rfl (Nat.le_of_ble_eq_true rfl) (Nat.le_of_ble_eq_true rfl) rfl ?_
  refine s_if_ne (tgt := 25) dX7_book_20 (by decide) (fun hz => ?_) (fun hqz => absurd hqz (zrY (n := 8) hc (by decide)))
  clear hz
  refine s_iload_n dX7_book_25 rfl ?_
  refine s_cs1 dX7_book_26 g_X7_50 (c_X7_isBit) rfl rfl (Nat.le_of_ble_eq_true rfl) (Nat.le_of_ble_eq_true rfl) rfl ?_
  refine s_if_eq (tgt := 49) dX7_book_29 (by decide) (fun hqz => absurd hqz (ztY hu)) (fun hz => ?_)
  clear hz
  refine s_aload_n dX7_book_32 rfl ?_
  refine s_get dX7_book_33 f_X7_14 (by rfl) (by rfl) ?_
  refine s_get dX7_book_36 f_X7_232 (by rfl) (by rfl) ?_
  refine s_iload_n dX7_book_39 rfl ?_
  refine s_iload_n dX7_book_40 rfl ?_
  refine s_bipush (v := 8) dX7_book_41 rfl ?_
  refine s_cv1 dX7_book_43 g_X7_200 (c_append_ok (k := 8) (a := 9) (b := 10) (l := 8) (by rfl) (by rfl) (by rfl) (by decide) (by decide) (by decide) hs (by decide)) (by rfl) rfl rfl rfl rfl (Nat.le_of_ble_eq_true rfl) (Nat.le_of_ble_eq_true rfl) rfl ?_
  refine s_goto (tgt := 51) dX7_book_46 (by decide) ?_
  exact s_iret dX7_book_51 rfl ⟨rfl, rfl⟩ (by first | exact wXlen | rfl)
def zBT (b : Nat) (x : Int32) : Int32 := nI b >>> (x &&& 31) &&& 1
def kLK (b : Nat) (f g : Nat → Int32) : Nat → Nat → Int32
  | 0, _ => -5
  | n + 1, r => if zBT b (f r) = g r then kLK b f g n (r + 1) else nI r
set_option maxHeartbeats 4000000 in
set_option maxRecDepth 100000 in
theorem l_looked {Z : zS} {d : Nat} {b k : Nat} {rs re : zRw} {th : zHd} {hi : Int32} {tx : zTx} {sh : zSh} {tp : zTs} {R : zW} {f g : Nat → Int32} {s : Nat} (hs : s ≤ 8) : ∀ (n r : Nat), r + n = s → zG Z M_X7_looked (d + 1) (fun r1 w1 => r1 = [.int (kLK b f g n r)] ∧ w1 = (wX (nI b, nI k, rs, re, (f, g, nI s)) th hi tx sh tp ++ R)) (R.length + 41) 2 [(0, .ref 0), (1, .int (nI r))] [] (wX (nI b, nI k, rs, re, (f, g, nI s)) th hi tx sh tp ++ R) := by
  intro n
  induction n with
  | zero =>
    intro r hi
    have hi : r = s := by omega
    subst hi
    refine s_iload_n dX7_looked_2 rfl ?_
    refine s_aload_n dX7_looked_3 rfl ?_
    refine s_get dX7_looked_4 f_X7_14 (by rfl) (by rfl) ?_
    refine s_get dX7_looked_7 f_X7_232 (by rfl) (by rfl) ?_
    refine s_get dX7_looked_10 f_X7_206 (by rfl) (by rfl) ?_
    refine s_icmp_ge (tgt := 59) dX7_looked_13 (by decide) (fun hz => ?_) (fun hqz => absurd (nI_le (Nat.le_refl _) (by omega)) hqz)
    clear hz
    refine s_bipush (v := (-5)) dX7_looked_59 rfl ?_
    exact s_iret dX7_looked_61 rfl ⟨rfl, rfl⟩ (by first | exact wXlen | rfl)
  | succ n ih =>
    intro r hi
    have hm : r < s := by omega
    refine s_iload_n dX7_looked_2 rfl ?_
    refine s_aload_n dX7_looked_3 rfl ?_
    refine s_get dX7_looked_4 f_X7_14 (by rfl) (by rfl) ?_
    refine s_get dX7_looked_7 f_X7_232 (by rfl) (by rfl) ?_
    refine s_get dX7_looked_10 f_X7_206 (by rfl) (by rfl) ?_
    refine s_icmp_ge (tgt := 59) dX7_looked_13 (by decide) (fun hqz => absurd hqz (nI_ge hm (by omega))) (fun hz => ?_)
    clear hz
    refine s_aload_n dX7_looked_16 rfl ?_
    refine s_get dX7_looked_17 f_X7_14 (by rfl) (by rfl) ?_
    refine s_get dX7_looked_20 f_X7_53 (by rfl) (by rfl) ?_
    refine s_aload_n dX7_looked_23 rfl ?_
    refine s_get dX7_looked_24 f_X7_14 (by rfl) (by rfl) ?_
    refine s_get dX7_looked_27 f_X7_232 (by rfl) (by rfl) ?_
    refine s_iload_n dX7_looked_30 rfl ?_
    refine s_cv1 dX7_looked_31 g_X7_207 (c_X3_whatAt (by rfl) (by rfl) (show r < 8 by omega)) (by rfl) rfl rfl rfl rfl (Nat.le_of_ble_eq_true rfl) (Nat.le_of_ble_eq_true rfl) rfl ?_
    refine s_cs1 dX7_looked_34 g_X7_57 (c_X7_bitOf) rfl rfl (Nat.le_of_ble_eq_true rfl) (Nat.le_of_ble_eq_true rfl) rfl ?_
    refine s_aload_n dX7_looked_37 rfl ?_
    refine s_get dX7_looked_38 f_X7_14 (by rfl) (by rfl) ?_
    refine s_get dX7_looked_41 f_X7_232 (by rfl) (by rfl) ?_
    refine s_iload_n dX7_looked_44 rfl ?_
    refine s_cv1 dX7_looked_45 g_X7_213 (c_X3_numberAt (by rfl) (by rfl) (show r < 8 by omega)) (by rfl) rfl rfl rfl rfl (Nat.le_of_ble_eq_true rfl) (Nat.le_of_ble_eq_true rfl) rfl ?_
    refine s_icmp_eq (tgt := 53) dX7_looked_48 (by decide) (fun h_48 => ?_) (fun h_48 => ?_)
    · refine s_iinc (nI (r + 1)) dX7_looked_53 rfl (nI_1 _) (Nat.le_of_ble_eq_true rfl) rfl ?_
      refine s_goto (tgt := 2) dX7_looked_56 (by decide) ?_
      rw [show kLK b f g (n + 1) r = kLK b f g n (r + 1) from by rw [kLK, if_pos (show zBT b (f r) = g r from h_48)]]
      exact ih (r + 1) (by omega)
    · refine s_iload_n dX7_looked_51 rfl ?_
      exact s_iret dX7_looked_52 rfl ⟨by rw [kLK, if_neg (show ¬ zBT b (f r) = g r from h_48)], rfl⟩ (by first | exact wXlen | rfl)
set_option maxHeartbeats 4000000 in
set_option maxRecDepth 100000 in
theorem x_looked {Z : zS} {d : Nat} {b k : Nat} {rs re : zRw} {th : zHd} {hi : Int32} {tx : zTx} {sh : zSh} {tp : zTs} {R : zW} {f g : Nat → Int32} {s : Nat} (hs : s ≤ 8) : zF Z M_X7_looked (d + 1) [.ref 0] (wX (nI b, nI k, rs, re, (f, g, nI s)) th hi tx sh tp ++ R) [.int (kLK b f g s 0)] (wX (nI b, nI k, rs, re, (f, g, nI s)) th hi tx sh tp ++ R) := by
  unfold zF
  rw [wXlen]
  show zG Z M_X7_looked (d + 1) _ (R.length + 41) 0 [(0, .ref 0)] [] (wX (nI b, nI k, rs, re, (f, g, nI s)) th hi tx sh tp ++ R)
  refine s_iconst (v := 0) dX7_looked_0 rfl ?_
  refine s_istore_n dX7_looked_1 (Nat.le_of_ble_eq_true rfl) rfl ?_
  exact l_looked hs s 0 (by omega)
def kEV (x y : Int32) (b : Nat) : Nat := if x = 0 then b ^^^ 2 ^ y.toNatClampNeg else if x = 1 then pIMG y.toNatClampNeg b else b ^^^ 255
def EVok (f g : Nat → Int32) (s : Nat) : Prop := ∀ r, r < s → (f r = 0 ∧ ∃ u, u < 8 ∧ g r = nI u) ∨ (f r = 1 ∧ ∃ u, u < 48 ∧ g r = nI u) ∨ (f r = 2)
def kBA (f g : Nat → Int32) : Nat → Nat → Nat → Nat
  | 0, _, b => b
  | n + 1, r, b => kBA f g n (r + 1) (kEV (f r) (g r) b)
theorem kEV_lt {f g : Nat → Int32} {s r b : Nat} (hE : EVok f g s) (hr : r < s) (hb : b < 256) : kEV (f r) (g r) b < 256 := by
  rcases hE r hr with ⟨h1, u, hu, h2⟩ | ⟨h1, u, hu, h2⟩ | h1
  · rw [kEV, if_pos h1, h2, nI_clamp (by omega)]; exact zxor8 hb (zp8 u hu)
  · rw [kEV, h1, if_neg (by decide), if_pos rfl, h2, nI_clamp (by omega)]; exact pIMG_lt hu b
  · rw [kEV, h1, if_neg (by decide), if_neg (by decide)]; exact zxor8 hb (by decide)
theorem kBA_lt {f g : Nat → Int32} {s : Nat} (hE : EVok f g s) : ∀ (n r b : Nat), r + n = s → b < 256 → kBA f g n r b < 256
  | 0, _, _, _, hb => hb
  | n + 1, r, b, hr, hb => kBA_lt hE n (r + 1) _ (by omega) (kEV_lt hE (by omega) hb)
set_option maxHeartbeats 4000000 in
set_option maxRecDepth 100000 in
theorem l_after {Z : zS} {d : Nat} {b k : Nat} {rs rb : zRw} {th : zHd} {hi : Int32} {tx : zTx} {sh : zSh} {tp : zTs} {R : zW} {f g : Nat → Int32} {s : Nat} (hs : s ≤ 8) (hE : EVok f g s) : ∀ (n r c : Nat), r + n = s → c < 256 → zG Z M_X7_bodyAfterEvents (d + 2) (fun r1 w1 => r1 = [.int (nI (kBA f g n r c))] ∧ w1 = (wX (nI b, nI k, rs, (f, g, nI s), rb) th hi tx sh tp ++ R)) (R.length + 41) 10 [(0, .ref 0), (1, .int (nI c)), (2, .int (nI r))] [] (wX (nI b, nI k, rs, (f, g, nI s), rb) th hi tx sh tp ++ R) := by
  intro n
  induction n with
  | zero =>
    intro r c hi hc
    have hi : r = s := by omega
    subst hi
    refine s_iload_n dX7_bodyAfterEvents_10 rfl ?_
    refine s_aload_n dX7_bodyAfterEvents_11 rfl ?_
    refine s_get dX7_bodyAfterEvents_12 f_X7_14 (by rfl) (by rfl) ?_
    refine s_get dX7_bodyAfterEvents_15 f_X7_226 (by rfl) (by rfl) ?_
    refine s_get dX7_bodyAfterEvents_18 f_X7_206 (by rfl) (by rfl) ?_
    refine s_icmp_ge (tgt := 102) dX7_bodyAfterEvents_21 (by decide) (fun hz => ?_) (fun hqz => absurd (nI_le (Nat.le_refl _) (by omega)) hqz)
    clear hz
    refine s_iload_n dX7_bodyAfterEvents_102 rfl ?_
    exact s_iret dX7_bodyAfterEvents_103 rfl ⟨rfl, rfl⟩ (by first | exact wXlen | rfl)
  | succ n ih =>
    intro r c hi hc
    have hm : r < s := by omega
    have hq := ih (r + 1) _ (by omega) (kEV_lt (b := c) hE hm hc)
    rcases hE r hm with ⟨h1, u, hu, h2⟩ | ⟨h1, u, hu, h2⟩ | h1
    · refine s_iload_n dX7_bodyAfterEvents_10 rfl ?_
      refine s_aload_n dX7_bodyAfterEvents_11 rfl ?_
      refine s_get dX7_bodyAfterEvents_12 f_X7_14 (by rfl) (by rfl) ?_
      refine s_get dX7_bodyAfterEvents_15 f_X7_226 (by rfl) (by rfl) ?_
      refine s_get dX7_bodyAfterEvents_18 f_X7_206 (by rfl) (by rfl) ?_
      refine s_icmp_ge (tgt := 102) dX7_bodyAfterEvents_21 (by decide) (fun hqz => absurd hqz (nI_ge hm (by omega))) (fun hz => ?_)
      clear hz
      refine s_aload_n dX7_bodyAfterEvents_24 rfl ?_
      refine s_get dX7_bodyAfterEvents_25 f_X7_14 (by rfl) (by rfl) ?_
      refine s_get dX7_bodyAfterEvents_28 f_X7_226 (by rfl) (by rfl) ?_
      refine s_iload_n dX7_bodyAfterEvents_31 rfl ?_
      refine s_cv1 dX7_bodyAfterEvents_32 g_X7_213 (c_X3_numberAt (by rfl) (by rfl) (show r < 8 by omega)) (by rfl) rfl rfl rfl rfl (Nat.le_of_ble_eq_true rfl) (Nat.le_of_ble_eq_true rfl) rfl ?_
      refine s_istore_n dX7_bodyAfterEvents_35 (Nat.le_of_ble_eq_true rfl) rfl ?_
      dsimp only
      rw [h2]
      refine s_aload_n dX7_bodyAfterEvents_36 rfl ?_
      refine s_get dX7_bodyAfterEvents_37 f_X7_14 (by rfl) (by rfl) ?_
      refine s_get dX7_bodyAfterEvents_40 f_X7_226 (by rfl) (by rfl) ?_
      refine s_iload_n dX7_bodyAfterEvents_43 rfl ?_
      refine s_cv1 dX7_bodyAfterEvents_44 g_X7_207 (c_X3_whatAt (by rfl) (by rfl) (show r < 8 by omega)) (by rfl) rfl rfl rfl rfl (Nat.le_of_ble_eq_true rfl) (Nat.le_of_ble_eq_true rfl) rfl ?_
      dsimp only
      rw [h1]
      refine s_lookup (off := 25) (tgt := 72) dX7_bodyAfterEvents_47 (by decide) (by decide) (by decide) ?_
      refine s_iload_n dX7_bodyAfterEvents_72 rfl ?_
      refine s_iconst (v := 1) dX7_bodyAfterEvents_73 rfl ?_
      refine s_iload_n dX7_bodyAfterEvents_74 rfl ?_
      refine s_ishl dX7_bodyAfterEvents_75 ?_
      refine s_ixor dX7_bodyAfterEvents_76 ?_
      refine s_istore_n dX7_bodyAfterEvents_77 (Nat.le_of_ble_eq_true rfl) rfl ?_
      refine s_goto (tgt := 96) dX7_bodyAfterEvents_78 (by decide) ?_
      refine s_iinc (nI (r + 1)) dX7_bodyAfterEvents_96 rfl (nI_1 _) (Nat.le_of_ble_eq_true rfl) rfl ?_
      refine s_goto (tgt := 10) dX7_bodyAfterEvents_99 (by decide) ?_
      rw [zsh8 u (by omega), fb_xorI]
      rw [kEV, if_pos h1, h2, nI_clamp (show u < 2 ^ 31 by omega)] at hq
      rw [kBA, kEV, if_pos h1, h2, nI_clamp (show u < 2 ^ 31 by omega)]
      refine s_take 3 ?_
      exact hq
    · refine s_iload_n dX7_bodyAfterEvents_10 rfl ?_
      refine s_aload_n dX7_bodyAfterEvents_11 rfl ?_
      refine s_get dX7_bodyAfterEvents_12 f_X7_14 (by rfl) (by rfl) ?_
      refine s_get dX7_bodyAfterEvents_15 f_X7_226 (by rfl) (by rfl) ?_
      refine s_get dX7_bodyAfterEvents_18 f_X7_206 (by rfl) (by rfl) ?_
      refine s_icmp_ge (tgt := 102) dX7_bodyAfterEvents_21 (by decide) (fun hqz => absurd hqz (nI_ge hm (by omega))) (fun hz => ?_)
      clear hz
      refine s_aload_n dX7_bodyAfterEvents_24 rfl ?_
      refine s_get dX7_bodyAfterEvents_25 f_X7_14 (by rfl) (by rfl) ?_
      refine s_get dX7_bodyAfterEvents_28 f_X7_226 (by rfl) (by rfl) ?_
      refine s_iload_n dX7_bodyAfterEvents_31 rfl ?_
      refine s_cv1 dX7_bodyAfterEvents_32 g_X7_213 (c_X3_numberAt (by rfl) (by rfl) (show r < 8 by omega)) (by rfl) rfl rfl rfl rfl (Nat.le_of_ble_eq_true rfl) (Nat.le_of_ble_eq_true rfl) rfl ?_
      refine s_istore_n dX7_bodyAfterEvents_35 (Nat.le_of_ble_eq_true rfl) rfl ?_
      dsimp only
      rw [h2]
      refine s_aload_n dX7_bodyAfterEvents_36 rfl ?_
      refine s_get dX7_bodyAfterEvents_37 f_X7_14 (by rfl) (by rfl) ?_
      refine s_get dX7_bodyAfterEvents_40 f_X7_226 (by rfl) (by rfl) ?_
      refine s_iload_n dX7_bodyAfterEvents_43 rfl ?_
      refine s_cv1 dX7_bodyAfterEvents_44 g_X7_207 (c_X3_whatAt (by rfl) (by rfl) (show r < 8 by omega)) (by rfl) rfl rfl rfl rfl (Nat.le_of_ble_eq_true rfl) (Nat.le_of_ble_eq_true rfl) rfl ?_
      dsimp only
      rw [h1]
      refine s_lookup (off := 34) (tgt := 81) dX7_bodyAfterEvents_47 (by decide) (by decide) (by decide) ?_
      refine s_iload_n dX7_bodyAfterEvents_81 rfl ?_
      refine s_iload_n dX7_bodyAfterEvents_82 rfl ?_
      refine s_cs1 dX7_bodyAfterEvents_83 g_X7_64 (c_X1_imageBy hu hc) rfl rfl (Nat.le_of_ble_eq_true rfl) (Nat.le_of_ble_eq_true rfl) rfl ?_
      refine s_istore_n dX7_bodyAfterEvents_86 (Nat.le_of_ble_eq_true rfl) rfl ?_
      refine s_goto (tgt := 96) dX7_bodyAfterEvents_87 (by decide) ?_
      refine s_iinc (nI (r + 1)) dX7_bodyAfterEvents_96 rfl (nI_1 _) (Nat.le_of_ble_eq_true rfl) rfl ?_
      refine s_goto (tgt := 10) dX7_bodyAfterEvents_99 (by decide) ?_
      rw [kEV, h1, if_neg (by decide), if_pos rfl, h2, nI_clamp (show u < 2 ^ 31 by omega)] at hq
      rw [kBA, kEV, h1, if_neg (by decide), if_pos rfl, h2, nI_clamp (show u < 2 ^ 31 by omega)]
      refine s_take 3 ?_
      exact hq
    · refine s_iload_n dX7_bodyAfterEvents_10 rfl ?_
      refine s_aload_n dX7_bodyAfterEvents_11 rfl ?_
      refine s_get dX7_bodyAfterEvents_12 f_X7_14 (by rfl) (by rfl) ?_
      refine s_get dX7_bodyAfterEvents_15 f_X7_226 (by rfl) (by rfl) ?_
      refine s_get dX7_bodyAfterEvents_18 f_X7_206 (by rfl) (by rfl) ?_
      refine s_icmp_ge (tgt := 102) dX7_bodyAfterEvents_21 (by decide) (fun hqz => absurd hqz (nI_ge hm (by omega))) (fun hz => ?_)
      clear hz
      refine s_aload_n dX7_bodyAfterEvents_24 rfl ?_
      refine s_get dX7_bodyAfterEvents_25 f_X7_14 (by rfl) (by rfl) ?_
      refine s_get dX7_bodyAfterEvents_28 f_X7_226 (by rfl) (by rfl) ?_
      refine s_iload_n dX7_bodyAfterEvents_31 rfl ?_
      refine s_cv1 dX7_bodyAfterEvents_32 g_X7_213 (c_X3_numberAt (by rfl) (by rfl) (show r < 8 by omega)) (by rfl) rfl rfl rfl rfl (Nat.le_of_ble_eq_true rfl) (Nat.le_of_ble_eq_true rfl) rfl ?_
      refine s_istore_n dX7_bodyAfterEvents_35 (Nat.le_of_ble_eq_true rfl) rfl ?_
      refine s_aload_n dX7_bodyAfterEvents_36 rfl ?_
      refine s_get dX7_bodyAfterEvents_37 f_X7_14 (by rfl) (by rfl) ?_
      refine s_get dX7_bodyAfterEvents_40 f_X7_226 (by rfl) (by rfl) ?_
      refine s_iload_n dX7_bodyAfterEvents_43 rfl ?_
      refine s_cv1 dX7_bodyAfterEvents_44 g_X7_207 (c_X3_whatAt (by rfl) (by rfl) (show r < 8 by omega)) (by rfl) rfl rfl rfl rfl (Nat.le_of_ble_eq_true rfl) (Nat.le_of_ble_eq_true rfl) rfl ?_
      dsimp only
      rw [h1]
      refine s_lookup (off := 43) (tgt := 90) dX7_bodyAfterEvents_47 (by decide) (by decide) (by decide) ?_
      refine s_iload_n dX7_bodyAfterEvents_90 rfl ?_
      refine s_sipush (v := 255) dX7_bodyAfterEvents_91 rfl ?_
      refine s_ixor dX7_bodyAfterEvents_94 ?_
      refine s_istore_n dX7_bodyAfterEvents_95 (Nat.le_of_ble_eq_true rfl) rfl ?_
      refine s_iinc (nI (r + 1)) dX7_bodyAfterEvents_96 rfl (nI_1 _) (Nat.le_of_ble_eq_true rfl) rfl ?_
      refine s_goto (tgt := 10) dX7_bodyAfterEvents_99 (by decide) ?_
      rw [show (255 : Int32) = nI 255 from rfl, fb_xorI]
      rw [kEV, h1, if_neg (by decide), if_neg (by decide)] at hq
      rw [kBA, kEV, h1, if_neg (by decide), if_neg (by decide)]
      refine s_take 3 ?_
      exact hq
set_option maxHeartbeats 4000000 in
set_option maxRecDepth 100000 in
theorem c_bae {Z : zS} {d : Nat} {b k : Nat} {rs rb : zRw} {th : zHd} {hi : Int32} {tx : zTx} {sh : zSh} {tp : zTs} {R : zW} {f g : Nat → Int32} {s : Nat} (hs : s ≤ 8) (hE : EVok f g s) (hb : b < 256) : zF Z M_X7_bodyAfterEvents (d + 2) [.ref 0] (wX (nI b, nI k, rs, (f, g, nI s), rb) th hi tx sh tp ++ R) [.int (nI (kBA f g s 0 b))] (wX (nI b, nI k, rs, (f, g, nI s), rb) th hi tx sh tp ++ R) := by
  unfold zF
  rw [wXlen]
  show zG Z M_X7_bodyAfterEvents (d + 2) _ (R.length + 41) 0 [(0, .ref 0)] [] (wX (nI b, nI k, rs, (f, g, nI s), rb) th hi tx sh tp ++ R)
  refine s_aload_n dX7_bodyAfterEvents_0 rfl ?_
  refine s_get dX7_bodyAfterEvents_1 f_X7_14 (by rfl) (by rfl) ?_
  refine s_get dX7_bodyAfterEvents_4 f_X7_53 (by rfl) (by rfl) ?_
  refine s_istore_n dX7_bodyAfterEvents_7 (Nat.le_of_ble_eq_true rfl) rfl ?_
  refine s_iconst (v := 0) dX7_bodyAfterEvents_8 rfl ?_
  refine s_istore_n dX7_bodyAfterEvents_9 (Nat.le_of_ble_eq_true rfl) rfl ?_
  exact l_after hs hE s 0 b (by omega) hb
set_option maxHeartbeats 4000000 in
set_option maxRecDepth 100000 in
theorem x_after0 {Z : zS} {d : Nat} {b k : Nat} {rs rb : zRw} {th : zHd} {hi : Int32} {tx : zTx} {sh : zSh} {tp : zTs} {R : zW} {f g : Nat → Int32} {s : Nat} (hs : s ≤ 8) (hE : EVok f g s) (hb : b < 256) : zF Z M_X7_after (d + 3) [.ref 0, .int (nI 0)] (wX (nI b, nI k, rs, (f, g, nI s), rb) th hi tx sh tp ++ R) [.int (nI (kBA f g s 0 b))] (wX (nI b, nI k, rs, (f, g, nI s), rb) th hi tx sh tp ++ R) := by
  unfold zF
  rw [wXlen]
  show zG Z M_X7_after (d + 3) _ (R.length + 41) 0 [(0, .ref 0), (1, .int (nI 0))] [] (wX (nI b, nI k, rs, (f, g, nI s), rb) th hi tx sh tp ++ R)
  refine s_iload_n dX7_after_0 rfl ?_
  refine s_tableIn (off := 27) (tgt := 28) dX7_after_1 (by decide) (by decide) (by rfl) (by decide) ?_
  refine s_aload_n dX7_after_28 rfl ?_
  refine s_cv1 dX7_after_29 g_X7_229 (c_bae hs hE hb) (by rfl) rfl rfl rfl rfl (Nat.le_of_ble_eq_true rfl) (Nat.le_of_ble_eq_true rfl) rfl ?_
  exact s_iret dX7_after_32 rfl ⟨rfl, rfl⟩ (by first | exact wXlen | rfl)
set_option maxHeartbeats 4000000 in
set_option maxRecDepth 100000 in
theorem x_after2 {Z : zS} {d : Nat} {b k : Nat} {rs rb : zRw} {th : zHd} {hi : Int32} {tx : zTx} {sh : zSh} {tp : zTs} {R : zW} {f g : Nat → Int32} {s : Nat} (hs : s ≤ 8) (hE : EVok f g s) (hb : b < 256) : zF Z M_X7_after (d + 4) [.ref 0, .int (nI 2)] (wX (nI b, nI k, rs, (f, g, nI s), rb) th hi tx sh tp ++ R) [.int (nI (pNUM (kBA f g s 0 b)))] (wX (nI b, nI k, rs, (f, g, nI s), rb) th hi tx sh tp ++ R) := by
  unfold zF
  rw [wXlen]
  show zG Z M_X7_after (d + 4) _ (R.length + 41) 0 [(0, .ref 0), (1, .int (nI 2))] [] (wX (nI b, nI k, rs, (f, g, nI s), rb) th hi tx sh tp ++ R)
  refine s_iload_n dX7_after_0 rfl ?_
  refine s_tableIn (off := 44) (tgt := 45) dX7_after_1 (by decide) (by decide) (by rfl) (by decide) ?_
  refine s_aload_n dX7_after_45 rfl ?_
  refine s_cv1 dX7_after_46 g_X7_229 (c_bae hs hE hb) (by rfl) rfl rfl rfl rfl (Nat.le_of_ble_eq_true rfl) (Nat.le_of_ble_eq_true rfl) rfl ?_
  refine s_cs1 dX7_after_49 g_X7_99 (c_X1_classOf (kBA_lt hE s 0 b (by omega) hb)) rfl rfl (Nat.le_of_ble_eq_true rfl) (Nat.le_of_ble_eq_true rfl) rfl ?_
  exact s_iret dX7_after_52 rfl ⟨rfl, rfl⟩ (by first | exact wXlen | rfl)
set_option maxHeartbeats 4000000 in
set_option maxRecDepth 100000 in
theorem x_after1 {Z : zS} {d : Nat} {b k : Nat} {rs rb : zRw} {th : zHd} {hi : Int32} {tx : zTx} {sh : zSh} {tp : zTs} {R : zW} {f g : Nat → Int32} {s : Nat} (hS : SOK sh) (hs : s ≤ 8) (hE : EVok f g s) (hb : b < 256) : ∃ sh' : zSh, SOK sh' ∧ zF Z M_X7_after (d + 4) [.ref 0, .int (nI 1)] (wX (nI b, nI k, rs, (f, g, nI s), rb) th hi tx sh tp ++ R) [.int (kSIX (kBA f g s 0 b))] (wX (nI b, nI k, rs, (f, g, nI s), rb) th hi tx sh' tp ++ R) := by
  obtain ⟨sh', hS', hz⟩ := c_sixfold (Z := Z) (d := d) (hd := (nI b, nI k, rs, (f, g, nI s), rb)) (th := th) (hi := hi) (tx := tx) (tp := tp) (R := R) hS (kBA_lt hE s 0 b (by omega) hb)
  refine ⟨sh', hS', ?_⟩
  unfold zF
  rw [wXlen]
  show zG Z M_X7_after (d + 4) _ (R.length + 41) 0 [(0, .ref 0), (1, .int (nI 1))] [] (wX (nI b, nI k, rs, (f, g, nI s), rb) th hi tx sh tp ++ R)
  refine s_iload_n dX7_after_0 rfl ?_
  refine s_tableIn (off := 32) (tgt := 33) dX7_after_1 (by decide) (by decide) (by rfl) (by decide) ?_
  refine s_aload_n dX7_after_33 rfl ?_
  refine s_get dX7_after_34 f_X7_35 (by rfl) (by rfl) ?_
  refine s_aload_n dX7_after_37 rfl ?_
  refine s_cv1 dX7_after_38 g_X7_229 (c_bae hs hE hb) (by rfl) rfl rfl rfl rfl (Nat.le_of_ble_eq_true rfl) (Nat.le_of_ble_eq_true rfl) rfl ?_
  refine s_cv1 dX7_after_41 g_X7_120 (hz) (by rfl) rfl rfl rfl rfl (Nat.le_of_ble_eq_true rfl) (Nat.le_of_ble_eq_true rfl) rfl ?_
  exact s_iret dX7_after_44 rfl ⟨rfl, rfl⟩ (by first | exact wXlen | rfl)
set_option maxHeartbeats 4000000 in
set_option maxRecDepth 100000 in
theorem x_after_no {Z : zS} {d : Nat} {b k : Nat} {rs re rb : zRw} {th : zHd} {hi : Int32} {tx : zTx} {sh : zSh} {tp : zTs} {R : zW} {c : Int32} (hc : c < 0 ∨ 3 ≤ c) : zF Z M_X7_after (d) [.ref 0, .int c] (wX (nI b, nI k, rs, re, rb) th hi tx sh tp ++ R) [.int (-1)] (wX (nI b, nI k, rs, re, rb) th hi tx sh tp ++ R) := by
  unfold zF
  rw [wXlen]
  show zG Z M_X7_after (d) _ (R.length + 41) 0 [(0, .ref 0), (1, .int c)] [] (wX (nI b, nI k, rs, re, rb) th hi tx sh tp ++ R)
  refine s_iload_n dX7_after_0 rfl ?_
  refine s_tableOut (tgt := 53) dX7_after_1 (zsw (n := 2) (by decide) hc) (by decide) ?_
  refine s_iconst (v := (-1)) dX7_after_53 rfl ?_
  exact s_iret dX7_after_54 rfl ⟨rfl, rfl⟩ (by first | exact wXlen | rfl)
set_option maxHeartbeats 4000000 in
set_option maxRecDepth 100000 in
theorem c_hc_img {Z : zS} {d : Nat} {hd th : zHd} {hi : Int32} {tx : zTx} {sh : zSh} {tp : zTs} {R : zW} : zF Z M_X2_copyFrom (d + 2) [.ref 11, .ref 1] (wX hd th hi tx sh tp ++ R) [] (wX hd (hd.1, hd.2.1, cpR hd.2.2.1 th.2.2.1, cpR hd.2.2.2.1 th.2.2.2.1, cpR hd.2.2.2.2 th.2.2.2.2) hi tx sh tp ++ R) := by
  unfold zF
  rw [wXlen]
  show zG Z M_X2_copyFrom (d + 2) _ (R.length + 41) 0 [(0, .ref 11), (1, .ref 1)] [] (wX hd th hi tx sh tp ++ R)
  refine s_aload_n dX2_copyFrom_0 rfl ?_
  refine s_aload_n dX2_copyFrom_1 rfl ?_
  refine s_get dX2_copyFrom_2 f_X2_9 (by rfl) (by rfl) ?_
  refine s_put dX2_copyFrom_5 f_X2_9 (by rfl) (fun _ => ⟨rfl, rfl⟩) (Nat.le_of_ble_eq_true rfl) ?_
  refine s_aload_n dX2_copyFrom_8 rfl ?_
  refine s_aload_n dX2_copyFrom_9 rfl ?_
  refine s_get dX2_copyFrom_10 f_X2_15 (by rfl) (by rfl) ?_
  refine s_put dX2_copyFrom_13 f_X2_15 (by rfl) (fun _ => ⟨rfl, rfl⟩) (Nat.le_of_ble_eq_true rfl) ?_
  refine s_aload_n dX2_copyFrom_16 rfl ?_
  refine s_get dX2_copyFrom_17 f_X2_21 (by rfl) (by rfl) ?_
  refine s_aload_n dX2_copyFrom_20 rfl ?_
  refine s_get dX2_copyFrom_21 f_X2_21 (by rfl) (by rfl) ?_
  refine s_cv0 dX2_copyFrom_24 g_X2_37 (c_X3_copyFrom (k := 12) (a := 13) (b := 14) (k2 := 2) (a2 := 3) (b2 := 4) (by rfl) (by rfl) (by rfl) (by rfl) (by rfl) (by rfl) (by decide) (by decide) (by decide) (by decide) (by decide) (by decide) (by decide)) (by rfl) rfl rfl rfl rfl (Nat.le_of_ble_eq_true rfl) (Nat.le_of_ble_eq_true rfl) rfl ?_
  refine s_aload_n dX2_copyFrom_27 rfl ?_
  refine s_get dX2_copyFrom_28 f_X2_25 (by rfl) (by rfl) ?_
  refine s_aload_n dX2_copyFrom_31 rfl ?_
  refine s_get dX2_copyFrom_32 f_X2_25 (by rfl) (by rfl) ?_
  refine s_cv0 dX2_copyFrom_35 g_X2_37 (c_X3_copyFrom (k := 15) (a := 16) (b := 17) (k2 := 5) (a2 := 6) (b2 := 7) (by rfl) (by rfl) (by rfl) (by rfl) (by rfl) (by rfl) (by decide) (by decide) (by decide) (by decide) (by decide) (by decide) (by decide)) (by rfl) rfl rfl rfl rfl (Nat.le_of_ble_eq_true rfl) (Nat.le_of_ble_eq_true rfl) rfl ?_
  refine s_aload_n dX2_copyFrom_38 rfl ?_
  refine s_get dX2_copyFrom_39 f_X2_28 (by rfl) (by rfl) ?_
  refine s_aload_n dX2_copyFrom_42 rfl ?_
  refine s_get dX2_copyFrom_43 f_X2_28 (by rfl) (by rfl) ?_
  refine s_cv0 dX2_copyFrom_46 g_X2_37 (c_X3_copyFrom (k := 18) (a := 19) (b := 20) (k2 := 8) (a2 := 9) (b2 := 10) (by rfl) (by rfl) (by rfl) (by rfl) (by rfl) (by rfl) (by decide) (by decide) (by decide) (by decide) (by decide) (by decide) (by decide)) (by rfl) rfl rfl rfl rfl (Nat.le_of_ble_eq_true rfl) (Nat.le_of_ble_eq_true rfl) rfl ?_
  exact s_vret dX2_copyFrom_49 rfl ⟨rfl, rfl⟩ (by first | exact wXlen | rfl)
set_option maxHeartbeats 4000000 in
set_option maxRecDepth 100000 in
theorem c_hc_und {Z : zS} {d : Nat} {hd th : zHd} {hi : Int32} {tx : zTx} {sh : zSh} {tp : zTs} {R : zW} : zF Z M_X2_copyFrom (d + 2) [.ref 1, .ref 11] (wX hd th hi tx sh tp ++ R) [] (wX (th.1, th.2.1, cpR th.2.2.1 hd.2.2.1, cpR th.2.2.2.1 hd.2.2.2.1, cpR th.2.2.2.2 hd.2.2.2.2) th hi tx sh tp ++ R) := by
  unfold zF
  rw [wXlen]
  show zG Z M_X2_copyFrom (d + 2) _ (R.length + 41) 0 [(0, .ref 1), (1, .ref 11)] [] (wX hd th hi tx sh tp ++ R)
  refine s_aload_n dX2_copyFrom_0 rfl ?_
  refine s_aload_n dX2_copyFrom_1 rfl ?_
  refine s_get dX2_copyFrom_2 f_X2_9 (by rfl) (by rfl) ?_
  refine s_put dX2_copyFrom_5 f_X2_9 (by rfl) (fun _ => ⟨rfl, rfl⟩) (Nat.le_of_ble_eq_true rfl) ?_
  refine s_aload_n dX2_copyFrom_8 rfl ?_
  refine s_aload_n dX2_copyFrom_9 rfl ?_
  refine s_get dX2_copyFrom_10 f_X2_15 (by rfl) (by rfl) ?_
  refine s_put dX2_copyFrom_13 f_X2_15 (by rfl) (fun _ => ⟨rfl, rfl⟩) (Nat.le_of_ble_eq_true rfl) ?_
  refine s_aload_n dX2_copyFrom_16 rfl ?_
  refine s_get dX2_copyFrom_17 f_X2_21 (by rfl) (by rfl) ?_
  refine s_aload_n dX2_copyFrom_20 rfl ?_
  refine s_get dX2_copyFrom_21 f_X2_21 (by rfl) (by rfl) ?_
  refine s_cv0 dX2_copyFrom_24 g_X2_37 (c_X3_copyFrom (k := 2) (a := 3) (b := 4) (k2 := 12) (a2 := 13) (b2 := 14) (by rfl) (by rfl) (by rfl) (by rfl) (by rfl) (by rfl) (by decide) (by decide) (by decide) (by decide) (by decide) (by decide) (by decide)) (by rfl) rfl rfl rfl rfl (Nat.le_of_ble_eq_true rfl) (Nat.le_of_ble_eq_true rfl) rfl ?_
  refine s_aload_n dX2_copyFrom_27 rfl ?_
  refine s_get dX2_copyFrom_28 f_X2_25 (by rfl) (by rfl) ?_
  refine s_aload_n dX2_copyFrom_31 rfl ?_
  refine s_get dX2_copyFrom_32 f_X2_25 (by rfl) (by rfl) ?_
  refine s_cv0 dX2_copyFrom_35 g_X2_37 (c_X3_copyFrom (k := 5) (a := 6) (b := 7) (k2 := 15) (a2 := 16) (b2 := 17) (by rfl) (by rfl) (by rfl) (by rfl) (by rfl) (by rfl) (by decide) (by decide) (by decide) (by decide) (by decide) (by decide) (by decide)) (by rfl) rfl rfl rfl rfl (Nat.le_of_ble_eq_true rfl) (Nat.le_of_ble_eq_true rfl) rfl ?_
  refine s_aload_n dX2_copyFrom_38 rfl ?_
  refine s_get dX2_copyFrom_39 f_X2_28 (by rfl) (by rfl) ?_
  refine s_aload_n dX2_copyFrom_42 rfl ?_
  refine s_get dX2_copyFrom_43 f_X2_28 (by rfl) (by rfl) ?_
  refine s_cv0 dX2_copyFrom_46 g_X2_37 (c_X3_copyFrom (k := 8) (a := 9) (b := 10) (k2 := 18) (a2 := 19) (b2 := 20) (by rfl) (by rfl) (by rfl) (by rfl) (by rfl) (by rfl) (by decide) (by decide) (by decide) (by decide) (by decide) (by decide) (by decide)) (by rfl) rfl rfl rfl rfl (Nat.le_of_ble_eq_true rfl) (Nat.le_of_ble_eq_true rfl) rfl ?_
  exact s_vret dX2_copyFrom_49 rfl ⟨rfl, rfl⟩ (by first | exact wXlen | rfl)
set_option maxHeartbeats 4000000 in
set_option maxRecDepth 100000 in
theorem x_image {Z : zS} {d : Nat} {hd th : zHd} {hi : Int32} {tx : zTx} {sh : zSh} {tp : zTs} {R : zW}  : zF Z M_X7_image (d + 3) [.ref 0] (wX hd th hi tx sh tp ++ R) [.int hd.1] (wX hd (hd.1, hd.2.1, cpR hd.2.2.1 th.2.2.1, cpR hd.2.2.2.1 th.2.2.2.1, cpR hd.2.2.2.2 th.2.2.2.2) 1 tx sh tp ++ R) := by
  unfold zF
  rw [wXlen]
  show zG Z M_X7_image (d + 3) _ (R.length + 41) 0 [(0, .ref 0)] [] (wX hd th hi tx sh tp ++ R)
  refine s_aload_n dX7_image_0 rfl ?_
  refine s_get dX7_image_1 f_X7_18 (by rfl) (by rfl) ?_
  refine s_aload_n dX7_image_4 rfl ?_
  refine s_get dX7_image_5 f_X7_14 (by rfl) (by rfl) ?_
  refine s_cv0 dX7_image_8 g_X7_252 (c_hc_img) (by rfl) rfl rfl rfl rfl (Nat.le_of_ble_eq_true rfl) (Nat.le_of_ble_eq_true rfl) rfl ?_
  refine s_aload_n dX7_image_11 rfl ?_
  refine s_iconst (v := 1) dX7_image_12 rfl ?_
  refine s_put dX7_image_13 f_X7_21 (by rfl) (fun _ => ⟨rfl, rfl⟩) (Nat.le_of_ble_eq_true rfl) ?_
  refine s_aload_n dX7_image_16 rfl ?_
  refine s_get dX7_image_17 f_X7_14 (by rfl) (by rfl) ?_
  refine s_get dX7_image_20 f_X7_53 (by rfl) (by rfl) ?_
  exact s_iret dX7_image_23 rfl ⟨rfl, rfl⟩ (by first | exact wXlen | rfl)
set_option maxHeartbeats 4000000 in
set_option maxRecDepth 100000 in
theorem x_undo1 {Z : zS} {d : Nat} {hd th : zHd} {hi : Int32} {tx : zTx} {sh : zSh} {tp : zTs} {R : zW} (h0 : hi = 0) : zF Z M_X7_undo (d + 3) [.ref 0] (wX hd th hi tx sh tp ++ R) [.int (-3)] (wX hd th hi tx sh tp ++ R) := by
  unfold zF
  rw [wXlen]
  show zG Z M_X7_undo (d + 3) _ (R.length + 41) 0 [(0, .ref 0)] [] (wX hd th hi tx sh tp ++ R)
  refine s_aload_n dX7_undo_0 rfl ?_
  refine s_get dX7_undo_1 f_X7_21 (by rfl) (by rfl) ?_
  refine s_if_ne (tgt := 10) dX7_undo_4 (by decide) (fun hqz => absurd h0 hqz) (fun hz => ?_)
  clear hz
  refine s_bipush (v := (-3)) dX7_undo_7 rfl ?_
  exact s_iret dX7_undo_9 rfl ⟨rfl, rfl⟩ (by first | exact wXlen | rfl)
set_option maxHeartbeats 4000000 in
set_option maxRecDepth 100000 in
theorem x_undo {Z : zS} {d : Nat} {hd th : zHd} {hi : Int32} {tx : zTx} {sh : zSh} {tp : zTs} {R : zW} (h0 : ¬ hi = 0) : zF Z M_X7_undo (d + 3) [.ref 0] (wX hd th hi tx sh tp ++ R) [.int th.1] (wX (th.1, th.2.1, cpR th.2.2.1 hd.2.2.1, cpR th.2.2.2.1 hd.2.2.2.1, cpR th.2.2.2.2 hd.2.2.2.2) th hi tx sh tp ++ R) := by
  unfold zF
  rw [wXlen]
  show zG Z M_X7_undo (d + 3) _ (R.length + 41) 0 [(0, .ref 0)] [] (wX hd th hi tx sh tp ++ R)
  refine s_aload_n dX7_undo_0 rfl ?_
  refine s_get dX7_undo_1 f_X7_21 (by rfl) (by rfl) ?_
  refine s_if_ne (tgt := 10) dX7_undo_4 (by decide) (fun hz => ?_) (fun hqz => absurd hqz h0)
  clear hz
  refine s_aload_n dX7_undo_10 rfl ?_
  refine s_get dX7_undo_11 f_X7_14 (by rfl) (by rfl) ?_
  refine s_aload_n dX7_undo_14 rfl ?_
  refine s_get dX7_undo_15 f_X7_18 (by rfl) (by rfl) ?_
  refine s_cv0 dX7_undo_18 g_X7_252 (c_hc_und) (by rfl) rfl rfl rfl rfl (Nat.le_of_ble_eq_true rfl) (Nat.le_of_ble_eq_true rfl) rfl ?_
  refine s_aload_n dX7_undo_21 rfl ?_
  refine s_get dX7_undo_22 f_X7_14 (by rfl) (by rfl) ?_
  refine s_get dX7_undo_25 f_X7_53 (by rfl) (by rfl) ?_
  exact s_iret dX7_undo_28 rfl ⟨rfl, rfl⟩ (by first | exact wXlen | rfl)
set_option maxHeartbeats 4000000 in
set_option maxRecDepth 100000 in
theorem x_count0 {Z : zS} {d : Nat} {b k : Nat} {rs re rb : zRw} {th : zHd} {hi : Int32} {tx : zTx} {sh : zSh} {tp : zTs} {R : zW}  : zF Z M_X7_count (d) [.ref 0, .int (nI 0)] (wX (nI b, nI k, rs, re, rb) th hi tx sh tp ++ R) [.int rs.2.2] (wX (nI b, nI k, rs, re, rb) th hi tx sh tp ++ R) := by
  unfold zF
  rw [wXlen]
  show zG Z M_X7_count (d) _ (R.length + 41) 0 [(0, .ref 0), (1, .int (nI 0))] [] (wX (nI b, nI k, rs, re, rb) th hi tx sh tp ++ R)
  refine s_iload_n dX7_count_0 rfl ?_
  refine s_tableIn (off := 31) (tgt := 32) dX7_count_1 (by decide) (by decide) (by rfl) (by decide) ?_
  refine s_aload_n dX7_count_32 rfl ?_
  refine s_get dX7_count_33 f_X7_14 (by rfl) (by rfl) ?_
  refine s_get dX7_count_36 f_X7_191 (by rfl) (by rfl) ?_
  refine s_get dX7_count_39 f_X7_206 (by rfl) (by rfl) ?_
  exact s_iret dX7_count_42 rfl ⟨rfl, rfl⟩ (by first | exact wXlen | rfl)
set_option maxHeartbeats 4000000 in
set_option maxRecDepth 100000 in
theorem x_count1 {Z : zS} {d : Nat} {b k : Nat} {rs re rb : zRw} {th : zHd} {hi : Int32} {tx : zTx} {sh : zSh} {tp : zTs} {R : zW}  : zF Z M_X7_count (d) [.ref 0, .int (nI 1)] (wX (nI b, nI k, rs, re, rb) th hi tx sh tp ++ R) [.int re.2.2] (wX (nI b, nI k, rs, re, rb) th hi tx sh tp ++ R) := by
  unfold zF
  rw [wXlen]
  show zG Z M_X7_count (d) _ (R.length + 41) 0 [(0, .ref 0), (1, .int (nI 1))] [] (wX (nI b, nI k, rs, re, rb) th hi tx sh tp ++ R)
  refine s_iload_n dX7_count_0 rfl ?_
  refine s_tableIn (off := 42) (tgt := 43) dX7_count_1 (by decide) (by decide) (by rfl) (by decide) ?_
  refine s_aload_n dX7_count_43 rfl ?_
  refine s_get dX7_count_44 f_X7_14 (by rfl) (by rfl) ?_
  refine s_get dX7_count_47 f_X7_226 (by rfl) (by rfl) ?_
  refine s_get dX7_count_50 f_X7_206 (by rfl) (by rfl) ?_
  exact s_iret dX7_count_53 rfl ⟨rfl, rfl⟩ (by first | exact wXlen | rfl)
set_option maxHeartbeats 4000000 in
set_option maxRecDepth 100000 in
theorem x_count2 {Z : zS} {d : Nat} {b k : Nat} {rs re rb : zRw} {th : zHd} {hi : Int32} {tx : zTx} {sh : zSh} {tp : zTs} {R : zW}  : zF Z M_X7_count (d) [.ref 0, .int (nI 2)] (wX (nI b, nI k, rs, re, rb) th hi tx sh tp ++ R) [.int rb.2.2] (wX (nI b, nI k, rs, re, rb) th hi tx sh tp ++ R) := by
  unfold zF
  rw [wXlen]
  show zG Z M_X7_count (d) _ (R.length + 41) 0 [(0, .ref 0), (1, .int (nI 2))] [] (wX (nI b, nI k, rs, re, rb) th hi tx sh tp ++ R)
  refine s_iload_n dX7_count_0 rfl ?_
  refine s_tableIn (off := 53) (tgt := 54) dX7_count_1 (by decide) (by decide) (by rfl) (by decide) ?_
  refine s_aload_n dX7_count_54 rfl ?_
  refine s_get dX7_count_55 f_X7_14 (by rfl) (by rfl) ?_
  refine s_get dX7_count_58 f_X7_232 (by rfl) (by rfl) ?_
  refine s_get dX7_count_61 f_X7_206 (by rfl) (by rfl) ?_
  exact s_iret dX7_count_64 rfl ⟨rfl, rfl⟩ (by first | exact wXlen | rfl)
set_option maxHeartbeats 4000000 in
set_option maxRecDepth 100000 in
theorem x_count3 {Z : zS} {d : Nat} {b k : Nat} {rs re rb : zRw} {th : zHd} {hi : Int32} {tx : zTx} {sh : zSh} {tp : zTs} {R : zW}  : zF Z M_X7_count (d) [.ref 0, .int (nI 3)] (wX (nI b, nI k, rs, re, rb) th hi tx sh tp ++ R) [.int tx.2] (wX (nI b, nI k, rs, re, rb) th hi tx sh tp ++ R) := by
  unfold zF
  rw [wXlen]
  show zG Z M_X7_count (d) _ (R.length + 41) 0 [(0, .ref 0), (1, .int (nI 3))] [] (wX (nI b, nI k, rs, re, rb) th hi tx sh tp ++ R)
  refine s_iload_n dX7_count_0 rfl ?_
  refine s_tableIn (off := 64) (tgt := 65) dX7_count_1 (by decide) (by decide) (by rfl) (by decide) ?_
  refine s_aload_n dX7_count_65 rfl ?_
  refine s_get dX7_count_66 f_X7_28 (by rfl) (by rfl) ?_
  refine s_get dX7_count_69 f_X7_88 (by rfl) (by rfl) ?_
  exact s_iret dX7_count_72 rfl ⟨rfl, rfl⟩ (by first | exact wXlen | rfl)
set_option maxHeartbeats 4000000 in
set_option maxRecDepth 100000 in
theorem x_count_no {Z : zS} {d : Nat} {b k : Nat} {rs re rb : zRw} {th : zHd} {hi : Int32} {tx : zTx} {sh : zSh} {tp : zTs} {R : zW} {c : Int32} (hc : c < 0 ∨ 4 ≤ c) : zF Z M_X7_count (d) [.ref 0, .int c] (wX (nI b, nI k, rs, re, rb) th hi tx sh tp ++ R) [.int (-2)] (wX (nI b, nI k, rs, re, rb) th hi tx sh tp ++ R) := by
  unfold zF
  rw [wXlen]
  show zG Z M_X7_count (d) _ (R.length + 41) 0 [(0, .ref 0), (1, .int c)] [] (wX (nI b, nI k, rs, re, rb) th hi tx sh tp ++ R)
  refine s_iload_n dX7_count_0 rfl ?_
  refine s_tableOut (tgt := 73) dX7_count_1 (zsw (n := 3) (by decide) hc) (by decide) ?_
  refine s_bipush (v := (-2)) dX7_count_73 rfl ?_
  exact s_iret dX7_count_75 rfl ⟨rfl, rfl⟩ (by first | exact wXlen | rfl)
