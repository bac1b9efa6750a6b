/-! ===== the class: shift, judge ===== -/
def zhv (n i m : Int32) : Int32 := if m < 0 then 0 else if i < 0 then 0 else if n < m then 0 else if n - m < i then 0 else 1
theorem zhvY {z p m : Nat} (hz : z ≤ 60) (h : p + m ≤ z) : ¬ zhv (nI z) (nI p) (nI m) = 0 := by
  unfold zhv
  rw [if_neg (nI_pos (by omega)), if_neg (nI_pos (by omega)), if_neg (nI_nlt (show m ≤ z by omega) (by omega)), pk_sub (show m ≤ z by omega), if_neg (nI_nlt (show p ≤ z - m by omega) (by omega))]
  decide
set_option maxHeartbeats 4000000 in
set_option maxRecDepth 100000 in
theorem x_shift1 {Z : zS} {d : Nat} {hd th : zHd} {hi : Int32} {tx : zTx} {sh : zSh} {tp : zTs} {R : zW} {c p o q m : Int32} (hc : c < 0 ∨ 6 ≤ c) : zF Z M_X7_shift (d + 1) [.ref 0, .int c, .int p, .int o, .int q, .int m] (wX hd th hi tx sh tp ++ R) [.int (-1)] (wX hd th hi tx sh tp ++ R) := by
  unfold zF
  rw [wXlen]
  show zG Z M_X7_shift (d + 1) _ (R.length + 41) 0 [(0, .ref 0), (1, .int c), (2, .int p), (3, .int o), (4, .int q), (5, .int m)] [] (wX hd th hi tx sh tp ++ R)
  refine s_iload_n dX7_shift_0 rfl ?_
  refine s_cs1 dX7_shift_1 g_X7_235 (c_X7_isTape) rfl rfl (Nat.le_of_ble_eq_true rfl) (Nat.le_of_ble_eq_true rfl) rfl ?_
  refine s_if_eq (tgt := 14) dX7_shift_4 (by decide) (fun hz => ?_) (fun hqz => absurd (zrN hc) hqz)
  clear hz
  refine s_iconst (v := (-1)) dX7_shift_14 rfl ?_
  exact s_iret dX7_shift_15 rfl ⟨rfl, rfl⟩ (by first | exact wXlen | rfl)
set_option maxHeartbeats 4000000 in
set_option maxRecDepth 100000 in
theorem x_shift2 {Z : zS} {d : Nat} {hd th : zHd} {hi : Int32} {tx : zTx} {sh : zSh} {tp : zTs} {R : zW} {j : Nat} {p o q m : Int32} (hj : j < 6) (hc : o < 0 ∨ 6 ≤ o) : zF Z M_X7_shift (d + 1) [.ref 0, .int (nI j), .int p, .int o, .int q, .int m] (wX hd th hi tx sh tp ++ R) [.int (-1)] (wX hd th hi tx sh tp ++ R) := by
  unfold zF
  rw [wXlen]
  show zG Z M_X7_shift (d + 1) _ (R.length + 41) 0 [(0, .ref 0), (1, .int (nI j)), (2, .int p), (3, .int o), (4, .int q), (5, .int m)] [] (wX hd th hi tx sh tp ++ R)
  refine s_iload_n dX7_shift_0 rfl ?_
  refine s_cs1 dX7_shift_1 g_X7_235 (c_X7_isTape) rfl rfl (Nat.le_of_ble_eq_true rfl) (Nat.le_of_ble_eq_true rfl) rfl ?_
  refine s_if_eq (tgt := 14) dX7_shift_4 (by decide) (fun hqz => absurd hqz (zrY (n := 6) hj (by decide))) (fun hz => ?_)
  clear hz
  refine s_iload_n dX7_shift_7 rfl ?_
  refine s_cs1 dX7_shift_8 g_X7_235 (c_X7_isTape) rfl rfl (Nat.le_of_ble_eq_true rfl) (Nat.le_of_ble_eq_true rfl) rfl ?_
  refine s_if_ne (tgt := 16) dX7_shift_11 (by decide) (fun hqz => absurd (zrN hc) hqz) (fun hz => ?_)
  clear hz
  refine s_iconst (v := (-1)) dX7_shift_14 rfl ?_
  exact s_iret dX7_shift_15 rfl ⟨rfl, rfl⟩ (by first | exact wXlen | rfl)
set_option maxHeartbeats 4000000 in
set_option maxRecDepth 100000 in
theorem x_shift3 {Z : zS} {d : Nat} {hd th : zHd} {hi : Int32} {tx : zTx} {sh : zSh} {tp : zTs} {R : zW} {j o : Nat} {it1 it2 : Nat → Int64} {sz1 so2 sz2 : Int32} (hj : j < 6) (hto : o < 6) (ht1 : tpg tp j = (it1, -1, sz1)) (ht2 : tpg tp o = (it2, so2, sz2)) {p q m : Int32} : zF Z M_X7_shift (d + 1) [.ref 0, .int (nI j), .int p, .int (nI o), .int q, .int m] (wX hd th hi tx sh tp ++ R) [.int (-11)] (wX hd th hi tx sh tp ++ R) := by
  have ho1 := wXo (hd := hd) (th := th) (hi := hi) (tx := tx) (sh := sh) (tp := tp) (R := R) hj
  have hi1 := wXi (hd := hd) (th := th) (hi := hi) (tx := tx) (sh := sh) (tp := tp) (R := R) hj
  have ho2 := wXo (hd := hd) (th := th) (hi := hi) (tx := tx) (sh := sh) (tp := tp) (R := R) hto
  have hi2 := wXi (hd := hd) (th := th) (hi := hi) (tx := tx) (sh := sh) (tp := tp) (R := R) hto
  rw [ht1] at ho1 hi1
  rw [ht2] at ho2 hi2
  unfold zF
  rw [wXlen]
  show zG Z M_X7_shift (d + 1) _ (R.length + 41) 0 [(0, .ref 0), (1, .int (nI j)), (2, .int p), (3, .int (nI o)), (4, .int q), (5, .int m)] [] (wX hd th hi tx sh tp ++ R)
  refine s_iload_n dX7_shift_0 rfl ?_
  refine s_cs1 dX7_shift_1 g_X7_235 (c_X7_isTape) rfl rfl (Nat.le_of_ble_eq_true rfl) (Nat.le_of_ble_eq_true rfl) rfl ?_
  refine s_if_eq (tgt := 14) dX7_shift_4 (by decide) (fun hqz => absurd hqz (zrY (n := 6) hj (by decide))) (fun hz => ?_)
  clear hz
  refine s_iload_n dX7_shift_7 rfl ?_
  refine s_cs1 dX7_shift_8 g_X7_235 (c_X7_isTape) rfl rfl (Nat.le_of_ble_eq_true rfl) (Nat.le_of_ble_eq_true rfl) rfl ?_
  refine s_if_ne (tgt := 16) dX7_shift_11 (by decide) (fun hz => ?_) (fun hqz => absurd hqz (zrY (n := 6) hto (by decide)))
  clear hz
  refine s_aload_n dX7_shift_16 rfl ?_
  refine s_get dX7_shift_17 f_X7_41 (by first | assumption | rfl) (by rfl) ?_
  refine s_iload_n dX7_shift_20 rfl ?_
  refine s_aald dX7_shift_21 (by first | assumption | rfl) (zrd (n := 6) hj (by decide)) (hTA hj) ?_
  refine s_astore dX7_shift_22 (Nat.le_of_ble_eq_true rfl) rfl ?_
  refine s_aload_n dX7_shift_24 rfl ?_
  refine s_get dX7_shift_25 f_X7_41 (by first | assumption | rfl) (by rfl) ?_
  refine s_iload_n dX7_shift_28 rfl ?_
  refine s_aald dX7_shift_29 (by first | assumption | rfl) (zrd (n := 6) hto (by decide)) (hTA hto) ?_
  refine s_astore dX7_shift_30 (Nat.le_of_ble_eq_true rfl) rfl ?_
  refine s_aload dX7_shift_32 rfl ?_
  refine s_cv1 dX7_shift_34 g_X7_238 (c_X5_holdsRow ho1) (by first | assumption | rfl) rfl rfl rfl rfl (Nat.le_of_ble_eq_true rfl) (Nat.le_of_ble_eq_true rfl) rfl ?_
  refine s_if_eq (tgt := 48) dX7_shift_37 (by decide) (fun hz => ?_) (fun hqz => absurd (if_pos rfl) hqz)
  clear hz
  refine s_bipush (v := (-11)) dX7_shift_48 rfl ?_
  exact s_iret dX7_shift_50 rfl ⟨rfl, rfl⟩ (by first | exact wXlen | rfl)
set_option maxHeartbeats 4000000 in
set_option maxRecDepth 100000 in
theorem x_shift4 {Z : zS} {d : Nat} {hd th : zHd} {hi : Int32} {tx : zTx} {sh : zSh} {tp : zTs} {R : zW} {j o : Nat} {it1 it2 : Nat → Int64} {so1 sz1 sz2 : Int32} (hj : j < 6) (hto : o < 6) (ht1 : tpg tp j = (it1, so1, sz1)) (ht2 : tpg tp o = (it2, -1, sz2)) {p q m : Int32} (h1 : ¬ so1 = -1) : zF Z M_X7_shift (d + 1) [.ref 0, .int (nI j), .int p, .int (nI o), .int q, .int m] (wX hd th hi tx sh tp ++ R) [.int (-11)] (wX hd th hi tx sh tp ++ R) := by
  have ho1 := wXo (hd := hd) (th := th) (hi := hi) (tx := tx) (sh := sh) (tp := tp) (R := R) hj
  have hi1 := wXi (hd := hd) (th := th) (hi := hi) (tx := tx) (sh := sh) (tp := tp) (R := R) hj
  have ho2 := wXo (hd := hd) (th := th) (hi := hi) (tx := tx) (sh := sh) (tp := tp) (R := R) hto
  have hi2 := wXi (hd := hd) (th := th) (hi := hi) (tx := tx) (sh := sh) (tp := tp) (R := R) hto
  rw [ht1] at ho1 hi1
  rw [ht2] at ho2 hi2
  unfold zF
  rw [wXlen]
  show zG Z M_X7_shift (d + 1) _ (R.length + 41) 0 [(0, .ref 0), (1, .int (nI j)), (2, .int p), (3, .int (nI o)), (4, .int q), (5, .int m)] [] (wX hd th hi tx sh tp ++ R)
  refine s_iload_n dX7_shift_0 rfl ?_
  refine s_cs1 dX7_shift_1 g_X7_235 (c_X7_isTape) rfl rfl (Nat.le_of_ble_eq_true rfl) (Nat.le_of_ble_eq_true rfl) rfl ?_
  refine s_if_eq (tgt := 14) dX7_shift_4 (by decide) (fun hqz => absurd hqz (zrY (n := 6) hj (by decide))) (fun hz => ?_)
  clear hz
  refine s_iload_n dX7_shift_7 rfl ?_
  refine s_cs1 dX7_shift_8 g_X7_235 (c_X7_isTape) rfl rfl (Nat.le_of_ble_eq_true rfl) (Nat.le_of_ble_eq_true rfl) rfl ?_
  refine s_if_ne (tgt := 16) dX7_shift_11 (by decide) (fun hz => ?_) (fun hqz => absurd hqz (zrY (n := 6) hto (by decide)))
  clear hz
  refine s_aload_n dX7_shift_16 rfl ?_
  refine s_get dX7_shift_17 f_X7_41 (by first | assumption | rfl) (by rfl) ?_
  refine s_iload_n dX7_shift_20 rfl ?_
  refine s_aald dX7_shift_21 (by first | assumption | rfl) (zrd (n := 6) hj (by decide)) (hTA hj) ?_
  refine s_astore dX7_shift_22 (Nat.le_of_ble_eq_true rfl) rfl ?_
  refine s_aload_n dX7_shift_24 rfl ?_
  refine s_get dX7_shift_25 f_X7_41 (by first | assumption | rfl) (by rfl) ?_
  refine s_iload_n dX7_shift_28 rfl ?_
  refine s_aald dX7_shift_29 (by first | assumption | rfl) (zrd (n := 6) hto (by decide)) (hTA hto) ?_
  refine s_astore dX7_shift_30 (Nat.le_of_ble_eq_true rfl) rfl ?_
  refine s_aload dX7_shift_32 rfl ?_
  refine s_cv1 dX7_shift_34 g_X7_238 (c_X5_holdsRow ho1) (by first | assumption | rfl) rfl rfl rfl rfl (Nat.le_of_ble_eq_true rfl) (Nat.le_of_ble_eq_true rfl) rfl ?_
  refine s_if_eq (tgt := 48) dX7_shift_37 (by decide) (fun hqz => absurd hqz (by rw [if_neg h1]; decide)) (fun hz => ?_)
  clear hz
  refine s_aload dX7_shift_40 rfl ?_
  refine s_cv1 dX7_shift_42 g_X7_238 (c_X5_holdsRow ho2) (by first | assumption | rfl) rfl rfl rfl rfl (Nat.le_of_ble_eq_true rfl) (Nat.le_of_ble_eq_true rfl) rfl ?_
  refine s_if_ne (tgt := 51) dX7_shift_45 (by decide) (fun hqz => absurd (if_pos rfl) hqz) (fun hz => ?_)
  clear hz
  refine s_bipush (v := (-11)) dX7_shift_48 rfl ?_
  exact s_iret dX7_shift_50 rfl ⟨rfl, rfl⟩ (by first | exact wXlen | rfl)
set_option maxHeartbeats 4000000 in
set_option maxRecDepth 100000 in
theorem x_shift5 {Z : zS} {d : Nat} {hd th : zHd} {hi : Int32} {tx : zTx} {sh : zSh} {tp : zTs} {R : zW} {j o : Nat} {it1 it2 : Nat → Int64} {so1 sz1 so2 sz2 : Int32} (hj : j < 6) (hto : o < 6) (ht1 : tpg tp j = (it1, so1, sz1)) (ht2 : tpg tp o = (it2, so2, sz2)) {p q m : Int32} (h1 : ¬ so1 = -1) (h2 : ¬ so2 = -1) (h3 : ¬ so1 = so2) : zF Z M_X7_shift (d + 1) [.ref 0, .int (nI j), .int p, .int (nI o), .int q, .int m] (wX hd th hi tx sh tp ++ R) [.int (-12)] (wX hd th hi tx sh tp ++ R) := by
  have ho1 := wXo (hd := hd) (th := th) (hi := hi) (tx := tx) (sh := sh) (tp := tp) (R := R) hj
  have hi1 := wXi (hd := hd) (th := th) (hi := hi) (tx := tx) (sh := sh) (tp := tp) (R := R) hj
  have ho2 := wXo (hd := hd) (th := th) (hi := hi) (tx := tx) (sh := sh) (tp := tp) (R := R) hto
  have hi2 := wXi (hd := hd) (th := th) (hi := hi) (tx := tx) (sh := sh) (tp := tp) (R := R) hto
  rw [ht1] at ho1 hi1
  rw [ht2] at ho2 hi2
  unfold zF
  rw [wXlen]
  show zG Z M_X7_shift (d + 1) _ (R.length + 41) 0 [(0, .ref 0), (1, .int (nI j)), (2, .int p), (3, .int (nI o)), (4, .int q), (5, .int m)] [] (wX hd th hi tx sh tp ++ R)
  refine s_iload_n dX7_shift_0 rfl ?_
  refine s_cs1 dX7_shift_1 g_X7_235 (c_X7_isTape) rfl rfl (Nat.le_of_ble_eq_true rfl) (Nat.le_of_ble_eq_true rfl) rfl ?_
  refine s_if_eq (tgt := 14) dX7_shift_4 (by decide) (fun hqz => absurd hqz (zrY (n := 6) hj (by decide))) (fun hz => ?_)
  clear hz
  refine s_iload_n dX7_shift_7 rfl ?_
  refine s_cs1 dX7_shift_8 g_X7_235 (c_X7_isTape) rfl rfl (Nat.le_of_ble_eq_true rfl) (Nat.le_of_ble_eq_true rfl) rfl ?_
  refine s_if_ne (tgt := 16) dX7_shift_11 (by decide) (fun hz => ?_) (fun hqz => absurd hqz (zrY (n := 6) hto (by decide)))
  clear hz
  refine s_aload_n dX7_shift_16 rfl ?_
  refine s_get dX7_shift_17 f_X7_41 (by first | assumption | rfl) (by rfl) ?_
  refine s_iload_n dX7_shift_20 rfl ?_
  refine s_aald dX7_shift_21 (by first | assumption | rfl) (zrd (n := 6) hj (by decide)) (hTA hj) ?_
  refine s_astore dX7_shift_22 (Nat.le_of_ble_eq_true rfl) rfl ?_
  refine s_aload_n dX7_shift_24 rfl ?_
  refine s_get dX7_shift_25 f_X7_41 (by first | assumption | rfl) (by rfl) ?_
  refine s_iload_n dX7_shift_28 rfl ?_
  refine s_aald dX7_shift_29 (by first | assumption | rfl) (zrd (n := 6) hto (by decide)) (hTA hto) ?_
  refine s_astore dX7_shift_30 (Nat.le_of_ble_eq_true rfl) rfl ?_
  refine s_aload dX7_shift_32 rfl ?_
  refine s_cv1 dX7_shift_34 g_X7_238 (c_X5_holdsRow ho1) (by first | assumption | rfl) rfl rfl rfl rfl (Nat.le_of_ble_eq_true rfl) (Nat.le_of_ble_eq_true rfl) rfl ?_
  refine s_if_eq (tgt := 48) dX7_shift_37 (by decide) (fun hqz => absurd hqz (by rw [if_neg h1]; decide)) (fun hz => ?_)
  clear hz
  refine s_aload dX7_shift_40 rfl ?_
  refine s_cv1 dX7_shift_42 g_X7_238 (c_X5_holdsRow ho2) (by first | assumption | rfl) rfl rfl rfl rfl (Nat.le_of_ble_eq_true rfl) (Nat.le_of_ble_eq_true rfl) rfl ?_
  refine s_if_ne (tgt := 51) dX7_shift_45 (by decide) (fun hz => ?_) (fun hqz => absurd hqz (by rw [if_neg h2]; decide))
  clear hz
  refine s_aload dX7_shift_51 rfl ?_
  refine s_get dX7_shift_53 f_X7_242 (by first | assumption | rfl) (by rfl) ?_
  refine s_aload dX7_shift_56 rfl ?_
  refine s_get dX7_shift_58 f_X7_242 (by first | assumption | rfl) (by rfl) ?_
  refine s_icmp_eq (tgt := 67) dX7_shift_61 (by decide) (fun hqz => absurd hqz h3) (fun hz => ?_)
  clear hz
  refine s_bipush (v := (-12)) dX7_shift_64 rfl ?_
  exact s_iret dX7_shift_66 rfl ⟨rfl, rfl⟩ (by first | exact wXlen | rfl)
set_option maxHeartbeats 4000000 in
set_option maxRecDepth 100000 in
theorem x_shift6 {Z : zS} {d : Nat} {hd th : zHd} {hi : Int32} {tx : zTx} {sh : zSh} {tp : zTs} {R : zW} {j o : Nat} {it1 it2 : Nat → Int64} {so sz1 sz2 : Int32} (hj : j < 6) (hto : o < 6) (ht1 : tpg tp j = (it1, so, sz1)) (ht2 : tpg tp o = (it2, so, sz2)) {p q m : Int32} (h1 : ¬ so = -1) (h2 : zhv sz1 p m = 0) : zF Z M_X7_shift (d + 1) [.ref 0, .int (nI j), .int p, .int (nI o), .int q, .int m] (wX hd th hi tx sh tp ++ R) [.int (-13)] (wX hd th hi tx sh tp ++ R) := by
  have ho1 := wXo (hd := hd) (th := th) (hi := hi) (tx := tx) (sh := sh) (tp := tp) (R := R) hj
  have hi1 := wXi (hd := hd) (th := th) (hi := hi) (tx := tx) (sh := sh) (tp := tp) (R := R) hj
  have ho2 := wXo (hd := hd) (th := th) (hi := hi) (tx := tx) (sh := sh) (tp := tp) (R := R) hto
  have hi2 := wXi (hd := hd) (th := th) (hi := hi) (tx := tx) (sh := sh) (tp := tp) (R := R) hto
  rw [ht1] at ho1 hi1
  rw [ht2] at ho2 hi2
  unfold zF
  rw [wXlen]
  show zG Z M_X7_shift (d + 1) _ (R.length + 41) 0 [(0, .ref 0), (1, .int (nI j)), (2, .int p), (3, .int (nI o)), (4, .int q), (5, .int m)] [] (wX hd th hi tx sh tp ++ R)
  refine s_iload_n dX7_shift_0 rfl ?_
  refine s_cs1 dX7_shift_1 g_X7_235 (c_X7_isTape) rfl rfl (Nat.le_of_ble_eq_true rfl) (Nat.le_of_ble_eq_true rfl) rfl ?_
  refine s_if_eq (tgt := 14) dX7_shift_4 (by decide) (fun hqz => absurd hqz (zrY (n := 6) hj (by decide))) (fun hz => ?_)
  clear hz
  refine s_iload_n dX7_shift_7 rfl ?_
  refine s_cs1 dX7_shift_8 g_X7_235 (c_X7_isTape) rfl rfl (Nat.le_of_ble_eq_true rfl) (Nat.le_of_ble_eq_true rfl) rfl ?_
  refine s_if_ne (tgt := 16) dX7_shift_11 (by decide) (fun hz => ?_) (fun hqz => absurd hqz (zrY (n := 6) hto (by decide)))
  clear hz
  refine s_aload_n dX7_shift_16 rfl ?_
  refine s_get dX7_shift_17 f_X7_41 (by first | assumption | rfl) (by rfl) ?_
  refine s_iload_n dX7_shift_20 rfl ?_
  refine s_aald dX7_shift_21 (by first | assumption | rfl) (zrd (n := 6) hj (by decide)) (hTA hj) ?_
  refine s_astore dX7_shift_22 (Nat.le_of_ble_eq_true rfl) rfl ?_
  refine s_aload_n dX7_shift_24 rfl ?_
  refine s_get dX7_shift_25 f_X7_41 (by first | assumption | rfl) (by rfl) ?_
  refine s_iload_n dX7_shift_28 rfl ?_
  refine s_aald dX7_shift_29 (by first | assumption | rfl) (zrd (n := 6) hto (by decide)) (hTA hto) ?_
  refine s_astore dX7_shift_30 (Nat.le_of_ble_eq_true rfl) rfl ?_
  refine s_aload dX7_shift_32 rfl ?_
  refine s_cv1 dX7_shift_34 g_X7_238 (c_X5_holdsRow ho1) (by first | assumption | rfl) rfl rfl rfl rfl (Nat.le_of_ble_eq_true rfl) (Nat.le_of_ble_eq_true rfl) rfl ?_
  refine s_if_eq (tgt := 48) dX7_shift_37 (by decide) (fun hqz => absurd hqz (by rw [if_neg h1]; decide)) (fun hz => ?_)
  clear hz
  refine s_aload dX7_shift_40 rfl ?_
  refine s_cv1 dX7_shift_42 g_X7_238 (c_X5_holdsRow ho2) (by first | assumption | rfl) rfl rfl rfl rfl (Nat.le_of_ble_eq_true rfl) (Nat.le_of_ble_eq_true rfl) rfl ?_
  refine s_if_ne (tgt := 51) dX7_shift_45 (by decide) (fun hz => ?_) (fun hqz => absurd hqz (by rw [if_neg h1]; decide))
  clear hz
  refine s_aload dX7_shift_51 rfl ?_
  refine s_get dX7_shift_53 f_X7_242 (by first | assumption | rfl) (by rfl) ?_
  refine s_aload dX7_shift_56 rfl ?_
  refine s_get dX7_shift_58 f_X7_242 (by first | assumption | rfl) (by rfl) ?_
  refine s_icmp_eq (tgt := 67) dX7_shift_61 (by decide) (fun hz => ?_) (fun hqz => absurd rfl hqz)
  clear hz
  refine s_aload dX7_shift_67 rfl ?_
  refine s_iload_n dX7_shift_69 rfl ?_
  refine s_iload dX7_shift_70 rfl ?_
  refine s_cv1 dX7_shift_72 g_X7_264 (c_X5_hasRun ho1) (by first | assumption | rfl) rfl rfl rfl rfl (Nat.le_of_ble_eq_true rfl) (Nat.le_of_ble_eq_true rfl) rfl ?_
  refine s_if_eq (tgt := 90) dX7_shift_75 (by decide) (fun hz => ?_) (fun hqz => absurd h2 hqz)
  clear hz
  refine s_bipush (v := (-13)) dX7_shift_90 rfl ?_
  exact s_iret dX7_shift_92 rfl ⟨rfl, rfl⟩ (by first | exact wXlen | rfl)
set_option maxHeartbeats 4000000 in
set_option maxRecDepth 100000 in
theorem x_shift7 {Z : zS} {d : Nat} {hd th : zHd} {hi : Int32} {tx : zTx} {sh : zSh} {tp : zTs} {R : zW} {j o : Nat} {it1 it2 : Nat → Int64} {so sz1 sz2 : Int32} (hj : j < 6) (hto : o < 6) (ht1 : tpg tp j = (it1, so, sz1)) (ht2 : tpg tp o = (it2, so, sz2)) {p q m : Int32} (h1 : ¬ so = -1) (h2 : ¬ zhv sz1 p m = 0) (h3 : zhv sz2 q m = 0) : zF Z M_X7_shift (d + 1) [.ref 0, .int (nI j), .int p, .int (nI o), .int q, .int m] (wX hd th hi tx sh tp ++ R) [.int (-13)] (wX hd th hi tx sh tp ++ R) := by
  have ho1 := wXo (hd := hd) (th := th) (hi := hi) (tx := tx) (sh := sh) (tp := tp) (R := R) hj
  have hi1 := wXi (hd := hd) (th := th) (hi := hi) (tx := tx) (sh := sh) (tp := tp) (R := R) hj
  have ho2 := wXo (hd := hd) (th := th) (hi := hi) (tx := tx) (sh := sh) (tp := tp) (R := R) hto
  have hi2 := wXi (hd := hd) (th := th) (hi := hi) (tx := tx) (sh := sh) (tp := tp) (R := R) hto
  rw [ht1] at ho1 hi1
  rw [ht2] at ho2 hi2
  unfold zF
  rw [wXlen]
  show zG Z M_X7_shift (d + 1) _ (R.length + 41) 0 [(0, .ref 0), (1, .int (nI j)), (2, .int p), (3, .int (nI o)), (4, .int q), (5, .int m)] [] (wX hd th hi tx sh tp ++ R)
  refine s_iload_n dX7_shift_0 rfl ?_
  refine s_cs1 dX7_shift_1 g_X7_235 (c_X7_isTape) rfl rfl (Nat.le_of_ble_eq_true rfl) (Nat.le_of_ble_eq_true rfl) rfl ?_
  refine s_if_eq (tgt := 14) dX7_shift_4 (by decide) (fun hqz => absurd hqz (zrY (n := 6) hj (by decide))) (fun hz => ?_)
  clear hz
  refine s_iload_n dX7_shift_7 rfl ?_
  refine s_cs1 dX7_shift_8 g_X7_235 (c_X7_isTape) rfl rfl (Nat.le_of_ble_eq_true rfl) (Nat.le_of_ble_eq_true rfl) rfl ?_
  refine s_if_ne (tgt := 16) dX7_shift_11 (by decide) (fun hz => ?_) (fun hqz => absurd hqz (zrY (n := 6) hto (by decide)))
  clear hz
  refine s_aload_n dX7_shift_16 rfl ?_
  refine s_get dX7_shift_17 f_X7_41 (by first | assumption | rfl) (by rfl) ?_
  refine s_iload_n dX7_shift_20 rfl ?_
  refine s_aald dX7_shift_21 (by first | assumption | rfl) (zrd (n := 6) hj (by decide)) (hTA hj) ?_
  refine s_astore dX7_shift_22 (Nat.le_of_ble_eq_true rfl) rfl ?_
  refine s_aload_n dX7_shift_24 rfl ?_
  refine s_get dX7_shift_25 f_X7_41 (by first | assumption | rfl) (by rfl) ?_
  refine s_iload_n dX7_shift_28 rfl ?_
  refine s_aald dX7_shift_29 (by first | assumption | rfl) (zrd (n := 6) hto (by decide)) (hTA hto) ?_
  refine s_astore dX7_shift_30 (Nat.le_of_ble_eq_true rfl) rfl ?_
  refine s_aload dX7_shift_32 rfl ?_
  refine s_cv1 dX7_shift_34 g_X7_238 (c_X5_holdsRow ho1) (by first | assumption | rfl) rfl rfl rfl rfl (Nat.le_of_ble_eq_true rfl) (Nat.le_of_ble_eq_true rfl) rfl ?_
  refine s_if_eq (tgt := 48) dX7_shift_37 (by decide) (fun hqz => absurd hqz (by rw [if_neg h1]; decide)) (fun hz => ?_)
  clear hz
  refine s_aload dX7_shift_40 rfl ?_
  refine s_cv1 dX7_shift_42 g_X7_238 (c_X5_holdsRow ho2) (by first | assumption | rfl) rfl rfl rfl rfl (Nat.le_of_ble_eq_true rfl) (Nat.le_of_ble_eq_true rfl) rfl ?_
  refine s_if_ne (tgt := 51) dX7_shift_45 (by decide) (fun hz => ?_) (fun hqz => absurd hqz (by rw [if_neg h1]; decide))
  clear hz
  refine s_aload dX7_shift_51 rfl ?_
  refine s_get dX7_shift_53 f_X7_242 (by first | assumption | rfl) (by rfl) ?_
  refine s_aload dX7_shift_56 rfl ?_
  refine s_get dX7_shift_58 f_X7_242 (by first | assumption | rfl) (by rfl) ?_
  refine s_icmp_eq (tgt := 67) dX7_shift_61 (by decide) (fun hz => ?_) (fun hqz => absurd rfl hqz)
  clear hz
  refine s_aload dX7_shift_67 rfl ?_
  refine s_iload_n dX7_shift_69 rfl ?_
  refine s_iload dX7_shift_70 rfl ?_
  refine s_cv1 dX7_shift_72 g_X7_264 (c_X5_hasRun ho1) (by first | assumption | rfl) rfl rfl rfl rfl (Nat.le_of_ble_eq_true rfl) (Nat.le_of_ble_eq_true rfl) rfl ?_
  refine s_if_eq (tgt := 90) dX7_shift_75 (by decide) (fun hqz => absurd hqz h2) (fun hz => ?_)
  clear hz
  refine s_aload dX7_shift_78 rfl ?_
  refine s_iload dX7_shift_80 rfl ?_
  refine s_iload dX7_shift_82 rfl ?_
  refine s_cv1 dX7_shift_84 g_X7_264 (c_X5_hasRun ho2) (by first | assumption | rfl) rfl rfl rfl rfl (Nat.le_of_ble_eq_true rfl) (Nat.le_of_ble_eq_true rfl) rfl ?_
  refine s_if_ne (tgt := 93) dX7_shift_87 (by decide) (fun hqz => absurd h3 hqz) (fun hz => ?_)
  clear hz
  refine s_bipush (v := (-13)) dX7_shift_90 rfl ?_
  exact s_iret dX7_shift_92 rfl ⟨rfl, rfl⟩ (by first | exact wXlen | rfl)
set_option maxHeartbeats 4000000 in
set_option maxRecDepth 100000 in
theorem x_shift {Z : zS} {d : Nat} {hd th : zHd} {hi : Int32} {tx : zTx} {sh : zSh} {tp : zTs} {R : zW} {j o : Nat} {it1 it2 : Nat → Int64} {so : Int32} {z1 z2 : Nat} (hj : j < 6) (hto : o < 6) (ht1 : tpg tp j = (it1, so, nI z1)) (ht2 : tpg tp o = (it2, so, nI z2)) {p q m : Nat} (h1 : ¬ so = -1) (hz1 : z1 ≤ 60) (hz2 : z2 ≤ 60) (hp : p + m ≤ z1) (hq : q + m ≤ z2) : zF Z M_X7_shift (d + 1) [.ref 0, .int (nI j), .int (nI p), .int (nI o), .int (nI q), .int (nI m)] (wX hd th hi tx sh tp ++ R) [.int (nI m)] (wX hd th hi tx sh (tps tp o (va_cpy it1 it2 p q m, so, nI z2)) ++ R) := by
  have ho1 := wXo (hd := hd) (th := th) (hi := hi) (tx := tx) (sh := sh) (tp := tp) (R := R) hj
  have hi1 := wXi (hd := hd) (th := th) (hi := hi) (tx := tx) (sh := sh) (tp := tp) (R := R) hj
  have ho2 := wXo (hd := hd) (th := th) (hi := hi) (tx := tx) (sh := sh) (tp := tp) (R := R) hto
  have hi2 := wXi (hd := hd) (th := th) (hi := hi) (tx := tx) (sh := sh) (tp := tp) (R := R) hto
  rw [ht1] at ho1 hi1
  rw [ht2] at ho2 hi2
  have cp : (nI p).toNatClampNeg = p := nI_clamp (by omega)
  have cq : (nI q).toNatClampNeg = q := nI_clamp (by omega)
  have cm : (nI m).toNatClampNeg = m := nI_clamp (by omega)
  unfold zF
  rw [wXlen]
  show zG Z M_X7_shift (d + 1) _ (R.length + 41) 0 [(0, .ref 0), (1, .int (nI j)), (2, .int (nI p)), (3, .int (nI o)), (4, .int (nI q)), (5, .int (nI m))] [] (wX hd th hi tx sh tp ++ R)
  refine s_iload_n dX7_shift_0 rfl ?_
  refine s_cs1 dX7_shift_1 g_X7_235 (c_X7_isTape) rfl rfl (Nat.le_of_ble_eq_true rfl) (Nat.le_of_ble_eq_true rfl) rfl ?_
  refine s_if_eq (tgt := 14) dX7_shift_4 (by decide) (fun hqz => absurd hqz (zrY (n := 6) hj (by decide))) (fun hz => ?_)
  clear hz
  refine s_iload_n dX7_shift_7 rfl ?_
  refine s_cs1 dX7_shift_8 g_X7_235 (c_X7_isTape) rfl rfl (Nat.le_of_ble_eq_true rfl) (Nat.le_of_ble_eq_true rfl) rfl ?_
  refine s_if_ne (tgt := 16) dX7_shift_11 (by decide) (fun hz => ?_) (fun hqz => absurd hqz (zrY (n := 6) hto (by decide)))
  clear hz
  refine s_aload_n dX7_shift_16 rfl ?_
  refine s_get dX7_shift_17 f_X7_41 (by first | assumption | rfl) (by rfl) ?_
  refine s_iload_n dX7_shift_20 rfl ?_
  refine s_aald dX7_shift_21 (by first | assumption | rfl) (zrd (n := 6) hj (by decide)) (hTA hj) ?_
  refine s_astore dX7_shift_22 (Nat.le_of_ble_eq_true rfl) rfl ?_
  refine s_aload_n dX7_shift_24 rfl ?_
  refine s_get dX7_shift_25 f_X7_41 (by first | assumption | rfl) (by rfl) ?_
  refine s_iload_n dX7_shift_28 rfl ?_
  refine s_aald dX7_shift_29 (by first | assumption | rfl) (zrd (n := 6) hto (by decide)) (hTA hto) ?_
  refine s_astore dX7_shift_30 (Nat.le_of_ble_eq_true rfl) rfl ?_
  refine s_aload dX7_shift_32 rfl ?_
  refine s_cv1 dX7_shift_34 g_X7_238 (c_X5_holdsRow ho1) (by first | assumption | rfl) rfl rfl rfl rfl (Nat.le_of_ble_eq_true rfl) (Nat.le_of_ble_eq_true rfl) rfl ?_
  refine s_if_eq (tgt := 48) dX7_shift_37 (by decide) (fun hqz => absurd hqz (by rw [if_neg h1]; decide)) (fun hz => ?_)
  clear hz
  refine s_aload dX7_shift_40 rfl ?_
  refine s_cv1 dX7_shift_42 g_X7_238 (c_X5_holdsRow ho2) (by first | assumption | rfl) rfl rfl rfl rfl (Nat.le_of_ble_eq_true rfl) (Nat.le_of_ble_eq_true rfl) rfl ?_
  refine s_if_ne (tgt := 51) dX7_shift_45 (by decide) (fun hz => ?_) (fun hqz => absurd hqz (by rw [if_neg h1]; decide))
  clear hz
  refine s_aload dX7_shift_51 rfl ?_
  refine s_get dX7_shift_53 f_X7_242 (by first | assumption | rfl) (by rfl) ?_
  refine s_aload dX7_shift_56 rfl ?_
  refine s_get dX7_shift_58 f_X7_242 (by first | assumption | rfl) (by rfl) ?_
  refine s_icmp_eq (tgt := 67) dX7_shift_61 (by decide) (fun hz => ?_) (fun hqz => absurd rfl hqz)
  clear hz
  refine s_aload dX7_shift_67 rfl ?_
  refine s_iload_n dX7_shift_69 rfl ?_
  refine s_iload dX7_shift_70 rfl ?_
  refine s_cv1 dX7_shift_72 g_X7_264 (c_X5_hasRun ho1) (by first | assumption | rfl) rfl rfl rfl rfl (Nat.le_of_ble_eq_true rfl) (Nat.le_of_ble_eq_true rfl) rfl ?_
  refine s_if_eq (tgt := 90) dX7_shift_75 (by decide) (fun hqz => absurd hqz (zhvY hz1 hp)) (fun hz => ?_)
  clear hz
  refine s_aload dX7_shift_78 rfl ?_
  refine s_iload dX7_shift_80 rfl ?_
  refine s_iload dX7_shift_82 rfl ?_
  refine s_cv1 dX7_shift_84 g_X7_264 (c_X5_hasRun ho2) (by first | assumption | rfl) rfl rfl rfl rfl (Nat.le_of_ble_eq_true rfl) (Nat.le_of_ble_eq_true rfl) rfl ?_
  refine s_if_ne (tgt := 93) dX7_shift_87 (by decide) (fun hz => ?_) (fun hqz => absurd hqz (zhvY hz2 hq))
  clear hz
  refine s_aload dX7_shift_93 rfl ?_
  refine s_get dX7_shift_95 f_X7_267 (by first | assumption | rfl) (by rfl) ?_
  refine s_iload_n dX7_shift_98 rfl ?_
  refine s_aload dX7_shift_99 rfl ?_
  refine s_get dX7_shift_101 f_X7_267 (by first | assumption | rfl) (by rfl) ?_
  refine s_iload dX7_shift_104 rfl ?_
  refine s_iload dX7_shift_106 rfl ?_
  refine s_copyL dX7_shift_108 (zin 658 (by decide +kernel) (by decide +kernel)) (zin 617 (by decide +kernel) (by decide +kernel)) (zin 616 (by decide +kernel) (by decide +kernel)) (zin 72 (by decide +kernel) (by decide +kernel)) (by first | assumption | rfl) (by first | assumption | rfl) (nI_pos (by omega)) (nI_pos (by omega)) (nI_pos (by omega)) (by rw [cp, cm]; omega) (by rw [cq, cm]; omega) (Nat.le_of_ble_eq_true rfl) ?_
  refine s_iload dX7_shift_111 rfl ?_
  exact s_iret dX7_shift_113 rfl ⟨rfl, by rw [cp, cq, cm, wXsi hto, ht2]⟩ (by rw [List.length_set, wXlen]; rfl)
def kJU (it : Nat → Int64) (z b p : Nat) : Nat → Nat → Int32
  | 0, _ => -5
  | n + 1, c => if z ≤ p + c then nI (100 + c) else if it (p + c) = (nI (zb b c)).toInt64 then kJU it z b p n (c + 1) else nI c
theorem zlcmpE {v u : Int64} : lg_cmp v u = 0 ↔ v = u := by
  unfold lg_cmp
  by_cases h1 : v > u
  · rw [if_pos h1]
    refine ⟨fun e => absurd e (by decide), fun e => ?_⟩
    rw [e] at h1
    exact absurd h1 Int64.lt_irrefl
  · rw [if_neg h1]
    by_cases h2 : v = u
    · rw [if_pos h2]
      exact ⟨fun _ => h2, fun _ => rfl⟩
    · rw [if_neg h2]
      exact ⟨fun e => absurd e (by decide), fun e => absurd e h2⟩
set_option maxHeartbeats 4000000 in
set_option maxRecDepth 100000 in
theorem x_judge1 {Z : zS} {d : Nat} {hd th : zHd} {hi : Int32} {tx : zTx} {sh : zSh} {tp : zTs} {R : zW} {c i : Int32} (hc : c < 0 ∨ 6 ≤ c) : zF Z M_X7_judge (d + 1) [.ref 0, .int c, .int i] (wX hd th hi tx sh tp ++ R) [.int (-1)] (wX hd th hi tx sh tp ++ R) := by
  unfold zF
  rw [wXlen]
  show zG Z M_X7_judge (d + 1) _ (R.length + 41) 0 [(0, .ref 0), (1, .int c), (2, .int i)] [] (wX hd th hi tx sh tp ++ R)
  refine s_iload_n dX7_judge_0 rfl ?_
  refine s_cs1 dX7_judge_1 g_X7_235 (c_X7_isTape) rfl rfl (Nat.le_of_ble_eq_true rfl) (Nat.le_of_ble_eq_true rfl) rfl ?_
  refine s_if_ne (tgt := 9) dX7_judge_4 (by decide) (fun hqz => absurd (zrN hc) hqz) (fun hz => ?_)
  clear hz
  refine s_iconst (v := (-1)) dX7_judge_7 rfl ?_
  exact s_iret dX7_judge_8 rfl ⟨rfl, rfl⟩ (by first | exact wXlen | rfl)
set_option maxHeartbeats 4000000 in
set_option maxRecDepth 100000 in
theorem x_judge2 {Z : zS} {d : Nat} {hd th : zHd} {hi : Int32} {tx : zTx} {sh : zSh} {tp : zTs} {R : zW} {j : Nat} {it : Nat → Int64} {sz : Int32} (hj : j < 6) (ht : tpg tp j = (it, -1, sz)) {i : Int32} : zF Z M_X7_judge (d + 1) [.ref 0, .int (nI j), .int i] (wX hd th hi tx sh tp ++ R) [.int 100] (wX hd th hi tx sh tp ++ R) := by
  have ho := wXo (hd := hd) (th := th) (hi := hi) (tx := tx) (sh := sh) (tp := tp) (R := R) hj
  have hit := wXi (hd := hd) (th := th) (hi := hi) (tx := tx) (sh := sh) (tp := tp) (R := R) hj
  rw [ht] at ho hit
  unfold zF
  rw [wXlen]
  show zG Z M_X7_judge (d + 1) _ (R.length + 41) 0 [(0, .ref 0), (1, .int (nI j)), (2, .int i)] [] (wX hd th hi tx sh tp ++ R)
  refine s_iload_n dX7_judge_0 rfl ?_
  refine s_cs1 dX7_judge_1 g_X7_235 (c_X7_isTape) rfl rfl (Nat.le_of_ble_eq_true rfl) (Nat.le_of_ble_eq_true rfl) rfl ?_
  refine s_if_ne (tgt := 9) dX7_judge_4 (by decide) (fun hz => ?_) (fun hqz => absurd hqz (zrY (n := 6) hj (by decide)))
  clear hz
  refine s_aload_n dX7_judge_9 rfl ?_
  refine s_get dX7_judge_10 f_X7_41 (by first | assumption | rfl) (by rfl) ?_
  refine s_iload_n dX7_judge_13 rfl ?_
  refine s_aald dX7_judge_14 (by first | assumption | rfl) (zrd (n := 6) hj (by decide)) (hTA hj) ?_
  refine s_astore_n dX7_judge_15 (Nat.le_of_ble_eq_true rfl) rfl ?_
  refine s_aload_n dX7_judge_16 rfl ?_
  refine s_cv1 dX7_judge_17 g_X7_238 (c_X5_holdsRow ho) (by first | assumption | rfl) rfl rfl rfl rfl (Nat.le_of_ble_eq_true rfl) (Nat.le_of_ble_eq_true rfl) rfl ?_
  refine s_if_ne (tgt := 26) dX7_judge_20 (by decide) (fun hqz => absurd (if_pos rfl) hqz) (fun hz => ?_)
  clear hz
  refine s_bipush (v := 100) dX7_judge_23 rfl ?_
  exact s_iret dX7_judge_25 rfl ⟨rfl, rfl⟩ (by first | exact wXlen | rfl)
set_option maxHeartbeats 4000000 in
set_option maxRecDepth 100000 in
theorem x_judge3 {Z : zS} {d : Nat} {hd th : zHd} {hi : Int32} {tx : zTx} {sh : zSh} {tp : zTs} {R : zW} {j : Nat} {it : Nat → Int64} {so sz : Int32} (hj : j < 6) (ht : tpg tp j = (it, so, sz)) {i : Int32} (h1 : ¬ so = -1) (h4 : ¬ so = 4) : zF Z M_X7_judge (d + 1) [.ref 0, .int (nI j), .int i] (wX hd th hi tx sh tp ++ R) [.int (-12)] (wX hd th hi tx sh tp ++ R) := by
  have ho := wXo (hd := hd) (th := th) (hi := hi) (tx := tx) (sh := sh) (tp := tp) (R := R) hj
  have hit := wXi (hd := hd) (th := th) (hi := hi) (tx := tx) (sh := sh) (tp := tp) (R := R) hj
  rw [ht] at ho hit
  unfold zF
  rw [wXlen]
  show zG Z M_X7_judge (d + 1) _ (R.length + 41) 0 [(0, .ref 0), (1, .int (nI j)), (2, .int i)] [] (wX hd th hi tx sh tp ++ R)
  refine s_iload_n dX7_judge_0 rfl ?_
  refine s_cs1 dX7_judge_1 g_X7_235 (c_X7_isTape) rfl rfl (Nat.le_of_ble_eq_true rfl) (Nat.le_of_ble_eq_true rfl) rfl ?_
  refine s_if_ne (tgt := 9) dX7_judge_4 (by decide) (fun hz => ?_) (fun hqz => absurd hqz (zrY (n := 6) hj (by decide)))
  clear hz
  refine s_aload_n dX7_judge_9 rfl ?_
  refine s_get dX7_judge_10 f_X7_41 (by first | assumption | rfl) (by rfl) ?_
  refine s_iload_n dX7_judge_13 rfl ?_
  refine s_aald dX7_judge_14 (by first | assumption | rfl) (zrd (n := 6) hj (by decide)) (hTA hj) ?_
  refine s_astore_n dX7_judge_15 (Nat.le_of_ble_eq_true rfl) rfl ?_
  refine s_aload_n dX7_judge_16 rfl ?_
  refine s_cv1 dX7_judge_17 g_X7_238 (c_X5_holdsRow ho) (by first | assumption | rfl) rfl rfl rfl rfl (Nat.le_of_ble_eq_true rfl) (Nat.le_of_ble_eq_true rfl) rfl ?_
  refine s_if_ne (tgt := 26) dX7_judge_20 (by decide) (fun hz => ?_) (fun hqz => absurd hqz (by rw [if_neg h1]; decide))
  clear hz
  refine s_aload_n dX7_judge_26 rfl ?_
  refine s_get dX7_judge_27 f_X7_242 (by first | assumption | rfl) (by rfl) ?_
  refine s_iconst (v := 4) dX7_judge_30 rfl ?_
  refine s_icmp_eq (tgt := 37) dX7_judge_31 (by decide) (fun hqz => absurd hqz h4) (fun hz => ?_)
  clear hz
  refine s_bipush (v := (-12)) dX7_judge_34 rfl ?_
  exact s_iret dX7_judge_36 rfl ⟨rfl, rfl⟩ (by first | exact wXlen | rfl)
set_option maxHeartbeats 4000000 in
set_option maxRecDepth 100000 in
theorem x_judge4 {Z : zS} {d : Nat} {hd th : zHd} {hi : Int32} {tx : zTx} {sh : zSh} {tp : zTs} {R : zW} {j : Nat} {it : Nat → Int64} {z : Nat} (hj : j < 6) (ht : tpg tp j = (it, 4, nI z)) (hz : z ≤ 60) {i : Int32} (hp : i < 0 ∨ nI z ≤ i) : zF Z M_X7_judge (d + 1) [.ref 0, .int (nI j), .int i] (wX hd th hi tx sh tp ++ R) [.int 100] (wX hd th hi tx sh tp ++ R) := by
  have ho := wXo (hd := hd) (th := th) (hi := hi) (tx := tx) (sh := sh) (tp := tp) (R := R) hj
  have hit := wXi (hd := hd) (th := th) (hi := hi) (tx := tx) (sh := sh) (tp := tp) (R := R) hj
  rw [ht] at ho hit
  unfold zF
  rw [wXlen]
  show zG Z M_X7_judge (d + 1) _ (R.length + 41) 0 [(0, .ref 0), (1, .int (nI j)), (2, .int i)] [] (wX hd th hi tx sh tp ++ R)
  refine s_iload_n dX7_judge_0 rfl ?_
  refine s_cs1 dX7_judge_1 g_X7_235 (c_X7_isTape) rfl rfl (Nat.le_of_ble_eq_true rfl) (Nat.le_of_ble_eq_true rfl) rfl ?_
  refine s_if_ne (tgt := 9) dX7_judge_4 (by decide) (fun hz => ?_) (fun hqz => absurd hqz (zrY (n := 6) hj (by decide)))
  clear hz
  refine s_aload_n dX7_judge_9 rfl ?_
  refine s_get dX7_judge_10 f_X7_41 (by first | assumption | rfl) (by rfl) ?_
  refine s_iload_n dX7_judge_13 rfl ?_
  refine s_aald dX7_judge_14 (by first | assumption | rfl) (zrd (n := 6) hj (by decide)) (hTA hj) ?_
  refine s_astore_n dX7_judge_15 (Nat.le_of_ble_eq_true rfl) rfl ?_
  refine s_aload_n dX7_judge_16 rfl ?_
  refine s_cv1 dX7_judge_17 g_X7_238 (c_X5_holdsRow ho) (by first | assumption | rfl) rfl rfl rfl rfl (Nat.le_of_ble_eq_true rfl) (Nat.le_of_ble_eq_true rfl) rfl ?_
  refine s_if_ne (tgt := 26) dX7_judge_20 (by decide) (fun hz => ?_) (fun hqz => absurd hqz (show ¬ (if (4 : Int32) = -1 then (0 : Int32) else 1) = 0 by decide))
  clear hz
  refine s_aload_n dX7_judge_26 rfl ?_
  refine s_get dX7_judge_27 f_X7_242 (by first | assumption | rfl) (by rfl) ?_
  refine s_iconst (v := 4) dX7_judge_30 rfl ?_
  refine s_icmp_eq (tgt := 37) dX7_judge_31 (by decide) (fun hz => ?_) (fun hqz => absurd rfl hqz)
  clear hz
  refine s_iconst (v := 0) dX7_judge_37 rfl ?_
  refine s_istore dX7_judge_38 (Nat.le_of_ble_eq_true rfl) rfl ?_
  refine s_iload dX7_judge_40 rfl ?_
  refine s_bipush (v := 8) dX7_judge_42 rfl ?_
  refine s_icmp_ge (tgt := 106) dX7_judge_44 (by decide) (fun hqz => absurd hqz (by decide)) (fun hz => ?_)
  clear hz
  refine s_aload_n dX7_judge_47 rfl ?_
  refine s_iload_n dX7_judge_48 rfl ?_
  refine s_cv1 dX7_judge_49 g_X7_245 (c_X5_hasPlace ho) (by first | assumption | rfl) rfl rfl rfl rfl (Nat.le_of_ble_eq_true rfl) (Nat.le_of_ble_eq_true rfl) rfl ?_
  refine s_if_eq (tgt := 66) dX7_judge_52 (by decide) (fun hz => ?_) (fun hqz => absurd (zhpN hp) hqz)
  clear hz
  refine s_bipush (v := 100) dX7_judge_66 rfl ?_
  refine s_iload dX7_judge_68 rfl ?_
  refine s_iadd dX7_judge_70 ?_
  exact s_iret dX7_judge_71 rfl ⟨rfl, rfl⟩ (by first | exact wXlen | rfl)
set_option maxHeartbeats 4000000 in
set_option maxRecDepth 100000 in
theorem l_judge {Z : zS} {d : Nat} {b k : Nat} {rs re rb : zRw} {th : zHd} {hi : Int32} {tx : zTx} {sh : zSh} {tp : zTs} {R : zW} {j p z : Nat} {it : Nat → Int64} (hj : j < 6) (ht : tpg tp j = (it, 4, nI z)) (hz : z ≤ 60) (hp : p < z) (hb : b < 256) : ∀ (n c : Nat), c + n = 8 → zG Z M_X7_judge (d + 2) (fun r1 w1 => r1 = [.int (kJU it z b p n c)] ∧ w1 = (wX (nI b, nI k, rs, re, rb) th hi tx sh tp ++ R)) (R.length + 41) 40 [(0, .ref 0), (1, .int (nI j)), (2, .int (nI p)), (3, .ref (29 + 2 * j)), (4, .int (nI c))] [] (wX (nI b, nI k, rs, re, rb) th hi tx sh tp ++ R) := by
  have ho := wXo (hd := (nI b, nI k, rs, re, rb)) (th := th) (hi := hi) (tx := tx) (sh := sh) (tp := tp) (R := R) hj
  have hit := wXi (hd := (nI b, nI k, rs, re, rb)) (th := th) (hi := hi) (tx := tx) (sh := sh) (tp := tp) (R := R) hj
  rw [ht] at ho hit
  intro n
  induction n with
  | zero =>
    intro c hi
    have hi : c = 8 := by omega
    subst hi
    refine s_iload dX7_judge_40 rfl ?_
    refine s_bipush (v := 8) dX7_judge_42 rfl ?_
    refine s_icmp_ge (tgt := 106) dX7_judge_44 (by decide) (fun hz => ?_) (fun hqz => absurd (by decide) hqz)
    clear hz
    refine s_bipush (v := (-5)) dX7_judge_106 rfl ?_
    exact s_iret dX7_judge_108 rfl ⟨rfl, rfl⟩ (by first | exact wXlen | rfl)
  | succ n ih =>
    intro c hi
    have hm : c < 8 := by omega
    by_cases hq : z ≤ p + c
    · rw [show kJU it z b p (n + 1) c = nI (100 + c) from by rw [kJU, if_pos hq]]
      refine s_iload dX7_judge_40 rfl ?_
      refine s_bipush (v := 8) dX7_judge_42 rfl ?_
      refine s_icmp_ge (tgt := 106) dX7_judge_44 (by decide) (fun hqz => absurd hqz (nI_ge hm (by decide))) (fun hz => ?_)
      clear hz
      refine s_aload_n dX7_judge_47 rfl ?_
      refine s_iload_n dX7_judge_48 rfl ?_
      refine s_cv1 dX7_judge_49 g_X7_245 (c_X5_hasPlace ho) (by first | assumption | rfl) rfl rfl rfl rfl (Nat.le_of_ble_eq_true rfl) (Nat.le_of_ble_eq_true rfl) rfl ?_
      refine s_if_eq (tgt := 66) dX7_judge_52 (by decide) (fun hqz => absurd hqz (by rw [zhp hp hz]; decide)) (fun hz => ?_)
      clear hz
      refine s_aload_n dX7_judge_55 rfl ?_
      refine s_iload_n dX7_judge_56 rfl ?_
      refine s_iload dX7_judge_57 rfl ?_
      refine s_iadd dX7_judge_59 ?_
      rw [nI_add]
      refine s_cv1 dX7_judge_60 g_X7_245 (c_X5_hasPlace ho) (by first | assumption | rfl) rfl rfl rfl rfl (Nat.le_of_ble_eq_true rfl) (Nat.le_of_ble_eq_true rfl) rfl ?_
      refine s_if_ne (tgt := 72) dX7_judge_63 (by decide) (fun hqz => absurd (zhpN (Or.inr (nI_le hq (by omega)))) hqz) (fun hz => ?_)
      clear hz
      refine s_bipush (v := 100) dX7_judge_66 rfl ?_
      refine s_iload dX7_judge_68 rfl ?_
      refine s_iadd dX7_judge_70 ?_
      exact s_iret dX7_judge_71 rfl ⟨by rw [show (100 : Int32) = nI 100 from rfl, nI_add], rfl⟩ (by first | exact wXlen | rfl)
    · by_cases hv : it (p + c) = (nI (zb b c)).toInt64
      · rw [show kJU it z b p (n + 1) c = kJU it z b p n (c + 1) from by rw [kJU, if_neg hq, if_pos hv]]
        refine s_iload dX7_judge_40 rfl ?_
        refine s_bipush (v := 8) dX7_judge_42 rfl ?_
        refine s_icmp_ge (tgt := 106) dX7_judge_44 (by decide) (fun hqz => absurd hqz (nI_ge hm (by decide))) (fun hz => ?_)
        clear hz
        refine s_aload_n dX7_judge_47 rfl ?_
        refine s_iload_n dX7_judge_48 rfl ?_
        refine s_cv1 dX7_judge_49 g_X7_245 (c_X5_hasPlace ho) (by first | assumption | rfl) rfl rfl rfl rfl (Nat.le_of_ble_eq_true rfl) (Nat.le_of_ble_eq_true rfl) rfl ?_
        refine s_if_eq (tgt := 66) dX7_judge_52 (by decide) (fun hqz => absurd hqz (by rw [zhp hp hz]; decide)) (fun hz => ?_)
        clear hz
        refine s_aload_n dX7_judge_55 rfl ?_
        refine s_iload_n dX7_judge_56 rfl ?_
        refine s_iload dX7_judge_57 rfl ?_
        refine s_iadd dX7_judge_59 ?_
        rw [nI_add]
        refine s_cv1 dX7_judge_60 g_X7_245 (c_X5_hasPlace ho) (by first | assumption | rfl) rfl rfl rfl rfl (Nat.le_of_ble_eq_true rfl) (Nat.le_of_ble_eq_true rfl) rfl ?_
        refine s_if_ne (tgt := 72) dX7_judge_63 (by decide) (fun hz => ?_) (fun hqz => absurd hqz (by rw [zhp (show p + c < z by omega) hz]; decide))
        clear hz
        refine s_aload_n dX7_judge_72 rfl ?_
        refine s_iload_n dX7_judge_73 rfl ?_
        refine s_iload dX7_judge_74 rfl ?_
        refine s_iadd dX7_judge_76 ?_
        rw [nI_add]
        refine s_cv1 dX7_judge_77 g_X7_248 (c_X5_itemAt ho hit (show p + c < z by omega) hz) (by first | assumption | rfl) rfl rfl rfl rfl (Nat.le_of_ble_eq_true rfl) (Nat.le_of_ble_eq_true rfl) rfl ?_
        refine s_aload_n dX7_judge_80 rfl ?_
        refine s_get dX7_judge_81 f_X7_14 (by first | assumption | rfl) (by rfl) ?_
        refine s_get dX7_judge_84 f_X7_53 (by first | assumption | rfl) (by rfl) ?_
        refine s_iload dX7_judge_87 rfl ?_
        refine s_cs1 dX7_judge_89 g_X7_57 (c_X7_bitOfN (by omega) (by omega)) rfl rfl (Nat.le_of_ble_eq_true rfl) (Nat.le_of_ble_eq_true rfl) rfl ?_
        refine s_i2l dX7_judge_92 rfl ?_
        refine s_lcmp dX7_judge_93 ?_
        refine s_if_eq (tgt := 100) dX7_judge_94 (by decide) (fun hz => ?_) (fun hqz => absurd (zlcmpE.mpr hv) hqz)
        clear hz
        refine s_iinc (nI (c + 1)) dX7_judge_100 rfl (nI_1 _) (Nat.le_of_ble_eq_true rfl) rfl ?_
        refine s_goto (tgt := 40) dX7_judge_103 (by decide) ?_
        exact ih (c + 1) (by omega)
      · rw [show kJU it z b p (n + 1) c = nI c from by rw [kJU, if_neg hq, if_neg hv]]
        refine s_iload dX7_judge_40 rfl ?_
        refine s_bipush (v := 8) dX7_judge_42 rfl ?_
        refine s_icmp_ge (tgt := 106) dX7_judge_44 (by decide) (fun hqz => absurd hqz (nI_ge hm (by decide))) (fun hz => ?_)
        clear hz
        refine s_aload_n dX7_judge_47 rfl ?_
        refine s_iload_n dX7_judge_48 rfl ?_
        refine s_cv1 dX7_judge_49 g_X7_245 (c_X5_hasPlace ho) (by first | assumption | rfl) rfl rfl rfl rfl (Nat.le_of_ble_eq_true rfl) (Nat.le_of_ble_eq_true rfl) rfl ?_
        refine s_if_eq (tgt := 66) dX7_judge_52 (by decide) (fun hqz => absurd hqz (by rw [zhp hp hz]; decide)) (fun hz => ?_)
        clear hz
        refine s_aload_n dX7_judge_55 rfl ?_
        refine s_iload_n dX7_judge_56 rfl ?_
        refine s_iload dX7_judge_57 rfl ?_
        refine s_iadd dX7_judge_59 ?_
        rw [nI_add]
        refine s_cv1 dX7_judge_60 g_X7_245 (c_X5_hasPlace ho) (by first | assumption | rfl) rfl rfl rfl rfl (Nat.le_of_ble_eq_true rfl) (Nat.le_of_ble_eq_true rfl) rfl ?_
        refine s_if_ne (tgt := 72) dX7_judge_63 (by decide) (fun hz => ?_) (fun hqz => absurd hqz (by rw [zhp (show p + c < z by omega) hz]; decide))
        clear hz
        refine s_aload_n dX7_judge_72 rfl ?_
        refine s_iload_n dX7_judge_73 rfl ?_
        refine s_iload dX7_judge_74 rfl ?_
        refine s_iadd dX7_judge_76 ?_
        rw [nI_add]
        refine s_cv1 dX7_judge_77 g_X7_248 (c_X5_itemAt ho hit (show p + c < z by omega) hz) (by first | assumption | rfl) rfl rfl rfl rfl (Nat.le_of_ble_eq_true rfl) (Nat.le_of_ble_eq_true rfl) rfl ?_
        refine s_aload_n dX7_judge_80 rfl ?_
        refine s_get dX7_judge_81 f_X7_14 (by first | assumption | rfl) (by rfl) ?_
        refine s_get dX7_judge_84 f_X7_53 (by first | assumption | rfl) (by rfl) ?_
        refine s_iload dX7_judge_87 rfl ?_
        refine s_cs1 dX7_judge_89 g_X7_57 (c_X7_bitOfN (by omega) (by omega)) rfl rfl (Nat.le_of_ble_eq_true rfl) (Nat.le_of_ble_eq_true rfl) rfl ?_
        refine s_i2l dX7_judge_92 rfl ?_
        refine s_lcmp dX7_judge_93 ?_
        refine s_if_eq (tgt := 100) dX7_judge_94 (by decide) (fun hqz => absurd hqz (fun q => hv (zlcmpE.mp q))) (fun hz => ?_)
        clear hz
        refine s_iload dX7_judge_97 rfl ?_
        exact s_iret dX7_judge_99 rfl ⟨rfl, rfl⟩ (by first | exact wXlen | rfl)
set_option maxHeartbeats 4000000 in
set_option maxRecDepth 100000 in
theorem x_judge {Z : zS} {d : Nat} {b k : Nat} {rs re rb : zRw} {th : zHd} {hi : Int32} {tx : zTx} {sh : zSh} {tp : zTs} {R : zW} {j p z : Nat} {it : Nat → Int64} (hj : j < 6) (ht : tpg tp j = (it, 4, nI z)) (hz : z ≤ 60) (hp : p < z) (hb : b < 256) : zF Z M_X7_judge (d + 2) [.ref 0, .int (nI j), .int (nI p)] (wX (nI b, nI k, rs, re, rb) th hi tx sh tp ++ R) [.int (kJU it z b p 8 0)] (wX (nI b, nI k, rs, re, rb) th hi tx sh tp ++ R) := by
  have ho := wXo (hd := (nI b, nI k, rs, re, rb)) (th := th) (hi := hi) (tx := tx) (sh := sh) (tp := tp) (R := R) hj
  have hit := wXi (hd := (nI b, nI k, rs, re, rb)) (th := th) (hi := hi) (tx := tx) (sh := sh) (tp := tp) (R := R) hj
  rw [ht] at ho hit
  unfold zF
  rw [wXlen]
  show zG Z M_X7_judge (d + 2) _ (R.length + 41) 0 [(0, .ref 0), (1, .int (nI j)), (2, .int (nI p))] [] (wX (nI b, nI k, rs, re, rb) th hi tx sh tp ++ R)
  refine s_iload_n dX7_judge_0 rfl ?_
  refine s_cs1 dX7_judge_1 g_X7_235 (c_X7_isTape) rfl rfl (Nat.le_of_ble_eq_true rfl) (Nat.le_of_ble_eq_true rfl) rfl ?_
  refine s_if_ne (tgt := 9) dX7_judge_4 (by decide) (fun hz => ?_) (fun hqz => absurd hqz (zrY (n := 6) hj (by decide)))
  clear hz
  refine s_aload_n dX7_judge_9 rfl ?_
  refine s_get dX7_judge_10 f_X7_41 (by first | assumption | rfl) (by rfl) ?_
  refine s_iload_n dX7_judge_13 rfl ?_
  refine s_aald dX7_judge_14 (by first | assumption | rfl) (zrd (n := 6) hj (by decide)) (hTA hj) ?_
  refine s_astore_n dX7_judge_15 (Nat.le_of_ble_eq_true rfl) rfl ?_
  refine s_aload_n dX7_judge_16 rfl ?_
  refine s_cv1 dX7_judge_17 g_X7_238 (c_X5_holdsRow ho) (by first | assumption | rfl) rfl rfl rfl rfl (Nat.le_of_ble_eq_true rfl) (Nat.le_of_ble_eq_true rfl) rfl ?_
  refine s_if_ne (tgt := 26) dX7_judge_20 (by decide) (fun hz => ?_) (fun hqz => absurd hqz (show ¬ (if (4 : Int32) = -1 then (0 : Int32) else 1) = 0 by decide))
  clear hz
  refine s_aload_n dX7_judge_26 rfl ?_
  refine s_get dX7_judge_27 f_X7_242 (by first | assumption | rfl) (by rfl) ?_
  refine s_iconst (v := 4) dX7_judge_30 rfl ?_
  refine s_icmp_eq (tgt := 37) dX7_judge_31 (by decide) (fun hz => ?_) (fun hqz => absurd rfl hqz)
  clear hz
  refine s_iconst (v := 0) dX7_judge_37 rfl ?_
  refine s_istore dX7_judge_38 (Nat.le_of_ble_eq_true rfl) rfl ?_
  exact l_judge hj ht hz hp hb 8 0 rfl
