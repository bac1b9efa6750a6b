/-! ===== the model: floats, odds, rows ===== -/
set_option maxHeartbeats 4000000 in
set_option maxRecDepth 100000 in
theorem l_X8_centre {Z : zS} {d : Nat} {w : zW} {b k : Nat} {mf ma mc ms me mq mu mh mp : Int32} (ho : w[41]? = some (oM (nI b) (nI k) mf ma mc ms me mq mu mh mp)) (hb : b < 256) {ax : Nat} (hax : ax < 3) (hp : pPOP b ≠ 0) : ∀ (n : Nat) (i s : Nat), i + n = 8 → s ≤ i → zG Z M_X8_centre (d + 1) (fun r1 w1 => r1 = [.float (zCQ (pSUML b ax n i s) (pPOP b))] ∧ w1 = w) w.length 4 [(0, .ref 41), (1, .int (nI ax)), (2, .float (zFI s)), (3, .int (nI i))] [] w := by
  intro n
  induction n with
  | zero =>
    intro i s hi hs
    have hi : i = 8 := by omega
    subst hi
    refine s_iload_n dX8_centre_4 rfl ?_
    refine s_bipush (v := 8) dX8_centre_5 rfl ?_
    refine s_icmp_ge (tgt := 37) dX8_centre_7 (by decide) (fun hz => ?_) (fun hqz => absurd (by decide) hqz)
    clear hz
    refine s_fload_n dX8_centre_37 rfl ?_
    refine s_aload_n dX8_centre_38 rfl ?_
    refine s_get dX8_centre_39 f_X8_125 (by assumption) (by rfl) ?_
    refine s_cs1 dX8_centre_42 g_X8_105 (c_X8_bits hb) rfl rfl (Nat.le_of_ble_eq_true rfl) (Nat.le_of_ble_eq_true rfl) rfl ?_
    refine s_i2f dX8_centre_45 ?_
    refine s_fdiv dX8_centre_46 (q_fd s (by omega) (pPOP b) (by have := pPOP_le b; omega) hp) ?_
    exact s_fret dX8_centre_47 rfl ⟨rfl, rfl⟩ rfl
  | succ n ih =>
    intro i s hi hs
    have hm : i < 8 := by omega
    refine s_iload_n dX8_centre_4 rfl ?_
    refine s_bipush (v := 8) dX8_centre_5 rfl ?_
    refine s_icmp_ge (tgt := 37) dX8_centre_7 (by decide) (fun hqz => absurd hqz (nI_ge hm (by decide))) (fun hz => ?_)
    clear hz
    refine s_aload_n dX8_centre_10 rfl ?_
    refine s_get dX8_centre_11 f_X8_125 (by assumption) (by rfl) ?_
    refine s_iload_n dX8_centre_14 rfl ?_
    refine s_ishr dX8_centre_15 ?_
    refine s_iconst (v := 1) dX8_centre_16 rfl ?_
    refine s_iand dX8_centre_17 ?_
    rw [zbit (by omega) (by omega)]
    refine s_iconst (v := 1) dX8_centre_18 rfl ?_
    refine s_icmp_ne (tgt := 31) dX8_centre_19 (by decide) (fun h_19 => ?_) (fun h_19 => ?_)
    · refine s_iinc (nI (i + 1)) dX8_centre_31 rfl (nI_1 _) (Nat.le_of_ble_eq_true rfl) rfl ?_
      refine s_goto (tgt := 4) dX8_centre_34 (by decide) ?_
      first
        | (have hz : zb b i = 1 := (zn1 (zbL b i)).mp h_19
           rw [show pSUML b ax (n + 1) i s = pSUML b ax n (i + 1) (s + zb i ax) from by rw [pSUML, if_pos hz]]
           refine (show FP.fadd (zFI s) (FP.i2f (nI (zb i ax))) = zFI (s + zb i ax) from (q_f1 s (by omega) _ (zb_lt i ax)).1) ▸ ?_
           exact ih (i + 1) _ (by omega) (by have := zb_lt i ax; omega))
        | (have hz : ¬ zb b i = 1 := fun z => h_19 ((zn1 (zbL b i)).mpr z)
           rw [show pSUML b ax (n + 1) i s = pSUML b ax n (i + 1) s from by rw [pSUML, if_neg hz]]
           exact ih (i + 1) _ (by omega) (by omega))
    · refine s_fload_n dX8_centre_22 rfl ?_
      refine s_iload_n dX8_centre_23 rfl ?_
      refine s_iload_n dX8_centre_24 rfl ?_
      refine s_ishr dX8_centre_25 ?_
      refine s_iconst (v := 1) dX8_centre_26 rfl ?_
      refine s_iand dX8_centre_27 ?_
      rw [zbit (by omega) (by omega)]
      refine s_i2f dX8_centre_28 ?_
      refine s_fadd dX8_centre_29 (q_f1 s (by omega) _ (zb_lt i ax)).2 ?_
      refine s_fstore_n dX8_centre_30 (Nat.le_of_ble_eq_true rfl) rfl ?_
      refine s_iinc (nI (i + 1)) dX8_centre_31 rfl (nI_1 _) (Nat.le_of_ble_eq_true rfl) rfl ?_
      refine s_goto (tgt := 4) dX8_centre_34 (by decide) ?_
      first
        | (have hz : zb b i = 1 := (zn1 (zbL b i)).mp h_19
           rw [show pSUML b ax (n + 1) i s = pSUML b ax n (i + 1) (s + zb i ax) from by rw [pSUML, if_pos hz]]
           refine (show FP.fadd (zFI s) (FP.i2f (nI (zb i ax))) = zFI (s + zb i ax) from (q_f1 s (by omega) _ (zb_lt i ax)).1) ▸ ?_
           exact ih (i + 1) _ (by omega) (by have := zb_lt i ax; omega))
        | (have hz : ¬ zb b i = 1 := fun z => h_19 ((zn1 (zbL b i)).mpr z)
           rw [show pSUML b ax (n + 1) i s = pSUML b ax n (i + 1) s from by rw [pSUML, if_neg hz]]
           exact ih (i + 1) _ (by omega) (by omega))
theorem q_p0 : ∀ b, b < 256 → b ≠ 0 → pPOP b ≠ 0 := by decide +kernel
set_option maxHeartbeats 4000000 in
set_option maxRecDepth 100000 in
theorem c_X8_centre {Z : zS} {d : Nat} {w : zW} {b k : Nat} {mf ma mc ms me mq mu mh mp : Int32} (ho : w[41]? = some (oM (nI b) (nI k) mf ma mc ms me mq mu mh mp)) (hb : b < 256) {ax : Nat} (hax : ax < 3) (hb0 : b ≠ 0) : zF Z M_X8_centre (d + 1) [.ref 41, .int (nI ax)] w [.float (pCEN b ax)] w := by
  show zG Z M_X8_centre (d + 1) _ _ 0 [(0, .ref 41), (1, .int (nI ax))] [] w
  have hp := q_p0 b hb hb0
  rw [pCEN, if_neg hp]
  refine s_fconst0 dX8_centre_0 ?_
  refine s_fstore_n dX8_centre_1 (Nat.le_of_ble_eq_true rfl) rfl ?_
  refine s_iconst (v := 0) dX8_centre_2 rfl ?_
  refine s_istore_n dX8_centre_3 (Nat.le_of_ble_eq_true rfl) rfl ?_
  exact l_X8_centre ho hb hax hp 8 0 0 rfl (Nat.le_refl _)
set_option maxHeartbeats 4000000 in
set_option maxRecDepth 100000 in
theorem c_X8_fat {Z : zS} {d : Nat} {w : zW} {b k : Nat} {mf ma mc ms me mq mu mh mp : Int32} (ho : w[41]? = some (oM (nI b) (nI k) mf ma mc ms me mq mu mh mp)) (hb : b < 256) (h1 : ¬ kLW b = 0 → vf_n32 (kFQ b) ∧ vf_n32 (FP.fdiv (kFQ b) (FP.i2f (kLW b)))) : zF Z M_X8_fat (d + 7) [.ref 41] w [.float (kFAT b)] w := by
  show zG Z M_X8_fat (d + 7) _ w.length 0 [(0, .ref 41)] [] w
  by_cases h0 : kLW b = 0
  · refine s_aload_n dX8_fat_0 rfl ?_
    refine s_get dX8_fat_1 f_X8_125 (by first | assumption | exact zgs (zlt ho) | exact zg1 (by assumption) (by decide)) (by rfl) ?_
    refine s_cs1 dX8_fat_4 g_X8_198 (c_X8_width hb) rfl rfl (Nat.le_of_ble_eq_true rfl) (Nat.le_of_ble_eq_true rfl) rfl ?_
    refine s_istore_n dX8_fat_7 (Nat.le_of_ble_eq_true rfl) rfl ?_
    refine s_iload_n dX8_fat_8 rfl ?_
    refine s_if_ne (tgt := 16) dX8_fat_9 (by decide) (fun hqz => absurd h0 hqz) (fun hz => ?_)
    clear hz
    refine s_fconst0 dX8_fat_12 ?_
    refine s_goto (tgt := 30) dX8_fat_13 (by decide) ?_
    exact s_fret dX8_fat_30 rfl ⟨by rw [kFAT, if_pos h0], rfl⟩ (by first | rfl | exact List.length_set)
  · refine s_aload_n dX8_fat_0 rfl ?_
    refine s_get dX8_fat_1 f_X8_125 (by first | assumption | exact zgs (zlt ho) | exact zg1 (by assumption) (by decide)) (by rfl) ?_
    refine s_cs1 dX8_fat_4 g_X8_198 (c_X8_width hb) rfl rfl (Nat.le_of_ble_eq_true rfl) (Nat.le_of_ble_eq_true rfl) rfl ?_
    refine s_istore_n dX8_fat_7 (Nat.le_of_ble_eq_true rfl) rfl ?_
    refine s_iload_n dX8_fat_8 rfl ?_
    refine s_if_ne (tgt := 16) dX8_fat_9 (by decide) (fun hz => ?_) (fun hqz => absurd hqz h0)
    clear hz
    refine s_aload_n dX8_fat_16 rfl ?_
    refine s_get dX8_fat_17 f_X8_125 (by first | assumption | exact zgs (zlt ho) | exact zg1 (by assumption) (by decide)) (by rfl) ?_
    refine s_cs1 dX8_fat_20 g_X8_195 (c_X8_sixfold hb) rfl rfl (Nat.le_of_ble_eq_true rfl) (Nat.le_of_ble_eq_true rfl) rfl ?_
    refine s_i2f dX8_fat_23 ?_
    refine s_ldcf (v := (1086324736)) dX8_fat_24 (zin 945 (by decide +kernel) (by decide +kernel)) ?_
    refine s_fdiv dX8_fat_26 (h1 h0).1 ?_
    refine s_iload_n dX8_fat_27 rfl ?_
    refine s_i2f dX8_fat_28 ?_
    refine s_fdiv dX8_fat_29 (h1 h0).2 ?_
    exact s_fret dX8_fat_30 rfl ⟨by rw [kFAT, if_neg h0]; rfl, rfl⟩ (by first | rfl | exact List.length_set)
set_option maxHeartbeats 4000000 in
set_option maxRecDepth 100000 in
theorem y_floats1 {Z : zS} {d : Nat} {w : zW} {b k : Nat} {mf ma mc ms me mq mu mh mp : Int32} (ho : w[41]? = some (oM (nI b) (nI k) mf ma mc ms me mq mu mh mp)) (hb : b < 256) {c : Int32} (hc : c < 0 ∨ 4 ≤ c) : zF Z M_X8_floats (d + 1) [.ref 41, .int c] w [.int (-1)] w := by
  show zG Z M_X8_floats (d + 1) _ _ 0 [(0, .ref 41), (1, .int c)] [] w
  refine s_iload_n dX8_floats_0 rfl ?_
  refine s_iconst (v := 0) dX8_floats_1 rfl ?_
  refine s_iconst (v := 3) dX8_floats_2 rfl ?_
  refine s_cs1 dX8_floats_3 g_X8_5 (c_X8_isIn) rfl rfl (Nat.le_of_ble_eq_true rfl) (Nat.le_of_ble_eq_true rfl) rfl ?_
  refine s_if_ne (tgt := 11) dX8_floats_6 (by decide) (fun hqz => absurd (miN (n := 3) (by decide) hc) hqz) (fun hz => ?_)
  clear hz
  refine s_iconst (v := (-1)) dX8_floats_9 rfl ?_
  exact s_iret dX8_floats_10 rfl ⟨rfl, rfl⟩ (by first | rfl | exact List.length_set)
set_option maxHeartbeats 4000000 in
set_option maxRecDepth 100000 in
theorem y_floats2 {Z : zS} {d : Nat} {w : zW} {b k : Nat} {mf ma mc ms me mq mu mh mp : Int32} (ho : w[41]? = some (oM (nI b) (nI k) mf ma mc ms me mq mu mh mp)) (hb : b < 256) {t : Nat} (ht : t < 4) (hb0 : b = 0) : zF Z M_X8_floats (d + 1) [.ref 41, .int (nI t)] w [.int (-3)] w := by
  show zG Z M_X8_floats (d + 1) _ _ 0 [(0, .ref 41), (1, .int (nI t))] [] w
  refine s_iload_n dX8_floats_0 rfl ?_
  refine s_iconst (v := 0) dX8_floats_1 rfl ?_
  refine s_iconst (v := 3) dX8_floats_2 rfl ?_
  refine s_cs1 dX8_floats_3 g_X8_5 (c_X8_isIn) rfl rfl (Nat.le_of_ble_eq_true rfl) (Nat.le_of_ble_eq_true rfl) rfl ?_
  refine s_if_ne (tgt := 11) dX8_floats_6 (by decide) (fun hz => ?_) (fun hqz => absurd hqz (miY (n := 3) (by omega) (by decide)))
  clear hz
  refine s_aload_n dX8_floats_11 rfl ?_
  refine s_get dX8_floats_12 f_X8_125 (by first | assumption | exact zgs (zlt ho) | exact zg1 (by assumption) (by decide)) (by rfl) ?_
  refine s_if_ne (tgt := 23) dX8_floats_15 (by decide) (fun hqz => absurd (by rw [hb0]; rfl) hqz) (fun hz => ?_)
  clear hz
  refine s_bipush (v := (-3)) dX8_floats_18 rfl ?_
  refine s_goto (tgt := 43) dX8_floats_20 (by decide) ?_
  exact s_iret dX8_floats_43 rfl ⟨rfl, rfl⟩ (by first | rfl | exact List.length_set)
set_option maxHeartbeats 4000000 in
set_option maxRecDepth 100000 in
theorem y_floats {Z : zS} {d : Nat} {w : zW} {b k : Nat} {mf ma mc ms me mq mu mh mp : Int32} (ho : w[41]? = some (oM (nI b) (nI k) mf ma mc ms me mq mu mh mp)) (hb : b < 256) {t : Nat} (ht : t < 3) (hb0 : b ≠ 0) (hv : Op.cmpValue (FP.fcmp (pCEN b t) (pCEN b t)) .l = 0) : zF Z M_X8_floats (d + 2) [.ref 41, .int (nI t)] w [.int (pCEN b t).toInt32] w := by
  show zG Z M_X8_floats (d + 2) _ _ 0 [(0, .ref 41), (1, .int (nI t))] [] w
  refine s_iload_n dX8_floats_0 rfl ?_
  refine s_iconst (v := 0) dX8_floats_1 rfl ?_
  refine s_iconst (v := 3) dX8_floats_2 rfl ?_
  refine s_cs1 dX8_floats_3 g_X8_5 (c_X8_isIn) rfl rfl (Nat.le_of_ble_eq_true rfl) (Nat.le_of_ble_eq_true rfl) rfl ?_
  refine s_if_ne (tgt := 11) dX8_floats_6 (by decide) (fun hz => ?_) (fun hqz => absurd hqz (miY (n := 3) (by omega) (by decide)))
  clear hz
  refine s_aload_n dX8_floats_11 rfl ?_
  refine s_get dX8_floats_12 f_X8_125 (by first | assumption | exact zgs (zlt ho) | exact zg1 (by assumption) (by decide)) (by rfl) ?_
  refine s_if_ne (tgt := 23) dX8_floats_15 (by decide) (fun hz => ?_) (fun hqz => absurd hqz (fun q => hb0 ((zn0 (by omega)).mp q)))
  clear hz
  refine s_iload_n dX8_floats_23 rfl ?_
  refine s_iconst (v := 3) dX8_floats_24 rfl ?_
  refine s_icmp_ne (tgt := 35) dX8_floats_25 (by decide) (fun hz => ?_) (fun hqz => absurd hqz (fun z => absurd ((nI_eq (b := 3) (by omega) (by decide)).mp z) (by omega)))
  clear hz
  refine s_aload_n dX8_floats_35 rfl ?_
  refine s_iload_n dX8_floats_36 rfl ?_
  refine s_cv1 dX8_floats_37 g_X8_206 (c_X8_centre ho hb ht hb0) (by first | assumption | exact zgs (zlt ho) | exact zg1 (by assumption) (by decide)) rfl rfl rfl rfl (Nat.le_of_ble_eq_true rfl) (Nat.le_of_ble_eq_true rfl) rfl ?_
  refine s_cs1 dX8_floats_40 g_X8_210 (c_Jxf58ca_floatToIntBits_5c35a hv) rfl rfl (Nat.le_of_ble_eq_true rfl) (Nat.le_of_ble_eq_true rfl) rfl ?_
  exact s_iret dX8_floats_43 rfl ⟨rfl, rfl⟩ (by first | rfl | exact List.length_set)
set_option maxHeartbeats 4000000 in
set_option maxRecDepth 100000 in
theorem y_floats_fat {Z : zS} {d : Nat} {w : zW} {b k : Nat} {mf ma mc ms me mq mu mh mp : Int32} (ho : w[41]? = some (oM (nI b) (nI k) mf ma mc ms me mq mu mh mp)) (hb : b < 256) (hb0 : b ≠ 0) (h1 : ¬ kLW b = 0 → vf_n32 (kFQ b) ∧ vf_n32 (FP.fdiv (kFQ b) (FP.i2f (kLW b)))) (hv : Op.cmpValue (FP.fcmp (kFAT b) (kFAT b)) .l = 0) : zF Z M_X8_floats (d + 8) [.ref 41, .int (nI 3)] w [.int (kFAT b).toInt32] w := by
  show zG Z M_X8_floats (d + 8) _ _ 0 [(0, .ref 41), (1, .int (nI 3))] [] w
  refine s_iload_n dX8_floats_0 rfl ?_
  refine s_iconst (v := 0) dX8_floats_1 rfl ?_
  refine s_iconst (v := 3) dX8_floats_2 rfl ?_
  refine s_cs1 dX8_floats_3 g_X8_5 (c_X8_isIn) rfl rfl (Nat.le_of_ble_eq_true rfl) (Nat.le_of_ble_eq_true rfl) rfl ?_
  refine s_if_ne (tgt := 11) dX8_floats_6 (by decide) (fun hz => ?_) (fun hqz => absurd hqz (by decide))
  clear hz
  refine s_aload_n dX8_floats_11 rfl ?_
  refine s_get dX8_floats_12 f_X8_125 (by first | assumption | exact zgs (zlt ho) | exact zg1 (by assumption) (by decide)) (by rfl) ?_
  refine s_if_ne (tgt := 23) dX8_floats_15 (by decide) (fun hz => ?_) (fun hqz => absurd hqz (fun q => hb0 ((zn0 (by omega)).mp q)))
  clear hz
  refine s_iload_n dX8_floats_23 rfl ?_
  refine s_iconst (v := 3) dX8_floats_24 rfl ?_
  refine s_icmp_ne (tgt := 35) dX8_floats_25 (by decide) (fun hqz => absurd rfl hqz) (fun hz => ?_)
  clear hz
  refine s_aload_n dX8_floats_28 rfl ?_
  refine s_cv1 dX8_floats_29 g_X8_202 (c_X8_fat ho hb h1) (by first | assumption | exact zgs (zlt ho) | exact zg1 (by assumption) (by decide)) rfl rfl rfl rfl (Nat.le_of_ble_eq_true rfl) (Nat.le_of_ble_eq_true rfl) rfl ?_
  refine s_goto (tgt := 40) dX8_floats_32 (by decide) ?_
  refine s_cs1 dX8_floats_40 g_X8_210 (c_Jxf58ca_floatToIntBits_5c35a hv) rfl rfl (Nat.le_of_ble_eq_true rfl) (Nat.le_of_ble_eq_true rfl) rfl ?_
  exact s_iret dX8_floats_43 rfl ⟨rfl, rfl⟩ (by first | rfl | exact List.length_set)
set_option maxHeartbeats 4000000 in
set_option maxRecDepth 100000 in
theorem l_X8_spread {Z : zS} {d : Nat} {w : zW} {b k : Nat} {mf ma mc ms me mq mu mh mp : Int32} (ho : w[41]? = some (oM (nI b) (nI k) mf ma mc ms me mq mu mh mp)) (hb : b < 256) (hb0 : b ≠ 0) (hv : Op.cmpValue (FP.dcmp (pSPL b 3 0 FP.dconst0) (pSPL b 3 0 FP.dconst0)) .l = 0) : ∀ (n i : Nat) (a : UInt64), i + n = 3 → pSPO b n i a = true → pSPL b n i a = pSPL b 3 0 FP.dconst0 → zG Z M_X8_spread (d + 2) (fun r1 w1 => r1 = [.long (pSPL b 3 0 FP.dconst0).toInt64] ∧ w1 = w) w.length 15 [(0, .ref 41), (1, .double a), (3, .int (nI i))] [] w := by
  intro n
  induction n with
  | zero =>
    intro i a hi hO he
    have hi : i = 3 := by omega
    subst hi
    have he : a = pSPL b 3 0 FP.dconst0 := he
    subst he
    refine s_iload_n dX8_spread_15 rfl ?_
    refine s_iconst (v := 3) dX8_spread_16 rfl ?_
    refine s_icmp_ge (tgt := 46) dX8_spread_17 (by decide) (fun hz => ?_) (fun hqz => absurd (by decide) hqz)
    clear hz
    refine s_dload_n dX8_spread_46 rfl ?_
    refine s_cs1 dX8_spread_47 g_X8_220 (c_Jxe99ae_doubleToLongBits_ccdee hv) rfl rfl (Nat.le_of_ble_eq_true rfl) (Nat.le_of_ble_eq_true rfl) rfl ?_
    exact s_lret dX8_spread_50 rfl ⟨rfl, rfl⟩ (by first | rfl | exact List.length_set)
  | succ n ih =>
    intro i a hi hO he
    have hm : i < 3 := by omega
    rw [pSPO, Bool.and_eq_true, Bool.and_eq_true, Bool.and_eq_true, Bool.and_eq_true] at hO
    obtain ⟨o1, o2, o3, o4, o5⟩ := hO
    refine s_iload_n dX8_spread_15 rfl ?_
    refine s_iconst (v := 3) dX8_spread_16 rfl ?_
    refine s_icmp_ge (tgt := 46) dX8_spread_17 (by decide) (fun hqz => absurd hqz (nI_ge hm (by decide))) (fun hz => ?_)
    clear hz
    refine s_aload_n dX8_spread_20 rfl ?_
    refine s_iload_n dX8_spread_21 rfl ?_
    refine s_cv1 dX8_spread_22 g_X8_206 (c_X8_centre ho hb hm hb0) (by first | assumption | exact zgs (zlt ho) | exact zg1 (by assumption) (by decide)) rfl rfl rfl rfl (Nat.le_of_ble_eq_true rfl) (Nat.le_of_ble_eq_true rfl) rfl ?_
    refine s_f2d dX8_spread_25 (zn64_t o1) ?_
    refine s_ldc2d (v := (4602678819172646912)) dX8_spread_26 (zin 965 (by decide +kernel) (by decide +kernel)) ?_
    refine s_dsub dX8_spread_29 (zn64_t o2) ?_
    refine s_dstore dX8_spread_30 (Nat.le_of_ble_eq_true rfl) rfl ?_
    refine s_dload_n dX8_spread_32 rfl ?_
    refine s_dload dX8_spread_33 rfl ?_
    refine s_dload dX8_spread_35 rfl ?_
    refine s_dmul dX8_spread_37 (zn64_t o3) ?_
    refine s_dadd dX8_spread_38 (zn64_t o4) ?_
    refine s_dstore_n dX8_spread_39 (Nat.le_of_ble_eq_true rfl) rfl ?_
    refine s_iinc (nI (i + 1)) dX8_spread_40 rfl (nI_1 _) (Nat.le_of_ble_eq_true rfl) rfl ?_
    refine s_goto (tgt := 15) dX8_spread_43 (by decide) ?_
    refine s_take 3 ?_
    exact ih (i + 1) _ (by omega) o5 he
set_option maxHeartbeats 4000000 in
set_option maxRecDepth 100000 in
theorem y_spread1 {Z : zS} {d : Nat} {w : zW} {b k : Nat} {mf ma mc ms me mq mu mh mp : Int32} (ho : w[41]? = some (oM (nI b) (nI k) mf ma mc ms me mq mu mh mp)) (hb : b < 256) (hb0 : b = 0) : zF Z M_X8_spread (d) [.ref 41] w [.long (-9223372036854775808)] w := by
  show zG Z M_X8_spread (d) _ _ 0 [(0, .ref 41)] [] w
  refine s_aload_n dX8_spread_0 rfl ?_
  refine s_get dX8_spread_1 f_X8_125 (by first | assumption | exact zgs (zlt ho) | exact zg1 (by assumption) (by decide)) (by rfl) ?_
  refine s_if_ne (tgt := 11) dX8_spread_4 (by decide) (fun hqz => absurd (by rw [hb0]; rfl) hqz) (fun hz => ?_)
  clear hz
  refine s_ldc2 (v := (-9223372036854775808)) dX8_spread_7 (zin 964 (by decide +kernel) (by decide +kernel)) ?_
  exact s_lret dX8_spread_10 rfl ⟨rfl, rfl⟩ (by first | rfl | exact List.length_set)
set_option maxHeartbeats 4000000 in
set_option maxRecDepth 100000 in
theorem y_spread {Z : zS} {d : Nat} {w : zW} {b k : Nat} {mf ma mc ms me mq mu mh mp : Int32} (ho : w[41]? = some (oM (nI b) (nI k) mf ma mc ms me mq mu mh mp)) (hb : b < 256) (hb0 : b ≠ 0) (hO : pSPO b 3 0 FP.dconst0 = true) (hv : Op.cmpValue (FP.dcmp (pSPL b 3 0 FP.dconst0) (pSPL b 3 0 FP.dconst0)) .l = 0) : zF Z M_X8_spread (d + 2) [.ref 41] w [.long (pSPL b 3 0 FP.dconst0).toInt64] w := by
  show zG Z M_X8_spread (d + 2) _ _ 0 [(0, .ref 41)] [] w
  refine s_aload_n dX8_spread_0 rfl ?_
  refine s_get dX8_spread_1 f_X8_125 (by first | assumption | exact zgs (zlt ho) | exact zg1 (by assumption) (by decide)) (by rfl) ?_
  refine s_if_ne (tgt := 11) dX8_spread_4 (by decide) (fun hz => ?_) (fun hqz => absurd hqz (fun q => hb0 ((zn0 (by omega)).mp q)))
  clear hz
  refine s_dconst0 dX8_spread_11 ?_
  refine s_dstore_n dX8_spread_12 (Nat.le_of_ble_eq_true rfl) rfl ?_
  refine s_iconst (v := 0) dX8_spread_13 rfl ?_
  refine s_istore_n dX8_spread_14 (Nat.le_of_ble_eq_true rfl) rfl ?_
  exact l_X8_spread ho hb hb0 hv 3 0 _ rfl hO rfl
theorem q_oc : ∀ x, x < 256 → ∀ c, c < 8 → pPOP (x &&& 2 ^ c) = zb x c := by decide +kernel
set_option maxHeartbeats 4000000 in
set_option maxRecDepth 100000 in
theorem l_X8_odds {Z : zS} {d : Nat} {w : zW} {b k : Nat} {mf ma mc ms me mq mu mh mp : Int32} (ho : w[41]? = some (oM (nI b) (nI k) mf ma mc ms me mq mu mh mp)) (hb : b < 256) {cm : Nat → Int32} (hcm : w[42]? = some (aI 384 cm)) (hC : CMok cm) {c p : Nat} (hc : c < 8) (hp : p < 2) : ∀ (n : Nat) (i a : Nat), i + n = 48 → pCML b (2 ^ c) n i a = pCML b (2 ^ c) 48 0 0 → zG Z M_X8_odds (d + 1) (fun r1 w1 => r1 = [.long (kLO (pCML b (2 ^ c) 48 0 0) p)] ∧ w1 = w) w.length 25 [(0, .ref 41), (1, .int (nI c)), (2, .int (nI p)), (3, .int (nI a)), (4, .int (nI i))] [] w := by
  intro n
  induction n with
  | zero =>
    intro i a hi he
    have hi : i = 48 := by omega
    subst hi
    have he : a = pCML b (2 ^ c) 48 0 0 := he
    have hl := pCML_le b (2 ^ c) 48 0 0
    subst he
    refine s_iload dX8_odds_25 rfl ?_
    refine s_bipush (v := 48) dX8_odds_27 rfl ?_
    refine s_icmp_ge (tgt := 55) dX8_odds_29 (by decide) (fun hz => ?_) (fun hqz => absurd (by decide) hqz)
    clear hz
    refine s_iload_n dX8_odds_55 rfl ?_
    refine s_bipush (v := 48) dX8_odds_56 rfl ?_
    refine s_iload_n dX8_odds_58 rfl ?_
    refine s_cs1 dX8_odds_59 g_X8_233 (c_X8_partOf (by omega) hp) rfl rfl (Nat.le_of_ble_eq_true rfl) (Nat.le_of_ble_eq_true rfl) rfl ?_
    exact s_lret dX8_odds_62 rfl ⟨rfl, rfl⟩ rfl
  | succ n ih =>
    intro i a hi he
    have hm : i < 48 := by omega
    have hx := pIMG_lt hm b
    refine s_iload dX8_odds_25 rfl ?_
    refine s_bipush (v := 48) dX8_odds_27 rfl ?_
    refine s_icmp_ge (tgt := 55) dX8_odds_29 (by decide) (fun hqz => absurd hqz (nI_ge hm (by decide))) (fun hz => ?_)
    clear hz
    refine s_iload_n dX8_odds_32 rfl ?_
    refine s_aload_n dX8_odds_33 rfl ?_
    refine s_aload_n dX8_odds_34 rfl ?_
    refine s_get dX8_odds_35 f_X8_125 (by assumption) (by rfl) ?_
    refine s_iload dX8_odds_38 rfl ?_
    refine s_cv1 dX8_odds_40 g_X8_81 (c_X8_imageOf ho hcm hC (hm) (hb)) (by assumption) rfl rfl rfl rfl (Nat.le_of_ble_eq_true rfl) (Nat.le_of_ble_eq_true rfl) rfl ?_
    refine s_iload_n dX8_odds_43 rfl ?_
    refine s_ishr dX8_odds_44 ?_
    refine s_iconst (v := 1) dX8_odds_45 rfl ?_
    refine s_iand dX8_odds_46 ?_
    rw [zbit (by omega) (by omega)]
    refine s_iadd dX8_odds_47 ?_
    rw [nI_add]
    refine s_istore_n dX8_odds_48 (Nat.le_of_ble_eq_true rfl) rfl ?_
    refine s_iinc (nI (i + 1)) dX8_odds_49 rfl (nI_1 _) (Nat.le_of_ble_eq_true rfl) rfl ?_
    refine s_goto (tgt := 25) dX8_odds_52 (by decide) ?_
    refine ih (i + 1) (a + zb (pIMG i b) c) (by omega) ?_
    rw [← q_oc _ hx c hc]
    exact he
set_option maxHeartbeats 4000000 in
set_option maxRecDepth 100000 in
theorem y_odds1 {Z : zS} {d : Nat} {w : zW} {b k : Nat} {mf ma mc ms me mq mu mh mp : Int32} (ho : w[41]? = some (oM (nI b) (nI k) mf ma mc ms me mq mu mh mp)) (hb : b < 256) {c p : Int32} (hc : c < 0 ∨ 8 ≤ c) : zF Z M_X8_odds (d + 2) [.ref 41, .int c, .int p] w [.long (-9223372036854775808)] w := by
  show zG Z M_X8_odds (d + 2) _ _ 0 [(0, .ref 41), (1, .int c), (2, .int p)] [] w
  refine s_iload_n dX8_odds_0 rfl ?_
  refine s_cs1 dX8_odds_1 g_X8_122 (c_X8_isCorner) rfl rfl (Nat.le_of_ble_eq_true rfl) (Nat.le_of_ble_eq_true rfl) rfl ?_
  refine s_if_eq (tgt := 16) dX8_odds_4 (by decide) (fun hz => ?_) (fun hqz => absurd (miN (n := 7) (by decide) hc) hqz)
  clear hz
  refine s_ldc2 (v := (-9223372036854775808)) dX8_odds_16 (zin 964 (by decide +kernel) (by decide +kernel)) ?_
  exact s_lret dX8_odds_19 rfl ⟨rfl, rfl⟩ (by first | rfl | exact List.length_set)
set_option maxHeartbeats 4000000 in
set_option maxRecDepth 100000 in
theorem y_odds2 {Z : zS} {d : Nat} {w : zW} {b k : Nat} {mf ma mc ms me mq mu mh mp : Int32} (ho : w[41]? = some (oM (nI b) (nI k) mf ma mc ms me mq mu mh mp)) (hb : b < 256) {c : Nat} {p : Int32} (hc : c < 8) (hp : ¬ p = 0 ∧ ¬ p = 1) : zF Z M_X8_odds (d + 2) [.ref 41, .int (nI c), .int p] w [.long (-9223372036854775808)] w := by
  show zG Z M_X8_odds (d + 2) _ _ 0 [(0, .ref 41), (1, .int (nI c)), (2, .int p)] [] w
  refine s_iload_n dX8_odds_0 rfl ?_
  refine s_cs1 dX8_odds_1 g_X8_122 (c_X8_isCorner) rfl rfl (Nat.le_of_ble_eq_true rfl) (Nat.le_of_ble_eq_true rfl) rfl ?_
  refine s_if_eq (tgt := 16) dX8_odds_4 (by decide) (fun hqz => absurd hqz (miY (n := 7) (by omega) (by decide))) (fun hz => ?_)
  clear hz
  refine s_iload_n dX8_odds_7 rfl ?_
  refine s_iconst (v := 0) dX8_odds_8 rfl ?_
  refine s_iconst (v := 1) dX8_odds_9 rfl ?_
  refine s_cs1 dX8_odds_10 g_X8_5 (c_X8_isIn) rfl rfl (Nat.le_of_ble_eq_true rfl) (Nat.le_of_ble_eq_true rfl) rfl ?_
  refine s_if_ne (tgt := 20) dX8_odds_13 (by decide) (fun hqz => absurd (mi01 hp) hqz) (fun hz => ?_)
  clear hz
  refine s_ldc2 (v := (-9223372036854775808)) dX8_odds_16 (zin 964 (by decide +kernel) (by decide +kernel)) ?_
  exact s_lret dX8_odds_19 rfl ⟨rfl, rfl⟩ (by first | rfl | exact List.length_set)
set_option maxHeartbeats 4000000 in
set_option maxRecDepth 100000 in
theorem y_odds {Z : zS} {d : Nat} {w : zW} {b k : Nat} {mf ma mc ms me mq mu mh mp : Int32} (ho : w[41]? = some (oM (nI b) (nI k) mf ma mc ms me mq mu mh mp)) (hb : b < 256) {cm : Nat → Int32} (hcm : w[42]? = some (aI 384 cm)) (hC : CMok cm) {c p : Nat} (hc : c < 8) (hp : p < 2) : zF Z M_X8_odds (d + 2) [.ref 41, .int (nI c), .int (nI p)] w [.long (kLO (pCML b (2 ^ c) 48 0 0) p)] w := by
  show zG Z M_X8_odds (d + 2) _ _ 0 [(0, .ref 41), (1, .int (nI c)), (2, .int (nI p))] [] w
  refine s_iload_n dX8_odds_0 rfl ?_
  refine s_cs1 dX8_odds_1 g_X8_122 (c_X8_isCorner) rfl rfl (Nat.le_of_ble_eq_true rfl) (Nat.le_of_ble_eq_true rfl) rfl ?_
  refine s_if_eq (tgt := 16) dX8_odds_4 (by decide) (fun hqz => absurd hqz (miY (n := 7) (by omega) (by decide))) (fun hz => ?_)
  clear hz
  refine s_iload_n dX8_odds_7 rfl ?_
  refine s_iconst (v := 0) dX8_odds_8 rfl ?_
  refine s_iconst (v := 1) dX8_odds_9 rfl ?_
  refine s_cs1 dX8_odds_10 g_X8_5 (c_X8_isIn) rfl rfl (Nat.le_of_ble_eq_true rfl) (Nat.le_of_ble_eq_true rfl) rfl ?_
  refine s_if_ne (tgt := 20) dX8_odds_13 (by decide) (fun hz => ?_) (fun hqz => absurd hqz (miY (n := 1) (by omega) (by decide)))
  clear hz
  refine s_iconst (v := 0) dX8_odds_20 rfl ?_
  refine s_istore_n dX8_odds_21 (Nat.le_of_ble_eq_true rfl) rfl ?_
  refine s_iconst (v := 0) dX8_odds_22 rfl ?_
  refine s_istore dX8_odds_23 (Nat.le_of_ble_eq_true rfl) rfl ?_
  exact l_X8_odds ho hb hcm hC hc hp 48 0 0 rfl rfl
set_option maxHeartbeats 4000000 in
set_option maxRecDepth 100000 in
theorem l_X8_mean {Z : zS} {d : Nat} {w : zW} {b k : Nat} {mf ma mc ms me mq mu mh mp : Int32} (ho : w[41]? = some (oM (nI b) (nI k) mf ma mc ms me mq mu mh mp)) (hb : b < 256) {cm : Nat → Int32} (hcm : w[42]? = some (aI 384 cm)) (hC : CMok cm) {p : Nat} (hp : p < 2) : ∀ (n : Nat) (i a : Nat), i + n = 48 → pCML b k n i a = pCML b k 48 0 0 → zG Z M_X8_mean (d + 1) (fun r1 w1 => r1 = [.long (kLO (pCML b k 48 0 0) p)] ∧ w1 = w) w.length 17 [(0, .ref 41), (1, .int (nI p)), (2, .int (nI a)), (3, .int (nI i))] [] w := by
  intro n
  induction n with
  | zero =>
    intro i a hi he
    have hi : i = 48 := by omega
    subst hi
    have he : a = pCML b k 48 0 0 := he
    have hl := pCML_le b k 48 0 0
    subst he
    refine s_iload_n dX8_mean_17 rfl ?_
    refine s_bipush (v := 48) dX8_mean_18 rfl ?_
    refine s_icmp_ge (tgt := 49) dX8_mean_20 (by decide) (fun hz => ?_) (fun hqz => absurd (by decide) hqz)
    clear hz
    refine s_iload_n dX8_mean_49 rfl ?_
    refine s_bipush (v := 48) dX8_mean_50 rfl ?_
    refine s_iload_n dX8_mean_52 rfl ?_
    refine s_cs1 dX8_mean_53 g_X8_233 (c_X8_partOf (by omega) hp) rfl rfl (Nat.le_of_ble_eq_true rfl) (Nat.le_of_ble_eq_true rfl) rfl ?_
    exact s_lret dX8_mean_56 rfl ⟨rfl, rfl⟩ rfl
  | succ n ih =>
    intro i a hi he
    have hm : i < 48 := by omega
    have hx := pIMG_lt hm b
    refine s_iload_n dX8_mean_17 rfl ?_
    refine s_bipush (v := 48) dX8_mean_18 rfl ?_
    refine s_icmp_ge (tgt := 49) dX8_mean_20 (by decide) (fun hqz => absurd hqz (nI_ge hm (by decide))) (fun hz => ?_)
    clear hz
    refine s_iload_n dX8_mean_23 rfl ?_
    refine s_aload_n dX8_mean_24 rfl ?_
    refine s_aload_n dX8_mean_25 rfl ?_
    refine s_get dX8_mean_26 f_X8_125 (by assumption) (by rfl) ?_
    refine s_iload_n dX8_mean_29 rfl ?_
    refine s_cv1 dX8_mean_30 g_X8_81 (c_X8_imageOf ho hcm hC (hm) (hb)) (by assumption) rfl rfl rfl rfl (Nat.le_of_ble_eq_true rfl) (Nat.le_of_ble_eq_true rfl) rfl ?_
    refine s_aload_n dX8_mean_33 rfl ?_
    refine s_get dX8_mean_34 f_X8_132 (by assumption) (by rfl) ?_
    refine s_iand dX8_mean_37 ?_
    rw [fa_and]
    refine s_cs1 dX8_mean_38 g_X8_105 (c_X8_bits (zand8 hx)) rfl rfl (Nat.le_of_ble_eq_true rfl) (Nat.le_of_ble_eq_true rfl) rfl ?_
    refine s_iadd dX8_mean_41 ?_
    rw [nI_add]
    refine s_istore_n dX8_mean_42 (Nat.le_of_ble_eq_true rfl) rfl ?_
    refine s_iinc (nI (i + 1)) dX8_mean_43 rfl (nI_1 _) (Nat.le_of_ble_eq_true rfl) rfl ?_
    refine s_goto (tgt := 17) dX8_mean_46 (by decide) ?_
    exact ih (i + 1) (a + pPOP (pIMG i b &&& k)) (by omega) he
set_option maxHeartbeats 4000000 in
set_option maxRecDepth 100000 in
theorem y_mean1 {Z : zS} {d : Nat} {w : zW} {b k : Nat} {mf ma mc ms me mq mu mh mp : Int32} (ho : w[41]? = some (oM (nI b) (nI k) mf ma mc ms me mq mu mh mp)) (hb : b < 256) {p : Int32} (hp : ¬ p = 0 ∧ ¬ p = 1) : zF Z M_X8_mean (d + 2) [.ref 41, .int p] w [.long (-9223372036854775808)] w := by
  show zG Z M_X8_mean (d + 2) _ _ 0 [(0, .ref 41), (1, .int p)] [] w
  refine s_iload_n dX8_mean_0 rfl ?_
  refine s_iconst (v := 0) dX8_mean_1 rfl ?_
  refine s_iconst (v := 1) dX8_mean_2 rfl ?_
  refine s_cs1 dX8_mean_3 g_X8_5 (c_X8_isIn) rfl rfl (Nat.le_of_ble_eq_true rfl) (Nat.le_of_ble_eq_true rfl) rfl ?_
  refine s_if_ne (tgt := 13) dX8_mean_6 (by decide) (fun hqz => absurd (mi01 hp) hqz) (fun hz => ?_)
  clear hz
  refine s_ldc2 (v := (-9223372036854775808)) dX8_mean_9 (zin 964 (by decide +kernel) (by decide +kernel)) ?_
  exact s_lret dX8_mean_12 rfl ⟨rfl, rfl⟩ (by first | rfl | exact List.length_set)
set_option maxHeartbeats 4000000 in
set_option maxRecDepth 100000 in
theorem y_mean {Z : zS} {d : Nat} {w : zW} {b k : Nat} {mf ma mc ms me mq mu mh mp : Int32} (ho : w[41]? = some (oM (nI b) (nI k) mf ma mc ms me mq mu mh mp)) (hb : b < 256) {cm : Nat → Int32} (hcm : w[42]? = some (aI 384 cm)) (hC : CMok cm) {p : Nat} (hp : p < 2) : zF Z M_X8_mean (d + 2) [.ref 41, .int (nI p)] w [.long (kLO (pCML b k 48 0 0) p)] w := by
  show zG Z M_X8_mean (d + 2) _ _ 0 [(0, .ref 41), (1, .int (nI p))] [] w
  refine s_iload_n dX8_mean_0 rfl ?_
  refine s_iconst (v := 0) dX8_mean_1 rfl ?_
  refine s_iconst (v := 1) dX8_mean_2 rfl ?_
  refine s_cs1 dX8_mean_3 g_X8_5 (c_X8_isIn) rfl rfl (Nat.le_of_ble_eq_true rfl) (Nat.le_of_ble_eq_true rfl) rfl ?_
  refine s_if_ne (tgt := 13) dX8_mean_6 (by decide) (fun hz => ?_) (fun hqz => absurd hqz (miY (n := 1) (by omega) (by decide)))
  clear hz
  refine s_iconst (v := 0) dX8_mean_13 rfl ?_
  refine s_istore_n dX8_mean_14 (Nat.le_of_ble_eq_true rfl) rfl ?_
  refine s_iconst (v := 0) dX8_mean_15 rfl ?_
  refine s_istore_n dX8_mean_16 (Nat.le_of_ble_eq_true rfl) rfl ?_
  exact l_X8_mean ho hb hcm hC hp 48 0 0 rfl rfl
set_option maxHeartbeats 4000000 in
set_option maxRecDepth 100000 in
theorem y_count0 {Z : zS} {d : Nat} {w : zW} {b k : Nat} {mf ma mc ms me mq mu mh mp : Int32} (ho : w[41]? = some (oM (nI b) (nI k) mf ma mc ms me mq mu mh mp)) (hb : b < 256)  : zF Z M_X8_count (d) [.ref 41, .int (nI 0)] w [.int ms] w := by
  show zG Z M_X8_count (d) _ _ 0 [(0, .ref 41), (1, .int (nI 0))] [] w
  refine s_iload_n dX8_count_0 rfl ?_
  refine s_if_ne (tgt := 11) dX8_count_1 (by decide) (fun hqz => absurd rfl hqz) (fun hz => ?_)
  clear hz
  refine s_aload_n dX8_count_4 rfl ?_
  refine s_get dX8_count_5 f_X8_226 (by first | assumption | exact zgs (zlt ho) | exact zg1 (by assumption) (by decide)) (by rfl) ?_
  refine s_goto (tgt := 49) dX8_count_8 (by decide) ?_
  exact s_iret dX8_count_49 rfl ⟨rfl, rfl⟩ (by first | rfl | exact List.length_set)
set_option maxHeartbeats 4000000 in
set_option maxRecDepth 100000 in
theorem y_count1 {Z : zS} {d : Nat} {w : zW} {b k : Nat} {mf ma mc ms me mq mu mh mp : Int32} (ho : w[41]? = some (oM (nI b) (nI k) mf ma mc ms me mq mu mh mp)) (hb : b < 256)  : zF Z M_X8_count (d) [.ref 41, .int (nI 1)] w [.int me] w := by
  show zG Z M_X8_count (d) _ _ 0 [(0, .ref 41), (1, .int (nI 1))] [] w
  refine s_iload_n dX8_count_0 rfl ?_
  refine s_if_ne (tgt := 11) dX8_count_1 (by decide) (fun hz => ?_) (fun hqz => absurd hqz (by decide))
  clear hz
  refine s_iload_n dX8_count_11 rfl ?_
  refine s_iconst (v := 1) dX8_count_12 rfl ?_
  refine s_icmp_ne (tgt := 23) dX8_count_13 (by decide) (fun hqz => absurd rfl hqz) (fun hz => ?_)
  clear hz
  refine s_aload_n dX8_count_16 rfl ?_
  refine s_get dX8_count_17 f_X8_237 (by first | assumption | exact zgs (zlt ho) | exact zg1 (by assumption) (by decide)) (by rfl) ?_
  refine s_goto (tgt := 49) dX8_count_20 (by decide) ?_
  exact s_iret dX8_count_49 rfl ⟨rfl, rfl⟩ (by first | rfl | exact List.length_set)
set_option maxHeartbeats 4000000 in
set_option maxRecDepth 100000 in
theorem y_count2 {Z : zS} {d : Nat} {w : zW} {b k : Nat} {mf ma mc ms me mq mu mh mp : Int32} (ho : w[41]? = some (oM (nI b) (nI k) mf ma mc ms me mq mu mh mp)) (hb : b < 256)  : zF Z M_X8_count (d) [.ref 41, .int (nI 2)] w [.int mq] w := by
  show zG Z M_X8_count (d) _ _ 0 [(0, .ref 41), (1, .int (nI 2))] [] w
  refine s_iload_n dX8_count_0 rfl ?_
  refine s_if_ne (tgt := 11) dX8_count_1 (by decide) (fun hz => ?_) (fun hqz => absurd hqz (by decide))
  clear hz
  refine s_iload_n dX8_count_11 rfl ?_
  refine s_iconst (v := 1) dX8_count_12 rfl ?_
  refine s_icmp_ne (tgt := 23) dX8_count_13 (by decide) (fun hz => ?_) (fun hqz => absurd hqz (by decide))
  clear hz
  refine s_iload_n dX8_count_23 rfl ?_
  refine s_iconst (v := 2) dX8_count_24 rfl ?_
  refine s_icmp_ne (tgt := 35) dX8_count_25 (by decide) (fun hqz => absurd rfl hqz) (fun hz => ?_)
  clear hz
  refine s_aload_n dX8_count_28 rfl ?_
  refine s_get dX8_count_29 f_X8_240 (by first | assumption | exact zgs (zlt ho) | exact zg1 (by assumption) (by decide)) (by rfl) ?_
  refine s_goto (tgt := 49) dX8_count_32 (by decide) ?_
  exact s_iret dX8_count_49 rfl ⟨rfl, rfl⟩ (by first | rfl | exact List.length_set)
set_option maxHeartbeats 4000000 in
set_option maxRecDepth 100000 in
theorem y_count3 {Z : zS} {d : Nat} {w : zW} {b k : Nat} {mf ma mc ms me mq mu mh mp : Int32} (ho : w[41]? = some (oM (nI b) (nI k) mf ma mc ms me mq mu mh mp)) (hb : b < 256)  : zF Z M_X8_count (d) [.ref 41, .int (nI 3)] w [.int mf] w := by
  show zG Z M_X8_count (d) _ _ 0 [(0, .ref 41), (1, .int (nI 3))] [] w
  refine s_iload_n dX8_count_0 rfl ?_
  refine s_if_ne (tgt := 11) dX8_count_1 (by decide) (fun hz => ?_) (fun hqz => absurd hqz (by decide))
  clear hz
  refine s_iload_n dX8_count_11 rfl ?_
  refine s_iconst (v := 1) dX8_count_12 rfl ?_
  refine s_icmp_ne (tgt := 23) dX8_count_13 (by decide) (fun hz => ?_) (fun hqz => absurd hqz (by decide))
  clear hz
  refine s_iload_n dX8_count_23 rfl ?_
  refine s_iconst (v := 2) dX8_count_24 rfl ?_
  refine s_icmp_ne (tgt := 35) dX8_count_25 (by decide) (fun hz => ?_) (fun hqz => absurd hqz (by decide))
  clear hz
  refine s_iload_n dX8_count_35 rfl ?_
  refine s_iconst (v := 3) dX8_count_36 rfl ?_
  refine s_icmp_ne (tgt := 47) dX8_count_37 (by decide) (fun hqz => absurd rfl hqz) (fun hz => ?_)
  clear hz
  refine s_aload_n dX8_count_40 rfl ?_
  refine s_get dX8_count_41 f_X8_135 (by first | assumption | exact zgs (zlt ho) | exact zg1 (by assumption) (by decide)) (by rfl) ?_
  refine s_goto (tgt := 49) dX8_count_44 (by decide) ?_
  exact s_iret dX8_count_49 rfl ⟨rfl, rfl⟩ (by first | rfl | exact List.length_set)
set_option maxHeartbeats 4000000 in
set_option maxRecDepth 100000 in
theorem y_count_no {Z : zS} {d : Nat} {w : zW} {b k : Nat} {mf ma mc ms me mq mu mh mp : Int32} (ho : w[41]? = some (oM (nI b) (nI k) mf ma mc ms me mq mu mh mp)) (hb : b < 256) {c : Int32} (hc : c < 0 ∨ 4 ≤ c) : zF Z M_X8_count (d) [.ref 41, .int c] w [.int (-2)] w := by
  show zG Z M_X8_count (d) _ _ 0 [(0, .ref 41), (1, .int c)] [] w
  have n0 : ¬ c = 0 := fun e => by rw [e] at hc; exact absurd hc (by decide)
  have n1 : ¬ c = 1 := fun e => by rw [e] at hc; exact absurd hc (by decide)
  have n2 : ¬ c = 2 := fun e => by rw [e] at hc; exact absurd hc (by decide)
  have n3 : ¬ c = 3 := fun e => by rw [e] at hc; exact absurd hc (by decide)
  refine s_iload_n dX8_count_0 rfl ?_
  refine s_if_ne (tgt := 11) dX8_count_1 (by decide) (fun hz => ?_) (fun hqz => absurd hqz n0)
  clear hz
  refine s_iload_n dX8_count_11 rfl ?_
  refine s_iconst (v := 1) dX8_count_12 rfl ?_
  refine s_icmp_ne (tgt := 23) dX8_count_13 (by decide) (fun hz => ?_) (fun hqz => absurd hqz n1)
  clear hz
  refine s_iload_n dX8_count_23 rfl ?_
  refine s_iconst (v := 2) dX8_count_24 rfl ?_
  refine s_icmp_ne (tgt := 35) dX8_count_25 (by decide) (fun hz => ?_) (fun hqz => absurd hqz n2)
  clear hz
  refine s_iload_n dX8_count_35 rfl ?_
  refine s_iconst (v := 3) dX8_count_36 rfl ?_
  refine s_icmp_ne (tgt := 47) dX8_count_37 (by decide) (fun hz => ?_) (fun hqz => absurd hqz n3)
  clear hz
  refine s_bipush (v := (-2)) dX8_count_47 rfl ?_
  exact s_iret dX8_count_49 rfl ⟨rfl, rfl⟩ (by first | rfl | exact List.length_set)
set_option maxHeartbeats 4000000 in
set_option maxRecDepth 100000 in
theorem y_see_e {Z : zS} {d : Nat} {w : zW} {b k : Nat} {mf ma mc ms me mq mu mh mp : Int32} (ho : w[41]? = some (oM (nI b) (nI k) mf ma mc ms me mq mu mh mp)) (hb : b < 256) {n : Int32} : zF Z M_X8_see (d) [.ref 41, .int (-1), .int n] w [.int 0] (w.set 41 (oM (nI b) (nI k) mf ma mc 0 me mq mu mh mp)) := by
  show zG Z M_X8_see (d) _ _ 0 [(0, .ref 41), (1, .int (-1)), (2, .int n)] [] w
  refine s_iload_n dX8_see_0 rfl ?_
  refine s_iconst (v := (-1)) dX8_see_1 rfl ?_
  refine s_icmp_ne (tgt := 12) dX8_see_2 (by decide) (fun hqz => absurd rfl hqz) (fun hz => ?_)
  clear hz
  refine s_aload_n dX8_see_5 rfl ?_
  refine s_iconst (v := 0) dX8_see_6 rfl ?_
  refine s_put dX8_see_7 f_X8_226 (by first | assumption | exact zgs (zlt ho) | exact zg1 (by assumption) (by decide)) (fun _ => ⟨rfl, rfl⟩) (Nat.le_of_ble_eq_true rfl) ?_
  refine s_iconst (v := 0) dX8_see_10 rfl ?_
  exact s_iret dX8_see_11 rfl ⟨rfl, rfl⟩ (by first | rfl | exact List.length_set)
set_option maxHeartbeats 4000000 in
set_option maxRecDepth 100000 in
theorem y_see1 {Z : zS} {d : Nat} {w : zW} {b k : Nat} {mf ma mc ms me mq mu mh mp : Int32} (ho : w[41]? = some (oM (nI b) (nI k) mf ma mc ms me mq mu mh mp)) (hb : b < 256) {c n : Int32} (h1 : ¬ c = -1) (hc : c < 0 ∨ 4 ≤ c) : zF Z M_X8_see (d + 1) [.ref 41, .int c, .int n] w [.int (-1)] w := by
  show zG Z M_X8_see (d + 1) _ _ 0 [(0, .ref 41), (1, .int c), (2, .int n)] [] w
  refine s_iload_n dX8_see_0 rfl ?_
  refine s_iconst (v := (-1)) dX8_see_1 rfl ?_
  refine s_icmp_ne (tgt := 12) dX8_see_2 (by decide) (fun hz => ?_) (fun hqz => absurd hqz h1)
  clear hz
  refine s_iload_n dX8_see_12 rfl ?_
  refine s_iconst (v := 0) dX8_see_13 rfl ?_
  refine s_iconst (v := 3) dX8_see_14 rfl ?_
  refine s_cs1 dX8_see_15 g_X8_5 (c_X8_isIn) rfl rfl (Nat.le_of_ble_eq_true rfl) (Nat.le_of_ble_eq_true rfl) rfl ?_
  refine s_if_ne (tgt := 23) dX8_see_18 (by decide) (fun hqz => absurd (miN (n := 3) (by decide) hc) hqz) (fun hz => ?_)
  clear hz
  refine s_iconst (v := (-1)) dX8_see_21 rfl ?_
  exact s_iret dX8_see_22 rfl ⟨rfl, rfl⟩ (by first | rfl | exact List.length_set)
set_option maxHeartbeats 4000000 in
set_option maxRecDepth 100000 in
theorem y_see2 {Z : zS} {d : Nat} {w : zW} {b k : Nat} {mf ma mc ms me mq mu mh mp : Int32} (ho : w[41]? = some (oM (nI b) (nI k) mf ma mc ms me mq mu mh mp)) (hb : b < 256) {t : Nat} {n : Int32} (ht : t < 4) (hc : n < 0 ∨ 100 ≤ n) : zF Z M_X8_see (d + 1) [.ref 41, .int (nI t), .int n] w [.int (-2)] w := by
  show zG Z M_X8_see (d + 1) _ _ 0 [(0, .ref 41), (1, .int (nI t)), (2, .int n)] [] w
  refine s_iload_n dX8_see_0 rfl ?_
  refine s_iconst (v := (-1)) dX8_see_1 rfl ?_
  refine s_icmp_ne (tgt := 12) dX8_see_2 (by decide) (fun hz => ?_) (fun hqz => absurd hqz (znm (by omega)))
  clear hz
  refine s_iload_n dX8_see_12 rfl ?_
  refine s_iconst (v := 0) dX8_see_13 rfl ?_
  refine s_iconst (v := 3) dX8_see_14 rfl ?_
  refine s_cs1 dX8_see_15 g_X8_5 (c_X8_isIn) rfl rfl (Nat.le_of_ble_eq_true rfl) (Nat.le_of_ble_eq_true rfl) rfl ?_
  refine s_if_ne (tgt := 23) dX8_see_18 (by decide) (fun hz => ?_) (fun hqz => absurd hqz (miY (n := 3) (by omega) (by decide)))
  clear hz
  refine s_iload_n dX8_see_23 rfl ?_
  refine s_iconst (v := 0) dX8_see_24 rfl ?_
  refine s_bipush (v := 99) dX8_see_25 rfl ?_
  refine s_cs1 dX8_see_27 g_X8_5 (c_X8_isIn) rfl rfl (Nat.le_of_ble_eq_true rfl) (Nat.le_of_ble_eq_true rfl) rfl ?_
  refine s_if_ne (tgt := 36) dX8_see_30 (by decide) (fun hqz => absurd (miN (n := 99) (by decide) hc) hqz) (fun hz => ?_)
  clear hz
  refine s_bipush (v := (-2)) dX8_see_33 rfl ?_
  exact s_iret dX8_see_35 rfl ⟨rfl, rfl⟩ (by first | rfl | exact List.length_set)
set_option maxHeartbeats 4000000 in
set_option maxRecDepth 100000 in
theorem y_see_f {Z : zS} {d : Nat} {w : zW} {b k : Nat} {mf ma mc me mq mu mh mp : Int32} {f g : Nat → Int32} {s : Nat} (ho : w[41]? = some (oM (nI b) (nI k) mf ma mc (nI s) me mq mu mh mp)) (hb : b < 256) {t u : Nat} (ht : t < 4) (hu : u < 100) (hs : s = 4) : zF Z M_X8_see (d + 1) [.ref 41, .int (nI t), .int (nI u)] w [.int (-4)] w := by
  show zG Z M_X8_see (d + 1) _ _ 0 [(0, .ref 41), (1, .int (nI t)), (2, .int (nI u))] [] w
  refine s_iload_n dX8_see_0 rfl ?_
  refine s_iconst (v := (-1)) dX8_see_1 rfl ?_
  refine s_icmp_ne (tgt := 12) dX8_see_2 (by decide) (fun hz => ?_) (fun hqz => absurd hqz (znm (by omega)))
  clear hz
  refine s_iload_n dX8_see_12 rfl ?_
  refine s_iconst (v := 0) dX8_see_13 rfl ?_
  refine s_iconst (v := 3) dX8_see_14 rfl ?_
  refine s_cs1 dX8_see_15 g_X8_5 (c_X8_isIn) rfl rfl (Nat.le_of_ble_eq_true rfl) (Nat.le_of_ble_eq_true rfl) rfl ?_
  refine s_if_ne (tgt := 23) dX8_see_18 (by decide) (fun hz => ?_) (fun hqz => absurd hqz (miY (n := 3) (by omega) (by decide)))
  clear hz
  refine s_iload_n dX8_see_23 rfl ?_
  refine s_iconst (v := 0) dX8_see_24 rfl ?_
  refine s_bipush (v := 99) dX8_see_25 rfl ?_
  refine s_cs1 dX8_see_27 g_X8_5 (c_X8_isIn) rfl rfl (Nat.le_of_ble_eq_true rfl) (Nat.le_of_ble_eq_true rfl) rfl ?_
  refine s_if_ne (tgt := 36) dX8_see_30 (by decide) (fun hz => ?_) (fun hqz => absurd hqz (miY (n := 99) (by omega) (by decide)))
  clear hz
  refine s_aload_n dX8_see_36 rfl ?_
  refine s_get dX8_see_37 f_X8_226 (by first | assumption | exact zgs (zlt ho) | exact zg1 (by assumption) (by decide)) (by rfl) ?_
  refine s_iconst (v := 4) dX8_see_40 rfl ?_
  refine s_icmp_ne (tgt := 47) dX8_see_41 (by decide) (fun hqz => absurd (by rw [hs]; rfl) hqz) (fun hz => ?_)
  clear hz
  refine s_bipush (v := (-4)) dX8_see_44 rfl ?_
  exact s_iret dX8_see_46 rfl ⟨rfl, rfl⟩ (by first | rfl | exact List.length_set)
set_option maxHeartbeats 4000000 in
set_option maxRecDepth 100000 in
theorem y_see {Z : zS} {d : Nat} {w : zW} {b k : Nat} {mf ma mc me mq mu mh mp : Int32} {f g : Nat → Int32} {s : Nat} (ho : w[41]? = some (oM (nI b) (nI k) mf ma mc (nI s) me mq mu mh mp)) (hb : b < 256) (hf : w[52]? = some (aI 4 f)) (hg : w[53]? = some (aI 4 g)) {t u : Nat} (ht : t < 4) (hu : u < 100) (hs : s < 4) : zF Z M_X8_see (d + 2) [.ref 41, .int (nI t), .int (nI u)] w [.int (nI (s + 1))] (((w.set 52 (aI 4 (upd f s (nI t)))).set 53 (aI 4 (upd g s (nI u)))).set 41 (oM (nI b) (nI k) mf ma mc (nI (s + 1)) me mq mu mh mp)) := by
  show zG Z M_X8_see (d + 2) _ _ 0 [(0, .ref 41), (1, .int (nI t)), (2, .int (nI u))] [] w
  have l1 := zlt ho
  have l2 := zlt hf
  have l3 := zlt hg
  refine s_iload_n dX8_see_0 rfl ?_
  refine s_iconst (v := (-1)) dX8_see_1 rfl ?_
  refine s_icmp_ne (tgt := 12) dX8_see_2 (by decide) (fun hz => ?_) (fun hqz => absurd hqz (znm (by omega)))
  clear hz
  refine s_iload_n dX8_see_12 rfl ?_
  refine s_iconst (v := 0) dX8_see_13 rfl ?_
  refine s_iconst (v := 3) dX8_see_14 rfl ?_
  refine s_cs1 dX8_see_15 g_X8_5 (c_X8_isIn) rfl rfl (Nat.le_of_ble_eq_true rfl) (Nat.le_of_ble_eq_true rfl) rfl ?_
  refine s_if_ne (tgt := 23) dX8_see_18 (by decide) (fun hz => ?_) (fun hqz => absurd hqz (miY (n := 3) (by omega) (by decide)))
  clear hz
  refine s_iload_n dX8_see_23 rfl ?_
  refine s_iconst (v := 0) dX8_see_24 rfl ?_
  refine s_bipush (v := 99) dX8_see_25 rfl ?_
  refine s_cs1 dX8_see_27 g_X8_5 (c_X8_isIn) rfl rfl (Nat.le_of_ble_eq_true rfl) (Nat.le_of_ble_eq_true rfl) rfl ?_
  refine s_if_ne (tgt := 36) dX8_see_30 (by decide) (fun hz => ?_) (fun hqz => absurd hqz (miY (n := 99) (by omega) (by decide)))
  clear hz
  refine s_aload_n dX8_see_36 rfl ?_
  refine s_get dX8_see_37 f_X8_226 (by repeat (first | assumption | refine zg1 ?_ (by decide) | (refine zgs ?_; (try simp only [List.length_set]); assumption))) (by rfl) ?_
  refine s_iconst (v := 4) dX8_see_40 rfl ?_
  refine s_icmp_ne (tgt := 47) dX8_see_41 (by decide) (fun hz => ?_) (fun hqz => absurd hqz (fun q => absurd ((nI_eq (b := 4) (by omega) (by decide)).mp q) (by omega)))
  clear hz
  refine s_aload_n dX8_see_47 rfl ?_
  refine s_get dX8_see_48 f_X8_47 (by repeat (first | assumption | refine zg1 ?_ (by decide) | (refine zgs ?_; (try simp only [List.length_set]); assumption))) (by rfl) ?_
  refine s_aload_n dX8_see_51 rfl ?_
  refine s_get dX8_see_52 f_X8_226 (by repeat (first | assumption | refine zg1 ?_ (by decide) | (refine zgs ?_; (try simp only [List.length_set]); assumption))) (by rfl) ?_
  refine s_iload_n dX8_see_55 rfl ?_
  refine s_iast dX8_see_56 (by repeat (first | assumption | refine zg1 ?_ (by decide) | (refine zgs ?_; (try simp only [List.length_set]); assumption))) (zrd (n := 4) hs (by decide)) ?_
  rw [nI_clamp (by omega)]
  refine s_aload_n dX8_see_57 rfl ?_
  refine s_get dX8_see_58 f_X8_50 (by repeat (first | assumption | refine zg1 ?_ (by decide) | (refine zgs ?_; (try simp only [List.length_set]); assumption))) (by rfl) ?_
  refine s_aload_n dX8_see_61 rfl ?_
  refine s_get dX8_see_62 f_X8_226 (by repeat (first | assumption | refine zg1 ?_ (by decide) | (refine zgs ?_; (try simp only [List.length_set]); assumption))) (by rfl) ?_
  refine s_iload_n dX8_see_65 rfl ?_
  refine s_iast dX8_see_66 (by repeat (first | assumption | refine zg1 ?_ (by decide) | (refine zgs ?_; (try simp only [List.length_set]); assumption))) (zrd (n := 4) hs (by decide)) ?_
  rw [nI_clamp (by omega)]
  refine s_aload_n dX8_see_67 rfl ?_
  refine s_dup dX8_see_68 rfl ?_
  refine s_get dX8_see_69 f_X8_226 (by repeat (first | assumption | refine zg1 ?_ (by decide) | (refine zgs ?_; (try simp only [List.length_set]); assumption))) (by rfl) ?_
  refine s_iconst (v := 1) dX8_see_72 rfl ?_
  refine s_iadd dX8_see_73 ?_
  rw [nI_1]
  refine s_put dX8_see_74 f_X8_226 (by repeat (first | assumption | refine zg1 ?_ (by decide) | (refine zgs ?_; (try simp only [List.length_set]); assumption))) (fun _ => ⟨rfl, rfl⟩) (Nat.le_of_ble_eq_true rfl) ?_
  refine s_aload_n dX8_see_77 rfl ?_
  refine s_get dX8_see_78 f_X8_226 (by repeat (first | assumption | refine zg1 ?_ (by decide) | (refine zgs ?_; (try simp only [List.length_set]); assumption))) (by rfl) ?_
  exact s_iret dX8_see_81 rfl ⟨rfl, rfl⟩ (by first | rfl | (simp only [List.length_set]; rfl))
set_option maxHeartbeats 4000000 in
set_option maxRecDepth 100000 in
theorem y_event_e {Z : zS} {d : Nat} {w : zW} {b k : Nat} {mf ma mc ms me mq mu mh mp : Int32} (ho : w[41]? = some (oM (nI b) (nI k) mf ma mc ms me mq mu mh mp)) (hb : b < 256) {n : Int32} : zF Z M_X8_event (d) [.ref 41, .int (-1), .int n] w [.int 0] (w.set 41 (oM (nI b) (nI k) mf ma mc ms 0 mq mu mh mp)) := by
  show zG Z M_X8_event (d) _ _ 0 [(0, .ref 41), (1, .int (-1)), (2, .int n)] [] w
  refine s_iload_n dX8_event_0 rfl ?_
  refine s_iconst (v := (-1)) dX8_event_1 rfl ?_
  refine s_icmp_ne (tgt := 12) dX8_event_2 (by decide) (fun hqz => absurd rfl hqz) (fun hz => ?_)
  clear hz
  refine s_aload_n dX8_event_5 rfl ?_
  refine s_iconst (v := 0) dX8_event_6 rfl ?_
  refine s_put dX8_event_7 f_X8_237 (by first | assumption | exact zgs (zlt ho) | exact zg1 (by assumption) (by decide)) (fun _ => ⟨rfl, rfl⟩) (Nat.le_of_ble_eq_true rfl) ?_
  refine s_iconst (v := 0) dX8_event_10 rfl ?_
  exact s_iret dX8_event_11 rfl ⟨rfl, rfl⟩ (by first | rfl | exact List.length_set)
set_option maxHeartbeats 4000000 in
set_option maxRecDepth 100000 in
theorem y_event_no {Z : zS} {d : Nat} {w : zW} {b k : Nat} {mf ma mc ms me mq mu mh mp : Int32} (ho : w[41]? = some (oM (nI b) (nI k) mf ma mc ms me mq mu mh mp)) (hb : b < 256) {c n : Int32} (h1 : ¬ c = -1) (hc : c < 0 ∨ 3 ≤ c) : zF Z M_X8_event (d + 2) [.ref 41, .int c, .int n] w [.int (-1)] w := by
  show zG Z M_X8_event (d + 2) _ _ 0 [(0, .ref 41), (1, .int c), (2, .int n)] [] w
  refine s_iload_n dX8_event_0 rfl ?_
  refine s_iconst (v := (-1)) dX8_event_1 rfl ?_
  refine s_icmp_ne (tgt := 12) dX8_event_2 (by decide) (fun hz => ?_) (fun hqz => absurd hqz h1)
  clear hz
  refine s_iload_n dX8_event_12 rfl ?_
  refine s_iconst (v := 0) dX8_event_13 rfl ?_
  refine s_iconst (v := 2) dX8_event_14 rfl ?_
  refine s_cs1 dX8_event_15 g_X8_5 (c_X8_isIn) rfl rfl (Nat.le_of_ble_eq_true rfl) (Nat.le_of_ble_eq_true rfl) rfl ?_
  refine s_if_eq (tgt := 44) dX8_event_18 (by decide) (fun hz => ?_) (fun hqz => absurd (miN (n := 2) (by decide) hc) hqz)
  clear hz
  refine s_iconst (v := (-1)) dX8_event_44 rfl ?_
  exact s_iret dX8_event_45 rfl ⟨rfl, rfl⟩ (by first | rfl | exact List.length_set)
set_option maxHeartbeats 4000000 in
set_option maxRecDepth 100000 in
theorem y_event0_b {Z : zS} {d : Nat} {w : zW} {b k : Nat} {mf ma mc ms me mq mu mh mp : Int32} (ho : w[41]? = some (oM (nI b) (nI k) mf ma mc ms me mq mu mh mp)) (hb : b < 256) {n : Int32} (hc : n < 0 ∨ 8 ≤ n) : zF Z M_X8_event (d + 2) [.ref 41, .int (nI 0), .int n] w [.int (-1)] w := by
  show zG Z M_X8_event (d + 2) _ _ 0 [(0, .ref 41), (1, .int (nI 0)), (2, .int n)] [] w
  refine s_iload_n dX8_event_0 rfl ?_
  refine s_iconst (v := (-1)) dX8_event_1 rfl ?_
  refine s_icmp_ne (tgt := 12) dX8_event_2 (by decide) (fun hz => ?_) (fun hqz => absurd hqz (by decide))
  clear hz
  refine s_iload_n dX8_event_12 rfl ?_
  refine s_iconst (v := 0) dX8_event_13 rfl ?_
  refine s_iconst (v := 2) dX8_event_14 rfl ?_
  refine s_cs1 dX8_event_15 g_X8_5 (c_X8_isIn) rfl rfl (Nat.le_of_ble_eq_true rfl) (Nat.le_of_ble_eq_true rfl) rfl ?_
  refine s_if_eq (tgt := 44) dX8_event_18 (by decide) (fun hqz => absurd hqz (by decide)) (fun hz => ?_)
  clear hz
  refine s_iload_n dX8_event_21 rfl ?_
  refine s_if_ne (tgt := 32) dX8_event_22 (by decide) (fun hqz => absurd rfl hqz) (fun hz => ?_)
  clear hz
  refine s_iload_n dX8_event_25 rfl ?_
  refine s_cs1 dX8_event_26 g_X8_122 (c_X8_isCorner) rfl rfl (Nat.le_of_ble_eq_true rfl) (Nat.le_of_ble_eq_true rfl) rfl ?_
  refine s_if_eq (tgt := 44) dX8_event_29 (by decide) (fun hz => ?_) (fun hqz => absurd (miN (n := 7) (by decide) hc) hqz)
  clear hz
  refine s_iconst (v := (-1)) dX8_event_44 rfl ?_
  exact s_iret dX8_event_45 rfl ⟨rfl, rfl⟩ (by first | rfl | exact List.length_set)
set_option maxHeartbeats 4000000 in
set_option maxRecDepth 100000 in
theorem y_event1_b {Z : zS} {d : Nat} {w : zW} {b k : Nat} {mf ma mc ms me mq mu mh mp : Int32} (ho : w[41]? = some (oM (nI b) (nI k) mf ma mc ms me mq mu mh mp)) (hb : b < 256) {n : Int32} (hc : n < 0 ∨ 48 ≤ n) : zF Z M_X8_event (d + 2) [.ref 41, .int (nI 1), .int n] w [.int (-1)] w := by
  show zG Z M_X8_event (d + 2) _ _ 0 [(0, .ref 41), (1, .int (nI 1)), (2, .int n)] [] w
  refine s_iload_n dX8_event_0 rfl ?_
  refine s_iconst (v := (-1)) dX8_event_1 rfl ?_
  refine s_icmp_ne (tgt := 12) dX8_event_2 (by decide) (fun hz => ?_) (fun hqz => absurd hqz (by decide))
  clear hz
  refine s_iload_n dX8_event_12 rfl ?_
  refine s_iconst (v := 0) dX8_event_13 rfl ?_
  refine s_iconst (v := 2) dX8_event_14 rfl ?_
  refine s_cs1 dX8_event_15 g_X8_5 (c_X8_isIn) rfl rfl (Nat.le_of_ble_eq_true rfl) (Nat.le_of_ble_eq_true rfl) rfl ?_
  refine s_if_eq (tgt := 44) dX8_event_18 (by decide) (fun hqz => absurd hqz (by decide)) (fun hz => ?_)
  clear hz
  refine s_iload_n dX8_event_21 rfl ?_
  refine s_if_ne (tgt := 32) dX8_event_22 (by decide) (fun hz => ?_) (fun hqz => absurd hqz (by decide))
  clear hz
  refine s_iload_n dX8_event_32 rfl ?_
  refine s_iconst (v := 1) dX8_event_33 rfl ?_
  refine s_icmp_ne (tgt := 46) dX8_event_34 (by decide) (fun hqz => absurd rfl hqz) (fun hz => ?_)
  clear hz
  refine s_iload_n dX8_event_37 rfl ?_
  refine s_cs1 dX8_event_38 g_X8_129 (c_X8_isMove) rfl rfl (Nat.le_of_ble_eq_true rfl) (Nat.le_of_ble_eq_true rfl) rfl ?_
  refine s_if_ne (tgt := 46) dX8_event_41 (by decide) (fun hqz => absurd (miN (n := 47) (by decide) hc) hqz) (fun hz => ?_)
  clear hz
  refine s_iconst (v := (-1)) dX8_event_44 rfl ?_
  exact s_iret dX8_event_45 rfl ⟨rfl, rfl⟩ (by first | rfl | exact List.length_set)
set_option maxHeartbeats 4000000 in
set_option maxRecDepth 100000 in
theorem y_event2_b {Z : zS} {d : Nat} {w : zW} {b k : Nat} {mf ma mc ms me mq mu mh mp : Int32} (ho : w[41]? = some (oM (nI b) (nI k) mf ma mc ms me mq mu mh mp)) (hb : b < 256) {n : Int32} (hn : ¬ n = 0) : zF Z M_X8_event (d + 2) [.ref 41, .int (nI 2), .int n] w [.int (-2)] w := by
  show zG Z M_X8_event (d + 2) _ _ 0 [(0, .ref 41), (1, .int (nI 2)), (2, .int n)] [] w
  refine s_iload_n dX8_event_0 rfl ?_
  refine s_iconst (v := (-1)) dX8_event_1 rfl ?_
  refine s_icmp_ne (tgt := 12) dX8_event_2 (by decide) (fun hz => ?_) (fun hqz => absurd hqz (by decide))
  clear hz
  refine s_iload_n dX8_event_12 rfl ?_
  refine s_iconst (v := 0) dX8_event_13 rfl ?_
  refine s_iconst (v := 2) dX8_event_14 rfl ?_
  refine s_cs1 dX8_event_15 g_X8_5 (c_X8_isIn) rfl rfl (Nat.le_of_ble_eq_true rfl) (Nat.le_of_ble_eq_true rfl) rfl ?_
  refine s_if_eq (tgt := 44) dX8_event_18 (by decide) (fun hqz => absurd hqz (by decide)) (fun hz => ?_)
  clear hz
  refine s_iload_n dX8_event_21 rfl ?_
  refine s_if_ne (tgt := 32) dX8_event_22 (by decide) (fun hz => ?_) (fun hqz => absurd hqz (by decide))
  clear hz
  refine s_iload_n dX8_event_32 rfl ?_
  refine s_iconst (v := 1) dX8_event_33 rfl ?_
  refine s_icmp_ne (tgt := 46) dX8_event_34 (by decide) (fun hz => ?_) (fun hqz => absurd hqz (by decide))
  clear hz
  refine s_iload_n dX8_event_46 rfl ?_
  refine s_iconst (v := 2) dX8_event_47 rfl ?_
  refine s_icmp_ne (tgt := 58) dX8_event_48 (by decide) (fun hqz => absurd rfl hqz) (fun hz => ?_)
  clear hz
  refine s_iload_n dX8_event_51 rfl ?_
  refine s_if_eq (tgt := 58) dX8_event_52 (by decide) (fun hqz => absurd hqz hn) (fun hz => ?_)
  clear hz
  refine s_bipush (v := (-2)) dX8_event_55 rfl ?_
  exact s_iret dX8_event_57 rfl ⟨rfl, rfl⟩ (by first | rfl | exact List.length_set)
set_option maxHeartbeats 4000000 in
set_option maxRecDepth 100000 in
theorem y_event0_f {Z : zS} {d : Nat} {w : zW} {b k : Nat} {mf ma mc ms mq mu mh mp : Int32} {f g : Nat → Int32} {s : Nat} (ho : w[41]? = some (oM (nI b) (nI k) mf ma mc ms (nI s) mq mu mh mp)) (hb : b < 256) {u : Nat} (hu : u < 8) (hs : s = 8) : zF Z M_X8_event (d + 2) [.ref 41, .int (nI 0), .int (nI u)] w [.int (-4)] w := by
  show zG Z M_X8_event (d + 2) _ _ 0 [(0, .ref 41), (1, .int (nI 0)), (2, .int (nI u))] [] w
  refine s_iload_n dX8_event_0 rfl ?_
  refine s_iconst (v := (-1)) dX8_event_1 rfl ?_
  refine s_icmp_ne (tgt := 12) dX8_event_2 (by decide) (fun hz => ?_) (fun hqz => absurd hqz (by decide))
  clear hz
  refine s_iload_n dX8_event_12 rfl ?_
  refine s_iconst (v := 0) dX8_event_13 rfl ?_
  refine s_iconst (v := 2) dX8_event_14 rfl ?_
  refine s_cs1 dX8_event_15 g_X8_5 (c_X8_isIn) rfl rfl (Nat.le_of_ble_eq_true rfl) (Nat.le_of_ble_eq_true rfl) rfl ?_
  refine s_if_eq (tgt := 44) dX8_event_18 (by decide) (fun hqz => absurd hqz (by decide)) (fun hz => ?_)
  clear hz
  refine s_iload_n dX8_event_21 rfl ?_
  refine s_if_ne (tgt := 32) dX8_event_22 (by decide) (fun hqz => absurd rfl hqz) (fun hz => ?_)
  clear hz
  refine s_iload_n dX8_event_25 rfl ?_
  refine s_cs1 dX8_event_26 g_X8_122 (c_X8_isCorner) rfl rfl (Nat.le_of_ble_eq_true rfl) (Nat.le_of_ble_eq_true rfl) rfl ?_
  refine s_if_eq (tgt := 44) dX8_event_29 (by decide) (fun hqz => absurd hqz (miY (n := 7) (by omega) (by decide))) (fun hz => ?_)
  clear hz
  refine s_iload_n dX8_event_32 rfl ?_
  refine s_iconst (v := 1) dX8_event_33 rfl ?_
  refine s_icmp_ne (tgt := 46) dX8_event_34 (by decide) (fun hz => ?_) (fun hqz => absurd hqz (by decide))
  clear hz
  refine s_iload_n dX8_event_46 rfl ?_
  refine s_iconst (v := 2) dX8_event_47 rfl ?_
  refine s_icmp_ne (tgt := 58) dX8_event_48 (by decide) (fun hz => ?_) (fun hqz => absurd hqz (by decide))
  clear hz
  refine s_aload_n dX8_event_58 rfl ?_
  refine s_get dX8_event_59 f_X8_237 (by first | assumption | exact zgs (zlt ho) | exact zg1 (by assumption) (by decide)) (by rfl) ?_
  refine s_bipush (v := 8) dX8_event_62 rfl ?_
  refine s_icmp_ne (tgt := 70) dX8_event_64 (by decide) (fun hqz => absurd (by rw [hs]; rfl) hqz) (fun hz => ?_)
  clear hz
  refine s_bipush (v := (-4)) dX8_event_67 rfl ?_
  exact s_iret dX8_event_69 rfl ⟨rfl, rfl⟩ (by first | rfl | exact List.length_set)
set_option maxHeartbeats 4000000 in
set_option maxRecDepth 100000 in
theorem y_event0 {Z : zS} {d : Nat} {w : zW} {b k : Nat} {mf ma mc ms mq mu mh mp : Int32} {f g : Nat → Int32} {s : Nat} (ho : w[41]? = some (oM (nI b) (nI k) mf ma mc ms (nI s) mq mu mh mp)) (hb : b < 256) (hf : w[54]? = some (aI 8 f)) (hg : w[55]? = some (aI 8 g)) {u : Nat} (hu : u < 8) (hs : s < 8) : zF Z M_X8_event (d + 2) [.ref 41, .int (nI 0), .int (nI u)] w [.int (nI (s + 1))] (((w.set 54 (aI 8 (upd f s (nI 0)))).set 55 (aI 8 (upd g s (nI u)))).set 41 (oM (nI b) (nI k) mf ma mc ms (nI (s + 1)) mq mu mh mp)) := by
  show zG Z M_X8_event (d + 2) _ _ 0 [(0, .ref 41), (1, .int (nI 0)), (2, .int (nI u))] [] w
  have l1 := zlt ho
  have l2 := zlt hf
  have l3 := zlt hg
  refine s_iload_n dX8_event_0 rfl ?_
  refine s_iconst (v := (-1)) dX8_event_1 rfl ?_
  refine s_icmp_ne (tgt := 12) dX8_event_2 (by decide) (fun hz => ?_) (fun hqz => absurd hqz (by decide))
  clear hz
  refine s_iload_n dX8_event_12 rfl ?_
  refine s_iconst (v := 0) dX8_event_13 rfl ?_
  refine s_iconst (v := 2) dX8_event_14 rfl ?_
  refine s_cs1 dX8_event_15 g_X8_5 (c_X8_isIn) rfl rfl (Nat.le_of_ble_eq_true rfl) (Nat.le_of_ble_eq_true rfl) rfl ?_
  refine s_if_eq (tgt := 44) dX8_event_18 (by decide) (fun hqz => absurd hqz (by decide)) (fun hz => ?_)
  clear hz
  refine s_iload_n dX8_event_21 rfl ?_
  refine s_if_ne (tgt := 32) dX8_event_22 (by decide) (fun hqz => absurd rfl hqz) (fun hz => ?_)
  clear hz
  refine s_iload_n dX8_event_25 rfl ?_
  refine s_cs1 dX8_event_26 g_X8_122 (c_X8_isCorner) rfl rfl (Nat.le_of_ble_eq_true rfl) (Nat.le_of_ble_eq_true rfl) rfl ?_
  refine s_if_eq (tgt := 44) dX8_event_29 (by decide) (fun hqz => absurd hqz (miY (n := 7) (by omega) (by decide))) (fun hz => ?_)
  clear hz
  refine s_iload_n dX8_event_32 rfl ?_
  refine s_iconst (v := 1) dX8_event_33 rfl ?_
  refine s_icmp_ne (tgt := 46) dX8_event_34 (by decide) (fun hz => ?_) (fun hqz => absurd hqz (by decide))
  clear hz
  refine s_iload_n dX8_event_46 rfl ?_
  refine s_iconst (v := 2) dX8_event_47 rfl ?_
  refine s_icmp_ne (tgt := 58) dX8_event_48 (by decide) (fun hz => ?_) (fun hqz => absurd hqz (by decide))
  clear hz
  refine s_aload_n dX8_event_58 rfl ?_
  refine s_get dX8_event_59 f_X8_237 (by repeat (first | assumption | refine zg1 ?_ (by decide) | (refine zgs ?_; (try simp only [List.length_set]); assumption))) (by rfl) ?_
  refine s_bipush (v := 8) dX8_event_62 rfl ?_
  refine s_icmp_ne (tgt := 70) dX8_event_64 (by decide) (fun hz => ?_) (fun hqz => absurd hqz (fun q => absurd ((nI_eq (b := 8) (by omega) (by decide)).mp q) (by omega)))
  clear hz
  refine s_aload_n dX8_event_70 rfl ?_
  refine s_get dX8_event_71 f_X8_53 (by repeat (first | assumption | refine zg1 ?_ (by decide) | (refine zgs ?_; (try simp only [List.length_set]); assumption))) (by rfl) ?_
  refine s_aload_n dX8_event_74 rfl ?_
  refine s_get dX8_event_75 f_X8_237 (by repeat (first | assumption | refine zg1 ?_ (by decide) | (refine zgs ?_; (try simp only [List.length_set]); assumption))) (by rfl) ?_
  refine s_iload_n dX8_event_78 rfl ?_
  refine s_iast dX8_event_79 (by repeat (first | assumption | refine zg1 ?_ (by decide) | (refine zgs ?_; (try simp only [List.length_set]); assumption))) (zrd (n := 8) hs (by decide)) ?_
  rw [nI_clamp (by omega)]
  refine s_aload_n dX8_event_80 rfl ?_
  refine s_get dX8_event_81 f_X8_56 (by repeat (first | assumption | refine zg1 ?_ (by decide) | (refine zgs ?_; (try simp only [List.length_set]); assumption))) (by rfl) ?_
  refine s_aload_n dX8_event_84 rfl ?_
  refine s_get dX8_event_85 f_X8_237 (by repeat (first | assumption | refine zg1 ?_ (by decide) | (refine zgs ?_; (try simp only [List.length_set]); assumption))) (by rfl) ?_
  refine s_iload_n dX8_event_88 rfl ?_
  refine s_iast dX8_event_89 (by repeat (first | assumption | refine zg1 ?_ (by decide) | (refine zgs ?_; (try simp only [List.length_set]); assumption))) (zrd (n := 8) hs (by decide)) ?_
  rw [nI_clamp (by omega)]
  refine s_aload_n dX8_event_90 rfl ?_
  refine s_dup dX8_event_91 rfl ?_
  refine s_get dX8_event_92 f_X8_237 (by repeat (first | assumption | refine zg1 ?_ (by decide) | (refine zgs ?_; (try simp only [List.length_set]); assumption))) (by rfl) ?_
  refine s_iconst (v := 1) dX8_event_95 rfl ?_
  refine s_iadd dX8_event_96 ?_
  rw [nI_1]
  refine s_put dX8_event_97 f_X8_237 (by repeat (first | assumption | refine zg1 ?_ (by decide) | (refine zgs ?_; (try simp only [List.length_set]); assumption))) (fun _ => ⟨rfl, rfl⟩) (Nat.le_of_ble_eq_true rfl) ?_
  refine s_aload_n dX8_event_100 rfl ?_
  refine s_get dX8_event_101 f_X8_237 (by repeat (first | assumption | refine zg1 ?_ (by decide) | (refine zgs ?_; (try simp only [List.length_set]); assumption))) (by rfl) ?_
  exact s_iret dX8_event_104 rfl ⟨rfl, rfl⟩ (by first | rfl | (simp only [List.length_set]; rfl))
set_option maxHeartbeats 4000000 in
set_option maxRecDepth 100000 in
theorem y_event1_f {Z : zS} {d : Nat} {w : zW} {b k : Nat} {mf ma mc ms mq mu mh mp : Int32} {f g : Nat → Int32} {s : Nat} (ho : w[41]? = some (oM (nI b) (nI k) mf ma mc ms (nI s) mq mu mh mp)) (hb : b < 256) {u : Nat} (hu : u < 48) (hs : s = 8) : zF Z M_X8_event (d + 2) [.ref 41, .int (nI 1), .int (nI u)] w [.int (-4)] w := by
  show zG Z M_X8_event (d + 2) _ _ 0 [(0, .ref 41), (1, .int (nI 1)), (2, .int (nI u))] [] w
  refine s_iload_n dX8_event_0 rfl ?_
  refine s_iconst (v := (-1)) dX8_event_1 rfl ?_
  refine s_icmp_ne (tgt := 12) dX8_event_2 (by decide) (fun hz => ?_) (fun hqz => absurd hqz (by decide))
  clear hz
  refine s_iload_n dX8_event_12 rfl ?_
  refine s_iconst (v := 0) dX8_event_13 rfl ?_
  refine s_iconst (v := 2) dX8_event_14 rfl ?_
  refine s_cs1 dX8_event_15 g_X8_5 (c_X8_isIn) rfl rfl (Nat.le_of_ble_eq_true rfl) (Nat.le_of_ble_eq_true rfl) rfl ?_
  refine s_if_eq (tgt := 44) dX8_event_18 (by decide) (fun hqz => absurd hqz (by decide)) (fun hz => ?_)
  clear hz
  refine s_iload_n dX8_event_21 rfl ?_
  refine s_if_ne (tgt := 32) dX8_event_22 (by decide) (fun hz => ?_) (fun hqz => absurd hqz (by decide))
  clear hz
  refine s_iload_n dX8_event_32 rfl ?_
  refine s_iconst (v := 1) dX8_event_33 rfl ?_
  refine s_icmp_ne (tgt := 46) dX8_event_34 (by decide) (fun hqz => absurd rfl hqz) (fun hz => ?_)
  clear hz
  refine s_iload_n dX8_event_37 rfl ?_
  refine s_cs1 dX8_event_38 g_X8_129 (c_X8_isMove) rfl rfl (Nat.le_of_ble_eq_true rfl) (Nat.le_of_ble_eq_true rfl) rfl ?_
  refine s_if_ne (tgt := 46) dX8_event_41 (by decide) (fun hz => ?_) (fun hqz => absurd hqz (miY (n := 47) (by omega) (by decide)))
  clear hz
  refine s_iload_n dX8_event_46 rfl ?_
  refine s_iconst (v := 2) dX8_event_47 rfl ?_
  refine s_icmp_ne (tgt := 58) dX8_event_48 (by decide) (fun hz => ?_) (fun hqz => absurd hqz (by decide))
  clear hz
  refine s_aload_n dX8_event_58 rfl ?_
  refine s_get dX8_event_59 f_X8_237 (by first | assumption | exact zgs (zlt ho) | exact zg1 (by assumption) (by decide)) (by rfl) ?_
  refine s_bipush (v := 8) dX8_event_62 rfl ?_
  refine s_icmp_ne (tgt := 70) dX8_event_64 (by decide) (fun hqz => absurd (by rw [hs]; rfl) hqz) (fun hz => ?_)
  clear hz
  refine s_bipush (v := (-4)) dX8_event_67 rfl ?_
  exact s_iret dX8_event_69 rfl ⟨rfl, rfl⟩ (by first | rfl | exact List.length_set)
set_option maxHeartbeats 4000000 in
set_option maxRecDepth 100000 in
theorem y_event1 {Z : zS} {d : Nat} {w : zW} {b k : Nat} {mf ma mc ms mq mu mh mp : Int32} {f g : Nat → Int32} {s : Nat} (ho : w[41]? = some (oM (nI b) (nI k) mf ma mc ms (nI s) mq mu mh mp)) (hb : b < 256) (hf : w[54]? = some (aI 8 f)) (hg : w[55]? = some (aI 8 g)) {u : Nat} (hu : u < 48) (hs : s < 8) : zF Z M_X8_event (d + 2) [.ref 41, .int (nI 1), .int (nI u)] w [.int (nI (s + 1))] (((w.set 54 (aI 8 (upd f s (nI 1)))).set 55 (aI 8 (upd g s (nI u)))).set 41 (oM (nI b) (nI k) mf ma mc ms (nI (s + 1)) mq mu mh mp)) := by
  show zG Z M_X8_event (d + 2) _ _ 0 [(0, .ref 41), (1, .int (nI 1)), (2, .int (nI u))] [] w
  have l1 := zlt ho
  have l2 := zlt hf
  have l3 := zlt hg
  refine s_iload_n dX8_event_0 rfl ?_
  refine s_iconst (v := (-1)) dX8_event_1 rfl ?_
  refine s_icmp_ne (tgt := 12) dX8_event_2 (by decide) (fun hz => ?_) (fun hqz => absurd hqz (by decide))
  clear hz
  refine s_iload_n dX8_event_12 rfl ?_
  refine s_iconst (v := 0) dX8_event_13 rfl ?_
  refine s_iconst (v := 2) dX8_event_14 rfl ?_
  refine s_cs1 dX8_event_15 g_X8_5 (c_X8_isIn) rfl rfl (Nat.le_of_ble_eq_true rfl) (Nat.le_of_ble_eq_true rfl) rfl ?_
  refine s_if_eq (tgt := 44) dX8_event_18 (by decide) (fun hqz => absurd hqz (by decide)) (fun hz => ?_)
  clear hz
  refine s_iload_n dX8_event_21 rfl ?_
  refine s_if_ne (tgt := 32) dX8_event_22 (by decide) (fun hz => ?_) (fun hqz => absurd hqz (by decide))
  clear hz
  refine s_iload_n dX8_event_32 rfl ?_
  refine s_iconst (v := 1) dX8_event_33 rfl ?_
  refine s_icmp_ne (tgt := 46) dX8_event_34 (by decide) (fun hqz => absurd rfl hqz) (fun hz => ?_)
  clear hz
  refine s_iload_n dX8_event_37 rfl ?_
  refine s_cs1 dX8_event_38 g_X8_129 (c_X8_isMove) rfl rfl (Nat.le_of_ble_eq_true rfl) (Nat.le_of_ble_eq_true rfl) rfl ?_
  refine s_if_ne (tgt := 46) dX8_event_41 (by decide) (fun hz => ?_) (fun hqz => absurd hqz (miY (n := 47) (by omega) (by decide)))
  clear hz
  refine s_iload_n dX8_event_46 rfl ?_
  refine s_iconst (v := 2) dX8_event_47 rfl ?_
  refine s_icmp_ne (tgt := 58) dX8_event_48 (by decide) (fun hz => ?_) (fun hqz => absurd hqz (by decide))
  clear hz
  refine s_aload_n dX8_event_58 rfl ?_
  refine s_get dX8_event_59 f_X8_237 (by repeat (first | assumption | refine zg1 ?_ (by decide) | (refine zgs ?_; (try simp only [List.length_set]); assumption))) (by rfl) ?_
  refine s_bipush (v := 8) dX8_event_62 rfl ?_
  refine s_icmp_ne (tgt := 70) dX8_event_64 (by decide) (fun hz => ?_) (fun hqz => absurd hqz (fun q => absurd ((nI_eq (b := 8) (by omega) (by decide)).mp q) (by omega)))
  clear hz
  refine s_aload_n dX8_event_70 rfl ?_
  refine s_get dX8_event_71 f_X8_53 (by repeat (first | assumption | refine zg1 ?_ (by decide) | (refine zgs ?_; (try simp only [List.length_set]); assumption))) (by rfl) ?_
  refine s_aload_n dX8_event_74 rfl ?_
  refine s_get dX8_event_75 f_X8_237 (by repeat (first | assumption | refine zg1 ?_ (by decide) | (refine zgs ?_; (try simp only [List.length_set]); assumption))) (by rfl) ?_
  refine s_iload_n dX8_event_78 rfl ?_
  refine s_iast dX8_event_79 (by repeat (first | assumption | refine zg1 ?_ (by decide) | (refine zgs ?_; (try simp only [List.length_set]); assumption))) (zrd (n := 8) hs (by decide)) ?_
  rw [nI_clamp (by omega)]
  refine s_aload_n dX8_event_80 rfl ?_
  refine s_get dX8_event_81 f_X8_56 (by repeat (first | assumption | refine zg1 ?_ (by decide) | (refine zgs ?_; (try simp only [List.length_set]); assumption))) (by rfl) ?_
  refine s_aload_n dX8_event_84 rfl ?_
  refine s_get dX8_event_85 f_X8_237 (by repeat (first | assumption | refine zg1 ?_ (by decide) | (refine zgs ?_; (try simp only [List.length_set]); assumption))) (by rfl) ?_
  refine s_iload_n dX8_event_88 rfl ?_
  refine s_iast dX8_event_89 (by repeat (first | assumption | refine zg1 ?_ (by decide) | (refine zgs ?_; (try simp only [List.length_set]); assumption))) (zrd (n := 8) hs (by decide)) ?_
  rw [nI_clamp (by omega)]
  refine s_aload_n dX8_event_90 rfl ?_
  refine s_dup dX8_event_91 rfl ?_
  refine s_get dX8_event_92 f_X8_237 (by repeat (first | assumption | refine zg1 ?_ (by decide) | (refine zgs ?_; (try simp only [List.length_set]); assumption))) (by rfl) ?_
  refine s_iconst (v := 1) dX8_event_95 rfl ?_
  refine s_iadd dX8_event_96 ?_
  rw [nI_1]
  refine s_put dX8_event_97 f_X8_237 (by repeat (first | assumption | refine zg1 ?_ (by decide) | (refine zgs ?_; (try simp only [List.length_set]); assumption))) (fun _ => ⟨rfl, rfl⟩) (Nat.le_of_ble_eq_true rfl) ?_
  refine s_aload_n dX8_event_100 rfl ?_
  refine s_get dX8_event_101 f_X8_237 (by repeat (first | assumption | refine zg1 ?_ (by decide) | (refine zgs ?_; (try simp only [List.length_set]); assumption))) (by rfl) ?_
  exact s_iret dX8_event_104 rfl ⟨rfl, rfl⟩ (by first | rfl | (simp only [List.length_set]; rfl))
set_option maxHeartbeats 4000000 in
set_option maxRecDepth 100000 in
theorem y_event2_f {Z : zS} {d : Nat} {w : zW} {b k : Nat} {mf ma mc ms mq mu mh mp : Int32} {f g : Nat → Int32} {s : Nat} (ho : w[41]? = some (oM (nI b) (nI k) mf ma mc ms (nI s) mq mu mh mp)) (hb : b < 256)  (hs : s = 8) : zF Z M_X8_event (d + 2) [.ref 41, .int (nI 2), .int (nI 0)] w [.int (-4)] w := by
  show zG Z M_X8_event (d + 2) _ _ 0 [(0, .ref 41), (1, .int (nI 2)), (2, .int (nI 0))] [] w
  refine s_iload_n dX8_event_0 rfl ?_
  refine s_iconst (v := (-1)) dX8_event_1 rfl ?_
  refine s_icmp_ne (tgt := 12) dX8_event_2 (by decide) (fun hz => ?_) (fun hqz => absurd hqz (by decide))
  clear hz
  refine s_iload_n dX8_event_12 rfl ?_
  refine s_iconst (v := 0) dX8_event_13 rfl ?_
  refine s_iconst (v := 2) dX8_event_14 rfl ?_
  refine s_cs1 dX8_event_15 g_X8_5 (c_X8_isIn) rfl rfl (Nat.le_of_ble_eq_true rfl) (Nat.le_of_ble_eq_true rfl) rfl ?_
  refine s_if_eq (tgt := 44) dX8_event_18 (by decide) (fun hqz => absurd hqz (by decide)) (fun hz => ?_)
  clear hz
  refine s_iload_n dX8_event_21 rfl ?_
  refine s_if_ne (tgt := 32) dX8_event_22 (by decide) (fun hz => ?_) (fun hqz => absurd hqz (by decide))
  clear hz
  refine s_iload_n dX8_event_32 rfl ?_
  refine s_iconst (v := 1) dX8_event_33 rfl ?_
  refine s_icmp_ne (tgt := 46) dX8_event_34 (by decide) (fun hz => ?_) (fun hqz => absurd hqz (by decide))
  clear hz
  refine s_iload_n dX8_event_46 rfl ?_
  refine s_iconst (v := 2) dX8_event_47 rfl ?_
  refine s_icmp_ne (tgt := 58) dX8_event_48 (by decide) (fun hqz => absurd rfl hqz) (fun hz => ?_)
  clear hz
  refine s_iload_n dX8_event_51 rfl ?_
  refine s_if_eq (tgt := 58) dX8_event_52 (by decide) (fun hz => ?_) (fun hqz => absurd rfl hqz)
  clear hz
  refine s_aload_n dX8_event_58 rfl ?_
  refine s_get dX8_event_59 f_X8_237 (by first | assumption | exact zgs (zlt ho) | exact zg1 (by assumption) (by decide)) (by rfl) ?_
  refine s_bipush (v := 8) dX8_event_62 rfl ?_
  refine s_icmp_ne (tgt := 70) dX8_event_64 (by decide) (fun hqz => absurd (by rw [hs]; rfl) hqz) (fun hz => ?_)
  clear hz
  refine s_bipush (v := (-4)) dX8_event_67 rfl ?_
  exact s_iret dX8_event_69 rfl ⟨rfl, rfl⟩ (by first | rfl | exact List.length_set)
set_option maxHeartbeats 4000000 in
set_option maxRecDepth 100000 in
theorem y_event2 {Z : zS} {d : Nat} {w : zW} {b k : Nat} {mf ma mc ms mq mu mh mp : Int32} {f g : Nat → Int32} {s : Nat} (ho : w[41]? = some (oM (nI b) (nI k) mf ma mc ms (nI s) mq mu mh mp)) (hb : b < 256) (hf : w[54]? = some (aI 8 f)) (hg : w[55]? = some (aI 8 g))  (hs : s < 8) : zF Z M_X8_event (d + 2) [.ref 41, .int (nI 2), .int (nI 0)] w [.int (nI (s + 1))] (((w.set 54 (aI 8 (upd f s (nI 2)))).set 55 (aI 8 (upd g s (nI 0)))).set 41 (oM (nI b) (nI k) mf ma mc ms (nI (s + 1)) mq mu mh mp)) := by
  show zG Z M_X8_event (d + 2) _ _ 0 [(0, .ref 41), (1, .int (nI 2)), (2, .int (nI 0))] [] w
  have l1 := zlt ho
  have l2 := zlt hf
  have l3 := zlt hg
  refine s_iload_n dX8_event_0 rfl ?_
  refine s_iconst (v := (-1)) dX8_event_1 rfl ?_
  refine s_icmp_ne (tgt := 12) dX8_event_2 (by decide) (fun hz => ?_) (fun hqz => absurd hqz (by decide))
  clear hz
  refine s_iload_n dX8_event_12 rfl ?_
  refine s_iconst (v := 0) dX8_event_13 rfl ?_
  refine s_iconst (v := 2) dX8_event_14 rfl ?_
  refine s_cs1 dX8_event_15 g_X8_5 (c_X8_isIn) rfl rfl (Nat.le_of_ble_eq_true rfl) (Nat.le_of_ble_eq_true rfl) rfl ?_
  refine s_if_eq (tgt := 44) dX8_event_18 (by decide) (fun hqz => absurd hqz (by decide)) (fun hz => ?_)
  clear hz
  refine s_iload_n dX8_event_21 rfl ?_
  refine s_if_ne (tgt := 32) dX8_event_22 (by decide) (fun hz => ?_) (fun hqz => absurd hqz (by decide))
  clear hz
  refine s_iload_n dX8_event_32 rfl ?_
  refine s_iconst (v := 1) dX8_event_33 rfl ?_
  refine s_icmp_ne (tgt := 46) dX8_event_34 (by decide) (fun hz => ?_) (fun hqz => absurd hqz (by decide))
  clear hz
  refine s_iload_n dX8_event_46 rfl ?_
  refine s_iconst (v := 2) dX8_event_47 rfl ?_
  refine s_icmp_ne (tgt := 58) dX8_event_48 (by decide) (fun hqz => absurd rfl hqz) (fun hz => ?_)
  clear hz
  refine s_iload_n dX8_event_51 rfl ?_
  refine s_if_eq (tgt := 58) dX8_event_52 (by decide) (fun hz => ?_) (fun hqz => absurd rfl hqz)
  clear hz
  refine s_aload_n dX8_event_58 rfl ?_
  refine s_get dX8_event_59 f_X8_237 (by repeat (first | assumption | refine zg1 ?_ (by decide) | (refine zgs ?_; (try simp only [List.length_set]); assumption))) (by rfl) ?_
  refine s_bipush (v := 8) dX8_event_62 rfl ?_
  refine s_icmp_ne (tgt := 70) dX8_event_64 (by decide) (fun hz => ?_) (fun hqz => absurd hqz (fun q => absurd ((nI_eq (b := 8) (by omega) (by decide)).mp q) (by omega)))
  clear hz
  refine s_aload_n dX8_event_70 rfl ?_
  refine s_get dX8_event_71 f_X8_53 (by repeat (first | assumption | refine zg1 ?_ (by decide) | (refine zgs ?_; (try simp only [List.length_set]); assumption))) (by rfl) ?_
  refine s_aload_n dX8_event_74 rfl ?_
  refine s_get dX8_event_75 f_X8_237 (by repeat (first | assumption | refine zg1 ?_ (by decide) | (refine zgs ?_; (try simp only [List.length_set]); assumption))) (by rfl) ?_
  refine s_iload_n dX8_event_78 rfl ?_
  refine s_iast dX8_event_79 (by repeat (first | assumption | refine zg1 ?_ (by decide) | (refine zgs ?_; (try simp only [List.length_set]); assumption))) (zrd (n := 8) hs (by decide)) ?_
  rw [nI_clamp (by omega)]
  refine s_aload_n dX8_event_80 rfl ?_
  refine s_get dX8_event_81 f_X8_56 (by repeat (first | assumption | refine zg1 ?_ (by decide) | (refine zgs ?_; (try simp only [List.length_set]); assumption))) (by rfl) ?_
  refine s_aload_n dX8_event_84 rfl ?_
  refine s_get dX8_event_85 f_X8_237 (by repeat (first | assumption | refine zg1 ?_ (by decide) | (refine zgs ?_; (try simp only [List.length_set]); assumption))) (by rfl) ?_
  refine s_iload_n dX8_event_88 rfl ?_
  refine s_iast dX8_event_89 (by repeat (first | assumption | refine zg1 ?_ (by decide) | (refine zgs ?_; (try simp only [List.length_set]); assumption))) (zrd (n := 8) hs (by decide)) ?_
  rw [nI_clamp (by omega)]
  refine s_aload_n dX8_event_90 rfl ?_
  refine s_dup dX8_event_91 rfl ?_
  refine s_get dX8_event_92 f_X8_237 (by repeat (first | assumption | refine zg1 ?_ (by decide) | (refine zgs ?_; (try simp only [List.length_set]); assumption))) (by rfl) ?_
  refine s_iconst (v := 1) dX8_event_95 rfl ?_
  refine s_iadd dX8_event_96 ?_
  rw [nI_1]
  refine s_put dX8_event_97 f_X8_237 (by repeat (first | assumption | refine zg1 ?_ (by decide) | (refine zgs ?_; (try simp only [List.length_set]); assumption))) (fun _ => ⟨rfl, rfl⟩) (Nat.le_of_ble_eq_true rfl) ?_
  refine s_aload_n dX8_event_100 rfl ?_
  refine s_get dX8_event_101 f_X8_237 (by repeat (first | assumption | refine zg1 ?_ (by decide) | (refine zgs ?_; (try simp only [List.length_set]); assumption))) (by rfl) ?_
  exact s_iret dX8_event_104 rfl ⟨rfl, rfl⟩ (by first | rfl | (simp only [List.length_set]; rfl))
set_option maxHeartbeats 4000000 in
set_option maxRecDepth 100000 in
theorem y_book_e {Z : zS} {d : Nat} {w : zW} {b k : Nat} {mf ma mc ms me mq mu mh mp : Int32} (ho : w[41]? = some (oM (nI b) (nI k) mf ma mc ms me mq mu mh mp)) (hb : b < 256) {n : Int32} : zF Z M_X8_book (d) [.ref 41, .int (-1), .int n] w [.int 0] (w.set 41 (oM (nI b) (nI k) mf ma mc ms me 0 mu mh mp)) := by
  show zG Z M_X8_book (d) _ _ 0 [(0, .ref 41), (1, .int (-1)), (2, .int n)] [] w
  refine s_iload_n dX8_book_0 rfl ?_
  refine s_iconst (v := (-1)) dX8_book_1 rfl ?_
  refine s_icmp_ne (tgt := 12) dX8_book_2 (by decide) (fun hqz => absurd rfl hqz) (fun hz => ?_)
  clear hz
  refine s_aload_n dX8_book_5 rfl ?_
  refine s_iconst (v := 0) dX8_book_6 rfl ?_
  refine s_put dX8_book_7 f_X8_240 (by first | assumption | exact zgs (zlt ho) | exact zg1 (by assumption) (by decide)) (fun _ => ⟨rfl, rfl⟩) (Nat.le_of_ble_eq_true rfl) ?_
  refine s_iconst (v := 0) dX8_book_10 rfl ?_
  exact s_iret dX8_book_11 rfl ⟨rfl, rfl⟩ (by first | rfl | exact List.length_set)
set_option maxHeartbeats 4000000 in
set_option maxRecDepth 100000 in
theorem y_book1 {Z : zS} {d : Nat} {w : zW} {b k : Nat} {mf ma mc ms me mq mu mh mp : Int32} (ho : w[41]? = some (oM (nI b) (nI k) mf ma mc ms me mq mu mh mp)) (hb : b < 256) {c n : Int32} (h1 : ¬ c = -1) (hc : c < 0 ∨ 8 ≤ c) : zF Z M_X8_book (d + 2) [.ref 41, .int c, .int n] w [.int (-1)] w := by
  show zG Z M_X8_book (d + 2) _ _ 0 [(0, .ref 41), (1, .int c), (2, .int n)] [] w
  refine s_iload_n dX8_book_0 rfl ?_
  refine s_iconst (v := (-1)) dX8_book_1 rfl ?_
  refine s_icmp_ne (tgt := 12) dX8_book_2 (by decide) (fun hz => ?_) (fun hqz => absurd hqz h1)
  clear hz
  refine s_iload_n dX8_book_12 rfl ?_
  refine s_cs1 dX8_book_13 g_X8_122 (c_X8_isCorner) rfl rfl (Nat.le_of_ble_eq_true rfl) (Nat.le_of_ble_eq_true rfl) rfl ?_
  refine s_if_ne (tgt := 21) dX8_book_16 (by decide) (fun hqz => absurd (miN (n := 7) (by decide) hc) hqz) (fun hz => ?_)
  clear hz
  refine s_iconst (v := (-1)) dX8_book_19 rfl ?_
  exact s_iret dX8_book_20 rfl ⟨rfl, rfl⟩ (by first | rfl | exact List.length_set)
set_option maxHeartbeats 4000000 in
set_option maxRecDepth 100000 in
theorem y_book2 {Z : zS} {d : Nat} {w : zW} {b k : Nat} {mf ma mc ms me mq mu mh mp : Int32} (ho : w[41]? = some (oM (nI b) (nI k) mf ma mc ms me mq mu mh mp)) (hb : b < 256) {c : Nat} {n : Int32} (hc : c < 8) (hn : ¬ n = 0 ∧ ¬ n = 1) : zF Z M_X8_book (d + 2) [.ref 41, .int (nI c), .int n] w [.int (-2)] w := by
  show zG Z M_X8_book (d + 2) _ _ 0 [(0, .ref 41), (1, .int (nI c)), (2, .int n)] [] w
  refine s_iload_n dX8_book_0 rfl ?_
  refine s_iconst (v := (-1)) dX8_book_1 rfl ?_
  refine s_icmp_ne (tgt := 12) dX8_book_2 (by decide) (fun hz => ?_) (fun hqz => absurd hqz (znm (by omega)))
  clear hz
  refine s_iload_n dX8_book_12 rfl ?_
  refine s_cs1 dX8_book_13 g_X8_122 (c_X8_isCorner) rfl rfl (Nat.le_of_ble_eq_true rfl) (Nat.le_of_ble_eq_true rfl) rfl ?_
  refine s_if_ne (tgt := 21) dX8_book_16 (by decide) (fun hz => ?_) (fun hqz => absurd hqz (miY (n := 7) (by omega) (by decide)))
  clear hz
  refine s_iload_n dX8_book_21 rfl ?_
  refine s_iconst (v := 0) dX8_book_22 rfl ?_
  refine s_iconst (v := 1) dX8_book_23 rfl ?_
  refine s_cs1 dX8_book_24 g_X8_5 (c_X8_isIn) rfl rfl (Nat.le_of_ble_eq_true rfl) (Nat.le_of_ble_eq_true rfl) rfl ?_
  refine s_if_ne (tgt := 33) dX8_book_27 (by decide) (fun hqz => absurd (mi01 hn) hqz) (fun hz => ?_)
  clear hz
  refine s_bipush (v := (-2)) dX8_book_30 rfl ?_
  exact s_iret dX8_book_32 rfl ⟨rfl, rfl⟩ (by first | rfl | exact List.length_set)
set_option maxHeartbeats 4000000 in
set_option maxRecDepth 100000 in
theorem y_book_f {Z : zS} {d : Nat} {w : zW} {b k : Nat} {mf ma mc ms me mu mh mp : Int32} {f g : Nat → Int32} {s : Nat} (ho : w[41]? = some (oM (nI b) (nI k) mf ma mc ms me (nI s) mu mh mp)) (hb : b < 256) {c u : Nat} (hc : c < 8) (hu : u < 2) (hs : s = 8) : zF Z M_X8_book (d + 2) [.ref 41, .int (nI c), .int (nI u)] w [.int (-4)] w := by
  show zG Z M_X8_book (d + 2) _ _ 0 [(0, .ref 41), (1, .int (nI c)), (2, .int (nI u))] [] w
  refine s_iload_n dX8_book_0 rfl ?_
  refine s_iconst (v := (-1)) dX8_book_1 rfl ?_
  refine s_icmp_ne (tgt := 12) dX8_book_2 (by decide) (fun hz => ?_) (fun hqz => absurd hqz (znm (by omega)))
  clear hz
  refine s_iload_n dX8_book_12 rfl ?_
  refine s_cs1 dX8_book_13 g_X8_122 (c_X8_isCorner) rfl rfl (Nat.le_of_ble_eq_true rfl) (Nat.le_of_ble_eq_true rfl) rfl ?_
  refine s_if_ne (tgt := 21) dX8_book_16 (by decide) (fun hz => ?_) (fun hqz => absurd hqz (miY (n := 7) (by omega) (by decide)))
  clear hz
  refine s_iload_n dX8_book_21 rfl ?_
  refine s_iconst (v := 0) dX8_book_22 rfl ?_
  refine s_iconst (v := 1) dX8_book_23 rfl ?_
  refine s_cs1 dX8_book_24 g_X8_5 (c_X8_isIn) rfl rfl (Nat.le_of_ble_eq_true rfl) (Nat.le_of_ble_eq_true rfl) rfl ?_
  refine s_if_ne (tgt := 33) dX8_book_27 (by decide) (fun hz => ?_) (fun hqz => absurd hqz (miY (n := 1) (by omega) (by decide)))
  clear hz
  refine s_aload_n dX8_book_33 rfl ?_
  refine s_get dX8_book_34 f_X8_240 (by first | assumption | exact zgs (zlt ho) | exact zg1 (by assumption) (by decide)) (by rfl) ?_
  refine s_bipush (v := 8) dX8_book_37 rfl ?_
  refine s_icmp_ne (tgt := 45) dX8_book_39 (by decide) (fun hqz => absurd (by rw [hs]; rfl) hqz) (fun hz => ?_)
  clear hz
  refine s_bipush (v := (-4)) dX8_book_42 rfl ?_
  exact s_iret dX8_book_44 rfl ⟨rfl, rfl⟩ (by first | rfl | exact List.length_set)
set_option maxHeartbeats 4000000 in
set_option maxRecDepth 100000 in
theorem y_book {Z : zS} {d : Nat} {w : zW} {b k : Nat} {mf ma mc ms me mu mh mp : Int32} {f g : Nat → Int32} {s : Nat} (ho : w[41]? = some (oM (nI b) (nI k) mf ma mc ms me (nI s) mu mh mp)) (hb : b < 256) (hf : w[56]? = some (aI 8 f)) (hg : w[57]? = some (aI 8 g)) {c u : Nat} (hc : c < 8) (hu : u < 2) (hs : s < 8) : zF Z M_X8_book (d + 2) [.ref 41, .int (nI c), .int (nI u)] w [.int (nI (s + 1))] (((w.set 56 (aI 8 (upd f s (nI c)))).set 57 (aI 8 (upd g s (nI u)))).set 41 (oM (nI b) (nI k) mf ma mc ms me (nI (s + 1)) mu mh mp)) := by
  show zG Z M_X8_book (d + 2) _ _ 0 [(0, .ref 41), (1, .int (nI c)), (2, .int (nI u))] [] w
  have l1 := zlt ho
  have l2 := zlt hf
  have l3 := zlt hg
  refine s_iload_n dX8_book_0 rfl ?_
  refine s_iconst (v := (-1)) dX8_book_1 rfl ?_
  refine s_icmp_ne (tgt := 12) dX8_book_2 (by decide) (fun hz => ?_) (fun hqz => absurd hqz (znm (by omega)))
  clear hz
  refine s_iload_n dX8_book_12 rfl ?_
  refine s_cs1 dX8_book_13 g_X8_122 (c_X8_isCorner) rfl rfl (Nat.le_of_ble_eq_true rfl) (Nat.le_of_ble_eq_true rfl) rfl ?_
  refine s_if_ne (tgt := 21) dX8_book_16 (by decide) (fun hz => ?_) (fun hqz => absurd hqz (miY (n := 7) (by omega) (by decide)))
  clear hz
  refine s_iload_n dX8_book_21 rfl ?_
  refine s_iconst (v := 0) dX8_book_22 rfl ?_
  refine s_iconst (v := 1) dX8_book_23 rfl ?_
  refine s_cs1 dX8_book_24 g_X8_5 (c_X8_isIn) rfl rfl (Nat.le_of_ble_eq_true rfl) (Nat.le_of_ble_eq_true rfl) rfl ?_
  refine s_if_ne (tgt := 33) dX8_book_27 (by decide) (fun hz => ?_) (fun hqz => absurd hqz (miY (n := 1) (by omega) (by decide)))
  clear hz
  refine s_aload_n dX8_book_33 rfl ?_
  refine s_get dX8_book_34 f_X8_240 (by repeat (first | assumption | refine zg1 ?_ (by decide) | (refine zgs ?_; (try simp only [List.length_set]); assumption))) (by rfl) ?_
  refine s_bipush (v := 8) dX8_book_37 rfl ?_
  refine s_icmp_ne (tgt := 45) dX8_book_39 (by decide) (fun hz => ?_) (fun hqz => absurd hqz (fun q => absurd ((nI_eq (b := 8) (by omega) (by decide)).mp q) (by omega)))
  clear hz
  refine s_aload_n dX8_book_45 rfl ?_
  refine s_get dX8_book_46 f_X8_59 (by repeat (first | assumption | refine zg1 ?_ (by decide) | (refine zgs ?_; (try simp only [List.length_set]); assumption))) (by rfl) ?_
  refine s_aload_n dX8_book_49 rfl ?_
  refine s_get dX8_book_50 f_X8_240 (by repeat (first | assumption | refine zg1 ?_ (by decide) | (refine zgs ?_; (try simp only [List.length_set]); assumption))) (by rfl) ?_
  refine s_iload_n dX8_book_53 rfl ?_
  refine s_iast dX8_book_54 (by repeat (first | assumption | refine zg1 ?_ (by decide) | (refine zgs ?_; (try simp only [List.length_set]); assumption))) (zrd (n := 8) hs (by decide)) ?_
  rw [nI_clamp (by omega)]
  refine s_aload_n dX8_book_55 rfl ?_
  refine s_get dX8_book_56 f_X8_62 (by repeat (first | assumption | refine zg1 ?_ (by decide) | (refine zgs ?_; (try simp only [List.length_set]); assumption))) (by rfl) ?_
  refine s_aload_n dX8_book_59 rfl ?_
  refine s_get dX8_book_60 f_X8_240 (by repeat (first | assumption | refine zg1 ?_ (by decide) | (refine zgs ?_; (try simp only [List.length_set]); assumption))) (by rfl) ?_
  refine s_iload_n dX8_book_63 rfl ?_
  refine s_iast dX8_book_64 (by repeat (first | assumption | refine zg1 ?_ (by decide) | (refine zgs ?_; (try simp only [List.length_set]); assumption))) (zrd (n := 8) hs (by decide)) ?_
  rw [nI_clamp (by omega)]
  refine s_aload_n dX8_book_65 rfl ?_
  refine s_dup dX8_book_66 rfl ?_
  refine s_get dX8_book_67 f_X8_240 (by repeat (first | assumption | refine zg1 ?_ (by decide) | (refine zgs ?_; (try simp only [List.length_set]); assumption))) (by rfl) ?_
  refine s_iconst (v := 1) dX8_book_70 rfl ?_
  refine s_iadd dX8_book_71 ?_
  rw [nI_1]
  refine s_put dX8_book_72 f_X8_240 (by repeat (first | assumption | refine zg1 ?_ (by decide) | (refine zgs ?_; (try simp only [List.length_set]); assumption))) (fun _ => ⟨rfl, rfl⟩) (Nat.le_of_ble_eq_true rfl) ?_
  refine s_aload_n dX8_book_75 rfl ?_
  refine s_get dX8_book_76 f_X8_240 (by repeat (first | assumption | refine zg1 ?_ (by decide) | (refine zgs ?_; (try simp only [List.length_set]); assumption))) (by rfl) ?_
  exact s_iret dX8_book_79 rfl ⟨rfl, rfl⟩ (by first | rfl | (simp only [List.length_set]; rfl))
set_option maxHeartbeats 4000000 in
set_option maxRecDepth 100000 in
theorem l_X8_looked {Z : zS} {d : Nat} {w : zW} {b k : Nat} {mf ma mc ms me mu mh mp : Int32} {f g : Nat → Int32} {s : Nat} (ho : w[41]? = some (oM (nI b) (nI k) mf ma mc ms me (nI s) mu mh mp)) (hb : b < 256) (hf : w[56]? = some (aI 8 f)) (hg : w[57]? = some (aI 8 g)) (hs : s ≤ 8) : ∀ (n : Nat) (r : Nat), r + n = s → zG Z M_X8_looked (d) (fun r1 w1 => r1 = [.int (kLK b f g n r)] ∧ w1 = w) w.length 2 [(0, .ref 41), (1, .int (nI r))] [] w := by
  intro n
  induction n with
  | zero =>
    intro r hr
    have hr : r = s := by omega
    subst hr
    refine s_iload_n dX8_looked_2 rfl ?_
    refine s_aload_n dX8_looked_3 rfl ?_
    refine s_get dX8_looked_4 f_X8_240 (by assumption) (by rfl) ?_
    refine s_icmp_ge (tgt := 40) dX8_looked_7 (by decide) (fun hz => ?_) (fun hqz => absurd (nI_le (Nat.le_refl _) (by omega)) hqz)
    clear hz
    refine s_bipush (v := (-5)) dX8_looked_40 rfl ?_
    exact s_iret dX8_looked_42 rfl ⟨rfl, rfl⟩ rfl
  | succ n ih =>
    intro r hr
    have hm : r < s := by omega
    refine s_iload_n dX8_looked_2 rfl ?_
    refine s_aload_n dX8_looked_3 rfl ?_
    refine s_get dX8_looked_4 f_X8_240 (by assumption) (by rfl) ?_
    refine s_icmp_ge (tgt := 40) dX8_looked_7 (by decide) (fun hqz => absurd hqz (nI_ge hm (by omega))) (fun hz => ?_)
    clear hz
    refine s_aload_n dX8_looked_10 rfl ?_
    refine s_get dX8_looked_11 f_X8_125 (by assumption) (by rfl) ?_
    refine s_aload_n dX8_looked_14 rfl ?_
    refine s_get dX8_looked_15 f_X8_59 (by assumption) (by rfl) ?_
    refine s_iload_n dX8_looked_18 rfl ?_
    refine s_iald dX8_looked_19 (by assumption) (zrd (n := 8) (by omega) (by decide)) ?_
    rw [nI_clamp (by omega)]
    refine s_ishr dX8_looked_20 ?_
    refine s_iconst (v := 1) dX8_looked_21 rfl ?_
    refine s_iand dX8_looked_22 ?_
    refine s_aload_n dX8_looked_23 rfl ?_
    refine s_get dX8_looked_24 f_X8_62 (by assumption) (by rfl) ?_
    refine s_iload_n dX8_looked_27 rfl ?_
    refine s_iald dX8_looked_28 (by assumption) (zrd (n := 8) (by omega) (by decide)) ?_
    rw [nI_clamp (by omega), show nI b >>> (f r &&& 31) &&& 1 = zBT b (f r) from rfl]
    refine s_icmp_eq (tgt := 34) dX8_looked_29 (by decide) (fun h_29 => ?_) (fun h_29 => ?_)
    · refine s_iinc (nI (r + 1)) dX8_looked_34 rfl (nI_1 _) (Nat.le_of_ble_eq_true rfl) rfl ?_
      refine s_goto (tgt := 2) dX8_looked_37 (by decide) ?_
      rw [show kLK b f g (n + 1) r = kLK b f g n (r + 1) from by rw [kLK, if_pos h_29]]
      exact ih (r + 1) (by omega)
    · refine s_iload_n dX8_looked_32 rfl ?_
      exact s_iret dX8_looked_33 rfl ⟨by rw [kLK, if_neg h_29], rfl⟩ rfl
set_option maxHeartbeats 4000000 in
set_option maxRecDepth 100000 in
theorem y_looked {Z : zS} {d : Nat} {w : zW} {b k : Nat} {mf ma mc ms me mu mh mp : Int32} {f g : Nat → Int32} {s : Nat} (ho : w[41]? = some (oM (nI b) (nI k) mf ma mc ms me (nI s) mu mh mp)) (hb : b < 256) (hf : w[56]? = some (aI 8 f)) (hg : w[57]? = some (aI 8 g)) (hs : s ≤ 8) : zF Z M_X8_looked (d) [.ref 41] w [.int (kLK b f g s 0)] w := by
  show zG Z M_X8_looked (d) _ _ 0 [(0, .ref 41)] [] w
  refine s_iconst (v := 0) dX8_looked_0 rfl ?_
  refine s_istore_n dX8_looked_1 (Nat.le_of_ble_eq_true rfl) rfl ?_
  exact l_X8_looked ho hb hf hg hs s 0 (by omega)
set_option maxHeartbeats 4000000 in
set_option maxRecDepth 100000 in
theorem l_X8_after {Z : zS} {d : Nat} {w : zW} {Q : List Value → zW → Prop} {c1 : Int32} {b k : Nat} {mf ma mc ms mq mu mh mp : Int32} {f g : Nat → Int32} {s : Nat} (ho : w[41]? = some (oM (nI b) (nI k) mf ma mc ms (nI s) mq mu mh mp)) (hb : b < 256) {cm : Nat → Int32} (hcm : w[42]? = some (aI 384 cm)) (hC : CMok cm) (hf : w[54]? = some (aI 8 f)) (hg : w[55]? = some (aI 8 g)) (hs : s ≤ 8) (hE : EVok f g s) : ∀ (n r c : Nat), r + n = s → c < 256 → (K : zG Z M_X8_after (d + 1) Q w.length 84 [(0, .ref 41), (1, .int c1), (2, .int (nI (kBA f g n r c)))] [] w) → zG Z M_X8_after (d + 1) Q w.length 18 [(0, .ref 41), (1, .int c1), (2, .int (nI c)), (3, .int (nI r))] [] w := by
  intro n
  induction n with
  | zero =>
    intro r c hr hc K
    have hr : r = s := by omega
    subst hr
    refine s_iload_n dX8_after_18 rfl ?_
    refine s_aload_n dX8_after_19 rfl ?_
    refine s_get dX8_after_20 f_X8_237 (by first | assumption | exact zgs (zlt ho) | exact zg1 (by assumption) (by decide)) (by rfl) ?_
    refine s_icmp_ge (tgt := 84) dX8_after_23 (by decide) (fun hz => ?_) (fun hqz => absurd (nI_le (Nat.le_refl _) (by omega)) hqz)
    clear hz
    refine s_take 3 ?_
    exact K
  | succ n ih =>
    intro r c hr hc K
    have hm : r < s := by omega
    have hlt := kEV_lt hE hm hc
    rw [show kBA f g (n + 1) r c = kBA f g n (r + 1) (kEV (f r) (g r) c) from rfl] at K
    have K2 := ih (r + 1) (kEV (f r) (g r) c) (by omega) hlt K
    rcases hE r hm with ⟨h1, u, hu, h2⟩ | ⟨h1, u, hu, h2⟩ | h1
    · rw [show kEV (f r) (g r) c = c ^^^ 2 ^ u from by rw [kEV, if_pos h1, h2, nI_clamp (by omega)]] at K2
      refine s_iload_n dX8_after_18 rfl ?_
      refine s_aload_n dX8_after_19 rfl ?_
      refine s_get dX8_after_20 f_X8_237 (by first | assumption | exact zgs (zlt ho) | exact zg1 (by assumption) (by decide)) (by rfl) ?_
      refine s_icmp_ge (tgt := 84) dX8_after_23 (by decide) (fun hqz => absurd hqz (nI_ge hm (by omega))) (fun hz => ?_)
      clear hz
      refine s_aload_n dX8_after_26 rfl ?_
      refine s_get dX8_after_27 f_X8_53 (by first | assumption | exact zgs (zlt ho) | exact zg1 (by assumption) (by decide)) (by rfl) ?_
      refine s_iload_n dX8_after_30 rfl ?_
      refine s_iald dX8_after_31 (by first | assumption | exact zgs (zlt ho) | exact zg1 (by assumption) (by decide)) (zrd (n := 8) (by omega) (by decide)) ?_
      rw [nI_clamp (by omega), h1]
      refine s_if_ne (tgt := 48) dX8_after_32 (by decide) (fun hqz => absurd rfl hqz) (fun hz => ?_)
      clear hz
      refine s_iload_n dX8_after_35 rfl ?_
      refine s_iconst (v := 1) dX8_after_36 rfl ?_
      refine s_aload_n dX8_after_37 rfl ?_
      refine s_get dX8_after_38 f_X8_56 (by first | assumption | exact zgs (zlt ho) | exact zg1 (by assumption) (by decide)) (by rfl) ?_
      refine s_iload_n dX8_after_41 rfl ?_
      refine s_iald dX8_after_42 (by first | assumption | exact zgs (zlt ho) | exact zg1 (by assumption) (by decide)) (zrd (n := 8) (by omega) (by decide)) ?_
      rw [nI_clamp (by omega), h2]
      refine s_ishl dX8_after_43 ?_
      refine s_ixor dX8_after_44 ?_
      refine s_goto (tgt := 77) dX8_after_45 (by decide) ?_
      rw [zsh8 u (by omega), fb_xorI]
      refine s_istore_n dX8_after_77 (Nat.le_of_ble_eq_true rfl) rfl ?_
      refine s_iinc (nI (r + 1)) dX8_after_78 rfl (nI_1 _) (Nat.le_of_ble_eq_true rfl) rfl ?_
      refine s_goto (tgt := 18) dX8_after_81 (by decide) ?_
      exact K2
    · rw [show kEV (f r) (g r) c = pIMG u c from by rw [kEV, if_neg (by rw [h1]; decide), if_pos h1, h2, nI_clamp (by omega)]] at K2
      refine s_iload_n dX8_after_18 rfl ?_
      refine s_aload_n dX8_after_19 rfl ?_
      refine s_get dX8_after_20 f_X8_237 (by first | assumption | exact zgs (zlt ho) | exact zg1 (by assumption) (by decide)) (by rfl) ?_
      refine s_icmp_ge (tgt := 84) dX8_after_23 (by decide) (fun hqz => absurd hqz (nI_ge hm (by omega))) (fun hz => ?_)
      clear hz
      refine s_aload_n dX8_after_26 rfl ?_
      refine s_get dX8_after_27 f_X8_53 (by first | assumption | exact zgs (zlt ho) | exact zg1 (by assumption) (by decide)) (by rfl) ?_
      refine s_iload_n dX8_after_30 rfl ?_
      refine s_iald dX8_after_31 (by first | assumption | exact zgs (zlt ho) | exact zg1 (by assumption) (by decide)) (zrd (n := 8) (by omega) (by decide)) ?_
      rw [nI_clamp (by omega), h1]
      refine s_if_ne (tgt := 48) dX8_after_32 (by decide) (fun hz => ?_) (fun hqz => absurd hqz (by decide))
      clear hz
      refine s_aload_n dX8_after_48 rfl ?_
      refine s_get dX8_after_49 f_X8_53 (by first | assumption | exact zgs (zlt ho) | exact zg1 (by assumption) (by decide)) (by rfl) ?_
      refine s_iload_n dX8_after_52 rfl ?_
      refine s_iald dX8_after_53 (by first | assumption | exact zgs (zlt ho) | exact zg1 (by assumption) (by decide)) (zrd (n := 8) (by omega) (by decide)) ?_
      rw [nI_clamp (by omega), h1]
      refine s_iconst (v := 1) dX8_after_54 rfl ?_
      refine s_icmp_ne (tgt := 72) dX8_after_55 (by decide) (fun hqz => absurd rfl hqz) (fun hz => ?_)
      clear hz
      refine s_aload_n dX8_after_58 rfl ?_
      refine s_iload_n dX8_after_59 rfl ?_
      refine s_aload_n dX8_after_60 rfl ?_
      refine s_get dX8_after_61 f_X8_56 (by first | assumption | exact zgs (zlt ho) | exact zg1 (by assumption) (by decide)) (by rfl) ?_
      refine s_iload_n dX8_after_64 rfl ?_
      refine s_iald dX8_after_65 (by first | assumption | exact zgs (zlt ho) | exact zg1 (by assumption) (by decide)) (zrd (n := 8) (by omega) (by decide)) ?_
      rw [nI_clamp (by omega), h2]
      refine s_cv1 dX8_after_66 g_X8_81 (c_X8_imageOf ho hcm hC hu hc) (by first | assumption | exact zgs (zlt ho) | exact zg1 (by assumption) (by decide)) rfl rfl rfl rfl (Nat.le_of_ble_eq_true rfl) (Nat.le_of_ble_eq_true rfl) rfl ?_
      refine s_goto (tgt := 77) dX8_after_69 (by decide) ?_
      refine s_istore_n dX8_after_77 (Nat.le_of_ble_eq_true rfl) rfl ?_
      refine s_iinc (nI (r + 1)) dX8_after_78 rfl (nI_1 _) (Nat.le_of_ble_eq_true rfl) rfl ?_
      refine s_goto (tgt := 18) dX8_after_81 (by decide) ?_
      exact K2
    · rw [show kEV (f r) (g r) c = c ^^^ 255 from by rw [kEV, if_neg (by rw [h1]; decide), if_neg (by rw [h1]; decide)]] at K2
      refine s_iload_n dX8_after_18 rfl ?_
      refine s_aload_n dX8_after_19 rfl ?_
      refine s_get dX8_after_20 f_X8_237 (by first | assumption | exact zgs (zlt ho) | exact zg1 (by assumption) (by decide)) (by rfl) ?_
      refine s_icmp_ge (tgt := 84) dX8_after_23 (by decide) (fun hqz => absurd hqz (nI_ge hm (by omega))) (fun hz => ?_)
      clear hz
      refine s_aload_n dX8_after_26 rfl ?_
      refine s_get dX8_after_27 f_X8_53 (by first | assumption | exact zgs (zlt ho) | exact zg1 (by assumption) (by decide)) (by rfl) ?_
      refine s_iload_n dX8_after_30 rfl ?_
      refine s_iald dX8_after_31 (by first | assumption | exact zgs (zlt ho) | exact zg1 (by assumption) (by decide)) (zrd (n := 8) (by omega) (by decide)) ?_
      rw [nI_clamp (by omega), h1]
      refine s_if_ne (tgt := 48) dX8_after_32 (by decide) (fun hz => ?_) (fun hqz => absurd hqz (by decide))
      clear hz
      refine s_aload_n dX8_after_48 rfl ?_
      refine s_get dX8_after_49 f_X8_53 (by first | assumption | exact zgs (zlt ho) | exact zg1 (by assumption) (by decide)) (by rfl) ?_
      refine s_iload_n dX8_after_52 rfl ?_
      refine s_iald dX8_after_53 (by first | assumption | exact zgs (zlt ho) | exact zg1 (by assumption) (by decide)) (zrd (n := 8) (by omega) (by decide)) ?_
      rw [nI_clamp (by omega), h1]
      refine s_iconst (v := 1) dX8_after_54 rfl ?_
      refine s_icmp_ne (tgt := 72) dX8_after_55 (by decide) (fun hz => ?_) (fun hqz => absurd hqz (by decide))
      clear hz
      refine s_sipush (v := 255) dX8_after_72 rfl ?_
      refine s_iload_n dX8_after_75 rfl ?_
      refine s_isub dX8_after_76 ?_
      rw [q_255 c hc]
      refine s_istore_n dX8_after_77 (Nat.le_of_ble_eq_true rfl) rfl ?_
      refine s_iinc (nI (r + 1)) dX8_after_78 rfl (nI_1 _) (Nat.le_of_ble_eq_true rfl) rfl ?_
      refine s_goto (tgt := 18) dX8_after_81 (by decide) ?_
      exact K2
set_option maxHeartbeats 4000000 in
set_option maxRecDepth 100000 in
theorem y_after_no {Z : zS} {d : Nat} {w : zW} {b k : Nat} {mf ma mc ms me mq mu mh mp : Int32} (ho : w[41]? = some (oM (nI b) (nI k) mf ma mc ms me mq mu mh mp)) (hb : b < 256) {c : Int32} (hc : c < 0 ∨ 3 ≤ c) : zF Z M_X8_after (d + 1) [.ref 41, .int c] w [.int (-1)] w := by
  show zG Z M_X8_after (d + 1) _ _ 0 [(0, .ref 41), (1, .int c)] [] w
  refine s_iload_n dX8_after_0 rfl ?_
  refine s_iconst (v := 0) dX8_after_1 rfl ?_
  refine s_iconst (v := 2) dX8_after_2 rfl ?_
  refine s_cs1 dX8_after_3 g_X8_5 (c_X8_isIn) rfl rfl (Nat.le_of_ble_eq_true rfl) (Nat.le_of_ble_eq_true rfl) rfl ?_
  refine s_if_ne (tgt := 11) dX8_after_6 (by decide) (fun hqz => absurd (miN (n := 2) (by decide) hc) hqz) (fun hz => ?_)
  clear hz
  refine s_iconst (v := (-1)) dX8_after_9 rfl ?_
  exact s_iret dX8_after_10 rfl ⟨rfl, rfl⟩ (by first | rfl | exact List.length_set)
set_option maxHeartbeats 4000000 in
set_option maxRecDepth 100000 in
theorem y_after0 {Z : zS} {d : Nat} {w : zW} {b k : Nat} {mf ma mc ms mq mu mh mp : Int32} {f g : Nat → Int32} {s : Nat} (ho : w[41]? = some (oM (nI b) (nI k) mf ma mc ms (nI s) mq mu mh mp)) (hb : b < 256) {cm : Nat → Int32} (hcm : w[42]? = some (aI 384 cm)) (hC : CMok cm) (hf : w[54]? = some (aI 8 f)) (hg : w[55]? = some (aI 8 g)) (hs : s ≤ 8) (hE : EVok f g s)  : zF Z M_X8_after (d + 1) [.ref 41, .int (nI 0)] w [.int (nI (kBA f g s 0 b))] w := by
  show zG Z M_X8_after (d + 1) _ _ 0 [(0, .ref 41), (1, .int (nI 0))] [] w
  have hlt := kBA_lt hE s 0 b (by omega) hb
  refine s_iload_n dX8_after_0 rfl ?_
  refine s_iconst (v := 0) dX8_after_1 rfl ?_
  refine s_iconst (v := 2) dX8_after_2 rfl ?_
  refine s_cs1 dX8_after_3 g_X8_5 (c_X8_isIn) rfl rfl (Nat.le_of_ble_eq_true rfl) (Nat.le_of_ble_eq_true rfl) rfl ?_
  refine s_if_ne (tgt := 11) dX8_after_6 (by decide) (fun hz => ?_) (fun hqz => absurd hqz (by decide))
  clear hz
  refine s_aload_n dX8_after_11 rfl ?_
  refine s_get dX8_after_12 f_X8_125 (by first | assumption | exact zgs (zlt ho) | exact zg1 (by assumption) (by decide)) (by rfl) ?_
  refine s_istore_n dX8_after_15 (Nat.le_of_ble_eq_true rfl) rfl ?_
  refine s_iconst (v := 0) dX8_after_16 rfl ?_
  refine s_istore_n dX8_after_17 (Nat.le_of_ble_eq_true rfl) rfl ?_
  refine l_X8_after ho hb hcm hC hf hg hs hE s 0 b (by omega) hb ?_
  refine s_iload_n dX8_after_84 rfl ?_
  refine s_if_ne (tgt := 92) dX8_after_85 (by decide) (fun hqz => absurd rfl hqz) (fun hz => ?_)
  clear hz
  refine s_iload_n dX8_after_88 rfl ?_
  refine s_goto (tgt := 110) dX8_after_89 (by decide) ?_
  exact s_iret dX8_after_110 rfl ⟨rfl, rfl⟩ (by first | rfl | exact List.length_set)
set_option maxHeartbeats 4000000 in
set_option maxRecDepth 100000 in
theorem y_after1 {Z : zS} {d : Nat} {w : zW} {b k : Nat} {mf ma mc ms mq mu mh mp : Int32} {f g : Nat → Int32} {s : Nat} (ho : w[41]? = some (oM (nI b) (nI k) mf ma mc ms (nI s) mq mu mh mp)) (hb : b < 256) {cm : Nat → Int32} (hcm : w[42]? = some (aI 384 cm)) (hC : CMok cm) (hf : w[54]? = some (aI 8 f)) (hg : w[55]? = some (aI 8 g)) (hs : s ≤ 8) (hE : EVok f g s)  : zF Z M_X8_after (d + 7) [.ref 41, .int (nI 1)] w [.int (kSIX (kBA f g s 0 b))] w := by
  show zG Z M_X8_after (d + 7) _ _ 0 [(0, .ref 41), (1, .int (nI 1))] [] w
  have hlt := kBA_lt hE s 0 b (by omega) hb
  refine s_iload_n dX8_after_0 rfl ?_
  refine s_iconst (v := 0) dX8_after_1 rfl ?_
  refine s_iconst (v := 2) dX8_after_2 rfl ?_
  refine s_cs1 dX8_after_3 g_X8_5 (c_X8_isIn) rfl rfl (Nat.le_of_ble_eq_true rfl) (Nat.le_of_ble_eq_true rfl) rfl ?_
  refine s_if_ne (tgt := 11) dX8_after_6 (by decide) (fun hz => ?_) (fun hqz => absurd hqz (by decide))
  clear hz
  refine s_aload_n dX8_after_11 rfl ?_
  refine s_get dX8_after_12 f_X8_125 (by first | assumption | exact zgs (zlt ho) | exact zg1 (by assumption) (by decide)) (by rfl) ?_
  refine s_istore_n dX8_after_15 (Nat.le_of_ble_eq_true rfl) rfl ?_
  refine s_iconst (v := 0) dX8_after_16 rfl ?_
  refine s_istore_n dX8_after_17 (Nat.le_of_ble_eq_true rfl) rfl ?_
  refine l_X8_after ho hb hcm hC hf hg hs hE s 0 b (by omega) hb ?_
  refine s_iload_n dX8_after_84 rfl ?_
  refine s_if_ne (tgt := 92) dX8_after_85 (by decide) (fun hz => ?_) (fun hqz => absurd hqz (by decide))
  clear hz
  refine s_iload_n dX8_after_92 rfl ?_
  refine s_iconst (v := 1) dX8_after_93 rfl ?_
  refine s_icmp_ne (tgt := 104) dX8_after_94 (by decide) (fun hqz => absurd rfl hqz) (fun hz => ?_)
  clear hz
  refine s_iload_n dX8_after_97 rfl ?_
  refine s_cs1 dX8_after_98 g_X8_195 (c_X8_sixfold hlt) rfl rfl (Nat.le_of_ble_eq_true rfl) (Nat.le_of_ble_eq_true rfl) rfl ?_
  refine s_goto (tgt := 110) dX8_after_101 (by decide) ?_
  exact s_iret dX8_after_110 rfl ⟨rfl, rfl⟩ (by first | rfl | exact List.length_set)
set_option maxHeartbeats 4000000 in
set_option maxRecDepth 100000 in
theorem y_after2 {Z : zS} {d : Nat} {w : zW} {b k : Nat} {mf ma mc ms mq mu mh mp : Int32} {f g : Nat → Int32} {s : Nat} (ho : w[41]? = some (oM (nI b) (nI k) mf ma mc ms (nI s) mq mu mh mp)) (hb : b < 256) {cm : Nat → Int32} (hcm : w[42]? = some (aI 384 cm)) (hC : CMok cm) (hf : w[54]? = some (aI 8 f)) (hg : w[55]? = some (aI 8 g)) (hs : s ≤ 8) (hE : EVok f g s) {nu : Nat → Int32} (hnu : w[44]? = some (aI 256 nu)) (hN : NUok nu) : zF Z M_X8_after (d + 1) [.ref 41, .int (nI 2)] w [.int (nI (pNUM (kBA f g s 0 b)))] w := by
  show zG Z M_X8_after (d + 1) _ _ 0 [(0, .ref 41), (1, .int (nI 2))] [] w
  have hlt := kBA_lt hE s 0 b (by omega) hb
  refine s_iload_n dX8_after_0 rfl ?_
  refine s_iconst (v := 0) dX8_after_1 rfl ?_
  refine s_iconst (v := 2) dX8_after_2 rfl ?_
  refine s_cs1 dX8_after_3 g_X8_5 (c_X8_isIn) rfl rfl (Nat.le_of_ble_eq_true rfl) (Nat.le_of_ble_eq_true rfl) rfl ?_
  refine s_if_ne (tgt := 11) dX8_after_6 (by decide) (fun hz => ?_) (fun hqz => absurd hqz (by decide))
  clear hz
  refine s_aload_n dX8_after_11 rfl ?_
  refine s_get dX8_after_12 f_X8_125 (by first | assumption | exact zgs (zlt ho) | exact zg1 (by assumption) (by decide)) (by rfl) ?_
  refine s_istore_n dX8_after_15 (Nat.le_of_ble_eq_true rfl) rfl ?_
  refine s_iconst (v := 0) dX8_after_16 rfl ?_
  refine s_istore_n dX8_after_17 (Nat.le_of_ble_eq_true rfl) rfl ?_
  refine l_X8_after ho hb hcm hC hf hg hs hE s 0 b (by omega) hb ?_
  refine s_iload_n dX8_after_84 rfl ?_
  refine s_if_ne (tgt := 92) dX8_after_85 (by decide) (fun hz => ?_) (fun hqz => absurd hqz (by decide))
  clear hz
  refine s_iload_n dX8_after_92 rfl ?_
  refine s_iconst (v := 1) dX8_after_93 rfl ?_
  refine s_icmp_ne (tgt := 104) dX8_after_94 (by decide) (fun hz => ?_) (fun hqz => absurd hqz (by decide))
  clear hz
  refine s_aload_n dX8_after_104 rfl ?_
  refine s_get dX8_after_105 f_X8_22 (by first | assumption | exact zgs (zlt ho) | exact zg1 (by assumption) (by decide)) (by rfl) ?_
  refine s_iload_n dX8_after_108 rfl ?_
  refine s_iald dX8_after_109 (by first | assumption | exact zgs (zlt ho) | exact zg1 (by assumption) (by decide)) (zrd (n := 256) hlt (by decide)) ?_
  rw [nI_clamp (by omega), hN _ hlt]
  exact s_iret dX8_after_110 rfl ⟨rfl, rfl⟩ (by first | rfl | exact List.length_set)
