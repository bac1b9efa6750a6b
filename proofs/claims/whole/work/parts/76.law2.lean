/-! ===== the law: its loop, its start ===== -/
set_option maxHeartbeats 4000000 in
set_option maxRecDepth 100000 in
theorem o_all {Z : zS} {nm : String} {Q : List Value → zW → Prop} {n : Nat} {w : zW} (hL : Z.1 ≤ 3072) (hn : n + 6 ≤ Z.1) (h : INV w) (K : ∀ w2, INV w2 → zG Z (M_L nm) 10 Q 0 1187 (lvL n) [] w2) (j : Nat) (hj : j < 64) : zG Z (M_L nm) 10 Q 0 33 (lvL n) [.int (nI j)] w := by
  by_cases h35 : 35 ≤ j
  · refine s_tableOut (tgt := 1187) dL_law_33 (Or.inr ?_) (by decide) (K w h)
    rw [nI_toInt (by omega)]
    omega
  rcases (show j = 0 ∨ j = 1 ∨ j = 2 ∨ j = 3 ∨ j = 4 ∨ j = 5 ∨ j = 6 ∨ j = 7 ∨ j = 8 ∨ j = 9 ∨ j = 10 ∨ j = 11 ∨ j = 12 ∨ j = 13 ∨ j = 14 ∨ j = 15 ∨ j = 16 ∨ j = 17 ∨ j = 18 ∨ j = 19 ∨ j = 20 ∨ j = 21 ∨ j = 22 ∨ j = 23 ∨ j = 24 ∨ j = 25 ∨ j = 26 ∨ j = 27 ∨ j = 28 ∨ j = 29 ∨ j = 30 ∨ j = 31 ∨ j = 32 ∨ j = 33 ∨ j = 34 by omega) with rfl | rfl | rfl | rfl | rfl | rfl | rfl | rfl | rfl | rfl | rfl | rfl | rfl | rfl | rfl | rfl | rfl | rfl | rfl | rfl | rfl | rfl | rfl | rfl | rfl | rfl | rfl | rfl | rfl | rfl | rfl | rfl | rfl | rfl | rfl
  · refine s_tableIn (off := 155) (tgt := 188) dL_law_33 (by decide) (by decide) (by rfl) (by decide) ?_
    exact o_corner hL hn h K
  · refine s_tableIn (off := 188) (tgt := 221) dL_law_33 (by decide) (by decide) (by rfl) (by decide) ?_
    exact o_code hL hn h K
  · refine s_tableIn (off := 211) (tgt := 244) dL_law_33 (by decide) (by decide) (by rfl) (by decide) ?_
    exact o_move hL hn h K
  · refine s_tableIn (off := 234) (tgt := 267) dL_law_33 (by decide) (by decide) (by rfl) (by decide) ?_
    exact o_becomes hL hn h K
  · refine s_tableIn (off := 257) (tgt := 290) dL_law_33 (by decide) (by decide) (by rfl) (by decide) ?_
    exact o_keep hL hn h K
  · refine s_tableIn (off := 270) (tgt := 303) dL_law_33 (by decide) (by decide) (by rfl) (by decide) ?_
    exact o_feed hL hn h K
  · refine s_tableIn (off := 293) (tgt := 326) dL_law_33 (by decide) (by decide) (by rfl) (by decide) ?_
    exact o_read hL hn h K
  · refine s_tableIn (off := 306) (tgt := 339) dL_law_33 (by decide) (by decide) (by rfl) (by decide) ?_
    exact o_told hL hn h K
  · refine s_tableIn (off := 329) (tgt := 362) dL_law_33 (by decide) (by decide) (by rfl) (by decide) ?_
    exact o_carried hL hn h K
  · refine s_tableIn (off := 362) (tgt := 395) dL_law_33 (by decide) (by decide) (by rfl) (by decide) ?_
    exact o_imaged hL hn h K
  · refine s_tableIn (off := 385) (tgt := 418) dL_law_33 (by decide) (by decide) (by rfl) (by decide) ?_
    exact o_form hL hn h K
  · refine s_tableIn (off := 408) (tgt := 441) dL_law_33 (by decide) (by decide) (by rfl) (by decide) ?_
    exact o_classes hL hn h K
  · refine s_tableIn (off := 431) (tgt := 464) dL_law_33 (by decide) (by decide) (by rfl) (by decide) ?_
    exact o_weighs hL hn h K
  · refine s_tableIn (off := 484) (tgt := 517) dL_law_33 (by decide) (by decide) (by rfl) (by decide) ?_
    exact o_face hL hn h K
  · refine s_tableIn (off := 507) (tgt := 540) dL_law_33 (by decide) (by decide) (by rfl) (by decide) ?_
    exact o_edge hL hn h K
  · refine s_tableIn (off := 540) (tgt := 573) dL_law_33 (by decide) (by decide) (by rfl) (by decide) ?_
    exact o_points hL hn h K
  · refine s_tableIn (off := 563) (tgt := 596) dL_law_33 (by decide) (by decide) (by rfl) (by decide) ?_
    exact o_holds hL hn h K
  · refine s_tableIn (off := 616) (tgt := 649) dL_law_33 (by decide) (by decide) (by rfl) (by decide) ?_
    exact o_floats hL hn h K
  · refine s_tableIn (off := 639) (tgt := 672) dL_law_33 (by decide) (by decide) (by rfl) (by decide) ?_
    exact o_spread hL hn h K
  · refine s_tableIn (off := 653) (tgt := 686) dL_law_33 (by decide) (by decide) (by rfl) (by decide) ?_
    exact o_see hL hn h K
  · refine s_tableIn (off := 686) (tgt := 719) dL_law_33 (by decide) (by decide) (by rfl) (by decide) ?_
    exact o_fits hL hn h K
  · refine s_tableIn (off := 699) (tgt := 732) dL_law_33 (by decide) (by decide) (by rfl) (by decide) ?_
    exact o_odds hL hn h K
  · refine s_tableIn (off := 733) (tgt := 766) dL_law_33 (by decide) (by decide) (by rfl) (by decide) ?_
    exact o_mean hL hn h K
  · refine s_tableIn (off := 757) (tgt := 790) dL_law_33 (by decide) (by decide) (by rfl) (by decide) ?_
    exact o_event hL hn h K
  · refine s_tableIn (off := 790) (tgt := 823) dL_law_33 (by decide) (by decide) (by rfl) (by decide) ?_
    exact o_after hL hn h K
  · refine s_tableIn (off := 813) (tgt := 846) dL_law_33 (by decide) (by decide) (by rfl) (by decide) ?_
    exact o_book hL hn h K
  · refine s_tableIn (off := 846) (tgt := 879) dL_law_33 (by decide) (by decide) (by rfl) (by decide) ?_
    exact o_looked hL hn h K
  · refine s_tableIn (off := 859) (tgt := 892) dL_law_33 (by decide) (by decide) (by rfl) (by decide) ?_
    exact o_judge hL hn h K
  · refine s_tableIn (off := 892) (tgt := 925) dL_law_33 (by decide) (by decide) (by rfl) (by decide) ?_
    exact o_image hL hn h K
  · refine s_tableIn (off := 905) (tgt := 938) dL_law_33 (by decide) (by decide) (by rfl) (by decide) ?_
    exact o_undo hL hn h K
  · refine s_tableIn (off := 918) (tgt := 951) dL_law_33 (by decide) (by decide) (by rfl) (by decide) ?_
    exact o_count hL hn h K
  · refine s_tableIn (off := 941) (tgt := 974) dL_law_33 (by decide) (by decide) (by rfl) (by decide) ?_
    exact o_tape hL hn h K
  · refine s_tableIn (off := 984) (tgt := 1017) dL_law_33 (by decide) (by decide) (by rfl) (by decide) ?_
    exact o_item hL hn h K
  · refine s_tableIn (off := 1057) (tgt := 1090) dL_law_33 (by decide) (by decide) (by rfl) (by decide) ?_
    exact o_peek hL hn h K
  · refine s_tableIn (off := 1091) (tgt := 1124) dL_law_33 (by decide) (by decide) (by rfl) (by decide) ?_
    exact o_shift hL hn h K
set_option maxHeartbeats 4000000 in
set_option maxRecDepth 100000 in
theorem l_law {Z : zS} {nm : String} (hL : Z.1 ≤ 3072) : ∀ (r n : Nat) (w : zW), INV w → n ≤ 3078 → Z.1 < n + 6 * r + 6 → zG Z (M_L nm) 10 (fun r1 _ => r1 = [.int 1]) 0 18 (lvL n) [] w := by
  intro r
  induction r with
  | zero =>
    intro n w h hb hf
    refine s_iload_n dL_law_18 rfl ?_
    refine s_aload_n (x := 1002) dL_law_19 rfl ?_
    refine s_rlen 2 (nI Z.1) dL_law_20 rfl (by decide) rfl ?_
    refine s_bipush (v := nI 6) dL_law_21 rfl ?_
    refine s_isub dL_law_23 ?_
    refine s_icmp_gt (tgt := 1193) dL_law_24 (by decide) (fun _ => ?_) (fun z => absurd ?_ z)
    · refine s_iconst (v := 1) dL_law_1193 rfl ?_
      exact s_zret dL_law_1194 rfl (Or.inr rfl) rfl (INV_len h)
    · rw [fa_lt, pk_sub_toInt (by omega) (by decide), nI_toInt (by omega)]
      omega
  | succ r ih =>
    intro n w h hb hf
    refine s_iload_n dL_law_18 rfl ?_
    refine s_aload_n (x := 1002) dL_law_19 rfl ?_
    refine s_rlen 2 (nI Z.1) dL_law_20 rfl (by decide) rfl ?_
    refine s_bipush (v := nI 6) dL_law_21 rfl ?_
    refine s_isub dL_law_23 ?_
    refine s_icmp_gt (tgt := 1193) dL_law_24 (by decide) (fun _ => ?_) (fun z => ?_)
    · refine s_iconst (v := 1) dL_law_1193 rfl ?_
      exact s_zret dL_law_1194 rfl (Or.inr rfl) rfl (INV_len h)
    · rw [fa_lt, pk_sub_toInt (by omega) (by decide), nI_toInt (by omega)] at z
      have hn : n + 6 ≤ Z.1 := by omega
      refine s_aload_n (x := 1002) dL_law_27 rfl ?_
      refine s_iload_n dL_law_28 rfl ?_
      refine s_rald (v := Z.2 n) 2 dL_law_29 rfl (by decide) (zrd (n := Z.1) (show n < Z.1 by omega) (show Z.1 < 2 ^ 31 by omega)) (by show Z.2 (nI n).toNatClampNeg = _; rw [nI_clamp (by omega)]) ?_
      refine s_bipush (v := 63) dL_law_30 rfl ?_
      refine s_iand dL_law_32 ?_
      obtain ⟨j, hj, e⟩ := pk_andE (Z.2 n) (m := 63) 6 (by decide)
      rw [e]
      refine o_all hL hn h (fun w2 h2 => ?_) j hj
      refine s_iinc (nI (n + 6)) dL_law_1187 rfl (nI_add _ _) (Nat.le_of_ble_eq_true rfl) rfl ?_
      refine s_goto (tgt := 18) dL_law_1190 (by decide) ?_
      exact ih (n + 6) w2 h2 (by omega) (by omega)
theorem zTA_lt {j i : Nat} (h : zTA j = some i) : i < 41 := by
  unfold zTA va_up at h
  by_cases h5 : j = 5
  · rw [if_pos h5] at h; cases h; decide
  rw [if_neg h5] at h
  by_cases h4 : j = 4
  · rw [if_pos h4] at h; cases h; decide
  rw [if_neg h4] at h
  by_cases h3 : j = 3
  · rw [if_pos h3] at h; cases h; decide
  rw [if_neg h3] at h
  by_cases h2 : j = 2
  · rw [if_pos h2] at h; cases h; decide
  rw [if_neg h2] at h
  by_cases h1 : j = 1
  · rw [if_pos h1] at h; cases h; decide
  rw [if_neg h1] at h
  by_cases h0 : j = 0
  · rw [if_pos h0] at h; cases h; decide
  rw [if_neg h0] at h
  cases h
theorem cl_wX {hd th : zHd} {hi : Int32} {tx : zTx} {sh : zSh} {tp : zTs} : zclw (wX hd th hi tx sh tp) := by
  have h : zca 41 (wX hd th hi tx sh tp) := by
    simp [wX, zca, zcB, zrs, zrl]
    exact fun j i h => zTA_lt h
  exact fun e he => zca_mem h e he
theorem INV_start : INV (wX hd0 hd0 0 tx0 sh0 tp0 ++ wM0 (cmF 384) (foF 256) (nuF 256) (szF 6)) := by
  refine INV_mk (b := 0) (k := 0) (s := 0) (e := 0) (q := 0) (n := 0) (f1 := fun _ => 0) (g1 := fun _ => 0) (f2 := fun _ => 0) (g2 := fun _ => 0) (f3 := fun _ => 0) (g3 := fun _ => 0) (tf := fun _ => 0) (th := hd0) (hi := 0) (sh := sh0) (tp := tp0) (by decide) (by decide) (by decide) (by decide) (by decide) (by decide) ?_ cmF_ok foF_ok nuF_ok (fun _ _ => rfl) (fun _ _ => ⟨rfl, rfl⟩) (fun _ _ => ⟨rfl, rfl⟩) (fun _ _ => ⟨rfl, rfl⟩) (fun r hr => absurd hr (Nat.not_lt_zero r)) (Or.inl rfl) ?_
  · refine ⟨0, by decide, ⟨rfl, rfl, fun h => absurd rfl h, fun c _ => ?_⟩, fun _ _ _ _ _ _ => Or.inl rfl⟩
    unfold kIT
    rw [if_pos rfl]
    rfl
  · intro j hj
    have e : tpg tp0 j = ((fun _ => 0), -1, 0) := by
      rcases (show j = 0 ∨ j = 1 ∨ j = 2 ∨ j = 3 ∨ j = 4 ∨ j = 5 by omega) with rfl | rfl | rfl | rfl | rfl | rfl <;> rfl
    rw [e]
    exact ⟨fun _ _ => rfl, Or.inl ⟨rfl, rfl, szF_val 6 j hj⟩⟩
set_option maxHeartbeats 4000000 in
set_option maxRecDepth 100000 in
theorem law_start {Z : zS} {nm : String} (hL : Z.1 ≤ 3072) : zG Z (M_L nm) 10 (fun r1 _ => r1 = [.int 1]) 0 0 [(0, .ref 1002)] [] [] := by
  refine s_new (ci := 5) dL_law_0 rfl (show Cond.classLink RL 7 RX7 ∈ zGW from (zin 73 (by decide +kernel) (by decide +kernel))) (zin 74 (by decide +kernel) (by decide +kernel)) (zin 59 (by decide +kernel) (by decide +kernel)) (show 0 + 1 ≤ 0 + 63 by decide) (fun e he => absurd he List.not_mem_nil) (fun v hv i hi => ?_) (fun v hv => absurd hv List.not_mem_nil) ?_
  · rcases List.mem_singleton.mp hv with rfl
    cases hi
    exact Or.inr (by decide)
  refine s_dup dL_law_3 rfl ?_
  refine s_ci (b := 0) (As := []) (rest := [.ref 0]) (w' := (wX hd0 hd0 0 tx0 sh0 tp0)) dL_law_4 g_L_9 (c_X7_init (d := 6)) rfl rfl (Nat.le_of_ble_eq_true rfl) (Nat.le_of_ble_eq_true rfl) (show 1 + 40 ≤ 0 + 63 by decide) (fun q hq i hi => ?_) (fun v hv i hi => ?_) (fun _ => ?_)
  · rcases List.mem_singleton.mp hq with rfl
    cases hi
    exact Or.inr (by decide)
  · rcases List.mem_singleton.mp hv with rfl
    cases hi
    exact Or.inl (by decide)
  refine s_astore_n dL_law_7 (Nat.le_of_ble_eq_true rfl) rfl ?_
  refine s_new (ci := 6) dL_law_8 rfl (show Cond.classLink RL 10 RX8 ∈ zGW from (zin 659 (by decide +kernel) (by decide +kernel))) (zin 660 (by decide +kernel) (by decide +kernel)) (zin 65 (by decide +kernel) (by decide +kernel)) (show 41 + 1 ≤ 0 + 63 by decide) cl_wX (fun v hv i hi => ?_) (fun v hv => absurd hv List.not_mem_nil) ?_
  · rcases List.mem_cons.mp hv with rfl | hv
    · cases hi
      exact Or.inr (by decide)
    · rcases List.mem_singleton.mp hv with rfl
      cases hi
      exact Or.inl (by decide)
  refine s_dup dL_law_11 rfl ?_
  refine s_ci (b := 41) (As := []) (rest := [.ref 41]) (w' := (wX hd0 hd0 0 tx0 sh0 tp0) ++ wM0 (cmF 384) (foF 256) (nuF 256) (szF 6)) dL_law_12 g_L_12 (c_X8_init (d := 8) rfl (zclw_push cl_wX (zdef_cl 6 _))) rfl rfl (Nat.le_of_ble_eq_true rfl) (Nat.le_of_ble_eq_true rfl) (show 42 + 21 ≤ 0 + 63 by decide) (fun q hq i hi => ?_) (fun v hv i hi => ?_) (fun _ => ?_)
  · rcases List.mem_cons.mp hq with rfl | hq
    · cases hi
      exact Or.inr (by decide)
    · rcases List.mem_singleton.mp hq with rfl
      cases hi
      exact Or.inl (by decide)
  · rcases List.mem_singleton.mp hv with rfl
    cases hi
    exact Or.inl (by decide)
  refine s_astore_n dL_law_15 (Nat.le_of_ble_eq_true rfl) rfl ?_
  refine s_iconst (v := 0) dL_law_16 rfl ?_
  refine s_istore_n dL_law_17 (Nat.le_of_ble_eq_true rfl) rfl ?_
  exact l_law hL 512 0 _ INV_start (by decide) (by omega)
