/-! ===== the model: corners that fit ===== -/
set_option maxHeartbeats 4000000 in
set_option maxRecDepth 100000 in
theorem c_X8_isSeen {Z : zS} {d : Nat} {w : zW} {b k : Nat} {mf ma mc ms me mq mu mh mp : Int32} {f g : Nat → Int32} (ho : w[41]? = some (oM (nI b) (nI k) mf ma mc ms me mq mu mh mp)) {nu : Nat → Int32} (hnu : w[44]? = some (aI 256 nu)) (hN : NUok nu) (hf : w[52]? = some (aI 4 f)) (hg : w[53]? = some (aI 4 g)) {fc : Nat → Int32} (hfc : w[47]? = some (aZ 256 fc)) {c r : Nat} (hc : c < 256) (hr : r < 4) : ∃ fc2 : Nat → Int32, zF Z M_X8_isSeen (d + 7) [.ref 41, .int (nI c), .int (nI r)] w [.int (if kSG (f r) c = g r then 1 else 0)] (w.set 47 (aZ 256 fc2)) := by
  unfold kSG
  by_cases h0 : f r = 0
  · refine ⟨fc, ?_⟩
    rw [zss hfc, if_pos h0]
    show zG Z M_X8_isSeen (d + 7) _ w.length 0 [(0, .ref 41), (1, .int (nI c)), (2, .int (nI r))] [] w
    refine s_aload_n dX8_isSeen_0 rfl ?_
    refine s_get dX8_isSeen_1 f_X8_47 (by first | assumption | exact zg1 (by assumption) (by decide)) (by rfl) ?_
    refine s_iload_n dX8_isSeen_4 rfl ?_
    refine s_iald dX8_isSeen_5 (by first | assumption | exact zg1 (by assumption) (by decide)) (zrd (n := 4) hr (by decide)) ?_
    rw [nI_clamp (by omega)]
    refine s_istore_n dX8_isSeen_6 (Nat.le_of_ble_eq_true rfl) rfl ?_
    refine s_aload_n dX8_isSeen_7 rfl ?_
    refine s_get dX8_isSeen_8 f_X8_50 (by first | assumption | exact zg1 (by assumption) (by decide)) (by rfl) ?_
    refine s_iload_n dX8_isSeen_11 rfl ?_
    refine s_iald dX8_isSeen_12 (by first | assumption | exact zg1 (by assumption) (by decide)) (zrd (n := 4) hr (by decide)) ?_
    rw [nI_clamp (by omega)]
    refine s_iload_n dX8_isSeen_13 rfl ?_
    refine s_if_ne (tgt := 24) dX8_isSeen_14 (by decide) (fun hqz => absurd h0 hqz) (fun hz => ?_)
    clear hz
    refine s_iload_n dX8_isSeen_17 rfl ?_
    refine s_cs1 dX8_isSeen_18 g_X8_105 (c_X8_bits hc) rfl rfl (Nat.le_of_ble_eq_true rfl) (Nat.le_of_ble_eq_true rfl) rfl ?_
    refine s_goto (tgt := 55) dX8_isSeen_21 (by decide) ?_
    refine s_icmp_ne (tgt := 62) dX8_isSeen_55 (by decide) (fun h_55 => ?_) (fun h_55 => ?_)
    · refine s_iconst (v := 0) dX8_isSeen_62 rfl ?_
      exact s_zret dX8_isSeen_63 rfl (by first | exact Or.inl rfl | exact Or.inr rfl) ⟨by first | rw [if_pos h_55.symm] | rw [if_neg (fun q => h_55 q.symm)], rfl⟩ (by first | rfl | (simp only [List.length_set]; rfl))
    · refine s_iconst (v := 1) dX8_isSeen_58 rfl ?_
      refine s_goto (tgt := 63) dX8_isSeen_59 (by decide) ?_
      exact s_zret dX8_isSeen_63 rfl (by first | exact Or.inl rfl | exact Or.inr rfl) ⟨by first | rw [if_pos h_55.symm] | rw [if_neg (fun q => h_55 q.symm)], rfl⟩ (by first | rfl | (simp only [List.length_set]; rfl))
  by_cases h1 : f r = 1
  · refine ⟨fc, ?_⟩
    rw [zss hfc, if_neg h0, if_pos h1]
    show zG Z M_X8_isSeen (d + 7) _ w.length 0 [(0, .ref 41), (1, .int (nI c)), (2, .int (nI r))] [] w
    refine s_aload_n dX8_isSeen_0 rfl ?_
    refine s_get dX8_isSeen_1 f_X8_47 (by first | assumption | exact zg1 (by assumption) (by decide)) (by rfl) ?_
    refine s_iload_n dX8_isSeen_4 rfl ?_
    refine s_iald dX8_isSeen_5 (by first | assumption | exact zg1 (by assumption) (by decide)) (zrd (n := 4) hr (by decide)) ?_
    rw [nI_clamp (by omega)]
    refine s_istore_n dX8_isSeen_6 (Nat.le_of_ble_eq_true rfl) rfl ?_
    refine s_aload_n dX8_isSeen_7 rfl ?_
    refine s_get dX8_isSeen_8 f_X8_50 (by first | assumption | exact zg1 (by assumption) (by decide)) (by rfl) ?_
    refine s_iload_n dX8_isSeen_11 rfl ?_
    refine s_iald dX8_isSeen_12 (by first | assumption | exact zg1 (by assumption) (by decide)) (zrd (n := 4) hr (by decide)) ?_
    rw [nI_clamp (by omega)]
    refine s_iload_n dX8_isSeen_13 rfl ?_
    refine s_if_ne (tgt := 24) dX8_isSeen_14 (by decide) (fun hz => ?_) (fun hqz => absurd hqz h0)
    clear hz
    refine s_iload_n dX8_isSeen_24 rfl ?_
    refine s_iconst (v := 1) dX8_isSeen_25 rfl ?_
    refine s_icmp_ne (tgt := 36) dX8_isSeen_26 (by decide) (fun hqz => absurd h1 hqz) (fun hz => ?_)
    clear hz
    refine s_iload_n dX8_isSeen_29 rfl ?_
    refine s_cs1 dX8_isSeen_30 g_X8_195 (c_X8_sixfold hc) rfl rfl (Nat.le_of_ble_eq_true rfl) (Nat.le_of_ble_eq_true rfl) rfl ?_
    refine s_goto (tgt := 55) dX8_isSeen_33 (by decide) ?_
    refine s_icmp_ne (tgt := 62) dX8_isSeen_55 (by decide) (fun h_55 => ?_) (fun h_55 => ?_)
    · refine s_iconst (v := 0) dX8_isSeen_62 rfl ?_
      exact s_zret dX8_isSeen_63 rfl (by first | exact Or.inl rfl | exact Or.inr rfl) ⟨by first | rw [if_pos h_55.symm] | rw [if_neg (fun q => h_55 q.symm)], rfl⟩ (by first | rfl | (simp only [List.length_set]; rfl))
    · refine s_iconst (v := 1) dX8_isSeen_58 rfl ?_
      refine s_goto (tgt := 63) dX8_isSeen_59 (by decide) ?_
      exact s_zret dX8_isSeen_63 rfl (by first | exact Or.inl rfl | exact Or.inr rfl) ⟨by first | rw [if_pos h_55.symm] | rw [if_neg (fun q => h_55 q.symm)], rfl⟩ (by first | rfl | (simp only [List.length_set]; rfl))
  by_cases h2 : f r = 2
  · refine ⟨fcF c fc, ?_⟩
    rw [if_neg h0, if_neg h1, if_pos h2]
    show zG Z M_X8_isSeen (d + 7) _ w.length 0 [(0, .ref 41), (1, .int (nI c)), (2, .int (nI r))] [] w
    refine s_aload_n dX8_isSeen_0 rfl ?_
    refine s_get dX8_isSeen_1 f_X8_47 (by first | assumption | exact zg1 (by assumption) (by decide)) (by rfl) ?_
    refine s_iload_n dX8_isSeen_4 rfl ?_
    refine s_iald dX8_isSeen_5 (by first | assumption | exact zg1 (by assumption) (by decide)) (zrd (n := 4) hr (by decide)) ?_
    rw [nI_clamp (by omega)]
    refine s_istore_n dX8_isSeen_6 (Nat.le_of_ble_eq_true rfl) rfl ?_
    refine s_aload_n dX8_isSeen_7 rfl ?_
    refine s_get dX8_isSeen_8 f_X8_50 (by first | assumption | exact zg1 (by assumption) (by decide)) (by rfl) ?_
    refine s_iload_n dX8_isSeen_11 rfl ?_
    refine s_iald dX8_isSeen_12 (by first | assumption | exact zg1 (by assumption) (by decide)) (zrd (n := 4) hr (by decide)) ?_
    rw [nI_clamp (by omega)]
    refine s_iload_n dX8_isSeen_13 rfl ?_
    refine s_if_ne (tgt := 24) dX8_isSeen_14 (by decide) (fun hz => ?_) (fun hqz => absurd hqz h0)
    clear hz
    refine s_iload_n dX8_isSeen_24 rfl ?_
    refine s_iconst (v := 1) dX8_isSeen_25 rfl ?_
    refine s_icmp_ne (tgt := 36) dX8_isSeen_26 (by decide) (fun hz => ?_) (fun hqz => absurd hqz h1)
    clear hz
    refine s_iload_n dX8_isSeen_36 rfl ?_
    refine s_iconst (v := 2) dX8_isSeen_37 rfl ?_
    refine s_icmp_ne (tgt := 49) dX8_isSeen_38 (by decide) (fun hqz => absurd h2 hqz) (fun hz => ?_)
    clear hz
    refine s_aload_n dX8_isSeen_41 rfl ?_
    refine s_iload_n dX8_isSeen_42 rfl ?_
    refine s_cv1 dX8_isSeen_43 g_X8_186 (c_X8_findFaces ho hfc hc) (by first | assumption | exact zg1 (by assumption) (by decide)) rfl rfl rfl rfl (Nat.le_of_ble_eq_true rfl) (Nat.le_of_ble_eq_true rfl) rfl ?_
    refine s_goto (tgt := 55) dX8_isSeen_46 (by decide) ?_
    refine s_icmp_ne (tgt := 62) dX8_isSeen_55 (by decide) (fun h_55 => ?_) (fun h_55 => ?_)
    · refine s_iconst (v := 0) dX8_isSeen_62 rfl ?_
      exact s_zret dX8_isSeen_63 rfl (by first | exact Or.inl rfl | exact Or.inr rfl) ⟨by first | rw [if_pos h_55.symm] | rw [if_neg (fun q => h_55 q.symm)], rfl⟩ (by first | rfl | (simp only [List.length_set]; rfl))
    · refine s_iconst (v := 1) dX8_isSeen_58 rfl ?_
      refine s_goto (tgt := 63) dX8_isSeen_59 (by decide) ?_
      exact s_zret dX8_isSeen_63 rfl (by first | exact Or.inl rfl | exact Or.inr rfl) ⟨by first | rw [if_pos h_55.symm] | rw [if_neg (fun q => h_55 q.symm)], rfl⟩ (by first | rfl | (simp only [List.length_set]; rfl))
  · refine ⟨fc, ?_⟩
    rw [zss hfc, if_neg h0, if_neg h1, if_neg h2]
    show zG Z M_X8_isSeen (d + 7) _ w.length 0 [(0, .ref 41), (1, .int (nI c)), (2, .int (nI r))] [] w
    refine s_aload_n dX8_isSeen_0 rfl ?_
    refine s_get dX8_isSeen_1 f_X8_47 (by first | assumption | exact zg1 (by assumption) (by decide)) (by rfl) ?_
    refine s_iload_n dX8_isSeen_4 rfl ?_
    refine s_iald dX8_isSeen_5 (by first | assumption | exact zg1 (by assumption) (by decide)) (zrd (n := 4) hr (by decide)) ?_
    rw [nI_clamp (by omega)]
    refine s_istore_n dX8_isSeen_6 (Nat.le_of_ble_eq_true rfl) rfl ?_
    refine s_aload_n dX8_isSeen_7 rfl ?_
    refine s_get dX8_isSeen_8 f_X8_50 (by first | assumption | exact zg1 (by assumption) (by decide)) (by rfl) ?_
    refine s_iload_n dX8_isSeen_11 rfl ?_
    refine s_iald dX8_isSeen_12 (by first | assumption | exact zg1 (by assumption) (by decide)) (zrd (n := 4) hr (by decide)) ?_
    rw [nI_clamp (by omega)]
    refine s_iload_n dX8_isSeen_13 rfl ?_
    refine s_if_ne (tgt := 24) dX8_isSeen_14 (by decide) (fun hz => ?_) (fun hqz => absurd hqz h0)
    clear hz
    refine s_iload_n dX8_isSeen_24 rfl ?_
    refine s_iconst (v := 1) dX8_isSeen_25 rfl ?_
    refine s_icmp_ne (tgt := 36) dX8_isSeen_26 (by decide) (fun hz => ?_) (fun hqz => absurd hqz h1)
    clear hz
    refine s_iload_n dX8_isSeen_36 rfl ?_
    refine s_iconst (v := 2) dX8_isSeen_37 rfl ?_
    refine s_icmp_ne (tgt := 49) dX8_isSeen_38 (by decide) (fun hz => ?_) (fun hqz => absurd hqz h2)
    clear hz
    refine s_aload_n dX8_isSeen_49 rfl ?_
    refine s_get dX8_isSeen_50 f_X8_22 (by first | assumption | exact zg1 (by assumption) (by decide)) (by rfl) ?_
    refine s_iload_n dX8_isSeen_53 rfl ?_
    refine s_iald dX8_isSeen_54 (by first | assumption | exact zg1 (by assumption) (by decide)) (zrd (n := 256) hc (by decide)) ?_
    rw [nI_clamp (by omega), hN c hc]
    refine s_icmp_ne (tgt := 62) dX8_isSeen_55 (by decide) (fun h_55 => ?_) (fun h_55 => ?_)
    · refine s_iconst (v := 0) dX8_isSeen_62 rfl ?_
      exact s_zret dX8_isSeen_63 rfl (by first | exact Or.inl rfl | exact Or.inr rfl) ⟨by first | rw [if_pos h_55.symm] | rw [if_neg (fun q => h_55 q.symm)], rfl⟩ (by first | rfl | (simp only [List.length_set]; rfl))
    · refine s_iconst (v := 1) dX8_isSeen_58 rfl ?_
      refine s_goto (tgt := 63) dX8_isSeen_59 (by decide) ?_
      exact s_zret dX8_isSeen_63 rfl (by first | exact Or.inl rfl | exact Or.inr rfl) ⟨by first | rw [if_pos h_55.symm] | rw [if_neg (fun q => h_55 q.symm)], rfl⟩ (by first | rfl | (simp only [List.length_set]; rfl))
set_option maxHeartbeats 4000000 in
set_option maxRecDepth 100000 in
theorem l_fiI {Z : zS} {d : Nat} {w : zW} {b k : Nat} {mf ma mc me mq mu mh mp : Int32} {f g : Nat → Int32} {s : Nat} (ho : w[41]? = some (oM (nI b) (nI k) mf ma mc (nI s) me mq mu mh mp)) (hb : b < 256) {nu : Nat → Int32} (hnu : w[44]? = some (aI 256 nu)) (hN : NUok nu) (hf : w[52]? = some (aI 4 f)) (hg : w[53]? = some (aI 4 g)) {fc : Nat → Int32} (hfc : w[47]? = some (aZ 256 fc)) (hs : s ≤ 4) {a i : Nat} (hi : i < 8) : ∀ (n r : Nat) (e : Nat → Int32), r + n = s → ∃ e2 : Nat → Int32, ∀ {Q : List Value → zW → Prop}, zG Z M_X8_fits (d + 8) Q w.length 49 [(0, .ref 41), (1, .int (nI a)), (2, .int (nI i)), (3, .int (if kAS f g (b ^^^ 2 ^ i) n r = true then 1 else 0))] [] (w.set 47 (aZ 256 e2)) → zG Z M_X8_fits (d + 8) Q w.length 15 [(0, .ref 41), (1, .int (nI a)), (2, .int (nI i)), (3, .int 1), (4, .int (nI r))] [] (w.set 47 (aZ 256 e)) := by
  intro n
  induction n with
  | zero =>
    intro r e hr
    refine ⟨e, fun {Q} K => ?_⟩
    have hr : r = s := by omega
    subst hr
    refine s_iload dX8_fits_15 rfl ?_
    refine s_aload_n dX8_fits_17 rfl ?_
    refine s_get dX8_fits_18 f_X8_226 (by first | exact zg1 ho (by decide) | exact zg1 hf (by decide) | exact zg1 hg (by decide)) (by rfl) ?_
    refine s_icmp_ge (tgt := 49) dX8_fits_21 (by decide) (fun hz => ?_) (fun hqz => absurd (nI_le (Nat.le_refl _) (by omega)) hqz)
    clear hz
    refine s_take 4 ?_
    exact K
  | succ n ih =>
    intro r e hr
    have hm : r < s := by omega
    have hx : b ^^^ 2 ^ i < 256 := zxor8 hb (zp8 i hi)
    obtain ⟨e1, hz⟩ := c_X8_isSeen (Z := Z) (d := d) (w := (w.set 47 (aZ 256 e))) (zg1 ho (by decide)) (zg1 hnu (by decide)) hN (zg1 hf (by decide)) (zg1 hg (by decide)) (zgs (zlt hfc)) hx (show r < 4 by omega)
    rw [List.set_set] at hz
    by_cases c : kSG (f r) (b ^^^ 2 ^ i) = g r
    · rw [if_pos c] at hz
      obtain ⟨e2, K1⟩ := ih (r + 1) e1 (by omega)
      refine ⟨e2, fun {Q} K => ?_⟩
      rw [show kAS f g (b ^^^ 2 ^ i) (n + 1) r = kAS f g (b ^^^ 2 ^ i) n (r + 1) from by rw [kAS, if_pos c]] at K
      have K2 := K1 K
      refine s_iload dX8_fits_15 rfl ?_
      refine s_aload_n dX8_fits_17 rfl ?_
      refine s_get dX8_fits_18 f_X8_226 (by first | exact zg1 ho (by decide) | exact zg1 hf (by decide) | exact zg1 hg (by decide)) (by rfl) ?_
      refine s_icmp_ge (tgt := 49) dX8_fits_21 (by decide) (fun hqz => absurd hqz (nI_ge hm (by omega))) (fun hz => ?_)
      clear hz
      refine s_iload_n dX8_fits_24 rfl ?_
      refine s_if_eq (tgt := 49) dX8_fits_25 (by decide) (fun hqz => absurd hqz (by decide)) (fun hz => ?_)
      clear hz
      refine s_aload_n dX8_fits_28 rfl ?_
      refine s_aload_n dX8_fits_29 rfl ?_
      refine s_get dX8_fits_30 f_X8_125 (by first | exact zg1 ho (by decide) | exact zg1 hf (by decide) | exact zg1 hg (by decide)) (by rfl) ?_
      refine s_iconst (v := 1) dX8_fits_33 rfl ?_
      refine s_iload_n dX8_fits_34 rfl ?_
      refine s_ishl dX8_fits_35 ?_
      refine s_ixor dX8_fits_36 ?_
      refine s_iload dX8_fits_37 rfl ?_
      rw [zsh8 i (by omega), fb_xorI]
      refine s_cv1 dX8_fits_39 g_X8_229 (hz) (by first | exact zg1 ho (by decide) | exact zg1 hf (by decide) | exact zg1 hg (by decide)) rfl rfl rfl rfl (Nat.le_of_ble_eq_true rfl) (Nat.le_of_ble_eq_true rfl) rfl ?_
      refine s_istore_n dX8_fits_42 (Nat.le_of_ble_eq_true rfl) rfl ?_
      refine s_iinc (nI (r + 1)) dX8_fits_43 rfl (nI_1 _) (Nat.le_of_ble_eq_true rfl) rfl ?_
      refine s_goto (tgt := 15) dX8_fits_46 (by decide) ?_
      exact K2
    · rw [if_neg c] at hz
      refine ⟨e1, fun {Q} K => ?_⟩
      rw [show kAS f g (b ^^^ 2 ^ i) (n + 1) r = false from by rw [kAS, if_neg c]] at K
      refine s_iload dX8_fits_15 rfl ?_
      refine s_aload_n dX8_fits_17 rfl ?_
      refine s_get dX8_fits_18 f_X8_226 (by first | exact zg1 ho (by decide) | exact zg1 hf (by decide) | exact zg1 hg (by decide)) (by rfl) ?_
      refine s_icmp_ge (tgt := 49) dX8_fits_21 (by decide) (fun hqz => absurd hqz (nI_ge hm (by omega))) (fun hz => ?_)
      clear hz
      refine s_iload_n dX8_fits_24 rfl ?_
      refine s_if_eq (tgt := 49) dX8_fits_25 (by decide) (fun hqz => absurd hqz (by decide)) (fun hz => ?_)
      clear hz
      refine s_aload_n dX8_fits_28 rfl ?_
      refine s_aload_n dX8_fits_29 rfl ?_
      refine s_get dX8_fits_30 f_X8_125 (by first | exact zg1 ho (by decide) | exact zg1 hf (by decide) | exact zg1 hg (by decide)) (by rfl) ?_
      refine s_iconst (v := 1) dX8_fits_33 rfl ?_
      refine s_iload_n dX8_fits_34 rfl ?_
      refine s_ishl dX8_fits_35 ?_
      refine s_ixor dX8_fits_36 ?_
      refine s_iload dX8_fits_37 rfl ?_
      rw [zsh8 i (by omega), fb_xorI]
      refine s_cv1 dX8_fits_39 g_X8_229 (hz) (by first | exact zg1 ho (by decide) | exact zg1 hf (by decide) | exact zg1 hg (by decide)) rfl rfl rfl rfl (Nat.le_of_ble_eq_true rfl) (Nat.le_of_ble_eq_true rfl) rfl ?_
      refine s_istore_n dX8_fits_42 (Nat.le_of_ble_eq_true rfl) rfl ?_
      refine s_iinc (nI (r + 1)) dX8_fits_43 rfl (nI_1 _) (Nat.le_of_ble_eq_true rfl) rfl ?_
      refine s_goto (tgt := 15) dX8_fits_46 (by decide) ?_
      refine s_iload dX8_fits_15 rfl ?_
      refine s_aload_n dX8_fits_17 rfl ?_
      refine s_get dX8_fits_18 f_X8_226 (by first | exact zg1 ho (by decide) | exact zg1 hf (by decide) | exact zg1 hg (by decide)) (by rfl) ?_
      refine s_icmp_ge (tgt := 49) dX8_fits_21 (by decide) (fun h_21 => ?_) (fun h_21 => ?_)
      · refine s_take 4 ?_
        exact K
      · refine s_iload_n dX8_fits_24 rfl ?_
        refine s_if_eq (tgt := 49) dX8_fits_25 (by decide) (fun hz => ?_) (fun hqz => absurd rfl hqz)
        clear hz
        refine s_take 4 ?_
        exact K
set_option maxHeartbeats 4000000 in
set_option maxRecDepth 100000 in
theorem l_fiO {Z : zS} {d : Nat} {w : zW} {b k : Nat} {mf ma mc me mq mu mh mp : Int32} {f g : Nat → Int32} {s : Nat} (ho : w[41]? = some (oM (nI b) (nI k) mf ma mc (nI s) me mq mu mh mp)) (hb : b < 256) {nu : Nat → Int32} (hnu : w[44]? = some (aI 256 nu)) (hN : NUok nu) (hf : w[52]? = some (aI 4 f)) (hg : w[53]? = some (aI 4 g)) {fc : Nat → Int32} (hfc : w[47]? = some (aZ 256 fc)) (hs : s ≤ 4) : ∀ (n i a : Nat) (e : Nat → Int32), i + n = 8 → ∃ e2 : Nat → Int32, zG Z M_X8_fits (d + 8) (fun r1 w1 => r1 = [.int (nI (kFT f g s b n i a))] ∧ w1 = (w.set 47 (aZ 256 e2))) w.length 4 [(0, .ref 41), (1, .int (nI a)), (2, .int (nI i))] [] (w.set 47 (aZ 256 e)) := by
  intro n
  induction n with
  | zero =>
    intro i a e hi
    refine ⟨e, ?_⟩
    have hi : i = 8 := by omega
    subst hi
    refine s_iload_n dX8_fits_4 rfl ?_
    refine s_bipush (v := 8) dX8_fits_5 rfl ?_
    refine s_icmp_ge (tgt := 69) dX8_fits_7 (by decide) (fun hz => ?_) (fun hqz => absurd (by decide) hqz)
    clear hz
    refine s_iload_n dX8_fits_69 rfl ?_
    exact s_iret dX8_fits_70 rfl ⟨rfl, rfl⟩ (by first | rfl | exact List.length_set)
  | succ n ih =>
    intro i a e hi
    have hm : i < 8 := by omega
    obtain ⟨e1, K1⟩ := l_fiI (Z := Z) (d := d) (a := a) ho hb hnu hN hf hg hfc hs hm s 0 e (by omega)
    by_cases c : kAS f g (b ^^^ 2 ^ i) s 0 = true
    · obtain ⟨e2, K2⟩ := ih (i + 1) (a ||| 2 ^ i) e1 (by omega)
      refine ⟨e2, ?_⟩
      rw [show kFT f g s b (n + 1) i a = kFT f g s b n (i + 1) (a ||| 2 ^ i) from by rw [kFT, if_pos c]]
      refine s_iload_n dX8_fits_4 rfl ?_
      refine s_bipush (v := 8) dX8_fits_5 rfl ?_
      refine s_icmp_ge (tgt := 69) dX8_fits_7 (by decide) (fun hqz => absurd hqz (nI_ge hm (by decide))) (fun hz => ?_)
      clear hz
      refine s_iconst (v := 1) dX8_fits_10 rfl ?_
      refine s_istore_n dX8_fits_11 (Nat.le_of_ble_eq_true rfl) rfl ?_
      refine s_iconst (v := 0) dX8_fits_12 rfl ?_
      refine s_istore dX8_fits_13 (Nat.le_of_ble_eq_true rfl) rfl ?_
      refine K1 ?_
      rw [if_pos c]
      refine s_iload_n dX8_fits_49 rfl ?_
      refine s_iload_n dX8_fits_50 rfl ?_
      refine s_if_eq (tgt := 60) dX8_fits_51 (by decide) (fun hqz => absurd hqz (by decide)) (fun hz => ?_)
      clear hz
      refine s_iconst (v := 1) dX8_fits_54 rfl ?_
      refine s_iload_n dX8_fits_55 rfl ?_
      refine s_ishl dX8_fits_56 ?_
      refine s_goto (tgt := 61) dX8_fits_57 (by decide) ?_
      refine s_ior dX8_fits_61 ?_
      rw [zsh8 i (by omega), fa_or]
      refine s_istore_n dX8_fits_62 (Nat.le_of_ble_eq_true rfl) rfl ?_
      refine s_iinc (nI (i + 1)) dX8_fits_63 rfl (nI_1 _) (Nat.le_of_ble_eq_true rfl) rfl ?_
      refine s_goto (tgt := 4) dX8_fits_66 (by decide) ?_
      refine s_take 3 ?_
      exact K2
    · obtain ⟨e2, K2⟩ := ih (i + 1) a e1 (by omega)
      refine ⟨e2, ?_⟩
      rw [show kFT f g s b (n + 1) i a = kFT f g s b n (i + 1) a from by rw [kFT, if_neg c]]
      refine s_iload_n dX8_fits_4 rfl ?_
      refine s_bipush (v := 8) dX8_fits_5 rfl ?_
      refine s_icmp_ge (tgt := 69) dX8_fits_7 (by decide) (fun hqz => absurd hqz (nI_ge hm (by decide))) (fun hz => ?_)
      clear hz
      refine s_iconst (v := 1) dX8_fits_10 rfl ?_
      refine s_istore_n dX8_fits_11 (Nat.le_of_ble_eq_true rfl) rfl ?_
      refine s_iconst (v := 0) dX8_fits_12 rfl ?_
      refine s_istore dX8_fits_13 (Nat.le_of_ble_eq_true rfl) rfl ?_
      refine K1 ?_
      rw [if_neg c]
      refine s_iload_n dX8_fits_49 rfl ?_
      refine s_iload_n dX8_fits_50 rfl ?_
      refine s_if_eq (tgt := 60) dX8_fits_51 (by decide) (fun hz => ?_) (fun hqz => absurd rfl hqz)
      clear hz
      refine s_iconst (v := 0) dX8_fits_60 rfl ?_
      refine s_ior dX8_fits_61 ?_
      rw [Int32.or_zero]
      refine s_istore_n dX8_fits_62 (Nat.le_of_ble_eq_true rfl) rfl ?_
      refine s_iinc (nI (i + 1)) dX8_fits_63 rfl (nI_1 _) (Nat.le_of_ble_eq_true rfl) rfl ?_
      refine s_goto (tgt := 4) dX8_fits_66 (by decide) ?_
      refine s_take 3 ?_
      exact K2
set_option maxHeartbeats 4000000 in
set_option maxRecDepth 100000 in
theorem y_fits {Z : zS} {d : Nat} {w : zW} {b k : Nat} {mf ma mc me mq mu mh mp : Int32} {f g : Nat → Int32} {s : Nat} (ho : w[41]? = some (oM (nI b) (nI k) mf ma mc (nI s) me mq mu mh mp)) (hb : b < 256) {nu : Nat → Int32} (hnu : w[44]? = some (aI 256 nu)) (hN : NUok nu) (hf : w[52]? = some (aI 4 f)) (hg : w[53]? = some (aI 4 g)) {fc : Nat → Int32} (hfc : w[47]? = some (aZ 256 fc)) (hs : s ≤ 4) : ∃ e2 : Nat → Int32, zF Z M_X8_fits (d + 8) [.ref 41] w [.int (nI (kFT f g s b 8 0 0))] (w.set 47 (aZ 256 e2)) := by
  obtain ⟨e2, K⟩ := l_fiO (Z := Z) (d := d) ho hb hnu hN hf hg hfc hs 8 0 0 fc rfl
  rw [zss hfc] at K
  refine ⟨e2, ?_⟩
  show zG Z M_X8_fits (d + 8) _ w.length 0 [(0, .ref 41)] [] w
  refine s_iconst (v := 0) dX8_fits_0 rfl ?_
  refine s_istore_n dX8_fits_1 (Nat.le_of_ble_eq_true rfl) rfl ?_
  refine s_iconst (v := 0) dX8_fits_2 rfl ?_
  refine s_istore_n dX8_fits_3 (Nat.le_of_ble_eq_true rfl) rfl ?_
  exact K
/-- the model's cells -/
def wM (cm fo nu f1 f2 : Nat → Int32) (mb mk mf ma mc ms me mq mu mh mp : Int32) (fc vc tt sg td sw sm ew eo bc bi im so sz : Nat → Int32) (it mv : Nat → Int64) : zW :=
  [oM mb mk mf ma mc ms me mq mu mh mp, aI 384 cm, aI 256 fo, aI 256 nu, aI 6 f1, aI 6 f2, aZ 256 fc, aI 24 vc, aI 100 tt, aI 12 sg, aI 12 td, aI 4 sw, aI 4 sm, aI 8 ew, aI 8 eo, aI 8 bc, aI 8 bi, aI 50 im, aI 6 so, aI 6 sz, aL 360 it, aL 60 mv]
