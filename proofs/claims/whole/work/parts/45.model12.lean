/-! ===== the model: texts ===== -/
theorem vS_lt {F : Nat → Int32} {q e : Nat} (hD : Dg F q e) : ∀ (r i a : Nat), i + r ≤ e → a < 1024 → vS F q r i a < 1024
  | 0, _, _, _, h => h
  | r + 1, i, a, hi, h => by
    unfold vS
    refine vS_lt hD r (i + 1) _ (by omega) (Nat.or_lt_two_pow (n := 10) h ?_)
    have := dv_le hD (show i < e by omega)
    exact Nat.pow_lt_pow_right (by decide) (by omega)
theorem Fs_dig {f : Nat → Int32} {n p : Nat} (h : ¬ zFs f n p < 48 ∧ ¬ 57 < zFs f n p) : p < n := by
  unfold zFs at h
  by_cases c : p < n
  · exact c
  · rw [if_neg c] at h
    exact absurd h (by decide)
theorem Fs_key {f : Nat → Int32} {n p : Nat} (h : ¬ zMD (zFs f n p) = -1) : p < n := by
  by_cases c : p < n
  · exact c
  · rw [show zFs f n p = -1 from if_neg c] at h
    exact absurd (by decide) h
theorem isDY {x : Int32} (h : ¬ x < 48 ∧ ¬ 57 < x) : ¬ (if x < 48 then (0 : Int32) else if 57 < x then 0 else 1) = 0 := by
  rw [if_neg h.1, if_neg h.2]
  decide
theorem isDN {x : Int32} (h : ¬ (¬ x < 48 ∧ ¬ 57 < x)) : (if x < 48 then (0 : Int32) else if 57 < x then 0 else 1) = 0 := by
  by_cases c : x < 48
  · rw [if_pos c]
  · by_cases c2 : 57 < x
    · rw [if_neg c, if_pos c2]
    · exact absurd ⟨c, c2⟩ h
set_option maxHeartbeats 4000000 in
set_option maxRecDepth 100000 in
theorem y_feed1 {Z : zS} {d : Nat} {w : zW} {b k : Nat} {mf ma mc ms me mq mu mh mp : Int32} (ho : w[41]? = some (oM (nI b) (nI k) mf ma mc ms me mq mu mh mp)) (hb : b < 256) {c : Int32} (hc : c < 0 ∨ 128 ≤ c) : zF Z M_X8_feed (d + 1) [.ref 41, .int c] w [.int (-2)] w := by
  show zG Z M_X8_feed (d + 1) _ _ 0 [(0, .ref 41), (1, .int c)] [] w
  refine s_iload_n dX8_feed_0 rfl ?_
  refine s_iconst (v := 0) dX8_feed_1 rfl ?_
  refine s_bipush (v := 127) dX8_feed_2 rfl ?_
  refine s_cs1 dX8_feed_4 g_X8_5 (c_X8_isIn) rfl rfl (Nat.le_of_ble_eq_true rfl) (Nat.le_of_ble_eq_true rfl) rfl ?_
  refine s_if_ne (tgt := 13) dX8_feed_7 (by decide) (fun hqz => absurd (miN (n := 127) (by decide) hc) hqz) (fun hz => ?_)
  clear hz
  refine s_bipush (v := (-2)) dX8_feed_10 rfl ?_
  exact s_iret dX8_feed_12 rfl ⟨rfl, rfl⟩ (by first | rfl | exact List.length_set)
set_option maxHeartbeats 4000000 in
set_option maxRecDepth 100000 in
theorem y_feed_f {Z : zS} {d : Nat} {w : zW} {mb mk ma mc ms me mq mu mh mp : Int32} {n : Nat} {tt : Nat → Int32} (ho : w[41]? = some (oM mb mk (nI n) ma mc ms me mq mu mh mp)) (htt : w[49]? = some (aI 100 tt)) (hn : n ≤ 100) {t : Nat} (ht : t < 128) (h100 : n = 100) : zF Z M_X8_feed (d + 1) [.ref 41, .int (nI t)] w [.int (-4)] w := by
  show zG Z M_X8_feed (d + 1) _ _ 0 [(0, .ref 41), (1, .int (nI t))] [] w
  refine s_iload_n dX8_feed_0 rfl ?_
  refine s_iconst (v := 0) dX8_feed_1 rfl ?_
  refine s_bipush (v := 127) dX8_feed_2 rfl ?_
  refine s_cs1 dX8_feed_4 g_X8_5 (c_X8_isIn) rfl rfl (Nat.le_of_ble_eq_true rfl) (Nat.le_of_ble_eq_true rfl) rfl ?_
  refine s_if_ne (tgt := 13) dX8_feed_7 (by decide) (fun hz => ?_) (fun hqz => absurd hqz (miY (n := 127) (by omega) (by decide)))
  clear hz
  refine s_aload_n dX8_feed_13 rfl ?_
  refine s_get dX8_feed_14 f_X8_135 (by repeat (first | assumption | refine zg1 ?_ (by decide) | (refine zgs ?_; (try simp only [List.length_set]); assumption))) (by rfl) ?_
  refine s_bipush (v := 100) dX8_feed_17 rfl ?_
  refine s_icmp_ne (tgt := 25) dX8_feed_19 (by decide) (fun hqz => absurd (by rw [h100]; rfl) hqz) (fun hz => ?_)
  clear hz
  refine s_bipush (v := (-4)) dX8_feed_22 rfl ?_
  exact s_iret dX8_feed_24 rfl ⟨rfl, rfl⟩ (by first | rfl | (simp only [List.length_set]; rfl))
set_option maxHeartbeats 4000000 in
set_option maxRecDepth 100000 in
theorem y_feed {Z : zS} {d : Nat} {w : zW} {mb mk ma mc ms me mq mu mh mp : Int32} {n : Nat} {tt : Nat → Int32} (ho : w[41]? = some (oM mb mk (nI n) ma mc ms me mq mu mh mp)) (htt : w[49]? = some (aI 100 tt)) (hn : n ≤ 100) {t : Nat} (ht : t < 128) (h100 : n < 100) : zF Z M_X8_feed (d + 1) [.ref 41, .int (nI t)] w [.int (nI (n + 1))] ((w.set 49 (aI 100 (upd tt n (nI t)))).set 41 (oM mb mk (nI (n + 1)) ma mc ms me mq mu mh mp)) := by
  show zG Z M_X8_feed (d + 1) _ _ 0 [(0, .ref 41), (1, .int (nI t))] [] w
  have l1 := zlt ho
  have l2 := zlt htt
  refine s_iload_n dX8_feed_0 rfl ?_
  refine s_iconst (v := 0) dX8_feed_1 rfl ?_
  refine s_bipush (v := 127) dX8_feed_2 rfl ?_
  refine s_cs1 dX8_feed_4 g_X8_5 (c_X8_isIn) rfl rfl (Nat.le_of_ble_eq_true rfl) (Nat.le_of_ble_eq_true rfl) rfl ?_
  refine s_if_ne (tgt := 13) dX8_feed_7 (by decide) (fun hz => ?_) (fun hqz => absurd hqz (miY (n := 127) (by omega) (by decide)))
  clear hz
  refine s_aload_n dX8_feed_13 rfl ?_
  refine s_get dX8_feed_14 f_X8_135 (by repeat (first | assumption | refine zg1 ?_ (by decide) | (refine zgs ?_; (try simp only [List.length_set]); assumption))) (by rfl) ?_
  refine s_bipush (v := 100) dX8_feed_17 rfl ?_
  refine s_icmp_ne (tgt := 25) dX8_feed_19 (by decide) (fun hz => ?_) (fun hqz => absurd hqz (fun q => absurd ((nI_eq (b := 100) (by omega) (by decide)).mp q) (by omega)))
  clear hz
  refine s_aload_n dX8_feed_25 rfl ?_
  refine s_get dX8_feed_26 f_X8_38 (by repeat (first | assumption | refine zg1 ?_ (by decide) | (refine zgs ?_; (try simp only [List.length_set]); assumption))) (by rfl) ?_
  refine s_aload_n dX8_feed_29 rfl ?_
  refine s_get dX8_feed_30 f_X8_135 (by repeat (first | assumption | refine zg1 ?_ (by decide) | (refine zgs ?_; (try simp only [List.length_set]); assumption))) (by rfl) ?_
  refine s_iload_n dX8_feed_33 rfl ?_
  refine s_iast dX8_feed_34 (by repeat (first | assumption | refine zg1 ?_ (by decide) | (refine zgs ?_; (try simp only [List.length_set]); assumption))) (zrd (n := 100) h100 (by decide)) ?_
  rw [nI_clamp (by omega)]
  refine s_aload_n dX8_feed_35 rfl ?_
  refine s_dup dX8_feed_36 rfl ?_
  refine s_get dX8_feed_37 f_X8_135 (by repeat (first | assumption | refine zg1 ?_ (by decide) | (refine zgs ?_; (try simp only [List.length_set]); assumption))) (by rfl) ?_
  refine s_iconst (v := 1) dX8_feed_40 rfl ?_
  refine s_iadd dX8_feed_41 ?_
  rw [nI_1]
  refine s_put dX8_feed_42 f_X8_135 (by repeat (first | assumption | refine zg1 ?_ (by decide) | (refine zgs ?_; (try simp only [List.length_set]); assumption))) (fun _ => ⟨rfl, rfl⟩) (Nat.le_of_ble_eq_true rfl) ?_
  refine s_aload_n dX8_feed_45 rfl ?_
  refine s_get dX8_feed_46 f_X8_135 (by repeat (first | assumption | refine zg1 ?_ (by decide) | (refine zgs ?_; (try simp only [List.length_set]); assumption))) (by rfl) ?_
  exact s_iret dX8_feed_49 rfl ⟨rfl, rfl⟩ (by first | rfl | (simp only [List.length_set]; rfl))
set_option maxHeartbeats 4000000 in
set_option maxRecDepth 100000 in
theorem c_X8_next {Z : zS} {d : Nat} {w : zW} {mb mk mc ms me mq mu mh mp : Int32} {n p : Nat} {tt : Nat → Int32} (ho : w[41]? = some (oM mb mk (nI n) (nI p) mc ms me mq mu mh mp)) (htt : w[49]? = some (aI 100 tt)) (hn : n ≤ 100) (hp : p < 2 ^ 31) : zF Z M_X8_next d [.ref 41] w [.int (zFs tt n p)] w := by
  show zG Z M_X8_next d _ w.length 0 [(0, .ref 41)] [] w
  by_cases h : p < n
  · rw [show zFs tt n p = tt p from if_pos h]
    refine s_aload_n dX8_next_0 rfl ?_
    refine s_get dX8_next_1 f_X8_138 (by repeat (first | assumption | refine zg1 ?_ (by decide) | (refine zgs ?_; (try simp only [List.length_set]); assumption))) (by rfl) ?_
    refine s_aload_n dX8_next_4 rfl ?_
    refine s_get dX8_next_5 f_X8_135 (by repeat (first | assumption | refine zg1 ?_ (by decide) | (refine zgs ?_; (try simp only [List.length_set]); assumption))) (by rfl) ?_
    refine s_icmp_ge (tgt := 23) dX8_next_8 (by decide) (fun hqz => absurd hqz (nI_ge h (by omega))) (fun hz => ?_)
    clear hz
    refine s_aload_n dX8_next_11 rfl ?_
    refine s_get dX8_next_12 f_X8_38 (by repeat (first | assumption | refine zg1 ?_ (by decide) | (refine zgs ?_; (try simp only [List.length_set]); assumption))) (by rfl) ?_
    refine s_aload_n dX8_next_15 rfl ?_
    refine s_get dX8_next_16 f_X8_138 (by repeat (first | assumption | refine zg1 ?_ (by decide) | (refine zgs ?_; (try simp only [List.length_set]); assumption))) (by rfl) ?_
    refine s_iald dX8_next_19 (by repeat (first | assumption | refine zg1 ?_ (by decide) | (refine zgs ?_; (try simp only [List.length_set]); assumption))) (zrd (n := 100) (by omega) (by decide)) ?_
    rw [nI_clamp hp]
    refine s_goto (tgt := 24) dX8_next_20 (by decide) ?_
    exact s_iret dX8_next_24 rfl ⟨rfl, rfl⟩ (by first | rfl | (simp only [List.length_set]; rfl))
  · rw [show zFs tt n p = -1 from if_neg h]
    refine s_aload_n dX8_next_0 rfl ?_
    refine s_get dX8_next_1 f_X8_138 (by repeat (first | assumption | refine zg1 ?_ (by decide) | (refine zgs ?_; (try simp only [List.length_set]); assumption))) (by rfl) ?_
    refine s_aload_n dX8_next_4 rfl ?_
    refine s_get dX8_next_5 f_X8_135 (by repeat (first | assumption | refine zg1 ?_ (by decide) | (refine zgs ?_; (try simp only [List.length_set]); assumption))) (by rfl) ?_
    refine s_icmp_ge (tgt := 23) dX8_next_8 (by decide) (fun hz => ?_) (fun hqz => absurd (nI_le (show n ≤ p by omega) hp) hqz)
    clear hz
    refine s_iconst (v := (-1)) dX8_next_23 rfl ?_
    exact s_iret dX8_next_24 rfl ⟨rfl, rfl⟩ (by first | rfl | (simp only [List.length_set]; rfl))
set_option maxHeartbeats 4000000 in
set_option maxRecDepth 100000 in
theorem c_X8_isDigit {Z : zS} {d : Nat} {w : zW} {mb mk mc ms me mq mu mh mp : Int32} {n p : Nat} {tt : Nat → Int32} (ho : w[41]? = some (oM mb mk (nI n) (nI p) mc ms me mq mu mh mp)) (htt : w[49]? = some (aI 100 tt)) (hn : n ≤ 100) (hp : p < 2 ^ 31) : zF Z M_X8_isDigit (d + 1) [.ref 41] w [.int (if zFs tt n p < 48 then 0 else if 57 < zFs tt n p then 0 else 1)] w := by
  show zG Z M_X8_isDigit (d + 1) _ _ 0 [(0, .ref 41)] [] w
  refine s_aload_n dX8_isDigit_0 rfl ?_
  refine s_cv1 dX8_isDigit_1 g_X8_141 (c_X8_next ho htt hn hp) (by repeat (first | assumption | refine zg1 ?_ (by decide) | (refine zgs ?_; (try simp only [List.length_set]); assumption))) rfl rfl rfl rfl (Nat.le_of_ble_eq_true rfl) (Nat.le_of_ble_eq_true rfl) rfl ?_
  refine s_bipush (v := 48) dX8_isDigit_4 rfl ?_
  refine s_bipush (v := 57) dX8_isDigit_6 rfl ?_
  refine s_cs1 dX8_isDigit_8 g_X8_5 (c_X8_isIn) rfl rfl (Nat.le_of_ble_eq_true rfl) (Nat.le_of_ble_eq_true rfl) rfl ?_
  exact s_zret dX8_isDigit_11 rfl (by first | exact Or.inl rfl | exact Or.inr rfl | (split; exact Or.inl rfl; split; exact Or.inl rfl; exact Or.inr rfl)) ⟨rfl, rfl⟩ (by first | rfl | (simp only [List.length_set]; rfl))
theorem dgL_ge {F : Nat → Int32} {p : Nat} : ∀ r e, e ≤ dgL F p r e
  | 0, _ => Nat.le_refl _
  | r + 1, e => by
    unfold dgL
    by_cases c : ¬ F (p + e) < 48 ∧ ¬ 57 < F (p + e)
    · rw [if_pos c]
      have := dgL_ge (F := F) (p := p) r (e + 1)
      omega
    · rw [if_neg c]
      exact Nat.le_refl _
set_option maxHeartbeats 4000000 in
set_option maxRecDepth 100000 in
theorem l_rdS {Z : zS} {d : Nat} {w : zW} {mb mk mc ms me mq mu mh mp : Int32} {n q : Nat} {tt : Nat → Int32} (ho : w[41]? = some (oM mb mk (nI n) (nI q) mc ms me mq mu mh mp)) (htt : w[49]? = some (aI 100 tt)) (hn : n ≤ 100) (hq : q < 1000) {m : Nat} (hm8 : m ≤ 8) : ∀ (r i a : Nat), i + r = m → zG Z M_X8_readsDigits (d + 2) (fun r1 w1 => r1 = [.int (nI (vS (zFs tt n) q (dgL (zFs tt n) q r i - i) i a))] ∧ w1 = (w.set 41 (oM mb mk (nI n) (nI (q + dgL (zFs tt n) q r i)) mc ms me mq mu mh mp))) w.length 16 [(0, .ref 41), (1, .int 1), (2, .int (nI m)), (3, .int (nI a)), (4, .int (nI i))] [] (w.set 41 (oM mb mk (nI n) (nI (q + i)) mc ms me mq mu mh mp)) := by
  have l1 := zlt ho
  intro r
  induction r with
  | zero =>
    intro i a hi
    have hi : i = m := by omega
    subst hi
    rw [show dgL (zFs tt n) q 0 i = i from rfl, Nat.sub_self]
    refine s_iload dX8_readsDigits_16 rfl ?_
    refine s_iload_n dX8_readsDigits_18 rfl ?_
    refine s_icmp_ge (tgt := 75) dX8_readsDigits_19 (by decide) (fun hz => ?_) (fun hqz => absurd (nI_le (Nat.le_refl _) (by omega)) hqz)
    clear hz
    refine s_iload_n dX8_readsDigits_75 rfl ?_
    exact s_iret dX8_readsDigits_76 rfl ⟨rfl, rfl⟩ (by first | rfl | (simp only [List.length_set]; rfl))
  | succ r ih =>
    intro i a hi
    have hm : i < m := by omega
    have ho2 : (w.set 41 (oM mb mk (nI n) (nI (q + i)) mc ms me mq mu mh mp))[41]? = some (oM mb mk (nI n) (nI (q + i)) mc ms me mq mu mh mp) := zgs l1
    have htt2 : (w.set 41 (oM mb mk (nI n) (nI (q + i)) mc ms me mq mu mh mp))[49]? = some (aI 100 tt) := zg1 htt (by decide)
    have c1 := c_X8_isDigit (Z := Z) (d := d) ho2 htt2 hn (by omega)
    have c2 := c_X8_next (Z := Z) (d := d + 1) ho2 htt2 hn (by omega)
    by_cases h : ¬ zFs tt n (q + i) < 48 ∧ ¬ 57 < zFs tt n (q + i)
    · obtain ⟨hd1, hd2⟩ := zdig h
      have hle := (dgL_ge (F := zFs tt n) (p := q) r (i + 1))
      rw [show dgL (zFs tt n) q (r + 1) i = dgL (zFs tt n) q r (i + 1) from by rw [dgL, if_pos h]]
      rw [show vS (zFs tt n) q (dgL (zFs tt n) q r (i + 1) - i) i a = vS (zFs tt n) q (dgL (zFs tt n) q r (i + 1) - (i + 1)) (i + 1) (a ||| 2 ^ dv (zFs tt n) (q + i)) from by rw [show dgL (zFs tt n) q r (i + 1) - i = (dgL (zFs tt n) q r (i + 1) - (i + 1)) + 1 by omega]; rfl]
      refine s_iload dX8_readsDigits_16 rfl ?_
      refine s_iload_n dX8_readsDigits_18 rfl ?_
      refine s_icmp_ge (tgt := 75) dX8_readsDigits_19 (by decide) (fun hqz => absurd hqz (nI_ge hm (by omega))) (fun hz => ?_)
      clear hz
      refine s_aload_n dX8_readsDigits_22 rfl ?_
      refine s_cv1 dX8_readsDigits_23 g_X8_145 (c1) (by repeat (first | assumption | refine zg1 ?_ (by decide) | (refine zgs ?_; (try simp only [List.length_set]); assumption))) rfl rfl rfl rfl (Nat.le_of_ble_eq_true rfl) (Nat.le_of_ble_eq_true rfl) rfl ?_
      refine s_if_eq (tgt := 75) dX8_readsDigits_26 (by decide) (fun hqz => absurd hqz (isDY h)) (fun hz => ?_)
      clear hz
      refine s_aload_n dX8_readsDigits_29 rfl ?_
      refine s_cv1 dX8_readsDigits_30 g_X8_141 (c2) (by repeat (first | assumption | refine zg1 ?_ (by decide) | (refine zgs ?_; (try simp only [List.length_set]); assumption))) rfl rfl rfl rfl (Nat.le_of_ble_eq_true rfl) (Nat.le_of_ble_eq_true rfl) rfl ?_
      refine s_bipush (v := 48) dX8_readsDigits_33 rfl ?_
      refine s_isub dX8_readsDigits_35 ?_
      rw [hd1, show (48 : Int32) = nI 48 from rfl, pk_sub (by omega), Nat.add_sub_cancel_left]
      refine s_istore dX8_readsDigits_36 (Nat.le_of_ble_eq_true rfl) rfl ?_
      refine s_iload_n dX8_readsDigits_38 rfl ?_
      refine s_if_eq (tgt := 51) dX8_readsDigits_39 (by decide) (fun hqz => absurd hqz (by decide)) (fun hz => ?_)
      clear hz
      refine s_iload_n dX8_readsDigits_42 rfl ?_
      refine s_iconst (v := 1) dX8_readsDigits_43 rfl ?_
      refine s_iload dX8_readsDigits_44 rfl ?_
      refine s_ishl dX8_readsDigits_46 ?_
      refine s_ior dX8_readsDigits_47 ?_
      refine s_goto (tgt := 58) dX8_readsDigits_48 (by decide) ?_
      rw [zsh8 _ (by omega), fa_or]
      refine s_istore_n dX8_readsDigits_58 (Nat.le_of_ble_eq_true rfl) rfl ?_
      refine s_aload_n dX8_readsDigits_59 rfl ?_
      refine s_dup dX8_readsDigits_60 rfl ?_
      refine s_get dX8_readsDigits_61 f_X8_138 (by repeat (first | assumption | refine zg1 ?_ (by decide) | (refine zgs ?_; (try simp only [List.length_set]); assumption))) (by rfl) ?_
      refine s_iconst (v := 1) dX8_readsDigits_64 rfl ?_
      refine s_iadd dX8_readsDigits_65 ?_
      rw [nI_1]
      refine s_put dX8_readsDigits_66 f_X8_138 (by repeat (first | assumption | refine zg1 ?_ (by decide) | (refine zgs ?_; (try simp only [List.length_set]); assumption))) (fun _ => ⟨rfl, rfl⟩) (Nat.le_of_ble_eq_true rfl) ?_
      rw [List.set_set]
      refine s_iinc (nI (i + 1)) dX8_readsDigits_69 rfl (nI_1 _) (Nat.le_of_ble_eq_true rfl) rfl ?_
      refine s_goto (tgt := 16) dX8_readsDigits_72 (by decide) ?_
      refine s_take 5 ?_
      exact ih (i + 1) (a ||| 2 ^ dv (zFs tt n) (q + i)) (by omega)
    · rw [show dgL (zFs tt n) q (r + 1) i = i from by rw [dgL, if_neg h], Nat.sub_self]
      refine s_iload dX8_readsDigits_16 rfl ?_
      refine s_iload_n dX8_readsDigits_18 rfl ?_
      refine s_icmp_ge (tgt := 75) dX8_readsDigits_19 (by decide) (fun hqz => absurd hqz (nI_ge hm (by omega))) (fun hz => ?_)
      clear hz
      refine s_aload_n dX8_readsDigits_22 rfl ?_
      refine s_cv1 dX8_readsDigits_23 g_X8_145 (c1) (by repeat (first | assumption | refine zg1 ?_ (by decide) | (refine zgs ?_; (try simp only [List.length_set]); assumption))) rfl rfl rfl rfl (Nat.le_of_ble_eq_true rfl) (Nat.le_of_ble_eq_true rfl) rfl ?_
      refine s_if_eq (tgt := 75) dX8_readsDigits_26 (by decide) (fun hz => ?_) (fun hqz => absurd (isDN h) hqz)
      clear hz
      refine s_iload_n dX8_readsDigits_75 rfl ?_
      exact s_iret dX8_readsDigits_76 rfl ⟨rfl, rfl⟩ (by first | rfl | (simp only [List.length_set]; rfl))
set_option maxHeartbeats 4000000 in
set_option maxRecDepth 100000 in
theorem c_rdS {Z : zS} {d : Nat} {w : zW} {mb mk mc ms me mq mu mh mp : Int32} {n q : Nat} {tt : Nat → Int32} (ho : w[41]? = some (oM mb mk (nI n) (nI q) mc ms me mq mu mh mp)) (htt : w[49]? = some (aI 100 tt)) (hn : n ≤ 100) (hq : q < 1000) {m : Nat} (hm8 : m ≤ 8) (hm0 : 0 < m) (h : ¬ zFs tt n q < 48 ∧ ¬ 57 < zFs tt n q) : zF Z M_X8_readsDigits (d + 2) [.ref 41, .int 1, .int (nI m)] w [.int (nI (vS (zFs tt n) q (dgL (zFs tt n) q m 0) 0 0))] (w.set 41 (oM mb mk (nI n) (nI (q + dgL (zFs tt n) q m 0)) mc ms me mq mu mh mp)) := by
  show zG Z M_X8_readsDigits (d + 2) _ w.length 0 [(0, .ref 41), (1, .int 1), (2, .int (nI m))] [] w
  have c1 := c_X8_isDigit (Z := Z) (d := d) ho htt hn (by omega)
  have K := l_rdS (Z := Z) (d := d) ho htt hn hq hm8 m 0 0 (by omega)
  rw [show q + 0 = q from rfl, zss ho, Nat.sub_zero] at K
  refine s_aload_n dX8_readsDigits_0 rfl ?_
  refine s_cv1 dX8_readsDigits_1 g_X8_145 (c1) (by repeat (first | assumption | refine zg1 ?_ (by decide) | (refine zgs ?_; (try simp only [List.length_set]); assumption))) rfl rfl rfl rfl (Nat.le_of_ble_eq_true rfl) (Nat.le_of_ble_eq_true rfl) rfl ?_
  refine s_if_eq (tgt := 11) dX8_readsDigits_4 (by decide) (fun hqz => absurd hqz (isDY h)) (fun hz => ?_)
  clear hz
  refine s_iconst (v := 0) dX8_readsDigits_7 rfl ?_
  refine s_goto (tgt := 12) dX8_readsDigits_8 (by decide) ?_
  refine s_istore_n dX8_readsDigits_12 (Nat.le_of_ble_eq_true rfl) rfl ?_
  refine s_iconst (v := 0) dX8_readsDigits_13 rfl ?_
  refine s_istore dX8_readsDigits_14 (Nat.le_of_ble_eq_true rfl) rfl ?_
  exact K
set_option maxHeartbeats 4000000 in
set_option maxRecDepth 100000 in
theorem c_rdS0 {Z : zS} {d : Nat} {w : zW} {mb mk mc ms me mq mu mh mp : Int32} {n q : Nat} {tt : Nat → Int32} (ho : w[41]? = some (oM mb mk (nI n) (nI q) mc ms me mq mu mh mp)) (htt : w[49]? = some (aI 100 tt)) (hn : n ≤ 100) (hq : q < 1000) {m : Nat} (hm8 : m ≤ 8) (hm0 : 0 < m) (h : ¬ (¬ zFs tt n q < 48 ∧ ¬ 57 < zFs tt n q)) : zF Z M_X8_readsDigits (d + 2) [.ref 41, .int 1, .int (nI m)] w [.int (-1)] w := by
  show zG Z M_X8_readsDigits (d + 2) _ w.length 0 [(0, .ref 41), (1, .int 1), (2, .int (nI m))] [] w
  have c1 := c_X8_isDigit (Z := Z) (d := d) ho htt hn (by omega)
  refine s_aload_n dX8_readsDigits_0 rfl ?_
  refine s_cv1 dX8_readsDigits_1 g_X8_145 (c1) (by repeat (first | assumption | refine zg1 ?_ (by decide) | (refine zgs ?_; (try simp only [List.length_set]); assumption))) rfl rfl rfl rfl (Nat.le_of_ble_eq_true rfl) (Nat.le_of_ble_eq_true rfl) rfl ?_
  refine s_if_eq (tgt := 11) dX8_readsDigits_4 (by decide) (fun hz => ?_) (fun hqz => absurd (isDN h) hqz)
  clear hz
  refine s_iconst (v := (-1)) dX8_readsDigits_11 rfl ?_
  refine s_istore_n dX8_readsDigits_12 (Nat.le_of_ble_eq_true rfl) rfl ?_
  refine s_iconst (v := 0) dX8_readsDigits_13 rfl ?_
  refine s_istore dX8_readsDigits_14 (Nat.le_of_ble_eq_true rfl) rfl ?_
  refine s_iload dX8_readsDigits_16 rfl ?_
  refine s_iload_n dX8_readsDigits_18 rfl ?_
  refine s_icmp_ge (tgt := 75) dX8_readsDigits_19 (by decide) (fun hqz => absurd hqz (nI_ge hm0 (by omega))) (fun hz => ?_)
  clear hz
  refine s_aload_n dX8_readsDigits_22 rfl ?_
  refine s_cv1 dX8_readsDigits_23 g_X8_145 (c1) (by repeat (first | assumption | refine zg1 ?_ (by decide) | (refine zgs ?_; (try simp only [List.length_set]); assumption))) rfl rfl rfl rfl (Nat.le_of_ble_eq_true rfl) (Nat.le_of_ble_eq_true rfl) rfl ?_
  refine s_if_eq (tgt := 75) dX8_readsDigits_26 (by decide) (fun hz => ?_) (fun hqz => absurd (isDN h) hqz)
  clear hz
  refine s_iload_n dX8_readsDigits_75 rfl ?_
  exact s_iret dX8_readsDigits_76 rfl ⟨rfl, rfl⟩ (by first | rfl | (simp only [List.length_set]; rfl))
set_option maxHeartbeats 4000000 in
set_option maxRecDepth 100000 in
theorem l_rdN {Z : zS} {d : Nat} {w : zW} {mb mk mc ms me mq mu mh mp : Int32} {n q : Nat} {tt : Nat → Int32} (ho : w[41]? = some (oM mb mk (nI n) (nI q) mc ms me mq mu mh mp)) (htt : w[49]? = some (aI 100 tt)) (hn : n ≤ 100) (hq : q < 1000) {m : Nat} (hm8 : m ≤ 8) : ∀ (r i a : Nat), i + r = m → zG Z M_X8_readsDigits (d + 2) (fun r1 w1 => r1 = [.int (nI (nvL (zFs tt n) q (dgL (zFs tt n) q r i - i) i a))] ∧ w1 = (w.set 41 (oM mb mk (nI n) (nI (q + dgL (zFs tt n) q r i)) mc ms me mq mu mh mp))) w.length 16 [(0, .ref 41), (1, .int 0), (2, .int (nI m)), (3, .int (nI a)), (4, .int (nI i))] [] (w.set 41 (oM mb mk (nI n) (nI (q + i)) mc ms me mq mu mh mp)) := by
  have l1 := zlt ho
  intro r
  induction r with
  | zero =>
    intro i a hi
    have hi : i = m := by omega
    subst hi
    rw [show dgL (zFs tt n) q 0 i = i from rfl, Nat.sub_self]
    refine s_iload dX8_readsDigits_16 rfl ?_
    refine s_iload_n dX8_readsDigits_18 rfl ?_
    refine s_icmp_ge (tgt := 75) dX8_readsDigits_19 (by decide) (fun hz => ?_) (fun hqz => absurd (nI_le (Nat.le_refl _) (by omega)) hqz)
    clear hz
    refine s_iload_n dX8_readsDigits_75 rfl ?_
    exact s_iret dX8_readsDigits_76 rfl ⟨rfl, rfl⟩ (by first | rfl | (simp only [List.length_set]; rfl))
  | succ r ih =>
    intro i a hi
    have hm : i < m := by omega
    have ho2 : (w.set 41 (oM mb mk (nI n) (nI (q + i)) mc ms me mq mu mh mp))[41]? = some (oM mb mk (nI n) (nI (q + i)) mc ms me mq mu mh mp) := zgs l1
    have htt2 : (w.set 41 (oM mb mk (nI n) (nI (q + i)) mc ms me mq mu mh mp))[49]? = some (aI 100 tt) := zg1 htt (by decide)
    have c1 := c_X8_isDigit (Z := Z) (d := d) ho2 htt2 hn (by omega)
    have c2 := c_X8_next (Z := Z) (d := d + 1) ho2 htt2 hn (by omega)
    by_cases h : ¬ zFs tt n (q + i) < 48 ∧ ¬ 57 < zFs tt n (q + i)
    · obtain ⟨hd1, hd2⟩ := zdig h
      have hle := (dgL_ge (F := zFs tt n) (p := q) r (i + 1))
      rw [show dgL (zFs tt n) q (r + 1) i = dgL (zFs tt n) q r (i + 1) from by rw [dgL, if_pos h]]
      rw [show nvL (zFs tt n) q (dgL (zFs tt n) q r (i + 1) - i) i a = nvL (zFs tt n) q (dgL (zFs tt n) q r (i + 1) - (i + 1)) (i + 1) (a * 10 + dv (zFs tt n) (q + i)) from by rw [show dgL (zFs tt n) q r (i + 1) - i = (dgL (zFs tt n) q r (i + 1) - (i + 1)) + 1 by omega]; rfl]
      refine s_iload dX8_readsDigits_16 rfl ?_
      refine s_iload_n dX8_readsDigits_18 rfl ?_
      refine s_icmp_ge (tgt := 75) dX8_readsDigits_19 (by decide) (fun hqz => absurd hqz (nI_ge hm (by omega))) (fun hz => ?_)
      clear hz
      refine s_aload_n dX8_readsDigits_22 rfl ?_
      refine s_cv1 dX8_readsDigits_23 g_X8_145 (c1) (by repeat (first | assumption | refine zg1 ?_ (by decide) | (refine zgs ?_; (try simp only [List.length_set]); assumption))) rfl rfl rfl rfl (Nat.le_of_ble_eq_true rfl) (Nat.le_of_ble_eq_true rfl) rfl ?_
      refine s_if_eq (tgt := 75) dX8_readsDigits_26 (by decide) (fun hqz => absurd hqz (isDY h)) (fun hz => ?_)
      clear hz
      refine s_aload_n dX8_readsDigits_29 rfl ?_
      refine s_cv1 dX8_readsDigits_30 g_X8_141 (c2) (by repeat (first | assumption | refine zg1 ?_ (by decide) | (refine zgs ?_; (try simp only [List.length_set]); assumption))) rfl rfl rfl rfl (Nat.le_of_ble_eq_true rfl) (Nat.le_of_ble_eq_true rfl) rfl ?_
      refine s_bipush (v := 48) dX8_readsDigits_33 rfl ?_
      refine s_isub dX8_readsDigits_35 ?_
      rw [hd1, show (48 : Int32) = nI 48 from rfl, pk_sub (by omega), Nat.add_sub_cancel_left]
      refine s_istore dX8_readsDigits_36 (Nat.le_of_ble_eq_true rfl) rfl ?_
      refine s_iload_n dX8_readsDigits_38 rfl ?_
      refine s_if_eq (tgt := 51) dX8_readsDigits_39 (by decide) (fun hz => ?_) (fun hqz => absurd rfl hqz)
      clear hz
      refine s_bipush (v := 10) dX8_readsDigits_51 rfl ?_
      refine s_iload_n dX8_readsDigits_53 rfl ?_
      refine s_imul dX8_readsDigits_54 ?_
      refine s_iload dX8_readsDigits_55 rfl ?_
      refine s_iadd dX8_readsDigits_57 ?_
      rw [show (10 : Int32) = nI 10 from rfl, pk_mul, nI_add, Nat.mul_comm 10 a]
      refine s_istore_n dX8_readsDigits_58 (Nat.le_of_ble_eq_true rfl) rfl ?_
      refine s_aload_n dX8_readsDigits_59 rfl ?_
      refine s_dup dX8_readsDigits_60 rfl ?_
      refine s_get dX8_readsDigits_61 f_X8_138 (by repeat (first | assumption | refine zg1 ?_ (by decide) | (refine zgs ?_; (try simp only [List.length_set]); assumption))) (by rfl) ?_
      refine s_iconst (v := 1) dX8_readsDigits_64 rfl ?_
      refine s_iadd dX8_readsDigits_65 ?_
      rw [nI_1]
      refine s_put dX8_readsDigits_66 f_X8_138 (by repeat (first | assumption | refine zg1 ?_ (by decide) | (refine zgs ?_; (try simp only [List.length_set]); assumption))) (fun _ => ⟨rfl, rfl⟩) (Nat.le_of_ble_eq_true rfl) ?_
      rw [List.set_set]
      refine s_iinc (nI (i + 1)) dX8_readsDigits_69 rfl (nI_1 _) (Nat.le_of_ble_eq_true rfl) rfl ?_
      refine s_goto (tgt := 16) dX8_readsDigits_72 (by decide) ?_
      refine s_take 5 ?_
      exact ih (i + 1) (a * 10 + dv (zFs tt n) (q + i)) (by omega)
    · rw [show dgL (zFs tt n) q (r + 1) i = i from by rw [dgL, if_neg h], Nat.sub_self]
      refine s_iload dX8_readsDigits_16 rfl ?_
      refine s_iload_n dX8_readsDigits_18 rfl ?_
      refine s_icmp_ge (tgt := 75) dX8_readsDigits_19 (by decide) (fun hqz => absurd hqz (nI_ge hm (by omega))) (fun hz => ?_)
      clear hz
      refine s_aload_n dX8_readsDigits_22 rfl ?_
      refine s_cv1 dX8_readsDigits_23 g_X8_145 (c1) (by repeat (first | assumption | refine zg1 ?_ (by decide) | (refine zgs ?_; (try simp only [List.length_set]); assumption))) rfl rfl rfl rfl (Nat.le_of_ble_eq_true rfl) (Nat.le_of_ble_eq_true rfl) rfl ?_
      refine s_if_eq (tgt := 75) dX8_readsDigits_26 (by decide) (fun hz => ?_) (fun hqz => absurd (isDN h) hqz)
      clear hz
      refine s_iload_n dX8_readsDigits_75 rfl ?_
      exact s_iret dX8_readsDigits_76 rfl ⟨rfl, rfl⟩ (by first | rfl | (simp only [List.length_set]; rfl))
set_option maxHeartbeats 4000000 in
set_option maxRecDepth 100000 in
theorem c_rdN {Z : zS} {d : Nat} {w : zW} {mb mk mc ms me mq mu mh mp : Int32} {n q : Nat} {tt : Nat → Int32} (ho : w[41]? = some (oM mb mk (nI n) (nI q) mc ms me mq mu mh mp)) (htt : w[49]? = some (aI 100 tt)) (hn : n ≤ 100) (hq : q < 1000) {m : Nat} (hm8 : m ≤ 8) (hm0 : 0 < m) (h : ¬ zFs tt n q < 48 ∧ ¬ 57 < zFs tt n q) : zF Z M_X8_readsDigits (d + 2) [.ref 41, .int 0, .int (nI m)] w [.int (nI (nvL (zFs tt n) q (dgL (zFs tt n) q m 0) 0 0))] (w.set 41 (oM mb mk (nI n) (nI (q + dgL (zFs tt n) q m 0)) mc ms me mq mu mh mp)) := by
  show zG Z M_X8_readsDigits (d + 2) _ w.length 0 [(0, .ref 41), (1, .int 0), (2, .int (nI m))] [] w
  have c1 := c_X8_isDigit (Z := Z) (d := d) ho htt hn (by omega)
  have K := l_rdN (Z := Z) (d := d) ho htt hn hq hm8 m 0 0 (by omega)
  rw [show q + 0 = q from rfl, zss ho, Nat.sub_zero] at K
  refine s_aload_n dX8_readsDigits_0 rfl ?_
  refine s_cv1 dX8_readsDigits_1 g_X8_145 (c1) (by repeat (first | assumption | refine zg1 ?_ (by decide) | (refine zgs ?_; (try simp only [List.length_set]); assumption))) rfl rfl rfl rfl (Nat.le_of_ble_eq_true rfl) (Nat.le_of_ble_eq_true rfl) rfl ?_
  refine s_if_eq (tgt := 11) dX8_readsDigits_4 (by decide) (fun hqz => absurd hqz (isDY h)) (fun hz => ?_)
  clear hz
  refine s_iconst (v := 0) dX8_readsDigits_7 rfl ?_
  refine s_goto (tgt := 12) dX8_readsDigits_8 (by decide) ?_
  refine s_istore_n dX8_readsDigits_12 (Nat.le_of_ble_eq_true rfl) rfl ?_
  refine s_iconst (v := 0) dX8_readsDigits_13 rfl ?_
  refine s_istore dX8_readsDigits_14 (Nat.le_of_ble_eq_true rfl) rfl ?_
  exact K
set_option maxHeartbeats 4000000 in
set_option maxRecDepth 100000 in
theorem c_rdN0 {Z : zS} {d : Nat} {w : zW} {mb mk mc ms me mq mu mh mp : Int32} {n q : Nat} {tt : Nat → Int32} (ho : w[41]? = some (oM mb mk (nI n) (nI q) mc ms me mq mu mh mp)) (htt : w[49]? = some (aI 100 tt)) (hn : n ≤ 100) (hq : q < 1000) {m : Nat} (hm8 : m ≤ 8) (hm0 : 0 < m) (h : ¬ (¬ zFs tt n q < 48 ∧ ¬ 57 < zFs tt n q)) : zF Z M_X8_readsDigits (d + 2) [.ref 41, .int 0, .int (nI m)] w [.int (-1)] w := by
  show zG Z M_X8_readsDigits (d + 2) _ w.length 0 [(0, .ref 41), (1, .int 0), (2, .int (nI m))] [] w
  have c1 := c_X8_isDigit (Z := Z) (d := d) ho htt hn (by omega)
  refine s_aload_n dX8_readsDigits_0 rfl ?_
  refine s_cv1 dX8_readsDigits_1 g_X8_145 (c1) (by repeat (first | assumption | refine zg1 ?_ (by decide) | (refine zgs ?_; (try simp only [List.length_set]); assumption))) rfl rfl rfl rfl (Nat.le_of_ble_eq_true rfl) (Nat.le_of_ble_eq_true rfl) rfl ?_
  refine s_if_eq (tgt := 11) dX8_readsDigits_4 (by decide) (fun hz => ?_) (fun hqz => absurd (isDN h) hqz)
  clear hz
  refine s_iconst (v := (-1)) dX8_readsDigits_11 rfl ?_
  refine s_istore_n dX8_readsDigits_12 (Nat.le_of_ble_eq_true rfl) rfl ?_
  refine s_iconst (v := 0) dX8_readsDigits_13 rfl ?_
  refine s_istore dX8_readsDigits_14 (Nat.le_of_ble_eq_true rfl) rfl ?_
  refine s_iload dX8_readsDigits_16 rfl ?_
  refine s_iload_n dX8_readsDigits_18 rfl ?_
  refine s_icmp_ge (tgt := 75) dX8_readsDigits_19 (by decide) (fun hqz => absurd hqz (nI_ge hm0 (by omega))) (fun hz => ?_)
  clear hz
  refine s_aload_n dX8_readsDigits_22 rfl ?_
  refine s_cv1 dX8_readsDigits_23 g_X8_145 (c1) (by repeat (first | assumption | refine zg1 ?_ (by decide) | (refine zgs ?_; (try simp only [List.length_set]); assumption))) rfl rfl rfl rfl (Nat.le_of_ble_eq_true rfl) (Nat.le_of_ble_eq_true rfl) rfl ?_
  refine s_if_eq (tgt := 75) dX8_readsDigits_26 (by decide) (fun hz => ?_) (fun hqz => absurd (isDN h) hqz)
  clear hz
  refine s_iload_n dX8_readsDigits_75 rfl ?_
  exact s_iret dX8_readsDigits_76 rfl ⟨rfl, rfl⟩ (by first | rfl | (simp only [List.length_set]; rfl))
def tdV (F : Nat → Int32) (p : Nat) : Int32 := if F p = 43 ∨ F p = 45 then nI (vS F (p + 1) (dgC F p) 0 0) else if F p = 109 then nI (nvL F (p + 1) (dgC F p) 0 0) else 0
set_option maxHeartbeats 4000000 in
set_option maxRecDepth 100000 in
theorem c_rcN {Z : zS} {d : Nat} {hd th : zHd} {hi : Int32} {tx : zTx} {sh : zSh} {tp : zTs} {cm fo nu f1 f2 : Nat → Int32} {mb mk ms me mq mu mh mp : Int32} {fc vc tt sg td sw sm ew eo bc bi im so sz : Nat → Int32} {it mv : Nat → Int64} {n p c : Nat} (hn : n ≤ 100) (hp : p < 900) (hc : c < 12) (hx : zMD (zFs tt n p) = -1) : zF Z M_X8_readsClause (d + 3) [.ref 41] (wX hd th hi tx sh tp ++ wM cm fo nu f1 f2 mb mk (nI n) (nI p) (nI c) ms me mq mu mh mp fc vc tt sg td sw sm ew eo bc bi im so sz it mv) [.int 0] (wX hd th hi tx sh tp ++ wM cm fo nu f1 f2 mb mk (nI n) (nI p) (nI c) ms me mq mu mh mp fc vc tt sg td sw sm ew eo bc bi im so sz it mv) := by
  show zG Z M_X8_readsClause (d + 3) _ 63 0 [(0, .ref 41)] [] (wX hd th hi tx sh tp ++ wM cm fo nu f1 f2 mb mk (nI n) (nI p) (nI c) ms me mq mu mh mp fc vc tt sg td sw sm ew eo bc bi im so sz it mv)
  have n43 : ¬ zFs tt n p = 43 := fun e => by rw [e] at hx; exact absurd hx (by decide)
  have n45 : ¬ zFs tt n p = 45 := fun e => by rw [e] at hx; exact absurd hx (by decide)
  have n109 : ¬ zFs tt n p = 109 := fun e => by rw [e] at hx; exact absurd hx (by decide)
  have n102 : ¬ zFs tt n p = 102 := fun e => by rw [e] at hx; exact absurd hx (by decide)
  have n111 : ¬ zFs tt n p = 111 := fun e => by rw [e] at hx; exact absurd hx (by decide)
  have n107 : ¬ zFs tt n p = 107 := fun e => by rw [e] at hx; exact absurd hx (by decide)
  have n117 : ¬ zFs tt n p = 117 := fun e => by rw [e] at hx; exact absurd hx (by decide)
  have n105 : ¬ zFs tt n p = 105 := fun e => by rw [e] at hx; exact absurd hx (by decide)
  refine s_aload_n dX8_readsClause_0 rfl ?_
  refine s_cv1 dX8_readsClause_1 g_X8_141 (c_X8_next (by rfl) (by rfl) hn (by omega)) (by rfl) rfl rfl rfl rfl (Nat.le_of_ble_eq_true rfl) (Nat.le_of_ble_eq_true rfl) rfl ?_
  refine s_istore_n dX8_readsClause_4 (Nat.le_of_ble_eq_true rfl) rfl ?_
  refine s_iload_n dX8_readsClause_5 rfl ?_
  refine s_bipush (v := 43) dX8_readsClause_6 rfl ?_
  refine s_icmp_eq (tgt := 17) dX8_readsClause_8 (by decide) (fun hqz => absurd hqz n43) (fun hz => ?_)
  clear hz
  refine s_iload_n dX8_readsClause_11 rfl ?_
  refine s_bipush (v := 45) dX8_readsClause_12 rfl ?_
  refine s_icmp_ne (tgt := 21) dX8_readsClause_14 (by decide) (fun hz => ?_) (fun hqz => absurd hqz n45)
  clear hz
  refine s_iconst (v := 0) dX8_readsClause_21 rfl ?_
  refine s_istore_n dX8_readsClause_22 (Nat.le_of_ble_eq_true rfl) rfl ?_
  refine s_iload_n dX8_readsClause_23 rfl ?_
  refine s_if_ne (tgt := 65) dX8_readsClause_24 (by decide) (fun hqz => absurd rfl hqz) (fun hz => ?_)
  clear hz
  refine s_iload_n dX8_readsClause_27 rfl ?_
  refine s_bipush (v := 109) dX8_readsClause_28 rfl ?_
  refine s_icmp_eq (tgt := 65) dX8_readsClause_30 (by decide) (fun hqz => absurd hqz n109) (fun hz => ?_)
  clear hz
  refine s_iload_n dX8_readsClause_33 rfl ?_
  refine s_bipush (v := 102) dX8_readsClause_34 rfl ?_
  refine s_icmp_eq (tgt := 65) dX8_readsClause_36 (by decide) (fun hqz => absurd hqz n102) (fun hz => ?_)
  clear hz
  refine s_iload_n dX8_readsClause_39 rfl ?_
  refine s_bipush (v := 111) dX8_readsClause_40 rfl ?_
  refine s_icmp_eq (tgt := 65) dX8_readsClause_42 (by decide) (fun hqz => absurd hqz n111) (fun hz => ?_)
  clear hz
  refine s_iload_n dX8_readsClause_45 rfl ?_
  refine s_bipush (v := 107) dX8_readsClause_46 rfl ?_
  refine s_icmp_eq (tgt := 65) dX8_readsClause_48 (by decide) (fun hqz => absurd hqz n107) (fun hz => ?_)
  clear hz
  refine s_iload_n dX8_readsClause_51 rfl ?_
  refine s_bipush (v := 117) dX8_readsClause_52 rfl ?_
  refine s_icmp_eq (tgt := 65) dX8_readsClause_54 (by decide) (fun hqz => absurd hqz n117) (fun hz => ?_)
  clear hz
  refine s_iload_n dX8_readsClause_57 rfl ?_
  refine s_bipush (v := 105) dX8_readsClause_58 rfl ?_
  refine s_icmp_eq (tgt := 65) dX8_readsClause_60 (by decide) (fun hqz => absurd hqz n105) (fun hz => ?_)
  clear hz
  refine s_iconst (v := 0) dX8_readsClause_63 rfl ?_
  exact s_zret dX8_readsClause_64 rfl (by first | exact Or.inl rfl | exact Or.inr rfl) ⟨rfl, rfl⟩ (by first | exact wXMl | rfl | (simp only [List.length_set]; exact wXMl))
set_option maxHeartbeats 4000000 in
set_option maxRecDepth 100000 in
theorem c_rc43 {Z : zS} {d : Nat} {hd th : zHd} {hi : Int32} {tx : zTx} {sh : zSh} {tp : zTs} {cm fo nu f1 f2 : Nat → Int32} {mb mk ms me mq mu mh mp : Int32} {fc vc tt sg td sw sm ew eo bc bi im so sz : Nat → Int32} {it mv : Nat → Int64} {n p c : Nat} (hn : n ≤ 100) (hp : p < 900) (hc : c < 12) (hx : zFs tt n p = 43) (h : ¬ zFs tt n (p + 1) < 48 ∧ ¬ 57 < zFs tt n (p + 1)) : zF Z M_X8_readsClause (d + 3) [.ref 41] (wX hd th hi tx sh tp ++ wM cm fo nu f1 f2 mb mk (nI n) (nI p) (nI c) ms me mq mu mh mp fc vc tt sg td sw sm ew eo bc bi im so sz it mv) [.int 1] (wX hd th hi tx sh tp ++ wM cm fo nu f1 f2 mb mk (nI n) (nI (p + 1 + dgL (zFs tt n) (p + 1) 8 0)) (nI (c + 1)) ms me mq mu mh mp fc vc tt (upd sg c 43) (upd td c (nI (vS (zFs tt n) (p + 1) (dgL (zFs tt n) (p + 1) 8 0) 0 0))) sw sm ew eo bc bi im so sz it mv) := by
  show zG Z M_X8_readsClause (d + 3) _ 63 0 [(0, .ref 41)] [] (wX hd th hi tx sh tp ++ wM cm fo nu f1 f2 mb mk (nI n) (nI p) (nI c) ms me mq mu mh mp fc vc tt sg td sw sm ew eo bc bi im so sz it mv)
  have hD : Dg (zFs tt n) (p + 1) (dgL (zFs tt n) (p + 1) 8 0) := fun i hi => dgL_dig (zFs tt n) (p + 1) _ 0 i (Nat.zero_le _) hi
  have hle := dgL_le (zFs tt n) (p + 1) 8 0
  have hb31 : vS (zFs tt n) (p + 1) (dgL (zFs tt n) (p + 1) 8 0) 0 0 < 2 ^ 31 := Nat.lt_trans (vS_lt hD _ 0 0 (by omega) (by decide)) (by decide)
  refine s_aload_n dX8_readsClause_0 rfl ?_
  refine s_cv1 dX8_readsClause_1 g_X8_141 (c_X8_next (by rfl) (by rfl) hn (by omega)) (by rfl) rfl rfl rfl rfl (Nat.le_of_ble_eq_true rfl) (Nat.le_of_ble_eq_true rfl) rfl ?_
  rw [hx]
  refine s_istore_n dX8_readsClause_4 (Nat.le_of_ble_eq_true rfl) rfl ?_
  refine s_iload_n dX8_readsClause_5 rfl ?_
  refine s_bipush (v := 43) dX8_readsClause_6 rfl ?_
  refine s_icmp_eq (tgt := 17) dX8_readsClause_8 (by decide) (fun hz => ?_) (fun hqz => absurd rfl hqz)
  clear hz
  refine s_iconst (v := 1) dX8_readsClause_17 rfl ?_
  refine s_goto (tgt := 22) dX8_readsClause_18 (by decide) ?_
  refine s_istore_n dX8_readsClause_22 (Nat.le_of_ble_eq_true rfl) rfl ?_
  refine s_iload_n dX8_readsClause_23 rfl ?_
  refine s_if_ne (tgt := 65) dX8_readsClause_24 (by decide) (fun hz => ?_) (fun hqz => absurd hqz (by decide))
  clear hz
  refine s_aload_n dX8_readsClause_65 rfl ?_
  refine s_dup dX8_readsClause_66 rfl ?_
  refine s_get dX8_readsClause_67 f_X8_138 (by rfl) (by rfl) ?_
  refine s_iconst (v := 1) dX8_readsClause_70 rfl ?_
  refine s_iadd dX8_readsClause_71 ?_
  rw [nI_1]
  refine s_put dX8_readsClause_72 f_X8_138 (by rfl) (fun _ => ⟨rfl, rfl⟩) (Nat.le_of_ble_eq_true rfl) ?_
  show zG Z M_X8_readsClause _ _ _ _ _ _ (wX hd th hi tx sh tp ++ wM cm fo nu f1 f2 mb mk (nI n) (nI (p + 1)) (nI c) ms me mq mu mh mp fc vc tt sg td sw sm ew eo bc bi im so sz it mv)
  refine s_aload_n dX8_readsClause_75 rfl ?_
  refine s_get dX8_readsClause_76 f_X8_41 (by rfl) (by rfl) ?_
  refine s_aload_n dX8_readsClause_79 rfl ?_
  refine s_get dX8_readsClause_80 f_X8_149 (by rfl) (by rfl) ?_
  refine s_iload_n dX8_readsClause_83 rfl ?_
  refine s_iast dX8_readsClause_84 (by rfl) (zrd (n := 12) hc (by decide)) ?_
  rw [nI_clamp (by omega)]
  show zG Z M_X8_readsClause _ _ _ _ _ _ (wX hd th hi tx sh tp ++ wM cm fo nu f1 f2 mb mk (nI n) (nI (p + 1)) (nI c) ms me mq mu mh mp fc vc tt (upd sg c 43) td sw sm ew eo bc bi im so sz it mv)
  refine s_aload_n dX8_readsClause_85 rfl ?_
  refine s_get dX8_readsClause_86 f_X8_44 (by rfl) (by rfl) ?_
  refine s_aload_n dX8_readsClause_89 rfl ?_
  refine s_get dX8_readsClause_90 f_X8_149 (by rfl) (by rfl) ?_
  refine s_iload_n dX8_readsClause_93 rfl ?_
  refine s_if_eq (tgt := 107) dX8_readsClause_94 (by decide) (fun hqz => absurd hqz (by decide)) (fun hz => ?_)
  clear hz
  refine s_aload_n dX8_readsClause_97 rfl ?_
  refine s_iconst (v := 1) dX8_readsClause_98 rfl ?_
  refine s_bipush (v := 8) dX8_readsClause_99 rfl ?_
  refine s_cv1 dX8_readsClause_101 g_X8_152 (c_rdS (q := p + 1) (m := 8) (by rfl) (by rfl) hn (by omega) (by decide) (by decide) h) (by rfl) rfl rfl rfl rfl (Nat.le_of_ble_eq_true rfl) (Nat.le_of_ble_eq_true rfl) rfl ?_
  show zG Z M_X8_readsClause _ _ _ _ _ _ (wX hd th hi tx sh tp ++ wM cm fo nu f1 f2 mb mk (nI n) (nI (p + 1 + dgL (zFs tt n) (p + 1) 8 0)) (nI c) ms me mq mu mh mp fc vc tt (upd sg c 43) td sw sm ew eo bc bi im so sz it mv)
  refine s_goto (tgt := 123) dX8_readsClause_104 (by decide) ?_
  refine s_iast dX8_readsClause_123 (by rfl) (zrd (n := 12) hc (by decide)) ?_
  rw [nI_clamp (by omega)]
  show zG Z M_X8_readsClause _ _ _ _ _ _ (wX hd th hi tx sh tp ++ wM cm fo nu f1 f2 mb mk (nI n) (nI (p + 1 + dgL (zFs tt n) (p + 1) 8 0)) (nI c) ms me mq mu mh mp fc vc tt (upd sg c 43) (upd td c (nI (vS (zFs tt n) (p + 1) (dgL (zFs tt n) (p + 1) 8 0) 0 0))) sw sm ew eo bc bi im so sz it mv)
  refine s_aload_n dX8_readsClause_124 rfl ?_
  refine s_get dX8_readsClause_125 f_X8_44 (by rfl) (by rfl) ?_
  refine s_aload_n dX8_readsClause_128 rfl ?_
  refine s_get dX8_readsClause_129 f_X8_149 (by rfl) (by rfl) ?_
  refine s_iald dX8_readsClause_132 (by rfl) (zrd (n := 12) hc (by decide)) ?_
  rw [nI_clamp (by omega), show upd td c (nI (vS (zFs tt n) (p + 1) (dgL (zFs tt n) (p + 1) 8 0) 0 0)) c = (nI (vS (zFs tt n) (p + 1) (dgL (zFs tt n) (p + 1) 8 0) 0 0)) from if_pos rfl]
  refine s_if_ge (tgt := 138) dX8_readsClause_133 (by decide) (fun hz => ?_) (fun hqz => absurd (nI_pos' hb31) hqz)
  clear hz
  refine s_aload_n dX8_readsClause_138 rfl ?_
  refine s_dup dX8_readsClause_139 rfl ?_
  refine s_get dX8_readsClause_140 f_X8_149 (by rfl) (by rfl) ?_
  refine s_iconst (v := 1) dX8_readsClause_143 rfl ?_
  refine s_iadd dX8_readsClause_144 ?_
  rw [nI_1]
  refine s_put dX8_readsClause_145 f_X8_149 (by rfl) (fun _ => ⟨rfl, rfl⟩) (Nat.le_of_ble_eq_true rfl) ?_
  show zG Z M_X8_readsClause _ _ _ _ _ _ (wX hd th hi tx sh tp ++ wM cm fo nu f1 f2 mb mk (nI n) (nI (p + 1 + dgL (zFs tt n) (p + 1) 8 0)) (nI (c + 1)) ms me mq mu mh mp fc vc tt (upd sg c 43) (upd td c (nI (vS (zFs tt n) (p + 1) (dgL (zFs tt n) (p + 1) 8 0) 0 0))) sw sm ew eo bc bi im so sz it mv)
  refine s_iconst (v := 1) dX8_readsClause_148 rfl ?_
  exact s_zret dX8_readsClause_149 rfl (by first | exact Or.inl rfl | exact Or.inr rfl) ⟨rfl, rfl⟩ (by first | exact wXMl | rfl | (simp only [List.length_set]; exact wXMl))
set_option maxHeartbeats 4000000 in
set_option maxRecDepth 100000 in
theorem c_rc430 {Z : zS} {d : Nat} {hd th : zHd} {hi : Int32} {tx : zTx} {sh : zSh} {tp : zTs} {cm fo nu f1 f2 : Nat → Int32} {mb mk ms me mq mu mh mp : Int32} {fc vc tt sg td sw sm ew eo bc bi im so sz : Nat → Int32} {it mv : Nat → Int64} {n p c : Nat} (hn : n ≤ 100) (hp : p < 900) (hc : c < 12) (hx : zFs tt n p = 43) (h : ¬ (¬ zFs tt n (p + 1) < 48 ∧ ¬ 57 < zFs tt n (p + 1))) : zF Z M_X8_readsClause (d + 3) [.ref 41] (wX hd th hi tx sh tp ++ wM cm fo nu f1 f2 mb mk (nI n) (nI p) (nI c) ms me mq mu mh mp fc vc tt sg td sw sm ew eo bc bi im so sz it mv) [.int 0] (wX hd th hi tx sh tp ++ wM cm fo nu f1 f2 mb mk (nI n) (nI (p + 1)) (nI c) ms me mq mu mh mp fc vc tt (upd sg c 43) (upd td c (-1)) sw sm ew eo bc bi im so sz it mv) := by
  show zG Z M_X8_readsClause (d + 3) _ 63 0 [(0, .ref 41)] [] (wX hd th hi tx sh tp ++ wM cm fo nu f1 f2 mb mk (nI n) (nI p) (nI c) ms me mq mu mh mp fc vc tt sg td sw sm ew eo bc bi im so sz it mv)
  refine s_aload_n dX8_readsClause_0 rfl ?_
  refine s_cv1 dX8_readsClause_1 g_X8_141 (c_X8_next (by rfl) (by rfl) hn (by omega)) (by rfl) rfl rfl rfl rfl (Nat.le_of_ble_eq_true rfl) (Nat.le_of_ble_eq_true rfl) rfl ?_
  rw [hx]
  refine s_istore_n dX8_readsClause_4 (Nat.le_of_ble_eq_true rfl) rfl ?_
  refine s_iload_n dX8_readsClause_5 rfl ?_
  refine s_bipush (v := 43) dX8_readsClause_6 rfl ?_
  refine s_icmp_eq (tgt := 17) dX8_readsClause_8 (by decide) (fun hz => ?_) (fun hqz => absurd rfl hqz)
  clear hz
  refine s_iconst (v := 1) dX8_readsClause_17 rfl ?_
  refine s_goto (tgt := 22) dX8_readsClause_18 (by decide) ?_
  refine s_istore_n dX8_readsClause_22 (Nat.le_of_ble_eq_true rfl) rfl ?_
  refine s_iload_n dX8_readsClause_23 rfl ?_
  refine s_if_ne (tgt := 65) dX8_readsClause_24 (by decide) (fun hz => ?_) (fun hqz => absurd hqz (by decide))
  clear hz
  refine s_aload_n dX8_readsClause_65 rfl ?_
  refine s_dup dX8_readsClause_66 rfl ?_
  refine s_get dX8_readsClause_67 f_X8_138 (by rfl) (by rfl) ?_
  refine s_iconst (v := 1) dX8_readsClause_70 rfl ?_
  refine s_iadd dX8_readsClause_71 ?_
  rw [nI_1]
  refine s_put dX8_readsClause_72 f_X8_138 (by rfl) (fun _ => ⟨rfl, rfl⟩) (Nat.le_of_ble_eq_true rfl) ?_
  show zG Z M_X8_readsClause _ _ _ _ _ _ (wX hd th hi tx sh tp ++ wM cm fo nu f1 f2 mb mk (nI n) (nI (p + 1)) (nI c) ms me mq mu mh mp fc vc tt sg td sw sm ew eo bc bi im so sz it mv)
  refine s_aload_n dX8_readsClause_75 rfl ?_
  refine s_get dX8_readsClause_76 f_X8_41 (by rfl) (by rfl) ?_
  refine s_aload_n dX8_readsClause_79 rfl ?_
  refine s_get dX8_readsClause_80 f_X8_149 (by rfl) (by rfl) ?_
  refine s_iload_n dX8_readsClause_83 rfl ?_
  refine s_iast dX8_readsClause_84 (by rfl) (zrd (n := 12) hc (by decide)) ?_
  rw [nI_clamp (by omega)]
  show zG Z M_X8_readsClause _ _ _ _ _ _ (wX hd th hi tx sh tp ++ wM cm fo nu f1 f2 mb mk (nI n) (nI (p + 1)) (nI c) ms me mq mu mh mp fc vc tt (upd sg c 43) td sw sm ew eo bc bi im so sz it mv)
  refine s_aload_n dX8_readsClause_85 rfl ?_
  refine s_get dX8_readsClause_86 f_X8_44 (by rfl) (by rfl) ?_
  refine s_aload_n dX8_readsClause_89 rfl ?_
  refine s_get dX8_readsClause_90 f_X8_149 (by rfl) (by rfl) ?_
  refine s_iload_n dX8_readsClause_93 rfl ?_
  refine s_if_eq (tgt := 107) dX8_readsClause_94 (by decide) (fun hqz => absurd hqz (by decide)) (fun hz => ?_)
  clear hz
  refine s_aload_n dX8_readsClause_97 rfl ?_
  refine s_iconst (v := 1) dX8_readsClause_98 rfl ?_
  refine s_bipush (v := 8) dX8_readsClause_99 rfl ?_
  refine s_cv1 dX8_readsClause_101 g_X8_152 (c_rdS0 (q := p + 1) (m := 8) (by rfl) (by rfl) hn (by omega) (by decide) (by decide) h) (by rfl) rfl rfl rfl rfl (Nat.le_of_ble_eq_true rfl) (Nat.le_of_ble_eq_true rfl) rfl ?_
  show zG Z M_X8_readsClause _ _ _ _ _ _ (wX hd th hi tx sh tp ++ wM cm fo nu f1 f2 mb mk (nI n) (nI (p + 1)) (nI c) ms me mq mu mh mp fc vc tt (upd sg c 43) td sw sm ew eo bc bi im so sz it mv)
  refine s_goto (tgt := 123) dX8_readsClause_104 (by decide) ?_
  refine s_iast dX8_readsClause_123 (by rfl) (zrd (n := 12) hc (by decide)) ?_
  rw [nI_clamp (by omega)]
  show zG Z M_X8_readsClause _ _ _ _ _ _ (wX hd th hi tx sh tp ++ wM cm fo nu f1 f2 mb mk (nI n) (nI (p + 1)) (nI c) ms me mq mu mh mp fc vc tt (upd sg c 43) (upd td c (-1)) sw sm ew eo bc bi im so sz it mv)
  refine s_aload_n dX8_readsClause_124 rfl ?_
  refine s_get dX8_readsClause_125 f_X8_44 (by rfl) (by rfl) ?_
  refine s_aload_n dX8_readsClause_128 rfl ?_
  refine s_get dX8_readsClause_129 f_X8_149 (by rfl) (by rfl) ?_
  refine s_iald dX8_readsClause_132 (by rfl) (zrd (n := 12) hc (by decide)) ?_
  rw [nI_clamp (by omega), show upd td c (-1) c = (-1) from if_pos rfl]
  refine s_if_ge (tgt := 138) dX8_readsClause_133 (by decide) (fun hqz => absurd hqz (by decide)) (fun hz => ?_)
  clear hz
  refine s_iconst (v := 0) dX8_readsClause_136 rfl ?_
  exact s_zret dX8_readsClause_137 rfl (by first | exact Or.inl rfl | exact Or.inr rfl) ⟨rfl, rfl⟩ (by first | exact wXMl | rfl | (simp only [List.length_set]; exact wXMl))
set_option maxHeartbeats 4000000 in
set_option maxRecDepth 100000 in
theorem c_rc45 {Z : zS} {d : Nat} {hd th : zHd} {hi : Int32} {tx : zTx} {sh : zSh} {tp : zTs} {cm fo nu f1 f2 : Nat → Int32} {mb mk ms me mq mu mh mp : Int32} {fc vc tt sg td sw sm ew eo bc bi im so sz : Nat → Int32} {it mv : Nat → Int64} {n p c : Nat} (hn : n ≤ 100) (hp : p < 900) (hc : c < 12) (hx : zFs tt n p = 45) (h : ¬ zFs tt n (p + 1) < 48 ∧ ¬ 57 < zFs tt n (p + 1)) : zF Z M_X8_readsClause (d + 3) [.ref 41] (wX hd th hi tx sh tp ++ wM cm fo nu f1 f2 mb mk (nI n) (nI p) (nI c) ms me mq mu mh mp fc vc tt sg td sw sm ew eo bc bi im so sz it mv) [.int 1] (wX hd th hi tx sh tp ++ wM cm fo nu f1 f2 mb mk (nI n) (nI (p + 1 + dgL (zFs tt n) (p + 1) 8 0)) (nI (c + 1)) ms me mq mu mh mp fc vc tt (upd sg c 45) (upd td c (nI (vS (zFs tt n) (p + 1) (dgL (zFs tt n) (p + 1) 8 0) 0 0))) sw sm ew eo bc bi im so sz it mv) := by
  show zG Z M_X8_readsClause (d + 3) _ 63 0 [(0, .ref 41)] [] (wX hd th hi tx sh tp ++ wM cm fo nu f1 f2 mb mk (nI n) (nI p) (nI c) ms me mq mu mh mp fc vc tt sg td sw sm ew eo bc bi im so sz it mv)
  have hD : Dg (zFs tt n) (p + 1) (dgL (zFs tt n) (p + 1) 8 0) := fun i hi => dgL_dig (zFs tt n) (p + 1) _ 0 i (Nat.zero_le _) hi
  have hle := dgL_le (zFs tt n) (p + 1) 8 0
  have hb31 : vS (zFs tt n) (p + 1) (dgL (zFs tt n) (p + 1) 8 0) 0 0 < 2 ^ 31 := Nat.lt_trans (vS_lt hD _ 0 0 (by omega) (by decide)) (by decide)
  refine s_aload_n dX8_readsClause_0 rfl ?_
  refine s_cv1 dX8_readsClause_1 g_X8_141 (c_X8_next (by rfl) (by rfl) hn (by omega)) (by rfl) rfl rfl rfl rfl (Nat.le_of_ble_eq_true rfl) (Nat.le_of_ble_eq_true rfl) rfl ?_
  rw [hx]
  refine s_istore_n dX8_readsClause_4 (Nat.le_of_ble_eq_true rfl) rfl ?_
  refine s_iload_n dX8_readsClause_5 rfl ?_
  refine s_bipush (v := 43) dX8_readsClause_6 rfl ?_
  refine s_icmp_eq (tgt := 17) dX8_readsClause_8 (by decide) (fun hqz => absurd hqz (by decide)) (fun hz => ?_)
  clear hz
  refine s_iload_n dX8_readsClause_11 rfl ?_
  refine s_bipush (v := 45) dX8_readsClause_12 rfl ?_
  refine s_icmp_ne (tgt := 21) dX8_readsClause_14 (by decide) (fun hqz => absurd rfl hqz) (fun hz => ?_)
  clear hz
  refine s_iconst (v := 1) dX8_readsClause_17 rfl ?_
  refine s_goto (tgt := 22) dX8_readsClause_18 (by decide) ?_
  refine s_istore_n dX8_readsClause_22 (Nat.le_of_ble_eq_true rfl) rfl ?_
  refine s_iload_n dX8_readsClause_23 rfl ?_
  refine s_if_ne (tgt := 65) dX8_readsClause_24 (by decide) (fun hz => ?_) (fun hqz => absurd hqz (by decide))
  clear hz
  refine s_aload_n dX8_readsClause_65 rfl ?_
  refine s_dup dX8_readsClause_66 rfl ?_
  refine s_get dX8_readsClause_67 f_X8_138 (by rfl) (by rfl) ?_
  refine s_iconst (v := 1) dX8_readsClause_70 rfl ?_
  refine s_iadd dX8_readsClause_71 ?_
  rw [nI_1]
  refine s_put dX8_readsClause_72 f_X8_138 (by rfl) (fun _ => ⟨rfl, rfl⟩) (Nat.le_of_ble_eq_true rfl) ?_
  show zG Z M_X8_readsClause _ _ _ _ _ _ (wX hd th hi tx sh tp ++ wM cm fo nu f1 f2 mb mk (nI n) (nI (p + 1)) (nI c) ms me mq mu mh mp fc vc tt sg td sw sm ew eo bc bi im so sz it mv)
  refine s_aload_n dX8_readsClause_75 rfl ?_
  refine s_get dX8_readsClause_76 f_X8_41 (by rfl) (by rfl) ?_
  refine s_aload_n dX8_readsClause_79 rfl ?_
  refine s_get dX8_readsClause_80 f_X8_149 (by rfl) (by rfl) ?_
  refine s_iload_n dX8_readsClause_83 rfl ?_
  refine s_iast dX8_readsClause_84 (by rfl) (zrd (n := 12) hc (by decide)) ?_
  rw [nI_clamp (by omega)]
  show zG Z M_X8_readsClause _ _ _ _ _ _ (wX hd th hi tx sh tp ++ wM cm fo nu f1 f2 mb mk (nI n) (nI (p + 1)) (nI c) ms me mq mu mh mp fc vc tt (upd sg c 45) td sw sm ew eo bc bi im so sz it mv)
  refine s_aload_n dX8_readsClause_85 rfl ?_
  refine s_get dX8_readsClause_86 f_X8_44 (by rfl) (by rfl) ?_
  refine s_aload_n dX8_readsClause_89 rfl ?_
  refine s_get dX8_readsClause_90 f_X8_149 (by rfl) (by rfl) ?_
  refine s_iload_n dX8_readsClause_93 rfl ?_
  refine s_if_eq (tgt := 107) dX8_readsClause_94 (by decide) (fun hqz => absurd hqz (by decide)) (fun hz => ?_)
  clear hz
  refine s_aload_n dX8_readsClause_97 rfl ?_
  refine s_iconst (v := 1) dX8_readsClause_98 rfl ?_
  refine s_bipush (v := 8) dX8_readsClause_99 rfl ?_
  refine s_cv1 dX8_readsClause_101 g_X8_152 (c_rdS (q := p + 1) (m := 8) (by rfl) (by rfl) hn (by omega) (by decide) (by decide) h) (by rfl) rfl rfl rfl rfl (Nat.le_of_ble_eq_true rfl) (Nat.le_of_ble_eq_true rfl) rfl ?_
  show zG Z M_X8_readsClause _ _ _ _ _ _ (wX hd th hi tx sh tp ++ wM cm fo nu f1 f2 mb mk (nI n) (nI (p + 1 + dgL (zFs tt n) (p + 1) 8 0)) (nI c) ms me mq mu mh mp fc vc tt (upd sg c 45) td sw sm ew eo bc bi im so sz it mv)
  refine s_goto (tgt := 123) dX8_readsClause_104 (by decide) ?_
  refine s_iast dX8_readsClause_123 (by rfl) (zrd (n := 12) hc (by decide)) ?_
  rw [nI_clamp (by omega)]
  show zG Z M_X8_readsClause _ _ _ _ _ _ (wX hd th hi tx sh tp ++ wM cm fo nu f1 f2 mb mk (nI n) (nI (p + 1 + dgL (zFs tt n) (p + 1) 8 0)) (nI c) ms me mq mu mh mp fc vc tt (upd sg c 45) (upd td c (nI (vS (zFs tt n) (p + 1) (dgL (zFs tt n) (p + 1) 8 0) 0 0))) sw sm ew eo bc bi im so sz it mv)
  refine s_aload_n dX8_readsClause_124 rfl ?_
  refine s_get dX8_readsClause_125 f_X8_44 (by rfl) (by rfl) ?_
  refine s_aload_n dX8_readsClause_128 rfl ?_
  refine s_get dX8_readsClause_129 f_X8_149 (by rfl) (by rfl) ?_
  refine s_iald dX8_readsClause_132 (by rfl) (zrd (n := 12) hc (by decide)) ?_
  rw [nI_clamp (by omega), show upd td c (nI (vS (zFs tt n) (p + 1) (dgL (zFs tt n) (p + 1) 8 0) 0 0)) c = (nI (vS (zFs tt n) (p + 1) (dgL (zFs tt n) (p + 1) 8 0) 0 0)) from if_pos rfl]
  refine s_if_ge (tgt := 138) dX8_readsClause_133 (by decide) (fun hz => ?_) (fun hqz => absurd (nI_pos' hb31) hqz)
  clear hz
  refine s_aload_n dX8_readsClause_138 rfl ?_
  refine s_dup dX8_readsClause_139 rfl ?_
  refine s_get dX8_readsClause_140 f_X8_149 (by rfl) (by rfl) ?_
  refine s_iconst (v := 1) dX8_readsClause_143 rfl ?_
  refine s_iadd dX8_readsClause_144 ?_
  rw [nI_1]
  refine s_put dX8_readsClause_145 f_X8_149 (by rfl) (fun _ => ⟨rfl, rfl⟩) (Nat.le_of_ble_eq_true rfl) ?_
  show zG Z M_X8_readsClause _ _ _ _ _ _ (wX hd th hi tx sh tp ++ wM cm fo nu f1 f2 mb mk (nI n) (nI (p + 1 + dgL (zFs tt n) (p + 1) 8 0)) (nI (c + 1)) ms me mq mu mh mp fc vc tt (upd sg c 45) (upd td c (nI (vS (zFs tt n) (p + 1) (dgL (zFs tt n) (p + 1) 8 0) 0 0))) sw sm ew eo bc bi im so sz it mv)
  refine s_iconst (v := 1) dX8_readsClause_148 rfl ?_
  exact s_zret dX8_readsClause_149 rfl (by first | exact Or.inl rfl | exact Or.inr rfl) ⟨rfl, rfl⟩ (by first | exact wXMl | rfl | (simp only [List.length_set]; exact wXMl))
set_option maxHeartbeats 4000000 in
set_option maxRecDepth 100000 in
theorem c_rc450 {Z : zS} {d : Nat} {hd th : zHd} {hi : Int32} {tx : zTx} {sh : zSh} {tp : zTs} {cm fo nu f1 f2 : Nat → Int32} {mb mk ms me mq mu mh mp : Int32} {fc vc tt sg td sw sm ew eo bc bi im so sz : Nat → Int32} {it mv : Nat → Int64} {n p c : Nat} (hn : n ≤ 100) (hp : p < 900) (hc : c < 12) (hx : zFs tt n p = 45) (h : ¬ (¬ zFs tt n (p + 1) < 48 ∧ ¬ 57 < zFs tt n (p + 1))) : zF Z M_X8_readsClause (d + 3) [.ref 41] (wX hd th hi tx sh tp ++ wM cm fo nu f1 f2 mb mk (nI n) (nI p) (nI c) ms me mq mu mh mp fc vc tt sg td sw sm ew eo bc bi im so sz it mv) [.int 0] (wX hd th hi tx sh tp ++ wM cm fo nu f1 f2 mb mk (nI n) (nI (p + 1)) (nI c) ms me mq mu mh mp fc vc tt (upd sg c 45) (upd td c (-1)) sw sm ew eo bc bi im so sz it mv) := by
  show zG Z M_X8_readsClause (d + 3) _ 63 0 [(0, .ref 41)] [] (wX hd th hi tx sh tp ++ wM cm fo nu f1 f2 mb mk (nI n) (nI p) (nI c) ms me mq mu mh mp fc vc tt sg td sw sm ew eo bc bi im so sz it mv)
  refine s_aload_n dX8_readsClause_0 rfl ?_
  refine s_cv1 dX8_readsClause_1 g_X8_141 (c_X8_next (by rfl) (by rfl) hn (by omega)) (by rfl) rfl rfl rfl rfl (Nat.le_of_ble_eq_true rfl) (Nat.le_of_ble_eq_true rfl) rfl ?_
  rw [hx]
  refine s_istore_n dX8_readsClause_4 (Nat.le_of_ble_eq_true rfl) rfl ?_
  refine s_iload_n dX8_readsClause_5 rfl ?_
  refine s_bipush (v := 43) dX8_readsClause_6 rfl ?_
  refine s_icmp_eq (tgt := 17) dX8_readsClause_8 (by decide) (fun hqz => absurd hqz (by decide)) (fun hz => ?_)
  clear hz
  refine s_iload_n dX8_readsClause_11 rfl ?_
  refine s_bipush (v := 45) dX8_readsClause_12 rfl ?_
  refine s_icmp_ne (tgt := 21) dX8_readsClause_14 (by decide) (fun hqz => absurd rfl hqz) (fun hz => ?_)
  clear hz
  refine s_iconst (v := 1) dX8_readsClause_17 rfl ?_
  refine s_goto (tgt := 22) dX8_readsClause_18 (by decide) ?_
  refine s_istore_n dX8_readsClause_22 (Nat.le_of_ble_eq_true rfl) rfl ?_
  refine s_iload_n dX8_readsClause_23 rfl ?_
  refine s_if_ne (tgt := 65) dX8_readsClause_24 (by decide) (fun hz => ?_) (fun hqz => absurd hqz (by decide))
  clear hz
  refine s_aload_n dX8_readsClause_65 rfl ?_
  refine s_dup dX8_readsClause_66 rfl ?_
  refine s_get dX8_readsClause_67 f_X8_138 (by rfl) (by rfl) ?_
  refine s_iconst (v := 1) dX8_readsClause_70 rfl ?_
  refine s_iadd dX8_readsClause_71 ?_
  rw [nI_1]
  refine s_put dX8_readsClause_72 f_X8_138 (by rfl) (fun _ => ⟨rfl, rfl⟩) (Nat.le_of_ble_eq_true rfl) ?_
  show zG Z M_X8_readsClause _ _ _ _ _ _ (wX hd th hi tx sh tp ++ wM cm fo nu f1 f2 mb mk (nI n) (nI (p + 1)) (nI c) ms me mq mu mh mp fc vc tt sg td sw sm ew eo bc bi im so sz it mv)
  refine s_aload_n dX8_readsClause_75 rfl ?_
  refine s_get dX8_readsClause_76 f_X8_41 (by rfl) (by rfl) ?_
  refine s_aload_n dX8_readsClause_79 rfl ?_
  refine s_get dX8_readsClause_80 f_X8_149 (by rfl) (by rfl) ?_
  refine s_iload_n dX8_readsClause_83 rfl ?_
  refine s_iast dX8_readsClause_84 (by rfl) (zrd (n := 12) hc (by decide)) ?_
  rw [nI_clamp (by omega)]
  show zG Z M_X8_readsClause _ _ _ _ _ _ (wX hd th hi tx sh tp ++ wM cm fo nu f1 f2 mb mk (nI n) (nI (p + 1)) (nI c) ms me mq mu mh mp fc vc tt (upd sg c 45) td sw sm ew eo bc bi im so sz it mv)
  refine s_aload_n dX8_readsClause_85 rfl ?_
  refine s_get dX8_readsClause_86 f_X8_44 (by rfl) (by rfl) ?_
  refine s_aload_n dX8_readsClause_89 rfl ?_
  refine s_get dX8_readsClause_90 f_X8_149 (by rfl) (by rfl) ?_
  refine s_iload_n dX8_readsClause_93 rfl ?_
  refine s_if_eq (tgt := 107) dX8_readsClause_94 (by decide) (fun hqz => absurd hqz (by decide)) (fun hz => ?_)
  clear hz
  refine s_aload_n dX8_readsClause_97 rfl ?_
  refine s_iconst (v := 1) dX8_readsClause_98 rfl ?_
  refine s_bipush (v := 8) dX8_readsClause_99 rfl ?_
  refine s_cv1 dX8_readsClause_101 g_X8_152 (c_rdS0 (q := p + 1) (m := 8) (by rfl) (by rfl) hn (by omega) (by decide) (by decide) h) (by rfl) rfl rfl rfl rfl (Nat.le_of_ble_eq_true rfl) (Nat.le_of_ble_eq_true rfl) rfl ?_
  show zG Z M_X8_readsClause _ _ _ _ _ _ (wX hd th hi tx sh tp ++ wM cm fo nu f1 f2 mb mk (nI n) (nI (p + 1)) (nI c) ms me mq mu mh mp fc vc tt (upd sg c 45) td sw sm ew eo bc bi im so sz it mv)
  refine s_goto (tgt := 123) dX8_readsClause_104 (by decide) ?_
  refine s_iast dX8_readsClause_123 (by rfl) (zrd (n := 12) hc (by decide)) ?_
  rw [nI_clamp (by omega)]
  show zG Z M_X8_readsClause _ _ _ _ _ _ (wX hd th hi tx sh tp ++ wM cm fo nu f1 f2 mb mk (nI n) (nI (p + 1)) (nI c) ms me mq mu mh mp fc vc tt (upd sg c 45) (upd td c (-1)) sw sm ew eo bc bi im so sz it mv)
  refine s_aload_n dX8_readsClause_124 rfl ?_
  refine s_get dX8_readsClause_125 f_X8_44 (by rfl) (by rfl) ?_
  refine s_aload_n dX8_readsClause_128 rfl ?_
  refine s_get dX8_readsClause_129 f_X8_149 (by rfl) (by rfl) ?_
  refine s_iald dX8_readsClause_132 (by rfl) (zrd (n := 12) hc (by decide)) ?_
  rw [nI_clamp (by omega), show upd td c (-1) c = (-1) from if_pos rfl]
  refine s_if_ge (tgt := 138) dX8_readsClause_133 (by decide) (fun hqz => absurd hqz (by decide)) (fun hz => ?_)
  clear hz
  refine s_iconst (v := 0) dX8_readsClause_136 rfl ?_
  exact s_zret dX8_readsClause_137 rfl (by first | exact Or.inl rfl | exact Or.inr rfl) ⟨rfl, rfl⟩ (by first | exact wXMl | rfl | (simp only [List.length_set]; exact wXMl))
set_option maxHeartbeats 4000000 in
set_option maxRecDepth 100000 in
theorem c_rc109 {Z : zS} {d : Nat} {hd th : zHd} {hi : Int32} {tx : zTx} {sh : zSh} {tp : zTs} {cm fo nu f1 f2 : Nat → Int32} {mb mk ms me mq mu mh mp : Int32} {fc vc tt sg td sw sm ew eo bc bi im so sz : Nat → Int32} {it mv : Nat → Int64} {n p c : Nat} (hn : n ≤ 100) (hp : p < 900) (hc : c < 12) (hx : zFs tt n p = 109) (h : ¬ zFs tt n (p + 1) < 48 ∧ ¬ 57 < zFs tt n (p + 1)) : zF Z M_X8_readsClause (d + 3) [.ref 41] (wX hd th hi tx sh tp ++ wM cm fo nu f1 f2 mb mk (nI n) (nI p) (nI c) ms me mq mu mh mp fc vc tt sg td sw sm ew eo bc bi im so sz it mv) [.int 1] (wX hd th hi tx sh tp ++ wM cm fo nu f1 f2 mb mk (nI n) (nI (p + 1 + dgL (zFs tt n) (p + 1) 2 0)) (nI (c + 1)) ms me mq mu mh mp fc vc tt (upd sg c 109) (upd td c (nI (nvL (zFs tt n) (p + 1) (dgL (zFs tt n) (p + 1) 2 0) 0 0))) sw sm ew eo bc bi im so sz it mv) := by
  show zG Z M_X8_readsClause (d + 3) _ 63 0 [(0, .ref 41)] [] (wX hd th hi tx sh tp ++ wM cm fo nu f1 f2 mb mk (nI n) (nI p) (nI c) ms me mq mu mh mp fc vc tt sg td sw sm ew eo bc bi im so sz it mv)
  have hD : Dg (zFs tt n) (p + 1) (dgL (zFs tt n) (p + 1) 2 0) := fun i hi => dgL_dig (zFs tt n) (p + 1) _ 0 i (Nat.zero_le _) hi
  have hle := dgL_le (zFs tt n) (p + 1) 2 0
  have hb31 : nvL (zFs tt n) (p + 1) (dgL (zFs tt n) (p + 1) 2 0) 0 0 < 2 ^ 31 := by
    have h1 := nvL_le hD (dgL (zFs tt n) (p + 1) 2 0) 0 0 (by omega)
    have h2 : 10 ^ (dgL (zFs tt n) (p + 1) 2 0) ≤ 10 ^ 2 := Nat.pow_le_pow_right (by decide) (by omega)
    omega
  refine s_aload_n dX8_readsClause_0 rfl ?_
  refine s_cv1 dX8_readsClause_1 g_X8_141 (c_X8_next (by rfl) (by rfl) hn (by omega)) (by rfl) rfl rfl rfl rfl (Nat.le_of_ble_eq_true rfl) (Nat.le_of_ble_eq_true rfl) rfl ?_
  rw [hx]
  refine s_istore_n dX8_readsClause_4 (Nat.le_of_ble_eq_true rfl) rfl ?_
  refine s_iload_n dX8_readsClause_5 rfl ?_
  refine s_bipush (v := 43) dX8_readsClause_6 rfl ?_
  refine s_icmp_eq (tgt := 17) dX8_readsClause_8 (by decide) (fun hqz => absurd hqz (by decide)) (fun hz => ?_)
  clear hz
  refine s_iload_n dX8_readsClause_11 rfl ?_
  refine s_bipush (v := 45) dX8_readsClause_12 rfl ?_
  refine s_icmp_ne (tgt := 21) dX8_readsClause_14 (by decide) (fun hz => ?_) (fun hqz => absurd hqz (by decide))
  clear hz
  refine s_iconst (v := 0) dX8_readsClause_21 rfl ?_
  refine s_istore_n dX8_readsClause_22 (Nat.le_of_ble_eq_true rfl) rfl ?_
  refine s_iload_n dX8_readsClause_23 rfl ?_
  refine s_if_ne (tgt := 65) dX8_readsClause_24 (by decide) (fun hqz => absurd rfl hqz) (fun hz => ?_)
  clear hz
  refine s_iload_n dX8_readsClause_27 rfl ?_
  refine s_bipush (v := 109) dX8_readsClause_28 rfl ?_
  refine s_icmp_eq (tgt := 65) dX8_readsClause_30 (by decide) (fun hz => ?_) (fun hqz => absurd rfl hqz)
  clear hz
  refine s_aload_n dX8_readsClause_65 rfl ?_
  refine s_dup dX8_readsClause_66 rfl ?_
  refine s_get dX8_readsClause_67 f_X8_138 (by rfl) (by rfl) ?_
  refine s_iconst (v := 1) dX8_readsClause_70 rfl ?_
  refine s_iadd dX8_readsClause_71 ?_
  rw [nI_1]
  refine s_put dX8_readsClause_72 f_X8_138 (by rfl) (fun _ => ⟨rfl, rfl⟩) (Nat.le_of_ble_eq_true rfl) ?_
  show zG Z M_X8_readsClause _ _ _ _ _ _ (wX hd th hi tx sh tp ++ wM cm fo nu f1 f2 mb mk (nI n) (nI (p + 1)) (nI c) ms me mq mu mh mp fc vc tt sg td sw sm ew eo bc bi im so sz it mv)
  refine s_aload_n dX8_readsClause_75 rfl ?_
  refine s_get dX8_readsClause_76 f_X8_41 (by rfl) (by rfl) ?_
  refine s_aload_n dX8_readsClause_79 rfl ?_
  refine s_get dX8_readsClause_80 f_X8_149 (by rfl) (by rfl) ?_
  refine s_iload_n dX8_readsClause_83 rfl ?_
  refine s_iast dX8_readsClause_84 (by rfl) (zrd (n := 12) hc (by decide)) ?_
  rw [nI_clamp (by omega)]
  show zG Z M_X8_readsClause _ _ _ _ _ _ (wX hd th hi tx sh tp ++ wM cm fo nu f1 f2 mb mk (nI n) (nI (p + 1)) (nI c) ms me mq mu mh mp fc vc tt (upd sg c 109) td sw sm ew eo bc bi im so sz it mv)
  refine s_aload_n dX8_readsClause_85 rfl ?_
  refine s_get dX8_readsClause_86 f_X8_44 (by rfl) (by rfl) ?_
  refine s_aload_n dX8_readsClause_89 rfl ?_
  refine s_get dX8_readsClause_90 f_X8_149 (by rfl) (by rfl) ?_
  refine s_iload_n dX8_readsClause_93 rfl ?_
  refine s_if_eq (tgt := 107) dX8_readsClause_94 (by decide) (fun hz => ?_) (fun hqz => absurd rfl hqz)
  clear hz
  refine s_iload_n dX8_readsClause_107 rfl ?_
  refine s_bipush (v := 109) dX8_readsClause_108 rfl ?_
  refine s_icmp_ne (tgt := 122) dX8_readsClause_110 (by decide) (fun hqz => absurd rfl hqz) (fun hz => ?_)
  clear hz
  refine s_aload_n dX8_readsClause_113 rfl ?_
  refine s_iconst (v := 0) dX8_readsClause_114 rfl ?_
  refine s_iconst (v := 2) dX8_readsClause_115 rfl ?_
  refine s_cv1 dX8_readsClause_116 g_X8_152 (c_rdN (q := p + 1) (m := 2) (by rfl) (by rfl) hn (by omega) (by decide) (by decide) h) (by rfl) rfl rfl rfl rfl (Nat.le_of_ble_eq_true rfl) (Nat.le_of_ble_eq_true rfl) rfl ?_
  show zG Z M_X8_readsClause _ _ _ _ _ _ (wX hd th hi tx sh tp ++ wM cm fo nu f1 f2 mb mk (nI n) (nI (p + 1 + dgL (zFs tt n) (p + 1) 2 0)) (nI c) ms me mq mu mh mp fc vc tt (upd sg c 109) td sw sm ew eo bc bi im so sz it mv)
  refine s_goto (tgt := 123) dX8_readsClause_119 (by decide) ?_
  refine s_iast dX8_readsClause_123 (by rfl) (zrd (n := 12) hc (by decide)) ?_
  rw [nI_clamp (by omega)]
  show zG Z M_X8_readsClause _ _ _ _ _ _ (wX hd th hi tx sh tp ++ wM cm fo nu f1 f2 mb mk (nI n) (nI (p + 1 + dgL (zFs tt n) (p + 1) 2 0)) (nI c) ms me mq mu mh mp fc vc tt (upd sg c 109) (upd td c (nI (nvL (zFs tt n) (p + 1) (dgL (zFs tt n) (p + 1) 2 0) 0 0))) sw sm ew eo bc bi im so sz it mv)
  refine s_aload_n dX8_readsClause_124 rfl ?_
  refine s_get dX8_readsClause_125 f_X8_44 (by rfl) (by rfl) ?_
  refine s_aload_n dX8_readsClause_128 rfl ?_
  refine s_get dX8_readsClause_129 f_X8_149 (by rfl) (by rfl) ?_
  refine s_iald dX8_readsClause_132 (by rfl) (zrd (n := 12) hc (by decide)) ?_
  rw [nI_clamp (by omega), show upd td c (nI (nvL (zFs tt n) (p + 1) (dgL (zFs tt n) (p + 1) 2 0) 0 0)) c = (nI (nvL (zFs tt n) (p + 1) (dgL (zFs tt n) (p + 1) 2 0) 0 0)) from if_pos rfl]
  refine s_if_ge (tgt := 138) dX8_readsClause_133 (by decide) (fun hz => ?_) (fun hqz => absurd (nI_pos' hb31) hqz)
  clear hz
  refine s_aload_n dX8_readsClause_138 rfl ?_
  refine s_dup dX8_readsClause_139 rfl ?_
  refine s_get dX8_readsClause_140 f_X8_149 (by rfl) (by rfl) ?_
  refine s_iconst (v := 1) dX8_readsClause_143 rfl ?_
  refine s_iadd dX8_readsClause_144 ?_
  rw [nI_1]
  refine s_put dX8_readsClause_145 f_X8_149 (by rfl) (fun _ => ⟨rfl, rfl⟩) (Nat.le_of_ble_eq_true rfl) ?_
  show zG Z M_X8_readsClause _ _ _ _ _ _ (wX hd th hi tx sh tp ++ wM cm fo nu f1 f2 mb mk (nI n) (nI (p + 1 + dgL (zFs tt n) (p + 1) 2 0)) (nI (c + 1)) ms me mq mu mh mp fc vc tt (upd sg c 109) (upd td c (nI (nvL (zFs tt n) (p + 1) (dgL (zFs tt n) (p + 1) 2 0) 0 0))) sw sm ew eo bc bi im so sz it mv)
  refine s_iconst (v := 1) dX8_readsClause_148 rfl ?_
  exact s_zret dX8_readsClause_149 rfl (by first | exact Or.inl rfl | exact Or.inr rfl) ⟨rfl, rfl⟩ (by first | exact wXMl | rfl | (simp only [List.length_set]; exact wXMl))
set_option maxHeartbeats 4000000 in
set_option maxRecDepth 100000 in
theorem c_rc1090 {Z : zS} {d : Nat} {hd th : zHd} {hi : Int32} {tx : zTx} {sh : zSh} {tp : zTs} {cm fo nu f1 f2 : Nat → Int32} {mb mk ms me mq mu mh mp : Int32} {fc vc tt sg td sw sm ew eo bc bi im so sz : Nat → Int32} {it mv : Nat → Int64} {n p c : Nat} (hn : n ≤ 100) (hp : p < 900) (hc : c < 12) (hx : zFs tt n p = 109) (h : ¬ (¬ zFs tt n (p + 1) < 48 ∧ ¬ 57 < zFs tt n (p + 1))) : zF Z M_X8_readsClause (d + 3) [.ref 41] (wX hd th hi tx sh tp ++ wM cm fo nu f1 f2 mb mk (nI n) (nI p) (nI c) ms me mq mu mh mp fc vc tt sg td sw sm ew eo bc bi im so sz it mv) [.int 0] (wX hd th hi tx sh tp ++ wM cm fo nu f1 f2 mb mk (nI n) (nI (p + 1)) (nI c) ms me mq mu mh mp fc vc tt (upd sg c 109) (upd td c (-1)) sw sm ew eo bc bi im so sz it mv) := by
  show zG Z M_X8_readsClause (d + 3) _ 63 0 [(0, .ref 41)] [] (wX hd th hi tx sh tp ++ wM cm fo nu f1 f2 mb mk (nI n) (nI p) (nI c) ms me mq mu mh mp fc vc tt sg td sw sm ew eo bc bi im so sz it mv)
  refine s_aload_n dX8_readsClause_0 rfl ?_
  refine s_cv1 dX8_readsClause_1 g_X8_141 (c_X8_next (by rfl) (by rfl) hn (by omega)) (by rfl) rfl rfl rfl rfl (Nat.le_of_ble_eq_true rfl) (Nat.le_of_ble_eq_true rfl) rfl ?_
  rw [hx]
  refine s_istore_n dX8_readsClause_4 (Nat.le_of_ble_eq_true rfl) rfl ?_
  refine s_iload_n dX8_readsClause_5 rfl ?_
  refine s_bipush (v := 43) dX8_readsClause_6 rfl ?_
  refine s_icmp_eq (tgt := 17) dX8_readsClause_8 (by decide) (fun hqz => absurd hqz (by decide)) (fun hz => ?_)
  clear hz
  refine s_iload_n dX8_readsClause_11 rfl ?_
  refine s_bipush (v := 45) dX8_readsClause_12 rfl ?_
  refine s_icmp_ne (tgt := 21) dX8_readsClause_14 (by decide) (fun hz => ?_) (fun hqz => absurd hqz (by decide))
  clear hz
  refine s_iconst (v := 0) dX8_readsClause_21 rfl ?_
  refine s_istore_n dX8_readsClause_22 (Nat.le_of_ble_eq_true rfl) rfl ?_
  refine s_iload_n dX8_readsClause_23 rfl ?_
  refine s_if_ne (tgt := 65) dX8_readsClause_24 (by decide) (fun hqz => absurd rfl hqz) (fun hz => ?_)
  clear hz
  refine s_iload_n dX8_readsClause_27 rfl ?_
  refine s_bipush (v := 109) dX8_readsClause_28 rfl ?_
  refine s_icmp_eq (tgt := 65) dX8_readsClause_30 (by decide) (fun hz => ?_) (fun hqz => absurd rfl hqz)
  clear hz
  refine s_aload_n dX8_readsClause_65 rfl ?_
  refine s_dup dX8_readsClause_66 rfl ?_
  refine s_get dX8_readsClause_67 f_X8_138 (by rfl) (by rfl) ?_
  refine s_iconst (v := 1) dX8_readsClause_70 rfl ?_
  refine s_iadd dX8_readsClause_71 ?_
  rw [nI_1]
  refine s_put dX8_readsClause_72 f_X8_138 (by rfl) (fun _ => ⟨rfl, rfl⟩) (Nat.le_of_ble_eq_true rfl) ?_
  show zG Z M_X8_readsClause _ _ _ _ _ _ (wX hd th hi tx sh tp ++ wM cm fo nu f1 f2 mb mk (nI n) (nI (p + 1)) (nI c) ms me mq mu mh mp fc vc tt sg td sw sm ew eo bc bi im so sz it mv)
  refine s_aload_n dX8_readsClause_75 rfl ?_
  refine s_get dX8_readsClause_76 f_X8_41 (by rfl) (by rfl) ?_
  refine s_aload_n dX8_readsClause_79 rfl ?_
  refine s_get dX8_readsClause_80 f_X8_149 (by rfl) (by rfl) ?_
  refine s_iload_n dX8_readsClause_83 rfl ?_
  refine s_iast dX8_readsClause_84 (by rfl) (zrd (n := 12) hc (by decide)) ?_
  rw [nI_clamp (by omega)]
  show zG Z M_X8_readsClause _ _ _ _ _ _ (wX hd th hi tx sh tp ++ wM cm fo nu f1 f2 mb mk (nI n) (nI (p + 1)) (nI c) ms me mq mu mh mp fc vc tt (upd sg c 109) td sw sm ew eo bc bi im so sz it mv)
  refine s_aload_n dX8_readsClause_85 rfl ?_
  refine s_get dX8_readsClause_86 f_X8_44 (by rfl) (by rfl) ?_
  refine s_aload_n dX8_readsClause_89 rfl ?_
  refine s_get dX8_readsClause_90 f_X8_149 (by rfl) (by rfl) ?_
  refine s_iload_n dX8_readsClause_93 rfl ?_
  refine s_if_eq (tgt := 107) dX8_readsClause_94 (by decide) (fun hz => ?_) (fun hqz => absurd rfl hqz)
  clear hz
  refine s_iload_n dX8_readsClause_107 rfl ?_
  refine s_bipush (v := 109) dX8_readsClause_108 rfl ?_
  refine s_icmp_ne (tgt := 122) dX8_readsClause_110 (by decide) (fun hqz => absurd rfl hqz) (fun hz => ?_)
  clear hz
  refine s_aload_n dX8_readsClause_113 rfl ?_
  refine s_iconst (v := 0) dX8_readsClause_114 rfl ?_
  refine s_iconst (v := 2) dX8_readsClause_115 rfl ?_
  refine s_cv1 dX8_readsClause_116 g_X8_152 (c_rdN0 (q := p + 1) (m := 2) (by rfl) (by rfl) hn (by omega) (by decide) (by decide) h) (by rfl) rfl rfl rfl rfl (Nat.le_of_ble_eq_true rfl) (Nat.le_of_ble_eq_true rfl) rfl ?_
  show zG Z M_X8_readsClause _ _ _ _ _ _ (wX hd th hi tx sh tp ++ wM cm fo nu f1 f2 mb mk (nI n) (nI (p + 1)) (nI c) ms me mq mu mh mp fc vc tt (upd sg c 109) td sw sm ew eo bc bi im so sz it mv)
  refine s_goto (tgt := 123) dX8_readsClause_119 (by decide) ?_
  refine s_iast dX8_readsClause_123 (by rfl) (zrd (n := 12) hc (by decide)) ?_
  rw [nI_clamp (by omega)]
  show zG Z M_X8_readsClause _ _ _ _ _ _ (wX hd th hi tx sh tp ++ wM cm fo nu f1 f2 mb mk (nI n) (nI (p + 1)) (nI c) ms me mq mu mh mp fc vc tt (upd sg c 109) (upd td c (-1)) sw sm ew eo bc bi im so sz it mv)
  refine s_aload_n dX8_readsClause_124 rfl ?_
  refine s_get dX8_readsClause_125 f_X8_44 (by rfl) (by rfl) ?_
  refine s_aload_n dX8_readsClause_128 rfl ?_
  refine s_get dX8_readsClause_129 f_X8_149 (by rfl) (by rfl) ?_
  refine s_iald dX8_readsClause_132 (by rfl) (zrd (n := 12) hc (by decide)) ?_
  rw [nI_clamp (by omega), show upd td c (-1) c = (-1) from if_pos rfl]
  refine s_if_ge (tgt := 138) dX8_readsClause_133 (by decide) (fun hqz => absurd hqz (by decide)) (fun hz => ?_)
  clear hz
  refine s_iconst (v := 0) dX8_readsClause_136 rfl ?_
  exact s_zret dX8_readsClause_137 rfl (by first | exact Or.inl rfl | exact Or.inr rfl) ⟨rfl, rfl⟩ (by first | exact wXMl | rfl | (simp only [List.length_set]; exact wXMl))
set_option maxHeartbeats 4000000 in
set_option maxRecDepth 100000 in
theorem c_rc102 {Z : zS} {d : Nat} {hd th : zHd} {hi : Int32} {tx : zTx} {sh : zSh} {tp : zTs} {cm fo nu f1 f2 : Nat → Int32} {mb mk ms me mq mu mh mp : Int32} {fc vc tt sg td sw sm ew eo bc bi im so sz : Nat → Int32} {it mv : Nat → Int64} {n p c : Nat} (hn : n ≤ 100) (hp : p < 900) (hc : c < 12) (hx : zFs tt n p = 102) : zF Z M_X8_readsClause (d + 3) [.ref 41] (wX hd th hi tx sh tp ++ wM cm fo nu f1 f2 mb mk (nI n) (nI p) (nI c) ms me mq mu mh mp fc vc tt sg td sw sm ew eo bc bi im so sz it mv) [.int 1] (wX hd th hi tx sh tp ++ wM cm fo nu f1 f2 mb mk (nI n) (nI (p + 1)) (nI (c + 1)) ms me mq mu mh mp fc vc tt (upd sg c 102) (upd td c 0) sw sm ew eo bc bi im so sz it mv) := by
  show zG Z M_X8_readsClause (d + 3) _ 63 0 [(0, .ref 41)] [] (wX hd th hi tx sh tp ++ wM cm fo nu f1 f2 mb mk (nI n) (nI p) (nI c) ms me mq mu mh mp fc vc tt sg td sw sm ew eo bc bi im so sz it mv)
  refine s_aload_n dX8_readsClause_0 rfl ?_
  refine s_cv1 dX8_readsClause_1 g_X8_141 (c_X8_next (by rfl) (by rfl) hn (by omega)) (by rfl) rfl rfl rfl rfl (Nat.le_of_ble_eq_true rfl) (Nat.le_of_ble_eq_true rfl) rfl ?_
  rw [hx]
  refine s_istore_n dX8_readsClause_4 (Nat.le_of_ble_eq_true rfl) rfl ?_
  refine s_iload_n dX8_readsClause_5 rfl ?_
  refine s_bipush (v := 43) dX8_readsClause_6 rfl ?_
  refine s_icmp_eq (tgt := 17) dX8_readsClause_8 (by decide) (fun hqz => absurd hqz (by decide)) (fun hz => ?_)
  clear hz
  refine s_iload_n dX8_readsClause_11 rfl ?_
  refine s_bipush (v := 45) dX8_readsClause_12 rfl ?_
  refine s_icmp_ne (tgt := 21) dX8_readsClause_14 (by decide) (fun hz => ?_) (fun hqz => absurd hqz (by decide))
  clear hz
  refine s_iconst (v := 0) dX8_readsClause_21 rfl ?_
  refine s_istore_n dX8_readsClause_22 (Nat.le_of_ble_eq_true rfl) rfl ?_
  refine s_iload_n dX8_readsClause_23 rfl ?_
  refine s_if_ne (tgt := 65) dX8_readsClause_24 (by decide) (fun hqz => absurd rfl hqz) (fun hz => ?_)
  clear hz
  refine s_iload_n dX8_readsClause_27 rfl ?_
  refine s_bipush (v := 109) dX8_readsClause_28 rfl ?_
  refine s_icmp_eq (tgt := 65) dX8_readsClause_30 (by decide) (fun hqz => absurd hqz (by decide)) (fun hz => ?_)
  clear hz
  refine s_iload_n dX8_readsClause_33 rfl ?_
  refine s_bipush (v := 102) dX8_readsClause_34 rfl ?_
  refine s_icmp_eq (tgt := 65) dX8_readsClause_36 (by decide) (fun hz => ?_) (fun hqz => absurd rfl hqz)
  clear hz
  refine s_aload_n dX8_readsClause_65 rfl ?_
  refine s_dup dX8_readsClause_66 rfl ?_
  refine s_get dX8_readsClause_67 f_X8_138 (by rfl) (by rfl) ?_
  refine s_iconst (v := 1) dX8_readsClause_70 rfl ?_
  refine s_iadd dX8_readsClause_71 ?_
  rw [nI_1]
  refine s_put dX8_readsClause_72 f_X8_138 (by rfl) (fun _ => ⟨rfl, rfl⟩) (Nat.le_of_ble_eq_true rfl) ?_
  show zG Z M_X8_readsClause _ _ _ _ _ _ (wX hd th hi tx sh tp ++ wM cm fo nu f1 f2 mb mk (nI n) (nI (p + 1)) (nI c) ms me mq mu mh mp fc vc tt sg td sw sm ew eo bc bi im so sz it mv)
  refine s_aload_n dX8_readsClause_75 rfl ?_
  refine s_get dX8_readsClause_76 f_X8_41 (by rfl) (by rfl) ?_
  refine s_aload_n dX8_readsClause_79 rfl ?_
  refine s_get dX8_readsClause_80 f_X8_149 (by rfl) (by rfl) ?_
  refine s_iload_n dX8_readsClause_83 rfl ?_
  refine s_iast dX8_readsClause_84 (by rfl) (zrd (n := 12) hc (by decide)) ?_
  rw [nI_clamp (by omega)]
  show zG Z M_X8_readsClause _ _ _ _ _ _ (wX hd th hi tx sh tp ++ wM cm fo nu f1 f2 mb mk (nI n) (nI (p + 1)) (nI c) ms me mq mu mh mp fc vc tt (upd sg c 102) td sw sm ew eo bc bi im so sz it mv)
  refine s_aload_n dX8_readsClause_85 rfl ?_
  refine s_get dX8_readsClause_86 f_X8_44 (by rfl) (by rfl) ?_
  refine s_aload_n dX8_readsClause_89 rfl ?_
  refine s_get dX8_readsClause_90 f_X8_149 (by rfl) (by rfl) ?_
  refine s_iload_n dX8_readsClause_93 rfl ?_
  refine s_if_eq (tgt := 107) dX8_readsClause_94 (by decide) (fun hz => ?_) (fun hqz => absurd rfl hqz)
  clear hz
  refine s_iload_n dX8_readsClause_107 rfl ?_
  refine s_bipush (v := 109) dX8_readsClause_108 rfl ?_
  refine s_icmp_ne (tgt := 122) dX8_readsClause_110 (by decide) (fun hz => ?_) (fun hqz => absurd hqz (by decide))
  clear hz
  refine s_iconst (v := 0) dX8_readsClause_122 rfl ?_
  refine s_iast dX8_readsClause_123 (by rfl) (zrd (n := 12) hc (by decide)) ?_
  rw [nI_clamp (by omega)]
  show zG Z M_X8_readsClause _ _ _ _ _ _ (wX hd th hi tx sh tp ++ wM cm fo nu f1 f2 mb mk (nI n) (nI (p + 1)) (nI c) ms me mq mu mh mp fc vc tt (upd sg c 102) (upd td c 0) sw sm ew eo bc bi im so sz it mv)
  refine s_aload_n dX8_readsClause_124 rfl ?_
  refine s_get dX8_readsClause_125 f_X8_44 (by rfl) (by rfl) ?_
  refine s_aload_n dX8_readsClause_128 rfl ?_
  refine s_get dX8_readsClause_129 f_X8_149 (by rfl) (by rfl) ?_
  refine s_iald dX8_readsClause_132 (by rfl) (zrd (n := 12) hc (by decide)) ?_
  rw [nI_clamp (by omega), show upd td c 0 c = 0 from if_pos rfl]
  refine s_if_ge (tgt := 138) dX8_readsClause_133 (by decide) (fun hz => ?_) (fun hqz => absurd (by decide) hqz)
  clear hz
  refine s_aload_n dX8_readsClause_138 rfl ?_
  refine s_dup dX8_readsClause_139 rfl ?_
  refine s_get dX8_readsClause_140 f_X8_149 (by rfl) (by rfl) ?_
  refine s_iconst (v := 1) dX8_readsClause_143 rfl ?_
  refine s_iadd dX8_readsClause_144 ?_
  rw [nI_1]
  refine s_put dX8_readsClause_145 f_X8_149 (by rfl) (fun _ => ⟨rfl, rfl⟩) (Nat.le_of_ble_eq_true rfl) ?_
  show zG Z M_X8_readsClause _ _ _ _ _ _ (wX hd th hi tx sh tp ++ wM cm fo nu f1 f2 mb mk (nI n) (nI (p + 1)) (nI (c + 1)) ms me mq mu mh mp fc vc tt (upd sg c 102) (upd td c 0) sw sm ew eo bc bi im so sz it mv)
  refine s_iconst (v := 1) dX8_readsClause_148 rfl ?_
  exact s_zret dX8_readsClause_149 rfl (by first | exact Or.inl rfl | exact Or.inr rfl) ⟨rfl, rfl⟩ (by first | exact wXMl | rfl | (simp only [List.length_set]; exact wXMl))
set_option maxHeartbeats 4000000 in
set_option maxRecDepth 100000 in
theorem c_rc111 {Z : zS} {d : Nat} {hd th : zHd} {hi : Int32} {tx : zTx} {sh : zSh} {tp : zTs} {cm fo nu f1 f2 : Nat → Int32} {mb mk ms me mq mu mh mp : Int32} {fc vc tt sg td sw sm ew eo bc bi im so sz : Nat → Int32} {it mv : Nat → Int64} {n p c : Nat} (hn : n ≤ 100) (hp : p < 900) (hc : c < 12) (hx : zFs tt n p = 111) : zF Z M_X8_readsClause (d + 3) [.ref 41] (wX hd th hi tx sh tp ++ wM cm fo nu f1 f2 mb mk (nI n) (nI p) (nI c) ms me mq mu mh mp fc vc tt sg td sw sm ew eo bc bi im so sz it mv) [.int 1] (wX hd th hi tx sh tp ++ wM cm fo nu f1 f2 mb mk (nI n) (nI (p + 1)) (nI (c + 1)) ms me mq mu mh mp fc vc tt (upd sg c 111) (upd td c 0) sw sm ew eo bc bi im so sz it mv) := by
  show zG Z M_X8_readsClause (d + 3) _ 63 0 [(0, .ref 41)] [] (wX hd th hi tx sh tp ++ wM cm fo nu f1 f2 mb mk (nI n) (nI p) (nI c) ms me mq mu mh mp fc vc tt sg td sw sm ew eo bc bi im so sz it mv)
  refine s_aload_n dX8_readsClause_0 rfl ?_
  refine s_cv1 dX8_readsClause_1 g_X8_141 (c_X8_next (by rfl) (by rfl) hn (by omega)) (by rfl) rfl rfl rfl rfl (Nat.le_of_ble_eq_true rfl) (Nat.le_of_ble_eq_true rfl) rfl ?_
  rw [hx]
  refine s_istore_n dX8_readsClause_4 (Nat.le_of_ble_eq_true rfl) rfl ?_
  refine s_iload_n dX8_readsClause_5 rfl ?_
  refine s_bipush (v := 43) dX8_readsClause_6 rfl ?_
  refine s_icmp_eq (tgt := 17) dX8_readsClause_8 (by decide) (fun hqz => absurd hqz (by decide)) (fun hz => ?_)
  clear hz
  refine s_iload_n dX8_readsClause_11 rfl ?_
  refine s_bipush (v := 45) dX8_readsClause_12 rfl ?_
  refine s_icmp_ne (tgt := 21) dX8_readsClause_14 (by decide) (fun hz => ?_) (fun hqz => absurd hqz (by decide))
  clear hz
  refine s_iconst (v := 0) dX8_readsClause_21 rfl ?_
  refine s_istore_n dX8_readsClause_22 (Nat.le_of_ble_eq_true rfl) rfl ?_
  refine s_iload_n dX8_readsClause_23 rfl ?_
  refine s_if_ne (tgt := 65) dX8_readsClause_24 (by decide) (fun hqz => absurd rfl hqz) (fun hz => ?_)
  clear hz
  refine s_iload_n dX8_readsClause_27 rfl ?_
  refine s_bipush (v := 109) dX8_readsClause_28 rfl ?_
  refine s_icmp_eq (tgt := 65) dX8_readsClause_30 (by decide) (fun hqz => absurd hqz (by decide)) (fun hz => ?_)
  clear hz
  refine s_iload_n dX8_readsClause_33 rfl ?_
  refine s_bipush (v := 102) dX8_readsClause_34 rfl ?_
  refine s_icmp_eq (tgt := 65) dX8_readsClause_36 (by decide) (fun hqz => absurd hqz (by decide)) (fun hz => ?_)
  clear hz
  refine s_iload_n dX8_readsClause_39 rfl ?_
  refine s_bipush (v := 111) dX8_readsClause_40 rfl ?_
  refine s_icmp_eq (tgt := 65) dX8_readsClause_42 (by decide) (fun hz => ?_) (fun hqz => absurd rfl hqz)
  clear hz
  refine s_aload_n dX8_readsClause_65 rfl ?_
  refine s_dup dX8_readsClause_66 rfl ?_
  refine s_get dX8_readsClause_67 f_X8_138 (by rfl) (by rfl) ?_
  refine s_iconst (v := 1) dX8_readsClause_70 rfl ?_
  refine s_iadd dX8_readsClause_71 ?_
  rw [nI_1]
  refine s_put dX8_readsClause_72 f_X8_138 (by rfl) (fun _ => ⟨rfl, rfl⟩) (Nat.le_of_ble_eq_true rfl) ?_
  show zG Z M_X8_readsClause _ _ _ _ _ _ (wX hd th hi tx sh tp ++ wM cm fo nu f1 f2 mb mk (nI n) (nI (p + 1)) (nI c) ms me mq mu mh mp fc vc tt sg td sw sm ew eo bc bi im so sz it mv)
  refine s_aload_n dX8_readsClause_75 rfl ?_
  refine s_get dX8_readsClause_76 f_X8_41 (by rfl) (by rfl) ?_
  refine s_aload_n dX8_readsClause_79 rfl ?_
  refine s_get dX8_readsClause_80 f_X8_149 (by rfl) (by rfl) ?_
  refine s_iload_n dX8_readsClause_83 rfl ?_
  refine s_iast dX8_readsClause_84 (by rfl) (zrd (n := 12) hc (by decide)) ?_
  rw [nI_clamp (by omega)]
  show zG Z M_X8_readsClause _ _ _ _ _ _ (wX hd th hi tx sh tp ++ wM cm fo nu f1 f2 mb mk (nI n) (nI (p + 1)) (nI c) ms me mq mu mh mp fc vc tt (upd sg c 111) td sw sm ew eo bc bi im so sz it mv)
  refine s_aload_n dX8_readsClause_85 rfl ?_
  refine s_get dX8_readsClause_86 f_X8_44 (by rfl) (by rfl) ?_
  refine s_aload_n dX8_readsClause_89 rfl ?_
  refine s_get dX8_readsClause_90 f_X8_149 (by rfl) (by rfl) ?_
  refine s_iload_n dX8_readsClause_93 rfl ?_
  refine s_if_eq (tgt := 107) dX8_readsClause_94 (by decide) (fun hz => ?_) (fun hqz => absurd rfl hqz)
  clear hz
  refine s_iload_n dX8_readsClause_107 rfl ?_
  refine s_bipush (v := 109) dX8_readsClause_108 rfl ?_
  refine s_icmp_ne (tgt := 122) dX8_readsClause_110 (by decide) (fun hz => ?_) (fun hqz => absurd hqz (by decide))
  clear hz
  refine s_iconst (v := 0) dX8_readsClause_122 rfl ?_
  refine s_iast dX8_readsClause_123 (by rfl) (zrd (n := 12) hc (by decide)) ?_
  rw [nI_clamp (by omega)]
  show zG Z M_X8_readsClause _ _ _ _ _ _ (wX hd th hi tx sh tp ++ wM cm fo nu f1 f2 mb mk (nI n) (nI (p + 1)) (nI c) ms me mq mu mh mp fc vc tt (upd sg c 111) (upd td c 0) sw sm ew eo bc bi im so sz it mv)
  refine s_aload_n dX8_readsClause_124 rfl ?_
  refine s_get dX8_readsClause_125 f_X8_44 (by rfl) (by rfl) ?_
  refine s_aload_n dX8_readsClause_128 rfl ?_
  refine s_get dX8_readsClause_129 f_X8_149 (by rfl) (by rfl) ?_
  refine s_iald dX8_readsClause_132 (by rfl) (zrd (n := 12) hc (by decide)) ?_
  rw [nI_clamp (by omega), show upd td c 0 c = 0 from if_pos rfl]
  refine s_if_ge (tgt := 138) dX8_readsClause_133 (by decide) (fun hz => ?_) (fun hqz => absurd (by decide) hqz)
  clear hz
  refine s_aload_n dX8_readsClause_138 rfl ?_
  refine s_dup dX8_readsClause_139 rfl ?_
  refine s_get dX8_readsClause_140 f_X8_149 (by rfl) (by rfl) ?_
  refine s_iconst (v := 1) dX8_readsClause_143 rfl ?_
  refine s_iadd dX8_readsClause_144 ?_
  rw [nI_1]
  refine s_put dX8_readsClause_145 f_X8_149 (by rfl) (fun _ => ⟨rfl, rfl⟩) (Nat.le_of_ble_eq_true rfl) ?_
  show zG Z M_X8_readsClause _ _ _ _ _ _ (wX hd th hi tx sh tp ++ wM cm fo nu f1 f2 mb mk (nI n) (nI (p + 1)) (nI (c + 1)) ms me mq mu mh mp fc vc tt (upd sg c 111) (upd td c 0) sw sm ew eo bc bi im so sz it mv)
  refine s_iconst (v := 1) dX8_readsClause_148 rfl ?_
  exact s_zret dX8_readsClause_149 rfl (by first | exact Or.inl rfl | exact Or.inr rfl) ⟨rfl, rfl⟩ (by first | exact wXMl | rfl | (simp only [List.length_set]; exact wXMl))
set_option maxHeartbeats 4000000 in
set_option maxRecDepth 100000 in
theorem c_rc107 {Z : zS} {d : Nat} {hd th : zHd} {hi : Int32} {tx : zTx} {sh : zSh} {tp : zTs} {cm fo nu f1 f2 : Nat → Int32} {mb mk ms me mq mu mh mp : Int32} {fc vc tt sg td sw sm ew eo bc bi im so sz : Nat → Int32} {it mv : Nat → Int64} {n p c : Nat} (hn : n ≤ 100) (hp : p < 900) (hc : c < 12) (hx : zFs tt n p = 107) : zF Z M_X8_readsClause (d + 3) [.ref 41] (wX hd th hi tx sh tp ++ wM cm fo nu f1 f2 mb mk (nI n) (nI p) (nI c) ms me mq mu mh mp fc vc tt sg td sw sm ew eo bc bi im so sz it mv) [.int 1] (wX hd th hi tx sh tp ++ wM cm fo nu f1 f2 mb mk (nI n) (nI (p + 1)) (nI (c + 1)) ms me mq mu mh mp fc vc tt (upd sg c 107) (upd td c 0) sw sm ew eo bc bi im so sz it mv) := by
  show zG Z M_X8_readsClause (d + 3) _ 63 0 [(0, .ref 41)] [] (wX hd th hi tx sh tp ++ wM cm fo nu f1 f2 mb mk (nI n) (nI p) (nI c) ms me mq mu mh mp fc vc tt sg td sw sm ew eo bc bi im so sz it mv)
  refine s_aload_n dX8_readsClause_0 rfl ?_
  refine s_cv1 dX8_readsClause_1 g_X8_141 (c_X8_next (by rfl) (by rfl) hn (by omega)) (by rfl) rfl rfl rfl rfl (Nat.le_of_ble_eq_true rfl) (Nat.le_of_ble_eq_true rfl) rfl ?_
  rw [hx]
  refine s_istore_n dX8_readsClause_4 (Nat.le_of_ble_eq_true rfl) rfl ?_
  refine s_iload_n dX8_readsClause_5 rfl ?_
  refine s_bipush (v := 43) dX8_readsClause_6 rfl ?_
  refine s_icmp_eq (tgt := 17) dX8_readsClause_8 (by decide) (fun hqz => absurd hqz (by decide)) (fun hz => ?_)
  clear hz
  refine s_iload_n dX8_readsClause_11 rfl ?_
  refine s_bipush (v := 45) dX8_readsClause_12 rfl ?_
  refine s_icmp_ne (tgt := 21) dX8_readsClause_14 (by decide) (fun hz => ?_) (fun hqz => absurd hqz (by decide))
  clear hz
  refine s_iconst (v := 0) dX8_readsClause_21 rfl ?_
  refine s_istore_n dX8_readsClause_22 (Nat.le_of_ble_eq_true rfl) rfl ?_
  refine s_iload_n dX8_readsClause_23 rfl ?_
  refine s_if_ne (tgt := 65) dX8_readsClause_24 (by decide) (fun hqz => absurd rfl hqz) (fun hz => ?_)
  clear hz
  refine s_iload_n dX8_readsClause_27 rfl ?_
  refine s_bipush (v := 109) dX8_readsClause_28 rfl ?_
  refine s_icmp_eq (tgt := 65) dX8_readsClause_30 (by decide) (fun hqz => absurd hqz (by decide)) (fun hz => ?_)
  clear hz
  refine s_iload_n dX8_readsClause_33 rfl ?_
  refine s_bipush (v := 102) dX8_readsClause_34 rfl ?_
  refine s_icmp_eq (tgt := 65) dX8_readsClause_36 (by decide) (fun hqz => absurd hqz (by decide)) (fun hz => ?_)
  clear hz
  refine s_iload_n dX8_readsClause_39 rfl ?_
  refine s_bipush (v := 111) dX8_readsClause_40 rfl ?_
  refine s_icmp_eq (tgt := 65) dX8_readsClause_42 (by decide) (fun hqz => absurd hqz (by decide)) (fun hz => ?_)
  clear hz
  refine s_iload_n dX8_readsClause_45 rfl ?_
  refine s_bipush (v := 107) dX8_readsClause_46 rfl ?_
  refine s_icmp_eq (tgt := 65) dX8_readsClause_48 (by decide) (fun hz => ?_) (fun hqz => absurd rfl hqz)
  clear hz
  refine s_aload_n dX8_readsClause_65 rfl ?_
  refine s_dup dX8_readsClause_66 rfl ?_
  refine s_get dX8_readsClause_67 f_X8_138 (by rfl) (by rfl) ?_
  refine s_iconst (v := 1) dX8_readsClause_70 rfl ?_
  refine s_iadd dX8_readsClause_71 ?_
  rw [nI_1]
  refine s_put dX8_readsClause_72 f_X8_138 (by rfl) (fun _ => ⟨rfl, rfl⟩) (Nat.le_of_ble_eq_true rfl) ?_
  show zG Z M_X8_readsClause _ _ _ _ _ _ (wX hd th hi tx sh tp ++ wM cm fo nu f1 f2 mb mk (nI n) (nI (p + 1)) (nI c) ms me mq mu mh mp fc vc tt sg td sw sm ew eo bc bi im so sz it mv)
  refine s_aload_n dX8_readsClause_75 rfl ?_
  refine s_get dX8_readsClause_76 f_X8_41 (by rfl) (by rfl) ?_
  refine s_aload_n dX8_readsClause_79 rfl ?_
  refine s_get dX8_readsClause_80 f_X8_149 (by rfl) (by rfl) ?_
  refine s_iload_n dX8_readsClause_83 rfl ?_
  refine s_iast dX8_readsClause_84 (by rfl) (zrd (n := 12) hc (by decide)) ?_
  rw [nI_clamp (by omega)]
  show zG Z M_X8_readsClause _ _ _ _ _ _ (wX hd th hi tx sh tp ++ wM cm fo nu f1 f2 mb mk (nI n) (nI (p + 1)) (nI c) ms me mq mu mh mp fc vc tt (upd sg c 107) td sw sm ew eo bc bi im so sz it mv)
  refine s_aload_n dX8_readsClause_85 rfl ?_
  refine s_get dX8_readsClause_86 f_X8_44 (by rfl) (by rfl) ?_
  refine s_aload_n dX8_readsClause_89 rfl ?_
  refine s_get dX8_readsClause_90 f_X8_149 (by rfl) (by rfl) ?_
  refine s_iload_n dX8_readsClause_93 rfl ?_
  refine s_if_eq (tgt := 107) dX8_readsClause_94 (by decide) (fun hz => ?_) (fun hqz => absurd rfl hqz)
  clear hz
  refine s_iload_n dX8_readsClause_107 rfl ?_
  refine s_bipush (v := 109) dX8_readsClause_108 rfl ?_
  refine s_icmp_ne (tgt := 122) dX8_readsClause_110 (by decide) (fun hz => ?_) (fun hqz => absurd hqz (by decide))
  clear hz
  refine s_iconst (v := 0) dX8_readsClause_122 rfl ?_
  refine s_iast dX8_readsClause_123 (by rfl) (zrd (n := 12) hc (by decide)) ?_
  rw [nI_clamp (by omega)]
  show zG Z M_X8_readsClause _ _ _ _ _ _ (wX hd th hi tx sh tp ++ wM cm fo nu f1 f2 mb mk (nI n) (nI (p + 1)) (nI c) ms me mq mu mh mp fc vc tt (upd sg c 107) (upd td c 0) sw sm ew eo bc bi im so sz it mv)
  refine s_aload_n dX8_readsClause_124 rfl ?_
  refine s_get dX8_readsClause_125 f_X8_44 (by rfl) (by rfl) ?_
  refine s_aload_n dX8_readsClause_128 rfl ?_
  refine s_get dX8_readsClause_129 f_X8_149 (by rfl) (by rfl) ?_
  refine s_iald dX8_readsClause_132 (by rfl) (zrd (n := 12) hc (by decide)) ?_
  rw [nI_clamp (by omega), show upd td c 0 c = 0 from if_pos rfl]
  refine s_if_ge (tgt := 138) dX8_readsClause_133 (by decide) (fun hz => ?_) (fun hqz => absurd (by decide) hqz)
  clear hz
  refine s_aload_n dX8_readsClause_138 rfl ?_
  refine s_dup dX8_readsClause_139 rfl ?_
  refine s_get dX8_readsClause_140 f_X8_149 (by rfl) (by rfl) ?_
  refine s_iconst (v := 1) dX8_readsClause_143 rfl ?_
  refine s_iadd dX8_readsClause_144 ?_
  rw [nI_1]
  refine s_put dX8_readsClause_145 f_X8_149 (by rfl) (fun _ => ⟨rfl, rfl⟩) (Nat.le_of_ble_eq_true rfl) ?_
  show zG Z M_X8_readsClause _ _ _ _ _ _ (wX hd th hi tx sh tp ++ wM cm fo nu f1 f2 mb mk (nI n) (nI (p + 1)) (nI (c + 1)) ms me mq mu mh mp fc vc tt (upd sg c 107) (upd td c 0) sw sm ew eo bc bi im so sz it mv)
  refine s_iconst (v := 1) dX8_readsClause_148 rfl ?_
  exact s_zret dX8_readsClause_149 rfl (by first | exact Or.inl rfl | exact Or.inr rfl) ⟨rfl, rfl⟩ (by first | exact wXMl | rfl | (simp only [List.length_set]; exact wXMl))
set_option maxHeartbeats 4000000 in
set_option maxRecDepth 100000 in
theorem c_rc117 {Z : zS} {d : Nat} {hd th : zHd} {hi : Int32} {tx : zTx} {sh : zSh} {tp : zTs} {cm fo nu f1 f2 : Nat → Int32} {mb mk ms me mq mu mh mp : Int32} {fc vc tt sg td sw sm ew eo bc bi im so sz : Nat → Int32} {it mv : Nat → Int64} {n p c : Nat} (hn : n ≤ 100) (hp : p < 900) (hc : c < 12) (hx : zFs tt n p = 117) : zF Z M_X8_readsClause (d + 3) [.ref 41] (wX hd th hi tx sh tp ++ wM cm fo nu f1 f2 mb mk (nI n) (nI p) (nI c) ms me mq mu mh mp fc vc tt sg td sw sm ew eo bc bi im so sz it mv) [.int 1] (wX hd th hi tx sh tp ++ wM cm fo nu f1 f2 mb mk (nI n) (nI (p + 1)) (nI (c + 1)) ms me mq mu mh mp fc vc tt (upd sg c 117) (upd td c 0) sw sm ew eo bc bi im so sz it mv) := by
  show zG Z M_X8_readsClause (d + 3) _ 63 0 [(0, .ref 41)] [] (wX hd th hi tx sh tp ++ wM cm fo nu f1 f2 mb mk (nI n) (nI p) (nI c) ms me mq mu mh mp fc vc tt sg td sw sm ew eo bc bi im so sz it mv)
  refine s_aload_n dX8_readsClause_0 rfl ?_
  refine s_cv1 dX8_readsClause_1 g_X8_141 (c_X8_next (by rfl) (by rfl) hn (by omega)) (by rfl) rfl rfl rfl rfl (Nat.le_of_ble_eq_true rfl) (Nat.le_of_ble_eq_true rfl) rfl ?_
  rw [hx]
  refine s_istore_n dX8_readsClause_4 (Nat.le_of_ble_eq_true rfl) rfl ?_
  refine s_iload_n dX8_readsClause_5 rfl ?_
  refine s_bipush (v := 43) dX8_readsClause_6 rfl ?_
  refine s_icmp_eq (tgt := 17) dX8_readsClause_8 (by decide) (fun hqz => absurd hqz (by decide)) (fun hz => ?_)
  clear hz
  refine s_iload_n dX8_readsClause_11 rfl ?_
  refine s_bipush (v := 45) dX8_readsClause_12 rfl ?_
  refine s_icmp_ne (tgt := 21) dX8_readsClause_14 (by decide) (fun hz => ?_) (fun hqz => absurd hqz (by decide))
  clear hz
  refine s_iconst (v := 0) dX8_readsClause_21 rfl ?_
  refine s_istore_n dX8_readsClause_22 (Nat.le_of_ble_eq_true rfl) rfl ?_
  refine s_iload_n dX8_readsClause_23 rfl ?_
  refine s_if_ne (tgt := 65) dX8_readsClause_24 (by decide) (fun hqz => absurd rfl hqz) (fun hz => ?_)
  clear hz
  refine s_iload_n dX8_readsClause_27 rfl ?_
  refine s_bipush (v := 109) dX8_readsClause_28 rfl ?_
  refine s_icmp_eq (tgt := 65) dX8_readsClause_30 (by decide) (fun hqz => absurd hqz (by decide)) (fun hz => ?_)
  clear hz
  refine s_iload_n dX8_readsClause_33 rfl ?_
  refine s_bipush (v := 102) dX8_readsClause_34 rfl ?_
  refine s_icmp_eq (tgt := 65) dX8_readsClause_36 (by decide) (fun hqz => absurd hqz (by decide)) (fun hz => ?_)
  clear hz
  refine s_iload_n dX8_readsClause_39 rfl ?_
  refine s_bipush (v := 111) dX8_readsClause_40 rfl ?_
  refine s_icmp_eq (tgt := 65) dX8_readsClause_42 (by decide) (fun hqz => absurd hqz (by decide)) (fun hz => ?_)
  clear hz
  refine s_iload_n dX8_readsClause_45 rfl ?_
  refine s_bipush (v := 107) dX8_readsClause_46 rfl ?_
  refine s_icmp_eq (tgt := 65) dX8_readsClause_48 (by decide) (fun hqz => absurd hqz (by decide)) (fun hz => ?_)
  clear hz
  refine s_iload_n dX8_readsClause_51 rfl ?_
  refine s_bipush (v := 117) dX8_readsClause_52 rfl ?_
  refine s_icmp_eq (tgt := 65) dX8_readsClause_54 (by decide) (fun hz => ?_) (fun hqz => absurd rfl hqz)
  clear hz
  refine s_aload_n dX8_readsClause_65 rfl ?_
  refine s_dup dX8_readsClause_66 rfl ?_
  refine s_get dX8_readsClause_67 f_X8_138 (by rfl) (by rfl) ?_
  refine s_iconst (v := 1) dX8_readsClause_70 rfl ?_
  refine s_iadd dX8_readsClause_71 ?_
  rw [nI_1]
  refine s_put dX8_readsClause_72 f_X8_138 (by rfl) (fun _ => ⟨rfl, rfl⟩) (Nat.le_of_ble_eq_true rfl) ?_
  show zG Z M_X8_readsClause _ _ _ _ _ _ (wX hd th hi tx sh tp ++ wM cm fo nu f1 f2 mb mk (nI n) (nI (p + 1)) (nI c) ms me mq mu mh mp fc vc tt sg td sw sm ew eo bc bi im so sz it mv)
  refine s_aload_n dX8_readsClause_75 rfl ?_
  refine s_get dX8_readsClause_76 f_X8_41 (by rfl) (by rfl) ?_
  refine s_aload_n dX8_readsClause_79 rfl ?_
  refine s_get dX8_readsClause_80 f_X8_149 (by rfl) (by rfl) ?_
  refine s_iload_n dX8_readsClause_83 rfl ?_
  refine s_iast dX8_readsClause_84 (by rfl) (zrd (n := 12) hc (by decide)) ?_
  rw [nI_clamp (by omega)]
  show zG Z M_X8_readsClause _ _ _ _ _ _ (wX hd th hi tx sh tp ++ wM cm fo nu f1 f2 mb mk (nI n) (nI (p + 1)) (nI c) ms me mq mu mh mp fc vc tt (upd sg c 117) td sw sm ew eo bc bi im so sz it mv)
  refine s_aload_n dX8_readsClause_85 rfl ?_
  refine s_get dX8_readsClause_86 f_X8_44 (by rfl) (by rfl) ?_
  refine s_aload_n dX8_readsClause_89 rfl ?_
  refine s_get dX8_readsClause_90 f_X8_149 (by rfl) (by rfl) ?_
  refine s_iload_n dX8_readsClause_93 rfl ?_
  refine s_if_eq (tgt := 107) dX8_readsClause_94 (by decide) (fun hz => ?_) (fun hqz => absurd rfl hqz)
  clear hz
  refine s_iload_n dX8_readsClause_107 rfl ?_
  refine s_bipush (v := 109) dX8_readsClause_108 rfl ?_
  refine s_icmp_ne (tgt := 122) dX8_readsClause_110 (by decide) (fun hz => ?_) (fun hqz => absurd hqz (by decide))
  clear hz
  refine s_iconst (v := 0) dX8_readsClause_122 rfl ?_
  refine s_iast dX8_readsClause_123 (by rfl) (zrd (n := 12) hc (by decide)) ?_
  rw [nI_clamp (by omega)]
  show zG Z M_X8_readsClause _ _ _ _ _ _ (wX hd th hi tx sh tp ++ wM cm fo nu f1 f2 mb mk (nI n) (nI (p + 1)) (nI c) ms me mq mu mh mp fc vc tt (upd sg c 117) (upd td c 0) sw sm ew eo bc bi im so sz it mv)
  refine s_aload_n dX8_readsClause_124 rfl ?_
  refine s_get dX8_readsClause_125 f_X8_44 (by rfl) (by rfl) ?_
  refine s_aload_n dX8_readsClause_128 rfl ?_
  refine s_get dX8_readsClause_129 f_X8_149 (by rfl) (by rfl) ?_
  refine s_iald dX8_readsClause_132 (by rfl) (zrd (n := 12) hc (by decide)) ?_
  rw [nI_clamp (by omega), show upd td c 0 c = 0 from if_pos rfl]
  refine s_if_ge (tgt := 138) dX8_readsClause_133 (by decide) (fun hz => ?_) (fun hqz => absurd (by decide) hqz)
  clear hz
  refine s_aload_n dX8_readsClause_138 rfl ?_
  refine s_dup dX8_readsClause_139 rfl ?_
  refine s_get dX8_readsClause_140 f_X8_149 (by rfl) (by rfl) ?_
  refine s_iconst (v := 1) dX8_readsClause_143 rfl ?_
  refine s_iadd dX8_readsClause_144 ?_
  rw [nI_1]
  refine s_put dX8_readsClause_145 f_X8_149 (by rfl) (fun _ => ⟨rfl, rfl⟩) (Nat.le_of_ble_eq_true rfl) ?_
  show zG Z M_X8_readsClause _ _ _ _ _ _ (wX hd th hi tx sh tp ++ wM cm fo nu f1 f2 mb mk (nI n) (nI (p + 1)) (nI (c + 1)) ms me mq mu mh mp fc vc tt (upd sg c 117) (upd td c 0) sw sm ew eo bc bi im so sz it mv)
  refine s_iconst (v := 1) dX8_readsClause_148 rfl ?_
  exact s_zret dX8_readsClause_149 rfl (by first | exact Or.inl rfl | exact Or.inr rfl) ⟨rfl, rfl⟩ (by first | exact wXMl | rfl | (simp only [List.length_set]; exact wXMl))
set_option maxHeartbeats 4000000 in
set_option maxRecDepth 100000 in
theorem c_rc105 {Z : zS} {d : Nat} {hd th : zHd} {hi : Int32} {tx : zTx} {sh : zSh} {tp : zTs} {cm fo nu f1 f2 : Nat → Int32} {mb mk ms me mq mu mh mp : Int32} {fc vc tt sg td sw sm ew eo bc bi im so sz : Nat → Int32} {it mv : Nat → Int64} {n p c : Nat} (hn : n ≤ 100) (hp : p < 900) (hc : c < 12) (hx : zFs tt n p = 105) : zF Z M_X8_readsClause (d + 3) [.ref 41] (wX hd th hi tx sh tp ++ wM cm fo nu f1 f2 mb mk (nI n) (nI p) (nI c) ms me mq mu mh mp fc vc tt sg td sw sm ew eo bc bi im so sz it mv) [.int 1] (wX hd th hi tx sh tp ++ wM cm fo nu f1 f2 mb mk (nI n) (nI (p + 1)) (nI (c + 1)) ms me mq mu mh mp fc vc tt (upd sg c 105) (upd td c 0) sw sm ew eo bc bi im so sz it mv) := by
  show zG Z M_X8_readsClause (d + 3) _ 63 0 [(0, .ref 41)] [] (wX hd th hi tx sh tp ++ wM cm fo nu f1 f2 mb mk (nI n) (nI p) (nI c) ms me mq mu mh mp fc vc tt sg td sw sm ew eo bc bi im so sz it mv)
  refine s_aload_n dX8_readsClause_0 rfl ?_
  refine s_cv1 dX8_readsClause_1 g_X8_141 (c_X8_next (by rfl) (by rfl) hn (by omega)) (by rfl) rfl rfl rfl rfl (Nat.le_of_ble_eq_true rfl) (Nat.le_of_ble_eq_true rfl) rfl ?_
  rw [hx]
  refine s_istore_n dX8_readsClause_4 (Nat.le_of_ble_eq_true rfl) rfl ?_
  refine s_iload_n dX8_readsClause_5 rfl ?_
  refine s_bipush (v := 43) dX8_readsClause_6 rfl ?_
  refine s_icmp_eq (tgt := 17) dX8_readsClause_8 (by decide) (fun hqz => absurd hqz (by decide)) (fun hz => ?_)
  clear hz
  refine s_iload_n dX8_readsClause_11 rfl ?_
  refine s_bipush (v := 45) dX8_readsClause_12 rfl ?_
  refine s_icmp_ne (tgt := 21) dX8_readsClause_14 (by decide) (fun hz => ?_) (fun hqz => absurd hqz (by decide))
  clear hz
  refine s_iconst (v := 0) dX8_readsClause_21 rfl ?_
  refine s_istore_n dX8_readsClause_22 (Nat.le_of_ble_eq_true rfl) rfl ?_
  refine s_iload_n dX8_readsClause_23 rfl ?_
  refine s_if_ne (tgt := 65) dX8_readsClause_24 (by decide) (fun hqz => absurd rfl hqz) (fun hz => ?_)
  clear hz
  refine s_iload_n dX8_readsClause_27 rfl ?_
  refine s_bipush (v := 109) dX8_readsClause_28 rfl ?_
  refine s_icmp_eq (tgt := 65) dX8_readsClause_30 (by decide) (fun hqz => absurd hqz (by decide)) (fun hz => ?_)
  clear hz
  refine s_iload_n dX8_readsClause_33 rfl ?_
  refine s_bipush (v := 102) dX8_readsClause_34 rfl ?_
  refine s_icmp_eq (tgt := 65) dX8_readsClause_36 (by decide) (fun hqz => absurd hqz (by decide)) (fun hz => ?_)
  clear hz
  refine s_iload_n dX8_readsClause_39 rfl ?_
  refine s_bipush (v := 111) dX8_readsClause_40 rfl ?_
  refine s_icmp_eq (tgt := 65) dX8_readsClause_42 (by decide) (fun hqz => absurd hqz (by decide)) (fun hz => ?_)
  clear hz
  refine s_iload_n dX8_readsClause_45 rfl ?_
  refine s_bipush (v := 107) dX8_readsClause_46 rfl ?_
  refine s_icmp_eq (tgt := 65) dX8_readsClause_48 (by decide) (fun hqz => absurd hqz (by decide)) (fun hz => ?_)
  clear hz
  refine s_iload_n dX8_readsClause_51 rfl ?_
  refine s_bipush (v := 117) dX8_readsClause_52 rfl ?_
  refine s_icmp_eq (tgt := 65) dX8_readsClause_54 (by decide) (fun hqz => absurd hqz (by decide)) (fun hz => ?_)
  clear hz
  refine s_iload_n dX8_readsClause_57 rfl ?_
  refine s_bipush (v := 105) dX8_readsClause_58 rfl ?_
  refine s_icmp_eq (tgt := 65) dX8_readsClause_60 (by decide) (fun hz => ?_) (fun hqz => absurd rfl hqz)
  clear hz
  refine s_aload_n dX8_readsClause_65 rfl ?_
  refine s_dup dX8_readsClause_66 rfl ?_
  refine s_get dX8_readsClause_67 f_X8_138 (by rfl) (by rfl) ?_
  refine s_iconst (v := 1) dX8_readsClause_70 rfl ?_
  refine s_iadd dX8_readsClause_71 ?_
  rw [nI_1]
  refine s_put dX8_readsClause_72 f_X8_138 (by rfl) (fun _ => ⟨rfl, rfl⟩) (Nat.le_of_ble_eq_true rfl) ?_
  show zG Z M_X8_readsClause _ _ _ _ _ _ (wX hd th hi tx sh tp ++ wM cm fo nu f1 f2 mb mk (nI n) (nI (p + 1)) (nI c) ms me mq mu mh mp fc vc tt sg td sw sm ew eo bc bi im so sz it mv)
  refine s_aload_n dX8_readsClause_75 rfl ?_
  refine s_get dX8_readsClause_76 f_X8_41 (by rfl) (by rfl) ?_
  refine s_aload_n dX8_readsClause_79 rfl ?_
  refine s_get dX8_readsClause_80 f_X8_149 (by rfl) (by rfl) ?_
  refine s_iload_n dX8_readsClause_83 rfl ?_
  refine s_iast dX8_readsClause_84 (by rfl) (zrd (n := 12) hc (by decide)) ?_
  rw [nI_clamp (by omega)]
  show zG Z M_X8_readsClause _ _ _ _ _ _ (wX hd th hi tx sh tp ++ wM cm fo nu f1 f2 mb mk (nI n) (nI (p + 1)) (nI c) ms me mq mu mh mp fc vc tt (upd sg c 105) td sw sm ew eo bc bi im so sz it mv)
  refine s_aload_n dX8_readsClause_85 rfl ?_
  refine s_get dX8_readsClause_86 f_X8_44 (by rfl) (by rfl) ?_
  refine s_aload_n dX8_readsClause_89 rfl ?_
  refine s_get dX8_readsClause_90 f_X8_149 (by rfl) (by rfl) ?_
  refine s_iload_n dX8_readsClause_93 rfl ?_
  refine s_if_eq (tgt := 107) dX8_readsClause_94 (by decide) (fun hz => ?_) (fun hqz => absurd rfl hqz)
  clear hz
  refine s_iload_n dX8_readsClause_107 rfl ?_
  refine s_bipush (v := 109) dX8_readsClause_108 rfl ?_
  refine s_icmp_ne (tgt := 122) dX8_readsClause_110 (by decide) (fun hz => ?_) (fun hqz => absurd hqz (by decide))
  clear hz
  refine s_iconst (v := 0) dX8_readsClause_122 rfl ?_
  refine s_iast dX8_readsClause_123 (by rfl) (zrd (n := 12) hc (by decide)) ?_
  rw [nI_clamp (by omega)]
  show zG Z M_X8_readsClause _ _ _ _ _ _ (wX hd th hi tx sh tp ++ wM cm fo nu f1 f2 mb mk (nI n) (nI (p + 1)) (nI c) ms me mq mu mh mp fc vc tt (upd sg c 105) (upd td c 0) sw sm ew eo bc bi im so sz it mv)
  refine s_aload_n dX8_readsClause_124 rfl ?_
  refine s_get dX8_readsClause_125 f_X8_44 (by rfl) (by rfl) ?_
  refine s_aload_n dX8_readsClause_128 rfl ?_
  refine s_get dX8_readsClause_129 f_X8_149 (by rfl) (by rfl) ?_
  refine s_iald dX8_readsClause_132 (by rfl) (zrd (n := 12) hc (by decide)) ?_
  rw [nI_clamp (by omega), show upd td c 0 c = 0 from if_pos rfl]
  refine s_if_ge (tgt := 138) dX8_readsClause_133 (by decide) (fun hz => ?_) (fun hqz => absurd (by decide) hqz)
  clear hz
  refine s_aload_n dX8_readsClause_138 rfl ?_
  refine s_dup dX8_readsClause_139 rfl ?_
  refine s_get dX8_readsClause_140 f_X8_149 (by rfl) (by rfl) ?_
  refine s_iconst (v := 1) dX8_readsClause_143 rfl ?_
  refine s_iadd dX8_readsClause_144 ?_
  rw [nI_1]
  refine s_put dX8_readsClause_145 f_X8_149 (by rfl) (fun _ => ⟨rfl, rfl⟩) (Nat.le_of_ble_eq_true rfl) ?_
  show zG Z M_X8_readsClause _ _ _ _ _ _ (wX hd th hi tx sh tp ++ wM cm fo nu f1 f2 mb mk (nI n) (nI (p + 1)) (nI (c + 1)) ms me mq mu mh mp fc vc tt (upd sg c 105) (upd td c 0) sw sm ew eo bc bi im so sz it mv)
  refine s_iconst (v := 1) dX8_readsClause_148 rfl ?_
  exact s_zret dX8_readsClause_149 rfl (by first | exact Or.inl rfl | exact Or.inr rfl) ⟨rfl, rfl⟩ (by first | exact wXMl | rfl | (simp only [List.length_set]; exact wXMl))
