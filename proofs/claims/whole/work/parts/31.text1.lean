/-! ===== the class: set-ups read from texts ===== -/
def zFs (f : Nat → Int32) (n p : Nat) : Int32 := if p < n then f p else -1
def zMD (x : Int32) : Int32 := if x = 43 then 8 else if x = 45 then 8 else if x = 102 then 0 else if x = 105 then 0 else if x = 107 then 0 else if x = 109 then 2 else if x = 111 then 0 else if x = 117 then 0 else -1
def cMD (x : Int32) : Nat := (zMD x).toNatClampNeg
theorem zMD_val (x : Int32) : zMD x = -1 ∨ (zMD x = nI (cMD x) ∧ cMD x ≤ 8) := by
  have h : zMD x = 8 ∨ zMD x = 0 ∨ zMD x = 2 ∨ zMD x = -1 := by
    unfold zMD
    by_cases h43 : x = 43
    · rw [if_pos h43]; exact Or.inl rfl
    rw [if_neg h43]
    by_cases h45 : x = 45
    · rw [if_pos h45]; exact Or.inl rfl
    rw [if_neg h45]
    by_cases h102 : x = 102
    · rw [if_pos h102]; exact Or.inr (Or.inl rfl)
    rw [if_neg h102]
    by_cases h105 : x = 105
    · rw [if_pos h105]; exact Or.inr (Or.inl rfl)
    rw [if_neg h105]
    by_cases h107 : x = 107
    · rw [if_pos h107]; exact Or.inr (Or.inl rfl)
    rw [if_neg h107]
    by_cases h109 : x = 109
    · rw [if_pos h109]; exact Or.inr (Or.inr (Or.inl rfl))
    rw [if_neg h109]
    by_cases h111 : x = 111
    · rw [if_pos h111]; exact Or.inr (Or.inl rfl)
    rw [if_neg h111]
    by_cases h117 : x = 117
    · rw [if_pos h117]; exact Or.inr (Or.inl rfl)
    rw [if_neg h117]
    exact Or.inr (Or.inr (Or.inr rfl))
  unfold cMD
  rcases h with h | h | h | h
  · rw [h]; exact Or.inr ⟨by decide, by decide⟩
  · rw [h]; exact Or.inr ⟨by decide, by decide⟩
  · rw [h]; exact Or.inr ⟨by decide, by decide⟩
  · exact Or.inl h
set_option maxHeartbeats 4000000 in
set_option maxRecDepth 100000 in
theorem c_tap_full {Z : zS} {d : Nat} {hd th : zHd} {hi : Int32} {f : Nat → Int32} {n : Nat} {sh : zSh} {tp : zTs} {R : zW} {x : Int32} (hn : 100 ≤ n) (hn31 : n < 2 ^ 31) : zF Z M_X6_append (d) [.ref 21, .int x] (wX hd th hi (f, nI n) sh tp ++ R) [.int (-4)] (wX hd th hi (f, nI n) sh tp ++ R) := by
  unfold zF
  rw [wXlen]
  show zG Z M_X6_append (d) _ (R.length + 41) 0 [(0, .ref 21), (1, .int x)] [] (wX hd th hi (f, nI n) sh tp ++ R)
  refine s_aload_n dX6_append_0 rfl ?_
  refine s_get dX6_append_1 f_X6_15 (by rfl) (by rfl) ?_
  refine s_bipush (v := 100) dX6_append_4 rfl ?_
  refine s_icmp_lt (tgt := 12) dX6_append_6 (by decide) (fun hqz => absurd hqz (nI_nlt hn hn31)) (fun hz => ?_)
  clear hz
  refine s_bipush (v := (-4)) dX6_append_9 rfl ?_
  exact s_iret dX6_append_11 rfl ⟨rfl, rfl⟩ (by first | exact wXlen | rfl)
set_option maxHeartbeats 4000000 in
set_option maxRecDepth 100000 in
theorem c_tap {Z : zS} {d : Nat} {hd th : zHd} {hi : Int32} {f : Nat → Int32} {n : Nat} {sh : zSh} {tp : zTs} {R : zW} {t : Nat} (hn : n < 100) (ht : t < 128) : zF Z M_X6_append (d) [.ref 21, .int (nI t)] (wX hd th hi (f, nI n) sh tp ++ R) [.int (nI (n + 1))] (wX hd th hi (upd f n (nI t), nI (n + 1)) sh tp ++ R) := by
  unfold zF
  rw [wXlen]
  show zG Z M_X6_append (d) _ (R.length + 41) 0 [(0, .ref 21), (1, .int (nI t))] [] (wX hd th hi (f, nI n) sh tp ++ R)
  have hc : (nI n).toNatClampNeg = n := nI_clamp (by omega)
  refine s_aload_n dX6_append_0 rfl ?_
  refine s_get dX6_append_1 f_X6_15 (by rfl) (by rfl) ?_
  refine s_bipush (v := 100) dX6_append_4 rfl ?_
  refine s_icmp_lt (tgt := 12) dX6_append_6 (by decide) (fun hz => ?_) (fun hqz => absurd (nI_lt hn (by decide)) hqz)
  clear hz
  refine s_aload_n dX6_append_12 rfl ?_
  refine s_get dX6_append_13 f_X6_11 (by rfl) (by rfl) ?_
  refine s_aload_n dX6_append_16 rfl ?_
  refine s_get dX6_append_17 f_X6_15 (by rfl) (by rfl) ?_
  refine s_iload_n dX6_append_20 rfl ?_
  refine s_i2b dX6_append_21 rfl ?_
  refine s_bast dX6_append_22 (by rfl) (zrd (n := 100) hn (by decide)) ?_
  refine s_aload_n dX6_append_23 rfl ?_
  refine s_dup dX6_append_24 rfl ?_
  refine s_get dX6_append_25 f_X6_15 (by rfl) (by rfl) ?_
  refine s_iconst (v := 1) dX6_append_28 rfl ?_
  refine s_iadd dX6_append_29 ?_
  refine s_put dX6_append_30 f_X6_15 (by rfl) (fun _ => ⟨rfl, rfl⟩) (Nat.le_of_ble_eq_true rfl) ?_
  refine s_aload_n dX6_append_33 rfl ?_
  refine s_get dX6_append_34 f_X6_15 (by rfl) (by rfl) ?_
  exact s_iret dX6_append_37 rfl ⟨by rw [nI_1], by rw [hc, pk_vb, fa_byte_small ht]; dsimp only; rw [nI_1]; rfl⟩ (by first | exact wXlen | rfl)
set_option maxHeartbeats 4000000 in
set_option maxRecDepth 100000 in
theorem c_signAt {Z : zS} {d : Nat} {hd th : zHd} {hi : Int32} {f : Nat → Int32} {n : Nat} {sh : zSh} {tp : zTs} {R : zW} {p : Nat} (hn : n ≤ 100) (hp : p < 2 ^ 31) : zF Z M_X6_signAt d [.ref 21, .int (nI p)] (wX hd th hi (f, nI n) sh tp ++ R) [.int (zFs f n p)] (wX hd th hi (f, nI n) sh tp ++ R) := by
  unfold zF
  rw [wXlen]
  show zG Z M_X6_signAt d _ (R.length + 41) 0 [(0, .ref 21), (1, .int (nI p))] [] (wX hd th hi (f, nI n) sh tp ++ R)
  by_cases hq : p < n
  · rw [zFs, if_pos hq]
    refine s_iload_n dX6_signAt_0 rfl ?_
    refine s_if_lt (tgt := 27) dX6_signAt_1 (by decide) (fun hqz => absurd hqz (nI_pos hp)) (fun hz => ?_)
    clear hz
    refine s_iload_n dX6_signAt_4 rfl ?_
    refine s_aload_n dX6_signAt_5 rfl ?_
    refine s_get dX6_signAt_6 f_X6_15 (by rfl) (by rfl) ?_
    refine s_icmp_ge (tgt := 27) dX6_signAt_9 (by decide) (fun hqz => absurd hqz (nI_ge hq (by omega))) (fun hz => ?_)
    clear hz
    refine s_iload_n dX6_signAt_12 rfl ?_
    refine s_bipush (v := 100) dX6_signAt_13 rfl ?_
    refine s_icmp_ge (tgt := 27) dX6_signAt_15 (by decide) (fun hqz => absurd hqz (nI_ge (show p < 100 by omega) (by decide))) (fun hz => ?_)
    clear hz
    refine s_aload_n dX6_signAt_18 rfl ?_
    refine s_get dX6_signAt_19 f_X6_11 (by rfl) (by rfl) ?_
    refine s_iload_n dX6_signAt_22 rfl ?_
    refine s_bald dX6_signAt_23 (by rfl) (zrd (n := 100) (by omega) (by decide)) ?_
    refine s_goto (tgt := 28) dX6_signAt_24 (by decide) ?_
    exact s_iret dX6_signAt_28 rfl ⟨by rw [nI_clamp hp], rfl⟩ (by first | exact wXlen | rfl)
  · rw [zFs, if_neg hq]
    refine s_iload_n dX6_signAt_0 rfl ?_
    refine s_if_lt (tgt := 27) dX6_signAt_1 (by decide) (fun hqz => absurd hqz (nI_pos hp)) (fun hz => ?_)
    clear hz
    refine s_iload_n dX6_signAt_4 rfl ?_
    refine s_aload_n dX6_signAt_5 rfl ?_
    refine s_get dX6_signAt_6 f_X6_15 (by rfl) (by rfl) ?_
    refine s_icmp_ge (tgt := 27) dX6_signAt_9 (by decide) (fun hz => ?_) (fun hqz => absurd (nI_le (show n ≤ p by omega) hp) hqz)
    clear hz
    refine s_iconst (v := (-1)) dX6_signAt_27 rfl ?_
    exact s_iret dX6_signAt_28 rfl ⟨rfl, rfl⟩ (by first | exact wXlen | rfl)
set_option maxHeartbeats 4000000 in
set_option maxRecDepth 100000 in
theorem c_md {Z : zS} {d : Nat} {w : zW} {x : Int32} : zF Z M_X6_mostDigits d [.int x] w [.int (zMD x)] w := by
  by_cases h43 : x = 43
  · subst h43
    show zG Z M_X6_mostDigits d _ _ 0 [(0, .int 43)] [] w
    refine s_iload_n dX6_mostDigits_0 rfl ?_
    refine s_lookup (off := 75) (tgt := 76) dX6_mostDigits_1 (by decide) (by decide) (by decide) ?_
    refine s_bipush (v := 8) dX6_mostDigits_76 rfl ?_
    exact s_iret dX6_mostDigits_78 rfl ⟨by decide, rfl⟩ rfl
  by_cases h45 : x = 45
  · subst h45
    show zG Z M_X6_mostDigits d _ _ 0 [(0, .int 45)] [] w
    refine s_iload_n dX6_mostDigits_0 rfl ?_
    refine s_lookup (off := 75) (tgt := 76) dX6_mostDigits_1 (by decide) (by decide) (by decide) ?_
    refine s_bipush (v := 8) dX6_mostDigits_76 rfl ?_
    exact s_iret dX6_mostDigits_78 rfl ⟨by decide, rfl⟩ rfl
  by_cases h102 : x = 102
  · subst h102
    show zG Z M_X6_mostDigits d _ _ 0 [(0, .int 102)] [] w
    refine s_iload_n dX6_mostDigits_0 rfl ?_
    refine s_lookup (off := 80) (tgt := 81) dX6_mostDigits_1 (by decide) (by decide) (by decide) ?_
    refine s_iconst (v := 0) dX6_mostDigits_81 rfl ?_
    exact s_iret dX6_mostDigits_82 rfl ⟨by decide, rfl⟩ rfl
  by_cases h105 : x = 105
  · subst h105
    show zG Z M_X6_mostDigits d _ _ 0 [(0, .int 105)] [] w
    refine s_iload_n dX6_mostDigits_0 rfl ?_
    refine s_lookup (off := 80) (tgt := 81) dX6_mostDigits_1 (by decide) (by decide) (by decide) ?_
    refine s_iconst (v := 0) dX6_mostDigits_81 rfl ?_
    exact s_iret dX6_mostDigits_82 rfl ⟨by decide, rfl⟩ rfl
  by_cases h107 : x = 107
  · subst h107
    show zG Z M_X6_mostDigits d _ _ 0 [(0, .int 107)] [] w
    refine s_iload_n dX6_mostDigits_0 rfl ?_
    refine s_lookup (off := 80) (tgt := 81) dX6_mostDigits_1 (by decide) (by decide) (by decide) ?_
    refine s_iconst (v := 0) dX6_mostDigits_81 rfl ?_
    exact s_iret dX6_mostDigits_82 rfl ⟨by decide, rfl⟩ rfl
  by_cases h109 : x = 109
  · subst h109
    show zG Z M_X6_mostDigits d _ _ 0 [(0, .int 109)] [] w
    refine s_iload_n dX6_mostDigits_0 rfl ?_
    refine s_lookup (off := 78) (tgt := 79) dX6_mostDigits_1 (by decide) (by decide) (by decide) ?_
    refine s_iconst (v := 2) dX6_mostDigits_79 rfl ?_
    exact s_iret dX6_mostDigits_80 rfl ⟨by decide, rfl⟩ rfl
  by_cases h111 : x = 111
  · subst h111
    show zG Z M_X6_mostDigits d _ _ 0 [(0, .int 111)] [] w
    refine s_iload_n dX6_mostDigits_0 rfl ?_
    refine s_lookup (off := 80) (tgt := 81) dX6_mostDigits_1 (by decide) (by decide) (by decide) ?_
    refine s_iconst (v := 0) dX6_mostDigits_81 rfl ?_
    exact s_iret dX6_mostDigits_82 rfl ⟨by decide, rfl⟩ rfl
  by_cases h117 : x = 117
  · subst h117
    show zG Z M_X6_mostDigits d _ _ 0 [(0, .int 117)] [] w
    refine s_iload_n dX6_mostDigits_0 rfl ?_
    refine s_lookup (off := 80) (tgt := 81) dX6_mostDigits_1 (by decide) (by decide) (by decide) ?_
    refine s_iconst (v := 0) dX6_mostDigits_81 rfl ?_
    exact s_iret dX6_mostDigits_82 rfl ⟨by decide, rfl⟩ rfl
  have e43 : ¬ (43 : Int) = x.toInt := fun z => h43 ((fa_eq x 43).mpr z.symm)
  have e45 : ¬ (45 : Int) = x.toInt := fun z => h45 ((fa_eq x 45).mpr z.symm)
  have e102 : ¬ (102 : Int) = x.toInt := fun z => h102 ((fa_eq x 102).mpr z.symm)
  have e105 : ¬ (105 : Int) = x.toInt := fun z => h105 ((fa_eq x 105).mpr z.symm)
  have e107 : ¬ (107 : Int) = x.toInt := fun z => h107 ((fa_eq x 107).mpr z.symm)
  have e109 : ¬ (109 : Int) = x.toInt := fun z => h109 ((fa_eq x 109).mpr z.symm)
  have e111 : ¬ (111 : Int) = x.toInt := fun z => h111 ((fa_eq x 111).mpr z.symm)
  have e117 : ¬ (117 : Int) = x.toInt := fun z => h117 ((fa_eq x 117).mpr z.symm)
  show zG Z M_X6_mostDigits d _ _ 0 [(0, .int x)] [] w
  refine s_iload_n dX6_mostDigits_0 rfl ?_
  refine s_lookup (off := 82) (tgt := 83) dX6_mostDigits_1 (by decide) (by simp [Op.lookupswitch.offset, e43, e45, e102, e105, e107, e109, e111, e117]) (by decide) ?_
  refine s_iconst (v := (-1)) dX6_mostDigits_83 rfl ?_
  exact s_iret dX6_mostDigits_84 rfl ⟨by rw [zMD, if_neg h43, if_neg h45, if_neg h102, if_neg h105, if_neg h107, if_neg h109, if_neg h111, if_neg h117], rfl⟩ rfl
def isD (x : Int32) : Prop := ¬ x < 48 ∧ ¬ 57 < x
def dgL (F : Nat → Int32) (p : Nat) : Nat → Nat → Nat
  | 0, e => e
  | r + 1, e => if ¬ F (p + e) < 48 ∧ ¬ 57 < F (p + e) then dgL F p r (e + 1) else e
theorem dgL_le (F : Nat → Int32) (p : Nat) : ∀ (r e : Nat), dgL F p r e ≤ e + r
  | 0, _ => Nat.le_refl _
  | r + 1, e => by
    unfold dgL
    by_cases c : ¬ F (p + e) < 48 ∧ ¬ 57 < F (p + e)
    · rw [if_pos c]; have := dgL_le F p r (e + 1); omega
    · rw [if_neg c]; omega
set_option maxHeartbeats 4000000 in
set_option maxRecDepth 100000 in
theorem l_dg {Z : zS} {d : Nat} {hd th : zHd} {hi : Int32} {f : Nat → Int32} {n : Nat} {sh : zSh} {tp : zTs} {R : zW} {p m : Nat} (hn : n ≤ 100) (hp : p < 1000) (hm8 : m ≤ 8) : ∀ (r e : Nat), e + r = m → zG Z M_X6_digitsFrom (d + 1) (fun r1 w1 => r1 = [.int (nI (dgL (zFs f n) p r e))] ∧ w1 = (wX hd th hi (f, nI n) sh tp ++ R)) (R.length + 41) 2 [(0, .ref 21), (1, .int (nI p)), (2, .int (nI m)), (3, .int (nI e))] [] (wX hd th hi (f, nI n) sh tp ++ R) := by
  intro r
  induction r with
  | zero =>
    intro e hi
    have hi : e = m := by omega
    subst hi
    refine s_iload_n dX6_digitsFrom_2 rfl ?_
    refine s_iload_n dX6_digitsFrom_3 rfl ?_
    refine s_icmp_ge (tgt := 37) dX6_digitsFrom_4 (by decide) (fun hz => ?_) (fun hqz => absurd (nI_le (Nat.le_refl _) (by omega)) hqz)
    clear hz
    refine s_iload_n dX6_digitsFrom_37 rfl ?_
    exact s_iret dX6_digitsFrom_38 rfl ⟨rfl, rfl⟩ (by first | exact wXlen | rfl)
  | succ r ih =>
    intro e hi
    have hm : e < m := by omega
    refine s_iload_n dX6_digitsFrom_2 rfl ?_
    refine s_iload_n dX6_digitsFrom_3 rfl ?_
    refine s_icmp_ge (tgt := 37) dX6_digitsFrom_4 (by decide) (fun hqz => absurd hqz (nI_ge hm (by omega))) (fun hz => ?_)
    clear hz
    refine s_aload_n dX6_digitsFrom_7 rfl ?_
    refine s_iload_n dX6_digitsFrom_8 rfl ?_
    refine s_iload_n dX6_digitsFrom_9 rfl ?_
    refine s_iadd dX6_digitsFrom_10 ?_
    rw [nI_add]
    refine s_cv1 dX6_digitsFrom_11 g_X6_19 (c_signAt hn (by omega)) (by rfl) rfl rfl rfl rfl (Nat.le_of_ble_eq_true rfl) (Nat.le_of_ble_eq_true rfl) rfl ?_
    refine s_bipush (v := 48) dX6_digitsFrom_14 rfl ?_
    refine s_icmp_lt (tgt := 37) dX6_digitsFrom_16 (by decide) (fun h_16 => ?_) (fun h_16 => ?_)
    · refine s_iload_n dX6_digitsFrom_37 rfl ?_
      exact s_iret dX6_digitsFrom_38 rfl ⟨by rw [dgL, if_neg (fun z => z.1 h_16)], rfl⟩ (by first | exact wXlen | rfl)
    · refine s_aload_n dX6_digitsFrom_19 rfl ?_
      refine s_iload_n dX6_digitsFrom_20 rfl ?_
      refine s_iload_n dX6_digitsFrom_21 rfl ?_
      refine s_iadd dX6_digitsFrom_22 ?_
      rw [nI_add]
      refine s_cv1 dX6_digitsFrom_23 g_X6_19 (c_signAt hn (by omega)) (by rfl) rfl rfl rfl rfl (Nat.le_of_ble_eq_true rfl) (Nat.le_of_ble_eq_true rfl) rfl ?_
      refine s_bipush (v := 57) dX6_digitsFrom_26 rfl ?_
      refine s_icmp_gt (tgt := 37) dX6_digitsFrom_28 (by decide) (fun h_28 => ?_) (fun h_28 => ?_)
      · refine s_iload_n dX6_digitsFrom_37 rfl ?_
        exact s_iret dX6_digitsFrom_38 rfl ⟨by rw [dgL, if_neg (fun z => z.2 h_28)], rfl⟩ (by first | exact wXlen | rfl)
      · refine s_iinc (nI (e + 1)) dX6_digitsFrom_31 rfl (nI_1 _) (Nat.le_of_ble_eq_true rfl) rfl ?_
        refine s_goto (tgt := 2) dX6_digitsFrom_34 (by decide) ?_
        rw [show dgL (zFs f n) p (r + 1) e = dgL (zFs f n) p r (e + 1) from by rw [dgL, if_pos ⟨h_16, h_28⟩]]
        exact ih (e + 1) (by omega)
set_option maxHeartbeats 4000000 in
set_option maxRecDepth 100000 in
theorem c_dg {Z : zS} {d : Nat} {hd th : zHd} {hi : Int32} {f : Nat → Int32} {n : Nat} {sh : zSh} {tp : zTs} {R : zW} {p m : Nat} (hn : n ≤ 100) (hp : p < 1000) (hm8 : m ≤ 8) : zF Z M_X6_digitsFrom (d + 1) [.ref 21, .int (nI p), .int (nI m)] (wX hd th hi (f, nI n) sh tp ++ R) [.int (nI (dgL (zFs f n) p m 0))] (wX hd th hi (f, nI n) sh tp ++ R) := by
  unfold zF
  rw [wXlen]
  show zG Z M_X6_digitsFrom (d + 1) _ (R.length + 41) 0 [(0, .ref 21), (1, .int (nI p)), (2, .int (nI m))] [] (wX hd th hi (f, nI n) sh tp ++ R)
  refine s_iconst (v := 0) dX6_digitsFrom_0 rfl ?_
  refine s_istore_n dX6_digitsFrom_1 (Nat.le_of_ble_eq_true rfl) rfl ?_
  exact l_dg hn hp hm8 m 0 (by omega)
theorem zpos0 {m : Nat} (h : ¬ nI m ≤ 0) : 0 < m := by
  rcases Nat.eq_zero_or_pos m with z | z
  · rw [z] at h
    exact absurd (by decide) h
  · exact z
/-- digits behind the sign at p -/
def dgC (F : Nat → Int32) (p : Nat) : Nat := dgL F (p + 1) (cMD (F p)) 0
theorem dgC_le (F : Nat → Int32) (p : Nat) : dgC F p ≤ 8 := by
  unfold dgC
  rcases zMD_val (F p) with h | h
  · have : cMD (F p) = 0 := by unfold cMD; rw [h]; decide
    have h2 := dgL_le F (p + 1) (cMD (F p)) 0
    omega
  · have h2 := dgL_le F (p + 1) (cMD (F p)) 0
    omega
/-- where the c-th clause begins -/
def psC (F : Nat → Int32) : Nat → Nat
  | 0 => 0
  | c + 1 => psC F c + 1 + dgC F (psC F c) + 1
theorem psC_le (F : Nat → Int32) : ∀ c, psC F c ≤ 10 * c
  | 0 => Nat.le_refl _
  | c + 1 => by
    have h1 := psC_le F c
    have h2 := dgC_le F (psC F c)
    show psC F c + 1 + dgC F (psC F c) + 1 ≤ _
    omega
def ffL (F : Nat → Int32) (n : Nat) : Nat → Nat → Int32
  | 0, c => nI (psC F c) - 1
  | r + 1, c => if zMD (F (psC F c)) = -1 then nI (psC F c)
    else if 0 < cMD (F (psC F c)) ∧ dgC F (psC F c) = 0 then nI (psC F c + 1 + dgC F (psC F c))
    else if n ≤ psC F c + 1 + dgC F (psC F c) then -1
    else if F (psC F c + 1 + dgC F (psC F c)) = 59 then ffL F n r (c + 1)
    else nI (psC F c + 1 + dgC F (psC F c))
set_option maxHeartbeats 4000000 in
set_option maxRecDepth 100000 in
theorem l_ff {Z : zS} {d : Nat} {hd th : zHd} {hi : Int32} {f : Nat → Int32} {n : Nat} {sh : zSh} {tp : zTs} {R : zW} (hn : n ≤ 100) : ∀ (r c : Nat), c + r = 12 → zG Z M_X6_firstFault (d + 2) (fun r1 w1 => r1 = [.int (ffL (zFs f n) n r c)] ∧ w1 = (wX hd th hi (f, nI n) sh tp ++ R)) (R.length + 41) 4 [(0, .ref 21), (1, .int (nI (psC (zFs f n) c))), (2, .int (nI (c + 1)))] [] (wX hd th hi (f, nI n) sh tp ++ R) := by
  intro r
  induction r with
  | zero =>
    intro c hcr
    have hcr : c = 12 := by omega
    subst hcr
    refine s_iload_n dX6_firstFault_4 rfl ?_
    refine s_bipush (v := 12) dX6_firstFault_5 rfl ?_
    refine s_icmp_gt (tgt := 85) dX6_firstFault_7 (by decide) (fun hz => ?_) (fun hqz => absurd (by decide) hqz)
    clear hz
    refine s_iload_n dX6_firstFault_85 rfl ?_
    refine s_iconst (v := 1) dX6_firstFault_86 rfl ?_
    refine s_isub dX6_firstFault_87 ?_
    exact s_iret dX6_firstFault_88 rfl ⟨rfl, rfl⟩ (by first | exact wXlen | rfl)
  | succ r ih =>
    intro c hcr
    have hm : c < 12 := by omega
    have hps := psC_le (zFs f n) c
    have hdl := dgC_le (zFs f n) (psC (zFs f n) c)
    have hq := ih (c + 1) (by omega)
    rw [show psC (zFs f n) (c + 1) = psC (zFs f n) c + 1 + dgC (zFs f n) (psC (zFs f n) c) + 1 from rfl] at hq
    rw [ffL]
    generalize hp : psC (zFs f n) c = p at *
    by_cases h1 : zMD (zFs f n p) = -1
    · rw [if_pos h1]
      refine s_iload_n dX6_firstFault_4 rfl ?_
      refine s_bipush (v := 12) dX6_firstFault_5 rfl ?_
      refine s_icmp_gt (tgt := 85) dX6_firstFault_7 (by decide) (fun hqz => absurd hqz (nI_nlt (show c + 1 ≤ 12 by omega) (by decide))) (fun hz => ?_)
      clear hz
      refine s_aload_n dX6_firstFault_10 rfl ?_
      refine s_iload_n dX6_firstFault_11 rfl ?_
      refine s_cv1 dX6_firstFault_12 g_X6_19 (c_signAt hn (by omega)) (by rfl) rfl rfl rfl rfl (Nat.le_of_ble_eq_true rfl) (Nat.le_of_ble_eq_true rfl) rfl ?_
      refine s_cs1 dX6_firstFault_15 g_X6_23 (c_md) rfl rfl (Nat.le_of_ble_eq_true rfl) (Nat.le_of_ble_eq_true rfl) rfl ?_
      refine s_istore_n dX6_firstFault_18 (Nat.le_of_ble_eq_true rfl) rfl ?_
      refine s_iload_n dX6_firstFault_19 rfl ?_
      refine s_iconst (v := (-1)) dX6_firstFault_20 rfl ?_
      refine s_icmp_ne (tgt := 26) dX6_firstFault_21 (by decide) (fun hqz => absurd h1 hqz) (fun hz => ?_)
      clear hz
      refine s_iload_n dX6_firstFault_24 rfl ?_
      exact s_iret dX6_firstFault_25 rfl ⟨rfl, rfl⟩ (by first | exact wXlen | rfl)
    · have hv := (zMD_val (zFs f n p)).resolve_left h1
      rw [if_neg h1]
      have hdv : dgL (zFs f n) (p + 1) (cMD (zFs f n p)) 0 = dgC (zFs f n) p := rfl
      generalize dgC (zFs f n) p = e at *
      by_cases h2 : 0 < cMD (zFs f n p) ∧ e = 0
      · rw [if_pos h2]
        refine s_iload_n dX6_firstFault_4 rfl ?_
        refine s_bipush (v := 12) dX6_firstFault_5 rfl ?_
        refine s_icmp_gt (tgt := 85) dX6_firstFault_7 (by decide) (fun hqz => absurd hqz (nI_nlt (show c + 1 ≤ 12 by omega) (by decide))) (fun hz => ?_)
        clear hz
        refine s_aload_n dX6_firstFault_10 rfl ?_
        refine s_iload_n dX6_firstFault_11 rfl ?_
        refine s_cv1 dX6_firstFault_12 g_X6_19 (c_signAt hn (by omega)) (by rfl) rfl rfl rfl rfl (Nat.le_of_ble_eq_true rfl) (Nat.le_of_ble_eq_true rfl) rfl ?_
        refine s_cs1 dX6_firstFault_15 g_X6_23 (c_md) rfl rfl (Nat.le_of_ble_eq_true rfl) (Nat.le_of_ble_eq_true rfl) rfl ?_
        refine s_istore_n dX6_firstFault_18 (Nat.le_of_ble_eq_true rfl) rfl ?_
        refine s_iload_n dX6_firstFault_19 rfl ?_
        refine s_iconst (v := (-1)) dX6_firstFault_20 rfl ?_
        refine s_icmp_ne (tgt := 26) dX6_firstFault_21 (by decide) (fun hz => ?_) (fun hqz => absurd hqz h1)
        clear hz
        rw [hv.1]
        refine s_aload_n dX6_firstFault_26 rfl ?_
        refine s_iload_n dX6_firstFault_27 rfl ?_
        refine s_iconst (v := 1) dX6_firstFault_28 rfl ?_
        refine s_iadd dX6_firstFault_29 ?_
        refine s_iload_n dX6_firstFault_30 rfl ?_
        rw [nI_1]
        refine s_cv1 dX6_firstFault_31 g_X6_26 (c_dg (m := cMD (zFs f n p)) hn (by omega) hv.2) (by rfl) rfl rfl rfl rfl (Nat.le_of_ble_eq_true rfl) (Nat.le_of_ble_eq_true rfl) rfl ?_
        rw [hdv]
        refine s_istore dX6_firstFault_34 (Nat.le_of_ble_eq_true rfl) rfl ?_
        refine s_iload_n dX6_firstFault_36 rfl ?_
        refine s_iconst (v := 1) dX6_firstFault_37 rfl ?_
        refine s_iload dX6_firstFault_38 rfl ?_
        refine s_iadd dX6_firstFault_40 ?_
        refine s_iadd dX6_firstFault_41 ?_
        rw [show (1 : Int32) = nI 1 from rfl, nI_add, nI_add, ← Nat.add_assoc]
        refine s_istore_n dX6_firstFault_42 (Nat.le_of_ble_eq_true rfl) rfl ?_
        refine s_iload_n dX6_firstFault_43 rfl ?_
        refine s_if_le (tgt := 54) dX6_firstFault_44 (by decide) (fun hqz => absurd hqz (nI_nle h2.1 (by omega))) (fun hz => ?_)
        clear hz
        refine s_iload dX6_firstFault_47 rfl ?_
        refine s_if_ne (tgt := 54) dX6_firstFault_49 (by decide) (fun hqz => absurd (by rw [h2.2]; rfl) hqz) (fun hz => ?_)
        clear hz
        refine s_iload_n dX6_firstFault_52 rfl ?_
        exact s_iret dX6_firstFault_53 rfl ⟨rfl, rfl⟩ (by first | exact wXlen | rfl)
      · rw [if_neg h2]
        by_cases h3 : n ≤ p + 1 + e
        · rw [if_pos h3]
          have K : zG Z M_X6_firstFault (d + 2) (fun r1 w1 => r1 = [.int (-1)] ∧ w1 = (wX hd th hi (f, nI n) sh tp ++ R)) (R.length + 41) 54 [(0, .ref 21), (1, .int (nI (p + 1 + e))), (2, .int (nI (c + 1))), (3, .int (nI (cMD (zFs f n p)))), (4, .int (nI e))] [] (wX hd th hi (f, nI n) sh tp ++ R) := by
            refine s_iload_n dX6_firstFault_54 rfl ?_
            refine s_aload_n dX6_firstFault_55 rfl ?_
            refine s_get dX6_firstFault_56 f_X6_15 (by rfl) (by rfl) ?_
            refine s_icmp_lt (tgt := 64) dX6_firstFault_59 (by decide) (fun hqz => absurd hqz (nI_nlt h3 (by omega))) (fun hz => ?_)
            clear hz
            refine s_iconst (v := (-1)) dX6_firstFault_62 rfl ?_
            exact s_iret dX6_firstFault_63 rfl ⟨rfl, rfl⟩ (by first | exact wXlen | rfl)
          refine s_iload_n dX6_firstFault_4 rfl ?_
          refine s_bipush (v := 12) dX6_firstFault_5 rfl ?_
          refine s_icmp_gt (tgt := 85) dX6_firstFault_7 (by decide) (fun hqz => absurd hqz (nI_nlt (show c + 1 ≤ 12 by omega) (by decide))) (fun hz => ?_)
          clear hz
          refine s_aload_n dX6_firstFault_10 rfl ?_
          refine s_iload_n dX6_firstFault_11 rfl ?_
          refine s_cv1 dX6_firstFault_12 g_X6_19 (c_signAt hn (by omega)) (by rfl) rfl rfl rfl rfl (Nat.le_of_ble_eq_true rfl) (Nat.le_of_ble_eq_true rfl) rfl ?_
          refine s_cs1 dX6_firstFault_15 g_X6_23 (c_md) rfl rfl (Nat.le_of_ble_eq_true rfl) (Nat.le_of_ble_eq_true rfl) rfl ?_
          refine s_istore_n dX6_firstFault_18 (Nat.le_of_ble_eq_true rfl) rfl ?_
          refine s_iload_n dX6_firstFault_19 rfl ?_
          refine s_iconst (v := (-1)) dX6_firstFault_20 rfl ?_
          refine s_icmp_ne (tgt := 26) dX6_firstFault_21 (by decide) (fun hz => ?_) (fun hqz => absurd hqz h1)
          clear hz
          rw [hv.1]
          refine s_aload_n dX6_firstFault_26 rfl ?_
          refine s_iload_n dX6_firstFault_27 rfl ?_
          refine s_iconst (v := 1) dX6_firstFault_28 rfl ?_
          refine s_iadd dX6_firstFault_29 ?_
          refine s_iload_n dX6_firstFault_30 rfl ?_
          rw [nI_1]
          refine s_cv1 dX6_firstFault_31 g_X6_26 (c_dg (m := cMD (zFs f n p)) hn (by omega) hv.2) (by rfl) rfl rfl rfl rfl (Nat.le_of_ble_eq_true rfl) (Nat.le_of_ble_eq_true rfl) rfl ?_
          rw [hdv]
          refine s_istore dX6_firstFault_34 (Nat.le_of_ble_eq_true rfl) rfl ?_
          refine s_iload_n dX6_firstFault_36 rfl ?_
          refine s_iconst (v := 1) dX6_firstFault_37 rfl ?_
          refine s_iload dX6_firstFault_38 rfl ?_
          refine s_iadd dX6_firstFault_40 ?_
          refine s_iadd dX6_firstFault_41 ?_
          rw [show (1 : Int32) = nI 1 from rfl, nI_add, nI_add, ← Nat.add_assoc]
          refine s_istore_n dX6_firstFault_42 (Nat.le_of_ble_eq_true rfl) rfl ?_
          refine s_iload_n dX6_firstFault_43 rfl ?_
          refine s_if_le (tgt := 54) dX6_firstFault_44 (by decide) (fun h_44 => ?_) (fun h_44 => ?_)
          · exact K
          · refine s_iload dX6_firstFault_47 rfl ?_
            refine s_if_ne (tgt := 54) dX6_firstFault_49 (by decide) (fun h_49 => ?_) (fun h_49 => ?_)
            · exact K
            · exact absurd ⟨zpos0 h_44, (zn0 (by omega)).mp h_49⟩ h2
        · rw [if_neg h3]
          by_cases h4 : zFs f n (p + 1 + e) = 59
          · rw [if_pos h4]
            have K : zG Z M_X6_firstFault (d + 2) (fun r1 w1 => r1 = [.int (ffL (zFs f n) n r (c + 1))] ∧ w1 = (wX hd th hi (f, nI n) sh tp ++ R)) (R.length + 41) 54 [(0, .ref 21), (1, .int (nI (p + 1 + e))), (2, .int (nI (c + 1))), (3, .int (nI (cMD (zFs f n p)))), (4, .int (nI e))] [] (wX hd th hi (f, nI n) sh tp ++ R) := by
              refine s_iload_n dX6_firstFault_54 rfl ?_
              refine s_aload_n dX6_firstFault_55 rfl ?_
              refine s_get dX6_firstFault_56 f_X6_15 (by rfl) (by rfl) ?_
              refine s_icmp_lt (tgt := 64) dX6_firstFault_59 (by decide) (fun hz => ?_) (fun hqz => absurd (nI_lt (show p + 1 + e < n by omega) (by omega)) hqz)
              clear hz
              refine s_aload_n dX6_firstFault_64 rfl ?_
              refine s_iload_n dX6_firstFault_65 rfl ?_
              refine s_cv1 dX6_firstFault_66 g_X6_19 (c_signAt hn (by omega)) (by rfl) rfl rfl rfl rfl (Nat.le_of_ble_eq_true rfl) (Nat.le_of_ble_eq_true rfl) rfl ?_
              refine s_bipush (v := 59) dX6_firstFault_69 rfl ?_
              refine s_icmp_eq (tgt := 76) dX6_firstFault_71 (by decide) (fun hz => ?_) (fun hqz => absurd h4 hqz)
              clear hz
              refine s_iinc (nI (p + 1 + e + 1)) dX6_firstFault_76 rfl (nI_1 _) (Nat.le_of_ble_eq_true rfl) rfl ?_
              refine s_iinc (nI (c + 1 + 1)) dX6_firstFault_79 rfl (nI_1 _) (Nat.le_of_ble_eq_true rfl) rfl ?_
              refine s_goto (tgt := 4) dX6_firstFault_82 (by decide) ?_
              refine s_take 3 ?_
              exact hq
            refine s_iload_n dX6_firstFault_4 rfl ?_
            refine s_bipush (v := 12) dX6_firstFault_5 rfl ?_
            refine s_icmp_gt (tgt := 85) dX6_firstFault_7 (by decide) (fun hqz => absurd hqz (nI_nlt (show c + 1 ≤ 12 by omega) (by decide))) (fun hz => ?_)
            clear hz
            refine s_aload_n dX6_firstFault_10 rfl ?_
            refine s_iload_n dX6_firstFault_11 rfl ?_
            refine s_cv1 dX6_firstFault_12 g_X6_19 (c_signAt hn (by omega)) (by rfl) rfl rfl rfl rfl (Nat.le_of_ble_eq_true rfl) (Nat.le_of_ble_eq_true rfl) rfl ?_
            refine s_cs1 dX6_firstFault_15 g_X6_23 (c_md) rfl rfl (Nat.le_of_ble_eq_true rfl) (Nat.le_of_ble_eq_true rfl) rfl ?_
            refine s_istore_n dX6_firstFault_18 (Nat.le_of_ble_eq_true rfl) rfl ?_
            refine s_iload_n dX6_firstFault_19 rfl ?_
            refine s_iconst (v := (-1)) dX6_firstFault_20 rfl ?_
            refine s_icmp_ne (tgt := 26) dX6_firstFault_21 (by decide) (fun hz => ?_) (fun hqz => absurd hqz h1)
            clear hz
            rw [hv.1]
            refine s_aload_n dX6_firstFault_26 rfl ?_
            refine s_iload_n dX6_firstFault_27 rfl ?_
            refine s_iconst (v := 1) dX6_firstFault_28 rfl ?_
            refine s_iadd dX6_firstFault_29 ?_
            refine s_iload_n dX6_firstFault_30 rfl ?_
            rw [nI_1]
            refine s_cv1 dX6_firstFault_31 g_X6_26 (c_dg (m := cMD (zFs f n p)) hn (by omega) hv.2) (by rfl) rfl rfl rfl rfl (Nat.le_of_ble_eq_true rfl) (Nat.le_of_ble_eq_true rfl) rfl ?_
            rw [hdv]
            refine s_istore dX6_firstFault_34 (Nat.le_of_ble_eq_true rfl) rfl ?_
            refine s_iload_n dX6_firstFault_36 rfl ?_
            refine s_iconst (v := 1) dX6_firstFault_37 rfl ?_
            refine s_iload dX6_firstFault_38 rfl ?_
            refine s_iadd dX6_firstFault_40 ?_
            refine s_iadd dX6_firstFault_41 ?_
            rw [show (1 : Int32) = nI 1 from rfl, nI_add, nI_add, ← Nat.add_assoc]
            refine s_istore_n dX6_firstFault_42 (Nat.le_of_ble_eq_true rfl) rfl ?_
            refine s_iload_n dX6_firstFault_43 rfl ?_
            refine s_if_le (tgt := 54) dX6_firstFault_44 (by decide) (fun h_44 => ?_) (fun h_44 => ?_)
            · exact K
            · refine s_iload dX6_firstFault_47 rfl ?_
              refine s_if_ne (tgt := 54) dX6_firstFault_49 (by decide) (fun h_49 => ?_) (fun h_49 => ?_)
              · exact K
              · exact absurd ⟨zpos0 h_44, (zn0 (by omega)).mp h_49⟩ h2
          · rw [if_neg h4]
            have K : zG Z M_X6_firstFault (d + 2) (fun r1 w1 => r1 = [.int (nI (p + 1 + e))] ∧ w1 = (wX hd th hi (f, nI n) sh tp ++ R)) (R.length + 41) 54 [(0, .ref 21), (1, .int (nI (p + 1 + e))), (2, .int (nI (c + 1))), (3, .int (nI (cMD (zFs f n p)))), (4, .int (nI e))] [] (wX hd th hi (f, nI n) sh tp ++ R) := by
              refine s_iload_n dX6_firstFault_54 rfl ?_
              refine s_aload_n dX6_firstFault_55 rfl ?_
              refine s_get dX6_firstFault_56 f_X6_15 (by rfl) (by rfl) ?_
              refine s_icmp_lt (tgt := 64) dX6_firstFault_59 (by decide) (fun hz => ?_) (fun hqz => absurd (nI_lt (show p + 1 + e < n by omega) (by omega)) hqz)
              clear hz
              refine s_aload_n dX6_firstFault_64 rfl ?_
              refine s_iload_n dX6_firstFault_65 rfl ?_
              refine s_cv1 dX6_firstFault_66 g_X6_19 (c_signAt hn (by omega)) (by rfl) rfl rfl rfl rfl (Nat.le_of_ble_eq_true rfl) (Nat.le_of_ble_eq_true rfl) rfl ?_
              refine s_bipush (v := 59) dX6_firstFault_69 rfl ?_
              refine s_icmp_eq (tgt := 76) dX6_firstFault_71 (by decide) (fun hqz => absurd hqz h4) (fun hz => ?_)
              clear hz
              refine s_iload_n dX6_firstFault_74 rfl ?_
              exact s_iret dX6_firstFault_75 rfl ⟨rfl, rfl⟩ (by first | exact wXlen | rfl)
            refine s_iload_n dX6_firstFault_4 rfl ?_
            refine s_bipush (v := 12) dX6_firstFault_5 rfl ?_
            refine s_icmp_gt (tgt := 85) dX6_firstFault_7 (by decide) (fun hqz => absurd hqz (nI_nlt (show c + 1 ≤ 12 by omega) (by decide))) (fun hz => ?_)
            clear hz
            refine s_aload_n dX6_firstFault_10 rfl ?_
            refine s_iload_n dX6_firstFault_11 rfl ?_
            refine s_cv1 dX6_firstFault_12 g_X6_19 (c_signAt hn (by omega)) (by rfl) rfl rfl rfl rfl (Nat.le_of_ble_eq_true rfl) (Nat.le_of_ble_eq_true rfl) rfl ?_
            refine s_cs1 dX6_firstFault_15 g_X6_23 (c_md) rfl rfl (Nat.le_of_ble_eq_true rfl) (Nat.le_of_ble_eq_true rfl) rfl ?_
            refine s_istore_n dX6_firstFault_18 (Nat.le_of_ble_eq_true rfl) rfl ?_
            refine s_iload_n dX6_firstFault_19 rfl ?_
            refine s_iconst (v := (-1)) dX6_firstFault_20 rfl ?_
            refine s_icmp_ne (tgt := 26) dX6_firstFault_21 (by decide) (fun hz => ?_) (fun hqz => absurd hqz h1)
            clear hz
            rw [hv.1]
            refine s_aload_n dX6_firstFault_26 rfl ?_
            refine s_iload_n dX6_firstFault_27 rfl ?_
            refine s_iconst (v := 1) dX6_firstFault_28 rfl ?_
            refine s_iadd dX6_firstFault_29 ?_
            refine s_iload_n dX6_firstFault_30 rfl ?_
            rw [nI_1]
            refine s_cv1 dX6_firstFault_31 g_X6_26 (c_dg (m := cMD (zFs f n p)) hn (by omega) hv.2) (by rfl) rfl rfl rfl rfl (Nat.le_of_ble_eq_true rfl) (Nat.le_of_ble_eq_true rfl) rfl ?_
            rw [hdv]
            refine s_istore dX6_firstFault_34 (Nat.le_of_ble_eq_true rfl) rfl ?_
            refine s_iload_n dX6_firstFault_36 rfl ?_
            refine s_iconst (v := 1) dX6_firstFault_37 rfl ?_
            refine s_iload dX6_firstFault_38 rfl ?_
            refine s_iadd dX6_firstFault_40 ?_
            refine s_iadd dX6_firstFault_41 ?_
            rw [show (1 : Int32) = nI 1 from rfl, nI_add, nI_add, ← Nat.add_assoc]
            refine s_istore_n dX6_firstFault_42 (Nat.le_of_ble_eq_true rfl) rfl ?_
            refine s_iload_n dX6_firstFault_43 rfl ?_
            refine s_if_le (tgt := 54) dX6_firstFault_44 (by decide) (fun h_44 => ?_) (fun h_44 => ?_)
            · exact K
            · refine s_iload dX6_firstFault_47 rfl ?_
              refine s_if_ne (tgt := 54) dX6_firstFault_49 (by decide) (fun h_49 => ?_) (fun h_49 => ?_)
              · exact K
              · exact absurd ⟨zpos0 h_44, (zn0 (by omega)).mp h_49⟩ h2
set_option maxHeartbeats 4000000 in
set_option maxRecDepth 100000 in
theorem c_ff {Z : zS} {d : Nat} {hd th : zHd} {hi : Int32} {f : Nat → Int32} {n : Nat} {sh : zSh} {tp : zTs} {R : zW} (hn : n ≤ 100) : zF Z M_X6_firstFault (d + 2) [.ref 21] (wX hd th hi (f, nI n) sh tp ++ R) [.int (ffL (zFs f n) n 12 0)] (wX hd th hi (f, nI n) sh tp ++ R) := by
  unfold zF
  rw [wXlen]
  show zG Z M_X6_firstFault (d + 2) _ (R.length + 41) 0 [(0, .ref 21)] [] (wX hd th hi (f, nI n) sh tp ++ R)
  refine s_iconst (v := 0) dX6_firstFault_0 rfl ?_
  refine s_istore_n dX6_firstFault_1 (Nat.le_of_ble_eq_true rfl) rfl ?_
  refine s_iconst (v := 1) dX6_firstFault_2 rfl ?_
  refine s_istore_n dX6_firstFault_3 (Nat.le_of_ble_eq_true rfl) rfl ?_
  exact l_ff hn 12 0 rfl
