/-! ===== the class: set-ups done ===== -/
def dv (F : Nat → Int32) (p : Nat) : Nat := (F p).toNatClampNeg - 48
def Dg (F : Nat → Int32) (q e : Nat) : Prop := ∀ i, i < e → ¬ F (q + i) < 48 ∧ ¬ 57 < F (q + i)
theorem zdig {F : Nat → Int32} {p : Nat} (h : ¬ F p < 48 ∧ ¬ 57 < F p) : F p = nI (48 + dv F p) ∧ dv F p ≤ 9 := by
  have h48 : (48 : Int32).toInt = 48 := by decide
  have h57 : (57 : Int32).toInt = 57 := by decide
  have h0 : (0 : Int32).toInt = 0 := by decide
  have a1 := h.1
  have a2 := h.2
  rw [fa_lt, h48] at a1
  rw [fa_lt, h57] at a2
  obtain ⟨j, hj, e⟩ := nI_of (x := F p) (by rw [fa_lt, h0]; omega)
  rw [e, nI_toInt hj] at a1 a2
  have e2 : dv F p = j - 48 := by unfold dv; rw [e, nI_clamp hj]
  refine ⟨?_, by omega⟩
  rw [e2, e]
  congr 1
  omega
theorem dgL_dig (F : Nat → Int32) (p : Nat) : ∀ (r e i : Nat), e ≤ i → i < dgL F p r e → ¬ F (p + i) < 48 ∧ ¬ 57 < F (p + i)
  | 0, e, i, h1, h2 => by
    unfold dgL at h2
    omega
  | r + 1, e, i, h1, h2 => by
    unfold dgL at h2
    by_cases c : ¬ F (p + e) < 48 ∧ ¬ 57 < F (p + e)
    · rw [if_pos c] at h2
      by_cases q : i = e
      · rw [q]; exact c
      · exact dgL_dig F p r (e + 1) i (by omega) h2
    · rw [if_neg c] at h2
      omega
theorem Dg_dgC (F : Nat → Int32) (p : Nat) : Dg F (p + 1) (dgC F p) := fun i hi => dgL_dig F (p + 1) _ 0 i (Nat.zero_le _) hi
def vS (F : Nat → Int32) (q : Nat) : Nat → Nat → Nat → Nat
  | 0, _, a => a
  | r + 1, i, a => vS F q r (i + 1) (a ||| 2 ^ dv F (q + i))
def caR (F : Nat → Int32) (q : Nat) : Nat → Nat → Nat → Int32
  | 0, _, a => nI a
  | r + 1, i, a => if dv F (q + i) < 8 then caR F q r (i + 1) (a ||| 2 ^ dv F (q + i)) else -1
theorem vS_ge (F : Nat → Int32) (q : Nat) : ∀ (r i a : Nat), a ≤ vS F q r i a
  | 0, _, _ => Nat.le_refl _
  | r + 1, i, a => Nat.le_trans Nat.left_le_or (vS_ge F q r (i + 1) _)
theorem ca_vS (F : Nat → Int32) (q : Nat) : ∀ (r i a : Nat), a < 256 → caR F q r i a = if vS F q r i a < 256 then nI (vS F q r i a) else -1
  | 0, _, a, h => by
    show nI a = if a < 256 then nI a else -1
    rw [if_pos h]
  | r + 1, i, a, h => by
    unfold caR vS
    by_cases c : dv F (q + i) < 8
    · rw [if_pos c]
      exact ca_vS F q r (i + 1) _ (zor8 h (zp8 _ c))
    · rw [if_neg c]
      have h1 : 2 ^ 8 ≤ 2 ^ dv F (q + i) := Nat.pow_le_pow_right (show 0 < 2 by decide) (show 8 ≤ dv F (q + i) by omega)
      have h2 := vS_ge F q r (i + 1) (a ||| 2 ^ dv F (q + i))
      have h3 : 2 ^ dv F (q + i) ≤ a ||| 2 ^ dv F (q + i) := Nat.right_le_or
      rw [if_neg (by omega)]
def nvL (F : Nat → Int32) (q : Nat) : Nat → Nat → Nat → Nat
  | 0, _, a => a
  | r + 1, i, a => nvL F q r (i + 1) (a * 10 + dv F (q + i))
set_option maxHeartbeats 4000000 in
set_option maxRecDepth 100000 in
theorem l_ca {Z : zS} {d : Nat} {hd th : zHd} {hi : Int32} {f : Nat → Int32} {n : Nat} {sh : zSh} {tp : zTs} {R : zW} {q e : Nat} (hn : n ≤ 100) (hq : q < 1000) (he : e ≤ 8) (hD : Dg (zFs f n) q e) : ∀ (r i a : Nat), i + r = e → a < 256 → zG Z M_X6_cornersAt (d + 1) (fun r1 w1 => r1 = [.int (caR (zFs f n) q r i a)] ∧ w1 = (wX hd th hi (f, nI n) sh tp ++ R)) (R.length + 41) 5 [(0, .ref 21), (1, .int (nI q)), (2, .int (nI e)), (3, .int (nI a)), (4, .int (nI i))] [] (wX hd th hi (f, nI n) sh tp ++ R) := by
  intro r
  induction r with
  | zero =>
    intro i a hir ha
    have hir : i = e := by omega
    subst hir
    refine s_iload dX6_cornersAt_5 rfl ?_
    refine s_iload_n dX6_cornersAt_7 rfl ?_
    refine s_icmp_ge (tgt := 47) dX6_cornersAt_8 (by decide) (fun hz => ?_) (fun hqz => absurd (nI_le (Nat.le_refl _) (by omega)) hqz)
    clear hz
    refine s_iload_n dX6_cornersAt_47 rfl ?_
    exact s_iret dX6_cornersAt_48 rfl ⟨rfl, rfl⟩ (by first | (simp only [List.length_set]; exact wXlen) | exact wXlen | rfl)
  | succ r ih =>
    intro i a hir ha
    have hm : i < e := by omega
    obtain ⟨e1, e2⟩ := zdig (hD i hm)
    rw [caR]
    generalize dv (zFs f n) (q + i) = t at *
    have e3 : nI (48 + t) - 48 = nI t := by rw [show (48 : Int32) = nI 48 from rfl, pk_sub (by omega), Nat.add_sub_cancel_left]
    by_cases h8 : t < 8
    · rw [if_pos h8]
      refine s_iload dX6_cornersAt_5 rfl ?_
      refine s_iload_n dX6_cornersAt_7 rfl ?_
      refine s_icmp_ge (tgt := 47) dX6_cornersAt_8 (by decide) (fun hqz => absurd hqz (nI_ge hm (by omega))) (fun hz => ?_)
      clear hz
      refine s_aload_n dX6_cornersAt_11 rfl ?_
      refine s_iload_n dX6_cornersAt_12 rfl ?_
      refine s_iload dX6_cornersAt_13 rfl ?_
      refine s_iadd dX6_cornersAt_15 ?_
      rw [nI_add]
      refine s_cv1 dX6_cornersAt_16 g_X6_19 (c_signAt hn (by omega)) (by rfl) rfl rfl rfl rfl (Nat.le_of_ble_eq_true rfl) (Nat.le_of_ble_eq_true rfl) rfl ?_
      rw [e1]
      refine s_bipush (v := 48) dX6_cornersAt_19 rfl ?_
      refine s_isub dX6_cornersAt_21 ?_
      rw [e3]
      refine s_istore dX6_cornersAt_22 (Nat.le_of_ble_eq_true rfl) rfl ?_
      refine s_iload dX6_cornersAt_24 rfl ?_
      refine s_cs1 dX6_cornersAt_26 g_X6_69 (c_X7_isCorner) rfl rfl (Nat.le_of_ble_eq_true rfl) (Nat.le_of_ble_eq_true rfl) rfl ?_
      refine s_if_ne (tgt := 34) dX6_cornersAt_29 (by decide) (fun hz => ?_) (fun hqz => absurd hqz (zrY (n := 8) h8 (by decide)))
      clear hz
      refine s_iload_n dX6_cornersAt_34 rfl ?_
      refine s_iconst (v := 1) dX6_cornersAt_35 rfl ?_
      refine s_iload dX6_cornersAt_36 rfl ?_
      refine s_ishl dX6_cornersAt_38 ?_
      refine s_ior dX6_cornersAt_39 ?_
      refine s_istore_n dX6_cornersAt_40 (Nat.le_of_ble_eq_true rfl) rfl ?_
      refine s_iinc (nI (i + 1)) dX6_cornersAt_41 rfl (nI_1 _) (Nat.le_of_ble_eq_true rfl) rfl ?_
      refine s_goto (tgt := 5) dX6_cornersAt_44 (by decide) ?_
      rw [zsh8 t (by omega), fa_or]
      refine s_take 5 ?_
      exact ih (i + 1) _ (by omega) (zor8 ha (zp8 t h8))
    · rw [if_neg h8]
      refine s_iload dX6_cornersAt_5 rfl ?_
      refine s_iload_n dX6_cornersAt_7 rfl ?_
      refine s_icmp_ge (tgt := 47) dX6_cornersAt_8 (by decide) (fun hqz => absurd hqz (nI_ge hm (by omega))) (fun hz => ?_)
      clear hz
      refine s_aload_n dX6_cornersAt_11 rfl ?_
      refine s_iload_n dX6_cornersAt_12 rfl ?_
      refine s_iload dX6_cornersAt_13 rfl ?_
      refine s_iadd dX6_cornersAt_15 ?_
      rw [nI_add]
      refine s_cv1 dX6_cornersAt_16 g_X6_19 (c_signAt hn (by omega)) (by rfl) rfl rfl rfl rfl (Nat.le_of_ble_eq_true rfl) (Nat.le_of_ble_eq_true rfl) rfl ?_
      rw [e1]
      refine s_bipush (v := 48) dX6_cornersAt_19 rfl ?_
      refine s_isub dX6_cornersAt_21 ?_
      rw [e3]
      refine s_istore dX6_cornersAt_22 (Nat.le_of_ble_eq_true rfl) rfl ?_
      refine s_iload dX6_cornersAt_24 rfl ?_
      refine s_cs1 dX6_cornersAt_26 g_X6_69 (c_X7_isCorner) rfl rfl (Nat.le_of_ble_eq_true rfl) (Nat.le_of_ble_eq_true rfl) rfl ?_
      refine s_if_ne (tgt := 34) dX6_cornersAt_29 (by decide) (fun hqz => absurd (zrN (Or.inr (nI_le (show 8 ≤ t by omega) (by omega)))) hqz) (fun hz => ?_)
      clear hz
      refine s_iconst (v := (-1)) dX6_cornersAt_32 rfl ?_
      exact s_iret dX6_cornersAt_33 rfl ⟨rfl, rfl⟩ (by first | (simp only [List.length_set]; exact wXlen) | exact wXlen | rfl)
set_option maxHeartbeats 4000000 in
set_option maxRecDepth 100000 in
theorem c_ca {Z : zS} {d : Nat} {hd th : zHd} {hi : Int32} {f : Nat → Int32} {n : Nat} {sh : zSh} {tp : zTs} {R : zW} {q e : Nat} (hn : n ≤ 100) (hq : q < 1000) (he : e ≤ 8) (hD : Dg (zFs f n) q e) : zF Z M_X6_cornersAt (d + 1) [.ref 21, .int (nI q), .int (nI e)] (wX hd th hi (f, nI n) sh tp ++ R) [.int (caR (zFs f n) q e 0 0)] (wX hd th hi (f, nI n) sh tp ++ R) := by
  unfold zF
  rw [wXlen]
  show zG Z M_X6_cornersAt (d + 1) _ (R.length + 41) 0 [(0, .ref 21), (1, .int (nI q)), (2, .int (nI e))] [] (wX hd th hi (f, nI n) sh tp ++ R)
  refine s_iconst (v := 0) dX6_cornersAt_0 rfl ?_
  refine s_istore_n dX6_cornersAt_1 (Nat.le_of_ble_eq_true rfl) rfl ?_
  refine s_iconst (v := 0) dX6_cornersAt_2 rfl ?_
  refine s_istore dX6_cornersAt_3 (Nat.le_of_ble_eq_true rfl) rfl ?_
  exact l_ca hn hq he hD e 0 0 (by omega) (by decide)
set_option maxHeartbeats 4000000 in
set_option maxRecDepth 100000 in
theorem l_nv {Z : zS} {d : Nat} {hd th : zHd} {hi : Int32} {f : Nat → Int32} {n : Nat} {sh : zSh} {tp : zTs} {R : zW} {q e : Nat} (hn : n ≤ 100) (hq : q < 1000) (he : e ≤ 8) (hD : Dg (zFs f n) q e) : ∀ (r i a : Nat), i + r = e → zG Z M_X6_numberAt (d + 1) (fun r1 w1 => r1 = [.int (nI (nvL (zFs f n) q r i a))] ∧ w1 = (wX hd th hi (f, nI n) sh tp ++ R)) (R.length + 41) 5 [(0, .ref 21), (1, .int (nI q)), (2, .int (nI e)), (3, .int (nI a)), (4, .int (nI i))] [] (wX hd th hi (f, nI n) sh tp ++ R) := by
  intro r
  induction r with
  | zero =>
    intro i a hir
    have hir : i = e := by omega
    subst hir
    refine s_iload dX6_numberAt_5 rfl ?_
    refine s_iload_n dX6_numberAt_7 rfl ?_
    refine s_icmp_ge (tgt := 34) dX6_numberAt_8 (by decide) (fun hz => ?_) (fun hqz => absurd (nI_le (Nat.le_refl _) (by omega)) hqz)
    clear hz
    refine s_iload_n dX6_numberAt_34 rfl ?_
    exact s_iret dX6_numberAt_35 rfl ⟨rfl, rfl⟩ (by first | (simp only [List.length_set]; exact wXlen) | exact wXlen | rfl)
  | succ r ih =>
    intro i a hir
    have hm : i < e := by omega
    obtain ⟨e1, e2⟩ := zdig (hD i hm)
    rw [nvL]
    generalize dv (zFs f n) (q + i) = t at *
    have e3 : nI a * 10 + nI (48 + t) - 48 = nI (a * 10 + t) := by
      rw [show (10 : Int32) = nI 10 from rfl, show (48 : Int32) = nI 48 from rfl, pk_mul, nI_add, pk_sub (by omega)]
      congr 1
      omega
    refine s_iload dX6_numberAt_5 rfl ?_
    refine s_iload_n dX6_numberAt_7 rfl ?_
    refine s_icmp_ge (tgt := 34) dX6_numberAt_8 (by decide) (fun hqz => absurd hqz (nI_ge hm (by omega))) (fun hz => ?_)
    clear hz
    refine s_iload_n dX6_numberAt_11 rfl ?_
    refine s_bipush (v := 10) dX6_numberAt_12 rfl ?_
    refine s_imul dX6_numberAt_14 ?_
    refine s_aload_n dX6_numberAt_15 rfl ?_
    refine s_iload_n dX6_numberAt_16 rfl ?_
    refine s_iload dX6_numberAt_17 rfl ?_
    refine s_iadd dX6_numberAt_19 ?_
    rw [nI_add]
    refine s_cv1 dX6_numberAt_20 g_X6_19 (c_signAt hn (by omega)) (by rfl) rfl rfl rfl rfl (Nat.le_of_ble_eq_true rfl) (Nat.le_of_ble_eq_true rfl) rfl ?_
    rw [e1]
    refine s_iadd dX6_numberAt_23 ?_
    refine s_bipush (v := 48) dX6_numberAt_24 rfl ?_
    refine s_isub dX6_numberAt_26 ?_
    rw [e3]
    refine s_istore_n dX6_numberAt_27 (Nat.le_of_ble_eq_true rfl) rfl ?_
    refine s_iinc (nI (i + 1)) dX6_numberAt_28 rfl (nI_1 _) (Nat.le_of_ble_eq_true rfl) rfl ?_
    refine s_goto (tgt := 5) dX6_numberAt_31 (by decide) ?_
    exact ih (i + 1) _ (by omega)
set_option maxHeartbeats 4000000 in
set_option maxRecDepth 100000 in
theorem c_nv {Z : zS} {d : Nat} {hd th : zHd} {hi : Int32} {f : Nat → Int32} {n : Nat} {sh : zSh} {tp : zTs} {R : zW} {q e : Nat} (hn : n ≤ 100) (hq : q < 1000) (he : e ≤ 8) (hD : Dg (zFs f n) q e) : zF Z M_X6_numberAt (d + 1) [.ref 21, .int (nI q), .int (nI e)] (wX hd th hi (f, nI n) sh tp ++ R) [.int (nI (nvL (zFs f n) q e 0 0))] (wX hd th hi (f, nI n) sh tp ++ R) := by
  unfold zF
  rw [wXlen]
  show zG Z M_X6_numberAt (d + 1) _ (R.length + 41) 0 [(0, .ref 21), (1, .int (nI q)), (2, .int (nI e))] [] (wX hd th hi (f, nI n) sh tp ++ R)
  refine s_iconst (v := 0) dX6_numberAt_0 rfl ?_
  refine s_istore_n dX6_numberAt_1 (Nat.le_of_ble_eq_true rfl) rfl ?_
  refine s_iconst (v := 0) dX6_numberAt_2 rfl ?_
  refine s_istore dX6_numberAt_3 (Nat.le_of_ble_eq_true rfl) rfl ?_
  exact l_nv hn hq he hD e 0 0 (by omega)
theorem q_cl2 : ∀ b, b < 256 → ∀ v, v < 256 → nI b &&& (nI v ^^^ (-1)) = nI (b &&& (255 ^^^ v)) := by decide +kernel
set_option maxHeartbeats 4000000 in
set_option maxRecDepth 100000 in
theorem c_pc0 {Z : zS} {d : Nat} {b k : Nat} {rs re rb : zRw} {th : zHd} {hi : Int32} {f : Nat → Int32} {n : Nat} {sh : zSh} {tp : zTs} {R : zW} {a : Int32} : zF Z M_X6_performCorners (d) [.ref 1, .int a, .int (-1)] (wX (nI b, nI k, rs, re, rb) th hi (f, nI n) sh tp ++ R) [.int 0] (wX (nI b, nI k, rs, re, rb) th hi (f, nI n) sh tp ++ R) := by
  unfold zF
  rw [wXlen]
  show zG Z M_X6_performCorners (d) _ (R.length + 41) 0 [(0, .ref 1), (1, .int a), (2, .int (-1))] [] (wX (nI b, nI k, rs, re, rb) th hi (f, nI n) sh tp ++ R)
  refine s_iload_n dX6_performCorners_0 rfl ?_
  refine s_iconst (v := (-1)) dX6_performCorners_1 rfl ?_
  refine s_icmp_ne (tgt := 7) dX6_performCorners_2 (by decide) (fun hqz => absurd rfl hqz) (fun hz => ?_)
  clear hz
  refine s_iconst (v := 0) dX6_performCorners_5 rfl ?_
  exact s_zret dX6_performCorners_6 rfl (by first | exact Or.inl rfl | exact Or.inr rfl) ⟨rfl, rfl⟩ (by first | (simp only [List.length_set]; exact wXlen) | exact wXlen | rfl)
set_option maxHeartbeats 4000000 in
set_option maxRecDepth 100000 in
theorem c_pc1 {Z : zS} {d : Nat} {b k : Nat} {rs re rb : zRw} {th : zHd} {hi : Int32} {f : Nat → Int32} {n : Nat} {sh : zSh} {tp : zTs} {R : zW} {v : Nat} (hv : v < 256) : zF Z M_X6_performCorners (d) [.ref 1, .int 1, .int (nI v)] (wX (nI b, nI k, rs, re, rb) th hi (f, nI n) sh tp ++ R) [.int 1] (wX (nI (b ||| v), nI k, rs, re, rb) th hi (f, nI n) sh tp ++ R) := by
  unfold zF
  rw [wXlen]
  show zG Z M_X6_performCorners (d) _ (R.length + 41) 0 [(0, .ref 1), (1, .int 1), (2, .int (nI v))] [] (wX (nI b, nI k, rs, re, rb) th hi (f, nI n) sh tp ++ R)
  refine s_iload_n dX6_performCorners_0 rfl ?_
  refine s_iconst (v := (-1)) dX6_performCorners_1 rfl ?_
  refine s_icmp_ne (tgt := 7) dX6_performCorners_2 (by decide) (fun hz => ?_) (fun hqz => absurd hqz (znm (by omega)))
  clear hz
  refine s_aload_n dX6_performCorners_7 rfl ?_
  refine s_iload_n dX6_performCorners_8 rfl ?_
  refine s_if_eq (tgt := 21) dX6_performCorners_9 (by decide) (fun hqz => absurd hqz (by decide)) (fun hz => ?_)
  clear hz
  refine s_aload_n dX6_performCorners_12 rfl ?_
  refine s_get dX6_performCorners_13 f_X6_54 (by rfl) (by rfl) ?_
  refine s_iload_n dX6_performCorners_16 rfl ?_
  refine s_ior dX6_performCorners_17 ?_
  refine s_goto (tgt := 29) dX6_performCorners_18 (by decide) ?_
  refine s_put dX6_performCorners_29 f_X6_54 (by rfl) (fun _ => ⟨rfl, rfl⟩) (Nat.le_of_ble_eq_true rfl) ?_
  refine s_iconst (v := 1) dX6_performCorners_32 rfl ?_
  exact s_zret dX6_performCorners_33 rfl (by first | exact Or.inl rfl | exact Or.inr rfl) ⟨rfl, by rw [fa_or]; rfl⟩ (by first | (simp only [List.length_set]; exact wXlen) | exact wXlen | rfl)
set_option maxHeartbeats 4000000 in
set_option maxRecDepth 100000 in
theorem c_pc2 {Z : zS} {d : Nat} {b k : Nat} {rs re rb : zRw} {th : zHd} {hi : Int32} {f : Nat → Int32} {n : Nat} {sh : zSh} {tp : zTs} {R : zW} {v : Nat} (hb : b < 256) (hv : v < 256) : zF Z M_X6_performCorners (d) [.ref 1, .int 0, .int (nI v)] (wX (nI b, nI k, rs, re, rb) th hi (f, nI n) sh tp ++ R) [.int 1] (wX (nI (b &&& (255 ^^^ v)), nI k, rs, re, rb) th hi (f, nI n) sh tp ++ R) := by
  unfold zF
  rw [wXlen]
  show zG Z M_X6_performCorners (d) _ (R.length + 41) 0 [(0, .ref 1), (1, .int 0), (2, .int (nI v))] [] (wX (nI b, nI k, rs, re, rb) th hi (f, nI n) sh tp ++ R)
  refine s_iload_n dX6_performCorners_0 rfl ?_
  refine s_iconst (v := (-1)) dX6_performCorners_1 rfl ?_
  refine s_icmp_ne (tgt := 7) dX6_performCorners_2 (by decide) (fun hz => ?_) (fun hqz => absurd hqz (znm (by omega)))
  clear hz
  refine s_aload_n dX6_performCorners_7 rfl ?_
  refine s_iload_n dX6_performCorners_8 rfl ?_
  refine s_if_eq (tgt := 21) dX6_performCorners_9 (by decide) (fun hz => ?_) (fun hqz => absurd rfl hqz)
  clear hz
  refine s_aload_n dX6_performCorners_21 rfl ?_
  refine s_get dX6_performCorners_22 f_X6_54 (by rfl) (by rfl) ?_
  refine s_iload_n dX6_performCorners_25 rfl ?_
  refine s_iconst (v := (-1)) dX6_performCorners_26 rfl ?_
  refine s_ixor dX6_performCorners_27 ?_
  refine s_iand dX6_performCorners_28 ?_
  refine s_put dX6_performCorners_29 f_X6_54 (by rfl) (fun _ => ⟨rfl, rfl⟩) (Nat.le_of_ble_eq_true rfl) ?_
  refine s_iconst (v := 1) dX6_performCorners_32 rfl ?_
  exact s_zret dX6_performCorners_33 rfl (by first | exact Or.inl rfl | exact Or.inr rfl) ⟨rfl, by rw [q_cl2 b hb v hv]; rfl⟩ (by first | (simp only [List.length_set]; exact wXlen) | exact wXlen | rfl)
set_option maxHeartbeats 4000000 in
set_option maxRecDepth 100000 in
theorem c_pm0 {Z : zS} {d : Nat} {b k : Nat} {rs re rb : zRw} {th : zHd} {hi : Int32} {f : Nat → Int32} {n : Nat} {sh : zSh} {tp : zTs} {R : zW} {v : Nat} (hv : 48 ≤ v) (hv2 : v < 2 ^ 31) : zF Z M_X6_performMove (d + 1) [.ref 1, .int (nI v)] (wX (nI b, nI k, rs, re, rb) th hi (f, nI n) sh tp ++ R) [.int 0] (wX (nI b, nI k, rs, re, rb) th hi (f, nI n) sh tp ++ R) := by
  unfold zF
  rw [wXlen]
  show zG Z M_X6_performMove (d + 1) _ (R.length + 41) 0 [(0, .ref 1), (1, .int (nI v))] [] (wX (nI b, nI k, rs, re, rb) th hi (f, nI n) sh tp ++ R)
  refine s_iload_n dX6_performMove_0 rfl ?_
  refine s_cs1 dX6_performMove_1 g_X6_60 (c_X7_isMove) rfl rfl (Nat.le_of_ble_eq_true rfl) (Nat.le_of_ble_eq_true rfl) rfl ?_
  refine s_if_ne (tgt := 9) dX6_performMove_4 (by decide) (fun hqz => absurd (zrN (Or.inr (nI_le hv hv2))) hqz) (fun hz => ?_)
  clear hz
  refine s_iconst (v := 0) dX6_performMove_7 rfl ?_
  exact s_zret dX6_performMove_8 rfl (by first | exact Or.inl rfl | exact Or.inr rfl) ⟨rfl, rfl⟩ (by first | (simp only [List.length_set]; exact wXlen) | exact wXlen | rfl)
set_option maxHeartbeats 4000000 in
set_option maxRecDepth 100000 in
theorem c_pm1 {Z : zS} {d : Nat} {b k : Nat} {rs re rb : zRw} {th : zHd} {hi : Int32} {f : Nat → Int32} {n : Nat} {sh : zSh} {tp : zTs} {R : zW} {v : Nat} (hb : b < 256) (hv : v < 48) : zF Z M_X6_performMove (d + 2) [.ref 1, .int (nI v)] (wX (nI b, nI k, rs, re, rb) th hi (f, nI n) sh tp ++ R) [.int 1] (wX (nI (pIMG v b), nI k, rs, re, rb) th hi (f, nI n) sh tp ++ R) := by
  unfold zF
  rw [wXlen]
  show zG Z M_X6_performMove (d + 2) _ (R.length + 41) 0 [(0, .ref 1), (1, .int (nI v))] [] (wX (nI b, nI k, rs, re, rb) th hi (f, nI n) sh tp ++ R)
  refine s_iload_n dX6_performMove_0 rfl ?_
  refine s_cs1 dX6_performMove_1 g_X6_60 (c_X7_isMove) rfl rfl (Nat.le_of_ble_eq_true rfl) (Nat.le_of_ble_eq_true rfl) rfl ?_
  refine s_if_ne (tgt := 9) dX6_performMove_4 (by decide) (fun hz => ?_) (fun hqz => absurd hqz (zrY (n := 48) hv (by decide)))
  clear hz
  refine s_aload_n dX6_performMove_9 rfl ?_
  refine s_iload_n dX6_performMove_10 rfl ?_
  refine s_aload_n dX6_performMove_11 rfl ?_
  refine s_get dX6_performMove_12 f_X6_54 (by rfl) (by rfl) ?_
  refine s_cs1 dX6_performMove_15 g_X6_64 (c_X1_imageBy hv hb) rfl rfl (Nat.le_of_ble_eq_true rfl) (Nat.le_of_ble_eq_true rfl) rfl ?_
  refine s_put dX6_performMove_18 f_X6_54 (by rfl) (fun _ => ⟨rfl, rfl⟩) (Nat.le_of_ble_eq_true rfl) ?_
  refine s_iconst (v := 1) dX6_performMove_21 rfl ?_
  exact s_zret dX6_performMove_22 rfl (by first | exact Or.inl rfl | exact Or.inr rfl) ⟨rfl, rfl⟩ (by first | (simp only [List.length_set]; exact wXlen) | exact wXlen | rfl)
/-- a clause done: the body, the kept one, 1 if it was done -/
def doC (F : Nat → Int32) (p b k : Nat) : Nat × Nat × Nat :=
  if F p = 43 then (if vS F (p + 1) (dgC F p) 0 0 < 256 then (b ||| vS F (p + 1) (dgC F p) 0 0, k, 1) else (b, k, 0))
  else if F p = 45 then (if vS F (p + 1) (dgC F p) 0 0 < 256 then (b &&& (255 ^^^ vS F (p + 1) (dgC F p) 0 0), k, 1) else (b, k, 0))
  else if F p = 102 then (pCHG 0 b k, k, 1)
  else if F p = 105 then (pCHG 3 b k, k, 1)
  else if F p = 107 then (b, b, 1)
  else if F p = 109 then (if nvL F (p + 1) (dgC F p) 0 0 < 48 then (pIMG (nvL F (p + 1) (dgC F p) 0 0) b, k, 1) else (b, k, 0))
  else if F p = 111 then (pCHG 1 b k, k, 1)
  else (pCHG 2 b k, k, 1)
theorem dv_le {F : Nat → Int32} {q e i : Nat} (hD : Dg F q e) (hi : i < e) : dv F (q + i) ≤ 9 := (zdig (hD i hi)).2
theorem nvL_le {F : Nat → Int32} {q e : Nat} (hD : Dg F q e) : ∀ (r i a : Nat), i + r = e → nvL F q r i a < (a + 1) * 10 ^ r
  | 0, _, a, _ => by show a < (a + 1) * 1; omega
  | r + 1, i, a, h => by
    have h1 := dv_le hD (show i < e by omega)
    have h2 := nvL_le hD r (i + 1) (a * 10 + dv F (q + i)) (by omega)
    unfold nvL
    refine Nat.lt_of_lt_of_le h2 ?_
    rw [Nat.pow_succ, Nat.mul_comm (10 ^ r) 10, ← Nat.mul_assoc]
    exact Nat.mul_le_mul_right _ (by omega)
set_option maxHeartbeats 4000000 in
set_option maxRecDepth 100000 in
theorem c_cl43 {Z : zS} {d : Nat} {b k : Nat} {rs re rb : zRw} {th : zHd} {hi : Int32} {f : Nat → Int32} {n : Nat} {sh : zSh} {tp : zTs} {R : zW} {p : Nat} (hn : n ≤ 100) (hp : p < 900) (hb : b < 256) (hk : k < 256) (hx : zFs f n p = nI 43) : zF Z M_X6_performClause (d + 4) [.ref 21, .ref 1, .int (nI 43), .int (nI (p + 1)), .int (nI (dgC (zFs f n) p))] (wX (nI b, nI k, rs, re, rb) th hi (f, nI n) sh tp ++ R) [.int (nI (doC (zFs f n) p b k).2.2)] (wX (nI (doC (zFs f n) p b k).1, nI (doC (zFs f n) p b k).2.1, rs, re, rb) th hi (f, nI n) sh tp ++ R) := by
  have hd8 := dgC_le (zFs f n) p
  unfold zF
  rw [wXlen]
  rw [doC, hx, if_pos (show nI 43 = 43 by decide)]
  by_cases hc : vS (zFs f n) (p + 1) (dgC (zFs f n) p) 0 0 < 256
  · rw [if_pos hc]
    dsimp only
    show zG Z M_X6_performClause (d + 4) _ (R.length + 41) 0 [(0, .ref 21), (1, .ref 1), (2, .int (nI 43)), (3, .int (nI (p + 1))), (4, .int (nI (dgC (zFs f n) p)))] [] (wX (nI b, nI k, rs, re, rb) th hi (f, nI n) sh tp ++ R)
    refine s_iload_n dX6_performClause_0 rfl ?_
    refine s_lookup (off := 75) (tgt := 76) dX6_performClause_1 (by decide) (by decide) (by decide) ?_
    refine s_aload_n dX6_performClause_76 rfl ?_
    refine s_iload_n dX6_performClause_77 rfl ?_
    refine s_bipush (v := 43) dX6_performClause_78 rfl ?_
    refine s_icmp_ne (tgt := 87) dX6_performClause_80 (by decide) (fun hqz => absurd rfl hqz) (fun hz => ?_)
    clear hz
    refine s_iconst (v := 1) dX6_performClause_83 rfl ?_
    refine s_goto (tgt := 88) dX6_performClause_84 (by decide) ?_
    refine s_aload_n dX6_performClause_88 rfl ?_
    refine s_iload_n dX6_performClause_89 rfl ?_
    refine s_iload dX6_performClause_90 rfl ?_
    refine s_cv1 dX6_performClause_92 g_X6_34 (c_ca hn (by omega) hd8 (Dg_dgC _ p)) (by rfl) rfl rfl rfl rfl (Nat.le_of_ble_eq_true rfl) (Nat.le_of_ble_eq_true rfl) rfl ?_
    rw [ca_vS _ _ _ _ _ (by decide), if_pos hc]
    refine s_cs1 dX6_performClause_95 g_X6_37 (c_pc1 hc) rfl rfl (Nat.le_of_ble_eq_true rfl) (Nat.le_of_ble_eq_true rfl) rfl ?_
    exact s_zret dX6_performClause_98 rfl (by first | exact Or.inl rfl | exact Or.inr rfl) ⟨rfl, rfl⟩ (by first | (simp only [List.length_set]; exact wXlen) | exact wXlen | rfl)
  · rw [if_neg hc]
    dsimp only
    show zG Z M_X6_performClause (d + 4) _ (R.length + 41) 0 [(0, .ref 21), (1, .ref 1), (2, .int (nI 43)), (3, .int (nI (p + 1))), (4, .int (nI (dgC (zFs f n) p)))] [] (wX (nI b, nI k, rs, re, rb) th hi (f, nI n) sh tp ++ R)
    refine s_iload_n dX6_performClause_0 rfl ?_
    refine s_lookup (off := 75) (tgt := 76) dX6_performClause_1 (by decide) (by decide) (by decide) ?_
    refine s_aload_n dX6_performClause_76 rfl ?_
    refine s_iload_n dX6_performClause_77 rfl ?_
    refine s_bipush (v := 43) dX6_performClause_78 rfl ?_
    refine s_icmp_ne (tgt := 87) dX6_performClause_80 (by decide) (fun hqz => absurd rfl hqz) (fun hz => ?_)
    clear hz
    refine s_iconst (v := 1) dX6_performClause_83 rfl ?_
    refine s_goto (tgt := 88) dX6_performClause_84 (by decide) ?_
    refine s_aload_n dX6_performClause_88 rfl ?_
    refine s_iload_n dX6_performClause_89 rfl ?_
    refine s_iload dX6_performClause_90 rfl ?_
    refine s_cv1 dX6_performClause_92 g_X6_34 (c_ca hn (by omega) hd8 (Dg_dgC _ p)) (by rfl) rfl rfl rfl rfl (Nat.le_of_ble_eq_true rfl) (Nat.le_of_ble_eq_true rfl) rfl ?_
    rw [ca_vS _ _ _ _ _ (by decide), if_neg hc]
    refine s_cs1 dX6_performClause_95 g_X6_37 (c_pc0) rfl rfl (Nat.le_of_ble_eq_true rfl) (Nat.le_of_ble_eq_true rfl) rfl ?_
    exact s_zret dX6_performClause_98 rfl (by first | exact Or.inl rfl | exact Or.inr rfl) ⟨rfl, rfl⟩ (by first | (simp only [List.length_set]; exact wXlen) | exact wXlen | rfl)
set_option maxHeartbeats 4000000 in
set_option maxRecDepth 100000 in
theorem c_cl45 {Z : zS} {d : Nat} {b k : Nat} {rs re rb : zRw} {th : zHd} {hi : Int32} {f : Nat → Int32} {n : Nat} {sh : zSh} {tp : zTs} {R : zW} {p : Nat} (hn : n ≤ 100) (hp : p < 900) (hb : b < 256) (hk : k < 256) (hx : zFs f n p = nI 45) : zF Z M_X6_performClause (d + 4) [.ref 21, .ref 1, .int (nI 45), .int (nI (p + 1)), .int (nI (dgC (zFs f n) p))] (wX (nI b, nI k, rs, re, rb) th hi (f, nI n) sh tp ++ R) [.int (nI (doC (zFs f n) p b k).2.2)] (wX (nI (doC (zFs f n) p b k).1, nI (doC (zFs f n) p b k).2.1, rs, re, rb) th hi (f, nI n) sh tp ++ R) := by
  have hd8 := dgC_le (zFs f n) p
  unfold zF
  rw [wXlen]
  rw [doC, hx, if_neg (show ¬ nI 45 = 43 by decide), if_pos (show nI 45 = 45 by decide)]
  by_cases hc : vS (zFs f n) (p + 1) (dgC (zFs f n) p) 0 0 < 256
  · rw [if_pos hc]
    dsimp only
    show zG Z M_X6_performClause (d + 4) _ (R.length + 41) 0 [(0, .ref 21), (1, .ref 1), (2, .int (nI 45)), (3, .int (nI (p + 1))), (4, .int (nI (dgC (zFs f n) p)))] [] (wX (nI b, nI k, rs, re, rb) th hi (f, nI n) sh tp ++ R)
    refine s_iload_n dX6_performClause_0 rfl ?_
    refine s_lookup (off := 75) (tgt := 76) dX6_performClause_1 (by decide) (by decide) (by decide) ?_
    refine s_aload_n dX6_performClause_76 rfl ?_
    refine s_iload_n dX6_performClause_77 rfl ?_
    refine s_bipush (v := 43) dX6_performClause_78 rfl ?_
    refine s_icmp_ne (tgt := 87) dX6_performClause_80 (by decide) (fun hz => ?_) (fun hqz => absurd hqz (by decide))
    clear hz
    refine s_iconst (v := 0) dX6_performClause_87 rfl ?_
    refine s_aload_n dX6_performClause_88 rfl ?_
    refine s_iload_n dX6_performClause_89 rfl ?_
    refine s_iload dX6_performClause_90 rfl ?_
    refine s_cv1 dX6_performClause_92 g_X6_34 (c_ca hn (by omega) hd8 (Dg_dgC _ p)) (by rfl) rfl rfl rfl rfl (Nat.le_of_ble_eq_true rfl) (Nat.le_of_ble_eq_true rfl) rfl ?_
    rw [ca_vS _ _ _ _ _ (by decide), if_pos hc]
    refine s_cs1 dX6_performClause_95 g_X6_37 (c_pc2 hb hc) rfl rfl (Nat.le_of_ble_eq_true rfl) (Nat.le_of_ble_eq_true rfl) rfl ?_
    exact s_zret dX6_performClause_98 rfl (by first | exact Or.inl rfl | exact Or.inr rfl) ⟨rfl, rfl⟩ (by first | (simp only [List.length_set]; exact wXlen) | exact wXlen | rfl)
  · rw [if_neg hc]
    dsimp only
    show zG Z M_X6_performClause (d + 4) _ (R.length + 41) 0 [(0, .ref 21), (1, .ref 1), (2, .int (nI 45)), (3, .int (nI (p + 1))), (4, .int (nI (dgC (zFs f n) p)))] [] (wX (nI b, nI k, rs, re, rb) th hi (f, nI n) sh tp ++ R)
    refine s_iload_n dX6_performClause_0 rfl ?_
    refine s_lookup (off := 75) (tgt := 76) dX6_performClause_1 (by decide) (by decide) (by decide) ?_
    refine s_aload_n dX6_performClause_76 rfl ?_
    refine s_iload_n dX6_performClause_77 rfl ?_
    refine s_bipush (v := 43) dX6_performClause_78 rfl ?_
    refine s_icmp_ne (tgt := 87) dX6_performClause_80 (by decide) (fun hz => ?_) (fun hqz => absurd hqz (by decide))
    clear hz
    refine s_iconst (v := 0) dX6_performClause_87 rfl ?_
    refine s_aload_n dX6_performClause_88 rfl ?_
    refine s_iload_n dX6_performClause_89 rfl ?_
    refine s_iload dX6_performClause_90 rfl ?_
    refine s_cv1 dX6_performClause_92 g_X6_34 (c_ca hn (by omega) hd8 (Dg_dgC _ p)) (by rfl) rfl rfl rfl rfl (Nat.le_of_ble_eq_true rfl) (Nat.le_of_ble_eq_true rfl) rfl ?_
    rw [ca_vS _ _ _ _ _ (by decide), if_neg hc]
    refine s_cs1 dX6_performClause_95 g_X6_37 (c_pc0) rfl rfl (Nat.le_of_ble_eq_true rfl) (Nat.le_of_ble_eq_true rfl) rfl ?_
    exact s_zret dX6_performClause_98 rfl (by first | exact Or.inl rfl | exact Or.inr rfl) ⟨rfl, rfl⟩ (by first | (simp only [List.length_set]; exact wXlen) | exact wXlen | rfl)
set_option maxHeartbeats 4000000 in
set_option maxRecDepth 100000 in
theorem c_cl102 {Z : zS} {d : Nat} {b k : Nat} {rs re rb : zRw} {th : zHd} {hi : Int32} {f : Nat → Int32} {n : Nat} {sh : zSh} {tp : zTs} {R : zW} {p : Nat} (hn : n ≤ 100) (hp : p < 900) (hb : b < 256) (hk : k < 256) (hx : zFs f n p = nI 102) : zF Z M_X6_performClause (d + 4) [.ref 21, .ref 1, .int (nI 102), .int (nI (p + 1)), .int (nI (dgC (zFs f n) p))] (wX (nI b, nI k, rs, re, rb) th hi (f, nI n) sh tp ++ R) [.int (nI (doC (zFs f n) p b k).2.2)] (wX (nI (doC (zFs f n) p b k).1, nI (doC (zFs f n) p b k).2.1, rs, re, rb) th hi (f, nI n) sh tp ++ R) := by
  have hd8 := dgC_le (zFs f n) p
  unfold zF
  rw [wXlen]
  rw [doC, hx, if_neg (show ¬ nI 102 = 43 by decide), if_neg (show ¬ nI 102 = 45 by decide), if_pos (show nI 102 = 102 by decide)]
  dsimp only
  show zG Z M_X6_performClause (d + 4) _ (R.length + 41) 0 [(0, .ref 21), (1, .ref 1), (2, .int (nI 102)), (3, .int (nI (p + 1))), (4, .int (nI (dgC (zFs f n) p)))] [] (wX (nI b, nI k, rs, re, rb) th hi (f, nI n) sh tp ++ R)
  refine s_iload_n dX6_performClause_0 rfl ?_
  refine s_lookup (off := 110) (tgt := 111) dX6_performClause_1 (by decide) (by decide) (by decide) ?_
  refine s_aload_n dX6_performClause_111 rfl ?_
  refine s_iconst (v := 0) dX6_performClause_112 rfl ?_
  refine s_cv0 dX6_performClause_113 g_X6_50 (c_X2_change (h := 0) (by rfl) hb (by decide)) (by rfl) rfl rfl rfl rfl (Nat.le_of_ble_eq_true rfl) (Nat.le_of_ble_eq_true rfl) rfl ?_
  refine s_iconst (v := 1) dX6_performClause_116 rfl ?_
  exact s_zret dX6_performClause_117 rfl (by first | exact Or.inl rfl | exact Or.inr rfl) ⟨rfl, rfl⟩ (by first | (simp only [List.length_set]; exact wXlen) | exact wXlen | rfl)
set_option maxHeartbeats 4000000 in
set_option maxRecDepth 100000 in
theorem c_cl105 {Z : zS} {d : Nat} {b k : Nat} {rs re rb : zRw} {th : zHd} {hi : Int32} {f : Nat → Int32} {n : Nat} {sh : zSh} {tp : zTs} {R : zW} {p : Nat} (hn : n ≤ 100) (hp : p < 900) (hb : b < 256) (hk : k < 256) (hx : zFs f n p = nI 105) : zF Z M_X6_performClause (d + 4) [.ref 21, .ref 1, .int (nI 105), .int (nI (p + 1)), .int (nI (dgC (zFs f n) p))] (wX (nI b, nI k, rs, re, rb) th hi (f, nI n) sh tp ++ R) [.int (nI (doC (zFs f n) p b k).2.2)] (wX (nI (doC (zFs f n) p b k).1, nI (doC (zFs f n) p b k).2.1, rs, re, rb) th hi (f, nI n) sh tp ++ R) := by
  have hd8 := dgC_le (zFs f n) p
  unfold zF
  rw [wXlen]
  rw [doC, hx, if_neg (show ¬ nI 105 = 43 by decide), if_neg (show ¬ nI 105 = 45 by decide), if_neg (show ¬ nI 105 = 102 by decide), if_pos (show nI 105 = 105 by decide)]
  dsimp only
  show zG Z M_X6_performClause (d + 4) _ (R.length + 41) 0 [(0, .ref 21), (1, .ref 1), (2, .int (nI 105)), (3, .int (nI (p + 1))), (4, .int (nI (dgC (zFs f n) p)))] [] (wX (nI b, nI k, rs, re, rb) th hi (f, nI n) sh tp ++ R)
  refine s_iload_n dX6_performClause_0 rfl ?_
  refine s_lookup (off := 141) (tgt := 142) dX6_performClause_1 (by decide) (by decide) (by decide) ?_
  refine s_aload_n dX6_performClause_142 rfl ?_
  refine s_iconst (v := 3) dX6_performClause_143 rfl ?_
  refine s_cv0 dX6_performClause_144 g_X6_50 (c_X2_change (h := 3) (by rfl) hb (by decide)) (by rfl) rfl rfl rfl rfl (Nat.le_of_ble_eq_true rfl) (Nat.le_of_ble_eq_true rfl) rfl ?_
  refine s_iconst (v := 1) dX6_performClause_147 rfl ?_
  exact s_zret dX6_performClause_148 rfl (by first | exact Or.inl rfl | exact Or.inr rfl) ⟨rfl, rfl⟩ (by first | (simp only [List.length_set]; exact wXlen) | exact wXlen | rfl)
set_option maxHeartbeats 4000000 in
set_option maxRecDepth 100000 in
theorem c_cl111 {Z : zS} {d : Nat} {b k : Nat} {rs re rb : zRw} {th : zHd} {hi : Int32} {f : Nat → Int32} {n : Nat} {sh : zSh} {tp : zTs} {R : zW} {p : Nat} (hn : n ≤ 100) (hp : p < 900) (hb : b < 256) (hk : k < 256) (hx : zFs f n p = nI 111) : zF Z M_X6_performClause (d + 4) [.ref 21, .ref 1, .int (nI 111), .int (nI (p + 1)), .int (nI (dgC (zFs f n) p))] (wX (nI b, nI k, rs, re, rb) th hi (f, nI n) sh tp ++ R) [.int (nI (doC (zFs f n) p b k).2.2)] (wX (nI (doC (zFs f n) p b k).1, nI (doC (zFs f n) p b k).2.1, rs, re, rb) th hi (f, nI n) sh tp ++ R) := by
  have hd8 := dgC_le (zFs f n) p
  unfold zF
  rw [wXlen]
  rw [doC, hx, if_neg (show ¬ nI 111 = 43 by decide), if_neg (show ¬ nI 111 = 45 by decide), if_neg (show ¬ nI 111 = 102 by decide), if_neg (show ¬ nI 111 = 105 by decide), if_neg (show ¬ nI 111 = 107 by decide), if_neg (show ¬ nI 111 = 109 by decide), if_pos (show nI 111 = 111 by decide)]
  dsimp only
  show zG Z M_X6_performClause (d + 4) _ (R.length + 41) 0 [(0, .ref 21), (1, .ref 1), (2, .int (nI 111)), (3, .int (nI (p + 1))), (4, .int (nI (dgC (zFs f n) p)))] [] (wX (nI b, nI k, rs, re, rb) th hi (f, nI n) sh tp ++ R)
  refine s_iload_n dX6_performClause_0 rfl ?_
  refine s_lookup (off := 117) (tgt := 118) dX6_performClause_1 (by decide) (by decide) (by decide) ?_
  refine s_aload_n dX6_performClause_118 rfl ?_
  refine s_iconst (v := 1) dX6_performClause_119 rfl ?_
  refine s_cv0 dX6_performClause_120 g_X6_50 (c_X2_change (h := 1) (by rfl) hb (by decide)) (by rfl) rfl rfl rfl rfl (Nat.le_of_ble_eq_true rfl) (Nat.le_of_ble_eq_true rfl) rfl ?_
  refine s_iconst (v := 1) dX6_performClause_123 rfl ?_
  exact s_zret dX6_performClause_124 rfl (by first | exact Or.inl rfl | exact Or.inr rfl) ⟨rfl, rfl⟩ (by first | (simp only [List.length_set]; exact wXlen) | exact wXlen | rfl)
set_option maxHeartbeats 4000000 in
set_option maxRecDepth 100000 in
theorem c_cl117 {Z : zS} {d : Nat} {b k : Nat} {rs re rb : zRw} {th : zHd} {hi : Int32} {f : Nat → Int32} {n : Nat} {sh : zSh} {tp : zTs} {R : zW} {p : Nat} (hn : n ≤ 100) (hp : p < 900) (hb : b < 256) (hk : k < 256) (hx : zFs f n p = nI 117) : zF Z M_X6_performClause (d + 4) [.ref 21, .ref 1, .int (nI 117), .int (nI (p + 1)), .int (nI (dgC (zFs f n) p))] (wX (nI b, nI k, rs, re, rb) th hi (f, nI n) sh tp ++ R) [.int (nI (doC (zFs f n) p b k).2.2)] (wX (nI (doC (zFs f n) p b k).1, nI (doC (zFs f n) p b k).2.1, rs, re, rb) th hi (f, nI n) sh tp ++ R) := by
  have hd8 := dgC_le (zFs f n) p
  unfold zF
  rw [wXlen]
  rw [doC, hx, if_neg (show ¬ nI 117 = 43 by decide), if_neg (show ¬ nI 117 = 45 by decide), if_neg (show ¬ nI 117 = 102 by decide), if_neg (show ¬ nI 117 = 105 by decide), if_neg (show ¬ nI 117 = 107 by decide), if_neg (show ¬ nI 117 = 109 by decide), if_neg (show ¬ nI 117 = 111 by decide)]
  dsimp only
  show zG Z M_X6_performClause (d + 4) _ (R.length + 41) 0 [(0, .ref 21), (1, .ref 1), (2, .int (nI 117)), (3, .int (nI (p + 1))), (4, .int (nI (dgC (zFs f n) p)))] [] (wX (nI b, nI k, rs, re, rb) th hi (f, nI n) sh tp ++ R)
  refine s_iload_n dX6_performClause_0 rfl ?_
  refine s_lookup (off := 134) (tgt := 135) dX6_performClause_1 (by decide) (by decide) (by decide) ?_
  refine s_aload_n dX6_performClause_135 rfl ?_
  refine s_iconst (v := 2) dX6_performClause_136 rfl ?_
  refine s_cv0 dX6_performClause_137 g_X6_50 (c_X2_change (h := 2) (by rfl) hb (by decide)) (by rfl) rfl rfl rfl rfl (Nat.le_of_ble_eq_true rfl) (Nat.le_of_ble_eq_true rfl) rfl ?_
  refine s_iconst (v := 1) dX6_performClause_140 rfl ?_
  exact s_zret dX6_performClause_141 rfl (by first | exact Or.inl rfl | exact Or.inr rfl) ⟨rfl, rfl⟩ (by first | (simp only [List.length_set]; exact wXlen) | exact wXlen | rfl)
set_option maxHeartbeats 4000000 in
set_option maxRecDepth 100000 in
theorem c_cl107 {Z : zS} {d : Nat} {b k : Nat} {rs re rb : zRw} {th : zHd} {hi : Int32} {f : Nat → Int32} {n : Nat} {sh : zSh} {tp : zTs} {R : zW} {p : Nat} (hn : n ≤ 100) (hp : p < 900) (hb : b < 256) (hk : k < 256) (hx : zFs f n p = nI 107) : zF Z M_X6_performClause (d + 4) [.ref 21, .ref 1, .int (nI 107), .int (nI (p + 1)), .int (nI (dgC (zFs f n) p))] (wX (nI b, nI k, rs, re, rb) th hi (f, nI n) sh tp ++ R) [.int (nI (doC (zFs f n) p b k).2.2)] (wX (nI (doC (zFs f n) p b k).1, nI (doC (zFs f n) p b k).2.1, rs, re, rb) th hi (f, nI n) sh tp ++ R) := by
  have hd8 := dgC_le (zFs f n) p
  unfold zF
  rw [wXlen]
  rw [doC, hx, if_neg (show ¬ nI 107 = 43 by decide), if_neg (show ¬ nI 107 = 45 by decide), if_neg (show ¬ nI 107 = 102 by decide), if_neg (show ¬ nI 107 = 105 by decide), if_pos (show nI 107 = 107 by decide)]
  dsimp only
  show zG Z M_X6_performClause (d + 4) _ (R.length + 41) 0 [(0, .ref 21), (1, .ref 1), (2, .int (nI 107)), (3, .int (nI (p + 1))), (4, .int (nI (dgC (zFs f n) p)))] [] (wX (nI b, nI k, rs, re, rb) th hi (f, nI n) sh tp ++ R)
  refine s_iload_n dX6_performClause_0 rfl ?_
  refine s_lookup (off := 124) (tgt := 125) dX6_performClause_1 (by decide) (by decide) (by decide) ?_
  refine s_aload_n dX6_performClause_125 rfl ?_
  refine s_aload_n dX6_performClause_126 rfl ?_
  refine s_get dX6_performClause_127 f_X6_54 (by rfl) (by rfl) ?_
  refine s_put dX6_performClause_130 f_X6_57 (by rfl) (fun _ => ⟨rfl, rfl⟩) (Nat.le_of_ble_eq_true rfl) ?_
  refine s_iconst (v := 1) dX6_performClause_133 rfl ?_
  exact s_zret dX6_performClause_134 rfl (by first | exact Or.inl rfl | exact Or.inr rfl) ⟨rfl, rfl⟩ (by first | (simp only [List.length_set]; exact wXlen) | exact wXlen | rfl)
set_option maxHeartbeats 4000000 in
set_option maxRecDepth 100000 in
theorem c_cl109 {Z : zS} {d : Nat} {b k : Nat} {rs re rb : zRw} {th : zHd} {hi : Int32} {f : Nat → Int32} {n : Nat} {sh : zSh} {tp : zTs} {R : zW} {p : Nat} (hn : n ≤ 100) (hp : p < 900) (hb : b < 256) (hk : k < 256) (hx : zFs f n p = nI 109) : zF Z M_X6_performClause (d + 4) [.ref 21, .ref 1, .int (nI 109), .int (nI (p + 1)), .int (nI (dgC (zFs f n) p))] (wX (nI b, nI k, rs, re, rb) th hi (f, nI n) sh tp ++ R) [.int (nI (doC (zFs f n) p b k).2.2)] (wX (nI (doC (zFs f n) p b k).1, nI (doC (zFs f n) p b k).2.1, rs, re, rb) th hi (f, nI n) sh tp ++ R) := by
  have hd8 := dgC_le (zFs f n) p
  unfold zF
  rw [wXlen]
  rw [doC, hx, if_neg (show ¬ nI 109 = 43 by decide), if_neg (show ¬ nI 109 = 45 by decide), if_neg (show ¬ nI 109 = 102 by decide), if_neg (show ¬ nI 109 = 105 by decide), if_neg (show ¬ nI 109 = 107 by decide), if_pos (show nI 109 = 109 by decide)]
  by_cases hc : nvL (zFs f n) (p + 1) (dgC (zFs f n) p) 0 0 < 48
  · rw [if_pos hc]
    dsimp only
    show zG Z M_X6_performClause (d + 4) _ (R.length + 41) 0 [(0, .ref 21), (1, .ref 1), (2, .int (nI 109)), (3, .int (nI (p + 1))), (4, .int (nI (dgC (zFs f n) p)))] [] (wX (nI b, nI k, rs, re, rb) th hi (f, nI n) sh tp ++ R)
    refine s_iload_n dX6_performClause_0 rfl ?_
    refine s_lookup (off := 98) (tgt := 99) dX6_performClause_1 (by decide) (by decide) (by decide) ?_
    refine s_aload_n dX6_performClause_99 rfl ?_
    refine s_aload_n dX6_performClause_100 rfl ?_
    refine s_iload_n dX6_performClause_101 rfl ?_
    refine s_iload dX6_performClause_102 rfl ?_
    refine s_cv1 dX6_performClause_104 g_X6_41 (c_nv hn (by omega) hd8 (Dg_dgC _ p)) (by rfl) rfl rfl rfl rfl (Nat.le_of_ble_eq_true rfl) (Nat.le_of_ble_eq_true rfl) rfl ?_
    refine s_cs1 dX6_performClause_107 g_X6_44 (c_pm1 hb hc) rfl rfl (Nat.le_of_ble_eq_true rfl) (Nat.le_of_ble_eq_true rfl) rfl ?_
    exact s_zret dX6_performClause_110 rfl (by first | exact Or.inl rfl | exact Or.inr rfl) ⟨rfl, rfl⟩ (by first | (simp only [List.length_set]; exact wXlen) | exact wXlen | rfl)
  · rw [if_neg hc]
    dsimp only
    show zG Z M_X6_performClause (d + 4) _ (R.length + 41) 0 [(0, .ref 21), (1, .ref 1), (2, .int (nI 109)), (3, .int (nI (p + 1))), (4, .int (nI (dgC (zFs f n) p)))] [] (wX (nI b, nI k, rs, re, rb) th hi (f, nI n) sh tp ++ R)
    refine s_iload_n dX6_performClause_0 rfl ?_
    refine s_lookup (off := 98) (tgt := 99) dX6_performClause_1 (by decide) (by decide) (by decide) ?_
    refine s_aload_n dX6_performClause_99 rfl ?_
    refine s_aload_n dX6_performClause_100 rfl ?_
    refine s_iload_n dX6_performClause_101 rfl ?_
    refine s_iload dX6_performClause_102 rfl ?_
    refine s_cv1 dX6_performClause_104 g_X6_41 (c_nv hn (by omega) hd8 (Dg_dgC _ p)) (by rfl) rfl rfl rfl rfl (Nat.le_of_ble_eq_true rfl) (Nat.le_of_ble_eq_true rfl) rfl ?_
    refine s_cs1 dX6_performClause_107 g_X6_44 (c_pm0 (by omega) (by have h := nvL_le (Dg_dgC (zFs f n) p) (dgC (zFs f n) p) 0 0 (by omega); have h2 : 10 ^ dgC (zFs f n) p ≤ 10 ^ 8 := Nat.pow_le_pow_right (by decide) hd8; omega)) rfl rfl (Nat.le_of_ble_eq_true rfl) (Nat.le_of_ble_eq_true rfl) rfl ?_
    exact s_zret dX6_performClause_110 rfl (by first | exact Or.inl rfl | exact Or.inr rfl) ⟨rfl, rfl⟩ (by first | (simp only [List.length_set]; exact wXlen) | exact wXlen | rfl)
theorem zMD_key {x : Int32} (h : ¬ zMD x = -1) : x = 43 ∨ x = 45 ∨ x = 102 ∨ x = 105 ∨ x = 107 ∨ x = 109 ∨ x = 111 ∨ x = 117 := by
  refine Classical.byContradiction (fun q => h ?_)
  simp only [not_or] at q
  rw [zMD, if_neg q.1, if_neg q.2.1, if_neg q.2.2.1, if_neg q.2.2.2.1, if_neg q.2.2.2.2.1, if_neg q.2.2.2.2.2.1, if_neg q.2.2.2.2.2.2.1, if_neg q.2.2.2.2.2.2.2]
set_option maxHeartbeats 4000000 in
set_option maxRecDepth 100000 in
theorem c_clause {Z : zS} {d : Nat} {b k : Nat} {rs re rb : zRw} {th : zHd} {hi : Int32} {f : Nat → Int32} {n : Nat} {sh : zSh} {tp : zTs} {R : zW} {p : Nat} (hn : n ≤ 100) (hp : p < 900) (hb : b < 256) (hk : k < 256) (hx : ¬ zMD (zFs f n p) = -1) : zF Z M_X6_performClause (d + 4) [.ref 21, .ref 1, .int (zFs f n p), .int (nI (p + 1)), .int (nI (dgC (zFs f n) p))] (wX (nI b, nI k, rs, re, rb) th hi (f, nI n) sh tp ++ R) [.int (nI (doC (zFs f n) p b k).2.2)] (wX (nI (doC (zFs f n) p b k).1, nI (doC (zFs f n) p b k).2.1, rs, re, rb) th hi (f, nI n) sh tp ++ R) := by
  rcases zMD_key hx with h | h | h | h | h | h | h | h
  · rw [h]; exact c_cl43 hn hp hb hk h
  · rw [h]; exact c_cl45 hn hp hb hk h
  · rw [h]; exact c_cl102 hn hp hb hk h
  · rw [h]; exact c_cl105 hn hp hb hk h
  · rw [h]; exact c_cl107 hn hp hb hk h
  · rw [h]; exact c_cl109 hn hp hb hk h
  · rw [h]; exact c_cl111 hn hp hb hk h
  · rw [h]; exact c_cl117 hn hp hb hk h
