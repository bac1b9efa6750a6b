/-! ===== the class: a text performed; feed, read ===== -/
theorem doC_lt {F : Nat → Int32} {p b k : Nat} (hb : b < 256) (hk : k < 256) : (doC F p b k).1 < 256 ∧ (doC F p b k).2.1 < 256 ∧ (doC F p b k).2.2 ≤ 1 := by
  unfold doC
  by_cases h1 : F p = 43
  · rw [if_pos h1]
    by_cases c : vS F (p + 1) (dgC F p) 0 0 < 256
    · rw [if_pos c]; exact ⟨zor8 hb c, hk, Nat.le_refl _⟩
    · rw [if_neg c]; exact ⟨hb, hk, Nat.zero_le _⟩
  rw [if_neg h1]
  by_cases h2 : F p = 45
  · rw [if_pos h2]
    by_cases c : vS F (p + 1) (dgC F p) 0 0 < 256
    · rw [if_pos c]; exact ⟨zand8 hb, hk, Nat.le_refl _⟩
    · rw [if_neg c]; exact ⟨hb, hk, Nat.zero_le _⟩
  rw [if_neg h2]
  by_cases h3 : F p = 102
  · rw [if_pos h3]; have hq := pCHG_lt (h := 0) hb hk; generalize pCHG 0 b k = q at hq ⊢; exact ⟨hq, hk, Nat.le_refl _⟩
  rw [if_neg h3]
  by_cases h4 : F p = 105
  · rw [if_pos h4]; have hq := pCHG_lt (h := 3) hb hk; generalize pCHG 3 b k = q at hq ⊢; exact ⟨hq, hk, Nat.le_refl _⟩
  rw [if_neg h4]
  by_cases h5 : F p = 107
  · rw [if_pos h5]; exact ⟨hb, hb, Nat.le_refl _⟩
  rw [if_neg h5]
  by_cases h6 : F p = 109
  · rw [if_pos h6]
    by_cases c : nvL F (p + 1) (dgC F p) 0 0 < 48
    · rw [if_pos c]; exact ⟨pIMG_lt c b, hk, Nat.le_refl _⟩
    · rw [if_neg c]; exact ⟨hb, hk, Nat.zero_le _⟩
  rw [if_neg h6]
  by_cases h7 : F p = 111
  · rw [if_pos h7]; have hq := pCHG_lt (h := 1) hb hk; generalize pCHG 1 b k = q at hq ⊢; exact ⟨hq, hk, Nat.le_refl _⟩
  rw [if_neg h7]
  have hq := pCHG_lt (h := 2) hb hk; generalize pCHG 2 b k = q at hq ⊢; exact ⟨hq, hk, Nat.le_refl _⟩
def pfL (F : Nat → Int32) (n : Nat) : Nat → Nat → Nat × Nat × Nat → Nat × Nat × Nat
  | 0, _, σ => σ
  | r + 1, c, σ => if psC F c < n then pfL F n r (c + 1) ((doC F (psC F c) σ.1 σ.2.1).1, (doC F (psC F c) σ.1 σ.2.1).2.1, σ.2.2 + (doC F (psC F c) σ.1 σ.2.1).2.2) else σ
def CL (F : Nat → Int32) (n : Nat) : Nat → Nat → Prop
  | 0, _ => False
  | r + 1, c => ¬ zMD (F (psC F c)) = -1 ∧ ¬ (0 < cMD (F (psC F c)) ∧ dgC F (psC F c) = 0) ∧ (n ≤ psC F c + 1 + dgC F (psC F c) ∨ (¬ n ≤ psC F c + 1 + dgC F (psC F c) ∧ F (psC F c + 1 + dgC F (psC F c)) = 59 ∧ CL F n r (c + 1)))
theorem CL_of {F : Nat → Int32} {n : Nat} : ∀ (r c : Nat), 0 < c ∨ 0 < r → c + r ≤ 12 → ffL F n r c = -1 → CL F n r c
  | 0, c, h0, hc, h => by
    exfalso
    unfold ffL at h
    have h1 := psC_le F c
    have hp : 0 < psC F c := by
      cases c with
      | zero => omega
      | succ c => show 0 < psC F c + 1 + dgC F (psC F c) + 1; omega
    rw [show (1 : Int32) = nI 1 from rfl, pk_sub hp] at h
    exact znm (by omega) h
  | r + 1, c, h0, hc, h => by
    have h1 := psC_le F c
    have h2 := dgC_le F (psC F c)
    unfold ffL at h
    unfold CL
    by_cases c1 : zMD (F (psC F c)) = -1
    · rw [if_pos c1] at h
      exact absurd h (znm (by omega))
    rw [if_neg c1] at h
    by_cases c2 : 0 < cMD (F (psC F c)) ∧ dgC F (psC F c) = 0
    · rw [if_pos c2] at h
      exact absurd h (znm (by omega))
    rw [if_neg c2] at h
    refine ⟨c1, c2, ?_⟩
    by_cases c3 : n ≤ psC F c + 1 + dgC F (psC F c)
    · exact Or.inl c3
    rw [if_neg c3] at h
    by_cases c4 : F (psC F c + 1 + dgC F (psC F c)) = 59
    · rw [if_pos c4] at h
      exact Or.inr ⟨c3, c4, CL_of r (c + 1) (Or.inl (Nat.succ_pos _)) (by omega) h⟩
    · rw [if_neg c4] at h
      exact absurd h (znm (by omega))
set_option maxHeartbeats 4000000 in
set_option maxRecDepth 100000 in
theorem l_pf {Z : zS} {d : Nat} {rs re rb : zRw} {th : zHd} {hj : Int32} {f : Nat → Int32} {n : Nat} {sh : zSh} {tp : zTs} {R : zW} (hn : n ≤ 100) : ∀ (r c : Nat) (σ : Nat × Nat × Nat), c + r = 12 → (psC (zFs f n) c < n → CL (zFs f n) n r c) → σ.1 < 256 → σ.2.1 < 256 → σ.2.2 ≤ c → zG Z M_X6_perform (d + 5) (fun r1 w1 => r1 = [.int (nI (pfL (zFs f n) n r c σ).2.2)] ∧ w1 = (wX (nI (pfL (zFs f n) n r c σ).1, nI (pfL (zFs f n) n r c σ).2.1, rs, re, rb) th hj (f, nI n) sh tp ++ R)) (R.length + 41) 7 [(0, .ref 21), (1, .ref 1), (2, .int (nI σ.2.2)), (3, .int (nI (psC (zFs f n) c))), (4, .int (nI c))] [] (wX (nI σ.1, nI σ.2.1, rs, re, rb) th hj (f, nI n) sh tp ++ R) := by
  intro r
  induction r with
  | zero =>
    intro c σ hcr hC h1 h2 h3
    have hcr : c = 12 := by omega
    subst hcr
    refine s_iload dX6_perform_7 rfl ?_
    refine s_bipush (v := 12) dX6_perform_9 rfl ?_
    refine s_icmp_ge (tgt := 74) dX6_perform_11 (by decide) (fun hz => ?_) (fun hqz => absurd (by decide) hqz)
    clear hz
    refine s_iload_n dX6_perform_74 rfl ?_
    exact s_iret dX6_perform_75 rfl ⟨rfl, rfl⟩ (by first | (simp only [List.length_set]; exact wXlen) | exact wXlen | rfl)
  | succ r ih =>
    intro c σ hcr hC h1 h2 h3
    have hm : c < 12 := by omega
    have hps := psC_le (zFs f n) c
    by_cases hq : psC (zFs f n) c < n
    · have hc := hC hq
      unfold CL at hc
      obtain ⟨c1, c2, c3⟩ := hc
      have hd8 := dgC_le (zFs f n) (psC (zFs f n) c)
      have hv := (zMD_val (zFs f n (psC (zFs f n) c))).resolve_left c1
      have hlt := doC_lt (F := zFs f n) (p := psC (zFs f n) c) h1 h2
      have hdv : dgL (zFs f n) (psC (zFs f n) c + 1) (cMD (zFs f n (psC (zFs f n) c))) 0 = dgC (zFs f n) (psC (zFs f n) c) := rfl
      have K := ih (c + 1) ((doC (zFs f n) (psC (zFs f n) c) σ.1 σ.2.1).1, (doC (zFs f n) (psC (zFs f n) c) σ.1 σ.2.1).2.1, σ.2.2 + (doC (zFs f n) (psC (zFs f n) c) σ.1 σ.2.1).2.2) (by omega) (fun hl => by
        rcases c3 with c3 | ⟨_, _, c3⟩
        · exfalso
          have hl2 : psC (zFs f n) c + 1 + dgC (zFs f n) (psC (zFs f n) c) + 1 < n := hl
          omega
        · exact c3) hlt.1 hlt.2.1 (by have := hlt.2.2; show σ.2.2 + _ ≤ c + 1; omega)
      rw [show psC (zFs f n) (c + 1) = psC (zFs f n) c + 1 + dgC (zFs f n) (psC (zFs f n) c) + 1 from rfl] at K
      rw [pfL, if_pos hq]
      have ep : nI (psC (zFs f n) c) + (nI (dgC (zFs f n) (psC (zFs f n) c)) + 2) = nI (psC (zFs f n) c + 1 + dgC (zFs f n) (psC (zFs f n) c) + 1) := by
        rw [show (2 : Int32) = nI 2 from rfl, nI_add, nI_add]
        congr 1
        omega
      have hz := c_clause (Z := Z) (d := d) (rs := rs) (re := re) (rb := rb) (th := th) (hi := hj) (sh := sh) (tp := tp) (R := R) hn (show psC (zFs f n) c < 900 by omega) h1 h2 c1
      by_cases ht : (doC (zFs f n) (psC (zFs f n) c) σ.1 σ.2.1).2.2 = 1
      · rw [ht] at hz K ⊢
        refine s_iload dX6_perform_7 rfl ?_
        refine s_bipush (v := 12) dX6_perform_9 rfl ?_
        refine s_icmp_ge (tgt := 74) dX6_perform_11 (by decide) (fun hqz => absurd hqz (nI_ge hm (by decide))) (fun hz => ?_)
        clear hz
        refine s_iload_n dX6_perform_14 rfl ?_
        refine s_aload_n dX6_perform_15 rfl ?_
        refine s_get dX6_perform_16 f_X6_15 (by rfl) (by rfl) ?_
        refine s_icmp_ge (tgt := 74) dX6_perform_19 (by decide) (fun hqz => absurd hqz (nI_ge hq (by omega))) (fun hz => ?_)
        clear hz
        refine s_aload_n dX6_perform_22 rfl ?_
        refine s_iload_n dX6_perform_23 rfl ?_
        refine s_cv1 dX6_perform_24 g_X6_19 (c_signAt hn (by omega)) (by rfl) rfl rfl rfl rfl (Nat.le_of_ble_eq_true rfl) (Nat.le_of_ble_eq_true rfl) rfl ?_
        refine s_istore dX6_perform_27 (Nat.le_of_ble_eq_true rfl) rfl ?_
        refine s_aload_n dX6_perform_29 rfl ?_
        refine s_iload_n dX6_perform_30 rfl ?_
        refine s_iconst (v := 1) dX6_perform_31 rfl ?_
        refine s_iadd dX6_perform_32 ?_
        refine s_iload dX6_perform_33 rfl ?_
        refine s_cs1 dX6_perform_35 g_X6_23 (c_md) rfl rfl (Nat.le_of_ble_eq_true rfl) (Nat.le_of_ble_eq_true rfl) rfl ?_
        rw [nI_1, hv.1]
        refine s_cv1 dX6_perform_38 g_X6_26 (c_dg (m := cMD (zFs f n (psC (zFs f n) c))) hn (by omega) hv.2) (by rfl) rfl rfl rfl rfl (Nat.le_of_ble_eq_true rfl) (Nat.le_of_ble_eq_true rfl) rfl ?_
        rw [hdv]
        refine s_istore dX6_perform_41 (Nat.le_of_ble_eq_true rfl) rfl ?_
        refine s_aload_n dX6_perform_43 rfl ?_
        refine s_aload_n dX6_perform_44 rfl ?_
        refine s_iload dX6_perform_45 rfl ?_
        refine s_iload_n dX6_perform_47 rfl ?_
        refine s_iconst (v := 1) dX6_perform_48 rfl ?_
        refine s_iadd dX6_perform_49 ?_
        refine s_iload dX6_perform_50 rfl ?_
        rw [nI_1]
        refine s_cv1 dX6_perform_52 g_X6_30 (hz) (by rfl) rfl rfl rfl rfl (Nat.le_of_ble_eq_true rfl) (Nat.le_of_ble_eq_true rfl) rfl ?_
        refine s_if_eq (tgt := 61) dX6_perform_55 (by decide) (fun hqz => absurd hqz (by decide)) (fun hz => ?_)
        clear hz
        refine s_iinc (nI (σ.2.2 + 1)) dX6_perform_58 rfl (nI_1 _) (Nat.le_of_ble_eq_true rfl) rfl ?_
        refine s_iload_n dX6_perform_61 rfl ?_
        refine s_iload dX6_perform_62 rfl ?_
        refine s_iconst (v := 2) dX6_perform_64 rfl ?_
        refine s_iadd dX6_perform_65 ?_
        refine s_iadd dX6_perform_66 ?_
        rw [ep]
        refine s_istore_n dX6_perform_67 (Nat.le_of_ble_eq_true rfl) rfl ?_
        refine s_iinc (nI (c + 1)) dX6_perform_68 rfl (nI_1 _) (Nat.le_of_ble_eq_true rfl) rfl ?_
        refine s_goto (tgt := 7) dX6_perform_71 (by decide) ?_
        refine s_take 5 ?_
        exact K
      · have ht0 : (doC (zFs f n) (psC (zFs f n) c) σ.1 σ.2.1).2.2 = 0 := by omega
        rw [ht0] at hz K ⊢
        refine s_iload dX6_perform_7 rfl ?_
        refine s_bipush (v := 12) dX6_perform_9 rfl ?_
        refine s_icmp_ge (tgt := 74) dX6_perform_11 (by decide) (fun hqz => absurd hqz (nI_ge hm (by decide))) (fun hz => ?_)
        clear hz
        refine s_iload_n dX6_perform_14 rfl ?_
        refine s_aload_n dX6_perform_15 rfl ?_
        refine s_get dX6_perform_16 f_X6_15 (by rfl) (by rfl) ?_
        refine s_icmp_ge (tgt := 74) dX6_perform_19 (by decide) (fun hqz => absurd hqz (nI_ge hq (by omega))) (fun hz => ?_)
        clear hz
        refine s_aload_n dX6_perform_22 rfl ?_
        refine s_iload_n dX6_perform_23 rfl ?_
        refine s_cv1 dX6_perform_24 g_X6_19 (c_signAt hn (by omega)) (by rfl) rfl rfl rfl rfl (Nat.le_of_ble_eq_true rfl) (Nat.le_of_ble_eq_true rfl) rfl ?_
        refine s_istore dX6_perform_27 (Nat.le_of_ble_eq_true rfl) rfl ?_
        refine s_aload_n dX6_perform_29 rfl ?_
        refine s_iload_n dX6_perform_30 rfl ?_
        refine s_iconst (v := 1) dX6_perform_31 rfl ?_
        refine s_iadd dX6_perform_32 ?_
        refine s_iload dX6_perform_33 rfl ?_
        refine s_cs1 dX6_perform_35 g_X6_23 (c_md) rfl rfl (Nat.le_of_ble_eq_true rfl) (Nat.le_of_ble_eq_true rfl) rfl ?_
        rw [nI_1, hv.1]
        refine s_cv1 dX6_perform_38 g_X6_26 (c_dg (m := cMD (zFs f n (psC (zFs f n) c))) hn (by omega) hv.2) (by rfl) rfl rfl rfl rfl (Nat.le_of_ble_eq_true rfl) (Nat.le_of_ble_eq_true rfl) rfl ?_
        rw [hdv]
        refine s_istore dX6_perform_41 (Nat.le_of_ble_eq_true rfl) rfl ?_
        refine s_aload_n dX6_perform_43 rfl ?_
        refine s_aload_n dX6_perform_44 rfl ?_
        refine s_iload dX6_perform_45 rfl ?_
        refine s_iload_n dX6_perform_47 rfl ?_
        refine s_iconst (v := 1) dX6_perform_48 rfl ?_
        refine s_iadd dX6_perform_49 ?_
        refine s_iload dX6_perform_50 rfl ?_
        rw [nI_1]
        refine s_cv1 dX6_perform_52 g_X6_30 (hz) (by rfl) rfl rfl rfl rfl (Nat.le_of_ble_eq_true rfl) (Nat.le_of_ble_eq_true rfl) rfl ?_
        refine s_if_eq (tgt := 61) dX6_perform_55 (by decide) (fun hz => ?_) (fun hqz => absurd rfl hqz)
        clear hz
        refine s_iload_n dX6_perform_61 rfl ?_
        refine s_iload dX6_perform_62 rfl ?_
        refine s_iconst (v := 2) dX6_perform_64 rfl ?_
        refine s_iadd dX6_perform_65 ?_
        refine s_iadd dX6_perform_66 ?_
        rw [ep]
        refine s_istore_n dX6_perform_67 (Nat.le_of_ble_eq_true rfl) rfl ?_
        refine s_iinc (nI (c + 1)) dX6_perform_68 rfl (nI_1 _) (Nat.le_of_ble_eq_true rfl) rfl ?_
        refine s_goto (tgt := 7) dX6_perform_71 (by decide) ?_
        refine s_take 5 ?_
        exact K
    · rw [pfL, if_neg hq]
      refine s_iload dX6_perform_7 rfl ?_
      refine s_bipush (v := 12) dX6_perform_9 rfl ?_
      refine s_icmp_ge (tgt := 74) dX6_perform_11 (by decide) (fun hqz => absurd hqz (nI_ge hm (by decide))) (fun hz => ?_)
      clear hz
      refine s_iload_n dX6_perform_14 rfl ?_
      refine s_aload_n dX6_perform_15 rfl ?_
      refine s_get dX6_perform_16 f_X6_15 (by rfl) (by rfl) ?_
      refine s_icmp_ge (tgt := 74) dX6_perform_19 (by decide) (fun hz => ?_) (fun hqz => absurd (nI_le (show n ≤ psC (zFs f n) c by omega) (by omega)) hqz)
      clear hz
      refine s_iload_n dX6_perform_74 rfl ?_
      exact s_iret dX6_perform_75 rfl ⟨rfl, rfl⟩ (by first | (simp only [List.length_set]; exact wXlen) | exact wXlen | rfl)
set_option maxHeartbeats 4000000 in
set_option maxRecDepth 100000 in
theorem c_pf {Z : zS} {d : Nat} {b k : Nat} {rs re rb : zRw} {th : zHd} {hj : Int32} {f : Nat → Int32} {n : Nat} {sh : zSh} {tp : zTs} {R : zW} (hn : n ≤ 100) (hb : b < 256) (hk : k < 256) (h : ffL (zFs f n) n 12 0 = -1) : zF Z M_X6_perform (d + 5) [.ref 21, .ref 1] (wX (nI b, nI k, rs, re, rb) th hj (f, nI n) sh tp ++ R) [.int (nI (pfL (zFs f n) n 12 0 (b, k, 0)).2.2)] (wX (nI (pfL (zFs f n) n 12 0 (b, k, 0)).1, nI (pfL (zFs f n) n 12 0 (b, k, 0)).2.1, rs, re, rb) th hj (f, nI n) sh tp ++ R) := by
  unfold zF
  rw [wXlen]
  show zG Z M_X6_perform (d + 5) _ (R.length + 41) 0 [(0, .ref 21), (1, .ref 1)] [] (wX (nI b, nI k, rs, re, rb) th hj (f, nI n) sh tp ++ R)
  refine s_iconst (v := 0) dX6_perform_0 rfl ?_
  refine s_istore_n dX6_perform_1 (Nat.le_of_ble_eq_true rfl) rfl ?_
  refine s_iconst (v := 0) dX6_perform_2 rfl ?_
  refine s_istore_n dX6_perform_3 (Nat.le_of_ble_eq_true rfl) rfl ?_
  refine s_iconst (v := 0) dX6_perform_4 rfl ?_
  refine s_istore dX6_perform_5 (Nat.le_of_ble_eq_true rfl) rfl ?_
  exact l_pf hn 12 0 (b, k, 0) rfl (fun _ => CL_of 12 0 (Or.inr (by decide)) (by decide) h) hb hk (Nat.le_refl _)
set_option maxHeartbeats 4000000 in
set_option maxRecDepth 100000 in
theorem x_read {Z : zS} {d : Nat} {b k : Nat} {rs re rb : zRw} {th : zHd} {hj : Int32} {f : Nat → Int32} {n : Nat} {sh : zSh} {tp : zTs} {R : zW} (hn : n ≤ 100) (hb : b < 256) (hk : k < 256) (h : ffL (zFs f n) n 12 0 = -1) : zF Z M_X7_read (d + 6) [.ref 0] (wX (nI b, nI k, rs, re, rb) th hj (f, nI n) sh tp ++ R) [.int (nI (pfL (zFs f n) n 12 0 (b, k, 0)).2.2)] (wX (nI (pfL (zFs f n) n 12 0 (b, k, 0)).1, nI (pfL (zFs f n) n 12 0 (b, k, 0)).2.1, rs, re, rb) th hj (f, 0) sh tp ++ R) := by
  unfold zF
  rw [wXlen]
  show zG Z M_X7_read (d + 6) _ (R.length + 41) 0 [(0, .ref 0)] [] (wX (nI b, nI k, rs, re, rb) th hj (f, nI n) sh tp ++ R)
  refine s_aload_n dX7_read_0 rfl ?_
  refine s_get dX7_read_1 f_X7_28 (by rfl) (by rfl) ?_
  refine s_cv1 dX7_read_4 g_X7_80 (c_ff hn) (by rfl) rfl rfl rfl rfl (Nat.le_of_ble_eq_true rfl) (Nat.le_of_ble_eq_true rfl) rfl ?_
  refine s_istore_n dX7_read_7 (Nat.le_of_ble_eq_true rfl) rfl ?_
  refine s_iload_n dX7_read_8 rfl ?_
  refine s_iconst (v := (-1)) dX7_read_9 rfl ?_
  refine s_icmp_ne (tgt := 27) dX7_read_10 (by decide) (fun hqz => absurd h hqz) (fun hz => ?_)
  clear hz
  refine s_aload_n dX7_read_13 rfl ?_
  refine s_get dX7_read_14 f_X7_28 (by rfl) (by rfl) ?_
  refine s_aload_n dX7_read_17 rfl ?_
  refine s_get dX7_read_18 f_X7_14 (by rfl) (by rfl) ?_
  refine s_cv1 dX7_read_21 g_X7_84 (c_pf hn hb hk h) (by rfl) rfl rfl rfl rfl (Nat.le_of_ble_eq_true rfl) (Nat.le_of_ble_eq_true rfl) rfl ?_
  refine s_goto (tgt := 31) dX7_read_24 (by decide) ?_
  refine s_istore_n dX7_read_31 (Nat.le_of_ble_eq_true rfl) rfl ?_
  refine s_aload_n dX7_read_32 rfl ?_
  refine s_get dX7_read_33 f_X7_28 (by rfl) (by rfl) ?_
  refine s_iconst (v := 0) dX7_read_36 rfl ?_
  refine s_put dX7_read_37 f_X7_88 (by rfl) (fun _ => ⟨rfl, rfl⟩) (Nat.le_of_ble_eq_true rfl) ?_
  refine s_iload_n dX7_read_40 rfl ?_
  exact s_iret dX7_read_41 rfl ⟨rfl, rfl⟩ (by first | (simp only [List.length_set]; exact wXlen) | exact wXlen | rfl)
set_option maxHeartbeats 4000000 in
set_option maxRecDepth 100000 in
theorem x_read_no {Z : zS} {d : Nat} {b k : Nat} {rs re rb : zRw} {th : zHd} {hj : Int32} {f : Nat → Int32} {n : Nat} {sh : zSh} {tp : zTs} {R : zW} (hn : n ≤ 100) (h : ¬ ffL (zFs f n) n 12 0 = -1) : zF Z M_X7_read (d + 6) [.ref 0] (wX (nI b, nI k, rs, re, rb) th hj (f, nI n) sh tp ++ R) [.int (-10 - ffL (zFs f n) n 12 0)] (wX (nI b, nI k, rs, re, rb) th hj (f, 0) sh tp ++ R) := by
  unfold zF
  rw [wXlen]
  show zG Z M_X7_read (d + 6) _ (R.length + 41) 0 [(0, .ref 0)] [] (wX (nI b, nI k, rs, re, rb) th hj (f, nI n) sh tp ++ R)
  refine s_aload_n dX7_read_0 rfl ?_
  refine s_get dX7_read_1 f_X7_28 (by rfl) (by rfl) ?_
  refine s_cv1 dX7_read_4 g_X7_80 (c_ff hn) (by rfl) rfl rfl rfl rfl (Nat.le_of_ble_eq_true rfl) (Nat.le_of_ble_eq_true rfl) rfl ?_
  refine s_istore_n dX7_read_7 (Nat.le_of_ble_eq_true rfl) rfl ?_
  refine s_iload_n dX7_read_8 rfl ?_
  refine s_iconst (v := (-1)) dX7_read_9 rfl ?_
  refine s_icmp_ne (tgt := 27) dX7_read_10 (by decide) (fun hz => ?_) (fun hqz => absurd hqz h)
  clear hz
  refine s_bipush (v := (-10)) dX7_read_27 rfl ?_
  refine s_iload_n dX7_read_29 rfl ?_
  refine s_isub dX7_read_30 ?_
  refine s_istore_n dX7_read_31 (Nat.le_of_ble_eq_true rfl) rfl ?_
  refine s_aload_n dX7_read_32 rfl ?_
  refine s_get dX7_read_33 f_X7_28 (by rfl) (by rfl) ?_
  refine s_iconst (v := 0) dX7_read_36 rfl ?_
  refine s_put dX7_read_37 f_X7_88 (by rfl) (fun _ => ⟨rfl, rfl⟩) (Nat.le_of_ble_eq_true rfl) ?_
  refine s_iload_n dX7_read_40 rfl ?_
  exact s_iret dX7_read_41 rfl ⟨rfl, rfl⟩ (by first | (simp only [List.length_set]; exact wXlen) | exact wXlen | rfl)
set_option maxHeartbeats 4000000 in
set_option maxRecDepth 100000 in
theorem x_feed1 {Z : zS} {d : Nat} {b k : Nat} {rs re rb : zRw} {th : zHd} {hj : Int32} {f : Nat → Int32} {n : Nat} {sh : zSh} {tp : zTs} {R : zW} {c : Int32} (hc : c < 0 ∨ 128 ≤ c) : zF Z M_X7_feed (d + 1) [.ref 0, .int c] (wX (nI b, nI k, rs, re, rb) th hj (f, nI n) sh tp ++ R) [.int (-2)] (wX (nI b, nI k, rs, re, rb) th hj (f, nI n) sh tp ++ R) := by
  unfold zF
  rw [wXlen]
  show zG Z M_X7_feed (d + 1) _ (R.length + 41) 0 [(0, .ref 0), (1, .int c)] [] (wX (nI b, nI k, rs, re, rb) th hj (f, nI n) sh tp ++ R)
  refine s_iload_n dX7_feed_0 rfl ?_
  refine s_if_lt (tgt := 10) dX7_feed_1 (by decide) (fun h_1 => ?_) (fun h_1 => ?_)
  · refine s_bipush (v := (-2)) dX7_feed_10 rfl ?_
    exact s_iret dX7_feed_12 rfl ⟨rfl, rfl⟩ (by first | (simp only [List.length_set]; exact wXlen) | exact wXlen | rfl)
  · refine s_iload_n dX7_feed_4 rfl ?_
    refine s_bipush (v := 127) dX7_feed_5 rfl ?_
    refine s_icmp_le (tgt := 13) dX7_feed_7 (by decide) (fun h_7 => ?_) (fun h_7 => ?_)
    · exact absurd h_7 (zle3 (n := 127) (by decide) (hc.resolve_left h_1))
    · refine s_bipush (v := (-2)) dX7_feed_10 rfl ?_
      exact s_iret dX7_feed_12 rfl ⟨rfl, rfl⟩ (by first | (simp only [List.length_set]; exact wXlen) | exact wXlen | rfl)
set_option maxHeartbeats 4000000 in
set_option maxRecDepth 100000 in
theorem x_feed_f {Z : zS} {d : Nat} {b k : Nat} {rs re rb : zRw} {th : zHd} {hj : Int32} {f : Nat → Int32} {n : Nat} {sh : zSh} {tp : zTs} {R : zW} {t : Nat} (ht : t < 128) (hn : 100 ≤ n) (hn31 : n < 2 ^ 31) : zF Z M_X7_feed (d + 1) [.ref 0, .int (nI t)] (wX (nI b, nI k, rs, re, rb) th hj (f, nI n) sh tp ++ R) [.int (-4)] (wX (nI b, nI k, rs, re, rb) th hj (f, nI n) sh tp ++ R) := by
  unfold zF
  rw [wXlen]
  show zG Z M_X7_feed (d + 1) _ (R.length + 41) 0 [(0, .ref 0), (1, .int (nI t))] [] (wX (nI b, nI k, rs, re, rb) th hj (f, nI n) sh tp ++ R)
  refine s_iload_n dX7_feed_0 rfl ?_
  refine s_if_lt (tgt := 10) dX7_feed_1 (by decide) (fun hqz => absurd hqz (nI_pos (by omega))) (fun hz => ?_)
  clear hz
  refine s_iload_n dX7_feed_4 rfl ?_
  refine s_bipush (v := 127) dX7_feed_5 rfl ?_
  refine s_icmp_le (tgt := 13) dX7_feed_7 (by decide) (fun hz => ?_) (fun hqz => absurd (nI_le (show t ≤ 127 by omega) (by decide)) hqz)
  clear hz
  refine s_aload_n dX7_feed_13 rfl ?_
  refine s_get dX7_feed_14 f_X7_28 (by rfl) (by rfl) ?_
  refine s_iload_n dX7_feed_17 rfl ?_
  refine s_cv1 dX7_feed_18 g_X7_76 (c_tap_full hn hn31) (by rfl) rfl rfl rfl rfl (Nat.le_of_ble_eq_true rfl) (Nat.le_of_ble_eq_true rfl) rfl ?_
  exact s_iret dX7_feed_21 rfl ⟨rfl, rfl⟩ (by first | (simp only [List.length_set]; exact wXlen) | exact wXlen | rfl)
set_option maxHeartbeats 4000000 in
set_option maxRecDepth 100000 in
theorem x_feed {Z : zS} {d : Nat} {b k : Nat} {rs re rb : zRw} {th : zHd} {hj : Int32} {f : Nat → Int32} {n : Nat} {sh : zSh} {tp : zTs} {R : zW} {t : Nat} (ht : t < 128) (hn : n < 100) : zF Z M_X7_feed (d + 1) [.ref 0, .int (nI t)] (wX (nI b, nI k, rs, re, rb) th hj (f, nI n) sh tp ++ R) [.int (nI (n + 1))] (wX (nI b, nI k, rs, re, rb) th hj (upd f n (nI t), nI (n + 1)) sh tp ++ R) := by
  unfold zF
  rw [wXlen]
  show zG Z M_X7_feed (d + 1) _ (R.length + 41) 0 [(0, .ref 0), (1, .int (nI t))] [] (wX (nI b, nI k, rs, re, rb) th hj (f, nI n) sh tp ++ R)
  refine s_iload_n dX7_feed_0 rfl ?_
  refine s_if_lt (tgt := 10) dX7_feed_1 (by decide) (fun hqz => absurd hqz (nI_pos (by omega))) (fun hz => ?_)
  clear hz
  refine s_iload_n dX7_feed_4 rfl ?_
  refine s_bipush (v := 127) dX7_feed_5 rfl ?_
  refine s_icmp_le (tgt := 13) dX7_feed_7 (by decide) (fun hz => ?_) (fun hqz => absurd (nI_le (show t ≤ 127 by omega) (by decide)) hqz)
  clear hz
  refine s_aload_n dX7_feed_13 rfl ?_
  refine s_get dX7_feed_14 f_X7_28 (by rfl) (by rfl) ?_
  refine s_iload_n dX7_feed_17 rfl ?_
  refine s_cv1 dX7_feed_18 g_X7_76 (c_tap hn ht) (by rfl) rfl rfl rfl rfl (Nat.le_of_ble_eq_true rfl) (Nat.le_of_ble_eq_true rfl) rfl ?_
  exact s_iret dX7_feed_21 rfl ⟨rfl, rfl⟩ (by first | (simp only [List.length_set]; exact wXlen) | exact wXlen | rfl)
