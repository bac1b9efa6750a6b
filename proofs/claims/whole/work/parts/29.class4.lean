/-! ===== the class: what fits, tapes ===== -/
def kSG (a : Int32) (b : Nat) : Int32 := if a = 0 then nI (pPOP b) else if a = 1 then kSIX b else if a = 2 then nI (kFL b 256 0 0) else nI (pNUM b)
theorem zsw3 {c : Int32} (h0 : ¬ c = 0) (h1 : ¬ c = 1) (h2 : ¬ c = 2) : c.toInt < 0 ∨ (2 : Int) < c.toInt := by
  have e0 : c.toInt ≠ 0 := fun z => h0 ((fa_eq c 0).mpr z)
  have e1 : c.toInt ≠ 1 := fun z => h1 ((fa_eq c 1).mpr z)
  have e2 : c.toInt ≠ 2 := fun z => h2 ((fa_eq c 2).mpr z)
  omega
set_option maxHeartbeats 4000000 in
set_option maxRecDepth 100000 in
theorem c_sight {Z : zS} {d : Nat} {hd th : zHd} {hi : Int32} {tx : zTx} {sh : zSh} {tp : zTs} {R : zW} (hS : SOK sh) {a : Int32} {c : Nat} (hc : c < 256) : ∃ sh' : zSh, SOK sh' ∧ zF Z M_X7_sightOf (d + 4) [.ref 0, .int (nI c), .int a] (wX hd th hi tx sh tp ++ R) [.int (kSG a c)] (wX hd th hi tx sh' tp ++ R) := by
  by_cases h0 : a = 0
  · subst h0
    refine ⟨sh, hS, ?_⟩
    unfold zF
    rw [wXlen]
    show zG Z M_X7_sightOf (d + 4) _ (R.length + 41) 0 [(0, .ref 0), (1, .int (nI c)), (2, .int 0)] [] (wX hd th hi tx sh tp ++ R)
    refine s_iload_n dX7_sightOf_0 rfl ?_
    refine s_tableIn (off := 27) (tgt := 28) dX7_sightOf_1 (by decide) (by decide) (by rfl) (by decide) ?_
    refine s_iload_n dX7_sightOf_28 rfl ?_
    refine s_cs1 dX7_sightOf_29 g_X7_91 (c_bcN hc) rfl rfl (Nat.le_of_ble_eq_true rfl) (Nat.le_of_ble_eq_true rfl) rfl ?_
    exact s_iret dX7_sightOf_32 rfl ⟨by rw [kSG, if_pos rfl], rfl⟩ (by first | exact wXlen | rfl)
  by_cases h1 : a = 1
  · subst h1
    obtain ⟨sh', hS', hz⟩ := c_sixfold (Z := Z) (d := d) (hd := hd) (th := th) (hi := hi) (tx := tx) (tp := tp) (R := R) hS hc
    refine ⟨sh', hS', ?_⟩
    unfold zF
    rw [wXlen]
    show zG Z M_X7_sightOf (d + 4) _ (R.length + 41) 0 [(0, .ref 0), (1, .int (nI c)), (2, .int 1)] [] (wX hd th hi tx sh tp ++ R)
    refine s_iload_n dX7_sightOf_0 rfl ?_
    refine s_tableIn (off := 32) (tgt := 33) dX7_sightOf_1 (by decide) (by decide) (by rfl) (by decide) ?_
    refine s_aload_n dX7_sightOf_33 rfl ?_
    refine s_get dX7_sightOf_34 f_X7_35 (by rfl) (by rfl) ?_
    refine s_iload_n dX7_sightOf_37 rfl ?_
    refine s_cv1 dX7_sightOf_38 g_X7_120 (hz) (by rfl) rfl rfl rfl rfl (Nat.le_of_ble_eq_true rfl) (Nat.le_of_ble_eq_true rfl) rfl ?_
    exact s_iret dX7_sightOf_41 rfl ⟨by rw [kSG, if_neg (by decide), if_pos rfl], rfl⟩ (by first | exact wXlen | rfl)
  by_cases h2 : a = 2
  · subst h2
    obtain ⟨sh', hS', hz⟩ := c_faceCount (Z := Z) (d := d + 1) (hd := hd) (th := th) (hi := hi) (tx := tx) (tp := tp) (R := R) hS hc
    refine ⟨sh', hS', ?_⟩
    unfold zF
    rw [wXlen]
    show zG Z M_X7_sightOf (d + 4) _ (R.length + 41) 0 [(0, .ref 0), (1, .int (nI c)), (2, .int 2)] [] (wX hd th hi tx sh tp ++ R)
    refine s_iload_n dX7_sightOf_0 rfl ?_
    refine s_tableIn (off := 41) (tgt := 42) dX7_sightOf_1 (by decide) (by decide) (by rfl) (by decide) ?_
    refine s_aload_n dX7_sightOf_42 rfl ?_
    refine s_get dX7_sightOf_43 f_X7_35 (by rfl) (by rfl) ?_
    refine s_iload_n dX7_sightOf_46 rfl ?_
    refine s_cv1 dX7_sightOf_47 g_X7_111 (hz) (by rfl) rfl rfl rfl rfl (Nat.le_of_ble_eq_true rfl) (Nat.le_of_ble_eq_true rfl) rfl ?_
    exact s_iret dX7_sightOf_50 rfl ⟨by rw [kSG, if_neg (by decide), if_neg (by decide), if_pos rfl], rfl⟩ (by first | exact wXlen | rfl)
  · refine ⟨sh, hS, ?_⟩
    unfold zF
    rw [wXlen]
    show zG Z M_X7_sightOf (d + 4) _ (R.length + 41) 0 [(0, .ref 0), (1, .int (nI c)), (2, .int a)] [] (wX hd th hi tx sh tp ++ R)
    refine s_iload_n dX7_sightOf_0 rfl ?_
    refine s_tableOut (tgt := 51) dX7_sightOf_1 (zsw3 h0 h1 h2) (by decide) ?_
    refine s_iload_n dX7_sightOf_51 rfl ?_
    refine s_cs1 dX7_sightOf_52 g_X7_99 (c_X1_classOf hc) rfl rfl (Nat.le_of_ble_eq_true rfl) (Nat.le_of_ble_eq_true rfl) rfl ?_
    exact s_iret dX7_sightOf_55 rfl ⟨by rw [kSG, if_neg h0, if_neg h1, if_neg h2], rfl⟩ (by first | exact wXlen | rfl)
def kAS (f g : Nat → Int32) (c : Nat) : Nat → Nat → Bool
  | 0, _ => true
  | n + 1, r => if kSG (f r) c = g r then kAS f g c n (r + 1) else false
def kFT (f g : Nat → Int32) (s b : Nat) : Nat → Nat → Nat → Nat
  | 0, _, a => a
  | n + 1, i, a => kFT f g s b n (i + 1) (if kAS f g (b ^^^ 2 ^ i) s 0 = true then a ||| 2 ^ i else a)
set_option maxHeartbeats 4000000 in
set_option maxRecDepth 100000 in
theorem l_all {Z : zS} {d : Nat} {b k : Nat} {re rb : zRw} {th : zHd} {hj : Int32} {tx : zTx} {tp : zTs} {R : zW} {f g : Nat → Int32} {s : Nat} (hs : s ≤ 8) {c : Nat} (hc : c < 256) : ∀ (n r : Nat) (sh : zSh), SOK sh → r + n = s → ∃ sh' : zSh, SOK sh' ∧ zG Z M_X7_allSeenIn (d + 5) (fun r1 w1 => r1 = [.int (if kAS f g c n r = true then 1 else 0)] ∧ w1 = (wX (nI b, nI k, (f, g, nI s), re, rb) th hj tx sh' tp ++ R)) (R.length + 41) 2 [(0, .ref 0), (1, .int (nI c)), (2, .int (nI r))] [] (wX (nI b, nI k, (f, g, nI s), re, rb) th hj tx sh tp ++ R) := by
  intro n
  induction n with
  | zero =>
    intro r sh hS hi
    have hi : r = s := by omega
    subst hi
    refine ⟨sh, hS, ?_⟩
    refine s_iload_n dX7_allSeenIn_2 rfl ?_
    refine s_aload_n dX7_allSeenIn_3 rfl ?_
    refine s_get dX7_allSeenIn_4 f_X7_14 (by rfl) (by rfl) ?_
    refine s_get dX7_allSeenIn_7 f_X7_191 (by rfl) (by rfl) ?_
    refine s_get dX7_allSeenIn_10 f_X7_206 (by rfl) (by rfl) ?_
    refine s_icmp_ge (tgt := 54) dX7_allSeenIn_13 (by decide) (fun hz => ?_) (fun hqz => absurd (nI_le (Nat.le_refl _) (by omega)) hqz)
    clear hz
    refine s_iconst (v := 1) dX7_allSeenIn_54 rfl ?_
    exact s_zret dX7_allSeenIn_55 rfl (by first | exact Or.inl rfl | exact Or.inr rfl) ⟨rfl, rfl⟩ (by first | exact wXlen | rfl)
  | succ n ih =>
    intro r sh hS hi
    have hm : r < s := by omega
    obtain ⟨s1, hS1, hz⟩ := c_sight (Z := Z) (d := d) (hd := (nI b, nI k, (f, g, nI s), re, rb)) (th := th) (hi := hj) (tx := tx) (tp := tp) (R := R) hS (a := f r) hc
    obtain ⟨s2, hS2, hy⟩ := ih (r + 1) s1 hS1 (by omega)
    by_cases hk : kSG (f r) c = g r
    · refine ⟨s2, hS2, ?_⟩
      rw [show kAS f g c (n + 1) r = kAS f g c n (r + 1) from by rw [kAS, if_pos hk]]
      refine s_iload_n dX7_allSeenIn_2 rfl ?_
      refine s_aload_n dX7_allSeenIn_3 rfl ?_
      refine s_get dX7_allSeenIn_4 f_X7_14 (by rfl) (by rfl) ?_
      refine s_get dX7_allSeenIn_7 f_X7_191 (by rfl) (by rfl) ?_
      refine s_get dX7_allSeenIn_10 f_X7_206 (by rfl) (by rfl) ?_
      refine s_icmp_ge (tgt := 54) dX7_allSeenIn_13 (by decide) (fun hqz => absurd hqz (nI_ge hm (by omega))) (fun hz => ?_)
      clear hz
      refine s_aload_n dX7_allSeenIn_16 rfl ?_
      refine s_iload_n dX7_allSeenIn_17 rfl ?_
      refine s_aload_n dX7_allSeenIn_18 rfl ?_
      refine s_get dX7_allSeenIn_19 f_X7_14 (by rfl) (by rfl) ?_
      refine s_get dX7_allSeenIn_22 f_X7_191 (by rfl) (by rfl) ?_
      refine s_iload_n dX7_allSeenIn_25 rfl ?_
      refine s_cv1 dX7_allSeenIn_26 g_X7_207 (c_X3_whatAt (by rfl) (by rfl) (show r < 8 by omega)) (by rfl) rfl rfl rfl rfl (Nat.le_of_ble_eq_true rfl) (Nat.le_of_ble_eq_true rfl) rfl ?_
      refine s_cv1 dX7_allSeenIn_29 g_X7_210 (hz) (by rfl) rfl rfl rfl rfl (Nat.le_of_ble_eq_true rfl) (Nat.le_of_ble_eq_true rfl) rfl ?_
      refine s_aload_n dX7_allSeenIn_32 rfl ?_
      refine s_get dX7_allSeenIn_33 f_X7_14 (by rfl) (by rfl) ?_
      refine s_get dX7_allSeenIn_36 f_X7_191 (by rfl) (by rfl) ?_
      refine s_iload_n dX7_allSeenIn_39 rfl ?_
      refine s_cv1 dX7_allSeenIn_40 g_X7_213 (c_X3_numberAt (by rfl) (by rfl) (show r < 8 by omega)) (by rfl) rfl rfl rfl rfl (Nat.le_of_ble_eq_true rfl) (Nat.le_of_ble_eq_true rfl) rfl ?_
      refine s_icmp_eq (tgt := 48) dX7_allSeenIn_43 (by decide) (fun hz => ?_) (fun hqz => absurd hk hqz)
      clear hz
      refine s_iinc (nI (r + 1)) dX7_allSeenIn_48 rfl (nI_1 _) (Nat.le_of_ble_eq_true rfl) rfl ?_
      refine s_goto (tgt := 2) dX7_allSeenIn_51 (by decide) ?_
      exact hy
    · refine ⟨s1, hS1, ?_⟩
      rw [show kAS f g c (n + 1) r = false from by rw [kAS, if_neg hk]]
      refine s_iload_n dX7_allSeenIn_2 rfl ?_
      refine s_aload_n dX7_allSeenIn_3 rfl ?_
      refine s_get dX7_allSeenIn_4 f_X7_14 (by rfl) (by rfl) ?_
      refine s_get dX7_allSeenIn_7 f_X7_191 (by rfl) (by rfl) ?_
      refine s_get dX7_allSeenIn_10 f_X7_206 (by rfl) (by rfl) ?_
      refine s_icmp_ge (tgt := 54) dX7_allSeenIn_13 (by decide) (fun hqz => absurd hqz (nI_ge hm (by omega))) (fun hz => ?_)
      clear hz
      refine s_aload_n dX7_allSeenIn_16 rfl ?_
      refine s_iload_n dX7_allSeenIn_17 rfl ?_
      refine s_aload_n dX7_allSeenIn_18 rfl ?_
      refine s_get dX7_allSeenIn_19 f_X7_14 (by rfl) (by rfl) ?_
      refine s_get dX7_allSeenIn_22 f_X7_191 (by rfl) (by rfl) ?_
      refine s_iload_n dX7_allSeenIn_25 rfl ?_
      refine s_cv1 dX7_allSeenIn_26 g_X7_207 (c_X3_whatAt (by rfl) (by rfl) (show r < 8 by omega)) (by rfl) rfl rfl rfl rfl (Nat.le_of_ble_eq_true rfl) (Nat.le_of_ble_eq_true rfl) rfl ?_
      refine s_cv1 dX7_allSeenIn_29 g_X7_210 (hz) (by rfl) rfl rfl rfl rfl (Nat.le_of_ble_eq_true rfl) (Nat.le_of_ble_eq_true rfl) rfl ?_
      refine s_aload_n dX7_allSeenIn_32 rfl ?_
      refine s_get dX7_allSeenIn_33 f_X7_14 (by rfl) (by rfl) ?_
      refine s_get dX7_allSeenIn_36 f_X7_191 (by rfl) (by rfl) ?_
      refine s_iload_n dX7_allSeenIn_39 rfl ?_
      refine s_cv1 dX7_allSeenIn_40 g_X7_213 (c_X3_numberAt (by rfl) (by rfl) (show r < 8 by omega)) (by rfl) rfl rfl rfl rfl (Nat.le_of_ble_eq_true rfl) (Nat.le_of_ble_eq_true rfl) rfl ?_
      refine s_icmp_eq (tgt := 48) dX7_allSeenIn_43 (by decide) (fun hqz => absurd hqz hk) (fun hz => ?_)
      clear hz
      refine s_iconst (v := 0) dX7_allSeenIn_46 rfl ?_
      exact s_zret dX7_allSeenIn_47 rfl (by first | exact Or.inl rfl | exact Or.inr rfl) ⟨rfl, rfl⟩ (by first | exact wXlen | rfl)
set_option maxHeartbeats 4000000 in
set_option maxRecDepth 100000 in
theorem c_all {Z : zS} {d : Nat} {b k : Nat} {re rb : zRw} {th : zHd} {hj : Int32} {tx : zTx} {tp : zTs} {R : zW} {f g : Nat → Int32} {s : Nat} {sh : zSh} (hS : SOK sh) (hs : s ≤ 8) {c : Nat} (hc : c < 256) : ∃ sh' : zSh, SOK sh' ∧ zF Z M_X7_allSeenIn (d + 5) [.ref 0, .int (nI c)] (wX (nI b, nI k, (f, g, nI s), re, rb) th hj tx sh tp ++ R) [.int (if kAS f g c s 0 = true then 1 else 0)] (wX (nI b, nI k, (f, g, nI s), re, rb) th hj tx sh' tp ++ R) := by
  obtain ⟨sh', hS', hy⟩ := l_all (Z := Z) (d := d) (b := b) (k := k) (re := re) (rb := rb) (th := th) (hj := hj) (tx := tx) (tp := tp) (R := R) (f := f) (g := g) hs hc s 0 sh hS (by omega)
  refine ⟨sh', hS', ?_⟩
  unfold zF
  rw [wXlen]
  show zG Z M_X7_allSeenIn (d + 5) _ (R.length + 41) 0 [(0, .ref 0), (1, .int (nI c))] [] (wX (nI b, nI k, (f, g, nI s), re, rb) th hj tx sh tp ++ R)
  refine s_iconst (v := 0) dX7_allSeenIn_0 rfl ?_
  refine s_istore_n dX7_allSeenIn_1 (Nat.le_of_ble_eq_true rfl) rfl ?_
  exact hy
set_option maxHeartbeats 4000000 in
set_option maxRecDepth 100000 in
theorem l_fits {Z : zS} {d : Nat} {b k : Nat} {re rb : zRw} {th : zHd} {hj : Int32} {tx : zTx} {tp : zTs} {R : zW} {f g : Nat → Int32} {s : Nat} (hs : s ≤ 8) (hb : b < 256) : ∀ (n i a : Nat) (sh : zSh), SOK sh → i + n = 8 → ∃ sh' : zSh, SOK sh' ∧ zG Z M_X7_fits (d + 6) (fun r1 w1 => r1 = [.int (nI (kFT f g s b n i a))] ∧ w1 = (wX (nI b, nI k, (f, g, nI s), re, rb) th hj tx sh' tp ++ R)) (R.length + 41) 4 [(0, .ref 0), (1, .int (nI a)), (2, .int (nI i))] [] (wX (nI b, nI k, (f, g, nI s), re, rb) th hj tx sh tp ++ R) := by
  intro n
  induction n with
  | zero =>
    intro i a sh hS hi
    have hi : i = 8 := by omega
    subst hi
    refine ⟨sh, hS, ?_⟩
    refine s_iload_n dX7_fits_4 rfl ?_
    refine s_bipush (v := 8) dX7_fits_5 rfl ?_
    refine s_icmp_ge (tgt := 40) dX7_fits_7 (by decide) (fun hz => ?_) (fun hqz => absurd (by decide) hqz)
    clear hz
    refine s_iload_n dX7_fits_40 rfl ?_
    exact s_iret dX7_fits_41 rfl ⟨rfl, rfl⟩ (by first | exact wXlen | rfl)
  | succ n ih =>
    intro i a sh hS hi
    have hm : i < 8 := by omega
    obtain ⟨s1, hS1, hz⟩ := c_all (Z := Z) (d := d) (b := b) (k := k) (re := re) (rb := rb) (th := th) (hj := hj) (tx := tx) (tp := tp) (R := R) (f := f) (g := g) hS hs (zxor8 hb (zp8 i hm))
    by_cases hk : kAS f g (b ^^^ 2 ^ i) s 0 = true
    · obtain ⟨s2, hS2, hy⟩ := ih (i + 1) (a ||| 2 ^ i) s1 hS1 (by omega)
      refine ⟨s2, hS2, ?_⟩
      rw [show kFT f g s b (n + 1) i a = kFT f g s b n (i + 1) (a ||| 2 ^ i) from by rw [kFT, if_pos hk]]
      refine s_iload_n dX7_fits_4 rfl ?_
      refine s_bipush (v := 8) dX7_fits_5 rfl ?_
      refine s_icmp_ge (tgt := 40) dX7_fits_7 (by decide) (fun hqz => absurd hqz (nI_ge hm (by decide))) (fun hz => ?_)
      clear hz
      refine s_aload_n dX7_fits_10 rfl ?_
      refine s_aload_n dX7_fits_11 rfl ?_
      refine s_get dX7_fits_12 f_X7_14 (by rfl) (by rfl) ?_
      refine s_get dX7_fits_15 f_X7_53 (by rfl) (by rfl) ?_
      refine s_iconst (v := 1) dX7_fits_18 rfl ?_
      refine s_iload_n dX7_fits_19 rfl ?_
      refine s_ishl dX7_fits_20 ?_
      refine s_ixor dX7_fits_21 ?_
      dsimp only
      rw [zsh8 i (by omega), fb_xorI]
      refine s_cv1 dX7_fits_22 g_X7_203 (hz) (by rfl) rfl rfl rfl rfl (Nat.le_of_ble_eq_true rfl) (Nat.le_of_ble_eq_true rfl) rfl ?_
      refine s_if_eq (tgt := 34) dX7_fits_25 (by decide) (fun hqz => absurd hqz (by rw [hk]; decide)) (fun hz => ?_)
      clear hz
      refine s_iload_n dX7_fits_28 rfl ?_
      refine s_iconst (v := 1) dX7_fits_29 rfl ?_
      refine s_iload_n dX7_fits_30 rfl ?_
      refine s_ishl dX7_fits_31 ?_
      refine s_ior dX7_fits_32 ?_
      refine s_istore_n dX7_fits_33 (Nat.le_of_ble_eq_true rfl) rfl ?_
      refine s_iinc (nI (i + 1)) dX7_fits_34 rfl (nI_1 _) (Nat.le_of_ble_eq_true rfl) rfl ?_
      refine s_goto (tgt := 4) dX7_fits_37 (by decide) ?_
      rw [zsh8 i (by omega), fa_or]
      exact hy
    · obtain ⟨s2, hS2, hy⟩ := ih (i + 1) a s1 hS1 (by omega)
      refine ⟨s2, hS2, ?_⟩
      rw [show kFT f g s b (n + 1) i a = kFT f g s b n (i + 1) a from by rw [kFT, if_neg hk]]
      refine s_iload_n dX7_fits_4 rfl ?_
      refine s_bipush (v := 8) dX7_fits_5 rfl ?_
      refine s_icmp_ge (tgt := 40) dX7_fits_7 (by decide) (fun hqz => absurd hqz (nI_ge hm (by decide))) (fun hz => ?_)
      clear hz
      refine s_aload_n dX7_fits_10 rfl ?_
      refine s_aload_n dX7_fits_11 rfl ?_
      refine s_get dX7_fits_12 f_X7_14 (by rfl) (by rfl) ?_
      refine s_get dX7_fits_15 f_X7_53 (by rfl) (by rfl) ?_
      refine s_iconst (v := 1) dX7_fits_18 rfl ?_
      refine s_iload_n dX7_fits_19 rfl ?_
      refine s_ishl dX7_fits_20 ?_
      refine s_ixor dX7_fits_21 ?_
      dsimp only
      rw [zsh8 i (by omega), fb_xorI]
      refine s_cv1 dX7_fits_22 g_X7_203 (hz) (by rfl) rfl rfl rfl rfl (Nat.le_of_ble_eq_true rfl) (Nat.le_of_ble_eq_true rfl) rfl ?_
      refine s_if_eq (tgt := 34) dX7_fits_25 (by decide) (fun hz => ?_) (fun hqz => absurd (by rw [if_neg hk]) hqz)
      clear hz
      refine s_iinc (nI (i + 1)) dX7_fits_34 rfl (nI_1 _) (Nat.le_of_ble_eq_true rfl) rfl ?_
      refine s_goto (tgt := 4) dX7_fits_37 (by decide) ?_
      exact hy
set_option maxHeartbeats 4000000 in
set_option maxRecDepth 100000 in
theorem x_fits {Z : zS} {d : Nat} {b k : Nat} {re rb : zRw} {th : zHd} {hj : Int32} {tx : zTx} {tp : zTs} {R : zW} {f g : Nat → Int32} {s : Nat} {sh : zSh} (hS : SOK sh) (hs : s ≤ 8) (hb : b < 256) : ∃ sh' : zSh, SOK sh' ∧ zF Z M_X7_fits (d + 6) [.ref 0] (wX (nI b, nI k, (f, g, nI s), re, rb) th hj tx sh tp ++ R) [.int (nI (kFT f g s b 8 0 0))] (wX (nI b, nI k, (f, g, nI s), re, rb) th hj tx sh' tp ++ R) := by
  obtain ⟨sh', hS', hy⟩ := l_fits (Z := Z) (d := d) (b := b) (k := k) (re := re) (rb := rb) (th := th) (hj := hj) (tx := tx) (tp := tp) (R := R) (f := f) (g := g) hs hb 8 0 0 sh hS rfl
  refine ⟨sh', hS', ?_⟩
  unfold zF
  rw [wXlen]
  show zG Z M_X7_fits (d + 6) _ (R.length + 41) 0 [(0, .ref 0)] [] (wX (nI b, nI k, (f, g, nI s), re, rb) th hj tx sh tp ++ R)
  refine s_iconst (v := 0) dX7_fits_0 rfl ?_
  refine s_istore_n dX7_fits_1 (Nat.le_of_ble_eq_true rfl) rfl ?_
  refine s_iconst (v := 0) dX7_fits_2 rfl ?_
  refine s_istore_n dX7_fits_3 (Nat.le_of_ble_eq_true rfl) rfl ?_
  exact hy
def tpg (tp : zTs) (j : Nat) : zTp := match j with
  | 0 => tp.1
  | 1 => tp.2.1
  | 2 => tp.2.2.1
  | 3 => tp.2.2.2.1
  | 4 => tp.2.2.2.2.1
  | _ => tp.2.2.2.2.2
def tps (tp : zTs) (j : Nat) (v : zTp) : zTs := match j with
  | 0 => (v, tp.2)
  | 1 => (tp.1, v, tp.2.2)
  | 2 => (tp.1, tp.2.1, v, tp.2.2.2)
  | 3 => (tp.1, tp.2.1, tp.2.2.1, v, tp.2.2.2.2)
  | 4 => (tp.1, tp.2.1, tp.2.2.1, tp.2.2.2.1, v, tp.2.2.2.2.2)
  | _ => (tp.1, tp.2.1, tp.2.2.1, tp.2.2.2.1, tp.2.2.2.2.1, v)
section ZT
variable {hd th : zHd} {hi : Int32} {tx : zTx} {sh : zSh} {tp : zTs} {R : zW} {j : Nat}
theorem wXo (hj : j < 6) : (wX hd th hi tx sh tp ++ R)[29 + 2 * j]? = some (oTP (30 + 2 * j) (tpg tp j).2.1 (tpg tp j).2.2) := by
  rcases (show j = 0 ∨ j = 1 ∨ j = 2 ∨ j = 3 ∨ j = 4 ∨ j = 5 by omega) with rfl | rfl | rfl | rfl | rfl | rfl <;> rfl
theorem wXi (hj : j < 6) : (wX hd th hi tx sh tp ++ R)[30 + 2 * j]? = some (aL 60 (tpg tp j).1) := by
  rcases (show j = 0 ∨ j = 1 ∨ j = 2 ∨ j = 3 ∨ j = 4 ∨ j = 5 by omega) with rfl | rfl | rfl | rfl | rfl | rfl <;> rfl
theorem wXsi (hj : j < 6) (f : Nat → Int64) : (wX hd th hi tx sh tp ++ R).set (30 + 2 * j) (aL 60 f) = wX hd th hi tx sh (tps tp j (f, (tpg tp j).2)) ++ R := by
  rcases (show j = 0 ∨ j = 1 ∨ j = 2 ∨ j = 3 ∨ j = 4 ∨ j = 5 by omega) with rfl | rfl | rfl | rfl | rfl | rfl <;> rfl
theorem wXso (hj : j < 6) (f : Nat → Int64) (s n : Int32) : ((wX hd th hi tx sh tp ++ R).set (29 + 2 * j) (oTP (30 + 2 * j) s n)).set (30 + 2 * j) (aL 60 f) = wX hd th hi tx sh (tps tp j (f, s, n)) ++ R := by
  rcases (show j = 0 ∨ j = 1 ∨ j = 2 ∨ j = 3 ∨ j = 4 ∨ j = 5 by omega) with rfl | rfl | rfl | rfl | rfl | rfl <;> rfl
theorem hTA (hj : j < 6) : zTA (nI j).toNatClampNeg = some (29 + 2 * j) := by
  rw [nI_clamp (by omega)]
  rcases (show j = 0 ∨ j = 1 ∨ j = 2 ∨ j = 3 ∨ j = 4 ∨ j = 5 by omega) with rfl | rfl | rfl | rfl | rfl | rfl <;> rfl
end ZT
set_option maxHeartbeats 4000000 in
set_option maxRecDepth 100000 in
theorem x_tape1 {Z : zS} {d : Nat} {hd th : zHd} {hi : Int32} {tx : zTx} {sh : zSh} {tp : zTs} {R : zW} {c p q : Int32} (hc : c < 0 ∨ 6 ≤ c) : zF Z M_X7_tape (d + 1) [.ref 0, .int c, .int p, .int q] (wX hd th hi tx sh tp ++ R) [.int (-1)] (wX hd th hi tx sh tp ++ R) := by
  unfold zF
  rw [wXlen]
  show zG Z M_X7_tape (d + 1) _ (R.length + 41) 0 [(0, .ref 0), (1, .int c), (2, .int p), (3, .int q)] [] (wX hd th hi tx sh tp ++ R)
  refine s_iload_n dX7_tape_0 rfl ?_
  refine s_cs1 dX7_tape_1 g_X7_235 (c_X7_isTape) rfl rfl (Nat.le_of_ble_eq_true rfl) (Nat.le_of_ble_eq_true rfl) rfl ?_
  refine s_if_ne (tgt := 9) dX7_tape_4 (by decide) (fun hqz => absurd (zrN hc) hqz) (fun hz => ?_)
  clear hz
  refine s_iconst (v := (-1)) dX7_tape_7 rfl ?_
  exact s_iret dX7_tape_8 rfl ⟨rfl, rfl⟩ (by first | exact wXlen | rfl)
set_option maxHeartbeats 4000000 in
set_option maxRecDepth 100000 in
theorem x_tape_none {Z : zS} {d : Nat} {hd th : zHd} {hi : Int32} {tx : zTx} {sh : zSh} {tp : zTs} {R : zW} {j : Nat} {it : Nat → Int64} {so sz : Int32} (hj : j < 6) (ht : tpg tp j = (it, so, sz)) {q : Int32} : zF Z M_X7_tape (d + 1) [.ref 0, .int (nI j), .int (-1), .int q] (wX hd th hi tx sh tp ++ R) [.int 1] (wX hd th hi tx sh (tps tp j (zfil it 60, -1, 0)) ++ R) := by
  have ho := wXo (hd := hd) (th := th) (hi := hi) (tx := tx) (sh := sh) (tp := tp) (R := R) hj
  have hit := wXi (hd := hd) (th := th) (hi := hi) (tx := tx) (sh := sh) (tp := tp) (R := R) hj
  rw [ht] at ho hit
  unfold zF
  rw [wXlen]
  show zG Z M_X7_tape (d + 1) _ (R.length + 41) 0 [(0, .ref 0), (1, .int (nI j)), (2, .int (-1)), (3, .int q)] [] (wX hd th hi tx sh tp ++ R)
  refine s_iload_n dX7_tape_0 rfl ?_
  refine s_cs1 dX7_tape_1 g_X7_235 (c_X7_isTape) rfl rfl (Nat.le_of_ble_eq_true rfl) (Nat.le_of_ble_eq_true rfl) rfl ?_
  refine s_if_ne (tgt := 9) dX7_tape_4 (by decide) (fun hz => ?_) (fun hqz => absurd hqz (zrY (n := 6) hj (by decide)))
  clear hz
  refine s_iload_n dX7_tape_9 rfl ?_
  refine s_iconst (v := (-1)) dX7_tape_10 rfl ?_
  refine s_icmp_ne (tgt := 27) dX7_tape_11 (by decide) (fun hqz => absurd rfl hqz) (fun hz => ?_)
  clear hz
  refine s_aload_n dX7_tape_14 rfl ?_
  refine s_get dX7_tape_15 f_X7_41 (by first | assumption | rfl) (by rfl) ?_
  refine s_iload_n dX7_tape_18 rfl ?_
  refine s_aald dX7_tape_19 (by first | assumption | rfl) (zrd (n := 6) hj (by decide)) (hTA hj) ?_
  refine s_iconst (v := (-1)) dX7_tape_20 rfl ?_
  refine s_iconst (v := 0) dX7_tape_21 rfl ?_
  refine s_cv0 dX7_tape_22 g_X7_256 (c_X5_becomeRow ho hit (by omega)) (by first | assumption | rfl) rfl rfl rfl rfl (Nat.le_of_ble_eq_true rfl) (Nat.le_of_ble_eq_true rfl) rfl ?_
  refine s_iconst (v := 1) dX7_tape_25 rfl ?_
  exact s_iret dX7_tape_26 rfl ⟨rfl, by rw [wXso hj]⟩ (by rw [List.length_set, List.length_set, wXlen]; rfl)
theorem zgt4 {c : Int32} {n : Nat} (hn : n < 2 ^ 30) (h1 : ¬ nI n < c) : ¬ nI (n + 1) ≤ c := by
  rw [fa_lt, nI_toInt (by omega)] at h1
  rw [fa_le, nI_toInt (by omega)]
  omega
set_option maxHeartbeats 4000000 in
set_option maxRecDepth 100000 in
theorem x_tape2 {Z : zS} {d : Nat} {hd th : zHd} {hi : Int32} {tx : zTx} {sh : zSh} {tp : zTs} {R : zW} {j : Nat} {p q : Int32} (hj : j < 6) (h1 : ¬ p = -1) (hbad : p < 0 ∨ 5 ≤ p ∨ 61 ≤ q) : zF Z M_X7_tape (d + 1) [.ref 0, .int (nI j), .int p, .int q] (wX hd th hi tx sh tp ++ R) [.int (-2)] (wX hd th hi tx sh tp ++ R) := by
  unfold zF
  rw [wXlen]
  show zG Z M_X7_tape (d + 1) _ (R.length + 41) 0 [(0, .ref 0), (1, .int (nI j)), (2, .int p), (3, .int q)] [] (wX hd th hi tx sh tp ++ R)
  refine s_iload_n dX7_tape_0 rfl ?_
  refine s_cs1 dX7_tape_1 g_X7_235 (c_X7_isTape) rfl rfl (Nat.le_of_ble_eq_true rfl) (Nat.le_of_ble_eq_true rfl) rfl ?_
  refine s_if_ne (tgt := 9) dX7_tape_4 (by decide) (fun hz => ?_) (fun hqz => absurd hqz (zrY (n := 6) hj (by decide)))
  clear hz
  refine s_iload_n dX7_tape_9 rfl ?_
  refine s_iconst (v := (-1)) dX7_tape_10 rfl ?_
  refine s_icmp_ne (tgt := 27) dX7_tape_11 (by decide) (fun hz => ?_) (fun hqz => absurd hqz h1)
  clear hz
  refine s_iload_n dX7_tape_27 rfl ?_
  refine s_if_lt (tgt := 42) dX7_tape_28 (by decide) (fun h_28 => ?_) (fun h_28 => ?_)
  · refine s_bipush (v := (-2)) dX7_tape_42 rfl ?_
    exact s_iret dX7_tape_44 rfl ⟨rfl, rfl⟩ (by first | exact wXlen | rfl)
  · refine s_iload_n dX7_tape_31 rfl ?_
    refine s_iconst (v := 4) dX7_tape_32 rfl ?_
    refine s_icmp_gt (tgt := 42) dX7_tape_33 (by decide) (fun h_33 => ?_) (fun h_33 => ?_)
    · refine s_bipush (v := (-2)) dX7_tape_42 rfl ?_
      exact s_iret dX7_tape_44 rfl ⟨rfl, rfl⟩ (by first | exact wXlen | rfl)
    · refine s_iload_n dX7_tape_36 rfl ?_
      refine s_bipush (v := 60) dX7_tape_37 rfl ?_
      refine s_icmp_le (tgt := 45) dX7_tape_39 (by decide) (fun h_39 => ?_) (fun h_39 => ?_)
      · rcases hbad with h | h | h
        · exact absurd h h_28
        · exact absurd h (zgt4 (n := 4) (by decide) h_33)
        · exact absurd h_39 (zle3 (n := 60) (by decide) h)
      · refine s_bipush (v := (-2)) dX7_tape_42 rfl ?_
        exact s_iret dX7_tape_44 rfl ⟨rfl, rfl⟩ (by first | exact wXlen | rfl)
theorem zneg60 {q : Int32} (h : q < 0) : q ≤ 60 := by
  rw [fa_lt] at h
  rw [fa_le]
  have h0 : (0 : Int32).toInt = 0 := by decide
  have h6 : (60 : Int32).toInt = 60 := by decide
  omega
set_option maxHeartbeats 4000000 in
set_option maxRecDepth 100000 in
theorem x_tape3 {Z : zS} {d : Nat} {hd th : zHd} {hi : Int32} {tx : zTx} {sh : zSh} {tp : zTs} {R : zW} {j s : Nat} {q : Int32} (hj : j < 6) (hs : s < 5) (hq : q < 0) : zF Z M_X7_tape (d + 1) [.ref 0, .int (nI j), .int (nI s), .int q] (wX hd th hi tx sh tp ++ R) [.int (-14)] (wX hd th hi tx sh tp ++ R) := by
  unfold zF
  rw [wXlen]
  show zG Z M_X7_tape (d + 1) _ (R.length + 41) 0 [(0, .ref 0), (1, .int (nI j)), (2, .int (nI s)), (3, .int q)] [] (wX hd th hi tx sh tp ++ R)
  refine s_iload_n dX7_tape_0 rfl ?_
  refine s_cs1 dX7_tape_1 g_X7_235 (c_X7_isTape) rfl rfl (Nat.le_of_ble_eq_true rfl) (Nat.le_of_ble_eq_true rfl) rfl ?_
  refine s_if_ne (tgt := 9) dX7_tape_4 (by decide) (fun hz => ?_) (fun hqz => absurd hqz (zrY (n := 6) hj (by decide)))
  clear hz
  refine s_iload_n dX7_tape_9 rfl ?_
  refine s_iconst (v := (-1)) dX7_tape_10 rfl ?_
  refine s_icmp_ne (tgt := 27) dX7_tape_11 (by decide) (fun hz => ?_) (fun hqz => absurd hqz (znm (by omega)))
  clear hz
  refine s_iload_n dX7_tape_27 rfl ?_
  refine s_if_lt (tgt := 42) dX7_tape_28 (by decide) (fun hqz => absurd hqz (nI_pos (by omega))) (fun hz => ?_)
  clear hz
  refine s_iload_n dX7_tape_31 rfl ?_
  refine s_iconst (v := 4) dX7_tape_32 rfl ?_
  refine s_icmp_gt (tgt := 42) dX7_tape_33 (by decide) (fun hqz => absurd hqz (nI_nlt (show s ≤ 4 by omega) (by decide))) (fun hz => ?_)
  clear hz
  refine s_iload_n dX7_tape_36 rfl ?_
  refine s_bipush (v := 60) dX7_tape_37 rfl ?_
  refine s_icmp_le (tgt := 45) dX7_tape_39 (by decide) (fun hz => ?_) (fun hqz => absurd (zneg60 hq) hqz)
  clear hz
  refine s_iload_n dX7_tape_45 rfl ?_
  refine s_if_ge (tgt := 52) dX7_tape_46 (by decide) (fun hqz => absurd hqz (fun z => absurd hq (Int32.not_lt.mpr z))) (fun hz => ?_)
  clear hz
  refine s_bipush (v := (-14)) dX7_tape_49 rfl ?_
  exact s_iret dX7_tape_51 rfl ⟨rfl, rfl⟩ (by first | exact wXlen | rfl)
set_option maxHeartbeats 4000000 in
set_option maxRecDepth 100000 in
theorem x_tape {Z : zS} {d : Nat} {hd th : zHd} {hi : Int32} {tx : zTx} {sh : zSh} {tp : zTs} {R : zW} {j : Nat} {it : Nat → Int64} {so sz : Int32} (hj : j < 6) (ht : tpg tp j = (it, so, sz)) {s z : Nat} (hs : s < 5) (hz : z ≤ 60) : zF Z M_X7_tape (d + 1) [.ref 0, .int (nI j), .int (nI s), .int (nI z)] (wX hd th hi tx sh tp ++ R) [.int 1] (wX hd th hi tx sh (tps tp j (zfil it 60, nI s, nI z)) ++ R) := by
  have ho := wXo (hd := hd) (th := th) (hi := hi) (tx := tx) (sh := sh) (tp := tp) (R := R) hj
  have hit := wXi (hd := hd) (th := th) (hi := hi) (tx := tx) (sh := sh) (tp := tp) (R := R) hj
  rw [ht] at ho hit
  unfold zF
  rw [wXlen]
  show zG Z M_X7_tape (d + 1) _ (R.length + 41) 0 [(0, .ref 0), (1, .int (nI j)), (2, .int (nI s)), (3, .int (nI z))] [] (wX hd th hi tx sh tp ++ R)
  refine s_iload_n dX7_tape_0 rfl ?_
  refine s_cs1 dX7_tape_1 g_X7_235 (c_X7_isTape) rfl rfl (Nat.le_of_ble_eq_true rfl) (Nat.le_of_ble_eq_true rfl) rfl ?_
  refine s_if_ne (tgt := 9) dX7_tape_4 (by decide) (fun hz => ?_) (fun hqz => absurd hqz (zrY (n := 6) hj (by decide)))
  clear hz
  refine s_iload_n dX7_tape_9 rfl ?_
  refine s_iconst (v := (-1)) dX7_tape_10 rfl ?_
  refine s_icmp_ne (tgt := 27) dX7_tape_11 (by decide) (fun hz => ?_) (fun hqz => absurd hqz (znm (by omega)))
  clear hz
  refine s_iload_n dX7_tape_27 rfl ?_
  refine s_if_lt (tgt := 42) dX7_tape_28 (by decide) (fun hqz => absurd hqz (nI_pos (by omega))) (fun hz => ?_)
  clear hz
  refine s_iload_n dX7_tape_31 rfl ?_
  refine s_iconst (v := 4) dX7_tape_32 rfl ?_
  refine s_icmp_gt (tgt := 42) dX7_tape_33 (by decide) (fun hqz => absurd hqz (nI_nlt (show s ≤ 4 by omega) (by decide))) (fun hz => ?_)
  clear hz
  refine s_iload_n dX7_tape_36 rfl ?_
  refine s_bipush (v := 60) dX7_tape_37 rfl ?_
  refine s_icmp_le (tgt := 45) dX7_tape_39 (by decide) (fun hz => ?_) (fun hqz => absurd (nI_le hz (by decide)) hqz)
  clear hz
  refine s_iload_n dX7_tape_45 rfl ?_
  refine s_if_ge (tgt := 52) dX7_tape_46 (by decide) (fun hz => ?_) (fun hqz => absurd (nI_pos' (by omega)) hqz)
  clear hz
  refine s_aload_n dX7_tape_52 rfl ?_
  refine s_get dX7_tape_53 f_X7_41 (by first | assumption | rfl) (by rfl) ?_
  refine s_iload_n dX7_tape_56 rfl ?_
  refine s_aald dX7_tape_57 (by first | assumption | rfl) (zrd (n := 6) hj (by decide)) (hTA hj) ?_
  refine s_iload_n dX7_tape_58 rfl ?_
  refine s_iload_n dX7_tape_59 rfl ?_
  refine s_cv0 dX7_tape_60 g_X7_256 (c_X5_becomeRow ho hit (by omega)) (by first | assumption | rfl) rfl rfl rfl rfl (Nat.le_of_ble_eq_true rfl) (Nat.le_of_ble_eq_true rfl) rfl ?_
  refine s_iconst (v := 1) dX7_tape_63 rfl ?_
  exact s_iret dX7_tape_64 rfl ⟨rfl, by rw [wXso hj]⟩ (by rw [List.length_set, List.length_set, wXlen]; rfl)
set_option maxHeartbeats 4000000 in
set_option maxRecDepth 100000 in
theorem x_item1 {Z : zS} {d : Nat} {hd th : zHd} {hi : Int32} {tx : zTx} {sh : zSh} {tp : zTs} {R : zW} {c i : Int32} {v : Int64} (hc : c < 0 ∨ 6 ≤ c) : zF Z M_X7_item (d + 1) [.ref 0, .int c, .int i, .long v] (wX hd th hi tx sh tp ++ R) [.int (-1)] (wX hd th hi tx sh tp ++ R) := by
  unfold zF
  rw [wXlen]
  show zG Z M_X7_item (d + 1) _ (R.length + 41) 0 [(0, .ref 0), (1, .int c), (2, .int i), (3, .long v)] [] (wX hd th hi tx sh tp ++ R)
  refine s_iload_n dX7_item_0 rfl ?_
  refine s_cs1 dX7_item_1 g_X7_235 (c_X7_isTape) rfl rfl (Nat.le_of_ble_eq_true rfl) (Nat.le_of_ble_eq_true rfl) rfl ?_
  refine s_if_ne (tgt := 9) dX7_item_4 (by decide) (fun hqz => absurd (zrN hc) hqz) (fun hz => ?_)
  clear hz
  refine s_iconst (v := (-1)) dX7_item_7 rfl ?_
  exact s_iret dX7_item_8 rfl ⟨rfl, rfl⟩ (by first | exact wXlen | rfl)
set_option maxHeartbeats 4000000 in
set_option maxRecDepth 100000 in
theorem x_item2 {Z : zS} {d : Nat} {hd th : zHd} {hi : Int32} {tx : zTx} {sh : zSh} {tp : zTs} {R : zW} {j : Nat} {it : Nat → Int64} {sz : Int32} (hj : j < 6) (ht : tpg tp j = (it, -1, sz)) {i : Int32} {v : Int64} : zF Z M_X7_item (d + 1) [.ref 0, .int (nI j), .int i, .long v] (wX hd th hi tx sh tp ++ R) [.int (-11)] (wX hd th hi tx sh tp ++ R) := by
  have ho := wXo (hd := hd) (th := th) (hi := hi) (tx := tx) (sh := sh) (tp := tp) (R := R) hj
  have hit := wXi (hd := hd) (th := th) (hi := hi) (tx := tx) (sh := sh) (tp := tp) (R := R) hj
  rw [ht] at ho hit
  unfold zF
  rw [wXlen]
  show zG Z M_X7_item (d + 1) _ (R.length + 41) 0 [(0, .ref 0), (1, .int (nI j)), (2, .int i), (3, .long v)] [] (wX hd th hi tx sh tp ++ R)
  refine s_iload_n dX7_item_0 rfl ?_
  refine s_cs1 dX7_item_1 g_X7_235 (c_X7_isTape) rfl rfl (Nat.le_of_ble_eq_true rfl) (Nat.le_of_ble_eq_true rfl) rfl ?_
  refine s_if_ne (tgt := 9) dX7_item_4 (by decide) (fun hz => ?_) (fun hqz => absurd hqz (zrY (n := 6) hj (by decide)))
  clear hz
  refine s_aload_n dX7_item_9 rfl ?_
  refine s_get dX7_item_10 f_X7_41 (by first | assumption | rfl) (by rfl) ?_
  refine s_iload_n dX7_item_13 rfl ?_
  refine s_aald dX7_item_14 (by first | assumption | rfl) (zrd (n := 6) hj (by decide)) (hTA hj) ?_
  refine s_astore dX7_item_15 (Nat.le_of_ble_eq_true rfl) rfl ?_
  refine s_aload dX7_item_17 rfl ?_
  refine s_cv1 dX7_item_19 g_X7_238 (c_X5_holdsRow ho) (by first | assumption | rfl) rfl rfl rfl rfl (Nat.le_of_ble_eq_true rfl) (Nat.le_of_ble_eq_true rfl) rfl ?_
  refine s_if_ne (tgt := 28) dX7_item_22 (by decide) (fun hqz => absurd (if_pos rfl) hqz) (fun hz => ?_)
  clear hz
  refine s_bipush (v := (-11)) dX7_item_25 rfl ?_
  exact s_iret dX7_item_27 rfl ⟨rfl, rfl⟩ (by first | exact wXlen | rfl)
theorem zhr {s : Nat} (hs : s < 5) : ¬ (if nI s = -1 then (0 : Int32) else 1) = 0 := by
  rw [if_neg (znm (by omega))]
  decide
theorem zhpN {i : Int32} {z : Nat} (h : i < 0 ∨ nI z ≤ i) : (if i < 0 then (0 : Int32) else if nI z ≤ i then 0 else if 60 ≤ i then 0 else 1) = 0 := by
  by_cases h1 : i < 0
  · rw [if_pos h1]
  · rw [if_neg h1, if_pos (h.resolve_left h1)]
set_option maxHeartbeats 4000000 in
set_option maxRecDepth 100000 in
theorem x_item3 {Z : zS} {d : Nat} {hd th : zHd} {hi : Int32} {tx : zTx} {sh : zSh} {tp : zTs} {R : zW} {j : Nat} {it : Nat → Int64} {s z : Nat} (hj : j < 6) (ht : tpg tp j = (it, nI s, nI z)) (hs : s < 5) (hz : z ≤ 60) {i : Int32} {v : Int64} (hp : i < 0 ∨ nI z ≤ i) : zF Z M_X7_item (d + 1) [.ref 0, .int (nI j), .int i, .long v] (wX hd th hi tx sh tp ++ R) [.int (-13)] (wX hd th hi tx sh tp ++ R) := by
  have ho := wXo (hd := hd) (th := th) (hi := hi) (tx := tx) (sh := sh) (tp := tp) (R := R) hj
  have hit := wXi (hd := hd) (th := th) (hi := hi) (tx := tx) (sh := sh) (tp := tp) (R := R) hj
  rw [ht] at ho hit
  unfold zF
  rw [wXlen]
  show zG Z M_X7_item (d + 1) _ (R.length + 41) 0 [(0, .ref 0), (1, .int (nI j)), (2, .int i), (3, .long v)] [] (wX hd th hi tx sh tp ++ R)
  refine s_iload_n dX7_item_0 rfl ?_
  refine s_cs1 dX7_item_1 g_X7_235 (c_X7_isTape) rfl rfl (Nat.le_of_ble_eq_true rfl) (Nat.le_of_ble_eq_true rfl) rfl ?_
  refine s_if_ne (tgt := 9) dX7_item_4 (by decide) (fun hz => ?_) (fun hqz => absurd hqz (zrY (n := 6) hj (by decide)))
  clear hz
  refine s_aload_n dX7_item_9 rfl ?_
  refine s_get dX7_item_10 f_X7_41 (by first | assumption | rfl) (by rfl) ?_
  refine s_iload_n dX7_item_13 rfl ?_
  refine s_aald dX7_item_14 (by first | assumption | rfl) (zrd (n := 6) hj (by decide)) (hTA hj) ?_
  refine s_astore dX7_item_15 (Nat.le_of_ble_eq_true rfl) rfl ?_
  refine s_aload dX7_item_17 rfl ?_
  refine s_cv1 dX7_item_19 g_X7_238 (c_X5_holdsRow ho) (by first | assumption | rfl) rfl rfl rfl rfl (Nat.le_of_ble_eq_true rfl) (Nat.le_of_ble_eq_true rfl) rfl ?_
  refine s_if_ne (tgt := 28) dX7_item_22 (by decide) (fun hz => ?_) (fun hqz => absurd hqz (zhr hs))
  clear hz
  refine s_aload dX7_item_28 rfl ?_
  refine s_iload_n dX7_item_30 rfl ?_
  refine s_cv1 dX7_item_31 g_X7_245 (c_X5_hasPlace ho) (by first | assumption | rfl) rfl rfl rfl rfl (Nat.le_of_ble_eq_true rfl) (Nat.le_of_ble_eq_true rfl) rfl ?_
  refine s_if_ne (tgt := 40) dX7_item_34 (by decide) (fun hqz => absurd (zhpN hp) hqz) (fun hz => ?_)
  clear hz
  refine s_bipush (v := (-13)) dX7_item_37 rfl ?_
  exact s_iret dX7_item_39 rfl ⟨rfl, rfl⟩ (by first | exact wXlen | rfl)
set_option maxHeartbeats 4000000 in
set_option maxRecDepth 100000 in
theorem x_item {Z : zS} {d : Nat} {hd th : zHd} {hi : Int32} {tx : zTx} {sh : zSh} {tp : zTs} {R : zW} {j : Nat} {it : Nat → Int64} {s z : Nat} (hj : j < 6) (ht : tpg tp j = (it, nI s, nI z)) (hs : s < 5) (hz : z ≤ 60) {p : Nat} {v : Int64} (hp : p < z) : zF Z M_X7_item (d + 2) [.ref 0, .int (nI j), .int (nI p), .long v] (wX hd th hi tx sh tp ++ R) [.int 1] (wX hd th hi tx sh (tps tp j (vp_updL it p (zcut s v), nI s, nI z)) ++ R) := by
  have ho := wXo (hd := hd) (th := th) (hi := hi) (tx := tx) (sh := sh) (tp := tp) (R := R) hj
  have hit := wXi (hd := hd) (th := th) (hi := hi) (tx := tx) (sh := sh) (tp := tp) (R := R) hj
  rw [ht] at ho hit
  unfold zF
  rw [wXlen]
  show zG Z M_X7_item (d + 2) _ (R.length + 41) 0 [(0, .ref 0), (1, .int (nI j)), (2, .int (nI p)), (3, .long v)] [] (wX hd th hi tx sh tp ++ R)
  refine s_iload_n dX7_item_0 rfl ?_
  refine s_cs1 dX7_item_1 g_X7_235 (c_X7_isTape) rfl rfl (Nat.le_of_ble_eq_true rfl) (Nat.le_of_ble_eq_true rfl) rfl ?_
  refine s_if_ne (tgt := 9) dX7_item_4 (by decide) (fun hz => ?_) (fun hqz => absurd hqz (zrY (n := 6) hj (by decide)))
  clear hz
  refine s_aload_n dX7_item_9 rfl ?_
  refine s_get dX7_item_10 f_X7_41 (by first | assumption | rfl) (by rfl) ?_
  refine s_iload_n dX7_item_13 rfl ?_
  refine s_aald dX7_item_14 (by first | assumption | rfl) (zrd (n := 6) hj (by decide)) (hTA hj) ?_
  refine s_astore dX7_item_15 (Nat.le_of_ble_eq_true rfl) rfl ?_
  refine s_aload dX7_item_17 rfl ?_
  refine s_cv1 dX7_item_19 g_X7_238 (c_X5_holdsRow ho) (by first | assumption | rfl) rfl rfl rfl rfl (Nat.le_of_ble_eq_true rfl) (Nat.le_of_ble_eq_true rfl) rfl ?_
  refine s_if_ne (tgt := 28) dX7_item_22 (by decide) (fun hz => ?_) (fun hqz => absurd hqz (zhr hs))
  clear hz
  refine s_aload dX7_item_28 rfl ?_
  refine s_iload_n dX7_item_30 rfl ?_
  refine s_cv1 dX7_item_31 g_X7_245 (c_X5_hasPlace ho) (by first | assumption | rfl) rfl rfl rfl rfl (Nat.le_of_ble_eq_true rfl) (Nat.le_of_ble_eq_true rfl) rfl ?_
  refine s_if_ne (tgt := 40) dX7_item_34 (by decide) (fun hz => ?_) (fun hqz => absurd hqz (by rw [zhp hp hz]; decide))
  clear hz
  refine s_aload dX7_item_40 rfl ?_
  refine s_iload_n dX7_item_42 rfl ?_
  refine s_lload_n dX7_item_43 rfl ?_
  refine s_cv0 dX7_item_44 g_X7_260 (c_X5_put ho hit hs hp hz) (by first | assumption | rfl) rfl rfl rfl rfl (Nat.le_of_ble_eq_true rfl) (Nat.le_of_ble_eq_true rfl) rfl ?_
  refine s_iconst (v := 1) dX7_item_47 rfl ?_
  exact s_iret dX7_item_48 rfl ⟨rfl, by rw [wXsi hj, ht]⟩ (by rw [List.length_set, wXlen]; rfl)
set_option maxHeartbeats 4000000 in
set_option maxRecDepth 100000 in
theorem x_peek1 {Z : zS} {d : Nat} {hd th : zHd} {hi : Int32} {tx : zTx} {sh : zSh} {tp : zTs} {R : zW} {c i : Int32} (hc : c < 0 ∨ 6 ≤ c) : zF Z M_X7_peek (d + 1) [.ref 0, .int c, .int i] (wX hd th hi tx sh tp ++ R) [.long (-9223372036854775808)] (wX hd th hi tx sh tp ++ R) := by
  unfold zF
  rw [wXlen]
  show zG Z M_X7_peek (d + 1) _ (R.length + 41) 0 [(0, .ref 0), (1, .int c), (2, .int i)] [] (wX hd th hi tx sh tp ++ R)
  refine s_iload_n dX7_peek_0 rfl ?_
  refine s_cs1 dX7_peek_1 g_X7_235 (c_X7_isTape) rfl rfl (Nat.le_of_ble_eq_true rfl) (Nat.le_of_ble_eq_true rfl) rfl ?_
  refine s_if_eq (tgt := 20) dX7_peek_4 (by decide) (fun hz => ?_) (fun hqz => absurd (zrN hc) hqz)
  clear hz
  refine s_ldc2 (v := (-9223372036854775808)) dX7_peek_20 (zin 504 (by decide +kernel) (by decide +kernel)) ?_
  exact s_lret dX7_peek_23 rfl ⟨rfl, rfl⟩ (by first | exact wXlen | rfl)
set_option maxHeartbeats 4000000 in
set_option maxRecDepth 100000 in
theorem x_peek2 {Z : zS} {d : Nat} {hd th : zHd} {hi : Int32} {tx : zTx} {sh : zSh} {tp : zTs} {R : zW} {j : Nat} {it : Nat → Int64} {so : Int32} {z : Nat} (hj : j < 6) (ht : tpg tp j = (it, so, nI z)) {i : Int32} (hp : i < 0 ∨ nI z ≤ i) : zF Z M_X7_peek (d + 1) [.ref 0, .int (nI j), .int i] (wX hd th hi tx sh tp ++ R) [.long (-9223372036854775808)] (wX hd th hi tx sh tp ++ R) := by
  have ho := wXo (hd := hd) (th := th) (hi := hi) (tx := tx) (sh := sh) (tp := tp) (R := R) hj
  have hit := wXi (hd := hd) (th := th) (hi := hi) (tx := tx) (sh := sh) (tp := tp) (R := R) hj
  rw [ht] at ho hit
  unfold zF
  rw [wXlen]
  show zG Z M_X7_peek (d + 1) _ (R.length + 41) 0 [(0, .ref 0), (1, .int (nI j)), (2, .int i)] [] (wX hd th hi tx sh tp ++ R)
  refine s_iload_n dX7_peek_0 rfl ?_
  refine s_cs1 dX7_peek_1 g_X7_235 (c_X7_isTape) rfl rfl (Nat.le_of_ble_eq_true rfl) (Nat.le_of_ble_eq_true rfl) rfl ?_
  refine s_if_eq (tgt := 20) dX7_peek_4 (by decide) (fun hqz => absurd hqz (zrY (n := 6) hj (by decide))) (fun hz => ?_)
  clear hz
  refine s_aload_n dX7_peek_7 rfl ?_
  refine s_get dX7_peek_8 f_X7_41 (by first | assumption | rfl) (by rfl) ?_
  refine s_iload_n dX7_peek_11 rfl ?_
  refine s_aald dX7_peek_12 (by first | assumption | rfl) (zrd (n := 6) hj (by decide)) (hTA hj) ?_
  refine s_iload_n dX7_peek_13 rfl ?_
  refine s_cv1 dX7_peek_14 g_X7_245 (c_X5_hasPlace ho) (by first | assumption | rfl) rfl rfl rfl rfl (Nat.le_of_ble_eq_true rfl) (Nat.le_of_ble_eq_true rfl) rfl ?_
  refine s_if_ne (tgt := 24) dX7_peek_17 (by decide) (fun hqz => absurd (zhpN hp) hqz) (fun hz => ?_)
  clear hz
  refine s_ldc2 (v := (-9223372036854775808)) dX7_peek_20 (zin 504 (by decide +kernel) (by decide +kernel)) ?_
  exact s_lret dX7_peek_23 rfl ⟨rfl, rfl⟩ (by first | exact wXlen | rfl)
set_option maxHeartbeats 4000000 in
set_option maxRecDepth 100000 in
theorem x_peek {Z : zS} {d : Nat} {hd th : zHd} {hi : Int32} {tx : zTx} {sh : zSh} {tp : zTs} {R : zW} {j : Nat} {it : Nat → Int64} {so : Int32} {z : Nat} (hj : j < 6) (ht : tpg tp j = (it, so, nI z)) (hz : z ≤ 60) {p : Nat} (hp : p < z) : zF Z M_X7_peek (d + 2) [.ref 0, .int (nI j), .int (nI p)] (wX hd th hi tx sh tp ++ R) [.long (it p)] (wX hd th hi tx sh tp ++ R) := by
  have ho := wXo (hd := hd) (th := th) (hi := hi) (tx := tx) (sh := sh) (tp := tp) (R := R) hj
  have hit := wXi (hd := hd) (th := th) (hi := hi) (tx := tx) (sh := sh) (tp := tp) (R := R) hj
  rw [ht] at ho hit
  unfold zF
  rw [wXlen]
  show zG Z M_X7_peek (d + 2) _ (R.length + 41) 0 [(0, .ref 0), (1, .int (nI j)), (2, .int (nI p))] [] (wX hd th hi tx sh tp ++ R)
  refine s_iload_n dX7_peek_0 rfl ?_
  refine s_cs1 dX7_peek_1 g_X7_235 (c_X7_isTape) rfl rfl (Nat.le_of_ble_eq_true rfl) (Nat.le_of_ble_eq_true rfl) rfl ?_
  refine s_if_eq (tgt := 20) dX7_peek_4 (by decide) (fun hqz => absurd hqz (zrY (n := 6) hj (by decide))) (fun hz => ?_)
  clear hz
  refine s_aload_n dX7_peek_7 rfl ?_
  refine s_get dX7_peek_8 f_X7_41 (by first | assumption | rfl) (by rfl) ?_
  refine s_iload_n dX7_peek_11 rfl ?_
  refine s_aald dX7_peek_12 (by first | assumption | rfl) (zrd (n := 6) hj (by decide)) (hTA hj) ?_
  refine s_iload_n dX7_peek_13 rfl ?_
  refine s_cv1 dX7_peek_14 g_X7_245 (c_X5_hasPlace ho) (by first | assumption | rfl) rfl rfl rfl rfl (Nat.le_of_ble_eq_true rfl) (Nat.le_of_ble_eq_true rfl) rfl ?_
  refine s_if_ne (tgt := 24) dX7_peek_17 (by decide) (fun hz => ?_) (fun hqz => absurd hqz (by rw [zhp hp hz]; decide))
  clear hz
  refine s_aload_n dX7_peek_24 rfl ?_
  refine s_get dX7_peek_25 f_X7_41 (by first | assumption | rfl) (by rfl) ?_
  refine s_iload_n dX7_peek_28 rfl ?_
  refine s_aald dX7_peek_29 (by first | assumption | rfl) (zrd (n := 6) hj (by decide)) (hTA hj) ?_
  refine s_iload_n dX7_peek_30 rfl ?_
  refine s_cv1 dX7_peek_31 g_X7_248 (c_X5_itemAt ho hit hp hz) (by first | assumption | rfl) rfl rfl rfl rfl (Nat.le_of_ble_eq_true rfl) (Nat.le_of_ble_eq_true rfl) rfl ?_
  exact s_lret dX7_peek_34 rfl ⟨rfl, rfl⟩ (by first | exact wXlen | rfl)
