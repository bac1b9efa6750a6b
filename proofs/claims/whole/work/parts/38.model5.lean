/-! ===== the model: faces ===== -/
theorem zss {w : zW} {k : Nat} {e : va_E} (h : w[k]? = some e) : w.set k e = w := by
  apply List.ext_getElem?
  intro i
  rw [List.getElem?_set]
  by_cases c : k = i
  · subst c
    rw [if_pos rfl, if_pos (zlt h), h]
  · rw [if_neg c]
def fcL (b : Nat) (g : Nat → Int32) : Nat → Nat → Int32
  | 0 => g
  | i + 1 => if i ≠ 171 ∧ hvQ b i ≠ b ∧ 2 < pPOP (hvQ b i) then upd (fcL b g i) (hvQ b i) 1 else fcL b g i
def fcF (b : Nat) (f : Nat → Int32) : Nat → Int32 := if b = 0 then zfI f 256 else fcL b (zfI f 256) 343
theorem fcL_val {b c : Nat} {g : Nat → Int32} (hg : g c = 0) : ∀ n, (fcL b g n c = 1 ∧ ∃ j, j < n ∧ j ≠ 171 ∧ hvQ b j ≠ b ∧ 2 < pPOP (hvQ b j) ∧ hvQ b j = c) ∨ (fcL b g n c = 0 ∧ ¬ ∃ j, j < n ∧ j ≠ 171 ∧ hvQ b j ≠ b ∧ 2 < pPOP (hvQ b j) ∧ hvQ b j = c)
  | 0 => Or.inr ⟨hg, fun ⟨j, h, _⟩ => absurd h (Nat.not_lt_zero j)⟩
  | n + 1 => by
    have ih := fcL_val (b := b) hg n
    unfold fcL
    by_cases k : n ≠ 171 ∧ hvQ b n ≠ b ∧ 2 < pPOP (hvQ b n)
    · rw [if_pos k]
      unfold upd
      by_cases k2 : c = hvQ b n
      · rw [if_pos k2]
        exact Or.inl ⟨rfl, n, Nat.lt_succ_self n, k.1, k.2.1, k.2.2, k2.symm⟩
      · rw [if_neg k2]
        rcases ih with ⟨h1, j, h2, h3⟩ | ⟨h1, h2⟩
        · exact Or.inl ⟨h1, j, by omega, h3⟩
        · refine Or.inr ⟨h1, ?_⟩
          rintro ⟨j, h3, h4, h5, h6, h7⟩
          rcases (show j < n ∨ j = n by omega) with h8 | h8
          · exact h2 ⟨j, h8, h4, h5, h6, h7⟩
          · rw [h8] at h7; exact k2 h7.symm
    · rw [if_neg k]
      rcases ih with ⟨h1, j, h2, h3⟩ | ⟨h1, h2⟩
      · exact Or.inl ⟨h1, j, by omega, h3⟩
      · refine Or.inr ⟨h1, ?_⟩
        rintro ⟨j, h3, h4, h5, h6, h7⟩
        rcases (show j < n ∨ j = n by omega) with h8 | h8
        · exact h2 ⟨j, h8, h4, h5, h6, h7⟩
        · subst h8; exact k ⟨h4, h5, h6⟩
theorem fcF_val {b c : Nat} (f : Nat → Int32) (hb : b < 256) (hc : c < 256) : fcF b f c = if kFC b c = true then 1 else 0 := by
  have hz := zfI_0 f 256 c hc
  by_cases h0 : b = 0
  · subst h0
    rw [fcF, if_pos rfl, hz]
    rfl
  · rw [fcF, if_neg h0]
    rcases fcL_val (b := b) hz 343 with ⟨h1, h2⟩ | ⟨h1, h2⟩
    · rw [h1, if_pos ((fc_iff hb h0).mpr h2)]
    · rw [h1, if_neg (fun q => h2 ((fc_iff hb h0).mp q))]
theorem q_nar0 : vp_nar .boolean 0 = 0 := by decide +kernel
theorem q_nar1 : vp_nar .boolean 1 = 1 := by decide +kernel
set_option maxHeartbeats 4000000 in
set_option maxRecDepth 100000 in
theorem l_ff1 {Z : zS} {d : Nat} {w : zW} {Q : List Value → zW → Prop} {mb mk mf ma mc ms me mq mu mh mp : Int32} (ho : w[41]? = some (oM mb mk mf ma mc ms me mq mu mh mp)) {f : Nat → Int32} (hfc : w[47]? = some (aZ 256 f)) {b : Nat} (K : zG Z M_X8_findFaces (d + 5) Q w.length 22 [(0, .ref 41), (1, .int (nI b)), (2, .int (nI 256))] [] (w.set 47 (aZ 256 (zfI f 256)))) : ∀ (n : Nat) (i : Nat), i + n = 256 → zG Z M_X8_findFaces (d + 5) Q w.length 2 [(0, .ref 41), (1, .int (nI b)), (2, .int (nI i))] [] (w.set 47 (aZ 256 (zfI f i))) := by
  intro n
  induction n with
  | zero =>
    intro i hi
    have hi : i = 256 := by omega
    subst hi
    refine s_iload_n dX8_findFaces_2 rfl ?_
    refine s_sipush (v := 256) dX8_findFaces_3 rfl ?_
    refine s_icmp_ge (tgt := 22) dX8_findFaces_6 (by decide) (fun hz => ?_) (fun hqz => absurd (by decide) hqz)
    clear hz
    exact K
  | succ n ih =>
    intro i hi
    have hm : i < 256 := by omega
    refine s_iload_n dX8_findFaces_2 rfl ?_
    refine s_sipush (v := 256) dX8_findFaces_3 rfl ?_
    refine s_icmp_ge (tgt := 22) dX8_findFaces_6 (by decide) (fun hqz => absurd hqz (nI_ge hm (by decide))) (fun hz => ?_)
    clear hz
    refine s_aload_n dX8_findFaces_9 rfl ?_
    refine s_get dX8_findFaces_10 f_X8_31 (by first | exact zg1 ho (by decide) | exact zgs (zlt hfc)) (by rfl) ?_
    refine s_iload_n dX8_findFaces_13 rfl ?_
    refine s_iconst (v := 0) dX8_findFaces_14 rfl ?_
    refine s_zast dX8_findFaces_15 (by first | exact zg1 ho (by decide) | exact zgs (zlt hfc)) (zrd (n := 256) hm (by decide)) ?_
    refine s_iinc (nI (i + 1)) dX8_findFaces_16 rfl (nI_1 _) (Nat.le_of_ble_eq_true rfl) rfl ?_
    refine s_goto (tgt := 2) dX8_findFaces_19 (by decide) ?_
    rw [List.set_set, nI_clamp (by omega), q_nar0]
    exact ih (i + 1) (by omega)
set_option maxHeartbeats 4000000 in
set_option maxRecDepth 100000 in
theorem l_ff2 {Z : zS} {d : Nat} {w : zW} {Q : List Value → zW → Prop} {mb mk mf ma mc ms me mq mu mh mp : Int32} (ho : w[41]? = some (oM mb mk mf ma mc ms me mq mu mh mp)) {f : Nat → Int32} (hfc : w[47]? = some (aZ 256 f)) {g : Nat → Int32} {b : Nat} (hb : b < 256) (h0 : b ≠ 0) (K : zG Z M_X8_findFaces (d + 5) Q w.length 74 [(0, .ref 41), (1, .int (nI b)), (2, .int (nI 343))] [] (w.set 47 (aZ 256 (fcL b g 343)))) : ∀ (n : Nat) (i : Nat), i + n = 343 → zG Z M_X8_findFaces (d + 5) Q w.length 24 [(0, .ref 41), (1, .int (nI b)), (2, .int (nI i))] [] (w.set 47 (aZ 256 (fcL b g i))) := by
  intro n
  induction n with
  | zero =>
    intro i hi
    have hi : i = 343 := by omega
    subst hi
    refine s_iload_n dX8_findFaces_24 rfl ?_
    refine s_sipush (v := 343) dX8_findFaces_25 rfl ?_
    refine s_icmp_ge (tgt := 74) dX8_findFaces_28 (by decide) (fun hz => ?_) (fun hqz => absurd (by decide) hqz)
    clear hz
    refine s_take 3 ?_
    exact K
  | succ n ih =>
    intro i hi
    have hm : i < 343 := by omega
    have hv31 : hvQ b i < 2 ^ 31 := Nat.lt_trans (hvQ_lt b i) (by decide)
    by_cases h1 : i = 171
    · refine s_iload_n dX8_findFaces_24 rfl ?_
      refine s_sipush (v := 343) dX8_findFaces_25 rfl ?_
      refine s_icmp_ge (tgt := 74) dX8_findFaces_28 (by decide) (fun hqz => absurd hqz (nI_ge hm (by decide))) (fun hz => ?_)
      clear hz
      refine s_iload_n dX8_findFaces_31 rfl ?_
      refine s_if_le (tgt := 74) dX8_findFaces_32 (by decide) (fun hqz => absurd hqz (fun q => h0 (by have := (nI_leI (show b < 2 ^ 31 by omega) (show 0 < 2 ^ 31 by decide)).mp q; omega))) (fun hz => ?_)
      clear hz
      refine s_iload_n dX8_findFaces_35 rfl ?_
      refine s_iload_n dX8_findFaces_36 rfl ?_
      refine s_cs1 dX8_findFaces_37 g_X8_98 (c_X8_heaviest hb hm) rfl rfl (Nat.le_of_ble_eq_true rfl) (Nat.le_of_ble_eq_true rfl) rfl ?_
      refine s_istore_n dX8_findFaces_40 (Nat.le_of_ble_eq_true rfl) rfl ?_
      refine s_iload_n dX8_findFaces_41 rfl ?_
      refine s_cs1 dX8_findFaces_42 g_X8_101 (c_X8_isNought hm) rfl rfl (Nat.le_of_ble_eq_true rfl) (Nat.le_of_ble_eq_true rfl) rfl ?_
      refine s_if_ne (tgt := 68) dX8_findFaces_45 (by decide) (fun hz => ?_) (fun hqz => absurd hqz (by rw [if_pos h1]; decide))
      clear hz
      refine s_iinc (nI (i + 1)) dX8_findFaces_68 rfl (nI_1 _) (Nat.le_of_ble_eq_true rfl) rfl ?_
      refine s_goto (tgt := 24) dX8_findFaces_71 (by decide) ?_
      rw [show fcL b g i = fcL b g (i + 1) from by rw [fcL, if_neg (fun q => q.1 h1)]]
      refine s_take 3 ?_
      exact ih (i + 1) (by omega)
    by_cases h2 : hvQ b i = b
    · refine s_iload_n dX8_findFaces_24 rfl ?_
      refine s_sipush (v := 343) dX8_findFaces_25 rfl ?_
      refine s_icmp_ge (tgt := 74) dX8_findFaces_28 (by decide) (fun hqz => absurd hqz (nI_ge hm (by decide))) (fun hz => ?_)
      clear hz
      refine s_iload_n dX8_findFaces_31 rfl ?_
      refine s_if_le (tgt := 74) dX8_findFaces_32 (by decide) (fun hqz => absurd hqz (fun q => h0 (by have := (nI_leI (show b < 2 ^ 31 by omega) (show 0 < 2 ^ 31 by decide)).mp q; omega))) (fun hz => ?_)
      clear hz
      refine s_iload_n dX8_findFaces_35 rfl ?_
      refine s_iload_n dX8_findFaces_36 rfl ?_
      refine s_cs1 dX8_findFaces_37 g_X8_98 (c_X8_heaviest hb hm) rfl rfl (Nat.le_of_ble_eq_true rfl) (Nat.le_of_ble_eq_true rfl) rfl ?_
      refine s_istore_n dX8_findFaces_40 (Nat.le_of_ble_eq_true rfl) rfl ?_
      refine s_iload_n dX8_findFaces_41 rfl ?_
      refine s_cs1 dX8_findFaces_42 g_X8_101 (c_X8_isNought hm) rfl rfl (Nat.le_of_ble_eq_true rfl) (Nat.le_of_ble_eq_true rfl) rfl ?_
      refine s_if_ne (tgt := 68) dX8_findFaces_45 (by decide) (fun hqz => absurd (if_neg h1) hqz) (fun hz => ?_)
      clear hz
      refine s_iload_n dX8_findFaces_48 rfl ?_
      refine s_iload_n dX8_findFaces_49 rfl ?_
      refine s_icmp_eq (tgt := 68) dX8_findFaces_50 (by decide) (fun hz => ?_) (fun hqz => absurd (by rw [h2]) hqz)
      clear hz
      refine s_iinc (nI (i + 1)) dX8_findFaces_68 rfl (nI_1 _) (Nat.le_of_ble_eq_true rfl) rfl ?_
      refine s_goto (tgt := 24) dX8_findFaces_71 (by decide) ?_
      rw [show fcL b g i = fcL b g (i + 1) from by rw [fcL, if_neg (fun q => q.2.1 h2)]]
      refine s_take 3 ?_
      exact ih (i + 1) (by omega)
    by_cases h3 : 2 < pPOP (hvQ b i)
    · refine s_iload_n dX8_findFaces_24 rfl ?_
      refine s_sipush (v := 343) dX8_findFaces_25 rfl ?_
      refine s_icmp_ge (tgt := 74) dX8_findFaces_28 (by decide) (fun hqz => absurd hqz (nI_ge hm (by decide))) (fun hz => ?_)
      clear hz
      refine s_iload_n dX8_findFaces_31 rfl ?_
      refine s_if_le (tgt := 74) dX8_findFaces_32 (by decide) (fun hqz => absurd hqz (fun q => h0 (by have := (nI_leI (show b < 2 ^ 31 by omega) (show 0 < 2 ^ 31 by decide)).mp q; omega))) (fun hz => ?_)
      clear hz
      refine s_iload_n dX8_findFaces_35 rfl ?_
      refine s_iload_n dX8_findFaces_36 rfl ?_
      refine s_cs1 dX8_findFaces_37 g_X8_98 (c_X8_heaviest hb hm) rfl rfl (Nat.le_of_ble_eq_true rfl) (Nat.le_of_ble_eq_true rfl) rfl ?_
      refine s_istore_n dX8_findFaces_40 (Nat.le_of_ble_eq_true rfl) rfl ?_
      refine s_iload_n dX8_findFaces_41 rfl ?_
      refine s_cs1 dX8_findFaces_42 g_X8_101 (c_X8_isNought hm) rfl rfl (Nat.le_of_ble_eq_true rfl) (Nat.le_of_ble_eq_true rfl) rfl ?_
      refine s_if_ne (tgt := 68) dX8_findFaces_45 (by decide) (fun hqz => absurd (if_neg h1) hqz) (fun hz => ?_)
      clear hz
      refine s_iload_n dX8_findFaces_48 rfl ?_
      refine s_iload_n dX8_findFaces_49 rfl ?_
      refine s_icmp_eq (tgt := 68) dX8_findFaces_50 (by decide) (fun hqz => absurd hqz (fun q => h2 ((nI_eq hv31 (by omega)).mp q))) (fun hz => ?_)
      clear hz
      refine s_iload_n dX8_findFaces_53 rfl ?_
      refine s_cs1 dX8_findFaces_54 g_X8_105 (c_X8_bits (hvQ_lt b i)) rfl rfl (Nat.le_of_ble_eq_true rfl) (Nat.le_of_ble_eq_true rfl) rfl ?_
      refine s_iconst (v := 2) dX8_findFaces_57 rfl ?_
      refine s_icmp_le (tgt := 68) dX8_findFaces_58 (by decide) (fun hqz => absurd hqz (nI_ge h3 (by have := pPOP_le (hvQ b i); omega))) (fun hz => ?_)
      clear hz
      refine s_aload_n dX8_findFaces_61 rfl ?_
      refine s_get dX8_findFaces_62 f_X8_31 (by first | exact zg1 ho (by decide) | exact zgs (zlt hfc)) (by rfl) ?_
      refine s_iload_n dX8_findFaces_65 rfl ?_
      refine s_iconst (v := 1) dX8_findFaces_66 rfl ?_
      refine s_zast dX8_findFaces_67 (by first | exact zg1 ho (by decide) | exact zgs (zlt hfc)) (zrd (n := 256) (hvQ_lt b i) (by decide)) ?_
      refine s_iinc (nI (i + 1)) dX8_findFaces_68 rfl (nI_1 _) (Nat.le_of_ble_eq_true rfl) rfl ?_
      refine s_goto (tgt := 24) dX8_findFaces_71 (by decide) ?_
      rw [List.set_set, nI_clamp hv31, q_nar1, show upd (fcL b g i) (hvQ b i) 1 = fcL b g (i + 1) from by rw [fcL, if_pos ⟨h1, h2, h3⟩]]
      refine s_take 3 ?_
      exact ih (i + 1) (by omega)
    · refine s_iload_n dX8_findFaces_24 rfl ?_
      refine s_sipush (v := 343) dX8_findFaces_25 rfl ?_
      refine s_icmp_ge (tgt := 74) dX8_findFaces_28 (by decide) (fun hqz => absurd hqz (nI_ge hm (by decide))) (fun hz => ?_)
      clear hz
      refine s_iload_n dX8_findFaces_31 rfl ?_
      refine s_if_le (tgt := 74) dX8_findFaces_32 (by decide) (fun hqz => absurd hqz (fun q => h0 (by have := (nI_leI (show b < 2 ^ 31 by omega) (show 0 < 2 ^ 31 by decide)).mp q; omega))) (fun hz => ?_)
      clear hz
      refine s_iload_n dX8_findFaces_35 rfl ?_
      refine s_iload_n dX8_findFaces_36 rfl ?_
      refine s_cs1 dX8_findFaces_37 g_X8_98 (c_X8_heaviest hb hm) rfl rfl (Nat.le_of_ble_eq_true rfl) (Nat.le_of_ble_eq_true rfl) rfl ?_
      refine s_istore_n dX8_findFaces_40 (Nat.le_of_ble_eq_true rfl) rfl ?_
      refine s_iload_n dX8_findFaces_41 rfl ?_
      refine s_cs1 dX8_findFaces_42 g_X8_101 (c_X8_isNought hm) rfl rfl (Nat.le_of_ble_eq_true rfl) (Nat.le_of_ble_eq_true rfl) rfl ?_
      refine s_if_ne (tgt := 68) dX8_findFaces_45 (by decide) (fun hqz => absurd (if_neg h1) hqz) (fun hz => ?_)
      clear hz
      refine s_iload_n dX8_findFaces_48 rfl ?_
      refine s_iload_n dX8_findFaces_49 rfl ?_
      refine s_icmp_eq (tgt := 68) dX8_findFaces_50 (by decide) (fun hqz => absurd hqz (fun q => h2 ((nI_eq hv31 (by omega)).mp q))) (fun hz => ?_)
      clear hz
      refine s_iload_n dX8_findFaces_53 rfl ?_
      refine s_cs1 dX8_findFaces_54 g_X8_105 (c_X8_bits (hvQ_lt b i)) rfl rfl (Nat.le_of_ble_eq_true rfl) (Nat.le_of_ble_eq_true rfl) rfl ?_
      refine s_iconst (v := 2) dX8_findFaces_57 rfl ?_
      refine s_icmp_le (tgt := 68) dX8_findFaces_58 (by decide) (fun hz => ?_) (fun hqz => absurd (nI_le (show pPOP (hvQ b i) ≤ 2 by omega) (by decide)) hqz)
      clear hz
      refine s_iinc (nI (i + 1)) dX8_findFaces_68 rfl (nI_1 _) (Nat.le_of_ble_eq_true rfl) rfl ?_
      refine s_goto (tgt := 24) dX8_findFaces_71 (by decide) ?_
      rw [show fcL b g i = fcL b g (i + 1) from by rw [fcL, if_neg (fun q => h3 q.2.2)]]
      refine s_take 3 ?_
      exact ih (i + 1) (by omega)
set_option maxHeartbeats 4000000 in
set_option maxRecDepth 100000 in
theorem l_ff3 {Z : zS} {d : Nat} {w : zW} {mb mk mf ma mc ms me mq mu mh mp : Int32} (ho : w[41]? = some (oM mb mk mf ma mc ms me mq mu mh mp)) {f : Nat → Int32} (hfc : w[47]? = some (aZ 256 f)) {b : Nat} (hb : b < 256) : ∀ (n : Nat) (i a : Nat), i + n = 256 → zG Z M_X8_findFaces (d + 5) (fun r1 w1 => r1 = [.int (nI (kFL b n i a))] ∧ w1 = (w.set 47 (aZ 256 (fcF b f)))) w.length 78 [(0, .ref 41), (1, .int (nI b)), (2, .int (nI a)), (3, .int (nI i))] [] (w.set 47 (aZ 256 (fcF b f))) := by
  intro n
  induction n with
  | zero =>
    intro i a hi
    have hi : i = 256 := by omega
    subst hi
    refine s_iload_n dX8_findFaces_78 rfl ?_
    refine s_sipush (v := 256) dX8_findFaces_79 rfl ?_
    refine s_icmp_ge (tgt := 108) dX8_findFaces_82 (by decide) (fun hz => ?_) (fun hqz => absurd (by decide) hqz)
    clear hz
    refine s_iload_n dX8_findFaces_108 rfl ?_
    exact s_iret dX8_findFaces_109 rfl ⟨rfl, rfl⟩ List.length_set
  | succ n ih =>
    intro i a hi
    have hm : i < 256 := by omega
    have hv := fcF_val f hb hm
    by_cases hc : kFC b i = true
    · rw [if_pos hc] at hv
      rw [show kFL b (n + 1) i a = kFL b n (i + 1) (a + 1) from by rw [kFL, if_pos hc]]
      refine s_iload_n dX8_findFaces_78 rfl ?_
      refine s_sipush (v := 256) dX8_findFaces_79 rfl ?_
      refine s_icmp_ge (tgt := 108) dX8_findFaces_82 (by decide) (fun hqz => absurd hqz (nI_ge hm (by decide))) (fun hz => ?_)
      clear hz
      refine s_iload_n dX8_findFaces_85 rfl ?_
      refine s_aload_n dX8_findFaces_86 rfl ?_
      refine s_get dX8_findFaces_87 f_X8_31 (by first | exact zg1 ho (by decide) | exact zgs (zlt hfc)) (by rfl) ?_
      refine s_iload_n dX8_findFaces_90 rfl ?_
      refine s_zald dX8_findFaces_91 (by first | exact zg1 ho (by decide) | exact zgs (zlt hfc)) (zrd (n := 256) hm (by decide)) ?_
      rw [nI_clamp (by omega), hv]
      refine s_if_eq (tgt := 99) dX8_findFaces_92 (by decide) (fun hqz => absurd hqz (by decide)) (fun hz => ?_)
      clear hz
      refine s_iconst (v := 1) dX8_findFaces_95 rfl ?_
      refine s_goto (tgt := 100) dX8_findFaces_96 (by decide) ?_
      refine s_iadd dX8_findFaces_100 ?_
      refine s_istore_n dX8_findFaces_101 (Nat.le_of_ble_eq_true rfl) rfl ?_
      refine s_iinc (nI (i + 1)) dX8_findFaces_102 rfl (nI_1 _) (Nat.le_of_ble_eq_true rfl) rfl ?_
      refine s_goto (tgt := 78) dX8_findFaces_105 (by decide) ?_
      rw [nI_1]
      exact ih (i + 1) (a + 1) (by omega)
    · rw [if_neg hc] at hv
      rw [show kFL b (n + 1) i a = kFL b n (i + 1) a from by rw [kFL, if_neg hc]]
      refine s_iload_n dX8_findFaces_78 rfl ?_
      refine s_sipush (v := 256) dX8_findFaces_79 rfl ?_
      refine s_icmp_ge (tgt := 108) dX8_findFaces_82 (by decide) (fun hqz => absurd hqz (nI_ge hm (by decide))) (fun hz => ?_)
      clear hz
      refine s_iload_n dX8_findFaces_85 rfl ?_
      refine s_aload_n dX8_findFaces_86 rfl ?_
      refine s_get dX8_findFaces_87 f_X8_31 (by first | exact zg1 ho (by decide) | exact zgs (zlt hfc)) (by rfl) ?_
      refine s_iload_n dX8_findFaces_90 rfl ?_
      refine s_zald dX8_findFaces_91 (by first | exact zg1 ho (by decide) | exact zgs (zlt hfc)) (zrd (n := 256) hm (by decide)) ?_
      rw [nI_clamp (by omega), hv]
      refine s_if_eq (tgt := 99) dX8_findFaces_92 (by decide) (fun hz => ?_) (fun hqz => absurd rfl hqz)
      clear hz
      refine s_iconst (v := 0) dX8_findFaces_99 rfl ?_
      refine s_iadd dX8_findFaces_100 ?_
      refine s_istore_n dX8_findFaces_101 (Nat.le_of_ble_eq_true rfl) rfl ?_
      refine s_iinc (nI (i + 1)) dX8_findFaces_102 rfl (nI_1 _) (Nat.le_of_ble_eq_true rfl) rfl ?_
      refine s_goto (tgt := 78) dX8_findFaces_105 (by decide) ?_
      rw [Int32.add_zero]
      exact ih (i + 1) a (by omega)
set_option maxHeartbeats 4000000 in
set_option maxRecDepth 100000 in
theorem c_X8_findFaces {Z : zS} {d : Nat} {w : zW} {mb mk mf ma mc ms me mq mu mh mp : Int32} (ho : w[41]? = some (oM mb mk mf ma mc ms me mq mu mh mp)) {f : Nat → Int32} (hfc : w[47]? = some (aZ 256 f)) {b : Nat} (hb : b < 256) : zF Z M_X8_findFaces (d + 5) [.ref 41, .int (nI b)] w [.int (nI (kFL b 256 0 0))] (w.set 47 (aZ 256 (fcF b f))) := by
  show zG Z M_X8_findFaces (d + 5) _ w.length 0 [(0, .ref 41), (1, .int (nI b))] [] w
  by_cases h0 : b = 0
  · subst h0
    refine s_iconst (v := 0) dX8_findFaces_0 rfl ?_
    refine s_istore_n dX8_findFaces_1 (Nat.le_of_ble_eq_true rfl) rfl ?_
    rw [show w = w.set 47 (aZ 256 (zfI f 0)) from (zss hfc).symm]
    rw [List.length_set, List.set_set]
    refine l_ff1 ho hfc ?_ 256 0 rfl
    rw [show zfI f 256 = fcF 0 f from by rw [fcF, if_pos rfl]]
    refine s_iconst (v := 0) dX8_findFaces_22 rfl ?_
    refine s_istore_n dX8_findFaces_23 (Nat.le_of_ble_eq_true rfl) rfl ?_
    refine s_iload_n dX8_findFaces_24 rfl ?_
    refine s_sipush (v := 343) dX8_findFaces_25 rfl ?_
    refine s_icmp_ge (tgt := 74) dX8_findFaces_28 (by decide) (fun hqz => absurd hqz (by decide)) (fun hz => ?_)
    clear hz
    refine s_iload_n dX8_findFaces_31 rfl ?_
    refine s_if_le (tgt := 74) dX8_findFaces_32 (by decide) (fun hz => ?_) (fun hqz => absurd (by decide) hqz)
    clear hz
    refine s_iconst (v := 0) dX8_findFaces_74 rfl ?_
    refine s_istore_n dX8_findFaces_75 (Nat.le_of_ble_eq_true rfl) rfl ?_
    refine s_iconst (v := 0) dX8_findFaces_76 rfl ?_
    refine s_istore_n dX8_findFaces_77 (Nat.le_of_ble_eq_true rfl) rfl ?_
    exact l_ff3 ho hfc hb 256 0 0 rfl
  · refine s_iconst (v := 0) dX8_findFaces_0 rfl ?_
    refine s_istore_n dX8_findFaces_1 (Nat.le_of_ble_eq_true rfl) rfl ?_
    rw [show w = w.set 47 (aZ 256 (zfI f 0)) from (zss hfc).symm]
    rw [List.length_set, List.set_set]
    refine l_ff1 ho hfc ?_ 256 0 rfl
    refine s_iconst (v := 0) dX8_findFaces_22 rfl ?_
    refine s_istore_n dX8_findFaces_23 (Nat.le_of_ble_eq_true rfl) rfl ?_
    refine l_ff2 (g := zfI f 256) ho hfc hb h0 ?_ 343 0 rfl
    rw [show fcL b (zfI f 256) 343 = fcF b f from by rw [fcF, if_neg h0]]
    refine s_iconst (v := 0) dX8_findFaces_74 rfl ?_
    refine s_istore_n dX8_findFaces_75 (Nat.le_of_ble_eq_true rfl) rfl ?_
    refine s_iconst (v := 0) dX8_findFaces_76 rfl ?_
    refine s_istore_n dX8_findFaces_77 (Nat.le_of_ble_eq_true rfl) rfl ?_
    exact l_ff3 ho hfc hb 256 0 0 rfl
theorem kFL_ge (b : Nat) : ∀ n c a, a ≤ kFL b n c a
  | 0, _, _ => Nat.le_refl _
  | n + 1, c, a => by
    unfold kFL
    refine Nat.le_trans ?_ (kFL_ge b n (c + 1) _)
    by_cases h : kFC b c = true
    · rw [if_pos h]; omega
    · rw [if_neg h]; exact Nat.le_refl _
theorem kFL_le (b : Nat) : ∀ n c a, kFL b n c a ≤ a + n
  | 0, _, a => Nat.le_refl _
  | n + 1, c, a => by
    unfold kFL
    refine Nat.le_trans (kFL_le b n (c + 1) _) ?_
    by_cases h : kFC b c = true
    · rw [if_pos h]; omega
    · rw [if_neg h]; omega
theorem kFA_no {b t : Nat} (ht : t < 2 ^ 31) : ∀ n c a, a ≤ t → kFL b n c a ≤ t → kFA b (nI t) n c a = -5
  | 0, _, _, _, _ => rfl
  | n + 1, c, a, h, h2 => by
    unfold kFL at h2
    unfold kFA
    by_cases k : kFC b c = true
    · rw [if_pos k] at h2 ⊢
      have := kFL_ge b n (c + 1) (a + 1)
      rw [if_neg (fun q => by have := (nI_eq (by omega) ht).mp q; omega)]
      exact kFA_no ht n (c + 1) (a + 1) (by omega) h2
    · rw [if_neg k] at h2 ⊢
      exact kFA_no ht n (c + 1) a h h2
set_option maxHeartbeats 4000000 in
set_option maxRecDepth 100000 in
theorem l_X8_face {Z : zS} {d : Nat} {w : zW} {mb mk mf ma mc ms me mq mu mh mp : Int32} (ho : w[41]? = some (oM mb mk mf ma mc ms me mq mu mh mp)) {f : Nat → Int32} (hfc : w[47]? = some (aZ 256 f)) {b t : Nat} {v u : Int32} (hb : b < 256) (ht : t < 2 ^ 31) : ∀ (n : Nat) (c a : Nat), c + n = 256 → a ≤ t → t < kFL b n c a → zG Z M_X8_face (d + 6) (fun r1 w1 => r1 = [.int (kFA b (nI t) n c a)] ∧ w1 = (w.set 47 (aZ 256 (fcF b f)))) w.length 28 [(0, .ref 41), (1, .int v), (2, .int u), (3, .int (nI c)), (4, .int (nI (t - a)))] [] (w.set 47 (aZ 256 (fcF b f))) := by
  intro n
  induction n with
  | zero =>
    intro c a hc h1 h2
    exact absurd (show t < a from h2) (by omega)
  | succ n ih =>
    intro c a hc h1 h2
    have hm : c < 256 := by omega
    have hv := fcF_val f hb hm
    by_cases k : kFC b c = true
    · rw [if_pos k] at hv
      rw [show kFL b (n + 1) c a = kFL b n (c + 1) (a + 1) from by rw [kFL, if_pos k]] at h2
      by_cases e : a = t
      · subst e
        rw [show kFA b (nI a) (n + 1) c a = nI c from by rw [kFA, if_pos k, if_pos rfl], Nat.sub_self]
        refine s_aload_n dX8_face_28 rfl ?_
        refine s_get dX8_face_29 f_X8_31 (by first | exact zg1 ho (by decide) | exact zgs (zlt hfc)) (by rfl) ?_
        refine s_iload_n dX8_face_32 rfl ?_
        refine s_zald dX8_face_33 (by first | exact zg1 ho (by decide) | exact zgs (zlt hfc)) (zrd (n := 256) hm (by decide)) ?_
        rw [nI_clamp (by omega), hv]
        refine s_if_eq (tgt := 42) dX8_face_34 (by decide) (fun hqz => absurd hqz (by decide)) (fun hz => ?_)
        clear hz
        refine s_iload dX8_face_37 rfl ?_
        refine s_if_le (tgt := 67) dX8_face_39 (by decide) (fun hz => ?_) (fun hqz => absurd (by decide) hqz)
        clear hz
        refine s_iload_n dX8_face_67 rfl ?_
        exact s_iret dX8_face_68 rfl ⟨rfl, rfl⟩ List.length_set
      · rw [show kFA b (nI t) (n + 1) c a = kFA b (nI t) n (c + 1) (a + 1) from by rw [kFA, if_pos k, if_neg (fun q => e ((nI_eq (by omega) ht).mp q))]]
        refine s_aload_n dX8_face_28 rfl ?_
        refine s_get dX8_face_29 f_X8_31 (by first | exact zg1 ho (by decide) | exact zgs (zlt hfc)) (by rfl) ?_
        refine s_iload_n dX8_face_32 rfl ?_
        refine s_zald dX8_face_33 (by first | exact zg1 ho (by decide) | exact zgs (zlt hfc)) (zrd (n := 256) hm (by decide)) ?_
        rw [nI_clamp (by omega), hv]
        refine s_if_eq (tgt := 42) dX8_face_34 (by decide) (fun hqz => absurd hqz (by decide)) (fun hz => ?_)
        clear hz
        refine s_iload dX8_face_37 rfl ?_
        refine s_if_le (tgt := 67) dX8_face_39 (by decide) (fun hqz => absurd hqz (nI_ge (show 0 < t - a by omega) (by omega))) (fun hz => ?_)
        clear hz
        refine s_iload dX8_face_42 rfl ?_
        refine s_aload_n dX8_face_44 rfl ?_
        refine s_get dX8_face_45 f_X8_31 (by first | exact zg1 ho (by decide) | exact zgs (zlt hfc)) (by rfl) ?_
        refine s_iload_n dX8_face_48 rfl ?_
        refine s_zald dX8_face_49 (by first | exact zg1 ho (by decide) | exact zgs (zlt hfc)) (zrd (n := 256) hm (by decide)) ?_
        rw [nI_clamp (by omega), hv]
        refine s_if_eq (tgt := 57) dX8_face_50 (by decide) (fun hqz => absurd hqz (by decide)) (fun hz => ?_)
        clear hz
        refine s_iconst (v := 1) dX8_face_53 rfl ?_
        refine s_goto (tgt := 58) dX8_face_54 (by decide) ?_
        refine s_isub dX8_face_58 ?_
        refine s_istore dX8_face_59 (Nat.le_of_ble_eq_true rfl) rfl ?_
        refine s_iinc (nI (c + 1)) dX8_face_61 rfl (nI_1 _) (Nat.le_of_ble_eq_true rfl) rfl ?_
        refine s_goto (tgt := 28) dX8_face_64 (by decide) ?_
        rw [show (1 : Int32) = nI 1 from rfl, pk_sub (show 1 ≤ t - a by omega), show t - a - 1 = t - (a + 1) by omega]
        exact ih (c + 1) (a + 1) (by omega) (by omega) h2
    · rw [if_neg k] at hv
      rw [show kFL b (n + 1) c a = kFL b n (c + 1) a from by rw [kFL, if_neg k]] at h2
      rw [show kFA b (nI t) (n + 1) c a = kFA b (nI t) n (c + 1) a from by rw [kFA, if_neg k]]
      refine s_aload_n dX8_face_28 rfl ?_
      refine s_get dX8_face_29 f_X8_31 (by first | exact zg1 ho (by decide) | exact zgs (zlt hfc)) (by rfl) ?_
      refine s_iload_n dX8_face_32 rfl ?_
      refine s_zald dX8_face_33 (by first | exact zg1 ho (by decide) | exact zgs (zlt hfc)) (zrd (n := 256) hm (by decide)) ?_
      rw [nI_clamp (by omega), hv]
      refine s_if_eq (tgt := 42) dX8_face_34 (by decide) (fun hz => ?_) (fun hqz => absurd rfl hqz)
      clear hz
      refine s_iload dX8_face_42 rfl ?_
      refine s_aload_n dX8_face_44 rfl ?_
      refine s_get dX8_face_45 f_X8_31 (by first | exact zg1 ho (by decide) | exact zgs (zlt hfc)) (by rfl) ?_
      refine s_iload_n dX8_face_48 rfl ?_
      refine s_zald dX8_face_49 (by first | exact zg1 ho (by decide) | exact zgs (zlt hfc)) (zrd (n := 256) hm (by decide)) ?_
      rw [nI_clamp (by omega), hv]
      refine s_if_eq (tgt := 57) dX8_face_50 (by decide) (fun hz => ?_) (fun hqz => absurd rfl hqz)
      clear hz
      refine s_iconst (v := 0) dX8_face_57 rfl ?_
      refine s_isub dX8_face_58 ?_
      refine s_istore dX8_face_59 (Nat.le_of_ble_eq_true rfl) rfl ?_
      refine s_iinc (nI (c + 1)) dX8_face_61 rfl (nI_1 _) (Nat.le_of_ble_eq_true rfl) rfl ?_
      refine s_goto (tgt := 28) dX8_face_64 (by decide) ?_
      rw [Int32.sub_zero]
      exact ih (c + 1) a (by omega) h1 h2
set_option maxHeartbeats 4000000 in
set_option maxRecDepth 100000 in
theorem y_face1 {Z : zS} {d : Nat} {w : zW} {mb mk mf ma mc ms me mq mu mh mp : Int32} (ho : w[41]? = some (oM mb mk mf ma mc ms me mq mu mh mp)) {v : Int32} (hv : v < 0) : zF Z M_X8_face (d) [.ref 41, .int v] w [.int (-1)] w := by
  show zG Z M_X8_face (d) _ _ 0 [(0, .ref 41), (1, .int v)] [] w
  refine s_iload_n dX8_face_0 rfl ?_
  refine s_if_ge (tgt := 6) dX8_face_1 (by decide) (fun hqz => absurd hqz (Int32.not_le.mpr hv)) (fun hz => ?_)
  clear hz
  refine s_iconst (v := (-1)) dX8_face_4 rfl ?_
  exact s_iret dX8_face_5 rfl ⟨rfl, rfl⟩ rfl
set_option maxHeartbeats 4000000 in
set_option maxRecDepth 100000 in
theorem y_face {Z : zS} {d : Nat} {w : zW} {b k : Nat} {mf ma mc ms me mq mu mh mp : Int32} (ho : w[41]? = some (oM (nI b) (nI k) mf ma mc ms me mq mu mh mp)) (hb : b < 256) {f : Nat → Int32} (hfc : w[47]? = some (aZ 256 f)) {t : Nat} (ht : t < 2 ^ 31) : zF Z M_X8_face (d + 6) [.ref 41, .int (nI t)] w [.int (kFA b (nI t) 256 0 0)] (w.set 47 (aZ 256 (fcF b f))) := by
  show zG Z M_X8_face (d + 6) _ w.length 0 [(0, .ref 41), (1, .int (nI t))] [] w
  have hle := kFL_le b 256 0 0
  by_cases h : t < kFL b 256 0 0
  · refine s_iload_n dX8_face_0 rfl ?_
    refine s_if_ge (tgt := 6) dX8_face_1 (by decide) (fun hz => ?_) (fun hqz => absurd (nI_pos' ht) hqz)
    clear hz
    refine s_aload_n dX8_face_6 rfl ?_
    refine s_aload_n dX8_face_7 rfl ?_
    refine s_get dX8_face_8 f_X8_125 (by first | assumption | exact zg1 ho (by decide) | exact zgs (zlt hfc)) (by rfl) ?_
    refine s_cv1 dX8_face_11 g_X8_186 (c_X8_findFaces ho hfc hb) (by first | assumption | exact zg1 ho (by decide) | exact zgs (zlt hfc)) rfl rfl rfl rfl (Nat.le_of_ble_eq_true rfl) (Nat.le_of_ble_eq_true rfl) rfl ?_
    refine s_istore_n dX8_face_14 (Nat.le_of_ble_eq_true rfl) rfl ?_
    refine s_iload_n dX8_face_15 rfl ?_
    refine s_iload_n dX8_face_16 rfl ?_
    refine s_icmp_lt (tgt := 23) dX8_face_17 (by decide) (fun hz => ?_) (fun hqz => absurd ((nI_ltI ht (by omega)).mpr h) hqz)
    clear hz
    refine s_iconst (v := 0) dX8_face_23 rfl ?_
    refine s_istore_n dX8_face_24 (Nat.le_of_ble_eq_true rfl) rfl ?_
    refine s_iload_n dX8_face_25 rfl ?_
    refine s_istore dX8_face_26 (Nat.le_of_ble_eq_true rfl) rfl ?_
    exact l_X8_face ho hfc hb ht 256 0 0 rfl (Nat.zero_le _) h
  · rw [kFA_no ht 256 0 0 (Nat.zero_le _) (by omega)]
    refine s_iload_n dX8_face_0 rfl ?_
    refine s_if_ge (tgt := 6) dX8_face_1 (by decide) (fun hz => ?_) (fun hqz => absurd (nI_pos' ht) hqz)
    clear hz
    refine s_aload_n dX8_face_6 rfl ?_
    refine s_aload_n dX8_face_7 rfl ?_
    refine s_get dX8_face_8 f_X8_125 (by first | assumption | exact zg1 ho (by decide) | exact zgs (zlt hfc)) (by rfl) ?_
    refine s_cv1 dX8_face_11 g_X8_186 (c_X8_findFaces ho hfc hb) (by first | assumption | exact zg1 ho (by decide) | exact zgs (zlt hfc)) rfl rfl rfl rfl (Nat.le_of_ble_eq_true rfl) (Nat.le_of_ble_eq_true rfl) rfl ?_
    refine s_istore_n dX8_face_14 (Nat.le_of_ble_eq_true rfl) rfl ?_
    refine s_iload_n dX8_face_15 rfl ?_
    refine s_iload_n dX8_face_16 rfl ?_
    refine s_icmp_lt (tgt := 23) dX8_face_17 (by decide) (fun hqz => absurd hqz (nI_nlt (by omega) ht)) (fun hz => ?_)
    clear hz
    refine s_bipush (v := (-5)) dX8_face_20 rfl ?_
    exact s_iret dX8_face_22 rfl ⟨rfl, rfl⟩ List.length_set
