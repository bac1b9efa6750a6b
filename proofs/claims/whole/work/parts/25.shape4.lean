/-! ===== shapes: points counted, volumes; weights ===== -/
def kPL (b m : Nat) : Nat → Nat → Nat → Nat
  | 0, _, a => a
  | n + 1, p, a => kPL b m n (p + 1) (if kIN b m (p % 4) (p / 4 % 4) (p / 16 % 4) 171 0 = true then a + 1 else a)
def kPT (b m : Nat) : Nat := kPL b m 64 0 0
theorem kPL_le (b m : Nat) : ∀ (n p a : Nat), kPL b m n p a ≤ a + n
  | 0, _, _ => Nat.le_refl _
  | n + 1, p, a => by
    unfold kPL
    by_cases c : kIN b m (p % 4) (p / 4 % 4) (p / 16 % 4) 171 0 = true
    · rw [if_pos c]; have := kPL_le b m n (p + 1) (a + 1); omega
    · rw [if_neg c]; have := kPL_le b m n (p + 1) a; omega
def SOK (sh : zSh) : Prop := ∃ b1, b1 < 256 ∧ SHM b1 sh ∧ KN sh.2.2.2.2.2 kPT
theorem q_pl : ∀ p, p < 64 → nI p &&& 3 = nI (p % 4) ∧ nI p >>> ((2 : Int32) &&& 31) &&& 3 = nI (p / 4 % 4) ∧ nI p >>> ((4 : Int32) &&& 31) &&& 3 = nI (p / 16 % 4) := by decide +kernel
theorem KN_upd {f : Nat → Int32} {b m : Nat} (h : KN f kPT) (hb : b < 256) (hm : 1 ≤ m) (hm3 : m ≤ 3) : KN (upd f (b * 3 + m - 1) (nI (kPT b m))) kPT := by
  intro b' hb' h0' m' hm' hm3'
  by_cases e : b' * 3 + m' - 1 = b * 3 + m - 1
  · have e1 : b' = b := by omega
    have e2 : m' = m := by omega
    rw [e, pk_us, e1, e2]
    exact Or.inr rfl
  · rw [pk_un e]
    exact h b' hb' h0' m' hm' hm3'
set_option maxHeartbeats 4000000 in
set_option maxRecDepth 100000 in
theorem l_points {Z : zS} {d : Nat} {hd th : zHd} {hi : Int32} {tx : zTx} {tp : zTs} {R : zW} {b m t : Nat} {me lw : Int32} {mo le it kn : Nat → Int32} (hS : SHM b (me, lw, mo, le, it, kn)) (hb : b < 256) (h0 : b ≠ 0) (hm3 : m ≤ 3) (ht : t < 768) : ∀ (n : Nat) (p a : Nat), p + n = 64 → zG Z M_X4_pointsIn (d + 2) (fun r1 w1 => r1 = [.int (nI (kPL b m n p a))] ∧ w1 = (wX hd th hi tx (me, lw, mo, le, it, upd kn t (nI (kPL b m n p a))) tp ++ R)) (R.length + 41) 40 [(0, .ref 23), (1, .int (nI b)), (2, .int (nI m)), (3, .int (nI t)), (4, .int (nI p))] [] (wX hd th hi tx (me, lw, mo, le, it, upd kn t (nI a)) tp ++ R) := by
  intro n
  induction n with
  | zero =>
    intro p a hi
    have hi : p = 64 := by omega
    subst hi
    have hct : (nI t).toNatClampNeg = t := nI_clamp (by omega)
    refine s_iload dX4_pointsIn_40 rfl ?_
    refine s_bipush (v := 64) dX4_pointsIn_42 rfl ?_
    refine s_icmp_ge (tgt := 87) dX4_pointsIn_44 (by decide) (fun hz => ?_) (fun h => absurd (by decide) h)
    clear hz
    refine s_aload_n dX4_pointsIn_87 rfl ?_
    refine s_get dX4_pointsIn_88 f_X4_28 (by rfl) (by rfl) ?_
    refine s_iload_n dX4_pointsIn_91 rfl ?_
    refine s_iald dX4_pointsIn_92 (by rfl) (zrd (n := 768) ht (by decide)) ?_
    dsimp only
    rw [hct, pk_us]
    exact s_iret dX4_pointsIn_93 rfl ⟨rfl, rfl⟩ (by first | exact wXlen | rfl)
  | succ n ih =>
    intro p a hi
    have hm : p < 64 := by omega
    have hq := q_pl p hm
    have hct : (nI t).toNatClampNeg = t := nI_clamp (by omega)
    have hS2 : SHM b (me, lw, mo, le, it, upd kn t (nI a)) := hS
    refine s_iload dX4_pointsIn_40 rfl ?_
    refine s_bipush (v := 64) dX4_pointsIn_42 rfl ?_
    refine s_icmp_ge (tgt := 87) dX4_pointsIn_44 (by decide) (fun h => absurd h (nI_ge hm (by decide))) (fun hz => ?_)
    clear hz
    refine s_aload_n dX4_pointsIn_47 rfl ?_
    refine s_iload_n dX4_pointsIn_48 rfl ?_
    refine s_iload dX4_pointsIn_49 rfl ?_
    refine s_iconst (v := 3) dX4_pointsIn_51 rfl ?_
    refine s_iand dX4_pointsIn_52 ?_
    refine s_iload dX4_pointsIn_53 rfl ?_
    refine s_iconst (v := 2) dX4_pointsIn_55 rfl ?_
    refine s_ishr dX4_pointsIn_56 ?_
    refine s_iconst (v := 3) dX4_pointsIn_57 rfl ?_
    refine s_iand dX4_pointsIn_58 ?_
    refine s_iload dX4_pointsIn_59 rfl ?_
    refine s_iconst (v := 4) dX4_pointsIn_61 rfl ?_
    refine s_ishr dX4_pointsIn_62 ?_
    refine s_iconst (v := 3) dX4_pointsIn_63 rfl ?_
    refine s_iand dX4_pointsIn_64 ?_
    rw [hq.1, hq.2.1, hq.2.2]
    refine s_cv1 dX4_pointsIn_65 g_X4_69 (c_X4_isInMeasured hS2 hb h0 hm3 (Nat.mod_lt _ (by decide)) (Nat.mod_lt _ (by decide)) (Nat.mod_lt _ (by decide))) (by rfl) rfl rfl rfl rfl (Nat.le_of_ble_eq_true rfl) (Nat.le_of_ble_eq_true rfl) rfl ?_
    refine s_if_eq (tgt := 81) dX4_pointsIn_68 (by decide) (fun h_68 => ?_) (fun h_68 => ?_)
    · refine s_iinc (nI (p + 1)) dX4_pointsIn_81 rfl (nI_1 _) (Nat.le_of_ble_eq_true rfl) rfl ?_
      refine s_goto (tgt := 40) dX4_pointsIn_84 (by decide) ?_
      first
        | (rw [show kPL b m (n + 1) p a = kPL b m n (p + 1) a from by rw [kPL, if_neg (fun z => absurd z (by rw [zB0 h_68]; decide))]]
           exact ih (p + 1) a (by omega))
        | (rw [show kPL b m (n + 1) p a = kPL b m n (p + 1) (a + 1) from by rw [kPL, if_pos (zB1 h_68)]]
           dsimp only
           rw [hct, pk_us, nI_1, fa_upd_twice]
           exact ih (p + 1) (a + 1) (by omega))
    · refine s_aload_n dX4_pointsIn_71 rfl ?_
      refine s_get dX4_pointsIn_72 f_X4_28 (by rfl) (by rfl) ?_
      refine s_iload_n dX4_pointsIn_75 rfl ?_
      refine s_dup2 dX4_pointsIn_76 rfl rfl ?_
      refine s_iald dX4_pointsIn_77 (by rfl) (zrd (n := 768) ht (by decide)) ?_
      refine s_iconst (v := 1) dX4_pointsIn_78 rfl ?_
      refine s_iadd dX4_pointsIn_79 ?_
      refine s_iast dX4_pointsIn_80 (by rfl) (zrd (n := 768) ht (by decide)) ?_
      refine s_iinc (nI (p + 1)) dX4_pointsIn_81 rfl (nI_1 _) (Nat.le_of_ble_eq_true rfl) rfl ?_
      refine s_goto (tgt := 40) dX4_pointsIn_84 (by decide) ?_
      first
        | (rw [show kPL b m (n + 1) p a = kPL b m n (p + 1) a from by rw [kPL, if_neg (fun z => absurd z (by rw [zB0 h_68]; decide))]]
           exact ih (p + 1) a (by omega))
        | (rw [show kPL b m (n + 1) p a = kPL b m n (p + 1) (a + 1) from by rw [kPL, if_pos (zB1 h_68)]]
           dsimp only
           rw [hct, pk_us, nI_1, fa_upd_twice]
           exact ih (p + 1) (a + 1) (by omega))
set_option maxHeartbeats 4000000 in
set_option maxRecDepth 100000 in
theorem c_pts_known {Z : zS} {d : Nat} {hd th : zHd} {hi : Int32} {tx : zTx} {tp : zTs} {R : zW} {b m : Nat} {me lw : Int32} {mo le it kn : Nat → Int32} (hb : b < 256) (h0 : b ≠ 0) (hm : 1 ≤ m) (hm3 : m ≤ 3) (hk : ¬ kn (b * 3 + m - 1) = 0) : zF Z M_X4_pointsIn (d + 2) [.ref 23, .int (nI b), .int (nI m)] (wX hd th hi tx (me, lw, mo, le, it, kn) tp ++ R) [.int (kn (b * 3 + m - 1))] (wX hd th hi tx (me, lw, mo, le, it, kn) tp ++ R) := by
  unfold zF
  rw [wXlen]
  show zG Z M_X4_pointsIn (d + 2) _ (R.length + 41) 0 [(0, .ref 23), (1, .int (nI b)), (2, .int (nI m))] [] (wX hd th hi tx (me, lw, mo, le, it, kn) tp ++ R)
  have ht : b * 3 + m - 1 < 768 := by omega
  have et : nI b * 3 + nI m - 1 = nI (b * 3 + m - 1) := by
    rw [show (3 : Int32) = nI 3 from rfl, pk_mul, nI_add, show (1 : Int32) = nI 1 from rfl, pk_sub (by omega)]
  have hct : (nI (b * 3 + m - 1)).toNatClampNeg = b * 3 + m - 1 := nI_clamp (by omega)
  refine s_iload_n dX4_pointsIn_0 rfl ?_
  refine s_iconst (v := 3) dX4_pointsIn_1 rfl ?_
  refine s_imul dX4_pointsIn_2 ?_
  refine s_iload_n dX4_pointsIn_3 rfl ?_
  refine s_iadd dX4_pointsIn_4 ?_
  refine s_iconst (v := 1) dX4_pointsIn_5 rfl ?_
  refine s_isub dX4_pointsIn_6 ?_
  rw [et]
  refine s_istore_n dX4_pointsIn_7 (Nat.le_of_ble_eq_true rfl) rfl ?_
  refine s_iload_n dX4_pointsIn_8 rfl ?_
  refine s_if_lt (tgt := 21) dX4_pointsIn_9 (by decide) (fun h => absurd h (nI_pos (by omega))) (fun hz => ?_)
  clear hz
  refine s_iload_n dX4_pointsIn_12 rfl ?_
  refine s_aload_n dX4_pointsIn_13 rfl ?_
  refine s_get dX4_pointsIn_14 f_X4_28 (by rfl) (by rfl) ?_
  refine s_alenI _ dX4_pointsIn_17 (by rfl) rfl ?_
  refine s_icmp_lt (tgt := 23) dX4_pointsIn_18 (by decide) (fun hz => ?_) (fun h => absurd (nI_lt ht (by decide)) h)
  clear hz
  refine s_aload_n dX4_pointsIn_23 rfl ?_
  refine s_get dX4_pointsIn_24 f_X4_28 (by rfl) (by rfl) ?_
  refine s_iload_n dX4_pointsIn_27 rfl ?_
  refine s_iald dX4_pointsIn_28 (by rfl) (zrd (n := 768) ht (by decide)) ?_
  dsimp only
  rw [hct]
  refine s_if_ne (tgt := 87) dX4_pointsIn_29 (by decide) (fun hz => ?_) (fun h => absurd h hk)
  clear hz
  refine s_aload_n dX4_pointsIn_87 rfl ?_
  refine s_get dX4_pointsIn_88 f_X4_28 (by rfl) (by rfl) ?_
  refine s_iload_n dX4_pointsIn_91 rfl ?_
  refine s_iald dX4_pointsIn_92 (by rfl) (zrd (n := 768) ht (by decide)) ?_
  dsimp only
  rw [hct]
  exact s_iret dX4_pointsIn_93 rfl ⟨rfl, rfl⟩ (by first | exact wXlen | rfl)
set_option maxHeartbeats 4000000 in
set_option maxRecDepth 100000 in
theorem c_pts_new {Z : zS} {d : Nat} {hd th : zHd} {hi : Int32} {tx : zTx} {tp : zTs} {R : zW} {b m : Nat} {me lw : Int32} {mo le it kn : Nat → Int32} (hb : b < 256) (h0 : b ≠ 0) (hm : 1 ≤ m) (hm3 : m ≤ 3) {me2 lw2 : Int32} {mo2 le2 it2 : Nat → Int32} (hk : kn (b * 3 + m - 1) = 0) (hS : SHM b (me2, lw2, mo2, le2, it2, kn)) (hz : zF Z M_X4_measure (d + 1) [.ref 23, .int (nI b)] (wX hd th hi tx (me, lw, mo, le, it, kn) tp ++ R) [] (wX hd th hi tx (me2, lw2, mo2, le2, it2, kn) tp ++ R)) : zF Z M_X4_pointsIn (d + 2) [.ref 23, .int (nI b), .int (nI m)] (wX hd th hi tx (me, lw, mo, le, it, kn) tp ++ R) [.int (nI (kPT b m))] (wX hd th hi tx (me2, lw2, mo2, le2, it2, upd kn (b * 3 + m - 1) (nI (kPT b m))) tp ++ R) := by
  unfold zF
  rw [wXlen]
  show zG Z M_X4_pointsIn (d + 2) _ (R.length + 41) 0 [(0, .ref 23), (1, .int (nI b)), (2, .int (nI m))] [] (wX hd th hi tx (me, lw, mo, le, it, kn) tp ++ R)
  have ht : b * 3 + m - 1 < 768 := by omega
  have et : nI b * 3 + nI m - 1 = nI (b * 3 + m - 1) := by
    rw [show (3 : Int32) = nI 3 from rfl, pk_mul, nI_add, show (1 : Int32) = nI 1 from rfl, pk_sub (by omega)]
  have hct : (nI (b * 3 + m - 1)).toNatClampNeg = b * 3 + m - 1 := nI_clamp (by omega)
  refine s_iload_n dX4_pointsIn_0 rfl ?_
  refine s_iconst (v := 3) dX4_pointsIn_1 rfl ?_
  refine s_imul dX4_pointsIn_2 ?_
  refine s_iload_n dX4_pointsIn_3 rfl ?_
  refine s_iadd dX4_pointsIn_4 ?_
  refine s_iconst (v := 1) dX4_pointsIn_5 rfl ?_
  refine s_isub dX4_pointsIn_6 ?_
  rw [et]
  refine s_istore_n dX4_pointsIn_7 (Nat.le_of_ble_eq_true rfl) rfl ?_
  refine s_iload_n dX4_pointsIn_8 rfl ?_
  refine s_if_lt (tgt := 21) dX4_pointsIn_9 (by decide) (fun h => absurd h (nI_pos (by omega))) (fun hz => ?_)
  clear hz
  refine s_iload_n dX4_pointsIn_12 rfl ?_
  refine s_aload_n dX4_pointsIn_13 rfl ?_
  refine s_get dX4_pointsIn_14 f_X4_28 (by rfl) (by rfl) ?_
  refine s_alenI _ dX4_pointsIn_17 (by rfl) rfl ?_
  refine s_icmp_lt (tgt := 23) dX4_pointsIn_18 (by decide) (fun hz => ?_) (fun h => absurd (nI_lt ht (by decide)) h)
  clear hz
  refine s_aload_n dX4_pointsIn_23 rfl ?_
  refine s_get dX4_pointsIn_24 f_X4_28 (by rfl) (by rfl) ?_
  refine s_iload_n dX4_pointsIn_27 rfl ?_
  refine s_iald dX4_pointsIn_28 (by rfl) (zrd (n := 768) ht (by decide)) ?_
  dsimp only
  rw [hct]
  refine s_if_ne (tgt := 87) dX4_pointsIn_29 (by decide) (fun h => absurd hk h) (fun hz => ?_)
  clear hz
  refine s_aload_n dX4_pointsIn_32 rfl ?_
  refine s_iload_n dX4_pointsIn_33 rfl ?_
  refine s_cv0 dX4_pointsIn_34 g_X4_55 (hz) (by rfl) rfl rfl rfl rfl (Nat.le_of_ble_eq_true rfl) (Nat.le_of_ble_eq_true rfl) rfl ?_
  refine s_iconst (v := 0) dX4_pointsIn_37 rfl ?_
  refine s_istore dX4_pointsIn_38 (Nat.le_of_ble_eq_true rfl) rfl ?_
  have K := l_points (Z := Z) (d := d) (hd := hd) (th := th) (hi := hi) (tx := tx) (tp := tp) (R := R) (kn := kn) hS hb h0 hm3 ht 64 0 0 rfl
  rw [show upd kn (b * 3 + m - 1) (nI 0) = kn from fa_upd_same hk] at K
  exact K
set_option maxHeartbeats 4000000 in
set_option maxRecDepth 100000 in
theorem c_points {Z : zS} {d : Nat} {hd th : zHd} {hi : Int32} {tx : zTx} {tp : zTs} {R : zW} {sh : zSh} (hS : SOK sh) {b m : Nat} (hb : b < 256) (h0 : b ≠ 0) (hm : 1 ≤ m) (hm3 : m ≤ 3) : ∃ sh' : zSh, SOK sh' ∧ zF Z M_X4_pointsIn (d + 2) [.ref 23, .int (nI b), .int (nI m)] (wX hd th hi tx sh tp ++ R) [.int (nI (kPT b m))] (wX hd th hi tx sh' tp ++ R) := by
  obtain ⟨b1, hb1, hS1, hK⟩ := hS
  obtain ⟨me, lw, mo, le, it, kn⟩ := sh
  by_cases hk : kn (b * 3 + m - 1) = 0
  · obtain ⟨⟨me2, lw2, mo2, le2, it2, kn2⟩, hS2, e, hz⟩ := c_measure (Z := Z) (d := d) (hd := hd) (th := th) (hi := hi) (tx := tx) (tp := tp) (R := R) hS1 hb1 hb
    dsimp only at e
    subst e
    exact ⟨(me2, lw2, mo2, le2, it2, upd kn2 (b * 3 + m - 1) (nI (kPT b m))), ⟨b, hb, hS2, KN_upd hK hb hm hm3⟩, c_pts_new hb h0 hm hm3 hk hS2 hz⟩
  · refine ⟨(me, lw, mo, le, it, kn), ⟨b1, hb1, hS1, hK⟩, ?_⟩
    have e : kn (b * 3 + m - 1) = nI (kPT b m) := (hK b hb h0 m hm hm3).resolve_left hk
    rw [← e]
    exact c_pts_known hb h0 hm hm3 hk
def kSIX (b : Nat) : Int32 := if b = 0 then 0 else nI (kPT b 3) - 3 * nI (kPT b 2) + 3 * nI (kPT b 1) - 1
set_option maxHeartbeats 4000000 in
set_option maxRecDepth 100000 in
theorem c_sixfold {Z : zS} {d : Nat} {hd th : zHd} {hi : Int32} {tx : zTx} {tp : zTs} {R : zW} {sh : zSh} (hS : SOK sh) {b : Nat} (hb : b < 256) : ∃ sh' : zSh, SOK sh' ∧ zF Z M_X4_sixfold (d + 3) [.ref 23, .int (nI b)] (wX hd th hi tx sh tp ++ R) [.int (kSIX b)] (wX hd th hi tx sh' tp ++ R) := by
  by_cases h0 : b = 0
  · subst h0
    refine ⟨sh, hS, ?_⟩
    unfold zF
    rw [wXlen]
    show zG Z M_X4_sixfold (d + 3) _ (R.length + 41) 0 [(0, .ref 23), (1, .int (nI 0))] [] (wX hd th hi tx sh tp ++ R)
    refine s_iload_n dX4_sixfold_0 rfl ?_
    refine s_if_ne (tgt := 8) dX4_sixfold_1 (by decide) (fun h => absurd rfl h) (fun hz => ?_)
    clear hz
    refine s_iconst (v := 0) dX4_sixfold_4 rfl ?_
    refine s_goto (tgt := 34) dX4_sixfold_5 (by decide) ?_
    exact s_iret dX4_sixfold_34 rfl ⟨rfl, rfl⟩ (by first | exact wXlen | rfl)
  · obtain ⟨s3, hS3, z3⟩ := c_points (Z := Z) (d := d) (hd := hd) (th := th) (hi := hi) (tx := tx) (tp := tp) (R := R) hS hb h0 (show 1 ≤ 3 by decide) (by decide)
    obtain ⟨s2, hS2, z2⟩ := c_points (Z := Z) (d := d) (hd := hd) (th := th) (hi := hi) (tx := tx) (tp := tp) (R := R) hS3 hb h0 (show 1 ≤ 2 by decide) (by decide)
    obtain ⟨s1, hS1, z1⟩ := c_points (Z := Z) (d := d) (hd := hd) (th := th) (hi := hi) (tx := tx) (tp := tp) (R := R) hS2 hb h0 (show 1 ≤ 1 by decide) (by decide)
    refine ⟨s1, hS1, ?_⟩
    unfold zF
    rw [wXlen]
    show zG Z M_X4_sixfold (d + 3) _ (R.length + 41) 0 [(0, .ref 23), (1, .int (nI b))] [] (wX hd th hi tx sh tp ++ R)
    refine s_iload_n dX4_sixfold_0 rfl ?_
    refine s_if_ne (tgt := 8) dX4_sixfold_1 (by decide) (fun hz => ?_) (fun h => absurd h (nI_ne0 (by omega) (by omega)))
    clear hz
    refine s_aload_n dX4_sixfold_8 rfl ?_
    refine s_iload_n dX4_sixfold_9 rfl ?_
    refine s_iconst (v := 3) dX4_sixfold_10 rfl ?_
    refine s_cv1 dX4_sixfold_11 g_X4_73 (z3) (by rfl) rfl rfl rfl rfl (Nat.le_of_ble_eq_true rfl) (Nat.le_of_ble_eq_true rfl) rfl ?_
    refine s_iconst (v := 3) dX4_sixfold_14 rfl ?_
    refine s_aload_n dX4_sixfold_15 rfl ?_
    refine s_iload_n dX4_sixfold_16 rfl ?_
    refine s_iconst (v := 2) dX4_sixfold_17 rfl ?_
    refine s_cv1 dX4_sixfold_18 g_X4_73 (z2) (by rfl) rfl rfl rfl rfl (Nat.le_of_ble_eq_true rfl) (Nat.le_of_ble_eq_true rfl) rfl ?_
    refine s_imul dX4_sixfold_21 ?_
    refine s_isub dX4_sixfold_22 ?_
    refine s_iconst (v := 3) dX4_sixfold_23 rfl ?_
    refine s_aload_n dX4_sixfold_24 rfl ?_
    refine s_iload_n dX4_sixfold_25 rfl ?_
    refine s_iconst (v := 1) dX4_sixfold_26 rfl ?_
    refine s_cv1 dX4_sixfold_27 g_X4_73 (z1) (by rfl) rfl rfl rfl rfl (Nat.le_of_ble_eq_true rfl) (Nat.le_of_ble_eq_true rfl) rfl ?_
    refine s_imul dX4_sixfold_30 ?_
    refine s_iadd dX4_sixfold_31 ?_
    refine s_iconst (v := 1) dX4_sixfold_32 rfl ?_
    refine s_isub dX4_sixfold_33 ?_
    exact s_iret dX4_sixfold_34 rfl ⟨by rw [kSIX, if_neg h0], rfl⟩ (by first | exact wXlen | rfl)
set_option maxHeartbeats 4000000 in
set_option maxRecDepth 100000 in
theorem c_width {Z : zS} {d : Nat} {hd th : zHd} {hi : Int32} {tx : zTx} {tp : zTs} {R : zW} {sh : zSh} (hS : SOK sh) {b : Nat} (hb : b < 256) : ∃ sh' : zSh, SOK sh' ∧ zF Z M_X4_width (d + 2) [.ref 23, .int (nI b)] (wX hd th hi tx sh tp ++ R) [.int (kLW b)] (wX hd th hi tx sh' tp ++ R) := by
  obtain ⟨b1, hb1, hS1, hK⟩ := hS
  obtain ⟨sh', hS', e, hz⟩ := c_measure (Z := Z) (d := d) (hd := hd) (th := th) (hi := hi) (tx := tx) (tp := tp) (R := R) hS1 hb1 hb
  refine ⟨sh', ⟨b, hb, hS', by rw [e]; exact hK⟩, ?_⟩
  unfold zF
  rw [wXlen]
  show zG Z M_X4_width (d + 2) _ (R.length + 41) 0 [(0, .ref 23), (1, .int (nI b))] [] (wX hd th hi tx sh tp ++ R)
  refine s_aload_n dX4_width_0 rfl ?_
  refine s_iload_n dX4_width_1 rfl ?_
  refine s_cv0 dX4_width_2 g_X4_55 (hz) (by rfl) rfl rfl rfl rfl (Nat.le_of_ble_eq_true rfl) (Nat.le_of_ble_eq_true rfl) rfl ?_
  refine s_aload_n dX4_width_5 rfl ?_
  refine s_get dX4_width_6 f_X4_15 (by rfl) (by rfl) ?_
  rw [hS'.2.1]
  exact s_iret dX4_width_9 rfl ⟨rfl, rfl⟩ (by first | exact wXlen | rfl)
set_option maxHeartbeats 4000000 in
set_option maxRecDepth 100000 in
theorem c_edgeCount {Z : zS} {d : Nat} {hd th : zHd} {hi : Int32} {tx : zTx} {tp : zTs} {R : zW} {sh : zSh} (hS : SOK sh) {b : Nat} (hb : b < 256) : ∃ sh' : zSh, SOK sh' ∧ zF Z M_X4_edgeCount (d + 2) [.ref 23, .int (nI b)] (wX hd th hi tx sh tp ++ R) [.int (nI (kEL b 256 0 0))] (wX hd th hi tx sh' tp ++ R) := by
  obtain ⟨b1, hb1, hS1, hK⟩ := hS
  obtain ⟨sh', hS', e, hz⟩ := c_measure (Z := Z) (d := d) (hd := hd) (th := th) (hi := hi) (tx := tx) (tp := tp) (R := R) hS1 hb1 hb
  refine ⟨sh', ⟨b, hb, hS', by rw [e]; exact hK⟩, ?_⟩
  unfold zF
  rw [wXlen]
  show zG Z M_X4_edgeCount (d + 2) _ (R.length + 41) 0 [(0, .ref 23), (1, .int (nI b))] [] (wX hd th hi tx sh tp ++ R)
  refine s_aload_n dX4_edgeCount_0 rfl ?_
  refine s_iload_n dX4_edgeCount_1 rfl ?_
  refine s_cv0 dX4_edgeCount_2 g_X4_55 (hz) (by rfl) rfl rfl rfl rfl (Nat.le_of_ble_eq_true rfl) (Nat.le_of_ble_eq_true rfl) rfl ?_
  refine s_iconst (v := 0) dX4_edgeCount_5 rfl ?_
  refine s_istore_n dX4_edgeCount_6 (Nat.le_of_ble_eq_true rfl) rfl ?_
  refine s_iconst (v := 0) dX4_edgeCount_7 rfl ?_
  refine s_istore_n dX4_edgeCount_8 (Nat.le_of_ble_eq_true rfl) rfl ?_
  exact l_edge hS' 256 0 0 rfl
set_option maxHeartbeats 4000000 in
set_option maxRecDepth 100000 in
theorem c_faceCount {Z : zS} {d : Nat} {hd th : zHd} {hi : Int32} {tx : zTx} {tp : zTs} {R : zW} {sh : zSh} (hS : SOK sh) {b : Nat} (hb : b < 256) : ∃ sh' : zSh, SOK sh' ∧ zF Z M_X4_faceCount (d + 2) [.ref 23, .int (nI b)] (wX hd th hi tx sh tp ++ R) [.int (nI (kFL b 256 0 0))] (wX hd th hi tx sh' tp ++ R) := by
  obtain ⟨b1, hb1, hS1, hK⟩ := hS
  obtain ⟨sh', hS', e, hz⟩ := c_measure (Z := Z) (d := d) (hd := hd) (th := th) (hi := hi) (tx := tx) (tp := tp) (R := R) hS1 hb1 hb
  refine ⟨sh', ⟨b, hb, hS', by rw [e]; exact hK⟩, ?_⟩
  unfold zF
  rw [wXlen]
  show zG Z M_X4_faceCount (d + 2) _ (R.length + 41) 0 [(0, .ref 23), (1, .int (nI b))] [] (wX hd th hi tx sh tp ++ R)
  refine s_aload_n dX4_faceCount_0 rfl ?_
  refine s_iload_n dX4_faceCount_1 rfl ?_
  refine s_cv0 dX4_faceCount_2 g_X4_55 (hz) (by rfl) rfl rfl rfl rfl (Nat.le_of_ble_eq_true rfl) (Nat.le_of_ble_eq_true rfl) rfl ?_
  refine s_iconst (v := 0) dX4_faceCount_5 rfl ?_
  refine s_istore_n dX4_faceCount_6 (Nat.le_of_ble_eq_true rfl) rfl ?_
  refine s_iconst (v := 0) dX4_faceCount_7 rfl ?_
  refine s_istore_n dX4_faceCount_8 (Nat.le_of_ble_eq_true rfl) rfl ?_
  exact l_face hS' hb 256 0 0 rfl
set_option maxHeartbeats 4000000 in
set_option maxRecDepth 100000 in
theorem c_faceAt {Z : zS} {d : Nat} {hd th : zHd} {hi : Int32} {tx : zTx} {tp : zTs} {R : zW} {sh : zSh} (hS : SOK sh) {b : Nat} {i : Int32} (hb : b < 256) : ∃ sh' : zSh, SOK sh' ∧ zF Z M_X4_faceAt (d + 2) [.ref 23, .int (nI b), .int i] (wX hd th hi tx sh tp ++ R) [.int (kFA b i 256 0 0)] (wX hd th hi tx sh' tp ++ R) := by
  obtain ⟨b1, hb1, hS1, hK⟩ := hS
  obtain ⟨sh', hS', e, hz⟩ := c_measure (Z := Z) (d := d) (hd := hd) (th := th) (hi := hi) (tx := tx) (tp := tp) (R := R) hS1 hb1 hb
  refine ⟨sh', ⟨b, hb, hS', by rw [e]; exact hK⟩, ?_⟩
  unfold zF
  rw [wXlen]
  show zG Z M_X4_faceAt (d + 2) _ (R.length + 41) 0 [(0, .ref 23), (1, .int (nI b)), (2, .int i)] [] (wX hd th hi tx sh tp ++ R)
  refine s_aload_n dX4_faceAt_0 rfl ?_
  refine s_iload_n dX4_faceAt_1 rfl ?_
  refine s_cv0 dX4_faceAt_2 g_X4_55 (hz) (by rfl) rfl rfl rfl rfl (Nat.le_of_ble_eq_true rfl) (Nat.le_of_ble_eq_true rfl) rfl ?_
  refine s_iconst (v := 0) dX4_faceAt_5 rfl ?_
  refine s_istore_n dX4_faceAt_6 (Nat.le_of_ble_eq_true rfl) rfl ?_
  refine s_iconst (v := 0) dX4_faceAt_7 rfl ?_
  refine s_istore dX4_faceAt_8 (Nat.le_of_ble_eq_true rfl) rfl ?_
  exact l_faceAt hS' hb 256 0 0 rfl
set_option maxHeartbeats 4000000 in
set_option maxRecDepth 100000 in
theorem c_isIn {Z : zS} {d : Nat} {hd th : zHd} {hi : Int32} {tx : zTx} {tp : zTs} {R : zW} {sh : zSh} (hS : SOK sh) {b m x y z : Nat} (hb : b < 256) (h0 : b ≠ 0) (hm3 : m ≤ 3) (hx : x < 4) (hy : y < 4) (hz4 : z < 4) : ∃ sh' : zSh, SOK sh' ∧ zF Z M_X4_isIn (d + 2) [.ref 23, .int (nI b), .int (nI m), .int (nI x), .int (nI y), .int (nI z)] (wX hd th hi tx sh tp ++ R) [.int (if kIN b m x y z 171 0 = true then 1 else 0)] (wX hd th hi tx sh' tp ++ R) := by
  obtain ⟨b1, hb1, hS1, hK⟩ := hS
  obtain ⟨sh', hS', e, hz⟩ := c_measure (Z := Z) (d := d) (hd := hd) (th := th) (hi := hi) (tx := tx) (tp := tp) (R := R) hS1 hb1 hb
  refine ⟨sh', ⟨b, hb, hS', by rw [e]; exact hK⟩, ?_⟩
  unfold zF
  rw [wXlen]
  show zG Z M_X4_isIn (d + 2) _ (R.length + 41) 0 [(0, .ref 23), (1, .int (nI b)), (2, .int (nI m)), (3, .int (nI x)), (4, .int (nI y)), (5, .int (nI z))] [] (wX hd th hi tx sh tp ++ R)
  refine s_aload_n dX4_isIn_0 rfl ?_
  refine s_iload_n dX4_isIn_1 rfl ?_
  refine s_cv0 dX4_isIn_2 g_X4_55 (hz) (by rfl) rfl rfl rfl rfl (Nat.le_of_ble_eq_true rfl) (Nat.le_of_ble_eq_true rfl) rfl ?_
  refine s_aload_n dX4_isIn_5 rfl ?_
  refine s_iload_n dX4_isIn_6 rfl ?_
  refine s_iload_n dX4_isIn_7 rfl ?_
  refine s_iload dX4_isIn_8 rfl ?_
  refine s_iload dX4_isIn_10 rfl ?_
  refine s_cv1 dX4_isIn_12 g_X4_69 (c_X4_isInMeasured hS' hb h0 hm3 hx hy hz4) (by rfl) rfl rfl rfl rfl (Nat.le_of_ble_eq_true rfl) (Nat.le_of_ble_eq_true rfl) rfl ?_
  exact s_zret dX4_isIn_15 rfl (by cases kIN b m x y z 171 0 <;> first | exact Or.inl rfl | exact Or.inr rfl) ⟨rfl, rfl⟩ (by first | exact wXlen | rfl)
set_option maxHeartbeats 4000000 in
set_option maxRecDepth 100000 in
theorem c_isEdge {Z : zS} {d : Nat} {hd th : zHd} {hi : Int32} {tx : zTx} {tp : zTs} {R : zW} {sh : zSh} (hS : SOK sh) {b c : Nat} (hb : b < 256) (hc : c < 256) : ∃ sh' : zSh, SOK sh' ∧ zF Z M_X4_isEdge (d + 2) [.ref 23, .int (nI b), .int (nI c)] (wX hd th hi tx sh tp ++ R) [.int (if (kTP b c && decide (pPOP c = 2)) = true then 1 else 0)] (wX hd th hi tx sh' tp ++ R) := by
  obtain ⟨b1, hb1, hS1, hK⟩ := hS
  obtain ⟨sh', hS', e, hz⟩ := c_measure (Z := Z) (d := d) (hd := hd) (th := th) (hi := hi) (tx := tx) (tp := tp) (R := R) hS1 hb1 hb
  refine ⟨sh', ⟨b, hb, hS', by rw [e]; exact hK⟩, ?_⟩
  unfold zF
  rw [wXlen]
  show zG Z M_X4_isEdge (d + 2) _ (R.length + 41) 0 [(0, .ref 23), (1, .int (nI b)), (2, .int (nI c))] [] (wX hd th hi tx sh tp ++ R)
  refine s_aload_n dX4_isEdge_0 rfl ?_
  refine s_iload_n dX4_isEdge_1 rfl ?_
  refine s_cv0 dX4_isEdge_2 g_X4_55 (hz) (by rfl) rfl rfl rfl rfl (Nat.le_of_ble_eq_true rfl) (Nat.le_of_ble_eq_true rfl) rfl ?_
  refine s_aload_n dX4_isEdge_5 rfl ?_
  refine s_iload_n dX4_isEdge_6 rfl ?_
  refine s_cv1 dX4_isEdge_7 g_X4_58 (c_X4_isMeasuredTop hS' hc) (by rfl) rfl rfl rfl rfl (Nat.le_of_ble_eq_true rfl) (Nat.le_of_ble_eq_true rfl) rfl ?_
  refine s_if_eq (tgt := 25) dX4_isEdge_10 (by decide) (fun h_10 => ?_) (fun h_10 => ?_)
  · refine s_iconst (v := 0) dX4_isEdge_25 rfl ?_
    exact s_zret dX4_isEdge_26 rfl (by first | exact Or.inl rfl | exact Or.inr rfl) ⟨by rw [zB0 h_10]; rfl, rfl⟩ (by first | exact wXlen | rfl)
  · refine s_iload_n dX4_isEdge_13 rfl ?_
    refine s_cs1 dX4_isEdge_14 g_X4_62 (c_bcN hc) rfl rfl (Nat.le_of_ble_eq_true rfl) (Nat.le_of_ble_eq_true rfl) rfl ?_
    refine s_iconst (v := 2) dX4_isEdge_17 rfl ?_
    refine s_icmp_ne (tgt := 25) dX4_isEdge_18 (by decide) (fun h_18 => ?_) (fun h_18 => ?_)
    · refine s_iconst (v := 0) dX4_isEdge_25 rfl ?_
      exact s_zret dX4_isEdge_26 rfl (by first | exact Or.inl rfl | exact Or.inr rfl) ⟨by first | (rw [zB1 h_10, decide_eq_true ((zeq2 (pPOP31 c)).mp h_18)]; rfl) | (rw [decide_eq_false (fun z => h_18 ((zeq2 (pPOP31 c)).mpr z)), Bool.and_false]; rfl), rfl⟩ (by first | exact wXlen | rfl)
    · refine s_iconst (v := 1) dX4_isEdge_21 rfl ?_
      refine s_goto (tgt := 26) dX4_isEdge_22 (by decide) ?_
      exact s_zret dX4_isEdge_26 rfl (by first | exact Or.inl rfl | exact Or.inr rfl) ⟨by first | (rw [zB1 h_10, decide_eq_true ((zeq2 (pPOP31 c)).mp h_18)]; rfl) | (rw [decide_eq_false (fun z => h_18 ((zeq2 (pPOP31 c)).mpr z)), Bool.and_false]; rfl), rfl⟩ (by first | exact wXlen | rfl)
def wa (n : Nat) : Int := ((n / 49 : Nat) - 3 : Int)
def wb (n : Nat) : Int := ((n / 7 % 7 : Nat) - 3 : Int)
def wc (n : Nat) : Int := ((n % 7 : Nat) - 3 : Int)
theorem zcwt {n c : Nat} (hn : n < 343) (hc : c < 8) : nZ (wa n) * (nI c &&& 1) + nZ (wb n) * (nI c >>> ((1 : Int32) &&& 31) &&& 1) + nZ (wc n) * (nI c >>> ((2 : Int32) &&& 31) &&& 1) = nZ (pWT n c) := by
  obtain ⟨h1, h2, h3⟩ := q_w0 n hn
  have h := (q_wt n hn c hc).1
  unfold zWT at h
  rw [h1, h2, h3] at h
  exact h
set_option maxHeartbeats 4000000 in
set_option maxRecDepth 100000 in
theorem c_X4_cornerWeight {Z : zS} {d : Nat} {w : zW} {n c : Nat} (hn : n < 343) (hc : c < 8) : zF Z M_X4_cornerWeight (d) [.int (nI c), .int (nZ (wa n)), .int (nZ (wb n)), .int (nZ (wc n))] w [.int (nZ (pWT n c))] w := by
  show zG Z M_X4_cornerWeight (d) _ _ 0 [(0, .int (nI c)), (1, .int (nZ (wa n))), (2, .int (nZ (wb n))), (3, .int (nZ (wc n)))] [] w
  refine s_iload_n dX4_cornerWeight_0 rfl ?_
  refine s_iload_n dX4_cornerWeight_1 rfl ?_
  refine s_iconst (v := 1) dX4_cornerWeight_2 rfl ?_
  refine s_iand dX4_cornerWeight_3 ?_
  refine s_imul dX4_cornerWeight_4 ?_
  refine s_iload_n dX4_cornerWeight_5 rfl ?_
  refine s_iload_n dX4_cornerWeight_6 rfl ?_
  refine s_iconst (v := 1) dX4_cornerWeight_7 rfl ?_
  refine s_ishr dX4_cornerWeight_8 ?_
  refine s_iconst (v := 1) dX4_cornerWeight_9 rfl ?_
  refine s_iand dX4_cornerWeight_10 ?_
  refine s_imul dX4_cornerWeight_11 ?_
  refine s_iadd dX4_cornerWeight_12 ?_
  refine s_iload_n dX4_cornerWeight_13 rfl ?_
  refine s_iload_n dX4_cornerWeight_14 rfl ?_
  refine s_iconst (v := 2) dX4_cornerWeight_15 rfl ?_
  refine s_ishr dX4_cornerWeight_16 ?_
  refine s_iconst (v := 1) dX4_cornerWeight_17 rfl ?_
  refine s_iand dX4_cornerWeight_18 ?_
  refine s_imul dX4_cornerWeight_19 ?_
  refine s_iadd dX4_cornerWeight_20 ?_
  exact s_iret dX4_cornerWeight_21 rfl ⟨by rw [zcwt hn hc], rfl⟩ rfl
theorem mx_step {b n i : Nat} (hz : zb b i = 1) (hx : zRng (mxL b n i)) (hr : zRng (pWT n i)) : (if nZ (mxL b n i) < nZ (pWT n i) then nZ (pWT n i) else nZ (mxL b n i)) = nZ (mxL b n (i + 1)) := by
  by_cases c2 : mxL b n i < pWT n i
  · rw [if_pos ((nZ_lt hx hr).mpr c2), mxL, if_pos ⟨hz, Int.le_of_lt c2⟩]
  · rw [if_neg (fun q => c2 ((nZ_lt hx hr).mp q)), mxL]
    by_cases c : mxL b n i ≤ pWT n i
    · rw [if_pos ⟨hz, c⟩, show mxL b n i = pWT n i by omega]
    · rw [if_neg (fun q => c q.2)]
set_option maxHeartbeats 4000000 in
set_option maxRecDepth 100000 in
theorem l_mostBy {Z : zS} {d : Nat} {w : zW} {b n : Nat} (hb : b < 256) (hn : n < 343) : ∀ (k i : Nat), i + k = 8 → zG Z M_X4_mostBy (d + 1) (fun r1 w1 => r1 = [.int (nZ (mxL b n 8))] ∧ w1 = w) w.length 7 [(0, .int (nI b)), (1, .int (nZ (wa n))), (2, .int (nZ (wb n))), (3, .int (nZ (wc n))), (4, .int (nZ (mxL b n i))), (5, .int (nI i))] [] w := by
  intro k
  induction k with
  | zero =>
    intro i hi
    have hi : i = 8 := by omega
    subst hi
    refine s_iload dX4_mostBy_7 rfl ?_
    refine s_bipush (v := 8) dX4_mostBy_9 rfl ?_
    refine s_icmp_ge (tgt := 45) dX4_mostBy_11 (by decide) (fun hz => ?_) (fun h => absurd (by decide) h)
    clear hz
    refine s_iload dX4_mostBy_45 rfl ?_
    exact s_iret dX4_mostBy_47 rfl ⟨rfl, rfl⟩ rfl
  | succ k ih =>
    intro i hi
    have hm : i < 8 := by omega
    have hx := mxL_rng (b := b) hn i (by omega)
    have hw := (q_wt n hn i hm).2
    have hr : zRng (pWT n i) := by unfold zRng; omega
    refine s_iload dX4_mostBy_7 rfl ?_
    refine s_bipush (v := 8) dX4_mostBy_9 rfl ?_
    refine s_icmp_ge (tgt := 45) dX4_mostBy_11 (by decide) (fun h => absurd h (nI_ge hm (by decide))) (fun hz => ?_)
    clear hz
    refine s_iload_n dX4_mostBy_14 rfl ?_
    refine s_iload dX4_mostBy_15 rfl ?_
    refine s_cs1 dX4_mostBy_17 g_X4_34 (c_X7_bitOfN (by omega) (by omega)) rfl rfl (Nat.le_of_ble_eq_true rfl) (Nat.le_of_ble_eq_true rfl) rfl ?_
    refine s_iconst (v := 1) dX4_mostBy_20 rfl ?_
    refine s_icmp_ne (tgt := 39) dX4_mostBy_21 (by decide) (fun h_21 => ?_) (fun h_21 => ?_)
    · refine s_iinc (nI (i + 1)) dX4_mostBy_39 rfl (nI_1 _) (Nat.le_of_ble_eq_true rfl) rfl ?_
      refine s_goto (tgt := 7) dX4_mostBy_42 (by decide) ?_
      first
        | (have hz : zb b i = 1 := (zn1 (zbL b i)).mp h_21
           rw [mx_step hz hx hr]
           exact ih (i + 1) (by omega))
        | (have hz : ¬ zb b i = 1 := fun z => h_21 ((zn1 (zbL b i)).mpr z)
           rw [show mxL b n i = mxL b n (i + 1) from by rw [mxL, if_neg (fun q => hz q.1)]]
           exact ih (i + 1) (by omega))
    · refine s_iload dX4_mostBy_24 rfl ?_
      refine s_iload dX4_mostBy_26 rfl ?_
      refine s_iload_n dX4_mostBy_28 rfl ?_
      refine s_iload_n dX4_mostBy_29 rfl ?_
      refine s_iload_n dX4_mostBy_30 rfl ?_
      refine s_cs1 dX4_mostBy_31 g_X4_38 (c_X4_cornerWeight hn hm) rfl rfl (Nat.le_of_ble_eq_true rfl) (Nat.le_of_ble_eq_true rfl) rfl ?_
      refine s_max dX4_mostBy_34 (zin 434 (by decide +kernel) (by decide +kernel)) (zin 435 (by decide +kernel) (by decide +kernel)) (zin 67 (by decide +kernel) (by decide +kernel)) (zin 436 (by decide +kernel) (by decide +kernel)) (Nat.le_of_ble_eq_true rfl) ?_
      refine s_istore dX4_mostBy_37 (Nat.le_of_ble_eq_true rfl) rfl ?_
      refine s_iinc (nI (i + 1)) dX4_mostBy_39 rfl (nI_1 _) (Nat.le_of_ble_eq_true rfl) rfl ?_
      refine s_goto (tgt := 7) dX4_mostBy_42 (by decide) ?_
      first
        | (have hz : zb b i = 1 := (zn1 (zbL b i)).mp h_21
           rw [mx_step hz hx hr]
           exact ih (i + 1) (by omega))
        | (have hz : ¬ zb b i = 1 := fun z => h_21 ((zn1 (zbL b i)).mpr z)
           rw [show mxL b n i = mxL b n (i + 1) from by rw [mxL, if_neg (fun q => hz q.1)]]
           exact ih (i + 1) (by omega))
set_option maxHeartbeats 4000000 in
set_option maxRecDepth 100000 in
theorem c_X4_mostBy {Z : zS} {d : Nat} {w : zW} {b n : Nat} (hb : b < 256) (hn : n < 343) : zF Z M_X4_mostBy (d + 1) [.int (nI b), .int (nZ (wa n)), .int (nZ (wb n)), .int (nZ (wc n))] w [.int (nZ (mxL b n 8))] w := by
  show zG Z M_X4_mostBy (d + 1) _ _ 0 [(0, .int (nI b)), (1, .int (nZ (wa n))), (2, .int (nZ (wb n))), (3, .int (nZ (wc n)))] [] w
  refine s_ldc (v := (-2147483648)) dX4_mostBy_0 (zin 353 (by decide +kernel) (by decide +kernel)) ?_
  refine s_istore dX4_mostBy_2 (Nat.le_of_ble_eq_true rfl) rfl ?_
  refine s_iconst (v := 0) dX4_mostBy_4 rfl ?_
  refine s_istore dX4_mostBy_5 (Nat.le_of_ble_eq_true rfl) rfl ?_
  have K := l_mostBy (Z := Z) (d := d) (w := w) hb hn 8 0 rfl
  rw [show mxL b n 0 = -2147483648 from rfl, q_33] at K
  exact K
def thL (b n : Nat) (v : Int) : Nat → Nat
  | 0 => 0
  | i + 1 => if zb b i = 1 ∧ pWT n i = v then thL b n v i ||| 2 ^ i else thL b n v i
set_option maxHeartbeats 4000000 in
set_option maxRecDepth 100000 in
theorem l_those {Z : zS} {d : Nat} {w : zW} {b n : Nat} {v : Int} (hb : b < 256) (hn : n < 343) (hv : zRng v) : ∀ (k i : Nat), i + k = 8 → zG Z M_X4_thoseThatWeigh (d + 1) (fun r1 w1 => r1 = [.int (nI (thL b n v 8))] ∧ w1 = w) w.length 6 [(0, .int (nI b)), (1, .int (nZ (wa n))), (2, .int (nZ (wb n))), (3, .int (nZ (wc n))), (4, .int (nZ v)), (5, .int (nI (thL b n v i))), (6, .int (nI i))] [] w := by
  intro k
  induction k with
  | zero =>
    intro i hi
    have hi : i = 8 := by omega
    subst hi
    refine s_iload dX4_thoseThatWeigh_6 rfl ?_
    refine s_bipush (v := 8) dX4_thoseThatWeigh_8 rfl ?_
    refine s_icmp_ge (tgt := 51) dX4_thoseThatWeigh_10 (by decide) (fun hz => ?_) (fun h => absurd (by decide) h)
    clear hz
    refine s_iload dX4_thoseThatWeigh_51 rfl ?_
    exact s_iret dX4_thoseThatWeigh_53 rfl ⟨rfl, rfl⟩ rfl
  | succ k ih =>
    intro i hi
    have hm : i < 8 := by omega
    have hx := mxL_rng (b := b) hn i (by omega)
    have hw := (q_wt n hn i hm).2
    have hr : zRng (pWT n i) := by unfold zRng; omega
    refine s_iload dX4_thoseThatWeigh_6 rfl ?_
    refine s_bipush (v := 8) dX4_thoseThatWeigh_8 rfl ?_
    refine s_icmp_ge (tgt := 51) dX4_thoseThatWeigh_10 (by decide) (fun h => absurd h (nI_ge hm (by decide))) (fun hz => ?_)
    clear hz
    refine s_iload_n dX4_thoseThatWeigh_13 rfl ?_
    refine s_iload dX4_thoseThatWeigh_14 rfl ?_
    refine s_cs1 dX4_thoseThatWeigh_16 g_X4_34 (c_X7_bitOfN (by omega) (by omega)) rfl rfl (Nat.le_of_ble_eq_true rfl) (Nat.le_of_ble_eq_true rfl) rfl ?_
    refine s_iconst (v := 1) dX4_thoseThatWeigh_19 rfl ?_
    refine s_icmp_ne (tgt := 45) dX4_thoseThatWeigh_20 (by decide) (fun h_20 => ?_) (fun h_20 => ?_)
    · refine s_iinc (nI (i + 1)) dX4_thoseThatWeigh_45 rfl (nI_1 _) (Nat.le_of_ble_eq_true rfl) rfl ?_
      refine s_goto (tgt := 6) dX4_thoseThatWeigh_48 (by decide) ?_
      have hz : ¬ zb b i = 1 := fun z => h_20 ((zn1 (zbL b i)).mpr z)
      rw [show thL b n v i = thL b n v (i + 1) from by rw [thL, if_neg (fun q => hz q.1)]]
      exact ih (i + 1) (by omega)
    · refine s_iload dX4_thoseThatWeigh_23 rfl ?_
      refine s_iload_n dX4_thoseThatWeigh_25 rfl ?_
      refine s_iload_n dX4_thoseThatWeigh_26 rfl ?_
      refine s_iload_n dX4_thoseThatWeigh_27 rfl ?_
      refine s_cs1 dX4_thoseThatWeigh_28 g_X4_38 (c_X4_cornerWeight hn hm) rfl rfl (Nat.le_of_ble_eq_true rfl) (Nat.le_of_ble_eq_true rfl) rfl ?_
      refine s_iload dX4_thoseThatWeigh_31 rfl ?_
      refine s_icmp_ne (tgt := 45) dX4_thoseThatWeigh_33 (by decide) (fun h_33 => ?_) (fun h_33 => ?_)
      · refine s_iinc (nI (i + 1)) dX4_thoseThatWeigh_45 rfl (nI_1 _) (Nat.le_of_ble_eq_true rfl) rfl ?_
        refine s_goto (tgt := 6) dX4_thoseThatWeigh_48 (by decide) ?_
        first
          | (have hz : zb b i = 1 := (zn1 (zbL b i)).mp h_20
             rw [zsh8 i (by omega), fa_or, show thL b n v i ||| 2 ^ i = thL b n v (i + 1) from by rw [thL, if_pos ⟨hz, (nZ_eq hr hv).mp h_33⟩]]
             exact ih (i + 1) (by omega))
          | (rw [show thL b n v i = thL b n v (i + 1) from by rw [thL, if_neg (fun q => h_33 ((nZ_eq hr hv).mpr q.2))]]
             exact ih (i + 1) (by omega))
      · refine s_iload dX4_thoseThatWeigh_36 rfl ?_
        refine s_iconst (v := 1) dX4_thoseThatWeigh_38 rfl ?_
        refine s_iload dX4_thoseThatWeigh_39 rfl ?_
        refine s_ishl dX4_thoseThatWeigh_41 ?_
        refine s_ior dX4_thoseThatWeigh_42 ?_
        refine s_istore dX4_thoseThatWeigh_43 (Nat.le_of_ble_eq_true rfl) rfl ?_
        refine s_iinc (nI (i + 1)) dX4_thoseThatWeigh_45 rfl (nI_1 _) (Nat.le_of_ble_eq_true rfl) rfl ?_
        refine s_goto (tgt := 6) dX4_thoseThatWeigh_48 (by decide) ?_
        first
          | (have hz : zb b i = 1 := (zn1 (zbL b i)).mp h_20
             rw [zsh8 i (by omega), fa_or, show thL b n v i ||| 2 ^ i = thL b n v (i + 1) from by rw [thL, if_pos ⟨hz, (nZ_eq hr hv).mp h_33⟩]]
             exact ih (i + 1) (by omega))
          | (rw [show thL b n v i = thL b n v (i + 1) from by rw [thL, if_neg (fun q => h_33 ((nZ_eq hr hv).mpr q.2))]]
             exact ih (i + 1) (by omega))
set_option maxHeartbeats 4000000 in
set_option maxRecDepth 100000 in
theorem c_X4_thoseThatWeigh {Z : zS} {d : Nat} {w : zW} {b n : Nat} {v : Int} (hb : b < 256) (hn : n < 343) (hv : zRng v) : zF Z M_X4_thoseThatWeigh (d + 1) [.int (nI b), .int (nZ (wa n)), .int (nZ (wb n)), .int (nZ (wc n)), .int (nZ v)] w [.int (nI (thL b n v 8))] w := by
  show zG Z M_X4_thoseThatWeigh (d + 1) _ _ 0 [(0, .int (nI b)), (1, .int (nZ (wa n))), (2, .int (nZ (wb n))), (3, .int (nZ (wc n))), (4, .int (nZ v))] [] w
  refine s_iconst (v := 0) dX4_thoseThatWeigh_0 rfl ?_
  refine s_istore dX4_thoseThatWeigh_1 (Nat.le_of_ble_eq_true rfl) rfl ?_
  refine s_iconst (v := 0) dX4_thoseThatWeigh_3 rfl ?_
  refine s_istore dX4_thoseThatWeigh_4 (Nat.le_of_ble_eq_true rfl) rfl ?_
  exact l_those hb hn hv 8 0 rfl
