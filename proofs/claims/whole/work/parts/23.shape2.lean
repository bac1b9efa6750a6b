/-! ===== shapes: a body measured ===== -/
theorem mxD {b n : Nat} (hn : n < 343) : ∀ i, i ≤ 8 → (mxL b n i = -2147483648 ∧ ∀ c, c < i → ¬ zb b c = 1) ∨ (-9 ≤ mxL b n i ∧ mxL b n i ≤ 9)
  | 0, _ => Or.inl ⟨rfl, fun c hc => absurd hc (Nat.not_lt_zero c)⟩
  | i + 1, hi => by
    have ih := mxD (b := b) hn i (by omega)
    have hw := (q_wt n hn i (by omega)).2
    unfold mxL
    by_cases h : zb b i = 1 ∧ mxL b n i ≤ pWT n i
    · rw [if_pos h]; exact Or.inr hw
    · rw [if_neg h]
      rcases ih with ⟨h1, h2⟩ | h1
      · refine Or.inl ⟨h1, fun c hc => ?_⟩
        rcases Nat.lt_or_ge c i with z | z
        · exact h2 c z
        · have e : c = i := by omega
          subst e
          exact fun z => h ⟨z, by omega⟩
      · exact Or.inr h1
theorem mnD {b n : Nat} (hn : n < 343) : ∀ i, i ≤ 8 → (mnL b n i = 2147483647 ∧ ∀ c, c < i → ¬ zb b c = 1) ∨ (-9 ≤ mnL b n i ∧ mnL b n i ≤ 9)
  | 0, _ => Or.inl ⟨rfl, fun c hc => absurd hc (Nat.not_lt_zero c)⟩
  | i + 1, hi => by
    have ih := mnD (b := b) hn i (by omega)
    have hw := (q_wt n hn i (by omega)).2
    unfold mnL
    by_cases h : zb b i = 1 ∧ pWT n i ≤ mnL b n i
    · rw [if_pos h]; exact Or.inr hw
    · rw [if_neg h]
      rcases ih with ⟨h1, h2⟩ | h1
      · refine Or.inl ⟨h1, fun c hc => ?_⟩
        rcases Nat.lt_or_ge c i with z | z
        · exact h2 c z
        · have e : c = i := by omega
          subst e
          exact fun z => h ⟨z, by omega⟩
      · exact Or.inr h1
theorem q_some : ∀ b, b < 256 → b ≠ 0 → ∃ c, c < 8 ∧ zb b c = 1 := by decide +kernel
theorem mx9 {b n : Nat} (hb : b < 256) (h0 : b ≠ 0) (hn : n < 343) : -9 ≤ mxL b n 8 ∧ mxL b n 8 ≤ 9 := by
  rcases mxD (b := b) hn 8 (Nat.le_refl _) with ⟨-, h⟩ | h
  · obtain ⟨c, h1, h2⟩ := q_some b hb h0
    exact absurd h2 (h c h1)
  · exact h
theorem mn9 {b n : Nat} (hb : b < 256) (h0 : b ≠ 0) (hn : n < 343) : -9 ≤ mnL b n 8 ∧ mnL b n 8 ≤ 9 := by
  rcases mnD (b := b) hn 8 (Nat.le_refl _) with ⟨-, h⟩ | h
  · obtain ⟨c, h1, h2⟩ := q_some b hb h0
    exact absurd h2 (h c h1)
  · exact h
def zfI (f : Nat → Int32) : Nat → Nat → Int32
  | 0 => f
  | i + 1 => upd (zfI f i) i 0
theorem zfI_0 (f : Nat → Int32) : ∀ (i c : Nat), c < i → zfI f i c = 0
  | 0, c, h => absurd h (Nat.not_lt_zero c)
  | i + 1, c, h => by
    unfold zfI
    by_cases e : c = i
    · rw [e, pk_us]
    · rw [pk_un e]
      exact zfI_0 f i c (by omega)
def moL (b : Nat) (f : Nat → Int32) : Nat → Nat → Int32
  | 0 => f
  | n + 1 => upd (moL b f n) n (nZ (mxL b n 8))
def leL (b : Nat) (f : Nat → Int32) : Nat → Nat → Int32
  | 0 => f
  | n + 1 => upd (leL b f n) n (nZ (mnL b n 8))
def itL (b : Nat) (f : Nat → Int32) : Nat → Nat → Int32
  | 0 => f
  | n + 1 => upd (upd (itL b f n) (amL b n 8) 1) (bmL b n 8) 1
def lwL (b : Nat) : Nat → Int
  | 0 => 2147483647
  | n + 1 => if mxL b n 8 - mnL b n 8 < lwL b n then mxL b n 8 - mnL b n 8 else lwL b n
theorem moL_in (b : Nat) (f : Nat → Int32) : ∀ (n j : Nat), j < n → moL b f n j = nZ (mxL b j 8)
  | 0, j, h => absurd h (Nat.not_lt_zero j)
  | n + 1, j, h => by
    unfold moL
    by_cases e : j = n
    · rw [e, pk_us]
    · rw [pk_un e]
      exact moL_in b f n j (by omega)
theorem leL_in (b : Nat) (f : Nat → Int32) : ∀ (n j : Nat), j < n → leL b f n j = nZ (mnL b j 8)
  | 0, j, h => absurd h (Nat.not_lt_zero j)
  | n + 1, j, h => by
    unfold leL
    by_cases e : j = n
    · rw [e, pk_us]
    · rw [pk_un e]
      exact leL_in b f n j (by omega)
theorem itL_eq (b : Nat) {f g : Nat → Int32} {c : Nat} (h : f c = g c) : ∀ n, itL b f n c = itL b g n c
  | 0 => h
  | n + 1 => by
    have ih := itL_eq b h n
    unfold itL
    by_cases e : c = bmL b n 8
    · rw [e, pk_us, pk_us]
    · rw [pk_un e, pk_un e]
      by_cases e2 : c = amL b n 8
      · rw [e2, pk_us, pk_us]
      · rw [pk_un e2, pk_un e2]; exact ih
theorem lwL_rng {b : Nat} (hb : b < 256) (h0 : b ≠ 0) : ∀ n, n ≤ 171 → zRng (lwL b n)
  | 0, _ => by unfold zRng lwL; omega
  | n + 1, hn => by
    have ih := lwL_rng hb h0 n (by omega)
    have h1 := mx9 hb h0 (show n < 343 by omega)
    have h2 := mn9 hb h0 (show n < 343 by omega)
    unfold lwL
    by_cases c : mxL b n 8 - mnL b n 8 < lwL b n
    · rw [if_pos c]; unfold zRng; omega
    · rw [if_neg c]; exact ih
def kIT (b c : Nat) : Int32 := if b = 0 then 0 else itL b (fun _ => 0) 171 c
def kLW (b : Nat) : Int32 := if b = 0 then -5 else nZ (lwL b 171)
def SHM (b : Nat) (sh : zSh) : Prop := sh.1 = nI b ∧ sh.2.1 = kLW b ∧ (b ≠ 0 → (∀ n, n < 171 → sh.2.2.1 n = nZ (mxL b n 8)) ∧ ∀ n, n < 171 → sh.2.2.2.1 n = nZ (mnL b n 8)) ∧ ∀ c, c < 256 → sh.2.2.2.2.1 c = kIT b c
set_option maxHeartbeats 4000000 in
set_option maxRecDepth 100000 in
theorem l_ms0 {Z : zS} {d : Nat} {hd th : zHd} {hi : Int32} {tx : zTx} {tp : zTs} {R : zW} {b : Nat} {mo le it kn : Nat → Int32} {Q : List Value → zW → Prop} (K : zG Z M_X4_measure (d) Q (R.length + 41) 42 [(0, .ref 23), (1, .int (nI b)), (2, .int 256)] [] (wX hd th hi tx (nI b, -5, mo, le, zfI it 256, kn) tp ++ R)) : ∀ (k i : Nat), i + k = 256 → zG Z M_X4_measure (d) Q (R.length + 41) 22 [(0, .ref 23), (1, .int (nI b)), (2, .int (nI i))] [] (wX hd th hi tx (nI b, -5, mo, le, zfI it i, kn) tp ++ R) := by
  intro k
  induction k with
  | zero =>
    intro i hi
    have hi : i = 256 := by omega
    subst hi
    refine s_iload_n dX4_measure_22 rfl ?_
    refine s_sipush (v := 256) dX4_measure_23 rfl ?_
    refine s_icmp_ge (tgt := 42) dX4_measure_26 (by decide) (fun hz => ?_) (fun h => absurd (by decide) h)
    clear hz
    exact K
  | succ k ih =>
    intro i hi
    have hm : i < 256 := by omega
    have hc : (nI i).toNatClampNeg = i := nI_clamp (by omega)
    refine s_iload_n dX4_measure_22 rfl ?_
    refine s_sipush (v := 256) dX4_measure_23 rfl ?_
    refine s_icmp_ge (tgt := 42) dX4_measure_26 (by decide) (fun h => absurd h (nI_ge hm (by decide))) (fun hz => ?_)
    clear hz
    refine s_aload_n dX4_measure_29 rfl ?_
    refine s_get dX4_measure_30 f_X4_25 (by rfl) (by rfl) ?_
    refine s_iload_n dX4_measure_33 rfl ?_
    refine s_iconst (v := 0) dX4_measure_34 rfl ?_
    refine s_iast dX4_measure_35 (by rfl) (zrd (n := 256) hm (by decide)) ?_
    refine s_iinc (nI (i + 1)) dX4_measure_36 rfl (nI_1 _) (Nat.le_of_ble_eq_true rfl) rfl ?_
    refine s_goto (tgt := 22) dX4_measure_39 (by decide) ?_
    rw [hc]
    exact ih (i + 1) (by omega)
set_option maxHeartbeats 4000000 in
set_option maxRecDepth 100000 in
theorem l_ms1 {Z : zS} {d : Nat} {hd th : zHd} {hi : Int32} {tx : zTx} {tp : zTs} {R : zW} {b : Nat} {mo le it kn : Nat → Int32} (hb : b < 256) (h0 : b ≠ 0) : ∀ (k n : Nat), n + k = 171 → zG Z M_X4_measure (d + 1) (fun r1 w1 => r1 = [] ∧ w1 = (wX hd th hi tx (nI b, nZ (lwL b 171), moL b mo 171, leL b le 171, itL b it 171, kn) tp ++ R)) (R.length + 41) 55 [(0, .ref 23), (1, .int (nI b)), (2, .int (nI n))] [] (wX hd th hi tx (nI b, nZ (lwL b n), moL b mo n, leL b le n, itL b it n, kn) tp ++ R) := by
  intro k
  induction k with
  | zero =>
    intro n hi
    have hi : n = 171 := by omega
    subst hi
    refine s_iload_n dX4_measure_55 rfl ?_
    refine s_sipush (v := 171) dX4_measure_56 rfl ?_
    refine s_icmp_ge (tgt := 97) dX4_measure_59 (by decide) (fun hz => ?_) (fun h => absurd (by decide) h)
    clear hz
    exact s_vret dX4_measure_97 rfl ⟨rfl, rfl⟩ (by first | exact wXlen | rfl)
  | succ k ih =>
    intro n hi
    have hm : n < 171 := by omega
    have hc : (nI n).toNatClampNeg = n := nI_clamp (by omega)
    have r1 := lwL_rng hb h0 n (by omega)
    have h1 := mx9 hb h0 (show n < 343 by omega)
    have h2 := mn9 hb h0 (show n < 343 by omega)
    have r2 : zRng (mxL b n 8 - mnL b n 8) := by unfold zRng; omega
    have e : (if nZ (mxL b n 8) - nZ (mnL b n 8) < nZ (lwL b n) then nZ (mxL b n 8) - nZ (mnL b n 8) else nZ (lwL b n)) = nZ (lwL b (n + 1)) := by
      rw [← Int32.ofInt_sub, lwL]
      by_cases c : mxL b n 8 - mnL b n 8 < lwL b n
      · rw [if_pos c, if_pos ((nZ_lt r2 r1).mpr c)]
      · rw [if_neg c, if_neg (fun z => c ((nZ_lt r2 r1).mp z))]
    refine s_iload_n dX4_measure_55 rfl ?_
    refine s_sipush (v := 171) dX4_measure_56 rfl ?_
    refine s_icmp_ge (tgt := 97) dX4_measure_59 (by decide) (fun h => absurd h (nI_ge hm (by decide))) (fun hz => ?_)
    clear hz
    refine s_aload_n dX4_measure_62 rfl ?_
    refine s_iload_n dX4_measure_63 rfl ?_
    refine s_cv0 dX4_measure_64 g_X4_48 (c_X4_measureBy hb hm) (by rfl) rfl rfl rfl rfl (Nat.le_of_ble_eq_true rfl) (Nat.le_of_ble_eq_true rfl) rfl ?_
    refine s_aload_n dX4_measure_67 rfl ?_
    refine s_aload_n dX4_measure_68 rfl ?_
    refine s_get dX4_measure_69 f_X4_15 (by rfl) (by rfl) ?_
    refine s_aload_n dX4_measure_72 rfl ?_
    refine s_get dX4_measure_73 f_X4_18 (by rfl) (by rfl) ?_
    refine s_iload_n dX4_measure_76 rfl ?_
    refine s_iald dX4_measure_77 (by rfl) (zrd (n := 171) hm (by decide)) ?_
    refine s_aload_n dX4_measure_78 rfl ?_
    refine s_get dX4_measure_79 f_X4_22 (by rfl) (by rfl) ?_
    refine s_iload_n dX4_measure_82 rfl ?_
    refine s_iald dX4_measure_83 (by rfl) (zrd (n := 171) hm (by decide)) ?_
    refine s_isub dX4_measure_84 ?_
    dsimp only
    rw [hc, pk_us, pk_us]
    refine s_min dX4_measure_85 (zin 354 (by decide +kernel) (by decide +kernel)) (zin 253 (by decide +kernel) (by decide +kernel)) (zin 67 (by decide +kernel) (by decide +kernel)) (zin 254 (by decide +kernel) (by decide +kernel)) (Nat.le_of_ble_eq_true rfl) ?_
    rw [e]
    refine s_put dX4_measure_88 f_X4_15 (by rfl) (fun _ => ⟨rfl, rfl⟩) (Nat.le_of_ble_eq_true rfl) ?_
    refine s_iinc (nI (n + 1)) dX4_measure_91 rfl (nI_1 _) (Nat.le_of_ble_eq_true rfl) rfl ?_
    refine s_goto (tgt := 55) dX4_measure_94 (by decide) ?_
    exact ih (n + 1) (by omega)
set_option maxHeartbeats 4000000 in
set_option maxRecDepth 100000 in
theorem c_ms_same {Z : zS} {d : Nat} {hd th : zHd} {hi : Int32} {tx : zTx} {tp : zTs} {R : zW} {b : Nat} {lw : Int32} {mo le it kn : Nat → Int32} : zF Z M_X4_measure (d + 1) [.ref 23, .int (nI b)] (wX hd th hi tx (nI b, lw, mo, le, it, kn) tp ++ R) [] (wX hd th hi tx (nI b, lw, mo, le, it, kn) tp ++ R) := by
  unfold zF
  rw [wXlen]
  show zG Z M_X4_measure (d + 1) _ (R.length + 41) 0 [(0, .ref 23), (1, .int (nI b))] [] (wX hd th hi tx (nI b, lw, mo, le, it, kn) tp ++ R)
  refine s_iload_n dX4_measure_0 rfl ?_
  refine s_aload_n dX4_measure_1 rfl ?_
  refine s_get dX4_measure_2 f_X4_9 (by rfl) (by rfl) ?_
  refine s_icmp_ne (tgt := 9) dX4_measure_5 (by decide) (fun h => absurd rfl h) (fun hz => ?_)
  clear hz
  exact s_vret dX4_measure_8 rfl ⟨rfl, rfl⟩ (by first | exact wXlen | rfl)
set_option maxHeartbeats 4000000 in
set_option maxRecDepth 100000 in
theorem c_ms_zero {Z : zS} {d : Nat} {hd th : zHd} {hi : Int32} {tx : zTx} {tp : zTs} {R : zW} {b0 : Nat} {lw : Int32} {mo le it kn : Nat → Int32} (hn : ¬ nI 0 = nI b0) : zF Z M_X4_measure (d + 1) [.ref 23, .int (nI 0)] (wX hd th hi tx (nI b0, lw, mo, le, it, kn) tp ++ R) [] (wX hd th hi tx (nI 0, -5, mo, le, zfI it 256, kn) tp ++ R) := by
  unfold zF
  rw [wXlen]
  show zG Z M_X4_measure (d + 1) _ (R.length + 41) 0 [(0, .ref 23), (1, .int (nI 0))] [] (wX hd th hi tx (nI b0, lw, mo, le, it, kn) tp ++ R)
  refine s_iload_n dX4_measure_0 rfl ?_
  refine s_aload_n dX4_measure_1 rfl ?_
  refine s_get dX4_measure_2 f_X4_9 (by rfl) (by rfl) ?_
  refine s_icmp_ne (tgt := 9) dX4_measure_5 (by decide) (fun hz => ?_) (fun h => absurd h hn)
  clear hz
  refine s_aload_n dX4_measure_9 rfl ?_
  refine s_iload_n dX4_measure_10 rfl ?_
  refine s_put dX4_measure_11 f_X4_9 (by rfl) (fun _ => ⟨rfl, rfl⟩) (Nat.le_of_ble_eq_true rfl) ?_
  refine s_aload_n dX4_measure_14 rfl ?_
  refine s_bipush (v := (-5)) dX4_measure_15 rfl ?_
  refine s_put dX4_measure_17 f_X4_15 (by rfl) (fun _ => ⟨rfl, rfl⟩) (Nat.le_of_ble_eq_true rfl) ?_
  refine s_iconst (v := 0) dX4_measure_20 rfl ?_
  refine s_istore_n dX4_measure_21 (Nat.le_of_ble_eq_true rfl) rfl ?_
  refine l_ms0 ?_ 256 0 rfl
  refine s_iload_n dX4_measure_42 rfl ?_
  refine s_if_ne (tgt := 47) dX4_measure_43 (by decide) (fun h => absurd rfl h) (fun hz => ?_)
  clear hz
  exact s_vret dX4_measure_46 rfl ⟨rfl, rfl⟩ (by first | exact wXlen | rfl)
set_option maxHeartbeats 4000000 in
set_option maxRecDepth 100000 in
theorem c_ms_new {Z : zS} {d : Nat} {hd th : zHd} {hi : Int32} {tx : zTx} {tp : zTs} {R : zW} {b b0 : Nat} {lw : Int32} {mo le it kn : Nat → Int32} (hb : b < 256) (h0 : b ≠ 0) (hn : ¬ nI b = nI b0) : zF Z M_X4_measure (d + 1) [.ref 23, .int (nI b)] (wX hd th hi tx (nI b0, lw, mo, le, it, kn) tp ++ R) [] (wX hd th hi tx (nI b, nZ (lwL b 171), moL b mo 171, leL b le 171, itL b (zfI it 256) 171, kn) tp ++ R) := by
  unfold zF
  rw [wXlen]
  show zG Z M_X4_measure (d + 1) _ (R.length + 41) 0 [(0, .ref 23), (1, .int (nI b))] [] (wX hd th hi tx (nI b0, lw, mo, le, it, kn) tp ++ R)
  refine s_iload_n dX4_measure_0 rfl ?_
  refine s_aload_n dX4_measure_1 rfl ?_
  refine s_get dX4_measure_2 f_X4_9 (by rfl) (by rfl) ?_
  refine s_icmp_ne (tgt := 9) dX4_measure_5 (by decide) (fun hz => ?_) (fun h => absurd h hn)
  clear hz
  refine s_aload_n dX4_measure_9 rfl ?_
  refine s_iload_n dX4_measure_10 rfl ?_
  refine s_put dX4_measure_11 f_X4_9 (by rfl) (fun _ => ⟨rfl, rfl⟩) (Nat.le_of_ble_eq_true rfl) ?_
  refine s_aload_n dX4_measure_14 rfl ?_
  refine s_bipush (v := (-5)) dX4_measure_15 rfl ?_
  refine s_put dX4_measure_17 f_X4_15 (by rfl) (fun _ => ⟨rfl, rfl⟩) (Nat.le_of_ble_eq_true rfl) ?_
  refine s_iconst (v := 0) dX4_measure_20 rfl ?_
  refine s_istore_n dX4_measure_21 (Nat.le_of_ble_eq_true rfl) rfl ?_
  refine l_ms0 ?_ 256 0 rfl
  refine s_iload_n dX4_measure_42 rfl ?_
  refine s_if_ne (tgt := 47) dX4_measure_43 (by decide) (fun hz => ?_) (fun h => absurd h (nI_ne0 (by omega) (by omega)))
  clear hz
  refine s_aload_n dX4_measure_47 rfl ?_
  refine s_ldc (v := (2147483647)) dX4_measure_48 (zin 348 (by decide +kernel) (by decide +kernel)) ?_
  refine s_put dX4_measure_50 f_X4_15 (by rfl) (fun _ => ⟨rfl, rfl⟩) (Nat.le_of_ble_eq_true rfl) ?_
  refine s_iconst (v := 0) dX4_measure_53 rfl ?_
  refine s_istore_n dX4_measure_54 (Nat.le_of_ble_eq_true rfl) rfl ?_
  have K := l_ms1 (Z := Z) (d := d) (hd := hd) (th := th) (hi := hi) (tx := tx) (tp := tp) (R := R) (mo := mo) (le := le) (it := zfI it 256) (kn := kn) hb h0 171 0 rfl
  rw [show lwL b 0 = 2147483647 from rfl, q_47] at K
  exact K
set_option maxHeartbeats 4000000 in
set_option maxRecDepth 100000 in
theorem c_measure {Z : zS} {d : Nat} {hd th : zHd} {hi : Int32} {tx : zTx} {tp : zTs} {R : zW} {b b0 : Nat} {sh : zSh} (hS : SHM b0 sh) (hb0 : b0 < 256) (hb : b < 256) : ∃ sh' : zSh, SHM b sh' ∧ sh'.2.2.2.2.2 = sh.2.2.2.2.2 ∧ zF Z M_X4_measure (d + 1) [.ref 23, .int (nI b)] (wX hd th hi tx sh tp ++ R) [] (wX hd th hi tx sh' tp ++ R) := by
  obtain ⟨m, lw, mo, le, it, kn⟩ := sh
  obtain ⟨h1, h2, h3, h4⟩ := hS
  dsimp only at h1 h2 h3 h4
  subst h1
  by_cases e : b = b0
  · subst e
    exact ⟨(nI b, lw, mo, le, it, kn), ⟨rfl, h2, h3, h4⟩, rfl, c_ms_same⟩
  · have hn : ¬ nI b = nI b0 := fun z => e ((nI_eq (by omega) (by omega)).mp z)
    by_cases h0 : b = 0
    · subst h0
      refine ⟨(nI 0, -5, mo, le, zfI it 256, kn), ⟨rfl, ?_, fun z => absurd rfl z, fun c hc => ?_⟩, rfl, c_ms_zero hn⟩
      · show (-5 : Int32) = kLW 0
        rw [kLW, if_pos rfl]
      · show zfI it 256 c = kIT 0 c
        rw [kIT, if_pos rfl, zfI_0 it 256 c hc]
    · refine ⟨(nI b, nZ (lwL b 171), moL b mo 171, leL b le 171, itL b (zfI it 256) 171, kn), ⟨rfl, ?_, fun _ => ⟨fun n hn => moL_in b mo 171 n hn, fun n hn => leL_in b le 171 n hn⟩, fun c hc => ?_⟩, rfl, c_ms_new hb h0 hn⟩
      · show nZ (lwL b 171) = kLW b
        rw [kLW, if_neg h0]
      · show itL b (zfI it 256) 171 c = kIT b c
        rw [kIT, if_neg h0]
        exact itL_eq b (by rw [zfI_0 it 256 c hc]) 171
