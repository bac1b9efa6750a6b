/-! ===== the model: tapes ===== -/
theorem z60 (j p : Nat) : (60 : Int32) * nI j + nI p = nI (60 * j + p) := by rw [show (60 : Int32) = nI 60 from rfl, pk_mul, nI_add]
def mfil (it : Nat → Int64) (j : Nat) : Nat → Nat → Int64
  | 0 => it
  | i + 1 => vp_updL (mfil it j i) (60 * j + i) 0
theorem mzN {i : Int32} {z : Nat} (hz : z ≤ 60) (h : i < 0 ∨ nI z ≤ i) : (if i < 0 then (0 : Int32) else if nI z - 1 < i then 0 else 1) = 0 := by
  by_cases h1 : i < 0
  · rw [if_pos h1]
  · rw [if_neg h1, if_pos]
    have h2 := h.resolve_left h1
    rw [fa_le, nI_toInt (by omega)] at h2
    rw [fa_lt, show (1 : Int32) = nI 1 from rfl, pk_sub_toInt (by omega) (by decide)]
    omega
theorem mzY {p z : Nat} (hz : z ≤ 60) (h : p < z) : ¬ (if nI p < 0 then (0 : Int32) else if nI z - 1 < nI p then 0 else 1) = 0 := by
  rw [if_neg (nI_pos (by omega)), if_neg]
  · decide
  · rw [fa_lt, show (1 : Int32) = nI 1 from rfl, pk_sub_toInt (by omega) (by decide), nI_toInt (by omega)]
    omega
theorem mzM {i : Int32} : (if i < 0 then (0 : Int32) else if (-1 : Int32) - 1 < i then 0 else 1) = 0 := by
  by_cases h1 : i < 0
  · rw [if_pos h1]
  · rw [if_neg h1, if_pos]
    rw [fa_lt] at h1 ⊢
    have e0 : (0 : Int32).toInt = 0 := by decide
    have e2 : ((-1 : Int32) - 1).toInt = -2 := by decide
    rw [e2]
    rw [e0] at h1
    omega
theorem zps {p z c : Nat} (hp : p < 1000) (hz : z < 1000) (hc : c < 1000) : nI p < nI z - nI c ↔ p + c < z := by
  rw [fa_lt, nI_toInt (by omega), pk_sub_toInt (by omega) (by omega)]
  omega
theorem zcmpG {x y : Int64} : 0 < lg_cmp x y ↔ y < x := by
  unfold lg_cmp
  by_cases h1 : x > y
  · rw [if_pos h1]
    exact ⟨fun _ => h1, fun _ => by decide⟩
  · rw [if_neg h1]
    refine ⟨fun h => ?_, fun h => absurd h h1⟩
    by_cases h2 : x = y
    · rw [if_pos h2] at h; exact absurd h (by decide)
    · rw [if_neg h2] at h; exact absurd h (by decide)
theorem zcmpL {x y : Int64} : lg_cmp x y ≤ 0 ↔ ¬ y < x := by
  rw [← zcmpG]
  exact Int32.not_lt.symm
theorem zsum {p m : Int32} {z : Nat} (hz : z ≤ 60) : (nI z).toInt64 < p.toInt64 + m.toInt64 ↔ (z : Int) < p.toInt + m.toInt := by
  have h1 := fb_rng p
  have h2 := fb_rng m
  rw [fa_lt64, fb_addL (by rw [Int32.toInt_toInt64, Int32.toInt_toInt64]; omega) (by rw [Int32.toInt_toInt64, Int32.toInt_toInt64]; omega), Int32.toInt_toInt64, Int32.toInt_toInt64, Int32.toInt_toInt64, nI_toInt (by omega)]
def mvF (mv it : Nat → Int64) (a : Nat) : Nat → Nat → Int64
  | 0 => mv
  | k + 1 => vp_updL (mvF mv it a k) k (it (a + k))
def itF (it mv : Nat → Int64) (a : Nat) : Nat → Nat → Int64
  | 0 => it
  | k + 1 => vp_updL (itF it mv a k) (a + k) (mv k)
theorem mvF_in (mv it : Nat → Int64) (a : Nat) : ∀ k j, j < k → mvF mv it a k j = it (a + j)
  | 0, j, h => absurd h (Nat.not_lt_zero j)
  | k + 1, j, h => by
    unfold mvF vp_updL
    by_cases c : j = k
    · rw [if_pos c, c]
    · rw [if_neg c]
      exact mvF_in mv it a k j (by omega)
theorem itF_val (it mv : Nat → Int64) (a : Nat) : ∀ k j, itF it mv a k j = if a ≤ j ∧ j < a + k then mv (j - a) else it j
  | 0, j => by rw [if_neg (by omega)]; rfl
  | k + 1, j => by
    unfold itF vp_updL
    by_cases c : j = a + k
    · rw [if_pos c, if_pos (by omega), show j - a = k by omega]
    · rw [if_neg c, itF_val it mv a k j]
      by_cases c2 : a ≤ j ∧ j < a + k
      · rw [if_pos c2, if_pos (by omega)]
      · rw [if_neg c2, if_neg (by omega)]
theorem mfil_val (it : Nat → Int64) (j : Nat) : ∀ k x, mfil it j k x = if 60 * j ≤ x ∧ x < 60 * j + k then 0 else it x
  | 0, x => by rw [if_neg (by omega)]; rfl
  | k + 1, x => by
    unfold mfil vp_updL
    by_cases c : x = 60 * j + k
    · rw [if_pos c, if_pos (by omega)]
    · rw [if_neg c, mfil_val it j k x]
      by_cases c2 : 60 * j ≤ x ∧ x < 60 * j + k
      · rw [if_pos c2, if_pos (by omega)]
      · rw [if_neg c2, if_neg (by omega)]
set_option maxHeartbeats 4000000 in
set_option maxRecDepth 100000 in
theorem y_tape1 {Z : zS} {d : Nat} {w : zW} {b k : Nat} {mf ma mc ms me mq mu mh mp : Int32} (ho : w[41]? = some (oM (nI b) (nI k) mf ma mc ms me mq mu mh mp)) {so sz : Nat → Int32} {it : Nat → Int64} (hso : w[59]? = some (aI 6 so)) (hsz : w[60]? = some (aI 6 sz)) (hit : w[61]? = some (aL 360 it)) {c p q : Int32} (hc : c < 0 ∨ 6 ≤ c) : zF Z M_X8_tape (d + 2) [.ref 41, .int c, .int p, .int q] w [.int (-1)] w := by
  show zG Z M_X8_tape (d + 2) _ _ 0 [(0, .ref 41), (1, .int c), (2, .int p), (3, .int q)] [] w
  refine s_iload_n dX8_tape_0 rfl ?_
  refine s_cs1 dX8_tape_1 g_X8_243 (c_X8_isTape) rfl rfl (Nat.le_of_ble_eq_true rfl) (Nat.le_of_ble_eq_true rfl) rfl ?_
  refine s_if_ne (tgt := 9) dX8_tape_4 (by decide) (fun hqz => absurd (miN (n := 5) (by decide) hc) hqz) (fun hz => ?_)
  clear hz
  refine s_iconst (v := (-1)) dX8_tape_7 rfl ?_
  exact s_iret dX8_tape_8 rfl ⟨rfl, rfl⟩ (by first | rfl | (simp only [List.length_set]; rfl))
set_option maxHeartbeats 4000000 in
set_option maxRecDepth 100000 in
theorem l_X8_tape {Z : zS} {d : Nat} {w : zW} {b k : Nat} {mf ma mc ms me mq mu mh mp : Int32} (ho : w[41]? = some (oM (nI b) (nI k) mf ma mc ms me mq mu mh mp)) {so sz : Nat → Int32} {it : Nat → Int64} (hso : w[59]? = some (aI 6 so)) (hsz : w[60]? = some (aI 6 sz)) (hit : w[61]? = some (aL 360 it)) {j : Nat} {x y p q : Int32} (hj : j < 6) : ∀ (n i : Nat), i + n = 60 → zG Z M_X8_tape d (fun r1 w1 => r1 = [.int 1] ∧ w1 = (((w.set 59 (aI 6 (upd so j x))).set 60 (aI 6 (upd sz j y))).set 61 (aL 360 (mfil it j 60)))) w.length 67 [(0, .ref 41), (1, .int (nI j)), (2, .int p), (3, .int q), (4, .int (nI i))] [] (((w.set 59 (aI 6 (upd so j x))).set 60 (aI 6 (upd sz j y))).set 61 (aL 360 (mfil it j i))) := by
  have l1 := zlt ho
  have l2 := zlt hso
  have l3 := zlt hsz
  have l4 := zlt hit
  intro n
  induction n with
  | zero =>
    intro i hi
    have hi : i = 60 := by omega
    subst hi
    refine s_iload dX8_tape_67 rfl ?_
    refine s_bipush (v := 60) dX8_tape_69 rfl ?_
    refine s_icmp_ge (tgt := 93) dX8_tape_71 (by decide) (fun hz => ?_) (fun hqz => absurd (by decide) hqz)
    clear hz
    refine s_iconst (v := 1) dX8_tape_93 rfl ?_
    exact s_iret dX8_tape_94 rfl ⟨rfl, rfl⟩ (by first | rfl | (simp only [List.length_set]; rfl))
  | succ n ih =>
    intro i hi
    have hm : i < 60 := by omega
    refine s_iload dX8_tape_67 rfl ?_
    refine s_bipush (v := 60) dX8_tape_69 rfl ?_
    refine s_icmp_ge (tgt := 93) dX8_tape_71 (by decide) (fun hqz => absurd hqz (nI_ge hm (by decide))) (fun hz => ?_)
    clear hz
    refine s_aload_n dX8_tape_74 rfl ?_
    refine s_get dX8_tape_75 f_X8_74 (by repeat (first | assumption | refine zg1 ?_ (by decide) | (refine zgs ?_; (try simp only [List.length_set]); assumption))) (by rfl) ?_
    refine s_bipush (v := 60) dX8_tape_78 rfl ?_
    refine s_iload_n dX8_tape_80 rfl ?_
    refine s_imul dX8_tape_81 ?_
    refine s_iload dX8_tape_82 rfl ?_
    refine s_iadd dX8_tape_84 ?_
    rw [z60]
    refine s_lconst (v := 0) dX8_tape_85 rfl ?_
    refine s_last dX8_tape_86 (by repeat (first | assumption | refine zg1 ?_ (by decide) | (refine zgs ?_; (try simp only [List.length_set]); assumption))) (zrd (n := 360) (by omega) (by decide)) ?_
    rw [List.set_set, nI_clamp (by omega)]
    refine s_iinc (nI (i + 1)) dX8_tape_87 rfl (nI_1 _) (Nat.le_of_ble_eq_true rfl) rfl ?_
    refine s_goto (tgt := 67) dX8_tape_90 (by decide) ?_
    exact ih (i + 1) (by omega)
set_option maxHeartbeats 4000000 in
set_option maxRecDepth 100000 in
theorem y_tape_none {Z : zS} {d : Nat} {w : zW} {b k : Nat} {mf ma mc ms me mq mu mh mp : Int32} (ho : w[41]? = some (oM (nI b) (nI k) mf ma mc ms me mq mu mh mp)) {so sz : Nat → Int32} {it : Nat → Int64} (hso : w[59]? = some (aI 6 so)) (hsz : w[60]? = some (aI 6 sz)) (hit : w[61]? = some (aL 360 it)) {j : Nat} (hj : j < 6) {q : Int32} : zF Z M_X8_tape (d + 2) [.ref 41, .int (nI j), .int (-1), .int q] w [.int 1] (((w.set 59 (aI 6 (upd so j (-1)))).set 60 (aI 6 (upd sz j (-1)))).set 61 (aL 360 (mfil it j 60))) := by
  show zG Z M_X8_tape (d + 2) _ w.length 0 [(0, .ref 41), (1, .int (nI j)), (2, .int (-1)), (3, .int q)] [] w
  have l1 := zlt ho
  have l2 := zlt hso
  have l3 := zlt hsz
  have l4 := zlt hit
  refine s_iload_n dX8_tape_0 rfl ?_
  refine s_cs1 dX8_tape_1 g_X8_243 (c_X8_isTape) rfl rfl (Nat.le_of_ble_eq_true rfl) (Nat.le_of_ble_eq_true rfl) rfl ?_
  refine s_if_ne (tgt := 9) dX8_tape_4 (by decide) (fun hz => ?_) (fun hqz => absurd hqz (miY (n := 5) (by omega) (by decide)))
  clear hz
  refine s_iload_n dX8_tape_9 rfl ?_
  refine s_iconst (v := (-1)) dX8_tape_10 rfl ?_
  refine s_iconst (v := 4) dX8_tape_11 rfl ?_
  refine s_cs1 dX8_tape_12 g_X8_5 (c_X8_isIn) rfl rfl (Nat.le_of_ble_eq_true rfl) (Nat.le_of_ble_eq_true rfl) rfl ?_
  refine s_if_eq (tgt := 28) dX8_tape_15 (by decide) (fun hqz => absurd hqz (by decide)) (fun hz => ?_)
  clear hz
  refine s_iload_n dX8_tape_18 rfl ?_
  refine s_if_lt (tgt := 31) dX8_tape_19 (by decide) (fun hz => ?_) (fun hqz => absurd (by decide) hqz)
  clear hz
  refine s_iload_n dX8_tape_31 rfl ?_
  refine s_if_lt (tgt := 42) dX8_tape_32 (by decide) (fun hz => ?_) (fun hqz => absurd (by decide) hqz)
  clear hz
  refine s_aload_n dX8_tape_42 rfl ?_
  refine s_get dX8_tape_43 f_X8_68 (by repeat (first | assumption | refine zg1 ?_ (by decide) | (refine zgs ?_; (try simp only [List.length_set]); assumption))) (by rfl) ?_
  refine s_iload_n dX8_tape_46 rfl ?_
  refine s_iload_n dX8_tape_47 rfl ?_
  refine s_iast dX8_tape_48 (by repeat (first | assumption | refine zg1 ?_ (by decide) | (refine zgs ?_; (try simp only [List.length_set]); assumption))) (zrd (n := 6) hj (by decide)) ?_
  rw [nI_clamp (by omega)]
  refine s_aload_n dX8_tape_49 rfl ?_
  refine s_get dX8_tape_50 f_X8_71 (by repeat (first | assumption | refine zg1 ?_ (by decide) | (refine zgs ?_; (try simp only [List.length_set]); assumption))) (by rfl) ?_
  refine s_iload_n dX8_tape_53 rfl ?_
  refine s_iload_n dX8_tape_54 rfl ?_
  refine s_if_ge (tgt := 62) dX8_tape_55 (by decide) (fun hqz => absurd hqz (by decide)) (fun hz => ?_)
  clear hz
  refine s_iconst (v := (-1)) dX8_tape_58 rfl ?_
  refine s_goto (tgt := 63) dX8_tape_59 (by decide) ?_
  refine s_iast dX8_tape_63 (by repeat (first | assumption | refine zg1 ?_ (by decide) | (refine zgs ?_; (try simp only [List.length_set]); assumption))) (zrd (n := 6) hj (by decide)) ?_
  rw [nI_clamp (by omega)]
  refine s_iconst (v := 0) dX8_tape_64 rfl ?_
  refine s_istore dX8_tape_65 (Nat.le_of_ble_eq_true rfl) rfl ?_
  have K := l_X8_tape (Z := Z) (d := d + 2) (x := (-1)) (y := (-1)) (p := (-1)) (q := q) ho hso hsz hit hj 60 0 rfl
  rw [show mfil it j 0 = it from rfl, zss (show ((w.set 59 (aI 6 (upd so j (-1)))).set 60 (aI 6 (upd sz j (-1))))[61]? = some (aL 360 it) from zg1 (zg1 hit (by decide)) (by decide))] at K
  exact K
theorem miM {s : Nat} (hs : s < 5) : ¬ (if nI s < -1 then (0 : Int32) else if 4 < nI s then 0 else 1) = 0 := by
  rcases (show s = 0 ∨ s = 1 ∨ s = 2 ∨ s = 3 ∨ s = 4 by omega) with rfl | rfl | rfl | rfl | rfl <;> decide
set_option maxHeartbeats 4000000 in
set_option maxRecDepth 100000 in
theorem y_tape {Z : zS} {d : Nat} {w : zW} {b k : Nat} {mf ma mc ms me mq mu mh mp : Int32} (ho : w[41]? = some (oM (nI b) (nI k) mf ma mc ms me mq mu mh mp)) {so sz : Nat → Int32} {it : Nat → Int64} (hso : w[59]? = some (aI 6 so)) (hsz : w[60]? = some (aI 6 sz)) (hit : w[61]? = some (aL 360 it)) {j : Nat} (hj : j < 6) {s z : Nat} (hs : s < 5) (hz : z ≤ 60) : zF Z M_X8_tape (d + 2) [.ref 41, .int (nI j), .int (nI s), .int (nI z)] w [.int 1] (((w.set 59 (aI 6 (upd so j (nI s)))).set 60 (aI 6 (upd sz j (nI z)))).set 61 (aL 360 (mfil it j 60))) := by
  show zG Z M_X8_tape (d + 2) _ w.length 0 [(0, .ref 41), (1, .int (nI j)), (2, .int (nI s)), (3, .int (nI z))] [] w
  have l1 := zlt ho
  have l2 := zlt hso
  have l3 := zlt hsz
  have l4 := zlt hit
  refine s_iload_n dX8_tape_0 rfl ?_
  refine s_cs1 dX8_tape_1 g_X8_243 (c_X8_isTape) rfl rfl (Nat.le_of_ble_eq_true rfl) (Nat.le_of_ble_eq_true rfl) rfl ?_
  refine s_if_ne (tgt := 9) dX8_tape_4 (by decide) (fun hz => ?_) (fun hqz => absurd hqz (miY (n := 5) (by omega) (by decide)))
  clear hz
  refine s_iload_n dX8_tape_9 rfl ?_
  refine s_iconst (v := (-1)) dX8_tape_10 rfl ?_
  refine s_iconst (v := 4) dX8_tape_11 rfl ?_
  refine s_cs1 dX8_tape_12 g_X8_5 (c_X8_isIn) rfl rfl (Nat.le_of_ble_eq_true rfl) (Nat.le_of_ble_eq_true rfl) rfl ?_
  refine s_if_eq (tgt := 28) dX8_tape_15 (by decide) (fun hqz => absurd hqz (miM (by omega))) (fun hz => ?_)
  clear hz
  refine s_iload_n dX8_tape_18 rfl ?_
  refine s_if_lt (tgt := 31) dX8_tape_19 (by decide) (fun hqz => absurd hqz (nI_pos (by omega))) (fun hz => ?_)
  clear hz
  refine s_iload_n dX8_tape_22 rfl ?_
  refine s_bipush (v := 60) dX8_tape_23 rfl ?_
  refine s_icmp_le (tgt := 31) dX8_tape_25 (by decide) (fun hz => ?_) (fun hqz => absurd (nI_le hz (by decide)) hqz)
  clear hz
  refine s_iload_n dX8_tape_31 rfl ?_
  refine s_if_lt (tgt := 42) dX8_tape_32 (by decide) (fun hqz => absurd hqz (nI_pos (by omega))) (fun hz => ?_)
  clear hz
  refine s_iload_n dX8_tape_35 rfl ?_
  refine s_if_ge (tgt := 42) dX8_tape_36 (by decide) (fun hz => ?_) (fun hqz => absurd (nI_pos' (by omega)) hqz)
  clear hz
  refine s_aload_n dX8_tape_42 rfl ?_
  refine s_get dX8_tape_43 f_X8_68 (by repeat (first | assumption | refine zg1 ?_ (by decide) | (refine zgs ?_; (try simp only [List.length_set]); assumption))) (by rfl) ?_
  refine s_iload_n dX8_tape_46 rfl ?_
  refine s_iload_n dX8_tape_47 rfl ?_
  refine s_iast dX8_tape_48 (by repeat (first | assumption | refine zg1 ?_ (by decide) | (refine zgs ?_; (try simp only [List.length_set]); assumption))) (zrd (n := 6) hj (by decide)) ?_
  rw [nI_clamp (by omega)]
  refine s_aload_n dX8_tape_49 rfl ?_
  refine s_get dX8_tape_50 f_X8_71 (by repeat (first | assumption | refine zg1 ?_ (by decide) | (refine zgs ?_; (try simp only [List.length_set]); assumption))) (by rfl) ?_
  refine s_iload_n dX8_tape_53 rfl ?_
  refine s_iload_n dX8_tape_54 rfl ?_
  refine s_if_ge (tgt := 62) dX8_tape_55 (by decide) (fun hz => ?_) (fun hqz => absurd (nI_pos' (by omega)) hqz)
  clear hz
  refine s_iload_n dX8_tape_62 rfl ?_
  refine s_iast dX8_tape_63 (by repeat (first | assumption | refine zg1 ?_ (by decide) | (refine zgs ?_; (try simp only [List.length_set]); assumption))) (zrd (n := 6) hj (by decide)) ?_
  rw [nI_clamp (by omega)]
  refine s_iconst (v := 0) dX8_tape_64 rfl ?_
  refine s_istore dX8_tape_65 (Nat.le_of_ble_eq_true rfl) rfl ?_
  have K := l_X8_tape (Z := Z) (d := d + 2) (x := (nI s)) (y := (nI z)) (p := (nI s)) (q := (nI z)) ho hso hsz hit hj 60 0 rfl
  rw [show mfil it j 0 = it from rfl, zss (show ((w.set 59 (aI 6 (upd so j (nI s)))).set 60 (aI 6 (upd sz j (nI z))))[61]? = some (aL 360 it) from zg1 (zg1 hit (by decide)) (by decide))] at K
  exact K
theorem mi4 {p : Int32} (h : (¬ p = -1 ∧ p < 0) ∨ 5 ≤ p) : (if p < -1 then (0 : Int32) else if 4 < p then 0 else 1) = 0 := by
  by_cases h1 : p < -1
  · rw [if_pos h1]
  rw [if_neg h1, if_pos]
  have e1 : (-1 : Int32).toInt = -1 := by decide
  have e4 : (4 : Int32).toInt = 4 := by decide
  have e5 : (5 : Int32).toInt = 5 := by decide
  have e0 : (0 : Int32).toInt = 0 := by decide
  rw [fa_lt, e1] at h1
  rw [fa_lt, e4]
  rcases h with ⟨h2, h3⟩ | h3
  · rw [fa_eq, e1] at h2
    rw [fa_lt, e0] at h3
    omega
  · rw [fa_le, e5] at h3
    omega
set_option maxHeartbeats 4000000 in
set_option maxRecDepth 100000 in
theorem y_tape2 {Z : zS} {d : Nat} {w : zW} {b k : Nat} {mf ma mc ms me mq mu mh mp : Int32} (ho : w[41]? = some (oM (nI b) (nI k) mf ma mc ms me mq mu mh mp)) {so sz : Nat → Int32} {it : Nat → Int64} (hso : w[59]? = some (aI 6 so)) (hsz : w[60]? = some (aI 6 sz)) (hit : w[61]? = some (aL 360 it)) {j : Nat} {p q : Int32} (hj : j < 6) (h1 : ¬ p = -1) (hbad : p < 0 ∨ 5 ≤ p ∨ 61 ≤ q) : zF Z M_X8_tape (d + 2) [.ref 41, .int (nI j), .int p, .int q] w [.int (-2)] w := by
  show zG Z M_X8_tape (d + 2) _ _ 0 [(0, .ref 41), (1, .int (nI j)), (2, .int p), (3, .int q)] [] w
  refine s_iload_n dX8_tape_0 rfl ?_
  refine s_cs1 dX8_tape_1 g_X8_243 (c_X8_isTape) rfl rfl (Nat.le_of_ble_eq_true rfl) (Nat.le_of_ble_eq_true rfl) rfl ?_
  refine s_if_ne (tgt := 9) dX8_tape_4 (by decide) (fun hz => ?_) (fun hqz => absurd hqz (miY (n := 5) (by omega) (by decide)))
  clear hz
  refine s_iload_n dX8_tape_9 rfl ?_
  refine s_iconst (v := (-1)) dX8_tape_10 rfl ?_
  refine s_iconst (v := 4) dX8_tape_11 rfl ?_
  refine s_cs1 dX8_tape_12 g_X8_5 (c_X8_isIn) rfl rfl (Nat.le_of_ble_eq_true rfl) (Nat.le_of_ble_eq_true rfl) rfl ?_
  refine s_if_eq (tgt := 28) dX8_tape_15 (by decide) (fun h_15 => ?_) (fun h_15 => ?_)
  · refine s_bipush (v := (-2)) dX8_tape_28 rfl ?_
    exact s_iret dX8_tape_30 rfl ⟨rfl, rfl⟩ (by first | rfl | (simp only [List.length_set]; rfl))
  · refine s_iload_n dX8_tape_18 rfl ?_
    refine s_if_lt (tgt := 31) dX8_tape_19 (by decide) (fun h_19 => ?_) (fun h_19 => ?_)
    · exfalso
      exact h_15 (mi4 (Or.inl ⟨h1, h_19⟩))
    · refine s_iload_n dX8_tape_22 rfl ?_
      refine s_bipush (v := 60) dX8_tape_23 rfl ?_
      refine s_icmp_le (tgt := 31) dX8_tape_25 (by decide) (fun h_25 => ?_) (fun h_25 => ?_)
      · exfalso
        rcases hbad with h | h | h
        · exact h_19 h
        · exact h_15 (mi4 (Or.inr h))
        · exact absurd h_25 (zle3 (n := 60) (by decide) h)
      · refine s_bipush (v := (-2)) dX8_tape_28 rfl ?_
        exact s_iret dX8_tape_30 rfl ⟨rfl, rfl⟩ (by first | rfl | (simp only [List.length_set]; rfl))
set_option maxHeartbeats 4000000 in
set_option maxRecDepth 100000 in
theorem y_tape3 {Z : zS} {d : Nat} {w : zW} {b k : Nat} {mf ma mc ms me mq mu mh mp : Int32} (ho : w[41]? = some (oM (nI b) (nI k) mf ma mc ms me mq mu mh mp)) {so sz : Nat → Int32} {it : Nat → Int64} (hso : w[59]? = some (aI 6 so)) (hsz : w[60]? = some (aI 6 sz)) (hit : w[61]? = some (aL 360 it)) {j s : Nat} {q : Int32} (hj : j < 6) (hs : s < 5) (hq : q < 0) : zF Z M_X8_tape (d + 2) [.ref 41, .int (nI j), .int (nI s), .int q] w [.int (-14)] w := by
  show zG Z M_X8_tape (d + 2) _ _ 0 [(0, .ref 41), (1, .int (nI j)), (2, .int (nI s)), (3, .int q)] [] w
  refine s_iload_n dX8_tape_0 rfl ?_
  refine s_cs1 dX8_tape_1 g_X8_243 (c_X8_isTape) rfl rfl (Nat.le_of_ble_eq_true rfl) (Nat.le_of_ble_eq_true rfl) rfl ?_
  refine s_if_ne (tgt := 9) dX8_tape_4 (by decide) (fun hz => ?_) (fun hqz => absurd hqz (miY (n := 5) (by omega) (by decide)))
  clear hz
  refine s_iload_n dX8_tape_9 rfl ?_
  refine s_iconst (v := (-1)) dX8_tape_10 rfl ?_
  refine s_iconst (v := 4) dX8_tape_11 rfl ?_
  refine s_cs1 dX8_tape_12 g_X8_5 (c_X8_isIn) rfl rfl (Nat.le_of_ble_eq_true rfl) (Nat.le_of_ble_eq_true rfl) rfl ?_
  refine s_if_eq (tgt := 28) dX8_tape_15 (by decide) (fun hqz => absurd hqz (miM (by omega))) (fun hz => ?_)
  clear hz
  refine s_iload_n dX8_tape_18 rfl ?_
  refine s_if_lt (tgt := 31) dX8_tape_19 (by decide) (fun hqz => absurd hqz (nI_pos (by omega))) (fun hz => ?_)
  clear hz
  refine s_iload_n dX8_tape_22 rfl ?_
  refine s_bipush (v := 60) dX8_tape_23 rfl ?_
  refine s_icmp_le (tgt := 31) dX8_tape_25 (by decide) (fun hz => ?_) (fun hqz => absurd (zneg60 hq) hqz)
  clear hz
  refine s_iload_n dX8_tape_31 rfl ?_
  refine s_if_lt (tgt := 42) dX8_tape_32 (by decide) (fun hqz => absurd hqz (nI_pos (by omega))) (fun hz => ?_)
  clear hz
  refine s_iload_n dX8_tape_35 rfl ?_
  refine s_if_ge (tgt := 42) dX8_tape_36 (by decide) (fun hqz => absurd hqz (Int32.not_le.mpr hq)) (fun hz => ?_)
  clear hz
  refine s_bipush (v := (-14)) dX8_tape_39 rfl ?_
  exact s_iret dX8_tape_41 rfl ⟨rfl, rfl⟩ (by first | rfl | (simp only [List.length_set]; rfl))
set_option maxHeartbeats 4000000 in
set_option maxRecDepth 100000 in
theorem y_item1 {Z : zS} {d : Nat} {w : zW} {b k : Nat} {mf ma mc ms me mq mu mh mp : Int32} (ho : w[41]? = some (oM (nI b) (nI k) mf ma mc ms me mq mu mh mp)) {so sz : Nat → Int32} {it : Nat → Int64} (hso : w[59]? = some (aI 6 so)) (hsz : w[60]? = some (aI 6 sz)) (hit : w[61]? = some (aL 360 it)) {c i : Int32} {v : Int64} (hc : c < 0 ∨ 6 ≤ c) : zF Z M_X8_item (d + 2) [.ref 41, .int c, .int i, .long v] w [.int (-1)] w := by
  show zG Z M_X8_item (d + 2) _ _ 0 [(0, .ref 41), (1, .int c), (2, .int i), (3, .long v)] [] w
  refine s_iload_n dX8_item_0 rfl ?_
  refine s_cs1 dX8_item_1 g_X8_243 (c_X8_isTape) rfl rfl (Nat.le_of_ble_eq_true rfl) (Nat.le_of_ble_eq_true rfl) rfl ?_
  refine s_if_ne (tgt := 9) dX8_item_4 (by decide) (fun hqz => absurd (miN (n := 5) (by decide) hc) hqz) (fun hz => ?_)
  clear hz
  refine s_iconst (v := (-1)) dX8_item_7 rfl ?_
  exact s_iret dX8_item_8 rfl ⟨rfl, rfl⟩ (by first | rfl | (simp only [List.length_set]; rfl))
set_option maxHeartbeats 4000000 in
set_option maxRecDepth 100000 in
theorem y_item2 {Z : zS} {d : Nat} {w : zW} {b k : Nat} {mf ma mc ms me mq mu mh mp : Int32} (ho : w[41]? = some (oM (nI b) (nI k) mf ma mc ms me mq mu mh mp)) {so sz : Nat → Int32} {it : Nat → Int64} (hso : w[59]? = some (aI 6 so)) (hsz : w[60]? = some (aI 6 sz)) (hit : w[61]? = some (aL 360 it)) {j : Nat} (hj : j < 6) (hz0 : sz j = -1) {i : Int32} {v : Int64} : zF Z M_X8_item (d + 2) [.ref 41, .int (nI j), .int i, .long v] w [.int (-11)] w := by
  show zG Z M_X8_item (d + 2) _ _ 0 [(0, .ref 41), (1, .int (nI j)), (2, .int i), (3, .long v)] [] w
  refine s_iload_n dX8_item_0 rfl ?_
  refine s_cs1 dX8_item_1 g_X8_243 (c_X8_isTape) rfl rfl (Nat.le_of_ble_eq_true rfl) (Nat.le_of_ble_eq_true rfl) rfl ?_
  refine s_if_ne (tgt := 9) dX8_item_4 (by decide) (fun hz => ?_) (fun hqz => absurd hqz (miY (n := 5) (by omega) (by decide)))
  clear hz
  refine s_aload_n dX8_item_9 rfl ?_
  refine s_get dX8_item_10 f_X8_71 (by repeat (first | assumption | refine zg1 ?_ (by decide) | (refine zgs ?_; (try simp only [List.length_set]); assumption))) (by rfl) ?_
  refine s_iload_n dX8_item_13 rfl ?_
  refine s_iald dX8_item_14 (by repeat (first | assumption | refine zg1 ?_ (by decide) | (refine zgs ?_; (try simp only [List.length_set]); assumption))) (zrd (n := 6) hj (by decide)) ?_
  rw [nI_clamp (by omega), hz0]
  refine s_if_ge (tgt := 21) dX8_item_15 (by decide) (fun hqz => absurd hqz (by decide)) (fun hz => ?_)
  clear hz
  refine s_bipush (v := (-11)) dX8_item_18 rfl ?_
  exact s_iret dX8_item_20 rfl ⟨rfl, rfl⟩ (by first | rfl | (simp only [List.length_set]; rfl))
set_option maxHeartbeats 4000000 in
set_option maxRecDepth 100000 in
theorem y_item3 {Z : zS} {d : Nat} {w : zW} {b k : Nat} {mf ma mc ms me mq mu mh mp : Int32} (ho : w[41]? = some (oM (nI b) (nI k) mf ma mc ms me mq mu mh mp)) {so sz : Nat → Int32} {it : Nat → Int64} (hso : w[59]? = some (aI 6 so)) (hsz : w[60]? = some (aI 6 sz)) (hit : w[61]? = some (aL 360 it)) {j z : Nat} (hj : j < 6) (hz0 : sz j = nI z) (hz : z ≤ 60) {i : Int32} {v : Int64} (hp : i < 0 ∨ nI z ≤ i) : zF Z M_X8_item (d + 2) [.ref 41, .int (nI j), .int i, .long v] w [.int (-13)] w := by
  show zG Z M_X8_item (d + 2) _ _ 0 [(0, .ref 41), (1, .int (nI j)), (2, .int i), (3, .long v)] [] w
  refine s_iload_n dX8_item_0 rfl ?_
  refine s_cs1 dX8_item_1 g_X8_243 (c_X8_isTape) rfl rfl (Nat.le_of_ble_eq_true rfl) (Nat.le_of_ble_eq_true rfl) rfl ?_
  refine s_if_ne (tgt := 9) dX8_item_4 (by decide) (fun hz => ?_) (fun hqz => absurd hqz (miY (n := 5) (by omega) (by decide)))
  clear hz
  refine s_aload_n dX8_item_9 rfl ?_
  refine s_get dX8_item_10 f_X8_71 (by repeat (first | assumption | refine zg1 ?_ (by decide) | (refine zgs ?_; (try simp only [List.length_set]); assumption))) (by rfl) ?_
  refine s_iload_n dX8_item_13 rfl ?_
  refine s_iald dX8_item_14 (by repeat (first | assumption | refine zg1 ?_ (by decide) | (refine zgs ?_; (try simp only [List.length_set]); assumption))) (zrd (n := 6) hj (by decide)) ?_
  rw [nI_clamp (by omega), hz0]
  refine s_if_ge (tgt := 21) dX8_item_15 (by decide) (fun hz => ?_) (fun hqz => absurd (nI_pos' (by omega)) hqz)
  clear hz
  refine s_iload_n dX8_item_21 rfl ?_
  refine s_iconst (v := 0) dX8_item_22 rfl ?_
  refine s_aload_n dX8_item_23 rfl ?_
  refine s_get dX8_item_24 f_X8_71 (by repeat (first | assumption | refine zg1 ?_ (by decide) | (refine zgs ?_; (try simp only [List.length_set]); assumption))) (by rfl) ?_
  refine s_iload_n dX8_item_27 rfl ?_
  refine s_iald dX8_item_28 (by repeat (first | assumption | refine zg1 ?_ (by decide) | (refine zgs ?_; (try simp only [List.length_set]); assumption))) (zrd (n := 6) hj (by decide)) ?_
  rw [nI_clamp (by omega), hz0]
  refine s_iconst (v := 1) dX8_item_29 rfl ?_
  refine s_isub dX8_item_30 ?_
  refine s_cs1 dX8_item_31 g_X8_5 (c_X8_isIn) rfl rfl (Nat.le_of_ble_eq_true rfl) (Nat.le_of_ble_eq_true rfl) rfl ?_
  refine s_if_ne (tgt := 40) dX8_item_34 (by decide) (fun hqz => absurd (mzN hz hp) hqz) (fun hz => ?_)
  clear hz
  refine s_bipush (v := (-13)) dX8_item_37 rfl ?_
  exact s_iret dX8_item_39 rfl ⟨rfl, rfl⟩ (by first | rfl | (simp only [List.length_set]; rfl))
set_option maxHeartbeats 4000000 in
set_option maxRecDepth 100000 in
theorem y_item {Z : zS} {d : Nat} {w : zW} {b k : Nat} {mf ma mc ms me mq mu mh mp : Int32} (ho : w[41]? = some (oM (nI b) (nI k) mf ma mc ms me mq mu mh mp)) {so sz : Nat → Int32} {it : Nat → Int64} (hso : w[59]? = some (aI 6 so)) (hsz : w[60]? = some (aI 6 sz)) (hit : w[61]? = some (aL 360 it)) {j s z p : Nat} (hj : j < 6) (hz0 : sz j = nI z) (hs0 : so j = nI s) (hs : s < 5) (hz : z ≤ 60) {v : Int64} (hp : p < z) : zF Z M_X8_item (d + 2) [.ref 41, .int (nI j), .int (nI p), .long v] w [.int 1] (w.set 61 (aL 360 (vp_updL it (60 * j + p) (zcut s v)))) := by
  show zG Z M_X8_item (d + 2) _ _ 0 [(0, .ref 41), (1, .int (nI j)), (2, .int (nI p)), (3, .long v)] [] w
  have l1 := zlt ho
  have l2 := zlt hso
  have l3 := zlt hsz
  have l4 := zlt hit
  refine s_iload_n dX8_item_0 rfl ?_
  refine s_cs1 dX8_item_1 g_X8_243 (c_X8_isTape) rfl rfl (Nat.le_of_ble_eq_true rfl) (Nat.le_of_ble_eq_true rfl) rfl ?_
  refine s_if_ne (tgt := 9) dX8_item_4 (by decide) (fun hz => ?_) (fun hqz => absurd hqz (miY (n := 5) (by omega) (by decide)))
  clear hz
  refine s_aload_n dX8_item_9 rfl ?_
  refine s_get dX8_item_10 f_X8_71 (by repeat (first | assumption | refine zg1 ?_ (by decide) | (refine zgs ?_; (try simp only [List.length_set]); assumption))) (by rfl) ?_
  refine s_iload_n dX8_item_13 rfl ?_
  refine s_iald dX8_item_14 (by repeat (first | assumption | refine zg1 ?_ (by decide) | (refine zgs ?_; (try simp only [List.length_set]); assumption))) (zrd (n := 6) hj (by decide)) ?_
  rw [nI_clamp (by omega), hz0]
  refine s_if_ge (tgt := 21) dX8_item_15 (by decide) (fun hz => ?_) (fun hqz => absurd (nI_pos' (by omega)) hqz)
  clear hz
  refine s_iload_n dX8_item_21 rfl ?_
  refine s_iconst (v := 0) dX8_item_22 rfl ?_
  refine s_aload_n dX8_item_23 rfl ?_
  refine s_get dX8_item_24 f_X8_71 (by repeat (first | assumption | refine zg1 ?_ (by decide) | (refine zgs ?_; (try simp only [List.length_set]); assumption))) (by rfl) ?_
  refine s_iload_n dX8_item_27 rfl ?_
  refine s_iald dX8_item_28 (by repeat (first | assumption | refine zg1 ?_ (by decide) | (refine zgs ?_; (try simp only [List.length_set]); assumption))) (zrd (n := 6) hj (by decide)) ?_
  rw [nI_clamp (by omega), hz0]
  refine s_iconst (v := 1) dX8_item_29 rfl ?_
  refine s_isub dX8_item_30 ?_
  refine s_cs1 dX8_item_31 g_X8_5 (c_X8_isIn) rfl rfl (Nat.le_of_ble_eq_true rfl) (Nat.le_of_ble_eq_true rfl) rfl ?_
  refine s_if_ne (tgt := 40) dX8_item_34 (by decide) (fun hz => ?_) (fun hqz => absurd hqz (mzY hz hp))
  clear hz
  refine s_aload_n dX8_item_40 rfl ?_
  refine s_get dX8_item_41 f_X8_74 (by repeat (first | assumption | refine zg1 ?_ (by decide) | (refine zgs ?_; (try simp only [List.length_set]); assumption))) (by rfl) ?_
  refine s_bipush (v := 60) dX8_item_44 rfl ?_
  refine s_iload_n dX8_item_46 rfl ?_
  refine s_imul dX8_item_47 ?_
  refine s_iload_n dX8_item_48 rfl ?_
  refine s_iadd dX8_item_49 ?_
  rw [z60]
  refine s_aload_n dX8_item_50 rfl ?_
  refine s_get dX8_item_51 f_X8_68 (by repeat (first | assumption | refine zg1 ?_ (by decide) | (refine zgs ?_; (try simp only [List.length_set]); assumption))) (by rfl) ?_
  refine s_iload_n dX8_item_54 rfl ?_
  refine s_iald dX8_item_55 (by repeat (first | assumption | refine zg1 ?_ (by decide) | (refine zgs ?_; (try simp only [List.length_set]); assumption))) (zrd (n := 6) hj (by decide)) ?_
  rw [nI_clamp (by omega), hs0]
  refine s_lload_n dX8_item_56 rfl ?_
  refine s_cs1 dX8_item_57 g_X8_267 (c_X8_lowest hs) rfl rfl (Nat.le_of_ble_eq_true rfl) (Nat.le_of_ble_eq_true rfl) rfl ?_
  refine s_last dX8_item_60 (by repeat (first | assumption | refine zg1 ?_ (by decide) | (refine zgs ?_; (try simp only [List.length_set]); assumption))) (zrd (n := 360) (by omega) (by decide)) ?_
  rw [nI_clamp (by omega)]
  refine s_iconst (v := 1) dX8_item_61 rfl ?_
  exact s_iret dX8_item_62 rfl ⟨rfl, rfl⟩ (by first | rfl | (simp only [List.length_set]; rfl))
set_option maxHeartbeats 4000000 in
set_option maxRecDepth 100000 in
theorem y_peek1 {Z : zS} {d : Nat} {w : zW} {b k : Nat} {mf ma mc ms me mq mu mh mp : Int32} (ho : w[41]? = some (oM (nI b) (nI k) mf ma mc ms me mq mu mh mp)) {so sz : Nat → Int32} {it : Nat → Int64} (hso : w[59]? = some (aI 6 so)) (hsz : w[60]? = some (aI 6 sz)) (hit : w[61]? = some (aL 360 it)) {c i : Int32} (hc : c < 0 ∨ 6 ≤ c) : zF Z M_X8_peek (d + 2) [.ref 41, .int c, .int i] w [.long (-9223372036854775808)] w := by
  show zG Z M_X8_peek (d + 2) _ _ 0 [(0, .ref 41), (1, .int c), (2, .int i)] [] w
  refine s_iload_n dX8_peek_0 rfl ?_
  refine s_cs1 dX8_peek_1 g_X8_243 (c_X8_isTape) rfl rfl (Nat.le_of_ble_eq_true rfl) (Nat.le_of_ble_eq_true rfl) rfl ?_
  refine s_if_eq (tgt := 37) dX8_peek_4 (by decide) (fun hz => ?_) (fun hqz => absurd (miN (n := 5) (by decide) hc) hqz)
  clear hz
  refine s_ldc2 (v := (-9223372036854775808)) dX8_peek_37 (zin 964 (by decide +kernel) (by decide +kernel)) ?_
  exact s_lret dX8_peek_40 rfl ⟨rfl, rfl⟩ (by first | rfl | (simp only [List.length_set]; rfl))
set_option maxHeartbeats 4000000 in
set_option maxRecDepth 100000 in
theorem y_peek2n {Z : zS} {d : Nat} {w : zW} {b k : Nat} {mf ma mc ms me mq mu mh mp : Int32} (ho : w[41]? = some (oM (nI b) (nI k) mf ma mc ms me mq mu mh mp)) {so sz : Nat → Int32} {it : Nat → Int64} (hso : w[59]? = some (aI 6 so)) (hsz : w[60]? = some (aI 6 sz)) (hit : w[61]? = some (aL 360 it)) {j : Nat} (hj : j < 6) (hz0 : sz j = -1) {i : Int32} : zF Z M_X8_peek (d + 2) [.ref 41, .int (nI j), .int i] w [.long (-9223372036854775808)] w := by
  show zG Z M_X8_peek (d + 2) _ _ 0 [(0, .ref 41), (1, .int (nI j)), (2, .int i)] [] w
  refine s_iload_n dX8_peek_0 rfl ?_
  refine s_cs1 dX8_peek_1 g_X8_243 (c_X8_isTape) rfl rfl (Nat.le_of_ble_eq_true rfl) (Nat.le_of_ble_eq_true rfl) rfl ?_
  refine s_if_eq (tgt := 37) dX8_peek_4 (by decide) (fun hqz => absurd hqz (miY (n := 5) (by omega) (by decide))) (fun hz => ?_)
  clear hz
  refine s_iload_n dX8_peek_7 rfl ?_
  refine s_iconst (v := 0) dX8_peek_8 rfl ?_
  refine s_aload_n dX8_peek_9 rfl ?_
  refine s_get dX8_peek_10 f_X8_71 (by repeat (first | assumption | refine zg1 ?_ (by decide) | (refine zgs ?_; (try simp only [List.length_set]); assumption))) (by rfl) ?_
  refine s_iload_n dX8_peek_13 rfl ?_
  refine s_iald dX8_peek_14 (by repeat (first | assumption | refine zg1 ?_ (by decide) | (refine zgs ?_; (try simp only [List.length_set]); assumption))) (zrd (n := 6) hj (by decide)) ?_
  rw [nI_clamp (by omega), hz0]
  refine s_iconst (v := 1) dX8_peek_15 rfl ?_
  refine s_isub dX8_peek_16 ?_
  refine s_cs1 dX8_peek_17 g_X8_5 (c_X8_isIn) rfl rfl (Nat.le_of_ble_eq_true rfl) (Nat.le_of_ble_eq_true rfl) rfl ?_
  refine s_if_eq (tgt := 37) dX8_peek_20 (by decide) (fun hz => ?_) (fun hqz => absurd mzM hqz)
  clear hz
  refine s_ldc2 (v := (-9223372036854775808)) dX8_peek_37 (zin 964 (by decide +kernel) (by decide +kernel)) ?_
  exact s_lret dX8_peek_40 rfl ⟨rfl, rfl⟩ (by first | rfl | (simp only [List.length_set]; rfl))
set_option maxHeartbeats 4000000 in
set_option maxRecDepth 100000 in
theorem y_peek2 {Z : zS} {d : Nat} {w : zW} {b k : Nat} {mf ma mc ms me mq mu mh mp : Int32} (ho : w[41]? = some (oM (nI b) (nI k) mf ma mc ms me mq mu mh mp)) {so sz : Nat → Int32} {it : Nat → Int64} (hso : w[59]? = some (aI 6 so)) (hsz : w[60]? = some (aI 6 sz)) (hit : w[61]? = some (aL 360 it)) {j z : Nat} (hj : j < 6) (hz0 : sz j = nI z) (hz : z ≤ 60) {i : Int32} (hp : i < 0 ∨ nI z ≤ i) : zF Z M_X8_peek (d + 2) [.ref 41, .int (nI j), .int i] w [.long (-9223372036854775808)] w := by
  show zG Z M_X8_peek (d + 2) _ _ 0 [(0, .ref 41), (1, .int (nI j)), (2, .int i)] [] w
  refine s_iload_n dX8_peek_0 rfl ?_
  refine s_cs1 dX8_peek_1 g_X8_243 (c_X8_isTape) rfl rfl (Nat.le_of_ble_eq_true rfl) (Nat.le_of_ble_eq_true rfl) rfl ?_
  refine s_if_eq (tgt := 37) dX8_peek_4 (by decide) (fun hqz => absurd hqz (miY (n := 5) (by omega) (by decide))) (fun hz => ?_)
  clear hz
  refine s_iload_n dX8_peek_7 rfl ?_
  refine s_iconst (v := 0) dX8_peek_8 rfl ?_
  refine s_aload_n dX8_peek_9 rfl ?_
  refine s_get dX8_peek_10 f_X8_71 (by repeat (first | assumption | refine zg1 ?_ (by decide) | (refine zgs ?_; (try simp only [List.length_set]); assumption))) (by rfl) ?_
  refine s_iload_n dX8_peek_13 rfl ?_
  refine s_iald dX8_peek_14 (by repeat (first | assumption | refine zg1 ?_ (by decide) | (refine zgs ?_; (try simp only [List.length_set]); assumption))) (zrd (n := 6) hj (by decide)) ?_
  rw [nI_clamp (by omega), hz0]
  refine s_iconst (v := 1) dX8_peek_15 rfl ?_
  refine s_isub dX8_peek_16 ?_
  refine s_cs1 dX8_peek_17 g_X8_5 (c_X8_isIn) rfl rfl (Nat.le_of_ble_eq_true rfl) (Nat.le_of_ble_eq_true rfl) rfl ?_
  refine s_if_eq (tgt := 37) dX8_peek_20 (by decide) (fun hz => ?_) (fun hqz => absurd (mzN hz hp) hqz)
  clear hz
  refine s_ldc2 (v := (-9223372036854775808)) dX8_peek_37 (zin 964 (by decide +kernel) (by decide +kernel)) ?_
  exact s_lret dX8_peek_40 rfl ⟨rfl, rfl⟩ (by first | rfl | (simp only [List.length_set]; rfl))
set_option maxHeartbeats 4000000 in
set_option maxRecDepth 100000 in
theorem y_peek {Z : zS} {d : Nat} {w : zW} {b k : Nat} {mf ma mc ms me mq mu mh mp : Int32} (ho : w[41]? = some (oM (nI b) (nI k) mf ma mc ms me mq mu mh mp)) {so sz : Nat → Int32} {it : Nat → Int64} (hso : w[59]? = some (aI 6 so)) (hsz : w[60]? = some (aI 6 sz)) (hit : w[61]? = some (aL 360 it)) {j z p : Nat} (hj : j < 6) (hz0 : sz j = nI z) (hz : z ≤ 60) (hp : p < z) : zF Z M_X8_peek (d + 2) [.ref 41, .int (nI j), .int (nI p)] w [.long (it (60 * j + p))] w := by
  show zG Z M_X8_peek (d + 2) _ _ 0 [(0, .ref 41), (1, .int (nI j)), (2, .int (nI p))] [] w
  refine s_iload_n dX8_peek_0 rfl ?_
  refine s_cs1 dX8_peek_1 g_X8_243 (c_X8_isTape) rfl rfl (Nat.le_of_ble_eq_true rfl) (Nat.le_of_ble_eq_true rfl) rfl ?_
  refine s_if_eq (tgt := 37) dX8_peek_4 (by decide) (fun hqz => absurd hqz (miY (n := 5) (by omega) (by decide))) (fun hz => ?_)
  clear hz
  refine s_iload_n dX8_peek_7 rfl ?_
  refine s_iconst (v := 0) dX8_peek_8 rfl ?_
  refine s_aload_n dX8_peek_9 rfl ?_
  refine s_get dX8_peek_10 f_X8_71 (by repeat (first | assumption | refine zg1 ?_ (by decide) | (refine zgs ?_; (try simp only [List.length_set]); assumption))) (by rfl) ?_
  refine s_iload_n dX8_peek_13 rfl ?_
  refine s_iald dX8_peek_14 (by repeat (first | assumption | refine zg1 ?_ (by decide) | (refine zgs ?_; (try simp only [List.length_set]); assumption))) (zrd (n := 6) hj (by decide)) ?_
  rw [nI_clamp (by omega), hz0]
  refine s_iconst (v := 1) dX8_peek_15 rfl ?_
  refine s_isub dX8_peek_16 ?_
  refine s_cs1 dX8_peek_17 g_X8_5 (c_X8_isIn) rfl rfl (Nat.le_of_ble_eq_true rfl) (Nat.le_of_ble_eq_true rfl) rfl ?_
  refine s_if_eq (tgt := 37) dX8_peek_20 (by decide) (fun hqz => absurd hqz (mzY hz hp)) (fun hz => ?_)
  clear hz
  refine s_aload_n dX8_peek_23 rfl ?_
  refine s_get dX8_peek_24 f_X8_74 (by repeat (first | assumption | refine zg1 ?_ (by decide) | (refine zgs ?_; (try simp only [List.length_set]); assumption))) (by rfl) ?_
  refine s_bipush (v := 60) dX8_peek_27 rfl ?_
  refine s_iload_n dX8_peek_29 rfl ?_
  refine s_imul dX8_peek_30 ?_
  refine s_iload_n dX8_peek_31 rfl ?_
  refine s_iadd dX8_peek_32 ?_
  rw [z60]
  refine s_lald dX8_peek_33 (by repeat (first | assumption | refine zg1 ?_ (by decide) | (refine zgs ?_; (try simp only [List.length_set]); assumption))) (zrd (n := 360) (by omega) (by decide)) ?_
  rw [nI_clamp (by omega)]
  refine s_goto (tgt := 40) dX8_peek_34 (by decide) ?_
  exact s_lret dX8_peek_40 rfl ⟨rfl, rfl⟩ (by first | rfl | (simp only [List.length_set]; rfl))
set_option maxHeartbeats 4000000 in
set_option maxRecDepth 100000 in
theorem y_judge1 {Z : zS} {d : Nat} {w : zW} {b k : Nat} {mf ma mc ms me mq mu mh mp : Int32} (ho : w[41]? = some (oM (nI b) (nI k) mf ma mc ms me mq mu mh mp)) {so sz : Nat → Int32} {it : Nat → Int64} (hso : w[59]? = some (aI 6 so)) (hsz : w[60]? = some (aI 6 sz)) (hit : w[61]? = some (aL 360 it)) {c i : Int32} (hc : c < 0 ∨ 6 ≤ c) : zF Z M_X8_judge (d + 2) [.ref 41, .int c, .int i] w [.int (-1)] w := by
  show zG Z M_X8_judge (d + 2) _ _ 0 [(0, .ref 41), (1, .int c), (2, .int i)] [] w
  refine s_iload_n dX8_judge_0 rfl ?_
  refine s_cs1 dX8_judge_1 g_X8_243 (c_X8_isTape) rfl rfl (Nat.le_of_ble_eq_true rfl) (Nat.le_of_ble_eq_true rfl) rfl ?_
  refine s_if_ne (tgt := 9) dX8_judge_4 (by decide) (fun hqz => absurd (miN (n := 5) (by decide) hc) hqz) (fun hz => ?_)
  clear hz
  refine s_iconst (v := (-1)) dX8_judge_7 rfl ?_
  exact s_iret dX8_judge_8 rfl ⟨rfl, rfl⟩ (by first | rfl | (simp only [List.length_set]; rfl))
set_option maxHeartbeats 4000000 in
set_option maxRecDepth 100000 in
theorem y_judge2 {Z : zS} {d : Nat} {w : zW} {b k : Nat} {mf ma mc ms me mq mu mh mp : Int32} (ho : w[41]? = some (oM (nI b) (nI k) mf ma mc ms me mq mu mh mp)) {so sz : Nat → Int32} {it : Nat → Int64} (hso : w[59]? = some (aI 6 so)) (hsz : w[60]? = some (aI 6 sz)) (hit : w[61]? = some (aL 360 it)) {j : Nat} (hj : j < 6) (hz0 : sz j = -1) {i : Int32} : zF Z M_X8_judge (d + 2) [.ref 41, .int (nI j), .int i] w [.int 100] w := by
  show zG Z M_X8_judge (d + 2) _ w.length 0 [(0, .ref 41), (1, .int (nI j)), (2, .int i)] [] w
  by_cases hi : i < 0
  · refine s_iload_n dX8_judge_0 rfl ?_
    refine s_cs1 dX8_judge_1 g_X8_243 (c_X8_isTape) rfl rfl (Nat.le_of_ble_eq_true rfl) (Nat.le_of_ble_eq_true rfl) rfl ?_
    refine s_if_ne (tgt := 9) dX8_judge_4 (by decide) (fun hz => ?_) (fun hqz => absurd hqz (miY (n := 5) (by omega) (by decide)))
    clear hz
    refine s_aload_n dX8_judge_9 rfl ?_
    refine s_get dX8_judge_10 f_X8_71 (by repeat (first | assumption | refine zg1 ?_ (by decide) | (refine zgs ?_; (try simp only [List.length_set]); assumption))) (by rfl) ?_
    refine s_iload_n dX8_judge_13 rfl ?_
    refine s_iald dX8_judge_14 (by repeat (first | assumption | refine zg1 ?_ (by decide) | (refine zgs ?_; (try simp only [List.length_set]); assumption))) (zrd (n := 6) hj (by decide)) ?_
    rw [nI_clamp (by omega), hz0]
    refine s_if_lt (tgt := 31) dX8_judge_15 (by decide) (fun hz => ?_) (fun hqz => absurd (by decide) hqz)
    clear hz
    refine s_iconst (v := 0) dX8_judge_31 rfl ?_
    refine s_istore_n dX8_judge_32 (Nat.le_of_ble_eq_true rfl) rfl ?_
    refine s_iload_n dX8_judge_33 rfl ?_
    refine s_bipush (v := 8) dX8_judge_34 rfl ?_
    refine s_icmp_ge (tgt := 94) dX8_judge_36 (by decide) (fun hqz => absurd hqz (by decide)) (fun hz => ?_)
    clear hz
    refine s_iload_n dX8_judge_39 rfl ?_
    refine s_if_lt (tgt := 55) dX8_judge_40 (by decide) (fun hz => ?_) (fun hqz => absurd hi hqz)
    clear hz
    refine s_bipush (v := 100) dX8_judge_55 rfl ?_
    refine s_iload_n dX8_judge_57 rfl ?_
    refine s_iadd dX8_judge_58 ?_
    exact s_iret dX8_judge_59 rfl ⟨rfl, rfl⟩ (by first | rfl | (simp only [List.length_set]; rfl))
  · refine s_iload_n dX8_judge_0 rfl ?_
    refine s_cs1 dX8_judge_1 g_X8_243 (c_X8_isTape) rfl rfl (Nat.le_of_ble_eq_true rfl) (Nat.le_of_ble_eq_true rfl) rfl ?_
    refine s_if_ne (tgt := 9) dX8_judge_4 (by decide) (fun hz => ?_) (fun hqz => absurd hqz (miY (n := 5) (by omega) (by decide)))
    clear hz
    refine s_aload_n dX8_judge_9 rfl ?_
    refine s_get dX8_judge_10 f_X8_71 (by repeat (first | assumption | refine zg1 ?_ (by decide) | (refine zgs ?_; (try simp only [List.length_set]); assumption))) (by rfl) ?_
    refine s_iload_n dX8_judge_13 rfl ?_
    refine s_iald dX8_judge_14 (by repeat (first | assumption | refine zg1 ?_ (by decide) | (refine zgs ?_; (try simp only [List.length_set]); assumption))) (zrd (n := 6) hj (by decide)) ?_
    rw [nI_clamp (by omega), hz0]
    refine s_if_lt (tgt := 31) dX8_judge_15 (by decide) (fun hz => ?_) (fun hqz => absurd (by decide) hqz)
    clear hz
    refine s_iconst (v := 0) dX8_judge_31 rfl ?_
    refine s_istore_n dX8_judge_32 (Nat.le_of_ble_eq_true rfl) rfl ?_
    refine s_iload_n dX8_judge_33 rfl ?_
    refine s_bipush (v := 8) dX8_judge_34 rfl ?_
    refine s_icmp_ge (tgt := 94) dX8_judge_36 (by decide) (fun hqz => absurd hqz (by decide)) (fun hz => ?_)
    clear hz
    refine s_iload_n dX8_judge_39 rfl ?_
    refine s_if_lt (tgt := 55) dX8_judge_40 (by decide) (fun hqz => absurd hqz hi) (fun hz => ?_)
    clear hz
    refine s_iload_n dX8_judge_43 rfl ?_
    refine s_aload_n dX8_judge_44 rfl ?_
    refine s_get dX8_judge_45 f_X8_71 (by repeat (first | assumption | refine zg1 ?_ (by decide) | (refine zgs ?_; (try simp only [List.length_set]); assumption))) (by rfl) ?_
    refine s_iload_n dX8_judge_48 rfl ?_
    refine s_iald dX8_judge_49 (by repeat (first | assumption | refine zg1 ?_ (by decide) | (refine zgs ?_; (try simp only [List.length_set]); assumption))) (zrd (n := 6) hj (by decide)) ?_
    rw [nI_clamp (by omega), hz0]
    refine s_iload_n dX8_judge_50 rfl ?_
    refine s_isub dX8_judge_51 ?_
    refine s_icmp_lt (tgt := 60) dX8_judge_52 (by decide) (fun hqz => absurd hqz (fun q => hi (fa_trans q (by decide)))) (fun hz => ?_)
    clear hz
    refine s_bipush (v := 100) dX8_judge_55 rfl ?_
    refine s_iload_n dX8_judge_57 rfl ?_
    refine s_iadd dX8_judge_58 ?_
    exact s_iret dX8_judge_59 rfl ⟨rfl, rfl⟩ (by first | rfl | (simp only [List.length_set]; rfl))
set_option maxHeartbeats 4000000 in
set_option maxRecDepth 100000 in
theorem y_judge3 {Z : zS} {d : Nat} {w : zW} {b k : Nat} {mf ma mc ms me mq mu mh mp : Int32} (ho : w[41]? = some (oM (nI b) (nI k) mf ma mc ms me mq mu mh mp)) {so sz : Nat → Int32} {it : Nat → Int64} (hso : w[59]? = some (aI 6 so)) (hsz : w[60]? = some (aI 6 sz)) (hit : w[61]? = some (aL 360 it)) {j z : Nat} (hj : j < 6) (hz0 : sz j = nI z) (hz : z ≤ 60) {s : Int32} (hs0 : so j = s) (h4 : ¬ s = 4) {i : Int32} : zF Z M_X8_judge (d + 2) [.ref 41, .int (nI j), .int i] w [.int (-12)] w := by
  show zG Z M_X8_judge (d + 2) _ _ 0 [(0, .ref 41), (1, .int (nI j)), (2, .int i)] [] w
  refine s_iload_n dX8_judge_0 rfl ?_
  refine s_cs1 dX8_judge_1 g_X8_243 (c_X8_isTape) rfl rfl (Nat.le_of_ble_eq_true rfl) (Nat.le_of_ble_eq_true rfl) rfl ?_
  refine s_if_ne (tgt := 9) dX8_judge_4 (by decide) (fun hz => ?_) (fun hqz => absurd hqz (miY (n := 5) (by omega) (by decide)))
  clear hz
  refine s_aload_n dX8_judge_9 rfl ?_
  refine s_get dX8_judge_10 f_X8_71 (by repeat (first | assumption | refine zg1 ?_ (by decide) | (refine zgs ?_; (try simp only [List.length_set]); assumption))) (by rfl) ?_
  refine s_iload_n dX8_judge_13 rfl ?_
  refine s_iald dX8_judge_14 (by repeat (first | assumption | refine zg1 ?_ (by decide) | (refine zgs ?_; (try simp only [List.length_set]); assumption))) (zrd (n := 6) hj (by decide)) ?_
  rw [nI_clamp (by omega), hz0]
  refine s_if_lt (tgt := 31) dX8_judge_15 (by decide) (fun hqz => absurd hqz (nI_pos (by omega))) (fun hz => ?_)
  clear hz
  refine s_aload_n dX8_judge_18 rfl ?_
  refine s_get dX8_judge_19 f_X8_68 (by repeat (first | assumption | refine zg1 ?_ (by decide) | (refine zgs ?_; (try simp only [List.length_set]); assumption))) (by rfl) ?_
  refine s_iload_n dX8_judge_22 rfl ?_
  refine s_iald dX8_judge_23 (by repeat (first | assumption | refine zg1 ?_ (by decide) | (refine zgs ?_; (try simp only [List.length_set]); assumption))) (zrd (n := 6) hj (by decide)) ?_
  rw [nI_clamp (by omega), hs0]
  refine s_iconst (v := 4) dX8_judge_24 rfl ?_
  refine s_icmp_eq (tgt := 31) dX8_judge_25 (by decide) (fun hqz => absurd hqz h4) (fun hz => ?_)
  clear hz
  refine s_bipush (v := (-12)) dX8_judge_28 rfl ?_
  exact s_iret dX8_judge_30 rfl ⟨rfl, rfl⟩ (by first | rfl | (simp only [List.length_set]; rfl))
set_option maxHeartbeats 4000000 in
set_option maxRecDepth 100000 in
theorem y_judge4 {Z : zS} {d : Nat} {w : zW} {b k : Nat} {mf ma mc ms me mq mu mh mp : Int32} (ho : w[41]? = some (oM (nI b) (nI k) mf ma mc ms me mq mu mh mp)) {so sz : Nat → Int32} {it : Nat → Int64} (hso : w[59]? = some (aI 6 so)) (hsz : w[60]? = some (aI 6 sz)) (hit : w[61]? = some (aL 360 it)) {j z : Nat} (hj : j < 6) (hz0 : sz j = nI z) (hz : z ≤ 60) (hs0 : so j = 4) {i : Int32} (hp : i < 0 ∨ nI z ≤ i) : zF Z M_X8_judge (d + 2) [.ref 41, .int (nI j), .int i] w [.int 100] w := by
  show zG Z M_X8_judge (d + 2) _ w.length 0 [(0, .ref 41), (1, .int (nI j)), (2, .int i)] [] w
  by_cases hi : i < 0
  · refine s_iload_n dX8_judge_0 rfl ?_
    refine s_cs1 dX8_judge_1 g_X8_243 (c_X8_isTape) rfl rfl (Nat.le_of_ble_eq_true rfl) (Nat.le_of_ble_eq_true rfl) rfl ?_
    refine s_if_ne (tgt := 9) dX8_judge_4 (by decide) (fun hz => ?_) (fun hqz => absurd hqz (miY (n := 5) (by omega) (by decide)))
    clear hz
    refine s_aload_n dX8_judge_9 rfl ?_
    refine s_get dX8_judge_10 f_X8_71 (by repeat (first | assumption | refine zg1 ?_ (by decide) | (refine zgs ?_; (try simp only [List.length_set]); assumption))) (by rfl) ?_
    refine s_iload_n dX8_judge_13 rfl ?_
    refine s_iald dX8_judge_14 (by repeat (first | assumption | refine zg1 ?_ (by decide) | (refine zgs ?_; (try simp only [List.length_set]); assumption))) (zrd (n := 6) hj (by decide)) ?_
    rw [nI_clamp (by omega), hz0]
    refine s_if_lt (tgt := 31) dX8_judge_15 (by decide) (fun hqz => absurd hqz (nI_pos (by omega))) (fun hz => ?_)
    clear hz
    refine s_aload_n dX8_judge_18 rfl ?_
    refine s_get dX8_judge_19 f_X8_68 (by repeat (first | assumption | refine zg1 ?_ (by decide) | (refine zgs ?_; (try simp only [List.length_set]); assumption))) (by rfl) ?_
    refine s_iload_n dX8_judge_22 rfl ?_
    refine s_iald dX8_judge_23 (by repeat (first | assumption | refine zg1 ?_ (by decide) | (refine zgs ?_; (try simp only [List.length_set]); assumption))) (zrd (n := 6) hj (by decide)) ?_
    rw [nI_clamp (by omega), hs0]
    refine s_iconst (v := 4) dX8_judge_24 rfl ?_
    refine s_icmp_eq (tgt := 31) dX8_judge_25 (by decide) (fun hz => ?_) (fun hqz => absurd rfl hqz)
    clear hz
    refine s_iconst (v := 0) dX8_judge_31 rfl ?_
    refine s_istore_n dX8_judge_32 (Nat.le_of_ble_eq_true rfl) rfl ?_
    refine s_iload_n dX8_judge_33 rfl ?_
    refine s_bipush (v := 8) dX8_judge_34 rfl ?_
    refine s_icmp_ge (tgt := 94) dX8_judge_36 (by decide) (fun hqz => absurd hqz (by decide)) (fun hz => ?_)
    clear hz
    refine s_iload_n dX8_judge_39 rfl ?_
    refine s_if_lt (tgt := 55) dX8_judge_40 (by decide) (fun hz => ?_) (fun hqz => absurd hi hqz)
    clear hz
    refine s_bipush (v := 100) dX8_judge_55 rfl ?_
    refine s_iload_n dX8_judge_57 rfl ?_
    refine s_iadd dX8_judge_58 ?_
    exact s_iret dX8_judge_59 rfl ⟨rfl, rfl⟩ (by first | rfl | (simp only [List.length_set]; rfl))
  · refine s_iload_n dX8_judge_0 rfl ?_
    refine s_cs1 dX8_judge_1 g_X8_243 (c_X8_isTape) rfl rfl (Nat.le_of_ble_eq_true rfl) (Nat.le_of_ble_eq_true rfl) rfl ?_
    refine s_if_ne (tgt := 9) dX8_judge_4 (by decide) (fun hz => ?_) (fun hqz => absurd hqz (miY (n := 5) (by omega) (by decide)))
    clear hz
    refine s_aload_n dX8_judge_9 rfl ?_
    refine s_get dX8_judge_10 f_X8_71 (by repeat (first | assumption | refine zg1 ?_ (by decide) | (refine zgs ?_; (try simp only [List.length_set]); assumption))) (by rfl) ?_
    refine s_iload_n dX8_judge_13 rfl ?_
    refine s_iald dX8_judge_14 (by repeat (first | assumption | refine zg1 ?_ (by decide) | (refine zgs ?_; (try simp only [List.length_set]); assumption))) (zrd (n := 6) hj (by decide)) ?_
    rw [nI_clamp (by omega), hz0]
    refine s_if_lt (tgt := 31) dX8_judge_15 (by decide) (fun hqz => absurd hqz (nI_pos (by omega))) (fun hz => ?_)
    clear hz
    refine s_aload_n dX8_judge_18 rfl ?_
    refine s_get dX8_judge_19 f_X8_68 (by repeat (first | assumption | refine zg1 ?_ (by decide) | (refine zgs ?_; (try simp only [List.length_set]); assumption))) (by rfl) ?_
    refine s_iload_n dX8_judge_22 rfl ?_
    refine s_iald dX8_judge_23 (by repeat (first | assumption | refine zg1 ?_ (by decide) | (refine zgs ?_; (try simp only [List.length_set]); assumption))) (zrd (n := 6) hj (by decide)) ?_
    rw [nI_clamp (by omega), hs0]
    refine s_iconst (v := 4) dX8_judge_24 rfl ?_
    refine s_icmp_eq (tgt := 31) dX8_judge_25 (by decide) (fun hz => ?_) (fun hqz => absurd rfl hqz)
    clear hz
    refine s_iconst (v := 0) dX8_judge_31 rfl ?_
    refine s_istore_n dX8_judge_32 (Nat.le_of_ble_eq_true rfl) rfl ?_
    refine s_iload_n dX8_judge_33 rfl ?_
    refine s_bipush (v := 8) dX8_judge_34 rfl ?_
    refine s_icmp_ge (tgt := 94) dX8_judge_36 (by decide) (fun hqz => absurd hqz (by decide)) (fun hz => ?_)
    clear hz
    refine s_iload_n dX8_judge_39 rfl ?_
    refine s_if_lt (tgt := 55) dX8_judge_40 (by decide) (fun hqz => absurd hqz hi) (fun hz => ?_)
    clear hz
    refine s_iload_n dX8_judge_43 rfl ?_
    refine s_aload_n dX8_judge_44 rfl ?_
    refine s_get dX8_judge_45 f_X8_71 (by repeat (first | assumption | refine zg1 ?_ (by decide) | (refine zgs ?_; (try simp only [List.length_set]); assumption))) (by rfl) ?_
    refine s_iload_n dX8_judge_48 rfl ?_
    refine s_iald dX8_judge_49 (by repeat (first | assumption | refine zg1 ?_ (by decide) | (refine zgs ?_; (try simp only [List.length_set]); assumption))) (zrd (n := 6) hj (by decide)) ?_
    rw [nI_clamp (by omega), hz0]
    refine s_iload_n dX8_judge_50 rfl ?_
    refine s_isub dX8_judge_51 ?_
    rw [Int32.sub_zero]
    refine s_icmp_lt (tgt := 60) dX8_judge_52 (by decide) (fun hqz => absurd hqz (fun q => absurd (hp.resolve_left hi) (Int32.not_le.mpr q))) (fun hz => ?_)
    clear hz
    refine s_bipush (v := 100) dX8_judge_55 rfl ?_
    refine s_iload_n dX8_judge_57 rfl ?_
    refine s_iadd dX8_judge_58 ?_
    exact s_iret dX8_judge_59 rfl ⟨rfl, rfl⟩ (by first | rfl | (simp only [List.length_set]; rfl))
set_option maxHeartbeats 4000000 in
set_option maxRecDepth 100000 in
theorem l_X8_judge {Z : zS} {d : Nat} {w : zW} {b k : Nat} {mf ma mc ms me mq mu mh mp : Int32} (ho : w[41]? = some (oM (nI b) (nI k) mf ma mc ms me mq mu mh mp)) {so sz : Nat → Int32} {it : Nat → Int64} (hb : b < 256) (hso : w[59]? = some (aI 6 so)) (hsz : w[60]? = some (aI 6 sz)) (hit : w[61]? = some (aL 360 it)) {j z p : Nat} (hj : j < 6) (hz0 : sz j = nI z) (hz : z ≤ 60) (hp : p < z) : ∀ (n c : Nat), c + n = 8 → zG Z M_X8_judge d (fun r1 w1 => r1 = [.int (kJU (fun x => it (60 * j + x)) z b p n c)] ∧ w1 = w) w.length 33 [(0, .ref 41), (1, .int (nI j)), (2, .int (nI p)), (3, .int (nI c))] [] w := by
  intro n
  induction n with
  | zero =>
    intro c hi
    have hi : c = 8 := by omega
    subst hi
    refine s_iload_n dX8_judge_33 rfl ?_
    refine s_bipush (v := 8) dX8_judge_34 rfl ?_
    refine s_icmp_ge (tgt := 94) dX8_judge_36 (by decide) (fun hz => ?_) (fun hqz => absurd (by decide) hqz)
    clear hz
    refine s_bipush (v := (-5)) dX8_judge_94 rfl ?_
    exact s_iret dX8_judge_96 rfl ⟨rfl, rfl⟩ (by first | rfl | (simp only [List.length_set]; rfl))
  | succ n ih =>
    intro c hi
    have hm : c < 8 := by omega
    by_cases hq : z ≤ p + c
    · rw [show kJU (fun x => it (60 * j + x)) z b p (n + 1) c = nI (100 + c) from by rw [kJU, if_pos hq]]
      refine s_iload_n dX8_judge_33 rfl ?_
      refine s_bipush (v := 8) dX8_judge_34 rfl ?_
      refine s_icmp_ge (tgt := 94) dX8_judge_36 (by decide) (fun hqz => absurd hqz (nI_ge hm (by decide))) (fun hz => ?_)
      clear hz
      refine s_iload_n dX8_judge_39 rfl ?_
      refine s_if_lt (tgt := 55) dX8_judge_40 (by decide) (fun hqz => absurd hqz (nI_pos (by omega))) (fun hz => ?_)
      clear hz
      refine s_iload_n dX8_judge_43 rfl ?_
      refine s_aload_n dX8_judge_44 rfl ?_
      refine s_get dX8_judge_45 f_X8_71 (by repeat (first | assumption | refine zg1 ?_ (by decide) | (refine zgs ?_; (try simp only [List.length_set]); assumption))) (by rfl) ?_
      refine s_iload_n dX8_judge_48 rfl ?_
      refine s_iald dX8_judge_49 (by repeat (first | assumption | refine zg1 ?_ (by decide) | (refine zgs ?_; (try simp only [List.length_set]); assumption))) (zrd (n := 6) hj (by decide)) ?_
      rw [nI_clamp (by omega), hz0]
      refine s_iload_n dX8_judge_50 rfl ?_
      refine s_isub dX8_judge_51 ?_
      refine s_icmp_lt (tgt := 60) dX8_judge_52 (by decide) (fun hqz => absurd hqz (fun q => absurd ((zps (by omega) (by omega) (by omega)).mp q) (by omega))) (fun hz => ?_)
      clear hz
      refine s_bipush (v := 100) dX8_judge_55 rfl ?_
      refine s_iload_n dX8_judge_57 rfl ?_
      refine s_iadd dX8_judge_58 ?_
      exact s_iret dX8_judge_59 rfl ⟨by rw [show (100 : Int32) = nI 100 from rfl, nI_add], rfl⟩ (by first | rfl | (simp only [List.length_set]; rfl))
    · by_cases hv : it (60 * j + p + c) = (nI (zb b c)).toInt64
      · rw [show kJU (fun x => it (60 * j + x)) z b p (n + 1) c = kJU (fun x => it (60 * j + x)) z b p n (c + 1) from by rw [kJU, if_neg hq, if_pos (by rw [← Nat.add_assoc]; exact hv)]]
        refine s_iload_n dX8_judge_33 rfl ?_
        refine s_bipush (v := 8) dX8_judge_34 rfl ?_
        refine s_icmp_ge (tgt := 94) dX8_judge_36 (by decide) (fun hqz => absurd hqz (nI_ge hm (by decide))) (fun hz => ?_)
        clear hz
        refine s_iload_n dX8_judge_39 rfl ?_
        refine s_if_lt (tgt := 55) dX8_judge_40 (by decide) (fun hqz => absurd hqz (nI_pos (by omega))) (fun hz => ?_)
        clear hz
        refine s_iload_n dX8_judge_43 rfl ?_
        refine s_aload_n dX8_judge_44 rfl ?_
        refine s_get dX8_judge_45 f_X8_71 (by repeat (first | assumption | refine zg1 ?_ (by decide) | (refine zgs ?_; (try simp only [List.length_set]); assumption))) (by rfl) ?_
        refine s_iload_n dX8_judge_48 rfl ?_
        refine s_iald dX8_judge_49 (by repeat (first | assumption | refine zg1 ?_ (by decide) | (refine zgs ?_; (try simp only [List.length_set]); assumption))) (zrd (n := 6) hj (by decide)) ?_
        rw [nI_clamp (by omega), hz0]
        refine s_iload_n dX8_judge_50 rfl ?_
        refine s_isub dX8_judge_51 ?_
        refine s_icmp_lt (tgt := 60) dX8_judge_52 (by decide) (fun hz => ?_) (fun hqz => absurd ((zps (by omega) (by omega) (by omega)).mpr (by omega)) hqz)
        clear hz
        refine s_aload_n dX8_judge_60 rfl ?_
        refine s_get dX8_judge_61 f_X8_74 (by repeat (first | assumption | refine zg1 ?_ (by decide) | (refine zgs ?_; (try simp only [List.length_set]); assumption))) (by rfl) ?_
        refine s_bipush (v := 60) dX8_judge_64 rfl ?_
        refine s_iload_n dX8_judge_66 rfl ?_
        refine s_imul dX8_judge_67 ?_
        refine s_iload_n dX8_judge_68 rfl ?_
        refine s_iadd dX8_judge_69 ?_
        rw [z60]
        refine s_iload_n dX8_judge_70 rfl ?_
        refine s_iadd dX8_judge_71 ?_
        rw [nI_add]
        refine s_lald dX8_judge_72 (by repeat (first | assumption | refine zg1 ?_ (by decide) | (refine zgs ?_; (try simp only [List.length_set]); assumption))) (zrd (n := 360) (by omega) (by decide)) ?_
        rw [nI_clamp (by omega)]
        refine s_aload_n dX8_judge_73 rfl ?_
        refine s_get dX8_judge_74 f_X8_125 (by repeat (first | assumption | refine zg1 ?_ (by decide) | (refine zgs ?_; (try simp only [List.length_set]); assumption))) (by rfl) ?_
        refine s_iload_n dX8_judge_77 rfl ?_
        refine s_ishr dX8_judge_78 ?_
        refine s_iconst (v := 1) dX8_judge_79 rfl ?_
        refine s_iand dX8_judge_80 ?_
        rw [zbit (by omega) (by omega)]
        refine s_i2l dX8_judge_81 rfl ?_
        refine s_lcmp dX8_judge_82 ?_
        refine s_if_eq (tgt := 88) dX8_judge_83 (by decide) (fun hz => ?_) (fun hqz => absurd (zlcmpE.mpr hv) hqz)
        clear hz
        refine s_iinc (nI (c + 1)) dX8_judge_88 rfl (nI_1 _) (Nat.le_of_ble_eq_true rfl) rfl ?_
        refine s_goto (tgt := 33) dX8_judge_91 (by decide) ?_
        exact ih (c + 1) (by omega)
      · rw [show kJU (fun x => it (60 * j + x)) z b p (n + 1) c = nI c from by rw [kJU, if_neg hq, if_neg (by rw [← Nat.add_assoc]; exact hv)]]
        refine s_iload_n dX8_judge_33 rfl ?_
        refine s_bipush (v := 8) dX8_judge_34 rfl ?_
        refine s_icmp_ge (tgt := 94) dX8_judge_36 (by decide) (fun hqz => absurd hqz (nI_ge hm (by decide))) (fun hz => ?_)
        clear hz
        refine s_iload_n dX8_judge_39 rfl ?_
        refine s_if_lt (tgt := 55) dX8_judge_40 (by decide) (fun hqz => absurd hqz (nI_pos (by omega))) (fun hz => ?_)
        clear hz
        refine s_iload_n dX8_judge_43 rfl ?_
        refine s_aload_n dX8_judge_44 rfl ?_
        refine s_get dX8_judge_45 f_X8_71 (by repeat (first | assumption | refine zg1 ?_ (by decide) | (refine zgs ?_; (try simp only [List.length_set]); assumption))) (by rfl) ?_
        refine s_iload_n dX8_judge_48 rfl ?_
        refine s_iald dX8_judge_49 (by repeat (first | assumption | refine zg1 ?_ (by decide) | (refine zgs ?_; (try simp only [List.length_set]); assumption))) (zrd (n := 6) hj (by decide)) ?_
        rw [nI_clamp (by omega), hz0]
        refine s_iload_n dX8_judge_50 rfl ?_
        refine s_isub dX8_judge_51 ?_
        refine s_icmp_lt (tgt := 60) dX8_judge_52 (by decide) (fun hz => ?_) (fun hqz => absurd ((zps (by omega) (by omega) (by omega)).mpr (by omega)) hqz)
        clear hz
        refine s_aload_n dX8_judge_60 rfl ?_
        refine s_get dX8_judge_61 f_X8_74 (by repeat (first | assumption | refine zg1 ?_ (by decide) | (refine zgs ?_; (try simp only [List.length_set]); assumption))) (by rfl) ?_
        refine s_bipush (v := 60) dX8_judge_64 rfl ?_
        refine s_iload_n dX8_judge_66 rfl ?_
        refine s_imul dX8_judge_67 ?_
        refine s_iload_n dX8_judge_68 rfl ?_
        refine s_iadd dX8_judge_69 ?_
        rw [z60]
        refine s_iload_n dX8_judge_70 rfl ?_
        refine s_iadd dX8_judge_71 ?_
        rw [nI_add]
        refine s_lald dX8_judge_72 (by repeat (first | assumption | refine zg1 ?_ (by decide) | (refine zgs ?_; (try simp only [List.length_set]); assumption))) (zrd (n := 360) (by omega) (by decide)) ?_
        rw [nI_clamp (by omega)]
        refine s_aload_n dX8_judge_73 rfl ?_
        refine s_get dX8_judge_74 f_X8_125 (by repeat (first | assumption | refine zg1 ?_ (by decide) | (refine zgs ?_; (try simp only [List.length_set]); assumption))) (by rfl) ?_
        refine s_iload_n dX8_judge_77 rfl ?_
        refine s_ishr dX8_judge_78 ?_
        refine s_iconst (v := 1) dX8_judge_79 rfl ?_
        refine s_iand dX8_judge_80 ?_
        rw [zbit (by omega) (by omega)]
        refine s_i2l dX8_judge_81 rfl ?_
        refine s_lcmp dX8_judge_82 ?_
        refine s_if_eq (tgt := 88) dX8_judge_83 (by decide) (fun hqz => absurd hqz (fun q => hv (zlcmpE.mp q))) (fun hz => ?_)
        clear hz
        refine s_iload_n dX8_judge_86 rfl ?_
        exact s_iret dX8_judge_87 rfl ⟨rfl, rfl⟩ (by first | rfl | (simp only [List.length_set]; rfl))
set_option maxHeartbeats 4000000 in
set_option maxRecDepth 100000 in
theorem y_judge {Z : zS} {d : Nat} {w : zW} {b k : Nat} {mf ma mc ms me mq mu mh mp : Int32} (ho : w[41]? = some (oM (nI b) (nI k) mf ma mc ms me mq mu mh mp)) {so sz : Nat → Int32} {it : Nat → Int64} (hb : b < 256) (hso : w[59]? = some (aI 6 so)) (hsz : w[60]? = some (aI 6 sz)) (hit : w[61]? = some (aL 360 it)) {j z p : Nat} (hj : j < 6) (hz0 : sz j = nI z) (hz : z ≤ 60) (hs0 : so j = 4) (hp : p < z) : zF Z M_X8_judge (d + 2) [.ref 41, .int (nI j), .int (nI p)] w [.int (kJU (fun x => it (60 * j + x)) z b p 8 0)] w := by
  show zG Z M_X8_judge (d + 2) _ w.length 0 [(0, .ref 41), (1, .int (nI j)), (2, .int (nI p))] [] w
  refine s_iload_n dX8_judge_0 rfl ?_
  refine s_cs1 dX8_judge_1 g_X8_243 (c_X8_isTape) rfl rfl (Nat.le_of_ble_eq_true rfl) (Nat.le_of_ble_eq_true rfl) rfl ?_
  refine s_if_ne (tgt := 9) dX8_judge_4 (by decide) (fun hz => ?_) (fun hqz => absurd hqz (miY (n := 5) (by omega) (by decide)))
  clear hz
  refine s_aload_n dX8_judge_9 rfl ?_
  refine s_get dX8_judge_10 f_X8_71 (by repeat (first | assumption | refine zg1 ?_ (by decide) | (refine zgs ?_; (try simp only [List.length_set]); assumption))) (by rfl) ?_
  refine s_iload_n dX8_judge_13 rfl ?_
  refine s_iald dX8_judge_14 (by repeat (first | assumption | refine zg1 ?_ (by decide) | (refine zgs ?_; (try simp only [List.length_set]); assumption))) (zrd (n := 6) hj (by decide)) ?_
  rw [nI_clamp (by omega), hz0]
  refine s_if_lt (tgt := 31) dX8_judge_15 (by decide) (fun hqz => absurd hqz (nI_pos (by omega))) (fun hz => ?_)
  clear hz
  refine s_aload_n dX8_judge_18 rfl ?_
  refine s_get dX8_judge_19 f_X8_68 (by repeat (first | assumption | refine zg1 ?_ (by decide) | (refine zgs ?_; (try simp only [List.length_set]); assumption))) (by rfl) ?_
  refine s_iload_n dX8_judge_22 rfl ?_
  refine s_iald dX8_judge_23 (by repeat (first | assumption | refine zg1 ?_ (by decide) | (refine zgs ?_; (try simp only [List.length_set]); assumption))) (zrd (n := 6) hj (by decide)) ?_
  rw [nI_clamp (by omega), hs0]
  refine s_iconst (v := 4) dX8_judge_24 rfl ?_
  refine s_icmp_eq (tgt := 31) dX8_judge_25 (by decide) (fun hz => ?_) (fun hqz => absurd rfl hqz)
  clear hz
  refine s_iconst (v := 0) dX8_judge_31 rfl ?_
  refine s_istore_n dX8_judge_32 (Nat.le_of_ble_eq_true rfl) rfl ?_
  exact l_X8_judge ho hb hso hsz hit hj hz0 hz hp 8 0 rfl
set_option maxHeartbeats 4000000 in
set_option maxRecDepth 100000 in
theorem y_shift1 {Z : zS} {d : Nat} {w : zW} {b k : Nat} {mf ma mc ms me mq mu mh mp : Int32} (ho : w[41]? = some (oM (nI b) (nI k) mf ma mc ms me mq mu mh mp)) {so sz : Nat → Int32} {it : Nat → Int64} (hso : w[59]? = some (aI 6 so)) (hsz : w[60]? = some (aI 6 sz)) (hit : w[61]? = some (aL 360 it)) {c p o q m : Int32} (hc : c < 0 ∨ 6 ≤ c) : zF Z M_X8_shift (d + 2) [.ref 41, .int c, .int p, .int o, .int q, .int m] w [.int (-1)] w := by
  show zG Z M_X8_shift (d + 2) _ _ 0 [(0, .ref 41), (1, .int c), (2, .int p), (3, .int o), (4, .int q), (5, .int m)] [] w
  refine s_iload_n dX8_shift_0 rfl ?_
  refine s_cs1 dX8_shift_1 g_X8_243 (c_X8_isTape) rfl rfl (Nat.le_of_ble_eq_true rfl) (Nat.le_of_ble_eq_true rfl) rfl ?_
  refine s_if_eq (tgt := 14) dX8_shift_4 (by decide) (fun hz => ?_) (fun hqz => absurd (miN (n := 5) (by decide) hc) hqz)
  clear hz
  refine s_iconst (v := (-1)) dX8_shift_14 rfl ?_
  exact s_iret dX8_shift_15 rfl ⟨rfl, rfl⟩ (by first | rfl | (simp only [List.length_set]; rfl))
set_option maxHeartbeats 4000000 in
set_option maxRecDepth 100000 in
theorem y_shift2 {Z : zS} {d : Nat} {w : zW} {b k : Nat} {mf ma mc ms me mq mu mh mp : Int32} (ho : w[41]? = some (oM (nI b) (nI k) mf ma mc ms me mq mu mh mp)) {so sz : Nat → Int32} {it : Nat → Int64} (hso : w[59]? = some (aI 6 so)) (hsz : w[60]? = some (aI 6 sz)) (hit : w[61]? = some (aL 360 it)) {j : Nat} {p o q m : Int32} (hj : j < 6) (hc : o < 0 ∨ 6 ≤ o) : zF Z M_X8_shift (d + 2) [.ref 41, .int (nI j), .int p, .int o, .int q, .int m] w [.int (-1)] w := by
  show zG Z M_X8_shift (d + 2) _ _ 0 [(0, .ref 41), (1, .int (nI j)), (2, .int p), (3, .int o), (4, .int q), (5, .int m)] [] w
  refine s_iload_n dX8_shift_0 rfl ?_
  refine s_cs1 dX8_shift_1 g_X8_243 (c_X8_isTape) rfl rfl (Nat.le_of_ble_eq_true rfl) (Nat.le_of_ble_eq_true rfl) rfl ?_
  refine s_if_eq (tgt := 14) dX8_shift_4 (by decide) (fun hqz => absurd hqz (miY (n := 5) (by omega) (by decide))) (fun hz => ?_)
  clear hz
  refine s_iload_n dX8_shift_7 rfl ?_
  refine s_cs1 dX8_shift_8 g_X8_243 (c_X8_isTape) rfl rfl (Nat.le_of_ble_eq_true rfl) (Nat.le_of_ble_eq_true rfl) rfl ?_
  refine s_if_ne (tgt := 16) dX8_shift_11 (by decide) (fun hqz => absurd (miN (n := 5) (by decide) hc) hqz) (fun hz => ?_)
  clear hz
  refine s_iconst (v := (-1)) dX8_shift_14 rfl ?_
  exact s_iret dX8_shift_15 rfl ⟨rfl, rfl⟩ (by first | rfl | (simp only [List.length_set]; rfl))
set_option maxHeartbeats 4000000 in
set_option maxRecDepth 100000 in
theorem y_shift3 {Z : zS} {d : Nat} {w : zW} {b k : Nat} {mf ma mc ms me mq mu mh mp : Int32} (ho : w[41]? = some (oM (nI b) (nI k) mf ma mc ms me mq mu mh mp)) {so sz : Nat → Int32} {it : Nat → Int64} (hso : w[59]? = some (aI 6 so)) (hsz : w[60]? = some (aI 6 sz)) (hit : w[61]? = some (aL 360 it)) {j o : Nat} {p q m : Int32} (hj : j < 6) (hto : o < 6) (hz1 : sz j = -1) : zF Z M_X8_shift (d + 2) [.ref 41, .int (nI j), .int p, .int (nI o), .int q, .int m] w [.int (-11)] w := by
  show zG Z M_X8_shift (d + 2) _ _ 0 [(0, .ref 41), (1, .int (nI j)), (2, .int p), (3, .int (nI o)), (4, .int q), (5, .int m)] [] w
  refine s_iload_n dX8_shift_0 rfl ?_
  refine s_cs1 dX8_shift_1 g_X8_243 (c_X8_isTape) rfl rfl (Nat.le_of_ble_eq_true rfl) (Nat.le_of_ble_eq_true rfl) rfl ?_
  refine s_if_eq (tgt := 14) dX8_shift_4 (by decide) (fun hqz => absurd hqz (miY (n := 5) (by omega) (by decide))) (fun hz => ?_)
  clear hz
  refine s_iload_n dX8_shift_7 rfl ?_
  refine s_cs1 dX8_shift_8 g_X8_243 (c_X8_isTape) rfl rfl (Nat.le_of_ble_eq_true rfl) (Nat.le_of_ble_eq_true rfl) rfl ?_
  refine s_if_ne (tgt := 16) dX8_shift_11 (by decide) (fun hz => ?_) (fun hqz => absurd hqz (miY (n := 5) (by omega) (by decide)))
  clear hz
  refine s_aload_n dX8_shift_16 rfl ?_
  refine s_get dX8_shift_17 f_X8_71 (by repeat (first | assumption | refine zg1 ?_ (by decide) | (refine zgs ?_; (try simp only [List.length_set]); assumption))) (by rfl) ?_
  refine s_iload_n dX8_shift_20 rfl ?_
  refine s_iald dX8_shift_21 (by repeat (first | assumption | refine zg1 ?_ (by decide) | (refine zgs ?_; (try simp only [List.length_set]); assumption))) (zrd (n := 6) hj (by decide)) ?_
  rw [nI_clamp (by omega), hz1]
  refine s_if_lt (tgt := 34) dX8_shift_22 (by decide) (fun hz => ?_) (fun hqz => absurd (by decide) hqz)
  clear hz
  refine s_bipush (v := (-11)) dX8_shift_34 rfl ?_
  exact s_iret dX8_shift_36 rfl ⟨rfl, rfl⟩ (by first | rfl | (simp only [List.length_set]; rfl))
set_option maxHeartbeats 4000000 in
set_option maxRecDepth 100000 in
theorem y_shift4 {Z : zS} {d : Nat} {w : zW} {b k : Nat} {mf ma mc ms me mq mu mh mp : Int32} (ho : w[41]? = some (oM (nI b) (nI k) mf ma mc ms me mq mu mh mp)) {so sz : Nat → Int32} {it : Nat → Int64} (hso : w[59]? = some (aI 6 so)) (hsz : w[60]? = some (aI 6 sz)) (hit : w[61]? = some (aL 360 it)) {j o z1 : Nat} {p q m : Int32} (hj : j < 6) (hto : o < 6) (hz1 : sz j = nI z1) (hz60 : z1 ≤ 60) (hz2 : sz o = -1) : zF Z M_X8_shift (d + 2) [.ref 41, .int (nI j), .int p, .int (nI o), .int q, .int m] w [.int (-11)] w := by
  show zG Z M_X8_shift (d + 2) _ _ 0 [(0, .ref 41), (1, .int (nI j)), (2, .int p), (3, .int (nI o)), (4, .int q), (5, .int m)] [] w
  refine s_iload_n dX8_shift_0 rfl ?_
  refine s_cs1 dX8_shift_1 g_X8_243 (c_X8_isTape) rfl rfl (Nat.le_of_ble_eq_true rfl) (Nat.le_of_ble_eq_true rfl) rfl ?_
  refine s_if_eq (tgt := 14) dX8_shift_4 (by decide) (fun hqz => absurd hqz (miY (n := 5) (by omega) (by decide))) (fun hz => ?_)
  clear hz
  refine s_iload_n dX8_shift_7 rfl ?_
  refine s_cs1 dX8_shift_8 g_X8_243 (c_X8_isTape) rfl rfl (Nat.le_of_ble_eq_true rfl) (Nat.le_of_ble_eq_true rfl) rfl ?_
  refine s_if_ne (tgt := 16) dX8_shift_11 (by decide) (fun hz => ?_) (fun hqz => absurd hqz (miY (n := 5) (by omega) (by decide)))
  clear hz
  refine s_aload_n dX8_shift_16 rfl ?_
  refine s_get dX8_shift_17 f_X8_71 (by repeat (first | assumption | refine zg1 ?_ (by decide) | (refine zgs ?_; (try simp only [List.length_set]); assumption))) (by rfl) ?_
  refine s_iload_n dX8_shift_20 rfl ?_
  refine s_iald dX8_shift_21 (by repeat (first | assumption | refine zg1 ?_ (by decide) | (refine zgs ?_; (try simp only [List.length_set]); assumption))) (zrd (n := 6) hj (by decide)) ?_
  rw [nI_clamp (by omega), hz1]
  refine s_if_lt (tgt := 34) dX8_shift_22 (by decide) (fun hqz => absurd hqz (nI_pos (by omega))) (fun hz => ?_)
  clear hz
  refine s_aload_n dX8_shift_25 rfl ?_
  refine s_get dX8_shift_26 f_X8_71 (by repeat (first | assumption | refine zg1 ?_ (by decide) | (refine zgs ?_; (try simp only [List.length_set]); assumption))) (by rfl) ?_
  refine s_iload_n dX8_shift_29 rfl ?_
  refine s_iald dX8_shift_30 (by repeat (first | assumption | refine zg1 ?_ (by decide) | (refine zgs ?_; (try simp only [List.length_set]); assumption))) (zrd (n := 6) hto (by decide)) ?_
  rw [nI_clamp (by omega), hz2]
  refine s_if_ge (tgt := 37) dX8_shift_31 (by decide) (fun hqz => absurd hqz (by decide)) (fun hz => ?_)
  clear hz
  refine s_bipush (v := (-11)) dX8_shift_34 rfl ?_
  exact s_iret dX8_shift_36 rfl ⟨rfl, rfl⟩ (by first | rfl | (simp only [List.length_set]; rfl))
set_option maxHeartbeats 4000000 in
set_option maxRecDepth 100000 in
theorem y_shift5 {Z : zS} {d : Nat} {w : zW} {b k : Nat} {mf ma mc ms me mq mu mh mp : Int32} (ho : w[41]? = some (oM (nI b) (nI k) mf ma mc ms me mq mu mh mp)) {so sz : Nat → Int32} {it : Nat → Int64} (hso : w[59]? = some (aI 6 so)) (hsz : w[60]? = some (aI 6 sz)) (hit : w[61]? = some (aL 360 it)) {j o z1 z2 : Nat} (hj : j < 6) (hto : o < 6) (hz1 : sz j = nI z1) (hz61 : z1 ≤ 60) (hz2 : sz o = nI z2) (hz62 : z2 ≤ 60) {p q m s1 s2 : Int32} (hs1 : so j = s1) (hs2 : so o = s2) (h3 : ¬ s1 = s2) : zF Z M_X8_shift (d + 2) [.ref 41, .int (nI j), .int p, .int (nI o), .int q, .int m] w [.int (-12)] w := by
  show zG Z M_X8_shift (d + 2) _ _ 0 [(0, .ref 41), (1, .int (nI j)), (2, .int p), (3, .int (nI o)), (4, .int q), (5, .int m)] [] w
  refine s_iload_n dX8_shift_0 rfl ?_
  refine s_cs1 dX8_shift_1 g_X8_243 (c_X8_isTape) rfl rfl (Nat.le_of_ble_eq_true rfl) (Nat.le_of_ble_eq_true rfl) rfl ?_
  refine s_if_eq (tgt := 14) dX8_shift_4 (by decide) (fun hqz => absurd hqz (miY (n := 5) (by omega) (by decide))) (fun hz => ?_)
  clear hz
  refine s_iload_n dX8_shift_7 rfl ?_
  refine s_cs1 dX8_shift_8 g_X8_243 (c_X8_isTape) rfl rfl (Nat.le_of_ble_eq_true rfl) (Nat.le_of_ble_eq_true rfl) rfl ?_
  refine s_if_ne (tgt := 16) dX8_shift_11 (by decide) (fun hz => ?_) (fun hqz => absurd hqz (miY (n := 5) (by omega) (by decide)))
  clear hz
  refine s_aload_n dX8_shift_16 rfl ?_
  refine s_get dX8_shift_17 f_X8_71 (by repeat (first | assumption | refine zg1 ?_ (by decide) | (refine zgs ?_; (try simp only [List.length_set]); assumption))) (by rfl) ?_
  refine s_iload_n dX8_shift_20 rfl ?_
  refine s_iald dX8_shift_21 (by repeat (first | assumption | refine zg1 ?_ (by decide) | (refine zgs ?_; (try simp only [List.length_set]); assumption))) (zrd (n := 6) hj (by decide)) ?_
  rw [nI_clamp (by omega), hz1]
  refine s_if_lt (tgt := 34) dX8_shift_22 (by decide) (fun hqz => absurd hqz (nI_pos (by omega))) (fun hz => ?_)
  clear hz
  refine s_aload_n dX8_shift_25 rfl ?_
  refine s_get dX8_shift_26 f_X8_71 (by repeat (first | assumption | refine zg1 ?_ (by decide) | (refine zgs ?_; (try simp only [List.length_set]); assumption))) (by rfl) ?_
  refine s_iload_n dX8_shift_29 rfl ?_
  refine s_iald dX8_shift_30 (by repeat (first | assumption | refine zg1 ?_ (by decide) | (refine zgs ?_; (try simp only [List.length_set]); assumption))) (zrd (n := 6) hto (by decide)) ?_
  rw [nI_clamp (by omega), hz2]
  refine s_if_ge (tgt := 37) dX8_shift_31 (by decide) (fun hz => ?_) (fun hqz => absurd (nI_pos' (by omega)) hqz)
  clear hz
  refine s_aload_n dX8_shift_37 rfl ?_
  refine s_get dX8_shift_38 f_X8_68 (by repeat (first | assumption | refine zg1 ?_ (by decide) | (refine zgs ?_; (try simp only [List.length_set]); assumption))) (by rfl) ?_
  refine s_iload_n dX8_shift_41 rfl ?_
  refine s_iald dX8_shift_42 (by repeat (first | assumption | refine zg1 ?_ (by decide) | (refine zgs ?_; (try simp only [List.length_set]); assumption))) (zrd (n := 6) hj (by decide)) ?_
  rw [nI_clamp (by omega), hs1]
  refine s_aload_n dX8_shift_43 rfl ?_
  refine s_get dX8_shift_44 f_X8_68 (by repeat (first | assumption | refine zg1 ?_ (by decide) | (refine zgs ?_; (try simp only [List.length_set]); assumption))) (by rfl) ?_
  refine s_iload_n dX8_shift_47 rfl ?_
  refine s_iald dX8_shift_48 (by repeat (first | assumption | refine zg1 ?_ (by decide) | (refine zgs ?_; (try simp only [List.length_set]); assumption))) (zrd (n := 6) hto (by decide)) ?_
  rw [nI_clamp (by omega), hs2]
  refine s_icmp_eq (tgt := 55) dX8_shift_49 (by decide) (fun hqz => absurd hqz h3) (fun hz => ?_)
  clear hz
  refine s_bipush (v := (-12)) dX8_shift_52 rfl ?_
  exact s_iret dX8_shift_54 rfl ⟨rfl, rfl⟩ (by first | rfl | (simp only [List.length_set]; rfl))
set_option maxHeartbeats 4000000 in
set_option maxRecDepth 100000 in
theorem y_shift6 {Z : zS} {d : Nat} {w : zW} {b k : Nat} {mf ma mc ms me mq mu mh mp : Int32} (ho : w[41]? = some (oM (nI b) (nI k) mf ma mc ms me mq mu mh mp)) {so sz : Nat → Int32} {it : Nat → Int64} (hso : w[59]? = some (aI 6 so)) (hsz : w[60]? = some (aI 6 sz)) (hit : w[61]? = some (aL 360 it)) {j o z1 z2 : Nat} (hj : j < 6) (hto : o < 6) (hz1 : sz j = nI z1) (hz61 : z1 ≤ 60) (hz2 : sz o = nI z2) (hz62 : z2 ≤ 60) {p q m s1 : Int32} (hs1 : so j = s1) (hs2 : so o = s1) (hbad : m < 0 ∨ p < 0 ∨ q < 0 ∨ (z1 : Int) < p.toInt + m.toInt ∨ (z2 : Int) < q.toInt + m.toInt) : zF Z M_X8_shift (d + 2) [.ref 41, .int (nI j), .int p, .int (nI o), .int q, .int m] w [.int (-13)] w := by
  show zG Z M_X8_shift (d + 2) _ _ 0 [(0, .ref 41), (1, .int (nI j)), (2, .int p), (3, .int (nI o)), (4, .int q), (5, .int m)] [] w
  refine s_iload_n dX8_shift_0 rfl ?_
  refine s_cs1 dX8_shift_1 g_X8_243 (c_X8_isTape) rfl rfl (Nat.le_of_ble_eq_true rfl) (Nat.le_of_ble_eq_true rfl) rfl ?_
  refine s_if_eq (tgt := 14) dX8_shift_4 (by decide) (fun hqz => absurd hqz (miY (n := 5) (by omega) (by decide))) (fun hz => ?_)
  clear hz
  refine s_iload_n dX8_shift_7 rfl ?_
  refine s_cs1 dX8_shift_8 g_X8_243 (c_X8_isTape) rfl rfl (Nat.le_of_ble_eq_true rfl) (Nat.le_of_ble_eq_true rfl) rfl ?_
  refine s_if_ne (tgt := 16) dX8_shift_11 (by decide) (fun hz => ?_) (fun hqz => absurd hqz (miY (n := 5) (by omega) (by decide)))
  clear hz
  refine s_aload_n dX8_shift_16 rfl ?_
  refine s_get dX8_shift_17 f_X8_71 (by repeat (first | assumption | refine zg1 ?_ (by decide) | (refine zgs ?_; (try simp only [List.length_set]); assumption))) (by rfl) ?_
  refine s_iload_n dX8_shift_20 rfl ?_
  refine s_iald dX8_shift_21 (by repeat (first | assumption | refine zg1 ?_ (by decide) | (refine zgs ?_; (try simp only [List.length_set]); assumption))) (zrd (n := 6) hj (by decide)) ?_
  rw [nI_clamp (by omega), hz1]
  refine s_if_lt (tgt := 34) dX8_shift_22 (by decide) (fun hqz => absurd hqz (nI_pos (by omega))) (fun hz => ?_)
  clear hz
  refine s_aload_n dX8_shift_25 rfl ?_
  refine s_get dX8_shift_26 f_X8_71 (by repeat (first | assumption | refine zg1 ?_ (by decide) | (refine zgs ?_; (try simp only [List.length_set]); assumption))) (by rfl) ?_
  refine s_iload_n dX8_shift_29 rfl ?_
  refine s_iald dX8_shift_30 (by repeat (first | assumption | refine zg1 ?_ (by decide) | (refine zgs ?_; (try simp only [List.length_set]); assumption))) (zrd (n := 6) hto (by decide)) ?_
  rw [nI_clamp (by omega), hz2]
  refine s_if_ge (tgt := 37) dX8_shift_31 (by decide) (fun hz => ?_) (fun hqz => absurd (nI_pos' (by omega)) hqz)
  clear hz
  refine s_aload_n dX8_shift_37 rfl ?_
  refine s_get dX8_shift_38 f_X8_68 (by repeat (first | assumption | refine zg1 ?_ (by decide) | (refine zgs ?_; (try simp only [List.length_set]); assumption))) (by rfl) ?_
  refine s_iload_n dX8_shift_41 rfl ?_
  refine s_iald dX8_shift_42 (by repeat (first | assumption | refine zg1 ?_ (by decide) | (refine zgs ?_; (try simp only [List.length_set]); assumption))) (zrd (n := 6) hj (by decide)) ?_
  rw [nI_clamp (by omega), hs1]
  refine s_aload_n dX8_shift_43 rfl ?_
  refine s_get dX8_shift_44 f_X8_68 (by repeat (first | assumption | refine zg1 ?_ (by decide) | (refine zgs ?_; (try simp only [List.length_set]); assumption))) (by rfl) ?_
  refine s_iload_n dX8_shift_47 rfl ?_
  refine s_iald dX8_shift_48 (by repeat (first | assumption | refine zg1 ?_ (by decide) | (refine zgs ?_; (try simp only [List.length_set]); assumption))) (zrd (n := 6) hto (by decide)) ?_
  rw [nI_clamp (by omega), hs2]
  refine s_icmp_eq (tgt := 55) dX8_shift_49 (by decide) (fun hz => ?_) (fun hqz => absurd rfl hqz)
  clear hz
  refine s_iload dX8_shift_55 rfl ?_
  refine s_if_lt (tgt := 104) dX8_shift_57 (by decide) (fun h_57 => ?_) (fun h_57 => ?_)
  · refine s_bipush (v := (-13)) dX8_shift_104 rfl ?_
    exact s_iret dX8_shift_106 rfl ⟨rfl, rfl⟩ (by first | rfl | (simp only [List.length_set]; rfl))
  · refine s_iload_n dX8_shift_60 rfl ?_
    refine s_if_lt (tgt := 104) dX8_shift_61 (by decide) (fun h_61 => ?_) (fun h_61 => ?_)
    · refine s_bipush (v := (-13)) dX8_shift_104 rfl ?_
      exact s_iret dX8_shift_106 rfl ⟨rfl, rfl⟩ (by first | rfl | (simp only [List.length_set]; rfl))
    · refine s_iload dX8_shift_64 rfl ?_
      refine s_if_lt (tgt := 104) dX8_shift_66 (by decide) (fun h_66 => ?_) (fun h_66 => ?_)
      · refine s_bipush (v := (-13)) dX8_shift_104 rfl ?_
        exact s_iret dX8_shift_106 rfl ⟨rfl, rfl⟩ (by first | rfl | (simp only [List.length_set]; rfl))
      · refine s_iload_n dX8_shift_69 rfl ?_
        refine s_i2l dX8_shift_70 rfl ?_
        refine s_iload dX8_shift_71 rfl ?_
        refine s_i2l dX8_shift_73 rfl ?_
        refine s_ladd dX8_shift_74 ?_
        refine s_aload_n dX8_shift_75 rfl ?_
        refine s_get dX8_shift_76 f_X8_71 (by repeat (first | assumption | refine zg1 ?_ (by decide) | (refine zgs ?_; (try simp only [List.length_set]); assumption))) (by rfl) ?_
        refine s_iload_n dX8_shift_79 rfl ?_
        refine s_iald dX8_shift_80 (by repeat (first | assumption | refine zg1 ?_ (by decide) | (refine zgs ?_; (try simp only [List.length_set]); assumption))) (zrd (n := 6) hj (by decide)) ?_
        rw [nI_clamp (by omega), hz1]
        refine s_i2l dX8_shift_81 rfl ?_
        refine s_lcmp dX8_shift_82 ?_
        refine s_if_gt (tgt := 104) dX8_shift_83 (by decide) (fun h_83 => ?_) (fun h_83 => ?_)
        · refine s_bipush (v := (-13)) dX8_shift_104 rfl ?_
          exact s_iret dX8_shift_106 rfl ⟨rfl, rfl⟩ (by first | rfl | (simp only [List.length_set]; rfl))
        · refine s_iload dX8_shift_86 rfl ?_
          refine s_i2l dX8_shift_88 rfl ?_
          refine s_iload dX8_shift_89 rfl ?_
          refine s_i2l dX8_shift_91 rfl ?_
          refine s_ladd dX8_shift_92 ?_
          refine s_aload_n dX8_shift_93 rfl ?_
          refine s_get dX8_shift_94 f_X8_71 (by repeat (first | assumption | refine zg1 ?_ (by decide) | (refine zgs ?_; (try simp only [List.length_set]); assumption))) (by rfl) ?_
          refine s_iload_n dX8_shift_97 rfl ?_
          refine s_iald dX8_shift_98 (by repeat (first | assumption | refine zg1 ?_ (by decide) | (refine zgs ?_; (try simp only [List.length_set]); assumption))) (zrd (n := 6) hto (by decide)) ?_
          rw [nI_clamp (by omega), hz2]
          refine s_i2l dX8_shift_99 rfl ?_
          refine s_lcmp dX8_shift_100 ?_
          refine s_if_le (tgt := 107) dX8_shift_101 (by decide) (fun h_101 => ?_) (fun h_101 => ?_)
          · exfalso
            rcases hbad with h | h | h | h | h
            · exact h_57 h
            · exact h_61 h
            · exact h_66 h
            · exact h_83 (zcmpG.mpr ((zsum hz61).mpr h))
            · exact (zcmpL.mp h_101) ((zsum hz62).mpr h)
          · refine s_bipush (v := (-13)) dX8_shift_104 rfl ?_
            exact s_iret dX8_shift_106 rfl ⟨rfl, rfl⟩ (by first | rfl | (simp only [List.length_set]; rfl))
set_option maxHeartbeats 4000000 in
set_option maxRecDepth 100000 in
theorem l_sh1 {Z : zS} {d : Nat} {w : zW} {Q : List Value → zW → Prop} {b k : Nat} {mf ma mc ms me mq mu mh mp : Int32} (ho : w[41]? = some (oM (nI b) (nI k) mf ma mc ms me mq mu mh mp)) {so sz : Nat → Int32} {it : Nat → Int64} (hso : w[59]? = some (aI 6 so)) (hsz : w[60]? = some (aI 6 sz)) (hit : w[61]? = some (aL 360 it)) {mv : Nat → Int64} (hmv : w[62]? = some (aL 60 mv)) {j o p q m : Nat} (hj : j < 6) (hto : o < 6) (hp : p + m ≤ 60) (hq : q + m ≤ 60) (K : zG Z M_X8_shift d Q w.length 144 [(0, .ref 41), (1, .int (nI j)), (2, .int (nI p)), (3, .int (nI o)), (4, .int (nI q)), (5, .int (nI m)), (6, .int (nI m))] [] (w.set 62 (aL 60 (mvF mv it (60 * j + p) m)))) : ∀ (n i : Nat), i + n = m → zG Z M_X8_shift d Q w.length 110 [(0, .ref 41), (1, .int (nI j)), (2, .int (nI p)), (3, .int (nI o)), (4, .int (nI q)), (5, .int (nI m)), (6, .int (nI i))] [] (w.set 62 (aL 60 (mvF mv it (60 * j + p) i))) := by
  have l1 := zlt ho
  have l2 := zlt hso
  have l3 := zlt hsz
  have l4 := zlt hit
  have l5 := zlt hmv
  intro n
  induction n with
  | zero =>
    intro i hi
    have hi : i = m := by omega
    subst hi
    refine s_iload dX8_shift_110 rfl ?_
    refine s_iload dX8_shift_112 rfl ?_
    refine s_icmp_ge (tgt := 144) dX8_shift_114 (by decide) (fun hz => ?_) (fun hqz => absurd (nI_le (Nat.le_refl _) (by omega)) hqz)
    clear hz
    exact K
  | succ n ih =>
    intro i hi
    have hm : i < m := by omega
    refine s_iload dX8_shift_110 rfl ?_
    refine s_iload dX8_shift_112 rfl ?_
    refine s_icmp_ge (tgt := 144) dX8_shift_114 (by decide) (fun hqz => absurd hqz (nI_ge hm (by omega))) (fun hz => ?_)
    clear hz
    refine s_aload_n dX8_shift_117 rfl ?_
    refine s_get dX8_shift_118 f_X8_78 (by repeat (first | assumption | refine zg1 ?_ (by decide) | (refine zgs ?_; (try simp only [List.length_set]); assumption))) (by rfl) ?_
    refine s_iload dX8_shift_121 rfl ?_
    refine s_aload_n dX8_shift_123 rfl ?_
    refine s_get dX8_shift_124 f_X8_74 (by repeat (first | assumption | refine zg1 ?_ (by decide) | (refine zgs ?_; (try simp only [List.length_set]); assumption))) (by rfl) ?_
    refine s_bipush (v := 60) dX8_shift_127 rfl ?_
    refine s_iload_n dX8_shift_129 rfl ?_
    refine s_imul dX8_shift_130 ?_
    refine s_iload_n dX8_shift_131 rfl ?_
    refine s_iadd dX8_shift_132 ?_
    rw [z60]
    refine s_iload dX8_shift_133 rfl ?_
    refine s_iadd dX8_shift_135 ?_
    rw [nI_add]
    refine s_lald dX8_shift_136 (by repeat (first | assumption | refine zg1 ?_ (by decide) | (refine zgs ?_; (try simp only [List.length_set]); assumption))) (zrd (n := 360) (by omega) (by decide)) ?_
    rw [nI_clamp (show 60 * j + p + i < 2 ^ 31 by omega)]
    refine s_last dX8_shift_137 (by repeat (first | assumption | refine zg1 ?_ (by decide) | (refine zgs ?_; (try simp only [List.length_set]); assumption))) (zrd (n := 60) (by omega) (by decide)) ?_
    rw [List.set_set, nI_clamp (show i < 2 ^ 31 by omega)]
    refine s_iinc (nI (i + 1)) dX8_shift_138 rfl (nI_1 _) (Nat.le_of_ble_eq_true rfl) rfl ?_
    refine s_goto (tgt := 110) dX8_shift_141 (by decide) ?_
    exact ih (i + 1) (by omega)
set_option maxHeartbeats 4000000 in
set_option maxRecDepth 100000 in
theorem l_sh2 {Z : zS} {d : Nat} {w : zW} {b k : Nat} {mf ma mc ms me mq mu mh mp : Int32} (ho : w[41]? = some (oM (nI b) (nI k) mf ma mc ms me mq mu mh mp)) {so sz : Nat → Int32} {it : Nat → Int64} (hso : w[59]? = some (aI 6 so)) (hsz : w[60]? = some (aI 6 sz)) (hit : w[61]? = some (aL 360 it)) {mv : Nat → Int64} (hmv : w[62]? = some (aL 60 mv)) {j o p q m : Nat} (hj : j < 6) (hto : o < 6) (hp : p + m ≤ 60) (hq : q + m ≤ 60) : ∀ (n i : Nat), i + n = m → zG Z M_X8_shift d (fun r1 w1 => r1 = [.int (nI m)] ∧ w1 = ((w.set 62 (aL 60 (mvF mv it (60 * j + p) m))).set 61 (aL 360 (itF it (mvF mv it (60 * j + p) m) (60 * o + q) m)))) w.length 147 [(0, .ref 41), (1, .int (nI j)), (2, .int (nI p)), (3, .int (nI o)), (4, .int (nI q)), (5, .int (nI m)), (6, .int (nI i))] [] ((w.set 62 (aL 60 (mvF mv it (60 * j + p) m))).set 61 (aL 360 (itF it (mvF mv it (60 * j + p) m) (60 * o + q) i))) := by
  have l1 := zlt ho
  have l2 := zlt hso
  have l3 := zlt hsz
  have l4 := zlt hit
  have l5 := zlt hmv
  intro n
  induction n with
  | zero =>
    intro i hi
    have hi : i = m := by omega
    subst hi
    refine s_iload dX8_shift_147 rfl ?_
    refine s_iload dX8_shift_149 rfl ?_
    refine s_icmp_ge (tgt := 182) dX8_shift_151 (by decide) (fun hz => ?_) (fun hqz => absurd (nI_le (Nat.le_refl _) (by omega)) hqz)
    clear hz
    refine s_iload dX8_shift_182 rfl ?_
    exact s_iret dX8_shift_184 rfl ⟨rfl, rfl⟩ (by first | rfl | (simp only [List.length_set]; rfl))
  | succ n ih =>
    intro i hi
    have hm : i < m := by omega
    refine s_iload dX8_shift_147 rfl ?_
    refine s_iload dX8_shift_149 rfl ?_
    refine s_icmp_ge (tgt := 182) dX8_shift_151 (by decide) (fun hqz => absurd hqz (nI_ge hm (by omega))) (fun hz => ?_)
    clear hz
    refine s_aload_n dX8_shift_154 rfl ?_
    refine s_get dX8_shift_155 f_X8_74 (by repeat (first | assumption | refine zg1 ?_ (by decide) | (refine zgs ?_; (try simp only [List.length_set]); assumption))) (by rfl) ?_
    refine s_bipush (v := 60) dX8_shift_158 rfl ?_
    refine s_iload_n dX8_shift_160 rfl ?_
    refine s_imul dX8_shift_161 ?_
    refine s_iload dX8_shift_162 rfl ?_
    refine s_iadd dX8_shift_164 ?_
    rw [z60]
    refine s_iload dX8_shift_165 rfl ?_
    refine s_iadd dX8_shift_167 ?_
    rw [nI_add]
    refine s_aload_n dX8_shift_168 rfl ?_
    refine s_get dX8_shift_169 f_X8_78 (by repeat (first | assumption | refine zg1 ?_ (by decide) | (refine zgs ?_; (try simp only [List.length_set]); assumption))) (by rfl) ?_
    refine s_iload dX8_shift_172 rfl ?_
    refine s_lald dX8_shift_174 (by repeat (first | assumption | refine zg1 ?_ (by decide) | (refine zgs ?_; (try simp only [List.length_set]); assumption))) (zrd (n := 60) (by omega) (by decide)) ?_
    rw [nI_clamp (show i < 2 ^ 31 by omega)]
    refine s_last dX8_shift_175 (by repeat (first | assumption | refine zg1 ?_ (by decide) | (refine zgs ?_; (try simp only [List.length_set]); assumption))) (zrd (n := 360) (by omega) (by decide)) ?_
    rw [List.set_set, nI_clamp (show 60 * o + q + i < 2 ^ 31 by omega)]
    refine s_iinc (nI (i + 1)) dX8_shift_176 rfl (nI_1 _) (Nat.le_of_ble_eq_true rfl) rfl ?_
    refine s_goto (tgt := 147) dX8_shift_179 (by decide) ?_
    exact ih (i + 1) (by omega)
set_option maxHeartbeats 4000000 in
set_option maxRecDepth 100000 in
theorem y_shift {Z : zS} {d : Nat} {w : zW} {b k : Nat} {mf ma mc ms me mq mu mh mp : Int32} (ho : w[41]? = some (oM (nI b) (nI k) mf ma mc ms me mq mu mh mp)) {so sz : Nat → Int32} {it : Nat → Int64} (hso : w[59]? = some (aI 6 so)) (hsz : w[60]? = some (aI 6 sz)) (hit : w[61]? = some (aL 360 it)) {mv : Nat → Int64} (hmv : w[62]? = some (aL 60 mv)) {j o z1 z2 : Nat} (hj : j < 6) (hto : o < 6) (hz1 : sz j = nI z1) (hz61 : z1 ≤ 60) (hz2 : sz o = nI z2) (hz62 : z2 ≤ 60) {p q m : Nat} {s1 : Int32} (hs1 : so j = s1) (hs2 : so o = s1) (hp : p + m ≤ z1) (hq : q + m ≤ z2) : zF Z M_X8_shift (d + 2) [.ref 41, .int (nI j), .int (nI p), .int (nI o), .int (nI q), .int (nI m)] w [.int (nI m)] ((w.set 62 (aL 60 (mvF mv it (60 * j + p) m))).set 61 (aL 360 (itF it (mvF mv it (60 * j + p) m) (60 * o + q) m))) := by
  show zG Z M_X8_shift (d + 2) _ w.length 0 [(0, .ref 41), (1, .int (nI j)), (2, .int (nI p)), (3, .int (nI o)), (4, .int (nI q)), (5, .int (nI m))] [] w
  have l1 := zlt ho
  have l2 := zlt hso
  have l3 := zlt hsz
  have l4 := zlt hit
  have l5 := zlt hmv
  refine s_iload_n dX8_shift_0 rfl ?_
  refine s_cs1 dX8_shift_1 g_X8_243 (c_X8_isTape) rfl rfl (Nat.le_of_ble_eq_true rfl) (Nat.le_of_ble_eq_true rfl) rfl ?_
  refine s_if_eq (tgt := 14) dX8_shift_4 (by decide) (fun hqz => absurd hqz (miY (n := 5) (by omega) (by decide))) (fun hz => ?_)
  clear hz
  refine s_iload_n dX8_shift_7 rfl ?_
  refine s_cs1 dX8_shift_8 g_X8_243 (c_X8_isTape) rfl rfl (Nat.le_of_ble_eq_true rfl) (Nat.le_of_ble_eq_true rfl) rfl ?_
  refine s_if_ne (tgt := 16) dX8_shift_11 (by decide) (fun hz => ?_) (fun hqz => absurd hqz (miY (n := 5) (by omega) (by decide)))
  clear hz
  refine s_aload_n dX8_shift_16 rfl ?_
  refine s_get dX8_shift_17 f_X8_71 (by repeat (first | assumption | refine zg1 ?_ (by decide) | (refine zgs ?_; (try simp only [List.length_set]); assumption))) (by rfl) ?_
  refine s_iload_n dX8_shift_20 rfl ?_
  refine s_iald dX8_shift_21 (by repeat (first | assumption | refine zg1 ?_ (by decide) | (refine zgs ?_; (try simp only [List.length_set]); assumption))) (zrd (n := 6) hj (by decide)) ?_
  rw [nI_clamp (by omega), hz1]
  refine s_if_lt (tgt := 34) dX8_shift_22 (by decide) (fun hqz => absurd hqz (nI_pos (by omega))) (fun hz => ?_)
  clear hz
  refine s_aload_n dX8_shift_25 rfl ?_
  refine s_get dX8_shift_26 f_X8_71 (by repeat (first | assumption | refine zg1 ?_ (by decide) | (refine zgs ?_; (try simp only [List.length_set]); assumption))) (by rfl) ?_
  refine s_iload_n dX8_shift_29 rfl ?_
  refine s_iald dX8_shift_30 (by repeat (first | assumption | refine zg1 ?_ (by decide) | (refine zgs ?_; (try simp only [List.length_set]); assumption))) (zrd (n := 6) hto (by decide)) ?_
  rw [nI_clamp (by omega), hz2]
  refine s_if_ge (tgt := 37) dX8_shift_31 (by decide) (fun hz => ?_) (fun hqz => absurd (nI_pos' (by omega)) hqz)
  clear hz
  refine s_aload_n dX8_shift_37 rfl ?_
  refine s_get dX8_shift_38 f_X8_68 (by repeat (first | assumption | refine zg1 ?_ (by decide) | (refine zgs ?_; (try simp only [List.length_set]); assumption))) (by rfl) ?_
  refine s_iload_n dX8_shift_41 rfl ?_
  refine s_iald dX8_shift_42 (by repeat (first | assumption | refine zg1 ?_ (by decide) | (refine zgs ?_; (try simp only [List.length_set]); assumption))) (zrd (n := 6) hj (by decide)) ?_
  rw [nI_clamp (by omega), hs1]
  refine s_aload_n dX8_shift_43 rfl ?_
  refine s_get dX8_shift_44 f_X8_68 (by repeat (first | assumption | refine zg1 ?_ (by decide) | (refine zgs ?_; (try simp only [List.length_set]); assumption))) (by rfl) ?_
  refine s_iload_n dX8_shift_47 rfl ?_
  refine s_iald dX8_shift_48 (by repeat (first | assumption | refine zg1 ?_ (by decide) | (refine zgs ?_; (try simp only [List.length_set]); assumption))) (zrd (n := 6) hto (by decide)) ?_
  rw [nI_clamp (by omega), hs2]
  refine s_icmp_eq (tgt := 55) dX8_shift_49 (by decide) (fun hz => ?_) (fun hqz => absurd rfl hqz)
  clear hz
  refine s_iload dX8_shift_55 rfl ?_
  refine s_if_lt (tgt := 104) dX8_shift_57 (by decide) (fun hqz => absurd hqz (nI_pos (by omega))) (fun hz => ?_)
  clear hz
  refine s_iload_n dX8_shift_60 rfl ?_
  refine s_if_lt (tgt := 104) dX8_shift_61 (by decide) (fun hqz => absurd hqz (nI_pos (by omega))) (fun hz => ?_)
  clear hz
  refine s_iload dX8_shift_64 rfl ?_
  refine s_if_lt (tgt := 104) dX8_shift_66 (by decide) (fun hqz => absurd hqz (nI_pos (by omega))) (fun hz => ?_)
  clear hz
  refine s_iload_n dX8_shift_69 rfl ?_
  refine s_i2l dX8_shift_70 rfl ?_
  refine s_iload dX8_shift_71 rfl ?_
  refine s_i2l dX8_shift_73 rfl ?_
  refine s_ladd dX8_shift_74 ?_
  refine s_aload_n dX8_shift_75 rfl ?_
  refine s_get dX8_shift_76 f_X8_71 (by repeat (first | assumption | refine zg1 ?_ (by decide) | (refine zgs ?_; (try simp only [List.length_set]); assumption))) (by rfl) ?_
  refine s_iload_n dX8_shift_79 rfl ?_
  refine s_iald dX8_shift_80 (by repeat (first | assumption | refine zg1 ?_ (by decide) | (refine zgs ?_; (try simp only [List.length_set]); assumption))) (zrd (n := 6) hj (by decide)) ?_
  rw [nI_clamp (by omega), hz1]
  refine s_i2l dX8_shift_81 rfl ?_
  refine s_lcmp dX8_shift_82 ?_
  refine s_if_gt (tgt := 104) dX8_shift_83 (by decide) (fun hqz => absurd hqz (fun h => absurd ((zsum hz61).mp (zcmpG.mp h)) (by rw [nI_toInt (by omega), nI_toInt (by omega)]; omega))) (fun hz => ?_)
  clear hz
  refine s_iload dX8_shift_86 rfl ?_
  refine s_i2l dX8_shift_88 rfl ?_
  refine s_iload dX8_shift_89 rfl ?_
  refine s_i2l dX8_shift_91 rfl ?_
  refine s_ladd dX8_shift_92 ?_
  refine s_aload_n dX8_shift_93 rfl ?_
  refine s_get dX8_shift_94 f_X8_71 (by repeat (first | assumption | refine zg1 ?_ (by decide) | (refine zgs ?_; (try simp only [List.length_set]); assumption))) (by rfl) ?_
  refine s_iload_n dX8_shift_97 rfl ?_
  refine s_iald dX8_shift_98 (by repeat (first | assumption | refine zg1 ?_ (by decide) | (refine zgs ?_; (try simp only [List.length_set]); assumption))) (zrd (n := 6) hto (by decide)) ?_
  rw [nI_clamp (by omega), hz2]
  refine s_i2l dX8_shift_99 rfl ?_
  refine s_lcmp dX8_shift_100 ?_
  refine s_if_le (tgt := 107) dX8_shift_101 (by decide) (fun hz => ?_) (fun hqz => absurd (zcmpL.mpr (fun h => absurd ((zsum hz62).mp h) (by rw [nI_toInt (by omega), nI_toInt (by omega)]; omega))) hqz)
  clear hz
  refine s_iconst (v := 0) dX8_shift_107 rfl ?_
  refine s_istore dX8_shift_108 (Nat.le_of_ble_eq_true rfl) rfl ?_
  rw [show w = w.set 62 (aL 60 (mvF mv it (60 * j + p) 0)) from (zss hmv).symm]
  rw [List.length_set, List.set_set]
  refine l_sh1 ho hso hsz hit hmv hj hto (by omega) (by omega) ?_ m 0 (by omega)
  refine s_iconst (v := 0) dX8_shift_144 rfl ?_
  refine s_istore dX8_shift_145 (Nat.le_of_ble_eq_true rfl) rfl ?_
  have K := l_sh2 (Z := Z) (d := d + 2) ho hso hsz hit hmv hj hto (show p + m ≤ 60 by omega) (show q + m ≤ 60 by omega) m 0 (by omega)
  rw [show itF it (mvF mv it (60 * j + p) m) (60 * o + q) 0 = it from rfl, zss (show (w.set 62 (aL 60 (mvF mv it (60 * j + p) m)))[61]? = some (aL 360 it) from zg1 hit (by decide))] at K
  exact K
