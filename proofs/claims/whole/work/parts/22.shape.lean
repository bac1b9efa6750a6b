/-! ===== the world of the class; shapes measured ===== -/
abbrev zRw : Type := (Nat → Int32) × (Nat → Int32) × Int32
abbrev zHd : Type := Int32 × Int32 × zRw × zRw × zRw
abbrev zSh : Type := Int32 × Int32 × (Nat → Int32) × (Nat → Int32) × (Nat → Int32) × (Nat → Int32)
abbrev zTp : Type := (Nat → Int64) × Int32 × Int32
abbrev zTs : Type := zTp × zTp × zTp × zTp × zTp × zTp
abbrev zTx : Type := (Nat → Int32) × Int32
def zTA : Nat → Option Nat := va_up (va_up (va_up (va_up (va_up (va_up (fun _ => none) 0 (some 29)) 1 (some 31)) 2 (some 33)) 3 (some 35)) 4 (some 37)) 5 (some 39)
def wX (hd th : zHd) (hi : Int32) (tx : zTx) (sh : zSh) (tp : zTs) : zW :=
  [.inr (5, [.ref 1, .ref 11, .int hi, .ref 21, .ref 23, .ref 28]),
   oHD hd.1 hd.2.1 2 5 8,
   oRW 3 4 hd.2.2.1.2.2,
   aI 8 hd.2.2.1.1,
   aI 8 hd.2.2.1.2.1,
   oRW 6 7 hd.2.2.2.1.2.2,
   aI 8 hd.2.2.2.1.1,
   aI 8 hd.2.2.2.1.2.1,
   oRW 9 10 hd.2.2.2.2.2.2,
   aI 8 hd.2.2.2.2.1,
   aI 8 hd.2.2.2.2.2.1,
   oHD th.1 th.2.1 12 15 18,
   oRW 13 14 th.2.2.1.2.2,
   aI 8 th.2.2.1.1,
   aI 8 th.2.2.1.2.1,
   oRW 16 17 th.2.2.2.1.2.2,
   aI 8 th.2.2.2.1.1,
   aI 8 th.2.2.2.1.2.1,
   oRW 19 20 th.2.2.2.2.2.2,
   aI 8 th.2.2.2.2.1,
   aI 8 th.2.2.2.2.2.1,
   oTX 22 tx.2,
   aB 100 tx.1,
   oSH sh.1 sh.2.1 24 25 26 27,
   aI 171 sh.2.2.1,
   aI 171 sh.2.2.2.1,
   aI 256 sh.2.2.2.2.1,
   aI 768 sh.2.2.2.2.2,
   .inl (4, 6, .inr (.inr (.inr (.inr zTA)))),
   oTP 30 tp.1.2.1 tp.1.2.2,
   aL 60 tp.1.1,
   oTP 32 tp.2.1.2.1 tp.2.1.2.2,
   aL 60 tp.2.1.1,
   oTP 34 tp.2.2.1.2.1 tp.2.2.1.2.2,
   aL 60 tp.2.2.1.1,
   oTP 36 tp.2.2.2.1.2.1 tp.2.2.2.1.2.2,
   aL 60 tp.2.2.2.1.1,
   oTP 38 tp.2.2.2.2.1.2.1 tp.2.2.2.2.1.2.2,
   aL 60 tp.2.2.2.2.1.1,
   oTP 40 tp.2.2.2.2.2.2.1 tp.2.2.2.2.2.2.2,
   aL 60 tp.2.2.2.2.2.1]
/-- what a corner weighs by the weights numbered n -/
def zWT (n c : Nat) : Int32 := (nI n / 49 - 3) * (nI c &&& 1) + (nI n / 7 - nI n / 7 / 7 * 7 - 3) * (nI c >>> ((1 : Int32) &&& 31) &&& 1) + (nI n - nI n / 7 * 7 - 3) * (nI c >>> ((2 : Int32) &&& 31) &&& 1)
def pWT (n c : Nat) : Int := ((n / 49 : Nat) - 3 : Int) * ((c % 2 : Nat) : Int) + ((n / 7 % 7 : Nat) - 3 : Int) * ((c / 2 % 2 : Nat) : Int) + ((n % 7 : Nat) - 3 : Int) * ((c / 4 % 2 : Nat) : Int)
theorem q_wt : ∀ n, n < 343 → ∀ c, c < 8 → zWT n c = Int32.ofInt (pWT n c) ∧ -9 ≤ pWT n c ∧ pWT n c ≤ 9 := by decide +kernel
abbrev nZ (z : Int) : Int32 := Int32.ofInt z
def zRng (z : Int) : Prop := -2147483648 ≤ z ∧ z ≤ 2147483647
theorem nZ_lt {a b : Int} (ha : zRng a) (hb : zRng b) : nZ a < nZ b ↔ a < b := by
  unfold zRng at ha hb
  rw [fa_lt, fb_ofI ha.1 (by omega), fb_ofI hb.1 (by omega)]
theorem nZ_le {a b : Int} (ha : zRng a) (hb : zRng b) : nZ a ≤ nZ b ↔ a ≤ b := by
  unfold zRng at ha hb
  rw [fa_le, fb_ofI ha.1 (by omega), fb_ofI hb.1 (by omega)]
theorem nZ_eq {a b : Int} (ha : zRng a) (hb : zRng b) : nZ a = nZ b ↔ a = b := by
  unfold zRng at ha hb
  rw [fa_eq, fb_ofI ha.1 (by omega), fb_ofI hb.1 (by omega)]
def mxL (b n : Nat) : Nat → Int
  | 0 => -2147483648
  | i + 1 => if zb b i = 1 ∧ mxL b n i ≤ pWT n i then pWT n i else mxL b n i
def amL (b n : Nat) : Nat → Nat
  | 0 => 0
  | i + 1 => if zb b i = 1 ∧ mxL b n i ≤ pWT n i then (if mxL b n i < pWT n i then 2 ^ i else amL b n i ||| 2 ^ i) else amL b n i
def mnL (b n : Nat) : Nat → Int
  | 0 => 2147483647
  | i + 1 => if zb b i = 1 ∧ pWT n i ≤ mnL b n i then pWT n i else mnL b n i
def bmL (b n : Nat) : Nat → Nat
  | 0 => 0
  | i + 1 => if zb b i = 1 ∧ pWT n i ≤ mnL b n i then (if pWT n i < mnL b n i then 2 ^ i else bmL b n i ||| 2 ^ i) else bmL b n i
theorem mxL_rng {b n : Nat} (hn : n < 343) : ∀ i, i ≤ 8 → zRng (mxL b n i)
  | 0, _ => by unfold zRng mxL; omega
  | i + 1, hi => by
    have ih := mxL_rng (b := b) hn i (by omega)
    have hw := (q_wt n hn i (by omega)).2
    unfold mxL
    by_cases c : zb b i = 1 ∧ mxL b n i ≤ pWT n i
    · rw [if_pos c]; unfold zRng; omega
    · rw [if_neg c]; exact ih
theorem mnL_rng {b n : Nat} (hn : n < 343) : ∀ i, i ≤ 8 → zRng (mnL b n i)
  | 0, _ => by unfold zRng mnL; omega
  | i + 1, hi => by
    have ih := mnL_rng (b := b) hn i (by omega)
    have hw := (q_wt n hn i (by omega)).2
    unfold mnL
    by_cases c : zb b i = 1 ∧ pWT n i ≤ mnL b n i
    · rw [if_pos c]; unfold zRng; omega
    · rw [if_neg c]; exact ih
theorem amL_lt {b n : Nat} : ∀ i, i ≤ 8 → amL b n i < 256
  | 0, _ => Nat.zero_lt_succ _
  | i + 1, hi => by
    have ih := amL_lt (b := b) (n := n) i (by omega)
    have hp := zp8 i (by omega)
    unfold amL
    exact zite (zite hp (zor8 ih hp)) ih
theorem bmL_lt {b n : Nat} : ∀ i, i ≤ 8 → bmL b n i < 256
  | 0, _ => Nat.zero_lt_succ _
  | i + 1, hi => by
    have ih := bmL_lt (b := b) (n := n) i (by omega)
    have hp := zp8 i (by omega)
    unfold bmL
    exact zite (zite hp (zor8 ih hp)) ih
theorem q_bit : ∀ b, b < 256 → ∀ c, c < 8 → (1 : Int32) <<< (nI c &&& 31) &&& nI b = nI (zb b c * 2 ^ c) := by decide +kernel
theorem zbz {b c : Nat} (hc : c < 8) : nI (zb b c * 2 ^ c) = 0 ↔ ¬ zb b c = 1 := by
  have h := zb_lt b c
  have hp := zp8 c hc
  have h0 : 0 < 2 ^ c := Nat.two_pow_pos c
  rcases (show zb b c = 0 ∨ zb b c = 1 by omega) with e | e
  · rw [e, Nat.zero_mul]; simp [nI_0]
  · rw [e, Nat.one_mul]
    refine ⟨fun z => absurd z (nI_ne0 h0 (by omega)), fun z => absurd rfl z⟩
theorem zb2 {b c : Nat} (h : zb b c = 1) : nI (zb b c * 2 ^ c) = nI (2 ^ c) := by rw [h, Nat.one_mul]
theorem q_47 : nZ 2147483647 = 2147483647 := by decide +kernel
theorem q_33 : nZ (-2147483648) = -2147483648 := by decide +kernel
theorem wXlen {hd th : zHd} {hi : Int32} {tx : zTx} {sh : zSh} {tp : zTs} {R : zW} : (wX hd th hi tx sh tp ++ R).length = R.length + 41 := by
  rw [List.length_append, Nat.add_comm]
  rfl
theorem z255 {a : Nat} (h : a < 256) : nI a &&& 255 = nI a := by
  rw [pk_andN (show a < 2 ^ 32 by omega) 8 (by decide), Nat.mod_eq_of_lt h]
set_option maxHeartbeats 4000000 in
set_option maxRecDepth 100000 in
theorem l_mbB {Z : zS} {d : Nat} {hd th : zHd} {hi : Int32} {tx : zTx} {tp : zTs} {R : zW} {b n i : Nat} {lw : Int32} {mo le it kn : Nat → Int32} (hb : b < 256) (hn : n < 171) (hm : i < 8) {Q : List Value → zW → Prop} : zG Z M_X4_measureBy (d) Q (R.length + 41) 153 [(0, .ref 23), (1, .int (nI n)), (2, .int (nZ (mxL b n (i + 1)))), (3, .int (nZ (mnL b n (i + 1)))), (4, .int (nI (amL b n (i + 1)))), (5, .int (nI (bmL b n (i + 1)))), (6, .int (nI i))] [] (wX hd th hi tx (nI b, lw, mo, le, it, kn) tp ++ R) → zG Z M_X4_measureBy (d) Q (R.length + 41) 121 [(0, .ref 23), (1, .int (nI n)), (2, .int (nZ (mxL b n (i + 1)))), (3, .int (nZ (mnL b n i))), (4, .int (nI (amL b n (i + 1)))), (5, .int (nI (bmL b n i))), (6, .int (nI i)), (7, .int (nI (zb b i * 2 ^ i))), (8, .int (nZ (pWT n i)))] [] (wX hd th hi tx (nI b, lw, mo, le, it, kn) tp ++ R) := by
  intro K
  have hw := q_wt n (by omega) i hm
  have hx := mxL_rng (b := b) (show n < 343 by omega) i (by omega)
  have hy := mnL_rng (b := b) (show n < 343 by omega) i (by omega)
  have hr : zRng (pWT n i) := by unfold zRng; omega
  refine s_iload dX4_measureBy_121 rfl ?_
  refine s_if_eq (tgt := 153) dX4_measureBy_123 (by decide) (fun h_123 => ?_) (fun h_123 => ?_)
  · have hz : ¬ zb b i = 1 := (zbz hm).mp h_123
    rw [show mnL b n (i + 1) = mnL b n i from by rw [mnL, if_neg (fun z => hz z.1)], show bmL b n (i + 1) = bmL b n i from by rw [bmL, if_neg (fun z => hz z.1)]] at K
    exact s_take 7 K
  · refine s_iload dX4_measureBy_126 rfl ?_
    refine s_iload_n dX4_measureBy_128 rfl ?_
    refine s_icmp_gt (tgt := 153) dX4_measureBy_129 (by decide) (fun h_129 => ?_) (fun h_129 => ?_)
    · have hz : zb b i = 1 := Classical.byContradiction (fun z => h_123 ((zbz hm).mpr z))
      have hq : ¬ pWT n i ≤ mnL b n i := fun z => absurd ((nZ_lt hy hr).mp h_129) (by omega)
      rw [show mnL b n (i + 1) = mnL b n i from by rw [mnL, if_neg (fun z => hq z.2)], show bmL b n (i + 1) = bmL b n i from by rw [bmL, if_neg (fun z => hq z.2)]] at K
      exact s_take 7 K
    · refine s_iload dX4_measureBy_132 rfl ?_
      refine s_iload_n dX4_measureBy_134 rfl ?_
      refine s_icmp_ge (tgt := 143) dX4_measureBy_135 (by decide) (fun h_135 => ?_) (fun h_135 => ?_)
      · refine s_iload dX4_measureBy_143 rfl ?_
        refine s_iload dX4_measureBy_145 rfl ?_
        refine s_ior dX4_measureBy_147 ?_
        refine s_istore dX4_measureBy_148 (Nat.le_of_ble_eq_true rfl) rfl ?_
        refine s_iload dX4_measureBy_150 rfl ?_
        refine s_istore_n dX4_measureBy_152 (Nat.le_of_ble_eq_true rfl) rfl ?_
        have hz : zb b i = 1 := Classical.byContradiction (fun z => h_123 ((zbz hm).mpr z))
        have hq : pWT n i ≤ mnL b n i := Classical.byContradiction (fun z => h_129 ((nZ_lt hy hr).mpr (by omega)))
        rw [show mnL b n (i + 1) = pWT n i from by rw [mnL, if_pos ⟨hz, hq⟩]] at K
        first
          | (have hs : ¬ pWT n i < mnL b n i := fun z => absurd ((nZ_le hy hr).mp h_135) (by omega)
             rw [show bmL b n (i + 1) = bmL b n i ||| 2 ^ i from by rw [bmL, if_pos ⟨hz, hq⟩, if_neg hs]] at K
             rw [zb2 hz, fa_or]
             exact s_take 7 K)
          | (have hs : pWT n i < mnL b n i := Classical.byContradiction (fun z => h_135 ((nZ_le hy hr).mpr (by omega)))
             rw [show bmL b n (i + 1) = 2 ^ i from by rw [bmL, if_pos ⟨hz, hq⟩, if_pos hs]] at K
             rw [zb2 hz]
             exact s_take 7 K)
      · refine s_iload dX4_measureBy_138 rfl ?_
        refine s_goto (tgt := 148) dX4_measureBy_140 (by decide) ?_
        refine s_istore dX4_measureBy_148 (Nat.le_of_ble_eq_true rfl) rfl ?_
        refine s_iload dX4_measureBy_150 rfl ?_
        refine s_istore_n dX4_measureBy_152 (Nat.le_of_ble_eq_true rfl) rfl ?_
        have hz : zb b i = 1 := Classical.byContradiction (fun z => h_123 ((zbz hm).mpr z))
        have hq : pWT n i ≤ mnL b n i := Classical.byContradiction (fun z => h_129 ((nZ_lt hy hr).mpr (by omega)))
        rw [show mnL b n (i + 1) = pWT n i from by rw [mnL, if_pos ⟨hz, hq⟩]] at K
        first
          | (have hs : ¬ pWT n i < mnL b n i := fun z => absurd ((nZ_le hy hr).mp h_135) (by omega)
             rw [show bmL b n (i + 1) = bmL b n i ||| 2 ^ i from by rw [bmL, if_pos ⟨hz, hq⟩, if_neg hs]] at K
             rw [zb2 hz, fa_or]
             exact s_take 7 K)
          | (have hs : pWT n i < mnL b n i := Classical.byContradiction (fun z => h_135 ((nZ_le hy hr).mpr (by omega)))
             rw [show bmL b n (i + 1) = 2 ^ i from by rw [bmL, if_pos ⟨hz, hq⟩, if_pos hs]] at K
             rw [zb2 hz]
             exact s_take 7 K)
set_option maxHeartbeats 4000000 in
set_option maxRecDepth 100000 in
theorem l_mbA {Z : zS} {d : Nat} {hd th : zHd} {hi : Int32} {tx : zTx} {tp : zTs} {R : zW} {b n i : Nat} {lw : Int32} {mo le it kn : Nat → Int32} (hb : b < 256) (hn : n < 171) (hm : i < 8) {Q : List Value → zW → Prop} : zG Z M_X4_measureBy (d) Q (R.length + 41) 121 [(0, .ref 23), (1, .int (nI n)), (2, .int (nZ (mxL b n (i + 1)))), (3, .int (nZ (mnL b n i))), (4, .int (nI (amL b n (i + 1)))), (5, .int (nI (bmL b n i))), (6, .int (nI i)), (7, .int (nI (zb b i * 2 ^ i))), (8, .int (nZ (pWT n i)))] [] (wX hd th hi tx (nI b, lw, mo, le, it, kn) tp ++ R) → zG Z M_X4_measureBy (d) Q (R.length + 41) 27 [(0, .ref 23), (1, .int (nI n)), (2, .int (nZ (mxL b n i))), (3, .int (nZ (mnL b n i))), (4, .int (nI (amL b n i))), (5, .int (nI (bmL b n i))), (6, .int (nI i))] [] (wX hd th hi tx (nI b, lw, mo, le, it, kn) tp ++ R) := by
  intro K
  have hw := q_wt n (by omega) i hm
  have hx := mxL_rng (b := b) (show n < 343 by omega) i (by omega)
  have hy := mnL_rng (b := b) (show n < 343 by omega) i (by omega)
  have hr : zRng (pWT n i) := by unfold zRng; omega
  have hw1 := hw.1
  unfold zWT at hw1
  refine s_iload dX4_measureBy_27 rfl ?_
  refine s_bipush (v := 8) dX4_measureBy_29 rfl ?_
  refine s_icmp_ge (tgt := 159) dX4_measureBy_31 (by decide) (fun h => absurd h (nI_ge hm (by decide))) (fun hz => ?_)
  clear hz
  refine s_iconst (v := 1) dX4_measureBy_34 rfl ?_
  refine s_iload dX4_measureBy_35 rfl ?_
  refine s_ishl dX4_measureBy_37 ?_
  refine s_aload_n dX4_measureBy_38 rfl ?_
  refine s_get dX4_measureBy_39 f_X4_9 (by rfl) (by rfl) ?_
  refine s_iand dX4_measureBy_42 ?_
  rw [q_bit b hb i hm]
  refine s_istore dX4_measureBy_43 (Nat.le_of_ble_eq_true rfl) rfl ?_
  refine s_iload_n dX4_measureBy_45 rfl ?_
  refine s_bipush (v := 49) dX4_measureBy_46 rfl ?_
  refine s_idiv dX4_measureBy_48 (by decide) ?_
  refine s_iconst (v := 3) dX4_measureBy_49 rfl ?_
  refine s_isub dX4_measureBy_50 ?_
  refine s_iload dX4_measureBy_51 rfl ?_
  refine s_iconst (v := 1) dX4_measureBy_53 rfl ?_
  refine s_iand dX4_measureBy_54 ?_
  refine s_imul dX4_measureBy_55 ?_
  refine s_iload_n dX4_measureBy_56 rfl ?_
  refine s_bipush (v := 7) dX4_measureBy_57 rfl ?_
  refine s_idiv dX4_measureBy_59 (by decide) ?_
  refine s_bipush (v := 7) dX4_measureBy_60 rfl ?_
  refine s_irem dX4_measureBy_62 (by decide) ?_
  refine s_iconst (v := 3) dX4_measureBy_63 rfl ?_
  refine s_isub dX4_measureBy_64 ?_
  refine s_iload dX4_measureBy_65 rfl ?_
  refine s_iconst (v := 1) dX4_measureBy_67 rfl ?_
  refine s_ishr dX4_measureBy_68 ?_
  refine s_iconst (v := 1) dX4_measureBy_69 rfl ?_
  refine s_iand dX4_measureBy_70 ?_
  refine s_imul dX4_measureBy_71 ?_
  refine s_iadd dX4_measureBy_72 ?_
  refine s_iload_n dX4_measureBy_73 rfl ?_
  refine s_bipush (v := 7) dX4_measureBy_74 rfl ?_
  refine s_irem dX4_measureBy_76 (by decide) ?_
  refine s_iconst (v := 3) dX4_measureBy_77 rfl ?_
  refine s_isub dX4_measureBy_78 ?_
  refine s_iload dX4_measureBy_79 rfl ?_
  refine s_iconst (v := 2) dX4_measureBy_81 rfl ?_
  refine s_ishr dX4_measureBy_82 ?_
  refine s_iconst (v := 1) dX4_measureBy_83 rfl ?_
  refine s_iand dX4_measureBy_84 ?_
  refine s_imul dX4_measureBy_85 ?_
  refine s_iadd dX4_measureBy_86 ?_
  rw [hw1]
  refine s_istore dX4_measureBy_87 (Nat.le_of_ble_eq_true rfl) rfl ?_
  refine s_iload dX4_measureBy_89 rfl ?_
  refine s_if_eq (tgt := 121) dX4_measureBy_91 (by decide) (fun h_91 => ?_) (fun h_91 => ?_)
  · have hz : ¬ zb b i = 1 := (zbz hm).mp h_91
    rw [show mxL b n (i + 1) = mxL b n i from by rw [mxL, if_neg (fun z => hz z.1)], show amL b n (i + 1) = amL b n i from by rw [amL, if_neg (fun z => hz z.1)]] at K
    exact K
  · refine s_iload dX4_measureBy_94 rfl ?_
    refine s_iload_n dX4_measureBy_96 rfl ?_
    refine s_icmp_lt (tgt := 121) dX4_measureBy_97 (by decide) (fun h_97 => ?_) (fun h_97 => ?_)
    · have hz : zb b i = 1 := Classical.byContradiction (fun z => h_91 ((zbz hm).mpr z))
      have hq : ¬ mxL b n i ≤ pWT n i := fun z => absurd ((nZ_lt hr hx).mp h_97) (by omega)
      rw [show mxL b n (i + 1) = mxL b n i from by rw [mxL, if_neg (fun z => hq z.2)], show amL b n (i + 1) = amL b n i from by rw [amL, if_neg (fun z => hq z.2)]] at K
      exact K
    · refine s_iload dX4_measureBy_100 rfl ?_
      refine s_iload_n dX4_measureBy_102 rfl ?_
      refine s_icmp_le (tgt := 111) dX4_measureBy_103 (by decide) (fun h_103 => ?_) (fun h_103 => ?_)
      · refine s_iload dX4_measureBy_111 rfl ?_
        refine s_iload dX4_measureBy_113 rfl ?_
        refine s_ior dX4_measureBy_115 ?_
        refine s_istore dX4_measureBy_116 (Nat.le_of_ble_eq_true rfl) rfl ?_
        refine s_iload dX4_measureBy_118 rfl ?_
        refine s_istore_n dX4_measureBy_120 (Nat.le_of_ble_eq_true rfl) rfl ?_
        have hz : zb b i = 1 := Classical.byContradiction (fun z => h_91 ((zbz hm).mpr z))
        have hq : mxL b n i ≤ pWT n i := Classical.byContradiction (fun z => h_97 ((nZ_lt hr hx).mpr (by omega)))
        rw [show mxL b n (i + 1) = pWT n i from by rw [mxL, if_pos ⟨hz, hq⟩]] at K
        first
          | (have hs : ¬ mxL b n i < pWT n i := fun z => absurd ((nZ_le hr hx).mp h_103) (by omega)
             rw [show amL b n (i + 1) = amL b n i ||| 2 ^ i from by rw [amL, if_pos ⟨hz, hq⟩, if_neg hs], ← fa_or, ← zb2 hz] at K
             exact K)
          | (have hs : mxL b n i < pWT n i := Classical.byContradiction (fun z => h_103 ((nZ_le hr hx).mpr (by omega)))
             rw [show amL b n (i + 1) = 2 ^ i from by rw [amL, if_pos ⟨hz, hq⟩, if_pos hs], ← zb2 hz] at K
             exact K)
      · refine s_iload dX4_measureBy_106 rfl ?_
        refine s_goto (tgt := 116) dX4_measureBy_108 (by decide) ?_
        refine s_istore dX4_measureBy_116 (Nat.le_of_ble_eq_true rfl) rfl ?_
        refine s_iload dX4_measureBy_118 rfl ?_
        refine s_istore_n dX4_measureBy_120 (Nat.le_of_ble_eq_true rfl) rfl ?_
        have hz : zb b i = 1 := Classical.byContradiction (fun z => h_91 ((zbz hm).mpr z))
        have hq : mxL b n i ≤ pWT n i := Classical.byContradiction (fun z => h_97 ((nZ_lt hr hx).mpr (by omega)))
        rw [show mxL b n (i + 1) = pWT n i from by rw [mxL, if_pos ⟨hz, hq⟩]] at K
        first
          | (have hs : ¬ mxL b n i < pWT n i := fun z => absurd ((nZ_le hr hx).mp h_103) (by omega)
             rw [show amL b n (i + 1) = amL b n i ||| 2 ^ i from by rw [amL, if_pos ⟨hz, hq⟩, if_neg hs], ← fa_or, ← zb2 hz] at K
             exact K)
          | (have hs : mxL b n i < pWT n i := Classical.byContradiction (fun z => h_103 ((nZ_le hr hx).mpr (by omega)))
             rw [show amL b n (i + 1) = 2 ^ i from by rw [amL, if_pos ⟨hz, hq⟩, if_pos hs], ← zb2 hz] at K
             exact K)
set_option maxHeartbeats 4000000 in
set_option maxRecDepth 100000 in
theorem l_mb {Z : zS} {d : Nat} {hd th : zHd} {hi : Int32} {tx : zTx} {tp : zTs} {R : zW} {b n : Nat} {lw : Int32} {mo le it kn : Nat → Int32} (hb : b < 256) (hn : n < 171) : ∀ (k i : Nat), i + k = 8 → zG Z M_X4_measureBy (d) (fun r1 w1 => r1 = [] ∧ w1 = (wX hd th hi tx (nI b, lw, upd mo n (nZ (mxL b n 8)), upd le n (nZ (mnL b n 8)), upd (upd it (amL b n 8) 1) (bmL b n 8) 1, kn) tp ++ R)) (R.length + 41) 27 [(0, .ref 23), (1, .int (nI n)), (2, .int (nZ (mxL b n i))), (3, .int (nZ (mnL b n i))), (4, .int (nI (amL b n i))), (5, .int (nI (bmL b n i))), (6, .int (nI i))] [] (wX hd th hi tx (nI b, lw, mo, le, it, kn) tp ++ R) := by
  intro k
  induction k with
  | zero =>
    intro i hi
    have hi : i = 8 := by omega
    subst hi
    have hc : (nI n).toNatClampNeg = n := nI_clamp (by omega)
    have ht : amL b n 8 < 256 := amL_lt 8 (Nat.le_refl _)
    have hu : bmL b n 8 < 256 := bmL_lt 8 (Nat.le_refl _)
    refine s_iload dX4_measureBy_27 rfl ?_
    refine s_bipush (v := 8) dX4_measureBy_29 rfl ?_
    refine s_icmp_ge (tgt := 159) dX4_measureBy_31 (by decide) (fun hz => ?_) (fun h => absurd (by decide) h)
    clear hz
    refine s_aload_n dX4_measureBy_159 rfl ?_
    refine s_get dX4_measureBy_160 f_X4_18 (by rfl) (by rfl) ?_
    refine s_iload_n dX4_measureBy_163 rfl ?_
    refine s_iload_n dX4_measureBy_164 rfl ?_
    refine s_iast dX4_measureBy_165 (by rfl) (zrd (n := 171) hn (by decide)) ?_
    refine s_aload_n dX4_measureBy_166 rfl ?_
    refine s_get dX4_measureBy_167 f_X4_22 (by rfl) (by rfl) ?_
    refine s_iload_n dX4_measureBy_170 rfl ?_
    refine s_iload_n dX4_measureBy_171 rfl ?_
    refine s_iast dX4_measureBy_172 (by rfl) (zrd (n := 171) hn (by decide)) ?_
    refine s_aload_n dX4_measureBy_173 rfl ?_
    refine s_get dX4_measureBy_174 f_X4_25 (by rfl) (by rfl) ?_
    refine s_iload dX4_measureBy_177 rfl ?_
    refine s_sipush (v := 255) dX4_measureBy_179 rfl ?_
    refine s_iand dX4_measureBy_182 ?_
    rw [z255 ht]
    refine s_iconst (v := 1) dX4_measureBy_183 rfl ?_
    refine s_iast dX4_measureBy_184 (by rfl) (zrd (n := 256) ht (by decide)) ?_
    refine s_aload_n dX4_measureBy_185 rfl ?_
    refine s_get dX4_measureBy_186 f_X4_25 (by rfl) (by rfl) ?_
    refine s_iload dX4_measureBy_189 rfl ?_
    refine s_sipush (v := 255) dX4_measureBy_191 rfl ?_
    refine s_iand dX4_measureBy_194 ?_
    rw [z255 hu]
    refine s_iconst (v := 1) dX4_measureBy_195 rfl ?_
    refine s_iast dX4_measureBy_196 (by rfl) (zrd (n := 256) hu (by decide)) ?_
    exact s_vret dX4_measureBy_197 rfl ⟨rfl, by rw [hc, nI_clamp (show amL b n 8 < 2 ^ 31 by omega), nI_clamp (show bmL b n 8 < 2 ^ 31 by omega)]; rfl⟩ (by first | exact wXlen | rfl)
  | succ k ih =>
    intro i hi
    refine l_mbA hb hn (by omega) (l_mbB hb hn (by omega) ?_)
    refine s_iinc (nI (i + 1)) dX4_measureBy_153 rfl (nI_1 _) (Nat.le_of_ble_eq_true rfl) rfl ?_
    refine s_goto (tgt := 27) dX4_measureBy_156 (by decide) ?_
    exact ih (i + 1) (by omega)
set_option maxHeartbeats 4000000 in
set_option maxRecDepth 100000 in
theorem c_X4_measureBy {Z : zS} {d : Nat} {hd th : zHd} {hi : Int32} {tx : zTx} {tp : zTs} {R : zW} {b n : Nat} {lw : Int32} {mo le it kn : Nat → Int32} (hb : b < 256) (hn : n < 171) : zF Z M_X4_measureBy (d) [.ref 23, .int (nI n)] (wX hd th hi tx (nI b, lw, mo, le, it, kn) tp ++ R) [] (wX hd th hi tx (nI b, lw, upd mo n (nZ (mxL b n 8)), upd le n (nZ (mnL b n 8)), upd (upd it (amL b n 8) 1) (bmL b n 8) 1, kn) tp ++ R) := by
  unfold zF
  rw [wXlen]
  show zG Z M_X4_measureBy (d) _ (R.length + 41) 0 [(0, .ref 23), (1, .int (nI n))] [] (wX hd th hi tx (nI b, lw, mo, le, it, kn) tp ++ R)
  refine s_iload_n dX4_measureBy_0 rfl ?_
  refine s_if_lt (tgt := 11) dX4_measureBy_1 (by decide) (fun h => absurd h (nI_pos (by omega))) (fun hz => ?_)
  clear hz
  refine s_iload_n dX4_measureBy_4 rfl ?_
  refine s_sipush (v := 171) dX4_measureBy_5 rfl ?_
  refine s_icmp_lt (tgt := 12) dX4_measureBy_8 (by decide) (fun hz => ?_) (fun h => absurd (nI_lt hn (by decide)) h)
  clear hz
  refine s_ldc (v := (-2147483648)) dX4_measureBy_12 (zin 353 (by decide +kernel) (by decide +kernel)) ?_
  refine s_istore_n dX4_measureBy_14 (Nat.le_of_ble_eq_true rfl) rfl ?_
  refine s_ldc (v := (2147483647)) dX4_measureBy_15 (zin 348 (by decide +kernel) (by decide +kernel)) ?_
  refine s_istore_n dX4_measureBy_17 (Nat.le_of_ble_eq_true rfl) rfl ?_
  refine s_iconst (v := 0) dX4_measureBy_18 rfl ?_
  refine s_istore dX4_measureBy_19 (Nat.le_of_ble_eq_true rfl) rfl ?_
  refine s_iconst (v := 0) dX4_measureBy_21 rfl ?_
  refine s_istore dX4_measureBy_22 (Nat.le_of_ble_eq_true rfl) rfl ?_
  refine s_iconst (v := 0) dX4_measureBy_24 rfl ?_
  refine s_istore dX4_measureBy_25 (Nat.le_of_ble_eq_true rfl) rfl ?_
  have K := l_mb (Z := Z) (d := d) (hd := hd) (th := th) (hi := hi) (tx := tx) (tp := tp) (R := R) (lw := lw) (mo := mo) (le := le) (it := it) (kn := kn) hb hn 8 0 rfl
  rw [show mxL b n 0 = -2147483648 from rfl, show mnL b n 0 = 2147483647 from rfl, q_33, q_47] at K
  exact K
