/-! ===== shapes: faces, edges, points ===== -/
def kTP (b c : Nat) : Bool := decide (kIT b c = 1)
def kFC (b c : Nat) : Bool := kTP b c && (!decide (c = b) && decide (3 ≤ pPOP c))
theorem zB0 {x : Bool} (h : (if x = true then (1 : Int32) else 0) = 0) : x = false := by
  cases x with
  | true => exact absurd h (by decide)
  | false => rfl
theorem zB1 {x : Bool} (h : ¬ (if x = true then (1 : Int32) else 0) = 0) : x = true := by
  cases x with
  | true => rfl
  | false => exact absurd (by decide) h
def KN (f : Nat → Int32) (P : Nat → Nat → Nat) : Prop := ∀ b, b < 256 → b ≠ 0 → ∀ m, 1 ≤ m → m ≤ 3 → f (b * 3 + m - 1) = 0 ∨ f (b * 3 + m - 1) = nI (P b m)
set_option maxHeartbeats 4000000 in
set_option maxRecDepth 100000 in
theorem c_X4_isMeasuredTop {Z : zS} {d : Nat} {hd th : zHd} {hi : Int32} {tx : zTx} {tp : zTs} {R : zW} {b : Nat} {sh : zSh} (hS : SHM b sh) {c : Nat} (hc : c < 256) : zF Z M_X4_isMeasuredTop (d) [.ref 23, .int (nI c)] (wX hd th hi tx sh tp ++ R) [.int (if kTP b c = true then 1 else 0)] (wX hd th hi tx sh tp ++ R) := by
  unfold zF
  rw [wXlen]
  show zG Z M_X4_isMeasuredTop (d) _ (R.length + 41) 0 [(0, .ref 23), (1, .int (nI c))] [] (wX hd th hi tx sh tp ++ R)
  have hv : sh.2.2.2.2.1 (nI c).toNatClampNeg = kIT b c := by rw [nI_clamp (by omega)]; exact hS.2.2.2 c hc
  refine s_iload_n dX4_isMeasuredTop_0 rfl ?_
  refine s_if_lt (tgt := 25) dX4_isMeasuredTop_1 (by decide) (fun h => absurd h (nI_pos (by omega))) (fun hz => ?_)
  clear hz
  refine s_iload_n dX4_isMeasuredTop_4 rfl ?_
  refine s_sipush (v := 256) dX4_isMeasuredTop_5 rfl ?_
  refine s_icmp_ge (tgt := 25) dX4_isMeasuredTop_8 (by decide) (fun h => absurd h (nI_ge hc (by decide))) (fun hz => ?_)
  clear hz
  refine s_aload_n dX4_isMeasuredTop_11 rfl ?_
  refine s_get dX4_isMeasuredTop_12 f_X4_25 (by rfl) (by rfl) ?_
  refine s_iload_n dX4_isMeasuredTop_15 rfl ?_
  refine s_iald dX4_isMeasuredTop_16 (by rfl) (zrd (n := 256) hc (by decide)) ?_
  rw [hv]
  refine s_iconst (v := 1) dX4_isMeasuredTop_17 rfl ?_
  refine s_icmp_ne (tgt := 25) dX4_isMeasuredTop_18 (by decide) (fun h_18 => ?_) (fun h_18 => ?_)
  · refine s_iconst (v := 0) dX4_isMeasuredTop_25 rfl ?_
    exact s_zret dX4_isMeasuredTop_26 rfl (by first | exact Or.inl rfl | exact Or.inr rfl) ⟨by first | (rw [kTP, decide_eq_true h_18]; rfl) | (rw [kTP, decide_eq_false h_18]; rfl), rfl⟩ (by first | exact wXlen | rfl)
  · refine s_iconst (v := 1) dX4_isMeasuredTop_21 rfl ?_
    refine s_goto (tgt := 26) dX4_isMeasuredTop_22 (by decide) ?_
    exact s_zret dX4_isMeasuredTop_26 rfl (by first | exact Or.inl rfl | exact Or.inr rfl) ⟨by first | (rw [kTP, decide_eq_true h_18]; rfl) | (rw [kTP, decide_eq_false h_18]; rfl), rfl⟩ (by first | exact wXlen | rfl)
theorem zlt3 {a : Nat} (ha : a < 2 ^ 31) : nI a < 3 ↔ a < 3 := nI_ltI (b := 3) ha (by decide)
theorem pPOP31 (c : Nat) : pPOP c < 2 ^ 31 := Nat.lt_of_le_of_lt (pPOP_le c) (by decide)
set_option maxHeartbeats 4000000 in
set_option maxRecDepth 100000 in
theorem c_X4_isMeasuredFace {Z : zS} {d : Nat} {hd th : zHd} {hi : Int32} {tx : zTx} {tp : zTs} {R : zW} {b : Nat} {sh : zSh} (hS : SHM b sh) (hb : b < 256) {c : Nat} (hc : c < 256) : zF Z M_X4_isMeasuredFace (d + 1) [.ref 23, .int (nI c)] (wX hd th hi tx sh tp ++ R) [.int (if kFC b c = true then 1 else 0)] (wX hd th hi tx sh tp ++ R) := by
  unfold zF
  rw [wXlen]
  show zG Z M_X4_isMeasuredFace (d + 1) _ (R.length + 41) 0 [(0, .ref 23), (1, .int (nI c))] [] (wX hd th hi tx sh tp ++ R)
  refine s_aload_n dX4_isMeasuredFace_0 rfl ?_
  refine s_iload_n dX4_isMeasuredFace_1 rfl ?_
  refine s_cv1 dX4_isMeasuredFace_2 g_X4_58 (c_X4_isMeasuredTop hS hc) (by rfl) rfl rfl rfl rfl (Nat.le_of_ble_eq_true rfl) (Nat.le_of_ble_eq_true rfl) rfl ?_
  refine s_if_eq (tgt := 28) dX4_isMeasuredFace_5 (by decide) (fun h_5 => ?_) (fun h_5 => ?_)
  · refine s_iconst (v := 0) dX4_isMeasuredFace_28 rfl ?_
    exact s_zret dX4_isMeasuredFace_29 rfl (by first | exact Or.inl rfl | exact Or.inr rfl) ⟨by rw [kFC, zB0 h_5]; rfl, rfl⟩ (by first | exact wXlen | rfl)
  · refine s_iload_n dX4_isMeasuredFace_8 rfl ?_
    refine s_aload_n dX4_isMeasuredFace_9 rfl ?_
    refine s_get dX4_isMeasuredFace_10 f_X4_9 (by rfl) (by rfl) ?_
    rw [hS.1]
    refine s_icmp_eq (tgt := 28) dX4_isMeasuredFace_13 (by decide) (fun h_13 => ?_) (fun h_13 => ?_)
    · refine s_iconst (v := 0) dX4_isMeasuredFace_28 rfl ?_
      exact s_zret dX4_isMeasuredFace_29 rfl (by first | exact Or.inl rfl | exact Or.inr rfl) ⟨by rw [kFC, decide_eq_true ((nI_eq (by omega) (by omega)).mp h_13), Bool.not_true, Bool.false_and, Bool.and_false]; rfl, rfl⟩ (by first | exact wXlen | rfl)
    · refine s_iload_n dX4_isMeasuredFace_16 rfl ?_
      refine s_cs1 dX4_isMeasuredFace_17 g_X4_62 (c_bcN hc) rfl rfl (Nat.le_of_ble_eq_true rfl) (Nat.le_of_ble_eq_true rfl) rfl ?_
      refine s_iconst (v := 3) dX4_isMeasuredFace_20 rfl ?_
      refine s_icmp_lt (tgt := 28) dX4_isMeasuredFace_21 (by decide) (fun h_21 => ?_) (fun h_21 => ?_)
      · refine s_iconst (v := 0) dX4_isMeasuredFace_28 rfl ?_
        exact s_zret dX4_isMeasuredFace_29 rfl (by first | exact Or.inl rfl | exact Or.inr rfl) ⟨by first | (rw [kFC, decide_eq_false (show ¬ 3 ≤ pPOP c from fun z => absurd ((zlt3 (pPOP31 c)).mp h_21) (by omega)), Bool.and_false, Bool.and_false]; rfl) | (rw [kFC, zB1 h_5, decide_eq_false (show ¬ c = b from fun z => h_13 (by rw [z])), decide_eq_true (show 3 ≤ pPOP c from Nat.not_lt.mp (fun z => h_21 ((zlt3 (pPOP31 c)).mpr z)))]; rfl), rfl⟩ (by first | exact wXlen | rfl)
      · refine s_iconst (v := 1) dX4_isMeasuredFace_24 rfl ?_
        refine s_goto (tgt := 29) dX4_isMeasuredFace_25 (by decide) ?_
        exact s_zret dX4_isMeasuredFace_29 rfl (by first | exact Or.inl rfl | exact Or.inr rfl) ⟨by first | (rw [kFC, decide_eq_false (show ¬ 3 ≤ pPOP c from fun z => absurd ((zlt3 (pPOP31 c)).mp h_21) (by omega)), Bool.and_false, Bool.and_false]; rfl) | (rw [kFC, zB1 h_5, decide_eq_false (show ¬ c = b from fun z => h_13 (by rw [z])), decide_eq_true (show 3 ≤ pPOP c from Nat.not_lt.mp (fun z => h_21 ((zlt3 (pPOP31 c)).mpr z)))]; rfl), rfl⟩ (by first | exact wXlen | rfl)
def kEL (b : Nat) : Nat → Nat → Nat → Nat
  | 0, _, a => a
  | n + 1, c, a => kEL b n (c + 1) (if kTP b c = true ∧ pPOP c = 2 then a + 1 else a)
def kFL (b : Nat) : Nat → Nat → Nat → Nat
  | 0, _, a => a
  | n + 1, c, a => kFL b n (c + 1) (if kFC b c = true then a + 1 else a)
def kFA (b : Nat) (i : Int32) : Nat → Nat → Nat → Int32
  | 0, _, _ => -5
  | n + 1, c, a => if kFC b c = true then (if nI a = i then nI c else kFA b i n (c + 1) (a + 1)) else kFA b i n (c + 1) a
theorem zeq2 {a : Nat} (ha : a < 2 ^ 31) : nI a = 2 ↔ a = 2 := nI_eq (b := 2) ha (by decide)
set_option maxHeartbeats 4000000 in
set_option maxRecDepth 100000 in
theorem l_edge {Z : zS} {d : Nat} {hd th : zHd} {hi : Int32} {tx : zTx} {tp : zTs} {R : zW} {b : Nat} {sh : zSh} (hS : SHM b sh) : ∀ (n : Nat) (c a : Nat), c + n = 256 → zG Z M_X4_edgeCount (d + 2) (fun r1 w1 => r1 = [.int (nI (kEL b n c a))] ∧ w1 = (wX hd th hi tx sh tp ++ R)) (R.length + 41) 9 [(0, .ref 23), (1, .int (nI b)), (2, .int (nI a)), (3, .int (nI c))] [] (wX hd th hi tx sh tp ++ R) := by
  intro n
  induction n with
  | zero =>
    intro c a hi
    have hi : c = 256 := by omega
    subst hi
    refine s_iload_n dX4_edgeCount_9 rfl ?_
    refine s_sipush (v := 256) dX4_edgeCount_10 rfl ?_
    refine s_icmp_ge (tgt := 41) dX4_edgeCount_13 (by decide) (fun hz => ?_) (fun h => absurd (by decide) h)
    clear hz
    refine s_iload_n dX4_edgeCount_41 rfl ?_
    exact s_iret dX4_edgeCount_42 rfl ⟨rfl, rfl⟩ (by first | exact wXlen | rfl)
  | succ n ih =>
    intro c a hi
    have hm : c < 256 := by omega
    refine s_iload_n dX4_edgeCount_9 rfl ?_
    refine s_sipush (v := 256) dX4_edgeCount_10 rfl ?_
    refine s_icmp_ge (tgt := 41) dX4_edgeCount_13 (by decide) (fun h => absurd h (nI_ge hm (by decide))) (fun hz => ?_)
    clear hz
    refine s_aload_n dX4_edgeCount_16 rfl ?_
    refine s_iload_n dX4_edgeCount_17 rfl ?_
    refine s_cv1 dX4_edgeCount_18 g_X4_58 (c_X4_isMeasuredTop hS hm) (by rfl) rfl rfl rfl rfl (Nat.le_of_ble_eq_true rfl) (Nat.le_of_ble_eq_true rfl) rfl ?_
    refine s_if_eq (tgt := 35) dX4_edgeCount_21 (by decide) (fun h_21 => ?_) (fun h_21 => ?_)
    · refine s_iinc (nI (c + 1)) dX4_edgeCount_35 rfl (nI_1 _) (Nat.le_of_ble_eq_true rfl) rfl ?_
      refine s_goto (tgt := 9) dX4_edgeCount_38 (by decide) ?_
      rw [show kEL b (n + 1) c a = kEL b n (c + 1) a from by rw [kEL, if_neg (fun z => absurd z.1 (by rw [zB0 h_21]; decide))]]
      exact ih (c + 1) a (by omega)
    · refine s_iload_n dX4_edgeCount_24 rfl ?_
      refine s_cs1 dX4_edgeCount_25 g_X4_62 (c_bcN hm) rfl rfl (Nat.le_of_ble_eq_true rfl) (Nat.le_of_ble_eq_true rfl) rfl ?_
      refine s_iconst (v := 2) dX4_edgeCount_28 rfl ?_
      refine s_icmp_ne (tgt := 35) dX4_edgeCount_29 (by decide) (fun h_29 => ?_) (fun h_29 => ?_)
      · refine s_iinc (nI (c + 1)) dX4_edgeCount_35 rfl (nI_1 _) (Nat.le_of_ble_eq_true rfl) rfl ?_
        refine s_goto (tgt := 9) dX4_edgeCount_38 (by decide) ?_
        first
          | (rw [show kEL b (n + 1) c a = kEL b n (c + 1) (a + 1) from by rw [kEL, if_pos ⟨zB1 h_21, (zeq2 (pPOP31 c)).mp h_29⟩]]
             exact ih (c + 1) (a + 1) (by omega))
          | (rw [show kEL b (n + 1) c a = kEL b n (c + 1) a from by rw [kEL, if_neg (fun z => h_29 ((zeq2 (pPOP31 c)).mpr z.2))]]
             exact ih (c + 1) a (by omega))
      · refine s_iinc (nI (a + 1)) dX4_edgeCount_32 rfl (nI_1 _) (Nat.le_of_ble_eq_true rfl) rfl ?_
        refine s_iinc (nI (c + 1)) dX4_edgeCount_35 rfl (nI_1 _) (Nat.le_of_ble_eq_true rfl) rfl ?_
        refine s_goto (tgt := 9) dX4_edgeCount_38 (by decide) ?_
        first
          | (rw [show kEL b (n + 1) c a = kEL b n (c + 1) (a + 1) from by rw [kEL, if_pos ⟨zB1 h_21, (zeq2 (pPOP31 c)).mp h_29⟩]]
             exact ih (c + 1) (a + 1) (by omega))
          | (rw [show kEL b (n + 1) c a = kEL b n (c + 1) a from by rw [kEL, if_neg (fun z => h_29 ((zeq2 (pPOP31 c)).mpr z.2))]]
             exact ih (c + 1) a (by omega))
set_option maxHeartbeats 4000000 in
set_option maxRecDepth 100000 in
theorem l_face {Z : zS} {d : Nat} {hd th : zHd} {hi : Int32} {tx : zTx} {tp : zTs} {R : zW} {b : Nat} {sh : zSh} (hS : SHM b sh) (hb : b < 256) : ∀ (n : Nat) (c a : Nat), c + n = 256 → zG Z M_X4_faceCount (d + 2) (fun r1 w1 => r1 = [.int (nI (kFL b n c a))] ∧ w1 = (wX hd th hi tx sh tp ++ R)) (R.length + 41) 9 [(0, .ref 23), (1, .int (nI b)), (2, .int (nI a)), (3, .int (nI c))] [] (wX hd th hi tx sh tp ++ R) := by
  intro n
  induction n with
  | zero =>
    intro c a hi
    have hi : c = 256 := by omega
    subst hi
    refine s_iload_n dX4_faceCount_9 rfl ?_
    refine s_sipush (v := 256) dX4_faceCount_10 rfl ?_
    refine s_icmp_ge (tgt := 33) dX4_faceCount_13 (by decide) (fun hz => ?_) (fun h => absurd (by decide) h)
    clear hz
    refine s_iload_n dX4_faceCount_33 rfl ?_
    exact s_iret dX4_faceCount_34 rfl ⟨rfl, rfl⟩ (by first | exact wXlen | rfl)
  | succ n ih =>
    intro c a hi
    have hm : c < 256 := by omega
    refine s_iload_n dX4_faceCount_9 rfl ?_
    refine s_sipush (v := 256) dX4_faceCount_10 rfl ?_
    refine s_icmp_ge (tgt := 33) dX4_faceCount_13 (by decide) (fun h => absurd h (nI_ge hm (by decide))) (fun hz => ?_)
    clear hz
    refine s_aload_n dX4_faceCount_16 rfl ?_
    refine s_iload_n dX4_faceCount_17 rfl ?_
    refine s_cv1 dX4_faceCount_18 g_X4_66 (c_X4_isMeasuredFace hS hb hm) (by rfl) rfl rfl rfl rfl (Nat.le_of_ble_eq_true rfl) (Nat.le_of_ble_eq_true rfl) rfl ?_
    refine s_if_eq (tgt := 27) dX4_faceCount_21 (by decide) (fun h_21 => ?_) (fun h_21 => ?_)
    · refine s_iinc (nI (c + 1)) dX4_faceCount_27 rfl (nI_1 _) (Nat.le_of_ble_eq_true rfl) rfl ?_
      refine s_goto (tgt := 9) dX4_faceCount_30 (by decide) ?_
      first
        | (rw [show kFL b (n + 1) c a = kFL b n (c + 1) a from by rw [kFL, if_neg (fun z => absurd z (by rw [zB0 h_21]; decide))]]
           exact ih (c + 1) a (by omega))
        | (rw [show kFL b (n + 1) c a = kFL b n (c + 1) (a + 1) from by rw [kFL, if_pos (zB1 h_21)]]
           exact ih (c + 1) (a + 1) (by omega))
    · refine s_iinc (nI (a + 1)) dX4_faceCount_24 rfl (nI_1 _) (Nat.le_of_ble_eq_true rfl) rfl ?_
      refine s_iinc (nI (c + 1)) dX4_faceCount_27 rfl (nI_1 _) (Nat.le_of_ble_eq_true rfl) rfl ?_
      refine s_goto (tgt := 9) dX4_faceCount_30 (by decide) ?_
      first
        | (rw [show kFL b (n + 1) c a = kFL b n (c + 1) a from by rw [kFL, if_neg (fun z => absurd z (by rw [zB0 h_21]; decide))]]
           exact ih (c + 1) a (by omega))
        | (rw [show kFL b (n + 1) c a = kFL b n (c + 1) (a + 1) from by rw [kFL, if_pos (zB1 h_21)]]
           exact ih (c + 1) (a + 1) (by omega))
set_option maxHeartbeats 4000000 in
set_option maxRecDepth 100000 in
theorem l_faceAt {Z : zS} {d : Nat} {hd th : zHd} {hi : Int32} {tx : zTx} {tp : zTs} {R : zW} {b : Nat} {i : Int32} {sh : zSh} (hS : SHM b sh) (hb : b < 256) : ∀ (n : Nat) (c a : Nat), c + n = 256 → zG Z M_X4_faceAt (d + 2) (fun r1 w1 => r1 = [.int (kFA b i n c a)] ∧ w1 = (wX hd th hi tx sh tp ++ R)) (R.length + 41) 10 [(0, .ref 23), (1, .int (nI b)), (2, .int i), (3, .int (nI a)), (4, .int (nI c))] [] (wX hd th hi tx sh tp ++ R) := by
  intro n
  induction n with
  | zero =>
    intro c a hi
    have hi : c = 256 := by omega
    subst hi
    refine s_iload dX4_faceAt_10 rfl ?_
    refine s_sipush (v := 256) dX4_faceAt_12 rfl ?_
    refine s_icmp_ge (tgt := 44) dX4_faceAt_15 (by decide) (fun hz => ?_) (fun h => absurd (by decide) h)
    clear hz
    refine s_bipush (v := (-5)) dX4_faceAt_44 rfl ?_
    exact s_iret dX4_faceAt_46 rfl ⟨rfl, rfl⟩ (by first | exact wXlen | rfl)
  | succ n ih =>
    intro c a hi
    have hm : c < 256 := by omega
    refine s_iload dX4_faceAt_10 rfl ?_
    refine s_sipush (v := 256) dX4_faceAt_12 rfl ?_
    refine s_icmp_ge (tgt := 44) dX4_faceAt_15 (by decide) (fun h => absurd h (nI_ge hm (by decide))) (fun hz => ?_)
    clear hz
    refine s_aload_n dX4_faceAt_18 rfl ?_
    refine s_iload dX4_faceAt_19 rfl ?_
    refine s_cv1 dX4_faceAt_21 g_X4_66 (c_X4_isMeasuredFace hS hb hm) (by rfl) rfl rfl rfl rfl (Nat.le_of_ble_eq_true rfl) (Nat.le_of_ble_eq_true rfl) rfl ?_
    refine s_if_eq (tgt := 38) dX4_faceAt_24 (by decide) (fun h_24 => ?_) (fun h_24 => ?_)
    · refine s_iinc (nI (c + 1)) dX4_faceAt_38 rfl (nI_1 _) (Nat.le_of_ble_eq_true rfl) rfl ?_
      refine s_goto (tgt := 10) dX4_faceAt_41 (by decide) ?_
      rw [show kFA b i (n + 1) c a = kFA b i n (c + 1) a from by rw [kFA, if_neg (fun z => absurd z (by rw [zB0 h_24]; decide))]]
      exact ih (c + 1) a (by omega)
    · refine s_iload_n dX4_faceAt_27 rfl ?_
      refine s_iload_n dX4_faceAt_28 rfl ?_
      refine s_icmp_ne (tgt := 35) dX4_faceAt_29 (by decide) (fun h_29 => ?_) (fun h_29 => ?_)
      · refine s_iinc (nI (a + 1)) dX4_faceAt_35 rfl (nI_1 _) (Nat.le_of_ble_eq_true rfl) rfl ?_
        refine s_iinc (nI (c + 1)) dX4_faceAt_38 rfl (nI_1 _) (Nat.le_of_ble_eq_true rfl) rfl ?_
        refine s_goto (tgt := 10) dX4_faceAt_41 (by decide) ?_
        rw [show kFA b i (n + 1) c a = kFA b i n (c + 1) (a + 1) from by rw [kFA, if_pos (zB1 h_24), if_neg h_29]]
        exact ih (c + 1) (a + 1) (by omega)
      · refine s_iload dX4_faceAt_32 rfl ?_
        exact s_iret dX4_faceAt_34 rfl ⟨by rw [kFA, if_pos (zB1 h_24), if_pos h_29], rfl⟩ (by first | exact wXlen | rfl)
def pWP (n x y z : Nat) : Int := ((n / 49 : Nat) - 3 : Int) * (x : Int) + ((n / 7 % 7 : Nat) - 3 : Int) * (y : Int) + ((n % 7 : Nat) - 3 : Int) * (z : Int)
theorem q_w0 : ∀ n, n < 343 → nI n / 49 - 3 = nZ ((n / 49 : Nat) - 3 : Int) ∧ nI n / 7 - nI n / 7 / 7 * 7 - 3 = nZ ((n / 7 % 7 : Nat) - 3 : Int) ∧ nI n - nI n / 7 * 7 - 3 = nZ ((n % 7 : Nat) - 3 : Int) := by decide +kernel
theorem nI_nZ (x : Nat) : nI x = nZ (x : Int) := Int32.ofInt_eq_ofNat.symm
theorem zwp {n : Nat} (hn : n < 343) (x y z : Nat) : (nI n / 49 - 3) * nI x + (nI n / 7 - nI n / 7 / 7 * 7 - 3) * nI y + (nI n - nI n / 7 * 7 - 3) * nI z = nZ (pWP n x y z) := by
  obtain ⟨h1, h2, h3⟩ := q_w0 n hn
  rw [h1, h2, h3, nI_nZ x, nI_nZ y, nI_nZ z, ← Int32.ofInt_mul, ← Int32.ofInt_mul, ← Int32.ofInt_mul, ← Int32.ofInt_add, ← Int32.ofInt_add]
  rfl
theorem pWP_rng {n x y z : Nat} (hn : n < 343) (hx : x < 4) (hy : y < 4) (hz : z < 4) : -27 ≤ pWP n x y z ∧ pWP n x y z ≤ 27 := by
  unfold pWP
  have h1 : n / 49 < 7 := by omega
  have h2 : n / 7 % 7 < 7 := Nat.mod_lt _ (by decide)
  have h3 : n % 7 < 7 := Nat.mod_lt _ (by decide)
  have key : ∀ a : Nat, a < 7 → ∀ x : Nat, x < 4 → -9 ≤ ((a : Int) - 3) * (x : Int) ∧ ((a : Int) - 3) * (x : Int) ≤ 9 := by decide +kernel
  have k1 := key _ h1 x hx
  have k2 := key _ h2 y hy
  have k3 := key _ h3 z hz
  omega
def kIN (b m x y z : Nat) : Nat → Nat → Bool
  | 0, _ => true
  | r + 1, n => if (m : Int) * mxL b n 8 < pWP n x y z then false else if (m : Int) * mnL b n 8 ≤ pWP n x y z then kIN b m x y z r (n + 1) else false
theorem zmm {m : Nat} {v : Int} (hm : m ≤ 3) (h : -9 ≤ v ∧ v ≤ 9) : zRng ((m : Int) * v) := by
  unfold zRng
  rcases (show m = 0 ∨ m = 1 ∨ m = 2 ∨ m = 3 by omega) with rfl | rfl | rfl | rfl <;> omega
set_option maxHeartbeats 4000000 in
set_option maxRecDepth 100000 in
theorem l_in {Z : zS} {d : Nat} {hd th : zHd} {hi : Int32} {tx : zTx} {tp : zTs} {R : zW} {b m x y z : Nat} {sh : zSh} (hS : SHM b sh) (hb : b < 256) (h0 : b ≠ 0) (hm3 : m ≤ 3) (hx : x < 4) (hy : y < 4) (hz : z < 4) : ∀ (n : Nat) (i : Nat), i + n = 171 → zG Z M_X4_isInMeasured (d) (fun r1 w1 => r1 = [.int (if kIN b m x y z n i = true then 1 else 0)] ∧ w1 = (wX hd th hi tx sh tp ++ R)) (R.length + 41) 3 [(0, .ref 23), (1, .int (nI m)), (2, .int (nI x)), (3, .int (nI y)), (4, .int (nI z)), (5, .int (nI i))] [] (wX hd th hi tx sh tp ++ R) := by
  intro n
  induction n with
  | zero =>
    intro i hi
    have hi : i = 171 := by omega
    subst hi
    refine s_iload dX4_isInMeasured_3 rfl ?_
    refine s_sipush (v := 171) dX4_isInMeasured_5 rfl ?_
    refine s_icmp_ge (tgt := 82) dX4_isInMeasured_8 (by decide) (fun hz => ?_) (fun h => absurd (by decide) h)
    clear hz
    refine s_iconst (v := 1) dX4_isInMeasured_82 rfl ?_
    exact s_zret dX4_isInMeasured_83 rfl (by first | exact Or.inl rfl | exact Or.inr rfl) ⟨rfl, rfl⟩ (by first | exact wXlen | rfl)
  | succ n ih =>
    intro i hi
    have hm : i < 171 := by omega
    have hc : (nI i).toNatClampNeg = i := nI_clamp (by omega)
    have e1 : sh.2.2.1 (nI i).toNatClampNeg = nZ (mxL b i 8) := by rw [hc]; exact (hS.2.2.1 h0).1 i hm
    have e2 : sh.2.2.2.1 (nI i).toNatClampNeg = nZ (mnL b i 8) := by rw [hc]; exact (hS.2.2.1 h0).2 i hm
    have g1 := mx9 hb h0 (show i < 343 by omega)
    have g2 := mn9 hb h0 (show i < 343 by omega)
    have g3 := pWP_rng (show i < 343 by omega) hx hy hz
    have r3 : zRng (pWP i x y z) := by unfold zRng; omega
    refine s_iload dX4_isInMeasured_3 rfl ?_
    refine s_sipush (v := 171) dX4_isInMeasured_5 rfl ?_
    refine s_icmp_ge (tgt := 82) dX4_isInMeasured_8 (by decide) (fun h => absurd h (nI_ge hm (by decide))) (fun hz => ?_)
    clear hz
    refine s_iload dX4_isInMeasured_11 rfl ?_
    refine s_bipush (v := 49) dX4_isInMeasured_13 rfl ?_
    refine s_idiv dX4_isInMeasured_15 (by decide) ?_
    refine s_iconst (v := 3) dX4_isInMeasured_16 rfl ?_
    refine s_isub dX4_isInMeasured_17 ?_
    refine s_iload_n dX4_isInMeasured_18 rfl ?_
    refine s_imul dX4_isInMeasured_19 ?_
    refine s_iload dX4_isInMeasured_20 rfl ?_
    refine s_bipush (v := 7) dX4_isInMeasured_22 rfl ?_
    refine s_idiv dX4_isInMeasured_24 (by decide) ?_
    refine s_bipush (v := 7) dX4_isInMeasured_25 rfl ?_
    refine s_irem dX4_isInMeasured_27 (by decide) ?_
    refine s_iconst (v := 3) dX4_isInMeasured_28 rfl ?_
    refine s_isub dX4_isInMeasured_29 ?_
    refine s_iload_n dX4_isInMeasured_30 rfl ?_
    refine s_imul dX4_isInMeasured_31 ?_
    refine s_iadd dX4_isInMeasured_32 ?_
    refine s_iload dX4_isInMeasured_33 rfl ?_
    refine s_bipush (v := 7) dX4_isInMeasured_35 rfl ?_
    refine s_irem dX4_isInMeasured_37 (by decide) ?_
    refine s_iconst (v := 3) dX4_isInMeasured_38 rfl ?_
    refine s_isub dX4_isInMeasured_39 ?_
    refine s_iload dX4_isInMeasured_40 rfl ?_
    refine s_imul dX4_isInMeasured_42 ?_
    refine s_iadd dX4_isInMeasured_43 ?_
    rw [zwp (show i < 343 by omega)]
    refine s_istore dX4_isInMeasured_44 (Nat.le_of_ble_eq_true rfl) rfl ?_
    refine s_iload dX4_isInMeasured_46 rfl ?_
    refine s_iload_n dX4_isInMeasured_48 rfl ?_
    refine s_aload_n dX4_isInMeasured_49 rfl ?_
    refine s_get dX4_isInMeasured_50 f_X4_18 (by rfl) (by rfl) ?_
    refine s_iload dX4_isInMeasured_53 rfl ?_
    refine s_iald dX4_isInMeasured_55 (by rfl) (zrd (n := 171) hm (by decide)) ?_
    rw [e1]
    refine s_imul dX4_isInMeasured_56 ?_
    rw [nI_nZ m, ← Int32.ofInt_mul]
    refine s_icmp_gt (tgt := 74) dX4_isInMeasured_57 (by decide) (fun h_57 => ?_) (fun h_57 => ?_)
    · refine s_iconst (v := 0) dX4_isInMeasured_74 rfl ?_
      exact s_zret dX4_isInMeasured_75 rfl (by first | exact Or.inl rfl | exact Or.inr rfl) ⟨by rw [kIN, if_pos ((nZ_lt (zmm hm3 g1) r3).mp h_57)]; rfl, rfl⟩ (by first | exact wXlen | rfl)
    · refine s_iload dX4_isInMeasured_60 rfl ?_
      refine s_iload_n dX4_isInMeasured_62 rfl ?_
      refine s_aload_n dX4_isInMeasured_63 rfl ?_
      refine s_get dX4_isInMeasured_64 f_X4_22 (by rfl) (by rfl) ?_
      refine s_iload dX4_isInMeasured_67 rfl ?_
      refine s_iald dX4_isInMeasured_69 (by rfl) (zrd (n := 171) hm (by decide)) ?_
      rw [e2]
      refine s_imul dX4_isInMeasured_70 ?_
      rw [← Int32.ofInt_mul]
      refine s_icmp_ge (tgt := 76) dX4_isInMeasured_71 (by decide) (fun h_71 => ?_) (fun h_71 => ?_)
      · refine s_iinc (nI (i + 1)) dX4_isInMeasured_76 rfl (nI_1 _) (Nat.le_of_ble_eq_true rfl) rfl ?_
        refine s_goto (tgt := 3) dX4_isInMeasured_79 (by decide) ?_
        rw [show kIN b m x y z (n + 1) i = kIN b m x y z n (i + 1) from by rw [kIN, if_neg (fun q => h_57 ((nZ_lt (zmm hm3 g1) r3).mpr q)), if_pos ((nZ_le (zmm hm3 g2) r3).mp h_71)]]
        rw [← nI_nZ m]
        refine s_take 6 ?_
        exact ih (i + 1) (by omega)
      · refine s_iconst (v := 0) dX4_isInMeasured_74 rfl ?_
        exact s_zret dX4_isInMeasured_75 rfl (by first | exact Or.inl rfl | exact Or.inr rfl) ⟨by rw [kIN, if_neg (fun z => h_57 ((nZ_lt (zmm hm3 g1) r3).mpr z)), if_neg (fun z => h_71 ((nZ_le (zmm hm3 g2) r3).mpr z))]; rfl, rfl⟩ (by first | exact wXlen | rfl)
set_option maxHeartbeats 4000000 in
set_option maxRecDepth 100000 in
theorem c_X4_isInMeasured {Z : zS} {d : Nat} {hd th : zHd} {hi : Int32} {tx : zTx} {tp : zTs} {R : zW} {b m x y z : Nat} {sh : zSh} (hS : SHM b sh) (hb : b < 256) (h0 : b ≠ 0) (hm3 : m ≤ 3) (hx : x < 4) (hy : y < 4) (hz : z < 4) : zF Z M_X4_isInMeasured (d) [.ref 23, .int (nI m), .int (nI x), .int (nI y), .int (nI z)] (wX hd th hi tx sh tp ++ R) [.int (if kIN b m x y z 171 0 = true then 1 else 0)] (wX hd th hi tx sh tp ++ R) := by
  unfold zF
  rw [wXlen]
  show zG Z M_X4_isInMeasured (d) _ (R.length + 41) 0 [(0, .ref 23), (1, .int (nI m)), (2, .int (nI x)), (3, .int (nI y)), (4, .int (nI z))] [] (wX hd th hi tx sh tp ++ R)
  refine s_iconst (v := 0) dX4_isInMeasured_0 rfl ?_
  refine s_istore dX4_isInMeasured_1 (Nat.le_of_ble_eq_true rfl) rfl ?_
  exact l_in hS hb h0 hm3 hx hy hz 171 0 rfl
