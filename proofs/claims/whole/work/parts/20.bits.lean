/-! ===== bits of floats ===== -/
def zc1 (x : UInt64) : Int32 := Op.cmpValue (FP.dcmp x FP.dconst1) .g
def zdm2 (x : UInt64) : UInt64 := FP.dmul x 4611686018427387904
def exL : Nat → UInt64 → Int32 → Option Int32
  | 0, _, _ => none
  | n + 1, x, e => if 0 ≤ Op.cmpValue (FP.dcmp x FP.dconst1) .g then some e else if e ≤ -100 then some e else if zn64 (zdm2 x) = true then exL n (zdm2 x) (e + (-1)) else none
def frL : Nat → UInt64 → Int32 → Option UInt64
  | 0, _, _ => none
  | n + 1, x, i => if 0 ≤ i then (if zn64 (FP.dsub x FP.dconst1) = true then some (FP.dsub x FP.dconst1) else none) else if zn64 (zdm2 x) = true then frL n (zdm2 x) (i + 1) else none
set_option maxHeartbeats 4000000 in
set_option maxRecDepth 100000 in
theorem l_X0_exponentOf {Z : zS} {d : Nat} {w : zW} {v : UInt64} {r : Int32} : ∀ (n : Nat) (x : UInt64) (e : Int32), exL n x e = some r → zG Z M_X0_exponentOf d (fun r1 w1 => r1 = [.int r] ∧ w1 = w) w.length 5 [(0, .double v), (2, .double x), (4, .int e)] [] w := by
  intro n
  induction n with
  | zero =>
    intro x e h
    cases h
  | succ n ih =>
    intro x e h
    rw [exL] at h
    refine s_dload_n dX0_exponentOf_5 rfl ?_
    refine s_dconst1 dX0_exponentOf_6 ?_
    refine s_dcmp dX0_exponentOf_7 ?_
    refine s_if_ge (tgt := 30) dX0_exponentOf_8 (by decide) (fun h_8 => ?_) (fun h_8 => ?_)
    · refine s_iload dX0_exponentOf_30 rfl ?_
      exact s_iret dX0_exponentOf_32 rfl ⟨by rw [if_pos h_8] at h; rw [Option.some.inj h], rfl⟩ rfl
    · refine s_iload dX0_exponentOf_11 rfl ?_
      refine s_bipush (v := (-100)) dX0_exponentOf_13 rfl ?_
      refine s_icmp_le (tgt := 30) dX0_exponentOf_15 (by decide) (fun h_15 => ?_) (fun h_15 => ?_)
      · refine s_iload dX0_exponentOf_30 rfl ?_
        exact s_iret dX0_exponentOf_32 rfl ⟨by rw [if_neg h_8, if_pos h_15] at h; rw [Option.some.inj h], rfl⟩ rfl
      · rw [if_neg h_8, if_neg h_15] at h
        have c : zn64 (zdm2 x) = true := Classical.byContradiction (fun z => by rw [if_neg z] at h; cases h)
        rw [if_pos c] at h
        refine s_dload_n dX0_exponentOf_18 rfl ?_
        refine s_ldc2d (v := (4611686018427387904)) dX0_exponentOf_19 (zin 495 (by decide +kernel) (by decide +kernel)) ?_
        refine s_dmul dX0_exponentOf_22 (zn64_t c) ?_
        refine s_dstore_n dX0_exponentOf_23 (Nat.le_of_ble_eq_true rfl) rfl ?_
        refine s_iinc (_ + (-1)) dX0_exponentOf_24 rfl rfl (Nat.le_of_ble_eq_true rfl) rfl ?_
        refine s_goto (tgt := 5) dX0_exponentOf_27 (by decide) ?_
        exact ih _ _ h
set_option maxHeartbeats 4000000 in
set_option maxRecDepth 100000 in
theorem c_X0_exponentOf {Z : zS} {d : Nat} {w : zW} {v : UInt64} {r : Int32} (h : exL 200 v 0 = some r) : zF Z M_X0_exponentOf (d) [.double v] w [.int r] w := by
  show zG Z M_X0_exponentOf (d) _ _ 0 [(0, .double v)] [] w
  refine s_dload_n dX0_exponentOf_0 rfl ?_
  refine s_dstore_n dX0_exponentOf_1 (Nat.le_of_ble_eq_true rfl) rfl ?_
  refine s_iconst (v := 0) dX0_exponentOf_2 rfl ?_
  refine s_istore dX0_exponentOf_3 (Nat.le_of_ble_eq_true rfl) rfl ?_
  exact l_X0_exponentOf 200 v 0 h
set_option maxHeartbeats 4000000 in
set_option maxRecDepth 100000 in
theorem l_X0_fractionOf {Z : zS} {d : Nat} {w : zW} {v : UInt64} {e : Int32} {r : UInt64} : ∀ (n : Nat) (x : UInt64) (i : Int32), frL n x i = some r → zG Z M_X0_fractionOf d (fun r1 w1 => r1 = [.double r] ∧ w1 = w) w.length 5 [(0, .double v), (2, .int e), (3, .double x), (5, .int i)] [] w := by
  intro n
  induction n with
  | zero =>
    intro x i h
    cases h
  | succ n ih =>
    intro x i h
    rw [frL] at h
    refine s_iload dX0_fractionOf_5 rfl ?_
    refine s_if_ge (tgt := 22) dX0_fractionOf_7 (by decide) (fun h_7 => ?_) (fun h_7 => ?_)
    · rw [if_pos h_7] at h
      have c : zn64 (FP.dsub x FP.dconst1) = true := Classical.byContradiction (fun z => by rw [if_neg z] at h; cases h)
      rw [if_pos c] at h
      refine s_dload_n dX0_fractionOf_22 rfl ?_
      refine s_dconst1 dX0_fractionOf_23 ?_
      refine s_dsub dX0_fractionOf_24 (zn64_t c) ?_
      exact s_dret dX0_fractionOf_25 rfl ⟨by rw [Option.some.inj h], rfl⟩ rfl
    · rw [if_neg h_7] at h
      have c : zn64 (zdm2 x) = true := Classical.byContradiction (fun z => by rw [if_neg z] at h; cases h)
      rw [if_pos c] at h
      refine s_dload_n dX0_fractionOf_10 rfl ?_
      refine s_ldc2d (v := (4611686018427387904)) dX0_fractionOf_11 (zin 495 (by decide +kernel) (by decide +kernel)) ?_
      refine s_dmul dX0_fractionOf_14 (zn64_t c) ?_
      refine s_dstore_n dX0_fractionOf_15 (Nat.le_of_ble_eq_true rfl) rfl ?_
      refine s_iinc (_ + 1) dX0_fractionOf_16 rfl rfl (Nat.le_of_ble_eq_true rfl) rfl ?_
      refine s_goto (tgt := 5) dX0_fractionOf_19 (by decide) ?_
      exact ih _ _ h
set_option maxHeartbeats 4000000 in
set_option maxRecDepth 100000 in
theorem c_X0_fractionOf {Z : zS} {d : Nat} {w : zW} {v : UInt64} {e : Int32} {r : UInt64} (h : frL 200 v e = some r) : zF Z M_X0_fractionOf (d) [.double v, .int e] w [.double r] w := by
  show zG Z M_X0_fractionOf (d) _ _ 0 [(0, .double v), (2, .int e)] [] w
  refine s_dload_n dX0_fractionOf_0 rfl ?_
  refine s_dstore_n dX0_fractionOf_1 (Nat.le_of_ble_eq_true rfl) rfl ?_
  refine s_iload_n dX0_fractionOf_2 rfl ?_
  refine s_istore dX0_fractionOf_3 (Nat.le_of_ble_eq_true rfl) rfl ?_
  exact l_X0_fractionOf 200 v e h
def zOFr (e : Int32) (fr : UInt64) : Int32 := (e + 127) <<< ((23 : Int32) &&& 31) + FP.d2i (FP.dmul fr 4710765210229538816)
def zOF (v : UInt32) : Option Int32 :=
  if 0 < Op.cmpValue (FP.fcmp v FP.fconst0) .g then
    (if zn64 (FP.f2d v) = true then
      match exL 200 (FP.f2d v) 0 with
      | none => none
      | some e => match frL 200 (FP.f2d v) e with
        | none => none
        | some fr => if zn64 (FP.dmul fr 4710765210229538816) = true then some (zOFr e fr) else none
    else none)
  else some 0
theorem zOF_pos {v : UInt32} {r : Int32} (h : zOF v = some r) (h3 : 0 < Op.cmpValue (FP.fcmp v FP.fconst0) .g) : ∃ (e : Int32) (fr : UInt64), zn64 (FP.f2d v) = true ∧ exL 200 (FP.f2d v) 0 = some e ∧ frL 200 (FP.f2d v) e = some fr ∧ zn64 (FP.dmul fr 4710765210229538816) = true ∧ r = zOFr e fr := by
  unfold zOF at h
  rw [if_pos h3] at h
  by_cases c1 : zn64 (FP.f2d v) = true
  · rw [if_pos c1] at h
    cases he : exL 200 (FP.f2d v) 0 with
    | none => rw [he] at h; cases h
    | some e =>
      rw [he] at h
      dsimp only at h
      cases hf : frL 200 (FP.f2d v) e with
      | none => rw [hf] at h; cases h
      | some fr =>
        rw [hf] at h
        dsimp only at h
        by_cases c2 : zn64 (FP.dmul fr 4710765210229538816) = true
        · rw [if_pos c2] at h
          exact ⟨e, fr, c1, rfl, hf, c2, (Option.some.inj h).symm⟩
        · rw [if_neg c2] at h; cases h
  · rw [if_neg c1] at h; cases h
theorem zOF_neg {v : UInt32} {r : Int32} (h : zOF v = some r) (h3 : ¬ 0 < Op.cmpValue (FP.fcmp v FP.fconst0) .g) : r = 0 := by
  unfold zOF at h
  rw [if_neg h3] at h
  exact (Option.some.inj h).symm
def zODr (e : Int32) (fr : UInt64) : Int64 := (e + 1023).toInt64 <<< ((52 : Int32).toInt64 &&& 63) + FP.d2l (FP.dmul fr 4841369599423283200)
def zOD (v : UInt64) : Option Int64 :=
  if 0 < Op.cmpValue (FP.dcmp v FP.dconst0) .g then
      match exL 200 v 0 with
      | none => none
      | some e => match frL 200 v e with
        | none => none
        | some fr => if zn64 (FP.dmul fr 4841369599423283200) = true then some (zODr e fr) else none
  else some 0
theorem zOD_pos {v : UInt64} {r : Int64} (h : zOD v = some r) (h3 : 0 < Op.cmpValue (FP.dcmp v FP.dconst0) .g) : ∃ (e : Int32) (fr : UInt64), exL 200 v 0 = some e ∧ frL 200 v e = some fr ∧ zn64 (FP.dmul fr 4841369599423283200) = true ∧ r = zODr e fr := by
  unfold zOD at h
  rw [if_pos h3] at h
  cases he : exL 200 v 0 with
  | none => rw [he] at h; cases h
  | some e =>
    rw [he] at h
    dsimp only at h
    cases hf : frL 200 v e with
    | none => rw [hf] at h; cases h
    | some fr =>
      rw [hf] at h
      dsimp only at h
      by_cases c2 : zn64 (FP.dmul fr 4841369599423283200) = true
      · rw [if_pos c2] at h
        exact ⟨e, fr, rfl, hf, c2, (Option.some.inj h).symm⟩
      · rw [if_neg c2] at h; cases h
theorem zOD_neg {v : UInt64} {r : Int64} (h : zOD v = some r) (h3 : ¬ 0 < Op.cmpValue (FP.dcmp v FP.dconst0) .g) : r = 0 := by
  unfold zOD at h
  rw [if_neg h3] at h
  exact (Option.some.inj h).symm
set_option maxHeartbeats 4000000 in
set_option maxRecDepth 100000 in
theorem c_X0_ofFloat {Z : zS} {d : Nat} {w : zW} {v : UInt32} {r : Int32} (h : zOF v = some r) : zF Z M_X0_ofFloat (d + 1) [.float v] w [.int r] w := by
  show zG Z M_X0_ofFloat (d + 1) _ _ 0 [(0, .float v)] [] w
  refine s_fload_n dX0_ofFloat_0 rfl ?_
  refine s_fconst0 dX0_ofFloat_1 ?_
  refine s_fcmp dX0_ofFloat_2 ?_
  refine s_if_gt (tgt := 8) dX0_ofFloat_3 (by decide) (fun h_3 => ?_) (fun h_3 => ?_)
  · obtain ⟨e, fr, c1, c2, c3, c4, c5⟩ := zOF_pos h h_3
    refine s_fload_n dX0_ofFloat_8 rfl ?_
    refine s_f2d dX0_ofFloat_9 (zn64_t c1) ?_
    refine s_cs1 dX0_ofFloat_10 g_X0_7 (c_X0_exponentOf c2) rfl rfl (Nat.le_of_ble_eq_true rfl) (Nat.le_of_ble_eq_true rfl) rfl ?_
    refine s_istore_n dX0_ofFloat_13 (Nat.le_of_ble_eq_true rfl) rfl ?_
    refine s_iload_n dX0_ofFloat_14 rfl ?_
    refine s_bipush (v := 127) dX0_ofFloat_15 rfl ?_
    refine s_iadd dX0_ofFloat_17 ?_
    refine s_bipush (v := 23) dX0_ofFloat_18 rfl ?_
    refine s_ishl dX0_ofFloat_20 ?_
    refine s_fload_n dX0_ofFloat_21 rfl ?_
    refine s_f2d dX0_ofFloat_22 (zn64_t c1) ?_
    refine s_iload_n dX0_ofFloat_23 rfl ?_
    refine s_cs1 dX0_ofFloat_24 g_X0_13 (c_X0_fractionOf c3) rfl rfl (Nat.le_of_ble_eq_true rfl) (Nat.le_of_ble_eq_true rfl) rfl ?_
    refine s_ldc2d (v := (4710765210229538816)) dX0_ofFloat_27 (zin 499 (by decide +kernel) (by decide +kernel)) ?_
    refine s_dmul dX0_ofFloat_30 (zn64_t c4) ?_
    refine s_d2i dX0_ofFloat_31 ?_
    refine s_iadd dX0_ofFloat_32 ?_
    exact s_iret dX0_ofFloat_33 rfl ⟨by rw [c5]; rfl, rfl⟩ rfl
  · refine s_iconst (v := 0) dX0_ofFloat_6 rfl ?_
    exact s_iret dX0_ofFloat_7 rfl ⟨by rw [zOF_neg h h_3], rfl⟩ rfl
set_option maxHeartbeats 4000000 in
set_option maxRecDepth 100000 in
theorem c_X0_ofDouble {Z : zS} {d : Nat} {w : zW} {v : UInt64} {r : Int64} (h : zOD v = some r) : zF Z M_X0_ofDouble (d + 1) [.double v] w [.long r] w := by
  show zG Z M_X0_ofDouble (d + 1) _ _ 0 [(0, .double v)] [] w
  refine s_dload_n dX0_ofDouble_0 rfl ?_
  refine s_dconst0 dX0_ofDouble_1 ?_
  refine s_dcmp dX0_ofDouble_2 ?_
  refine s_if_gt (tgt := 8) dX0_ofDouble_3 (by decide) (fun h_3 => ?_) (fun h_3 => ?_)
  · obtain ⟨e, fr, c2, c3, c4, c5⟩ := zOD_pos h h_3
    refine s_dload_n dX0_ofDouble_8 rfl ?_
    refine s_cs1 dX0_ofDouble_9 g_X0_7 (c_X0_exponentOf c2) rfl rfl (Nat.le_of_ble_eq_true rfl) (Nat.le_of_ble_eq_true rfl) rfl ?_
    refine s_istore_n dX0_ofDouble_12 (Nat.le_of_ble_eq_true rfl) rfl ?_
    refine s_iload_n dX0_ofDouble_13 rfl ?_
    refine s_sipush (v := 1023) dX0_ofDouble_14 rfl ?_
    refine s_iadd dX0_ofDouble_17 ?_
    refine s_i2l dX0_ofDouble_18 rfl ?_
    refine s_bipush (v := 52) dX0_ofDouble_19 rfl ?_
    refine s_lshl dX0_ofDouble_21 rfl ?_
    refine s_dload_n dX0_ofDouble_22 rfl ?_
    refine s_iload_n dX0_ofDouble_23 rfl ?_
    refine s_cs1 dX0_ofDouble_24 g_X0_13 (c_X0_fractionOf c3) rfl rfl (Nat.le_of_ble_eq_true rfl) (Nat.le_of_ble_eq_true rfl) rfl ?_
    refine s_ldc2d (v := (4841369599423283200)) dX0_ofDouble_27 (zin 513 (by decide +kernel) (by decide +kernel)) ?_
    refine s_dmul dX0_ofDouble_30 (zn64_t c4) ?_
    refine s_d2l dX0_ofDouble_31 ?_
    refine s_ladd dX0_ofDouble_32 ?_
    exact s_lret dX0_ofDouble_33 rfl ⟨by rw [c5]; rfl, rfl⟩ rfl
  · refine s_lconst (v := 0) dX0_ofDouble_6 rfl ?_
    exact s_lret dX0_ofDouble_7 rfl ⟨by rw [zOD_neg h h_3], rfl⟩ rfl
set_option maxHeartbeats 4000000 in
set_option maxRecDepth 100000 in
theorem c_Jxf58ca_isNaN_12338 {Z : zS} {d : Nat} {w : zW} {v : UInt32} : zF Z M_Jxf58ca_isNaN_12338 (d) [.float v] w [.int (if Op.cmpValue (FP.fcmp v v) .l = 0 then 0 else 1)] w := by
  show zG Z M_Jxf58ca_isNaN_12338 (d) _ _ 0 [(0, .float v)] [] w
  refine s_fload_n dJxf58ca_isNaN_12338_0 rfl ?_
  refine s_fload_n dJxf58ca_isNaN_12338_1 rfl ?_
  refine s_fcmp dJxf58ca_isNaN_12338_2 ?_
  refine s_if_eq (tgt := 10) dJxf58ca_isNaN_12338_3 (by decide) (fun h_3 => ?_) (fun h_3 => ?_)
  · refine s_iconst (v := 0) dJxf58ca_isNaN_12338_10 rfl ?_
    exact s_zret dJxf58ca_isNaN_12338_11 rfl (by first | exact Or.inl rfl | exact Or.inr rfl) ⟨by simp [h_3], rfl⟩ rfl
  · refine s_iconst (v := 1) dJxf58ca_isNaN_12338_6 rfl ?_
    refine s_goto (tgt := 11) dJxf58ca_isNaN_12338_7 (by decide) ?_
    exact s_zret dJxf58ca_isNaN_12338_11 rfl (by first | exact Or.inl rfl | exact Or.inr rfl) ⟨by simp [h_3], rfl⟩ rfl
set_option maxHeartbeats 4000000 in
set_option maxRecDepth 100000 in
theorem c_Jxe99ae_isNaN_b9ae7 {Z : zS} {d : Nat} {w : zW} {v : UInt64} : zF Z M_Jxe99ae_isNaN_b9ae7 (d) [.double v] w [.int (if Op.cmpValue (FP.dcmp v v) .l = 0 then 0 else 1)] w := by
  show zG Z M_Jxe99ae_isNaN_b9ae7 (d) _ _ 0 [(0, .double v)] [] w
  refine s_dload_n dJxe99ae_isNaN_b9ae7_0 rfl ?_
  refine s_dload_n dJxe99ae_isNaN_b9ae7_1 rfl ?_
  refine s_dcmp dJxe99ae_isNaN_b9ae7_2 ?_
  refine s_if_eq (tgt := 10) dJxe99ae_isNaN_b9ae7_3 (by decide) (fun h_3 => ?_) (fun h_3 => ?_)
  · refine s_iconst (v := 0) dJxe99ae_isNaN_b9ae7_10 rfl ?_
    exact s_zret dJxe99ae_isNaN_b9ae7_11 rfl (by first | exact Or.inl rfl | exact Or.inr rfl) ⟨by simp [h_3], rfl⟩ rfl
  · refine s_iconst (v := 1) dJxe99ae_isNaN_b9ae7_6 rfl ?_
    refine s_goto (tgt := 11) dJxe99ae_isNaN_b9ae7_7 (by decide) ?_
    exact s_zret dJxe99ae_isNaN_b9ae7_11 rfl (by first | exact Or.inl rfl | exact Or.inr rfl) ⟨by simp [h_3], rfl⟩ rfl
set_option maxHeartbeats 4000000 in
set_option maxRecDepth 100000 in
theorem c_Jxf58ca_floatToIntBits_5c35a {Z : zS} {d : Nat} {w : zW} {v : UInt32} (hv : Op.cmpValue (FP.fcmp v v) .l = 0) : zF Z M_Jxf58ca_floatToIntBits_5c35a (d + 1) [.float v] w [.int v.toInt32] w := by
  show zG Z M_Jxf58ca_floatToIntBits_5c35a (d + 1) _ _ 0 [(0, .float v)] [] w
  refine s_fload_n dJxf58ca_floatToIntBits_5c35a_0 rfl ?_
  refine s_cs1 dJxf58ca_floatToIntBits_5c35a_1 g_Jxf58ca_59 (c_Jxf58ca_isNaN_12338) rfl rfl (Nat.le_of_ble_eq_true rfl) (Nat.le_of_ble_eq_true rfl) rfl ?_
  refine s_if_ne (tgt := 12) dJxf58ca_floatToIntBits_5c35a_4 (by decide) (fun h => absurd (show (if Op.cmpValue (FP.fcmp v v) .l = 0 then (0 : Int32) else 1) = 0 from if_pos hv) h) (fun hz => ?_)
  clear hz
  refine s_fload_n dJxf58ca_floatToIntBits_5c35a_7 rfl ?_
  refine s_f2bits dJxf58ca_floatToIntBits_5c35a_8 (zin 956 (by decide +kernel) (by decide +kernel)) (zin 958 (by decide +kernel) (by decide +kernel)) (zin 957 (by decide +kernel) (by decide +kernel)) (zin 70 (by decide +kernel) (by decide +kernel)) (Nat.le_of_ble_eq_true rfl) ?_
  exact s_iret dJxf58ca_floatToIntBits_5c35a_11 rfl ⟨rfl, rfl⟩ rfl
set_option maxHeartbeats 4000000 in
set_option maxRecDepth 100000 in
theorem c_Jxe99ae_doubleToLongBits_ccdee {Z : zS} {d : Nat} {w : zW} {v : UInt64} (hv : Op.cmpValue (FP.dcmp v v) .l = 0) : zF Z M_Jxe99ae_doubleToLongBits_ccdee (d + 1) [.double v] w [.long v.toInt64] w := by
  show zG Z M_Jxe99ae_doubleToLongBits_ccdee (d + 1) _ _ 0 [(0, .double v)] [] w
  refine s_dload_n dJxe99ae_doubleToLongBits_ccdee_0 rfl ?_
  refine s_cs1 dJxe99ae_doubleToLongBits_ccdee_1 g_Jxe99ae_122 (c_Jxe99ae_isNaN_b9ae7) rfl rfl (Nat.le_of_ble_eq_true rfl) (Nat.le_of_ble_eq_true rfl) rfl ?_
  refine s_if_ne (tgt := 12) dJxe99ae_doubleToLongBits_ccdee_4 (by decide) (fun h => absurd (show (if Op.cmpValue (FP.dcmp v v) .l = 0 then (0 : Int32) else 1) = 0 from if_pos hv) h) (fun hz => ?_)
  clear hz
  refine s_dload_n dJxe99ae_doubleToLongBits_ccdee_7 rfl ?_
  refine s_d2bits dJxe99ae_doubleToLongBits_ccdee_8 (zin 972 (by decide +kernel) (by decide +kernel)) (zin 974 (by decide +kernel) (by decide +kernel)) (zin 973 (by decide +kernel) (by decide +kernel)) (zin 71 (by decide +kernel) (by decide +kernel)) (Nat.le_of_ble_eq_true rfl) ?_
  exact s_lret dJxe99ae_doubleToLongBits_ccdee_11 rfl ⟨rfl, rfl⟩ rfl
