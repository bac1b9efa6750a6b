/-! ===== contracts: what numbers may be ===== -/
set_option maxHeartbeats 4000000 in
set_option maxRecDepth 100000 in
theorem c_X7_isCorner {Z : zS} {d : Nat} {w : zW} {a : Int32} : zF Z M_X7_isCorner (d) [.int a] w [.int (if a < 0 then 0 else if 8 ≤ a then 0 else 1)] w := by
  show zG Z M_X7_isCorner (d) _ _ 0 [(0, .int a)] [] w
  refine s_iload_n dX7_isCorner_0 rfl ?_
  refine s_if_lt (tgt := 14) dX7_isCorner_1 (by decide) (fun h_1 => ?_) (fun h_1 => ?_)
  · refine s_iconst (v := 0) dX7_isCorner_14 rfl ?_
    exact s_zret dX7_isCorner_15 rfl (by first | exact Or.inl rfl | exact Or.inr rfl) ⟨by simp [h_1], rfl⟩ rfl
  · refine s_iload_n dX7_isCorner_4 rfl ?_
    refine s_bipush (v := 8) dX7_isCorner_5 rfl ?_
    refine s_icmp_ge (tgt := 14) dX7_isCorner_7 (by decide) (fun h_7 => ?_) (fun h_7 => ?_)
    · refine s_iconst (v := 0) dX7_isCorner_14 rfl ?_
      exact s_zret dX7_isCorner_15 rfl (by first | exact Or.inl rfl | exact Or.inr rfl) ⟨by simp [h_1, h_7], rfl⟩ rfl
    · refine s_iconst (v := 1) dX7_isCorner_10 rfl ?_
      refine s_goto (tgt := 15) dX7_isCorner_11 (by decide) ?_
      exact s_zret dX7_isCorner_15 rfl (by first | exact Or.inl rfl | exact Or.inr rfl) ⟨by simp [h_1, h_7], rfl⟩ rfl
set_option maxHeartbeats 4000000 in
set_option maxRecDepth 100000 in
theorem c_X7_isMove {Z : zS} {d : Nat} {w : zW} {a : Int32} : zF Z M_X7_isMove (d) [.int a] w [.int (if a < 0 then 0 else if 48 ≤ a then 0 else 1)] w := by
  show zG Z M_X7_isMove (d) _ _ 0 [(0, .int a)] [] w
  refine s_iload_n dX7_isMove_0 rfl ?_
  refine s_if_lt (tgt := 14) dX7_isMove_1 (by decide) (fun h_1 => ?_) (fun h_1 => ?_)
  · refine s_iconst (v := 0) dX7_isMove_14 rfl ?_
    exact s_zret dX7_isMove_15 rfl (by first | exact Or.inl rfl | exact Or.inr rfl) ⟨by simp [h_1], rfl⟩ rfl
  · refine s_iload_n dX7_isMove_4 rfl ?_
    refine s_bipush (v := 48) dX7_isMove_5 rfl ?_
    refine s_icmp_ge (tgt := 14) dX7_isMove_7 (by decide) (fun h_7 => ?_) (fun h_7 => ?_)
    · refine s_iconst (v := 0) dX7_isMove_14 rfl ?_
      exact s_zret dX7_isMove_15 rfl (by first | exact Or.inl rfl | exact Or.inr rfl) ⟨by simp [h_1, h_7], rfl⟩ rfl
    · refine s_iconst (v := 1) dX7_isMove_10 rfl ?_
      refine s_goto (tgt := 15) dX7_isMove_11 (by decide) ?_
      exact s_zret dX7_isMove_15 rfl (by first | exact Or.inl rfl | exact Or.inr rfl) ⟨by simp [h_1, h_7], rfl⟩ rfl
set_option maxHeartbeats 4000000 in
set_option maxRecDepth 100000 in
theorem c_X7_isTape {Z : zS} {d : Nat} {w : zW} {a : Int32} : zF Z M_X7_isTape (d) [.int a] w [.int (if a < 0 then 0 else if 6 ≤ a then 0 else 1)] w := by
  show zG Z M_X7_isTape (d) _ _ 0 [(0, .int a)] [] w
  refine s_iload_n dX7_isTape_0 rfl ?_
  refine s_if_lt (tgt := 14) dX7_isTape_1 (by decide) (fun h_1 => ?_) (fun h_1 => ?_)
  · refine s_iconst (v := 0) dX7_isTape_14 rfl ?_
    exact s_zret dX7_isTape_15 rfl (by first | exact Or.inl rfl | exact Or.inr rfl) ⟨by simp [h_1], rfl⟩ rfl
  · refine s_iload_n dX7_isTape_4 rfl ?_
    refine s_bipush (v := 6) dX7_isTape_5 rfl ?_
    refine s_icmp_ge (tgt := 14) dX7_isTape_7 (by decide) (fun h_7 => ?_) (fun h_7 => ?_)
    · refine s_iconst (v := 0) dX7_isTape_14 rfl ?_
      exact s_zret dX7_isTape_15 rfl (by first | exact Or.inl rfl | exact Or.inr rfl) ⟨by simp [h_1, h_7], rfl⟩ rfl
    · refine s_iconst (v := 1) dX7_isTape_10 rfl ?_
      refine s_goto (tgt := 15) dX7_isTape_11 (by decide) ?_
      exact s_zret dX7_isTape_15 rfl (by first | exact Or.inl rfl | exact Or.inr rfl) ⟨by simp [h_1, h_7], rfl⟩ rfl
set_option maxHeartbeats 4000000 in
set_option maxRecDepth 100000 in
theorem c_X7_isBit {Z : zS} {d : Nat} {w : zW} {a : Int32} : zF Z M_X7_isBit (d) [.int a] w [.int (if a = 0 then 1 else if a = 1 then 1 else 0)] w := by
  show zG Z M_X7_isBit (d) _ _ 0 [(0, .int a)] [] w
  refine s_iload_n dX7_isBit_0 rfl ?_
  refine s_if_eq (tgt := 9) dX7_isBit_1 (by decide) (fun h_1 => ?_) (fun h_1 => ?_)
  · refine s_iconst (v := 1) dX7_isBit_9 rfl ?_
    refine s_goto (tgt := 14) dX7_isBit_10 (by decide) ?_
    exact s_zret dX7_isBit_14 rfl (by first | exact Or.inl rfl | exact Or.inr rfl) ⟨by simp [h_1], rfl⟩ rfl
  · refine s_iload_n dX7_isBit_4 rfl ?_
    refine s_iconst (v := 1) dX7_isBit_5 rfl ?_
    refine s_icmp_ne (tgt := 13) dX7_isBit_6 (by decide) (fun h_6 => ?_) (fun h_6 => ?_)
    · refine s_iconst (v := 0) dX7_isBit_13 rfl ?_
      exact s_zret dX7_isBit_14 rfl (by first | exact Or.inl rfl | exact Or.inr rfl) ⟨by simp [h_1, h_6], rfl⟩ rfl
    · refine s_iconst (v := 1) dX7_isBit_9 rfl ?_
      refine s_goto (tgt := 14) dX7_isBit_10 (by decide) ?_
      exact s_zret dX7_isBit_14 rfl (by first | exact Or.inl rfl | exact Or.inr rfl) ⟨by simp [h_1, h_6], rfl⟩ rfl
set_option maxHeartbeats 4000000 in
set_option maxRecDepth 100000 in
theorem c_X7_isWeight {Z : zS} {d : Nat} {w : zW} {a : Int32} : zF Z M_X7_isWeight (d) [.int a] w [.int (if a < -3 then 0 else if 3 < a then 0 else 1)] w := by
  show zG Z M_X7_isWeight (d) _ _ 0 [(0, .int a)] [] w
  refine s_iload_n dX7_isWeight_0 rfl ?_
  refine s_bipush (v := (-3)) dX7_isWeight_1 rfl ?_
  refine s_icmp_lt (tgt := 15) dX7_isWeight_3 (by decide) (fun h_3 => ?_) (fun h_3 => ?_)
  · refine s_iconst (v := 0) dX7_isWeight_15 rfl ?_
    exact s_zret dX7_isWeight_16 rfl (by first | exact Or.inl rfl | exact Or.inr rfl) ⟨by simp [h_3], rfl⟩ rfl
  · refine s_iload_n dX7_isWeight_6 rfl ?_
    refine s_iconst (v := 3) dX7_isWeight_7 rfl ?_
    refine s_icmp_gt (tgt := 15) dX7_isWeight_8 (by decide) (fun h_8 => ?_) (fun h_8 => ?_)
    · refine s_iconst (v := 0) dX7_isWeight_15 rfl ?_
      exact s_zret dX7_isWeight_16 rfl (by first | exact Or.inl rfl | exact Or.inr rfl) ⟨by simp [h_3, h_8], rfl⟩ rfl
    · refine s_iconst (v := 1) dX7_isWeight_11 rfl ?_
      refine s_goto (tgt := 16) dX7_isWeight_12 (by decide) ?_
      exact s_zret dX7_isWeight_16 rfl (by first | exact Or.inl rfl | exact Or.inr rfl) ⟨by simp [h_3, h_8], rfl⟩ rfl
set_option maxHeartbeats 4000000 in
set_option maxRecDepth 100000 in
theorem c_X7_isTimes {Z : zS} {d : Nat} {w : zW} {a : Int32} : zF Z M_X7_isTimes (d) [.int a] w [.int (if a < 1 then 0 else if 3 < a then 0 else 1)] w := by
  show zG Z M_X7_isTimes (d) _ _ 0 [(0, .int a)] [] w
  refine s_iload_n dX7_isTimes_0 rfl ?_
  refine s_iconst (v := 1) dX7_isTimes_1 rfl ?_
  refine s_icmp_lt (tgt := 14) dX7_isTimes_2 (by decide) (fun h_2 => ?_) (fun h_2 => ?_)
  · refine s_iconst (v := 0) dX7_isTimes_14 rfl ?_
    exact s_zret dX7_isTimes_15 rfl (by first | exact Or.inl rfl | exact Or.inr rfl) ⟨by simp [h_2], rfl⟩ rfl
  · refine s_iload_n dX7_isTimes_5 rfl ?_
    refine s_iconst (v := 3) dX7_isTimes_6 rfl ?_
    refine s_icmp_gt (tgt := 14) dX7_isTimes_7 (by decide) (fun h_7 => ?_) (fun h_7 => ?_)
    · refine s_iconst (v := 0) dX7_isTimes_14 rfl ?_
      exact s_zret dX7_isTimes_15 rfl (by first | exact Or.inl rfl | exact Or.inr rfl) ⟨by simp [h_2, h_7], rfl⟩ rfl
    · refine s_iconst (v := 1) dX7_isTimes_10 rfl ?_
      refine s_goto (tgt := 15) dX7_isTimes_11 (by decide) ?_
      exact s_zret dX7_isTimes_15 rfl (by first | exact Or.inl rfl | exact Or.inr rfl) ⟨by simp [h_2, h_7], rfl⟩ rfl
set_option maxHeartbeats 4000000 in
set_option maxRecDepth 100000 in
theorem c_X7_isPlace {Z : zS} {d : Nat} {w : zW} {a : Int32} : zF Z M_X7_isPlace (d) [.int a] w [.int (if a < 0 then 0 else if 3 < a then 0 else 1)] w := by
  show zG Z M_X7_isPlace (d) _ _ 0 [(0, .int a)] [] w
  refine s_iload_n dX7_isPlace_0 rfl ?_
  refine s_if_lt (tgt := 13) dX7_isPlace_1 (by decide) (fun h_1 => ?_) (fun h_1 => ?_)
  · refine s_iconst (v := 0) dX7_isPlace_13 rfl ?_
    exact s_zret dX7_isPlace_14 rfl (by first | exact Or.inl rfl | exact Or.inr rfl) ⟨by simp [h_1], rfl⟩ rfl
  · refine s_iload_n dX7_isPlace_4 rfl ?_
    refine s_iconst (v := 3) dX7_isPlace_5 rfl ?_
    refine s_icmp_gt (tgt := 13) dX7_isPlace_6 (by decide) (fun h_6 => ?_) (fun h_6 => ?_)
    · refine s_iconst (v := 0) dX7_isPlace_13 rfl ?_
      exact s_zret dX7_isPlace_14 rfl (by first | exact Or.inl rfl | exact Or.inr rfl) ⟨by simp [h_1, h_6], rfl⟩ rfl
    · refine s_iconst (v := 1) dX7_isPlace_9 rfl ?_
      refine s_goto (tgt := 14) dX7_isPlace_10 (by decide) ?_
      exact s_zret dX7_isPlace_14 rfl (by first | exact Or.inl rfl | exact Or.inr rfl) ⟨by simp [h_1, h_6], rfl⟩ rfl
set_option maxHeartbeats 4000000 in
set_option maxRecDepth 100000 in
theorem c_X7_bitOf {Z : zS} {d : Nat} {w : zW} {a b : Int32} : zF Z M_X7_bitOf (d) [.int a, .int b] w [.int (a >>> (b &&& 31) &&& 1)] w := by
  show zG Z M_X7_bitOf (d) _ _ 0 [(0, .int a), (1, .int b)] [] w
  refine s_iload_n dX7_bitOf_0 rfl ?_
  refine s_iload_n dX7_bitOf_1 rfl ?_
  refine s_ishr dX7_bitOf_2 ?_
  refine s_iconst (v := 1) dX7_bitOf_3 rfl ?_
  refine s_iand dX7_bitOf_4 ?_
  exact s_iret dX7_bitOf_5 rfl ⟨rfl, rfl⟩ rfl
