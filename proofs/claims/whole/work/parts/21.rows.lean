/-! ===== rows, tapes, what is held ===== -/
theorem zg1 {w : zW} {i j : Nat} {x e : va_E} (h : w[j]? = some e) (hn : i ≠ j) : (w.set i x)[j]? = some e := by
  rw [List.getElem?_set_ne hn]
  exact h
theorem zgs {w : zW} {i : Nat} {x : va_E} (hl : i < w.length) : (w.set i x)[i]? = some x := by
  rw [List.getElem?_set_self hl]
theorem zlt {w : zW} {i : Nat} {e : va_E} (h : w[i]? = some e) : i < w.length := (List.getElem?_eq_some_iff.mp h).1
abbrev oRW (a b : Nat) (n : Int32) : va_E := .inr (1, [.ref a, .ref b, .int n])
abbrev oTP (a : Nat) (s n : Int32) : va_E := .inr (3, [.ref a, .int s, .int n])
abbrev oHD (b k : Int32) (x y z : Nat) : va_E := .inr (0, [.int b, .int k, .ref x, .ref y, .ref z])
abbrev oSH (m l : Int32) (a b c d : Nat) : va_E := .inr (2, [.int m, .int l, .ref a, .ref b, .ref c, .ref d])
abbrev oTX (a : Nat) (n : Int32) : va_E := .inr (4, [.ref a, .int n])
abbrev aI (n : Nat) (f : Nat → Int32) : va_E := .inl (0, n, .inl f)
abbrev aL (n : Nat) (f : Nat → Int64) : va_E := .inl (1, n, .inr (.inl f))
abbrev aB (n : Nat) (f : Nat → Int32) : va_E := .inl (2, n, .inl f)
abbrev aZ (n : Nat) (f : Nat → Int32) : va_E := .inl (3, n, .inl f)
set_option maxHeartbeats 4000000 in
set_option maxRecDepth 100000 in
theorem c_X3_empty {Z : zS} {d : Nat} {w : zW} {k a b : Nat} {n : Int32} (hk : w[k]? = some (oRW a b n)) : zF Z M_X3_empty (d) [.ref k] w [.int 0] (w.set k (oRW a b 0)) := by
  show zG Z M_X3_empty (d) _ _ 0 [(0, .ref k)] [] w
  refine s_aload_n dX3_empty_0 rfl ?_
  refine s_iconst (v := 0) dX3_empty_1 rfl ?_
  refine s_put dX3_empty_2 f_X3_18 (by assumption) (fun _ => ⟨rfl, rfl⟩) (Nat.le_of_ble_eq_true rfl) ?_
  refine s_iconst (v := 0) dX3_empty_5 rfl ?_
  exact s_iret dX3_empty_6 rfl ⟨rfl, rfl⟩ (by simp only [List.length_set]; rfl)
set_option maxHeartbeats 4000000 in
set_option maxRecDepth 100000 in
theorem c_append_full {Z : zS} {d : Nat} {w : zW} {k a b s l : Nat} {x y : Int32} (hk : w[k]? = some (oRW a b (nI s))) (hs : s < 2 ^ 31) (hl : l ≤ s) : zF Z M_X3_append (d) [.ref k, .int x, .int y, .int (nI l)] w [.int (-4)] w := by
  show zG Z M_X3_append (d) _ _ 0 [(0, .ref k), (1, .int x), (2, .int y), (3, .int (nI l))] [] w
  refine s_aload_n dX3_append_0 rfl ?_
  refine s_get dX3_append_1 f_X3_18 (by assumption) (by rfl) ?_
  refine s_iload_n dX3_append_4 rfl ?_
  refine s_icmp_ge (tgt := 17) dX3_append_5 (by decide) (fun hz => ?_) (fun h => absurd (nI_le hl hs) h)
  clear hz
  refine s_bipush (v := (-4)) dX3_append_17 rfl ?_
  exact s_iret dX3_append_19 rfl ⟨rfl, rfl⟩ rfl
set_option maxHeartbeats 4000000 in
set_option maxRecDepth 100000 in
theorem c_append_ok {Z : zS} {d : Nat} {w : zW} {k a b s l : Nat} {f g : Nat → Int32} (hk : w[k]? = some (oRW a b (nI s))) (ha : w[a]? = some (aI 8 f)) (hb : w[b]? = some (aI 8 g)) (n1 : a ≠ k) (n2 : b ≠ k) (n3 : a ≠ b) {x y : Int32} (hs : s < l) (hl : l ≤ 8) : zF Z M_X3_append (d) [.ref k, .int x, .int y, .int (nI l)] w [.int (nI (s + 1))] (((w.set a (aI 8 (upd f s x))).set b (aI 8 (upd g s y))).set k (oRW a b (nI (s + 1)))) := by
  show zG Z M_X3_append (d) _ _ 0 [(0, .ref k), (1, .int x), (2, .int y), (3, .int (nI l))] [] w
  have lk := zlt hk
  have la := zlt ha
  have lb := zlt hb
  have n1s := n1.symm
  have n2s := n2.symm
  have n3s := n3.symm
  have hc : (nI s).toNatClampNeg = s := nI_clamp (by omega)
  refine s_aload_n dX3_append_0 rfl ?_
  refine s_get dX3_append_1 f_X3_18 (by repeat (first | assumption | refine zg1 ?_ (by assumption) | (refine zgs ?_; (try simp only [List.length_set]); assumption))) (by rfl) ?_
  refine s_iload_n dX3_append_4 rfl ?_
  refine s_icmp_ge (tgt := 17) dX3_append_5 (by decide) (fun h => absurd h (nI_ge hs (by omega))) (fun hz => ?_)
  clear hz
  refine s_aload_n dX3_append_8 rfl ?_
  refine s_get dX3_append_9 f_X3_18 (by repeat (first | assumption | refine zg1 ?_ (by assumption) | (refine zgs ?_; (try simp only [List.length_set]); assumption))) (by rfl) ?_
  refine s_bipush (v := 8) dX3_append_12 rfl ?_
  refine s_icmp_lt (tgt := 20) dX3_append_14 (by decide) (fun hz => ?_) (fun h => absurd (nI_lt (show s < 8 by omega) (by decide)) h)
  clear hz
  refine s_aload_n dX3_append_20 rfl ?_
  refine s_get dX3_append_21 f_X3_11 (by repeat (first | assumption | refine zg1 ?_ (by assumption) | (refine zgs ?_; (try simp only [List.length_set]); assumption))) (by rfl) ?_
  refine s_aload_n dX3_append_24 rfl ?_
  refine s_get dX3_append_25 f_X3_18 (by repeat (first | assumption | refine zg1 ?_ (by assumption) | (refine zgs ?_; (try simp only [List.length_set]); assumption))) (by rfl) ?_
  refine s_iload_n dX3_append_28 rfl ?_
  refine s_iast dX3_append_29 (by repeat (first | assumption | refine zg1 ?_ (by assumption) | (refine zgs ?_; (try simp only [List.length_set]); assumption))) (zrd (n := 8) (by omega) (by decide)) ?_
  refine s_aload_n dX3_append_30 rfl ?_
  refine s_get dX3_append_31 f_X3_15 (by repeat (first | assumption | refine zg1 ?_ (by assumption) | (refine zgs ?_; (try simp only [List.length_set]); assumption))) (by rfl) ?_
  refine s_aload_n dX3_append_34 rfl ?_
  refine s_get dX3_append_35 f_X3_18 (by repeat (first | assumption | refine zg1 ?_ (by assumption) | (refine zgs ?_; (try simp only [List.length_set]); assumption))) (by rfl) ?_
  refine s_iload_n dX3_append_38 rfl ?_
  refine s_iast dX3_append_39 (by repeat (first | assumption | refine zg1 ?_ (by assumption) | (refine zgs ?_; (try simp only [List.length_set]); assumption))) (zrd (n := 8) (by omega) (by decide)) ?_
  refine s_aload_n dX3_append_40 rfl ?_
  refine s_dup dX3_append_41 rfl ?_
  refine s_get dX3_append_42 f_X3_18 (by repeat (first | assumption | refine zg1 ?_ (by assumption) | (refine zgs ?_; (try simp only [List.length_set]); assumption))) (by rfl) ?_
  refine s_iconst (v := 1) dX3_append_45 rfl ?_
  refine s_iadd dX3_append_46 ?_
  refine s_put dX3_append_47 f_X3_18 (by repeat (first | assumption | refine zg1 ?_ (by assumption) | (refine zgs ?_; (try simp only [List.length_set]); assumption))) (fun _ => ⟨rfl, rfl⟩) (Nat.le_of_ble_eq_true rfl) ?_
  refine s_aload_n dX3_append_50 rfl ?_
  refine s_get dX3_append_51 f_X3_18 (by repeat (first | assumption | refine zg1 ?_ (by assumption) | (refine zgs ?_; (try simp only [List.length_set]); assumption))) (by rfl) ?_
  exact s_iret dX3_append_54 rfl ⟨by rw [nI_1], by rw [hc, nI_1]; rfl⟩ (by simp only [List.length_set]; rfl)
set_option maxHeartbeats 4000000 in
set_option maxRecDepth 100000 in
theorem c_X3_whatAt {Z : zS} {d : Nat} {w : zW} {k a b i : Nat} {n : Int32} {f : Nat → Int32} (hk : w[k]? = some (oRW a b n)) (ha : w[a]? = some (aI 8 f)) (hi : i < 8) : zF Z M_X3_whatAt (d) [.ref k, .int (nI i)] w [.int (f i)] w := by
  show zG Z M_X3_whatAt (d) _ _ 0 [(0, .ref k), (1, .int (nI i))] [] w
  refine s_iload_n dX3_whatAt_0 rfl ?_
  refine s_if_lt (tgt := 19) dX3_whatAt_1 (by decide) (fun h => absurd h (nI_pos (show i < 2 ^ 31 by omega))) (fun hz => ?_)
  clear hz
  refine s_iload_n dX3_whatAt_4 rfl ?_
  refine s_bipush (v := 8) dX3_whatAt_5 rfl ?_
  refine s_icmp_ge (tgt := 19) dX3_whatAt_7 (by decide) (fun h => absurd h (nI_ge hi (by decide))) (fun hz => ?_)
  clear hz
  refine s_aload_n dX3_whatAt_10 rfl ?_
  refine s_get dX3_whatAt_11 f_X3_11 (by assumption) (by rfl) ?_
  refine s_iload_n dX3_whatAt_14 rfl ?_
  refine s_iald dX3_whatAt_15 (by assumption) (zrd (n := 8) hi (by decide)) ?_
  refine s_goto (tgt := 20) dX3_whatAt_16 (by decide) ?_
  exact s_iret dX3_whatAt_20 rfl ⟨by rw [nI_clamp (show i < 2 ^ 31 by omega)], rfl⟩ rfl
set_option maxHeartbeats 4000000 in
set_option maxRecDepth 100000 in
theorem c_X3_numberAt {Z : zS} {d : Nat} {w : zW} {k a b i : Nat} {n : Int32} {f : Nat → Int32} (hk : w[k]? = some (oRW a b n)) (ha : w[b]? = some (aI 8 f)) (hi : i < 8) : zF Z M_X3_numberAt (d) [.ref k, .int (nI i)] w [.int (f i)] w := by
  show zG Z M_X3_numberAt (d) _ _ 0 [(0, .ref k), (1, .int (nI i))] [] w
  refine s_iload_n dX3_numberAt_0 rfl ?_
  refine s_if_lt (tgt := 19) dX3_numberAt_1 (by decide) (fun h => absurd h (nI_pos (show i < 2 ^ 31 by omega))) (fun hz => ?_)
  clear hz
  refine s_iload_n dX3_numberAt_4 rfl ?_
  refine s_bipush (v := 8) dX3_numberAt_5 rfl ?_
  refine s_icmp_ge (tgt := 19) dX3_numberAt_7 (by decide) (fun h => absurd h (nI_ge hi (by decide))) (fun hz => ?_)
  clear hz
  refine s_aload_n dX3_numberAt_10 rfl ?_
  refine s_get dX3_numberAt_11 f_X3_15 (by assumption) (by rfl) ?_
  refine s_iload_n dX3_numberAt_14 rfl ?_
  refine s_iald dX3_numberAt_15 (by assumption) (zrd (n := 8) hi (by decide)) ?_
  refine s_goto (tgt := 20) dX3_numberAt_16 (by decide) ?_
  exact s_iret dX3_numberAt_20 rfl ⟨by rw [nI_clamp (show i < 2 ^ 31 by omega)], rfl⟩ rfl
set_option maxHeartbeats 4000000 in
set_option maxRecDepth 100000 in
theorem c_X3_copyFrom {Z : zS} {d : Nat} {w : zW} {k a b k2 a2 b2 : Nat} {n n2 : Int32} {f g f2 g2 : Nat → Int32} (hk : w[k]? = some (oRW a b n)) (ha : w[a]? = some (aI 8 f)) (hb : w[b]? = some (aI 8 g)) (hk2 : w[k2]? = some (oRW a2 b2 n2)) (ha2 : w[a2]? = some (aI 8 f2)) (hb2 : w[b2]? = some (aI 8 g2)) (n1 : a ≠ k) (n2q : b ≠ k) (n3 : a ≠ b) (n4 : a ≠ k2) (n5 : b ≠ k2) (n6 : a ≠ b2) (n7 : k ≠ k2) : zF Z M_X3_copyFrom (d + 1) [.ref k, .ref k2] w [] (((w.set a (aI 8 (va_cpy f2 f 0 0 8))).set b (aI 8 (va_cpy g2 g 0 0 8))).set k (oRW a b n2)) := by
  show zG Z M_X3_copyFrom (d + 1) _ _ 0 [(0, .ref k), (1, .ref k2)] [] w
  refine s_aload_n dX3_copyFrom_0 rfl ?_
  refine s_get dX3_copyFrom_1 f_X3_11 (by repeat (first | assumption | refine zg1 ?_ (by assumption) | (refine zgs ?_; (try simp only [List.length_set]); assumption))) (by rfl) ?_
  refine s_iconst (v := 0) dX3_copyFrom_4 rfl ?_
  refine s_aload_n dX3_copyFrom_5 rfl ?_
  refine s_get dX3_copyFrom_6 f_X3_11 (by repeat (first | assumption | refine zg1 ?_ (by assumption) | (refine zgs ?_; (try simp only [List.length_set]); assumption))) (by rfl) ?_
  refine s_iconst (v := 0) dX3_copyFrom_9 rfl ?_
  refine s_bipush (v := 8) dX3_copyFrom_10 rfl ?_
  refine s_copyI dX3_copyFrom_12 (zin 615 (by decide +kernel) (by decide +kernel)) (zin 617 (by decide +kernel) (by decide +kernel)) (zin 616 (by decide +kernel) (by decide +kernel)) (zin 72 (by decide +kernel) (by decide +kernel)) (by repeat (first | assumption | refine zg1 ?_ (by assumption) | (refine zgs ?_; (try simp only [List.length_set]); assumption))) (by repeat (first | assumption | refine zg1 ?_ (by assumption) | (refine zgs ?_; (try simp only [List.length_set]); assumption))) (by decide) (by decide) (by decide) (by decide) (by decide) (Nat.le_of_ble_eq_true rfl) ?_
  refine s_aload_n dX3_copyFrom_15 rfl ?_
  refine s_get dX3_copyFrom_16 f_X3_15 (by repeat (first | assumption | refine zg1 ?_ (by assumption) | (refine zgs ?_; (try simp only [List.length_set]); assumption))) (by rfl) ?_
  refine s_iconst (v := 0) dX3_copyFrom_19 rfl ?_
  refine s_aload_n dX3_copyFrom_20 rfl ?_
  refine s_get dX3_copyFrom_21 f_X3_15 (by repeat (first | assumption | refine zg1 ?_ (by assumption) | (refine zgs ?_; (try simp only [List.length_set]); assumption))) (by rfl) ?_
  refine s_iconst (v := 0) dX3_copyFrom_24 rfl ?_
  refine s_bipush (v := 8) dX3_copyFrom_25 rfl ?_
  refine s_copyI dX3_copyFrom_27 (zin 615 (by decide +kernel) (by decide +kernel)) (zin 617 (by decide +kernel) (by decide +kernel)) (zin 616 (by decide +kernel) (by decide +kernel)) (zin 72 (by decide +kernel) (by decide +kernel)) (by repeat (first | assumption | refine zg1 ?_ (by assumption) | (refine zgs ?_; (try simp only [List.length_set]); assumption))) (by repeat (first | assumption | refine zg1 ?_ (by assumption) | (refine zgs ?_; (try simp only [List.length_set]); assumption))) (by decide) (by decide) (by decide) (by decide) (by decide) (Nat.le_of_ble_eq_true rfl) ?_
  refine s_aload_n dX3_copyFrom_30 rfl ?_
  refine s_aload_n dX3_copyFrom_31 rfl ?_
  refine s_get dX3_copyFrom_32 f_X3_18 (by repeat (first | assumption | refine zg1 ?_ (by assumption) | (refine zgs ?_; (try simp only [List.length_set]); assumption))) (by rfl) ?_
  refine s_put dX3_copyFrom_35 f_X3_18 (by repeat (first | assumption | refine zg1 ?_ (by assumption) | (refine zgs ?_; (try simp only [List.length_set]); assumption))) (fun _ => ⟨rfl, rfl⟩) (Nat.le_of_ble_eq_true rfl) ?_
  exact s_vret dX3_copyFrom_38 rfl ⟨rfl, rfl⟩ (by simp only [List.length_set]; rfl)
set_option maxHeartbeats 4000000 in
set_option maxRecDepth 100000 in
theorem c_X5_holdsRow {Z : zS} {d : Nat} {w : zW} {k a : Nat} {s n : Int32} (hk : w[k]? = some (oTP a s n)) : zF Z M_X5_holdsRow (d) [.ref k] w [.int (if s = -1 then 0 else 1)] w := by
  show zG Z M_X5_holdsRow (d) _ _ 0 [(0, .ref k)] [] w
  refine s_aload_n dX5_holdsRow_0 rfl ?_
  refine s_get dX5_holdsRow_1 f_X5_13 (by assumption) (by rfl) ?_
  refine s_iconst (v := (-1)) dX5_holdsRow_4 rfl ?_
  refine s_icmp_eq (tgt := 12) dX5_holdsRow_5 (by decide) (fun h_5 => ?_) (fun h_5 => ?_)
  · refine s_iconst (v := 0) dX5_holdsRow_12 rfl ?_
    exact s_zret dX5_holdsRow_13 rfl (by first | exact Or.inl rfl | exact Or.inr rfl) ⟨by simp [h_5], rfl⟩ rfl
  · refine s_iconst (v := 1) dX5_holdsRow_8 rfl ?_
    refine s_goto (tgt := 13) dX5_holdsRow_9 (by decide) ?_
    exact s_zret dX5_holdsRow_13 rfl (by first | exact Or.inl rfl | exact Or.inr rfl) ⟨by simp [h_5], rfl⟩ rfl
set_option maxHeartbeats 4000000 in
set_option maxRecDepth 100000 in
theorem c_X5_hasPlace {Z : zS} {d : Nat} {w : zW} {k a : Nat} {s n i : Int32} (hk : w[k]? = some (oTP a s n)) : zF Z M_X5_hasPlace (d) [.ref k, .int i] w [.int (if i < 0 then 0 else if n ≤ i then 0 else if 60 ≤ i then 0 else 1)] w := by
  show zG Z M_X5_hasPlace (d) _ _ 0 [(0, .ref k), (1, .int i)] [] w
  refine s_iload_n dX5_hasPlace_0 rfl ?_
  refine s_if_lt (tgt := 22) dX5_hasPlace_1 (by decide) (fun h_1 => ?_) (fun h_1 => ?_)
  · refine s_iconst (v := 0) dX5_hasPlace_22 rfl ?_
    exact s_zret dX5_hasPlace_23 rfl (by first | exact Or.inl rfl | exact Or.inr rfl) ⟨by simp [h_1], rfl⟩ rfl
  · refine s_iload_n dX5_hasPlace_4 rfl ?_
    refine s_aload_n dX5_hasPlace_5 rfl ?_
    refine s_get dX5_hasPlace_6 f_X5_17 (by assumption) (by rfl) ?_
    refine s_icmp_ge (tgt := 22) dX5_hasPlace_9 (by decide) (fun h_9 => ?_) (fun h_9 => ?_)
    · refine s_iconst (v := 0) dX5_hasPlace_22 rfl ?_
      exact s_zret dX5_hasPlace_23 rfl (by first | exact Or.inl rfl | exact Or.inr rfl) ⟨by simp [h_1, h_9], rfl⟩ rfl
    · refine s_iload_n dX5_hasPlace_12 rfl ?_
      refine s_bipush (v := 60) dX5_hasPlace_13 rfl ?_
      refine s_icmp_ge (tgt := 22) dX5_hasPlace_15 (by decide) (fun h_15 => ?_) (fun h_15 => ?_)
      · refine s_iconst (v := 0) dX5_hasPlace_22 rfl ?_
        exact s_zret dX5_hasPlace_23 rfl (by first | exact Or.inl rfl | exact Or.inr rfl) ⟨by simp [h_1, h_9, h_15], rfl⟩ rfl
      · refine s_iconst (v := 1) dX5_hasPlace_18 rfl ?_
        refine s_goto (tgt := 23) dX5_hasPlace_19 (by decide) ?_
        exact s_zret dX5_hasPlace_23 rfl (by first | exact Or.inl rfl | exact Or.inr rfl) ⟨by simp [h_1, h_9, h_15], rfl⟩ rfl
set_option maxHeartbeats 4000000 in
set_option maxRecDepth 100000 in
theorem c_X5_hasRun {Z : zS} {d : Nat} {w : zW} {k a : Nat} {s n i m : Int32} (hk : w[k]? = some (oTP a s n)) : zF Z M_X5_hasRun (d) [.ref k, .int i, .int m] w [.int (if m < 0 then 0 else if i < 0 then 0 else if n < m then 0 else if n - m < i then 0 else 1)] w := by
  show zG Z M_X5_hasRun (d) _ _ 0 [(0, .ref k), (1, .int i), (2, .int m)] [] w
  refine s_iload_n dX5_hasRun_0 rfl ?_
  refine s_if_lt (tgt := 30) dX5_hasRun_1 (by decide) (fun h_1 => ?_) (fun h_1 => ?_)
  · refine s_iconst (v := 0) dX5_hasRun_30 rfl ?_
    exact s_zret dX5_hasRun_31 rfl (by first | exact Or.inl rfl | exact Or.inr rfl) ⟨by simp [h_1], rfl⟩ rfl
  · refine s_iload_n dX5_hasRun_4 rfl ?_
    refine s_if_lt (tgt := 30) dX5_hasRun_5 (by decide) (fun h_5 => ?_) (fun h_5 => ?_)
    · refine s_iconst (v := 0) dX5_hasRun_30 rfl ?_
      exact s_zret dX5_hasRun_31 rfl (by first | exact Or.inl rfl | exact Or.inr rfl) ⟨by simp [h_1, h_5], rfl⟩ rfl
    · refine s_iload_n dX5_hasRun_8 rfl ?_
      refine s_aload_n dX5_hasRun_9 rfl ?_
      refine s_get dX5_hasRun_10 f_X5_17 (by assumption) (by rfl) ?_
      refine s_icmp_gt (tgt := 30) dX5_hasRun_13 (by decide) (fun h_13 => ?_) (fun h_13 => ?_)
      · refine s_iconst (v := 0) dX5_hasRun_30 rfl ?_
        exact s_zret dX5_hasRun_31 rfl (by first | exact Or.inl rfl | exact Or.inr rfl) ⟨by simp [h_1, h_5, h_13], rfl⟩ rfl
      · refine s_iload_n dX5_hasRun_16 rfl ?_
        refine s_aload_n dX5_hasRun_17 rfl ?_
        refine s_get dX5_hasRun_18 f_X5_17 (by assumption) (by rfl) ?_
        refine s_iload_n dX5_hasRun_21 rfl ?_
        refine s_isub dX5_hasRun_22 ?_
        refine s_icmp_gt (tgt := 30) dX5_hasRun_23 (by decide) (fun h_23 => ?_) (fun h_23 => ?_)
        · refine s_iconst (v := 0) dX5_hasRun_30 rfl ?_
          exact s_zret dX5_hasRun_31 rfl (by first | exact Or.inl rfl | exact Or.inr rfl) ⟨by simp [h_1, h_5, h_13, h_23], rfl⟩ rfl
        · refine s_iconst (v := 1) dX5_hasRun_26 rfl ?_
          refine s_goto (tgt := 31) dX5_hasRun_27 (by decide) ?_
          exact s_zret dX5_hasRun_31 rfl (by first | exact Or.inl rfl | exact Or.inr rfl) ⟨by simp [h_1, h_5, h_13, h_23], rfl⟩ rfl
theorem zhp {i z : Nat} (hi : i < z) (hz : z ≤ 60) : (if nI i < 0 then (0 : Int32) else if nI z ≤ nI i then 0 else if 60 ≤ nI i then 0 else 1) = 1 := by
  rw [if_neg (nI_pos (by omega)), if_neg (nI_ge hi (by omega)), if_neg (show ¬ (60 : Int32) ≤ nI i from nI_ge (show i < 60 by omega) (by decide))]
def zcut (s : Nat) (v : Int64) : Int64 := if s = 0 then v.toInt32.toInt8.toInt32.toInt64 else if s = 1 then v.toInt32.toInt16.toInt32.toInt64 else if s = 2 then v.toInt32.toInt64 else if s = 3 then v else if v = 0 then 0 else 1
set_option maxHeartbeats 4000000 in
set_option maxRecDepth 100000 in
theorem c_X5_itemAt {Z : zS} {d : Nat} {w : zW} {k a i z : Nat} {s : Int32} {f : Nat → Int64} (hk : w[k]? = some (oTP a s (nI z))) (ha : w[a]? = some (aL 60 f)) (hi : i < z) (hz : z ≤ 60) : zF Z M_X5_itemAt (d + 1) [.ref k, .int (nI i)] w [.long (f i)] w := by
  show zG Z M_X5_itemAt (d + 1) _ _ 0 [(0, .ref k), (1, .int (nI i))] [] w
  refine s_aload_n dX5_itemAt_0 rfl ?_
  refine s_iload_n dX5_itemAt_1 rfl ?_
  refine s_cv1 dX5_itemAt_2 g_X5_20 (c_X5_hasPlace hk) (by assumption) rfl rfl rfl rfl (Nat.le_of_ble_eq_true rfl) (Nat.le_of_ble_eq_true rfl) rfl ?_
  refine s_if_eq (tgt := 17) dX5_itemAt_5 (by decide) (fun h => absurd h (by rw [zhp hi hz]; decide)) (fun hz => ?_)
  clear hz
  refine s_aload_n dX5_itemAt_8 rfl ?_
  refine s_get dX5_itemAt_9 f_X5_9 (by assumption) (by rfl) ?_
  refine s_iload_n dX5_itemAt_12 rfl ?_
  refine s_lald dX5_itemAt_13 (by assumption) (zrd (n := 60) (by omega) (by decide)) ?_
  refine s_goto (tgt := 18) dX5_itemAt_14 (by decide) ?_
  exact s_lret dX5_itemAt_18 rfl ⟨by rw [nI_clamp (show i < 2 ^ 31 by omega)], rfl⟩ rfl
set_option maxHeartbeats 4000000 in
set_option maxRecDepth 100000 in
theorem c_cut0 {Z : zS} {d : Nat} {w : zW} {k a : Nat} {n : Int32} {v : Int64} (hk : w[k]? = some (oTP a (nI 0) n)) : zF Z M_X5_cut (d) [.ref k, .long v] w [.long (zcut 0 v)] w := by
  show zG Z M_X5_cut (d) _ _ 0 [(0, .ref k), (1, .long v)] [] w
  refine s_aload_n dX5_cut_0 rfl ?_
  refine s_get dX5_cut_1 f_X5_13 (by assumption) (by rfl) ?_
  refine s_tableIn (off := 32) (tgt := 36) dX5_cut_4 (by decide) (by decide) (by rfl) (by decide) ?_
  refine s_lload_n dX5_cut_36 rfl ?_
  refine s_l2i dX5_cut_37 rfl ?_
  refine s_i2b dX5_cut_38 rfl ?_
  refine s_i2l dX5_cut_39 rfl ?_
  exact s_lret dX5_cut_40 rfl ⟨rfl, rfl⟩ rfl
set_option maxHeartbeats 4000000 in
set_option maxRecDepth 100000 in
theorem c_cut1 {Z : zS} {d : Nat} {w : zW} {k a : Nat} {n : Int32} {v : Int64} (hk : w[k]? = some (oTP a (nI 1) n)) : zF Z M_X5_cut (d) [.ref k, .long v] w [.long (zcut 1 v)] w := by
  show zG Z M_X5_cut (d) _ _ 0 [(0, .ref k), (1, .long v)] [] w
  refine s_aload_n dX5_cut_0 rfl ?_
  refine s_get dX5_cut_1 f_X5_13 (by assumption) (by rfl) ?_
  refine s_tableIn (off := 37) (tgt := 41) dX5_cut_4 (by decide) (by decide) (by rfl) (by decide) ?_
  refine s_lload_n dX5_cut_41 rfl ?_
  refine s_l2i dX5_cut_42 rfl ?_
  refine s_i2s dX5_cut_43 rfl ?_
  refine s_i2l dX5_cut_44 rfl ?_
  exact s_lret dX5_cut_45 rfl ⟨rfl, rfl⟩ rfl
set_option maxHeartbeats 4000000 in
set_option maxRecDepth 100000 in
theorem c_cut2 {Z : zS} {d : Nat} {w : zW} {k a : Nat} {n : Int32} {v : Int64} (hk : w[k]? = some (oTP a (nI 2) n)) : zF Z M_X5_cut (d) [.ref k, .long v] w [.long (zcut 2 v)] w := by
  show zG Z M_X5_cut (d) _ _ 0 [(0, .ref k), (1, .long v)] [] w
  refine s_aload_n dX5_cut_0 rfl ?_
  refine s_get dX5_cut_1 f_X5_13 (by assumption) (by rfl) ?_
  refine s_tableIn (off := 42) (tgt := 46) dX5_cut_4 (by decide) (by decide) (by rfl) (by decide) ?_
  refine s_lload_n dX5_cut_46 rfl ?_
  refine s_l2i dX5_cut_47 rfl ?_
  refine s_i2l dX5_cut_48 rfl ?_
  exact s_lret dX5_cut_49 rfl ⟨rfl, rfl⟩ rfl
set_option maxHeartbeats 4000000 in
set_option maxRecDepth 100000 in
theorem c_cut3 {Z : zS} {d : Nat} {w : zW} {k a : Nat} {n : Int32} {v : Int64} (hk : w[k]? = some (oTP a (nI 3) n)) : zF Z M_X5_cut (d) [.ref k, .long v] w [.long (zcut 3 v)] w := by
  show zG Z M_X5_cut (d) _ _ 0 [(0, .ref k), (1, .long v)] [] w
  refine s_aload_n dX5_cut_0 rfl ?_
  refine s_get dX5_cut_1 f_X5_13 (by assumption) (by rfl) ?_
  refine s_tableIn (off := 46) (tgt := 50) dX5_cut_4 (by decide) (by decide) (by rfl) (by decide) ?_
  refine s_lload_n dX5_cut_50 rfl ?_
  exact s_lret dX5_cut_51 rfl ⟨rfl, rfl⟩ rfl
theorem zlcmp0 {v : Int64} : lg_cmp v 0 = 0 ↔ v = 0 := by
  unfold lg_cmp
  by_cases h1 : v > 0
  · rw [if_pos h1]
    refine ⟨fun e => absurd e (by decide), fun e => ?_⟩
    rw [e] at h1
    exact absurd h1 (by decide)
  · rw [if_neg h1]
    by_cases h2 : v = 0
    · rw [if_pos h2]
      exact ⟨fun _ => h2, fun _ => rfl⟩
    · rw [if_neg h2]
      exact ⟨fun e => absurd e (by decide), fun e => absurd e h2⟩
set_option maxHeartbeats 4000000 in
set_option maxRecDepth 100000 in
theorem c_cut4 {Z : zS} {d : Nat} {w : zW} {k a : Nat} {n : Int32} {v : Int64} (hk : w[k]? = some (oTP a (nI 4) n)) : zF Z M_X5_cut (d) [.ref k, .long v] w [.long (zcut 4 v)] w := by
  show zG Z M_X5_cut (d) _ _ 0 [(0, .ref k), (1, .long v)] [] w
  refine s_aload_n dX5_cut_0 rfl ?_
  refine s_get dX5_cut_1 f_X5_13 (by assumption) (by rfl) ?_
  refine s_tableOut (tgt := 52) dX5_cut_4 (Or.inr (by decide)) (by decide) ?_
  refine s_lload_n dX5_cut_52 rfl ?_
  refine s_lconst (v := 0) dX5_cut_53 rfl ?_
  refine s_lcmp dX5_cut_54 ?_
  refine s_if_eq (tgt := 62) dX5_cut_55 (by decide) (fun h_55 => ?_) (fun h_55 => ?_)
  · refine s_lconst (v := 0) dX5_cut_62 rfl ?_
    exact s_lret dX5_cut_63 rfl ⟨by first | (rw [show zcut 4 v = 0 from if_pos (zlcmp0.mp h_55)]) | (rw [show zcut 4 v = 1 from if_neg (fun z => h_55 (zlcmp0.mpr z))]), rfl⟩ rfl
  · refine s_lconst (v := 1) dX5_cut_58 rfl ?_
    refine s_goto (tgt := 63) dX5_cut_59 (by decide) ?_
    exact s_lret dX5_cut_63 rfl ⟨by first | (rw [show zcut 4 v = 0 from if_pos (zlcmp0.mp h_55)]) | (rw [show zcut 4 v = 1 from if_neg (fun z => h_55 (zlcmp0.mpr z))]), rfl⟩ rfl
theorem c_X5_cut {Z : zS} {d : Nat} {w : zW} {k a s : Nat} {n : Int32} {v : Int64} (hk : w[k]? = some (oTP a (nI s) n)) (hs : s < 5) : zF Z M_X5_cut d [.ref k, .long v] w [.long (zcut s v)] w := by
  rcases (show s = 0 ∨ s = 1 ∨ s = 2 ∨ s = 3 ∨ s = 4 by omega) with rfl | rfl | rfl | rfl | rfl
  · exact c_cut0 hk
  · exact c_cut1 hk
  · exact c_cut2 hk
  · exact c_cut3 hk
  · exact c_cut4 hk
set_option maxHeartbeats 4000000 in
set_option maxRecDepth 100000 in
theorem c_X5_put {Z : zS} {d : Nat} {w : zW} {k a i z s : Nat} {v : Int64} {f : Nat → Int64} (hk : w[k]? = some (oTP a (nI s) (nI z))) (ha : w[a]? = some (aL 60 f)) (hs : s < 5) (hi : i < z) (hz : z ≤ 60) : zF Z M_X5_put (d + 1) [.ref k, .int (nI i), .long v] w [] (w.set a (aL 60 (vp_updL f i (zcut s v)))) := by
  show zG Z M_X5_put (d + 1) _ _ 0 [(0, .ref k), (1, .int (nI i)), (2, .long v)] [] w
  refine s_aload_n dX5_put_0 rfl ?_
  refine s_iload_n dX5_put_1 rfl ?_
  refine s_cv1 dX5_put_2 g_X5_20 (c_X5_hasPlace hk) (by assumption) rfl rfl rfl rfl (Nat.le_of_ble_eq_true rfl) (Nat.le_of_ble_eq_true rfl) rfl ?_
  refine s_if_eq (tgt := 19) dX5_put_5 (by decide) (fun h => absurd h (by rw [zhp hi hz]; decide)) (fun hz => ?_)
  clear hz
  refine s_aload_n dX5_put_8 rfl ?_
  refine s_get dX5_put_9 f_X5_9 (by assumption) (by rfl) ?_
  refine s_iload_n dX5_put_12 rfl ?_
  refine s_aload_n dX5_put_13 rfl ?_
  refine s_lload_n dX5_put_14 rfl ?_
  refine s_cv1 dX5_put_15 g_X5_24 (c_X5_cut hk hs) (by assumption) rfl rfl rfl rfl (Nat.le_of_ble_eq_true rfl) (Nat.le_of_ble_eq_true rfl) rfl ?_
  refine s_last dX5_put_18 (by assumption) (zrd (n := 60) (by omega) (by decide)) ?_
  exact s_vret dX5_put_19 rfl ⟨rfl, by rw [nI_clamp (show i < 2 ^ 31 by omega)]⟩ (by simp only [List.length_set]; rfl)
def zfil (f : Nat → Int64) : Nat → Nat → Int64
  | 0 => f
  | i + 1 => vp_updL (zfil f i) i 0
set_option maxHeartbeats 4000000 in
set_option maxRecDepth 100000 in
theorem l_X5_becomeRow {Z : zS} {d : Nat} {w : zW} {k a : Nat} {s n1 p q : Int32} {f : Nat → Int64} (hk : w[k]? = some (oTP a s n1)) (ha : w[a]? = some (aL 60 f)) (n1q : a ≠ k) : ∀ (n : Nat) (i : Nat), i + n = 60 → zG Z M_X5_becomeRow (d) (fun r1 w1 => r1 = [] ∧ w1 = w.set a (aL 60 (zfil f 60))) w.length 12 [(0, .ref k), (1, .int p), (2, .int q), (3, .int (nI i))] [] (w.set a (aL 60 (zfil f i))) := by
  intro n
  induction n with
  | zero =>
    intro i hi
    have hi : i = 60 := by omega
    subst hi
    refine s_iload_n dX5_becomeRow_12 rfl ?_
    refine s_bipush (v := 60) dX5_becomeRow_13 rfl ?_
    refine s_icmp_ge (tgt := 31) dX5_becomeRow_15 (by decide) (fun hz => ?_) (fun h => absurd (by decide) h)
    clear hz
    exact s_vret dX5_becomeRow_31 rfl ⟨rfl, rfl⟩ (by simp only [List.length_set]; rfl)
  | succ n ih =>
    intro i hi
    have hm : i < 60 := by omega
    have la := zlt ha
    refine s_iload_n dX5_becomeRow_12 rfl ?_
    refine s_bipush (v := 60) dX5_becomeRow_13 rfl ?_
    refine s_icmp_ge (tgt := 31) dX5_becomeRow_15 (by decide) (fun h => absurd h (nI_ge hm (by decide))) (fun hz => ?_)
    clear hz
    refine s_aload_n dX5_becomeRow_18 rfl ?_
    refine s_get dX5_becomeRow_19 f_X5_9 (by repeat (first | assumption | refine zg1 ?_ (by assumption) | (refine zgs ?_; (try simp only [List.length_set]); assumption))) (by rfl) ?_
    refine s_iload_n dX5_becomeRow_22 rfl ?_
    refine s_lconst (v := 0) dX5_becomeRow_23 rfl ?_
    refine s_last dX5_becomeRow_24 (by repeat (first | assumption | refine zg1 ?_ (by assumption) | (refine zgs ?_; (try simp only [List.length_set]); assumption))) (zrd (n := 60) hm (by decide)) ?_
    refine s_iinc (nI (i + 1)) dX5_becomeRow_25 rfl (nI_1 _) (Nat.le_of_ble_eq_true rfl) rfl ?_
    refine s_goto (tgt := 12) dX5_becomeRow_28 (by decide) ?_
    rw [List.set_set, nI_clamp (by omega)]
    exact ih (i + 1) (by omega)
set_option maxHeartbeats 4000000 in
set_option maxRecDepth 100000 in
theorem c_X5_becomeRow {Z : zS} {d : Nat} {w : zW} {k a : Nat} {s n p q : Int32} {f : Nat → Int64} (hk : w[k]? = some (oTP a s n)) (ha : w[a]? = some (aL 60 f)) (n1 : a ≠ k) : zF Z M_X5_becomeRow (d) [.ref k, .int p, .int q] w [] ((w.set k (oTP a p q)).set a (aL 60 (zfil f 60))) := by
  show zG Z M_X5_becomeRow (d) _ _ 0 [(0, .ref k), (1, .int p), (2, .int q)] [] w
  have lk := zlt hk
  have la := zlt ha
  have n1s := n1.symm
  have hk2 : (w.set k (oTP a p q))[k]? = some (oTP a p q) := zgs (zlt hk)
  have ha2 : (w.set k (oTP a p q))[a]? = some (aL 60 f) := zg1 ha n1s
  have hx : (w.set k (oTP a p q)).set a (aL 60 f) = w.set k (oTP a p q) := by
    obtain ⟨hl, he⟩ := List.getElem?_eq_some_iff.mp ha2
    rw [← he, List.set_getElem_self]
  refine s_aload_n dX5_becomeRow_0 rfl ?_
  refine s_iload_n dX5_becomeRow_1 rfl ?_
  refine s_put dX5_becomeRow_2 f_X5_13 (by repeat (first | assumption | refine zg1 ?_ (by assumption) | (refine zgs ?_; (try simp only [List.length_set]); assumption))) (fun _ => ⟨rfl, rfl⟩) (Nat.le_of_ble_eq_true rfl) ?_
  refine s_aload_n dX5_becomeRow_5 rfl ?_
  refine s_iload_n dX5_becomeRow_6 rfl ?_
  refine s_put dX5_becomeRow_7 f_X5_17 (by repeat (first | assumption | refine zg1 ?_ (by assumption) | (refine zgs ?_; (try simp only [List.length_set]); assumption))) (fun _ => ⟨rfl, rfl⟩) (Nat.le_of_ble_eq_true rfl) ?_
  refine s_iconst (v := 0) dX5_becomeRow_10 rfl ?_
  refine s_istore_n dX5_becomeRow_11 (Nat.le_of_ble_eq_true rfl) rfl ?_
  rw [List.set_set]
  have K := l_X5_becomeRow (Z := Z) (d := d) (p := p) (q := q) hk2 ha2 n1 60 0 rfl
  rw [show zfil f 0 = f from rfl, hx, List.length_set] at K
  exact K
def pCHG (h b k : Nat) : Nat := if h = 0 then pFOR b else if h = 1 then b ^^^ 255 else if h = 2 then b ||| k else b &&& k
theorem pCHG_lt {h b k : Nat} (hb : b < 256) (hk : k < 256) : pCHG h b k < 256 := by
  unfold pCHG
  by_cases h0 : h = 0
  · rw [if_pos h0]; exact pFOR_lt hb
  · rw [if_neg h0]
    by_cases h1 : h = 1
    · rw [if_pos h1]; exact zxor8 hb (by decide)
    · rw [if_neg h1]
      by_cases h2 : h = 2
      · rw [if_pos h2]; exact zor8 hb hk
      · rw [if_neg h2]; exact zand8 hb
theorem pCHG0 (b k : Nat) : pCHG 0 b k = pFOR b := if_pos rfl
theorem pCHG1 (b k : Nat) : pCHG 1 b k = b ^^^ 255 := by unfold pCHG; rw [if_neg (by decide), if_pos rfl]
theorem pCHG2 (b k : Nat) : pCHG 2 b k = b ||| k := by unfold pCHG; rw [if_neg (by decide), if_neg (by decide), if_pos rfl]
theorem pCHG3 (b k : Nat) : pCHG 3 b k = b &&& k := by unfold pCHG; rw [if_neg (by decide), if_neg (by decide), if_neg (by decide)]
set_option maxHeartbeats 4000000 in
set_option maxRecDepth 100000 in
theorem c_chg0 {Z : zS} {d : Nat} {w : zW} {k b kp x y z : Nat} (hk : w[k]? = some (oHD (nI b) (nI kp) x y z)) (hb : b < 256) : zF Z M_X2_change (d + 3) [.ref k, .int (nI 0)] w [] (w.set k (oHD (nI (pCHG 0 b kp)) (nI kp) x y z)) := by
  show zG Z M_X2_change (d + 3) _ _ 0 [(0, .ref k), (1, .int (nI 0))] [] w
  refine s_iload_n dX2_change_0 rfl ?_
  refine s_tableIn (off := 31) (tgt := 32) dX2_change_1 (by decide) (by decide) (by rfl) (by decide) ?_
  refine s_aload_n dX2_change_32 rfl ?_
  refine s_aload_n dX2_change_33 rfl ?_
  refine s_get dX2_change_34 f_X2_9 (by repeat (first | assumption | refine zg1 ?_ (by assumption) | (refine zgs ?_; (try simp only [List.length_set]); assumption))) (by rfl) ?_
  refine s_cs1 dX2_change_37 g_X2_31 (c_X1_formOf hb) rfl rfl (Nat.le_of_ble_eq_true rfl) (Nat.le_of_ble_eq_true rfl) rfl ?_
  refine s_put dX2_change_40 f_X2_9 (by repeat (first | assumption | refine zg1 ?_ (by assumption) | (refine zgs ?_; (try simp only [List.length_set]); assumption))) (fun _ => ⟨rfl, rfl⟩) (Nat.le_of_ble_eq_true rfl) ?_
  refine s_goto (tgt := 93) dX2_change_43 (by decide) ?_
  exact s_vret dX2_change_93 rfl ⟨rfl, congrArg (fun q => w.set k (oHD q (nI kp) x y z)) (show nI (pFOR b) = nI (pCHG 0 b kp) from by rw [pCHG0])⟩ (by simp only [List.length_set]; rfl)
set_option maxHeartbeats 4000000 in
set_option maxRecDepth 100000 in
theorem c_chg1 {Z : zS} {d : Nat} {w : zW} {k b kp x y z : Nat} (hk : w[k]? = some (oHD (nI b) (nI kp) x y z)) (hb : b < 256) : zF Z M_X2_change (d + 3) [.ref k, .int (nI 1)] w [] (w.set k (oHD (nI (pCHG 1 b kp)) (nI kp) x y z)) := by
  show zG Z M_X2_change (d + 3) _ _ 0 [(0, .ref k), (1, .int (nI 1))] [] w
  refine s_iload_n dX2_change_0 rfl ?_
  refine s_tableIn (off := 45) (tgt := 46) dX2_change_1 (by decide) (by decide) (by rfl) (by decide) ?_
  refine s_aload_n dX2_change_46 rfl ?_
  refine s_dup dX2_change_47 rfl ?_
  refine s_get dX2_change_48 f_X2_9 (by repeat (first | assumption | refine zg1 ?_ (by assumption) | (refine zgs ?_; (try simp only [List.length_set]); assumption))) (by rfl) ?_
  refine s_sipush (v := 255) dX2_change_51 rfl ?_
  refine s_ixor dX2_change_54 ?_
  refine s_put dX2_change_55 f_X2_9 (by repeat (first | assumption | refine zg1 ?_ (by assumption) | (refine zgs ?_; (try simp only [List.length_set]); assumption))) (fun _ => ⟨rfl, rfl⟩) (Nat.le_of_ble_eq_true rfl) ?_
  refine s_goto (tgt := 93) dX2_change_58 (by decide) ?_
  exact s_vret dX2_change_93 rfl ⟨rfl, congrArg (fun q => w.set k (oHD q (nI kp) x y z)) (show nI b ^^^ 255 = nI (pCHG 1 b kp) from by rw [pCHG1]; exact fb_xorI b 255)⟩ (by simp only [List.length_set]; rfl)
set_option maxHeartbeats 4000000 in
set_option maxRecDepth 100000 in
theorem c_chg2 {Z : zS} {d : Nat} {w : zW} {k b kp x y z : Nat} (hk : w[k]? = some (oHD (nI b) (nI kp) x y z)) (hb : b < 256) : zF Z M_X2_change (d + 3) [.ref k, .int (nI 2)] w [] (w.set k (oHD (nI (pCHG 2 b kp)) (nI kp) x y z)) := by
  show zG Z M_X2_change (d + 3) _ _ 0 [(0, .ref k), (1, .int (nI 2))] [] w
  refine s_iload_n dX2_change_0 rfl ?_
  refine s_tableIn (off := 60) (tgt := 61) dX2_change_1 (by decide) (by decide) (by rfl) (by decide) ?_
  refine s_aload_n dX2_change_61 rfl ?_
  refine s_dup dX2_change_62 rfl ?_
  refine s_get dX2_change_63 f_X2_9 (by repeat (first | assumption | refine zg1 ?_ (by assumption) | (refine zgs ?_; (try simp only [List.length_set]); assumption))) (by rfl) ?_
  refine s_aload_n dX2_change_66 rfl ?_
  refine s_get dX2_change_67 f_X2_15 (by repeat (first | assumption | refine zg1 ?_ (by assumption) | (refine zgs ?_; (try simp only [List.length_set]); assumption))) (by rfl) ?_
  refine s_ior dX2_change_70 ?_
  refine s_put dX2_change_71 f_X2_9 (by repeat (first | assumption | refine zg1 ?_ (by assumption) | (refine zgs ?_; (try simp only [List.length_set]); assumption))) (fun _ => ⟨rfl, rfl⟩) (Nat.le_of_ble_eq_true rfl) ?_
  refine s_goto (tgt := 93) dX2_change_74 (by decide) ?_
  exact s_vret dX2_change_93 rfl ⟨rfl, congrArg (fun q => w.set k (oHD q (nI kp) x y z)) (show nI b ||| nI kp = nI (pCHG 2 b kp) from by rw [pCHG2]; exact fa_or b kp)⟩ (by simp only [List.length_set]; rfl)
set_option maxHeartbeats 4000000 in
set_option maxRecDepth 100000 in
theorem c_chg3 {Z : zS} {d : Nat} {w : zW} {k b kp x y z : Nat} (hk : w[k]? = some (oHD (nI b) (nI kp) x y z)) (hb : b < 256) : zF Z M_X2_change (d + 3) [.ref k, .int (nI 3)] w [] (w.set k (oHD (nI (pCHG 3 b kp)) (nI kp) x y z)) := by
  show zG Z M_X2_change (d + 3) _ _ 0 [(0, .ref k), (1, .int (nI 3))] [] w
  refine s_iload_n dX2_change_0 rfl ?_
  refine s_tableIn (off := 76) (tgt := 77) dX2_change_1 (by decide) (by decide) (by rfl) (by decide) ?_
  refine s_aload_n dX2_change_77 rfl ?_
  refine s_dup dX2_change_78 rfl ?_
  refine s_get dX2_change_79 f_X2_9 (by repeat (first | assumption | refine zg1 ?_ (by assumption) | (refine zgs ?_; (try simp only [List.length_set]); assumption))) (by rfl) ?_
  refine s_aload_n dX2_change_82 rfl ?_
  refine s_get dX2_change_83 f_X2_15 (by repeat (first | assumption | refine zg1 ?_ (by assumption) | (refine zgs ?_; (try simp only [List.length_set]); assumption))) (by rfl) ?_
  refine s_iand dX2_change_86 ?_
  refine s_put dX2_change_87 f_X2_9 (by repeat (first | assumption | refine zg1 ?_ (by assumption) | (refine zgs ?_; (try simp only [List.length_set]); assumption))) (fun _ => ⟨rfl, rfl⟩) (Nat.le_of_ble_eq_true rfl) ?_
  refine s_goto (tgt := 93) dX2_change_90 (by decide) ?_
  exact s_vret dX2_change_93 rfl ⟨rfl, congrArg (fun q => w.set k (oHD q (nI kp) x y z)) (show nI b &&& nI kp = nI (pCHG 3 b kp) from by rw [pCHG3]; exact fa_and b kp)⟩ (by simp only [List.length_set]; rfl)
theorem c_X2_change {Z : zS} {d : Nat} {w : zW} {h k b kp x y z : Nat} (hk : w[k]? = some (oHD (nI b) (nI kp) x y z)) (hb : b < 256) (hh : h < 4) : zF Z M_X2_change (d + 3) [.ref k, .int (nI h)] w [] (w.set k (oHD (nI (pCHG h b kp)) (nI kp) x y z)) := by
  rcases (show h = 0 ∨ h = 1 ∨ h = 2 ∨ h = 3 by omega) with rfl | rfl | rfl | rfl
  · exact c_chg0 hk hb
  · exact c_chg1 hk hb
  · exact c_chg2 hk hb
  · exact c_chg3 hk hb
