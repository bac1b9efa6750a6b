/-! ===== the model: the image ===== -/
theorem zsw4 {w : zW} {i j : Nat} (h : i ≠ j) {a b c d : va_E} : (((w.set i a).set j b).set i c).set j d = (w.set i c).set j d := by
  rw [List.set_comm b c (Ne.symm h), List.set_set, List.set_set]
set_option maxHeartbeats 4000000 in
set_option maxRecDepth 100000 in
theorem c_po1 {Z : zS} {d : Nat} {w : zW} {mb mk mf ma mc ms me mq mh : Int32} {cu : Nat} (ho : w[41]? = some (oM mb mk mf ma mc ms me mq (nI cu) mh 1)) {im : Nat → Int32} (him : w[58]? = some (aI 50 im)) {v : Int32} (hcu : cu < 50) : zF Z M_X8_passOne (d) [.ref 41, .int v] w [.int v] ((w.set 58 (aI 50 (upd im cu v))).set 41 (oM mb mk mf ma mc ms me mq (nI (cu + 1)) mh 1)) := by
  show zG Z M_X8_passOne (d) _ _ 0 [(0, .ref 41), (1, .int v)] [] w
  have l1 := zlt ho
  have l2 := zlt him
  refine s_aload_n dX8_passOne_0 rfl ?_
  refine s_get dX8_passOne_1 f_X8_246 (by repeat (first | assumption | refine zg1 ?_ (by decide) | (refine zgs ?_; (try simp only [List.length_set]); assumption))) (by rfl) ?_
  refine s_if_eq (tgt := 11) dX8_passOne_4 (by decide) (fun hqz => absurd hqz (by decide)) (fun hz => ?_)
  clear hz
  refine s_iload_n dX8_passOne_7 rfl ?_
  refine s_goto (tgt := 20) dX8_passOne_8 (by decide) ?_
  refine s_istore_n dX8_passOne_20 (Nat.le_of_ble_eq_true rfl) rfl ?_
  refine s_aload_n dX8_passOne_21 rfl ?_
  refine s_get dX8_passOne_22 f_X8_65 (by repeat (first | assumption | refine zg1 ?_ (by decide) | (refine zgs ?_; (try simp only [List.length_set]); assumption))) (by rfl) ?_
  refine s_aload_n dX8_passOne_25 rfl ?_
  refine s_get dX8_passOne_26 f_X8_250 (by repeat (first | assumption | refine zg1 ?_ (by decide) | (refine zgs ?_; (try simp only [List.length_set]); assumption))) (by rfl) ?_
  refine s_iload_n dX8_passOne_29 rfl ?_
  refine s_iast dX8_passOne_30 (by repeat (first | assumption | refine zg1 ?_ (by decide) | (refine zgs ?_; (try simp only [List.length_set]); assumption))) (zrd (n := 50) (by omega) (by decide)) ?_
  rw [nI_clamp (by omega)]
  refine s_aload_n dX8_passOne_31 rfl ?_
  refine s_dup dX8_passOne_32 rfl ?_
  refine s_get dX8_passOne_33 f_X8_250 (by repeat (first | assumption | refine zg1 ?_ (by decide) | (refine zgs ?_; (try simp only [List.length_set]); assumption))) (by rfl) ?_
  refine s_iconst (v := 1) dX8_passOne_36 rfl ?_
  refine s_iadd dX8_passOne_37 ?_
  rw [nI_1]
  refine s_put dX8_passOne_38 f_X8_250 (by repeat (first | assumption | refine zg1 ?_ (by decide) | (refine zgs ?_; (try simp only [List.length_set]); assumption))) (fun _ => ⟨rfl, rfl⟩) (Nat.le_of_ble_eq_true rfl) ?_
  refine s_iload_n dX8_passOne_41 rfl ?_
  exact s_iret dX8_passOne_42 rfl ⟨rfl, rfl⟩ (by first | rfl | (simp only [List.length_set]; rfl))
set_option maxHeartbeats 4000000 in
set_option maxRecDepth 100000 in
theorem c_po0 {Z : zS} {d : Nat} {w : zW} {mb mk mf ma mc ms me mq mh : Int32} {cu : Nat} (ho : w[41]? = some (oM mb mk mf ma mc ms me mq (nI cu) mh 0)) {im : Nat → Int32} (him : w[58]? = some (aI 50 im)) {v : Int32} (hcu : cu < 50) : zF Z M_X8_passOne (d) [.ref 41, .int v] w [.int (im cu)] (w.set 41 (oM mb mk mf ma mc ms me mq (nI (cu + 1)) mh 0)) := by
  show zG Z M_X8_passOne (d) _ _ 0 [(0, .ref 41), (1, .int v)] [] w
  have l1 := zlt ho
  have l2 := zlt him
  refine s_aload_n dX8_passOne_0 rfl ?_
  refine s_get dX8_passOne_1 f_X8_246 (by repeat (first | assumption | refine zg1 ?_ (by decide) | (refine zgs ?_; (try simp only [List.length_set]); assumption))) (by rfl) ?_
  refine s_if_eq (tgt := 11) dX8_passOne_4 (by decide) (fun hz => ?_) (fun hqz => absurd rfl hqz)
  clear hz
  refine s_aload_n dX8_passOne_11 rfl ?_
  refine s_get dX8_passOne_12 f_X8_65 (by repeat (first | assumption | refine zg1 ?_ (by decide) | (refine zgs ?_; (try simp only [List.length_set]); assumption))) (by rfl) ?_
  refine s_aload_n dX8_passOne_15 rfl ?_
  refine s_get dX8_passOne_16 f_X8_250 (by repeat (first | assumption | refine zg1 ?_ (by decide) | (refine zgs ?_; (try simp only [List.length_set]); assumption))) (by rfl) ?_
  refine s_iald dX8_passOne_19 (by repeat (first | assumption | refine zg1 ?_ (by decide) | (refine zgs ?_; (try simp only [List.length_set]); assumption))) (zrd (n := 50) (by omega) (by decide)) ?_
  rw [nI_clamp (by omega)]
  refine s_istore_n dX8_passOne_20 (Nat.le_of_ble_eq_true rfl) rfl ?_
  refine s_aload_n dX8_passOne_21 rfl ?_
  refine s_get dX8_passOne_22 f_X8_65 (by repeat (first | assumption | refine zg1 ?_ (by decide) | (refine zgs ?_; (try simp only [List.length_set]); assumption))) (by rfl) ?_
  refine s_aload_n dX8_passOne_25 rfl ?_
  refine s_get dX8_passOne_26 f_X8_250 (by repeat (first | assumption | refine zg1 ?_ (by decide) | (refine zgs ?_; (try simp only [List.length_set]); assumption))) (by rfl) ?_
  refine s_iload_n dX8_passOne_29 rfl ?_
  refine s_iast dX8_passOne_30 (by repeat (first | assumption | refine zg1 ?_ (by decide) | (refine zgs ?_; (try simp only [List.length_set]); assumption))) (zrd (n := 50) (by omega) (by decide)) ?_
  rw [nI_clamp (by omega), fa_upd_same rfl, zss him]
  refine s_aload_n dX8_passOne_31 rfl ?_
  refine s_dup dX8_passOne_32 rfl ?_
  refine s_get dX8_passOne_33 f_X8_250 (by repeat (first | assumption | refine zg1 ?_ (by decide) | (refine zgs ?_; (try simp only [List.length_set]); assumption))) (by rfl) ?_
  refine s_iconst (v := 1) dX8_passOne_36 rfl ?_
  refine s_iadd dX8_passOne_37 ?_
  rw [nI_1]
  refine s_put dX8_passOne_38 f_X8_250 (by repeat (first | assumption | refine zg1 ?_ (by decide) | (refine zgs ?_; (try simp only [List.length_set]); assumption))) (fun _ => ⟨rfl, rfl⟩) (Nat.le_of_ble_eq_true rfl) ?_
  refine s_iload_n dX8_passOne_41 rfl ?_
  exact s_iret dX8_passOne_42 rfl ⟨rfl, rfl⟩ (by first | rfl | (simp only [List.length_set]; rfl))
set_option maxHeartbeats 4000000 in
set_option maxRecDepth 100000 in
theorem l_ps1 {Z : zS} {d : Nat} {w : zW} {mb mk mf ma mc ms me mq mh : Int32} {cu : Nat} (ho : w[41]? = some (oM mb mk mf ma mc ms me mq (nI cu) mh 1)) {im : Nat → Int32} (him : w[58]? = some (aI 50 im)) {k N : Nat} {f : Nat → Int32} (hof : w[k]? = some (aI N f)) (n1 : 41 ≠ k) (n2 : 58 ≠ k) (n3 : k ≠ 41) (n4 : k ≠ 58) (hN : N ≤ 8) (hcu : cu + 8 ≤ 50) : ∀ (n i : Nat), i + n = N → zG Z M_X8_passes (d + 1) (fun r1 w1 => r1 = [] ∧ w1 = ((w.set 58 (aI 50 (fb_put im f cu N))).set 41 (oM mb mk mf ma mc ms me mq (nI (cu + N)) mh 1))) w.length 2 [(0, .ref 41), (1, .ref k), (2, .int (nI N)), (3, .int (nI i))] [] ((w.set 58 (aI 50 (fb_put im f cu i))).set 41 (oM mb mk mf ma mc ms me mq (nI (cu + i)) mh 1)) := by
  have l1 := zlt ho
  have l2 := zlt him
  have l3 := zlt hof
  intro n
  induction n with
  | zero =>
    intro i hi
    have hi : i = N := by omega
    subst hi
    refine s_iload_n dX8_passes_2 rfl ?_
    refine s_iload_n dX8_passes_3 rfl ?_
    refine s_icmp_ge (tgt := 23) dX8_passes_4 (by decide) (fun hz => ?_) (fun hqz => absurd (nI_le (Nat.le_refl _) (by omega)) hqz)
    clear hz
    exact s_vret dX8_passes_23 rfl ⟨rfl, rfl⟩ (by first | rfl | (simp only [List.length_set]; rfl))
  | succ n ih =>
    intro i hi
    have hm : i < N := by omega
    have hof2 : ((w.set 58 (aI 50 (fb_put im f cu i))).set 41 (oM mb mk mf ma mc ms me mq (nI (cu + i)) mh 1))[k]? = some (aI N f) := zg1 (zg1 hof n2) n1
    have ho2 : ((w.set 58 (aI 50 (fb_put im f cu i))).set 41 (oM mb mk mf ma mc ms me mq (nI (cu + i)) mh 1))[41]? = some (oM mb mk mf ma mc ms me mq (nI (cu + i)) mh 1) := zgs (by rw [List.length_set]; exact l1)
    have him2 : ((w.set 58 (aI 50 (fb_put im f cu i))).set 41 (oM mb mk mf ma mc ms me mq (nI (cu + i)) mh 1))[58]? = some (aI 50 (fb_put im f cu i)) := zg1 (zgs l2) (by decide)
    have l4 := zlt hof2
    refine s_iload_n dX8_passes_2 rfl ?_
    refine s_iload_n dX8_passes_3 rfl ?_
    refine s_icmp_ge (tgt := 23) dX8_passes_4 (by decide) (fun hqz => absurd hqz (nI_ge hm (by omega))) (fun hz => ?_)
    clear hz
    refine s_aload_n dX8_passes_7 rfl ?_
    refine s_iload_n dX8_passes_8 rfl ?_
    refine s_aload_n dX8_passes_9 rfl ?_
    refine s_aload_n dX8_passes_10 rfl ?_
    refine s_iload_n dX8_passes_11 rfl ?_
    refine s_iald dX8_passes_12 (by first | assumption | exact zg1 (zg1 hof n2) n1) (zrd hm (by omega)) ?_
    rw [nI_clamp (by omega)]
    refine s_cv1 dX8_passes_13 g_X8_253 (c_po1 ho2 him2 (by omega)) (by first | assumption | exact zg1 (zg1 hof n2) n1) rfl rfl rfl rfl (Nat.le_of_ble_eq_true rfl) (Nat.le_of_ble_eq_true rfl) rfl ?_
    rw [zsw4 (by decide), fb_put_succ]
    refine s_iast dX8_passes_16 (by first | assumption | exact zg1 (zg1 hof n2) n1) (zrd hm (by omega)) ?_
    rw [nI_clamp (by omega), fa_upd_same rfl, zss (show ((w.set 58 (aI 50 (fb_put im f cu (i + 1)))).set 41 (oM mb mk mf ma mc ms me mq (nI (cu + i + 1)) mh 1))[k]? = some (aI N f) from zg1 (zg1 hof n2) n1)]
    refine s_iinc (nI (i + 1)) dX8_passes_17 rfl (nI_1 _) (Nat.le_of_ble_eq_true rfl) rfl ?_
    refine s_goto (tgt := 2) dX8_passes_20 (by decide) ?_
    exact ih (i + 1) (by omega)
set_option maxHeartbeats 4000000 in
set_option maxRecDepth 100000 in
theorem c_ps1 {Z : zS} {d : Nat} {w : zW} {mb mk mf ma mc ms me mq mh : Int32} {cu : Nat} (ho : w[41]? = some (oM mb mk mf ma mc ms me mq (nI cu) mh 1)) {im : Nat → Int32} (him : w[58]? = some (aI 50 im)) {k N : Nat} {f : Nat → Int32} (hof : w[k]? = some (aI N f)) (n1 : 41 ≠ k) (n2 : 58 ≠ k) (n3 : k ≠ 41) (n4 : k ≠ 58) (hN : N ≤ 8) (hcu : cu + 8 ≤ 50) : zF Z M_X8_passes (d + 1) [.ref 41, .ref k, .int (nI N)] w [] ((w.set 58 (aI 50 (fb_put im f cu N))).set 41 (oM mb mk mf ma mc ms me mq (nI (cu + N)) mh 1)) := by
  show zG Z M_X8_passes (d + 1) _ w.length 0 [(0, .ref 41), (1, .ref k), (2, .int (nI N))] [] w
  have K := l_ps1 (Z := Z) (d := d) ho him hof n1 n2 n3 n4 hN hcu N 0 (by omega)
  rw [fb_put_0, show cu + 0 = cu from rfl, zss him, zss ho] at K
  refine s_iconst (v := 0) dX8_passes_0 rfl ?_
  refine s_istore_n dX8_passes_1 (Nat.le_of_ble_eq_true rfl) rfl ?_
  exact K
set_option maxHeartbeats 4000000 in
set_option maxRecDepth 100000 in
theorem l_ps0 {Z : zS} {d : Nat} {w : zW} {mb mk mf ma mc ms me mq mh : Int32} {cu : Nat} (ho : w[41]? = some (oM mb mk mf ma mc ms me mq (nI cu) mh 0)) {im : Nat → Int32} (him : w[58]? = some (aI 50 im)) {k N : Nat} {f : Nat → Int32} (hof : w[k]? = some (aI N f)) (n1 : 41 ≠ k) (n2 : 58 ≠ k) (n3 : k ≠ 41) (n4 : k ≠ 58) (hN : N ≤ 8) (hcu : cu + 8 ≤ 50) : ∀ (n i : Nat), i + n = N → zG Z M_X8_passes (d + 1) (fun r1 w1 => r1 = [] ∧ w1 = ((w.set k (aI N (fb_put f (fun r => im (cu + r)) 0 N))).set 41 (oM mb mk mf ma mc ms me mq (nI (cu + N)) mh 0))) w.length 2 [(0, .ref 41), (1, .ref k), (2, .int (nI N)), (3, .int (nI i))] [] ((w.set k (aI N (fb_put f (fun r => im (cu + r)) 0 i))).set 41 (oM mb mk mf ma mc ms me mq (nI (cu + i)) mh 0)) := by
  have l1 := zlt ho
  have l2 := zlt him
  have l3 := zlt hof
  intro n
  induction n with
  | zero =>
    intro i hi
    have hi : i = N := by omega
    subst hi
    refine s_iload_n dX8_passes_2 rfl ?_
    refine s_iload_n dX8_passes_3 rfl ?_
    refine s_icmp_ge (tgt := 23) dX8_passes_4 (by decide) (fun hz => ?_) (fun hqz => absurd (nI_le (Nat.le_refl _) (by omega)) hqz)
    clear hz
    exact s_vret dX8_passes_23 rfl ⟨rfl, rfl⟩ (by first | rfl | (simp only [List.length_set]; rfl))
  | succ n ih =>
    intro i hi
    have hm : i < N := by omega
    have hof2 : ((w.set k (aI N (fb_put f (fun r => im (cu + r)) 0 i))).set 41 (oM mb mk mf ma mc ms me mq (nI (cu + i)) mh 0))[k]? = some (aI N (fb_put f (fun r => im (cu + r)) 0 i)) := zg1 (zgs l3) n1
    have ho2 : ((w.set k (aI N (fb_put f (fun r => im (cu + r)) 0 i))).set 41 (oM mb mk mf ma mc ms me mq (nI (cu + i)) mh 0))[41]? = some (oM mb mk mf ma mc ms me mq (nI (cu + i)) mh 0) := zgs (by rw [List.length_set]; exact l1)
    have him2 : ((w.set k (aI N (fb_put f (fun r => im (cu + r)) 0 i))).set 41 (oM mb mk mf ma mc ms me mq (nI (cu + i)) mh 0))[58]? = some (aI 50 im) := zg1 (zg1 him n4) (by decide)
    have hfp : upd (fb_put f (fun r => im (cu + r)) 0 i) i (im (cu + i)) = fb_put f (fun r => im (cu + r)) 0 (i + 1) := by
      have h := fb_put_succ f (fun r => im (cu + r)) 0 i
      rw [Nat.zero_add] at h
      exact h
    refine s_iload_n dX8_passes_2 rfl ?_
    refine s_iload_n dX8_passes_3 rfl ?_
    refine s_icmp_ge (tgt := 23) dX8_passes_4 (by decide) (fun hqz => absurd hqz (nI_ge hm (by omega))) (fun hz => ?_)
    clear hz
    refine s_aload_n dX8_passes_7 rfl ?_
    refine s_iload_n dX8_passes_8 rfl ?_
    refine s_aload_n dX8_passes_9 rfl ?_
    refine s_aload_n dX8_passes_10 rfl ?_
    refine s_iload_n dX8_passes_11 rfl ?_
    refine s_iald dX8_passes_12 (by first | assumption | exact zg1 (zgs l3) n1) (zrd hm (by omega)) ?_
    refine s_cv1 dX8_passes_13 g_X8_253 (c_po0 ho2 him2 (by omega)) (by first | assumption | exact zg1 (zgs l3) n1) rfl rfl rfl rfl (Nat.le_of_ble_eq_true rfl) (Nat.le_of_ble_eq_true rfl) rfl ?_
    rw [List.set_set]
    refine s_iast dX8_passes_16 (by first | assumption | exact zg1 (zgs l3) n1) (zrd hm (by omega)) ?_
    rw [nI_clamp (by omega), hfp, List.set_comm _ _ n1, List.set_set]
    refine s_iinc (nI (i + 1)) dX8_passes_17 rfl (nI_1 _) (Nat.le_of_ble_eq_true rfl) rfl ?_
    refine s_goto (tgt := 2) dX8_passes_20 (by decide) ?_
    exact ih (i + 1) (by omega)
set_option maxHeartbeats 4000000 in
set_option maxRecDepth 100000 in
theorem c_ps0 {Z : zS} {d : Nat} {w : zW} {mb mk mf ma mc ms me mq mh : Int32} {cu : Nat} (ho : w[41]? = some (oM mb mk mf ma mc ms me mq (nI cu) mh 0)) {im : Nat → Int32} (him : w[58]? = some (aI 50 im)) {k N : Nat} {f : Nat → Int32} (hof : w[k]? = some (aI N f)) (n1 : 41 ≠ k) (n2 : 58 ≠ k) (n3 : k ≠ 41) (n4 : k ≠ 58) (hN : N ≤ 8) (hcu : cu + 8 ≤ 50) : zF Z M_X8_passes (d + 1) [.ref 41, .ref k, .int (nI N)] w [] ((w.set k (aI N (fb_put f (fun r => im (cu + r)) 0 N))).set 41 (oM mb mk mf ma mc ms me mq (nI (cu + N)) mh 0)) := by
  show zG Z M_X8_passes (d + 1) _ w.length 0 [(0, .ref 41), (1, .ref k), (2, .int (nI N))] [] w
  have K := l_ps0 (Z := Z) (d := d) ho him hof n1 n2 n3 n4 hN hcu N 0 (by omega)
  rw [fb_put_0, show cu + 0 = cu from rfl, zss hof, zss ho] at K
  refine s_iconst (v := 0) dX8_passes_0 rfl ?_
  refine s_istore_n dX8_passes_1 (Nat.le_of_ble_eq_true rfl) rfl ?_
  exact K
theorem wXMl {hd th : zHd} {hi : Int32} {tx : zTx} {sh : zSh} {tp : zTs} {cm fo nu f1 f2 : Nat → Int32} {mb mk mf ma mc ms me mq mu mh mp : Int32} {fc vc tt sg td sw sm ew eo bc bi im so sz : Nat → Int32} {it mv : Nat → Int64} : (wX hd th hi tx sh tp ++ wM cm fo nu f1 f2 mb mk mf ma mc ms me mq mu mh mp fc vc tt sg td sw sm ew eo bc bi im so sz it mv).length = 63 := rfl
def imK (im : Nat → Int32) (mb mk ms me mq : Int32) (sw sm ew eo bc bi : Nat → Int32) : Nat → Int32 := (fb_put (fb_put (fb_put (fb_put (fb_put (fb_put (upd (upd (upd (upd (upd im 0 mb) 1 mk) 2 ms) 3 me) 4 mq) sw 5 4) sm 9 4) ew 13 8) eo 21 8) bc 29 8) bi 37 8)
set_option maxHeartbeats 4000000 in
set_option maxRecDepth 100000 in
theorem c_pA1 {Z : zS} {d : Nat} {hd th : zHd} {hi : Int32} {tx : zTx} {sh : zSh} {tp : zTs} {cm fo nu f1 f2 : Nat → Int32} {mb mk mf ma mc ms me mq mu mh mp : Int32} {fc vc tt sg td sw sm ew eo bc bi im so sz : Nat → Int32} {it mv : Nat → Int64} : zF Z M_X8_passesAll (d + 2) [.ref 41, .int 1] (wX hd th hi tx sh tp ++ wM cm fo nu f1 f2 mb mk mf ma mc ms me mq mu mh mp fc vc tt sg td sw sm ew eo bc bi im so sz it mv) [] (wX hd th hi tx sh tp ++ wM cm fo nu f1 f2 mb mk mf ma mc ms me mq (nI 45) mh 1 fc vc tt sg td sw sm ew eo bc bi (imK im mb mk ms me mq sw sm ew eo bc bi) so sz it mv) := by
  show zG Z M_X8_passesAll (d + 2) _ 63 0 [(0, .ref 41), (1, .int 1)] [] (wX hd th hi tx sh tp ++ wM cm fo nu f1 f2 mb mk mf ma mc ms me mq mu mh mp fc vc tt sg td sw sm ew eo bc bi im so sz it mv)
  unfold imK
  refine s_aload_n dX8_passesAll_0 rfl ?_
  refine s_iload_n dX8_passesAll_1 rfl ?_
  refine s_put dX8_passesAll_2 f_X8_246 (by rfl) (fun _ => ⟨rfl, rfl⟩) (Nat.le_of_ble_eq_true rfl) ?_
  refine s_aload_n dX8_passesAll_5 rfl ?_
  refine s_iconst (v := 0) dX8_passesAll_6 rfl ?_
  refine s_put dX8_passesAll_7 f_X8_250 (by rfl) (fun _ => ⟨rfl, rfl⟩) (Nat.le_of_ble_eq_true rfl) ?_
  show zG Z M_X8_passesAll _ _ _ _ _ _ (wX hd th hi tx sh tp ++ wM cm fo nu f1 f2 mb mk mf ma mc ms me mq (nI 0) mh 1 fc vc tt sg td sw sm ew eo bc bi im so sz it mv)
  refine s_aload_n dX8_passesAll_10 rfl ?_
  refine s_aload_n dX8_passesAll_11 rfl ?_
  refine s_aload_n dX8_passesAll_12 rfl ?_
  refine s_get dX8_passesAll_13 f_X8_125 (by rfl) (by rfl) ?_
  refine s_cv1 dX8_passesAll_16 g_X8_253 (c_po1 (cu := 0) (by rfl) (by rfl) (by decide)) (by rfl) rfl rfl rfl rfl (Nat.le_of_ble_eq_true rfl) (Nat.le_of_ble_eq_true rfl) rfl ?_
  refine s_put dX8_passesAll_19 f_X8_125 (by rfl) (fun _ => ⟨rfl, rfl⟩) (Nat.le_of_ble_eq_true rfl) ?_
  show zG Z M_X8_passesAll _ _ _ _ _ _ (wX hd th hi tx sh tp ++ wM cm fo nu f1 f2 mb mk mf ma mc ms me mq (nI 1) mh 1 fc vc tt sg td sw sm ew eo bc bi (upd im 0 mb) so sz it mv)
  refine s_aload_n dX8_passesAll_22 rfl ?_
  refine s_aload_n dX8_passesAll_23 rfl ?_
  refine s_aload_n dX8_passesAll_24 rfl ?_
  refine s_get dX8_passesAll_25 f_X8_132 (by rfl) (by rfl) ?_
  refine s_cv1 dX8_passesAll_28 g_X8_253 (c_po1 (cu := 1) (by rfl) (by rfl) (by decide)) (by rfl) rfl rfl rfl rfl (Nat.le_of_ble_eq_true rfl) (Nat.le_of_ble_eq_true rfl) rfl ?_
  refine s_put dX8_passesAll_31 f_X8_132 (by rfl) (fun _ => ⟨rfl, rfl⟩) (Nat.le_of_ble_eq_true rfl) ?_
  show zG Z M_X8_passesAll _ _ _ _ _ _ (wX hd th hi tx sh tp ++ wM cm fo nu f1 f2 mb mk mf ma mc ms me mq (nI 2) mh 1 fc vc tt sg td sw sm ew eo bc bi (upd (upd im 0 mb) 1 mk) so sz it mv)
  refine s_aload_n dX8_passesAll_34 rfl ?_
  refine s_aload_n dX8_passesAll_35 rfl ?_
  refine s_aload_n dX8_passesAll_36 rfl ?_
  refine s_get dX8_passesAll_37 f_X8_226 (by rfl) (by rfl) ?_
  refine s_cv1 dX8_passesAll_40 g_X8_253 (c_po1 (cu := 2) (by rfl) (by rfl) (by decide)) (by rfl) rfl rfl rfl rfl (Nat.le_of_ble_eq_true rfl) (Nat.le_of_ble_eq_true rfl) rfl ?_
  refine s_put dX8_passesAll_43 f_X8_226 (by rfl) (fun _ => ⟨rfl, rfl⟩) (Nat.le_of_ble_eq_true rfl) ?_
  show zG Z M_X8_passesAll _ _ _ _ _ _ (wX hd th hi tx sh tp ++ wM cm fo nu f1 f2 mb mk mf ma mc ms me mq (nI 3) mh 1 fc vc tt sg td sw sm ew eo bc bi (upd (upd (upd im 0 mb) 1 mk) 2 ms) so sz it mv)
  refine s_aload_n dX8_passesAll_46 rfl ?_
  refine s_aload_n dX8_passesAll_47 rfl ?_
  refine s_aload_n dX8_passesAll_48 rfl ?_
  refine s_get dX8_passesAll_49 f_X8_237 (by rfl) (by rfl) ?_
  refine s_cv1 dX8_passesAll_52 g_X8_253 (c_po1 (cu := 3) (by rfl) (by rfl) (by decide)) (by rfl) rfl rfl rfl rfl (Nat.le_of_ble_eq_true rfl) (Nat.le_of_ble_eq_true rfl) rfl ?_
  refine s_put dX8_passesAll_55 f_X8_237 (by rfl) (fun _ => ⟨rfl, rfl⟩) (Nat.le_of_ble_eq_true rfl) ?_
  show zG Z M_X8_passesAll _ _ _ _ _ _ (wX hd th hi tx sh tp ++ wM cm fo nu f1 f2 mb mk mf ma mc ms me mq (nI 4) mh 1 fc vc tt sg td sw sm ew eo bc bi (upd (upd (upd (upd im 0 mb) 1 mk) 2 ms) 3 me) so sz it mv)
  refine s_aload_n dX8_passesAll_58 rfl ?_
  refine s_aload_n dX8_passesAll_59 rfl ?_
  refine s_aload_n dX8_passesAll_60 rfl ?_
  refine s_get dX8_passesAll_61 f_X8_240 (by rfl) (by rfl) ?_
  refine s_cv1 dX8_passesAll_64 g_X8_253 (c_po1 (cu := 4) (by rfl) (by rfl) (by decide)) (by rfl) rfl rfl rfl rfl (Nat.le_of_ble_eq_true rfl) (Nat.le_of_ble_eq_true rfl) rfl ?_
  refine s_put dX8_passesAll_67 f_X8_240 (by rfl) (fun _ => ⟨rfl, rfl⟩) (Nat.le_of_ble_eq_true rfl) ?_
  show zG Z M_X8_passesAll _ _ _ _ _ _ (wX hd th hi tx sh tp ++ wM cm fo nu f1 f2 mb mk mf ma mc ms me mq (nI 5) mh 1 fc vc tt sg td sw sm ew eo bc bi (upd (upd (upd (upd (upd im 0 mb) 1 mk) 2 ms) 3 me) 4 mq) so sz it mv)
  refine s_aload_n dX8_passesAll_70 rfl ?_
  refine s_aload_n dX8_passesAll_71 rfl ?_
  refine s_get dX8_passesAll_72 f_X8_47 (by rfl) (by rfl) ?_
  refine s_iconst (v := 4) dX8_passesAll_75 rfl ?_
  refine s_cv0 dX8_passesAll_76 g_X8_256 (c_ps1 (cu := 5) (k := 52) (N := 4) (by rfl) (by rfl) (by rfl) (by decide) (by decide) (by decide) (by decide) (by decide) (by decide)) (by rfl) rfl rfl rfl rfl (Nat.le_of_ble_eq_true rfl) (Nat.le_of_ble_eq_true rfl) rfl ?_
  show zG Z M_X8_passesAll _ _ _ _ _ _ (wX hd th hi tx sh tp ++ wM cm fo nu f1 f2 mb mk mf ma mc ms me mq (nI 9) mh 1 fc vc tt sg td sw sm ew eo bc bi (fb_put (upd (upd (upd (upd (upd im 0 mb) 1 mk) 2 ms) 3 me) 4 mq) sw 5 4) so sz it mv)
  refine s_aload_n dX8_passesAll_79 rfl ?_
  refine s_aload_n dX8_passesAll_80 rfl ?_
  refine s_get dX8_passesAll_81 f_X8_50 (by rfl) (by rfl) ?_
  refine s_iconst (v := 4) dX8_passesAll_84 rfl ?_
  refine s_cv0 dX8_passesAll_85 g_X8_256 (c_ps1 (cu := 9) (k := 53) (N := 4) (by rfl) (by rfl) (by rfl) (by decide) (by decide) (by decide) (by decide) (by decide) (by decide)) (by rfl) rfl rfl rfl rfl (Nat.le_of_ble_eq_true rfl) (Nat.le_of_ble_eq_true rfl) rfl ?_
  show zG Z M_X8_passesAll _ _ _ _ _ _ (wX hd th hi tx sh tp ++ wM cm fo nu f1 f2 mb mk mf ma mc ms me mq (nI 13) mh 1 fc vc tt sg td sw sm ew eo bc bi (fb_put (fb_put (upd (upd (upd (upd (upd im 0 mb) 1 mk) 2 ms) 3 me) 4 mq) sw 5 4) sm 9 4) so sz it mv)
  refine s_aload_n dX8_passesAll_88 rfl ?_
  refine s_aload_n dX8_passesAll_89 rfl ?_
  refine s_get dX8_passesAll_90 f_X8_53 (by rfl) (by rfl) ?_
  refine s_bipush (v := 8) dX8_passesAll_93 rfl ?_
  refine s_cv0 dX8_passesAll_95 g_X8_256 (c_ps1 (cu := 13) (k := 54) (N := 8) (by rfl) (by rfl) (by rfl) (by decide) (by decide) (by decide) (by decide) (by decide) (by decide)) (by rfl) rfl rfl rfl rfl (Nat.le_of_ble_eq_true rfl) (Nat.le_of_ble_eq_true rfl) rfl ?_
  show zG Z M_X8_passesAll _ _ _ _ _ _ (wX hd th hi tx sh tp ++ wM cm fo nu f1 f2 mb mk mf ma mc ms me mq (nI 21) mh 1 fc vc tt sg td sw sm ew eo bc bi (fb_put (fb_put (fb_put (upd (upd (upd (upd (upd im 0 mb) 1 mk) 2 ms) 3 me) 4 mq) sw 5 4) sm 9 4) ew 13 8) so sz it mv)
  refine s_aload_n dX8_passesAll_98 rfl ?_
  refine s_aload_n dX8_passesAll_99 rfl ?_
  refine s_get dX8_passesAll_100 f_X8_56 (by rfl) (by rfl) ?_
  refine s_bipush (v := 8) dX8_passesAll_103 rfl ?_
  refine s_cv0 dX8_passesAll_105 g_X8_256 (c_ps1 (cu := 21) (k := 55) (N := 8) (by rfl) (by rfl) (by rfl) (by decide) (by decide) (by decide) (by decide) (by decide) (by decide)) (by rfl) rfl rfl rfl rfl (Nat.le_of_ble_eq_true rfl) (Nat.le_of_ble_eq_true rfl) rfl ?_
  show zG Z M_X8_passesAll _ _ _ _ _ _ (wX hd th hi tx sh tp ++ wM cm fo nu f1 f2 mb mk mf ma mc ms me mq (nI 29) mh 1 fc vc tt sg td sw sm ew eo bc bi (fb_put (fb_put (fb_put (fb_put (upd (upd (upd (upd (upd im 0 mb) 1 mk) 2 ms) 3 me) 4 mq) sw 5 4) sm 9 4) ew 13 8) eo 21 8) so sz it mv)
  refine s_aload_n dX8_passesAll_108 rfl ?_
  refine s_aload_n dX8_passesAll_109 rfl ?_
  refine s_get dX8_passesAll_110 f_X8_59 (by rfl) (by rfl) ?_
  refine s_bipush (v := 8) dX8_passesAll_113 rfl ?_
  refine s_cv0 dX8_passesAll_115 g_X8_256 (c_ps1 (cu := 29) (k := 56) (N := 8) (by rfl) (by rfl) (by rfl) (by decide) (by decide) (by decide) (by decide) (by decide) (by decide)) (by rfl) rfl rfl rfl rfl (Nat.le_of_ble_eq_true rfl) (Nat.le_of_ble_eq_true rfl) rfl ?_
  show zG Z M_X8_passesAll _ _ _ _ _ _ (wX hd th hi tx sh tp ++ wM cm fo nu f1 f2 mb mk mf ma mc ms me mq (nI 37) mh 1 fc vc tt sg td sw sm ew eo bc bi (fb_put (fb_put (fb_put (fb_put (fb_put (upd (upd (upd (upd (upd im 0 mb) 1 mk) 2 ms) 3 me) 4 mq) sw 5 4) sm 9 4) ew 13 8) eo 21 8) bc 29 8) so sz it mv)
  refine s_aload_n dX8_passesAll_118 rfl ?_
  refine s_aload_n dX8_passesAll_119 rfl ?_
  refine s_get dX8_passesAll_120 f_X8_62 (by rfl) (by rfl) ?_
  refine s_bipush (v := 8) dX8_passesAll_123 rfl ?_
  refine s_cv0 dX8_passesAll_125 g_X8_256 (c_ps1 (cu := 37) (k := 57) (N := 8) (by rfl) (by rfl) (by rfl) (by decide) (by decide) (by decide) (by decide) (by decide) (by decide)) (by rfl) rfl rfl rfl rfl (Nat.le_of_ble_eq_true rfl) (Nat.le_of_ble_eq_true rfl) rfl ?_
  show zG Z M_X8_passesAll _ _ _ _ _ _ (wX hd th hi tx sh tp ++ wM cm fo nu f1 f2 mb mk mf ma mc ms me mq (nI 45) mh 1 fc vc tt sg td sw sm ew eo bc bi (fb_put (fb_put (fb_put (fb_put (fb_put (fb_put (upd (upd (upd (upd (upd im 0 mb) 1 mk) 2 ms) 3 me) 4 mq) sw 5 4) sm 9 4) ew 13 8) eo 21 8) bc 29 8) bi 37 8) so sz it mv)
  exact s_vret dX8_passesAll_128 rfl ⟨rfl, rfl⟩ (by first | exact wXMl | rfl | (simp only [List.length_set]; exact wXMl))
set_option maxHeartbeats 4000000 in
set_option maxRecDepth 100000 in
theorem c_pA0 {Z : zS} {d : Nat} {hd th : zHd} {hi : Int32} {tx : zTx} {sh : zSh} {tp : zTs} {cm fo nu f1 f2 : Nat → Int32} {mb mk mf ma mc ms me mq mu mh mp : Int32} {fc vc tt sg td sw sm ew eo bc bi im so sz : Nat → Int32} {it mv : Nat → Int64} : zF Z M_X8_passesAll (d + 2) [.ref 41, .int 0] (wX hd th hi tx sh tp ++ wM cm fo nu f1 f2 mb mk mf ma mc ms me mq mu mh mp fc vc tt sg td sw sm ew eo bc bi im so sz it mv) [] (wX hd th hi tx sh tp ++ wM cm fo nu f1 f2 (im 0) (im 1) mf ma mc (im 2) (im 3) (im 4) (nI 45) mh 0 fc vc tt sg td (fb_put sw (fun r => im (5 + r)) 0 4) (fb_put sm (fun r => im (9 + r)) 0 4) (fb_put ew (fun r => im (13 + r)) 0 8) (fb_put eo (fun r => im (21 + r)) 0 8) (fb_put bc (fun r => im (29 + r)) 0 8) (fb_put bi (fun r => im (37 + r)) 0 8) im so sz it mv) := by
  show zG Z M_X8_passesAll (d + 2) _ 63 0 [(0, .ref 41), (1, .int 0)] [] (wX hd th hi tx sh tp ++ wM cm fo nu f1 f2 mb mk mf ma mc ms me mq mu mh mp fc vc tt sg td sw sm ew eo bc bi im so sz it mv)
  refine s_aload_n dX8_passesAll_0 rfl ?_
  refine s_iload_n dX8_passesAll_1 rfl ?_
  refine s_put dX8_passesAll_2 f_X8_246 (by rfl) (fun _ => ⟨rfl, rfl⟩) (Nat.le_of_ble_eq_true rfl) ?_
  refine s_aload_n dX8_passesAll_5 rfl ?_
  refine s_iconst (v := 0) dX8_passesAll_6 rfl ?_
  refine s_put dX8_passesAll_7 f_X8_250 (by rfl) (fun _ => ⟨rfl, rfl⟩) (Nat.le_of_ble_eq_true rfl) ?_
  show zG Z M_X8_passesAll _ _ _ _ _ _ (wX hd th hi tx sh tp ++ wM cm fo nu f1 f2 mb mk mf ma mc ms me mq (nI 0) mh 0 fc vc tt sg td sw sm ew eo bc bi im so sz it mv)
  refine s_aload_n dX8_passesAll_10 rfl ?_
  refine s_aload_n dX8_passesAll_11 rfl ?_
  refine s_aload_n dX8_passesAll_12 rfl ?_
  refine s_get dX8_passesAll_13 f_X8_125 (by rfl) (by rfl) ?_
  refine s_cv1 dX8_passesAll_16 g_X8_253 (c_po0 (cu := 0) (by rfl) (by rfl) (by decide)) (by rfl) rfl rfl rfl rfl (Nat.le_of_ble_eq_true rfl) (Nat.le_of_ble_eq_true rfl) rfl ?_
  refine s_put dX8_passesAll_19 f_X8_125 (by rfl) (fun _ => ⟨rfl, rfl⟩) (Nat.le_of_ble_eq_true rfl) ?_
  show zG Z M_X8_passesAll _ _ _ _ _ _ (wX hd th hi tx sh tp ++ wM cm fo nu f1 f2 (im 0) mk mf ma mc ms me mq (nI 1) mh 0 fc vc tt sg td sw sm ew eo bc bi im so sz it mv)
  refine s_aload_n dX8_passesAll_22 rfl ?_
  refine s_aload_n dX8_passesAll_23 rfl ?_
  refine s_aload_n dX8_passesAll_24 rfl ?_
  refine s_get dX8_passesAll_25 f_X8_132 (by rfl) (by rfl) ?_
  refine s_cv1 dX8_passesAll_28 g_X8_253 (c_po0 (cu := 1) (by rfl) (by rfl) (by decide)) (by rfl) rfl rfl rfl rfl (Nat.le_of_ble_eq_true rfl) (Nat.le_of_ble_eq_true rfl) rfl ?_
  refine s_put dX8_passesAll_31 f_X8_132 (by rfl) (fun _ => ⟨rfl, rfl⟩) (Nat.le_of_ble_eq_true rfl) ?_
  show zG Z M_X8_passesAll _ _ _ _ _ _ (wX hd th hi tx sh tp ++ wM cm fo nu f1 f2 (im 0) (im 1) mf ma mc ms me mq (nI 2) mh 0 fc vc tt sg td sw sm ew eo bc bi im so sz it mv)
  refine s_aload_n dX8_passesAll_34 rfl ?_
  refine s_aload_n dX8_passesAll_35 rfl ?_
  refine s_aload_n dX8_passesAll_36 rfl ?_
  refine s_get dX8_passesAll_37 f_X8_226 (by rfl) (by rfl) ?_
  refine s_cv1 dX8_passesAll_40 g_X8_253 (c_po0 (cu := 2) (by rfl) (by rfl) (by decide)) (by rfl) rfl rfl rfl rfl (Nat.le_of_ble_eq_true rfl) (Nat.le_of_ble_eq_true rfl) rfl ?_
  refine s_put dX8_passesAll_43 f_X8_226 (by rfl) (fun _ => ⟨rfl, rfl⟩) (Nat.le_of_ble_eq_true rfl) ?_
  show zG Z M_X8_passesAll _ _ _ _ _ _ (wX hd th hi tx sh tp ++ wM cm fo nu f1 f2 (im 0) (im 1) mf ma mc (im 2) me mq (nI 3) mh 0 fc vc tt sg td sw sm ew eo bc bi im so sz it mv)
  refine s_aload_n dX8_passesAll_46 rfl ?_
  refine s_aload_n dX8_passesAll_47 rfl ?_
  refine s_aload_n dX8_passesAll_48 rfl ?_
  refine s_get dX8_passesAll_49 f_X8_237 (by rfl) (by rfl) ?_
  refine s_cv1 dX8_passesAll_52 g_X8_253 (c_po0 (cu := 3) (by rfl) (by rfl) (by decide)) (by rfl) rfl rfl rfl rfl (Nat.le_of_ble_eq_true rfl) (Nat.le_of_ble_eq_true rfl) rfl ?_
  refine s_put dX8_passesAll_55 f_X8_237 (by rfl) (fun _ => ⟨rfl, rfl⟩) (Nat.le_of_ble_eq_true rfl) ?_
  show zG Z M_X8_passesAll _ _ _ _ _ _ (wX hd th hi tx sh tp ++ wM cm fo nu f1 f2 (im 0) (im 1) mf ma mc (im 2) (im 3) mq (nI 4) mh 0 fc vc tt sg td sw sm ew eo bc bi im so sz it mv)
  refine s_aload_n dX8_passesAll_58 rfl ?_
  refine s_aload_n dX8_passesAll_59 rfl ?_
  refine s_aload_n dX8_passesAll_60 rfl ?_
  refine s_get dX8_passesAll_61 f_X8_240 (by rfl) (by rfl) ?_
  refine s_cv1 dX8_passesAll_64 g_X8_253 (c_po0 (cu := 4) (by rfl) (by rfl) (by decide)) (by rfl) rfl rfl rfl rfl (Nat.le_of_ble_eq_true rfl) (Nat.le_of_ble_eq_true rfl) rfl ?_
  refine s_put dX8_passesAll_67 f_X8_240 (by rfl) (fun _ => ⟨rfl, rfl⟩) (Nat.le_of_ble_eq_true rfl) ?_
  show zG Z M_X8_passesAll _ _ _ _ _ _ (wX hd th hi tx sh tp ++ wM cm fo nu f1 f2 (im 0) (im 1) mf ma mc (im 2) (im 3) (im 4) (nI 5) mh 0 fc vc tt sg td sw sm ew eo bc bi im so sz it mv)
  refine s_aload_n dX8_passesAll_70 rfl ?_
  refine s_aload_n dX8_passesAll_71 rfl ?_
  refine s_get dX8_passesAll_72 f_X8_47 (by rfl) (by rfl) ?_
  refine s_iconst (v := 4) dX8_passesAll_75 rfl ?_
  refine s_cv0 dX8_passesAll_76 g_X8_256 (c_ps0 (cu := 5) (k := 52) (N := 4) (by rfl) (by rfl) (by rfl) (by decide) (by decide) (by decide) (by decide) (by decide) (by decide)) (by rfl) rfl rfl rfl rfl (Nat.le_of_ble_eq_true rfl) (Nat.le_of_ble_eq_true rfl) rfl ?_
  show zG Z M_X8_passesAll _ _ _ _ _ _ (wX hd th hi tx sh tp ++ wM cm fo nu f1 f2 (im 0) (im 1) mf ma mc (im 2) (im 3) (im 4) (nI 9) mh 0 fc vc tt sg td (fb_put sw (fun r => im (5 + r)) 0 4) sm ew eo bc bi im so sz it mv)
  refine s_aload_n dX8_passesAll_79 rfl ?_
  refine s_aload_n dX8_passesAll_80 rfl ?_
  refine s_get dX8_passesAll_81 f_X8_50 (by rfl) (by rfl) ?_
  refine s_iconst (v := 4) dX8_passesAll_84 rfl ?_
  refine s_cv0 dX8_passesAll_85 g_X8_256 (c_ps0 (cu := 9) (k := 53) (N := 4) (by rfl) (by rfl) (by rfl) (by decide) (by decide) (by decide) (by decide) (by decide) (by decide)) (by rfl) rfl rfl rfl rfl (Nat.le_of_ble_eq_true rfl) (Nat.le_of_ble_eq_true rfl) rfl ?_
  show zG Z M_X8_passesAll _ _ _ _ _ _ (wX hd th hi tx sh tp ++ wM cm fo nu f1 f2 (im 0) (im 1) mf ma mc (im 2) (im 3) (im 4) (nI 13) mh 0 fc vc tt sg td (fb_put sw (fun r => im (5 + r)) 0 4) (fb_put sm (fun r => im (9 + r)) 0 4) ew eo bc bi im so sz it mv)
  refine s_aload_n dX8_passesAll_88 rfl ?_
  refine s_aload_n dX8_passesAll_89 rfl ?_
  refine s_get dX8_passesAll_90 f_X8_53 (by rfl) (by rfl) ?_
  refine s_bipush (v := 8) dX8_passesAll_93 rfl ?_
  refine s_cv0 dX8_passesAll_95 g_X8_256 (c_ps0 (cu := 13) (k := 54) (N := 8) (by rfl) (by rfl) (by rfl) (by decide) (by decide) (by decide) (by decide) (by decide) (by decide)) (by rfl) rfl rfl rfl rfl (Nat.le_of_ble_eq_true rfl) (Nat.le_of_ble_eq_true rfl) rfl ?_
  show zG Z M_X8_passesAll _ _ _ _ _ _ (wX hd th hi tx sh tp ++ wM cm fo nu f1 f2 (im 0) (im 1) mf ma mc (im 2) (im 3) (im 4) (nI 21) mh 0 fc vc tt sg td (fb_put sw (fun r => im (5 + r)) 0 4) (fb_put sm (fun r => im (9 + r)) 0 4) (fb_put ew (fun r => im (13 + r)) 0 8) eo bc bi im so sz it mv)
  refine s_aload_n dX8_passesAll_98 rfl ?_
  refine s_aload_n dX8_passesAll_99 rfl ?_
  refine s_get dX8_passesAll_100 f_X8_56 (by rfl) (by rfl) ?_
  refine s_bipush (v := 8) dX8_passesAll_103 rfl ?_
  refine s_cv0 dX8_passesAll_105 g_X8_256 (c_ps0 (cu := 21) (k := 55) (N := 8) (by rfl) (by rfl) (by rfl) (by decide) (by decide) (by decide) (by decide) (by decide) (by decide)) (by rfl) rfl rfl rfl rfl (Nat.le_of_ble_eq_true rfl) (Nat.le_of_ble_eq_true rfl) rfl ?_
  show zG Z M_X8_passesAll _ _ _ _ _ _ (wX hd th hi tx sh tp ++ wM cm fo nu f1 f2 (im 0) (im 1) mf ma mc (im 2) (im 3) (im 4) (nI 29) mh 0 fc vc tt sg td (fb_put sw (fun r => im (5 + r)) 0 4) (fb_put sm (fun r => im (9 + r)) 0 4) (fb_put ew (fun r => im (13 + r)) 0 8) (fb_put eo (fun r => im (21 + r)) 0 8) bc bi im so sz it mv)
  refine s_aload_n dX8_passesAll_108 rfl ?_
  refine s_aload_n dX8_passesAll_109 rfl ?_
  refine s_get dX8_passesAll_110 f_X8_59 (by rfl) (by rfl) ?_
  refine s_bipush (v := 8) dX8_passesAll_113 rfl ?_
  refine s_cv0 dX8_passesAll_115 g_X8_256 (c_ps0 (cu := 29) (k := 56) (N := 8) (by rfl) (by rfl) (by rfl) (by decide) (by decide) (by decide) (by decide) (by decide) (by decide)) (by rfl) rfl rfl rfl rfl (Nat.le_of_ble_eq_true rfl) (Nat.le_of_ble_eq_true rfl) rfl ?_
  show zG Z M_X8_passesAll _ _ _ _ _ _ (wX hd th hi tx sh tp ++ wM cm fo nu f1 f2 (im 0) (im 1) mf ma mc (im 2) (im 3) (im 4) (nI 37) mh 0 fc vc tt sg td (fb_put sw (fun r => im (5 + r)) 0 4) (fb_put sm (fun r => im (9 + r)) 0 4) (fb_put ew (fun r => im (13 + r)) 0 8) (fb_put eo (fun r => im (21 + r)) 0 8) (fb_put bc (fun r => im (29 + r)) 0 8) bi im so sz it mv)
  refine s_aload_n dX8_passesAll_118 rfl ?_
  refine s_aload_n dX8_passesAll_119 rfl ?_
  refine s_get dX8_passesAll_120 f_X8_62 (by rfl) (by rfl) ?_
  refine s_bipush (v := 8) dX8_passesAll_123 rfl ?_
  refine s_cv0 dX8_passesAll_125 g_X8_256 (c_ps0 (cu := 37) (k := 57) (N := 8) (by rfl) (by rfl) (by rfl) (by decide) (by decide) (by decide) (by decide) (by decide) (by decide)) (by rfl) rfl rfl rfl rfl (Nat.le_of_ble_eq_true rfl) (Nat.le_of_ble_eq_true rfl) rfl ?_
  show zG Z M_X8_passesAll _ _ _ _ _ _ (wX hd th hi tx sh tp ++ wM cm fo nu f1 f2 (im 0) (im 1) mf ma mc (im 2) (im 3) (im 4) (nI 45) mh 0 fc vc tt sg td (fb_put sw (fun r => im (5 + r)) 0 4) (fb_put sm (fun r => im (9 + r)) 0 4) (fb_put ew (fun r => im (13 + r)) 0 8) (fb_put eo (fun r => im (21 + r)) 0 8) (fb_put bc (fun r => im (29 + r)) 0 8) (fb_put bi (fun r => im (37 + r)) 0 8) im so sz it mv)
  exact s_vret dX8_passesAll_128 rfl ⟨rfl, rfl⟩ (by first | exact wXMl | rfl | (simp only [List.length_set]; exact wXMl))
set_option maxHeartbeats 4000000 in
set_option maxRecDepth 100000 in
theorem y_image {Z : zS} {d : Nat} {hd th : zHd} {hi : Int32} {tx : zTx} {sh : zSh} {tp : zTs} {cm fo nu f1 f2 : Nat → Int32} {mb mk mf ma mc ms me mq mu mh mp : Int32} {fc vc tt sg td sw sm ew eo bc bi im so sz : Nat → Int32} {it mv : Nat → Int64}  : zF Z M_X8_image (d + 3) [.ref 41] (wX hd th hi tx sh tp ++ wM cm fo nu f1 f2 mb mk mf ma mc ms me mq mu mh mp fc vc tt sg td sw sm ew eo bc bi im so sz it mv) [.int mb] (wX hd th hi tx sh tp ++ wM cm fo nu f1 f2 mb mk mf ma mc ms me mq (nI 45) 1 1 fc vc tt sg td sw sm ew eo bc bi (imK im mb mk ms me mq sw sm ew eo bc bi) so sz it mv) := by
  show zG Z M_X8_image (d + 3) _ 63 0 [(0, .ref 41)] [] (wX hd th hi tx sh tp ++ wM cm fo nu f1 f2 mb mk mf ma mc ms me mq mu mh mp fc vc tt sg td sw sm ew eo bc bi im so sz it mv)
  refine s_aload_n dX8_image_0 rfl ?_
  refine s_iconst (v := 1) dX8_image_1 rfl ?_
  refine s_cv0 dX8_image_2 g_X8_260 (c_pA1) (by rfl) rfl rfl rfl rfl (Nat.le_of_ble_eq_true rfl) (Nat.le_of_ble_eq_true rfl) rfl ?_
  show zG Z M_X8_image _ _ _ _ _ _ (wX hd th hi tx sh tp ++ wM cm fo nu f1 f2 mb mk mf ma mc ms me mq (nI 45) mh 1 fc vc tt sg td sw sm ew eo bc bi (imK im mb mk ms me mq sw sm ew eo bc bi) so sz it mv)
  refine s_aload_n dX8_image_5 rfl ?_
  refine s_iconst (v := 1) dX8_image_6 rfl ?_
  refine s_put dX8_image_7 f_X8_264 (by rfl) (fun _ => ⟨rfl, rfl⟩) (Nat.le_of_ble_eq_true rfl) ?_
  show zG Z M_X8_image _ _ _ _ _ _ (wX hd th hi tx sh tp ++ wM cm fo nu f1 f2 mb mk mf ma mc ms me mq (nI 45) 1 1 fc vc tt sg td sw sm ew eo bc bi (imK im mb mk ms me mq sw sm ew eo bc bi) so sz it mv)
  refine s_aload_n dX8_image_10 rfl ?_
  refine s_get dX8_image_11 f_X8_125 (by rfl) (by rfl) ?_
  exact s_iret dX8_image_14 rfl ⟨rfl, rfl⟩ (by first | exact wXMl | rfl | (simp only [List.length_set]; exact wXMl))
set_option maxHeartbeats 4000000 in
set_option maxRecDepth 100000 in
theorem y_undo1 {Z : zS} {d : Nat} {hd th : zHd} {hi : Int32} {tx : zTx} {sh : zSh} {tp : zTs} {cm fo nu f1 f2 : Nat → Int32} {mb mk mf ma mc ms me mq mu mh mp : Int32} {fc vc tt sg td sw sm ew eo bc bi im so sz : Nat → Int32} {it mv : Nat → Int64} (h0 : mh = 0) : zF Z M_X8_undo (d + 3) [.ref 41] (wX hd th hi tx sh tp ++ wM cm fo nu f1 f2 mb mk mf ma mc ms me mq mu mh mp fc vc tt sg td sw sm ew eo bc bi im so sz it mv) [.int (-3)] (wX hd th hi tx sh tp ++ wM cm fo nu f1 f2 mb mk mf ma mc ms me mq mu mh mp fc vc tt sg td sw sm ew eo bc bi im so sz it mv) := by
  show zG Z M_X8_undo (d + 3) _ 63 0 [(0, .ref 41)] [] (wX hd th hi tx sh tp ++ wM cm fo nu f1 f2 mb mk mf ma mc ms me mq mu mh mp fc vc tt sg td sw sm ew eo bc bi im so sz it mv)
  refine s_aload_n dX8_undo_0 rfl ?_
  refine s_get dX8_undo_1 f_X8_264 (by rfl) (by rfl) ?_
  refine s_if_ne (tgt := 10) dX8_undo_4 (by decide) (fun hqz => absurd h0 hqz) (fun hz => ?_)
  clear hz
  refine s_bipush (v := (-3)) dX8_undo_7 rfl ?_
  exact s_iret dX8_undo_9 rfl ⟨rfl, rfl⟩ (by first | exact wXMl | rfl | (simp only [List.length_set]; exact wXMl))
set_option maxHeartbeats 4000000 in
set_option maxRecDepth 100000 in
theorem y_undo {Z : zS} {d : Nat} {hd th : zHd} {hi : Int32} {tx : zTx} {sh : zSh} {tp : zTs} {cm fo nu f1 f2 : Nat → Int32} {mb mk mf ma mc ms me mq mu mh mp : Int32} {fc vc tt sg td sw sm ew eo bc bi im so sz : Nat → Int32} {it mv : Nat → Int64} (h0 : ¬ mh = 0) : zF Z M_X8_undo (d + 3) [.ref 41] (wX hd th hi tx sh tp ++ wM cm fo nu f1 f2 mb mk mf ma mc ms me mq mu mh mp fc vc tt sg td sw sm ew eo bc bi im so sz it mv) [.int (im 0)] (wX hd th hi tx sh tp ++ wM cm fo nu f1 f2 (im 0) (im 1) mf ma mc (im 2) (im 3) (im 4) (nI 45) mh 0 fc vc tt sg td (fb_put sw (fun r => im (5 + r)) 0 4) (fb_put sm (fun r => im (9 + r)) 0 4) (fb_put ew (fun r => im (13 + r)) 0 8) (fb_put eo (fun r => im (21 + r)) 0 8) (fb_put bc (fun r => im (29 + r)) 0 8) (fb_put bi (fun r => im (37 + r)) 0 8) im so sz it mv) := by
  show zG Z M_X8_undo (d + 3) _ 63 0 [(0, .ref 41)] [] (wX hd th hi tx sh tp ++ wM cm fo nu f1 f2 mb mk mf ma mc ms me mq mu mh mp fc vc tt sg td sw sm ew eo bc bi im so sz it mv)
  refine s_aload_n dX8_undo_0 rfl ?_
  refine s_get dX8_undo_1 f_X8_264 (by rfl) (by rfl) ?_
  refine s_if_ne (tgt := 10) dX8_undo_4 (by decide) (fun hz => ?_) (fun hqz => absurd hqz h0)
  clear hz
  refine s_aload_n dX8_undo_10 rfl ?_
  refine s_iconst (v := 0) dX8_undo_11 rfl ?_
  refine s_cv0 dX8_undo_12 g_X8_260 (c_pA0) (by rfl) rfl rfl rfl rfl (Nat.le_of_ble_eq_true rfl) (Nat.le_of_ble_eq_true rfl) rfl ?_
  show zG Z M_X8_undo _ _ _ _ _ _ (wX hd th hi tx sh tp ++ wM cm fo nu f1 f2 (im 0) (im 1) mf ma mc (im 2) (im 3) (im 4) (nI 45) mh 0 fc vc tt sg td (fb_put sw (fun r => im (5 + r)) 0 4) (fb_put sm (fun r => im (9 + r)) 0 4) (fb_put ew (fun r => im (13 + r)) 0 8) (fb_put eo (fun r => im (21 + r)) 0 8) (fb_put bc (fun r => im (29 + r)) 0 8) (fb_put bi (fun r => im (37 + r)) 0 8) im so sz it mv)
  refine s_aload_n dX8_undo_15 rfl ?_
  refine s_get dX8_undo_16 f_X8_125 (by rfl) (by rfl) ?_
  exact s_iret dX8_undo_19 rfl ⟨rfl, rfl⟩ (by first | exact wXMl | rfl | (simp only [List.length_set]; exact wXMl))
