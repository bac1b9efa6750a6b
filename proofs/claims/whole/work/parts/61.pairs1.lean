/-! ===== each call of the class beside the model's ===== -/
theorem updT {f f' : Nat → Int32} {n : Nat} {x : Int32} (h : ∀ i, i < n → f i = f' i) : ∀ i, i < n + 1 → upd f n x i = upd f' n x i := fun i hi => by
  unfold upd
  by_cases e : i = n
  · rw [if_pos e, if_pos e]
  · rw [if_neg e, if_neg e]; exact h i (by omega)
theorem pfL_lt {F : Nat → Int32} {n : Nat} : ∀ (r c : Nat) (σ : Nat × Nat × Nat), σ.1 < 256 → σ.2.1 < 256 → (pfL F n r c σ).1 < 256 ∧ (pfL F n r c σ).2.1 < 256
  | 0, _, _, h1, h2 => ⟨h1, h2⟩
  | r + 1, c, σ, h1, h2 => by
    rw [pfL]
    by_cases k : psC F c < n
    · rw [if_pos k]
      have hd := doC_lt (F := F) (p := psC F c) h1 h2
      exact pfL_lt r (c + 1) _ hd.1 hd.2.1
    · rw [if_neg k]; exact ⟨h1, h2⟩
theorem w7 (a : Int32) : (a < -3 ∨ 3 < a) ∨ ∃ j : Nat, j < 7 ∧ a = nZ ((j : Int) - 3) := by
  by_cases h1 : a < -3
  · exact Or.inl (Or.inl h1)
  by_cases h2 : 3 < a
  · exact Or.inl (Or.inr h2)
  have e1 : (-3 : Int32).toInt = -3 := by decide
  have e2 : (3 : Int32).toInt = 3 := by decide
  rw [fa_lt, e1] at h1
  rw [fa_lt, e2] at h2
  refine Or.inr ⟨(a.toInt + 3).toNat, by omega, ?_⟩
  rw [show (((a.toInt + 3).toNat : Nat) : Int) - 3 = a.toInt by omega]
  exact (Int32.ofInt_toInt a).symm
theorem wcase (a1 a2 a3 : Int32) : ((a1 < -3 ∨ 3 < a1) ∨ (a2 < -3 ∨ 3 < a2) ∨ (a3 < -3 ∨ 3 < a3) ∨ (a1 = 0 ∧ a2 = 0 ∧ a3 = 0)) ∨ ∃ n, n < 343 ∧ n ≠ 171 ∧ a1 = nZ (wa n) ∧ a2 = nZ (wb n) ∧ a3 = nZ (wc n) := by
  rcases w7 a1 with h | ⟨j1, l1, e1⟩
  · exact Or.inl (Or.inl h)
  rcases w7 a2 with h | ⟨j2, l2, e2⟩
  · exact Or.inl (Or.inr (Or.inl h))
  rcases w7 a3 with h | ⟨j3, l3, e3⟩
  · exact Or.inl (Or.inr (Or.inr (Or.inl h)))
  by_cases hz : j1 = 3 ∧ j2 = 3 ∧ j3 = 3
  · obtain ⟨r1, r2, r3⟩ := hz
    subst r1 r2 r3
    exact Or.inl (Or.inr (Or.inr (Or.inr ⟨e1, e2, e3⟩)))
  · refine Or.inr ⟨49 * j1 + 7 * j2 + j3, by omega, by omega, ?_, ?_, ?_⟩
    · rw [e1]; unfold wa; rw [show (49 * j1 + 7 * j2 + j3) / 49 = j1 by omega]
    · rw [e2]; unfold wb; rw [show (49 * j1 + 7 * j2 + j3) / 7 % 7 = j2 by omega]
    · rw [e3]; unfold wc; rw [show (49 * j1 + 7 * j2 + j3) % 7 = j3 by omega]
theorem mcase (m : Int32) : (m < 1 ∨ 3 < m) ∨ ∃ j, 1 ≤ j ∧ j ≤ 3 ∧ m = nI j := by
  rcases zix m 4 (by decide) with (h | h) | ⟨j, hj, rfl⟩
  · exact Or.inl (Or.inl (Int32.lt_of_lt_of_le h (by decide)))
  · exact Or.inl (Or.inr (Int32.lt_of_lt_of_le (by decide) h))
  · by_cases h0 : j = 0
    · subst h0; exact Or.inl (Or.inl (by decide))
    · exact Or.inr ⟨j, by omega, by omega, rfl⟩
theorem pcase (m : Int32) : (m < 0 ∨ 3 < m) ∨ ∃ j, j < 4 ∧ m = nI j := by
  rcases zix m 4 (by decide) with (h | h) | h
  · exact Or.inl (Or.inl h)
  · exact Or.inl (Or.inr (Int32.lt_of_lt_of_le (by decide) h))
  · exact Or.inr h
set_option maxHeartbeats 4000000 in
set_option maxRecDepth 100000 in
theorem P_corner {Z : zS} {w : zW} (h : INV w) (a1 : Int32) (a2 : Int32) : PRi Z M_X7_corner M_X8_corner [.int a1, .int a2] w := by
  have h0 := h
  obtain ⟨b, k, s, e, q, n, f1, g1, f2, g2, f3, g3, tf, th, hi, sh, tp, cm, fo, nu, q1, q2, ma, mc, mu, mp, fc, vc, tt, sg, td, sw, sm, ew, eo, bc, bi, im, so, sz, it, mv, rfl, hb, hk, hs, he, hq, hn, hS, hC, hF, hN, hT, h1, h2, h3, hE, hI, hP⟩ := h
  rcases zix a1 8 (by decide) with hc | ⟨j, hj, rfl⟩
  · exact ⟨_, _, _, _, x_corner1 hc, y_corner1 gM41 hb hc, gM41, h0⟩
  · by_cases i0 : a2 = 0
    · subst i0
      refine ⟨_, _, _, _, x_corner_0 hb hj, y_corner (t := 0) gM41 hb hj (by decide), gM41, ?_⟩
      rw [sM41]
      exact INV_mk (pSET_lt hb hj) hk hs he hq hn hS hC hF hN hT h1 h2 h3 hE hI hP
    by_cases i1 : a2 = 1
    · subst i1
      refine ⟨_, _, _, _, x_corner_1 hb hj, y_corner (t := 1) gM41 hb hj (by decide), gM41, ?_⟩
      rw [sM41]
      exact INV_mk (pSET_lt hb hj) hk hs he hq hn hS hC hF hN hT h1 h2 h3 hE hI hP
    exact ⟨_, _, _, _, x_corner2 hj ⟨i0, i1⟩, y_corner2 gM41 hb hj ⟨i0, i1⟩, gM41, h0⟩
set_option maxHeartbeats 4000000 in
set_option maxRecDepth 100000 in
theorem P_code {Z : zS} {w : zW} (h : INV w) (a1 : Int32) : PRi Z M_X7_code M_X8_code [.int a1] w := by
  have h0 := h
  obtain ⟨b, k, s, e, q, n, f1, g1, f2, g2, f3, g3, tf, th, hi, sh, tp, cm, fo, nu, q1, q2, ma, mc, mu, mp, fc, vc, tt, sg, td, sw, sm, ew, eo, bc, bi, im, so, sz, it, mv, rfl, hb, hk, hs, he, hq, hn, hS, hC, hF, hN, hT, h1, h2, h3, hE, hI, hP⟩ := h
  rcases zix a1 256 (by decide) with hc | ⟨j, hj, rfl⟩
  · exact ⟨_, _, _, _, x_code1 hc, y_code1 gM41 hb hc, gM41, h0⟩
  · refine ⟨_, _, _, _, x_code hj, y_code gM41 hb hj, gM41, ?_⟩
    rw [sM41]
    exact INV_mk hj hk hs he hq hn hS hC hF hN hT h1 h2 h3 hE hI hP
set_option maxHeartbeats 4000000 in
set_option maxRecDepth 100000 in
theorem P_move {Z : zS} {w : zW} (h : INV w) (a1 : Int32) : PRi Z M_X7_move M_X8_move [.int a1] w := by
  have h0 := h
  obtain ⟨b, k, s, e, q, n, f1, g1, f2, g2, f3, g3, tf, th, hi, sh, tp, cm, fo, nu, q1, q2, ma, mc, mu, mp, fc, vc, tt, sg, td, sw, sm, ew, eo, bc, bi, im, so, sz, it, mv, rfl, hb, hk, hs, he, hq, hn, hS, hC, hF, hN, hT, h1, h2, h3, hE, hI, hP⟩ := h
  rcases zix a1 48 (by decide) with hc | ⟨j, hj, rfl⟩
  · exact ⟨_, _, _, _, x_move1 hc, y_move1 gM41 hb hc, gM41, h0⟩
  · refine ⟨_, _, _, _, x_move hb hj, y_move gM41 hb gM42 hC hj, gM41, ?_⟩
    rw [sM41]
    exact INV_mk (pIMG_lt hj b) hk hs he hq hn hS hC hF hN hT h1 h2 h3 hE hI hP
set_option maxHeartbeats 4000000 in
set_option maxRecDepth 100000 in
theorem P_becomes {Z : zS} {w : zW} (h : INV w) (a1 : Int32) : PRi Z M_X7_becomes M_X8_becomes [.int a1] w := by
  have h0 := h
  obtain ⟨b, k, s, e, q, n, f1, g1, f2, g2, f3, g3, tf, th, hi, sh, tp, cm, fo, nu, q1, q2, ma, mc, mu, mp, fc, vc, tt, sg, td, sw, sm, ew, eo, bc, bi, im, so, sz, it, mv, rfl, hb, hk, hs, he, hq, hn, hS, hC, hF, hN, hT, h1, h2, h3, hE, hI, hP⟩ := h
  rcases zix a1 4 (by decide) with hc | ⟨j, hj, rfl⟩
  · exact ⟨_, _, _, _, x_becomes1 hc, y_becomes1 gM41 hb hc, gM41, h0⟩
  · refine ⟨_, _, _, _, x_becomes hb hj, y_becomes gM41 hb gM43 hF hj, gM41, ?_⟩
    rw [sM41]
    exact INV_mk (pCHG_lt hb hk) hk hs he hq hn hS hC hF hN hT h1 h2 h3 hE hI hP
set_option maxHeartbeats 4000000 in
set_option maxRecDepth 100000 in
theorem P_keep {Z : zS} {w : zW} (h : INV w)  : PRi Z M_X7_keep M_X8_keep [] w := by
  have h0 := h
  obtain ⟨b, k, s, e, q, n, f1, g1, f2, g2, f3, g3, tf, th, hi, sh, tp, cm, fo, nu, q1, q2, ma, mc, mu, mp, fc, vc, tt, sg, td, sw, sm, ew, eo, bc, bi, im, so, sz, it, mv, rfl, hb, hk, hs, he, hq, hn, hS, hC, hF, hN, hT, h1, h2, h3, hE, hI, hP⟩ := h
  refine ⟨_, _, _, _, x_keep, y_keep gM41 hb, gM41, ?_⟩
  rw [sM41]
  exact INV_mk hb hb hs he hq hn hS hC hF hN hT h1 h2 h3 hE hI hP
set_option maxHeartbeats 4000000 in
set_option maxRecDepth 100000 in
theorem P_feed {Z : zS} {w : zW} (h : INV w) (a1 : Int32) : PRi Z M_X7_feed M_X8_feed [.int a1] w := by
  have h0 := h
  obtain ⟨b, k, s, e, q, n, f1, g1, f2, g2, f3, g3, tf, th, hi, sh, tp, cm, fo, nu, q1, q2, ma, mc, mu, mp, fc, vc, tt, sg, td, sw, sm, ew, eo, bc, bi, im, so, sz, it, mv, rfl, hb, hk, hs, he, hq, hn, hS, hC, hF, hN, hT, h1, h2, h3, hE, hI, hP⟩ := h
  rcases zix a1 128 (by decide) with hc | ⟨j, hj, rfl⟩
  · exact ⟨_, _, _, _, x_feed1 hc, y_feed1 gM41 hb hc, gM41, h0⟩
  · by_cases h100 : n = 100
    · exact ⟨_, _, _, _, x_feed_f hj (by omega) (by omega), y_feed_f gM41 gM49 hn hj h100, gM41, h0⟩
    · refine ⟨_, _, _, _, x_feed hj (by omega), y_feed gM41 gM49 hn hj (by omega), gM41, ?_⟩
      rw [sM49, sM41]
      exact INV_mk hb hk hs he hq (by omega) hS hC hF hN (updT hT) h1 h2 h3 hE hI hP
set_option maxHeartbeats 4000000 in
set_option maxRecDepth 100000 in
theorem P_read {Z : zS} {w : zW} (h : INV w)  : PRi Z M_X7_read M_X8_read [] w := by
  have h0 := h
  obtain ⟨b, k, s, e, q, n, f1, g1, f2, g2, f3, g3, tf, th, hi, sh, tp, cm, fo, nu, q1, q2, ma, mc, mu, mp, fc, vc, tt, sg, td, sw, sm, ew, eo, bc, bi, im, so, sz, it, mv, rfl, hb, hk, hs, he, hq, hn, hS, hC, hF, hN, hT, h1, h2, h3, hE, hI, hP⟩ := h
  have eF : zFs tf n = zFs tt n := zFs_c hT
  by_cases hf : ffL (zFs tt n) n 12 0 = -1
  · have hx : zF Z M_X7_read 9 [.ref 0] (wX (nI b, nI k, (f1, g1, nI s), (f2, g2, nI e), (f3, g3, nI q)) th hi (tf, nI n) sh tp ++ wM cm fo nu q1 q2 (nI b) (nI k) (nI n) ma mc (nI s) (nI e) (nI q) mu hi mp fc vc tt sg td sw sm ew eo bc bi im so sz it mv) [.int (nI (pfL (zFs tt n) n 12 0 (b, k, 0)).2.2)] (wX (nI (pfL (zFs tt n) n 12 0 (b, k, 0)).1, nI (pfL (zFs tt n) n 12 0 (b, k, 0)).2.1, (f1, g1, nI s), (f2, g2, nI e), (f3, g3, nI q)) th hi (tf, 0) sh tp ++ wM cm fo nu q1 q2 (nI b) (nI k) (nI n) ma mc (nI s) (nI e) (nI q) mu hi mp fc vc tt sg td sw sm ew eo bc bi im so sz it mv) := by
      have hx := x_read (Z := Z) (d := 3) (b := b) (k := k) (rs := (f1, g1, nI s)) (re := (f2, g2, nI e)) (rb := (f3, g3, nI q)) (th := th) (hj := hi) (f := tf) (n := n) (sh := sh) (tp := tp) (R := wM cm fo nu q1 q2 (nI b) (nI k) (nI n) ma mc (nI s) (nI e) (nI q) mu hi mp fc vc tt sg td sw sm ew eo bc bi im so sz it mv) hn hb hk (by rw [eF]; exact hf)
      rw [eF] at hx
      exact hx
    have hl := pfL_lt (F := zFs tt n) (n := n) 12 0 (b, k, 0) hb hk
    exact ⟨_, _, _, _, hx, y_read hn hb hk hC hF hf, gM41, INV_mk (n := 0) hl.1 hl.2 hs he hq (by decide) hS hC hF hN (fun i hi0 => absurd hi0 (Nat.not_lt_zero i)) h1 h2 h3 hE hI hP⟩
  · have hx : zF Z M_X7_read 9 [.ref 0] (wX (nI b, nI k, (f1, g1, nI s), (f2, g2, nI e), (f3, g3, nI q)) th hi (tf, nI n) sh tp ++ wM cm fo nu q1 q2 (nI b) (nI k) (nI n) ma mc (nI s) (nI e) (nI q) mu hi mp fc vc tt sg td sw sm ew eo bc bi im so sz it mv) [.int (-10 - ffL (zFs tt n) n 12 0)] (wX (nI b, nI k, (f1, g1, nI s), (f2, g2, nI e), (f3, g3, nI q)) th hi (tf, 0) sh tp ++ wM cm fo nu q1 q2 (nI b) (nI k) (nI n) ma mc (nI s) (nI e) (nI q) mu hi mp fc vc tt sg td sw sm ew eo bc bi im so sz it mv) := by
      have hx := x_read_no (Z := Z) (d := 3) (b := b) (k := k) (rs := (f1, g1, nI s)) (re := (f2, g2, nI e)) (rb := (f3, g3, nI q)) (th := th) (hj := hi) (f := tf) (n := n) (sh := sh) (tp := tp) (R := wM cm fo nu q1 q2 (nI b) (nI k) (nI n) ma mc (nI s) (nI e) (nI q) mu hi mp fc vc tt sg td sw sm ew eo bc bi im so sz it mv) hn (by rw [eF]; exact hf)
      rw [eF] at hx
      exact hx
    exact ⟨_, _, _, _, hx, y_read_no hn hf, gM41, INV_mk (n := 0) hb hk hs he hq (by decide) hS hC hF hN (fun i hi0 => absurd hi0 (Nat.not_lt_zero i)) h1 h2 h3 hE hI hP⟩
set_option maxHeartbeats 4000000 in
set_option maxRecDepth 100000 in
theorem P_told {Z : zS} {w : zW} (h : INV w) (a1 : Int32) : PRi Z M_X7_told M_X8_told [.int a1] w := by
  have h0 := h
  obtain ⟨b, k, s, e, q, n, f1, g1, f2, g2, f3, g3, tf, th, hi, sh, tp, cm, fo, nu, q1, q2, ma, mc, mu, mp, fc, vc, tt, sg, td, sw, sm, ew, eo, bc, bi, im, so, sz, it, mv, rfl, hb, hk, hs, he, hq, hn, hS, hC, hF, hN, hT, h1, h2, h3, hE, hI, hP⟩ := h
  rcases zix a1 13 (by decide) with hc | ⟨j, hj, rfl⟩
  · exact ⟨_, _, _, _, x_told_no hc, y_told_no gM41 hb hc, gM41, h0⟩
  · rcases (show j = 0 ∨ j = 1 ∨ j = 2 ∨ j = 3 ∨ j = 4 ∨ j = 5 ∨ j = 6 ∨ j = 7 ∨ j = 8 ∨ j = 9 ∨ j = 10 ∨ j = 11 ∨ j = 12 by omega) with rfl | rfl | rfl | rfl | rfl | rfl | rfl | rfl | rfl | rfl | rfl | rfl | rfl
    · exact ⟨_, _, _, _, x_told0 hb hk, y_told0 gM41 hb, gM41, h0⟩
    · exact ⟨_, _, _, _, x_told1 hb hk, y_told1 gM41 hb, gM41, h0⟩
    · exact ⟨_, _, _, _, x_told2 hb hk, y_told2 gM41 hb, gM41, h0⟩
    · exact ⟨_, _, _, _, x_told3 hb hk, y_told3 gM41 hb gM43 hF, gM41, h0⟩
    · exact ⟨_, _, _, _, x_told4 hb hk, y_told4 gM41 hb gM44 hN, gM41, h0⟩
    · exact ⟨_, _, _, _, x_told5 hb hk, y_told5 gM41 hb gM43 hF, gM41, h0⟩
    · exact ⟨_, _, _, _, x_told6 hb hk, y_told6 gM41 hb gM42 hC, gM41, h0⟩
    · exact ⟨_, _, _, _, x_told7 hb hk, y_told7 gM41 hb hk gM42 hC, gM41, h0⟩
    · obtain ⟨sh', hS', hx⟩ : ∃ sh' : zSh, SOK sh' ∧ zF Z M_X7_told 9 [.ref 0, .int (nI 8)] (wX (nI b, nI k, (f1, g1, nI s), (f2, g2, nI e), (f3, g3, nI q)) th hi (tf, nI n) sh tp ++ wM cm fo nu q1 q2 (nI b) (nI k) (nI n) ma mc (nI s) (nI e) (nI q) mu hi mp fc vc tt sg td sw sm ew eo bc bi im so sz it mv) [.int (nI (kFL b 256 0 0))] (wX (nI b, nI k, (f1, g1, nI s), (f2, g2, nI e), (f3, g3, nI q)) th hi (tf, nI n) sh' tp ++ wM cm fo nu q1 q2 (nI b) (nI k) (nI n) ma mc (nI s) (nI e) (nI q) mu hi mp fc vc tt sg td sw sm ew eo bc bi im so sz it mv) := x_told8 hS hb hk
      refine ⟨_, _, _, _, hx, y_told8 gM41 hb gM47, gM41, ?_⟩
      rw [sM47]
      exact INV_mk hb hk hs he hq hn hS' hC hF hN hT h1 h2 h3 hE hI hP
    · obtain ⟨sh', hS', hx⟩ : ∃ sh' : zSh, SOK sh' ∧ zF Z M_X7_told 9 [.ref 0, .int (nI 9)] (wX (nI b, nI k, (f1, g1, nI s), (f2, g2, nI e), (f3, g3, nI q)) th hi (tf, nI n) sh tp ++ wM cm fo nu q1 q2 (nI b) (nI k) (nI n) ma mc (nI s) (nI e) (nI q) mu hi mp fc vc tt sg td sw sm ew eo bc bi im so sz it mv) [.int (nI (kEL b 256 0 0))] (wX (nI b, nI k, (f1, g1, nI s), (f2, g2, nI e), (f3, g3, nI q)) th hi (tf, nI n) sh' tp ++ wM cm fo nu q1 q2 (nI b) (nI k) (nI n) ma mc (nI s) (nI e) (nI q) mu hi mp fc vc tt sg td sw sm ew eo bc bi im so sz it mv) := x_told9 hS hb hk
      exact ⟨_, _, _, _, hx, y_told9 gM41 hb, gM41, INV_mk hb hk hs he hq hn hS' hC hF hN hT h1 h2 h3 hE hI hP⟩
    · refine ⟨_, _, _, _, x_told10 hb hk, y_told10 gM41 hb gM48, gM41, ?_⟩
      rw [sM48]
      exact INV_mk hb hk hs he hq hn hS hC hF hN hT h1 h2 h3 hE hI hP
    · obtain ⟨sh', hS', hx⟩ : ∃ sh' : zSh, SOK sh' ∧ zF Z M_X7_told 9 [.ref 0, .int (nI 11)] (wX (nI b, nI k, (f1, g1, nI s), (f2, g2, nI e), (f3, g3, nI q)) th hi (tf, nI n) sh tp ++ wM cm fo nu q1 q2 (nI b) (nI k) (nI n) ma mc (nI s) (nI e) (nI q) mu hi mp fc vc tt sg td sw sm ew eo bc bi im so sz it mv) [.int (kSIX b)] (wX (nI b, nI k, (f1, g1, nI s), (f2, g2, nI e), (f3, g3, nI q)) th hi (tf, nI n) sh' tp ++ wM cm fo nu q1 q2 (nI b) (nI k) (nI n) ma mc (nI s) (nI e) (nI q) mu hi mp fc vc tt sg td sw sm ew eo bc bi im so sz it mv) := x_told11 hS hb hk
      exact ⟨_, _, _, _, hx, y_told11 gM41 hb, gM41, INV_mk hb hk hs he hq hn hS' hC hF hN hT h1 h2 h3 hE hI hP⟩
    · obtain ⟨sh', hS', hx⟩ : ∃ sh' : zSh, SOK sh' ∧ zF Z M_X7_told 9 [.ref 0, .int (nI 12)] (wX (nI b, nI k, (f1, g1, nI s), (f2, g2, nI e), (f3, g3, nI q)) th hi (tf, nI n) sh tp ++ wM cm fo nu q1 q2 (nI b) (nI k) (nI n) ma mc (nI s) (nI e) (nI q) mu hi mp fc vc tt sg td sw sm ew eo bc bi im so sz it mv) [.int (kLW b)] (wX (nI b, nI k, (f1, g1, nI s), (f2, g2, nI e), (f3, g3, nI q)) th hi (tf, nI n) sh' tp ++ wM cm fo nu q1 q2 (nI b) (nI k) (nI n) ma mc (nI s) (nI e) (nI q) mu hi mp fc vc tt sg td sw sm ew eo bc bi im so sz it mv) := x_told12 hS hb hk
      exact ⟨_, _, _, _, hx, y_told12 gM41 hb, gM41, INV_mk hb hk hs he hq hn hS' hC hF hN hT h1 h2 h3 hE hI hP⟩
set_option maxHeartbeats 4000000 in
set_option maxRecDepth 100000 in
theorem P_carried {Z : zS} {w : zW} (h : INV w) (a1 : Int32) (a2 : Int32) : PRi Z M_X7_carried M_X8_carried [.int a1, .int a2] w := by
  have h0 := h
  obtain ⟨b, k, s, e, q, n, f1, g1, f2, g2, f3, g3, tf, th, hi, sh, tp, cm, fo, nu, q1, q2, ma, mc, mu, mp, fc, vc, tt, sg, td, sw, sm, ew, eo, bc, bi, im, so, sz, it, mv, rfl, hb, hk, hs, he, hq, hn, hS, hC, hF, hN, hT, h1, h2, h3, hE, hI, hP⟩ := h
  rcases zix a1 48 (by decide) with hc | ⟨j, hj, rfl⟩
  · exact ⟨_, _, _, _, x_carried1 hc, y_carried1 gM41 hb hc, gM41, h0⟩
  · rcases zix a2 8 (by decide) with hc | ⟨j2, hi2, rfl⟩
    · exact ⟨_, _, _, _, x_carried2 hj hc, y_carried2 gM41 hb hj hc, gM41, h0⟩
    · exact ⟨_, _, _, _, x_carried hj hi2, y_carried gM41 hb gM42 hC hj hi2, gM41, h0⟩
set_option maxHeartbeats 4000000 in
set_option maxRecDepth 100000 in
theorem P_imaged {Z : zS} {w : zW} (h : INV w) (a1 : Int32) : PRi Z M_X7_imaged M_X8_imaged [.int a1] w := by
  have h0 := h
  obtain ⟨b, k, s, e, q, n, f1, g1, f2, g2, f3, g3, tf, th, hi, sh, tp, cm, fo, nu, q1, q2, ma, mc, mu, mp, fc, vc, tt, sg, td, sw, sm, ew, eo, bc, bi, im, so, sz, it, mv, rfl, hb, hk, hs, he, hq, hn, hS, hC, hF, hN, hT, h1, h2, h3, hE, hI, hP⟩ := h
  rcases zix a1 48 (by decide) with hc | ⟨j, hj, rfl⟩
  · exact ⟨_, _, _, _, x_imaged1 hc, y_imaged1 gM41 hb hc, gM41, h0⟩
  · exact ⟨_, _, _, _, x_imaged hb hj, y_imaged gM41 hb gM42 hC hj, gM41, h0⟩
set_option maxHeartbeats 4000000 in
set_option maxRecDepth 100000 in
theorem P_form {Z : zS} {w : zW} (h : INV w) (a1 : Int32) : PRi Z M_X7_form M_X8_form [.int a1] w := by
  have h0 := h
  obtain ⟨b, k, s, e, q, n, f1, g1, f2, g2, f3, g3, tf, th, hi, sh, tp, cm, fo, nu, q1, q2, ma, mc, mu, mp, fc, vc, tt, sg, td, sw, sm, ew, eo, bc, bi, im, so, sz, it, mv, rfl, hb, hk, hs, he, hq, hn, hS, hC, hF, hN, hT, h1, h2, h3, hE, hI, hP⟩ := h
  rcases pk_ix a1 (n := 22) (by decide) with hc | hc | ⟨j, hj, rfl⟩
  · exact ⟨_, _, _, _, x_form1 hc, y_form1 gM41 hc, gM41, h0⟩
  · have hp : 0 ≤ a1 := Int32.le_trans (by decide) hc
    exact ⟨_, _, _, _, x_form2 hp hc, y_form2 gM41 gM43 hF gM44 hN hp hc, gM41, h0⟩
  · exact ⟨_, _, _, _, x_form hj, y_form gM41 gM43 hF gM44 hN hj, gM41, h0⟩
set_option maxHeartbeats 4000000 in
set_option maxRecDepth 100000 in
theorem P_classes {Z : zS} {w : zW} (h : INV w) (a1 : Int32) : PRi Z M_X7_classes M_X8_classes [.int a1] w := by
  have h0 := h
  obtain ⟨b, k, s, e, q, n, f1, g1, f2, g2, f3, g3, tf, th, hi, sh, tp, cm, fo, nu, q1, q2, ma, mc, mu, mp, fc, vc, tt, sg, td, sw, sm, ew, eo, bc, bi, im, so, sz, it, mv, rfl, hb, hk, hs, he, hq, hn, hS, hC, hF, hN, hT, h1, h2, h3, hE, hI, hP⟩ := h
  rcases zix a1 9 (by decide) with hc | ⟨j, hj, rfl⟩
  · exact ⟨_, _, _, _, x_classes1 hc, y_classes1 gM41 hc, gM41, h0⟩
  · exact ⟨_, _, _, _, x_classes hj, y_classes gM41 gM43 hF hj, gM41, h0⟩
set_option maxHeartbeats 4000000 in
set_option maxRecDepth 100000 in
theorem P_weighs {Z : zS} {w : zW} (h : INV w) (a1 : Int32) (a2 : Int32) (a3 : Int32) (a4 : Int32) : PRi Z M_X7_weighs M_X8_weighs [.int a1, .int a2, .int a3, .int a4] w := by
  have h0 := h
  obtain ⟨b, k, s, e, q, n, f1, g1, f2, g2, f3, g3, tf, th, hi, sh, tp, cm, fo, nu, q1, q2, ma, mc, mu, mp, fc, vc, tt, sg, td, sw, sm, ew, eo, bc, bi, im, so, sz, it, mv, rfl, hb, hk, hs, he, hq, hn, hS, hC, hF, hN, hT, h1, h2, h3, hE, hI, hP⟩ := h
  rcases wcase a1 a2 a3 with hc | ⟨m, hm, h171, rfl, rfl, rfl⟩
  · exact ⟨_, _, _, _, x_weighs1 hc, y_weighs1 gM41 hb hc, gM41, h0⟩
  · rcases zix a4 3 (by decide) with hc | ⟨j, hj, rfl⟩
    · exact ⟨_, _, _, _, x_weighs2 hm h171 hc, y_weighs2 gM41 hb hm h171 hc, gM41, h0⟩
    · by_cases hb0 : b = 0
      · exact ⟨_, _, _, _, x_weighs3 hm h171 hj hb0, y_weighs3 gM41 hb hm h171 hj hb0, gM41, h0⟩
      rcases (show j = 0 ∨ j = 1 ∨ j = 2 by omega) with rfl | rfl | rfl
      · exact ⟨_, _, _, _, x_weighs_0 hm h171 hb hb0, y_weighs_0 gM41 hb hm h171 hb0, gM41, h0⟩
      · exact ⟨_, _, _, _, x_weighs_1 hm h171 hb hb0, y_weighs_1 gM41 hb hm h171 hb0, gM41, h0⟩
      · exact ⟨_, _, _, _, x_weighs_2 hm h171 hb hb0, y_weighs_2 gM41 hb hm h171 hb0, gM41, h0⟩
set_option maxHeartbeats 4000000 in
set_option maxRecDepth 100000 in
theorem P_face {Z : zS} {w : zW} (h : INV w) (a1 : Int32) : PRi Z M_X7_face M_X8_face [.int a1] w := by
  have h0 := h
  obtain ⟨b, k, s, e, q, n, f1, g1, f2, g2, f3, g3, tf, th, hi, sh, tp, cm, fo, nu, q1, q2, ma, mc, mu, mp, fc, vc, tt, sg, td, sw, sm, ew, eo, bc, bi, im, so, sz, it, mv, rfl, hb, hk, hs, he, hq, hn, hS, hC, hF, hN, hT, h1, h2, h3, hE, hI, hP⟩ := h
  by_cases hc : a1 < 0
  · exact ⟨_, _, _, _, x_face1 hc, y_face1 gM41 hc, gM41, h0⟩
  obtain ⟨t, ht, rfl⟩ := nI_of hc
  obtain ⟨sh', hS', hx⟩ : ∃ sh' : zSh, SOK sh' ∧ zF Z M_X7_face 9 [.ref 0, .int (nI t)] (wX (nI b, nI k, (f1, g1, nI s), (f2, g2, nI e), (f3, g3, nI q)) th hi (tf, nI n) sh tp ++ wM cm fo nu q1 q2 (nI b) (nI k) (nI n) ma mc (nI s) (nI e) (nI q) mu hi mp fc vc tt sg td sw sm ew eo bc bi im so sz it mv) [.int (kFA b (nI t) 256 0 0)] (wX (nI b, nI k, (f1, g1, nI s), (f2, g2, nI e), (f3, g3, nI q)) th hi (tf, nI n) sh' tp ++ wM cm fo nu q1 q2 (nI b) (nI k) (nI n) ma mc (nI s) (nI e) (nI q) mu hi mp fc vc tt sg td sw sm ew eo bc bi im so sz it mv) := x_face hS (nI_pos' ht) hb
  refine ⟨_, _, _, _, hx, y_face gM41 hb gM47 ht, gM41, ?_⟩
  rw [sM47]
  exact INV_mk hb hk hs he hq hn hS' hC hF hN hT h1 h2 h3 hE hI hP
set_option maxHeartbeats 4000000 in
set_option maxRecDepth 100000 in
theorem P_edge {Z : zS} {w : zW} (h : INV w) (a1 : Int32) (a2 : Int32) : PRi Z M_X7_edge M_X8_edge [.int a1, .int a2] w := by
  have h0 := h
  obtain ⟨b, k, s, e, q, n, f1, g1, f2, g2, f3, g3, tf, th, hi, sh, tp, cm, fo, nu, q1, q2, ma, mc, mu, mp, fc, vc, tt, sg, td, sw, sm, ew, eo, bc, bi, im, so, sz, it, mv, rfl, hb, hk, hs, he, hq, hn, hS, hC, hF, hN, hT, h1, h2, h3, hE, hI, hP⟩ := h
  rcases zix a1 8 (by decide) with hc | ⟨j, hj, rfl⟩
  · exact ⟨_, _, _, _, x_edge1 hc, y_edge1 gM41 hb hc, gM41, h0⟩
  · rcases zix a2 8 (by decide) with hc | ⟨j2, hi2, rfl⟩
    · exact ⟨_, _, _, _, x_edge2 hj hc, y_edge2 gM41 hb hj hc, gM41, h0⟩
    · by_cases hx0 : j = j2 ∨ zb b j = 0 ∨ zb b j2 = 0
      · exact ⟨_, _, _, _, x_edge3 hb hj hi2 hx0, y_edge3 gM41 hb hj hi2 hx0, gM41, h0⟩
      have k1 : ¬ j = j2 := fun z => hx0 (Or.inl z)
      have k2 : ¬ zb b j = 0 := fun z => hx0 (Or.inr (Or.inl z))
      have k3 : ¬ zb b j2 = 0 := fun z => hx0 (Or.inr (Or.inr z))
      obtain ⟨sh', hS', hx⟩ : ∃ sh' : zSh, SOK sh' ∧ zF Z M_X7_edge 9 [.ref 0, .int (nI j), .int (nI j2)] (wX (nI b, nI k, (f1, g1, nI s), (f2, g2, nI e), (f3, g3, nI q)) th hi (tf, nI n) sh tp ++ wM cm fo nu q1 q2 (nI b) (nI k) (nI n) ma mc (nI s) (nI e) (nI q) mu hi mp fc vc tt sg td sw sm ew eo bc bi im so sz it mv) [.int (if (kTP b (2 ^ j ||| 2 ^ j2) && decide (pPOP (2 ^ j ||| 2 ^ j2) = 2)) = true then 1 else 0)] (wX (nI b, nI k, (f1, g1, nI s), (f2, g2, nI e), (f3, g3, nI q)) th hi (tf, nI n) sh' tp ++ wM cm fo nu q1 q2 (nI b) (nI k) (nI n) ma mc (nI s) (nI e) (nI q) mu hi mp fc vc tt sg td sw sm ew eo bc bi im so sz it mv) := x_edge hS hb hj hi2 k1 k2 k3
      exact ⟨_, _, _, _, hx, y_edge gM41 hb hj hi2 k1 k2 k3, gM41, INV_mk hb hk hs he hq hn hS' hC hF hN hT h1 h2 h3 hE hI hP⟩
set_option maxHeartbeats 4000000 in
set_option maxRecDepth 100000 in
theorem P_points {Z : zS} {w : zW} (h : INV w) (a1 : Int32) : PRi Z M_X7_points M_X8_points [.int a1] w := by
  have h0 := h
  obtain ⟨b, k, s, e, q, n, f1, g1, f2, g2, f3, g3, tf, th, hi, sh, tp, cm, fo, nu, q1, q2, ma, mc, mu, mp, fc, vc, tt, sg, td, sw, sm, ew, eo, bc, bi, im, so, sz, it, mv, rfl, hb, hk, hs, he, hq, hn, hS, hC, hF, hN, hT, h1, h2, h3, hE, hI, hP⟩ := h
  rcases mcase a1 with hc | ⟨j, j1, j3, rfl⟩
  · exact ⟨_, _, _, _, x_points1 hc, y_points1 gM41 hb hc, gM41, h0⟩
  by_cases hb0 : b = 0
  · exact ⟨_, _, _, _, x_points2 j1 j3 hb0, y_points2 gM41 hb j1 j3 hb0, gM41, h0⟩
  obtain ⟨sh', hS', hx⟩ : ∃ sh' : zSh, SOK sh' ∧ zF Z M_X7_points 9 [.ref 0, .int (nI j)] (wX (nI b, nI k, (f1, g1, nI s), (f2, g2, nI e), (f3, g3, nI q)) th hi (tf, nI n) sh tp ++ wM cm fo nu q1 q2 (nI b) (nI k) (nI n) ma mc (nI s) (nI e) (nI q) mu hi mp fc vc tt sg td sw sm ew eo bc bi im so sz it mv) [.int (nI (kPT b j))] (wX (nI b, nI k, (f1, g1, nI s), (f2, g2, nI e), (f3, g3, nI q)) th hi (tf, nI n) sh' tp ++ wM cm fo nu q1 q2 (nI b) (nI k) (nI n) ma mc (nI s) (nI e) (nI q) mu hi mp fc vc tt sg td sw sm ew eo bc bi im so sz it mv) := x_points hS j1 j3 hb hb0
  exact ⟨_, _, _, _, hx, y_points gM41 hb j1 j3 hb0, gM41, INV_mk hb hk hs he hq hn hS' hC hF hN hT h1 h2 h3 hE hI hP⟩
set_option maxHeartbeats 4000000 in
set_option maxRecDepth 100000 in
theorem P_holds {Z : zS} {w : zW} (h : INV w) (a1 : Int32) (a2 : Int32) (a3 : Int32) (a4 : Int32) : PRi Z M_X7_holds M_X8_holds [.int a1, .int a2, .int a3, .int a4] w := by
  have h0 := h
  obtain ⟨b, k, s, e, q, n, f1, g1, f2, g2, f3, g3, tf, th, hi, sh, tp, cm, fo, nu, q1, q2, ma, mc, mu, mp, fc, vc, tt, sg, td, sw, sm, ew, eo, bc, bi, im, so, sz, it, mv, rfl, hb, hk, hs, he, hq, hn, hS, hC, hF, hN, hT, h1, h2, h3, hE, hI, hP⟩ := h
  rcases mcase a1 with hc | ⟨j, j1, j3, rfl⟩
  · exact ⟨_, _, _, _, x_holds1 (Or.inl hc), y_holds1 gM41 hb (Or.inl hc), gM41, h0⟩
  rcases pcase a2 with hc | ⟨x, hx4, rfl⟩
  · exact ⟨_, _, _, _, x_holds1 (Or.inr (Or.inl hc)), y_holds1 gM41 hb (Or.inr (Or.inl hc)), gM41, h0⟩
  rcases pcase a3 with hc | ⟨y, hy4, rfl⟩
  · exact ⟨_, _, _, _, x_holds1 (Or.inr (Or.inr (Or.inl hc))), y_holds1 gM41 hb (Or.inr (Or.inr (Or.inl hc))), gM41, h0⟩
  rcases pcase a4 with hc | ⟨z, hz4, rfl⟩
  · exact ⟨_, _, _, _, x_holds1 (Or.inr (Or.inr (Or.inr hc))), y_holds1 gM41 hb (Or.inr (Or.inr (Or.inr hc))), gM41, h0⟩
  by_cases hb0 : b = 0
  · exact ⟨_, _, _, _, x_holds2 j1 j3 hx4 hy4 hz4 hb0, y_holds2 gM41 hb j1 j3 hx4 hy4 hz4 hb0, gM41, h0⟩
  obtain ⟨sh', hS', hx⟩ : ∃ sh' : zSh, SOK sh' ∧ zF Z M_X7_holds 9 [.ref 0, .int (nI j), .int (nI x), .int (nI y), .int (nI z)] (wX (nI b, nI k, (f1, g1, nI s), (f2, g2, nI e), (f3, g3, nI q)) th hi (tf, nI n) sh tp ++ wM cm fo nu q1 q2 (nI b) (nI k) (nI n) ma mc (nI s) (nI e) (nI q) mu hi mp fc vc tt sg td sw sm ew eo bc bi im so sz it mv) [.int (if kIN b j x y z 171 0 = true then 1 else 0)] (wX (nI b, nI k, (f1, g1, nI s), (f2, g2, nI e), (f3, g3, nI q)) th hi (tf, nI n) sh' tp ++ wM cm fo nu q1 q2 (nI b) (nI k) (nI n) ma mc (nI s) (nI e) (nI q) mu hi mp fc vc tt sg td sw sm ew eo bc bi im so sz it mv) := x_holds hS j1 j3 hx4 hy4 hz4 hb hb0
  exact ⟨_, _, _, _, hx, y_holds gM41 hb j1 j3 hx4 hy4 hz4 hb0, gM41, INV_mk hb hk hs he hq hn hS' hC hF hN hT h1 h2 h3 hE hI hP⟩
set_option maxHeartbeats 4000000 in
set_option maxRecDepth 100000 in
theorem P_floats {Z : zS} {w : zW} (h : INV w) (a1 : Int32) : PRi Z M_X7_floats M_X8_floats [.int a1] w := by
  have h0 := h
  obtain ⟨b, k, s, e, q, n, f1, g1, f2, g2, f3, g3, tf, th, hi, sh, tp, cm, fo, nu, q1, q2, ma, mc, mu, mp, fc, vc, tt, sg, td, sw, sm, ew, eo, bc, bi, im, so, sz, it, mv, rfl, hb, hk, hs, he, hq, hn, hS, hC, hF, hN, hT, h1, h2, h3, hE, hI, hP⟩ := h
  rcases zix a1 4 (by decide) with hc | ⟨j, hj, rfl⟩
  · exact ⟨_, _, _, _, x_floats1 hc, y_floats1 gM41 hb hc, gM41, h0⟩
  · by_cases hb0 : b = 0
    · exact ⟨_, _, _, _, x_floats2 hj hb0, y_floats2 gM41 hb hj hb0, gM41, h0⟩
    by_cases h3j : j = 3
    · subst h3j
      obtain ⟨u1, u2, u3⟩ := fat_ok hb hb0
      obtain ⟨sh', hS', hx⟩ : ∃ sh' : zSh, SOK sh' ∧ zF Z M_X7_floats 9 [.ref 0, .int (nI 3)] (wX (nI b, nI k, (f1, g1, nI s), (f2, g2, nI e), (f3, g3, nI q)) th hi (tf, nI n) sh tp ++ wM cm fo nu q1 q2 (nI b) (nI k) (nI n) ma mc (nI s) (nI e) (nI q) mu hi mp fc vc tt sg td sw sm ew eo bc bi im so sz it mv) [.int (kFAT b).toInt32] (wX (nI b, nI k, (f1, g1, nI s), (f2, g2, nI e), (f3, g3, nI q)) th hi (tf, nI n) sh' tp ++ wM cm fo nu q1 q2 (nI b) (nI k) (nI n) ma mc (nI s) (nI e) (nI q) mu hi mp fc vc tt sg td sw sm ew eo bc bi im so sz it mv) := x_floats_fat hS hb hb0 u1 u2
      exact ⟨_, _, _, _, hx, y_floats_fat gM41 hb hb0 u1 u3, gM41, INV_mk hb hk hs he hq hn hS' hC hF hN hT h1 h2 h3 hE hI hP⟩
    obtain ⟨u1, u2⟩ := cen_ok hb hb0 (show j < 3 by omega)
    exact ⟨_, _, _, _, x_floats (by omega) hb hb0 u1, y_floats gM41 hb (by omega) hb0 u2, gM41, h0⟩
set_option maxHeartbeats 4000000 in
set_option maxRecDepth 100000 in
theorem P_spread {Z : zS} {w : zW} (h : INV w)  : PRl Z M_X7_spread M_X8_spread [] w := by
  have h0 := h
  obtain ⟨b, k, s, e, q, n, f1, g1, f2, g2, f3, g3, tf, th, hi, sh, tp, cm, fo, nu, q1, q2, ma, mc, mu, mp, fc, vc, tt, sg, td, sw, sm, ew, eo, bc, bi, im, so, sz, it, mv, rfl, hb, hk, hs, he, hq, hn, hS, hC, hF, hN, hT, h1, h2, h3, hE, hI, hP⟩ := h
  by_cases hb0 : b = 0
  · exact ⟨_, _, _, _, x_spread1 hb0, y_spread1 gM41 hb hb0, gM41, h0⟩
  obtain ⟨u1, u2, u3⟩ := spr_ok hb hb0
  exact ⟨_, _, _, _, x_spread hb hb0 u1 u2, y_spread gM41 hb hb0 u1 u3, gM41, h0⟩
