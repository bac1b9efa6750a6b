/-! ===== each call of the class beside the model's: rows, tapes, the image ===== -/
theorem EV_upd {f g : Nat → Int32} {s : Nat} {x y : Int32} (h : EVok f g s) (hn : (x = 0 ∧ ∃ u, u < 8 ∧ y = nI u) ∨ (x = 1 ∧ ∃ u, u < 48 ∧ y = nI u) ∨ x = 2) : EVok (upd f s x) (upd g s y) (s + 1) := fun r hr => by
  unfold upd
  by_cases e : r = s
  · rw [if_pos e, if_pos e]; exact hn
  · rw [if_neg e, if_neg e]; exact h r (by omega)
theorem zcpy8 {f g : Nat → Int32} {i : Nat} (h : i < 8) : va_cpy f g 0 0 8 i = f i := by
  unfold va_cpy
  rw [if_pos ⟨Nat.zero_le _, by omega⟩, Nat.sub_zero, Nat.zero_add]
theorem zput0 {f g : Nat → Int32} {i n : Nat} (h : i < n) : fb_put f g 0 n i = g i := by
  rw [fb_put_in (Nat.zero_le _) (by omega), Nat.sub_zero]
theorem imK_val {im sw sm ew eo bc bi : Nat → Int32} {mb mk ms me mq : Int32} : imK im mb mk ms me mq sw sm ew eo bc bi 0 = mb ∧ imK im mb mk ms me mq sw sm ew eo bc bi 1 = mk ∧ imK im mb mk ms me mq sw sm ew eo bc bi 2 = ms ∧ imK im mb mk ms me mq sw sm ew eo bc bi 3 = me ∧ imK im mb mk ms me mq sw sm ew eo bc bi 4 = mq := ⟨rfl, rfl, rfl, rfl, rfl⟩
theorem imK_rows {im sw sm ew eo bc bi : Nat → Int32} {mb mk ms me mq : Int32} : (∀ i, i < 4 → imK im mb mk ms me mq sw sm ew eo bc bi (5 + i) = sw i ∧ imK im mb mk ms me mq sw sm ew eo bc bi (9 + i) = sm i) ∧ (∀ i, i < 8 → imK im mb mk ms me mq sw sm ew eo bc bi (13 + i) = ew i ∧ imK im mb mk ms me mq sw sm ew eo bc bi (21 + i) = eo i) ∧ ∀ i, i < 8 → imK im mb mk ms me mq sw sm ew eo bc bi (29 + i) = bc i ∧ imK im mb mk ms me mq sw sm ew eo bc bi (37 + i) = bi i := by
  unfold imK
  refine ⟨fun i hi => ⟨?_, ?_⟩, fun i hi => ⟨?_, ?_⟩, fun i hi => ⟨?_, ?_⟩⟩
  · rw [fb_put_out (by omega), fb_put_out (by omega), fb_put_out (by omega), fb_put_out (by omega), fb_put_out (by omega), fb_put_in (by omega) (by omega), Nat.add_sub_cancel_left]
  · rw [fb_put_out (by omega), fb_put_out (by omega), fb_put_out (by omega), fb_put_out (by omega), fb_put_in (by omega) (by omega), Nat.add_sub_cancel_left]
  · rw [fb_put_out (by omega), fb_put_out (by omega), fb_put_out (by omega), fb_put_in (by omega) (by omega), Nat.add_sub_cancel_left]
  · rw [fb_put_out (by omega), fb_put_out (by omega), fb_put_in (by omega) (by omega), Nat.add_sub_cancel_left]
  · rw [fb_put_out (by omega), fb_put_in (by omega) (by omega), Nat.add_sub_cancel_left]
  · rw [fb_put_in (by omega) (by omega), Nat.add_sub_cancel_left]
theorem TP_cases {tp : zTs} {so sz : Nat → Int32} {it : Nat → Int64} (h : TPok tp so sz it) {j : Nat} (hj : j < 6) : ∃ iv : Nat → Int64, (∀ p, p < 60 → iv p = it (60 * j + p)) ∧ ((tpg tp j = (iv, -1, 0) ∧ sz j = -1) ∨ ∃ s z, s < 5 ∧ z ≤ 60 ∧ tpg tp j = (iv, nI s, nI z) ∧ so j = nI s ∧ sz j = nI z) := by
  obtain ⟨a, b⟩ := h j hj
  refine ⟨(tpg tp j).1, a, ?_⟩
  rcases b with ⟨b1, b2, b3⟩ | ⟨s, z, b1, b2, b3, b4, b5, b6⟩
  · exact Or.inl ⟨Prod.ext rfl (Prod.ext b1 b2), b3⟩
  · exact Or.inr ⟨s, z, b1, b2, Prod.ext rfl (Prod.ext b3 b4), b5, b6⟩
theorem q_s1 : ∀ s, s < 5 → ¬ nI s = -1 := by decide +kernel
theorem q_s4 : ∀ s, s < 5 → s ≠ 4 → ¬ nI s = 4 := by decide +kernel
theorem zfil_val (f : Nat → Int64) : ∀ k x, zfil f k x = if x < k then 0 else f x
  | 0, x => by rw [if_neg (Nat.not_lt_zero x)]; rfl
  | k + 1, x => by
    unfold zfil vp_updL
    rw [zfil_val f k x]
    by_cases e : x = k
    · rw [if_pos e, if_pos (by omega)]
    · rw [if_neg e]
      by_cases h : x < k
      · rw [if_pos h, if_pos (by omega)]
      · rw [if_neg h, if_neg (by omega)]
theorem upd_ne {f : Nat → Int32} {i j : Nat} {x : Int32} (h : i ≠ j) : upd f j x i = f i := if_neg h
theorem upd_eq {f : Nat → Int32} {j : Nat} {x : Int32} : upd f j x j = x := if_pos rfl
theorem zhvN {z : Nat} {p m : Int32} (hz : z ≤ 60) (h : m < 0 ∨ p < 0 ∨ (z : Int) < p.toInt + m.toInt) : zhv (nI z) p m = 0 := by
  unfold zhv
  by_cases h1 : m < 0
  · rw [if_pos h1]
  rw [if_neg h1]
  by_cases h2 : p < 0
  · rw [if_pos h2]
  rw [if_neg h2]
  have h3 := (h.resolve_left h1).resolve_left h2
  obtain ⟨m', hm, rfl⟩ := nI_of h1
  obtain ⟨p', hp, rfl⟩ := nI_of h2
  rw [nI_toInt hm, nI_toInt hp] at h3
  by_cases h4 : nI z < nI m'
  · rw [if_pos h4]
  rw [if_neg h4]
  have h5 : m' ≤ z := by
    rcases Nat.lt_or_ge z m' with q | q
    · exact absurd (nI_lt q hm) h4
    · exact q
  rw [pk_sub h5, if_pos (nI_lt (show z - m' < p' by omega) hp)]
theorem itF_cpy {it iv1 iv2 mv : Nat → Int64} {j o p q m z1 : Nat} (h1 : ∀ x, x < 60 → iv1 x = it (60 * j + x)) (h2 : ∀ x, x < 60 → iv2 x = it (60 * o + x)) (hz : z1 ≤ 60) (hp : p + m ≤ z1) (x : Nat) (hx : x < 60) : va_cpy iv1 iv2 p q m x = itF it (mvF mv it (60 * j + p) m) (60 * o + q) m (60 * o + x) := by
  rw [itF_val]
  unfold va_cpy
  by_cases h : q ≤ x ∧ x < q + m
  · rw [if_pos h, if_pos (by omega), mvF_in mv it (60 * j + p) m _ (by omega), h1 _ (by omega)]
    exact congrArg it (by omega)
  · rw [if_neg h, if_neg (by omega)]
    exact h2 x hx
set_option maxHeartbeats 4000000 in
set_option maxRecDepth 100000 in
theorem P_see {Z : zS} {w : zW} (h : INV w) (a1 : Int32) (a2 : Int32) : PRi Z M_X7_see M_X8_see [.int a1, .int a2] w := by
  have h0 := h
  obtain ⟨b, k, s, e, q, n, f1, g1, f2, g2, f3, g3, tf, th, hi, sh, tp, cm, fo, nu, q1, q2, ma, mc, mu, mp, fc, vc, tt, sg, td, sw, sm, ew, eo, bc, bi, im, so, sz, it, mv, rfl, hb, hk, hs, he, hq, hn, hS, hC, hF, hN, hT, h1, h2, h3, hE, hI, hP⟩ := h
  by_cases c0 : a1 = -1
  · subst c0
    refine ⟨_, _, _, _, x_see_e, y_see_e gM41 hb, gM41, ?_⟩
    rw [sM41]
    exact INV_mk (s := 0) hb hk (Nat.zero_le _) he hq hn hS hC hF hN hT h1 h2 h3 hE hI hP
  rcases zix a1 4 (by decide) with hc | ⟨j, hj, rfl⟩
  · exact ⟨_, _, _, _, x_see1 c0 hc, y_see1 gM41 hb c0 hc, gM41, h0⟩
  · rcases zix a2 100 (by decide) with hc | ⟨u, hu, rfl⟩
    · exact ⟨_, _, _, _, x_see2 hj hc, y_see2 gM41 hb hj hc, gM41, h0⟩
    · by_cases h4 : s = 4
      · exact ⟨_, _, _, _, x_see_f hj hu (by omega) (by omega), y_see_f (f := f1) (g := g1) gM41 hb hj hu h4, gM41, h0⟩
      refine ⟨_, _, _, _, x_see hj hu (by omega), y_see gM41 hb gM52 gM53 hj hu (by omega), gM41, ?_⟩
      rw [sM52, sM53, sM41]
      exact INV_mk (s := s + 1) hb hk (by omega) he hq hn hS hC hF hN hT (RWk_upd h1) h2 h3 hE hI hP
set_option maxHeartbeats 4000000 in
set_option maxRecDepth 100000 in
theorem P_fits {Z : zS} {w : zW} (h : INV w)  : PRi Z M_X7_fits M_X8_fits [] w := by
  have h0 := h
  obtain ⟨b, k, s, e, q, n, f1, g1, f2, g2, f3, g3, tf, th, hi, sh, tp, cm, fo, nu, q1, q2, ma, mc, mu, mp, fc, vc, tt, sg, td, sw, sm, ew, eo, bc, bi, im, so, sz, it, mv, rfl, hb, hk, hs, he, hq, hn, hS, hC, hF, hN, hT, h1, h2, h3, hE, hI, hP⟩ := h
  obtain ⟨sh', hS', hx⟩ : ∃ sh' : zSh, SOK sh' ∧ zF Z M_X7_fits 9 [.ref 0] (wX (nI b, nI k, (f1, g1, nI s), (f2, g2, nI e), (f3, g3, nI q)) th hi (tf, nI n) sh tp ++ wM cm fo nu q1 q2 (nI b) (nI k) (nI n) ma mc (nI s) (nI e) (nI q) mu hi mp fc vc tt sg td sw sm ew eo bc bi im so sz it mv) [.int (nI (kFT f1 g1 s b 8 0 0))] (wX (nI b, nI k, (f1, g1, nI s), (f2, g2, nI e), (f3, g3, nI q)) th hi (tf, nI n) sh' tp ++ wM cm fo nu q1 q2 (nI b) (nI k) (nI n) ma mc (nI s) (nI e) (nI q) mu hi mp fc vc tt sg td sw sm ew eo bc bi im so sz it mv) := x_fits hS (by omega) hb
  obtain ⟨e2, hy⟩ : ∃ e2 : Nat → Int32, zF Z M_X8_fits 9 [.ref 41] (wX (nI b, nI k, (f1, g1, nI s), (f2, g2, nI e), (f3, g3, nI q)) th hi (tf, nI n) sh' tp ++ wM cm fo nu q1 q2 (nI b) (nI k) (nI n) ma mc (nI s) (nI e) (nI q) mu hi mp fc vc tt sg td sw sm ew eo bc bi im so sz it mv) [.int (nI (kFT sw sm s b 8 0 0))] ((wX (nI b, nI k, (f1, g1, nI s), (f2, g2, nI e), (f3, g3, nI q)) th hi (tf, nI n) sh' tp ++ wM cm fo nu q1 q2 (nI b) (nI k) (nI n) ma mc (nI s) (nI e) (nI q) mu hi mp fc vc tt sg td sw sm ew eo bc bi im so sz it mv).set 47 (aZ 256 e2)) := y_fits (d := 1) gM41 hb gM44 hN gM52 gM53 gM47 hs
  rw [kFT_c (f' := sw) (g' := sm) (fun i hi0 => h1 i (by omega))] at hx
  refine ⟨_, _, _, _, hx, hy, gM41, ?_⟩
  rw [sM47]
  exact INV_mk hb hk hs he hq hn hS' hC hF hN hT h1 h2 h3 hE hI hP
set_option maxHeartbeats 4000000 in
set_option maxRecDepth 100000 in
theorem P_odds {Z : zS} {w : zW} (h : INV w) (a1 : Int32) (a2 : Int32) : PRl Z M_X7_odds M_X8_odds [.int a1, .int a2] w := by
  have h0 := h
  obtain ⟨b, k, s, e, q, n, f1, g1, f2, g2, f3, g3, tf, th, hi, sh, tp, cm, fo, nu, q1, q2, ma, mc, mu, mp, fc, vc, tt, sg, td, sw, sm, ew, eo, bc, bi, im, so, sz, it, mv, rfl, hb, hk, hs, he, hq, hn, hS, hC, hF, hN, hT, h1, h2, h3, hE, hI, hP⟩ := h
  rcases zix a1 8 (by decide) with hc | ⟨j, hj, rfl⟩
  · exact ⟨_, _, _, _, x_odds1 hc, y_odds1 gM41 hb hc, gM41, h0⟩
  · by_cases i0 : a2 = 0
    · subst i0
      exact ⟨_, _, _, _, x_odds (p := 0) hb hj (by decide), y_odds (p := 0) gM41 hb gM42 hC hj (by decide), gM41, h0⟩
    by_cases i1 : a2 = 1
    · subst i1
      exact ⟨_, _, _, _, x_odds (p := 1) hb hj (by decide), y_odds (p := 1) gM41 hb gM42 hC hj (by decide), gM41, h0⟩
    exact ⟨_, _, _, _, x_odds2 hj ⟨i0, i1⟩, y_odds2 gM41 hb hj ⟨i0, i1⟩, gM41, h0⟩
set_option maxHeartbeats 4000000 in
set_option maxRecDepth 100000 in
theorem P_mean {Z : zS} {w : zW} (h : INV w) (a1 : Int32) : PRl Z M_X7_mean M_X8_mean [.int a1] w := by
  have h0 := h
  obtain ⟨b, k, s, e, q, n, f1, g1, f2, g2, f3, g3, tf, th, hi, sh, tp, cm, fo, nu, q1, q2, ma, mc, mu, mp, fc, vc, tt, sg, td, sw, sm, ew, eo, bc, bi, im, so, sz, it, mv, rfl, hb, hk, hs, he, hq, hn, hS, hC, hF, hN, hT, h1, h2, h3, hE, hI, hP⟩ := h
  by_cases i0 : a1 = 0
  · subst i0
    exact ⟨_, _, _, _, x_mean (p := 0) hb (by decide), y_mean (p := 0) gM41 hb gM42 hC (by decide), gM41, h0⟩
  by_cases i1 : a1 = 1
  · subst i1
    exact ⟨_, _, _, _, x_mean (p := 1) hb (by decide), y_mean (p := 1) gM41 hb gM42 hC (by decide), gM41, h0⟩
  exact ⟨_, _, _, _, x_mean1 ⟨i0, i1⟩, y_mean1 gM41 hb ⟨i0, i1⟩, gM41, h0⟩
set_option maxHeartbeats 4000000 in
set_option maxRecDepth 100000 in
theorem P_event {Z : zS} {w : zW} (h : INV w) (a1 : Int32) (a2 : Int32) : PRi Z M_X7_event M_X8_event [.int a1, .int a2] w := by
  have h0 := h
  obtain ⟨b, k, s, e, q, n, f1, g1, f2, g2, f3, g3, tf, th, hi, sh, tp, cm, fo, nu, q1, q2, ma, mc, mu, mp, fc, vc, tt, sg, td, sw, sm, ew, eo, bc, bi, im, so, sz, it, mv, rfl, hb, hk, hs, he, hq, hn, hS, hC, hF, hN, hT, h1, h2, h3, hE, hI, hP⟩ := h
  by_cases c0 : a1 = -1
  · subst c0
    refine ⟨_, _, _, _, x_event_e, y_event_e gM41 hb, gM41, ?_⟩
    rw [sM41]
    exact INV_mk (e := 0) hb hk hs (Nat.zero_le _) hq hn hS hC hF hN hT h1 h2 h3 (fun r hr => absurd hr (Nat.not_lt_zero r)) hI hP
  rcases zix a1 3 (by decide) with hc | ⟨j, hj, rfl⟩
  · exact ⟨_, _, _, _, x_event_no c0 hc, y_event_no gM41 hb c0 hc, gM41, h0⟩
  · rcases (show j = 0 ∨ j = 1 ∨ j = 2 by omega) with rfl | rfl | rfl
    · rcases zix a2 8 (by decide) with hc | ⟨u, hu, rfl⟩
      · exact ⟨_, _, _, _, x_event0_b hc, y_event0_b gM41 hb hc, gM41, h0⟩
      · by_cases h8 : e = 8
        · exact ⟨_, _, _, _, x_event0_f hu (by omega) (by omega), y_event0_f (f := f2) (g := g2) gM41 hb hu h8, gM41, h0⟩
        refine ⟨_, _, _, _, x_event0 hu (by omega), y_event0 gM41 hb gM54 gM55 hu (by omega), gM41, ?_⟩
        rw [sM54, sM55, sM41]
        exact INV_mk (e := e + 1) hb hk hs (by omega) hq hn hS hC hF hN hT h1 (RWk_upd h2) h3 (EV_upd hE (Or.inl ⟨rfl, u, hu, rfl⟩)) hI hP
    · rcases zix a2 48 (by decide) with hc | ⟨u, hu, rfl⟩
      · exact ⟨_, _, _, _, x_event1_b hc, y_event1_b gM41 hb hc, gM41, h0⟩
      · by_cases h8 : e = 8
        · exact ⟨_, _, _, _, x_event1_f hu (by omega) (by omega), y_event1_f (f := f2) (g := g2) gM41 hb hu h8, gM41, h0⟩
        refine ⟨_, _, _, _, x_event1 hu (by omega), y_event1 gM41 hb gM54 gM55 hu (by omega), gM41, ?_⟩
        rw [sM54, sM55, sM41]
        exact INV_mk (e := e + 1) hb hk hs (by omega) hq hn hS hC hF hN hT h1 (RWk_upd h2) h3 (EV_upd hE (Or.inr (Or.inl ⟨rfl, u, hu, rfl⟩))) hI hP
    · by_cases c2 : a2 = 0
      · subst c2
        by_cases h8 : e = 8
        · exact ⟨_, _, _, _, x_event2_f (by omega) (by omega), y_event2_f (f := f2) (g := g2) gM41 hb h8, gM41, h0⟩
        refine ⟨_, _, _, _, x_event2 (by omega), y_event2 gM41 hb gM54 gM55 (by omega), gM41, ?_⟩
        rw [sM54, sM55, sM41]
        exact INV_mk (e := e + 1) hb hk hs (by omega) hq hn hS hC hF hN hT h1 (RWk_upd h2) h3 (EV_upd hE (Or.inr (Or.inr rfl))) hI hP
      exact ⟨_, _, _, _, x_event2_b c2, y_event2_b gM41 hb c2, gM41, h0⟩
set_option maxHeartbeats 4000000 in
set_option maxRecDepth 100000 in
theorem P_after {Z : zS} {w : zW} (h : INV w) (a1 : Int32) : PRi Z M_X7_after M_X8_after [.int a1] w := by
  have h0 := h
  obtain ⟨b, k, s, e, q, n, f1, g1, f2, g2, f3, g3, tf, th, hi, sh, tp, cm, fo, nu, q1, q2, ma, mc, mu, mp, fc, vc, tt, sg, td, sw, sm, ew, eo, bc, bi, im, so, sz, it, mv, rfl, hb, hk, hs, he, hq, hn, hS, hC, hF, hN, hT, h1, h2, h3, hE, hI, hP⟩ := h
  have hE2 : EVok ew eo e := EVok_c (fun i hi0 => h2 i (by omega)) hE
  rcases zix a1 3 (by decide) with hc | ⟨j, hj, rfl⟩
  · exact ⟨_, _, _, _, x_after_no hc, y_after_no gM41 hb hc, gM41, h0⟩
  · rcases (show j = 0 ∨ j = 1 ∨ j = 2 by omega) with rfl | rfl | rfl
    · have hx : zF Z M_X7_after 9 [.ref 0, .int (nI 0)] (wX (nI b, nI k, (f1, g1, nI s), (f2, g2, nI e), (f3, g3, nI q)) th hi (tf, nI n) sh tp ++ wM cm fo nu q1 q2 (nI b) (nI k) (nI n) ma mc (nI s) (nI e) (nI q) mu hi mp fc vc tt sg td sw sm ew eo bc bi im so sz it mv) [.int (nI (kBA f2 g2 e 0 b))] (wX (nI b, nI k, (f1, g1, nI s), (f2, g2, nI e), (f3, g3, nI q)) th hi (tf, nI n) sh tp ++ wM cm fo nu q1 q2 (nI b) (nI k) (nI n) ma mc (nI s) (nI e) (nI q) mu hi mp fc vc tt sg td sw sm ew eo bc bi im so sz it mv) := x_after0 he hE hb
      rw [kBA_c (f' := ew) (g' := eo) (fun i hi0 => h2 i (by omega)) e 0 b (by omega)] at hx
      exact ⟨_, _, _, _, hx, y_after0 gM41 hb gM42 hC gM54 gM55 he hE2, gM41, h0⟩
    · obtain ⟨sh', hS', hx⟩ : ∃ sh' : zSh, SOK sh' ∧ zF Z M_X7_after 9 [.ref 0, .int (nI 1)] (wX (nI b, nI k, (f1, g1, nI s), (f2, g2, nI e), (f3, g3, nI q)) th hi (tf, nI n) sh tp ++ wM cm fo nu q1 q2 (nI b) (nI k) (nI n) ma mc (nI s) (nI e) (nI q) mu hi mp fc vc tt sg td sw sm ew eo bc bi im so sz it mv) [.int (kSIX (kBA f2 g2 e 0 b))] (wX (nI b, nI k, (f1, g1, nI s), (f2, g2, nI e), (f3, g3, nI q)) th hi (tf, nI n) sh' tp ++ wM cm fo nu q1 q2 (nI b) (nI k) (nI n) ma mc (nI s) (nI e) (nI q) mu hi mp fc vc tt sg td sw sm ew eo bc bi im so sz it mv) := x_after1 hS he hE hb
      rw [kBA_c (f' := ew) (g' := eo) (fun i hi0 => h2 i (by omega)) e 0 b (by omega)] at hx
      exact ⟨_, _, _, _, hx, y_after1 gM41 hb gM42 hC gM54 gM55 he hE2, gM41, INV_mk hb hk hs he hq hn hS' hC hF hN hT h1 h2 h3 hE hI hP⟩
    · have hx : zF Z M_X7_after 9 [.ref 0, .int (nI 2)] (wX (nI b, nI k, (f1, g1, nI s), (f2, g2, nI e), (f3, g3, nI q)) th hi (tf, nI n) sh tp ++ wM cm fo nu q1 q2 (nI b) (nI k) (nI n) ma mc (nI s) (nI e) (nI q) mu hi mp fc vc tt sg td sw sm ew eo bc bi im so sz it mv) [.int (nI (pNUM (kBA f2 g2 e 0 b)))] (wX (nI b, nI k, (f1, g1, nI s), (f2, g2, nI e), (f3, g3, nI q)) th hi (tf, nI n) sh tp ++ wM cm fo nu q1 q2 (nI b) (nI k) (nI n) ma mc (nI s) (nI e) (nI q) mu hi mp fc vc tt sg td sw sm ew eo bc bi im so sz it mv) := x_after2 he hE hb
      rw [kBA_c (f' := ew) (g' := eo) (fun i hi0 => h2 i (by omega)) e 0 b (by omega)] at hx
      exact ⟨_, _, _, _, hx, y_after2 gM41 hb gM42 hC gM54 gM55 he hE2 gM44 hN, gM41, h0⟩
set_option maxHeartbeats 4000000 in
set_option maxRecDepth 100000 in
theorem P_book {Z : zS} {w : zW} (h : INV w) (a1 : Int32) (a2 : Int32) : PRi Z M_X7_book M_X8_book [.int a1, .int a2] w := by
  have h0 := h
  obtain ⟨b, k, s, e, q, n, f1, g1, f2, g2, f3, g3, tf, th, hi, sh, tp, cm, fo, nu, q1, q2, ma, mc, mu, mp, fc, vc, tt, sg, td, sw, sm, ew, eo, bc, bi, im, so, sz, it, mv, rfl, hb, hk, hs, he, hq, hn, hS, hC, hF, hN, hT, h1, h2, h3, hE, hI, hP⟩ := h
  by_cases c0 : a1 = -1
  · subst c0
    refine ⟨_, _, _, _, x_book_e, y_book_e gM41 hb, gM41, ?_⟩
    rw [sM41]
    exact INV_mk (q := 0) hb hk hs he (Nat.zero_le _) hn hS hC hF hN hT h1 h2 h3 hE hI hP
  rcases zix a1 8 (by decide) with hc | ⟨j, hj, rfl⟩
  · exact ⟨_, _, _, _, x_book1 c0 hc, y_book1 gM41 hb c0 hc, gM41, h0⟩
  · by_cases i0 : a2 = 0
    · subst i0
      by_cases h8 : q = 8
      · exact ⟨_, _, _, _, x_book_f (u := 0) hj (by decide) (by omega) (by omega), y_book_f (u := 0) (f := f3) (g := g3) gM41 hb hj (by decide) h8, gM41, h0⟩
      refine ⟨_, _, _, _, x_book (u := 0) hj (by decide) (by omega), y_book (u := 0) gM41 hb gM56 gM57 hj (by decide) (by omega), gM41, ?_⟩
      rw [sM56, sM57, sM41]
      exact INV_mk (q := q + 1) hb hk hs he (by omega) hn hS hC hF hN hT h1 h2 (RWk_upd h3) hE hI hP
    by_cases i1 : a2 = 1
    · subst i1
      by_cases h8 : q = 8
      · exact ⟨_, _, _, _, x_book_f (u := 1) hj (by decide) (by omega) (by omega), y_book_f (u := 1) (f := f3) (g := g3) gM41 hb hj (by decide) h8, gM41, h0⟩
      refine ⟨_, _, _, _, x_book (u := 1) hj (by decide) (by omega), y_book (u := 1) gM41 hb gM56 gM57 hj (by decide) (by omega), gM41, ?_⟩
      rw [sM56, sM57, sM41]
      exact INV_mk (q := q + 1) hb hk hs he (by omega) hn hS hC hF hN hT h1 h2 (RWk_upd h3) hE hI hP
    exact ⟨_, _, _, _, x_book2 hj ⟨i0, i1⟩, y_book2 gM41 hb hj ⟨i0, i1⟩, gM41, h0⟩
set_option maxHeartbeats 4000000 in
set_option maxRecDepth 100000 in
theorem P_looked {Z : zS} {w : zW} (h : INV w)  : PRi Z M_X7_looked M_X8_looked [] w := by
  have h0 := h
  obtain ⟨b, k, s, e, q, n, f1, g1, f2, g2, f3, g3, tf, th, hi, sh, tp, cm, fo, nu, q1, q2, ma, mc, mu, mp, fc, vc, tt, sg, td, sw, sm, ew, eo, bc, bi, im, so, sz, it, mv, rfl, hb, hk, hs, he, hq, hn, hS, hC, hF, hN, hT, h1, h2, h3, hE, hI, hP⟩ := h
  have hx : zF Z M_X7_looked 9 [.ref 0] (wX (nI b, nI k, (f1, g1, nI s), (f2, g2, nI e), (f3, g3, nI q)) th hi (tf, nI n) sh tp ++ wM cm fo nu q1 q2 (nI b) (nI k) (nI n) ma mc (nI s) (nI e) (nI q) mu hi mp fc vc tt sg td sw sm ew eo bc bi im so sz it mv) [.int (kLK b f3 g3 q 0)] (wX (nI b, nI k, (f1, g1, nI s), (f2, g2, nI e), (f3, g3, nI q)) th hi (tf, nI n) sh tp ++ wM cm fo nu q1 q2 (nI b) (nI k) (nI n) ma mc (nI s) (nI e) (nI q) mu hi mp fc vc tt sg td sw sm ew eo bc bi im so sz it mv) := x_looked hq
  rw [kLK_c (f' := bc) (g' := bi) (s := q) (fun i hi0 => h3 i (by omega)) q 0 (by omega)] at hx
  exact ⟨_, _, _, _, hx, y_looked gM41 hb gM56 gM57 hq, gM41, h0⟩
set_option maxHeartbeats 4000000 in
set_option maxRecDepth 100000 in
theorem P_judge {Z : zS} {w : zW} (h : INV w) (a1 : Int32) (a2 : Int32) : PRi Z M_X7_judge M_X8_judge [.int a1, .int a2] w := by
  have h0 := h
  obtain ⟨b, k, s, e, q, n, f1, g1, f2, g2, f3, g3, tf, th, hi, sh, tp, cm, fo, nu, q1, q2, ma, mc, mu, mp, fc, vc, tt, sg, td, sw, sm, ew, eo, bc, bi, im, so, sz, it, mv, rfl, hb, hk, hs, he, hq, hn, hS, hC, hF, hN, hT, h1, h2, h3, hE, hI, hP⟩ := h
  rcases zix a1 6 (by decide) with hc | ⟨j, hj, rfl⟩
  · exact ⟨_, _, _, _, x_judge1 hc, y_judge1 gM41 gM59 gM60 gM61 hc, gM41, h0⟩
  · obtain ⟨iv, hv, ⟨t1, t2⟩ | ⟨a, z, ha, hz, t1, t2, t3⟩⟩ := TP_cases hP hj
    · exact ⟨_, _, _, _, x_judge2 hj t1, y_judge2 gM41 gM59 gM60 gM61 hj t2, gM41, h0⟩
    by_cases h4 : a = 4
    · subst h4
      rcases zix a2 z (by omega) with hc | ⟨p, hp, rfl⟩
      · exact ⟨_, _, _, _, x_judge4 hj t1 hz hc, y_judge4 gM41 gM59 gM60 gM61 hj t3 hz t2 hc, gM41, h0⟩
      have hx : zF Z M_X7_judge 9 [.ref 0, .int (nI j), .int (nI p)] (wX (nI b, nI k, (f1, g1, nI s), (f2, g2, nI e), (f3, g3, nI q)) th hi (tf, nI n) sh tp ++ wM cm fo nu q1 q2 (nI b) (nI k) (nI n) ma mc (nI s) (nI e) (nI q) mu hi mp fc vc tt sg td sw sm ew eo bc bi im so sz it mv) [.int (kJU iv z b p 8 0)] (wX (nI b, nI k, (f1, g1, nI s), (f2, g2, nI e), (f3, g3, nI q)) th hi (tf, nI n) sh tp ++ wM cm fo nu q1 q2 (nI b) (nI k) (nI n) ma mc (nI s) (nI e) (nI q) mu hi mp fc vc tt sg td sw sm ew eo bc bi im so sz it mv) := x_judge hj t1 hz hp hb
      rw [kJU_c hz hv] at hx
      exact ⟨_, _, _, _, hx, y_judge gM41 hb gM59 gM60 gM61 hj t3 hz t2 hp, gM41, h0⟩
    exact ⟨_, _, _, _, x_judge3 hj t1 (q_s1 a ha) (q_s4 a ha h4), y_judge3 gM41 gM59 gM60 gM61 hj t3 hz t2 (q_s4 a ha h4), gM41, h0⟩
set_option maxHeartbeats 4000000 in
set_option maxRecDepth 100000 in
theorem P_image {Z : zS} {w : zW} (h : INV w)  : PRi Z M_X7_image M_X8_image [] w := by
  have h0 := h
  obtain ⟨b, k, s, e, q, n, f1, g1, f2, g2, f3, g3, tf, th, hi, sh, tp, cm, fo, nu, q1, q2, ma, mc, mu, mp, fc, vc, tt, sg, td, sw, sm, ew, eo, bc, bi, im, so, sz, it, mv, rfl, hb, hk, hs, he, hq, hn, hS, hC, hF, hN, hT, h1, h2, h3, hE, hI, hP⟩ := h
  obtain ⟨v0, v1, v2, v3, v4⟩ := imK_val (im := im) (sw := sw) (sm := sm) (ew := ew) (eo := eo) (bc := bc) (bi := bi) (mb := nI b) (mk := nI k) (ms := nI s) (me := nI e) (mq := nI q)
  obtain ⟨r1, r2, r3⟩ := imK_rows (im := im) (sw := sw) (sm := sm) (ew := ew) (eo := eo) (bc := bc) (bi := bi) (mb := nI b) (mk := nI k) (ms := nI s) (me := nI e) (mq := nI q)
  refine ⟨_, _, _, _, x_image, y_image, gM41, ?_⟩
  refine INV_mk (hi := 1) hb hk hs he hq hn hS hC hF hN hT h1 h2 h3 hE ?_ hP
  refine Or.inr ⟨by decide, b, k, s, e, q, hb, hk, hs, he, hq, rfl, rfl, rfl, rfl, rfl, v0, v1, v2, v3, v4, fun i hi0 => ⟨?_, ?_⟩, fun i hi0 => ⟨?_, ?_⟩, fun i hi0 => ⟨?_, ?_⟩, EVok_c (fun i hi0 => ⟨(zcpy8 (by omega)).symm, (zcpy8 (by omega)).symm⟩) hE⟩
  · exact (zcpy8 (by omega)).trans ((h1 i hi0).1.trans (r1 i hi0).1.symm)
  · exact (zcpy8 (by omega)).trans ((h1 i hi0).2.trans (r1 i hi0).2.symm)
  · exact (zcpy8 hi0).trans ((h2 i hi0).1.trans (r2 i hi0).1.symm)
  · exact (zcpy8 hi0).trans ((h2 i hi0).2.trans (r2 i hi0).2.symm)
  · exact (zcpy8 hi0).trans ((h3 i hi0).1.trans (r3 i hi0).1.symm)
  · exact (zcpy8 hi0).trans ((h3 i hi0).2.trans (r3 i hi0).2.symm)
set_option maxHeartbeats 4000000 in
set_option maxRecDepth 100000 in
theorem P_undo {Z : zS} {w : zW} (h : INV w)  : PRi Z M_X7_undo M_X8_undo [] w := by
  have h0 := h
  obtain ⟨b, k, s, e, q, n, f1, g1, f2, g2, f3, g3, tf, th, hi, sh, tp, cm, fo, nu, q1, q2, ma, mc, mu, mp, fc, vc, tt, sg, td, sw, sm, ew, eo, bc, bi, im, so, sz, it, mv, rfl, hb, hk, hs, he, hq, hn, hS, hC, hF, hN, hT, h1, h2, h3, hE, hI, hP⟩ := h
  by_cases c0 : hi = 0
  · exact ⟨_, _, _, _, x_undo1 c0, y_undo1 c0, gM41, h0⟩
  rcases hI with z | ⟨_, b2, k2, s2, e2, q2', l1, l2, l3, l4, l5, t1, t2, t3, t4, t5, i0, i1, i2, i3, i4, r1, r2, r3, hE2⟩
  · exact absurd z c0
  obtain ⟨y1, y2, ⟨a1, c1, z1⟩, ⟨a2, c2, z2⟩, ⟨a3, c3, z3⟩⟩ := th
  have t1 : y1 = nI b2 := t1
  have t2 : y2 = nI k2 := t2
  have t3 : z1 = nI s2 := t3
  have t4 : z2 = nI e2 := t4
  have t5 : z3 = nI q2' := t5
  subst t1 t2 t3 t4 t5
  have hx : zF Z M_X7_undo 9 [.ref 0] (wX (nI b, nI k, (f1, g1, nI s), (f2, g2, nI e), (f3, g3, nI q)) (nI b2, nI k2, (a1, c1, nI s2), (a2, c2, nI e2), (a3, c3, nI q2')) hi (tf, nI n) sh tp ++ wM cm fo nu q1 q2 (nI b) (nI k) (nI n) ma mc (nI s) (nI e) (nI q) mu hi mp fc vc tt sg td sw sm ew eo bc bi im so sz it mv) [.int (nI b2)] (wX (nI b2, nI k2, (va_cpy a1 f1 0 0 8, va_cpy c1 g1 0 0 8, nI s2), (va_cpy a2 f2 0 0 8, va_cpy c2 g2 0 0 8, nI e2), (va_cpy a3 f3 0 0 8, va_cpy c3 g3 0 0 8, nI q2')) (nI b2, nI k2, (a1, c1, nI s2), (a2, c2, nI e2), (a3, c3, nI q2')) hi (tf, nI n) sh tp ++ wM cm fo nu q1 q2 (nI b) (nI k) (nI n) ma mc (nI s) (nI e) (nI q) mu hi mp fc vc tt sg td sw sm ew eo bc bi im so sz it mv) := x_undo (d := 6) c0
  have hy : zF Z M_X8_undo 9 [.ref 41] (wX (nI b2, nI k2, (va_cpy a1 f1 0 0 8, va_cpy c1 g1 0 0 8, nI s2), (va_cpy a2 f2 0 0 8, va_cpy c2 g2 0 0 8, nI e2), (va_cpy a3 f3 0 0 8, va_cpy c3 g3 0 0 8, nI q2')) (nI b2, nI k2, (a1, c1, nI s2), (a2, c2, nI e2), (a3, c3, nI q2')) hi (tf, nI n) sh tp ++ wM cm fo nu q1 q2 (nI b) (nI k) (nI n) ma mc (nI s) (nI e) (nI q) mu hi mp fc vc tt sg td sw sm ew eo bc bi im so sz it mv) [.int (nI b2)] (wX (nI b2, nI k2, (va_cpy a1 f1 0 0 8, va_cpy c1 g1 0 0 8, nI s2), (va_cpy a2 f2 0 0 8, va_cpy c2 g2 0 0 8, nI e2), (va_cpy a3 f3 0 0 8, va_cpy c3 g3 0 0 8, nI q2')) (nI b2, nI k2, (a1, c1, nI s2), (a2, c2, nI e2), (a3, c3, nI q2')) hi (tf, nI n) sh tp ++ wM cm fo nu q1 q2 (nI b2) (nI k2) (nI n) ma mc (nI s2) (nI e2) (nI q2') (nI 45) hi 0 fc vc tt sg td (fb_put sw (fun r => im (5 + r)) 0 4) (fb_put sm (fun r => im (9 + r)) 0 4) (fb_put ew (fun r => im (13 + r)) 0 8) (fb_put eo (fun r => im (21 + r)) 0 8) (fb_put bc (fun r => im (29 + r)) 0 8) (fb_put bi (fun r => im (37 + r)) 0 8) im so sz it mv) := by
    have hy := y_undo (Z := Z) (d := 6) (hd := (nI b2, nI k2, (va_cpy a1 f1 0 0 8, va_cpy c1 g1 0 0 8, nI s2), (va_cpy a2 f2 0 0 8, va_cpy c2 g2 0 0 8, nI e2), (va_cpy a3 f3 0 0 8, va_cpy c3 g3 0 0 8, nI q2'))) (th := (nI b2, nI k2, (a1, c1, nI s2), (a2, c2, nI e2), (a3, c3, nI q2'))) (hi := hi) (tx := (tf, nI n)) (sh := sh) (tp := tp) (cm := cm) (fo := fo) (nu := nu) (f1 := q1) (f2 := q2) (mb := nI b) (mk := nI k) (mf := nI n) (ma := ma) (mc := mc) (ms := nI s) (me := nI e) (mq := nI q) (mu := mu) (mh := hi) (mp := mp) (fc := fc) (vc := vc) (tt := tt) (sg := sg) (td := td) (sw := sw) (sm := sm) (ew := ew) (eo := eo) (bc := bc) (bi := bi) (im := im) (so := so) (sz := sz) (it := it) (mv := mv) c0
    rw [i0, i1, i2, i3, i4] at hy
    exact hy
  refine ⟨_, _, _, _, hx, hy, gM41, ?_⟩
  refine INV_mk l1 l2 l3 l4 l5 hn hS hC hF hN hT ?_ ?_ ?_ ?_ ?_ hP
  · exact fun i hi0 => ⟨(zcpy8 (by omega)).trans ((r1 i hi0).1.trans (zput0 (g := fun r => im (5 + r)) hi0).symm), (zcpy8 (by omega)).trans ((r1 i hi0).2.trans (zput0 (g := fun r => im (9 + r)) hi0).symm)⟩
  · exact fun i hi0 => ⟨(zcpy8 hi0).trans ((r2 i hi0).1.trans (zput0 (g := fun r => im (13 + r)) hi0).symm), (zcpy8 hi0).trans ((r2 i hi0).2.trans (zput0 (g := fun r => im (21 + r)) hi0).symm)⟩
  · exact fun i hi0 => ⟨(zcpy8 hi0).trans ((r3 i hi0).1.trans (zput0 (g := fun r => im (29 + r)) hi0).symm), (zcpy8 hi0).trans ((r3 i hi0).2.trans (zput0 (g := fun r => im (37 + r)) hi0).symm)⟩
  · exact EVok_c (fun i hi0 => ⟨(zcpy8 (by omega)).symm, (zcpy8 (by omega)).symm⟩) hE2
  · exact Or.inr ⟨c0, b2, k2, s2, e2, q2', l1, l2, l3, l4, l5, rfl, rfl, rfl, rfl, rfl, i0, i1, i2, i3, i4, r1, r2, r3, hE2⟩
set_option maxHeartbeats 4000000 in
set_option maxRecDepth 100000 in
theorem P_count {Z : zS} {w : zW} (h : INV w) (a1 : Int32) : PRi Z M_X7_count M_X8_count [.int a1] w := by
  have h0 := h
  obtain ⟨b, k, s, e, q, n, f1, g1, f2, g2, f3, g3, tf, th, hi, sh, tp, cm, fo, nu, q1, q2, ma, mc, mu, mp, fc, vc, tt, sg, td, sw, sm, ew, eo, bc, bi, im, so, sz, it, mv, rfl, hb, hk, hs, he, hq, hn, hS, hC, hF, hN, hT, h1, h2, h3, hE, hI, hP⟩ := h
  rcases zix a1 4 (by decide) with hc | ⟨j, hj, rfl⟩
  · exact ⟨_, _, _, _, x_count_no hc, y_count_no gM41 hb hc, gM41, h0⟩
  · rcases (show j = 0 ∨ j = 1 ∨ j = 2 ∨ j = 3 by omega) with rfl | rfl | rfl | rfl
    · exact ⟨_, _, _, _, x_count0, y_count0 gM41 hb, gM41, h0⟩
    · exact ⟨_, _, _, _, x_count1, y_count1 gM41 hb, gM41, h0⟩
    · exact ⟨_, _, _, _, x_count2, y_count2 gM41 hb, gM41, h0⟩
    · exact ⟨_, _, _, _, x_count3, y_count3 gM41 hb, gM41, h0⟩
