/-! ===== each call of the class beside the model's: tapes ===== -/
set_option maxHeartbeats 4000000 in
set_option maxRecDepth 100000 in
theorem P_tape {Z : zS} {w : zW} (h : INV w) (a1 : Int32) (a2 : Int32) (a3 : Int32) : PRi Z M_X7_tape M_X8_tape [.int a1, .int a2, .int a3] w := by
  have h0 := h
  obtain ⟨b, k, s, e, q, n, f1, g1, f2, g2, f3, g3, tf, th, hi, sh, tp, cm, fo, nu, q1, q2, ma, mc, mu, mp, fc, vc, tt, sg, td, sw, sm, ew, eo, bc, bi, im, so, sz, it, mv, rfl, hb, hk, hs, he, hq, hn, hS, hC, hF, hN, hT, h1, h2, h3, hE, hI, hP⟩ := h
  rcases zix a1 6 (by decide) with hc | ⟨j, hj, rfl⟩
  · exact ⟨_, _, _, _, x_tape1 hc, y_tape1 gM41 gM59 gM60 gM61 hc, gM41, h0⟩
  · by_cases c0 : a2 = -1
    · subst c0
      refine ⟨_, _, _, _, x_tape_none hj (show tpg tp j = ((tpg tp j).1, (tpg tp j).2.1, (tpg tp j).2.2) from rfl), y_tape_none gM41 gM59 gM60 gM61 hj, gM41, ?_⟩
      rw [sM59, sM60, sM61]
      exact INV_mk hb hk hs he hq hn hS hC hF hN hT h1 h2 h3 hE hI (TPok_set hP hj (fun i hi0 he0 => ⟨upd_ne he0, upd_ne he0, fun p hp => by rw [mfil_val, if_neg (by omega)]⟩) ⟨fun p hp => by show zfil (tpg tp j).1 60 p = mfil it j 60 (60 * j + p); rw [zfil_val, if_pos hp]; rw [mfil_val, if_pos (by omega)], Or.inl ⟨rfl, rfl, upd_eq⟩⟩)
    rcases zix a2 5 (by decide) with hc | ⟨a, ha, rfl⟩
    · have hd3 : a2 < 0 ∨ 5 ≤ a2 ∨ 61 ≤ a3 := hc.elim Or.inl (fun z => Or.inr (Or.inl z))
      exact ⟨_, _, _, _, x_tape2 hj c0 hd3, y_tape2 gM41 gM59 gM60 gM61 hj c0 hd3, gM41, h0⟩
    rcases pk_ix a3 (n := 61) (by decide) with hc | hc | ⟨z, hz, rfl⟩
    · exact ⟨_, _, _, _, x_tape3 hj ha hc, y_tape3 gM41 gM59 gM60 gM61 hj ha hc, gM41, h0⟩
    · exact ⟨_, _, _, _, x_tape2 hj c0 (Or.inr (Or.inr hc)), y_tape2 gM41 gM59 gM60 gM61 hj c0 (Or.inr (Or.inr hc)), gM41, h0⟩
    · refine ⟨_, _, _, _, x_tape hj (show tpg tp j = ((tpg tp j).1, (tpg tp j).2.1, (tpg tp j).2.2) from rfl) ha (show z ≤ 60 by omega), y_tape gM41 gM59 gM60 gM61 hj ha (show z ≤ 60 by omega), gM41, ?_⟩
      rw [sM59, sM60, sM61]
      exact INV_mk hb hk hs he hq hn hS hC hF hN hT h1 h2 h3 hE hI (TPok_set hP hj (fun i hi0 he0 => ⟨upd_ne he0, upd_ne he0, fun p hp => by rw [mfil_val, if_neg (by omega)]⟩) ⟨fun p hp => by show zfil (tpg tp j).1 60 p = mfil it j 60 (60 * j + p); rw [zfil_val, if_pos hp]; rw [mfil_val, if_pos (by omega)], Or.inr ⟨a, z, ha, by omega, rfl, rfl, upd_eq, upd_eq⟩⟩)
set_option maxHeartbeats 4000000 in
set_option maxRecDepth 100000 in
theorem P_item {Z : zS} {w : zW} (h : INV w) (a1 a2 : Int32) (v : Int64) : PRi Z M_X7_item M_X8_item [.int a1, .int a2, .long v] w := by
  have h0 := h
  obtain ⟨b, k, s, e, q, n, f1, g1, f2, g2, f3, g3, tf, th, hi, sh, tp, cm, fo, nu, q1, q2, ma, mc, mu, mp, fc, vc, tt, sg, td, sw, sm, ew, eo, bc, bi, im, so, sz, it, mv, rfl, hb, hk, hs, he, hq, hn, hS, hC, hF, hN, hT, h1, h2, h3, hE, hI, hP⟩ := h
  rcases zix a1 6 (by decide) with hc | ⟨j, hj, rfl⟩
  · exact ⟨_, _, _, _, x_item1 hc, y_item1 gM41 gM59 gM60 gM61 hc, gM41, h0⟩
  · obtain ⟨iv, hv, ⟨t1, t2⟩ | ⟨a, z, ha, hz, t1, t2, t3⟩⟩ := TP_cases hP hj
    · exact ⟨_, _, _, _, x_item2 hj t1, y_item2 gM41 gM59 gM60 gM61 hj t2, gM41, h0⟩
    rcases zix a2 z (by omega) with hc | ⟨p, hp, rfl⟩
    · exact ⟨_, _, _, _, x_item3 hj t1 ha hz hc, y_item3 gM41 gM59 gM60 gM61 hj t3 hz hc, gM41, h0⟩
    refine ⟨_, _, _, _, x_item hj t1 ha hz hp, y_item gM41 gM59 gM60 gM61 hj t3 t2 ha hz hp, gM41, ?_⟩
    rw [sM61]
    refine INV_mk hb hk hs he hq hn hS hC hF hN hT h1 h2 h3 hE hI (TPok_set hP hj (fun i hi0 he0 => ⟨rfl, rfl, fun x hx => if_neg (by omega)⟩) ⟨fun x hx => ?_, Or.inr ⟨a, z, ha, hz, rfl, rfl, t2, t3⟩⟩)
    show vp_updL iv p (zcut a v) x = vp_updL it (60 * j + p) (zcut a v) (60 * j + x)
    unfold vp_updL
    by_cases e0 : x = p
    · rw [if_pos e0, if_pos (by omega)]
    · rw [if_neg e0, if_neg (by omega)]; exact hv x hx
set_option maxHeartbeats 4000000 in
set_option maxRecDepth 100000 in
theorem P_peek {Z : zS} {w : zW} (h : INV w) (a1 : Int32) (a2 : Int32) : PRl Z M_X7_peek M_X8_peek [.int a1, .int a2] w := by
  have h0 := h
  obtain ⟨b, k, s, e, q, n, f1, g1, f2, g2, f3, g3, tf, th, hi, sh, tp, cm, fo, nu, q1, q2, ma, mc, mu, mp, fc, vc, tt, sg, td, sw, sm, ew, eo, bc, bi, im, so, sz, it, mv, rfl, hb, hk, hs, he, hq, hn, hS, hC, hF, hN, hT, h1, h2, h3, hE, hI, hP⟩ := h
  rcases zix a1 6 (by decide) with hc | ⟨j, hj, rfl⟩
  · exact ⟨_, _, _, _, x_peek1 hc, y_peek1 gM41 gM59 gM60 gM61 hc, gM41, h0⟩
  · obtain ⟨iv, hv, ⟨t1, t2⟩ | ⟨a, z, ha, hz, t1, t2, t3⟩⟩ := TP_cases hP hj
    · have hp : a2 < 0 ∨ nI 0 ≤ a2 := by
        by_cases z : a2 < 0
        · exact Or.inl z
        · exact Or.inr (Int32.not_lt.mp z)
      exact ⟨_, _, _, _, x_peek2 (z := 0) hj t1 hp, y_peek2n gM41 gM59 gM60 gM61 hj t2, gM41, h0⟩
    rcases zix a2 z (by omega) with hc | ⟨p, hp, rfl⟩
    · exact ⟨_, _, _, _, x_peek2 hj t1 hc, y_peek2 gM41 gM59 gM60 gM61 hj t3 hz hc, gM41, h0⟩
    have hx : zF Z M_X7_peek 9 [.ref 0, .int (nI j), .int (nI p)] (wX (nI b, nI k, (f1, g1, nI s), (f2, g2, nI e), (f3, g3, nI q)) th hi (tf, nI n) sh tp ++ wM cm fo nu q1 q2 (nI b) (nI k) (nI n) ma mc (nI s) (nI e) (nI q) mu hi mp fc vc tt sg td sw sm ew eo bc bi im so sz it mv) [.long (iv p)] (wX (nI b, nI k, (f1, g1, nI s), (f2, g2, nI e), (f3, g3, nI q)) th hi (tf, nI n) sh tp ++ wM cm fo nu q1 q2 (nI b) (nI k) (nI n) ma mc (nI s) (nI e) (nI q) mu hi mp fc vc tt sg td sw sm ew eo bc bi im so sz it mv) := x_peek hj t1 hz hp
    rw [hv p (by omega)] at hx
    exact ⟨_, _, _, _, hx, y_peek gM41 gM59 gM60 gM61 hj t3 hz hp, gM41, h0⟩
set_option maxHeartbeats 4000000 in
set_option maxRecDepth 100000 in
theorem P_shift {Z : zS} {w : zW} (h : INV w) (a1 : Int32) (a2 : Int32) (a3 : Int32) (a4 : Int32) (a5 : Int32) : PRi Z M_X7_shift M_X8_shift [.int a1, .int a2, .int a3, .int a4, .int a5] w := by
  have h0 := h
  obtain ⟨b, k, s, e, q, n, f1, g1, f2, g2, f3, g3, tf, th, hi, sh, tp, cm, fo, nu, q1, q2, ma, mc, mu, mp, fc, vc, tt, sg, td, sw, sm, ew, eo, bc, bi, im, so, sz, it, mv, rfl, hb, hk, hs, he, hq, hn, hS, hC, hF, hN, hT, h1, h2, h3, hE, hI, hP⟩ := h
  rcases zix a1 6 (by decide) with hc | ⟨j, hj, rfl⟩
  · exact ⟨_, _, _, _, x_shift1 hc, y_shift1 gM41 gM59 gM60 gM61 hc, gM41, h0⟩
  · rcases zix a3 6 (by decide) with hc | ⟨u, hu, rfl⟩
    · exact ⟨_, _, _, _, x_shift2 hj hc, y_shift2 gM41 gM59 gM60 gM61 hj hc, gM41, h0⟩
    · obtain ⟨iv, hv, ⟨t1, t2⟩ | ⟨a, z, ha, hz, t1, t2, t3⟩⟩ := TP_cases hP hj
      · exact ⟨_, _, _, _, x_shift3 hj hu t1 (show tpg tp u = ((tpg tp u).1, (tpg tp u).2.1, (tpg tp u).2.2) from rfl), y_shift3 gM41 gM59 gM60 gM61 hj hu t2, gM41, h0⟩
      obtain ⟨jv, gv, ⟨v1, v2⟩ | ⟨c, y, hcc, hy, v1, v2, v3⟩⟩ := TP_cases hP hu
      · exact ⟨_, _, _, _, x_shift4 hj hu t1 v1 (q_s1 a ha), y_shift4 gM41 gM59 gM60 gM61 hj hu t3 hz v2, gM41, h0⟩
      by_cases hac : a = c
      · subst hac
        by_cases hb1 : a5 < 0 ∨ a2 < 0 ∨ (z : Int) < a2.toInt + a5.toInt
        · exact ⟨_, _, _, _, x_shift6 hj hu t1 v1 (q_s1 a ha) (zhvN hz hb1), y_shift6 gM41 gM59 gM60 gM61 hj hu t3 hz v3 hy t2 v2 (hb1.elim Or.inl (fun k1 => k1.elim (fun k2 => Or.inr (Or.inl k2)) (fun k2 => Or.inr (Or.inr (Or.inr (Or.inl k2)))))), gM41, h0⟩
        have m0 : ¬ a5 < 0 := fun k1 => hb1 (Or.inl k1)
        have p0 : ¬ a2 < 0 := fun k1 => hb1 (Or.inr (Or.inl k1))
        have s0 : ¬ (z : Int) < a2.toInt + a5.toInt := fun k1 => hb1 (Or.inr (Or.inr k1))
        obtain ⟨m, hm, rfl⟩ := nI_of m0
        obtain ⟨p, hp, rfl⟩ := nI_of p0
        rw [nI_toInt hm, nI_toInt hp] at s0
        have hpm : p + m ≤ z := by omega
        by_cases hb2 : nI m < 0 ∨ a4 < 0 ∨ (y : Int) < a4.toInt + (nI m).toInt
        · exact ⟨_, _, _, _, x_shift7 hj hu t1 v1 (q_s1 a ha) (zhvY hz hpm) (zhvN hy hb2), y_shift6 gM41 gM59 gM60 gM61 hj hu t3 hz v3 hy t2 v2 (hb2.elim Or.inl (fun k1 => k1.elim (fun k2 => Or.inr (Or.inr (Or.inl k2))) (fun k2 => Or.inr (Or.inr (Or.inr (Or.inr k2)))))), gM41, h0⟩
        have o0 : ¬ a4 < 0 := fun k1 => hb2 (Or.inr (Or.inl k1))
        have s1 : ¬ (y : Int) < a4.toInt + (nI m).toInt := fun k1 => hb2 (Or.inr (Or.inr k1))
        obtain ⟨o, ho, rfl⟩ := nI_of o0
        rw [nI_toInt hm, nI_toInt ho] at s1
        have hom : o + m ≤ y := by omega
        refine ⟨_, _, _, _, x_shift hj hu t1 v1 (q_s1 a ha) hz hy hpm hom, y_shift gM41 gM59 gM60 gM61 gM62 hj hu t3 hz v3 hy t2 v2 hpm hom, gM41, ?_⟩
        rw [sM62, sM61]
        exact INV_mk hb hk hs he hq hn hS hC hF hN hT h1 h2 h3 hE hI (TPok_set hP hu (fun i hi0 he0 => ⟨rfl, rfl, fun x hx => by rw [itF_val, if_neg (by omega)]⟩) ⟨fun x hx => itF_cpy hv gv hz hpm x hx, Or.inr ⟨a, y, ha, hy, rfl, rfl, v2, v3⟩⟩)
      exact ⟨_, _, _, _, x_shift5 hj hu t1 v1 (q_s1 a ha) (q_s1 c hcc) (fun k1 => hac ((nI_eq (by omega) (by omega)).mp k1)), y_shift5 gM41 gM59 gM60 gM61 hj hu t3 hz v3 hy t2 v2 (fun k1 => hac ((nI_eq (by omega) (by omega)).mp k1)), gM41, h0⟩
