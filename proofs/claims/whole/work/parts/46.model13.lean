/-! ===== the model: a text read ===== -/
theorem dg_zero {F : Nat → Int32} {q m : Nat} (hm : 0 < m) : dgL F q m 0 = 0 ↔ ¬ (¬ F q < 48 ∧ ¬ 57 < F q) := by
  cases m with
  | zero => omega
  | succ m =>
    unfold dgL
    rw [show q + 0 = q from rfl]
    by_cases c : ¬ F q < 48 ∧ ¬ 57 < F q
    · rw [if_pos c]
      have := dgL_ge (F := F) (p := q) m 1
      exact ⟨fun h => by have h : dgL F q m 1 = 0 := h; omega, fun h => absurd c h⟩
    · rw [if_neg c]
      exact ⟨fun _ => c, fun _ => rfl⟩
def zE (F : Nat → Int32) (c : Nat) : Nat := psC F c + 1 + dgC F (psC F c)
def OKc (F : Nat → Int32) (p : Nat) : Prop := ¬ zMD (F p) = -1 ∧ ¬ (0 < cMD (F p) ∧ dgC F p = 0)
theorem E_le {f : Nat → Int32} {n p : Nat} (h : ¬ zMD (zFs f n p) = -1) : p + 1 + dgC (zFs f n) p ≤ n := by
  have h1 := Fs_key h
  by_cases c : dgC (zFs f n) p = 0
  · omega
  · have h2 := Fs_dig (Dg_dgC (zFs f n) p (dgC (zFs f n) p - 1) (by omega))
    omega
set_option maxHeartbeats 4000000 in
set_option maxRecDepth 100000 in
theorem c_rcOK {Z : zS} {d : Nat} {hd th : zHd} {hi : Int32} {tx : zTx} {sh : zSh} {tp : zTs} {cm fo nu f1 f2 : Nat → Int32} {mb mk ms me mq mu mh mp : Int32} {fc vc tt sg td sw sm ew eo bc bi im so sz : Nat → Int32} {it mv : Nat → Int64} {n p c : Nat} (hn : n ≤ 100) (hp : p < 900) (hc : c < 12) (hx : OKc (zFs tt n) p) : zF Z M_X8_readsClause (d + 3) [.ref 41] (wX hd th hi tx sh tp ++ wM cm fo nu f1 f2 mb mk (nI n) (nI p) (nI c) ms me mq mu mh mp fc vc tt sg td sw sm ew eo bc bi im so sz it mv) [.int 1] (wX hd th hi tx sh tp ++ wM cm fo nu f1 f2 mb mk (nI n) (nI (p + 1 + dgC (zFs tt n) p)) (nI (c + 1)) ms me mq mu mh mp fc vc tt (upd sg c (zFs tt n p)) (upd td c (tdV (zFs tt n) p)) sw sm ew eo bc bi im so sz it mv) := by
  obtain ⟨h1, h2⟩ := hx
  rcases zMD_key h1 with hx | hx | hx | hx | hx | hx | hx | hx
  · have e1 : dgC (zFs tt n) p = dgL (zFs tt n) (p + 1) 8 0 := by unfold dgC; rw [hx]; rfl
    have e2 : tdV (zFs tt n) p = nI (vS (zFs tt n) (p + 1) (dgC (zFs tt n) p) 0 0) := by unfold tdV; rw [if_pos (Or.inl hx)]
    have hd : ¬ zFs tt n (p + 1) < 48 ∧ ¬ 57 < zFs tt n (p + 1) := by
      by_cases q : ¬ zFs tt n (p + 1) < 48 ∧ ¬ 57 < zFs tt n (p + 1)
      · exact q
      · exact absurd ⟨by rw [hx]; decide, by rw [e1]; exact (dg_zero (by decide)).mpr q⟩ h2
    rw [e2, e1, hx]
    exact c_rc43 hn hp hc hx hd
  · have e1 : dgC (zFs tt n) p = dgL (zFs tt n) (p + 1) 8 0 := by unfold dgC; rw [hx]; rfl
    have e2 : tdV (zFs tt n) p = nI (vS (zFs tt n) (p + 1) (dgC (zFs tt n) p) 0 0) := by unfold tdV; rw [if_pos (Or.inr hx)]
    have hd : ¬ zFs tt n (p + 1) < 48 ∧ ¬ 57 < zFs tt n (p + 1) := by
      by_cases q : ¬ zFs tt n (p + 1) < 48 ∧ ¬ 57 < zFs tt n (p + 1)
      · exact q
      · exact absurd ⟨by rw [hx]; decide, by rw [e1]; exact (dg_zero (by decide)).mpr q⟩ h2
    rw [e2, e1, hx]
    exact c_rc45 hn hp hc hx hd
  · have e1 : dgC (zFs tt n) p = 0 := by unfold dgC; rw [hx]; rfl
    have e2 : tdV (zFs tt n) p = 0 := by unfold tdV; rw [if_neg (by rw [hx]; decide), if_neg (by rw [hx]; decide)]
    rw [e2, e1, hx]
    exact c_rc102 hn hp hc hx
  · have e1 : dgC (zFs tt n) p = 0 := by unfold dgC; rw [hx]; rfl
    have e2 : tdV (zFs tt n) p = 0 := by unfold tdV; rw [if_neg (by rw [hx]; decide), if_neg (by rw [hx]; decide)]
    rw [e2, e1, hx]
    exact c_rc105 hn hp hc hx
  · have e1 : dgC (zFs tt n) p = 0 := by unfold dgC; rw [hx]; rfl
    have e2 : tdV (zFs tt n) p = 0 := by unfold tdV; rw [if_neg (by rw [hx]; decide), if_neg (by rw [hx]; decide)]
    rw [e2, e1, hx]
    exact c_rc107 hn hp hc hx
  · have e1 : dgC (zFs tt n) p = dgL (zFs tt n) (p + 1) 2 0 := by unfold dgC; rw [hx]; rfl
    have e2 : tdV (zFs tt n) p = nI (nvL (zFs tt n) (p + 1) (dgC (zFs tt n) p) 0 0) := by unfold tdV; rw [if_neg (by rw [hx]; decide), if_pos hx]
    have hd : ¬ zFs tt n (p + 1) < 48 ∧ ¬ 57 < zFs tt n (p + 1) := by
      by_cases q : ¬ zFs tt n (p + 1) < 48 ∧ ¬ 57 < zFs tt n (p + 1)
      · exact q
      · exact absurd ⟨by rw [hx]; decide, by rw [e1]; exact (dg_zero (by decide)).mpr q⟩ h2
    rw [e2, e1, hx]
    exact c_rc109 hn hp hc hx hd
  · have e1 : dgC (zFs tt n) p = 0 := by unfold dgC; rw [hx]; rfl
    have e2 : tdV (zFs tt n) p = 0 := by unfold tdV; rw [if_neg (by rw [hx]; decide), if_neg (by rw [hx]; decide)]
    rw [e2, e1, hx]
    exact c_rc111 hn hp hc hx
  · have e1 : dgC (zFs tt n) p = 0 := by unfold dgC; rw [hx]; rfl
    have e2 : tdV (zFs tt n) p = 0 := by unfold tdV; rw [if_neg (by rw [hx]; decide), if_neg (by rw [hx]; decide)]
    rw [e2, e1, hx]
    exact c_rc117 hn hp hc hx
set_option maxHeartbeats 4000000 in
set_option maxRecDepth 100000 in
theorem c_rcF {Z : zS} {d : Nat} {hd th : zHd} {hi : Int32} {tx : zTx} {sh : zSh} {tp : zTs} {cm fo nu f1 f2 : Nat → Int32} {mb mk ms me mq mu mh mp : Int32} {fc vc tt sg td sw sm ew eo bc bi im so sz : Nat → Int32} {it mv : Nat → Int64} {n p c : Nat} (hn : n ≤ 100) (hp : p < 900) (hc : c < 12) (h1 : ¬ zMD ((zFs tt n) p) = -1) (h2 : 0 < cMD ((zFs tt n) p) ∧ dgC (zFs tt n) p = 0) : zF Z M_X8_readsClause (d + 3) [.ref 41] (wX hd th hi tx sh tp ++ wM cm fo nu f1 f2 mb mk (nI n) (nI p) (nI c) ms me mq mu mh mp fc vc tt sg td sw sm ew eo bc bi im so sz it mv) [.int 0] (wX hd th hi tx sh tp ++ wM cm fo nu f1 f2 mb mk (nI n) (nI (p + 1)) (nI c) ms me mq mu mh mp fc vc tt (upd sg c (zFs tt n p)) (upd td c (-1)) sw sm ew eo bc bi im so sz it mv) := by
  rcases zMD_key h1 with hx | hx | hx | hx | hx | hx | hx | hx
  · have e1 : dgC (zFs tt n) p = dgL (zFs tt n) (p + 1) 8 0 := by unfold dgC; rw [hx]; rfl
    have hd := (dg_zero (F := (zFs tt n)) (q := p + 1) (m := 8) (by decide)).mp (by rw [← e1]; exact h2.2)
    rw [hx]
    exact c_rc430 hn hp hc hx hd
  · have e1 : dgC (zFs tt n) p = dgL (zFs tt n) (p + 1) 8 0 := by unfold dgC; rw [hx]; rfl
    have hd := (dg_zero (F := (zFs tt n)) (q := p + 1) (m := 8) (by decide)).mp (by rw [← e1]; exact h2.2)
    rw [hx]
    exact c_rc450 hn hp hc hx hd
  · rw [hx] at h2
    exact absurd h2.1 (by decide)
  · rw [hx] at h2
    exact absurd h2.1 (by decide)
  · rw [hx] at h2
    exact absurd h2.1 (by decide)
  · have e1 : dgC (zFs tt n) p = dgL (zFs tt n) (p + 1) 2 0 := by unfold dgC; rw [hx]; rfl
    have hd := (dg_zero (F := (zFs tt n)) (q := p + 1) (m := 2) (by decide)).mp (by rw [← e1]; exact h2.2)
    rw [hx]
    exact c_rc1090 hn hp hc hx hd
  · rw [hx] at h2
    exact absurd h2.1 (by decide)
  · rw [hx] at h2
    exact absurd h2.1 (by decide)
abbrev zRA : Type := Nat × Nat × Nat × zVc × zVc
def raP (F : Nat → Int32) (n : Nat) : Nat → Nat → zVc → zVc → zRA
  | 0, c, sg, td => if n ≤ zE F c then (1, zE F c, c + 1, sg, td) else (0, zE F c, c + 1, sg, td)
  | r + 1, c, sg, td => if n ≤ zE F c then (1, zE F c, c + 1, sg, td) else if F (zE F c) = 59 then (if zMD (F (psC F (c + 1))) = -1 then (0, psC F (c + 1), c + 1, sg, td) else if 0 < cMD (F (psC F (c + 1))) ∧ dgC F (psC F (c + 1)) = 0 then (0, psC F (c + 1) + 1, c + 1, upd sg (c + 1) (F (psC F (c + 1))), upd td (c + 1) (-1)) else raP F n r (c + 1) (upd sg (c + 1) (F (psC F (c + 1)))) (upd td (c + 1) (tdV F (psC F (c + 1))))) else (0, zE F c, c + 1, sg, td)
def raA (F : Nat → Int32) (n : Nat) (sg td : zVc) : zRA := if zMD (F 0) = -1 then (0, 0, 0, sg, td) else if 0 < cMD (F 0) ∧ dgC F 0 = 0 then (0, 1, 0, upd sg 0 (F 0), upd td 0 (-1)) else raP F n 11 0 (upd sg 0 (F 0)) (upd td 0 (tdV F 0))
theorem ffL_s {F : Nat → Int32} {n r c : Nat} (ho : OKc F (psC F c)) : ffL F n (r + 1) c = if n ≤ zE F c then -1 else if F (zE F c) = 59 then ffL F n r (c + 1) else nI (zE F c) := by
  rw [ffL, if_neg ho.1, if_neg ho.2]
  rfl
theorem raP_ff {F : Nat → Int32} {n : Nat} : ∀ (r c : Nat) (sg td : zVc), OKc F (psC F c) → ((raP F n r c sg td).1 = 1 ∧ ffL F n (r + 1) c = -1) ∨ ((raP F n r c sg td).1 = 0 ∧ ffL F n (r + 1) c = nI (raP F n r c sg td).2.1)
  | 0, c, sg, td, ho => by
    rw [ffL_s ho]
    unfold raP
    by_cases h : n ≤ zE F c
    · rw [if_pos h, if_pos h]
      exact Or.inl ⟨rfl, rfl⟩
    · rw [if_neg h, if_neg h]
      refine Or.inr ⟨rfl, ?_⟩
      by_cases h2 : F (zE F c) = 59
      · rw [if_pos h2]
        unfold ffL
        rw [show psC F (c + 1) = zE F c + 1 from rfl, show (1 : Int32) = nI 1 from rfl, pk_sub (by omega), Nat.add_sub_cancel]
      · rw [if_neg h2]
  | r + 1, c, sg, td, ho => by
    rw [ffL_s ho]
    unfold raP
    by_cases h : n ≤ zE F c
    · rw [if_pos h, if_pos h]
      exact Or.inl ⟨rfl, rfl⟩
    rw [if_neg h, if_neg h]
    by_cases h2 : F (zE F c) = 59
    · rw [if_pos h2, if_pos h2]
      by_cases h3 : zMD (F (psC F (c + 1))) = -1
      · rw [if_pos h3, ffL, if_pos h3]
        exact Or.inr ⟨rfl, rfl⟩
      rw [if_neg h3]
      by_cases h4 : 0 < cMD (F (psC F (c + 1))) ∧ dgC F (psC F (c + 1)) = 0
      · rw [if_pos h4, ffL, if_neg h3, if_pos h4, h4.2]
        exact Or.inr ⟨rfl, rfl⟩
      · rw [if_neg h4]
        exact raP_ff r (c + 1) _ _ ⟨h3, h4⟩
    · rw [if_neg h2, if_neg h2]
      exact Or.inr ⟨rfl, rfl⟩
theorem raA_ff {F : Nat → Int32} {n : Nat} {sg td : zVc} : ((raA F n sg td).1 = 1 ∧ ffL F n 12 0 = -1) ∨ ((raA F n sg td).1 = 0 ∧ ffL F n 12 0 = nI (raA F n sg td).2.1) := by
  unfold raA
  by_cases h3 : zMD (F 0) = -1
  · rw [if_pos h3, ffL, show psC F 0 = 0 from rfl, if_pos h3]
    exact Or.inr ⟨rfl, rfl⟩
  rw [if_neg h3]
  by_cases h4 : 0 < cMD (F 0) ∧ dgC F 0 = 0
  · rw [if_pos h4, ffL, show psC F 0 = 0 from rfl, if_neg h3, if_pos h4, h4.2]
    exact Or.inr ⟨rfl, rfl⟩
  · rw [if_neg h4]
    exact raP_ff 11 0 _ _ ⟨h3, h4⟩
def STc (F : Nat → Int32) (sg td : zVc) (e : Nat) : Prop := ∀ j, j ≤ e → OKc F (psC F j) ∧ sg j = F (psC F j) ∧ td j = tdV F (psC F j)
theorem STc_s {F : Nat → Int32} {sg td : zVc} {c : Nat} (h : STc F sg td c) (ho : OKc F (psC F (c + 1))) : STc F (upd sg (c + 1) (F (psC F (c + 1)))) (upd td (c + 1) (tdV F (psC F (c + 1)))) (c + 1) := by
  intro j hj
  unfold upd
  by_cases e : j = c + 1
  · rw [if_pos e, if_pos e, e]
    exact ⟨ho, rfl, rfl⟩
  · rw [if_neg e, if_neg e]
    exact h j (by omega)
theorem raP_ok {F : Nat → Int32} {n : Nat} : ∀ (r c : Nat) (sg td : zVc), c + r = 11 → STc F sg td c → (raP F n r c sg td).1 = 1 → ∃ e, e ≤ 11 ∧ (raP F n r c sg td).2.2.1 = e + 1 ∧ n ≤ zE F e ∧ STc F (raP F n r c sg td).2.2.2.1 (raP F n r c sg td).2.2.2.2 e
  | 0, c, sg, td, hc, hs, h1 => by
    unfold raP at h1 ⊢
    by_cases h : n ≤ zE F c
    · rw [if_pos h]
      exact ⟨c, by omega, rfl, h, hs⟩
    · rw [if_neg h] at h1
      exact absurd (show (0 : Nat) = 1 from h1) (by decide)
  | r + 1, c, sg, td, hc, hs, h1 => by
    unfold raP at h1 ⊢
    by_cases h : n ≤ zE F c
    · rw [if_pos h]
      exact ⟨c, by omega, rfl, h, hs⟩
    rw [if_neg h] at h1 ⊢
    by_cases h2 : F (zE F c) = 59
    · rw [if_pos h2] at h1 ⊢
      by_cases h3 : zMD (F (psC F (c + 1))) = -1
      · rw [if_pos h3] at h1
        exact absurd (show (0 : Nat) = 1 from h1) (by decide)
      rw [if_neg h3] at h1 ⊢
      by_cases h4 : 0 < cMD (F (psC F (c + 1))) ∧ dgC F (psC F (c + 1)) = 0
      · rw [if_pos h4] at h1
        exact absurd (show (0 : Nat) = 1 from h1) (by decide)
      · rw [if_neg h4] at h1 ⊢
        exact raP_ok r (c + 1) _ _ (by omega) (STc_s hs ⟨h3, h4⟩) h1
    · rw [if_neg h2] at h1
      exact absurd (show (0 : Nat) = 1 from h1) (by decide)
theorem raA_ok {F : Nat → Int32} {n : Nat} {sg td : zVc} (h1 : (raA F n sg td).1 = 1) : ∃ e, e ≤ 11 ∧ (raA F n sg td).2.2.1 = e + 1 ∧ n ≤ zE F e ∧ STc F (raA F n sg td).2.2.2.1 (raA F n sg td).2.2.2.2 e := by
  unfold raA at h1 ⊢
  by_cases h3 : zMD (F 0) = -1
  · rw [if_pos h3] at h1
    exact absurd (show (0 : Nat) = 1 from h1) (by decide)
  rw [if_neg h3] at h1 ⊢
  by_cases h4 : 0 < cMD (F 0) ∧ dgC F 0 = 0
  · rw [if_pos h4] at h1
    exact absurd (show (0 : Nat) = 1 from h1) (by decide)
  · rw [if_neg h4] at h1 ⊢
    refine raP_ok 11 0 _ _ rfl (fun j hj => ?_) h1
    have hj : j = 0 := by omega
    subst hj
    exact ⟨⟨h3, h4⟩, if_pos rfl, if_pos rfl⟩
set_option maxHeartbeats 4000000 in
set_option maxRecDepth 100000 in
theorem l_ra {Z : zS} {d : Nat} {hd th : zHd} {hi : Int32} {tx : zTx} {sh : zSh} {tp : zTs} {cm fo nu f1 f2 : Nat → Int32} {mb mk ms me mq mu mh mp : Int32} {fc vc tt sw sm ew eo bc bi im so sz : Nat → Int32} {it mv : Nat → Int64} {n : Nat} (hn : n ≤ 100) : ∀ (r c : Nat) (sg td : zVc), c + r = 11 → zE (zFs tt n) c ≤ n → zG Z M_X8_readsAll (d + 4) (fun r1 w1 => r1 = [.int (nI (raP (zFs tt n) n r c sg td).1)] ∧ w1 = (wX hd th hi tx sh tp ++ wM cm fo nu f1 f2 mb mk (nI n) (nI (raP (zFs tt n) n r c sg td).2.1) (nI (raP (zFs tt n) n r c sg td).2.2.1) ms me mq mu mh mp fc vc tt (raP (zFs tt n) n r c sg td).2.2.2.1 (raP (zFs tt n) n r c sg td).2.2.2.2 sw sm ew eo bc bi im so sz it mv)) 63 15 [(0, .ref 41), (1, .int 1)] [] (wX hd th hi tx sh tp ++ wM cm fo nu f1 f2 mb mk (nI n) (nI (zE (zFs tt n) c)) (nI (c + 1)) ms me mq mu mh mp fc vc tt sg td sw sm ew eo bc bi im so sz it mv) := by
  intro r
  induction r with
  | zero =>
    intro c sg td hc hE
    have hc : c = 11 := by omega
    subst hc
    by_cases h : n ≤ zE (zFs tt n) 11
    · rw [show (raP (zFs tt n) n 0 11 sg td) = (1, zE (zFs tt n) 11, 11 + 1, sg, td) from by rw [raP, if_pos h]]
      dsimp only
      refine s_iload_n dX8_readsAll_15 rfl ?_
      refine s_if_eq (tgt := 55) dX8_readsAll_16 (by decide) (fun hqz => absurd hqz (by decide)) (fun hz => ?_)
      clear hz
      refine s_aload_n dX8_readsAll_19 rfl ?_
      refine s_get dX8_readsAll_20 f_X8_149 (by rfl) (by rfl) ?_
      refine s_bipush (v := 12) dX8_readsAll_23 rfl ?_
      refine s_icmp_ge (tgt := 55) dX8_readsAll_25 (by decide) (fun hz => ?_) (fun hqz => absurd (by decide) hqz)
      clear hz
      refine s_iload_n dX8_readsAll_55 rfl ?_
      refine s_if_eq (tgt := 74) dX8_readsAll_56 (by decide) (fun hqz => absurd hqz (by decide)) (fun hz => ?_)
      clear hz
      refine s_aload_n dX8_readsAll_59 rfl ?_
      refine s_get dX8_readsAll_60 f_X8_138 (by rfl) (by rfl) ?_
      refine s_aload_n dX8_readsAll_63 rfl ?_
      refine s_get dX8_readsAll_64 f_X8_135 (by rfl) (by rfl) ?_
      refine s_icmp_ne (tgt := 74) dX8_readsAll_67 (by decide) (fun hqz => absurd (by rw [show zE (zFs tt n) 11 = n by omega]) hqz) (fun hz => ?_)
      clear hz
      refine s_iconst (v := 1) dX8_readsAll_70 rfl ?_
      refine s_goto (tgt := 75) dX8_readsAll_71 (by decide) ?_
      exact s_zret dX8_readsAll_75 rfl (by first | exact Or.inl rfl | exact Or.inr rfl) ⟨rfl, rfl⟩ (by first | exact wXMl | rfl | (simp only [List.length_set]; exact wXMl))
    · rw [show (raP (zFs tt n) n 0 11 sg td) = (0, zE (zFs tt n) 11, 11 + 1, sg, td) from by rw [raP, if_neg h]]
      dsimp only
      refine s_iload_n dX8_readsAll_15 rfl ?_
      refine s_if_eq (tgt := 55) dX8_readsAll_16 (by decide) (fun hqz => absurd hqz (by decide)) (fun hz => ?_)
      clear hz
      refine s_aload_n dX8_readsAll_19 rfl ?_
      refine s_get dX8_readsAll_20 f_X8_149 (by rfl) (by rfl) ?_
      refine s_bipush (v := 12) dX8_readsAll_23 rfl ?_
      refine s_icmp_ge (tgt := 55) dX8_readsAll_25 (by decide) (fun hz => ?_) (fun hqz => absurd (by decide) hqz)
      clear hz
      refine s_iload_n dX8_readsAll_55 rfl ?_
      refine s_if_eq (tgt := 74) dX8_readsAll_56 (by decide) (fun hqz => absurd hqz (by decide)) (fun hz => ?_)
      clear hz
      refine s_aload_n dX8_readsAll_59 rfl ?_
      refine s_get dX8_readsAll_60 f_X8_138 (by rfl) (by rfl) ?_
      refine s_aload_n dX8_readsAll_63 rfl ?_
      refine s_get dX8_readsAll_64 f_X8_135 (by rfl) (by rfl) ?_
      refine s_icmp_ne (tgt := 74) dX8_readsAll_67 (by decide) (fun hz => ?_) (fun hqz => absurd hqz (fun q => absurd ((nI_eq (by omega) (by omega)).mp q) (by omega)))
      clear hz
      refine s_iconst (v := 0) dX8_readsAll_74 rfl ?_
      exact s_zret dX8_readsAll_75 rfl (by first | exact Or.inl rfl | exact Or.inr rfl) ⟨rfl, rfl⟩ (by first | exact wXMl | rfl | (simp only [List.length_set]; exact wXMl))
  | succ r ih =>
    intro c sg td hc hE
    have hps := psC_le (zFs tt n) (c + 1)
    have c1 := @c_X8_next
    by_cases h : n ≤ zE (zFs tt n) c
    · rw [show (raP (zFs tt n) n (r + 1) c sg td) = (1, zE (zFs tt n) c, c + 1, sg, td) from by rw [raP, if_pos h]]
      dsimp only
      refine s_iload_n dX8_readsAll_15 rfl ?_
      refine s_if_eq (tgt := 55) dX8_readsAll_16 (by decide) (fun hqz => absurd hqz (by decide)) (fun hz => ?_)
      clear hz
      refine s_aload_n dX8_readsAll_19 rfl ?_
      refine s_get dX8_readsAll_20 f_X8_149 (by rfl) (by rfl) ?_
      refine s_bipush (v := 12) dX8_readsAll_23 rfl ?_
      refine s_icmp_ge (tgt := 55) dX8_readsAll_25 (by decide) (fun hqz => absurd hqz (nI_ge (show c + 1 < 12 by omega) (by decide))) (fun hz => ?_)
      clear hz
      refine s_aload_n dX8_readsAll_28 rfl ?_
      refine s_cv1 dX8_readsAll_29 g_X8_141 (c_X8_next (p := zE (zFs tt n) c) (by rfl) (by rfl) hn (by omega)) (by rfl) rfl rfl rfl rfl (Nat.le_of_ble_eq_true rfl) (Nat.le_of_ble_eq_true rfl) rfl ?_
      refine s_bipush (v := 59) dX8_readsAll_32 rfl ?_
      refine s_icmp_ne (tgt := 55) dX8_readsAll_34 (by decide) (fun hz => ?_) (fun hqz => absurd hqz (by rw [show zFs tt n (zE (zFs tt n) c) = -1 from if_neg (by omega)]; decide))
      clear hz
      refine s_iload_n dX8_readsAll_55 rfl ?_
      refine s_if_eq (tgt := 74) dX8_readsAll_56 (by decide) (fun hqz => absurd hqz (by decide)) (fun hz => ?_)
      clear hz
      refine s_aload_n dX8_readsAll_59 rfl ?_
      refine s_get dX8_readsAll_60 f_X8_138 (by rfl) (by rfl) ?_
      refine s_aload_n dX8_readsAll_63 rfl ?_
      refine s_get dX8_readsAll_64 f_X8_135 (by rfl) (by rfl) ?_
      refine s_icmp_ne (tgt := 74) dX8_readsAll_67 (by decide) (fun hqz => absurd (by rw [show zE (zFs tt n) c = n by omega]) hqz) (fun hz => ?_)
      clear hz
      refine s_iconst (v := 1) dX8_readsAll_70 rfl ?_
      refine s_goto (tgt := 75) dX8_readsAll_71 (by decide) ?_
      exact s_zret dX8_readsAll_75 rfl (by first | exact Or.inl rfl | exact Or.inr rfl) ⟨rfl, rfl⟩ (by first | exact wXMl | rfl | (simp only [List.length_set]; exact wXMl))
    by_cases h2 : zFs tt n (zE (zFs tt n) c) = 59
    · by_cases h3 : zMD (zFs tt n (psC (zFs tt n) (c + 1))) = -1
      · rw [show (raP (zFs tt n) n (r + 1) c sg td) = (0, psC (zFs tt n) (c + 1), c + 1, sg, td) from by rw [raP, if_neg h, if_pos h2, if_pos h3]]
        dsimp only
        refine s_iload_n dX8_readsAll_15 rfl ?_
        refine s_if_eq (tgt := 55) dX8_readsAll_16 (by decide) (fun hqz => absurd hqz (by decide)) (fun hz => ?_)
        clear hz
        refine s_aload_n dX8_readsAll_19 rfl ?_
        refine s_get dX8_readsAll_20 f_X8_149 (by rfl) (by rfl) ?_
        refine s_bipush (v := 12) dX8_readsAll_23 rfl ?_
        refine s_icmp_ge (tgt := 55) dX8_readsAll_25 (by decide) (fun hqz => absurd hqz (nI_ge (show c + 1 < 12 by omega) (by decide))) (fun hz => ?_)
        clear hz
        refine s_aload_n dX8_readsAll_28 rfl ?_
        refine s_cv1 dX8_readsAll_29 g_X8_141 (c_X8_next (p := zE (zFs tt n) c) (by rfl) (by rfl) hn (by omega)) (by rfl) rfl rfl rfl rfl (Nat.le_of_ble_eq_true rfl) (Nat.le_of_ble_eq_true rfl) rfl ?_
        refine s_bipush (v := 59) dX8_readsAll_32 rfl ?_
        refine s_icmp_ne (tgt := 55) dX8_readsAll_34 (by decide) (fun hqz => absurd h2 hqz) (fun hz => ?_)
        clear hz
        refine s_aload_n dX8_readsAll_37 rfl ?_
        refine s_dup dX8_readsAll_38 rfl ?_
        refine s_get dX8_readsAll_39 f_X8_138 (by rfl) (by rfl) ?_
        refine s_iconst (v := 1) dX8_readsAll_42 rfl ?_
        refine s_iadd dX8_readsAll_43 ?_
        rw [nI_1]
        refine s_put dX8_readsAll_44 f_X8_138 (by rfl) (fun _ => ⟨rfl, rfl⟩) (Nat.le_of_ble_eq_true rfl) ?_
        show zG Z M_X8_readsAll _ _ _ _ _ _ (wX hd th hi tx sh tp ++ wM cm fo nu f1 f2 mb mk (nI n) (nI (psC (zFs tt n) (c + 1))) (nI (c + 1)) ms me mq mu mh mp fc vc tt sg td sw sm ew eo bc bi im so sz it mv)
        refine s_aload_n dX8_readsAll_47 rfl ?_
        refine s_cv1 dX8_readsAll_48 g_X8_156 (c_rcN hn (by omega) (by omega) h3) (by rfl) rfl rfl rfl rfl (Nat.le_of_ble_eq_true rfl) (Nat.le_of_ble_eq_true rfl) rfl ?_
        refine s_istore_n dX8_readsAll_51 (Nat.le_of_ble_eq_true rfl) rfl ?_
        refine s_goto (tgt := 15) dX8_readsAll_52 (by decide) ?_
        refine s_iload_n dX8_readsAll_15 rfl ?_
        refine s_if_eq (tgt := 55) dX8_readsAll_16 (by decide) (fun hz => ?_) (fun hqz => absurd rfl hqz)
        clear hz
        refine s_iload_n dX8_readsAll_55 rfl ?_
        refine s_if_eq (tgt := 74) dX8_readsAll_56 (by decide) (fun hz => ?_) (fun hqz => absurd rfl hqz)
        clear hz
        refine s_iconst (v := 0) dX8_readsAll_74 rfl ?_
        exact s_zret dX8_readsAll_75 rfl (by first | exact Or.inl rfl | exact Or.inr rfl) ⟨rfl, rfl⟩ (by first | exact wXMl | rfl | (simp only [List.length_set]; exact wXMl))
      by_cases h4 : 0 < cMD (zFs tt n (psC (zFs tt n) (c + 1))) ∧ dgC (zFs tt n) (psC (zFs tt n) (c + 1)) = 0
      · rw [show (raP (zFs tt n) n (r + 1) c sg td) = (0, psC (zFs tt n) (c + 1) + 1, c + 1, upd sg (c + 1) (zFs tt n (psC (zFs tt n) (c + 1))), upd td (c + 1) (-1)) from by rw [raP, if_neg h, if_pos h2, if_neg h3, if_pos h4]]
        dsimp only
        refine s_iload_n dX8_readsAll_15 rfl ?_
        refine s_if_eq (tgt := 55) dX8_readsAll_16 (by decide) (fun hqz => absurd hqz (by decide)) (fun hz => ?_)
        clear hz
        refine s_aload_n dX8_readsAll_19 rfl ?_
        refine s_get dX8_readsAll_20 f_X8_149 (by rfl) (by rfl) ?_
        refine s_bipush (v := 12) dX8_readsAll_23 rfl ?_
        refine s_icmp_ge (tgt := 55) dX8_readsAll_25 (by decide) (fun hqz => absurd hqz (nI_ge (show c + 1 < 12 by omega) (by decide))) (fun hz => ?_)
        clear hz
        refine s_aload_n dX8_readsAll_28 rfl ?_
        refine s_cv1 dX8_readsAll_29 g_X8_141 (c_X8_next (p := zE (zFs tt n) c) (by rfl) (by rfl) hn (by omega)) (by rfl) rfl rfl rfl rfl (Nat.le_of_ble_eq_true rfl) (Nat.le_of_ble_eq_true rfl) rfl ?_
        refine s_bipush (v := 59) dX8_readsAll_32 rfl ?_
        refine s_icmp_ne (tgt := 55) dX8_readsAll_34 (by decide) (fun hqz => absurd h2 hqz) (fun hz => ?_)
        clear hz
        refine s_aload_n dX8_readsAll_37 rfl ?_
        refine s_dup dX8_readsAll_38 rfl ?_
        refine s_get dX8_readsAll_39 f_X8_138 (by rfl) (by rfl) ?_
        refine s_iconst (v := 1) dX8_readsAll_42 rfl ?_
        refine s_iadd dX8_readsAll_43 ?_
        rw [nI_1]
        refine s_put dX8_readsAll_44 f_X8_138 (by rfl) (fun _ => ⟨rfl, rfl⟩) (Nat.le_of_ble_eq_true rfl) ?_
        show zG Z M_X8_readsAll _ _ _ _ _ _ (wX hd th hi tx sh tp ++ wM cm fo nu f1 f2 mb mk (nI n) (nI (psC (zFs tt n) (c + 1))) (nI (c + 1)) ms me mq mu mh mp fc vc tt sg td sw sm ew eo bc bi im so sz it mv)
        refine s_aload_n dX8_readsAll_47 rfl ?_
        refine s_cv1 dX8_readsAll_48 g_X8_156 (c_rcF hn (by omega) (by omega) h3 h4) (by rfl) rfl rfl rfl rfl (Nat.le_of_ble_eq_true rfl) (Nat.le_of_ble_eq_true rfl) rfl ?_
        refine s_istore_n dX8_readsAll_51 (Nat.le_of_ble_eq_true rfl) rfl ?_
        refine s_goto (tgt := 15) dX8_readsAll_52 (by decide) ?_
        refine s_iload_n dX8_readsAll_15 rfl ?_
        refine s_if_eq (tgt := 55) dX8_readsAll_16 (by decide) (fun hz => ?_) (fun hqz => absurd rfl hqz)
        clear hz
        refine s_iload_n dX8_readsAll_55 rfl ?_
        refine s_if_eq (tgt := 74) dX8_readsAll_56 (by decide) (fun hz => ?_) (fun hqz => absurd rfl hqz)
        clear hz
        refine s_iconst (v := 0) dX8_readsAll_74 rfl ?_
        exact s_zret dX8_readsAll_75 rfl (by first | exact Or.inl rfl | exact Or.inr rfl) ⟨rfl, rfl⟩ (by first | exact wXMl | rfl | (simp only [List.length_set]; exact wXMl))
      · rw [show (raP (zFs tt n) n (r + 1) c sg td) = raP (zFs tt n) n r (c + 1) (upd sg (c + 1) (zFs tt n (psC (zFs tt n) (c + 1)))) (upd td (c + 1) (tdV (zFs tt n) (psC (zFs tt n) (c + 1)))) from by rw [raP, if_neg h, if_pos h2, if_neg h3, if_neg h4]]
        refine s_iload_n dX8_readsAll_15 rfl ?_
        refine s_if_eq (tgt := 55) dX8_readsAll_16 (by decide) (fun hqz => absurd hqz (by decide)) (fun hz => ?_)
        clear hz
        refine s_aload_n dX8_readsAll_19 rfl ?_
        refine s_get dX8_readsAll_20 f_X8_149 (by rfl) (by rfl) ?_
        refine s_bipush (v := 12) dX8_readsAll_23 rfl ?_
        refine s_icmp_ge (tgt := 55) dX8_readsAll_25 (by decide) (fun hqz => absurd hqz (nI_ge (show c + 1 < 12 by omega) (by decide))) (fun hz => ?_)
        clear hz
        refine s_aload_n dX8_readsAll_28 rfl ?_
        refine s_cv1 dX8_readsAll_29 g_X8_141 (c_X8_next (p := zE (zFs tt n) c) (by rfl) (by rfl) hn (by omega)) (by rfl) rfl rfl rfl rfl (Nat.le_of_ble_eq_true rfl) (Nat.le_of_ble_eq_true rfl) rfl ?_
        refine s_bipush (v := 59) dX8_readsAll_32 rfl ?_
        refine s_icmp_ne (tgt := 55) dX8_readsAll_34 (by decide) (fun hqz => absurd h2 hqz) (fun hz => ?_)
        clear hz
        refine s_aload_n dX8_readsAll_37 rfl ?_
        refine s_dup dX8_readsAll_38 rfl ?_
        refine s_get dX8_readsAll_39 f_X8_138 (by rfl) (by rfl) ?_
        refine s_iconst (v := 1) dX8_readsAll_42 rfl ?_
        refine s_iadd dX8_readsAll_43 ?_
        rw [nI_1]
        refine s_put dX8_readsAll_44 f_X8_138 (by rfl) (fun _ => ⟨rfl, rfl⟩) (Nat.le_of_ble_eq_true rfl) ?_
        show zG Z M_X8_readsAll _ _ _ _ _ _ (wX hd th hi tx sh tp ++ wM cm fo nu f1 f2 mb mk (nI n) (nI (psC (zFs tt n) (c + 1))) (nI (c + 1)) ms me mq mu mh mp fc vc tt sg td sw sm ew eo bc bi im so sz it mv)
        refine s_aload_n dX8_readsAll_47 rfl ?_
        refine s_cv1 dX8_readsAll_48 g_X8_156 (c_rcOK hn (by omega) (by omega) ⟨h3, h4⟩) (by rfl) rfl rfl rfl rfl (Nat.le_of_ble_eq_true rfl) (Nat.le_of_ble_eq_true rfl) rfl ?_
        refine s_istore_n dX8_readsAll_51 (Nat.le_of_ble_eq_true rfl) rfl ?_
        refine s_goto (tgt := 15) dX8_readsAll_52 (by decide) ?_
        exact ih (c + 1) _ _ (by omega) (E_le h3)
    · rw [show (raP (zFs tt n) n (r + 1) c sg td) = (0, zE (zFs tt n) c, c + 1, sg, td) from by rw [raP, if_neg h, if_neg h2]]
      dsimp only
      refine s_iload_n dX8_readsAll_15 rfl ?_
      refine s_if_eq (tgt := 55) dX8_readsAll_16 (by decide) (fun hqz => absurd hqz (by decide)) (fun hz => ?_)
      clear hz
      refine s_aload_n dX8_readsAll_19 rfl ?_
      refine s_get dX8_readsAll_20 f_X8_149 (by rfl) (by rfl) ?_
      refine s_bipush (v := 12) dX8_readsAll_23 rfl ?_
      refine s_icmp_ge (tgt := 55) dX8_readsAll_25 (by decide) (fun hqz => absurd hqz (nI_ge (show c + 1 < 12 by omega) (by decide))) (fun hz => ?_)
      clear hz
      refine s_aload_n dX8_readsAll_28 rfl ?_
      refine s_cv1 dX8_readsAll_29 g_X8_141 (c_X8_next (p := zE (zFs tt n) c) (by rfl) (by rfl) hn (by omega)) (by rfl) rfl rfl rfl rfl (Nat.le_of_ble_eq_true rfl) (Nat.le_of_ble_eq_true rfl) rfl ?_
      refine s_bipush (v := 59) dX8_readsAll_32 rfl ?_
      refine s_icmp_ne (tgt := 55) dX8_readsAll_34 (by decide) (fun hz => ?_) (fun hqz => absurd hqz h2)
      clear hz
      refine s_iload_n dX8_readsAll_55 rfl ?_
      refine s_if_eq (tgt := 74) dX8_readsAll_56 (by decide) (fun hqz => absurd hqz (by decide)) (fun hz => ?_)
      clear hz
      refine s_aload_n dX8_readsAll_59 rfl ?_
      refine s_get dX8_readsAll_60 f_X8_138 (by rfl) (by rfl) ?_
      refine s_aload_n dX8_readsAll_63 rfl ?_
      refine s_get dX8_readsAll_64 f_X8_135 (by rfl) (by rfl) ?_
      refine s_icmp_ne (tgt := 74) dX8_readsAll_67 (by decide) (fun hz => ?_) (fun hqz => absurd hqz (fun q => absurd ((nI_eq (by omega) (by omega)).mp q) (by omega)))
      clear hz
      refine s_iconst (v := 0) dX8_readsAll_74 rfl ?_
      exact s_zret dX8_readsAll_75 rfl (by first | exact Or.inl rfl | exact Or.inr rfl) ⟨rfl, rfl⟩ (by first | exact wXMl | rfl | (simp only [List.length_set]; exact wXMl))
set_option maxHeartbeats 4000000 in
set_option maxRecDepth 100000 in
theorem c_X8_readsAll {Z : zS} {d : Nat} {hd th : zHd} {hi : Int32} {tx : zTx} {sh : zSh} {tp : zTs} {cm fo nu f1 f2 : Nat → Int32} {mb mk ma mc ms me mq mu mh mp : Int32} {fc vc tt sg td sw sm ew eo bc bi im so sz : Nat → Int32} {it mv : Nat → Int64} {n : Nat} (hn : n ≤ 100) : zF Z M_X8_readsAll (d + 4) [.ref 41] (wX hd th hi tx sh tp ++ wM cm fo nu f1 f2 mb mk (nI n) ma mc ms me mq mu mh mp fc vc tt sg td sw sm ew eo bc bi im so sz it mv) [.int (nI (raA (zFs tt n) n sg td).1)] (wX hd th hi tx sh tp ++ wM cm fo nu f1 f2 mb mk (nI n) (nI (raA (zFs tt n) n sg td).2.1) (nI (raA (zFs tt n) n sg td).2.2.1) ms me mq mu mh mp fc vc tt (raA (zFs tt n) n sg td).2.2.2.1 (raA (zFs tt n) n sg td).2.2.2.2 sw sm ew eo bc bi im so sz it mv) := by
  show zG Z M_X8_readsAll (d + 4) _ 63 0 [(0, .ref 41)] [] (wX hd th hi tx sh tp ++ wM cm fo nu f1 f2 mb mk (nI n) ma mc ms me mq mu mh mp fc vc tt sg td sw sm ew eo bc bi im so sz it mv)
  by_cases h3 : zMD (zFs tt n 0) = -1
  · rw [show (raA (zFs tt n) n sg td) = (0, 0, 0, sg, td) from by rw [raA, if_pos h3]]
    dsimp only
    refine s_aload_n dX8_readsAll_0 rfl ?_
    refine s_iconst (v := 0) dX8_readsAll_1 rfl ?_
    refine s_put dX8_readsAll_2 f_X8_138 (by rfl) (fun _ => ⟨rfl, rfl⟩) (Nat.le_of_ble_eq_true rfl) ?_
    refine s_aload_n dX8_readsAll_5 rfl ?_
    refine s_iconst (v := 0) dX8_readsAll_6 rfl ?_
    refine s_put dX8_readsAll_7 f_X8_149 (by rfl) (fun _ => ⟨rfl, rfl⟩) (Nat.le_of_ble_eq_true rfl) ?_
    show zG Z M_X8_readsAll _ _ _ _ _ _ (wX hd th hi tx sh tp ++ wM cm fo nu f1 f2 mb mk (nI n) (nI 0) (nI 0) ms me mq mu mh mp fc vc tt sg td sw sm ew eo bc bi im so sz it mv)
    refine s_aload_n dX8_readsAll_10 rfl ?_
    refine s_cv1 dX8_readsAll_11 g_X8_156 (c_rcN hn (by decide) (by decide) h3) (by rfl) rfl rfl rfl rfl (Nat.le_of_ble_eq_true rfl) (Nat.le_of_ble_eq_true rfl) rfl ?_
    refine s_istore_n dX8_readsAll_14 (Nat.le_of_ble_eq_true rfl) rfl ?_
    refine s_iload_n dX8_readsAll_15 rfl ?_
    refine s_if_eq (tgt := 55) dX8_readsAll_16 (by decide) (fun hz => ?_) (fun hqz => absurd rfl hqz)
    clear hz
    refine s_iload_n dX8_readsAll_55 rfl ?_
    refine s_if_eq (tgt := 74) dX8_readsAll_56 (by decide) (fun hz => ?_) (fun hqz => absurd rfl hqz)
    clear hz
    refine s_iconst (v := 0) dX8_readsAll_74 rfl ?_
    exact s_zret dX8_readsAll_75 rfl (by first | exact Or.inl rfl | exact Or.inr rfl) ⟨rfl, rfl⟩ (by first | exact wXMl | rfl | (simp only [List.length_set]; exact wXMl))
  by_cases h4 : 0 < cMD (zFs tt n 0) ∧ dgC (zFs tt n) 0 = 0
  · rw [show (raA (zFs tt n) n sg td) = (0, 1, 0, upd sg 0 (zFs tt n 0), upd td 0 (-1)) from by rw [raA, if_neg h3, if_pos h4]]
    dsimp only
    refine s_aload_n dX8_readsAll_0 rfl ?_
    refine s_iconst (v := 0) dX8_readsAll_1 rfl ?_
    refine s_put dX8_readsAll_2 f_X8_138 (by rfl) (fun _ => ⟨rfl, rfl⟩) (Nat.le_of_ble_eq_true rfl) ?_
    refine s_aload_n dX8_readsAll_5 rfl ?_
    refine s_iconst (v := 0) dX8_readsAll_6 rfl ?_
    refine s_put dX8_readsAll_7 f_X8_149 (by rfl) (fun _ => ⟨rfl, rfl⟩) (Nat.le_of_ble_eq_true rfl) ?_
    show zG Z M_X8_readsAll _ _ _ _ _ _ (wX hd th hi tx sh tp ++ wM cm fo nu f1 f2 mb mk (nI n) (nI 0) (nI 0) ms me mq mu mh mp fc vc tt sg td sw sm ew eo bc bi im so sz it mv)
    refine s_aload_n dX8_readsAll_10 rfl ?_
    refine s_cv1 dX8_readsAll_11 g_X8_156 (c_rcF hn (by decide) (by decide) h3 h4) (by rfl) rfl rfl rfl rfl (Nat.le_of_ble_eq_true rfl) (Nat.le_of_ble_eq_true rfl) rfl ?_
    refine s_istore_n dX8_readsAll_14 (Nat.le_of_ble_eq_true rfl) rfl ?_
    refine s_iload_n dX8_readsAll_15 rfl ?_
    refine s_if_eq (tgt := 55) dX8_readsAll_16 (by decide) (fun hz => ?_) (fun hqz => absurd rfl hqz)
    clear hz
    refine s_iload_n dX8_readsAll_55 rfl ?_
    refine s_if_eq (tgt := 74) dX8_readsAll_56 (by decide) (fun hz => ?_) (fun hqz => absurd rfl hqz)
    clear hz
    refine s_iconst (v := 0) dX8_readsAll_74 rfl ?_
    exact s_zret dX8_readsAll_75 rfl (by first | exact Or.inl rfl | exact Or.inr rfl) ⟨rfl, rfl⟩ (by first | exact wXMl | rfl | (simp only [List.length_set]; exact wXMl))
  · rw [show (raA (zFs tt n) n sg td) = raP (zFs tt n) n 11 0 (upd sg 0 (zFs tt n 0)) (upd td 0 (tdV (zFs tt n) 0)) from by rw [raA, if_neg h3, if_neg h4]]
    refine s_aload_n dX8_readsAll_0 rfl ?_
    refine s_iconst (v := 0) dX8_readsAll_1 rfl ?_
    refine s_put dX8_readsAll_2 f_X8_138 (by rfl) (fun _ => ⟨rfl, rfl⟩) (Nat.le_of_ble_eq_true rfl) ?_
    refine s_aload_n dX8_readsAll_5 rfl ?_
    refine s_iconst (v := 0) dX8_readsAll_6 rfl ?_
    refine s_put dX8_readsAll_7 f_X8_149 (by rfl) (fun _ => ⟨rfl, rfl⟩) (Nat.le_of_ble_eq_true rfl) ?_
    show zG Z M_X8_readsAll _ _ _ _ _ _ (wX hd th hi tx sh tp ++ wM cm fo nu f1 f2 mb mk (nI n) (nI 0) (nI 0) ms me mq mu mh mp fc vc tt sg td sw sm ew eo bc bi im so sz it mv)
    refine s_aload_n dX8_readsAll_10 rfl ?_
    refine s_cv1 dX8_readsAll_11 g_X8_156 (c_rcOK hn (by decide) (by decide) ⟨h3, h4⟩) (by rfl) rfl rfl rfl rfl (Nat.le_of_ble_eq_true rfl) (Nat.le_of_ble_eq_true rfl) rfl ?_
    refine s_istore_n dX8_readsAll_14 (Nat.le_of_ble_eq_true rfl) rfl ?_
    exact l_ra hn 11 0 _ _ rfl (E_le h3)
