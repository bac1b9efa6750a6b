/-! ===== floats: their bits as the class makes them ===== -/
theorem q_cen : ∀ n, n < 9 → n ≠ 0 → ∀ s, s < 9 → s ≤ n → zOF (zCQ s n) = some (zCQ s n).toInt32 ∧ Op.cmpValue (FP.fcmp (zCQ s n) (zCQ s n)) .l = 0 := by decide +kernel
theorem q_sum : ∀ b, b < 256 → ∀ t, t < 3 → pSUM b t ≤ pPOP b := by decide +kernel
theorem cen_ok {b t : Nat} (hb : b < 256) (h0 : b ≠ 0) (ht : t < 3) : zOF (pCEN b t) = some (pCEN b t).toInt32 ∧ Op.cmpValue (FP.fcmp (pCEN b t) (pCEN b t)) .l = 0 := by
  have hp := q_p0 b hb h0
  have hs := q_sum b hb t ht
  have hl := pPOP_le b
  rw [show pCEN b t = zCQ (pSUM b t) (pPOP b) from if_neg hp]
  exact q_cen (pPOP b) (by omega) hp (pSUM b t) (by omega) hs
theorem q_fat : ∀ s, s < 7 → vf_n32 (FP.fdiv (FP.i2f (nI s)) 1086324736) ∧ vf_n32 (FP.fdiv (FP.fdiv (FP.i2f (nI s)) 1086324736) (FP.i2f 1)) ∧ zOF (FP.fdiv (FP.fdiv (FP.i2f (nI s)) 1086324736) (FP.i2f 1)) = some (FP.fdiv (FP.fdiv (FP.i2f (nI s)) 1086324736) (FP.i2f 1)).toInt32 ∧ Op.cmpValue (FP.fcmp (FP.fdiv (FP.fdiv (FP.i2f (nI s)) 1086324736) (FP.i2f 1)) (FP.fdiv (FP.fdiv (FP.i2f (nI s)) 1086324736) (FP.i2f 1))) .l = 0 := by
  unfold vf_n32
  decide +kernel
theorem q_fat0 : zOF FP.fconst0 = some FP.fconst0.toInt32 ∧ Op.cmpValue (FP.fcmp FP.fconst0 FP.fconst0) .l = 0 := by decide +kernel
theorem fat_ok {b : Nat} (hb : b < 256) (h0 : b ≠ 0) : (¬ kLW b = 0 → vf_n32 (kFQ b) ∧ vf_n32 (FP.fdiv (kFQ b) (FP.i2f (kLW b)))) ∧ zOF (kFAT b) = some (kFAT b).toInt32 ∧ Op.cmpValue (FP.fcmp (kFAT b) (kFAT b)) .l = 0 := by
  obtain ⟨s, hs, e⟩ := kSIX_nI hb h0
  obtain ⟨f1, f2, f3, f4⟩ := q_fat s hs
  rw [← e] at f1 f2 f3 f4
  rcases kLW_01 hb h0 with h | h
  · rw [show kFAT b = FP.fconst0 from if_pos h]
    exact ⟨fun h1 => absurd h h1, q_fat0⟩
  · have h1 : ¬ kLW b = 0 := by rw [h]; decide
    rw [show kFAT b = FP.fdiv (kFQ b) (FP.i2f (kLW b)) from if_neg h1, h]
    exact ⟨fun _ => ⟨f1, f2⟩, f3, f4⟩
theorem q_spr0 : ∀ b, b < 64 → b + 0 ≠ 0 → pSPO (b + 0) 3 0 FP.dconst0 = true ∧ zOD (pSPL (b + 0) 3 0 FP.dconst0) = some (pSPL (b + 0) 3 0 FP.dconst0).toInt64 ∧ Op.cmpValue (FP.dcmp (pSPL (b + 0) 3 0 FP.dconst0) (pSPL (b + 0) 3 0 FP.dconst0)) .l = 0 := by decide +kernel
theorem q_spr1 : ∀ b, b < 64 → b + 64 ≠ 0 → pSPO (b + 64) 3 0 FP.dconst0 = true ∧ zOD (pSPL (b + 64) 3 0 FP.dconst0) = some (pSPL (b + 64) 3 0 FP.dconst0).toInt64 ∧ Op.cmpValue (FP.dcmp (pSPL (b + 64) 3 0 FP.dconst0) (pSPL (b + 64) 3 0 FP.dconst0)) .l = 0 := by decide +kernel
theorem q_spr2 : ∀ b, b < 64 → b + 128 ≠ 0 → pSPO (b + 128) 3 0 FP.dconst0 = true ∧ zOD (pSPL (b + 128) 3 0 FP.dconst0) = some (pSPL (b + 128) 3 0 FP.dconst0).toInt64 ∧ Op.cmpValue (FP.dcmp (pSPL (b + 128) 3 0 FP.dconst0) (pSPL (b + 128) 3 0 FP.dconst0)) .l = 0 := by decide +kernel
theorem q_spr3 : ∀ b, b < 64 → b + 192 ≠ 0 → pSPO (b + 192) 3 0 FP.dconst0 = true ∧ zOD (pSPL (b + 192) 3 0 FP.dconst0) = some (pSPL (b + 192) 3 0 FP.dconst0).toInt64 ∧ Op.cmpValue (FP.dcmp (pSPL (b + 192) 3 0 FP.dconst0) (pSPL (b + 192) 3 0 FP.dconst0)) .l = 0 := by decide +kernel
theorem spr_ok {b : Nat} (hb : b < 256) (h0 : b ≠ 0) : pSPO b 3 0 FP.dconst0 = true ∧ zOD (pSPL b 3 0 FP.dconst0) = some (pSPL b 3 0 FP.dconst0).toInt64 ∧ Op.cmpValue (FP.dcmp (pSPL b 3 0 FP.dconst0) (pSPL b 3 0 FP.dconst0)) .l = 0 := by
  by_cases h3 : 192 ≤ b
  · obtain ⟨c, rfl⟩ : ∃ c, b = c + 192 := ⟨b - 192, by omega⟩
    exact q_spr3 c (by omega) h0
  by_cases h2 : 128 ≤ b
  · obtain ⟨c, rfl⟩ : ∃ c, b = c + 128 := ⟨b - 128, by omega⟩
    exact q_spr2 c (by omega) h0
  by_cases h1 : 64 ≤ b
  · obtain ⟨c, rfl⟩ : ∃ c, b = c + 64 := ⟨b - 64, by omega⟩
    exact q_spr1 c (by omega) h0
  · exact q_spr0 b (by omega) h0
