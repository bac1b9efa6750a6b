/-! ===== the model's constructor ===== -/
def f1A : Nat → Int32 := (upd (upd (upd (upd (upd (upd (fun _ => 0) 0 0) 1 0) 2 1) 3 1) 4 2) 5 2)
def f2A : Nat → Int32 := (upd (upd (upd (upd (upd (upd (fun _ => 0) 0 1) 1 2) 2 0) 3 2) 4 0) 5 1)
def wM0 (cm fo nu sz : Nat → Int32) : zW := wM cm fo nu f1A f2A 0 0 0 0 0 0 0 0 0 0 0 (fun _ => 0) (fun _ => 0) (fun _ => 0) (fun _ => 0) (fun _ => 0) (fun _ => 0) (fun _ => 0) (fun _ => 0) (fun _ => 0) (fun _ => 0) (fun _ => 0) (fun _ => 0) (fun _ => 0) sz (fun _ => 0) (fun _ => 0)
def zA1 (m : Nat) : Int32 := f1A (nI m / 8).toNatClampNeg
def zA2 (m : Nat) : Int32 := f2A (nI m / 8).toNatClampNeg
theorem q_cm : ∀ m, m < 48 → ∀ c, c < 8 → (nI c >>> (zA1 m &&& 31) &&& 1 ||| (nI c >>> (zA2 m &&& 31) &&& 1) <<< ((1 : Int32) &&& 31) ||| (nI c >>> ((3 - zA1 m - zA2 m) &&& 31) &&& 1) <<< ((2 : Int32) &&& 31)) ^^^ (nI m - nI m / 8 * 8) = nI (pCO m c) := by decide +kernel
theorem q_m8 : ∀ m, m < 48 → vp_in (nI m / 8) 6 := by
  unfold vp_in
  decide +kernel
def cmF : Nat → Nat → Int32
  | 0 => fun _ => 0
  | t + 1 => upd (cmF t) t (nI (pCO (t / 8) (t % 8)))
theorem cmF_val : ∀ t s, s < t → cmF t s = nI (pCO (s / 8) (s % 8))
  | 0, s, h => absurd h (Nat.not_lt_zero s)
  | t + 1, s, h => by
    unfold cmF upd
    by_cases e : s = t
    · rw [if_pos e, e]
    · rw [if_neg e]; exact cmF_val t s (by omega)
theorem cmF_ok : CMok (cmF 384) := fun m hm c hc => by
  rw [cmF_val 384 _ (by omega), show (8 * m + c) / 8 = m by omega, show (8 * m + c) % 8 = c by omega]
theorem cmF_s {m c : Nat} (hc : c < 8) : upd (cmF (8 * m + c)) (8 * m + c) (nI (pCO m c)) = cmF (8 * m + (c + 1)) := by
  show _ = upd (cmF (8 * m + c)) (8 * m + c) (nI (pCO ((8 * m + c) / 8) ((8 * m + c) % 8)))
  rw [show (8 * m + c) / 8 = m by omega, show (8 * m + c) % 8 = c by omega]
def foF : Nat → Nat → Int32
  | 0 => fun _ => 0
  | t + 1 => upd (foF t) t (nI (pFOR t))
theorem foF_val : ∀ t s, s < t → foF t s = nI (pFOR s)
  | 0, s, h => absurd h (Nat.not_lt_zero s)
  | t + 1, s, h => by
    unfold foF upd
    by_cases e : s = t
    · rw [if_pos e, e]
    · rw [if_neg e]; exact foF_val t s (by omega)
theorem foF_ok : FOok (foF 256) := fun c hc => foF_val 256 c hc
def nuF : Nat → Nat → Int32
  | 0 => fun _ => 0
  | t + 1 => upd (nuF t) t (nI (pNUM t))
theorem nuF_val : ∀ t s, s < t → nuF t s = nI (pNUM s)
  | 0, s, h => absurd h (Nat.not_lt_zero s)
  | t + 1, s, h => by
    unfold nuF upd
    by_cases e : s = t
    · rw [if_pos e, e]
    · rw [if_neg e]; exact nuF_val t s (by omega)
theorem nuF_ok : NUok (nuF 256) := fun c hc => nuF_val 256 c hc
def szF : Nat → Nat → Int32
  | 0 => fun _ => 0
  | t + 1 => upd (szF t) t (-1)
theorem szF_val : ∀ t s, s < t → szF t s = -1
  | 0, s, h => absurd h (Nat.not_lt_zero s)
  | t + 1, s, h => by
    unfold szF upd
    by_cases e : s = t
    · rw [if_pos e]
    · rw [if_neg e]; exact szF_val t s (by omega)
def cnB (b : Nat) : Nat := (pFORMS.filter (fun f => decide (f < b))).length
theorem q_cn : ∀ b, b < 256 → cnB (b + 1) = (if zT.getD b 0 = b then cnB b + 1 else cnB b) ∧ (zT.getD b 0 = b → cnB b = pFORMS.idxOf b) ∧ zT.getD (zT.getD b 0) 0 = zT.getD b 0 := by decide +kernel
theorem cn_s {b : Nat} (hb : b < 256) : cnB (b + 1) = if pFOR b = b then cnB b + 1 else cnB b := by
  rw [q_Ti b hb]; exact (q_cn b hb).1
theorem cn_eq {b : Nat} (hb : b < 256) (h : pFOR b = b) : cnB b = pNUM b := by
  unfold pNUM
  rw [h]
  exact (q_cn b hb).2.1 (by rw [← q_Ti b hb]; exact h)
theorem cn_ne {b : Nat} (hb : b < 256) : pNUM (pFOR b) = pNUM b := by
  unfold pNUM
  rw [q_Ti (pFOR b) (pFOR_lt hb), q_Ti b hb, (q_cn b hb).2.2]
set_option maxHeartbeats 4000000 in
set_option maxRecDepth 100000 in
theorem l_cmI {Z : zS} {d : Nat} {w0 : zW} {N : Nat} {Q : List Value → zW → Prop} (hn : w0.length = 41) {fo nu sz : Nat → Int32} {m : Nat} (hm : m < 48) (K : zG Z M_X8_init (d + 1) Q N 316 [(0, .ref 41), (1, .int (nI m)), (2, .int (zA1 m)), (3, .int (zA2 m)), (4, .int (3 - zA1 m - zA2 m)), (5, .int (nI 8))] [] (w0 ++ wM0 (cmF (8 * m + 8)) fo nu sz)) : ∀ (r c : Nat), c + r = 8 → zG Z M_X8_init (d + 1) Q N 261 [(0, .ref 41), (1, .int (nI m)), (2, .int (zA1 m)), (3, .int (zA2 m)), (4, .int (3 - zA1 m - zA2 m)), (5, .int (nI c))] [] (w0 ++ wM0 (cmF (8 * m + c)) fo nu sz) := by
  intro r
  induction r with
  | zero =>
    intro c hi
    have hi : c = 8 := by omega
    subst hi
    refine s_iload dX8_init_261 rfl ?_
    refine s_bipush (v := 8) dX8_init_263 rfl ?_
    refine s_icmp_ge (tgt := 316) dX8_init_265 (by decide) (fun hz => ?_) (fun hqz => absurd (by decide) hqz)
    clear hz
    exact K
  | succ r ih =>
    intro c hi
    have h8 : c < 8 := by omega
    refine s_iload dX8_init_261 rfl ?_
    refine s_bipush (v := 8) dX8_init_263 rfl ?_
    refine s_icmp_ge (tgt := 316) dX8_init_265 (by decide) (fun hqz => absurd hqz (nI_ge h8 (by decide))) (fun hz => ?_)
    clear hz
    refine s_aload_n dX8_init_268 rfl ?_
    refine s_get dX8_init_269 f_X8_15 (by first | exact (zatm hn _ 0).trans rfl | exact (zatm hn _ 1).trans rfl | exact (zatm hn _ 2).trans rfl | exact (zatm hn _ 3).trans rfl | exact (zatm hn _ 4).trans rfl | exact (zatm hn _ 5).trans rfl | exact (zatm hn _ 19).trans rfl) (by rfl) ?_
    refine s_bipush (v := 8) dX8_init_272 rfl ?_
    refine s_iload_n dX8_init_274 rfl ?_
    refine s_imul dX8_init_275 ?_
    refine s_iload dX8_init_276 rfl ?_
    refine s_iadd dX8_init_278 ?_
    refine s_iload dX8_init_279 rfl ?_
    refine s_iload_n dX8_init_281 rfl ?_
    refine s_ishr dX8_init_282 ?_
    refine s_iconst (v := 1) dX8_init_283 rfl ?_
    refine s_iand dX8_init_284 ?_
    refine s_iload dX8_init_285 rfl ?_
    refine s_iload_n dX8_init_287 rfl ?_
    refine s_ishr dX8_init_288 ?_
    refine s_iconst (v := 1) dX8_init_289 rfl ?_
    refine s_iand dX8_init_290 ?_
    refine s_iconst (v := 1) dX8_init_291 rfl ?_
    refine s_ishl dX8_init_292 ?_
    refine s_ior dX8_init_293 ?_
    refine s_iload dX8_init_294 rfl ?_
    refine s_iload dX8_init_296 rfl ?_
    refine s_ishr dX8_init_298 ?_
    refine s_iconst (v := 1) dX8_init_299 rfl ?_
    refine s_iand dX8_init_300 ?_
    refine s_iconst (v := 2) dX8_init_301 rfl ?_
    refine s_ishl dX8_init_302 ?_
    refine s_ior dX8_init_303 ?_
    refine s_iload_n dX8_init_304 rfl ?_
    refine s_bipush (v := 8) dX8_init_305 rfl ?_
    refine s_irem dX8_init_307 (by decide) ?_
    refine s_ixor dX8_init_308 ?_
    rw [q_cm m hm c h8, z8m]
    refine s_iast dX8_init_309 (by first | exact (zatm hn _ 0).trans rfl | exact (zatm hn _ 1).trans rfl | exact (zatm hn _ 2).trans rfl | exact (zatm hn _ 3).trans rfl | exact (zatm hn _ 4).trans rfl | exact (zatm hn _ 5).trans rfl | exact (zatm hn _ 19).trans rfl) (zrd (show 8 * m + c < 384 by omega) (by decide)) ?_
    rw [nI_clamp (by omega), show (w0 ++ wM0 (cmF (8 * m + c)) fo nu sz).set 42 (aI 384 (upd (cmF (8 * m + c)) (8 * m + c) (nI (pCO m c)))) = (w0 ++ wM0 (cmF (8 * m + (c + 1))) fo nu sz) from (zsetm hn _ 1 _).trans (by rw [cmF_s h8]; rfl)]
    refine s_iinc (nI (c + 1)) dX8_init_310 rfl (nI_1 _) (Nat.le_of_ble_eq_true rfl) rfl ?_
    refine s_goto (tgt := 261) dX8_init_313 (by decide) ?_
    exact ih (c + 1) (by omega)
set_option maxHeartbeats 4000000 in
set_option maxRecDepth 100000 in
theorem l_cmO {Z : zS} {d : Nat} {w0 : zW} {N : Nat} {Q : List Value → zW → Prop} (hn : w0.length = 41) {fo nu sz : Nat → Int32} (K : zG Z M_X8_init (d + 1) Q N 322 [(0, .ref 41), (1, .int (nI 48))] [] (w0 ++ wM0 (cmF 384) fo nu sz)) : ∀ (r m : Nat), m + r = 48 → zG Z M_X8_init (d + 1) Q N 225 [(0, .ref 41), (1, .int (nI m))] [] (w0 ++ wM0 (cmF (8 * m)) fo nu sz) := by
  intro r
  induction r with
  | zero =>
    intro m hi
    have hi : m = 48 := by omega
    subst hi
    refine s_iload_n dX8_init_225 rfl ?_
    refine s_bipush (v := 48) dX8_init_226 rfl ?_
    refine s_icmp_ge (tgt := 322) dX8_init_228 (by decide) (fun hz => ?_) (fun hqz => absurd (by decide) hqz)
    clear hz
    exact K
  | succ r ih =>
    intro m hi
    have h48 : m < 48 := by omega
    refine s_iload_n dX8_init_225 rfl ?_
    refine s_bipush (v := 48) dX8_init_226 rfl ?_
    refine s_icmp_ge (tgt := 322) dX8_init_228 (by decide) (fun hqz => absurd hqz (nI_ge h48 (by decide))) (fun hz => ?_)
    clear hz
    refine s_aload_n dX8_init_231 rfl ?_
    refine s_get dX8_init_232 f_X8_25 (by first | exact (zatm hn _ 0).trans rfl | exact (zatm hn _ 1).trans rfl | exact (zatm hn _ 2).trans rfl | exact (zatm hn _ 3).trans rfl | exact (zatm hn _ 4).trans rfl | exact (zatm hn _ 5).trans rfl | exact (zatm hn _ 19).trans rfl) (by rfl) ?_
    refine s_iload_n dX8_init_235 rfl ?_
    refine s_bipush (v := 8) dX8_init_236 rfl ?_
    refine s_idiv dX8_init_238 (by decide) ?_
    refine s_iald dX8_init_239 (by first | exact (zatm hn _ 0).trans rfl | exact (zatm hn _ 1).trans rfl | exact (zatm hn _ 2).trans rfl | exact (zatm hn _ 3).trans rfl | exact (zatm hn _ 4).trans rfl | exact (zatm hn _ 5).trans rfl | exact (zatm hn _ 19).trans rfl) (q_m8 m h48) ?_
    refine s_istore_n dX8_init_240 (Nat.le_of_ble_eq_true rfl) rfl ?_
    refine s_aload_n dX8_init_241 rfl ?_
    refine s_get dX8_init_242 f_X8_28 (by first | exact (zatm hn _ 0).trans rfl | exact (zatm hn _ 1).trans rfl | exact (zatm hn _ 2).trans rfl | exact (zatm hn _ 3).trans rfl | exact (zatm hn _ 4).trans rfl | exact (zatm hn _ 5).trans rfl | exact (zatm hn _ 19).trans rfl) (by rfl) ?_
    refine s_iload_n dX8_init_245 rfl ?_
    refine s_bipush (v := 8) dX8_init_246 rfl ?_
    refine s_idiv dX8_init_248 (by decide) ?_
    refine s_iald dX8_init_249 (by first | exact (zatm hn _ 0).trans rfl | exact (zatm hn _ 1).trans rfl | exact (zatm hn _ 2).trans rfl | exact (zatm hn _ 3).trans rfl | exact (zatm hn _ 4).trans rfl | exact (zatm hn _ 5).trans rfl | exact (zatm hn _ 19).trans rfl) (q_m8 m h48) ?_
    refine s_istore_n dX8_init_250 (Nat.le_of_ble_eq_true rfl) rfl ?_
    refine s_iconst (v := 3) dX8_init_251 rfl ?_
    refine s_iload_n dX8_init_252 rfl ?_
    refine s_isub dX8_init_253 ?_
    refine s_iload_n dX8_init_254 rfl ?_
    refine s_isub dX8_init_255 ?_
    refine s_istore dX8_init_256 (Nat.le_of_ble_eq_true rfl) rfl ?_
    refine s_iconst (v := 0) dX8_init_258 rfl ?_
    refine s_istore dX8_init_259 (Nat.le_of_ble_eq_true rfl) rfl ?_
    refine l_cmI hn h48 ?_ 8 0 rfl
    refine s_take 2 ?_
    refine s_iinc (nI (m + 1)) dX8_init_316 rfl (nI_1 _) (Nat.le_of_ble_eq_true rfl) rfl ?_
    refine s_goto (tgt := 225) dX8_init_319 (by decide) ?_
    rw [show 8 * m + 8 = 8 * (m + 1) from by omega]
    exact ih (m + 1) (by omega)
set_option maxHeartbeats 4000000 in
set_option maxRecDepth 100000 in
theorem l_foI {Z : zS} {d : Nat} {w0 : zW} {N : Nat} {Q : List Value → zW → Prop} (hn : w0.length = 41) {fo nu sz : Nat → Int32} {b : Nat} (hb : b < 256) : ∀ (r i a : Nat), i + r = 48 → a < 256 → zG Z M_X8_init (d + 1) Q N 373 [(0, .ref 41), (1, .int (nI (cnB b))), (2, .int (nI b)), (3, .int (nI (pFORL b r i a))), (4, .int (nI 48))] [] (w0 ++ wM0 (cmF 384) fo nu sz) → zG Z M_X8_init (d + 1) Q N 338 [(0, .ref 41), (1, .int (nI (cnB b))), (2, .int (nI b)), (3, .int (nI a)), (4, .int (nI i))] [] (w0 ++ wM0 (cmF 384) fo nu sz) := by
  intro r
  induction r with
  | zero =>
    intro i a hi ha K
    have hi : i = 48 := by omega
    subst hi
    refine s_iload dX8_init_338 rfl ?_
    refine s_bipush (v := 48) dX8_init_340 rfl ?_
    refine s_icmp_ge (tgt := 373) dX8_init_342 (by decide) (fun hz => ?_) (fun hqz => absurd (by decide) hqz)
    clear hz
    exact K
  | succ r ih =>
    intro i a hi ha K
    have h48 : i < 48 := by omega
    have hp := pIMG_lt h48 b
    refine s_iload dX8_init_338 rfl ?_
    refine s_bipush (v := 48) dX8_init_340 rfl ?_
    refine s_icmp_ge (tgt := 373) dX8_init_342 (by decide) (fun hqz => absurd hqz (nI_ge h48 (by decide))) (fun hz => ?_)
    clear hz
    refine s_aload_n dX8_init_345 rfl ?_
    refine s_iload_n dX8_init_346 rfl ?_
    refine s_iload dX8_init_347 rfl ?_
    refine s_cv1 dX8_init_349 g_X8_81 (c_X8_imageOf ((zatm hn _ 0).trans rfl) ((zatm hn _ 1).trans rfl) cmF_ok h48 hb) (by first | exact (zatm hn _ 0).trans rfl | exact (zatm hn _ 1).trans rfl | exact (zatm hn _ 2).trans rfl | exact (zatm hn _ 3).trans rfl | exact (zatm hn _ 4).trans rfl | exact (zatm hn _ 5).trans rfl | exact (zatm hn _ 19).trans rfl) rfl rfl rfl rfl (Nat.le_of_ble_eq_true rfl) (Nat.le_of_ble_eq_true rfl) rfl ?_
    refine s_istore dX8_init_352 (Nat.le_of_ble_eq_true rfl) rfl ?_
    refine s_iload dX8_init_354 rfl ?_
    refine s_iload_n dX8_init_356 rfl ?_
    refine s_icmp_ge (tgt := 365) dX8_init_357 (by decide) (fun h_357 => ?_) (fun h_357 => ?_)
    · refine s_iload_n dX8_init_365 rfl ?_
      refine s_istore_n dX8_init_366 (Nat.le_of_ble_eq_true rfl) rfl ?_
      refine s_iinc (nI (i + 1)) dX8_init_367 rfl (nI_1 _) (Nat.le_of_ble_eq_true rfl) rfl ?_
      refine s_goto (tgt := 338) dX8_init_370 (by decide) ?_
      refine s_take 5 ?_
      first
        | (have hz : ¬ pIMG i b < a := fun z => nI_ge z (by omega) h_357
           rw [show pFORL b (r + 1) i a = pFORL b r (i + 1) a from by rw [pFORL, if_neg hz]] at K
           exact ih (i + 1) a (by omega) ha K)
        | (have hz : pIMG i b < a := by
             rcases Nat.lt_or_ge (pIMG i b) a with z | z
             · exact z
             · exact absurd (nI_le z (by omega)) h_357
           rw [show pFORL b (r + 1) i a = pFORL b r (i + 1) (pIMG i b) from by rw [pFORL, if_pos hz]] at K
           exact ih (i + 1) (pIMG i b) (by omega) hp K)
    · refine s_iload dX8_init_360 rfl ?_
      refine s_goto (tgt := 366) dX8_init_362 (by decide) ?_
      refine s_istore_n dX8_init_366 (Nat.le_of_ble_eq_true rfl) rfl ?_
      refine s_iinc (nI (i + 1)) dX8_init_367 rfl (nI_1 _) (Nat.le_of_ble_eq_true rfl) rfl ?_
      refine s_goto (tgt := 338) dX8_init_370 (by decide) ?_
      refine s_take 5 ?_
      first
        | (have hz : ¬ pIMG i b < a := fun z => nI_ge z (by omega) h_357
           rw [show pFORL b (r + 1) i a = pFORL b r (i + 1) a from by rw [pFORL, if_neg hz]] at K
           exact ih (i + 1) a (by omega) ha K)
        | (have hz : pIMG i b < a := by
             rcases Nat.lt_or_ge (pIMG i b) a with z | z
             · exact z
             · exact absurd (nI_le z (by omega)) h_357
           rw [show pFORL b (r + 1) i a = pFORL b r (i + 1) (pIMG i b) from by rw [pFORL, if_pos hz]] at K
           exact ih (i + 1) (pIMG i b) (by omega) hp K)
set_option maxHeartbeats 4000000 in
set_option maxRecDepth 100000 in
theorem l_foO {Z : zS} {d : Nat} {w0 : zW} {N : Nat} {Q : List Value → zW → Prop} (hn : w0.length = 41) {sz : Nat → Int32} (K : zG Z M_X8_init (d + 1) Q N 420 [(0, .ref 41), (1, .int (nI (cnB 256))), (2, .int (nI 256))] [] (w0 ++ wM0 (cmF 384) (foF 256) (nuF 256) sz)) : ∀ (r b : Nat), b + r = 256 → zG Z M_X8_init (d + 1) Q N 326 [(0, .ref 41), (1, .int (nI (cnB b))), (2, .int (nI b))] [] (w0 ++ wM0 (cmF 384) (foF b) (nuF b) sz) := by
  intro r
  induction r with
  | zero =>
    intro b hi
    have hi : b = 256 := by omega
    subst hi
    refine s_iload_n dX8_init_326 rfl ?_
    refine s_sipush (v := 256) dX8_init_327 rfl ?_
    refine s_icmp_ge (tgt := 420) dX8_init_330 (by decide) (fun hz => ?_) (fun hqz => absurd (by decide) hqz)
    clear hz
    exact K
  | succ r ih =>
    intro b hi
    have hb : b < 256 := by omega
    have hf : pFOR b ≤ b := pFORL_le b 48 0 b
    refine s_iload_n dX8_init_326 rfl ?_
    refine s_sipush (v := 256) dX8_init_327 rfl ?_
    refine s_icmp_ge (tgt := 420) dX8_init_330 (by decide) (fun hqz => absurd hqz (nI_ge hb (by decide))) (fun hz => ?_)
    clear hz
    refine s_iload_n dX8_init_333 rfl ?_
    refine s_istore_n dX8_init_334 (Nat.le_of_ble_eq_true rfl) rfl ?_
    refine s_iconst (v := 0) dX8_init_335 rfl ?_
    refine s_istore dX8_init_336 (Nat.le_of_ble_eq_true rfl) rfl ?_
    refine l_foI hn hb 48 0 b rfl hb ?_
    show zG Z M_X8_init (d + 1) Q N 373 [(0, .ref 41), (1, .int (nI (cnB b))), (2, .int (nI b)), (3, .int (nI (pFOR b))), (4, .int (nI 48))] [] (w0 ++ wM0 (cmF 384) (foF b) (nuF b) sz)
    by_cases hE : pFOR b = b
    · skip
      refine s_aload_n dX8_init_373 rfl ?_
      refine s_get dX8_init_374 f_X8_19 (by first | exact (zatm hn _ 0).trans rfl | exact (zatm hn _ 1).trans rfl | exact (zatm hn _ 2).trans rfl | exact (zatm hn _ 3).trans rfl | exact (zatm hn _ 4).trans rfl | exact (zatm hn _ 5).trans rfl | exact (zatm hn _ 19).trans rfl) (by rfl) ?_
      refine s_iload_n dX8_init_377 rfl ?_
      refine s_iload_n dX8_init_378 rfl ?_
      refine s_iast dX8_init_379 (by first | exact (zatm hn _ 0).trans rfl | exact (zatm hn _ 1).trans rfl | exact (zatm hn _ 2).trans rfl | exact (zatm hn _ 3).trans rfl | exact (zatm hn _ 4).trans rfl | exact (zatm hn _ 5).trans rfl | exact (zatm hn _ 19).trans rfl) (zrd hb (by decide)) ?_
      rw [nI_clamp (by omega), show (w0 ++ wM0 (cmF 384) (foF b) (nuF b) sz).set 43 (aI 256 (upd (foF b) b (nI (pFOR b)))) = (w0 ++ wM0 (cmF 384) (foF (b + 1)) (nuF b) sz) from (zsetm hn _ 2 _).trans rfl]
      refine s_aload_n dX8_init_380 rfl ?_
      refine s_get dX8_init_381 f_X8_22 (by first | exact (zatm hn _ 0).trans rfl | exact (zatm hn _ 1).trans rfl | exact (zatm hn _ 2).trans rfl | exact (zatm hn _ 3).trans rfl | exact (zatm hn _ 4).trans rfl | exact (zatm hn _ 5).trans rfl | exact (zatm hn _ 19).trans rfl) (by rfl) ?_
      refine s_iload_n dX8_init_384 rfl ?_
      refine s_iload_n dX8_init_385 rfl ?_
      refine s_iload_n dX8_init_386 rfl ?_
      refine s_icmp_ne (tgt := 394) dX8_init_387 (by decide) (fun hqz => absurd (by rw [hE]) hqz) (fun hz => ?_)
      clear hz
      refine s_iload_n dX8_init_390 rfl ?_
      refine s_goto (tgt := 400) dX8_init_391 (by decide) ?_
      refine s_iast dX8_init_400 (by first | exact (zatm hn _ 0).trans rfl | exact (zatm hn _ 1).trans rfl | exact (zatm hn _ 2).trans rfl | exact (zatm hn _ 3).trans rfl | exact (zatm hn _ 4).trans rfl | exact (zatm hn _ 5).trans rfl | exact (zatm hn _ 19).trans rfl) (zrd hb (by decide)) ?_
      rw [nI_clamp (by omega), show (w0 ++ wM0 (cmF 384) (foF (b + 1)) (nuF b) sz).set 44 (aI 256 (upd (nuF b) b (nI (cnB b)))) = (w0 ++ wM0 (cmF 384) (foF (b + 1)) (nuF (b + 1)) sz) from (zsetm hn _ 3 _).trans (by rw [cn_eq hb hE]; rfl)]
      refine s_iload_n dX8_init_401 rfl ?_
      refine s_iload_n dX8_init_402 rfl ?_
      refine s_iload_n dX8_init_403 rfl ?_
      refine s_icmp_ne (tgt := 411) dX8_init_404 (by decide) (fun hqz => absurd (by rw [hE]) hqz) (fun hz => ?_)
      clear hz
      refine s_iconst (v := 1) dX8_init_407 rfl ?_
      refine s_goto (tgt := 412) dX8_init_408 (by decide) ?_
      refine s_iadd dX8_init_412 ?_
      refine s_istore_n dX8_init_413 (Nat.le_of_ble_eq_true rfl) rfl ?_
      refine s_iinc (nI (b + 1)) dX8_init_414 rfl (nI_1 _) (Nat.le_of_ble_eq_true rfl) rfl ?_
      refine s_goto (tgt := 326) dX8_init_417 (by decide) ?_
      refine s_take 3 ?_
      rw [nI_1, show cnB b + 1 = cnB (b + 1) from by rw [cn_s hb, if_pos hE]]
      exact ih (b + 1) (by omega)
    · have hlt : pFOR b < b := by omega
      refine s_aload_n dX8_init_373 rfl ?_
      refine s_get dX8_init_374 f_X8_19 (by first | exact (zatm hn _ 0).trans rfl | exact (zatm hn _ 1).trans rfl | exact (zatm hn _ 2).trans rfl | exact (zatm hn _ 3).trans rfl | exact (zatm hn _ 4).trans rfl | exact (zatm hn _ 5).trans rfl | exact (zatm hn _ 19).trans rfl) (by rfl) ?_
      refine s_iload_n dX8_init_377 rfl ?_
      refine s_iload_n dX8_init_378 rfl ?_
      refine s_iast dX8_init_379 (by first | exact (zatm hn _ 0).trans rfl | exact (zatm hn _ 1).trans rfl | exact (zatm hn _ 2).trans rfl | exact (zatm hn _ 3).trans rfl | exact (zatm hn _ 4).trans rfl | exact (zatm hn _ 5).trans rfl | exact (zatm hn _ 19).trans rfl) (zrd hb (by decide)) ?_
      rw [nI_clamp (by omega), show (w0 ++ wM0 (cmF 384) (foF b) (nuF b) sz).set 43 (aI 256 (upd (foF b) b (nI (pFOR b)))) = (w0 ++ wM0 (cmF 384) (foF (b + 1)) (nuF b) sz) from (zsetm hn _ 2 _).trans rfl]
      refine s_aload_n dX8_init_380 rfl ?_
      refine s_get dX8_init_381 f_X8_22 (by first | exact (zatm hn _ 0).trans rfl | exact (zatm hn _ 1).trans rfl | exact (zatm hn _ 2).trans rfl | exact (zatm hn _ 3).trans rfl | exact (zatm hn _ 4).trans rfl | exact (zatm hn _ 5).trans rfl | exact (zatm hn _ 19).trans rfl) (by rfl) ?_
      refine s_iload_n dX8_init_384 rfl ?_
      refine s_iload_n dX8_init_385 rfl ?_
      refine s_iload_n dX8_init_386 rfl ?_
      refine s_icmp_ne (tgt := 394) dX8_init_387 (by decide) (fun hz => ?_) (fun hqz => absurd hqz (fun z => hE ((nI_eq (by omega) (by omega)).mp z)))
      clear hz
      refine s_aload_n dX8_init_394 rfl ?_
      refine s_get dX8_init_395 f_X8_22 (by first | exact (zatm hn _ 0).trans rfl | exact (zatm hn _ 1).trans rfl | exact (zatm hn _ 2).trans rfl | exact (zatm hn _ 3).trans rfl | exact (zatm hn _ 4).trans rfl | exact (zatm hn _ 5).trans rfl | exact (zatm hn _ 19).trans rfl) (by rfl) ?_
      refine s_iload_n dX8_init_398 rfl ?_
      refine s_iald dX8_init_399 (by first | exact (zatm hn _ 0).trans rfl | exact (zatm hn _ 1).trans rfl | exact (zatm hn _ 2).trans rfl | exact (zatm hn _ 3).trans rfl | exact (zatm hn _ 4).trans rfl | exact (zatm hn _ 5).trans rfl | exact (zatm hn _ 19).trans rfl) (zrd (show pFOR b < 256 from pFOR_lt hb) (by decide)) ?_
      rw [nI_clamp (by omega), nuF_val b (pFOR b) (by omega), cn_ne hb]
      refine s_iast dX8_init_400 (by first | exact (zatm hn _ 0).trans rfl | exact (zatm hn _ 1).trans rfl | exact (zatm hn _ 2).trans rfl | exact (zatm hn _ 3).trans rfl | exact (zatm hn _ 4).trans rfl | exact (zatm hn _ 5).trans rfl | exact (zatm hn _ 19).trans rfl) (zrd hb (by decide)) ?_
      rw [nI_clamp (by omega), show (w0 ++ wM0 (cmF 384) (foF (b + 1)) (nuF b) sz).set 44 (aI 256 (upd (nuF b) b (nI (pNUM b)))) = (w0 ++ wM0 (cmF 384) (foF (b + 1)) (nuF (b + 1)) sz) from (zsetm hn _ 3 _).trans rfl]
      refine s_iload_n dX8_init_401 rfl ?_
      refine s_iload_n dX8_init_402 rfl ?_
      refine s_iload_n dX8_init_403 rfl ?_
      refine s_icmp_ne (tgt := 411) dX8_init_404 (by decide) (fun hz => ?_) (fun hqz => absurd hqz (fun z => hE ((nI_eq (by omega) (by omega)).mp z)))
      clear hz
      refine s_iconst (v := 0) dX8_init_411 rfl ?_
      refine s_iadd dX8_init_412 ?_
      refine s_istore_n dX8_init_413 (Nat.le_of_ble_eq_true rfl) rfl ?_
      refine s_iinc (nI (b + 1)) dX8_init_414 rfl (nI_1 _) (Nat.le_of_ble_eq_true rfl) rfl ?_
      refine s_goto (tgt := 326) dX8_init_417 (by decide) ?_
      refine s_take 3 ?_
      rw [Int32.add_zero, show cnB b = cnB (b + 1) from by rw [cn_s hb, if_neg hE]]
      exact ih (b + 1) (by omega)
set_option maxHeartbeats 4000000 in
set_option maxRecDepth 100000 in
theorem l_szI {Z : zS} {d : Nat} {w0 : zW} {N : Nat} {Q : List Value → zW → Prop} (hn : w0.length = 41) {cm fo nu : Nat → Int32} {x : Int32} (hN : N + 21 = 63) (hQ : Q [] (w0 ++ wM0 cm fo nu (szF 6))) : ∀ (r t : Nat), t + r = 6 → zG Z M_X8_init (d + 1) Q N 422 [(0, .ref 41), (1, .int x), (2, .int (nI t))] [] (w0 ++ wM0 cm fo nu (szF t)) := by
  intro r
  induction r with
  | zero =>
    intro t hi
    have hi : t = 6 := by omega
    subst hi
    refine s_iload_n dX8_init_422 rfl ?_
    refine s_bipush (v := 6) dX8_init_423 rfl ?_
    refine s_icmp_ge (tgt := 441) dX8_init_425 (by decide) (fun hz => ?_) (fun hqz => absurd (by decide) hqz)
    clear hz
    exact s_vret dX8_init_441 rfl hQ (by rw [zlen hn]; exact hN.symm)
  | succ r ih =>
    intro t hi
    have h6 : t < 6 := by omega
    refine s_iload_n dX8_init_422 rfl ?_
    refine s_bipush (v := 6) dX8_init_423 rfl ?_
    refine s_icmp_ge (tgt := 441) dX8_init_425 (by decide) (fun hqz => absurd hqz (nI_ge h6 (by decide))) (fun hz => ?_)
    clear hz
    refine s_aload_n dX8_init_428 rfl ?_
    refine s_get dX8_init_429 f_X8_71 (by first | exact (zatm hn _ 0).trans rfl | exact (zatm hn _ 1).trans rfl | exact (zatm hn _ 2).trans rfl | exact (zatm hn _ 3).trans rfl | exact (zatm hn _ 4).trans rfl | exact (zatm hn _ 5).trans rfl | exact (zatm hn _ 19).trans rfl) (by rfl) ?_
    refine s_iload_n dX8_init_432 rfl ?_
    refine s_iconst (v := (-1)) dX8_init_433 rfl ?_
    refine s_iast dX8_init_434 (by first | exact (zatm hn _ 0).trans rfl | exact (zatm hn _ 1).trans rfl | exact (zatm hn _ 2).trans rfl | exact (zatm hn _ 3).trans rfl | exact (zatm hn _ 4).trans rfl | exact (zatm hn _ 5).trans rfl | exact (zatm hn _ 19).trans rfl) (zrd h6 (by decide)) ?_
    rw [nI_clamp (by omega), show (w0 ++ wM0 cm fo nu (szF t)).set 60 (aI 6 (upd (szF t) t (-1))) = (w0 ++ wM0 cm fo nu (szF (t + 1))) from (zsetm hn _ 19 _).trans rfl]
    refine s_iinc (nI (t + 1)) dX8_init_435 rfl (nI_1 _) (Nat.le_of_ble_eq_true rfl) rfl ?_
    refine s_goto (tgt := 422) dX8_init_438 (by decide) ?_
    exact ih (t + 1) (by omega)
set_option maxHeartbeats 4000000 in
set_option maxRecDepth 100000 in
theorem c_X8_init {Z : zS} {d : Nat} {w0 : zW} (hn : w0.length = 41) (hc : zclw (w0 ++ [.inr (6, zdef 6)])) : zF Z M_X8_init (d + 1) [.ref 41] (w0 ++ [.inr (6, zdef 6)]) [] (w0 ++ wM0 (cmF 384) (foF 256) (nuF 256) (szF 6)) := by
  unfold zF
  rw [zlen hn]
  show zG Z M_X8_init (d + 1) _ (41 + 1) 0 [(0, .ref 41)] [] (w0 ++ [.inr (6, [.null, .null, .null, .null, .null, .null, .null, .int 0, .int 0, .null, .null, .null, .int 0, .int 0, .int 0, .null, .null, .int 0, .null, .null, .null, .null, .int 0, .int 0, .null, .int 0, .int 0, .int 0, .null, .null, .null, .null])])
  have hc : zclw (w0 ++ [.inr (6, [.null, .null, .null, .null, .null, .null, .null, .int 0, .int 0, .null, .null, .null, .int 0, .int 0, .int 0, .null, .null, .int 0, .null, .null, .null, .null, .int 0, .int 0, .null, .int 0, .int 0, .int 0, .null, .null, .null, .null])]) := hc
  refine s_aload_n dX8_init_0 rfl ?_
  refine s_objInit dX8_init_1 (zin 664 (by decide +kernel) (by decide +kernel)) (zin 79 (by decide +kernel) (by decide +kernel)) (zin 80 (by decide +kernel) (by decide +kernel)) (Nat.le_of_ble_eq_true rfl) ?_
  refine s_aload_n dX8_init_4 rfl ?_
  refine s_sipush (v := 384) dX8_init_5 rfl ?_
  refine t_newaI 384 (q := 42) (T' := [.inr (6, [.null, .null, .null, .null, .null, .null, .null, .int 0, .int 0, .null, .null, .null, .int 0, .int 0, .int 0, .null, .null, .int 0, .null, .null, .null, .null, .int 0, .int 0, .null, .int 0, .int 0, .int 0, .null, .null, .null, .null]), aI 384 (fun _ => 0)]) hn (by rfl) dX8_init_8 (zin 104 (by decide +kernel) (by decide +kernel)) (by decide) (by decide) (by decide) (show 41 + 1 + 1 ≤ 41 + 1 + 21 by omega) (by rfl) hc (by simp [zrs, zrl]) (by simp [zrs, zrl]) (fun hc => ?_)
  refine t_putF (i := 0) (T' := [.inr (6, [.ref 42, .null, .null, .null, .null, .null, .null, .int 0, .int 0, .null, .null, .null, .int 0, .int 0, .int 0, .null, .null, .int 0, .null, .null, .null, .null, .int 0, .int 0, .null, .int 0, .int 0, .int 0, .null, .null, .null, .null]), aI 384 (fun _ => 0)]) hn (by rfl) dX8_init_10 f_X8_15 rfl (fun _ h => by cases h; rfl) (by rfl) (fun _ => ⟨rfl, rfl⟩) (Nat.le_of_ble_eq_true rfl) (fun _ h => by cases h; exact (zin 669 (by decide +kernel) (by decide +kernel))) (by rfl) hc (by simp [zrs, zrl]) (fun hc => ?_)
  refine s_aload_n dX8_init_13 rfl ?_
  refine s_sipush (v := 256) dX8_init_14 rfl ?_
  refine t_newaI 256 (q := 43) (T' := [.inr (6, [.ref 42, .null, .null, .null, .null, .null, .null, .int 0, .int 0, .null, .null, .null, .int 0, .int 0, .int 0, .null, .null, .int 0, .null, .null, .null, .null, .int 0, .int 0, .null, .int 0, .int 0, .int 0, .null, .null, .null, .null]), aI 384 (fun _ => 0), aI 256 (fun _ => 0)]) hn (by rfl) dX8_init_17 (zin 104 (by decide +kernel) (by decide +kernel)) (by decide) (by decide) (by decide) (show 41 + 2 + 1 ≤ 41 + 1 + 21 by omega) (by rfl) hc (by simp [zrs, zrl]) (by simp [zrs, zrl]) (fun hc => ?_)
  refine t_putF (i := 0) (T' := [.inr (6, [.ref 42, .ref 43, .null, .null, .null, .null, .null, .int 0, .int 0, .null, .null, .null, .int 0, .int 0, .int 0, .null, .null, .int 0, .null, .null, .null, .null, .int 0, .int 0, .null, .int 0, .int 0, .int 0, .null, .null, .null, .null]), aI 384 (fun _ => 0), aI 256 (fun _ => 0)]) hn (by rfl) dX8_init_19 f_X8_19 rfl (fun _ h => by cases h; rfl) (by rfl) (fun _ => ⟨rfl, rfl⟩) (Nat.le_of_ble_eq_true rfl) (fun _ h => by cases h; exact (zin 670 (by decide +kernel) (by decide +kernel))) (by rfl) hc (by simp [zrs, zrl]) (fun hc => ?_)
  refine s_aload_n dX8_init_22 rfl ?_
  refine s_sipush (v := 256) dX8_init_23 rfl ?_
  refine t_newaI 256 (q := 44) (T' := [.inr (6, [.ref 42, .ref 43, .null, .null, .null, .null, .null, .int 0, .int 0, .null, .null, .null, .int 0, .int 0, .int 0, .null, .null, .int 0, .null, .null, .null, .null, .int 0, .int 0, .null, .int 0, .int 0, .int 0, .null, .null, .null, .null]), aI 384 (fun _ => 0), aI 256 (fun _ => 0), aI 256 (fun _ => 0)]) hn (by rfl) dX8_init_26 (zin 104 (by decide +kernel) (by decide +kernel)) (by decide) (by decide) (by decide) (show 41 + 3 + 1 ≤ 41 + 1 + 21 by omega) (by rfl) hc (by simp [zrs, zrl]) (by simp [zrs, zrl]) (fun hc => ?_)
  refine t_putF (i := 0) (T' := [.inr (6, [.ref 42, .ref 43, .ref 44, .null, .null, .null, .null, .int 0, .int 0, .null, .null, .null, .int 0, .int 0, .int 0, .null, .null, .int 0, .null, .null, .null, .null, .int 0, .int 0, .null, .int 0, .int 0, .int 0, .null, .null, .null, .null]), aI 384 (fun _ => 0), aI 256 (fun _ => 0), aI 256 (fun _ => 0)]) hn (by rfl) dX8_init_28 f_X8_22 rfl (fun _ h => by cases h; rfl) (by rfl) (fun _ => ⟨rfl, rfl⟩) (Nat.le_of_ble_eq_true rfl) (fun _ h => by cases h; exact (zin 671 (by decide +kernel) (by decide +kernel))) (by rfl) hc (by simp [zrs, zrl]) (fun hc => ?_)
  refine s_aload_n dX8_init_31 rfl ?_
  refine s_bipush (v := 6) dX8_init_32 rfl ?_
  refine t_newaI 6 (q := 45) (T' := [.inr (6, [.ref 42, .ref 43, .ref 44, .null, .null, .null, .null, .int 0, .int 0, .null, .null, .null, .int 0, .int 0, .int 0, .null, .null, .int 0, .null, .null, .null, .null, .int 0, .int 0, .null, .int 0, .int 0, .int 0, .null, .null, .null, .null]), aI 384 (fun _ => 0), aI 256 (fun _ => 0), aI 256 (fun _ => 0), aI 6 (fun _ => 0)]) hn (by rfl) dX8_init_34 (zin 104 (by decide +kernel) (by decide +kernel)) (by decide) (by decide) (by decide) (show 41 + 4 + 1 ≤ 41 + 1 + 21 by omega) (by rfl) hc (by simp [zrs, zrl]) (by simp [zrs, zrl]) (fun hc => ?_)
  refine s_dup dX8_init_36 rfl ?_
  refine s_iconst (v := 0) dX8_init_37 rfl ?_
  refine s_iconst (v := 0) dX8_init_38 rfl ?_
  refine t_iast (i := 4) (T' := [.inr (6, [.ref 42, .ref 43, .ref 44, .null, .null, .null, .null, .int 0, .int 0, .null, .null, .null, .int 0, .int 0, .int 0, .null, .null, .int 0, .null, .null, .null, .null, .int 0, .int 0, .null, .int 0, .int 0, .int 0, .null, .null, .null, .null]), aI 384 (fun _ => 0), aI 256 (fun _ => 0), aI 256 (fun _ => 0), aI 6 (upd (fun _ => 0) 0 0)]) hn (by rfl) dX8_init_39 (by rfl) (by unfold vp_in; decide) (by rfl) hc (fun hc => ?_)
  refine s_dup dX8_init_40 rfl ?_
  refine s_iconst (v := 1) dX8_init_41 rfl ?_
  refine s_iconst (v := 0) dX8_init_42 rfl ?_
  refine t_iast (i := 4) (T' := [.inr (6, [.ref 42, .ref 43, .ref 44, .null, .null, .null, .null, .int 0, .int 0, .null, .null, .null, .int 0, .int 0, .int 0, .null, .null, .int 0, .null, .null, .null, .null, .int 0, .int 0, .null, .int 0, .int 0, .int 0, .null, .null, .null, .null]), aI 384 (fun _ => 0), aI 256 (fun _ => 0), aI 256 (fun _ => 0), aI 6 (upd (upd (fun _ => 0) 0 0) 1 0)]) hn (by rfl) dX8_init_43 (by rfl) (by unfold vp_in; decide) (by rfl) hc (fun hc => ?_)
  refine s_dup dX8_init_44 rfl ?_
  refine s_iconst (v := 2) dX8_init_45 rfl ?_
  refine s_iconst (v := 1) dX8_init_46 rfl ?_
  refine t_iast (i := 4) (T' := [.inr (6, [.ref 42, .ref 43, .ref 44, .null, .null, .null, .null, .int 0, .int 0, .null, .null, .null, .int 0, .int 0, .int 0, .null, .null, .int 0, .null, .null, .null, .null, .int 0, .int 0, .null, .int 0, .int 0, .int 0, .null, .null, .null, .null]), aI 384 (fun _ => 0), aI 256 (fun _ => 0), aI 256 (fun _ => 0), aI 6 (upd (upd (upd (fun _ => 0) 0 0) 1 0) 2 1)]) hn (by rfl) dX8_init_47 (by rfl) (by unfold vp_in; decide) (by rfl) hc (fun hc => ?_)
  refine s_dup dX8_init_48 rfl ?_
  refine s_iconst (v := 3) dX8_init_49 rfl ?_
  refine s_iconst (v := 1) dX8_init_50 rfl ?_
  refine t_iast (i := 4) (T' := [.inr (6, [.ref 42, .ref 43, .ref 44, .null, .null, .null, .null, .int 0, .int 0, .null, .null, .null, .int 0, .int 0, .int 0, .null, .null, .int 0, .null, .null, .null, .null, .int 0, .int 0, .null, .int 0, .int 0, .int 0, .null, .null, .null, .null]), aI 384 (fun _ => 0), aI 256 (fun _ => 0), aI 256 (fun _ => 0), aI 6 (upd (upd (upd (upd (fun _ => 0) 0 0) 1 0) 2 1) 3 1)]) hn (by rfl) dX8_init_51 (by rfl) (by unfold vp_in; decide) (by rfl) hc (fun hc => ?_)
  refine s_dup dX8_init_52 rfl ?_
  refine s_iconst (v := 4) dX8_init_53 rfl ?_
  refine s_iconst (v := 2) dX8_init_54 rfl ?_
  refine t_iast (i := 4) (T' := [.inr (6, [.ref 42, .ref 43, .ref 44, .null, .null, .null, .null, .int 0, .int 0, .null, .null, .null, .int 0, .int 0, .int 0, .null, .null, .int 0, .null, .null, .null, .null, .int 0, .int 0, .null, .int 0, .int 0, .int 0, .null, .null, .null, .null]), aI 384 (fun _ => 0), aI 256 (fun _ => 0), aI 256 (fun _ => 0), aI 6 (upd (upd (upd (upd (upd (fun _ => 0) 0 0) 1 0) 2 1) 3 1) 4 2)]) hn (by rfl) dX8_init_55 (by rfl) (by unfold vp_in; decide) (by rfl) hc (fun hc => ?_)
  refine s_dup dX8_init_56 rfl ?_
  refine s_iconst (v := 5) dX8_init_57 rfl ?_
  refine s_iconst (v := 2) dX8_init_58 rfl ?_
  refine t_iast (i := 4) (T' := [.inr (6, [.ref 42, .ref 43, .ref 44, .null, .null, .null, .null, .int 0, .int 0, .null, .null, .null, .int 0, .int 0, .int 0, .null, .null, .int 0, .null, .null, .null, .null, .int 0, .int 0, .null, .int 0, .int 0, .int 0, .null, .null, .null, .null]), aI 384 (fun _ => 0), aI 256 (fun _ => 0), aI 256 (fun _ => 0), aI 6 (upd (upd (upd (upd (upd (upd (fun _ => 0) 0 0) 1 0) 2 1) 3 1) 4 2) 5 2)]) hn (by rfl) dX8_init_59 (by rfl) (by unfold vp_in; decide) (by rfl) hc (fun hc => ?_)
  refine t_putF (i := 0) (T' := [.inr (6, [.ref 42, .ref 43, .ref 44, .ref 45, .null, .null, .null, .int 0, .int 0, .null, .null, .null, .int 0, .int 0, .int 0, .null, .null, .int 0, .null, .null, .null, .null, .int 0, .int 0, .null, .int 0, .int 0, .int 0, .null, .null, .null, .null]), aI 384 (fun _ => 0), aI 256 (fun _ => 0), aI 256 (fun _ => 0), aI 6 (upd (upd (upd (upd (upd (upd (fun _ => 0) 0 0) 1 0) 2 1) 3 1) 4 2) 5 2)]) hn (by rfl) dX8_init_60 f_X8_25 rfl (fun _ h => by cases h; rfl) (by rfl) (fun _ => ⟨rfl, rfl⟩) (Nat.le_of_ble_eq_true rfl) (fun _ h => by cases h; exact (zin 672 (by decide +kernel) (by decide +kernel))) (by rfl) hc (by simp [zrs, zrl]) (fun hc => ?_)
  refine s_aload_n dX8_init_63 rfl ?_
  refine s_bipush (v := 6) dX8_init_64 rfl ?_
  refine t_newaI 6 (q := 46) (T' := [.inr (6, [.ref 42, .ref 43, .ref 44, .ref 45, .null, .null, .null, .int 0, .int 0, .null, .null, .null, .int 0, .int 0, .int 0, .null, .null, .int 0, .null, .null, .null, .null, .int 0, .int 0, .null, .int 0, .int 0, .int 0, .null, .null, .null, .null]), aI 384 (fun _ => 0), aI 256 (fun _ => 0), aI 256 (fun _ => 0), aI 6 (upd (upd (upd (upd (upd (upd (fun _ => 0) 0 0) 1 0) 2 1) 3 1) 4 2) 5 2), aI 6 (fun _ => 0)]) hn (by rfl) dX8_init_66 (zin 104 (by decide +kernel) (by decide +kernel)) (by decide) (by decide) (by decide) (show 41 + 5 + 1 ≤ 41 + 1 + 21 by omega) (by rfl) hc (by simp [zrs, zrl]) (by simp [zrs, zrl]) (fun hc => ?_)
  refine s_dup dX8_init_68 rfl ?_
  refine s_iconst (v := 0) dX8_init_69 rfl ?_
  refine s_iconst (v := 1) dX8_init_70 rfl ?_
  refine t_iast (i := 5) (T' := [.inr (6, [.ref 42, .ref 43, .ref 44, .ref 45, .null, .null, .null, .int 0, .int 0, .null, .null, .null, .int 0, .int 0, .int 0, .null, .null, .int 0, .null, .null, .null, .null, .int 0, .int 0, .null, .int 0, .int 0, .int 0, .null, .null, .null, .null]), aI 384 (fun _ => 0), aI 256 (fun _ => 0), aI 256 (fun _ => 0), aI 6 (upd (upd (upd (upd (upd (upd (fun _ => 0) 0 0) 1 0) 2 1) 3 1) 4 2) 5 2), aI 6 (upd (fun _ => 0) 0 1)]) hn (by rfl) dX8_init_71 (by rfl) (by unfold vp_in; decide) (by rfl) hc (fun hc => ?_)
  refine s_dup dX8_init_72 rfl ?_
  refine s_iconst (v := 1) dX8_init_73 rfl ?_
  refine s_iconst (v := 2) dX8_init_74 rfl ?_
  refine t_iast (i := 5) (T' := [.inr (6, [.ref 42, .ref 43, .ref 44, .ref 45, .null, .null, .null, .int 0, .int 0, .null, .null, .null, .int 0, .int 0, .int 0, .null, .null, .int 0, .null, .null, .null, .null, .int 0, .int 0, .null, .int 0, .int 0, .int 0, .null, .null, .null, .null]), aI 384 (fun _ => 0), aI 256 (fun _ => 0), aI 256 (fun _ => 0), aI 6 (upd (upd (upd (upd (upd (upd (fun _ => 0) 0 0) 1 0) 2 1) 3 1) 4 2) 5 2), aI 6 (upd (upd (fun _ => 0) 0 1) 1 2)]) hn (by rfl) dX8_init_75 (by rfl) (by unfold vp_in; decide) (by rfl) hc (fun hc => ?_)
  refine s_dup dX8_init_76 rfl ?_
  refine s_iconst (v := 2) dX8_init_77 rfl ?_
  refine s_iconst (v := 0) dX8_init_78 rfl ?_
  refine t_iast (i := 5) (T' := [.inr (6, [.ref 42, .ref 43, .ref 44, .ref 45, .null, .null, .null, .int 0, .int 0, .null, .null, .null, .int 0, .int 0, .int 0, .null, .null, .int 0, .null, .null, .null, .null, .int 0, .int 0, .null, .int 0, .int 0, .int 0, .null, .null, .null, .null]), aI 384 (fun _ => 0), aI 256 (fun _ => 0), aI 256 (fun _ => 0), aI 6 (upd (upd (upd (upd (upd (upd (fun _ => 0) 0 0) 1 0) 2 1) 3 1) 4 2) 5 2), aI 6 (upd (upd (upd (fun _ => 0) 0 1) 1 2) 2 0)]) hn (by rfl) dX8_init_79 (by rfl) (by unfold vp_in; decide) (by rfl) hc (fun hc => ?_)
  refine s_dup dX8_init_80 rfl ?_
  refine s_iconst (v := 3) dX8_init_81 rfl ?_
  refine s_iconst (v := 2) dX8_init_82 rfl ?_
  refine t_iast (i := 5) (T' := [.inr (6, [.ref 42, .ref 43, .ref 44, .ref 45, .null, .null, .null, .int 0, .int 0, .null, .null, .null, .int 0, .int 0, .int 0, .null, .null, .int 0, .null, .null, .null, .null, .int 0, .int 0, .null, .int 0, .int 0, .int 0, .null, .null, .null, .null]), aI 384 (fun _ => 0), aI 256 (fun _ => 0), aI 256 (fun _ => 0), aI 6 (upd (upd (upd (upd (upd (upd (fun _ => 0) 0 0) 1 0) 2 1) 3 1) 4 2) 5 2), aI 6 (upd (upd (upd (upd (fun _ => 0) 0 1) 1 2) 2 0) 3 2)]) hn (by rfl) dX8_init_83 (by rfl) (by unfold vp_in; decide) (by rfl) hc (fun hc => ?_)
  refine s_dup dX8_init_84 rfl ?_
  refine s_iconst (v := 4) dX8_init_85 rfl ?_
  refine s_iconst (v := 0) dX8_init_86 rfl ?_
  refine t_iast (i := 5) (T' := [.inr (6, [.ref 42, .ref 43, .ref 44, .ref 45, .null, .null, .null, .int 0, .int 0, .null, .null, .null, .int 0, .int 0, .int 0, .null, .null, .int 0, .null, .null, .null, .null, .int 0, .int 0, .null, .int 0, .int 0, .int 0, .null, .null, .null, .null]), aI 384 (fun _ => 0), aI 256 (fun _ => 0), aI 256 (fun _ => 0), aI 6 (upd (upd (upd (upd (upd (upd (fun _ => 0) 0 0) 1 0) 2 1) 3 1) 4 2) 5 2), aI 6 (upd (upd (upd (upd (upd (fun _ => 0) 0 1) 1 2) 2 0) 3 2) 4 0)]) hn (by rfl) dX8_init_87 (by rfl) (by unfold vp_in; decide) (by rfl) hc (fun hc => ?_)
  refine s_dup dX8_init_88 rfl ?_
  refine s_iconst (v := 5) dX8_init_89 rfl ?_
  refine s_iconst (v := 1) dX8_init_90 rfl ?_
  refine t_iast (i := 5) (T' := [.inr (6, [.ref 42, .ref 43, .ref 44, .ref 45, .null, .null, .null, .int 0, .int 0, .null, .null, .null, .int 0, .int 0, .int 0, .null, .null, .int 0, .null, .null, .null, .null, .int 0, .int 0, .null, .int 0, .int 0, .int 0, .null, .null, .null, .null]), aI 384 (fun _ => 0), aI 256 (fun _ => 0), aI 256 (fun _ => 0), aI 6 (upd (upd (upd (upd (upd (upd (fun _ => 0) 0 0) 1 0) 2 1) 3 1) 4 2) 5 2), aI 6 (upd (upd (upd (upd (upd (upd (fun _ => 0) 0 1) 1 2) 2 0) 3 2) 4 0) 5 1)]) hn (by rfl) dX8_init_91 (by rfl) (by unfold vp_in; decide) (by rfl) hc (fun hc => ?_)
  refine t_putF (i := 0) (T' := [.inr (6, [.ref 42, .ref 43, .ref 44, .ref 45, .ref 46, .null, .null, .int 0, .int 0, .null, .null, .null, .int 0, .int 0, .int 0, .null, .null, .int 0, .null, .null, .null, .null, .int 0, .int 0, .null, .int 0, .int 0, .int 0, .null, .null, .null, .null]), aI 384 (fun _ => 0), aI 256 (fun _ => 0), aI 256 (fun _ => 0), aI 6 (upd (upd (upd (upd (upd (upd (fun _ => 0) 0 0) 1 0) 2 1) 3 1) 4 2) 5 2), aI 6 (upd (upd (upd (upd (upd (upd (fun _ => 0) 0 1) 1 2) 2 0) 3 2) 4 0) 5 1)]) hn (by rfl) dX8_init_92 f_X8_28 rfl (fun _ h => by cases h; rfl) (by rfl) (fun _ => ⟨rfl, rfl⟩) (Nat.le_of_ble_eq_true rfl) (fun _ h => by cases h; exact (zin 673 (by decide +kernel) (by decide +kernel))) (by rfl) hc (by simp [zrs, zrl]) (fun hc => ?_)
  refine s_aload_n dX8_init_95 rfl ?_
  refine s_sipush (v := 256) dX8_init_96 rfl ?_
  refine t_newaZ 256 (q := 47) (T' := [.inr (6, [.ref 42, .ref 43, .ref 44, .ref 45, .ref 46, .null, .null, .int 0, .int 0, .null, .null, .null, .int 0, .int 0, .int 0, .null, .null, .int 0, .null, .null, .null, .null, .int 0, .int 0, .null, .int 0, .int 0, .int 0, .null, .null, .null, .null]), aI 384 (fun _ => 0), aI 256 (fun _ => 0), aI 256 (fun _ => 0), aI 6 (upd (upd (upd (upd (upd (upd (fun _ => 0) 0 0) 1 0) 2 1) 3 1) 4 2) 5 2), aI 6 (upd (upd (upd (upd (upd (upd (fun _ => 0) 0 1) 1 2) 2 0) 3 2) 4 0) 5 1), aZ 256 (fun _ => 0)]) hn (by rfl) dX8_init_99 (zin 766 (by decide +kernel) (by decide +kernel)) (by decide) (by decide) (by decide) (show 41 + 6 + 1 ≤ 41 + 1 + 21 by omega) (by rfl) hc (by simp [zrs, zrl]) (by simp [zrs, zrl]) (fun hc => ?_)
  refine t_putF (i := 0) (T' := [.inr (6, [.ref 42, .ref 43, .ref 44, .ref 45, .ref 46, .ref 47, .null, .int 0, .int 0, .null, .null, .null, .int 0, .int 0, .int 0, .null, .null, .int 0, .null, .null, .null, .null, .int 0, .int 0, .null, .int 0, .int 0, .int 0, .null, .null, .null, .null]), aI 384 (fun _ => 0), aI 256 (fun _ => 0), aI 256 (fun _ => 0), aI 6 (upd (upd (upd (upd (upd (upd (fun _ => 0) 0 0) 1 0) 2 1) 3 1) 4 2) 5 2), aI 6 (upd (upd (upd (upd (upd (upd (fun _ => 0) 0 1) 1 2) 2 0) 3 2) 4 0) 5 1), aZ 256 (fun _ => 0)]) hn (by rfl) dX8_init_101 f_X8_31 rfl (fun _ h => by cases h; rfl) (by rfl) (fun _ => ⟨rfl, rfl⟩) (Nat.le_of_ble_eq_true rfl) (fun _ h => by cases h; exact (zin 674 (by decide +kernel) (by decide +kernel))) (by rfl) hc (by simp [zrs, zrl]) (fun hc => ?_)
  refine s_aload_n dX8_init_104 rfl ?_
  refine s_bipush (v := 24) dX8_init_105 rfl ?_
  refine t_newaI 24 (q := 48) (T' := [.inr (6, [.ref 42, .ref 43, .ref 44, .ref 45, .ref 46, .ref 47, .null, .int 0, .int 0, .null, .null, .null, .int 0, .int 0, .int 0, .null, .null, .int 0, .null, .null, .null, .null, .int 0, .int 0, .null, .int 0, .int 0, .int 0, .null, .null, .null, .null]), aI 384 (fun _ => 0), aI 256 (fun _ => 0), aI 256 (fun _ => 0), aI 6 (upd (upd (upd (upd (upd (upd (fun _ => 0) 0 0) 1 0) 2 1) 3 1) 4 2) 5 2), aI 6 (upd (upd (upd (upd (upd (upd (fun _ => 0) 0 1) 1 2) 2 0) 3 2) 4 0) 5 1), aZ 256 (fun _ => 0), aI 24 (fun _ => 0)]) hn (by rfl) dX8_init_107 (zin 104 (by decide +kernel) (by decide +kernel)) (by decide) (by decide) (by decide) (show 41 + 7 + 1 ≤ 41 + 1 + 21 by omega) (by rfl) hc (by simp [zrs, zrl]) (by simp [zrs, zrl]) (fun hc => ?_)
  refine t_putF (i := 0) (T' := [.inr (6, [.ref 42, .ref 43, .ref 44, .ref 45, .ref 46, .ref 47, .ref 48, .int 0, .int 0, .null, .null, .null, .int 0, .int 0, .int 0, .null, .null, .int 0, .null, .null, .null, .null, .int 0, .int 0, .null, .int 0, .int 0, .int 0, .null, .null, .null, .null]), aI 384 (fun _ => 0), aI 256 (fun _ => 0), aI 256 (fun _ => 0), aI 6 (upd (upd (upd (upd (upd (upd (fun _ => 0) 0 0) 1 0) 2 1) 3 1) 4 2) 5 2), aI 6 (upd (upd (upd (upd (upd (upd (fun _ => 0) 0 1) 1 2) 2 0) 3 2) 4 0) 5 1), aZ 256 (fun _ => 0), aI 24 (fun _ => 0)]) hn (by rfl) dX8_init_109 f_X8_35 rfl (fun _ h => by cases h; rfl) (by rfl) (fun _ => ⟨rfl, rfl⟩) (Nat.le_of_ble_eq_true rfl) (fun _ h => by cases h; exact (zin 675 (by decide +kernel) (by decide +kernel))) (by rfl) hc (by simp [zrs, zrl]) (fun hc => ?_)
  refine s_aload_n dX8_init_112 rfl ?_
  refine s_bipush (v := 100) dX8_init_113 rfl ?_
  refine t_newaI 100 (q := 49) (T' := [.inr (6, [.ref 42, .ref 43, .ref 44, .ref 45, .ref 46, .ref 47, .ref 48, .int 0, .int 0, .null, .null, .null, .int 0, .int 0, .int 0, .null, .null, .int 0, .null, .null, .null, .null, .int 0, .int 0, .null, .int 0, .int 0, .int 0, .null, .null, .null, .null]), aI 384 (fun _ => 0), aI 256 (fun _ => 0), aI 256 (fun _ => 0), aI 6 (upd (upd (upd (upd (upd (upd (fun _ => 0) 0 0) 1 0) 2 1) 3 1) 4 2) 5 2), aI 6 (upd (upd (upd (upd (upd (upd (fun _ => 0) 0 1) 1 2) 2 0) 3 2) 4 0) 5 1), aZ 256 (fun _ => 0), aI 24 (fun _ => 0), aI 100 (fun _ => 0)]) hn (by rfl) dX8_init_115 (zin 104 (by decide +kernel) (by decide +kernel)) (by decide) (by decide) (by decide) (show 41 + 8 + 1 ≤ 41 + 1 + 21 by omega) (by rfl) hc (by simp [zrs, zrl]) (by simp [zrs, zrl]) (fun hc => ?_)
  refine t_putF (i := 0) (T' := [.inr (6, [.ref 42, .ref 43, .ref 44, .ref 45, .ref 46, .ref 47, .ref 48, .int 0, .int 0, .ref 49, .null, .null, .int 0, .int 0, .int 0, .null, .null, .int 0, .null, .null, .null, .null, .int 0, .int 0, .null, .int 0, .int 0, .int 0, .null, .null, .null, .null]), aI 384 (fun _ => 0), aI 256 (fun _ => 0), aI 256 (fun _ => 0), aI 6 (upd (upd (upd (upd (upd (upd (fun _ => 0) 0 0) 1 0) 2 1) 3 1) 4 2) 5 2), aI 6 (upd (upd (upd (upd (upd (upd (fun _ => 0) 0 1) 1 2) 2 0) 3 2) 4 0) 5 1), aZ 256 (fun _ => 0), aI 24 (fun _ => 0), aI 100 (fun _ => 0)]) hn (by rfl) dX8_init_117 f_X8_38 rfl (fun _ h => by cases h; rfl) (by rfl) (fun _ => ⟨rfl, rfl⟩) (Nat.le_of_ble_eq_true rfl) (fun _ h => by cases h; exact (zin 678 (by decide +kernel) (by decide +kernel))) (by rfl) hc (by simp [zrs, zrl]) (fun hc => ?_)
  refine s_aload_n dX8_init_120 rfl ?_
  refine s_bipush (v := 12) dX8_init_121 rfl ?_
  refine t_newaI 12 (q := 50) (T' := [.inr (6, [.ref 42, .ref 43, .ref 44, .ref 45, .ref 46, .ref 47, .ref 48, .int 0, .int 0, .ref 49, .null, .null, .int 0, .int 0, .int 0, .null, .null, .int 0, .null, .null, .null, .null, .int 0, .int 0, .null, .int 0, .int 0, .int 0, .null, .null, .null, .null]), aI 384 (fun _ => 0), aI 256 (fun _ => 0), aI 256 (fun _ => 0), aI 6 (upd (upd (upd (upd (upd (upd (fun _ => 0) 0 0) 1 0) 2 1) 3 1) 4 2) 5 2), aI 6 (upd (upd (upd (upd (upd (upd (fun _ => 0) 0 1) 1 2) 2 0) 3 2) 4 0) 5 1), aZ 256 (fun _ => 0), aI 24 (fun _ => 0), aI 100 (fun _ => 0), aI 12 (fun _ => 0)]) hn (by rfl) dX8_init_123 (zin 104 (by decide +kernel) (by decide +kernel)) (by decide) (by decide) (by decide) (show 41 + 9 + 1 ≤ 41 + 1 + 21 by omega) (by rfl) hc (by simp [zrs, zrl]) (by simp [zrs, zrl]) (fun hc => ?_)
  refine t_putF (i := 0) (T' := [.inr (6, [.ref 42, .ref 43, .ref 44, .ref 45, .ref 46, .ref 47, .ref 48, .int 0, .int 0, .ref 49, .ref 50, .null, .int 0, .int 0, .int 0, .null, .null, .int 0, .null, .null, .null, .null, .int 0, .int 0, .null, .int 0, .int 0, .int 0, .null, .null, .null, .null]), aI 384 (fun _ => 0), aI 256 (fun _ => 0), aI 256 (fun _ => 0), aI 6 (upd (upd (upd (upd (upd (upd (fun _ => 0) 0 0) 1 0) 2 1) 3 1) 4 2) 5 2), aI 6 (upd (upd (upd (upd (upd (upd (fun _ => 0) 0 1) 1 2) 2 0) 3 2) 4 0) 5 1), aZ 256 (fun _ => 0), aI 24 (fun _ => 0), aI 100 (fun _ => 0), aI 12 (fun _ => 0)]) hn (by rfl) dX8_init_125 f_X8_41 rfl (fun _ h => by cases h; rfl) (by rfl) (fun _ => ⟨rfl, rfl⟩) (Nat.le_of_ble_eq_true rfl) (fun _ h => by cases h; exact (zin 679 (by decide +kernel) (by decide +kernel))) (by rfl) hc (by simp [zrs, zrl]) (fun hc => ?_)
  refine s_aload_n dX8_init_128 rfl ?_
  refine s_bipush (v := 12) dX8_init_129 rfl ?_
  refine t_newaI 12 (q := 51) (T' := [.inr (6, [.ref 42, .ref 43, .ref 44, .ref 45, .ref 46, .ref 47, .ref 48, .int 0, .int 0, .ref 49, .ref 50, .null, .int 0, .int 0, .int 0, .null, .null, .int 0, .null, .null, .null, .null, .int 0, .int 0, .null, .int 0, .int 0, .int 0, .null, .null, .null, .null]), aI 384 (fun _ => 0), aI 256 (fun _ => 0), aI 256 (fun _ => 0), aI 6 (upd (upd (upd (upd (upd (upd (fun _ => 0) 0 0) 1 0) 2 1) 3 1) 4 2) 5 2), aI 6 (upd (upd (upd (upd (upd (upd (fun _ => 0) 0 1) 1 2) 2 0) 3 2) 4 0) 5 1), aZ 256 (fun _ => 0), aI 24 (fun _ => 0), aI 100 (fun _ => 0), aI 12 (fun _ => 0), aI 12 (fun _ => 0)]) hn (by rfl) dX8_init_131 (zin 104 (by decide +kernel) (by decide +kernel)) (by decide) (by decide) (by decide) (show 41 + 10 + 1 ≤ 41 + 1 + 21 by omega) (by rfl) hc (by simp [zrs, zrl]) (by simp [zrs, zrl]) (fun hc => ?_)
  refine t_putF (i := 0) (T' := [.inr (6, [.ref 42, .ref 43, .ref 44, .ref 45, .ref 46, .ref 47, .ref 48, .int 0, .int 0, .ref 49, .ref 50, .ref 51, .int 0, .int 0, .int 0, .null, .null, .int 0, .null, .null, .null, .null, .int 0, .int 0, .null, .int 0, .int 0, .int 0, .null, .null, .null, .null]), aI 384 (fun _ => 0), aI 256 (fun _ => 0), aI 256 (fun _ => 0), aI 6 (upd (upd (upd (upd (upd (upd (fun _ => 0) 0 0) 1 0) 2 1) 3 1) 4 2) 5 2), aI 6 (upd (upd (upd (upd (upd (upd (fun _ => 0) 0 1) 1 2) 2 0) 3 2) 4 0) 5 1), aZ 256 (fun _ => 0), aI 24 (fun _ => 0), aI 100 (fun _ => 0), aI 12 (fun _ => 0), aI 12 (fun _ => 0)]) hn (by rfl) dX8_init_133 f_X8_44 rfl (fun _ h => by cases h; rfl) (by rfl) (fun _ => ⟨rfl, rfl⟩) (Nat.le_of_ble_eq_true rfl) (fun _ h => by cases h; exact (zin 680 (by decide +kernel) (by decide +kernel))) (by rfl) hc (by simp [zrs, zrl]) (fun hc => ?_)
  refine s_aload_n dX8_init_136 rfl ?_
  refine s_iconst (v := 4) dX8_init_137 rfl ?_
  refine t_newaI 4 (q := 52) (T' := [.inr (6, [.ref 42, .ref 43, .ref 44, .ref 45, .ref 46, .ref 47, .ref 48, .int 0, .int 0, .ref 49, .ref 50, .ref 51, .int 0, .int 0, .int 0, .null, .null, .int 0, .null, .null, .null, .null, .int 0, .int 0, .null, .int 0, .int 0, .int 0, .null, .null, .null, .null]), aI 384 (fun _ => 0), aI 256 (fun _ => 0), aI 256 (fun _ => 0), aI 6 (upd (upd (upd (upd (upd (upd (fun _ => 0) 0 0) 1 0) 2 1) 3 1) 4 2) 5 2), aI 6 (upd (upd (upd (upd (upd (upd (fun _ => 0) 0 1) 1 2) 2 0) 3 2) 4 0) 5 1), aZ 256 (fun _ => 0), aI 24 (fun _ => 0), aI 100 (fun _ => 0), aI 12 (fun _ => 0), aI 12 (fun _ => 0), aI 4 (fun _ => 0)]) hn (by rfl) dX8_init_138 (zin 104 (by decide +kernel) (by decide +kernel)) (by decide) (by decide) (by decide) (show 41 + 11 + 1 ≤ 41 + 1 + 21 by omega) (by rfl) hc (by simp [zrs, zrl]) (by simp [zrs, zrl]) (fun hc => ?_)
  refine t_putF (i := 0) (T' := [.inr (6, [.ref 42, .ref 43, .ref 44, .ref 45, .ref 46, .ref 47, .ref 48, .int 0, .int 0, .ref 49, .ref 50, .ref 51, .int 0, .int 0, .int 0, .ref 52, .null, .int 0, .null, .null, .null, .null, .int 0, .int 0, .null, .int 0, .int 0, .int 0, .null, .null, .null, .null]), aI 384 (fun _ => 0), aI 256 (fun _ => 0), aI 256 (fun _ => 0), aI 6 (upd (upd (upd (upd (upd (upd (fun _ => 0) 0 0) 1 0) 2 1) 3 1) 4 2) 5 2), aI 6 (upd (upd (upd (upd (upd (upd (fun _ => 0) 0 1) 1 2) 2 0) 3 2) 4 0) 5 1), aZ 256 (fun _ => 0), aI 24 (fun _ => 0), aI 100 (fun _ => 0), aI 12 (fun _ => 0), aI 12 (fun _ => 0), aI 4 (fun _ => 0)]) hn (by rfl) dX8_init_140 f_X8_47 rfl (fun _ h => by cases h; rfl) (by rfl) (fun _ => ⟨rfl, rfl⟩) (Nat.le_of_ble_eq_true rfl) (fun _ h => by cases h; exact (zin 684 (by decide +kernel) (by decide +kernel))) (by rfl) hc (by simp [zrs, zrl]) (fun hc => ?_)
  refine s_aload_n dX8_init_143 rfl ?_
  refine s_iconst (v := 4) dX8_init_144 rfl ?_
  refine t_newaI 4 (q := 53) (T' := [.inr (6, [.ref 42, .ref 43, .ref 44, .ref 45, .ref 46, .ref 47, .ref 48, .int 0, .int 0, .ref 49, .ref 50, .ref 51, .int 0, .int 0, .int 0, .ref 52, .null, .int 0, .null, .null, .null, .null, .int 0, .int 0, .null, .int 0, .int 0, .int 0, .null, .null, .null, .null]), aI 384 (fun _ => 0), aI 256 (fun _ => 0), aI 256 (fun _ => 0), aI 6 (upd (upd (upd (upd (upd (upd (fun _ => 0) 0 0) 1 0) 2 1) 3 1) 4 2) 5 2), aI 6 (upd (upd (upd (upd (upd (upd (fun _ => 0) 0 1) 1 2) 2 0) 3 2) 4 0) 5 1), aZ 256 (fun _ => 0), aI 24 (fun _ => 0), aI 100 (fun _ => 0), aI 12 (fun _ => 0), aI 12 (fun _ => 0), aI 4 (fun _ => 0), aI 4 (fun _ => 0)]) hn (by rfl) dX8_init_145 (zin 104 (by decide +kernel) (by decide +kernel)) (by decide) (by decide) (by decide) (show 41 + 12 + 1 ≤ 41 + 1 + 21 by omega) (by rfl) hc (by simp [zrs, zrl]) (by simp [zrs, zrl]) (fun hc => ?_)
  refine t_putF (i := 0) (T' := [.inr (6, [.ref 42, .ref 43, .ref 44, .ref 45, .ref 46, .ref 47, .ref 48, .int 0, .int 0, .ref 49, .ref 50, .ref 51, .int 0, .int 0, .int 0, .ref 52, .ref 53, .int 0, .null, .null, .null, .null, .int 0, .int 0, .null, .int 0, .int 0, .int 0, .null, .null, .null, .null]), aI 384 (fun _ => 0), aI 256 (fun _ => 0), aI 256 (fun _ => 0), aI 6 (upd (upd (upd (upd (upd (upd (fun _ => 0) 0 0) 1 0) 2 1) 3 1) 4 2) 5 2), aI 6 (upd (upd (upd (upd (upd (upd (fun _ => 0) 0 1) 1 2) 2 0) 3 2) 4 0) 5 1), aZ 256 (fun _ => 0), aI 24 (fun _ => 0), aI 100 (fun _ => 0), aI 12 (fun _ => 0), aI 12 (fun _ => 0), aI 4 (fun _ => 0), aI 4 (fun _ => 0)]) hn (by rfl) dX8_init_147 f_X8_50 rfl (fun _ h => by cases h; rfl) (by rfl) (fun _ => ⟨rfl, rfl⟩) (Nat.le_of_ble_eq_true rfl) (fun _ h => by cases h; exact (zin 685 (by decide +kernel) (by decide +kernel))) (by rfl) hc (by simp [zrs, zrl]) (fun hc => ?_)
  refine s_aload_n dX8_init_150 rfl ?_
  refine s_bipush (v := 8) dX8_init_151 rfl ?_
  refine t_newaI 8 (q := 54) (T' := [.inr (6, [.ref 42, .ref 43, .ref 44, .ref 45, .ref 46, .ref 47, .ref 48, .int 0, .int 0, .ref 49, .ref 50, .ref 51, .int 0, .int 0, .int 0, .ref 52, .ref 53, .int 0, .null, .null, .null, .null, .int 0, .int 0, .null, .int 0, .int 0, .int 0, .null, .null, .null, .null]), aI 384 (fun _ => 0), aI 256 (fun _ => 0), aI 256 (fun _ => 0), aI 6 (upd (upd (upd (upd (upd (upd (fun _ => 0) 0 0) 1 0) 2 1) 3 1) 4 2) 5 2), aI 6 (upd (upd (upd (upd (upd (upd (fun _ => 0) 0 1) 1 2) 2 0) 3 2) 4 0) 5 1), aZ 256 (fun _ => 0), aI 24 (fun _ => 0), aI 100 (fun _ => 0), aI 12 (fun _ => 0), aI 12 (fun _ => 0), aI 4 (fun _ => 0), aI 4 (fun _ => 0), aI 8 (fun _ => 0)]) hn (by rfl) dX8_init_153 (zin 104 (by decide +kernel) (by decide +kernel)) (by decide) (by decide) (by decide) (show 41 + 13 + 1 ≤ 41 + 1 + 21 by omega) (by rfl) hc (by simp [zrs, zrl]) (by simp [zrs, zrl]) (fun hc => ?_)
  refine t_putF (i := 0) (T' := [.inr (6, [.ref 42, .ref 43, .ref 44, .ref 45, .ref 46, .ref 47, .ref 48, .int 0, .int 0, .ref 49, .ref 50, .ref 51, .int 0, .int 0, .int 0, .ref 52, .ref 53, .int 0, .ref 54, .null, .null, .null, .int 0, .int 0, .null, .int 0, .int 0, .int 0, .null, .null, .null, .null]), aI 384 (fun _ => 0), aI 256 (fun _ => 0), aI 256 (fun _ => 0), aI 6 (upd (upd (upd (upd (upd (upd (fun _ => 0) 0 0) 1 0) 2 1) 3 1) 4 2) 5 2), aI 6 (upd (upd (upd (upd (upd (upd (fun _ => 0) 0 1) 1 2) 2 0) 3 2) 4 0) 5 1), aZ 256 (fun _ => 0), aI 24 (fun _ => 0), aI 100 (fun _ => 0), aI 12 (fun _ => 0), aI 12 (fun _ => 0), aI 4 (fun _ => 0), aI 4 (fun _ => 0), aI 8 (fun _ => 0)]) hn (by rfl) dX8_init_155 f_X8_53 rfl (fun _ h => by cases h; rfl) (by rfl) (fun _ => ⟨rfl, rfl⟩) (Nat.le_of_ble_eq_true rfl) (fun _ h => by cases h; exact (zin 687 (by decide +kernel) (by decide +kernel))) (by rfl) hc (by simp [zrs, zrl]) (fun hc => ?_)
  refine s_aload_n dX8_init_158 rfl ?_
  refine s_bipush (v := 8) dX8_init_159 rfl ?_
  refine t_newaI 8 (q := 55) (T' := [.inr (6, [.ref 42, .ref 43, .ref 44, .ref 45, .ref 46, .ref 47, .ref 48, .int 0, .int 0, .ref 49, .ref 50, .ref 51, .int 0, .int 0, .int 0, .ref 52, .ref 53, .int 0, .ref 54, .null, .null, .null, .int 0, .int 0, .null, .int 0, .int 0, .int 0, .null, .null, .null, .null]), aI 384 (fun _ => 0), aI 256 (fun _ => 0), aI 256 (fun _ => 0), aI 6 (upd (upd (upd (upd (upd (upd (fun _ => 0) 0 0) 1 0) 2 1) 3 1) 4 2) 5 2), aI 6 (upd (upd (upd (upd (upd (upd (fun _ => 0) 0 1) 1 2) 2 0) 3 2) 4 0) 5 1), aZ 256 (fun _ => 0), aI 24 (fun _ => 0), aI 100 (fun _ => 0), aI 12 (fun _ => 0), aI 12 (fun _ => 0), aI 4 (fun _ => 0), aI 4 (fun _ => 0), aI 8 (fun _ => 0), aI 8 (fun _ => 0)]) hn (by rfl) dX8_init_161 (zin 104 (by decide +kernel) (by decide +kernel)) (by decide) (by decide) (by decide) (show 41 + 14 + 1 ≤ 41 + 1 + 21 by omega) (by rfl) hc (by simp [zrs, zrl]) (by simp [zrs, zrl]) (fun hc => ?_)
  refine t_putF (i := 0) (T' := [.inr (6, [.ref 42, .ref 43, .ref 44, .ref 45, .ref 46, .ref 47, .ref 48, .int 0, .int 0, .ref 49, .ref 50, .ref 51, .int 0, .int 0, .int 0, .ref 52, .ref 53, .int 0, .ref 54, .ref 55, .null, .null, .int 0, .int 0, .null, .int 0, .int 0, .int 0, .null, .null, .null, .null]), aI 384 (fun _ => 0), aI 256 (fun _ => 0), aI 256 (fun _ => 0), aI 6 (upd (upd (upd (upd (upd (upd (fun _ => 0) 0 0) 1 0) 2 1) 3 1) 4 2) 5 2), aI 6 (upd (upd (upd (upd (upd (upd (fun _ => 0) 0 1) 1 2) 2 0) 3 2) 4 0) 5 1), aZ 256 (fun _ => 0), aI 24 (fun _ => 0), aI 100 (fun _ => 0), aI 12 (fun _ => 0), aI 12 (fun _ => 0), aI 4 (fun _ => 0), aI 4 (fun _ => 0), aI 8 (fun _ => 0), aI 8 (fun _ => 0)]) hn (by rfl) dX8_init_163 f_X8_56 rfl (fun _ h => by cases h; rfl) (by rfl) (fun _ => ⟨rfl, rfl⟩) (Nat.le_of_ble_eq_true rfl) (fun _ h => by cases h; exact (zin 688 (by decide +kernel) (by decide +kernel))) (by rfl) hc (by simp [zrs, zrl]) (fun hc => ?_)
  refine s_aload_n dX8_init_166 rfl ?_
  refine s_bipush (v := 8) dX8_init_167 rfl ?_
  refine t_newaI 8 (q := 56) (T' := [.inr (6, [.ref 42, .ref 43, .ref 44, .ref 45, .ref 46, .ref 47, .ref 48, .int 0, .int 0, .ref 49, .ref 50, .ref 51, .int 0, .int 0, .int 0, .ref 52, .ref 53, .int 0, .ref 54, .ref 55, .null, .null, .int 0, .int 0, .null, .int 0, .int 0, .int 0, .null, .null, .null, .null]), aI 384 (fun _ => 0), aI 256 (fun _ => 0), aI 256 (fun _ => 0), aI 6 (upd (upd (upd (upd (upd (upd (fun _ => 0) 0 0) 1 0) 2 1) 3 1) 4 2) 5 2), aI 6 (upd (upd (upd (upd (upd (upd (fun _ => 0) 0 1) 1 2) 2 0) 3 2) 4 0) 5 1), aZ 256 (fun _ => 0), aI 24 (fun _ => 0), aI 100 (fun _ => 0), aI 12 (fun _ => 0), aI 12 (fun _ => 0), aI 4 (fun _ => 0), aI 4 (fun _ => 0), aI 8 (fun _ => 0), aI 8 (fun _ => 0), aI 8 (fun _ => 0)]) hn (by rfl) dX8_init_169 (zin 104 (by decide +kernel) (by decide +kernel)) (by decide) (by decide) (by decide) (show 41 + 15 + 1 ≤ 41 + 1 + 21 by omega) (by rfl) hc (by simp [zrs, zrl]) (by simp [zrs, zrl]) (fun hc => ?_)
  refine t_putF (i := 0) (T' := [.inr (6, [.ref 42, .ref 43, .ref 44, .ref 45, .ref 46, .ref 47, .ref 48, .int 0, .int 0, .ref 49, .ref 50, .ref 51, .int 0, .int 0, .int 0, .ref 52, .ref 53, .int 0, .ref 54, .ref 55, .ref 56, .null, .int 0, .int 0, .null, .int 0, .int 0, .int 0, .null, .null, .null, .null]), aI 384 (fun _ => 0), aI 256 (fun _ => 0), aI 256 (fun _ => 0), aI 6 (upd (upd (upd (upd (upd (upd (fun _ => 0) 0 0) 1 0) 2 1) 3 1) 4 2) 5 2), aI 6 (upd (upd (upd (upd (upd (upd (fun _ => 0) 0 1) 1 2) 2 0) 3 2) 4 0) 5 1), aZ 256 (fun _ => 0), aI 24 (fun _ => 0), aI 100 (fun _ => 0), aI 12 (fun _ => 0), aI 12 (fun _ => 0), aI 4 (fun _ => 0), aI 4 (fun _ => 0), aI 8 (fun _ => 0), aI 8 (fun _ => 0), aI 8 (fun _ => 0)]) hn (by rfl) dX8_init_171 f_X8_59 rfl (fun _ h => by cases h; rfl) (by rfl) (fun _ => ⟨rfl, rfl⟩) (Nat.le_of_ble_eq_true rfl) (fun _ h => by cases h; exact (zin 689 (by decide +kernel) (by decide +kernel))) (by rfl) hc (by simp [zrs, zrl]) (fun hc => ?_)
  refine s_aload_n dX8_init_174 rfl ?_
  refine s_bipush (v := 8) dX8_init_175 rfl ?_
  refine t_newaI 8 (q := 57) (T' := [.inr (6, [.ref 42, .ref 43, .ref 44, .ref 45, .ref 46, .ref 47, .ref 48, .int 0, .int 0, .ref 49, .ref 50, .ref 51, .int 0, .int 0, .int 0, .ref 52, .ref 53, .int 0, .ref 54, .ref 55, .ref 56, .null, .int 0, .int 0, .null, .int 0, .int 0, .int 0, .null, .null, .null, .null]), aI 384 (fun _ => 0), aI 256 (fun _ => 0), aI 256 (fun _ => 0), aI 6 (upd (upd (upd (upd (upd (upd (fun _ => 0) 0 0) 1 0) 2 1) 3 1) 4 2) 5 2), aI 6 (upd (upd (upd (upd (upd (upd (fun _ => 0) 0 1) 1 2) 2 0) 3 2) 4 0) 5 1), aZ 256 (fun _ => 0), aI 24 (fun _ => 0), aI 100 (fun _ => 0), aI 12 (fun _ => 0), aI 12 (fun _ => 0), aI 4 (fun _ => 0), aI 4 (fun _ => 0), aI 8 (fun _ => 0), aI 8 (fun _ => 0), aI 8 (fun _ => 0), aI 8 (fun _ => 0)]) hn (by rfl) dX8_init_177 (zin 104 (by decide +kernel) (by decide +kernel)) (by decide) (by decide) (by decide) (show 41 + 16 + 1 ≤ 41 + 1 + 21 by omega) (by rfl) hc (by simp [zrs, zrl]) (by simp [zrs, zrl]) (fun hc => ?_)
  refine t_putF (i := 0) (T' := [.inr (6, [.ref 42, .ref 43, .ref 44, .ref 45, .ref 46, .ref 47, .ref 48, .int 0, .int 0, .ref 49, .ref 50, .ref 51, .int 0, .int 0, .int 0, .ref 52, .ref 53, .int 0, .ref 54, .ref 55, .ref 56, .ref 57, .int 0, .int 0, .null, .int 0, .int 0, .int 0, .null, .null, .null, .null]), aI 384 (fun _ => 0), aI 256 (fun _ => 0), aI 256 (fun _ => 0), aI 6 (upd (upd (upd (upd (upd (upd (fun _ => 0) 0 0) 1 0) 2 1) 3 1) 4 2) 5 2), aI 6 (upd (upd (upd (upd (upd (upd (fun _ => 0) 0 1) 1 2) 2 0) 3 2) 4 0) 5 1), aZ 256 (fun _ => 0), aI 24 (fun _ => 0), aI 100 (fun _ => 0), aI 12 (fun _ => 0), aI 12 (fun _ => 0), aI 4 (fun _ => 0), aI 4 (fun _ => 0), aI 8 (fun _ => 0), aI 8 (fun _ => 0), aI 8 (fun _ => 0), aI 8 (fun _ => 0)]) hn (by rfl) dX8_init_179 f_X8_62 rfl (fun _ h => by cases h; rfl) (by rfl) (fun _ => ⟨rfl, rfl⟩) (Nat.le_of_ble_eq_true rfl) (fun _ h => by cases h; exact (zin 690 (by decide +kernel) (by decide +kernel))) (by rfl) hc (by simp [zrs, zrl]) (fun hc => ?_)
  refine s_aload_n dX8_init_182 rfl ?_
  refine s_bipush (v := 50) dX8_init_183 rfl ?_
  refine t_newaI 50 (q := 58) (T' := [.inr (6, [.ref 42, .ref 43, .ref 44, .ref 45, .ref 46, .ref 47, .ref 48, .int 0, .int 0, .ref 49, .ref 50, .ref 51, .int 0, .int 0, .int 0, .ref 52, .ref 53, .int 0, .ref 54, .ref 55, .ref 56, .ref 57, .int 0, .int 0, .null, .int 0, .int 0, .int 0, .null, .null, .null, .null]), aI 384 (fun _ => 0), aI 256 (fun _ => 0), aI 256 (fun _ => 0), aI 6 (upd (upd (upd (upd (upd (upd (fun _ => 0) 0 0) 1 0) 2 1) 3 1) 4 2) 5 2), aI 6 (upd (upd (upd (upd (upd (upd (fun _ => 0) 0 1) 1 2) 2 0) 3 2) 4 0) 5 1), aZ 256 (fun _ => 0), aI 24 (fun _ => 0), aI 100 (fun _ => 0), aI 12 (fun _ => 0), aI 12 (fun _ => 0), aI 4 (fun _ => 0), aI 4 (fun _ => 0), aI 8 (fun _ => 0), aI 8 (fun _ => 0), aI 8 (fun _ => 0), aI 8 (fun _ => 0), aI 50 (fun _ => 0)]) hn (by rfl) dX8_init_185 (zin 104 (by decide +kernel) (by decide +kernel)) (by decide) (by decide) (by decide) (show 41 + 17 + 1 ≤ 41 + 1 + 21 by omega) (by rfl) hc (by simp [zrs, zrl]) (by simp [zrs, zrl]) (fun hc => ?_)
  refine t_putF (i := 0) (T' := [.inr (6, [.ref 42, .ref 43, .ref 44, .ref 45, .ref 46, .ref 47, .ref 48, .int 0, .int 0, .ref 49, .ref 50, .ref 51, .int 0, .int 0, .int 0, .ref 52, .ref 53, .int 0, .ref 54, .ref 55, .ref 56, .ref 57, .int 0, .int 0, .ref 58, .int 0, .int 0, .int 0, .null, .null, .null, .null]), aI 384 (fun _ => 0), aI 256 (fun _ => 0), aI 256 (fun _ => 0), aI 6 (upd (upd (upd (upd (upd (upd (fun _ => 0) 0 0) 1 0) 2 1) 3 1) 4 2) 5 2), aI 6 (upd (upd (upd (upd (upd (upd (fun _ => 0) 0 1) 1 2) 2 0) 3 2) 4 0) 5 1), aZ 256 (fun _ => 0), aI 24 (fun _ => 0), aI 100 (fun _ => 0), aI 12 (fun _ => 0), aI 12 (fun _ => 0), aI 4 (fun _ => 0), aI 4 (fun _ => 0), aI 8 (fun _ => 0), aI 8 (fun _ => 0), aI 8 (fun _ => 0), aI 8 (fun _ => 0), aI 50 (fun _ => 0)]) hn (by rfl) dX8_init_187 f_X8_65 rfl (fun _ h => by cases h; rfl) (by rfl) (fun _ => ⟨rfl, rfl⟩) (Nat.le_of_ble_eq_true rfl) (fun _ h => by cases h; exact (zin 693 (by decide +kernel) (by decide +kernel))) (by rfl) hc (by simp [zrs, zrl]) (fun hc => ?_)
  refine s_aload_n dX8_init_190 rfl ?_
  refine s_bipush (v := 6) dX8_init_191 rfl ?_
  refine t_newaI 6 (q := 59) (T' := [.inr (6, [.ref 42, .ref 43, .ref 44, .ref 45, .ref 46, .ref 47, .ref 48, .int 0, .int 0, .ref 49, .ref 50, .ref 51, .int 0, .int 0, .int 0, .ref 52, .ref 53, .int 0, .ref 54, .ref 55, .ref 56, .ref 57, .int 0, .int 0, .ref 58, .int 0, .int 0, .int 0, .null, .null, .null, .null]), aI 384 (fun _ => 0), aI 256 (fun _ => 0), aI 256 (fun _ => 0), aI 6 (upd (upd (upd (upd (upd (upd (fun _ => 0) 0 0) 1 0) 2 1) 3 1) 4 2) 5 2), aI 6 (upd (upd (upd (upd (upd (upd (fun _ => 0) 0 1) 1 2) 2 0) 3 2) 4 0) 5 1), aZ 256 (fun _ => 0), aI 24 (fun _ => 0), aI 100 (fun _ => 0), aI 12 (fun _ => 0), aI 12 (fun _ => 0), aI 4 (fun _ => 0), aI 4 (fun _ => 0), aI 8 (fun _ => 0), aI 8 (fun _ => 0), aI 8 (fun _ => 0), aI 8 (fun _ => 0), aI 50 (fun _ => 0), aI 6 (fun _ => 0)]) hn (by rfl) dX8_init_193 (zin 104 (by decide +kernel) (by decide +kernel)) (by decide) (by decide) (by decide) (show 41 + 18 + 1 ≤ 41 + 1 + 21 by omega) (by rfl) hc (by simp [zrs, zrl]) (by simp [zrs, zrl]) (fun hc => ?_)
  refine t_putF (i := 0) (T' := [.inr (6, [.ref 42, .ref 43, .ref 44, .ref 45, .ref 46, .ref 47, .ref 48, .int 0, .int 0, .ref 49, .ref 50, .ref 51, .int 0, .int 0, .int 0, .ref 52, .ref 53, .int 0, .ref 54, .ref 55, .ref 56, .ref 57, .int 0, .int 0, .ref 58, .int 0, .int 0, .int 0, .ref 59, .null, .null, .null]), aI 384 (fun _ => 0), aI 256 (fun _ => 0), aI 256 (fun _ => 0), aI 6 (upd (upd (upd (upd (upd (upd (fun _ => 0) 0 0) 1 0) 2 1) 3 1) 4 2) 5 2), aI 6 (upd (upd (upd (upd (upd (upd (fun _ => 0) 0 1) 1 2) 2 0) 3 2) 4 0) 5 1), aZ 256 (fun _ => 0), aI 24 (fun _ => 0), aI 100 (fun _ => 0), aI 12 (fun _ => 0), aI 12 (fun _ => 0), aI 4 (fun _ => 0), aI 4 (fun _ => 0), aI 8 (fun _ => 0), aI 8 (fun _ => 0), aI 8 (fun _ => 0), aI 8 (fun _ => 0), aI 50 (fun _ => 0), aI 6 (fun _ => 0)]) hn (by rfl) dX8_init_195 f_X8_68 rfl (fun _ h => by cases h; rfl) (by rfl) (fun _ => ⟨rfl, rfl⟩) (Nat.le_of_ble_eq_true rfl) (fun _ h => by cases h; exact (zin 697 (by decide +kernel) (by decide +kernel))) (by rfl) hc (by simp [zrs, zrl]) (fun hc => ?_)
  refine s_aload_n dX8_init_198 rfl ?_
  refine s_bipush (v := 6) dX8_init_199 rfl ?_
  refine t_newaI 6 (q := 60) (T' := [.inr (6, [.ref 42, .ref 43, .ref 44, .ref 45, .ref 46, .ref 47, .ref 48, .int 0, .int 0, .ref 49, .ref 50, .ref 51, .int 0, .int 0, .int 0, .ref 52, .ref 53, .int 0, .ref 54, .ref 55, .ref 56, .ref 57, .int 0, .int 0, .ref 58, .int 0, .int 0, .int 0, .ref 59, .null, .null, .null]), aI 384 (fun _ => 0), aI 256 (fun _ => 0), aI 256 (fun _ => 0), aI 6 (upd (upd (upd (upd (upd (upd (fun _ => 0) 0 0) 1 0) 2 1) 3 1) 4 2) 5 2), aI 6 (upd (upd (upd (upd (upd (upd (fun _ => 0) 0 1) 1 2) 2 0) 3 2) 4 0) 5 1), aZ 256 (fun _ => 0), aI 24 (fun _ => 0), aI 100 (fun _ => 0), aI 12 (fun _ => 0), aI 12 (fun _ => 0), aI 4 (fun _ => 0), aI 4 (fun _ => 0), aI 8 (fun _ => 0), aI 8 (fun _ => 0), aI 8 (fun _ => 0), aI 8 (fun _ => 0), aI 50 (fun _ => 0), aI 6 (fun _ => 0), aI 6 (fun _ => 0)]) hn (by rfl) dX8_init_201 (zin 104 (by decide +kernel) (by decide +kernel)) (by decide) (by decide) (by decide) (show 41 + 19 + 1 ≤ 41 + 1 + 21 by omega) (by rfl) hc (by simp [zrs, zrl]) (by simp [zrs, zrl]) (fun hc => ?_)
  refine t_putF (i := 0) (T' := [.inr (6, [.ref 42, .ref 43, .ref 44, .ref 45, .ref 46, .ref 47, .ref 48, .int 0, .int 0, .ref 49, .ref 50, .ref 51, .int 0, .int 0, .int 0, .ref 52, .ref 53, .int 0, .ref 54, .ref 55, .ref 56, .ref 57, .int 0, .int 0, .ref 58, .int 0, .int 0, .int 0, .ref 59, .ref 60, .null, .null]), aI 384 (fun _ => 0), aI 256 (fun _ => 0), aI 256 (fun _ => 0), aI 6 (upd (upd (upd (upd (upd (upd (fun _ => 0) 0 0) 1 0) 2 1) 3 1) 4 2) 5 2), aI 6 (upd (upd (upd (upd (upd (upd (fun _ => 0) 0 1) 1 2) 2 0) 3 2) 4 0) 5 1), aZ 256 (fun _ => 0), aI 24 (fun _ => 0), aI 100 (fun _ => 0), aI 12 (fun _ => 0), aI 12 (fun _ => 0), aI 4 (fun _ => 0), aI 4 (fun _ => 0), aI 8 (fun _ => 0), aI 8 (fun _ => 0), aI 8 (fun _ => 0), aI 8 (fun _ => 0), aI 50 (fun _ => 0), aI 6 (fun _ => 0), aI 6 (fun _ => 0)]) hn (by rfl) dX8_init_203 f_X8_71 rfl (fun _ h => by cases h; rfl) (by rfl) (fun _ => ⟨rfl, rfl⟩) (Nat.le_of_ble_eq_true rfl) (fun _ h => by cases h; exact (zin 698 (by decide +kernel) (by decide +kernel))) (by rfl) hc (by simp [zrs, zrl]) (fun hc => ?_)
  refine s_aload_n dX8_init_206 rfl ?_
  refine s_sipush (v := 360) dX8_init_207 rfl ?_
  refine t_newaJ 360 (q := 61) (T' := [.inr (6, [.ref 42, .ref 43, .ref 44, .ref 45, .ref 46, .ref 47, .ref 48, .int 0, .int 0, .ref 49, .ref 50, .ref 51, .int 0, .int 0, .int 0, .ref 52, .ref 53, .int 0, .ref 54, .ref 55, .ref 56, .ref 57, .int 0, .int 0, .ref 58, .int 0, .int 0, .int 0, .ref 59, .ref 60, .null, .null]), aI 384 (fun _ => 0), aI 256 (fun _ => 0), aI 256 (fun _ => 0), aI 6 (upd (upd (upd (upd (upd (upd (fun _ => 0) 0 0) 1 0) 2 1) 3 1) 4 2) 5 2), aI 6 (upd (upd (upd (upd (upd (upd (fun _ => 0) 0 1) 1 2) 2 0) 3 2) 4 0) 5 1), aZ 256 (fun _ => 0), aI 24 (fun _ => 0), aI 100 (fun _ => 0), aI 12 (fun _ => 0), aI 12 (fun _ => 0), aI 4 (fun _ => 0), aI 4 (fun _ => 0), aI 8 (fun _ => 0), aI 8 (fun _ => 0), aI 8 (fun _ => 0), aI 8 (fun _ => 0), aI 50 (fun _ => 0), aI 6 (fun _ => 0), aI 6 (fun _ => 0), aL 360 (fun _ => 0)]) hn (by rfl) dX8_init_210 (zin 187 (by decide +kernel) (by decide +kernel)) (by decide) (by decide) (by decide) (show 41 + 20 + 1 ≤ 41 + 1 + 21 by omega) (by rfl) hc (by simp [zrs, zrl]) (by simp [zrs, zrl]) (fun hc => ?_)
  refine t_putF (i := 0) (T' := [.inr (6, [.ref 42, .ref 43, .ref 44, .ref 45, .ref 46, .ref 47, .ref 48, .int 0, .int 0, .ref 49, .ref 50, .ref 51, .int 0, .int 0, .int 0, .ref 52, .ref 53, .int 0, .ref 54, .ref 55, .ref 56, .ref 57, .int 0, .int 0, .ref 58, .int 0, .int 0, .int 0, .ref 59, .ref 60, .ref 61, .null]), aI 384 (fun _ => 0), aI 256 (fun _ => 0), aI 256 (fun _ => 0), aI 6 (upd (upd (upd (upd (upd (upd (fun _ => 0) 0 0) 1 0) 2 1) 3 1) 4 2) 5 2), aI 6 (upd (upd (upd (upd (upd (upd (fun _ => 0) 0 1) 1 2) 2 0) 3 2) 4 0) 5 1), aZ 256 (fun _ => 0), aI 24 (fun _ => 0), aI 100 (fun _ => 0), aI 12 (fun _ => 0), aI 12 (fun _ => 0), aI 4 (fun _ => 0), aI 4 (fun _ => 0), aI 8 (fun _ => 0), aI 8 (fun _ => 0), aI 8 (fun _ => 0), aI 8 (fun _ => 0), aI 50 (fun _ => 0), aI 6 (fun _ => 0), aI 6 (fun _ => 0), aL 360 (fun _ => 0)]) hn (by rfl) dX8_init_212 f_X8_74 rfl (fun _ h => by cases h; rfl) (by rfl) (fun _ => ⟨rfl, rfl⟩) (Nat.le_of_ble_eq_true rfl) (fun _ h => by cases h; exact (zin 699 (by decide +kernel) (by decide +kernel))) (by rfl) hc (by simp [zrs, zrl]) (fun hc => ?_)
  refine s_aload_n dX8_init_215 rfl ?_
  refine s_bipush (v := 60) dX8_init_216 rfl ?_
  refine t_newaJ 60 (q := 62) (T' := [.inr (6, [.ref 42, .ref 43, .ref 44, .ref 45, .ref 46, .ref 47, .ref 48, .int 0, .int 0, .ref 49, .ref 50, .ref 51, .int 0, .int 0, .int 0, .ref 52, .ref 53, .int 0, .ref 54, .ref 55, .ref 56, .ref 57, .int 0, .int 0, .ref 58, .int 0, .int 0, .int 0, .ref 59, .ref 60, .ref 61, .null]), aI 384 (fun _ => 0), aI 256 (fun _ => 0), aI 256 (fun _ => 0), aI 6 (upd (upd (upd (upd (upd (upd (fun _ => 0) 0 0) 1 0) 2 1) 3 1) 4 2) 5 2), aI 6 (upd (upd (upd (upd (upd (upd (fun _ => 0) 0 1) 1 2) 2 0) 3 2) 4 0) 5 1), aZ 256 (fun _ => 0), aI 24 (fun _ => 0), aI 100 (fun _ => 0), aI 12 (fun _ => 0), aI 12 (fun _ => 0), aI 4 (fun _ => 0), aI 4 (fun _ => 0), aI 8 (fun _ => 0), aI 8 (fun _ => 0), aI 8 (fun _ => 0), aI 8 (fun _ => 0), aI 50 (fun _ => 0), aI 6 (fun _ => 0), aI 6 (fun _ => 0), aL 360 (fun _ => 0), aL 60 (fun _ => 0)]) hn (by rfl) dX8_init_218 (zin 187 (by decide +kernel) (by decide +kernel)) (by decide) (by decide) (by decide) (show 41 + 21 + 1 ≤ 41 + 1 + 21 by omega) (by rfl) hc (by simp [zrs, zrl]) (by simp [zrs, zrl]) (fun hc => ?_)
  refine t_putF (i := 0) (T' := [.inr (6, [.ref 42, .ref 43, .ref 44, .ref 45, .ref 46, .ref 47, .ref 48, .int 0, .int 0, .ref 49, .ref 50, .ref 51, .int 0, .int 0, .int 0, .ref 52, .ref 53, .int 0, .ref 54, .ref 55, .ref 56, .ref 57, .int 0, .int 0, .ref 58, .int 0, .int 0, .int 0, .ref 59, .ref 60, .ref 61, .ref 62]), aI 384 (fun _ => 0), aI 256 (fun _ => 0), aI 256 (fun _ => 0), aI 6 (upd (upd (upd (upd (upd (upd (fun _ => 0) 0 0) 1 0) 2 1) 3 1) 4 2) 5 2), aI 6 (upd (upd (upd (upd (upd (upd (fun _ => 0) 0 1) 1 2) 2 0) 3 2) 4 0) 5 1), aZ 256 (fun _ => 0), aI 24 (fun _ => 0), aI 100 (fun _ => 0), aI 12 (fun _ => 0), aI 12 (fun _ => 0), aI 4 (fun _ => 0), aI 4 (fun _ => 0), aI 8 (fun _ => 0), aI 8 (fun _ => 0), aI 8 (fun _ => 0), aI 8 (fun _ => 0), aI 50 (fun _ => 0), aI 6 (fun _ => 0), aI 6 (fun _ => 0), aL 360 (fun _ => 0), aL 60 (fun _ => 0)]) hn (by rfl) dX8_init_220 f_X8_78 rfl (fun _ h => by cases h; rfl) (by rfl) (fun _ => ⟨rfl, rfl⟩) (Nat.le_of_ble_eq_true rfl) (fun _ h => by cases h; exact (zin 700 (by decide +kernel) (by decide +kernel))) (by rfl) hc (by simp [zrs, zrl]) (fun hc => ?_)
  refine s_iconst (v := 0) dX8_init_223 rfl ?_
  refine s_istore_n dX8_init_224 (Nat.le_of_ble_eq_true rfl) rfl ?_
  show zG Z M_X8_init (d + 1) _ 42 225 [(0, .ref 41), (1, .int (nI 0))] [] (w0 ++ wM0 (cmF (8 * 0)) (foF 0) (nuF 0) (szF 0))
  refine l_cmO hn ?_ 48 0 rfl
  refine s_iconst (v := 0) dX8_init_322 rfl ?_
  refine s_istore_n dX8_init_323 (Nat.le_of_ble_eq_true rfl) rfl ?_
  refine s_iconst (v := 0) dX8_init_324 rfl ?_
  refine s_istore_n dX8_init_325 (Nat.le_of_ble_eq_true rfl) rfl ?_
  refine l_foO hn ?_ 256 0 rfl
  refine s_iconst (v := 0) dX8_init_420 rfl ?_
  refine s_istore_n dX8_init_421 (Nat.le_of_ble_eq_true rfl) rfl ?_
  exact l_szI hn rfl ⟨rfl, rfl⟩ 6 0 rfl
