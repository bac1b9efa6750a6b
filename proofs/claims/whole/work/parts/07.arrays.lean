/-! ===== rows of the small machine: arrays, the JDK's own ===== -/
section ZR
variable {Z : zS} {M : zM} {d : Nat} {Q : List Value → zW → Prop} {N : Nat} {pc : Nat} {lv : List (Nat × Value)} {st : List Value} {w : zW} {idx q : Nat} {n : Nat} {i : Int32}
/-- a cell of the world is set -/
theorem z_set {q : Nat} {e1 : va_E} (kk : zG Z M d Q N pc lv st (w.set q e1))
    {p : Program} {l : Launch} {e : Env} {R : Room} {s : State} {m : MethodId} {args : Array Value} {below : List Frame} {meth : Method} {c : Code} {A : Nat → Prop} {D : va_G} {cy : Nat → ClassId} {QQ : State → Prop} {ad0 ad : Nat → Nat} {H : Heap} {locs : List Loc} {ls : Array Slot}
    (C : zC Z M d p R s m args meth c A D cy ad0)
    (E : ∀ (r : List Value) (w : zW) (ad : Nat → Nat) (H : Heap) (locs : List Loc) (pc : Nat) (ls : Array Slot), Q r w → w.length = N + M.2.2.2.2.2 → zI M N A D cy ad0 ad s w H locs → zRet M pc r → W p l e R s m args below meth c H locs M.2.2.2.2.2 (800 * M.2.2.2.2.2) QQ (F0 m pc ls (r.map (zcv ad))))
    (I : zI M N A D cy ad0 ad s w H locs) (hl : lv_has ls M.2.2.2.1 (zcl ad lv)) {H1 : Heap} {locs1 : List Loc}
    (h1 : va_P D vwCl ((zcw ad cy w).set q (ad q, zce ad cy e1)) H1) (h2 : va_D A ((zcw ad cy w).set q (ad q, zce ad cy e1))) (h3 : va_S A s.heap H1 locs1) :
    W p l e R s m args below meth c H1 locs1 (w.length - N) (800 * (w.length - N)) QQ (F0 m pc ls (st.map (zcv ad))) := by
  obtain ⟨iP, iD, iS, i1, i2, i3, i4⟩ := I
  have K := kk p l e R s m args below meth c A D cy QQ ad0 C E ad H1 locs1 ls ⟨by rw [zcw_set]; exact h1, by rw [zcw_set]; exact h2, h3, by rw [List.length_set]; exact i1, by rw [List.length_set]; exact i2, i3, by rw [List.length_set]; exact i4⟩ hl
  rw [List.length_set] at K
  exact K
theorem s_iald {f : Nat → Int32} (hd : decode M.2.2.1 pc = .ok (.iaload, 1)) (hw : w[q]? = some (.inl (0, n, .inl f))) (hin : vp_in i n) (kk : zG Z M d Q N (pc + 1) lv (.int (f i.toNatClampNeg) :: st) w) : zG Z M d Q N pc lv (.int i :: .ref q :: st) w := by
  intro p l e R s m args below meth c A D cy QQ ad0 C E ad H locs ls I hl
  obtain ⟨iP, iD, iS, i1, i2, i3, i4⟩ := id I
  obtain ⟨hx, hb, hml, hown, hts, hN, hAO, hK, hA, hRo, hfr, hlo, hce, hsl, hnm⟩ := id C
  exact va_iald hx hb hK iP q 0 (zcw_at hw) rfl hin hd (kk p l e R s m args below meth c A D cy QQ ad0 C E ad H locs ls I hl)
theorem s_lald {f : Nat → Int64} (hd : decode M.2.2.1 pc = .ok (.laload, 1)) (hw : w[q]? = some (.inl (1, n, .inr (.inl f)))) (hin : vp_in i n) (kk : zG Z M d Q N (pc + 1) lv (.long (f i.toNatClampNeg) :: st) w) : zG Z M d Q N pc lv (.int i :: .ref q :: st) w := by
  intro p l e R s m args below meth c A D cy QQ ad0 C E ad H locs ls I hl
  obtain ⟨iP, iD, iS, i1, i2, i3, i4⟩ := id I
  obtain ⟨hx, hb, hml, hown, hts, hN, hAO, hK, hA, hRo, hfr, hlo, hce, hsl, hnm⟩ := id C
  exact va_lald hx hb hK iP q 1 (zcw_at hw) rfl hin hd (kk p l e R s m args below meth c A D cy QQ ad0 C E ad H locs ls I hl)
theorem s_bald {f : Nat → Int32} (hd : decode M.2.2.1 pc = .ok (.baload, 1)) (hw : w[q]? = some (.inl (2, n, .inl f))) (hin : vp_in i n) (kk : zG Z M d Q N (pc + 1) lv (.int (f i.toNatClampNeg) :: st) w) : zG Z M d Q N pc lv (.int i :: .ref q :: st) w := by
  intro p l e R s m args below meth c A D cy QQ ad0 C E ad H locs ls I hl
  obtain ⟨iP, iD, iS, i1, i2, i3, i4⟩ := id I
  obtain ⟨hx, hb, hml, hown, hts, hN, hAO, hK, hA, hRo, hfr, hlo, hce, hsl, hnm⟩ := id C
  exact va_bald hx hb hK iP q 2 (zcw_at hw) rfl hin hd (kk p l e R s m args below meth c A D cy QQ ad0 C E ad H locs ls I hl)
theorem s_zald {f : Nat → Int32} (hd : decode M.2.2.1 pc = .ok (.baload, 1)) (hw : w[q]? = some (.inl (3, n, .inl f))) (hin : vp_in i n) (kk : zG Z M d Q N (pc + 1) lv (.int (f i.toNatClampNeg) :: st) w) : zG Z M d Q N pc lv (.int i :: .ref q :: st) w := by
  intro p l e R s m args below meth c A D cy QQ ad0 C E ad H locs ls I hl
  obtain ⟨iP, iD, iS, i1, i2, i3, i4⟩ := id I
  obtain ⟨hx, hb, hml, hown, hts, hN, hAO, hK, hA, hRo, hfr, hlo, hce, hsl, hnm⟩ := id C
  exact va_zald hx hb hK iP q 3 (zcw_at hw) rfl hin hd (kk p l e R s m args below meth c A D cy QQ ad0 C E ad H locs ls I hl)
theorem s_iast {f : Nat → Int32} {x : Int32} (hd : decode M.2.2.1 pc = .ok (.iastore, 1)) (hw : w[q]? = some (.inl (0, n, .inl f))) (hin : vp_in i n) (kk : zG Z M d Q N (pc + 1) lv st (w.set q (.inl (0, n, .inl (upd f i.toNatClampNeg x))))) : zG Z M d Q N pc lv (.int x :: .int i :: .ref q :: st) w := by
  intro p l e R s m args below meth c A D cy QQ ad0 C E ad H locs ls I hl
  obtain ⟨iP, iD, iS, i1, i2, i3, i4⟩ := id I
  obtain ⟨hx, hb, hml, hown, hts, hN, hAO, hK, hA, hRo, hfr, hlo, hce, hsl, hnm⟩ := id C
  exact va_iast hx hb hK iP iD iS q 0 (zcw_at hw) rfl hin hd (fun H1 locs1 h1 h2 h3 => z_set kk C E I hl h1 h2 h3)
theorem s_last {f : Nat → Int64} {x : Int64} (hd : decode M.2.2.1 pc = .ok (.lastore, 1)) (hw : w[q]? = some (.inl (1, n, .inr (.inl f)))) (hin : vp_in i n) (kk : zG Z M d Q N (pc + 1) lv st (w.set q (.inl (1, n, .inr (.inl (vp_updL f i.toNatClampNeg x)))))) : zG Z M d Q N pc lv (.long x :: .int i :: .ref q :: st) w := by
  intro p l e R s m args below meth c A D cy QQ ad0 C E ad H locs ls I hl
  obtain ⟨iP, iD, iS, i1, i2, i3, i4⟩ := id I
  obtain ⟨hx, hb, hml, hown, hts, hN, hAO, hK, hA, hRo, hfr, hlo, hce, hsl, hnm⟩ := id C
  exact va_last hx hb hK iP iD iS q 1 (zcw_at hw) rfl hin hd (fun H1 locs1 h1 h2 h3 => z_set kk C E I hl h1 h2 h3)
theorem s_bast {f : Nat → Int32} {x : Int32} (hd : decode M.2.2.1 pc = .ok (.bastore, 1)) (hw : w[q]? = some (.inl (2, n, .inl f))) (hin : vp_in i n) (kk : zG Z M d Q N (pc + 1) lv st (w.set q (.inl (2, n, .inl (upd f i.toNatClampNeg (vp_nar .byte x)))))) : zG Z M d Q N pc lv (.int x :: .int i :: .ref q :: st) w := by
  intro p l e R s m args below meth c A D cy QQ ad0 C E ad H locs ls I hl
  obtain ⟨iP, iD, iS, i1, i2, i3, i4⟩ := id I
  obtain ⟨hx, hb, hml, hown, hts, hN, hAO, hK, hA, hRo, hfr, hlo, hce, hsl, hnm⟩ := id C
  exact va_bast hx hb hK iP iD iS q 2 (zcw_at hw) rfl hin hd (fun H1 locs1 h1 h2 h3 => z_set kk C E I hl h1 h2 h3)
theorem s_zast {f : Nat → Int32} {x : Int32} (hd : decode M.2.2.1 pc = .ok (.bastore, 1)) (hw : w[q]? = some (.inl (3, n, .inl f))) (hin : vp_in i n) (kk : zG Z M d Q N (pc + 1) lv st (w.set q (.inl (3, n, .inl (upd f i.toNatClampNeg (vp_nar .boolean x)))))) : zG Z M d Q N pc lv (.int x :: .int i :: .ref q :: st) w := by
  intro p l e R s m args below meth c A D cy QQ ad0 C E ad H locs ls I hl
  obtain ⟨iP, iD, iS, i1, i2, i3, i4⟩ := id I
  obtain ⟨hx, hb, hml, hown, hts, hN, hAO, hK, hA, hRo, hfr, hlo, hce, hsl, hnm⟩ := id C
  exact va_zast hx hb hK iP iD iS q 3 (zcw_at hw) rfl hin hd (fun H1 locs1 h1 h2 h3 => z_set kk C E I hl h1 h2 h3)
theorem s_aald {f : Nat → Option Nat} {a : Nat} (hd : decode M.2.2.1 pc = .ok (.aaload, 1)) (hw : w[q]? = some (.inl (4, n, .inr (.inr (.inr (.inr f)))))) (hin : vp_in i n) (hf : f i.toNatClampNeg = some a) (kk : zG Z M d Q N (pc + 1) lv (.ref a :: st) w) : zG Z M d Q N pc lv (.int i :: .ref q :: st) w := by
  intro p l e R s m args below meth c A D cy QQ ad0 C E ad H locs ls I hl
  obtain ⟨iP, iD, iS, i1, i2, i3, i4⟩ := id I
  obtain ⟨hx, hb, hml, hown, hts, hN, hAO, hK, hA, hRo, hfr, hlo, hce, hsl, hnm⟩ := id C
  refine va_aldq hx hb hK iP q 4 (zcw_at hw) rfl hin hd ?_
  have K := kk p l e R s m args below meth c A D cy QQ ad0 C E ad H locs ls I hl
  show W p l e R s m args below meth c H locs (w.length - N) (800 * (w.length - N)) QQ (F0 m (pc + 1) ls (va_rf ((f i.toNatClampNeg).map ad) :: st.map (zcv ad)))
  rw [hf]
  exact K
theorem s_aast {f : Nat → Option Nat} {a : Nat} {vs : List Value} (hd : decode M.2.2.1 pc = .ok (.aastore, 1)) (hw : w[q]? = some (.inl (4, n, .inr (.inr (.inr (.inr f)))))) (ho : w[a]? = some (.inr (3, vs))) (hin : vp_in i n) (kk : zG Z M d Q N (pc + 1) lv st (w.set q (.inl (4, n, .inr (.inr (.inr (.inr (va_up f i.toNatClampNeg (some a))))))))) : zG Z M d Q N pc lv (.ref a :: .int i :: .ref q :: st) w := by
  intro p l e R s m args below meth c A D cy QQ ad0 C E ad H locs ls I hl
  obtain ⟨iP, iD, iS, i1, i2, i3, i4⟩ := id I
  obtain ⟨hx, hb, hml, hown, hts, hN, hAO, hK, hA, hRo, hfr, hlo, hce, hsl, hnm⟩ := id C
  refine va_astq (r := (RX5, TX5, 3)) hx hb hK iP iD iS q 4 a 3 (zcw_at hw) rfl (zcw_at ho) rfl hin hd (fun H1 locs1 h1 h2 h3 => ?_)
  have e1 : zce ad cy (.inl (4, n, .inr (.inr (.inr (.inr (va_up f i.toNatClampNeg (some a))))))) = .inl (cy 4, n, .inr (.inr (.inr (.inr (va_up (fun j => (f j).map ad) i.toNatClampNeg (some (ad a))))))) := by
    show Sum.inl (cy 4, n, Sum.inr (Sum.inr (Sum.inr (Sum.inr (fun j => (va_up f i.toNatClampNeg (some a) j).map ad))))) = _
    have e2 : (fun j => (va_up f i.toNatClampNeg (some a) j).map ad) = va_up (fun j => (f j).map ad) i.toNatClampNeg (some (ad a)) := by
      funext j
      unfold va_up
      by_cases hj : j = i.toNatClampNeg
      · simp [hj]
      · simp [hj]
    rw [e2]
  exact z_set kk C E I hl (by rw [e1]; exact h1) (by rw [e1]; exact h2) h3
theorem s_alenI {f : Nat → Int32} (v : Int32) (hd : decode M.2.2.1 pc = .ok (.arraylength, 1)) (hw : w[q]? = some (.inl (0, n, .inl f))) (hv : Int32.ofNat n = v) (kk : zG Z M d Q N (pc + 1) lv (.int v :: st) w) : zG Z M d Q N pc lv (.ref q :: st) w := by
  intro p l e R s m args below meth c A D cy QQ ad0 C E ad H locs ls I hl
  obtain ⟨iP, iD, iS, i1, i2, i3, i4⟩ := id I
  obtain ⟨hx, hb, hml, hown, hts, hN, hAO, hK, hA, hRo, hfr, hlo, hce, hsl, hnm⟩ := id C
  exact va_alen hx hb hK iP q 0 (zcw_at hw) (ty := .int) rfl hv hd (kk p l e R s m args below meth c A D cy QQ ad0 C E ad H locs ls I hl)
/-- read-only arrays -/
theorem s_rald {v : Int32} (j : Nat) (hd : decode M.2.2.1 pc = .ok (.iaload, 1)) (hq : q = 1000 + j) (hj : j < 3) (hin : vp_in i (zRoT Z j).1) (hv : (zRoT Z j).2 i.toNatClampNeg = v) (kk : zG Z M d Q N (pc + 1) lv (.int v :: st) w) : zG Z M d Q N pc lv (.int i :: .ref q :: st) w := by
  intro p l e R s m args below meth c A D cy QQ ad0 C E ad H locs ls I hl
  obtain ⟨iP, iD, iS, i1, i2, i3, i4⟩ := id I
  obtain ⟨hx, hb, hml, hown, hts, hN, hAO, hK, hA, hRo, hfr, hlo, hce, hsl, hnm⟩ := id C
  subst hq
  have h0 := hRo.2.2 j hj
  rw [← i4 (1000 + j) (by omega)] at h0
  exact va_ti hx hb h0 iS hin (v := .int v) (by rw [hv]) hd (kk p l e R s m args below meth c A D cy QQ ad0 C E ad H locs ls I hl)
theorem s_rlen (j : Nat) (v : Int32) (hd : decode M.2.2.1 pc = .ok (.arraylength, 1)) (hq : q = 1000 + j) (hj : j < 3) (hv : Int32.ofNat (zRoT Z j).1 = v) (kk : zG Z M d Q N (pc + 1) lv (.int v :: st) w) : zG Z M d Q N pc lv (.ref q :: st) w := by
  intro p l e R s m args below meth c A D cy QQ ad0 C E ad H locs ls I hl
  obtain ⟨iP, iD, iS, i1, i2, i3, i4⟩ := id I
  obtain ⟨hx, hb, hml, hown, hts, hN, hAO, hK, hA, hRo, hfr, hlo, hce, hsl, hnm⟩ := id C
  subst hq
  have h0 := hRo.2.2 j hj
  rw [← i4 (1000 + j) (by omega)] at h0
  exact va_tlen hx hb h0 iS hv hd (kk p l e R s m args below meth c A D cy QQ ad0 C E ad H locs ls I hl)
theorem s_ord (hd : decode M.2.2.1 pc = .ok (.getstatic idx, 3)) (L : Cond.fieldLink M.1 idx "CubeBodies$Cube" "ORDERS" "[I" ∈ zGW) (kk : zG Z M d Q N (pc + 3) lv (.ref 1000 :: st) w) : zG Z M d Q N pc lv st w := by
  intro p l e R s m args below meth c A D cy QQ ad0 C E ad H locs ls I hl
  obtain ⟨iP, iD, iS, i1, i2, i3, i4⟩ := id I
  obtain ⟨hx, hb, hml, hown, hts, hN, hAO, hK, hA, hRo, hfr, hlo, hce, hsl, hnm⟩ := id C
  have h0 := hRo.1
  rw [← i4 1000 (by omega)] at h0
  exact va_gets hx hb h0 iS hown (hts _ L) (fun _ h => h) hd (kk p l e R s m args below meth c A D cy QQ ad0 C E ad H locs ls I hl)
theorem s_frm (hd : decode M.2.2.1 pc = .ok (.getstatic idx, 3)) (L : Cond.fieldLink M.1 idx "CubeBodies$Cube" "FORMS" "[I" ∈ zGW ∨ ∃ host, Cond.fieldLinkNest M.1 idx "CubeBodies$Cube" "FORMS" "[I" host ∈ zNW) (kk : zG Z M d Q N (pc + 3) lv (.ref 1001 :: st) w) : zG Z M d Q N pc lv st w := by
  intro p l e R s m args below meth c A D cy QQ ad0 C E ad H locs ls I hl
  obtain ⟨iP, iD, iS, i1, i2, i3, i4⟩ := id I
  obtain ⟨hx, hb, hml, hown, hts, hN, hAO, hK, hA, hRo, hfr, hlo, hce, hsl, hnm⟩ := id C
  have h0 := hRo.2.1
  rw [← i4 1001 (by omega)] at h0
  rcases L with L | ⟨host, L⟩
  · exact va_gets hx hb h0 iS hown (hts _ L) (fun _ h => h) hd (kk p l e R s m args below meth c A D cy QQ ad0 C E ad H locs ls I hl)
  · exact va_getsN hx hb h0 iS hown (va_Nw.use rfl (hN _ L)) (fun _ h => h) hd (kk p l e R s m args below meth c A D cy QQ ad0 C E ad H locs ls I hl)
theorem s_objInit (hd : decode M.2.2.1 pc = .ok (.invokespecial idx, 3)) (L : Cond.methodLink M.1 idx Lib.objectInit ∈ zGW) (L2 : Cond.instanceMethod Lib.objectInit ∈ zGW) (L3 : Cond.code Lib.objectInit ⟨#[0xb1]⟩ 1 none ∈ zGW) (hcat : (st.map fun v => v.category).sum ≤ 8) (kk : zG Z M (d + 1) Q N (pc + 3) lv st w) : zG Z M (d + 1) Q N pc lv (.ref q :: st) w := by
  intro p l e R s m args below meth c A D cy QQ ad0 C E ad H locs ls I hl
  obtain ⟨iP, iD, iS, i1, i2, i3, i4⟩ := id I
  obtain ⟨hx, hb, hml, hown, hts, hN, hAO, hK, hA, hRo, hfr, hlo, hce, hsl, hnm⟩ := id C
  refine W.objInit (g := F0 m pc ls ((Value.ref q :: st).map (zcv ad))) hx hb hown (hts _ L) (hts _ L2) (hts _ L3) rfl (by rw [hml]; exact hl.1) (rest := st.map (zcv ad)) rfl hd (by omega) ?_ (kk p l e R s m args below meth c A D cy QQ ad0 C E ad H locs ls I hl)
  show 2 * 0 + ((st.map (zcv ad)).map fun v => v.category).sum + 12 ≤ R.locals
  rw [zcv_cats]
  omega
theorem s_min {x y : Int32} (hd : decode M.2.2.1 pc = .ok (.invokestatic idx, 3)) (L : Cond.methodLink M.1 idx Lib.Math.min.name ∈ zGW) (L2 : Cond.static Lib.Math.min.name ∈ zGW) (L3 : Cond.initialized "java/lang/Math" ∈ zGW) (L4 : Cond.code Lib.Math.min.name Lib.Math.min.code 2 (some .int) ∈ zGW) (hcat : (st.map fun v => v.category).sum ≤ 8) (kk : zG Z M (d + 1) Q N (pc + 3) lv (.int (if y < x then y else x) :: st) w) : zG Z M (d + 1) Q N pc lv (.int y :: .int x :: st) w := by
  intro p l e R s m args below meth c A D cy QQ ad0 C E ad H locs ls I hl
  obtain ⟨iP, iD, iS, i1, i2, i3, i4⟩ := id I
  obtain ⟨hx, hb, hml, hown, hts, hN, hAO, hK, hA, hRo, hfr, hlo, hce, hsl, hnm⟩ := id C
  exact va_mmin hx hb (by rw [hml]; exact hl.1.symm) hown (hts _ L) (hts _ L2) (hts _ L3) (hts _ L4) (by omega) (by rw [zcv_cats]; omega) (by omega) (by omega) hd (kk p l e R s m args below meth c A D cy QQ ad0 C E ad H locs ls I hl)
theorem s_max {x y : Int32} (hd : decode M.2.2.1 pc = .ok (.invokestatic idx, 3)) (L : Cond.methodLink M.1 idx Lib.Math.max.name ∈ zGW) (L2 : Cond.static Lib.Math.max.name ∈ zGW) (L3 : Cond.initialized "java/lang/Math" ∈ zGW) (L4 : Cond.code Lib.Math.max.name Lib.Math.max.code 2 (some .int) ∈ zGW) (hcat : (st.map fun v => v.category).sum ≤ 8) (kk : zG Z M (d + 1) Q N (pc + 3) lv (.int (if x < y then y else x) :: st) w) : zG Z M (d + 1) Q N pc lv (.int y :: .int x :: st) w := by
  intro p l e R s m args below meth c A D cy QQ ad0 C E ad H locs ls I hl
  obtain ⟨iP, iD, iS, i1, i2, i3, i4⟩ := id I
  obtain ⟨hx, hb, hml, hown, hts, hN, hAO, hK, hA, hRo, hfr, hlo, hce, hsl, hnm⟩ := id C
  exact va_mmax hx hb (by rw [hml]; exact hl.1.symm) hown (hts _ L) (hts _ L2) (hts _ L3) (hts _ L4) (by omega) (by rw [zcv_cats]; omega) (by omega) (by omega) hd (kk p l e R s m args below meth c A D cy QQ ad0 C E ad H locs ls I hl)
theorem s_f2bits {b : UInt32} (hd : decode M.2.2.1 pc = .ok (.invokestatic idx, 3)) (L : Cond.methodLink M.1 idx ⟨"java/lang/Float", "floatToRawIntBits", "(F)I"⟩ ∈ zGW) (L2 : Cond.native ⟨"java/lang/Float", "floatToRawIntBits", "(F)I"⟩ ∈ zGW) (L3 : Cond.static ⟨"java/lang/Float", "floatToRawIntBits", "(F)I"⟩ ∈ zGW) (L4 : Cond.initialized "java/lang/Float" ∈ zGW) (hcat : (st.map fun v => v.category).sum ≤ 8) (kk : zG Z M (d + 1) Q N (pc + 3) lv (.int b.toInt32 :: st) w) : zG Z M (d + 1) Q N pc lv (.float b :: st) w := by
  intro p l e R s m args below meth c A D cy QQ ad0 C E ad H locs ls I hl
  obtain ⟨iP, iD, iS, i1, i2, i3, i4⟩ := id I
  obtain ⟨hx, hb, hml, hown, hts, hN, hAO, hK, hA, hRo, hfr, hlo, hce, hsl, hnm⟩ := id C
  exact vn_f2i hx hb (by rw [hml]; exact hl.1.symm) hown (hts _ L) (hts _ L2) (hts _ L3) (hts _ L4) (by omega) (by rw [zcv_cats]; omega) hd (kk p l e R s m args below meth c A D cy QQ ad0 C E ad H locs ls I hl)
theorem s_d2bits {b : UInt64} (hd : decode M.2.2.1 pc = .ok (.invokestatic idx, 3)) (L : Cond.methodLink M.1 idx ⟨"java/lang/Double", "doubleToRawLongBits", "(D)J"⟩ ∈ zGW) (L2 : Cond.native ⟨"java/lang/Double", "doubleToRawLongBits", "(D)J"⟩ ∈ zGW) (L3 : Cond.static ⟨"java/lang/Double", "doubleToRawLongBits", "(D)J"⟩ ∈ zGW) (L4 : Cond.initialized "java/lang/Double" ∈ zGW) (hcat : (st.map fun v => v.category).sum ≤ 8) (kk : zG Z M (d + 1) Q N (pc + 3) lv (.long b.toInt64 :: st) w) : zG Z M (d + 1) Q N pc lv (.double b :: st) w := by
  intro p l e R s m args below meth c A D cy QQ ad0 C E ad H locs ls I hl
  obtain ⟨iP, iD, iS, i1, i2, i3, i4⟩ := id I
  obtain ⟨hx, hb, hml, hown, hts, hN, hAO, hK, hA, hRo, hfr, hlo, hce, hsl, hnm⟩ := id C
  exact vn_d2l hx hb (by rw [hml]; exact hl.1.symm) hown (hts _ L) (hts _ L2) (hts _ L3) (hts _ L4) (by omega) (by rw [zcv_cats]; omega) hd (kk p l e R s m args below meth c A D cy QQ ad0 C E ad H locs ls I hl)
theorem s_copyI {q0 q1 n0 n1 : Nat} {f g : Nat → Int32} {sp dp k : Int32} (hd : decode M.2.2.1 pc = .ok (.invokestatic idx, 3)) (L : Cond.methodLink M.1 idx arraycopyName ∈ zGW) (L2 : Cond.native arraycopyName ∈ zGW) (L3 : Cond.static arraycopyName ∈ zGW) (L4 : Cond.initialized "java/lang/System" ∈ zGW) (h0 : w[q0]? = some (.inl (0, n0, .inl f))) (h1 : w[q1]? = some (.inl (0, n1, .inl g))) (b1 : ¬ sp < 0) (b2 : ¬ dp < 0) (b3 : ¬ k < 0) (b4 : sp.toNatClampNeg + k.toNatClampNeg ≤ n0) (b5 : dp.toNatClampNeg + k.toNatClampNeg ≤ n1) (hcat : (st.map fun v => v.category).sum ≤ 8) (kk : zG Z M (d + 1) Q N (pc + 3) lv st (w.set q1 (.inl (0, n1, .inl (va_cpy f g sp.toNatClampNeg dp.toNatClampNeg k.toNatClampNeg))))) : zG Z M (d + 1) Q N pc lv (.int k :: .int dp :: .ref q1 :: .int sp :: .ref q0 :: st) w := by
  intro p l e R s m args below meth c A D cy QQ ad0 C E ad H locs ls I hl
  obtain ⟨iP, iD, iS, i1, i2, i3, i4⟩ := id I
  obtain ⟨hx, hb, hml, hown, hts, hN, hAO, hK, hA, hRo, hfr, hlo, hce, hsl, hnm⟩ := id C
  have hn : nativeFrameWords "java/lang/System" "arraycopy" 5 = 7 := by decide +kernel
  exact va_copyi hx hb (by rw [hml]; exact hl.1.symm) hown (hts _ L) (hts _ L2) (hts _ L3) (hts _ L4) hK iP iD iS q0 q1 0 0 (ty := .int) (zcw_at h0) (zcw_at h1) rfl rfl rfl b1 b2 b3 b4 b5 (fun _ _ => rfl) (by omega) (by rw [zcv_cats, hn]; omega) hd (fun H1 locs1 g1 g2 g3 => z_set kk C E I hl g1 g2 g3)
theorem s_copyL {q0 q1 n0 n1 : Nat} {f g : Nat → Int64} {sp dp k : Int32} (hd : decode M.2.2.1 pc = .ok (.invokestatic idx, 3)) (L : Cond.methodLink M.1 idx arraycopyName ∈ zGW) (L2 : Cond.native arraycopyName ∈ zGW) (L3 : Cond.static arraycopyName ∈ zGW) (L4 : Cond.initialized "java/lang/System" ∈ zGW) (h0 : w[q0]? = some (.inl (1, n0, .inr (.inl f)))) (h1 : w[q1]? = some (.inl (1, n1, .inr (.inl g)))) (b1 : ¬ sp < 0) (b2 : ¬ dp < 0) (b3 : ¬ k < 0) (b4 : sp.toNatClampNeg + k.toNatClampNeg ≤ n0) (b5 : dp.toNatClampNeg + k.toNatClampNeg ≤ n1) (hcat : (st.map fun v => v.category).sum ≤ 8) (kk : zG Z M (d + 1) Q N (pc + 3) lv st (w.set q1 (.inl (1, n1, .inr (.inl (va_cpy f g sp.toNatClampNeg dp.toNatClampNeg k.toNatClampNeg)))))) : zG Z M (d + 1) Q N pc lv (.int k :: .int dp :: .ref q1 :: .int sp :: .ref q0 :: st) w := by
  intro p l e R s m args below meth c A D cy QQ ad0 C E ad H locs ls I hl
  obtain ⟨iP, iD, iS, i1, i2, i3, i4⟩ := id I
  obtain ⟨hx, hb, hml, hown, hts, hN, hAO, hK, hA, hRo, hfr, hlo, hce, hsl, hnm⟩ := id C
  have hn : nativeFrameWords "java/lang/System" "arraycopy" 5 = 7 := by decide +kernel
  exact va_copyl hx hb (by rw [hml]; exact hl.1.symm) hown (hts _ L) (hts _ L2) (hts _ L3) (hts _ L4) hK iP iD iS q0 q1 1 1 (ty := .long) (zcw_at h0) (zcw_at h1) rfl rfl rfl b1 b2 b3 b4 b5 (fun _ _ => rfl) (by omega) (by rw [zcv_cats, hn]; omega) hd (fun H1 locs1 g1 g2 g3 => z_set kk C E I hl g1 g2 g3)
theorem s_anew {k : Int32} (n1 : Nat) (hd : decode M.2.2.1 pc = .ok (.anewarray idx, 3)) (L : Cond.classLink M.1 idx "CubeBodies$Tape" ∈ zGW) (hn : ¬ k < 0) (hn1 : k.toNatClampNeg = n1) (hn2 : n1 ≤ 800) (hroom : w.length + 1 ≤ N + M.2.2.2.2.2) (hcw : zclw w) (hcv : zcln w.length (lv.map (fun q => q.2))) (hcs : zcln w.length st) (kk : zG Z M d Q N (pc + 3) lv (.ref w.length :: st) (w ++ [.inl (4, n1, .inr (.inr (.inr (.inr (fun _ => none)))))])) : zG Z M d Q N pc lv (.int k :: st) w := by
  intro p l e R s m args below meth c A D cy QQ ad0 C E ad H locs ls I hl
  obtain ⟨iP, iD, iS, i1, i2, i3, i4⟩ := id I
  obtain ⟨hx, hb, hml, hown, hts, hN, hAO, hK, hA, hRo, hfr, hlo, hce, hsl, hnm⟩ := id C
  refine va_newq hx hb hown (hts _ L) hAO hK iP iD iS hA (N' := n1) hn hn1 (Nat.le_trans (Nat.mul_le_mul hn2 (Nat.le_refl 4)) (by decide)) (by omega) (by omega) hd (fun a cA H1 gK gP gD gS => ?_)
  have hcA : cA = cy 4 := by
    obtain ⟨-, -, -, -, -, g1⟩ := (gK.2 5 (cA, .object "CubeBodies$Tape") rfl).2
    obtain ⟨-, -, -, -, -, g2⟩ := (gK.2 4 (cy 4, .object "CubeBodies$Tape") rfl).2
    exact Option.some.inj (Eq.trans (Eq.symm g1) g2)
  subst hcA
  have had : ∀ i, i ≠ w.length → (fun i => if i = w.length then a else ad i) i = ad i := fun i hi => if_neg hi
  have ee : zcw (fun i => if i = w.length then a else ad i) cy (w ++ [.inl (4, n1, .inr (.inr (.inr (.inr (fun _ => none)))))]) = zcw ad cy w ++ [(a, .inl (cy 4, n1, .inr (.inr (.inr (.inr (fun _ => none))))))] := by
    rw [zcw_push, zcw_same had hcw]
    show zcw ad cy w ++ [((if w.length = w.length then a else ad w.length), Sum.inl (cy 4, n1, Sum.inr (Sum.inr (Sum.inr (Sum.inr (fun _ => none))))))] = _
    rw [if_pos rfl]
  have K := kk p l e R s m args below meth c A D cy QQ ad0 C E (fun i => if i = w.length then a else ad i) H1 locs ls ⟨by rw [ee]; exact gP, by rw [ee]; exact gD, gS, by rw [List.length_append]; show N ≤ w.length + 1; omega, by rw [List.length_append]; show w.length + 1 ≤ _; omega, i3, fun i hi => by
    rw [List.length_append] at hi
    have hi : i < N ∨ w.length + 1 ≤ i := hi
    rw [had i (by omega)]
    exact i4 i (by omega)⟩ (by rw [zcll_same had hcv]; exact hl)
  rw [List.length_append] at K
  have e1 : w.length + [(Sum.inl (4, n1, Sum.inr (Sum.inr (Sum.inr (Sum.inr (fun _ => none))))) : va_E)].length - N = w.length - N + 1 := by
    show w.length + 1 - N = w.length - N + 1
    omega
  rw [e1, List.map_cons, zcln_same had hcs] at K
  have e2 : zcv (fun i => if i = w.length then a else ad i) (.ref w.length) = .ref a := by
    show Value.ref (if w.length = w.length then a else ad w.length) = _
    rw [if_pos rfl]
  rw [e2] at K
  exact W.widen (Nat.le_refl _) (by omega) K
end ZR
