/-! ===== rows of the small machine: an instruction a row ===== -/
def zok (n k : Nat) (v : Value) : Prop := ∀ i, v = .ref i → i < n ∨ n + k ≤ i
theorem zok0 (n : Nat) (v : Value) : zok n 0 v := fun i _ => (Nat.lt_or_ge i n).elim Or.inl (fun h => Or.inr h)
theorem zcv_same {n k : Nat} {ad ad' : Nat → Nat} (h : ∀ i, (i < n ∨ n + k ≤ i) → ad' i = ad i) {v : Value} (hv : zok n k v) : zcv ad' v = zcv ad v := by
  cases v with
  | ref i => exact congrArg Value.ref (h i (hv i rfl))
  | _ => rfl
theorem zcvs_same {n k : Nat} {ad ad' : Nat → Nat} (h : ∀ i, (i < n ∨ n + k ≤ i) → ad' i = ad i) {st : List Value} (hv : ∀ v ∈ st, zok n k v) : st.map (zcv ad') = st.map (zcv ad) :=
  List.map_congr_left (fun v hm => zcv_same h (hv v hm))
theorem zcl_same {n k : Nat} {ad ad' : Nat → Nat} (h : ∀ i, (i < n ∨ n + k ≤ i) → ad' i = ad i) {lv : List (Nat × Value)} (hv : ∀ q ∈ lv, zok n k q.2) : zcl ad' lv = zcl ad lv :=
  List.map_congr_left (fun q hm => by rw [zcv_same h (hv q hm)])
theorem zhead {r : List Value} (f : Value → Value) (h : r.length ≤ 1) : (r.map f).head?.toList = r.map f := by
  match r, h with
  | [], _ => rfl
  | [_], _ => rfl
/-- behind a call -/
theorem z_after {Z : zS} {M M' : zM} {d : Nat} {Q : List Value → zW → Prop} {N pc : Nat} {lv : List (Nat × Value)} {rest : List Value} {w w' : zW} {r : List Value}
    (hlv : ∀ q ∈ lv, zok w.length M'.2.2.2.2.2 q.2) (hst : ∀ v ∈ rest, zok w.length M'.2.2.2.2.2 v) (hroom : w.length + M'.2.2.2.2.2 ≤ N + M.2.2.2.2.2)
    (kk : w'.length = w.length + M'.2.2.2.2.2 → zG Z M d Q N (pc + 3) lv (r ++ rest) w')
    {p : Program} {l : Launch} {e : Env} {R : Room} {s : State} {m : MethodId} {args : Array Value} {below : List Frame} {meth : Method} {c : Code} {A : Nat → Prop} {D : va_G} {cy : Nat → ClassId} {QQ : State → Prop} {ad0 ad : Nat → Nat} {H : Heap} {locs : List Loc} {ls : Array Slot} {st0 : List Value} {a : Array Value}
    (C : zC Z M d p R s m args meth c A D cy ad0)
    (E : ∀ (r : List Value) (w : zW) (ad : Nat → Nat) (H : Heap) (locs : List Loc) (pc : Nat) (ls : Array Slot), Q r w → w.length = N + M.2.2.2.2.2 → zI M N A D cy ad0 ad s w H locs → zRet M pc r → W p l e R s m args below meth c H locs M.2.2.2.2.2 (800 * M.2.2.2.2.2) QQ (F0 m pc ls (r.map (zcv ad))))
    (I : zI M N A D cy ad0 ad s w H locs) (hl : lv_has ls M.2.2.2.1 (zcl ad lv))
    (hr : va_Run p l e R s m args below meth c H locs (w.length - N) (800 * (w.length - N)) M'.2.2.2.2.2 (800 * M'.2.2.2.2.2) (F0 m pc ls st0) (rest.map (zcv ad)) (zQc M' (fun r1 w1 => r1 = r ∧ w1 = w') D cy ad w H.size a) (va_A (zcw ad cy w) H.size)) :
    W p l e R s m args below meth c H locs (w.length - N) (800 * (w.length - N)) QQ (F0 m pc ls st0) := by
  obtain ⟨iP, iD, iS, i1, i2, i3, i4⟩ := id I
  have hFc : ∀ q, va_A (zcw ad cy w) H.size q → A q := by
    intro q h
    rcases h with ⟨k, e, h⟩ | h
    · exact iD.2 k (q, e) h
    · exact C.2.2.2.2.2.2.2.2.1 q (Nat.le_trans iS.1 h)
  intro T hT X
  obtain ⟨v, st₀, t, T', L, h0, X', hL, e1, e2, ⟨⟨r1, w1, ad1, ⟨rfl, rfl⟩, hlen, hv, hr1, had, hP', hD'⟩, hz, hk⟩, st⟩ := hr T hT X
  have hv : v = (r1.map (zcv ad1)).head? := by injection hv
  subst hv
  rw [h0] at hz hk
  have hS' : va_S A s.heap T'.heap (locs ++ L) := ⟨Nat.le_trans iS.1 (by rw [e1]; exact hz), fun q h1 h2 => by rw [e1, hk q (Nat.lt_of_lt_of_le h1 iS.1) (fun z => h2 (hFc q z))]; exact iS.2.1 q h1 h2, fun q hq => by
      rcases List.mem_append.mp hq with h | h
      · exact iS.2.2 q h
      · exact hFc _ (hL q h)⟩
  have I' : zI M N A D cy ad0 ad1 s w1 T'.heap (locs ++ L) := by
    refine ⟨by rw [e1]; exact hP', hD'.weaken (fun k q _ h => hFc q.1 h), hS', by omega, by omega, i3, fun i hi => ?_⟩
    rw [had i (by omega)]
    exact i4 i (by omega)
  have K := kk hlen p l e R s m args below meth c A D cy QQ ad0 C E ad1 T'.heap (locs ++ L) ls I' (by rw [zcl_same had hlv]; exact hl)
  have hc : w1.length - N = w.length - N + M'.2.2.2.2.2 := by omega
  rw [hc, Nat.mul_add, List.map_append, zcvs_same had hst] at K
  obtain ⟨t2, a1, b1⟩ := K T' rfl X'
  refine ⟨t2, st t2 ?_, b1⟩
  rw [zhead _ hr1]
  exact a1
def zLS (own : String) (idx : Nat) (M : zM) (n : Nat) : Prop := zMok M ∧ (parseMethodDescriptor M.2.1.desc).map (fun d => d.parameters.length) = some n ∧ Cond.static M.2.1 ∈ zGW ∧ (Cond.methodLink own idx M.2.1 ∈ zGW ∨ ∃ host, Cond.methodLinkNest own idx M.2.1 host ∈ zNW)
def zLV (own : String) (idx : Nat) (M : zM) (n : Nat) : Prop := zMok M ∧ (parseMethodDescriptor M.2.1.desc).map (fun d => d.parameters.length) = some n ∧ Cond.instanceMethod M.2.1 ∈ zGW ∧ Cond.selects M.2.1.cls M.2.1 M.2.1 ∈ zGW ∧ (Cond.methodLink own idx M.2.1 ∈ zGW ∨ ∃ host, Cond.methodLinkNest own idx M.2.1 host ∈ zNW)
def zLI (own : String) (idx : Nat) (M : zM) (n : Nat) : Prop := zMok M ∧ M.2.2.2.2.1 = none ∧ (parseMethodDescriptor M.2.1.desc).map (fun d => d.parameters.length) = some n ∧ M.2.1.name = "<init>" ∧ Cond.instanceMethod M.2.1 ∈ zGW ∧ (Cond.methodLink own idx M.2.1 ∈ zGW ∨ ∃ host, Cond.methodLinkNest own idx M.2.1 host ∈ zNW)
section ZC
variable {Z : zS} {M : zM} {d : Nat} {Q : List Value → zW → Prop} {N : Nat} {pc : Nat} {lv : List (Nat × Value)} {st rest : List Value} {w w' : zW} {M' : zM} {As : List Value} {r : List Value} {idx n : Nat}
theorem zfitA (ad : Nat → Nat) (As : List Value) : (lg_sl (As.map (zcv ad))).length = (lg_sl As).length := by
  induction As with
  | nil => rfl
  | cons v vs ih =>
    have e : ∀ (u : Value) (us : List Value), (lg_sl (u :: us)).length = (if u.category = 2 then 2 else 1) + (lg_sl us).length := by
      intro u us
      by_cases h : u.category = 2
      · simp [lg_sl, h]; omega
      · simp [lg_sl, h]; omega
    rw [List.map_cons, e, e, ih, zcv_cat]
/-- the callee's start, out of the caller's -/
theorem z_pre {p : Program} {R : Room} {s : State} {m : MethodId} {args : Array Value} {meth : Method} {c : Code} {A : Nat → Prop} {D : va_G} {cy : Nat → ClassId} {ad0 ad : Nat → Nat} {H : Heap} {locs : List Loc}
    (C : zC Z M d p R s m args meth c A D cy ad0) (I : zI M N A D cy ad0 ad s w H locs) : FrameBlind (zPc Z As D cy ad w H.size) ∧ ∀ U : State, U.heap = H → s.WarmedH U.vm → zPc Z As D cy ad w H.size (As.map (zcv ad)).toArray U := by
  obtain ⟨iP, iD, iS, i1, i2, i3, i4⟩ := id I
  obtain ⟨hx, hb, hml, hown, hts, hN, hAO, hK, hA, hRo, -⟩ := id C
  have hFc : ∀ q, va_A (zcw ad cy w) H.size q → A q := by
    intro q h
    rcases h with ⟨k, e, h⟩ | h
    · exact iD.2 k (q, e) h
    · exact hA q (Nat.le_trans iS.1 h)
  refine ⟨fun a U g mk q => ?_, fun U hU hW => ?_⟩
  · obtain ⟨q0, q1, qP, qD, qK, qN, qAO, qRo⟩ := q
    exact ⟨q0, q1, qP, qD, va_K.moved (u := U) (U := U.calling g mk a) (Vm.Alike.refl U.vm) qK, zNW_same (s := U) (U := U.calling g mk a) rfl qN, va_AO.moved (u := U) (U := U.calling g mk a) (Vm.Alike.refl U.vm) qAO, zRo_moved (u := U) (U := U.calling g mk a) (Vm.Alike.refl U.vm) qRo⟩
  · refine ⟨rfl, by rw [hU], by rw [hU]; exact iP, iD.weaken (fun _ _ _ _ => trivial), va_K.moved hW.alike hK, zNW_warm hW hN, hAO.moved hW.alike, ?_⟩
    rw [hU]
    refine zRo_moved hW.alike (zRo_ad (fun i hi => i4 i (by omega)) (zRo_narrow hFc (zRo_kept (fun a h1 h2 => iS.2.1 a h1 h2) hRo)))
theorem z_cB {R : Room} {s : State} {args : Array Value} {own : String} (hM' : zMok M') (hn : (parseMethodDescriptor M'.2.1.desc).map (fun d => d.parameters.length) = some n) (hts : ∀ w ∈ zGW, w.before args s = true) (hfr : d + 1 ≤ R.frames) (hlo : 40 * (d + 1) ≤ R.locals) (hl : Cond.methodLink own idx M'.2.1 ∈ zGW) :
    CallB R s args own idx M'.2.1 M'.2.2.1 M'.2.2.2.1 M'.2.2.2.2.1 (Cond.code M'.2.1 M'.2.2.1 M'.2.2.2.1 M'.2.2.2.2.1 :: zGW) (zroom M' d) M'.2.2.2.2.2 (800 * M'.2.2.2.2.2) n := by
  refine callB_of n hts (fun w hw => ?_) rfl rfl rfl (hts _ hM'.2.1) (hts _ hl) ⟨hM'.2.2.2.1.1, hM'.2.2.2.1.2, hn⟩ ⟨hfr, ?_⟩
  · rcases List.mem_cons.mp hw with rfl | h
    · exact ⟨hM'.1, zGW_good _ hM'.1⟩
    · exact ⟨h, zGW_good _ h⟩
  · have := hM'.2.2.2.2.2
    show 8 + (M'.2.2.2.1 + 11) + 40 * d ≤ R.locals
    omega
theorem z_cN {R : Room} {s : State} {args : Array Value} {own host : String} (hM' : zMok M') (hn : (parseMethodDescriptor M'.2.1.desc).map (fun d => d.parameters.length) = some n) (hts : ∀ w ∈ zGW, w.before args s = true) (hNw : ∀ w ∈ zNW, va_Nw w s) (hfr : d + 1 ≤ R.frames) (hlo : 40 * (d + 1) ≤ R.locals) (hl : Cond.methodLinkNest own idx M'.2.1 host ∈ zNW) :
    va_CN R s args own idx M'.2.1 host M'.2.2.1 M'.2.2.2.1 M'.2.2.2.2.1 (Cond.code M'.2.1 M'.2.2.1 M'.2.2.2.1 M'.2.2.2.2.1 :: zGW) (zroom M' d) M'.2.2.2.2.2 (800 * M'.2.2.2.2.2) n := by
  refine va_cnB n hts (fun w hw => ?_) rfl rfl rfl (hNw _ hl) (hts _ hM'.2.1) ⟨hM'.2.2.2.1.1, hM'.2.2.2.1.2, hn⟩ ⟨hfr, ?_⟩
  · rcases List.mem_cons.mp hw with rfl | h
    · exact ⟨hM'.1, zGW_good _ hM'.1⟩
    · exact ⟨h, zGW_good _ h⟩
  · have := hM'.2.2.2.2.2
    show 8 + (M'.2.2.2.1 + 11) + 40 * d ≤ R.locals
    omega
set_option maxHeartbeats 4000000 in
/-- a static call -/
theorem s_cs (hd : decode M.2.2.1 pc = .ok (.invokestatic idx, 3)) (L : zLS M.1 idx M' n) (hG : zF Z M' d As w r w') (hstk : st = As.reverse ++ rest) (hn : As.length = n) (hcat : (rest.map fun v => v.category).sum ≤ 8) (hfit : (lg_sl As).length ≤ M'.2.2.2.1) (hmc : M'.2.2.2.2.2 = 0)
    (kk : zG Z M (d + 1) Q N (pc + 3) lv (r ++ rest) w') : zG Z M (d + 1) Q N pc lv st w := by
  intro p l e R s m args below meth c A D cy QQ ad0 C E ad H locs ls I hl
  obtain ⟨iP, iD, iS, i1, i2, i3, i4⟩ := id I
  obtain ⟨hx, hb, hml, hown, hts, hN, hAO, hK, hA, hRo, hfr, hlo, hce, hsl, hnm⟩ := id C
  obtain ⟨hM', hpn, hstat, hlk⟩ := L
  have hMet := z_met hM' hG l D cy ad H.size (by rw [zfitA]; exact hfit) (by omega)
  have hroom : w.length + M'.2.2.2.2.2 ≤ N + M.2.2.2.2.2 := by omega
  refine z_after (M' := M') (rest := rest) (r := r) (w' := w') (a := (As.map (zcv ad)).toArray) (fun q _ => by rw [hmc]; exact zok0 _ _) (fun q _ => by rw [hmc]; exact zok0 _ _) hroom (fun _ => kk) C E I hl ?_
  have hs0 : st.map (zcv ad) = (As.map (zcv ad)).reverse ++ rest.map (zcv ad) := by rw [hstk, List.map_append, List.map_reverse]
  have hW : 2 * (F0 m pc ls (st.map (zcv ad))).monitorRoom + ((rest.map (zcv ad)).map fun v => v.category).sum ≤ 8 := lv_room (by rw [zcv_cats]; exact hcat)
  have hf : w.length - N + M'.2.2.2.2.2 ≤ R.cells ∧ 800 * (w.length - N) + 800 * M'.2.2.2.2.2 ≤ R.slots := by omega
  rcases hlk with hlk | ⟨host, hlk⟩
  · exact va_runS ⟨hx, hb, hml, hown, hts⟩ hMet ⟨z_cB hM' hpn hts hfr hlo hlk, hts _ hstat⟩ (z_pre C I) rfl (by rw [List.length_map]; exact hn) hl.1 hs0 hW hd hf
  · exact va_runSN ⟨hx, hb, hml, hown, hts⟩ hMet ⟨z_cN hM' hpn hts hN hfr hlo hlk, hts _ hstat, trivial⟩ (z_pre C I) rfl (by rw [List.length_map]; exact hn) hl.1 hs0 hW hd hf
set_option maxHeartbeats 4000000 in
/-- a call on an object of the world -/
theorem s_cv {b ci : Nat} {fs : List Value} {q : vw_C} (hd : decode M.2.2.1 pc = .ok (.invokevirtual idx, 3)) (L : zLV M.1 idx M' n) (hG : zF Z M' d (.ref b :: As) w r w') (hob : w[b]? = some (.inr (ci, fs))) (hci : vwCl[ci]? = some q) (hq : q.1 = M'.2.1.cls) (hstk : st = As.reverse ++ .ref b :: rest) (hn : As.length = n) (hcat : (rest.map fun v => v.category).sum ≤ 8) (hfit : (lg_sl (.ref b :: As)).length ≤ M'.2.2.2.1) (hmc : M'.2.2.2.2.2 = 0)
    (kk : zG Z M (d + 1) Q N (pc + 3) lv (r ++ rest) w') : zG Z M (d + 1) Q N pc lv st w := by
  intro p l e R s m args below meth c A D cy QQ ad0 C E ad H locs ls I hl
  obtain ⟨iP, iD, iS, i1, i2, i3, i4⟩ := id I
  obtain ⟨hx, hb, hml, hown, hts, hN, hAO, hK, hA, hRo, hfr, hlo, hce, hsl, hnm⟩ := id C
  obtain ⟨hM', hpn, hinst, hsel, hlk⟩ := L
  have hMet := z_met hM' hG l D cy ad H.size (by rw [zfitA]; exact hfit) (by omega)
  have hroom : w.length + M'.2.2.2.2.2 ≤ N + M.2.2.2.2.2 := by omega
  refine z_after (M' := M') (rest := rest) (r := r) (w' := w') (a := ((.ref b :: As).map (zcv ad)).toArray) (fun q _ => by rw [hmc]; exact zok0 _ _) (fun q _ => by rw [hmc]; exact zok0 _ _) hroom (fun _ => kk) C E I hl ?_
  have hs0 : st.map (zcv ad) = (As.map (zcv ad)).reverse ++ .ref (ad b) :: rest.map (zcv ad) := by rw [hstk, List.map_append, List.map_reverse]; rfl
  have hW : 2 * (F0 m pc ls (st.map (zcv ad))).monitorRoom + ((rest.map (zcv ad)).map fun v => v.category).sum ≤ 8 := lv_room (by rw [zcv_cats]; exact hcat)
  have hf : w.length - N + M'.2.2.2.2.2 ≤ R.cells ∧ 800 * (w.length - N) + 800 * M'.2.2.2.2.2 ≤ R.slots := by omega
  have hrec : ∃ cellB : Cell, H[ad b]? = some cellB ∧ cellB.vm.isStatics = false ∧ s.vm.findClass M'.2.1.cls = some cellB.cls := by
    rw [← hq]
    exact va_recv hK iP hci (zcw_at (ad := ad) (cy := cy) hob)
  have hp0 := z_pre (As := .ref b :: As) C I
  have hpV : PreV s H M'.2.1.cls (ad b) (zPc Z (.ref b :: As) D cy ad w H.size) (As.map (zcv ad)) := ⟨hp0.1, hrec, hp0.2⟩
  rcases hlk with hlk | ⟨host, hlk⟩
  · exact va_runV ⟨hx, hb, hml, hown, hts⟩ hMet ⟨z_cB hM' hpn hts hfr hlo hlk, hts _ hinst, hts _ hsel⟩ hpV rfl (by rw [List.length_map]; exact hn) hl.1 hs0 hW hd hf
  · exact va_runVN ⟨hx, hb, hml, hown, hts⟩ hMet ⟨z_cN hM' hpn hts hN hfr hlo hlk, hts _ hinst, hts _ hsel⟩ hpV rfl (by rw [List.length_map]; exact hn) hl.1 hs0 hW hd hf
set_option maxHeartbeats 4000000 in
/-- a constructor's call -/
theorem s_ci {b : Nat} (hd : decode M.2.2.1 pc = .ok (.invokespecial idx, 3)) (L : zLI M.1 idx M' n) (hG : zF Z M' d (.ref b :: As) w [] w') (hstk : st = As.reverse ++ .ref b :: rest) (hn : As.length = n) (hcat : (rest.map fun v => v.category).sum ≤ 8) (hfit : (lg_sl (.ref b :: As)).length ≤ M'.2.2.2.1) (hroom : w.length + M'.2.2.2.2.2 ≤ N + M.2.2.2.2.2) (hlv : ∀ q ∈ lv, zok w.length M'.2.2.2.2.2 q.2) (hst : ∀ v ∈ rest, zok w.length M'.2.2.2.2.2 v)
    (kk : w'.length = w.length + M'.2.2.2.2.2 → zG Z M (d + 1) Q N (pc + 3) lv rest w') : zG Z M (d + 1) Q N pc lv st w := by
  intro p l e R s m args below meth c A D cy QQ ad0 C E ad H locs ls I hl
  obtain ⟨iP, iD, iS, i1, i2, i3, i4⟩ := id I
  obtain ⟨hx, hb, hml, hown, hts, hN, hAO, hK, hA, hRo, hfr, hlo, hce, hsl, hnm⟩ := id C
  obtain ⟨hM', hno, hpn, hnam, hinst, hlk⟩ := L
  have hMet := z_met hM' hG l D cy ad H.size (by rw [zfitA]; exact hfit) (by omega)
  refine z_after (M' := M') (rest := rest) (r := []) (w' := w') (a := ((.ref b :: As).map (zcv ad)).toArray) hlv hst hroom kk C E I hl ?_
  have hs0 : st.map (zcv ad) = (As.map (zcv ad)).reverse ++ .ref (ad b) :: rest.map (zcv ad) := by rw [hstk, List.map_append, List.map_reverse]; rfl
  have hW : 2 * (F0 m pc ls (st.map (zcv ad))).monitorRoom + ((rest.map (zcv ad)).map fun v => v.category).sum ≤ 8 := lv_room (by rw [zcv_cats]; exact hcat)
  have hf : w.length - N + M'.2.2.2.2.2 ≤ R.cells ∧ 800 * (w.length - N) + 800 * M'.2.2.2.2.2 ≤ R.slots := by omega
  have hp0 := z_pre (As := .ref b :: As) C I
  rcases hlk with hlk | ⟨host, hlk⟩
  · have hcb := z_cB (d := d) (R := R) hM' hpn hts hfr hlo hlk
    rw [hno] at hcb hMet
    exact va_runI ⟨hx, hb, hml, hown, hts⟩ hMet ⟨hcb, hnam, hts _ hinst⟩ hp0 rfl (by rw [List.length_map]; exact hn) hl.1 hs0 hW hd hf
  · have hcb := z_cN (d := d) (R := R) hM' hpn hts hN hfr hlo hlk
    rw [hno] at hcb hMet
    exact va_runIN ⟨hx, hb, hml, hown, hts⟩ hMet ⟨hcb, hnam, hts _ hinst⟩ hp0 rfl (by rw [List.length_map]; exact hn) hl.1 hs0 hW hd hf
end ZC
