/-! ===== rows of the small machine: cells ===== -/
def zTy (ci : Nat) : Nat → FieldType := match ci with
  | 0 => tyX2
  | 1 => tyX3
  | 2 => tyX4
  | 3 => tyX5
  | 4 => tyX6
  | 5 => tyX7
  | _ => tyX8
def zdef (ci : Nat) : List Value := match ci with
  | 0 => [.int 0, .int 0, .null, .null, .null]
  | 1 => [.null, .null, .int 0]
  | 2 => [.int 0, .int 0, .null, .null, .null, .null]
  | 3 => [.null, .int 0, .int 0]
  | 4 => [.null, .int 0]
  | 5 => [.null, .null, .int 0, .null, .null, .null]
  | _ => [.null, .null, .null, .null, .null, .null, .null, .int 0, .int 0, .null, .null, .null, .int 0, .int 0, .int 0, .null, .null, .int 0, .null, .null, .null, .null, .int 0, .int 0, .null, .int 0, .int 0, .int 0, .null, .null, .null, .null]
def zall (C : String) (T : u_T) (n : Nat) : Bool := (u_ws C T n).all (fun w => decide (w ∈ lw_tbl) && goodWord w)
theorem zall_in {C : String} {T : u_T} {n : Nat} (h : zall C T n = true) : ∀ w ∈ u_ws C T n, w ∈ zGW := fun w hw => by
  have h1 := List.all_eq_true.mp h w hw
  rw [Bool.and_eq_true] at h1
  exact List.mem_filter.mpr ⟨of_decide_eq_true h1.1, h1.2⟩
theorem zu2 : zall RX2 TX2 5 = true := by decide +kernel
theorem zu3 : zall RX3 TX3 3 = true := by decide +kernel
theorem zu4 : zall RX4 TX4 6 = true := by decide +kernel
theorem zu5 : zall RX5 TX5 3 = true := by decide +kernel
theorem zu6 : zall RX6 TX6 2 = true := by decide +kernel
theorem zu7 : zall RX7 TX7 6 = true := by decide +kernel
theorem zu8 : zall RX8 TX8 32 = true := by decide +kernel
theorem zd2 : ∀ j, j < 5 → defaultValue (tyX2 j) = vp_V (zdef 0) j := by decide +kernel
theorem zd3 : ∀ j, j < 3 → defaultValue (tyX3 j) = vp_V (zdef 1) j := by decide +kernel
theorem zd4 : ∀ j, j < 6 → defaultValue (tyX4 j) = vp_V (zdef 2) j := by decide +kernel
theorem zd5 : ∀ j, j < 3 → defaultValue (tyX5 j) = vp_V (zdef 3) j := by decide +kernel
theorem zd6 : ∀ j, j < 2 → defaultValue (tyX6 j) = vp_V (zdef 4) j := by decide +kernel
theorem zd7 : ∀ j, j < 6 → defaultValue (tyX7 j) = vp_V (zdef 5) j := by decide +kernel
theorem zd8 : ∀ j, j < 32 → defaultValue (tyX8 j) = vp_V (zdef 6) j := by decide +kernel
theorem zcls : ∀ (ci : Nat) (q : vw_C), vwCl[ci]? = some q → (∀ w ∈ u_ws q.1 q.2.1 q.2.2, w ∈ zGW) ∧ (∀ k, k < q.2.2 → parseFieldDescriptor (q.2.1 k).2.2.1 = some (zTy ci k)) ∧ (∀ a, a < q.2.2 → ∀ b, b < q.2.2 → a ≠ b → (q.2.1 a).2.1 ≠ (q.2.1 b).2.1) ∧ (∀ j, j < q.2.2 → defaultValue (zTy ci j) = vp_V (zdef ci) j) ∧ q.2.2 ≤ 32 ∧ ∀ ad, (zdef ci).map (zcv ad) = zdef ci
  | 0, q, h => by cases h; exact ⟨zall_in zu2, tyX2_ok, nmX2, zd2, by decide, fun _ => rfl⟩
  | 1, q, h => by cases h; exact ⟨zall_in zu3, tyX3_ok, nmX3, zd3, by decide, fun _ => rfl⟩
  | 2, q, h => by cases h; exact ⟨zall_in zu4, tyX4_ok, nmX4, zd4, by decide, fun _ => rfl⟩
  | 3, q, h => by cases h; exact ⟨zall_in zu5, tyX5_ok, nmX5, zd5, by decide, fun _ => rfl⟩
  | 4, q, h => by cases h; exact ⟨zall_in zu6, tyX6_ok, nmX6, zd6, by decide, fun _ => rfl⟩
  | 5, q, h => by cases h; exact ⟨zall_in zu7, tyX7_ok, nmX7, zd7, by decide, fun _ => rfl⟩
  | 6, q, h => by cases h; exact ⟨zall_in zu8, tyX8_ok, nmX8, zd8, by decide, fun _ => rfl⟩
  | n + 7, q, h => by simp [vwCl] at h
def zFl (own : String) (idx ci k : Nat) (fin : Bool) : Prop := ∃ q : vw_C, vwCl[ci]? = some q ∧ k < q.2.2 ∧ (q.2.1 k).2.2.2 = fin ∧ (q.2.1 k).1 = q.1 ∧ (Cond.fieldLink own idx (q.2.1 k).1 (q.2.1 k).2.1 (q.2.1 k).2.2.1 ∈ zGW ∨ ∃ host, Cond.fieldLinkNest own idx (q.2.1 k).1 (q.2.1 k).2.1 (q.2.1 k).2.2.1 host ∈ zNW)
def zcle (n : Nat) (e : va_E) : Prop := match e with
  | .inl (_, _, .inr (.inr (.inr (.inr f)))) => ∀ j i, f j = some i → i < n
  | .inl _ => True
  | .inr (_, fs) => ∀ v ∈ fs, ∀ i : Nat, v = Value.ref i → i < n
def zclw (w : zW) : Prop := ∀ e ∈ w, zcle w.length e
def zcln (n : Nat) (l : List Value) : Prop := ∀ v ∈ l, ∀ i : Nat, v = Value.ref i → i < n ∨ n + 1 ≤ i
theorem zcle_mono {n k : Nat} (h : n ≤ k) {e : va_E} (he : zcle n e) : zcle k e := by
  match e, he with
  | .inl (_, _, .inl f), _ => exact trivial
  | .inl (_, _, .inr (.inl f)), _ => exact trivial
  | .inl (_, _, .inr (.inr (.inl f))), _ => exact trivial
  | .inl (_, _, .inr (.inr (.inr (.inl f)))), _ => exact trivial
  | .inl (_, _, .inr (.inr (.inr (.inr f)))), he => exact fun j i hj => Nat.lt_of_lt_of_le (he j i hj) h
  | .inr (_, fs), he => exact fun v hv i hi => Nat.lt_of_lt_of_le (he v hv i hi) h
theorem zclw_push {w : zW} {e : va_E} (h : zclw w) (he : zcle (w.length + 1) e) : zclw (w ++ [e]) := by
  intro x hx
  rw [List.length_append]
  rcases List.mem_append.mp hx with h1 | h1
  · exact zcle_mono (Nat.le_add_right _ _) (h x h1)
  · rw [List.mem_singleton.mp h1]; exact he
theorem zclw_set {w : zW} {k : Nat} {e : va_E} (h : zclw w) (he : zcle w.length e) : zclw (w.set k e) := by
  intro x hx
  rw [List.length_set]
  rcases List.mem_or_eq_of_mem_set hx with h1 | h1
  · exact h x h1
  · rw [h1]; exact he
theorem zce_same {ad ad' : Nat → Nat} {n : Nat} {cy : Nat → ClassId} (h : ∀ i, i ≠ n → ad' i = ad i) {e : va_E} (he : zcle n e) : zce ad' cy e = zce ad cy e := by
  match e, he with
  | .inl (_, _, .inl f), _ => rfl
  | .inl (_, _, .inr (.inl f)), _ => rfl
  | .inl (_, _, .inr (.inr (.inl f))), _ => rfl
  | .inl (_, _, .inr (.inr (.inr (.inl f)))), _ => rfl
  | .inl (t, m, .inr (.inr (.inr (.inr f)))), he =>
    have e : (fun j => (f j).map ad') = (fun j => (f j).map ad) := by
      funext j
      cases hf : f j with
      | none => rfl
      | some i => exact congrArg some (h i (Nat.ne_of_lt (he j i hf)))
    show Sum.inl (cy t, m, Sum.inr (Sum.inr (Sum.inr (Sum.inr (fun j => (f j).map ad'))))) = _
    rw [e]
    rfl
  | .inr (ci, fs), he =>
    have e : fs.map (zcv ad') = fs.map (zcv ad) := List.map_congr_left (fun v hv => by
      cases v with
      | ref i => exact congrArg Value.ref (h i (Nat.ne_of_lt (he _ hv i rfl)))
      | _ => rfl)
    show Sum.inr (ci, fs.map (zcv ad')) = _
    rw [e]
    rfl
theorem zcw_same {ad ad' : Nat → Nat} {cy : Nat → ClassId} {w : zW} (h : ∀ i, i ≠ w.length → ad' i = ad i) (hw : zclw w) : zcw ad' cy w = zcw ad cy w := by
  apply List.ext_getElem?
  intro i
  rw [zcw_get, zcw_get]
  cases hi : w[i]? with
  | none => rfl
  | some e =>
    have hlt : i < w.length := (List.getElem?_eq_some_iff.mp hi).1
    show some (ad' i, zce ad' cy e) = some (ad i, zce ad cy e)
    rw [h i (Nat.ne_of_lt hlt), zce_same h (hw e (List.mem_of_getElem? hi))]
theorem zcln_same {n : Nat} {ad ad' : Nat → Nat} (h : ∀ i, i ≠ n → ad' i = ad i) {st : List Value} (hv : zcln n st) : st.map (zcv ad') = st.map (zcv ad) :=
  List.map_congr_left (fun v hm => by
    cases v with
    | ref i => exact congrArg Value.ref (h i (fun z => by have q := hv _ hm i rfl; rw [z] at q; omega))
    | _ => rfl)
theorem zcll_same {n : Nat} {ad ad' : Nat → Nat} (h : ∀ i, i ≠ n → ad' i = ad i) {lv : List (Nat × Value)} (hv : zcln n (lv.map (fun q => q.2))) : zcl ad' lv = zcl ad lv :=
  List.map_congr_left (fun q hm => by
    have h1 := hv q.2 (List.mem_map.mpr ⟨q, hm, rfl⟩)
    obtain ⟨a, v⟩ := q
    cases v with
    | ref i => exact congrArg (fun z => (a, Value.ref z)) (h i (fun z => by have q := h1 i rfl; rw [z] at q; omega))
    | _ => rfl)
section ZH
variable {Z : zS} {M : zM} {d : Nat} {Q : List Value → zW → Prop} {N : Nat} {pc : Nat} {lv : List (Nat × Value)} {st : List Value} {w : zW} {idx q ci k : Nat} {fs : List Value} {v : Value}
theorem s_get {fin : Bool} (hd : decode M.2.2.1 pc = .ok (.getfield idx, 3)) (L : zFl M.1 idx ci k fin) (hw : w[q]? = some (.inr (ci, fs))) (hv : fs[k]? = some v) (kk : zG Z M d Q N (pc + 3) lv (v :: st) w) : zG Z M d Q N pc lv (.ref q :: st) w := by
  intro p l e R s m args below meth c A D cy QQ ad0 C E ad H locs ls I hl
  obtain ⟨iP, iD, iS, i1, i2, i3, i4⟩ := id I
  obtain ⟨hx, hb, hml, hown, hts, hN, hAO, hK, hA, hRo, hfr, hlo, hce, hsl, hnm⟩ := id C
  obtain ⟨qc, hc, hk, -, -, hl1 | ⟨host, hl1⟩⟩ := L
  · exact va_get (Ts := zGW) hx hb hts (zcls ci qc hc).1 hown hK iP q (zcw_at hw) hc k hk (hts _ hl1) (fun _ h => h) (v := zcv ad v) (by rw [List.getElem?_map, hv]; rfl) hd (kk p l e R s m args below meth c A D cy QQ ad0 C E ad H locs ls I hl)
  · exact va_getN (Ts := zGW) hx hb hts (zcls ci qc hc).1 hown hK iP q (zcw_at hw) hc k hk (va_Nw.use rfl (hN _ hl1)) (fun _ h => h) (v := zcv ad v) (by rw [List.getElem?_map, hv]; rfl) hd (kk p l e R s m args below meth c A D cy QQ ad0 C E ad H locs ls I hl)
theorem s_put (hd : decode M.2.2.1 pc = .ok (.putfield idx, 3)) (L : zFl M.1 idx ci k false) (hw : w[q]? = some (.inr (ci, fs))) (hnf : ∀ ad : Nat → Nat, narrow (zTy ci k) (zcv ad v) = zcv ad v ∧ fits (zTy ci k) (zcv ad v) = true) (hk1 : k < fs.length) (kk : zG Z M d Q N (pc + 3) lv st (w.set q (.inr (ci, fs.set k v)))) : zG Z M d Q N pc lv (v :: .ref q :: st) w := by
  intro p l e R s m args below meth c A D cy QQ ad0 C E ad H locs ls I hl
  obtain ⟨iP, iD, iS, i1, i2, i3, i4⟩ := id I
  obtain ⟨hx, hb, hml, hown, hts, hN, hAO, hK, hA, hRo, hfr, hlo, hce, hsl, hnm⟩ := id C
  obtain ⟨qc, hc, hk, hfin, -, hl1⟩ := L
  obtain ⟨z1, z2, z3, z4, z5, z6⟩ := zcls ci qc hc
  have ee : zcw ad cy (w.set q (.inr (ci, fs.set k v))) = (zcw ad cy w).set q (ad q, .inr (ci, (fs.map (zcv ad)).set k (zcv ad v))) := by
    rw [zcw_set]
    show _ = (zcw ad cy w).set q (ad q, Sum.inr (ci, (fs.map (zcv ad)).set k (zcv ad v)))
    rw [← List.map_set]
    rfl
  have fin : ∀ (H1 : Heap) (locs1 : List Loc), va_P D vwCl ((zcw ad cy w).set q (ad q, .inr (ci, (fs.map (zcv ad)).set k (zcv ad v)))) H1 → va_D A ((zcw ad cy w).set q (ad q, .inr (ci, (fs.map (zcv ad)).set k (zcv ad v)))) → va_S A s.heap H1 locs1 → W p l e R s m args below meth c H1 locs1 (w.length - N) (800 * (w.length - N)) QQ (F0 m (pc + 3) ls (st.map (zcv ad))) := by
    intro H1 locs1 h1 h2 h3
    have K := kk p l e R s m args below meth c A D cy QQ ad0 C E ad H1 locs1 ls ⟨by rw [ee]; exact h1, by rw [ee]; exact h2, h3, by rw [List.length_set]; exact i1, by rw [List.length_set]; exact i2, i3, by rw [List.length_set]; exact i4⟩ hl
    rw [List.length_set] at K
    exact K
  rcases hl1 with hl1 | ⟨host, hl1⟩
  · exact va_put (Ts := zGW) hx hb hts z1 (zTy ci) z2 z3 hown hK iP iD iS q (zcw_at hw) hc k hk (hts _ hl1) (fun _ h => h) hfin (z2 k hk) (hnf ad).1 (hnf ad).2 (by rw [List.length_map]; exact hk1) hd fin
  · exact va_putN (Ts := zGW) hx hb hts z1 (zTy ci) z2 z3 hown hK iP iD iS q (zcw_at hw) hc k hk (va_Nw.use rfl (hN _ hl1)) (fun _ h => h) hfin (z2 k hk) (hnf ad).1 (hnf ad).2 (by rw [List.length_map]; exact hk1) hd fin
/-- a final field, in its own constructor -/
theorem s_putF (hd : decode M.2.2.1 pc = .ok (.putfield idx, 3)) (L : zFl M.1 idx ci k true) (hin : M.2.1.name = "<init>") (hC : ∀ qc : vw_C, vwCl[ci]? = some qc → qc.1 = M.1) (hw : w[q]? = some (.inr (ci, fs))) (hnf : ∀ ad : Nat → Nat, narrow (zTy ci k) (zcv ad v) = zcv ad v ∧ fits (zTy ci k) (zcv ad v) = true) (hk1 : k < fs.length) (hp : ∀ qc : vw_C, vwCl[ci]? = some qc → Cond.fieldLink M.1 idx (qc.2.1 k).1 (qc.2.1 k).2.1 (qc.2.1 k).2.2.1 ∈ zGW) (kk : zG Z M d Q N (pc + 3) lv st (w.set q (.inr (ci, fs.set k v)))) : zG Z M d Q N pc lv (v :: .ref q :: st) w := by
  intro p l e R s m args below meth c A D cy QQ ad0 C E ad H locs ls I hl
  obtain ⟨iP, iD, iS, i1, i2, i3, i4⟩ := id I
  obtain ⟨hx, hb, hml, hown, hts, hN, hAO, hK, hA, hRo, hfr, hlo, hce, hsl, hnm⟩ := id C
  obtain ⟨qc, hc, hk, hfin, hcl, -⟩ := L
  obtain ⟨z1, z2, z3, z4, z5, z6⟩ := zcls ci qc hc
  have ee : zcw ad cy (w.set q (.inr (ci, fs.set k v))) = (zcw ad cy w).set q (ad q, .inr (ci, (fs.map (zcv ad)).set k (zcv ad v))) := by
    rw [zcw_set]
    show _ = (zcw ad cy w).set q (ad q, Sum.inr (ci, (fs.map (zcv ad)).set k (zcv ad v)))
    rw [← List.map_set]
    rfl
  have fin : ∀ (H1 : Heap) (locs1 : List Loc), va_P D vwCl ((zcw ad cy w).set q (ad q, .inr (ci, (fs.map (zcv ad)).set k (zcv ad v)))) H1 → va_D A ((zcw ad cy w).set q (ad q, .inr (ci, (fs.map (zcv ad)).set k (zcv ad v)))) → va_S A s.heap H1 locs1 → W p l e R s m args below meth c H1 locs1 (w.length - N) (800 * (w.length - N)) QQ (F0 m (pc + 3) ls (st.map (zcv ad))) := by
    intro H1 locs1 h1 h2 h3
    have K := kk p l e R s m args below meth c A D cy QQ ad0 C E ad H1 locs1 ls ⟨by rw [ee]; exact h1, by rw [ee]; exact h2, h3, by rw [List.length_set]; exact i1, by rw [List.length_set]; exact i2, i3, by rw [List.length_set]; exact i4⟩ hl
    rw [List.length_set] at K
    exact K
  exact va_putF (Ts := zGW) hx hb hts z1 (zTy ci) z2 z3 hown hK iP iD iS q (zcw_at hw) hc k hk (hts _ (hp qc hc)) (fun _ h => h) hfin (hnm.trans hin) (hcl.trans (hC qc hc)) (z2 k hk) (hnf ad).1 (hnf ad).2 (by rw [List.length_map]; exact hk1) hd fin
/-- a new object -/
theorem s_new {qc : vw_C} (hd : decode M.2.2.1 pc = .ok (.new idx, 3)) (hc : vwCl[ci]? = some qc) (h1 : Cond.classLink M.1 idx qc.1 ∈ zGW) (h2 : Cond.instantiable qc.1 qc.2.2 ∈ zGW) (h3 : Cond.initialized qc.1 ∈ zGW) (hroom : w.length + 1 ≤ N + M.2.2.2.2.2) (hcw : zclw w) (hcv : zcln w.length (lv.map (fun q => q.2))) (hcs : zcln w.length st) (kk : zG Z M d Q N (pc + 3) lv (.ref w.length :: st) (w ++ [.inr (ci, zdef ci)])) : zG Z M d Q N pc lv st w := by
  intro p l e R s m args below meth c A D cy QQ ad0 C E ad H locs ls I hl
  obtain ⟨iP, iD, iS, i1, i2, i3, i4⟩ := id I
  obtain ⟨hx, hb, hml, hown, hts, hN, hAO, hK, hA, hRo, hfr, hlo, hce, hsl, hnm⟩ := id C
  obtain ⟨z1, z2, z3, z4, z5, z6⟩ := zcls ci qc hc
  refine va_new (Ts := zGW) (fs := zdef ci) hx hb hts z1 (zTy ci) z2 hown (hts _ h1) (hts _ h2) (hts _ h3) hK iP iD iS hA hc z4 (by omega) (by omega) hd (fun a H1 gP gD gS => ?_)
  have had : ∀ i, i ≠ w.length → (fun i => if i = w.length then a else ad i) i = ad i := fun i hi => if_neg hi
  have ee : zcw (fun i => if i = w.length then a else ad i) cy (w ++ [.inr (ci, zdef ci)]) = zcw ad cy w ++ [(a, .inr (ci, zdef ci))] := by
    rw [zcw_push, zcw_same had hcw]
    show zcw ad cy w ++ [((if w.length = w.length then a else ad w.length), Sum.inr (ci, (zdef ci).map (zcv _)))] = _
    rw [if_pos rfl, z6]
  have K := kk p l e R s m args below meth c A D cy QQ ad0 C E (fun i => if i = w.length then a else ad i) H1 locs ls ⟨by rw [ee]; exact gP, by rw [ee]; exact gD, gS, by rw [List.length_append]; show N ≤ w.length + 1; omega, by rw [List.length_append]; show w.length + 1 ≤ _; omega, i3, fun i hi => by
    rw [List.length_append] at hi
    have hi : i < N ∨ w.length + 1 ≤ i := hi
    rw [had i (by omega)]
    exact i4 i (by omega)⟩ (by rw [zcll_same had hcv]; exact hl)
  rw [List.length_append] at K
  have e1 : w.length + [(Sum.inr (ci, zdef ci) : va_E)].length - N = w.length - N + 1 := by
    show w.length + 1 - N = w.length - N + 1
    omega
  rw [e1, List.map_cons, zcln_same had hcs] at K
  have e2 : zcv (fun i => if i = w.length then a else ad i) (.ref w.length) = .ref a := by
    show Value.ref (if w.length = w.length then a else ad w.length) = _
    rw [if_pos rfl]
  rw [e2] at K
  exact W.widen (Nat.le_refl _) (by omega) K
theorem s_newaI {n : Int32} (n1 : Nat) (hd : decode M.2.2.1 pc = .ok (.newarray .int, 2)) (h1 : Cond.arrayClass (newarray.typeOf .int) ∈ zGW) (hn : ¬ n < 0) (hn1 : n.toNatClampNeg = n1) (hn2 : n1 ≤ 800) (hroom : w.length + 1 ≤ N + M.2.2.2.2.2) (hcw : zclw w) (hcv : zcln w.length (lv.map (fun q => q.2))) (hcs : zcln w.length st) (kk : zG Z M d Q N (pc + 2) lv (.ref w.length :: st) (w ++ [.inl (0, n1, .inl (fun _ => 0))])) : zG Z M d Q N pc lv (.int n :: st) w := by
  intro p l e R s m args below meth c A D cy QQ ad0 C E ad H locs ls I hl
  obtain ⟨iP, iD, iS, i1, i2, i3, i4⟩ := id I
  obtain ⟨hx, hb, hml, hown, hts, hN, hAO, hK, hA, hRo, hfr, hlo, hce, hsl, hnm⟩ := id C
  refine va_newa (atype := .int) (ty := .int) (a0 := (n1, .inl (fun _ => 0))) (N' := n1) hx hb (hts _ h1) rfl hK iP iD iS hA (fun _ => rfl) hn hn1 (Nat.le_trans (Nat.mul_le_mul hn2 (show componentBytes .int ≤ 8 by decide)) (by decide)) (by omega) (by omega) hd (fun a cA H1 gK gP gD gS => ?_)
  have hcA : cA = cy 0 := by
    have g1 := (gK.2 5 (cA, .int) rfl).2
    have g2 := (gK.2 0 (cy 0, .int) rfl).2
    exact Option.some.inj (Eq.trans (Eq.symm g1) g2)
  subst hcA
  have had : ∀ i, i ≠ w.length → (fun i => if i = w.length then a else ad i) i = ad i := fun i hi => if_neg hi
  have ee : zcw (fun i => if i = w.length then a else ad i) cy (w ++ [.inl (0, n1, .inl (fun _ => 0))]) = zcw ad cy w ++ [(a, .inl (cy 0, n1, .inl (fun _ => 0)))] := by
    rw [zcw_push, zcw_same had hcw]
    show zcw ad cy w ++ [((if w.length = w.length then a else ad w.length), Sum.inl (cy 0, n1, .inl (fun _ => 0)))] = _
    rw [if_pos rfl]
  have K := kk p l e R s m args below meth c A D cy QQ ad0 C E (fun i => if i = w.length then a else ad i) H1 locs ls ⟨by rw [ee]; exact gP, by rw [ee]; exact gD, gS, by rw [List.length_append]; show N ≤ w.length + 1; omega, by rw [List.length_append]; show w.length + 1 ≤ _; omega, i3, fun i hi => by
    rw [List.length_append] at hi
    have hi : i < N ∨ w.length + 1 ≤ i := hi
    rw [had i (by omega)]
    exact i4 i (by omega)⟩ (by rw [zcll_same had hcv]; exact hl)
  rw [List.length_append] at K
  have e1 : w.length + [(Sum.inl (0, n1, .inl (fun _ => 0)) : va_E)].length - N = w.length - N + 1 := by
    show w.length + 1 - N = w.length - N + 1
    omega
  rw [e1, List.map_cons, zcln_same had hcs] at K
  have e2 : zcv (fun i => if i = w.length then a else ad i) (.ref w.length) = .ref a := by
    show Value.ref (if w.length = w.length then a else ad w.length) = _
    rw [if_pos rfl]
  rw [e2] at K
  exact W.widen (Nat.le_refl _) (by omega) K
theorem s_newaJ {n : Int32} (n1 : Nat) (hd : decode M.2.2.1 pc = .ok (.newarray .long, 2)) (h1 : Cond.arrayClass (newarray.typeOf .long) ∈ zGW) (hn : ¬ n < 0) (hn1 : n.toNatClampNeg = n1) (hn2 : n1 ≤ 800) (hroom : w.length + 1 ≤ N + M.2.2.2.2.2) (hcw : zclw w) (hcv : zcln w.length (lv.map (fun q => q.2))) (hcs : zcln w.length st) (kk : zG Z M d Q N (pc + 2) lv (.ref w.length :: st) (w ++ [.inl (1, n1, .inr (.inl (fun _ => 0)))])) : zG Z M d Q N pc lv (.int n :: st) w := by
  intro p l e R s m args below meth c A D cy QQ ad0 C E ad H locs ls I hl
  obtain ⟨iP, iD, iS, i1, i2, i3, i4⟩ := id I
  obtain ⟨hx, hb, hml, hown, hts, hN, hAO, hK, hA, hRo, hfr, hlo, hce, hsl, hnm⟩ := id C
  refine va_newa (atype := .long) (ty := .long) (a0 := (n1, .inr (.inl (fun _ => 0)))) (N' := n1) hx hb (hts _ h1) rfl hK iP iD iS hA (fun _ => rfl) hn hn1 (Nat.le_trans (Nat.mul_le_mul hn2 (show componentBytes .long ≤ 8 by decide)) (by decide)) (by omega) (by omega) hd (fun a cA H1 gK gP gD gS => ?_)
  have hcA : cA = cy 1 := by
    have g1 := (gK.2 5 (cA, .long) rfl).2
    have g2 := (gK.2 1 (cy 1, .long) rfl).2
    exact Option.some.inj (Eq.trans (Eq.symm g1) g2)
  subst hcA
  have had : ∀ i, i ≠ w.length → (fun i => if i = w.length then a else ad i) i = ad i := fun i hi => if_neg hi
  have ee : zcw (fun i => if i = w.length then a else ad i) cy (w ++ [.inl (1, n1, .inr (.inl (fun _ => 0)))]) = zcw ad cy w ++ [(a, .inl (cy 1, n1, .inr (.inl (fun _ => 0))))] := by
    rw [zcw_push, zcw_same had hcw]
    show zcw ad cy w ++ [((if w.length = w.length then a else ad w.length), Sum.inl (cy 1, n1, .inr (.inl (fun _ => 0))))] = _
    rw [if_pos rfl]
  have K := kk p l e R s m args below meth c A D cy QQ ad0 C E (fun i => if i = w.length then a else ad i) H1 locs ls ⟨by rw [ee]; exact gP, by rw [ee]; exact gD, gS, by rw [List.length_append]; show N ≤ w.length + 1; omega, by rw [List.length_append]; show w.length + 1 ≤ _; omega, i3, fun i hi => by
    rw [List.length_append] at hi
    have hi : i < N ∨ w.length + 1 ≤ i := hi
    rw [had i (by omega)]
    exact i4 i (by omega)⟩ (by rw [zcll_same had hcv]; exact hl)
  rw [List.length_append] at K
  have e1 : w.length + [(Sum.inl (1, n1, .inr (.inl (fun _ => 0))) : va_E)].length - N = w.length - N + 1 := by
    show w.length + 1 - N = w.length - N + 1
    omega
  rw [e1, List.map_cons, zcln_same had hcs] at K
  have e2 : zcv (fun i => if i = w.length then a else ad i) (.ref w.length) = .ref a := by
    show Value.ref (if w.length = w.length then a else ad w.length) = _
    rw [if_pos rfl]
  rw [e2] at K
  exact W.widen (Nat.le_refl _) (by omega) K
theorem s_newaB {n : Int32} (n1 : Nat) (hd : decode M.2.2.1 pc = .ok (.newarray .byte, 2)) (h1 : Cond.arrayClass (newarray.typeOf .byte) ∈ zGW) (hn : ¬ n < 0) (hn1 : n.toNatClampNeg = n1) (hn2 : n1 ≤ 800) (hroom : w.length + 1 ≤ N + M.2.2.2.2.2) (hcw : zclw w) (hcv : zcln w.length (lv.map (fun q => q.2))) (hcs : zcln w.length st) (kk : zG Z M d Q N (pc + 2) lv (.ref w.length :: st) (w ++ [.inl (2, n1, .inl (fun _ => 0))])) : zG Z M d Q N pc lv (.int n :: st) w := by
  intro p l e R s m args below meth c A D cy QQ ad0 C E ad H locs ls I hl
  obtain ⟨iP, iD, iS, i1, i2, i3, i4⟩ := id I
  obtain ⟨hx, hb, hml, hown, hts, hN, hAO, hK, hA, hRo, hfr, hlo, hce, hsl, hnm⟩ := id C
  refine va_newa (atype := .byte) (ty := .byte) (a0 := (n1, .inl (fun _ => 0))) (N' := n1) hx hb (hts _ h1) rfl hK iP iD iS hA (fun _ => rfl) hn hn1 (Nat.le_trans (Nat.mul_le_mul hn2 (show componentBytes .byte ≤ 8 by decide)) (by decide)) (by omega) (by omega) hd (fun a cA H1 gK gP gD gS => ?_)
  have hcA : cA = cy 2 := by
    have g1 := (gK.2 5 (cA, .byte) rfl).2
    have g2 := (gK.2 2 (cy 2, .byte) rfl).2
    exact Option.some.inj (Eq.trans (Eq.symm g1) g2)
  subst hcA
  have had : ∀ i, i ≠ w.length → (fun i => if i = w.length then a else ad i) i = ad i := fun i hi => if_neg hi
  have ee : zcw (fun i => if i = w.length then a else ad i) cy (w ++ [.inl (2, n1, .inl (fun _ => 0))]) = zcw ad cy w ++ [(a, .inl (cy 2, n1, .inl (fun _ => 0)))] := by
    rw [zcw_push, zcw_same had hcw]
    show zcw ad cy w ++ [((if w.length = w.length then a else ad w.length), Sum.inl (cy 2, n1, .inl (fun _ => 0)))] = _
    rw [if_pos rfl]
  have K := kk p l e R s m args below meth c A D cy QQ ad0 C E (fun i => if i = w.length then a else ad i) H1 locs ls ⟨by rw [ee]; exact gP, by rw [ee]; exact gD, gS, by rw [List.length_append]; show N ≤ w.length + 1; omega, by rw [List.length_append]; show w.length + 1 ≤ _; omega, i3, fun i hi => by
    rw [List.length_append] at hi
    have hi : i < N ∨ w.length + 1 ≤ i := hi
    rw [had i (by omega)]
    exact i4 i (by omega)⟩ (by rw [zcll_same had hcv]; exact hl)
  rw [List.length_append] at K
  have e1 : w.length + [(Sum.inl (2, n1, .inl (fun _ => 0)) : va_E)].length - N = w.length - N + 1 := by
    show w.length + 1 - N = w.length - N + 1
    omega
  rw [e1, List.map_cons, zcln_same had hcs] at K
  have e2 : zcv (fun i => if i = w.length then a else ad i) (.ref w.length) = .ref a := by
    show Value.ref (if w.length = w.length then a else ad w.length) = _
    rw [if_pos rfl]
  rw [e2] at K
  exact W.widen (Nat.le_refl _) (by omega) K
theorem s_newaZ {n : Int32} (n1 : Nat) (hd : decode M.2.2.1 pc = .ok (.newarray .boolean, 2)) (h1 : Cond.arrayClass (newarray.typeOf .boolean) ∈ zGW) (hn : ¬ n < 0) (hn1 : n.toNatClampNeg = n1) (hn2 : n1 ≤ 800) (hroom : w.length + 1 ≤ N + M.2.2.2.2.2) (hcw : zclw w) (hcv : zcln w.length (lv.map (fun q => q.2))) (hcs : zcln w.length st) (kk : zG Z M d Q N (pc + 2) lv (.ref w.length :: st) (w ++ [.inl (3, n1, .inl (fun _ => 0))])) : zG Z M d Q N pc lv (.int n :: st) w := by
  intro p l e R s m args below meth c A D cy QQ ad0 C E ad H locs ls I hl
  obtain ⟨iP, iD, iS, i1, i2, i3, i4⟩ := id I
  obtain ⟨hx, hb, hml, hown, hts, hN, hAO, hK, hA, hRo, hfr, hlo, hce, hsl, hnm⟩ := id C
  refine va_newa (atype := .boolean) (ty := .boolean) (a0 := (n1, .inl (fun _ => 0))) (N' := n1) hx hb (hts _ h1) rfl hK iP iD iS hA (fun _ => rfl) hn hn1 (Nat.le_trans (Nat.mul_le_mul hn2 (show componentBytes .boolean ≤ 8 by decide)) (by decide)) (by omega) (by omega) hd (fun a cA H1 gK gP gD gS => ?_)
  have hcA : cA = cy 3 := by
    have g1 := (gK.2 5 (cA, .boolean) rfl).2
    have g2 := (gK.2 3 (cy 3, .boolean) rfl).2
    exact Option.some.inj (Eq.trans (Eq.symm g1) g2)
  subst hcA
  have had : ∀ i, i ≠ w.length → (fun i => if i = w.length then a else ad i) i = ad i := fun i hi => if_neg hi
  have ee : zcw (fun i => if i = w.length then a else ad i) cy (w ++ [.inl (3, n1, .inl (fun _ => 0))]) = zcw ad cy w ++ [(a, .inl (cy 3, n1, .inl (fun _ => 0)))] := by
    rw [zcw_push, zcw_same had hcw]
    show zcw ad cy w ++ [((if w.length = w.length then a else ad w.length), Sum.inl (cy 3, n1, .inl (fun _ => 0)))] = _
    rw [if_pos rfl]
  have K := kk p l e R s m args below meth c A D cy QQ ad0 C E (fun i => if i = w.length then a else ad i) H1 locs ls ⟨by rw [ee]; exact gP, by rw [ee]; exact gD, gS, by rw [List.length_append]; show N ≤ w.length + 1; omega, by rw [List.length_append]; show w.length + 1 ≤ _; omega, i3, fun i hi => by
    rw [List.length_append] at hi
    have hi : i < N ∨ w.length + 1 ≤ i := hi
    rw [had i (by omega)]
    exact i4 i (by omega)⟩ (by rw [zcll_same had hcv]; exact hl)
  rw [List.length_append] at K
  have e1 : w.length + [(Sum.inl (3, n1, .inl (fun _ => 0)) : va_E)].length - N = w.length - N + 1 := by
    show w.length + 1 - N = w.length - N + 1
    omega
  rw [e1, List.map_cons, zcln_same had hcs] at K
  have e2 : zcv (fun i => if i = w.length then a else ad i) (.ref w.length) = .ref a := by
    show Value.ref (if w.length = w.length then a else ad w.length) = _
    rw [if_pos rfl]
  rw [e2] at K
  exact W.widen (Nat.le_refl _) (by omega) K
end ZH
