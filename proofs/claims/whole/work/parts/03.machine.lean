/-! ===== the small machine: one world of cells, references by their places in it ===== -/
abbrev zS : Type := Nat × (Nat → Int32)
abbrev zM : Type := String × MethodName × ByteArray × Nat × Option FieldType × Nat
abbrev zW : Type := List va_E
def zGW : List Cond := lw_tbl.filter goodWord
def zisN : Cond → Bool
  | .fieldLinkNest .. => true
  | .methodLinkNest .. => true
  | _ => false
def zNW : List Cond := lw_tbl.filter zisN
theorem zin (i : Nat) {w : Cond} (h : lw_tbl[i]? = some w) (g : goodWord w = true) : w ∈ zGW := List.mem_filter.mpr ⟨List.mem_of_getElem? h, g⟩
theorem znin (i : Nat) {w : Cond} (h : lw_tbl[i]? = some w) (g : zisN w = true) : w ∈ zNW := List.mem_filter.mpr ⟨List.mem_of_getElem? h, g⟩
theorem zGW_good : ∀ w ∈ zGW, (w.onTables && w.keeps) = true ∨ ∃ ty, w = .arrayClass ty := fun _ h => good_of_word (List.mem_filter.mp h).2
theorem zNW_warm {s U : State} (hW : s.WarmedH U.vm) (h : ∀ w ∈ zNW, va_Nw w s) : ∀ w ∈ zNW, va_Nw w U := by
  intro w hw
  have h1 := h w hw
  have h2 := (List.mem_filter.mp hw).2
  cases w with
  | fieldLinkNest a i b n d k => exact va_Nw.warmF hW h1
  | methodLinkNest a i x k => exact va_Nw.warmM hW h1
  | _ => cases h2
theorem zNW_same {s U : State} (hv : s.vm = U.vm) (h : ∀ w ∈ zNW, va_Nw w s) : ∀ w ∈ zNW, va_Nw w U := by
  intro w hw
  have h1 := h w hw
  have h2 := (List.mem_filter.mp hw).2
  cases w with
  | fieldLinkNest a i b n d k => exact va_Nw.same rfl hv h1
  | methodLinkNest a i x k => exact va_Nw.same rfl hv h1
  | _ => cases h2
def ztys (cy : Nat → ClassId) : List (ClassId × FieldType) := [(cy 0, .int), (cy 1, .long), (cy 2, .byte), (cy 3, .boolean), (cy 4, .object "CubeBodies$Tape")]
/-- a value with places turned into addresses -/
def zcv (ad : Nat → Nat) (v : Value) : Value := match v with
  | .ref k => .ref (ad k)
  | x => x
def zce (ad : Nat → Nat) (cy : Nat → ClassId) (e : va_E) : va_E := match e with
  | .inl (t, n, .inl f) => .inl (cy t, n, .inl f)
  | .inl (t, n, .inr (.inl f)) => .inl (cy t, n, .inr (.inl f))
  | .inl (t, n, .inr (.inr (.inl f))) => .inl (cy t, n, .inr (.inr (.inl f)))
  | .inl (t, n, .inr (.inr (.inr (.inl f)))) => .inl (cy t, n, .inr (.inr (.inr (.inl f))))
  | .inl (t, n, .inr (.inr (.inr (.inr f)))) => .inl (cy t, n, .inr (.inr (.inr (.inr (fun j => (f j).map ad)))))
  | .inr (ci, fs) => .inr (ci, fs.map (zcv ad))
def zcw (ad : Nat → Nat) (cy : Nat → ClassId) (w : zW) : va_W := w.mapIdx (fun k e => (ad k, zce ad cy e))
def zcl (ad : Nat → Nat) (lv : List (Nat × Value)) : List (Nat × Value) := lv.map (fun q => (q.1, zcv ad q.2))
theorem zcv_cat (ad : Nat → Nat) (v : Value) : (zcv ad v).category = v.category := by cases v <;> rfl
theorem zcv_cats (ad : Nat → Nat) (l : List Value) : ((l.map (zcv ad)).map fun v => v.category) = l.map fun v => v.category := by
  rw [List.map_map]
  exact List.map_congr_left (fun v _ => zcv_cat ad v)
theorem zcw_get (ad : Nat → Nat) (cy : Nat → ClassId) (w : zW) (k : Nat) : (zcw ad cy w)[k]? = w[k]?.map (fun e => (ad k, zce ad cy e)) := by
  unfold zcw
  rw [List.getElem?_mapIdx]
theorem zcw_at {ad : Nat → Nat} {cy : Nat → ClassId} {w : zW} {k : Nat} {e : va_E} (h : w[k]? = some e) : (zcw ad cy w)[k]? = some (ad k, zce ad cy e) := by
  rw [zcw_get, h]; rfl
theorem zcw_len (ad : Nat → Nat) (cy : Nat → ClassId) (w : zW) : (zcw ad cy w).length = w.length := by
  unfold zcw
  exact List.length_mapIdx
theorem zcw_set (ad : Nat → Nat) (cy : Nat → ClassId) (w : zW) (k : Nat) (e : va_E) : zcw ad cy (w.set k e) = (zcw ad cy w).set k (ad k, zce ad cy e) := by
  apply List.ext_getElem?
  intro i
  rw [zcw_get, List.getElem?_set, List.getElem?_set, zcw_get, zcw_len]
  by_cases h : k = i
  · subst h
    by_cases h2 : k < w.length
    · simp [h2]
    · simp [h2]
  · simp [h]
theorem zcw_push (ad : Nat → Nat) (cy : Nat → ClassId) (w : zW) (e : va_E) : zcw ad cy (w ++ [e]) = zcw ad cy w ++ [(ad w.length, zce ad cy e)] := by
  unfold zcw
  rw [List.mapIdx_append]
  simp
/-- read-only arrays: the class's two tables, the script -/
def zORD : Nat → Int32 := fun j => ([0, 1, 2, 0, 2, 1, 1, 0, 2, 1, 2, 0, 2, 0, 1, 2, 1, 0] : List Int32).getD j 0
def zFRM : Nat → Int32 := fun j => ([0, 1, 3, 6, 7, 15, 22, 23, 24, 25, 27, 30, 31, 60, 61, 63, 105, 107, 111, 126, 127, 255] : List Int32).getD j 0
def zRoT (Z : zS) : Nat → Nat × (Nat → Int32)
  | 0 => (18, zORD)
  | 1 => (22, zFRM)
  | _ => Z
def zRo (Z : zS) (ad : Nat → Nat) (A : Nat → Prop) (s : State) (H : Heap) : Prop :=
  va_Z "CubeBodies$Cube" "ORDERS" "[I" (.ref (ad 1000)) A s H ∧ va_Z "CubeBodies$Cube" "FORMS" "[I" (.ref (ad 1001)) A s H ∧ ∀ j, j < 3 → va_T .int (ad (1000 + j)) (zRoT Z j).1 (fun i => .int ((zRoT Z j).2 i)) A s H
theorem zRo_moved {Z : zS} {ad : Nat → Nat} {A : Nat → Prop} {u U : State} {H : Heap} (hvm : u.vm.Alike U.vm) (h : zRo Z ad A u H) : zRo Z ad A U H :=
  ⟨h.1.moved hvm, h.2.1.moved hvm, fun j hj => (h.2.2 j hj).moved hvm⟩
theorem zRo_kept {Z : zS} {ad : Nat → Nat} {A : Nat → Prop} {u : State} {H H1 : Heap} (hq : ∀ a : Nat, a < H.size → ¬ A a → H1[a]? = H[a]?) (h : zRo Z ad A u H) : zRo Z ad A u H1 :=
  ⟨h.1.kept hq, h.2.1.kept hq, fun j hj => (h.2.2 j hj).kept hq⟩
theorem zRo_narrow {Z : zS} {ad : Nat → Nat} {A B : Nat → Prop} {u : State} {H : Heap} (hAB : ∀ q, B q → A q) (h : zRo Z ad A u H) : zRo Z ad B u H :=
  ⟨h.1.narrow hAB, h.2.1.narrow hAB, fun j hj => (h.2.2 j hj).narrow hAB⟩
theorem zRo_ad {Z : zS} {ad ad' : Nat → Nat} {A : Nat → Prop} {u : State} {H : Heap} (e : ∀ i, 1000 ≤ i → ad' i = ad i) (h : zRo Z ad A u H) : zRo Z ad' A u H := by
  refine ⟨?_, ?_, fun j hj => ?_⟩
  · rw [e 1000 (by omega)]; exact h.1
  · rw [e 1001 (by omega)]; exact h.2.1
  · rw [e (1000 + j) (by omega)]; exact h.2.2 j hj
/-- what a walk stands on -/
def zC (Z : zS) (M : zM) (d : Nat) (p : Program) (R : Room) (s : State) (m : MethodId) (args : Array Value) (meth : Method) (c : Code) (A : Nat → Prop) (D : va_G) (cy : Nat → ClassId) (ad0 : Nat → Nat) : Prop :=
  p.tables.exec = Jvm.exec ∧ c.code = M.2.2.1 ∧ c.maxLocals = M.2.2.2.1 ∧ s.vm.findClass M.1 = some m.cls ∧ (∀ w ∈ zGW, w.before args s = true) ∧ (∀ w ∈ zNW, va_Nw w s) ∧ va_AO "CubeBodies$Tape" s ∧ va_K D vwCl (ztys cy) s ∧ (∀ q, s.heap.size ≤ q → A q) ∧ zRo Z ad0 A s s.heap ∧ d ≤ R.frames ∧ 40 * d ≤ R.locals ∧ M.2.2.2.2.2 ≤ R.cells ∧ 800 * M.2.2.2.2.2 ≤ R.slots ∧ meth.name = M.2.1.name
/-- the world is held by the heap -/
def zI (M : zM) (N : Nat) (A : Nat → Prop) (D : va_G) (cy : Nat → ClassId) (ad0 ad : Nat → Nat) (s : State) (w : zW) (H : Heap) (locs : List Loc) : Prop :=
  va_P D vwCl (zcw ad cy w) H ∧ va_D A (zcw ad cy w) ∧ va_S A s.heap H locs ∧ N ≤ w.length ∧ w.length ≤ N + M.2.2.2.2.2 ∧ N + M.2.2.2.2.2 ≤ 1000 ∧ ∀ i, (i < N ∨ w.length ≤ i) → ad i = ad0 i
def zRet (M : zM) (pc : Nat) (r : List Value) : Prop :=
  (M.2.2.2.2.1 = none ∧ decode M.2.2.1 pc = .ok (.return_, 1) ∧ r = []) ∨
  (M.2.2.2.2.1 = some .int ∧ decode M.2.2.1 pc = .ok (.ireturn, 1) ∧ ∃ x, r = [.int x]) ∨
  (M.2.2.2.2.1 = some .boolean ∧ decode M.2.2.1 pc = .ok (.ireturn, 1) ∧ ∃ x, r = [.int x] ∧ (x = 0 ∨ x = 1)) ∨
  (M.2.2.2.2.1 = some .long ∧ decode M.2.2.1 pc = .ok (.lreturn, 1) ∧ ∃ x, r = [.long x]) ∨
  (M.2.2.2.2.1 = some .float ∧ decode M.2.2.1 pc = .ok (.freturn, 1) ∧ ∃ x, r = [.float x]) ∨
  (M.2.2.2.2.1 = some .double ∧ decode M.2.2.1 pc = .ok (.dreturn, 1) ∧ ∃ x, r = [.double x])
/-- from here the method comes to its end, with Q -/
def zG (Z : zS) (M : zM) (d : Nat) (Q : List Value → zW → Prop) (N : Nat) (pc : Nat) (lv : List (Nat × Value)) (st : List Value) (w : zW) : Prop :=
  ∀ (p : Program) (l : Launch) (e : Env) (R : Room) (s : State) (m : MethodId) (args : Array Value) (below : List Frame) (meth : Method) (c : Code) (A : Nat → Prop) (D : va_G) (cy : Nat → ClassId) (QQ : State → Prop) (ad0 : Nat → Nat),
    zC Z M d p R s m args meth c A D cy ad0 →
    (∀ (r : List Value) (w : zW) (ad : Nat → Nat) (H : Heap) (locs : List Loc) (pc : Nat) (ls : Array Slot), Q r w → w.length = N + M.2.2.2.2.2 → zI M N A D cy ad0 ad s w H locs → zRet M pc r → W p l e R s m args below meth c H locs M.2.2.2.2.2 (800 * M.2.2.2.2.2) QQ (F0 m pc ls (r.map (zcv ad)))) →
    ∀ (ad : Nat → Nat) (H : Heap) (locs : List Loc) (ls : Array Slot), zI M N A D cy ad0 ad s w H locs → lv_has ls M.2.2.2.1 (zcl ad lv) → W p l e R s m args below meth c H locs (w.length - N) (800 * (w.length - N)) QQ (F0 m pc ls (st.map (zcv ad)))
/-- a call: with these arguments, in this world, it answers r and leaves the world w' -/
def zF (Z : zS) (M : zM) (d : Nat) (As : List Value) (w : zW) (r : List Value) (w' : zW) : Prop := zG Z M d (fun r1 w1 => r1 = r ∧ w1 = w') w.length 0 (lv_args 0 As) [] w
def zMok (M : zM) : Prop := Cond.code M.2.1 M.2.2.1 M.2.2.2.1 M.2.2.2.2.1 ∈ zGW ∧ Cond.initialized M.2.1.cls ∈ zGW ∧ plainFor M.2.1 = true ∧ (M.2.1.cls ≠ "java/lang/invoke/MethodHandle" ∧ M.2.1.cls ≠ "java/lang/invoke/VarHandle") ∧ M.1 = M.2.1.cls ∧ M.2.2.2.1 ≤ 21
theorem zcl_args (ad : Nat → Nat) : ∀ (i : Nat) (As : List Value), lv_args i (As.map (zcv ad)) = zcl ad (lv_args i As)
  | _, [] => rfl
  | i, v :: vs => by
    show (i, zcv ad v) :: lv_args (if (zcv ad v).category = 2 then i + 2 else i + 1) (vs.map (zcv ad)) = _
    rw [zcv_cat, zcl_args ad _ vs]
    rfl
def zroom (M : zM) (d : Nat) : Room := { frames := d, cells := M.2.2.2.2.2, slots := 800 * M.2.2.2.2.2, locals := 40 * d }
def zPc (Z : zS) (As : List Value) (D : va_G) (cy : Nat → ClassId) (ad : Nat → Nat) (w : zW) (sz : Nat) : Array Value → State → Prop := fun a U =>
  a = (As.map (zcv ad)).toArray ∧ U.heap.size = sz ∧ va_P D vwCl (zcw ad cy w) U.heap ∧ va_D (fun _ => True) (zcw ad cy w) ∧ va_K D vwCl (ztys cy) U ∧ (∀ w ∈ zNW, va_Nw w U) ∧ va_AO "CubeBodies$Tape" U ∧ zRo Z ad (va_A (zcw ad cy w) sz) U U.heap
def zQc (M : zM) (Q : List Value → zW → Prop) (D : va_G) (cy : Nat → ClassId) (ad : Nat → Nat) (w : zW) (sz : Nat) : Array Value → State → Outcome → State → Prop := fun _ st o t =>
  (∃ (r : List Value) (w' : zW) (ad' : Nat → Nat), Q r w' ∧ w'.length = w.length + M.2.2.2.2.2 ∧ o = .returned (r.map (zcv ad')).head? ∧ r.length ≤ 1 ∧ (∀ i, (i < w.length ∨ w.length + M.2.2.2.2.2 ≤ i) → ad' i = ad i) ∧ va_P D vwCl (zcw ad' cy w') t.heap ∧ va_D (va_A (zcw ad cy w) sz) (zcw ad' cy w')) ∧ va_F (va_A (zcw ad cy w) sz) st t
set_option maxHeartbeats 4000000 in
theorem z_met {Z : zS} {M : zM} {d : Nat} {Q : List Value → zW → Prop} {As : List Value} {w : zW} (hM : zMok M) (hG : zG Z M d Q w.length 0 (lv_args 0 As) [] w) (l : Launch) (D : va_G) (cy : Nat → ClassId) (ad : Nat → Nat) (sz : Nat) (hfit : (lg_sl (As.map (zcv ad))).length ≤ M.2.2.2.1) (hw : w.length + M.2.2.2.2.2 ≤ 1000) :
    Met l M.2.1 (Cond.code M.2.1 M.2.2.1 M.2.2.2.1 M.2.2.2.2.1 :: zGW) (zroom M d) (zPc Z As D cy ad w sz) (zQc M Q D cy ad w sz) M.2.2.2.2.2 (800 * M.2.2.2.2.2) (va_A (zcw ad cy w) sz) := by
  refine va_MetF (cc := M.2.2.1) (maxL := M.2.2.2.1) (ret := M.2.2.2.2.1) hM.2.2.1 rfl ?_
  intro p e s m args below meth c s₁ B hml hv
  obtain ⟨rfl, hsz, hP, hD0, hK, hN, hAO, hRo⟩ := hv
  have hts := atoms_spec (ws := Cond.code M.2.1 M.2.2.1 M.2.2.2.1 M.2.2.2.2.1 :: zGW) B.pre
  have hown : s.vm.findClass M.1 = some m.cls := by rw [hM.2.2.2.2.1]; exact findClass_of_methodNamed B.named
  have hlocks := B.notSynchronized
  have hin : meth.name = M.2.1.name := (name_of_methodNamed B.named B.method).1
  subst hsz
  have hD := hD0.self (sz := s.heap.size)
  have hl := lv_entry (As.map (zcv ad)) (n := M.2.2.2.1) hfit
  rw [lg_entry_eq]
  generalize (lg_sl (As.map (zcv ad)) ++ List.replicate (M.2.2.2.1 - (lg_sl (As.map (zcv ad))).length) Slot.unset).toArray = ls at hl ⊢
  rw [zcl_args] at hl
  have hx := B.exec
  have hb := B.bytes
  have hr := B.returns
  have key := hG p l e (zroom M d) s m (As.map (zcv ad)).toArray below meth c (va_A (zcw ad cy w) s.heap.size) D cy (MQ below (zQc M Q D cy ad w s.heap.size) (As.map (zcv ad)).toArray s M.2.2.2.2.2 (800 * M.2.2.2.2.2) (va_A (zcw ad cy w) s.heap.size)) ad
    ⟨hx, hb, hml, hown, fun w h => hts w (List.mem_cons_of_mem _ h), hN, hAO, hK, fun q h => Or.inr h, hRo, Nat.le_refl _, Nat.le_refl _, Nat.le_refl _, Nat.le_refl _, hin⟩
    (by
      intro r w1 ad1 H locs pc ls1 hQ hlen hI hret
      obtain ⟨iP, iD, iS, i1, i2, i3, i4⟩ := hI
      have fin : ∀ (v : Option Value), r.length ≤ 1 → (r.map (zcv ad1)).head? = v → ∀ t : State, t.heap = H → s.WarmedH t.vm → zQc M Q D cy ad w s.heap.size (As.map (zcv ad)).toArray s (.returned v) t := by
        intro v h1 h2 t ht hW
        subst h2
        refine ⟨⟨r, w1, ad1, hQ, hlen, rfl, h1, ?_, by rw [ht]; exact iP, iD⟩, iS.F ht⟩
        intro i hi
        exact i4 i (by rw [hlen]; exact hi)
      rcases hret with ⟨e1, e2, rfl⟩ | ⟨e1, e2, x, rfl⟩ | ⟨e1, e2, x, rfl, e3⟩ | ⟨e1, e2, x, rfl⟩ | ⟨e1, e2, x, rfl⟩ | ⟨e1, e2, x, rfl⟩
      · exact W.vret hx hb (hr.trans e1) (fin none (by decide) rfl) iS.2.2 e2 hlocks
      · exact W.iret hx hb (hr.trans e1) (fin (some (.int x)) (Nat.le_refl _) rfl) iS.2.2 e2 hlocks
      · exact W.zret hx hb (hr.trans e1) (by rcases e3 with rfl | rfl <;> rfl) (fin (some (.int x)) (Nat.le_refl _) rfl) iS.2.2 e2 hlocks
      · exact W.lret hx hb (hr.trans e1) (fin (some (.long x)) (Nat.le_refl _) rfl) iS.2.2 e2 hlocks
      · exact W.fret hx hb (hr.trans e1) (fin (some (.float x)) (Nat.le_refl _) rfl) iS.2.2 e2 hlocks
      · exact W.dret hx hb (hr.trans e1) (fin (some (.double x)) (Nat.le_refl _) rfl) iS.2.2 e2 hlocks)
    ad s.heap [] ls ⟨hP, hD, va_S.rf, Nat.le_refl _, by omega, hw, fun _ _ => rfl⟩ hl
  rw [Nat.sub_self] at key
  exact key
