/-! THE CLAIM OUT OF ONE WALK OF THE LAW'S BODY. Your part is whole_start (and what it stands on); all else here is the same for every law, but numbers. -/
def R_law : String := "CubeBodiesLaw"
def lw_P (b : Addr) (xs : List Int32) (args : Array Value) (s : State) : Prop := args = #[.ref b] ∧ s.IntsAt b xs ∧ xs.length ≤ 3072 ∧ (Jvm.Cond.and given_1 narrow_1).before args s = true
/-- what a walk over the start with the record d0 says of its end, said of the start itself -/
theorem lw_closed {s t : State} {o : Outcome} {d0 : Drawn} {L : List Loc} {k n : Nat} (hd0 : s.drawn.sameBut d0 lw_cs) (hv : ∃ v, o = .returned v) (hW : (s.setDrawn d0).WarmedH t.vm) (hs : (s.setDrawn d0).sameButNew ({ t with vm := s.vm } : State) L k n) : State.butDraws s t lw_cs (fun t1 => Framed s o t1 L k n) := by
  have h2 : t.drawn = d0 := congrArg State.drawn hs.1
  refine ⟨⟨hv, hW, State.sameButNew.setDrawn hs s.drawn⟩, ?_, by decide⟩
  rw [h2]
  exact hd0
def lw_Q (_ : Array Value) (s : State) (o : Outcome) (t : State) : Prop := o = .returned (some (.int 1)) ∧ State.butDraws s t lw_cs (fun t1 => Framed s o t1 [] 600000 7302250)
def lw_Z (below : List Frame) (a : Array Value) (s : State) : State → Prop := fun t => ∃ o, t.status = .running ∧ Ended t below o ∧ lw_Q a s o t
/-- the law's own end, with 1 on the stack, nothing written that was there before, its room as the claim has it; d0: the record of draws at this point (at the entry s.drawn: begin with 'refine W.base ?_' and 'have hd0 := Drawn.sameBut.refl s.drawn lw_cs') -/
theorem lw_ret {p : Program} {l : Launch} {e : Env} {s : State} {m : MethodId} {below : List Frame} {meth : Method} {c : Code} {b : Nat} {d0 : Drawn} (hd0 : s.drawn.sameBut d0 lw_cs) (hx : p.tables.exec = Jvm.exec) (hb : c.code = code) (hr : meth.sig.returnType = ret) (hlocks : meth.locks = false) {pc : Nat} {H : Heap} {ls : Array Slot} (hdg : decode code pc = .ok (.ireturn, 1)) : W p l e room_1 (s.setDrawn d0) m #[Value.ref b] below meth c H [] 600000 7302250 (lw_Z below #[Value.ref b] s) (F0 m pc ls [.int 1]) := by
  intro T hT X
  obtain ⟨fs, hret, hrun, hended, hW, hframe⟩ := X.leave (v := some (.int 1)) (hlocks := hlocks) (fun h => by rw [hr] at h; cases h)
  have hmeth' : T.vm.method? m = some meth := X.method'
  refine ⟨T.setFrames fs, ?_, .returned (some (.int 1)), hrun, hended, rfl, lw_closed hd0 ⟨_, rfl⟩ hW hframe⟩
  jvm_step X.here [X.here.top, hx, hb, hdg, hmeth', hr, ret, narrow_b1]
  (try refine ⟨rfl, ?_⟩); (try refine ⟨rfl, ?_⟩)
  first | (intro acts; rw [hret _ acts rfl rfl rfl]) | rw [hret _ _ rfl rfl rfl]
  exact Steps.refl _
/-- what holds at the law's entry: the machine, the code, the tables' words (any of lw_tbl by 'hts w (by decide +kernel)'), the script of L ints xs at the cell b, what the Statement gives of the start (any of its parts by flat_of_before) -/
def lw_At (p : Program) (s : State) (m : MethodId) (meth : Method) (c : Code) (b L : Nat) (xs : Nat → Int32) : Prop :=
  p.tables.exec = Jvm.exec ∧ c.code = code ∧ meth.sig.returnType = ret ∧ c.maxLocals = 4 ∧ s.vm.findClass R_law = some m.cls ∧ (∀ w ∈ lw_tbl, w.before #[Value.ref b] s = true) ∧ va_X b L xs s s.heap ∧ b < s.heap.size ∧ meth.locks = false ∧ (Jvm.Cond.and given_1 narrow_1).before #[Value.ref b] s = true
/-! ===== the start ===== -/
theorem ws_ORDERS {b : Nat} {s : State} (hgv : (Jvm.Cond.and given_1 narrow_1).before #[Value.ref b] s = true) (hts : ∀ w ∈ lw_tbl, w.before #[Value.ref b] s = true) : ∃ t : Nat, va_Z "CubeBodies$Cube" "ORDERS" "[I" (.ref t) (fun q => s.heap.size ≤ q) s s.heap ∧ va_T .int t 18 (fun j => .int (zORD j)) (fun q => s.heap.size ≤ q) s s.heap := by
  have hfl := flat_of_before _ hgv
  have hA : ∀ a : Nat, a < s.heap.size → ¬ (fun q : Nat => s.heap.size ≤ q) a := fun a h => Nat.not_le.mpr h
  have hm : ∀ j, j < 18 → Cond.eq (.elem (.static "CubeBodies$Cube" "ORDERS" "[I") (.int (Int32.ofNat j))) (.int (zORD j)) ∈ flatC (Jvm.Cond.and given_1 narrow_1) := by decide +kernel
  obtain ⟨t, h1, h2⟩ := va_Tof (tm := .static "CubeBodies$Cube" "ORDERS" "[I") (ty := .int) (N := 18) (f := fun j => .int (zORD j)) (A := fun q => s.heap.size ≤ q) (by decide) (hfl (.arrayOf (.static "CubeBodies$Cube" "ORDERS" "[I") .int) (by decide +kernel)) (va_eqt (hfl (.eq (.length (.static "CubeBodies$Cube" "ORDERS" "[I")) (.int 18)) (by decide +kernel))) (fun j hj => va_eqt (hfl _ (hm j hj))) hA
  exact ⟨t, va_Zof (hts (.laysStatic "CubeBodies$Cube" "ORDERS" "[I") (List.mem_of_getElem? (i := 239) (by decide +kernel))) (hts (.initialized "CubeBodies$Cube") (List.mem_of_getElem? (i := 66) (by decide +kernel))) h1 hA, h2⟩
theorem ws_FORMS {b : Nat} {s : State} (hgv : (Jvm.Cond.and given_1 narrow_1).before #[Value.ref b] s = true) (hts : ∀ w ∈ lw_tbl, w.before #[Value.ref b] s = true) : ∃ t : Nat, va_Z "CubeBodies$Cube" "FORMS" "[I" (.ref t) (fun q => s.heap.size ≤ q) s s.heap ∧ va_T .int t 22 (fun j => .int (zFRM j)) (fun q => s.heap.size ≤ q) s s.heap := by
  have hfl := flat_of_before _ hgv
  have hA : ∀ a : Nat, a < s.heap.size → ¬ (fun q : Nat => s.heap.size ≤ q) a := fun a h => Nat.not_le.mpr h
  have hm : ∀ j, j < 22 → Cond.eq (.elem (.static "CubeBodies$Cube" "FORMS" "[I") (.int (Int32.ofNat j))) (.int (zFRM j)) ∈ flatC (Jvm.Cond.and given_1 narrow_1) := by decide +kernel
  obtain ⟨t, h1, h2⟩ := va_Tof (tm := .static "CubeBodies$Cube" "FORMS" "[I") (ty := .int) (N := 22) (f := fun j => .int (zFRM j)) (A := fun q => s.heap.size ≤ q) (by decide) (hfl (.arrayOf (.static "CubeBodies$Cube" "FORMS" "[I") .int) (by decide +kernel)) (va_eqt (hfl (.eq (.length (.static "CubeBodies$Cube" "FORMS" "[I")) (.int 22)) (by decide +kernel))) (fun j hj => va_eqt (hfl _ (hm j hj))) hA
  exact ⟨t, va_Zof (hts (.laysStatic "CubeBodies$Cube" "FORMS" "[I") (List.mem_of_getElem? (i := 328) (by decide +kernel))) (hts (.initialized "CubeBodies$Cube") (List.mem_of_getElem? (i := 66) (by decide +kernel))) h1 hA, h2⟩
set_option maxHeartbeats 4000000 in
set_option maxRecDepth 100000 in
theorem ws_known {b : Nat} {s : State} (hts : ∀ w ∈ lw_tbl, w.before #[Value.ref b] s = true) : ∃ (D : va_G) (cy : Nat → ClassId), va_K D vwCl (ztys cy) s := by
  have hg : ∀ w ∈ zGW, w.before #[Value.ref b] s = true := fun w hw => hts w (List.mem_filter.mp hw).1
  obtain ⟨c0, i0, k0⟩ := u_known (C := RX2) (T := TX2) (N := 5) (n := 5) hg (zall_in zu2) (hg (.instantiable RX2 5) (zin 82 (by decide +kernel) (by decide +kernel)))
  obtain ⟨c1, i1, k1⟩ := u_known (C := RX3) (T := TX3) (N := 3) (n := 3) hg (zall_in zu3) (hg (.instantiable RX3 3) (zin 88 (by decide +kernel) (by decide +kernel)))
  obtain ⟨c2, i2, k2⟩ := u_known (C := RX4) (T := TX4) (N := 6) (n := 6) hg (zall_in zu4) (hg (.instantiable RX4 6) (zin 144 (by decide +kernel) (by decide +kernel)))
  obtain ⟨c3, i3, k3⟩ := u_known (C := RX5) (T := TX5) (N := 3) (n := 3) hg (zall_in zu5) (hg (.instantiable RX5 3) (zin 170 (by decide +kernel) (by decide +kernel)))
  obtain ⟨c4, i4, k4⟩ := u_known (C := RX6) (T := TX6) (N := 2) (n := 2) hg (zall_in zu6) (hg (.instantiable RX6 2) (zin 129 (by decide +kernel) (by decide +kernel)))
  obtain ⟨c5, i5, k5⟩ := u_known (C := RX7) (T := TX7) (N := 6) (n := 6) hg (zall_in zu7) (hg (.instantiable RX7 6) (zin 74 (by decide +kernel) (by decide +kernel)))
  obtain ⟨c6, i6, k6⟩ := u_known (C := RX8) (T := TX8) (N := 32) (n := 32) hg (zall_in zu8) (hg (.instantiable RX8 32) (zin 660 (by decide +kernel) (by decide +kernel)))
  obtain ⟨a0, ka0, ca0, n0, m0, t0⟩ := Cond.arrayClass_spec (hg (.arrayClass .int) (zin 104 (by decide +kernel) (by decide +kernel)))
  obtain ⟨a1, ka1, ca1, n1, m1, t1⟩ := Cond.arrayClass_spec (hg (.arrayClass .long) (zin 187 (by decide +kernel) (by decide +kernel)))
  obtain ⟨a2, ka2, ca2, n2, m2, t2⟩ := Cond.arrayClass_spec (hg (.arrayClass .byte) (zin 142 (by decide +kernel) (by decide +kernel)))
  obtain ⟨a3, ka3, ca3, n3, m3, t3⟩ := Cond.arrayClass_spec (hg (.arrayClass .boolean) (zin 766 (by decide +kernel) (by decide +kernel)))
  obtain ⟨ca4, a4, ka4, o1, o2, o3, o4, o5⟩ := Cond.arrayOver_spec (hts (.arrayOver (.object "CubeBodies$Tape")) (List.mem_of_getElem? (i := 169) (by decide +kernel)))
  refine ⟨((fun k => match k with | 0 => c0 | 1 => c1 | 2 => c2 | 3 => c3 | 4 => c4 | 5 => c5 | _ => c6), fun k => match k with | 0 => i0 | 1 => i1 | 2 => i2 | 3 => i3 | 4 => i4 | 5 => i5 | _ => i6), (fun k => match k with | 0 => a0 | 1 => a1 | 2 => a2 | 3 => a3 | _ => a4), ?_, ?_⟩
  · intro k q hq
    match k, hq with
    | 0, hq => cases hq; exact k0
    | 1, hq => cases hq; exact k1
    | 2, hq => cases hq; exact k2
    | 3, hq => cases hq; exact k3
    | 4, hq => cases hq; exact k4
    | 5, hq => cases hq; exact k5
    | 6, hq => cases hq; exact k6
    | k + 7, hq => simp [vwCl] at hq
  · intro k q hq
    match k, hq with
    | 0, hq => cases hq; exact ⟨fun n z => ⟨(fun k h => by cases h), ka0, m0, ca0, t0⟩, n0⟩
    | 1, hq => cases hq; exact ⟨fun n z => ⟨(fun k h => by cases h), ka1, m1, ca1, t1⟩, n1⟩
    | 2, hq => cases hq; exact ⟨fun n z => ⟨(fun k h => by cases h), ka2, m2, ca2, t2⟩, n2⟩
    | 3, hq => cases hq; exact ⟨fun n z => ⟨(fun k h => by cases h), ka3, m3, ca3, t3⟩, n3⟩
    | 4, hq => cases hq; exact ⟨fun n z => ⟨(fun k h => by cases h), ka4, o3, ca4, o4⟩, ka4, ca4, o3, o4, o1, o5⟩
    | k + 5, hq => simp [ztys] at hq
set_option maxHeartbeats 4000000 in
set_option maxRecDepth 100000 in
theorem whole_start {p : Program} {e : Env} {s : State} {m : MethodId} {below : List Frame} {meth : Method} {c : Code} (l : Launch) (hflags : l.flags = flags0) {b L : Nat} {xs : Nat → Int32} (hL : L ≤ 3072) (C0 : lw_At p s m meth c b L xs) : W p l e room_1 s m #[Value.ref b] below meth c s.heap [] 0 0 (lw_Z below #[Value.ref b] s) (entryFrame m ([Value.ref b] : List Value).toArray 4) := by
  obtain ⟨hx, hb, hr, hml, hown, hts, hX, hbl, hlocks, hgv⟩ := id C0
  have hg : ∀ w ∈ zGW, w.before #[Value.ref b] s = true := fun w hw => hts w (List.mem_filter.mp hw).1
  have hN : ∀ w ∈ zNW, va_Nw w s := by
    intro w hw
    have h1 := hts w (List.mem_filter.mp hw).1
    have h2 := (List.mem_filter.mp hw).2
    cases w with
    | fieldLinkNest a i b n d k => exact va_Nw.of rfl h1
    | methodLinkNest a i x k => exact va_Nw.of rfl h1
    | _ => cases h2
  obtain ⟨D, cy, hK⟩ := ws_known hts
  obtain ⟨tO, zO, TO⟩ := ws_ORDERS hgv hts
  obtain ⟨tF, zF1, TF⟩ := ws_FORMS hgv hts
  have hAO : va_AO "CubeBodies$Tape" s := va_AO.of (hts (.arrayOver (.object "CubeBodies$Tape")) (List.mem_of_getElem? (i := 169) (by decide +kernel)))
  have TS : va_T .int b L (fun j => .int (xs j)) (fun q => s.heap.size ≤ q) s s.heap := by
    obtain ⟨scr, h1, h2, h3, h4, h5⟩ := hX
    exact ⟨scr, h1, h2, h3, by omega, by rw [h4], h5, Nat.not_le.mpr hbl⟩
  have hRo : zRo (L, xs) (fun i => if i = 1000 then tO else if i = 1001 then tF else b) (fun q => s.heap.size ≤ q) s s.heap := by
    refine ⟨zO, zF1, fun j hj => ?_⟩
    match j, hj with
    | 0, _ => exact TO
    | 1, _ => exact TF
    | 2, _ => exact TS
  have hl := lv_entry ([.ref b]) (n := 4) (Nat.le_of_ble_eq_true rfl)
  rw [lg_entry_eq]
  generalize (lg_sl ([.ref b]) ++ List.replicate (4 - (lg_sl ([.ref b])).length) Slot.unset).toArray = ls at hl ⊢
  have hl : lv_has ls 4 [(0, .ref b)] := hl
  have key := law_start (Z := (L, xs)) (nm := meth.name) hL p l e room_1 s m #[Value.ref b] below meth c (fun q => s.heap.size ≤ q) D cy (lw_Z below #[Value.ref b] s) (fun i => if i = 1000 then tO else if i = 1001 then tF else b)
    ⟨hx, hb, hml, hown, hg, hN, hAO, hK, fun q h => h, hRo, Nat.le_of_ble_eq_true rfl, Nat.le_of_ble_eq_true rfl, Nat.le_of_ble_eq_true rfl, Nat.le_of_ble_eq_true rfl, rfl⟩
    (by
      intro r w1 ad1 H locs pc ls1 hQ hlen hI hret
      obtain ⟨iP, iD, iS, i1, i2, i3, i4⟩ := hI
      subst hQ
      rcases hret with ⟨e1, e2, e3⟩ | ⟨e1, e2, x, e3⟩ | ⟨e1, e2, x, e3, e4⟩ | ⟨e1, e2, x, e3⟩ | ⟨e1, e2, x, e3⟩ | ⟨e1, e2, x, e3⟩
      · cases e1
      · cases e1
      · refine va_forget (fun q hq => iS.2.2 q hq) ?_
        refine W.widen (k := 600000) (n := 7302250) (Nat.le_of_ble_eq_true rfl) (Nat.le_of_ble_eq_true rfl) ?_
        refine W.base ?_
        exact lw_ret (Drawn.sameBut.refl s.drawn lw_cs) hx hb hr hlocks e2
      · cases e1
      · cases e1
      · cases e1)
    (fun i => if i = 1000 then tO else if i = 1001 then tF else b) s.heap [] ls
    ⟨fun k q h => by simp [zcw] at h, ⟨fun i j p q h => by simp [zcw] at h, fun k q h => by simp [zcw] at h⟩, va_S.rf, Nat.le_of_ble_eq_true rfl, Nat.le_of_ble_eq_true rfl, Nat.le_of_ble_eq_true rfl, fun _ _ => rfl⟩ hl
  exact key
