/-! ===== rows of the small machine: plain instructions ===== -/
section ZA
variable {Z : zS} {M : zM} {d : Nat} {Q : List Value → zW → Prop} {N : Nat} {pc : Nat} {lv : List (Nat × Value)} {st : List Value} {w : zW}
theorem s_iconst {n : Int} {v : Int32} (hdg : decode M.2.2.1 pc = .ok (.iconst n, 1)) (hv : Int32.ofInt n = v)     (k : zG Z M d Q N (pc + 1) lv (.int v :: st) w) : zG Z M d Q N pc lv (st) w := by
  intro p l e R s m args below meth c A D cy QQ ad0 C E ad H locs ls I hl
  exact lv_iconst C.1 C.2.1 hdg hv (k p l e R s m args below meth c A D cy QQ ad0 C E ad H locs ls I hl)
theorem s_bipush {n : Int} {v : Int32} (hdg : decode M.2.2.1 pc = .ok (.bipush n, 2)) (hv : (Int8.ofInt n).toInt32 = v)     (k : zG Z M d Q N (pc + 2) lv (.int v :: st) w) : zG Z M d Q N pc lv (st) w := by
  intro p l e R s m args below meth c A D cy QQ ad0 C E ad H locs ls I hl
  exact lv_bipush C.1 C.2.1 hdg hv (k p l e R s m args below meth c A D cy QQ ad0 C E ad H locs ls I hl)
theorem s_sipush {n : Int} {v : Int32} (hdg : decode M.2.2.1 pc = .ok (.sipush n, 3)) (hv : (Int16.ofInt n).toInt32 = v)     (k : zG Z M d Q N (pc + 3) lv (.int v :: st) w) : zG Z M d Q N pc lv (st) w := by
  intro p l e R s m args below meth c A D cy QQ ad0 C E ad H locs ls I hl
  exact lv_sipush C.1 C.2.1 hdg hv (k p l e R s m args below meth c A D cy QQ ad0 C E ad H locs ls I hl)
theorem s_lconst {n : Fin 2} {v : Int64} (hdg : decode M.2.2.1 pc = .ok (.lconst n, 1)) (hv : Int64.ofNat (n : Nat) = v)     (k : zG Z M d Q N (pc + 1) lv (.long v :: st) w) : zG Z M d Q N pc lv (st) w := by
  intro p l e R s m args below meth c A D cy QQ ad0 C E ad H locs ls I hl
  exact lv_lconst C.1 C.2.1 hdg hv (k p l e R s m args below meth c A D cy QQ ad0 C E ad H locs ls I hl)
theorem s_iadd {x y : Int32} (hdg : decode M.2.2.1 pc = .ok (.iadd, 1))      (k : zG Z M d Q N (pc + 1) lv (.int (x + y) :: st) w) : zG Z M d Q N pc lv (.int y :: .int x :: st) w := by
  intro p l e R s m args below meth c A D cy QQ ad0 C E ad H locs ls I hl
  exact lv_iadd C.1 C.2.1 hdg (k p l e R s m args below meth c A D cy QQ ad0 C E ad H locs ls I hl)
theorem s_isub {x y : Int32} (hdg : decode M.2.2.1 pc = .ok (.isub, 1))      (k : zG Z M d Q N (pc + 1) lv (.int (x - y) :: st) w) : zG Z M d Q N pc lv (.int y :: .int x :: st) w := by
  intro p l e R s m args below meth c A D cy QQ ad0 C E ad H locs ls I hl
  exact lv_isub C.1 C.2.1 hdg (k p l e R s m args below meth c A D cy QQ ad0 C E ad H locs ls I hl)
theorem s_imul {x y : Int32} (hdg : decode M.2.2.1 pc = .ok (.imul, 1))      (k : zG Z M d Q N (pc + 1) lv (.int (x * y) :: st) w) : zG Z M d Q N pc lv (.int y :: .int x :: st) w := by
  intro p l e R s m args below meth c A D cy QQ ad0 C E ad H locs ls I hl
  exact lv_imul C.1 C.2.1 hdg (k p l e R s m args below meth c A D cy QQ ad0 C E ad H locs ls I hl)
theorem s_iand {x y : Int32} (hdg : decode M.2.2.1 pc = .ok (.iand, 1))      (k : zG Z M d Q N (pc + 1) lv (.int (x &&& y) :: st) w) : zG Z M d Q N pc lv (.int y :: .int x :: st) w := by
  intro p l e R s m args below meth c A D cy QQ ad0 C E ad H locs ls I hl
  exact lv_iand C.1 C.2.1 hdg (k p l e R s m args below meth c A D cy QQ ad0 C E ad H locs ls I hl)
theorem s_ior {x y : Int32} (hdg : decode M.2.2.1 pc = .ok (.ior, 1))      (k : zG Z M d Q N (pc + 1) lv (.int (x ||| y) :: st) w) : zG Z M d Q N pc lv (.int y :: .int x :: st) w := by
  intro p l e R s m args below meth c A D cy QQ ad0 C E ad H locs ls I hl
  exact lv_ior C.1 C.2.1 hdg (k p l e R s m args below meth c A D cy QQ ad0 C E ad H locs ls I hl)
theorem s_ixor {x y : Int32} (hdg : decode M.2.2.1 pc = .ok (.ixor, 1))      (k : zG Z M d Q N (pc + 1) lv (.int (x ^^^ y) :: st) w) : zG Z M d Q N pc lv (.int y :: .int x :: st) w := by
  intro p l e R s m args below meth c A D cy QQ ad0 C E ad H locs ls I hl
  exact lv_ixor C.1 C.2.1 hdg (k p l e R s m args below meth c A D cy QQ ad0 C E ad H locs ls I hl)
theorem s_idiv {x y : Int32} (hdg : decode M.2.2.1 pc = .ok (.idiv, 1)) (hne : ¬ y = 0)     (k : zG Z M d Q N (pc + 1) lv (.int (x / y) :: st) w) : zG Z M d Q N pc lv (.int y :: .int x :: st) w := by
  intro p l e R s m args below meth c A D cy QQ ad0 C E ad H locs ls I hl
  exact lv_idiv C.1 C.2.1 hdg hne (k p l e R s m args below meth c A D cy QQ ad0 C E ad H locs ls I hl)
theorem s_irem {x y : Int32} (hdg : decode M.2.2.1 pc = .ok (.irem, 1)) (hne : ¬ y = 0)     (k : zG Z M d Q N (pc + 1) lv (.int (x - x / y * y) :: st) w) : zG Z M d Q N pc lv (.int y :: .int x :: st) w := by
  intro p l e R s m args below meth c A D cy QQ ad0 C E ad H locs ls I hl
  exact lv_irem C.1 C.2.1 hdg hne (k p l e R s m args below meth c A D cy QQ ad0 C E ad H locs ls I hl)
theorem s_ineg {x : Int32} (hdg : decode M.2.2.1 pc = .ok (.ineg, 1))      (k : zG Z M d Q N (pc + 1) lv (.int (-x) :: st) w) : zG Z M d Q N pc lv (.int x :: st) w := by
  intro p l e R s m args below meth c A D cy QQ ad0 C E ad H locs ls I hl
  exact lv_ineg C.1 C.2.1 hdg (k p l e R s m args below meth c A D cy QQ ad0 C E ad H locs ls I hl)
theorem s_ladd {x y : Int64} (hdg : decode M.2.2.1 pc = .ok (.ladd, 1))      (k : zG Z M d Q N (pc + 1) lv (.long (x + y) :: st) w) : zG Z M d Q N pc lv (.long y :: .long x :: st) w := by
  intro p l e R s m args below meth c A D cy QQ ad0 C E ad H locs ls I hl
  exact lv_ladd C.1 C.2.1 hdg (k p l e R s m args below meth c A D cy QQ ad0 C E ad H locs ls I hl)
theorem s_land {x y : Int64} (hdg : decode M.2.2.1 pc = .ok (.land, 1))      (k : zG Z M d Q N (pc + 1) lv (.long (x &&& y) :: st) w) : zG Z M d Q N pc lv (.long y :: .long x :: st) w := by
  intro p l e R s m args below meth c A D cy QQ ad0 C E ad H locs ls I hl
  exact lv_land C.1 C.2.1 hdg (k p l e R s m args below meth c A D cy QQ ad0 C E ad H locs ls I hl)
theorem s_lor {x y : Int64} (hdg : decode M.2.2.1 pc = .ok (.lor, 1))      (k : zG Z M d Q N (pc + 1) lv (.long (x ||| y) :: st) w) : zG Z M d Q N pc lv (.long y :: .long x :: st) w := by
  intro p l e R s m args below meth c A D cy QQ ad0 C E ad H locs ls I hl
  exact lv_lor C.1 C.2.1 hdg (k p l e R s m args below meth c A D cy QQ ad0 C E ad H locs ls I hl)
theorem s_ishl {x y : Int32} (hdg : decode M.2.2.1 pc = .ok (.ishl, 1))      (k : zG Z M d Q N (pc + 1) lv (.int (x <<< (y &&& 31)) :: st) w) : zG Z M d Q N pc lv (.int y :: .int x :: st) w := by
  intro p l e R s m args below meth c A D cy QQ ad0 C E ad H locs ls I hl
  exact lv_ishl C.1 C.2.1 hdg (k p l e R s m args below meth c A D cy QQ ad0 C E ad H locs ls I hl)
theorem s_ishr {x y : Int32} (hdg : decode M.2.2.1 pc = .ok (.ishr, 1))      (k : zG Z M d Q N (pc + 1) lv (.int (x >>> (y &&& 31)) :: st) w) : zG Z M d Q N pc lv (.int y :: .int x :: st) w := by
  intro p l e R s m args below meth c A D cy QQ ad0 C E ad H locs ls I hl
  exact lv_ishr C.1 C.2.1 hdg (k p l e R s m args below meth c A D cy QQ ad0 C E ad H locs ls I hl)
theorem s_i2l {x : Int32} {v : Int64} (hdg : decode M.2.2.1 pc = .ok (.i2l, 1)) (hv : x.toInt64 = v)     (k : zG Z M d Q N (pc + 1) lv (.long v :: st) w) : zG Z M d Q N pc lv (.int x :: st) w := by
  intro p l e R s m args below meth c A D cy QQ ad0 C E ad H locs ls I hl
  exact lv_i2l C.1 C.2.1 hdg hv (k p l e R s m args below meth c A D cy QQ ad0 C E ad H locs ls I hl)
theorem s_l2i {x : Int64} {v : Int32} (hdg : decode M.2.2.1 pc = .ok (.l2i, 1)) (hv : x.toInt32 = v)     (k : zG Z M d Q N (pc + 1) lv (.int v :: st) w) : zG Z M d Q N pc lv (.long x :: st) w := by
  intro p l e R s m args below meth c A D cy QQ ad0 C E ad H locs ls I hl
  exact lv_l2i C.1 C.2.1 hdg hv (k p l e R s m args below meth c A D cy QQ ad0 C E ad H locs ls I hl)
theorem s_i2b {x : Int32} {v : Int32} (hdg : decode M.2.2.1 pc = .ok (.i2b, 1)) (hv : x.toInt8.toInt32 = v)     (k : zG Z M d Q N (pc + 1) lv (.int v :: st) w) : zG Z M d Q N pc lv (.int x :: st) w := by
  intro p l e R s m args below meth c A D cy QQ ad0 C E ad H locs ls I hl
  exact lv_i2b C.1 C.2.1 hdg hv (k p l e R s m args below meth c A D cy QQ ad0 C E ad H locs ls I hl)
theorem s_i2s {x : Int32} {v : Int32} (hdg : decode M.2.2.1 pc = .ok (.i2s, 1)) (hv : x.toInt16.toInt32 = v)     (k : zG Z M d Q N (pc + 1) lv (.int v :: st) w) : zG Z M d Q N pc lv (.int x :: st) w := by
  intro p l e R s m args below meth c A D cy QQ ad0 C E ad H locs ls I hl
  exact lv_i2s C.1 C.2.1 hdg hv (k p l e R s m args below meth c A D cy QQ ad0 C E ad H locs ls I hl)
theorem s_iushr {x y v : Int32} (hdg : decode M.2.2.1 pc = .ok (.iushr, 1)) (hv : (x.toUInt32 >>> (y.toUInt32 &&& Int32.toUInt32 31)).toInt32 = v)     (k : zG Z M d Q N (pc + 1) lv (.int v :: st) w) : zG Z M d Q N pc lv (.int y :: .int x :: st) w := by
  intro p l e R s m args below meth c A D cy QQ ad0 C E ad H locs ls I hl
  exact lv_iushr C.1 C.2.1 hdg hv (k p l e R s m args below meth c A D cy QQ ad0 C E ad H locs ls I hl)
theorem s_lshl {x v : Int64} {y : Int32} (hdg : decode M.2.2.1 pc = .ok (.lshl, 1)) (hv : x <<< (y.toInt64 &&& 63) = v)     (k : zG Z M d Q N (pc + 1) lv (.long v :: st) w) : zG Z M d Q N pc lv (.int y :: .long x :: st) w := by
  intro p l e R s m args below meth c A D cy QQ ad0 C E ad H locs ls I hl
  exact lv_lshl C.1 C.2.1 hdg hv (k p l e R s m args below meth c A D cy QQ ad0 C E ad H locs ls I hl)
theorem s_if_eq {x : Int32} {off : Int} {tgt : Nat} (hdg : decode M.2.2.1 pc = .ok (.ifCond .eq off, 3)) (ht : (pc : Int) + off = (tgt : Int))     (kt : x = 0 → zG Z M d Q N tgt lv (st) w) (kf : ¬ x = 0 → zG Z M d Q N (pc + 3) lv (st) w) : zG Z M d Q N pc lv (.int x :: st) w := by
  intro p l e R s m args below meth c A D cy QQ ad0 C E ad H locs ls I hl
  exact lv_if_eq C.1 C.2.1 hdg ht (fun z => kt z p l e R s m args below meth c A D cy QQ ad0 C E ad H locs ls I hl) (fun z => kf z p l e R s m args below meth c A D cy QQ ad0 C E ad H locs ls I hl)
theorem s_icmp_eq {x y : Int32} {off : Int} {tgt : Nat} (hdg : decode M.2.2.1 pc = .ok (.if_icmp .eq off, 3)) (ht : (pc : Int) + off = (tgt : Int))     (kt : x = y → zG Z M d Q N tgt lv (st) w) (kf : ¬ x = y → zG Z M d Q N (pc + 3) lv (st) w) : zG Z M d Q N pc lv (.int y :: .int x :: st) w := by
  intro p l e R s m args below meth c A D cy QQ ad0 C E ad H locs ls I hl
  exact lv_icmp_eq C.1 C.2.1 hdg ht (fun z => kt z p l e R s m args below meth c A D cy QQ ad0 C E ad H locs ls I hl) (fun z => kf z p l e R s m args below meth c A D cy QQ ad0 C E ad H locs ls I hl)
theorem s_if_ne {x : Int32} {off : Int} {tgt : Nat} (hdg : decode M.2.2.1 pc = .ok (.ifCond .ne off, 3)) (ht : (pc : Int) + off = (tgt : Int))     (kt : ¬ x = 0 → zG Z M d Q N tgt lv (st) w) (kf : x = 0 → zG Z M d Q N (pc + 3) lv (st) w) : zG Z M d Q N pc lv (.int x :: st) w := by
  intro p l e R s m args below meth c A D cy QQ ad0 C E ad H locs ls I hl
  exact lv_if_ne C.1 C.2.1 hdg ht (fun z => kt z p l e R s m args below meth c A D cy QQ ad0 C E ad H locs ls I hl) (fun z => kf z p l e R s m args below meth c A D cy QQ ad0 C E ad H locs ls I hl)
theorem s_icmp_ne {x y : Int32} {off : Int} {tgt : Nat} (hdg : decode M.2.2.1 pc = .ok (.if_icmp .ne off, 3)) (ht : (pc : Int) + off = (tgt : Int))     (kt : ¬ x = y → zG Z M d Q N tgt lv (st) w) (kf : x = y → zG Z M d Q N (pc + 3) lv (st) w) : zG Z M d Q N pc lv (.int y :: .int x :: st) w := by
  intro p l e R s m args below meth c A D cy QQ ad0 C E ad H locs ls I hl
  exact lv_icmp_ne C.1 C.2.1 hdg ht (fun z => kt z p l e R s m args below meth c A D cy QQ ad0 C E ad H locs ls I hl) (fun z => kf z p l e R s m args below meth c A D cy QQ ad0 C E ad H locs ls I hl)
theorem s_if_lt {x : Int32} {off : Int} {tgt : Nat} (hdg : decode M.2.2.1 pc = .ok (.ifCond .lt off, 3)) (ht : (pc : Int) + off = (tgt : Int))     (kt : x < 0 → zG Z M d Q N tgt lv (st) w) (kf : ¬ x < 0 → zG Z M d Q N (pc + 3) lv (st) w) : zG Z M d Q N pc lv (.int x :: st) w := by
  intro p l e R s m args below meth c A D cy QQ ad0 C E ad H locs ls I hl
  exact lv_if_lt C.1 C.2.1 hdg ht (fun z => kt z p l e R s m args below meth c A D cy QQ ad0 C E ad H locs ls I hl) (fun z => kf z p l e R s m args below meth c A D cy QQ ad0 C E ad H locs ls I hl)
theorem s_icmp_lt {x y : Int32} {off : Int} {tgt : Nat} (hdg : decode M.2.2.1 pc = .ok (.if_icmp .lt off, 3)) (ht : (pc : Int) + off = (tgt : Int))     (kt : x < y → zG Z M d Q N tgt lv (st) w) (kf : ¬ x < y → zG Z M d Q N (pc + 3) lv (st) w) : zG Z M d Q N pc lv (.int y :: .int x :: st) w := by
  intro p l e R s m args below meth c A D cy QQ ad0 C E ad H locs ls I hl
  exact lv_icmp_lt C.1 C.2.1 hdg ht (fun z => kt z p l e R s m args below meth c A D cy QQ ad0 C E ad H locs ls I hl) (fun z => kf z p l e R s m args below meth c A D cy QQ ad0 C E ad H locs ls I hl)
theorem s_if_ge {x : Int32} {off : Int} {tgt : Nat} (hdg : decode M.2.2.1 pc = .ok (.ifCond .ge off, 3)) (ht : (pc : Int) + off = (tgt : Int))     (kt : 0 ≤ x → zG Z M d Q N tgt lv (st) w) (kf : ¬ 0 ≤ x → zG Z M d Q N (pc + 3) lv (st) w) : zG Z M d Q N pc lv (.int x :: st) w := by
  intro p l e R s m args below meth c A D cy QQ ad0 C E ad H locs ls I hl
  exact lv_if_ge C.1 C.2.1 hdg ht (fun z => kt z p l e R s m args below meth c A D cy QQ ad0 C E ad H locs ls I hl) (fun z => kf z p l e R s m args below meth c A D cy QQ ad0 C E ad H locs ls I hl)
theorem s_icmp_ge {x y : Int32} {off : Int} {tgt : Nat} (hdg : decode M.2.2.1 pc = .ok (.if_icmp .ge off, 3)) (ht : (pc : Int) + off = (tgt : Int))     (kt : y ≤ x → zG Z M d Q N tgt lv (st) w) (kf : ¬ y ≤ x → zG Z M d Q N (pc + 3) lv (st) w) : zG Z M d Q N pc lv (.int y :: .int x :: st) w := by
  intro p l e R s m args below meth c A D cy QQ ad0 C E ad H locs ls I hl
  exact lv_icmp_ge C.1 C.2.1 hdg ht (fun z => kt z p l e R s m args below meth c A D cy QQ ad0 C E ad H locs ls I hl) (fun z => kf z p l e R s m args below meth c A D cy QQ ad0 C E ad H locs ls I hl)
theorem s_if_gt {x : Int32} {off : Int} {tgt : Nat} (hdg : decode M.2.2.1 pc = .ok (.ifCond .gt off, 3)) (ht : (pc : Int) + off = (tgt : Int))     (kt : 0 < x → zG Z M d Q N tgt lv (st) w) (kf : ¬ 0 < x → zG Z M d Q N (pc + 3) lv (st) w) : zG Z M d Q N pc lv (.int x :: st) w := by
  intro p l e R s m args below meth c A D cy QQ ad0 C E ad H locs ls I hl
  exact lv_if_gt C.1 C.2.1 hdg ht (fun z => kt z p l e R s m args below meth c A D cy QQ ad0 C E ad H locs ls I hl) (fun z => kf z p l e R s m args below meth c A D cy QQ ad0 C E ad H locs ls I hl)
theorem s_icmp_gt {x y : Int32} {off : Int} {tgt : Nat} (hdg : decode M.2.2.1 pc = .ok (.if_icmp .gt off, 3)) (ht : (pc : Int) + off = (tgt : Int))     (kt : y < x → zG Z M d Q N tgt lv (st) w) (kf : ¬ y < x → zG Z M d Q N (pc + 3) lv (st) w) : zG Z M d Q N pc lv (.int y :: .int x :: st) w := by
  intro p l e R s m args below meth c A D cy QQ ad0 C E ad H locs ls I hl
  exact lv_icmp_gt C.1 C.2.1 hdg ht (fun z => kt z p l e R s m args below meth c A D cy QQ ad0 C E ad H locs ls I hl) (fun z => kf z p l e R s m args below meth c A D cy QQ ad0 C E ad H locs ls I hl)
theorem s_if_le {x : Int32} {off : Int} {tgt : Nat} (hdg : decode M.2.2.1 pc = .ok (.ifCond .le off, 3)) (ht : (pc : Int) + off = (tgt : Int))     (kt : x ≤ 0 → zG Z M d Q N tgt lv (st) w) (kf : ¬ x ≤ 0 → zG Z M d Q N (pc + 3) lv (st) w) : zG Z M d Q N pc lv (.int x :: st) w := by
  intro p l e R s m args below meth c A D cy QQ ad0 C E ad H locs ls I hl
  exact lv_if_le C.1 C.2.1 hdg ht (fun z => kt z p l e R s m args below meth c A D cy QQ ad0 C E ad H locs ls I hl) (fun z => kf z p l e R s m args below meth c A D cy QQ ad0 C E ad H locs ls I hl)
theorem s_icmp_le {x y : Int32} {off : Int} {tgt : Nat} (hdg : decode M.2.2.1 pc = .ok (.if_icmp .le off, 3)) (ht : (pc : Int) + off = (tgt : Int))     (kt : x ≤ y → zG Z M d Q N tgt lv (st) w) (kf : ¬ x ≤ y → zG Z M d Q N (pc + 3) lv (st) w) : zG Z M d Q N pc lv (.int y :: .int x :: st) w := by
  intro p l e R s m args below meth c A D cy QQ ad0 C E ad H locs ls I hl
  exact lv_icmp_le C.1 C.2.1 hdg ht (fun z => kt z p l e R s m args below meth c A D cy QQ ad0 C E ad H locs ls I hl) (fun z => kf z p l e R s m args below meth c A D cy QQ ad0 C E ad H locs ls I hl)
theorem s_goto {off : Int} {tgt : Nat} (hdg : decode M.2.2.1 pc = .ok (.goto off, 3)) (ht : (pc : Int) + off = (tgt : Int)) (k : zG Z M d Q N tgt lv (st) w) : zG Z M d Q N pc lv (st) w := by
  intro p l e R s m args below meth c A D cy QQ ad0 C E ad H locs ls I hl
  exact lv_goto C.1 C.2.1 hdg ht (k p l e R s m args below meth c A D cy QQ ad0 C E ad H locs ls I hl)
theorem s_fconst0  (hdg : decode M.2.2.1 pc = .ok (.fconst 0, 1))      (k : zG Z M d Q N (pc + 1) lv (.float FP.fconst0 :: st) w) : zG Z M d Q N pc lv (st) w := by
  intro p l e R s m args below meth c A D cy QQ ad0 C E ad H locs ls I hl
  exact lv_fconst0 C.1 C.2.1 hdg (k p l e R s m args below meth c A D cy QQ ad0 C E ad H locs ls I hl)
theorem s_fconst1  (hdg : decode M.2.2.1 pc = .ok (.fconst 1, 1))      (k : zG Z M d Q N (pc + 1) lv (.float FP.fconst1 :: st) w) : zG Z M d Q N pc lv (st) w := by
  intro p l e R s m args below meth c A D cy QQ ad0 C E ad H locs ls I hl
  exact lv_fconst1 C.1 C.2.1 hdg (k p l e R s m args below meth c A D cy QQ ad0 C E ad H locs ls I hl)
theorem s_fconst2  (hdg : decode M.2.2.1 pc = .ok (.fconst 2, 1))      (k : zG Z M d Q N (pc + 1) lv (.float FP.fconst2 :: st) w) : zG Z M d Q N pc lv (st) w := by
  intro p l e R s m args below meth c A D cy QQ ad0 C E ad H locs ls I hl
  exact lv_fconst2 C.1 C.2.1 hdg (k p l e R s m args below meth c A D cy QQ ad0 C E ad H locs ls I hl)
theorem s_dconst0  (hdg : decode M.2.2.1 pc = .ok (.dconst 0, 1))      (k : zG Z M d Q N (pc + 1) lv (.double FP.dconst0 :: st) w) : zG Z M d Q N pc lv (st) w := by
  intro p l e R s m args below meth c A D cy QQ ad0 C E ad H locs ls I hl
  exact lv_dconst0 C.1 C.2.1 hdg (k p l e R s m args below meth c A D cy QQ ad0 C E ad H locs ls I hl)
theorem s_dconst1  (hdg : decode M.2.2.1 pc = .ok (.dconst 1, 1))      (k : zG Z M d Q N (pc + 1) lv (.double FP.dconst1 :: st) w) : zG Z M d Q N pc lv (st) w := by
  intro p l e R s m args below meth c A D cy QQ ad0 C E ad H locs ls I hl
  exact lv_dconst1 C.1 C.2.1 hdg (k p l e R s m args below meth c A D cy QQ ad0 C E ad H locs ls I hl)
theorem s_fadd {x y : UInt32} (hdg : decode M.2.2.1 pc = .ok (.fadd, 1)) (hne : vf_n32 (FP.fadd x y))     (k : zG Z M d Q N (pc + 1) lv (.float (FP.fadd x y) :: st) w) : zG Z M d Q N pc lv (.float y :: .float x :: st) w := by
  intro p l e R s m args below meth c A D cy QQ ad0 C E ad H locs ls I hl
  exact lv_fadd C.1 C.2.1 hdg hne (k p l e R s m args below meth c A D cy QQ ad0 C E ad H locs ls I hl)
theorem s_fdiv {x y : UInt32} (hdg : decode M.2.2.1 pc = .ok (.fdiv, 1)) (hne : vf_n32 (FP.fdiv x y))     (k : zG Z M d Q N (pc + 1) lv (.float (FP.fdiv x y) :: st) w) : zG Z M d Q N pc lv (.float y :: .float x :: st) w := by
  intro p l e R s m args below meth c A D cy QQ ad0 C E ad H locs ls I hl
  exact lv_fdiv C.1 C.2.1 hdg hne (k p l e R s m args below meth c A D cy QQ ad0 C E ad H locs ls I hl)
theorem s_fcmp {x y : UInt32} {op : CmpOp} (hdg : decode M.2.2.1 pc = .ok (.fcmp op, 1))      (k : zG Z M d Q N (pc + 1) lv (.int (Op.cmpValue (FP.fcmp x y) op) :: st) w) : zG Z M d Q N pc lv (.float y :: .float x :: st) w := by
  intro p l e R s m args below meth c A D cy QQ ad0 C E ad H locs ls I hl
  exact lv_fcmp C.1 C.2.1 hdg (k p l e R s m args below meth c A D cy QQ ad0 C E ad H locs ls I hl)
theorem s_i2f {x : Int32} (hdg : decode M.2.2.1 pc = .ok (.i2f, 1))      (k : zG Z M d Q N (pc + 1) lv (.float (FP.i2f x) :: st) w) : zG Z M d Q N pc lv (.int x :: st) w := by
  intro p l e R s m args below meth c A D cy QQ ad0 C E ad H locs ls I hl
  exact lv_i2f C.1 C.2.1 hdg (k p l e R s m args below meth c A D cy QQ ad0 C E ad H locs ls I hl)
theorem s_dadd {x y : UInt64} (hdg : decode M.2.2.1 pc = .ok (.dadd, 1)) (hne : vf_n64 (FP.dadd x y))     (k : zG Z M d Q N (pc + 1) lv (.double (FP.dadd x y) :: st) w) : zG Z M d Q N pc lv (.double y :: .double x :: st) w := by
  intro p l e R s m args below meth c A D cy QQ ad0 C E ad H locs ls I hl
  exact lv_dadd C.1 C.2.1 hdg hne (k p l e R s m args below meth c A D cy QQ ad0 C E ad H locs ls I hl)
theorem s_dsub {x y : UInt64} (hdg : decode M.2.2.1 pc = .ok (.dsub, 1)) (hne : vf_n64 (FP.dsub x y))     (k : zG Z M d Q N (pc + 1) lv (.double (FP.dsub x y) :: st) w) : zG Z M d Q N pc lv (.double y :: .double x :: st) w := by
  intro p l e R s m args below meth c A D cy QQ ad0 C E ad H locs ls I hl
  exact lv_dsub C.1 C.2.1 hdg hne (k p l e R s m args below meth c A D cy QQ ad0 C E ad H locs ls I hl)
theorem s_dmul {x y : UInt64} (hdg : decode M.2.2.1 pc = .ok (.dmul, 1)) (hne : vf_n64 (FP.dmul x y))     (k : zG Z M d Q N (pc + 1) lv (.double (FP.dmul x y) :: st) w) : zG Z M d Q N pc lv (.double y :: .double x :: st) w := by
  intro p l e R s m args below meth c A D cy QQ ad0 C E ad H locs ls I hl
  exact lv_dmul C.1 C.2.1 hdg hne (k p l e R s m args below meth c A D cy QQ ad0 C E ad H locs ls I hl)
theorem s_dcmp {x y : UInt64} {op : CmpOp} (hdg : decode M.2.2.1 pc = .ok (.dcmp op, 1))      (k : zG Z M d Q N (pc + 1) lv (.int (Op.cmpValue (FP.dcmp x y) op) :: st) w) : zG Z M d Q N pc lv (.double y :: .double x :: st) w := by
  intro p l e R s m args below meth c A D cy QQ ad0 C E ad H locs ls I hl
  exact lv_dcmp C.1 C.2.1 hdg (k p l e R s m args below meth c A D cy QQ ad0 C E ad H locs ls I hl)
theorem s_d2i {x : UInt64} (hdg : decode M.2.2.1 pc = .ok (.d2i, 1))      (k : zG Z M d Q N (pc + 1) lv (.int (FP.d2i x) :: st) w) : zG Z M d Q N pc lv (.double x :: st) w := by
  intro p l e R s m args below meth c A D cy QQ ad0 C E ad H locs ls I hl
  exact lv_d2i C.1 C.2.1 hdg (k p l e R s m args below meth c A D cy QQ ad0 C E ad H locs ls I hl)
theorem s_d2l {x : UInt64} (hdg : decode M.2.2.1 pc = .ok (.d2l, 1))      (k : zG Z M d Q N (pc + 1) lv (.long (FP.d2l x) :: st) w) : zG Z M d Q N pc lv (.double x :: st) w := by
  intro p l e R s m args below meth c A D cy QQ ad0 C E ad H locs ls I hl
  exact lv_d2l C.1 C.2.1 hdg (k p l e R s m args below meth c A D cy QQ ad0 C E ad H locs ls I hl)
theorem s_f2d {x : UInt32} (hdg : decode M.2.2.1 pc = .ok (.f2d, 1)) (hne : vf_n64 (FP.f2d x))     (k : zG Z M d Q N (pc + 1) lv (.double (FP.f2d x) :: st) w) : zG Z M d Q N pc lv (.float x :: st) w := by
  intro p l e R s m args below meth c A D cy QQ ad0 C E ad H locs ls I hl
  exact lv_f2d C.1 C.2.1 hdg hne (k p l e R s m args below meth c A D cy QQ ad0 C E ad H locs ls I hl)
theorem s_lookup {dflt : Int} {ps : Array (Int × Int)} {len : Nat} {x : Int32} {off : Int} {tgt : Nat} (hdg : decode M.2.2.1 pc = .ok (.lookupswitch dflt ps, len)) (hp : (ps.toList.zip (ps.toList.drop 1)).all (fun (a, next) => a.1 < next.1) = true) (ho : Op.lookupswitch.offset ps.toList dflt x.toInt = off) (ht : (pc : Int) + off = (tgt : Int))     (k : zG Z M d Q N tgt lv (st) w) : zG Z M d Q N pc lv (.int x :: st) w := by
  intro p l e R s m args below meth c A D cy QQ ad0 C E ad H locs ls I hl
  exact lv_lookup C.1 C.2.1 hdg hp ho ht (k p l e R s m args below meth c A D cy QQ ad0 C E ad H locs ls I hl)
theorem s_tableOut {dflt lo hi : Int} {offs : Array Int} {len : Nat} {x : Int32} {tgt : Nat} (hdg : decode M.2.2.1 pc = .ok (.tableswitch dflt lo hi offs, len)) (h : x.toInt < lo ∨ hi < x.toInt) (ht : (pc : Int) + dflt = (tgt : Int))     (k : zG Z M d Q N tgt lv (st) w) : zG Z M d Q N pc lv (.int x :: st) w := by
  intro p l e R s m args below meth c A D cy QQ ad0 C E ad H locs ls I hl
  exact lv_tableOut C.1 C.2.1 hdg h ht (k p l e R s m args below meth c A D cy QQ ad0 C E ad H locs ls I hl)
theorem s_tableIn {dflt lo hi : Int} {offs : Array Int} {len : Nat} {x : Int32} {off : Int} {tgt : Nat} (hdg : decode M.2.2.1 pc = .ok (.tableswitch dflt lo hi offs, len)) (h1 : ¬ x.toInt < lo) (h2 : ¬ hi < x.toInt) (ho : offs[(x.toInt - lo).toNat]? = some off) (ht : (pc : Int) + off = (tgt : Int))     (k : zG Z M d Q N tgt lv (st) w) : zG Z M d Q N pc lv (.int x :: st) w := by
  intro p l e R s m args below meth c A D cy QQ ad0 C E ad H locs ls I hl
  exact lv_tableIn C.1 C.2.1 hdg h1 h2 ho ht (k p l e R s m args below meth c A D cy QQ ad0 C E ad H locs ls I hl)
theorem s_lcmp {x y : Int64} (hdg : decode M.2.2.1 pc = .ok (.lcmp, 1))     (k : zG Z M d Q N (pc + 1) lv (.int (lg_cmp x y) :: st) w) : zG Z M d Q N pc lv (.long y :: .long x :: st) w := by
  intro p l e R s m args below meth c A D cy QQ ad0 C E ad H locs ls I hl
  exact W.lcmp C.1 C.2.1 hdg (k p l e R s m args below meth c A D cy QQ ad0 C E ad H locs ls I hl)
theorem s_dup {va : Value} (hd : decode M.2.2.1 pc = .ok (.dup, 1)) (hva : va.category = 1) (k : zG Z M d Q N (pc + 1) lv (va :: va :: st) w) : zG Z M d Q N pc lv (va :: st) w := by
  intro p l e R s m args below meth c A D cy QQ ad0 C E ad H locs ls I hl
  exact lv_dup C.1 C.2.1 hd (by rw [zcv_cat]; exact hva) (k p l e R s m args below meth c A D cy QQ ad0 C E ad H locs ls I hl)
theorem s_dup2 {va vb : Value} (hd : decode M.2.2.1 pc = .ok (.dup2, 1)) (hva : va.category = 1) (hvb : vb.category = 1) (k : zG Z M d Q N (pc + 1) lv (va :: vb :: va :: vb :: st) w) : zG Z M d Q N pc lv (va :: vb :: st) w := by
  intro p l e R s m args below meth c A D cy QQ ad0 C E ad H locs ls I hl
  exact lv_dup2_11 C.1 C.2.1 hd (by rw [zcv_cat]; exact hva) (by rw [zcv_cat]; exact hvb) (k p l e R s m args below meth c A D cy QQ ad0 C E ad H locs ls I hl)
theorem s_ldc {idx : Nat} {v : Int32} (hd : decode M.2.2.1 pc = .ok (.ldc idx, 2)) (hc : Cond.constant M.1 idx v ∈ zGW) (k : zG Z M d Q N (pc + 2) lv (.int v :: st) w) : zG Z M d Q N pc lv st w := by
  intro p l e R s m args below meth c A D cy QQ ad0 C E ad H locs ls I hl
  exact lv_ldc C.1 C.2.1 C.2.2.2.1 (C.2.2.2.2.1 _ hc) hd (k p l e R s m args below meth c A D cy QQ ad0 C E ad H locs ls I hl)
theorem s_ldcw {idx : Nat} {v : Int32} (hd : decode M.2.2.1 pc = .ok (.ldc_w idx, 3)) (hc : Cond.constant M.1 idx v ∈ zGW) (k : zG Z M d Q N (pc + 3) lv (.int v :: st) w) : zG Z M d Q N pc lv st w := by
  intro p l e R s m args below meth c A D cy QQ ad0 C E ad H locs ls I hl
  exact lv_ldcw C.1 C.2.1 C.2.2.2.1 (C.2.2.2.2.1 _ hc) hd (k p l e R s m args below meth c A D cy QQ ad0 C E ad H locs ls I hl)
theorem s_ldcf {idx : Nat} {v : UInt32} (hd : decode M.2.2.1 pc = .ok (.ldc idx, 2)) (hc : Cond.constantFloat M.1 idx v ∈ zGW) (k : zG Z M d Q N (pc + 2) lv (.float v :: st) w) : zG Z M d Q N pc lv st w := by
  intro p l e R s m args below meth c A D cy QQ ad0 C E ad H locs ls I hl
  exact lv_ldcf C.1 C.2.1 C.2.2.2.1 (C.2.2.2.2.1 _ hc) hd (k p l e R s m args below meth c A D cy QQ ad0 C E ad H locs ls I hl)
theorem s_ldc2 {idx : Nat} {v : Int64} (hd : decode M.2.2.1 pc = .ok (.ldc2_w idx, 3)) (hc : Cond.constantLong M.1 idx v ∈ zGW) (k : zG Z M d Q N (pc + 3) lv (.long v :: st) w) : zG Z M d Q N pc lv st w := by
  intro p l e R s m args below meth c A D cy QQ ad0 C E ad H locs ls I hl
  exact lv_ldc2 C.1 C.2.1 C.2.2.2.1 (C.2.2.2.2.1 _ hc) hd (k p l e R s m args below meth c A D cy QQ ad0 C E ad H locs ls I hl)
theorem s_ldc2d {idx : Nat} {v : UInt64} (hd : decode M.2.2.1 pc = .ok (.ldc2_w idx, 3)) (hc : Cond.constantDouble M.1 idx v ∈ zGW) (k : zG Z M d Q N (pc + 3) lv (.double v :: st) w) : zG Z M d Q N pc lv st w := by
  intro p l e R s m args below meth c A D cy QQ ad0 C E ad H locs ls I hl
  exact lv_ldc2d C.1 C.2.1 C.2.2.2.1 (C.2.2.2.2.1 _ hc) hd (k p l e R s m args below meth c A D cy QQ ad0 C E ad H locs ls I hl)
theorem zbq (a b : Nat) : Nat.beq a b = decide (a = b) := by
  by_cases h : a = b
  · subst h
    simp
  · rw [decide_eq_false h]
    cases hb : Nat.beq a b with
    | true => exact absurd (Nat.eq_of_beq_eq_true hb) h
    | false => rfl
def zlk : List (Nat × Value) → Nat → Option Value
  | [], _ => none
  | q :: l, i => match Nat.beq q.1 i with
    | true => some q.2
    | false => zlk l i
theorem zlk_mem {v : Value} {i : Nat} : ∀ {lv : List (Nat × Value)}, zlk lv i = some v → (i, v) ∈ lv
  | [], h => by cases h
  | q :: l, h => by
    unfold zlk at h
    cases hb : Nat.beq q.1 i with
    | true =>
      rw [hb] at h
      have e : q.1 = i := Nat.eq_of_beq_eq_true hb
      have e2 : q.2 = v := Option.some.inj h
      rw [← e, ← e2]
      exact List.mem_cons_self
    | false =>
      rw [hb] at h
      exact List.mem_cons_of_mem _ (zlk_mem h)
theorem zlk_has {ad : Nat → Nat} {ls : Array Slot} {nL i : Nat} {v : Value} (hl : lv_has ls nL (zcl ad lv)) (h : zlk lv i = some v) : ls[i]? = some (.val (zcv ad v)) :=
  hl.2.2 (i, zcv ad v) (List.mem_map.mpr ⟨(i, v), zlk_mem h, rfl⟩)
def zst : List (Nat × Value) → Nat → Value → List (Nat × Value)
  | [], i, v => [(i, v)]
  | q :: l, i, v => match Nat.beq q.1 i with
    | true => (i, v) :: l
    | false => q :: zst l i v
/-- the place i stands once at most -/
def zuq : List (Nat × Value) → Nat → Bool
  | [], _ => true
  | q :: l, i => match Nat.beq q.1 i with
    | true => l.all (fun z => !Nat.beq z.1 i)
    | false => zuq l i
theorem zst_mem {v : Value} {i : Nat} {q : Nat × Value} : ∀ {lv : List (Nat × Value)}, zuq lv i = true → q ∈ zst lv i v → q = (i, v) ∨ (q ∈ lv ∧ q.1 ≠ i)
  | [], _, h => by
    unfold zst at h
    exact Or.inl (List.mem_singleton.mp h)
  | z :: l, hu, h => by
    unfold zst at h
    unfold zuq at hu
    cases hb : Nat.beq z.1 i with
    | true =>
      rw [hb] at h hu
      rcases List.mem_cons.mp h with h | h
      · exact Or.inl h
      · have h1 := List.all_eq_true.mp hu q h
        refine Or.inr ⟨List.mem_cons_of_mem _ h, fun e => ?_⟩
        rw [e] at h1
        simp at h1
    | false =>
      rw [hb] at h hu
      rcases List.mem_cons.mp h with h | h
      · refine Or.inr ⟨by rw [h]; exact List.mem_cons_self, fun e => ?_⟩
        rw [h] at e
        rw [e] at hb
        simp at hb
      · rcases zst_mem hu h with h | h
        · exact Or.inl h
        · exact Or.inr ⟨List.mem_cons_of_mem _ h.1, h.2⟩
/-- nothing wide lies across the place i -/
def zk1 (lv : List (Nat × Value)) (i : Nat) : Bool := zuq lv i && lv.all (fun q => !(Nat.beq (q.1 + 1) i && Nat.beq q.2.category 2))
def zk2 (lv : List (Nat × Value)) (i : Nat) : Bool := zuq lv i && lv.all (fun q => !(Nat.beq (q.1 + 1) i && Nat.beq q.2.category 2) && !Nat.beq q.1 (i + 1))
theorem zst_has1 {ad : Nat → Nat} {ls : Array Slot} {nL i : Nat} {v : Value} (hk : zk1 lv i = true) (hl : lv_has ls nL ((i, zcv ad v) :: (zcl ad lv).filter (fun q => !(q.1 == i) && !(q.1 + 1 == i && q.2.category == 2)))) : lv_has ls nL (zcl ad (zst lv i v)) := by
  refine ⟨hl.1, hl.2.1, fun q hq => hl.2.2 q ?_⟩
  obtain ⟨z, hz, rfl⟩ := List.mem_map.mp hq
  unfold zk1 at hk
  rw [Bool.and_eq_true] at hk
  rcases zst_mem hk.1 hz with rfl | ⟨h1, h2⟩
  · exact List.mem_cons_self
  · refine List.mem_cons_of_mem _ (List.mem_filter.mpr ⟨List.mem_map.mpr ⟨z, h1, rfl⟩, ?_⟩)
    have h3 := List.all_eq_true.mp hk.2 z h1
    show (!(z.1 == i) && !(z.1 + 1 == i && (zcv ad z.2).category == 2)) = true
    rw [zcv_cat]
    have h4 : (z.1 == i) = false := by simpa using h2
    rw [h4]
    simp [zbq] at h3 ⊢
    exact h3
theorem zst_has2 {ad : Nat → Nat} {ls : Array Slot} {nL i : Nat} {v : Value} (hk : zk2 lv i = true) (hl : lv_has ls nL ((i, zcv ad v) :: (zcl ad lv).filter (fun q => !(q.1 == i) && (!(q.1 == i + 1) && !(q.1 + 1 == i && q.2.category == 2))))) : lv_has ls nL (zcl ad (zst lv i v)) := by
  refine ⟨hl.1, hl.2.1, fun q hq => hl.2.2 q ?_⟩
  obtain ⟨z, hz, rfl⟩ := List.mem_map.mp hq
  unfold zk2 at hk
  rw [Bool.and_eq_true] at hk
  rcases zst_mem hk.1 hz with rfl | ⟨h1, h2⟩
  · exact List.mem_cons_self
  · refine List.mem_cons_of_mem _ (List.mem_filter.mpr ⟨List.mem_map.mpr ⟨z, h1, rfl⟩, ?_⟩)
    have h3 := List.all_eq_true.mp hk.2 z h1
    show (!(z.1 == i) && (!(z.1 == i + 1) && !(z.1 + 1 == i && (zcv ad z.2).category == 2))) = true
    rw [zcv_cat]
    have h4 : (z.1 == i) = false := by simpa using h2
    rw [h4]
    simp [zbq] at h3 ⊢
    exact ⟨h3.2, h3.1⟩
/-- fewer locals -/
theorem s_take (n : Nat) (k : zG Z M d Q N pc (lv.take n) st w) : zG Z M d Q N pc lv st w := by
  intro p l e R s m args below meth c A D cy QQ ad0 C E ad H locs ls I hl
  exact k p l e R s m args below meth c A D cy QQ ad0 C E ad H locs ls I ⟨hl.1, hl.2.1, fun q hq => hl.2.2 q (by
    obtain ⟨z, hz, rfl⟩ := List.mem_map.mp hq
    exact List.mem_map.mpr ⟨z, List.mem_of_mem_take hz, rfl⟩)⟩
/-- other locals, all among these -/
theorem s_lv (lv' : List (Nat × Value)) (h : lv'.all (fun q => decide (zlk lv q.1 = some q.2)) = true ∨ ∀ q ∈ lv', zlk lv q.1 = some q.2) (k : zG Z M d Q N pc lv' st w) : zG Z M d Q N pc lv st w := by
  have h : ∀ q ∈ lv', zlk lv q.1 = some q.2 := by
    rcases h with h | h
    · exact fun q hq => of_decide_eq_true (List.all_eq_true.mp h q hq)
    · exact h
  intro p l e R s m args below meth c A D cy QQ ad0 C E ad H locs ls I hl
  exact k p l e R s m args below meth c A D cy QQ ad0 C E ad H locs ls I ⟨hl.1, hl.2.1, fun q hq => by
    obtain ⟨z, hz, rfl⟩ := List.mem_map.mp hq
    exact zlk_has hl (h z hz)⟩
theorem s_iload_n {k : Fin 4} {x : Int32} (hd : decode M.2.2.1 pc = .ok (.iload_n k, 1)) (hv : zlk lv k = some (.int x)) (kk : zG Z M d Q N (pc + 1) lv (.int x :: st) w) : zG Z M d Q N pc lv st w := by
  intro p l e R s m args below meth c A D cy QQ ad0 C E ad H locs ls I hl
  exact lv_iload_n C.1 C.2.1 hd rfl (zlk_has hl hv) (kk p l e R s m args below meth c A D cy QQ ad0 C E ad H locs ls I hl)
theorem s_iload {i : Nat} {x : Int32} (hd : decode M.2.2.1 pc = .ok (.iload i, 2)) (hv : zlk lv i = some (.int x)) (kk : zG Z M d Q N (pc + 2) lv (.int x :: st) w) : zG Z M d Q N pc lv st w := by
  intro p l e R s m args below meth c A D cy QQ ad0 C E ad H locs ls I hl
  exact lv_iload C.1 C.2.1 hd (zlk_has hl hv) (kk p l e R s m args below meth c A D cy QQ ad0 C E ad H locs ls I hl)
theorem s_lload_n {k : Fin 4} {x : Int64} (hd : decode M.2.2.1 pc = .ok (.lload_n k, 1)) (hv : zlk lv k = some (.long x)) (kk : zG Z M d Q N (pc + 1) lv (.long x :: st) w) : zG Z M d Q N pc lv st w := by
  intro p l e R s m args below meth c A D cy QQ ad0 C E ad H locs ls I hl
  exact lv_lload_n C.1 C.2.1 hd rfl (zlk_has hl hv) (kk p l e R s m args below meth c A D cy QQ ad0 C E ad H locs ls I hl)
theorem s_lload {i : Nat} {x : Int64} (hd : decode M.2.2.1 pc = .ok (.lload i, 2)) (hv : zlk lv i = some (.long x)) (kk : zG Z M d Q N (pc + 2) lv (.long x :: st) w) : zG Z M d Q N pc lv st w := by
  intro p l e R s m args below meth c A D cy QQ ad0 C E ad H locs ls I hl
  exact lv_lload C.1 C.2.1 hd (zlk_has hl hv) (kk p l e R s m args below meth c A D cy QQ ad0 C E ad H locs ls I hl)
theorem s_fload_n {k : Fin 4} {x : UInt32} (hd : decode M.2.2.1 pc = .ok (.fload_n k, 1)) (hv : zlk lv k = some (.float x)) (kk : zG Z M d Q N (pc + 1) lv (.float x :: st) w) : zG Z M d Q N pc lv st w := by
  intro p l e R s m args below meth c A D cy QQ ad0 C E ad H locs ls I hl
  exact lv_fload_n C.1 C.2.1 hd rfl (zlk_has hl hv) (kk p l e R s m args below meth c A D cy QQ ad0 C E ad H locs ls I hl)
theorem s_fload {i : Nat} {x : UInt32} (hd : decode M.2.2.1 pc = .ok (.fload i, 2)) (hv : zlk lv i = some (.float x)) (kk : zG Z M d Q N (pc + 2) lv (.float x :: st) w) : zG Z M d Q N pc lv st w := by
  intro p l e R s m args below meth c A D cy QQ ad0 C E ad H locs ls I hl
  exact lv_fload C.1 C.2.1 hd (zlk_has hl hv) (kk p l e R s m args below meth c A D cy QQ ad0 C E ad H locs ls I hl)
theorem s_dload_n {k : Fin 4} {x : UInt64} (hd : decode M.2.2.1 pc = .ok (.dload_n k, 1)) (hv : zlk lv k = some (.double x)) (kk : zG Z M d Q N (pc + 1) lv (.double x :: st) w) : zG Z M d Q N pc lv st w := by
  intro p l e R s m args below meth c A D cy QQ ad0 C E ad H locs ls I hl
  exact lv_dload_n C.1 C.2.1 hd rfl (zlk_has hl hv) (kk p l e R s m args below meth c A D cy QQ ad0 C E ad H locs ls I hl)
theorem s_dload {i : Nat} {x : UInt64} (hd : decode M.2.2.1 pc = .ok (.dload i, 2)) (hv : zlk lv i = some (.double x)) (kk : zG Z M d Q N (pc + 2) lv (.double x :: st) w) : zG Z M d Q N pc lv st w := by
  intro p l e R s m args below meth c A D cy QQ ad0 C E ad H locs ls I hl
  exact lv_dload C.1 C.2.1 hd (zlk_has hl hv) (kk p l e R s m args below meth c A D cy QQ ad0 C E ad H locs ls I hl)
theorem s_aload_n {k : Fin 4} {x : Nat} (hd : decode M.2.2.1 pc = .ok (.aload_n k, 1)) (hv : zlk lv k = some (.ref x)) (kk : zG Z M d Q N (pc + 1) lv (.ref x :: st) w) : zG Z M d Q N pc lv st w := by
  intro p l e R s m args below meth c A D cy QQ ad0 C E ad H locs ls I hl
  exact lv_aload_n C.1 C.2.1 hd rfl (zlk_has hl hv) (kk p l e R s m args below meth c A D cy QQ ad0 C E ad H locs ls I hl)
theorem s_aload {i : Nat} {x : Nat} (hd : decode M.2.2.1 pc = .ok (.aload i, 2)) (hv : zlk lv i = some (.ref x)) (kk : zG Z M d Q N (pc + 2) lv (.ref x :: st) w) : zG Z M d Q N pc lv st w := by
  intro p l e R s m args below meth c A D cy QQ ad0 C E ad H locs ls I hl
  exact lv_aload C.1 C.2.1 hd (zlk_has hl hv) (kk p l e R s m args below meth c A D cy QQ ad0 C E ad H locs ls I hl)
theorem s_istore_n {k : Fin 4} {x : Int32} (hd : decode M.2.2.1 pc = .ok (.istore_n k, 1)) (hn : (k : Nat) < M.2.2.2.1) (hk : zk1 lv k = true) (kk : zG Z M d Q N (pc + 1) (zst lv k (.int x)) st w) : zG Z M d Q N pc lv (.int x :: st) w := by
  intro p l e R s m args below meth c A D cy QQ ad0 C E ad H locs ls I hl
  exact lv_istore_n C.1 C.2.1 hd rfl hl hn rfl (fun ls2 hl2 => kk p l e R s m args below meth c A D cy QQ ad0 C E ad H locs ls2 I (zst_has1 hk hl2))
theorem s_istore {i : Nat} {x : Int32} (hd : decode M.2.2.1 pc = .ok (.istore i, 2)) (hn : i < M.2.2.2.1) (hk : zk1 lv i = true) (kk : zG Z M d Q N (pc + 2) (zst lv i (.int x)) st w) : zG Z M d Q N pc lv (.int x :: st) w := by
  intro p l e R s m args below meth c A D cy QQ ad0 C E ad H locs ls I hl
  exact lv_istore C.1 C.2.1 hd hl hn rfl (fun ls2 hl2 => kk p l e R s m args below meth c A D cy QQ ad0 C E ad H locs ls2 I (zst_has1 hk hl2))
theorem s_fstore_n {k : Fin 4} {x : UInt32} (hd : decode M.2.2.1 pc = .ok (.fstore_n k, 1)) (hn : (k : Nat) < M.2.2.2.1) (hk : zk1 lv k = true) (kk : zG Z M d Q N (pc + 1) (zst lv k (.float x)) st w) : zG Z M d Q N pc lv (.float x :: st) w := by
  intro p l e R s m args below meth c A D cy QQ ad0 C E ad H locs ls I hl
  exact lv_fstore_n C.1 C.2.1 hd rfl hl hn rfl (fun ls2 hl2 => kk p l e R s m args below meth c A D cy QQ ad0 C E ad H locs ls2 I (zst_has1 hk hl2))
theorem s_fstore {i : Nat} {x : UInt32} (hd : decode M.2.2.1 pc = .ok (.fstore i, 2)) (hn : i < M.2.2.2.1) (hk : zk1 lv i = true) (kk : zG Z M d Q N (pc + 2) (zst lv i (.float x)) st w) : zG Z M d Q N pc lv (.float x :: st) w := by
  intro p l e R s m args below meth c A D cy QQ ad0 C E ad H locs ls I hl
  exact lv_fstore C.1 C.2.1 hd hl hn rfl (fun ls2 hl2 => kk p l e R s m args below meth c A D cy QQ ad0 C E ad H locs ls2 I (zst_has1 hk hl2))
theorem s_astore_n {k : Fin 4} {x : Nat} (hd : decode M.2.2.1 pc = .ok (.astore_n k, 1)) (hn : (k : Nat) < M.2.2.2.1) (hk : zk1 lv k = true) (kk : zG Z M d Q N (pc + 1) (zst lv k (.ref x)) st w) : zG Z M d Q N pc lv (.ref x :: st) w := by
  intro p l e R s m args below meth c A D cy QQ ad0 C E ad H locs ls I hl
  exact lv_astore_n C.1 C.2.1 hd rfl hl hn rfl (fun ls2 hl2 => kk p l e R s m args below meth c A D cy QQ ad0 C E ad H locs ls2 I (zst_has1 hk hl2))
theorem s_astore {i : Nat} {x : Nat} (hd : decode M.2.2.1 pc = .ok (.astore i, 2)) (hn : i < M.2.2.2.1) (hk : zk1 lv i = true) (kk : zG Z M d Q N (pc + 2) (zst lv i (.ref x)) st w) : zG Z M d Q N pc lv (.ref x :: st) w := by
  intro p l e R s m args below meth c A D cy QQ ad0 C E ad H locs ls I hl
  exact lv_astore C.1 C.2.1 hd hl hn rfl (fun ls2 hl2 => kk p l e R s m args below meth c A D cy QQ ad0 C E ad H locs ls2 I (zst_has1 hk hl2))
theorem s_lstore_n {k : Fin 4} {x : Int64} (hd : decode M.2.2.1 pc = .ok (.lstore_n k, 1)) (hn : (k : Nat) + 1 < M.2.2.2.1) (hk : zk2 lv k = true) (kk : zG Z M d Q N (pc + 1) (zst lv k (.long x)) st w) : zG Z M d Q N pc lv (.long x :: st) w := by
  intro p l e R s m args below meth c A D cy QQ ad0 C E ad H locs ls I hl
  exact lv_lstore_n C.1 C.2.1 hd rfl hl hn rfl (fun ls2 hl2 => kk p l e R s m args below meth c A D cy QQ ad0 C E ad H locs ls2 I (zst_has2 hk hl2))
theorem s_lstore {i : Nat} {x : Int64} (hd : decode M.2.2.1 pc = .ok (.lstore i, 2)) (hn : i + 1 < M.2.2.2.1) (hk : zk2 lv i = true) (kk : zG Z M d Q N (pc + 2) (zst lv i (.long x)) st w) : zG Z M d Q N pc lv (.long x :: st) w := by
  intro p l e R s m args below meth c A D cy QQ ad0 C E ad H locs ls I hl
  exact lv_lstore C.1 C.2.1 hd hl hn rfl (fun ls2 hl2 => kk p l e R s m args below meth c A D cy QQ ad0 C E ad H locs ls2 I (zst_has2 hk hl2))
theorem s_dstore_n {k : Fin 4} {x : UInt64} (hd : decode M.2.2.1 pc = .ok (.dstore_n k, 1)) (hn : (k : Nat) + 1 < M.2.2.2.1) (hk : zk2 lv k = true) (kk : zG Z M d Q N (pc + 1) (zst lv k (.double x)) st w) : zG Z M d Q N pc lv (.double x :: st) w := by
  intro p l e R s m args below meth c A D cy QQ ad0 C E ad H locs ls I hl
  exact lv_dstore_n C.1 C.2.1 hd rfl hl hn rfl (fun ls2 hl2 => kk p l e R s m args below meth c A D cy QQ ad0 C E ad H locs ls2 I (zst_has2 hk hl2))
theorem s_dstore {i : Nat} {x : UInt64} (hd : decode M.2.2.1 pc = .ok (.dstore i, 2)) (hn : i + 1 < M.2.2.2.1) (hk : zk2 lv i = true) (kk : zG Z M d Q N (pc + 2) (zst lv i (.double x)) st w) : zG Z M d Q N pc lv (.double x :: st) w := by
  intro p l e R s m args below meth c A D cy QQ ad0 C E ad H locs ls I hl
  exact lv_dstore C.1 C.2.1 hd hl hn rfl (fun ls2 hl2 => kk p l e R s m args below meth c A D cy QQ ad0 C E ad H locs ls2 I (zst_has2 hk hl2))
theorem s_iinc {i : Nat} {n : Int} {x : Int32} (v : Int32) (hd : decode M.2.2.1 pc = .ok (.iinc i n, 3)) (hv : zlk lv i = some (.int x)) (hx : x + Int32.ofInt n = v) (hn : i < M.2.2.2.1) (hk : zk1 lv i = true) (kk : zG Z M d Q N (pc + 3) (zst lv i (.int v)) st w) : zG Z M d Q N pc lv st w := by
  intro p l e R s m args below meth c A D cy QQ ad0 C E ad H locs ls I hl
  have hm : (i, Value.int x) ∈ zcl ad lv := List.mem_map.mpr ⟨(i, .int x), zlk_mem hv, rfl⟩
  obtain ⟨k, hk2⟩ := List.getElem?_of_mem hm
  exact lv_iinc C.1 C.2.1 hd hl hk2 hx hn rfl (fun ls2 hl2 => kk p l e R s m args below meth c A D cy QQ ad0 C E ad H locs ls2 I (zst_has1 hk hl2))
/-- the end -/
theorem s_ret {r : List Value} (hr : zRet M pc r) (hq : Q r w) (hN : w.length = N + M.2.2.2.2.2) : zG Z M d Q N pc lv r w := by
  intro p l e R s m args below meth c A D cy QQ ad0 C E ad H locs ls I hl
  have h := E r w ad H locs pc ls hq hN I hr
  rw [hN, Nat.add_sub_cancel_left]
  exact h
theorem s_iret {x : Int32} (hd : decode M.2.2.1 pc = .ok (.ireturn, 1)) (hM : M.2.2.2.2.1 = some .int) (hq : Q [.int x] w) (hN : w.length = N + M.2.2.2.2.2) : zG Z M d Q N pc lv [.int x] w := s_ret (Or.inr (Or.inl ⟨hM, hd, x, rfl⟩)) hq hN
theorem s_zret {x : Int32} (hd : decode M.2.2.1 pc = .ok (.ireturn, 1)) (hM : M.2.2.2.2.1 = some .boolean) (hx : x = 0 ∨ x = 1) (hq : Q [.int x] w) (hN : w.length = N + M.2.2.2.2.2) : zG Z M d Q N pc lv [.int x] w := s_ret (Or.inr (Or.inr (Or.inl ⟨hM, hd, x, rfl, hx⟩))) hq hN
theorem s_lret {x : Int64} (hd : decode M.2.2.1 pc = .ok (.lreturn, 1)) (hM : M.2.2.2.2.1 = some .long) (hq : Q [.long x] w) (hN : w.length = N + M.2.2.2.2.2) : zG Z M d Q N pc lv [.long x] w := s_ret (Or.inr (Or.inr (Or.inr (Or.inl ⟨hM, hd, x, rfl⟩)))) hq hN
theorem s_fret {x : UInt32} (hd : decode M.2.2.1 pc = .ok (.freturn, 1)) (hM : M.2.2.2.2.1 = some .float) (hq : Q [.float x] w) (hN : w.length = N + M.2.2.2.2.2) : zG Z M d Q N pc lv [.float x] w := s_ret (Or.inr (Or.inr (Or.inr (Or.inr (Or.inl ⟨hM, hd, x, rfl⟩))))) hq hN
theorem s_dret {x : UInt64} (hd : decode M.2.2.1 pc = .ok (.dreturn, 1)) (hM : M.2.2.2.2.1 = some .double) (hq : Q [.double x] w) (hN : w.length = N + M.2.2.2.2.2) : zG Z M d Q N pc lv [.double x] w := s_ret (Or.inr (Or.inr (Or.inr (Or.inr (Or.inr ⟨hM, hd, x, rfl⟩))))) hq hN
theorem s_vret (hd : decode M.2.2.1 pc = .ok (.return_, 1)) (hM : M.2.2.2.2.1 = none) (hq : Q [] w) (hN : w.length = N + M.2.2.2.2.2) : zG Z M d Q N pc lv [] w := s_ret (Or.inl ⟨hM, hd, rfl⟩) hq hN
/-- a branch whose way is known -/
theorem s_conv {Q' : List Value → zW → Prop} (h : ∀ r w, Q' r w → Q r w) (k : zG Z M d Q' N pc lv st w) : zG Z M d Q N pc lv st w := by
  intro p l e R s m args below meth c A D cy QQ ad0 C E ad H locs ls I hl
  exact k p l e R s m args below meth c A D cy QQ ad0 C (fun r w ad H locs pc ls hq => E r w ad H locs pc ls (h r w hq)) ad H locs ls I hl
end ZA
