/-! ===== the model: dimension ===== -/
abbrev zVc : Type := Nat → Int32
theorem z3m (n i : Nat) : (3 : Int32) * nI n + nI i = nI (3 * n + i) := by rw [show (3 : Int32) = nI 3 from rfl, pk_mul, nI_add]
def gR (V : zVc) (l c n : Nat) : zVc := upd (upd (upd V (3 * n) (zAW l c 0)) (3 * n + 1) (zAW l c 1)) (3 * n + 2) (zAW l c 2)
def gB (b l : Nat) : Nat → Nat → Nat × zVc → Nat × zVc
  | 0, _, s => s
  | r + 1, c, s => gB b l r (c + 1) (if zb b c = 1 then (s.1 + 1, gR s.2 l c s.1) else s)
def gF (V : zVc) (ax : Nat) : Nat → Nat → Nat
  | 0, r => r
  | k + 1, r => if V (3 * r + ax) = 0 then gF V ax k (r + 1) else r
def gS1 (V : zVc) (r k j : Nat) : zVc := upd (upd V (3 * r + j) (V (3 * k + j))) (3 * k + j) (V (3 * r + j))
def gS (V : zVc) (r k : Nat) : zVc := gS1 (gS1 (gS1 V r k 0) r k 1) r k 2
def gE1 (V : zVc) (q k ax : Nat) (up : Int32) (j : Nat) : zVc := upd V (3 * q + j) (V (3 * q + j) * V (3 * k + ax) - up * V (3 * k + j))
def gE (V : zVc) (q k ax : Nat) : zVc := gE1 (gE1 (gE1 V q k ax (V (3 * q + ax)) 0) q k ax (V (3 * q + ax)) 1) q k ax (V (3 * q + ax)) 2
def gL (k ax : Nat) : Nat → Nat → zVc → zVc
  | 0, _, V => V
  | r + 1, q, V => gL k ax r (q + 1) (gE V q k ax)
def gA (n ax : Nat) (s : Nat × zVc) : Nat × zVc := if gF s.2 ax (n - s.1) s.1 = n then s else (s.1 + 1, gL s.1 ax (n - (s.1 + 1)) (s.1 + 1) (gS s.2 (gF s.2 ax (n - s.1) s.1) s.1))
def gZ (b : Nat) (V : zVc) : Nat × zVc :=
  gA (gB b (pLCL b 7 0) (7 - pLCL b 7 0) (pLCL b 7 0 + 1) (0, V)).1 2 (gA (gB b (pLCL b 7 0) (7 - pLCL b 7 0) (pLCL b 7 0 + 1) (0, V)).1 1 (gA (gB b (pLCL b 7 0) (7 - pLCL b 7 0) (pLCL b 7 0 + 1) (0, V)).1 0 (0, (gB b (pLCL b 7 0) (7 - pLCL b 7 0) (pLCL b 7 0 + 1) (0, V)).2)))
theorem gF_le (V : zVc) (ax : Nat) : ∀ k r, r ≤ gF V ax k r ∧ gF V ax k r ≤ r + k
  | 0, r => ⟨Nat.le_refl _, Nat.le_refl _⟩
  | k + 1, r => by
    unfold gF
    by_cases c : V (3 * r + ax) = 0
    · rw [if_pos c]
      have := gF_le V ax k (r + 1)
      omega
    · rw [if_neg c]
      omega
theorem gB_le (b l : Nat) : ∀ r c s, (gB b l r c s).1 ≤ s.1 + r
  | 0, _, s => Nat.le_refl _
  | r + 1, c, s => by
    unfold gB
    have h := gB_le b l r (c + 1) (if zb b c = 1 then (s.1 + 1, gR s.2 l c s.1) else s)
    by_cases k : zb b c = 1
    · rw [if_pos k] at h ⊢
      have h2 : (s.1 + 1, gR s.2 l c s.1).1 = s.1 + 1 := rfl
      omega
    · rw [if_neg k] at h ⊢
      omega
theorem gA_le {n ax : Nat} {s : Nat × zVc} (h : s.1 ≤ n) : (gA n ax s).1 ≤ n := by
  unfold gA
  by_cases c : gF s.2 ax (n - s.1) s.1 = n
  · rw [if_pos c]; exact h
  · rw [if_neg c]
    have := gF_le s.2 ax (n - s.1) s.1
    show s.1 + 1 ≤ n
    omega
/-! the same over lists -/
abbrev zLi : Type := List Int32
def hB (b l : Nat) : Nat → Nat → zLi → zLi
  | 0, _, L => L
  | r + 1, c, L => hB b l r (c + 1) (if zb b c = 1 then L ++ [zAW l c 0, zAW l c 1, zAW l c 2] else L)
def hF (L : zLi) (ax : Nat) : Nat → Nat → Nat
  | 0, r => r
  | k + 1, r => if L.getD (3 * r + ax) 0 = 0 then hF L ax k (r + 1) else r
def hS1 (L : zLi) (r k j : Nat) : zLi := (L.set (3 * r + j) (L.getD (3 * k + j) 0)).set (3 * k + j) (L.getD (3 * r + j) 0)
def hS (L : zLi) (r k : Nat) : zLi := hS1 (hS1 (hS1 L r k 0) r k 1) r k 2
def hE1 (L : zLi) (q k ax : Nat) (up : Int32) (j : Nat) : zLi := L.set (3 * q + j) (L.getD (3 * q + j) 0 * L.getD (3 * k + ax) 0 - up * L.getD (3 * k + j) 0)
def hE (L : zLi) (q k ax : Nat) : zLi := hE1 (hE1 (hE1 L q k ax (L.getD (3 * q + ax) 0) 0) q k ax (L.getD (3 * q + ax) 0) 1) q k ax (L.getD (3 * q + ax) 0) 2
def hL (k ax : Nat) : Nat → Nat → zLi → zLi
  | 0, _, L => L
  | r + 1, q, L => hL k ax r (q + 1) (hE L q k ax)
def hA (n ax : Nat) (s : Nat × zLi) : Nat × zLi := if hF s.2 ax (n - s.1) s.1 = n then s else (s.1 + 1, hL s.1 ax (n - (s.1 + 1)) (s.1 + 1) (hS s.2 (hF s.2 ax (n - s.1) s.1) s.1))
def Ag (n : Nat) (V : zVc) (L : zLi) : Prop := L.length = 3 * n ∧ ∀ j, j < 3 * n → V j = L.getD j 0
theorem Ag_set {n : Nat} {V : zVc} {L : zLi} (h : Ag n V L) {i : Nat} {x : Int32} : Ag n (upd V i x) (L.set i x) := by
  refine ⟨by rw [List.length_set]; exact h.1, fun j hj => ?_⟩
  have h2 := h.2 j hj
  rw [List.getD_eq_getElem?_getD] at h2 ⊢
  unfold upd
  rw [List.getElem?_set]
  by_cases c : j = i
  · subst c
    rw [if_pos rfl, if_pos rfl, if_pos (by rw [h.1]; exact hj)]
    rfl
  · rw [if_neg c, if_neg (fun e => c e.symm)]
    exact h2
theorem Ag_S1 {n r k j : Nat} {V : zVc} {L : zLi} (h : Ag n V L) (hr : r < n) (hk : k < n) (hj : j < 3) : Ag n (gS1 V r k j) (hS1 L r k j) := by
  unfold gS1 hS1
  rw [h.2 (3 * k + j) (by omega), h.2 (3 * r + j) (by omega)]
  exact Ag_set (Ag_set h)
theorem Ag_S {n r k : Nat} {V : zVc} {L : zLi} (h : Ag n V L) (hr : r < n) (hk : k < n) : Ag n (gS V r k) (hS L r k) := Ag_S1 (Ag_S1 (Ag_S1 h hr hk (by decide)) hr hk (by decide)) hr hk (by decide)
theorem Ag_E1 {n q k ax j : Nat} {up : Int32} {V : zVc} {L : zLi} (h : Ag n V L) (hq : q < n) (hk : k < n) (ha : ax < 3) (hj : j < 3) : Ag n (gE1 V q k ax up j) (hE1 L q k ax up j) := by
  unfold gE1 hE1
  rw [h.2 (3 * q + j) (by omega), h.2 (3 * k + ax) (by omega), h.2 (3 * k + j) (by omega)]
  exact Ag_set h
theorem Ag_E {n q k ax : Nat} {V : zVc} {L : zLi} (h : Ag n V L) (hq : q < n) (hk : k < n) (ha : ax < 3) : Ag n (gE V q k ax) (hE L q k ax) := by
  unfold gE hE
  rw [h.2 (3 * q + ax) (by omega)]
  exact Ag_E1 (Ag_E1 (Ag_E1 h hq hk ha (by decide)) hq hk ha (by decide)) hq hk ha (by decide)
theorem Ag_L {n k ax : Nat} (hk : k < n) (ha : ax < 3) : ∀ (r q : Nat) {V : zVc} {L : zLi}, q + r = n → Ag n V L → Ag n (gL k ax r q V) (hL k ax r q L)
  | 0, _, _, _, _, h => h
  | r + 1, q, _, _, hq, h => Ag_L hk ha r (q + 1) (by omega) (Ag_E h (by omega) hk ha)
theorem Ag_F {n ax : Nat} {V : zVc} {L : zLi} (h : Ag n V L) (ha : ax < 3) : ∀ k r, r + k = n → gF V ax k r = hF L ax k r
  | 0, _, _ => rfl
  | k + 1, r, hr => by
    unfold gF hF
    rw [h.2 (3 * r + ax) (by omega), Ag_F h ha k (r + 1) (by omega)]
def AgP (n : Nat) (s : Nat × zVc) (t : Nat × zLi) : Prop := s.1 = t.1 ∧ s.1 ≤ n ∧ Ag n s.2 t.2
theorem Ag_A {n ax : Nat} {s : Nat × zVc} {t : Nat × zLi} (ha : ax < 3) (h : AgP n s t) : AgP n (gA n ax s) (hA n ax t) := by
  obtain ⟨h1, h2, h3⟩ := h
  have hle := gA_le (ax := ax) h2
  have hf := Ag_F h3 ha (n - s.1) s.1 (by omega)
  unfold gA hA at *
  rw [← h1, ← hf]
  have hfl := gF_le s.2 ax (n - s.1) s.1
  by_cases c : gF s.2 ax (n - s.1) s.1 = n
  · rw [if_pos c] at hle ⊢
    rw [if_pos c]
    exact ⟨h1, h2, h3⟩
  · rw [if_neg c] at hle ⊢
    rw [if_neg c]
    exact ⟨rfl, hle, Ag_L (by omega) ha _ _ (by omega) (Ag_S h3 (by omega) (by omega))⟩
theorem Ag_B (b l : Nat) : ∀ (r c : Nat) (s : Nat × zVc) (L : zLi), Ag s.1 s.2 L → Ag (gB b l r c s).1 (gB b l r c s).2 (hB b l r c L)
  | 0, _, _, _, h => h
  | r + 1, c, s, L, h => by
    unfold gB hB
    by_cases k : zb b c = 1
    · rw [if_pos k, if_pos k]
      refine Ag_B b l r (c + 1) _ _ ⟨?_, fun j hj => ?_⟩
      · show (L ++ _).length = 3 * (s.1 + 1)
        rw [List.length_append, h.1]
        rfl
      · have hj : j < 3 * (s.1 + 1) := hj
        show gR s.2 l c s.1 j = _
        unfold gR upd
        rw [List.getD_eq_getElem?_getD]
        rcases (show j < 3 * s.1 ∨ j = 3 * s.1 ∨ j = 3 * s.1 + 1 ∨ j = 3 * s.1 + 2 by omega) with e | e | e | e
        · rw [if_neg (by omega), if_neg (by omega), if_neg (by omega), h.2 j e, List.getElem?_append_left (by rw [h.1]; exact e), List.getD_eq_getElem?_getD]
        · rw [if_neg (by omega), if_neg (by omega), if_pos e, List.getElem?_append_right (by rw [h.1]; omega), h.1, e, Nat.sub_self]
          rfl
        · rw [if_neg (by omega), if_pos e, List.getElem?_append_right (by rw [h.1]; omega), h.1, e, show 3 * s.1 + 1 - 3 * s.1 = 1 by omega]
          rfl
        · rw [if_pos e, List.getElem?_append_right (by rw [h.1]; omega), h.1, e, show 3 * s.1 + 2 - 3 * s.1 = 2 by omega]
          rfl
    · rw [if_neg k, if_neg k]
      exact Ag_B b l r (c + 1) s L h
def hN (b : Nat) : Nat := (hB b (pLCL b 7 0) (7 - pLCL b 7 0) (pLCL b 7 0 + 1) []).length / 3
def hZ (b : Nat) : Nat := (hA (hN b) 2 (hA (hN b) 1 (hA (hN b) 0 (0, hB b (pLCL b 7 0) (7 - pLCL b 7 0) (pLCL b 7 0 + 1) [])))).1
theorem q_hZ : ∀ b, b < 256 → b ≠ 0 → nI (hZ b) = pDIM b := by decide +kernel
theorem gZ_eq {b : Nat} (V : zVc) (hb : b < 256) (h0 : b ≠ 0) : nI (gZ b V).1 = pDIM b := by
  rw [← q_hZ b hb h0]
  have h := Ag_B b (pLCL b 7 0) (7 - pLCL b 7 0) (pLCL b 7 0 + 1) (0, V) [] ⟨rfl, fun j hj => absurd hj (by show ¬ j < 3 * 0; omega)⟩
  unfold gZ hZ
  have hn : hN b = (gB b (pLCL b 7 0) (7 - pLCL b 7 0) (pLCL b 7 0 + 1) (0, V)).1 := by
    unfold hN
    rw [h.1]
    omega
  rw [hn]
  exact congrArg nI (Ag_A (by decide) (Ag_A (by decide) (Ag_A (by decide) ⟨rfl, Nat.zero_le _, h⟩))).1
set_option maxHeartbeats 4000000 in
set_option maxRecDepth 100000 in
theorem l_dm0 {Z : zS} {d : Nat} {w : zW} {Q : List Value → zW → Prop} {b : Nat} (hb : b < 256) (h0 : b ≠ 0) (K : zG Z M_X8_dimension d Q w.length 22 [(0, .ref 41), (1, .int (nI b)), (2, .int (nI (pLCL b 7 0)))] [] w) : ∀ (n i : Nat), i + n = 7 → (∀ j, j < i → zb b j = 0) → pLCL b n i = pLCL b 7 0 → zG Z M_X8_dimension d Q w.length 8 [(0, .ref 41), (1, .int (nI b)), (2, .int (nI i))] [] w := by
  intro n
  induction n with
  | zero =>
    intro i hi hz he
    have hi : i = 7 := by omega
    subst hi
    have h7 : zb b 7 = 1 := by
      obtain ⟨c, h1, h2⟩ := q_some b hb h0
      rcases (show c < 7 ∨ c = 7 by omega) with h3 | h3
      · rw [hz c h3] at h2
        exact absurd h2 (by decide)
      · rw [← h3]; exact h2
    refine s_iload_n dX8_dimension_8 rfl ?_
    refine s_iload_n dX8_dimension_9 rfl ?_
    refine s_ishr dX8_dimension_10 ?_
    refine s_iconst (v := 1) dX8_dimension_11 rfl ?_
    refine s_iand dX8_dimension_12 ?_
    rw [zbit (by omega) (by omega), h7]
    refine s_if_ne (tgt := 22) dX8_dimension_13 (by decide) (fun hz => ?_) (fun hqz => absurd hqz (by decide))
    clear hz
    rw [← he] at K
    exact K
  | succ n ih =>
    intro i hi hz he
    by_cases c : zb b i = 0
    · rw [show pLCL b (n + 1) i = pLCL b n (i + 1) from by rw [pLCL, if_pos c]] at he
      refine s_iload_n dX8_dimension_8 rfl ?_
      refine s_iload_n dX8_dimension_9 rfl ?_
      refine s_ishr dX8_dimension_10 ?_
      refine s_iconst (v := 1) dX8_dimension_11 rfl ?_
      refine s_iand dX8_dimension_12 ?_
      rw [zbit (by omega) (by omega), c]
      refine s_if_ne (tgt := 22) dX8_dimension_13 (by decide) (fun hqz => absurd rfl hqz) (fun hz => ?_)
      clear hz
      refine s_iinc (nI (i + 1)) dX8_dimension_16 rfl (nI_1 _) (Nat.le_of_ble_eq_true rfl) rfl ?_
      refine s_goto (tgt := 8) dX8_dimension_19 (by decide) ?_
      exact ih (i + 1) (by omega) (fun j hj => by rcases (show j < i ∨ j = i by omega) with h3 | h3; exact hz j h3; rw [h3]; exact c) he
    · rw [show pLCL b (n + 1) i = i from by rw [pLCL, if_neg c]] at he
      refine s_iload_n dX8_dimension_8 rfl ?_
      refine s_iload_n dX8_dimension_9 rfl ?_
      refine s_ishr dX8_dimension_10 ?_
      refine s_iconst (v := 1) dX8_dimension_11 rfl ?_
      refine s_iand dX8_dimension_12 ?_
      rw [zbit (by omega) (by omega)]
      refine s_if_ne (tgt := 22) dX8_dimension_13 (by decide) (fun hz => ?_) (fun hqz => absurd hqz (fun q => c ((zn0 (zbL b i)).mp q)))
      clear hz
      rw [← he] at K
      exact K
set_option maxHeartbeats 4000000 in
set_option maxRecDepth 100000 in
theorem l_dmB {Z : zS} {d : Nat} {w : zW} {Q : List Value → zW → Prop} {mb mk mf ma mc ms me mq mu mh mp : Int32} (ho : w[41]? = some (oM mb mk mf ma mc ms me mq mu mh mp)) {f : Nat → Int32} (hvc : w[48]? = some (aI 24 f)) {b l : Nat} (hb : b < 256) (hl : l < 8) : ∀ (r c : Nat) (s : Nat × zVc), c + r = 8 → s.1 + r ≤ 7 → (K : zG Z M_X8_dimension d Q w.length 97 [(0, .ref 41), (1, .int (nI b)), (2, .int (nI l)), (3, .int (nI (gB b l r c s).1)), (4, .int (nI 8))] [] (w.set 48 (aI 24 ((gB b l r c s).2)))) → zG Z M_X8_dimension d Q w.length 29 [(0, .ref 41), (1, .int (nI b)), (2, .int (nI l)), (3, .int (nI s.1)), (4, .int (nI c))] [] (w.set 48 (aI 24 (s.2))) := by
  intro r
  induction r with
  | zero =>
    intro c s hc hn K
    have hc : c = 8 := by omega
    subst hc
    refine s_iload dX8_dimension_29 rfl ?_
    refine s_bipush (v := 8) dX8_dimension_31 rfl ?_
    refine s_icmp_ge (tgt := 97) dX8_dimension_33 (by decide) (fun hz => ?_) (fun hqz => absurd (by decide) hqz)
    clear hz
    exact K
  | succ r ih =>
    intro c s hc hn K
    have hm : c < 8 := by omega
    by_cases k : zb b c = 1
    · rw [show gB b l (r + 1) c s = gB b l r (c + 1) (s.1 + 1, gR s.2 l c s.1) from by rw [gB, if_pos k]] at K
      refine s_iload dX8_dimension_29 rfl ?_
      refine s_bipush (v := 8) dX8_dimension_31 rfl ?_
      refine s_icmp_ge (tgt := 97) dX8_dimension_33 (by decide) (fun hqz => absurd hqz (nI_ge hm (by decide))) (fun hz => ?_)
      clear hz
      refine s_iload_n dX8_dimension_36 rfl ?_
      refine s_iload dX8_dimension_37 rfl ?_
      refine s_ishr dX8_dimension_39 ?_
      refine s_iconst (v := 1) dX8_dimension_40 rfl ?_
      refine s_iand dX8_dimension_41 ?_
      rw [zbit (by omega) (by omega)]
      refine s_if_ne (tgt := 48) dX8_dimension_42 (by decide) (fun hz => ?_) (fun hqz => absurd hqz (by rw [k]; decide))
      clear hz
      refine s_iconst (v := nI 0) dX8_dimension_48 rfl ?_
      refine s_istore dX8_dimension_49 (Nat.le_of_ble_eq_true rfl) rfl ?_
      refine s_iload dX8_dimension_51 rfl ?_
      refine s_iconst (v := 3) dX8_dimension_53 rfl ?_
      refine s_icmp_ge (tgt := 88) dX8_dimension_54 (by decide) (fun hqz => absurd hqz (by decide)) (fun hz => ?_)
      clear hz
      refine s_aload_n dX8_dimension_57 rfl ?_
      refine s_get dX8_dimension_58 f_X8_35 (by first | exact zg1 ho (by decide) | exact zgs (zlt hvc)) (by rfl) ?_
      refine s_iconst (v := 3) dX8_dimension_61 rfl ?_
      refine s_iload_n dX8_dimension_62 rfl ?_
      refine s_imul dX8_dimension_63 ?_
      refine s_iload dX8_dimension_64 rfl ?_
      refine s_iadd dX8_dimension_66 ?_
      rw [z3m]
      refine s_iload dX8_dimension_67 rfl ?_
      refine s_iload dX8_dimension_69 rfl ?_
      refine s_ishr dX8_dimension_71 ?_
      refine s_iconst (v := 1) dX8_dimension_72 rfl ?_
      refine s_iand dX8_dimension_73 ?_
      rw [zbit (by omega) (by omega)]
      refine s_iload_n dX8_dimension_74 rfl ?_
      refine s_iload dX8_dimension_75 rfl ?_
      refine s_ishr dX8_dimension_77 ?_
      refine s_iconst (v := 1) dX8_dimension_78 rfl ?_
      refine s_iand dX8_dimension_79 ?_
      rw [zbit (by omega) (by omega)]
      refine s_isub dX8_dimension_80 ?_
      refine s_iast dX8_dimension_81 (by first | exact zg1 ho (by decide) | exact zgs (zlt hvc)) (zrd (n := 24) (by omega) (by decide)) ?_
      rw [List.set_set, nI_clamp (by omega)]
      refine s_iinc (nI (0 + 1)) dX8_dimension_82 rfl (nI_1 _) (Nat.le_of_ble_eq_true rfl) rfl ?_
      refine s_goto (tgt := 51) dX8_dimension_85 (by decide) ?_
      refine s_iload dX8_dimension_51 rfl ?_
      refine s_iconst (v := 3) dX8_dimension_53 rfl ?_
      refine s_icmp_ge (tgt := 88) dX8_dimension_54 (by decide) (fun hqz => absurd hqz (by decide)) (fun hz => ?_)
      clear hz
      refine s_aload_n dX8_dimension_57 rfl ?_
      refine s_get dX8_dimension_58 f_X8_35 (by first | exact zg1 ho (by decide) | exact zgs (zlt hvc)) (by rfl) ?_
      refine s_iconst (v := 3) dX8_dimension_61 rfl ?_
      refine s_iload_n dX8_dimension_62 rfl ?_
      refine s_imul dX8_dimension_63 ?_
      refine s_iload dX8_dimension_64 rfl ?_
      refine s_iadd dX8_dimension_66 ?_
      rw [z3m]
      refine s_iload dX8_dimension_67 rfl ?_
      refine s_iload dX8_dimension_69 rfl ?_
      refine s_ishr dX8_dimension_71 ?_
      refine s_iconst (v := 1) dX8_dimension_72 rfl ?_
      refine s_iand dX8_dimension_73 ?_
      rw [zbit (by omega) (by omega)]
      refine s_iload_n dX8_dimension_74 rfl ?_
      refine s_iload dX8_dimension_75 rfl ?_
      refine s_ishr dX8_dimension_77 ?_
      refine s_iconst (v := 1) dX8_dimension_78 rfl ?_
      refine s_iand dX8_dimension_79 ?_
      rw [zbit (by omega) (by omega)]
      refine s_isub dX8_dimension_80 ?_
      refine s_iast dX8_dimension_81 (by first | exact zg1 ho (by decide) | exact zgs (zlt hvc)) (zrd (n := 24) (by omega) (by decide)) ?_
      rw [List.set_set, nI_clamp (by omega)]
      refine s_iinc (nI (0 + 1 + 1)) dX8_dimension_82 rfl (nI_1 _) (Nat.le_of_ble_eq_true rfl) rfl ?_
      refine s_goto (tgt := 51) dX8_dimension_85 (by decide) ?_
      refine s_iload dX8_dimension_51 rfl ?_
      refine s_iconst (v := 3) dX8_dimension_53 rfl ?_
      refine s_icmp_ge (tgt := 88) dX8_dimension_54 (by decide) (fun hqz => absurd hqz (by decide)) (fun hz => ?_)
      clear hz
      refine s_aload_n dX8_dimension_57 rfl ?_
      refine s_get dX8_dimension_58 f_X8_35 (by first | exact zg1 ho (by decide) | exact zgs (zlt hvc)) (by rfl) ?_
      refine s_iconst (v := 3) dX8_dimension_61 rfl ?_
      refine s_iload_n dX8_dimension_62 rfl ?_
      refine s_imul dX8_dimension_63 ?_
      refine s_iload dX8_dimension_64 rfl ?_
      refine s_iadd dX8_dimension_66 ?_
      rw [z3m]
      refine s_iload dX8_dimension_67 rfl ?_
      refine s_iload dX8_dimension_69 rfl ?_
      refine s_ishr dX8_dimension_71 ?_
      refine s_iconst (v := 1) dX8_dimension_72 rfl ?_
      refine s_iand dX8_dimension_73 ?_
      rw [zbit (by omega) (by omega)]
      refine s_iload_n dX8_dimension_74 rfl ?_
      refine s_iload dX8_dimension_75 rfl ?_
      refine s_ishr dX8_dimension_77 ?_
      refine s_iconst (v := 1) dX8_dimension_78 rfl ?_
      refine s_iand dX8_dimension_79 ?_
      rw [zbit (by omega) (by omega)]
      refine s_isub dX8_dimension_80 ?_
      refine s_iast dX8_dimension_81 (by first | exact zg1 ho (by decide) | exact zgs (zlt hvc)) (zrd (n := 24) (by omega) (by decide)) ?_
      rw [List.set_set, nI_clamp (by omega)]
      refine s_iinc (nI (0 + 1 + 1 + 1)) dX8_dimension_82 rfl (nI_1 _) (Nat.le_of_ble_eq_true rfl) rfl ?_
      refine s_goto (tgt := 51) dX8_dimension_85 (by decide) ?_
      refine s_iload dX8_dimension_51 rfl ?_
      refine s_iconst (v := 3) dX8_dimension_53 rfl ?_
      refine s_icmp_ge (tgt := 88) dX8_dimension_54 (by decide) (fun hz => ?_) (fun hqz => absurd (by decide) hqz)
      clear hz
      refine s_iinc (nI (s.1 + 1)) dX8_dimension_88 rfl (nI_1 _) (Nat.le_of_ble_eq_true rfl) rfl ?_
      refine s_iinc (nI (c + 1)) dX8_dimension_91 rfl (nI_1 _) (Nat.le_of_ble_eq_true rfl) rfl ?_
      refine s_goto (tgt := 29) dX8_dimension_94 (by decide) ?_
      refine s_take 5 ?_
      exact ih (c + 1) (s.1 + 1, gR s.2 l c s.1) (by omega) (by show s.1 + 1 + r ≤ 7; omega) K
    · rw [show gB b l (r + 1) c s = gB b l r (c + 1) s from by rw [gB, if_neg k]] at K
      refine s_iload dX8_dimension_29 rfl ?_
      refine s_bipush (v := 8) dX8_dimension_31 rfl ?_
      refine s_icmp_ge (tgt := 97) dX8_dimension_33 (by decide) (fun hqz => absurd hqz (nI_ge hm (by decide))) (fun hz => ?_)
      clear hz
      refine s_iload_n dX8_dimension_36 rfl ?_
      refine s_iload dX8_dimension_37 rfl ?_
      refine s_ishr dX8_dimension_39 ?_
      refine s_iconst (v := 1) dX8_dimension_40 rfl ?_
      refine s_iand dX8_dimension_41 ?_
      rw [zbit (by omega) (by omega)]
      refine s_if_ne (tgt := 48) dX8_dimension_42 (by decide) (fun hqz => absurd ((zn0 (zbL b c)).mpr (by have := zb_lt b c; omega)) hqz) (fun hz => ?_)
      clear hz
      refine s_goto (tgt := 91) dX8_dimension_45 (by decide) ?_
      refine s_iinc (nI (c + 1)) dX8_dimension_91 rfl (nI_1 _) (Nat.le_of_ble_eq_true rfl) rfl ?_
      refine s_goto (tgt := 29) dX8_dimension_94 (by decide) ?_
      exact ih (c + 1) s (by omega) (by omega) K
set_option maxHeartbeats 4000000 in
set_option maxRecDepth 100000 in
theorem l_dmF {Z : zS} {d : Nat} {w : zW} {Q : List Value → zW → Prop} {mb mk mf ma mc ms me mq mu mh mp : Int32} (ho : w[41]? = some (oM mb mk mf ma mc ms me mq mu mh mp)) {f : Nat → Int32} (hvc : w[48]? = some (aI 24 f)) {b l n k ax : Nat} {V : zVc} (hn : n ≤ 7) (ha : ax < 3) : ∀ (m r : Nat), r + m = n → (K : zG Z M_X8_dimension d Q w.length 140 [(0, .ref 41), (1, .int (nI b)), (2, .int (nI l)), (3, .int (nI n)), (4, .int (nI k)), (5, .int (nI ax)), (6, .int (nI (gF V ax m r)))] [] (w.set 48 (aI 24 (V)))) → zG Z M_X8_dimension d Q w.length 113 [(0, .ref 41), (1, .int (nI b)), (2, .int (nI l)), (3, .int (nI n)), (4, .int (nI k)), (5, .int (nI ax)), (6, .int (nI r))] [] (w.set 48 (aI 24 (V))) := by
  intro m
  induction m with
  | zero =>
    intro r hr K
    have hr : r = n := by omega
    subst hr
    refine s_iload dX8_dimension_113 rfl ?_
    refine s_iload_n dX8_dimension_115 rfl ?_
    refine s_icmp_ge (tgt := 140) dX8_dimension_116 (by decide) (fun hz => ?_) (fun hqz => absurd (nI_le (Nat.le_refl _) (by omega)) hqz)
    clear hz
    exact K
  | succ m ih =>
    intro r hr K
    have hm : r < n := by omega
    by_cases c : V (3 * r + ax) = 0
    · rw [show gF V ax (m + 1) r = gF V ax m (r + 1) from by rw [gF, if_pos c]] at K
      refine s_iload dX8_dimension_113 rfl ?_
      refine s_iload_n dX8_dimension_115 rfl ?_
      refine s_icmp_ge (tgt := 140) dX8_dimension_116 (by decide) (fun hqz => absurd hqz (nI_ge hm (by omega))) (fun hz => ?_)
      clear hz
      refine s_aload_n dX8_dimension_119 rfl ?_
      refine s_get dX8_dimension_120 f_X8_35 (by first | exact zg1 ho (by decide) | exact zgs (zlt hvc)) (by rfl) ?_
      refine s_iconst (v := 3) dX8_dimension_123 rfl ?_
      refine s_iload dX8_dimension_124 rfl ?_
      refine s_imul dX8_dimension_126 ?_
      refine s_iload dX8_dimension_127 rfl ?_
      refine s_iadd dX8_dimension_129 ?_
      rw [z3m]
      refine s_iald dX8_dimension_130 (by first | exact zg1 ho (by decide) | exact zgs (zlt hvc)) (zrd (n := 24) (by omega) (by decide)) ?_
      rw [nI_clamp (by omega)]
      refine s_if_ne (tgt := 140) dX8_dimension_131 (by decide) (fun hqz => absurd c hqz) (fun hz => ?_)
      clear hz
      refine s_iinc (nI (r + 1)) dX8_dimension_134 rfl (nI_1 _) (Nat.le_of_ble_eq_true rfl) rfl ?_
      refine s_goto (tgt := 113) dX8_dimension_137 (by decide) ?_
      exact ih (r + 1) (by omega) K
    · rw [show gF V ax (m + 1) r = r from by rw [gF, if_neg c]] at K
      refine s_iload dX8_dimension_113 rfl ?_
      refine s_iload_n dX8_dimension_115 rfl ?_
      refine s_icmp_ge (tgt := 140) dX8_dimension_116 (by decide) (fun hqz => absurd hqz (nI_ge hm (by omega))) (fun hz => ?_)
      clear hz
      refine s_aload_n dX8_dimension_119 rfl ?_
      refine s_get dX8_dimension_120 f_X8_35 (by first | exact zg1 ho (by decide) | exact zgs (zlt hvc)) (by rfl) ?_
      refine s_iconst (v := 3) dX8_dimension_123 rfl ?_
      refine s_iload dX8_dimension_124 rfl ?_
      refine s_imul dX8_dimension_126 ?_
      refine s_iload dX8_dimension_127 rfl ?_
      refine s_iadd dX8_dimension_129 ?_
      rw [z3m]
      refine s_iald dX8_dimension_130 (by first | exact zg1 ho (by decide) | exact zgs (zlt hvc)) (zrd (n := 24) (by omega) (by decide)) ?_
      rw [nI_clamp (by omega)]
      refine s_if_ne (tgt := 140) dX8_dimension_131 (by decide) (fun hz => ?_) (fun hqz => absurd hqz c)
      clear hz
      exact K
set_option maxHeartbeats 4000000 in
set_option maxRecDepth 100000 in
theorem l_dmS {Z : zS} {d : Nat} {w : zW} {Q : List Value → zW → Prop} {mb mk mf ma mc ms me mq mu mh mp : Int32} (ho : w[41]? = some (oM mb mk mf ma mc ms me mq mu mh mp)) {f : Nat → Int32} (hvc : w[48]? = some (aI 24 f)) {b l n k ax : Nat} {V : zVc} {r : Nat} (hn : n ≤ 7) (hr : r < n) (hk : k < n) (K : zG Z M_X8_dimension d Q w.length 216 [(0, .ref 41), (1, .int (nI b)), (2, .int (nI l)), (3, .int (nI n)), (4, .int (nI k)), (5, .int (nI ax)), (6, .int (nI r))] [] (w.set 48 (aI 24 (gS V r k)))) : zG Z M_X8_dimension d Q w.length 149 [(0, .ref 41), (1, .int (nI b)), (2, .int (nI l)), (3, .int (nI n)), (4, .int (nI k)), (5, .int (nI ax)), (6, .int (nI r))] [] (w.set 48 (aI 24 (V))) := by
  refine s_iconst (v := nI 0) dX8_dimension_149 rfl ?_
  refine s_istore dX8_dimension_150 (Nat.le_of_ble_eq_true rfl) rfl ?_
  refine s_iload dX8_dimension_152 rfl ?_
  refine s_iconst (v := 3) dX8_dimension_154 rfl ?_
  refine s_icmp_ge (tgt := 216) dX8_dimension_155 (by decide) (fun hqz => absurd hqz (by decide)) (fun hz => ?_)
  clear hz
  refine s_aload_n dX8_dimension_158 rfl ?_
  refine s_get dX8_dimension_159 f_X8_35 (by first | exact zg1 ho (by decide) | exact zgs (zlt hvc)) (by rfl) ?_
  refine s_iconst (v := 3) dX8_dimension_162 rfl ?_
  refine s_iload dX8_dimension_163 rfl ?_
  refine s_imul dX8_dimension_165 ?_
  refine s_iload dX8_dimension_166 rfl ?_
  refine s_iadd dX8_dimension_168 ?_
  rw [z3m]
  refine s_iald dX8_dimension_169 (by first | exact zg1 ho (by decide) | exact zgs (zlt hvc)) (zrd (n := 24) (by omega) (by decide)) ?_
  rw [nI_clamp (by omega)]
  refine s_istore dX8_dimension_170 (Nat.le_of_ble_eq_true rfl) rfl ?_
  refine s_aload_n dX8_dimension_172 rfl ?_
  refine s_get dX8_dimension_173 f_X8_35 (by first | exact zg1 ho (by decide) | exact zgs (zlt hvc)) (by rfl) ?_
  refine s_iconst (v := 3) dX8_dimension_176 rfl ?_
  refine s_iload dX8_dimension_177 rfl ?_
  refine s_imul dX8_dimension_179 ?_
  refine s_iload dX8_dimension_180 rfl ?_
  refine s_iadd dX8_dimension_182 ?_
  rw [z3m]
  refine s_aload_n dX8_dimension_183 rfl ?_
  refine s_get dX8_dimension_184 f_X8_35 (by first | exact zg1 ho (by decide) | exact zgs (zlt hvc)) (by rfl) ?_
  refine s_iconst (v := 3) dX8_dimension_187 rfl ?_
  refine s_iload dX8_dimension_188 rfl ?_
  refine s_imul dX8_dimension_190 ?_
  refine s_iload dX8_dimension_191 rfl ?_
  refine s_iadd dX8_dimension_193 ?_
  rw [z3m]
  refine s_iald dX8_dimension_194 (by first | exact zg1 ho (by decide) | exact zgs (zlt hvc)) (zrd (n := 24) (by omega) (by decide)) ?_
  rw [nI_clamp (by omega)]
  refine s_iast dX8_dimension_195 (by first | exact zg1 ho (by decide) | exact zgs (zlt hvc)) (zrd (n := 24) (by omega) (by decide)) ?_
  rw [List.set_set, nI_clamp (by omega)]
  refine s_aload_n dX8_dimension_196 rfl ?_
  refine s_get dX8_dimension_197 f_X8_35 (by first | exact zg1 ho (by decide) | exact zgs (zlt hvc)) (by rfl) ?_
  refine s_iconst (v := 3) dX8_dimension_200 rfl ?_
  refine s_iload dX8_dimension_201 rfl ?_
  refine s_imul dX8_dimension_203 ?_
  refine s_iload dX8_dimension_204 rfl ?_
  refine s_iadd dX8_dimension_206 ?_
  rw [z3m]
  refine s_iload dX8_dimension_207 rfl ?_
  refine s_iast dX8_dimension_209 (by first | exact zg1 ho (by decide) | exact zgs (zlt hvc)) (zrd (n := 24) (by omega) (by decide)) ?_
  rw [List.set_set, nI_clamp (by omega)]
  refine s_iinc (nI (0 + 1)) dX8_dimension_210 rfl (nI_1 _) (Nat.le_of_ble_eq_true rfl) rfl ?_
  refine s_goto (tgt := 152) dX8_dimension_213 (by decide) ?_
  refine s_iload dX8_dimension_152 rfl ?_
  refine s_iconst (v := 3) dX8_dimension_154 rfl ?_
  refine s_icmp_ge (tgt := 216) dX8_dimension_155 (by decide) (fun hqz => absurd hqz (by decide)) (fun hz => ?_)
  clear hz
  refine s_aload_n dX8_dimension_158 rfl ?_
  refine s_get dX8_dimension_159 f_X8_35 (by first | exact zg1 ho (by decide) | exact zgs (zlt hvc)) (by rfl) ?_
  refine s_iconst (v := 3) dX8_dimension_162 rfl ?_
  refine s_iload dX8_dimension_163 rfl ?_
  refine s_imul dX8_dimension_165 ?_
  refine s_iload dX8_dimension_166 rfl ?_
  refine s_iadd dX8_dimension_168 ?_
  rw [z3m]
  refine s_iald dX8_dimension_169 (by first | exact zg1 ho (by decide) | exact zgs (zlt hvc)) (zrd (n := 24) (by omega) (by decide)) ?_
  rw [nI_clamp (by omega)]
  refine s_istore dX8_dimension_170 (Nat.le_of_ble_eq_true rfl) rfl ?_
  refine s_aload_n dX8_dimension_172 rfl ?_
  refine s_get dX8_dimension_173 f_X8_35 (by first | exact zg1 ho (by decide) | exact zgs (zlt hvc)) (by rfl) ?_
  refine s_iconst (v := 3) dX8_dimension_176 rfl ?_
  refine s_iload dX8_dimension_177 rfl ?_
  refine s_imul dX8_dimension_179 ?_
  refine s_iload dX8_dimension_180 rfl ?_
  refine s_iadd dX8_dimension_182 ?_
  rw [z3m]
  refine s_aload_n dX8_dimension_183 rfl ?_
  refine s_get dX8_dimension_184 f_X8_35 (by first | exact zg1 ho (by decide) | exact zgs (zlt hvc)) (by rfl) ?_
  refine s_iconst (v := 3) dX8_dimension_187 rfl ?_
  refine s_iload dX8_dimension_188 rfl ?_
  refine s_imul dX8_dimension_190 ?_
  refine s_iload dX8_dimension_191 rfl ?_
  refine s_iadd dX8_dimension_193 ?_
  rw [z3m]
  refine s_iald dX8_dimension_194 (by first | exact zg1 ho (by decide) | exact zgs (zlt hvc)) (zrd (n := 24) (by omega) (by decide)) ?_
  rw [nI_clamp (by omega)]
  refine s_iast dX8_dimension_195 (by first | exact zg1 ho (by decide) | exact zgs (zlt hvc)) (zrd (n := 24) (by omega) (by decide)) ?_
  rw [List.set_set, nI_clamp (by omega)]
  refine s_aload_n dX8_dimension_196 rfl ?_
  refine s_get dX8_dimension_197 f_X8_35 (by first | exact zg1 ho (by decide) | exact zgs (zlt hvc)) (by rfl) ?_
  refine s_iconst (v := 3) dX8_dimension_200 rfl ?_
  refine s_iload dX8_dimension_201 rfl ?_
  refine s_imul dX8_dimension_203 ?_
  refine s_iload dX8_dimension_204 rfl ?_
  refine s_iadd dX8_dimension_206 ?_
  rw [z3m]
  refine s_iload dX8_dimension_207 rfl ?_
  refine s_iast dX8_dimension_209 (by first | exact zg1 ho (by decide) | exact zgs (zlt hvc)) (zrd (n := 24) (by omega) (by decide)) ?_
  rw [List.set_set, nI_clamp (by omega)]
  refine s_iinc (nI (0 + 1 + 1)) dX8_dimension_210 rfl (nI_1 _) (Nat.le_of_ble_eq_true rfl) rfl ?_
  refine s_goto (tgt := 152) dX8_dimension_213 (by decide) ?_
  refine s_iload dX8_dimension_152 rfl ?_
  refine s_iconst (v := 3) dX8_dimension_154 rfl ?_
  refine s_icmp_ge (tgt := 216) dX8_dimension_155 (by decide) (fun hqz => absurd hqz (by decide)) (fun hz => ?_)
  clear hz
  refine s_aload_n dX8_dimension_158 rfl ?_
  refine s_get dX8_dimension_159 f_X8_35 (by first | exact zg1 ho (by decide) | exact zgs (zlt hvc)) (by rfl) ?_
  refine s_iconst (v := 3) dX8_dimension_162 rfl ?_
  refine s_iload dX8_dimension_163 rfl ?_
  refine s_imul dX8_dimension_165 ?_
  refine s_iload dX8_dimension_166 rfl ?_
  refine s_iadd dX8_dimension_168 ?_
  rw [z3m]
  refine s_iald dX8_dimension_169 (by first | exact zg1 ho (by decide) | exact zgs (zlt hvc)) (zrd (n := 24) (by omega) (by decide)) ?_
  rw [nI_clamp (by omega)]
  refine s_istore dX8_dimension_170 (Nat.le_of_ble_eq_true rfl) rfl ?_
  refine s_aload_n dX8_dimension_172 rfl ?_
  refine s_get dX8_dimension_173 f_X8_35 (by first | exact zg1 ho (by decide) | exact zgs (zlt hvc)) (by rfl) ?_
  refine s_iconst (v := 3) dX8_dimension_176 rfl ?_
  refine s_iload dX8_dimension_177 rfl ?_
  refine s_imul dX8_dimension_179 ?_
  refine s_iload dX8_dimension_180 rfl ?_
  refine s_iadd dX8_dimension_182 ?_
  rw [z3m]
  refine s_aload_n dX8_dimension_183 rfl ?_
  refine s_get dX8_dimension_184 f_X8_35 (by first | exact zg1 ho (by decide) | exact zgs (zlt hvc)) (by rfl) ?_
  refine s_iconst (v := 3) dX8_dimension_187 rfl ?_
  refine s_iload dX8_dimension_188 rfl ?_
  refine s_imul dX8_dimension_190 ?_
  refine s_iload dX8_dimension_191 rfl ?_
  refine s_iadd dX8_dimension_193 ?_
  rw [z3m]
  refine s_iald dX8_dimension_194 (by first | exact zg1 ho (by decide) | exact zgs (zlt hvc)) (zrd (n := 24) (by omega) (by decide)) ?_
  rw [nI_clamp (by omega)]
  refine s_iast dX8_dimension_195 (by first | exact zg1 ho (by decide) | exact zgs (zlt hvc)) (zrd (n := 24) (by omega) (by decide)) ?_
  rw [List.set_set, nI_clamp (by omega)]
  refine s_aload_n dX8_dimension_196 rfl ?_
  refine s_get dX8_dimension_197 f_X8_35 (by first | exact zg1 ho (by decide) | exact zgs (zlt hvc)) (by rfl) ?_
  refine s_iconst (v := 3) dX8_dimension_200 rfl ?_
  refine s_iload dX8_dimension_201 rfl ?_
  refine s_imul dX8_dimension_203 ?_
  refine s_iload dX8_dimension_204 rfl ?_
  refine s_iadd dX8_dimension_206 ?_
  rw [z3m]
  refine s_iload dX8_dimension_207 rfl ?_
  refine s_iast dX8_dimension_209 (by first | exact zg1 ho (by decide) | exact zgs (zlt hvc)) (zrd (n := 24) (by omega) (by decide)) ?_
  rw [List.set_set, nI_clamp (by omega)]
  refine s_iinc (nI (0 + 1 + 1 + 1)) dX8_dimension_210 rfl (nI_1 _) (Nat.le_of_ble_eq_true rfl) rfl ?_
  refine s_goto (tgt := 152) dX8_dimension_213 (by decide) ?_
  refine s_iload dX8_dimension_152 rfl ?_
  refine s_iconst (v := 3) dX8_dimension_154 rfl ?_
  refine s_icmp_ge (tgt := 216) dX8_dimension_155 (by decide) (fun hz => ?_) (fun hqz => absurd (by decide) hqz)
  clear hz
  refine s_take 7 ?_
  exact K
set_option maxHeartbeats 4000000 in
set_option maxRecDepth 100000 in
theorem l_dmE {Z : zS} {d : Nat} {w : zW} {Q : List Value → zW → Prop} {mb mk mf ma mc ms me mq mu mh mp : Int32} (ho : w[41]? = some (oM mb mk mf ma mc ms me mq mu mh mp)) {f : Nat → Int32} (hvc : w[48]? = some (aI 24 f)) {b l n k ax r0 : Nat} (hn : n ≤ 7) (hk : k < n) (ha : ax < 3) : ∀ (m q : Nat) (V : zVc), q + m = n → (K : zG Z M_X8_dimension d Q w.length 316 [(0, .ref 41), (1, .int (nI b)), (2, .int (nI l)), (3, .int (nI n)), (4, .int (nI k)), (5, .int (nI ax)), (6, .int (nI r0))] [] (w.set 48 (aI 24 (gL k ax m q V)))) → zG Z M_X8_dimension d Q w.length 222 [(0, .ref 41), (1, .int (nI b)), (2, .int (nI l)), (3, .int (nI n)), (4, .int (nI k)), (5, .int (nI ax)), (6, .int (nI r0)), (7, .int (nI q))] [] (w.set 48 (aI 24 (V))) := by
  intro m
  induction m with
  | zero =>
    intro q V hq K
    have hq : q = n := by omega
    subst hq
    refine s_iload dX8_dimension_222 rfl ?_
    refine s_iload_n dX8_dimension_224 rfl ?_
    refine s_icmp_ge (tgt := 316) dX8_dimension_225 (by decide) (fun hz => ?_) (fun hqz => absurd (nI_le (Nat.le_refl _) (by omega)) hqz)
    clear hz
    refine s_take 7 ?_
    exact K
  | succ m ih =>
    intro q V hq K
    have hm : q < n := by omega
    rw [show gL k ax (m + 1) q V = gL k ax m (q + 1) (gE V q k ax) from rfl] at K
    refine s_iload dX8_dimension_222 rfl ?_
    refine s_iload_n dX8_dimension_224 rfl ?_
    refine s_icmp_ge (tgt := 316) dX8_dimension_225 (by decide) (fun hqz => absurd hqz (nI_ge hm (by omega))) (fun hz => ?_)
    clear hz
    refine s_aload_n dX8_dimension_228 rfl ?_
    refine s_get dX8_dimension_229 f_X8_35 (by first | exact zg1 ho (by decide) | exact zgs (zlt hvc)) (by rfl) ?_
    refine s_iconst (v := 3) dX8_dimension_232 rfl ?_
    refine s_iload dX8_dimension_233 rfl ?_
    refine s_imul dX8_dimension_235 ?_
    refine s_iload dX8_dimension_236 rfl ?_
    refine s_iadd dX8_dimension_238 ?_
    rw [z3m]
    refine s_iald dX8_dimension_239 (by first | exact zg1 ho (by decide) | exact zgs (zlt hvc)) (zrd (n := 24) (by omega) (by decide)) ?_
    rw [nI_clamp (by omega)]
    refine s_istore dX8_dimension_240 (Nat.le_of_ble_eq_true rfl) rfl ?_
    refine s_iconst (v := nI 0) dX8_dimension_242 rfl ?_
    refine s_istore dX8_dimension_243 (Nat.le_of_ble_eq_true rfl) rfl ?_
    refine s_iload dX8_dimension_245 rfl ?_
    refine s_iconst (v := 3) dX8_dimension_247 rfl ?_
    refine s_icmp_ge (tgt := 310) dX8_dimension_248 (by decide) (fun hqz => absurd hqz (by decide)) (fun hz => ?_)
    clear hz
    refine s_aload_n dX8_dimension_251 rfl ?_
    refine s_get dX8_dimension_252 f_X8_35 (by first | exact zg1 ho (by decide) | exact zgs (zlt hvc)) (by rfl) ?_
    refine s_iconst (v := 3) dX8_dimension_255 rfl ?_
    refine s_iload dX8_dimension_256 rfl ?_
    refine s_imul dX8_dimension_258 ?_
    refine s_iload dX8_dimension_259 rfl ?_
    refine s_iadd dX8_dimension_261 ?_
    rw [z3m]
    refine s_aload_n dX8_dimension_262 rfl ?_
    refine s_get dX8_dimension_263 f_X8_35 (by first | exact zg1 ho (by decide) | exact zgs (zlt hvc)) (by rfl) ?_
    refine s_iconst (v := 3) dX8_dimension_266 rfl ?_
    refine s_iload dX8_dimension_267 rfl ?_
    refine s_imul dX8_dimension_269 ?_
    refine s_iload dX8_dimension_270 rfl ?_
    refine s_iadd dX8_dimension_272 ?_
    rw [z3m]
    refine s_iald dX8_dimension_273 (by first | exact zg1 ho (by decide) | exact zgs (zlt hvc)) (zrd (n := 24) (by omega) (by decide)) ?_
    rw [nI_clamp (by omega)]
    refine s_aload_n dX8_dimension_274 rfl ?_
    refine s_get dX8_dimension_275 f_X8_35 (by first | exact zg1 ho (by decide) | exact zgs (zlt hvc)) (by rfl) ?_
    refine s_iconst (v := 3) dX8_dimension_278 rfl ?_
    refine s_iload dX8_dimension_279 rfl ?_
    refine s_imul dX8_dimension_281 ?_
    refine s_iload dX8_dimension_282 rfl ?_
    refine s_iadd dX8_dimension_284 ?_
    rw [z3m]
    refine s_iald dX8_dimension_285 (by first | exact zg1 ho (by decide) | exact zgs (zlt hvc)) (zrd (n := 24) (by omega) (by decide)) ?_
    rw [nI_clamp (by omega)]
    refine s_imul dX8_dimension_286 ?_
    refine s_iload dX8_dimension_287 rfl ?_
    refine s_aload_n dX8_dimension_289 rfl ?_
    refine s_get dX8_dimension_290 f_X8_35 (by first | exact zg1 ho (by decide) | exact zgs (zlt hvc)) (by rfl) ?_
    refine s_iconst (v := 3) dX8_dimension_293 rfl ?_
    refine s_iload dX8_dimension_294 rfl ?_
    refine s_imul dX8_dimension_296 ?_
    refine s_iload dX8_dimension_297 rfl ?_
    refine s_iadd dX8_dimension_299 ?_
    rw [z3m]
    refine s_iald dX8_dimension_300 (by first | exact zg1 ho (by decide) | exact zgs (zlt hvc)) (zrd (n := 24) (by omega) (by decide)) ?_
    rw [nI_clamp (by omega)]
    refine s_imul dX8_dimension_301 ?_
    refine s_isub dX8_dimension_302 ?_
    refine s_iast dX8_dimension_303 (by first | exact zg1 ho (by decide) | exact zgs (zlt hvc)) (zrd (n := 24) (by omega) (by decide)) ?_
    rw [List.set_set, nI_clamp (by omega)]
    refine s_iinc (nI (0 + 1)) dX8_dimension_304 rfl (nI_1 _) (Nat.le_of_ble_eq_true rfl) rfl ?_
    refine s_goto (tgt := 245) dX8_dimension_307 (by decide) ?_
    refine s_iload dX8_dimension_245 rfl ?_
    refine s_iconst (v := 3) dX8_dimension_247 rfl ?_
    refine s_icmp_ge (tgt := 310) dX8_dimension_248 (by decide) (fun hqz => absurd hqz (by decide)) (fun hz => ?_)
    clear hz
    refine s_aload_n dX8_dimension_251 rfl ?_
    refine s_get dX8_dimension_252 f_X8_35 (by first | exact zg1 ho (by decide) | exact zgs (zlt hvc)) (by rfl) ?_
    refine s_iconst (v := 3) dX8_dimension_255 rfl ?_
    refine s_iload dX8_dimension_256 rfl ?_
    refine s_imul dX8_dimension_258 ?_
    refine s_iload dX8_dimension_259 rfl ?_
    refine s_iadd dX8_dimension_261 ?_
    rw [z3m]
    refine s_aload_n dX8_dimension_262 rfl ?_
    refine s_get dX8_dimension_263 f_X8_35 (by first | exact zg1 ho (by decide) | exact zgs (zlt hvc)) (by rfl) ?_
    refine s_iconst (v := 3) dX8_dimension_266 rfl ?_
    refine s_iload dX8_dimension_267 rfl ?_
    refine s_imul dX8_dimension_269 ?_
    refine s_iload dX8_dimension_270 rfl ?_
    refine s_iadd dX8_dimension_272 ?_
    rw [z3m]
    refine s_iald dX8_dimension_273 (by first | exact zg1 ho (by decide) | exact zgs (zlt hvc)) (zrd (n := 24) (by omega) (by decide)) ?_
    rw [nI_clamp (by omega)]
    refine s_aload_n dX8_dimension_274 rfl ?_
    refine s_get dX8_dimension_275 f_X8_35 (by first | exact zg1 ho (by decide) | exact zgs (zlt hvc)) (by rfl) ?_
    refine s_iconst (v := 3) dX8_dimension_278 rfl ?_
    refine s_iload dX8_dimension_279 rfl ?_
    refine s_imul dX8_dimension_281 ?_
    refine s_iload dX8_dimension_282 rfl ?_
    refine s_iadd dX8_dimension_284 ?_
    rw [z3m]
    refine s_iald dX8_dimension_285 (by first | exact zg1 ho (by decide) | exact zgs (zlt hvc)) (zrd (n := 24) (by omega) (by decide)) ?_
    rw [nI_clamp (by omega)]
    refine s_imul dX8_dimension_286 ?_
    refine s_iload dX8_dimension_287 rfl ?_
    refine s_aload_n dX8_dimension_289 rfl ?_
    refine s_get dX8_dimension_290 f_X8_35 (by first | exact zg1 ho (by decide) | exact zgs (zlt hvc)) (by rfl) ?_
    refine s_iconst (v := 3) dX8_dimension_293 rfl ?_
    refine s_iload dX8_dimension_294 rfl ?_
    refine s_imul dX8_dimension_296 ?_
    refine s_iload dX8_dimension_297 rfl ?_
    refine s_iadd dX8_dimension_299 ?_
    rw [z3m]
    refine s_iald dX8_dimension_300 (by first | exact zg1 ho (by decide) | exact zgs (zlt hvc)) (zrd (n := 24) (by omega) (by decide)) ?_
    rw [nI_clamp (by omega)]
    refine s_imul dX8_dimension_301 ?_
    refine s_isub dX8_dimension_302 ?_
    refine s_iast dX8_dimension_303 (by first | exact zg1 ho (by decide) | exact zgs (zlt hvc)) (zrd (n := 24) (by omega) (by decide)) ?_
    rw [List.set_set, nI_clamp (by omega)]
    refine s_iinc (nI (0 + 1 + 1)) dX8_dimension_304 rfl (nI_1 _) (Nat.le_of_ble_eq_true rfl) rfl ?_
    refine s_goto (tgt := 245) dX8_dimension_307 (by decide) ?_
    refine s_iload dX8_dimension_245 rfl ?_
    refine s_iconst (v := 3) dX8_dimension_247 rfl ?_
    refine s_icmp_ge (tgt := 310) dX8_dimension_248 (by decide) (fun hqz => absurd hqz (by decide)) (fun hz => ?_)
    clear hz
    refine s_aload_n dX8_dimension_251 rfl ?_
    refine s_get dX8_dimension_252 f_X8_35 (by first | exact zg1 ho (by decide) | exact zgs (zlt hvc)) (by rfl) ?_
    refine s_iconst (v := 3) dX8_dimension_255 rfl ?_
    refine s_iload dX8_dimension_256 rfl ?_
    refine s_imul dX8_dimension_258 ?_
    refine s_iload dX8_dimension_259 rfl ?_
    refine s_iadd dX8_dimension_261 ?_
    rw [z3m]
    refine s_aload_n dX8_dimension_262 rfl ?_
    refine s_get dX8_dimension_263 f_X8_35 (by first | exact zg1 ho (by decide) | exact zgs (zlt hvc)) (by rfl) ?_
    refine s_iconst (v := 3) dX8_dimension_266 rfl ?_
    refine s_iload dX8_dimension_267 rfl ?_
    refine s_imul dX8_dimension_269 ?_
    refine s_iload dX8_dimension_270 rfl ?_
    refine s_iadd dX8_dimension_272 ?_
    rw [z3m]
    refine s_iald dX8_dimension_273 (by first | exact zg1 ho (by decide) | exact zgs (zlt hvc)) (zrd (n := 24) (by omega) (by decide)) ?_
    rw [nI_clamp (by omega)]
    refine s_aload_n dX8_dimension_274 rfl ?_
    refine s_get dX8_dimension_275 f_X8_35 (by first | exact zg1 ho (by decide) | exact zgs (zlt hvc)) (by rfl) ?_
    refine s_iconst (v := 3) dX8_dimension_278 rfl ?_
    refine s_iload dX8_dimension_279 rfl ?_
    refine s_imul dX8_dimension_281 ?_
    refine s_iload dX8_dimension_282 rfl ?_
    refine s_iadd dX8_dimension_284 ?_
    rw [z3m]
    refine s_iald dX8_dimension_285 (by first | exact zg1 ho (by decide) | exact zgs (zlt hvc)) (zrd (n := 24) (by omega) (by decide)) ?_
    rw [nI_clamp (by omega)]
    refine s_imul dX8_dimension_286 ?_
    refine s_iload dX8_dimension_287 rfl ?_
    refine s_aload_n dX8_dimension_289 rfl ?_
    refine s_get dX8_dimension_290 f_X8_35 (by first | exact zg1 ho (by decide) | exact zgs (zlt hvc)) (by rfl) ?_
    refine s_iconst (v := 3) dX8_dimension_293 rfl ?_
    refine s_iload dX8_dimension_294 rfl ?_
    refine s_imul dX8_dimension_296 ?_
    refine s_iload dX8_dimension_297 rfl ?_
    refine s_iadd dX8_dimension_299 ?_
    rw [z3m]
    refine s_iald dX8_dimension_300 (by first | exact zg1 ho (by decide) | exact zgs (zlt hvc)) (zrd (n := 24) (by omega) (by decide)) ?_
    rw [nI_clamp (by omega)]
    refine s_imul dX8_dimension_301 ?_
    refine s_isub dX8_dimension_302 ?_
    refine s_iast dX8_dimension_303 (by first | exact zg1 ho (by decide) | exact zgs (zlt hvc)) (zrd (n := 24) (by omega) (by decide)) ?_
    rw [List.set_set, nI_clamp (by omega)]
    refine s_iinc (nI (0 + 1 + 1 + 1)) dX8_dimension_304 rfl (nI_1 _) (Nat.le_of_ble_eq_true rfl) rfl ?_
    refine s_goto (tgt := 245) dX8_dimension_307 (by decide) ?_
    refine s_iload dX8_dimension_245 rfl ?_
    refine s_iconst (v := 3) dX8_dimension_247 rfl ?_
    refine s_icmp_ge (tgt := 310) dX8_dimension_248 (by decide) (fun hz => ?_) (fun hqz => absurd (by decide) hqz)
    clear hz
    refine s_iinc (nI (q + 1)) dX8_dimension_310 rfl (nI_1 _) (Nat.le_of_ble_eq_true rfl) rfl ?_
    refine s_goto (tgt := 222) dX8_dimension_313 (by decide) ?_
    refine s_take 8 ?_
    exact ih (q + 1) (gE V q k ax) (by omega) K
set_option maxHeartbeats 4000000 in
set_option maxRecDepth 100000 in
theorem l_dmA {Z : zS} {d : Nat} {w : zW} {Q : List Value → zW → Prop} {mb mk mf ma mc ms me mq mu mh mp : Int32} (ho : w[41]? = some (oM mb mk mf ma mc ms me mq mu mh mp)) {f : Nat → Int32} (hvc : w[48]? = some (aI 24 f)) {b l n ax : Nat} {s : Nat × zVc} (hn : n ≤ 7) (ha : ax < 3) (hs : s.1 ≤ n) (K : zG Z M_X8_dimension d Q w.length 103 [(0, .ref 41), (1, .int (nI b)), (2, .int (nI l)), (3, .int (nI n)), (4, .int (nI (gA n ax s).1)), (5, .int (nI (ax + 1)))] [] (w.set 48 (aI 24 ((gA n ax s).2)))) : zG Z M_X8_dimension d Q w.length 103 [(0, .ref 41), (1, .int (nI b)), (2, .int (nI l)), (3, .int (nI n)), (4, .int (nI s.1)), (5, .int (nI ax))] [] (w.set 48 (aI 24 (s.2))) := by
  have hf := gF_le s.2 ax (n - s.1) s.1
  by_cases c : gF s.2 ax (n - s.1) s.1 = n
  · rw [show gA n ax s = s from by rw [gA, if_pos c]] at K
    refine s_iload dX8_dimension_103 rfl ?_
    refine s_iconst (v := 3) dX8_dimension_105 rfl ?_
    refine s_icmp_ge (tgt := 325) dX8_dimension_106 (by decide) (fun hqz => absurd hqz (nI_ge ha (by decide))) (fun hz => ?_)
    clear hz
    refine s_iload dX8_dimension_109 rfl ?_
    refine s_istore dX8_dimension_111 (Nat.le_of_ble_eq_true rfl) rfl ?_
    refine l_dmF ho hvc hn ha (n - s.1) s.1 (by omega) ?_
    refine s_iload dX8_dimension_140 rfl ?_
    refine s_iload_n dX8_dimension_142 rfl ?_
    refine s_icmp_ne (tgt := 149) dX8_dimension_143 (by decide) (fun hqz => absurd (by rw [c]) hqz) (fun hz => ?_)
    clear hz
    refine s_goto (tgt := 319) dX8_dimension_146 (by decide) ?_
    refine s_iinc (nI (ax + 1)) dX8_dimension_319 rfl (nI_1 _) (Nat.le_of_ble_eq_true rfl) rfl ?_
    refine s_goto (tgt := 103) dX8_dimension_322 (by decide) ?_
    refine s_take 6 ?_
    exact K
  · rw [show gA n ax s = (s.1 + 1, gL s.1 ax (n - (s.1 + 1)) (s.1 + 1) (gS s.2 (gF s.2 ax (n - s.1) s.1) s.1)) from by rw [gA, if_neg c]] at K
    refine s_iload dX8_dimension_103 rfl ?_
    refine s_iconst (v := 3) dX8_dimension_105 rfl ?_
    refine s_icmp_ge (tgt := 325) dX8_dimension_106 (by decide) (fun hqz => absurd hqz (nI_ge ha (by decide))) (fun hz => ?_)
    clear hz
    refine s_iload dX8_dimension_109 rfl ?_
    refine s_istore dX8_dimension_111 (Nat.le_of_ble_eq_true rfl) rfl ?_
    refine l_dmF ho hvc hn ha (n - s.1) s.1 (by omega) ?_
    refine s_iload dX8_dimension_140 rfl ?_
    refine s_iload_n dX8_dimension_142 rfl ?_
    refine s_icmp_ne (tgt := 149) dX8_dimension_143 (by decide) (fun hz => ?_) (fun hqz => absurd hqz (fun q => c ((nI_eq (by omega) (by omega)).mp q)))
    clear hz
    refine l_dmS ho hvc hn (by omega) (by omega) ?_
    refine s_iload dX8_dimension_216 rfl ?_
    refine s_iconst (v := 1) dX8_dimension_218 rfl ?_
    refine s_iadd dX8_dimension_219 ?_
    rw [nI_1]
    refine s_istore dX8_dimension_220 (Nat.le_of_ble_eq_true rfl) rfl ?_
    refine l_dmE ho hvc hn (by omega) ha (n - (s.1 + 1)) (s.1 + 1) _ (by omega) ?_
    refine s_iinc (nI (s.1 + 1)) dX8_dimension_316 rfl (nI_1 _) (Nat.le_of_ble_eq_true rfl) rfl ?_
    refine s_iinc (nI (ax + 1)) dX8_dimension_319 rfl (nI_1 _) (Nat.le_of_ble_eq_true rfl) rfl ?_
    refine s_goto (tgt := 103) dX8_dimension_322 (by decide) ?_
    refine s_take 6 ?_
    exact K
def gW (b : Nat) (f : zVc) : zVc := if b = 0 then f else (gZ b f).2
theorem pLCL7 (b : Nat) : pLCL b 7 0 ≤ 7 := pLCL_le b 7 0
set_option maxHeartbeats 4000000 in
set_option maxRecDepth 100000 in
theorem c_X8_dimension {Z : zS} {d : Nat} {w : zW} {mb mk mf ma mc ms me mq mu mh mp : Int32} (ho : w[41]? = some (oM mb mk mf ma mc ms me mq mu mh mp)) {f : Nat → Int32} (hvc : w[48]? = some (aI 24 f)) {b : Nat} (hb : b < 256) : zF Z M_X8_dimension d [.ref 41, .int (nI b)] w [.int (pDIM b)] (w.set 48 (aI 24 (gW b f))) := by
  show zG Z M_X8_dimension d _ w.length 0 [(0, .ref 41), (1, .int (nI b))] [] w
  by_cases h0 : b = 0
  · subst h0
    rw [show gW 0 f = f from rfl, zss hvc, show pDIM 0 = -1 from by decide +kernel]
    refine s_iload_n dX8_dimension_0 rfl ?_
    refine s_if_ne (tgt := 6) dX8_dimension_1 (by decide) (fun hqz => absurd rfl hqz) (fun hz => ?_)
    clear hz
    refine s_iconst (v := (-1)) dX8_dimension_4 rfl ?_
    exact s_iret dX8_dimension_5 rfl ⟨rfl, rfl⟩ rfl
  · have hl := pLCL7 b
    have hn := gB_le b (pLCL b 7 0) (7 - pLCL b 7 0) (pLCL b 7 0 + 1) (0, f)
    have hn7 : (gB b (pLCL b 7 0) (7 - pLCL b 7 0) (pLCL b 7 0 + 1) (0, f)).1 ≤ 7 := Nat.le_trans hn (by show 0 + _ ≤ 7; omega)
    rw [show gW b f = (gZ b f).2 from by rw [gW, if_neg h0], ← gZ_eq f hb h0]
    refine s_iload_n dX8_dimension_0 rfl ?_
    refine s_if_ne (tgt := 6) dX8_dimension_1 (by decide) (fun hz => ?_) (fun hqz => absurd hqz (fun q => h0 ((zn0 (by omega)).mp q)))
    clear hz
    refine s_iconst (v := 0) dX8_dimension_6 rfl ?_
    refine s_istore_n dX8_dimension_7 (Nat.le_of_ble_eq_true rfl) rfl ?_
    refine l_dm0 hb h0 ?_ 7 0 rfl (fun j hj => absurd hj (Nat.not_lt_zero j)) rfl
    refine s_iconst (v := 0) dX8_dimension_22 rfl ?_
    refine s_istore_n dX8_dimension_23 (Nat.le_of_ble_eq_true rfl) rfl ?_
    refine s_iload_n dX8_dimension_24 rfl ?_
    refine s_iconst (v := 1) dX8_dimension_25 rfl ?_
    refine s_iadd dX8_dimension_26 ?_
    rw [nI_1]
    refine s_istore dX8_dimension_27 (Nat.le_of_ble_eq_true rfl) rfl ?_
    rw [show w = w.set 48 (aI 24 f) from (zss hvc).symm]
    rw [List.length_set, List.set_set]
    refine l_dmB (s := (0, f)) ho hvc hb (by omega) (7 - pLCL b 7 0) (pLCL b 7 0 + 1) (by omega) (by show 0 + _ ≤ 7; omega) ?_
    refine s_iconst (v := 0) dX8_dimension_97 rfl ?_
    refine s_istore dX8_dimension_98 (Nat.le_of_ble_eq_true rfl) rfl ?_
    refine s_iconst (v := 0) dX8_dimension_100 rfl ?_
    refine s_istore dX8_dimension_101 (Nat.le_of_ble_eq_true rfl) rfl ?_
    refine l_dmA (ax := 0) (s := (0, _)) ho hvc hn7 (by decide) (Nat.zero_le _) ?_
    refine l_dmA (ax := 1) ho hvc hn7 (by decide) (gA_le (Nat.zero_le _)) ?_
    refine l_dmA (ax := 2) ho hvc hn7 (by decide) (gA_le (gA_le (Nat.zero_le _))) ?_
    refine s_iload dX8_dimension_103 rfl ?_
    refine s_iconst (v := 3) dX8_dimension_105 rfl ?_
    refine s_icmp_ge (tgt := 325) dX8_dimension_106 (by decide) (fun hz => ?_) (fun hqz => absurd (by decide) hqz)
    clear hz
    refine s_iload dX8_dimension_325 rfl ?_
    exact s_iret dX8_dimension_327 rfl ⟨rfl, rfl⟩ List.length_set
