/-! ===== the model: clauses done; read ===== -/
set_option maxHeartbeats 4000000 in
set_option maxRecDepth 100000 in
theorem c_ds43 {Z : zS} {d : Nat} {hd th : zHd} {hi : Int32} {tx : zTx} {sh : zSh} {tp : zTs} {cm fo nu f1 f2 : Nat → Int32} {mf ma mc ms me mq mu mh mp : Int32} {fc vc tt sg td sw sm ew eo bc bi im so sz : Nat → Int32} {it mv : Nat → Int64} {b k c V : Nat} (hb : b < 256) (hk : k < 256) (hC : CMok cm) (hF : FOok fo) (hc : c < 12) (hsg : sg c = 43) (htd : td c = (nI V)) (hV : V < 256) : zF Z M_X8_does (d + 3) [.ref 41, .int (nI c)] (wX hd th hi tx sh tp ++ wM cm fo nu f1 f2 (nI b) (nI k) mf ma mc ms me mq mu mh mp fc vc tt sg td sw sm ew eo bc bi im so sz it mv) [.int (nI (b ||| V))] (wX hd th hi tx sh tp ++ wM cm fo nu f1 f2 (nI (b ||| V)) (nI k) mf ma mc ms me mq mu mh mp fc vc tt sg td sw sm ew eo bc bi im so sz it mv) := by
  show zG Z M_X8_does (d + 3) _ 63 0 [(0, .ref 41), (1, .int (nI c))] [] (wX hd th hi tx sh tp ++ wM cm fo nu f1 f2 (nI b) (nI k) mf ma mc ms me mq mu mh mp fc vc tt sg td sw sm ew eo bc bi im so sz it mv)
  refine s_aload_n dX8_does_0 rfl ?_
  refine s_get dX8_does_1 f_X8_44 (by rfl) (by rfl) ?_
  refine s_iload_n dX8_does_4 rfl ?_
  refine s_iald dX8_does_5 (by rfl) (zrd (n := 12) hc (by decide)) ?_
  rw [nI_clamp (by omega), htd]
  refine s_istore_n dX8_does_6 (Nat.le_of_ble_eq_true rfl) rfl ?_
  refine s_aload_n dX8_does_7 rfl ?_
  refine s_get dX8_does_8 f_X8_41 (by rfl) (by rfl) ?_
  refine s_iload_n dX8_does_11 rfl ?_
  refine s_iald dX8_does_12 (by rfl) (zrd (n := 12) hc (by decide)) ?_
  rw [nI_clamp (by omega), hsg]
  refine s_lookup (off := 67) (tgt := 80) dX8_does_13 (by decide) (by decide) (by decide) ?_
  refine s_iload_n dX8_does_80 rfl ?_
  refine s_sipush (v := 256) dX8_does_81 rfl ?_
  refine s_icmp_ge (tgt := 100) dX8_does_84 (by decide) (fun hqz => absurd hqz (nI_ge hV (by decide))) (fun hz => ?_)
  clear hz
  refine s_aload_n dX8_does_87 rfl ?_
  refine s_aload_n dX8_does_88 rfl ?_
  refine s_get dX8_does_89 f_X8_125 (by rfl) (by rfl) ?_
  refine s_iload_n dX8_does_92 rfl ?_
  refine s_ior dX8_does_93 ?_
  rw [fa_or]
  refine s_cv1 dX8_does_94 g_X8_159 (c_X8_set (c := b ||| V) (by rfl) hb) (by rfl) rfl rfl rfl rfl (Nat.le_of_ble_eq_true rfl) (Nat.le_of_ble_eq_true rfl) rfl ?_
  refine s_goto (tgt := 101) dX8_does_97 (by decide) ?_
  exact s_iret dX8_does_101 rfl ⟨rfl, rfl⟩ (by first | exact wXMl | rfl | (simp only [List.length_set]; exact wXMl))
set_option maxHeartbeats 4000000 in
set_option maxRecDepth 100000 in
theorem c_ds45 {Z : zS} {d : Nat} {hd th : zHd} {hi : Int32} {tx : zTx} {sh : zSh} {tp : zTs} {cm fo nu f1 f2 : Nat → Int32} {mf ma mc ms me mq mu mh mp : Int32} {fc vc tt sg td sw sm ew eo bc bi im so sz : Nat → Int32} {it mv : Nat → Int64} {b k c V : Nat} (hb : b < 256) (hk : k < 256) (hC : CMok cm) (hF : FOok fo) (hc : c < 12) (hsg : sg c = 45) (htd : td c = (nI V)) (hV : V < 256) : zF Z M_X8_does (d + 3) [.ref 41, .int (nI c)] (wX hd th hi tx sh tp ++ wM cm fo nu f1 f2 (nI b) (nI k) mf ma mc ms me mq mu mh mp fc vc tt sg td sw sm ew eo bc bi im so sz it mv) [.int (nI (b &&& (255 ^^^ V)))] (wX hd th hi tx sh tp ++ wM cm fo nu f1 f2 (nI (b &&& (255 ^^^ V))) (nI k) mf ma mc ms me mq mu mh mp fc vc tt sg td sw sm ew eo bc bi im so sz it mv) := by
  show zG Z M_X8_does (d + 3) _ 63 0 [(0, .ref 41), (1, .int (nI c))] [] (wX hd th hi tx sh tp ++ wM cm fo nu f1 f2 (nI b) (nI k) mf ma mc ms me mq mu mh mp fc vc tt sg td sw sm ew eo bc bi im so sz it mv)
  refine s_aload_n dX8_does_0 rfl ?_
  refine s_get dX8_does_1 f_X8_44 (by rfl) (by rfl) ?_
  refine s_iload_n dX8_does_4 rfl ?_
  refine s_iald dX8_does_5 (by rfl) (zrd (n := 12) hc (by decide)) ?_
  rw [nI_clamp (by omega), htd]
  refine s_istore_n dX8_does_6 (Nat.le_of_ble_eq_true rfl) rfl ?_
  refine s_aload_n dX8_does_7 rfl ?_
  refine s_get dX8_does_8 f_X8_41 (by rfl) (by rfl) ?_
  refine s_iload_n dX8_does_11 rfl ?_
  refine s_iald dX8_does_12 (by rfl) (zrd (n := 12) hc (by decide)) ?_
  rw [nI_clamp (by omega), hsg]
  refine s_lookup (off := 89) (tgt := 102) dX8_does_13 (by decide) (by decide) (by decide) ?_
  refine s_iload_n dX8_does_102 rfl ?_
  refine s_sipush (v := 256) dX8_does_103 rfl ?_
  refine s_icmp_ge (tgt := 124) dX8_does_106 (by decide) (fun hqz => absurd hqz (nI_ge hV (by decide))) (fun hz => ?_)
  clear hz
  refine s_aload_n dX8_does_109 rfl ?_
  refine s_aload_n dX8_does_110 rfl ?_
  refine s_get dX8_does_111 f_X8_125 (by rfl) (by rfl) ?_
  refine s_iload_n dX8_does_114 rfl ?_
  refine s_iconst (v := (-1)) dX8_does_115 rfl ?_
  refine s_ixor dX8_does_116 ?_
  refine s_iand dX8_does_117 ?_
  rw [q_cl2 b hb V hV]
  refine s_cv1 dX8_does_118 g_X8_159 (c_X8_set (c := b &&& (255 ^^^ V)) (by rfl) hb) (by rfl) rfl rfl rfl rfl (Nat.le_of_ble_eq_true rfl) (Nat.le_of_ble_eq_true rfl) rfl ?_
  refine s_goto (tgt := 125) dX8_does_121 (by decide) ?_
  exact s_iret dX8_does_125 rfl ⟨rfl, rfl⟩ (by first | exact wXMl | rfl | (simp only [List.length_set]; exact wXMl))
set_option maxHeartbeats 4000000 in
set_option maxRecDepth 100000 in
theorem c_ds43n {Z : zS} {d : Nat} {hd th : zHd} {hi : Int32} {tx : zTx} {sh : zSh} {tp : zTs} {cm fo nu f1 f2 : Nat → Int32} {mf ma mc ms me mq mu mh mp : Int32} {fc vc tt sg td sw sm ew eo bc bi im so sz : Nat → Int32} {it mv : Nat → Int64} {b k c V : Nat} (hb : b < 256) (hk : k < 256) (hC : CMok cm) (hF : FOok fo) (hc : c < 12) (hsg : sg c = 43) (htd : td c = (nI V)) (hV : 256 ≤ V) (hV2 : V < 2 ^ 31) : zF Z M_X8_does (d + 3) [.ref 41, .int (nI c)] (wX hd th hi tx sh tp ++ wM cm fo nu f1 f2 (nI b) (nI k) mf ma mc ms me mq mu mh mp fc vc tt sg td sw sm ew eo bc bi im so sz it mv) [.int (-1)] (wX hd th hi tx sh tp ++ wM cm fo nu f1 f2 (nI b) (nI k) mf ma mc ms me mq mu mh mp fc vc tt sg td sw sm ew eo bc bi im so sz it mv) := by
  show zG Z M_X8_does (d + 3) _ 63 0 [(0, .ref 41), (1, .int (nI c))] [] (wX hd th hi tx sh tp ++ wM cm fo nu f1 f2 (nI b) (nI k) mf ma mc ms me mq mu mh mp fc vc tt sg td sw sm ew eo bc bi im so sz it mv)
  refine s_aload_n dX8_does_0 rfl ?_
  refine s_get dX8_does_1 f_X8_44 (by rfl) (by rfl) ?_
  refine s_iload_n dX8_does_4 rfl ?_
  refine s_iald dX8_does_5 (by rfl) (zrd (n := 12) hc (by decide)) ?_
  rw [nI_clamp (by omega), htd]
  refine s_istore_n dX8_does_6 (Nat.le_of_ble_eq_true rfl) rfl ?_
  refine s_aload_n dX8_does_7 rfl ?_
  refine s_get dX8_does_8 f_X8_41 (by rfl) (by rfl) ?_
  refine s_iload_n dX8_does_11 rfl ?_
  refine s_iald dX8_does_12 (by rfl) (zrd (n := 12) hc (by decide)) ?_
  rw [nI_clamp (by omega), hsg]
  refine s_lookup (off := 67) (tgt := 80) dX8_does_13 (by decide) (by decide) (by decide) ?_
  refine s_iload_n dX8_does_80 rfl ?_
  refine s_sipush (v := 256) dX8_does_81 rfl ?_
  refine s_icmp_ge (tgt := 100) dX8_does_84 (by decide) (fun hz => ?_) (fun hqz => absurd (nI_le hV hV2) hqz)
  clear hz
  refine s_iconst (v := (-1)) dX8_does_100 rfl ?_
  exact s_iret dX8_does_101 rfl ⟨rfl, rfl⟩ (by first | exact wXMl | rfl | (simp only [List.length_set]; exact wXMl))
set_option maxHeartbeats 4000000 in
set_option maxRecDepth 100000 in
theorem c_ds45n {Z : zS} {d : Nat} {hd th : zHd} {hi : Int32} {tx : zTx} {sh : zSh} {tp : zTs} {cm fo nu f1 f2 : Nat → Int32} {mf ma mc ms me mq mu mh mp : Int32} {fc vc tt sg td sw sm ew eo bc bi im so sz : Nat → Int32} {it mv : Nat → Int64} {b k c V : Nat} (hb : b < 256) (hk : k < 256) (hC : CMok cm) (hF : FOok fo) (hc : c < 12) (hsg : sg c = 45) (htd : td c = (nI V)) (hV : 256 ≤ V) (hV2 : V < 2 ^ 31) : zF Z M_X8_does (d + 3) [.ref 41, .int (nI c)] (wX hd th hi tx sh tp ++ wM cm fo nu f1 f2 (nI b) (nI k) mf ma mc ms me mq mu mh mp fc vc tt sg td sw sm ew eo bc bi im so sz it mv) [.int (-1)] (wX hd th hi tx sh tp ++ wM cm fo nu f1 f2 (nI b) (nI k) mf ma mc ms me mq mu mh mp fc vc tt sg td sw sm ew eo bc bi im so sz it mv) := by
  show zG Z M_X8_does (d + 3) _ 63 0 [(0, .ref 41), (1, .int (nI c))] [] (wX hd th hi tx sh tp ++ wM cm fo nu f1 f2 (nI b) (nI k) mf ma mc ms me mq mu mh mp fc vc tt sg td sw sm ew eo bc bi im so sz it mv)
  refine s_aload_n dX8_does_0 rfl ?_
  refine s_get dX8_does_1 f_X8_44 (by rfl) (by rfl) ?_
  refine s_iload_n dX8_does_4 rfl ?_
  refine s_iald dX8_does_5 (by rfl) (zrd (n := 12) hc (by decide)) ?_
  rw [nI_clamp (by omega), htd]
  refine s_istore_n dX8_does_6 (Nat.le_of_ble_eq_true rfl) rfl ?_
  refine s_aload_n dX8_does_7 rfl ?_
  refine s_get dX8_does_8 f_X8_41 (by rfl) (by rfl) ?_
  refine s_iload_n dX8_does_11 rfl ?_
  refine s_iald dX8_does_12 (by rfl) (zrd (n := 12) hc (by decide)) ?_
  rw [nI_clamp (by omega), hsg]
  refine s_lookup (off := 89) (tgt := 102) dX8_does_13 (by decide) (by decide) (by decide) ?_
  refine s_iload_n dX8_does_102 rfl ?_
  refine s_sipush (v := 256) dX8_does_103 rfl ?_
  refine s_icmp_ge (tgt := 124) dX8_does_106 (by decide) (fun hz => ?_) (fun hqz => absurd (nI_le hV hV2) hqz)
  clear hz
  refine s_iconst (v := (-1)) dX8_does_124 rfl ?_
  exact s_iret dX8_does_125 rfl ⟨rfl, rfl⟩ (by first | exact wXMl | rfl | (simp only [List.length_set]; exact wXMl))
set_option maxHeartbeats 4000000 in
set_option maxRecDepth 100000 in
theorem c_ds109 {Z : zS} {d : Nat} {hd th : zHd} {hi : Int32} {tx : zTx} {sh : zSh} {tp : zTs} {cm fo nu f1 f2 : Nat → Int32} {mf ma mc ms me mq mu mh mp : Int32} {fc vc tt sg td sw sm ew eo bc bi im so sz : Nat → Int32} {it mv : Nat → Int64} {b k c V : Nat} (hb : b < 256) (hk : k < 256) (hC : CMok cm) (hF : FOok fo) (hc : c < 12) (hsg : sg c = 109) (htd : td c = (nI V)) (hV : V < 48) : zF Z M_X8_does (d + 3) [.ref 41, .int (nI c)] (wX hd th hi tx sh tp ++ wM cm fo nu f1 f2 (nI b) (nI k) mf ma mc ms me mq mu mh mp fc vc tt sg td sw sm ew eo bc bi im so sz it mv) [.int (nI (pIMG V b))] (wX hd th hi tx sh tp ++ wM cm fo nu f1 f2 (nI (pIMG V b)) (nI k) mf ma mc ms me mq mu mh mp fc vc tt sg td sw sm ew eo bc bi im so sz it mv) := by
  show zG Z M_X8_does (d + 3) _ 63 0 [(0, .ref 41), (1, .int (nI c))] [] (wX hd th hi tx sh tp ++ wM cm fo nu f1 f2 (nI b) (nI k) mf ma mc ms me mq mu mh mp fc vc tt sg td sw sm ew eo bc bi im so sz it mv)
  refine s_aload_n dX8_does_0 rfl ?_
  refine s_get dX8_does_1 f_X8_44 (by rfl) (by rfl) ?_
  refine s_iload_n dX8_does_4 rfl ?_
  refine s_iald dX8_does_5 (by rfl) (zrd (n := 12) hc (by decide)) ?_
  rw [nI_clamp (by omega), htd]
  refine s_istore_n dX8_does_6 (Nat.le_of_ble_eq_true rfl) rfl ?_
  refine s_aload_n dX8_does_7 rfl ?_
  refine s_get dX8_does_8 f_X8_41 (by rfl) (by rfl) ?_
  refine s_iload_n dX8_does_11 rfl ?_
  refine s_iald dX8_does_12 (by rfl) (zrd (n := 12) hc (by decide)) ?_
  rw [nI_clamp (by omega), hsg]
  refine s_lookup (off := 113) (tgt := 126) dX8_does_13 (by decide) (by decide) (by decide) ?_
  refine s_aload_n dX8_does_126 rfl ?_
  refine s_iload_n dX8_does_127 rfl ?_
  refine s_cv1 dX8_does_128 g_X8_162 (y_move (d := d) (by rfl) hb (by rfl) hC hV) (by rfl) rfl rfl rfl rfl (Nat.le_of_ble_eq_true rfl) (Nat.le_of_ble_eq_true rfl) rfl ?_
  exact s_iret dX8_does_131 rfl ⟨rfl, rfl⟩ (by first | exact wXMl | rfl | (simp only [List.length_set]; exact wXMl))
set_option maxHeartbeats 4000000 in
set_option maxRecDepth 100000 in
theorem c_ds109n {Z : zS} {d : Nat} {hd th : zHd} {hi : Int32} {tx : zTx} {sh : zSh} {tp : zTs} {cm fo nu f1 f2 : Nat → Int32} {mf ma mc ms me mq mu mh mp : Int32} {fc vc tt sg td sw sm ew eo bc bi im so sz : Nat → Int32} {it mv : Nat → Int64} {b k c V : Nat} (hb : b < 256) (hk : k < 256) (hC : CMok cm) (hF : FOok fo) (hc : c < 12) (hsg : sg c = 109) (htd : td c = (nI V)) (hV : 48 ≤ V) (hV2 : V < 2 ^ 31) : zF Z M_X8_does (d + 3) [.ref 41, .int (nI c)] (wX hd th hi tx sh tp ++ wM cm fo nu f1 f2 (nI b) (nI k) mf ma mc ms me mq mu mh mp fc vc tt sg td sw sm ew eo bc bi im so sz it mv) [.int (-1)] (wX hd th hi tx sh tp ++ wM cm fo nu f1 f2 (nI b) (nI k) mf ma mc ms me mq mu mh mp fc vc tt sg td sw sm ew eo bc bi im so sz it mv) := by
  show zG Z M_X8_does (d + 3) _ 63 0 [(0, .ref 41), (1, .int (nI c))] [] (wX hd th hi tx sh tp ++ wM cm fo nu f1 f2 (nI b) (nI k) mf ma mc ms me mq mu mh mp fc vc tt sg td sw sm ew eo bc bi im so sz it mv)
  refine s_aload_n dX8_does_0 rfl ?_
  refine s_get dX8_does_1 f_X8_44 (by rfl) (by rfl) ?_
  refine s_iload_n dX8_does_4 rfl ?_
  refine s_iald dX8_does_5 (by rfl) (zrd (n := 12) hc (by decide)) ?_
  rw [nI_clamp (by omega), htd]
  refine s_istore_n dX8_does_6 (Nat.le_of_ble_eq_true rfl) rfl ?_
  refine s_aload_n dX8_does_7 rfl ?_
  refine s_get dX8_does_8 f_X8_41 (by rfl) (by rfl) ?_
  refine s_iload_n dX8_does_11 rfl ?_
  refine s_iald dX8_does_12 (by rfl) (zrd (n := 12) hc (by decide)) ?_
  rw [nI_clamp (by omega), hsg]
  refine s_lookup (off := 113) (tgt := 126) dX8_does_13 (by decide) (by decide) (by decide) ?_
  refine s_aload_n dX8_does_126 rfl ?_
  refine s_iload_n dX8_does_127 rfl ?_
  refine s_cv1 dX8_does_128 g_X8_162 (y_move1 (d := d) (k := k) (by rfl) hb (Or.inr (nI_le hV hV2))) (by rfl) rfl rfl rfl rfl (Nat.le_of_ble_eq_true rfl) (Nat.le_of_ble_eq_true rfl) rfl ?_
  exact s_iret dX8_does_131 rfl ⟨rfl, rfl⟩ (by first | exact wXMl | rfl | (simp only [List.length_set]; exact wXMl))
set_option maxHeartbeats 4000000 in
set_option maxRecDepth 100000 in
theorem c_ds102 {Z : zS} {d : Nat} {hd th : zHd} {hi : Int32} {tx : zTx} {sh : zSh} {tp : zTs} {cm fo nu f1 f2 : Nat → Int32} {mf ma mc ms me mq mu mh mp : Int32} {fc vc tt sg td sw sm ew eo bc bi im so sz : Nat → Int32} {it mv : Nat → Int64} {b k c : Nat} (hb : b < 256) (hk : k < 256) (hC : CMok cm) (hF : FOok fo) (hc : c < 12) (hsg : sg c = 102) (htd : td c = 0)  : zF Z M_X8_does (d + 3) [.ref 41, .int (nI c)] (wX hd th hi tx sh tp ++ wM cm fo nu f1 f2 (nI b) (nI k) mf ma mc ms me mq mu mh mp fc vc tt sg td sw sm ew eo bc bi im so sz it mv) [.int (nI (pCHG 0 b k))] (wX hd th hi tx sh tp ++ wM cm fo nu f1 f2 (nI (pCHG 0 b k)) (nI k) mf ma mc ms me mq mu mh mp fc vc tt sg td sw sm ew eo bc bi im so sz it mv) := by
  show zG Z M_X8_does (d + 3) _ 63 0 [(0, .ref 41), (1, .int (nI c))] [] (wX hd th hi tx sh tp ++ wM cm fo nu f1 f2 (nI b) (nI k) mf ma mc ms me mq mu mh mp fc vc tt sg td sw sm ew eo bc bi im so sz it mv)
  refine s_aload_n dX8_does_0 rfl ?_
  refine s_get dX8_does_1 f_X8_44 (by rfl) (by rfl) ?_
  refine s_iload_n dX8_does_4 rfl ?_
  refine s_iald dX8_does_5 (by rfl) (zrd (n := 12) hc (by decide)) ?_
  rw [nI_clamp (by omega), htd]
  refine s_istore_n dX8_does_6 (Nat.le_of_ble_eq_true rfl) rfl ?_
  refine s_aload_n dX8_does_7 rfl ?_
  refine s_get dX8_does_8 f_X8_41 (by rfl) (by rfl) ?_
  refine s_iload_n dX8_does_11 rfl ?_
  refine s_iald dX8_does_12 (by rfl) (zrd (n := 12) hc (by decide)) ?_
  rw [nI_clamp (by omega), hsg]
  refine s_lookup (off := 119) (tgt := 132) dX8_does_13 (by decide) (by decide) (by decide) ?_
  refine s_aload_n dX8_does_132 rfl ?_
  refine s_iconst (v := 0) dX8_does_133 rfl ?_
  refine s_cv1 dX8_does_134 g_X8_165 (y_bec0 (d := d + 1) (k := k) (by rfl) hb (by rfl) hF) (by rfl) rfl rfl rfl rfl (Nat.le_of_ble_eq_true rfl) (Nat.le_of_ble_eq_true rfl) rfl ?_
  exact s_iret dX8_does_137 rfl ⟨rfl, rfl⟩ (by first | exact wXMl | rfl | (simp only [List.length_set]; exact wXMl))
set_option maxHeartbeats 4000000 in
set_option maxRecDepth 100000 in
theorem c_ds111 {Z : zS} {d : Nat} {hd th : zHd} {hi : Int32} {tx : zTx} {sh : zSh} {tp : zTs} {cm fo nu f1 f2 : Nat → Int32} {mf ma mc ms me mq mu mh mp : Int32} {fc vc tt sg td sw sm ew eo bc bi im so sz : Nat → Int32} {it mv : Nat → Int64} {b k c : Nat} (hb : b < 256) (hk : k < 256) (hC : CMok cm) (hF : FOok fo) (hc : c < 12) (hsg : sg c = 111) (htd : td c = 0)  : zF Z M_X8_does (d + 3) [.ref 41, .int (nI c)] (wX hd th hi tx sh tp ++ wM cm fo nu f1 f2 (nI b) (nI k) mf ma mc ms me mq mu mh mp fc vc tt sg td sw sm ew eo bc bi im so sz it mv) [.int (nI (pCHG 1 b k))] (wX hd th hi tx sh tp ++ wM cm fo nu f1 f2 (nI (pCHG 1 b k)) (nI k) mf ma mc ms me mq mu mh mp fc vc tt sg td sw sm ew eo bc bi im so sz it mv) := by
  show zG Z M_X8_does (d + 3) _ 63 0 [(0, .ref 41), (1, .int (nI c))] [] (wX hd th hi tx sh tp ++ wM cm fo nu f1 f2 (nI b) (nI k) mf ma mc ms me mq mu mh mp fc vc tt sg td sw sm ew eo bc bi im so sz it mv)
  refine s_aload_n dX8_does_0 rfl ?_
  refine s_get dX8_does_1 f_X8_44 (by rfl) (by rfl) ?_
  refine s_iload_n dX8_does_4 rfl ?_
  refine s_iald dX8_does_5 (by rfl) (zrd (n := 12) hc (by decide)) ?_
  rw [nI_clamp (by omega), htd]
  refine s_istore_n dX8_does_6 (Nat.le_of_ble_eq_true rfl) rfl ?_
  refine s_aload_n dX8_does_7 rfl ?_
  refine s_get dX8_does_8 f_X8_41 (by rfl) (by rfl) ?_
  refine s_iload_n dX8_does_11 rfl ?_
  refine s_iald dX8_does_12 (by rfl) (zrd (n := 12) hc (by decide)) ?_
  rw [nI_clamp (by omega), hsg]
  refine s_lookup (off := 125) (tgt := 138) dX8_does_13 (by decide) (by decide) (by decide) ?_
  refine s_aload_n dX8_does_138 rfl ?_
  refine s_iconst (v := 1) dX8_does_139 rfl ?_
  refine s_cv1 dX8_does_140 g_X8_165 (y_bec1 (d := d + 1) (k := k) (by rfl) hb (by rfl) hF) (by rfl) rfl rfl rfl rfl (Nat.le_of_ble_eq_true rfl) (Nat.le_of_ble_eq_true rfl) rfl ?_
  exact s_iret dX8_does_143 rfl ⟨rfl, rfl⟩ (by first | exact wXMl | rfl | (simp only [List.length_set]; exact wXMl))
set_option maxHeartbeats 4000000 in
set_option maxRecDepth 100000 in
theorem c_ds117 {Z : zS} {d : Nat} {hd th : zHd} {hi : Int32} {tx : zTx} {sh : zSh} {tp : zTs} {cm fo nu f1 f2 : Nat → Int32} {mf ma mc ms me mq mu mh mp : Int32} {fc vc tt sg td sw sm ew eo bc bi im so sz : Nat → Int32} {it mv : Nat → Int64} {b k c : Nat} (hb : b < 256) (hk : k < 256) (hC : CMok cm) (hF : FOok fo) (hc : c < 12) (hsg : sg c = 117) (htd : td c = 0)  : zF Z M_X8_does (d + 3) [.ref 41, .int (nI c)] (wX hd th hi tx sh tp ++ wM cm fo nu f1 f2 (nI b) (nI k) mf ma mc ms me mq mu mh mp fc vc tt sg td sw sm ew eo bc bi im so sz it mv) [.int (nI (pCHG 2 b k))] (wX hd th hi tx sh tp ++ wM cm fo nu f1 f2 (nI (pCHG 2 b k)) (nI k) mf ma mc ms me mq mu mh mp fc vc tt sg td sw sm ew eo bc bi im so sz it mv) := by
  show zG Z M_X8_does (d + 3) _ 63 0 [(0, .ref 41), (1, .int (nI c))] [] (wX hd th hi tx sh tp ++ wM cm fo nu f1 f2 (nI b) (nI k) mf ma mc ms me mq mu mh mp fc vc tt sg td sw sm ew eo bc bi im so sz it mv)
  refine s_aload_n dX8_does_0 rfl ?_
  refine s_get dX8_does_1 f_X8_44 (by rfl) (by rfl) ?_
  refine s_iload_n dX8_does_4 rfl ?_
  refine s_iald dX8_does_5 (by rfl) (zrd (n := 12) hc (by decide)) ?_
  rw [nI_clamp (by omega), htd]
  refine s_istore_n dX8_does_6 (Nat.le_of_ble_eq_true rfl) rfl ?_
  refine s_aload_n dX8_does_7 rfl ?_
  refine s_get dX8_does_8 f_X8_41 (by rfl) (by rfl) ?_
  refine s_iload_n dX8_does_11 rfl ?_
  refine s_iald dX8_does_12 (by rfl) (zrd (n := 12) hc (by decide)) ?_
  rw [nI_clamp (by omega), hsg]
  refine s_lookup (off := 136) (tgt := 149) dX8_does_13 (by decide) (by decide) (by decide) ?_
  refine s_aload_n dX8_does_149 rfl ?_
  refine s_iconst (v := 2) dX8_does_150 rfl ?_
  refine s_cv1 dX8_does_151 g_X8_165 (y_bec2 (d := d + 1) (k := k) (by rfl) hb (by rfl) hF) (by rfl) rfl rfl rfl rfl (Nat.le_of_ble_eq_true rfl) (Nat.le_of_ble_eq_true rfl) rfl ?_
  exact s_iret dX8_does_154 rfl ⟨rfl, rfl⟩ (by first | exact wXMl | rfl | (simp only [List.length_set]; exact wXMl))
set_option maxHeartbeats 4000000 in
set_option maxRecDepth 100000 in
theorem c_ds105 {Z : zS} {d : Nat} {hd th : zHd} {hi : Int32} {tx : zTx} {sh : zSh} {tp : zTs} {cm fo nu f1 f2 : Nat → Int32} {mf ma mc ms me mq mu mh mp : Int32} {fc vc tt sg td sw sm ew eo bc bi im so sz : Nat → Int32} {it mv : Nat → Int64} {b k c : Nat} (hb : b < 256) (hk : k < 256) (hC : CMok cm) (hF : FOok fo) (hc : c < 12) (hsg : sg c = 105) (htd : td c = 0)  : zF Z M_X8_does (d + 3) [.ref 41, .int (nI c)] (wX hd th hi tx sh tp ++ wM cm fo nu f1 f2 (nI b) (nI k) mf ma mc ms me mq mu mh mp fc vc tt sg td sw sm ew eo bc bi im so sz it mv) [.int (nI (pCHG 3 b k))] (wX hd th hi tx sh tp ++ wM cm fo nu f1 f2 (nI (pCHG 3 b k)) (nI k) mf ma mc ms me mq mu mh mp fc vc tt sg td sw sm ew eo bc bi im so sz it mv) := by
  show zG Z M_X8_does (d + 3) _ 63 0 [(0, .ref 41), (1, .int (nI c))] [] (wX hd th hi tx sh tp ++ wM cm fo nu f1 f2 (nI b) (nI k) mf ma mc ms me mq mu mh mp fc vc tt sg td sw sm ew eo bc bi im so sz it mv)
  refine s_aload_n dX8_does_0 rfl ?_
  refine s_get dX8_does_1 f_X8_44 (by rfl) (by rfl) ?_
  refine s_iload_n dX8_does_4 rfl ?_
  refine s_iald dX8_does_5 (by rfl) (zrd (n := 12) hc (by decide)) ?_
  rw [nI_clamp (by omega), htd]
  refine s_istore_n dX8_does_6 (Nat.le_of_ble_eq_true rfl) rfl ?_
  refine s_aload_n dX8_does_7 rfl ?_
  refine s_get dX8_does_8 f_X8_41 (by rfl) (by rfl) ?_
  refine s_iload_n dX8_does_11 rfl ?_
  refine s_iald dX8_does_12 (by rfl) (zrd (n := 12) hc (by decide)) ?_
  rw [nI_clamp (by omega), hsg]
  refine s_lookup (off := 142) (tgt := 155) dX8_does_13 (by decide) (by decide) (by decide) ?_
  refine s_aload_n dX8_does_155 rfl ?_
  refine s_iconst (v := 3) dX8_does_156 rfl ?_
  refine s_cv1 dX8_does_157 g_X8_165 (y_bec3 (d := d + 1) (k := k) (by rfl) hb (by rfl) hF) (by rfl) rfl rfl rfl rfl (Nat.le_of_ble_eq_true rfl) (Nat.le_of_ble_eq_true rfl) rfl ?_
  exact s_iret dX8_does_160 rfl ⟨rfl, rfl⟩ (by first | exact wXMl | rfl | (simp only [List.length_set]; exact wXMl))
set_option maxHeartbeats 4000000 in
set_option maxRecDepth 100000 in
theorem c_ds107 {Z : zS} {d : Nat} {hd th : zHd} {hi : Int32} {tx : zTx} {sh : zSh} {tp : zTs} {cm fo nu f1 f2 : Nat → Int32} {mf ma mc ms me mq mu mh mp : Int32} {fc vc tt sg td sw sm ew eo bc bi im so sz : Nat → Int32} {it mv : Nat → Int64} {b k c : Nat} (hb : b < 256) (hk : k < 256) (hC : CMok cm) (hF : FOok fo) (hc : c < 12) (hsg : sg c = 107) (htd : td c = 0)  : zF Z M_X8_does (d + 3) [.ref 41, .int (nI c)] (wX hd th hi tx sh tp ++ wM cm fo nu f1 f2 (nI b) (nI k) mf ma mc ms me mq mu mh mp fc vc tt sg td sw sm ew eo bc bi im so sz it mv) [.int (nI b)] (wX hd th hi tx sh tp ++ wM cm fo nu f1 f2 (nI b) (nI b) mf ma mc ms me mq mu mh mp fc vc tt sg td sw sm ew eo bc bi im so sz it mv) := by
  show zG Z M_X8_does (d + 3) _ 63 0 [(0, .ref 41), (1, .int (nI c))] [] (wX hd th hi tx sh tp ++ wM cm fo nu f1 f2 (nI b) (nI k) mf ma mc ms me mq mu mh mp fc vc tt sg td sw sm ew eo bc bi im so sz it mv)
  refine s_aload_n dX8_does_0 rfl ?_
  refine s_get dX8_does_1 f_X8_44 (by rfl) (by rfl) ?_
  refine s_iload_n dX8_does_4 rfl ?_
  refine s_iald dX8_does_5 (by rfl) (zrd (n := 12) hc (by decide)) ?_
  rw [nI_clamp (by omega), htd]
  refine s_istore_n dX8_does_6 (Nat.le_of_ble_eq_true rfl) rfl ?_
  refine s_aload_n dX8_does_7 rfl ?_
  refine s_get dX8_does_8 f_X8_41 (by rfl) (by rfl) ?_
  refine s_iload_n dX8_does_11 rfl ?_
  refine s_iald dX8_does_12 (by rfl) (zrd (n := 12) hc (by decide)) ?_
  rw [nI_clamp (by omega), hsg]
  refine s_lookup (off := 131) (tgt := 144) dX8_does_13 (by decide) (by decide) (by decide) ?_
  refine s_aload_n dX8_does_144 rfl ?_
  refine s_cv1 dX8_does_145 g_X8_168 (y_keep (by rfl) hb) (by rfl) rfl rfl rfl rfl (Nat.le_of_ble_eq_true rfl) (Nat.le_of_ble_eq_true rfl) rfl ?_
  exact s_iret dX8_does_148 rfl ⟨rfl, rfl⟩ (by first | exact wXMl | rfl | (simp only [List.length_set]; exact wXMl))
set_option maxHeartbeats 4000000 in
set_option maxRecDepth 100000 in
theorem c_does {Z : zS} {d : Nat} {hd th : zHd} {hi : Int32} {tx : zTx} {sh : zSh} {tp : zTs} {cm fo nu f1 f2 : Nat → Int32} {mf ma mc ms me mq mu mh mp : Int32} {fc vc tt sg td sw sm ew eo bc bi im so sz : Nat → Int32} {it mv : Nat → Int64} {b k c n p : Nat} (hb : b < 256) (hk : k < 256) (hC : CMok cm) (hF : FOok fo) (hc : c < 12) (hx : OKc (zFs tt n) p) (hsg : sg c = zFs tt n p) (htd : td c = tdV (zFs tt n) p) : zF Z M_X8_does (d + 3) [.ref 41, .int (nI c)] (wX hd th hi tx sh tp ++ wM cm fo nu f1 f2 (nI b) (nI k) mf ma mc ms me mq mu mh mp fc vc tt sg td sw sm ew eo bc bi im so sz it mv) [.int (if (doC (zFs tt n) p b k).2.2 = 1 then nI (doC (zFs tt n) p b k).1 else -1)] (wX hd th hi tx sh tp ++ wM cm fo nu f1 f2 (nI (doC (zFs tt n) p b k).1) (nI (doC (zFs tt n) p b k).2.1) mf ma mc ms me mq mu mh mp fc vc tt sg td sw sm ew eo bc bi im so sz it mv) := by
  obtain ⟨h1, _⟩ := hx
  have hD := Dg_dgC (zFs tt n) p
  have hle := dgC_le (zFs tt n) p
  have hv1 : vS (zFs tt n) (p + 1) (dgC (zFs tt n) p) 0 0 < 2 ^ 31 := Nat.lt_trans (vS_lt hD _ 0 0 (by omega) (by decide)) (by decide)
  have hv2 : nvL (zFs tt n) (p + 1) (dgC (zFs tt n) p) 0 0 < 2 ^ 31 := by
    have g1 := nvL_le hD (dgC (zFs tt n) p) 0 0 (by omega)
    have g2 : 10 ^ (dgC (zFs tt n) p) ≤ 10 ^ 8 := Nat.pow_le_pow_right (by decide) hle
    omega
  rcases zMD_key h1 with hx | hx | hx | hx | hx | hx | hx | hx
  · rw [hx] at hsg
    rw [show tdV (zFs tt n) p = nI (vS (zFs tt n) (p + 1) (dgC (zFs tt n) p) 0 0) from by rw [tdV, if_pos (Or.inl hx)]] at htd
    by_cases c1 : vS (zFs tt n) (p + 1) (dgC (zFs tt n) p) 0 0 < 256
    · rw [show doC (zFs tt n) p b k = (b ||| vS (zFs tt n) (p + 1) (dgC (zFs tt n) p) 0 0, k, 1) from by rw [doC, if_pos hx, if_pos c1]]
      exact c_ds43 hb hk hC hF hc hsg htd c1
    · rw [show doC (zFs tt n) p b k = (b, k, 0) from by rw [doC, if_pos hx, if_neg c1]]
      exact c_ds43n hb hk hC hF hc hsg htd (by omega) hv1
  · rw [hx] at hsg
    rw [show tdV (zFs tt n) p = nI (vS (zFs tt n) (p + 1) (dgC (zFs tt n) p) 0 0) from by rw [tdV, if_pos (Or.inr hx)]] at htd
    by_cases c1 : vS (zFs tt n) (p + 1) (dgC (zFs tt n) p) 0 0 < 256
    · rw [show doC (zFs tt n) p b k = (b &&& (255 ^^^ vS (zFs tt n) (p + 1) (dgC (zFs tt n) p) 0 0), k, 1) from by rw [doC, if_neg (by rw [hx]; decide), if_pos hx, if_pos c1]]
      exact c_ds45 hb hk hC hF hc hsg htd c1
    · rw [show doC (zFs tt n) p b k = (b, k, 0) from by rw [doC, if_neg (by rw [hx]; decide), if_pos hx, if_neg c1]]
      exact c_ds45n hb hk hC hF hc hsg htd (by omega) hv1
  · rw [hx] at hsg
    rw [show tdV (zFs tt n) p = 0 from by rw [tdV, if_neg (by rw [hx]; decide), if_neg (by rw [hx]; decide)]] at htd
    rw [show doC (zFs tt n) p b k = (pCHG 0 b k, k, 1) from by rw [doC, if_neg (by rw [hx]; decide), if_neg (by rw [hx]; decide), if_pos hx]]
    dsimp only
    rw [if_pos rfl]
    exact c_ds102 hb hk hC hF hc hsg htd
  · rw [hx] at hsg
    rw [show tdV (zFs tt n) p = 0 from by rw [tdV, if_neg (by rw [hx]; decide), if_neg (by rw [hx]; decide)]] at htd
    rw [show doC (zFs tt n) p b k = (pCHG 3 b k, k, 1) from by rw [doC, if_neg (by rw [hx]; decide), if_neg (by rw [hx]; decide), if_neg (by rw [hx]; decide), if_pos hx]]
    dsimp only
    rw [if_pos rfl]
    exact c_ds105 hb hk hC hF hc hsg htd
  · rw [hx] at hsg
    rw [show tdV (zFs tt n) p = 0 from by rw [tdV, if_neg (by rw [hx]; decide), if_neg (by rw [hx]; decide)]] at htd
    rw [show doC (zFs tt n) p b k = (b, b, 1) from by rw [doC, if_neg (by rw [hx]; decide), if_neg (by rw [hx]; decide), if_neg (by rw [hx]; decide), if_neg (by rw [hx]; decide), if_pos hx]]
    exact c_ds107 hb hk hC hF hc hsg htd
  · rw [hx] at hsg
    rw [show tdV (zFs tt n) p = nI (nvL (zFs tt n) (p + 1) (dgC (zFs tt n) p) 0 0) from by rw [tdV, if_neg (by rw [hx]; decide), if_pos hx]] at htd
    by_cases c1 : nvL (zFs tt n) (p + 1) (dgC (zFs tt n) p) 0 0 < 48
    · rw [show doC (zFs tt n) p b k = (pIMG (nvL (zFs tt n) (p + 1) (dgC (zFs tt n) p) 0 0) b, k, 1) from by rw [doC, if_neg (by rw [hx]; decide), if_neg (by rw [hx]; decide), if_neg (by rw [hx]; decide), if_neg (by rw [hx]; decide), if_neg (by rw [hx]; decide), if_pos hx, if_pos c1]]
      dsimp only
      rw [if_pos rfl]
      exact c_ds109 hb hk hC hF hc hsg htd c1
    · rw [show doC (zFs tt n) p b k = (b, k, 0) from by rw [doC, if_neg (by rw [hx]; decide), if_neg (by rw [hx]; decide), if_neg (by rw [hx]; decide), if_neg (by rw [hx]; decide), if_neg (by rw [hx]; decide), if_pos hx, if_neg c1]]
      exact c_ds109n hb hk hC hF hc hsg htd (by omega) hv2
  · rw [hx] at hsg
    rw [show tdV (zFs tt n) p = 0 from by rw [tdV, if_neg (by rw [hx]; decide), if_neg (by rw [hx]; decide)]] at htd
    rw [show doC (zFs tt n) p b k = (pCHG 1 b k, k, 1) from by rw [doC, if_neg (by rw [hx]; decide), if_neg (by rw [hx]; decide), if_neg (by rw [hx]; decide), if_neg (by rw [hx]; decide), if_neg (by rw [hx]; decide), if_neg (by rw [hx]; decide), if_pos hx]]
    dsimp only
    rw [if_pos rfl]
    exact c_ds111 hb hk hC hF hc hsg htd
  · rw [hx] at hsg
    rw [show tdV (zFs tt n) p = 0 from by rw [tdV, if_neg (by rw [hx]; decide), if_neg (by rw [hx]; decide)]] at htd
    rw [show doC (zFs tt n) p b k = (pCHG 2 b k, k, 1) from by rw [doC, if_neg (by rw [hx]; decide), if_neg (by rw [hx]; decide), if_neg (by rw [hx]; decide), if_neg (by rw [hx]; decide), if_neg (by rw [hx]; decide), if_neg (by rw [hx]; decide), if_neg (by rw [hx]; decide)]]
    dsimp only
    rw [if_pos rfl]
    exact c_ds117 hb hk hC hF hc hsg htd
def pfR (F : Nat → Int32) : Nat → Nat → Nat × Nat × Nat → Nat × Nat × Nat
  | 0, _, σ => σ
  | r + 1, c, σ => pfR F r (c + 1) ((doC F (psC F c) σ.1 σ.2.1).1, (doC F (psC F c) σ.1 σ.2.1).2.1, σ.2.2 + (doC F (psC F c) σ.1 σ.2.1).2.2)
theorem pf_eq {F : Nat → Int32} {n e : Nat} (he : e ≤ 11) (hl : ∀ j, j ≤ e → psC F j < n) (hE : n ≤ zE F e) : ∀ (m r c : Nat) (σ : Nat × Nat × Nat), c + m = e + 1 → c + r = 12 → pfL F n r c σ = pfR F m c σ
  | 0, r, c, σ, h1, h2 => by
    have hc : c = e + 1 := by omega
    subst hc
    cases r with
    | zero => rfl
    | succ r =>
      rw [pfL, if_neg (show ¬ psC F (e + 1) < n from by have h3 : psC F (e + 1) = zE F e + 1 := rfl; omega)]
      rfl
  | m + 1, r, c, σ, h1, h2 => by
    cases r with
    | zero => omega
    | succ r =>
      rw [pfL, if_pos (hl c (by omega))]
      exact pf_eq he hl hE m r (c + 1) _ (by omega) (by omega)
set_option maxHeartbeats 4000000 in
set_option maxRecDepth 100000 in
theorem l_rdL {Z : zS} {d : Nat} {hd th : zHd} {hi : Int32} {tx : zTx} {sh : zSh} {tp : zTs} {cm fo nu f1 f2 : Nat → Int32} {ma ms me mq mu mh mp : Int32} {fc vc tt sg td sw sm ew eo bc bi im so sz : Nat → Int32} {it mv : Nat → Int64} {n e : Nat} (hC : CMok cm) (hF : FOok fo) (he : e ≤ 11) (hS : STc (zFs tt n) sg td e) : ∀ (r c : Nat) (σ : Nat × Nat × Nat), c + r = e + 1 → σ.1 < 256 → σ.2.1 < 256 → σ.2.2 ≤ c → zG Z M_X8_read (d + 4) (fun r1 w1 => r1 = [.int (nI (pfR (zFs tt n) r c σ).2.2)] ∧ w1 = (wX hd th hi tx sh tp ++ wM cm fo nu f1 f2 (nI (pfR (zFs tt n) r c σ).1) (nI (pfR (zFs tt n) r c σ).2.1) 0 ma (nI (e + 1)) ms me mq mu mh mp fc vc tt sg td sw sm ew eo bc bi im so sz it mv)) 63 26 [(0, .ref 41), (1, .int 1), (2, .int (nI σ.2.2)), (3, .int (nI c))] [] (wX hd th hi tx sh tp ++ wM cm fo nu f1 f2 (nI σ.1) (nI σ.2.1) 0 ma (nI (e + 1)) ms me mq mu mh mp fc vc tt sg td sw sm ew eo bc bi im so sz it mv) := by
  intro r
  induction r with
  | zero =>
    intro c σ hc h1 h2 h3
    have hc : c = e + 1 := by omega
    subst hc
    rw [show pfR (zFs tt n) 0 (e + 1) σ = σ from rfl]
    refine s_iload_n dX8_read_26 rfl ?_
    refine s_aload_n dX8_read_27 rfl ?_
    refine s_get dX8_read_28 f_X8_149 (by rfl) (by rfl) ?_
    refine s_icmp_ge (tgt := 56) dX8_read_31 (by decide) (fun hz => ?_) (fun hqz => absurd (nI_le (Nat.le_refl _) (by omega)) hqz)
    clear hz
    refine s_iload_n dX8_read_56 rfl ?_
    exact s_iret dX8_read_57 rfl ⟨rfl, rfl⟩ (by first | exact wXMl | rfl | (simp only [List.length_set]; exact wXMl))
  | succ r ih =>
    intro c σ hc h1 h2 h3
    have hm : c < e + 1 := by omega
    obtain ⟨o1, o2, o3⟩ := hS c (by omega)
    have hlt := doC_lt (F := (zFs tt n)) (p := psC (zFs tt n) c) h1 h2
    have hz := c_does (Z := Z) (d := d) (hd := hd) (th := th) (hi := hi) (tx := tx) (sh := sh) (tp := tp) (nu := nu) (f1 := f1) (f2 := f2) (mf := 0) (ma := ma) (mc := nI (e + 1)) (ms := ms) (me := me) (mq := mq) (mu := mu) (mh := mh) (mp := mp) (fc := fc) (vc := vc) (sw := sw) (sm := sm) (ew := ew) (eo := eo) (bc := bc) (bi := bi) (im := im) (so := so) (sz := sz) (it := it) (mv := mv) h1 h2 hC hF (show c < 12 by omega) o1 o2 o3
    have K := ih (c + 1) ((doC (zFs tt n) (psC (zFs tt n) c) σ.1 σ.2.1).1, (doC (zFs tt n) (psC (zFs tt n) c) σ.1 σ.2.1).2.1, σ.2.2 + (doC (zFs tt n) (psC (zFs tt n) c) σ.1 σ.2.1).2.2) (by omega) hlt.1 hlt.2.1 (by have := hlt.2.2; show σ.2.2 + _ ≤ c + 1; omega)
    rw [show pfR (zFs tt n) (r + 1) c σ = pfR (zFs tt n) r (c + 1) ((doC (zFs tt n) (psC (zFs tt n) c) σ.1 σ.2.1).1, (doC (zFs tt n) (psC (zFs tt n) c) σ.1 σ.2.1).2.1, σ.2.2 + (doC (zFs tt n) (psC (zFs tt n) c) σ.1 σ.2.1).2.2) from rfl]
    by_cases ht : (doC (zFs tt n) (psC (zFs tt n) c) σ.1 σ.2.1).2.2 = 1
    · rw [if_pos ht] at hz
      rw [ht] at K ⊢
      refine s_iload_n dX8_read_26 rfl ?_
      refine s_aload_n dX8_read_27 rfl ?_
      refine s_get dX8_read_28 f_X8_149 (by rfl) (by rfl) ?_
      refine s_icmp_ge (tgt := 56) dX8_read_31 (by decide) (fun hqz => absurd hqz (nI_ge hm (by omega))) (fun hz => ?_)
      clear hz
      refine s_iload_n dX8_read_34 rfl ?_
      refine s_aload_n dX8_read_35 rfl ?_
      refine s_iload_n dX8_read_36 rfl ?_
      refine s_cv1 dX8_read_37 g_X8_174 (hz) (by rfl) rfl rfl rfl rfl (Nat.le_of_ble_eq_true rfl) (Nat.le_of_ble_eq_true rfl) rfl ?_
      refine s_if_lt (tgt := 47) dX8_read_40 (by decide) (fun hqz => absurd hqz (nI_pos (by have := hlt.1; omega))) (fun hz => ?_)
      clear hz
      refine s_iconst (v := 1) dX8_read_43 rfl ?_
      refine s_goto (tgt := 48) dX8_read_44 (by decide) ?_
      refine s_iadd dX8_read_48 ?_
      rw [nI_1]
      refine s_istore_n dX8_read_49 (Nat.le_of_ble_eq_true rfl) rfl ?_
      refine s_iinc (nI (c + 1)) dX8_read_50 rfl (nI_1 _) (Nat.le_of_ble_eq_true rfl) rfl ?_
      refine s_goto (tgt := 26) dX8_read_53 (by decide) ?_
      exact K
    · have ht0 : (doC (zFs tt n) (psC (zFs tt n) c) σ.1 σ.2.1).2.2 = 0 := by have := hlt.2.2; omega
      rw [if_neg ht] at hz
      rw [ht0] at K ⊢
      refine s_iload_n dX8_read_26 rfl ?_
      refine s_aload_n dX8_read_27 rfl ?_
      refine s_get dX8_read_28 f_X8_149 (by rfl) (by rfl) ?_
      refine s_icmp_ge (tgt := 56) dX8_read_31 (by decide) (fun hqz => absurd hqz (nI_ge hm (by omega))) (fun hz => ?_)
      clear hz
      refine s_iload_n dX8_read_34 rfl ?_
      refine s_aload_n dX8_read_35 rfl ?_
      refine s_iload_n dX8_read_36 rfl ?_
      refine s_cv1 dX8_read_37 g_X8_174 (hz) (by rfl) rfl rfl rfl rfl (Nat.le_of_ble_eq_true rfl) (Nat.le_of_ble_eq_true rfl) rfl ?_
      refine s_if_lt (tgt := 47) dX8_read_40 (by decide) (fun hz => ?_) (fun hqz => absurd (by decide) hqz)
      clear hz
      refine s_iconst (v := 0) dX8_read_47 rfl ?_
      refine s_iadd dX8_read_48 ?_
      rw [Int32.add_zero]
      refine s_istore_n dX8_read_49 (Nat.le_of_ble_eq_true rfl) rfl ?_
      refine s_iinc (nI (c + 1)) dX8_read_50 rfl (nI_1 _) (Nat.le_of_ble_eq_true rfl) rfl ?_
      refine s_goto (tgt := 26) dX8_read_53 (by decide) ?_
      exact K
set_option maxHeartbeats 4000000 in
set_option maxRecDepth 100000 in
theorem y_read_no {Z : zS} {d : Nat} {hd th : zHd} {hi : Int32} {tx : zTx} {sh : zSh} {tp : zTs} {cm fo nu f1 f2 : Nat → Int32} {ma mc ms me mq mu mh mp : Int32} {fc vc tt sg td sw sm ew eo bc bi im so sz : Nat → Int32} {it mv : Nat → Int64} {n b k : Nat} (hn : n ≤ 100) (h : ¬ ffL (zFs tt n) n 12 0 = -1) : zF Z M_X8_read (d + 5) [.ref 41] (wX hd th hi tx sh tp ++ wM cm fo nu f1 f2 (nI b) (nI k) (nI n) ma mc ms me mq mu mh mp fc vc tt sg td sw sm ew eo bc bi im so sz it mv) [.int (-10 - ffL (zFs tt n) n 12 0)] (wX hd th hi tx sh tp ++ wM cm fo nu f1 f2 (nI b) (nI k) 0 (nI (raA (zFs tt n) n sg td).2.1) (nI (raA (zFs tt n) n sg td).2.2.1) ms me mq mu mh mp fc vc tt (raA (zFs tt n) n sg td).2.2.2.1 (raA (zFs tt n) n sg td).2.2.2.2 sw sm ew eo bc bi im so sz it mv) := by
  show zG Z M_X8_read (d + 5) _ 63 0 [(0, .ref 41)] [] (wX hd th hi tx sh tp ++ wM cm fo nu f1 f2 (nI b) (nI k) (nI n) ma mc ms me mq mu mh mp fc vc tt sg td sw sm ew eo bc bi im so sz it mv)
  have hra := (raA_ff (F := (zFs tt n)) (n := n) (sg := sg) (td := td)).resolve_left (fun q => h q.2)
  have hz := c_X8_readsAll (Z := Z) (d := d) (hd := hd) (th := th) (hi := hi) (tx := tx) (sh := sh) (tp := tp) (cm := cm) (fo := fo) (nu := nu) (f1 := f1) (f2 := f2) (mb := nI b) (mk := nI k) (ma := ma) (mc := mc) (ms := ms) (me := me) (mq := mq) (mu := mu) (mh := mh) (mp := mp) (fc := fc) (vc := vc) (tt := tt) (sg := sg) (td := td) (sw := sw) (sm := sm) (ew := ew) (eo := eo) (bc := bc) (bi := bi) (im := im) (so := so) (sz := sz) (it := it) (mv := mv) hn
  rw [hra.1] at hz
  refine s_aload_n dX8_read_0 rfl ?_
  refine s_cv1 dX8_read_1 g_X8_171 (hz) (by rfl) rfl rfl rfl rfl (Nat.le_of_ble_eq_true rfl) (Nat.le_of_ble_eq_true rfl) rfl ?_
  refine s_istore_n dX8_read_4 (Nat.le_of_ble_eq_true rfl) rfl ?_
  refine s_aload_n dX8_read_5 rfl ?_
  refine s_iconst (v := 0) dX8_read_6 rfl ?_
  refine s_put dX8_read_7 f_X8_135 (by rfl) (fun _ => ⟨rfl, rfl⟩) (Nat.le_of_ble_eq_true rfl) ?_
  show zG Z M_X8_read _ _ _ _ _ _ (wX hd th hi tx sh tp ++ wM cm fo nu f1 f2 (nI b) (nI k) 0 (nI (raA (zFs tt n) n sg td).2.1) (nI (raA (zFs tt n) n sg td).2.2.1) ms me mq mu mh mp fc vc tt (raA (zFs tt n) n sg td).2.2.2.1 (raA (zFs tt n) n sg td).2.2.2.2 sw sm ew eo bc bi im so sz it mv)
  refine s_iload_n dX8_read_10 rfl ?_
  refine s_if_ne (tgt := 22) dX8_read_11 (by decide) (fun hqz => absurd rfl hqz) (fun hz => ?_)
  clear hz
  refine s_bipush (v := (-10)) dX8_read_14 rfl ?_
  refine s_aload_n dX8_read_16 rfl ?_
  refine s_get dX8_read_17 f_X8_138 (by rfl) (by rfl) ?_
  refine s_isub dX8_read_20 ?_
  exact s_iret dX8_read_21 rfl ⟨by rw [hra.2], rfl⟩ (by first | exact wXMl | rfl | (simp only [List.length_set]; exact wXMl))
theorem raP_at {F : Nat → Int32} {n : Nat} : ∀ (r c : Nat) (sg td : zVc), c + r = 11 → (raP F n r c sg td).2.1 ≤ 200
  | 0, c, sg, td, hc => by
    have h1 := psC_le F c
    have h2 := dgC_le F (psC F c)
    have h3 : zE F c ≤ 200 := by unfold zE; omega
    unfold raP
    by_cases h : n ≤ zE F c
    · rw [if_pos h]; exact h3
    · rw [if_neg h]; exact h3
  | r + 1, c, sg, td, hc => by
    have h1 := psC_le F c
    have h2 := dgC_le F (psC F c)
    have h3 : zE F c ≤ 200 := by unfold zE; omega
    have h4 := psC_le F (c + 1)
    unfold raP
    by_cases h : n ≤ zE F c
    · rw [if_pos h]; exact h3
    rw [if_neg h]
    by_cases g : F (zE F c) = 59
    · rw [if_pos g]
      by_cases g2 : zMD (F (psC F (c + 1))) = -1
      · rw [if_pos g2]; show psC F (c + 1) ≤ 200; omega
      rw [if_neg g2]
      by_cases g3 : 0 < cMD (F (psC F (c + 1))) ∧ dgC F (psC F (c + 1)) = 0
      · rw [if_pos g3]; show psC F (c + 1) + 1 ≤ 200; omega
      · rw [if_neg g3]; exact raP_at r (c + 1) _ _ (by omega)
    · rw [if_neg g]; exact h3
theorem raA_at {f : Nat → Int32} {n : Nat} {sg td : zVc} (_hn : n ≤ 100) : (raA (zFs f n) n sg td).2.1 ≤ 200 := by
  unfold raA
  by_cases g2 : zMD (zFs f n 0) = -1
  · rw [if_pos g2]; exact Nat.zero_le _
  rw [if_neg g2]
  by_cases g3 : 0 < cMD (zFs f n 0) ∧ dgC (zFs f n) 0 = 0
  · rw [if_pos g3]; show 1 ≤ 200; decide
  · rw [if_neg g3]; exact raP_at 11 0 _ _ rfl
set_option maxHeartbeats 4000000 in
set_option maxRecDepth 100000 in
theorem y_read {Z : zS} {d : Nat} {hd th : zHd} {hi : Int32} {tx : zTx} {sh : zSh} {tp : zTs} {cm fo nu f1 f2 : Nat → Int32} {ma mc ms me mq mu mh mp : Int32} {fc vc tt sg td sw sm ew eo bc bi im so sz : Nat → Int32} {it mv : Nat → Int64} {n b k : Nat} (hn : n ≤ 100) (hb : b < 256) (hk : k < 256) (hC : CMok cm) (hF : FOok fo) (h : ffL (zFs tt n) n 12 0 = -1) : zF Z M_X8_read (d + 5) [.ref 41] (wX hd th hi tx sh tp ++ wM cm fo nu f1 f2 (nI b) (nI k) (nI n) ma mc ms me mq mu mh mp fc vc tt sg td sw sm ew eo bc bi im so sz it mv) [.int (nI (pfL (zFs tt n) n 12 0 (b, k, 0)).2.2)] (wX hd th hi tx sh tp ++ wM cm fo nu f1 f2 (nI (pfL (zFs tt n) n 12 0 (b, k, 0)).1) (nI (pfL (zFs tt n) n 12 0 (b, k, 0)).2.1) 0 (nI (raA (zFs tt n) n sg td).2.1) (nI (raA (zFs tt n) n sg td).2.2.1) ms me mq mu mh mp fc vc tt (raA (zFs tt n) n sg td).2.2.2.1 (raA (zFs tt n) n sg td).2.2.2.2 sw sm ew eo bc bi im so sz it mv) := by
  show zG Z M_X8_read (d + 5) _ 63 0 [(0, .ref 41)] [] (wX hd th hi tx sh tp ++ wM cm fo nu f1 f2 (nI b) (nI k) (nI n) ma mc ms me mq mu mh mp fc vc tt sg td sw sm ew eo bc bi im so sz it mv)
  have hra : (raA (zFs tt n) n sg td).1 = 1 := by
    rcases raA_ff (F := (zFs tt n)) (n := n) (sg := sg) (td := td) with q | q
    · exact q.1
    · exfalso
      have hle := raA_at (f := tt) (n := n) (sg := sg) (td := td) hn
      rw [h] at q
      exact znm (by omega) q.2.symm
  have hz := c_X8_readsAll (Z := Z) (d := d) (hd := hd) (th := th) (hi := hi) (tx := tx) (sh := sh) (tp := tp) (cm := cm) (fo := fo) (nu := nu) (f1 := f1) (f2 := f2) (mb := nI b) (mk := nI k) (ma := ma) (mc := mc) (ms := ms) (me := me) (mq := mq) (mu := mu) (mh := mh) (mp := mp) (fc := fc) (vc := vc) (tt := tt) (sg := sg) (td := td) (sw := sw) (sm := sm) (ew := ew) (eo := eo) (bc := bc) (bi := bi) (im := im) (so := so) (sz := sz) (it := it) (mv := mv) hn
  rw [hra] at hz
  obtain ⟨e, he, e1, e2, e3⟩ := raA_ok hra
  have epf : pfL (zFs tt n) n 12 0 (b, k, 0) = pfR (zFs tt n) (e + 1) 0 (b, k, 0) := pf_eq he (fun j hj => Fs_key (e3 j hj).1.1) e2 (e + 1) 12 0 _ (by omega) (by omega)
  rw [e1] at hz ⊢
  rw [epf]
  refine s_aload_n dX8_read_0 rfl ?_
  refine s_cv1 dX8_read_1 g_X8_171 (hz) (by rfl) rfl rfl rfl rfl (Nat.le_of_ble_eq_true rfl) (Nat.le_of_ble_eq_true rfl) rfl ?_
  refine s_istore_n dX8_read_4 (Nat.le_of_ble_eq_true rfl) rfl ?_
  refine s_aload_n dX8_read_5 rfl ?_
  refine s_iconst (v := 0) dX8_read_6 rfl ?_
  refine s_put dX8_read_7 f_X8_135 (by rfl) (fun _ => ⟨rfl, rfl⟩) (Nat.le_of_ble_eq_true rfl) ?_
  show zG Z M_X8_read _ _ _ _ _ _ (wX hd th hi tx sh tp ++ wM cm fo nu f1 f2 (nI b) (nI k) 0 (nI (raA (zFs tt n) n sg td).2.1) (nI (e + 1)) ms me mq mu mh mp fc vc tt (raA (zFs tt n) n sg td).2.2.2.1 (raA (zFs tt n) n sg td).2.2.2.2 sw sm ew eo bc bi im so sz it mv)
  refine s_iload_n dX8_read_10 rfl ?_
  refine s_if_ne (tgt := 22) dX8_read_11 (by decide) (fun hz => ?_) (fun hqz => absurd hqz (by decide))
  clear hz
  refine s_iconst (v := 0) dX8_read_22 rfl ?_
  refine s_istore_n dX8_read_23 (Nat.le_of_ble_eq_true rfl) rfl ?_
  refine s_iconst (v := 0) dX8_read_24 rfl ?_
  refine s_istore_n dX8_read_25 (Nat.le_of_ble_eq_true rfl) rfl ?_
  exact l_rdL hC hF he e3 (e + 1) 0 (b, k, 0) (by omega) hb hk (Nat.le_refl _)
