set_option maxHeartbeats 4000000 in
set_option maxRecDepth 100000 in
theorem c_X1_ofNode_8 (l : Launch) (D : va_G) (cI cZ cB cJ : ClassId) (h0 h1 h2 h3 g0 g1 g2 g3 g4 g5 g6 g7 g8 g9 g10 g11 g12 : Nat) : CtI l D (TT cI cZ cB cJ) yX1_ofNode cX1_ofNode 4 (some .int) 1 21 0 0 [.ref h0, .int 0, .int 7] [(h0, .inr (1, [.ref h1, .ref g0, .ref g1, .ref g2, .ref g3, .ref g4, .ref g5, .int 4, .int 3, .int 0, .int (-1), .int 0])), (h1, .inr (7, [.ref g6, .ref h2, .ref g7, .ref g8, .ref g9, .ref h3, .ref g10, .ref g11, .ref g12, .int 1, .int 1, .int 0])), (h2, .inl (cI, 60, .inl (upd (fun _ => 0) 0 (-1)))), (h3, .inl (cI, 60, .inl (upd (fun _ => 0) 0 1)))] (fun r w1 => r = 1 ∧ w1 = [(h0, .inr (1, [.ref h1, .ref g0, .ref g1, .ref g2, .ref g3, .ref g4, .ref g5, .int 4, .int 3, .int 0, .int (-1), .int 0])), (h1, .inr (7, [.ref g6, .ref h2, .ref g7, .ref g8, .ref g9, .ref h3, .ref g10, .ref g11, .ref g12, .int 1, .int 1, .int 0])), (h2, .inl (cI, 60, .inl (upd (fun _ => 0) 0 (-1)))), (h3, .inl (cI, 60, .inl (upd (fun _ => 0) 0 1)))]) := by
  refine CtI.of (by decide +kernel) (Nat.le_of_ble_eq_true rfl) ?_
  intro p e s m below meth c A ls hx hb hr hml hown hts hnw hlocks hin hA hS hP hK hD hl
  have hown : s.vm.findClass RX1 = some m.cls := hown
  have hl : lv_has ls 4 [(0, .ref h0), (1, .int 0), (2, .int 7)] := hl
  refine lv_aload_n hx hb dX1_ofNode_0 rfl (lv_at hl 0 rfl) ?_
  refine va_get (D := D) (ci := 1) (v := .ref h1) (C := RX1) (T := TX1) (N := 12) hx hb hts inX1 hown hK hP 0 rfl rfl 0 (by decide) (hts _ wm_274) (fun _ h9 => h9) rfl dX1_ofNode_1 ?_
  refine va_getN (D := D) (ci := 7) (v := .ref h2) (C := RX7) (T := TX7) (N := 12) hx hb hts inX7 hown hK hP 1 rfl rfl 1 (by decide) (va_Nw.use rfl (hnw _ wn_81)) (fun _ h9 => h9) rfl dX1_ofNode_4 ?_
  refine lv_iload_n hx hb dX1_ofNode_7 rfl (lv_at hl 1 rfl) ?_
  refine kSNi (As := [.ref h2, .int 0]) (rest := []) (wr := [(h0, .inr (1, [.ref h1, .ref g0, .ref g1, .ref g2, .ref g3, .ref g4, .ref g5, .int 4, .int 3, .int 0, .int (-1), .int 0])), (h1, .inr (7, [.ref g6, .ref h2, .ref g7, .ref g8, .ref g9, .ref h3, .ref g10, .ref g11, .ref g12, .int 1, .int 1, .int 0])), (h3, .inl (cI, 60, .inl (upd (fun _ => 0) 0 1)))]) hx hb hml hown hts hnw hK hP hD hS hA hl.1 (c_X11_at_8 l D cI cZ cB cJ h2) yk_X11_at wn_482 [2] [0, 1, 3] rfl rfl (by decide) (by decide) (by decide) rfl rfl dX1_ofNode_8 ⟨Nat.le_of_ble_eq_true rfl, Nat.le_of_ble_eq_true rfl⟩ ⟨Nat.le_of_ble_eq_true rfl, Nat.le_of_ble_eq_true rfl⟩ (Nat.le_of_ble_eq_true rfl) (fun r9 w1 H locs hq9 hP hD hS => ?_)
  obtain ⟨rfl, rfl⟩ := hq9
  have hP : va_P D vwCl [(h0, .inr (1, [.ref h1, .ref g0, .ref g1, .ref g2, .ref g3, .ref g4, .ref g5, .int 4, .int 3, .int 0, .int (-1), .int 0])), (h1, .inr (7, [.ref g6, .ref h2, .ref g7, .ref g8, .ref g9, .ref h3, .ref g10, .ref g11, .ref g12, .int 1, .int 1, .int 0])), (h3, .inl (cI, 60, .inl (upd (fun _ => 0) 0 1))), (h2, .inl (cI, 60, .inl (upd (fun _ => 0) 0 (-1))))] H := hP
  have hD : va_D A [(h0, .inr (1, [.ref h1, .ref g0, .ref g1, .ref g2, .ref g3, .ref g4, .ref g5, .int 4, .int 3, .int 0, .int (-1), .int 0])), (h1, .inr (7, [.ref g6, .ref h2, .ref g7, .ref g8, .ref g9, .ref h3, .ref g10, .ref g11, .ref g12, .int 1, .int 1, .int 0])), (h3, .inl (cI, 60, .inl (upd (fun _ => 0) 0 1))), (h2, .inl (cI, 60, .inl (upd (fun _ => 0) 0 (-1))))] := hD
  refine W.widen (k := 0) (n := 0) (Nat.le_of_ble_eq_true rfl) (Nat.le_of_ble_eq_true rfl) ?_
  refine pcn (b := 11) rfl ?_
  refine lv_istore_n (lv' := [(3, .int (-1)), (0, .ref h0), (1, .int 0), (2, .int 7)]) hx hb dX1_ofNode_11 rfl hl (by decide) rfl (fun ls hl => ?_)
  refine lv_iload_n hx hb dX1_ofNode_12 rfl (lv_at hl 3 rfl) ?_
  refine lv_tableIn (off := 134) (tgt := 147) hx hb dX1_ofNode_13 (by decide +kernel) (by decide +kernel) (by decide +kernel) (by decide) ?_
  refine lv_aload_n hx hb dX1_ofNode_147 rfl (lv_at hl 1 rfl) ?_
  refine va_get (D := D) (ci := 1) (v := .ref h1) (C := RX1) (T := TX1) (N := 12) hx hb hts inX1 hown hK hP 0 rfl rfl 0 (by decide) (hts _ wm_274) (fun _ h9 => h9) rfl dX1_ofNode_148 ?_
  refine va_getN (D := D) (ci := 7) (v := .ref h3) (C := RX7) (T := TX7) (N := 12) hx hb hts inX7 hown hK hP 1 rfl rfl 5 (by decide) (va_Nw.use rfl (hnw _ wn_91)) (fun _ h9 => h9) rfl dX1_ofNode_151 ?_
  refine lv_iload_n hx hb dX1_ofNode_154 rfl (lv_at hl 2 rfl) ?_
  refine kSNi (As := [.ref h3, .int 0]) (rest := []) (wr := [(h0, .inr (1, [.ref h1, .ref g0, .ref g1, .ref g2, .ref g3, .ref g4, .ref g5, .int 4, .int 3, .int 0, .int (-1), .int 0])), (h1, .inr (7, [.ref g6, .ref h2, .ref g7, .ref g8, .ref g9, .ref h3, .ref g10, .ref g11, .ref g12, .int 1, .int 1, .int 0])), (h2, .inl (cI, 60, .inl (upd (fun _ => 0) 0 (-1))))]) hx hb hml hown hts hnw hK hP hD hS hA hl.1 (c_X11_at_9 l D cI cZ cB cJ h3) yk_X11_at wn_482 [2] [0, 1, 3] rfl rfl (by decide) (by decide) (by decide) rfl rfl dX1_ofNode_155 ⟨Nat.le_of_ble_eq_true rfl, Nat.le_of_ble_eq_true rfl⟩ ⟨Nat.le_of_ble_eq_true rfl, Nat.le_of_ble_eq_true rfl⟩ (Nat.le_of_ble_eq_true rfl) (fun r9 w1 H locs hq9 hP hD hS => ?_)
  obtain ⟨rfl, rfl⟩ := hq9
  have hP : va_P D vwCl [(h0, .inr (1, [.ref h1, .ref g0, .ref g1, .ref g2, .ref g3, .ref g4, .ref g5, .int 4, .int 3, .int 0, .int (-1), .int 0])), (h1, .inr (7, [.ref g6, .ref h2, .ref g7, .ref g8, .ref g9, .ref h3, .ref g10, .ref g11, .ref g12, .int 1, .int 1, .int 0])), (h2, .inl (cI, 60, .inl (upd (fun _ => 0) 0 (-1)))), (h3, .inl (cI, 60, .inl (upd (fun _ => 0) 0 1)))] H := hP
  have hD : va_D A [(h0, .inr (1, [.ref h1, .ref g0, .ref g1, .ref g2, .ref g3, .ref g4, .ref g5, .int 4, .int 3, .int 0, .int (-1), .int 0])), (h1, .inr (7, [.ref g6, .ref h2, .ref g7, .ref g8, .ref g9, .ref h3, .ref g10, .ref g11, .ref g12, .int 1, .int 1, .int 0])), (h2, .inl (cI, 60, .inl (upd (fun _ => 0) 0 (-1)))), (h3, .inl (cI, 60, .inl (upd (fun _ => 0) 0 1)))] := hD
  refine W.widen (k := 0) (n := 0) (Nat.le_of_ble_eq_true rfl) (Nat.le_of_ble_eq_true rfl) ?_
  refine pcn (b := 158) rfl ?_
  refine W.widen (k := 0) (n := 0) (Nat.le_of_ble_eq_true rfl) (Nat.le_of_ble_eq_true rfl) ?_
  exact rtI hx hb hr hlocks hS hP hD ⟨rfl, rfl⟩ dX1_ofNode_158

set_option maxHeartbeats 4000000 in
set_option maxRecDepth 100000 in
theorem c_X1_ofNode_9 (l : Launch) (D : va_G) (cI cZ cB cJ : ClassId) (h0 h1 h2 g0 g1 g2 g3 g4 g5 g6 g7 g8 g9 g10 g11 g12 g13 : Nat) (s0 : Int32) (s0l : (8 : Int) ≤ s0.toInt) (s0h : s0.toInt ≤ (2147483647 : Int)) : CtI l D (TT cI cZ cB cJ) yX1_ofNode cX1_ofNode 4 (some .int) 1 21 0 0 [.ref h0, .int 0, .int s0] [(h0, .inr (1, [.ref h1, .ref g0, .ref g1, .ref g2, .ref g3, .ref g4, .ref g5, .int 4, .int 3, .int 0, .int (-1), .int 0])), (h1, .inr (7, [.ref g6, .ref h2, .ref g7, .ref g8, .ref g9, .ref g10, .ref g11, .ref g12, .ref g13, .int 1, .int 1, .int 0])), (h2, .inl (cI, 60, .inl (upd (fun _ => 0) 0 (-1))))] (fun r w1 => r = (-1) ∧ w1 = [(h0, .inr (1, [.ref h1, .ref g0, .ref g1, .ref g2, .ref g3, .ref g4, .ref g5, .int 4, .int 3, .int 0, .int (-1), .int 0])), (h1, .inr (7, [.ref g6, .ref h2, .ref g7, .ref g8, .ref g9, .ref g10, .ref g11, .ref g12, .ref g13, .int 1, .int 1, .int 0])), (h2, .inl (cI, 60, .inl (upd (fun _ => 0) 0 (-1))))]) := by
  refine CtI.of (by decide +kernel) (Nat.le_of_ble_eq_true rfl) ?_
  intro p e s m below meth c A ls hx hb hr hml hown hts hnw hlocks hin hA hS hP hK hD hl
  have hown : s.vm.findClass RX1 = some m.cls := hown
  have hl : lv_has ls 4 [(0, .ref h0), (1, .int 0), (2, .int s0)] := hl
  refine lv_aload_n hx hb dX1_ofNode_0 rfl (lv_at hl 0 rfl) ?_
  refine va_get (D := D) (ci := 1) (v := .ref h1) (C := RX1) (T := TX1) (N := 12) hx hb hts inX1 hown hK hP 0 rfl rfl 0 (by decide) (hts _ wm_274) (fun _ h9 => h9) rfl dX1_ofNode_1 ?_
  refine va_getN (D := D) (ci := 7) (v := .ref h2) (C := RX7) (T := TX7) (N := 12) hx hb hts inX7 hown hK hP 1 rfl rfl 1 (by decide) (va_Nw.use rfl (hnw _ wn_81)) (fun _ h9 => h9) rfl dX1_ofNode_4 ?_
  refine lv_iload_n hx hb dX1_ofNode_7 rfl (lv_at hl 1 rfl) ?_
  refine kSNi (As := [.ref h2, .int 0]) (rest := []) (wr := [(h0, .inr (1, [.ref h1, .ref g0, .ref g1, .ref g2, .ref g3, .ref g4, .ref g5, .int 4, .int 3, .int 0, .int (-1), .int 0])), (h1, .inr (7, [.ref g6, .ref h2, .ref g7, .ref g8, .ref g9, .ref g10, .ref g11, .ref g12, .ref g13, .int 1, .int 1, .int 0]))]) hx hb hml hown hts hnw hK hP hD hS hA hl.1 (c_X11_at_8 l D cI cZ cB cJ h2) yk_X11_at wn_482 [2] [0, 1] rfl rfl (by decide) (by decide) (by decide) rfl rfl dX1_ofNode_8 ⟨Nat.le_of_ble_eq_true rfl, Nat.le_of_ble_eq_true rfl⟩ ⟨Nat.le_of_ble_eq_true rfl, Nat.le_of_ble_eq_true rfl⟩ (Nat.le_of_ble_eq_true rfl) (fun r9 w1 H locs hq9 hP hD hS => ?_)
  obtain ⟨rfl, rfl⟩ := hq9
  have hP : va_P D vwCl [(h0, .inr (1, [.ref h1, .ref g0, .ref g1, .ref g2, .ref g3, .ref g4, .ref g5, .int 4, .int 3, .int 0, .int (-1), .int 0])), (h1, .inr (7, [.ref g6, .ref h2, .ref g7, .ref g8, .ref g9, .ref g10, .ref g11, .ref g12, .ref g13, .int 1, .int 1, .int 0])), (h2, .inl (cI, 60, .inl (upd (fun _ => 0) 0 (-1))))] H := hP
  have hD : va_D A [(h0, .inr (1, [.ref h1, .ref g0, .ref g1, .ref g2, .ref g3, .ref g4, .ref g5, .int 4, .int 3, .int 0, .int (-1), .int 0])), (h1, .inr (7, [.ref g6, .ref h2, .ref g7, .ref g8, .ref g9, .ref g10, .ref g11, .ref g12, .ref g13, .int 1, .int 1, .int 0])), (h2, .inl (cI, 60, .inl (upd (fun _ => 0) 0 (-1))))] := hD
  refine W.widen (k := 0) (n := 0) (Nat.le_of_ble_eq_true rfl) (Nat.le_of_ble_eq_true rfl) ?_
  refine pcn (b := 11) rfl ?_
  refine lv_istore_n (lv' := [(3, .int (-1)), (0, .ref h0), (1, .int 0), (2, .int s0)]) hx hb dX1_ofNode_11 rfl hl (by decide) rfl (fun ls hl => ?_)
  refine lv_iload_n hx hb dX1_ofNode_12 rfl (lv_at hl 3 rfl) ?_
  refine lv_tableOut (tgt := 159) hx hb dX1_ofNode_13 (Or.inr (Int.lt_of_lt_of_le (by decide) s0l)) (by decide) ?_
  refine lv_iconst (v := (-1)) hx hb dX1_ofNode_159 (by decide +kernel) ?_
  refine W.widen (k := 0) (n := 0) (Nat.le_of_ble_eq_true rfl) (Nat.le_of_ble_eq_true rfl) ?_
  exact rtI hx hb hr hlocks hS hP hD ⟨rfl, rfl⟩ dX1_ofNode_160

set_option maxHeartbeats 4000000 in
set_option maxRecDepth 100000 in
theorem c_X12_in_9 (l : Launch) (D : va_G) (cI cZ cB cJ : ClassId) (s0 : Int32) (s0l : ((-2147483648) : Int) ≤ s0.toInt) (s0h : s0.toInt ≤ ((-1) : Int)) : CtI l D (TT cI cZ cB cJ) yX12_in cX12_in 3 (some .boolean) 0 0 0 0 [.int s0, .int 0, .int (-1)] [] (fun r w1 => r = 0 ∧ w1 = []) := by
  refine CtI.of (by decide +kernel) (Nat.le_of_ble_eq_true rfl) ?_
  intro p e s m below meth c A ls hx hb hr hml hown hts hnw hlocks hin hA hS hP hK hD hl
  have hown : s.vm.findClass RX12 = some m.cls := hown
  have hl : lv_has ls 3 [(0, .int s0), (1, .int 0), (2, .int (-1))] := hl
  refine lv_iload_n hx hb dX12_in_0 rfl (lv_at hl 0 rfl) ?_
  refine lv_iload_n hx hb dX12_in_1 rfl (lv_at hl 1 rfl) ?_
  refine lv_icmp_lt (tgt := 14) hx hb dX12_in_2 (by decide) (fun _ => ?_) (fun h9 => absurd (iv_lt s0h (by decide +kernel : (0 : Int) ≤ (0 : Int32).toInt) (by decide)) h9)
  refine lv_iconst (v := 0) hx hb dX12_in_14 (by decide +kernel) ?_
  refine W.widen (k := 0) (n := 0) (Nat.le_of_ble_eq_true rfl) (Nat.le_of_ble_eq_true rfl) ?_
  exact rtZ hx hb hr rfl hlocks hS hP hD ⟨rfl, rfl⟩ dX12_in_15

set_option maxHeartbeats 4000000 in
set_option maxRecDepth 100000 in
theorem c_X12_in_10 (l : Launch) (D : va_G) (cI cZ cB cJ : ClassId) (s0 : Int32) (s0l : (0 : Int) ≤ s0.toInt) (s0h : s0.toInt ≤ (2147483647 : Int)) : CtI l D (TT cI cZ cB cJ) yX12_in cX12_in 3 (some .boolean) 0 0 0 0 [.int s0, .int 0, .int (-1)] [] (fun r w1 => r = 0 ∧ w1 = []) := by
  refine CtI.of (by decide +kernel) (Nat.le_of_ble_eq_true rfl) ?_
  intro p e s m below meth c A ls hx hb hr hml hown hts hnw hlocks hin hA hS hP hK hD hl
  have hown : s.vm.findClass RX12 = some m.cls := hown
  have hl : lv_has ls 3 [(0, .int s0), (1, .int 0), (2, .int (-1))] := hl
  refine lv_iload_n hx hb dX12_in_0 rfl (lv_at hl 0 rfl) ?_
  refine lv_iload_n hx hb dX12_in_1 rfl (lv_at hl 1 rfl) ?_
  refine lv_icmp_lt (tgt := 14) hx hb dX12_in_2 (by decide) (fun h9 => absurd h9 (iv_nlt s0l (by decide +kernel : (0 : Int32).toInt ≤ (0 : Int)) (by decide))) (fun _ => ?_)
  refine lv_iload_n hx hb dX12_in_5 rfl (lv_at hl 0 rfl) ?_
  refine lv_iload_n hx hb dX12_in_6 rfl (lv_at hl 2 rfl) ?_
  refine lv_icmp_gt (tgt := 14) hx hb dX12_in_7 (by decide) (fun _ => ?_) (fun h9 => absurd (iv_lt (by decide +kernel : ((-1) : Int32).toInt ≤ ((-1) : Int)) s0l (by decide)) h9)
  refine lv_iconst (v := 0) hx hb dX12_in_14 (by decide +kernel) ?_
  refine W.widen (k := 0) (n := 0) (Nat.le_of_ble_eq_true rfl) (Nat.le_of_ble_eq_true rfl) ?_
  exact rtZ hx hb hr rfl hlocks hS hP hD ⟨rfl, rfl⟩ dX12_in_15

set_option maxHeartbeats 4000000 in
set_option maxRecDepth 100000 in
theorem c_X12_manyOf_0 (l : Launch) (D : va_G) (cI cZ cB cJ : ClassId) (h0 g0 g1 g2 g3 g4 g5 g6 g7 g8 g9 g10 g11 g12 g13 g14 g15 g16 g17 g18 g19 g20 g21 g22 g23 g24 g25 g26 g27 g28 g29 g30 g31 g32 g33 g34 g35 g36 g37 g38 g39 g40 g41 g42 g43 g44 g45 g46 g47 g48 g49 g50 g51 g52 g53 g54 g55 g56 g57 g58 g59 g60 g61 g62 g63 g64 g65 g66 g67 g68 g69 : Nat) (s0 : Int32) (s0l : ((-2147483648) : Int) ≤ s0.toInt) (s0h : s0.toInt ≤ ((-1) : Int)) : CtI l D (TT cI cZ cB cJ) yX12_manyOf cX12_manyOf 2 (some .int) 0 0 0 0 [.ref h0, .int s0] [(h0, .inr (12, [.ref g0, .ref g1, .ref g2, .ref g3, .ref g4, .int 4, .ref g5, .ref g6, .ref g7, .ref g8, .ref g9, .int 0, .ref g10, .ref g11, .ref g12, .ref g13, .ref g14, .ref g15, .ref g16, .ref g17, .int 0, .ref g18, .int 0, .ref g19, .int 0, .int 0, .int 0, .int 0, .int 0, .int 0, .int 0, .int 0, .long 0, .ref g20, .ref g21, .ref g22, .ref g23, .ref g24, .ref g25, .ref g26, .ref g27, .ref g28, .ref g29, .ref g30, .int 0, .int 1, .int 0, .ref g31, .ref g32, .int 0, .ref g33, .ref g34, .ref g35, .ref g36, .int 0, .ref g37, .int 0, .ref g38, .ref g39, .ref g40, .ref g41, .ref g42, .ref g43, .ref g44, .ref g45, .ref g46, .ref g47, .int 0, .int 0, .int 4, .ref g48, .ref g49, .ref g50, .ref g51, .ref g52, .ref g53, .ref g54, .ref g55, .ref g56, .ref g57, .ref g58, .ref g59, .ref g60, .int 0, .int 0, .int 0, .int 0, .int 0, .int 0, .int 0, .int 0, .int 0, .int 0, .int 0, .int 0, .int 0, .int 0, .int 0, .int 0, .int 0, .int 0, .int 0, .int 0, .ref g61, .ref g62, .int 0, .ref g63, .ref g64, .ref g65, .ref g66, .int 0, .int 0, .ref g67, .ref g68, .int 0, .ref g69, .int 0, .int 0]))] (fun r w1 => r = 0 ∧ w1 = [(h0, .inr (12, [.ref g0, .ref g1, .ref g2, .ref g3, .ref g4, .int 4, .ref g5, .ref g6, .ref g7, .ref g8, .ref g9, .int 0, .ref g10, .ref g11, .ref g12, .ref g13, .ref g14, .ref g15, .ref g16, .ref g17, .int 0, .ref g18, .int 0, .ref g19, .int 0, .int 0, .int 0, .int 0, .int 0, .int 0, .int 0, .int 0, .long 0, .ref g20, .ref g21, .ref g22, .ref g23, .ref g24, .ref g25, .ref g26, .ref g27, .ref g28, .ref g29, .ref g30, .int 0, .int 1, .int 0, .ref g31, .ref g32, .int 0, .ref g33, .ref g34, .ref g35, .ref g36, .int 0, .ref g37, .int 0, .ref g38, .ref g39, .ref g40, .ref g41, .ref g42, .ref g43, .ref g44, .ref g45, .ref g46, .ref g47, .int 0, .int 0, .int 4, .ref g48, .ref g49, .ref g50, .ref g51, .ref g52, .ref g53, .ref g54, .ref g55, .ref g56, .ref g57, .ref g58, .ref g59, .ref g60, .int 0, .int 0, .int 0, .int 0, .int 0, .int 0, .int 0, .int 0, .int 0, .int 0, .int 0, .int 0, .int 0, .int 0, .int 0, .int 0, .int 0, .int 0, .int 0, .int 0, .ref g61, .ref g62, .int 0, .ref g63, .ref g64, .ref g65, .ref g66, .int 0, .int 0, .ref g67, .ref g68, .int 0, .ref g69, .int 0, .int 0]))]) := by
  refine CtI.of (by decide +kernel) (Nat.le_of_ble_eq_true rfl) ?_
  intro p e s m below meth c A ls hx hb hr hml hown hts hnw hlocks hin hA hS hP hK hD hl
  have hown : s.vm.findClass RX12 = some m.cls := hown
  have hl : lv_has ls 2 [(0, .ref h0), (1, .int s0)] := hl
  refine lv_iload_n hx hb dX12_manyOf_0 rfl (lv_at hl 1 rfl) ?_
  refine lv_tableOut (tgt := 87) hx hb dX12_manyOf_1 (Or.inl (Int.lt_of_le_of_lt s0h (by decide))) (by decide) ?_
  refine lv_iconst (v := 0) hx hb dX12_manyOf_87 (by decide +kernel) ?_
  refine W.widen (k := 0) (n := 0) (Nat.le_of_ble_eq_true rfl) (Nat.le_of_ble_eq_true rfl) ?_
  exact rtI hx hb hr hlocks hS hP hD ⟨rfl, rfl⟩ dX12_manyOf_88

set_option maxHeartbeats 4000000 in
set_option maxRecDepth 100000 in
theorem c_X10_start_0 (l : Launch) (D : va_G) (cI cZ cB cJ : ClassId) (h0 : Nat) (s0 : Int32) : CtV l D (TT cI cZ cB cJ) yX10_start cX10_start 2 none 0 0 0 0 [.ref h0, .int s0] [(h0, .inr (10, [.int 0, .int 0, .int 0]))] (fun w1 => w1 = [(h0, .inr (10, [.int s0, .int 0, .int (-4)]))]) := by
  refine CtV.of (by decide +kernel) (Nat.le_of_ble_eq_true rfl) ?_
  intro p e s m below meth c A ls hx hb hr hml hown hts hnw hlocks hin hA hS hP hK hD hl
  have hown : s.vm.findClass RX10 = some m.cls := hown
  have hl : lv_has ls 2 [(0, .ref h0), (1, .int s0)] := hl
  refine lv_aload_n hx hb dX10_start_0 rfl (lv_at hl 0 rfl) ?_
  refine lv_iload_n hx hb dX10_start_1 rfl (lv_at hl 1 rfl) ?_
  refine va_put (D := D) (ci := 10) (v := .int s0) (ty := .int) (C := RX10) (T := TX10) (N := 3) hx hb hts inX10 tyX10 tyX10_ok nmX10 hown hK hP hD hS 0 rfl rfl 0 (by decide) (hts _ wm_415) (fun _ h9 => h9) rfl (by decide +kernel) rfl rfl (Nat.le_of_ble_eq_true rfl) dX10_start_2 (fun H locs hP hD hS => ?_)
  have hP : va_P D vwCl [(h0, .inr (10, [.int s0, .int 0, .int 0]))] H := hP
  have hD : va_D A [(h0, .inr (10, [.int s0, .int 0, .int 0]))] := hD
  refine lv_aload_n hx hb dX10_start_5 rfl (lv_at hl 0 rfl) ?_
  refine lv_iconst (v := 0) hx hb dX10_start_6 (by decide +kernel) ?_
  refine va_put (D := D) (ci := 10) (v := .int 0) (ty := .int) (C := RX10) (T := TX10) (N := 3) hx hb hts inX10 tyX10 tyX10_ok nmX10 hown hK hP hD hS 0 rfl rfl 1 (by decide) (hts _ wm_416) (fun _ h9 => h9) rfl (by decide +kernel) rfl rfl (Nat.le_of_ble_eq_true rfl) dX10_start_7 (fun H locs hP hD hS => ?_)
  have hP : va_P D vwCl [(h0, .inr (10, [.int s0, .int 0, .int 0]))] H := hP
  have hD : va_D A [(h0, .inr (10, [.int s0, .int 0, .int 0]))] := hD
  refine lv_aload_n hx hb dX10_start_10 rfl (lv_at hl 0 rfl) ?_
  refine pcn (b := 11) rfl ?_
  refine lv_bipush (v := (-4)) hx hb dX10_start_11 (by decide +kernel) ?_
  refine va_put (D := D) (ci := 10) (v := .int (-4)) (ty := .int) (C := RX10) (T := TX10) (N := 3) hx hb hts inX10 tyX10 tyX10_ok nmX10 hown hK hP hD hS 0 rfl rfl 2 (by decide) (hts _ wm_418) (fun _ h9 => h9) rfl (by decide +kernel) rfl rfl (Nat.le_of_ble_eq_true rfl) dX10_start_13 (fun H locs hP hD hS => ?_)
  have hP : va_P D vwCl [(h0, .inr (10, [.int s0, .int 0, .int (-4)]))] H := hP
  have hD : va_D A [(h0, .inr (10, [.int s0, .int 0, .int (-4)]))] := hD
  refine W.widen (k := 0) (n := 0) (Nat.le_of_ble_eq_true rfl) (Nat.le_of_ble_eq_true rfl) ?_
  exact rtV hx hb hr hlocks hS hP hD rfl dX10_start_16

set_option maxHeartbeats 4000000 in
set_option maxRecDepth 100000 in
theorem c_X11_writeText_0 (l : Launch) (D : va_G) (cI cZ cB cJ : ClassId) (h0 g0 g1 g2 g3 g4 g5 g6 g7 g8 g9 : Nat) (s0 s1 : Int32) (s1l : ((-2147483648) : Int) ≤ s1.toInt) (s1h : s1.toInt ≤ ((-1) : Int)) : CtI l D (TT cI cZ cB cJ) yX11_writeText cX11_writeText 5 (some .boolean) 0 0 0 0 [.ref h0, .int s0, .int s1] [(h0, .inr (11, [.ref g0, .int 0, .ref g1, .ref g2, .ref g3, .ref g4, .ref g5, .ref g6, .ref g7, .ref g8, .ref g9]))] (fun r w1 => r = 0 ∧ w1 = [(h0, .inr (11, [.ref g0, .int 0, .ref g1, .ref g2, .ref g3, .ref g4, .ref g5, .ref g6, .ref g7, .ref g8, .ref g9]))]) := by
  refine CtI.of (by decide +kernel) (Nat.le_of_ble_eq_true rfl) ?_
  intro p e s m below meth c A ls hx hb hr hml hown hts hnw hlocks hin hA hS hP hK hD hl
  have hown : s.vm.findClass RX11 = some m.cls := hown
  have hl : lv_has ls 5 [(0, .ref h0), (1, .int s0), (2, .int s1)] := hl
  refine lv_iload_n hx hb dX11_writeText_0 rfl (lv_at hl 2 rfl) ?_
  refine lv_if_lt (tgt := 13) hx hb dX11_writeText_1 (by decide) (fun _ => ?_) (fun h9 => absurd (iv_lt s1h (by decide +kernel : (0 : Int) ≤ (0 : Int32).toInt) (by decide)) h9)
  refine lv_iconst (v := 0) hx hb dX11_writeText_13 (by decide +kernel) ?_
  refine W.widen (k := 0) (n := 0) (Nat.le_of_ble_eq_true rfl) (Nat.le_of_ble_eq_true rfl) ?_
  exact rtZ hx hb hr rfl hlocks hS hP hD ⟨rfl, rfl⟩ dX11_writeText_14

set_option maxHeartbeats 4000000 in
set_option maxRecDepth 100000 in
theorem c_X12_in_11 (l : Launch) (D : va_G) (cI cZ cB cJ : ClassId) : CtI l D (TT cI cZ cB cJ) yX12_in cX12_in 3 (some .boolean) 0 0 0 0 [.int 0, .int 0, .int (-1)] [] (fun r w1 => r = 0 ∧ w1 = []) := by
  refine CtI.of (by decide +kernel) (Nat.le_of_ble_eq_true rfl) ?_
  intro p e s m below meth c A ls hx hb hr hml hown hts hnw hlocks hin hA hS hP hK hD hl
  have hown : s.vm.findClass RX12 = some m.cls := hown
  have hl : lv_has ls 3 [(0, .int 0), (1, .int 0), (2, .int (-1))] := hl
  refine lv_iload_n hx hb dX12_in_0 rfl (lv_at hl 0 rfl) ?_
  refine lv_iload_n hx hb dX12_in_1 rfl (lv_at hl 1 rfl) ?_
  refine lv_icmp_lt (tgt := 14) hx hb dX12_in_2 (by decide) (fun h9 => absurd h9 (by decide +kernel)) (fun _ => ?_)
  refine lv_iload_n hx hb dX12_in_5 rfl (lv_at hl 0 rfl) ?_
  refine lv_iload_n hx hb dX12_in_6 rfl (lv_at hl 2 rfl) ?_
  refine lv_icmp_gt (tgt := 14) hx hb dX12_in_7 (by decide) (fun _ => ?_) (fun h9 => absurd (by decide +kernel) h9)
  refine lv_iconst (v := 0) hx hb dX12_in_14 (by decide +kernel) ?_
  refine W.widen (k := 0) (n := 0) (Nat.le_of_ble_eq_true rfl) (Nat.le_of_ble_eq_true rfl) ?_
  exact rtZ hx hb hr rfl hlocks hS hP hD ⟨rfl, rfl⟩ dX12_in_15

set_option maxHeartbeats 4000000 in
set_option maxRecDepth 100000 in
theorem c_X11_textsOf_0 (l : Launch) (D : va_G) (cI cZ cB cJ : ClassId) (h0 g0 g1 g2 g3 g4 g5 g6 g7 g8 g9 : Nat) (s0 : Int32) (s0l : ((-2147483648) : Int) ≤ s0.toInt) (s0h : s0.toInt ≤ ((-1) : Int)) : CtI l D (TT cI cZ cB cJ) yX11_textsOf cX11_textsOf 2 (some .int) 0 0 0 0 [.ref h0, .int s0] [(h0, .inr (11, [.ref g0, .int 0, .ref g1, .ref g2, .ref g3, .ref g4, .ref g5, .ref g6, .ref g7, .ref g8, .ref g9]))] (fun r w1 => r = 0 ∧ w1 = [(h0, .inr (11, [.ref g0, .int 0, .ref g1, .ref g2, .ref g3, .ref g4, .ref g5, .ref g6, .ref g7, .ref g8, .ref g9]))]) := by
  refine CtI.of (by decide +kernel) (Nat.le_of_ble_eq_true rfl) ?_
  intro p e s m below meth c A ls hx hb hr hml hown hts hnw hlocks hin hA hS hP hK hD hl
  have hown : s.vm.findClass RX11 = some m.cls := hown
  have hl : lv_has ls 2 [(0, .ref h0), (1, .int s0)] := hl
  refine lv_iload_n hx hb dX11_textsOf_0 rfl (lv_at hl 1 rfl) ?_
  refine lv_tableOut (tgt := 145) hx hb dX11_textsOf_1 (Or.inl (Int.lt_of_le_of_lt s0h (by decide))) (by decide) ?_
  refine lv_iconst (v := 0) hx hb dX11_textsOf_145 (by decide +kernel) ?_
  refine W.widen (k := 0) (n := 0) (Nat.le_of_ble_eq_true rfl) (Nat.le_of_ble_eq_true rfl) ?_
  exact rtI hx hb hr hlocks hS hP hD ⟨rfl, rfl⟩ dX11_textsOf_146

set_option maxHeartbeats 4000000 in
set_option maxRecDepth 100000 in
theorem c_X11_writeText_1 (l : Launch) (D : va_G) (cI cZ cB cJ : ClassId) (h0 g0 g1 g2 g3 g4 g5 g6 g7 g8 g9 : Nat) (s0 : Int32) (s0l : ((-2147483648) : Int) ≤ s0.toInt) (s0h : s0.toInt ≤ ((-1) : Int)) : CtI l D (TT cI cZ cB cJ) yX11_writeText cX11_writeText 5 (some .boolean) 1 21 0 0 [.ref h0, .int s0, .int 0] [(h0, .inr (11, [.ref g0, .int 0, .ref g1, .ref g2, .ref g3, .ref g4, .ref g5, .ref g6, .ref g7, .ref g8, .ref g9]))] (fun r w1 => r = 0 ∧ w1 = [(h0, .inr (11, [.ref g0, .int 0, .ref g1, .ref g2, .ref g3, .ref g4, .ref g5, .ref g6, .ref g7, .ref g8, .ref g9]))]) := by
  refine CtI.of (by decide +kernel) (Nat.le_of_ble_eq_true rfl) ?_
  intro p e s m below meth c A ls hx hb hr hml hown hts hnw hlocks hin hA hS hP hK hD hl
  have hown : s.vm.findClass RX11 = some m.cls := hown
  have hl : lv_has ls 5 [(0, .ref h0), (1, .int s0), (2, .int 0)] := hl
  refine lv_iload_n hx hb dX11_writeText_0 rfl (lv_at hl 2 rfl) ?_
  refine lv_if_lt (tgt := 13) hx hb dX11_writeText_1 (by decide) (fun h9 => absurd h9 (by decide +kernel)) (fun _ => ?_)
  refine lv_iload_n hx hb dX11_writeText_4 rfl (lv_at hl 2 rfl) ?_
  refine lv_aload_n hx hb dX11_writeText_5 rfl (lv_at hl 0 rfl) ?_
  refine lv_iload_n hx hb dX11_writeText_6 rfl (lv_at hl 1 rfl) ?_
  refine kVi (As := [.int s0]) (rest := [.int 0]) (wr := []) hx hb hml hown hts hnw hK hP hD hS hA hl.1 (c_X11_textsOf_0 l D cI cZ cB cJ h0 g0 g1 g2 g3 g4 g5 g6 g7 g8 g9 s0 s0l s0h) yk_X11_textsOf wm_857 [0] [] rfl rfl (by decide) (by decide) (by decide) 0 rfl rfl rfl rfl rfl dX11_writeText_7 ⟨Nat.le_of_ble_eq_true rfl, Nat.le_of_ble_eq_true rfl⟩ ⟨Nat.le_of_ble_eq_true rfl, Nat.le_of_ble_eq_true rfl⟩ (Nat.le_of_ble_eq_true rfl) (fun r9 w1 H locs hq9 hP hD hS => ?_)
  obtain ⟨rfl, rfl⟩ := hq9
  have hP : va_P D vwCl [(h0, .inr (11, [.ref g0, .int 0, .ref g1, .ref g2, .ref g3, .ref g4, .ref g5, .ref g6, .ref g7, .ref g8, .ref g9]))] H := hP
  have hD : va_D A [(h0, .inr (11, [.ref g0, .int 0, .ref g1, .ref g2, .ref g3, .ref g4, .ref g5, .ref g6, .ref g7, .ref g8, .ref g9]))] := hD
  refine W.widen (k := 0) (n := 0) (Nat.le_of_ble_eq_true rfl) (Nat.le_of_ble_eq_true rfl) ?_
  refine pcn (b := 10) rfl ?_
  refine lv_icmp_lt (tgt := 15) hx hb dX11_writeText_10 (by decide) (fun h9 => absurd h9 (by decide +kernel)) (fun _ => ?_)
  refine lv_iconst (v := 0) hx hb dX11_writeText_13 (by decide +kernel) ?_
  refine W.widen (k := 0) (n := 0) (Nat.le_of_ble_eq_true rfl) (Nat.le_of_ble_eq_true rfl) ?_
  exact rtZ hx hb hr rfl hlocks hS hP hD ⟨rfl, rfl⟩ dX11_writeText_14

set_option maxHeartbeats 4000000 in
set_option maxRecDepth 100000 in
theorem c_X12_in_12 (l : Launch) (D : va_G) (cI cZ cB cJ : ClassId) (s0 : Int32) (s0l : (1 : Int) ≤ s0.toInt) (s0h : s0.toInt ≤ (2147483647 : Int)) : CtI l D (TT cI cZ cB cJ) yX12_in cX12_in 3 (some .boolean) 0 0 0 0 [.int s0, .int 0, .int (-1)] [] (fun r w1 => r = 0 ∧ w1 = []) := by
  refine CtI.of (by decide +kernel) (Nat.le_of_ble_eq_true rfl) ?_
  intro p e s m below meth c A ls hx hb hr hml hown hts hnw hlocks hin hA hS hP hK hD hl
  have hown : s.vm.findClass RX12 = some m.cls := hown
  have hl : lv_has ls 3 [(0, .int s0), (1, .int 0), (2, .int (-1))] := hl
  refine lv_iload_n hx hb dX12_in_0 rfl (lv_at hl 0 rfl) ?_
  refine lv_iload_n hx hb dX12_in_1 rfl (lv_at hl 1 rfl) ?_
  refine lv_icmp_lt (tgt := 14) hx hb dX12_in_2 (by decide) (fun h9 => absurd h9 (iv_nlt s0l (by decide +kernel : (0 : Int32).toInt ≤ (0 : Int)) (by decide))) (fun _ => ?_)
  refine lv_iload_n hx hb dX12_in_5 rfl (lv_at hl 0 rfl) ?_
  refine lv_iload_n hx hb dX12_in_6 rfl (lv_at hl 2 rfl) ?_
  refine lv_icmp_gt (tgt := 14) hx hb dX12_in_7 (by decide) (fun _ => ?_) (fun h9 => absurd (iv_lt (by decide +kernel : ((-1) : Int32).toInt ≤ ((-1) : Int)) s0l (by decide)) h9)
  refine lv_iconst (v := 0) hx hb dX12_in_14 (by decide +kernel) ?_
  refine W.widen (k := 0) (n := 0) (Nat.le_of_ble_eq_true rfl) (Nat.le_of_ble_eq_true rfl) ?_
  exact rtZ hx hb hr rfl hlocks hS hP hD ⟨rfl, rfl⟩ dX12_in_15

set_option maxHeartbeats 4000000 in
set_option maxRecDepth 100000 in
theorem c_X11_writeText_2 (l : Launch) (D : va_G) (cI cZ cB cJ : ClassId) (h0 g0 g1 g2 g3 g4 g5 g6 g7 g8 g9 : Nat) (s0 s1 : Int32) (s0l : ((-2147483648) : Int) ≤ s0.toInt) (s0h : s0.toInt ≤ ((-1) : Int)) (s1l : (1 : Int) ≤ s1.toInt) (s1h : s1.toInt ≤ (2147483647 : Int)) : CtI l D (TT cI cZ cB cJ) yX11_writeText cX11_writeText 5 (some .boolean) 1 21 0 0 [.ref h0, .int s0, .int s1] [(h0, .inr (11, [.ref g0, .int 0, .ref g1, .ref g2, .ref g3, .ref g4, .ref g5, .ref g6, .ref g7, .ref g8, .ref g9]))] (fun r w1 => r = 0 ∧ w1 = [(h0, .inr (11, [.ref g0, .int 0, .ref g1, .ref g2, .ref g3, .ref g4, .ref g5, .ref g6, .ref g7, .ref g8, .ref g9]))]) := by
  refine CtI.of (by decide +kernel) (Nat.le_of_ble_eq_true rfl) ?_
  intro p e s m below meth c A ls hx hb hr hml hown hts hnw hlocks hin hA hS hP hK hD hl
  have hown : s.vm.findClass RX11 = some m.cls := hown
  have hl : lv_has ls 5 [(0, .ref h0), (1, .int s0), (2, .int s1)] := hl
  refine lv_iload_n hx hb dX11_writeText_0 rfl (lv_at hl 2 rfl) ?_
  refine lv_if_lt (tgt := 13) hx hb dX11_writeText_1 (by decide) (fun h9 => absurd h9 (iv_nlt s1l (by decide +kernel : (0 : Int32).toInt ≤ (0 : Int)) (by decide))) (fun _ => ?_)
  refine lv_iload_n hx hb dX11_writeText_4 rfl (lv_at hl 2 rfl) ?_
  refine lv_aload_n hx hb dX11_writeText_5 rfl (lv_at hl 0 rfl) ?_
  refine lv_iload_n hx hb dX11_writeText_6 rfl (lv_at hl 1 rfl) ?_
  refine kVi (As := [.int s0]) (rest := [.int s1]) (wr := []) hx hb hml hown hts hnw hK hP hD hS hA hl.1 (c_X11_textsOf_0 l D cI cZ cB cJ h0 g0 g1 g2 g3 g4 g5 g6 g7 g8 g9 s0 s0l s0h) yk_X11_textsOf wm_857 [0] [] rfl rfl (by decide) (by decide) (by decide) 0 rfl rfl rfl rfl rfl dX11_writeText_7 ⟨Nat.le_of_ble_eq_true rfl, Nat.le_of_ble_eq_true rfl⟩ ⟨Nat.le_of_ble_eq_true rfl, Nat.le_of_ble_eq_true rfl⟩ (Nat.le_of_ble_eq_true rfl) (fun r9 w1 H locs hq9 hP hD hS => ?_)
  obtain ⟨rfl, rfl⟩ := hq9
  have hP : va_P D vwCl [(h0, .inr (11, [.ref g0, .int 0, .ref g1, .ref g2, .ref g3, .ref g4, .ref g5, .ref g6, .ref g7, .ref g8, .ref g9]))] H := hP
  have hD : va_D A [(h0, .inr (11, [.ref g0, .int 0, .ref g1, .ref g2, .ref g3, .ref g4, .ref g5, .ref g6, .ref g7, .ref g8, .ref g9]))] := hD
  refine W.widen (k := 0) (n := 0) (Nat.le_of_ble_eq_true rfl) (Nat.le_of_ble_eq_true rfl) ?_
  refine pcn (b := 10) rfl ?_
  refine lv_icmp_lt (tgt := 15) hx hb dX11_writeText_10 (by decide) (fun h9 => absurd h9 (iv_nlt s1l (by decide +kernel : (0 : Int32).toInt ≤ (0 : Int)) (by decide))) (fun _ => ?_)
  refine lv_iconst (v := 0) hx hb dX11_writeText_13 (by decide +kernel) ?_
  refine W.widen (k := 0) (n := 0) (Nat.le_of_ble_eq_true rfl) (Nat.le_of_ble_eq_true rfl) ?_
  exact rtZ hx hb hr rfl hlocks hS hP hD ⟨rfl, rfl⟩ dX11_writeText_14

set_option maxHeartbeats 4000000 in
set_option maxRecDepth 100000 in
theorem c_X12_manyOf_1 (l : Launch) (D : va_G) (cI cZ cB cJ : ClassId) (h0 g0 g1 g2 g3 g4 g5 g6 g7 g8 g9 g10 g11 g12 g13 g14 g15 g16 g17 g18 g19 g20 g21 g22 g23 g24 g25 g26 g27 g28 g29 g30 g31 g32 g33 g34 g35 g36 g37 g38 g39 g40 g41 g42 g43 g44 g45 g46 g47 g48 g49 g50 g51 g52 g53 g54 g55 g56 g57 g58 g59 g60 g61 g62 g63 g64 g65 g66 g67 g68 g69 : Nat) : CtI l D (TT cI cZ cB cJ) yX12_manyOf cX12_manyOf 2 (some .int) 0 0 0 0 [.ref h0, .int 0] [(h0, .inr (12, [.ref g0, .ref g1, .ref g2, .ref g3, .ref g4, .int 4, .ref g5, .ref g6, .ref g7, .ref g8, .ref g9, .int 0, .ref g10, .ref g11, .ref g12, .ref g13, .ref g14, .ref g15, .ref g16, .ref g17, .int 0, .ref g18, .int 0, .ref g19, .int 0, .int 0, .int 0, .int 0, .int 0, .int 0, .int 0, .int 0, .long 0, .ref g20, .ref g21, .ref g22, .ref g23, .ref g24, .ref g25, .ref g26, .ref g27, .ref g28, .ref g29, .ref g30, .int 0, .int 1, .int 0, .ref g31, .ref g32, .int 0, .ref g33, .ref g34, .ref g35, .ref g36, .int 0, .ref g37, .int 0, .ref g38, .ref g39, .ref g40, .ref g41, .ref g42, .ref g43, .ref g44, .ref g45, .ref g46, .ref g47, .int 0, .int 0, .int 4, .ref g48, .ref g49, .ref g50, .ref g51, .ref g52, .ref g53, .ref g54, .ref g55, .ref g56, .ref g57, .ref g58, .ref g59, .ref g60, .int 0, .int 0, .int 0, .int 0, .int 0, .int 0, .int 0, .int 0, .int 0, .int 0, .int 0, .int 0, .int 0, .int 0, .int 0, .int 0, .int 0, .int 0, .int 0, .int 0, .ref g61, .ref g62, .int 0, .ref g63, .ref g64, .ref g65, .ref g66, .int 0, .int 0, .ref g67, .ref g68, .int 0, .ref g69, .int 0, .int 0]))] (fun r w1 => r = 0 ∧ w1 = [(h0, .inr (12, [.ref g0, .ref g1, .ref g2, .ref g3, .ref g4, .int 4, .ref g5, .ref g6, .ref g7, .ref g8, .ref g9, .int 0, .ref g10, .ref g11, .ref g12, .ref g13, .ref g14, .ref g15, .ref g16, .ref g17, .int 0, .ref g18, .int 0, .ref g19, .int 0, .int 0, .int 0, .int 0, .int 0, .int 0, .int 0, .int 0, .long 0, .ref g20, .ref g21, .ref g22, .ref g23, .ref g24, .ref g25, .ref g26, .ref g27, .ref g28, .ref g29, .ref g30, .int 0, .int 1, .int 0, .ref g31, .ref g32, .int 0, .ref g33, .ref g34, .ref g35, .ref g36, .int 0, .ref g37, .int 0, .ref g38, .ref g39, .ref g40, .ref g41, .ref g42, .ref g43, .ref g44, .ref g45, .ref g46, .ref g47, .int 0, .int 0, .int 4, .ref g48, .ref g49, .ref g50, .ref g51, .ref g52, .ref g53, .ref g54, .ref g55, .ref g56, .ref g57, .ref g58, .ref g59, .ref g60, .int 0, .int 0, .int 0, .int 0, .int 0, .int 0, .int 0, .int 0, .int 0, .int 0, .int 0, .int 0, .int 0, .int 0, .int 0, .int 0, .int 0, .int 0, .int 0, .int 0, .ref g61, .ref g62, .int 0, .ref g63, .ref g64, .ref g65, .ref g66, .int 0, .int 0, .ref g67, .ref g68, .int 0, .ref g69, .int 0, .int 0]))]) := by
  refine CtI.of (by decide +kernel) (Nat.le_of_ble_eq_true rfl) ?_
  intro p e s m below meth c A ls hx hb hr hml hown hts hnw hlocks hin hA hS hP hK hD hl
  have hown : s.vm.findClass RX12 = some m.cls := hown
  have hl : lv_has ls 2 [(0, .ref h0), (1, .int 0)] := hl
  refine lv_iload_n hx hb dX12_manyOf_0 rfl (lv_at hl 1 rfl) ?_
  refine lv_tableIn (off := 51) (tgt := 52) hx hb dX12_manyOf_1 (by decide +kernel) (by decide +kernel) (by decide +kernel) (by decide) ?_
  refine lv_aload_n hx hb dX12_manyOf_52 rfl (lv_at hl 0 rfl) ?_
  refine va_get (D := D) (ci := 12) (v := .int 0) (C := RX12) (T := TX12) (N := 118) hx hb hts inX12 hown hK hP 0 rfl rfl 110 (by decide) (hts _ wm_1477) (fun _ h9 => h9) rfl dX12_manyOf_53 ?_
  refine W.widen (k := 0) (n := 0) (Nat.le_of_ble_eq_true rfl) (Nat.le_of_ble_eq_true rfl) ?_
  exact rtI hx hb hr hlocks hS hP hD ⟨rfl, rfl⟩ dX12_manyOf_56

set_option maxHeartbeats 4000000 in
set_option maxRecDepth 100000 in
theorem c_X11_writeText_3 (l : Launch) (D : va_G) (cI cZ cB cJ : ClassId) (h0 g0 g1 g2 g3 g4 g5 g6 g7 g8 g9 : Nat) (s0 : Int32) (s0l : ((-2147483648) : Int) ≤ s0.toInt) (s0h : s0.toInt ≤ ((-1) : Int)) : CtI l D (TT cI cZ cB cJ) yX11_writeText cX11_writeText 5 (some .boolean) 0 0 0 0 [.ref h0, .int 0, .int s0] [(h0, .inr (11, [.ref g0, .int 0, .ref g1, .ref g2, .ref g3, .ref g4, .ref g5, .ref g6, .ref g7, .ref g8, .ref g9]))] (fun r w1 => r = 0 ∧ w1 = [(h0, .inr (11, [.ref g0, .int 0, .ref g1, .ref g2, .ref g3, .ref g4, .ref g5, .ref g6, .ref g7, .ref g8, .ref g9]))]) := by
  refine CtI.of (by decide +kernel) (Nat.le_of_ble_eq_true rfl) ?_
  intro p e s m below meth c A ls hx hb hr hml hown hts hnw hlocks hin hA hS hP hK hD hl
  have hown : s.vm.findClass RX11 = some m.cls := hown
  have hl : lv_has ls 5 [(0, .ref h0), (1, .int 0), (2, .int s0)] := hl
  refine lv_iload_n hx hb dX11_writeText_0 rfl (lv_at hl 2 rfl) ?_
  refine lv_if_lt (tgt := 13) hx hb dX11_writeText_1 (by decide) (fun _ => ?_) (fun h9 => absurd (iv_lt s0h (by decide +kernel : (0 : Int) ≤ (0 : Int32).toInt) (by decide)) h9)
  refine lv_iconst (v := 0) hx hb dX11_writeText_13 (by decide +kernel) ?_
  refine W.widen (k := 0) (n := 0) (Nat.le_of_ble_eq_true rfl) (Nat.le_of_ble_eq_true rfl) ?_
  exact rtZ hx hb hr rfl hlocks hS hP hD ⟨rfl, rfl⟩ dX11_writeText_14

set_option maxHeartbeats 4000000 in
set_option maxRecDepth 100000 in
theorem c_X11_textsOf_1 (l : Launch) (D : va_G) (cI cZ cB cJ : ClassId) (h0 h1 g0 g1 g2 g3 g4 g5 g6 g7 g8 g9 g10 g11 g12 g13 g14 : Nat) : CtI l D (TT cI cZ cB cJ) yX11_textsOf cX11_textsOf 2 (some .int) 0 0 0 0 [.ref h0, .int 0] [(h0, .inr (11, [.ref g0, .int 0, .ref g1, .ref g2, .ref g3, .ref g4, .ref g5, .ref g6, .ref h1, .ref g7, .ref g8])), (h1, .inr (0, [.ref g9, .ref g10, .ref g11, .ref g12, .ref g13, .ref g14, .int 0, .int 0]))] (fun r w1 => r = 0 ∧ w1 = [(h0, .inr (11, [.ref g0, .int 0, .ref g1, .ref g2, .ref g3, .ref g4, .ref g5, .ref g6, .ref h1, .ref g7, .ref g8])), (h1, .inr (0, [.ref g9, .ref g10, .ref g11, .ref g12, .ref g13, .ref g14, .int 0, .int 0]))]) := by
  refine CtI.of (by decide +kernel) (Nat.le_of_ble_eq_true rfl) ?_
  intro p e s m below meth c A ls hx hb hr hml hown hts hnw hlocks hin hA hS hP hK hD hl
  have hown : s.vm.findClass RX11 = some m.cls := hown
  have hl : lv_has ls 2 [(0, .ref h0), (1, .int 0)] := hl
  refine lv_iload_n hx hb dX11_textsOf_0 rfl (lv_at hl 1 rfl) ?_
  refine lv_tableIn (off := 51) (tgt := 52) hx hb dX11_textsOf_1 (by decide +kernel) (by decide +kernel) (by decide +kernel) (by decide) ?_
  refine lv_aload_n hx hb dX11_textsOf_52 rfl (lv_at hl 0 rfl) ?_
  refine va_get (D := D) (ci := 11) (v := .ref h1) (C := RX11) (T := TX11) (N := 11) hx hb hts inX11 hown hK hP 0 rfl rfl 8 (by decide) (hts _ wm_590) (fun _ h9 => h9) rfl dX11_textsOf_53 ?_
  refine va_getN (D := D) (ci := 0) (v := .int 0) (C := RX0) (T := TX0) (N := 8) hx hb hts inX0 hown hK hP 1 rfl rfl 6 (by decide) (va_Nw.use rfl (hnw _ wn_448)) (fun _ h9 => h9) rfl dX11_textsOf_56 ?_
  refine W.widen (k := 0) (n := 0) (Nat.le_of_ble_eq_true rfl) (Nat.le_of_ble_eq_true rfl) ?_
  exact rtI hx hb hr hlocks hS hP hD ⟨rfl, rfl⟩ dX11_textsOf_59

set_option maxHeartbeats 4000000 in
set_option maxRecDepth 100000 in
theorem c_X11_writeText_4 (l : Launch) (D : va_G) (cI cZ cB cJ : ClassId) (h0 h1 g0 g1 g2 g3 g4 g5 g6 g7 g8 g9 g10 g11 g12 g13 g14 : Nat) : CtI l D (TT cI cZ cB cJ) yX11_writeText cX11_writeText 5 (some .boolean) 1 21 0 0 [.ref h0, .int 0, .int 0] [(h0, .inr (11, [.ref g0, .int 0, .ref g1, .ref g2, .ref g3, .ref g4, .ref g5, .ref g6, .ref h1, .ref g7, .ref g8])), (h1, .inr (0, [.ref g9, .ref g10, .ref g11, .ref g12, .ref g13, .ref g14, .int 0, .int 0]))] (fun r w1 => r = 0 ∧ w1 = [(h0, .inr (11, [.ref g0, .int 0, .ref g1, .ref g2, .ref g3, .ref g4, .ref g5, .ref g6, .ref h1, .ref g7, .ref g8])), (h1, .inr (0, [.ref g9, .ref g10, .ref g11, .ref g12, .ref g13, .ref g14, .int 0, .int 0]))]) := by
  refine CtI.of (by decide +kernel) (Nat.le_of_ble_eq_true rfl) ?_
  intro p e s m below meth c A ls hx hb hr hml hown hts hnw hlocks hin hA hS hP hK hD hl
  have hown : s.vm.findClass RX11 = some m.cls := hown
  have hl : lv_has ls 5 [(0, .ref h0), (1, .int 0), (2, .int 0)] := hl
  refine lv_iload_n hx hb dX11_writeText_0 rfl (lv_at hl 2 rfl) ?_
  refine lv_if_lt (tgt := 13) hx hb dX11_writeText_1 (by decide) (fun h9 => absurd h9 (by decide +kernel)) (fun _ => ?_)
  refine lv_iload_n hx hb dX11_writeText_4 rfl (lv_at hl 2 rfl) ?_
  refine lv_aload_n hx hb dX11_writeText_5 rfl (lv_at hl 0 rfl) ?_
  refine lv_iload_n hx hb dX11_writeText_6 rfl (lv_at hl 1 rfl) ?_
  refine kVi (As := [.int 0]) (rest := [.int 0]) (wr := []) hx hb hml hown hts hnw hK hP hD hS hA hl.1 (c_X11_textsOf_1 l D cI cZ cB cJ h0 h1 g0 g1 g2 g3 g4 g5 g6 g7 g8 g9 g10 g11 g12 g13 g14) yk_X11_textsOf wm_857 [0, 1] [] rfl rfl (by decide) (by decide) (by decide) 0 rfl rfl rfl rfl rfl dX11_writeText_7 ⟨Nat.le_of_ble_eq_true rfl, Nat.le_of_ble_eq_true rfl⟩ ⟨Nat.le_of_ble_eq_true rfl, Nat.le_of_ble_eq_true rfl⟩ (Nat.le_of_ble_eq_true rfl) (fun r9 w1 H locs hq9 hP hD hS => ?_)
  obtain ⟨rfl, rfl⟩ := hq9
  have hP : va_P D vwCl [(h0, .inr (11, [.ref g0, .int 0, .ref g1, .ref g2, .ref g3, .ref g4, .ref g5, .ref g6, .ref h1, .ref g7, .ref g8])), (h1, .inr (0, [.ref g9, .ref g10, .ref g11, .ref g12, .ref g13, .ref g14, .int 0, .int 0]))] H := hP
  have hD : va_D A [(h0, .inr (11, [.ref g0, .int 0, .ref g1, .ref g2, .ref g3, .ref g4, .ref g5, .ref g6, .ref h1, .ref g7, .ref g8])), (h1, .inr (0, [.ref g9, .ref g10, .ref g11, .ref g12, .ref g13, .ref g14, .int 0, .int 0]))] := hD
  refine W.widen (k := 0) (n := 0) (Nat.le_of_ble_eq_true rfl) (Nat.le_of_ble_eq_true rfl) ?_
  refine pcn (b := 10) rfl ?_
  refine lv_icmp_lt (tgt := 15) hx hb dX11_writeText_10 (by decide) (fun h9 => absurd h9 (by decide +kernel)) (fun _ => ?_)
  refine lv_iconst (v := 0) hx hb dX11_writeText_13 (by decide +kernel) ?_
  refine W.widen (k := 0) (n := 0) (Nat.le_of_ble_eq_true rfl) (Nat.le_of_ble_eq_true rfl) ?_
  exact rtZ hx hb hr rfl hlocks hS hP hD ⟨rfl, rfl⟩ dX11_writeText_14

set_option maxHeartbeats 4000000 in
set_option maxRecDepth 100000 in
theorem c_X11_writeText_5 (l : Launch) (D : va_G) (cI cZ cB cJ : ClassId) (h0 h1 g0 g1 g2 g3 g4 g5 g6 g7 g8 g9 g10 g11 g12 g13 g14 : Nat) (s0 : Int32) (s0l : (1 : Int) ≤ s0.toInt) (s0h : s0.toInt ≤ (2147483647 : Int)) : CtI l D (TT cI cZ cB cJ) yX11_writeText cX11_writeText 5 (some .boolean) 1 21 0 0 [.ref h0, .int 0, .int s0] [(h0, .inr (11, [.ref g0, .int 0, .ref g1, .ref g2, .ref g3, .ref g4, .ref g5, .ref g6, .ref h1, .ref g7, .ref g8])), (h1, .inr (0, [.ref g9, .ref g10, .ref g11, .ref g12, .ref g13, .ref g14, .int 0, .int 0]))] (fun r w1 => r = 0 ∧ w1 = [(h0, .inr (11, [.ref g0, .int 0, .ref g1, .ref g2, .ref g3, .ref g4, .ref g5, .ref g6, .ref h1, .ref g7, .ref g8])), (h1, .inr (0, [.ref g9, .ref g10, .ref g11, .ref g12, .ref g13, .ref g14, .int 0, .int 0]))]) := by
  refine CtI.of (by decide +kernel) (Nat.le_of_ble_eq_true rfl) ?_
  intro p e s m below meth c A ls hx hb hr hml hown hts hnw hlocks hin hA hS hP hK hD hl
  have hown : s.vm.findClass RX11 = some m.cls := hown
  have hl : lv_has ls 5 [(0, .ref h0), (1, .int 0), (2, .int s0)] := hl
  refine lv_iload_n hx hb dX11_writeText_0 rfl (lv_at hl 2 rfl) ?_
  refine lv_if_lt (tgt := 13) hx hb dX11_writeText_1 (by decide) (fun h9 => absurd h9 (iv_nlt s0l (by decide +kernel : (0 : Int32).toInt ≤ (0 : Int)) (by decide))) (fun _ => ?_)
  refine lv_iload_n hx hb dX11_writeText_4 rfl (lv_at hl 2 rfl) ?_
  refine lv_aload_n hx hb dX11_writeText_5 rfl (lv_at hl 0 rfl) ?_
  refine lv_iload_n hx hb dX11_writeText_6 rfl (lv_at hl 1 rfl) ?_
  refine kVi (As := [.int 0]) (rest := [.int s0]) (wr := []) hx hb hml hown hts hnw hK hP hD hS hA hl.1 (c_X11_textsOf_1 l D cI cZ cB cJ h0 h1 g0 g1 g2 g3 g4 g5 g6 g7 g8 g9 g10 g11 g12 g13 g14) yk_X11_textsOf wm_857 [0, 1] [] rfl rfl (by decide) (by decide) (by decide) 0 rfl rfl rfl rfl rfl dX11_writeText_7 ⟨Nat.le_of_ble_eq_true rfl, Nat.le_of_ble_eq_true rfl⟩ ⟨Nat.le_of_ble_eq_true rfl, Nat.le_of_ble_eq_true rfl⟩ (Nat.le_of_ble_eq_true rfl) (fun r9 w1 H locs hq9 hP hD hS => ?_)
  obtain ⟨rfl, rfl⟩ := hq9
  have hP : va_P D vwCl [(h0, .inr (11, [.ref g0, .int 0, .ref g1, .ref g2, .ref g3, .ref g4, .ref g5, .ref g6, .ref h1, .ref g7, .ref g8])), (h1, .inr (0, [.ref g9, .ref g10, .ref g11, .ref g12, .ref g13, .ref g14, .int 0, .int 0]))] H := hP
  have hD : va_D A [(h0, .inr (11, [.ref g0, .int 0, .ref g1, .ref g2, .ref g3, .ref g4, .ref g5, .ref g6, .ref h1, .ref g7, .ref g8])), (h1, .inr (0, [.ref g9, .ref g10, .ref g11, .ref g12, .ref g13, .ref g14, .int 0, .int 0]))] := hD
  refine W.widen (k := 0) (n := 0) (Nat.le_of_ble_eq_true rfl) (Nat.le_of_ble_eq_true rfl) ?_
  refine pcn (b := 10) rfl ?_
  refine lv_icmp_lt (tgt := 15) hx hb dX11_writeText_10 (by decide) (fun h9 => absurd h9 (iv_nlt s0l (by decide +kernel : (0 : Int32).toInt ≤ (0 : Int)) (by decide))) (fun _ => ?_)
  refine lv_iconst (v := 0) hx hb dX11_writeText_13 (by decide +kernel) ?_
  refine W.widen (k := 0) (n := 0) (Nat.le_of_ble_eq_true rfl) (Nat.le_of_ble_eq_true rfl) ?_
  exact rtZ hx hb hr rfl hlocks hS hP hD ⟨rfl, rfl⟩ dX11_writeText_14

set_option maxHeartbeats 4000000 in
set_option maxRecDepth 100000 in
theorem c_X12_manyOf_2 (l : Launch) (D : va_G) (cI cZ cB cJ : ClassId) (h0 h1 g0 g1 g2 g3 g4 g5 g6 g7 g8 g9 g10 g11 g12 g13 g14 g15 g16 g17 g18 g19 g20 g21 g22 g23 g24 g25 g26 g27 g28 g29 g30 g31 g32 g33 g34 g35 g36 g37 g38 g39 g40 g41 g42 g43 g44 g45 g46 g47 g48 g49 g50 g51 g52 g53 g54 g55 g56 g57 g58 g59 g60 g61 g62 g63 g64 g65 g66 g67 g68 : Nat) : CtI l D (TT cI cZ cB cJ) yX12_manyOf cX12_manyOf 2 (some .int) 0 0 0 0 [.ref h0, .int 1] [(h0, .inr (12, [.ref g0, .ref g1, .ref g2, .ref g3, .ref g4, .int 4, .ref g5, .ref g6, .ref g7, .ref g8, .ref g9, .int 0, .ref g10, .ref g11, .ref g12, .ref g13, .ref g14, .ref g15, .ref g16, .ref g17, .int 0, .ref g18, .int 0, .ref g19, .int 0, .int 0, .int 0, .int 0, .int 0, .int 0, .int 0, .int 0, .long 0, .ref g20, .ref g21, .ref g22, .ref g23, .ref g24, .ref g25, .ref g26, .ref g27, .ref h1, .ref g28, .ref g29, .int 0, .int 1, .int 0, .ref g30, .ref g31, .int 0, .ref g32, .ref g33, .ref g34, .ref g35, .int 0, .ref g36, .int 0, .ref g37, .ref g38, .ref g39, .ref g40, .ref g41, .ref g42, .ref g43, .ref g44, .ref g45, .ref g46, .int 0, .int 0, .int 4, .ref g47, .ref g48, .ref g49, .ref g50, .ref g51, .ref g52, .ref g53, .ref g54, .ref g55, .ref g56, .ref g57, .ref g58, .ref g59, .int 0, .int 0, .int 0, .int 0, .int 0, .int 0, .int 0, .int 0, .int 0, .int 0, .int 0, .int 0, .int 0, .int 0, .int 0, .int 0, .int 0, .int 0, .int 0, .int 0, .ref g60, .ref g61, .int 0, .ref g62, .ref g63, .ref g64, .ref g65, .int 0, .int 0, .ref g66, .ref g67, .int 0, .ref g68, .int 0, .int 0])), (h1, .inl (cI, 2, .inl (upd (fun _ => 0) 0 1)))] (fun r w1 => r = 1 ∧ w1 = [(h0, .inr (12, [.ref g0, .ref g1, .ref g2, .ref g3, .ref g4, .int 4, .ref g5, .ref g6, .ref g7, .ref g8, .ref g9, .int 0, .ref g10, .ref g11, .ref g12, .ref g13, .ref g14, .ref g15, .ref g16, .ref g17, .int 0, .ref g18, .int 0, .ref g19, .int 0, .int 0, .int 0, .int 0, .int 0, .int 0, .int 0, .int 0, .long 0, .ref g20, .ref g21, .ref g22, .ref g23, .ref g24, .ref g25, .ref g26, .ref g27, .ref h1, .ref g28, .ref g29, .int 0, .int 1, .int 0, .ref g30, .ref g31, .int 0, .ref g32, .ref g33, .ref g34, .ref g35, .int 0, .ref g36, .int 0, .ref g37, .ref g38, .ref g39, .ref g40, .ref g41, .ref g42, .ref g43, .ref g44, .ref g45, .ref g46, .int 0, .int 0, .int 4, .ref g47, .ref g48, .ref g49, .ref g50, .ref g51, .ref g52, .ref g53, .ref g54, .ref g55, .ref g56, .ref g57, .ref g58, .ref g59, .int 0, .int 0, .int 0, .int 0, .int 0, .int 0, .int 0, .int 0, .int 0, .int 0, .int 0, .int 0, .int 0, .int 0, .int 0, .int 0, .int 0, .int 0, .int 0, .int 0, .ref g60, .ref g61, .int 0, .ref g62, .ref g63, .ref g64, .ref g65, .int 0, .int 0, .ref g66, .ref g67, .int 0, .ref g68, .int 0, .int 0])), (h1, .inl (cI, 2, .inl (upd (fun _ => 0) 0 1)))]) := by
  refine CtI.of (by decide +kernel) (Nat.le_of_ble_eq_true rfl) ?_
  intro p e s m below meth c A ls hx hb hr hml hown hts hnw hlocks hin hA hS hP hK hD hl
  have hown : s.vm.findClass RX12 = some m.cls := hown
  have hl : lv_has ls 2 [(0, .ref h0), (1, .int 1)] := hl
  refine lv_iload_n hx hb dX12_manyOf_0 rfl (lv_at hl 1 rfl) ?_
  refine lv_tableIn (off := 76) (tgt := 77) hx hb dX12_manyOf_1 (by decide +kernel) (by decide +kernel) (by decide +kernel) (by decide) ?_
  refine lv_aload_n hx hb dX12_manyOf_77 rfl (lv_at hl 0 rfl) ?_
  refine va_get (D := D) (ci := 12) (v := .ref h1) (C := RX12) (T := TX12) (N := 118) hx hb hts inX12 hown hK hP 0 rfl rfl 41 (by decide) (hts _ wm_1408) (fun _ h9 => h9) rfl dX12_manyOf_78 ?_
  refine lv_aload_n hx hb dX12_manyOf_81 rfl (lv_at hl 0 rfl) ?_
  refine va_get (D := D) (ci := 12) (v := .int 0) (C := RX12) (T := TX12) (N := 118) hx hb hts inX12 hown hK hP 0 rfl rfl 44 (by decide) (hts _ wm_1411) (fun _ h9 => h9) rfl dX12_manyOf_82 ?_
  refine al_i (x := 1) hx hb hK hP 1 0 rfl rfl (vpi (by decide +kernel)) (by first | decide +kernel | rfl) dX12_manyOf_85 ?_
  refine W.widen (k := 0) (n := 0) (Nat.le_of_ble_eq_true rfl) (Nat.le_of_ble_eq_true rfl) ?_
  exact rtI hx hb hr hlocks hS hP hD ⟨rfl, rfl⟩ dX12_manyOf_86

set_option maxHeartbeats 4000000 in
set_option maxRecDepth 100000 in
theorem c_X11_writeText_6 (l : Launch) (D : va_G) (cI cZ cB cJ : ClassId) (h0 g0 g1 g2 g3 g4 g5 g6 g7 g8 g9 : Nat) (s0 : Int32) (s0l : ((-2147483648) : Int) ≤ s0.toInt) (s0h : s0.toInt ≤ ((-1) : Int)) : CtI l D (TT cI cZ cB cJ) yX11_writeText cX11_writeText 5 (some .boolean) 0 0 0 0 [.ref h0, .int 1, .int s0] [(h0, .inr (11, [.ref g0, .int 0, .ref g1, .ref g2, .ref g3, .ref g4, .ref g5, .ref g6, .ref g7, .ref g8, .ref g9]))] (fun r w1 => r = 0 ∧ w1 = [(h0, .inr (11, [.ref g0, .int 0, .ref g1, .ref g2, .ref g3, .ref g4, .ref g5, .ref g6, .ref g7, .ref g8, .ref g9]))]) := by
  refine CtI.of (by decide +kernel) (Nat.le_of_ble_eq_true rfl) ?_
  intro p e s m below meth c A ls hx hb hr hml hown hts hnw hlocks hin hA hS hP hK hD hl
  have hown : s.vm.findClass RX11 = some m.cls := hown
  have hl : lv_has ls 5 [(0, .ref h0), (1, .int 1), (2, .int s0)] := hl
  refine lv_iload_n hx hb dX11_writeText_0 rfl (lv_at hl 2 rfl) ?_
  refine lv_if_lt (tgt := 13) hx hb dX11_writeText_1 (by decide) (fun _ => ?_) (fun h9 => absurd (iv_lt s0h (by decide +kernel : (0 : Int) ≤ (0 : Int32).toInt) (by decide)) h9)
  refine lv_iconst (v := 0) hx hb dX11_writeText_13 (by decide +kernel) ?_
  refine W.widen (k := 0) (n := 0) (Nat.le_of_ble_eq_true rfl) (Nat.le_of_ble_eq_true rfl) ?_
  exact rtZ hx hb hr rfl hlocks hS hP hD ⟨rfl, rfl⟩ dX11_writeText_14

set_option maxHeartbeats 4000000 in
set_option maxRecDepth 100000 in
theorem c_X10_start_1 (l : Launch) (D : va_G) (cI cZ cB cJ : ClassId) (h0 : Nat) : CtV l D (TT cI cZ cB cJ) yX10_start cX10_start 2 none 0 0 0 0 [.ref h0, .int (-1)] [(h0, .inr (10, [.int 0, .int 0, .int 0]))] (fun w1 => w1 = [(h0, .inr (10, [.int (-1), .int 0, .int (-4)]))]) := by
  refine CtV.of (by decide +kernel) (Nat.le_of_ble_eq_true rfl) ?_
  intro p e s m below meth c A ls hx hb hr hml hown hts hnw hlocks hin hA hS hP hK hD hl
  have hown : s.vm.findClass RX10 = some m.cls := hown
  have hl : lv_has ls 2 [(0, .ref h0), (1, .int (-1))] := hl
  refine lv_aload_n hx hb dX10_start_0 rfl (lv_at hl 0 rfl) ?_
  refine lv_iload_n hx hb dX10_start_1 rfl (lv_at hl 1 rfl) ?_
  refine va_put (D := D) (ci := 10) (v := .int (-1)) (ty := .int) (C := RX10) (T := TX10) (N := 3) hx hb hts inX10 tyX10 tyX10_ok nmX10 hown hK hP hD hS 0 rfl rfl 0 (by decide) (hts _ wm_415) (fun _ h9 => h9) rfl (by decide +kernel) rfl rfl (Nat.le_of_ble_eq_true rfl) dX10_start_2 (fun H locs hP hD hS => ?_)
  have hP : va_P D vwCl [(h0, .inr (10, [.int (-1), .int 0, .int 0]))] H := hP
  have hD : va_D A [(h0, .inr (10, [.int (-1), .int 0, .int 0]))] := hD
  refine lv_aload_n hx hb dX10_start_5 rfl (lv_at hl 0 rfl) ?_
  refine lv_iconst (v := 0) hx hb dX10_start_6 (by decide +kernel) ?_
  refine va_put (D := D) (ci := 10) (v := .int 0) (ty := .int) (C := RX10) (T := TX10) (N := 3) hx hb hts inX10 tyX10 tyX10_ok nmX10 hown hK hP hD hS 0 rfl rfl 1 (by decide) (hts _ wm_416) (fun _ h9 => h9) rfl (by decide +kernel) rfl rfl (Nat.le_of_ble_eq_true rfl) dX10_start_7 (fun H locs hP hD hS => ?_)
  have hP : va_P D vwCl [(h0, .inr (10, [.int (-1), .int 0, .int 0]))] H := hP
  have hD : va_D A [(h0, .inr (10, [.int (-1), .int 0, .int 0]))] := hD
  refine lv_aload_n hx hb dX10_start_10 rfl (lv_at hl 0 rfl) ?_
  refine pcn (b := 11) rfl ?_
  refine lv_bipush (v := (-4)) hx hb dX10_start_11 (by decide +kernel) ?_
  refine va_put (D := D) (ci := 10) (v := .int (-4)) (ty := .int) (C := RX10) (T := TX10) (N := 3) hx hb hts inX10 tyX10 tyX10_ok nmX10 hown hK hP hD hS 0 rfl rfl 2 (by decide) (hts _ wm_418) (fun _ h9 => h9) rfl (by decide +kernel) rfl rfl (Nat.le_of_ble_eq_true rfl) dX10_start_13 (fun H locs hP hD hS => ?_)
  have hP : va_P D vwCl [(h0, .inr (10, [.int (-1), .int 0, .int (-4)]))] H := hP
  have hD : va_D A [(h0, .inr (10, [.int (-1), .int 0, .int (-4)]))] := hD
  refine W.widen (k := 0) (n := 0) (Nat.le_of_ble_eq_true rfl) (Nat.le_of_ble_eq_true rfl) ?_
  exact rtV hx hb hr hlocks hS hP hD rfl dX10_start_16

set_option maxHeartbeats 4000000 in
set_option maxRecDepth 100000 in
theorem c_X11_textsOf_2 (l : Launch) (D : va_G) (cI cZ cB cJ : ClassId) (h0 h1 h2 g0 g1 g2 g3 g4 g5 g6 g7 g8 g9 g10 g11 g12 g13 g14 g15 g16 g17 g18 g19 g20 g21 g22 g23 : Nat) : CtI l D (TT cI cZ cB cJ) yX11_textsOf cX11_textsOf 2 (some .int) 0 0 0 0 [.ref h0, .int 1] [(h0, .inr (11, [.ref g0, .int 0, .ref g1, .ref g2, .ref h1, .ref g3, .ref g4, .ref g5, .ref g6, .ref g7, .ref g8])), (h1, .inr (1, [.ref h2, .ref g9, .ref g10, .ref g11, .ref g12, .ref g13, .ref g14, .int 4, .int 3, .int 0, .int (-1), .int 0])), (h2, .inr (7, [.ref g15, .ref g16, .ref g17, .ref g18, .ref g19, .ref g20, .ref g21, .ref g22, .ref g23, .int 1, .int 1, .int 0]))] (fun r w1 => r = 1 ∧ w1 = [(h0, .inr (11, [.ref g0, .int 0, .ref g1, .ref g2, .ref h1, .ref g3, .ref g4, .ref g5, .ref g6, .ref g7, .ref g8])), (h1, .inr (1, [.ref h2, .ref g9, .ref g10, .ref g11, .ref g12, .ref g13, .ref g14, .int 4, .int 3, .int 0, .int (-1), .int 0])), (h2, .inr (7, [.ref g15, .ref g16, .ref g17, .ref g18, .ref g19, .ref g20, .ref g21, .ref g22, .ref g23, .int 1, .int 1, .int 0]))]) := by
  refine CtI.of (by decide +kernel) (Nat.le_of_ble_eq_true rfl) ?_
  intro p e s m below meth c A ls hx hb hr hml hown hts hnw hlocks hin hA hS hP hK hD hl
  have hown : s.vm.findClass RX11 = some m.cls := hown
  have hl : lv_has ls 2 [(0, .ref h0), (1, .int 1)] := hl
  refine lv_iload_n hx hb dX11_textsOf_0 rfl (lv_at hl 1 rfl) ?_
  refine lv_tableIn (off := 59) (tgt := 60) hx hb dX11_textsOf_1 (by decide +kernel) (by decide +kernel) (by decide +kernel) (by decide) ?_
  refine lv_aload_n hx hb dX11_textsOf_60 rfl (lv_at hl 0 rfl) ?_
  refine va_get (D := D) (ci := 11) (v := .ref h1) (C := RX11) (T := TX11) (N := 11) hx hb hts inX11 hown hK hP 0 rfl rfl 4 (by decide) (hts _ wm_586) (fun _ h9 => h9) rfl dX11_textsOf_61 ?_
  refine va_getN (D := D) (ci := 1) (v := .ref h2) (C := RX1) (T := TX1) (N := 12) hx hb hts inX1 hown hK hP 1 rfl rfl 0 (by decide) (va_Nw.use rfl (hnw _ wn_275)) (fun _ h9 => h9) rfl dX11_textsOf_64 ?_
  refine va_getN (D := D) (ci := 7) (v := .int 1) (C := RX7) (T := TX7) (N := 12) hx hb hts inX7 hown hK hP 2 rfl rfl 9 (by decide) (va_Nw.use rfl (hnw _ wn_100)) (fun _ h9 => h9) rfl dX11_textsOf_67 ?_
  refine W.widen (k := 0) (n := 0) (Nat.le_of_ble_eq_true rfl) (Nat.le_of_ble_eq_true rfl) ?_
  exact rtI hx hb hr hlocks hS hP hD ⟨rfl, rfl⟩ dX11_textsOf_70

set_option maxHeartbeats 4000000 in
set_option maxRecDepth 100000 in
theorem c_X10_sign_0 (l : Launch) (D : va_G) (cI cZ cB cJ : ClassId) (h0 : Nat) : CtV l D (TT cI cZ cB cJ) yX10_sign cX10_sign 2 none 0 0 0 0 [.ref h0, .int 105] [(h0, .inr (10, [.int (-1), .int 0, .int (-4)]))] (fun w1 => w1 = [(h0, .inr (10, [.int (-1), .int 1, .int (-4)]))]) := by
  refine CtV.of (by decide +kernel) (Nat.le_of_ble_eq_true rfl) ?_
  intro p e s m below meth c A ls hx hb hr hml hown hts hnw hlocks hin hA hS hP hK hD hl
  have hown : s.vm.findClass RX10 = some m.cls := hown
  have hl : lv_has ls 2 [(0, .ref h0), (1, .int 105)] := hl
  refine lv_aload_n hx hb dX10_sign_0 rfl (lv_at hl 0 rfl) ?_
  refine va_get (D := D) (ci := 10) (v := .int 0) (C := RX10) (T := TX10) (N := 3) hx hb hts inX10 hown hK hP 0 rfl rfl 1 (by decide) (hts _ wm_416) (fun _ h9 => h9) rfl dX10_sign_1 ?_
  refine lv_sipush (v := 3000) hx hb dX10_sign_4 (by decide +kernel) ?_
  refine lv_icmp_lt (tgt := 11) hx hb dX10_sign_7 (by decide) (fun _ => ?_) (fun h9 => absurd (by decide +kernel) h9)
  refine lv_aload_n hx hb dX10_sign_11 rfl (lv_at hl 0 rfl) ?_
  refine va_get (D := D) (ci := 10) (v := .int 0) (C := RX10) (T := TX10) (N := 3) hx hb hts inX10 hown hK hP 0 rfl rfl 1 (by decide) (hts _ wm_416) (fun _ h9 => h9) rfl dX10_sign_12 ?_
  refine lv_aload_n hx hb dX10_sign_15 rfl (lv_at hl 0 rfl) ?_
  refine va_get (D := D) (ci := 10) (v := .int (-1)) (C := RX10) (T := TX10) (N := 3) hx hb hts inX10 hown hK hP 0 rfl rfl 0 (by decide) (hts _ wm_415) (fun _ h9 => h9) rfl dX10_sign_16 ?_
  refine lv_icmp_ne (tgt := 27) hx hb dX10_sign_19 (by decide) (fun _ => ?_) (fun h9 => absurd h9 (by decide +kernel))
  refine lv_aload_n hx hb dX10_sign_27 rfl (lv_at hl 0 rfl) ?_
  refine lv_dup hx hb dX10_sign_28 rfl ?_
  refine va_get (D := D) (ci := 10) (v := .int 0) (C := RX10) (T := TX10) (N := 3) hx hb hts inX10 hown hK hP 0 rfl rfl 1 (by decide) (hts _ wm_416) (fun _ h9 => h9) rfl dX10_sign_29 ?_
  refine lv_iconst (v := 1) hx hb dX10_sign_32 (by decide +kernel) ?_
  refine lv_iadd hx hb dX10_sign_33 ?_
  refine nrm (y := 1) (by decide +kernel) ?_
  refine va_put (D := D) (ci := 10) (v := .int 1) (ty := .int) (C := RX10) (T := TX10) (N := 3) hx hb hts inX10 tyX10 tyX10_ok nmX10 hown hK hP hD hS 0 rfl rfl 1 (by decide) (hts _ wm_416) (fun _ h9 => h9) rfl (by decide +kernel) rfl rfl (Nat.le_of_ble_eq_true rfl) dX10_sign_34 (fun H locs hP hD hS => ?_)
  have hP : va_P D vwCl [(h0, .inr (10, [.int (-1), .int 1, .int (-4)]))] H := hP
  have hD : va_D A [(h0, .inr (10, [.int (-1), .int 1, .int (-4)]))] := hD
  refine W.widen (k := 0) (n := 0) (Nat.le_of_ble_eq_true rfl) (Nat.le_of_ble_eq_true rfl) ?_
  exact rtV hx hb hr hlocks hS hP hD rfl dX10_sign_37

set_option maxHeartbeats 4000000 in
set_option maxRecDepth 100000 in
theorem c_X10_sign_1 (l : Launch) (D : va_G) (cI cZ cB cJ : ClassId) (h0 : Nat) : CtV l D (TT cI cZ cB cJ) yX10_sign cX10_sign 2 none 0 0 0 0 [.ref h0, .int 110] [(h0, .inr (10, [.int (-1), .int 1, .int (-4)]))] (fun w1 => w1 = [(h0, .inr (10, [.int (-1), .int 2, .int (-4)]))]) := by
  refine CtV.of (by decide +kernel) (Nat.le_of_ble_eq_true rfl) ?_
  intro p e s m below meth c A ls hx hb hr hml hown hts hnw hlocks hin hA hS hP hK hD hl
  have hown : s.vm.findClass RX10 = some m.cls := hown
  have hl : lv_has ls 2 [(0, .ref h0), (1, .int 110)] := hl
  refine lv_aload_n hx hb dX10_sign_0 rfl (lv_at hl 0 rfl) ?_
  refine va_get (D := D) (ci := 10) (v := .int 1) (C := RX10) (T := TX10) (N := 3) hx hb hts inX10 hown hK hP 0 rfl rfl 1 (by decide) (hts _ wm_416) (fun _ h9 => h9) rfl dX10_sign_1 ?_
  refine lv_sipush (v := 3000) hx hb dX10_sign_4 (by decide +kernel) ?_
  refine lv_icmp_lt (tgt := 11) hx hb dX10_sign_7 (by decide) (fun _ => ?_) (fun h9 => absurd (by decide +kernel) h9)
  refine lv_aload_n hx hb dX10_sign_11 rfl (lv_at hl 0 rfl) ?_
  refine va_get (D := D) (ci := 10) (v := .int 1) (C := RX10) (T := TX10) (N := 3) hx hb hts inX10 hown hK hP 0 rfl rfl 1 (by decide) (hts _ wm_416) (fun _ h9 => h9) rfl dX10_sign_12 ?_
  refine lv_aload_n hx hb dX10_sign_15 rfl (lv_at hl 0 rfl) ?_
  refine va_get (D := D) (ci := 10) (v := .int (-1)) (C := RX10) (T := TX10) (N := 3) hx hb hts inX10 hown hK hP 0 rfl rfl 0 (by decide) (hts _ wm_415) (fun _ h9 => h9) rfl dX10_sign_16 ?_
  refine lv_icmp_ne (tgt := 27) hx hb dX10_sign_19 (by decide) (fun _ => ?_) (fun h9 => absurd h9 (by decide +kernel))
  refine lv_aload_n hx hb dX10_sign_27 rfl (lv_at hl 0 rfl) ?_
  refine lv_dup hx hb dX10_sign_28 rfl ?_
  refine va_get (D := D) (ci := 10) (v := .int 1) (C := RX10) (T := TX10) (N := 3) hx hb hts inX10 hown hK hP 0 rfl rfl 1 (by decide) (hts _ wm_416) (fun _ h9 => h9) rfl dX10_sign_29 ?_
  refine lv_iconst (v := 1) hx hb dX10_sign_32 (by decide +kernel) ?_
  refine lv_iadd hx hb dX10_sign_33 ?_
  refine nrm (y := 2) (by decide +kernel) ?_
  refine va_put (D := D) (ci := 10) (v := .int 2) (ty := .int) (C := RX10) (T := TX10) (N := 3) hx hb hts inX10 tyX10 tyX10_ok nmX10 hown hK hP hD hS 0 rfl rfl 1 (by decide) (hts _ wm_416) (fun _ h9 => h9) rfl (by decide +kernel) rfl rfl (Nat.le_of_ble_eq_true rfl) dX10_sign_34 (fun H locs hP hD hS => ?_)
  have hP : va_P D vwCl [(h0, .inr (10, [.int (-1), .int 2, .int (-4)]))] H := hP
  have hD : va_D A [(h0, .inr (10, [.int (-1), .int 2, .int (-4)]))] := hD
  refine W.widen (k := 0) (n := 0) (Nat.le_of_ble_eq_true rfl) (Nat.le_of_ble_eq_true rfl) ?_
  exact rtV hx hb hr hlocks hS hP hD rfl dX10_sign_37

set_option maxHeartbeats 4000000 in
set_option maxRecDepth 100000 in
theorem c_X10_sign_2 (l : Launch) (D : va_G) (cI cZ cB cJ : ClassId) (h0 : Nat) : CtV l D (TT cI cZ cB cJ) yX10_sign cX10_sign 2 none 0 0 0 0 [.ref h0, .int 116] [(h0, .inr (10, [.int (-1), .int 2, .int (-4)]))] (fun w1 => w1 = [(h0, .inr (10, [.int (-1), .int 3, .int (-4)]))]) := by
  refine CtV.of (by decide +kernel) (Nat.le_of_ble_eq_true rfl) ?_
  intro p e s m below meth c A ls hx hb hr hml hown hts hnw hlocks hin hA hS hP hK hD hl
  have hown : s.vm.findClass RX10 = some m.cls := hown
  have hl : lv_has ls 2 [(0, .ref h0), (1, .int 116)] := hl
  refine lv_aload_n hx hb dX10_sign_0 rfl (lv_at hl 0 rfl) ?_
  refine va_get (D := D) (ci := 10) (v := .int 2) (C := RX10) (T := TX10) (N := 3) hx hb hts inX10 hown hK hP 0 rfl rfl 1 (by decide) (hts _ wm_416) (fun _ h9 => h9) rfl dX10_sign_1 ?_
  refine lv_sipush (v := 3000) hx hb dX10_sign_4 (by decide +kernel) ?_
  refine lv_icmp_lt (tgt := 11) hx hb dX10_sign_7 (by decide) (fun _ => ?_) (fun h9 => absurd (by decide +kernel) h9)
  refine lv_aload_n hx hb dX10_sign_11 rfl (lv_at hl 0 rfl) ?_
  refine va_get (D := D) (ci := 10) (v := .int 2) (C := RX10) (T := TX10) (N := 3) hx hb hts inX10 hown hK hP 0 rfl rfl 1 (by decide) (hts _ wm_416) (fun _ h9 => h9) rfl dX10_sign_12 ?_
  refine lv_aload_n hx hb dX10_sign_15 rfl (lv_at hl 0 rfl) ?_
  refine va_get (D := D) (ci := 10) (v := .int (-1)) (C := RX10) (T := TX10) (N := 3) hx hb hts inX10 hown hK hP 0 rfl rfl 0 (by decide) (hts _ wm_415) (fun _ h9 => h9) rfl dX10_sign_16 ?_
  refine lv_icmp_ne (tgt := 27) hx hb dX10_sign_19 (by decide) (fun _ => ?_) (fun h9 => absurd h9 (by decide +kernel))
  refine lv_aload_n hx hb dX10_sign_27 rfl (lv_at hl 0 rfl) ?_
  refine lv_dup hx hb dX10_sign_28 rfl ?_
  refine va_get (D := D) (ci := 10) (v := .int 2) (C := RX10) (T := TX10) (N := 3) hx hb hts inX10 hown hK hP 0 rfl rfl 1 (by decide) (hts _ wm_416) (fun _ h9 => h9) rfl dX10_sign_29 ?_
  refine lv_iconst (v := 1) hx hb dX10_sign_32 (by decide +kernel) ?_
  refine lv_iadd hx hb dX10_sign_33 ?_
  refine nrm (y := 3) (by decide +kernel) ?_
  refine va_put (D := D) (ci := 10) (v := .int 3) (ty := .int) (C := RX10) (T := TX10) (N := 3) hx hb hts inX10 tyX10 tyX10_ok nmX10 hown hK hP hD hS 0 rfl rfl 1 (by decide) (hts _ wm_416) (fun _ h9 => h9) rfl (by decide +kernel) rfl rfl (Nat.le_of_ble_eq_true rfl) dX10_sign_34 (fun H locs hP hD hS => ?_)
  have hP : va_P D vwCl [(h0, .inr (10, [.int (-1), .int 3, .int (-4)]))] H := hP
  have hD : va_D A [(h0, .inr (10, [.int (-1), .int 3, .int (-4)]))] := hD
  refine W.widen (k := 0) (n := 0) (Nat.le_of_ble_eq_true rfl) (Nat.le_of_ble_eq_true rfl) ?_
  exact rtV hx hb hr hlocks hS hP hD rfl dX10_sign_37

set_option maxHeartbeats 4000000 in
set_option maxRecDepth 100000 in
theorem c_X10_word_0 (l : Launch) (D : va_G) (cI cZ cB cJ : ClassId) (ak kv : Nat) (fo : Option Nat) (h0 : Nat) : CtVS ak kv fo l D (TT cI cZ cB cJ) yX10_word cX10_word 3 none 4 85 0 0 [.ref h0, .ref ak] [(h0, .inr (10, [.int (-1), .int 0, .int (-4)]))] (fun w1 => w1 = [(h0, .inr (10, [.int (-1), .int 3, .int (-4)]))]) := by
  refine CtVS.of (by decide +kernel) (Nat.le_of_ble_eq_true rfl) ?_
  intro p e s m below meth c A ls hSX hx hb hr hml hown hts hnw hlocks hin hA hS hP hK hD hl
  have hown : s.vm.findClass RX10 = some m.cls := hown
  have hl : lv_has ls 3 [(0, .ref h0), (1, .ref ak)] := hl
  refine lv_iconst (v := 0) hx hb dX10_word_0 (by decide +kernel) ?_
  refine lv_istore_n (lv' := [(2, .int 0), (0, .ref h0), (1, .ref ak)]) hx hb dX10_word_1 rfl hl (by decide) rfl (fun ls hl => ?_)
  refine lv_iload_n hx hb dX10_word_2 rfl (lv_at hl 0 rfl) ?_
  refine lv_aload_n hx hb dX10_word_3 rfl (lv_at hl 2 rfl) ?_
  refine zVi (As := []) (rest := [.int 0]) (wr := [(h0, .inr (10, [.int (-1), .int 0, .int (-4)]))]) hSX hx hb hml hown hts hnw hK hP hD hS hA hl.1 (c_length l D cI cZ cB cJ ak kv fo) yk_J0_length_8abf5 wm_875 [] [0] rfl rfl (by decide) (by decide) (by decide) (hSX.recv hS) rfl rfl dX10_word_4 ⟨Nat.le_of_ble_eq_true rfl, Nat.le_of_ble_eq_true rfl⟩ ⟨Nat.le_of_ble_eq_true rfl, Nat.le_of_ble_eq_true rfl⟩ (Nat.le_of_ble_eq_true rfl) (fun r9 w1 H locs hq9 hP hD hS => ?_)
  obtain ⟨rfl, rfl⟩ := hq9
  have hP : va_P D vwCl [(h0, .inr (10, [.int (-1), .int 0, .int (-4)]))] H := hP
  have hD : va_D A [(h0, .inr (10, [.int (-1), .int 0, .int (-4)]))] := hD
  refine W.widen (k := 0) (n := 0) (Nat.le_of_ble_eq_true rfl) (Nat.le_of_ble_eq_true rfl) ?_
  refine pcn (b := 7) rfl ?_
  refine lv_icmp_ge (tgt := 25) hx hb dX10_word_7 (by decide) (fun h9 => absurd h9 (by decide +kernel)) (fun _ => ?_)
  refine lv_aload_n hx hb dX10_word_10 rfl (lv_at hl 1 rfl) ?_
  refine lv_aload_n hx hb dX10_word_11 rfl (lv_at hl 2 rfl) ?_
  refine lv_iload_n hx hb dX10_word_12 rfl (lv_at hl 0 rfl) ?_
  refine zVi (As := [.int 0]) (rest := [.ref h0]) (wr := [(h0, .inr (10, [.int (-1), .int 0, .int (-4)]))]) hSX hx hb hml hown hts hnw hK hP hD hS hA hl.1 (c_charAt0 l D cI cZ cB cJ ak kv fo) yk_J0_charAt_5068e wm_885 [] [0] rfl rfl (by decide) (by decide) (by decide) (hSX.recv hS) rfl rfl dX10_word_13 ⟨Nat.le_of_ble_eq_true rfl, Nat.le_of_ble_eq_true rfl⟩ ⟨Nat.le_of_ble_eq_true rfl, Nat.le_of_ble_eq_true rfl⟩ (Nat.le_of_ble_eq_true rfl) (fun r9 w1 H locs hq9 hP hD hS => ?_)
  obtain ⟨rfl, rfl⟩ := hq9
  have hP : va_P D vwCl [(h0, .inr (10, [.int (-1), .int 0, .int (-4)]))] H := hP
  have hD : va_D A [(h0, .inr (10, [.int (-1), .int 0, .int (-4)]))] := hD
  refine W.widen (k := 0) (n := 0) (Nat.le_of_ble_eq_true rfl) (Nat.le_of_ble_eq_true rfl) ?_
  refine pcn (b := 16) rfl ?_
  refine kVv (As := [.int 105]) (rest := []) (wr := []) hx hb hml hown hts hnw hK hP hD hS hA hl.1 (c_X10_sign_0 l D cI cZ cB cJ h0) yk_X10_sign wm_866 [0] [] rfl rfl (by decide) (by decide) (by decide) 0 rfl rfl rfl rfl rfl dX10_word_16 ⟨Nat.le_of_ble_eq_true rfl, Nat.le_of_ble_eq_true rfl⟩ ⟨Nat.le_of_ble_eq_true rfl, Nat.le_of_ble_eq_true rfl⟩ (Nat.le_of_ble_eq_true rfl) (fun w1 H locs hq9 hP hD hS => ?_)
  obtain rfl := hq9
  have hP : va_P D vwCl [(h0, .inr (10, [.int (-1), .int 1, .int (-4)]))] H := hP
  have hD : va_D A [(h0, .inr (10, [.int (-1), .int 1, .int (-4)]))] := hD
  refine W.widen (k := 0) (n := 0) (Nat.le_of_ble_eq_true rfl) (Nat.le_of_ble_eq_true rfl) ?_
  refine pcn (b := 19) rfl ?_
  refine lv_iinc (v := 1) (lv' := [(2, .int 1), (0, .ref h0), (1, .ref ak)]) hx hb dX10_word_19 hl (k := 0) rfl (by decide +kernel) (by decide) rfl (fun ls hl => ?_)
  refine lv_goto (tgt := 2) hx hb dX10_word_22 (by decide) ?_
  refine lv_iload_n hx hb dX10_word_2 rfl (lv_at hl 0 rfl) ?_
  refine lv_aload_n hx hb dX10_word_3 rfl (lv_at hl 2 rfl) ?_
  refine zVi (As := []) (rest := [.int 1]) (wr := [(h0, .inr (10, [.int (-1), .int 1, .int (-4)]))]) hSX hx hb hml hown hts hnw hK hP hD hS hA hl.1 (c_length l D cI cZ cB cJ ak kv fo) yk_J0_length_8abf5 wm_875 [] [0] rfl rfl (by decide) (by decide) (by decide) (hSX.recv hS) rfl rfl dX10_word_4 ⟨Nat.le_of_ble_eq_true rfl, Nat.le_of_ble_eq_true rfl⟩ ⟨Nat.le_of_ble_eq_true rfl, Nat.le_of_ble_eq_true rfl⟩ (Nat.le_of_ble_eq_true rfl) (fun r9 w1 H locs hq9 hP hD hS => ?_)
  obtain ⟨rfl, rfl⟩ := hq9
  have hP : va_P D vwCl [(h0, .inr (10, [.int (-1), .int 1, .int (-4)]))] H := hP
  have hD : va_D A [(h0, .inr (10, [.int (-1), .int 1, .int (-4)]))] := hD
  refine W.widen (k := 0) (n := 0) (Nat.le_of_ble_eq_true rfl) (Nat.le_of_ble_eq_true rfl) ?_
  refine pcn (b := 7) rfl ?_
  refine lv_icmp_ge (tgt := 25) hx hb dX10_word_7 (by decide) (fun h9 => absurd h9 (by decide +kernel)) (fun _ => ?_)
  refine lv_aload_n hx hb dX10_word_10 rfl (lv_at hl 1 rfl) ?_
  refine lv_aload_n hx hb dX10_word_11 rfl (lv_at hl 2 rfl) ?_
  refine lv_iload_n hx hb dX10_word_12 rfl (lv_at hl 0 rfl) ?_
  refine zVi (As := [.int 1]) (rest := [.ref h0]) (wr := [(h0, .inr (10, [.int (-1), .int 1, .int (-4)]))]) hSX hx hb hml hown hts hnw hK hP hD hS hA hl.1 (c_charAt1 l D cI cZ cB cJ ak kv fo) yk_J0_charAt_5068e wm_885 [] [0] rfl rfl (by decide) (by decide) (by decide) (hSX.recv hS) rfl rfl dX10_word_13 ⟨Nat.le_of_ble_eq_true rfl, Nat.le_of_ble_eq_true rfl⟩ ⟨Nat.le_of_ble_eq_true rfl, Nat.le_of_ble_eq_true rfl⟩ (Nat.le_of_ble_eq_true rfl) (fun r9 w1 H locs hq9 hP hD hS => ?_)
  obtain ⟨rfl, rfl⟩ := hq9
  have hP : va_P D vwCl [(h0, .inr (10, [.int (-1), .int 1, .int (-4)]))] H := hP
  have hD : va_D A [(h0, .inr (10, [.int (-1), .int 1, .int (-4)]))] := hD
  refine W.widen (k := 0) (n := 0) (Nat.le_of_ble_eq_true rfl) (Nat.le_of_ble_eq_true rfl) ?_
  refine pcn (b := 16) rfl ?_
  refine kVv (As := [.int 110]) (rest := []) (wr := []) hx hb hml hown hts hnw hK hP hD hS hA hl.1 (c_X10_sign_1 l D cI cZ cB cJ h0) yk_X10_sign wm_866 [0] [] rfl rfl (by decide) (by decide) (by decide) 0 rfl rfl rfl rfl rfl dX10_word_16 ⟨Nat.le_of_ble_eq_true rfl, Nat.le_of_ble_eq_true rfl⟩ ⟨Nat.le_of_ble_eq_true rfl, Nat.le_of_ble_eq_true rfl⟩ (Nat.le_of_ble_eq_true rfl) (fun w1 H locs hq9 hP hD hS => ?_)
  obtain rfl := hq9
  have hP : va_P D vwCl [(h0, .inr (10, [.int (-1), .int 2, .int (-4)]))] H := hP
  have hD : va_D A [(h0, .inr (10, [.int (-1), .int 2, .int (-4)]))] := hD
  refine W.widen (k := 0) (n := 0) (Nat.le_of_ble_eq_true rfl) (Nat.le_of_ble_eq_true rfl) ?_
  refine pcn (b := 19) rfl ?_
  refine lv_iinc (v := 2) (lv' := [(2, .int 2), (0, .ref h0), (1, .ref ak)]) hx hb dX10_word_19 hl (k := 0) rfl (by decide +kernel) (by decide) rfl (fun ls hl => ?_)
  refine lv_goto (tgt := 2) hx hb dX10_word_22 (by decide) ?_
  refine lv_iload_n hx hb dX10_word_2 rfl (lv_at hl 0 rfl) ?_
  refine lv_aload_n hx hb dX10_word_3 rfl (lv_at hl 2 rfl) ?_
  refine zVi (As := []) (rest := [.int 2]) (wr := [(h0, .inr (10, [.int (-1), .int 2, .int (-4)]))]) hSX hx hb hml hown hts hnw hK hP hD hS hA hl.1 (c_length l D cI cZ cB cJ ak kv fo) yk_J0_length_8abf5 wm_875 [] [0] rfl rfl (by decide) (by decide) (by decide) (hSX.recv hS) rfl rfl dX10_word_4 ⟨Nat.le_of_ble_eq_true rfl, Nat.le_of_ble_eq_true rfl⟩ ⟨Nat.le_of_ble_eq_true rfl, Nat.le_of_ble_eq_true rfl⟩ (Nat.le_of_ble_eq_true rfl) (fun r9 w1 H locs hq9 hP hD hS => ?_)
  obtain ⟨rfl, rfl⟩ := hq9
  have hP : va_P D vwCl [(h0, .inr (10, [.int (-1), .int 2, .int (-4)]))] H := hP
  have hD : va_D A [(h0, .inr (10, [.int (-1), .int 2, .int (-4)]))] := hD
  refine W.widen (k := 0) (n := 0) (Nat.le_of_ble_eq_true rfl) (Nat.le_of_ble_eq_true rfl) ?_
  refine pcn (b := 7) rfl ?_
  refine lv_icmp_ge (tgt := 25) hx hb dX10_word_7 (by decide) (fun h9 => absurd h9 (by decide +kernel)) (fun _ => ?_)
  refine lv_aload_n hx hb dX10_word_10 rfl (lv_at hl 1 rfl) ?_
  refine lv_aload_n hx hb dX10_word_11 rfl (lv_at hl 2 rfl) ?_
  refine lv_iload_n hx hb dX10_word_12 rfl (lv_at hl 0 rfl) ?_
  refine zVi (As := [.int 2]) (rest := [.ref h0]) (wr := [(h0, .inr (10, [.int (-1), .int 2, .int (-4)]))]) hSX hx hb hml hown hts hnw hK hP hD hS hA hl.1 (c_charAt2 l D cI cZ cB cJ ak kv fo) yk_J0_charAt_5068e wm_885 [] [0] rfl rfl (by decide) (by decide) (by decide) (hSX.recv hS) rfl rfl dX10_word_13 ⟨Nat.le_of_ble_eq_true rfl, Nat.le_of_ble_eq_true rfl⟩ ⟨Nat.le_of_ble_eq_true rfl, Nat.le_of_ble_eq_true rfl⟩ (Nat.le_of_ble_eq_true rfl) (fun r9 w1 H locs hq9 hP hD hS => ?_)
  obtain ⟨rfl, rfl⟩ := hq9
  have hP : va_P D vwCl [(h0, .inr (10, [.int (-1), .int 2, .int (-4)]))] H := hP
  have hD : va_D A [(h0, .inr (10, [.int (-1), .int 2, .int (-4)]))] := hD
  refine W.widen (k := 0) (n := 0) (Nat.le_of_ble_eq_true rfl) (Nat.le_of_ble_eq_true rfl) ?_
  refine pcn (b := 16) rfl ?_
  refine kVv (As := [.int 116]) (rest := []) (wr := []) hx hb hml hown hts hnw hK hP hD hS hA hl.1 (c_X10_sign_2 l D cI cZ cB cJ h0) yk_X10_sign wm_866 [0] [] rfl rfl (by decide) (by decide) (by decide) 0 rfl rfl rfl rfl rfl dX10_word_16 ⟨Nat.le_of_ble_eq_true rfl, Nat.le_of_ble_eq_true rfl⟩ ⟨Nat.le_of_ble_eq_true rfl, Nat.le_of_ble_eq_true rfl⟩ (Nat.le_of_ble_eq_true rfl) (fun w1 H locs hq9 hP hD hS => ?_)
  obtain rfl := hq9
  have hP : va_P D vwCl [(h0, .inr (10, [.int (-1), .int 3, .int (-4)]))] H := hP
  have hD : va_D A [(h0, .inr (10, [.int (-1), .int 3, .int (-4)]))] := hD
  refine W.widen (k := 0) (n := 0) (Nat.le_of_ble_eq_true rfl) (Nat.le_of_ble_eq_true rfl) ?_
  refine pcn (b := 19) rfl ?_
  refine lv_iinc (v := 3) (lv' := [(2, .int 3), (0, .ref h0), (1, .ref ak)]) hx hb dX10_word_19 hl (k := 0) rfl (by decide +kernel) (by decide) rfl (fun ls hl => ?_)
  refine lv_goto (tgt := 2) hx hb dX10_word_22 (by decide) ?_
  refine lv_iload_n hx hb dX10_word_2 rfl (lv_at hl 0 rfl) ?_
  refine lv_aload_n hx hb dX10_word_3 rfl (lv_at hl 2 rfl) ?_
  refine zVi (As := []) (rest := [.int 3]) (wr := [(h0, .inr (10, [.int (-1), .int 3, .int (-4)]))]) hSX hx hb hml hown hts hnw hK hP hD hS hA hl.1 (c_length l D cI cZ cB cJ ak kv fo) yk_J0_length_8abf5 wm_875 [] [0] rfl rfl (by decide) (by decide) (by decide) (hSX.recv hS) rfl rfl dX10_word_4 ⟨Nat.le_of_ble_eq_true rfl, Nat.le_of_ble_eq_true rfl⟩ ⟨Nat.le_of_ble_eq_true rfl, Nat.le_of_ble_eq_true rfl⟩ (Nat.le_of_ble_eq_true rfl) (fun r9 w1 H locs hq9 hP hD hS => ?_)
  obtain ⟨rfl, rfl⟩ := hq9
  have hP : va_P D vwCl [(h0, .inr (10, [.int (-1), .int 3, .int (-4)]))] H := hP
  have hD : va_D A [(h0, .inr (10, [.int (-1), .int 3, .int (-4)]))] := hD
  refine W.widen (k := 0) (n := 0) (Nat.le_of_ble_eq_true rfl) (Nat.le_of_ble_eq_true rfl) ?_
  refine pcn (b := 7) rfl ?_
  refine lv_icmp_ge (tgt := 25) hx hb dX10_word_7 (by decide) (fun _ => ?_) (fun h9 => absurd (by decide +kernel) h9)
  refine W.widen (k := 0) (n := 0) (Nat.le_of_ble_eq_true rfl) (Nat.le_of_ble_eq_true rfl) ?_
  exact rtV hx hb hr hlocks hS hP hD rfl dX10_word_25

set_option maxHeartbeats 4000000 in
set_option maxRecDepth 100000 in
theorem c_X10_writeType_0 (l : Launch) (D : va_G) (cI cZ cB cJ : ClassId) (ak kv : Nat) (fo : Option Nat) (h0 g0 : Nat) : CtVS ak kv fo l D (TT cI cZ cB cJ) yX10_writeType cX10_writeType 4 none 5 107 0 0 [.ref h0, .ref g0, .int 1, .int 40] [(h0, .inr (10, [.int (-1), .int 0, .int (-4)]))] (fun w1 => w1 = [(h0, .inr (10, [.int (-1), .int 3, .int (-4)]))]) := by
  refine CtVS.of (by decide +kernel) (Nat.le_of_ble_eq_true rfl) ?_
  intro p e s m below meth c A ls hSX hx hb hr hml hown hts hnw hlocks hin hA hS hP hK hD hl
  have hown : s.vm.findClass RX10 = some m.cls := hown
  have hl : lv_has ls 4 [(0, .ref h0), (1, .ref g0), (2, .int 1), (3, .int 40)] := hl
  refine lv_iload_n hx hb dX10_writeType_0 rfl (lv_at hl 3 rfl) ?_
  refine lv_if_gt (tgt := 5) hx hb dX10_writeType_1 (by decide) (fun _ => ?_) (fun h9 => absurd (by decide +kernel) h9)
  refine lv_iload_n hx hb dX10_writeType_5 rfl (lv_at hl 2 rfl) ?_
  refine lv_if_ne (tgt := 18) hx hb dX10_writeType_6 (by decide) (fun _ => ?_) (fun h9 => absurd h9 (by decide +kernel))
  refine lv_iload_n hx hb dX10_writeType_18 rfl (lv_at hl 2 rfl) ?_
  refine lv_iconst (v := 1) hx hb dX10_writeType_19 (by decide +kernel) ?_
  refine lv_icmp_ne (tgt := 32) hx hb dX10_writeType_20 (by decide) (fun h9 => absurd (by decide +kernel) h9) (fun _ => ?_)
  refine lv_aload_n hx hb dX10_writeType_23 rfl (lv_at hl 0 rfl) ?_
  refine va_ldcS hx hb hown hSX.1 dX10_writeType_24 ?_
  refine zVv (As := [.ref ak]) (rest := []) (wr := []) hSX hx hb hml hown hts hnw hK hP hD hS hA hl.1 (c_X10_word_0 l D cI cZ cB cJ ak kv fo h0) yk_X10_word wm_871 [0] [] rfl rfl (by decide) (by decide) (by decide) (rcv hK hP 0 rfl rfl rfl) rfl rfl dX10_writeType_26 ⟨Nat.le_of_ble_eq_true rfl, Nat.le_of_ble_eq_true rfl⟩ ⟨Nat.le_of_ble_eq_true rfl, Nat.le_of_ble_eq_true rfl⟩ (Nat.le_of_ble_eq_true rfl) (fun w1 H locs hq9 hP hD hS => ?_)
  obtain rfl := hq9
  have hP : va_P D vwCl [(h0, .inr (10, [.int (-1), .int 3, .int (-4)]))] H := hP
  have hD : va_D A [(h0, .inr (10, [.int (-1), .int 3, .int (-4)]))] := hD
  refine W.widen (k := 0) (n := 0) (Nat.le_of_ble_eq_true rfl) (Nat.le_of_ble_eq_true rfl) ?_
  refine pcn (b := 29) rfl ?_
  refine lv_goto (tgt := 90) hx hb dX10_writeType_29 (by decide) ?_
  refine W.widen (k := 0) (n := 0) (Nat.le_of_ble_eq_true rfl) (Nat.le_of_ble_eq_true rfl) ?_
  exact rtV hx hb hr hlocks hS hP hD rfl dX10_writeType_90

set_option maxHeartbeats 4000000 in
set_option maxRecDepth 100000 in
theorem c_X11_writeText_7 (l : Launch) (D : va_G) (cI cZ cB cJ : ClassId) (ak kv : Nat) (fo : Option Nat) (h0 h1 h2 h3 h4 g0 g1 g2 g3 g4 g5 g6 g7 g8 g9 g10 g11 g12 g13 g14 g15 g16 g17 g18 g19 g20 g21 : Nat) : CtIS ak kv fo l D (TT cI cZ cB cJ) yX11_writeText cX11_writeText 5 (some .boolean) 6 130 0 0 [.ref h0, .int 1, .int 0] [(h0, .inr (11, [.ref g0, .int 0, .ref g1, .ref g2, .ref h1, .ref g3, .ref g4, .ref h4, .ref g5, .ref g6, .ref g7])), (h1, .inr (1, [.ref h2, .ref g8, .ref g9, .ref g10, .ref h3, .ref g11, .ref g12, .int 4, .int 3, .int 0, .int (-1), .int 0])), (h2, .inr (7, [.ref g13, .ref g14, .ref g15, .ref g16, .ref g17, .ref g18, .ref g19, .ref g20, .ref g21, .int 1, .int 1, .int 0])), (h3, .inl (cI, 60, .inl (upd (fun _ => 0) 0 1))), (h4, .inr (10, [.int (-1), .int 0, .int (-4)]))] (fun r w1 => r = 1 ∧ w1 = [(h0, .inr (11, [.ref g0, .int 0, .ref g1, .ref g2, .ref h1, .ref g3, .ref g4, .ref h4, .ref g5, .ref g6, .ref g7])), (h1, .inr (1, [.ref h2, .ref g8, .ref g9, .ref g10, .ref h3, .ref g11, .ref g12, .int 4, .int 3, .int 0, .int (-1), .int 0])), (h2, .inr (7, [.ref g13, .ref g14, .ref g15, .ref g16, .ref g17, .ref g18, .ref g19, .ref g20, .ref g21, .int 1, .int 1, .int 0])), (h3, .inl (cI, 60, .inl (upd (fun _ => 0) 0 1))), (h4, .inr (10, [.int (-1), .int 3, .int (-4)]))]) := by
  refine CtIS.of (by decide +kernel) (Nat.le_of_ble_eq_true rfl) ?_
  intro p e s m below meth c A ls hSX hx hb hr hml hown hts hnw hlocks hin hA hS hP hK hD hl
  have hown : s.vm.findClass RX11 = some m.cls := hown
  have hl : lv_has ls 5 [(0, .ref h0), (1, .int 1), (2, .int 0)] := hl
  refine lv_iload_n hx hb dX11_writeText_0 rfl (lv_at hl 2 rfl) ?_
  refine lv_if_lt (tgt := 13) hx hb dX11_writeText_1 (by decide) (fun h9 => absurd h9 (by decide +kernel)) (fun _ => ?_)
  refine lv_iload_n hx hb dX11_writeText_4 rfl (lv_at hl 2 rfl) ?_
  refine lv_aload_n hx hb dX11_writeText_5 rfl (lv_at hl 0 rfl) ?_
  refine lv_iload_n hx hb dX11_writeText_6 rfl (lv_at hl 1 rfl) ?_
  refine kVi (As := [.int 1]) (rest := [.int 0]) (wr := [(h3, .inl (cI, 60, .inl (upd (fun _ => 0) 0 1))), (h4, .inr (10, [.int (-1), .int 0, .int (-4)]))]) hx hb hml hown hts hnw hK hP hD hS hA hl.1 (c_X11_textsOf_2 l D cI cZ cB cJ h0 h1 h2 g0 g1 g2 g3 g4 h4 g5 g6 g7 g8 g9 g10 h3 g11 g12 g13 g14 g15 g16 g17 g18 g19 g20 g21) yk_X11_textsOf wm_857 [0, 1, 2] [3, 4] rfl rfl (by decide) (by decide) (by decide) 0 rfl rfl rfl rfl rfl dX11_writeText_7 ⟨Nat.le_of_ble_eq_true rfl, Nat.le_of_ble_eq_true rfl⟩ ⟨Nat.le_of_ble_eq_true rfl, Nat.le_of_ble_eq_true rfl⟩ (Nat.le_of_ble_eq_true rfl) (fun r9 w1 H locs hq9 hP hD hS => ?_)
  obtain ⟨rfl, rfl⟩ := hq9
  have hP : va_P D vwCl [(h3, .inl (cI, 60, .inl (upd (fun _ => 0) 0 1))), (h4, .inr (10, [.int (-1), .int 0, .int (-4)])), (h0, .inr (11, [.ref g0, .int 0, .ref g1, .ref g2, .ref h1, .ref g3, .ref g4, .ref h4, .ref g5, .ref g6, .ref g7])), (h1, .inr (1, [.ref h2, .ref g8, .ref g9, .ref g10, .ref h3, .ref g11, .ref g12, .int 4, .int 3, .int 0, .int (-1), .int 0])), (h2, .inr (7, [.ref g13, .ref g14, .ref g15, .ref g16, .ref g17, .ref g18, .ref g19, .ref g20, .ref g21, .int 1, .int 1, .int 0]))] H := hP
  have hD : va_D A [(h3, .inl (cI, 60, .inl (upd (fun _ => 0) 0 1))), (h4, .inr (10, [.int (-1), .int 0, .int (-4)])), (h0, .inr (11, [.ref g0, .int 0, .ref g1, .ref g2, .ref h1, .ref g3, .ref g4, .ref h4, .ref g5, .ref g6, .ref g7])), (h1, .inr (1, [.ref h2, .ref g8, .ref g9, .ref g10, .ref h3, .ref g11, .ref g12, .int 4, .int 3, .int 0, .int (-1), .int 0])), (h2, .inr (7, [.ref g13, .ref g14, .ref g15, .ref g16, .ref g17, .ref g18, .ref g19, .ref g20, .ref g21, .int 1, .int 1, .int 0]))] := hD
  refine W.widen (k := 0) (n := 0) (Nat.le_of_ble_eq_true rfl) (Nat.le_of_ble_eq_true rfl) ?_
  refine pcn (b := 10) rfl ?_
  refine lv_icmp_lt (tgt := 15) hx hb dX11_writeText_10 (by decide) (fun _ => ?_) (fun h9 => absurd (by decide +kernel) h9)
  refine lv_aload_n hx hb dX11_writeText_15 rfl (lv_at hl 0 rfl) ?_
  refine va_get (D := D) (ci := 11) (v := .ref h1) (C := RX11) (T := TX11) (N := 11) hx hb hts inX11 hown hK hP 2 rfl rfl 4 (by decide) (hts _ wm_586) (fun _ h9 => h9) rfl dX11_writeText_16 ?_
  refine va_getN (D := D) (ci := 1) (v := .ref g8) (C := RX1) (T := TX1) (N := 12) hx hb hts inX1 hown hK hP 3 rfl rfl 1 (by decide) (va_Nw.use rfl (hnw _ wn_280)) (fun _ h9 => h9) rfl dX11_writeText_19 ?_
  refine lv_astore_n (lv' := [(3, .ref g8), (0, .ref h0), (1, .int 1), (2, .int 0)]) hx hb dX11_writeText_22 rfl hl (by decide) rfl (fun ls hl => ?_)
  refine lv_aload_n hx hb dX11_writeText_23 rfl (lv_at hl 1 rfl) ?_
  refine va_get (D := D) (ci := 11) (v := .ref h1) (C := RX11) (T := TX11) (N := 11) hx hb hts inX11 hown hK hP 2 rfl rfl 4 (by decide) (hts _ wm_586) (fun _ h9 => h9) rfl dX11_writeText_24 ?_
  refine va_getN (D := D) (ci := 1) (v := .ref g9) (C := RX1) (T := TX1) (N := 12) hx hb hts inX1 hown hK hP 3 rfl rfl 2 (by decide) (va_Nw.use rfl (hnw _ wn_284)) (fun _ h9 => h9) rfl dX11_writeText_27 ?_
  refine pcn (b := 30) rfl ?_
  refine lv_astore (lv' := [(4, .ref g9), (3, .ref g8), (0, .ref h0), (1, .int 1), (2, .int 0)]) hx hb dX11_writeText_30 hl (by decide) rfl (fun ls hl => ?_)
  refine lv_iload_n hx hb dX11_writeText_32 rfl (lv_at hl 3 rfl) ?_
  refine lv_tableIn (off := 77) (tgt := 110) hx hb dX11_writeText_33 (by decide +kernel) (by decide +kernel) (by decide +kernel) (by decide) ?_
  refine lv_aload_n hx hb dX11_writeText_110 rfl (lv_at hl 2 rfl) ?_
  refine va_get (D := D) (ci := 11) (v := .ref h4) (C := RX11) (T := TX11) (N := 11) hx hb hts inX11 hown hK hP 2 rfl rfl 7 (by decide) (hts _ wm_589) (fun _ h9 => h9) rfl dX11_writeText_111 ?_
  refine lv_aload_n hx hb dX11_writeText_114 rfl (lv_at hl 1 rfl) ?_
  refine lv_aload_n hx hb dX11_writeText_115 rfl (lv_at hl 2 rfl) ?_
  refine va_get (D := D) (ci := 11) (v := .ref h1) (C := RX11) (T := TX11) (N := 11) hx hb hts inX11 hown hK hP 2 rfl rfl 4 (by decide) (hts _ wm_586) (fun _ h9 => h9) rfl dX11_writeText_116 ?_
  refine va_getN (D := D) (ci := 1) (v := .ref h3) (C := RX1) (T := TX1) (N := 12) hx hb hts inX1 hown hK hP 3 rfl rfl 4 (by decide) (va_Nw.use rfl (hnw _ wn_289)) (fun _ h9 => h9) rfl dX11_writeText_119 ?_
  refine lv_iload_n hx hb dX11_writeText_122 rfl (lv_at hl 4 rfl) ?_
  refine pcn (b := 123) rfl ?_
  refine kSi (As := [.ref h3, .int 0]) (rest := [.ref g8, .ref h4]) (wr := [(h4, .inr (10, [.int (-1), .int 0, .int (-4)])), (h0, .inr (11, [.ref g0, .int 0, .ref g1, .ref g2, .ref h1, .ref g3, .ref g4, .ref h4, .ref g5, .ref g6, .ref g7])), (h1, .inr (1, [.ref h2, .ref g8, .ref g9, .ref g10, .ref h3, .ref g11, .ref g12, .int 4, .int 3, .int 0, .int (-1), .int 0])), (h2, .inr (7, [.ref g13, .ref g14, .ref g15, .ref g16, .ref g17, .ref g18, .ref g19, .ref g20, .ref g21, .int 1, .int 1, .int 0]))]) hx hb hml hown hts hnw hK hP hD hS hA hl.1 (c_X11_at_9 l D cI cZ cB cJ h3) yk_X11_at wm_861 [0] [1, 2, 3, 4] rfl rfl (by decide) (by decide) (by decide) rfl rfl dX11_writeText_123 ⟨Nat.le_of_ble_eq_true rfl, Nat.le_of_ble_eq_true rfl⟩ ⟨Nat.le_of_ble_eq_true rfl, Nat.le_of_ble_eq_true rfl⟩ (Nat.le_of_ble_eq_true rfl) (fun r9 w1 H locs hq9 hP hD hS => ?_)
  obtain ⟨rfl, rfl⟩ := hq9
  have hP : va_P D vwCl [(h4, .inr (10, [.int (-1), .int 0, .int (-4)])), (h0, .inr (11, [.ref g0, .int 0, .ref g1, .ref g2, .ref h1, .ref g3, .ref g4, .ref h4, .ref g5, .ref g6, .ref g7])), (h1, .inr (1, [.ref h2, .ref g8, .ref g9, .ref g10, .ref h3, .ref g11, .ref g12, .int 4, .int 3, .int 0, .int (-1), .int 0])), (h2, .inr (7, [.ref g13, .ref g14, .ref g15, .ref g16, .ref g17, .ref g18, .ref g19, .ref g20, .ref g21, .int 1, .int 1, .int 0])), (h3, .inl (cI, 60, .inl (upd (fun _ => 0) 0 1)))] H := hP
  have hD : va_D A [(h4, .inr (10, [.int (-1), .int 0, .int (-4)])), (h0, .inr (11, [.ref g0, .int 0, .ref g1, .ref g2, .ref h1, .ref g3, .ref g4, .ref h4, .ref g5, .ref g6, .ref g7])), (h1, .inr (1, [.ref h2, .ref g8, .ref g9, .ref g10, .ref h3, .ref g11, .ref g12, .int 4, .int 3, .int 0, .int (-1), .int 0])), (h2, .inr (7, [.ref g13, .ref g14, .ref g15, .ref g16, .ref g17, .ref g18, .ref g19, .ref g20, .ref g21, .int 1, .int 1, .int 0])), (h3, .inl (cI, 60, .inl (upd (fun _ => 0) 0 1)))] := hD
  refine W.widen (k := 0) (n := 0) (Nat.le_of_ble_eq_true rfl) (Nat.le_of_ble_eq_true rfl) ?_
  refine pcn (b := 126) rfl ?_
  refine lv_bipush (v := 40) hx hb dX11_writeText_126 (by decide +kernel) ?_
  refine zVNv (As := [.ref g8, .int 1, .int 40]) (rest := []) (wr := [(h0, .inr (11, [.ref g0, .int 0, .ref g1, .ref g2, .ref h1, .ref g3, .ref g4, .ref h4, .ref g5, .ref g6, .ref g7])), (h1, .inr (1, [.ref h2, .ref g8, .ref g9, .ref g10, .ref h3, .ref g11, .ref g12, .int 4, .int 3, .int 0, .int (-1), .int 0])), (h2, .inr (7, [.ref g13, .ref g14, .ref g15, .ref g16, .ref g17, .ref g18, .ref g19, .ref g20, .ref g21, .int 1, .int 1, .int 0])), (h3, .inl (cI, 60, .inl (upd (fun _ => 0) 0 1)))]) hSX hx hb hml hown hts hnw hK hP hD hS hA hl.1 (c_X10_writeType_0 l D cI cZ cB cJ ak kv fo h4 g8) yk_X10_writeType wn_862 [0] [1, 2, 3, 4] rfl rfl (by decide) (by decide) (by decide) (rcv hK hP 0 rfl rfl rfl) rfl rfl dX11_writeText_128 ⟨Nat.le_of_ble_eq_true rfl, Nat.le_of_ble_eq_true rfl⟩ ⟨Nat.le_of_ble_eq_true rfl, Nat.le_of_ble_eq_true rfl⟩ (Nat.le_of_ble_eq_true rfl) (fun w1 H locs hq9 hP hD hS => ?_)
  obtain rfl := hq9
  have hP : va_P D vwCl [(h0, .inr (11, [.ref g0, .int 0, .ref g1, .ref g2, .ref h1, .ref g3, .ref g4, .ref h4, .ref g5, .ref g6, .ref g7])), (h1, .inr (1, [.ref h2, .ref g8, .ref g9, .ref g10, .ref h3, .ref g11, .ref g12, .int 4, .int 3, .int 0, .int (-1), .int 0])), (h2, .inr (7, [.ref g13, .ref g14, .ref g15, .ref g16, .ref g17, .ref g18, .ref g19, .ref g20, .ref g21, .int 1, .int 1, .int 0])), (h3, .inl (cI, 60, .inl (upd (fun _ => 0) 0 1))), (h4, .inr (10, [.int (-1), .int 3, .int (-4)]))] H := hP
  have hD : va_D A [(h0, .inr (11, [.ref g0, .int 0, .ref g1, .ref g2, .ref h1, .ref g3, .ref g4, .ref h4, .ref g5, .ref g6, .ref g7])), (h1, .inr (1, [.ref h2, .ref g8, .ref g9, .ref g10, .ref h3, .ref g11, .ref g12, .int 4, .int 3, .int 0, .int (-1), .int 0])), (h2, .inr (7, [.ref g13, .ref g14, .ref g15, .ref g16, .ref g17, .ref g18, .ref g19, .ref g20, .ref g21, .int 1, .int 1, .int 0])), (h3, .inl (cI, 60, .inl (upd (fun _ => 0) 0 1))), (h4, .inr (10, [.int (-1), .int 3, .int (-4)]))] := hD
  refine W.widen (k := 0) (n := 0) (Nat.le_of_ble_eq_true rfl) (Nat.le_of_ble_eq_true rfl) ?_
  refine pcn (b := 131) rfl ?_
  refine lv_goto (tgt := 300) hx hb dX11_writeText_131 (by decide) ?_
  refine lv_iconst (v := 1) hx hb dX11_writeText_300 (by decide +kernel) ?_
  refine W.widen (k := 0) (n := 0) (Nat.le_of_ble_eq_true rfl) (Nat.le_of_ble_eq_true rfl) ?_
  exact rtZ hx hb hr rfl hlocks hS hP hD ⟨rfl, rfl⟩ dX11_writeText_301

set_option maxHeartbeats 4000000 in
set_option maxRecDepth 100000 in
theorem c_X12_cutsTo_1 (l : Launch) (D : va_G) (cI cZ cB cJ : ClassId) (h0 g0 g1 g2 g3 g4 g5 g6 g7 g8 g9 g10 g11 g12 g13 g14 g15 g16 g17 g18 g19 g20 g21 g22 g23 g24 g25 g26 g27 g28 g29 g30 g31 g32 g33 g34 g35 g36 g37 g38 g39 g40 g41 g42 g43 g44 g45 g46 g47 g48 g49 g50 g51 g52 g53 g54 g55 g56 g57 g58 g59 g60 g61 g62 g63 g64 g65 g66 g67 g68 g69 : Nat) : CtV l D (TT cI cZ cB cJ) yX12_cutsTo cX12_cutsTo 2 none 0 0 0 0 [.ref h0, .int 0] [(h0, .inr (12, [.ref g0, .ref g1, .ref g2, .ref g3, .ref g4, .int 4, .ref g5, .ref g6, .ref g7, .ref g8, .ref g9, .int 0, .ref g10, .ref g11, .ref g12, .ref g13, .ref g14, .ref g15, .ref g16, .ref g17, .int 0, .ref g18, .int 0, .ref g19, .int 0, .int 0, .int 0, .int 0, .int 0, .int 0, .int 0, .int 0, .long 0, .ref g20, .ref g21, .ref g22, .ref g23, .ref g24, .ref g25, .ref g26, .ref g27, .ref g28, .ref g29, .ref g30, .int 0, .int 1, .int 0, .ref g31, .ref g32, .int 0, .ref g33, .ref g34, .ref g35, .ref g36, .int 0, .ref g37, .int 0, .ref g38, .ref g39, .ref g40, .ref g41, .ref g42, .ref g43, .ref g44, .ref g45, .ref g46, .ref g47, .int 0, .int 0, .int 4, .ref g48, .ref g49, .ref g50, .ref g51, .ref g52, .ref g53, .ref g54, .ref g55, .ref g56, .ref g57, .ref g58, .ref g59, .ref g60, .int 0, .int 0, .int 0, .int 0, .int 0, .int 0, .int 0, .int 0, .int 0, .int 0, .int 0, .int 0, .int 0, .int 0, .int 0, .int 0, .int 0, .int 0, .int 0, .int 0, .ref g61, .ref g62, .int 0, .ref g63, .ref g64, .ref g65, .ref g66, .int 0, .int 0, .ref g67, .ref g68, .int 0, .ref g69, .int 0, .int 0]))] (fun w1 => w1 = [(h0, .inr (12, [.ref g0, .ref g1, .ref g2, .ref g3, .ref g4, .int 4, .ref g5, .ref g6, .ref g7, .ref g8, .ref g9, .int 0, .ref g10, .ref g11, .ref g12, .ref g13, .ref g14, .ref g15, .ref g16, .ref g17, .int 0, .ref g18, .int 0, .ref g19, .int 0, .int 0, .int 0, .int 0, .int 0, .int 0, .int 0, .int 0, .long 0, .ref g20, .ref g21, .ref g22, .ref g23, .ref g24, .ref g25, .ref g26, .ref g27, .ref g28, .ref g29, .ref g30, .int 0, .int 1, .int 0, .ref g31, .ref g32, .int 0, .ref g33, .ref g34, .ref g35, .ref g36, .int 0, .ref g37, .int 0, .ref g38, .ref g39, .ref g40, .ref g41, .ref g42, .ref g43, .ref g44, .ref g45, .ref g46, .ref g47, .int 0, .int 0, .int 4, .ref g48, .ref g49, .ref g50, .ref g51, .ref g52, .ref g53, .ref g54, .ref g55, .ref g56, .ref g57, .ref g58, .ref g59, .ref g60, .int 0, .int 0, .int 0, .int 0, .int 0, .int 0, .int 0, .int 0, .int 0, .int 0, .int 0, .int 0, .int 0, .int 0, .int 0, .int 0, .int 0, .int 0, .int 0, .int 0, .ref g61, .ref g62, .int 0, .ref g63, .ref g64, .ref g65, .ref g66, .int 0, .int 0, .ref g67, .ref g68, .int 0, .ref g69, .int 0, .int 0]))]) := by
  refine CtV.of (by decide +kernel) (Nat.le_of_ble_eq_true rfl) ?_
  intro p e s m below meth c A ls hx hb hr hml hown hts hnw hlocks hin hA hS hP hK hD hl
  have hown : s.vm.findClass RX12 = some m.cls := hown
  have hl : lv_has ls 2 [(0, .ref h0), (1, .int 0)] := hl
  refine lv_aload_n hx hb dX12_cutsTo_0 rfl (lv_at hl 0 rfl) ?_
  refine va_get (D := D) (ci := 12) (v := .int 0) (C := RX12) (T := TX12) (N := 118) hx hb hts inX12 hown hK hP 0 rfl rfl 20 (by decide) (hts _ wm_1387) (fun _ h9 => h9) rfl dX12_cutsTo_1 ?_
  refine lv_iload_n hx hb dX12_cutsTo_4 rfl (lv_at hl 1 rfl) ?_
  refine lv_icmp_le (tgt := 65) hx hb dX12_cutsTo_5 (by decide) (fun _ => ?_) (fun h9 => absurd (by decide +kernel) h9)
  refine W.widen (k := 0) (n := 0) (Nat.le_of_ble_eq_true rfl) (Nat.le_of_ble_eq_true rfl) ?_
  exact rtV hx hb hr hlocks hS hP hD rfl dX12_cutsTo_65

set_option maxHeartbeats 4000000 in
set_option maxRecDepth 100000 in
theorem c_X12_cleans_0 (l : Launch) (D : va_G) (cI cZ cB cJ : ClassId) (h0 g0 g1 g2 g3 g4 g5 g6 g7 g8 g9 g10 g11 g12 g13 g14 g15 g16 g17 g18 g19 g20 g21 g22 g23 g24 g25 g26 g27 g28 g29 g30 g31 g32 g33 g34 g35 g36 g37 g38 g39 g40 g41 g42 g43 g44 g45 g46 g47 g48 g49 g50 g51 g52 g53 g54 g55 g56 g57 g58 g59 g60 g61 g62 g63 g64 g65 g66 g67 g68 g69 : Nat) : CtV l D (TT cI cZ cB cJ) yX12_cleans cX12_cleans 1 none 1 21 0 0 [.ref h0] [(h0, .inr (12, [.ref g0, .ref g1, .ref g2, .ref g3, .ref g4, .int 4, .ref g5, .ref g6, .ref g7, .ref g8, .ref g9, .int 0, .ref g10, .ref g11, .ref g12, .ref g13, .ref g14, .ref g15, .ref g16, .ref g17, .int 0, .ref g18, .int 0, .ref g19, .int 0, .int 0, .int 0, .int 0, .int 0, .int 0, .int 0, .int 0, .long 0, .ref g20, .ref g21, .ref g22, .ref g23, .ref g24, .ref g25, .ref g26, .ref g27, .ref g28, .ref g29, .ref g30, .int 0, .int 1, .int 0, .ref g31, .ref g32, .int 0, .ref g33, .ref g34, .ref g35, .ref g36, .int 0, .ref g37, .int 0, .ref g38, .ref g39, .ref g40, .ref g41, .ref g42, .ref g43, .ref g44, .ref g45, .ref g46, .ref g47, .int 0, .int 0, .int 4, .ref g48, .ref g49, .ref g50, .ref g51, .ref g52, .ref g53, .ref g54, .ref g55, .ref g56, .ref g57, .ref g58, .ref g59, .ref g60, .int 0, .int 0, .int 0, .int 0, .int 0, .int 0, .int 0, .int 0, .int 0, .int 0, .int 0, .int 0, .int 0, .int 0, .int 0, .int 0, .int 0, .int 0, .int 0, .int 0, .ref g61, .ref g62, .int 0, .ref g63, .ref g64, .ref g65, .ref g66, .int 0, .int 0, .ref g67, .ref g68, .int 0, .ref g69, .int 0, .int 0]))] (fun w1 => w1 = [(h0, .inr (12, [.ref g0, .ref g1, .ref g2, .ref g3, .ref g4, .int 4, .ref g5, .ref g6, .ref g7, .ref g8, .ref g9, .int 0, .ref g10, .ref g11, .ref g12, .ref g13, .ref g14, .ref g15, .ref g16, .ref g17, .int 0, .ref g18, .int 0, .ref g19, .int 0, .int 0, .int 0, .int 0, .int 0, .int 0, .int 0, .int 0, .long 0, .ref g20, .ref g21, .ref g22, .ref g23, .ref g24, .ref g25, .ref g26, .ref g27, .ref g28, .ref g29, .ref g30, .int 0, .int 1, .int 0, .ref g31, .ref g32, .int 0, .ref g33, .ref g34, .ref g35, .ref g36, .int 0, .ref g37, .int 0, .ref g38, .ref g39, .ref g40, .ref g41, .ref g42, .ref g43, .ref g44, .ref g45, .ref g46, .ref g47, .int 0, .int 0, .int 4, .ref g48, .ref g49, .ref g50, .ref g51, .ref g52, .ref g53, .ref g54, .ref g55, .ref g56, .ref g57, .ref g58, .ref g59, .ref g60, .int 0, .int 0, .int 0, .int 0, .int 0, .int 0, .int 0, .int 0, .int 0, .int 0, .int 0, .int 0, .int 0, .int 0, .int 0, .int 0, .int 0, .int 0, .int 0, .int 0, .ref g61, .ref g62, .int 0, .ref g63, .ref g64, .ref g65, .ref g66, .int 0, .int 0, .ref g67, .ref g68, .int 0, .ref g69, .int 0, .int 0]))]) := by
  refine CtV.of (by decide +kernel) (Nat.le_of_ble_eq_true rfl) ?_
  intro p e s m below meth c A ls hx hb hr hml hown hts hnw hlocks hin hA hS hP hK hD hl
  have hown : s.vm.findClass RX12 = some m.cls := hown
  have hl : lv_has ls 1 [(0, .ref h0)] := hl
  refine lv_aload_n hx hb dX12_cleans_0 rfl (lv_at hl 0 rfl) ?_
  refine lv_aload_n hx hb dX12_cleans_1 rfl (lv_at hl 0 rfl) ?_
  refine va_get (D := D) (ci := 12) (v := .int 0) (C := RX12) (T := TX12) (N := 118) hx hb hts inX12 hown hK hP 0 rfl rfl 68 (by decide) (hts _ wm_1435) (fun _ h9 => h9) rfl dX12_cleans_2 ?_
  refine kVv (As := [.int 0]) (rest := []) (wr := []) hx hb hml hown hts hnw hK hP hD hS hA hl.1 (c_X12_cutsTo_1 l D cI cZ cB cJ h0 g0 g1 g2 g3 g4 g5 g6 g7 g8 g9 g10 g11 g12 g13 g14 g15 g16 g17 g18 g19 g20 g21 g22 g23 g24 g25 g26 g27 g28 g29 g30 g31 g32 g33 g34 g35 g36 g37 g38 g39 g40 g41 g42 g43 g44 g45 g46 g47 g48 g49 g50 g51 g52 g53 g54 g55 g56 g57 g58 g59 g60 g61 g62 g63 g64 g65 g66 g67 g68 g69) yk_X12_cutsTo wm_1267 [0] [] rfl rfl (by decide) (by decide) (by decide) 0 rfl rfl rfl rfl rfl dX12_cleans_5 ⟨Nat.le_of_ble_eq_true rfl, Nat.le_of_ble_eq_true rfl⟩ ⟨Nat.le_of_ble_eq_true rfl, Nat.le_of_ble_eq_true rfl⟩ (Nat.le_of_ble_eq_true rfl) (fun w1 H locs hq9 hP hD hS => ?_)
  obtain rfl := hq9
  have hP : va_P D vwCl [(h0, .inr (12, [.ref g0, .ref g1, .ref g2, .ref g3, .ref g4, .int 4, .ref g5, .ref g6, .ref g7, .ref g8, .ref g9, .int 0, .ref g10, .ref g11, .ref g12, .ref g13, .ref g14, .ref g15, .ref g16, .ref g17, .int 0, .ref g18, .int 0, .ref g19, .int 0, .int 0, .int 0, .int 0, .int 0, .int 0, .int 0, .int 0, .long 0, .ref g20, .ref g21, .ref g22, .ref g23, .ref g24, .ref g25, .ref g26, .ref g27, .ref g28, .ref g29, .ref g30, .int 0, .int 1, .int 0, .ref g31, .ref g32, .int 0, .ref g33, .ref g34, .ref g35, .ref g36, .int 0, .ref g37, .int 0, .ref g38, .ref g39, .ref g40, .ref g41, .ref g42, .ref g43, .ref g44, .ref g45, .ref g46, .ref g47, .int 0, .int 0, .int 4, .ref g48, .ref g49, .ref g50, .ref g51, .ref g52, .ref g53, .ref g54, .ref g55, .ref g56, .ref g57, .ref g58, .ref g59, .ref g60, .int 0, .int 0, .int 0, .int 0, .int 0, .int 0, .int 0, .int 0, .int 0, .int 0, .int 0, .int 0, .int 0, .int 0, .int 0, .int 0, .int 0, .int 0, .int 0, .int 0, .ref g61, .ref g62, .int 0, .ref g63, .ref g64, .ref g65, .ref g66, .int 0, .int 0, .ref g67, .ref g68, .int 0, .ref g69, .int 0, .int 0]))] H := hP
  have hD : va_D A [(h0, .inr (12, [.ref g0, .ref g1, .ref g2, .ref g3, .ref g4, .int 4, .ref g5, .ref g6, .ref g7, .ref g8, .ref g9, .int 0, .ref g10, .ref g11, .ref g12, .ref g13, .ref g14, .ref g15, .ref g16, .ref g17, .int 0, .ref g18, .int 0, .ref g19, .int 0, .int 0, .int 0, .int 0, .int 0, .int 0, .int 0, .int 0, .long 0, .ref g20, .ref g21, .ref g22, .ref g23, .ref g24, .ref g25, .ref g26, .ref g27, .ref g28, .ref g29, .ref g30, .int 0, .int 1, .int 0, .ref g31, .ref g32, .int 0, .ref g33, .ref g34, .ref g35, .ref g36, .int 0, .ref g37, .int 0, .ref g38, .ref g39, .ref g40, .ref g41, .ref g42, .ref g43, .ref g44, .ref g45, .ref g46, .ref g47, .int 0, .int 0, .int 4, .ref g48, .ref g49, .ref g50, .ref g51, .ref g52, .ref g53, .ref g54, .ref g55, .ref g56, .ref g57, .ref g58, .ref g59, .ref g60, .int 0, .int 0, .int 0, .int 0, .int 0, .int 0, .int 0, .int 0, .int 0, .int 0, .int 0, .int 0, .int 0, .int 0, .int 0, .int 0, .int 0, .int 0, .int 0, .int 0, .ref g61, .ref g62, .int 0, .ref g63, .ref g64, .ref g65, .ref g66, .int 0, .int 0, .ref g67, .ref g68, .int 0, .ref g69, .int 0, .int 0]))] := hD
  refine W.widen (k := 0) (n := 0) (Nat.le_of_ble_eq_true rfl) (Nat.le_of_ble_eq_true rfl) ?_
  refine pcn (b := 8) rfl ?_
  refine lv_aload_n hx hb dX12_cleans_8 rfl (lv_at hl 0 rfl) ?_
  refine lv_aload_n hx hb dX12_cleans_9 rfl (lv_at hl 0 rfl) ?_
  refine va_get (D := D) (ci := 12) (v := .int 4) (C := RX12) (T := TX12) (N := 118) hx hb hts inX12 hown hK hP 0 rfl rfl 69 (by decide) (hts _ wm_1436) (fun _ h9 => h9) rfl dX12_cleans_10 ?_
  refine va_put (D := D) (ci := 12) (v := .int 4) (ty := .int) (C := RX12) (T := TX12) (N := 118) hx hb hts inX12 tyX12 tyX12_ok nmX12 hown hK hP hD hS 0 rfl rfl 5 (by decide) (hts _ wm_1372) (fun _ h9 => h9) rfl (by decide +kernel) rfl rfl (Nat.le_of_ble_eq_true rfl) dX12_cleans_13 (fun H locs hP hD hS => ?_)
  have hP : va_P D vwCl [(h0, .inr (12, [.ref g0, .ref g1, .ref g2, .ref g3, .ref g4, .int 4, .ref g5, .ref g6, .ref g7, .ref g8, .ref g9, .int 0, .ref g10, .ref g11, .ref g12, .ref g13, .ref g14, .ref g15, .ref g16, .ref g17, .int 0, .ref g18, .int 0, .ref g19, .int 0, .int 0, .int 0, .int 0, .int 0, .int 0, .int 0, .int 0, .long 0, .ref g20, .ref g21, .ref g22, .ref g23, .ref g24, .ref g25, .ref g26, .ref g27, .ref g28, .ref g29, .ref g30, .int 0, .int 1, .int 0, .ref g31, .ref g32, .int 0, .ref g33, .ref g34, .ref g35, .ref g36, .int 0, .ref g37, .int 0, .ref g38, .ref g39, .ref g40, .ref g41, .ref g42, .ref g43, .ref g44, .ref g45, .ref g46, .ref g47, .int 0, .int 0, .int 4, .ref g48, .ref g49, .ref g50, .ref g51, .ref g52, .ref g53, .ref g54, .ref g55, .ref g56, .ref g57, .ref g58, .ref g59, .ref g60, .int 0, .int 0, .int 0, .int 0, .int 0, .int 0, .int 0, .int 0, .int 0, .int 0, .int 0, .int 0, .int 0, .int 0, .int 0, .int 0, .int 0, .int 0, .int 0, .int 0, .ref g61, .ref g62, .int 0, .ref g63, .ref g64, .ref g65, .ref g66, .int 0, .int 0, .ref g67, .ref g68, .int 0, .ref g69, .int 0, .int 0]))] H := hP
  have hD : va_D A [(h0, .inr (12, [.ref g0, .ref g1, .ref g2, .ref g3, .ref g4, .int 4, .ref g5, .ref g6, .ref g7, .ref g8, .ref g9, .int 0, .ref g10, .ref g11, .ref g12, .ref g13, .ref g14, .ref g15, .ref g16, .ref g17, .int 0, .ref g18, .int 0, .ref g19, .int 0, .int 0, .int 0, .int 0, .int 0, .int 0, .int 0, .int 0, .long 0, .ref g20, .ref g21, .ref g22, .ref g23, .ref g24, .ref g25, .ref g26, .ref g27, .ref g28, .ref g29, .ref g30, .int 0, .int 1, .int 0, .ref g31, .ref g32, .int 0, .ref g33, .ref g34, .ref g35, .ref g36, .int 0, .ref g37, .int 0, .ref g38, .ref g39, .ref g40, .ref g41, .ref g42, .ref g43, .ref g44, .ref g45, .ref g46, .ref g47, .int 0, .int 0, .int 4, .ref g48, .ref g49, .ref g50, .ref g51, .ref g52, .ref g53, .ref g54, .ref g55, .ref g56, .ref g57, .ref g58, .ref g59, .ref g60, .int 0, .int 0, .int 0, .int 0, .int 0, .int 0, .int 0, .int 0, .int 0, .int 0, .int 0, .int 0, .int 0, .int 0, .int 0, .int 0, .int 0, .int 0, .int 0, .int 0, .ref g61, .ref g62, .int 0, .ref g63, .ref g64, .ref g65, .ref g66, .int 0, .int 0, .ref g67, .ref g68, .int 0, .ref g69, .int 0, .int 0]))] := hD
  refine W.widen (k := 0) (n := 0) (Nat.le_of_ble_eq_true rfl) (Nat.le_of_ble_eq_true rfl) ?_
  exact rtV hx hb hr hlocks hS hP hD rfl dX12_cleans_16

set_option maxHeartbeats 4000000 in
set_option maxRecDepth 100000 in
theorem c_X12_piles_0 (l : Launch) (D : va_G) (cI cZ cB cJ : ClassId) (h0 h1 g0 g1 g2 g3 g4 g5 g6 g7 g8 g9 g10 g11 g12 g13 g14 g15 g16 g17 g18 g19 g20 g21 g22 g23 g24 g25 g26 g27 g28 g29 g30 g31 g32 g33 g34 g35 g36 g37 g38 g39 g40 g41 g42 g43 g44 g45 g46 g47 g48 g49 g50 g51 g52 g53 g54 g55 g56 g57 g58 g59 g60 g61 g62 g63 g64 g65 g66 g67 g68 : Nat) : CtV l D (TT cI cZ cB cJ) yX12_piles cX12_piles 2 none 0 0 0 0 [.ref h0, .int 1] [(h0, .inr (12, [.ref g0, .ref g1, .ref g2, .ref g3, .ref g4, .int 4, .ref g5, .ref g6, .ref g7, .ref g8, .ref h1, .int 0, .ref g9, .ref g10, .ref g11, .ref g12, .ref g13, .ref g14, .ref g15, .ref g16, .int 0, .ref g17, .int 0, .ref g18, .int 0, .int 0, .int 0, .int 0, .int 0, .int 0, .int 0, .int 0, .long 0, .ref g19, .ref g20, .ref g21, .ref g22, .ref g23, .ref g24, .ref g25, .ref g26, .ref g27, .ref g28, .ref g29, .int 0, .int 1, .int 0, .ref g30, .ref g31, .int 0, .ref g32, .ref g33, .ref g34, .ref g35, .int 0, .ref g36, .int 0, .ref g37, .ref g38, .ref g39, .ref g40, .ref g41, .ref g42, .ref g43, .ref g44, .ref g45, .ref g46, .int 0, .int 0, .int 4, .ref g47, .ref g48, .ref g49, .ref g50, .ref g51, .ref g52, .ref g53, .ref g54, .ref g55, .ref g56, .ref g57, .ref g58, .ref g59, .int 0, .int 0, .int 0, .int 0, .int 0, .int 0, .int 0, .int 0, .int 0, .int 0, .int 0, .int 0, .int 0, .int 0, .int 0, .int 0, .int 0, .int 0, .int 0, .int 0, .ref g60, .ref g61, .int 0, .ref g62, .ref g63, .ref g64, .ref g65, .int 0, .int 0, .ref g66, .ref g67, .int 0, .ref g68, .int 0, .int 0])), (h1, .inl (cI, 1200, .inl (fun _ => 0)))] (fun w1 => w1 = [(h0, .inr (12, [.ref g0, .ref g1, .ref g2, .ref g3, .ref g4, .int 4, .ref g5, .ref g6, .ref g7, .ref g8, .ref h1, .int 1, .ref g9, .ref g10, .ref g11, .ref g12, .ref g13, .ref g14, .ref g15, .ref g16, .int 0, .ref g17, .int 0, .ref g18, .int 0, .int 0, .int 0, .int 0, .int 0, .int 0, .int 0, .int 0, .long 0, .ref g19, .ref g20, .ref g21, .ref g22, .ref g23, .ref g24, .ref g25, .ref g26, .ref g27, .ref g28, .ref g29, .int 0, .int 1, .int 0, .ref g30, .ref g31, .int 0, .ref g32, .ref g33, .ref g34, .ref g35, .int 0, .ref g36, .int 0, .ref g37, .ref g38, .ref g39, .ref g40, .ref g41, .ref g42, .ref g43, .ref g44, .ref g45, .ref g46, .int 0, .int 0, .int 4, .ref g47, .ref g48, .ref g49, .ref g50, .ref g51, .ref g52, .ref g53, .ref g54, .ref g55, .ref g56, .ref g57, .ref g58, .ref g59, .int 0, .int 0, .int 0, .int 0, .int 0, .int 0, .int 0, .int 0, .int 0, .int 0, .int 0, .int 0, .int 0, .int 0, .int 0, .int 0, .int 0, .int 0, .int 0, .int 0, .ref g60, .ref g61, .int 0, .ref g62, .ref g63, .ref g64, .ref g65, .int 0, .int 0, .ref g66, .ref g67, .int 0, .ref g68, .int 0, .int 0])), (h1, .inl (cI, 1200, .inl (upd (fun _ => 0) 0 1)))]) := by
  refine CtV.of (by decide +kernel) (Nat.le_of_ble_eq_true rfl) ?_
  intro p e s m below meth c A ls hx hb hr hml hown hts hnw hlocks hin hA hS hP hK hD hl
  have hown : s.vm.findClass RX12 = some m.cls := hown
  have hl : lv_has ls 2 [(0, .ref h0), (1, .int 1)] := hl
  refine lv_aload_n hx hb dX12_piles_0 rfl (lv_at hl 0 rfl) ?_
  refine va_get (D := D) (ci := 12) (v := .ref h1) (C := RX12) (T := TX12) (N := 118) hx hb hts inX12 hown hK hP 0 rfl rfl 10 (by decide) (hts _ wm_1377) (fun _ h9 => h9) rfl dX12_piles_1 ?_
  refine lv_aload_n hx hb dX12_piles_4 rfl (lv_at hl 0 rfl) ?_
  refine va_get (D := D) (ci := 12) (v := .int 0) (C := RX12) (T := TX12) (N := 118) hx hb hts inX12 hown hK hP 0 rfl rfl 11 (by decide) (hts _ wm_1378) (fun _ h9 => h9) rfl dX12_piles_5 ?_
  refine lv_iload_n hx hb dX12_piles_8 rfl (lv_at hl 1 rfl) ?_
  refine as_i (k := 0) hx hb hK hP hD hS 1 0 rfl rfl (vpi (by decide +kernel)) (by decide +kernel) dX12_piles_9 (fun H locs hP hD hS => ?_)
  have hP : va_P D vwCl [(h0, .inr (12, [.ref g0, .ref g1, .ref g2, .ref g3, .ref g4, .int 4, .ref g5, .ref g6, .ref g7, .ref g8, .ref h1, .int 0, .ref g9, .ref g10, .ref g11, .ref g12, .ref g13, .ref g14, .ref g15, .ref g16, .int 0, .ref g17, .int 0, .ref g18, .int 0, .int 0, .int 0, .int 0, .int 0, .int 0, .int 0, .int 0, .long 0, .ref g19, .ref g20, .ref g21, .ref g22, .ref g23, .ref g24, .ref g25, .ref g26, .ref g27, .ref g28, .ref g29, .int 0, .int 1, .int 0, .ref g30, .ref g31, .int 0, .ref g32, .ref g33, .ref g34, .ref g35, .int 0, .ref g36, .int 0, .ref g37, .ref g38, .ref g39, .ref g40, .ref g41, .ref g42, .ref g43, .ref g44, .ref g45, .ref g46, .int 0, .int 0, .int 4, .ref g47, .ref g48, .ref g49, .ref g50, .ref g51, .ref g52, .ref g53, .ref g54, .ref g55, .ref g56, .ref g57, .ref g58, .ref g59, .int 0, .int 0, .int 0, .int 0, .int 0, .int 0, .int 0, .int 0, .int 0, .int 0, .int 0, .int 0, .int 0, .int 0, .int 0, .int 0, .int 0, .int 0, .int 0, .int 0, .ref g60, .ref g61, .int 0, .ref g62, .ref g63, .ref g64, .ref g65, .int 0, .int 0, .ref g66, .ref g67, .int 0, .ref g68, .int 0, .int 0])), (h1, .inl (cI, 1200, .inl (upd (fun _ => 0) 0 1)))] H := hP
  have hD : va_D A [(h0, .inr (12, [.ref g0, .ref g1, .ref g2, .ref g3, .ref g4, .int 4, .ref g5, .ref g6, .ref g7, .ref g8, .ref h1, .int 0, .ref g9, .ref g10, .ref g11, .ref g12, .ref g13, .ref g14, .ref g15, .ref g16, .int 0, .ref g17, .int 0, .ref g18, .int 0, .int 0, .int 0, .int 0, .int 0, .int 0, .int 0, .int 0, .long 0, .ref g19, .ref g20, .ref g21, .ref g22, .ref g23, .ref g24, .ref g25, .ref g26, .ref g27, .ref g28, .ref g29, .int 0, .int 1, .int 0, .ref g30, .ref g31, .int 0, .ref g32, .ref g33, .ref g34, .ref g35, .int 0, .ref g36, .int 0, .ref g37, .ref g38, .ref g39, .ref g40, .ref g41, .ref g42, .ref g43, .ref g44, .ref g45, .ref g46, .int 0, .int 0, .int 4, .ref g47, .ref g48, .ref g49, .ref g50, .ref g51, .ref g52, .ref g53, .ref g54, .ref g55, .ref g56, .ref g57, .ref g58, .ref g59, .int 0, .int 0, .int 0, .int 0, .int 0, .int 0, .int 0, .int 0, .int 0, .int 0, .int 0, .int 0, .int 0, .int 0, .int 0, .int 0, .int 0, .int 0, .int 0, .int 0, .ref g60, .ref g61, .int 0, .ref g62, .ref g63, .ref g64, .ref g65, .int 0, .int 0, .ref g66, .ref g67, .int 0, .ref g68, .int 0, .int 0])), (h1, .inl (cI, 1200, .inl (upd (fun _ => 0) 0 1)))] := hD
  refine lv_aload_n hx hb dX12_piles_10 rfl (lv_at hl 0 rfl) ?_
  refine pcn (b := 11) rfl ?_
  refine lv_aload_n hx hb dX12_piles_11 rfl (lv_at hl 0 rfl) ?_
  refine va_get (D := D) (ci := 12) (v := .int 0) (C := RX12) (T := TX12) (N := 118) hx hb hts inX12 hown hK hP 0 rfl rfl 11 (by decide) (hts _ wm_1378) (fun _ h9 => h9) rfl dX12_piles_12 ?_
  refine lv_iconst (v := 1) hx hb dX12_piles_15 (by decide +kernel) ?_
  refine lv_iadd hx hb dX12_piles_16 ?_
  refine nrm (y := 1) (by decide +kernel) ?_
  refine va_put (D := D) (ci := 12) (v := .int 1) (ty := .int) (C := RX12) (T := TX12) (N := 118) hx hb hts inX12 tyX12 tyX12_ok nmX12 hown hK hP hD hS 0 rfl rfl 11 (by decide) (hts _ wm_1378) (fun _ h9 => h9) rfl (by decide +kernel) rfl rfl (Nat.le_of_ble_eq_true rfl) dX12_piles_17 (fun H locs hP hD hS => ?_)
  have hP : va_P D vwCl [(h0, .inr (12, [.ref g0, .ref g1, .ref g2, .ref g3, .ref g4, .int 4, .ref g5, .ref g6, .ref g7, .ref g8, .ref h1, .int 1, .ref g9, .ref g10, .ref g11, .ref g12, .ref g13, .ref g14, .ref g15, .ref g16, .int 0, .ref g17, .int 0, .ref g18, .int 0, .int 0, .int 0, .int 0, .int 0, .int 0, .int 0, .int 0, .long 0, .ref g19, .ref g20, .ref g21, .ref g22, .ref g23, .ref g24, .ref g25, .ref g26, .ref g27, .ref g28, .ref g29, .int 0, .int 1, .int 0, .ref g30, .ref g31, .int 0, .ref g32, .ref g33, .ref g34, .ref g35, .int 0, .ref g36, .int 0, .ref g37, .ref g38, .ref g39, .ref g40, .ref g41, .ref g42, .ref g43, .ref g44, .ref g45, .ref g46, .int 0, .int 0, .int 4, .ref g47, .ref g48, .ref g49, .ref g50, .ref g51, .ref g52, .ref g53, .ref g54, .ref g55, .ref g56, .ref g57, .ref g58, .ref g59, .int 0, .int 0, .int 0, .int 0, .int 0, .int 0, .int 0, .int 0, .int 0, .int 0, .int 0, .int 0, .int 0, .int 0, .int 0, .int 0, .int 0, .int 0, .int 0, .int 0, .ref g60, .ref g61, .int 0, .ref g62, .ref g63, .ref g64, .ref g65, .int 0, .int 0, .ref g66, .ref g67, .int 0, .ref g68, .int 0, .int 0])), (h1, .inl (cI, 1200, .inl (upd (fun _ => 0) 0 1)))] H := hP
  have hD : va_D A [(h0, .inr (12, [.ref g0, .ref g1, .ref g2, .ref g3, .ref g4, .int 4, .ref g5, .ref g6, .ref g7, .ref g8, .ref h1, .int 1, .ref g9, .ref g10, .ref g11, .ref g12, .ref g13, .ref g14, .ref g15, .ref g16, .int 0, .ref g17, .int 0, .ref g18, .int 0, .int 0, .int 0, .int 0, .int 0, .int 0, .int 0, .int 0, .long 0, .ref g19, .ref g20, .ref g21, .ref g22, .ref g23, .ref g24, .ref g25, .ref g26, .ref g27, .ref g28, .ref g29, .int 0, .int 1, .int 0, .ref g30, .ref g31, .int 0, .ref g32, .ref g33, .ref g34, .ref g35, .int 0, .ref g36, .int 0, .ref g37, .ref g38, .ref g39, .ref g40, .ref g41, .ref g42, .ref g43, .ref g44, .ref g45, .ref g46, .int 0, .int 0, .int 4, .ref g47, .ref g48, .ref g49, .ref g50, .ref g51, .ref g52, .ref g53, .ref g54, .ref g55, .ref g56, .ref g57, .ref g58, .ref g59, .int 0, .int 0, .int 0, .int 0, .int 0, .int 0, .int 0, .int 0, .int 0, .int 0, .int 0, .int 0, .int 0, .int 0, .int 0, .int 0, .int 0, .int 0, .int 0, .int 0, .ref g60, .ref g61, .int 0, .ref g62, .ref g63, .ref g64, .ref g65, .int 0, .int 0, .ref g66, .ref g67, .int 0, .ref g68, .int 0, .int 0])), (h1, .inl (cI, 1200, .inl (upd (fun _ => 0) 0 1)))] := hD
  refine W.widen (k := 0) (n := 0) (Nat.le_of_ble_eq_true rfl) (Nat.le_of_ble_eq_true rfl) ?_
  exact rtV hx hb hr hlocks hS hP hD rfl dX12_piles_20

set_option maxHeartbeats 4000000 in
set_option maxRecDepth 100000 in
theorem c_X12_takes_0 (l : Launch) (D : va_G) (cI cZ cB cJ : ClassId) (h0 h1 g0 g1 g2 g3 g4 g5 g6 g7 g8 g9 g10 g11 g12 g13 g14 g15 g16 g17 g18 g19 g20 g21 g22 g23 g24 g25 g26 g27 g28 g29 g30 g31 g32 g33 g34 g35 g36 g37 g38 g39 g40 g41 g42 g43 g44 g45 g46 g47 g48 g49 g50 g51 g52 g53 g54 g55 g56 g57 g58 g59 g60 g61 g62 g63 g64 g65 g66 g67 g68 : Nat) : CtI l D (TT cI cZ cB cJ) yX12_takes cX12_takes 1 (some .int) 0 0 0 0 [.ref h0] [(h0, .inr (12, [.ref g0, .ref g1, .ref g2, .ref g3, .ref g4, .int 4, .ref g5, .ref g6, .ref g7, .ref g8, .ref h1, .int 1, .ref g9, .ref g10, .ref g11, .ref g12, .ref g13, .ref g14, .ref g15, .ref g16, .int 0, .ref g17, .int 0, .ref g18, .int 0, .int 0, .int 0, .int 0, .int 0, .int 0, .int 0, .int 0, .long 0, .ref g19, .ref g20, .ref g21, .ref g22, .ref g23, .ref g24, .ref g25, .ref g26, .ref g27, .ref g28, .ref g29, .int 0, .int 1, .int 0, .ref g30, .ref g31, .int 0, .ref g32, .ref g33, .ref g34, .ref g35, .int 0, .ref g36, .int 0, .ref g37, .ref g38, .ref g39, .ref g40, .ref g41, .ref g42, .ref g43, .ref g44, .ref g45, .ref g46, .int 0, .int 0, .int 4, .ref g47, .ref g48, .ref g49, .ref g50, .ref g51, .ref g52, .ref g53, .ref g54, .ref g55, .ref g56, .ref g57, .ref g58, .ref g59, .int 0, .int 0, .int 0, .int 0, .int 0, .int 0, .int 0, .int 0, .int 0, .int 0, .int 0, .int 0, .int 0, .int 0, .int 0, .int 0, .int 0, .int 0, .int 0, .int 0, .ref g60, .ref g61, .int 0, .ref g62, .ref g63, .ref g64, .ref g65, .int 0, .int 0, .ref g66, .ref g67, .int 0, .ref g68, .int 0, .int 0])), (h1, .inl (cI, 1200, .inl (upd (fun _ => 0) 0 1)))] (fun r w1 => r = 1 ∧ w1 = [(h0, .inr (12, [.ref g0, .ref g1, .ref g2, .ref g3, .ref g4, .int 4, .ref g5, .ref g6, .ref g7, .ref g8, .ref h1, .int 0, .ref g9, .ref g10, .ref g11, .ref g12, .ref g13, .ref g14, .ref g15, .ref g16, .int 0, .ref g17, .int 0, .ref g18, .int 0, .int 0, .int 0, .int 0, .int 0, .int 0, .int 0, .int 0, .long 0, .ref g19, .ref g20, .ref g21, .ref g22, .ref g23, .ref g24, .ref g25, .ref g26, .ref g27, .ref g28, .ref g29, .int 0, .int 1, .int 0, .ref g30, .ref g31, .int 0, .ref g32, .ref g33, .ref g34, .ref g35, .int 0, .ref g36, .int 0, .ref g37, .ref g38, .ref g39, .ref g40, .ref g41, .ref g42, .ref g43, .ref g44, .ref g45, .ref g46, .int 0, .int 0, .int 4, .ref g47, .ref g48, .ref g49, .ref g50, .ref g51, .ref g52, .ref g53, .ref g54, .ref g55, .ref g56, .ref g57, .ref g58, .ref g59, .int 0, .int 0, .int 0, .int 0, .int 0, .int 0, .int 0, .int 0, .int 0, .int 0, .int 0, .int 0, .int 0, .int 0, .int 0, .int 0, .int 0, .int 0, .int 0, .int 0, .ref g60, .ref g61, .int 0, .ref g62, .ref g63, .ref g64, .ref g65, .int 0, .int 0, .ref g66, .ref g67, .int 0, .ref g68, .int 0, .int 0])), (h1, .inl (cI, 1200, .inl (upd (fun _ => 0) 0 1)))]) := by
  refine CtI.of (by decide +kernel) (Nat.le_of_ble_eq_true rfl) ?_
  intro p e s m below meth c A ls hx hb hr hml hown hts hnw hlocks hin hA hS hP hK hD hl
  have hown : s.vm.findClass RX12 = some m.cls := hown
  have hl : lv_has ls 1 [(0, .ref h0)] := hl
  refine lv_aload_n hx hb dX12_takes_0 rfl (lv_at hl 0 rfl) ?_
  refine lv_aload_n hx hb dX12_takes_1 rfl (lv_at hl 0 rfl) ?_
  refine va_get (D := D) (ci := 12) (v := .int 1) (C := RX12) (T := TX12) (N := 118) hx hb hts inX12 hown hK hP 0 rfl rfl 11 (by decide) (hts _ wm_1378) (fun _ h9 => h9) rfl dX12_takes_2 ?_
  refine lv_iconst (v := 1) hx hb dX12_takes_5 (by decide +kernel) ?_
  refine lv_isub hx hb dX12_takes_6 ?_
  refine nrm (y := 0) (by decide +kernel) ?_
  refine va_put (D := D) (ci := 12) (v := .int 0) (ty := .int) (C := RX12) (T := TX12) (N := 118) hx hb hts inX12 tyX12 tyX12_ok nmX12 hown hK hP hD hS 0 rfl rfl 11 (by decide) (hts _ wm_1378) (fun _ h9 => h9) rfl (by decide +kernel) rfl rfl (Nat.le_of_ble_eq_true rfl) dX12_takes_7 (fun H locs hP hD hS => ?_)
  have hP : va_P D vwCl [(h0, .inr (12, [.ref g0, .ref g1, .ref g2, .ref g3, .ref g4, .int 4, .ref g5, .ref g6, .ref g7, .ref g8, .ref h1, .int 0, .ref g9, .ref g10, .ref g11, .ref g12, .ref g13, .ref g14, .ref g15, .ref g16, .int 0, .ref g17, .int 0, .ref g18, .int 0, .int 0, .int 0, .int 0, .int 0, .int 0, .int 0, .int 0, .long 0, .ref g19, .ref g20, .ref g21, .ref g22, .ref g23, .ref g24, .ref g25, .ref g26, .ref g27, .ref g28, .ref g29, .int 0, .int 1, .int 0, .ref g30, .ref g31, .int 0, .ref g32, .ref g33, .ref g34, .ref g35, .int 0, .ref g36, .int 0, .ref g37, .ref g38, .ref g39, .ref g40, .ref g41, .ref g42, .ref g43, .ref g44, .ref g45, .ref g46, .int 0, .int 0, .int 4, .ref g47, .ref g48, .ref g49, .ref g50, .ref g51, .ref g52, .ref g53, .ref g54, .ref g55, .ref g56, .ref g57, .ref g58, .ref g59, .int 0, .int 0, .int 0, .int 0, .int 0, .int 0, .int 0, .int 0, .int 0, .int 0, .int 0, .int 0, .int 0, .int 0, .int 0, .int 0, .int 0, .int 0, .int 0, .int 0, .ref g60, .ref g61, .int 0, .ref g62, .ref g63, .ref g64, .ref g65, .int 0, .int 0, .ref g66, .ref g67, .int 0, .ref g68, .int 0, .int 0])), (h1, .inl (cI, 1200, .inl (upd (fun _ => 0) 0 1)))] H := hP
  have hD : va_D A [(h0, .inr (12, [.ref g0, .ref g1, .ref g2, .ref g3, .ref g4, .int 4, .ref g5, .ref g6, .ref g7, .ref g8, .ref h1, .int 0, .ref g9, .ref g10, .ref g11, .ref g12, .ref g13, .ref g14, .ref g15, .ref g16, .int 0, .ref g17, .int 0, .ref g18, .int 0, .int 0, .int 0, .int 0, .int 0, .int 0, .int 0, .int 0, .long 0, .ref g19, .ref g20, .ref g21, .ref g22, .ref g23, .ref g24, .ref g25, .ref g26, .ref g27, .ref g28, .ref g29, .int 0, .int 1, .int 0, .ref g30, .ref g31, .int 0, .ref g32, .ref g33, .ref g34, .ref g35, .int 0, .ref g36, .int 0, .ref g37, .ref g38, .ref g39, .ref g40, .ref g41, .ref g42, .ref g43, .ref g44, .ref g45, .ref g46, .int 0, .int 0, .int 4, .ref g47, .ref g48, .ref g49, .ref g50, .ref g51, .ref g52, .ref g53, .ref g54, .ref g55, .ref g56, .ref g57, .ref g58, .ref g59, .int 0, .int 0, .int 0, .int 0, .int 0, .int 0, .int 0, .int 0, .int 0, .int 0, .int 0, .int 0, .int 0, .int 0, .int 0, .int 0, .int 0, .int 0, .int 0, .int 0, .ref g60, .ref g61, .int 0, .ref g62, .ref g63, .ref g64, .ref g65, .int 0, .int 0, .ref g66, .ref g67, .int 0, .ref g68, .int 0, .int 0])), (h1, .inl (cI, 1200, .inl (upd (fun _ => 0) 0 1)))] := hD
  refine lv_aload_n hx hb dX12_takes_10 rfl (lv_at hl 0 rfl) ?_
  refine pcn (b := 11) rfl ?_
  refine va_get (D := D) (ci := 12) (v := .ref h1) (C := RX12) (T := TX12) (N := 118) hx hb hts inX12 hown hK hP 0 rfl rfl 10 (by decide) (hts _ wm_1377) (fun _ h9 => h9) rfl dX12_takes_11 ?_
  refine lv_aload_n hx hb dX12_takes_14 rfl (lv_at hl 0 rfl) ?_
  refine va_get (D := D) (ci := 12) (v := .int 0) (C := RX12) (T := TX12) (N := 118) hx hb hts inX12 hown hK hP 0 rfl rfl 11 (by decide) (hts _ wm_1378) (fun _ h9 => h9) rfl dX12_takes_15 ?_
  refine al_i (x := 1) hx hb hK hP 1 0 rfl rfl (vpi (by decide +kernel)) (by first | decide +kernel | rfl) dX12_takes_18 ?_
  refine W.widen (k := 0) (n := 0) (Nat.le_of_ble_eq_true rfl) (Nat.le_of_ble_eq_true rfl) ?_
  exact rtI hx hb hr hlocks hS hP hD ⟨rfl, rfl⟩ dX12_takes_19

set_option maxHeartbeats 4000000 in
set_option maxRecDepth 100000 in
theorem c_X12_says_0 (l : Launch) (D : va_G) (cI cZ cB cJ : ClassId) (h0 h1 g0 g1 g2 g3 g4 g5 g6 g7 g8 g9 g10 g11 g12 g13 g14 g15 g16 g17 g18 g19 g20 g21 g22 g23 g24 g25 g26 g27 g28 g29 g30 g31 g32 g33 g34 g35 g36 g37 g38 g39 g40 g41 g42 g43 g44 g45 g46 g47 g48 g49 g50 g51 g52 g53 g54 g55 g56 g57 g58 g59 g60 g61 g62 g63 g64 g65 g66 g67 g68 : Nat) : CtV l D (TT cI cZ cB cJ) yX12_says cX12_says 2 none 0 0 0 0 [.ref h0, .int 105] [(h0, .inr (12, [.ref g0, .ref g1, .ref g2, .ref g3, .ref g4, .int 4, .ref g5, .ref g6, .ref g7, .ref g8, .ref g9, .int 0, .ref g10, .ref g11, .ref g12, .ref g13, .ref g14, .ref g15, .ref g16, .ref g17, .int 0, .ref g18, .int 0, .ref g19, .int 0, .int 0, .int 0, .int 0, .int 0, .int 0, .int 0, .int 0, .long 0, .ref g20, .ref g21, .ref g22, .ref g23, .ref g24, .ref g25, .ref g26, .ref g27, .ref g28, .ref g29, .ref g30, .int 0, .int 1, .int 0, .ref g31, .ref g32, .int 0, .ref g33, .ref g34, .ref g35, .ref g36, .int 0, .ref g37, .int 0, .ref g38, .ref g39, .ref g40, .ref g41, .ref g42, .ref g43, .ref g44, .ref g45, .ref g46, .ref g47, .int 0, .int 0, .int 4, .ref g48, .ref g49, .ref g50, .ref g51, .ref g52, .ref g53, .ref g54, .ref g55, .ref g56, .ref g57, .ref g58, .ref g59, .ref g60, .int 0, .int 0, .int 0, .int 0, .int 0, .int 0, .int 0, .int 0, .int 0, .int 0, .int 0, .int 0, .int 0, .int 0, .int 0, .int 0, .int 0, .int 0, .int 0, .int 0, .ref g61, .ref g62, .int 0, .ref g63, .ref g64, .ref g65, .ref g66, .int 0, .int 0, .ref g67, .ref h1, .int 0, .ref g68, .int 0, .int 0])), (h1, .inl (cB, 3000, .inl (fun _ => 0)))] (fun w1 => w1 = [(h0, .inr (12, [.ref g0, .ref g1, .ref g2, .ref g3, .ref g4, .int 4, .ref g5, .ref g6, .ref g7, .ref g8, .ref g9, .int 0, .ref g10, .ref g11, .ref g12, .ref g13, .ref g14, .ref g15, .ref g16, .ref g17, .int 0, .ref g18, .int 0, .ref g19, .int 0, .int 0, .int 0, .int 0, .int 0, .int 0, .int 0, .int 0, .long 0, .ref g20, .ref g21, .ref g22, .ref g23, .ref g24, .ref g25, .ref g26, .ref g27, .ref g28, .ref g29, .ref g30, .int 0, .int 1, .int 0, .ref g31, .ref g32, .int 0, .ref g33, .ref g34, .ref g35, .ref g36, .int 0, .ref g37, .int 0, .ref g38, .ref g39, .ref g40, .ref g41, .ref g42, .ref g43, .ref g44, .ref g45, .ref g46, .ref g47, .int 0, .int 0, .int 4, .ref g48, .ref g49, .ref g50, .ref g51, .ref g52, .ref g53, .ref g54, .ref g55, .ref g56, .ref g57, .ref g58, .ref g59, .ref g60, .int 0, .int 0, .int 0, .int 0, .int 0, .int 0, .int 0, .int 0, .int 0, .int 0, .int 0, .int 0, .int 0, .int 0, .int 0, .int 0, .int 0, .int 0, .int 0, .int 0, .ref g61, .ref g62, .int 0, .ref g63, .ref g64, .ref g65, .ref g66, .int 0, .int 0, .ref g67, .ref h1, .int 1, .ref g68, .int 0, .int 0])), (h1, .inl (cB, 3000, .inl (upd (fun _ => 0) 0 105)))]) := by
  refine CtV.of (by decide +kernel) (Nat.le_of_ble_eq_true rfl) ?_
  intro p e s m below meth c A ls hx hb hr hml hown hts hnw hlocks hin hA hS hP hK hD hl
  have hown : s.vm.findClass RX12 = some m.cls := hown
  have hl : lv_has ls 2 [(0, .ref h0), (1, .int 105)] := hl
  refine lv_aload_n hx hb dX12_says_0 rfl (lv_at hl 0 rfl) ?_
  refine va_get (D := D) (ci := 12) (v := .int 0) (C := RX12) (T := TX12) (N := 118) hx hb hts inX12 hown hK hP 0 rfl rfl 114 (by decide) (hts _ wm_1481) (fun _ h9 => h9) rfl dX12_says_1 ?_
  refine lv_sipush (v := 3000) hx hb dX12_says_4 (by decide +kernel) ?_
  refine lv_icmp_ne (tgt := 11) hx hb dX12_says_7 (by decide) (fun _ => ?_) (fun h9 => absurd h9 (by decide +kernel))
  refine lv_aload_n hx hb dX12_says_11 rfl (lv_at hl 0 rfl) ?_
  refine va_get (D := D) (ci := 12) (v := .ref h1) (C := RX12) (T := TX12) (N := 118) hx hb hts inX12 hown hK hP 0 rfl rfl 113 (by decide) (hts _ wm_1480) (fun _ h9 => h9) rfl dX12_says_12 ?_
  refine lv_aload_n hx hb dX12_says_15 rfl (lv_at hl 0 rfl) ?_
  refine va_get (D := D) (ci := 12) (v := .int 0) (C := RX12) (T := TX12) (N := 118) hx hb hts inX12 hown hK hP 0 rfl rfl 114 (by decide) (hts _ wm_1481) (fun _ h9 => h9) rfl dX12_says_16 ?_
  refine lv_iload_n hx hb dX12_says_19 rfl (lv_at hl 1 rfl) ?_
  refine lv_i2b (v := 105) hx hb dX12_says_20 (by decide +kernel) ?_
  refine as_b (k := 0) (x2 := 105) hx hb hK hP hD hS 1 2 rfl rfl (vpi (by decide +kernel)) (by decide +kernel) (by decide +kernel) dX12_says_21 (fun H locs hP hD hS => ?_)
  have hP : va_P D vwCl [(h0, .inr (12, [.ref g0, .ref g1, .ref g2, .ref g3, .ref g4, .int 4, .ref g5, .ref g6, .ref g7, .ref g8, .ref g9, .int 0, .ref g10, .ref g11, .ref g12, .ref g13, .ref g14, .ref g15, .ref g16, .ref g17, .int 0, .ref g18, .int 0, .ref g19, .int 0, .int 0, .int 0, .int 0, .int 0, .int 0, .int 0, .int 0, .long 0, .ref g20, .ref g21, .ref g22, .ref g23, .ref g24, .ref g25, .ref g26, .ref g27, .ref g28, .ref g29, .ref g30, .int 0, .int 1, .int 0, .ref g31, .ref g32, .int 0, .ref g33, .ref g34, .ref g35, .ref g36, .int 0, .ref g37, .int 0, .ref g38, .ref g39, .ref g40, .ref g41, .ref g42, .ref g43, .ref g44, .ref g45, .ref g46, .ref g47, .int 0, .int 0, .int 4, .ref g48, .ref g49, .ref g50, .ref g51, .ref g52, .ref g53, .ref g54, .ref g55, .ref g56, .ref g57, .ref g58, .ref g59, .ref g60, .int 0, .int 0, .int 0, .int 0, .int 0, .int 0, .int 0, .int 0, .int 0, .int 0, .int 0, .int 0, .int 0, .int 0, .int 0, .int 0, .int 0, .int 0, .int 0, .int 0, .ref g61, .ref g62, .int 0, .ref g63, .ref g64, .ref g65, .ref g66, .int 0, .int 0, .ref g67, .ref h1, .int 0, .ref g68, .int 0, .int 0])), (h1, .inl (cB, 3000, .inl (upd (fun _ => 0) 0 105)))] H := hP
  have hD : va_D A [(h0, .inr (12, [.ref g0, .ref g1, .ref g2, .ref g3, .ref g4, .int 4, .ref g5, .ref g6, .ref g7, .ref g8, .ref g9, .int 0, .ref g10, .ref g11, .ref g12, .ref g13, .ref g14, .ref g15, .ref g16, .ref g17, .int 0, .ref g18, .int 0, .ref g19, .int 0, .int 0, .int 0, .int 0, .int 0, .int 0, .int 0, .int 0, .long 0, .ref g20, .ref g21, .ref g22, .ref g23, .ref g24, .ref g25, .ref g26, .ref g27, .ref g28, .ref g29, .ref g30, .int 0, .int 1, .int 0, .ref g31, .ref g32, .int 0, .ref g33, .ref g34, .ref g35, .ref g36, .int 0, .ref g37, .int 0, .ref g38, .ref g39, .ref g40, .ref g41, .ref g42, .ref g43, .ref g44, .ref g45, .ref g46, .ref g47, .int 0, .int 0, .int 4, .ref g48, .ref g49, .ref g50, .ref g51, .ref g52, .ref g53, .ref g54, .ref g55, .ref g56, .ref g57, .ref g58, .ref g59, .ref g60, .int 0, .int 0, .int 0, .int 0, .int 0, .int 0, .int 0, .int 0, .int 0, .int 0, .int 0, .int 0, .int 0, .int 0, .int 0, .int 0, .int 0, .int 0, .int 0, .int 0, .ref g61, .ref g62, .int 0, .ref g63, .ref g64, .ref g65, .ref g66, .int 0, .int 0, .ref g67, .ref h1, .int 0, .ref g68, .int 0, .int 0])), (h1, .inl (cB, 3000, .inl (upd (fun _ => 0) 0 105)))] := hD
  refine pcn (b := 22) rfl ?_
  refine lv_aload_n hx hb dX12_says_22 rfl (lv_at hl 0 rfl) ?_
  refine lv_aload_n hx hb dX12_says_23 rfl (lv_at hl 0 rfl) ?_
  refine va_get (D := D) (ci := 12) (v := .int 0) (C := RX12) (T := TX12) (N := 118) hx hb hts inX12 hown hK hP 0 rfl rfl 114 (by decide) (hts _ wm_1481) (fun _ h9 => h9) rfl dX12_says_24 ?_
  refine lv_iconst (v := 1) hx hb dX12_says_27 (by decide +kernel) ?_
  refine lv_iadd hx hb dX12_says_28 ?_
  refine nrm (y := 1) (by decide +kernel) ?_
  refine va_put (D := D) (ci := 12) (v := .int 1) (ty := .int) (C := RX12) (T := TX12) (N := 118) hx hb hts inX12 tyX12 tyX12_ok nmX12 hown hK hP hD hS 0 rfl rfl 114 (by decide) (hts _ wm_1481) (fun _ h9 => h9) rfl (by decide +kernel) rfl rfl (Nat.le_of_ble_eq_true rfl) dX12_says_29 (fun H locs hP hD hS => ?_)
  have hP : va_P D vwCl [(h0, .inr (12, [.ref g0, .ref g1, .ref g2, .ref g3, .ref g4, .int 4, .ref g5, .ref g6, .ref g7, .ref g8, .ref g9, .int 0, .ref g10, .ref g11, .ref g12, .ref g13, .ref g14, .ref g15, .ref g16, .ref g17, .int 0, .ref g18, .int 0, .ref g19, .int 0, .int 0, .int 0, .int 0, .int 0, .int 0, .int 0, .int 0, .long 0, .ref g20, .ref g21, .ref g22, .ref g23, .ref g24, .ref g25, .ref g26, .ref g27, .ref g28, .ref g29, .ref g30, .int 0, .int 1, .int 0, .ref g31, .ref g32, .int 0, .ref g33, .ref g34, .ref g35, .ref g36, .int 0, .ref g37, .int 0, .ref g38, .ref g39, .ref g40, .ref g41, .ref g42, .ref g43, .ref g44, .ref g45, .ref g46, .ref g47, .int 0, .int 0, .int 4, .ref g48, .ref g49, .ref g50, .ref g51, .ref g52, .ref g53, .ref g54, .ref g55, .ref g56, .ref g57, .ref g58, .ref g59, .ref g60, .int 0, .int 0, .int 0, .int 0, .int 0, .int 0, .int 0, .int 0, .int 0, .int 0, .int 0, .int 0, .int 0, .int 0, .int 0, .int 0, .int 0, .int 0, .int 0, .int 0, .ref g61, .ref g62, .int 0, .ref g63, .ref g64, .ref g65, .ref g66, .int 0, .int 0, .ref g67, .ref h1, .int 1, .ref g68, .int 0, .int 0])), (h1, .inl (cB, 3000, .inl (upd (fun _ => 0) 0 105)))] H := hP
  have hD : va_D A [(h0, .inr (12, [.ref g0, .ref g1, .ref g2, .ref g3, .ref g4, .int 4, .ref g5, .ref g6, .ref g7, .ref g8, .ref g9, .int 0, .ref g10, .ref g11, .ref g12, .ref g13, .ref g14, .ref g15, .ref g16, .ref g17, .int 0, .ref g18, .int 0, .ref g19, .int 0, .int 0, .int 0, .int 0, .int 0, .int 0, .int 0, .int 0, .long 0, .ref g20, .ref g21, .ref g22, .ref g23, .ref g24, .ref g25, .ref g26, .ref g27, .ref g28, .ref g29, .ref g30, .int 0, .int 1, .int 0, .ref g31, .ref g32, .int 0, .ref g33, .ref g34, .ref g35, .ref g36, .int 0, .ref g37, .int 0, .ref g38, .ref g39, .ref g40, .ref g41, .ref g42, .ref g43, .ref g44, .ref g45, .ref g46, .ref g47, .int 0, .int 0, .int 4, .ref g48, .ref g49, .ref g50, .ref g51, .ref g52, .ref g53, .ref g54, .ref g55, .ref g56, .ref g57, .ref g58, .ref g59, .ref g60, .int 0, .int 0, .int 0, .int 0, .int 0, .int 0, .int 0, .int 0, .int 0, .int 0, .int 0, .int 0, .int 0, .int 0, .int 0, .int 0, .int 0, .int 0, .int 0, .int 0, .ref g61, .ref g62, .int 0, .ref g63, .ref g64, .ref g65, .ref g66, .int 0, .int 0, .ref g67, .ref h1, .int 1, .ref g68, .int 0, .int 0])), (h1, .inl (cB, 3000, .inl (upd (fun _ => 0) 0 105)))] := hD
  refine W.widen (k := 0) (n := 0) (Nat.le_of_ble_eq_true rfl) (Nat.le_of_ble_eq_true rfl) ?_
  exact rtV hx hb hr hlocks hS hP hD rfl dX12_says_32

set_option maxHeartbeats 4000000 in
set_option maxRecDepth 100000 in
theorem c_X12_says_1 (l : Launch) (D : va_G) (cI cZ cB cJ : ClassId) (h0 h1 g0 g1 g2 g3 g4 g5 g6 g7 g8 g9 g10 g11 g12 g13 g14 g15 g16 g17 g18 g19 g20 g21 g22 g23 g24 g25 g26 g27 g28 g29 g30 g31 g32 g33 g34 g35 g36 g37 g38 g39 g40 g41 g42 g43 g44 g45 g46 g47 g48 g49 g50 g51 g52 g53 g54 g55 g56 g57 g58 g59 g60 g61 g62 g63 g64 g65 g66 g67 g68 : Nat) : CtV l D (TT cI cZ cB cJ) yX12_says cX12_says 2 none 0 0 0 0 [.ref h0, .int 110] [(h0, .inr (12, [.ref g0, .ref g1, .ref g2, .ref g3, .ref g4, .int 4, .ref g5, .ref g6, .ref g7, .ref g8, .ref g9, .int 0, .ref g10, .ref g11, .ref g12, .ref g13, .ref g14, .ref g15, .ref g16, .ref g17, .int 0, .ref g18, .int 0, .ref g19, .int 0, .int 0, .int 0, .int 0, .int 0, .int 0, .int 0, .int 0, .long 0, .ref g20, .ref g21, .ref g22, .ref g23, .ref g24, .ref g25, .ref g26, .ref g27, .ref g28, .ref g29, .ref g30, .int 0, .int 1, .int 0, .ref g31, .ref g32, .int 0, .ref g33, .ref g34, .ref g35, .ref g36, .int 0, .ref g37, .int 0, .ref g38, .ref g39, .ref g40, .ref g41, .ref g42, .ref g43, .ref g44, .ref g45, .ref g46, .ref g47, .int 0, .int 0, .int 4, .ref g48, .ref g49, .ref g50, .ref g51, .ref g52, .ref g53, .ref g54, .ref g55, .ref g56, .ref g57, .ref g58, .ref g59, .ref g60, .int 0, .int 0, .int 0, .int 0, .int 0, .int 0, .int 0, .int 0, .int 0, .int 0, .int 0, .int 0, .int 0, .int 0, .int 0, .int 0, .int 0, .int 0, .int 0, .int 0, .ref g61, .ref g62, .int 0, .ref g63, .ref g64, .ref g65, .ref g66, .int 0, .int 0, .ref g67, .ref h1, .int 1, .ref g68, .int 0, .int 0])), (h1, .inl (cB, 3000, .inl (upd (fun _ => 0) 0 105)))] (fun w1 => w1 = [(h0, .inr (12, [.ref g0, .ref g1, .ref g2, .ref g3, .ref g4, .int 4, .ref g5, .ref g6, .ref g7, .ref g8, .ref g9, .int 0, .ref g10, .ref g11, .ref g12, .ref g13, .ref g14, .ref g15, .ref g16, .ref g17, .int 0, .ref g18, .int 0, .ref g19, .int 0, .int 0, .int 0, .int 0, .int 0, .int 0, .int 0, .int 0, .long 0, .ref g20, .ref g21, .ref g22, .ref g23, .ref g24, .ref g25, .ref g26, .ref g27, .ref g28, .ref g29, .ref g30, .int 0, .int 1, .int 0, .ref g31, .ref g32, .int 0, .ref g33, .ref g34, .ref g35, .ref g36, .int 0, .ref g37, .int 0, .ref g38, .ref g39, .ref g40, .ref g41, .ref g42, .ref g43, .ref g44, .ref g45, .ref g46, .ref g47, .int 0, .int 0, .int 4, .ref g48, .ref g49, .ref g50, .ref g51, .ref g52, .ref g53, .ref g54, .ref g55, .ref g56, .ref g57, .ref g58, .ref g59, .ref g60, .int 0, .int 0, .int 0, .int 0, .int 0, .int 0, .int 0, .int 0, .int 0, .int 0, .int 0, .int 0, .int 0, .int 0, .int 0, .int 0, .int 0, .int 0, .int 0, .int 0, .ref g61, .ref g62, .int 0, .ref g63, .ref g64, .ref g65, .ref g66, .int 0, .int 0, .ref g67, .ref h1, .int 2, .ref g68, .int 0, .int 0])), (h1, .inl (cB, 3000, .inl (upd (upd (fun _ => 0) 0 105) 1 110)))]) := by
  refine CtV.of (by decide +kernel) (Nat.le_of_ble_eq_true rfl) ?_
  intro p e s m below meth c A ls hx hb hr hml hown hts hnw hlocks hin hA hS hP hK hD hl
  have hown : s.vm.findClass RX12 = some m.cls := hown
  have hl : lv_has ls 2 [(0, .ref h0), (1, .int 110)] := hl
  refine lv_aload_n hx hb dX12_says_0 rfl (lv_at hl 0 rfl) ?_
  refine va_get (D := D) (ci := 12) (v := .int 1) (C := RX12) (T := TX12) (N := 118) hx hb hts inX12 hown hK hP 0 rfl rfl 114 (by decide) (hts _ wm_1481) (fun _ h9 => h9) rfl dX12_says_1 ?_
  refine lv_sipush (v := 3000) hx hb dX12_says_4 (by decide +kernel) ?_
  refine lv_icmp_ne (tgt := 11) hx hb dX12_says_7 (by decide) (fun _ => ?_) (fun h9 => absurd h9 (by decide +kernel))
  refine lv_aload_n hx hb dX12_says_11 rfl (lv_at hl 0 rfl) ?_
  refine va_get (D := D) (ci := 12) (v := .ref h1) (C := RX12) (T := TX12) (N := 118) hx hb hts inX12 hown hK hP 0 rfl rfl 113 (by decide) (hts _ wm_1480) (fun _ h9 => h9) rfl dX12_says_12 ?_
  refine lv_aload_n hx hb dX12_says_15 rfl (lv_at hl 0 rfl) ?_
  refine va_get (D := D) (ci := 12) (v := .int 1) (C := RX12) (T := TX12) (N := 118) hx hb hts inX12 hown hK hP 0 rfl rfl 114 (by decide) (hts _ wm_1481) (fun _ h9 => h9) rfl dX12_says_16 ?_
  refine lv_iload_n hx hb dX12_says_19 rfl (lv_at hl 1 rfl) ?_
  refine lv_i2b (v := 110) hx hb dX12_says_20 (by decide +kernel) ?_
  refine as_b (k := 1) (x2 := 110) hx hb hK hP hD hS 1 2 rfl rfl (vpi (by decide +kernel)) (by decide +kernel) (by decide +kernel) dX12_says_21 (fun H locs hP hD hS => ?_)
  have hP : va_P D vwCl [(h0, .inr (12, [.ref g0, .ref g1, .ref g2, .ref g3, .ref g4, .int 4, .ref g5, .ref g6, .ref g7, .ref g8, .ref g9, .int 0, .ref g10, .ref g11, .ref g12, .ref g13, .ref g14, .ref g15, .ref g16, .ref g17, .int 0, .ref g18, .int 0, .ref g19, .int 0, .int 0, .int 0, .int 0, .int 0, .int 0, .int 0, .int 0, .long 0, .ref g20, .ref g21, .ref g22, .ref g23, .ref g24, .ref g25, .ref g26, .ref g27, .ref g28, .ref g29, .ref g30, .int 0, .int 1, .int 0, .ref g31, .ref g32, .int 0, .ref g33, .ref g34, .ref g35, .ref g36, .int 0, .ref g37, .int 0, .ref g38, .ref g39, .ref g40, .ref g41, .ref g42, .ref g43, .ref g44, .ref g45, .ref g46, .ref g47, .int 0, .int 0, .int 4, .ref g48, .ref g49, .ref g50, .ref g51, .ref g52, .ref g53, .ref g54, .ref g55, .ref g56, .ref g57, .ref g58, .ref g59, .ref g60, .int 0, .int 0, .int 0, .int 0, .int 0, .int 0, .int 0, .int 0, .int 0, .int 0, .int 0, .int 0, .int 0, .int 0, .int 0, .int 0, .int 0, .int 0, .int 0, .int 0, .ref g61, .ref g62, .int 0, .ref g63, .ref g64, .ref g65, .ref g66, .int 0, .int 0, .ref g67, .ref h1, .int 1, .ref g68, .int 0, .int 0])), (h1, .inl (cB, 3000, .inl (upd (upd (fun _ => 0) 0 105) 1 110)))] H := hP
  have hD : va_D A [(h0, .inr (12, [.ref g0, .ref g1, .ref g2, .ref g3, .ref g4, .int 4, .ref g5, .ref g6, .ref g7, .ref g8, .ref g9, .int 0, .ref g10, .ref g11, .ref g12, .ref g13, .ref g14, .ref g15, .ref g16, .ref g17, .int 0, .ref g18, .int 0, .ref g19, .int 0, .int 0, .int 0, .int 0, .int 0, .int 0, .int 0, .int 0, .long 0, .ref g20, .ref g21, .ref g22, .ref g23, .ref g24, .ref g25, .ref g26, .ref g27, .ref g28, .ref g29, .ref g30, .int 0, .int 1, .int 0, .ref g31, .ref g32, .int 0, .ref g33, .ref g34, .ref g35, .ref g36, .int 0, .ref g37, .int 0, .ref g38, .ref g39, .ref g40, .ref g41, .ref g42, .ref g43, .ref g44, .ref g45, .ref g46, .ref g47, .int 0, .int 0, .int 4, .ref g48, .ref g49, .ref g50, .ref g51, .ref g52, .ref g53, .ref g54, .ref g55, .ref g56, .ref g57, .ref g58, .ref g59, .ref g60, .int 0, .int 0, .int 0, .int 0, .int 0, .int 0, .int 0, .int 0, .int 0, .int 0, .int 0, .int 0, .int 0, .int 0, .int 0, .int 0, .int 0, .int 0, .int 0, .int 0, .ref g61, .ref g62, .int 0, .ref g63, .ref g64, .ref g65, .ref g66, .int 0, .int 0, .ref g67, .ref h1, .int 1, .ref g68, .int 0, .int 0])), (h1, .inl (cB, 3000, .inl (upd (upd (fun _ => 0) 0 105) 1 110)))] := hD
  refine pcn (b := 22) rfl ?_
  refine lv_aload_n hx hb dX12_says_22 rfl (lv_at hl 0 rfl) ?_
  refine lv_aload_n hx hb dX12_says_23 rfl (lv_at hl 0 rfl) ?_
  refine va_get (D := D) (ci := 12) (v := .int 1) (C := RX12) (T := TX12) (N := 118) hx hb hts inX12 hown hK hP 0 rfl rfl 114 (by decide) (hts _ wm_1481) (fun _ h9 => h9) rfl dX12_says_24 ?_
  refine lv_iconst (v := 1) hx hb dX12_says_27 (by decide +kernel) ?_
  refine lv_iadd hx hb dX12_says_28 ?_
  refine nrm (y := 2) (by decide +kernel) ?_
  refine va_put (D := D) (ci := 12) (v := .int 2) (ty := .int) (C := RX12) (T := TX12) (N := 118) hx hb hts inX12 tyX12 tyX12_ok nmX12 hown hK hP hD hS 0 rfl rfl 114 (by decide) (hts _ wm_1481) (fun _ h9 => h9) rfl (by decide +kernel) rfl rfl (Nat.le_of_ble_eq_true rfl) dX12_says_29 (fun H locs hP hD hS => ?_)
  have hP : va_P D vwCl [(h0, .inr (12, [.ref g0, .ref g1, .ref g2, .ref g3, .ref g4, .int 4, .ref g5, .ref g6, .ref g7, .ref g8, .ref g9, .int 0, .ref g10, .ref g11, .ref g12, .ref g13, .ref g14, .ref g15, .ref g16, .ref g17, .int 0, .ref g18, .int 0, .ref g19, .int 0, .int 0, .int 0, .int 0, .int 0, .int 0, .int 0, .int 0, .long 0, .ref g20, .ref g21, .ref g22, .ref g23, .ref g24, .ref g25, .ref g26, .ref g27, .ref g28, .ref g29, .ref g30, .int 0, .int 1, .int 0, .ref g31, .ref g32, .int 0, .ref g33, .ref g34, .ref g35, .ref g36, .int 0, .ref g37, .int 0, .ref g38, .ref g39, .ref g40, .ref g41, .ref g42, .ref g43, .ref g44, .ref g45, .ref g46, .ref g47, .int 0, .int 0, .int 4, .ref g48, .ref g49, .ref g50, .ref g51, .ref g52, .ref g53, .ref g54, .ref g55, .ref g56, .ref g57, .ref g58, .ref g59, .ref g60, .int 0, .int 0, .int 0, .int 0, .int 0, .int 0, .int 0, .int 0, .int 0, .int 0, .int 0, .int 0, .int 0, .int 0, .int 0, .int 0, .int 0, .int 0, .int 0, .int 0, .ref g61, .ref g62, .int 0, .ref g63, .ref g64, .ref g65, .ref g66, .int 0, .int 0, .ref g67, .ref h1, .int 2, .ref g68, .int 0, .int 0])), (h1, .inl (cB, 3000, .inl (upd (upd (fun _ => 0) 0 105) 1 110)))] H := hP
  have hD : va_D A [(h0, .inr (12, [.ref g0, .ref g1, .ref g2, .ref g3, .ref g4, .int 4, .ref g5, .ref g6, .ref g7, .ref g8, .ref g9, .int 0, .ref g10, .ref g11, .ref g12, .ref g13, .ref g14, .ref g15, .ref g16, .ref g17, .int 0, .ref g18, .int 0, .ref g19, .int 0, .int 0, .int 0, .int 0, .int 0, .int 0, .int 0, .int 0, .long 0, .ref g20, .ref g21, .ref g22, .ref g23, .ref g24, .ref g25, .ref g26, .ref g27, .ref g28, .ref g29, .ref g30, .int 0, .int 1, .int 0, .ref g31, .ref g32, .int 0, .ref g33, .ref g34, .ref g35, .ref g36, .int 0, .ref g37, .int 0, .ref g38, .ref g39, .ref g40, .ref g41, .ref g42, .ref g43, .ref g44, .ref g45, .ref g46, .ref g47, .int 0, .int 0, .int 4, .ref g48, .ref g49, .ref g50, .ref g51, .ref g52, .ref g53, .ref g54, .ref g55, .ref g56, .ref g57, .ref g58, .ref g59, .ref g60, .int 0, .int 0, .int 0, .int 0, .int 0, .int 0, .int 0, .int 0, .int 0, .int 0, .int 0, .int 0, .int 0, .int 0, .int 0, .int 0, .int 0, .int 0, .int 0, .int 0, .ref g61, .ref g62, .int 0, .ref g63, .ref g64, .ref g65, .ref g66, .int 0, .int 0, .ref g67, .ref h1, .int 2, .ref g68, .int 0, .int 0])), (h1, .inl (cB, 3000, .inl (upd (upd (fun _ => 0) 0 105) 1 110)))] := hD
  refine W.widen (k := 0) (n := 0) (Nat.le_of_ble_eq_true rfl) (Nat.le_of_ble_eq_true rfl) ?_
  exact rtV hx hb hr hlocks hS hP hD rfl dX12_says_32

set_option maxHeartbeats 4000000 in
set_option maxRecDepth 100000 in
theorem c_X12_says_2 (l : Launch) (D : va_G) (cI cZ cB cJ : ClassId) (h0 h1 g0 g1 g2 g3 g4 g5 g6 g7 g8 g9 g10 g11 g12 g13 g14 g15 g16 g17 g18 g19 g20 g21 g22 g23 g24 g25 g26 g27 g28 g29 g30 g31 g32 g33 g34 g35 g36 g37 g38 g39 g40 g41 g42 g43 g44 g45 g46 g47 g48 g49 g50 g51 g52 g53 g54 g55 g56 g57 g58 g59 g60 g61 g62 g63 g64 g65 g66 g67 g68 : Nat) : CtV l D (TT cI cZ cB cJ) yX12_says cX12_says 2 none 0 0 0 0 [.ref h0, .int 116] [(h0, .inr (12, [.ref g0, .ref g1, .ref g2, .ref g3, .ref g4, .int 4, .ref g5, .ref g6, .ref g7, .ref g8, .ref g9, .int 0, .ref g10, .ref g11, .ref g12, .ref g13, .ref g14, .ref g15, .ref g16, .ref g17, .int 0, .ref g18, .int 0, .ref g19, .int 0, .int 0, .int 0, .int 0, .int 0, .int 0, .int 0, .int 0, .long 0, .ref g20, .ref g21, .ref g22, .ref g23, .ref g24, .ref g25, .ref g26, .ref g27, .ref g28, .ref g29, .ref g30, .int 0, .int 1, .int 0, .ref g31, .ref g32, .int 0, .ref g33, .ref g34, .ref g35, .ref g36, .int 0, .ref g37, .int 0, .ref g38, .ref g39, .ref g40, .ref g41, .ref g42, .ref g43, .ref g44, .ref g45, .ref g46, .ref g47, .int 0, .int 0, .int 4, .ref g48, .ref g49, .ref g50, .ref g51, .ref g52, .ref g53, .ref g54, .ref g55, .ref g56, .ref g57, .ref g58, .ref g59, .ref g60, .int 0, .int 0, .int 0, .int 0, .int 0, .int 0, .int 0, .int 0, .int 0, .int 0, .int 0, .int 0, .int 0, .int 0, .int 0, .int 0, .int 0, .int 0, .int 0, .int 0, .ref g61, .ref g62, .int 0, .ref g63, .ref g64, .ref g65, .ref g66, .int 0, .int 0, .ref g67, .ref h1, .int 2, .ref g68, .int 0, .int 0])), (h1, .inl (cB, 3000, .inl (upd (upd (fun _ => 0) 0 105) 1 110)))] (fun w1 => w1 = [(h0, .inr (12, [.ref g0, .ref g1, .ref g2, .ref g3, .ref g4, .int 4, .ref g5, .ref g6, .ref g7, .ref g8, .ref g9, .int 0, .ref g10, .ref g11, .ref g12, .ref g13, .ref g14, .ref g15, .ref g16, .ref g17, .int 0, .ref g18, .int 0, .ref g19, .int 0, .int 0, .int 0, .int 0, .int 0, .int 0, .int 0, .int 0, .long 0, .ref g20, .ref g21, .ref g22, .ref g23, .ref g24, .ref g25, .ref g26, .ref g27, .ref g28, .ref g29, .ref g30, .int 0, .int 1, .int 0, .ref g31, .ref g32, .int 0, .ref g33, .ref g34, .ref g35, .ref g36, .int 0, .ref g37, .int 0, .ref g38, .ref g39, .ref g40, .ref g41, .ref g42, .ref g43, .ref g44, .ref g45, .ref g46, .ref g47, .int 0, .int 0, .int 4, .ref g48, .ref g49, .ref g50, .ref g51, .ref g52, .ref g53, .ref g54, .ref g55, .ref g56, .ref g57, .ref g58, .ref g59, .ref g60, .int 0, .int 0, .int 0, .int 0, .int 0, .int 0, .int 0, .int 0, .int 0, .int 0, .int 0, .int 0, .int 0, .int 0, .int 0, .int 0, .int 0, .int 0, .int 0, .int 0, .ref g61, .ref g62, .int 0, .ref g63, .ref g64, .ref g65, .ref g66, .int 0, .int 0, .ref g67, .ref h1, .int 3, .ref g68, .int 0, .int 0])), (h1, .inl (cB, 3000, .inl (upd (upd (upd (fun _ => 0) 0 105) 1 110) 2 116)))]) := by
  refine CtV.of (by decide +kernel) (Nat.le_of_ble_eq_true rfl) ?_
  intro p e s m below meth c A ls hx hb hr hml hown hts hnw hlocks hin hA hS hP hK hD hl
  have hown : s.vm.findClass RX12 = some m.cls := hown
  have hl : lv_has ls 2 [(0, .ref h0), (1, .int 116)] := hl
  refine lv_aload_n hx hb dX12_says_0 rfl (lv_at hl 0 rfl) ?_
  refine va_get (D := D) (ci := 12) (v := .int 2) (C := RX12) (T := TX12) (N := 118) hx hb hts inX12 hown hK hP 0 rfl rfl 114 (by decide) (hts _ wm_1481) (fun _ h9 => h9) rfl dX12_says_1 ?_
  refine lv_sipush (v := 3000) hx hb dX12_says_4 (by decide +kernel) ?_
  refine lv_icmp_ne (tgt := 11) hx hb dX12_says_7 (by decide) (fun _ => ?_) (fun h9 => absurd h9 (by decide +kernel))
  refine lv_aload_n hx hb dX12_says_11 rfl (lv_at hl 0 rfl) ?_
  refine va_get (D := D) (ci := 12) (v := .ref h1) (C := RX12) (T := TX12) (N := 118) hx hb hts inX12 hown hK hP 0 rfl rfl 113 (by decide) (hts _ wm_1480) (fun _ h9 => h9) rfl dX12_says_12 ?_
  refine lv_aload_n hx hb dX12_says_15 rfl (lv_at hl 0 rfl) ?_
  refine va_get (D := D) (ci := 12) (v := .int 2) (C := RX12) (T := TX12) (N := 118) hx hb hts inX12 hown hK hP 0 rfl rfl 114 (by decide) (hts _ wm_1481) (fun _ h9 => h9) rfl dX12_says_16 ?_
  refine lv_iload_n hx hb dX12_says_19 rfl (lv_at hl 1 rfl) ?_
  refine lv_i2b (v := 116) hx hb dX12_says_20 (by decide +kernel) ?_
  refine as_b (k := 2) (x2 := 116) hx hb hK hP hD hS 1 2 rfl rfl (vpi (by decide +kernel)) (by decide +kernel) (by decide +kernel) dX12_says_21 (fun H locs hP hD hS => ?_)
  have hP : va_P D vwCl [(h0, .inr (12, [.ref g0, .ref g1, .ref g2, .ref g3, .ref g4, .int 4, .ref g5, .ref g6, .ref g7, .ref g8, .ref g9, .int 0, .ref g10, .ref g11, .ref g12, .ref g13, .ref g14, .ref g15, .ref g16, .ref g17, .int 0, .ref g18, .int 0, .ref g19, .int 0, .int 0, .int 0, .int 0, .int 0, .int 0, .int 0, .int 0, .long 0, .ref g20, .ref g21, .ref g22, .ref g23, .ref g24, .ref g25, .ref g26, .ref g27, .ref g28, .ref g29, .ref g30, .int 0, .int 1, .int 0, .ref g31, .ref g32, .int 0, .ref g33, .ref g34, .ref g35, .ref g36, .int 0, .ref g37, .int 0, .ref g38, .ref g39, .ref g40, .ref g41, .ref g42, .ref g43, .ref g44, .ref g45, .ref g46, .ref g47, .int 0, .int 0, .int 4, .ref g48, .ref g49, .ref g50, .ref g51, .ref g52, .ref g53, .ref g54, .ref g55, .ref g56, .ref g57, .ref g58, .ref g59, .ref g60, .int 0, .int 0, .int 0, .int 0, .int 0, .int 0, .int 0, .int 0, .int 0, .int 0, .int 0, .int 0, .int 0, .int 0, .int 0, .int 0, .int 0, .int 0, .int 0, .int 0, .ref g61, .ref g62, .int 0, .ref g63, .ref g64, .ref g65, .ref g66, .int 0, .int 0, .ref g67, .ref h1, .int 2, .ref g68, .int 0, .int 0])), (h1, .inl (cB, 3000, .inl (upd (upd (upd (fun _ => 0) 0 105) 1 110) 2 116)))] H := hP
  have hD : va_D A [(h0, .inr (12, [.ref g0, .ref g1, .ref g2, .ref g3, .ref g4, .int 4, .ref g5, .ref g6, .ref g7, .ref g8, .ref g9, .int 0, .ref g10, .ref g11, .ref g12, .ref g13, .ref g14, .ref g15, .ref g16, .ref g17, .int 0, .ref g18, .int 0, .ref g19, .int 0, .int 0, .int 0, .int 0, .int 0, .int 0, .int 0, .int 0, .long 0, .ref g20, .ref g21, .ref g22, .ref g23, .ref g24, .ref g25, .ref g26, .ref g27, .ref g28, .ref g29, .ref g30, .int 0, .int 1, .int 0, .ref g31, .ref g32, .int 0, .ref g33, .ref g34, .ref g35, .ref g36, .int 0, .ref g37, .int 0, .ref g38, .ref g39, .ref g40, .ref g41, .ref g42, .ref g43, .ref g44, .ref g45, .ref g46, .ref g47, .int 0, .int 0, .int 4, .ref g48, .ref g49, .ref g50, .ref g51, .ref g52, .ref g53, .ref g54, .ref g55, .ref g56, .ref g57, .ref g58, .ref g59, .ref g60, .int 0, .int 0, .int 0, .int 0, .int 0, .int 0, .int 0, .int 0, .int 0, .int 0, .int 0, .int 0, .int 0, .int 0, .int 0, .int 0, .int 0, .int 0, .int 0, .int 0, .ref g61, .ref g62, .int 0, .ref g63, .ref g64, .ref g65, .ref g66, .int 0, .int 0, .ref g67, .ref h1, .int 2, .ref g68, .int 0, .int 0])), (h1, .inl (cB, 3000, .inl (upd (upd (upd (fun _ => 0) 0 105) 1 110) 2 116)))] := hD
  refine pcn (b := 22) rfl ?_
  refine lv_aload_n hx hb dX12_says_22 rfl (lv_at hl 0 rfl) ?_
  refine lv_aload_n hx hb dX12_says_23 rfl (lv_at hl 0 rfl) ?_
  refine va_get (D := D) (ci := 12) (v := .int 2) (C := RX12) (T := TX12) (N := 118) hx hb hts inX12 hown hK hP 0 rfl rfl 114 (by decide) (hts _ wm_1481) (fun _ h9 => h9) rfl dX12_says_24 ?_
  refine lv_iconst (v := 1) hx hb dX12_says_27 (by decide +kernel) ?_
  refine lv_iadd hx hb dX12_says_28 ?_
  refine nrm (y := 3) (by decide +kernel) ?_
  refine va_put (D := D) (ci := 12) (v := .int 3) (ty := .int) (C := RX12) (T := TX12) (N := 118) hx hb hts inX12 tyX12 tyX12_ok nmX12 hown hK hP hD hS 0 rfl rfl 114 (by decide) (hts _ wm_1481) (fun _ h9 => h9) rfl (by decide +kernel) rfl rfl (Nat.le_of_ble_eq_true rfl) dX12_says_29 (fun H locs hP hD hS => ?_)
  have hP : va_P D vwCl [(h0, .inr (12, [.ref g0, .ref g1, .ref g2, .ref g3, .ref g4, .int 4, .ref g5, .ref g6, .ref g7, .ref g8, .ref g9, .int 0, .ref g10, .ref g11, .ref g12, .ref g13, .ref g14, .ref g15, .ref g16, .ref g17, .int 0, .ref g18, .int 0, .ref g19, .int 0, .int 0, .int 0, .int 0, .int 0, .int 0, .int 0, .int 0, .long 0, .ref g20, .ref g21, .ref g22, .ref g23, .ref g24, .ref g25, .ref g26, .ref g27, .ref g28, .ref g29, .ref g30, .int 0, .int 1, .int 0, .ref g31, .ref g32, .int 0, .ref g33, .ref g34, .ref g35, .ref g36, .int 0, .ref g37, .int 0, .ref g38, .ref g39, .ref g40, .ref g41, .ref g42, .ref g43, .ref g44, .ref g45, .ref g46, .ref g47, .int 0, .int 0, .int 4, .ref g48, .ref g49, .ref g50, .ref g51, .ref g52, .ref g53, .ref g54, .ref g55, .ref g56, .ref g57, .ref g58, .ref g59, .ref g60, .int 0, .int 0, .int 0, .int 0, .int 0, .int 0, .int 0, .int 0, .int 0, .int 0, .int 0, .int 0, .int 0, .int 0, .int 0, .int 0, .int 0, .int 0, .int 0, .int 0, .ref g61, .ref g62, .int 0, .ref g63, .ref g64, .ref g65, .ref g66, .int 0, .int 0, .ref g67, .ref h1, .int 3, .ref g68, .int 0, .int 0])), (h1, .inl (cB, 3000, .inl (upd (upd (upd (fun _ => 0) 0 105) 1 110) 2 116)))] H := hP
  have hD : va_D A [(h0, .inr (12, [.ref g0, .ref g1, .ref g2, .ref g3, .ref g4, .int 4, .ref g5, .ref g6, .ref g7, .ref g8, .ref g9, .int 0, .ref g10, .ref g11, .ref g12, .ref g13, .ref g14, .ref g15, .ref g16, .ref g17, .int 0, .ref g18, .int 0, .ref g19, .int 0, .int 0, .int 0, .int 0, .int 0, .int 0, .int 0, .int 0, .long 0, .ref g20, .ref g21, .ref g22, .ref g23, .ref g24, .ref g25, .ref g26, .ref g27, .ref g28, .ref g29, .ref g30, .int 0, .int 1, .int 0, .ref g31, .ref g32, .int 0, .ref g33, .ref g34, .ref g35, .ref g36, .int 0, .ref g37, .int 0, .ref g38, .ref g39, .ref g40, .ref g41, .ref g42, .ref g43, .ref g44, .ref g45, .ref g46, .ref g47, .int 0, .int 0, .int 4, .ref g48, .ref g49, .ref g50, .ref g51, .ref g52, .ref g53, .ref g54, .ref g55, .ref g56, .ref g57, .ref g58, .ref g59, .ref g60, .int 0, .int 0, .int 0, .int 0, .int 0, .int 0, .int 0, .int 0, .int 0, .int 0, .int 0, .int 0, .int 0, .int 0, .int 0, .int 0, .int 0, .int 0, .int 0, .int 0, .ref g61, .ref g62, .int 0, .ref g63, .ref g64, .ref g65, .ref g66, .int 0, .int 0, .ref g67, .ref h1, .int 3, .ref g68, .int 0, .int 0])), (h1, .inl (cB, 3000, .inl (upd (upd (upd (fun _ => 0) 0 105) 1 110) 2 116)))] := hD
  refine W.widen (k := 0) (n := 0) (Nat.le_of_ble_eq_true rfl) (Nat.le_of_ble_eq_true rfl) ?_
  exact rtV hx hb hr hlocks hS hP hD rfl dX12_says_32

set_option maxHeartbeats 4000000 in
set_option maxRecDepth 100000 in
theorem c_X12_saysWord_0 (l : Launch) (D : va_G) (cI cZ cB cJ : ClassId) (h0 h1 g0 g1 g2 g3 g4 g5 g6 g7 g8 g9 g10 g11 g12 g13 g14 g15 g16 g17 g18 g19 g20 g21 g22 g23 g24 g25 g26 g27 g28 g29 g30 g31 g32 g33 g34 g35 g36 g37 g38 g39 g40 g41 g42 g43 g44 g45 g46 g47 g48 g49 g50 g51 g52 g53 g54 g55 g56 g57 g58 g59 g60 g61 g62 g63 g64 g65 g66 g67 g68 : Nat) : CtV l D (TT cI cZ cB cJ) yX12_saysWord cX12_saysWord 4 none 1 21 0 0 [.ref h0, .long 9684] [(h0, .inr (12, [.ref g0, .ref g1, .ref g2, .ref g3, .ref g4, .int 4, .ref g5, .ref g6, .ref g7, .ref g8, .ref g9, .int 0, .ref g10, .ref g11, .ref g12, .ref g13, .ref g14, .ref g15, .ref g16, .ref g17, .int 0, .ref g18, .int 0, .ref g19, .int 0, .int 0, .int 0, .int 0, .int 0, .int 0, .int 0, .int 0, .long 0, .ref g20, .ref g21, .ref g22, .ref g23, .ref g24, .ref g25, .ref g26, .ref g27, .ref g28, .ref g29, .ref g30, .int 0, .int 1, .int 0, .ref g31, .ref g32, .int 0, .ref g33, .ref g34, .ref g35, .ref g36, .int 0, .ref g37, .int 0, .ref g38, .ref g39, .ref g40, .ref g41, .ref g42, .ref g43, .ref g44, .ref g45, .ref g46, .ref g47, .int 0, .int 0, .int 4, .ref g48, .ref g49, .ref g50, .ref g51, .ref g52, .ref g53, .ref g54, .ref g55, .ref g56, .ref g57, .ref g58, .ref g59, .ref g60, .int 0, .int 0, .int 0, .int 0, .int 0, .int 0, .int 0, .int 0, .int 0, .int 0, .int 0, .int 0, .int 0, .int 0, .int 0, .int 0, .int 0, .int 0, .int 0, .int 0, .ref g61, .ref g62, .int 0, .ref g63, .ref g64, .ref g65, .ref g66, .int 0, .int 0, .ref g67, .ref h1, .int 0, .ref g68, .int 0, .int 0])), (h1, .inl (cB, 3000, .inl (fun _ => 0)))] (fun w1 => w1 = [(h0, .inr (12, [.ref g0, .ref g1, .ref g2, .ref g3, .ref g4, .int 4, .ref g5, .ref g6, .ref g7, .ref g8, .ref g9, .int 0, .ref g10, .ref g11, .ref g12, .ref g13, .ref g14, .ref g15, .ref g16, .ref g17, .int 0, .ref g18, .int 0, .ref g19, .int 0, .int 0, .int 0, .int 0, .int 0, .int 0, .int 0, .int 0, .long 0, .ref g20, .ref g21, .ref g22, .ref g23, .ref g24, .ref g25, .ref g26, .ref g27, .ref g28, .ref g29, .ref g30, .int 0, .int 1, .int 0, .ref g31, .ref g32, .int 0, .ref g33, .ref g34, .ref g35, .ref g36, .int 0, .ref g37, .int 0, .ref g38, .ref g39, .ref g40, .ref g41, .ref g42, .ref g43, .ref g44, .ref g45, .ref g46, .ref g47, .int 0, .int 0, .int 4, .ref g48, .ref g49, .ref g50, .ref g51, .ref g52, .ref g53, .ref g54, .ref g55, .ref g56, .ref g57, .ref g58, .ref g59, .ref g60, .int 0, .int 0, .int 0, .int 0, .int 0, .int 0, .int 0, .int 0, .int 0, .int 0, .int 0, .int 0, .int 0, .int 0, .int 0, .int 0, .int 0, .int 0, .int 0, .int 0, .ref g61, .ref g62, .int 0, .ref g63, .ref g64, .ref g65, .ref g66, .int 0, .int 0, .ref g67, .ref h1, .int 3, .ref g68, .int 0, .int 0])), (h1, .inl (cB, 3000, .inl (upd (upd (upd (fun _ => 0) 0 105) 1 110) 2 116)))]) := by
  refine CtV.of (by decide +kernel) (Nat.le_of_ble_eq_true rfl) ?_
  intro p e s m below meth c A ls hx hb hr hml hown hts hnw hlocks hin hA hS hP hK hD hl
  have hown : s.vm.findClass RX12 = some m.cls := hown
  have hl : lv_has ls 4 [(0, .ref h0), (1, .long 9684)] := hl
  refine lv_bipush (v := 30) hx hb dX12_saysWord_0 (by decide +kernel) ?_
  refine lv_istore_n (lv' := [(3, .int 30), (0, .ref h0), (1, .long 9684)]) hx hb dX12_saysWord_2 rfl hl (by decide) rfl (fun ls hl => ?_)
  refine lv_iload_n hx hb dX12_saysWord_3 rfl (lv_at hl 0 rfl) ?_
  refine lv_if_lt (tgt := 43) hx hb dX12_saysWord_4 (by decide) (fun h9 => absurd h9 (by decide +kernel)) (fun _ => ?_)
  refine lv_lload_n hx hb dX12_saysWord_7 rfl (lv_at hl 2 rfl) ?_
  refine lv_iload_n hx hb dX12_saysWord_8 rfl (lv_at hl 0 rfl) ?_
  refine lv_lshr (v := 0) hx hb dX12_saysWord_9 (by decide +kernel) ?_
  refine pcn (b := 10) rfl ?_
  refine lv_ldc2 (v := 31) hx hb hown (hts _ wm_2060) dX12_saysWord_10 ?_
  refine lv_land hx hb dX12_saysWord_13 ?_
  refine nrmL (y := 0) (by decide +kernel) ?_
  refine lv_lconst (v := 0) hx hb dX12_saysWord_14 (by decide +kernel) ?_
  refine W.lcmp hx hb dX12_saysWord_15 ?_
  refine nrm (y := 0) (by decide +kernel) ?_
  refine lv_if_eq (tgt := 36) hx hb dX12_saysWord_16 (by decide) (fun _ => ?_) (fun h9 => absurd (by decide +kernel) h9)
  refine lv_iload_n hx hb dX12_saysWord_36 rfl (lv_at hl 0 rfl) ?_
  refine lv_iconst (v := 5) hx hb dX12_saysWord_37 (by decide +kernel) ?_
  refine lv_isub hx hb dX12_saysWord_38 ?_
  refine nrm (y := 25) (by decide +kernel) ?_
  refine lv_istore_n (lv' := [(3, .int 25), (0, .ref h0), (1, .long 9684)]) hx hb dX12_saysWord_39 rfl hl (by decide) rfl (fun ls hl => ?_)
  refine lv_goto (tgt := 3) hx hb dX12_saysWord_40 (by decide) ?_
  refine lv_iload_n hx hb dX12_saysWord_3 rfl (lv_at hl 0 rfl) ?_
  refine lv_if_lt (tgt := 43) hx hb dX12_saysWord_4 (by decide) (fun h9 => absurd h9 (by decide +kernel)) (fun _ => ?_)
  refine lv_lload_n hx hb dX12_saysWord_7 rfl (lv_at hl 2 rfl) ?_
  refine lv_iload_n hx hb dX12_saysWord_8 rfl (lv_at hl 0 rfl) ?_
  refine lv_lshr (v := 0) hx hb dX12_saysWord_9 (by decide +kernel) ?_
  refine lv_ldc2 (v := 31) hx hb hown (hts _ wm_2060) dX12_saysWord_10 ?_
  refine lv_land hx hb dX12_saysWord_13 ?_
  refine nrmL (y := 0) (by decide +kernel) ?_
  refine pcn (b := 14) rfl ?_
  refine lv_lconst (v := 0) hx hb dX12_saysWord_14 (by decide +kernel) ?_
  refine W.lcmp hx hb dX12_saysWord_15 ?_
  refine nrm (y := 0) (by decide +kernel) ?_
  refine lv_if_eq (tgt := 36) hx hb dX12_saysWord_16 (by decide) (fun _ => ?_) (fun h9 => absurd (by decide +kernel) h9)
  refine lv_iload_n hx hb dX12_saysWord_36 rfl (lv_at hl 0 rfl) ?_
  refine lv_iconst (v := 5) hx hb dX12_saysWord_37 (by decide +kernel) ?_
  refine lv_isub hx hb dX12_saysWord_38 ?_
  refine nrm (y := 20) (by decide +kernel) ?_
  refine lv_istore_n (lv' := [(3, .int 20), (0, .ref h0), (1, .long 9684)]) hx hb dX12_saysWord_39 rfl hl (by decide) rfl (fun ls hl => ?_)
  refine lv_goto (tgt := 3) hx hb dX12_saysWord_40 (by decide) ?_
  refine lv_iload_n hx hb dX12_saysWord_3 rfl (lv_at hl 0 rfl) ?_
  refine lv_if_lt (tgt := 43) hx hb dX12_saysWord_4 (by decide) (fun h9 => absurd h9 (by decide +kernel)) (fun _ => ?_)
  refine lv_lload_n hx hb dX12_saysWord_7 rfl (lv_at hl 2 rfl) ?_
  refine lv_iload_n hx hb dX12_saysWord_8 rfl (lv_at hl 0 rfl) ?_
  refine lv_lshr (v := 0) hx hb dX12_saysWord_9 (by decide +kernel) ?_
  refine lv_ldc2 (v := 31) hx hb hown (hts _ wm_2060) dX12_saysWord_10 ?_
  refine lv_land hx hb dX12_saysWord_13 ?_
  refine nrmL (y := 0) (by decide +kernel) ?_
  refine pcn (b := 14) rfl ?_
  refine lv_lconst (v := 0) hx hb dX12_saysWord_14 (by decide +kernel) ?_
  refine W.lcmp hx hb dX12_saysWord_15 ?_
  refine nrm (y := 0) (by decide +kernel) ?_
  refine lv_if_eq (tgt := 36) hx hb dX12_saysWord_16 (by decide) (fun _ => ?_) (fun h9 => absurd (by decide +kernel) h9)
  refine lv_iload_n hx hb dX12_saysWord_36 rfl (lv_at hl 0 rfl) ?_
  refine lv_iconst (v := 5) hx hb dX12_saysWord_37 (by decide +kernel) ?_
  refine lv_isub hx hb dX12_saysWord_38 ?_
  refine nrm (y := 15) (by decide +kernel) ?_
  refine lv_istore_n (lv' := [(3, .int 15), (0, .ref h0), (1, .long 9684)]) hx hb dX12_saysWord_39 rfl hl (by decide) rfl (fun ls hl => ?_)
  refine lv_goto (tgt := 3) hx hb dX12_saysWord_40 (by decide) ?_
  refine lv_iload_n hx hb dX12_saysWord_3 rfl (lv_at hl 0 rfl) ?_
  refine lv_if_lt (tgt := 43) hx hb dX12_saysWord_4 (by decide) (fun h9 => absurd h9 (by decide +kernel)) (fun _ => ?_)
  refine lv_lload_n hx hb dX12_saysWord_7 rfl (lv_at hl 2 rfl) ?_
  refine lv_iload_n hx hb dX12_saysWord_8 rfl (lv_at hl 0 rfl) ?_
  refine lv_lshr (v := 0) hx hb dX12_saysWord_9 (by decide +kernel) ?_
  refine lv_ldc2 (v := 31) hx hb hown (hts _ wm_2060) dX12_saysWord_10 ?_
  refine lv_land hx hb dX12_saysWord_13 ?_
  refine nrmL (y := 0) (by decide +kernel) ?_
  refine pcn (b := 14) rfl ?_
  refine lv_lconst (v := 0) hx hb dX12_saysWord_14 (by decide +kernel) ?_
  refine W.lcmp hx hb dX12_saysWord_15 ?_
  refine nrm (y := 0) (by decide +kernel) ?_
  refine lv_if_eq (tgt := 36) hx hb dX12_saysWord_16 (by decide) (fun _ => ?_) (fun h9 => absurd (by decide +kernel) h9)
  refine lv_iload_n hx hb dX12_saysWord_36 rfl (lv_at hl 0 rfl) ?_
  refine lv_iconst (v := 5) hx hb dX12_saysWord_37 (by decide +kernel) ?_
  refine lv_isub hx hb dX12_saysWord_38 ?_
  refine nrm (y := 10) (by decide +kernel) ?_
  refine lv_istore_n (lv' := [(3, .int 10), (0, .ref h0), (1, .long 9684)]) hx hb dX12_saysWord_39 rfl hl (by decide) rfl (fun ls hl => ?_)
  refine lv_goto (tgt := 3) hx hb dX12_saysWord_40 (by decide) ?_
  refine lv_iload_n hx hb dX12_saysWord_3 rfl (lv_at hl 0 rfl) ?_
  refine lv_if_lt (tgt := 43) hx hb dX12_saysWord_4 (by decide) (fun h9 => absurd h9 (by decide +kernel)) (fun _ => ?_)
  refine lv_lload_n hx hb dX12_saysWord_7 rfl (lv_at hl 2 rfl) ?_
  refine lv_iload_n hx hb dX12_saysWord_8 rfl (lv_at hl 0 rfl) ?_
  refine lv_lshr (v := 9) hx hb dX12_saysWord_9 (by decide +kernel) ?_
  refine lv_ldc2 (v := 31) hx hb hown (hts _ wm_2060) dX12_saysWord_10 ?_
  refine lv_land hx hb dX12_saysWord_13 ?_
  refine nrmL (y := 9) (by decide +kernel) ?_
  refine pcn (b := 14) rfl ?_
  refine lv_lconst (v := 0) hx hb dX12_saysWord_14 (by decide +kernel) ?_
  refine W.lcmp hx hb dX12_saysWord_15 ?_
  refine nrm (y := 1) (by decide +kernel) ?_
  refine lv_if_eq (tgt := 36) hx hb dX12_saysWord_16 (by decide) (fun h9 => absurd h9 (by decide +kernel)) (fun _ => ?_)
  refine lv_aload_n hx hb dX12_saysWord_19 rfl (lv_at hl 1 rfl) ?_
  refine lv_bipush (v := 97) hx hb dX12_saysWord_20 (by decide +kernel) ?_
  refine lv_lload_n hx hb dX12_saysWord_22 rfl (lv_at hl 2 rfl) ?_
  refine lv_iload_n hx hb dX12_saysWord_23 rfl (lv_at hl 0 rfl) ?_
  refine lv_lshr (v := 9) hx hb dX12_saysWord_24 (by decide +kernel) ?_
  refine pcn (b := 25) rfl ?_
  refine lv_ldc2 (v := 31) hx hb hown (hts _ wm_2060) dX12_saysWord_25 ?_
  refine lv_land hx hb dX12_saysWord_28 ?_
  refine nrmL (y := 9) (by decide +kernel) ?_
  refine lv_l2i (v := 9) hx hb dX12_saysWord_29 (by decide +kernel) ?_
  refine lv_iadd hx hb dX12_saysWord_30 ?_
  refine nrm (y := 106) (by decide +kernel) ?_
  refine lv_iconst (v := 1) hx hb dX12_saysWord_31 (by decide +kernel) ?_
  refine lv_isub hx hb dX12_saysWord_32 ?_
  refine nrm (y := 105) (by decide +kernel) ?_
  refine kVv (As := [.int 105]) (rest := []) (wr := []) hx hb hml hown hts hnw hK hP hD hS hA hl.1 (c_X12_says_0 l D cI cZ cB cJ h0 h1 g0 g1 g2 g3 g4 g5 g6 g7 g8 g9 g10 g11 g12 g13 g14 g15 g16 g17 g18 g19 g20 g21 g22 g23 g24 g25 g26 g27 g28 g29 g30 g31 g32 g33 g34 g35 g36 g37 g38 g39 g40 g41 g42 g43 g44 g45 g46 g47 g48 g49 g50 g51 g52 g53 g54 g55 g56 g57 g58 g59 g60 g61 g62 g63 g64 g65 g66 g67 g68) yk_X12_says wm_2052 [0, 1] [] rfl rfl (by decide) (by decide) (by decide) 0 rfl rfl rfl rfl rfl dX12_saysWord_33 ⟨Nat.le_of_ble_eq_true rfl, Nat.le_of_ble_eq_true rfl⟩ ⟨Nat.le_of_ble_eq_true rfl, Nat.le_of_ble_eq_true rfl⟩ (Nat.le_of_ble_eq_true rfl) (fun w1 H locs hq9 hP hD hS => ?_)
  obtain rfl := hq9
  have hP : va_P D vwCl [(h0, .inr (12, [.ref g0, .ref g1, .ref g2, .ref g3, .ref g4, .int 4, .ref g5, .ref g6, .ref g7, .ref g8, .ref g9, .int 0, .ref g10, .ref g11, .ref g12, .ref g13, .ref g14, .ref g15, .ref g16, .ref g17, .int 0, .ref g18, .int 0, .ref g19, .int 0, .int 0, .int 0, .int 0, .int 0, .int 0, .int 0, .int 0, .long 0, .ref g20, .ref g21, .ref g22, .ref g23, .ref g24, .ref g25, .ref g26, .ref g27, .ref g28, .ref g29, .ref g30, .int 0, .int 1, .int 0, .ref g31, .ref g32, .int 0, .ref g33, .ref g34, .ref g35, .ref g36, .int 0, .ref g37, .int 0, .ref g38, .ref g39, .ref g40, .ref g41, .ref g42, .ref g43, .ref g44, .ref g45, .ref g46, .ref g47, .int 0, .int 0, .int 4, .ref g48, .ref g49, .ref g50, .ref g51, .ref g52, .ref g53, .ref g54, .ref g55, .ref g56, .ref g57, .ref g58, .ref g59, .ref g60, .int 0, .int 0, .int 0, .int 0, .int 0, .int 0, .int 0, .int 0, .int 0, .int 0, .int 0, .int 0, .int 0, .int 0, .int 0, .int 0, .int 0, .int 0, .int 0, .int 0, .ref g61, .ref g62, .int 0, .ref g63, .ref g64, .ref g65, .ref g66, .int 0, .int 0, .ref g67, .ref h1, .int 1, .ref g68, .int 0, .int 0])), (h1, .inl (cB, 3000, .inl (upd (fun _ => 0) 0 105)))] H := hP
  have hD : va_D A [(h0, .inr (12, [.ref g0, .ref g1, .ref g2, .ref g3, .ref g4, .int 4, .ref g5, .ref g6, .ref g7, .ref g8, .ref g9, .int 0, .ref g10, .ref g11, .ref g12, .ref g13, .ref g14, .ref g15, .ref g16, .ref g17, .int 0, .ref g18, .int 0, .ref g19, .int 0, .int 0, .int 0, .int 0, .int 0, .int 0, .int 0, .int 0, .long 0, .ref g20, .ref g21, .ref g22, .ref g23, .ref g24, .ref g25, .ref g26, .ref g27, .ref g28, .ref g29, .ref g30, .int 0, .int 1, .int 0, .ref g31, .ref g32, .int 0, .ref g33, .ref g34, .ref g35, .ref g36, .int 0, .ref g37, .int 0, .ref g38, .ref g39, .ref g40, .ref g41, .ref g42, .ref g43, .ref g44, .ref g45, .ref g46, .ref g47, .int 0, .int 0, .int 4, .ref g48, .ref g49, .ref g50, .ref g51, .ref g52, .ref g53, .ref g54, .ref g55, .ref g56, .ref g57, .ref g58, .ref g59, .ref g60, .int 0, .int 0, .int 0, .int 0, .int 0, .int 0, .int 0, .int 0, .int 0, .int 0, .int 0, .int 0, .int 0, .int 0, .int 0, .int 0, .int 0, .int 0, .int 0, .int 0, .ref g61, .ref g62, .int 0, .ref g63, .ref g64, .ref g65, .ref g66, .int 0, .int 0, .ref g67, .ref h1, .int 1, .ref g68, .int 0, .int 0])), (h1, .inl (cB, 3000, .inl (upd (fun _ => 0) 0 105)))] := hD
  refine W.widen (k := 0) (n := 0) (Nat.le_of_ble_eq_true rfl) (Nat.le_of_ble_eq_true rfl) ?_
  refine pcn (b := 36) rfl ?_
  refine lv_iload_n hx hb dX12_saysWord_36 rfl (lv_at hl 0 rfl) ?_
  refine lv_iconst (v := 5) hx hb dX12_saysWord_37 (by decide +kernel) ?_
  refine lv_isub hx hb dX12_saysWord_38 ?_
  refine nrm (y := 5) (by decide +kernel) ?_
  refine lv_istore_n (lv' := [(3, .int 5), (0, .ref h0), (1, .long 9684)]) hx hb dX12_saysWord_39 rfl hl (by decide) rfl (fun ls hl => ?_)
  refine lv_goto (tgt := 3) hx hb dX12_saysWord_40 (by decide) ?_
  refine lv_iload_n hx hb dX12_saysWord_3 rfl (lv_at hl 0 rfl) ?_
  refine lv_if_lt (tgt := 43) hx hb dX12_saysWord_4 (by decide) (fun h9 => absurd h9 (by decide +kernel)) (fun _ => ?_)
  refine lv_lload_n hx hb dX12_saysWord_7 rfl (lv_at hl 2 rfl) ?_
  refine lv_iload_n hx hb dX12_saysWord_8 rfl (lv_at hl 0 rfl) ?_
  refine lv_lshr (v := 302) hx hb dX12_saysWord_9 (by decide +kernel) ?_
  refine lv_ldc2 (v := 31) hx hb hown (hts _ wm_2060) dX12_saysWord_10 ?_
  refine lv_land hx hb dX12_saysWord_13 ?_
  refine nrmL (y := 14) (by decide +kernel) ?_
  refine pcn (b := 14) rfl ?_
  refine lv_lconst (v := 0) hx hb dX12_saysWord_14 (by decide +kernel) ?_
  refine W.lcmp hx hb dX12_saysWord_15 ?_
  refine nrm (y := 1) (by decide +kernel) ?_
  refine lv_if_eq (tgt := 36) hx hb dX12_saysWord_16 (by decide) (fun h9 => absurd h9 (by decide +kernel)) (fun _ => ?_)
  refine lv_aload_n hx hb dX12_saysWord_19 rfl (lv_at hl 1 rfl) ?_
  refine lv_bipush (v := 97) hx hb dX12_saysWord_20 (by decide +kernel) ?_
  refine lv_lload_n hx hb dX12_saysWord_22 rfl (lv_at hl 2 rfl) ?_
  refine lv_iload_n hx hb dX12_saysWord_23 rfl (lv_at hl 0 rfl) ?_
  refine lv_lshr (v := 302) hx hb dX12_saysWord_24 (by decide +kernel) ?_
  refine pcn (b := 25) rfl ?_
  refine lv_ldc2 (v := 31) hx hb hown (hts _ wm_2060) dX12_saysWord_25 ?_
  refine lv_land hx hb dX12_saysWord_28 ?_
  refine nrmL (y := 14) (by decide +kernel) ?_
  refine lv_l2i (v := 14) hx hb dX12_saysWord_29 (by decide +kernel) ?_
  refine lv_iadd hx hb dX12_saysWord_30 ?_
  refine nrm (y := 111) (by decide +kernel) ?_
  refine lv_iconst (v := 1) hx hb dX12_saysWord_31 (by decide +kernel) ?_
  refine lv_isub hx hb dX12_saysWord_32 ?_
  refine nrm (y := 110) (by decide +kernel) ?_
  refine kVv (As := [.int 110]) (rest := []) (wr := []) hx hb hml hown hts hnw hK hP hD hS hA hl.1 (c_X12_says_1 l D cI cZ cB cJ h0 h1 g0 g1 g2 g3 g4 g5 g6 g7 g8 g9 g10 g11 g12 g13 g14 g15 g16 g17 g18 g19 g20 g21 g22 g23 g24 g25 g26 g27 g28 g29 g30 g31 g32 g33 g34 g35 g36 g37 g38 g39 g40 g41 g42 g43 g44 g45 g46 g47 g48 g49 g50 g51 g52 g53 g54 g55 g56 g57 g58 g59 g60 g61 g62 g63 g64 g65 g66 g67 g68) yk_X12_says wm_2052 [0, 1] [] rfl rfl (by decide) (by decide) (by decide) 0 rfl rfl rfl rfl rfl dX12_saysWord_33 ⟨Nat.le_of_ble_eq_true rfl, Nat.le_of_ble_eq_true rfl⟩ ⟨Nat.le_of_ble_eq_true rfl, Nat.le_of_ble_eq_true rfl⟩ (Nat.le_of_ble_eq_true rfl) (fun w1 H locs hq9 hP hD hS => ?_)
  obtain rfl := hq9
  have hP : va_P D vwCl [(h0, .inr (12, [.ref g0, .ref g1, .ref g2, .ref g3, .ref g4, .int 4, .ref g5, .ref g6, .ref g7, .ref g8, .ref g9, .int 0, .ref g10, .ref g11, .ref g12, .ref g13, .ref g14, .ref g15, .ref g16, .ref g17, .int 0, .ref g18, .int 0, .ref g19, .int 0, .int 0, .int 0, .int 0, .int 0, .int 0, .int 0, .int 0, .long 0, .ref g20, .ref g21, .ref g22, .ref g23, .ref g24, .ref g25, .ref g26, .ref g27, .ref g28, .ref g29, .ref g30, .int 0, .int 1, .int 0, .ref g31, .ref g32, .int 0, .ref g33, .ref g34, .ref g35, .ref g36, .int 0, .ref g37, .int 0, .ref g38, .ref g39, .ref g40, .ref g41, .ref g42, .ref g43, .ref g44, .ref g45, .ref g46, .ref g47, .int 0, .int 0, .int 4, .ref g48, .ref g49, .ref g50, .ref g51, .ref g52, .ref g53, .ref g54, .ref g55, .ref g56, .ref g57, .ref g58, .ref g59, .ref g60, .int 0, .int 0, .int 0, .int 0, .int 0, .int 0, .int 0, .int 0, .int 0, .int 0, .int 0, .int 0, .int 0, .int 0, .int 0, .int 0, .int 0, .int 0, .int 0, .int 0, .ref g61, .ref g62, .int 0, .ref g63, .ref g64, .ref g65, .ref g66, .int 0, .int 0, .ref g67, .ref h1, .int 2, .ref g68, .int 0, .int 0])), (h1, .inl (cB, 3000, .inl (upd (upd (fun _ => 0) 0 105) 1 110)))] H := hP
  have hD : va_D A [(h0, .inr (12, [.ref g0, .ref g1, .ref g2, .ref g3, .ref g4, .int 4, .ref g5, .ref g6, .ref g7, .ref g8, .ref g9, .int 0, .ref g10, .ref g11, .ref g12, .ref g13, .ref g14, .ref g15, .ref g16, .ref g17, .int 0, .ref g18, .int 0, .ref g19, .int 0, .int 0, .int 0, .int 0, .int 0, .int 0, .int 0, .int 0, .long 0, .ref g20, .ref g21, .ref g22, .ref g23, .ref g24, .ref g25, .ref g26, .ref g27, .ref g28, .ref g29, .ref g30, .int 0, .int 1, .int 0, .ref g31, .ref g32, .int 0, .ref g33, .ref g34, .ref g35, .ref g36, .int 0, .ref g37, .int 0, .ref g38, .ref g39, .ref g40, .ref g41, .ref g42, .ref g43, .ref g44, .ref g45, .ref g46, .ref g47, .int 0, .int 0, .int 4, .ref g48, .ref g49, .ref g50, .ref g51, .ref g52, .ref g53, .ref g54, .ref g55, .ref g56, .ref g57, .ref g58, .ref g59, .ref g60, .int 0, .int 0, .int 0, .int 0, .int 0, .int 0, .int 0, .int 0, .int 0, .int 0, .int 0, .int 0, .int 0, .int 0, .int 0, .int 0, .int 0, .int 0, .int 0, .int 0, .ref g61, .ref g62, .int 0, .ref g63, .ref g64, .ref g65, .ref g66, .int 0, .int 0, .ref g67, .ref h1, .int 2, .ref g68, .int 0, .int 0])), (h1, .inl (cB, 3000, .inl (upd (upd (fun _ => 0) 0 105) 1 110)))] := hD
  refine W.widen (k := 0) (n := 0) (Nat.le_of_ble_eq_true rfl) (Nat.le_of_ble_eq_true rfl) ?_
  refine pcn (b := 36) rfl ?_
  refine lv_iload_n hx hb dX12_saysWord_36 rfl (lv_at hl 0 rfl) ?_
  refine lv_iconst (v := 5) hx hb dX12_saysWord_37 (by decide +kernel) ?_
  refine lv_isub hx hb dX12_saysWord_38 ?_
  refine nrm (y := 0) (by decide +kernel) ?_
  refine lv_istore_n (lv' := [(3, .int 0), (0, .ref h0), (1, .long 9684)]) hx hb dX12_saysWord_39 rfl hl (by decide) rfl (fun ls hl => ?_)
  refine lv_goto (tgt := 3) hx hb dX12_saysWord_40 (by decide) ?_
  refine lv_iload_n hx hb dX12_saysWord_3 rfl (lv_at hl 0 rfl) ?_
  refine lv_if_lt (tgt := 43) hx hb dX12_saysWord_4 (by decide) (fun h9 => absurd h9 (by decide +kernel)) (fun _ => ?_)
  refine lv_lload_n hx hb dX12_saysWord_7 rfl (lv_at hl 2 rfl) ?_
  refine lv_iload_n hx hb dX12_saysWord_8 rfl (lv_at hl 0 rfl) ?_
  refine lv_lshr (v := 9684) hx hb dX12_saysWord_9 (by decide +kernel) ?_
  refine lv_ldc2 (v := 31) hx hb hown (hts _ wm_2060) dX12_saysWord_10 ?_
  refine lv_land hx hb dX12_saysWord_13 ?_
  refine nrmL (y := 20) (by decide +kernel) ?_
  refine pcn (b := 14) rfl ?_
  refine lv_lconst (v := 0) hx hb dX12_saysWord_14 (by decide +kernel) ?_
  refine W.lcmp hx hb dX12_saysWord_15 ?_
  refine nrm (y := 1) (by decide +kernel) ?_
  refine lv_if_eq (tgt := 36) hx hb dX12_saysWord_16 (by decide) (fun h9 => absurd h9 (by decide +kernel)) (fun _ => ?_)
  refine lv_aload_n hx hb dX12_saysWord_19 rfl (lv_at hl 1 rfl) ?_
  refine lv_bipush (v := 97) hx hb dX12_saysWord_20 (by decide +kernel) ?_
  refine lv_lload_n hx hb dX12_saysWord_22 rfl (lv_at hl 2 rfl) ?_
  refine lv_iload_n hx hb dX12_saysWord_23 rfl (lv_at hl 0 rfl) ?_
  refine lv_lshr (v := 9684) hx hb dX12_saysWord_24 (by decide +kernel) ?_
  refine pcn (b := 25) rfl ?_
  refine lv_ldc2 (v := 31) hx hb hown (hts _ wm_2060) dX12_saysWord_25 ?_
  refine lv_land hx hb dX12_saysWord_28 ?_
  refine nrmL (y := 20) (by decide +kernel) ?_
  refine lv_l2i (v := 20) hx hb dX12_saysWord_29 (by decide +kernel) ?_
  refine lv_iadd hx hb dX12_saysWord_30 ?_
  refine nrm (y := 117) (by decide +kernel) ?_
  refine lv_iconst (v := 1) hx hb dX12_saysWord_31 (by decide +kernel) ?_
  refine lv_isub hx hb dX12_saysWord_32 ?_
  refine nrm (y := 116) (by decide +kernel) ?_
  refine kVv (As := [.int 116]) (rest := []) (wr := []) hx hb hml hown hts hnw hK hP hD hS hA hl.1 (c_X12_says_2 l D cI cZ cB cJ h0 h1 g0 g1 g2 g3 g4 g5 g6 g7 g8 g9 g10 g11 g12 g13 g14 g15 g16 g17 g18 g19 g20 g21 g22 g23 g24 g25 g26 g27 g28 g29 g30 g31 g32 g33 g34 g35 g36 g37 g38 g39 g40 g41 g42 g43 g44 g45 g46 g47 g48 g49 g50 g51 g52 g53 g54 g55 g56 g57 g58 g59 g60 g61 g62 g63 g64 g65 g66 g67 g68) yk_X12_says wm_2052 [0, 1] [] rfl rfl (by decide) (by decide) (by decide) 0 rfl rfl rfl rfl rfl dX12_saysWord_33 ⟨Nat.le_of_ble_eq_true rfl, Nat.le_of_ble_eq_true rfl⟩ ⟨Nat.le_of_ble_eq_true rfl, Nat.le_of_ble_eq_true rfl⟩ (Nat.le_of_ble_eq_true rfl) (fun w1 H locs hq9 hP hD hS => ?_)
  obtain rfl := hq9
  have hP : va_P D vwCl [(h0, .inr (12, [.ref g0, .ref g1, .ref g2, .ref g3, .ref g4, .int 4, .ref g5, .ref g6, .ref g7, .ref g8, .ref g9, .int 0, .ref g10, .ref g11, .ref g12, .ref g13, .ref g14, .ref g15, .ref g16, .ref g17, .int 0, .ref g18, .int 0, .ref g19, .int 0, .int 0, .int 0, .int 0, .int 0, .int 0, .int 0, .int 0, .long 0, .ref g20, .ref g21, .ref g22, .ref g23, .ref g24, .ref g25, .ref g26, .ref g27, .ref g28, .ref g29, .ref g30, .int 0, .int 1, .int 0, .ref g31, .ref g32, .int 0, .ref g33, .ref g34, .ref g35, .ref g36, .int 0, .ref g37, .int 0, .ref g38, .ref g39, .ref g40, .ref g41, .ref g42, .ref g43, .ref g44, .ref g45, .ref g46, .ref g47, .int 0, .int 0, .int 4, .ref g48, .ref g49, .ref g50, .ref g51, .ref g52, .ref g53, .ref g54, .ref g55, .ref g56, .ref g57, .ref g58, .ref g59, .ref g60, .int 0, .int 0, .int 0, .int 0, .int 0, .int 0, .int 0, .int 0, .int 0, .int 0, .int 0, .int 0, .int 0, .int 0, .int 0, .int 0, .int 0, .int 0, .int 0, .int 0, .ref g61, .ref g62, .int 0, .ref g63, .ref g64, .ref g65, .ref g66, .int 0, .int 0, .ref g67, .ref h1, .int 3, .ref g68, .int 0, .int 0])), (h1, .inl (cB, 3000, .inl (upd (upd (upd (fun _ => 0) 0 105) 1 110) 2 116)))] H := hP
  have hD : va_D A [(h0, .inr (12, [.ref g0, .ref g1, .ref g2, .ref g3, .ref g4, .int 4, .ref g5, .ref g6, .ref g7, .ref g8, .ref g9, .int 0, .ref g10, .ref g11, .ref g12, .ref g13, .ref g14, .ref g15, .ref g16, .ref g17, .int 0, .ref g18, .int 0, .ref g19, .int 0, .int 0, .int 0, .int 0, .int 0, .int 0, .int 0, .int 0, .long 0, .ref g20, .ref g21, .ref g22, .ref g23, .ref g24, .ref g25, .ref g26, .ref g27, .ref g28, .ref g29, .ref g30, .int 0, .int 1, .int 0, .ref g31, .ref g32, .int 0, .ref g33, .ref g34, .ref g35, .ref g36, .int 0, .ref g37, .int 0, .ref g38, .ref g39, .ref g40, .ref g41, .ref g42, .ref g43, .ref g44, .ref g45, .ref g46, .ref g47, .int 0, .int 0, .int 4, .ref g48, .ref g49, .ref g50, .ref g51, .ref g52, .ref g53, .ref g54, .ref g55, .ref g56, .ref g57, .ref g58, .ref g59, .ref g60, .int 0, .int 0, .int 0, .int 0, .int 0, .int 0, .int 0, .int 0, .int 0, .int 0, .int 0, .int 0, .int 0, .int 0, .int 0, .int 0, .int 0, .int 0, .int 0, .int 0, .ref g61, .ref g62, .int 0, .ref g63, .ref g64, .ref g65, .ref g66, .int 0, .int 0, .ref g67, .ref h1, .int 3, .ref g68, .int 0, .int 0])), (h1, .inl (cB, 3000, .inl (upd (upd (upd (fun _ => 0) 0 105) 1 110) 2 116)))] := hD
  refine W.widen (k := 0) (n := 0) (Nat.le_of_ble_eq_true rfl) (Nat.le_of_ble_eq_true rfl) ?_
  refine pcn (b := 36) rfl ?_
  refine lv_iload_n hx hb dX12_saysWord_36 rfl (lv_at hl 0 rfl) ?_
  refine lv_iconst (v := 5) hx hb dX12_saysWord_37 (by decide +kernel) ?_
  refine lv_isub hx hb dX12_saysWord_38 ?_
  refine nrm (y := (-5)) (by decide +kernel) ?_
  refine lv_istore_n (lv' := [(3, .int (-5)), (0, .ref h0), (1, .long 9684)]) hx hb dX12_saysWord_39 rfl hl (by decide) rfl (fun ls hl => ?_)
  refine lv_goto (tgt := 3) hx hb dX12_saysWord_40 (by decide) ?_
  refine lv_iload_n hx hb dX12_saysWord_3 rfl (lv_at hl 0 rfl) ?_
  refine lv_if_lt (tgt := 43) hx hb dX12_saysWord_4 (by decide) (fun _ => ?_) (fun h9 => absurd (by decide +kernel) h9)
  refine W.widen (k := 0) (n := 0) (Nat.le_of_ble_eq_true rfl) (Nat.le_of_ble_eq_true rfl) ?_
  exact rtV hx hb hr hlocks hS hP hD rfl dX12_saysWord_43
