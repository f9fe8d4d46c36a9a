set_option maxHeartbeats 4000000 in
set_option maxRecDepth 100000 in
theorem c_X10_writeTerm_4 (l : Launch) (D : va_G) (cI cZ cB cJ : ClassId) (h0 h1 h2 h3 h4 g0 g1 g2 g3 g4 g5 g6 g7 g8 g9 g10 g11 g12 : Nat) : CtV l D (TT cI cZ cB cJ) yX10_writeTerm cX10_writeTerm 7 none 2 43 0 0 [.ref h0, .ref h1, .int 0, .int 1, .int 40] [(h0, .inr (10, [.int 0, .int 0, .int (-4)])), (h1, .inr (1, [.ref h2, .ref g0, .ref g1, .ref g2, .ref g3, .ref g4, .ref g5, .int 4, .int 3, .int 0, .int (-1), .int 0])), (h2, .inr (7, [.ref h3, .ref g6, .ref g7, .ref h4, .ref g8, .ref g9, .ref g10, .ref g11, .ref g12, .int 1, .int 1, .int 0])), (h3, .inl (cI, 60, .inl (fun _ => 0))), (h4, .inl (cI, 60, .inl (fun _ => 0)))] (fun w1 => w1 = [(h0, .inr (10, [.int 0, .int 1, .int 48])), (h1, .inr (1, [.ref h2, .ref g0, .ref g1, .ref g2, .ref g3, .ref g4, .ref g5, .int 4, .int 3, .int 0, .int (-1), .int 0])), (h2, .inr (7, [.ref h3, .ref g6, .ref g7, .ref h4, .ref g8, .ref g9, .ref g10, .ref g11, .ref g12, .int 1, .int 1, .int 0])), (h3, .inl (cI, 60, .inl (fun _ => 0))), (h4, .inl (cI, 60, .inl (fun _ => 0)))]) := by
  refine CtV.of (by decide +kernel) (Nat.le_of_ble_eq_true rfl) ?_
  intro p e s m below meth c A ls hx hb hr hml hown hts hnw hlocks hin hA hS hP hK hD hl
  have hown : s.vm.findClass RX10 = some m.cls := hown
  have hl : lv_has ls 7 [(0, .ref h0), (1, .ref h1), (2, .int 0), (3, .int 1), (4, .int 40)] := hl
  refine lv_aload_n hx hb dX10_writeTerm_0 rfl (lv_at hl 1 rfl) ?_
  refine va_getN (D := D) (ci := 1) (v := .ref h2) (C := RX1) (T := TX1) (N := 12) hx hb hts inX1 hown hK hP 1 rfl rfl 0 (by decide) (va_Nw.use rfl (hnw _ wn_277)) (fun _ h9 => h9) rfl dX10_writeTerm_1 ?_
  refine va_getN (D := D) (ci := 7) (v := .ref h3) (C := RX7) (T := TX7) (N := 12) hx hb hts inX7 hown hK hP 2 rfl rfl 0 (by decide) (va_Nw.use rfl (hnw _ wn_79)) (fun _ h9 => h9) rfl dX10_writeTerm_4 ?_
  refine lv_iload_n hx hb dX10_writeTerm_7 rfl (lv_at hl 2 rfl) ?_
  refine kSNi (As := [.ref h3, .int 0]) (rest := []) (wr := [(h0, .inr (10, [.int 0, .int 0, .int (-4)])), (h1, .inr (1, [.ref h2, .ref g0, .ref g1, .ref g2, .ref g3, .ref g4, .ref g5, .int 4, .int 3, .int 0, .int (-1), .int 0])), (h2, .inr (7, [.ref h3, .ref g6, .ref g7, .ref h4, .ref g8, .ref g9, .ref g10, .ref g11, .ref g12, .int 1, .int 1, .int 0])), (h4, .inl (cI, 60, .inl (fun _ => 0)))]) hx hb hml hown hts hnw hK hP hD hS hA hl.1 (c_X11_at_4 l D cI cZ cB cJ h3) yk_X11_at wn_971 [3] [0, 1, 2, 4] rfl rfl (by decide) (by decide) (by decide) rfl rfl dX10_writeTerm_8 ⟨Nat.le_of_ble_eq_true rfl, Nat.le_of_ble_eq_true rfl⟩ ⟨Nat.le_of_ble_eq_true rfl, Nat.le_of_ble_eq_true rfl⟩ (Nat.le_of_ble_eq_true rfl) (fun r9 w1 H locs hq9 hP hD hS => ?_)
  obtain ⟨rfl, rfl⟩ := hq9
  have hP : va_P D vwCl [(h0, .inr (10, [.int 0, .int 0, .int (-4)])), (h1, .inr (1, [.ref h2, .ref g0, .ref g1, .ref g2, .ref g3, .ref g4, .ref g5, .int 4, .int 3, .int 0, .int (-1), .int 0])), (h2, .inr (7, [.ref h3, .ref g6, .ref g7, .ref h4, .ref g8, .ref g9, .ref g10, .ref g11, .ref g12, .int 1, .int 1, .int 0])), (h4, .inl (cI, 60, .inl (fun _ => 0))), (h3, .inl (cI, 60, .inl (fun _ => 0)))] H := hP
  have hD : va_D A [(h0, .inr (10, [.int 0, .int 0, .int (-4)])), (h1, .inr (1, [.ref h2, .ref g0, .ref g1, .ref g2, .ref g3, .ref g4, .ref g5, .int 4, .int 3, .int 0, .int (-1), .int 0])), (h2, .inr (7, [.ref h3, .ref g6, .ref g7, .ref h4, .ref g8, .ref g9, .ref g10, .ref g11, .ref g12, .int 1, .int 1, .int 0])), (h4, .inl (cI, 60, .inl (fun _ => 0))), (h3, .inl (cI, 60, .inl (fun _ => 0)))] := hD
  refine W.widen (k := 0) (n := 0) (Nat.le_of_ble_eq_true rfl) (Nat.le_of_ble_eq_true rfl) ?_
  refine pcn (b := 11) rfl ?_
  refine lv_istore (lv' := [(5, .int 0), (0, .ref h0), (1, .ref h1), (2, .int 0), (3, .int 1), (4, .int 40)]) hx hb dX10_writeTerm_11 hl (by decide) rfl (fun ls hl => ?_)
  refine lv_aload_n hx hb dX10_writeTerm_13 rfl (lv_at hl 2 rfl) ?_
  refine va_getN (D := D) (ci := 1) (v := .ref h2) (C := RX1) (T := TX1) (N := 12) hx hb hts inX1 hown hK hP 1 rfl rfl 0 (by decide) (va_Nw.use rfl (hnw _ wn_277)) (fun _ h9 => h9) rfl dX10_writeTerm_14 ?_
  refine va_getN (D := D) (ci := 7) (v := .ref h4) (C := RX7) (T := TX7) (N := 12) hx hb hts inX7 hown hK hP 2 rfl rfl 3 (by decide) (va_Nw.use rfl (hnw _ wn_86)) (fun _ h9 => h9) rfl dX10_writeTerm_17 ?_
  refine lv_iload_n hx hb dX10_writeTerm_20 rfl (lv_at hl 3 rfl) ?_
  refine kSNi (As := [.ref h4, .int 0]) (rest := []) (wr := [(h0, .inr (10, [.int 0, .int 0, .int (-4)])), (h1, .inr (1, [.ref h2, .ref g0, .ref g1, .ref g2, .ref g3, .ref g4, .ref g5, .int 4, .int 3, .int 0, .int (-1), .int 0])), (h2, .inr (7, [.ref h3, .ref g6, .ref g7, .ref h4, .ref g8, .ref g9, .ref g10, .ref g11, .ref g12, .int 1, .int 1, .int 0])), (h3, .inl (cI, 60, .inl (fun _ => 0)))]) hx hb hml hown hts hnw hK hP hD hS hA hl.1 (c_X11_at_4 l D cI cZ cB cJ h4) yk_X11_at wn_971 [3] [0, 1, 2, 4] rfl rfl (by decide) (by decide) (by decide) rfl rfl dX10_writeTerm_21 ⟨Nat.le_of_ble_eq_true rfl, Nat.le_of_ble_eq_true rfl⟩ ⟨Nat.le_of_ble_eq_true rfl, Nat.le_of_ble_eq_true rfl⟩ (Nat.le_of_ble_eq_true rfl) (fun r9 w1 H locs hq9 hP hD hS => ?_)
  obtain ⟨rfl, rfl⟩ := hq9
  have hP : va_P D vwCl [(h0, .inr (10, [.int 0, .int 0, .int (-4)])), (h1, .inr (1, [.ref h2, .ref g0, .ref g1, .ref g2, .ref g3, .ref g4, .ref g5, .int 4, .int 3, .int 0, .int (-1), .int 0])), (h2, .inr (7, [.ref h3, .ref g6, .ref g7, .ref h4, .ref g8, .ref g9, .ref g10, .ref g11, .ref g12, .int 1, .int 1, .int 0])), (h3, .inl (cI, 60, .inl (fun _ => 0))), (h4, .inl (cI, 60, .inl (fun _ => 0)))] H := hP
  have hD : va_D A [(h0, .inr (10, [.int 0, .int 0, .int (-4)])), (h1, .inr (1, [.ref h2, .ref g0, .ref g1, .ref g2, .ref g3, .ref g4, .ref g5, .int 4, .int 3, .int 0, .int (-1), .int 0])), (h2, .inr (7, [.ref h3, .ref g6, .ref g7, .ref h4, .ref g8, .ref g9, .ref g10, .ref g11, .ref g12, .int 1, .int 1, .int 0])), (h3, .inl (cI, 60, .inl (fun _ => 0))), (h4, .inl (cI, 60, .inl (fun _ => 0)))] := hD
  refine W.widen (k := 0) (n := 0) (Nat.le_of_ble_eq_true rfl) (Nat.le_of_ble_eq_true rfl) ?_
  refine pcn (b := 24) rfl ?_
  refine lv_istore (lv' := [(6, .int 0), (5, .int 0), (0, .ref h0), (1, .ref h1), (2, .int 0), (3, .int 1), (4, .int 40)]) hx hb dX10_writeTerm_24 hl (by decide) rfl (fun ls hl => ?_)
  refine lv_iload hx hb dX10_writeTerm_26 (lv_at hl 6 rfl) ?_
  refine lv_if_gt (tgt := 32) hx hb dX10_writeTerm_28 (by decide) (fun _ => ?_) (fun h9 => absurd (by decide +kernel) h9)
  refine lv_iload hx hb dX10_writeTerm_32 (lv_at hl 1 rfl) ?_
  refine lv_if_ne (tgt := 46) hx hb dX10_writeTerm_34 (by decide) (fun h9 => absurd (by decide +kernel) h9) (fun _ => ?_)
  refine lv_aload_n hx hb dX10_writeTerm_37 rfl (lv_at hl 2 rfl) ?_
  refine lv_iload hx hb dX10_writeTerm_38 (lv_at hl 0 rfl) ?_
  refine kVv (As := [.int 0]) (rest := []) (wr := [(h1, .inr (1, [.ref h2, .ref g0, .ref g1, .ref g2, .ref g3, .ref g4, .ref g5, .int 4, .int 3, .int 0, .int (-1), .int 0])), (h2, .inr (7, [.ref h3, .ref g6, .ref g7, .ref h4, .ref g8, .ref g9, .ref g10, .ref g11, .ref g12, .int 1, .int 1, .int 0])), (h3, .inl (cI, 60, .inl (fun _ => 0))), (h4, .inl (cI, 60, .inl (fun _ => 0)))]) hx hb hml hown hts hnw hK hP hD hS hA hl.1 (c_X10_digits_1 l D cI cZ cB cJ h0) yk_X10_digits wm_955 [0] [1, 2, 3, 4] rfl rfl (by decide) (by decide) (by decide) 0 rfl rfl rfl rfl rfl dX10_writeTerm_40 ⟨Nat.le_of_ble_eq_true rfl, Nat.le_of_ble_eq_true rfl⟩ ⟨Nat.le_of_ble_eq_true rfl, Nat.le_of_ble_eq_true rfl⟩ (Nat.le_of_ble_eq_true rfl) (fun w1 H locs hq9 hP hD hS => ?_)
  obtain rfl := hq9
  have hP : va_P D vwCl [(h1, .inr (1, [.ref h2, .ref g0, .ref g1, .ref g2, .ref g3, .ref g4, .ref g5, .int 4, .int 3, .int 0, .int (-1), .int 0])), (h2, .inr (7, [.ref h3, .ref g6, .ref g7, .ref h4, .ref g8, .ref g9, .ref g10, .ref g11, .ref g12, .int 1, .int 1, .int 0])), (h3, .inl (cI, 60, .inl (fun _ => 0))), (h4, .inl (cI, 60, .inl (fun _ => 0))), (h0, .inr (10, [.int 0, .int 1, .int 48]))] H := hP
  have hD : va_D A [(h1, .inr (1, [.ref h2, .ref g0, .ref g1, .ref g2, .ref g3, .ref g4, .ref g5, .int 4, .int 3, .int 0, .int (-1), .int 0])), (h2, .inr (7, [.ref h3, .ref g6, .ref g7, .ref h4, .ref g8, .ref g9, .ref g10, .ref g11, .ref g12, .int 1, .int 1, .int 0])), (h3, .inl (cI, 60, .inl (fun _ => 0))), (h4, .inl (cI, 60, .inl (fun _ => 0))), (h0, .inr (10, [.int 0, .int 1, .int 48]))] := hD
  refine W.widen (k := 0) (n := 0) (Nat.le_of_ble_eq_true rfl) (Nat.le_of_ble_eq_true rfl) ?_
  refine pcn (b := 43) rfl ?_
  refine lv_goto (tgt := 155) hx hb dX10_writeTerm_43 (by decide) ?_
  refine W.widen (k := 0) (n := 0) (Nat.le_of_ble_eq_true rfl) (Nat.le_of_ble_eq_true rfl) ?_
  have hP := hP.sub (ws' := [(h0, .inr (10, [.int 0, .int 1, .int 48])), (h1, .inr (1, [.ref h2, .ref g0, .ref g1, .ref g2, .ref g3, .ref g4, .ref g5, .int 4, .int 3, .int 0, .int (-1), .int 0])), (h2, .inr (7, [.ref h3, .ref g6, .ref g7, .ref h4, .ref g8, .ref g9, .ref g10, .ref g11, .ref g12, .int 1, .int 1, .int 0])), (h3, .inl (cI, 60, .inl (fun _ => 0))), (h4, .inl (cI, 60, .inl (fun _ => 0)))]) [4, 0, 1, 2, 3] rfl
  have hD := hD.sub (ws' := [(h0, .inr (10, [.int 0, .int 1, .int 48])), (h1, .inr (1, [.ref h2, .ref g0, .ref g1, .ref g2, .ref g3, .ref g4, .ref g5, .int 4, .int 3, .int 0, .int (-1), .int 0])), (h2, .inr (7, [.ref h3, .ref g6, .ref g7, .ref h4, .ref g8, .ref g9, .ref g10, .ref g11, .ref g12, .int 1, .int 1, .int 0])), (h3, .inl (cI, 60, .inl (fun _ => 0))), (h4, .inl (cI, 60, .inl (fun _ => 0)))]) [4, 0, 1, 2, 3] (by decide) rfl
  exact rtV hx hb hr hlocks hS hP hD rfl dX10_writeTerm_155

set_option maxHeartbeats 4000000 in
set_option maxRecDepth 100000 in
theorem c_X11_writeText_35 (l : Launch) (D : va_G) (cI cZ cB cJ : ClassId) (h0 h1 h2 h3 h4 h5 g0 g1 g2 g3 g4 g5 g6 g7 g8 g9 g10 g11 g12 g13 g14 g15 g16 g17 g18 g19 g20 : Nat) : CtI l D (TT cI cZ cB cJ) yX11_writeText cX11_writeText 5 (some .boolean) 3 69 0 0 [.ref h0, .int 8, .int 0] [(h0, .inr (11, [.ref g0, .int 0, .ref g1, .ref g2, .ref h1, .ref g3, .ref g4, .ref h3, .ref g5, .ref g6, .ref g7])), (h1, .inr (1, [.ref h2, .ref g8, .ref g9, .ref g10, .ref g11, .ref g12, .ref g13, .int 4, .int 3, .int 0, .int (-1), .int 0])), (h2, .inr (7, [.ref h4, .ref g14, .ref g15, .ref h5, .ref g16, .ref g17, .ref g18, .ref g19, .ref g20, .int 1, .int 1, .int 0])), (h3, .inr (10, [.int 0, .int 0, .int (-4)])), (h4, .inl (cI, 60, .inl (fun _ => 0))), (h5, .inl (cI, 60, .inl (fun _ => 0)))] (fun r w1 => r = 1 ∧ w1 = [(h0, .inr (11, [.ref g0, .int 0, .ref g1, .ref g2, .ref h1, .ref g3, .ref g4, .ref h3, .ref g5, .ref g6, .ref g7])), (h1, .inr (1, [.ref h2, .ref g8, .ref g9, .ref g10, .ref g11, .ref g12, .ref g13, .int 4, .int 3, .int 0, .int (-1), .int 0])), (h2, .inr (7, [.ref h4, .ref g14, .ref g15, .ref h5, .ref g16, .ref g17, .ref g18, .ref g19, .ref g20, .int 1, .int 1, .int 0])), (h3, .inr (10, [.int 0, .int 1, .int 48])), (h4, .inl (cI, 60, .inl (fun _ => 0))), (h5, .inl (cI, 60, .inl (fun _ => 0)))]) := by
  refine CtI.of (by decide +kernel) (Nat.le_of_ble_eq_true rfl) ?_
  intro p e s m below meth c A ls hx hb hr hml hown hts hnw hlocks hin hA hS hP hK hD hl
  have hown : s.vm.findClass RX11 = some m.cls := hown
  have hl : lv_has ls 5 [(0, .ref h0), (1, .int 8), (2, .int 0)] := hl
  refine lv_iload_n hx hb dX11_writeText_0 rfl (lv_at hl 2 rfl) ?_
  refine lv_if_lt (tgt := 13) hx hb dX11_writeText_1 (by decide) (fun h9 => absurd h9 (by decide +kernel)) (fun _ => ?_)
  refine lv_iload_n hx hb dX11_writeText_4 rfl (lv_at hl 2 rfl) ?_
  refine lv_aload_n hx hb dX11_writeText_5 rfl (lv_at hl 0 rfl) ?_
  refine lv_iload_n hx hb dX11_writeText_6 rfl (lv_at hl 1 rfl) ?_
  refine kVi (As := [.int 8]) (rest := [.int 0]) (wr := [(h3, .inr (10, [.int 0, .int 0, .int (-4)])), (h4, .inl (cI, 60, .inl (fun _ => 0))), (h5, .inl (cI, 60, .inl (fun _ => 0)))]) hx hb hml hown hts hnw hK hP hD hS hA hl.1 (c_X11_textsOf_9 l D cI cZ cB cJ h0 h1 h2 g0 g1 g2 g3 g4 h3 g5 g6 g7 g8 g9 g10 g11 g12 g13 h4 g14 g15 h5 g16 g17 g18 g19 g20) yk_X11_textsOf wm_857 [0, 1, 2] [3, 4, 5] rfl rfl (by decide) (by decide) (by decide) 0 rfl rfl rfl rfl rfl dX11_writeText_7 ⟨Nat.le_of_ble_eq_true rfl, Nat.le_of_ble_eq_true rfl⟩ ⟨Nat.le_of_ble_eq_true rfl, Nat.le_of_ble_eq_true rfl⟩ (Nat.le_of_ble_eq_true rfl) (fun r9 w1 H locs hq9 hP hD hS => ?_)
  obtain ⟨rfl, rfl⟩ := hq9
  have hP : va_P D vwCl [(h3, .inr (10, [.int 0, .int 0, .int (-4)])), (h4, .inl (cI, 60, .inl (fun _ => 0))), (h5, .inl (cI, 60, .inl (fun _ => 0))), (h0, .inr (11, [.ref g0, .int 0, .ref g1, .ref g2, .ref h1, .ref g3, .ref g4, .ref h3, .ref g5, .ref g6, .ref g7])), (h1, .inr (1, [.ref h2, .ref g8, .ref g9, .ref g10, .ref g11, .ref g12, .ref g13, .int 4, .int 3, .int 0, .int (-1), .int 0])), (h2, .inr (7, [.ref h4, .ref g14, .ref g15, .ref h5, .ref g16, .ref g17, .ref g18, .ref g19, .ref g20, .int 1, .int 1, .int 0]))] H := hP
  have hD : va_D A [(h3, .inr (10, [.int 0, .int 0, .int (-4)])), (h4, .inl (cI, 60, .inl (fun _ => 0))), (h5, .inl (cI, 60, .inl (fun _ => 0))), (h0, .inr (11, [.ref g0, .int 0, .ref g1, .ref g2, .ref h1, .ref g3, .ref g4, .ref h3, .ref g5, .ref g6, .ref g7])), (h1, .inr (1, [.ref h2, .ref g8, .ref g9, .ref g10, .ref g11, .ref g12, .ref g13, .int 4, .int 3, .int 0, .int (-1), .int 0])), (h2, .inr (7, [.ref h4, .ref g14, .ref g15, .ref h5, .ref g16, .ref g17, .ref g18, .ref g19, .ref g20, .int 1, .int 1, .int 0]))] := hD
  refine W.widen (k := 0) (n := 0) (Nat.le_of_ble_eq_true rfl) (Nat.le_of_ble_eq_true rfl) ?_
  refine pcn (b := 10) rfl ?_
  refine lv_icmp_lt (tgt := 15) hx hb dX11_writeText_10 (by decide) (fun _ => ?_) (fun h9 => absurd (by decide +kernel) h9)
  refine lv_aload_n hx hb dX11_writeText_15 rfl (lv_at hl 0 rfl) ?_
  refine va_get (D := D) (ci := 11) (v := .ref h1) (C := RX11) (T := TX11) (N := 11) hx hb hts inX11 hown hK hP 3 rfl rfl 4 (by decide) (hts _ wm_586) (fun _ h9 => h9) rfl dX11_writeText_16 ?_
  refine va_getN (D := D) (ci := 1) (v := .ref g8) (C := RX1) (T := TX1) (N := 12) hx hb hts inX1 hown hK hP 4 rfl rfl 1 (by decide) (va_Nw.use rfl (hnw _ wn_280)) (fun _ h9 => h9) rfl dX11_writeText_19 ?_
  refine lv_astore_n (lv' := [(3, .ref g8), (0, .ref h0), (1, .int 8), (2, .int 0)]) hx hb dX11_writeText_22 rfl hl (by decide) rfl (fun ls hl => ?_)
  refine lv_aload_n hx hb dX11_writeText_23 rfl (lv_at hl 1 rfl) ?_
  refine va_get (D := D) (ci := 11) (v := .ref h1) (C := RX11) (T := TX11) (N := 11) hx hb hts inX11 hown hK hP 3 rfl rfl 4 (by decide) (hts _ wm_586) (fun _ h9 => h9) rfl dX11_writeText_24 ?_
  refine va_getN (D := D) (ci := 1) (v := .ref g9) (C := RX1) (T := TX1) (N := 12) hx hb hts inX1 hown hK hP 4 rfl rfl 2 (by decide) (va_Nw.use rfl (hnw _ wn_284)) (fun _ h9 => h9) rfl dX11_writeText_27 ?_
  refine pcn (b := 30) rfl ?_
  refine lv_astore (lv' := [(4, .ref g9), (3, .ref g8), (0, .ref h0), (1, .int 8), (2, .int 0)]) hx hb dX11_writeText_30 hl (by decide) rfl (fun ls hl => ?_)
  refine lv_iload_n hx hb dX11_writeText_32 rfl (lv_at hl 3 rfl) ?_
  refine lv_tableOut (tgt := 285) hx hb dX11_writeText_33 (by decide +kernel) (by decide) ?_
  refine lv_aload_n hx hb dX11_writeText_285 rfl (lv_at hl 2 rfl) ?_
  refine va_get (D := D) (ci := 11) (v := .ref h3) (C := RX11) (T := TX11) (N := 11) hx hb hts inX11 hown hK hP 3 rfl rfl 7 (by decide) (hts _ wm_589) (fun _ h9 => h9) rfl dX11_writeText_286 ?_
  refine lv_aload_n hx hb dX11_writeText_289 rfl (lv_at hl 2 rfl) ?_
  refine va_get (D := D) (ci := 11) (v := .ref h1) (C := RX11) (T := TX11) (N := 11) hx hb hts inX11 hown hK hP 3 rfl rfl 4 (by decide) (hts _ wm_586) (fun _ h9 => h9) rfl dX11_writeText_290 ?_
  refine lv_iload_n hx hb dX11_writeText_293 rfl (lv_at hl 4 rfl) ?_
  refine lv_iconst (v := 1) hx hb dX11_writeText_294 (by decide +kernel) ?_
  refine lv_bipush (v := 40) hx hb dX11_writeText_295 (by decide +kernel) ?_
  refine pcn (b := 297) rfl ?_
  refine kVNv (As := [.ref h1, .int 0, .int 1, .int 40]) (rest := []) (wr := [(h0, .inr (11, [.ref g0, .int 0, .ref g1, .ref g2, .ref h1, .ref g3, .ref g4, .ref h3, .ref g5, .ref g6, .ref g7]))]) hx hb hml hown hts hnw hK hP hD hS hA hl.1 (c_X10_writeTerm_4 l D cI cZ cB cJ h3 h1 h2 h4 h5 g8 g9 g10 g11 g12 g13 g14 g15 g16 g17 g18 g19 g20) yk_X10_writeTerm wn_967 [0, 4, 5, 1, 2] [3] rfl rfl (by decide) (by decide) (by decide) 0 rfl rfl rfl rfl rfl dX11_writeText_297 ⟨Nat.le_of_ble_eq_true rfl, Nat.le_of_ble_eq_true rfl⟩ ⟨Nat.le_of_ble_eq_true rfl, Nat.le_of_ble_eq_true rfl⟩ (Nat.le_of_ble_eq_true rfl) (fun w1 H locs hq9 hP hD hS => ?_)
  obtain rfl := hq9
  have hP : va_P D vwCl [(h0, .inr (11, [.ref g0, .int 0, .ref g1, .ref g2, .ref h1, .ref g3, .ref g4, .ref h3, .ref g5, .ref g6, .ref g7])), (h3, .inr (10, [.int 0, .int 1, .int 48])), (h1, .inr (1, [.ref h2, .ref g8, .ref g9, .ref g10, .ref g11, .ref g12, .ref g13, .int 4, .int 3, .int 0, .int (-1), .int 0])), (h2, .inr (7, [.ref h4, .ref g14, .ref g15, .ref h5, .ref g16, .ref g17, .ref g18, .ref g19, .ref g20, .int 1, .int 1, .int 0])), (h4, .inl (cI, 60, .inl (fun _ => 0))), (h5, .inl (cI, 60, .inl (fun _ => 0)))] H := hP
  have hD : va_D A [(h0, .inr (11, [.ref g0, .int 0, .ref g1, .ref g2, .ref h1, .ref g3, .ref g4, .ref h3, .ref g5, .ref g6, .ref g7])), (h3, .inr (10, [.int 0, .int 1, .int 48])), (h1, .inr (1, [.ref h2, .ref g8, .ref g9, .ref g10, .ref g11, .ref g12, .ref g13, .int 4, .int 3, .int 0, .int (-1), .int 0])), (h2, .inr (7, [.ref h4, .ref g14, .ref g15, .ref h5, .ref g16, .ref g17, .ref g18, .ref g19, .ref g20, .int 1, .int 1, .int 0])), (h4, .inl (cI, 60, .inl (fun _ => 0))), (h5, .inl (cI, 60, .inl (fun _ => 0)))] := hD
  refine W.widen (k := 0) (n := 0) (Nat.le_of_ble_eq_true rfl) (Nat.le_of_ble_eq_true rfl) ?_
  refine pcn (b := 300) rfl ?_
  refine lv_iconst (v := 1) hx hb dX11_writeText_300 (by decide +kernel) ?_
  refine W.widen (k := 0) (n := 0) (Nat.le_of_ble_eq_true rfl) (Nat.le_of_ble_eq_true rfl) ?_
  have hP := hP.sub (ws' := [(h0, .inr (11, [.ref g0, .int 0, .ref g1, .ref g2, .ref h1, .ref g3, .ref g4, .ref h3, .ref g5, .ref g6, .ref g7])), (h1, .inr (1, [.ref h2, .ref g8, .ref g9, .ref g10, .ref g11, .ref g12, .ref g13, .int 4, .int 3, .int 0, .int (-1), .int 0])), (h2, .inr (7, [.ref h4, .ref g14, .ref g15, .ref h5, .ref g16, .ref g17, .ref g18, .ref g19, .ref g20, .int 1, .int 1, .int 0])), (h3, .inr (10, [.int 0, .int 1, .int 48])), (h4, .inl (cI, 60, .inl (fun _ => 0))), (h5, .inl (cI, 60, .inl (fun _ => 0)))]) [0, 2, 3, 1, 4, 5] rfl
  have hD := hD.sub (ws' := [(h0, .inr (11, [.ref g0, .int 0, .ref g1, .ref g2, .ref h1, .ref g3, .ref g4, .ref h3, .ref g5, .ref g6, .ref g7])), (h1, .inr (1, [.ref h2, .ref g8, .ref g9, .ref g10, .ref g11, .ref g12, .ref g13, .int 4, .int 3, .int 0, .int (-1), .int 0])), (h2, .inr (7, [.ref h4, .ref g14, .ref g15, .ref h5, .ref g16, .ref g17, .ref g18, .ref g19, .ref g20, .int 1, .int 1, .int 0])), (h3, .inr (10, [.int 0, .int 1, .int 48])), (h4, .inl (cI, 60, .inl (fun _ => 0))), (h5, .inl (cI, 60, .inl (fun _ => 0)))]) [0, 2, 3, 1, 4, 5] (by decide) rfl
  exact rtZ hx hb hr rfl hlocks hS hP hD ⟨rfl, rfl⟩ dX11_writeText_301

set_option maxHeartbeats 4000000 in
set_option maxRecDepth 100000 in
theorem c_X10_writeTerm_5 (l : Launch) (D : va_G) (cI cZ cB cJ : ClassId) (h0 h1 h2 h3 h4 g0 g1 g2 g3 g4 g5 g6 g7 g8 g9 g10 g11 g12 : Nat) (s0 : Int32) (s0l : (1 : Int) ≤ s0.toInt) (s0h : s0.toInt ≤ (2147483647 : Int)) : CtV l D (TT cI cZ cB cJ) yX10_writeTerm cX10_writeTerm 7 none 2 43 0 0 [.ref h0, .ref h1, .int 0, .int 1, .int 40] [(h0, .inr (10, [.int s0, .int 0, .int (-4)])), (h1, .inr (1, [.ref h2, .ref g0, .ref g1, .ref g2, .ref g3, .ref g4, .ref g5, .int 4, .int 3, .int 0, .int (-1), .int 0])), (h2, .inr (7, [.ref h3, .ref g6, .ref g7, .ref h4, .ref g8, .ref g9, .ref g10, .ref g11, .ref g12, .int 1, .int 1, .int 0])), (h3, .inl (cI, 60, .inl (fun _ => 0))), (h4, .inl (cI, 60, .inl (fun _ => 0)))] (fun w1 => w1 = [(h0, .inr (10, [.int s0, .int 1, .int (-4)])), (h1, .inr (1, [.ref h2, .ref g0, .ref g1, .ref g2, .ref g3, .ref g4, .ref g5, .int 4, .int 3, .int 0, .int (-1), .int 0])), (h2, .inr (7, [.ref h3, .ref g6, .ref g7, .ref h4, .ref g8, .ref g9, .ref g10, .ref g11, .ref g12, .int 1, .int 1, .int 0])), (h3, .inl (cI, 60, .inl (fun _ => 0))), (h4, .inl (cI, 60, .inl (fun _ => 0)))]) := by
  refine CtV.of (by decide +kernel) (Nat.le_of_ble_eq_true rfl) ?_
  intro p e s m below meth c A ls hx hb hr hml hown hts hnw hlocks hin hA hS hP hK hD hl
  have hown : s.vm.findClass RX10 = some m.cls := hown
  have hl : lv_has ls 7 [(0, .ref h0), (1, .ref h1), (2, .int 0), (3, .int 1), (4, .int 40)] := hl
  refine lv_aload_n hx hb dX10_writeTerm_0 rfl (lv_at hl 1 rfl) ?_
  refine va_getN (D := D) (ci := 1) (v := .ref h2) (C := RX1) (T := TX1) (N := 12) hx hb hts inX1 hown hK hP 1 rfl rfl 0 (by decide) (va_Nw.use rfl (hnw _ wn_277)) (fun _ h9 => h9) rfl dX10_writeTerm_1 ?_
  refine va_getN (D := D) (ci := 7) (v := .ref h3) (C := RX7) (T := TX7) (N := 12) hx hb hts inX7 hown hK hP 2 rfl rfl 0 (by decide) (va_Nw.use rfl (hnw _ wn_79)) (fun _ h9 => h9) rfl dX10_writeTerm_4 ?_
  refine lv_iload_n hx hb dX10_writeTerm_7 rfl (lv_at hl 2 rfl) ?_
  refine kSNi (As := [.ref h3, .int 0]) (rest := []) (wr := [(h0, .inr (10, [.int s0, .int 0, .int (-4)])), (h1, .inr (1, [.ref h2, .ref g0, .ref g1, .ref g2, .ref g3, .ref g4, .ref g5, .int 4, .int 3, .int 0, .int (-1), .int 0])), (h2, .inr (7, [.ref h3, .ref g6, .ref g7, .ref h4, .ref g8, .ref g9, .ref g10, .ref g11, .ref g12, .int 1, .int 1, .int 0])), (h4, .inl (cI, 60, .inl (fun _ => 0)))]) hx hb hml hown hts hnw hK hP hD hS hA hl.1 (c_X11_at_4 l D cI cZ cB cJ h3) yk_X11_at wn_971 [3] [0, 1, 2, 4] rfl rfl (by decide) (by decide) (by decide) rfl rfl dX10_writeTerm_8 ⟨Nat.le_of_ble_eq_true rfl, Nat.le_of_ble_eq_true rfl⟩ ⟨Nat.le_of_ble_eq_true rfl, Nat.le_of_ble_eq_true rfl⟩ (Nat.le_of_ble_eq_true rfl) (fun r9 w1 H locs hq9 hP hD hS => ?_)
  obtain ⟨rfl, rfl⟩ := hq9
  have hP : va_P D vwCl [(h0, .inr (10, [.int s0, .int 0, .int (-4)])), (h1, .inr (1, [.ref h2, .ref g0, .ref g1, .ref g2, .ref g3, .ref g4, .ref g5, .int 4, .int 3, .int 0, .int (-1), .int 0])), (h2, .inr (7, [.ref h3, .ref g6, .ref g7, .ref h4, .ref g8, .ref g9, .ref g10, .ref g11, .ref g12, .int 1, .int 1, .int 0])), (h4, .inl (cI, 60, .inl (fun _ => 0))), (h3, .inl (cI, 60, .inl (fun _ => 0)))] H := hP
  have hD : va_D A [(h0, .inr (10, [.int s0, .int 0, .int (-4)])), (h1, .inr (1, [.ref h2, .ref g0, .ref g1, .ref g2, .ref g3, .ref g4, .ref g5, .int 4, .int 3, .int 0, .int (-1), .int 0])), (h2, .inr (7, [.ref h3, .ref g6, .ref g7, .ref h4, .ref g8, .ref g9, .ref g10, .ref g11, .ref g12, .int 1, .int 1, .int 0])), (h4, .inl (cI, 60, .inl (fun _ => 0))), (h3, .inl (cI, 60, .inl (fun _ => 0)))] := hD
  refine W.widen (k := 0) (n := 0) (Nat.le_of_ble_eq_true rfl) (Nat.le_of_ble_eq_true rfl) ?_
  refine pcn (b := 11) rfl ?_
  refine lv_istore (lv' := [(5, .int 0), (0, .ref h0), (1, .ref h1), (2, .int 0), (3, .int 1), (4, .int 40)]) hx hb dX10_writeTerm_11 hl (by decide) rfl (fun ls hl => ?_)
  refine lv_aload_n hx hb dX10_writeTerm_13 rfl (lv_at hl 2 rfl) ?_
  refine va_getN (D := D) (ci := 1) (v := .ref h2) (C := RX1) (T := TX1) (N := 12) hx hb hts inX1 hown hK hP 1 rfl rfl 0 (by decide) (va_Nw.use rfl (hnw _ wn_277)) (fun _ h9 => h9) rfl dX10_writeTerm_14 ?_
  refine va_getN (D := D) (ci := 7) (v := .ref h4) (C := RX7) (T := TX7) (N := 12) hx hb hts inX7 hown hK hP 2 rfl rfl 3 (by decide) (va_Nw.use rfl (hnw _ wn_86)) (fun _ h9 => h9) rfl dX10_writeTerm_17 ?_
  refine lv_iload_n hx hb dX10_writeTerm_20 rfl (lv_at hl 3 rfl) ?_
  refine kSNi (As := [.ref h4, .int 0]) (rest := []) (wr := [(h0, .inr (10, [.int s0, .int 0, .int (-4)])), (h1, .inr (1, [.ref h2, .ref g0, .ref g1, .ref g2, .ref g3, .ref g4, .ref g5, .int 4, .int 3, .int 0, .int (-1), .int 0])), (h2, .inr (7, [.ref h3, .ref g6, .ref g7, .ref h4, .ref g8, .ref g9, .ref g10, .ref g11, .ref g12, .int 1, .int 1, .int 0])), (h3, .inl (cI, 60, .inl (fun _ => 0)))]) hx hb hml hown hts hnw hK hP hD hS hA hl.1 (c_X11_at_4 l D cI cZ cB cJ h4) yk_X11_at wn_971 [3] [0, 1, 2, 4] rfl rfl (by decide) (by decide) (by decide) rfl rfl dX10_writeTerm_21 ⟨Nat.le_of_ble_eq_true rfl, Nat.le_of_ble_eq_true rfl⟩ ⟨Nat.le_of_ble_eq_true rfl, Nat.le_of_ble_eq_true rfl⟩ (Nat.le_of_ble_eq_true rfl) (fun r9 w1 H locs hq9 hP hD hS => ?_)
  obtain ⟨rfl, rfl⟩ := hq9
  have hP : va_P D vwCl [(h0, .inr (10, [.int s0, .int 0, .int (-4)])), (h1, .inr (1, [.ref h2, .ref g0, .ref g1, .ref g2, .ref g3, .ref g4, .ref g5, .int 4, .int 3, .int 0, .int (-1), .int 0])), (h2, .inr (7, [.ref h3, .ref g6, .ref g7, .ref h4, .ref g8, .ref g9, .ref g10, .ref g11, .ref g12, .int 1, .int 1, .int 0])), (h3, .inl (cI, 60, .inl (fun _ => 0))), (h4, .inl (cI, 60, .inl (fun _ => 0)))] H := hP
  have hD : va_D A [(h0, .inr (10, [.int s0, .int 0, .int (-4)])), (h1, .inr (1, [.ref h2, .ref g0, .ref g1, .ref g2, .ref g3, .ref g4, .ref g5, .int 4, .int 3, .int 0, .int (-1), .int 0])), (h2, .inr (7, [.ref h3, .ref g6, .ref g7, .ref h4, .ref g8, .ref g9, .ref g10, .ref g11, .ref g12, .int 1, .int 1, .int 0])), (h3, .inl (cI, 60, .inl (fun _ => 0))), (h4, .inl (cI, 60, .inl (fun _ => 0)))] := hD
  refine W.widen (k := 0) (n := 0) (Nat.le_of_ble_eq_true rfl) (Nat.le_of_ble_eq_true rfl) ?_
  refine pcn (b := 24) rfl ?_
  refine lv_istore (lv' := [(6, .int 0), (5, .int 0), (0, .ref h0), (1, .ref h1), (2, .int 0), (3, .int 1), (4, .int 40)]) hx hb dX10_writeTerm_24 hl (by decide) rfl (fun ls hl => ?_)
  refine lv_iload hx hb dX10_writeTerm_26 (lv_at hl 6 rfl) ?_
  refine lv_if_gt (tgt := 32) hx hb dX10_writeTerm_28 (by decide) (fun _ => ?_) (fun h9 => absurd (by decide +kernel) h9)
  refine lv_iload hx hb dX10_writeTerm_32 (lv_at hl 1 rfl) ?_
  refine lv_if_ne (tgt := 46) hx hb dX10_writeTerm_34 (by decide) (fun h9 => absurd (by decide +kernel) h9) (fun _ => ?_)
  refine lv_aload_n hx hb dX10_writeTerm_37 rfl (lv_at hl 2 rfl) ?_
  refine lv_iload hx hb dX10_writeTerm_38 (lv_at hl 0 rfl) ?_
  refine kVv (As := [.int 0]) (rest := []) (wr := [(h1, .inr (1, [.ref h2, .ref g0, .ref g1, .ref g2, .ref g3, .ref g4, .ref g5, .int 4, .int 3, .int 0, .int (-1), .int 0])), (h2, .inr (7, [.ref h3, .ref g6, .ref g7, .ref h4, .ref g8, .ref g9, .ref g10, .ref g11, .ref g12, .int 1, .int 1, .int 0])), (h3, .inl (cI, 60, .inl (fun _ => 0))), (h4, .inl (cI, 60, .inl (fun _ => 0)))]) hx hb hml hown hts hnw hK hP hD hS hA hl.1 (c_X10_digits_2 l D cI cZ cB cJ h0 s0 s0l s0h) yk_X10_digits wm_955 [0] [1, 2, 3, 4] rfl rfl (by decide) (by decide) (by decide) 0 rfl rfl rfl rfl rfl dX10_writeTerm_40 ⟨Nat.le_of_ble_eq_true rfl, Nat.le_of_ble_eq_true rfl⟩ ⟨Nat.le_of_ble_eq_true rfl, Nat.le_of_ble_eq_true rfl⟩ (Nat.le_of_ble_eq_true rfl) (fun w1 H locs hq9 hP hD hS => ?_)
  obtain rfl := hq9
  have hP : va_P D vwCl [(h1, .inr (1, [.ref h2, .ref g0, .ref g1, .ref g2, .ref g3, .ref g4, .ref g5, .int 4, .int 3, .int 0, .int (-1), .int 0])), (h2, .inr (7, [.ref h3, .ref g6, .ref g7, .ref h4, .ref g8, .ref g9, .ref g10, .ref g11, .ref g12, .int 1, .int 1, .int 0])), (h3, .inl (cI, 60, .inl (fun _ => 0))), (h4, .inl (cI, 60, .inl (fun _ => 0))), (h0, .inr (10, [.int s0, .int 1, .int (-4)]))] H := hP
  have hD : va_D A [(h1, .inr (1, [.ref h2, .ref g0, .ref g1, .ref g2, .ref g3, .ref g4, .ref g5, .int 4, .int 3, .int 0, .int (-1), .int 0])), (h2, .inr (7, [.ref h3, .ref g6, .ref g7, .ref h4, .ref g8, .ref g9, .ref g10, .ref g11, .ref g12, .int 1, .int 1, .int 0])), (h3, .inl (cI, 60, .inl (fun _ => 0))), (h4, .inl (cI, 60, .inl (fun _ => 0))), (h0, .inr (10, [.int s0, .int 1, .int (-4)]))] := hD
  refine W.widen (k := 0) (n := 0) (Nat.le_of_ble_eq_true rfl) (Nat.le_of_ble_eq_true rfl) ?_
  refine pcn (b := 43) rfl ?_
  refine lv_goto (tgt := 155) hx hb dX10_writeTerm_43 (by decide) ?_
  refine W.widen (k := 0) (n := 0) (Nat.le_of_ble_eq_true rfl) (Nat.le_of_ble_eq_true rfl) ?_
  have hP := hP.sub (ws' := [(h0, .inr (10, [.int s0, .int 1, .int (-4)])), (h1, .inr (1, [.ref h2, .ref g0, .ref g1, .ref g2, .ref g3, .ref g4, .ref g5, .int 4, .int 3, .int 0, .int (-1), .int 0])), (h2, .inr (7, [.ref h3, .ref g6, .ref g7, .ref h4, .ref g8, .ref g9, .ref g10, .ref g11, .ref g12, .int 1, .int 1, .int 0])), (h3, .inl (cI, 60, .inl (fun _ => 0))), (h4, .inl (cI, 60, .inl (fun _ => 0)))]) [4, 0, 1, 2, 3] rfl
  have hD := hD.sub (ws' := [(h0, .inr (10, [.int s0, .int 1, .int (-4)])), (h1, .inr (1, [.ref h2, .ref g0, .ref g1, .ref g2, .ref g3, .ref g4, .ref g5, .int 4, .int 3, .int 0, .int (-1), .int 0])), (h2, .inr (7, [.ref h3, .ref g6, .ref g7, .ref h4, .ref g8, .ref g9, .ref g10, .ref g11, .ref g12, .int 1, .int 1, .int 0])), (h3, .inl (cI, 60, .inl (fun _ => 0))), (h4, .inl (cI, 60, .inl (fun _ => 0)))]) [4, 0, 1, 2, 3] (by decide) rfl
  exact rtV hx hb hr hlocks hS hP hD rfl dX10_writeTerm_155

set_option maxHeartbeats 4000000 in
set_option maxRecDepth 100000 in
theorem c_X11_writeText_36 (l : Launch) (D : va_G) (cI cZ cB cJ : ClassId) (h0 h1 h2 h3 h4 h5 g0 g1 g2 g3 g4 g5 g6 g7 g8 g9 g10 g11 g12 g13 g14 g15 g16 g17 g18 g19 g20 : Nat) (s0 : Int32) (s0l : (1 : Int) ≤ s0.toInt) (s0h : s0.toInt ≤ (2147483647 : Int)) : CtI l D (TT cI cZ cB cJ) yX11_writeText cX11_writeText 5 (some .boolean) 3 69 0 0 [.ref h0, .int 8, .int 0] [(h0, .inr (11, [.ref g0, .int 0, .ref g1, .ref g2, .ref h1, .ref g3, .ref g4, .ref h3, .ref g5, .ref g6, .ref g7])), (h1, .inr (1, [.ref h2, .ref g8, .ref g9, .ref g10, .ref g11, .ref g12, .ref g13, .int 4, .int 3, .int 0, .int (-1), .int 0])), (h2, .inr (7, [.ref h4, .ref g14, .ref g15, .ref h5, .ref g16, .ref g17, .ref g18, .ref g19, .ref g20, .int 1, .int 1, .int 0])), (h3, .inr (10, [.int s0, .int 0, .int (-4)])), (h4, .inl (cI, 60, .inl (fun _ => 0))), (h5, .inl (cI, 60, .inl (fun _ => 0)))] (fun r w1 => r = 1 ∧ w1 = [(h0, .inr (11, [.ref g0, .int 0, .ref g1, .ref g2, .ref h1, .ref g3, .ref g4, .ref h3, .ref g5, .ref g6, .ref g7])), (h1, .inr (1, [.ref h2, .ref g8, .ref g9, .ref g10, .ref g11, .ref g12, .ref g13, .int 4, .int 3, .int 0, .int (-1), .int 0])), (h2, .inr (7, [.ref h4, .ref g14, .ref g15, .ref h5, .ref g16, .ref g17, .ref g18, .ref g19, .ref g20, .int 1, .int 1, .int 0])), (h3, .inr (10, [.int s0, .int 1, .int (-4)])), (h4, .inl (cI, 60, .inl (fun _ => 0))), (h5, .inl (cI, 60, .inl (fun _ => 0)))]) := by
  refine CtI.of (by decide +kernel) (Nat.le_of_ble_eq_true rfl) ?_
  intro p e s m below meth c A ls hx hb hr hml hown hts hnw hlocks hin hA hS hP hK hD hl
  have hown : s.vm.findClass RX11 = some m.cls := hown
  have hl : lv_has ls 5 [(0, .ref h0), (1, .int 8), (2, .int 0)] := hl
  refine lv_iload_n hx hb dX11_writeText_0 rfl (lv_at hl 2 rfl) ?_
  refine lv_if_lt (tgt := 13) hx hb dX11_writeText_1 (by decide) (fun h9 => absurd h9 (by decide +kernel)) (fun _ => ?_)
  refine lv_iload_n hx hb dX11_writeText_4 rfl (lv_at hl 2 rfl) ?_
  refine lv_aload_n hx hb dX11_writeText_5 rfl (lv_at hl 0 rfl) ?_
  refine lv_iload_n hx hb dX11_writeText_6 rfl (lv_at hl 1 rfl) ?_
  refine kVi (As := [.int 8]) (rest := [.int 0]) (wr := [(h3, .inr (10, [.int s0, .int 0, .int (-4)])), (h4, .inl (cI, 60, .inl (fun _ => 0))), (h5, .inl (cI, 60, .inl (fun _ => 0)))]) hx hb hml hown hts hnw hK hP hD hS hA hl.1 (c_X11_textsOf_9 l D cI cZ cB cJ h0 h1 h2 g0 g1 g2 g3 g4 h3 g5 g6 g7 g8 g9 g10 g11 g12 g13 h4 g14 g15 h5 g16 g17 g18 g19 g20) yk_X11_textsOf wm_857 [0, 1, 2] [3, 4, 5] rfl rfl (by decide) (by decide) (by decide) 0 rfl rfl rfl rfl rfl dX11_writeText_7 ⟨Nat.le_of_ble_eq_true rfl, Nat.le_of_ble_eq_true rfl⟩ ⟨Nat.le_of_ble_eq_true rfl, Nat.le_of_ble_eq_true rfl⟩ (Nat.le_of_ble_eq_true rfl) (fun r9 w1 H locs hq9 hP hD hS => ?_)
  obtain ⟨rfl, rfl⟩ := hq9
  have hP : va_P D vwCl [(h3, .inr (10, [.int s0, .int 0, .int (-4)])), (h4, .inl (cI, 60, .inl (fun _ => 0))), (h5, .inl (cI, 60, .inl (fun _ => 0))), (h0, .inr (11, [.ref g0, .int 0, .ref g1, .ref g2, .ref h1, .ref g3, .ref g4, .ref h3, .ref g5, .ref g6, .ref g7])), (h1, .inr (1, [.ref h2, .ref g8, .ref g9, .ref g10, .ref g11, .ref g12, .ref g13, .int 4, .int 3, .int 0, .int (-1), .int 0])), (h2, .inr (7, [.ref h4, .ref g14, .ref g15, .ref h5, .ref g16, .ref g17, .ref g18, .ref g19, .ref g20, .int 1, .int 1, .int 0]))] H := hP
  have hD : va_D A [(h3, .inr (10, [.int s0, .int 0, .int (-4)])), (h4, .inl (cI, 60, .inl (fun _ => 0))), (h5, .inl (cI, 60, .inl (fun _ => 0))), (h0, .inr (11, [.ref g0, .int 0, .ref g1, .ref g2, .ref h1, .ref g3, .ref g4, .ref h3, .ref g5, .ref g6, .ref g7])), (h1, .inr (1, [.ref h2, .ref g8, .ref g9, .ref g10, .ref g11, .ref g12, .ref g13, .int 4, .int 3, .int 0, .int (-1), .int 0])), (h2, .inr (7, [.ref h4, .ref g14, .ref g15, .ref h5, .ref g16, .ref g17, .ref g18, .ref g19, .ref g20, .int 1, .int 1, .int 0]))] := hD
  refine W.widen (k := 0) (n := 0) (Nat.le_of_ble_eq_true rfl) (Nat.le_of_ble_eq_true rfl) ?_
  refine pcn (b := 10) rfl ?_
  refine lv_icmp_lt (tgt := 15) hx hb dX11_writeText_10 (by decide) (fun _ => ?_) (fun h9 => absurd (by decide +kernel) h9)
  refine lv_aload_n hx hb dX11_writeText_15 rfl (lv_at hl 0 rfl) ?_
  refine va_get (D := D) (ci := 11) (v := .ref h1) (C := RX11) (T := TX11) (N := 11) hx hb hts inX11 hown hK hP 3 rfl rfl 4 (by decide) (hts _ wm_586) (fun _ h9 => h9) rfl dX11_writeText_16 ?_
  refine va_getN (D := D) (ci := 1) (v := .ref g8) (C := RX1) (T := TX1) (N := 12) hx hb hts inX1 hown hK hP 4 rfl rfl 1 (by decide) (va_Nw.use rfl (hnw _ wn_280)) (fun _ h9 => h9) rfl dX11_writeText_19 ?_
  refine lv_astore_n (lv' := [(3, .ref g8), (0, .ref h0), (1, .int 8), (2, .int 0)]) hx hb dX11_writeText_22 rfl hl (by decide) rfl (fun ls hl => ?_)
  refine lv_aload_n hx hb dX11_writeText_23 rfl (lv_at hl 1 rfl) ?_
  refine va_get (D := D) (ci := 11) (v := .ref h1) (C := RX11) (T := TX11) (N := 11) hx hb hts inX11 hown hK hP 3 rfl rfl 4 (by decide) (hts _ wm_586) (fun _ h9 => h9) rfl dX11_writeText_24 ?_
  refine va_getN (D := D) (ci := 1) (v := .ref g9) (C := RX1) (T := TX1) (N := 12) hx hb hts inX1 hown hK hP 4 rfl rfl 2 (by decide) (va_Nw.use rfl (hnw _ wn_284)) (fun _ h9 => h9) rfl dX11_writeText_27 ?_
  refine pcn (b := 30) rfl ?_
  refine lv_astore (lv' := [(4, .ref g9), (3, .ref g8), (0, .ref h0), (1, .int 8), (2, .int 0)]) hx hb dX11_writeText_30 hl (by decide) rfl (fun ls hl => ?_)
  refine lv_iload_n hx hb dX11_writeText_32 rfl (lv_at hl 3 rfl) ?_
  refine lv_tableOut (tgt := 285) hx hb dX11_writeText_33 (by decide +kernel) (by decide) ?_
  refine lv_aload_n hx hb dX11_writeText_285 rfl (lv_at hl 2 rfl) ?_
  refine va_get (D := D) (ci := 11) (v := .ref h3) (C := RX11) (T := TX11) (N := 11) hx hb hts inX11 hown hK hP 3 rfl rfl 7 (by decide) (hts _ wm_589) (fun _ h9 => h9) rfl dX11_writeText_286 ?_
  refine lv_aload_n hx hb dX11_writeText_289 rfl (lv_at hl 2 rfl) ?_
  refine va_get (D := D) (ci := 11) (v := .ref h1) (C := RX11) (T := TX11) (N := 11) hx hb hts inX11 hown hK hP 3 rfl rfl 4 (by decide) (hts _ wm_586) (fun _ h9 => h9) rfl dX11_writeText_290 ?_
  refine lv_iload_n hx hb dX11_writeText_293 rfl (lv_at hl 4 rfl) ?_
  refine lv_iconst (v := 1) hx hb dX11_writeText_294 (by decide +kernel) ?_
  refine lv_bipush (v := 40) hx hb dX11_writeText_295 (by decide +kernel) ?_
  refine pcn (b := 297) rfl ?_
  refine kVNv (As := [.ref h1, .int 0, .int 1, .int 40]) (rest := []) (wr := [(h0, .inr (11, [.ref g0, .int 0, .ref g1, .ref g2, .ref h1, .ref g3, .ref g4, .ref h3, .ref g5, .ref g6, .ref g7]))]) hx hb hml hown hts hnw hK hP hD hS hA hl.1 (c_X10_writeTerm_5 l D cI cZ cB cJ h3 h1 h2 h4 h5 g8 g9 g10 g11 g12 g13 g14 g15 g16 g17 g18 g19 g20 s0 s0l s0h) yk_X10_writeTerm wn_967 [0, 4, 5, 1, 2] [3] rfl rfl (by decide) (by decide) (by decide) 0 rfl rfl rfl rfl rfl dX11_writeText_297 ⟨Nat.le_of_ble_eq_true rfl, Nat.le_of_ble_eq_true rfl⟩ ⟨Nat.le_of_ble_eq_true rfl, Nat.le_of_ble_eq_true rfl⟩ (Nat.le_of_ble_eq_true rfl) (fun w1 H locs hq9 hP hD hS => ?_)
  obtain rfl := hq9
  have hP : va_P D vwCl [(h0, .inr (11, [.ref g0, .int 0, .ref g1, .ref g2, .ref h1, .ref g3, .ref g4, .ref h3, .ref g5, .ref g6, .ref g7])), (h3, .inr (10, [.int s0, .int 1, .int (-4)])), (h1, .inr (1, [.ref h2, .ref g8, .ref g9, .ref g10, .ref g11, .ref g12, .ref g13, .int 4, .int 3, .int 0, .int (-1), .int 0])), (h2, .inr (7, [.ref h4, .ref g14, .ref g15, .ref h5, .ref g16, .ref g17, .ref g18, .ref g19, .ref g20, .int 1, .int 1, .int 0])), (h4, .inl (cI, 60, .inl (fun _ => 0))), (h5, .inl (cI, 60, .inl (fun _ => 0)))] H := hP
  have hD : va_D A [(h0, .inr (11, [.ref g0, .int 0, .ref g1, .ref g2, .ref h1, .ref g3, .ref g4, .ref h3, .ref g5, .ref g6, .ref g7])), (h3, .inr (10, [.int s0, .int 1, .int (-4)])), (h1, .inr (1, [.ref h2, .ref g8, .ref g9, .ref g10, .ref g11, .ref g12, .ref g13, .int 4, .int 3, .int 0, .int (-1), .int 0])), (h2, .inr (7, [.ref h4, .ref g14, .ref g15, .ref h5, .ref g16, .ref g17, .ref g18, .ref g19, .ref g20, .int 1, .int 1, .int 0])), (h4, .inl (cI, 60, .inl (fun _ => 0))), (h5, .inl (cI, 60, .inl (fun _ => 0)))] := hD
  refine W.widen (k := 0) (n := 0) (Nat.le_of_ble_eq_true rfl) (Nat.le_of_ble_eq_true rfl) ?_
  refine pcn (b := 300) rfl ?_
  refine lv_iconst (v := 1) hx hb dX11_writeText_300 (by decide +kernel) ?_
  refine W.widen (k := 0) (n := 0) (Nat.le_of_ble_eq_true rfl) (Nat.le_of_ble_eq_true rfl) ?_
  have hP := hP.sub (ws' := [(h0, .inr (11, [.ref g0, .int 0, .ref g1, .ref g2, .ref h1, .ref g3, .ref g4, .ref h3, .ref g5, .ref g6, .ref g7])), (h1, .inr (1, [.ref h2, .ref g8, .ref g9, .ref g10, .ref g11, .ref g12, .ref g13, .int 4, .int 3, .int 0, .int (-1), .int 0])), (h2, .inr (7, [.ref h4, .ref g14, .ref g15, .ref h5, .ref g16, .ref g17, .ref g18, .ref g19, .ref g20, .int 1, .int 1, .int 0])), (h3, .inr (10, [.int s0, .int 1, .int (-4)])), (h4, .inl (cI, 60, .inl (fun _ => 0))), (h5, .inl (cI, 60, .inl (fun _ => 0)))]) [0, 2, 3, 1, 4, 5] rfl
  have hD := hD.sub (ws' := [(h0, .inr (11, [.ref g0, .int 0, .ref g1, .ref g2, .ref h1, .ref g3, .ref g4, .ref h3, .ref g5, .ref g6, .ref g7])), (h1, .inr (1, [.ref h2, .ref g8, .ref g9, .ref g10, .ref g11, .ref g12, .ref g13, .int 4, .int 3, .int 0, .int (-1), .int 0])), (h2, .inr (7, [.ref h4, .ref g14, .ref g15, .ref h5, .ref g16, .ref g17, .ref g18, .ref g19, .ref g20, .int 1, .int 1, .int 0])), (h3, .inr (10, [.int s0, .int 1, .int (-4)])), (h4, .inl (cI, 60, .inl (fun _ => 0))), (h5, .inl (cI, 60, .inl (fun _ => 0)))]) [0, 2, 3, 1, 4, 5] (by decide) rfl
  exact rtZ hx hb hr rfl hlocks hS hP hD ⟨rfl, rfl⟩ dX11_writeText_301

set_option maxHeartbeats 4000000 in
set_option maxRecDepth 100000 in
theorem c_X11_writeText_37 (l : Launch) (D : va_G) (cI cZ cB cJ : ClassId) (h0 h1 h2 g0 g1 g2 g3 g4 g5 g6 g7 g8 g9 g10 g11 g12 g13 g14 g15 g16 g17 g18 g19 g20 g21 g22 g23 : Nat) (s0 : Int32) (s0l : (1 : Int) ≤ s0.toInt) (s0h : s0.toInt ≤ (2147483647 : Int)) : CtI l D (TT cI cZ cB cJ) yX11_writeText cX11_writeText 5 (some .boolean) 1 21 0 0 [.ref h0, .int 8, .int s0] [(h0, .inr (11, [.ref g0, .int 0, .ref g1, .ref g2, .ref h1, .ref g3, .ref g4, .ref g5, .ref g6, .ref g7, .ref g8])), (h1, .inr (1, [.ref h2, .ref g9, .ref g10, .ref g11, .ref g12, .ref g13, .ref g14, .int 4, .int 3, .int 0, .int (-1), .int 0])), (h2, .inr (7, [.ref g15, .ref g16, .ref g17, .ref g18, .ref g19, .ref g20, .ref g21, .ref g22, .ref g23, .int 1, .int 1, .int 0]))] (fun r w1 => r = 0 ∧ w1 = [(h0, .inr (11, [.ref g0, .int 0, .ref g1, .ref g2, .ref h1, .ref g3, .ref g4, .ref g5, .ref g6, .ref g7, .ref g8])), (h1, .inr (1, [.ref h2, .ref g9, .ref g10, .ref g11, .ref g12, .ref g13, .ref g14, .int 4, .int 3, .int 0, .int (-1), .int 0])), (h2, .inr (7, [.ref g15, .ref g16, .ref g17, .ref g18, .ref g19, .ref g20, .ref g21, .ref g22, .ref g23, .int 1, .int 1, .int 0]))]) := by
  refine CtI.of (by decide +kernel) (Nat.le_of_ble_eq_true rfl) ?_
  intro p e s m below meth c A ls hx hb hr hml hown hts hnw hlocks hin hA hS hP hK hD hl
  have hown : s.vm.findClass RX11 = some m.cls := hown
  have hl : lv_has ls 5 [(0, .ref h0), (1, .int 8), (2, .int s0)] := hl
  refine lv_iload_n hx hb dX11_writeText_0 rfl (lv_at hl 2 rfl) ?_
  refine lv_if_lt (tgt := 13) hx hb dX11_writeText_1 (by decide) (fun h9 => absurd h9 (iv_nlt s0l (by decide +kernel : (0 : Int32).toInt ≤ (0 : Int)) (by decide))) (fun _ => ?_)
  refine lv_iload_n hx hb dX11_writeText_4 rfl (lv_at hl 2 rfl) ?_
  refine lv_aload_n hx hb dX11_writeText_5 rfl (lv_at hl 0 rfl) ?_
  refine lv_iload_n hx hb dX11_writeText_6 rfl (lv_at hl 1 rfl) ?_
  refine kVi (As := [.int 8]) (rest := [.int s0]) (wr := []) hx hb hml hown hts hnw hK hP hD hS hA hl.1 (c_X11_textsOf_9 l D cI cZ cB cJ h0 h1 h2 g0 g1 g2 g3 g4 g5 g6 g7 g8 g9 g10 g11 g12 g13 g14 g15 g16 g17 g18 g19 g20 g21 g22 g23) yk_X11_textsOf wm_857 [0, 1, 2] [] rfl rfl (by decide) (by decide) (by decide) 0 rfl rfl rfl rfl rfl dX11_writeText_7 ⟨Nat.le_of_ble_eq_true rfl, Nat.le_of_ble_eq_true rfl⟩ ⟨Nat.le_of_ble_eq_true rfl, Nat.le_of_ble_eq_true rfl⟩ (Nat.le_of_ble_eq_true rfl) (fun r9 w1 H locs hq9 hP hD hS => ?_)
  obtain ⟨rfl, rfl⟩ := hq9
  have hP : va_P D vwCl [(h0, .inr (11, [.ref g0, .int 0, .ref g1, .ref g2, .ref h1, .ref g3, .ref g4, .ref g5, .ref g6, .ref g7, .ref g8])), (h1, .inr (1, [.ref h2, .ref g9, .ref g10, .ref g11, .ref g12, .ref g13, .ref g14, .int 4, .int 3, .int 0, .int (-1), .int 0])), (h2, .inr (7, [.ref g15, .ref g16, .ref g17, .ref g18, .ref g19, .ref g20, .ref g21, .ref g22, .ref g23, .int 1, .int 1, .int 0]))] H := hP
  have hD : va_D A [(h0, .inr (11, [.ref g0, .int 0, .ref g1, .ref g2, .ref h1, .ref g3, .ref g4, .ref g5, .ref g6, .ref g7, .ref g8])), (h1, .inr (1, [.ref h2, .ref g9, .ref g10, .ref g11, .ref g12, .ref g13, .ref g14, .int 4, .int 3, .int 0, .int (-1), .int 0])), (h2, .inr (7, [.ref g15, .ref g16, .ref g17, .ref g18, .ref g19, .ref g20, .ref g21, .ref g22, .ref g23, .int 1, .int 1, .int 0]))] := hD
  refine W.widen (k := 0) (n := 0) (Nat.le_of_ble_eq_true rfl) (Nat.le_of_ble_eq_true rfl) ?_
  refine pcn (b := 10) rfl ?_
  refine lv_icmp_lt (tgt := 15) hx hb dX11_writeText_10 (by decide) (fun h9 => absurd h9 (iv_nlt s0l (by decide +kernel : (1 : Int32).toInt ≤ (1 : Int)) (by decide))) (fun _ => ?_)
  refine lv_iconst (v := 0) hx hb dX11_writeText_13 (by decide +kernel) ?_
  refine W.widen (k := 0) (n := 0) (Nat.le_of_ble_eq_true rfl) (Nat.le_of_ble_eq_true rfl) ?_
  exact rtZ hx hb hr rfl hlocks hS hP hD ⟨rfl, rfl⟩ dX11_writeText_14

set_option maxHeartbeats 4000000 in
set_option maxRecDepth 100000 in
theorem c_X12_manyOf_10 (l : Launch) (D : va_G) (cI cZ cB cJ : ClassId) (h0 g0 g1 g2 g3 g4 g5 g6 g7 g8 g9 g10 g11 g12 g13 g14 g15 g16 g17 g18 g19 g20 g21 g22 g23 g24 g25 g26 g27 g28 g29 g30 g31 g32 g33 g34 g35 g36 g37 g38 g39 g40 g41 g42 g43 g44 g45 g46 g47 g48 g49 g50 g51 g52 g53 g54 g55 g56 g57 g58 g59 g60 g61 g62 g63 g64 g65 g66 g67 g68 g69 : Nat) (s0 : Int32) (s0l : (9 : Int) ≤ s0.toInt) (s0h : s0.toInt ≤ (2147483647 : Int)) : CtI l D (TT cI cZ cB cJ) yX12_manyOf cX12_manyOf 2 (some .int) 0 0 0 0 [.ref h0, .int s0] [(h0, .inr (12, [.ref g0, .ref g1, .ref g2, .ref g3, .ref g4, .int 4, .ref g5, .ref g6, .ref g7, .ref g8, .ref g9, .int 0, .ref g10, .ref g11, .ref g12, .ref g13, .ref g14, .ref g15, .ref g16, .ref g17, .int 0, .ref g18, .int 0, .ref g19, .int 0, .int 0, .int 0, .int 0, .int 0, .int 0, .int 0, .int 0, .long 0, .ref g20, .ref g21, .ref g22, .ref g23, .ref g24, .ref g25, .ref g26, .ref g27, .ref g28, .ref g29, .ref g30, .int 0, .int 1, .int 0, .ref g31, .ref g32, .int 0, .ref g33, .ref g34, .ref g35, .ref g36, .int 0, .ref g37, .int 0, .ref g38, .ref g39, .ref g40, .ref g41, .ref g42, .ref g43, .ref g44, .ref g45, .ref g46, .ref g47, .int 0, .int 0, .int 4, .ref g48, .ref g49, .ref g50, .ref g51, .ref g52, .ref g53, .ref g54, .ref g55, .ref g56, .ref g57, .ref g58, .ref g59, .ref g60, .int 0, .int 0, .int 0, .int 0, .int 0, .int 0, .int 0, .int 0, .int 0, .int 0, .int 0, .int 0, .int 0, .int 0, .int 0, .int 0, .int 0, .int 0, .int 0, .int 0, .ref g61, .ref g62, .int 0, .ref g63, .ref g64, .ref g65, .ref g66, .int 0, .int 0, .ref g67, .ref g68, .int 0, .ref g69, .int 0, .int 0]))] (fun r w1 => r = 0 ∧ w1 = [(h0, .inr (12, [.ref g0, .ref g1, .ref g2, .ref g3, .ref g4, .int 4, .ref g5, .ref g6, .ref g7, .ref g8, .ref g9, .int 0, .ref g10, .ref g11, .ref g12, .ref g13, .ref g14, .ref g15, .ref g16, .ref g17, .int 0, .ref g18, .int 0, .ref g19, .int 0, .int 0, .int 0, .int 0, .int 0, .int 0, .int 0, .int 0, .long 0, .ref g20, .ref g21, .ref g22, .ref g23, .ref g24, .ref g25, .ref g26, .ref g27, .ref g28, .ref g29, .ref g30, .int 0, .int 1, .int 0, .ref g31, .ref g32, .int 0, .ref g33, .ref g34, .ref g35, .ref g36, .int 0, .ref g37, .int 0, .ref g38, .ref g39, .ref g40, .ref g41, .ref g42, .ref g43, .ref g44, .ref g45, .ref g46, .ref g47, .int 0, .int 0, .int 4, .ref g48, .ref g49, .ref g50, .ref g51, .ref g52, .ref g53, .ref g54, .ref g55, .ref g56, .ref g57, .ref g58, .ref g59, .ref g60, .int 0, .int 0, .int 0, .int 0, .int 0, .int 0, .int 0, .int 0, .int 0, .int 0, .int 0, .int 0, .int 0, .int 0, .int 0, .int 0, .int 0, .int 0, .int 0, .int 0, .ref g61, .ref g62, .int 0, .ref g63, .ref g64, .ref g65, .ref g66, .int 0, .int 0, .ref g67, .ref g68, .int 0, .ref g69, .int 0, .int 0]))]) := by
  refine CtI.of (by decide +kernel) (Nat.le_of_ble_eq_true rfl) ?_
  intro p e s m below meth c A ls hx hb hr hml hown hts hnw hlocks hin hA hS hP hK hD hl
  have hown : s.vm.findClass RX12 = some m.cls := hown
  have hl : lv_has ls 2 [(0, .ref h0), (1, .int s0)] := hl
  refine lv_iload_n hx hb dX12_manyOf_0 rfl (lv_at hl 1 rfl) ?_
  refine lv_tableOut (tgt := 87) hx hb dX12_manyOf_1 (Or.inr (Int.lt_of_lt_of_le (by decide) s0l)) (by decide) ?_
  refine lv_iconst (v := 0) hx hb dX12_manyOf_87 (by decide +kernel) ?_
  refine W.widen (k := 0) (n := 0) (Nat.le_of_ble_eq_true rfl) (Nat.le_of_ble_eq_true rfl) ?_
  exact rtI hx hb hr hlocks hS hP hD ⟨rfl, rfl⟩ dX12_manyOf_88

set_option maxHeartbeats 4000000 in
set_option maxRecDepth 100000 in
theorem c_X11_textsOf_10 (l : Launch) (D : va_G) (cI cZ cB cJ : ClassId) (h0 g0 g1 g2 g3 g4 g5 g6 g7 g8 g9 : Nat) (s0 : Int32) (s0l : (9 : Int) ≤ s0.toInt) (s0h : s0.toInt ≤ (2147483647 : Int)) : CtI l D (TT cI cZ cB cJ) yX11_textsOf cX11_textsOf 2 (some .int) 0 0 0 0 [.ref h0, .int s0] [(h0, .inr (11, [.ref g0, .int 0, .ref g1, .ref g2, .ref g3, .ref g4, .ref g5, .ref g6, .ref g7, .ref g8, .ref g9]))] (fun r w1 => r = 0 ∧ w1 = [(h0, .inr (11, [.ref g0, .int 0, .ref g1, .ref g2, .ref g3, .ref g4, .ref g5, .ref g6, .ref g7, .ref g8, .ref g9]))]) := by
  refine CtI.of (by decide +kernel) (Nat.le_of_ble_eq_true rfl) ?_
  intro p e s m below meth c A ls hx hb hr hml hown hts hnw hlocks hin hA hS hP hK hD hl
  have hown : s.vm.findClass RX11 = some m.cls := hown
  have hl : lv_has ls 2 [(0, .ref h0), (1, .int s0)] := hl
  refine lv_iload_n hx hb dX11_textsOf_0 rfl (lv_at hl 1 rfl) ?_
  refine lv_tableOut (tgt := 145) hx hb dX11_textsOf_1 (Or.inr (Int.lt_of_lt_of_le (by decide) s0l)) (by decide) ?_
  refine lv_iconst (v := 0) hx hb dX11_textsOf_145 (by decide +kernel) ?_
  refine W.widen (k := 0) (n := 0) (Nat.le_of_ble_eq_true rfl) (Nat.le_of_ble_eq_true rfl) ?_
  exact rtI hx hb hr hlocks hS hP hD ⟨rfl, rfl⟩ dX11_textsOf_146

set_option maxHeartbeats 4000000 in
set_option maxRecDepth 100000 in
theorem c_X11_writeText_38 (l : Launch) (D : va_G) (cI cZ cB cJ : ClassId) (h0 g0 g1 g2 g3 g4 g5 g6 g7 g8 g9 : Nat) (s0 : Int32) (s0l : (9 : Int) ≤ s0.toInt) (s0h : s0.toInt ≤ (2147483647 : Int)) : CtI l D (TT cI cZ cB cJ) yX11_writeText cX11_writeText 5 (some .boolean) 1 21 0 0 [.ref h0, .int s0, .int 0] [(h0, .inr (11, [.ref g0, .int 0, .ref g1, .ref g2, .ref g3, .ref g4, .ref g5, .ref g6, .ref g7, .ref g8, .ref g9]))] (fun r w1 => r = 0 ∧ w1 = [(h0, .inr (11, [.ref g0, .int 0, .ref g1, .ref g2, .ref g3, .ref g4, .ref g5, .ref g6, .ref g7, .ref g8, .ref g9]))]) := by
  refine CtI.of (by decide +kernel) (Nat.le_of_ble_eq_true rfl) ?_
  intro p e s m below meth c A ls hx hb hr hml hown hts hnw hlocks hin hA hS hP hK hD hl
  have hown : s.vm.findClass RX11 = some m.cls := hown
  have hl : lv_has ls 5 [(0, .ref h0), (1, .int s0), (2, .int 0)] := hl
  refine lv_iload_n hx hb dX11_writeText_0 rfl (lv_at hl 2 rfl) ?_
  refine lv_if_lt (tgt := 13) hx hb dX11_writeText_1 (by decide) (fun h9 => absurd h9 (by decide +kernel)) (fun _ => ?_)
  refine lv_iload_n hx hb dX11_writeText_4 rfl (lv_at hl 2 rfl) ?_
  refine lv_aload_n hx hb dX11_writeText_5 rfl (lv_at hl 0 rfl) ?_
  refine lv_iload_n hx hb dX11_writeText_6 rfl (lv_at hl 1 rfl) ?_
  refine kVi (As := [.int s0]) (rest := [.int 0]) (wr := []) hx hb hml hown hts hnw hK hP hD hS hA hl.1 (c_X11_textsOf_10 l D cI cZ cB cJ h0 g0 g1 g2 g3 g4 g5 g6 g7 g8 g9 s0 s0l s0h) yk_X11_textsOf wm_857 [0] [] rfl rfl (by decide) (by decide) (by decide) 0 rfl rfl rfl rfl rfl dX11_writeText_7 ⟨Nat.le_of_ble_eq_true rfl, Nat.le_of_ble_eq_true rfl⟩ ⟨Nat.le_of_ble_eq_true rfl, Nat.le_of_ble_eq_true rfl⟩ (Nat.le_of_ble_eq_true rfl) (fun r9 w1 H locs hq9 hP hD hS => ?_)
  obtain ⟨rfl, rfl⟩ := hq9
  have hP : va_P D vwCl [(h0, .inr (11, [.ref g0, .int 0, .ref g1, .ref g2, .ref g3, .ref g4, .ref g5, .ref g6, .ref g7, .ref g8, .ref g9]))] H := hP
  have hD : va_D A [(h0, .inr (11, [.ref g0, .int 0, .ref g1, .ref g2, .ref g3, .ref g4, .ref g5, .ref g6, .ref g7, .ref g8, .ref g9]))] := hD
  refine W.widen (k := 0) (n := 0) (Nat.le_of_ble_eq_true rfl) (Nat.le_of_ble_eq_true rfl) ?_
  refine pcn (b := 10) rfl ?_
  refine lv_icmp_lt (tgt := 15) hx hb dX11_writeText_10 (by decide) (fun h9 => absurd h9 (by decide +kernel)) (fun _ => ?_)
  refine lv_iconst (v := 0) hx hb dX11_writeText_13 (by decide +kernel) ?_
  refine W.widen (k := 0) (n := 0) (Nat.le_of_ble_eq_true rfl) (Nat.le_of_ble_eq_true rfl) ?_
  exact rtZ hx hb hr rfl hlocks hS hP hD ⟨rfl, rfl⟩ dX11_writeText_14

set_option maxHeartbeats 4000000 in
set_option maxRecDepth 100000 in
theorem c_X11_writeText_39 (l : Launch) (D : va_G) (cI cZ cB cJ : ClassId) (h0 g0 g1 g2 g3 g4 g5 g6 g7 g8 g9 : Nat) (s0 s1 : Int32) (s0l : (9 : Int) ≤ s0.toInt) (s0h : s0.toInt ≤ (2147483647 : Int)) (s1l : (1 : Int) ≤ s1.toInt) (s1h : s1.toInt ≤ (2147483647 : Int)) : CtI l D (TT cI cZ cB cJ) yX11_writeText cX11_writeText 5 (some .boolean) 1 21 0 0 [.ref h0, .int s0, .int s1] [(h0, .inr (11, [.ref g0, .int 0, .ref g1, .ref g2, .ref g3, .ref g4, .ref g5, .ref g6, .ref g7, .ref g8, .ref g9]))] (fun r w1 => r = 0 ∧ w1 = [(h0, .inr (11, [.ref g0, .int 0, .ref g1, .ref g2, .ref g3, .ref g4, .ref g5, .ref g6, .ref g7, .ref g8, .ref g9]))]) := by
  refine CtI.of (by decide +kernel) (Nat.le_of_ble_eq_true rfl) ?_
  intro p e s m below meth c A ls hx hb hr hml hown hts hnw hlocks hin hA hS hP hK hD hl
  have hown : s.vm.findClass RX11 = some m.cls := hown
  have hl : lv_has ls 5 [(0, .ref h0), (1, .int s0), (2, .int s1)] := hl
  refine lv_iload_n hx hb dX11_writeText_0 rfl (lv_at hl 2 rfl) ?_
  refine lv_if_lt (tgt := 13) hx hb dX11_writeText_1 (by decide) (fun h9 => absurd h9 (iv_nlt s1l (by decide +kernel : (0 : Int32).toInt ≤ (0 : Int)) (by decide))) (fun _ => ?_)
  refine lv_iload_n hx hb dX11_writeText_4 rfl (lv_at hl 2 rfl) ?_
  refine lv_aload_n hx hb dX11_writeText_5 rfl (lv_at hl 0 rfl) ?_
  refine lv_iload_n hx hb dX11_writeText_6 rfl (lv_at hl 1 rfl) ?_
  refine kVi (As := [.int s0]) (rest := [.int s1]) (wr := []) hx hb hml hown hts hnw hK hP hD hS hA hl.1 (c_X11_textsOf_10 l D cI cZ cB cJ h0 g0 g1 g2 g3 g4 g5 g6 g7 g8 g9 s0 s0l s0h) yk_X11_textsOf wm_857 [0] [] rfl rfl (by decide) (by decide) (by decide) 0 rfl rfl rfl rfl rfl dX11_writeText_7 ⟨Nat.le_of_ble_eq_true rfl, Nat.le_of_ble_eq_true rfl⟩ ⟨Nat.le_of_ble_eq_true rfl, Nat.le_of_ble_eq_true rfl⟩ (Nat.le_of_ble_eq_true rfl) (fun r9 w1 H locs hq9 hP hD hS => ?_)
  obtain ⟨rfl, rfl⟩ := hq9
  have hP : va_P D vwCl [(h0, .inr (11, [.ref g0, .int 0, .ref g1, .ref g2, .ref g3, .ref g4, .ref g5, .ref g6, .ref g7, .ref g8, .ref g9]))] H := hP
  have hD : va_D A [(h0, .inr (11, [.ref g0, .int 0, .ref g1, .ref g2, .ref g3, .ref g4, .ref g5, .ref g6, .ref g7, .ref g8, .ref g9]))] := hD
  refine W.widen (k := 0) (n := 0) (Nat.le_of_ble_eq_true rfl) (Nat.le_of_ble_eq_true rfl) ?_
  refine pcn (b := 10) rfl ?_
  refine lv_icmp_lt (tgt := 15) hx hb dX11_writeText_10 (by decide) (fun h9 => absurd h9 (iv_nlt s1l (by decide +kernel : (0 : Int32).toInt ≤ (0 : Int)) (by decide))) (fun _ => ?_)
  refine lv_iconst (v := 0) hx hb dX11_writeText_13 (by decide +kernel) ?_
  refine W.widen (k := 0) (n := 0) (Nat.le_of_ble_eq_true rfl) (Nat.le_of_ble_eq_true rfl) ?_
  exact rtZ hx hb hr rfl hlocks hS hP hD ⟨rfl, rfl⟩ dX11_writeText_14

set_option maxHeartbeats 4000000 in
set_option maxRecDepth 100000 in
theorem c_X0_hasTypes_0 (l : Launch) (D : va_G) (cI cZ cB cJ : ClassId) (h0 g0 g1 g2 g3 g4 g5 : Nat) (s0 s1 : Int32) (s0l : ((-2147483648) : Int) ≤ s0.toInt) (s0h : s0.toInt ≤ ((-1) : Int)) : CtI l D (TT cI cZ cB cJ) yX0_hasTypes cX0_hasTypes 3 (some .boolean) 0 0 0 0 [.ref h0, .int s0, .int s1] [(h0, .inr (0, [.ref g0, .ref g1, .ref g2, .ref g3, .ref g4, .ref g5, .int 0, .int 0]))] (fun r w1 => r = 0 ∧ w1 = [(h0, .inr (0, [.ref g0, .ref g1, .ref g2, .ref g3, .ref g4, .ref g5, .int 0, .int 0]))]) := by
  refine CtI.of (by decide +kernel) (Nat.le_of_ble_eq_true rfl) ?_
  intro p e s m below meth c A ls hx hb hr hml hown hts hnw hlocks hin hA hS hP hK hD hl
  have hown : s.vm.findClass RX0 = some m.cls := hown
  have hl : lv_has ls 3 [(0, .ref h0), (1, .int s0), (2, .int s1)] := hl
  refine lv_iload_n hx hb dX0_hasTypes_0 rfl (lv_at hl 1 rfl) ?_
  refine lv_if_lt (tgt := 28) hx hb dX0_hasTypes_1 (by decide) (fun _ => ?_) (fun h9 => absurd (iv_lt s0h (by decide +kernel : (0 : Int) ≤ (0 : Int32).toInt) (by decide)) h9)
  refine lv_iconst (v := 0) hx hb dX0_hasTypes_28 (by decide +kernel) ?_
  refine W.widen (k := 0) (n := 0) (Nat.le_of_ble_eq_true rfl) (Nat.le_of_ble_eq_true rfl) ?_
  exact rtZ hx hb hr rfl hlocks hS hP hD ⟨rfl, rfl⟩ dX0_hasTypes_29

set_option maxHeartbeats 4000000 in
set_option maxRecDepth 100000 in
theorem c_X12_areBeside_0 (l : Launch) (D : va_G) (cI cZ cB cJ : ClassId) (h0 g0 g1 g2 g3 g4 g5 g6 g7 g8 g9 g10 g11 g12 g13 g14 g15 g16 g17 g18 g19 g20 g21 g22 g23 g24 g25 g26 g27 g28 g29 g30 g31 g32 g33 g34 g35 g36 g37 g38 g39 g40 g41 g42 g43 g44 g45 g46 g47 g48 g49 g50 g51 g52 g53 g54 g55 g56 g57 g58 g59 g60 g61 g62 g63 g64 g65 g66 g67 g68 g69 : Nat) (s0 s1 : Int32) (s0l : ((-2147483648) : Int) ≤ s0.toInt) (s0h : s0.toInt ≤ ((-1) : Int)) : CtI l D (TT cI cZ cB cJ) yX12_areBeside cX12_areBeside 3 (some .boolean) 1 22 0 0 [.ref h0, .int s0, .int s1] [(h0, .inr (12, [.ref g0, .ref g1, .ref g2, .ref g3, .ref g4, .int 4, .ref g5, .ref g6, .ref g7, .ref g8, .ref g9, .int 0, .ref g10, .ref g11, .ref g12, .ref g13, .ref g14, .ref g15, .ref g16, .ref g17, .int 0, .ref g18, .int 0, .ref g19, .int 0, .int 0, .int 0, .int 0, .int 0, .int 0, .int 0, .int 0, .long 0, .ref g20, .ref g21, .ref g22, .ref g23, .ref g24, .ref g25, .ref g26, .ref g27, .ref g28, .ref g29, .ref g30, .int 0, .int 1, .int 0, .ref g31, .ref g32, .int 0, .ref g33, .ref g34, .ref g35, .ref g36, .int 0, .ref g37, .int 0, .ref g38, .ref g39, .ref g40, .ref g41, .ref g42, .ref g43, .ref g44, .ref g45, .ref g46, .ref g47, .int 0, .int 0, .int 4, .ref g48, .ref g49, .ref g50, .ref g51, .ref g52, .ref g53, .ref g54, .ref g55, .ref g56, .ref g57, .ref g58, .ref g59, .ref g60, .int 0, .int 0, .int 0, .int 0, .int 0, .int 0, .int 0, .int 0, .int 0, .int 0, .int 0, .int 0, .int 0, .int 0, .int 0, .int 0, .int 0, .int 0, .int 0, .int 0, .ref g61, .ref g62, .int 0, .ref g63, .ref g64, .ref g65, .ref g66, .int 0, .int 0, .ref g67, .ref g68, .int 0, .ref g69, .int 0, .int 0]))] (fun r w1 => r = 0 ∧ w1 = [(h0, .inr (12, [.ref g0, .ref g1, .ref g2, .ref g3, .ref g4, .int 4, .ref g5, .ref g6, .ref g7, .ref g8, .ref g9, .int 0, .ref g10, .ref g11, .ref g12, .ref g13, .ref g14, .ref g15, .ref g16, .ref g17, .int 0, .ref g18, .int 0, .ref g19, .int 0, .int 0, .int 0, .int 0, .int 0, .int 0, .int 0, .int 0, .long 0, .ref g20, .ref g21, .ref g22, .ref g23, .ref g24, .ref g25, .ref g26, .ref g27, .ref g28, .ref g29, .ref g30, .int 0, .int 1, .int 0, .ref g31, .ref g32, .int 0, .ref g33, .ref g34, .ref g35, .ref g36, .int 0, .ref g37, .int 0, .ref g38, .ref g39, .ref g40, .ref g41, .ref g42, .ref g43, .ref g44, .ref g45, .ref g46, .ref g47, .int 0, .int 0, .int 4, .ref g48, .ref g49, .ref g50, .ref g51, .ref g52, .ref g53, .ref g54, .ref g55, .ref g56, .ref g57, .ref g58, .ref g59, .ref g60, .int 0, .int 0, .int 0, .int 0, .int 0, .int 0, .int 0, .int 0, .int 0, .int 0, .int 0, .int 0, .int 0, .int 0, .int 0, .int 0, .int 0, .int 0, .int 0, .int 0, .ref g61, .ref g62, .int 0, .ref g63, .ref g64, .ref g65, .ref g66, .int 0, .int 0, .ref g67, .ref g68, .int 0, .ref g69, .int 0, .int 0]))]) := by
  refine CtI.of (by decide +kernel) (Nat.le_of_ble_eq_true rfl) ?_
  intro p e s m below meth c A ls hx hb hr hml hown hts hnw hlocks hin hA hS hP hK hD hl
  have hown : s.vm.findClass RX12 = some m.cls := hown
  have hl : lv_has ls 3 [(0, .ref h0), (1, .int s0), (2, .int s1)] := hl
  refine lv_iload_n hx hb dX12_areBeside_0 rfl (lv_at hl 1 rfl) ?_
  refine lv_iconst (v := 0) hx hb dX12_areBeside_1 (by decide +kernel) ?_
  refine lv_aload_n hx hb dX12_areBeside_2 rfl (lv_at hl 0 rfl) ?_
  refine va_get (D := D) (ci := 12) (v := .int 0) (C := RX12) (T := TX12) (N := 118) hx hb hts inX12 hown hK hP 0 rfl rfl 110 (by decide) (hts _ wm_1477) (fun _ h9 => h9) rfl dX12_areBeside_3 ?_
  refine lv_iconst (v := 1) hx hb dX12_areBeside_6 (by decide +kernel) ?_
  refine lv_isub hx hb dX12_areBeside_7 ?_
  refine nrm (y := (-1)) (by decide +kernel) ?_
  refine kSi (As := [.int s0, .int 0, .int (-1)]) (rest := []) (wr := [(h0, .inr (12, [.ref g0, .ref g1, .ref g2, .ref g3, .ref g4, .int 4, .ref g5, .ref g6, .ref g7, .ref g8, .ref g9, .int 0, .ref g10, .ref g11, .ref g12, .ref g13, .ref g14, .ref g15, .ref g16, .ref g17, .int 0, .ref g18, .int 0, .ref g19, .int 0, .int 0, .int 0, .int 0, .int 0, .int 0, .int 0, .int 0, .long 0, .ref g20, .ref g21, .ref g22, .ref g23, .ref g24, .ref g25, .ref g26, .ref g27, .ref g28, .ref g29, .ref g30, .int 0, .int 1, .int 0, .ref g31, .ref g32, .int 0, .ref g33, .ref g34, .ref g35, .ref g36, .int 0, .ref g37, .int 0, .ref g38, .ref g39, .ref g40, .ref g41, .ref g42, .ref g43, .ref g44, .ref g45, .ref g46, .ref g47, .int 0, .int 0, .int 4, .ref g48, .ref g49, .ref g50, .ref g51, .ref g52, .ref g53, .ref g54, .ref g55, .ref g56, .ref g57, .ref g58, .ref g59, .ref g60, .int 0, .int 0, .int 0, .int 0, .int 0, .int 0, .int 0, .int 0, .int 0, .int 0, .int 0, .int 0, .int 0, .int 0, .int 0, .int 0, .int 0, .int 0, .int 0, .int 0, .ref g61, .ref g62, .int 0, .ref g63, .ref g64, .ref g65, .ref g66, .int 0, .int 0, .ref g67, .ref g68, .int 0, .ref g69, .int 0, .int 0]))]) hx hb hml hown hts hnw hK hP hD hS hA hl.1 (c_X12_in_9 l D cI cZ cB cJ s0 s0l s0h) yk_X12_in wm_1739 [] [0] rfl rfl (by decide) (by decide) (by decide) rfl rfl dX12_areBeside_8 ⟨Nat.le_of_ble_eq_true rfl, Nat.le_of_ble_eq_true rfl⟩ ⟨Nat.le_of_ble_eq_true rfl, Nat.le_of_ble_eq_true rfl⟩ (Nat.le_of_ble_eq_true rfl) (fun r9 w1 H locs hq9 hP hD hS => ?_)
  obtain ⟨rfl, rfl⟩ := hq9
  have hP : va_P D vwCl [(h0, .inr (12, [.ref g0, .ref g1, .ref g2, .ref g3, .ref g4, .int 4, .ref g5, .ref g6, .ref g7, .ref g8, .ref g9, .int 0, .ref g10, .ref g11, .ref g12, .ref g13, .ref g14, .ref g15, .ref g16, .ref g17, .int 0, .ref g18, .int 0, .ref g19, .int 0, .int 0, .int 0, .int 0, .int 0, .int 0, .int 0, .int 0, .long 0, .ref g20, .ref g21, .ref g22, .ref g23, .ref g24, .ref g25, .ref g26, .ref g27, .ref g28, .ref g29, .ref g30, .int 0, .int 1, .int 0, .ref g31, .ref g32, .int 0, .ref g33, .ref g34, .ref g35, .ref g36, .int 0, .ref g37, .int 0, .ref g38, .ref g39, .ref g40, .ref g41, .ref g42, .ref g43, .ref g44, .ref g45, .ref g46, .ref g47, .int 0, .int 0, .int 4, .ref g48, .ref g49, .ref g50, .ref g51, .ref g52, .ref g53, .ref g54, .ref g55, .ref g56, .ref g57, .ref g58, .ref g59, .ref g60, .int 0, .int 0, .int 0, .int 0, .int 0, .int 0, .int 0, .int 0, .int 0, .int 0, .int 0, .int 0, .int 0, .int 0, .int 0, .int 0, .int 0, .int 0, .int 0, .int 0, .ref g61, .ref g62, .int 0, .ref g63, .ref g64, .ref g65, .ref g66, .int 0, .int 0, .ref g67, .ref g68, .int 0, .ref g69, .int 0, .int 0]))] H := hP
  have hD : va_D A [(h0, .inr (12, [.ref g0, .ref g1, .ref g2, .ref g3, .ref g4, .int 4, .ref g5, .ref g6, .ref g7, .ref g8, .ref g9, .int 0, .ref g10, .ref g11, .ref g12, .ref g13, .ref g14, .ref g15, .ref g16, .ref g17, .int 0, .ref g18, .int 0, .ref g19, .int 0, .int 0, .int 0, .int 0, .int 0, .int 0, .int 0, .int 0, .long 0, .ref g20, .ref g21, .ref g22, .ref g23, .ref g24, .ref g25, .ref g26, .ref g27, .ref g28, .ref g29, .ref g30, .int 0, .int 1, .int 0, .ref g31, .ref g32, .int 0, .ref g33, .ref g34, .ref g35, .ref g36, .int 0, .ref g37, .int 0, .ref g38, .ref g39, .ref g40, .ref g41, .ref g42, .ref g43, .ref g44, .ref g45, .ref g46, .ref g47, .int 0, .int 0, .int 4, .ref g48, .ref g49, .ref g50, .ref g51, .ref g52, .ref g53, .ref g54, .ref g55, .ref g56, .ref g57, .ref g58, .ref g59, .ref g60, .int 0, .int 0, .int 0, .int 0, .int 0, .int 0, .int 0, .int 0, .int 0, .int 0, .int 0, .int 0, .int 0, .int 0, .int 0, .int 0, .int 0, .int 0, .int 0, .int 0, .ref g61, .ref g62, .int 0, .ref g63, .ref g64, .ref g65, .ref g66, .int 0, .int 0, .ref g67, .ref g68, .int 0, .ref g69, .int 0, .int 0]))] := hD
  refine W.widen (k := 0) (n := 0) (Nat.le_of_ble_eq_true rfl) (Nat.le_of_ble_eq_true rfl) ?_
  refine pcn (b := 11) rfl ?_
  refine lv_if_eq (tgt := 32) hx hb dX12_areBeside_11 (by decide) (fun _ => ?_) (fun h9 => absurd (by decide +kernel) h9)
  refine lv_iconst (v := 0) hx hb dX12_areBeside_32 (by decide +kernel) ?_
  refine W.widen (k := 0) (n := 0) (Nat.le_of_ble_eq_true rfl) (Nat.le_of_ble_eq_true rfl) ?_
  exact rtZ hx hb hr rfl hlocks hS hP hD ⟨rfl, rfl⟩ dX12_areBeside_33

set_option maxHeartbeats 4000000 in
set_option maxRecDepth 100000 in
theorem c_X0_hasTypes_1 (l : Launch) (D : va_G) (cI cZ cB cJ : ClassId) (h0 g0 g1 g2 g3 g4 g5 : Nat) (s0 s1 : Int32) (s0l : (0 : Int) ≤ s0.toInt) (s0h : s0.toInt ≤ (2147483647 : Int)) : CtI l D (TT cI cZ cB cJ) yX0_hasTypes cX0_hasTypes 3 (some .boolean) 0 0 0 0 [.ref h0, .int s0, .int s1] [(h0, .inr (0, [.ref g0, .ref g1, .ref g2, .ref g3, .ref g4, .ref g5, .int 0, .int 0]))] (fun r w1 => r = 0 ∧ w1 = [(h0, .inr (0, [.ref g0, .ref g1, .ref g2, .ref g3, .ref g4, .ref g5, .int 0, .int 0]))]) := by
  refine CtI.of (by decide +kernel) (Nat.le_of_ble_eq_true rfl) ?_
  intro p e s m below meth c A ls hx hb hr hml hown hts hnw hlocks hin hA hS hP hK hD hl
  have hown : s.vm.findClass RX0 = some m.cls := hown
  have hl : lv_has ls 3 [(0, .ref h0), (1, .int s0), (2, .int s1)] := hl
  refine lv_iload_n hx hb dX0_hasTypes_0 rfl (lv_at hl 1 rfl) ?_
  refine lv_if_lt (tgt := 28) hx hb dX0_hasTypes_1 (by decide) (fun h9 => absurd h9 (iv_nlt s0l (by decide +kernel : (0 : Int32).toInt ≤ (0 : Int)) (by decide))) (fun _ => ?_)
  refine lv_iload_n hx hb dX0_hasTypes_4 rfl (lv_at hl 1 rfl) ?_
  refine lv_aload_n hx hb dX0_hasTypes_5 rfl (lv_at hl 0 rfl) ?_
  refine va_get (D := D) (ci := 0) (v := .int 0) (C := RX0) (T := TX0) (N := 8) hx hb hts inX0 hown hK hP 0 rfl rfl 6 (by decide) (hts _ wm_447) (fun _ h9 => h9) rfl dX0_hasTypes_6 ?_
  refine lv_icmp_ge (tgt := 28) hx hb dX0_hasTypes_9 (by decide) (fun _ => ?_) (fun h9 => absurd (iv_le (by decide +kernel : (0 : Int32).toInt ≤ (0 : Int)) s0l (by decide)) h9)
  refine lv_iconst (v := 0) hx hb dX0_hasTypes_28 (by decide +kernel) ?_
  refine W.widen (k := 0) (n := 0) (Nat.le_of_ble_eq_true rfl) (Nat.le_of_ble_eq_true rfl) ?_
  exact rtZ hx hb hr rfl hlocks hS hP hD ⟨rfl, rfl⟩ dX0_hasTypes_29

set_option maxHeartbeats 4000000 in
set_option maxRecDepth 100000 in
theorem c_X12_areBeside_1 (l : Launch) (D : va_G) (cI cZ cB cJ : ClassId) (h0 g0 g1 g2 g3 g4 g5 g6 g7 g8 g9 g10 g11 g12 g13 g14 g15 g16 g17 g18 g19 g20 g21 g22 g23 g24 g25 g26 g27 g28 g29 g30 g31 g32 g33 g34 g35 g36 g37 g38 g39 g40 g41 g42 g43 g44 g45 g46 g47 g48 g49 g50 g51 g52 g53 g54 g55 g56 g57 g58 g59 g60 g61 g62 g63 g64 g65 g66 g67 g68 g69 : Nat) (s0 s1 : Int32) (s0l : (0 : Int) ≤ s0.toInt) (s0h : s0.toInt ≤ (2147483647 : Int)) : CtI l D (TT cI cZ cB cJ) yX12_areBeside cX12_areBeside 3 (some .boolean) 1 22 0 0 [.ref h0, .int s0, .int s1] [(h0, .inr (12, [.ref g0, .ref g1, .ref g2, .ref g3, .ref g4, .int 4, .ref g5, .ref g6, .ref g7, .ref g8, .ref g9, .int 0, .ref g10, .ref g11, .ref g12, .ref g13, .ref g14, .ref g15, .ref g16, .ref g17, .int 0, .ref g18, .int 0, .ref g19, .int 0, .int 0, .int 0, .int 0, .int 0, .int 0, .int 0, .int 0, .long 0, .ref g20, .ref g21, .ref g22, .ref g23, .ref g24, .ref g25, .ref g26, .ref g27, .ref g28, .ref g29, .ref g30, .int 0, .int 1, .int 0, .ref g31, .ref g32, .int 0, .ref g33, .ref g34, .ref g35, .ref g36, .int 0, .ref g37, .int 0, .ref g38, .ref g39, .ref g40, .ref g41, .ref g42, .ref g43, .ref g44, .ref g45, .ref g46, .ref g47, .int 0, .int 0, .int 4, .ref g48, .ref g49, .ref g50, .ref g51, .ref g52, .ref g53, .ref g54, .ref g55, .ref g56, .ref g57, .ref g58, .ref g59, .ref g60, .int 0, .int 0, .int 0, .int 0, .int 0, .int 0, .int 0, .int 0, .int 0, .int 0, .int 0, .int 0, .int 0, .int 0, .int 0, .int 0, .int 0, .int 0, .int 0, .int 0, .ref g61, .ref g62, .int 0, .ref g63, .ref g64, .ref g65, .ref g66, .int 0, .int 0, .ref g67, .ref g68, .int 0, .ref g69, .int 0, .int 0]))] (fun r w1 => r = 0 ∧ w1 = [(h0, .inr (12, [.ref g0, .ref g1, .ref g2, .ref g3, .ref g4, .int 4, .ref g5, .ref g6, .ref g7, .ref g8, .ref g9, .int 0, .ref g10, .ref g11, .ref g12, .ref g13, .ref g14, .ref g15, .ref g16, .ref g17, .int 0, .ref g18, .int 0, .ref g19, .int 0, .int 0, .int 0, .int 0, .int 0, .int 0, .int 0, .int 0, .long 0, .ref g20, .ref g21, .ref g22, .ref g23, .ref g24, .ref g25, .ref g26, .ref g27, .ref g28, .ref g29, .ref g30, .int 0, .int 1, .int 0, .ref g31, .ref g32, .int 0, .ref g33, .ref g34, .ref g35, .ref g36, .int 0, .ref g37, .int 0, .ref g38, .ref g39, .ref g40, .ref g41, .ref g42, .ref g43, .ref g44, .ref g45, .ref g46, .ref g47, .int 0, .int 0, .int 4, .ref g48, .ref g49, .ref g50, .ref g51, .ref g52, .ref g53, .ref g54, .ref g55, .ref g56, .ref g57, .ref g58, .ref g59, .ref g60, .int 0, .int 0, .int 0, .int 0, .int 0, .int 0, .int 0, .int 0, .int 0, .int 0, .int 0, .int 0, .int 0, .int 0, .int 0, .int 0, .int 0, .int 0, .int 0, .int 0, .ref g61, .ref g62, .int 0, .ref g63, .ref g64, .ref g65, .ref g66, .int 0, .int 0, .ref g67, .ref g68, .int 0, .ref g69, .int 0, .int 0]))]) := by
  refine CtI.of (by decide +kernel) (Nat.le_of_ble_eq_true rfl) ?_
  intro p e s m below meth c A ls hx hb hr hml hown hts hnw hlocks hin hA hS hP hK hD hl
  have hown : s.vm.findClass RX12 = some m.cls := hown
  have hl : lv_has ls 3 [(0, .ref h0), (1, .int s0), (2, .int s1)] := hl
  refine lv_iload_n hx hb dX12_areBeside_0 rfl (lv_at hl 1 rfl) ?_
  refine lv_iconst (v := 0) hx hb dX12_areBeside_1 (by decide +kernel) ?_
  refine lv_aload_n hx hb dX12_areBeside_2 rfl (lv_at hl 0 rfl) ?_
  refine va_get (D := D) (ci := 12) (v := .int 0) (C := RX12) (T := TX12) (N := 118) hx hb hts inX12 hown hK hP 0 rfl rfl 110 (by decide) (hts _ wm_1477) (fun _ h9 => h9) rfl dX12_areBeside_3 ?_
  refine lv_iconst (v := 1) hx hb dX12_areBeside_6 (by decide +kernel) ?_
  refine lv_isub hx hb dX12_areBeside_7 ?_
  refine nrm (y := (-1)) (by decide +kernel) ?_
  refine kSi (As := [.int s0, .int 0, .int (-1)]) (rest := []) (wr := [(h0, .inr (12, [.ref g0, .ref g1, .ref g2, .ref g3, .ref g4, .int 4, .ref g5, .ref g6, .ref g7, .ref g8, .ref g9, .int 0, .ref g10, .ref g11, .ref g12, .ref g13, .ref g14, .ref g15, .ref g16, .ref g17, .int 0, .ref g18, .int 0, .ref g19, .int 0, .int 0, .int 0, .int 0, .int 0, .int 0, .int 0, .int 0, .long 0, .ref g20, .ref g21, .ref g22, .ref g23, .ref g24, .ref g25, .ref g26, .ref g27, .ref g28, .ref g29, .ref g30, .int 0, .int 1, .int 0, .ref g31, .ref g32, .int 0, .ref g33, .ref g34, .ref g35, .ref g36, .int 0, .ref g37, .int 0, .ref g38, .ref g39, .ref g40, .ref g41, .ref g42, .ref g43, .ref g44, .ref g45, .ref g46, .ref g47, .int 0, .int 0, .int 4, .ref g48, .ref g49, .ref g50, .ref g51, .ref g52, .ref g53, .ref g54, .ref g55, .ref g56, .ref g57, .ref g58, .ref g59, .ref g60, .int 0, .int 0, .int 0, .int 0, .int 0, .int 0, .int 0, .int 0, .int 0, .int 0, .int 0, .int 0, .int 0, .int 0, .int 0, .int 0, .int 0, .int 0, .int 0, .int 0, .ref g61, .ref g62, .int 0, .ref g63, .ref g64, .ref g65, .ref g66, .int 0, .int 0, .ref g67, .ref g68, .int 0, .ref g69, .int 0, .int 0]))]) hx hb hml hown hts hnw hK hP hD hS hA hl.1 (c_X12_in_10 l D cI cZ cB cJ s0 s0l s0h) yk_X12_in wm_1739 [] [0] rfl rfl (by decide) (by decide) (by decide) rfl rfl dX12_areBeside_8 ⟨Nat.le_of_ble_eq_true rfl, Nat.le_of_ble_eq_true rfl⟩ ⟨Nat.le_of_ble_eq_true rfl, Nat.le_of_ble_eq_true rfl⟩ (Nat.le_of_ble_eq_true rfl) (fun r9 w1 H locs hq9 hP hD hS => ?_)
  obtain ⟨rfl, rfl⟩ := hq9
  have hP : va_P D vwCl [(h0, .inr (12, [.ref g0, .ref g1, .ref g2, .ref g3, .ref g4, .int 4, .ref g5, .ref g6, .ref g7, .ref g8, .ref g9, .int 0, .ref g10, .ref g11, .ref g12, .ref g13, .ref g14, .ref g15, .ref g16, .ref g17, .int 0, .ref g18, .int 0, .ref g19, .int 0, .int 0, .int 0, .int 0, .int 0, .int 0, .int 0, .int 0, .long 0, .ref g20, .ref g21, .ref g22, .ref g23, .ref g24, .ref g25, .ref g26, .ref g27, .ref g28, .ref g29, .ref g30, .int 0, .int 1, .int 0, .ref g31, .ref g32, .int 0, .ref g33, .ref g34, .ref g35, .ref g36, .int 0, .ref g37, .int 0, .ref g38, .ref g39, .ref g40, .ref g41, .ref g42, .ref g43, .ref g44, .ref g45, .ref g46, .ref g47, .int 0, .int 0, .int 4, .ref g48, .ref g49, .ref g50, .ref g51, .ref g52, .ref g53, .ref g54, .ref g55, .ref g56, .ref g57, .ref g58, .ref g59, .ref g60, .int 0, .int 0, .int 0, .int 0, .int 0, .int 0, .int 0, .int 0, .int 0, .int 0, .int 0, .int 0, .int 0, .int 0, .int 0, .int 0, .int 0, .int 0, .int 0, .int 0, .ref g61, .ref g62, .int 0, .ref g63, .ref g64, .ref g65, .ref g66, .int 0, .int 0, .ref g67, .ref g68, .int 0, .ref g69, .int 0, .int 0]))] H := hP
  have hD : va_D A [(h0, .inr (12, [.ref g0, .ref g1, .ref g2, .ref g3, .ref g4, .int 4, .ref g5, .ref g6, .ref g7, .ref g8, .ref g9, .int 0, .ref g10, .ref g11, .ref g12, .ref g13, .ref g14, .ref g15, .ref g16, .ref g17, .int 0, .ref g18, .int 0, .ref g19, .int 0, .int 0, .int 0, .int 0, .int 0, .int 0, .int 0, .int 0, .long 0, .ref g20, .ref g21, .ref g22, .ref g23, .ref g24, .ref g25, .ref g26, .ref g27, .ref g28, .ref g29, .ref g30, .int 0, .int 1, .int 0, .ref g31, .ref g32, .int 0, .ref g33, .ref g34, .ref g35, .ref g36, .int 0, .ref g37, .int 0, .ref g38, .ref g39, .ref g40, .ref g41, .ref g42, .ref g43, .ref g44, .ref g45, .ref g46, .ref g47, .int 0, .int 0, .int 4, .ref g48, .ref g49, .ref g50, .ref g51, .ref g52, .ref g53, .ref g54, .ref g55, .ref g56, .ref g57, .ref g58, .ref g59, .ref g60, .int 0, .int 0, .int 0, .int 0, .int 0, .int 0, .int 0, .int 0, .int 0, .int 0, .int 0, .int 0, .int 0, .int 0, .int 0, .int 0, .int 0, .int 0, .int 0, .int 0, .ref g61, .ref g62, .int 0, .ref g63, .ref g64, .ref g65, .ref g66, .int 0, .int 0, .ref g67, .ref g68, .int 0, .ref g69, .int 0, .int 0]))] := hD
  refine W.widen (k := 0) (n := 0) (Nat.le_of_ble_eq_true rfl) (Nat.le_of_ble_eq_true rfl) ?_
  refine pcn (b := 11) rfl ?_
  refine lv_if_eq (tgt := 32) hx hb dX12_areBeside_11 (by decide) (fun _ => ?_) (fun h9 => absurd (by decide +kernel) h9)
  refine lv_iconst (v := 0) hx hb dX12_areBeside_32 (by decide +kernel) ?_
  refine W.widen (k := 0) (n := 0) (Nat.le_of_ble_eq_true rfl) (Nat.le_of_ble_eq_true rfl) ?_
  exact rtZ hx hb hr rfl hlocks hS hP hD ⟨rfl, rfl⟩ dX12_areBeside_33

set_option maxHeartbeats 4000000 in
set_option maxRecDepth 100000 in
theorem c_X0_hasCoercion_0 (l : Launch) (D : va_G) (cI cZ cB cJ : ClassId) (h0 g0 g1 g2 g3 g4 g5 : Nat) (s0 : Int32) (s0l : ((-2147483648) : Int) ≤ s0.toInt) (s0h : s0.toInt ≤ ((-1) : Int)) : CtI l D (TT cI cZ cB cJ) yX0_hasCoercion cX0_hasCoercion 2 (some .boolean) 0 0 0 0 [.ref h0, .int s0] [(h0, .inr (0, [.ref g0, .ref g1, .ref g2, .ref g3, .ref g4, .ref g5, .int 0, .int 0]))] (fun r w1 => r = 0 ∧ w1 = [(h0, .inr (0, [.ref g0, .ref g1, .ref g2, .ref g3, .ref g4, .ref g5, .int 0, .int 0]))]) := by
  refine CtI.of (by decide +kernel) (Nat.le_of_ble_eq_true rfl) ?_
  intro p e s m below meth c A ls hx hb hr hml hown hts hnw hlocks hin hA hS hP hK hD hl
  have hown : s.vm.findClass RX0 = some m.cls := hown
  have hl : lv_has ls 2 [(0, .ref h0), (1, .int s0)] := hl
  refine lv_iload_n hx hb dX0_hasCoercion_0 rfl (lv_at hl 1 rfl) ?_
  refine lv_if_lt (tgt := 16) hx hb dX0_hasCoercion_1 (by decide) (fun _ => ?_) (fun h9 => absurd (iv_lt s0h (by decide +kernel : (0 : Int) ≤ (0 : Int32).toInt) (by decide)) h9)
  refine lv_iconst (v := 0) hx hb dX0_hasCoercion_16 (by decide +kernel) ?_
  refine W.widen (k := 0) (n := 0) (Nat.le_of_ble_eq_true rfl) (Nat.le_of_ble_eq_true rfl) ?_
  exact rtZ hx hb hr rfl hlocks hS hP hD ⟨rfl, rfl⟩ dX0_hasCoercion_17

set_option maxHeartbeats 4000000 in
set_option maxRecDepth 100000 in
theorem c_X12_isKept_0 (l : Launch) (D : va_G) (cI cZ cB cJ : ClassId) (h0 g0 g1 g2 g3 g4 g5 g6 g7 g8 g9 g10 g11 g12 g13 g14 g15 g16 g17 g18 g19 g20 g21 g22 g23 g24 g25 g26 g27 g28 g29 g30 g31 g32 g33 g34 g35 g36 g37 g38 g39 g40 g41 g42 g43 g44 g45 g46 g47 g48 g49 g50 g51 g52 g53 g54 g55 g56 g57 g58 g59 g60 g61 g62 g63 g64 g65 g66 g67 g68 g69 : Nat) (s0 : Int32) (s0l : ((-2147483648) : Int) ≤ s0.toInt) (s0h : s0.toInt ≤ ((-1) : Int)) : CtI l D (TT cI cZ cB cJ) yX12_isKept cX12_isKept 2 (some .boolean) 1 22 0 0 [.ref h0, .int s0] [(h0, .inr (12, [.ref g0, .ref g1, .ref g2, .ref g3, .ref g4, .int 4, .ref g5, .ref g6, .ref g7, .ref g8, .ref g9, .int 0, .ref g10, .ref g11, .ref g12, .ref g13, .ref g14, .ref g15, .ref g16, .ref g17, .int 0, .ref g18, .int 0, .ref g19, .int 0, .int 0, .int 0, .int 0, .int 0, .int 0, .int 0, .int 0, .long 0, .ref g20, .ref g21, .ref g22, .ref g23, .ref g24, .ref g25, .ref g26, .ref g27, .ref g28, .ref g29, .ref g30, .int 0, .int 1, .int 0, .ref g31, .ref g32, .int 0, .ref g33, .ref g34, .ref g35, .ref g36, .int 0, .ref g37, .int 0, .ref g38, .ref g39, .ref g40, .ref g41, .ref g42, .ref g43, .ref g44, .ref g45, .ref g46, .ref g47, .int 0, .int 0, .int 4, .ref g48, .ref g49, .ref g50, .ref g51, .ref g52, .ref g53, .ref g54, .ref g55, .ref g56, .ref g57, .ref g58, .ref g59, .ref g60, .int 0, .int 0, .int 0, .int 0, .int 0, .int 0, .int 0, .int 0, .int 0, .int 0, .int 0, .int 0, .int 0, .int 0, .int 0, .int 0, .int 0, .int 0, .int 0, .int 0, .ref g61, .ref g62, .int 0, .ref g63, .ref g64, .ref g65, .ref g66, .int 0, .int 0, .ref g67, .ref g68, .int 0, .ref g69, .int 0, .int 0]))] (fun r w1 => r = 0 ∧ w1 = [(h0, .inr (12, [.ref g0, .ref g1, .ref g2, .ref g3, .ref g4, .int 4, .ref g5, .ref g6, .ref g7, .ref g8, .ref g9, .int 0, .ref g10, .ref g11, .ref g12, .ref g13, .ref g14, .ref g15, .ref g16, .ref g17, .int 0, .ref g18, .int 0, .ref g19, .int 0, .int 0, .int 0, .int 0, .int 0, .int 0, .int 0, .int 0, .long 0, .ref g20, .ref g21, .ref g22, .ref g23, .ref g24, .ref g25, .ref g26, .ref g27, .ref g28, .ref g29, .ref g30, .int 0, .int 1, .int 0, .ref g31, .ref g32, .int 0, .ref g33, .ref g34, .ref g35, .ref g36, .int 0, .ref g37, .int 0, .ref g38, .ref g39, .ref g40, .ref g41, .ref g42, .ref g43, .ref g44, .ref g45, .ref g46, .ref g47, .int 0, .int 0, .int 4, .ref g48, .ref g49, .ref g50, .ref g51, .ref g52, .ref g53, .ref g54, .ref g55, .ref g56, .ref g57, .ref g58, .ref g59, .ref g60, .int 0, .int 0, .int 0, .int 0, .int 0, .int 0, .int 0, .int 0, .int 0, .int 0, .int 0, .int 0, .int 0, .int 0, .int 0, .int 0, .int 0, .int 0, .int 0, .int 0, .ref g61, .ref g62, .int 0, .ref g63, .ref g64, .ref g65, .ref g66, .int 0, .int 0, .ref g67, .ref g68, .int 0, .ref g69, .int 0, .int 0]))]) := by
  refine CtI.of (by decide +kernel) (Nat.le_of_ble_eq_true rfl) ?_
  intro p e s m below meth c A ls hx hb hr hml hown hts hnw hlocks hin hA hS hP hK hD hl
  have hown : s.vm.findClass RX12 = some m.cls := hown
  have hl : lv_has ls 2 [(0, .ref h0), (1, .int s0)] := hl
  refine lv_iload_n hx hb dX12_isKept_0 rfl (lv_at hl 1 rfl) ?_
  refine lv_iconst (v := 0) hx hb dX12_isKept_1 (by decide +kernel) ?_
  refine lv_aload_n hx hb dX12_isKept_2 rfl (lv_at hl 0 rfl) ?_
  refine va_get (D := D) (ci := 12) (v := .int 0) (C := RX12) (T := TX12) (N := 118) hx hb hts inX12 hown hK hP 0 rfl rfl 111 (by decide) (hts _ wm_1478) (fun _ h9 => h9) rfl dX12_isKept_3 ?_
  refine lv_iconst (v := 1) hx hb dX12_isKept_6 (by decide +kernel) ?_
  refine lv_isub hx hb dX12_isKept_7 ?_
  refine nrm (y := (-1)) (by decide +kernel) ?_
  refine kSi (As := [.int s0, .int 0, .int (-1)]) (rest := []) (wr := [(h0, .inr (12, [.ref g0, .ref g1, .ref g2, .ref g3, .ref g4, .int 4, .ref g5, .ref g6, .ref g7, .ref g8, .ref g9, .int 0, .ref g10, .ref g11, .ref g12, .ref g13, .ref g14, .ref g15, .ref g16, .ref g17, .int 0, .ref g18, .int 0, .ref g19, .int 0, .int 0, .int 0, .int 0, .int 0, .int 0, .int 0, .int 0, .long 0, .ref g20, .ref g21, .ref g22, .ref g23, .ref g24, .ref g25, .ref g26, .ref g27, .ref g28, .ref g29, .ref g30, .int 0, .int 1, .int 0, .ref g31, .ref g32, .int 0, .ref g33, .ref g34, .ref g35, .ref g36, .int 0, .ref g37, .int 0, .ref g38, .ref g39, .ref g40, .ref g41, .ref g42, .ref g43, .ref g44, .ref g45, .ref g46, .ref g47, .int 0, .int 0, .int 4, .ref g48, .ref g49, .ref g50, .ref g51, .ref g52, .ref g53, .ref g54, .ref g55, .ref g56, .ref g57, .ref g58, .ref g59, .ref g60, .int 0, .int 0, .int 0, .int 0, .int 0, .int 0, .int 0, .int 0, .int 0, .int 0, .int 0, .int 0, .int 0, .int 0, .int 0, .int 0, .int 0, .int 0, .int 0, .int 0, .ref g61, .ref g62, .int 0, .ref g63, .ref g64, .ref g65, .ref g66, .int 0, .int 0, .ref g67, .ref g68, .int 0, .ref g69, .int 0, .int 0]))]) hx hb hml hown hts hnw hK hP hD hS hA hl.1 (c_X12_in_9 l D cI cZ cB cJ s0 s0l s0h) yk_X12_in wm_1739 [] [0] rfl rfl (by decide) (by decide) (by decide) rfl rfl dX12_isKept_8 ⟨Nat.le_of_ble_eq_true rfl, Nat.le_of_ble_eq_true rfl⟩ ⟨Nat.le_of_ble_eq_true rfl, Nat.le_of_ble_eq_true rfl⟩ (Nat.le_of_ble_eq_true rfl) (fun r9 w1 H locs hq9 hP hD hS => ?_)
  obtain ⟨rfl, rfl⟩ := hq9
  have hP : va_P D vwCl [(h0, .inr (12, [.ref g0, .ref g1, .ref g2, .ref g3, .ref g4, .int 4, .ref g5, .ref g6, .ref g7, .ref g8, .ref g9, .int 0, .ref g10, .ref g11, .ref g12, .ref g13, .ref g14, .ref g15, .ref g16, .ref g17, .int 0, .ref g18, .int 0, .ref g19, .int 0, .int 0, .int 0, .int 0, .int 0, .int 0, .int 0, .int 0, .long 0, .ref g20, .ref g21, .ref g22, .ref g23, .ref g24, .ref g25, .ref g26, .ref g27, .ref g28, .ref g29, .ref g30, .int 0, .int 1, .int 0, .ref g31, .ref g32, .int 0, .ref g33, .ref g34, .ref g35, .ref g36, .int 0, .ref g37, .int 0, .ref g38, .ref g39, .ref g40, .ref g41, .ref g42, .ref g43, .ref g44, .ref g45, .ref g46, .ref g47, .int 0, .int 0, .int 4, .ref g48, .ref g49, .ref g50, .ref g51, .ref g52, .ref g53, .ref g54, .ref g55, .ref g56, .ref g57, .ref g58, .ref g59, .ref g60, .int 0, .int 0, .int 0, .int 0, .int 0, .int 0, .int 0, .int 0, .int 0, .int 0, .int 0, .int 0, .int 0, .int 0, .int 0, .int 0, .int 0, .int 0, .int 0, .int 0, .ref g61, .ref g62, .int 0, .ref g63, .ref g64, .ref g65, .ref g66, .int 0, .int 0, .ref g67, .ref g68, .int 0, .ref g69, .int 0, .int 0]))] H := hP
  have hD : va_D A [(h0, .inr (12, [.ref g0, .ref g1, .ref g2, .ref g3, .ref g4, .int 4, .ref g5, .ref g6, .ref g7, .ref g8, .ref g9, .int 0, .ref g10, .ref g11, .ref g12, .ref g13, .ref g14, .ref g15, .ref g16, .ref g17, .int 0, .ref g18, .int 0, .ref g19, .int 0, .int 0, .int 0, .int 0, .int 0, .int 0, .int 0, .int 0, .long 0, .ref g20, .ref g21, .ref g22, .ref g23, .ref g24, .ref g25, .ref g26, .ref g27, .ref g28, .ref g29, .ref g30, .int 0, .int 1, .int 0, .ref g31, .ref g32, .int 0, .ref g33, .ref g34, .ref g35, .ref g36, .int 0, .ref g37, .int 0, .ref g38, .ref g39, .ref g40, .ref g41, .ref g42, .ref g43, .ref g44, .ref g45, .ref g46, .ref g47, .int 0, .int 0, .int 4, .ref g48, .ref g49, .ref g50, .ref g51, .ref g52, .ref g53, .ref g54, .ref g55, .ref g56, .ref g57, .ref g58, .ref g59, .ref g60, .int 0, .int 0, .int 0, .int 0, .int 0, .int 0, .int 0, .int 0, .int 0, .int 0, .int 0, .int 0, .int 0, .int 0, .int 0, .int 0, .int 0, .int 0, .int 0, .int 0, .ref g61, .ref g62, .int 0, .ref g63, .ref g64, .ref g65, .ref g66, .int 0, .int 0, .ref g67, .ref g68, .int 0, .ref g69, .int 0, .int 0]))] := hD
  refine W.widen (k := 0) (n := 0) (Nat.le_of_ble_eq_true rfl) (Nat.le_of_ble_eq_true rfl) ?_
  refine pcn (b := 11) rfl ?_
  refine W.widen (k := 0) (n := 0) (Nat.le_of_ble_eq_true rfl) (Nat.le_of_ble_eq_true rfl) ?_
  exact rtZ hx hb hr rfl hlocks hS hP hD ⟨rfl, rfl⟩ dX12_isKept_11

set_option maxHeartbeats 4000000 in
set_option maxRecDepth 100000 in
theorem c_X0_hasCoercion_1 (l : Launch) (D : va_G) (cI cZ cB cJ : ClassId) (h0 g0 g1 g2 g3 g4 g5 : Nat) (s0 : Int32) (s0l : (0 : Int) ≤ s0.toInt) (s0h : s0.toInt ≤ (2147483647 : Int)) : CtI l D (TT cI cZ cB cJ) yX0_hasCoercion cX0_hasCoercion 2 (some .boolean) 0 0 0 0 [.ref h0, .int s0] [(h0, .inr (0, [.ref g0, .ref g1, .ref g2, .ref g3, .ref g4, .ref g5, .int 0, .int 0]))] (fun r w1 => r = 0 ∧ w1 = [(h0, .inr (0, [.ref g0, .ref g1, .ref g2, .ref g3, .ref g4, .ref g5, .int 0, .int 0]))]) := by
  refine CtI.of (by decide +kernel) (Nat.le_of_ble_eq_true rfl) ?_
  intro p e s m below meth c A ls hx hb hr hml hown hts hnw hlocks hin hA hS hP hK hD hl
  have hown : s.vm.findClass RX0 = some m.cls := hown
  have hl : lv_has ls 2 [(0, .ref h0), (1, .int s0)] := hl
  refine lv_iload_n hx hb dX0_hasCoercion_0 rfl (lv_at hl 1 rfl) ?_
  refine lv_if_lt (tgt := 16) hx hb dX0_hasCoercion_1 (by decide) (fun h9 => absurd h9 (iv_nlt s0l (by decide +kernel : (0 : Int32).toInt ≤ (0 : Int)) (by decide))) (fun _ => ?_)
  refine lv_iload_n hx hb dX0_hasCoercion_4 rfl (lv_at hl 1 rfl) ?_
  refine lv_aload_n hx hb dX0_hasCoercion_5 rfl (lv_at hl 0 rfl) ?_
  refine va_get (D := D) (ci := 0) (v := .int 0) (C := RX0) (T := TX0) (N := 8) hx hb hts inX0 hown hK hP 0 rfl rfl 7 (by decide) (hts _ wm_449) (fun _ h9 => h9) rfl dX0_hasCoercion_6 ?_
  refine lv_icmp_ge (tgt := 16) hx hb dX0_hasCoercion_9 (by decide) (fun _ => ?_) (fun h9 => absurd (iv_le (by decide +kernel : (0 : Int32).toInt ≤ (0 : Int)) s0l (by decide)) h9)
  refine lv_iconst (v := 0) hx hb dX0_hasCoercion_16 (by decide +kernel) ?_
  refine W.widen (k := 0) (n := 0) (Nat.le_of_ble_eq_true rfl) (Nat.le_of_ble_eq_true rfl) ?_
  exact rtZ hx hb hr rfl hlocks hS hP hD ⟨rfl, rfl⟩ dX0_hasCoercion_17

set_option maxHeartbeats 4000000 in
set_option maxRecDepth 100000 in
theorem c_X12_isKept_1 (l : Launch) (D : va_G) (cI cZ cB cJ : ClassId) (h0 g0 g1 g2 g3 g4 g5 g6 g7 g8 g9 g10 g11 g12 g13 g14 g15 g16 g17 g18 g19 g20 g21 g22 g23 g24 g25 g26 g27 g28 g29 g30 g31 g32 g33 g34 g35 g36 g37 g38 g39 g40 g41 g42 g43 g44 g45 g46 g47 g48 g49 g50 g51 g52 g53 g54 g55 g56 g57 g58 g59 g60 g61 g62 g63 g64 g65 g66 g67 g68 g69 : Nat) (s0 : Int32) (s0l : (0 : Int) ≤ s0.toInt) (s0h : s0.toInt ≤ (2147483647 : Int)) : CtI l D (TT cI cZ cB cJ) yX12_isKept cX12_isKept 2 (some .boolean) 1 22 0 0 [.ref h0, .int s0] [(h0, .inr (12, [.ref g0, .ref g1, .ref g2, .ref g3, .ref g4, .int 4, .ref g5, .ref g6, .ref g7, .ref g8, .ref g9, .int 0, .ref g10, .ref g11, .ref g12, .ref g13, .ref g14, .ref g15, .ref g16, .ref g17, .int 0, .ref g18, .int 0, .ref g19, .int 0, .int 0, .int 0, .int 0, .int 0, .int 0, .int 0, .int 0, .long 0, .ref g20, .ref g21, .ref g22, .ref g23, .ref g24, .ref g25, .ref g26, .ref g27, .ref g28, .ref g29, .ref g30, .int 0, .int 1, .int 0, .ref g31, .ref g32, .int 0, .ref g33, .ref g34, .ref g35, .ref g36, .int 0, .ref g37, .int 0, .ref g38, .ref g39, .ref g40, .ref g41, .ref g42, .ref g43, .ref g44, .ref g45, .ref g46, .ref g47, .int 0, .int 0, .int 4, .ref g48, .ref g49, .ref g50, .ref g51, .ref g52, .ref g53, .ref g54, .ref g55, .ref g56, .ref g57, .ref g58, .ref g59, .ref g60, .int 0, .int 0, .int 0, .int 0, .int 0, .int 0, .int 0, .int 0, .int 0, .int 0, .int 0, .int 0, .int 0, .int 0, .int 0, .int 0, .int 0, .int 0, .int 0, .int 0, .ref g61, .ref g62, .int 0, .ref g63, .ref g64, .ref g65, .ref g66, .int 0, .int 0, .ref g67, .ref g68, .int 0, .ref g69, .int 0, .int 0]))] (fun r w1 => r = 0 ∧ w1 = [(h0, .inr (12, [.ref g0, .ref g1, .ref g2, .ref g3, .ref g4, .int 4, .ref g5, .ref g6, .ref g7, .ref g8, .ref g9, .int 0, .ref g10, .ref g11, .ref g12, .ref g13, .ref g14, .ref g15, .ref g16, .ref g17, .int 0, .ref g18, .int 0, .ref g19, .int 0, .int 0, .int 0, .int 0, .int 0, .int 0, .int 0, .int 0, .long 0, .ref g20, .ref g21, .ref g22, .ref g23, .ref g24, .ref g25, .ref g26, .ref g27, .ref g28, .ref g29, .ref g30, .int 0, .int 1, .int 0, .ref g31, .ref g32, .int 0, .ref g33, .ref g34, .ref g35, .ref g36, .int 0, .ref g37, .int 0, .ref g38, .ref g39, .ref g40, .ref g41, .ref g42, .ref g43, .ref g44, .ref g45, .ref g46, .ref g47, .int 0, .int 0, .int 4, .ref g48, .ref g49, .ref g50, .ref g51, .ref g52, .ref g53, .ref g54, .ref g55, .ref g56, .ref g57, .ref g58, .ref g59, .ref g60, .int 0, .int 0, .int 0, .int 0, .int 0, .int 0, .int 0, .int 0, .int 0, .int 0, .int 0, .int 0, .int 0, .int 0, .int 0, .int 0, .int 0, .int 0, .int 0, .int 0, .ref g61, .ref g62, .int 0, .ref g63, .ref g64, .ref g65, .ref g66, .int 0, .int 0, .ref g67, .ref g68, .int 0, .ref g69, .int 0, .int 0]))]) := by
  refine CtI.of (by decide +kernel) (Nat.le_of_ble_eq_true rfl) ?_
  intro p e s m below meth c A ls hx hb hr hml hown hts hnw hlocks hin hA hS hP hK hD hl
  have hown : s.vm.findClass RX12 = some m.cls := hown
  have hl : lv_has ls 2 [(0, .ref h0), (1, .int s0)] := hl
  refine lv_iload_n hx hb dX12_isKept_0 rfl (lv_at hl 1 rfl) ?_
  refine lv_iconst (v := 0) hx hb dX12_isKept_1 (by decide +kernel) ?_
  refine lv_aload_n hx hb dX12_isKept_2 rfl (lv_at hl 0 rfl) ?_
  refine va_get (D := D) (ci := 12) (v := .int 0) (C := RX12) (T := TX12) (N := 118) hx hb hts inX12 hown hK hP 0 rfl rfl 111 (by decide) (hts _ wm_1478) (fun _ h9 => h9) rfl dX12_isKept_3 ?_
  refine lv_iconst (v := 1) hx hb dX12_isKept_6 (by decide +kernel) ?_
  refine lv_isub hx hb dX12_isKept_7 ?_
  refine nrm (y := (-1)) (by decide +kernel) ?_
  refine kSi (As := [.int s0, .int 0, .int (-1)]) (rest := []) (wr := [(h0, .inr (12, [.ref g0, .ref g1, .ref g2, .ref g3, .ref g4, .int 4, .ref g5, .ref g6, .ref g7, .ref g8, .ref g9, .int 0, .ref g10, .ref g11, .ref g12, .ref g13, .ref g14, .ref g15, .ref g16, .ref g17, .int 0, .ref g18, .int 0, .ref g19, .int 0, .int 0, .int 0, .int 0, .int 0, .int 0, .int 0, .int 0, .long 0, .ref g20, .ref g21, .ref g22, .ref g23, .ref g24, .ref g25, .ref g26, .ref g27, .ref g28, .ref g29, .ref g30, .int 0, .int 1, .int 0, .ref g31, .ref g32, .int 0, .ref g33, .ref g34, .ref g35, .ref g36, .int 0, .ref g37, .int 0, .ref g38, .ref g39, .ref g40, .ref g41, .ref g42, .ref g43, .ref g44, .ref g45, .ref g46, .ref g47, .int 0, .int 0, .int 4, .ref g48, .ref g49, .ref g50, .ref g51, .ref g52, .ref g53, .ref g54, .ref g55, .ref g56, .ref g57, .ref g58, .ref g59, .ref g60, .int 0, .int 0, .int 0, .int 0, .int 0, .int 0, .int 0, .int 0, .int 0, .int 0, .int 0, .int 0, .int 0, .int 0, .int 0, .int 0, .int 0, .int 0, .int 0, .int 0, .ref g61, .ref g62, .int 0, .ref g63, .ref g64, .ref g65, .ref g66, .int 0, .int 0, .ref g67, .ref g68, .int 0, .ref g69, .int 0, .int 0]))]) hx hb hml hown hts hnw hK hP hD hS hA hl.1 (c_X12_in_10 l D cI cZ cB cJ s0 s0l s0h) yk_X12_in wm_1739 [] [0] rfl rfl (by decide) (by decide) (by decide) rfl rfl dX12_isKept_8 ⟨Nat.le_of_ble_eq_true rfl, Nat.le_of_ble_eq_true rfl⟩ ⟨Nat.le_of_ble_eq_true rfl, Nat.le_of_ble_eq_true rfl⟩ (Nat.le_of_ble_eq_true rfl) (fun r9 w1 H locs hq9 hP hD hS => ?_)
  obtain ⟨rfl, rfl⟩ := hq9
  have hP : va_P D vwCl [(h0, .inr (12, [.ref g0, .ref g1, .ref g2, .ref g3, .ref g4, .int 4, .ref g5, .ref g6, .ref g7, .ref g8, .ref g9, .int 0, .ref g10, .ref g11, .ref g12, .ref g13, .ref g14, .ref g15, .ref g16, .ref g17, .int 0, .ref g18, .int 0, .ref g19, .int 0, .int 0, .int 0, .int 0, .int 0, .int 0, .int 0, .int 0, .long 0, .ref g20, .ref g21, .ref g22, .ref g23, .ref g24, .ref g25, .ref g26, .ref g27, .ref g28, .ref g29, .ref g30, .int 0, .int 1, .int 0, .ref g31, .ref g32, .int 0, .ref g33, .ref g34, .ref g35, .ref g36, .int 0, .ref g37, .int 0, .ref g38, .ref g39, .ref g40, .ref g41, .ref g42, .ref g43, .ref g44, .ref g45, .ref g46, .ref g47, .int 0, .int 0, .int 4, .ref g48, .ref g49, .ref g50, .ref g51, .ref g52, .ref g53, .ref g54, .ref g55, .ref g56, .ref g57, .ref g58, .ref g59, .ref g60, .int 0, .int 0, .int 0, .int 0, .int 0, .int 0, .int 0, .int 0, .int 0, .int 0, .int 0, .int 0, .int 0, .int 0, .int 0, .int 0, .int 0, .int 0, .int 0, .int 0, .ref g61, .ref g62, .int 0, .ref g63, .ref g64, .ref g65, .ref g66, .int 0, .int 0, .ref g67, .ref g68, .int 0, .ref g69, .int 0, .int 0]))] H := hP
  have hD : va_D A [(h0, .inr (12, [.ref g0, .ref g1, .ref g2, .ref g3, .ref g4, .int 4, .ref g5, .ref g6, .ref g7, .ref g8, .ref g9, .int 0, .ref g10, .ref g11, .ref g12, .ref g13, .ref g14, .ref g15, .ref g16, .ref g17, .int 0, .ref g18, .int 0, .ref g19, .int 0, .int 0, .int 0, .int 0, .int 0, .int 0, .int 0, .int 0, .long 0, .ref g20, .ref g21, .ref g22, .ref g23, .ref g24, .ref g25, .ref g26, .ref g27, .ref g28, .ref g29, .ref g30, .int 0, .int 1, .int 0, .ref g31, .ref g32, .int 0, .ref g33, .ref g34, .ref g35, .ref g36, .int 0, .ref g37, .int 0, .ref g38, .ref g39, .ref g40, .ref g41, .ref g42, .ref g43, .ref g44, .ref g45, .ref g46, .ref g47, .int 0, .int 0, .int 4, .ref g48, .ref g49, .ref g50, .ref g51, .ref g52, .ref g53, .ref g54, .ref g55, .ref g56, .ref g57, .ref g58, .ref g59, .ref g60, .int 0, .int 0, .int 0, .int 0, .int 0, .int 0, .int 0, .int 0, .int 0, .int 0, .int 0, .int 0, .int 0, .int 0, .int 0, .int 0, .int 0, .int 0, .int 0, .int 0, .ref g61, .ref g62, .int 0, .ref g63, .ref g64, .ref g65, .ref g66, .int 0, .int 0, .ref g67, .ref g68, .int 0, .ref g69, .int 0, .int 0]))] := hD
  refine W.widen (k := 0) (n := 0) (Nat.le_of_ble_eq_true rfl) (Nat.le_of_ble_eq_true rfl) ?_
  refine pcn (b := 11) rfl ?_
  refine W.widen (k := 0) (n := 0) (Nat.le_of_ble_eq_true rfl) (Nat.le_of_ble_eq_true rfl) ?_
  exact rtZ hx hb hr rfl hlocks hS hP hD ⟨rfl, rfl⟩ dX12_isKept_11

set_option maxHeartbeats 4000000 in
set_option maxRecDepth 100000 in
theorem c_X12_in_13 (l : Launch) (D : va_G) (cI cZ cB cJ : ClassId) (s0 : Int32) (s0l : ((-2147483648) : Int) ≤ s0.toInt) (s0h : s0.toInt ≤ ((-1) : Int)) : CtI l D (TT cI cZ cB cJ) yX12_in cX12_in 3 (some .boolean) 0 0 0 0 [.int s0, .int 0, .int 1] [] (fun r w1 => r = 0 ∧ w1 = []) := by
  refine CtI.of (by decide +kernel) (Nat.le_of_ble_eq_true rfl) ?_
  intro p e s m below meth c A ls hx hb hr hml hown hts hnw hlocks hin hA hS hP hK hD hl
  have hown : s.vm.findClass RX12 = some m.cls := hown
  have hl : lv_has ls 3 [(0, .int s0), (1, .int 0), (2, .int 1)] := hl
  refine lv_iload_n hx hb dX12_in_0 rfl (lv_at hl 0 rfl) ?_
  refine lv_iload_n hx hb dX12_in_1 rfl (lv_at hl 1 rfl) ?_
  refine lv_icmp_lt (tgt := 14) hx hb dX12_in_2 (by decide) (fun _ => ?_) (fun h9 => absurd (iv_lt s0h (by decide +kernel : (0 : Int) ≤ (0 : Int32).toInt) (by decide)) h9)
  refine lv_iconst (v := 0) hx hb dX12_in_14 (by decide +kernel) ?_
  refine W.widen (k := 0) (n := 0) (Nat.le_of_ble_eq_true rfl) (Nat.le_of_ble_eq_true rfl) ?_
  exact rtZ hx hb hr rfl hlocks hS hP hD ⟨rfl, rfl⟩ dX12_in_15

set_option maxHeartbeats 4000000 in
set_option maxRecDepth 100000 in
theorem c_X0_dropCoercions_0 (l : Launch) (D : va_G) (cI cZ cB cJ : ClassId) (h0 h1 h2 h3 g0 g1 g2 g3 g4 g5 g6 : Nat) : CtI l D (TT cI cZ cB cJ) yX0_dropCoercions cX0_dropCoercions 2 (some .int) 3 65 0 0 [.ref h0] [(h0, .inr (0, [.ref g0, .ref h1, .ref g1, .ref g2, .ref g3, .ref g4, .int 0, .int 0])), (h1, .inr (2, [.ref h2, .ref h3])), (h2, .inr (4, [.ref h3, .ref g5])), (h3, .inr (6, [.ref g6, .int 3]))] (fun r w1 => r = 0 ∧ w1 = [(h0, .inr (0, [.ref g0, .ref h1, .ref g1, .ref g2, .ref g3, .ref g4, .int 0, .int 0])), (h1, .inr (2, [.ref h2, .ref h3])), (h2, .inr (4, [.ref h3, .ref g5])), (h3, .inr (6, [.ref g6, .int 3]))]) := by
  refine CtI.of (by decide +kernel) (Nat.le_of_ble_eq_true rfl) ?_
  intro p e s m below meth c A ls hx hb hr hml hown hts hnw hlocks hin hA hS hP hK hD hl
  have hown : s.vm.findClass RX0 = some m.cls := hown
  have hl : lv_has ls 2 [(0, .ref h0)] := hl
  refine lv_aload_n hx hb dX0_dropCoercions_0 rfl (lv_at hl 0 rfl) ?_
  refine va_get (D := D) (ci := 0) (v := .int 0) (C := RX0) (T := TX0) (N := 8) hx hb hts inX0 hown hK hP 0 rfl rfl 7 (by decide) (hts _ wm_449) (fun _ h9 => h9) rfl dX0_dropCoercions_1 ?_
  refine lv_istore_n (lv' := [(1, .int 0), (0, .ref h0)]) hx hb dX0_dropCoercions_4 rfl hl (by decide) rfl (fun ls hl => ?_)
  refine lv_aload_n hx hb dX0_dropCoercions_5 rfl (lv_at hl 1 rfl) ?_
  refine lv_iconst (v := 0) hx hb dX0_dropCoercions_6 (by decide +kernel) ?_
  refine va_put (D := D) (ci := 0) (v := .int 0) (ty := .int) (C := RX0) (T := TX0) (N := 8) hx hb hts inX0 tyX0 tyX0_ok nmX0 hown hK hP hD hS 0 rfl rfl 7 (by decide) (hts _ wm_449) (fun _ h9 => h9) rfl (by decide +kernel) rfl rfl (Nat.le_of_ble_eq_true rfl) dX0_dropCoercions_7 (fun H locs hP hD hS => ?_)
  have hP : va_P D vwCl [(h0, .inr (0, [.ref g0, .ref h1, .ref g1, .ref g2, .ref g3, .ref g4, .int 0, .int 0])), (h1, .inr (2, [.ref h2, .ref h3])), (h2, .inr (4, [.ref h3, .ref g5])), (h3, .inr (6, [.ref g6, .int 3]))] H := hP
  have hD : va_D A [(h0, .inr (0, [.ref g0, .ref h1, .ref g1, .ref g2, .ref g3, .ref g4, .int 0, .int 0])), (h1, .inr (2, [.ref h2, .ref h3])), (h2, .inr (4, [.ref h3, .ref g5])), (h3, .inr (6, [.ref g6, .int 3]))] := hD
  refine lv_aload_n hx hb dX0_dropCoercions_10 rfl (lv_at hl 1 rfl) ?_
  refine pcn (b := 11) rfl ?_
  refine va_get (D := D) (ci := 0) (v := .ref h1) (C := RX0) (T := TX0) (N := 8) hx hb hts inX0 hown hK hP 0 rfl rfl 1 (by decide) (hts _ wm_439) (fun _ h9 => h9) rfl dX0_dropCoercions_11 ?_
  refine va_getN (D := D) (ci := 2) (v := .ref h2) (C := RX2) (T := TX2) (N := 2) hx hb hts inX2 hown hK hP 1 rfl rfl 0 (by decide) (va_Nw.use rfl (hnw _ wn_245)) (fun _ h9 => h9) rfl dX0_dropCoercions_14 ?_
  refine lv_iconst (v := 3) hx hb dX0_dropCoercions_17 (by decide +kernel) ?_
  refine kVNv (As := [.int 3]) (rest := []) (wr := [(h0, .inr (0, [.ref g0, .ref h1, .ref g1, .ref g2, .ref g3, .ref g4, .int 0, .int 0])), (h1, .inr (2, [.ref h2, .ref h3]))]) hx hb hml hown hts hnw hK hP hD hS hA hl.1 (c_X4_cutTo_1 l D cI cZ cB cJ h2 h3 g5 g6) yk_X4_cutTo wn_774 [2, 3] [0, 1] rfl rfl (by decide) (by decide) (by decide) 0 rfl rfl rfl rfl rfl dX0_dropCoercions_18 ⟨Nat.le_of_ble_eq_true rfl, Nat.le_of_ble_eq_true rfl⟩ ⟨Nat.le_of_ble_eq_true rfl, Nat.le_of_ble_eq_true rfl⟩ (Nat.le_of_ble_eq_true rfl) (fun w1 H locs hq9 hP hD hS => ?_)
  obtain rfl := hq9
  have hP : va_P D vwCl [(h0, .inr (0, [.ref g0, .ref h1, .ref g1, .ref g2, .ref g3, .ref g4, .int 0, .int 0])), (h1, .inr (2, [.ref h2, .ref h3])), (h2, .inr (4, [.ref h3, .ref g5])), (h3, .inr (6, [.ref g6, .int 3]))] H := hP
  have hD : va_D A [(h0, .inr (0, [.ref g0, .ref h1, .ref g1, .ref g2, .ref g3, .ref g4, .int 0, .int 0])), (h1, .inr (2, [.ref h2, .ref h3])), (h2, .inr (4, [.ref h3, .ref g5])), (h3, .inr (6, [.ref g6, .int 3]))] := hD
  refine W.widen (k := 0) (n := 0) (Nat.le_of_ble_eq_true rfl) (Nat.le_of_ble_eq_true rfl) ?_
  refine pcn (b := 21) rfl ?_
  refine lv_iload_n hx hb dX0_dropCoercions_21 rfl (lv_at hl 0 rfl) ?_
  refine W.widen (k := 0) (n := 0) (Nat.le_of_ble_eq_true rfl) (Nat.le_of_ble_eq_true rfl) ?_
  exact rtI hx hb hr hlocks hS hP hD ⟨rfl, rfl⟩ dX0_dropCoercions_22

set_option maxHeartbeats 4000000 in
set_option maxRecDepth 100000 in
theorem c_X12_in_14 (l : Launch) (D : va_G) (cI cZ cB cJ : ClassId) : CtI l D (TT cI cZ cB cJ) yX12_in cX12_in 3 (some .boolean) 0 0 0 0 [.int 0, .int 0, .int 1] [] (fun r w1 => r = 1 ∧ w1 = []) := by
  refine CtI.of (by decide +kernel) (Nat.le_of_ble_eq_true rfl) ?_
  intro p e s m below meth c A ls hx hb hr hml hown hts hnw hlocks hin hA hS hP hK hD hl
  have hown : s.vm.findClass RX12 = some m.cls := hown
  have hl : lv_has ls 3 [(0, .int 0), (1, .int 0), (2, .int 1)] := hl
  refine lv_iload_n hx hb dX12_in_0 rfl (lv_at hl 0 rfl) ?_
  refine lv_iload_n hx hb dX12_in_1 rfl (lv_at hl 1 rfl) ?_
  refine lv_icmp_lt (tgt := 14) hx hb dX12_in_2 (by decide) (fun h9 => absurd h9 (by decide +kernel)) (fun _ => ?_)
  refine lv_iload_n hx hb dX12_in_5 rfl (lv_at hl 0 rfl) ?_
  refine lv_iload_n hx hb dX12_in_6 rfl (lv_at hl 2 rfl) ?_
  refine lv_icmp_gt (tgt := 14) hx hb dX12_in_7 (by decide) (fun h9 => absurd h9 (by decide +kernel)) (fun _ => ?_)
  refine lv_iconst (v := 1) hx hb dX12_in_10 (by decide +kernel) ?_
  refine pcn (b := 11) rfl ?_
  refine lv_goto (tgt := 15) hx hb dX12_in_11 (by decide) ?_
  refine W.widen (k := 0) (n := 0) (Nat.le_of_ble_eq_true rfl) (Nat.le_of_ble_eq_true rfl) ?_
  exact rtZ hx hb hr rfl hlocks hS hP hD ⟨rfl, rfl⟩ dX12_in_15

set_option maxHeartbeats 4000000 in
set_option maxRecDepth 100000 in
theorem c_X0_dropTypes_0 (l : Launch) (D : va_G) (cI cZ cB cJ : ClassId) (h0 h1 h2 h3 g0 g1 g2 g3 g4 g5 g6 : Nat) : CtI l D (TT cI cZ cB cJ) yX0_dropTypes cX0_dropTypes 2 (some .int) 3 65 0 0 [.ref h0] [(h0, .inr (0, [.ref h1, .ref g0, .ref g1, .ref g2, .ref g3, .ref g4, .int 0, .int 0])), (h1, .inr (9, [.ref h2, .ref h3])), (h2, .inr (4, [.ref h3, .ref g5])), (h3, .inr (6, [.ref g6, .int 4]))] (fun r w1 => r = 0 ∧ w1 = [(h0, .inr (0, [.ref h1, .ref g0, .ref g1, .ref g2, .ref g3, .ref g4, .int 0, .int 0])), (h1, .inr (9, [.ref h2, .ref h3])), (h2, .inr (4, [.ref h3, .ref g5])), (h3, .inr (6, [.ref g6, .int 4]))]) := by
  refine CtI.of (by decide +kernel) (Nat.le_of_ble_eq_true rfl) ?_
  intro p e s m below meth c A ls hx hb hr hml hown hts hnw hlocks hin hA hS hP hK hD hl
  have hown : s.vm.findClass RX0 = some m.cls := hown
  have hl : lv_has ls 2 [(0, .ref h0)] := hl
  refine lv_aload_n hx hb dX0_dropTypes_0 rfl (lv_at hl 0 rfl) ?_
  refine va_get (D := D) (ci := 0) (v := .int 0) (C := RX0) (T := TX0) (N := 8) hx hb hts inX0 hown hK hP 0 rfl rfl 6 (by decide) (hts _ wm_447) (fun _ h9 => h9) rfl dX0_dropTypes_1 ?_
  refine lv_istore_n (lv' := [(1, .int 0), (0, .ref h0)]) hx hb dX0_dropTypes_4 rfl hl (by decide) rfl (fun ls hl => ?_)
  refine lv_aload_n hx hb dX0_dropTypes_5 rfl (lv_at hl 1 rfl) ?_
  refine lv_iconst (v := 0) hx hb dX0_dropTypes_6 (by decide +kernel) ?_
  refine va_put (D := D) (ci := 0) (v := .int 0) (ty := .int) (C := RX0) (T := TX0) (N := 8) hx hb hts inX0 tyX0 tyX0_ok nmX0 hown hK hP hD hS 0 rfl rfl 6 (by decide) (hts _ wm_447) (fun _ h9 => h9) rfl (by decide +kernel) rfl rfl (Nat.le_of_ble_eq_true rfl) dX0_dropTypes_7 (fun H locs hP hD hS => ?_)
  have hP : va_P D vwCl [(h0, .inr (0, [.ref h1, .ref g0, .ref g1, .ref g2, .ref g3, .ref g4, .int 0, .int 0])), (h1, .inr (9, [.ref h2, .ref h3])), (h2, .inr (4, [.ref h3, .ref g5])), (h3, .inr (6, [.ref g6, .int 4]))] H := hP
  have hD : va_D A [(h0, .inr (0, [.ref h1, .ref g0, .ref g1, .ref g2, .ref g3, .ref g4, .int 0, .int 0])), (h1, .inr (9, [.ref h2, .ref h3])), (h2, .inr (4, [.ref h3, .ref g5])), (h3, .inr (6, [.ref g6, .int 4]))] := hD
  refine lv_aload_n hx hb dX0_dropTypes_10 rfl (lv_at hl 1 rfl) ?_
  refine pcn (b := 11) rfl ?_
  refine va_get (D := D) (ci := 0) (v := .ref h1) (C := RX0) (T := TX0) (N := 8) hx hb hts inX0 hown hK hP 0 rfl rfl 0 (by decide) (hts _ wm_437) (fun _ h9 => h9) rfl dX0_dropTypes_11 ?_
  refine va_getN (D := D) (ci := 9) (v := .ref h2) (C := RX9) (T := TX9) (N := 2) hx hb hts inX9 hown hK hP 1 rfl rfl 0 (by decide) (va_Nw.use rfl (hnw _ wn_224)) (fun _ h9 => h9) rfl dX0_dropTypes_14 ?_
  refine lv_iconst (v := 4) hx hb dX0_dropTypes_17 (by decide +kernel) ?_
  refine kVNv (As := [.int 4]) (rest := []) (wr := [(h0, .inr (0, [.ref h1, .ref g0, .ref g1, .ref g2, .ref g3, .ref g4, .int 0, .int 0])), (h1, .inr (9, [.ref h2, .ref h3]))]) hx hb hml hown hts hnw hK hP hD hS hA hl.1 (c_X4_cutTo_0 l D cI cZ cB cJ h2 h3 g5 g6) yk_X4_cutTo wn_774 [2, 3] [0, 1] rfl rfl (by decide) (by decide) (by decide) 0 rfl rfl rfl rfl rfl dX0_dropTypes_18 ⟨Nat.le_of_ble_eq_true rfl, Nat.le_of_ble_eq_true rfl⟩ ⟨Nat.le_of_ble_eq_true rfl, Nat.le_of_ble_eq_true rfl⟩ (Nat.le_of_ble_eq_true rfl) (fun w1 H locs hq9 hP hD hS => ?_)
  obtain rfl := hq9
  have hP : va_P D vwCl [(h0, .inr (0, [.ref h1, .ref g0, .ref g1, .ref g2, .ref g3, .ref g4, .int 0, .int 0])), (h1, .inr (9, [.ref h2, .ref h3])), (h2, .inr (4, [.ref h3, .ref g5])), (h3, .inr (6, [.ref g6, .int 4]))] H := hP
  have hD : va_D A [(h0, .inr (0, [.ref h1, .ref g0, .ref g1, .ref g2, .ref g3, .ref g4, .int 0, .int 0])), (h1, .inr (9, [.ref h2, .ref h3])), (h2, .inr (4, [.ref h3, .ref g5])), (h3, .inr (6, [.ref g6, .int 4]))] := hD
  refine W.widen (k := 0) (n := 0) (Nat.le_of_ble_eq_true rfl) (Nat.le_of_ble_eq_true rfl) ?_
  refine pcn (b := 21) rfl ?_
  refine lv_iload_n hx hb dX0_dropTypes_21 rfl (lv_at hl 0 rfl) ?_
  refine W.widen (k := 0) (n := 0) (Nat.le_of_ble_eq_true rfl) (Nat.le_of_ble_eq_true rfl) ?_
  exact rtI hx hb hr hlocks hS hP hD ⟨rfl, rfl⟩ dX0_dropTypes_22

set_option maxHeartbeats 4000000 in
set_option maxRecDepth 100000 in
theorem c_X12_in_15 (l : Launch) (D : va_G) (cI cZ cB cJ : ClassId) : CtI l D (TT cI cZ cB cJ) yX12_in cX12_in 3 (some .boolean) 0 0 0 0 [.int 1, .int 0, .int 1] [] (fun r w1 => r = 1 ∧ w1 = []) := by
  refine CtI.of (by decide +kernel) (Nat.le_of_ble_eq_true rfl) ?_
  intro p e s m below meth c A ls hx hb hr hml hown hts hnw hlocks hin hA hS hP hK hD hl
  have hown : s.vm.findClass RX12 = some m.cls := hown
  have hl : lv_has ls 3 [(0, .int 1), (1, .int 0), (2, .int 1)] := hl
  refine lv_iload_n hx hb dX12_in_0 rfl (lv_at hl 0 rfl) ?_
  refine lv_iload_n hx hb dX12_in_1 rfl (lv_at hl 1 rfl) ?_
  refine lv_icmp_lt (tgt := 14) hx hb dX12_in_2 (by decide) (fun h9 => absurd h9 (by decide +kernel)) (fun _ => ?_)
  refine lv_iload_n hx hb dX12_in_5 rfl (lv_at hl 0 rfl) ?_
  refine lv_iload_n hx hb dX12_in_6 rfl (lv_at hl 2 rfl) ?_
  refine lv_icmp_gt (tgt := 14) hx hb dX12_in_7 (by decide) (fun h9 => absurd h9 (by decide +kernel)) (fun _ => ?_)
  refine lv_iconst (v := 1) hx hb dX12_in_10 (by decide +kernel) ?_
  refine pcn (b := 11) rfl ?_
  refine lv_goto (tgt := 15) hx hb dX12_in_11 (by decide) ?_
  refine W.widen (k := 0) (n := 0) (Nat.le_of_ble_eq_true rfl) (Nat.le_of_ble_eq_true rfl) ?_
  exact rtZ hx hb hr rfl hlocks hS hP hD ⟨rfl, rfl⟩ dX12_in_15

set_option maxHeartbeats 4000000 in
set_option maxRecDepth 100000 in
theorem c_X12_in_16 (l : Launch) (D : va_G) (cI cZ cB cJ : ClassId) (s0 : Int32) (s0l : (2 : Int) ≤ s0.toInt) (s0h : s0.toInt ≤ (2147483647 : Int)) : CtI l D (TT cI cZ cB cJ) yX12_in cX12_in 3 (some .boolean) 0 0 0 0 [.int s0, .int 0, .int 1] [] (fun r w1 => r = 0 ∧ w1 = []) := by
  refine CtI.of (by decide +kernel) (Nat.le_of_ble_eq_true rfl) ?_
  intro p e s m below meth c A ls hx hb hr hml hown hts hnw hlocks hin hA hS hP hK hD hl
  have hown : s.vm.findClass RX12 = some m.cls := hown
  have hl : lv_has ls 3 [(0, .int s0), (1, .int 0), (2, .int 1)] := hl
  refine lv_iload_n hx hb dX12_in_0 rfl (lv_at hl 0 rfl) ?_
  refine lv_iload_n hx hb dX12_in_1 rfl (lv_at hl 1 rfl) ?_
  refine lv_icmp_lt (tgt := 14) hx hb dX12_in_2 (by decide) (fun h9 => absurd h9 (iv_nlt s0l (by decide +kernel : (0 : Int32).toInt ≤ (0 : Int)) (by decide))) (fun _ => ?_)
  refine lv_iload_n hx hb dX12_in_5 rfl (lv_at hl 0 rfl) ?_
  refine lv_iload_n hx hb dX12_in_6 rfl (lv_at hl 2 rfl) ?_
  refine lv_icmp_gt (tgt := 14) hx hb dX12_in_7 (by decide) (fun _ => ?_) (fun h9 => absurd (iv_lt (by decide +kernel : (1 : Int32).toInt ≤ (1 : Int)) s0l (by decide)) h9)
  refine lv_iconst (v := 0) hx hb dX12_in_14 (by decide +kernel) ?_
  refine W.widen (k := 0) (n := 0) (Nat.le_of_ble_eq_true rfl) (Nat.le_of_ble_eq_true rfl) ?_
  exact rtZ hx hb hr rfl hlocks hS hP hD ⟨rfl, rfl⟩ dX12_in_15

set_option maxHeartbeats 4000000 in
set_option maxRecDepth 100000 in
theorem c_X12_in_17 (l : Launch) (D : va_G) (cI cZ cB cJ : ClassId) (s0 : Int32) (s0l : ((-2147483648) : Int) ≤ s0.toInt) (s0h : s0.toInt ≤ ((-1) : Int)) : CtI l D (TT cI cZ cB cJ) yX12_in cX12_in 3 (some .boolean) 0 0 0 0 [.int s0, .int 0, .int 2] [] (fun r w1 => r = 0 ∧ w1 = []) := by
  refine CtI.of (by decide +kernel) (Nat.le_of_ble_eq_true rfl) ?_
  intro p e s m below meth c A ls hx hb hr hml hown hts hnw hlocks hin hA hS hP hK hD hl
  have hown : s.vm.findClass RX12 = some m.cls := hown
  have hl : lv_has ls 3 [(0, .int s0), (1, .int 0), (2, .int 2)] := hl
  refine lv_iload_n hx hb dX12_in_0 rfl (lv_at hl 0 rfl) ?_
  refine lv_iload_n hx hb dX12_in_1 rfl (lv_at hl 1 rfl) ?_
  refine lv_icmp_lt (tgt := 14) hx hb dX12_in_2 (by decide) (fun _ => ?_) (fun h9 => absurd (iv_lt s0h (by decide +kernel : (0 : Int) ≤ (0 : Int32).toInt) (by decide)) h9)
  refine lv_iconst (v := 0) hx hb dX12_in_14 (by decide +kernel) ?_
  refine W.widen (k := 0) (n := 0) (Nat.le_of_ble_eq_true rfl) (Nat.le_of_ble_eq_true rfl) ?_
  exact rtZ hx hb hr rfl hlocks hS hP hD ⟨rfl, rfl⟩ dX12_in_15

set_option maxHeartbeats 4000000 in
set_option maxRecDepth 100000 in
theorem c_X12_in_18 (l : Launch) (D : va_G) (cI cZ cB cJ : ClassId) (s0 : Int32) (s0l : (3 : Int) ≤ s0.toInt) (s0h : s0.toInt ≤ (2147483647 : Int)) : CtI l D (TT cI cZ cB cJ) yX12_in cX12_in 3 (some .boolean) 0 0 0 0 [.int s0, .int 0, .int 2] [] (fun r w1 => r = 0 ∧ w1 = []) := by
  refine CtI.of (by decide +kernel) (Nat.le_of_ble_eq_true rfl) ?_
  intro p e s m below meth c A ls hx hb hr hml hown hts hnw hlocks hin hA hS hP hK hD hl
  have hown : s.vm.findClass RX12 = some m.cls := hown
  have hl : lv_has ls 3 [(0, .int s0), (1, .int 0), (2, .int 2)] := hl
  refine lv_iload_n hx hb dX12_in_0 rfl (lv_at hl 0 rfl) ?_
  refine lv_iload_n hx hb dX12_in_1 rfl (lv_at hl 1 rfl) ?_
  refine lv_icmp_lt (tgt := 14) hx hb dX12_in_2 (by decide) (fun h9 => absurd h9 (iv_nlt s0l (by decide +kernel : (0 : Int32).toInt ≤ (0 : Int)) (by decide))) (fun _ => ?_)
  refine lv_iload_n hx hb dX12_in_5 rfl (lv_at hl 0 rfl) ?_
  refine lv_iload_n hx hb dX12_in_6 rfl (lv_at hl 2 rfl) ?_
  refine lv_icmp_gt (tgt := 14) hx hb dX12_in_7 (by decide) (fun _ => ?_) (fun h9 => absurd (iv_lt (by decide +kernel : (2 : Int32).toInt ≤ (2 : Int)) s0l (by decide)) h9)
  refine lv_iconst (v := 0) hx hb dX12_in_14 (by decide +kernel) ?_
  refine W.widen (k := 0) (n := 0) (Nat.le_of_ble_eq_true rfl) (Nat.le_of_ble_eq_true rfl) ?_
  exact rtZ hx hb hr rfl hlocks hS hP hD ⟨rfl, rfl⟩ dX12_in_15

set_option maxHeartbeats 4000000 in
set_option maxRecDepth 100000 in
theorem c_X12_in_19 (l : Launch) (D : va_G) (cI cZ cB cJ : ClassId) (s0 : Int32) (s0l : (0 : Int) ≤ s0.toInt) (s0h : s0.toInt ≤ (2 : Int)) : CtI l D (TT cI cZ cB cJ) yX12_in cX12_in 3 (some .boolean) 0 0 0 0 [.int s0, .int 0, .int 2] [] (fun r w1 => r = 1 ∧ w1 = []) := by
  refine CtI.of (by decide +kernel) (Nat.le_of_ble_eq_true rfl) ?_
  intro p e s m below meth c A ls hx hb hr hml hown hts hnw hlocks hin hA hS hP hK hD hl
  have hown : s.vm.findClass RX12 = some m.cls := hown
  have hl : lv_has ls 3 [(0, .int s0), (1, .int 0), (2, .int 2)] := hl
  refine lv_iload_n hx hb dX12_in_0 rfl (lv_at hl 0 rfl) ?_
  refine lv_iload_n hx hb dX12_in_1 rfl (lv_at hl 1 rfl) ?_
  refine lv_icmp_lt (tgt := 14) hx hb dX12_in_2 (by decide) (fun h9 => absurd h9 (iv_nlt s0l (by decide +kernel : (0 : Int32).toInt ≤ (0 : Int)) (by decide))) (fun _ => ?_)
  refine lv_iload_n hx hb dX12_in_5 rfl (lv_at hl 0 rfl) ?_
  refine lv_iload_n hx hb dX12_in_6 rfl (lv_at hl 2 rfl) ?_
  refine lv_icmp_gt (tgt := 14) hx hb dX12_in_7 (by decide) (fun h9 => absurd h9 (iv_nlt (by decide +kernel : (2 : Int) ≤ (2 : Int32).toInt) s0h (by decide))) (fun _ => ?_)
  refine lv_iconst (v := 1) hx hb dX12_in_10 (by decide +kernel) ?_
  refine pcn (b := 11) rfl ?_
  refine lv_goto (tgt := 15) hx hb dX12_in_11 (by decide) ?_
  refine W.widen (k := 0) (n := 0) (Nat.le_of_ble_eq_true rfl) (Nat.le_of_ble_eq_true rfl) ?_
  exact rtZ hx hb hr rfl hlocks hS hP hD ⟨rfl, rfl⟩ dX12_in_15

set_option maxHeartbeats 4000000 in
set_option maxRecDepth 100000 in
theorem c_X12_in_20 (l : Launch) (D : va_G) (cI cZ cB cJ : ClassId) (s0 : Int32) (s0l : ((-2147483648) : Int) ≤ s0.toInt) (s0h : s0.toInt ≤ ((-1) : Int)) : CtI l D (TT cI cZ cB cJ) yX12_in cX12_in 3 (some .boolean) 0 0 0 0 [.int s0, .int 0, .int 8] [] (fun r w1 => r = 0 ∧ w1 = []) := by
  refine CtI.of (by decide +kernel) (Nat.le_of_ble_eq_true rfl) ?_
  intro p e s m below meth c A ls hx hb hr hml hown hts hnw hlocks hin hA hS hP hK hD hl
  have hown : s.vm.findClass RX12 = some m.cls := hown
  have hl : lv_has ls 3 [(0, .int s0), (1, .int 0), (2, .int 8)] := hl
  refine lv_iload_n hx hb dX12_in_0 rfl (lv_at hl 0 rfl) ?_
  refine lv_iload_n hx hb dX12_in_1 rfl (lv_at hl 1 rfl) ?_
  refine lv_icmp_lt (tgt := 14) hx hb dX12_in_2 (by decide) (fun _ => ?_) (fun h9 => absurd (iv_lt s0h (by decide +kernel : (0 : Int) ≤ (0 : Int32).toInt) (by decide)) h9)
  refine lv_iconst (v := 0) hx hb dX12_in_14 (by decide +kernel) ?_
  refine W.widen (k := 0) (n := 0) (Nat.le_of_ble_eq_true rfl) (Nat.le_of_ble_eq_true rfl) ?_
  exact rtZ hx hb hr rfl hlocks hS hP hD ⟨rfl, rfl⟩ dX12_in_15

set_option maxHeartbeats 4000000 in
set_option maxRecDepth 100000 in
theorem c_X3_restart_0 (l : Launch) (D : va_G) (cI cZ cB cJ : ClassId) (h0 h1 h2 h3 h4 h5 h6 g0 g1 g2 g3 g4 g5 g6 g7 g8 g9 : Nat) (s0 : Int32) : CtV l D (TT cI cZ cB cJ) yX3_restart cX3_restart 2 none 3 65 0 0 [.ref h0, .int s0] [(h0, .inr (3, [.ref h5, .ref h6, .ref h1, .int (-1), .int 0, .int 0, .int 0, .int 0, .int 0, .int 0, .int 0, .int 0, .int 0, .int 0, .int 0, .int 0, .int 0, .int 0, .int 0])), (h1, .inr (1, [.ref g0, .ref g1, .ref h2, .ref g2, .ref g3, .ref g4, .ref g5, .int 4, .int 3, .int 0, .int (-1), .int 0])), (h2, .inr (2, [.ref h3, .ref h4])), (h3, .inr (4, [.ref h4, .ref g6])), (h4, .inr (6, [.ref g7, .int 3])), (h5, .inr (6, [.ref g8, .int 0])), (h6, .inr (6, [.ref g9, .int 0]))] (fun w1 => w1 = [(h0, .inr (3, [.ref h5, .ref h6, .ref h1, .int s0, .int 0, .int 0, .int (-1), .int (-1), .int 0, .int 0, .int (-1), .int 0, .int 0, .int 0, .int 0, .int 0, .int 0, .int 0, .int 0])), (h1, .inr (1, [.ref g0, .ref g1, .ref h2, .ref g2, .ref g3, .ref g4, .ref g5, .int 4, .int 3, .int 0, .int (-1), .int 0])), (h2, .inr (2, [.ref h3, .ref h4])), (h3, .inr (4, [.ref h4, .ref g6])), (h4, .inr (6, [.ref g7, .int 3])), (h5, .inr (6, [.ref g8, .int 0])), (h6, .inr (6, [.ref g9, .int 0]))]) := by
  refine CtV.of (by decide +kernel) (Nat.le_of_ble_eq_true rfl) ?_
  intro p e s m below meth c A ls hx hb hr hml hown hts hnw hlocks hin hA hS hP hK hD hl
  have hown : s.vm.findClass RX3 = some m.cls := hown
  have hl : lv_has ls 2 [(0, .ref h0), (1, .int s0)] := hl
  refine lv_aload_n hx hb dX3_restart_0 rfl (lv_at hl 0 rfl) ?_
  refine lv_iload_n hx hb dX3_restart_1 rfl (lv_at hl 1 rfl) ?_
  refine va_put (D := D) (ci := 3) (v := .int s0) (ty := .int) (C := RX3) (T := TX3) (N := 19) hx hb hts inX3 tyX3 tyX3_ok nmX3 hown hK hP hD hS 0 rfl rfl 3 (by decide) (hts _ wm_354) (fun _ h9 => h9) rfl (by decide +kernel) rfl rfl (Nat.le_of_ble_eq_true rfl) dX3_restart_2 (fun H locs hP hD hS => ?_)
  have hP : va_P D vwCl [(h0, .inr (3, [.ref h5, .ref h6, .ref h1, .int s0, .int 0, .int 0, .int 0, .int 0, .int 0, .int 0, .int 0, .int 0, .int 0, .int 0, .int 0, .int 0, .int 0, .int 0, .int 0])), (h1, .inr (1, [.ref g0, .ref g1, .ref h2, .ref g2, .ref g3, .ref g4, .ref g5, .int 4, .int 3, .int 0, .int (-1), .int 0])), (h2, .inr (2, [.ref h3, .ref h4])), (h3, .inr (4, [.ref h4, .ref g6])), (h4, .inr (6, [.ref g7, .int 3])), (h5, .inr (6, [.ref g8, .int 0])), (h6, .inr (6, [.ref g9, .int 0]))] H := hP
  have hD : va_D A [(h0, .inr (3, [.ref h5, .ref h6, .ref h1, .int s0, .int 0, .int 0, .int 0, .int 0, .int 0, .int 0, .int 0, .int 0, .int 0, .int 0, .int 0, .int 0, .int 0, .int 0, .int 0])), (h1, .inr (1, [.ref g0, .ref g1, .ref h2, .ref g2, .ref g3, .ref g4, .ref g5, .int 4, .int 3, .int 0, .int (-1), .int 0])), (h2, .inr (2, [.ref h3, .ref h4])), (h3, .inr (4, [.ref h4, .ref g6])), (h4, .inr (6, [.ref g7, .int 3])), (h5, .inr (6, [.ref g8, .int 0])), (h6, .inr (6, [.ref g9, .int 0]))] := hD
  refine lv_aload_n hx hb dX3_restart_5 rfl (lv_at hl 0 rfl) ?_
  refine va_get (D := D) (ci := 3) (v := .ref h1) (C := RX3) (T := TX3) (N := 19) hx hb hts inX3 hown hK hP 0 rfl rfl 2 (by decide) (hts _ wm_353) (fun _ h9 => h9) rfl dX3_restart_6 ?_
  refine va_getN (D := D) (ci := 1) (v := .ref h2) (C := RX1) (T := TX1) (N := 12) hx hb hts inX1 hown hK hP 1 rfl rfl 2 (by decide) (va_Nw.use rfl (hnw _ wn_283)) (fun _ h9 => h9) rfl dX3_restart_9 ?_
  refine va_getN (D := D) (ci := 2) (v := .ref h3) (C := RX2) (T := TX2) (N := 2) hx hb hts inX2 hown hK hP 2 rfl rfl 0 (by decide) (va_Nw.use rfl (hnw _ wn_243)) (fun _ h9 => h9) rfl dX3_restart_12 ?_
  refine pcn (b := 15) rfl ?_
  refine lv_aload_n hx hb dX3_restart_15 rfl (lv_at hl 0 rfl) ?_
  refine va_get (D := D) (ci := 3) (v := .ref h1) (C := RX3) (T := TX3) (N := 19) hx hb hts inX3 hown hK hP 0 rfl rfl 2 (by decide) (hts _ wm_353) (fun _ h9 => h9) rfl dX3_restart_16 ?_
  refine va_getN (D := D) (ci := 1) (v := .int 3) (C := RX1) (T := TX1) (N := 12) hx hb hts inX1 hown hK hP 1 rfl rfl 8 (by decide) (va_Nw.use rfl (hnw _ wn_295)) (fun _ h9 => h9) rfl dX3_restart_19 ?_
  refine kVNv (As := [.int 3]) (rest := []) (wr := [(h0, .inr (3, [.ref h5, .ref h6, .ref h1, .int s0, .int 0, .int 0, .int 0, .int 0, .int 0, .int 0, .int 0, .int 0, .int 0, .int 0, .int 0, .int 0, .int 0, .int 0, .int 0])), (h1, .inr (1, [.ref g0, .ref g1, .ref h2, .ref g2, .ref g3, .ref g4, .ref g5, .int 4, .int 3, .int 0, .int (-1), .int 0])), (h2, .inr (2, [.ref h3, .ref h4])), (h5, .inr (6, [.ref g8, .int 0])), (h6, .inr (6, [.ref g9, .int 0]))]) hx hb hml hown hts hnw hK hP hD hS hA hl.1 (c_X4_cutTo_1 l D cI cZ cB cJ h3 h4 g6 g7) yk_X4_cutTo wn_1123 [3, 4] [0, 1, 2, 5, 6] rfl rfl (by decide) (by decide) (by decide) 0 rfl rfl rfl rfl rfl dX3_restart_22 ⟨Nat.le_of_ble_eq_true rfl, Nat.le_of_ble_eq_true rfl⟩ ⟨Nat.le_of_ble_eq_true rfl, Nat.le_of_ble_eq_true rfl⟩ (Nat.le_of_ble_eq_true rfl) (fun w1 H locs hq9 hP hD hS => ?_)
  obtain rfl := hq9
  have hP : va_P D vwCl [(h0, .inr (3, [.ref h5, .ref h6, .ref h1, .int s0, .int 0, .int 0, .int 0, .int 0, .int 0, .int 0, .int 0, .int 0, .int 0, .int 0, .int 0, .int 0, .int 0, .int 0, .int 0])), (h1, .inr (1, [.ref g0, .ref g1, .ref h2, .ref g2, .ref g3, .ref g4, .ref g5, .int 4, .int 3, .int 0, .int (-1), .int 0])), (h2, .inr (2, [.ref h3, .ref h4])), (h5, .inr (6, [.ref g8, .int 0])), (h6, .inr (6, [.ref g9, .int 0])), (h3, .inr (4, [.ref h4, .ref g6])), (h4, .inr (6, [.ref g7, .int 3]))] H := hP
  have hD : va_D A [(h0, .inr (3, [.ref h5, .ref h6, .ref h1, .int s0, .int 0, .int 0, .int 0, .int 0, .int 0, .int 0, .int 0, .int 0, .int 0, .int 0, .int 0, .int 0, .int 0, .int 0, .int 0])), (h1, .inr (1, [.ref g0, .ref g1, .ref h2, .ref g2, .ref g3, .ref g4, .ref g5, .int 4, .int 3, .int 0, .int (-1), .int 0])), (h2, .inr (2, [.ref h3, .ref h4])), (h5, .inr (6, [.ref g8, .int 0])), (h6, .inr (6, [.ref g9, .int 0])), (h3, .inr (4, [.ref h4, .ref g6])), (h4, .inr (6, [.ref g7, .int 3]))] := hD
  refine W.widen (k := 0) (n := 0) (Nat.le_of_ble_eq_true rfl) (Nat.le_of_ble_eq_true rfl) ?_
  refine pcn (b := 25) rfl ?_
  refine lv_aload_n hx hb dX3_restart_25 rfl (lv_at hl 0 rfl) ?_
  refine va_get (D := D) (ci := 3) (v := .ref h5) (C := RX3) (T := TX3) (N := 19) hx hb hts inX3 hown hK hP 0 rfl rfl 0 (by decide) (hts _ wm_351) (fun _ h9 => h9) rfl dX3_restart_26 ?_
  refine lv_iconst (v := 0) hx hb dX3_restart_29 (by decide +kernel) ?_
  refine kVNv (As := [.int 0]) (rest := []) (wr := [(h0, .inr (3, [.ref h5, .ref h6, .ref h1, .int s0, .int 0, .int 0, .int 0, .int 0, .int 0, .int 0, .int 0, .int 0, .int 0, .int 0, .int 0, .int 0, .int 0, .int 0, .int 0])), (h1, .inr (1, [.ref g0, .ref g1, .ref h2, .ref g2, .ref g3, .ref g4, .ref g5, .int 4, .int 3, .int 0, .int (-1), .int 0])), (h2, .inr (2, [.ref h3, .ref h4])), (h6, .inr (6, [.ref g9, .int 0])), (h3, .inr (4, [.ref h4, .ref g6])), (h4, .inr (6, [.ref g7, .int 3]))]) hx hb hml hown hts hnw hK hP hD hS hA hl.1 (c_X6_cut_2 l D cI cZ cB cJ h5 g8) yk_X6_cut wn_1124 [3] [0, 1, 2, 4, 5, 6] rfl rfl (by decide) (by decide) (by decide) 0 rfl rfl rfl rfl rfl dX3_restart_30 ⟨Nat.le_of_ble_eq_true rfl, Nat.le_of_ble_eq_true rfl⟩ ⟨Nat.le_of_ble_eq_true rfl, Nat.le_of_ble_eq_true rfl⟩ (Nat.le_of_ble_eq_true rfl) (fun w1 H locs hq9 hP hD hS => ?_)
  obtain rfl := hq9
  have hP : va_P D vwCl [(h0, .inr (3, [.ref h5, .ref h6, .ref h1, .int s0, .int 0, .int 0, .int 0, .int 0, .int 0, .int 0, .int 0, .int 0, .int 0, .int 0, .int 0, .int 0, .int 0, .int 0, .int 0])), (h1, .inr (1, [.ref g0, .ref g1, .ref h2, .ref g2, .ref g3, .ref g4, .ref g5, .int 4, .int 3, .int 0, .int (-1), .int 0])), (h2, .inr (2, [.ref h3, .ref h4])), (h6, .inr (6, [.ref g9, .int 0])), (h3, .inr (4, [.ref h4, .ref g6])), (h4, .inr (6, [.ref g7, .int 3])), (h5, .inr (6, [.ref g8, .int 0]))] H := hP
  have hD : va_D A [(h0, .inr (3, [.ref h5, .ref h6, .ref h1, .int s0, .int 0, .int 0, .int 0, .int 0, .int 0, .int 0, .int 0, .int 0, .int 0, .int 0, .int 0, .int 0, .int 0, .int 0, .int 0])), (h1, .inr (1, [.ref g0, .ref g1, .ref h2, .ref g2, .ref g3, .ref g4, .ref g5, .int 4, .int 3, .int 0, .int (-1), .int 0])), (h2, .inr (2, [.ref h3, .ref h4])), (h6, .inr (6, [.ref g9, .int 0])), (h3, .inr (4, [.ref h4, .ref g6])), (h4, .inr (6, [.ref g7, .int 3])), (h5, .inr (6, [.ref g8, .int 0]))] := hD
  refine W.widen (k := 0) (n := 0) (Nat.le_of_ble_eq_true rfl) (Nat.le_of_ble_eq_true rfl) ?_
  refine pcn (b := 33) rfl ?_
  refine lv_aload_n hx hb dX3_restart_33 rfl (lv_at hl 0 rfl) ?_
  refine va_get (D := D) (ci := 3) (v := .ref h6) (C := RX3) (T := TX3) (N := 19) hx hb hts inX3 hown hK hP 0 rfl rfl 1 (by decide) (hts _ wm_352) (fun _ h9 => h9) rfl dX3_restart_34 ?_
  refine lv_iconst (v := 0) hx hb dX3_restart_37 (by decide +kernel) ?_
  refine kVNv (As := [.int 0]) (rest := []) (wr := [(h0, .inr (3, [.ref h5, .ref h6, .ref h1, .int s0, .int 0, .int 0, .int 0, .int 0, .int 0, .int 0, .int 0, .int 0, .int 0, .int 0, .int 0, .int 0, .int 0, .int 0, .int 0])), (h1, .inr (1, [.ref g0, .ref g1, .ref h2, .ref g2, .ref g3, .ref g4, .ref g5, .int 4, .int 3, .int 0, .int (-1), .int 0])), (h2, .inr (2, [.ref h3, .ref h4])), (h3, .inr (4, [.ref h4, .ref g6])), (h4, .inr (6, [.ref g7, .int 3])), (h5, .inr (6, [.ref g8, .int 0]))]) hx hb hml hown hts hnw hK hP hD hS hA hl.1 (c_X6_cut_2 l D cI cZ cB cJ h6 g9) yk_X6_cut wn_1124 [3] [0, 1, 2, 4, 5, 6] rfl rfl (by decide) (by decide) (by decide) 0 rfl rfl rfl rfl rfl dX3_restart_38 ⟨Nat.le_of_ble_eq_true rfl, Nat.le_of_ble_eq_true rfl⟩ ⟨Nat.le_of_ble_eq_true rfl, Nat.le_of_ble_eq_true rfl⟩ (Nat.le_of_ble_eq_true rfl) (fun w1 H locs hq9 hP hD hS => ?_)
  obtain rfl := hq9
  have hP : va_P D vwCl [(h0, .inr (3, [.ref h5, .ref h6, .ref h1, .int s0, .int 0, .int 0, .int 0, .int 0, .int 0, .int 0, .int 0, .int 0, .int 0, .int 0, .int 0, .int 0, .int 0, .int 0, .int 0])), (h1, .inr (1, [.ref g0, .ref g1, .ref h2, .ref g2, .ref g3, .ref g4, .ref g5, .int 4, .int 3, .int 0, .int (-1), .int 0])), (h2, .inr (2, [.ref h3, .ref h4])), (h3, .inr (4, [.ref h4, .ref g6])), (h4, .inr (6, [.ref g7, .int 3])), (h5, .inr (6, [.ref g8, .int 0])), (h6, .inr (6, [.ref g9, .int 0]))] H := hP
  have hD : va_D A [(h0, .inr (3, [.ref h5, .ref h6, .ref h1, .int s0, .int 0, .int 0, .int 0, .int 0, .int 0, .int 0, .int 0, .int 0, .int 0, .int 0, .int 0, .int 0, .int 0, .int 0, .int 0])), (h1, .inr (1, [.ref g0, .ref g1, .ref h2, .ref g2, .ref g3, .ref g4, .ref g5, .int 4, .int 3, .int 0, .int (-1), .int 0])), (h2, .inr (2, [.ref h3, .ref h4])), (h3, .inr (4, [.ref h4, .ref g6])), (h4, .inr (6, [.ref g7, .int 3])), (h5, .inr (6, [.ref g8, .int 0])), (h6, .inr (6, [.ref g9, .int 0]))] := hD
  refine W.widen (k := 0) (n := 0) (Nat.le_of_ble_eq_true rfl) (Nat.le_of_ble_eq_true rfl) ?_
  refine pcn (b := 41) rfl ?_
  refine lv_aload_n hx hb dX3_restart_41 rfl (lv_at hl 0 rfl) ?_
  refine lv_iconst (v := 0) hx hb dX3_restart_42 (by decide +kernel) ?_
  refine va_put (D := D) (ci := 3) (v := .int 0) (ty := .int) (C := RX3) (T := TX3) (N := 19) hx hb hts inX3 tyX3 tyX3_ok nmX3 hown hK hP hD hS 0 rfl rfl 4 (by decide) (hts _ wm_355) (fun _ h9 => h9) rfl (by decide +kernel) rfl rfl (Nat.le_of_ble_eq_true rfl) dX3_restart_43 (fun H locs hP hD hS => ?_)
  have hP : va_P D vwCl [(h0, .inr (3, [.ref h5, .ref h6, .ref h1, .int s0, .int 0, .int 0, .int 0, .int 0, .int 0, .int 0, .int 0, .int 0, .int 0, .int 0, .int 0, .int 0, .int 0, .int 0, .int 0])), (h1, .inr (1, [.ref g0, .ref g1, .ref h2, .ref g2, .ref g3, .ref g4, .ref g5, .int 4, .int 3, .int 0, .int (-1), .int 0])), (h2, .inr (2, [.ref h3, .ref h4])), (h3, .inr (4, [.ref h4, .ref g6])), (h4, .inr (6, [.ref g7, .int 3])), (h5, .inr (6, [.ref g8, .int 0])), (h6, .inr (6, [.ref g9, .int 0]))] H := hP
  have hD : va_D A [(h0, .inr (3, [.ref h5, .ref h6, .ref h1, .int s0, .int 0, .int 0, .int 0, .int 0, .int 0, .int 0, .int 0, .int 0, .int 0, .int 0, .int 0, .int 0, .int 0, .int 0, .int 0])), (h1, .inr (1, [.ref g0, .ref g1, .ref h2, .ref g2, .ref g3, .ref g4, .ref g5, .int 4, .int 3, .int 0, .int (-1), .int 0])), (h2, .inr (2, [.ref h3, .ref h4])), (h3, .inr (4, [.ref h4, .ref g6])), (h4, .inr (6, [.ref g7, .int 3])), (h5, .inr (6, [.ref g8, .int 0])), (h6, .inr (6, [.ref g9, .int 0]))] := hD
  refine lv_aload_n hx hb dX3_restart_46 rfl (lv_at hl 0 rfl) ?_
  refine lv_iconst (v := 0) hx hb dX3_restart_47 (by decide +kernel) ?_
  refine va_put (D := D) (ci := 3) (v := .int 0) (ty := .int) (C := RX3) (T := TX3) (N := 19) hx hb hts inX3 tyX3 tyX3_ok nmX3 hown hK hP hD hS 0 rfl rfl 5 (by decide) (hts _ wm_356) (fun _ h9 => h9) rfl (by decide +kernel) rfl rfl (Nat.le_of_ble_eq_true rfl) dX3_restart_48 (fun H locs hP hD hS => ?_)
  have hP : va_P D vwCl [(h0, .inr (3, [.ref h5, .ref h6, .ref h1, .int s0, .int 0, .int 0, .int 0, .int 0, .int 0, .int 0, .int 0, .int 0, .int 0, .int 0, .int 0, .int 0, .int 0, .int 0, .int 0])), (h1, .inr (1, [.ref g0, .ref g1, .ref h2, .ref g2, .ref g3, .ref g4, .ref g5, .int 4, .int 3, .int 0, .int (-1), .int 0])), (h2, .inr (2, [.ref h3, .ref h4])), (h3, .inr (4, [.ref h4, .ref g6])), (h4, .inr (6, [.ref g7, .int 3])), (h5, .inr (6, [.ref g8, .int 0])), (h6, .inr (6, [.ref g9, .int 0]))] H := hP
  have hD : va_D A [(h0, .inr (3, [.ref h5, .ref h6, .ref h1, .int s0, .int 0, .int 0, .int 0, .int 0, .int 0, .int 0, .int 0, .int 0, .int 0, .int 0, .int 0, .int 0, .int 0, .int 0, .int 0])), (h1, .inr (1, [.ref g0, .ref g1, .ref h2, .ref g2, .ref g3, .ref g4, .ref g5, .int 4, .int 3, .int 0, .int (-1), .int 0])), (h2, .inr (2, [.ref h3, .ref h4])), (h3, .inr (4, [.ref h4, .ref g6])), (h4, .inr (6, [.ref g7, .int 3])), (h5, .inr (6, [.ref g8, .int 0])), (h6, .inr (6, [.ref g9, .int 0]))] := hD
  refine lv_aload_n hx hb dX3_restart_51 rfl (lv_at hl 0 rfl) ?_
  refine pcn (b := 52) rfl ?_
  refine lv_iconst (v := (-1)) hx hb dX3_restart_52 (by decide +kernel) ?_
  refine va_put (D := D) (ci := 3) (v := .int (-1)) (ty := .int) (C := RX3) (T := TX3) (N := 19) hx hb hts inX3 tyX3 tyX3_ok nmX3 hown hK hP hD hS 0 rfl rfl 6 (by decide) (hts _ wm_357) (fun _ h9 => h9) rfl (by decide +kernel) rfl rfl (Nat.le_of_ble_eq_true rfl) dX3_restart_53 (fun H locs hP hD hS => ?_)
  have hP : va_P D vwCl [(h0, .inr (3, [.ref h5, .ref h6, .ref h1, .int s0, .int 0, .int 0, .int (-1), .int 0, .int 0, .int 0, .int 0, .int 0, .int 0, .int 0, .int 0, .int 0, .int 0, .int 0, .int 0])), (h1, .inr (1, [.ref g0, .ref g1, .ref h2, .ref g2, .ref g3, .ref g4, .ref g5, .int 4, .int 3, .int 0, .int (-1), .int 0])), (h2, .inr (2, [.ref h3, .ref h4])), (h3, .inr (4, [.ref h4, .ref g6])), (h4, .inr (6, [.ref g7, .int 3])), (h5, .inr (6, [.ref g8, .int 0])), (h6, .inr (6, [.ref g9, .int 0]))] H := hP
  have hD : va_D A [(h0, .inr (3, [.ref h5, .ref h6, .ref h1, .int s0, .int 0, .int 0, .int (-1), .int 0, .int 0, .int 0, .int 0, .int 0, .int 0, .int 0, .int 0, .int 0, .int 0, .int 0, .int 0])), (h1, .inr (1, [.ref g0, .ref g1, .ref h2, .ref g2, .ref g3, .ref g4, .ref g5, .int 4, .int 3, .int 0, .int (-1), .int 0])), (h2, .inr (2, [.ref h3, .ref h4])), (h3, .inr (4, [.ref h4, .ref g6])), (h4, .inr (6, [.ref g7, .int 3])), (h5, .inr (6, [.ref g8, .int 0])), (h6, .inr (6, [.ref g9, .int 0]))] := hD
  refine lv_aload_n hx hb dX3_restart_56 rfl (lv_at hl 0 rfl) ?_
  refine lv_iconst (v := (-1)) hx hb dX3_restart_57 (by decide +kernel) ?_
  refine va_put (D := D) (ci := 3) (v := .int (-1)) (ty := .int) (C := RX3) (T := TX3) (N := 19) hx hb hts inX3 tyX3 tyX3_ok nmX3 hown hK hP hD hS 0 rfl rfl 7 (by decide) (hts _ wm_358) (fun _ h9 => h9) rfl (by decide +kernel) rfl rfl (Nat.le_of_ble_eq_true rfl) dX3_restart_58 (fun H locs hP hD hS => ?_)
  have hP : va_P D vwCl [(h0, .inr (3, [.ref h5, .ref h6, .ref h1, .int s0, .int 0, .int 0, .int (-1), .int (-1), .int 0, .int 0, .int 0, .int 0, .int 0, .int 0, .int 0, .int 0, .int 0, .int 0, .int 0])), (h1, .inr (1, [.ref g0, .ref g1, .ref h2, .ref g2, .ref g3, .ref g4, .ref g5, .int 4, .int 3, .int 0, .int (-1), .int 0])), (h2, .inr (2, [.ref h3, .ref h4])), (h3, .inr (4, [.ref h4, .ref g6])), (h4, .inr (6, [.ref g7, .int 3])), (h5, .inr (6, [.ref g8, .int 0])), (h6, .inr (6, [.ref g9, .int 0]))] H := hP
  have hD : va_D A [(h0, .inr (3, [.ref h5, .ref h6, .ref h1, .int s0, .int 0, .int 0, .int (-1), .int (-1), .int 0, .int 0, .int 0, .int 0, .int 0, .int 0, .int 0, .int 0, .int 0, .int 0, .int 0])), (h1, .inr (1, [.ref g0, .ref g1, .ref h2, .ref g2, .ref g3, .ref g4, .ref g5, .int 4, .int 3, .int 0, .int (-1), .int 0])), (h2, .inr (2, [.ref h3, .ref h4])), (h3, .inr (4, [.ref h4, .ref g6])), (h4, .inr (6, [.ref g7, .int 3])), (h5, .inr (6, [.ref g8, .int 0])), (h6, .inr (6, [.ref g9, .int 0]))] := hD
  refine lv_aload_n hx hb dX3_restart_61 rfl (lv_at hl 0 rfl) ?_
  refine lv_iconst (v := (-1)) hx hb dX3_restart_62 (by decide +kernel) ?_
  refine va_put (D := D) (ci := 3) (v := .int (-1)) (ty := .int) (C := RX3) (T := TX3) (N := 19) hx hb hts inX3 tyX3 tyX3_ok nmX3 hown hK hP hD hS 0 rfl rfl 10 (by decide) (hts _ wm_361) (fun _ h9 => h9) rfl (by decide +kernel) rfl rfl (Nat.le_of_ble_eq_true rfl) dX3_restart_63 (fun H locs hP hD hS => ?_)
  have hP : va_P D vwCl [(h0, .inr (3, [.ref h5, .ref h6, .ref h1, .int s0, .int 0, .int 0, .int (-1), .int (-1), .int 0, .int 0, .int (-1), .int 0, .int 0, .int 0, .int 0, .int 0, .int 0, .int 0, .int 0])), (h1, .inr (1, [.ref g0, .ref g1, .ref h2, .ref g2, .ref g3, .ref g4, .ref g5, .int 4, .int 3, .int 0, .int (-1), .int 0])), (h2, .inr (2, [.ref h3, .ref h4])), (h3, .inr (4, [.ref h4, .ref g6])), (h4, .inr (6, [.ref g7, .int 3])), (h5, .inr (6, [.ref g8, .int 0])), (h6, .inr (6, [.ref g9, .int 0]))] H := hP
  have hD : va_D A [(h0, .inr (3, [.ref h5, .ref h6, .ref h1, .int s0, .int 0, .int 0, .int (-1), .int (-1), .int 0, .int 0, .int (-1), .int 0, .int 0, .int 0, .int 0, .int 0, .int 0, .int 0, .int 0])), (h1, .inr (1, [.ref g0, .ref g1, .ref h2, .ref g2, .ref g3, .ref g4, .ref g5, .int 4, .int 3, .int 0, .int (-1), .int 0])), (h2, .inr (2, [.ref h3, .ref h4])), (h3, .inr (4, [.ref h4, .ref g6])), (h4, .inr (6, [.ref g7, .int 3])), (h5, .inr (6, [.ref g8, .int 0])), (h6, .inr (6, [.ref g9, .int 0]))] := hD
  refine pcn (b := 66) rfl ?_
  refine lv_aload_n hx hb dX3_restart_66 rfl (lv_at hl 0 rfl) ?_
  refine lv_iconst (v := 0) hx hb dX3_restart_67 (by decide +kernel) ?_
  refine va_put (D := D) (ci := 3) (v := .int 0) (ty := .int) (C := RX3) (T := TX3) (N := 19) hx hb hts inX3 tyX3 tyX3_ok nmX3 hown hK hP hD hS 0 rfl rfl 11 (by decide) (hts _ wm_362) (fun _ h9 => h9) rfl (by decide +kernel) rfl rfl (Nat.le_of_ble_eq_true rfl) dX3_restart_68 (fun H locs hP hD hS => ?_)
  have hP : va_P D vwCl [(h0, .inr (3, [.ref h5, .ref h6, .ref h1, .int s0, .int 0, .int 0, .int (-1), .int (-1), .int 0, .int 0, .int (-1), .int 0, .int 0, .int 0, .int 0, .int 0, .int 0, .int 0, .int 0])), (h1, .inr (1, [.ref g0, .ref g1, .ref h2, .ref g2, .ref g3, .ref g4, .ref g5, .int 4, .int 3, .int 0, .int (-1), .int 0])), (h2, .inr (2, [.ref h3, .ref h4])), (h3, .inr (4, [.ref h4, .ref g6])), (h4, .inr (6, [.ref g7, .int 3])), (h5, .inr (6, [.ref g8, .int 0])), (h6, .inr (6, [.ref g9, .int 0]))] H := hP
  have hD : va_D A [(h0, .inr (3, [.ref h5, .ref h6, .ref h1, .int s0, .int 0, .int 0, .int (-1), .int (-1), .int 0, .int 0, .int (-1), .int 0, .int 0, .int 0, .int 0, .int 0, .int 0, .int 0, .int 0])), (h1, .inr (1, [.ref g0, .ref g1, .ref h2, .ref g2, .ref g3, .ref g4, .ref g5, .int 4, .int 3, .int 0, .int (-1), .int 0])), (h2, .inr (2, [.ref h3, .ref h4])), (h3, .inr (4, [.ref h4, .ref g6])), (h4, .inr (6, [.ref g7, .int 3])), (h5, .inr (6, [.ref g8, .int 0])), (h6, .inr (6, [.ref g9, .int 0]))] := hD
  refine lv_aload_n hx hb dX3_restart_71 rfl (lv_at hl 0 rfl) ?_
  refine lv_iconst (v := 0) hx hb dX3_restart_72 (by decide +kernel) ?_
  refine va_put (D := D) (ci := 3) (v := .int 0) (ty := .int) (C := RX3) (T := TX3) (N := 19) hx hb hts inX3 tyX3 tyX3_ok nmX3 hown hK hP hD hS 0 rfl rfl 12 (by decide) (hts _ wm_363) (fun _ h9 => h9) rfl (by decide +kernel) rfl rfl (Nat.le_of_ble_eq_true rfl) dX3_restart_73 (fun H locs hP hD hS => ?_)
  have hP : va_P D vwCl [(h0, .inr (3, [.ref h5, .ref h6, .ref h1, .int s0, .int 0, .int 0, .int (-1), .int (-1), .int 0, .int 0, .int (-1), .int 0, .int 0, .int 0, .int 0, .int 0, .int 0, .int 0, .int 0])), (h1, .inr (1, [.ref g0, .ref g1, .ref h2, .ref g2, .ref g3, .ref g4, .ref g5, .int 4, .int 3, .int 0, .int (-1), .int 0])), (h2, .inr (2, [.ref h3, .ref h4])), (h3, .inr (4, [.ref h4, .ref g6])), (h4, .inr (6, [.ref g7, .int 3])), (h5, .inr (6, [.ref g8, .int 0])), (h6, .inr (6, [.ref g9, .int 0]))] H := hP
  have hD : va_D A [(h0, .inr (3, [.ref h5, .ref h6, .ref h1, .int s0, .int 0, .int 0, .int (-1), .int (-1), .int 0, .int 0, .int (-1), .int 0, .int 0, .int 0, .int 0, .int 0, .int 0, .int 0, .int 0])), (h1, .inr (1, [.ref g0, .ref g1, .ref h2, .ref g2, .ref g3, .ref g4, .ref g5, .int 4, .int 3, .int 0, .int (-1), .int 0])), (h2, .inr (2, [.ref h3, .ref h4])), (h3, .inr (4, [.ref h4, .ref g6])), (h4, .inr (6, [.ref g7, .int 3])), (h5, .inr (6, [.ref g8, .int 0])), (h6, .inr (6, [.ref g9, .int 0]))] := hD
  refine lv_aload_n hx hb dX3_restart_76 rfl (lv_at hl 0 rfl) ?_
  refine lv_iconst (v := 0) hx hb dX3_restart_77 (by decide +kernel) ?_
  refine pcn (b := 78) rfl ?_
  refine va_put (D := D) (ci := 3) (v := .int 0) (ty := .int) (C := RX3) (T := TX3) (N := 19) hx hb hts inX3 tyX3 tyX3_ok nmX3 hown hK hP hD hS 0 rfl rfl 13 (by decide) (hts _ wm_364) (fun _ h9 => h9) rfl (by decide +kernel) rfl rfl (Nat.le_of_ble_eq_true rfl) dX3_restart_78 (fun H locs hP hD hS => ?_)
  have hP : va_P D vwCl [(h0, .inr (3, [.ref h5, .ref h6, .ref h1, .int s0, .int 0, .int 0, .int (-1), .int (-1), .int 0, .int 0, .int (-1), .int 0, .int 0, .int 0, .int 0, .int 0, .int 0, .int 0, .int 0])), (h1, .inr (1, [.ref g0, .ref g1, .ref h2, .ref g2, .ref g3, .ref g4, .ref g5, .int 4, .int 3, .int 0, .int (-1), .int 0])), (h2, .inr (2, [.ref h3, .ref h4])), (h3, .inr (4, [.ref h4, .ref g6])), (h4, .inr (6, [.ref g7, .int 3])), (h5, .inr (6, [.ref g8, .int 0])), (h6, .inr (6, [.ref g9, .int 0]))] H := hP
  have hD : va_D A [(h0, .inr (3, [.ref h5, .ref h6, .ref h1, .int s0, .int 0, .int 0, .int (-1), .int (-1), .int 0, .int 0, .int (-1), .int 0, .int 0, .int 0, .int 0, .int 0, .int 0, .int 0, .int 0])), (h1, .inr (1, [.ref g0, .ref g1, .ref h2, .ref g2, .ref g3, .ref g4, .ref g5, .int 4, .int 3, .int 0, .int (-1), .int 0])), (h2, .inr (2, [.ref h3, .ref h4])), (h3, .inr (4, [.ref h4, .ref g6])), (h4, .inr (6, [.ref g7, .int 3])), (h5, .inr (6, [.ref g8, .int 0])), (h6, .inr (6, [.ref g9, .int 0]))] := hD
  refine lv_aload_n hx hb dX3_restart_81 rfl (lv_at hl 0 rfl) ?_
  refine lv_iconst (v := 0) hx hb dX3_restart_82 (by decide +kernel) ?_
  refine va_put (D := D) (ci := 3) (v := .int 0) (ty := .int) (C := RX3) (T := TX3) (N := 19) hx hb hts inX3 tyX3 tyX3_ok nmX3 hown hK hP hD hS 0 rfl rfl 14 (by decide) (hts _ wm_365) (fun _ h9 => h9) rfl (by decide +kernel) rfl rfl (Nat.le_of_ble_eq_true rfl) dX3_restart_83 (fun H locs hP hD hS => ?_)
  have hP : va_P D vwCl [(h0, .inr (3, [.ref h5, .ref h6, .ref h1, .int s0, .int 0, .int 0, .int (-1), .int (-1), .int 0, .int 0, .int (-1), .int 0, .int 0, .int 0, .int 0, .int 0, .int 0, .int 0, .int 0])), (h1, .inr (1, [.ref g0, .ref g1, .ref h2, .ref g2, .ref g3, .ref g4, .ref g5, .int 4, .int 3, .int 0, .int (-1), .int 0])), (h2, .inr (2, [.ref h3, .ref h4])), (h3, .inr (4, [.ref h4, .ref g6])), (h4, .inr (6, [.ref g7, .int 3])), (h5, .inr (6, [.ref g8, .int 0])), (h6, .inr (6, [.ref g9, .int 0]))] H := hP
  have hD : va_D A [(h0, .inr (3, [.ref h5, .ref h6, .ref h1, .int s0, .int 0, .int 0, .int (-1), .int (-1), .int 0, .int 0, .int (-1), .int 0, .int 0, .int 0, .int 0, .int 0, .int 0, .int 0, .int 0])), (h1, .inr (1, [.ref g0, .ref g1, .ref h2, .ref g2, .ref g3, .ref g4, .ref g5, .int 4, .int 3, .int 0, .int (-1), .int 0])), (h2, .inr (2, [.ref h3, .ref h4])), (h3, .inr (4, [.ref h4, .ref g6])), (h4, .inr (6, [.ref g7, .int 3])), (h5, .inr (6, [.ref g8, .int 0])), (h6, .inr (6, [.ref g9, .int 0]))] := hD
  refine lv_aload_n hx hb dX3_restart_86 rfl (lv_at hl 0 rfl) ?_
  refine lv_iconst (v := 0) hx hb dX3_restart_87 (by decide +kernel) ?_
  refine va_put (D := D) (ci := 3) (v := .int 0) (ty := .int) (C := RX3) (T := TX3) (N := 19) hx hb hts inX3 tyX3 tyX3_ok nmX3 hown hK hP hD hS 0 rfl rfl 15 (by decide) (hts _ wm_366) (fun _ h9 => h9) rfl (by decide +kernel) rfl rfl (Nat.le_of_ble_eq_true rfl) dX3_restart_88 (fun H locs hP hD hS => ?_)
  have hP : va_P D vwCl [(h0, .inr (3, [.ref h5, .ref h6, .ref h1, .int s0, .int 0, .int 0, .int (-1), .int (-1), .int 0, .int 0, .int (-1), .int 0, .int 0, .int 0, .int 0, .int 0, .int 0, .int 0, .int 0])), (h1, .inr (1, [.ref g0, .ref g1, .ref h2, .ref g2, .ref g3, .ref g4, .ref g5, .int 4, .int 3, .int 0, .int (-1), .int 0])), (h2, .inr (2, [.ref h3, .ref h4])), (h3, .inr (4, [.ref h4, .ref g6])), (h4, .inr (6, [.ref g7, .int 3])), (h5, .inr (6, [.ref g8, .int 0])), (h6, .inr (6, [.ref g9, .int 0]))] H := hP
  have hD : va_D A [(h0, .inr (3, [.ref h5, .ref h6, .ref h1, .int s0, .int 0, .int 0, .int (-1), .int (-1), .int 0, .int 0, .int (-1), .int 0, .int 0, .int 0, .int 0, .int 0, .int 0, .int 0, .int 0])), (h1, .inr (1, [.ref g0, .ref g1, .ref h2, .ref g2, .ref g3, .ref g4, .ref g5, .int 4, .int 3, .int 0, .int (-1), .int 0])), (h2, .inr (2, [.ref h3, .ref h4])), (h3, .inr (4, [.ref h4, .ref g6])), (h4, .inr (6, [.ref g7, .int 3])), (h5, .inr (6, [.ref g8, .int 0])), (h6, .inr (6, [.ref g9, .int 0]))] := hD
  refine lv_aload_n hx hb dX3_restart_91 rfl (lv_at hl 0 rfl) ?_
  refine pcn (b := 92) rfl ?_
  refine lv_iconst (v := 0) hx hb dX3_restart_92 (by decide +kernel) ?_
  refine va_put (D := D) (ci := 3) (v := .int 0) (ty := .int) (C := RX3) (T := TX3) (N := 19) hx hb hts inX3 tyX3 tyX3_ok nmX3 hown hK hP hD hS 0 rfl rfl 16 (by decide) (hts _ wm_367) (fun _ h9 => h9) rfl (by decide +kernel) rfl rfl (Nat.le_of_ble_eq_true rfl) dX3_restart_93 (fun H locs hP hD hS => ?_)
  have hP : va_P D vwCl [(h0, .inr (3, [.ref h5, .ref h6, .ref h1, .int s0, .int 0, .int 0, .int (-1), .int (-1), .int 0, .int 0, .int (-1), .int 0, .int 0, .int 0, .int 0, .int 0, .int 0, .int 0, .int 0])), (h1, .inr (1, [.ref g0, .ref g1, .ref h2, .ref g2, .ref g3, .ref g4, .ref g5, .int 4, .int 3, .int 0, .int (-1), .int 0])), (h2, .inr (2, [.ref h3, .ref h4])), (h3, .inr (4, [.ref h4, .ref g6])), (h4, .inr (6, [.ref g7, .int 3])), (h5, .inr (6, [.ref g8, .int 0])), (h6, .inr (6, [.ref g9, .int 0]))] H := hP
  have hD : va_D A [(h0, .inr (3, [.ref h5, .ref h6, .ref h1, .int s0, .int 0, .int 0, .int (-1), .int (-1), .int 0, .int 0, .int (-1), .int 0, .int 0, .int 0, .int 0, .int 0, .int 0, .int 0, .int 0])), (h1, .inr (1, [.ref g0, .ref g1, .ref h2, .ref g2, .ref g3, .ref g4, .ref g5, .int 4, .int 3, .int 0, .int (-1), .int 0])), (h2, .inr (2, [.ref h3, .ref h4])), (h3, .inr (4, [.ref h4, .ref g6])), (h4, .inr (6, [.ref g7, .int 3])), (h5, .inr (6, [.ref g8, .int 0])), (h6, .inr (6, [.ref g9, .int 0]))] := hD
  refine lv_aload_n hx hb dX3_restart_96 rfl (lv_at hl 0 rfl) ?_
  refine lv_iconst (v := 0) hx hb dX3_restart_97 (by decide +kernel) ?_
  refine va_put (D := D) (ci := 3) (v := .int 0) (ty := .int) (C := RX3) (T := TX3) (N := 19) hx hb hts inX3 tyX3 tyX3_ok nmX3 hown hK hP hD hS 0 rfl rfl 17 (by decide) (hts _ wm_368) (fun _ h9 => h9) rfl (by decide +kernel) rfl rfl (Nat.le_of_ble_eq_true rfl) dX3_restart_98 (fun H locs hP hD hS => ?_)
  have hP : va_P D vwCl [(h0, .inr (3, [.ref h5, .ref h6, .ref h1, .int s0, .int 0, .int 0, .int (-1), .int (-1), .int 0, .int 0, .int (-1), .int 0, .int 0, .int 0, .int 0, .int 0, .int 0, .int 0, .int 0])), (h1, .inr (1, [.ref g0, .ref g1, .ref h2, .ref g2, .ref g3, .ref g4, .ref g5, .int 4, .int 3, .int 0, .int (-1), .int 0])), (h2, .inr (2, [.ref h3, .ref h4])), (h3, .inr (4, [.ref h4, .ref g6])), (h4, .inr (6, [.ref g7, .int 3])), (h5, .inr (6, [.ref g8, .int 0])), (h6, .inr (6, [.ref g9, .int 0]))] H := hP
  have hD : va_D A [(h0, .inr (3, [.ref h5, .ref h6, .ref h1, .int s0, .int 0, .int 0, .int (-1), .int (-1), .int 0, .int 0, .int (-1), .int 0, .int 0, .int 0, .int 0, .int 0, .int 0, .int 0, .int 0])), (h1, .inr (1, [.ref g0, .ref g1, .ref h2, .ref g2, .ref g3, .ref g4, .ref g5, .int 4, .int 3, .int 0, .int (-1), .int 0])), (h2, .inr (2, [.ref h3, .ref h4])), (h3, .inr (4, [.ref h4, .ref g6])), (h4, .inr (6, [.ref g7, .int 3])), (h5, .inr (6, [.ref g8, .int 0])), (h6, .inr (6, [.ref g9, .int 0]))] := hD
  refine lv_aload_n hx hb dX3_restart_101 rfl (lv_at hl 0 rfl) ?_
  refine lv_iconst (v := 0) hx hb dX3_restart_102 (by decide +kernel) ?_
  refine va_put (D := D) (ci := 3) (v := .int 0) (ty := .int) (C := RX3) (T := TX3) (N := 19) hx hb hts inX3 tyX3 tyX3_ok nmX3 hown hK hP hD hS 0 rfl rfl 18 (by decide) (hts _ wm_369) (fun _ h9 => h9) rfl (by decide +kernel) rfl rfl (Nat.le_of_ble_eq_true rfl) dX3_restart_103 (fun H locs hP hD hS => ?_)
  have hP : va_P D vwCl [(h0, .inr (3, [.ref h5, .ref h6, .ref h1, .int s0, .int 0, .int 0, .int (-1), .int (-1), .int 0, .int 0, .int (-1), .int 0, .int 0, .int 0, .int 0, .int 0, .int 0, .int 0, .int 0])), (h1, .inr (1, [.ref g0, .ref g1, .ref h2, .ref g2, .ref g3, .ref g4, .ref g5, .int 4, .int 3, .int 0, .int (-1), .int 0])), (h2, .inr (2, [.ref h3, .ref h4])), (h3, .inr (4, [.ref h4, .ref g6])), (h4, .inr (6, [.ref g7, .int 3])), (h5, .inr (6, [.ref g8, .int 0])), (h6, .inr (6, [.ref g9, .int 0]))] H := hP
  have hD : va_D A [(h0, .inr (3, [.ref h5, .ref h6, .ref h1, .int s0, .int 0, .int 0, .int (-1), .int (-1), .int 0, .int 0, .int (-1), .int 0, .int 0, .int 0, .int 0, .int 0, .int 0, .int 0, .int 0])), (h1, .inr (1, [.ref g0, .ref g1, .ref h2, .ref g2, .ref g3, .ref g4, .ref g5, .int 4, .int 3, .int 0, .int (-1), .int 0])), (h2, .inr (2, [.ref h3, .ref h4])), (h3, .inr (4, [.ref h4, .ref g6])), (h4, .inr (6, [.ref g7, .int 3])), (h5, .inr (6, [.ref g8, .int 0])), (h6, .inr (6, [.ref g9, .int 0]))] := hD
  refine W.widen (k := 0) (n := 0) (Nat.le_of_ble_eq_true rfl) (Nat.le_of_ble_eq_true rfl) ?_
  exact rtV hx hb hr hlocks hS hP hD rfl dX3_restart_106

set_option maxHeartbeats 4000000 in
set_option maxRecDepth 100000 in
theorem c_X3_rests_0 (l : Launch) (D : va_G) (cI cZ cB cJ : ClassId) (h0 g0 g1 g2 : Nat) (s0 : Int32) : CtI l D (TT cI cZ cB cJ) yX3_rests cX3_rests 1 (some .boolean) 0 0 0 0 [.ref h0] [(h0, .inr (3, [.ref g0, .ref g1, .ref g2, .int s0, .int 0, .int 0, .int (-1), .int (-1), .int 0, .int 0, .int (-1), .int 0, .int 0, .int 0, .int 0, .int 0, .int 0, .int 0, .int 0]))] (fun r w1 => r = 0 ∧ w1 = [(h0, .inr (3, [.ref g0, .ref g1, .ref g2, .int s0, .int 0, .int 0, .int (-1), .int (-1), .int 0, .int 0, .int (-1), .int 0, .int 0, .int 0, .int 0, .int 0, .int 0, .int 0, .int 0]))]) := by
  refine CtI.of (by decide +kernel) (Nat.le_of_ble_eq_true rfl) ?_
  intro p e s m below meth c A ls hx hb hr hml hown hts hnw hlocks hin hA hS hP hK hD hl
  have hown : s.vm.findClass RX3 = some m.cls := hown
  have hl : lv_has ls 1 [(0, .ref h0)] := hl
  refine lv_aload_n hx hb dX3_rests_0 rfl (lv_at hl 0 rfl) ?_
  refine va_get (D := D) (ci := 3) (v := .int 0) (C := RX3) (T := TX3) (N := 19) hx hb hts inX3 hown hK hP 0 rfl rfl 4 (by decide) (hts _ wm_355) (fun _ h9 => h9) rfl dX3_rests_1 ?_
  refine lv_iconst (v := 2) hx hb dX3_rests_4 (by decide +kernel) ?_
  refine lv_icmp_eq (tgt := 34) hx hb dX3_rests_5 (by decide) (fun h9 => absurd h9 (by decide +kernel)) (fun _ => ?_)
  refine lv_aload_n hx hb dX3_rests_8 rfl (lv_at hl 0 rfl) ?_
  refine va_get (D := D) (ci := 3) (v := .int 0) (C := RX3) (T := TX3) (N := 19) hx hb hts inX3 hown hK hP 0 rfl rfl 4 (by decide) (hts _ wm_355) (fun _ h9 => h9) rfl dX3_rests_9 ?_
  refine lv_iconst (v := 3) hx hb dX3_rests_12 (by decide +kernel) ?_
  refine pcn (b := 13) rfl ?_
  refine lv_icmp_eq (tgt := 34) hx hb dX3_rests_13 (by decide) (fun h9 => absurd h9 (by decide +kernel)) (fun _ => ?_)
  refine lv_aload_n hx hb dX3_rests_16 rfl (lv_at hl 0 rfl) ?_
  refine va_get (D := D) (ci := 3) (v := .int 0) (C := RX3) (T := TX3) (N := 19) hx hb hts inX3 hown hK hP 0 rfl rfl 4 (by decide) (hts _ wm_355) (fun _ h9 => h9) rfl dX3_rests_17 ?_
  refine lv_iconst (v := 1) hx hb dX3_rests_20 (by decide +kernel) ?_
  refine lv_icmp_ne (tgt := 38) hx hb dX3_rests_21 (by decide) (fun _ => ?_) (fun h9 => absurd h9 (by decide +kernel))
  refine lv_iconst (v := 0) hx hb dX3_rests_38 (by decide +kernel) ?_
  refine W.widen (k := 0) (n := 0) (Nat.le_of_ble_eq_true rfl) (Nat.le_of_ble_eq_true rfl) ?_
  exact rtZ hx hb hr rfl hlocks hS hP hD ⟨rfl, rfl⟩ dX3_rests_39

set_option maxHeartbeats 4000000 in
set_option maxRecDepth 100000 in
theorem c_X3_give_0 (l : Launch) (D : va_G) (cI cZ cB cJ : ClassId) (h0 g0 g1 g2 : Nat) (s0 : Int32) : CtV l D (TT cI cZ cB cJ) yX3_give cX3_give 4 none 0 0 0 0 [.ref h0, .int 1, .int 0, .int (-1)] [(h0, .inr (3, [.ref g0, .ref g1, .ref g2, .int s0, .int 0, .int 0, .int (-1), .int (-1), .int 0, .int 0, .int (-1), .int 0, .int 1, .int 0, .int 0, .int 0, .int 0, .int 0, .int 0]))] (fun w1 => w1 = [(h0, .inr (3, [.ref g0, .ref g1, .ref g2, .int s0, .int 1, .int 0, .int (-1), .int 1, .int 0, .int (-1), .int (-1), .int 0, .int 1, .int 0, .int 0, .int 0, .int 0, .int 0, .int 0]))]) := by
  refine CtV.of (by decide +kernel) (Nat.le_of_ble_eq_true rfl) ?_
  intro p e s m below meth c A ls hx hb hr hml hown hts hnw hlocks hin hA hS hP hK hD hl
  have hown : s.vm.findClass RX3 = some m.cls := hown
  have hl : lv_has ls 4 [(0, .ref h0), (1, .int 1), (2, .int 0), (3, .int (-1))] := hl
  refine lv_aload_n hx hb dX3_give_0 rfl (lv_at hl 0 rfl) ?_
  refine lv_iload_n hx hb dX3_give_1 rfl (lv_at hl 1 rfl) ?_
  refine va_put (D := D) (ci := 3) (v := .int 1) (ty := .int) (C := RX3) (T := TX3) (N := 19) hx hb hts inX3 tyX3 tyX3_ok nmX3 hown hK hP hD hS 0 rfl rfl 7 (by decide) (hts _ wm_358) (fun _ h9 => h9) rfl (by decide +kernel) rfl rfl (Nat.le_of_ble_eq_true rfl) dX3_give_2 (fun H locs hP hD hS => ?_)
  have hP : va_P D vwCl [(h0, .inr (3, [.ref g0, .ref g1, .ref g2, .int s0, .int 0, .int 0, .int (-1), .int 1, .int 0, .int 0, .int (-1), .int 0, .int 1, .int 0, .int 0, .int 0, .int 0, .int 0, .int 0]))] H := hP
  have hD : va_D A [(h0, .inr (3, [.ref g0, .ref g1, .ref g2, .int s0, .int 0, .int 0, .int (-1), .int 1, .int 0, .int 0, .int (-1), .int 0, .int 1, .int 0, .int 0, .int 0, .int 0, .int 0, .int 0]))] := hD
  refine lv_aload_n hx hb dX3_give_5 rfl (lv_at hl 0 rfl) ?_
  refine lv_iload_n hx hb dX3_give_6 rfl (lv_at hl 2 rfl) ?_
  refine va_put (D := D) (ci := 3) (v := .int 0) (ty := .int) (C := RX3) (T := TX3) (N := 19) hx hb hts inX3 tyX3 tyX3_ok nmX3 hown hK hP hD hS 0 rfl rfl 8 (by decide) (hts _ wm_359) (fun _ h9 => h9) rfl (by decide +kernel) rfl rfl (Nat.le_of_ble_eq_true rfl) dX3_give_7 (fun H locs hP hD hS => ?_)
  have hP : va_P D vwCl [(h0, .inr (3, [.ref g0, .ref g1, .ref g2, .int s0, .int 0, .int 0, .int (-1), .int 1, .int 0, .int 0, .int (-1), .int 0, .int 1, .int 0, .int 0, .int 0, .int 0, .int 0, .int 0]))] H := hP
  have hD : va_D A [(h0, .inr (3, [.ref g0, .ref g1, .ref g2, .int s0, .int 0, .int 0, .int (-1), .int 1, .int 0, .int 0, .int (-1), .int 0, .int 1, .int 0, .int 0, .int 0, .int 0, .int 0, .int 0]))] := hD
  refine lv_aload_n hx hb dX3_give_10 rfl (lv_at hl 0 rfl) ?_
  refine pcn (b := 11) rfl ?_
  refine lv_iload_n hx hb dX3_give_11 rfl (lv_at hl 3 rfl) ?_
  refine va_put (D := D) (ci := 3) (v := .int (-1)) (ty := .int) (C := RX3) (T := TX3) (N := 19) hx hb hts inX3 tyX3 tyX3_ok nmX3 hown hK hP hD hS 0 rfl rfl 9 (by decide) (hts _ wm_360) (fun _ h9 => h9) rfl (by decide +kernel) rfl rfl (Nat.le_of_ble_eq_true rfl) dX3_give_12 (fun H locs hP hD hS => ?_)
  have hP : va_P D vwCl [(h0, .inr (3, [.ref g0, .ref g1, .ref g2, .int s0, .int 0, .int 0, .int (-1), .int 1, .int 0, .int (-1), .int (-1), .int 0, .int 1, .int 0, .int 0, .int 0, .int 0, .int 0, .int 0]))] H := hP
  have hD : va_D A [(h0, .inr (3, [.ref g0, .ref g1, .ref g2, .int s0, .int 0, .int 0, .int (-1), .int 1, .int 0, .int (-1), .int (-1), .int 0, .int 1, .int 0, .int 0, .int 0, .int 0, .int 0, .int 0]))] := hD
  refine lv_aload_n hx hb dX3_give_15 rfl (lv_at hl 0 rfl) ?_
  refine lv_iconst (v := (-1)) hx hb dX3_give_16 (by decide +kernel) ?_
  refine va_put (D := D) (ci := 3) (v := .int (-1)) (ty := .int) (C := RX3) (T := TX3) (N := 19) hx hb hts inX3 tyX3 tyX3_ok nmX3 hown hK hP hD hS 0 rfl rfl 10 (by decide) (hts _ wm_361) (fun _ h9 => h9) rfl (by decide +kernel) rfl rfl (Nat.le_of_ble_eq_true rfl) dX3_give_17 (fun H locs hP hD hS => ?_)
  have hP : va_P D vwCl [(h0, .inr (3, [.ref g0, .ref g1, .ref g2, .int s0, .int 0, .int 0, .int (-1), .int 1, .int 0, .int (-1), .int (-1), .int 0, .int 1, .int 0, .int 0, .int 0, .int 0, .int 0, .int 0]))] H := hP
  have hD : va_D A [(h0, .inr (3, [.ref g0, .ref g1, .ref g2, .int s0, .int 0, .int 0, .int (-1), .int 1, .int 0, .int (-1), .int (-1), .int 0, .int 1, .int 0, .int 0, .int 0, .int 0, .int 0, .int 0]))] := hD
  refine lv_aload_n hx hb dX3_give_20 rfl (lv_at hl 0 rfl) ?_
  refine lv_iconst (v := 1) hx hb dX3_give_21 (by decide +kernel) ?_
  refine va_put (D := D) (ci := 3) (v := .int 1) (ty := .int) (C := RX3) (T := TX3) (N := 19) hx hb hts inX3 tyX3 tyX3_ok nmX3 hown hK hP hD hS 0 rfl rfl 4 (by decide) (hts _ wm_355) (fun _ h9 => h9) rfl (by decide +kernel) rfl rfl (Nat.le_of_ble_eq_true rfl) dX3_give_22 (fun H locs hP hD hS => ?_)
  have hP : va_P D vwCl [(h0, .inr (3, [.ref g0, .ref g1, .ref g2, .int s0, .int 1, .int 0, .int (-1), .int 1, .int 0, .int (-1), .int (-1), .int 0, .int 1, .int 0, .int 0, .int 0, .int 0, .int 0, .int 0]))] H := hP
  have hD : va_D A [(h0, .inr (3, [.ref g0, .ref g1, .ref g2, .int s0, .int 1, .int 0, .int (-1), .int 1, .int 0, .int (-1), .int (-1), .int 0, .int 1, .int 0, .int 0, .int 0, .int 0, .int 0, .int 0]))] := hD
  refine W.widen (k := 0) (n := 0) (Nat.le_of_ble_eq_true rfl) (Nat.le_of_ble_eq_true rfl) ?_
  exact rtV hx hb hr hlocks hS hP hD rfl dX3_give_25

set_option maxHeartbeats 4000000 in
set_option maxRecDepth 100000 in
theorem c_X3_begin_0 (l : Launch) (D : va_G) (cI cZ cB cJ : ClassId) (h0 h1 h2 h3 h4 g0 g1 g2 g3 g4 g5 g6 g7 g8 g9 g10 g11 g12 g13 g14 : Nat) (s0 : Int32) : CtV l D (TT cI cZ cB cJ) yX3_begin cX3_begin 3 none 1 23 0 0 [.ref h0] [(h0, .inr (3, [.ref g0, .ref g1, .ref h1, .int s0, .int 0, .int 0, .int (-1), .int (-1), .int 0, .int 0, .int (-1), .int 0, .int 1, .int 0, .int 0, .int 0, .int 0, .int 0, .int 0])), (h1, .inr (1, [.ref h2, .ref g2, .ref g3, .ref g4, .ref g5, .ref g6, .ref g7, .int 4, .int 3, .int 0, .int (-1), .int 0])), (h2, .inr (7, [.ref h4, .ref g8, .ref g9, .ref h3, .ref g10, .ref g11, .ref g12, .ref g13, .ref g14, .int 1, .int 1, .int 0])), (h3, .inl (cI, 60, .inl (fun _ => 0))), (h4, .inl (cI, 60, .inl (fun _ => 0)))] (fun w1 => w1 = [(h0, .inr (3, [.ref g0, .ref g1, .ref h1, .int s0, .int 1, .int 0, .int (-1), .int 1, .int 0, .int (-1), .int (-1), .int 0, .int 1, .int 0, .int 0, .int 0, .int 0, .int 0, .int 0])), (h1, .inr (1, [.ref h2, .ref g2, .ref g3, .ref g4, .ref g5, .ref g6, .ref g7, .int 4, .int 3, .int 0, .int (-1), .int 0])), (h2, .inr (7, [.ref h4, .ref g8, .ref g9, .ref h3, .ref g10, .ref g11, .ref g12, .ref g13, .ref g14, .int 1, .int 1, .int 0])), (h3, .inl (cI, 60, .inl (fun _ => 0))), (h4, .inl (cI, 60, .inl (fun _ => 0)))]) := by
  refine CtV.of (by decide +kernel) (Nat.le_of_ble_eq_true rfl) ?_
  intro p e s m below meth c A ls hx hb hr hml hown hts hnw hlocks hin hA hS hP hK hD hl
  have hown : s.vm.findClass RX3 = some m.cls := hown
  have hl : lv_has ls 3 [(0, .ref h0)] := hl
  refine lv_aload_n hx hb dX3_begin_0 rfl (lv_at hl 0 rfl) ?_
  refine va_get (D := D) (ci := 3) (v := .ref h1) (C := RX3) (T := TX3) (N := 19) hx hb hts inX3 hown hK hP 0 rfl rfl 2 (by decide) (hts _ wm_353) (fun _ h9 => h9) rfl dX3_begin_1 ?_
  refine va_getN (D := D) (ci := 1) (v := .ref h2) (C := RX1) (T := TX1) (N := 12) hx hb hts inX1 hown hK hP 1 rfl rfl 0 (by decide) (va_Nw.use rfl (hnw _ wn_276)) (fun _ h9 => h9) rfl dX3_begin_4 ?_
  refine va_getN (D := D) (ci := 7) (v := .ref h3) (C := RX7) (T := TX7) (N := 12) hx hb hts inX7 hown hK hP 2 rfl rfl 3 (by decide) (va_Nw.use rfl (hnw _ wn_84)) (fun _ h9 => h9) rfl dX3_begin_7 ?_
  refine lv_aload_n hx hb dX3_begin_10 rfl (lv_at hl 0 rfl) ?_
  refine va_get (D := D) (ci := 3) (v := .int 0) (C := RX3) (T := TX3) (N := 19) hx hb hts inX3 hown hK hP 0 rfl rfl 5 (by decide) (hts _ wm_356) (fun _ h9 => h9) rfl dX3_begin_11 ?_
  refine kSNi (As := [.ref h3, .int 0]) (rest := []) (wr := [(h0, .inr (3, [.ref g0, .ref g1, .ref h1, .int s0, .int 0, .int 0, .int (-1), .int (-1), .int 0, .int 0, .int (-1), .int 0, .int 1, .int 0, .int 0, .int 0, .int 0, .int 0, .int 0])), (h1, .inr (1, [.ref h2, .ref g2, .ref g3, .ref g4, .ref g5, .ref g6, .ref g7, .int 4, .int 3, .int 0, .int (-1), .int 0])), (h2, .inr (7, [.ref h4, .ref g8, .ref g9, .ref h3, .ref g10, .ref g11, .ref g12, .ref g13, .ref g14, .int 1, .int 1, .int 0])), (h4, .inl (cI, 60, .inl (fun _ => 0)))]) hx hb hml hown hts hnw hK hP hD hS hA hl.1 (c_X11_at_4 l D cI cZ cB cJ h3) yk_X11_at wn_1133 [3] [0, 1, 2, 4] rfl rfl (by decide) (by decide) (by decide) rfl rfl dX3_begin_14 ⟨Nat.le_of_ble_eq_true rfl, Nat.le_of_ble_eq_true rfl⟩ ⟨Nat.le_of_ble_eq_true rfl, Nat.le_of_ble_eq_true rfl⟩ (Nat.le_of_ble_eq_true rfl) (fun r9 w1 H locs hq9 hP hD hS => ?_)
  obtain ⟨rfl, rfl⟩ := hq9
  have hP : va_P D vwCl [(h0, .inr (3, [.ref g0, .ref g1, .ref h1, .int s0, .int 0, .int 0, .int (-1), .int (-1), .int 0, .int 0, .int (-1), .int 0, .int 1, .int 0, .int 0, .int 0, .int 0, .int 0, .int 0])), (h1, .inr (1, [.ref h2, .ref g2, .ref g3, .ref g4, .ref g5, .ref g6, .ref g7, .int 4, .int 3, .int 0, .int (-1), .int 0])), (h2, .inr (7, [.ref h4, .ref g8, .ref g9, .ref h3, .ref g10, .ref g11, .ref g12, .ref g13, .ref g14, .int 1, .int 1, .int 0])), (h4, .inl (cI, 60, .inl (fun _ => 0))), (h3, .inl (cI, 60, .inl (fun _ => 0)))] H := hP
  have hD : va_D A [(h0, .inr (3, [.ref g0, .ref g1, .ref h1, .int s0, .int 0, .int 0, .int (-1), .int (-1), .int 0, .int 0, .int (-1), .int 0, .int 1, .int 0, .int 0, .int 0, .int 0, .int 0, .int 0])), (h1, .inr (1, [.ref h2, .ref g2, .ref g3, .ref g4, .ref g5, .ref g6, .ref g7, .int 4, .int 3, .int 0, .int (-1), .int 0])), (h2, .inr (7, [.ref h4, .ref g8, .ref g9, .ref h3, .ref g10, .ref g11, .ref g12, .ref g13, .ref g14, .int 1, .int 1, .int 0])), (h4, .inl (cI, 60, .inl (fun _ => 0))), (h3, .inl (cI, 60, .inl (fun _ => 0)))] := hD
  refine W.widen (k := 0) (n := 0) (Nat.le_of_ble_eq_true rfl) (Nat.le_of_ble_eq_true rfl) ?_
  refine pcn (b := 17) rfl ?_
  refine lv_istore_n (lv' := [(1, .int 0), (0, .ref h0)]) hx hb dX3_begin_17 rfl hl (by decide) rfl (fun ls hl => ?_)
  refine lv_aload_n hx hb dX3_begin_18 rfl (lv_at hl 1 rfl) ?_
  refine va_get (D := D) (ci := 3) (v := .int 0) (C := RX3) (T := TX3) (N := 19) hx hb hts inX3 hown hK hP 0 rfl rfl 5 (by decide) (hts _ wm_356) (fun _ h9 => h9) rfl dX3_begin_19 ?_
  refine lv_istore_n (lv' := [(2, .int 0), (1, .int 0), (0, .ref h0)]) hx hb dX3_begin_22 rfl hl (by decide) rfl (fun ls hl => ?_)
  refine lv_aload_n hx hb dX3_begin_23 rfl (lv_at hl 2 rfl) ?_
  refine va_get (D := D) (ci := 3) (v := .ref h1) (C := RX3) (T := TX3) (N := 19) hx hb hts inX3 hown hK hP 0 rfl rfl 2 (by decide) (hts _ wm_353) (fun _ h9 => h9) rfl dX3_begin_24 ?_
  refine va_getN (D := D) (ci := 1) (v := .ref h2) (C := RX1) (T := TX1) (N := 12) hx hb hts inX1 hown hK hP 1 rfl rfl 0 (by decide) (va_Nw.use rfl (hnw _ wn_276)) (fun _ h9 => h9) rfl dX3_begin_27 ?_
  refine pcn (b := 30) rfl ?_
  refine va_getN (D := D) (ci := 7) (v := .ref h4) (C := RX7) (T := TX7) (N := 12) hx hb hts inX7 hown hK hP 2 rfl rfl 0 (by decide) (va_Nw.use rfl (hnw _ wn_76)) (fun _ h9 => h9) rfl dX3_begin_30 ?_
  refine lv_aload_n hx hb dX3_begin_33 rfl (lv_at hl 2 rfl) ?_
  refine va_get (D := D) (ci := 3) (v := .int 0) (C := RX3) (T := TX3) (N := 19) hx hb hts inX3 hown hK hP 0 rfl rfl 5 (by decide) (hts _ wm_356) (fun _ h9 => h9) rfl dX3_begin_34 ?_
  refine kSNi (As := [.ref h4, .int 0]) (rest := []) (wr := [(h0, .inr (3, [.ref g0, .ref g1, .ref h1, .int s0, .int 0, .int 0, .int (-1), .int (-1), .int 0, .int 0, .int (-1), .int 0, .int 1, .int 0, .int 0, .int 0, .int 0, .int 0, .int 0])), (h1, .inr (1, [.ref h2, .ref g2, .ref g3, .ref g4, .ref g5, .ref g6, .ref g7, .int 4, .int 3, .int 0, .int (-1), .int 0])), (h2, .inr (7, [.ref h4, .ref g8, .ref g9, .ref h3, .ref g10, .ref g11, .ref g12, .ref g13, .ref g14, .int 1, .int 1, .int 0])), (h3, .inl (cI, 60, .inl (fun _ => 0)))]) hx hb hml hown hts hnw hK hP hD hS hA hl.1 (c_X11_at_4 l D cI cZ cB cJ h4) yk_X11_at wn_1133 [3] [0, 1, 2, 4] rfl rfl (by decide) (by decide) (by decide) rfl rfl dX3_begin_37 ⟨Nat.le_of_ble_eq_true rfl, Nat.le_of_ble_eq_true rfl⟩ ⟨Nat.le_of_ble_eq_true rfl, Nat.le_of_ble_eq_true rfl⟩ (Nat.le_of_ble_eq_true rfl) (fun r9 w1 H locs hq9 hP hD hS => ?_)
  obtain ⟨rfl, rfl⟩ := hq9
  have hP : va_P D vwCl [(h0, .inr (3, [.ref g0, .ref g1, .ref h1, .int s0, .int 0, .int 0, .int (-1), .int (-1), .int 0, .int 0, .int (-1), .int 0, .int 1, .int 0, .int 0, .int 0, .int 0, .int 0, .int 0])), (h1, .inr (1, [.ref h2, .ref g2, .ref g3, .ref g4, .ref g5, .ref g6, .ref g7, .int 4, .int 3, .int 0, .int (-1), .int 0])), (h2, .inr (7, [.ref h4, .ref g8, .ref g9, .ref h3, .ref g10, .ref g11, .ref g12, .ref g13, .ref g14, .int 1, .int 1, .int 0])), (h3, .inl (cI, 60, .inl (fun _ => 0))), (h4, .inl (cI, 60, .inl (fun _ => 0)))] H := hP
  have hD : va_D A [(h0, .inr (3, [.ref g0, .ref g1, .ref h1, .int s0, .int 0, .int 0, .int (-1), .int (-1), .int 0, .int 0, .int (-1), .int 0, .int 1, .int 0, .int 0, .int 0, .int 0, .int 0, .int 0])), (h1, .inr (1, [.ref h2, .ref g2, .ref g3, .ref g4, .ref g5, .ref g6, .ref g7, .int 4, .int 3, .int 0, .int (-1), .int 0])), (h2, .inr (7, [.ref h4, .ref g8, .ref g9, .ref h3, .ref g10, .ref g11, .ref g12, .ref g13, .ref g14, .int 1, .int 1, .int 0])), (h3, .inl (cI, 60, .inl (fun _ => 0))), (h4, .inl (cI, 60, .inl (fun _ => 0)))] := hD
  refine W.widen (k := 0) (n := 0) (Nat.le_of_ble_eq_true rfl) (Nat.le_of_ble_eq_true rfl) ?_
  refine pcn (b := 40) rfl ?_
  refine lv_tableIn (off := 48) (tgt := 88) hx hb dX3_begin_40 (by decide +kernel) (by decide +kernel) (by decide +kernel) (by decide) ?_
  refine lv_aload_n hx hb dX3_begin_88 rfl (lv_at hl 2 rfl) ?_
  refine lv_iconst (v := 1) hx hb dX3_begin_89 (by decide +kernel) ?_
  refine lv_iload_n hx hb dX3_begin_90 rfl (lv_at hl 1 rfl) ?_
  refine lv_iconst (v := (-1)) hx hb dX3_begin_91 (by decide +kernel) ?_
  refine kVv (As := [.int 1, .int 0, .int (-1)]) (rest := []) (wr := [(h1, .inr (1, [.ref h2, .ref g2, .ref g3, .ref g4, .ref g5, .ref g6, .ref g7, .int 4, .int 3, .int 0, .int (-1), .int 0])), (h2, .inr (7, [.ref h4, .ref g8, .ref g9, .ref h3, .ref g10, .ref g11, .ref g12, .ref g13, .ref g14, .int 1, .int 1, .int 0])), (h3, .inl (cI, 60, .inl (fun _ => 0))), (h4, .inl (cI, 60, .inl (fun _ => 0)))]) hx hb hml hown hts hnw hK hP hD hS hA hl.1 (c_X3_give_0 l D cI cZ cB cJ h0 g0 g1 h1 s0) yk_X3_give wm_1134 [0] [1, 2, 3, 4] rfl rfl (by decide) (by decide) (by decide) 0 rfl rfl rfl rfl rfl dX3_begin_92 ⟨Nat.le_of_ble_eq_true rfl, Nat.le_of_ble_eq_true rfl⟩ ⟨Nat.le_of_ble_eq_true rfl, Nat.le_of_ble_eq_true rfl⟩ (Nat.le_of_ble_eq_true rfl) (fun w1 H locs hq9 hP hD hS => ?_)
  obtain rfl := hq9
  have hP : va_P D vwCl [(h1, .inr (1, [.ref h2, .ref g2, .ref g3, .ref g4, .ref g5, .ref g6, .ref g7, .int 4, .int 3, .int 0, .int (-1), .int 0])), (h2, .inr (7, [.ref h4, .ref g8, .ref g9, .ref h3, .ref g10, .ref g11, .ref g12, .ref g13, .ref g14, .int 1, .int 1, .int 0])), (h3, .inl (cI, 60, .inl (fun _ => 0))), (h4, .inl (cI, 60, .inl (fun _ => 0))), (h0, .inr (3, [.ref g0, .ref g1, .ref h1, .int s0, .int 1, .int 0, .int (-1), .int 1, .int 0, .int (-1), .int (-1), .int 0, .int 1, .int 0, .int 0, .int 0, .int 0, .int 0, .int 0]))] H := hP
  have hD : va_D A [(h1, .inr (1, [.ref h2, .ref g2, .ref g3, .ref g4, .ref g5, .ref g6, .ref g7, .int 4, .int 3, .int 0, .int (-1), .int 0])), (h2, .inr (7, [.ref h4, .ref g8, .ref g9, .ref h3, .ref g10, .ref g11, .ref g12, .ref g13, .ref g14, .int 1, .int 1, .int 0])), (h3, .inl (cI, 60, .inl (fun _ => 0))), (h4, .inl (cI, 60, .inl (fun _ => 0))), (h0, .inr (3, [.ref g0, .ref g1, .ref h1, .int s0, .int 1, .int 0, .int (-1), .int 1, .int 0, .int (-1), .int (-1), .int 0, .int 1, .int 0, .int 0, .int 0, .int 0, .int 0, .int 0]))] := hD
  refine W.widen (k := 0) (n := 0) (Nat.le_of_ble_eq_true rfl) (Nat.le_of_ble_eq_true rfl) ?_
  refine pcn (b := 95) rfl ?_
  refine lv_goto (tgt := 210) hx hb dX3_begin_95 (by decide) ?_
  refine W.widen (k := 0) (n := 0) (Nat.le_of_ble_eq_true rfl) (Nat.le_of_ble_eq_true rfl) ?_
  have hP := hP.sub (ws' := [(h0, .inr (3, [.ref g0, .ref g1, .ref h1, .int s0, .int 1, .int 0, .int (-1), .int 1, .int 0, .int (-1), .int (-1), .int 0, .int 1, .int 0, .int 0, .int 0, .int 0, .int 0, .int 0])), (h1, .inr (1, [.ref h2, .ref g2, .ref g3, .ref g4, .ref g5, .ref g6, .ref g7, .int 4, .int 3, .int 0, .int (-1), .int 0])), (h2, .inr (7, [.ref h4, .ref g8, .ref g9, .ref h3, .ref g10, .ref g11, .ref g12, .ref g13, .ref g14, .int 1, .int 1, .int 0])), (h3, .inl (cI, 60, .inl (fun _ => 0))), (h4, .inl (cI, 60, .inl (fun _ => 0)))]) [4, 0, 1, 2, 3] rfl
  have hD := hD.sub (ws' := [(h0, .inr (3, [.ref g0, .ref g1, .ref h1, .int s0, .int 1, .int 0, .int (-1), .int 1, .int 0, .int (-1), .int (-1), .int 0, .int 1, .int 0, .int 0, .int 0, .int 0, .int 0, .int 0])), (h1, .inr (1, [.ref h2, .ref g2, .ref g3, .ref g4, .ref g5, .ref g6, .ref g7, .int 4, .int 3, .int 0, .int (-1), .int 0])), (h2, .inr (7, [.ref h4, .ref g8, .ref g9, .ref h3, .ref g10, .ref g11, .ref g12, .ref g13, .ref g14, .int 1, .int 1, .int 0])), (h3, .inl (cI, 60, .inl (fun _ => 0))), (h4, .inl (cI, 60, .inl (fun _ => 0)))]) [4, 0, 1, 2, 3] (by decide) rfl
  exact rtV hx hb hr hlocks hS hP hD rfl dX3_begin_210

set_option maxHeartbeats 4000000 in
set_option maxRecDepth 100000 in
theorem c_X3_rests_1 (l : Launch) (D : va_G) (cI cZ cB cJ : ClassId) (h0 h1 g0 g1 g2 : Nat) (s0 : Int32) : CtI l D (TT cI cZ cB cJ) yX3_rests cX3_rests 1 (some .boolean) 0 0 0 0 [.ref h0] [(h0, .inr (3, [.ref h1, .ref g0, .ref g1, .int s0, .int 1, .int 0, .int (-1), .int 1, .int 0, .int (-1), .int (-1), .int 0, .int 1, .int 0, .int 0, .int 0, .int 0, .int 0, .int 0])), (h1, .inr (6, [.ref g2, .int 0]))] (fun r w1 => r = 1 ∧ w1 = [(h0, .inr (3, [.ref h1, .ref g0, .ref g1, .int s0, .int 1, .int 0, .int (-1), .int 1, .int 0, .int (-1), .int (-1), .int 0, .int 1, .int 0, .int 0, .int 0, .int 0, .int 0, .int 0])), (h1, .inr (6, [.ref g2, .int 0]))]) := by
  refine CtI.of (by decide +kernel) (Nat.le_of_ble_eq_true rfl) ?_
  intro p e s m below meth c A ls hx hb hr hml hown hts hnw hlocks hin hA hS hP hK hD hl
  have hown : s.vm.findClass RX3 = some m.cls := hown
  have hl : lv_has ls 1 [(0, .ref h0)] := hl
  refine lv_aload_n hx hb dX3_rests_0 rfl (lv_at hl 0 rfl) ?_
  refine va_get (D := D) (ci := 3) (v := .int 1) (C := RX3) (T := TX3) (N := 19) hx hb hts inX3 hown hK hP 0 rfl rfl 4 (by decide) (hts _ wm_355) (fun _ h9 => h9) rfl dX3_rests_1 ?_
  refine lv_iconst (v := 2) hx hb dX3_rests_4 (by decide +kernel) ?_
  refine lv_icmp_eq (tgt := 34) hx hb dX3_rests_5 (by decide) (fun h9 => absurd h9 (by decide +kernel)) (fun _ => ?_)
  refine lv_aload_n hx hb dX3_rests_8 rfl (lv_at hl 0 rfl) ?_
  refine va_get (D := D) (ci := 3) (v := .int 1) (C := RX3) (T := TX3) (N := 19) hx hb hts inX3 hown hK hP 0 rfl rfl 4 (by decide) (hts _ wm_355) (fun _ h9 => h9) rfl dX3_rests_9 ?_
  refine lv_iconst (v := 3) hx hb dX3_rests_12 (by decide +kernel) ?_
  refine pcn (b := 13) rfl ?_
  refine lv_icmp_eq (tgt := 34) hx hb dX3_rests_13 (by decide) (fun h9 => absurd h9 (by decide +kernel)) (fun _ => ?_)
  refine lv_aload_n hx hb dX3_rests_16 rfl (lv_at hl 0 rfl) ?_
  refine va_get (D := D) (ci := 3) (v := .int 1) (C := RX3) (T := TX3) (N := 19) hx hb hts inX3 hown hK hP 0 rfl rfl 4 (by decide) (hts _ wm_355) (fun _ h9 => h9) rfl dX3_rests_17 ?_
  refine lv_iconst (v := 1) hx hb dX3_rests_20 (by decide +kernel) ?_
  refine lv_icmp_ne (tgt := 38) hx hb dX3_rests_21 (by decide) (fun h9 => absurd (by decide +kernel) h9) (fun _ => ?_)
  refine lv_aload_n hx hb dX3_rests_24 rfl (lv_at hl 0 rfl) ?_
  refine va_get (D := D) (ci := 3) (v := .ref h1) (C := RX3) (T := TX3) (N := 19) hx hb hts inX3 hown hK hP 0 rfl rfl 0 (by decide) (hts _ wm_351) (fun _ h9 => h9) rfl dX3_rests_25 ?_
  refine va_getN (D := D) (ci := 6) (v := .int 0) (C := RX6) (T := TX6) (N := 2) hx hb hts inX6 hown hK hP 1 rfl rfl 1 (by decide) (va_Nw.use rfl (hnw _ wn_159)) (fun _ h9 => h9) rfl dX3_rests_28 ?_
  refine pcn (b := 31) rfl ?_
  refine lv_if_ne (tgt := 38) hx hb dX3_rests_31 (by decide) (fun h9 => absurd (by decide +kernel) h9) (fun _ => ?_)
  refine lv_iconst (v := 1) hx hb dX3_rests_34 (by decide +kernel) ?_
  refine lv_goto (tgt := 39) hx hb dX3_rests_35 (by decide) ?_
  refine W.widen (k := 0) (n := 0) (Nat.le_of_ble_eq_true rfl) (Nat.le_of_ble_eq_true rfl) ?_
  exact rtZ hx hb hr rfl hlocks hS hP hD ⟨rfl, rfl⟩ dX3_rests_39

set_option maxHeartbeats 4000000 in
set_option maxRecDepth 100000 in
theorem c_X3_go_0 (l : Launch) (D : va_G) (cI cZ cB cJ : ClassId) (h0 h1 h2 h3 h4 h5 h6 h7 h8 h9 g0 g1 g2 g3 g4 g5 g6 g7 g8 g9 g10 g11 g12 g13 g14 g15 : Nat) (s0 : Int32) (s0l : (0 : Int) ≤ s0.toInt) (s0h : s0.toInt ≤ (2 : Int)) : CtV l D (TT cI cZ cB cJ) yX3_go cX3_go 4 none 4 86 0 0 [.ref h0, .int s0, .int 1500] [(h0, .inr (3, [.ref h5, .ref h6, .ref h1, .int (-1), .int 0, .int 0, .int 0, .int 0, .int 0, .int 0, .int 0, .int 0, .int 0, .int 0, .int 0, .int 0, .int 0, .int 0, .int 0])), (h1, .inr (1, [.ref h7, .ref g0, .ref h2, .ref g1, .ref g2, .ref g3, .ref g4, .int 4, .int 3, .int 0, .int (-1), .int 0])), (h2, .inr (2, [.ref h3, .ref h4])), (h3, .inr (4, [.ref h4, .ref g5])), (h4, .inr (6, [.ref g6, .int 3])), (h5, .inr (6, [.ref g7, .int 0])), (h6, .inr (6, [.ref g8, .int 0])), (h7, .inr (7, [.ref h9, .ref g9, .ref g10, .ref h8, .ref g11, .ref g12, .ref g13, .ref g14, .ref g15, .int 1, .int 1, .int 0])), (h8, .inl (cI, 60, .inl (fun _ => 0))), (h9, .inl (cI, 60, .inl (fun _ => 0)))] (fun w1 => w1 = [(h0, .inr (3, [.ref h5, .ref h6, .ref h1, .int s0, .int 1, .int 0, .int (-1), .int 1, .int 0, .int (-1), .int (-1), .int 0, .int 1, .int 0, .int 0, .int 0, .int 0, .int 0, .int 0])), (h1, .inr (1, [.ref h7, .ref g0, .ref h2, .ref g1, .ref g2, .ref g3, .ref g4, .int 4, .int 3, .int 0, .int (-1), .int 0])), (h2, .inr (2, [.ref h3, .ref h4])), (h3, .inr (4, [.ref h4, .ref g5])), (h4, .inr (6, [.ref g6, .int 3])), (h5, .inr (6, [.ref g7, .int 0])), (h6, .inr (6, [.ref g8, .int 0])), (h7, .inr (7, [.ref h9, .ref g9, .ref g10, .ref h8, .ref g11, .ref g12, .ref g13, .ref g14, .ref g15, .int 1, .int 1, .int 0])), (h8, .inl (cI, 60, .inl (fun _ => 0))), (h9, .inl (cI, 60, .inl (fun _ => 0)))]) := by
  refine CtV.of (by decide +kernel) (Nat.le_of_ble_eq_true rfl) ?_
  intro p e s m below meth c A ls hx hb hr hml hown hts hnw hlocks hin hA hS hP hK hD hl
  have hown : s.vm.findClass RX3 = some m.cls := hown
  have hl : lv_has ls 4 [(0, .ref h0), (1, .int s0), (2, .int 1500)] := hl
  refine lv_iload_n hx hb dX3_go_0 rfl (lv_at hl 1 rfl) ?_
  refine lv_aload_n hx hb dX3_go_1 rfl (lv_at hl 0 rfl) ?_
  refine va_get (D := D) (ci := 3) (v := .int (-1)) (C := RX3) (T := TX3) (N := 19) hx hb hts inX3 hown hK hP 0 rfl rfl 3 (by decide) (hts _ wm_354) (fun _ h9 => h9) rfl dX3_go_2 ?_
  refine lv_icmp_ne (tgt := 16) hx hb dX3_go_5 (by decide) (fun _ => ?_) (fun h9 => absurd h9 (iv_ne2 s0l (by decide +kernel : ((-1) : Int32).toInt ≤ ((-1) : Int)) (by decide)))
  refine lv_aload_n hx hb dX3_go_16 rfl (lv_at hl 0 rfl) ?_
  refine lv_iload_n hx hb dX3_go_17 rfl (lv_at hl 1 rfl) ?_
  refine kVv (As := [.int s0]) (rest := []) (wr := [(h7, .inr (7, [.ref h9, .ref g9, .ref g10, .ref h8, .ref g11, .ref g12, .ref g13, .ref g14, .ref g15, .int 1, .int 1, .int 0])), (h8, .inl (cI, 60, .inl (fun _ => 0))), (h9, .inl (cI, 60, .inl (fun _ => 0)))]) hx hb hml hown hts hnw hK hP hD hS hA hl.1 (c_X3_restart_0 l D cI cZ cB cJ h0 h1 h2 h3 h4 h5 h6 h7 g0 g1 g2 g3 g4 g5 g6 g7 g8 s0) yk_X3_restart wm_1119 [0, 1, 2, 3, 4, 5, 6] [7, 8, 9] rfl rfl (by decide) (by decide) (by decide) 0 rfl rfl rfl rfl rfl dX3_go_18 ⟨Nat.le_of_ble_eq_true rfl, Nat.le_of_ble_eq_true rfl⟩ ⟨Nat.le_of_ble_eq_true rfl, Nat.le_of_ble_eq_true rfl⟩ (Nat.le_of_ble_eq_true rfl) (fun w1 H locs hq9 hP hD hS => ?_)
  obtain rfl := hq9
  have hP : va_P D vwCl [(h7, .inr (7, [.ref h9, .ref g9, .ref g10, .ref h8, .ref g11, .ref g12, .ref g13, .ref g14, .ref g15, .int 1, .int 1, .int 0])), (h8, .inl (cI, 60, .inl (fun _ => 0))), (h9, .inl (cI, 60, .inl (fun _ => 0))), (h0, .inr (3, [.ref h5, .ref h6, .ref h1, .int s0, .int 0, .int 0, .int (-1), .int (-1), .int 0, .int 0, .int (-1), .int 0, .int 0, .int 0, .int 0, .int 0, .int 0, .int 0, .int 0])), (h1, .inr (1, [.ref h7, .ref g0, .ref h2, .ref g1, .ref g2, .ref g3, .ref g4, .int 4, .int 3, .int 0, .int (-1), .int 0])), (h2, .inr (2, [.ref h3, .ref h4])), (h3, .inr (4, [.ref h4, .ref g5])), (h4, .inr (6, [.ref g6, .int 3])), (h5, .inr (6, [.ref g7, .int 0])), (h6, .inr (6, [.ref g8, .int 0]))] H := hP
  have hD : va_D A [(h7, .inr (7, [.ref h9, .ref g9, .ref g10, .ref h8, .ref g11, .ref g12, .ref g13, .ref g14, .ref g15, .int 1, .int 1, .int 0])), (h8, .inl (cI, 60, .inl (fun _ => 0))), (h9, .inl (cI, 60, .inl (fun _ => 0))), (h0, .inr (3, [.ref h5, .ref h6, .ref h1, .int s0, .int 0, .int 0, .int (-1), .int (-1), .int 0, .int 0, .int (-1), .int 0, .int 0, .int 0, .int 0, .int 0, .int 0, .int 0, .int 0])), (h1, .inr (1, [.ref h7, .ref g0, .ref h2, .ref g1, .ref g2, .ref g3, .ref g4, .int 4, .int 3, .int 0, .int (-1), .int 0])), (h2, .inr (2, [.ref h3, .ref h4])), (h3, .inr (4, [.ref h4, .ref g5])), (h4, .inr (6, [.ref g6, .int 3])), (h5, .inr (6, [.ref g7, .int 0])), (h6, .inr (6, [.ref g8, .int 0]))] := hD
  refine W.widen (k := 0) (n := 0) (Nat.le_of_ble_eq_true rfl) (Nat.le_of_ble_eq_true rfl) ?_
  refine pcn (b := 21) rfl ?_
  refine lv_aload_n hx hb dX3_go_21 rfl (lv_at hl 0 rfl) ?_
  refine va_get (D := D) (ci := 3) (v := .int 0) (C := RX3) (T := TX3) (N := 19) hx hb hts inX3 hown hK hP 3 rfl rfl 12 (by decide) (hts _ wm_363) (fun _ h9 => h9) rfl dX3_go_22 ?_
  refine lv_iload_n hx hb dX3_go_25 rfl (lv_at hl 2 rfl) ?_
  refine lv_icmp_ge (tgt := 152) hx hb dX3_go_26 (by decide) (fun h9 => absurd h9 (by decide +kernel)) (fun _ => ?_)
  refine lv_aload_n hx hb dX3_go_29 rfl (lv_at hl 0 rfl) ?_
  refine kVi (As := []) (rest := []) (wr := [(h7, .inr (7, [.ref h9, .ref g9, .ref g10, .ref h8, .ref g11, .ref g12, .ref g13, .ref g14, .ref g15, .int 1, .int 1, .int 0])), (h8, .inl (cI, 60, .inl (fun _ => 0))), (h9, .inl (cI, 60, .inl (fun _ => 0))), (h1, .inr (1, [.ref h7, .ref g0, .ref h2, .ref g1, .ref g2, .ref g3, .ref g4, .int 4, .int 3, .int 0, .int (-1), .int 0])), (h2, .inr (2, [.ref h3, .ref h4])), (h3, .inr (4, [.ref h4, .ref g5])), (h4, .inr (6, [.ref g6, .int 3])), (h5, .inr (6, [.ref g7, .int 0])), (h6, .inr (6, [.ref g8, .int 0]))]) hx hb hml hown hts hnw hK hP hD hS hA hl.1 (c_X3_rests_0 l D cI cZ cB cJ h0 h5 h6 h1 s0) yk_X3_rests wm_1125 [3] [0, 1, 2, 4, 5, 6, 7, 8, 9] rfl rfl (by decide) (by decide) (by decide) 0 rfl rfl rfl rfl rfl dX3_go_30 ⟨Nat.le_of_ble_eq_true rfl, Nat.le_of_ble_eq_true rfl⟩ ⟨Nat.le_of_ble_eq_true rfl, Nat.le_of_ble_eq_true rfl⟩ (Nat.le_of_ble_eq_true rfl) (fun r9 w1 H locs hq9 hP hD hS => ?_)
  obtain ⟨rfl, rfl⟩ := hq9
  have hP : va_P D vwCl [(h7, .inr (7, [.ref h9, .ref g9, .ref g10, .ref h8, .ref g11, .ref g12, .ref g13, .ref g14, .ref g15, .int 1, .int 1, .int 0])), (h8, .inl (cI, 60, .inl (fun _ => 0))), (h9, .inl (cI, 60, .inl (fun _ => 0))), (h1, .inr (1, [.ref h7, .ref g0, .ref h2, .ref g1, .ref g2, .ref g3, .ref g4, .int 4, .int 3, .int 0, .int (-1), .int 0])), (h2, .inr (2, [.ref h3, .ref h4])), (h3, .inr (4, [.ref h4, .ref g5])), (h4, .inr (6, [.ref g6, .int 3])), (h5, .inr (6, [.ref g7, .int 0])), (h6, .inr (6, [.ref g8, .int 0])), (h0, .inr (3, [.ref h5, .ref h6, .ref h1, .int s0, .int 0, .int 0, .int (-1), .int (-1), .int 0, .int 0, .int (-1), .int 0, .int 0, .int 0, .int 0, .int 0, .int 0, .int 0, .int 0]))] H := hP
  have hD : va_D A [(h7, .inr (7, [.ref h9, .ref g9, .ref g10, .ref h8, .ref g11, .ref g12, .ref g13, .ref g14, .ref g15, .int 1, .int 1, .int 0])), (h8, .inl (cI, 60, .inl (fun _ => 0))), (h9, .inl (cI, 60, .inl (fun _ => 0))), (h1, .inr (1, [.ref h7, .ref g0, .ref h2, .ref g1, .ref g2, .ref g3, .ref g4, .int 4, .int 3, .int 0, .int (-1), .int 0])), (h2, .inr (2, [.ref h3, .ref h4])), (h3, .inr (4, [.ref h4, .ref g5])), (h4, .inr (6, [.ref g6, .int 3])), (h5, .inr (6, [.ref g7, .int 0])), (h6, .inr (6, [.ref g8, .int 0])), (h0, .inr (3, [.ref h5, .ref h6, .ref h1, .int s0, .int 0, .int 0, .int (-1), .int (-1), .int 0, .int 0, .int (-1), .int 0, .int 0, .int 0, .int 0, .int 0, .int 0, .int 0, .int 0]))] := hD
  refine W.widen (k := 0) (n := 0) (Nat.le_of_ble_eq_true rfl) (Nat.le_of_ble_eq_true rfl) ?_
  refine pcn (b := 33) rfl ?_
  refine lv_if_ne (tgt := 152) hx hb dX3_go_33 (by decide) (fun h9 => absurd (by decide +kernel) h9) (fun _ => ?_)
  refine lv_aload_n hx hb dX3_go_36 rfl (lv_at hl 0 rfl) ?_
  refine lv_dup hx hb dX3_go_37 rfl ?_
  refine va_get (D := D) (ci := 3) (v := .int 0) (C := RX3) (T := TX3) (N := 19) hx hb hts inX3 hown hK hP 9 rfl rfl 12 (by decide) (hts _ wm_363) (fun _ h9 => h9) rfl dX3_go_38 ?_
  refine lv_iconst (v := 1) hx hb dX3_go_41 (by decide +kernel) ?_
  refine lv_iadd hx hb dX3_go_42 ?_
  refine nrm (y := 1) (by decide +kernel) ?_
  refine va_put (D := D) (ci := 3) (v := .int 1) (ty := .int) (C := RX3) (T := TX3) (N := 19) hx hb hts inX3 tyX3 tyX3_ok nmX3 hown hK hP hD hS 9 rfl rfl 12 (by decide) (hts _ wm_363) (fun _ h9 => h9) rfl (by decide +kernel) rfl rfl (Nat.le_of_ble_eq_true rfl) dX3_go_43 (fun H locs hP hD hS => ?_)
  have hP : va_P D vwCl [(h7, .inr (7, [.ref h9, .ref g9, .ref g10, .ref h8, .ref g11, .ref g12, .ref g13, .ref g14, .ref g15, .int 1, .int 1, .int 0])), (h8, .inl (cI, 60, .inl (fun _ => 0))), (h9, .inl (cI, 60, .inl (fun _ => 0))), (h1, .inr (1, [.ref h7, .ref g0, .ref h2, .ref g1, .ref g2, .ref g3, .ref g4, .int 4, .int 3, .int 0, .int (-1), .int 0])), (h2, .inr (2, [.ref h3, .ref h4])), (h3, .inr (4, [.ref h4, .ref g5])), (h4, .inr (6, [.ref g6, .int 3])), (h5, .inr (6, [.ref g7, .int 0])), (h6, .inr (6, [.ref g8, .int 0])), (h0, .inr (3, [.ref h5, .ref h6, .ref h1, .int s0, .int 0, .int 0, .int (-1), .int (-1), .int 0, .int 0, .int (-1), .int 0, .int 1, .int 0, .int 0, .int 0, .int 0, .int 0, .int 0]))] H := hP
  have hD : va_D A [(h7, .inr (7, [.ref h9, .ref g9, .ref g10, .ref h8, .ref g11, .ref g12, .ref g13, .ref g14, .ref g15, .int 1, .int 1, .int 0])), (h8, .inl (cI, 60, .inl (fun _ => 0))), (h9, .inl (cI, 60, .inl (fun _ => 0))), (h1, .inr (1, [.ref h7, .ref g0, .ref h2, .ref g1, .ref g2, .ref g3, .ref g4, .int 4, .int 3, .int 0, .int (-1), .int 0])), (h2, .inr (2, [.ref h3, .ref h4])), (h3, .inr (4, [.ref h4, .ref g5])), (h4, .inr (6, [.ref g6, .int 3])), (h5, .inr (6, [.ref g7, .int 0])), (h6, .inr (6, [.ref g8, .int 0])), (h0, .inr (3, [.ref h5, .ref h6, .ref h1, .int s0, .int 0, .int 0, .int (-1), .int (-1), .int 0, .int 0, .int (-1), .int 0, .int 1, .int 0, .int 0, .int 0, .int 0, .int 0, .int 0]))] := hD
  refine pcn (b := 46) rfl ?_
  refine lv_aload_n hx hb dX3_go_46 rfl (lv_at hl 0 rfl) ?_
  refine va_get (D := D) (ci := 3) (v := .ref h5) (C := RX3) (T := TX3) (N := 19) hx hb hts inX3 hown hK hP 9 rfl rfl 0 (by decide) (hts _ wm_351) (fun _ h9 => h9) rfl dX3_go_47 ?_
  refine va_getN (D := D) (ci := 6) (v := .int 0) (C := RX6) (T := TX6) (N := 2) hx hb hts inX6 hown hK hP 7 rfl rfl 1 (by decide) (va_Nw.use rfl (hnw _ wn_159)) (fun _ h9 => h9) rfl dX3_go_50 ?_
  refine lv_iconst (v := 1) hx hb dX3_go_53 (by decide +kernel) ?_
  refine lv_isub hx hb dX3_go_54 ?_
  refine nrm (y := (-1)) (by decide +kernel) ?_
  refine lv_istore_n (lv' := [(3, .int (-1)), (0, .ref h0), (1, .int s0), (2, .int 1500)]) hx hb dX3_go_55 rfl hl (by decide) rfl (fun ls hl => ?_)
  refine lv_aload_n hx hb dX3_go_56 rfl (lv_at hl 1 rfl) ?_
  refine va_get (D := D) (ci := 3) (v := .int 0) (C := RX3) (T := TX3) (N := 19) hx hb hts inX3 hown hK hP 9 rfl rfl 4 (by decide) (hts _ wm_355) (fun _ h9 => h9) rfl dX3_go_57 ?_
  refine pcn (b := 60) rfl ?_
  refine lv_if_ne (tgt := 70) hx hb dX3_go_60 (by decide) (fun h9 => absurd (by decide +kernel) h9) (fun _ => ?_)
  refine lv_aload_n hx hb dX3_go_63 rfl (lv_at hl 1 rfl) ?_
  refine kVv (As := []) (rest := []) (wr := [(h2, .inr (2, [.ref h3, .ref h4])), (h3, .inr (4, [.ref h4, .ref g5])), (h4, .inr (6, [.ref g6, .int 3])), (h5, .inr (6, [.ref g7, .int 0])), (h6, .inr (6, [.ref g8, .int 0]))]) hx hb hml hown hts hnw hK hP hD hS hA hl.1 (c_X3_begin_0 l D cI cZ cB cJ h0 h1 h7 h8 h9 h5 h6 g0 h2 g1 g2 g3 g4 g9 g10 g11 g12 g13 g14 g15 s0) yk_X3_begin wm_1129 [9, 3, 0, 1, 2] [4, 5, 6, 7, 8] rfl rfl (by decide) (by decide) (by decide) 0 rfl rfl rfl rfl rfl dX3_go_64 ⟨Nat.le_of_ble_eq_true rfl, Nat.le_of_ble_eq_true rfl⟩ ⟨Nat.le_of_ble_eq_true rfl, Nat.le_of_ble_eq_true rfl⟩ (Nat.le_of_ble_eq_true rfl) (fun w1 H locs hq9 hP hD hS => ?_)
  obtain rfl := hq9
  have hP : va_P D vwCl [(h2, .inr (2, [.ref h3, .ref h4])), (h3, .inr (4, [.ref h4, .ref g5])), (h4, .inr (6, [.ref g6, .int 3])), (h5, .inr (6, [.ref g7, .int 0])), (h6, .inr (6, [.ref g8, .int 0])), (h0, .inr (3, [.ref h5, .ref h6, .ref h1, .int s0, .int 1, .int 0, .int (-1), .int 1, .int 0, .int (-1), .int (-1), .int 0, .int 1, .int 0, .int 0, .int 0, .int 0, .int 0, .int 0])), (h1, .inr (1, [.ref h7, .ref g0, .ref h2, .ref g1, .ref g2, .ref g3, .ref g4, .int 4, .int 3, .int 0, .int (-1), .int 0])), (h7, .inr (7, [.ref h9, .ref g9, .ref g10, .ref h8, .ref g11, .ref g12, .ref g13, .ref g14, .ref g15, .int 1, .int 1, .int 0])), (h8, .inl (cI, 60, .inl (fun _ => 0))), (h9, .inl (cI, 60, .inl (fun _ => 0)))] H := hP
  have hD : va_D A [(h2, .inr (2, [.ref h3, .ref h4])), (h3, .inr (4, [.ref h4, .ref g5])), (h4, .inr (6, [.ref g6, .int 3])), (h5, .inr (6, [.ref g7, .int 0])), (h6, .inr (6, [.ref g8, .int 0])), (h0, .inr (3, [.ref h5, .ref h6, .ref h1, .int s0, .int 1, .int 0, .int (-1), .int 1, .int 0, .int (-1), .int (-1), .int 0, .int 1, .int 0, .int 0, .int 0, .int 0, .int 0, .int 0])), (h1, .inr (1, [.ref h7, .ref g0, .ref h2, .ref g1, .ref g2, .ref g3, .ref g4, .int 4, .int 3, .int 0, .int (-1), .int 0])), (h7, .inr (7, [.ref h9, .ref g9, .ref g10, .ref h8, .ref g11, .ref g12, .ref g13, .ref g14, .ref g15, .int 1, .int 1, .int 0])), (h8, .inl (cI, 60, .inl (fun _ => 0))), (h9, .inl (cI, 60, .inl (fun _ => 0)))] := hD
  refine W.widen (k := 0) (n := 0) (Nat.le_of_ble_eq_true rfl) (Nat.le_of_ble_eq_true rfl) ?_
  refine pcn (b := 67) rfl ?_
  refine lv_goto (tgt := 116) hx hb dX3_go_67 (by decide) ?_
  refine lv_aload_n hx hb dX3_go_116 rfl (lv_at hl 1 rfl) ?_
  refine lv_aload_n hx hb dX3_go_117 rfl (lv_at hl 1 rfl) ?_
  refine va_get (D := D) (ci := 3) (v := .int 0) (C := RX3) (T := TX3) (N := 19) hx hb hts inX3 hown hK hP 5 rfl rfl 14 (by decide) (hts _ wm_365) (fun _ h9 => h9) rfl dX3_go_118 ?_
  refine lv_aload_n hx hb dX3_go_121 rfl (lv_at hl 1 rfl) ?_
  refine va_get (D := D) (ci := 3) (v := .ref h5) (C := RX3) (T := TX3) (N := 19) hx hb hts inX3 hown hK hP 5 rfl rfl 0 (by decide) (hts _ wm_351) (fun _ h9 => h9) rfl dX3_go_122 ?_
  refine va_getN (D := D) (ci := 6) (v := .int 0) (C := RX6) (T := TX6) (N := 2) hx hb hts inX6 hown hK hP 3 rfl rfl 1 (by decide) (va_Nw.use rfl (hnw _ wn_159)) (fun _ h9 => h9) rfl dX3_go_125 ?_
  refine va_mmax hx hb (hml.trans hl.1.symm) hown (hts _ wm_1163) (hts _ wm_154) (hts _ wm_8) (hts _ wm_155) (Nat.le_of_ble_eq_true rfl) (Nat.le_of_ble_eq_true rfl) (Nat.le_of_ble_eq_true rfl) (Nat.le_of_ble_eq_true rfl) dX3_go_128 ?_
  refine nrm (y := 0) (by decide +kernel) ?_
  refine pcn (b := 131) rfl ?_
  refine va_put (D := D) (ci := 3) (v := .int 0) (ty := .int) (C := RX3) (T := TX3) (N := 19) hx hb hts inX3 tyX3 tyX3_ok nmX3 hown hK hP hD hS 5 rfl rfl 14 (by decide) (hts _ wm_365) (fun _ h9 => h9) rfl (by decide +kernel) rfl rfl (Nat.le_of_ble_eq_true rfl) dX3_go_131 (fun H locs hP hD hS => ?_)
  have hP : va_P D vwCl [(h2, .inr (2, [.ref h3, .ref h4])), (h3, .inr (4, [.ref h4, .ref g5])), (h4, .inr (6, [.ref g6, .int 3])), (h5, .inr (6, [.ref g7, .int 0])), (h6, .inr (6, [.ref g8, .int 0])), (h0, .inr (3, [.ref h5, .ref h6, .ref h1, .int s0, .int 1, .int 0, .int (-1), .int 1, .int 0, .int (-1), .int (-1), .int 0, .int 1, .int 0, .int 0, .int 0, .int 0, .int 0, .int 0])), (h1, .inr (1, [.ref h7, .ref g0, .ref h2, .ref g1, .ref g2, .ref g3, .ref g4, .int 4, .int 3, .int 0, .int (-1), .int 0])), (h7, .inr (7, [.ref h9, .ref g9, .ref g10, .ref h8, .ref g11, .ref g12, .ref g13, .ref g14, .ref g15, .int 1, .int 1, .int 0])), (h8, .inl (cI, 60, .inl (fun _ => 0))), (h9, .inl (cI, 60, .inl (fun _ => 0)))] H := hP
  have hD : va_D A [(h2, .inr (2, [.ref h3, .ref h4])), (h3, .inr (4, [.ref h4, .ref g5])), (h4, .inr (6, [.ref g6, .int 3])), (h5, .inr (6, [.ref g7, .int 0])), (h6, .inr (6, [.ref g8, .int 0])), (h0, .inr (3, [.ref h5, .ref h6, .ref h1, .int s0, .int 1, .int 0, .int (-1), .int 1, .int 0, .int (-1), .int (-1), .int 0, .int 1, .int 0, .int 0, .int 0, .int 0, .int 0, .int 0])), (h1, .inr (1, [.ref h7, .ref g0, .ref h2, .ref g1, .ref g2, .ref g3, .ref g4, .int 4, .int 3, .int 0, .int (-1), .int 0])), (h7, .inr (7, [.ref h9, .ref g9, .ref g10, .ref h8, .ref g11, .ref g12, .ref g13, .ref g14, .ref g15, .int 1, .int 1, .int 0])), (h8, .inl (cI, 60, .inl (fun _ => 0))), (h9, .inl (cI, 60, .inl (fun _ => 0)))] := hD
  refine lv_aload_n hx hb dX3_go_134 rfl (lv_at hl 1 rfl) ?_
  refine lv_aload_n hx hb dX3_go_135 rfl (lv_at hl 1 rfl) ?_
  refine va_get (D := D) (ci := 3) (v := .int 0) (C := RX3) (T := TX3) (N := 19) hx hb hts inX3 hown hK hP 5 rfl rfl 15 (by decide) (hts _ wm_366) (fun _ h9 => h9) rfl dX3_go_136 ?_
  refine lv_aload_n hx hb dX3_go_139 rfl (lv_at hl 1 rfl) ?_
  refine va_get (D := D) (ci := 3) (v := .int 0) (C := RX3) (T := TX3) (N := 19) hx hb hts inX3 hown hK hP 5 rfl rfl 13 (by decide) (hts _ wm_364) (fun _ h9 => h9) rfl dX3_go_140 ?_
  refine va_mmax hx hb (hml.trans hl.1.symm) hown (hts _ wm_1163) (hts _ wm_154) (hts _ wm_8) (hts _ wm_155) (Nat.le_of_ble_eq_true rfl) (Nat.le_of_ble_eq_true rfl) (Nat.le_of_ble_eq_true rfl) (Nat.le_of_ble_eq_true rfl) dX3_go_143 ?_
  refine nrm (y := 0) (by decide +kernel) ?_
  refine va_put (D := D) (ci := 3) (v := .int 0) (ty := .int) (C := RX3) (T := TX3) (N := 19) hx hb hts inX3 tyX3 tyX3_ok nmX3 hown hK hP hD hS 5 rfl rfl 15 (by decide) (hts _ wm_366) (fun _ h9 => h9) rfl (by decide +kernel) rfl rfl (Nat.le_of_ble_eq_true rfl) dX3_go_146 (fun H locs hP hD hS => ?_)
  have hP : va_P D vwCl [(h2, .inr (2, [.ref h3, .ref h4])), (h3, .inr (4, [.ref h4, .ref g5])), (h4, .inr (6, [.ref g6, .int 3])), (h5, .inr (6, [.ref g7, .int 0])), (h6, .inr (6, [.ref g8, .int 0])), (h0, .inr (3, [.ref h5, .ref h6, .ref h1, .int s0, .int 1, .int 0, .int (-1), .int 1, .int 0, .int (-1), .int (-1), .int 0, .int 1, .int 0, .int 0, .int 0, .int 0, .int 0, .int 0])), (h1, .inr (1, [.ref h7, .ref g0, .ref h2, .ref g1, .ref g2, .ref g3, .ref g4, .int 4, .int 3, .int 0, .int (-1), .int 0])), (h7, .inr (7, [.ref h9, .ref g9, .ref g10, .ref h8, .ref g11, .ref g12, .ref g13, .ref g14, .ref g15, .int 1, .int 1, .int 0])), (h8, .inl (cI, 60, .inl (fun _ => 0))), (h9, .inl (cI, 60, .inl (fun _ => 0)))] H := hP
  have hD : va_D A [(h2, .inr (2, [.ref h3, .ref h4])), (h3, .inr (4, [.ref h4, .ref g5])), (h4, .inr (6, [.ref g6, .int 3])), (h5, .inr (6, [.ref g7, .int 0])), (h6, .inr (6, [.ref g8, .int 0])), (h0, .inr (3, [.ref h5, .ref h6, .ref h1, .int s0, .int 1, .int 0, .int (-1), .int 1, .int 0, .int (-1), .int (-1), .int 0, .int 1, .int 0, .int 0, .int 0, .int 0, .int 0, .int 0])), (h1, .inr (1, [.ref h7, .ref g0, .ref h2, .ref g1, .ref g2, .ref g3, .ref g4, .int 4, .int 3, .int 0, .int (-1), .int 0])), (h7, .inr (7, [.ref h9, .ref g9, .ref g10, .ref h8, .ref g11, .ref g12, .ref g13, .ref g14, .ref g15, .int 1, .int 1, .int 0])), (h8, .inl (cI, 60, .inl (fun _ => 0))), (h9, .inl (cI, 60, .inl (fun _ => 0)))] := hD
  refine pcn (b := 149) rfl ?_
  refine lv_goto (tgt := 21) hx hb dX3_go_149 (by decide) ?_
  refine lv_aload_n hx hb dX3_go_21 rfl (lv_at hl 1 rfl) ?_
  refine va_get (D := D) (ci := 3) (v := .int 1) (C := RX3) (T := TX3) (N := 19) hx hb hts inX3 hown hK hP 5 rfl rfl 12 (by decide) (hts _ wm_363) (fun _ h9 => h9) rfl dX3_go_22 ?_
  refine lv_iload_n hx hb dX3_go_25 rfl (lv_at hl 3 rfl) ?_
  refine lv_icmp_ge (tgt := 152) hx hb dX3_go_26 (by decide) (fun h9 => absurd h9 (by decide +kernel)) (fun _ => ?_)
  refine lv_aload_n hx hb dX3_go_29 rfl (lv_at hl 1 rfl) ?_
  refine kVi (As := []) (rest := []) (wr := [(h2, .inr (2, [.ref h3, .ref h4])), (h3, .inr (4, [.ref h4, .ref g5])), (h4, .inr (6, [.ref g6, .int 3])), (h6, .inr (6, [.ref g8, .int 0])), (h1, .inr (1, [.ref h7, .ref g0, .ref h2, .ref g1, .ref g2, .ref g3, .ref g4, .int 4, .int 3, .int 0, .int (-1), .int 0])), (h7, .inr (7, [.ref h9, .ref g9, .ref g10, .ref h8, .ref g11, .ref g12, .ref g13, .ref g14, .ref g15, .int 1, .int 1, .int 0])), (h8, .inl (cI, 60, .inl (fun _ => 0))), (h9, .inl (cI, 60, .inl (fun _ => 0)))]) hx hb hml hown hts hnw hK hP hD hS hA hl.1 (c_X3_rests_1 l D cI cZ cB cJ h0 h5 h6 h1 g7 s0) yk_X3_rests wm_1125 [5, 3] [0, 1, 2, 4, 6, 7, 8, 9] rfl rfl (by decide) (by decide) (by decide) 0 rfl rfl rfl rfl rfl dX3_go_30 ⟨Nat.le_of_ble_eq_true rfl, Nat.le_of_ble_eq_true rfl⟩ ⟨Nat.le_of_ble_eq_true rfl, Nat.le_of_ble_eq_true rfl⟩ (Nat.le_of_ble_eq_true rfl) (fun r9 w1 H locs hq9 hP hD hS => ?_)
  obtain ⟨rfl, rfl⟩ := hq9
  have hP : va_P D vwCl [(h2, .inr (2, [.ref h3, .ref h4])), (h3, .inr (4, [.ref h4, .ref g5])), (h4, .inr (6, [.ref g6, .int 3])), (h6, .inr (6, [.ref g8, .int 0])), (h1, .inr (1, [.ref h7, .ref g0, .ref h2, .ref g1, .ref g2, .ref g3, .ref g4, .int 4, .int 3, .int 0, .int (-1), .int 0])), (h7, .inr (7, [.ref h9, .ref g9, .ref g10, .ref h8, .ref g11, .ref g12, .ref g13, .ref g14, .ref g15, .int 1, .int 1, .int 0])), (h8, .inl (cI, 60, .inl (fun _ => 0))), (h9, .inl (cI, 60, .inl (fun _ => 0))), (h0, .inr (3, [.ref h5, .ref h6, .ref h1, .int s0, .int 1, .int 0, .int (-1), .int 1, .int 0, .int (-1), .int (-1), .int 0, .int 1, .int 0, .int 0, .int 0, .int 0, .int 0, .int 0])), (h5, .inr (6, [.ref g7, .int 0]))] H := hP
  have hD : va_D A [(h2, .inr (2, [.ref h3, .ref h4])), (h3, .inr (4, [.ref h4, .ref g5])), (h4, .inr (6, [.ref g6, .int 3])), (h6, .inr (6, [.ref g8, .int 0])), (h1, .inr (1, [.ref h7, .ref g0, .ref h2, .ref g1, .ref g2, .ref g3, .ref g4, .int 4, .int 3, .int 0, .int (-1), .int 0])), (h7, .inr (7, [.ref h9, .ref g9, .ref g10, .ref h8, .ref g11, .ref g12, .ref g13, .ref g14, .ref g15, .int 1, .int 1, .int 0])), (h8, .inl (cI, 60, .inl (fun _ => 0))), (h9, .inl (cI, 60, .inl (fun _ => 0))), (h0, .inr (3, [.ref h5, .ref h6, .ref h1, .int s0, .int 1, .int 0, .int (-1), .int 1, .int 0, .int (-1), .int (-1), .int 0, .int 1, .int 0, .int 0, .int 0, .int 0, .int 0, .int 0])), (h5, .inr (6, [.ref g7, .int 0]))] := hD
  refine W.widen (k := 0) (n := 0) (Nat.le_of_ble_eq_true rfl) (Nat.le_of_ble_eq_true rfl) ?_
  refine pcn (b := 33) rfl ?_
  refine lv_if_ne (tgt := 152) hx hb dX3_go_33 (by decide) (fun _ => ?_) (fun h9 => absurd h9 (by decide +kernel))
  refine W.widen (k := 0) (n := 0) (Nat.le_of_ble_eq_true rfl) (Nat.le_of_ble_eq_true rfl) ?_
  have hP := hP.sub (ws' := [(h0, .inr (3, [.ref h5, .ref h6, .ref h1, .int s0, .int 1, .int 0, .int (-1), .int 1, .int 0, .int (-1), .int (-1), .int 0, .int 1, .int 0, .int 0, .int 0, .int 0, .int 0, .int 0])), (h1, .inr (1, [.ref h7, .ref g0, .ref h2, .ref g1, .ref g2, .ref g3, .ref g4, .int 4, .int 3, .int 0, .int (-1), .int 0])), (h2, .inr (2, [.ref h3, .ref h4])), (h3, .inr (4, [.ref h4, .ref g5])), (h4, .inr (6, [.ref g6, .int 3])), (h5, .inr (6, [.ref g7, .int 0])), (h6, .inr (6, [.ref g8, .int 0])), (h7, .inr (7, [.ref h9, .ref g9, .ref g10, .ref h8, .ref g11, .ref g12, .ref g13, .ref g14, .ref g15, .int 1, .int 1, .int 0])), (h8, .inl (cI, 60, .inl (fun _ => 0))), (h9, .inl (cI, 60, .inl (fun _ => 0)))]) [8, 4, 0, 1, 2, 9, 3, 5, 6, 7] rfl
  have hD := hD.sub (ws' := [(h0, .inr (3, [.ref h5, .ref h6, .ref h1, .int s0, .int 1, .int 0, .int (-1), .int 1, .int 0, .int (-1), .int (-1), .int 0, .int 1, .int 0, .int 0, .int 0, .int 0, .int 0, .int 0])), (h1, .inr (1, [.ref h7, .ref g0, .ref h2, .ref g1, .ref g2, .ref g3, .ref g4, .int 4, .int 3, .int 0, .int (-1), .int 0])), (h2, .inr (2, [.ref h3, .ref h4])), (h3, .inr (4, [.ref h4, .ref g5])), (h4, .inr (6, [.ref g6, .int 3])), (h5, .inr (6, [.ref g7, .int 0])), (h6, .inr (6, [.ref g8, .int 0])), (h7, .inr (7, [.ref h9, .ref g9, .ref g10, .ref h8, .ref g11, .ref g12, .ref g13, .ref g14, .ref g15, .int 1, .int 1, .int 0])), (h8, .inl (cI, 60, .inl (fun _ => 0))), (h9, .inl (cI, 60, .inl (fun _ => 0)))]) [8, 4, 0, 1, 2, 9, 3, 5, 6, 7] (by decide) rfl
  exact rtV hx hb hr hlocks hS hP hD rfl dX3_go_152
