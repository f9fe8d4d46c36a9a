set_option maxHeartbeats 4000000 in
set_option maxRecDepth 100000 in
theorem c_X11_put_7 (l : Launch) (D : va_G) (cI cZ cB cJ : ClassId) (h0 : Nat) (f0 : Nat → Int32) (s0 : Int32) : CtV l D (TT cI cZ cB cJ) yX11_put cX11_put 3 none 0 0 0 0 [.ref h0, .int 0, .int s0] [(h0, .inl (cI, 300, .inl f0))] (fun w1 => ∃ (fz0 : Nat → Int32), w1 = [(h0, .inl (cI, 300, .inl fz0))]) := by
  refine CtV.of (by decide +kernel) (Nat.le_of_ble_eq_true rfl) ?_
  intro p e s m below meth c A ls hx hb hr hml hown hts hnw hlocks hin hA hS hP hK hD hl
  have hown : s.vm.findClass RX11 = some m.cls := hown
  have hl : lv_has ls 3 [(0, .ref h0), (1, .int 0), (2, .int s0)] := hl
  refine lv_iload_n hx hb dX11_put_0 rfl (lv_at hl 1 rfl) ?_
  refine lv_if_lt (tgt := 14) hx hb dX11_put_1 (by decide) (fun h9 => absurd h9 (by decide +kernel)) (fun _ => ?_)
  refine lv_iload_n hx hb dX11_put_4 rfl (lv_at hl 1 rfl) ?_
  refine lv_aload_n hx hb dX11_put_5 rfl (lv_at hl 0 rfl) ?_
  refine va_alen (v := 300) hx hb hK hP 0 0 rfl rfl (by show Int32.ofNat 300 = 300; decide +kernel) dX11_put_6 ?_
  refine lv_icmp_ge (tgt := 14) hx hb dX11_put_7 (by decide) (fun h9 => absurd h9 (by decide +kernel)) (fun _ => ?_)
  refine lv_aload_n hx hb dX11_put_10 rfl (lv_at hl 0 rfl) ?_
  refine pcn (b := 11) rfl ?_
  refine lv_iload_n hx hb dX11_put_11 rfl (lv_at hl 1 rfl) ?_
  refine lv_iload_n hx hb dX11_put_12 rfl (lv_at hl 2 rfl) ?_
  refine as_i_o hx hb hK hP hD hS 0 0 rfl rfl (vpi (by decide +kernel)) dX11_put_13 (fun H locs fz0 hP hD hS => ?_)
  have hP : va_P D vwCl [(h0, .inl (cI, 300, .inl fz0))] H := hP
  have hD : va_D A [(h0, .inl (cI, 300, .inl fz0))] := hD
  refine W.widen (k := 0) (n := 0) (Nat.le_of_ble_eq_true rfl) (Nat.le_of_ble_eq_true rfl) ?_
  exact rtV hx hb hr hlocks hS hP hD ⟨fz0, rfl⟩ dX11_put_14

set_option maxHeartbeats 4000000 in
set_option maxRecDepth 100000 in
theorem c_X11_put_8 (l : Launch) (D : va_G) (cI cZ cB cJ : ClassId) (h0 : Nat) (f0 : Nat → Int32) (s0 : Int32) : CtV l D (TT cI cZ cB cJ) yX11_put cX11_put 3 none 0 0 0 0 [.ref h0, .int 1, .int s0] [(h0, .inl (cI, 300, .inl f0))] (fun w1 => ∃ (fz0 : Nat → Int32), w1 = [(h0, .inl (cI, 300, .inl fz0))]) := by
  refine CtV.of (by decide +kernel) (Nat.le_of_ble_eq_true rfl) ?_
  intro p e s m below meth c A ls hx hb hr hml hown hts hnw hlocks hin hA hS hP hK hD hl
  have hown : s.vm.findClass RX11 = some m.cls := hown
  have hl : lv_has ls 3 [(0, .ref h0), (1, .int 1), (2, .int s0)] := hl
  refine lv_iload_n hx hb dX11_put_0 rfl (lv_at hl 1 rfl) ?_
  refine lv_if_lt (tgt := 14) hx hb dX11_put_1 (by decide) (fun h9 => absurd h9 (by decide +kernel)) (fun _ => ?_)
  refine lv_iload_n hx hb dX11_put_4 rfl (lv_at hl 1 rfl) ?_
  refine lv_aload_n hx hb dX11_put_5 rfl (lv_at hl 0 rfl) ?_
  refine va_alen (v := 300) hx hb hK hP 0 0 rfl rfl (by show Int32.ofNat 300 = 300; decide +kernel) dX11_put_6 ?_
  refine lv_icmp_ge (tgt := 14) hx hb dX11_put_7 (by decide) (fun h9 => absurd h9 (by decide +kernel)) (fun _ => ?_)
  refine lv_aload_n hx hb dX11_put_10 rfl (lv_at hl 0 rfl) ?_
  refine pcn (b := 11) rfl ?_
  refine lv_iload_n hx hb dX11_put_11 rfl (lv_at hl 1 rfl) ?_
  refine lv_iload_n hx hb dX11_put_12 rfl (lv_at hl 2 rfl) ?_
  refine as_i_o hx hb hK hP hD hS 0 0 rfl rfl (vpi (by decide +kernel)) dX11_put_13 (fun H locs fz0 hP hD hS => ?_)
  have hP : va_P D vwCl [(h0, .inl (cI, 300, .inl fz0))] H := hP
  have hD : va_D A [(h0, .inl (cI, 300, .inl fz0))] := hD
  refine W.widen (k := 0) (n := 0) (Nat.le_of_ble_eq_true rfl) (Nat.le_of_ble_eq_true rfl) ?_
  exact rtV hx hb hr hlocks hS hP hD ⟨fz0, rfl⟩ dX11_put_14

set_option maxHeartbeats 4000000 in
set_option maxRecDepth 100000 in
theorem c_X11_put_9 (l : Launch) (D : va_G) (cI cZ cB cJ : ClassId) (h0 : Nat) (f0 : Nat → Int32) (s0 : Int32) : CtV l D (TT cI cZ cB cJ) yX11_put cX11_put 3 none 0 0 0 0 [.ref h0, .int 2, .int s0] [(h0, .inl (cI, 300, .inl f0))] (fun w1 => ∃ (fz0 : Nat → Int32), w1 = [(h0, .inl (cI, 300, .inl fz0))]) := by
  refine CtV.of (by decide +kernel) (Nat.le_of_ble_eq_true rfl) ?_
  intro p e s m below meth c A ls hx hb hr hml hown hts hnw hlocks hin hA hS hP hK hD hl
  have hown : s.vm.findClass RX11 = some m.cls := hown
  have hl : lv_has ls 3 [(0, .ref h0), (1, .int 2), (2, .int s0)] := hl
  refine lv_iload_n hx hb dX11_put_0 rfl (lv_at hl 1 rfl) ?_
  refine lv_if_lt (tgt := 14) hx hb dX11_put_1 (by decide) (fun h9 => absurd h9 (by decide +kernel)) (fun _ => ?_)
  refine lv_iload_n hx hb dX11_put_4 rfl (lv_at hl 1 rfl) ?_
  refine lv_aload_n hx hb dX11_put_5 rfl (lv_at hl 0 rfl) ?_
  refine va_alen (v := 300) hx hb hK hP 0 0 rfl rfl (by show Int32.ofNat 300 = 300; decide +kernel) dX11_put_6 ?_
  refine lv_icmp_ge (tgt := 14) hx hb dX11_put_7 (by decide) (fun h9 => absurd h9 (by decide +kernel)) (fun _ => ?_)
  refine lv_aload_n hx hb dX11_put_10 rfl (lv_at hl 0 rfl) ?_
  refine pcn (b := 11) rfl ?_
  refine lv_iload_n hx hb dX11_put_11 rfl (lv_at hl 1 rfl) ?_
  refine lv_iload_n hx hb dX11_put_12 rfl (lv_at hl 2 rfl) ?_
  refine as_i_o hx hb hK hP hD hS 0 0 rfl rfl (vpi (by decide +kernel)) dX11_put_13 (fun H locs fz0 hP hD hS => ?_)
  have hP : va_P D vwCl [(h0, .inl (cI, 300, .inl fz0))] H := hP
  have hD : va_D A [(h0, .inl (cI, 300, .inl fz0))] := hD
  refine W.widen (k := 0) (n := 0) (Nat.le_of_ble_eq_true rfl) (Nat.le_of_ble_eq_true rfl) ?_
  exact rtV hx hb hr hlocks hS hP hD ⟨fz0, rfl⟩ dX11_put_14

set_option maxHeartbeats 4000000 in
set_option maxRecDepth 100000 in
theorem c_X11_put_10 (l : Launch) (D : va_G) (cI cZ cB cJ : ClassId) (h0 : Nat) (f0 : Nat → Int32) (s0 : Int32) : CtV l D (TT cI cZ cB cJ) yX11_put cX11_put 3 none 0 0 0 0 [.ref h0, .int 3, .int s0] [(h0, .inl (cI, 300, .inl f0))] (fun w1 => ∃ (fz0 : Nat → Int32), w1 = [(h0, .inl (cI, 300, .inl fz0))]) := by
  refine CtV.of (by decide +kernel) (Nat.le_of_ble_eq_true rfl) ?_
  intro p e s m below meth c A ls hx hb hr hml hown hts hnw hlocks hin hA hS hP hK hD hl
  have hown : s.vm.findClass RX11 = some m.cls := hown
  have hl : lv_has ls 3 [(0, .ref h0), (1, .int 3), (2, .int s0)] := hl
  refine lv_iload_n hx hb dX11_put_0 rfl (lv_at hl 1 rfl) ?_
  refine lv_if_lt (tgt := 14) hx hb dX11_put_1 (by decide) (fun h9 => absurd h9 (by decide +kernel)) (fun _ => ?_)
  refine lv_iload_n hx hb dX11_put_4 rfl (lv_at hl 1 rfl) ?_
  refine lv_aload_n hx hb dX11_put_5 rfl (lv_at hl 0 rfl) ?_
  refine va_alen (v := 300) hx hb hK hP 0 0 rfl rfl (by show Int32.ofNat 300 = 300; decide +kernel) dX11_put_6 ?_
  refine lv_icmp_ge (tgt := 14) hx hb dX11_put_7 (by decide) (fun h9 => absurd h9 (by decide +kernel)) (fun _ => ?_)
  refine lv_aload_n hx hb dX11_put_10 rfl (lv_at hl 0 rfl) ?_
  refine pcn (b := 11) rfl ?_
  refine lv_iload_n hx hb dX11_put_11 rfl (lv_at hl 1 rfl) ?_
  refine lv_iload_n hx hb dX11_put_12 rfl (lv_at hl 2 rfl) ?_
  refine as_i_o hx hb hK hP hD hS 0 0 rfl rfl (vpi (by decide +kernel)) dX11_put_13 (fun H locs fz0 hP hD hS => ?_)
  have hP : va_P D vwCl [(h0, .inl (cI, 300, .inl fz0))] H := hP
  have hD : va_D A [(h0, .inl (cI, 300, .inl fz0))] := hD
  refine W.widen (k := 0) (n := 0) (Nat.le_of_ble_eq_true rfl) (Nat.le_of_ble_eq_true rfl) ?_
  exact rtV hx hb hr hlocks hS hP hD ⟨fz0, rfl⟩ dX11_put_14

set_option maxHeartbeats 4000000 in
set_option maxRecDepth 100000 in
theorem c_X11_takeFour_0 (l : Launch) (D : va_G) (cI cZ cB cJ : ClassId) (h0 h1 g0 g1 g2 g3 g4 g5 g6 g7 g8 : Nat) (f0 : Nat → Int32) (s0 : Int32) : CtV l D (TT cI cZ cB cJ) yX11_takeFour cX11_takeFour 3 none 1 22 0 0 [.ref h0, .int s0] [(h0, .inr (11, [.ref h1, .int 0, .ref g0, .ref g1, .ref g2, .ref g3, .ref g4, .ref g5, .ref g6, .ref g7, .ref g8])), (h1, .inl (cI, 300, .inl f0))] (fun w1 => ∃ (fz3 : Nat → Int32), w1 = [(h0, .inr (11, [.ref h1, .int 4, .ref g0, .ref g1, .ref g2, .ref g3, .ref g4, .ref g5, .ref g6, .ref g7, .ref g8])), (h1, .inl (cI, 300, .inl fz3))]) := by
  refine CtV.of (by decide +kernel) (Nat.le_of_ble_eq_true rfl) ?_
  intro p e s m below meth c A ls hx hb hr hml hown hts hnw hlocks hin hA hS hP hK hD hl
  have hown : s.vm.findClass RX11 = some m.cls := hown
  have hl : lv_has ls 3 [(0, .ref h0), (1, .int s0)] := hl
  refine lv_bipush (v := 24) hx hb dX11_takeFour_0 (by decide +kernel) ?_
  refine lv_istore_n (lv' := [(2, .int 24), (0, .ref h0), (1, .int s0)]) hx hb dX11_takeFour_2 rfl hl (by decide) rfl (fun ls hl => ?_)
  refine lv_iload_n hx hb dX11_takeFour_3 rfl (lv_at hl 0 rfl) ?_
  refine lv_if_lt (tgt := 41) hx hb dX11_takeFour_4 (by decide) (fun h9 => absurd h9 (by decide +kernel)) (fun _ => ?_)
  refine lv_aload_n hx hb dX11_takeFour_7 rfl (lv_at hl 1 rfl) ?_
  refine va_get (D := D) (ci := 11) (v := .ref h1) (C := RX11) (T := TX11) (N := 11) hx hb hts inX11 hown hK hP 0 rfl rfl 0 (by decide) (hts _ wm_582) (fun _ h9 => h9) rfl dX11_takeFour_8 ?_
  refine lv_aload_n hx hb dX11_takeFour_11 rfl (lv_at hl 1 rfl) ?_
  refine pcn (b := 12) rfl ?_
  refine va_get (D := D) (ci := 11) (v := .int 0) (C := RX11) (T := TX11) (N := 11) hx hb hts inX11 hown hK hP 0 rfl rfl 1 (by decide) (hts _ wm_583) (fun _ h9 => h9) rfl dX11_takeFour_12 ?_
  refine lv_iload_n hx hb dX11_takeFour_15 rfl (lv_at hl 2 rfl) ?_
  refine lv_iload_n hx hb dX11_takeFour_16 rfl (lv_at hl 0 rfl) ?_
  refine lv_iushr hx hb dX11_takeFour_17 rfl ?_
  refine lv_topi (fun y0 _ => ?_)
  refine lv_sipush (v := 255) hx hb dX11_takeFour_18 (by decide +kernel) ?_
  refine lv_iand hx hb dX11_takeFour_21 ?_
  refine lv_topi (fun y1 _ => ?_)
  refine kSv (As := [.ref h1, .int 0, .int y1]) (rest := []) (wr := [(h0, .inr (11, [.ref h1, .int 0, .ref g0, .ref g1, .ref g2, .ref g3, .ref g4, .ref g5, .ref g6, .ref g7, .ref g8]))]) hx hb hml hown hts hnw hK hP hD hS hA hl.1 (c_X11_put_7 l D cI cZ cB cJ h1 f0 y1) yk_X11_put wm_624 [1] [0] rfl rfl (by decide) (by decide) (by decide) rfl rfl dX11_takeFour_22 ⟨Nat.le_of_ble_eq_true rfl, Nat.le_of_ble_eq_true rfl⟩ ⟨Nat.le_of_ble_eq_true rfl, Nat.le_of_ble_eq_true rfl⟩ (Nat.le_of_ble_eq_true rfl) (fun w1 H locs hq9 hP hD hS => ?_)
  obtain ⟨fz0, rfl⟩ := hq9
  have hP : va_P D vwCl [(h0, .inr (11, [.ref h1, .int 0, .ref g0, .ref g1, .ref g2, .ref g3, .ref g4, .ref g5, .ref g6, .ref g7, .ref g8])), (h1, .inl (cI, 300, .inl fz0))] H := hP
  have hD : va_D A [(h0, .inr (11, [.ref h1, .int 0, .ref g0, .ref g1, .ref g2, .ref g3, .ref g4, .ref g5, .ref g6, .ref g7, .ref g8])), (h1, .inl (cI, 300, .inl fz0))] := hD
  refine W.widen (k := 0) (n := 0) (Nat.le_of_ble_eq_true rfl) (Nat.le_of_ble_eq_true rfl) ?_
  refine pcn (b := 25) rfl ?_
  refine lv_aload_n hx hb dX11_takeFour_25 rfl (lv_at hl 1 rfl) ?_
  refine lv_dup hx hb dX11_takeFour_26 rfl ?_
  refine va_get (D := D) (ci := 11) (v := .int 0) (C := RX11) (T := TX11) (N := 11) hx hb hts inX11 hown hK hP 0 rfl rfl 1 (by decide) (hts _ wm_583) (fun _ h9 => h9) rfl dX11_takeFour_27 ?_
  refine lv_iconst (v := 1) hx hb dX11_takeFour_30 (by decide +kernel) ?_
  refine lv_iadd hx hb dX11_takeFour_31 ?_
  refine nrm (y := 1) (by decide +kernel) ?_
  refine va_put (D := D) (ci := 11) (v := .int 1) (ty := .int) (C := RX11) (T := TX11) (N := 11) hx hb hts inX11 tyX11 tyX11_ok nmX11 hown hK hP hD hS 0 rfl rfl 1 (by decide) (hts _ wm_583) (fun _ h9 => h9) rfl (by decide +kernel) rfl rfl (Nat.le_of_ble_eq_true rfl) dX11_takeFour_32 (fun H locs hP hD hS => ?_)
  have hP : va_P D vwCl [(h0, .inr (11, [.ref h1, .int 1, .ref g0, .ref g1, .ref g2, .ref g3, .ref g4, .ref g5, .ref g6, .ref g7, .ref g8])), (h1, .inl (cI, 300, .inl fz0))] H := hP
  have hD : va_D A [(h0, .inr (11, [.ref h1, .int 1, .ref g0, .ref g1, .ref g2, .ref g3, .ref g4, .ref g5, .ref g6, .ref g7, .ref g8])), (h1, .inl (cI, 300, .inl fz0))] := hD
  refine lv_iinc (v := 16) (lv' := [(2, .int 16), (0, .ref h0), (1, .int s0)]) hx hb dX11_takeFour_35 hl (k := 0) rfl (by decide +kernel) (by decide) rfl (fun ls hl => ?_)
  refine pcn (b := 38) rfl ?_
  refine lv_goto (tgt := 3) hx hb dX11_takeFour_38 (by decide) ?_
  refine lv_iload_n hx hb dX11_takeFour_3 rfl (lv_at hl 0 rfl) ?_
  refine lv_if_lt (tgt := 41) hx hb dX11_takeFour_4 (by decide) (fun h9 => absurd h9 (by decide +kernel)) (fun _ => ?_)
  refine lv_aload_n hx hb dX11_takeFour_7 rfl (lv_at hl 1 rfl) ?_
  refine va_get (D := D) (ci := 11) (v := .ref h1) (C := RX11) (T := TX11) (N := 11) hx hb hts inX11 hown hK hP 0 rfl rfl 0 (by decide) (hts _ wm_582) (fun _ h9 => h9) rfl dX11_takeFour_8 ?_
  refine lv_aload_n hx hb dX11_takeFour_11 rfl (lv_at hl 1 rfl) ?_
  refine va_get (D := D) (ci := 11) (v := .int 1) (C := RX11) (T := TX11) (N := 11) hx hb hts inX11 hown hK hP 0 rfl rfl 1 (by decide) (hts _ wm_583) (fun _ h9 => h9) rfl dX11_takeFour_12 ?_
  refine lv_iload_n hx hb dX11_takeFour_15 rfl (lv_at hl 2 rfl) ?_
  refine pcn (b := 16) rfl ?_
  refine lv_iload_n hx hb dX11_takeFour_16 rfl (lv_at hl 0 rfl) ?_
  refine lv_iushr hx hb dX11_takeFour_17 rfl ?_
  refine lv_topi (fun y2 _ => ?_)
  refine lv_sipush (v := 255) hx hb dX11_takeFour_18 (by decide +kernel) ?_
  refine lv_iand hx hb dX11_takeFour_21 ?_
  refine lv_topi (fun y3 _ => ?_)
  refine kSv (As := [.ref h1, .int 1, .int y3]) (rest := []) (wr := [(h0, .inr (11, [.ref h1, .int 1, .ref g0, .ref g1, .ref g2, .ref g3, .ref g4, .ref g5, .ref g6, .ref g7, .ref g8]))]) hx hb hml hown hts hnw hK hP hD hS hA hl.1 (c_X11_put_8 l D cI cZ cB cJ h1 fz0 y3) yk_X11_put wm_624 [1] [0] rfl rfl (by decide) (by decide) (by decide) rfl rfl dX11_takeFour_22 ⟨Nat.le_of_ble_eq_true rfl, Nat.le_of_ble_eq_true rfl⟩ ⟨Nat.le_of_ble_eq_true rfl, Nat.le_of_ble_eq_true rfl⟩ (Nat.le_of_ble_eq_true rfl) (fun w1 H locs hq9 hP hD hS => ?_)
  obtain ⟨fz1, rfl⟩ := hq9
  have hP : va_P D vwCl [(h0, .inr (11, [.ref h1, .int 1, .ref g0, .ref g1, .ref g2, .ref g3, .ref g4, .ref g5, .ref g6, .ref g7, .ref g8])), (h1, .inl (cI, 300, .inl fz1))] H := hP
  have hD : va_D A [(h0, .inr (11, [.ref h1, .int 1, .ref g0, .ref g1, .ref g2, .ref g3, .ref g4, .ref g5, .ref g6, .ref g7, .ref g8])), (h1, .inl (cI, 300, .inl fz1))] := hD
  refine W.widen (k := 0) (n := 0) (Nat.le_of_ble_eq_true rfl) (Nat.le_of_ble_eq_true rfl) ?_
  refine pcn (b := 25) rfl ?_
  refine lv_aload_n hx hb dX11_takeFour_25 rfl (lv_at hl 1 rfl) ?_
  refine lv_dup hx hb dX11_takeFour_26 rfl ?_
  refine va_get (D := D) (ci := 11) (v := .int 1) (C := RX11) (T := TX11) (N := 11) hx hb hts inX11 hown hK hP 0 rfl rfl 1 (by decide) (hts _ wm_583) (fun _ h9 => h9) rfl dX11_takeFour_27 ?_
  refine lv_iconst (v := 1) hx hb dX11_takeFour_30 (by decide +kernel) ?_
  refine lv_iadd hx hb dX11_takeFour_31 ?_
  refine nrm (y := 2) (by decide +kernel) ?_
  refine va_put (D := D) (ci := 11) (v := .int 2) (ty := .int) (C := RX11) (T := TX11) (N := 11) hx hb hts inX11 tyX11 tyX11_ok nmX11 hown hK hP hD hS 0 rfl rfl 1 (by decide) (hts _ wm_583) (fun _ h9 => h9) rfl (by decide +kernel) rfl rfl (Nat.le_of_ble_eq_true rfl) dX11_takeFour_32 (fun H locs hP hD hS => ?_)
  have hP : va_P D vwCl [(h0, .inr (11, [.ref h1, .int 2, .ref g0, .ref g1, .ref g2, .ref g3, .ref g4, .ref g5, .ref g6, .ref g7, .ref g8])), (h1, .inl (cI, 300, .inl fz1))] H := hP
  have hD : va_D A [(h0, .inr (11, [.ref h1, .int 2, .ref g0, .ref g1, .ref g2, .ref g3, .ref g4, .ref g5, .ref g6, .ref g7, .ref g8])), (h1, .inl (cI, 300, .inl fz1))] := hD
  refine lv_iinc (v := 8) (lv' := [(2, .int 8), (0, .ref h0), (1, .int s0)]) hx hb dX11_takeFour_35 hl (k := 0) rfl (by decide +kernel) (by decide) rfl (fun ls hl => ?_)
  refine pcn (b := 38) rfl ?_
  refine lv_goto (tgt := 3) hx hb dX11_takeFour_38 (by decide) ?_
  refine lv_iload_n hx hb dX11_takeFour_3 rfl (lv_at hl 0 rfl) ?_
  refine lv_if_lt (tgt := 41) hx hb dX11_takeFour_4 (by decide) (fun h9 => absurd h9 (by decide +kernel)) (fun _ => ?_)
  refine lv_aload_n hx hb dX11_takeFour_7 rfl (lv_at hl 1 rfl) ?_
  refine va_get (D := D) (ci := 11) (v := .ref h1) (C := RX11) (T := TX11) (N := 11) hx hb hts inX11 hown hK hP 0 rfl rfl 0 (by decide) (hts _ wm_582) (fun _ h9 => h9) rfl dX11_takeFour_8 ?_
  refine lv_aload_n hx hb dX11_takeFour_11 rfl (lv_at hl 1 rfl) ?_
  refine va_get (D := D) (ci := 11) (v := .int 2) (C := RX11) (T := TX11) (N := 11) hx hb hts inX11 hown hK hP 0 rfl rfl 1 (by decide) (hts _ wm_583) (fun _ h9 => h9) rfl dX11_takeFour_12 ?_
  refine lv_iload_n hx hb dX11_takeFour_15 rfl (lv_at hl 2 rfl) ?_
  refine pcn (b := 16) rfl ?_
  refine lv_iload_n hx hb dX11_takeFour_16 rfl (lv_at hl 0 rfl) ?_
  refine lv_iushr hx hb dX11_takeFour_17 rfl ?_
  refine lv_topi (fun y4 _ => ?_)
  refine lv_sipush (v := 255) hx hb dX11_takeFour_18 (by decide +kernel) ?_
  refine lv_iand hx hb dX11_takeFour_21 ?_
  refine lv_topi (fun y5 _ => ?_)
  refine kSv (As := [.ref h1, .int 2, .int y5]) (rest := []) (wr := [(h0, .inr (11, [.ref h1, .int 2, .ref g0, .ref g1, .ref g2, .ref g3, .ref g4, .ref g5, .ref g6, .ref g7, .ref g8]))]) hx hb hml hown hts hnw hK hP hD hS hA hl.1 (c_X11_put_9 l D cI cZ cB cJ h1 fz1 y5) yk_X11_put wm_624 [1] [0] rfl rfl (by decide) (by decide) (by decide) rfl rfl dX11_takeFour_22 ⟨Nat.le_of_ble_eq_true rfl, Nat.le_of_ble_eq_true rfl⟩ ⟨Nat.le_of_ble_eq_true rfl, Nat.le_of_ble_eq_true rfl⟩ (Nat.le_of_ble_eq_true rfl) (fun w1 H locs hq9 hP hD hS => ?_)
  obtain ⟨fz2, rfl⟩ := hq9
  have hP : va_P D vwCl [(h0, .inr (11, [.ref h1, .int 2, .ref g0, .ref g1, .ref g2, .ref g3, .ref g4, .ref g5, .ref g6, .ref g7, .ref g8])), (h1, .inl (cI, 300, .inl fz2))] H := hP
  have hD : va_D A [(h0, .inr (11, [.ref h1, .int 2, .ref g0, .ref g1, .ref g2, .ref g3, .ref g4, .ref g5, .ref g6, .ref g7, .ref g8])), (h1, .inl (cI, 300, .inl fz2))] := hD
  refine W.widen (k := 0) (n := 0) (Nat.le_of_ble_eq_true rfl) (Nat.le_of_ble_eq_true rfl) ?_
  refine pcn (b := 25) rfl ?_
  refine lv_aload_n hx hb dX11_takeFour_25 rfl (lv_at hl 1 rfl) ?_
  refine lv_dup hx hb dX11_takeFour_26 rfl ?_
  refine va_get (D := D) (ci := 11) (v := .int 2) (C := RX11) (T := TX11) (N := 11) hx hb hts inX11 hown hK hP 0 rfl rfl 1 (by decide) (hts _ wm_583) (fun _ h9 => h9) rfl dX11_takeFour_27 ?_
  refine lv_iconst (v := 1) hx hb dX11_takeFour_30 (by decide +kernel) ?_
  refine lv_iadd hx hb dX11_takeFour_31 ?_
  refine nrm (y := 3) (by decide +kernel) ?_
  refine va_put (D := D) (ci := 11) (v := .int 3) (ty := .int) (C := RX11) (T := TX11) (N := 11) hx hb hts inX11 tyX11 tyX11_ok nmX11 hown hK hP hD hS 0 rfl rfl 1 (by decide) (hts _ wm_583) (fun _ h9 => h9) rfl (by decide +kernel) rfl rfl (Nat.le_of_ble_eq_true rfl) dX11_takeFour_32 (fun H locs hP hD hS => ?_)
  have hP : va_P D vwCl [(h0, .inr (11, [.ref h1, .int 3, .ref g0, .ref g1, .ref g2, .ref g3, .ref g4, .ref g5, .ref g6, .ref g7, .ref g8])), (h1, .inl (cI, 300, .inl fz2))] H := hP
  have hD : va_D A [(h0, .inr (11, [.ref h1, .int 3, .ref g0, .ref g1, .ref g2, .ref g3, .ref g4, .ref g5, .ref g6, .ref g7, .ref g8])), (h1, .inl (cI, 300, .inl fz2))] := hD
  refine lv_iinc (v := 0) (lv' := [(2, .int 0), (0, .ref h0), (1, .int s0)]) hx hb dX11_takeFour_35 hl (k := 0) rfl (by decide +kernel) (by decide) rfl (fun ls hl => ?_)
  refine pcn (b := 38) rfl ?_
  refine lv_goto (tgt := 3) hx hb dX11_takeFour_38 (by decide) ?_
  refine lv_iload_n hx hb dX11_takeFour_3 rfl (lv_at hl 0 rfl) ?_
  refine lv_if_lt (tgt := 41) hx hb dX11_takeFour_4 (by decide) (fun h9 => absurd h9 (by decide +kernel)) (fun _ => ?_)
  refine lv_aload_n hx hb dX11_takeFour_7 rfl (lv_at hl 1 rfl) ?_
  refine va_get (D := D) (ci := 11) (v := .ref h1) (C := RX11) (T := TX11) (N := 11) hx hb hts inX11 hown hK hP 0 rfl rfl 0 (by decide) (hts _ wm_582) (fun _ h9 => h9) rfl dX11_takeFour_8 ?_
  refine lv_aload_n hx hb dX11_takeFour_11 rfl (lv_at hl 1 rfl) ?_
  refine va_get (D := D) (ci := 11) (v := .int 3) (C := RX11) (T := TX11) (N := 11) hx hb hts inX11 hown hK hP 0 rfl rfl 1 (by decide) (hts _ wm_583) (fun _ h9 => h9) rfl dX11_takeFour_12 ?_
  refine lv_iload_n hx hb dX11_takeFour_15 rfl (lv_at hl 2 rfl) ?_
  refine pcn (b := 16) rfl ?_
  refine lv_iload_n hx hb dX11_takeFour_16 rfl (lv_at hl 0 rfl) ?_
  refine lv_iushr hx hb dX11_takeFour_17 rfl ?_
  refine lv_topi (fun y6 _ => ?_)
  refine lv_sipush (v := 255) hx hb dX11_takeFour_18 (by decide +kernel) ?_
  refine lv_iand hx hb dX11_takeFour_21 ?_
  refine lv_topi (fun y7 _ => ?_)
  refine kSv (As := [.ref h1, .int 3, .int y7]) (rest := []) (wr := [(h0, .inr (11, [.ref h1, .int 3, .ref g0, .ref g1, .ref g2, .ref g3, .ref g4, .ref g5, .ref g6, .ref g7, .ref g8]))]) hx hb hml hown hts hnw hK hP hD hS hA hl.1 (c_X11_put_10 l D cI cZ cB cJ h1 fz2 y7) yk_X11_put wm_624 [1] [0] rfl rfl (by decide) (by decide) (by decide) rfl rfl dX11_takeFour_22 ⟨Nat.le_of_ble_eq_true rfl, Nat.le_of_ble_eq_true rfl⟩ ⟨Nat.le_of_ble_eq_true rfl, Nat.le_of_ble_eq_true rfl⟩ (Nat.le_of_ble_eq_true rfl) (fun w1 H locs hq9 hP hD hS => ?_)
  obtain ⟨fz3, rfl⟩ := hq9
  have hP : va_P D vwCl [(h0, .inr (11, [.ref h1, .int 3, .ref g0, .ref g1, .ref g2, .ref g3, .ref g4, .ref g5, .ref g6, .ref g7, .ref g8])), (h1, .inl (cI, 300, .inl fz3))] H := hP
  have hD : va_D A [(h0, .inr (11, [.ref h1, .int 3, .ref g0, .ref g1, .ref g2, .ref g3, .ref g4, .ref g5, .ref g6, .ref g7, .ref g8])), (h1, .inl (cI, 300, .inl fz3))] := hD
  refine W.widen (k := 0) (n := 0) (Nat.le_of_ble_eq_true rfl) (Nat.le_of_ble_eq_true rfl) ?_
  refine pcn (b := 25) rfl ?_
  refine lv_aload_n hx hb dX11_takeFour_25 rfl (lv_at hl 1 rfl) ?_
  refine lv_dup hx hb dX11_takeFour_26 rfl ?_
  refine va_get (D := D) (ci := 11) (v := .int 3) (C := RX11) (T := TX11) (N := 11) hx hb hts inX11 hown hK hP 0 rfl rfl 1 (by decide) (hts _ wm_583) (fun _ h9 => h9) rfl dX11_takeFour_27 ?_
  refine lv_iconst (v := 1) hx hb dX11_takeFour_30 (by decide +kernel) ?_
  refine lv_iadd hx hb dX11_takeFour_31 ?_
  refine nrm (y := 4) (by decide +kernel) ?_
  refine va_put (D := D) (ci := 11) (v := .int 4) (ty := .int) (C := RX11) (T := TX11) (N := 11) hx hb hts inX11 tyX11 tyX11_ok nmX11 hown hK hP hD hS 0 rfl rfl 1 (by decide) (hts _ wm_583) (fun _ h9 => h9) rfl (by decide +kernel) rfl rfl (Nat.le_of_ble_eq_true rfl) dX11_takeFour_32 (fun H locs hP hD hS => ?_)
  have hP : va_P D vwCl [(h0, .inr (11, [.ref h1, .int 4, .ref g0, .ref g1, .ref g2, .ref g3, .ref g4, .ref g5, .ref g6, .ref g7, .ref g8])), (h1, .inl (cI, 300, .inl fz3))] H := hP
  have hD : va_D A [(h0, .inr (11, [.ref h1, .int 4, .ref g0, .ref g1, .ref g2, .ref g3, .ref g4, .ref g5, .ref g6, .ref g7, .ref g8])), (h1, .inl (cI, 300, .inl fz3))] := hD
  refine lv_iinc (v := (-8)) (lv' := [(2, .int (-8)), (0, .ref h0), (1, .int s0)]) hx hb dX11_takeFour_35 hl (k := 0) rfl (by decide +kernel) (by decide) rfl (fun ls hl => ?_)
  refine pcn (b := 38) rfl ?_
  refine lv_goto (tgt := 3) hx hb dX11_takeFour_38 (by decide) ?_
  refine lv_iload_n hx hb dX11_takeFour_3 rfl (lv_at hl 0 rfl) ?_
  refine lv_if_lt (tgt := 41) hx hb dX11_takeFour_4 (by decide) (fun _ => ?_) (fun h9 => absurd (by decide +kernel) h9)
  refine W.widen (k := 0) (n := 0) (Nat.le_of_ble_eq_true rfl) (Nat.le_of_ble_eq_true rfl) ?_
  exact rtV hx hb hr hlocks hS hP hD ⟨fz3, rfl⟩ dX11_takeFour_41

set_option maxHeartbeats 4000000 in
set_option maxRecDepth 100000 in
theorem c_X11_put_11 (l : Launch) (D : va_G) (cI cZ cB cJ : ClassId) (h0 : Nat) (f0 : Nat → Int32) (s0 : Int32) : CtV l D (TT cI cZ cB cJ) yX11_put cX11_put 3 none 0 0 0 0 [.ref h0, .int 4, .int s0] [(h0, .inl (cI, 300, .inl f0))] (fun w1 => ∃ (fz0 : Nat → Int32), w1 = [(h0, .inl (cI, 300, .inl fz0))]) := by
  refine CtV.of (by decide +kernel) (Nat.le_of_ble_eq_true rfl) ?_
  intro p e s m below meth c A ls hx hb hr hml hown hts hnw hlocks hin hA hS hP hK hD hl
  have hown : s.vm.findClass RX11 = some m.cls := hown
  have hl : lv_has ls 3 [(0, .ref h0), (1, .int 4), (2, .int s0)] := hl
  refine lv_iload_n hx hb dX11_put_0 rfl (lv_at hl 1 rfl) ?_
  refine lv_if_lt (tgt := 14) hx hb dX11_put_1 (by decide) (fun h9 => absurd h9 (by decide +kernel)) (fun _ => ?_)
  refine lv_iload_n hx hb dX11_put_4 rfl (lv_at hl 1 rfl) ?_
  refine lv_aload_n hx hb dX11_put_5 rfl (lv_at hl 0 rfl) ?_
  refine va_alen (v := 300) hx hb hK hP 0 0 rfl rfl (by show Int32.ofNat 300 = 300; decide +kernel) dX11_put_6 ?_
  refine lv_icmp_ge (tgt := 14) hx hb dX11_put_7 (by decide) (fun h9 => absurd h9 (by decide +kernel)) (fun _ => ?_)
  refine lv_aload_n hx hb dX11_put_10 rfl (lv_at hl 0 rfl) ?_
  refine pcn (b := 11) rfl ?_
  refine lv_iload_n hx hb dX11_put_11 rfl (lv_at hl 1 rfl) ?_
  refine lv_iload_n hx hb dX11_put_12 rfl (lv_at hl 2 rfl) ?_
  refine as_i_o hx hb hK hP hD hS 0 0 rfl rfl (vpi (by decide +kernel)) dX11_put_13 (fun H locs fz0 hP hD hS => ?_)
  have hP : va_P D vwCl [(h0, .inl (cI, 300, .inl fz0))] H := hP
  have hD : va_D A [(h0, .inl (cI, 300, .inl fz0))] := hD
  refine W.widen (k := 0) (n := 0) (Nat.le_of_ble_eq_true rfl) (Nat.le_of_ble_eq_true rfl) ?_
  exact rtV hx hb hr hlocks hS hP hD ⟨fz0, rfl⟩ dX11_put_14

set_option maxHeartbeats 4000000 in
set_option maxRecDepth 100000 in
theorem c_X11_put_12 (l : Launch) (D : va_G) (cI cZ cB cJ : ClassId) (h0 : Nat) (f0 : Nat → Int32) (s0 : Int32) : CtV l D (TT cI cZ cB cJ) yX11_put cX11_put 3 none 0 0 0 0 [.ref h0, .int 5, .int s0] [(h0, .inl (cI, 300, .inl f0))] (fun w1 => ∃ (fz0 : Nat → Int32), w1 = [(h0, .inl (cI, 300, .inl fz0))]) := by
  refine CtV.of (by decide +kernel) (Nat.le_of_ble_eq_true rfl) ?_
  intro p e s m below meth c A ls hx hb hr hml hown hts hnw hlocks hin hA hS hP hK hD hl
  have hown : s.vm.findClass RX11 = some m.cls := hown
  have hl : lv_has ls 3 [(0, .ref h0), (1, .int 5), (2, .int s0)] := hl
  refine lv_iload_n hx hb dX11_put_0 rfl (lv_at hl 1 rfl) ?_
  refine lv_if_lt (tgt := 14) hx hb dX11_put_1 (by decide) (fun h9 => absurd h9 (by decide +kernel)) (fun _ => ?_)
  refine lv_iload_n hx hb dX11_put_4 rfl (lv_at hl 1 rfl) ?_
  refine lv_aload_n hx hb dX11_put_5 rfl (lv_at hl 0 rfl) ?_
  refine va_alen (v := 300) hx hb hK hP 0 0 rfl rfl (by show Int32.ofNat 300 = 300; decide +kernel) dX11_put_6 ?_
  refine lv_icmp_ge (tgt := 14) hx hb dX11_put_7 (by decide) (fun h9 => absurd h9 (by decide +kernel)) (fun _ => ?_)
  refine lv_aload_n hx hb dX11_put_10 rfl (lv_at hl 0 rfl) ?_
  refine pcn (b := 11) rfl ?_
  refine lv_iload_n hx hb dX11_put_11 rfl (lv_at hl 1 rfl) ?_
  refine lv_iload_n hx hb dX11_put_12 rfl (lv_at hl 2 rfl) ?_
  refine as_i_o hx hb hK hP hD hS 0 0 rfl rfl (vpi (by decide +kernel)) dX11_put_13 (fun H locs fz0 hP hD hS => ?_)
  have hP : va_P D vwCl [(h0, .inl (cI, 300, .inl fz0))] H := hP
  have hD : va_D A [(h0, .inl (cI, 300, .inl fz0))] := hD
  refine W.widen (k := 0) (n := 0) (Nat.le_of_ble_eq_true rfl) (Nat.le_of_ble_eq_true rfl) ?_
  exact rtV hx hb hr hlocks hS hP hD ⟨fz0, rfl⟩ dX11_put_14

set_option maxHeartbeats 4000000 in
set_option maxRecDepth 100000 in
theorem c_X11_put_13 (l : Launch) (D : va_G) (cI cZ cB cJ : ClassId) (h0 : Nat) (f0 : Nat → Int32) (s0 : Int32) : CtV l D (TT cI cZ cB cJ) yX11_put cX11_put 3 none 0 0 0 0 [.ref h0, .int 6, .int s0] [(h0, .inl (cI, 300, .inl f0))] (fun w1 => ∃ (fz0 : Nat → Int32), w1 = [(h0, .inl (cI, 300, .inl fz0))]) := by
  refine CtV.of (by decide +kernel) (Nat.le_of_ble_eq_true rfl) ?_
  intro p e s m below meth c A ls hx hb hr hml hown hts hnw hlocks hin hA hS hP hK hD hl
  have hown : s.vm.findClass RX11 = some m.cls := hown
  have hl : lv_has ls 3 [(0, .ref h0), (1, .int 6), (2, .int s0)] := hl
  refine lv_iload_n hx hb dX11_put_0 rfl (lv_at hl 1 rfl) ?_
  refine lv_if_lt (tgt := 14) hx hb dX11_put_1 (by decide) (fun h9 => absurd h9 (by decide +kernel)) (fun _ => ?_)
  refine lv_iload_n hx hb dX11_put_4 rfl (lv_at hl 1 rfl) ?_
  refine lv_aload_n hx hb dX11_put_5 rfl (lv_at hl 0 rfl) ?_
  refine va_alen (v := 300) hx hb hK hP 0 0 rfl rfl (by show Int32.ofNat 300 = 300; decide +kernel) dX11_put_6 ?_
  refine lv_icmp_ge (tgt := 14) hx hb dX11_put_7 (by decide) (fun h9 => absurd h9 (by decide +kernel)) (fun _ => ?_)
  refine lv_aload_n hx hb dX11_put_10 rfl (lv_at hl 0 rfl) ?_
  refine pcn (b := 11) rfl ?_
  refine lv_iload_n hx hb dX11_put_11 rfl (lv_at hl 1 rfl) ?_
  refine lv_iload_n hx hb dX11_put_12 rfl (lv_at hl 2 rfl) ?_
  refine as_i_o hx hb hK hP hD hS 0 0 rfl rfl (vpi (by decide +kernel)) dX11_put_13 (fun H locs fz0 hP hD hS => ?_)
  have hP : va_P D vwCl [(h0, .inl (cI, 300, .inl fz0))] H := hP
  have hD : va_D A [(h0, .inl (cI, 300, .inl fz0))] := hD
  refine W.widen (k := 0) (n := 0) (Nat.le_of_ble_eq_true rfl) (Nat.le_of_ble_eq_true rfl) ?_
  exact rtV hx hb hr hlocks hS hP hD ⟨fz0, rfl⟩ dX11_put_14

set_option maxHeartbeats 4000000 in
set_option maxRecDepth 100000 in
theorem c_X11_put_14 (l : Launch) (D : va_G) (cI cZ cB cJ : ClassId) (h0 : Nat) (f0 : Nat → Int32) (s0 : Int32) : CtV l D (TT cI cZ cB cJ) yX11_put cX11_put 3 none 0 0 0 0 [.ref h0, .int 7, .int s0] [(h0, .inl (cI, 300, .inl f0))] (fun w1 => ∃ (fz0 : Nat → Int32), w1 = [(h0, .inl (cI, 300, .inl fz0))]) := by
  refine CtV.of (by decide +kernel) (Nat.le_of_ble_eq_true rfl) ?_
  intro p e s m below meth c A ls hx hb hr hml hown hts hnw hlocks hin hA hS hP hK hD hl
  have hown : s.vm.findClass RX11 = some m.cls := hown
  have hl : lv_has ls 3 [(0, .ref h0), (1, .int 7), (2, .int s0)] := hl
  refine lv_iload_n hx hb dX11_put_0 rfl (lv_at hl 1 rfl) ?_
  refine lv_if_lt (tgt := 14) hx hb dX11_put_1 (by decide) (fun h9 => absurd h9 (by decide +kernel)) (fun _ => ?_)
  refine lv_iload_n hx hb dX11_put_4 rfl (lv_at hl 1 rfl) ?_
  refine lv_aload_n hx hb dX11_put_5 rfl (lv_at hl 0 rfl) ?_
  refine va_alen (v := 300) hx hb hK hP 0 0 rfl rfl (by show Int32.ofNat 300 = 300; decide +kernel) dX11_put_6 ?_
  refine lv_icmp_ge (tgt := 14) hx hb dX11_put_7 (by decide) (fun h9 => absurd h9 (by decide +kernel)) (fun _ => ?_)
  refine lv_aload_n hx hb dX11_put_10 rfl (lv_at hl 0 rfl) ?_
  refine pcn (b := 11) rfl ?_
  refine lv_iload_n hx hb dX11_put_11 rfl (lv_at hl 1 rfl) ?_
  refine lv_iload_n hx hb dX11_put_12 rfl (lv_at hl 2 rfl) ?_
  refine as_i_o hx hb hK hP hD hS 0 0 rfl rfl (vpi (by decide +kernel)) dX11_put_13 (fun H locs fz0 hP hD hS => ?_)
  have hP : va_P D vwCl [(h0, .inl (cI, 300, .inl fz0))] H := hP
  have hD : va_D A [(h0, .inl (cI, 300, .inl fz0))] := hD
  refine W.widen (k := 0) (n := 0) (Nat.le_of_ble_eq_true rfl) (Nat.le_of_ble_eq_true rfl) ?_
  exact rtV hx hb hr hlocks hS hP hD ⟨fz0, rfl⟩ dX11_put_14

set_option maxHeartbeats 4000000 in
set_option maxRecDepth 100000 in
theorem c_X11_takeFour_1 (l : Launch) (D : va_G) (cI cZ cB cJ : ClassId) (h0 h1 g0 g1 g2 g3 g4 g5 g6 g7 g8 : Nat) (f0 : Nat → Int32) (s0 : Int32) : CtV l D (TT cI cZ cB cJ) yX11_takeFour cX11_takeFour 3 none 1 22 0 0 [.ref h0, .int s0] [(h0, .inr (11, [.ref h1, .int 4, .ref g0, .ref g1, .ref g2, .ref g3, .ref g4, .ref g5, .ref g6, .ref g7, .ref g8])), (h1, .inl (cI, 300, .inl f0))] (fun w1 => ∃ (fz3 : Nat → Int32), w1 = [(h0, .inr (11, [.ref h1, .int 8, .ref g0, .ref g1, .ref g2, .ref g3, .ref g4, .ref g5, .ref g6, .ref g7, .ref g8])), (h1, .inl (cI, 300, .inl fz3))]) := by
  refine CtV.of (by decide +kernel) (Nat.le_of_ble_eq_true rfl) ?_
  intro p e s m below meth c A ls hx hb hr hml hown hts hnw hlocks hin hA hS hP hK hD hl
  have hown : s.vm.findClass RX11 = some m.cls := hown
  have hl : lv_has ls 3 [(0, .ref h0), (1, .int s0)] := hl
  refine lv_bipush (v := 24) hx hb dX11_takeFour_0 (by decide +kernel) ?_
  refine lv_istore_n (lv' := [(2, .int 24), (0, .ref h0), (1, .int s0)]) hx hb dX11_takeFour_2 rfl hl (by decide) rfl (fun ls hl => ?_)
  refine lv_iload_n hx hb dX11_takeFour_3 rfl (lv_at hl 0 rfl) ?_
  refine lv_if_lt (tgt := 41) hx hb dX11_takeFour_4 (by decide) (fun h9 => absurd h9 (by decide +kernel)) (fun _ => ?_)
  refine lv_aload_n hx hb dX11_takeFour_7 rfl (lv_at hl 1 rfl) ?_
  refine va_get (D := D) (ci := 11) (v := .ref h1) (C := RX11) (T := TX11) (N := 11) hx hb hts inX11 hown hK hP 0 rfl rfl 0 (by decide) (hts _ wm_582) (fun _ h9 => h9) rfl dX11_takeFour_8 ?_
  refine lv_aload_n hx hb dX11_takeFour_11 rfl (lv_at hl 1 rfl) ?_
  refine pcn (b := 12) rfl ?_
  refine va_get (D := D) (ci := 11) (v := .int 4) (C := RX11) (T := TX11) (N := 11) hx hb hts inX11 hown hK hP 0 rfl rfl 1 (by decide) (hts _ wm_583) (fun _ h9 => h9) rfl dX11_takeFour_12 ?_
  refine lv_iload_n hx hb dX11_takeFour_15 rfl (lv_at hl 2 rfl) ?_
  refine lv_iload_n hx hb dX11_takeFour_16 rfl (lv_at hl 0 rfl) ?_
  refine lv_iushr hx hb dX11_takeFour_17 rfl ?_
  refine lv_topi (fun y0 _ => ?_)
  refine lv_sipush (v := 255) hx hb dX11_takeFour_18 (by decide +kernel) ?_
  refine lv_iand hx hb dX11_takeFour_21 ?_
  refine lv_topi (fun y1 _ => ?_)
  refine kSv (As := [.ref h1, .int 4, .int y1]) (rest := []) (wr := [(h0, .inr (11, [.ref h1, .int 4, .ref g0, .ref g1, .ref g2, .ref g3, .ref g4, .ref g5, .ref g6, .ref g7, .ref g8]))]) hx hb hml hown hts hnw hK hP hD hS hA hl.1 (c_X11_put_11 l D cI cZ cB cJ h1 f0 y1) yk_X11_put wm_624 [1] [0] rfl rfl (by decide) (by decide) (by decide) rfl rfl dX11_takeFour_22 ⟨Nat.le_of_ble_eq_true rfl, Nat.le_of_ble_eq_true rfl⟩ ⟨Nat.le_of_ble_eq_true rfl, Nat.le_of_ble_eq_true rfl⟩ (Nat.le_of_ble_eq_true rfl) (fun w1 H locs hq9 hP hD hS => ?_)
  obtain ⟨fz0, rfl⟩ := hq9
  have hP : va_P D vwCl [(h0, .inr (11, [.ref h1, .int 4, .ref g0, .ref g1, .ref g2, .ref g3, .ref g4, .ref g5, .ref g6, .ref g7, .ref g8])), (h1, .inl (cI, 300, .inl fz0))] H := hP
  have hD : va_D A [(h0, .inr (11, [.ref h1, .int 4, .ref g0, .ref g1, .ref g2, .ref g3, .ref g4, .ref g5, .ref g6, .ref g7, .ref g8])), (h1, .inl (cI, 300, .inl fz0))] := hD
  refine W.widen (k := 0) (n := 0) (Nat.le_of_ble_eq_true rfl) (Nat.le_of_ble_eq_true rfl) ?_
  refine pcn (b := 25) rfl ?_
  refine lv_aload_n hx hb dX11_takeFour_25 rfl (lv_at hl 1 rfl) ?_
  refine lv_dup hx hb dX11_takeFour_26 rfl ?_
  refine va_get (D := D) (ci := 11) (v := .int 4) (C := RX11) (T := TX11) (N := 11) hx hb hts inX11 hown hK hP 0 rfl rfl 1 (by decide) (hts _ wm_583) (fun _ h9 => h9) rfl dX11_takeFour_27 ?_
  refine lv_iconst (v := 1) hx hb dX11_takeFour_30 (by decide +kernel) ?_
  refine lv_iadd hx hb dX11_takeFour_31 ?_
  refine nrm (y := 5) (by decide +kernel) ?_
  refine va_put (D := D) (ci := 11) (v := .int 5) (ty := .int) (C := RX11) (T := TX11) (N := 11) hx hb hts inX11 tyX11 tyX11_ok nmX11 hown hK hP hD hS 0 rfl rfl 1 (by decide) (hts _ wm_583) (fun _ h9 => h9) rfl (by decide +kernel) rfl rfl (Nat.le_of_ble_eq_true rfl) dX11_takeFour_32 (fun H locs hP hD hS => ?_)
  have hP : va_P D vwCl [(h0, .inr (11, [.ref h1, .int 5, .ref g0, .ref g1, .ref g2, .ref g3, .ref g4, .ref g5, .ref g6, .ref g7, .ref g8])), (h1, .inl (cI, 300, .inl fz0))] H := hP
  have hD : va_D A [(h0, .inr (11, [.ref h1, .int 5, .ref g0, .ref g1, .ref g2, .ref g3, .ref g4, .ref g5, .ref g6, .ref g7, .ref g8])), (h1, .inl (cI, 300, .inl fz0))] := hD
  refine lv_iinc (v := 16) (lv' := [(2, .int 16), (0, .ref h0), (1, .int s0)]) hx hb dX11_takeFour_35 hl (k := 0) rfl (by decide +kernel) (by decide) rfl (fun ls hl => ?_)
  refine pcn (b := 38) rfl ?_
  refine lv_goto (tgt := 3) hx hb dX11_takeFour_38 (by decide) ?_
  refine lv_iload_n hx hb dX11_takeFour_3 rfl (lv_at hl 0 rfl) ?_
  refine lv_if_lt (tgt := 41) hx hb dX11_takeFour_4 (by decide) (fun h9 => absurd h9 (by decide +kernel)) (fun _ => ?_)
  refine lv_aload_n hx hb dX11_takeFour_7 rfl (lv_at hl 1 rfl) ?_
  refine va_get (D := D) (ci := 11) (v := .ref h1) (C := RX11) (T := TX11) (N := 11) hx hb hts inX11 hown hK hP 0 rfl rfl 0 (by decide) (hts _ wm_582) (fun _ h9 => h9) rfl dX11_takeFour_8 ?_
  refine lv_aload_n hx hb dX11_takeFour_11 rfl (lv_at hl 1 rfl) ?_
  refine va_get (D := D) (ci := 11) (v := .int 5) (C := RX11) (T := TX11) (N := 11) hx hb hts inX11 hown hK hP 0 rfl rfl 1 (by decide) (hts _ wm_583) (fun _ h9 => h9) rfl dX11_takeFour_12 ?_
  refine lv_iload_n hx hb dX11_takeFour_15 rfl (lv_at hl 2 rfl) ?_
  refine pcn (b := 16) rfl ?_
  refine lv_iload_n hx hb dX11_takeFour_16 rfl (lv_at hl 0 rfl) ?_
  refine lv_iushr hx hb dX11_takeFour_17 rfl ?_
  refine lv_topi (fun y2 _ => ?_)
  refine lv_sipush (v := 255) hx hb dX11_takeFour_18 (by decide +kernel) ?_
  refine lv_iand hx hb dX11_takeFour_21 ?_
  refine lv_topi (fun y3 _ => ?_)
  refine kSv (As := [.ref h1, .int 5, .int y3]) (rest := []) (wr := [(h0, .inr (11, [.ref h1, .int 5, .ref g0, .ref g1, .ref g2, .ref g3, .ref g4, .ref g5, .ref g6, .ref g7, .ref g8]))]) hx hb hml hown hts hnw hK hP hD hS hA hl.1 (c_X11_put_12 l D cI cZ cB cJ h1 fz0 y3) yk_X11_put wm_624 [1] [0] rfl rfl (by decide) (by decide) (by decide) rfl rfl dX11_takeFour_22 ⟨Nat.le_of_ble_eq_true rfl, Nat.le_of_ble_eq_true rfl⟩ ⟨Nat.le_of_ble_eq_true rfl, Nat.le_of_ble_eq_true rfl⟩ (Nat.le_of_ble_eq_true rfl) (fun w1 H locs hq9 hP hD hS => ?_)
  obtain ⟨fz1, rfl⟩ := hq9
  have hP : va_P D vwCl [(h0, .inr (11, [.ref h1, .int 5, .ref g0, .ref g1, .ref g2, .ref g3, .ref g4, .ref g5, .ref g6, .ref g7, .ref g8])), (h1, .inl (cI, 300, .inl fz1))] H := hP
  have hD : va_D A [(h0, .inr (11, [.ref h1, .int 5, .ref g0, .ref g1, .ref g2, .ref g3, .ref g4, .ref g5, .ref g6, .ref g7, .ref g8])), (h1, .inl (cI, 300, .inl fz1))] := hD
  refine W.widen (k := 0) (n := 0) (Nat.le_of_ble_eq_true rfl) (Nat.le_of_ble_eq_true rfl) ?_
  refine pcn (b := 25) rfl ?_
  refine lv_aload_n hx hb dX11_takeFour_25 rfl (lv_at hl 1 rfl) ?_
  refine lv_dup hx hb dX11_takeFour_26 rfl ?_
  refine va_get (D := D) (ci := 11) (v := .int 5) (C := RX11) (T := TX11) (N := 11) hx hb hts inX11 hown hK hP 0 rfl rfl 1 (by decide) (hts _ wm_583) (fun _ h9 => h9) rfl dX11_takeFour_27 ?_
  refine lv_iconst (v := 1) hx hb dX11_takeFour_30 (by decide +kernel) ?_
  refine lv_iadd hx hb dX11_takeFour_31 ?_
  refine nrm (y := 6) (by decide +kernel) ?_
  refine va_put (D := D) (ci := 11) (v := .int 6) (ty := .int) (C := RX11) (T := TX11) (N := 11) hx hb hts inX11 tyX11 tyX11_ok nmX11 hown hK hP hD hS 0 rfl rfl 1 (by decide) (hts _ wm_583) (fun _ h9 => h9) rfl (by decide +kernel) rfl rfl (Nat.le_of_ble_eq_true rfl) dX11_takeFour_32 (fun H locs hP hD hS => ?_)
  have hP : va_P D vwCl [(h0, .inr (11, [.ref h1, .int 6, .ref g0, .ref g1, .ref g2, .ref g3, .ref g4, .ref g5, .ref g6, .ref g7, .ref g8])), (h1, .inl (cI, 300, .inl fz1))] H := hP
  have hD : va_D A [(h0, .inr (11, [.ref h1, .int 6, .ref g0, .ref g1, .ref g2, .ref g3, .ref g4, .ref g5, .ref g6, .ref g7, .ref g8])), (h1, .inl (cI, 300, .inl fz1))] := hD
  refine lv_iinc (v := 8) (lv' := [(2, .int 8), (0, .ref h0), (1, .int s0)]) hx hb dX11_takeFour_35 hl (k := 0) rfl (by decide +kernel) (by decide) rfl (fun ls hl => ?_)
  refine pcn (b := 38) rfl ?_
  refine lv_goto (tgt := 3) hx hb dX11_takeFour_38 (by decide) ?_
  refine lv_iload_n hx hb dX11_takeFour_3 rfl (lv_at hl 0 rfl) ?_
  refine lv_if_lt (tgt := 41) hx hb dX11_takeFour_4 (by decide) (fun h9 => absurd h9 (by decide +kernel)) (fun _ => ?_)
  refine lv_aload_n hx hb dX11_takeFour_7 rfl (lv_at hl 1 rfl) ?_
  refine va_get (D := D) (ci := 11) (v := .ref h1) (C := RX11) (T := TX11) (N := 11) hx hb hts inX11 hown hK hP 0 rfl rfl 0 (by decide) (hts _ wm_582) (fun _ h9 => h9) rfl dX11_takeFour_8 ?_
  refine lv_aload_n hx hb dX11_takeFour_11 rfl (lv_at hl 1 rfl) ?_
  refine va_get (D := D) (ci := 11) (v := .int 6) (C := RX11) (T := TX11) (N := 11) hx hb hts inX11 hown hK hP 0 rfl rfl 1 (by decide) (hts _ wm_583) (fun _ h9 => h9) rfl dX11_takeFour_12 ?_
  refine lv_iload_n hx hb dX11_takeFour_15 rfl (lv_at hl 2 rfl) ?_
  refine pcn (b := 16) rfl ?_
  refine lv_iload_n hx hb dX11_takeFour_16 rfl (lv_at hl 0 rfl) ?_
  refine lv_iushr hx hb dX11_takeFour_17 rfl ?_
  refine lv_topi (fun y4 _ => ?_)
  refine lv_sipush (v := 255) hx hb dX11_takeFour_18 (by decide +kernel) ?_
  refine lv_iand hx hb dX11_takeFour_21 ?_
  refine lv_topi (fun y5 _ => ?_)
  refine kSv (As := [.ref h1, .int 6, .int y5]) (rest := []) (wr := [(h0, .inr (11, [.ref h1, .int 6, .ref g0, .ref g1, .ref g2, .ref g3, .ref g4, .ref g5, .ref g6, .ref g7, .ref g8]))]) hx hb hml hown hts hnw hK hP hD hS hA hl.1 (c_X11_put_13 l D cI cZ cB cJ h1 fz1 y5) yk_X11_put wm_624 [1] [0] rfl rfl (by decide) (by decide) (by decide) rfl rfl dX11_takeFour_22 ⟨Nat.le_of_ble_eq_true rfl, Nat.le_of_ble_eq_true rfl⟩ ⟨Nat.le_of_ble_eq_true rfl, Nat.le_of_ble_eq_true rfl⟩ (Nat.le_of_ble_eq_true rfl) (fun w1 H locs hq9 hP hD hS => ?_)
  obtain ⟨fz2, rfl⟩ := hq9
  have hP : va_P D vwCl [(h0, .inr (11, [.ref h1, .int 6, .ref g0, .ref g1, .ref g2, .ref g3, .ref g4, .ref g5, .ref g6, .ref g7, .ref g8])), (h1, .inl (cI, 300, .inl fz2))] H := hP
  have hD : va_D A [(h0, .inr (11, [.ref h1, .int 6, .ref g0, .ref g1, .ref g2, .ref g3, .ref g4, .ref g5, .ref g6, .ref g7, .ref g8])), (h1, .inl (cI, 300, .inl fz2))] := hD
  refine W.widen (k := 0) (n := 0) (Nat.le_of_ble_eq_true rfl) (Nat.le_of_ble_eq_true rfl) ?_
  refine pcn (b := 25) rfl ?_
  refine lv_aload_n hx hb dX11_takeFour_25 rfl (lv_at hl 1 rfl) ?_
  refine lv_dup hx hb dX11_takeFour_26 rfl ?_
  refine va_get (D := D) (ci := 11) (v := .int 6) (C := RX11) (T := TX11) (N := 11) hx hb hts inX11 hown hK hP 0 rfl rfl 1 (by decide) (hts _ wm_583) (fun _ h9 => h9) rfl dX11_takeFour_27 ?_
  refine lv_iconst (v := 1) hx hb dX11_takeFour_30 (by decide +kernel) ?_
  refine lv_iadd hx hb dX11_takeFour_31 ?_
  refine nrm (y := 7) (by decide +kernel) ?_
  refine va_put (D := D) (ci := 11) (v := .int 7) (ty := .int) (C := RX11) (T := TX11) (N := 11) hx hb hts inX11 tyX11 tyX11_ok nmX11 hown hK hP hD hS 0 rfl rfl 1 (by decide) (hts _ wm_583) (fun _ h9 => h9) rfl (by decide +kernel) rfl rfl (Nat.le_of_ble_eq_true rfl) dX11_takeFour_32 (fun H locs hP hD hS => ?_)
  have hP : va_P D vwCl [(h0, .inr (11, [.ref h1, .int 7, .ref g0, .ref g1, .ref g2, .ref g3, .ref g4, .ref g5, .ref g6, .ref g7, .ref g8])), (h1, .inl (cI, 300, .inl fz2))] H := hP
  have hD : va_D A [(h0, .inr (11, [.ref h1, .int 7, .ref g0, .ref g1, .ref g2, .ref g3, .ref g4, .ref g5, .ref g6, .ref g7, .ref g8])), (h1, .inl (cI, 300, .inl fz2))] := hD
  refine lv_iinc (v := 0) (lv' := [(2, .int 0), (0, .ref h0), (1, .int s0)]) hx hb dX11_takeFour_35 hl (k := 0) rfl (by decide +kernel) (by decide) rfl (fun ls hl => ?_)
  refine pcn (b := 38) rfl ?_
  refine lv_goto (tgt := 3) hx hb dX11_takeFour_38 (by decide) ?_
  refine lv_iload_n hx hb dX11_takeFour_3 rfl (lv_at hl 0 rfl) ?_
  refine lv_if_lt (tgt := 41) hx hb dX11_takeFour_4 (by decide) (fun h9 => absurd h9 (by decide +kernel)) (fun _ => ?_)
  refine lv_aload_n hx hb dX11_takeFour_7 rfl (lv_at hl 1 rfl) ?_
  refine va_get (D := D) (ci := 11) (v := .ref h1) (C := RX11) (T := TX11) (N := 11) hx hb hts inX11 hown hK hP 0 rfl rfl 0 (by decide) (hts _ wm_582) (fun _ h9 => h9) rfl dX11_takeFour_8 ?_
  refine lv_aload_n hx hb dX11_takeFour_11 rfl (lv_at hl 1 rfl) ?_
  refine va_get (D := D) (ci := 11) (v := .int 7) (C := RX11) (T := TX11) (N := 11) hx hb hts inX11 hown hK hP 0 rfl rfl 1 (by decide) (hts _ wm_583) (fun _ h9 => h9) rfl dX11_takeFour_12 ?_
  refine lv_iload_n hx hb dX11_takeFour_15 rfl (lv_at hl 2 rfl) ?_
  refine pcn (b := 16) rfl ?_
  refine lv_iload_n hx hb dX11_takeFour_16 rfl (lv_at hl 0 rfl) ?_
  refine lv_iushr hx hb dX11_takeFour_17 rfl ?_
  refine lv_topi (fun y6 _ => ?_)
  refine lv_sipush (v := 255) hx hb dX11_takeFour_18 (by decide +kernel) ?_
  refine lv_iand hx hb dX11_takeFour_21 ?_
  refine lv_topi (fun y7 _ => ?_)
  refine kSv (As := [.ref h1, .int 7, .int y7]) (rest := []) (wr := [(h0, .inr (11, [.ref h1, .int 7, .ref g0, .ref g1, .ref g2, .ref g3, .ref g4, .ref g5, .ref g6, .ref g7, .ref g8]))]) hx hb hml hown hts hnw hK hP hD hS hA hl.1 (c_X11_put_14 l D cI cZ cB cJ h1 fz2 y7) yk_X11_put wm_624 [1] [0] rfl rfl (by decide) (by decide) (by decide) rfl rfl dX11_takeFour_22 ⟨Nat.le_of_ble_eq_true rfl, Nat.le_of_ble_eq_true rfl⟩ ⟨Nat.le_of_ble_eq_true rfl, Nat.le_of_ble_eq_true rfl⟩ (Nat.le_of_ble_eq_true rfl) (fun w1 H locs hq9 hP hD hS => ?_)
  obtain ⟨fz3, rfl⟩ := hq9
  have hP : va_P D vwCl [(h0, .inr (11, [.ref h1, .int 7, .ref g0, .ref g1, .ref g2, .ref g3, .ref g4, .ref g5, .ref g6, .ref g7, .ref g8])), (h1, .inl (cI, 300, .inl fz3))] H := hP
  have hD : va_D A [(h0, .inr (11, [.ref h1, .int 7, .ref g0, .ref g1, .ref g2, .ref g3, .ref g4, .ref g5, .ref g6, .ref g7, .ref g8])), (h1, .inl (cI, 300, .inl fz3))] := hD
  refine W.widen (k := 0) (n := 0) (Nat.le_of_ble_eq_true rfl) (Nat.le_of_ble_eq_true rfl) ?_
  refine pcn (b := 25) rfl ?_
  refine lv_aload_n hx hb dX11_takeFour_25 rfl (lv_at hl 1 rfl) ?_
  refine lv_dup hx hb dX11_takeFour_26 rfl ?_
  refine va_get (D := D) (ci := 11) (v := .int 7) (C := RX11) (T := TX11) (N := 11) hx hb hts inX11 hown hK hP 0 rfl rfl 1 (by decide) (hts _ wm_583) (fun _ h9 => h9) rfl dX11_takeFour_27 ?_
  refine lv_iconst (v := 1) hx hb dX11_takeFour_30 (by decide +kernel) ?_
  refine lv_iadd hx hb dX11_takeFour_31 ?_
  refine nrm (y := 8) (by decide +kernel) ?_
  refine va_put (D := D) (ci := 11) (v := .int 8) (ty := .int) (C := RX11) (T := TX11) (N := 11) hx hb hts inX11 tyX11 tyX11_ok nmX11 hown hK hP hD hS 0 rfl rfl 1 (by decide) (hts _ wm_583) (fun _ h9 => h9) rfl (by decide +kernel) rfl rfl (Nat.le_of_ble_eq_true rfl) dX11_takeFour_32 (fun H locs hP hD hS => ?_)
  have hP : va_P D vwCl [(h0, .inr (11, [.ref h1, .int 8, .ref g0, .ref g1, .ref g2, .ref g3, .ref g4, .ref g5, .ref g6, .ref g7, .ref g8])), (h1, .inl (cI, 300, .inl fz3))] H := hP
  have hD : va_D A [(h0, .inr (11, [.ref h1, .int 8, .ref g0, .ref g1, .ref g2, .ref g3, .ref g4, .ref g5, .ref g6, .ref g7, .ref g8])), (h1, .inl (cI, 300, .inl fz3))] := hD
  refine lv_iinc (v := (-8)) (lv' := [(2, .int (-8)), (0, .ref h0), (1, .int s0)]) hx hb dX11_takeFour_35 hl (k := 0) rfl (by decide +kernel) (by decide) rfl (fun ls hl => ?_)
  refine pcn (b := 38) rfl ?_
  refine lv_goto (tgt := 3) hx hb dX11_takeFour_38 (by decide) ?_
  refine lv_iload_n hx hb dX11_takeFour_3 rfl (lv_at hl 0 rfl) ?_
  refine lv_if_lt (tgt := 41) hx hb dX11_takeFour_4 (by decide) (fun _ => ?_) (fun h9 => absurd (by decide +kernel) h9)
  refine W.widen (k := 0) (n := 0) (Nat.le_of_ble_eq_true rfl) (Nat.le_of_ble_eq_true rfl) ?_
  exact rtV hx hb hr hlocks hS hP hD ⟨fz3, rfl⟩ dX11_takeFour_41

set_option maxHeartbeats 4000000 in
set_option maxRecDepth 100000 in
theorem c_X11_put_15 (l : Launch) (D : va_G) (cI cZ cB cJ : ClassId) (h0 : Nat) (f0 : Nat → Int32) (s0 : Int32) : CtV l D (TT cI cZ cB cJ) yX11_put cX11_put 3 none 0 0 0 0 [.ref h0, .int 8, .int s0] [(h0, .inl (cI, 300, .inl f0))] (fun w1 => ∃ (fz0 : Nat → Int32), w1 = [(h0, .inl (cI, 300, .inl fz0))]) := by
  refine CtV.of (by decide +kernel) (Nat.le_of_ble_eq_true rfl) ?_
  intro p e s m below meth c A ls hx hb hr hml hown hts hnw hlocks hin hA hS hP hK hD hl
  have hown : s.vm.findClass RX11 = some m.cls := hown
  have hl : lv_has ls 3 [(0, .ref h0), (1, .int 8), (2, .int s0)] := hl
  refine lv_iload_n hx hb dX11_put_0 rfl (lv_at hl 1 rfl) ?_
  refine lv_if_lt (tgt := 14) hx hb dX11_put_1 (by decide) (fun h9 => absurd h9 (by decide +kernel)) (fun _ => ?_)
  refine lv_iload_n hx hb dX11_put_4 rfl (lv_at hl 1 rfl) ?_
  refine lv_aload_n hx hb dX11_put_5 rfl (lv_at hl 0 rfl) ?_
  refine va_alen (v := 300) hx hb hK hP 0 0 rfl rfl (by show Int32.ofNat 300 = 300; decide +kernel) dX11_put_6 ?_
  refine lv_icmp_ge (tgt := 14) hx hb dX11_put_7 (by decide) (fun h9 => absurd h9 (by decide +kernel)) (fun _ => ?_)
  refine lv_aload_n hx hb dX11_put_10 rfl (lv_at hl 0 rfl) ?_
  refine pcn (b := 11) rfl ?_
  refine lv_iload_n hx hb dX11_put_11 rfl (lv_at hl 1 rfl) ?_
  refine lv_iload_n hx hb dX11_put_12 rfl (lv_at hl 2 rfl) ?_
  refine as_i_o hx hb hK hP hD hS 0 0 rfl rfl (vpi (by decide +kernel)) dX11_put_13 (fun H locs fz0 hP hD hS => ?_)
  have hP : va_P D vwCl [(h0, .inl (cI, 300, .inl fz0))] H := hP
  have hD : va_D A [(h0, .inl (cI, 300, .inl fz0))] := hD
  refine W.widen (k := 0) (n := 0) (Nat.le_of_ble_eq_true rfl) (Nat.le_of_ble_eq_true rfl) ?_
  exact rtV hx hb hr hlocks hS hP hD ⟨fz0, rfl⟩ dX11_put_14

set_option maxHeartbeats 4000000 in
set_option maxRecDepth 100000 in
theorem c_X11_put_16 (l : Launch) (D : va_G) (cI cZ cB cJ : ClassId) (h0 : Nat) (f0 : Nat → Int32) (s0 : Int32) : CtV l D (TT cI cZ cB cJ) yX11_put cX11_put 3 none 0 0 0 0 [.ref h0, .int 9, .int s0] [(h0, .inl (cI, 300, .inl f0))] (fun w1 => ∃ (fz0 : Nat → Int32), w1 = [(h0, .inl (cI, 300, .inl fz0))]) := by
  refine CtV.of (by decide +kernel) (Nat.le_of_ble_eq_true rfl) ?_
  intro p e s m below meth c A ls hx hb hr hml hown hts hnw hlocks hin hA hS hP hK hD hl
  have hown : s.vm.findClass RX11 = some m.cls := hown
  have hl : lv_has ls 3 [(0, .ref h0), (1, .int 9), (2, .int s0)] := hl
  refine lv_iload_n hx hb dX11_put_0 rfl (lv_at hl 1 rfl) ?_
  refine lv_if_lt (tgt := 14) hx hb dX11_put_1 (by decide) (fun h9 => absurd h9 (by decide +kernel)) (fun _ => ?_)
  refine lv_iload_n hx hb dX11_put_4 rfl (lv_at hl 1 rfl) ?_
  refine lv_aload_n hx hb dX11_put_5 rfl (lv_at hl 0 rfl) ?_
  refine va_alen (v := 300) hx hb hK hP 0 0 rfl rfl (by show Int32.ofNat 300 = 300; decide +kernel) dX11_put_6 ?_
  refine lv_icmp_ge (tgt := 14) hx hb dX11_put_7 (by decide) (fun h9 => absurd h9 (by decide +kernel)) (fun _ => ?_)
  refine lv_aload_n hx hb dX11_put_10 rfl (lv_at hl 0 rfl) ?_
  refine pcn (b := 11) rfl ?_
  refine lv_iload_n hx hb dX11_put_11 rfl (lv_at hl 1 rfl) ?_
  refine lv_iload_n hx hb dX11_put_12 rfl (lv_at hl 2 rfl) ?_
  refine as_i_o hx hb hK hP hD hS 0 0 rfl rfl (vpi (by decide +kernel)) dX11_put_13 (fun H locs fz0 hP hD hS => ?_)
  have hP : va_P D vwCl [(h0, .inl (cI, 300, .inl fz0))] H := hP
  have hD : va_D A [(h0, .inl (cI, 300, .inl fz0))] := hD
  refine W.widen (k := 0) (n := 0) (Nat.le_of_ble_eq_true rfl) (Nat.le_of_ble_eq_true rfl) ?_
  exact rtV hx hb hr hlocks hS hP hD ⟨fz0, rfl⟩ dX11_put_14

set_option maxHeartbeats 4000000 in
set_option maxRecDepth 100000 in
theorem c_X11_put_17 (l : Launch) (D : va_G) (cI cZ cB cJ : ClassId) (h0 : Nat) (f0 : Nat → Int32) (s0 : Int32) : CtV l D (TT cI cZ cB cJ) yX11_put cX11_put 3 none 0 0 0 0 [.ref h0, .int 10, .int s0] [(h0, .inl (cI, 300, .inl f0))] (fun w1 => ∃ (fz0 : Nat → Int32), w1 = [(h0, .inl (cI, 300, .inl fz0))]) := by
  refine CtV.of (by decide +kernel) (Nat.le_of_ble_eq_true rfl) ?_
  intro p e s m below meth c A ls hx hb hr hml hown hts hnw hlocks hin hA hS hP hK hD hl
  have hown : s.vm.findClass RX11 = some m.cls := hown
  have hl : lv_has ls 3 [(0, .ref h0), (1, .int 10), (2, .int s0)] := hl
  refine lv_iload_n hx hb dX11_put_0 rfl (lv_at hl 1 rfl) ?_
  refine lv_if_lt (tgt := 14) hx hb dX11_put_1 (by decide) (fun h9 => absurd h9 (by decide +kernel)) (fun _ => ?_)
  refine lv_iload_n hx hb dX11_put_4 rfl (lv_at hl 1 rfl) ?_
  refine lv_aload_n hx hb dX11_put_5 rfl (lv_at hl 0 rfl) ?_
  refine va_alen (v := 300) hx hb hK hP 0 0 rfl rfl (by show Int32.ofNat 300 = 300; decide +kernel) dX11_put_6 ?_
  refine lv_icmp_ge (tgt := 14) hx hb dX11_put_7 (by decide) (fun h9 => absurd h9 (by decide +kernel)) (fun _ => ?_)
  refine lv_aload_n hx hb dX11_put_10 rfl (lv_at hl 0 rfl) ?_
  refine pcn (b := 11) rfl ?_
  refine lv_iload_n hx hb dX11_put_11 rfl (lv_at hl 1 rfl) ?_
  refine lv_iload_n hx hb dX11_put_12 rfl (lv_at hl 2 rfl) ?_
  refine as_i_o hx hb hK hP hD hS 0 0 rfl rfl (vpi (by decide +kernel)) dX11_put_13 (fun H locs fz0 hP hD hS => ?_)
  have hP : va_P D vwCl [(h0, .inl (cI, 300, .inl fz0))] H := hP
  have hD : va_D A [(h0, .inl (cI, 300, .inl fz0))] := hD
  refine W.widen (k := 0) (n := 0) (Nat.le_of_ble_eq_true rfl) (Nat.le_of_ble_eq_true rfl) ?_
  exact rtV hx hb hr hlocks hS hP hD ⟨fz0, rfl⟩ dX11_put_14

set_option maxHeartbeats 4000000 in
set_option maxRecDepth 100000 in
theorem c_X11_put_18 (l : Launch) (D : va_G) (cI cZ cB cJ : ClassId) (h0 : Nat) (f0 : Nat → Int32) (s0 : Int32) : CtV l D (TT cI cZ cB cJ) yX11_put cX11_put 3 none 0 0 0 0 [.ref h0, .int 11, .int s0] [(h0, .inl (cI, 300, .inl f0))] (fun w1 => ∃ (fz0 : Nat → Int32), w1 = [(h0, .inl (cI, 300, .inl fz0))]) := by
  refine CtV.of (by decide +kernel) (Nat.le_of_ble_eq_true rfl) ?_
  intro p e s m below meth c A ls hx hb hr hml hown hts hnw hlocks hin hA hS hP hK hD hl
  have hown : s.vm.findClass RX11 = some m.cls := hown
  have hl : lv_has ls 3 [(0, .ref h0), (1, .int 11), (2, .int s0)] := hl
  refine lv_iload_n hx hb dX11_put_0 rfl (lv_at hl 1 rfl) ?_
  refine lv_if_lt (tgt := 14) hx hb dX11_put_1 (by decide) (fun h9 => absurd h9 (by decide +kernel)) (fun _ => ?_)
  refine lv_iload_n hx hb dX11_put_4 rfl (lv_at hl 1 rfl) ?_
  refine lv_aload_n hx hb dX11_put_5 rfl (lv_at hl 0 rfl) ?_
  refine va_alen (v := 300) hx hb hK hP 0 0 rfl rfl (by show Int32.ofNat 300 = 300; decide +kernel) dX11_put_6 ?_
  refine lv_icmp_ge (tgt := 14) hx hb dX11_put_7 (by decide) (fun h9 => absurd h9 (by decide +kernel)) (fun _ => ?_)
  refine lv_aload_n hx hb dX11_put_10 rfl (lv_at hl 0 rfl) ?_
  refine pcn (b := 11) rfl ?_
  refine lv_iload_n hx hb dX11_put_11 rfl (lv_at hl 1 rfl) ?_
  refine lv_iload_n hx hb dX11_put_12 rfl (lv_at hl 2 rfl) ?_
  refine as_i_o hx hb hK hP hD hS 0 0 rfl rfl (vpi (by decide +kernel)) dX11_put_13 (fun H locs fz0 hP hD hS => ?_)
  have hP : va_P D vwCl [(h0, .inl (cI, 300, .inl fz0))] H := hP
  have hD : va_D A [(h0, .inl (cI, 300, .inl fz0))] := hD
  refine W.widen (k := 0) (n := 0) (Nat.le_of_ble_eq_true rfl) (Nat.le_of_ble_eq_true rfl) ?_
  exact rtV hx hb hr hlocks hS hP hD ⟨fz0, rfl⟩ dX11_put_14

set_option maxHeartbeats 4000000 in
set_option maxRecDepth 100000 in
theorem c_X11_takeFour_2 (l : Launch) (D : va_G) (cI cZ cB cJ : ClassId) (h0 h1 g0 g1 g2 g3 g4 g5 g6 g7 g8 : Nat) (f0 : Nat → Int32) (s0 : Int32) : CtV l D (TT cI cZ cB cJ) yX11_takeFour cX11_takeFour 3 none 1 22 0 0 [.ref h0, .int s0] [(h0, .inr (11, [.ref h1, .int 8, .ref g0, .ref g1, .ref g2, .ref g3, .ref g4, .ref g5, .ref g6, .ref g7, .ref g8])), (h1, .inl (cI, 300, .inl f0))] (fun w1 => ∃ (fz3 : Nat → Int32), w1 = [(h0, .inr (11, [.ref h1, .int 12, .ref g0, .ref g1, .ref g2, .ref g3, .ref g4, .ref g5, .ref g6, .ref g7, .ref g8])), (h1, .inl (cI, 300, .inl fz3))]) := by
  refine CtV.of (by decide +kernel) (Nat.le_of_ble_eq_true rfl) ?_
  intro p e s m below meth c A ls hx hb hr hml hown hts hnw hlocks hin hA hS hP hK hD hl
  have hown : s.vm.findClass RX11 = some m.cls := hown
  have hl : lv_has ls 3 [(0, .ref h0), (1, .int s0)] := hl
  refine lv_bipush (v := 24) hx hb dX11_takeFour_0 (by decide +kernel) ?_
  refine lv_istore_n (lv' := [(2, .int 24), (0, .ref h0), (1, .int s0)]) hx hb dX11_takeFour_2 rfl hl (by decide) rfl (fun ls hl => ?_)
  refine lv_iload_n hx hb dX11_takeFour_3 rfl (lv_at hl 0 rfl) ?_
  refine lv_if_lt (tgt := 41) hx hb dX11_takeFour_4 (by decide) (fun h9 => absurd h9 (by decide +kernel)) (fun _ => ?_)
  refine lv_aload_n hx hb dX11_takeFour_7 rfl (lv_at hl 1 rfl) ?_
  refine va_get (D := D) (ci := 11) (v := .ref h1) (C := RX11) (T := TX11) (N := 11) hx hb hts inX11 hown hK hP 0 rfl rfl 0 (by decide) (hts _ wm_582) (fun _ h9 => h9) rfl dX11_takeFour_8 ?_
  refine lv_aload_n hx hb dX11_takeFour_11 rfl (lv_at hl 1 rfl) ?_
  refine pcn (b := 12) rfl ?_
  refine va_get (D := D) (ci := 11) (v := .int 8) (C := RX11) (T := TX11) (N := 11) hx hb hts inX11 hown hK hP 0 rfl rfl 1 (by decide) (hts _ wm_583) (fun _ h9 => h9) rfl dX11_takeFour_12 ?_
  refine lv_iload_n hx hb dX11_takeFour_15 rfl (lv_at hl 2 rfl) ?_
  refine lv_iload_n hx hb dX11_takeFour_16 rfl (lv_at hl 0 rfl) ?_
  refine lv_iushr hx hb dX11_takeFour_17 rfl ?_
  refine lv_topi (fun y0 _ => ?_)
  refine lv_sipush (v := 255) hx hb dX11_takeFour_18 (by decide +kernel) ?_
  refine lv_iand hx hb dX11_takeFour_21 ?_
  refine lv_topi (fun y1 _ => ?_)
  refine kSv (As := [.ref h1, .int 8, .int y1]) (rest := []) (wr := [(h0, .inr (11, [.ref h1, .int 8, .ref g0, .ref g1, .ref g2, .ref g3, .ref g4, .ref g5, .ref g6, .ref g7, .ref g8]))]) hx hb hml hown hts hnw hK hP hD hS hA hl.1 (c_X11_put_15 l D cI cZ cB cJ h1 f0 y1) yk_X11_put wm_624 [1] [0] rfl rfl (by decide) (by decide) (by decide) rfl rfl dX11_takeFour_22 ⟨Nat.le_of_ble_eq_true rfl, Nat.le_of_ble_eq_true rfl⟩ ⟨Nat.le_of_ble_eq_true rfl, Nat.le_of_ble_eq_true rfl⟩ (Nat.le_of_ble_eq_true rfl) (fun w1 H locs hq9 hP hD hS => ?_)
  obtain ⟨fz0, rfl⟩ := hq9
  have hP : va_P D vwCl [(h0, .inr (11, [.ref h1, .int 8, .ref g0, .ref g1, .ref g2, .ref g3, .ref g4, .ref g5, .ref g6, .ref g7, .ref g8])), (h1, .inl (cI, 300, .inl fz0))] H := hP
  have hD : va_D A [(h0, .inr (11, [.ref h1, .int 8, .ref g0, .ref g1, .ref g2, .ref g3, .ref g4, .ref g5, .ref g6, .ref g7, .ref g8])), (h1, .inl (cI, 300, .inl fz0))] := hD
  refine W.widen (k := 0) (n := 0) (Nat.le_of_ble_eq_true rfl) (Nat.le_of_ble_eq_true rfl) ?_
  refine pcn (b := 25) rfl ?_
  refine lv_aload_n hx hb dX11_takeFour_25 rfl (lv_at hl 1 rfl) ?_
  refine lv_dup hx hb dX11_takeFour_26 rfl ?_
  refine va_get (D := D) (ci := 11) (v := .int 8) (C := RX11) (T := TX11) (N := 11) hx hb hts inX11 hown hK hP 0 rfl rfl 1 (by decide) (hts _ wm_583) (fun _ h9 => h9) rfl dX11_takeFour_27 ?_
  refine lv_iconst (v := 1) hx hb dX11_takeFour_30 (by decide +kernel) ?_
  refine lv_iadd hx hb dX11_takeFour_31 ?_
  refine nrm (y := 9) (by decide +kernel) ?_
  refine va_put (D := D) (ci := 11) (v := .int 9) (ty := .int) (C := RX11) (T := TX11) (N := 11) hx hb hts inX11 tyX11 tyX11_ok nmX11 hown hK hP hD hS 0 rfl rfl 1 (by decide) (hts _ wm_583) (fun _ h9 => h9) rfl (by decide +kernel) rfl rfl (Nat.le_of_ble_eq_true rfl) dX11_takeFour_32 (fun H locs hP hD hS => ?_)
  have hP : va_P D vwCl [(h0, .inr (11, [.ref h1, .int 9, .ref g0, .ref g1, .ref g2, .ref g3, .ref g4, .ref g5, .ref g6, .ref g7, .ref g8])), (h1, .inl (cI, 300, .inl fz0))] H := hP
  have hD : va_D A [(h0, .inr (11, [.ref h1, .int 9, .ref g0, .ref g1, .ref g2, .ref g3, .ref g4, .ref g5, .ref g6, .ref g7, .ref g8])), (h1, .inl (cI, 300, .inl fz0))] := hD
  refine lv_iinc (v := 16) (lv' := [(2, .int 16), (0, .ref h0), (1, .int s0)]) hx hb dX11_takeFour_35 hl (k := 0) rfl (by decide +kernel) (by decide) rfl (fun ls hl => ?_)
  refine pcn (b := 38) rfl ?_
  refine lv_goto (tgt := 3) hx hb dX11_takeFour_38 (by decide) ?_
  refine lv_iload_n hx hb dX11_takeFour_3 rfl (lv_at hl 0 rfl) ?_
  refine lv_if_lt (tgt := 41) hx hb dX11_takeFour_4 (by decide) (fun h9 => absurd h9 (by decide +kernel)) (fun _ => ?_)
  refine lv_aload_n hx hb dX11_takeFour_7 rfl (lv_at hl 1 rfl) ?_
  refine va_get (D := D) (ci := 11) (v := .ref h1) (C := RX11) (T := TX11) (N := 11) hx hb hts inX11 hown hK hP 0 rfl rfl 0 (by decide) (hts _ wm_582) (fun _ h9 => h9) rfl dX11_takeFour_8 ?_
  refine lv_aload_n hx hb dX11_takeFour_11 rfl (lv_at hl 1 rfl) ?_
  refine va_get (D := D) (ci := 11) (v := .int 9) (C := RX11) (T := TX11) (N := 11) hx hb hts inX11 hown hK hP 0 rfl rfl 1 (by decide) (hts _ wm_583) (fun _ h9 => h9) rfl dX11_takeFour_12 ?_
  refine lv_iload_n hx hb dX11_takeFour_15 rfl (lv_at hl 2 rfl) ?_
  refine pcn (b := 16) rfl ?_
  refine lv_iload_n hx hb dX11_takeFour_16 rfl (lv_at hl 0 rfl) ?_
  refine lv_iushr hx hb dX11_takeFour_17 rfl ?_
  refine lv_topi (fun y2 _ => ?_)
  refine lv_sipush (v := 255) hx hb dX11_takeFour_18 (by decide +kernel) ?_
  refine lv_iand hx hb dX11_takeFour_21 ?_
  refine lv_topi (fun y3 _ => ?_)
  refine kSv (As := [.ref h1, .int 9, .int y3]) (rest := []) (wr := [(h0, .inr (11, [.ref h1, .int 9, .ref g0, .ref g1, .ref g2, .ref g3, .ref g4, .ref g5, .ref g6, .ref g7, .ref g8]))]) hx hb hml hown hts hnw hK hP hD hS hA hl.1 (c_X11_put_16 l D cI cZ cB cJ h1 fz0 y3) yk_X11_put wm_624 [1] [0] rfl rfl (by decide) (by decide) (by decide) rfl rfl dX11_takeFour_22 ⟨Nat.le_of_ble_eq_true rfl, Nat.le_of_ble_eq_true rfl⟩ ⟨Nat.le_of_ble_eq_true rfl, Nat.le_of_ble_eq_true rfl⟩ (Nat.le_of_ble_eq_true rfl) (fun w1 H locs hq9 hP hD hS => ?_)
  obtain ⟨fz1, rfl⟩ := hq9
  have hP : va_P D vwCl [(h0, .inr (11, [.ref h1, .int 9, .ref g0, .ref g1, .ref g2, .ref g3, .ref g4, .ref g5, .ref g6, .ref g7, .ref g8])), (h1, .inl (cI, 300, .inl fz1))] H := hP
  have hD : va_D A [(h0, .inr (11, [.ref h1, .int 9, .ref g0, .ref g1, .ref g2, .ref g3, .ref g4, .ref g5, .ref g6, .ref g7, .ref g8])), (h1, .inl (cI, 300, .inl fz1))] := hD
  refine W.widen (k := 0) (n := 0) (Nat.le_of_ble_eq_true rfl) (Nat.le_of_ble_eq_true rfl) ?_
  refine pcn (b := 25) rfl ?_
  refine lv_aload_n hx hb dX11_takeFour_25 rfl (lv_at hl 1 rfl) ?_
  refine lv_dup hx hb dX11_takeFour_26 rfl ?_
  refine va_get (D := D) (ci := 11) (v := .int 9) (C := RX11) (T := TX11) (N := 11) hx hb hts inX11 hown hK hP 0 rfl rfl 1 (by decide) (hts _ wm_583) (fun _ h9 => h9) rfl dX11_takeFour_27 ?_
  refine lv_iconst (v := 1) hx hb dX11_takeFour_30 (by decide +kernel) ?_
  refine lv_iadd hx hb dX11_takeFour_31 ?_
  refine nrm (y := 10) (by decide +kernel) ?_
  refine va_put (D := D) (ci := 11) (v := .int 10) (ty := .int) (C := RX11) (T := TX11) (N := 11) hx hb hts inX11 tyX11 tyX11_ok nmX11 hown hK hP hD hS 0 rfl rfl 1 (by decide) (hts _ wm_583) (fun _ h9 => h9) rfl (by decide +kernel) rfl rfl (Nat.le_of_ble_eq_true rfl) dX11_takeFour_32 (fun H locs hP hD hS => ?_)
  have hP : va_P D vwCl [(h0, .inr (11, [.ref h1, .int 10, .ref g0, .ref g1, .ref g2, .ref g3, .ref g4, .ref g5, .ref g6, .ref g7, .ref g8])), (h1, .inl (cI, 300, .inl fz1))] H := hP
  have hD : va_D A [(h0, .inr (11, [.ref h1, .int 10, .ref g0, .ref g1, .ref g2, .ref g3, .ref g4, .ref g5, .ref g6, .ref g7, .ref g8])), (h1, .inl (cI, 300, .inl fz1))] := hD
  refine lv_iinc (v := 8) (lv' := [(2, .int 8), (0, .ref h0), (1, .int s0)]) hx hb dX11_takeFour_35 hl (k := 0) rfl (by decide +kernel) (by decide) rfl (fun ls hl => ?_)
  refine pcn (b := 38) rfl ?_
  refine lv_goto (tgt := 3) hx hb dX11_takeFour_38 (by decide) ?_
  refine lv_iload_n hx hb dX11_takeFour_3 rfl (lv_at hl 0 rfl) ?_
  refine lv_if_lt (tgt := 41) hx hb dX11_takeFour_4 (by decide) (fun h9 => absurd h9 (by decide +kernel)) (fun _ => ?_)
  refine lv_aload_n hx hb dX11_takeFour_7 rfl (lv_at hl 1 rfl) ?_
  refine va_get (D := D) (ci := 11) (v := .ref h1) (C := RX11) (T := TX11) (N := 11) hx hb hts inX11 hown hK hP 0 rfl rfl 0 (by decide) (hts _ wm_582) (fun _ h9 => h9) rfl dX11_takeFour_8 ?_
  refine lv_aload_n hx hb dX11_takeFour_11 rfl (lv_at hl 1 rfl) ?_
  refine va_get (D := D) (ci := 11) (v := .int 10) (C := RX11) (T := TX11) (N := 11) hx hb hts inX11 hown hK hP 0 rfl rfl 1 (by decide) (hts _ wm_583) (fun _ h9 => h9) rfl dX11_takeFour_12 ?_
  refine lv_iload_n hx hb dX11_takeFour_15 rfl (lv_at hl 2 rfl) ?_
  refine pcn (b := 16) rfl ?_
  refine lv_iload_n hx hb dX11_takeFour_16 rfl (lv_at hl 0 rfl) ?_
  refine lv_iushr hx hb dX11_takeFour_17 rfl ?_
  refine lv_topi (fun y4 _ => ?_)
  refine lv_sipush (v := 255) hx hb dX11_takeFour_18 (by decide +kernel) ?_
  refine lv_iand hx hb dX11_takeFour_21 ?_
  refine lv_topi (fun y5 _ => ?_)
  refine kSv (As := [.ref h1, .int 10, .int y5]) (rest := []) (wr := [(h0, .inr (11, [.ref h1, .int 10, .ref g0, .ref g1, .ref g2, .ref g3, .ref g4, .ref g5, .ref g6, .ref g7, .ref g8]))]) hx hb hml hown hts hnw hK hP hD hS hA hl.1 (c_X11_put_17 l D cI cZ cB cJ h1 fz1 y5) yk_X11_put wm_624 [1] [0] rfl rfl (by decide) (by decide) (by decide) rfl rfl dX11_takeFour_22 ⟨Nat.le_of_ble_eq_true rfl, Nat.le_of_ble_eq_true rfl⟩ ⟨Nat.le_of_ble_eq_true rfl, Nat.le_of_ble_eq_true rfl⟩ (Nat.le_of_ble_eq_true rfl) (fun w1 H locs hq9 hP hD hS => ?_)
  obtain ⟨fz2, rfl⟩ := hq9
  have hP : va_P D vwCl [(h0, .inr (11, [.ref h1, .int 10, .ref g0, .ref g1, .ref g2, .ref g3, .ref g4, .ref g5, .ref g6, .ref g7, .ref g8])), (h1, .inl (cI, 300, .inl fz2))] H := hP
  have hD : va_D A [(h0, .inr (11, [.ref h1, .int 10, .ref g0, .ref g1, .ref g2, .ref g3, .ref g4, .ref g5, .ref g6, .ref g7, .ref g8])), (h1, .inl (cI, 300, .inl fz2))] := hD
  refine W.widen (k := 0) (n := 0) (Nat.le_of_ble_eq_true rfl) (Nat.le_of_ble_eq_true rfl) ?_
  refine pcn (b := 25) rfl ?_
  refine lv_aload_n hx hb dX11_takeFour_25 rfl (lv_at hl 1 rfl) ?_
  refine lv_dup hx hb dX11_takeFour_26 rfl ?_
  refine va_get (D := D) (ci := 11) (v := .int 10) (C := RX11) (T := TX11) (N := 11) hx hb hts inX11 hown hK hP 0 rfl rfl 1 (by decide) (hts _ wm_583) (fun _ h9 => h9) rfl dX11_takeFour_27 ?_
  refine lv_iconst (v := 1) hx hb dX11_takeFour_30 (by decide +kernel) ?_
  refine lv_iadd hx hb dX11_takeFour_31 ?_
  refine nrm (y := 11) (by decide +kernel) ?_
  refine va_put (D := D) (ci := 11) (v := .int 11) (ty := .int) (C := RX11) (T := TX11) (N := 11) hx hb hts inX11 tyX11 tyX11_ok nmX11 hown hK hP hD hS 0 rfl rfl 1 (by decide) (hts _ wm_583) (fun _ h9 => h9) rfl (by decide +kernel) rfl rfl (Nat.le_of_ble_eq_true rfl) dX11_takeFour_32 (fun H locs hP hD hS => ?_)
  have hP : va_P D vwCl [(h0, .inr (11, [.ref h1, .int 11, .ref g0, .ref g1, .ref g2, .ref g3, .ref g4, .ref g5, .ref g6, .ref g7, .ref g8])), (h1, .inl (cI, 300, .inl fz2))] H := hP
  have hD : va_D A [(h0, .inr (11, [.ref h1, .int 11, .ref g0, .ref g1, .ref g2, .ref g3, .ref g4, .ref g5, .ref g6, .ref g7, .ref g8])), (h1, .inl (cI, 300, .inl fz2))] := hD
  refine lv_iinc (v := 0) (lv' := [(2, .int 0), (0, .ref h0), (1, .int s0)]) hx hb dX11_takeFour_35 hl (k := 0) rfl (by decide +kernel) (by decide) rfl (fun ls hl => ?_)
  refine pcn (b := 38) rfl ?_
  refine lv_goto (tgt := 3) hx hb dX11_takeFour_38 (by decide) ?_
  refine lv_iload_n hx hb dX11_takeFour_3 rfl (lv_at hl 0 rfl) ?_
  refine lv_if_lt (tgt := 41) hx hb dX11_takeFour_4 (by decide) (fun h9 => absurd h9 (by decide +kernel)) (fun _ => ?_)
  refine lv_aload_n hx hb dX11_takeFour_7 rfl (lv_at hl 1 rfl) ?_
  refine va_get (D := D) (ci := 11) (v := .ref h1) (C := RX11) (T := TX11) (N := 11) hx hb hts inX11 hown hK hP 0 rfl rfl 0 (by decide) (hts _ wm_582) (fun _ h9 => h9) rfl dX11_takeFour_8 ?_
  refine lv_aload_n hx hb dX11_takeFour_11 rfl (lv_at hl 1 rfl) ?_
  refine va_get (D := D) (ci := 11) (v := .int 11) (C := RX11) (T := TX11) (N := 11) hx hb hts inX11 hown hK hP 0 rfl rfl 1 (by decide) (hts _ wm_583) (fun _ h9 => h9) rfl dX11_takeFour_12 ?_
  refine lv_iload_n hx hb dX11_takeFour_15 rfl (lv_at hl 2 rfl) ?_
  refine pcn (b := 16) rfl ?_
  refine lv_iload_n hx hb dX11_takeFour_16 rfl (lv_at hl 0 rfl) ?_
  refine lv_iushr hx hb dX11_takeFour_17 rfl ?_
  refine lv_topi (fun y6 _ => ?_)
  refine lv_sipush (v := 255) hx hb dX11_takeFour_18 (by decide +kernel) ?_
  refine lv_iand hx hb dX11_takeFour_21 ?_
  refine lv_topi (fun y7 _ => ?_)
  refine kSv (As := [.ref h1, .int 11, .int y7]) (rest := []) (wr := [(h0, .inr (11, [.ref h1, .int 11, .ref g0, .ref g1, .ref g2, .ref g3, .ref g4, .ref g5, .ref g6, .ref g7, .ref g8]))]) hx hb hml hown hts hnw hK hP hD hS hA hl.1 (c_X11_put_18 l D cI cZ cB cJ h1 fz2 y7) yk_X11_put wm_624 [1] [0] rfl rfl (by decide) (by decide) (by decide) rfl rfl dX11_takeFour_22 ⟨Nat.le_of_ble_eq_true rfl, Nat.le_of_ble_eq_true rfl⟩ ⟨Nat.le_of_ble_eq_true rfl, Nat.le_of_ble_eq_true rfl⟩ (Nat.le_of_ble_eq_true rfl) (fun w1 H locs hq9 hP hD hS => ?_)
  obtain ⟨fz3, rfl⟩ := hq9
  have hP : va_P D vwCl [(h0, .inr (11, [.ref h1, .int 11, .ref g0, .ref g1, .ref g2, .ref g3, .ref g4, .ref g5, .ref g6, .ref g7, .ref g8])), (h1, .inl (cI, 300, .inl fz3))] H := hP
  have hD : va_D A [(h0, .inr (11, [.ref h1, .int 11, .ref g0, .ref g1, .ref g2, .ref g3, .ref g4, .ref g5, .ref g6, .ref g7, .ref g8])), (h1, .inl (cI, 300, .inl fz3))] := hD
  refine W.widen (k := 0) (n := 0) (Nat.le_of_ble_eq_true rfl) (Nat.le_of_ble_eq_true rfl) ?_
  refine pcn (b := 25) rfl ?_
  refine lv_aload_n hx hb dX11_takeFour_25 rfl (lv_at hl 1 rfl) ?_
  refine lv_dup hx hb dX11_takeFour_26 rfl ?_
  refine va_get (D := D) (ci := 11) (v := .int 11) (C := RX11) (T := TX11) (N := 11) hx hb hts inX11 hown hK hP 0 rfl rfl 1 (by decide) (hts _ wm_583) (fun _ h9 => h9) rfl dX11_takeFour_27 ?_
  refine lv_iconst (v := 1) hx hb dX11_takeFour_30 (by decide +kernel) ?_
  refine lv_iadd hx hb dX11_takeFour_31 ?_
  refine nrm (y := 12) (by decide +kernel) ?_
  refine va_put (D := D) (ci := 11) (v := .int 12) (ty := .int) (C := RX11) (T := TX11) (N := 11) hx hb hts inX11 tyX11 tyX11_ok nmX11 hown hK hP hD hS 0 rfl rfl 1 (by decide) (hts _ wm_583) (fun _ h9 => h9) rfl (by decide +kernel) rfl rfl (Nat.le_of_ble_eq_true rfl) dX11_takeFour_32 (fun H locs hP hD hS => ?_)
  have hP : va_P D vwCl [(h0, .inr (11, [.ref h1, .int 12, .ref g0, .ref g1, .ref g2, .ref g3, .ref g4, .ref g5, .ref g6, .ref g7, .ref g8])), (h1, .inl (cI, 300, .inl fz3))] H := hP
  have hD : va_D A [(h0, .inr (11, [.ref h1, .int 12, .ref g0, .ref g1, .ref g2, .ref g3, .ref g4, .ref g5, .ref g6, .ref g7, .ref g8])), (h1, .inl (cI, 300, .inl fz3))] := hD
  refine lv_iinc (v := (-8)) (lv' := [(2, .int (-8)), (0, .ref h0), (1, .int s0)]) hx hb dX11_takeFour_35 hl (k := 0) rfl (by decide +kernel) (by decide) rfl (fun ls hl => ?_)
  refine pcn (b := 38) rfl ?_
  refine lv_goto (tgt := 3) hx hb dX11_takeFour_38 (by decide) ?_
  refine lv_iload_n hx hb dX11_takeFour_3 rfl (lv_at hl 0 rfl) ?_
  refine lv_if_lt (tgt := 41) hx hb dX11_takeFour_4 (by decide) (fun _ => ?_) (fun h9 => absurd (by decide +kernel) h9)
  refine W.widen (k := 0) (n := 0) (Nat.le_of_ble_eq_true rfl) (Nat.le_of_ble_eq_true rfl) ?_
  exact rtV hx hb hr hlocks hS hP hD ⟨fz3, rfl⟩ dX11_takeFour_41

set_option maxHeartbeats 4000000 in
set_option maxRecDepth 100000 in
theorem c_X11_put_19 (l : Launch) (D : va_G) (cI cZ cB cJ : ClassId) (h0 : Nat) (f0 : Nat → Int32) (s0 : Int32) : CtV l D (TT cI cZ cB cJ) yX11_put cX11_put 3 none 0 0 0 0 [.ref h0, .int 12, .int s0] [(h0, .inl (cI, 300, .inl f0))] (fun w1 => ∃ (fz0 : Nat → Int32), w1 = [(h0, .inl (cI, 300, .inl fz0))]) := by
  refine CtV.of (by decide +kernel) (Nat.le_of_ble_eq_true rfl) ?_
  intro p e s m below meth c A ls hx hb hr hml hown hts hnw hlocks hin hA hS hP hK hD hl
  have hown : s.vm.findClass RX11 = some m.cls := hown
  have hl : lv_has ls 3 [(0, .ref h0), (1, .int 12), (2, .int s0)] := hl
  refine lv_iload_n hx hb dX11_put_0 rfl (lv_at hl 1 rfl) ?_
  refine lv_if_lt (tgt := 14) hx hb dX11_put_1 (by decide) (fun h9 => absurd h9 (by decide +kernel)) (fun _ => ?_)
  refine lv_iload_n hx hb dX11_put_4 rfl (lv_at hl 1 rfl) ?_
  refine lv_aload_n hx hb dX11_put_5 rfl (lv_at hl 0 rfl) ?_
  refine va_alen (v := 300) hx hb hK hP 0 0 rfl rfl (by show Int32.ofNat 300 = 300; decide +kernel) dX11_put_6 ?_
  refine lv_icmp_ge (tgt := 14) hx hb dX11_put_7 (by decide) (fun h9 => absurd h9 (by decide +kernel)) (fun _ => ?_)
  refine lv_aload_n hx hb dX11_put_10 rfl (lv_at hl 0 rfl) ?_
  refine pcn (b := 11) rfl ?_
  refine lv_iload_n hx hb dX11_put_11 rfl (lv_at hl 1 rfl) ?_
  refine lv_iload_n hx hb dX11_put_12 rfl (lv_at hl 2 rfl) ?_
  refine as_i_o hx hb hK hP hD hS 0 0 rfl rfl (vpi (by decide +kernel)) dX11_put_13 (fun H locs fz0 hP hD hS => ?_)
  have hP : va_P D vwCl [(h0, .inl (cI, 300, .inl fz0))] H := hP
  have hD : va_D A [(h0, .inl (cI, 300, .inl fz0))] := hD
  refine W.widen (k := 0) (n := 0) (Nat.le_of_ble_eq_true rfl) (Nat.le_of_ble_eq_true rfl) ?_
  exact rtV hx hb hr hlocks hS hP hD ⟨fz0, rfl⟩ dX11_put_14

set_option maxHeartbeats 4000000 in
set_option maxRecDepth 100000 in
theorem c_X11_put_20 (l : Launch) (D : va_G) (cI cZ cB cJ : ClassId) (h0 : Nat) (f0 : Nat → Int32) (s0 : Int32) : CtV l D (TT cI cZ cB cJ) yX11_put cX11_put 3 none 0 0 0 0 [.ref h0, .int 13, .int s0] [(h0, .inl (cI, 300, .inl f0))] (fun w1 => ∃ (fz0 : Nat → Int32), w1 = [(h0, .inl (cI, 300, .inl fz0))]) := by
  refine CtV.of (by decide +kernel) (Nat.le_of_ble_eq_true rfl) ?_
  intro p e s m below meth c A ls hx hb hr hml hown hts hnw hlocks hin hA hS hP hK hD hl
  have hown : s.vm.findClass RX11 = some m.cls := hown
  have hl : lv_has ls 3 [(0, .ref h0), (1, .int 13), (2, .int s0)] := hl
  refine lv_iload_n hx hb dX11_put_0 rfl (lv_at hl 1 rfl) ?_
  refine lv_if_lt (tgt := 14) hx hb dX11_put_1 (by decide) (fun h9 => absurd h9 (by decide +kernel)) (fun _ => ?_)
  refine lv_iload_n hx hb dX11_put_4 rfl (lv_at hl 1 rfl) ?_
  refine lv_aload_n hx hb dX11_put_5 rfl (lv_at hl 0 rfl) ?_
  refine va_alen (v := 300) hx hb hK hP 0 0 rfl rfl (by show Int32.ofNat 300 = 300; decide +kernel) dX11_put_6 ?_
  refine lv_icmp_ge (tgt := 14) hx hb dX11_put_7 (by decide) (fun h9 => absurd h9 (by decide +kernel)) (fun _ => ?_)
  refine lv_aload_n hx hb dX11_put_10 rfl (lv_at hl 0 rfl) ?_
  refine pcn (b := 11) rfl ?_
  refine lv_iload_n hx hb dX11_put_11 rfl (lv_at hl 1 rfl) ?_
  refine lv_iload_n hx hb dX11_put_12 rfl (lv_at hl 2 rfl) ?_
  refine as_i_o hx hb hK hP hD hS 0 0 rfl rfl (vpi (by decide +kernel)) dX11_put_13 (fun H locs fz0 hP hD hS => ?_)
  have hP : va_P D vwCl [(h0, .inl (cI, 300, .inl fz0))] H := hP
  have hD : va_D A [(h0, .inl (cI, 300, .inl fz0))] := hD
  refine W.widen (k := 0) (n := 0) (Nat.le_of_ble_eq_true rfl) (Nat.le_of_ble_eq_true rfl) ?_
  exact rtV hx hb hr hlocks hS hP hD ⟨fz0, rfl⟩ dX11_put_14

set_option maxHeartbeats 4000000 in
set_option maxRecDepth 100000 in
theorem c_X11_put_21 (l : Launch) (D : va_G) (cI cZ cB cJ : ClassId) (h0 : Nat) (f0 : Nat → Int32) (s0 : Int32) : CtV l D (TT cI cZ cB cJ) yX11_put cX11_put 3 none 0 0 0 0 [.ref h0, .int 14, .int s0] [(h0, .inl (cI, 300, .inl f0))] (fun w1 => ∃ (fz0 : Nat → Int32), w1 = [(h0, .inl (cI, 300, .inl fz0))]) := by
  refine CtV.of (by decide +kernel) (Nat.le_of_ble_eq_true rfl) ?_
  intro p e s m below meth c A ls hx hb hr hml hown hts hnw hlocks hin hA hS hP hK hD hl
  have hown : s.vm.findClass RX11 = some m.cls := hown
  have hl : lv_has ls 3 [(0, .ref h0), (1, .int 14), (2, .int s0)] := hl
  refine lv_iload_n hx hb dX11_put_0 rfl (lv_at hl 1 rfl) ?_
  refine lv_if_lt (tgt := 14) hx hb dX11_put_1 (by decide) (fun h9 => absurd h9 (by decide +kernel)) (fun _ => ?_)
  refine lv_iload_n hx hb dX11_put_4 rfl (lv_at hl 1 rfl) ?_
  refine lv_aload_n hx hb dX11_put_5 rfl (lv_at hl 0 rfl) ?_
  refine va_alen (v := 300) hx hb hK hP 0 0 rfl rfl (by show Int32.ofNat 300 = 300; decide +kernel) dX11_put_6 ?_
  refine lv_icmp_ge (tgt := 14) hx hb dX11_put_7 (by decide) (fun h9 => absurd h9 (by decide +kernel)) (fun _ => ?_)
  refine lv_aload_n hx hb dX11_put_10 rfl (lv_at hl 0 rfl) ?_
  refine pcn (b := 11) rfl ?_
  refine lv_iload_n hx hb dX11_put_11 rfl (lv_at hl 1 rfl) ?_
  refine lv_iload_n hx hb dX11_put_12 rfl (lv_at hl 2 rfl) ?_
  refine as_i_o hx hb hK hP hD hS 0 0 rfl rfl (vpi (by decide +kernel)) dX11_put_13 (fun H locs fz0 hP hD hS => ?_)
  have hP : va_P D vwCl [(h0, .inl (cI, 300, .inl fz0))] H := hP
  have hD : va_D A [(h0, .inl (cI, 300, .inl fz0))] := hD
  refine W.widen (k := 0) (n := 0) (Nat.le_of_ble_eq_true rfl) (Nat.le_of_ble_eq_true rfl) ?_
  exact rtV hx hb hr hlocks hS hP hD ⟨fz0, rfl⟩ dX11_put_14

set_option maxHeartbeats 4000000 in
set_option maxRecDepth 100000 in
theorem c_X11_put_22 (l : Launch) (D : va_G) (cI cZ cB cJ : ClassId) (h0 : Nat) (f0 : Nat → Int32) (s0 : Int32) : CtV l D (TT cI cZ cB cJ) yX11_put cX11_put 3 none 0 0 0 0 [.ref h0, .int 15, .int s0] [(h0, .inl (cI, 300, .inl f0))] (fun w1 => ∃ (fz0 : Nat → Int32), w1 = [(h0, .inl (cI, 300, .inl fz0))]) := by
  refine CtV.of (by decide +kernel) (Nat.le_of_ble_eq_true rfl) ?_
  intro p e s m below meth c A ls hx hb hr hml hown hts hnw hlocks hin hA hS hP hK hD hl
  have hown : s.vm.findClass RX11 = some m.cls := hown
  have hl : lv_has ls 3 [(0, .ref h0), (1, .int 15), (2, .int s0)] := hl
  refine lv_iload_n hx hb dX11_put_0 rfl (lv_at hl 1 rfl) ?_
  refine lv_if_lt (tgt := 14) hx hb dX11_put_1 (by decide) (fun h9 => absurd h9 (by decide +kernel)) (fun _ => ?_)
  refine lv_iload_n hx hb dX11_put_4 rfl (lv_at hl 1 rfl) ?_
  refine lv_aload_n hx hb dX11_put_5 rfl (lv_at hl 0 rfl) ?_
  refine va_alen (v := 300) hx hb hK hP 0 0 rfl rfl (by show Int32.ofNat 300 = 300; decide +kernel) dX11_put_6 ?_
  refine lv_icmp_ge (tgt := 14) hx hb dX11_put_7 (by decide) (fun h9 => absurd h9 (by decide +kernel)) (fun _ => ?_)
  refine lv_aload_n hx hb dX11_put_10 rfl (lv_at hl 0 rfl) ?_
  refine pcn (b := 11) rfl ?_
  refine lv_iload_n hx hb dX11_put_11 rfl (lv_at hl 1 rfl) ?_
  refine lv_iload_n hx hb dX11_put_12 rfl (lv_at hl 2 rfl) ?_
  refine as_i_o hx hb hK hP hD hS 0 0 rfl rfl (vpi (by decide +kernel)) dX11_put_13 (fun H locs fz0 hP hD hS => ?_)
  have hP : va_P D vwCl [(h0, .inl (cI, 300, .inl fz0))] H := hP
  have hD : va_D A [(h0, .inl (cI, 300, .inl fz0))] := hD
  refine W.widen (k := 0) (n := 0) (Nat.le_of_ble_eq_true rfl) (Nat.le_of_ble_eq_true rfl) ?_
  exact rtV hx hb hr hlocks hS hP hD ⟨fz0, rfl⟩ dX11_put_14

set_option maxHeartbeats 4000000 in
set_option maxRecDepth 100000 in
theorem c_X11_takeFour_3 (l : Launch) (D : va_G) (cI cZ cB cJ : ClassId) (h0 h1 g0 g1 g2 g3 g4 g5 g6 g7 g8 : Nat) (f0 : Nat → Int32) (s0 : Int32) : CtV l D (TT cI cZ cB cJ) yX11_takeFour cX11_takeFour 3 none 1 22 0 0 [.ref h0, .int s0] [(h0, .inr (11, [.ref h1, .int 12, .ref g0, .ref g1, .ref g2, .ref g3, .ref g4, .ref g5, .ref g6, .ref g7, .ref g8])), (h1, .inl (cI, 300, .inl f0))] (fun w1 => ∃ (fz3 : Nat → Int32), w1 = [(h0, .inr (11, [.ref h1, .int 16, .ref g0, .ref g1, .ref g2, .ref g3, .ref g4, .ref g5, .ref g6, .ref g7, .ref g8])), (h1, .inl (cI, 300, .inl fz3))]) := by
  refine CtV.of (by decide +kernel) (Nat.le_of_ble_eq_true rfl) ?_
  intro p e s m below meth c A ls hx hb hr hml hown hts hnw hlocks hin hA hS hP hK hD hl
  have hown : s.vm.findClass RX11 = some m.cls := hown
  have hl : lv_has ls 3 [(0, .ref h0), (1, .int s0)] := hl
  refine lv_bipush (v := 24) hx hb dX11_takeFour_0 (by decide +kernel) ?_
  refine lv_istore_n (lv' := [(2, .int 24), (0, .ref h0), (1, .int s0)]) hx hb dX11_takeFour_2 rfl hl (by decide) rfl (fun ls hl => ?_)
  refine lv_iload_n hx hb dX11_takeFour_3 rfl (lv_at hl 0 rfl) ?_
  refine lv_if_lt (tgt := 41) hx hb dX11_takeFour_4 (by decide) (fun h9 => absurd h9 (by decide +kernel)) (fun _ => ?_)
  refine lv_aload_n hx hb dX11_takeFour_7 rfl (lv_at hl 1 rfl) ?_
  refine va_get (D := D) (ci := 11) (v := .ref h1) (C := RX11) (T := TX11) (N := 11) hx hb hts inX11 hown hK hP 0 rfl rfl 0 (by decide) (hts _ wm_582) (fun _ h9 => h9) rfl dX11_takeFour_8 ?_
  refine lv_aload_n hx hb dX11_takeFour_11 rfl (lv_at hl 1 rfl) ?_
  refine pcn (b := 12) rfl ?_
  refine va_get (D := D) (ci := 11) (v := .int 12) (C := RX11) (T := TX11) (N := 11) hx hb hts inX11 hown hK hP 0 rfl rfl 1 (by decide) (hts _ wm_583) (fun _ h9 => h9) rfl dX11_takeFour_12 ?_
  refine lv_iload_n hx hb dX11_takeFour_15 rfl (lv_at hl 2 rfl) ?_
  refine lv_iload_n hx hb dX11_takeFour_16 rfl (lv_at hl 0 rfl) ?_
  refine lv_iushr hx hb dX11_takeFour_17 rfl ?_
  refine lv_topi (fun y0 _ => ?_)
  refine lv_sipush (v := 255) hx hb dX11_takeFour_18 (by decide +kernel) ?_
  refine lv_iand hx hb dX11_takeFour_21 ?_
  refine lv_topi (fun y1 _ => ?_)
  refine kSv (As := [.ref h1, .int 12, .int y1]) (rest := []) (wr := [(h0, .inr (11, [.ref h1, .int 12, .ref g0, .ref g1, .ref g2, .ref g3, .ref g4, .ref g5, .ref g6, .ref g7, .ref g8]))]) hx hb hml hown hts hnw hK hP hD hS hA hl.1 (c_X11_put_19 l D cI cZ cB cJ h1 f0 y1) yk_X11_put wm_624 [1] [0] rfl rfl (by decide) (by decide) (by decide) rfl rfl dX11_takeFour_22 ⟨Nat.le_of_ble_eq_true rfl, Nat.le_of_ble_eq_true rfl⟩ ⟨Nat.le_of_ble_eq_true rfl, Nat.le_of_ble_eq_true rfl⟩ (Nat.le_of_ble_eq_true rfl) (fun w1 H locs hq9 hP hD hS => ?_)
  obtain ⟨fz0, rfl⟩ := hq9
  have hP : va_P D vwCl [(h0, .inr (11, [.ref h1, .int 12, .ref g0, .ref g1, .ref g2, .ref g3, .ref g4, .ref g5, .ref g6, .ref g7, .ref g8])), (h1, .inl (cI, 300, .inl fz0))] H := hP
  have hD : va_D A [(h0, .inr (11, [.ref h1, .int 12, .ref g0, .ref g1, .ref g2, .ref g3, .ref g4, .ref g5, .ref g6, .ref g7, .ref g8])), (h1, .inl (cI, 300, .inl fz0))] := hD
  refine W.widen (k := 0) (n := 0) (Nat.le_of_ble_eq_true rfl) (Nat.le_of_ble_eq_true rfl) ?_
  refine pcn (b := 25) rfl ?_
  refine lv_aload_n hx hb dX11_takeFour_25 rfl (lv_at hl 1 rfl) ?_
  refine lv_dup hx hb dX11_takeFour_26 rfl ?_
  refine va_get (D := D) (ci := 11) (v := .int 12) (C := RX11) (T := TX11) (N := 11) hx hb hts inX11 hown hK hP 0 rfl rfl 1 (by decide) (hts _ wm_583) (fun _ h9 => h9) rfl dX11_takeFour_27 ?_
  refine lv_iconst (v := 1) hx hb dX11_takeFour_30 (by decide +kernel) ?_
  refine lv_iadd hx hb dX11_takeFour_31 ?_
  refine nrm (y := 13) (by decide +kernel) ?_
  refine va_put (D := D) (ci := 11) (v := .int 13) (ty := .int) (C := RX11) (T := TX11) (N := 11) hx hb hts inX11 tyX11 tyX11_ok nmX11 hown hK hP hD hS 0 rfl rfl 1 (by decide) (hts _ wm_583) (fun _ h9 => h9) rfl (by decide +kernel) rfl rfl (Nat.le_of_ble_eq_true rfl) dX11_takeFour_32 (fun H locs hP hD hS => ?_)
  have hP : va_P D vwCl [(h0, .inr (11, [.ref h1, .int 13, .ref g0, .ref g1, .ref g2, .ref g3, .ref g4, .ref g5, .ref g6, .ref g7, .ref g8])), (h1, .inl (cI, 300, .inl fz0))] H := hP
  have hD : va_D A [(h0, .inr (11, [.ref h1, .int 13, .ref g0, .ref g1, .ref g2, .ref g3, .ref g4, .ref g5, .ref g6, .ref g7, .ref g8])), (h1, .inl (cI, 300, .inl fz0))] := hD
  refine lv_iinc (v := 16) (lv' := [(2, .int 16), (0, .ref h0), (1, .int s0)]) hx hb dX11_takeFour_35 hl (k := 0) rfl (by decide +kernel) (by decide) rfl (fun ls hl => ?_)
  refine pcn (b := 38) rfl ?_
  refine lv_goto (tgt := 3) hx hb dX11_takeFour_38 (by decide) ?_
  refine lv_iload_n hx hb dX11_takeFour_3 rfl (lv_at hl 0 rfl) ?_
  refine lv_if_lt (tgt := 41) hx hb dX11_takeFour_4 (by decide) (fun h9 => absurd h9 (by decide +kernel)) (fun _ => ?_)
  refine lv_aload_n hx hb dX11_takeFour_7 rfl (lv_at hl 1 rfl) ?_
  refine va_get (D := D) (ci := 11) (v := .ref h1) (C := RX11) (T := TX11) (N := 11) hx hb hts inX11 hown hK hP 0 rfl rfl 0 (by decide) (hts _ wm_582) (fun _ h9 => h9) rfl dX11_takeFour_8 ?_
  refine lv_aload_n hx hb dX11_takeFour_11 rfl (lv_at hl 1 rfl) ?_
  refine va_get (D := D) (ci := 11) (v := .int 13) (C := RX11) (T := TX11) (N := 11) hx hb hts inX11 hown hK hP 0 rfl rfl 1 (by decide) (hts _ wm_583) (fun _ h9 => h9) rfl dX11_takeFour_12 ?_
  refine lv_iload_n hx hb dX11_takeFour_15 rfl (lv_at hl 2 rfl) ?_
  refine pcn (b := 16) rfl ?_
  refine lv_iload_n hx hb dX11_takeFour_16 rfl (lv_at hl 0 rfl) ?_
  refine lv_iushr hx hb dX11_takeFour_17 rfl ?_
  refine lv_topi (fun y2 _ => ?_)
  refine lv_sipush (v := 255) hx hb dX11_takeFour_18 (by decide +kernel) ?_
  refine lv_iand hx hb dX11_takeFour_21 ?_
  refine lv_topi (fun y3 _ => ?_)
  refine kSv (As := [.ref h1, .int 13, .int y3]) (rest := []) (wr := [(h0, .inr (11, [.ref h1, .int 13, .ref g0, .ref g1, .ref g2, .ref g3, .ref g4, .ref g5, .ref g6, .ref g7, .ref g8]))]) hx hb hml hown hts hnw hK hP hD hS hA hl.1 (c_X11_put_20 l D cI cZ cB cJ h1 fz0 y3) yk_X11_put wm_624 [1] [0] rfl rfl (by decide) (by decide) (by decide) rfl rfl dX11_takeFour_22 ⟨Nat.le_of_ble_eq_true rfl, Nat.le_of_ble_eq_true rfl⟩ ⟨Nat.le_of_ble_eq_true rfl, Nat.le_of_ble_eq_true rfl⟩ (Nat.le_of_ble_eq_true rfl) (fun w1 H locs hq9 hP hD hS => ?_)
  obtain ⟨fz1, rfl⟩ := hq9
  have hP : va_P D vwCl [(h0, .inr (11, [.ref h1, .int 13, .ref g0, .ref g1, .ref g2, .ref g3, .ref g4, .ref g5, .ref g6, .ref g7, .ref g8])), (h1, .inl (cI, 300, .inl fz1))] H := hP
  have hD : va_D A [(h0, .inr (11, [.ref h1, .int 13, .ref g0, .ref g1, .ref g2, .ref g3, .ref g4, .ref g5, .ref g6, .ref g7, .ref g8])), (h1, .inl (cI, 300, .inl fz1))] := hD
  refine W.widen (k := 0) (n := 0) (Nat.le_of_ble_eq_true rfl) (Nat.le_of_ble_eq_true rfl) ?_
  refine pcn (b := 25) rfl ?_
  refine lv_aload_n hx hb dX11_takeFour_25 rfl (lv_at hl 1 rfl) ?_
  refine lv_dup hx hb dX11_takeFour_26 rfl ?_
  refine va_get (D := D) (ci := 11) (v := .int 13) (C := RX11) (T := TX11) (N := 11) hx hb hts inX11 hown hK hP 0 rfl rfl 1 (by decide) (hts _ wm_583) (fun _ h9 => h9) rfl dX11_takeFour_27 ?_
  refine lv_iconst (v := 1) hx hb dX11_takeFour_30 (by decide +kernel) ?_
  refine lv_iadd hx hb dX11_takeFour_31 ?_
  refine nrm (y := 14) (by decide +kernel) ?_
  refine va_put (D := D) (ci := 11) (v := .int 14) (ty := .int) (C := RX11) (T := TX11) (N := 11) hx hb hts inX11 tyX11 tyX11_ok nmX11 hown hK hP hD hS 0 rfl rfl 1 (by decide) (hts _ wm_583) (fun _ h9 => h9) rfl (by decide +kernel) rfl rfl (Nat.le_of_ble_eq_true rfl) dX11_takeFour_32 (fun H locs hP hD hS => ?_)
  have hP : va_P D vwCl [(h0, .inr (11, [.ref h1, .int 14, .ref g0, .ref g1, .ref g2, .ref g3, .ref g4, .ref g5, .ref g6, .ref g7, .ref g8])), (h1, .inl (cI, 300, .inl fz1))] H := hP
  have hD : va_D A [(h0, .inr (11, [.ref h1, .int 14, .ref g0, .ref g1, .ref g2, .ref g3, .ref g4, .ref g5, .ref g6, .ref g7, .ref g8])), (h1, .inl (cI, 300, .inl fz1))] := hD
  refine lv_iinc (v := 8) (lv' := [(2, .int 8), (0, .ref h0), (1, .int s0)]) hx hb dX11_takeFour_35 hl (k := 0) rfl (by decide +kernel) (by decide) rfl (fun ls hl => ?_)
  refine pcn (b := 38) rfl ?_
  refine lv_goto (tgt := 3) hx hb dX11_takeFour_38 (by decide) ?_
  refine lv_iload_n hx hb dX11_takeFour_3 rfl (lv_at hl 0 rfl) ?_
  refine lv_if_lt (tgt := 41) hx hb dX11_takeFour_4 (by decide) (fun h9 => absurd h9 (by decide +kernel)) (fun _ => ?_)
  refine lv_aload_n hx hb dX11_takeFour_7 rfl (lv_at hl 1 rfl) ?_
  refine va_get (D := D) (ci := 11) (v := .ref h1) (C := RX11) (T := TX11) (N := 11) hx hb hts inX11 hown hK hP 0 rfl rfl 0 (by decide) (hts _ wm_582) (fun _ h9 => h9) rfl dX11_takeFour_8 ?_
  refine lv_aload_n hx hb dX11_takeFour_11 rfl (lv_at hl 1 rfl) ?_
  refine va_get (D := D) (ci := 11) (v := .int 14) (C := RX11) (T := TX11) (N := 11) hx hb hts inX11 hown hK hP 0 rfl rfl 1 (by decide) (hts _ wm_583) (fun _ h9 => h9) rfl dX11_takeFour_12 ?_
  refine lv_iload_n hx hb dX11_takeFour_15 rfl (lv_at hl 2 rfl) ?_
  refine pcn (b := 16) rfl ?_
  refine lv_iload_n hx hb dX11_takeFour_16 rfl (lv_at hl 0 rfl) ?_
  refine lv_iushr hx hb dX11_takeFour_17 rfl ?_
  refine lv_topi (fun y4 _ => ?_)
  refine lv_sipush (v := 255) hx hb dX11_takeFour_18 (by decide +kernel) ?_
  refine lv_iand hx hb dX11_takeFour_21 ?_
  refine lv_topi (fun y5 _ => ?_)
  refine kSv (As := [.ref h1, .int 14, .int y5]) (rest := []) (wr := [(h0, .inr (11, [.ref h1, .int 14, .ref g0, .ref g1, .ref g2, .ref g3, .ref g4, .ref g5, .ref g6, .ref g7, .ref g8]))]) hx hb hml hown hts hnw hK hP hD hS hA hl.1 (c_X11_put_21 l D cI cZ cB cJ h1 fz1 y5) yk_X11_put wm_624 [1] [0] rfl rfl (by decide) (by decide) (by decide) rfl rfl dX11_takeFour_22 ⟨Nat.le_of_ble_eq_true rfl, Nat.le_of_ble_eq_true rfl⟩ ⟨Nat.le_of_ble_eq_true rfl, Nat.le_of_ble_eq_true rfl⟩ (Nat.le_of_ble_eq_true rfl) (fun w1 H locs hq9 hP hD hS => ?_)
  obtain ⟨fz2, rfl⟩ := hq9
  have hP : va_P D vwCl [(h0, .inr (11, [.ref h1, .int 14, .ref g0, .ref g1, .ref g2, .ref g3, .ref g4, .ref g5, .ref g6, .ref g7, .ref g8])), (h1, .inl (cI, 300, .inl fz2))] H := hP
  have hD : va_D A [(h0, .inr (11, [.ref h1, .int 14, .ref g0, .ref g1, .ref g2, .ref g3, .ref g4, .ref g5, .ref g6, .ref g7, .ref g8])), (h1, .inl (cI, 300, .inl fz2))] := hD
  refine W.widen (k := 0) (n := 0) (Nat.le_of_ble_eq_true rfl) (Nat.le_of_ble_eq_true rfl) ?_
  refine pcn (b := 25) rfl ?_
  refine lv_aload_n hx hb dX11_takeFour_25 rfl (lv_at hl 1 rfl) ?_
  refine lv_dup hx hb dX11_takeFour_26 rfl ?_
  refine va_get (D := D) (ci := 11) (v := .int 14) (C := RX11) (T := TX11) (N := 11) hx hb hts inX11 hown hK hP 0 rfl rfl 1 (by decide) (hts _ wm_583) (fun _ h9 => h9) rfl dX11_takeFour_27 ?_
  refine lv_iconst (v := 1) hx hb dX11_takeFour_30 (by decide +kernel) ?_
  refine lv_iadd hx hb dX11_takeFour_31 ?_
  refine nrm (y := 15) (by decide +kernel) ?_
  refine va_put (D := D) (ci := 11) (v := .int 15) (ty := .int) (C := RX11) (T := TX11) (N := 11) hx hb hts inX11 tyX11 tyX11_ok nmX11 hown hK hP hD hS 0 rfl rfl 1 (by decide) (hts _ wm_583) (fun _ h9 => h9) rfl (by decide +kernel) rfl rfl (Nat.le_of_ble_eq_true rfl) dX11_takeFour_32 (fun H locs hP hD hS => ?_)
  have hP : va_P D vwCl [(h0, .inr (11, [.ref h1, .int 15, .ref g0, .ref g1, .ref g2, .ref g3, .ref g4, .ref g5, .ref g6, .ref g7, .ref g8])), (h1, .inl (cI, 300, .inl fz2))] H := hP
  have hD : va_D A [(h0, .inr (11, [.ref h1, .int 15, .ref g0, .ref g1, .ref g2, .ref g3, .ref g4, .ref g5, .ref g6, .ref g7, .ref g8])), (h1, .inl (cI, 300, .inl fz2))] := hD
  refine lv_iinc (v := 0) (lv' := [(2, .int 0), (0, .ref h0), (1, .int s0)]) hx hb dX11_takeFour_35 hl (k := 0) rfl (by decide +kernel) (by decide) rfl (fun ls hl => ?_)
  refine pcn (b := 38) rfl ?_
  refine lv_goto (tgt := 3) hx hb dX11_takeFour_38 (by decide) ?_
  refine lv_iload_n hx hb dX11_takeFour_3 rfl (lv_at hl 0 rfl) ?_
  refine lv_if_lt (tgt := 41) hx hb dX11_takeFour_4 (by decide) (fun h9 => absurd h9 (by decide +kernel)) (fun _ => ?_)
  refine lv_aload_n hx hb dX11_takeFour_7 rfl (lv_at hl 1 rfl) ?_
  refine va_get (D := D) (ci := 11) (v := .ref h1) (C := RX11) (T := TX11) (N := 11) hx hb hts inX11 hown hK hP 0 rfl rfl 0 (by decide) (hts _ wm_582) (fun _ h9 => h9) rfl dX11_takeFour_8 ?_
  refine lv_aload_n hx hb dX11_takeFour_11 rfl (lv_at hl 1 rfl) ?_
  refine va_get (D := D) (ci := 11) (v := .int 15) (C := RX11) (T := TX11) (N := 11) hx hb hts inX11 hown hK hP 0 rfl rfl 1 (by decide) (hts _ wm_583) (fun _ h9 => h9) rfl dX11_takeFour_12 ?_
  refine lv_iload_n hx hb dX11_takeFour_15 rfl (lv_at hl 2 rfl) ?_
  refine pcn (b := 16) rfl ?_
  refine lv_iload_n hx hb dX11_takeFour_16 rfl (lv_at hl 0 rfl) ?_
  refine lv_iushr hx hb dX11_takeFour_17 rfl ?_
  refine lv_topi (fun y6 _ => ?_)
  refine lv_sipush (v := 255) hx hb dX11_takeFour_18 (by decide +kernel) ?_
  refine lv_iand hx hb dX11_takeFour_21 ?_
  refine lv_topi (fun y7 _ => ?_)
  refine kSv (As := [.ref h1, .int 15, .int y7]) (rest := []) (wr := [(h0, .inr (11, [.ref h1, .int 15, .ref g0, .ref g1, .ref g2, .ref g3, .ref g4, .ref g5, .ref g6, .ref g7, .ref g8]))]) hx hb hml hown hts hnw hK hP hD hS hA hl.1 (c_X11_put_22 l D cI cZ cB cJ h1 fz2 y7) yk_X11_put wm_624 [1] [0] rfl rfl (by decide) (by decide) (by decide) rfl rfl dX11_takeFour_22 ⟨Nat.le_of_ble_eq_true rfl, Nat.le_of_ble_eq_true rfl⟩ ⟨Nat.le_of_ble_eq_true rfl, Nat.le_of_ble_eq_true rfl⟩ (Nat.le_of_ble_eq_true rfl) (fun w1 H locs hq9 hP hD hS => ?_)
  obtain ⟨fz3, rfl⟩ := hq9
  have hP : va_P D vwCl [(h0, .inr (11, [.ref h1, .int 15, .ref g0, .ref g1, .ref g2, .ref g3, .ref g4, .ref g5, .ref g6, .ref g7, .ref g8])), (h1, .inl (cI, 300, .inl fz3))] H := hP
  have hD : va_D A [(h0, .inr (11, [.ref h1, .int 15, .ref g0, .ref g1, .ref g2, .ref g3, .ref g4, .ref g5, .ref g6, .ref g7, .ref g8])), (h1, .inl (cI, 300, .inl fz3))] := hD
  refine W.widen (k := 0) (n := 0) (Nat.le_of_ble_eq_true rfl) (Nat.le_of_ble_eq_true rfl) ?_
  refine pcn (b := 25) rfl ?_
  refine lv_aload_n hx hb dX11_takeFour_25 rfl (lv_at hl 1 rfl) ?_
  refine lv_dup hx hb dX11_takeFour_26 rfl ?_
  refine va_get (D := D) (ci := 11) (v := .int 15) (C := RX11) (T := TX11) (N := 11) hx hb hts inX11 hown hK hP 0 rfl rfl 1 (by decide) (hts _ wm_583) (fun _ h9 => h9) rfl dX11_takeFour_27 ?_
  refine lv_iconst (v := 1) hx hb dX11_takeFour_30 (by decide +kernel) ?_
  refine lv_iadd hx hb dX11_takeFour_31 ?_
  refine nrm (y := 16) (by decide +kernel) ?_
  refine va_put (D := D) (ci := 11) (v := .int 16) (ty := .int) (C := RX11) (T := TX11) (N := 11) hx hb hts inX11 tyX11 tyX11_ok nmX11 hown hK hP hD hS 0 rfl rfl 1 (by decide) (hts _ wm_583) (fun _ h9 => h9) rfl (by decide +kernel) rfl rfl (Nat.le_of_ble_eq_true rfl) dX11_takeFour_32 (fun H locs hP hD hS => ?_)
  have hP : va_P D vwCl [(h0, .inr (11, [.ref h1, .int 16, .ref g0, .ref g1, .ref g2, .ref g3, .ref g4, .ref g5, .ref g6, .ref g7, .ref g8])), (h1, .inl (cI, 300, .inl fz3))] H := hP
  have hD : va_D A [(h0, .inr (11, [.ref h1, .int 16, .ref g0, .ref g1, .ref g2, .ref g3, .ref g4, .ref g5, .ref g6, .ref g7, .ref g8])), (h1, .inl (cI, 300, .inl fz3))] := hD
  refine lv_iinc (v := (-8)) (lv' := [(2, .int (-8)), (0, .ref h0), (1, .int s0)]) hx hb dX11_takeFour_35 hl (k := 0) rfl (by decide +kernel) (by decide) rfl (fun ls hl => ?_)
  refine pcn (b := 38) rfl ?_
  refine lv_goto (tgt := 3) hx hb dX11_takeFour_38 (by decide) ?_
  refine lv_iload_n hx hb dX11_takeFour_3 rfl (lv_at hl 0 rfl) ?_
  refine lv_if_lt (tgt := 41) hx hb dX11_takeFour_4 (by decide) (fun _ => ?_) (fun h9 => absurd (by decide +kernel) h9)
  refine W.widen (k := 0) (n := 0) (Nat.le_of_ble_eq_true rfl) (Nat.le_of_ble_eq_true rfl) ?_
  exact rtV hx hb hr hlocks hS hP hD ⟨fz3, rfl⟩ dX11_takeFour_41
