set_option maxHeartbeats 4000000 in
set_option maxRecDepth 100000 in
theorem c_X11_put_23 (l : Launch) (D : va_G) (cI cZ cB cJ : ClassId) (h0 : Nat) (f0 : Nat → Int32) (s0 : Int32) : CtV l D (TT cI cZ cB cJ) yX11_put cX11_put 3 none 0 0 0 0 [.ref h0, .int 16, .int s0] [(h0, .inl (cI, 300, .inl f0))] (fun w1 => ∃ (fz0 : Nat → Int32), w1 = [(h0, .inl (cI, 300, .inl fz0))]) := by
  refine CtV.of (by decide +kernel) (Nat.le_of_ble_eq_true rfl) ?_
  intro p e s m below meth c A ls hx hb hr hml hown hts hnw hlocks hin hA hS hP hK hD hl
  have hown : s.vm.findClass RX11 = some m.cls := hown
  have hl : lv_has ls 3 [(0, .ref h0), (1, .int 16), (2, .int s0)] := hl
  refine lv_iload_n hx hb dX11_put_0 rfl (lv_at hl 1 rfl) ?_
  refine lv_if_lt (tgt := 14) hx hb dX11_put_1 (by decide) (fun h9 => absurd h9 (by decide +kernel)) (fun _ => ?_)
  refine lv_iload_n hx hb dX11_put_4 rfl (lv_at hl 1 rfl) ?_
  refine lv_aload_n hx hb dX11_put_5 rfl (lv_at hl 0 rfl) ?_
  refine va_alen (v := 300) hx hb hK hP 0 0 rfl rfl (by show Int32.ofNat 300 = 300; decide +kernel) dX11_put_6 ?_
  refine lv_icmp_ge (tgt := 14) hx hb dX11_put_7 (by decide) (fun h9 => absurd h9 (by decide +kernel)) (fun _ => ?_)
  refine lv_aload_n hx hb dX11_put_10 rfl (lv_at hl 0 rfl) ?_
  refine pcn (b := 11) rfl ?_
  refine lv_iload_n hx hb dX11_put_11 rfl (lv_at hl 1 rfl) ?_
  refine lv_iload_n hx hb dX11_put_12 rfl (lv_at hl 2 rfl) ?_
  refine as_i_o hx hb hK hP hD hS 0 0 rfl rfl (vpi (by decide +kernel)) dX11_put_13 (fun H locs fz0 hP hD hS => ?_)
  have hP : va_P D vwCl [(h0, .inl (cI, 300, .inl fz0))] H := hP
  have hD : va_D A [(h0, .inl (cI, 300, .inl fz0))] := hD
  refine W.widen (k := 0) (n := 0) (Nat.le_of_ble_eq_true rfl) (Nat.le_of_ble_eq_true rfl) ?_
  exact rtV hx hb hr hlocks hS hP hD ⟨fz0, rfl⟩ dX11_put_14

set_option maxHeartbeats 4000000 in
set_option maxRecDepth 100000 in
theorem c_X11_put_24 (l : Launch) (D : va_G) (cI cZ cB cJ : ClassId) (h0 : Nat) (f0 : Nat → Int32) (s0 : Int32) : CtV l D (TT cI cZ cB cJ) yX11_put cX11_put 3 none 0 0 0 0 [.ref h0, .int 17, .int s0] [(h0, .inl (cI, 300, .inl f0))] (fun w1 => ∃ (fz0 : Nat → Int32), w1 = [(h0, .inl (cI, 300, .inl fz0))]) := by
  refine CtV.of (by decide +kernel) (Nat.le_of_ble_eq_true rfl) ?_
  intro p e s m below meth c A ls hx hb hr hml hown hts hnw hlocks hin hA hS hP hK hD hl
  have hown : s.vm.findClass RX11 = some m.cls := hown
  have hl : lv_has ls 3 [(0, .ref h0), (1, .int 17), (2, .int s0)] := hl
  refine lv_iload_n hx hb dX11_put_0 rfl (lv_at hl 1 rfl) ?_
  refine lv_if_lt (tgt := 14) hx hb dX11_put_1 (by decide) (fun h9 => absurd h9 (by decide +kernel)) (fun _ => ?_)
  refine lv_iload_n hx hb dX11_put_4 rfl (lv_at hl 1 rfl) ?_
  refine lv_aload_n hx hb dX11_put_5 rfl (lv_at hl 0 rfl) ?_
  refine va_alen (v := 300) hx hb hK hP 0 0 rfl rfl (by show Int32.ofNat 300 = 300; decide +kernel) dX11_put_6 ?_
  refine lv_icmp_ge (tgt := 14) hx hb dX11_put_7 (by decide) (fun h9 => absurd h9 (by decide +kernel)) (fun _ => ?_)
  refine lv_aload_n hx hb dX11_put_10 rfl (lv_at hl 0 rfl) ?_
  refine pcn (b := 11) rfl ?_
  refine lv_iload_n hx hb dX11_put_11 rfl (lv_at hl 1 rfl) ?_
  refine lv_iload_n hx hb dX11_put_12 rfl (lv_at hl 2 rfl) ?_
  refine as_i_o hx hb hK hP hD hS 0 0 rfl rfl (vpi (by decide +kernel)) dX11_put_13 (fun H locs fz0 hP hD hS => ?_)
  have hP : va_P D vwCl [(h0, .inl (cI, 300, .inl fz0))] H := hP
  have hD : va_D A [(h0, .inl (cI, 300, .inl fz0))] := hD
  refine W.widen (k := 0) (n := 0) (Nat.le_of_ble_eq_true rfl) (Nat.le_of_ble_eq_true rfl) ?_
  exact rtV hx hb hr hlocks hS hP hD ⟨fz0, rfl⟩ dX11_put_14

set_option maxHeartbeats 4000000 in
set_option maxRecDepth 100000 in
theorem c_X11_put_25 (l : Launch) (D : va_G) (cI cZ cB cJ : ClassId) (h0 : Nat) (f0 : Nat → Int32) (s0 : Int32) : CtV l D (TT cI cZ cB cJ) yX11_put cX11_put 3 none 0 0 0 0 [.ref h0, .int 18, .int s0] [(h0, .inl (cI, 300, .inl f0))] (fun w1 => ∃ (fz0 : Nat → Int32), w1 = [(h0, .inl (cI, 300, .inl fz0))]) := by
  refine CtV.of (by decide +kernel) (Nat.le_of_ble_eq_true rfl) ?_
  intro p e s m below meth c A ls hx hb hr hml hown hts hnw hlocks hin hA hS hP hK hD hl
  have hown : s.vm.findClass RX11 = some m.cls := hown
  have hl : lv_has ls 3 [(0, .ref h0), (1, .int 18), (2, .int s0)] := hl
  refine lv_iload_n hx hb dX11_put_0 rfl (lv_at hl 1 rfl) ?_
  refine lv_if_lt (tgt := 14) hx hb dX11_put_1 (by decide) (fun h9 => absurd h9 (by decide +kernel)) (fun _ => ?_)
  refine lv_iload_n hx hb dX11_put_4 rfl (lv_at hl 1 rfl) ?_
  refine lv_aload_n hx hb dX11_put_5 rfl (lv_at hl 0 rfl) ?_
  refine va_alen (v := 300) hx hb hK hP 0 0 rfl rfl (by show Int32.ofNat 300 = 300; decide +kernel) dX11_put_6 ?_
  refine lv_icmp_ge (tgt := 14) hx hb dX11_put_7 (by decide) (fun h9 => absurd h9 (by decide +kernel)) (fun _ => ?_)
  refine lv_aload_n hx hb dX11_put_10 rfl (lv_at hl 0 rfl) ?_
  refine pcn (b := 11) rfl ?_
  refine lv_iload_n hx hb dX11_put_11 rfl (lv_at hl 1 rfl) ?_
  refine lv_iload_n hx hb dX11_put_12 rfl (lv_at hl 2 rfl) ?_
  refine as_i_o hx hb hK hP hD hS 0 0 rfl rfl (vpi (by decide +kernel)) dX11_put_13 (fun H locs fz0 hP hD hS => ?_)
  have hP : va_P D vwCl [(h0, .inl (cI, 300, .inl fz0))] H := hP
  have hD : va_D A [(h0, .inl (cI, 300, .inl fz0))] := hD
  refine W.widen (k := 0) (n := 0) (Nat.le_of_ble_eq_true rfl) (Nat.le_of_ble_eq_true rfl) ?_
  exact rtV hx hb hr hlocks hS hP hD ⟨fz0, rfl⟩ dX11_put_14

set_option maxHeartbeats 4000000 in
set_option maxRecDepth 100000 in
theorem c_X11_put_26 (l : Launch) (D : va_G) (cI cZ cB cJ : ClassId) (h0 : Nat) (f0 : Nat → Int32) (s0 : Int32) : CtV l D (TT cI cZ cB cJ) yX11_put cX11_put 3 none 0 0 0 0 [.ref h0, .int 19, .int s0] [(h0, .inl (cI, 300, .inl f0))] (fun w1 => ∃ (fz0 : Nat → Int32), w1 = [(h0, .inl (cI, 300, .inl fz0))]) := by
  refine CtV.of (by decide +kernel) (Nat.le_of_ble_eq_true rfl) ?_
  intro p e s m below meth c A ls hx hb hr hml hown hts hnw hlocks hin hA hS hP hK hD hl
  have hown : s.vm.findClass RX11 = some m.cls := hown
  have hl : lv_has ls 3 [(0, .ref h0), (1, .int 19), (2, .int s0)] := hl
  refine lv_iload_n hx hb dX11_put_0 rfl (lv_at hl 1 rfl) ?_
  refine lv_if_lt (tgt := 14) hx hb dX11_put_1 (by decide) (fun h9 => absurd h9 (by decide +kernel)) (fun _ => ?_)
  refine lv_iload_n hx hb dX11_put_4 rfl (lv_at hl 1 rfl) ?_
  refine lv_aload_n hx hb dX11_put_5 rfl (lv_at hl 0 rfl) ?_
  refine va_alen (v := 300) hx hb hK hP 0 0 rfl rfl (by show Int32.ofNat 300 = 300; decide +kernel) dX11_put_6 ?_
  refine lv_icmp_ge (tgt := 14) hx hb dX11_put_7 (by decide) (fun h9 => absurd h9 (by decide +kernel)) (fun _ => ?_)
  refine lv_aload_n hx hb dX11_put_10 rfl (lv_at hl 0 rfl) ?_
  refine pcn (b := 11) rfl ?_
  refine lv_iload_n hx hb dX11_put_11 rfl (lv_at hl 1 rfl) ?_
  refine lv_iload_n hx hb dX11_put_12 rfl (lv_at hl 2 rfl) ?_
  refine as_i_o hx hb hK hP hD hS 0 0 rfl rfl (vpi (by decide +kernel)) dX11_put_13 (fun H locs fz0 hP hD hS => ?_)
  have hP : va_P D vwCl [(h0, .inl (cI, 300, .inl fz0))] H := hP
  have hD : va_D A [(h0, .inl (cI, 300, .inl fz0))] := hD
  refine W.widen (k := 0) (n := 0) (Nat.le_of_ble_eq_true rfl) (Nat.le_of_ble_eq_true rfl) ?_
  exact rtV hx hb hr hlocks hS hP hD ⟨fz0, rfl⟩ dX11_put_14

set_option maxHeartbeats 4000000 in
set_option maxRecDepth 100000 in
theorem c_X11_takeFour_4 (l : Launch) (D : va_G) (cI cZ cB cJ : ClassId) (h0 h1 g0 g1 g2 g3 g4 g5 g6 g7 g8 : Nat) (f0 : Nat → Int32) (s0 : Int32) : CtV l D (TT cI cZ cB cJ) yX11_takeFour cX11_takeFour 3 none 1 22 0 0 [.ref h0, .int s0] [(h0, .inr (11, [.ref h1, .int 16, .ref g0, .ref g1, .ref g2, .ref g3, .ref g4, .ref g5, .ref g6, .ref g7, .ref g8])), (h1, .inl (cI, 300, .inl f0))] (fun w1 => ∃ (fz3 : Nat → Int32), w1 = [(h0, .inr (11, [.ref h1, .int 20, .ref g0, .ref g1, .ref g2, .ref g3, .ref g4, .ref g5, .ref g6, .ref g7, .ref g8])), (h1, .inl (cI, 300, .inl fz3))]) := by
  refine CtV.of (by decide +kernel) (Nat.le_of_ble_eq_true rfl) ?_
  intro p e s m below meth c A ls hx hb hr hml hown hts hnw hlocks hin hA hS hP hK hD hl
  have hown : s.vm.findClass RX11 = some m.cls := hown
  have hl : lv_has ls 3 [(0, .ref h0), (1, .int s0)] := hl
  refine lv_bipush (v := 24) hx hb dX11_takeFour_0 (by decide +kernel) ?_
  refine lv_istore_n (lv' := [(2, .int 24), (0, .ref h0), (1, .int s0)]) hx hb dX11_takeFour_2 rfl hl (by decide) rfl (fun ls hl => ?_)
  refine lv_iload_n hx hb dX11_takeFour_3 rfl (lv_at hl 0 rfl) ?_
  refine lv_if_lt (tgt := 41) hx hb dX11_takeFour_4 (by decide) (fun h9 => absurd h9 (by decide +kernel)) (fun _ => ?_)
  refine lv_aload_n hx hb dX11_takeFour_7 rfl (lv_at hl 1 rfl) ?_
  refine va_get (D := D) (ci := 11) (v := .ref h1) (C := RX11) (T := TX11) (N := 11) hx hb hts inX11 hown hK hP 0 rfl rfl 0 (by decide) (hts _ wm_582) (fun _ h9 => h9) rfl dX11_takeFour_8 ?_
  refine lv_aload_n hx hb dX11_takeFour_11 rfl (lv_at hl 1 rfl) ?_
  refine pcn (b := 12) rfl ?_
  refine va_get (D := D) (ci := 11) (v := .int 16) (C := RX11) (T := TX11) (N := 11) hx hb hts inX11 hown hK hP 0 rfl rfl 1 (by decide) (hts _ wm_583) (fun _ h9 => h9) rfl dX11_takeFour_12 ?_
  refine lv_iload_n hx hb dX11_takeFour_15 rfl (lv_at hl 2 rfl) ?_
  refine lv_iload_n hx hb dX11_takeFour_16 rfl (lv_at hl 0 rfl) ?_
  refine lv_iushr hx hb dX11_takeFour_17 rfl ?_
  refine lv_topi (fun y0 _ => ?_)
  refine lv_sipush (v := 255) hx hb dX11_takeFour_18 (by decide +kernel) ?_
  refine lv_iand hx hb dX11_takeFour_21 ?_
  refine lv_topi (fun y1 _ => ?_)
  refine kSv (As := [.ref h1, .int 16, .int y1]) (rest := []) (wr := [(h0, .inr (11, [.ref h1, .int 16, .ref g0, .ref g1, .ref g2, .ref g3, .ref g4, .ref g5, .ref g6, .ref g7, .ref g8]))]) hx hb hml hown hts hnw hK hP hD hS hA hl.1 (c_X11_put_23 l D cI cZ cB cJ h1 f0 y1) yk_X11_put wm_624 [1] [0] rfl rfl (by decide) (by decide) (by decide) rfl rfl dX11_takeFour_22 ⟨Nat.le_of_ble_eq_true rfl, Nat.le_of_ble_eq_true rfl⟩ ⟨Nat.le_of_ble_eq_true rfl, Nat.le_of_ble_eq_true rfl⟩ (Nat.le_of_ble_eq_true rfl) (fun w1 H locs hq9 hP hD hS => ?_)
  obtain ⟨fz0, rfl⟩ := hq9
  have hP : va_P D vwCl [(h0, .inr (11, [.ref h1, .int 16, .ref g0, .ref g1, .ref g2, .ref g3, .ref g4, .ref g5, .ref g6, .ref g7, .ref g8])), (h1, .inl (cI, 300, .inl fz0))] H := hP
  have hD : va_D A [(h0, .inr (11, [.ref h1, .int 16, .ref g0, .ref g1, .ref g2, .ref g3, .ref g4, .ref g5, .ref g6, .ref g7, .ref g8])), (h1, .inl (cI, 300, .inl fz0))] := hD
  refine W.widen (k := 0) (n := 0) (Nat.le_of_ble_eq_true rfl) (Nat.le_of_ble_eq_true rfl) ?_
  refine pcn (b := 25) rfl ?_
  refine lv_aload_n hx hb dX11_takeFour_25 rfl (lv_at hl 1 rfl) ?_
  refine lv_dup hx hb dX11_takeFour_26 rfl ?_
  refine va_get (D := D) (ci := 11) (v := .int 16) (C := RX11) (T := TX11) (N := 11) hx hb hts inX11 hown hK hP 0 rfl rfl 1 (by decide) (hts _ wm_583) (fun _ h9 => h9) rfl dX11_takeFour_27 ?_
  refine lv_iconst (v := 1) hx hb dX11_takeFour_30 (by decide +kernel) ?_
  refine lv_iadd hx hb dX11_takeFour_31 ?_
  refine nrm (y := 17) (by decide +kernel) ?_
  refine va_put (D := D) (ci := 11) (v := .int 17) (ty := .int) (C := RX11) (T := TX11) (N := 11) hx hb hts inX11 tyX11 tyX11_ok nmX11 hown hK hP hD hS 0 rfl rfl 1 (by decide) (hts _ wm_583) (fun _ h9 => h9) rfl (by decide +kernel) rfl rfl (Nat.le_of_ble_eq_true rfl) dX11_takeFour_32 (fun H locs hP hD hS => ?_)
  have hP : va_P D vwCl [(h0, .inr (11, [.ref h1, .int 17, .ref g0, .ref g1, .ref g2, .ref g3, .ref g4, .ref g5, .ref g6, .ref g7, .ref g8])), (h1, .inl (cI, 300, .inl fz0))] H := hP
  have hD : va_D A [(h0, .inr (11, [.ref h1, .int 17, .ref g0, .ref g1, .ref g2, .ref g3, .ref g4, .ref g5, .ref g6, .ref g7, .ref g8])), (h1, .inl (cI, 300, .inl fz0))] := hD
  refine lv_iinc (v := 16) (lv' := [(2, .int 16), (0, .ref h0), (1, .int s0)]) hx hb dX11_takeFour_35 hl (k := 0) rfl (by decide +kernel) (by decide) rfl (fun ls hl => ?_)
  refine pcn (b := 38) rfl ?_
  refine lv_goto (tgt := 3) hx hb dX11_takeFour_38 (by decide) ?_
  refine lv_iload_n hx hb dX11_takeFour_3 rfl (lv_at hl 0 rfl) ?_
  refine lv_if_lt (tgt := 41) hx hb dX11_takeFour_4 (by decide) (fun h9 => absurd h9 (by decide +kernel)) (fun _ => ?_)
  refine lv_aload_n hx hb dX11_takeFour_7 rfl (lv_at hl 1 rfl) ?_
  refine va_get (D := D) (ci := 11) (v := .ref h1) (C := RX11) (T := TX11) (N := 11) hx hb hts inX11 hown hK hP 0 rfl rfl 0 (by decide) (hts _ wm_582) (fun _ h9 => h9) rfl dX11_takeFour_8 ?_
  refine lv_aload_n hx hb dX11_takeFour_11 rfl (lv_at hl 1 rfl) ?_
  refine va_get (D := D) (ci := 11) (v := .int 17) (C := RX11) (T := TX11) (N := 11) hx hb hts inX11 hown hK hP 0 rfl rfl 1 (by decide) (hts _ wm_583) (fun _ h9 => h9) rfl dX11_takeFour_12 ?_
  refine lv_iload_n hx hb dX11_takeFour_15 rfl (lv_at hl 2 rfl) ?_
  refine pcn (b := 16) rfl ?_
  refine lv_iload_n hx hb dX11_takeFour_16 rfl (lv_at hl 0 rfl) ?_
  refine lv_iushr hx hb dX11_takeFour_17 rfl ?_
  refine lv_topi (fun y2 _ => ?_)
  refine lv_sipush (v := 255) hx hb dX11_takeFour_18 (by decide +kernel) ?_
  refine lv_iand hx hb dX11_takeFour_21 ?_
  refine lv_topi (fun y3 _ => ?_)
  refine kSv (As := [.ref h1, .int 17, .int y3]) (rest := []) (wr := [(h0, .inr (11, [.ref h1, .int 17, .ref g0, .ref g1, .ref g2, .ref g3, .ref g4, .ref g5, .ref g6, .ref g7, .ref g8]))]) hx hb hml hown hts hnw hK hP hD hS hA hl.1 (c_X11_put_24 l D cI cZ cB cJ h1 fz0 y3) yk_X11_put wm_624 [1] [0] rfl rfl (by decide) (by decide) (by decide) rfl rfl dX11_takeFour_22 ⟨Nat.le_of_ble_eq_true rfl, Nat.le_of_ble_eq_true rfl⟩ ⟨Nat.le_of_ble_eq_true rfl, Nat.le_of_ble_eq_true rfl⟩ (Nat.le_of_ble_eq_true rfl) (fun w1 H locs hq9 hP hD hS => ?_)
  obtain ⟨fz1, rfl⟩ := hq9
  have hP : va_P D vwCl [(h0, .inr (11, [.ref h1, .int 17, .ref g0, .ref g1, .ref g2, .ref g3, .ref g4, .ref g5, .ref g6, .ref g7, .ref g8])), (h1, .inl (cI, 300, .inl fz1))] H := hP
  have hD : va_D A [(h0, .inr (11, [.ref h1, .int 17, .ref g0, .ref g1, .ref g2, .ref g3, .ref g4, .ref g5, .ref g6, .ref g7, .ref g8])), (h1, .inl (cI, 300, .inl fz1))] := hD
  refine W.widen (k := 0) (n := 0) (Nat.le_of_ble_eq_true rfl) (Nat.le_of_ble_eq_true rfl) ?_
  refine pcn (b := 25) rfl ?_
  refine lv_aload_n hx hb dX11_takeFour_25 rfl (lv_at hl 1 rfl) ?_
  refine lv_dup hx hb dX11_takeFour_26 rfl ?_
  refine va_get (D := D) (ci := 11) (v := .int 17) (C := RX11) (T := TX11) (N := 11) hx hb hts inX11 hown hK hP 0 rfl rfl 1 (by decide) (hts _ wm_583) (fun _ h9 => h9) rfl dX11_takeFour_27 ?_
  refine lv_iconst (v := 1) hx hb dX11_takeFour_30 (by decide +kernel) ?_
  refine lv_iadd hx hb dX11_takeFour_31 ?_
  refine nrm (y := 18) (by decide +kernel) ?_
  refine va_put (D := D) (ci := 11) (v := .int 18) (ty := .int) (C := RX11) (T := TX11) (N := 11) hx hb hts inX11 tyX11 tyX11_ok nmX11 hown hK hP hD hS 0 rfl rfl 1 (by decide) (hts _ wm_583) (fun _ h9 => h9) rfl (by decide +kernel) rfl rfl (Nat.le_of_ble_eq_true rfl) dX11_takeFour_32 (fun H locs hP hD hS => ?_)
  have hP : va_P D vwCl [(h0, .inr (11, [.ref h1, .int 18, .ref g0, .ref g1, .ref g2, .ref g3, .ref g4, .ref g5, .ref g6, .ref g7, .ref g8])), (h1, .inl (cI, 300, .inl fz1))] H := hP
  have hD : va_D A [(h0, .inr (11, [.ref h1, .int 18, .ref g0, .ref g1, .ref g2, .ref g3, .ref g4, .ref g5, .ref g6, .ref g7, .ref g8])), (h1, .inl (cI, 300, .inl fz1))] := hD
  refine lv_iinc (v := 8) (lv' := [(2, .int 8), (0, .ref h0), (1, .int s0)]) hx hb dX11_takeFour_35 hl (k := 0) rfl (by decide +kernel) (by decide) rfl (fun ls hl => ?_)
  refine pcn (b := 38) rfl ?_
  refine lv_goto (tgt := 3) hx hb dX11_takeFour_38 (by decide) ?_
  refine lv_iload_n hx hb dX11_takeFour_3 rfl (lv_at hl 0 rfl) ?_
  refine lv_if_lt (tgt := 41) hx hb dX11_takeFour_4 (by decide) (fun h9 => absurd h9 (by decide +kernel)) (fun _ => ?_)
  refine lv_aload_n hx hb dX11_takeFour_7 rfl (lv_at hl 1 rfl) ?_
  refine va_get (D := D) (ci := 11) (v := .ref h1) (C := RX11) (T := TX11) (N := 11) hx hb hts inX11 hown hK hP 0 rfl rfl 0 (by decide) (hts _ wm_582) (fun _ h9 => h9) rfl dX11_takeFour_8 ?_
  refine lv_aload_n hx hb dX11_takeFour_11 rfl (lv_at hl 1 rfl) ?_
  refine va_get (D := D) (ci := 11) (v := .int 18) (C := RX11) (T := TX11) (N := 11) hx hb hts inX11 hown hK hP 0 rfl rfl 1 (by decide) (hts _ wm_583) (fun _ h9 => h9) rfl dX11_takeFour_12 ?_
  refine lv_iload_n hx hb dX11_takeFour_15 rfl (lv_at hl 2 rfl) ?_
  refine pcn (b := 16) rfl ?_
  refine lv_iload_n hx hb dX11_takeFour_16 rfl (lv_at hl 0 rfl) ?_
  refine lv_iushr hx hb dX11_takeFour_17 rfl ?_
  refine lv_topi (fun y4 _ => ?_)
  refine lv_sipush (v := 255) hx hb dX11_takeFour_18 (by decide +kernel) ?_
  refine lv_iand hx hb dX11_takeFour_21 ?_
  refine lv_topi (fun y5 _ => ?_)
  refine kSv (As := [.ref h1, .int 18, .int y5]) (rest := []) (wr := [(h0, .inr (11, [.ref h1, .int 18, .ref g0, .ref g1, .ref g2, .ref g3, .ref g4, .ref g5, .ref g6, .ref g7, .ref g8]))]) hx hb hml hown hts hnw hK hP hD hS hA hl.1 (c_X11_put_25 l D cI cZ cB cJ h1 fz1 y5) yk_X11_put wm_624 [1] [0] rfl rfl (by decide) (by decide) (by decide) rfl rfl dX11_takeFour_22 ⟨Nat.le_of_ble_eq_true rfl, Nat.le_of_ble_eq_true rfl⟩ ⟨Nat.le_of_ble_eq_true rfl, Nat.le_of_ble_eq_true rfl⟩ (Nat.le_of_ble_eq_true rfl) (fun w1 H locs hq9 hP hD hS => ?_)
  obtain ⟨fz2, rfl⟩ := hq9
  have hP : va_P D vwCl [(h0, .inr (11, [.ref h1, .int 18, .ref g0, .ref g1, .ref g2, .ref g3, .ref g4, .ref g5, .ref g6, .ref g7, .ref g8])), (h1, .inl (cI, 300, .inl fz2))] H := hP
  have hD : va_D A [(h0, .inr (11, [.ref h1, .int 18, .ref g0, .ref g1, .ref g2, .ref g3, .ref g4, .ref g5, .ref g6, .ref g7, .ref g8])), (h1, .inl (cI, 300, .inl fz2))] := hD
  refine W.widen (k := 0) (n := 0) (Nat.le_of_ble_eq_true rfl) (Nat.le_of_ble_eq_true rfl) ?_
  refine pcn (b := 25) rfl ?_
  refine lv_aload_n hx hb dX11_takeFour_25 rfl (lv_at hl 1 rfl) ?_
  refine lv_dup hx hb dX11_takeFour_26 rfl ?_
  refine va_get (D := D) (ci := 11) (v := .int 18) (C := RX11) (T := TX11) (N := 11) hx hb hts inX11 hown hK hP 0 rfl rfl 1 (by decide) (hts _ wm_583) (fun _ h9 => h9) rfl dX11_takeFour_27 ?_
  refine lv_iconst (v := 1) hx hb dX11_takeFour_30 (by decide +kernel) ?_
  refine lv_iadd hx hb dX11_takeFour_31 ?_
  refine nrm (y := 19) (by decide +kernel) ?_
  refine va_put (D := D) (ci := 11) (v := .int 19) (ty := .int) (C := RX11) (T := TX11) (N := 11) hx hb hts inX11 tyX11 tyX11_ok nmX11 hown hK hP hD hS 0 rfl rfl 1 (by decide) (hts _ wm_583) (fun _ h9 => h9) rfl (by decide +kernel) rfl rfl (Nat.le_of_ble_eq_true rfl) dX11_takeFour_32 (fun H locs hP hD hS => ?_)
  have hP : va_P D vwCl [(h0, .inr (11, [.ref h1, .int 19, .ref g0, .ref g1, .ref g2, .ref g3, .ref g4, .ref g5, .ref g6, .ref g7, .ref g8])), (h1, .inl (cI, 300, .inl fz2))] H := hP
  have hD : va_D A [(h0, .inr (11, [.ref h1, .int 19, .ref g0, .ref g1, .ref g2, .ref g3, .ref g4, .ref g5, .ref g6, .ref g7, .ref g8])), (h1, .inl (cI, 300, .inl fz2))] := hD
  refine lv_iinc (v := 0) (lv' := [(2, .int 0), (0, .ref h0), (1, .int s0)]) hx hb dX11_takeFour_35 hl (k := 0) rfl (by decide +kernel) (by decide) rfl (fun ls hl => ?_)
  refine pcn (b := 38) rfl ?_
  refine lv_goto (tgt := 3) hx hb dX11_takeFour_38 (by decide) ?_
  refine lv_iload_n hx hb dX11_takeFour_3 rfl (lv_at hl 0 rfl) ?_
  refine lv_if_lt (tgt := 41) hx hb dX11_takeFour_4 (by decide) (fun h9 => absurd h9 (by decide +kernel)) (fun _ => ?_)
  refine lv_aload_n hx hb dX11_takeFour_7 rfl (lv_at hl 1 rfl) ?_
  refine va_get (D := D) (ci := 11) (v := .ref h1) (C := RX11) (T := TX11) (N := 11) hx hb hts inX11 hown hK hP 0 rfl rfl 0 (by decide) (hts _ wm_582) (fun _ h9 => h9) rfl dX11_takeFour_8 ?_
  refine lv_aload_n hx hb dX11_takeFour_11 rfl (lv_at hl 1 rfl) ?_
  refine va_get (D := D) (ci := 11) (v := .int 19) (C := RX11) (T := TX11) (N := 11) hx hb hts inX11 hown hK hP 0 rfl rfl 1 (by decide) (hts _ wm_583) (fun _ h9 => h9) rfl dX11_takeFour_12 ?_
  refine lv_iload_n hx hb dX11_takeFour_15 rfl (lv_at hl 2 rfl) ?_
  refine pcn (b := 16) rfl ?_
  refine lv_iload_n hx hb dX11_takeFour_16 rfl (lv_at hl 0 rfl) ?_
  refine lv_iushr hx hb dX11_takeFour_17 rfl ?_
  refine lv_topi (fun y6 _ => ?_)
  refine lv_sipush (v := 255) hx hb dX11_takeFour_18 (by decide +kernel) ?_
  refine lv_iand hx hb dX11_takeFour_21 ?_
  refine lv_topi (fun y7 _ => ?_)
  refine kSv (As := [.ref h1, .int 19, .int y7]) (rest := []) (wr := [(h0, .inr (11, [.ref h1, .int 19, .ref g0, .ref g1, .ref g2, .ref g3, .ref g4, .ref g5, .ref g6, .ref g7, .ref g8]))]) hx hb hml hown hts hnw hK hP hD hS hA hl.1 (c_X11_put_26 l D cI cZ cB cJ h1 fz2 y7) yk_X11_put wm_624 [1] [0] rfl rfl (by decide) (by decide) (by decide) rfl rfl dX11_takeFour_22 ⟨Nat.le_of_ble_eq_true rfl, Nat.le_of_ble_eq_true rfl⟩ ⟨Nat.le_of_ble_eq_true rfl, Nat.le_of_ble_eq_true rfl⟩ (Nat.le_of_ble_eq_true rfl) (fun w1 H locs hq9 hP hD hS => ?_)
  obtain ⟨fz3, rfl⟩ := hq9
  have hP : va_P D vwCl [(h0, .inr (11, [.ref h1, .int 19, .ref g0, .ref g1, .ref g2, .ref g3, .ref g4, .ref g5, .ref g6, .ref g7, .ref g8])), (h1, .inl (cI, 300, .inl fz3))] H := hP
  have hD : va_D A [(h0, .inr (11, [.ref h1, .int 19, .ref g0, .ref g1, .ref g2, .ref g3, .ref g4, .ref g5, .ref g6, .ref g7, .ref g8])), (h1, .inl (cI, 300, .inl fz3))] := hD
  refine W.widen (k := 0) (n := 0) (Nat.le_of_ble_eq_true rfl) (Nat.le_of_ble_eq_true rfl) ?_
  refine pcn (b := 25) rfl ?_
  refine lv_aload_n hx hb dX11_takeFour_25 rfl (lv_at hl 1 rfl) ?_
  refine lv_dup hx hb dX11_takeFour_26 rfl ?_
  refine va_get (D := D) (ci := 11) (v := .int 19) (C := RX11) (T := TX11) (N := 11) hx hb hts inX11 hown hK hP 0 rfl rfl 1 (by decide) (hts _ wm_583) (fun _ h9 => h9) rfl dX11_takeFour_27 ?_
  refine lv_iconst (v := 1) hx hb dX11_takeFour_30 (by decide +kernel) ?_
  refine lv_iadd hx hb dX11_takeFour_31 ?_
  refine nrm (y := 20) (by decide +kernel) ?_
  refine va_put (D := D) (ci := 11) (v := .int 20) (ty := .int) (C := RX11) (T := TX11) (N := 11) hx hb hts inX11 tyX11 tyX11_ok nmX11 hown hK hP hD hS 0 rfl rfl 1 (by decide) (hts _ wm_583) (fun _ h9 => h9) rfl (by decide +kernel) rfl rfl (Nat.le_of_ble_eq_true rfl) dX11_takeFour_32 (fun H locs hP hD hS => ?_)
  have hP : va_P D vwCl [(h0, .inr (11, [.ref h1, .int 20, .ref g0, .ref g1, .ref g2, .ref g3, .ref g4, .ref g5, .ref g6, .ref g7, .ref g8])), (h1, .inl (cI, 300, .inl fz3))] H := hP
  have hD : va_D A [(h0, .inr (11, [.ref h1, .int 20, .ref g0, .ref g1, .ref g2, .ref g3, .ref g4, .ref g5, .ref g6, .ref g7, .ref g8])), (h1, .inl (cI, 300, .inl fz3))] := hD
  refine lv_iinc (v := (-8)) (lv' := [(2, .int (-8)), (0, .ref h0), (1, .int s0)]) hx hb dX11_takeFour_35 hl (k := 0) rfl (by decide +kernel) (by decide) rfl (fun ls hl => ?_)
  refine pcn (b := 38) rfl ?_
  refine lv_goto (tgt := 3) hx hb dX11_takeFour_38 (by decide) ?_
  refine lv_iload_n hx hb dX11_takeFour_3 rfl (lv_at hl 0 rfl) ?_
  refine lv_if_lt (tgt := 41) hx hb dX11_takeFour_4 (by decide) (fun _ => ?_) (fun h9 => absurd (by decide +kernel) h9)
  refine W.widen (k := 0) (n := 0) (Nat.le_of_ble_eq_true rfl) (Nat.le_of_ble_eq_true rfl) ?_
  exact rtV hx hb hr hlocks hS hP hD ⟨fz3, rfl⟩ dX11_takeFour_41

set_option maxHeartbeats 4000000 in
set_option maxRecDepth 100000 in
theorem c_X12_typed4_0 (l : Launch) (D : va_G) (cI cZ cB cJ : ClassId) (h0 h1 g0 g1 g2 g3 g4 g5 g6 g7 g8 g9 g10 g11 g12 g13 g14 g15 g16 g17 g18 g19 g20 g21 g22 g23 g24 g25 g26 g27 g28 g29 g30 g31 g32 g33 g34 g35 g36 g37 g38 g39 g40 g41 g42 g43 g44 g45 g46 g47 g48 g49 g50 g51 g52 g53 g54 g55 g56 g57 g58 g59 g60 g61 g62 g63 g64 g65 g66 g67 g68 : Nat) (f0 : Nat → Int32) (s0 : Int32) : CtV l D (TT cI cZ cB cJ) yX12_typed4 cX12_typed4 3 none 0 0 0 0 [.ref h0, .int s0] [(h0, .inr (12, [.ref g0, .ref g1, .ref g2, .ref g3, .ref g4, .int 4, .ref g5, .ref g6, .ref g7, .ref g8, .ref g9, .int 0, .ref g10, .ref g11, .ref g12, .ref g13, .ref g14, .ref g15, .ref g16, .ref g17, .int 0, .ref g18, .int 0, .ref h1, .int 0, .int 0, .int 0, .int 0, .int 0, .int 0, .int 0, .int 0, .long 0, .ref g19, .ref g20, .ref g21, .ref g22, .ref g23, .ref g24, .ref g25, .ref g26, .ref g27, .ref g28, .ref g29, .int 0, .int 1, .int 0, .ref g30, .ref g31, .int 0, .ref g32, .ref g33, .ref g34, .ref g35, .int 0, .ref g36, .int 0, .ref g37, .ref g38, .ref g39, .ref g40, .ref g41, .ref g42, .ref g43, .ref g44, .ref g45, .ref g46, .int 0, .int 0, .int 4, .ref g47, .ref g48, .ref g49, .ref g50, .ref g51, .ref g52, .ref g53, .ref g54, .ref g55, .ref g56, .ref g57, .ref g58, .ref g59, .int 0, .int 0, .int 0, .int 0, .int 0, .int 0, .int 0, .int 0, .int 0, .int 0, .int 0, .int 0, .int 0, .int 0, .int 0, .int 0, .int 0, .int 0, .int 0, .int 0, .ref g60, .ref g61, .int 0, .ref g62, .ref g63, .ref g64, .ref g65, .int 0, .int 0, .ref g66, .ref g67, .int 0, .ref g68, .int 0, .int 0])), (h1, .inl (cB, 300, .inl f0))] (fun w1 => ∃ (fz3 : Nat → Int32), w1 = [(h0, .inr (12, [.ref g0, .ref g1, .ref g2, .ref g3, .ref g4, .int 4, .ref g5, .ref g6, .ref g7, .ref g8, .ref g9, .int 0, .ref g10, .ref g11, .ref g12, .ref g13, .ref g14, .ref g15, .ref g16, .ref g17, .int 0, .ref g18, .int 0, .ref h1, .int 4, .int 0, .int 0, .int 0, .int 0, .int 0, .int 0, .int 0, .long 0, .ref g19, .ref g20, .ref g21, .ref g22, .ref g23, .ref g24, .ref g25, .ref g26, .ref g27, .ref g28, .ref g29, .int 0, .int 1, .int 0, .ref g30, .ref g31, .int 0, .ref g32, .ref g33, .ref g34, .ref g35, .int 0, .ref g36, .int 0, .ref g37, .ref g38, .ref g39, .ref g40, .ref g41, .ref g42, .ref g43, .ref g44, .ref g45, .ref g46, .int 0, .int 0, .int 4, .ref g47, .ref g48, .ref g49, .ref g50, .ref g51, .ref g52, .ref g53, .ref g54, .ref g55, .ref g56, .ref g57, .ref g58, .ref g59, .int 0, .int 0, .int 0, .int 0, .int 0, .int 0, .int 0, .int 0, .int 0, .int 0, .int 0, .int 0, .int 0, .int 0, .int 0, .int 0, .int 0, .int 0, .int 0, .int 0, .ref g60, .ref g61, .int 0, .ref g62, .ref g63, .ref g64, .ref g65, .int 0, .int 0, .ref g66, .ref g67, .int 0, .ref g68, .int 0, .int 0])), (h1, .inl (cB, 300, .inl fz3))]) := by
  refine CtV.of (by decide +kernel) (Nat.le_of_ble_eq_true rfl) ?_
  intro p e s m below meth c A ls hx hb hr hml hown hts hnw hlocks hin hA hS hP hK hD hl
  have hown : s.vm.findClass RX12 = some m.cls := hown
  have hl : lv_has ls 3 [(0, .ref h0), (1, .int s0)] := hl
  refine lv_iconst (v := 3) hx hb dX12_typed4_0 (by decide +kernel) ?_
  refine lv_istore_n (lv' := [(2, .int 3), (0, .ref h0), (1, .int s0)]) hx hb dX12_typed4_1 rfl hl (by decide) rfl (fun ls hl => ?_)
  refine lv_iload_n hx hb dX12_typed4_2 rfl (lv_at hl 0 rfl) ?_
  refine lv_if_lt (tgt := 38) hx hb dX12_typed4_3 (by decide) (fun h9 => absurd h9 (by decide +kernel)) (fun _ => ?_)
  refine lv_aload_n hx hb dX12_typed4_6 rfl (lv_at hl 1 rfl) ?_
  refine va_get (D := D) (ci := 12) (v := .ref h1) (C := RX12) (T := TX12) (N := 118) hx hb hts inX12 hown hK hP 0 rfl rfl 23 (by decide) (hts _ wm_1390) (fun _ h9 => h9) rfl dX12_typed4_7 ?_
  refine lv_aload_n hx hb dX12_typed4_10 rfl (lv_at hl 1 rfl) ?_
  refine pcn (b := 11) rfl ?_
  refine va_get (D := D) (ci := 12) (v := .int 0) (C := RX12) (T := TX12) (N := 118) hx hb hts inX12 hown hK hP 0 rfl rfl 24 (by decide) (hts _ wm_1391) (fun _ h9 => h9) rfl dX12_typed4_11 ?_
  refine lv_iload_n hx hb dX12_typed4_14 rfl (lv_at hl 2 rfl) ?_
  refine lv_bipush (v := 8) hx hb dX12_typed4_15 (by decide +kernel) ?_
  refine lv_iload_n hx hb dX12_typed4_17 rfl (lv_at hl 0 rfl) ?_
  refine lv_imul hx hb dX12_typed4_18 ?_
  refine nrm (y := 24) (by decide +kernel) ?_
  refine lv_ishr hx hb dX12_typed4_19 ?_
  refine lv_topi (fun y0 _ => ?_)
  refine lv_i2b hx hb dX12_typed4_20 rfl ?_
  refine lv_topi (fun y1 _ => ?_)
  refine as_b_o hx hb hK hP hD hS 1 2 rfl rfl (vpi (by decide +kernel)) dX12_typed4_21 (fun H locs fz0 hP hD hS => ?_)
  have hP : va_P D vwCl [(h0, .inr (12, [.ref g0, .ref g1, .ref g2, .ref g3, .ref g4, .int 4, .ref g5, .ref g6, .ref g7, .ref g8, .ref g9, .int 0, .ref g10, .ref g11, .ref g12, .ref g13, .ref g14, .ref g15, .ref g16, .ref g17, .int 0, .ref g18, .int 0, .ref h1, .int 0, .int 0, .int 0, .int 0, .int 0, .int 0, .int 0, .int 0, .long 0, .ref g19, .ref g20, .ref g21, .ref g22, .ref g23, .ref g24, .ref g25, .ref g26, .ref g27, .ref g28, .ref g29, .int 0, .int 1, .int 0, .ref g30, .ref g31, .int 0, .ref g32, .ref g33, .ref g34, .ref g35, .int 0, .ref g36, .int 0, .ref g37, .ref g38, .ref g39, .ref g40, .ref g41, .ref g42, .ref g43, .ref g44, .ref g45, .ref g46, .int 0, .int 0, .int 4, .ref g47, .ref g48, .ref g49, .ref g50, .ref g51, .ref g52, .ref g53, .ref g54, .ref g55, .ref g56, .ref g57, .ref g58, .ref g59, .int 0, .int 0, .int 0, .int 0, .int 0, .int 0, .int 0, .int 0, .int 0, .int 0, .int 0, .int 0, .int 0, .int 0, .int 0, .int 0, .int 0, .int 0, .int 0, .int 0, .ref g60, .ref g61, .int 0, .ref g62, .ref g63, .ref g64, .ref g65, .int 0, .int 0, .ref g66, .ref g67, .int 0, .ref g68, .int 0, .int 0])), (h1, .inl (cB, 300, .inl fz0))] H := hP
  have hD : va_D A [(h0, .inr (12, [.ref g0, .ref g1, .ref g2, .ref g3, .ref g4, .int 4, .ref g5, .ref g6, .ref g7, .ref g8, .ref g9, .int 0, .ref g10, .ref g11, .ref g12, .ref g13, .ref g14, .ref g15, .ref g16, .ref g17, .int 0, .ref g18, .int 0, .ref h1, .int 0, .int 0, .int 0, .int 0, .int 0, .int 0, .int 0, .int 0, .long 0, .ref g19, .ref g20, .ref g21, .ref g22, .ref g23, .ref g24, .ref g25, .ref g26, .ref g27, .ref g28, .ref g29, .int 0, .int 1, .int 0, .ref g30, .ref g31, .int 0, .ref g32, .ref g33, .ref g34, .ref g35, .int 0, .ref g36, .int 0, .ref g37, .ref g38, .ref g39, .ref g40, .ref g41, .ref g42, .ref g43, .ref g44, .ref g45, .ref g46, .int 0, .int 0, .int 4, .ref g47, .ref g48, .ref g49, .ref g50, .ref g51, .ref g52, .ref g53, .ref g54, .ref g55, .ref g56, .ref g57, .ref g58, .ref g59, .int 0, .int 0, .int 0, .int 0, .int 0, .int 0, .int 0, .int 0, .int 0, .int 0, .int 0, .int 0, .int 0, .int 0, .int 0, .int 0, .int 0, .int 0, .int 0, .int 0, .ref g60, .ref g61, .int 0, .ref g62, .ref g63, .ref g64, .ref g65, .int 0, .int 0, .ref g66, .ref g67, .int 0, .ref g68, .int 0, .int 0])), (h1, .inl (cB, 300, .inl fz0))] := hD
  refine pcn (b := 22) rfl ?_
  refine lv_aload_n hx hb dX12_typed4_22 rfl (lv_at hl 1 rfl) ?_
  refine lv_aload_n hx hb dX12_typed4_23 rfl (lv_at hl 1 rfl) ?_
  refine va_get (D := D) (ci := 12) (v := .int 0) (C := RX12) (T := TX12) (N := 118) hx hb hts inX12 hown hK hP 0 rfl rfl 24 (by decide) (hts _ wm_1391) (fun _ h9 => h9) rfl dX12_typed4_24 ?_
  refine lv_iconst (v := 1) hx hb dX12_typed4_27 (by decide +kernel) ?_
  refine lv_iadd hx hb dX12_typed4_28 ?_
  refine nrm (y := 1) (by decide +kernel) ?_
  refine va_put (D := D) (ci := 12) (v := .int 1) (ty := .int) (C := RX12) (T := TX12) (N := 118) hx hb hts inX12 tyX12 tyX12_ok nmX12 hown hK hP hD hS 0 rfl rfl 24 (by decide) (hts _ wm_1391) (fun _ h9 => h9) rfl (by decide +kernel) rfl rfl (Nat.le_of_ble_eq_true rfl) dX12_typed4_29 (fun H locs hP hD hS => ?_)
  have hP : va_P D vwCl [(h0, .inr (12, [.ref g0, .ref g1, .ref g2, .ref g3, .ref g4, .int 4, .ref g5, .ref g6, .ref g7, .ref g8, .ref g9, .int 0, .ref g10, .ref g11, .ref g12, .ref g13, .ref g14, .ref g15, .ref g16, .ref g17, .int 0, .ref g18, .int 0, .ref h1, .int 1, .int 0, .int 0, .int 0, .int 0, .int 0, .int 0, .int 0, .long 0, .ref g19, .ref g20, .ref g21, .ref g22, .ref g23, .ref g24, .ref g25, .ref g26, .ref g27, .ref g28, .ref g29, .int 0, .int 1, .int 0, .ref g30, .ref g31, .int 0, .ref g32, .ref g33, .ref g34, .ref g35, .int 0, .ref g36, .int 0, .ref g37, .ref g38, .ref g39, .ref g40, .ref g41, .ref g42, .ref g43, .ref g44, .ref g45, .ref g46, .int 0, .int 0, .int 4, .ref g47, .ref g48, .ref g49, .ref g50, .ref g51, .ref g52, .ref g53, .ref g54, .ref g55, .ref g56, .ref g57, .ref g58, .ref g59, .int 0, .int 0, .int 0, .int 0, .int 0, .int 0, .int 0, .int 0, .int 0, .int 0, .int 0, .int 0, .int 0, .int 0, .int 0, .int 0, .int 0, .int 0, .int 0, .int 0, .ref g60, .ref g61, .int 0, .ref g62, .ref g63, .ref g64, .ref g65, .int 0, .int 0, .ref g66, .ref g67, .int 0, .ref g68, .int 0, .int 0])), (h1, .inl (cB, 300, .inl fz0))] H := hP
  have hD : va_D A [(h0, .inr (12, [.ref g0, .ref g1, .ref g2, .ref g3, .ref g4, .int 4, .ref g5, .ref g6, .ref g7, .ref g8, .ref g9, .int 0, .ref g10, .ref g11, .ref g12, .ref g13, .ref g14, .ref g15, .ref g16, .ref g17, .int 0, .ref g18, .int 0, .ref h1, .int 1, .int 0, .int 0, .int 0, .int 0, .int 0, .int 0, .int 0, .long 0, .ref g19, .ref g20, .ref g21, .ref g22, .ref g23, .ref g24, .ref g25, .ref g26, .ref g27, .ref g28, .ref g29, .int 0, .int 1, .int 0, .ref g30, .ref g31, .int 0, .ref g32, .ref g33, .ref g34, .ref g35, .int 0, .ref g36, .int 0, .ref g37, .ref g38, .ref g39, .ref g40, .ref g41, .ref g42, .ref g43, .ref g44, .ref g45, .ref g46, .int 0, .int 0, .int 4, .ref g47, .ref g48, .ref g49, .ref g50, .ref g51, .ref g52, .ref g53, .ref g54, .ref g55, .ref g56, .ref g57, .ref g58, .ref g59, .int 0, .int 0, .int 0, .int 0, .int 0, .int 0, .int 0, .int 0, .int 0, .int 0, .int 0, .int 0, .int 0, .int 0, .int 0, .int 0, .int 0, .int 0, .int 0, .int 0, .ref g60, .ref g61, .int 0, .ref g62, .ref g63, .ref g64, .ref g65, .int 0, .int 0, .ref g66, .ref g67, .int 0, .ref g68, .int 0, .int 0])), (h1, .inl (cB, 300, .inl fz0))] := hD
  refine lv_iinc (v := 2) (lv' := [(2, .int 2), (0, .ref h0), (1, .int s0)]) hx hb dX12_typed4_32 hl (k := 0) rfl (by decide +kernel) (by decide) rfl (fun ls hl => ?_)
  refine lv_goto (tgt := 2) hx hb dX12_typed4_35 (by decide) ?_
  refine lv_iload_n hx hb dX12_typed4_2 rfl (lv_at hl 0 rfl) ?_
  refine lv_if_lt (tgt := 38) hx hb dX12_typed4_3 (by decide) (fun h9 => absurd h9 (by decide +kernel)) (fun _ => ?_)
  refine lv_aload_n hx hb dX12_typed4_6 rfl (lv_at hl 1 rfl) ?_
  refine va_get (D := D) (ci := 12) (v := .ref h1) (C := RX12) (T := TX12) (N := 118) hx hb hts inX12 hown hK hP 0 rfl rfl 23 (by decide) (hts _ wm_1390) (fun _ h9 => h9) rfl dX12_typed4_7 ?_
  refine lv_aload_n hx hb dX12_typed4_10 rfl (lv_at hl 1 rfl) ?_
  refine va_get (D := D) (ci := 12) (v := .int 1) (C := RX12) (T := TX12) (N := 118) hx hb hts inX12 hown hK hP 0 rfl rfl 24 (by decide) (hts _ wm_1391) (fun _ h9 => h9) rfl dX12_typed4_11 ?_
  refine lv_iload_n hx hb dX12_typed4_14 rfl (lv_at hl 2 rfl) ?_
  refine pcn (b := 15) rfl ?_
  refine lv_bipush (v := 8) hx hb dX12_typed4_15 (by decide +kernel) ?_
  refine lv_iload_n hx hb dX12_typed4_17 rfl (lv_at hl 0 rfl) ?_
  refine lv_imul hx hb dX12_typed4_18 ?_
  refine nrm (y := 16) (by decide +kernel) ?_
  refine lv_ishr hx hb dX12_typed4_19 ?_
  refine lv_topi (fun y2 _ => ?_)
  refine lv_i2b hx hb dX12_typed4_20 rfl ?_
  refine lv_topi (fun y3 _ => ?_)
  refine as_b_o hx hb hK hP hD hS 1 2 rfl rfl (vpi (by decide +kernel)) dX12_typed4_21 (fun H locs fz1 hP hD hS => ?_)
  have hP : va_P D vwCl [(h0, .inr (12, [.ref g0, .ref g1, .ref g2, .ref g3, .ref g4, .int 4, .ref g5, .ref g6, .ref g7, .ref g8, .ref g9, .int 0, .ref g10, .ref g11, .ref g12, .ref g13, .ref g14, .ref g15, .ref g16, .ref g17, .int 0, .ref g18, .int 0, .ref h1, .int 1, .int 0, .int 0, .int 0, .int 0, .int 0, .int 0, .int 0, .long 0, .ref g19, .ref g20, .ref g21, .ref g22, .ref g23, .ref g24, .ref g25, .ref g26, .ref g27, .ref g28, .ref g29, .int 0, .int 1, .int 0, .ref g30, .ref g31, .int 0, .ref g32, .ref g33, .ref g34, .ref g35, .int 0, .ref g36, .int 0, .ref g37, .ref g38, .ref g39, .ref g40, .ref g41, .ref g42, .ref g43, .ref g44, .ref g45, .ref g46, .int 0, .int 0, .int 4, .ref g47, .ref g48, .ref g49, .ref g50, .ref g51, .ref g52, .ref g53, .ref g54, .ref g55, .ref g56, .ref g57, .ref g58, .ref g59, .int 0, .int 0, .int 0, .int 0, .int 0, .int 0, .int 0, .int 0, .int 0, .int 0, .int 0, .int 0, .int 0, .int 0, .int 0, .int 0, .int 0, .int 0, .int 0, .int 0, .ref g60, .ref g61, .int 0, .ref g62, .ref g63, .ref g64, .ref g65, .int 0, .int 0, .ref g66, .ref g67, .int 0, .ref g68, .int 0, .int 0])), (h1, .inl (cB, 300, .inl fz1))] H := hP
  have hD : va_D A [(h0, .inr (12, [.ref g0, .ref g1, .ref g2, .ref g3, .ref g4, .int 4, .ref g5, .ref g6, .ref g7, .ref g8, .ref g9, .int 0, .ref g10, .ref g11, .ref g12, .ref g13, .ref g14, .ref g15, .ref g16, .ref g17, .int 0, .ref g18, .int 0, .ref h1, .int 1, .int 0, .int 0, .int 0, .int 0, .int 0, .int 0, .int 0, .long 0, .ref g19, .ref g20, .ref g21, .ref g22, .ref g23, .ref g24, .ref g25, .ref g26, .ref g27, .ref g28, .ref g29, .int 0, .int 1, .int 0, .ref g30, .ref g31, .int 0, .ref g32, .ref g33, .ref g34, .ref g35, .int 0, .ref g36, .int 0, .ref g37, .ref g38, .ref g39, .ref g40, .ref g41, .ref g42, .ref g43, .ref g44, .ref g45, .ref g46, .int 0, .int 0, .int 4, .ref g47, .ref g48, .ref g49, .ref g50, .ref g51, .ref g52, .ref g53, .ref g54, .ref g55, .ref g56, .ref g57, .ref g58, .ref g59, .int 0, .int 0, .int 0, .int 0, .int 0, .int 0, .int 0, .int 0, .int 0, .int 0, .int 0, .int 0, .int 0, .int 0, .int 0, .int 0, .int 0, .int 0, .int 0, .int 0, .ref g60, .ref g61, .int 0, .ref g62, .ref g63, .ref g64, .ref g65, .int 0, .int 0, .ref g66, .ref g67, .int 0, .ref g68, .int 0, .int 0])), (h1, .inl (cB, 300, .inl fz1))] := hD
  refine lv_aload_n hx hb dX12_typed4_22 rfl (lv_at hl 1 rfl) ?_
  refine lv_aload_n hx hb dX12_typed4_23 rfl (lv_at hl 1 rfl) ?_
  refine pcn (b := 24) rfl ?_
  refine va_get (D := D) (ci := 12) (v := .int 1) (C := RX12) (T := TX12) (N := 118) hx hb hts inX12 hown hK hP 0 rfl rfl 24 (by decide) (hts _ wm_1391) (fun _ h9 => h9) rfl dX12_typed4_24 ?_
  refine lv_iconst (v := 1) hx hb dX12_typed4_27 (by decide +kernel) ?_
  refine lv_iadd hx hb dX12_typed4_28 ?_
  refine nrm (y := 2) (by decide +kernel) ?_
  refine va_put (D := D) (ci := 12) (v := .int 2) (ty := .int) (C := RX12) (T := TX12) (N := 118) hx hb hts inX12 tyX12 tyX12_ok nmX12 hown hK hP hD hS 0 rfl rfl 24 (by decide) (hts _ wm_1391) (fun _ h9 => h9) rfl (by decide +kernel) rfl rfl (Nat.le_of_ble_eq_true rfl) dX12_typed4_29 (fun H locs hP hD hS => ?_)
  have hP : va_P D vwCl [(h0, .inr (12, [.ref g0, .ref g1, .ref g2, .ref g3, .ref g4, .int 4, .ref g5, .ref g6, .ref g7, .ref g8, .ref g9, .int 0, .ref g10, .ref g11, .ref g12, .ref g13, .ref g14, .ref g15, .ref g16, .ref g17, .int 0, .ref g18, .int 0, .ref h1, .int 2, .int 0, .int 0, .int 0, .int 0, .int 0, .int 0, .int 0, .long 0, .ref g19, .ref g20, .ref g21, .ref g22, .ref g23, .ref g24, .ref g25, .ref g26, .ref g27, .ref g28, .ref g29, .int 0, .int 1, .int 0, .ref g30, .ref g31, .int 0, .ref g32, .ref g33, .ref g34, .ref g35, .int 0, .ref g36, .int 0, .ref g37, .ref g38, .ref g39, .ref g40, .ref g41, .ref g42, .ref g43, .ref g44, .ref g45, .ref g46, .int 0, .int 0, .int 4, .ref g47, .ref g48, .ref g49, .ref g50, .ref g51, .ref g52, .ref g53, .ref g54, .ref g55, .ref g56, .ref g57, .ref g58, .ref g59, .int 0, .int 0, .int 0, .int 0, .int 0, .int 0, .int 0, .int 0, .int 0, .int 0, .int 0, .int 0, .int 0, .int 0, .int 0, .int 0, .int 0, .int 0, .int 0, .int 0, .ref g60, .ref g61, .int 0, .ref g62, .ref g63, .ref g64, .ref g65, .int 0, .int 0, .ref g66, .ref g67, .int 0, .ref g68, .int 0, .int 0])), (h1, .inl (cB, 300, .inl fz1))] H := hP
  have hD : va_D A [(h0, .inr (12, [.ref g0, .ref g1, .ref g2, .ref g3, .ref g4, .int 4, .ref g5, .ref g6, .ref g7, .ref g8, .ref g9, .int 0, .ref g10, .ref g11, .ref g12, .ref g13, .ref g14, .ref g15, .ref g16, .ref g17, .int 0, .ref g18, .int 0, .ref h1, .int 2, .int 0, .int 0, .int 0, .int 0, .int 0, .int 0, .int 0, .long 0, .ref g19, .ref g20, .ref g21, .ref g22, .ref g23, .ref g24, .ref g25, .ref g26, .ref g27, .ref g28, .ref g29, .int 0, .int 1, .int 0, .ref g30, .ref g31, .int 0, .ref g32, .ref g33, .ref g34, .ref g35, .int 0, .ref g36, .int 0, .ref g37, .ref g38, .ref g39, .ref g40, .ref g41, .ref g42, .ref g43, .ref g44, .ref g45, .ref g46, .int 0, .int 0, .int 4, .ref g47, .ref g48, .ref g49, .ref g50, .ref g51, .ref g52, .ref g53, .ref g54, .ref g55, .ref g56, .ref g57, .ref g58, .ref g59, .int 0, .int 0, .int 0, .int 0, .int 0, .int 0, .int 0, .int 0, .int 0, .int 0, .int 0, .int 0, .int 0, .int 0, .int 0, .int 0, .int 0, .int 0, .int 0, .int 0, .ref g60, .ref g61, .int 0, .ref g62, .ref g63, .ref g64, .ref g65, .int 0, .int 0, .ref g66, .ref g67, .int 0, .ref g68, .int 0, .int 0])), (h1, .inl (cB, 300, .inl fz1))] := hD
  refine lv_iinc (v := 1) (lv' := [(2, .int 1), (0, .ref h0), (1, .int s0)]) hx hb dX12_typed4_32 hl (k := 0) rfl (by decide +kernel) (by decide) rfl (fun ls hl => ?_)
  refine lv_goto (tgt := 2) hx hb dX12_typed4_35 (by decide) ?_
  refine lv_iload_n hx hb dX12_typed4_2 rfl (lv_at hl 0 rfl) ?_
  refine lv_if_lt (tgt := 38) hx hb dX12_typed4_3 (by decide) (fun h9 => absurd h9 (by decide +kernel)) (fun _ => ?_)
  refine lv_aload_n hx hb dX12_typed4_6 rfl (lv_at hl 1 rfl) ?_
  refine va_get (D := D) (ci := 12) (v := .ref h1) (C := RX12) (T := TX12) (N := 118) hx hb hts inX12 hown hK hP 0 rfl rfl 23 (by decide) (hts _ wm_1390) (fun _ h9 => h9) rfl dX12_typed4_7 ?_
  refine lv_aload_n hx hb dX12_typed4_10 rfl (lv_at hl 1 rfl) ?_
  refine va_get (D := D) (ci := 12) (v := .int 2) (C := RX12) (T := TX12) (N := 118) hx hb hts inX12 hown hK hP 0 rfl rfl 24 (by decide) (hts _ wm_1391) (fun _ h9 => h9) rfl dX12_typed4_11 ?_
  refine lv_iload_n hx hb dX12_typed4_14 rfl (lv_at hl 2 rfl) ?_
  refine pcn (b := 15) rfl ?_
  refine lv_bipush (v := 8) hx hb dX12_typed4_15 (by decide +kernel) ?_
  refine lv_iload_n hx hb dX12_typed4_17 rfl (lv_at hl 0 rfl) ?_
  refine lv_imul hx hb dX12_typed4_18 ?_
  refine nrm (y := 8) (by decide +kernel) ?_
  refine lv_ishr hx hb dX12_typed4_19 ?_
  refine lv_topi (fun y4 _ => ?_)
  refine lv_i2b hx hb dX12_typed4_20 rfl ?_
  refine lv_topi (fun y5 _ => ?_)
  refine as_b_o hx hb hK hP hD hS 1 2 rfl rfl (vpi (by decide +kernel)) dX12_typed4_21 (fun H locs fz2 hP hD hS => ?_)
  have hP : va_P D vwCl [(h0, .inr (12, [.ref g0, .ref g1, .ref g2, .ref g3, .ref g4, .int 4, .ref g5, .ref g6, .ref g7, .ref g8, .ref g9, .int 0, .ref g10, .ref g11, .ref g12, .ref g13, .ref g14, .ref g15, .ref g16, .ref g17, .int 0, .ref g18, .int 0, .ref h1, .int 2, .int 0, .int 0, .int 0, .int 0, .int 0, .int 0, .int 0, .long 0, .ref g19, .ref g20, .ref g21, .ref g22, .ref g23, .ref g24, .ref g25, .ref g26, .ref g27, .ref g28, .ref g29, .int 0, .int 1, .int 0, .ref g30, .ref g31, .int 0, .ref g32, .ref g33, .ref g34, .ref g35, .int 0, .ref g36, .int 0, .ref g37, .ref g38, .ref g39, .ref g40, .ref g41, .ref g42, .ref g43, .ref g44, .ref g45, .ref g46, .int 0, .int 0, .int 4, .ref g47, .ref g48, .ref g49, .ref g50, .ref g51, .ref g52, .ref g53, .ref g54, .ref g55, .ref g56, .ref g57, .ref g58, .ref g59, .int 0, .int 0, .int 0, .int 0, .int 0, .int 0, .int 0, .int 0, .int 0, .int 0, .int 0, .int 0, .int 0, .int 0, .int 0, .int 0, .int 0, .int 0, .int 0, .int 0, .ref g60, .ref g61, .int 0, .ref g62, .ref g63, .ref g64, .ref g65, .int 0, .int 0, .ref g66, .ref g67, .int 0, .ref g68, .int 0, .int 0])), (h1, .inl (cB, 300, .inl fz2))] H := hP
  have hD : va_D A [(h0, .inr (12, [.ref g0, .ref g1, .ref g2, .ref g3, .ref g4, .int 4, .ref g5, .ref g6, .ref g7, .ref g8, .ref g9, .int 0, .ref g10, .ref g11, .ref g12, .ref g13, .ref g14, .ref g15, .ref g16, .ref g17, .int 0, .ref g18, .int 0, .ref h1, .int 2, .int 0, .int 0, .int 0, .int 0, .int 0, .int 0, .int 0, .long 0, .ref g19, .ref g20, .ref g21, .ref g22, .ref g23, .ref g24, .ref g25, .ref g26, .ref g27, .ref g28, .ref g29, .int 0, .int 1, .int 0, .ref g30, .ref g31, .int 0, .ref g32, .ref g33, .ref g34, .ref g35, .int 0, .ref g36, .int 0, .ref g37, .ref g38, .ref g39, .ref g40, .ref g41, .ref g42, .ref g43, .ref g44, .ref g45, .ref g46, .int 0, .int 0, .int 4, .ref g47, .ref g48, .ref g49, .ref g50, .ref g51, .ref g52, .ref g53, .ref g54, .ref g55, .ref g56, .ref g57, .ref g58, .ref g59, .int 0, .int 0, .int 0, .int 0, .int 0, .int 0, .int 0, .int 0, .int 0, .int 0, .int 0, .int 0, .int 0, .int 0, .int 0, .int 0, .int 0, .int 0, .int 0, .int 0, .ref g60, .ref g61, .int 0, .ref g62, .ref g63, .ref g64, .ref g65, .int 0, .int 0, .ref g66, .ref g67, .int 0, .ref g68, .int 0, .int 0])), (h1, .inl (cB, 300, .inl fz2))] := hD
  refine lv_aload_n hx hb dX12_typed4_22 rfl (lv_at hl 1 rfl) ?_
  refine lv_aload_n hx hb dX12_typed4_23 rfl (lv_at hl 1 rfl) ?_
  refine pcn (b := 24) rfl ?_
  refine va_get (D := D) (ci := 12) (v := .int 2) (C := RX12) (T := TX12) (N := 118) hx hb hts inX12 hown hK hP 0 rfl rfl 24 (by decide) (hts _ wm_1391) (fun _ h9 => h9) rfl dX12_typed4_24 ?_
  refine lv_iconst (v := 1) hx hb dX12_typed4_27 (by decide +kernel) ?_
  refine lv_iadd hx hb dX12_typed4_28 ?_
  refine nrm (y := 3) (by decide +kernel) ?_
  refine va_put (D := D) (ci := 12) (v := .int 3) (ty := .int) (C := RX12) (T := TX12) (N := 118) hx hb hts inX12 tyX12 tyX12_ok nmX12 hown hK hP hD hS 0 rfl rfl 24 (by decide) (hts _ wm_1391) (fun _ h9 => h9) rfl (by decide +kernel) rfl rfl (Nat.le_of_ble_eq_true rfl) dX12_typed4_29 (fun H locs hP hD hS => ?_)
  have hP : va_P D vwCl [(h0, .inr (12, [.ref g0, .ref g1, .ref g2, .ref g3, .ref g4, .int 4, .ref g5, .ref g6, .ref g7, .ref g8, .ref g9, .int 0, .ref g10, .ref g11, .ref g12, .ref g13, .ref g14, .ref g15, .ref g16, .ref g17, .int 0, .ref g18, .int 0, .ref h1, .int 3, .int 0, .int 0, .int 0, .int 0, .int 0, .int 0, .int 0, .long 0, .ref g19, .ref g20, .ref g21, .ref g22, .ref g23, .ref g24, .ref g25, .ref g26, .ref g27, .ref g28, .ref g29, .int 0, .int 1, .int 0, .ref g30, .ref g31, .int 0, .ref g32, .ref g33, .ref g34, .ref g35, .int 0, .ref g36, .int 0, .ref g37, .ref g38, .ref g39, .ref g40, .ref g41, .ref g42, .ref g43, .ref g44, .ref g45, .ref g46, .int 0, .int 0, .int 4, .ref g47, .ref g48, .ref g49, .ref g50, .ref g51, .ref g52, .ref g53, .ref g54, .ref g55, .ref g56, .ref g57, .ref g58, .ref g59, .int 0, .int 0, .int 0, .int 0, .int 0, .int 0, .int 0, .int 0, .int 0, .int 0, .int 0, .int 0, .int 0, .int 0, .int 0, .int 0, .int 0, .int 0, .int 0, .int 0, .ref g60, .ref g61, .int 0, .ref g62, .ref g63, .ref g64, .ref g65, .int 0, .int 0, .ref g66, .ref g67, .int 0, .ref g68, .int 0, .int 0])), (h1, .inl (cB, 300, .inl fz2))] H := hP
  have hD : va_D A [(h0, .inr (12, [.ref g0, .ref g1, .ref g2, .ref g3, .ref g4, .int 4, .ref g5, .ref g6, .ref g7, .ref g8, .ref g9, .int 0, .ref g10, .ref g11, .ref g12, .ref g13, .ref g14, .ref g15, .ref g16, .ref g17, .int 0, .ref g18, .int 0, .ref h1, .int 3, .int 0, .int 0, .int 0, .int 0, .int 0, .int 0, .int 0, .long 0, .ref g19, .ref g20, .ref g21, .ref g22, .ref g23, .ref g24, .ref g25, .ref g26, .ref g27, .ref g28, .ref g29, .int 0, .int 1, .int 0, .ref g30, .ref g31, .int 0, .ref g32, .ref g33, .ref g34, .ref g35, .int 0, .ref g36, .int 0, .ref g37, .ref g38, .ref g39, .ref g40, .ref g41, .ref g42, .ref g43, .ref g44, .ref g45, .ref g46, .int 0, .int 0, .int 4, .ref g47, .ref g48, .ref g49, .ref g50, .ref g51, .ref g52, .ref g53, .ref g54, .ref g55, .ref g56, .ref g57, .ref g58, .ref g59, .int 0, .int 0, .int 0, .int 0, .int 0, .int 0, .int 0, .int 0, .int 0, .int 0, .int 0, .int 0, .int 0, .int 0, .int 0, .int 0, .int 0, .int 0, .int 0, .int 0, .ref g60, .ref g61, .int 0, .ref g62, .ref g63, .ref g64, .ref g65, .int 0, .int 0, .ref g66, .ref g67, .int 0, .ref g68, .int 0, .int 0])), (h1, .inl (cB, 300, .inl fz2))] := hD
  refine lv_iinc (v := 0) (lv' := [(2, .int 0), (0, .ref h0), (1, .int s0)]) hx hb dX12_typed4_32 hl (k := 0) rfl (by decide +kernel) (by decide) rfl (fun ls hl => ?_)
  refine lv_goto (tgt := 2) hx hb dX12_typed4_35 (by decide) ?_
  refine lv_iload_n hx hb dX12_typed4_2 rfl (lv_at hl 0 rfl) ?_
  refine lv_if_lt (tgt := 38) hx hb dX12_typed4_3 (by decide) (fun h9 => absurd h9 (by decide +kernel)) (fun _ => ?_)
  refine lv_aload_n hx hb dX12_typed4_6 rfl (lv_at hl 1 rfl) ?_
  refine va_get (D := D) (ci := 12) (v := .ref h1) (C := RX12) (T := TX12) (N := 118) hx hb hts inX12 hown hK hP 0 rfl rfl 23 (by decide) (hts _ wm_1390) (fun _ h9 => h9) rfl dX12_typed4_7 ?_
  refine lv_aload_n hx hb dX12_typed4_10 rfl (lv_at hl 1 rfl) ?_
  refine va_get (D := D) (ci := 12) (v := .int 3) (C := RX12) (T := TX12) (N := 118) hx hb hts inX12 hown hK hP 0 rfl rfl 24 (by decide) (hts _ wm_1391) (fun _ h9 => h9) rfl dX12_typed4_11 ?_
  refine lv_iload_n hx hb dX12_typed4_14 rfl (lv_at hl 2 rfl) ?_
  refine pcn (b := 15) rfl ?_
  refine lv_bipush (v := 8) hx hb dX12_typed4_15 (by decide +kernel) ?_
  refine lv_iload_n hx hb dX12_typed4_17 rfl (lv_at hl 0 rfl) ?_
  refine lv_imul hx hb dX12_typed4_18 ?_
  refine nrm (y := 0) (by decide +kernel) ?_
  refine lv_ishr hx hb dX12_typed4_19 ?_
  refine lv_topi (fun y6 _ => ?_)
  refine lv_i2b hx hb dX12_typed4_20 rfl ?_
  refine lv_topi (fun y7 _ => ?_)
  refine as_b_o hx hb hK hP hD hS 1 2 rfl rfl (vpi (by decide +kernel)) dX12_typed4_21 (fun H locs fz3 hP hD hS => ?_)
  have hP : va_P D vwCl [(h0, .inr (12, [.ref g0, .ref g1, .ref g2, .ref g3, .ref g4, .int 4, .ref g5, .ref g6, .ref g7, .ref g8, .ref g9, .int 0, .ref g10, .ref g11, .ref g12, .ref g13, .ref g14, .ref g15, .ref g16, .ref g17, .int 0, .ref g18, .int 0, .ref h1, .int 3, .int 0, .int 0, .int 0, .int 0, .int 0, .int 0, .int 0, .long 0, .ref g19, .ref g20, .ref g21, .ref g22, .ref g23, .ref g24, .ref g25, .ref g26, .ref g27, .ref g28, .ref g29, .int 0, .int 1, .int 0, .ref g30, .ref g31, .int 0, .ref g32, .ref g33, .ref g34, .ref g35, .int 0, .ref g36, .int 0, .ref g37, .ref g38, .ref g39, .ref g40, .ref g41, .ref g42, .ref g43, .ref g44, .ref g45, .ref g46, .int 0, .int 0, .int 4, .ref g47, .ref g48, .ref g49, .ref g50, .ref g51, .ref g52, .ref g53, .ref g54, .ref g55, .ref g56, .ref g57, .ref g58, .ref g59, .int 0, .int 0, .int 0, .int 0, .int 0, .int 0, .int 0, .int 0, .int 0, .int 0, .int 0, .int 0, .int 0, .int 0, .int 0, .int 0, .int 0, .int 0, .int 0, .int 0, .ref g60, .ref g61, .int 0, .ref g62, .ref g63, .ref g64, .ref g65, .int 0, .int 0, .ref g66, .ref g67, .int 0, .ref g68, .int 0, .int 0])), (h1, .inl (cB, 300, .inl fz3))] H := hP
  have hD : va_D A [(h0, .inr (12, [.ref g0, .ref g1, .ref g2, .ref g3, .ref g4, .int 4, .ref g5, .ref g6, .ref g7, .ref g8, .ref g9, .int 0, .ref g10, .ref g11, .ref g12, .ref g13, .ref g14, .ref g15, .ref g16, .ref g17, .int 0, .ref g18, .int 0, .ref h1, .int 3, .int 0, .int 0, .int 0, .int 0, .int 0, .int 0, .int 0, .long 0, .ref g19, .ref g20, .ref g21, .ref g22, .ref g23, .ref g24, .ref g25, .ref g26, .ref g27, .ref g28, .ref g29, .int 0, .int 1, .int 0, .ref g30, .ref g31, .int 0, .ref g32, .ref g33, .ref g34, .ref g35, .int 0, .ref g36, .int 0, .ref g37, .ref g38, .ref g39, .ref g40, .ref g41, .ref g42, .ref g43, .ref g44, .ref g45, .ref g46, .int 0, .int 0, .int 4, .ref g47, .ref g48, .ref g49, .ref g50, .ref g51, .ref g52, .ref g53, .ref g54, .ref g55, .ref g56, .ref g57, .ref g58, .ref g59, .int 0, .int 0, .int 0, .int 0, .int 0, .int 0, .int 0, .int 0, .int 0, .int 0, .int 0, .int 0, .int 0, .int 0, .int 0, .int 0, .int 0, .int 0, .int 0, .int 0, .ref g60, .ref g61, .int 0, .ref g62, .ref g63, .ref g64, .ref g65, .int 0, .int 0, .ref g66, .ref g67, .int 0, .ref g68, .int 0, .int 0])), (h1, .inl (cB, 300, .inl fz3))] := hD
  refine lv_aload_n hx hb dX12_typed4_22 rfl (lv_at hl 1 rfl) ?_
  refine lv_aload_n hx hb dX12_typed4_23 rfl (lv_at hl 1 rfl) ?_
  refine pcn (b := 24) rfl ?_
  refine va_get (D := D) (ci := 12) (v := .int 3) (C := RX12) (T := TX12) (N := 118) hx hb hts inX12 hown hK hP 0 rfl rfl 24 (by decide) (hts _ wm_1391) (fun _ h9 => h9) rfl dX12_typed4_24 ?_
  refine lv_iconst (v := 1) hx hb dX12_typed4_27 (by decide +kernel) ?_
  refine lv_iadd hx hb dX12_typed4_28 ?_
  refine nrm (y := 4) (by decide +kernel) ?_
  refine va_put (D := D) (ci := 12) (v := .int 4) (ty := .int) (C := RX12) (T := TX12) (N := 118) hx hb hts inX12 tyX12 tyX12_ok nmX12 hown hK hP hD hS 0 rfl rfl 24 (by decide) (hts _ wm_1391) (fun _ h9 => h9) rfl (by decide +kernel) rfl rfl (Nat.le_of_ble_eq_true rfl) dX12_typed4_29 (fun H locs hP hD hS => ?_)
  have hP : va_P D vwCl [(h0, .inr (12, [.ref g0, .ref g1, .ref g2, .ref g3, .ref g4, .int 4, .ref g5, .ref g6, .ref g7, .ref g8, .ref g9, .int 0, .ref g10, .ref g11, .ref g12, .ref g13, .ref g14, .ref g15, .ref g16, .ref g17, .int 0, .ref g18, .int 0, .ref h1, .int 4, .int 0, .int 0, .int 0, .int 0, .int 0, .int 0, .int 0, .long 0, .ref g19, .ref g20, .ref g21, .ref g22, .ref g23, .ref g24, .ref g25, .ref g26, .ref g27, .ref g28, .ref g29, .int 0, .int 1, .int 0, .ref g30, .ref g31, .int 0, .ref g32, .ref g33, .ref g34, .ref g35, .int 0, .ref g36, .int 0, .ref g37, .ref g38, .ref g39, .ref g40, .ref g41, .ref g42, .ref g43, .ref g44, .ref g45, .ref g46, .int 0, .int 0, .int 4, .ref g47, .ref g48, .ref g49, .ref g50, .ref g51, .ref g52, .ref g53, .ref g54, .ref g55, .ref g56, .ref g57, .ref g58, .ref g59, .int 0, .int 0, .int 0, .int 0, .int 0, .int 0, .int 0, .int 0, .int 0, .int 0, .int 0, .int 0, .int 0, .int 0, .int 0, .int 0, .int 0, .int 0, .int 0, .int 0, .ref g60, .ref g61, .int 0, .ref g62, .ref g63, .ref g64, .ref g65, .int 0, .int 0, .ref g66, .ref g67, .int 0, .ref g68, .int 0, .int 0])), (h1, .inl (cB, 300, .inl fz3))] H := hP
  have hD : va_D A [(h0, .inr (12, [.ref g0, .ref g1, .ref g2, .ref g3, .ref g4, .int 4, .ref g5, .ref g6, .ref g7, .ref g8, .ref g9, .int 0, .ref g10, .ref g11, .ref g12, .ref g13, .ref g14, .ref g15, .ref g16, .ref g17, .int 0, .ref g18, .int 0, .ref h1, .int 4, .int 0, .int 0, .int 0, .int 0, .int 0, .int 0, .int 0, .long 0, .ref g19, .ref g20, .ref g21, .ref g22, .ref g23, .ref g24, .ref g25, .ref g26, .ref g27, .ref g28, .ref g29, .int 0, .int 1, .int 0, .ref g30, .ref g31, .int 0, .ref g32, .ref g33, .ref g34, .ref g35, .int 0, .ref g36, .int 0, .ref g37, .ref g38, .ref g39, .ref g40, .ref g41, .ref g42, .ref g43, .ref g44, .ref g45, .ref g46, .int 0, .int 0, .int 4, .ref g47, .ref g48, .ref g49, .ref g50, .ref g51, .ref g52, .ref g53, .ref g54, .ref g55, .ref g56, .ref g57, .ref g58, .ref g59, .int 0, .int 0, .int 0, .int 0, .int 0, .int 0, .int 0, .int 0, .int 0, .int 0, .int 0, .int 0, .int 0, .int 0, .int 0, .int 0, .int 0, .int 0, .int 0, .int 0, .ref g60, .ref g61, .int 0, .ref g62, .ref g63, .ref g64, .ref g65, .int 0, .int 0, .ref g66, .ref g67, .int 0, .ref g68, .int 0, .int 0])), (h1, .inl (cB, 300, .inl fz3))] := hD
  refine lv_iinc (v := (-1)) (lv' := [(2, .int (-1)), (0, .ref h0), (1, .int s0)]) hx hb dX12_typed4_32 hl (k := 0) rfl (by decide +kernel) (by decide) rfl (fun ls hl => ?_)
  refine lv_goto (tgt := 2) hx hb dX12_typed4_35 (by decide) ?_
  refine lv_iload_n hx hb dX12_typed4_2 rfl (lv_at hl 0 rfl) ?_
  refine lv_if_lt (tgt := 38) hx hb dX12_typed4_3 (by decide) (fun _ => ?_) (fun h9 => absurd (by decide +kernel) h9)
  refine W.widen (k := 0) (n := 0) (Nat.le_of_ble_eq_true rfl) (Nat.le_of_ble_eq_true rfl) ?_
  exact rtV hx hb hr hlocks hS hP hD ⟨fz3, rfl⟩ dX12_typed4_38

set_option maxHeartbeats 4000000 in
set_option maxRecDepth 100000 in
theorem c_X12_typed4_1 (l : Launch) (D : va_G) (cI cZ cB cJ : ClassId) (h0 h1 g0 g1 g2 g3 g4 g5 g6 g7 g8 g9 g10 g11 g12 g13 g14 g15 g16 g17 g18 g19 g20 g21 g22 g23 g24 g25 g26 g27 g28 g29 g30 g31 g32 g33 g34 g35 g36 g37 g38 g39 g40 g41 g42 g43 g44 g45 g46 g47 g48 g49 g50 g51 g52 g53 g54 g55 g56 g57 g58 g59 g60 g61 g62 g63 g64 g65 g66 g67 g68 : Nat) (f0 : Nat → Int32) (s0 : Int32) : CtV l D (TT cI cZ cB cJ) yX12_typed4 cX12_typed4 3 none 0 0 0 0 [.ref h0, .int s0] [(h0, .inr (12, [.ref g0, .ref g1, .ref g2, .ref g3, .ref g4, .int 4, .ref g5, .ref g6, .ref g7, .ref g8, .ref g9, .int 0, .ref g10, .ref g11, .ref g12, .ref g13, .ref g14, .ref g15, .ref g16, .ref g17, .int 0, .ref g18, .int 0, .ref h1, .int 4, .int 0, .int 0, .int 0, .int 0, .int 0, .int 0, .int 0, .long 0, .ref g19, .ref g20, .ref g21, .ref g22, .ref g23, .ref g24, .ref g25, .ref g26, .ref g27, .ref g28, .ref g29, .int 0, .int 1, .int 0, .ref g30, .ref g31, .int 0, .ref g32, .ref g33, .ref g34, .ref g35, .int 0, .ref g36, .int 0, .ref g37, .ref g38, .ref g39, .ref g40, .ref g41, .ref g42, .ref g43, .ref g44, .ref g45, .ref g46, .int 0, .int 0, .int 4, .ref g47, .ref g48, .ref g49, .ref g50, .ref g51, .ref g52, .ref g53, .ref g54, .ref g55, .ref g56, .ref g57, .ref g58, .ref g59, .int 0, .int 0, .int 0, .int 0, .int 0, .int 0, .int 0, .int 0, .int 0, .int 0, .int 0, .int 0, .int 0, .int 0, .int 0, .int 0, .int 0, .int 0, .int 0, .int 0, .ref g60, .ref g61, .int 0, .ref g62, .ref g63, .ref g64, .ref g65, .int 0, .int 0, .ref g66, .ref g67, .int 0, .ref g68, .int 0, .int 0])), (h1, .inl (cB, 300, .inl f0))] (fun w1 => ∃ (fz3 : Nat → Int32), w1 = [(h0, .inr (12, [.ref g0, .ref g1, .ref g2, .ref g3, .ref g4, .int 4, .ref g5, .ref g6, .ref g7, .ref g8, .ref g9, .int 0, .ref g10, .ref g11, .ref g12, .ref g13, .ref g14, .ref g15, .ref g16, .ref g17, .int 0, .ref g18, .int 0, .ref h1, .int 8, .int 0, .int 0, .int 0, .int 0, .int 0, .int 0, .int 0, .long 0, .ref g19, .ref g20, .ref g21, .ref g22, .ref g23, .ref g24, .ref g25, .ref g26, .ref g27, .ref g28, .ref g29, .int 0, .int 1, .int 0, .ref g30, .ref g31, .int 0, .ref g32, .ref g33, .ref g34, .ref g35, .int 0, .ref g36, .int 0, .ref g37, .ref g38, .ref g39, .ref g40, .ref g41, .ref g42, .ref g43, .ref g44, .ref g45, .ref g46, .int 0, .int 0, .int 4, .ref g47, .ref g48, .ref g49, .ref g50, .ref g51, .ref g52, .ref g53, .ref g54, .ref g55, .ref g56, .ref g57, .ref g58, .ref g59, .int 0, .int 0, .int 0, .int 0, .int 0, .int 0, .int 0, .int 0, .int 0, .int 0, .int 0, .int 0, .int 0, .int 0, .int 0, .int 0, .int 0, .int 0, .int 0, .int 0, .ref g60, .ref g61, .int 0, .ref g62, .ref g63, .ref g64, .ref g65, .int 0, .int 0, .ref g66, .ref g67, .int 0, .ref g68, .int 0, .int 0])), (h1, .inl (cB, 300, .inl fz3))]) := by
  refine CtV.of (by decide +kernel) (Nat.le_of_ble_eq_true rfl) ?_
  intro p e s m below meth c A ls hx hb hr hml hown hts hnw hlocks hin hA hS hP hK hD hl
  have hown : s.vm.findClass RX12 = some m.cls := hown
  have hl : lv_has ls 3 [(0, .ref h0), (1, .int s0)] := hl
  refine lv_iconst (v := 3) hx hb dX12_typed4_0 (by decide +kernel) ?_
  refine lv_istore_n (lv' := [(2, .int 3), (0, .ref h0), (1, .int s0)]) hx hb dX12_typed4_1 rfl hl (by decide) rfl (fun ls hl => ?_)
  refine lv_iload_n hx hb dX12_typed4_2 rfl (lv_at hl 0 rfl) ?_
  refine lv_if_lt (tgt := 38) hx hb dX12_typed4_3 (by decide) (fun h9 => absurd h9 (by decide +kernel)) (fun _ => ?_)
  refine lv_aload_n hx hb dX12_typed4_6 rfl (lv_at hl 1 rfl) ?_
  refine va_get (D := D) (ci := 12) (v := .ref h1) (C := RX12) (T := TX12) (N := 118) hx hb hts inX12 hown hK hP 0 rfl rfl 23 (by decide) (hts _ wm_1390) (fun _ h9 => h9) rfl dX12_typed4_7 ?_
  refine lv_aload_n hx hb dX12_typed4_10 rfl (lv_at hl 1 rfl) ?_
  refine pcn (b := 11) rfl ?_
  refine va_get (D := D) (ci := 12) (v := .int 4) (C := RX12) (T := TX12) (N := 118) hx hb hts inX12 hown hK hP 0 rfl rfl 24 (by decide) (hts _ wm_1391) (fun _ h9 => h9) rfl dX12_typed4_11 ?_
  refine lv_iload_n hx hb dX12_typed4_14 rfl (lv_at hl 2 rfl) ?_
  refine lv_bipush (v := 8) hx hb dX12_typed4_15 (by decide +kernel) ?_
  refine lv_iload_n hx hb dX12_typed4_17 rfl (lv_at hl 0 rfl) ?_
  refine lv_imul hx hb dX12_typed4_18 ?_
  refine nrm (y := 24) (by decide +kernel) ?_
  refine lv_ishr hx hb dX12_typed4_19 ?_
  refine lv_topi (fun y0 _ => ?_)
  refine lv_i2b hx hb dX12_typed4_20 rfl ?_
  refine lv_topi (fun y1 _ => ?_)
  refine as_b_o hx hb hK hP hD hS 1 2 rfl rfl (vpi (by decide +kernel)) dX12_typed4_21 (fun H locs fz0 hP hD hS => ?_)
  have hP : va_P D vwCl [(h0, .inr (12, [.ref g0, .ref g1, .ref g2, .ref g3, .ref g4, .int 4, .ref g5, .ref g6, .ref g7, .ref g8, .ref g9, .int 0, .ref g10, .ref g11, .ref g12, .ref g13, .ref g14, .ref g15, .ref g16, .ref g17, .int 0, .ref g18, .int 0, .ref h1, .int 4, .int 0, .int 0, .int 0, .int 0, .int 0, .int 0, .int 0, .long 0, .ref g19, .ref g20, .ref g21, .ref g22, .ref g23, .ref g24, .ref g25, .ref g26, .ref g27, .ref g28, .ref g29, .int 0, .int 1, .int 0, .ref g30, .ref g31, .int 0, .ref g32, .ref g33, .ref g34, .ref g35, .int 0, .ref g36, .int 0, .ref g37, .ref g38, .ref g39, .ref g40, .ref g41, .ref g42, .ref g43, .ref g44, .ref g45, .ref g46, .int 0, .int 0, .int 4, .ref g47, .ref g48, .ref g49, .ref g50, .ref g51, .ref g52, .ref g53, .ref g54, .ref g55, .ref g56, .ref g57, .ref g58, .ref g59, .int 0, .int 0, .int 0, .int 0, .int 0, .int 0, .int 0, .int 0, .int 0, .int 0, .int 0, .int 0, .int 0, .int 0, .int 0, .int 0, .int 0, .int 0, .int 0, .int 0, .ref g60, .ref g61, .int 0, .ref g62, .ref g63, .ref g64, .ref g65, .int 0, .int 0, .ref g66, .ref g67, .int 0, .ref g68, .int 0, .int 0])), (h1, .inl (cB, 300, .inl fz0))] H := hP
  have hD : va_D A [(h0, .inr (12, [.ref g0, .ref g1, .ref g2, .ref g3, .ref g4, .int 4, .ref g5, .ref g6, .ref g7, .ref g8, .ref g9, .int 0, .ref g10, .ref g11, .ref g12, .ref g13, .ref g14, .ref g15, .ref g16, .ref g17, .int 0, .ref g18, .int 0, .ref h1, .int 4, .int 0, .int 0, .int 0, .int 0, .int 0, .int 0, .int 0, .long 0, .ref g19, .ref g20, .ref g21, .ref g22, .ref g23, .ref g24, .ref g25, .ref g26, .ref g27, .ref g28, .ref g29, .int 0, .int 1, .int 0, .ref g30, .ref g31, .int 0, .ref g32, .ref g33, .ref g34, .ref g35, .int 0, .ref g36, .int 0, .ref g37, .ref g38, .ref g39, .ref g40, .ref g41, .ref g42, .ref g43, .ref g44, .ref g45, .ref g46, .int 0, .int 0, .int 4, .ref g47, .ref g48, .ref g49, .ref g50, .ref g51, .ref g52, .ref g53, .ref g54, .ref g55, .ref g56, .ref g57, .ref g58, .ref g59, .int 0, .int 0, .int 0, .int 0, .int 0, .int 0, .int 0, .int 0, .int 0, .int 0, .int 0, .int 0, .int 0, .int 0, .int 0, .int 0, .int 0, .int 0, .int 0, .int 0, .ref g60, .ref g61, .int 0, .ref g62, .ref g63, .ref g64, .ref g65, .int 0, .int 0, .ref g66, .ref g67, .int 0, .ref g68, .int 0, .int 0])), (h1, .inl (cB, 300, .inl fz0))] := hD
  refine pcn (b := 22) rfl ?_
  refine lv_aload_n hx hb dX12_typed4_22 rfl (lv_at hl 1 rfl) ?_
  refine lv_aload_n hx hb dX12_typed4_23 rfl (lv_at hl 1 rfl) ?_
  refine va_get (D := D) (ci := 12) (v := .int 4) (C := RX12) (T := TX12) (N := 118) hx hb hts inX12 hown hK hP 0 rfl rfl 24 (by decide) (hts _ wm_1391) (fun _ h9 => h9) rfl dX12_typed4_24 ?_
  refine lv_iconst (v := 1) hx hb dX12_typed4_27 (by decide +kernel) ?_
  refine lv_iadd hx hb dX12_typed4_28 ?_
  refine nrm (y := 5) (by decide +kernel) ?_
  refine va_put (D := D) (ci := 12) (v := .int 5) (ty := .int) (C := RX12) (T := TX12) (N := 118) hx hb hts inX12 tyX12 tyX12_ok nmX12 hown hK hP hD hS 0 rfl rfl 24 (by decide) (hts _ wm_1391) (fun _ h9 => h9) rfl (by decide +kernel) rfl rfl (Nat.le_of_ble_eq_true rfl) dX12_typed4_29 (fun H locs hP hD hS => ?_)
  have hP : va_P D vwCl [(h0, .inr (12, [.ref g0, .ref g1, .ref g2, .ref g3, .ref g4, .int 4, .ref g5, .ref g6, .ref g7, .ref g8, .ref g9, .int 0, .ref g10, .ref g11, .ref g12, .ref g13, .ref g14, .ref g15, .ref g16, .ref g17, .int 0, .ref g18, .int 0, .ref h1, .int 5, .int 0, .int 0, .int 0, .int 0, .int 0, .int 0, .int 0, .long 0, .ref g19, .ref g20, .ref g21, .ref g22, .ref g23, .ref g24, .ref g25, .ref g26, .ref g27, .ref g28, .ref g29, .int 0, .int 1, .int 0, .ref g30, .ref g31, .int 0, .ref g32, .ref g33, .ref g34, .ref g35, .int 0, .ref g36, .int 0, .ref g37, .ref g38, .ref g39, .ref g40, .ref g41, .ref g42, .ref g43, .ref g44, .ref g45, .ref g46, .int 0, .int 0, .int 4, .ref g47, .ref g48, .ref g49, .ref g50, .ref g51, .ref g52, .ref g53, .ref g54, .ref g55, .ref g56, .ref g57, .ref g58, .ref g59, .int 0, .int 0, .int 0, .int 0, .int 0, .int 0, .int 0, .int 0, .int 0, .int 0, .int 0, .int 0, .int 0, .int 0, .int 0, .int 0, .int 0, .int 0, .int 0, .int 0, .ref g60, .ref g61, .int 0, .ref g62, .ref g63, .ref g64, .ref g65, .int 0, .int 0, .ref g66, .ref g67, .int 0, .ref g68, .int 0, .int 0])), (h1, .inl (cB, 300, .inl fz0))] H := hP
  have hD : va_D A [(h0, .inr (12, [.ref g0, .ref g1, .ref g2, .ref g3, .ref g4, .int 4, .ref g5, .ref g6, .ref g7, .ref g8, .ref g9, .int 0, .ref g10, .ref g11, .ref g12, .ref g13, .ref g14, .ref g15, .ref g16, .ref g17, .int 0, .ref g18, .int 0, .ref h1, .int 5, .int 0, .int 0, .int 0, .int 0, .int 0, .int 0, .int 0, .long 0, .ref g19, .ref g20, .ref g21, .ref g22, .ref g23, .ref g24, .ref g25, .ref g26, .ref g27, .ref g28, .ref g29, .int 0, .int 1, .int 0, .ref g30, .ref g31, .int 0, .ref g32, .ref g33, .ref g34, .ref g35, .int 0, .ref g36, .int 0, .ref g37, .ref g38, .ref g39, .ref g40, .ref g41, .ref g42, .ref g43, .ref g44, .ref g45, .ref g46, .int 0, .int 0, .int 4, .ref g47, .ref g48, .ref g49, .ref g50, .ref g51, .ref g52, .ref g53, .ref g54, .ref g55, .ref g56, .ref g57, .ref g58, .ref g59, .int 0, .int 0, .int 0, .int 0, .int 0, .int 0, .int 0, .int 0, .int 0, .int 0, .int 0, .int 0, .int 0, .int 0, .int 0, .int 0, .int 0, .int 0, .int 0, .int 0, .ref g60, .ref g61, .int 0, .ref g62, .ref g63, .ref g64, .ref g65, .int 0, .int 0, .ref g66, .ref g67, .int 0, .ref g68, .int 0, .int 0])), (h1, .inl (cB, 300, .inl fz0))] := hD
  refine lv_iinc (v := 2) (lv' := [(2, .int 2), (0, .ref h0), (1, .int s0)]) hx hb dX12_typed4_32 hl (k := 0) rfl (by decide +kernel) (by decide) rfl (fun ls hl => ?_)
  refine lv_goto (tgt := 2) hx hb dX12_typed4_35 (by decide) ?_
  refine lv_iload_n hx hb dX12_typed4_2 rfl (lv_at hl 0 rfl) ?_
  refine lv_if_lt (tgt := 38) hx hb dX12_typed4_3 (by decide) (fun h9 => absurd h9 (by decide +kernel)) (fun _ => ?_)
  refine lv_aload_n hx hb dX12_typed4_6 rfl (lv_at hl 1 rfl) ?_
  refine va_get (D := D) (ci := 12) (v := .ref h1) (C := RX12) (T := TX12) (N := 118) hx hb hts inX12 hown hK hP 0 rfl rfl 23 (by decide) (hts _ wm_1390) (fun _ h9 => h9) rfl dX12_typed4_7 ?_
  refine lv_aload_n hx hb dX12_typed4_10 rfl (lv_at hl 1 rfl) ?_
  refine va_get (D := D) (ci := 12) (v := .int 5) (C := RX12) (T := TX12) (N := 118) hx hb hts inX12 hown hK hP 0 rfl rfl 24 (by decide) (hts _ wm_1391) (fun _ h9 => h9) rfl dX12_typed4_11 ?_
  refine lv_iload_n hx hb dX12_typed4_14 rfl (lv_at hl 2 rfl) ?_
  refine pcn (b := 15) rfl ?_
  refine lv_bipush (v := 8) hx hb dX12_typed4_15 (by decide +kernel) ?_
  refine lv_iload_n hx hb dX12_typed4_17 rfl (lv_at hl 0 rfl) ?_
  refine lv_imul hx hb dX12_typed4_18 ?_
  refine nrm (y := 16) (by decide +kernel) ?_
  refine lv_ishr hx hb dX12_typed4_19 ?_
  refine lv_topi (fun y2 _ => ?_)
  refine lv_i2b hx hb dX12_typed4_20 rfl ?_
  refine lv_topi (fun y3 _ => ?_)
  refine as_b_o hx hb hK hP hD hS 1 2 rfl rfl (vpi (by decide +kernel)) dX12_typed4_21 (fun H locs fz1 hP hD hS => ?_)
  have hP : va_P D vwCl [(h0, .inr (12, [.ref g0, .ref g1, .ref g2, .ref g3, .ref g4, .int 4, .ref g5, .ref g6, .ref g7, .ref g8, .ref g9, .int 0, .ref g10, .ref g11, .ref g12, .ref g13, .ref g14, .ref g15, .ref g16, .ref g17, .int 0, .ref g18, .int 0, .ref h1, .int 5, .int 0, .int 0, .int 0, .int 0, .int 0, .int 0, .int 0, .long 0, .ref g19, .ref g20, .ref g21, .ref g22, .ref g23, .ref g24, .ref g25, .ref g26, .ref g27, .ref g28, .ref g29, .int 0, .int 1, .int 0, .ref g30, .ref g31, .int 0, .ref g32, .ref g33, .ref g34, .ref g35, .int 0, .ref g36, .int 0, .ref g37, .ref g38, .ref g39, .ref g40, .ref g41, .ref g42, .ref g43, .ref g44, .ref g45, .ref g46, .int 0, .int 0, .int 4, .ref g47, .ref g48, .ref g49, .ref g50, .ref g51, .ref g52, .ref g53, .ref g54, .ref g55, .ref g56, .ref g57, .ref g58, .ref g59, .int 0, .int 0, .int 0, .int 0, .int 0, .int 0, .int 0, .int 0, .int 0, .int 0, .int 0, .int 0, .int 0, .int 0, .int 0, .int 0, .int 0, .int 0, .int 0, .int 0, .ref g60, .ref g61, .int 0, .ref g62, .ref g63, .ref g64, .ref g65, .int 0, .int 0, .ref g66, .ref g67, .int 0, .ref g68, .int 0, .int 0])), (h1, .inl (cB, 300, .inl fz1))] H := hP
  have hD : va_D A [(h0, .inr (12, [.ref g0, .ref g1, .ref g2, .ref g3, .ref g4, .int 4, .ref g5, .ref g6, .ref g7, .ref g8, .ref g9, .int 0, .ref g10, .ref g11, .ref g12, .ref g13, .ref g14, .ref g15, .ref g16, .ref g17, .int 0, .ref g18, .int 0, .ref h1, .int 5, .int 0, .int 0, .int 0, .int 0, .int 0, .int 0, .int 0, .long 0, .ref g19, .ref g20, .ref g21, .ref g22, .ref g23, .ref g24, .ref g25, .ref g26, .ref g27, .ref g28, .ref g29, .int 0, .int 1, .int 0, .ref g30, .ref g31, .int 0, .ref g32, .ref g33, .ref g34, .ref g35, .int 0, .ref g36, .int 0, .ref g37, .ref g38, .ref g39, .ref g40, .ref g41, .ref g42, .ref g43, .ref g44, .ref g45, .ref g46, .int 0, .int 0, .int 4, .ref g47, .ref g48, .ref g49, .ref g50, .ref g51, .ref g52, .ref g53, .ref g54, .ref g55, .ref g56, .ref g57, .ref g58, .ref g59, .int 0, .int 0, .int 0, .int 0, .int 0, .int 0, .int 0, .int 0, .int 0, .int 0, .int 0, .int 0, .int 0, .int 0, .int 0, .int 0, .int 0, .int 0, .int 0, .int 0, .ref g60, .ref g61, .int 0, .ref g62, .ref g63, .ref g64, .ref g65, .int 0, .int 0, .ref g66, .ref g67, .int 0, .ref g68, .int 0, .int 0])), (h1, .inl (cB, 300, .inl fz1))] := hD
  refine lv_aload_n hx hb dX12_typed4_22 rfl (lv_at hl 1 rfl) ?_
  refine lv_aload_n hx hb dX12_typed4_23 rfl (lv_at hl 1 rfl) ?_
  refine pcn (b := 24) rfl ?_
  refine va_get (D := D) (ci := 12) (v := .int 5) (C := RX12) (T := TX12) (N := 118) hx hb hts inX12 hown hK hP 0 rfl rfl 24 (by decide) (hts _ wm_1391) (fun _ h9 => h9) rfl dX12_typed4_24 ?_
  refine lv_iconst (v := 1) hx hb dX12_typed4_27 (by decide +kernel) ?_
  refine lv_iadd hx hb dX12_typed4_28 ?_
  refine nrm (y := 6) (by decide +kernel) ?_
  refine va_put (D := D) (ci := 12) (v := .int 6) (ty := .int) (C := RX12) (T := TX12) (N := 118) hx hb hts inX12 tyX12 tyX12_ok nmX12 hown hK hP hD hS 0 rfl rfl 24 (by decide) (hts _ wm_1391) (fun _ h9 => h9) rfl (by decide +kernel) rfl rfl (Nat.le_of_ble_eq_true rfl) dX12_typed4_29 (fun H locs hP hD hS => ?_)
  have hP : va_P D vwCl [(h0, .inr (12, [.ref g0, .ref g1, .ref g2, .ref g3, .ref g4, .int 4, .ref g5, .ref g6, .ref g7, .ref g8, .ref g9, .int 0, .ref g10, .ref g11, .ref g12, .ref g13, .ref g14, .ref g15, .ref g16, .ref g17, .int 0, .ref g18, .int 0, .ref h1, .int 6, .int 0, .int 0, .int 0, .int 0, .int 0, .int 0, .int 0, .long 0, .ref g19, .ref g20, .ref g21, .ref g22, .ref g23, .ref g24, .ref g25, .ref g26, .ref g27, .ref g28, .ref g29, .int 0, .int 1, .int 0, .ref g30, .ref g31, .int 0, .ref g32, .ref g33, .ref g34, .ref g35, .int 0, .ref g36, .int 0, .ref g37, .ref g38, .ref g39, .ref g40, .ref g41, .ref g42, .ref g43, .ref g44, .ref g45, .ref g46, .int 0, .int 0, .int 4, .ref g47, .ref g48, .ref g49, .ref g50, .ref g51, .ref g52, .ref g53, .ref g54, .ref g55, .ref g56, .ref g57, .ref g58, .ref g59, .int 0, .int 0, .int 0, .int 0, .int 0, .int 0, .int 0, .int 0, .int 0, .int 0, .int 0, .int 0, .int 0, .int 0, .int 0, .int 0, .int 0, .int 0, .int 0, .int 0, .ref g60, .ref g61, .int 0, .ref g62, .ref g63, .ref g64, .ref g65, .int 0, .int 0, .ref g66, .ref g67, .int 0, .ref g68, .int 0, .int 0])), (h1, .inl (cB, 300, .inl fz1))] H := hP
  have hD : va_D A [(h0, .inr (12, [.ref g0, .ref g1, .ref g2, .ref g3, .ref g4, .int 4, .ref g5, .ref g6, .ref g7, .ref g8, .ref g9, .int 0, .ref g10, .ref g11, .ref g12, .ref g13, .ref g14, .ref g15, .ref g16, .ref g17, .int 0, .ref g18, .int 0, .ref h1, .int 6, .int 0, .int 0, .int 0, .int 0, .int 0, .int 0, .int 0, .long 0, .ref g19, .ref g20, .ref g21, .ref g22, .ref g23, .ref g24, .ref g25, .ref g26, .ref g27, .ref g28, .ref g29, .int 0, .int 1, .int 0, .ref g30, .ref g31, .int 0, .ref g32, .ref g33, .ref g34, .ref g35, .int 0, .ref g36, .int 0, .ref g37, .ref g38, .ref g39, .ref g40, .ref g41, .ref g42, .ref g43, .ref g44, .ref g45, .ref g46, .int 0, .int 0, .int 4, .ref g47, .ref g48, .ref g49, .ref g50, .ref g51, .ref g52, .ref g53, .ref g54, .ref g55, .ref g56, .ref g57, .ref g58, .ref g59, .int 0, .int 0, .int 0, .int 0, .int 0, .int 0, .int 0, .int 0, .int 0, .int 0, .int 0, .int 0, .int 0, .int 0, .int 0, .int 0, .int 0, .int 0, .int 0, .int 0, .ref g60, .ref g61, .int 0, .ref g62, .ref g63, .ref g64, .ref g65, .int 0, .int 0, .ref g66, .ref g67, .int 0, .ref g68, .int 0, .int 0])), (h1, .inl (cB, 300, .inl fz1))] := hD
  refine lv_iinc (v := 1) (lv' := [(2, .int 1), (0, .ref h0), (1, .int s0)]) hx hb dX12_typed4_32 hl (k := 0) rfl (by decide +kernel) (by decide) rfl (fun ls hl => ?_)
  refine lv_goto (tgt := 2) hx hb dX12_typed4_35 (by decide) ?_
  refine lv_iload_n hx hb dX12_typed4_2 rfl (lv_at hl 0 rfl) ?_
  refine lv_if_lt (tgt := 38) hx hb dX12_typed4_3 (by decide) (fun h9 => absurd h9 (by decide +kernel)) (fun _ => ?_)
  refine lv_aload_n hx hb dX12_typed4_6 rfl (lv_at hl 1 rfl) ?_
  refine va_get (D := D) (ci := 12) (v := .ref h1) (C := RX12) (T := TX12) (N := 118) hx hb hts inX12 hown hK hP 0 rfl rfl 23 (by decide) (hts _ wm_1390) (fun _ h9 => h9) rfl dX12_typed4_7 ?_
  refine lv_aload_n hx hb dX12_typed4_10 rfl (lv_at hl 1 rfl) ?_
  refine va_get (D := D) (ci := 12) (v := .int 6) (C := RX12) (T := TX12) (N := 118) hx hb hts inX12 hown hK hP 0 rfl rfl 24 (by decide) (hts _ wm_1391) (fun _ h9 => h9) rfl dX12_typed4_11 ?_
  refine lv_iload_n hx hb dX12_typed4_14 rfl (lv_at hl 2 rfl) ?_
  refine pcn (b := 15) rfl ?_
  refine lv_bipush (v := 8) hx hb dX12_typed4_15 (by decide +kernel) ?_
  refine lv_iload_n hx hb dX12_typed4_17 rfl (lv_at hl 0 rfl) ?_
  refine lv_imul hx hb dX12_typed4_18 ?_
  refine nrm (y := 8) (by decide +kernel) ?_
  refine lv_ishr hx hb dX12_typed4_19 ?_
  refine lv_topi (fun y4 _ => ?_)
  refine lv_i2b hx hb dX12_typed4_20 rfl ?_
  refine lv_topi (fun y5 _ => ?_)
  refine as_b_o hx hb hK hP hD hS 1 2 rfl rfl (vpi (by decide +kernel)) dX12_typed4_21 (fun H locs fz2 hP hD hS => ?_)
  have hP : va_P D vwCl [(h0, .inr (12, [.ref g0, .ref g1, .ref g2, .ref g3, .ref g4, .int 4, .ref g5, .ref g6, .ref g7, .ref g8, .ref g9, .int 0, .ref g10, .ref g11, .ref g12, .ref g13, .ref g14, .ref g15, .ref g16, .ref g17, .int 0, .ref g18, .int 0, .ref h1, .int 6, .int 0, .int 0, .int 0, .int 0, .int 0, .int 0, .int 0, .long 0, .ref g19, .ref g20, .ref g21, .ref g22, .ref g23, .ref g24, .ref g25, .ref g26, .ref g27, .ref g28, .ref g29, .int 0, .int 1, .int 0, .ref g30, .ref g31, .int 0, .ref g32, .ref g33, .ref g34, .ref g35, .int 0, .ref g36, .int 0, .ref g37, .ref g38, .ref g39, .ref g40, .ref g41, .ref g42, .ref g43, .ref g44, .ref g45, .ref g46, .int 0, .int 0, .int 4, .ref g47, .ref g48, .ref g49, .ref g50, .ref g51, .ref g52, .ref g53, .ref g54, .ref g55, .ref g56, .ref g57, .ref g58, .ref g59, .int 0, .int 0, .int 0, .int 0, .int 0, .int 0, .int 0, .int 0, .int 0, .int 0, .int 0, .int 0, .int 0, .int 0, .int 0, .int 0, .int 0, .int 0, .int 0, .int 0, .ref g60, .ref g61, .int 0, .ref g62, .ref g63, .ref g64, .ref g65, .int 0, .int 0, .ref g66, .ref g67, .int 0, .ref g68, .int 0, .int 0])), (h1, .inl (cB, 300, .inl fz2))] H := hP
  have hD : va_D A [(h0, .inr (12, [.ref g0, .ref g1, .ref g2, .ref g3, .ref g4, .int 4, .ref g5, .ref g6, .ref g7, .ref g8, .ref g9, .int 0, .ref g10, .ref g11, .ref g12, .ref g13, .ref g14, .ref g15, .ref g16, .ref g17, .int 0, .ref g18, .int 0, .ref h1, .int 6, .int 0, .int 0, .int 0, .int 0, .int 0, .int 0, .int 0, .long 0, .ref g19, .ref g20, .ref g21, .ref g22, .ref g23, .ref g24, .ref g25, .ref g26, .ref g27, .ref g28, .ref g29, .int 0, .int 1, .int 0, .ref g30, .ref g31, .int 0, .ref g32, .ref g33, .ref g34, .ref g35, .int 0, .ref g36, .int 0, .ref g37, .ref g38, .ref g39, .ref g40, .ref g41, .ref g42, .ref g43, .ref g44, .ref g45, .ref g46, .int 0, .int 0, .int 4, .ref g47, .ref g48, .ref g49, .ref g50, .ref g51, .ref g52, .ref g53, .ref g54, .ref g55, .ref g56, .ref g57, .ref g58, .ref g59, .int 0, .int 0, .int 0, .int 0, .int 0, .int 0, .int 0, .int 0, .int 0, .int 0, .int 0, .int 0, .int 0, .int 0, .int 0, .int 0, .int 0, .int 0, .int 0, .int 0, .ref g60, .ref g61, .int 0, .ref g62, .ref g63, .ref g64, .ref g65, .int 0, .int 0, .ref g66, .ref g67, .int 0, .ref g68, .int 0, .int 0])), (h1, .inl (cB, 300, .inl fz2))] := hD
  refine lv_aload_n hx hb dX12_typed4_22 rfl (lv_at hl 1 rfl) ?_
  refine lv_aload_n hx hb dX12_typed4_23 rfl (lv_at hl 1 rfl) ?_
  refine pcn (b := 24) rfl ?_
  refine va_get (D := D) (ci := 12) (v := .int 6) (C := RX12) (T := TX12) (N := 118) hx hb hts inX12 hown hK hP 0 rfl rfl 24 (by decide) (hts _ wm_1391) (fun _ h9 => h9) rfl dX12_typed4_24 ?_
  refine lv_iconst (v := 1) hx hb dX12_typed4_27 (by decide +kernel) ?_
  refine lv_iadd hx hb dX12_typed4_28 ?_
  refine nrm (y := 7) (by decide +kernel) ?_
  refine va_put (D := D) (ci := 12) (v := .int 7) (ty := .int) (C := RX12) (T := TX12) (N := 118) hx hb hts inX12 tyX12 tyX12_ok nmX12 hown hK hP hD hS 0 rfl rfl 24 (by decide) (hts _ wm_1391) (fun _ h9 => h9) rfl (by decide +kernel) rfl rfl (Nat.le_of_ble_eq_true rfl) dX12_typed4_29 (fun H locs hP hD hS => ?_)
  have hP : va_P D vwCl [(h0, .inr (12, [.ref g0, .ref g1, .ref g2, .ref g3, .ref g4, .int 4, .ref g5, .ref g6, .ref g7, .ref g8, .ref g9, .int 0, .ref g10, .ref g11, .ref g12, .ref g13, .ref g14, .ref g15, .ref g16, .ref g17, .int 0, .ref g18, .int 0, .ref h1, .int 7, .int 0, .int 0, .int 0, .int 0, .int 0, .int 0, .int 0, .long 0, .ref g19, .ref g20, .ref g21, .ref g22, .ref g23, .ref g24, .ref g25, .ref g26, .ref g27, .ref g28, .ref g29, .int 0, .int 1, .int 0, .ref g30, .ref g31, .int 0, .ref g32, .ref g33, .ref g34, .ref g35, .int 0, .ref g36, .int 0, .ref g37, .ref g38, .ref g39, .ref g40, .ref g41, .ref g42, .ref g43, .ref g44, .ref g45, .ref g46, .int 0, .int 0, .int 4, .ref g47, .ref g48, .ref g49, .ref g50, .ref g51, .ref g52, .ref g53, .ref g54, .ref g55, .ref g56, .ref g57, .ref g58, .ref g59, .int 0, .int 0, .int 0, .int 0, .int 0, .int 0, .int 0, .int 0, .int 0, .int 0, .int 0, .int 0, .int 0, .int 0, .int 0, .int 0, .int 0, .int 0, .int 0, .int 0, .ref g60, .ref g61, .int 0, .ref g62, .ref g63, .ref g64, .ref g65, .int 0, .int 0, .ref g66, .ref g67, .int 0, .ref g68, .int 0, .int 0])), (h1, .inl (cB, 300, .inl fz2))] H := hP
  have hD : va_D A [(h0, .inr (12, [.ref g0, .ref g1, .ref g2, .ref g3, .ref g4, .int 4, .ref g5, .ref g6, .ref g7, .ref g8, .ref g9, .int 0, .ref g10, .ref g11, .ref g12, .ref g13, .ref g14, .ref g15, .ref g16, .ref g17, .int 0, .ref g18, .int 0, .ref h1, .int 7, .int 0, .int 0, .int 0, .int 0, .int 0, .int 0, .int 0, .long 0, .ref g19, .ref g20, .ref g21, .ref g22, .ref g23, .ref g24, .ref g25, .ref g26, .ref g27, .ref g28, .ref g29, .int 0, .int 1, .int 0, .ref g30, .ref g31, .int 0, .ref g32, .ref g33, .ref g34, .ref g35, .int 0, .ref g36, .int 0, .ref g37, .ref g38, .ref g39, .ref g40, .ref g41, .ref g42, .ref g43, .ref g44, .ref g45, .ref g46, .int 0, .int 0, .int 4, .ref g47, .ref g48, .ref g49, .ref g50, .ref g51, .ref g52, .ref g53, .ref g54, .ref g55, .ref g56, .ref g57, .ref g58, .ref g59, .int 0, .int 0, .int 0, .int 0, .int 0, .int 0, .int 0, .int 0, .int 0, .int 0, .int 0, .int 0, .int 0, .int 0, .int 0, .int 0, .int 0, .int 0, .int 0, .int 0, .ref g60, .ref g61, .int 0, .ref g62, .ref g63, .ref g64, .ref g65, .int 0, .int 0, .ref g66, .ref g67, .int 0, .ref g68, .int 0, .int 0])), (h1, .inl (cB, 300, .inl fz2))] := hD
  refine lv_iinc (v := 0) (lv' := [(2, .int 0), (0, .ref h0), (1, .int s0)]) hx hb dX12_typed4_32 hl (k := 0) rfl (by decide +kernel) (by decide) rfl (fun ls hl => ?_)
  refine lv_goto (tgt := 2) hx hb dX12_typed4_35 (by decide) ?_
  refine lv_iload_n hx hb dX12_typed4_2 rfl (lv_at hl 0 rfl) ?_
  refine lv_if_lt (tgt := 38) hx hb dX12_typed4_3 (by decide) (fun h9 => absurd h9 (by decide +kernel)) (fun _ => ?_)
  refine lv_aload_n hx hb dX12_typed4_6 rfl (lv_at hl 1 rfl) ?_
  refine va_get (D := D) (ci := 12) (v := .ref h1) (C := RX12) (T := TX12) (N := 118) hx hb hts inX12 hown hK hP 0 rfl rfl 23 (by decide) (hts _ wm_1390) (fun _ h9 => h9) rfl dX12_typed4_7 ?_
  refine lv_aload_n hx hb dX12_typed4_10 rfl (lv_at hl 1 rfl) ?_
  refine va_get (D := D) (ci := 12) (v := .int 7) (C := RX12) (T := TX12) (N := 118) hx hb hts inX12 hown hK hP 0 rfl rfl 24 (by decide) (hts _ wm_1391) (fun _ h9 => h9) rfl dX12_typed4_11 ?_
  refine lv_iload_n hx hb dX12_typed4_14 rfl (lv_at hl 2 rfl) ?_
  refine pcn (b := 15) rfl ?_
  refine lv_bipush (v := 8) hx hb dX12_typed4_15 (by decide +kernel) ?_
  refine lv_iload_n hx hb dX12_typed4_17 rfl (lv_at hl 0 rfl) ?_
  refine lv_imul hx hb dX12_typed4_18 ?_
  refine nrm (y := 0) (by decide +kernel) ?_
  refine lv_ishr hx hb dX12_typed4_19 ?_
  refine lv_topi (fun y6 _ => ?_)
  refine lv_i2b hx hb dX12_typed4_20 rfl ?_
  refine lv_topi (fun y7 _ => ?_)
  refine as_b_o hx hb hK hP hD hS 1 2 rfl rfl (vpi (by decide +kernel)) dX12_typed4_21 (fun H locs fz3 hP hD hS => ?_)
  have hP : va_P D vwCl [(h0, .inr (12, [.ref g0, .ref g1, .ref g2, .ref g3, .ref g4, .int 4, .ref g5, .ref g6, .ref g7, .ref g8, .ref g9, .int 0, .ref g10, .ref g11, .ref g12, .ref g13, .ref g14, .ref g15, .ref g16, .ref g17, .int 0, .ref g18, .int 0, .ref h1, .int 7, .int 0, .int 0, .int 0, .int 0, .int 0, .int 0, .int 0, .long 0, .ref g19, .ref g20, .ref g21, .ref g22, .ref g23, .ref g24, .ref g25, .ref g26, .ref g27, .ref g28, .ref g29, .int 0, .int 1, .int 0, .ref g30, .ref g31, .int 0, .ref g32, .ref g33, .ref g34, .ref g35, .int 0, .ref g36, .int 0, .ref g37, .ref g38, .ref g39, .ref g40, .ref g41, .ref g42, .ref g43, .ref g44, .ref g45, .ref g46, .int 0, .int 0, .int 4, .ref g47, .ref g48, .ref g49, .ref g50, .ref g51, .ref g52, .ref g53, .ref g54, .ref g55, .ref g56, .ref g57, .ref g58, .ref g59, .int 0, .int 0, .int 0, .int 0, .int 0, .int 0, .int 0, .int 0, .int 0, .int 0, .int 0, .int 0, .int 0, .int 0, .int 0, .int 0, .int 0, .int 0, .int 0, .int 0, .ref g60, .ref g61, .int 0, .ref g62, .ref g63, .ref g64, .ref g65, .int 0, .int 0, .ref g66, .ref g67, .int 0, .ref g68, .int 0, .int 0])), (h1, .inl (cB, 300, .inl fz3))] H := hP
  have hD : va_D A [(h0, .inr (12, [.ref g0, .ref g1, .ref g2, .ref g3, .ref g4, .int 4, .ref g5, .ref g6, .ref g7, .ref g8, .ref g9, .int 0, .ref g10, .ref g11, .ref g12, .ref g13, .ref g14, .ref g15, .ref g16, .ref g17, .int 0, .ref g18, .int 0, .ref h1, .int 7, .int 0, .int 0, .int 0, .int 0, .int 0, .int 0, .int 0, .long 0, .ref g19, .ref g20, .ref g21, .ref g22, .ref g23, .ref g24, .ref g25, .ref g26, .ref g27, .ref g28, .ref g29, .int 0, .int 1, .int 0, .ref g30, .ref g31, .int 0, .ref g32, .ref g33, .ref g34, .ref g35, .int 0, .ref g36, .int 0, .ref g37, .ref g38, .ref g39, .ref g40, .ref g41, .ref g42, .ref g43, .ref g44, .ref g45, .ref g46, .int 0, .int 0, .int 4, .ref g47, .ref g48, .ref g49, .ref g50, .ref g51, .ref g52, .ref g53, .ref g54, .ref g55, .ref g56, .ref g57, .ref g58, .ref g59, .int 0, .int 0, .int 0, .int 0, .int 0, .int 0, .int 0, .int 0, .int 0, .int 0, .int 0, .int 0, .int 0, .int 0, .int 0, .int 0, .int 0, .int 0, .int 0, .int 0, .ref g60, .ref g61, .int 0, .ref g62, .ref g63, .ref g64, .ref g65, .int 0, .int 0, .ref g66, .ref g67, .int 0, .ref g68, .int 0, .int 0])), (h1, .inl (cB, 300, .inl fz3))] := hD
  refine lv_aload_n hx hb dX12_typed4_22 rfl (lv_at hl 1 rfl) ?_
  refine lv_aload_n hx hb dX12_typed4_23 rfl (lv_at hl 1 rfl) ?_
  refine pcn (b := 24) rfl ?_
  refine va_get (D := D) (ci := 12) (v := .int 7) (C := RX12) (T := TX12) (N := 118) hx hb hts inX12 hown hK hP 0 rfl rfl 24 (by decide) (hts _ wm_1391) (fun _ h9 => h9) rfl dX12_typed4_24 ?_
  refine lv_iconst (v := 1) hx hb dX12_typed4_27 (by decide +kernel) ?_
  refine lv_iadd hx hb dX12_typed4_28 ?_
  refine nrm (y := 8) (by decide +kernel) ?_
  refine va_put (D := D) (ci := 12) (v := .int 8) (ty := .int) (C := RX12) (T := TX12) (N := 118) hx hb hts inX12 tyX12 tyX12_ok nmX12 hown hK hP hD hS 0 rfl rfl 24 (by decide) (hts _ wm_1391) (fun _ h9 => h9) rfl (by decide +kernel) rfl rfl (Nat.le_of_ble_eq_true rfl) dX12_typed4_29 (fun H locs hP hD hS => ?_)
  have hP : va_P D vwCl [(h0, .inr (12, [.ref g0, .ref g1, .ref g2, .ref g3, .ref g4, .int 4, .ref g5, .ref g6, .ref g7, .ref g8, .ref g9, .int 0, .ref g10, .ref g11, .ref g12, .ref g13, .ref g14, .ref g15, .ref g16, .ref g17, .int 0, .ref g18, .int 0, .ref h1, .int 8, .int 0, .int 0, .int 0, .int 0, .int 0, .int 0, .int 0, .long 0, .ref g19, .ref g20, .ref g21, .ref g22, .ref g23, .ref g24, .ref g25, .ref g26, .ref g27, .ref g28, .ref g29, .int 0, .int 1, .int 0, .ref g30, .ref g31, .int 0, .ref g32, .ref g33, .ref g34, .ref g35, .int 0, .ref g36, .int 0, .ref g37, .ref g38, .ref g39, .ref g40, .ref g41, .ref g42, .ref g43, .ref g44, .ref g45, .ref g46, .int 0, .int 0, .int 4, .ref g47, .ref g48, .ref g49, .ref g50, .ref g51, .ref g52, .ref g53, .ref g54, .ref g55, .ref g56, .ref g57, .ref g58, .ref g59, .int 0, .int 0, .int 0, .int 0, .int 0, .int 0, .int 0, .int 0, .int 0, .int 0, .int 0, .int 0, .int 0, .int 0, .int 0, .int 0, .int 0, .int 0, .int 0, .int 0, .ref g60, .ref g61, .int 0, .ref g62, .ref g63, .ref g64, .ref g65, .int 0, .int 0, .ref g66, .ref g67, .int 0, .ref g68, .int 0, .int 0])), (h1, .inl (cB, 300, .inl fz3))] H := hP
  have hD : va_D A [(h0, .inr (12, [.ref g0, .ref g1, .ref g2, .ref g3, .ref g4, .int 4, .ref g5, .ref g6, .ref g7, .ref g8, .ref g9, .int 0, .ref g10, .ref g11, .ref g12, .ref g13, .ref g14, .ref g15, .ref g16, .ref g17, .int 0, .ref g18, .int 0, .ref h1, .int 8, .int 0, .int 0, .int 0, .int 0, .int 0, .int 0, .int 0, .long 0, .ref g19, .ref g20, .ref g21, .ref g22, .ref g23, .ref g24, .ref g25, .ref g26, .ref g27, .ref g28, .ref g29, .int 0, .int 1, .int 0, .ref g30, .ref g31, .int 0, .ref g32, .ref g33, .ref g34, .ref g35, .int 0, .ref g36, .int 0, .ref g37, .ref g38, .ref g39, .ref g40, .ref g41, .ref g42, .ref g43, .ref g44, .ref g45, .ref g46, .int 0, .int 0, .int 4, .ref g47, .ref g48, .ref g49, .ref g50, .ref g51, .ref g52, .ref g53, .ref g54, .ref g55, .ref g56, .ref g57, .ref g58, .ref g59, .int 0, .int 0, .int 0, .int 0, .int 0, .int 0, .int 0, .int 0, .int 0, .int 0, .int 0, .int 0, .int 0, .int 0, .int 0, .int 0, .int 0, .int 0, .int 0, .int 0, .ref g60, .ref g61, .int 0, .ref g62, .ref g63, .ref g64, .ref g65, .int 0, .int 0, .ref g66, .ref g67, .int 0, .ref g68, .int 0, .int 0])), (h1, .inl (cB, 300, .inl fz3))] := hD
  refine lv_iinc (v := (-1)) (lv' := [(2, .int (-1)), (0, .ref h0), (1, .int s0)]) hx hb dX12_typed4_32 hl (k := 0) rfl (by decide +kernel) (by decide) rfl (fun ls hl => ?_)
  refine lv_goto (tgt := 2) hx hb dX12_typed4_35 (by decide) ?_
  refine lv_iload_n hx hb dX12_typed4_2 rfl (lv_at hl 0 rfl) ?_
  refine lv_if_lt (tgt := 38) hx hb dX12_typed4_3 (by decide) (fun _ => ?_) (fun h9 => absurd (by decide +kernel) h9)
  refine W.widen (k := 0) (n := 0) (Nat.le_of_ble_eq_true rfl) (Nat.le_of_ble_eq_true rfl) ?_
  exact rtV hx hb hr hlocks hS hP hD ⟨fz3, rfl⟩ dX12_typed4_38

set_option maxHeartbeats 4000000 in
set_option maxRecDepth 100000 in
theorem c_X12_typed4_2 (l : Launch) (D : va_G) (cI cZ cB cJ : ClassId) (h0 h1 g0 g1 g2 g3 g4 g5 g6 g7 g8 g9 g10 g11 g12 g13 g14 g15 g16 g17 g18 g19 g20 g21 g22 g23 g24 g25 g26 g27 g28 g29 g30 g31 g32 g33 g34 g35 g36 g37 g38 g39 g40 g41 g42 g43 g44 g45 g46 g47 g48 g49 g50 g51 g52 g53 g54 g55 g56 g57 g58 g59 g60 g61 g62 g63 g64 g65 g66 g67 g68 : Nat) (f0 : Nat → Int32) (s0 : Int32) : CtV l D (TT cI cZ cB cJ) yX12_typed4 cX12_typed4 3 none 0 0 0 0 [.ref h0, .int s0] [(h0, .inr (12, [.ref g0, .ref g1, .ref g2, .ref g3, .ref g4, .int 4, .ref g5, .ref g6, .ref g7, .ref g8, .ref g9, .int 0, .ref g10, .ref g11, .ref g12, .ref g13, .ref g14, .ref g15, .ref g16, .ref g17, .int 0, .ref g18, .int 0, .ref h1, .int 8, .int 0, .int 0, .int 0, .int 0, .int 0, .int 0, .int 0, .long 0, .ref g19, .ref g20, .ref g21, .ref g22, .ref g23, .ref g24, .ref g25, .ref g26, .ref g27, .ref g28, .ref g29, .int 0, .int 1, .int 0, .ref g30, .ref g31, .int 0, .ref g32, .ref g33, .ref g34, .ref g35, .int 0, .ref g36, .int 0, .ref g37, .ref g38, .ref g39, .ref g40, .ref g41, .ref g42, .ref g43, .ref g44, .ref g45, .ref g46, .int 0, .int 0, .int 4, .ref g47, .ref g48, .ref g49, .ref g50, .ref g51, .ref g52, .ref g53, .ref g54, .ref g55, .ref g56, .ref g57, .ref g58, .ref g59, .int 0, .int 0, .int 0, .int 0, .int 0, .int 0, .int 0, .int 0, .int 0, .int 0, .int 0, .int 0, .int 0, .int 0, .int 0, .int 0, .int 0, .int 0, .int 0, .int 0, .ref g60, .ref g61, .int 0, .ref g62, .ref g63, .ref g64, .ref g65, .int 0, .int 0, .ref g66, .ref g67, .int 0, .ref g68, .int 0, .int 0])), (h1, .inl (cB, 300, .inl f0))] (fun w1 => ∃ (fz3 : Nat → Int32), w1 = [(h0, .inr (12, [.ref g0, .ref g1, .ref g2, .ref g3, .ref g4, .int 4, .ref g5, .ref g6, .ref g7, .ref g8, .ref g9, .int 0, .ref g10, .ref g11, .ref g12, .ref g13, .ref g14, .ref g15, .ref g16, .ref g17, .int 0, .ref g18, .int 0, .ref h1, .int 12, .int 0, .int 0, .int 0, .int 0, .int 0, .int 0, .int 0, .long 0, .ref g19, .ref g20, .ref g21, .ref g22, .ref g23, .ref g24, .ref g25, .ref g26, .ref g27, .ref g28, .ref g29, .int 0, .int 1, .int 0, .ref g30, .ref g31, .int 0, .ref g32, .ref g33, .ref g34, .ref g35, .int 0, .ref g36, .int 0, .ref g37, .ref g38, .ref g39, .ref g40, .ref g41, .ref g42, .ref g43, .ref g44, .ref g45, .ref g46, .int 0, .int 0, .int 4, .ref g47, .ref g48, .ref g49, .ref g50, .ref g51, .ref g52, .ref g53, .ref g54, .ref g55, .ref g56, .ref g57, .ref g58, .ref g59, .int 0, .int 0, .int 0, .int 0, .int 0, .int 0, .int 0, .int 0, .int 0, .int 0, .int 0, .int 0, .int 0, .int 0, .int 0, .int 0, .int 0, .int 0, .int 0, .int 0, .ref g60, .ref g61, .int 0, .ref g62, .ref g63, .ref g64, .ref g65, .int 0, .int 0, .ref g66, .ref g67, .int 0, .ref g68, .int 0, .int 0])), (h1, .inl (cB, 300, .inl fz3))]) := by
  refine CtV.of (by decide +kernel) (Nat.le_of_ble_eq_true rfl) ?_
  intro p e s m below meth c A ls hx hb hr hml hown hts hnw hlocks hin hA hS hP hK hD hl
  have hown : s.vm.findClass RX12 = some m.cls := hown
  have hl : lv_has ls 3 [(0, .ref h0), (1, .int s0)] := hl
  refine lv_iconst (v := 3) hx hb dX12_typed4_0 (by decide +kernel) ?_
  refine lv_istore_n (lv' := [(2, .int 3), (0, .ref h0), (1, .int s0)]) hx hb dX12_typed4_1 rfl hl (by decide) rfl (fun ls hl => ?_)
  refine lv_iload_n hx hb dX12_typed4_2 rfl (lv_at hl 0 rfl) ?_
  refine lv_if_lt (tgt := 38) hx hb dX12_typed4_3 (by decide) (fun h9 => absurd h9 (by decide +kernel)) (fun _ => ?_)
  refine lv_aload_n hx hb dX12_typed4_6 rfl (lv_at hl 1 rfl) ?_
  refine va_get (D := D) (ci := 12) (v := .ref h1) (C := RX12) (T := TX12) (N := 118) hx hb hts inX12 hown hK hP 0 rfl rfl 23 (by decide) (hts _ wm_1390) (fun _ h9 => h9) rfl dX12_typed4_7 ?_
  refine lv_aload_n hx hb dX12_typed4_10 rfl (lv_at hl 1 rfl) ?_
  refine pcn (b := 11) rfl ?_
  refine va_get (D := D) (ci := 12) (v := .int 8) (C := RX12) (T := TX12) (N := 118) hx hb hts inX12 hown hK hP 0 rfl rfl 24 (by decide) (hts _ wm_1391) (fun _ h9 => h9) rfl dX12_typed4_11 ?_
  refine lv_iload_n hx hb dX12_typed4_14 rfl (lv_at hl 2 rfl) ?_
  refine lv_bipush (v := 8) hx hb dX12_typed4_15 (by decide +kernel) ?_
  refine lv_iload_n hx hb dX12_typed4_17 rfl (lv_at hl 0 rfl) ?_
  refine lv_imul hx hb dX12_typed4_18 ?_
  refine nrm (y := 24) (by decide +kernel) ?_
  refine lv_ishr hx hb dX12_typed4_19 ?_
  refine lv_topi (fun y0 _ => ?_)
  refine lv_i2b hx hb dX12_typed4_20 rfl ?_
  refine lv_topi (fun y1 _ => ?_)
  refine as_b_o hx hb hK hP hD hS 1 2 rfl rfl (vpi (by decide +kernel)) dX12_typed4_21 (fun H locs fz0 hP hD hS => ?_)
  have hP : va_P D vwCl [(h0, .inr (12, [.ref g0, .ref g1, .ref g2, .ref g3, .ref g4, .int 4, .ref g5, .ref g6, .ref g7, .ref g8, .ref g9, .int 0, .ref g10, .ref g11, .ref g12, .ref g13, .ref g14, .ref g15, .ref g16, .ref g17, .int 0, .ref g18, .int 0, .ref h1, .int 8, .int 0, .int 0, .int 0, .int 0, .int 0, .int 0, .int 0, .long 0, .ref g19, .ref g20, .ref g21, .ref g22, .ref g23, .ref g24, .ref g25, .ref g26, .ref g27, .ref g28, .ref g29, .int 0, .int 1, .int 0, .ref g30, .ref g31, .int 0, .ref g32, .ref g33, .ref g34, .ref g35, .int 0, .ref g36, .int 0, .ref g37, .ref g38, .ref g39, .ref g40, .ref g41, .ref g42, .ref g43, .ref g44, .ref g45, .ref g46, .int 0, .int 0, .int 4, .ref g47, .ref g48, .ref g49, .ref g50, .ref g51, .ref g52, .ref g53, .ref g54, .ref g55, .ref g56, .ref g57, .ref g58, .ref g59, .int 0, .int 0, .int 0, .int 0, .int 0, .int 0, .int 0, .int 0, .int 0, .int 0, .int 0, .int 0, .int 0, .int 0, .int 0, .int 0, .int 0, .int 0, .int 0, .int 0, .ref g60, .ref g61, .int 0, .ref g62, .ref g63, .ref g64, .ref g65, .int 0, .int 0, .ref g66, .ref g67, .int 0, .ref g68, .int 0, .int 0])), (h1, .inl (cB, 300, .inl fz0))] H := hP
  have hD : va_D A [(h0, .inr (12, [.ref g0, .ref g1, .ref g2, .ref g3, .ref g4, .int 4, .ref g5, .ref g6, .ref g7, .ref g8, .ref g9, .int 0, .ref g10, .ref g11, .ref g12, .ref g13, .ref g14, .ref g15, .ref g16, .ref g17, .int 0, .ref g18, .int 0, .ref h1, .int 8, .int 0, .int 0, .int 0, .int 0, .int 0, .int 0, .int 0, .long 0, .ref g19, .ref g20, .ref g21, .ref g22, .ref g23, .ref g24, .ref g25, .ref g26, .ref g27, .ref g28, .ref g29, .int 0, .int 1, .int 0, .ref g30, .ref g31, .int 0, .ref g32, .ref g33, .ref g34, .ref g35, .int 0, .ref g36, .int 0, .ref g37, .ref g38, .ref g39, .ref g40, .ref g41, .ref g42, .ref g43, .ref g44, .ref g45, .ref g46, .int 0, .int 0, .int 4, .ref g47, .ref g48, .ref g49, .ref g50, .ref g51, .ref g52, .ref g53, .ref g54, .ref g55, .ref g56, .ref g57, .ref g58, .ref g59, .int 0, .int 0, .int 0, .int 0, .int 0, .int 0, .int 0, .int 0, .int 0, .int 0, .int 0, .int 0, .int 0, .int 0, .int 0, .int 0, .int 0, .int 0, .int 0, .int 0, .ref g60, .ref g61, .int 0, .ref g62, .ref g63, .ref g64, .ref g65, .int 0, .int 0, .ref g66, .ref g67, .int 0, .ref g68, .int 0, .int 0])), (h1, .inl (cB, 300, .inl fz0))] := hD
  refine pcn (b := 22) rfl ?_
  refine lv_aload_n hx hb dX12_typed4_22 rfl (lv_at hl 1 rfl) ?_
  refine lv_aload_n hx hb dX12_typed4_23 rfl (lv_at hl 1 rfl) ?_
  refine va_get (D := D) (ci := 12) (v := .int 8) (C := RX12) (T := TX12) (N := 118) hx hb hts inX12 hown hK hP 0 rfl rfl 24 (by decide) (hts _ wm_1391) (fun _ h9 => h9) rfl dX12_typed4_24 ?_
  refine lv_iconst (v := 1) hx hb dX12_typed4_27 (by decide +kernel) ?_
  refine lv_iadd hx hb dX12_typed4_28 ?_
  refine nrm (y := 9) (by decide +kernel) ?_
  refine va_put (D := D) (ci := 12) (v := .int 9) (ty := .int) (C := RX12) (T := TX12) (N := 118) hx hb hts inX12 tyX12 tyX12_ok nmX12 hown hK hP hD hS 0 rfl rfl 24 (by decide) (hts _ wm_1391) (fun _ h9 => h9) rfl (by decide +kernel) rfl rfl (Nat.le_of_ble_eq_true rfl) dX12_typed4_29 (fun H locs hP hD hS => ?_)
  have hP : va_P D vwCl [(h0, .inr (12, [.ref g0, .ref g1, .ref g2, .ref g3, .ref g4, .int 4, .ref g5, .ref g6, .ref g7, .ref g8, .ref g9, .int 0, .ref g10, .ref g11, .ref g12, .ref g13, .ref g14, .ref g15, .ref g16, .ref g17, .int 0, .ref g18, .int 0, .ref h1, .int 9, .int 0, .int 0, .int 0, .int 0, .int 0, .int 0, .int 0, .long 0, .ref g19, .ref g20, .ref g21, .ref g22, .ref g23, .ref g24, .ref g25, .ref g26, .ref g27, .ref g28, .ref g29, .int 0, .int 1, .int 0, .ref g30, .ref g31, .int 0, .ref g32, .ref g33, .ref g34, .ref g35, .int 0, .ref g36, .int 0, .ref g37, .ref g38, .ref g39, .ref g40, .ref g41, .ref g42, .ref g43, .ref g44, .ref g45, .ref g46, .int 0, .int 0, .int 4, .ref g47, .ref g48, .ref g49, .ref g50, .ref g51, .ref g52, .ref g53, .ref g54, .ref g55, .ref g56, .ref g57, .ref g58, .ref g59, .int 0, .int 0, .int 0, .int 0, .int 0, .int 0, .int 0, .int 0, .int 0, .int 0, .int 0, .int 0, .int 0, .int 0, .int 0, .int 0, .int 0, .int 0, .int 0, .int 0, .ref g60, .ref g61, .int 0, .ref g62, .ref g63, .ref g64, .ref g65, .int 0, .int 0, .ref g66, .ref g67, .int 0, .ref g68, .int 0, .int 0])), (h1, .inl (cB, 300, .inl fz0))] H := hP
  have hD : va_D A [(h0, .inr (12, [.ref g0, .ref g1, .ref g2, .ref g3, .ref g4, .int 4, .ref g5, .ref g6, .ref g7, .ref g8, .ref g9, .int 0, .ref g10, .ref g11, .ref g12, .ref g13, .ref g14, .ref g15, .ref g16, .ref g17, .int 0, .ref g18, .int 0, .ref h1, .int 9, .int 0, .int 0, .int 0, .int 0, .int 0, .int 0, .int 0, .long 0, .ref g19, .ref g20, .ref g21, .ref g22, .ref g23, .ref g24, .ref g25, .ref g26, .ref g27, .ref g28, .ref g29, .int 0, .int 1, .int 0, .ref g30, .ref g31, .int 0, .ref g32, .ref g33, .ref g34, .ref g35, .int 0, .ref g36, .int 0, .ref g37, .ref g38, .ref g39, .ref g40, .ref g41, .ref g42, .ref g43, .ref g44, .ref g45, .ref g46, .int 0, .int 0, .int 4, .ref g47, .ref g48, .ref g49, .ref g50, .ref g51, .ref g52, .ref g53, .ref g54, .ref g55, .ref g56, .ref g57, .ref g58, .ref g59, .int 0, .int 0, .int 0, .int 0, .int 0, .int 0, .int 0, .int 0, .int 0, .int 0, .int 0, .int 0, .int 0, .int 0, .int 0, .int 0, .int 0, .int 0, .int 0, .int 0, .ref g60, .ref g61, .int 0, .ref g62, .ref g63, .ref g64, .ref g65, .int 0, .int 0, .ref g66, .ref g67, .int 0, .ref g68, .int 0, .int 0])), (h1, .inl (cB, 300, .inl fz0))] := hD
  refine lv_iinc (v := 2) (lv' := [(2, .int 2), (0, .ref h0), (1, .int s0)]) hx hb dX12_typed4_32 hl (k := 0) rfl (by decide +kernel) (by decide) rfl (fun ls hl => ?_)
  refine lv_goto (tgt := 2) hx hb dX12_typed4_35 (by decide) ?_
  refine lv_iload_n hx hb dX12_typed4_2 rfl (lv_at hl 0 rfl) ?_
  refine lv_if_lt (tgt := 38) hx hb dX12_typed4_3 (by decide) (fun h9 => absurd h9 (by decide +kernel)) (fun _ => ?_)
  refine lv_aload_n hx hb dX12_typed4_6 rfl (lv_at hl 1 rfl) ?_
  refine va_get (D := D) (ci := 12) (v := .ref h1) (C := RX12) (T := TX12) (N := 118) hx hb hts inX12 hown hK hP 0 rfl rfl 23 (by decide) (hts _ wm_1390) (fun _ h9 => h9) rfl dX12_typed4_7 ?_
  refine lv_aload_n hx hb dX12_typed4_10 rfl (lv_at hl 1 rfl) ?_
  refine va_get (D := D) (ci := 12) (v := .int 9) (C := RX12) (T := TX12) (N := 118) hx hb hts inX12 hown hK hP 0 rfl rfl 24 (by decide) (hts _ wm_1391) (fun _ h9 => h9) rfl dX12_typed4_11 ?_
  refine lv_iload_n hx hb dX12_typed4_14 rfl (lv_at hl 2 rfl) ?_
  refine pcn (b := 15) rfl ?_
  refine lv_bipush (v := 8) hx hb dX12_typed4_15 (by decide +kernel) ?_
  refine lv_iload_n hx hb dX12_typed4_17 rfl (lv_at hl 0 rfl) ?_
  refine lv_imul hx hb dX12_typed4_18 ?_
  refine nrm (y := 16) (by decide +kernel) ?_
  refine lv_ishr hx hb dX12_typed4_19 ?_
  refine lv_topi (fun y2 _ => ?_)
  refine lv_i2b hx hb dX12_typed4_20 rfl ?_
  refine lv_topi (fun y3 _ => ?_)
  refine as_b_o hx hb hK hP hD hS 1 2 rfl rfl (vpi (by decide +kernel)) dX12_typed4_21 (fun H locs fz1 hP hD hS => ?_)
  have hP : va_P D vwCl [(h0, .inr (12, [.ref g0, .ref g1, .ref g2, .ref g3, .ref g4, .int 4, .ref g5, .ref g6, .ref g7, .ref g8, .ref g9, .int 0, .ref g10, .ref g11, .ref g12, .ref g13, .ref g14, .ref g15, .ref g16, .ref g17, .int 0, .ref g18, .int 0, .ref h1, .int 9, .int 0, .int 0, .int 0, .int 0, .int 0, .int 0, .int 0, .long 0, .ref g19, .ref g20, .ref g21, .ref g22, .ref g23, .ref g24, .ref g25, .ref g26, .ref g27, .ref g28, .ref g29, .int 0, .int 1, .int 0, .ref g30, .ref g31, .int 0, .ref g32, .ref g33, .ref g34, .ref g35, .int 0, .ref g36, .int 0, .ref g37, .ref g38, .ref g39, .ref g40, .ref g41, .ref g42, .ref g43, .ref g44, .ref g45, .ref g46, .int 0, .int 0, .int 4, .ref g47, .ref g48, .ref g49, .ref g50, .ref g51, .ref g52, .ref g53, .ref g54, .ref g55, .ref g56, .ref g57, .ref g58, .ref g59, .int 0, .int 0, .int 0, .int 0, .int 0, .int 0, .int 0, .int 0, .int 0, .int 0, .int 0, .int 0, .int 0, .int 0, .int 0, .int 0, .int 0, .int 0, .int 0, .int 0, .ref g60, .ref g61, .int 0, .ref g62, .ref g63, .ref g64, .ref g65, .int 0, .int 0, .ref g66, .ref g67, .int 0, .ref g68, .int 0, .int 0])), (h1, .inl (cB, 300, .inl fz1))] H := hP
  have hD : va_D A [(h0, .inr (12, [.ref g0, .ref g1, .ref g2, .ref g3, .ref g4, .int 4, .ref g5, .ref g6, .ref g7, .ref g8, .ref g9, .int 0, .ref g10, .ref g11, .ref g12, .ref g13, .ref g14, .ref g15, .ref g16, .ref g17, .int 0, .ref g18, .int 0, .ref h1, .int 9, .int 0, .int 0, .int 0, .int 0, .int 0, .int 0, .int 0, .long 0, .ref g19, .ref g20, .ref g21, .ref g22, .ref g23, .ref g24, .ref g25, .ref g26, .ref g27, .ref g28, .ref g29, .int 0, .int 1, .int 0, .ref g30, .ref g31, .int 0, .ref g32, .ref g33, .ref g34, .ref g35, .int 0, .ref g36, .int 0, .ref g37, .ref g38, .ref g39, .ref g40, .ref g41, .ref g42, .ref g43, .ref g44, .ref g45, .ref g46, .int 0, .int 0, .int 4, .ref g47, .ref g48, .ref g49, .ref g50, .ref g51, .ref g52, .ref g53, .ref g54, .ref g55, .ref g56, .ref g57, .ref g58, .ref g59, .int 0, .int 0, .int 0, .int 0, .int 0, .int 0, .int 0, .int 0, .int 0, .int 0, .int 0, .int 0, .int 0, .int 0, .int 0, .int 0, .int 0, .int 0, .int 0, .int 0, .ref g60, .ref g61, .int 0, .ref g62, .ref g63, .ref g64, .ref g65, .int 0, .int 0, .ref g66, .ref g67, .int 0, .ref g68, .int 0, .int 0])), (h1, .inl (cB, 300, .inl fz1))] := hD
  refine lv_aload_n hx hb dX12_typed4_22 rfl (lv_at hl 1 rfl) ?_
  refine lv_aload_n hx hb dX12_typed4_23 rfl (lv_at hl 1 rfl) ?_
  refine pcn (b := 24) rfl ?_
  refine va_get (D := D) (ci := 12) (v := .int 9) (C := RX12) (T := TX12) (N := 118) hx hb hts inX12 hown hK hP 0 rfl rfl 24 (by decide) (hts _ wm_1391) (fun _ h9 => h9) rfl dX12_typed4_24 ?_
  refine lv_iconst (v := 1) hx hb dX12_typed4_27 (by decide +kernel) ?_
  refine lv_iadd hx hb dX12_typed4_28 ?_
  refine nrm (y := 10) (by decide +kernel) ?_
  refine va_put (D := D) (ci := 12) (v := .int 10) (ty := .int) (C := RX12) (T := TX12) (N := 118) hx hb hts inX12 tyX12 tyX12_ok nmX12 hown hK hP hD hS 0 rfl rfl 24 (by decide) (hts _ wm_1391) (fun _ h9 => h9) rfl (by decide +kernel) rfl rfl (Nat.le_of_ble_eq_true rfl) dX12_typed4_29 (fun H locs hP hD hS => ?_)
  have hP : va_P D vwCl [(h0, .inr (12, [.ref g0, .ref g1, .ref g2, .ref g3, .ref g4, .int 4, .ref g5, .ref g6, .ref g7, .ref g8, .ref g9, .int 0, .ref g10, .ref g11, .ref g12, .ref g13, .ref g14, .ref g15, .ref g16, .ref g17, .int 0, .ref g18, .int 0, .ref h1, .int 10, .int 0, .int 0, .int 0, .int 0, .int 0, .int 0, .int 0, .long 0, .ref g19, .ref g20, .ref g21, .ref g22, .ref g23, .ref g24, .ref g25, .ref g26, .ref g27, .ref g28, .ref g29, .int 0, .int 1, .int 0, .ref g30, .ref g31, .int 0, .ref g32, .ref g33, .ref g34, .ref g35, .int 0, .ref g36, .int 0, .ref g37, .ref g38, .ref g39, .ref g40, .ref g41, .ref g42, .ref g43, .ref g44, .ref g45, .ref g46, .int 0, .int 0, .int 4, .ref g47, .ref g48, .ref g49, .ref g50, .ref g51, .ref g52, .ref g53, .ref g54, .ref g55, .ref g56, .ref g57, .ref g58, .ref g59, .int 0, .int 0, .int 0, .int 0, .int 0, .int 0, .int 0, .int 0, .int 0, .int 0, .int 0, .int 0, .int 0, .int 0, .int 0, .int 0, .int 0, .int 0, .int 0, .int 0, .ref g60, .ref g61, .int 0, .ref g62, .ref g63, .ref g64, .ref g65, .int 0, .int 0, .ref g66, .ref g67, .int 0, .ref g68, .int 0, .int 0])), (h1, .inl (cB, 300, .inl fz1))] H := hP
  have hD : va_D A [(h0, .inr (12, [.ref g0, .ref g1, .ref g2, .ref g3, .ref g4, .int 4, .ref g5, .ref g6, .ref g7, .ref g8, .ref g9, .int 0, .ref g10, .ref g11, .ref g12, .ref g13, .ref g14, .ref g15, .ref g16, .ref g17, .int 0, .ref g18, .int 0, .ref h1, .int 10, .int 0, .int 0, .int 0, .int 0, .int 0, .int 0, .int 0, .long 0, .ref g19, .ref g20, .ref g21, .ref g22, .ref g23, .ref g24, .ref g25, .ref g26, .ref g27, .ref g28, .ref g29, .int 0, .int 1, .int 0, .ref g30, .ref g31, .int 0, .ref g32, .ref g33, .ref g34, .ref g35, .int 0, .ref g36, .int 0, .ref g37, .ref g38, .ref g39, .ref g40, .ref g41, .ref g42, .ref g43, .ref g44, .ref g45, .ref g46, .int 0, .int 0, .int 4, .ref g47, .ref g48, .ref g49, .ref g50, .ref g51, .ref g52, .ref g53, .ref g54, .ref g55, .ref g56, .ref g57, .ref g58, .ref g59, .int 0, .int 0, .int 0, .int 0, .int 0, .int 0, .int 0, .int 0, .int 0, .int 0, .int 0, .int 0, .int 0, .int 0, .int 0, .int 0, .int 0, .int 0, .int 0, .int 0, .ref g60, .ref g61, .int 0, .ref g62, .ref g63, .ref g64, .ref g65, .int 0, .int 0, .ref g66, .ref g67, .int 0, .ref g68, .int 0, .int 0])), (h1, .inl (cB, 300, .inl fz1))] := hD
  refine lv_iinc (v := 1) (lv' := [(2, .int 1), (0, .ref h0), (1, .int s0)]) hx hb dX12_typed4_32 hl (k := 0) rfl (by decide +kernel) (by decide) rfl (fun ls hl => ?_)
  refine lv_goto (tgt := 2) hx hb dX12_typed4_35 (by decide) ?_
  refine lv_iload_n hx hb dX12_typed4_2 rfl (lv_at hl 0 rfl) ?_
  refine lv_if_lt (tgt := 38) hx hb dX12_typed4_3 (by decide) (fun h9 => absurd h9 (by decide +kernel)) (fun _ => ?_)
  refine lv_aload_n hx hb dX12_typed4_6 rfl (lv_at hl 1 rfl) ?_
  refine va_get (D := D) (ci := 12) (v := .ref h1) (C := RX12) (T := TX12) (N := 118) hx hb hts inX12 hown hK hP 0 rfl rfl 23 (by decide) (hts _ wm_1390) (fun _ h9 => h9) rfl dX12_typed4_7 ?_
  refine lv_aload_n hx hb dX12_typed4_10 rfl (lv_at hl 1 rfl) ?_
  refine va_get (D := D) (ci := 12) (v := .int 10) (C := RX12) (T := TX12) (N := 118) hx hb hts inX12 hown hK hP 0 rfl rfl 24 (by decide) (hts _ wm_1391) (fun _ h9 => h9) rfl dX12_typed4_11 ?_
  refine lv_iload_n hx hb dX12_typed4_14 rfl (lv_at hl 2 rfl) ?_
  refine pcn (b := 15) rfl ?_
  refine lv_bipush (v := 8) hx hb dX12_typed4_15 (by decide +kernel) ?_
  refine lv_iload_n hx hb dX12_typed4_17 rfl (lv_at hl 0 rfl) ?_
  refine lv_imul hx hb dX12_typed4_18 ?_
  refine nrm (y := 8) (by decide +kernel) ?_
  refine lv_ishr hx hb dX12_typed4_19 ?_
  refine lv_topi (fun y4 _ => ?_)
  refine lv_i2b hx hb dX12_typed4_20 rfl ?_
  refine lv_topi (fun y5 _ => ?_)
  refine as_b_o hx hb hK hP hD hS 1 2 rfl rfl (vpi (by decide +kernel)) dX12_typed4_21 (fun H locs fz2 hP hD hS => ?_)
  have hP : va_P D vwCl [(h0, .inr (12, [.ref g0, .ref g1, .ref g2, .ref g3, .ref g4, .int 4, .ref g5, .ref g6, .ref g7, .ref g8, .ref g9, .int 0, .ref g10, .ref g11, .ref g12, .ref g13, .ref g14, .ref g15, .ref g16, .ref g17, .int 0, .ref g18, .int 0, .ref h1, .int 10, .int 0, .int 0, .int 0, .int 0, .int 0, .int 0, .int 0, .long 0, .ref g19, .ref g20, .ref g21, .ref g22, .ref g23, .ref g24, .ref g25, .ref g26, .ref g27, .ref g28, .ref g29, .int 0, .int 1, .int 0, .ref g30, .ref g31, .int 0, .ref g32, .ref g33, .ref g34, .ref g35, .int 0, .ref g36, .int 0, .ref g37, .ref g38, .ref g39, .ref g40, .ref g41, .ref g42, .ref g43, .ref g44, .ref g45, .ref g46, .int 0, .int 0, .int 4, .ref g47, .ref g48, .ref g49, .ref g50, .ref g51, .ref g52, .ref g53, .ref g54, .ref g55, .ref g56, .ref g57, .ref g58, .ref g59, .int 0, .int 0, .int 0, .int 0, .int 0, .int 0, .int 0, .int 0, .int 0, .int 0, .int 0, .int 0, .int 0, .int 0, .int 0, .int 0, .int 0, .int 0, .int 0, .int 0, .ref g60, .ref g61, .int 0, .ref g62, .ref g63, .ref g64, .ref g65, .int 0, .int 0, .ref g66, .ref g67, .int 0, .ref g68, .int 0, .int 0])), (h1, .inl (cB, 300, .inl fz2))] H := hP
  have hD : va_D A [(h0, .inr (12, [.ref g0, .ref g1, .ref g2, .ref g3, .ref g4, .int 4, .ref g5, .ref g6, .ref g7, .ref g8, .ref g9, .int 0, .ref g10, .ref g11, .ref g12, .ref g13, .ref g14, .ref g15, .ref g16, .ref g17, .int 0, .ref g18, .int 0, .ref h1, .int 10, .int 0, .int 0, .int 0, .int 0, .int 0, .int 0, .int 0, .long 0, .ref g19, .ref g20, .ref g21, .ref g22, .ref g23, .ref g24, .ref g25, .ref g26, .ref g27, .ref g28, .ref g29, .int 0, .int 1, .int 0, .ref g30, .ref g31, .int 0, .ref g32, .ref g33, .ref g34, .ref g35, .int 0, .ref g36, .int 0, .ref g37, .ref g38, .ref g39, .ref g40, .ref g41, .ref g42, .ref g43, .ref g44, .ref g45, .ref g46, .int 0, .int 0, .int 4, .ref g47, .ref g48, .ref g49, .ref g50, .ref g51, .ref g52, .ref g53, .ref g54, .ref g55, .ref g56, .ref g57, .ref g58, .ref g59, .int 0, .int 0, .int 0, .int 0, .int 0, .int 0, .int 0, .int 0, .int 0, .int 0, .int 0, .int 0, .int 0, .int 0, .int 0, .int 0, .int 0, .int 0, .int 0, .int 0, .ref g60, .ref g61, .int 0, .ref g62, .ref g63, .ref g64, .ref g65, .int 0, .int 0, .ref g66, .ref g67, .int 0, .ref g68, .int 0, .int 0])), (h1, .inl (cB, 300, .inl fz2))] := hD
  refine lv_aload_n hx hb dX12_typed4_22 rfl (lv_at hl 1 rfl) ?_
  refine lv_aload_n hx hb dX12_typed4_23 rfl (lv_at hl 1 rfl) ?_
  refine pcn (b := 24) rfl ?_
  refine va_get (D := D) (ci := 12) (v := .int 10) (C := RX12) (T := TX12) (N := 118) hx hb hts inX12 hown hK hP 0 rfl rfl 24 (by decide) (hts _ wm_1391) (fun _ h9 => h9) rfl dX12_typed4_24 ?_
  refine lv_iconst (v := 1) hx hb dX12_typed4_27 (by decide +kernel) ?_
  refine lv_iadd hx hb dX12_typed4_28 ?_
  refine nrm (y := 11) (by decide +kernel) ?_
  refine va_put (D := D) (ci := 12) (v := .int 11) (ty := .int) (C := RX12) (T := TX12) (N := 118) hx hb hts inX12 tyX12 tyX12_ok nmX12 hown hK hP hD hS 0 rfl rfl 24 (by decide) (hts _ wm_1391) (fun _ h9 => h9) rfl (by decide +kernel) rfl rfl (Nat.le_of_ble_eq_true rfl) dX12_typed4_29 (fun H locs hP hD hS => ?_)
  have hP : va_P D vwCl [(h0, .inr (12, [.ref g0, .ref g1, .ref g2, .ref g3, .ref g4, .int 4, .ref g5, .ref g6, .ref g7, .ref g8, .ref g9, .int 0, .ref g10, .ref g11, .ref g12, .ref g13, .ref g14, .ref g15, .ref g16, .ref g17, .int 0, .ref g18, .int 0, .ref h1, .int 11, .int 0, .int 0, .int 0, .int 0, .int 0, .int 0, .int 0, .long 0, .ref g19, .ref g20, .ref g21, .ref g22, .ref g23, .ref g24, .ref g25, .ref g26, .ref g27, .ref g28, .ref g29, .int 0, .int 1, .int 0, .ref g30, .ref g31, .int 0, .ref g32, .ref g33, .ref g34, .ref g35, .int 0, .ref g36, .int 0, .ref g37, .ref g38, .ref g39, .ref g40, .ref g41, .ref g42, .ref g43, .ref g44, .ref g45, .ref g46, .int 0, .int 0, .int 4, .ref g47, .ref g48, .ref g49, .ref g50, .ref g51, .ref g52, .ref g53, .ref g54, .ref g55, .ref g56, .ref g57, .ref g58, .ref g59, .int 0, .int 0, .int 0, .int 0, .int 0, .int 0, .int 0, .int 0, .int 0, .int 0, .int 0, .int 0, .int 0, .int 0, .int 0, .int 0, .int 0, .int 0, .int 0, .int 0, .ref g60, .ref g61, .int 0, .ref g62, .ref g63, .ref g64, .ref g65, .int 0, .int 0, .ref g66, .ref g67, .int 0, .ref g68, .int 0, .int 0])), (h1, .inl (cB, 300, .inl fz2))] H := hP
  have hD : va_D A [(h0, .inr (12, [.ref g0, .ref g1, .ref g2, .ref g3, .ref g4, .int 4, .ref g5, .ref g6, .ref g7, .ref g8, .ref g9, .int 0, .ref g10, .ref g11, .ref g12, .ref g13, .ref g14, .ref g15, .ref g16, .ref g17, .int 0, .ref g18, .int 0, .ref h1, .int 11, .int 0, .int 0, .int 0, .int 0, .int 0, .int 0, .int 0, .long 0, .ref g19, .ref g20, .ref g21, .ref g22, .ref g23, .ref g24, .ref g25, .ref g26, .ref g27, .ref g28, .ref g29, .int 0, .int 1, .int 0, .ref g30, .ref g31, .int 0, .ref g32, .ref g33, .ref g34, .ref g35, .int 0, .ref g36, .int 0, .ref g37, .ref g38, .ref g39, .ref g40, .ref g41, .ref g42, .ref g43, .ref g44, .ref g45, .ref g46, .int 0, .int 0, .int 4, .ref g47, .ref g48, .ref g49, .ref g50, .ref g51, .ref g52, .ref g53, .ref g54, .ref g55, .ref g56, .ref g57, .ref g58, .ref g59, .int 0, .int 0, .int 0, .int 0, .int 0, .int 0, .int 0, .int 0, .int 0, .int 0, .int 0, .int 0, .int 0, .int 0, .int 0, .int 0, .int 0, .int 0, .int 0, .int 0, .ref g60, .ref g61, .int 0, .ref g62, .ref g63, .ref g64, .ref g65, .int 0, .int 0, .ref g66, .ref g67, .int 0, .ref g68, .int 0, .int 0])), (h1, .inl (cB, 300, .inl fz2))] := hD
  refine lv_iinc (v := 0) (lv' := [(2, .int 0), (0, .ref h0), (1, .int s0)]) hx hb dX12_typed4_32 hl (k := 0) rfl (by decide +kernel) (by decide) rfl (fun ls hl => ?_)
  refine lv_goto (tgt := 2) hx hb dX12_typed4_35 (by decide) ?_
  refine lv_iload_n hx hb dX12_typed4_2 rfl (lv_at hl 0 rfl) ?_
  refine lv_if_lt (tgt := 38) hx hb dX12_typed4_3 (by decide) (fun h9 => absurd h9 (by decide +kernel)) (fun _ => ?_)
  refine lv_aload_n hx hb dX12_typed4_6 rfl (lv_at hl 1 rfl) ?_
  refine va_get (D := D) (ci := 12) (v := .ref h1) (C := RX12) (T := TX12) (N := 118) hx hb hts inX12 hown hK hP 0 rfl rfl 23 (by decide) (hts _ wm_1390) (fun _ h9 => h9) rfl dX12_typed4_7 ?_
  refine lv_aload_n hx hb dX12_typed4_10 rfl (lv_at hl 1 rfl) ?_
  refine va_get (D := D) (ci := 12) (v := .int 11) (C := RX12) (T := TX12) (N := 118) hx hb hts inX12 hown hK hP 0 rfl rfl 24 (by decide) (hts _ wm_1391) (fun _ h9 => h9) rfl dX12_typed4_11 ?_
  refine lv_iload_n hx hb dX12_typed4_14 rfl (lv_at hl 2 rfl) ?_
  refine pcn (b := 15) rfl ?_
  refine lv_bipush (v := 8) hx hb dX12_typed4_15 (by decide +kernel) ?_
  refine lv_iload_n hx hb dX12_typed4_17 rfl (lv_at hl 0 rfl) ?_
  refine lv_imul hx hb dX12_typed4_18 ?_
  refine nrm (y := 0) (by decide +kernel) ?_
  refine lv_ishr hx hb dX12_typed4_19 ?_
  refine lv_topi (fun y6 _ => ?_)
  refine lv_i2b hx hb dX12_typed4_20 rfl ?_
  refine lv_topi (fun y7 _ => ?_)
  refine as_b_o hx hb hK hP hD hS 1 2 rfl rfl (vpi (by decide +kernel)) dX12_typed4_21 (fun H locs fz3 hP hD hS => ?_)
  have hP : va_P D vwCl [(h0, .inr (12, [.ref g0, .ref g1, .ref g2, .ref g3, .ref g4, .int 4, .ref g5, .ref g6, .ref g7, .ref g8, .ref g9, .int 0, .ref g10, .ref g11, .ref g12, .ref g13, .ref g14, .ref g15, .ref g16, .ref g17, .int 0, .ref g18, .int 0, .ref h1, .int 11, .int 0, .int 0, .int 0, .int 0, .int 0, .int 0, .int 0, .long 0, .ref g19, .ref g20, .ref g21, .ref g22, .ref g23, .ref g24, .ref g25, .ref g26, .ref g27, .ref g28, .ref g29, .int 0, .int 1, .int 0, .ref g30, .ref g31, .int 0, .ref g32, .ref g33, .ref g34, .ref g35, .int 0, .ref g36, .int 0, .ref g37, .ref g38, .ref g39, .ref g40, .ref g41, .ref g42, .ref g43, .ref g44, .ref g45, .ref g46, .int 0, .int 0, .int 4, .ref g47, .ref g48, .ref g49, .ref g50, .ref g51, .ref g52, .ref g53, .ref g54, .ref g55, .ref g56, .ref g57, .ref g58, .ref g59, .int 0, .int 0, .int 0, .int 0, .int 0, .int 0, .int 0, .int 0, .int 0, .int 0, .int 0, .int 0, .int 0, .int 0, .int 0, .int 0, .int 0, .int 0, .int 0, .int 0, .ref g60, .ref g61, .int 0, .ref g62, .ref g63, .ref g64, .ref g65, .int 0, .int 0, .ref g66, .ref g67, .int 0, .ref g68, .int 0, .int 0])), (h1, .inl (cB, 300, .inl fz3))] H := hP
  have hD : va_D A [(h0, .inr (12, [.ref g0, .ref g1, .ref g2, .ref g3, .ref g4, .int 4, .ref g5, .ref g6, .ref g7, .ref g8, .ref g9, .int 0, .ref g10, .ref g11, .ref g12, .ref g13, .ref g14, .ref g15, .ref g16, .ref g17, .int 0, .ref g18, .int 0, .ref h1, .int 11, .int 0, .int 0, .int 0, .int 0, .int 0, .int 0, .int 0, .long 0, .ref g19, .ref g20, .ref g21, .ref g22, .ref g23, .ref g24, .ref g25, .ref g26, .ref g27, .ref g28, .ref g29, .int 0, .int 1, .int 0, .ref g30, .ref g31, .int 0, .ref g32, .ref g33, .ref g34, .ref g35, .int 0, .ref g36, .int 0, .ref g37, .ref g38, .ref g39, .ref g40, .ref g41, .ref g42, .ref g43, .ref g44, .ref g45, .ref g46, .int 0, .int 0, .int 4, .ref g47, .ref g48, .ref g49, .ref g50, .ref g51, .ref g52, .ref g53, .ref g54, .ref g55, .ref g56, .ref g57, .ref g58, .ref g59, .int 0, .int 0, .int 0, .int 0, .int 0, .int 0, .int 0, .int 0, .int 0, .int 0, .int 0, .int 0, .int 0, .int 0, .int 0, .int 0, .int 0, .int 0, .int 0, .int 0, .ref g60, .ref g61, .int 0, .ref g62, .ref g63, .ref g64, .ref g65, .int 0, .int 0, .ref g66, .ref g67, .int 0, .ref g68, .int 0, .int 0])), (h1, .inl (cB, 300, .inl fz3))] := hD
  refine lv_aload_n hx hb dX12_typed4_22 rfl (lv_at hl 1 rfl) ?_
  refine lv_aload_n hx hb dX12_typed4_23 rfl (lv_at hl 1 rfl) ?_
  refine pcn (b := 24) rfl ?_
  refine va_get (D := D) (ci := 12) (v := .int 11) (C := RX12) (T := TX12) (N := 118) hx hb hts inX12 hown hK hP 0 rfl rfl 24 (by decide) (hts _ wm_1391) (fun _ h9 => h9) rfl dX12_typed4_24 ?_
  refine lv_iconst (v := 1) hx hb dX12_typed4_27 (by decide +kernel) ?_
  refine lv_iadd hx hb dX12_typed4_28 ?_
  refine nrm (y := 12) (by decide +kernel) ?_
  refine va_put (D := D) (ci := 12) (v := .int 12) (ty := .int) (C := RX12) (T := TX12) (N := 118) hx hb hts inX12 tyX12 tyX12_ok nmX12 hown hK hP hD hS 0 rfl rfl 24 (by decide) (hts _ wm_1391) (fun _ h9 => h9) rfl (by decide +kernel) rfl rfl (Nat.le_of_ble_eq_true rfl) dX12_typed4_29 (fun H locs hP hD hS => ?_)
  have hP : va_P D vwCl [(h0, .inr (12, [.ref g0, .ref g1, .ref g2, .ref g3, .ref g4, .int 4, .ref g5, .ref g6, .ref g7, .ref g8, .ref g9, .int 0, .ref g10, .ref g11, .ref g12, .ref g13, .ref g14, .ref g15, .ref g16, .ref g17, .int 0, .ref g18, .int 0, .ref h1, .int 12, .int 0, .int 0, .int 0, .int 0, .int 0, .int 0, .int 0, .long 0, .ref g19, .ref g20, .ref g21, .ref g22, .ref g23, .ref g24, .ref g25, .ref g26, .ref g27, .ref g28, .ref g29, .int 0, .int 1, .int 0, .ref g30, .ref g31, .int 0, .ref g32, .ref g33, .ref g34, .ref g35, .int 0, .ref g36, .int 0, .ref g37, .ref g38, .ref g39, .ref g40, .ref g41, .ref g42, .ref g43, .ref g44, .ref g45, .ref g46, .int 0, .int 0, .int 4, .ref g47, .ref g48, .ref g49, .ref g50, .ref g51, .ref g52, .ref g53, .ref g54, .ref g55, .ref g56, .ref g57, .ref g58, .ref g59, .int 0, .int 0, .int 0, .int 0, .int 0, .int 0, .int 0, .int 0, .int 0, .int 0, .int 0, .int 0, .int 0, .int 0, .int 0, .int 0, .int 0, .int 0, .int 0, .int 0, .ref g60, .ref g61, .int 0, .ref g62, .ref g63, .ref g64, .ref g65, .int 0, .int 0, .ref g66, .ref g67, .int 0, .ref g68, .int 0, .int 0])), (h1, .inl (cB, 300, .inl fz3))] H := hP
  have hD : va_D A [(h0, .inr (12, [.ref g0, .ref g1, .ref g2, .ref g3, .ref g4, .int 4, .ref g5, .ref g6, .ref g7, .ref g8, .ref g9, .int 0, .ref g10, .ref g11, .ref g12, .ref g13, .ref g14, .ref g15, .ref g16, .ref g17, .int 0, .ref g18, .int 0, .ref h1, .int 12, .int 0, .int 0, .int 0, .int 0, .int 0, .int 0, .int 0, .long 0, .ref g19, .ref g20, .ref g21, .ref g22, .ref g23, .ref g24, .ref g25, .ref g26, .ref g27, .ref g28, .ref g29, .int 0, .int 1, .int 0, .ref g30, .ref g31, .int 0, .ref g32, .ref g33, .ref g34, .ref g35, .int 0, .ref g36, .int 0, .ref g37, .ref g38, .ref g39, .ref g40, .ref g41, .ref g42, .ref g43, .ref g44, .ref g45, .ref g46, .int 0, .int 0, .int 4, .ref g47, .ref g48, .ref g49, .ref g50, .ref g51, .ref g52, .ref g53, .ref g54, .ref g55, .ref g56, .ref g57, .ref g58, .ref g59, .int 0, .int 0, .int 0, .int 0, .int 0, .int 0, .int 0, .int 0, .int 0, .int 0, .int 0, .int 0, .int 0, .int 0, .int 0, .int 0, .int 0, .int 0, .int 0, .int 0, .ref g60, .ref g61, .int 0, .ref g62, .ref g63, .ref g64, .ref g65, .int 0, .int 0, .ref g66, .ref g67, .int 0, .ref g68, .int 0, .int 0])), (h1, .inl (cB, 300, .inl fz3))] := hD
  refine lv_iinc (v := (-1)) (lv' := [(2, .int (-1)), (0, .ref h0), (1, .int s0)]) hx hb dX12_typed4_32 hl (k := 0) rfl (by decide +kernel) (by decide) rfl (fun ls hl => ?_)
  refine lv_goto (tgt := 2) hx hb dX12_typed4_35 (by decide) ?_
  refine lv_iload_n hx hb dX12_typed4_2 rfl (lv_at hl 0 rfl) ?_
  refine lv_if_lt (tgt := 38) hx hb dX12_typed4_3 (by decide) (fun _ => ?_) (fun h9 => absurd (by decide +kernel) h9)
  refine W.widen (k := 0) (n := 0) (Nat.le_of_ble_eq_true rfl) (Nat.le_of_ble_eq_true rfl) ?_
  exact rtV hx hb hr hlocks hS hP hD ⟨fz3, rfl⟩ dX12_typed4_38

set_option maxHeartbeats 4000000 in
set_option maxRecDepth 100000 in
theorem c_X12_typed4_3 (l : Launch) (D : va_G) (cI cZ cB cJ : ClassId) (h0 h1 g0 g1 g2 g3 g4 g5 g6 g7 g8 g9 g10 g11 g12 g13 g14 g15 g16 g17 g18 g19 g20 g21 g22 g23 g24 g25 g26 g27 g28 g29 g30 g31 g32 g33 g34 g35 g36 g37 g38 g39 g40 g41 g42 g43 g44 g45 g46 g47 g48 g49 g50 g51 g52 g53 g54 g55 g56 g57 g58 g59 g60 g61 g62 g63 g64 g65 g66 g67 g68 : Nat) (f0 : Nat → Int32) (s0 : Int32) : CtV l D (TT cI cZ cB cJ) yX12_typed4 cX12_typed4 3 none 0 0 0 0 [.ref h0, .int s0] [(h0, .inr (12, [.ref g0, .ref g1, .ref g2, .ref g3, .ref g4, .int 4, .ref g5, .ref g6, .ref g7, .ref g8, .ref g9, .int 0, .ref g10, .ref g11, .ref g12, .ref g13, .ref g14, .ref g15, .ref g16, .ref g17, .int 0, .ref g18, .int 0, .ref h1, .int 12, .int 0, .int 0, .int 0, .int 0, .int 0, .int 0, .int 0, .long 0, .ref g19, .ref g20, .ref g21, .ref g22, .ref g23, .ref g24, .ref g25, .ref g26, .ref g27, .ref g28, .ref g29, .int 0, .int 1, .int 0, .ref g30, .ref g31, .int 0, .ref g32, .ref g33, .ref g34, .ref g35, .int 0, .ref g36, .int 0, .ref g37, .ref g38, .ref g39, .ref g40, .ref g41, .ref g42, .ref g43, .ref g44, .ref g45, .ref g46, .int 0, .int 0, .int 4, .ref g47, .ref g48, .ref g49, .ref g50, .ref g51, .ref g52, .ref g53, .ref g54, .ref g55, .ref g56, .ref g57, .ref g58, .ref g59, .int 0, .int 0, .int 0, .int 0, .int 0, .int 0, .int 0, .int 0, .int 0, .int 0, .int 0, .int 0, .int 0, .int 0, .int 0, .int 0, .int 0, .int 0, .int 0, .int 0, .ref g60, .ref g61, .int 0, .ref g62, .ref g63, .ref g64, .ref g65, .int 0, .int 0, .ref g66, .ref g67, .int 0, .ref g68, .int 0, .int 0])), (h1, .inl (cB, 300, .inl f0))] (fun w1 => ∃ (fz3 : Nat → Int32), w1 = [(h0, .inr (12, [.ref g0, .ref g1, .ref g2, .ref g3, .ref g4, .int 4, .ref g5, .ref g6, .ref g7, .ref g8, .ref g9, .int 0, .ref g10, .ref g11, .ref g12, .ref g13, .ref g14, .ref g15, .ref g16, .ref g17, .int 0, .ref g18, .int 0, .ref h1, .int 16, .int 0, .int 0, .int 0, .int 0, .int 0, .int 0, .int 0, .long 0, .ref g19, .ref g20, .ref g21, .ref g22, .ref g23, .ref g24, .ref g25, .ref g26, .ref g27, .ref g28, .ref g29, .int 0, .int 1, .int 0, .ref g30, .ref g31, .int 0, .ref g32, .ref g33, .ref g34, .ref g35, .int 0, .ref g36, .int 0, .ref g37, .ref g38, .ref g39, .ref g40, .ref g41, .ref g42, .ref g43, .ref g44, .ref g45, .ref g46, .int 0, .int 0, .int 4, .ref g47, .ref g48, .ref g49, .ref g50, .ref g51, .ref g52, .ref g53, .ref g54, .ref g55, .ref g56, .ref g57, .ref g58, .ref g59, .int 0, .int 0, .int 0, .int 0, .int 0, .int 0, .int 0, .int 0, .int 0, .int 0, .int 0, .int 0, .int 0, .int 0, .int 0, .int 0, .int 0, .int 0, .int 0, .int 0, .ref g60, .ref g61, .int 0, .ref g62, .ref g63, .ref g64, .ref g65, .int 0, .int 0, .ref g66, .ref g67, .int 0, .ref g68, .int 0, .int 0])), (h1, .inl (cB, 300, .inl fz3))]) := by
  refine CtV.of (by decide +kernel) (Nat.le_of_ble_eq_true rfl) ?_
  intro p e s m below meth c A ls hx hb hr hml hown hts hnw hlocks hin hA hS hP hK hD hl
  have hown : s.vm.findClass RX12 = some m.cls := hown
  have hl : lv_has ls 3 [(0, .ref h0), (1, .int s0)] := hl
  refine lv_iconst (v := 3) hx hb dX12_typed4_0 (by decide +kernel) ?_
  refine lv_istore_n (lv' := [(2, .int 3), (0, .ref h0), (1, .int s0)]) hx hb dX12_typed4_1 rfl hl (by decide) rfl (fun ls hl => ?_)
  refine lv_iload_n hx hb dX12_typed4_2 rfl (lv_at hl 0 rfl) ?_
  refine lv_if_lt (tgt := 38) hx hb dX12_typed4_3 (by decide) (fun h9 => absurd h9 (by decide +kernel)) (fun _ => ?_)
  refine lv_aload_n hx hb dX12_typed4_6 rfl (lv_at hl 1 rfl) ?_
  refine va_get (D := D) (ci := 12) (v := .ref h1) (C := RX12) (T := TX12) (N := 118) hx hb hts inX12 hown hK hP 0 rfl rfl 23 (by decide) (hts _ wm_1390) (fun _ h9 => h9) rfl dX12_typed4_7 ?_
  refine lv_aload_n hx hb dX12_typed4_10 rfl (lv_at hl 1 rfl) ?_
  refine pcn (b := 11) rfl ?_
  refine va_get (D := D) (ci := 12) (v := .int 12) (C := RX12) (T := TX12) (N := 118) hx hb hts inX12 hown hK hP 0 rfl rfl 24 (by decide) (hts _ wm_1391) (fun _ h9 => h9) rfl dX12_typed4_11 ?_
  refine lv_iload_n hx hb dX12_typed4_14 rfl (lv_at hl 2 rfl) ?_
  refine lv_bipush (v := 8) hx hb dX12_typed4_15 (by decide +kernel) ?_
  refine lv_iload_n hx hb dX12_typed4_17 rfl (lv_at hl 0 rfl) ?_
  refine lv_imul hx hb dX12_typed4_18 ?_
  refine nrm (y := 24) (by decide +kernel) ?_
  refine lv_ishr hx hb dX12_typed4_19 ?_
  refine lv_topi (fun y0 _ => ?_)
  refine lv_i2b hx hb dX12_typed4_20 rfl ?_
  refine lv_topi (fun y1 _ => ?_)
  refine as_b_o hx hb hK hP hD hS 1 2 rfl rfl (vpi (by decide +kernel)) dX12_typed4_21 (fun H locs fz0 hP hD hS => ?_)
  have hP : va_P D vwCl [(h0, .inr (12, [.ref g0, .ref g1, .ref g2, .ref g3, .ref g4, .int 4, .ref g5, .ref g6, .ref g7, .ref g8, .ref g9, .int 0, .ref g10, .ref g11, .ref g12, .ref g13, .ref g14, .ref g15, .ref g16, .ref g17, .int 0, .ref g18, .int 0, .ref h1, .int 12, .int 0, .int 0, .int 0, .int 0, .int 0, .int 0, .int 0, .long 0, .ref g19, .ref g20, .ref g21, .ref g22, .ref g23, .ref g24, .ref g25, .ref g26, .ref g27, .ref g28, .ref g29, .int 0, .int 1, .int 0, .ref g30, .ref g31, .int 0, .ref g32, .ref g33, .ref g34, .ref g35, .int 0, .ref g36, .int 0, .ref g37, .ref g38, .ref g39, .ref g40, .ref g41, .ref g42, .ref g43, .ref g44, .ref g45, .ref g46, .int 0, .int 0, .int 4, .ref g47, .ref g48, .ref g49, .ref g50, .ref g51, .ref g52, .ref g53, .ref g54, .ref g55, .ref g56, .ref g57, .ref g58, .ref g59, .int 0, .int 0, .int 0, .int 0, .int 0, .int 0, .int 0, .int 0, .int 0, .int 0, .int 0, .int 0, .int 0, .int 0, .int 0, .int 0, .int 0, .int 0, .int 0, .int 0, .ref g60, .ref g61, .int 0, .ref g62, .ref g63, .ref g64, .ref g65, .int 0, .int 0, .ref g66, .ref g67, .int 0, .ref g68, .int 0, .int 0])), (h1, .inl (cB, 300, .inl fz0))] H := hP
  have hD : va_D A [(h0, .inr (12, [.ref g0, .ref g1, .ref g2, .ref g3, .ref g4, .int 4, .ref g5, .ref g6, .ref g7, .ref g8, .ref g9, .int 0, .ref g10, .ref g11, .ref g12, .ref g13, .ref g14, .ref g15, .ref g16, .ref g17, .int 0, .ref g18, .int 0, .ref h1, .int 12, .int 0, .int 0, .int 0, .int 0, .int 0, .int 0, .int 0, .long 0, .ref g19, .ref g20, .ref g21, .ref g22, .ref g23, .ref g24, .ref g25, .ref g26, .ref g27, .ref g28, .ref g29, .int 0, .int 1, .int 0, .ref g30, .ref g31, .int 0, .ref g32, .ref g33, .ref g34, .ref g35, .int 0, .ref g36, .int 0, .ref g37, .ref g38, .ref g39, .ref g40, .ref g41, .ref g42, .ref g43, .ref g44, .ref g45, .ref g46, .int 0, .int 0, .int 4, .ref g47, .ref g48, .ref g49, .ref g50, .ref g51, .ref g52, .ref g53, .ref g54, .ref g55, .ref g56, .ref g57, .ref g58, .ref g59, .int 0, .int 0, .int 0, .int 0, .int 0, .int 0, .int 0, .int 0, .int 0, .int 0, .int 0, .int 0, .int 0, .int 0, .int 0, .int 0, .int 0, .int 0, .int 0, .int 0, .ref g60, .ref g61, .int 0, .ref g62, .ref g63, .ref g64, .ref g65, .int 0, .int 0, .ref g66, .ref g67, .int 0, .ref g68, .int 0, .int 0])), (h1, .inl (cB, 300, .inl fz0))] := hD
  refine pcn (b := 22) rfl ?_
  refine lv_aload_n hx hb dX12_typed4_22 rfl (lv_at hl 1 rfl) ?_
  refine lv_aload_n hx hb dX12_typed4_23 rfl (lv_at hl 1 rfl) ?_
  refine va_get (D := D) (ci := 12) (v := .int 12) (C := RX12) (T := TX12) (N := 118) hx hb hts inX12 hown hK hP 0 rfl rfl 24 (by decide) (hts _ wm_1391) (fun _ h9 => h9) rfl dX12_typed4_24 ?_
  refine lv_iconst (v := 1) hx hb dX12_typed4_27 (by decide +kernel) ?_
  refine lv_iadd hx hb dX12_typed4_28 ?_
  refine nrm (y := 13) (by decide +kernel) ?_
  refine va_put (D := D) (ci := 12) (v := .int 13) (ty := .int) (C := RX12) (T := TX12) (N := 118) hx hb hts inX12 tyX12 tyX12_ok nmX12 hown hK hP hD hS 0 rfl rfl 24 (by decide) (hts _ wm_1391) (fun _ h9 => h9) rfl (by decide +kernel) rfl rfl (Nat.le_of_ble_eq_true rfl) dX12_typed4_29 (fun H locs hP hD hS => ?_)
  have hP : va_P D vwCl [(h0, .inr (12, [.ref g0, .ref g1, .ref g2, .ref g3, .ref g4, .int 4, .ref g5, .ref g6, .ref g7, .ref g8, .ref g9, .int 0, .ref g10, .ref g11, .ref g12, .ref g13, .ref g14, .ref g15, .ref g16, .ref g17, .int 0, .ref g18, .int 0, .ref h1, .int 13, .int 0, .int 0, .int 0, .int 0, .int 0, .int 0, .int 0, .long 0, .ref g19, .ref g20, .ref g21, .ref g22, .ref g23, .ref g24, .ref g25, .ref g26, .ref g27, .ref g28, .ref g29, .int 0, .int 1, .int 0, .ref g30, .ref g31, .int 0, .ref g32, .ref g33, .ref g34, .ref g35, .int 0, .ref g36, .int 0, .ref g37, .ref g38, .ref g39, .ref g40, .ref g41, .ref g42, .ref g43, .ref g44, .ref g45, .ref g46, .int 0, .int 0, .int 4, .ref g47, .ref g48, .ref g49, .ref g50, .ref g51, .ref g52, .ref g53, .ref g54, .ref g55, .ref g56, .ref g57, .ref g58, .ref g59, .int 0, .int 0, .int 0, .int 0, .int 0, .int 0, .int 0, .int 0, .int 0, .int 0, .int 0, .int 0, .int 0, .int 0, .int 0, .int 0, .int 0, .int 0, .int 0, .int 0, .ref g60, .ref g61, .int 0, .ref g62, .ref g63, .ref g64, .ref g65, .int 0, .int 0, .ref g66, .ref g67, .int 0, .ref g68, .int 0, .int 0])), (h1, .inl (cB, 300, .inl fz0))] H := hP
  have hD : va_D A [(h0, .inr (12, [.ref g0, .ref g1, .ref g2, .ref g3, .ref g4, .int 4, .ref g5, .ref g6, .ref g7, .ref g8, .ref g9, .int 0, .ref g10, .ref g11, .ref g12, .ref g13, .ref g14, .ref g15, .ref g16, .ref g17, .int 0, .ref g18, .int 0, .ref h1, .int 13, .int 0, .int 0, .int 0, .int 0, .int 0, .int 0, .int 0, .long 0, .ref g19, .ref g20, .ref g21, .ref g22, .ref g23, .ref g24, .ref g25, .ref g26, .ref g27, .ref g28, .ref g29, .int 0, .int 1, .int 0, .ref g30, .ref g31, .int 0, .ref g32, .ref g33, .ref g34, .ref g35, .int 0, .ref g36, .int 0, .ref g37, .ref g38, .ref g39, .ref g40, .ref g41, .ref g42, .ref g43, .ref g44, .ref g45, .ref g46, .int 0, .int 0, .int 4, .ref g47, .ref g48, .ref g49, .ref g50, .ref g51, .ref g52, .ref g53, .ref g54, .ref g55, .ref g56, .ref g57, .ref g58, .ref g59, .int 0, .int 0, .int 0, .int 0, .int 0, .int 0, .int 0, .int 0, .int 0, .int 0, .int 0, .int 0, .int 0, .int 0, .int 0, .int 0, .int 0, .int 0, .int 0, .int 0, .ref g60, .ref g61, .int 0, .ref g62, .ref g63, .ref g64, .ref g65, .int 0, .int 0, .ref g66, .ref g67, .int 0, .ref g68, .int 0, .int 0])), (h1, .inl (cB, 300, .inl fz0))] := hD
  refine lv_iinc (v := 2) (lv' := [(2, .int 2), (0, .ref h0), (1, .int s0)]) hx hb dX12_typed4_32 hl (k := 0) rfl (by decide +kernel) (by decide) rfl (fun ls hl => ?_)
  refine lv_goto (tgt := 2) hx hb dX12_typed4_35 (by decide) ?_
  refine lv_iload_n hx hb dX12_typed4_2 rfl (lv_at hl 0 rfl) ?_
  refine lv_if_lt (tgt := 38) hx hb dX12_typed4_3 (by decide) (fun h9 => absurd h9 (by decide +kernel)) (fun _ => ?_)
  refine lv_aload_n hx hb dX12_typed4_6 rfl (lv_at hl 1 rfl) ?_
  refine va_get (D := D) (ci := 12) (v := .ref h1) (C := RX12) (T := TX12) (N := 118) hx hb hts inX12 hown hK hP 0 rfl rfl 23 (by decide) (hts _ wm_1390) (fun _ h9 => h9) rfl dX12_typed4_7 ?_
  refine lv_aload_n hx hb dX12_typed4_10 rfl (lv_at hl 1 rfl) ?_
  refine va_get (D := D) (ci := 12) (v := .int 13) (C := RX12) (T := TX12) (N := 118) hx hb hts inX12 hown hK hP 0 rfl rfl 24 (by decide) (hts _ wm_1391) (fun _ h9 => h9) rfl dX12_typed4_11 ?_
  refine lv_iload_n hx hb dX12_typed4_14 rfl (lv_at hl 2 rfl) ?_
  refine pcn (b := 15) rfl ?_
  refine lv_bipush (v := 8) hx hb dX12_typed4_15 (by decide +kernel) ?_
  refine lv_iload_n hx hb dX12_typed4_17 rfl (lv_at hl 0 rfl) ?_
  refine lv_imul hx hb dX12_typed4_18 ?_
  refine nrm (y := 16) (by decide +kernel) ?_
  refine lv_ishr hx hb dX12_typed4_19 ?_
  refine lv_topi (fun y2 _ => ?_)
  refine lv_i2b hx hb dX12_typed4_20 rfl ?_
  refine lv_topi (fun y3 _ => ?_)
  refine as_b_o hx hb hK hP hD hS 1 2 rfl rfl (vpi (by decide +kernel)) dX12_typed4_21 (fun H locs fz1 hP hD hS => ?_)
  have hP : va_P D vwCl [(h0, .inr (12, [.ref g0, .ref g1, .ref g2, .ref g3, .ref g4, .int 4, .ref g5, .ref g6, .ref g7, .ref g8, .ref g9, .int 0, .ref g10, .ref g11, .ref g12, .ref g13, .ref g14, .ref g15, .ref g16, .ref g17, .int 0, .ref g18, .int 0, .ref h1, .int 13, .int 0, .int 0, .int 0, .int 0, .int 0, .int 0, .int 0, .long 0, .ref g19, .ref g20, .ref g21, .ref g22, .ref g23, .ref g24, .ref g25, .ref g26, .ref g27, .ref g28, .ref g29, .int 0, .int 1, .int 0, .ref g30, .ref g31, .int 0, .ref g32, .ref g33, .ref g34, .ref g35, .int 0, .ref g36, .int 0, .ref g37, .ref g38, .ref g39, .ref g40, .ref g41, .ref g42, .ref g43, .ref g44, .ref g45, .ref g46, .int 0, .int 0, .int 4, .ref g47, .ref g48, .ref g49, .ref g50, .ref g51, .ref g52, .ref g53, .ref g54, .ref g55, .ref g56, .ref g57, .ref g58, .ref g59, .int 0, .int 0, .int 0, .int 0, .int 0, .int 0, .int 0, .int 0, .int 0, .int 0, .int 0, .int 0, .int 0, .int 0, .int 0, .int 0, .int 0, .int 0, .int 0, .int 0, .ref g60, .ref g61, .int 0, .ref g62, .ref g63, .ref g64, .ref g65, .int 0, .int 0, .ref g66, .ref g67, .int 0, .ref g68, .int 0, .int 0])), (h1, .inl (cB, 300, .inl fz1))] H := hP
  have hD : va_D A [(h0, .inr (12, [.ref g0, .ref g1, .ref g2, .ref g3, .ref g4, .int 4, .ref g5, .ref g6, .ref g7, .ref g8, .ref g9, .int 0, .ref g10, .ref g11, .ref g12, .ref g13, .ref g14, .ref g15, .ref g16, .ref g17, .int 0, .ref g18, .int 0, .ref h1, .int 13, .int 0, .int 0, .int 0, .int 0, .int 0, .int 0, .int 0, .long 0, .ref g19, .ref g20, .ref g21, .ref g22, .ref g23, .ref g24, .ref g25, .ref g26, .ref g27, .ref g28, .ref g29, .int 0, .int 1, .int 0, .ref g30, .ref g31, .int 0, .ref g32, .ref g33, .ref g34, .ref g35, .int 0, .ref g36, .int 0, .ref g37, .ref g38, .ref g39, .ref g40, .ref g41, .ref g42, .ref g43, .ref g44, .ref g45, .ref g46, .int 0, .int 0, .int 4, .ref g47, .ref g48, .ref g49, .ref g50, .ref g51, .ref g52, .ref g53, .ref g54, .ref g55, .ref g56, .ref g57, .ref g58, .ref g59, .int 0, .int 0, .int 0, .int 0, .int 0, .int 0, .int 0, .int 0, .int 0, .int 0, .int 0, .int 0, .int 0, .int 0, .int 0, .int 0, .int 0, .int 0, .int 0, .int 0, .ref g60, .ref g61, .int 0, .ref g62, .ref g63, .ref g64, .ref g65, .int 0, .int 0, .ref g66, .ref g67, .int 0, .ref g68, .int 0, .int 0])), (h1, .inl (cB, 300, .inl fz1))] := hD
  refine lv_aload_n hx hb dX12_typed4_22 rfl (lv_at hl 1 rfl) ?_
  refine lv_aload_n hx hb dX12_typed4_23 rfl (lv_at hl 1 rfl) ?_
  refine pcn (b := 24) rfl ?_
  refine va_get (D := D) (ci := 12) (v := .int 13) (C := RX12) (T := TX12) (N := 118) hx hb hts inX12 hown hK hP 0 rfl rfl 24 (by decide) (hts _ wm_1391) (fun _ h9 => h9) rfl dX12_typed4_24 ?_
  refine lv_iconst (v := 1) hx hb dX12_typed4_27 (by decide +kernel) ?_
  refine lv_iadd hx hb dX12_typed4_28 ?_
  refine nrm (y := 14) (by decide +kernel) ?_
  refine va_put (D := D) (ci := 12) (v := .int 14) (ty := .int) (C := RX12) (T := TX12) (N := 118) hx hb hts inX12 tyX12 tyX12_ok nmX12 hown hK hP hD hS 0 rfl rfl 24 (by decide) (hts _ wm_1391) (fun _ h9 => h9) rfl (by decide +kernel) rfl rfl (Nat.le_of_ble_eq_true rfl) dX12_typed4_29 (fun H locs hP hD hS => ?_)
  have hP : va_P D vwCl [(h0, .inr (12, [.ref g0, .ref g1, .ref g2, .ref g3, .ref g4, .int 4, .ref g5, .ref g6, .ref g7, .ref g8, .ref g9, .int 0, .ref g10, .ref g11, .ref g12, .ref g13, .ref g14, .ref g15, .ref g16, .ref g17, .int 0, .ref g18, .int 0, .ref h1, .int 14, .int 0, .int 0, .int 0, .int 0, .int 0, .int 0, .int 0, .long 0, .ref g19, .ref g20, .ref g21, .ref g22, .ref g23, .ref g24, .ref g25, .ref g26, .ref g27, .ref g28, .ref g29, .int 0, .int 1, .int 0, .ref g30, .ref g31, .int 0, .ref g32, .ref g33, .ref g34, .ref g35, .int 0, .ref g36, .int 0, .ref g37, .ref g38, .ref g39, .ref g40, .ref g41, .ref g42, .ref g43, .ref g44, .ref g45, .ref g46, .int 0, .int 0, .int 4, .ref g47, .ref g48, .ref g49, .ref g50, .ref g51, .ref g52, .ref g53, .ref g54, .ref g55, .ref g56, .ref g57, .ref g58, .ref g59, .int 0, .int 0, .int 0, .int 0, .int 0, .int 0, .int 0, .int 0, .int 0, .int 0, .int 0, .int 0, .int 0, .int 0, .int 0, .int 0, .int 0, .int 0, .int 0, .int 0, .ref g60, .ref g61, .int 0, .ref g62, .ref g63, .ref g64, .ref g65, .int 0, .int 0, .ref g66, .ref g67, .int 0, .ref g68, .int 0, .int 0])), (h1, .inl (cB, 300, .inl fz1))] H := hP
  have hD : va_D A [(h0, .inr (12, [.ref g0, .ref g1, .ref g2, .ref g3, .ref g4, .int 4, .ref g5, .ref g6, .ref g7, .ref g8, .ref g9, .int 0, .ref g10, .ref g11, .ref g12, .ref g13, .ref g14, .ref g15, .ref g16, .ref g17, .int 0, .ref g18, .int 0, .ref h1, .int 14, .int 0, .int 0, .int 0, .int 0, .int 0, .int 0, .int 0, .long 0, .ref g19, .ref g20, .ref g21, .ref g22, .ref g23, .ref g24, .ref g25, .ref g26, .ref g27, .ref g28, .ref g29, .int 0, .int 1, .int 0, .ref g30, .ref g31, .int 0, .ref g32, .ref g33, .ref g34, .ref g35, .int 0, .ref g36, .int 0, .ref g37, .ref g38, .ref g39, .ref g40, .ref g41, .ref g42, .ref g43, .ref g44, .ref g45, .ref g46, .int 0, .int 0, .int 4, .ref g47, .ref g48, .ref g49, .ref g50, .ref g51, .ref g52, .ref g53, .ref g54, .ref g55, .ref g56, .ref g57, .ref g58, .ref g59, .int 0, .int 0, .int 0, .int 0, .int 0, .int 0, .int 0, .int 0, .int 0, .int 0, .int 0, .int 0, .int 0, .int 0, .int 0, .int 0, .int 0, .int 0, .int 0, .int 0, .ref g60, .ref g61, .int 0, .ref g62, .ref g63, .ref g64, .ref g65, .int 0, .int 0, .ref g66, .ref g67, .int 0, .ref g68, .int 0, .int 0])), (h1, .inl (cB, 300, .inl fz1))] := hD
  refine lv_iinc (v := 1) (lv' := [(2, .int 1), (0, .ref h0), (1, .int s0)]) hx hb dX12_typed4_32 hl (k := 0) rfl (by decide +kernel) (by decide) rfl (fun ls hl => ?_)
  refine lv_goto (tgt := 2) hx hb dX12_typed4_35 (by decide) ?_
  refine lv_iload_n hx hb dX12_typed4_2 rfl (lv_at hl 0 rfl) ?_
  refine lv_if_lt (tgt := 38) hx hb dX12_typed4_3 (by decide) (fun h9 => absurd h9 (by decide +kernel)) (fun _ => ?_)
  refine lv_aload_n hx hb dX12_typed4_6 rfl (lv_at hl 1 rfl) ?_
  refine va_get (D := D) (ci := 12) (v := .ref h1) (C := RX12) (T := TX12) (N := 118) hx hb hts inX12 hown hK hP 0 rfl rfl 23 (by decide) (hts _ wm_1390) (fun _ h9 => h9) rfl dX12_typed4_7 ?_
  refine lv_aload_n hx hb dX12_typed4_10 rfl (lv_at hl 1 rfl) ?_
  refine va_get (D := D) (ci := 12) (v := .int 14) (C := RX12) (T := TX12) (N := 118) hx hb hts inX12 hown hK hP 0 rfl rfl 24 (by decide) (hts _ wm_1391) (fun _ h9 => h9) rfl dX12_typed4_11 ?_
  refine lv_iload_n hx hb dX12_typed4_14 rfl (lv_at hl 2 rfl) ?_
  refine pcn (b := 15) rfl ?_
  refine lv_bipush (v := 8) hx hb dX12_typed4_15 (by decide +kernel) ?_
  refine lv_iload_n hx hb dX12_typed4_17 rfl (lv_at hl 0 rfl) ?_
  refine lv_imul hx hb dX12_typed4_18 ?_
  refine nrm (y := 8) (by decide +kernel) ?_
  refine lv_ishr hx hb dX12_typed4_19 ?_
  refine lv_topi (fun y4 _ => ?_)
  refine lv_i2b hx hb dX12_typed4_20 rfl ?_
  refine lv_topi (fun y5 _ => ?_)
  refine as_b_o hx hb hK hP hD hS 1 2 rfl rfl (vpi (by decide +kernel)) dX12_typed4_21 (fun H locs fz2 hP hD hS => ?_)
  have hP : va_P D vwCl [(h0, .inr (12, [.ref g0, .ref g1, .ref g2, .ref g3, .ref g4, .int 4, .ref g5, .ref g6, .ref g7, .ref g8, .ref g9, .int 0, .ref g10, .ref g11, .ref g12, .ref g13, .ref g14, .ref g15, .ref g16, .ref g17, .int 0, .ref g18, .int 0, .ref h1, .int 14, .int 0, .int 0, .int 0, .int 0, .int 0, .int 0, .int 0, .long 0, .ref g19, .ref g20, .ref g21, .ref g22, .ref g23, .ref g24, .ref g25, .ref g26, .ref g27, .ref g28, .ref g29, .int 0, .int 1, .int 0, .ref g30, .ref g31, .int 0, .ref g32, .ref g33, .ref g34, .ref g35, .int 0, .ref g36, .int 0, .ref g37, .ref g38, .ref g39, .ref g40, .ref g41, .ref g42, .ref g43, .ref g44, .ref g45, .ref g46, .int 0, .int 0, .int 4, .ref g47, .ref g48, .ref g49, .ref g50, .ref g51, .ref g52, .ref g53, .ref g54, .ref g55, .ref g56, .ref g57, .ref g58, .ref g59, .int 0, .int 0, .int 0, .int 0, .int 0, .int 0, .int 0, .int 0, .int 0, .int 0, .int 0, .int 0, .int 0, .int 0, .int 0, .int 0, .int 0, .int 0, .int 0, .int 0, .ref g60, .ref g61, .int 0, .ref g62, .ref g63, .ref g64, .ref g65, .int 0, .int 0, .ref g66, .ref g67, .int 0, .ref g68, .int 0, .int 0])), (h1, .inl (cB, 300, .inl fz2))] H := hP
  have hD : va_D A [(h0, .inr (12, [.ref g0, .ref g1, .ref g2, .ref g3, .ref g4, .int 4, .ref g5, .ref g6, .ref g7, .ref g8, .ref g9, .int 0, .ref g10, .ref g11, .ref g12, .ref g13, .ref g14, .ref g15, .ref g16, .ref g17, .int 0, .ref g18, .int 0, .ref h1, .int 14, .int 0, .int 0, .int 0, .int 0, .int 0, .int 0, .int 0, .long 0, .ref g19, .ref g20, .ref g21, .ref g22, .ref g23, .ref g24, .ref g25, .ref g26, .ref g27, .ref g28, .ref g29, .int 0, .int 1, .int 0, .ref g30, .ref g31, .int 0, .ref g32, .ref g33, .ref g34, .ref g35, .int 0, .ref g36, .int 0, .ref g37, .ref g38, .ref g39, .ref g40, .ref g41, .ref g42, .ref g43, .ref g44, .ref g45, .ref g46, .int 0, .int 0, .int 4, .ref g47, .ref g48, .ref g49, .ref g50, .ref g51, .ref g52, .ref g53, .ref g54, .ref g55, .ref g56, .ref g57, .ref g58, .ref g59, .int 0, .int 0, .int 0, .int 0, .int 0, .int 0, .int 0, .int 0, .int 0, .int 0, .int 0, .int 0, .int 0, .int 0, .int 0, .int 0, .int 0, .int 0, .int 0, .int 0, .ref g60, .ref g61, .int 0, .ref g62, .ref g63, .ref g64, .ref g65, .int 0, .int 0, .ref g66, .ref g67, .int 0, .ref g68, .int 0, .int 0])), (h1, .inl (cB, 300, .inl fz2))] := hD
  refine lv_aload_n hx hb dX12_typed4_22 rfl (lv_at hl 1 rfl) ?_
  refine lv_aload_n hx hb dX12_typed4_23 rfl (lv_at hl 1 rfl) ?_
  refine pcn (b := 24) rfl ?_
  refine va_get (D := D) (ci := 12) (v := .int 14) (C := RX12) (T := TX12) (N := 118) hx hb hts inX12 hown hK hP 0 rfl rfl 24 (by decide) (hts _ wm_1391) (fun _ h9 => h9) rfl dX12_typed4_24 ?_
  refine lv_iconst (v := 1) hx hb dX12_typed4_27 (by decide +kernel) ?_
  refine lv_iadd hx hb dX12_typed4_28 ?_
  refine nrm (y := 15) (by decide +kernel) ?_
  refine va_put (D := D) (ci := 12) (v := .int 15) (ty := .int) (C := RX12) (T := TX12) (N := 118) hx hb hts inX12 tyX12 tyX12_ok nmX12 hown hK hP hD hS 0 rfl rfl 24 (by decide) (hts _ wm_1391) (fun _ h9 => h9) rfl (by decide +kernel) rfl rfl (Nat.le_of_ble_eq_true rfl) dX12_typed4_29 (fun H locs hP hD hS => ?_)
  have hP : va_P D vwCl [(h0, .inr (12, [.ref g0, .ref g1, .ref g2, .ref g3, .ref g4, .int 4, .ref g5, .ref g6, .ref g7, .ref g8, .ref g9, .int 0, .ref g10, .ref g11, .ref g12, .ref g13, .ref g14, .ref g15, .ref g16, .ref g17, .int 0, .ref g18, .int 0, .ref h1, .int 15, .int 0, .int 0, .int 0, .int 0, .int 0, .int 0, .int 0, .long 0, .ref g19, .ref g20, .ref g21, .ref g22, .ref g23, .ref g24, .ref g25, .ref g26, .ref g27, .ref g28, .ref g29, .int 0, .int 1, .int 0, .ref g30, .ref g31, .int 0, .ref g32, .ref g33, .ref g34, .ref g35, .int 0, .ref g36, .int 0, .ref g37, .ref g38, .ref g39, .ref g40, .ref g41, .ref g42, .ref g43, .ref g44, .ref g45, .ref g46, .int 0, .int 0, .int 4, .ref g47, .ref g48, .ref g49, .ref g50, .ref g51, .ref g52, .ref g53, .ref g54, .ref g55, .ref g56, .ref g57, .ref g58, .ref g59, .int 0, .int 0, .int 0, .int 0, .int 0, .int 0, .int 0, .int 0, .int 0, .int 0, .int 0, .int 0, .int 0, .int 0, .int 0, .int 0, .int 0, .int 0, .int 0, .int 0, .ref g60, .ref g61, .int 0, .ref g62, .ref g63, .ref g64, .ref g65, .int 0, .int 0, .ref g66, .ref g67, .int 0, .ref g68, .int 0, .int 0])), (h1, .inl (cB, 300, .inl fz2))] H := hP
  have hD : va_D A [(h0, .inr (12, [.ref g0, .ref g1, .ref g2, .ref g3, .ref g4, .int 4, .ref g5, .ref g6, .ref g7, .ref g8, .ref g9, .int 0, .ref g10, .ref g11, .ref g12, .ref g13, .ref g14, .ref g15, .ref g16, .ref g17, .int 0, .ref g18, .int 0, .ref h1, .int 15, .int 0, .int 0, .int 0, .int 0, .int 0, .int 0, .int 0, .long 0, .ref g19, .ref g20, .ref g21, .ref g22, .ref g23, .ref g24, .ref g25, .ref g26, .ref g27, .ref g28, .ref g29, .int 0, .int 1, .int 0, .ref g30, .ref g31, .int 0, .ref g32, .ref g33, .ref g34, .ref g35, .int 0, .ref g36, .int 0, .ref g37, .ref g38, .ref g39, .ref g40, .ref g41, .ref g42, .ref g43, .ref g44, .ref g45, .ref g46, .int 0, .int 0, .int 4, .ref g47, .ref g48, .ref g49, .ref g50, .ref g51, .ref g52, .ref g53, .ref g54, .ref g55, .ref g56, .ref g57, .ref g58, .ref g59, .int 0, .int 0, .int 0, .int 0, .int 0, .int 0, .int 0, .int 0, .int 0, .int 0, .int 0, .int 0, .int 0, .int 0, .int 0, .int 0, .int 0, .int 0, .int 0, .int 0, .ref g60, .ref g61, .int 0, .ref g62, .ref g63, .ref g64, .ref g65, .int 0, .int 0, .ref g66, .ref g67, .int 0, .ref g68, .int 0, .int 0])), (h1, .inl (cB, 300, .inl fz2))] := hD
  refine lv_iinc (v := 0) (lv' := [(2, .int 0), (0, .ref h0), (1, .int s0)]) hx hb dX12_typed4_32 hl (k := 0) rfl (by decide +kernel) (by decide) rfl (fun ls hl => ?_)
  refine lv_goto (tgt := 2) hx hb dX12_typed4_35 (by decide) ?_
  refine lv_iload_n hx hb dX12_typed4_2 rfl (lv_at hl 0 rfl) ?_
  refine lv_if_lt (tgt := 38) hx hb dX12_typed4_3 (by decide) (fun h9 => absurd h9 (by decide +kernel)) (fun _ => ?_)
  refine lv_aload_n hx hb dX12_typed4_6 rfl (lv_at hl 1 rfl) ?_
  refine va_get (D := D) (ci := 12) (v := .ref h1) (C := RX12) (T := TX12) (N := 118) hx hb hts inX12 hown hK hP 0 rfl rfl 23 (by decide) (hts _ wm_1390) (fun _ h9 => h9) rfl dX12_typed4_7 ?_
  refine lv_aload_n hx hb dX12_typed4_10 rfl (lv_at hl 1 rfl) ?_
  refine va_get (D := D) (ci := 12) (v := .int 15) (C := RX12) (T := TX12) (N := 118) hx hb hts inX12 hown hK hP 0 rfl rfl 24 (by decide) (hts _ wm_1391) (fun _ h9 => h9) rfl dX12_typed4_11 ?_
  refine lv_iload_n hx hb dX12_typed4_14 rfl (lv_at hl 2 rfl) ?_
  refine pcn (b := 15) rfl ?_
  refine lv_bipush (v := 8) hx hb dX12_typed4_15 (by decide +kernel) ?_
  refine lv_iload_n hx hb dX12_typed4_17 rfl (lv_at hl 0 rfl) ?_
  refine lv_imul hx hb dX12_typed4_18 ?_
  refine nrm (y := 0) (by decide +kernel) ?_
  refine lv_ishr hx hb dX12_typed4_19 ?_
  refine lv_topi (fun y6 _ => ?_)
  refine lv_i2b hx hb dX12_typed4_20 rfl ?_
  refine lv_topi (fun y7 _ => ?_)
  refine as_b_o hx hb hK hP hD hS 1 2 rfl rfl (vpi (by decide +kernel)) dX12_typed4_21 (fun H locs fz3 hP hD hS => ?_)
  have hP : va_P D vwCl [(h0, .inr (12, [.ref g0, .ref g1, .ref g2, .ref g3, .ref g4, .int 4, .ref g5, .ref g6, .ref g7, .ref g8, .ref g9, .int 0, .ref g10, .ref g11, .ref g12, .ref g13, .ref g14, .ref g15, .ref g16, .ref g17, .int 0, .ref g18, .int 0, .ref h1, .int 15, .int 0, .int 0, .int 0, .int 0, .int 0, .int 0, .int 0, .long 0, .ref g19, .ref g20, .ref g21, .ref g22, .ref g23, .ref g24, .ref g25, .ref g26, .ref g27, .ref g28, .ref g29, .int 0, .int 1, .int 0, .ref g30, .ref g31, .int 0, .ref g32, .ref g33, .ref g34, .ref g35, .int 0, .ref g36, .int 0, .ref g37, .ref g38, .ref g39, .ref g40, .ref g41, .ref g42, .ref g43, .ref g44, .ref g45, .ref g46, .int 0, .int 0, .int 4, .ref g47, .ref g48, .ref g49, .ref g50, .ref g51, .ref g52, .ref g53, .ref g54, .ref g55, .ref g56, .ref g57, .ref g58, .ref g59, .int 0, .int 0, .int 0, .int 0, .int 0, .int 0, .int 0, .int 0, .int 0, .int 0, .int 0, .int 0, .int 0, .int 0, .int 0, .int 0, .int 0, .int 0, .int 0, .int 0, .ref g60, .ref g61, .int 0, .ref g62, .ref g63, .ref g64, .ref g65, .int 0, .int 0, .ref g66, .ref g67, .int 0, .ref g68, .int 0, .int 0])), (h1, .inl (cB, 300, .inl fz3))] H := hP
  have hD : va_D A [(h0, .inr (12, [.ref g0, .ref g1, .ref g2, .ref g3, .ref g4, .int 4, .ref g5, .ref g6, .ref g7, .ref g8, .ref g9, .int 0, .ref g10, .ref g11, .ref g12, .ref g13, .ref g14, .ref g15, .ref g16, .ref g17, .int 0, .ref g18, .int 0, .ref h1, .int 15, .int 0, .int 0, .int 0, .int 0, .int 0, .int 0, .int 0, .long 0, .ref g19, .ref g20, .ref g21, .ref g22, .ref g23, .ref g24, .ref g25, .ref g26, .ref g27, .ref g28, .ref g29, .int 0, .int 1, .int 0, .ref g30, .ref g31, .int 0, .ref g32, .ref g33, .ref g34, .ref g35, .int 0, .ref g36, .int 0, .ref g37, .ref g38, .ref g39, .ref g40, .ref g41, .ref g42, .ref g43, .ref g44, .ref g45, .ref g46, .int 0, .int 0, .int 4, .ref g47, .ref g48, .ref g49, .ref g50, .ref g51, .ref g52, .ref g53, .ref g54, .ref g55, .ref g56, .ref g57, .ref g58, .ref g59, .int 0, .int 0, .int 0, .int 0, .int 0, .int 0, .int 0, .int 0, .int 0, .int 0, .int 0, .int 0, .int 0, .int 0, .int 0, .int 0, .int 0, .int 0, .int 0, .int 0, .ref g60, .ref g61, .int 0, .ref g62, .ref g63, .ref g64, .ref g65, .int 0, .int 0, .ref g66, .ref g67, .int 0, .ref g68, .int 0, .int 0])), (h1, .inl (cB, 300, .inl fz3))] := hD
  refine lv_aload_n hx hb dX12_typed4_22 rfl (lv_at hl 1 rfl) ?_
  refine lv_aload_n hx hb dX12_typed4_23 rfl (lv_at hl 1 rfl) ?_
  refine pcn (b := 24) rfl ?_
  refine va_get (D := D) (ci := 12) (v := .int 15) (C := RX12) (T := TX12) (N := 118) hx hb hts inX12 hown hK hP 0 rfl rfl 24 (by decide) (hts _ wm_1391) (fun _ h9 => h9) rfl dX12_typed4_24 ?_
  refine lv_iconst (v := 1) hx hb dX12_typed4_27 (by decide +kernel) ?_
  refine lv_iadd hx hb dX12_typed4_28 ?_
  refine nrm (y := 16) (by decide +kernel) ?_
  refine va_put (D := D) (ci := 12) (v := .int 16) (ty := .int) (C := RX12) (T := TX12) (N := 118) hx hb hts inX12 tyX12 tyX12_ok nmX12 hown hK hP hD hS 0 rfl rfl 24 (by decide) (hts _ wm_1391) (fun _ h9 => h9) rfl (by decide +kernel) rfl rfl (Nat.le_of_ble_eq_true rfl) dX12_typed4_29 (fun H locs hP hD hS => ?_)
  have hP : va_P D vwCl [(h0, .inr (12, [.ref g0, .ref g1, .ref g2, .ref g3, .ref g4, .int 4, .ref g5, .ref g6, .ref g7, .ref g8, .ref g9, .int 0, .ref g10, .ref g11, .ref g12, .ref g13, .ref g14, .ref g15, .ref g16, .ref g17, .int 0, .ref g18, .int 0, .ref h1, .int 16, .int 0, .int 0, .int 0, .int 0, .int 0, .int 0, .int 0, .long 0, .ref g19, .ref g20, .ref g21, .ref g22, .ref g23, .ref g24, .ref g25, .ref g26, .ref g27, .ref g28, .ref g29, .int 0, .int 1, .int 0, .ref g30, .ref g31, .int 0, .ref g32, .ref g33, .ref g34, .ref g35, .int 0, .ref g36, .int 0, .ref g37, .ref g38, .ref g39, .ref g40, .ref g41, .ref g42, .ref g43, .ref g44, .ref g45, .ref g46, .int 0, .int 0, .int 4, .ref g47, .ref g48, .ref g49, .ref g50, .ref g51, .ref g52, .ref g53, .ref g54, .ref g55, .ref g56, .ref g57, .ref g58, .ref g59, .int 0, .int 0, .int 0, .int 0, .int 0, .int 0, .int 0, .int 0, .int 0, .int 0, .int 0, .int 0, .int 0, .int 0, .int 0, .int 0, .int 0, .int 0, .int 0, .int 0, .ref g60, .ref g61, .int 0, .ref g62, .ref g63, .ref g64, .ref g65, .int 0, .int 0, .ref g66, .ref g67, .int 0, .ref g68, .int 0, .int 0])), (h1, .inl (cB, 300, .inl fz3))] H := hP
  have hD : va_D A [(h0, .inr (12, [.ref g0, .ref g1, .ref g2, .ref g3, .ref g4, .int 4, .ref g5, .ref g6, .ref g7, .ref g8, .ref g9, .int 0, .ref g10, .ref g11, .ref g12, .ref g13, .ref g14, .ref g15, .ref g16, .ref g17, .int 0, .ref g18, .int 0, .ref h1, .int 16, .int 0, .int 0, .int 0, .int 0, .int 0, .int 0, .int 0, .long 0, .ref g19, .ref g20, .ref g21, .ref g22, .ref g23, .ref g24, .ref g25, .ref g26, .ref g27, .ref g28, .ref g29, .int 0, .int 1, .int 0, .ref g30, .ref g31, .int 0, .ref g32, .ref g33, .ref g34, .ref g35, .int 0, .ref g36, .int 0, .ref g37, .ref g38, .ref g39, .ref g40, .ref g41, .ref g42, .ref g43, .ref g44, .ref g45, .ref g46, .int 0, .int 0, .int 4, .ref g47, .ref g48, .ref g49, .ref g50, .ref g51, .ref g52, .ref g53, .ref g54, .ref g55, .ref g56, .ref g57, .ref g58, .ref g59, .int 0, .int 0, .int 0, .int 0, .int 0, .int 0, .int 0, .int 0, .int 0, .int 0, .int 0, .int 0, .int 0, .int 0, .int 0, .int 0, .int 0, .int 0, .int 0, .int 0, .ref g60, .ref g61, .int 0, .ref g62, .ref g63, .ref g64, .ref g65, .int 0, .int 0, .ref g66, .ref g67, .int 0, .ref g68, .int 0, .int 0])), (h1, .inl (cB, 300, .inl fz3))] := hD
  refine lv_iinc (v := (-1)) (lv' := [(2, .int (-1)), (0, .ref h0), (1, .int s0)]) hx hb dX12_typed4_32 hl (k := 0) rfl (by decide +kernel) (by decide) rfl (fun ls hl => ?_)
  refine lv_goto (tgt := 2) hx hb dX12_typed4_35 (by decide) ?_
  refine lv_iload_n hx hb dX12_typed4_2 rfl (lv_at hl 0 rfl) ?_
  refine lv_if_lt (tgt := 38) hx hb dX12_typed4_3 (by decide) (fun _ => ?_) (fun h9 => absurd (by decide +kernel) h9)
  refine W.widen (k := 0) (n := 0) (Nat.le_of_ble_eq_true rfl) (Nat.le_of_ble_eq_true rfl) ?_
  exact rtV hx hb hr hlocks hS hP hD ⟨fz3, rfl⟩ dX12_typed4_38

set_option maxHeartbeats 4000000 in
set_option maxRecDepth 100000 in
theorem c_X12_typed4_4 (l : Launch) (D : va_G) (cI cZ cB cJ : ClassId) (h0 h1 g0 g1 g2 g3 g4 g5 g6 g7 g8 g9 g10 g11 g12 g13 g14 g15 g16 g17 g18 g19 g20 g21 g22 g23 g24 g25 g26 g27 g28 g29 g30 g31 g32 g33 g34 g35 g36 g37 g38 g39 g40 g41 g42 g43 g44 g45 g46 g47 g48 g49 g50 g51 g52 g53 g54 g55 g56 g57 g58 g59 g60 g61 g62 g63 g64 g65 g66 g67 g68 : Nat) (f0 : Nat → Int32) (s0 : Int32) : CtV l D (TT cI cZ cB cJ) yX12_typed4 cX12_typed4 3 none 0 0 0 0 [.ref h0, .int s0] [(h0, .inr (12, [.ref g0, .ref g1, .ref g2, .ref g3, .ref g4, .int 4, .ref g5, .ref g6, .ref g7, .ref g8, .ref g9, .int 0, .ref g10, .ref g11, .ref g12, .ref g13, .ref g14, .ref g15, .ref g16, .ref g17, .int 0, .ref g18, .int 0, .ref h1, .int 16, .int 0, .int 0, .int 0, .int 0, .int 0, .int 0, .int 0, .long 0, .ref g19, .ref g20, .ref g21, .ref g22, .ref g23, .ref g24, .ref g25, .ref g26, .ref g27, .ref g28, .ref g29, .int 0, .int 1, .int 0, .ref g30, .ref g31, .int 0, .ref g32, .ref g33, .ref g34, .ref g35, .int 0, .ref g36, .int 0, .ref g37, .ref g38, .ref g39, .ref g40, .ref g41, .ref g42, .ref g43, .ref g44, .ref g45, .ref g46, .int 0, .int 0, .int 4, .ref g47, .ref g48, .ref g49, .ref g50, .ref g51, .ref g52, .ref g53, .ref g54, .ref g55, .ref g56, .ref g57, .ref g58, .ref g59, .int 0, .int 0, .int 0, .int 0, .int 0, .int 0, .int 0, .int 0, .int 0, .int 0, .int 0, .int 0, .int 0, .int 0, .int 0, .int 0, .int 0, .int 0, .int 0, .int 0, .ref g60, .ref g61, .int 0, .ref g62, .ref g63, .ref g64, .ref g65, .int 0, .int 0, .ref g66, .ref g67, .int 0, .ref g68, .int 0, .int 0])), (h1, .inl (cB, 300, .inl f0))] (fun w1 => ∃ (fz3 : Nat → Int32), w1 = [(h0, .inr (12, [.ref g0, .ref g1, .ref g2, .ref g3, .ref g4, .int 4, .ref g5, .ref g6, .ref g7, .ref g8, .ref g9, .int 0, .ref g10, .ref g11, .ref g12, .ref g13, .ref g14, .ref g15, .ref g16, .ref g17, .int 0, .ref g18, .int 0, .ref h1, .int 20, .int 0, .int 0, .int 0, .int 0, .int 0, .int 0, .int 0, .long 0, .ref g19, .ref g20, .ref g21, .ref g22, .ref g23, .ref g24, .ref g25, .ref g26, .ref g27, .ref g28, .ref g29, .int 0, .int 1, .int 0, .ref g30, .ref g31, .int 0, .ref g32, .ref g33, .ref g34, .ref g35, .int 0, .ref g36, .int 0, .ref g37, .ref g38, .ref g39, .ref g40, .ref g41, .ref g42, .ref g43, .ref g44, .ref g45, .ref g46, .int 0, .int 0, .int 4, .ref g47, .ref g48, .ref g49, .ref g50, .ref g51, .ref g52, .ref g53, .ref g54, .ref g55, .ref g56, .ref g57, .ref g58, .ref g59, .int 0, .int 0, .int 0, .int 0, .int 0, .int 0, .int 0, .int 0, .int 0, .int 0, .int 0, .int 0, .int 0, .int 0, .int 0, .int 0, .int 0, .int 0, .int 0, .int 0, .ref g60, .ref g61, .int 0, .ref g62, .ref g63, .ref g64, .ref g65, .int 0, .int 0, .ref g66, .ref g67, .int 0, .ref g68, .int 0, .int 0])), (h1, .inl (cB, 300, .inl fz3))]) := by
  refine CtV.of (by decide +kernel) (Nat.le_of_ble_eq_true rfl) ?_
  intro p e s m below meth c A ls hx hb hr hml hown hts hnw hlocks hin hA hS hP hK hD hl
  have hown : s.vm.findClass RX12 = some m.cls := hown
  have hl : lv_has ls 3 [(0, .ref h0), (1, .int s0)] := hl
  refine lv_iconst (v := 3) hx hb dX12_typed4_0 (by decide +kernel) ?_
  refine lv_istore_n (lv' := [(2, .int 3), (0, .ref h0), (1, .int s0)]) hx hb dX12_typed4_1 rfl hl (by decide) rfl (fun ls hl => ?_)
  refine lv_iload_n hx hb dX12_typed4_2 rfl (lv_at hl 0 rfl) ?_
  refine lv_if_lt (tgt := 38) hx hb dX12_typed4_3 (by decide) (fun h9 => absurd h9 (by decide +kernel)) (fun _ => ?_)
  refine lv_aload_n hx hb dX12_typed4_6 rfl (lv_at hl 1 rfl) ?_
  refine va_get (D := D) (ci := 12) (v := .ref h1) (C := RX12) (T := TX12) (N := 118) hx hb hts inX12 hown hK hP 0 rfl rfl 23 (by decide) (hts _ wm_1390) (fun _ h9 => h9) rfl dX12_typed4_7 ?_
  refine lv_aload_n hx hb dX12_typed4_10 rfl (lv_at hl 1 rfl) ?_
  refine pcn (b := 11) rfl ?_
  refine va_get (D := D) (ci := 12) (v := .int 16) (C := RX12) (T := TX12) (N := 118) hx hb hts inX12 hown hK hP 0 rfl rfl 24 (by decide) (hts _ wm_1391) (fun _ h9 => h9) rfl dX12_typed4_11 ?_
  refine lv_iload_n hx hb dX12_typed4_14 rfl (lv_at hl 2 rfl) ?_
  refine lv_bipush (v := 8) hx hb dX12_typed4_15 (by decide +kernel) ?_
  refine lv_iload_n hx hb dX12_typed4_17 rfl (lv_at hl 0 rfl) ?_
  refine lv_imul hx hb dX12_typed4_18 ?_
  refine nrm (y := 24) (by decide +kernel) ?_
  refine lv_ishr hx hb dX12_typed4_19 ?_
  refine lv_topi (fun y0 _ => ?_)
  refine lv_i2b hx hb dX12_typed4_20 rfl ?_
  refine lv_topi (fun y1 _ => ?_)
  refine as_b_o hx hb hK hP hD hS 1 2 rfl rfl (vpi (by decide +kernel)) dX12_typed4_21 (fun H locs fz0 hP hD hS => ?_)
  have hP : va_P D vwCl [(h0, .inr (12, [.ref g0, .ref g1, .ref g2, .ref g3, .ref g4, .int 4, .ref g5, .ref g6, .ref g7, .ref g8, .ref g9, .int 0, .ref g10, .ref g11, .ref g12, .ref g13, .ref g14, .ref g15, .ref g16, .ref g17, .int 0, .ref g18, .int 0, .ref h1, .int 16, .int 0, .int 0, .int 0, .int 0, .int 0, .int 0, .int 0, .long 0, .ref g19, .ref g20, .ref g21, .ref g22, .ref g23, .ref g24, .ref g25, .ref g26, .ref g27, .ref g28, .ref g29, .int 0, .int 1, .int 0, .ref g30, .ref g31, .int 0, .ref g32, .ref g33, .ref g34, .ref g35, .int 0, .ref g36, .int 0, .ref g37, .ref g38, .ref g39, .ref g40, .ref g41, .ref g42, .ref g43, .ref g44, .ref g45, .ref g46, .int 0, .int 0, .int 4, .ref g47, .ref g48, .ref g49, .ref g50, .ref g51, .ref g52, .ref g53, .ref g54, .ref g55, .ref g56, .ref g57, .ref g58, .ref g59, .int 0, .int 0, .int 0, .int 0, .int 0, .int 0, .int 0, .int 0, .int 0, .int 0, .int 0, .int 0, .int 0, .int 0, .int 0, .int 0, .int 0, .int 0, .int 0, .int 0, .ref g60, .ref g61, .int 0, .ref g62, .ref g63, .ref g64, .ref g65, .int 0, .int 0, .ref g66, .ref g67, .int 0, .ref g68, .int 0, .int 0])), (h1, .inl (cB, 300, .inl fz0))] H := hP
  have hD : va_D A [(h0, .inr (12, [.ref g0, .ref g1, .ref g2, .ref g3, .ref g4, .int 4, .ref g5, .ref g6, .ref g7, .ref g8, .ref g9, .int 0, .ref g10, .ref g11, .ref g12, .ref g13, .ref g14, .ref g15, .ref g16, .ref g17, .int 0, .ref g18, .int 0, .ref h1, .int 16, .int 0, .int 0, .int 0, .int 0, .int 0, .int 0, .int 0, .long 0, .ref g19, .ref g20, .ref g21, .ref g22, .ref g23, .ref g24, .ref g25, .ref g26, .ref g27, .ref g28, .ref g29, .int 0, .int 1, .int 0, .ref g30, .ref g31, .int 0, .ref g32, .ref g33, .ref g34, .ref g35, .int 0, .ref g36, .int 0, .ref g37, .ref g38, .ref g39, .ref g40, .ref g41, .ref g42, .ref g43, .ref g44, .ref g45, .ref g46, .int 0, .int 0, .int 4, .ref g47, .ref g48, .ref g49, .ref g50, .ref g51, .ref g52, .ref g53, .ref g54, .ref g55, .ref g56, .ref g57, .ref g58, .ref g59, .int 0, .int 0, .int 0, .int 0, .int 0, .int 0, .int 0, .int 0, .int 0, .int 0, .int 0, .int 0, .int 0, .int 0, .int 0, .int 0, .int 0, .int 0, .int 0, .int 0, .ref g60, .ref g61, .int 0, .ref g62, .ref g63, .ref g64, .ref g65, .int 0, .int 0, .ref g66, .ref g67, .int 0, .ref g68, .int 0, .int 0])), (h1, .inl (cB, 300, .inl fz0))] := hD
  refine pcn (b := 22) rfl ?_
  refine lv_aload_n hx hb dX12_typed4_22 rfl (lv_at hl 1 rfl) ?_
  refine lv_aload_n hx hb dX12_typed4_23 rfl (lv_at hl 1 rfl) ?_
  refine va_get (D := D) (ci := 12) (v := .int 16) (C := RX12) (T := TX12) (N := 118) hx hb hts inX12 hown hK hP 0 rfl rfl 24 (by decide) (hts _ wm_1391) (fun _ h9 => h9) rfl dX12_typed4_24 ?_
  refine lv_iconst (v := 1) hx hb dX12_typed4_27 (by decide +kernel) ?_
  refine lv_iadd hx hb dX12_typed4_28 ?_
  refine nrm (y := 17) (by decide +kernel) ?_
  refine va_put (D := D) (ci := 12) (v := .int 17) (ty := .int) (C := RX12) (T := TX12) (N := 118) hx hb hts inX12 tyX12 tyX12_ok nmX12 hown hK hP hD hS 0 rfl rfl 24 (by decide) (hts _ wm_1391) (fun _ h9 => h9) rfl (by decide +kernel) rfl rfl (Nat.le_of_ble_eq_true rfl) dX12_typed4_29 (fun H locs hP hD hS => ?_)
  have hP : va_P D vwCl [(h0, .inr (12, [.ref g0, .ref g1, .ref g2, .ref g3, .ref g4, .int 4, .ref g5, .ref g6, .ref g7, .ref g8, .ref g9, .int 0, .ref g10, .ref g11, .ref g12, .ref g13, .ref g14, .ref g15, .ref g16, .ref g17, .int 0, .ref g18, .int 0, .ref h1, .int 17, .int 0, .int 0, .int 0, .int 0, .int 0, .int 0, .int 0, .long 0, .ref g19, .ref g20, .ref g21, .ref g22, .ref g23, .ref g24, .ref g25, .ref g26, .ref g27, .ref g28, .ref g29, .int 0, .int 1, .int 0, .ref g30, .ref g31, .int 0, .ref g32, .ref g33, .ref g34, .ref g35, .int 0, .ref g36, .int 0, .ref g37, .ref g38, .ref g39, .ref g40, .ref g41, .ref g42, .ref g43, .ref g44, .ref g45, .ref g46, .int 0, .int 0, .int 4, .ref g47, .ref g48, .ref g49, .ref g50, .ref g51, .ref g52, .ref g53, .ref g54, .ref g55, .ref g56, .ref g57, .ref g58, .ref g59, .int 0, .int 0, .int 0, .int 0, .int 0, .int 0, .int 0, .int 0, .int 0, .int 0, .int 0, .int 0, .int 0, .int 0, .int 0, .int 0, .int 0, .int 0, .int 0, .int 0, .ref g60, .ref g61, .int 0, .ref g62, .ref g63, .ref g64, .ref g65, .int 0, .int 0, .ref g66, .ref g67, .int 0, .ref g68, .int 0, .int 0])), (h1, .inl (cB, 300, .inl fz0))] H := hP
  have hD : va_D A [(h0, .inr (12, [.ref g0, .ref g1, .ref g2, .ref g3, .ref g4, .int 4, .ref g5, .ref g6, .ref g7, .ref g8, .ref g9, .int 0, .ref g10, .ref g11, .ref g12, .ref g13, .ref g14, .ref g15, .ref g16, .ref g17, .int 0, .ref g18, .int 0, .ref h1, .int 17, .int 0, .int 0, .int 0, .int 0, .int 0, .int 0, .int 0, .long 0, .ref g19, .ref g20, .ref g21, .ref g22, .ref g23, .ref g24, .ref g25, .ref g26, .ref g27, .ref g28, .ref g29, .int 0, .int 1, .int 0, .ref g30, .ref g31, .int 0, .ref g32, .ref g33, .ref g34, .ref g35, .int 0, .ref g36, .int 0, .ref g37, .ref g38, .ref g39, .ref g40, .ref g41, .ref g42, .ref g43, .ref g44, .ref g45, .ref g46, .int 0, .int 0, .int 4, .ref g47, .ref g48, .ref g49, .ref g50, .ref g51, .ref g52, .ref g53, .ref g54, .ref g55, .ref g56, .ref g57, .ref g58, .ref g59, .int 0, .int 0, .int 0, .int 0, .int 0, .int 0, .int 0, .int 0, .int 0, .int 0, .int 0, .int 0, .int 0, .int 0, .int 0, .int 0, .int 0, .int 0, .int 0, .int 0, .ref g60, .ref g61, .int 0, .ref g62, .ref g63, .ref g64, .ref g65, .int 0, .int 0, .ref g66, .ref g67, .int 0, .ref g68, .int 0, .int 0])), (h1, .inl (cB, 300, .inl fz0))] := hD
  refine lv_iinc (v := 2) (lv' := [(2, .int 2), (0, .ref h0), (1, .int s0)]) hx hb dX12_typed4_32 hl (k := 0) rfl (by decide +kernel) (by decide) rfl (fun ls hl => ?_)
  refine lv_goto (tgt := 2) hx hb dX12_typed4_35 (by decide) ?_
  refine lv_iload_n hx hb dX12_typed4_2 rfl (lv_at hl 0 rfl) ?_
  refine lv_if_lt (tgt := 38) hx hb dX12_typed4_3 (by decide) (fun h9 => absurd h9 (by decide +kernel)) (fun _ => ?_)
  refine lv_aload_n hx hb dX12_typed4_6 rfl (lv_at hl 1 rfl) ?_
  refine va_get (D := D) (ci := 12) (v := .ref h1) (C := RX12) (T := TX12) (N := 118) hx hb hts inX12 hown hK hP 0 rfl rfl 23 (by decide) (hts _ wm_1390) (fun _ h9 => h9) rfl dX12_typed4_7 ?_
  refine lv_aload_n hx hb dX12_typed4_10 rfl (lv_at hl 1 rfl) ?_
  refine va_get (D := D) (ci := 12) (v := .int 17) (C := RX12) (T := TX12) (N := 118) hx hb hts inX12 hown hK hP 0 rfl rfl 24 (by decide) (hts _ wm_1391) (fun _ h9 => h9) rfl dX12_typed4_11 ?_
  refine lv_iload_n hx hb dX12_typed4_14 rfl (lv_at hl 2 rfl) ?_
  refine pcn (b := 15) rfl ?_
  refine lv_bipush (v := 8) hx hb dX12_typed4_15 (by decide +kernel) ?_
  refine lv_iload_n hx hb dX12_typed4_17 rfl (lv_at hl 0 rfl) ?_
  refine lv_imul hx hb dX12_typed4_18 ?_
  refine nrm (y := 16) (by decide +kernel) ?_
  refine lv_ishr hx hb dX12_typed4_19 ?_
  refine lv_topi (fun y2 _ => ?_)
  refine lv_i2b hx hb dX12_typed4_20 rfl ?_
  refine lv_topi (fun y3 _ => ?_)
  refine as_b_o hx hb hK hP hD hS 1 2 rfl rfl (vpi (by decide +kernel)) dX12_typed4_21 (fun H locs fz1 hP hD hS => ?_)
  have hP : va_P D vwCl [(h0, .inr (12, [.ref g0, .ref g1, .ref g2, .ref g3, .ref g4, .int 4, .ref g5, .ref g6, .ref g7, .ref g8, .ref g9, .int 0, .ref g10, .ref g11, .ref g12, .ref g13, .ref g14, .ref g15, .ref g16, .ref g17, .int 0, .ref g18, .int 0, .ref h1, .int 17, .int 0, .int 0, .int 0, .int 0, .int 0, .int 0, .int 0, .long 0, .ref g19, .ref g20, .ref g21, .ref g22, .ref g23, .ref g24, .ref g25, .ref g26, .ref g27, .ref g28, .ref g29, .int 0, .int 1, .int 0, .ref g30, .ref g31, .int 0, .ref g32, .ref g33, .ref g34, .ref g35, .int 0, .ref g36, .int 0, .ref g37, .ref g38, .ref g39, .ref g40, .ref g41, .ref g42, .ref g43, .ref g44, .ref g45, .ref g46, .int 0, .int 0, .int 4, .ref g47, .ref g48, .ref g49, .ref g50, .ref g51, .ref g52, .ref g53, .ref g54, .ref g55, .ref g56, .ref g57, .ref g58, .ref g59, .int 0, .int 0, .int 0, .int 0, .int 0, .int 0, .int 0, .int 0, .int 0, .int 0, .int 0, .int 0, .int 0, .int 0, .int 0, .int 0, .int 0, .int 0, .int 0, .int 0, .ref g60, .ref g61, .int 0, .ref g62, .ref g63, .ref g64, .ref g65, .int 0, .int 0, .ref g66, .ref g67, .int 0, .ref g68, .int 0, .int 0])), (h1, .inl (cB, 300, .inl fz1))] H := hP
  have hD : va_D A [(h0, .inr (12, [.ref g0, .ref g1, .ref g2, .ref g3, .ref g4, .int 4, .ref g5, .ref g6, .ref g7, .ref g8, .ref g9, .int 0, .ref g10, .ref g11, .ref g12, .ref g13, .ref g14, .ref g15, .ref g16, .ref g17, .int 0, .ref g18, .int 0, .ref h1, .int 17, .int 0, .int 0, .int 0, .int 0, .int 0, .int 0, .int 0, .long 0, .ref g19, .ref g20, .ref g21, .ref g22, .ref g23, .ref g24, .ref g25, .ref g26, .ref g27, .ref g28, .ref g29, .int 0, .int 1, .int 0, .ref g30, .ref g31, .int 0, .ref g32, .ref g33, .ref g34, .ref g35, .int 0, .ref g36, .int 0, .ref g37, .ref g38, .ref g39, .ref g40, .ref g41, .ref g42, .ref g43, .ref g44, .ref g45, .ref g46, .int 0, .int 0, .int 4, .ref g47, .ref g48, .ref g49, .ref g50, .ref g51, .ref g52, .ref g53, .ref g54, .ref g55, .ref g56, .ref g57, .ref g58, .ref g59, .int 0, .int 0, .int 0, .int 0, .int 0, .int 0, .int 0, .int 0, .int 0, .int 0, .int 0, .int 0, .int 0, .int 0, .int 0, .int 0, .int 0, .int 0, .int 0, .int 0, .ref g60, .ref g61, .int 0, .ref g62, .ref g63, .ref g64, .ref g65, .int 0, .int 0, .ref g66, .ref g67, .int 0, .ref g68, .int 0, .int 0])), (h1, .inl (cB, 300, .inl fz1))] := hD
  refine lv_aload_n hx hb dX12_typed4_22 rfl (lv_at hl 1 rfl) ?_
  refine lv_aload_n hx hb dX12_typed4_23 rfl (lv_at hl 1 rfl) ?_
  refine pcn (b := 24) rfl ?_
  refine va_get (D := D) (ci := 12) (v := .int 17) (C := RX12) (T := TX12) (N := 118) hx hb hts inX12 hown hK hP 0 rfl rfl 24 (by decide) (hts _ wm_1391) (fun _ h9 => h9) rfl dX12_typed4_24 ?_
  refine lv_iconst (v := 1) hx hb dX12_typed4_27 (by decide +kernel) ?_
  refine lv_iadd hx hb dX12_typed4_28 ?_
  refine nrm (y := 18) (by decide +kernel) ?_
  refine va_put (D := D) (ci := 12) (v := .int 18) (ty := .int) (C := RX12) (T := TX12) (N := 118) hx hb hts inX12 tyX12 tyX12_ok nmX12 hown hK hP hD hS 0 rfl rfl 24 (by decide) (hts _ wm_1391) (fun _ h9 => h9) rfl (by decide +kernel) rfl rfl (Nat.le_of_ble_eq_true rfl) dX12_typed4_29 (fun H locs hP hD hS => ?_)
  have hP : va_P D vwCl [(h0, .inr (12, [.ref g0, .ref g1, .ref g2, .ref g3, .ref g4, .int 4, .ref g5, .ref g6, .ref g7, .ref g8, .ref g9, .int 0, .ref g10, .ref g11, .ref g12, .ref g13, .ref g14, .ref g15, .ref g16, .ref g17, .int 0, .ref g18, .int 0, .ref h1, .int 18, .int 0, .int 0, .int 0, .int 0, .int 0, .int 0, .int 0, .long 0, .ref g19, .ref g20, .ref g21, .ref g22, .ref g23, .ref g24, .ref g25, .ref g26, .ref g27, .ref g28, .ref g29, .int 0, .int 1, .int 0, .ref g30, .ref g31, .int 0, .ref g32, .ref g33, .ref g34, .ref g35, .int 0, .ref g36, .int 0, .ref g37, .ref g38, .ref g39, .ref g40, .ref g41, .ref g42, .ref g43, .ref g44, .ref g45, .ref g46, .int 0, .int 0, .int 4, .ref g47, .ref g48, .ref g49, .ref g50, .ref g51, .ref g52, .ref g53, .ref g54, .ref g55, .ref g56, .ref g57, .ref g58, .ref g59, .int 0, .int 0, .int 0, .int 0, .int 0, .int 0, .int 0, .int 0, .int 0, .int 0, .int 0, .int 0, .int 0, .int 0, .int 0, .int 0, .int 0, .int 0, .int 0, .int 0, .ref g60, .ref g61, .int 0, .ref g62, .ref g63, .ref g64, .ref g65, .int 0, .int 0, .ref g66, .ref g67, .int 0, .ref g68, .int 0, .int 0])), (h1, .inl (cB, 300, .inl fz1))] H := hP
  have hD : va_D A [(h0, .inr (12, [.ref g0, .ref g1, .ref g2, .ref g3, .ref g4, .int 4, .ref g5, .ref g6, .ref g7, .ref g8, .ref g9, .int 0, .ref g10, .ref g11, .ref g12, .ref g13, .ref g14, .ref g15, .ref g16, .ref g17, .int 0, .ref g18, .int 0, .ref h1, .int 18, .int 0, .int 0, .int 0, .int 0, .int 0, .int 0, .int 0, .long 0, .ref g19, .ref g20, .ref g21, .ref g22, .ref g23, .ref g24, .ref g25, .ref g26, .ref g27, .ref g28, .ref g29, .int 0, .int 1, .int 0, .ref g30, .ref g31, .int 0, .ref g32, .ref g33, .ref g34, .ref g35, .int 0, .ref g36, .int 0, .ref g37, .ref g38, .ref g39, .ref g40, .ref g41, .ref g42, .ref g43, .ref g44, .ref g45, .ref g46, .int 0, .int 0, .int 4, .ref g47, .ref g48, .ref g49, .ref g50, .ref g51, .ref g52, .ref g53, .ref g54, .ref g55, .ref g56, .ref g57, .ref g58, .ref g59, .int 0, .int 0, .int 0, .int 0, .int 0, .int 0, .int 0, .int 0, .int 0, .int 0, .int 0, .int 0, .int 0, .int 0, .int 0, .int 0, .int 0, .int 0, .int 0, .int 0, .ref g60, .ref g61, .int 0, .ref g62, .ref g63, .ref g64, .ref g65, .int 0, .int 0, .ref g66, .ref g67, .int 0, .ref g68, .int 0, .int 0])), (h1, .inl (cB, 300, .inl fz1))] := hD
  refine lv_iinc (v := 1) (lv' := [(2, .int 1), (0, .ref h0), (1, .int s0)]) hx hb dX12_typed4_32 hl (k := 0) rfl (by decide +kernel) (by decide) rfl (fun ls hl => ?_)
  refine lv_goto (tgt := 2) hx hb dX12_typed4_35 (by decide) ?_
  refine lv_iload_n hx hb dX12_typed4_2 rfl (lv_at hl 0 rfl) ?_
  refine lv_if_lt (tgt := 38) hx hb dX12_typed4_3 (by decide) (fun h9 => absurd h9 (by decide +kernel)) (fun _ => ?_)
  refine lv_aload_n hx hb dX12_typed4_6 rfl (lv_at hl 1 rfl) ?_
  refine va_get (D := D) (ci := 12) (v := .ref h1) (C := RX12) (T := TX12) (N := 118) hx hb hts inX12 hown hK hP 0 rfl rfl 23 (by decide) (hts _ wm_1390) (fun _ h9 => h9) rfl dX12_typed4_7 ?_
  refine lv_aload_n hx hb dX12_typed4_10 rfl (lv_at hl 1 rfl) ?_
  refine va_get (D := D) (ci := 12) (v := .int 18) (C := RX12) (T := TX12) (N := 118) hx hb hts inX12 hown hK hP 0 rfl rfl 24 (by decide) (hts _ wm_1391) (fun _ h9 => h9) rfl dX12_typed4_11 ?_
  refine lv_iload_n hx hb dX12_typed4_14 rfl (lv_at hl 2 rfl) ?_
  refine pcn (b := 15) rfl ?_
  refine lv_bipush (v := 8) hx hb dX12_typed4_15 (by decide +kernel) ?_
  refine lv_iload_n hx hb dX12_typed4_17 rfl (lv_at hl 0 rfl) ?_
  refine lv_imul hx hb dX12_typed4_18 ?_
  refine nrm (y := 8) (by decide +kernel) ?_
  refine lv_ishr hx hb dX12_typed4_19 ?_
  refine lv_topi (fun y4 _ => ?_)
  refine lv_i2b hx hb dX12_typed4_20 rfl ?_
  refine lv_topi (fun y5 _ => ?_)
  refine as_b_o hx hb hK hP hD hS 1 2 rfl rfl (vpi (by decide +kernel)) dX12_typed4_21 (fun H locs fz2 hP hD hS => ?_)
  have hP : va_P D vwCl [(h0, .inr (12, [.ref g0, .ref g1, .ref g2, .ref g3, .ref g4, .int 4, .ref g5, .ref g6, .ref g7, .ref g8, .ref g9, .int 0, .ref g10, .ref g11, .ref g12, .ref g13, .ref g14, .ref g15, .ref g16, .ref g17, .int 0, .ref g18, .int 0, .ref h1, .int 18, .int 0, .int 0, .int 0, .int 0, .int 0, .int 0, .int 0, .long 0, .ref g19, .ref g20, .ref g21, .ref g22, .ref g23, .ref g24, .ref g25, .ref g26, .ref g27, .ref g28, .ref g29, .int 0, .int 1, .int 0, .ref g30, .ref g31, .int 0, .ref g32, .ref g33, .ref g34, .ref g35, .int 0, .ref g36, .int 0, .ref g37, .ref g38, .ref g39, .ref g40, .ref g41, .ref g42, .ref g43, .ref g44, .ref g45, .ref g46, .int 0, .int 0, .int 4, .ref g47, .ref g48, .ref g49, .ref g50, .ref g51, .ref g52, .ref g53, .ref g54, .ref g55, .ref g56, .ref g57, .ref g58, .ref g59, .int 0, .int 0, .int 0, .int 0, .int 0, .int 0, .int 0, .int 0, .int 0, .int 0, .int 0, .int 0, .int 0, .int 0, .int 0, .int 0, .int 0, .int 0, .int 0, .int 0, .ref g60, .ref g61, .int 0, .ref g62, .ref g63, .ref g64, .ref g65, .int 0, .int 0, .ref g66, .ref g67, .int 0, .ref g68, .int 0, .int 0])), (h1, .inl (cB, 300, .inl fz2))] H := hP
  have hD : va_D A [(h0, .inr (12, [.ref g0, .ref g1, .ref g2, .ref g3, .ref g4, .int 4, .ref g5, .ref g6, .ref g7, .ref g8, .ref g9, .int 0, .ref g10, .ref g11, .ref g12, .ref g13, .ref g14, .ref g15, .ref g16, .ref g17, .int 0, .ref g18, .int 0, .ref h1, .int 18, .int 0, .int 0, .int 0, .int 0, .int 0, .int 0, .int 0, .long 0, .ref g19, .ref g20, .ref g21, .ref g22, .ref g23, .ref g24, .ref g25, .ref g26, .ref g27, .ref g28, .ref g29, .int 0, .int 1, .int 0, .ref g30, .ref g31, .int 0, .ref g32, .ref g33, .ref g34, .ref g35, .int 0, .ref g36, .int 0, .ref g37, .ref g38, .ref g39, .ref g40, .ref g41, .ref g42, .ref g43, .ref g44, .ref g45, .ref g46, .int 0, .int 0, .int 4, .ref g47, .ref g48, .ref g49, .ref g50, .ref g51, .ref g52, .ref g53, .ref g54, .ref g55, .ref g56, .ref g57, .ref g58, .ref g59, .int 0, .int 0, .int 0, .int 0, .int 0, .int 0, .int 0, .int 0, .int 0, .int 0, .int 0, .int 0, .int 0, .int 0, .int 0, .int 0, .int 0, .int 0, .int 0, .int 0, .ref g60, .ref g61, .int 0, .ref g62, .ref g63, .ref g64, .ref g65, .int 0, .int 0, .ref g66, .ref g67, .int 0, .ref g68, .int 0, .int 0])), (h1, .inl (cB, 300, .inl fz2))] := hD
  refine lv_aload_n hx hb dX12_typed4_22 rfl (lv_at hl 1 rfl) ?_
  refine lv_aload_n hx hb dX12_typed4_23 rfl (lv_at hl 1 rfl) ?_
  refine pcn (b := 24) rfl ?_
  refine va_get (D := D) (ci := 12) (v := .int 18) (C := RX12) (T := TX12) (N := 118) hx hb hts inX12 hown hK hP 0 rfl rfl 24 (by decide) (hts _ wm_1391) (fun _ h9 => h9) rfl dX12_typed4_24 ?_
  refine lv_iconst (v := 1) hx hb dX12_typed4_27 (by decide +kernel) ?_
  refine lv_iadd hx hb dX12_typed4_28 ?_
  refine nrm (y := 19) (by decide +kernel) ?_
  refine va_put (D := D) (ci := 12) (v := .int 19) (ty := .int) (C := RX12) (T := TX12) (N := 118) hx hb hts inX12 tyX12 tyX12_ok nmX12 hown hK hP hD hS 0 rfl rfl 24 (by decide) (hts _ wm_1391) (fun _ h9 => h9) rfl (by decide +kernel) rfl rfl (Nat.le_of_ble_eq_true rfl) dX12_typed4_29 (fun H locs hP hD hS => ?_)
  have hP : va_P D vwCl [(h0, .inr (12, [.ref g0, .ref g1, .ref g2, .ref g3, .ref g4, .int 4, .ref g5, .ref g6, .ref g7, .ref g8, .ref g9, .int 0, .ref g10, .ref g11, .ref g12, .ref g13, .ref g14, .ref g15, .ref g16, .ref g17, .int 0, .ref g18, .int 0, .ref h1, .int 19, .int 0, .int 0, .int 0, .int 0, .int 0, .int 0, .int 0, .long 0, .ref g19, .ref g20, .ref g21, .ref g22, .ref g23, .ref g24, .ref g25, .ref g26, .ref g27, .ref g28, .ref g29, .int 0, .int 1, .int 0, .ref g30, .ref g31, .int 0, .ref g32, .ref g33, .ref g34, .ref g35, .int 0, .ref g36, .int 0, .ref g37, .ref g38, .ref g39, .ref g40, .ref g41, .ref g42, .ref g43, .ref g44, .ref g45, .ref g46, .int 0, .int 0, .int 4, .ref g47, .ref g48, .ref g49, .ref g50, .ref g51, .ref g52, .ref g53, .ref g54, .ref g55, .ref g56, .ref g57, .ref g58, .ref g59, .int 0, .int 0, .int 0, .int 0, .int 0, .int 0, .int 0, .int 0, .int 0, .int 0, .int 0, .int 0, .int 0, .int 0, .int 0, .int 0, .int 0, .int 0, .int 0, .int 0, .ref g60, .ref g61, .int 0, .ref g62, .ref g63, .ref g64, .ref g65, .int 0, .int 0, .ref g66, .ref g67, .int 0, .ref g68, .int 0, .int 0])), (h1, .inl (cB, 300, .inl fz2))] H := hP
  have hD : va_D A [(h0, .inr (12, [.ref g0, .ref g1, .ref g2, .ref g3, .ref g4, .int 4, .ref g5, .ref g6, .ref g7, .ref g8, .ref g9, .int 0, .ref g10, .ref g11, .ref g12, .ref g13, .ref g14, .ref g15, .ref g16, .ref g17, .int 0, .ref g18, .int 0, .ref h1, .int 19, .int 0, .int 0, .int 0, .int 0, .int 0, .int 0, .int 0, .long 0, .ref g19, .ref g20, .ref g21, .ref g22, .ref g23, .ref g24, .ref g25, .ref g26, .ref g27, .ref g28, .ref g29, .int 0, .int 1, .int 0, .ref g30, .ref g31, .int 0, .ref g32, .ref g33, .ref g34, .ref g35, .int 0, .ref g36, .int 0, .ref g37, .ref g38, .ref g39, .ref g40, .ref g41, .ref g42, .ref g43, .ref g44, .ref g45, .ref g46, .int 0, .int 0, .int 4, .ref g47, .ref g48, .ref g49, .ref g50, .ref g51, .ref g52, .ref g53, .ref g54, .ref g55, .ref g56, .ref g57, .ref g58, .ref g59, .int 0, .int 0, .int 0, .int 0, .int 0, .int 0, .int 0, .int 0, .int 0, .int 0, .int 0, .int 0, .int 0, .int 0, .int 0, .int 0, .int 0, .int 0, .int 0, .int 0, .ref g60, .ref g61, .int 0, .ref g62, .ref g63, .ref g64, .ref g65, .int 0, .int 0, .ref g66, .ref g67, .int 0, .ref g68, .int 0, .int 0])), (h1, .inl (cB, 300, .inl fz2))] := hD
  refine lv_iinc (v := 0) (lv' := [(2, .int 0), (0, .ref h0), (1, .int s0)]) hx hb dX12_typed4_32 hl (k := 0) rfl (by decide +kernel) (by decide) rfl (fun ls hl => ?_)
  refine lv_goto (tgt := 2) hx hb dX12_typed4_35 (by decide) ?_
  refine lv_iload_n hx hb dX12_typed4_2 rfl (lv_at hl 0 rfl) ?_
  refine lv_if_lt (tgt := 38) hx hb dX12_typed4_3 (by decide) (fun h9 => absurd h9 (by decide +kernel)) (fun _ => ?_)
  refine lv_aload_n hx hb dX12_typed4_6 rfl (lv_at hl 1 rfl) ?_
  refine va_get (D := D) (ci := 12) (v := .ref h1) (C := RX12) (T := TX12) (N := 118) hx hb hts inX12 hown hK hP 0 rfl rfl 23 (by decide) (hts _ wm_1390) (fun _ h9 => h9) rfl dX12_typed4_7 ?_
  refine lv_aload_n hx hb dX12_typed4_10 rfl (lv_at hl 1 rfl) ?_
  refine va_get (D := D) (ci := 12) (v := .int 19) (C := RX12) (T := TX12) (N := 118) hx hb hts inX12 hown hK hP 0 rfl rfl 24 (by decide) (hts _ wm_1391) (fun _ h9 => h9) rfl dX12_typed4_11 ?_
  refine lv_iload_n hx hb dX12_typed4_14 rfl (lv_at hl 2 rfl) ?_
  refine pcn (b := 15) rfl ?_
  refine lv_bipush (v := 8) hx hb dX12_typed4_15 (by decide +kernel) ?_
  refine lv_iload_n hx hb dX12_typed4_17 rfl (lv_at hl 0 rfl) ?_
  refine lv_imul hx hb dX12_typed4_18 ?_
  refine nrm (y := 0) (by decide +kernel) ?_
  refine lv_ishr hx hb dX12_typed4_19 ?_
  refine lv_topi (fun y6 _ => ?_)
  refine lv_i2b hx hb dX12_typed4_20 rfl ?_
  refine lv_topi (fun y7 _ => ?_)
  refine as_b_o hx hb hK hP hD hS 1 2 rfl rfl (vpi (by decide +kernel)) dX12_typed4_21 (fun H locs fz3 hP hD hS => ?_)
  have hP : va_P D vwCl [(h0, .inr (12, [.ref g0, .ref g1, .ref g2, .ref g3, .ref g4, .int 4, .ref g5, .ref g6, .ref g7, .ref g8, .ref g9, .int 0, .ref g10, .ref g11, .ref g12, .ref g13, .ref g14, .ref g15, .ref g16, .ref g17, .int 0, .ref g18, .int 0, .ref h1, .int 19, .int 0, .int 0, .int 0, .int 0, .int 0, .int 0, .int 0, .long 0, .ref g19, .ref g20, .ref g21, .ref g22, .ref g23, .ref g24, .ref g25, .ref g26, .ref g27, .ref g28, .ref g29, .int 0, .int 1, .int 0, .ref g30, .ref g31, .int 0, .ref g32, .ref g33, .ref g34, .ref g35, .int 0, .ref g36, .int 0, .ref g37, .ref g38, .ref g39, .ref g40, .ref g41, .ref g42, .ref g43, .ref g44, .ref g45, .ref g46, .int 0, .int 0, .int 4, .ref g47, .ref g48, .ref g49, .ref g50, .ref g51, .ref g52, .ref g53, .ref g54, .ref g55, .ref g56, .ref g57, .ref g58, .ref g59, .int 0, .int 0, .int 0, .int 0, .int 0, .int 0, .int 0, .int 0, .int 0, .int 0, .int 0, .int 0, .int 0, .int 0, .int 0, .int 0, .int 0, .int 0, .int 0, .int 0, .ref g60, .ref g61, .int 0, .ref g62, .ref g63, .ref g64, .ref g65, .int 0, .int 0, .ref g66, .ref g67, .int 0, .ref g68, .int 0, .int 0])), (h1, .inl (cB, 300, .inl fz3))] H := hP
  have hD : va_D A [(h0, .inr (12, [.ref g0, .ref g1, .ref g2, .ref g3, .ref g4, .int 4, .ref g5, .ref g6, .ref g7, .ref g8, .ref g9, .int 0, .ref g10, .ref g11, .ref g12, .ref g13, .ref g14, .ref g15, .ref g16, .ref g17, .int 0, .ref g18, .int 0, .ref h1, .int 19, .int 0, .int 0, .int 0, .int 0, .int 0, .int 0, .int 0, .long 0, .ref g19, .ref g20, .ref g21, .ref g22, .ref g23, .ref g24, .ref g25, .ref g26, .ref g27, .ref g28, .ref g29, .int 0, .int 1, .int 0, .ref g30, .ref g31, .int 0, .ref g32, .ref g33, .ref g34, .ref g35, .int 0, .ref g36, .int 0, .ref g37, .ref g38, .ref g39, .ref g40, .ref g41, .ref g42, .ref g43, .ref g44, .ref g45, .ref g46, .int 0, .int 0, .int 4, .ref g47, .ref g48, .ref g49, .ref g50, .ref g51, .ref g52, .ref g53, .ref g54, .ref g55, .ref g56, .ref g57, .ref g58, .ref g59, .int 0, .int 0, .int 0, .int 0, .int 0, .int 0, .int 0, .int 0, .int 0, .int 0, .int 0, .int 0, .int 0, .int 0, .int 0, .int 0, .int 0, .int 0, .int 0, .int 0, .ref g60, .ref g61, .int 0, .ref g62, .ref g63, .ref g64, .ref g65, .int 0, .int 0, .ref g66, .ref g67, .int 0, .ref g68, .int 0, .int 0])), (h1, .inl (cB, 300, .inl fz3))] := hD
  refine lv_aload_n hx hb dX12_typed4_22 rfl (lv_at hl 1 rfl) ?_
  refine lv_aload_n hx hb dX12_typed4_23 rfl (lv_at hl 1 rfl) ?_
  refine pcn (b := 24) rfl ?_
  refine va_get (D := D) (ci := 12) (v := .int 19) (C := RX12) (T := TX12) (N := 118) hx hb hts inX12 hown hK hP 0 rfl rfl 24 (by decide) (hts _ wm_1391) (fun _ h9 => h9) rfl dX12_typed4_24 ?_
  refine lv_iconst (v := 1) hx hb dX12_typed4_27 (by decide +kernel) ?_
  refine lv_iadd hx hb dX12_typed4_28 ?_
  refine nrm (y := 20) (by decide +kernel) ?_
  refine va_put (D := D) (ci := 12) (v := .int 20) (ty := .int) (C := RX12) (T := TX12) (N := 118) hx hb hts inX12 tyX12 tyX12_ok nmX12 hown hK hP hD hS 0 rfl rfl 24 (by decide) (hts _ wm_1391) (fun _ h9 => h9) rfl (by decide +kernel) rfl rfl (Nat.le_of_ble_eq_true rfl) dX12_typed4_29 (fun H locs hP hD hS => ?_)
  have hP : va_P D vwCl [(h0, .inr (12, [.ref g0, .ref g1, .ref g2, .ref g3, .ref g4, .int 4, .ref g5, .ref g6, .ref g7, .ref g8, .ref g9, .int 0, .ref g10, .ref g11, .ref g12, .ref g13, .ref g14, .ref g15, .ref g16, .ref g17, .int 0, .ref g18, .int 0, .ref h1, .int 20, .int 0, .int 0, .int 0, .int 0, .int 0, .int 0, .int 0, .long 0, .ref g19, .ref g20, .ref g21, .ref g22, .ref g23, .ref g24, .ref g25, .ref g26, .ref g27, .ref g28, .ref g29, .int 0, .int 1, .int 0, .ref g30, .ref g31, .int 0, .ref g32, .ref g33, .ref g34, .ref g35, .int 0, .ref g36, .int 0, .ref g37, .ref g38, .ref g39, .ref g40, .ref g41, .ref g42, .ref g43, .ref g44, .ref g45, .ref g46, .int 0, .int 0, .int 4, .ref g47, .ref g48, .ref g49, .ref g50, .ref g51, .ref g52, .ref g53, .ref g54, .ref g55, .ref g56, .ref g57, .ref g58, .ref g59, .int 0, .int 0, .int 0, .int 0, .int 0, .int 0, .int 0, .int 0, .int 0, .int 0, .int 0, .int 0, .int 0, .int 0, .int 0, .int 0, .int 0, .int 0, .int 0, .int 0, .ref g60, .ref g61, .int 0, .ref g62, .ref g63, .ref g64, .ref g65, .int 0, .int 0, .ref g66, .ref g67, .int 0, .ref g68, .int 0, .int 0])), (h1, .inl (cB, 300, .inl fz3))] H := hP
  have hD : va_D A [(h0, .inr (12, [.ref g0, .ref g1, .ref g2, .ref g3, .ref g4, .int 4, .ref g5, .ref g6, .ref g7, .ref g8, .ref g9, .int 0, .ref g10, .ref g11, .ref g12, .ref g13, .ref g14, .ref g15, .ref g16, .ref g17, .int 0, .ref g18, .int 0, .ref h1, .int 20, .int 0, .int 0, .int 0, .int 0, .int 0, .int 0, .int 0, .long 0, .ref g19, .ref g20, .ref g21, .ref g22, .ref g23, .ref g24, .ref g25, .ref g26, .ref g27, .ref g28, .ref g29, .int 0, .int 1, .int 0, .ref g30, .ref g31, .int 0, .ref g32, .ref g33, .ref g34, .ref g35, .int 0, .ref g36, .int 0, .ref g37, .ref g38, .ref g39, .ref g40, .ref g41, .ref g42, .ref g43, .ref g44, .ref g45, .ref g46, .int 0, .int 0, .int 4, .ref g47, .ref g48, .ref g49, .ref g50, .ref g51, .ref g52, .ref g53, .ref g54, .ref g55, .ref g56, .ref g57, .ref g58, .ref g59, .int 0, .int 0, .int 0, .int 0, .int 0, .int 0, .int 0, .int 0, .int 0, .int 0, .int 0, .int 0, .int 0, .int 0, .int 0, .int 0, .int 0, .int 0, .int 0, .int 0, .ref g60, .ref g61, .int 0, .ref g62, .ref g63, .ref g64, .ref g65, .int 0, .int 0, .ref g66, .ref g67, .int 0, .ref g68, .int 0, .int 0])), (h1, .inl (cB, 300, .inl fz3))] := hD
  refine lv_iinc (v := (-1)) (lv' := [(2, .int (-1)), (0, .ref h0), (1, .int s0)]) hx hb dX12_typed4_32 hl (k := 0) rfl (by decide +kernel) (by decide) rfl (fun ls hl => ?_)
  refine lv_goto (tgt := 2) hx hb dX12_typed4_35 (by decide) ?_
  refine lv_iload_n hx hb dX12_typed4_2 rfl (lv_at hl 0 rfl) ?_
  refine lv_if_lt (tgt := 38) hx hb dX12_typed4_3 (by decide) (fun _ => ?_) (fun h9 => absurd (by decide +kernel) h9)
  refine W.widen (k := 0) (n := 0) (Nat.le_of_ble_eq_true rfl) (Nat.le_of_ble_eq_true rfl) ?_
  exact rtV hx hb hr hlocks hS hP hD ⟨fz3, rfl⟩ dX12_typed4_38
