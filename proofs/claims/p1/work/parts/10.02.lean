set_option maxHeartbeats 4000000 in
set_option maxRecDepth 100000 in
theorem c_X6_init_1 (l : Launch) (D : va_G) (cI cZ cB cJ : ClassId) (h0 : Nat) : CtV l D (TT cI cZ cB cJ) yX6_init cX6_init 2 none 1 21 1 96 [.ref h0, .int 16] [(h0, .inr (6, [.null, .int 0]))] (fun w1 => ∃ (q0 : Nat), w1 = [(h0, .inr (6, [.ref q0, .int 0]))]) := by
  refine CtV.of (by decide +kernel) (Nat.le_of_ble_eq_true rfl) ?_
  intro p e s m below meth c A ls hx hb hr hml hown hts hnw hlocks hin hA hS hP hK hD hl
  have hown : s.vm.findClass RX6 = some m.cls := hown
  have hl : lv_has ls 2 [(0, .ref h0), (1, .int 16)] := hl
  have hin : meth.name = "<init>" := hin
  refine lv_aload_n hx hb dX6_init_0 rfl (lv_at hl 0 rfl) ?_
  refine W.objInit hx hb hown (hts _ wm_148) (hts _ wm_27) (hts _ wm_28) rfl (by rw [hml]; exact hl.1) rfl dX6_init_1 (Nat.le_of_ble_eq_true rfl) (Nat.le_of_ble_eq_true rfl) ?_
  refine W.eq (g2 := F0 m 4 ls []) rfl ?_
  refine lv_aload_n hx hb dX6_init_4 rfl (lv_at hl 0 rfl) ?_
  refine lv_iconst (v := 1) hx hb dX6_init_5 (by decide +kernel) ?_
  refine lv_iload_n hx hb dX6_init_6 rfl (lv_at hl 1 rfl) ?_
  refine lv_ldc (v := 131072) hx hb hown (hts _ wm_149) dX6_init_7 ?_
  refine va_mmin hx hb (hml.trans hl.1.symm) hown (hts _ wm_150) (hts _ wm_151) (hts _ wm_8) (hts _ wm_152) (Nat.le_of_ble_eq_true rfl) (Nat.le_of_ble_eq_true rfl) (Nat.le_of_ble_eq_true rfl) (Nat.le_of_ble_eq_true rfl) dX6_init_9 ?_
  refine nrm (y := 16) (by decide +kernel) ?_
  refine pcn (b := 12) rfl ?_
  refine va_mmax hx hb (hml.trans hl.1.symm) hown (hts _ wm_153) (hts _ wm_154) (hts _ wm_8) (hts _ wm_155) (Nat.le_of_ble_eq_true rfl) (Nat.le_of_ble_eq_true rfl) (Nat.le_of_ble_eq_true rfl) (Nat.le_of_ble_eq_true rfl) dX6_init_12 ?_
  refine nrm (y := 16) (by decide +kernel) ?_
  refine lv_bipush (v := 6) hx hb dX6_init_15 (by decide +kernel) ?_
  refine lv_imul hx hb dX6_init_17 ?_
  refine nrm (y := 96) (by decide +kernel) ?_
  refine n_newa (atype := .int) (ty := .int) (N2 := 96) hx hb (hts _ wm_62) rfl hK hP hD hS hA 0 rfl (fun _ _ => rfl) (fun _ => rfl) (by decide +kernel) (by decide +kernel) (by decide +kernel) (Nat.le_of_ble_eq_true rfl) (Nat.le_of_ble_eq_true rfl) dX6_init_18 (fun q0 H hP hD hS => ?_)
  have hP : va_P D vwCl [(h0, .inr (6, [.null, .int 0])), (q0, .inl (cI, 96, .inl (fun _ => 0)))] H := hP
  have hD : va_D A [(h0, .inr (6, [.null, .int 0])), (q0, .inl (cI, 96, .inl (fun _ => 0)))] := hD
  refine W.widen (k := 1) (n := 96) (Nat.le_of_ble_eq_true rfl) (Nat.le_of_ble_eq_true rfl) ?_
  refine va_put (D := D) (ci := 6) (v := .ref q0) (ty := (.array .int)) (C := RX6) (T := TX6) (N := 2) hx hb hts inX6 tyX6 tyX6_ok nmX6 hown hK hP hD hS 0 rfl rfl 0 (by decide) (hts _ wm_156) (fun _ h9 => h9) rfl (by decide +kernel) rfl rfl (Nat.le_of_ble_eq_true rfl) dX6_init_20 (fun H locs hP hD hS => ?_)
  have hP := hP.sub (ws' := [(h0, .inr (6, [.ref q0, .int 0]))]) [0] rfl
  have hD := hD.sub (ws' := [(h0, .inr (6, [.ref q0, .int 0]))]) [0] (by decide) rfl
  have hP : va_P D vwCl [(h0, .inr (6, [.ref q0, .int 0]))] H := hP
  have hD : va_D A [(h0, .inr (6, [.ref q0, .int 0]))] := hD
  refine lv_aload_n hx hb dX6_init_23 rfl (lv_at hl 0 rfl) ?_
  refine lv_iconst (v := 0) hx hb dX6_init_24 (by decide +kernel) ?_
  refine va_put (D := D) (ci := 6) (v := .int 0) (ty := .int) (C := RX6) (T := TX6) (N := 2) hx hb hts inX6 tyX6 tyX6_ok nmX6 hown hK hP hD hS 0 rfl rfl 1 (by decide) (hts _ wm_157) (fun _ h9 => h9) rfl (by decide +kernel) rfl rfl (Nat.le_of_ble_eq_true rfl) dX6_init_25 (fun H locs hP hD hS => ?_)
  have hP : va_P D vwCl [(h0, .inr (6, [.ref q0, .int 0]))] H := hP
  have hD : va_D A [(h0, .inr (6, [.ref q0, .int 0]))] := hD
  refine W.widen (k := 1) (n := 96) (Nat.le_of_ble_eq_true rfl) (Nat.le_of_ble_eq_true rfl) ?_
  exact rtV hx hb hr hlocks hS hP hD ⟨q0, rfl⟩ dX6_init_28

set_option maxHeartbeats 4000000 in
set_option maxRecDepth 100000 in
theorem c_X7_empty_0 (l : Launch) (D : va_G) (cI cZ cB cJ : ClassId) (h0 h1 g0 g1 g2 g3 g4 g5 g6 g7 : Nat) : CtV l D (TT cI cZ cB cJ) yX7_empty cX7_empty 1 none 1 23 0 0 [.ref h0] [(h0, .inr (7, [.ref g0, .ref g1, .ref g2, .ref g3, .ref g4, .ref g5, .ref h1, .ref g6, .ref g7, .int 0, .int 0, .int 0])), (h1, .inl (cI, 180, .inl (fun _ => 0)))] (fun w1 => w1 = [(h0, .inr (7, [.ref g0, .ref g1, .ref g2, .ref g3, .ref g4, .ref g5, .ref h1, .ref g6, .ref g7, .int 0, .int 0, .int 0])), (h1, .inl (cI, 180, .inl (fun _ => (-1))))]) := by
  refine CtV.of (by decide +kernel) (Nat.le_of_ble_eq_true rfl) ?_
  intro p e s m below meth c A ls hx hb hr hml hown hts hnw hlocks hin hA hS hP hK hD hl
  have hown : s.vm.findClass RX7 = some m.cls := hown
  have hl : lv_has ls 1 [(0, .ref h0)] := hl
  refine lv_aload_n hx hb dX7_empty_0 rfl (lv_at hl 0 rfl) ?_
  refine va_get (D := D) (ci := 7) (v := .ref h1) (C := RX7) (T := TX7) (N := 12) hx hb hts inX7 hown hK hP 0 rfl rfl 6 (by decide) (hts _ wm_92) (fun _ h9 => h9) rfl dX7_empty_1 ?_
  refine lv_iconst (v := (-1)) hx hb dX7_empty_4 (by decide +kernel) ?_
  refine kSv (As := [.ref h1, .int (-1)]) (rest := []) (wr := [(h0, .inr (7, [.ref g0, .ref g1, .ref g2, .ref g3, .ref g4, .ref g5, .ref h1, .ref g6, .ref g7, .int 0, .int 0, .int 0]))]) hx hb hml hown hts hnw hK hP hD hS hA hl.1 (c_fill l D cI cZ cB cJ h1 180 (fun _ => 0) (-1) (by decide)) yk_J7_fill_53178 wm_259 [1] [0] rfl rfl (by decide) (by decide) (by decide) rfl rfl dX7_empty_5 ⟨Nat.le_of_ble_eq_true rfl, Nat.le_of_ble_eq_true rfl⟩ ⟨Nat.le_of_ble_eq_true rfl, Nat.le_of_ble_eq_true rfl⟩ (Nat.le_of_ble_eq_true rfl) (fun w1 H locs hq9 hP hD hS => ?_)
  obtain rfl := hq9
  have hP : va_P D vwCl [(h0, .inr (7, [.ref g0, .ref g1, .ref g2, .ref g3, .ref g4, .ref g5, .ref h1, .ref g6, .ref g7, .int 0, .int 0, .int 0])), (h1, .inl (cI, 180, .inl (fun _ => (-1))))] H := hP
  have hD : va_D A [(h0, .inr (7, [.ref g0, .ref g1, .ref g2, .ref g3, .ref g4, .ref g5, .ref h1, .ref g6, .ref g7, .int 0, .int 0, .int 0])), (h1, .inl (cI, 180, .inl (fun _ => (-1))))] := hD
  refine W.widen (k := 0) (n := 0) (Nat.le_of_ble_eq_true rfl) (Nat.le_of_ble_eq_true rfl) ?_
  refine pcn (b := 8) rfl ?_
  refine lv_aload_n hx hb dX7_empty_8 rfl (lv_at hl 0 rfl) ?_
  refine lv_iconst (v := 0) hx hb dX7_empty_9 (by decide +kernel) ?_
  refine va_put (D := D) (ci := 7) (v := .int 0) (ty := .int) (C := RX7) (T := TX7) (N := 12) hx hb hts inX7 tyX7 tyX7_ok nmX7 hown hK hP hD hS 0 rfl rfl 9 (by decide) (hts _ wm_98) (fun _ h9 => h9) rfl (by decide +kernel) rfl rfl (Nat.le_of_ble_eq_true rfl) dX7_empty_10 (fun H locs hP hD hS => ?_)
  have hP : va_P D vwCl [(h0, .inr (7, [.ref g0, .ref g1, .ref g2, .ref g3, .ref g4, .ref g5, .ref h1, .ref g6, .ref g7, .int 0, .int 0, .int 0])), (h1, .inl (cI, 180, .inl (fun _ => (-1))))] H := hP
  have hD : va_D A [(h0, .inr (7, [.ref g0, .ref g1, .ref g2, .ref g3, .ref g4, .ref g5, .ref h1, .ref g6, .ref g7, .int 0, .int 0, .int 0])), (h1, .inl (cI, 180, .inl (fun _ => (-1))))] := hD
  refine lv_aload_n hx hb dX7_empty_13 rfl (lv_at hl 0 rfl) ?_
  refine lv_iconst (v := 0) hx hb dX7_empty_14 (by decide +kernel) ?_
  refine va_put (D := D) (ci := 7) (v := .int 0) (ty := .int) (C := RX7) (T := TX7) (N := 12) hx hb hts inX7 tyX7 tyX7_ok nmX7 hown hK hP hD hS 0 rfl rfl 10 (by decide) (hts _ wm_102) (fun _ h9 => h9) rfl (by decide +kernel) rfl rfl (Nat.le_of_ble_eq_true rfl) dX7_empty_15 (fun H locs hP hD hS => ?_)
  have hP : va_P D vwCl [(h0, .inr (7, [.ref g0, .ref g1, .ref g2, .ref g3, .ref g4, .ref g5, .ref h1, .ref g6, .ref g7, .int 0, .int 0, .int 0])), (h1, .inl (cI, 180, .inl (fun _ => (-1))))] H := hP
  have hD : va_D A [(h0, .inr (7, [.ref g0, .ref g1, .ref g2, .ref g3, .ref g4, .ref g5, .ref h1, .ref g6, .ref g7, .int 0, .int 0, .int 0])), (h1, .inl (cI, 180, .inl (fun _ => (-1))))] := hD
  refine lv_aload_n hx hb dX7_empty_18 rfl (lv_at hl 0 rfl) ?_
  refine pcn (b := 19) rfl ?_
  refine lv_iconst (v := 0) hx hb dX7_empty_19 (by decide +kernel) ?_
  refine va_put (D := D) (ci := 7) (v := .int 0) (ty := .int) (C := RX7) (T := TX7) (N := 12) hx hb hts inX7 tyX7 tyX7_ok nmX7 hown hK hP hD hS 0 rfl rfl 11 (by decide) (hts _ wm_103) (fun _ h9 => h9) rfl (by decide +kernel) rfl rfl (Nat.le_of_ble_eq_true rfl) dX7_empty_20 (fun H locs hP hD hS => ?_)
  have hP : va_P D vwCl [(h0, .inr (7, [.ref g0, .ref g1, .ref g2, .ref g3, .ref g4, .ref g5, .ref h1, .ref g6, .ref g7, .int 0, .int 0, .int 0])), (h1, .inl (cI, 180, .inl (fun _ => (-1))))] H := hP
  have hD : va_D A [(h0, .inr (7, [.ref g0, .ref g1, .ref g2, .ref g3, .ref g4, .ref g5, .ref h1, .ref g6, .ref g7, .int 0, .int 0, .int 0])), (h1, .inl (cI, 180, .inl (fun _ => (-1))))] := hD
  refine W.widen (k := 0) (n := 0) (Nat.le_of_ble_eq_true rfl) (Nat.le_of_ble_eq_true rfl) ?_
  exact rtV hx hb hr hlocks hS hP hD rfl dX7_empty_23

set_option maxHeartbeats 4000000 in
set_option maxRecDepth 100000 in
theorem c_X11_put_4 (l : Launch) (D : va_G) (cI cZ cB cJ : ClassId) (h0 : Nat) : CtV l D (TT cI cZ cB cJ) yX11_put cX11_put 3 none 0 0 0 0 [.ref h0, .int 0, .int 0] [(h0, .inl (cI, 60, .inl (fun _ => 0)))] (fun w1 => w1 = [(h0, .inl (cI, 60, .inl (fun _ => 0)))]) := by
  refine CtV.of (by decide +kernel) (Nat.le_of_ble_eq_true rfl) ?_
  intro p e s m below meth c A ls hx hb hr hml hown hts hnw hlocks hin hA hS hP hK hD hl
  have hown : s.vm.findClass RX11 = some m.cls := hown
  have hl : lv_has ls 3 [(0, .ref h0), (1, .int 0), (2, .int 0)] := hl
  refine lv_iload_n hx hb dX11_put_0 rfl (lv_at hl 1 rfl) ?_
  refine lv_if_lt (tgt := 14) hx hb dX11_put_1 (by decide) (fun h9 => absurd h9 (by decide +kernel)) (fun _ => ?_)
  refine lv_iload_n hx hb dX11_put_4 rfl (lv_at hl 1 rfl) ?_
  refine lv_aload_n hx hb dX11_put_5 rfl (lv_at hl 0 rfl) ?_
  refine va_alen (v := 60) hx hb hK hP 0 0 rfl rfl (by decide +kernel) dX11_put_6 ?_
  refine lv_icmp_ge (tgt := 14) hx hb dX11_put_7 (by decide) (fun h9 => absurd h9 (by decide +kernel)) (fun _ => ?_)
  refine lv_aload_n hx hb dX11_put_10 rfl (lv_at hl 0 rfl) ?_
  refine pcn (b := 11) rfl ?_
  refine lv_iload_n hx hb dX11_put_11 rfl (lv_at hl 1 rfl) ?_
  refine lv_iload_n hx hb dX11_put_12 rfl (lv_at hl 2 rfl) ?_
  refine as_i_s hx hb hK hP hD hS 0 0 rfl rfl (vpi (by decide +kernel)) (by first | decide +kernel | rfl) dX11_put_13 (fun H locs hP hD hS => ?_)
  have hP : va_P D vwCl [(h0, .inl (cI, 60, .inl (fun _ => 0)))] H := hP
  have hD : va_D A [(h0, .inl (cI, 60, .inl (fun _ => 0)))] := hD
  refine W.widen (k := 0) (n := 0) (Nat.le_of_ble_eq_true rfl) (Nat.le_of_ble_eq_true rfl) ?_
  exact rtV hx hb hr hlocks hS hP hD rfl dX11_put_14

set_option maxHeartbeats 4000000 in
set_option maxRecDepth 100000 in
theorem c_X11_put_5 (l : Launch) (D : va_G) (cI cZ cB cJ : ClassId) (h0 : Nat) : CtV l D (TT cI cZ cB cJ) yX11_put cX11_put 3 none 0 0 0 0 [.ref h0, .int 0, .int (-1)] [(h0, .inl (cI, 60, .inl (fun _ => 0)))] (fun w1 => w1 = [(h0, .inl (cI, 60, .inl (upd (fun _ => 0) 0 (-1))))]) := by
  refine CtV.of (by decide +kernel) (Nat.le_of_ble_eq_true rfl) ?_
  intro p e s m below meth c A ls hx hb hr hml hown hts hnw hlocks hin hA hS hP hK hD hl
  have hown : s.vm.findClass RX11 = some m.cls := hown
  have hl : lv_has ls 3 [(0, .ref h0), (1, .int 0), (2, .int (-1))] := hl
  refine lv_iload_n hx hb dX11_put_0 rfl (lv_at hl 1 rfl) ?_
  refine lv_if_lt (tgt := 14) hx hb dX11_put_1 (by decide) (fun h9 => absurd h9 (by decide +kernel)) (fun _ => ?_)
  refine lv_iload_n hx hb dX11_put_4 rfl (lv_at hl 1 rfl) ?_
  refine lv_aload_n hx hb dX11_put_5 rfl (lv_at hl 0 rfl) ?_
  refine va_alen (v := 60) hx hb hK hP 0 0 rfl rfl (by decide +kernel) dX11_put_6 ?_
  refine lv_icmp_ge (tgt := 14) hx hb dX11_put_7 (by decide) (fun h9 => absurd h9 (by decide +kernel)) (fun _ => ?_)
  refine lv_aload_n hx hb dX11_put_10 rfl (lv_at hl 0 rfl) ?_
  refine pcn (b := 11) rfl ?_
  refine lv_iload_n hx hb dX11_put_11 rfl (lv_at hl 1 rfl) ?_
  refine lv_iload_n hx hb dX11_put_12 rfl (lv_at hl 2 rfl) ?_
  refine as_i (k := 0) hx hb hK hP hD hS 0 0 rfl rfl (vpi (by decide +kernel)) (by decide +kernel) dX11_put_13 (fun H locs hP hD hS => ?_)
  have hP : va_P D vwCl [(h0, .inl (cI, 60, .inl (upd (fun _ => 0) 0 (-1))))] H := hP
  have hD : va_D A [(h0, .inl (cI, 60, .inl (upd (fun _ => 0) 0 (-1))))] := hD
  refine W.widen (k := 0) (n := 0) (Nat.le_of_ble_eq_true rfl) (Nat.le_of_ble_eq_true rfl) ?_
  exact rtV hx hb hr hlocks hS hP hD rfl dX11_put_14

set_option maxHeartbeats 4000000 in
set_option maxRecDepth 100000 in
theorem c_X7_add_0 (l : Launch) (D : va_G) (cI cZ cB cJ : ClassId) (h0 h1 h2 h3 h4 h5 g0 g1 g2 g3 : Nat) : CtI l D (TT cI cZ cB cJ) yX7_add cX7_add 6 (some .int) 1 22 0 0 [.ref h0, .int 0, .int (-1), .int 0, .int 0] [(h0, .inr (7, [.ref h1, .ref h2, .ref h3, .ref h4, .ref h5, .ref g0, .ref g1, .ref g2, .ref g3, .int 0, .int 0, .int 0])), (h1, .inl (cI, 60, .inl (fun _ => 0))), (h2, .inl (cI, 60, .inl (fun _ => 0))), (h3, .inl (cI, 60, .inl (fun _ => 0))), (h4, .inl (cI, 60, .inl (fun _ => 0))), (h5, .inl (cI, 60, .inl (fun _ => 0)))] (fun r w1 => r = 0 ∧ w1 = [(h0, .inr (7, [.ref h1, .ref h2, .ref h3, .ref h4, .ref h5, .ref g0, .ref g1, .ref g2, .ref g3, .int 1, .int 0, .int 0])), (h1, .inl (cI, 60, .inl (fun _ => 0))), (h2, .inl (cI, 60, .inl (upd (fun _ => 0) 0 (-1)))), (h3, .inl (cI, 60, .inl (fun _ => 0))), (h4, .inl (cI, 60, .inl (fun _ => 0))), (h5, .inl (cI, 60, .inl (fun _ => 0)))]) := by
  refine CtI.of (by decide +kernel) (Nat.le_of_ble_eq_true rfl) ?_
  intro p e s m below meth c A ls hx hb hr hml hown hts hnw hlocks hin hA hS hP hK hD hl
  have hown : s.vm.findClass RX7 = some m.cls := hown
  have hl : lv_has ls 6 [(0, .ref h0), (1, .int 0), (2, .int (-1)), (3, .int 0), (4, .int 0)] := hl
  refine lv_aload_n hx hb dX7_add_0 rfl (lv_at hl 0 rfl) ?_
  refine va_get (D := D) (ci := 7) (v := .int 0) (C := RX7) (T := TX7) (N := 12) hx hb hts inX7 hown hK hP 0 rfl rfl 9 (by decide) (hts _ wm_98) (fun _ h9 => h9) rfl dX7_add_1 ?_
  refine lv_istore (lv' := [(5, .int 0), (0, .ref h0), (1, .int 0), (2, .int (-1)), (3, .int 0), (4, .int 0)]) hx hb dX7_add_4 hl (by decide) rfl (fun ls hl => ?_)
  refine lv_aload_n hx hb dX7_add_6 rfl (lv_at hl 1 rfl) ?_
  refine va_get (D := D) (ci := 7) (v := .ref h1) (C := RX7) (T := TX7) (N := 12) hx hb hts inX7 hown hK hP 0 rfl rfl 0 (by decide) (hts _ wm_75) (fun _ h9 => h9) rfl dX7_add_7 ?_
  refine lv_iload hx hb dX7_add_10 (lv_at hl 0 rfl) ?_
  refine lv_iload_n hx hb dX7_add_12 rfl (lv_at hl 2 rfl) ?_
  refine pcn (b := 13) rfl ?_
  refine kSNv (As := [.ref h1, .int 0, .int 0]) (rest := []) (wr := [(h0, .inr (7, [.ref h1, .ref h2, .ref h3, .ref h4, .ref h5, .ref g0, .ref g1, .ref g2, .ref g3, .int 0, .int 0, .int 0])), (h2, .inl (cI, 60, .inl (fun _ => 0))), (h3, .inl (cI, 60, .inl (fun _ => 0))), (h4, .inl (cI, 60, .inl (fun _ => 0))), (h5, .inl (cI, 60, .inl (fun _ => 0)))]) hx hb hml hown hts hnw hK hP hD hS hA hl.1 (c_X11_put_4 l D cI cZ cB cJ h1) yk_X11_put wn_264 [1] [0, 2, 3, 4, 5] rfl rfl (by decide) (by decide) (by decide) rfl rfl dX7_add_13 ⟨Nat.le_of_ble_eq_true rfl, Nat.le_of_ble_eq_true rfl⟩ ⟨Nat.le_of_ble_eq_true rfl, Nat.le_of_ble_eq_true rfl⟩ (Nat.le_of_ble_eq_true rfl) (fun w1 H locs hq9 hP hD hS => ?_)
  obtain rfl := hq9
  have hP : va_P D vwCl [(h0, .inr (7, [.ref h1, .ref h2, .ref h3, .ref h4, .ref h5, .ref g0, .ref g1, .ref g2, .ref g3, .int 0, .int 0, .int 0])), (h2, .inl (cI, 60, .inl (fun _ => 0))), (h3, .inl (cI, 60, .inl (fun _ => 0))), (h4, .inl (cI, 60, .inl (fun _ => 0))), (h5, .inl (cI, 60, .inl (fun _ => 0))), (h1, .inl (cI, 60, .inl (fun _ => 0)))] H := hP
  have hD : va_D A [(h0, .inr (7, [.ref h1, .ref h2, .ref h3, .ref h4, .ref h5, .ref g0, .ref g1, .ref g2, .ref g3, .int 0, .int 0, .int 0])), (h2, .inl (cI, 60, .inl (fun _ => 0))), (h3, .inl (cI, 60, .inl (fun _ => 0))), (h4, .inl (cI, 60, .inl (fun _ => 0))), (h5, .inl (cI, 60, .inl (fun _ => 0))), (h1, .inl (cI, 60, .inl (fun _ => 0)))] := hD
  refine W.widen (k := 0) (n := 0) (Nat.le_of_ble_eq_true rfl) (Nat.le_of_ble_eq_true rfl) ?_
  refine pcn (b := 16) rfl ?_
  refine lv_aload_n hx hb dX7_add_16 rfl (lv_at hl 1 rfl) ?_
  refine va_get (D := D) (ci := 7) (v := .ref h2) (C := RX7) (T := TX7) (N := 12) hx hb hts inX7 hown hK hP 0 rfl rfl 1 (by decide) (hts _ wm_80) (fun _ h9 => h9) rfl dX7_add_17 ?_
  refine lv_iload hx hb dX7_add_20 (lv_at hl 0 rfl) ?_
  refine lv_iload_n hx hb dX7_add_22 rfl (lv_at hl 3 rfl) ?_
  refine kSNv (As := [.ref h2, .int 0, .int (-1)]) (rest := []) (wr := [(h0, .inr (7, [.ref h1, .ref h2, .ref h3, .ref h4, .ref h5, .ref g0, .ref g1, .ref g2, .ref g3, .int 0, .int 0, .int 0])), (h3, .inl (cI, 60, .inl (fun _ => 0))), (h4, .inl (cI, 60, .inl (fun _ => 0))), (h5, .inl (cI, 60, .inl (fun _ => 0))), (h1, .inl (cI, 60, .inl (fun _ => 0)))]) hx hb hml hown hts hnw hK hP hD hS hA hl.1 (c_X11_put_5 l D cI cZ cB cJ h2) yk_X11_put wn_264 [1] [0, 2, 3, 4, 5] rfl rfl (by decide) (by decide) (by decide) rfl rfl dX7_add_23 ⟨Nat.le_of_ble_eq_true rfl, Nat.le_of_ble_eq_true rfl⟩ ⟨Nat.le_of_ble_eq_true rfl, Nat.le_of_ble_eq_true rfl⟩ (Nat.le_of_ble_eq_true rfl) (fun w1 H locs hq9 hP hD hS => ?_)
  obtain rfl := hq9
  have hP : va_P D vwCl [(h0, .inr (7, [.ref h1, .ref h2, .ref h3, .ref h4, .ref h5, .ref g0, .ref g1, .ref g2, .ref g3, .int 0, .int 0, .int 0])), (h3, .inl (cI, 60, .inl (fun _ => 0))), (h4, .inl (cI, 60, .inl (fun _ => 0))), (h5, .inl (cI, 60, .inl (fun _ => 0))), (h1, .inl (cI, 60, .inl (fun _ => 0))), (h2, .inl (cI, 60, .inl (upd (fun _ => 0) 0 (-1))))] H := hP
  have hD : va_D A [(h0, .inr (7, [.ref h1, .ref h2, .ref h3, .ref h4, .ref h5, .ref g0, .ref g1, .ref g2, .ref g3, .int 0, .int 0, .int 0])), (h3, .inl (cI, 60, .inl (fun _ => 0))), (h4, .inl (cI, 60, .inl (fun _ => 0))), (h5, .inl (cI, 60, .inl (fun _ => 0))), (h1, .inl (cI, 60, .inl (fun _ => 0))), (h2, .inl (cI, 60, .inl (upd (fun _ => 0) 0 (-1))))] := hD
  refine W.widen (k := 0) (n := 0) (Nat.le_of_ble_eq_true rfl) (Nat.le_of_ble_eq_true rfl) ?_
  refine pcn (b := 26) rfl ?_
  refine lv_aload_n hx hb dX7_add_26 rfl (lv_at hl 1 rfl) ?_
  refine va_get (D := D) (ci := 7) (v := .ref h3) (C := RX7) (T := TX7) (N := 12) hx hb hts inX7 hown hK hP 0 rfl rfl 2 (by decide) (hts _ wm_82) (fun _ h9 => h9) rfl dX7_add_27 ?_
  refine lv_iload hx hb dX7_add_30 (lv_at hl 0 rfl) ?_
  refine lv_iload_n hx hb dX7_add_32 rfl (lv_at hl 4 rfl) ?_
  refine kSNv (As := [.ref h3, .int 0, .int 0]) (rest := []) (wr := [(h0, .inr (7, [.ref h1, .ref h2, .ref h3, .ref h4, .ref h5, .ref g0, .ref g1, .ref g2, .ref g3, .int 0, .int 0, .int 0])), (h4, .inl (cI, 60, .inl (fun _ => 0))), (h5, .inl (cI, 60, .inl (fun _ => 0))), (h1, .inl (cI, 60, .inl (fun _ => 0))), (h2, .inl (cI, 60, .inl (upd (fun _ => 0) 0 (-1))))]) hx hb hml hown hts hnw hK hP hD hS hA hl.1 (c_X11_put_4 l D cI cZ cB cJ h3) yk_X11_put wn_264 [1] [0, 2, 3, 4, 5] rfl rfl (by decide) (by decide) (by decide) rfl rfl dX7_add_33 ⟨Nat.le_of_ble_eq_true rfl, Nat.le_of_ble_eq_true rfl⟩ ⟨Nat.le_of_ble_eq_true rfl, Nat.le_of_ble_eq_true rfl⟩ (Nat.le_of_ble_eq_true rfl) (fun w1 H locs hq9 hP hD hS => ?_)
  obtain rfl := hq9
  have hP : va_P D vwCl [(h0, .inr (7, [.ref h1, .ref h2, .ref h3, .ref h4, .ref h5, .ref g0, .ref g1, .ref g2, .ref g3, .int 0, .int 0, .int 0])), (h4, .inl (cI, 60, .inl (fun _ => 0))), (h5, .inl (cI, 60, .inl (fun _ => 0))), (h1, .inl (cI, 60, .inl (fun _ => 0))), (h2, .inl (cI, 60, .inl (upd (fun _ => 0) 0 (-1)))), (h3, .inl (cI, 60, .inl (fun _ => 0)))] H := hP
  have hD : va_D A [(h0, .inr (7, [.ref h1, .ref h2, .ref h3, .ref h4, .ref h5, .ref g0, .ref g1, .ref g2, .ref g3, .int 0, .int 0, .int 0])), (h4, .inl (cI, 60, .inl (fun _ => 0))), (h5, .inl (cI, 60, .inl (fun _ => 0))), (h1, .inl (cI, 60, .inl (fun _ => 0))), (h2, .inl (cI, 60, .inl (upd (fun _ => 0) 0 (-1)))), (h3, .inl (cI, 60, .inl (fun _ => 0)))] := hD
  refine W.widen (k := 0) (n := 0) (Nat.le_of_ble_eq_true rfl) (Nat.le_of_ble_eq_true rfl) ?_
  refine pcn (b := 36) rfl ?_
  refine lv_aload_n hx hb dX7_add_36 rfl (lv_at hl 1 rfl) ?_
  refine va_get (D := D) (ci := 7) (v := .ref h4) (C := RX7) (T := TX7) (N := 12) hx hb hts inX7 hown hK hP 0 rfl rfl 3 (by decide) (hts _ wm_83) (fun _ h9 => h9) rfl dX7_add_37 ?_
  refine lv_iload hx hb dX7_add_40 (lv_at hl 0 rfl) ?_
  refine lv_iload hx hb dX7_add_42 (lv_at hl 5 rfl) ?_
  refine kSNv (As := [.ref h4, .int 0, .int 0]) (rest := []) (wr := [(h0, .inr (7, [.ref h1, .ref h2, .ref h3, .ref h4, .ref h5, .ref g0, .ref g1, .ref g2, .ref g3, .int 0, .int 0, .int 0])), (h5, .inl (cI, 60, .inl (fun _ => 0))), (h1, .inl (cI, 60, .inl (fun _ => 0))), (h2, .inl (cI, 60, .inl (upd (fun _ => 0) 0 (-1)))), (h3, .inl (cI, 60, .inl (fun _ => 0)))]) hx hb hml hown hts hnw hK hP hD hS hA hl.1 (c_X11_put_4 l D cI cZ cB cJ h4) yk_X11_put wn_264 [1] [0, 2, 3, 4, 5] rfl rfl (by decide) (by decide) (by decide) rfl rfl dX7_add_44 ⟨Nat.le_of_ble_eq_true rfl, Nat.le_of_ble_eq_true rfl⟩ ⟨Nat.le_of_ble_eq_true rfl, Nat.le_of_ble_eq_true rfl⟩ (Nat.le_of_ble_eq_true rfl) (fun w1 H locs hq9 hP hD hS => ?_)
  obtain rfl := hq9
  have hP : va_P D vwCl [(h0, .inr (7, [.ref h1, .ref h2, .ref h3, .ref h4, .ref h5, .ref g0, .ref g1, .ref g2, .ref g3, .int 0, .int 0, .int 0])), (h5, .inl (cI, 60, .inl (fun _ => 0))), (h1, .inl (cI, 60, .inl (fun _ => 0))), (h2, .inl (cI, 60, .inl (upd (fun _ => 0) 0 (-1)))), (h3, .inl (cI, 60, .inl (fun _ => 0))), (h4, .inl (cI, 60, .inl (fun _ => 0)))] H := hP
  have hD : va_D A [(h0, .inr (7, [.ref h1, .ref h2, .ref h3, .ref h4, .ref h5, .ref g0, .ref g1, .ref g2, .ref g3, .int 0, .int 0, .int 0])), (h5, .inl (cI, 60, .inl (fun _ => 0))), (h1, .inl (cI, 60, .inl (fun _ => 0))), (h2, .inl (cI, 60, .inl (upd (fun _ => 0) 0 (-1)))), (h3, .inl (cI, 60, .inl (fun _ => 0))), (h4, .inl (cI, 60, .inl (fun _ => 0)))] := hD
  refine W.widen (k := 0) (n := 0) (Nat.le_of_ble_eq_true rfl) (Nat.le_of_ble_eq_true rfl) ?_
  refine pcn (b := 47) rfl ?_
  refine lv_aload_n hx hb dX7_add_47 rfl (lv_at hl 1 rfl) ?_
  refine va_get (D := D) (ci := 7) (v := .ref h5) (C := RX7) (T := TX7) (N := 12) hx hb hts inX7 hown hK hP 0 rfl rfl 4 (by decide) (hts _ wm_87) (fun _ h9 => h9) rfl dX7_add_48 ?_
  refine lv_iload hx hb dX7_add_51 (lv_at hl 0 rfl) ?_
  refine lv_iconst (v := 0) hx hb dX7_add_53 (by decide +kernel) ?_
  refine kSNv (As := [.ref h5, .int 0, .int 0]) (rest := []) (wr := [(h0, .inr (7, [.ref h1, .ref h2, .ref h3, .ref h4, .ref h5, .ref g0, .ref g1, .ref g2, .ref g3, .int 0, .int 0, .int 0])), (h1, .inl (cI, 60, .inl (fun _ => 0))), (h2, .inl (cI, 60, .inl (upd (fun _ => 0) 0 (-1)))), (h3, .inl (cI, 60, .inl (fun _ => 0))), (h4, .inl (cI, 60, .inl (fun _ => 0)))]) hx hb hml hown hts hnw hK hP hD hS hA hl.1 (c_X11_put_4 l D cI cZ cB cJ h5) yk_X11_put wn_264 [1] [0, 2, 3, 4, 5] rfl rfl (by decide) (by decide) (by decide) rfl rfl dX7_add_54 ⟨Nat.le_of_ble_eq_true rfl, Nat.le_of_ble_eq_true rfl⟩ ⟨Nat.le_of_ble_eq_true rfl, Nat.le_of_ble_eq_true rfl⟩ (Nat.le_of_ble_eq_true rfl) (fun w1 H locs hq9 hP hD hS => ?_)
  obtain rfl := hq9
  have hP : va_P D vwCl [(h0, .inr (7, [.ref h1, .ref h2, .ref h3, .ref h4, .ref h5, .ref g0, .ref g1, .ref g2, .ref g3, .int 0, .int 0, .int 0])), (h1, .inl (cI, 60, .inl (fun _ => 0))), (h2, .inl (cI, 60, .inl (upd (fun _ => 0) 0 (-1)))), (h3, .inl (cI, 60, .inl (fun _ => 0))), (h4, .inl (cI, 60, .inl (fun _ => 0))), (h5, .inl (cI, 60, .inl (fun _ => 0)))] H := hP
  have hD : va_D A [(h0, .inr (7, [.ref h1, .ref h2, .ref h3, .ref h4, .ref h5, .ref g0, .ref g1, .ref g2, .ref g3, .int 0, .int 0, .int 0])), (h1, .inl (cI, 60, .inl (fun _ => 0))), (h2, .inl (cI, 60, .inl (upd (fun _ => 0) 0 (-1)))), (h3, .inl (cI, 60, .inl (fun _ => 0))), (h4, .inl (cI, 60, .inl (fun _ => 0))), (h5, .inl (cI, 60, .inl (fun _ => 0)))] := hD
  refine W.widen (k := 0) (n := 0) (Nat.le_of_ble_eq_true rfl) (Nat.le_of_ble_eq_true rfl) ?_
  refine pcn (b := 57) rfl ?_
  refine lv_iload_n hx hb dX7_add_57 rfl (lv_at hl 3 rfl) ?_
  refine lv_if_lt (tgt := 75) hx hb dX7_add_58 (by decide) (fun _ => ?_) (fun h9 => absurd (by decide +kernel) h9)
  refine lv_aload_n hx hb dX7_add_75 rfl (lv_at hl 1 rfl) ?_
  refine lv_dup hx hb dX7_add_76 rfl ?_
  refine va_get (D := D) (ci := 7) (v := .int 0) (C := RX7) (T := TX7) (N := 12) hx hb hts inX7 hown hK hP 0 rfl rfl 9 (by decide) (hts _ wm_98) (fun _ h9 => h9) rfl dX7_add_77 ?_
  refine lv_iconst (v := 1) hx hb dX7_add_80 (by decide +kernel) ?_
  refine lv_iadd hx hb dX7_add_81 ?_
  refine nrm (y := 1) (by decide +kernel) ?_
  refine va_put (D := D) (ci := 7) (v := .int 1) (ty := .int) (C := RX7) (T := TX7) (N := 12) hx hb hts inX7 tyX7 tyX7_ok nmX7 hown hK hP hD hS 0 rfl rfl 9 (by decide) (hts _ wm_98) (fun _ h9 => h9) rfl (by decide +kernel) rfl rfl (Nat.le_of_ble_eq_true rfl) dX7_add_82 (fun H locs hP hD hS => ?_)
  have hP : va_P D vwCl [(h0, .inr (7, [.ref h1, .ref h2, .ref h3, .ref h4, .ref h5, .ref g0, .ref g1, .ref g2, .ref g3, .int 1, .int 0, .int 0])), (h1, .inl (cI, 60, .inl (fun _ => 0))), (h2, .inl (cI, 60, .inl (upd (fun _ => 0) 0 (-1)))), (h3, .inl (cI, 60, .inl (fun _ => 0))), (h4, .inl (cI, 60, .inl (fun _ => 0))), (h5, .inl (cI, 60, .inl (fun _ => 0)))] H := hP
  have hD : va_D A [(h0, .inr (7, [.ref h1, .ref h2, .ref h3, .ref h4, .ref h5, .ref g0, .ref g1, .ref g2, .ref g3, .int 1, .int 0, .int 0])), (h1, .inl (cI, 60, .inl (fun _ => 0))), (h2, .inl (cI, 60, .inl (upd (fun _ => 0) 0 (-1)))), (h3, .inl (cI, 60, .inl (fun _ => 0))), (h4, .inl (cI, 60, .inl (fun _ => 0))), (h5, .inl (cI, 60, .inl (fun _ => 0)))] := hD
  refine lv_iload hx hb dX7_add_85 (lv_at hl 0 rfl) ?_
  refine W.widen (k := 0) (n := 0) (Nat.le_of_ble_eq_true rfl) (Nat.le_of_ble_eq_true rfl) ?_
  exact rtI hx hb hr hlocks hS hP hD ⟨rfl, rfl⟩ dX7_add_87

set_option maxHeartbeats 4000000 in
set_option maxRecDepth 100000 in
theorem c_X11_put_6 (l : Launch) (D : va_G) (cI cZ cB cJ : ClassId) (h0 : Nat) : CtV l D (TT cI cZ cB cJ) yX11_put cX11_put 3 none 0 0 0 0 [.ref h0, .int 0, .int 1] [(h0, .inl (cI, 60, .inl (fun _ => 0)))] (fun w1 => w1 = [(h0, .inl (cI, 60, .inl (upd (fun _ => 0) 0 1)))]) := by
  refine CtV.of (by decide +kernel) (Nat.le_of_ble_eq_true rfl) ?_
  intro p e s m below meth c A ls hx hb hr hml hown hts hnw hlocks hin hA hS hP hK hD hl
  have hown : s.vm.findClass RX11 = some m.cls := hown
  have hl : lv_has ls 3 [(0, .ref h0), (1, .int 0), (2, .int 1)] := hl
  refine lv_iload_n hx hb dX11_put_0 rfl (lv_at hl 1 rfl) ?_
  refine lv_if_lt (tgt := 14) hx hb dX11_put_1 (by decide) (fun h9 => absurd h9 (by decide +kernel)) (fun _ => ?_)
  refine lv_iload_n hx hb dX11_put_4 rfl (lv_at hl 1 rfl) ?_
  refine lv_aload_n hx hb dX11_put_5 rfl (lv_at hl 0 rfl) ?_
  refine va_alen (v := 60) hx hb hK hP 0 0 rfl rfl (by decide +kernel) dX11_put_6 ?_
  refine lv_icmp_ge (tgt := 14) hx hb dX11_put_7 (by decide) (fun h9 => absurd h9 (by decide +kernel)) (fun _ => ?_)
  refine lv_aload_n hx hb dX11_put_10 rfl (lv_at hl 0 rfl) ?_
  refine pcn (b := 11) rfl ?_
  refine lv_iload_n hx hb dX11_put_11 rfl (lv_at hl 1 rfl) ?_
  refine lv_iload_n hx hb dX11_put_12 rfl (lv_at hl 2 rfl) ?_
  refine as_i (k := 0) hx hb hK hP hD hS 0 0 rfl rfl (vpi (by decide +kernel)) (by decide +kernel) dX11_put_13 (fun H locs hP hD hS => ?_)
  have hP : va_P D vwCl [(h0, .inl (cI, 60, .inl (upd (fun _ => 0) 0 1)))] H := hP
  have hD : va_D A [(h0, .inl (cI, 60, .inl (upd (fun _ => 0) 0 1)))] := hD
  refine W.widen (k := 0) (n := 0) (Nat.le_of_ble_eq_true rfl) (Nat.le_of_ble_eq_true rfl) ?_
  exact rtV hx hb hr hlocks hS hP hD rfl dX11_put_14

set_option maxHeartbeats 4000000 in
set_option maxRecDepth 100000 in
theorem c_X7_end_0 (l : Launch) (D : va_G) (cI cZ cB cJ : ClassId) (h0 h1 h2 g0 g1 g2 g3 g4 g5 g6 : Nat) : CtV l D (TT cI cZ cB cJ) yX7_end cX7_end 2 none 1 22 0 0 [.ref h0, .int 0] [(h0, .inr (7, [.ref g0, .ref g1, .ref g2, .ref g3, .ref g4, .ref h1, .ref g5, .ref h2, .ref g6, .int 1, .int 0, .int 0])), (h1, .inl (cI, 60, .inl (fun _ => 0))), (h2, .inl (cI, 60, .inl (fun _ => 0)))] (fun w1 => w1 = [(h0, .inr (7, [.ref g0, .ref g1, .ref g2, .ref g3, .ref g4, .ref h1, .ref g5, .ref h2, .ref g6, .int 1, .int 1, .int 0])), (h1, .inl (cI, 60, .inl (upd (fun _ => 0) 0 1))), (h2, .inl (cI, 60, .inl (fun _ => 0)))]) := by
  refine CtV.of (by decide +kernel) (Nat.le_of_ble_eq_true rfl) ?_
  intro p e s m below meth c A ls hx hb hr hml hown hts hnw hlocks hin hA hS hP hK hD hl
  have hown : s.vm.findClass RX7 = some m.cls := hown
  have hl : lv_has ls 2 [(0, .ref h0), (1, .int 0)] := hl
  refine lv_aload_n hx hb dX7_end_0 rfl (lv_at hl 0 rfl) ?_
  refine va_get (D := D) (ci := 7) (v := .ref h1) (C := RX7) (T := TX7) (N := 12) hx hb hts inX7 hown hK hP 0 rfl rfl 5 (by decide) (hts _ wm_90) (fun _ h9 => h9) rfl dX7_end_1 ?_
  refine lv_iload_n hx hb dX7_end_4 rfl (lv_at hl 1 rfl) ?_
  refine lv_aload_n hx hb dX7_end_5 rfl (lv_at hl 0 rfl) ?_
  refine va_get (D := D) (ci := 7) (v := .int 1) (C := RX7) (T := TX7) (N := 12) hx hb hts inX7 hown hK hP 0 rfl rfl 9 (by decide) (hts _ wm_98) (fun _ h9 => h9) rfl dX7_end_6 ?_
  refine lv_iload_n hx hb dX7_end_9 rfl (lv_at hl 1 rfl) ?_
  refine lv_isub hx hb dX7_end_10 ?_
  refine nrm (y := 1) (by decide +kernel) ?_
  refine pcn (b := 11) rfl ?_
  refine kSNv (As := [.ref h1, .int 0, .int 1]) (rest := []) (wr := [(h0, .inr (7, [.ref g0, .ref g1, .ref g2, .ref g3, .ref g4, .ref h1, .ref g5, .ref h2, .ref g6, .int 1, .int 0, .int 0])), (h2, .inl (cI, 60, .inl (fun _ => 0)))]) hx hb hml hown hts hnw hK hP hD hS hA hl.1 (c_X11_put_6 l D cI cZ cB cJ h1) yk_X11_put wn_264 [1] [0, 2] rfl rfl (by decide) (by decide) (by decide) rfl rfl dX7_end_11 ⟨Nat.le_of_ble_eq_true rfl, Nat.le_of_ble_eq_true rfl⟩ ⟨Nat.le_of_ble_eq_true rfl, Nat.le_of_ble_eq_true rfl⟩ (Nat.le_of_ble_eq_true rfl) (fun w1 H locs hq9 hP hD hS => ?_)
  obtain rfl := hq9
  have hP : va_P D vwCl [(h0, .inr (7, [.ref g0, .ref g1, .ref g2, .ref g3, .ref g4, .ref h1, .ref g5, .ref h2, .ref g6, .int 1, .int 0, .int 0])), (h2, .inl (cI, 60, .inl (fun _ => 0))), (h1, .inl (cI, 60, .inl (upd (fun _ => 0) 0 1)))] H := hP
  have hD : va_D A [(h0, .inr (7, [.ref g0, .ref g1, .ref g2, .ref g3, .ref g4, .ref h1, .ref g5, .ref h2, .ref g6, .int 1, .int 0, .int 0])), (h2, .inl (cI, 60, .inl (fun _ => 0))), (h1, .inl (cI, 60, .inl (upd (fun _ => 0) 0 1)))] := hD
  refine W.widen (k := 0) (n := 0) (Nat.le_of_ble_eq_true rfl) (Nat.le_of_ble_eq_true rfl) ?_
  refine pcn (b := 14) rfl ?_
  refine lv_aload_n hx hb dX7_end_14 rfl (lv_at hl 0 rfl) ?_
  refine va_get (D := D) (ci := 7) (v := .ref h2) (C := RX7) (T := TX7) (N := 12) hx hb hts inX7 hown hK hP 0 rfl rfl 7 (by decide) (hts _ wm_93) (fun _ h9 => h9) rfl dX7_end_15 ?_
  refine lv_aload_n hx hb dX7_end_18 rfl (lv_at hl 0 rfl) ?_
  refine va_get (D := D) (ci := 7) (v := .int 0) (C := RX7) (T := TX7) (N := 12) hx hb hts inX7 hown hK hP 0 rfl rfl 10 (by decide) (hts _ wm_102) (fun _ h9 => h9) rfl dX7_end_19 ?_
  refine lv_iload_n hx hb dX7_end_22 rfl (lv_at hl 1 rfl) ?_
  refine kSNv (As := [.ref h2, .int 0, .int 0]) (rest := []) (wr := [(h0, .inr (7, [.ref g0, .ref g1, .ref g2, .ref g3, .ref g4, .ref h1, .ref g5, .ref h2, .ref g6, .int 1, .int 0, .int 0])), (h1, .inl (cI, 60, .inl (upd (fun _ => 0) 0 1)))]) hx hb hml hown hts hnw hK hP hD hS hA hl.1 (c_X11_put_4 l D cI cZ cB cJ h2) yk_X11_put wn_264 [1] [0, 2] rfl rfl (by decide) (by decide) (by decide) rfl rfl dX7_end_23 ⟨Nat.le_of_ble_eq_true rfl, Nat.le_of_ble_eq_true rfl⟩ ⟨Nat.le_of_ble_eq_true rfl, Nat.le_of_ble_eq_true rfl⟩ (Nat.le_of_ble_eq_true rfl) (fun w1 H locs hq9 hP hD hS => ?_)
  obtain rfl := hq9
  have hP : va_P D vwCl [(h0, .inr (7, [.ref g0, .ref g1, .ref g2, .ref g3, .ref g4, .ref h1, .ref g5, .ref h2, .ref g6, .int 1, .int 0, .int 0])), (h1, .inl (cI, 60, .inl (upd (fun _ => 0) 0 1))), (h2, .inl (cI, 60, .inl (fun _ => 0)))] H := hP
  have hD : va_D A [(h0, .inr (7, [.ref g0, .ref g1, .ref g2, .ref g3, .ref g4, .ref h1, .ref g5, .ref h2, .ref g6, .int 1, .int 0, .int 0])), (h1, .inl (cI, 60, .inl (upd (fun _ => 0) 0 1))), (h2, .inl (cI, 60, .inl (fun _ => 0)))] := hD
  refine W.widen (k := 0) (n := 0) (Nat.le_of_ble_eq_true rfl) (Nat.le_of_ble_eq_true rfl) ?_
  refine pcn (b := 26) rfl ?_
  refine lv_aload_n hx hb dX7_end_26 rfl (lv_at hl 0 rfl) ?_
  refine lv_dup hx hb dX7_end_27 rfl ?_
  refine va_get (D := D) (ci := 7) (v := .int 0) (C := RX7) (T := TX7) (N := 12) hx hb hts inX7 hown hK hP 0 rfl rfl 10 (by decide) (hts _ wm_102) (fun _ h9 => h9) rfl dX7_end_28 ?_
  refine lv_iconst (v := 1) hx hb dX7_end_31 (by decide +kernel) ?_
  refine lv_iadd hx hb dX7_end_32 ?_
  refine nrm (y := 1) (by decide +kernel) ?_
  refine va_put (D := D) (ci := 7) (v := .int 1) (ty := .int) (C := RX7) (T := TX7) (N := 12) hx hb hts inX7 tyX7 tyX7_ok nmX7 hown hK hP hD hS 0 rfl rfl 10 (by decide) (hts _ wm_102) (fun _ h9 => h9) rfl (by decide +kernel) rfl rfl (Nat.le_of_ble_eq_true rfl) dX7_end_33 (fun H locs hP hD hS => ?_)
  have hP : va_P D vwCl [(h0, .inr (7, [.ref g0, .ref g1, .ref g2, .ref g3, .ref g4, .ref h1, .ref g5, .ref h2, .ref g6, .int 1, .int 1, .int 0])), (h1, .inl (cI, 60, .inl (upd (fun _ => 0) 0 1))), (h2, .inl (cI, 60, .inl (fun _ => 0)))] H := hP
  have hD : va_D A [(h0, .inr (7, [.ref g0, .ref g1, .ref g2, .ref g3, .ref g4, .ref h1, .ref g5, .ref h2, .ref g6, .int 1, .int 1, .int 0])), (h1, .inl (cI, 60, .inl (upd (fun _ => 0) 0 1))), (h2, .inl (cI, 60, .inl (fun _ => 0)))] := hD
  refine W.widen (k := 0) (n := 0) (Nat.le_of_ble_eq_true rfl) (Nat.le_of_ble_eq_true rfl) ?_
  exact rtV hx hb hr hlocks hS hP hD rfl dX7_end_36

set_option maxHeartbeats 4000000 in
set_option maxRecDepth 100000 in
theorem c_X1_asTold_0 (l : Launch) (D : va_G) (cI cZ cB cJ : ClassId) (h0 h1 h2 g0 g1 g2 g3 g4 g5 g6 g7 : Nat) : CtV l D (TT cI cZ cB cJ) yX1_asTold cX1_asTold 1 none 0 0 0 0 [.ref h0] [(h0, .inr (1, [.ref g0, .ref h1, .ref g1, .ref g2, .ref g3, .ref g4, .ref g5, .int 0, .int 0, .int 0, .int 0, .int 0])), (h1, .inr (9, [.ref g6, .ref h2])), (h2, .inr (6, [.ref g7, .int 4]))] (fun w1 => w1 = [(h0, .inr (1, [.ref g0, .ref h1, .ref g1, .ref g2, .ref g3, .ref g4, .ref g5, .int 4, .int 0, .int 0, .int (-1), .int 0])), (h1, .inr (9, [.ref g6, .ref h2])), (h2, .inr (6, [.ref g7, .int 4]))]) := by
  refine CtV.of (by decide +kernel) (Nat.le_of_ble_eq_true rfl) ?_
  intro p e s m below meth c A ls hx hb hr hml hown hts hnw hlocks hin hA hS hP hK hD hl
  have hown : s.vm.findClass RX1 = some m.cls := hown
  have hl : lv_has ls 1 [(0, .ref h0)] := hl
  refine lv_aload_n hx hb dX1_asTold_0 rfl (lv_at hl 0 rfl) ?_
  refine lv_aload_n hx hb dX1_asTold_1 rfl (lv_at hl 0 rfl) ?_
  refine va_get (D := D) (ci := 1) (v := .ref h1) (C := RX1) (T := TX1) (N := 12) hx hb hts inX1 hown hK hP 0 rfl rfl 1 (by decide) (hts _ wm_279) (fun _ h9 => h9) rfl dX1_asTold_2 ?_
  refine va_getN (D := D) (ci := 9) (v := .ref h2) (C := RX9) (T := TX9) (N := 2) hx hb hts inX9 hown hK hP 1 rfl rfl 1 (by decide) (va_Nw.use rfl (hnw _ wn_226)) (fun _ h9 => h9) rfl dX1_asTold_5 ?_
  refine va_getN (D := D) (ci := 6) (v := .int 4) (C := RX6) (T := TX6) (N := 2) hx hb hts inX6 hown hK hP 2 rfl rfl 1 (by decide) (va_Nw.use rfl (hnw _ wn_158)) (fun _ h9 => h9) rfl dX1_asTold_8 ?_
  refine va_put (D := D) (ci := 1) (v := .int 4) (ty := .int) (C := RX1) (T := TX1) (N := 12) hx hb hts inX1 tyX1 tyX1_ok nmX1 hown hK hP hD hS 0 rfl rfl 7 (by decide) (hts _ wm_294) (fun _ h9 => h9) rfl (by decide +kernel) rfl rfl (Nat.le_of_ble_eq_true rfl) dX1_asTold_11 (fun H locs hP hD hS => ?_)
  have hP : va_P D vwCl [(h0, .inr (1, [.ref g0, .ref h1, .ref g1, .ref g2, .ref g3, .ref g4, .ref g5, .int 4, .int 0, .int 0, .int 0, .int 0])), (h1, .inr (9, [.ref g6, .ref h2])), (h2, .inr (6, [.ref g7, .int 4]))] H := hP
  have hD : va_D A [(h0, .inr (1, [.ref g0, .ref h1, .ref g1, .ref g2, .ref g3, .ref g4, .ref g5, .int 4, .int 0, .int 0, .int 0, .int 0])), (h1, .inr (9, [.ref g6, .ref h2])), (h2, .inr (6, [.ref g7, .int 4]))] := hD
  refine lv_aload_n hx hb dX1_asTold_14 rfl (lv_at hl 0 rfl) ?_
  refine pcn (b := 15) rfl ?_
  refine lv_iconst (v := 0) hx hb dX1_asTold_15 (by decide +kernel) ?_
  refine va_put (D := D) (ci := 1) (v := .int 0) (ty := .int) (C := RX1) (T := TX1) (N := 12) hx hb hts inX1 tyX1 tyX1_ok nmX1 hown hK hP hD hS 0 rfl rfl 9 (by decide) (hts _ wm_297) (fun _ h9 => h9) rfl (by decide +kernel) rfl rfl (Nat.le_of_ble_eq_true rfl) dX1_asTold_16 (fun H locs hP hD hS => ?_)
  have hP : va_P D vwCl [(h0, .inr (1, [.ref g0, .ref h1, .ref g1, .ref g2, .ref g3, .ref g4, .ref g5, .int 4, .int 0, .int 0, .int 0, .int 0])), (h1, .inr (9, [.ref g6, .ref h2])), (h2, .inr (6, [.ref g7, .int 4]))] H := hP
  have hD : va_D A [(h0, .inr (1, [.ref g0, .ref h1, .ref g1, .ref g2, .ref g3, .ref g4, .ref g5, .int 4, .int 0, .int 0, .int 0, .int 0])), (h1, .inr (9, [.ref g6, .ref h2])), (h2, .inr (6, [.ref g7, .int 4]))] := hD
  refine lv_aload_n hx hb dX1_asTold_19 rfl (lv_at hl 0 rfl) ?_
  refine lv_iconst (v := (-1)) hx hb dX1_asTold_20 (by decide +kernel) ?_
  refine va_put (D := D) (ci := 1) (v := .int (-1)) (ty := .int) (C := RX1) (T := TX1) (N := 12) hx hb hts inX1 tyX1 tyX1_ok nmX1 hown hK hP hD hS 0 rfl rfl 10 (by decide) (hts _ wm_299) (fun _ h9 => h9) rfl (by decide +kernel) rfl rfl (Nat.le_of_ble_eq_true rfl) dX1_asTold_21 (fun H locs hP hD hS => ?_)
  have hP : va_P D vwCl [(h0, .inr (1, [.ref g0, .ref h1, .ref g1, .ref g2, .ref g3, .ref g4, .ref g5, .int 4, .int 0, .int 0, .int (-1), .int 0])), (h1, .inr (9, [.ref g6, .ref h2])), (h2, .inr (6, [.ref g7, .int 4]))] H := hP
  have hD : va_D A [(h0, .inr (1, [.ref g0, .ref h1, .ref g1, .ref g2, .ref g3, .ref g4, .ref g5, .int 4, .int 0, .int 0, .int (-1), .int 0])), (h1, .inr (9, [.ref g6, .ref h2])), (h2, .inr (6, [.ref g7, .int 4]))] := hD
  refine lv_aload_n hx hb dX1_asTold_24 rfl (lv_at hl 0 rfl) ?_
  refine lv_iconst (v := 0) hx hb dX1_asTold_25 (by decide +kernel) ?_
  refine va_put (D := D) (ci := 1) (v := .int 0) (ty := .int) (C := RX1) (T := TX1) (N := 12) hx hb hts inX1 tyX1 tyX1_ok nmX1 hown hK hP hD hS 0 rfl rfl 11 (by decide) (hts _ wm_300) (fun _ h9 => h9) rfl (by decide +kernel) rfl rfl (Nat.le_of_ble_eq_true rfl) dX1_asTold_26 (fun H locs hP hD hS => ?_)
  have hP : va_P D vwCl [(h0, .inr (1, [.ref g0, .ref h1, .ref g1, .ref g2, .ref g3, .ref g4, .ref g5, .int 4, .int 0, .int 0, .int (-1), .int 0])), (h1, .inr (9, [.ref g6, .ref h2])), (h2, .inr (6, [.ref g7, .int 4]))] H := hP
  have hD : va_D A [(h0, .inr (1, [.ref g0, .ref h1, .ref g1, .ref g2, .ref g3, .ref g4, .ref g5, .int 4, .int 0, .int 0, .int (-1), .int 0])), (h1, .inr (9, [.ref g6, .ref h2])), (h2, .inr (6, [.ref g7, .int 4]))] := hD
  refine W.widen (k := 0) (n := 0) (Nat.le_of_ble_eq_true rfl) (Nat.le_of_ble_eq_true rfl) ?_
  exact rtV hx hb hr hlocks hS hP hD rfl dX1_asTold_29

set_option maxHeartbeats 4000000 in
set_option maxRecDepth 100000 in
theorem c_X1_init_0 (l : Launch) (D : va_G) (cI cZ cB cJ : ClassId) (h0 : Nat) : CtV l D (TT cI cZ cB cJ) yX1_init cX1_init 1 none 4 82 25 1330 [.ref h0] [(h0, .inr (1, [.null, .null, .null, .null, .null, .null, .null, .int 0, .int 0, .int 0, .int 0, .int 0]))] (fun w1 => ∃ (q0 q1 q2 q3 q4 q5 q6 q7 q8 q9 q10 q11 q12 q13 q14 q15 q16 q17 q18 q19 q20 q21 q22 q23 q24 : Nat), w1 = [(h0, .inr (1, [.ref q0, .ref q10, .ref q15, .ref q20, .ref q22, .ref q23, .ref q24, .int 4, .int 0, .int 0, .int (-1), .int 0])), (q0, .inr (7, [.ref q1, .ref q2, .ref q3, .ref q4, .ref q5, .ref q6, .ref q7, .ref q8, .ref q9, .int 1, .int 1, .int 0])), (q1, .inl (cI, 60, .inl (fun _ => 0))), (q2, .inl (cI, 60, .inl (upd (fun _ => 0) 0 (-1)))), (q4, .inl (cI, 60, .inl (fun _ => 0))), (q6, .inl (cI, 60, .inl (upd (fun _ => 0) 0 1))), (q7, .inl (cI, 180, .inl (fun _ => (-1)))), (q8, .inl (cI, 60, .inl (fun _ => 0))), (q10, .inr (9, [.ref q11, .ref q12])), (q11, .inr (4, [.ref q12, .ref q14])), (q12, .inr (6, [.ref q13, .int 4])), (q13, .inl (cI, 144, .inl (upd (upd (upd (upd (upd (upd (upd (upd (upd (upd (upd (upd (upd (upd (upd (upd (upd (upd (upd (upd (upd (fun _ => 0) 1 (-1)) 2 (-1)) 3 1) 4 1) 5 (-1)) 6 1) 7 (-1)) 8 (-1)) 9 1) 10 1) 11 (-1)) 12 2) 13 (-1)) 14 (-1)) 15 1) 16 1) 17 (-1)) 18 4) 21 3) 22 2) 23 (-1)))), (q15, .inr (2, [.ref q16, .ref q17])), (q16, .inr (4, [.ref q17, .ref q19])), (q17, .inr (6, [.ref q18, .int 3])), (q20, .inr (6, [.ref q21, .int 0])), (q22, .inl (cI, 60, .inl (fun _ => 0))), (q23, .inl (cI, 60, .inl (fun _ => 0))), (q24, .inl (cZ, 60, .inl (fun _ => 0)))]) := by
  refine CtV.of (by decide +kernel) (Nat.le_of_ble_eq_true rfl) ?_
  intro p e s m below meth c A ls hx hb hr hml hown hts hnw hlocks hin hA hS hP hK hD hl
  have hown : s.vm.findClass RX1 = some m.cls := hown
  have hl : lv_has ls 1 [(0, .ref h0)] := hl
  have hin : meth.name = "<init>" := hin
  refine lv_aload_n hx hb dX1_init_0 rfl (lv_at hl 0 rfl) ?_
  refine W.objInit hx hb hown (hts _ wm_68) (hts _ wm_27) (hts _ wm_28) rfl (by rw [hml]; exact hl.1) rfl dX1_init_1 (Nat.le_of_ble_eq_true rfl) (Nat.le_of_ble_eq_true rfl) ?_
  refine W.eq (g2 := F0 m 4 ls []) rfl ?_
  refine lv_aload_n hx hb dX1_init_4 rfl (lv_at hl 0 rfl) ?_
  refine va_new (ci := 7) (fs := [.null, .null, .null, .null, .null, .null, .null, .null, .null, .int 0, .int 0, .int 0]) (C := RX7) (T := TX7) (N := 12) hx hb hts inX7 tyX7 tyX7_ok hown (hts _ wm_69) (hts _ wm_70) (hts _ wm_4) hK hP hD hS hA rfl df_X7 (Nat.le_of_ble_eq_true rfl) (Nat.le_of_ble_eq_true rfl) dX1_init_5 (fun q0 H hP hD hS => ?_)
  have hP : va_P D vwCl [(h0, .inr (1, [.null, .null, .null, .null, .null, .null, .null, .int 0, .int 0, .int 0, .int 0, .int 0])), (q0, .inr (7, [.null, .null, .null, .null, .null, .null, .null, .null, .null, .int 0, .int 0, .int 0]))] H := hP
  have hD : va_D A [(h0, .inr (1, [.null, .null, .null, .null, .null, .null, .null, .int 0, .int 0, .int 0, .int 0, .int 0])), (q0, .inr (7, [.null, .null, .null, .null, .null, .null, .null, .null, .null, .int 0, .int 0, .int 0]))] := hD
  refine W.widen (k := 1) (n := 12) (Nat.le_of_ble_eq_true rfl) (Nat.le_of_ble_eq_true rfl) ?_
  refine lv_dup hx hb dX1_init_8 rfl ?_
  refine kINv (As := []) (rest := [.ref q0, .ref h0]) (wr := [(h0, .inr (1, [.null, .null, .null, .null, .null, .null, .null, .int 0, .int 0, .int 0, .int 0, .int 0]))]) hx hb hml hown hts hnw hK hP hD hS hA hl.1 (c_X7_init_0 l D cI cZ cB cJ q0) yk_X7_init wn_71 [1] [0] rfl rfl (by decide) (by decide) (by decide) rfl rfl dX1_init_9 ⟨Nat.le_of_ble_eq_true rfl, Nat.le_of_ble_eq_true rfl⟩ ⟨Nat.le_of_ble_eq_true rfl, Nat.le_of_ble_eq_true rfl⟩ (Nat.le_of_ble_eq_true rfl) (fun w1 H locs hq9 hP hD hS => ?_)
  obtain ⟨q1, q2, q3, q4, q5, q6, q7, q8, q9, rfl⟩ := hq9
  have hP : va_P D vwCl [(h0, .inr (1, [.null, .null, .null, .null, .null, .null, .null, .int 0, .int 0, .int 0, .int 0, .int 0])), (q0, .inr (7, [.ref q1, .ref q2, .ref q3, .ref q4, .ref q5, .ref q6, .ref q7, .ref q8, .ref q9, .int 0, .int 0, .int 0])), (q1, .inl (cI, 60, .inl (fun _ => 0))), (q2, .inl (cI, 60, .inl (fun _ => 0))), (q3, .inl (cI, 60, .inl (fun _ => 0))), (q4, .inl (cI, 60, .inl (fun _ => 0))), (q5, .inl (cI, 60, .inl (fun _ => 0))), (q6, .inl (cI, 60, .inl (fun _ => 0))), (q7, .inl (cI, 180, .inl (fun _ => 0))), (q8, .inl (cI, 60, .inl (fun _ => 0)))] H := hP
  have hD : va_D A [(h0, .inr (1, [.null, .null, .null, .null, .null, .null, .null, .int 0, .int 0, .int 0, .int 0, .int 0])), (q0, .inr (7, [.ref q1, .ref q2, .ref q3, .ref q4, .ref q5, .ref q6, .ref q7, .ref q8, .ref q9, .int 0, .int 0, .int 0])), (q1, .inl (cI, 60, .inl (fun _ => 0))), (q2, .inl (cI, 60, .inl (fun _ => 0))), (q3, .inl (cI, 60, .inl (fun _ => 0))), (q4, .inl (cI, 60, .inl (fun _ => 0))), (q5, .inl (cI, 60, .inl (fun _ => 0))), (q6, .inl (cI, 60, .inl (fun _ => 0))), (q7, .inl (cI, 180, .inl (fun _ => 0))), (q8, .inl (cI, 60, .inl (fun _ => 0)))] := hD
  refine W.widen (k := 10) (n := 624) (Nat.le_of_ble_eq_true rfl) (Nat.le_of_ble_eq_true rfl) ?_
  refine pcn (b := 12) rfl ?_
  refine va_putF (D := D) (ci := 1) (v := .ref q0) (ty := (.object "GradualCheck$Term")) (C := RX1) (T := TX1) (N := 12) hx hb hts inX1 tyX1 tyX1_ok nmX1 hown hK hP hD hS 0 rfl rfl 0 (by decide) (hts _ wm_274) (fun _ h9 => h9) rfl hin rfl (by decide +kernel) rfl rfl (Nat.le_of_ble_eq_true rfl) dX1_init_12 (fun H locs hP hD hS => ?_)
  have hP : va_P D vwCl [(h0, .inr (1, [.ref q0, .null, .null, .null, .null, .null, .null, .int 0, .int 0, .int 0, .int 0, .int 0])), (q0, .inr (7, [.ref q1, .ref q2, .ref q3, .ref q4, .ref q5, .ref q6, .ref q7, .ref q8, .ref q9, .int 0, .int 0, .int 0])), (q1, .inl (cI, 60, .inl (fun _ => 0))), (q2, .inl (cI, 60, .inl (fun _ => 0))), (q3, .inl (cI, 60, .inl (fun _ => 0))), (q4, .inl (cI, 60, .inl (fun _ => 0))), (q5, .inl (cI, 60, .inl (fun _ => 0))), (q6, .inl (cI, 60, .inl (fun _ => 0))), (q7, .inl (cI, 180, .inl (fun _ => 0))), (q8, .inl (cI, 60, .inl (fun _ => 0)))] H := hP
  have hD : va_D A [(h0, .inr (1, [.ref q0, .null, .null, .null, .null, .null, .null, .int 0, .int 0, .int 0, .int 0, .int 0])), (q0, .inr (7, [.ref q1, .ref q2, .ref q3, .ref q4, .ref q5, .ref q6, .ref q7, .ref q8, .ref q9, .int 0, .int 0, .int 0])), (q1, .inl (cI, 60, .inl (fun _ => 0))), (q2, .inl (cI, 60, .inl (fun _ => 0))), (q3, .inl (cI, 60, .inl (fun _ => 0))), (q4, .inl (cI, 60, .inl (fun _ => 0))), (q5, .inl (cI, 60, .inl (fun _ => 0))), (q6, .inl (cI, 60, .inl (fun _ => 0))), (q7, .inl (cI, 180, .inl (fun _ => 0))), (q8, .inl (cI, 60, .inl (fun _ => 0)))] := hD
  refine lv_aload_n hx hb dX1_init_15 rfl (lv_at hl 0 rfl) ?_
  refine va_new (ci := 9) (fs := [.null, .null]) (C := RX9) (T := TX9) (N := 2) hx hb hts inX9 tyX9 tyX9_ok hown (hts _ wm_131) (hts _ wm_132) (hts _ wm_5) hK hP hD hS hA rfl df_X9 (Nat.le_of_ble_eq_true rfl) (Nat.le_of_ble_eq_true rfl) dX1_init_16 (fun q10 H hP hD hS => ?_)
  have hP : va_P D vwCl [(h0, .inr (1, [.ref q0, .null, .null, .null, .null, .null, .null, .int 0, .int 0, .int 0, .int 0, .int 0])), (q0, .inr (7, [.ref q1, .ref q2, .ref q3, .ref q4, .ref q5, .ref q6, .ref q7, .ref q8, .ref q9, .int 0, .int 0, .int 0])), (q1, .inl (cI, 60, .inl (fun _ => 0))), (q2, .inl (cI, 60, .inl (fun _ => 0))), (q3, .inl (cI, 60, .inl (fun _ => 0))), (q4, .inl (cI, 60, .inl (fun _ => 0))), (q5, .inl (cI, 60, .inl (fun _ => 0))), (q6, .inl (cI, 60, .inl (fun _ => 0))), (q7, .inl (cI, 180, .inl (fun _ => 0))), (q8, .inl (cI, 60, .inl (fun _ => 0))), (q10, .inr (9, [.null, .null]))] H := hP
  have hD : va_D A [(h0, .inr (1, [.ref q0, .null, .null, .null, .null, .null, .null, .int 0, .int 0, .int 0, .int 0, .int 0])), (q0, .inr (7, [.ref q1, .ref q2, .ref q3, .ref q4, .ref q5, .ref q6, .ref q7, .ref q8, .ref q9, .int 0, .int 0, .int 0])), (q1, .inl (cI, 60, .inl (fun _ => 0))), (q2, .inl (cI, 60, .inl (fun _ => 0))), (q3, .inl (cI, 60, .inl (fun _ => 0))), (q4, .inl (cI, 60, .inl (fun _ => 0))), (q5, .inl (cI, 60, .inl (fun _ => 0))), (q6, .inl (cI, 60, .inl (fun _ => 0))), (q7, .inl (cI, 180, .inl (fun _ => 0))), (q8, .inl (cI, 60, .inl (fun _ => 0))), (q10, .inr (9, [.null, .null]))] := hD
  refine W.widen (k := 11) (n := 626) (Nat.le_of_ble_eq_true rfl) (Nat.le_of_ble_eq_true rfl) ?_
  refine lv_dup hx hb dX1_init_19 rfl ?_
  refine kINv (As := []) (rest := [.ref q10, .ref h0]) (wr := [(h0, .inr (1, [.ref q0, .null, .null, .null, .null, .null, .null, .int 0, .int 0, .int 0, .int 0, .int 0])), (q0, .inr (7, [.ref q1, .ref q2, .ref q3, .ref q4, .ref q5, .ref q6, .ref q7, .ref q8, .ref q9, .int 0, .int 0, .int 0])), (q1, .inl (cI, 60, .inl (fun _ => 0))), (q2, .inl (cI, 60, .inl (fun _ => 0))), (q3, .inl (cI, 60, .inl (fun _ => 0))), (q4, .inl (cI, 60, .inl (fun _ => 0))), (q5, .inl (cI, 60, .inl (fun _ => 0))), (q6, .inl (cI, 60, .inl (fun _ => 0))), (q7, .inl (cI, 180, .inl (fun _ => 0))), (q8, .inl (cI, 60, .inl (fun _ => 0)))]) hx hb hml hown hts hnw hK hP hD hS hA hl.1 (c_X9_init_0 l D cI cZ cB cJ q10) yk_X9_init wn_133 [10] [0, 1, 2, 3, 4, 5, 6, 7, 8, 9] rfl rfl (by decide) (by decide) (by decide) rfl rfl dX1_init_20 ⟨Nat.le_of_ble_eq_true rfl, Nat.le_of_ble_eq_true rfl⟩ ⟨Nat.le_of_ble_eq_true rfl, Nat.le_of_ble_eq_true rfl⟩ (Nat.le_of_ble_eq_true rfl) (fun w1 H locs hq9 hP hD hS => ?_)
  obtain ⟨q11, q12, q13, q14, rfl⟩ := hq9
  have hP : va_P D vwCl [(h0, .inr (1, [.ref q0, .null, .null, .null, .null, .null, .null, .int 0, .int 0, .int 0, .int 0, .int 0])), (q0, .inr (7, [.ref q1, .ref q2, .ref q3, .ref q4, .ref q5, .ref q6, .ref q7, .ref q8, .ref q9, .int 0, .int 0, .int 0])), (q1, .inl (cI, 60, .inl (fun _ => 0))), (q2, .inl (cI, 60, .inl (fun _ => 0))), (q3, .inl (cI, 60, .inl (fun _ => 0))), (q4, .inl (cI, 60, .inl (fun _ => 0))), (q5, .inl (cI, 60, .inl (fun _ => 0))), (q6, .inl (cI, 60, .inl (fun _ => 0))), (q7, .inl (cI, 180, .inl (fun _ => 0))), (q8, .inl (cI, 60, .inl (fun _ => 0))), (q10, .inr (9, [.ref q11, .ref q12])), (q11, .inr (4, [.ref q12, .ref q14])), (q12, .inr (6, [.ref q13, .int 4])), (q13, .inl (cI, 144, .inl (upd (upd (upd (upd (upd (upd (upd (upd (upd (upd (upd (upd (upd (upd (upd (upd (upd (upd (upd (upd (upd (fun _ => 0) 1 (-1)) 2 (-1)) 3 1) 4 1) 5 (-1)) 6 1) 7 (-1)) 8 (-1)) 9 1) 10 1) 11 (-1)) 12 2) 13 (-1)) 14 (-1)) 15 1) 16 1) 17 (-1)) 18 4) 21 3) 22 2) 23 (-1))))] H := hP
  have hD : va_D A [(h0, .inr (1, [.ref q0, .null, .null, .null, .null, .null, .null, .int 0, .int 0, .int 0, .int 0, .int 0])), (q0, .inr (7, [.ref q1, .ref q2, .ref q3, .ref q4, .ref q5, .ref q6, .ref q7, .ref q8, .ref q9, .int 0, .int 0, .int 0])), (q1, .inl (cI, 60, .inl (fun _ => 0))), (q2, .inl (cI, 60, .inl (fun _ => 0))), (q3, .inl (cI, 60, .inl (fun _ => 0))), (q4, .inl (cI, 60, .inl (fun _ => 0))), (q5, .inl (cI, 60, .inl (fun _ => 0))), (q6, .inl (cI, 60, .inl (fun _ => 0))), (q7, .inl (cI, 180, .inl (fun _ => 0))), (q8, .inl (cI, 60, .inl (fun _ => 0))), (q10, .inr (9, [.ref q11, .ref q12])), (q11, .inr (4, [.ref q12, .ref q14])), (q12, .inr (6, [.ref q13, .int 4])), (q13, .inl (cI, 144, .inl (upd (upd (upd (upd (upd (upd (upd (upd (upd (upd (upd (upd (upd (upd (upd (upd (upd (upd (upd (upd (upd (fun _ => 0) 1 (-1)) 2 (-1)) 3 1) 4 1) 5 (-1)) 6 1) 7 (-1)) 8 (-1)) 9 1) 10 1) 11 (-1)) 12 2) 13 (-1)) 14 (-1)) 15 1) 16 1) 17 (-1)) 18 4) 21 3) 22 2) 23 (-1))))] := hD
  refine W.widen (k := 15) (n := 838) (Nat.le_of_ble_eq_true rfl) (Nat.le_of_ble_eq_true rfl) ?_
  refine pcn (b := 23) rfl ?_
  refine va_putF (D := D) (ci := 1) (v := .ref q10) (ty := (.object "GradualCheck$Types")) (C := RX1) (T := TX1) (N := 12) hx hb hts inX1 tyX1 tyX1_ok nmX1 hown hK hP hD hS 0 rfl rfl 1 (by decide) (hts _ wm_279) (fun _ h9 => h9) rfl hin rfl (by decide +kernel) rfl rfl (Nat.le_of_ble_eq_true rfl) dX1_init_23 (fun H locs hP hD hS => ?_)
  have hP : va_P D vwCl [(h0, .inr (1, [.ref q0, .ref q10, .null, .null, .null, .null, .null, .int 0, .int 0, .int 0, .int 0, .int 0])), (q0, .inr (7, [.ref q1, .ref q2, .ref q3, .ref q4, .ref q5, .ref q6, .ref q7, .ref q8, .ref q9, .int 0, .int 0, .int 0])), (q1, .inl (cI, 60, .inl (fun _ => 0))), (q2, .inl (cI, 60, .inl (fun _ => 0))), (q3, .inl (cI, 60, .inl (fun _ => 0))), (q4, .inl (cI, 60, .inl (fun _ => 0))), (q5, .inl (cI, 60, .inl (fun _ => 0))), (q6, .inl (cI, 60, .inl (fun _ => 0))), (q7, .inl (cI, 180, .inl (fun _ => 0))), (q8, .inl (cI, 60, .inl (fun _ => 0))), (q10, .inr (9, [.ref q11, .ref q12])), (q11, .inr (4, [.ref q12, .ref q14])), (q12, .inr (6, [.ref q13, .int 4])), (q13, .inl (cI, 144, .inl (upd (upd (upd (upd (upd (upd (upd (upd (upd (upd (upd (upd (upd (upd (upd (upd (upd (upd (upd (upd (upd (fun _ => 0) 1 (-1)) 2 (-1)) 3 1) 4 1) 5 (-1)) 6 1) 7 (-1)) 8 (-1)) 9 1) 10 1) 11 (-1)) 12 2) 13 (-1)) 14 (-1)) 15 1) 16 1) 17 (-1)) 18 4) 21 3) 22 2) 23 (-1))))] H := hP
  have hD : va_D A [(h0, .inr (1, [.ref q0, .ref q10, .null, .null, .null, .null, .null, .int 0, .int 0, .int 0, .int 0, .int 0])), (q0, .inr (7, [.ref q1, .ref q2, .ref q3, .ref q4, .ref q5, .ref q6, .ref q7, .ref q8, .ref q9, .int 0, .int 0, .int 0])), (q1, .inl (cI, 60, .inl (fun _ => 0))), (q2, .inl (cI, 60, .inl (fun _ => 0))), (q3, .inl (cI, 60, .inl (fun _ => 0))), (q4, .inl (cI, 60, .inl (fun _ => 0))), (q5, .inl (cI, 60, .inl (fun _ => 0))), (q6, .inl (cI, 60, .inl (fun _ => 0))), (q7, .inl (cI, 180, .inl (fun _ => 0))), (q8, .inl (cI, 60, .inl (fun _ => 0))), (q10, .inr (9, [.ref q11, .ref q12])), (q11, .inr (4, [.ref q12, .ref q14])), (q12, .inr (6, [.ref q13, .int 4])), (q13, .inl (cI, 144, .inl (upd (upd (upd (upd (upd (upd (upd (upd (upd (upd (upd (upd (upd (upd (upd (upd (upd (upd (upd (upd (upd (fun _ => 0) 1 (-1)) 2 (-1)) 3 1) 4 1) 5 (-1)) 6 1) 7 (-1)) 8 (-1)) 9 1) 10 1) 11 (-1)) 12 2) 13 (-1)) 14 (-1)) 15 1) 16 1) 17 (-1)) 18 4) 21 3) 22 2) 23 (-1))))] := hD
  refine lv_aload_n hx hb dX1_init_26 rfl (lv_at hl 0 rfl) ?_
  refine va_new (ci := 2) (fs := [.null, .null]) (C := RX2) (T := TX2) (N := 2) hx hb hts inX2 tyX2 tyX2_ok hown (hts _ wm_233) (hts _ wm_234) (hts _ wm_11) hK hP hD hS hA rfl df_X2 (Nat.le_of_ble_eq_true rfl) (Nat.le_of_ble_eq_true rfl) dX1_init_27 (fun q15 H hP hD hS => ?_)
  have hP : va_P D vwCl [(h0, .inr (1, [.ref q0, .ref q10, .null, .null, .null, .null, .null, .int 0, .int 0, .int 0, .int 0, .int 0])), (q0, .inr (7, [.ref q1, .ref q2, .ref q3, .ref q4, .ref q5, .ref q6, .ref q7, .ref q8, .ref q9, .int 0, .int 0, .int 0])), (q1, .inl (cI, 60, .inl (fun _ => 0))), (q2, .inl (cI, 60, .inl (fun _ => 0))), (q3, .inl (cI, 60, .inl (fun _ => 0))), (q4, .inl (cI, 60, .inl (fun _ => 0))), (q5, .inl (cI, 60, .inl (fun _ => 0))), (q6, .inl (cI, 60, .inl (fun _ => 0))), (q7, .inl (cI, 180, .inl (fun _ => 0))), (q8, .inl (cI, 60, .inl (fun _ => 0))), (q10, .inr (9, [.ref q11, .ref q12])), (q11, .inr (4, [.ref q12, .ref q14])), (q12, .inr (6, [.ref q13, .int 4])), (q13, .inl (cI, 144, .inl (upd (upd (upd (upd (upd (upd (upd (upd (upd (upd (upd (upd (upd (upd (upd (upd (upd (upd (upd (upd (upd (fun _ => 0) 1 (-1)) 2 (-1)) 3 1) 4 1) 5 (-1)) 6 1) 7 (-1)) 8 (-1)) 9 1) 10 1) 11 (-1)) 12 2) 13 (-1)) 14 (-1)) 15 1) 16 1) 17 (-1)) 18 4) 21 3) 22 2) 23 (-1)))), (q15, .inr (2, [.null, .null]))] H := hP
  have hD : va_D A [(h0, .inr (1, [.ref q0, .ref q10, .null, .null, .null, .null, .null, .int 0, .int 0, .int 0, .int 0, .int 0])), (q0, .inr (7, [.ref q1, .ref q2, .ref q3, .ref q4, .ref q5, .ref q6, .ref q7, .ref q8, .ref q9, .int 0, .int 0, .int 0])), (q1, .inl (cI, 60, .inl (fun _ => 0))), (q2, .inl (cI, 60, .inl (fun _ => 0))), (q3, .inl (cI, 60, .inl (fun _ => 0))), (q4, .inl (cI, 60, .inl (fun _ => 0))), (q5, .inl (cI, 60, .inl (fun _ => 0))), (q6, .inl (cI, 60, .inl (fun _ => 0))), (q7, .inl (cI, 180, .inl (fun _ => 0))), (q8, .inl (cI, 60, .inl (fun _ => 0))), (q10, .inr (9, [.ref q11, .ref q12])), (q11, .inr (4, [.ref q12, .ref q14])), (q12, .inr (6, [.ref q13, .int 4])), (q13, .inl (cI, 144, .inl (upd (upd (upd (upd (upd (upd (upd (upd (upd (upd (upd (upd (upd (upd (upd (upd (upd (upd (upd (upd (upd (fun _ => 0) 1 (-1)) 2 (-1)) 3 1) 4 1) 5 (-1)) 6 1) 7 (-1)) 8 (-1)) 9 1) 10 1) 11 (-1)) 12 2) 13 (-1)) 14 (-1)) 15 1) 16 1) 17 (-1)) 18 4) 21 3) 22 2) 23 (-1)))), (q15, .inr (2, [.null, .null]))] := hD
  refine W.widen (k := 16) (n := 840) (Nat.le_of_ble_eq_true rfl) (Nat.le_of_ble_eq_true rfl) ?_
  refine lv_dup hx hb dX1_init_30 rfl ?_
  refine kINv (As := []) (rest := [.ref q15, .ref h0]) (wr := [(h0, .inr (1, [.ref q0, .ref q10, .null, .null, .null, .null, .null, .int 0, .int 0, .int 0, .int 0, .int 0])), (q0, .inr (7, [.ref q1, .ref q2, .ref q3, .ref q4, .ref q5, .ref q6, .ref q7, .ref q8, .ref q9, .int 0, .int 0, .int 0])), (q1, .inl (cI, 60, .inl (fun _ => 0))), (q2, .inl (cI, 60, .inl (fun _ => 0))), (q3, .inl (cI, 60, .inl (fun _ => 0))), (q4, .inl (cI, 60, .inl (fun _ => 0))), (q5, .inl (cI, 60, .inl (fun _ => 0))), (q6, .inl (cI, 60, .inl (fun _ => 0))), (q7, .inl (cI, 180, .inl (fun _ => 0))), (q8, .inl (cI, 60, .inl (fun _ => 0))), (q10, .inr (9, [.ref q11, .ref q12])), (q11, .inr (4, [.ref q12, .ref q14])), (q12, .inr (6, [.ref q13, .int 4])), (q13, .inl (cI, 144, .inl (upd (upd (upd (upd (upd (upd (upd (upd (upd (upd (upd (upd (upd (upd (upd (upd (upd (upd (upd (upd (upd (fun _ => 0) 1 (-1)) 2 (-1)) 3 1) 4 1) 5 (-1)) 6 1) 7 (-1)) 8 (-1)) 9 1) 10 1) 11 (-1)) 12 2) 13 (-1)) 14 (-1)) 15 1) 16 1) 17 (-1)) 18 4) 21 3) 22 2) 23 (-1))))]) hx hb hml hown hts hnw hK hP hD hS hA hl.1 (c_X2_init_0 l D cI cZ cB cJ q15) yk_X2_init wn_235 [14] [0, 1, 2, 3, 4, 5, 6, 7, 8, 9, 10, 11, 12, 13] rfl rfl (by decide) (by decide) (by decide) rfl rfl dX1_init_31 ⟨Nat.le_of_ble_eq_true rfl, Nat.le_of_ble_eq_true rfl⟩ ⟨Nat.le_of_ble_eq_true rfl, Nat.le_of_ble_eq_true rfl⟩ (Nat.le_of_ble_eq_true rfl) (fun w1 H locs hq9 hP hD hS => ?_)
  obtain ⟨q16, q17, q18, q19, rfl⟩ := hq9
  have hP : va_P D vwCl [(h0, .inr (1, [.ref q0, .ref q10, .null, .null, .null, .null, .null, .int 0, .int 0, .int 0, .int 0, .int 0])), (q0, .inr (7, [.ref q1, .ref q2, .ref q3, .ref q4, .ref q5, .ref q6, .ref q7, .ref q8, .ref q9, .int 0, .int 0, .int 0])), (q1, .inl (cI, 60, .inl (fun _ => 0))), (q2, .inl (cI, 60, .inl (fun _ => 0))), (q3, .inl (cI, 60, .inl (fun _ => 0))), (q4, .inl (cI, 60, .inl (fun _ => 0))), (q5, .inl (cI, 60, .inl (fun _ => 0))), (q6, .inl (cI, 60, .inl (fun _ => 0))), (q7, .inl (cI, 180, .inl (fun _ => 0))), (q8, .inl (cI, 60, .inl (fun _ => 0))), (q10, .inr (9, [.ref q11, .ref q12])), (q11, .inr (4, [.ref q12, .ref q14])), (q12, .inr (6, [.ref q13, .int 4])), (q13, .inl (cI, 144, .inl (upd (upd (upd (upd (upd (upd (upd (upd (upd (upd (upd (upd (upd (upd (upd (upd (upd (upd (upd (upd (upd (fun _ => 0) 1 (-1)) 2 (-1)) 3 1) 4 1) 5 (-1)) 6 1) 7 (-1)) 8 (-1)) 9 1) 10 1) 11 (-1)) 12 2) 13 (-1)) 14 (-1)) 15 1) 16 1) 17 (-1)) 18 4) 21 3) 22 2) 23 (-1)))), (q15, .inr (2, [.ref q16, .ref q17])), (q16, .inr (4, [.ref q17, .ref q19])), (q17, .inr (6, [.ref q18, .int 3]))] H := hP
  have hD : va_D A [(h0, .inr (1, [.ref q0, .ref q10, .null, .null, .null, .null, .null, .int 0, .int 0, .int 0, .int 0, .int 0])), (q0, .inr (7, [.ref q1, .ref q2, .ref q3, .ref q4, .ref q5, .ref q6, .ref q7, .ref q8, .ref q9, .int 0, .int 0, .int 0])), (q1, .inl (cI, 60, .inl (fun _ => 0))), (q2, .inl (cI, 60, .inl (fun _ => 0))), (q3, .inl (cI, 60, .inl (fun _ => 0))), (q4, .inl (cI, 60, .inl (fun _ => 0))), (q5, .inl (cI, 60, .inl (fun _ => 0))), (q6, .inl (cI, 60, .inl (fun _ => 0))), (q7, .inl (cI, 180, .inl (fun _ => 0))), (q8, .inl (cI, 60, .inl (fun _ => 0))), (q10, .inr (9, [.ref q11, .ref q12])), (q11, .inr (4, [.ref q12, .ref q14])), (q12, .inr (6, [.ref q13, .int 4])), (q13, .inl (cI, 144, .inl (upd (upd (upd (upd (upd (upd (upd (upd (upd (upd (upd (upd (upd (upd (upd (upd (upd (upd (upd (upd (upd (fun _ => 0) 1 (-1)) 2 (-1)) 3 1) 4 1) 5 (-1)) 6 1) 7 (-1)) 8 (-1)) 9 1) 10 1) 11 (-1)) 12 2) 13 (-1)) 14 (-1)) 15 1) 16 1) 17 (-1)) 18 4) 21 3) 22 2) 23 (-1)))), (q15, .inr (2, [.ref q16, .ref q17])), (q16, .inr (4, [.ref q17, .ref q19])), (q17, .inr (6, [.ref q18, .int 3]))] := hD
  refine W.widen (k := 20) (n := 1052) (Nat.le_of_ble_eq_true rfl) (Nat.le_of_ble_eq_true rfl) ?_
  refine pcn (b := 34) rfl ?_
  refine va_putF (D := D) (ci := 1) (v := .ref q15) (ty := (.object "GradualCheck$Coercions")) (C := RX1) (T := TX1) (N := 12) hx hb hts inX1 tyX1 tyX1_ok nmX1 hown hK hP hD hS 0 rfl rfl 2 (by decide) (hts _ wm_282) (fun _ h9 => h9) rfl hin rfl (by decide +kernel) rfl rfl (Nat.le_of_ble_eq_true rfl) dX1_init_34 (fun H locs hP hD hS => ?_)
  have hP : va_P D vwCl [(h0, .inr (1, [.ref q0, .ref q10, .ref q15, .null, .null, .null, .null, .int 0, .int 0, .int 0, .int 0, .int 0])), (q0, .inr (7, [.ref q1, .ref q2, .ref q3, .ref q4, .ref q5, .ref q6, .ref q7, .ref q8, .ref q9, .int 0, .int 0, .int 0])), (q1, .inl (cI, 60, .inl (fun _ => 0))), (q2, .inl (cI, 60, .inl (fun _ => 0))), (q3, .inl (cI, 60, .inl (fun _ => 0))), (q4, .inl (cI, 60, .inl (fun _ => 0))), (q5, .inl (cI, 60, .inl (fun _ => 0))), (q6, .inl (cI, 60, .inl (fun _ => 0))), (q7, .inl (cI, 180, .inl (fun _ => 0))), (q8, .inl (cI, 60, .inl (fun _ => 0))), (q10, .inr (9, [.ref q11, .ref q12])), (q11, .inr (4, [.ref q12, .ref q14])), (q12, .inr (6, [.ref q13, .int 4])), (q13, .inl (cI, 144, .inl (upd (upd (upd (upd (upd (upd (upd (upd (upd (upd (upd (upd (upd (upd (upd (upd (upd (upd (upd (upd (upd (fun _ => 0) 1 (-1)) 2 (-1)) 3 1) 4 1) 5 (-1)) 6 1) 7 (-1)) 8 (-1)) 9 1) 10 1) 11 (-1)) 12 2) 13 (-1)) 14 (-1)) 15 1) 16 1) 17 (-1)) 18 4) 21 3) 22 2) 23 (-1)))), (q15, .inr (2, [.ref q16, .ref q17])), (q16, .inr (4, [.ref q17, .ref q19])), (q17, .inr (6, [.ref q18, .int 3]))] H := hP
  have hD : va_D A [(h0, .inr (1, [.ref q0, .ref q10, .ref q15, .null, .null, .null, .null, .int 0, .int 0, .int 0, .int 0, .int 0])), (q0, .inr (7, [.ref q1, .ref q2, .ref q3, .ref q4, .ref q5, .ref q6, .ref q7, .ref q8, .ref q9, .int 0, .int 0, .int 0])), (q1, .inl (cI, 60, .inl (fun _ => 0))), (q2, .inl (cI, 60, .inl (fun _ => 0))), (q3, .inl (cI, 60, .inl (fun _ => 0))), (q4, .inl (cI, 60, .inl (fun _ => 0))), (q5, .inl (cI, 60, .inl (fun _ => 0))), (q6, .inl (cI, 60, .inl (fun _ => 0))), (q7, .inl (cI, 180, .inl (fun _ => 0))), (q8, .inl (cI, 60, .inl (fun _ => 0))), (q10, .inr (9, [.ref q11, .ref q12])), (q11, .inr (4, [.ref q12, .ref q14])), (q12, .inr (6, [.ref q13, .int 4])), (q13, .inl (cI, 144, .inl (upd (upd (upd (upd (upd (upd (upd (upd (upd (upd (upd (upd (upd (upd (upd (upd (upd (upd (upd (upd (upd (fun _ => 0) 1 (-1)) 2 (-1)) 3 1) 4 1) 5 (-1)) 6 1) 7 (-1)) 8 (-1)) 9 1) 10 1) 11 (-1)) 12 2) 13 (-1)) 14 (-1)) 15 1) 16 1) 17 (-1)) 18 4) 21 3) 22 2) 23 (-1)))), (q15, .inr (2, [.ref q16, .ref q17])), (q16, .inr (4, [.ref q17, .ref q19])), (q17, .inr (6, [.ref q18, .int 3]))] := hD
  refine lv_aload_n hx hb dX1_init_37 rfl (lv_at hl 0 rfl) ?_
  refine va_new (ci := 6) (fs := [.null, .int 0]) (C := RX6) (T := TX6) (N := 2) hx hb hts inX6 tyX6 tyX6_ok hown (hts _ wm_253) (hts _ wm_144) (hts _ wm_7) hK hP hD hS hA rfl df_X6 (Nat.le_of_ble_eq_true rfl) (Nat.le_of_ble_eq_true rfl) dX1_init_38 (fun q20 H hP hD hS => ?_)
  have hP : va_P D vwCl [(h0, .inr (1, [.ref q0, .ref q10, .ref q15, .null, .null, .null, .null, .int 0, .int 0, .int 0, .int 0, .int 0])), (q0, .inr (7, [.ref q1, .ref q2, .ref q3, .ref q4, .ref q5, .ref q6, .ref q7, .ref q8, .ref q9, .int 0, .int 0, .int 0])), (q1, .inl (cI, 60, .inl (fun _ => 0))), (q2, .inl (cI, 60, .inl (fun _ => 0))), (q3, .inl (cI, 60, .inl (fun _ => 0))), (q4, .inl (cI, 60, .inl (fun _ => 0))), (q5, .inl (cI, 60, .inl (fun _ => 0))), (q6, .inl (cI, 60, .inl (fun _ => 0))), (q7, .inl (cI, 180, .inl (fun _ => 0))), (q8, .inl (cI, 60, .inl (fun _ => 0))), (q10, .inr (9, [.ref q11, .ref q12])), (q11, .inr (4, [.ref q12, .ref q14])), (q12, .inr (6, [.ref q13, .int 4])), (q13, .inl (cI, 144, .inl (upd (upd (upd (upd (upd (upd (upd (upd (upd (upd (upd (upd (upd (upd (upd (upd (upd (upd (upd (upd (upd (fun _ => 0) 1 (-1)) 2 (-1)) 3 1) 4 1) 5 (-1)) 6 1) 7 (-1)) 8 (-1)) 9 1) 10 1) 11 (-1)) 12 2) 13 (-1)) 14 (-1)) 15 1) 16 1) 17 (-1)) 18 4) 21 3) 22 2) 23 (-1)))), (q15, .inr (2, [.ref q16, .ref q17])), (q16, .inr (4, [.ref q17, .ref q19])), (q17, .inr (6, [.ref q18, .int 3])), (q20, .inr (6, [.null, .int 0]))] H := hP
  have hD : va_D A [(h0, .inr (1, [.ref q0, .ref q10, .ref q15, .null, .null, .null, .null, .int 0, .int 0, .int 0, .int 0, .int 0])), (q0, .inr (7, [.ref q1, .ref q2, .ref q3, .ref q4, .ref q5, .ref q6, .ref q7, .ref q8, .ref q9, .int 0, .int 0, .int 0])), (q1, .inl (cI, 60, .inl (fun _ => 0))), (q2, .inl (cI, 60, .inl (fun _ => 0))), (q3, .inl (cI, 60, .inl (fun _ => 0))), (q4, .inl (cI, 60, .inl (fun _ => 0))), (q5, .inl (cI, 60, .inl (fun _ => 0))), (q6, .inl (cI, 60, .inl (fun _ => 0))), (q7, .inl (cI, 180, .inl (fun _ => 0))), (q8, .inl (cI, 60, .inl (fun _ => 0))), (q10, .inr (9, [.ref q11, .ref q12])), (q11, .inr (4, [.ref q12, .ref q14])), (q12, .inr (6, [.ref q13, .int 4])), (q13, .inl (cI, 144, .inl (upd (upd (upd (upd (upd (upd (upd (upd (upd (upd (upd (upd (upd (upd (upd (upd (upd (upd (upd (upd (upd (fun _ => 0) 1 (-1)) 2 (-1)) 3 1) 4 1) 5 (-1)) 6 1) 7 (-1)) 8 (-1)) 9 1) 10 1) 11 (-1)) 12 2) 13 (-1)) 14 (-1)) 15 1) 16 1) 17 (-1)) 18 4) 21 3) 22 2) 23 (-1)))), (q15, .inr (2, [.ref q16, .ref q17])), (q16, .inr (4, [.ref q17, .ref q19])), (q17, .inr (6, [.ref q18, .int 3])), (q20, .inr (6, [.null, .int 0]))] := hD
  refine W.widen (k := 21) (n := 1054) (Nat.le_of_ble_eq_true rfl) (Nat.le_of_ble_eq_true rfl) ?_
  refine lv_dup hx hb dX1_init_41 rfl ?_
  refine lv_bipush (v := 16) hx hb dX1_init_42 (by decide +kernel) ?_
  refine kINv (As := [.int 16]) (rest := [.ref q20, .ref h0]) (wr := [(h0, .inr (1, [.ref q0, .ref q10, .ref q15, .null, .null, .null, .null, .int 0, .int 0, .int 0, .int 0, .int 0])), (q0, .inr (7, [.ref q1, .ref q2, .ref q3, .ref q4, .ref q5, .ref q6, .ref q7, .ref q8, .ref q9, .int 0, .int 0, .int 0])), (q1, .inl (cI, 60, .inl (fun _ => 0))), (q2, .inl (cI, 60, .inl (fun _ => 0))), (q3, .inl (cI, 60, .inl (fun _ => 0))), (q4, .inl (cI, 60, .inl (fun _ => 0))), (q5, .inl (cI, 60, .inl (fun _ => 0))), (q6, .inl (cI, 60, .inl (fun _ => 0))), (q7, .inl (cI, 180, .inl (fun _ => 0))), (q8, .inl (cI, 60, .inl (fun _ => 0))), (q10, .inr (9, [.ref q11, .ref q12])), (q11, .inr (4, [.ref q12, .ref q14])), (q12, .inr (6, [.ref q13, .int 4])), (q13, .inl (cI, 144, .inl (upd (upd (upd (upd (upd (upd (upd (upd (upd (upd (upd (upd (upd (upd (upd (upd (upd (upd (upd (upd (upd (fun _ => 0) 1 (-1)) 2 (-1)) 3 1) 4 1) 5 (-1)) 6 1) 7 (-1)) 8 (-1)) 9 1) 10 1) 11 (-1)) 12 2) 13 (-1)) 14 (-1)) 15 1) 16 1) 17 (-1)) 18 4) 21 3) 22 2) 23 (-1)))), (q15, .inr (2, [.ref q16, .ref q17])), (q16, .inr (4, [.ref q17, .ref q19])), (q17, .inr (6, [.ref q18, .int 3]))]) hx hb hml hown hts hnw hK hP hD hS hA hl.1 (c_X6_init_1 l D cI cZ cB cJ q20) yk_X6_init wn_254 [17] [0, 1, 2, 3, 4, 5, 6, 7, 8, 9, 10, 11, 12, 13, 14, 15, 16] rfl rfl (by decide) (by decide) (by decide) rfl rfl dX1_init_44 ⟨Nat.le_of_ble_eq_true rfl, Nat.le_of_ble_eq_true rfl⟩ ⟨Nat.le_of_ble_eq_true rfl, Nat.le_of_ble_eq_true rfl⟩ (Nat.le_of_ble_eq_true rfl) (fun w1 H locs hq9 hP hD hS => ?_)
  obtain ⟨q21, rfl⟩ := hq9
  have hP : va_P D vwCl [(h0, .inr (1, [.ref q0, .ref q10, .ref q15, .null, .null, .null, .null, .int 0, .int 0, .int 0, .int 0, .int 0])), (q0, .inr (7, [.ref q1, .ref q2, .ref q3, .ref q4, .ref q5, .ref q6, .ref q7, .ref q8, .ref q9, .int 0, .int 0, .int 0])), (q1, .inl (cI, 60, .inl (fun _ => 0))), (q2, .inl (cI, 60, .inl (fun _ => 0))), (q3, .inl (cI, 60, .inl (fun _ => 0))), (q4, .inl (cI, 60, .inl (fun _ => 0))), (q5, .inl (cI, 60, .inl (fun _ => 0))), (q6, .inl (cI, 60, .inl (fun _ => 0))), (q7, .inl (cI, 180, .inl (fun _ => 0))), (q8, .inl (cI, 60, .inl (fun _ => 0))), (q10, .inr (9, [.ref q11, .ref q12])), (q11, .inr (4, [.ref q12, .ref q14])), (q12, .inr (6, [.ref q13, .int 4])), (q13, .inl (cI, 144, .inl (upd (upd (upd (upd (upd (upd (upd (upd (upd (upd (upd (upd (upd (upd (upd (upd (upd (upd (upd (upd (upd (fun _ => 0) 1 (-1)) 2 (-1)) 3 1) 4 1) 5 (-1)) 6 1) 7 (-1)) 8 (-1)) 9 1) 10 1) 11 (-1)) 12 2) 13 (-1)) 14 (-1)) 15 1) 16 1) 17 (-1)) 18 4) 21 3) 22 2) 23 (-1)))), (q15, .inr (2, [.ref q16, .ref q17])), (q16, .inr (4, [.ref q17, .ref q19])), (q17, .inr (6, [.ref q18, .int 3])), (q20, .inr (6, [.ref q21, .int 0]))] H := hP
  have hD : va_D A [(h0, .inr (1, [.ref q0, .ref q10, .ref q15, .null, .null, .null, .null, .int 0, .int 0, .int 0, .int 0, .int 0])), (q0, .inr (7, [.ref q1, .ref q2, .ref q3, .ref q4, .ref q5, .ref q6, .ref q7, .ref q8, .ref q9, .int 0, .int 0, .int 0])), (q1, .inl (cI, 60, .inl (fun _ => 0))), (q2, .inl (cI, 60, .inl (fun _ => 0))), (q3, .inl (cI, 60, .inl (fun _ => 0))), (q4, .inl (cI, 60, .inl (fun _ => 0))), (q5, .inl (cI, 60, .inl (fun _ => 0))), (q6, .inl (cI, 60, .inl (fun _ => 0))), (q7, .inl (cI, 180, .inl (fun _ => 0))), (q8, .inl (cI, 60, .inl (fun _ => 0))), (q10, .inr (9, [.ref q11, .ref q12])), (q11, .inr (4, [.ref q12, .ref q14])), (q12, .inr (6, [.ref q13, .int 4])), (q13, .inl (cI, 144, .inl (upd (upd (upd (upd (upd (upd (upd (upd (upd (upd (upd (upd (upd (upd (upd (upd (upd (upd (upd (upd (upd (fun _ => 0) 1 (-1)) 2 (-1)) 3 1) 4 1) 5 (-1)) 6 1) 7 (-1)) 8 (-1)) 9 1) 10 1) 11 (-1)) 12 2) 13 (-1)) 14 (-1)) 15 1) 16 1) 17 (-1)) 18 4) 21 3) 22 2) 23 (-1)))), (q15, .inr (2, [.ref q16, .ref q17])), (q16, .inr (4, [.ref q17, .ref q19])), (q17, .inr (6, [.ref q18, .int 3])), (q20, .inr (6, [.ref q21, .int 0]))] := hD
  refine W.widen (k := 22) (n := 1150) (Nat.le_of_ble_eq_true rfl) (Nat.le_of_ble_eq_true rfl) ?_
  refine pcn (b := 47) rfl ?_
  refine va_putF (D := D) (ci := 1) (v := .ref q20) (ty := (.object "GradualCheck$Table")) (C := RX1) (T := TX1) (N := 12) hx hb hts inX1 tyX1 tyX1_ok nmX1 hown hK hP hD hS 0 rfl rfl 3 (by decide) (hts _ wm_285) (fun _ h9 => h9) rfl hin rfl (by decide +kernel) rfl rfl (Nat.le_of_ble_eq_true rfl) dX1_init_47 (fun H locs hP hD hS => ?_)
  have hP : va_P D vwCl [(h0, .inr (1, [.ref q0, .ref q10, .ref q15, .ref q20, .null, .null, .null, .int 0, .int 0, .int 0, .int 0, .int 0])), (q0, .inr (7, [.ref q1, .ref q2, .ref q3, .ref q4, .ref q5, .ref q6, .ref q7, .ref q8, .ref q9, .int 0, .int 0, .int 0])), (q1, .inl (cI, 60, .inl (fun _ => 0))), (q2, .inl (cI, 60, .inl (fun _ => 0))), (q3, .inl (cI, 60, .inl (fun _ => 0))), (q4, .inl (cI, 60, .inl (fun _ => 0))), (q5, .inl (cI, 60, .inl (fun _ => 0))), (q6, .inl (cI, 60, .inl (fun _ => 0))), (q7, .inl (cI, 180, .inl (fun _ => 0))), (q8, .inl (cI, 60, .inl (fun _ => 0))), (q10, .inr (9, [.ref q11, .ref q12])), (q11, .inr (4, [.ref q12, .ref q14])), (q12, .inr (6, [.ref q13, .int 4])), (q13, .inl (cI, 144, .inl (upd (upd (upd (upd (upd (upd (upd (upd (upd (upd (upd (upd (upd (upd (upd (upd (upd (upd (upd (upd (upd (fun _ => 0) 1 (-1)) 2 (-1)) 3 1) 4 1) 5 (-1)) 6 1) 7 (-1)) 8 (-1)) 9 1) 10 1) 11 (-1)) 12 2) 13 (-1)) 14 (-1)) 15 1) 16 1) 17 (-1)) 18 4) 21 3) 22 2) 23 (-1)))), (q15, .inr (2, [.ref q16, .ref q17])), (q16, .inr (4, [.ref q17, .ref q19])), (q17, .inr (6, [.ref q18, .int 3])), (q20, .inr (6, [.ref q21, .int 0]))] H := hP
  have hD : va_D A [(h0, .inr (1, [.ref q0, .ref q10, .ref q15, .ref q20, .null, .null, .null, .int 0, .int 0, .int 0, .int 0, .int 0])), (q0, .inr (7, [.ref q1, .ref q2, .ref q3, .ref q4, .ref q5, .ref q6, .ref q7, .ref q8, .ref q9, .int 0, .int 0, .int 0])), (q1, .inl (cI, 60, .inl (fun _ => 0))), (q2, .inl (cI, 60, .inl (fun _ => 0))), (q3, .inl (cI, 60, .inl (fun _ => 0))), (q4, .inl (cI, 60, .inl (fun _ => 0))), (q5, .inl (cI, 60, .inl (fun _ => 0))), (q6, .inl (cI, 60, .inl (fun _ => 0))), (q7, .inl (cI, 180, .inl (fun _ => 0))), (q8, .inl (cI, 60, .inl (fun _ => 0))), (q10, .inr (9, [.ref q11, .ref q12])), (q11, .inr (4, [.ref q12, .ref q14])), (q12, .inr (6, [.ref q13, .int 4])), (q13, .inl (cI, 144, .inl (upd (upd (upd (upd (upd (upd (upd (upd (upd (upd (upd (upd (upd (upd (upd (upd (upd (upd (upd (upd (upd (fun _ => 0) 1 (-1)) 2 (-1)) 3 1) 4 1) 5 (-1)) 6 1) 7 (-1)) 8 (-1)) 9 1) 10 1) 11 (-1)) 12 2) 13 (-1)) 14 (-1)) 15 1) 16 1) 17 (-1)) 18 4) 21 3) 22 2) 23 (-1)))), (q15, .inr (2, [.ref q16, .ref q17])), (q16, .inr (4, [.ref q17, .ref q19])), (q17, .inr (6, [.ref q18, .int 3])), (q20, .inr (6, [.ref q21, .int 0]))] := hD
  refine lv_aload_n hx hb dX1_init_50 rfl (lv_at hl 0 rfl) ?_
  refine lv_bipush (v := 60) hx hb dX1_init_51 (by decide +kernel) ?_
  refine n_newa (atype := .int) (ty := .int) (N2 := 60) hx hb (hts _ wm_62) rfl hK hP hD hS hA 0 rfl (fun _ _ => rfl) (fun _ => rfl) (by decide +kernel) (by decide +kernel) (by decide +kernel) (Nat.le_of_ble_eq_true rfl) (Nat.le_of_ble_eq_true rfl) dX1_init_53 (fun q22 H hP hD hS => ?_)
  have hP : va_P D vwCl [(h0, .inr (1, [.ref q0, .ref q10, .ref q15, .ref q20, .null, .null, .null, .int 0, .int 0, .int 0, .int 0, .int 0])), (q0, .inr (7, [.ref q1, .ref q2, .ref q3, .ref q4, .ref q5, .ref q6, .ref q7, .ref q8, .ref q9, .int 0, .int 0, .int 0])), (q1, .inl (cI, 60, .inl (fun _ => 0))), (q2, .inl (cI, 60, .inl (fun _ => 0))), (q3, .inl (cI, 60, .inl (fun _ => 0))), (q4, .inl (cI, 60, .inl (fun _ => 0))), (q5, .inl (cI, 60, .inl (fun _ => 0))), (q6, .inl (cI, 60, .inl (fun _ => 0))), (q7, .inl (cI, 180, .inl (fun _ => 0))), (q8, .inl (cI, 60, .inl (fun _ => 0))), (q10, .inr (9, [.ref q11, .ref q12])), (q11, .inr (4, [.ref q12, .ref q14])), (q12, .inr (6, [.ref q13, .int 4])), (q13, .inl (cI, 144, .inl (upd (upd (upd (upd (upd (upd (upd (upd (upd (upd (upd (upd (upd (upd (upd (upd (upd (upd (upd (upd (upd (fun _ => 0) 1 (-1)) 2 (-1)) 3 1) 4 1) 5 (-1)) 6 1) 7 (-1)) 8 (-1)) 9 1) 10 1) 11 (-1)) 12 2) 13 (-1)) 14 (-1)) 15 1) 16 1) 17 (-1)) 18 4) 21 3) 22 2) 23 (-1)))), (q15, .inr (2, [.ref q16, .ref q17])), (q16, .inr (4, [.ref q17, .ref q19])), (q17, .inr (6, [.ref q18, .int 3])), (q20, .inr (6, [.ref q21, .int 0])), (q22, .inl (cI, 60, .inl (fun _ => 0)))] H := hP
  have hD : va_D A [(h0, .inr (1, [.ref q0, .ref q10, .ref q15, .ref q20, .null, .null, .null, .int 0, .int 0, .int 0, .int 0, .int 0])), (q0, .inr (7, [.ref q1, .ref q2, .ref q3, .ref q4, .ref q5, .ref q6, .ref q7, .ref q8, .ref q9, .int 0, .int 0, .int 0])), (q1, .inl (cI, 60, .inl (fun _ => 0))), (q2, .inl (cI, 60, .inl (fun _ => 0))), (q3, .inl (cI, 60, .inl (fun _ => 0))), (q4, .inl (cI, 60, .inl (fun _ => 0))), (q5, .inl (cI, 60, .inl (fun _ => 0))), (q6, .inl (cI, 60, .inl (fun _ => 0))), (q7, .inl (cI, 180, .inl (fun _ => 0))), (q8, .inl (cI, 60, .inl (fun _ => 0))), (q10, .inr (9, [.ref q11, .ref q12])), (q11, .inr (4, [.ref q12, .ref q14])), (q12, .inr (6, [.ref q13, .int 4])), (q13, .inl (cI, 144, .inl (upd (upd (upd (upd (upd (upd (upd (upd (upd (upd (upd (upd (upd (upd (upd (upd (upd (upd (upd (upd (upd (fun _ => 0) 1 (-1)) 2 (-1)) 3 1) 4 1) 5 (-1)) 6 1) 7 (-1)) 8 (-1)) 9 1) 10 1) 11 (-1)) 12 2) 13 (-1)) 14 (-1)) 15 1) 16 1) 17 (-1)) 18 4) 21 3) 22 2) 23 (-1)))), (q15, .inr (2, [.ref q16, .ref q17])), (q16, .inr (4, [.ref q17, .ref q19])), (q17, .inr (6, [.ref q18, .int 3])), (q20, .inr (6, [.ref q21, .int 0])), (q22, .inl (cI, 60, .inl (fun _ => 0)))] := hD
  refine W.widen (k := 23) (n := 1210) (Nat.le_of_ble_eq_true rfl) (Nat.le_of_ble_eq_true rfl) ?_
  refine va_putF (D := D) (ci := 1) (v := .ref q22) (ty := (.array .int)) (C := RX1) (T := TX1) (N := 12) hx hb hts inX1 tyX1 tyX1_ok nmX1 hown hK hP hD hS 0 rfl rfl 4 (by decide) (hts _ wm_288) (fun _ h9 => h9) rfl hin rfl (by decide +kernel) rfl rfl (Nat.le_of_ble_eq_true rfl) dX1_init_55 (fun H locs hP hD hS => ?_)
  have hP : va_P D vwCl [(h0, .inr (1, [.ref q0, .ref q10, .ref q15, .ref q20, .ref q22, .null, .null, .int 0, .int 0, .int 0, .int 0, .int 0])), (q0, .inr (7, [.ref q1, .ref q2, .ref q3, .ref q4, .ref q5, .ref q6, .ref q7, .ref q8, .ref q9, .int 0, .int 0, .int 0])), (q1, .inl (cI, 60, .inl (fun _ => 0))), (q2, .inl (cI, 60, .inl (fun _ => 0))), (q3, .inl (cI, 60, .inl (fun _ => 0))), (q4, .inl (cI, 60, .inl (fun _ => 0))), (q5, .inl (cI, 60, .inl (fun _ => 0))), (q6, .inl (cI, 60, .inl (fun _ => 0))), (q7, .inl (cI, 180, .inl (fun _ => 0))), (q8, .inl (cI, 60, .inl (fun _ => 0))), (q10, .inr (9, [.ref q11, .ref q12])), (q11, .inr (4, [.ref q12, .ref q14])), (q12, .inr (6, [.ref q13, .int 4])), (q13, .inl (cI, 144, .inl (upd (upd (upd (upd (upd (upd (upd (upd (upd (upd (upd (upd (upd (upd (upd (upd (upd (upd (upd (upd (upd (fun _ => 0) 1 (-1)) 2 (-1)) 3 1) 4 1) 5 (-1)) 6 1) 7 (-1)) 8 (-1)) 9 1) 10 1) 11 (-1)) 12 2) 13 (-1)) 14 (-1)) 15 1) 16 1) 17 (-1)) 18 4) 21 3) 22 2) 23 (-1)))), (q15, .inr (2, [.ref q16, .ref q17])), (q16, .inr (4, [.ref q17, .ref q19])), (q17, .inr (6, [.ref q18, .int 3])), (q20, .inr (6, [.ref q21, .int 0])), (q22, .inl (cI, 60, .inl (fun _ => 0)))] H := hP
  have hD : va_D A [(h0, .inr (1, [.ref q0, .ref q10, .ref q15, .ref q20, .ref q22, .null, .null, .int 0, .int 0, .int 0, .int 0, .int 0])), (q0, .inr (7, [.ref q1, .ref q2, .ref q3, .ref q4, .ref q5, .ref q6, .ref q7, .ref q8, .ref q9, .int 0, .int 0, .int 0])), (q1, .inl (cI, 60, .inl (fun _ => 0))), (q2, .inl (cI, 60, .inl (fun _ => 0))), (q3, .inl (cI, 60, .inl (fun _ => 0))), (q4, .inl (cI, 60, .inl (fun _ => 0))), (q5, .inl (cI, 60, .inl (fun _ => 0))), (q6, .inl (cI, 60, .inl (fun _ => 0))), (q7, .inl (cI, 180, .inl (fun _ => 0))), (q8, .inl (cI, 60, .inl (fun _ => 0))), (q10, .inr (9, [.ref q11, .ref q12])), (q11, .inr (4, [.ref q12, .ref q14])), (q12, .inr (6, [.ref q13, .int 4])), (q13, .inl (cI, 144, .inl (upd (upd (upd (upd (upd (upd (upd (upd (upd (upd (upd (upd (upd (upd (upd (upd (upd (upd (upd (upd (upd (fun _ => 0) 1 (-1)) 2 (-1)) 3 1) 4 1) 5 (-1)) 6 1) 7 (-1)) 8 (-1)) 9 1) 10 1) 11 (-1)) 12 2) 13 (-1)) 14 (-1)) 15 1) 16 1) 17 (-1)) 18 4) 21 3) 22 2) 23 (-1)))), (q15, .inr (2, [.ref q16, .ref q17])), (q16, .inr (4, [.ref q17, .ref q19])), (q17, .inr (6, [.ref q18, .int 3])), (q20, .inr (6, [.ref q21, .int 0])), (q22, .inl (cI, 60, .inl (fun _ => 0)))] := hD
  refine lv_aload_n hx hb dX1_init_58 rfl (lv_at hl 0 rfl) ?_
  refine lv_bipush (v := 60) hx hb dX1_init_59 (by decide +kernel) ?_
  refine pcn (b := 61) rfl ?_
  refine n_newa (atype := .int) (ty := .int) (N2 := 60) hx hb (hts _ wm_62) rfl hK hP hD hS hA 0 rfl (fun _ _ => rfl) (fun _ => rfl) (by decide +kernel) (by decide +kernel) (by decide +kernel) (Nat.le_of_ble_eq_true rfl) (Nat.le_of_ble_eq_true rfl) dX1_init_61 (fun q23 H hP hD hS => ?_)
  have hP : va_P D vwCl [(h0, .inr (1, [.ref q0, .ref q10, .ref q15, .ref q20, .ref q22, .null, .null, .int 0, .int 0, .int 0, .int 0, .int 0])), (q0, .inr (7, [.ref q1, .ref q2, .ref q3, .ref q4, .ref q5, .ref q6, .ref q7, .ref q8, .ref q9, .int 0, .int 0, .int 0])), (q1, .inl (cI, 60, .inl (fun _ => 0))), (q2, .inl (cI, 60, .inl (fun _ => 0))), (q3, .inl (cI, 60, .inl (fun _ => 0))), (q4, .inl (cI, 60, .inl (fun _ => 0))), (q5, .inl (cI, 60, .inl (fun _ => 0))), (q6, .inl (cI, 60, .inl (fun _ => 0))), (q7, .inl (cI, 180, .inl (fun _ => 0))), (q8, .inl (cI, 60, .inl (fun _ => 0))), (q10, .inr (9, [.ref q11, .ref q12])), (q11, .inr (4, [.ref q12, .ref q14])), (q12, .inr (6, [.ref q13, .int 4])), (q13, .inl (cI, 144, .inl (upd (upd (upd (upd (upd (upd (upd (upd (upd (upd (upd (upd (upd (upd (upd (upd (upd (upd (upd (upd (upd (fun _ => 0) 1 (-1)) 2 (-1)) 3 1) 4 1) 5 (-1)) 6 1) 7 (-1)) 8 (-1)) 9 1) 10 1) 11 (-1)) 12 2) 13 (-1)) 14 (-1)) 15 1) 16 1) 17 (-1)) 18 4) 21 3) 22 2) 23 (-1)))), (q15, .inr (2, [.ref q16, .ref q17])), (q16, .inr (4, [.ref q17, .ref q19])), (q17, .inr (6, [.ref q18, .int 3])), (q20, .inr (6, [.ref q21, .int 0])), (q22, .inl (cI, 60, .inl (fun _ => 0))), (q23, .inl (cI, 60, .inl (fun _ => 0)))] H := hP
  have hD : va_D A [(h0, .inr (1, [.ref q0, .ref q10, .ref q15, .ref q20, .ref q22, .null, .null, .int 0, .int 0, .int 0, .int 0, .int 0])), (q0, .inr (7, [.ref q1, .ref q2, .ref q3, .ref q4, .ref q5, .ref q6, .ref q7, .ref q8, .ref q9, .int 0, .int 0, .int 0])), (q1, .inl (cI, 60, .inl (fun _ => 0))), (q2, .inl (cI, 60, .inl (fun _ => 0))), (q3, .inl (cI, 60, .inl (fun _ => 0))), (q4, .inl (cI, 60, .inl (fun _ => 0))), (q5, .inl (cI, 60, .inl (fun _ => 0))), (q6, .inl (cI, 60, .inl (fun _ => 0))), (q7, .inl (cI, 180, .inl (fun _ => 0))), (q8, .inl (cI, 60, .inl (fun _ => 0))), (q10, .inr (9, [.ref q11, .ref q12])), (q11, .inr (4, [.ref q12, .ref q14])), (q12, .inr (6, [.ref q13, .int 4])), (q13, .inl (cI, 144, .inl (upd (upd (upd (upd (upd (upd (upd (upd (upd (upd (upd (upd (upd (upd (upd (upd (upd (upd (upd (upd (upd (fun _ => 0) 1 (-1)) 2 (-1)) 3 1) 4 1) 5 (-1)) 6 1) 7 (-1)) 8 (-1)) 9 1) 10 1) 11 (-1)) 12 2) 13 (-1)) 14 (-1)) 15 1) 16 1) 17 (-1)) 18 4) 21 3) 22 2) 23 (-1)))), (q15, .inr (2, [.ref q16, .ref q17])), (q16, .inr (4, [.ref q17, .ref q19])), (q17, .inr (6, [.ref q18, .int 3])), (q20, .inr (6, [.ref q21, .int 0])), (q22, .inl (cI, 60, .inl (fun _ => 0))), (q23, .inl (cI, 60, .inl (fun _ => 0)))] := hD
  refine W.widen (k := 24) (n := 1270) (Nat.le_of_ble_eq_true rfl) (Nat.le_of_ble_eq_true rfl) ?_
  refine va_putF (D := D) (ci := 1) (v := .ref q23) (ty := (.array .int)) (C := RX1) (T := TX1) (N := 12) hx hb hts inX1 tyX1 tyX1_ok nmX1 hown hK hP hD hS 0 rfl rfl 5 (by decide) (hts _ wm_290) (fun _ h9 => h9) rfl hin rfl (by decide +kernel) rfl rfl (Nat.le_of_ble_eq_true rfl) dX1_init_63 (fun H locs hP hD hS => ?_)
  have hP : va_P D vwCl [(h0, .inr (1, [.ref q0, .ref q10, .ref q15, .ref q20, .ref q22, .ref q23, .null, .int 0, .int 0, .int 0, .int 0, .int 0])), (q0, .inr (7, [.ref q1, .ref q2, .ref q3, .ref q4, .ref q5, .ref q6, .ref q7, .ref q8, .ref q9, .int 0, .int 0, .int 0])), (q1, .inl (cI, 60, .inl (fun _ => 0))), (q2, .inl (cI, 60, .inl (fun _ => 0))), (q3, .inl (cI, 60, .inl (fun _ => 0))), (q4, .inl (cI, 60, .inl (fun _ => 0))), (q5, .inl (cI, 60, .inl (fun _ => 0))), (q6, .inl (cI, 60, .inl (fun _ => 0))), (q7, .inl (cI, 180, .inl (fun _ => 0))), (q8, .inl (cI, 60, .inl (fun _ => 0))), (q10, .inr (9, [.ref q11, .ref q12])), (q11, .inr (4, [.ref q12, .ref q14])), (q12, .inr (6, [.ref q13, .int 4])), (q13, .inl (cI, 144, .inl (upd (upd (upd (upd (upd (upd (upd (upd (upd (upd (upd (upd (upd (upd (upd (upd (upd (upd (upd (upd (upd (fun _ => 0) 1 (-1)) 2 (-1)) 3 1) 4 1) 5 (-1)) 6 1) 7 (-1)) 8 (-1)) 9 1) 10 1) 11 (-1)) 12 2) 13 (-1)) 14 (-1)) 15 1) 16 1) 17 (-1)) 18 4) 21 3) 22 2) 23 (-1)))), (q15, .inr (2, [.ref q16, .ref q17])), (q16, .inr (4, [.ref q17, .ref q19])), (q17, .inr (6, [.ref q18, .int 3])), (q20, .inr (6, [.ref q21, .int 0])), (q22, .inl (cI, 60, .inl (fun _ => 0))), (q23, .inl (cI, 60, .inl (fun _ => 0)))] H := hP
  have hD : va_D A [(h0, .inr (1, [.ref q0, .ref q10, .ref q15, .ref q20, .ref q22, .ref q23, .null, .int 0, .int 0, .int 0, .int 0, .int 0])), (q0, .inr (7, [.ref q1, .ref q2, .ref q3, .ref q4, .ref q5, .ref q6, .ref q7, .ref q8, .ref q9, .int 0, .int 0, .int 0])), (q1, .inl (cI, 60, .inl (fun _ => 0))), (q2, .inl (cI, 60, .inl (fun _ => 0))), (q3, .inl (cI, 60, .inl (fun _ => 0))), (q4, .inl (cI, 60, .inl (fun _ => 0))), (q5, .inl (cI, 60, .inl (fun _ => 0))), (q6, .inl (cI, 60, .inl (fun _ => 0))), (q7, .inl (cI, 180, .inl (fun _ => 0))), (q8, .inl (cI, 60, .inl (fun _ => 0))), (q10, .inr (9, [.ref q11, .ref q12])), (q11, .inr (4, [.ref q12, .ref q14])), (q12, .inr (6, [.ref q13, .int 4])), (q13, .inl (cI, 144, .inl (upd (upd (upd (upd (upd (upd (upd (upd (upd (upd (upd (upd (upd (upd (upd (upd (upd (upd (upd (upd (upd (fun _ => 0) 1 (-1)) 2 (-1)) 3 1) 4 1) 5 (-1)) 6 1) 7 (-1)) 8 (-1)) 9 1) 10 1) 11 (-1)) 12 2) 13 (-1)) 14 (-1)) 15 1) 16 1) 17 (-1)) 18 4) 21 3) 22 2) 23 (-1)))), (q15, .inr (2, [.ref q16, .ref q17])), (q16, .inr (4, [.ref q17, .ref q19])), (q17, .inr (6, [.ref q18, .int 3])), (q20, .inr (6, [.ref q21, .int 0])), (q22, .inl (cI, 60, .inl (fun _ => 0))), (q23, .inl (cI, 60, .inl (fun _ => 0)))] := hD
  refine lv_aload_n hx hb dX1_init_66 rfl (lv_at hl 0 rfl) ?_
  refine lv_bipush (v := 60) hx hb dX1_init_67 (by decide +kernel) ?_
  refine n_newa (atype := .boolean) (ty := .boolean) (N2 := 60) hx hb (hts _ wm_326) rfl hK hP hD hS hA 1 rfl (fun _ _ => rfl) (fun _ => rfl) (by decide +kernel) (by decide +kernel) (by decide +kernel) (Nat.le_of_ble_eq_true rfl) (Nat.le_of_ble_eq_true rfl) dX1_init_69 (fun q24 H hP hD hS => ?_)
  have hP : va_P D vwCl [(h0, .inr (1, [.ref q0, .ref q10, .ref q15, .ref q20, .ref q22, .ref q23, .null, .int 0, .int 0, .int 0, .int 0, .int 0])), (q0, .inr (7, [.ref q1, .ref q2, .ref q3, .ref q4, .ref q5, .ref q6, .ref q7, .ref q8, .ref q9, .int 0, .int 0, .int 0])), (q1, .inl (cI, 60, .inl (fun _ => 0))), (q2, .inl (cI, 60, .inl (fun _ => 0))), (q3, .inl (cI, 60, .inl (fun _ => 0))), (q4, .inl (cI, 60, .inl (fun _ => 0))), (q5, .inl (cI, 60, .inl (fun _ => 0))), (q6, .inl (cI, 60, .inl (fun _ => 0))), (q7, .inl (cI, 180, .inl (fun _ => 0))), (q8, .inl (cI, 60, .inl (fun _ => 0))), (q10, .inr (9, [.ref q11, .ref q12])), (q11, .inr (4, [.ref q12, .ref q14])), (q12, .inr (6, [.ref q13, .int 4])), (q13, .inl (cI, 144, .inl (upd (upd (upd (upd (upd (upd (upd (upd (upd (upd (upd (upd (upd (upd (upd (upd (upd (upd (upd (upd (upd (fun _ => 0) 1 (-1)) 2 (-1)) 3 1) 4 1) 5 (-1)) 6 1) 7 (-1)) 8 (-1)) 9 1) 10 1) 11 (-1)) 12 2) 13 (-1)) 14 (-1)) 15 1) 16 1) 17 (-1)) 18 4) 21 3) 22 2) 23 (-1)))), (q15, .inr (2, [.ref q16, .ref q17])), (q16, .inr (4, [.ref q17, .ref q19])), (q17, .inr (6, [.ref q18, .int 3])), (q20, .inr (6, [.ref q21, .int 0])), (q22, .inl (cI, 60, .inl (fun _ => 0))), (q23, .inl (cI, 60, .inl (fun _ => 0))), (q24, .inl (cZ, 60, .inl (fun _ => 0)))] H := hP
  have hD : va_D A [(h0, .inr (1, [.ref q0, .ref q10, .ref q15, .ref q20, .ref q22, .ref q23, .null, .int 0, .int 0, .int 0, .int 0, .int 0])), (q0, .inr (7, [.ref q1, .ref q2, .ref q3, .ref q4, .ref q5, .ref q6, .ref q7, .ref q8, .ref q9, .int 0, .int 0, .int 0])), (q1, .inl (cI, 60, .inl (fun _ => 0))), (q2, .inl (cI, 60, .inl (fun _ => 0))), (q3, .inl (cI, 60, .inl (fun _ => 0))), (q4, .inl (cI, 60, .inl (fun _ => 0))), (q5, .inl (cI, 60, .inl (fun _ => 0))), (q6, .inl (cI, 60, .inl (fun _ => 0))), (q7, .inl (cI, 180, .inl (fun _ => 0))), (q8, .inl (cI, 60, .inl (fun _ => 0))), (q10, .inr (9, [.ref q11, .ref q12])), (q11, .inr (4, [.ref q12, .ref q14])), (q12, .inr (6, [.ref q13, .int 4])), (q13, .inl (cI, 144, .inl (upd (upd (upd (upd (upd (upd (upd (upd (upd (upd (upd (upd (upd (upd (upd (upd (upd (upd (upd (upd (upd (fun _ => 0) 1 (-1)) 2 (-1)) 3 1) 4 1) 5 (-1)) 6 1) 7 (-1)) 8 (-1)) 9 1) 10 1) 11 (-1)) 12 2) 13 (-1)) 14 (-1)) 15 1) 16 1) 17 (-1)) 18 4) 21 3) 22 2) 23 (-1)))), (q15, .inr (2, [.ref q16, .ref q17])), (q16, .inr (4, [.ref q17, .ref q19])), (q17, .inr (6, [.ref q18, .int 3])), (q20, .inr (6, [.ref q21, .int 0])), (q22, .inl (cI, 60, .inl (fun _ => 0))), (q23, .inl (cI, 60, .inl (fun _ => 0))), (q24, .inl (cZ, 60, .inl (fun _ => 0)))] := hD
  refine W.widen (k := 25) (n := 1330) (Nat.le_of_ble_eq_true rfl) (Nat.le_of_ble_eq_true rfl) ?_
  refine va_putF (D := D) (ci := 1) (v := .ref q24) (ty := (.array .boolean)) (C := RX1) (T := TX1) (N := 12) hx hb hts inX1 tyX1 tyX1_ok nmX1 hown hK hP hD hS 0 rfl rfl 6 (by decide) (hts _ wm_293) (fun _ h9 => h9) rfl hin rfl (by decide +kernel) rfl rfl (Nat.le_of_ble_eq_true rfl) dX1_init_71 (fun H locs hP hD hS => ?_)
  have hP : va_P D vwCl [(h0, .inr (1, [.ref q0, .ref q10, .ref q15, .ref q20, .ref q22, .ref q23, .ref q24, .int 0, .int 0, .int 0, .int 0, .int 0])), (q0, .inr (7, [.ref q1, .ref q2, .ref q3, .ref q4, .ref q5, .ref q6, .ref q7, .ref q8, .ref q9, .int 0, .int 0, .int 0])), (q1, .inl (cI, 60, .inl (fun _ => 0))), (q2, .inl (cI, 60, .inl (fun _ => 0))), (q3, .inl (cI, 60, .inl (fun _ => 0))), (q4, .inl (cI, 60, .inl (fun _ => 0))), (q5, .inl (cI, 60, .inl (fun _ => 0))), (q6, .inl (cI, 60, .inl (fun _ => 0))), (q7, .inl (cI, 180, .inl (fun _ => 0))), (q8, .inl (cI, 60, .inl (fun _ => 0))), (q10, .inr (9, [.ref q11, .ref q12])), (q11, .inr (4, [.ref q12, .ref q14])), (q12, .inr (6, [.ref q13, .int 4])), (q13, .inl (cI, 144, .inl (upd (upd (upd (upd (upd (upd (upd (upd (upd (upd (upd (upd (upd (upd (upd (upd (upd (upd (upd (upd (upd (fun _ => 0) 1 (-1)) 2 (-1)) 3 1) 4 1) 5 (-1)) 6 1) 7 (-1)) 8 (-1)) 9 1) 10 1) 11 (-1)) 12 2) 13 (-1)) 14 (-1)) 15 1) 16 1) 17 (-1)) 18 4) 21 3) 22 2) 23 (-1)))), (q15, .inr (2, [.ref q16, .ref q17])), (q16, .inr (4, [.ref q17, .ref q19])), (q17, .inr (6, [.ref q18, .int 3])), (q20, .inr (6, [.ref q21, .int 0])), (q22, .inl (cI, 60, .inl (fun _ => 0))), (q23, .inl (cI, 60, .inl (fun _ => 0))), (q24, .inl (cZ, 60, .inl (fun _ => 0)))] H := hP
  have hD : va_D A [(h0, .inr (1, [.ref q0, .ref q10, .ref q15, .ref q20, .ref q22, .ref q23, .ref q24, .int 0, .int 0, .int 0, .int 0, .int 0])), (q0, .inr (7, [.ref q1, .ref q2, .ref q3, .ref q4, .ref q5, .ref q6, .ref q7, .ref q8, .ref q9, .int 0, .int 0, .int 0])), (q1, .inl (cI, 60, .inl (fun _ => 0))), (q2, .inl (cI, 60, .inl (fun _ => 0))), (q3, .inl (cI, 60, .inl (fun _ => 0))), (q4, .inl (cI, 60, .inl (fun _ => 0))), (q5, .inl (cI, 60, .inl (fun _ => 0))), (q6, .inl (cI, 60, .inl (fun _ => 0))), (q7, .inl (cI, 180, .inl (fun _ => 0))), (q8, .inl (cI, 60, .inl (fun _ => 0))), (q10, .inr (9, [.ref q11, .ref q12])), (q11, .inr (4, [.ref q12, .ref q14])), (q12, .inr (6, [.ref q13, .int 4])), (q13, .inl (cI, 144, .inl (upd (upd (upd (upd (upd (upd (upd (upd (upd (upd (upd (upd (upd (upd (upd (upd (upd (upd (upd (upd (upd (fun _ => 0) 1 (-1)) 2 (-1)) 3 1) 4 1) 5 (-1)) 6 1) 7 (-1)) 8 (-1)) 9 1) 10 1) 11 (-1)) 12 2) 13 (-1)) 14 (-1)) 15 1) 16 1) 17 (-1)) 18 4) 21 3) 22 2) 23 (-1)))), (q15, .inr (2, [.ref q16, .ref q17])), (q16, .inr (4, [.ref q17, .ref q19])), (q17, .inr (6, [.ref q18, .int 3])), (q20, .inr (6, [.ref q21, .int 0])), (q22, .inl (cI, 60, .inl (fun _ => 0))), (q23, .inl (cI, 60, .inl (fun _ => 0))), (q24, .inl (cZ, 60, .inl (fun _ => 0)))] := hD
  refine lv_aload_n hx hb dX1_init_74 rfl (lv_at hl 0 rfl) ?_
  refine va_get (D := D) (ci := 1) (v := .ref q0) (C := RX1) (T := TX1) (N := 12) hx hb hts inX1 hown hK hP 0 rfl rfl 0 (by decide) (hts _ wm_274) (fun _ h9 => h9) rfl dX1_init_75 ?_
  refine pcn (b := 78) rfl ?_
  refine kVNv (As := []) (rest := []) (wr := [(h0, .inr (1, [.ref q0, .ref q10, .ref q15, .ref q20, .ref q22, .ref q23, .ref q24, .int 0, .int 0, .int 0, .int 0, .int 0])), (q1, .inl (cI, 60, .inl (fun _ => 0))), (q2, .inl (cI, 60, .inl (fun _ => 0))), (q3, .inl (cI, 60, .inl (fun _ => 0))), (q4, .inl (cI, 60, .inl (fun _ => 0))), (q5, .inl (cI, 60, .inl (fun _ => 0))), (q6, .inl (cI, 60, .inl (fun _ => 0))), (q8, .inl (cI, 60, .inl (fun _ => 0))), (q10, .inr (9, [.ref q11, .ref q12])), (q11, .inr (4, [.ref q12, .ref q14])), (q12, .inr (6, [.ref q13, .int 4])), (q13, .inl (cI, 144, .inl (upd (upd (upd (upd (upd (upd (upd (upd (upd (upd (upd (upd (upd (upd (upd (upd (upd (upd (upd (upd (upd (fun _ => 0) 1 (-1)) 2 (-1)) 3 1) 4 1) 5 (-1)) 6 1) 7 (-1)) 8 (-1)) 9 1) 10 1) 11 (-1)) 12 2) 13 (-1)) 14 (-1)) 15 1) 16 1) 17 (-1)) 18 4) 21 3) 22 2) 23 (-1)))), (q15, .inr (2, [.ref q16, .ref q17])), (q16, .inr (4, [.ref q17, .ref q19])), (q17, .inr (6, [.ref q18, .int 3])), (q20, .inr (6, [.ref q21, .int 0])), (q22, .inl (cI, 60, .inl (fun _ => 0))), (q23, .inl (cI, 60, .inl (fun _ => 0))), (q24, .inl (cZ, 60, .inl (fun _ => 0)))]) hx hb hml hown hts hnw hK hP hD hS hA hl.1 (c_X7_empty_0 l D cI cZ cB cJ q0 q7 q1 q2 q3 q4 q5 q6 q8 q9) yk_X7_empty wn_255 [1, 8] [0, 2, 3, 4, 5, 6, 7, 9, 10, 11, 12, 13, 14, 15, 16, 17, 18, 19, 20] rfl rfl (by decide) (by decide) (by decide) 0 rfl rfl rfl rfl rfl dX1_init_78 ⟨Nat.le_of_ble_eq_true rfl, Nat.le_of_ble_eq_true rfl⟩ ⟨Nat.le_of_ble_eq_true rfl, Nat.le_of_ble_eq_true rfl⟩ (Nat.le_of_ble_eq_true rfl) (fun w1 H locs hq9 hP hD hS => ?_)
  obtain rfl := hq9
  have hP : va_P D vwCl [(h0, .inr (1, [.ref q0, .ref q10, .ref q15, .ref q20, .ref q22, .ref q23, .ref q24, .int 0, .int 0, .int 0, .int 0, .int 0])), (q1, .inl (cI, 60, .inl (fun _ => 0))), (q2, .inl (cI, 60, .inl (fun _ => 0))), (q3, .inl (cI, 60, .inl (fun _ => 0))), (q4, .inl (cI, 60, .inl (fun _ => 0))), (q5, .inl (cI, 60, .inl (fun _ => 0))), (q6, .inl (cI, 60, .inl (fun _ => 0))), (q8, .inl (cI, 60, .inl (fun _ => 0))), (q10, .inr (9, [.ref q11, .ref q12])), (q11, .inr (4, [.ref q12, .ref q14])), (q12, .inr (6, [.ref q13, .int 4])), (q13, .inl (cI, 144, .inl (upd (upd (upd (upd (upd (upd (upd (upd (upd (upd (upd (upd (upd (upd (upd (upd (upd (upd (upd (upd (upd (fun _ => 0) 1 (-1)) 2 (-1)) 3 1) 4 1) 5 (-1)) 6 1) 7 (-1)) 8 (-1)) 9 1) 10 1) 11 (-1)) 12 2) 13 (-1)) 14 (-1)) 15 1) 16 1) 17 (-1)) 18 4) 21 3) 22 2) 23 (-1)))), (q15, .inr (2, [.ref q16, .ref q17])), (q16, .inr (4, [.ref q17, .ref q19])), (q17, .inr (6, [.ref q18, .int 3])), (q20, .inr (6, [.ref q21, .int 0])), (q22, .inl (cI, 60, .inl (fun _ => 0))), (q23, .inl (cI, 60, .inl (fun _ => 0))), (q24, .inl (cZ, 60, .inl (fun _ => 0))), (q0, .inr (7, [.ref q1, .ref q2, .ref q3, .ref q4, .ref q5, .ref q6, .ref q7, .ref q8, .ref q9, .int 0, .int 0, .int 0])), (q7, .inl (cI, 180, .inl (fun _ => (-1))))] H := hP
  have hD : va_D A [(h0, .inr (1, [.ref q0, .ref q10, .ref q15, .ref q20, .ref q22, .ref q23, .ref q24, .int 0, .int 0, .int 0, .int 0, .int 0])), (q1, .inl (cI, 60, .inl (fun _ => 0))), (q2, .inl (cI, 60, .inl (fun _ => 0))), (q3, .inl (cI, 60, .inl (fun _ => 0))), (q4, .inl (cI, 60, .inl (fun _ => 0))), (q5, .inl (cI, 60, .inl (fun _ => 0))), (q6, .inl (cI, 60, .inl (fun _ => 0))), (q8, .inl (cI, 60, .inl (fun _ => 0))), (q10, .inr (9, [.ref q11, .ref q12])), (q11, .inr (4, [.ref q12, .ref q14])), (q12, .inr (6, [.ref q13, .int 4])), (q13, .inl (cI, 144, .inl (upd (upd (upd (upd (upd (upd (upd (upd (upd (upd (upd (upd (upd (upd (upd (upd (upd (upd (upd (upd (upd (fun _ => 0) 1 (-1)) 2 (-1)) 3 1) 4 1) 5 (-1)) 6 1) 7 (-1)) 8 (-1)) 9 1) 10 1) 11 (-1)) 12 2) 13 (-1)) 14 (-1)) 15 1) 16 1) 17 (-1)) 18 4) 21 3) 22 2) 23 (-1)))), (q15, .inr (2, [.ref q16, .ref q17])), (q16, .inr (4, [.ref q17, .ref q19])), (q17, .inr (6, [.ref q18, .int 3])), (q20, .inr (6, [.ref q21, .int 0])), (q22, .inl (cI, 60, .inl (fun _ => 0))), (q23, .inl (cI, 60, .inl (fun _ => 0))), (q24, .inl (cZ, 60, .inl (fun _ => 0))), (q0, .inr (7, [.ref q1, .ref q2, .ref q3, .ref q4, .ref q5, .ref q6, .ref q7, .ref q8, .ref q9, .int 0, .int 0, .int 0])), (q7, .inl (cI, 180, .inl (fun _ => (-1))))] := hD
  refine W.widen (k := 25) (n := 1330) (Nat.le_of_ble_eq_true rfl) (Nat.le_of_ble_eq_true rfl) ?_
  refine pcn (b := 81) rfl ?_
  refine lv_aload_n hx hb dX1_init_81 rfl (lv_at hl 0 rfl) ?_
  refine va_get (D := D) (ci := 1) (v := .ref q0) (C := RX1) (T := TX1) (N := 12) hx hb hts inX1 hown hK hP 0 rfl rfl 0 (by decide) (hts _ wm_274) (fun _ h9 => h9) rfl dX1_init_82 ?_
  refine lv_aload_n hx hb dX1_init_85 rfl (lv_at hl 0 rfl) ?_
  refine va_get (D := D) (ci := 1) (v := .ref q0) (C := RX1) (T := TX1) (N := 12) hx hb hts inX1 hown hK hP 0 rfl rfl 0 (by decide) (hts _ wm_274) (fun _ h9 => h9) rfl dX1_init_86 ?_
  refine lv_iconst (v := 0) hx hb dX1_init_89 (by decide +kernel) ?_
  refine lv_iconst (v := (-1)) hx hb dX1_init_90 (by decide +kernel) ?_
  refine lv_iconst (v := 0) hx hb dX1_init_91 (by decide +kernel) ?_
  refine pcn (b := 92) rfl ?_
  refine lv_iconst (v := 0) hx hb dX1_init_92 (by decide +kernel) ?_
  refine kVNi (As := [.int 0, .int (-1), .int 0, .int 0]) (rest := [.ref q0]) (wr := [(h0, .inr (1, [.ref q0, .ref q10, .ref q15, .ref q20, .ref q22, .ref q23, .ref q24, .int 0, .int 0, .int 0, .int 0, .int 0])), (q6, .inl (cI, 60, .inl (fun _ => 0))), (q8, .inl (cI, 60, .inl (fun _ => 0))), (q10, .inr (9, [.ref q11, .ref q12])), (q11, .inr (4, [.ref q12, .ref q14])), (q12, .inr (6, [.ref q13, .int 4])), (q13, .inl (cI, 144, .inl (upd (upd (upd (upd (upd (upd (upd (upd (upd (upd (upd (upd (upd (upd (upd (upd (upd (upd (upd (upd (upd (fun _ => 0) 1 (-1)) 2 (-1)) 3 1) 4 1) 5 (-1)) 6 1) 7 (-1)) 8 (-1)) 9 1) 10 1) 11 (-1)) 12 2) 13 (-1)) 14 (-1)) 15 1) 16 1) 17 (-1)) 18 4) 21 3) 22 2) 23 (-1)))), (q15, .inr (2, [.ref q16, .ref q17])), (q16, .inr (4, [.ref q17, .ref q19])), (q17, .inr (6, [.ref q18, .int 3])), (q20, .inr (6, [.ref q21, .int 0])), (q22, .inl (cI, 60, .inl (fun _ => 0))), (q23, .inl (cI, 60, .inl (fun _ => 0))), (q24, .inl (cZ, 60, .inl (fun _ => 0))), (q7, .inl (cI, 180, .inl (fun _ => (-1))))]) hx hb hml hown hts hnw hK hP hD hS hA hl.1 (c_X7_add_0 l D cI cZ cB cJ q0 q1 q2 q3 q4 q5 q6 q7 q8 q9) yk_X7_add wn_260 [19, 1, 2, 3, 4, 5] [0, 6, 7, 8, 9, 10, 11, 12, 13, 14, 15, 16, 17, 18, 20] rfl rfl (by decide) (by decide) (by decide) 0 rfl rfl rfl rfl rfl dX1_init_93 ⟨Nat.le_of_ble_eq_true rfl, Nat.le_of_ble_eq_true rfl⟩ ⟨Nat.le_of_ble_eq_true rfl, Nat.le_of_ble_eq_true rfl⟩ (Nat.le_of_ble_eq_true rfl) (fun r9 w1 H locs hq9 hP hD hS => ?_)
  obtain ⟨rfl, rfl⟩ := hq9
  have hP := hP.sub (ws' := [(h0, .inr (1, [.ref q0, .ref q10, .ref q15, .ref q20, .ref q22, .ref q23, .ref q24, .int 0, .int 0, .int 0, .int 0, .int 0])), (q6, .inl (cI, 60, .inl (fun _ => 0))), (q8, .inl (cI, 60, .inl (fun _ => 0))), (q10, .inr (9, [.ref q11, .ref q12])), (q11, .inr (4, [.ref q12, .ref q14])), (q12, .inr (6, [.ref q13, .int 4])), (q13, .inl (cI, 144, .inl (upd (upd (upd (upd (upd (upd (upd (upd (upd (upd (upd (upd (upd (upd (upd (upd (upd (upd (upd (upd (upd (fun _ => 0) 1 (-1)) 2 (-1)) 3 1) 4 1) 5 (-1)) 6 1) 7 (-1)) 8 (-1)) 9 1) 10 1) 11 (-1)) 12 2) 13 (-1)) 14 (-1)) 15 1) 16 1) 17 (-1)) 18 4) 21 3) 22 2) 23 (-1)))), (q15, .inr (2, [.ref q16, .ref q17])), (q16, .inr (4, [.ref q17, .ref q19])), (q17, .inr (6, [.ref q18, .int 3])), (q20, .inr (6, [.ref q21, .int 0])), (q22, .inl (cI, 60, .inl (fun _ => 0))), (q23, .inl (cI, 60, .inl (fun _ => 0))), (q24, .inl (cZ, 60, .inl (fun _ => 0))), (q7, .inl (cI, 180, .inl (fun _ => (-1)))), (q0, .inr (7, [.ref q1, .ref q2, .ref q3, .ref q4, .ref q5, .ref q6, .ref q7, .ref q8, .ref q9, .int 1, .int 0, .int 0])), (q1, .inl (cI, 60, .inl (fun _ => 0))), (q2, .inl (cI, 60, .inl (upd (fun _ => 0) 0 (-1)))), (q4, .inl (cI, 60, .inl (fun _ => 0)))]) [0, 1, 2, 3, 4, 5, 6, 7, 8, 9, 10, 11, 12, 13, 14, 15, 16, 17, 19] rfl
  have hD := hD.sub (ws' := [(h0, .inr (1, [.ref q0, .ref q10, .ref q15, .ref q20, .ref q22, .ref q23, .ref q24, .int 0, .int 0, .int 0, .int 0, .int 0])), (q6, .inl (cI, 60, .inl (fun _ => 0))), (q8, .inl (cI, 60, .inl (fun _ => 0))), (q10, .inr (9, [.ref q11, .ref q12])), (q11, .inr (4, [.ref q12, .ref q14])), (q12, .inr (6, [.ref q13, .int 4])), (q13, .inl (cI, 144, .inl (upd (upd (upd (upd (upd (upd (upd (upd (upd (upd (upd (upd (upd (upd (upd (upd (upd (upd (upd (upd (upd (fun _ => 0) 1 (-1)) 2 (-1)) 3 1) 4 1) 5 (-1)) 6 1) 7 (-1)) 8 (-1)) 9 1) 10 1) 11 (-1)) 12 2) 13 (-1)) 14 (-1)) 15 1) 16 1) 17 (-1)) 18 4) 21 3) 22 2) 23 (-1)))), (q15, .inr (2, [.ref q16, .ref q17])), (q16, .inr (4, [.ref q17, .ref q19])), (q17, .inr (6, [.ref q18, .int 3])), (q20, .inr (6, [.ref q21, .int 0])), (q22, .inl (cI, 60, .inl (fun _ => 0))), (q23, .inl (cI, 60, .inl (fun _ => 0))), (q24, .inl (cZ, 60, .inl (fun _ => 0))), (q7, .inl (cI, 180, .inl (fun _ => (-1)))), (q0, .inr (7, [.ref q1, .ref q2, .ref q3, .ref q4, .ref q5, .ref q6, .ref q7, .ref q8, .ref q9, .int 1, .int 0, .int 0])), (q1, .inl (cI, 60, .inl (fun _ => 0))), (q2, .inl (cI, 60, .inl (upd (fun _ => 0) 0 (-1)))), (q4, .inl (cI, 60, .inl (fun _ => 0)))]) [0, 1, 2, 3, 4, 5, 6, 7, 8, 9, 10, 11, 12, 13, 14, 15, 16, 17, 19] (by decide) rfl
  have hP : va_P D vwCl [(h0, .inr (1, [.ref q0, .ref q10, .ref q15, .ref q20, .ref q22, .ref q23, .ref q24, .int 0, .int 0, .int 0, .int 0, .int 0])), (q6, .inl (cI, 60, .inl (fun _ => 0))), (q8, .inl (cI, 60, .inl (fun _ => 0))), (q10, .inr (9, [.ref q11, .ref q12])), (q11, .inr (4, [.ref q12, .ref q14])), (q12, .inr (6, [.ref q13, .int 4])), (q13, .inl (cI, 144, .inl (upd (upd (upd (upd (upd (upd (upd (upd (upd (upd (upd (upd (upd (upd (upd (upd (upd (upd (upd (upd (upd (fun _ => 0) 1 (-1)) 2 (-1)) 3 1) 4 1) 5 (-1)) 6 1) 7 (-1)) 8 (-1)) 9 1) 10 1) 11 (-1)) 12 2) 13 (-1)) 14 (-1)) 15 1) 16 1) 17 (-1)) 18 4) 21 3) 22 2) 23 (-1)))), (q15, .inr (2, [.ref q16, .ref q17])), (q16, .inr (4, [.ref q17, .ref q19])), (q17, .inr (6, [.ref q18, .int 3])), (q20, .inr (6, [.ref q21, .int 0])), (q22, .inl (cI, 60, .inl (fun _ => 0))), (q23, .inl (cI, 60, .inl (fun _ => 0))), (q24, .inl (cZ, 60, .inl (fun _ => 0))), (q7, .inl (cI, 180, .inl (fun _ => (-1)))), (q0, .inr (7, [.ref q1, .ref q2, .ref q3, .ref q4, .ref q5, .ref q6, .ref q7, .ref q8, .ref q9, .int 1, .int 0, .int 0])), (q1, .inl (cI, 60, .inl (fun _ => 0))), (q2, .inl (cI, 60, .inl (upd (fun _ => 0) 0 (-1)))), (q4, .inl (cI, 60, .inl (fun _ => 0)))] H := hP
  have hD : va_D A [(h0, .inr (1, [.ref q0, .ref q10, .ref q15, .ref q20, .ref q22, .ref q23, .ref q24, .int 0, .int 0, .int 0, .int 0, .int 0])), (q6, .inl (cI, 60, .inl (fun _ => 0))), (q8, .inl (cI, 60, .inl (fun _ => 0))), (q10, .inr (9, [.ref q11, .ref q12])), (q11, .inr (4, [.ref q12, .ref q14])), (q12, .inr (6, [.ref q13, .int 4])), (q13, .inl (cI, 144, .inl (upd (upd (upd (upd (upd (upd (upd (upd (upd (upd (upd (upd (upd (upd (upd (upd (upd (upd (upd (upd (upd (fun _ => 0) 1 (-1)) 2 (-1)) 3 1) 4 1) 5 (-1)) 6 1) 7 (-1)) 8 (-1)) 9 1) 10 1) 11 (-1)) 12 2) 13 (-1)) 14 (-1)) 15 1) 16 1) 17 (-1)) 18 4) 21 3) 22 2) 23 (-1)))), (q15, .inr (2, [.ref q16, .ref q17])), (q16, .inr (4, [.ref q17, .ref q19])), (q17, .inr (6, [.ref q18, .int 3])), (q20, .inr (6, [.ref q21, .int 0])), (q22, .inl (cI, 60, .inl (fun _ => 0))), (q23, .inl (cI, 60, .inl (fun _ => 0))), (q24, .inl (cZ, 60, .inl (fun _ => 0))), (q7, .inl (cI, 180, .inl (fun _ => (-1)))), (q0, .inr (7, [.ref q1, .ref q2, .ref q3, .ref q4, .ref q5, .ref q6, .ref q7, .ref q8, .ref q9, .int 1, .int 0, .int 0])), (q1, .inl (cI, 60, .inl (fun _ => 0))), (q2, .inl (cI, 60, .inl (upd (fun _ => 0) 0 (-1)))), (q4, .inl (cI, 60, .inl (fun _ => 0)))] := hD
  refine W.widen (k := 25) (n := 1330) (Nat.le_of_ble_eq_true rfl) (Nat.le_of_ble_eq_true rfl) ?_
  refine pcn (b := 96) rfl ?_
  refine kVNv (As := [.int 0]) (rest := []) (wr := [(h0, .inr (1, [.ref q0, .ref q10, .ref q15, .ref q20, .ref q22, .ref q23, .ref q24, .int 0, .int 0, .int 0, .int 0, .int 0])), (q10, .inr (9, [.ref q11, .ref q12])), (q11, .inr (4, [.ref q12, .ref q14])), (q12, .inr (6, [.ref q13, .int 4])), (q13, .inl (cI, 144, .inl (upd (upd (upd (upd (upd (upd (upd (upd (upd (upd (upd (upd (upd (upd (upd (upd (upd (upd (upd (upd (upd (fun _ => 0) 1 (-1)) 2 (-1)) 3 1) 4 1) 5 (-1)) 6 1) 7 (-1)) 8 (-1)) 9 1) 10 1) 11 (-1)) 12 2) 13 (-1)) 14 (-1)) 15 1) 16 1) 17 (-1)) 18 4) 21 3) 22 2) 23 (-1)))), (q15, .inr (2, [.ref q16, .ref q17])), (q16, .inr (4, [.ref q17, .ref q19])), (q17, .inr (6, [.ref q18, .int 3])), (q20, .inr (6, [.ref q21, .int 0])), (q22, .inl (cI, 60, .inl (fun _ => 0))), (q23, .inl (cI, 60, .inl (fun _ => 0))), (q24, .inl (cZ, 60, .inl (fun _ => 0))), (q7, .inl (cI, 180, .inl (fun _ => (-1)))), (q1, .inl (cI, 60, .inl (fun _ => 0))), (q2, .inl (cI, 60, .inl (upd (fun _ => 0) 0 (-1)))), (q4, .inl (cI, 60, .inl (fun _ => 0)))]) hx hb hml hown hts hnw hK hP hD hS hA hl.1 (c_X7_end_0 l D cI cZ cB cJ q0 q6 q8 q1 q2 q3 q4 q5 q7 q9) yk_X7_end wn_265 [15, 1, 2] [0, 3, 4, 5, 6, 7, 8, 9, 10, 11, 12, 13, 14, 16, 17, 18] rfl rfl (by decide) (by decide) (by decide) 0 rfl rfl rfl rfl rfl dX1_init_96 ⟨Nat.le_of_ble_eq_true rfl, Nat.le_of_ble_eq_true rfl⟩ ⟨Nat.le_of_ble_eq_true rfl, Nat.le_of_ble_eq_true rfl⟩ (Nat.le_of_ble_eq_true rfl) (fun w1 H locs hq9 hP hD hS => ?_)
  obtain rfl := hq9
  have hP : va_P D vwCl [(h0, .inr (1, [.ref q0, .ref q10, .ref q15, .ref q20, .ref q22, .ref q23, .ref q24, .int 0, .int 0, .int 0, .int 0, .int 0])), (q10, .inr (9, [.ref q11, .ref q12])), (q11, .inr (4, [.ref q12, .ref q14])), (q12, .inr (6, [.ref q13, .int 4])), (q13, .inl (cI, 144, .inl (upd (upd (upd (upd (upd (upd (upd (upd (upd (upd (upd (upd (upd (upd (upd (upd (upd (upd (upd (upd (upd (fun _ => 0) 1 (-1)) 2 (-1)) 3 1) 4 1) 5 (-1)) 6 1) 7 (-1)) 8 (-1)) 9 1) 10 1) 11 (-1)) 12 2) 13 (-1)) 14 (-1)) 15 1) 16 1) 17 (-1)) 18 4) 21 3) 22 2) 23 (-1)))), (q15, .inr (2, [.ref q16, .ref q17])), (q16, .inr (4, [.ref q17, .ref q19])), (q17, .inr (6, [.ref q18, .int 3])), (q20, .inr (6, [.ref q21, .int 0])), (q22, .inl (cI, 60, .inl (fun _ => 0))), (q23, .inl (cI, 60, .inl (fun _ => 0))), (q24, .inl (cZ, 60, .inl (fun _ => 0))), (q7, .inl (cI, 180, .inl (fun _ => (-1)))), (q1, .inl (cI, 60, .inl (fun _ => 0))), (q2, .inl (cI, 60, .inl (upd (fun _ => 0) 0 (-1)))), (q4, .inl (cI, 60, .inl (fun _ => 0))), (q0, .inr (7, [.ref q1, .ref q2, .ref q3, .ref q4, .ref q5, .ref q6, .ref q7, .ref q8, .ref q9, .int 1, .int 1, .int 0])), (q6, .inl (cI, 60, .inl (upd (fun _ => 0) 0 1))), (q8, .inl (cI, 60, .inl (fun _ => 0)))] H := hP
  have hD : va_D A [(h0, .inr (1, [.ref q0, .ref q10, .ref q15, .ref q20, .ref q22, .ref q23, .ref q24, .int 0, .int 0, .int 0, .int 0, .int 0])), (q10, .inr (9, [.ref q11, .ref q12])), (q11, .inr (4, [.ref q12, .ref q14])), (q12, .inr (6, [.ref q13, .int 4])), (q13, .inl (cI, 144, .inl (upd (upd (upd (upd (upd (upd (upd (upd (upd (upd (upd (upd (upd (upd (upd (upd (upd (upd (upd (upd (upd (fun _ => 0) 1 (-1)) 2 (-1)) 3 1) 4 1) 5 (-1)) 6 1) 7 (-1)) 8 (-1)) 9 1) 10 1) 11 (-1)) 12 2) 13 (-1)) 14 (-1)) 15 1) 16 1) 17 (-1)) 18 4) 21 3) 22 2) 23 (-1)))), (q15, .inr (2, [.ref q16, .ref q17])), (q16, .inr (4, [.ref q17, .ref q19])), (q17, .inr (6, [.ref q18, .int 3])), (q20, .inr (6, [.ref q21, .int 0])), (q22, .inl (cI, 60, .inl (fun _ => 0))), (q23, .inl (cI, 60, .inl (fun _ => 0))), (q24, .inl (cZ, 60, .inl (fun _ => 0))), (q7, .inl (cI, 180, .inl (fun _ => (-1)))), (q1, .inl (cI, 60, .inl (fun _ => 0))), (q2, .inl (cI, 60, .inl (upd (fun _ => 0) 0 (-1)))), (q4, .inl (cI, 60, .inl (fun _ => 0))), (q0, .inr (7, [.ref q1, .ref q2, .ref q3, .ref q4, .ref q5, .ref q6, .ref q7, .ref q8, .ref q9, .int 1, .int 1, .int 0])), (q6, .inl (cI, 60, .inl (upd (fun _ => 0) 0 1))), (q8, .inl (cI, 60, .inl (fun _ => 0)))] := hD
  refine W.widen (k := 25) (n := 1330) (Nat.le_of_ble_eq_true rfl) (Nat.le_of_ble_eq_true rfl) ?_
  refine pcn (b := 99) rfl ?_
  refine lv_aload_n hx hb dX1_init_99 rfl (lv_at hl 0 rfl) ?_
  refine kVv (As := []) (rest := []) (wr := [(q11, .inr (4, [.ref q12, .ref q14])), (q13, .inl (cI, 144, .inl (upd (upd (upd (upd (upd (upd (upd (upd (upd (upd (upd (upd (upd (upd (upd (upd (upd (upd (upd (upd (upd (fun _ => 0) 1 (-1)) 2 (-1)) 3 1) 4 1) 5 (-1)) 6 1) 7 (-1)) 8 (-1)) 9 1) 10 1) 11 (-1)) 12 2) 13 (-1)) 14 (-1)) 15 1) 16 1) 17 (-1)) 18 4) 21 3) 22 2) 23 (-1)))), (q15, .inr (2, [.ref q16, .ref q17])), (q16, .inr (4, [.ref q17, .ref q19])), (q17, .inr (6, [.ref q18, .int 3])), (q20, .inr (6, [.ref q21, .int 0])), (q22, .inl (cI, 60, .inl (fun _ => 0))), (q23, .inl (cI, 60, .inl (fun _ => 0))), (q24, .inl (cZ, 60, .inl (fun _ => 0))), (q7, .inl (cI, 180, .inl (fun _ => (-1)))), (q1, .inl (cI, 60, .inl (fun _ => 0))), (q2, .inl (cI, 60, .inl (upd (fun _ => 0) 0 (-1)))), (q4, .inl (cI, 60, .inl (fun _ => 0))), (q0, .inr (7, [.ref q1, .ref q2, .ref q3, .ref q4, .ref q5, .ref q6, .ref q7, .ref q8, .ref q9, .int 1, .int 1, .int 0])), (q6, .inl (cI, 60, .inl (upd (fun _ => 0) 0 1))), (q8, .inl (cI, 60, .inl (fun _ => 0)))]) hx hb hml hown hts hnw hK hP hD hS hA hl.1 (c_X1_asTold_0 l D cI cZ cB cJ h0 q10 q12 q0 q15 q20 q22 q23 q24 q11 q13) yk_X1_asTold wm_269 [0, 1, 3] [2, 4, 5, 6, 7, 8, 9, 10, 11, 12, 13, 14, 15, 16, 17, 18] rfl rfl (by decide) (by decide) (by decide) 0 rfl rfl rfl rfl rfl dX1_init_100 ⟨Nat.le_of_ble_eq_true rfl, Nat.le_of_ble_eq_true rfl⟩ ⟨Nat.le_of_ble_eq_true rfl, Nat.le_of_ble_eq_true rfl⟩ (Nat.le_of_ble_eq_true rfl) (fun w1 H locs hq9 hP hD hS => ?_)
  obtain rfl := hq9
  have hP : va_P D vwCl [(q11, .inr (4, [.ref q12, .ref q14])), (q13, .inl (cI, 144, .inl (upd (upd (upd (upd (upd (upd (upd (upd (upd (upd (upd (upd (upd (upd (upd (upd (upd (upd (upd (upd (upd (fun _ => 0) 1 (-1)) 2 (-1)) 3 1) 4 1) 5 (-1)) 6 1) 7 (-1)) 8 (-1)) 9 1) 10 1) 11 (-1)) 12 2) 13 (-1)) 14 (-1)) 15 1) 16 1) 17 (-1)) 18 4) 21 3) 22 2) 23 (-1)))), (q15, .inr (2, [.ref q16, .ref q17])), (q16, .inr (4, [.ref q17, .ref q19])), (q17, .inr (6, [.ref q18, .int 3])), (q20, .inr (6, [.ref q21, .int 0])), (q22, .inl (cI, 60, .inl (fun _ => 0))), (q23, .inl (cI, 60, .inl (fun _ => 0))), (q24, .inl (cZ, 60, .inl (fun _ => 0))), (q7, .inl (cI, 180, .inl (fun _ => (-1)))), (q1, .inl (cI, 60, .inl (fun _ => 0))), (q2, .inl (cI, 60, .inl (upd (fun _ => 0) 0 (-1)))), (q4, .inl (cI, 60, .inl (fun _ => 0))), (q0, .inr (7, [.ref q1, .ref q2, .ref q3, .ref q4, .ref q5, .ref q6, .ref q7, .ref q8, .ref q9, .int 1, .int 1, .int 0])), (q6, .inl (cI, 60, .inl (upd (fun _ => 0) 0 1))), (q8, .inl (cI, 60, .inl (fun _ => 0))), (h0, .inr (1, [.ref q0, .ref q10, .ref q15, .ref q20, .ref q22, .ref q23, .ref q24, .int 4, .int 0, .int 0, .int (-1), .int 0])), (q10, .inr (9, [.ref q11, .ref q12])), (q12, .inr (6, [.ref q13, .int 4]))] H := hP
  have hD : va_D A [(q11, .inr (4, [.ref q12, .ref q14])), (q13, .inl (cI, 144, .inl (upd (upd (upd (upd (upd (upd (upd (upd (upd (upd (upd (upd (upd (upd (upd (upd (upd (upd (upd (upd (upd (fun _ => 0) 1 (-1)) 2 (-1)) 3 1) 4 1) 5 (-1)) 6 1) 7 (-1)) 8 (-1)) 9 1) 10 1) 11 (-1)) 12 2) 13 (-1)) 14 (-1)) 15 1) 16 1) 17 (-1)) 18 4) 21 3) 22 2) 23 (-1)))), (q15, .inr (2, [.ref q16, .ref q17])), (q16, .inr (4, [.ref q17, .ref q19])), (q17, .inr (6, [.ref q18, .int 3])), (q20, .inr (6, [.ref q21, .int 0])), (q22, .inl (cI, 60, .inl (fun _ => 0))), (q23, .inl (cI, 60, .inl (fun _ => 0))), (q24, .inl (cZ, 60, .inl (fun _ => 0))), (q7, .inl (cI, 180, .inl (fun _ => (-1)))), (q1, .inl (cI, 60, .inl (fun _ => 0))), (q2, .inl (cI, 60, .inl (upd (fun _ => 0) 0 (-1)))), (q4, .inl (cI, 60, .inl (fun _ => 0))), (q0, .inr (7, [.ref q1, .ref q2, .ref q3, .ref q4, .ref q5, .ref q6, .ref q7, .ref q8, .ref q9, .int 1, .int 1, .int 0])), (q6, .inl (cI, 60, .inl (upd (fun _ => 0) 0 1))), (q8, .inl (cI, 60, .inl (fun _ => 0))), (h0, .inr (1, [.ref q0, .ref q10, .ref q15, .ref q20, .ref q22, .ref q23, .ref q24, .int 4, .int 0, .int 0, .int (-1), .int 0])), (q10, .inr (9, [.ref q11, .ref q12])), (q12, .inr (6, [.ref q13, .int 4]))] := hD
  refine W.widen (k := 25) (n := 1330) (Nat.le_of_ble_eq_true rfl) (Nat.le_of_ble_eq_true rfl) ?_
  refine pcn (b := 103) rfl ?_
  refine W.widen (k := 25) (n := 1330) (Nat.le_of_ble_eq_true rfl) (Nat.le_of_ble_eq_true rfl) ?_
  have hP := hP.sub (ws' := [(h0, .inr (1, [.ref q0, .ref q10, .ref q15, .ref q20, .ref q22, .ref q23, .ref q24, .int 4, .int 0, .int 0, .int (-1), .int 0])), (q0, .inr (7, [.ref q1, .ref q2, .ref q3, .ref q4, .ref q5, .ref q6, .ref q7, .ref q8, .ref q9, .int 1, .int 1, .int 0])), (q1, .inl (cI, 60, .inl (fun _ => 0))), (q2, .inl (cI, 60, .inl (upd (fun _ => 0) 0 (-1)))), (q4, .inl (cI, 60, .inl (fun _ => 0))), (q6, .inl (cI, 60, .inl (upd (fun _ => 0) 0 1))), (q7, .inl (cI, 180, .inl (fun _ => (-1)))), (q8, .inl (cI, 60, .inl (fun _ => 0))), (q10, .inr (9, [.ref q11, .ref q12])), (q11, .inr (4, [.ref q12, .ref q14])), (q12, .inr (6, [.ref q13, .int 4])), (q13, .inl (cI, 144, .inl (upd (upd (upd (upd (upd (upd (upd (upd (upd (upd (upd (upd (upd (upd (upd (upd (upd (upd (upd (upd (upd (fun _ => 0) 1 (-1)) 2 (-1)) 3 1) 4 1) 5 (-1)) 6 1) 7 (-1)) 8 (-1)) 9 1) 10 1) 11 (-1)) 12 2) 13 (-1)) 14 (-1)) 15 1) 16 1) 17 (-1)) 18 4) 21 3) 22 2) 23 (-1)))), (q15, .inr (2, [.ref q16, .ref q17])), (q16, .inr (4, [.ref q17, .ref q19])), (q17, .inr (6, [.ref q18, .int 3])), (q20, .inr (6, [.ref q21, .int 0])), (q22, .inl (cI, 60, .inl (fun _ => 0))), (q23, .inl (cI, 60, .inl (fun _ => 0))), (q24, .inl (cZ, 60, .inl (fun _ => 0)))]) [16, 13, 10, 11, 12, 14, 9, 15, 17, 0, 18, 1, 2, 3, 4, 5, 6, 7, 8] rfl
  have hD := hD.sub (ws' := [(h0, .inr (1, [.ref q0, .ref q10, .ref q15, .ref q20, .ref q22, .ref q23, .ref q24, .int 4, .int 0, .int 0, .int (-1), .int 0])), (q0, .inr (7, [.ref q1, .ref q2, .ref q3, .ref q4, .ref q5, .ref q6, .ref q7, .ref q8, .ref q9, .int 1, .int 1, .int 0])), (q1, .inl (cI, 60, .inl (fun _ => 0))), (q2, .inl (cI, 60, .inl (upd (fun _ => 0) 0 (-1)))), (q4, .inl (cI, 60, .inl (fun _ => 0))), (q6, .inl (cI, 60, .inl (upd (fun _ => 0) 0 1))), (q7, .inl (cI, 180, .inl (fun _ => (-1)))), (q8, .inl (cI, 60, .inl (fun _ => 0))), (q10, .inr (9, [.ref q11, .ref q12])), (q11, .inr (4, [.ref q12, .ref q14])), (q12, .inr (6, [.ref q13, .int 4])), (q13, .inl (cI, 144, .inl (upd (upd (upd (upd (upd (upd (upd (upd (upd (upd (upd (upd (upd (upd (upd (upd (upd (upd (upd (upd (upd (fun _ => 0) 1 (-1)) 2 (-1)) 3 1) 4 1) 5 (-1)) 6 1) 7 (-1)) 8 (-1)) 9 1) 10 1) 11 (-1)) 12 2) 13 (-1)) 14 (-1)) 15 1) 16 1) 17 (-1)) 18 4) 21 3) 22 2) 23 (-1)))), (q15, .inr (2, [.ref q16, .ref q17])), (q16, .inr (4, [.ref q17, .ref q19])), (q17, .inr (6, [.ref q18, .int 3])), (q20, .inr (6, [.ref q21, .int 0])), (q22, .inl (cI, 60, .inl (fun _ => 0))), (q23, .inl (cI, 60, .inl (fun _ => 0))), (q24, .inl (cZ, 60, .inl (fun _ => 0)))]) [16, 13, 10, 11, 12, 14, 9, 15, 17, 0, 18, 1, 2, 3, 4, 5, 6, 7, 8] (by decide) rfl
  exact rtV hx hb hr hlocks hS hP hD ⟨q0, q1, q2, q3, q4, q5, q6, q7, q8, q9, q10, q11, q12, q13, q14, q15, q16, q17, q18, q19, q20, q21, q22, q23, q24, rfl⟩ dX1_init_103

set_option maxHeartbeats 4000000 in
set_option maxRecDepth 100000 in
theorem c_X8_init_0 (l : Launch) (D : va_G) (cI cZ cB cJ : ClassId) (h0 h1 g0 g1 g2 g3 g4 g5 g6 g7 : Nat) : CtV l D (TT cI cZ cB cJ) yX8_init cX8_init 3 none 1 20 0 0 [.ref h0, .ref g0, .ref h1] [(h0, .inr (8, [.null, .null, .null])), (h1, .inr (1, [.ref g1, .ref g2, .ref g3, .ref g4, .ref g5, .ref g6, .ref g7, .int 4, .int 0, .int 0, .int (-1), .int 0]))] (fun w1 => w1 = [(h0, .inr (8, [.ref g0, .ref g1, .ref g2])), (h1, .inr (1, [.ref g1, .ref g2, .ref g3, .ref g4, .ref g5, .ref g6, .ref g7, .int 4, .int 0, .int 0, .int (-1), .int 0]))]) := by
  refine CtV.of (by decide +kernel) (Nat.le_of_ble_eq_true rfl) ?_
  intro p e s m below meth c A ls hx hb hr hml hown hts hnw hlocks hin hA hS hP hK hD hl
  have hown : s.vm.findClass RX8 = some m.cls := hown
  have hl : lv_has ls 3 [(0, .ref h0), (1, .ref g0), (2, .ref h1)] := hl
  have hin : meth.name = "<init>" := hin
  refine lv_aload_n hx hb dX8_init_0 rfl (lv_at hl 0 rfl) ?_
  refine W.objInit hx hb hown (hts _ wm_332) (hts _ wm_27) (hts _ wm_28) rfl (by rw [hml]; exact hl.1) rfl dX8_init_1 (Nat.le_of_ble_eq_true rfl) (Nat.le_of_ble_eq_true rfl) ?_
  refine W.eq (g2 := F0 m 4 ls []) rfl ?_
  refine lv_aload_n hx hb dX8_init_4 rfl (lv_at hl 0 rfl) ?_
  refine lv_aload_n hx hb dX8_init_5 rfl (lv_at hl 1 rfl) ?_
  refine va_putF (D := D) (ci := 8) (v := .ref g0) (ty := (.object "GradualCheck$Scanner")) (C := RX8) (T := TX8) (N := 3) hx hb hts inX8 tyX8 tyX8_ok nmX8 hown hK hP hD hS 0 rfl rfl 0 (by decide) (hts _ wm_333) (fun _ h9 => h9) rfl hin rfl (by decide +kernel) rfl rfl (Nat.le_of_ble_eq_true rfl) dX8_init_6 (fun H locs hP hD hS => ?_)
  have hP : va_P D vwCl [(h0, .inr (8, [.ref g0, .null, .null])), (h1, .inr (1, [.ref g1, .ref g2, .ref g3, .ref g4, .ref g5, .ref g6, .ref g7, .int 4, .int 0, .int 0, .int (-1), .int 0]))] H := hP
  have hD : va_D A [(h0, .inr (8, [.ref g0, .null, .null])), (h1, .inr (1, [.ref g1, .ref g2, .ref g3, .ref g4, .ref g5, .ref g6, .ref g7, .int 4, .int 0, .int 0, .int (-1), .int 0]))] := hD
  refine lv_aload_n hx hb dX8_init_9 rfl (lv_at hl 0 rfl) ?_
  refine lv_aload_n hx hb dX8_init_10 rfl (lv_at hl 2 rfl) ?_
  refine pcn (b := 11) rfl ?_
  refine va_getN (D := D) (ci := 1) (v := .ref g1) (C := RX1) (T := TX1) (N := 12) hx hb hts inX1 hown hK hP 1 rfl rfl 0 (by decide) (va_Nw.use rfl (hnw _ wn_273)) (fun _ h9 => h9) rfl dX8_init_11 ?_
  refine va_put (D := D) (ci := 8) (v := .ref g1) (ty := (.object "GradualCheck$Term")) (C := RX8) (T := TX8) (N := 3) hx hb hts inX8 tyX8 tyX8_ok nmX8 hown hK hP hD hS 0 rfl rfl 1 (by decide) (hts _ wm_334) (fun _ h9 => h9) rfl (by decide +kernel) rfl rfl (Nat.le_of_ble_eq_true rfl) dX8_init_14 (fun H locs hP hD hS => ?_)
  have hP : va_P D vwCl [(h0, .inr (8, [.ref g0, .ref g1, .null])), (h1, .inr (1, [.ref g1, .ref g2, .ref g3, .ref g4, .ref g5, .ref g6, .ref g7, .int 4, .int 0, .int 0, .int (-1), .int 0]))] H := hP
  have hD : va_D A [(h0, .inr (8, [.ref g0, .ref g1, .null])), (h1, .inr (1, [.ref g1, .ref g2, .ref g3, .ref g4, .ref g5, .ref g6, .ref g7, .int 4, .int 0, .int 0, .int (-1), .int 0]))] := hD
  refine lv_aload_n hx hb dX8_init_17 rfl (lv_at hl 0 rfl) ?_
  refine lv_aload_n hx hb dX8_init_18 rfl (lv_at hl 2 rfl) ?_
  refine va_getN (D := D) (ci := 1) (v := .ref g2) (C := RX1) (T := TX1) (N := 12) hx hb hts inX1 hown hK hP 1 rfl rfl 1 (by decide) (va_Nw.use rfl (hnw _ wn_278)) (fun _ h9 => h9) rfl dX8_init_19 ?_
  refine va_put (D := D) (ci := 8) (v := .ref g2) (ty := (.object "GradualCheck$Types")) (C := RX8) (T := TX8) (N := 3) hx hb hts inX8 tyX8 tyX8_ok nmX8 hown hK hP hD hS 0 rfl rfl 2 (by decide) (hts _ wm_335) (fun _ h9 => h9) rfl (by decide +kernel) rfl rfl (Nat.le_of_ble_eq_true rfl) dX8_init_22 (fun H locs hP hD hS => ?_)
  have hP : va_P D vwCl [(h0, .inr (8, [.ref g0, .ref g1, .ref g2])), (h1, .inr (1, [.ref g1, .ref g2, .ref g3, .ref g4, .ref g5, .ref g6, .ref g7, .int 4, .int 0, .int 0, .int (-1), .int 0]))] H := hP
  have hD : va_D A [(h0, .inr (8, [.ref g0, .ref g1, .ref g2])), (h1, .inr (1, [.ref g1, .ref g2, .ref g3, .ref g4, .ref g5, .ref g6, .ref g7, .int 4, .int 0, .int 0, .int (-1), .int 0]))] := hD
  refine W.widen (k := 0) (n := 0) (Nat.le_of_ble_eq_true rfl) (Nat.le_of_ble_eq_true rfl) ?_
  exact rtV hx hb hr hlocks hS hP hD rfl dX8_init_25

set_option maxHeartbeats 4000000 in
set_option maxRecDepth 100000 in
theorem c_X3_init_0 (l : Launch) (D : va_G) (cI cZ cB cJ : ClassId) (h0 g0 : Nat) : CtV l D (TT cI cZ cB cJ) yX3_init cX3_init 2 none 2 42 4 196 [.ref h0, .ref g0] [(h0, .inr (3, [.null, .null, .null, .int 0, .int 0, .int 0, .int 0, .int 0, .int 0, .int 0, .int 0, .int 0, .int 0, .int 0, .int 0, .int 0, .int 0, .int 0, .int 0]))] (fun w1 => ∃ (q0 q1 q2 q3 : Nat), w1 = [(h0, .inr (3, [.ref q0, .ref q2, .ref g0, .int (-1), .int 0, .int 0, .int 0, .int 0, .int 0, .int 0, .int 0, .int 0, .int 0, .int 0, .int 0, .int 0, .int 0, .int 0, .int 0])), (q0, .inr (6, [.ref q1, .int 0])), (q2, .inr (6, [.ref q3, .int 0]))]) := by
  refine CtV.of (by decide +kernel) (Nat.le_of_ble_eq_true rfl) ?_
  intro p e s m below meth c A ls hx hb hr hml hown hts hnw hlocks hin hA hS hP hK hD hl
  have hown : s.vm.findClass RX3 = some m.cls := hown
  have hl : lv_has ls 2 [(0, .ref h0), (1, .ref g0)] := hl
  have hin : meth.name = "<init>" := hin
  refine lv_aload_n hx hb dX3_init_0 rfl (lv_at hl 0 rfl) ?_
  refine W.objInit hx hb hown (hts _ wm_348) (hts _ wm_27) (hts _ wm_28) rfl (by rw [hml]; exact hl.1) rfl dX3_init_1 (Nat.le_of_ble_eq_true rfl) (Nat.le_of_ble_eq_true rfl) ?_
  refine W.eq (g2 := F0 m 4 ls []) rfl ?_
  refine lv_aload_n hx hb dX3_init_4 rfl (lv_at hl 0 rfl) ?_
  refine va_new (ci := 6) (fs := [.null, .int 0]) (C := RX6) (T := TX6) (N := 2) hx hb hts inX6 tyX6 tyX6_ok hown (hts _ wm_349) (hts _ wm_144) (hts _ wm_7) hK hP hD hS hA rfl df_X6 (Nat.le_of_ble_eq_true rfl) (Nat.le_of_ble_eq_true rfl) dX3_init_5 (fun q0 H hP hD hS => ?_)
  have hP : va_P D vwCl [(h0, .inr (3, [.null, .null, .null, .int 0, .int 0, .int 0, .int 0, .int 0, .int 0, .int 0, .int 0, .int 0, .int 0, .int 0, .int 0, .int 0, .int 0, .int 0, .int 0])), (q0, .inr (6, [.null, .int 0]))] H := hP
  have hD : va_D A [(h0, .inr (3, [.null, .null, .null, .int 0, .int 0, .int 0, .int 0, .int 0, .int 0, .int 0, .int 0, .int 0, .int 0, .int 0, .int 0, .int 0, .int 0, .int 0, .int 0])), (q0, .inr (6, [.null, .int 0]))] := hD
  refine W.widen (k := 1) (n := 2) (Nat.le_of_ble_eq_true rfl) (Nat.le_of_ble_eq_true rfl) ?_
  refine lv_dup hx hb dX3_init_8 rfl ?_
  refine lv_bipush (v := 16) hx hb dX3_init_9 (by decide +kernel) ?_
  refine kINv (As := [.int 16]) (rest := [.ref q0, .ref h0]) (wr := [(h0, .inr (3, [.null, .null, .null, .int 0, .int 0, .int 0, .int 0, .int 0, .int 0, .int 0, .int 0, .int 0, .int 0, .int 0, .int 0, .int 0, .int 0, .int 0, .int 0]))]) hx hb hml hown hts hnw hK hP hD hS hA hl.1 (c_X6_init_1 l D cI cZ cB cJ q0) yk_X6_init wn_350 [1] [0] rfl rfl (by decide) (by decide) (by decide) rfl rfl dX3_init_11 ⟨Nat.le_of_ble_eq_true rfl, Nat.le_of_ble_eq_true rfl⟩ ⟨Nat.le_of_ble_eq_true rfl, Nat.le_of_ble_eq_true rfl⟩ (Nat.le_of_ble_eq_true rfl) (fun w1 H locs hq9 hP hD hS => ?_)
  obtain ⟨q1, rfl⟩ := hq9
  have hP : va_P D vwCl [(h0, .inr (3, [.null, .null, .null, .int 0, .int 0, .int 0, .int 0, .int 0, .int 0, .int 0, .int 0, .int 0, .int 0, .int 0, .int 0, .int 0, .int 0, .int 0, .int 0])), (q0, .inr (6, [.ref q1, .int 0]))] H := hP
  have hD : va_D A [(h0, .inr (3, [.null, .null, .null, .int 0, .int 0, .int 0, .int 0, .int 0, .int 0, .int 0, .int 0, .int 0, .int 0, .int 0, .int 0, .int 0, .int 0, .int 0, .int 0])), (q0, .inr (6, [.ref q1, .int 0]))] := hD
  refine W.widen (k := 2) (n := 98) (Nat.le_of_ble_eq_true rfl) (Nat.le_of_ble_eq_true rfl) ?_
  refine pcn (b := 14) rfl ?_
  refine va_putF (D := D) (ci := 3) (v := .ref q0) (ty := (.object "GradualCheck$Table")) (C := RX3) (T := TX3) (N := 19) hx hb hts inX3 tyX3 tyX3_ok nmX3 hown hK hP hD hS 0 rfl rfl 0 (by decide) (hts _ wm_351) (fun _ h9 => h9) rfl hin rfl (by decide +kernel) rfl rfl (Nat.le_of_ble_eq_true rfl) dX3_init_14 (fun H locs hP hD hS => ?_)
  have hP : va_P D vwCl [(h0, .inr (3, [.ref q0, .null, .null, .int 0, .int 0, .int 0, .int 0, .int 0, .int 0, .int 0, .int 0, .int 0, .int 0, .int 0, .int 0, .int 0, .int 0, .int 0, .int 0])), (q0, .inr (6, [.ref q1, .int 0]))] H := hP
  have hD : va_D A [(h0, .inr (3, [.ref q0, .null, .null, .int 0, .int 0, .int 0, .int 0, .int 0, .int 0, .int 0, .int 0, .int 0, .int 0, .int 0, .int 0, .int 0, .int 0, .int 0, .int 0])), (q0, .inr (6, [.ref q1, .int 0]))] := hD
  refine lv_aload_n hx hb dX3_init_17 rfl (lv_at hl 0 rfl) ?_
  refine va_new (ci := 6) (fs := [.null, .int 0]) (C := RX6) (T := TX6) (N := 2) hx hb hts inX6 tyX6 tyX6_ok hown (hts _ wm_349) (hts _ wm_144) (hts _ wm_7) hK hP hD hS hA rfl df_X6 (Nat.le_of_ble_eq_true rfl) (Nat.le_of_ble_eq_true rfl) dX3_init_18 (fun q2 H hP hD hS => ?_)
  have hP : va_P D vwCl [(h0, .inr (3, [.ref q0, .null, .null, .int 0, .int 0, .int 0, .int 0, .int 0, .int 0, .int 0, .int 0, .int 0, .int 0, .int 0, .int 0, .int 0, .int 0, .int 0, .int 0])), (q0, .inr (6, [.ref q1, .int 0])), (q2, .inr (6, [.null, .int 0]))] H := hP
  have hD : va_D A [(h0, .inr (3, [.ref q0, .null, .null, .int 0, .int 0, .int 0, .int 0, .int 0, .int 0, .int 0, .int 0, .int 0, .int 0, .int 0, .int 0, .int 0, .int 0, .int 0, .int 0])), (q0, .inr (6, [.ref q1, .int 0])), (q2, .inr (6, [.null, .int 0]))] := hD
  refine W.widen (k := 3) (n := 100) (Nat.le_of_ble_eq_true rfl) (Nat.le_of_ble_eq_true rfl) ?_
  refine lv_dup hx hb dX3_init_21 rfl ?_
  refine lv_bipush (v := 16) hx hb dX3_init_22 (by decide +kernel) ?_
  refine kINv (As := [.int 16]) (rest := [.ref q2, .ref h0]) (wr := [(h0, .inr (3, [.ref q0, .null, .null, .int 0, .int 0, .int 0, .int 0, .int 0, .int 0, .int 0, .int 0, .int 0, .int 0, .int 0, .int 0, .int 0, .int 0, .int 0, .int 0])), (q0, .inr (6, [.ref q1, .int 0]))]) hx hb hml hown hts hnw hK hP hD hS hA hl.1 (c_X6_init_1 l D cI cZ cB cJ q2) yk_X6_init wn_350 [2] [0, 1] rfl rfl (by decide) (by decide) (by decide) rfl rfl dX3_init_24 ⟨Nat.le_of_ble_eq_true rfl, Nat.le_of_ble_eq_true rfl⟩ ⟨Nat.le_of_ble_eq_true rfl, Nat.le_of_ble_eq_true rfl⟩ (Nat.le_of_ble_eq_true rfl) (fun w1 H locs hq9 hP hD hS => ?_)
  obtain ⟨q3, rfl⟩ := hq9
  have hP : va_P D vwCl [(h0, .inr (3, [.ref q0, .null, .null, .int 0, .int 0, .int 0, .int 0, .int 0, .int 0, .int 0, .int 0, .int 0, .int 0, .int 0, .int 0, .int 0, .int 0, .int 0, .int 0])), (q0, .inr (6, [.ref q1, .int 0])), (q2, .inr (6, [.ref q3, .int 0]))] H := hP
  have hD : va_D A [(h0, .inr (3, [.ref q0, .null, .null, .int 0, .int 0, .int 0, .int 0, .int 0, .int 0, .int 0, .int 0, .int 0, .int 0, .int 0, .int 0, .int 0, .int 0, .int 0, .int 0])), (q0, .inr (6, [.ref q1, .int 0])), (q2, .inr (6, [.ref q3, .int 0]))] := hD
  refine W.widen (k := 4) (n := 196) (Nat.le_of_ble_eq_true rfl) (Nat.le_of_ble_eq_true rfl) ?_
  refine pcn (b := 27) rfl ?_
  refine va_putF (D := D) (ci := 3) (v := .ref q2) (ty := (.object "GradualCheck$Table")) (C := RX3) (T := TX3) (N := 19) hx hb hts inX3 tyX3 tyX3_ok nmX3 hown hK hP hD hS 0 rfl rfl 1 (by decide) (hts _ wm_352) (fun _ h9 => h9) rfl hin rfl (by decide +kernel) rfl rfl (Nat.le_of_ble_eq_true rfl) dX3_init_27 (fun H locs hP hD hS => ?_)
  have hP : va_P D vwCl [(h0, .inr (3, [.ref q0, .ref q2, .null, .int 0, .int 0, .int 0, .int 0, .int 0, .int 0, .int 0, .int 0, .int 0, .int 0, .int 0, .int 0, .int 0, .int 0, .int 0, .int 0])), (q0, .inr (6, [.ref q1, .int 0])), (q2, .inr (6, [.ref q3, .int 0]))] H := hP
  have hD : va_D A [(h0, .inr (3, [.ref q0, .ref q2, .null, .int 0, .int 0, .int 0, .int 0, .int 0, .int 0, .int 0, .int 0, .int 0, .int 0, .int 0, .int 0, .int 0, .int 0, .int 0, .int 0])), (q0, .inr (6, [.ref q1, .int 0])), (q2, .inr (6, [.ref q3, .int 0]))] := hD
  refine lv_aload_n hx hb dX3_init_30 rfl (lv_at hl 0 rfl) ?_
  refine lv_aload_n hx hb dX3_init_31 rfl (lv_at hl 1 rfl) ?_
  refine va_put (D := D) (ci := 3) (v := .ref g0) (ty := (.object "GradualCheck$Check")) (C := RX3) (T := TX3) (N := 19) hx hb hts inX3 tyX3 tyX3_ok nmX3 hown hK hP hD hS 0 rfl rfl 2 (by decide) (hts _ wm_353) (fun _ h9 => h9) rfl (by decide +kernel) rfl rfl (Nat.le_of_ble_eq_true rfl) dX3_init_32 (fun H locs hP hD hS => ?_)
  have hP : va_P D vwCl [(h0, .inr (3, [.ref q0, .ref q2, .ref g0, .int 0, .int 0, .int 0, .int 0, .int 0, .int 0, .int 0, .int 0, .int 0, .int 0, .int 0, .int 0, .int 0, .int 0, .int 0, .int 0])), (q0, .inr (6, [.ref q1, .int 0])), (q2, .inr (6, [.ref q3, .int 0]))] H := hP
  have hD : va_D A [(h0, .inr (3, [.ref q0, .ref q2, .ref g0, .int 0, .int 0, .int 0, .int 0, .int 0, .int 0, .int 0, .int 0, .int 0, .int 0, .int 0, .int 0, .int 0, .int 0, .int 0, .int 0])), (q0, .inr (6, [.ref q1, .int 0])), (q2, .inr (6, [.ref q3, .int 0]))] := hD
  refine lv_aload_n hx hb dX3_init_35 rfl (lv_at hl 0 rfl) ?_
  refine lv_iconst (v := (-1)) hx hb dX3_init_36 (by decide +kernel) ?_
  refine va_put (D := D) (ci := 3) (v := .int (-1)) (ty := .int) (C := RX3) (T := TX3) (N := 19) hx hb hts inX3 tyX3 tyX3_ok nmX3 hown hK hP hD hS 0 rfl rfl 3 (by decide) (hts _ wm_354) (fun _ h9 => h9) rfl (by decide +kernel) rfl rfl (Nat.le_of_ble_eq_true rfl) dX3_init_37 (fun H locs hP hD hS => ?_)
  have hP : va_P D vwCl [(h0, .inr (3, [.ref q0, .ref q2, .ref g0, .int (-1), .int 0, .int 0, .int 0, .int 0, .int 0, .int 0, .int 0, .int 0, .int 0, .int 0, .int 0, .int 0, .int 0, .int 0, .int 0])), (q0, .inr (6, [.ref q1, .int 0])), (q2, .inr (6, [.ref q3, .int 0]))] H := hP
  have hD : va_D A [(h0, .inr (3, [.ref q0, .ref q2, .ref g0, .int (-1), .int 0, .int 0, .int 0, .int 0, .int 0, .int 0, .int 0, .int 0, .int 0, .int 0, .int 0, .int 0, .int 0, .int 0, .int 0])), (q0, .inr (6, [.ref q1, .int 0])), (q2, .inr (6, [.ref q3, .int 0]))] := hD
  refine W.widen (k := 4) (n := 196) (Nat.le_of_ble_eq_true rfl) (Nat.le_of_ble_eq_true rfl) ?_
  exact rtV hx hb hr hlocks hS hP hD ⟨q0, q1, q2, q3, rfl⟩ dX3_init_40

set_option maxHeartbeats 4000000 in
set_option maxRecDepth 100000 in
theorem c_X10_init_0 (l : Launch) (D : va_G) (cI cZ cB cJ : ClassId) (h0 : Nat) : CtV l D (TT cI cZ cB cJ) yX10_init cX10_init 1 none 1 20 0 0 [.ref h0] [(h0, .inr (10, [.int 0, .int 0, .int 0]))] (fun w1 => w1 = [(h0, .inr (10, [.int 0, .int 0, .int 0]))]) := by
  refine CtV.of (by decide +kernel) (Nat.le_of_ble_eq_true rfl) ?_
  intro p e s m below meth c A ls hx hb hr hml hown hts hnw hlocks hin hA hS hP hK hD hl
  have hown : s.vm.findClass RX10 = some m.cls := hown
  have hl : lv_has ls 1 [(0, .ref h0)] := hl
  have hin : meth.name = "<init>" := hin
  refine lv_aload_n hx hb dX10_init_0 rfl (lv_at hl 0 rfl) ?_
  refine W.objInit hx hb hown (hts _ wm_414) (hts _ wm_27) (hts _ wm_28) rfl (by rw [hml]; exact hl.1) rfl dX10_init_1 (Nat.le_of_ble_eq_true rfl) (Nat.le_of_ble_eq_true rfl) ?_
  refine W.eq (g2 := F0 m 4 ls []) rfl ?_
  refine W.widen (k := 0) (n := 0) (Nat.le_of_ble_eq_true rfl) (Nat.le_of_ble_eq_true rfl) ?_
  exact rtV hx hb hr hlocks hS hP hD rfl dX10_init_4

set_option maxHeartbeats 4000000 in
set_option maxRecDepth 100000 in
theorem c_X0_init_0 (l : Launch) (D : va_G) (cI cZ cB cJ : ClassId) (h0 : Nat) : CtV l D (TT cI cZ cB cJ) yX0_init cX0_init 1 none 4 82 14 488 [.ref h0] [(h0, .inr (0, [.null, .null, .null, .null, .null, .null, .int 0, .int 0]))] (fun w1 => ∃ (q0 q1 q2 q3 q4 q5 q6 q7 q8 q9 q10 q11 q12 q13 : Nat), w1 = [(h0, .inr (0, [.ref q0, .ref q5, .ref q10, .ref q11, .ref q12, .ref q13, .int 0, .int 0])), (q0, .inr (9, [.ref q1, .ref q2])), (q1, .inr (4, [.ref q2, .ref q4])), (q2, .inr (6, [.ref q3, .int 4])), (q5, .inr (2, [.ref q6, .ref q7])), (q6, .inr (4, [.ref q7, .ref q9])), (q7, .inr (6, [.ref q8, .int 3]))]) := by
  refine CtV.of (by decide +kernel) (Nat.le_of_ble_eq_true rfl) ?_
  intro p e s m below meth c A ls hx hb hr hml hown hts hnw hlocks hin hA hS hP hK hD hl
  have hown : s.vm.findClass RX0 = some m.cls := hown
  have hl : lv_has ls 1 [(0, .ref h0)] := hl
  have hin : meth.name = "<init>" := hin
  refine lv_aload_n hx hb dX0_init_0 rfl (lv_at hl 0 rfl) ?_
  refine W.objInit hx hb hown (hts _ wm_432) (hts _ wm_27) (hts _ wm_28) rfl (by rw [hml]; exact hl.1) rfl dX0_init_1 (Nat.le_of_ble_eq_true rfl) (Nat.le_of_ble_eq_true rfl) ?_
  refine W.eq (g2 := F0 m 4 ls []) rfl ?_
  refine lv_aload_n hx hb dX0_init_4 rfl (lv_at hl 0 rfl) ?_
  refine va_new (ci := 9) (fs := [.null, .null]) (C := RX9) (T := TX9) (N := 2) hx hb hts inX9 tyX9 tyX9_ok hown (hts _ wm_433) (hts _ wm_132) (hts _ wm_5) hK hP hD hS hA rfl df_X9 (Nat.le_of_ble_eq_true rfl) (Nat.le_of_ble_eq_true rfl) dX0_init_5 (fun q0 H hP hD hS => ?_)
  have hP : va_P D vwCl [(h0, .inr (0, [.null, .null, .null, .null, .null, .null, .int 0, .int 0])), (q0, .inr (9, [.null, .null]))] H := hP
  have hD : va_D A [(h0, .inr (0, [.null, .null, .null, .null, .null, .null, .int 0, .int 0])), (q0, .inr (9, [.null, .null]))] := hD
  refine W.widen (k := 1) (n := 2) (Nat.le_of_ble_eq_true rfl) (Nat.le_of_ble_eq_true rfl) ?_
  refine lv_dup hx hb dX0_init_8 rfl ?_
  refine kINv (As := []) (rest := [.ref q0, .ref h0]) (wr := [(h0, .inr (0, [.null, .null, .null, .null, .null, .null, .int 0, .int 0]))]) hx hb hml hown hts hnw hK hP hD hS hA hl.1 (c_X9_init_0 l D cI cZ cB cJ q0) yk_X9_init wn_434 [1] [0] rfl rfl (by decide) (by decide) (by decide) rfl rfl dX0_init_9 ⟨Nat.le_of_ble_eq_true rfl, Nat.le_of_ble_eq_true rfl⟩ ⟨Nat.le_of_ble_eq_true rfl, Nat.le_of_ble_eq_true rfl⟩ (Nat.le_of_ble_eq_true rfl) (fun w1 H locs hq9 hP hD hS => ?_)
  obtain ⟨q1, q2, q3, q4, rfl⟩ := hq9
  have hP := hP.sub (ws' := [(h0, .inr (0, [.null, .null, .null, .null, .null, .null, .int 0, .int 0])), (q0, .inr (9, [.ref q1, .ref q2])), (q1, .inr (4, [.ref q2, .ref q4])), (q2, .inr (6, [.ref q3, .int 4]))]) [0, 1, 2, 3] rfl
  have hD := hD.sub (ws' := [(h0, .inr (0, [.null, .null, .null, .null, .null, .null, .int 0, .int 0])), (q0, .inr (9, [.ref q1, .ref q2])), (q1, .inr (4, [.ref q2, .ref q4])), (q2, .inr (6, [.ref q3, .int 4]))]) [0, 1, 2, 3] (by decide) rfl
  have hP : va_P D vwCl [(h0, .inr (0, [.null, .null, .null, .null, .null, .null, .int 0, .int 0])), (q0, .inr (9, [.ref q1, .ref q2])), (q1, .inr (4, [.ref q2, .ref q4])), (q2, .inr (6, [.ref q3, .int 4]))] H := hP
  have hD : va_D A [(h0, .inr (0, [.null, .null, .null, .null, .null, .null, .int 0, .int 0])), (q0, .inr (9, [.ref q1, .ref q2])), (q1, .inr (4, [.ref q2, .ref q4])), (q2, .inr (6, [.ref q3, .int 4]))] := hD
  refine W.widen (k := 5) (n := 214) (Nat.le_of_ble_eq_true rfl) (Nat.le_of_ble_eq_true rfl) ?_
  refine pcn (b := 12) rfl ?_
  refine va_putF (D := D) (ci := 0) (v := .ref q0) (ty := (.object "GradualCheck$Types")) (C := RX0) (T := TX0) (N := 8) hx hb hts inX0 tyX0 tyX0_ok nmX0 hown hK hP hD hS 0 rfl rfl 0 (by decide) (hts _ wm_437) (fun _ h9 => h9) rfl hin rfl (by decide +kernel) rfl rfl (Nat.le_of_ble_eq_true rfl) dX0_init_12 (fun H locs hP hD hS => ?_)
  have hP : va_P D vwCl [(h0, .inr (0, [.ref q0, .null, .null, .null, .null, .null, .int 0, .int 0])), (q0, .inr (9, [.ref q1, .ref q2])), (q1, .inr (4, [.ref q2, .ref q4])), (q2, .inr (6, [.ref q3, .int 4]))] H := hP
  have hD : va_D A [(h0, .inr (0, [.ref q0, .null, .null, .null, .null, .null, .int 0, .int 0])), (q0, .inr (9, [.ref q1, .ref q2])), (q1, .inr (4, [.ref q2, .ref q4])), (q2, .inr (6, [.ref q3, .int 4]))] := hD
  refine lv_aload_n hx hb dX0_init_15 rfl (lv_at hl 0 rfl) ?_
  refine va_new (ci := 2) (fs := [.null, .null]) (C := RX2) (T := TX2) (N := 2) hx hb hts inX2 tyX2 tyX2_ok hown (hts _ wm_435) (hts _ wm_234) (hts _ wm_11) hK hP hD hS hA rfl df_X2 (Nat.le_of_ble_eq_true rfl) (Nat.le_of_ble_eq_true rfl) dX0_init_16 (fun q5 H hP hD hS => ?_)
  have hP : va_P D vwCl [(h0, .inr (0, [.ref q0, .null, .null, .null, .null, .null, .int 0, .int 0])), (q0, .inr (9, [.ref q1, .ref q2])), (q1, .inr (4, [.ref q2, .ref q4])), (q2, .inr (6, [.ref q3, .int 4])), (q5, .inr (2, [.null, .null]))] H := hP
  have hD : va_D A [(h0, .inr (0, [.ref q0, .null, .null, .null, .null, .null, .int 0, .int 0])), (q0, .inr (9, [.ref q1, .ref q2])), (q1, .inr (4, [.ref q2, .ref q4])), (q2, .inr (6, [.ref q3, .int 4])), (q5, .inr (2, [.null, .null]))] := hD
  refine W.widen (k := 6) (n := 216) (Nat.le_of_ble_eq_true rfl) (Nat.le_of_ble_eq_true rfl) ?_
  refine lv_dup hx hb dX0_init_19 rfl ?_
  refine kINv (As := []) (rest := [.ref q5, .ref h0]) (wr := [(h0, .inr (0, [.ref q0, .null, .null, .null, .null, .null, .int 0, .int 0])), (q0, .inr (9, [.ref q1, .ref q2])), (q1, .inr (4, [.ref q2, .ref q4])), (q2, .inr (6, [.ref q3, .int 4]))]) hx hb hml hown hts hnw hK hP hD hS hA hl.1 (c_X2_init_0 l D cI cZ cB cJ q5) yk_X2_init wn_436 [4] [0, 1, 2, 3] rfl rfl (by decide) (by decide) (by decide) rfl rfl dX0_init_20 ⟨Nat.le_of_ble_eq_true rfl, Nat.le_of_ble_eq_true rfl⟩ ⟨Nat.le_of_ble_eq_true rfl, Nat.le_of_ble_eq_true rfl⟩ (Nat.le_of_ble_eq_true rfl) (fun w1 H locs hq9 hP hD hS => ?_)
  obtain ⟨q6, q7, q8, q9, rfl⟩ := hq9
  have hP : va_P D vwCl [(h0, .inr (0, [.ref q0, .null, .null, .null, .null, .null, .int 0, .int 0])), (q0, .inr (9, [.ref q1, .ref q2])), (q1, .inr (4, [.ref q2, .ref q4])), (q2, .inr (6, [.ref q3, .int 4])), (q5, .inr (2, [.ref q6, .ref q7])), (q6, .inr (4, [.ref q7, .ref q9])), (q7, .inr (6, [.ref q8, .int 3]))] H := hP
  have hD : va_D A [(h0, .inr (0, [.ref q0, .null, .null, .null, .null, .null, .int 0, .int 0])), (q0, .inr (9, [.ref q1, .ref q2])), (q1, .inr (4, [.ref q2, .ref q4])), (q2, .inr (6, [.ref q3, .int 4])), (q5, .inr (2, [.ref q6, .ref q7])), (q6, .inr (4, [.ref q7, .ref q9])), (q7, .inr (6, [.ref q8, .int 3]))] := hD
  refine W.widen (k := 10) (n := 428) (Nat.le_of_ble_eq_true rfl) (Nat.le_of_ble_eq_true rfl) ?_
  refine pcn (b := 23) rfl ?_
  refine va_putF (D := D) (ci := 0) (v := .ref q5) (ty := (.object "GradualCheck$Coercions")) (C := RX0) (T := TX0) (N := 8) hx hb hts inX0 tyX0 tyX0_ok nmX0 hown hK hP hD hS 0 rfl rfl 1 (by decide) (hts _ wm_439) (fun _ h9 => h9) rfl hin rfl (by decide +kernel) rfl rfl (Nat.le_of_ble_eq_true rfl) dX0_init_23 (fun H locs hP hD hS => ?_)
  have hP : va_P D vwCl [(h0, .inr (0, [.ref q0, .ref q5, .null, .null, .null, .null, .int 0, .int 0])), (q0, .inr (9, [.ref q1, .ref q2])), (q1, .inr (4, [.ref q2, .ref q4])), (q2, .inr (6, [.ref q3, .int 4])), (q5, .inr (2, [.ref q6, .ref q7])), (q6, .inr (4, [.ref q7, .ref q9])), (q7, .inr (6, [.ref q8, .int 3]))] H := hP
  have hD : va_D A [(h0, .inr (0, [.ref q0, .ref q5, .null, .null, .null, .null, .int 0, .int 0])), (q0, .inr (9, [.ref q1, .ref q2])), (q1, .inr (4, [.ref q2, .ref q4])), (q2, .inr (6, [.ref q3, .int 4])), (q5, .inr (2, [.ref q6, .ref q7])), (q6, .inr (4, [.ref q7, .ref q9])), (q7, .inr (6, [.ref q8, .int 3]))] := hD
  refine lv_aload_n hx hb dX0_init_26 rfl (lv_at hl 0 rfl) ?_
  refine lv_bipush (v := 12) hx hb dX0_init_27 (by decide +kernel) ?_
  refine n_newa (atype := .int) (ty := .int) (N2 := 12) hx hb (hts _ wm_62) rfl hK hP hD hS hA 0 rfl (fun _ _ => rfl) (fun _ => rfl) (by decide +kernel) (by decide +kernel) (by decide +kernel) (Nat.le_of_ble_eq_true rfl) (Nat.le_of_ble_eq_true rfl) dX0_init_29 (fun q10 H hP hD hS => ?_)
  have hP : va_P D vwCl [(h0, .inr (0, [.ref q0, .ref q5, .null, .null, .null, .null, .int 0, .int 0])), (q0, .inr (9, [.ref q1, .ref q2])), (q1, .inr (4, [.ref q2, .ref q4])), (q2, .inr (6, [.ref q3, .int 4])), (q5, .inr (2, [.ref q6, .ref q7])), (q6, .inr (4, [.ref q7, .ref q9])), (q7, .inr (6, [.ref q8, .int 3])), (q10, .inl (cI, 12, .inl (fun _ => 0)))] H := hP
  have hD : va_D A [(h0, .inr (0, [.ref q0, .ref q5, .null, .null, .null, .null, .int 0, .int 0])), (q0, .inr (9, [.ref q1, .ref q2])), (q1, .inr (4, [.ref q2, .ref q4])), (q2, .inr (6, [.ref q3, .int 4])), (q5, .inr (2, [.ref q6, .ref q7])), (q6, .inr (4, [.ref q7, .ref q9])), (q7, .inr (6, [.ref q8, .int 3])), (q10, .inl (cI, 12, .inl (fun _ => 0)))] := hD
  refine W.widen (k := 11) (n := 440) (Nat.le_of_ble_eq_true rfl) (Nat.le_of_ble_eq_true rfl) ?_
  refine va_putF (D := D) (ci := 0) (v := .ref q10) (ty := (.array .int)) (C := RX0) (T := TX0) (N := 8) hx hb hts inX0 tyX0 tyX0_ok nmX0 hown hK hP hD hS 0 rfl rfl 2 (by decide) (hts _ wm_441) (fun _ h9 => h9) rfl hin rfl (by decide +kernel) rfl rfl (Nat.le_of_ble_eq_true rfl) dX0_init_31 (fun H locs hP hD hS => ?_)
  have hP := hP.sub (ws' := [(h0, .inr (0, [.ref q0, .ref q5, .ref q10, .null, .null, .null, .int 0, .int 0])), (q0, .inr (9, [.ref q1, .ref q2])), (q1, .inr (4, [.ref q2, .ref q4])), (q2, .inr (6, [.ref q3, .int 4])), (q5, .inr (2, [.ref q6, .ref q7])), (q6, .inr (4, [.ref q7, .ref q9])), (q7, .inr (6, [.ref q8, .int 3]))]) [0, 1, 2, 3, 4, 5, 6] rfl
  have hD := hD.sub (ws' := [(h0, .inr (0, [.ref q0, .ref q5, .ref q10, .null, .null, .null, .int 0, .int 0])), (q0, .inr (9, [.ref q1, .ref q2])), (q1, .inr (4, [.ref q2, .ref q4])), (q2, .inr (6, [.ref q3, .int 4])), (q5, .inr (2, [.ref q6, .ref q7])), (q6, .inr (4, [.ref q7, .ref q9])), (q7, .inr (6, [.ref q8, .int 3]))]) [0, 1, 2, 3, 4, 5, 6] (by decide) rfl
  have hP : va_P D vwCl [(h0, .inr (0, [.ref q0, .ref q5, .ref q10, .null, .null, .null, .int 0, .int 0])), (q0, .inr (9, [.ref q1, .ref q2])), (q1, .inr (4, [.ref q2, .ref q4])), (q2, .inr (6, [.ref q3, .int 4])), (q5, .inr (2, [.ref q6, .ref q7])), (q6, .inr (4, [.ref q7, .ref q9])), (q7, .inr (6, [.ref q8, .int 3]))] H := hP
  have hD : va_D A [(h0, .inr (0, [.ref q0, .ref q5, .ref q10, .null, .null, .null, .int 0, .int 0])), (q0, .inr (9, [.ref q1, .ref q2])), (q1, .inr (4, [.ref q2, .ref q4])), (q2, .inr (6, [.ref q3, .int 4])), (q5, .inr (2, [.ref q6, .ref q7])), (q6, .inr (4, [.ref q7, .ref q9])), (q7, .inr (6, [.ref q8, .int 3]))] := hD
  refine lv_aload_n hx hb dX0_init_34 rfl (lv_at hl 0 rfl) ?_
  refine lv_bipush (v := 16) hx hb dX0_init_35 (by decide +kernel) ?_
  refine pcn (b := 37) rfl ?_
  refine n_newa (atype := .int) (ty := .int) (N2 := 16) hx hb (hts _ wm_62) rfl hK hP hD hS hA 0 rfl (fun _ _ => rfl) (fun _ => rfl) (by decide +kernel) (by decide +kernel) (by decide +kernel) (Nat.le_of_ble_eq_true rfl) (Nat.le_of_ble_eq_true rfl) dX0_init_37 (fun q11 H hP hD hS => ?_)
  have hP : va_P D vwCl [(h0, .inr (0, [.ref q0, .ref q5, .ref q10, .null, .null, .null, .int 0, .int 0])), (q0, .inr (9, [.ref q1, .ref q2])), (q1, .inr (4, [.ref q2, .ref q4])), (q2, .inr (6, [.ref q3, .int 4])), (q5, .inr (2, [.ref q6, .ref q7])), (q6, .inr (4, [.ref q7, .ref q9])), (q7, .inr (6, [.ref q8, .int 3])), (q11, .inl (cI, 16, .inl (fun _ => 0)))] H := hP
  have hD : va_D A [(h0, .inr (0, [.ref q0, .ref q5, .ref q10, .null, .null, .null, .int 0, .int 0])), (q0, .inr (9, [.ref q1, .ref q2])), (q1, .inr (4, [.ref q2, .ref q4])), (q2, .inr (6, [.ref q3, .int 4])), (q5, .inr (2, [.ref q6, .ref q7])), (q6, .inr (4, [.ref q7, .ref q9])), (q7, .inr (6, [.ref q8, .int 3])), (q11, .inl (cI, 16, .inl (fun _ => 0)))] := hD
  refine W.widen (k := 12) (n := 456) (Nat.le_of_ble_eq_true rfl) (Nat.le_of_ble_eq_true rfl) ?_
  refine va_putF (D := D) (ci := 0) (v := .ref q11) (ty := (.array .int)) (C := RX0) (T := TX0) (N := 8) hx hb hts inX0 tyX0 tyX0_ok nmX0 hown hK hP hD hS 0 rfl rfl 3 (by decide) (hts _ wm_443) (fun _ h9 => h9) rfl hin rfl (by decide +kernel) rfl rfl (Nat.le_of_ble_eq_true rfl) dX0_init_39 (fun H locs hP hD hS => ?_)
  have hP := hP.sub (ws' := [(h0, .inr (0, [.ref q0, .ref q5, .ref q10, .ref q11, .null, .null, .int 0, .int 0])), (q0, .inr (9, [.ref q1, .ref q2])), (q1, .inr (4, [.ref q2, .ref q4])), (q2, .inr (6, [.ref q3, .int 4])), (q5, .inr (2, [.ref q6, .ref q7])), (q6, .inr (4, [.ref q7, .ref q9])), (q7, .inr (6, [.ref q8, .int 3]))]) [0, 1, 2, 3, 4, 5, 6] rfl
  have hD := hD.sub (ws' := [(h0, .inr (0, [.ref q0, .ref q5, .ref q10, .ref q11, .null, .null, .int 0, .int 0])), (q0, .inr (9, [.ref q1, .ref q2])), (q1, .inr (4, [.ref q2, .ref q4])), (q2, .inr (6, [.ref q3, .int 4])), (q5, .inr (2, [.ref q6, .ref q7])), (q6, .inr (4, [.ref q7, .ref q9])), (q7, .inr (6, [.ref q8, .int 3]))]) [0, 1, 2, 3, 4, 5, 6] (by decide) rfl
  have hP : va_P D vwCl [(h0, .inr (0, [.ref q0, .ref q5, .ref q10, .ref q11, .null, .null, .int 0, .int 0])), (q0, .inr (9, [.ref q1, .ref q2])), (q1, .inr (4, [.ref q2, .ref q4])), (q2, .inr (6, [.ref q3, .int 4])), (q5, .inr (2, [.ref q6, .ref q7])), (q6, .inr (4, [.ref q7, .ref q9])), (q7, .inr (6, [.ref q8, .int 3]))] H := hP
  have hD : va_D A [(h0, .inr (0, [.ref q0, .ref q5, .ref q10, .ref q11, .null, .null, .int 0, .int 0])), (q0, .inr (9, [.ref q1, .ref q2])), (q1, .inr (4, [.ref q2, .ref q4])), (q2, .inr (6, [.ref q3, .int 4])), (q5, .inr (2, [.ref q6, .ref q7])), (q6, .inr (4, [.ref q7, .ref q9])), (q7, .inr (6, [.ref q8, .int 3]))] := hD
  refine lv_aload_n hx hb dX0_init_42 rfl (lv_at hl 0 rfl) ?_
  refine lv_bipush (v := 16) hx hb dX0_init_43 (by decide +kernel) ?_
  refine n_newa (atype := .int) (ty := .int) (N2 := 16) hx hb (hts _ wm_62) rfl hK hP hD hS hA 0 rfl (fun _ _ => rfl) (fun _ => rfl) (by decide +kernel) (by decide +kernel) (by decide +kernel) (Nat.le_of_ble_eq_true rfl) (Nat.le_of_ble_eq_true rfl) dX0_init_45 (fun q12 H hP hD hS => ?_)
  have hP : va_P D vwCl [(h0, .inr (0, [.ref q0, .ref q5, .ref q10, .ref q11, .null, .null, .int 0, .int 0])), (q0, .inr (9, [.ref q1, .ref q2])), (q1, .inr (4, [.ref q2, .ref q4])), (q2, .inr (6, [.ref q3, .int 4])), (q5, .inr (2, [.ref q6, .ref q7])), (q6, .inr (4, [.ref q7, .ref q9])), (q7, .inr (6, [.ref q8, .int 3])), (q12, .inl (cI, 16, .inl (fun _ => 0)))] H := hP
  have hD : va_D A [(h0, .inr (0, [.ref q0, .ref q5, .ref q10, .ref q11, .null, .null, .int 0, .int 0])), (q0, .inr (9, [.ref q1, .ref q2])), (q1, .inr (4, [.ref q2, .ref q4])), (q2, .inr (6, [.ref q3, .int 4])), (q5, .inr (2, [.ref q6, .ref q7])), (q6, .inr (4, [.ref q7, .ref q9])), (q7, .inr (6, [.ref q8, .int 3])), (q12, .inl (cI, 16, .inl (fun _ => 0)))] := hD
  refine W.widen (k := 13) (n := 472) (Nat.le_of_ble_eq_true rfl) (Nat.le_of_ble_eq_true rfl) ?_
  refine va_putF (D := D) (ci := 0) (v := .ref q12) (ty := (.array .int)) (C := RX0) (T := TX0) (N := 8) hx hb hts inX0 tyX0 tyX0_ok nmX0 hown hK hP hD hS 0 rfl rfl 4 (by decide) (hts _ wm_445) (fun _ h9 => h9) rfl hin rfl (by decide +kernel) rfl rfl (Nat.le_of_ble_eq_true rfl) dX0_init_47 (fun H locs hP hD hS => ?_)
  have hP := hP.sub (ws' := [(h0, .inr (0, [.ref q0, .ref q5, .ref q10, .ref q11, .ref q12, .null, .int 0, .int 0])), (q0, .inr (9, [.ref q1, .ref q2])), (q1, .inr (4, [.ref q2, .ref q4])), (q2, .inr (6, [.ref q3, .int 4])), (q5, .inr (2, [.ref q6, .ref q7])), (q6, .inr (4, [.ref q7, .ref q9])), (q7, .inr (6, [.ref q8, .int 3]))]) [0, 1, 2, 3, 4, 5, 6] rfl
  have hD := hD.sub (ws' := [(h0, .inr (0, [.ref q0, .ref q5, .ref q10, .ref q11, .ref q12, .null, .int 0, .int 0])), (q0, .inr (9, [.ref q1, .ref q2])), (q1, .inr (4, [.ref q2, .ref q4])), (q2, .inr (6, [.ref q3, .int 4])), (q5, .inr (2, [.ref q6, .ref q7])), (q6, .inr (4, [.ref q7, .ref q9])), (q7, .inr (6, [.ref q8, .int 3]))]) [0, 1, 2, 3, 4, 5, 6] (by decide) rfl
  have hP : va_P D vwCl [(h0, .inr (0, [.ref q0, .ref q5, .ref q10, .ref q11, .ref q12, .null, .int 0, .int 0])), (q0, .inr (9, [.ref q1, .ref q2])), (q1, .inr (4, [.ref q2, .ref q4])), (q2, .inr (6, [.ref q3, .int 4])), (q5, .inr (2, [.ref q6, .ref q7])), (q6, .inr (4, [.ref q7, .ref q9])), (q7, .inr (6, [.ref q8, .int 3]))] H := hP
  have hD : va_D A [(h0, .inr (0, [.ref q0, .ref q5, .ref q10, .ref q11, .ref q12, .null, .int 0, .int 0])), (q0, .inr (9, [.ref q1, .ref q2])), (q1, .inr (4, [.ref q2, .ref q4])), (q2, .inr (6, [.ref q3, .int 4])), (q5, .inr (2, [.ref q6, .ref q7])), (q6, .inr (4, [.ref q7, .ref q9])), (q7, .inr (6, [.ref q8, .int 3]))] := hD
  refine lv_aload_n hx hb dX0_init_50 rfl (lv_at hl 0 rfl) ?_
  refine lv_bipush (v := 16) hx hb dX0_init_51 (by decide +kernel) ?_
  refine pcn (b := 53) rfl ?_
  refine n_newa (atype := .int) (ty := .int) (N2 := 16) hx hb (hts _ wm_62) rfl hK hP hD hS hA 0 rfl (fun _ _ => rfl) (fun _ => rfl) (by decide +kernel) (by decide +kernel) (by decide +kernel) (Nat.le_of_ble_eq_true rfl) (Nat.le_of_ble_eq_true rfl) dX0_init_53 (fun q13 H hP hD hS => ?_)
  have hP : va_P D vwCl [(h0, .inr (0, [.ref q0, .ref q5, .ref q10, .ref q11, .ref q12, .null, .int 0, .int 0])), (q0, .inr (9, [.ref q1, .ref q2])), (q1, .inr (4, [.ref q2, .ref q4])), (q2, .inr (6, [.ref q3, .int 4])), (q5, .inr (2, [.ref q6, .ref q7])), (q6, .inr (4, [.ref q7, .ref q9])), (q7, .inr (6, [.ref q8, .int 3])), (q13, .inl (cI, 16, .inl (fun _ => 0)))] H := hP
  have hD : va_D A [(h0, .inr (0, [.ref q0, .ref q5, .ref q10, .ref q11, .ref q12, .null, .int 0, .int 0])), (q0, .inr (9, [.ref q1, .ref q2])), (q1, .inr (4, [.ref q2, .ref q4])), (q2, .inr (6, [.ref q3, .int 4])), (q5, .inr (2, [.ref q6, .ref q7])), (q6, .inr (4, [.ref q7, .ref q9])), (q7, .inr (6, [.ref q8, .int 3])), (q13, .inl (cI, 16, .inl (fun _ => 0)))] := hD
  refine W.widen (k := 14) (n := 488) (Nat.le_of_ble_eq_true rfl) (Nat.le_of_ble_eq_true rfl) ?_
  refine va_putF (D := D) (ci := 0) (v := .ref q13) (ty := (.array .int)) (C := RX0) (T := TX0) (N := 8) hx hb hts inX0 tyX0 tyX0_ok nmX0 hown hK hP hD hS 0 rfl rfl 5 (by decide) (hts _ wm_446) (fun _ h9 => h9) rfl hin rfl (by decide +kernel) rfl rfl (Nat.le_of_ble_eq_true rfl) dX0_init_55 (fun H locs hP hD hS => ?_)
  have hP := hP.sub (ws' := [(h0, .inr (0, [.ref q0, .ref q5, .ref q10, .ref q11, .ref q12, .ref q13, .int 0, .int 0])), (q0, .inr (9, [.ref q1, .ref q2])), (q1, .inr (4, [.ref q2, .ref q4])), (q2, .inr (6, [.ref q3, .int 4])), (q5, .inr (2, [.ref q6, .ref q7])), (q6, .inr (4, [.ref q7, .ref q9])), (q7, .inr (6, [.ref q8, .int 3]))]) [0, 1, 2, 3, 4, 5, 6] rfl
  have hD := hD.sub (ws' := [(h0, .inr (0, [.ref q0, .ref q5, .ref q10, .ref q11, .ref q12, .ref q13, .int 0, .int 0])), (q0, .inr (9, [.ref q1, .ref q2])), (q1, .inr (4, [.ref q2, .ref q4])), (q2, .inr (6, [.ref q3, .int 4])), (q5, .inr (2, [.ref q6, .ref q7])), (q6, .inr (4, [.ref q7, .ref q9])), (q7, .inr (6, [.ref q8, .int 3]))]) [0, 1, 2, 3, 4, 5, 6] (by decide) rfl
  have hP : va_P D vwCl [(h0, .inr (0, [.ref q0, .ref q5, .ref q10, .ref q11, .ref q12, .ref q13, .int 0, .int 0])), (q0, .inr (9, [.ref q1, .ref q2])), (q1, .inr (4, [.ref q2, .ref q4])), (q2, .inr (6, [.ref q3, .int 4])), (q5, .inr (2, [.ref q6, .ref q7])), (q6, .inr (4, [.ref q7, .ref q9])), (q7, .inr (6, [.ref q8, .int 3]))] H := hP
  have hD : va_D A [(h0, .inr (0, [.ref q0, .ref q5, .ref q10, .ref q11, .ref q12, .ref q13, .int 0, .int 0])), (q0, .inr (9, [.ref q1, .ref q2])), (q1, .inr (4, [.ref q2, .ref q4])), (q2, .inr (6, [.ref q3, .int 4])), (q5, .inr (2, [.ref q6, .ref q7])), (q6, .inr (4, [.ref q7, .ref q9])), (q7, .inr (6, [.ref q8, .int 3]))] := hD
  refine lv_aload_n hx hb dX0_init_58 rfl (lv_at hl 0 rfl) ?_
  refine lv_iconst (v := 0) hx hb dX0_init_59 (by decide +kernel) ?_
  refine va_put (D := D) (ci := 0) (v := .int 0) (ty := .int) (C := RX0) (T := TX0) (N := 8) hx hb hts inX0 tyX0 tyX0_ok nmX0 hown hK hP hD hS 0 rfl rfl 6 (by decide) (hts _ wm_447) (fun _ h9 => h9) rfl (by decide +kernel) rfl rfl (Nat.le_of_ble_eq_true rfl) dX0_init_60 (fun H locs hP hD hS => ?_)
  have hP : va_P D vwCl [(h0, .inr (0, [.ref q0, .ref q5, .ref q10, .ref q11, .ref q12, .ref q13, .int 0, .int 0])), (q0, .inr (9, [.ref q1, .ref q2])), (q1, .inr (4, [.ref q2, .ref q4])), (q2, .inr (6, [.ref q3, .int 4])), (q5, .inr (2, [.ref q6, .ref q7])), (q6, .inr (4, [.ref q7, .ref q9])), (q7, .inr (6, [.ref q8, .int 3]))] H := hP
  have hD : va_D A [(h0, .inr (0, [.ref q0, .ref q5, .ref q10, .ref q11, .ref q12, .ref q13, .int 0, .int 0])), (q0, .inr (9, [.ref q1, .ref q2])), (q1, .inr (4, [.ref q2, .ref q4])), (q2, .inr (6, [.ref q3, .int 4])), (q5, .inr (2, [.ref q6, .ref q7])), (q6, .inr (4, [.ref q7, .ref q9])), (q7, .inr (6, [.ref q8, .int 3]))] := hD
  refine lv_aload_n hx hb dX0_init_63 rfl (lv_at hl 0 rfl) ?_
  refine lv_iconst (v := 0) hx hb dX0_init_64 (by decide +kernel) ?_
  refine va_put (D := D) (ci := 0) (v := .int 0) (ty := .int) (C := RX0) (T := TX0) (N := 8) hx hb hts inX0 tyX0 tyX0_ok nmX0 hown hK hP hD hS 0 rfl rfl 7 (by decide) (hts _ wm_449) (fun _ h9 => h9) rfl (by decide +kernel) rfl rfl (Nat.le_of_ble_eq_true rfl) dX0_init_65 (fun H locs hP hD hS => ?_)
  have hP : va_P D vwCl [(h0, .inr (0, [.ref q0, .ref q5, .ref q10, .ref q11, .ref q12, .ref q13, .int 0, .int 0])), (q0, .inr (9, [.ref q1, .ref q2])), (q1, .inr (4, [.ref q2, .ref q4])), (q2, .inr (6, [.ref q3, .int 4])), (q5, .inr (2, [.ref q6, .ref q7])), (q6, .inr (4, [.ref q7, .ref q9])), (q7, .inr (6, [.ref q8, .int 3]))] H := hP
  have hD : va_D A [(h0, .inr (0, [.ref q0, .ref q5, .ref q10, .ref q11, .ref q12, .ref q13, .int 0, .int 0])), (q0, .inr (9, [.ref q1, .ref q2])), (q1, .inr (4, [.ref q2, .ref q4])), (q2, .inr (6, [.ref q3, .int 4])), (q5, .inr (2, [.ref q6, .ref q7])), (q6, .inr (4, [.ref q7, .ref q9])), (q7, .inr (6, [.ref q8, .int 3]))] := hD
  refine W.widen (k := 14) (n := 488) (Nat.le_of_ble_eq_true rfl) (Nat.le_of_ble_eq_true rfl) ?_
  exact rtV hx hb hr hlocks hS hP hD ⟨q0, q1, q2, q3, q4, q5, q6, q7, q8, q9, q10, q11, q12, q13, rfl⟩ dX0_init_68

set_option maxHeartbeats 4000000 in
set_option maxRecDepth 100000 in
theorem c_X6_cut_0 (l : Launch) (D : va_G) (cI cZ cB cJ : ClassId) (h0 g0 : Nat) : CtV l D (TT cI cZ cB cJ) yX6_cut cX6_cut 2 none 1 21 0 0 [.ref h0, .int 4] [(h0, .inr (6, [.ref g0, .int 4]))] (fun w1 => w1 = [(h0, .inr (6, [.ref g0, .int 4]))]) := by
  refine CtV.of (by decide +kernel) (Nat.le_of_ble_eq_true rfl) ?_
  intro p e s m below meth c A ls hx hb hr hml hown hts hnw hlocks hin hA hS hP hK hD hl
  have hown : s.vm.findClass RX6 = some m.cls := hown
  have hl : lv_has ls 2 [(0, .ref h0), (1, .int 4)] := hl
  refine lv_aload_n hx hb dX6_cut_0 rfl (lv_at hl 0 rfl) ?_
  refine lv_iconst (v := 0) hx hb dX6_cut_1 (by decide +kernel) ?_
  refine lv_aload_n hx hb dX6_cut_2 rfl (lv_at hl 0 rfl) ?_
  refine va_get (D := D) (ci := 6) (v := .int 4) (C := RX6) (T := TX6) (N := 2) hx hb hts inX6 hown hK hP 0 rfl rfl 1 (by decide) (hts _ wm_157) (fun _ h9 => h9) rfl dX6_cut_3 ?_
  refine lv_iload_n hx hb dX6_cut_6 rfl (lv_at hl 1 rfl) ?_
  refine va_mmin hx hb (hml.trans hl.1.symm) hown (hts _ wm_150) (hts _ wm_151) (hts _ wm_8) (hts _ wm_152) (Nat.le_of_ble_eq_true rfl) (Nat.le_of_ble_eq_true rfl) (Nat.le_of_ble_eq_true rfl) (Nat.le_of_ble_eq_true rfl) dX6_cut_7 ?_
  refine nrm (y := 4) (by decide +kernel) ?_
  refine va_mmax hx hb (hml.trans hl.1.symm) hown (hts _ wm_153) (hts _ wm_154) (hts _ wm_8) (hts _ wm_155) (Nat.le_of_ble_eq_true rfl) (Nat.le_of_ble_eq_true rfl) (Nat.le_of_ble_eq_true rfl) (Nat.le_of_ble_eq_true rfl) dX6_cut_10 ?_
  refine nrm (y := 4) (by decide +kernel) ?_
  refine pcn (b := 13) rfl ?_
  refine va_put (D := D) (ci := 6) (v := .int 4) (ty := .int) (C := RX6) (T := TX6) (N := 2) hx hb hts inX6 tyX6 tyX6_ok nmX6 hown hK hP hD hS 0 rfl rfl 1 (by decide) (hts _ wm_157) (fun _ h9 => h9) rfl (by decide +kernel) rfl rfl (Nat.le_of_ble_eq_true rfl) dX6_cut_13 (fun H locs hP hD hS => ?_)
  have hP : va_P D vwCl [(h0, .inr (6, [.ref g0, .int 4]))] H := hP
  have hD : va_D A [(h0, .inr (6, [.ref g0, .int 4]))] := hD
  refine W.widen (k := 0) (n := 0) (Nat.le_of_ble_eq_true rfl) (Nat.le_of_ble_eq_true rfl) ?_
  exact rtV hx hb hr hlocks hS hP hD rfl dX6_cut_16

set_option maxHeartbeats 4000000 in
set_option maxRecDepth 100000 in
theorem c_X4_cutTo_0 (l : Launch) (D : va_G) (cI cZ cB cJ : ClassId) (h0 h1 g0 g1 : Nat) : CtV l D (TT cI cZ cB cJ) yX4_cutTo cX4_cutTo 4 none 2 42 0 0 [.ref h0, .int 4] [(h0, .inr (4, [.ref h1, .ref g0])), (h1, .inr (6, [.ref g1, .int 4]))] (fun w1 => w1 = [(h0, .inr (4, [.ref h1, .ref g0])), (h1, .inr (6, [.ref g1, .int 4]))]) := by
  refine CtV.of (by decide +kernel) (Nat.le_of_ble_eq_true rfl) ?_
  intro p e s m below meth c A ls hx hb hr hml hown hts hnw hlocks hin hA hS hP hK hD hl
  have hown : s.vm.findClass RX4 = some m.cls := hown
  have hl : lv_has ls 4 [(0, .ref h0), (1, .int 4)] := hl
  refine lv_aload_n hx hb dX4_cutTo_0 rfl (lv_at hl 0 rfl) ?_
  refine va_get (D := D) (ci := 4) (v := .ref h1) (C := RX4) (T := TX4) (N := 2) hx hb hts inX4 hown hK hP 0 rfl rfl 0 (by decide) (hts _ wm_171) (fun _ h9 => h9) rfl dX4_cutTo_1 ?_
  refine va_getN (D := D) (ci := 6) (v := .int 4) (C := RX6) (T := TX6) (N := 2) hx hb hts inX6 hown hK hP 1 rfl rfl 1 (by decide) (va_Nw.use rfl (hnw _ wn_160)) (fun _ h9 => h9) rfl dX4_cutTo_4 ?_
  refine lv_iconst (v := 1) hx hb dX4_cutTo_7 (by decide +kernel) ?_
  refine lv_isub hx hb dX4_cutTo_8 ?_
  refine nrm (y := 3) (by decide +kernel) ?_
  refine lv_istore_n (lv' := [(2, .int 3), (0, .ref h0), (1, .int 4)]) hx hb dX4_cutTo_9 rfl hl (by decide) rfl (fun ls hl => ?_)
  refine lv_iload_n hx hb dX4_cutTo_10 rfl (lv_at hl 0 rfl) ?_
  refine pcn (b := 11) rfl ?_
  refine lv_iload_n hx hb dX4_cutTo_11 rfl (lv_at hl 2 rfl) ?_
  refine lv_icmp_lt (tgt := 73) hx hb dX4_cutTo_12 (by decide) (fun _ => ?_) (fun h9 => absurd (by decide +kernel) h9)
  refine lv_aload_n hx hb dX4_cutTo_73 rfl (lv_at hl 1 rfl) ?_
  refine va_get (D := D) (ci := 4) (v := .ref h1) (C := RX4) (T := TX4) (N := 2) hx hb hts inX4 hown hK hP 0 rfl rfl 0 (by decide) (hts _ wm_171) (fun _ h9 => h9) rfl dX4_cutTo_74 ?_
  refine lv_iload_n hx hb dX4_cutTo_77 rfl (lv_at hl 2 rfl) ?_
  refine kVNv (As := [.int 4]) (rest := []) (wr := [(h0, .inr (4, [.ref h1, .ref g0]))]) hx hb hml hown hts hnw hK hP hD hS hA hl.1 (c_X6_cut_0 l D cI cZ cB cJ h1 g1) yk_X6_cut wn_476 [1] [0] rfl rfl (by decide) (by decide) (by decide) 0 rfl rfl rfl rfl rfl dX4_cutTo_78 ⟨Nat.le_of_ble_eq_true rfl, Nat.le_of_ble_eq_true rfl⟩ ⟨Nat.le_of_ble_eq_true rfl, Nat.le_of_ble_eq_true rfl⟩ (Nat.le_of_ble_eq_true rfl) (fun w1 H locs hq9 hP hD hS => ?_)
  obtain rfl := hq9
  have hP : va_P D vwCl [(h0, .inr (4, [.ref h1, .ref g0])), (h1, .inr (6, [.ref g1, .int 4]))] H := hP
  have hD : va_D A [(h0, .inr (4, [.ref h1, .ref g0])), (h1, .inr (6, [.ref g1, .int 4]))] := hD
  refine W.widen (k := 0) (n := 0) (Nat.le_of_ble_eq_true rfl) (Nat.le_of_ble_eq_true rfl) ?_
  refine pcn (b := 81) rfl ?_
  refine W.widen (k := 0) (n := 0) (Nat.le_of_ble_eq_true rfl) (Nat.le_of_ble_eq_true rfl) ?_
  exact rtV hx hb hr hlocks hS hP hD rfl dX4_cutTo_81

set_option maxHeartbeats 4000000 in
set_option maxRecDepth 100000 in
theorem c_X6_cut_1 (l : Launch) (D : va_G) (cI cZ cB cJ : ClassId) (h0 g0 : Nat) : CtV l D (TT cI cZ cB cJ) yX6_cut cX6_cut 2 none 1 21 0 0 [.ref h0, .int 3] [(h0, .inr (6, [.ref g0, .int 3]))] (fun w1 => w1 = [(h0, .inr (6, [.ref g0, .int 3]))]) := by
  refine CtV.of (by decide +kernel) (Nat.le_of_ble_eq_true rfl) ?_
  intro p e s m below meth c A ls hx hb hr hml hown hts hnw hlocks hin hA hS hP hK hD hl
  have hown : s.vm.findClass RX6 = some m.cls := hown
  have hl : lv_has ls 2 [(0, .ref h0), (1, .int 3)] := hl
  refine lv_aload_n hx hb dX6_cut_0 rfl (lv_at hl 0 rfl) ?_
  refine lv_iconst (v := 0) hx hb dX6_cut_1 (by decide +kernel) ?_
  refine lv_aload_n hx hb dX6_cut_2 rfl (lv_at hl 0 rfl) ?_
  refine va_get (D := D) (ci := 6) (v := .int 3) (C := RX6) (T := TX6) (N := 2) hx hb hts inX6 hown hK hP 0 rfl rfl 1 (by decide) (hts _ wm_157) (fun _ h9 => h9) rfl dX6_cut_3 ?_
  refine lv_iload_n hx hb dX6_cut_6 rfl (lv_at hl 1 rfl) ?_
  refine va_mmin hx hb (hml.trans hl.1.symm) hown (hts _ wm_150) (hts _ wm_151) (hts _ wm_8) (hts _ wm_152) (Nat.le_of_ble_eq_true rfl) (Nat.le_of_ble_eq_true rfl) (Nat.le_of_ble_eq_true rfl) (Nat.le_of_ble_eq_true rfl) dX6_cut_7 ?_
  refine nrm (y := 3) (by decide +kernel) ?_
  refine va_mmax hx hb (hml.trans hl.1.symm) hown (hts _ wm_153) (hts _ wm_154) (hts _ wm_8) (hts _ wm_155) (Nat.le_of_ble_eq_true rfl) (Nat.le_of_ble_eq_true rfl) (Nat.le_of_ble_eq_true rfl) (Nat.le_of_ble_eq_true rfl) dX6_cut_10 ?_
  refine nrm (y := 3) (by decide +kernel) ?_
  refine pcn (b := 13) rfl ?_
  refine va_put (D := D) (ci := 6) (v := .int 3) (ty := .int) (C := RX6) (T := TX6) (N := 2) hx hb hts inX6 tyX6 tyX6_ok nmX6 hown hK hP hD hS 0 rfl rfl 1 (by decide) (hts _ wm_157) (fun _ h9 => h9) rfl (by decide +kernel) rfl rfl (Nat.le_of_ble_eq_true rfl) dX6_cut_13 (fun H locs hP hD hS => ?_)
  have hP : va_P D vwCl [(h0, .inr (6, [.ref g0, .int 3]))] H := hP
  have hD : va_D A [(h0, .inr (6, [.ref g0, .int 3]))] := hD
  refine W.widen (k := 0) (n := 0) (Nat.le_of_ble_eq_true rfl) (Nat.le_of_ble_eq_true rfl) ?_
  exact rtV hx hb hr hlocks hS hP hD rfl dX6_cut_16

set_option maxHeartbeats 4000000 in
set_option maxRecDepth 100000 in
theorem c_X4_cutTo_1 (l : Launch) (D : va_G) (cI cZ cB cJ : ClassId) (h0 h1 g0 g1 : Nat) : CtV l D (TT cI cZ cB cJ) yX4_cutTo cX4_cutTo 4 none 2 42 0 0 [.ref h0, .int 3] [(h0, .inr (4, [.ref h1, .ref g0])), (h1, .inr (6, [.ref g1, .int 3]))] (fun w1 => w1 = [(h0, .inr (4, [.ref h1, .ref g0])), (h1, .inr (6, [.ref g1, .int 3]))]) := by
  refine CtV.of (by decide +kernel) (Nat.le_of_ble_eq_true rfl) ?_
  intro p e s m below meth c A ls hx hb hr hml hown hts hnw hlocks hin hA hS hP hK hD hl
  have hown : s.vm.findClass RX4 = some m.cls := hown
  have hl : lv_has ls 4 [(0, .ref h0), (1, .int 3)] := hl
  refine lv_aload_n hx hb dX4_cutTo_0 rfl (lv_at hl 0 rfl) ?_
  refine va_get (D := D) (ci := 4) (v := .ref h1) (C := RX4) (T := TX4) (N := 2) hx hb hts inX4 hown hK hP 0 rfl rfl 0 (by decide) (hts _ wm_171) (fun _ h9 => h9) rfl dX4_cutTo_1 ?_
  refine va_getN (D := D) (ci := 6) (v := .int 3) (C := RX6) (T := TX6) (N := 2) hx hb hts inX6 hown hK hP 1 rfl rfl 1 (by decide) (va_Nw.use rfl (hnw _ wn_160)) (fun _ h9 => h9) rfl dX4_cutTo_4 ?_
  refine lv_iconst (v := 1) hx hb dX4_cutTo_7 (by decide +kernel) ?_
  refine lv_isub hx hb dX4_cutTo_8 ?_
  refine nrm (y := 2) (by decide +kernel) ?_
  refine lv_istore_n (lv' := [(2, .int 2), (0, .ref h0), (1, .int 3)]) hx hb dX4_cutTo_9 rfl hl (by decide) rfl (fun ls hl => ?_)
  refine lv_iload_n hx hb dX4_cutTo_10 rfl (lv_at hl 0 rfl) ?_
  refine pcn (b := 11) rfl ?_
  refine lv_iload_n hx hb dX4_cutTo_11 rfl (lv_at hl 2 rfl) ?_
  refine lv_icmp_lt (tgt := 73) hx hb dX4_cutTo_12 (by decide) (fun _ => ?_) (fun h9 => absurd (by decide +kernel) h9)
  refine lv_aload_n hx hb dX4_cutTo_73 rfl (lv_at hl 1 rfl) ?_
  refine va_get (D := D) (ci := 4) (v := .ref h1) (C := RX4) (T := TX4) (N := 2) hx hb hts inX4 hown hK hP 0 rfl rfl 0 (by decide) (hts _ wm_171) (fun _ h9 => h9) rfl dX4_cutTo_74 ?_
  refine lv_iload_n hx hb dX4_cutTo_77 rfl (lv_at hl 2 rfl) ?_
  refine kVNv (As := [.int 3]) (rest := []) (wr := [(h0, .inr (4, [.ref h1, .ref g0]))]) hx hb hml hown hts hnw hK hP hD hS hA hl.1 (c_X6_cut_1 l D cI cZ cB cJ h1 g1) yk_X6_cut wn_476 [1] [0] rfl rfl (by decide) (by decide) (by decide) 0 rfl rfl rfl rfl rfl dX4_cutTo_78 ⟨Nat.le_of_ble_eq_true rfl, Nat.le_of_ble_eq_true rfl⟩ ⟨Nat.le_of_ble_eq_true rfl, Nat.le_of_ble_eq_true rfl⟩ (Nat.le_of_ble_eq_true rfl) (fun w1 H locs hq9 hP hD hS => ?_)
  obtain rfl := hq9
  have hP : va_P D vwCl [(h0, .inr (4, [.ref h1, .ref g0])), (h1, .inr (6, [.ref g1, .int 3]))] H := hP
  have hD : va_D A [(h0, .inr (4, [.ref h1, .ref g0])), (h1, .inr (6, [.ref g1, .int 3]))] := hD
  refine W.widen (k := 0) (n := 0) (Nat.le_of_ble_eq_true rfl) (Nat.le_of_ble_eq_true rfl) ?_
  refine pcn (b := 81) rfl ?_
  refine W.widen (k := 0) (n := 0) (Nat.le_of_ble_eq_true rfl) (Nat.le_of_ble_eq_true rfl) ?_
  exact rtV hx hb hr hlocks hS hP hD rfl dX4_cutTo_81

set_option maxHeartbeats 4000000 in
set_option maxRecDepth 100000 in
theorem c_X6_cut_2 (l : Launch) (D : va_G) (cI cZ cB cJ : ClassId) (h0 g0 : Nat) : CtV l D (TT cI cZ cB cJ) yX6_cut cX6_cut 2 none 1 21 0 0 [.ref h0, .int 0] [(h0, .inr (6, [.ref g0, .int 0]))] (fun w1 => w1 = [(h0, .inr (6, [.ref g0, .int 0]))]) := by
  refine CtV.of (by decide +kernel) (Nat.le_of_ble_eq_true rfl) ?_
  intro p e s m below meth c A ls hx hb hr hml hown hts hnw hlocks hin hA hS hP hK hD hl
  have hown : s.vm.findClass RX6 = some m.cls := hown
  have hl : lv_has ls 2 [(0, .ref h0), (1, .int 0)] := hl
  refine lv_aload_n hx hb dX6_cut_0 rfl (lv_at hl 0 rfl) ?_
  refine lv_iconst (v := 0) hx hb dX6_cut_1 (by decide +kernel) ?_
  refine lv_aload_n hx hb dX6_cut_2 rfl (lv_at hl 0 rfl) ?_
  refine va_get (D := D) (ci := 6) (v := .int 0) (C := RX6) (T := TX6) (N := 2) hx hb hts inX6 hown hK hP 0 rfl rfl 1 (by decide) (hts _ wm_157) (fun _ h9 => h9) rfl dX6_cut_3 ?_
  refine lv_iload_n hx hb dX6_cut_6 rfl (lv_at hl 1 rfl) ?_
  refine va_mmin hx hb (hml.trans hl.1.symm) hown (hts _ wm_150) (hts _ wm_151) (hts _ wm_8) (hts _ wm_152) (Nat.le_of_ble_eq_true rfl) (Nat.le_of_ble_eq_true rfl) (Nat.le_of_ble_eq_true rfl) (Nat.le_of_ble_eq_true rfl) dX6_cut_7 ?_
  refine nrm (y := 0) (by decide +kernel) ?_
  refine va_mmax hx hb (hml.trans hl.1.symm) hown (hts _ wm_153) (hts _ wm_154) (hts _ wm_8) (hts _ wm_155) (Nat.le_of_ble_eq_true rfl) (Nat.le_of_ble_eq_true rfl) (Nat.le_of_ble_eq_true rfl) (Nat.le_of_ble_eq_true rfl) dX6_cut_10 ?_
  refine nrm (y := 0) (by decide +kernel) ?_
  refine pcn (b := 13) rfl ?_
  refine va_put (D := D) (ci := 6) (v := .int 0) (ty := .int) (C := RX6) (T := TX6) (N := 2) hx hb hts inX6 tyX6 tyX6_ok nmX6 hown hK hP hD hS 0 rfl rfl 1 (by decide) (hts _ wm_157) (fun _ h9 => h9) rfl (by decide +kernel) rfl rfl (Nat.le_of_ble_eq_true rfl) dX6_cut_13 (fun H locs hP hD hS => ?_)
  have hP : va_P D vwCl [(h0, .inr (6, [.ref g0, .int 0]))] H := hP
  have hD : va_D A [(h0, .inr (6, [.ref g0, .int 0]))] := hD
  refine W.widen (k := 0) (n := 0) (Nat.le_of_ble_eq_true rfl) (Nat.le_of_ble_eq_true rfl) ?_
  exact rtV hx hb hr hlocks hS hP hD rfl dX6_cut_16

set_option maxHeartbeats 4000000 in
set_option maxRecDepth 100000 in
theorem c_X11_at_4 (l : Launch) (D : va_G) (cI cZ cB cJ : ClassId) (h0 : Nat) : CtI l D (TT cI cZ cB cJ) yX11_at cX11_at 2 (some .int) 0 0 0 0 [.ref h0, .int 0] [(h0, .inl (cI, 60, .inl (fun _ => 0)))] (fun r w1 => r = 0 ∧ w1 = [(h0, .inl (cI, 60, .inl (fun _ => 0)))]) := by
  refine CtI.of (by decide +kernel) (Nat.le_of_ble_eq_true rfl) ?_
  intro p e s m below meth c A ls hx hb hr hml hown hts hnw hlocks hin hA hS hP hK hD hl
  have hown : s.vm.findClass RX11 = some m.cls := hown
  have hl : lv_has ls 2 [(0, .ref h0), (1, .int 0)] := hl
  refine lv_iload_n hx hb dX11_at_0 rfl (lv_at hl 1 rfl) ?_
  refine lv_if_lt (tgt := 16) hx hb dX11_at_1 (by decide) (fun h9 => absurd h9 (by decide +kernel)) (fun _ => ?_)
  refine lv_iload_n hx hb dX11_at_4 rfl (lv_at hl 1 rfl) ?_
  refine lv_aload_n hx hb dX11_at_5 rfl (lv_at hl 0 rfl) ?_
  refine va_alen (v := 60) hx hb hK hP 0 0 rfl rfl (by decide +kernel) dX11_at_6 ?_
  refine lv_icmp_ge (tgt := 16) hx hb dX11_at_7 (by decide) (fun h9 => absurd h9 (by decide +kernel)) (fun _ => ?_)
  refine lv_aload_n hx hb dX11_at_10 rfl (lv_at hl 0 rfl) ?_
  refine pcn (b := 11) rfl ?_
  refine lv_iload_n hx hb dX11_at_11 rfl (lv_at hl 1 rfl) ?_
  refine al_i (x := 0) hx hb hK hP 0 0 rfl rfl (vpi (by decide +kernel)) (by first | decide +kernel | rfl) dX11_at_12 ?_
  refine lv_goto (tgt := 17) hx hb dX11_at_13 (by decide) ?_
  refine W.widen (k := 0) (n := 0) (Nat.le_of_ble_eq_true rfl) (Nat.le_of_ble_eq_true rfl) ?_
  exact rtI hx hb hr hlocks hS hP hD ⟨rfl, rfl⟩ dX11_at_17

set_option maxHeartbeats 4000000 in
set_option maxRecDepth 100000 in
theorem c_X11_at_5 (l : Launch) (D : va_G) (cI cZ cB cJ : ClassId) (h0 : Nat) : CtI l D (TT cI cZ cB cJ) yX11_at cX11_at 2 (some .int) 0 0 0 0 [.ref h0, .int 0] [(h0, .inl (cI, 180, .inl (fun _ => (-1))))] (fun r w1 => r = (-1) ∧ w1 = [(h0, .inl (cI, 180, .inl (fun _ => (-1))))]) := by
  refine CtI.of (by decide +kernel) (Nat.le_of_ble_eq_true rfl) ?_
  intro p e s m below meth c A ls hx hb hr hml hown hts hnw hlocks hin hA hS hP hK hD hl
  have hown : s.vm.findClass RX11 = some m.cls := hown
  have hl : lv_has ls 2 [(0, .ref h0), (1, .int 0)] := hl
  refine lv_iload_n hx hb dX11_at_0 rfl (lv_at hl 1 rfl) ?_
  refine lv_if_lt (tgt := 16) hx hb dX11_at_1 (by decide) (fun h9 => absurd h9 (by decide +kernel)) (fun _ => ?_)
  refine lv_iload_n hx hb dX11_at_4 rfl (lv_at hl 1 rfl) ?_
  refine lv_aload_n hx hb dX11_at_5 rfl (lv_at hl 0 rfl) ?_
  refine va_alen (v := 180) hx hb hK hP 0 0 rfl rfl (by decide +kernel) dX11_at_6 ?_
  refine lv_icmp_ge (tgt := 16) hx hb dX11_at_7 (by decide) (fun h9 => absurd h9 (by decide +kernel)) (fun _ => ?_)
  refine lv_aload_n hx hb dX11_at_10 rfl (lv_at hl 0 rfl) ?_
  refine pcn (b := 11) rfl ?_
  refine lv_iload_n hx hb dX11_at_11 rfl (lv_at hl 1 rfl) ?_
  refine al_i (x := (-1)) hx hb hK hP 0 0 rfl rfl (vpi (by decide +kernel)) (by first | decide +kernel | rfl) dX11_at_12 ?_
  refine lv_goto (tgt := 17) hx hb dX11_at_13 (by decide) ?_
  refine W.widen (k := 0) (n := 0) (Nat.le_of_ble_eq_true rfl) (Nat.le_of_ble_eq_true rfl) ?_
  exact rtI hx hb hr hlocks hS hP hD ⟨rfl, rfl⟩ dX11_at_17

set_option maxHeartbeats 4000000 in
set_option maxRecDepth 100000 in
theorem c_X7_part_0 (l : Launch) (D : va_G) (cI cZ cB cJ : ClassId) (h0 h1 g0 g1 g2 g3 g4 g5 g6 g7 : Nat) : CtI l D (TT cI cZ cB cJ) yX7_part cX7_part 3 (some .int) 1 21 0 0 [.ref h0, .int 0, .int 0] [(h0, .inr (7, [.ref g0, .ref g1, .ref g2, .ref g3, .ref g4, .ref g5, .ref h1, .ref g6, .ref g7, .int 1, .int 1, .int 0])), (h1, .inl (cI, 180, .inl (fun _ => (-1))))] (fun r w1 => r = (-1) ∧ w1 = [(h0, .inr (7, [.ref g0, .ref g1, .ref g2, .ref g3, .ref g4, .ref g5, .ref h1, .ref g6, .ref g7, .int 1, .int 1, .int 0])), (h1, .inl (cI, 180, .inl (fun _ => (-1))))]) := by
  refine CtI.of (by decide +kernel) (Nat.le_of_ble_eq_true rfl) ?_
  intro p e s m below meth c A ls hx hb hr hml hown hts hnw hlocks hin hA hS hP hK hD hl
  have hown : s.vm.findClass RX7 = some m.cls := hown
  have hl : lv_has ls 3 [(0, .ref h0), (1, .int 0), (2, .int 0)] := hl
  refine lv_aload_n hx hb dX7_part_0 rfl (lv_at hl 0 rfl) ?_
  refine va_get (D := D) (ci := 7) (v := .ref h1) (C := RX7) (T := TX7) (N := 12) hx hb hts inX7 hown hK hP 0 rfl rfl 6 (by decide) (hts _ wm_92) (fun _ h9 => h9) rfl dX7_part_1 ?_
  refine lv_iconst (v := 3) hx hb dX7_part_4 (by decide +kernel) ?_
  refine lv_iload_n hx hb dX7_part_5 rfl (lv_at hl 1 rfl) ?_
  refine lv_imul hx hb dX7_part_6 ?_
  refine nrm (y := 0) (by decide +kernel) ?_
  refine lv_iload_n hx hb dX7_part_7 rfl (lv_at hl 2 rfl) ?_
  refine lv_iadd hx hb dX7_part_8 ?_
  refine nrm (y := 0) (by decide +kernel) ?_
  refine pcn (b := 9) rfl ?_
  refine kSNi (As := [.ref h1, .int 0]) (rest := []) (wr := [(h0, .inr (7, [.ref g0, .ref g1, .ref g2, .ref g3, .ref g4, .ref g5, .ref h1, .ref g6, .ref g7, .int 1, .int 1, .int 0]))]) hx hb hml hown hts hnw hK hP hD hS hA hl.1 (c_X11_at_5 l D cI cZ cB cJ h1) yk_X11_at wn_491 [1] [0] rfl rfl (by decide) (by decide) (by decide) rfl rfl dX7_part_9 ⟨Nat.le_of_ble_eq_true rfl, Nat.le_of_ble_eq_true rfl⟩ ⟨Nat.le_of_ble_eq_true rfl, Nat.le_of_ble_eq_true rfl⟩ (Nat.le_of_ble_eq_true rfl) (fun r9 w1 H locs hq9 hP hD hS => ?_)
  obtain ⟨rfl, rfl⟩ := hq9
  have hP : va_P D vwCl [(h0, .inr (7, [.ref g0, .ref g1, .ref g2, .ref g3, .ref g4, .ref g5, .ref h1, .ref g6, .ref g7, .int 1, .int 1, .int 0])), (h1, .inl (cI, 180, .inl (fun _ => (-1))))] H := hP
  have hD : va_D A [(h0, .inr (7, [.ref g0, .ref g1, .ref g2, .ref g3, .ref g4, .ref g5, .ref h1, .ref g6, .ref g7, .int 1, .int 1, .int 0])), (h1, .inl (cI, 180, .inl (fun _ => (-1))))] := hD
  refine W.widen (k := 0) (n := 0) (Nat.le_of_ble_eq_true rfl) (Nat.le_of_ble_eq_true rfl) ?_
  refine pcn (b := 12) rfl ?_
  refine W.widen (k := 0) (n := 0) (Nat.le_of_ble_eq_true rfl) (Nat.le_of_ble_eq_true rfl) ?_
  exact rtI hx hb hr hlocks hS hP hD ⟨rfl, rfl⟩ dX7_part_12

set_option maxHeartbeats 4000000 in
set_option maxRecDepth 100000 in
theorem c_X11_at_6 (l : Launch) (D : va_G) (cI cZ cB cJ : ClassId) (h0 : Nat) : CtI l D (TT cI cZ cB cJ) yX11_at cX11_at 2 (some .int) 0 0 0 0 [.ref h0, .int 1] [(h0, .inl (cI, 180, .inl (fun _ => (-1))))] (fun r w1 => r = (-1) ∧ w1 = [(h0, .inl (cI, 180, .inl (fun _ => (-1))))]) := by
  refine CtI.of (by decide +kernel) (Nat.le_of_ble_eq_true rfl) ?_
  intro p e s m below meth c A ls hx hb hr hml hown hts hnw hlocks hin hA hS hP hK hD hl
  have hown : s.vm.findClass RX11 = some m.cls := hown
  have hl : lv_has ls 2 [(0, .ref h0), (1, .int 1)] := hl
  refine lv_iload_n hx hb dX11_at_0 rfl (lv_at hl 1 rfl) ?_
  refine lv_if_lt (tgt := 16) hx hb dX11_at_1 (by decide) (fun h9 => absurd h9 (by decide +kernel)) (fun _ => ?_)
  refine lv_iload_n hx hb dX11_at_4 rfl (lv_at hl 1 rfl) ?_
  refine lv_aload_n hx hb dX11_at_5 rfl (lv_at hl 0 rfl) ?_
  refine va_alen (v := 180) hx hb hK hP 0 0 rfl rfl (by decide +kernel) dX11_at_6 ?_
  refine lv_icmp_ge (tgt := 16) hx hb dX11_at_7 (by decide) (fun h9 => absurd h9 (by decide +kernel)) (fun _ => ?_)
  refine lv_aload_n hx hb dX11_at_10 rfl (lv_at hl 0 rfl) ?_
  refine pcn (b := 11) rfl ?_
  refine lv_iload_n hx hb dX11_at_11 rfl (lv_at hl 1 rfl) ?_
  refine al_i (x := (-1)) hx hb hK hP 0 0 rfl rfl (vpi (by decide +kernel)) (by first | decide +kernel | rfl) dX11_at_12 ?_
  refine lv_goto (tgt := 17) hx hb dX11_at_13 (by decide) ?_
  refine W.widen (k := 0) (n := 0) (Nat.le_of_ble_eq_true rfl) (Nat.le_of_ble_eq_true rfl) ?_
  exact rtI hx hb hr hlocks hS hP hD ⟨rfl, rfl⟩ dX11_at_17

set_option maxHeartbeats 4000000 in
set_option maxRecDepth 100000 in
theorem c_X7_part_1 (l : Launch) (D : va_G) (cI cZ cB cJ : ClassId) (h0 h1 g0 g1 g2 g3 g4 g5 g6 g7 : Nat) : CtI l D (TT cI cZ cB cJ) yX7_part cX7_part 3 (some .int) 1 21 0 0 [.ref h0, .int 0, .int 1] [(h0, .inr (7, [.ref g0, .ref g1, .ref g2, .ref g3, .ref g4, .ref g5, .ref h1, .ref g6, .ref g7, .int 1, .int 1, .int 0])), (h1, .inl (cI, 180, .inl (fun _ => (-1))))] (fun r w1 => r = (-1) ∧ w1 = [(h0, .inr (7, [.ref g0, .ref g1, .ref g2, .ref g3, .ref g4, .ref g5, .ref h1, .ref g6, .ref g7, .int 1, .int 1, .int 0])), (h1, .inl (cI, 180, .inl (fun _ => (-1))))]) := by
  refine CtI.of (by decide +kernel) (Nat.le_of_ble_eq_true rfl) ?_
  intro p e s m below meth c A ls hx hb hr hml hown hts hnw hlocks hin hA hS hP hK hD hl
  have hown : s.vm.findClass RX7 = some m.cls := hown
  have hl : lv_has ls 3 [(0, .ref h0), (1, .int 0), (2, .int 1)] := hl
  refine lv_aload_n hx hb dX7_part_0 rfl (lv_at hl 0 rfl) ?_
  refine va_get (D := D) (ci := 7) (v := .ref h1) (C := RX7) (T := TX7) (N := 12) hx hb hts inX7 hown hK hP 0 rfl rfl 6 (by decide) (hts _ wm_92) (fun _ h9 => h9) rfl dX7_part_1 ?_
  refine lv_iconst (v := 3) hx hb dX7_part_4 (by decide +kernel) ?_
  refine lv_iload_n hx hb dX7_part_5 rfl (lv_at hl 1 rfl) ?_
  refine lv_imul hx hb dX7_part_6 ?_
  refine nrm (y := 0) (by decide +kernel) ?_
  refine lv_iload_n hx hb dX7_part_7 rfl (lv_at hl 2 rfl) ?_
  refine lv_iadd hx hb dX7_part_8 ?_
  refine nrm (y := 1) (by decide +kernel) ?_
  refine pcn (b := 9) rfl ?_
  refine kSNi (As := [.ref h1, .int 1]) (rest := []) (wr := [(h0, .inr (7, [.ref g0, .ref g1, .ref g2, .ref g3, .ref g4, .ref g5, .ref h1, .ref g6, .ref g7, .int 1, .int 1, .int 0]))]) hx hb hml hown hts hnw hK hP hD hS hA hl.1 (c_X11_at_6 l D cI cZ cB cJ h1) yk_X11_at wn_491 [1] [0] rfl rfl (by decide) (by decide) (by decide) rfl rfl dX7_part_9 ⟨Nat.le_of_ble_eq_true rfl, Nat.le_of_ble_eq_true rfl⟩ ⟨Nat.le_of_ble_eq_true rfl, Nat.le_of_ble_eq_true rfl⟩ (Nat.le_of_ble_eq_true rfl) (fun r9 w1 H locs hq9 hP hD hS => ?_)
  obtain ⟨rfl, rfl⟩ := hq9
  have hP : va_P D vwCl [(h0, .inr (7, [.ref g0, .ref g1, .ref g2, .ref g3, .ref g4, .ref g5, .ref h1, .ref g6, .ref g7, .int 1, .int 1, .int 0])), (h1, .inl (cI, 180, .inl (fun _ => (-1))))] H := hP
  have hD : va_D A [(h0, .inr (7, [.ref g0, .ref g1, .ref g2, .ref g3, .ref g4, .ref g5, .ref h1, .ref g6, .ref g7, .int 1, .int 1, .int 0])), (h1, .inl (cI, 180, .inl (fun _ => (-1))))] := hD
  refine W.widen (k := 0) (n := 0) (Nat.le_of_ble_eq_true rfl) (Nat.le_of_ble_eq_true rfl) ?_
  refine pcn (b := 12) rfl ?_
  refine W.widen (k := 0) (n := 0) (Nat.le_of_ble_eq_true rfl) (Nat.le_of_ble_eq_true rfl) ?_
  exact rtI hx hb hr hlocks hS hP hD ⟨rfl, rfl⟩ dX7_part_12

set_option maxHeartbeats 4000000 in
set_option maxRecDepth 100000 in
theorem c_X1_typeOf_0 (l : Launch) (D : va_G) (cI cZ cB cJ : ClassId) (h0 h1 h2 h3 h4 g0 g1 g2 g3 g4 g5 g6 g7 g8 g9 g10 g11 : Nat) : CtI l D (TT cI cZ cB cJ) yX1_typeOf cX1_typeOf 5 (some .int) 2 43 0 0 [.ref h0, .int 0] [(h0, .inr (1, [.ref h1, .ref g0, .ref g1, .ref g2, .ref g3, .ref g4, .ref g5, .int 4, .int 0, .int 0, .int (-1), .int 0])), (h1, .inr (7, [.ref h4, .ref g6, .ref g7, .ref h2, .ref g8, .ref g9, .ref h3, .ref g10, .ref g11, .int 1, .int 1, .int 0])), (h2, .inl (cI, 60, .inl (fun _ => 0))), (h3, .inl (cI, 180, .inl (fun _ => (-1)))), (h4, .inl (cI, 60, .inl (fun _ => 0)))] (fun r w1 => r = 1 ∧ w1 = [(h0, .inr (1, [.ref h1, .ref g0, .ref g1, .ref g2, .ref g3, .ref g4, .ref g5, .int 4, .int 0, .int 0, .int (-1), .int 0])), (h1, .inr (7, [.ref h4, .ref g6, .ref g7, .ref h2, .ref g8, .ref g9, .ref h3, .ref g10, .ref g11, .int 1, .int 1, .int 0])), (h2, .inl (cI, 60, .inl (fun _ => 0))), (h3, .inl (cI, 180, .inl (fun _ => (-1)))), (h4, .inl (cI, 60, .inl (fun _ => 0)))]) := by
  refine CtI.of (by decide +kernel) (Nat.le_of_ble_eq_true rfl) ?_
  intro p e s m below meth c A ls hx hb hr hml hown hts hnw hlocks hin hA hS hP hK hD hl
  have hown : s.vm.findClass RX1 = some m.cls := hown
  have hl : lv_has ls 5 [(0, .ref h0), (1, .int 0)] := hl
  refine lv_aload_n hx hb dX1_typeOf_0 rfl (lv_at hl 0 rfl) ?_
  refine va_get (D := D) (ci := 1) (v := .ref h1) (C := RX1) (T := TX1) (N := 12) hx hb hts inX1 hown hK hP 0 rfl rfl 0 (by decide) (hts _ wm_274) (fun _ h9 => h9) rfl dX1_typeOf_1 ?_
  refine va_getN (D := D) (ci := 7) (v := .ref h2) (C := RX7) (T := TX7) (N := 12) hx hb hts inX7 hown hK hP 1 rfl rfl 3 (by decide) (va_Nw.use rfl (hnw _ wn_85)) (fun _ h9 => h9) rfl dX1_typeOf_4 ?_
  refine lv_iload_n hx hb dX1_typeOf_7 rfl (lv_at hl 1 rfl) ?_
  refine kSNi (As := [.ref h2, .int 0]) (rest := []) (wr := [(h0, .inr (1, [.ref h1, .ref g0, .ref g1, .ref g2, .ref g3, .ref g4, .ref g5, .int 4, .int 0, .int 0, .int (-1), .int 0])), (h1, .inr (7, [.ref h4, .ref g6, .ref g7, .ref h2, .ref g8, .ref g9, .ref h3, .ref g10, .ref g11, .int 1, .int 1, .int 0])), (h3, .inl (cI, 180, .inl (fun _ => (-1)))), (h4, .inl (cI, 60, .inl (fun _ => 0)))]) hx hb hml hown hts hnw hK hP hD hS hA hl.1 (c_X11_at_4 l D cI cZ cB cJ h2) yk_X11_at wn_482 [2] [0, 1, 3, 4] rfl rfl (by decide) (by decide) (by decide) rfl rfl dX1_typeOf_8 ⟨Nat.le_of_ble_eq_true rfl, Nat.le_of_ble_eq_true rfl⟩ ⟨Nat.le_of_ble_eq_true rfl, Nat.le_of_ble_eq_true rfl⟩ (Nat.le_of_ble_eq_true rfl) (fun r9 w1 H locs hq9 hP hD hS => ?_)
  obtain ⟨rfl, rfl⟩ := hq9
  have hP : va_P D vwCl [(h0, .inr (1, [.ref h1, .ref g0, .ref g1, .ref g2, .ref g3, .ref g4, .ref g5, .int 4, .int 0, .int 0, .int (-1), .int 0])), (h1, .inr (7, [.ref h4, .ref g6, .ref g7, .ref h2, .ref g8, .ref g9, .ref h3, .ref g10, .ref g11, .int 1, .int 1, .int 0])), (h3, .inl (cI, 180, .inl (fun _ => (-1)))), (h4, .inl (cI, 60, .inl (fun _ => 0))), (h2, .inl (cI, 60, .inl (fun _ => 0)))] H := hP
  have hD : va_D A [(h0, .inr (1, [.ref h1, .ref g0, .ref g1, .ref g2, .ref g3, .ref g4, .ref g5, .int 4, .int 0, .int 0, .int (-1), .int 0])), (h1, .inr (7, [.ref h4, .ref g6, .ref g7, .ref h2, .ref g8, .ref g9, .ref h3, .ref g10, .ref g11, .int 1, .int 1, .int 0])), (h3, .inl (cI, 180, .inl (fun _ => (-1)))), (h4, .inl (cI, 60, .inl (fun _ => 0))), (h2, .inl (cI, 60, .inl (fun _ => 0)))] := hD
  refine W.widen (k := 0) (n := 0) (Nat.le_of_ble_eq_true rfl) (Nat.le_of_ble_eq_true rfl) ?_
  refine pcn (b := 11) rfl ?_
  refine lv_istore_n (lv' := [(2, .int 0), (0, .ref h0), (1, .int 0)]) hx hb dX1_typeOf_11 rfl hl (by decide) rfl (fun ls hl => ?_)
  refine lv_aload_n hx hb dX1_typeOf_12 rfl (lv_at hl 1 rfl) ?_
  refine va_get (D := D) (ci := 1) (v := .ref h1) (C := RX1) (T := TX1) (N := 12) hx hb hts inX1 hown hK hP 0 rfl rfl 0 (by decide) (hts _ wm_274) (fun _ h9 => h9) rfl dX1_typeOf_13 ?_
  refine lv_iload_n hx hb dX1_typeOf_16 rfl (lv_at hl 2 rfl) ?_
  refine lv_iconst (v := 0) hx hb dX1_typeOf_17 (by decide +kernel) ?_
  refine kVNi (As := [.int 0, .int 0]) (rest := []) (wr := [(h0, .inr (1, [.ref h1, .ref g0, .ref g1, .ref g2, .ref g3, .ref g4, .ref g5, .int 4, .int 0, .int 0, .int (-1), .int 0])), (h4, .inl (cI, 60, .inl (fun _ => 0))), (h2, .inl (cI, 60, .inl (fun _ => 0)))]) hx hb hml hown hts hnw hK hP hD hS hA hl.1 (c_X7_part_0 l D cI cZ cB cJ h1 h3 h4 g6 g7 h2 g8 g9 g10 g11) yk_X7_part wn_487 [1, 2] [0, 3, 4] rfl rfl (by decide) (by decide) (by decide) 0 rfl rfl rfl rfl rfl dX1_typeOf_18 ⟨Nat.le_of_ble_eq_true rfl, Nat.le_of_ble_eq_true rfl⟩ ⟨Nat.le_of_ble_eq_true rfl, Nat.le_of_ble_eq_true rfl⟩ (Nat.le_of_ble_eq_true rfl) (fun r9 w1 H locs hq9 hP hD hS => ?_)
  obtain ⟨rfl, rfl⟩ := hq9
  have hP : va_P D vwCl [(h0, .inr (1, [.ref h1, .ref g0, .ref g1, .ref g2, .ref g3, .ref g4, .ref g5, .int 4, .int 0, .int 0, .int (-1), .int 0])), (h4, .inl (cI, 60, .inl (fun _ => 0))), (h2, .inl (cI, 60, .inl (fun _ => 0))), (h1, .inr (7, [.ref h4, .ref g6, .ref g7, .ref h2, .ref g8, .ref g9, .ref h3, .ref g10, .ref g11, .int 1, .int 1, .int 0])), (h3, .inl (cI, 180, .inl (fun _ => (-1))))] H := hP
  have hD : va_D A [(h0, .inr (1, [.ref h1, .ref g0, .ref g1, .ref g2, .ref g3, .ref g4, .ref g5, .int 4, .int 0, .int 0, .int (-1), .int 0])), (h4, .inl (cI, 60, .inl (fun _ => 0))), (h2, .inl (cI, 60, .inl (fun _ => 0))), (h1, .inr (7, [.ref h4, .ref g6, .ref g7, .ref h2, .ref g8, .ref g9, .ref h3, .ref g10, .ref g11, .int 1, .int 1, .int 0])), (h3, .inl (cI, 180, .inl (fun _ => (-1))))] := hD
  refine W.widen (k := 0) (n := 0) (Nat.le_of_ble_eq_true rfl) (Nat.le_of_ble_eq_true rfl) ?_
  refine pcn (b := 21) rfl ?_
  refine lv_istore_n (lv' := [(3, .int (-1)), (2, .int 0), (0, .ref h0), (1, .int 0)]) hx hb dX1_typeOf_21 rfl hl (by decide) rfl (fun ls hl => ?_)
  refine lv_aload_n hx hb dX1_typeOf_22 rfl (lv_at hl 2 rfl) ?_
  refine va_get (D := D) (ci := 1) (v := .ref h1) (C := RX1) (T := TX1) (N := 12) hx hb hts inX1 hown hK hP 0 rfl rfl 0 (by decide) (hts _ wm_274) (fun _ h9 => h9) rfl dX1_typeOf_23 ?_
  refine lv_iload_n hx hb dX1_typeOf_26 rfl (lv_at hl 3 rfl) ?_
  refine lv_iconst (v := 1) hx hb dX1_typeOf_27 (by decide +kernel) ?_
  refine kVNi (As := [.int 0, .int 1]) (rest := []) (wr := [(h0, .inr (1, [.ref h1, .ref g0, .ref g1, .ref g2, .ref g3, .ref g4, .ref g5, .int 4, .int 0, .int 0, .int (-1), .int 0])), (h4, .inl (cI, 60, .inl (fun _ => 0))), (h2, .inl (cI, 60, .inl (fun _ => 0)))]) hx hb hml hown hts hnw hK hP hD hS hA hl.1 (c_X7_part_1 l D cI cZ cB cJ h1 h3 h4 g6 g7 h2 g8 g9 g10 g11) yk_X7_part wn_487 [3, 4] [0, 1, 2] rfl rfl (by decide) (by decide) (by decide) 0 rfl rfl rfl rfl rfl dX1_typeOf_28 ⟨Nat.le_of_ble_eq_true rfl, Nat.le_of_ble_eq_true rfl⟩ ⟨Nat.le_of_ble_eq_true rfl, Nat.le_of_ble_eq_true rfl⟩ (Nat.le_of_ble_eq_true rfl) (fun r9 w1 H locs hq9 hP hD hS => ?_)
  obtain ⟨rfl, rfl⟩ := hq9
  have hP : va_P D vwCl [(h0, .inr (1, [.ref h1, .ref g0, .ref g1, .ref g2, .ref g3, .ref g4, .ref g5, .int 4, .int 0, .int 0, .int (-1), .int 0])), (h4, .inl (cI, 60, .inl (fun _ => 0))), (h2, .inl (cI, 60, .inl (fun _ => 0))), (h1, .inr (7, [.ref h4, .ref g6, .ref g7, .ref h2, .ref g8, .ref g9, .ref h3, .ref g10, .ref g11, .int 1, .int 1, .int 0])), (h3, .inl (cI, 180, .inl (fun _ => (-1))))] H := hP
  have hD : va_D A [(h0, .inr (1, [.ref h1, .ref g0, .ref g1, .ref g2, .ref g3, .ref g4, .ref g5, .int 4, .int 0, .int 0, .int (-1), .int 0])), (h4, .inl (cI, 60, .inl (fun _ => 0))), (h2, .inl (cI, 60, .inl (fun _ => 0))), (h1, .inr (7, [.ref h4, .ref g6, .ref g7, .ref h2, .ref g8, .ref g9, .ref h3, .ref g10, .ref g11, .int 1, .int 1, .int 0])), (h3, .inl (cI, 180, .inl (fun _ => (-1))))] := hD
  refine W.widen (k := 0) (n := 0) (Nat.le_of_ble_eq_true rfl) (Nat.le_of_ble_eq_true rfl) ?_
  refine pcn (b := 31) rfl ?_
  refine lv_istore (lv' := [(4, .int (-1)), (3, .int (-1)), (2, .int 0), (0, .ref h0), (1, .int 0)]) hx hb dX1_typeOf_31 hl (by decide) rfl (fun ls hl => ?_)
  refine lv_aload_n hx hb dX1_typeOf_33 rfl (lv_at hl 3 rfl) ?_
  refine va_get (D := D) (ci := 1) (v := .ref h1) (C := RX1) (T := TX1) (N := 12) hx hb hts inX1 hown hK hP 0 rfl rfl 0 (by decide) (hts _ wm_274) (fun _ h9 => h9) rfl dX1_typeOf_34 ?_
  refine va_getN (D := D) (ci := 7) (v := .ref h4) (C := RX7) (T := TX7) (N := 12) hx hb hts inX7 hown hK hP 3 rfl rfl 0 (by decide) (va_Nw.use rfl (hnw _ wn_78)) (fun _ h9 => h9) rfl dX1_typeOf_37 ?_
  refine lv_iload_n hx hb dX1_typeOf_40 rfl (lv_at hl 4 rfl) ?_
  refine kSNi (As := [.ref h4, .int 0]) (rest := []) (wr := [(h0, .inr (1, [.ref h1, .ref g0, .ref g1, .ref g2, .ref g3, .ref g4, .ref g5, .int 4, .int 0, .int 0, .int (-1), .int 0])), (h2, .inl (cI, 60, .inl (fun _ => 0))), (h1, .inr (7, [.ref h4, .ref g6, .ref g7, .ref h2, .ref g8, .ref g9, .ref h3, .ref g10, .ref g11, .int 1, .int 1, .int 0])), (h3, .inl (cI, 180, .inl (fun _ => (-1))))]) hx hb hml hown hts hnw hK hP hD hS hA hl.1 (c_X11_at_4 l D cI cZ cB cJ h4) yk_X11_at wn_482 [1] [0, 2, 3, 4] rfl rfl (by decide) (by decide) (by decide) rfl rfl dX1_typeOf_41 ⟨Nat.le_of_ble_eq_true rfl, Nat.le_of_ble_eq_true rfl⟩ ⟨Nat.le_of_ble_eq_true rfl, Nat.le_of_ble_eq_true rfl⟩ (Nat.le_of_ble_eq_true rfl) (fun r9 w1 H locs hq9 hP hD hS => ?_)
  obtain ⟨rfl, rfl⟩ := hq9
  have hP : va_P D vwCl [(h0, .inr (1, [.ref h1, .ref g0, .ref g1, .ref g2, .ref g3, .ref g4, .ref g5, .int 4, .int 0, .int 0, .int (-1), .int 0])), (h2, .inl (cI, 60, .inl (fun _ => 0))), (h1, .inr (7, [.ref h4, .ref g6, .ref g7, .ref h2, .ref g8, .ref g9, .ref h3, .ref g10, .ref g11, .int 1, .int 1, .int 0])), (h3, .inl (cI, 180, .inl (fun _ => (-1)))), (h4, .inl (cI, 60, .inl (fun _ => 0)))] H := hP
  have hD : va_D A [(h0, .inr (1, [.ref h1, .ref g0, .ref g1, .ref g2, .ref g3, .ref g4, .ref g5, .int 4, .int 0, .int 0, .int (-1), .int 0])), (h2, .inl (cI, 60, .inl (fun _ => 0))), (h1, .inr (7, [.ref h4, .ref g6, .ref g7, .ref h2, .ref g8, .ref g9, .ref h3, .ref g10, .ref g11, .int 1, .int 1, .int 0])), (h3, .inl (cI, 180, .inl (fun _ => (-1)))), (h4, .inl (cI, 60, .inl (fun _ => 0)))] := hD
  refine W.widen (k := 0) (n := 0) (Nat.le_of_ble_eq_true rfl) (Nat.le_of_ble_eq_true rfl) ?_
  refine pcn (b := 44) rfl ?_
  refine lv_tableIn (off := 64) (tgt := 108) hx hb dX1_typeOf_44 (by decide +kernel) (by decide +kernel) (by decide +kernel) (by decide) ?_
  refine lv_iconst (v := 1) hx hb dX1_typeOf_108 (by decide +kernel) ?_
  refine W.widen (k := 0) (n := 0) (Nat.le_of_ble_eq_true rfl) (Nat.le_of_ble_eq_true rfl) ?_
  have hP := hP.sub (ws' := [(h0, .inr (1, [.ref h1, .ref g0, .ref g1, .ref g2, .ref g3, .ref g4, .ref g5, .int 4, .int 0, .int 0, .int (-1), .int 0])), (h1, .inr (7, [.ref h4, .ref g6, .ref g7, .ref h2, .ref g8, .ref g9, .ref h3, .ref g10, .ref g11, .int 1, .int 1, .int 0])), (h2, .inl (cI, 60, .inl (fun _ => 0))), (h3, .inl (cI, 180, .inl (fun _ => (-1)))), (h4, .inl (cI, 60, .inl (fun _ => 0)))]) [0, 2, 1, 3, 4] rfl
  have hD := hD.sub (ws' := [(h0, .inr (1, [.ref h1, .ref g0, .ref g1, .ref g2, .ref g3, .ref g4, .ref g5, .int 4, .int 0, .int 0, .int (-1), .int 0])), (h1, .inr (7, [.ref h4, .ref g6, .ref g7, .ref h2, .ref g8, .ref g9, .ref h3, .ref g10, .ref g11, .int 1, .int 1, .int 0])), (h2, .inl (cI, 60, .inl (fun _ => 0))), (h3, .inl (cI, 180, .inl (fun _ => (-1)))), (h4, .inl (cI, 60, .inl (fun _ => 0)))]) [0, 2, 1, 3, 4] (by decide) rfl
  exact rtI hx hb hr hlocks hS hP hD ⟨rfl, rfl⟩ dX1_typeOf_109
