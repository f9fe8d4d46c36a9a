set_option maxHeartbeats 4000000 in
set_option maxRecDepth 100000 in
theorem c_X4_bucketOf_2 (l : Launch) (D : va_G) (cI cZ cB cJ : ClassId) : CtI l D (TT cI cZ cB cJ) yX4_bucketOf cX4_bucketOf 4 (some .int) 0 0 0 0 [.int 2, .int (-1), .int (-1)] [] (fun r w1 => r = 44 ∧ w1 = []) := by
  refine CtI.of (by decide +kernel) (Nat.le_of_ble_eq_true rfl) ?_
  intro p e s m below meth c A ls hx hb hr hml hown hts hnw hlocks hin hA hS hP hK hD hl
  have hown : s.vm.findClass RX4 = some m.cls := hown
  have hl : lv_has ls 4 [(0, .int 2), (1, .int (-1)), (2, .int (-1))] := hl
  refine lv_iload_n hx hb dX4_bucketOf_0 rfl (lv_at hl 0 rfl) ?_
  refine lv_bipush (v := 31) hx hb dX4_bucketOf_1 (by decide +kernel) ?_
  refine lv_imul hx hb dX4_bucketOf_3 ?_
  refine nrm (y := 62) (by decide +kernel) ?_
  refine lv_iload_n hx hb dX4_bucketOf_4 rfl (lv_at hl 1 rfl) ?_
  refine lv_iadd hx hb dX4_bucketOf_5 ?_
  refine nrm (y := 61) (by decide +kernel) ?_
  refine lv_bipush (v := 31) hx hb dX4_bucketOf_6 (by decide +kernel) ?_
  refine lv_imul hx hb dX4_bucketOf_8 ?_
  refine nrm (y := 1891) (by decide +kernel) ?_
  refine pcn (b := 9) rfl ?_
  refine lv_iload_n hx hb dX4_bucketOf_9 rfl (lv_at hl 2 rfl) ?_
  refine lv_iadd hx hb dX4_bucketOf_10 ?_
  refine nrm (y := 1890) (by decide +kernel) ?_
  refine lv_istore_n (lv' := [(3, .int 1890), (0, .int 2), (1, .int (-1)), (2, .int (-1))]) hx hb dX4_bucketOf_11 rfl hl (by decide) rfl (fun ls hl => ?_)
  refine lv_iload_n hx hb dX4_bucketOf_12 rfl (lv_at hl 0 rfl) ?_
  refine lv_iload_n hx hb dX4_bucketOf_13 rfl (lv_at hl 0 rfl) ?_
  refine lv_bipush (v := 7) hx hb dX4_bucketOf_14 (by decide +kernel) ?_
  refine lv_iushr hx hb dX4_bucketOf_16 rfl ?_
  refine nrm (y := 14) (by decide +kernel) ?_
  refine lv_ixor hx hb dX4_bucketOf_17 ?_
  refine nrm (y := 1900) (by decide +kernel) ?_
  refine pcn (b := 18) rfl ?_
  refine lv_bipush (v := 63) hx hb dX4_bucketOf_18 (by decide +kernel) ?_
  refine lv_iand hx hb dX4_bucketOf_20 ?_
  refine nrm (y := 44) (by decide +kernel) ?_
  refine W.widen (k := 0) (n := 0) (Nat.le_of_ble_eq_true rfl) (Nat.le_of_ble_eq_true rfl) ?_
  exact rtI hx hb hr hlocks hS hP hD ⟨rfl, rfl⟩ dX4_bucketOf_21

set_option maxHeartbeats 4000000 in
set_option maxRecDepth 100000 in
theorem c_X11_at_2 (l : Launch) (D : va_G) (cI cZ cB cJ : ClassId) (h0 : Nat) : CtI l D (TT cI cZ cB cJ) yX11_at cX11_at 2 (some .int) 0 0 0 0 [.ref h0, .int 44] [(h0, .inl (cI, 64, .inl (upd (upd (fun _ => (-1)) 31 0) 38 1)))] (fun r w1 => r = (-1) ∧ w1 = [(h0, .inl (cI, 64, .inl (upd (upd (fun _ => (-1)) 31 0) 38 1)))]) := by
  refine CtI.of (by decide +kernel) (Nat.le_of_ble_eq_true rfl) ?_
  intro p e s m below meth c A ls hx hb hr hml hown hts hnw hlocks hin hA hS hP hK hD hl
  have hown : s.vm.findClass RX11 = some m.cls := hown
  have hl : lv_has ls 2 [(0, .ref h0), (1, .int 44)] := hl
  refine lv_iload_n hx hb dX11_at_0 rfl (lv_at hl 1 rfl) ?_
  refine lv_if_lt (tgt := 16) hx hb dX11_at_1 (by decide) (fun h9 => absurd h9 (by decide +kernel)) (fun _ => ?_)
  refine lv_iload_n hx hb dX11_at_4 rfl (lv_at hl 1 rfl) ?_
  refine lv_aload_n hx hb dX11_at_5 rfl (lv_at hl 0 rfl) ?_
  refine va_alen (v := 64) hx hb hK hP 0 0 rfl rfl (by decide +kernel) dX11_at_6 ?_
  refine lv_icmp_ge (tgt := 16) hx hb dX11_at_7 (by decide) (fun h9 => absurd h9 (by decide +kernel)) (fun _ => ?_)
  refine lv_aload_n hx hb dX11_at_10 rfl (lv_at hl 0 rfl) ?_
  refine pcn (b := 11) rfl ?_
  refine lv_iload_n hx hb dX11_at_11 rfl (lv_at hl 1 rfl) ?_
  refine al_i (x := (-1)) hx hb hK hP 0 0 rfl rfl (vpi (by decide +kernel)) (by first | decide +kernel | rfl) dX11_at_12 ?_
  refine lv_goto (tgt := 17) hx hb dX11_at_13 (by decide) ?_
  refine W.widen (k := 0) (n := 0) (Nat.le_of_ble_eq_true rfl) (Nat.le_of_ble_eq_true rfl) ?_
  exact rtI hx hb hr hlocks hS hP hD ⟨rfl, rfl⟩ dX11_at_17

set_option maxHeartbeats 4000000 in
set_option maxRecDepth 100000 in
theorem c_X6_get_4 (l : Launch) (D : va_G) (cI cZ cB cJ : ClassId) (h0 g0 : Nat) : CtI l D (TT cI cZ cB cJ) yX6_get cX6_get 5 (some .int) 0 0 0 0 [.ref h0, .int (-1), .int 3] [(h0, .inr (6, [.ref g0, .int 2]))] (fun r w1 => r = (-1) ∧ w1 = [(h0, .inr (6, [.ref g0, .int 2]))]) := by
  refine CtI.of (by decide +kernel) (Nat.le_of_ble_eq_true rfl) ?_
  intro p e s m below meth c A ls hx hb hr hml hown hts hnw hlocks hin hA hS hP hK hD hl
  have hown : s.vm.findClass RX6 = some m.cls := hown
  have hl : lv_has ls 5 [(0, .ref h0), (1, .int (-1)), (2, .int 3)] := hl
  refine lv_iload_n hx hb dX6_get_0 rfl (lv_at hl 1 rfl) ?_
  refine lv_bipush (v := 6) hx hb dX6_get_1 (by decide +kernel) ?_
  refine lv_imul hx hb dX6_get_3 ?_
  refine nrm (y := (-6)) (by decide +kernel) ?_
  refine lv_iload_n hx hb dX6_get_4 rfl (lv_at hl 2 rfl) ?_
  refine lv_iadd hx hb dX6_get_5 ?_
  refine nrm (y := (-3)) (by decide +kernel) ?_
  refine lv_istore_n (lv' := [(3, .int (-3)), (0, .ref h0), (1, .int (-1)), (2, .int 3)]) hx hb dX6_get_6 rfl hl (by decide) rfl (fun ls hl => ?_)
  refine lv_iload_n hx hb dX6_get_7 rfl (lv_at hl 2 rfl) ?_
  refine pcn (b := 8) rfl ?_
  refine lv_if_lt (tgt := 33) hx hb dX6_get_8 (by decide) (fun _ => ?_) (fun h9 => absurd (by decide +kernel) h9)
  refine lv_iconst (v := 0) hx hb dX6_get_33 (by decide +kernel) ?_
  refine lv_istore (lv' := [(4, .int 0), (3, .int (-3)), (0, .ref h0), (1, .int (-1)), (2, .int 3)]) hx hb dX6_get_34 hl (by decide) rfl (fun ls hl => ?_)
  refine lv_iload hx hb dX6_get_36 (lv_at hl 0 rfl) ?_
  refine lv_if_eq (tgt := 63) hx hb dX6_get_38 (by decide) (fun _ => ?_) (fun h9 => absurd (by decide +kernel) h9)
  refine lv_iconst (v := (-1)) hx hb dX6_get_63 (by decide +kernel) ?_
  refine W.widen (k := 0) (n := 0) (Nat.le_of_ble_eq_true rfl) (Nat.le_of_ble_eq_true rfl) ?_
  exact rtI hx hb hr hlocks hS hP hD ⟨rfl, rfl⟩ dX6_get_64

set_option maxHeartbeats 4000000 in
set_option maxRecDepth 100000 in
theorem c_X6_get_5 (l : Launch) (D : va_G) (cI cZ cB cJ : ClassId) (h0 g0 : Nat) : CtI l D (TT cI cZ cB cJ) yX6_get cX6_get 5 (some .int) 0 0 0 0 [.ref h0, .int (-1), .int 4] [(h0, .inr (6, [.ref g0, .int 2]))] (fun r w1 => r = (-1) ∧ w1 = [(h0, .inr (6, [.ref g0, .int 2]))]) := by
  refine CtI.of (by decide +kernel) (Nat.le_of_ble_eq_true rfl) ?_
  intro p e s m below meth c A ls hx hb hr hml hown hts hnw hlocks hin hA hS hP hK hD hl
  have hown : s.vm.findClass RX6 = some m.cls := hown
  have hl : lv_has ls 5 [(0, .ref h0), (1, .int (-1)), (2, .int 4)] := hl
  refine lv_iload_n hx hb dX6_get_0 rfl (lv_at hl 1 rfl) ?_
  refine lv_bipush (v := 6) hx hb dX6_get_1 (by decide +kernel) ?_
  refine lv_imul hx hb dX6_get_3 ?_
  refine nrm (y := (-6)) (by decide +kernel) ?_
  refine lv_iload_n hx hb dX6_get_4 rfl (lv_at hl 2 rfl) ?_
  refine lv_iadd hx hb dX6_get_5 ?_
  refine nrm (y := (-2)) (by decide +kernel) ?_
  refine lv_istore_n (lv' := [(3, .int (-2)), (0, .ref h0), (1, .int (-1)), (2, .int 4)]) hx hb dX6_get_6 rfl hl (by decide) rfl (fun ls hl => ?_)
  refine lv_iload_n hx hb dX6_get_7 rfl (lv_at hl 2 rfl) ?_
  refine pcn (b := 8) rfl ?_
  refine lv_if_lt (tgt := 33) hx hb dX6_get_8 (by decide) (fun _ => ?_) (fun h9 => absurd (by decide +kernel) h9)
  refine lv_iconst (v := 0) hx hb dX6_get_33 (by decide +kernel) ?_
  refine lv_istore (lv' := [(4, .int 0), (3, .int (-2)), (0, .ref h0), (1, .int (-1)), (2, .int 4)]) hx hb dX6_get_34 hl (by decide) rfl (fun ls hl => ?_)
  refine lv_iload hx hb dX6_get_36 (lv_at hl 0 rfl) ?_
  refine lv_if_eq (tgt := 63) hx hb dX6_get_38 (by decide) (fun _ => ?_) (fun h9 => absurd (by decide +kernel) h9)
  refine lv_iconst (v := (-1)) hx hb dX6_get_63 (by decide +kernel) ?_
  refine W.widen (k := 0) (n := 0) (Nat.le_of_ble_eq_true rfl) (Nat.le_of_ble_eq_true rfl) ?_
  exact rtI hx hb hr hlocks hS hP hD ⟨rfl, rfl⟩ dX6_get_64

set_option maxHeartbeats 4000000 in
set_option maxRecDepth 100000 in
theorem c_X6_add_2 (l : Launch) (D : va_G) (cI cZ cB cJ : ClassId) (h0 h1 : Nat) : CtI l D (TT cI cZ cB cJ) yX6_add cX6_add 8 (some .int) 0 0 0 0 [.ref h0, .int 2, .int (-1), .int (-1), .int 1, .int 1, .int (-1)] [(h0, .inr (6, [.ref h1, .int 2])), (h1, .inl (cI, 144, .inl (upd (upd (upd (upd (upd (upd (upd (upd (upd (upd (upd (fun _ => 0) 1 (-1)) 2 (-1)) 3 1) 4 1) 5 (-1)) 6 1) 7 (-1)) 8 (-1)) 9 1) 10 1) 11 (-1))))] (fun r w1 => r = 2 ∧ w1 = [(h0, .inr (6, [.ref h1, .int 3])), (h1, .inl (cI, 144, .inl (upd (upd (upd (upd (upd (upd (upd (upd (upd (upd (upd (upd (upd (upd (upd (upd (upd (fun _ => 0) 1 (-1)) 2 (-1)) 3 1) 4 1) 5 (-1)) 6 1) 7 (-1)) 8 (-1)) 9 1) 10 1) 11 (-1)) 12 2) 13 (-1)) 14 (-1)) 15 1) 16 1) 17 (-1))))]) := by
  refine CtI.of (by decide +kernel) (Nat.le_of_ble_eq_true rfl) ?_
  intro p e s m below meth c A ls hx hb hr hml hown hts hnw hlocks hin hA hS hP hK hD hl
  have hown : s.vm.findClass RX6 = some m.cls := hown
  have hl : lv_has ls 8 [(0, .ref h0), (1, .int 2), (2, .int (-1)), (3, .int (-1)), (4, .int 1), (5, .int 1), (6, .int (-1))] := hl
  refine lv_aload_n hx hb dX6_add_0 rfl (lv_at hl 0 rfl) ?_
  refine va_get (D := D) (ci := 6) (v := .int 2) (C := RX6) (T := TX6) (N := 2) hx hb hts inX6 hown hK hP 0 rfl rfl 1 (by decide) (hts _ wm_157) (fun _ h9 => h9) rfl dX6_add_1 ?_
  refine lv_bipush (v := 6) hx hb dX6_add_4 (by decide +kernel) ?_
  refine lv_imul hx hb dX6_add_6 ?_
  refine nrm (y := 12) (by decide +kernel) ?_
  refine lv_istore (lv' := [(7, .int 12), (0, .ref h0), (1, .int 2), (2, .int (-1)), (3, .int (-1)), (4, .int 1), (5, .int 1), (6, .int (-1))]) hx hb dX6_add_7 hl (by decide) rfl (fun ls hl => ?_)
  refine lv_iload hx hb dX6_add_9 (lv_at hl 0 rfl) ?_
  refine lv_bipush (v := 6) hx hb dX6_add_11 (by decide +kernel) ?_
  refine pcn (b := 13) rfl ?_
  refine lv_iadd hx hb dX6_add_13 ?_
  refine nrm (y := 18) (by decide +kernel) ?_
  refine lv_aload_n hx hb dX6_add_14 rfl (lv_at hl 1 rfl) ?_
  refine va_get (D := D) (ci := 6) (v := .ref h1) (C := RX6) (T := TX6) (N := 2) hx hb hts inX6 hown hK hP 0 rfl rfl 0 (by decide) (hts _ wm_156) (fun _ h9 => h9) rfl dX6_add_15 ?_
  refine va_alen (v := 144) hx hb hK hP 1 0 rfl rfl (by decide +kernel) dX6_add_18 ?_
  refine lv_icmp_le (tgt := 49) hx hb dX6_add_19 (by decide) (fun _ => ?_) (fun h9 => absurd (by decide +kernel) h9)
  refine lv_iload hx hb dX6_add_49 (lv_at hl 0 rfl) ?_
  refine lv_if_lt (tgt := 67) hx hb dX6_add_51 (by decide) (fun h9 => absurd h9 (by decide +kernel)) (fun _ => ?_)
  refine lv_iload hx hb dX6_add_54 (lv_at hl 0 rfl) ?_
  refine lv_bipush (v := 6) hx hb dX6_add_56 (by decide +kernel) ?_
  refine lv_iadd hx hb dX6_add_58 ?_
  refine nrm (y := 18) (by decide +kernel) ?_
  refine lv_aload_n hx hb dX6_add_59 rfl (lv_at hl 1 rfl) ?_
  refine va_get (D := D) (ci := 6) (v := .ref h1) (C := RX6) (T := TX6) (N := 2) hx hb hts inX6 hown hK hP 0 rfl rfl 0 (by decide) (hts _ wm_156) (fun _ h9 => h9) rfl dX6_add_60 ?_
  refine pcn (b := 63) rfl ?_
  refine va_alen (v := 144) hx hb hK hP 1 0 rfl rfl (by decide +kernel) dX6_add_63 ?_
  refine lv_icmp_le (tgt := 69) hx hb dX6_add_64 (by decide) (fun _ => ?_) (fun h9 => absurd (by decide +kernel) h9)
  refine lv_aload_n hx hb dX6_add_69 rfl (lv_at hl 1 rfl) ?_
  refine va_get (D := D) (ci := 6) (v := .ref h1) (C := RX6) (T := TX6) (N := 2) hx hb hts inX6 hown hK hP 0 rfl rfl 0 (by decide) (hts _ wm_156) (fun _ h9 => h9) rfl dX6_add_70 ?_
  refine lv_iload hx hb dX6_add_73 (lv_at hl 0 rfl) ?_
  refine lv_iload_n hx hb dX6_add_75 rfl (lv_at hl 2 rfl) ?_
  refine as_i (k := 12) hx hb hK hP hD hS 1 0 rfl rfl (vpi (by decide +kernel)) (by decide +kernel) dX6_add_76 (fun H locs hP hD hS => ?_)
  have hP : va_P D vwCl [(h0, .inr (6, [.ref h1, .int 2])), (h1, .inl (cI, 144, .inl (upd (upd (upd (upd (upd (upd (upd (upd (upd (upd (upd (upd (fun _ => 0) 1 (-1)) 2 (-1)) 3 1) 4 1) 5 (-1)) 6 1) 7 (-1)) 8 (-1)) 9 1) 10 1) 11 (-1)) 12 2)))] H := hP
  have hD : va_D A [(h0, .inr (6, [.ref h1, .int 2])), (h1, .inl (cI, 144, .inl (upd (upd (upd (upd (upd (upd (upd (upd (upd (upd (upd (upd (fun _ => 0) 1 (-1)) 2 (-1)) 3 1) 4 1) 5 (-1)) 6 1) 7 (-1)) 8 (-1)) 9 1) 10 1) 11 (-1)) 12 2)))] := hD
  refine lv_aload_n hx hb dX6_add_77 rfl (lv_at hl 1 rfl) ?_
  refine va_get (D := D) (ci := 6) (v := .ref h1) (C := RX6) (T := TX6) (N := 2) hx hb hts inX6 hown hK hP 0 rfl rfl 0 (by decide) (hts _ wm_156) (fun _ h9 => h9) rfl dX6_add_78 ?_
  refine pcn (b := 81) rfl ?_
  refine lv_iload hx hb dX6_add_81 (lv_at hl 0 rfl) ?_
  refine lv_iconst (v := 1) hx hb dX6_add_83 (by decide +kernel) ?_
  refine lv_iadd hx hb dX6_add_84 ?_
  refine nrm (y := 13) (by decide +kernel) ?_
  refine lv_iload_n hx hb dX6_add_85 rfl (lv_at hl 3 rfl) ?_
  refine as_i (k := 13) hx hb hK hP hD hS 1 0 rfl rfl (vpi (by decide +kernel)) (by decide +kernel) dX6_add_86 (fun H locs hP hD hS => ?_)
  have hP : va_P D vwCl [(h0, .inr (6, [.ref h1, .int 2])), (h1, .inl (cI, 144, .inl (upd (upd (upd (upd (upd (upd (upd (upd (upd (upd (upd (upd (upd (fun _ => 0) 1 (-1)) 2 (-1)) 3 1) 4 1) 5 (-1)) 6 1) 7 (-1)) 8 (-1)) 9 1) 10 1) 11 (-1)) 12 2) 13 (-1))))] H := hP
  have hD : va_D A [(h0, .inr (6, [.ref h1, .int 2])), (h1, .inl (cI, 144, .inl (upd (upd (upd (upd (upd (upd (upd (upd (upd (upd (upd (upd (upd (fun _ => 0) 1 (-1)) 2 (-1)) 3 1) 4 1) 5 (-1)) 6 1) 7 (-1)) 8 (-1)) 9 1) 10 1) 11 (-1)) 12 2) 13 (-1))))] := hD
  refine lv_aload_n hx hb dX6_add_87 rfl (lv_at hl 1 rfl) ?_
  refine va_get (D := D) (ci := 6) (v := .ref h1) (C := RX6) (T := TX6) (N := 2) hx hb hts inX6 hown hK hP 0 rfl rfl 0 (by decide) (hts _ wm_156) (fun _ h9 => h9) rfl dX6_add_88 ?_
  refine lv_iload hx hb dX6_add_91 (lv_at hl 0 rfl) ?_
  refine pcn (b := 93) rfl ?_
  refine lv_iconst (v := 2) hx hb dX6_add_93 (by decide +kernel) ?_
  refine lv_iadd hx hb dX6_add_94 ?_
  refine nrm (y := 14) (by decide +kernel) ?_
  refine lv_iload_n hx hb dX6_add_95 rfl (lv_at hl 4 rfl) ?_
  refine as_i (k := 14) hx hb hK hP hD hS 1 0 rfl rfl (vpi (by decide +kernel)) (by decide +kernel) dX6_add_96 (fun H locs hP hD hS => ?_)
  have hP : va_P D vwCl [(h0, .inr (6, [.ref h1, .int 2])), (h1, .inl (cI, 144, .inl (upd (upd (upd (upd (upd (upd (upd (upd (upd (upd (upd (upd (upd (upd (fun _ => 0) 1 (-1)) 2 (-1)) 3 1) 4 1) 5 (-1)) 6 1) 7 (-1)) 8 (-1)) 9 1) 10 1) 11 (-1)) 12 2) 13 (-1)) 14 (-1))))] H := hP
  have hD : va_D A [(h0, .inr (6, [.ref h1, .int 2])), (h1, .inl (cI, 144, .inl (upd (upd (upd (upd (upd (upd (upd (upd (upd (upd (upd (upd (upd (upd (fun _ => 0) 1 (-1)) 2 (-1)) 3 1) 4 1) 5 (-1)) 6 1) 7 (-1)) 8 (-1)) 9 1) 10 1) 11 (-1)) 12 2) 13 (-1)) 14 (-1))))] := hD
  refine lv_aload_n hx hb dX6_add_97 rfl (lv_at hl 1 rfl) ?_
  refine va_get (D := D) (ci := 6) (v := .ref h1) (C := RX6) (T := TX6) (N := 2) hx hb hts inX6 hown hK hP 0 rfl rfl 0 (by decide) (hts _ wm_156) (fun _ h9 => h9) rfl dX6_add_98 ?_
  refine lv_iload hx hb dX6_add_101 (lv_at hl 0 rfl) ?_
  refine lv_iconst (v := 3) hx hb dX6_add_103 (by decide +kernel) ?_
  refine pcn (b := 104) rfl ?_
  refine lv_iadd hx hb dX6_add_104 ?_
  refine nrm (y := 15) (by decide +kernel) ?_
  refine lv_iload hx hb dX6_add_105 (lv_at hl 5 rfl) ?_
  refine as_i (k := 15) hx hb hK hP hD hS 1 0 rfl rfl (vpi (by decide +kernel)) (by decide +kernel) dX6_add_107 (fun H locs hP hD hS => ?_)
  have hP : va_P D vwCl [(h0, .inr (6, [.ref h1, .int 2])), (h1, .inl (cI, 144, .inl (upd (upd (upd (upd (upd (upd (upd (upd (upd (upd (upd (upd (upd (upd (upd (fun _ => 0) 1 (-1)) 2 (-1)) 3 1) 4 1) 5 (-1)) 6 1) 7 (-1)) 8 (-1)) 9 1) 10 1) 11 (-1)) 12 2) 13 (-1)) 14 (-1)) 15 1)))] H := hP
  have hD : va_D A [(h0, .inr (6, [.ref h1, .int 2])), (h1, .inl (cI, 144, .inl (upd (upd (upd (upd (upd (upd (upd (upd (upd (upd (upd (upd (upd (upd (upd (fun _ => 0) 1 (-1)) 2 (-1)) 3 1) 4 1) 5 (-1)) 6 1) 7 (-1)) 8 (-1)) 9 1) 10 1) 11 (-1)) 12 2) 13 (-1)) 14 (-1)) 15 1)))] := hD
  refine lv_aload_n hx hb dX6_add_108 rfl (lv_at hl 1 rfl) ?_
  refine va_get (D := D) (ci := 6) (v := .ref h1) (C := RX6) (T := TX6) (N := 2) hx hb hts inX6 hown hK hP 0 rfl rfl 0 (by decide) (hts _ wm_156) (fun _ h9 => h9) rfl dX6_add_109 ?_
  refine lv_iload hx hb dX6_add_112 (lv_at hl 0 rfl) ?_
  refine lv_iconst (v := 4) hx hb dX6_add_114 (by decide +kernel) ?_
  refine lv_iadd hx hb dX6_add_115 ?_
  refine nrm (y := 16) (by decide +kernel) ?_
  refine pcn (b := 116) rfl ?_
  refine lv_iload hx hb dX6_add_116 (lv_at hl 6 rfl) ?_
  refine as_i (k := 16) hx hb hK hP hD hS 1 0 rfl rfl (vpi (by decide +kernel)) (by decide +kernel) dX6_add_118 (fun H locs hP hD hS => ?_)
  have hP : va_P D vwCl [(h0, .inr (6, [.ref h1, .int 2])), (h1, .inl (cI, 144, .inl (upd (upd (upd (upd (upd (upd (upd (upd (upd (upd (upd (upd (upd (upd (upd (upd (fun _ => 0) 1 (-1)) 2 (-1)) 3 1) 4 1) 5 (-1)) 6 1) 7 (-1)) 8 (-1)) 9 1) 10 1) 11 (-1)) 12 2) 13 (-1)) 14 (-1)) 15 1) 16 1)))] H := hP
  have hD : va_D A [(h0, .inr (6, [.ref h1, .int 2])), (h1, .inl (cI, 144, .inl (upd (upd (upd (upd (upd (upd (upd (upd (upd (upd (upd (upd (upd (upd (upd (upd (fun _ => 0) 1 (-1)) 2 (-1)) 3 1) 4 1) 5 (-1)) 6 1) 7 (-1)) 8 (-1)) 9 1) 10 1) 11 (-1)) 12 2) 13 (-1)) 14 (-1)) 15 1) 16 1)))] := hD
  refine lv_aload_n hx hb dX6_add_119 rfl (lv_at hl 1 rfl) ?_
  refine va_get (D := D) (ci := 6) (v := .ref h1) (C := RX6) (T := TX6) (N := 2) hx hb hts inX6 hown hK hP 0 rfl rfl 0 (by decide) (hts _ wm_156) (fun _ h9 => h9) rfl dX6_add_120 ?_
  refine lv_iload hx hb dX6_add_123 (lv_at hl 0 rfl) ?_
  refine lv_iconst (v := 5) hx hb dX6_add_125 (by decide +kernel) ?_
  refine lv_iadd hx hb dX6_add_126 ?_
  refine nrm (y := 17) (by decide +kernel) ?_
  refine lv_iload hx hb dX6_add_127 (lv_at hl 7 rfl) ?_
  refine pcn (b := 129) rfl ?_
  refine as_i (k := 17) hx hb hK hP hD hS 1 0 rfl rfl (vpi (by decide +kernel)) (by decide +kernel) dX6_add_129 (fun H locs hP hD hS => ?_)
  have hP : va_P D vwCl [(h0, .inr (6, [.ref h1, .int 2])), (h1, .inl (cI, 144, .inl (upd (upd (upd (upd (upd (upd (upd (upd (upd (upd (upd (upd (upd (upd (upd (upd (upd (fun _ => 0) 1 (-1)) 2 (-1)) 3 1) 4 1) 5 (-1)) 6 1) 7 (-1)) 8 (-1)) 9 1) 10 1) 11 (-1)) 12 2) 13 (-1)) 14 (-1)) 15 1) 16 1) 17 (-1))))] H := hP
  have hD : va_D A [(h0, .inr (6, [.ref h1, .int 2])), (h1, .inl (cI, 144, .inl (upd (upd (upd (upd (upd (upd (upd (upd (upd (upd (upd (upd (upd (upd (upd (upd (upd (fun _ => 0) 1 (-1)) 2 (-1)) 3 1) 4 1) 5 (-1)) 6 1) 7 (-1)) 8 (-1)) 9 1) 10 1) 11 (-1)) 12 2) 13 (-1)) 14 (-1)) 15 1) 16 1) 17 (-1))))] := hD
  refine lv_aload_n hx hb dX6_add_130 rfl (lv_at hl 1 rfl) ?_
  refine lv_dup hx hb dX6_add_131 rfl ?_
  refine va_get (D := D) (ci := 6) (v := .int 2) (C := RX6) (T := TX6) (N := 2) hx hb hts inX6 hown hK hP 0 rfl rfl 1 (by decide) (hts _ wm_157) (fun _ h9 => h9) rfl dX6_add_132 ?_
  refine lv_iconst (v := 1) hx hb dX6_add_135 (by decide +kernel) ?_
  refine lv_iadd hx hb dX6_add_136 ?_
  refine nrm (y := 3) (by decide +kernel) ?_
  refine va_put (D := D) (ci := 6) (v := .int 3) (ty := .int) (C := RX6) (T := TX6) (N := 2) hx hb hts inX6 tyX6 tyX6_ok nmX6 hown hK hP hD hS 0 rfl rfl 1 (by decide) (hts _ wm_157) (fun _ h9 => h9) rfl (by decide +kernel) rfl rfl (Nat.le_of_ble_eq_true rfl) dX6_add_137 (fun H locs hP hD hS => ?_)
  have hP : va_P D vwCl [(h0, .inr (6, [.ref h1, .int 3])), (h1, .inl (cI, 144, .inl (upd (upd (upd (upd (upd (upd (upd (upd (upd (upd (upd (upd (upd (upd (upd (upd (upd (fun _ => 0) 1 (-1)) 2 (-1)) 3 1) 4 1) 5 (-1)) 6 1) 7 (-1)) 8 (-1)) 9 1) 10 1) 11 (-1)) 12 2) 13 (-1)) 14 (-1)) 15 1) 16 1) 17 (-1))))] H := hP
  have hD : va_D A [(h0, .inr (6, [.ref h1, .int 3])), (h1, .inl (cI, 144, .inl (upd (upd (upd (upd (upd (upd (upd (upd (upd (upd (upd (upd (upd (upd (upd (upd (upd (fun _ => 0) 1 (-1)) 2 (-1)) 3 1) 4 1) 5 (-1)) 6 1) 7 (-1)) 8 (-1)) 9 1) 10 1) 11 (-1)) 12 2) 13 (-1)) 14 (-1)) 15 1) 16 1) 17 (-1))))] := hD
  refine lv_aload_n hx hb dX6_add_140 rfl (lv_at hl 1 rfl) ?_
  refine pcn (b := 141) rfl ?_
  refine va_get (D := D) (ci := 6) (v := .int 3) (C := RX6) (T := TX6) (N := 2) hx hb hts inX6 hown hK hP 0 rfl rfl 1 (by decide) (hts _ wm_157) (fun _ h9 => h9) rfl dX6_add_141 ?_
  refine lv_iconst (v := 1) hx hb dX6_add_144 (by decide +kernel) ?_
  refine lv_isub hx hb dX6_add_145 ?_
  refine nrm (y := 2) (by decide +kernel) ?_
  refine W.widen (k := 0) (n := 0) (Nat.le_of_ble_eq_true rfl) (Nat.le_of_ble_eq_true rfl) ?_
  exact rtI hx hb hr hlocks hS hP hD ⟨rfl, rfl⟩ dX6_add_146

set_option maxHeartbeats 4000000 in
set_option maxRecDepth 100000 in
theorem c_X11_put_2 (l : Launch) (D : va_G) (cI cZ cB cJ : ClassId) (h0 : Nat) : CtV l D (TT cI cZ cB cJ) yX11_put cX11_put 3 none 0 0 0 0 [.ref h0, .int 44, .int 2] [(h0, .inl (cI, 64, .inl (upd (upd (fun _ => (-1)) 31 0) 38 1)))] (fun w1 => w1 = [(h0, .inl (cI, 64, .inl (upd (upd (upd (fun _ => (-1)) 31 0) 38 1) 44 2)))]) := by
  refine CtV.of (by decide +kernel) (Nat.le_of_ble_eq_true rfl) ?_
  intro p e s m below meth c A ls hx hb hr hml hown hts hnw hlocks hin hA hS hP hK hD hl
  have hown : s.vm.findClass RX11 = some m.cls := hown
  have hl : lv_has ls 3 [(0, .ref h0), (1, .int 44), (2, .int 2)] := hl
  refine lv_iload_n hx hb dX11_put_0 rfl (lv_at hl 1 rfl) ?_
  refine lv_if_lt (tgt := 14) hx hb dX11_put_1 (by decide) (fun h9 => absurd h9 (by decide +kernel)) (fun _ => ?_)
  refine lv_iload_n hx hb dX11_put_4 rfl (lv_at hl 1 rfl) ?_
  refine lv_aload_n hx hb dX11_put_5 rfl (lv_at hl 0 rfl) ?_
  refine va_alen (v := 64) hx hb hK hP 0 0 rfl rfl (by decide +kernel) dX11_put_6 ?_
  refine lv_icmp_ge (tgt := 14) hx hb dX11_put_7 (by decide) (fun h9 => absurd h9 (by decide +kernel)) (fun _ => ?_)
  refine lv_aload_n hx hb dX11_put_10 rfl (lv_at hl 0 rfl) ?_
  refine pcn (b := 11) rfl ?_
  refine lv_iload_n hx hb dX11_put_11 rfl (lv_at hl 1 rfl) ?_
  refine lv_iload_n hx hb dX11_put_12 rfl (lv_at hl 2 rfl) ?_
  refine as_i (k := 44) hx hb hK hP hD hS 0 0 rfl rfl (vpi (by decide +kernel)) (by decide +kernel) dX11_put_13 (fun H locs hP hD hS => ?_)
  have hP : va_P D vwCl [(h0, .inl (cI, 64, .inl (upd (upd (upd (fun _ => (-1)) 31 0) 38 1) 44 2)))] H := hP
  have hD : va_D A [(h0, .inl (cI, 64, .inl (upd (upd (upd (fun _ => (-1)) 31 0) 38 1) 44 2)))] := hD
  refine W.widen (k := 0) (n := 0) (Nat.le_of_ble_eq_true rfl) (Nat.le_of_ble_eq_true rfl) ?_
  exact rtV hx hb hr hlocks hS hP hD rfl dX11_put_14

set_option maxHeartbeats 4000000 in
set_option maxRecDepth 100000 in
theorem c_X4_find_2 (l : Launch) (D : va_G) (cI cZ cB cJ : ClassId) (h0 h1 h2 h3 : Nat) : CtI l D (TT cI cZ cB cJ) yX4_find cX4_find 10 (some .int) 1 27 0 0 [.ref h0, .int 2, .int (-1), .int (-1)] [(h0, .inr (4, [.ref h2, .ref h1])), (h1, .inl (cI, 64, .inl (upd (upd (fun _ => (-1)) 31 0) 38 1))), (h2, .inr (6, [.ref h3, .int 2])), (h3, .inl (cI, 144, .inl (upd (upd (upd (upd (upd (upd (upd (upd (upd (upd (upd (fun _ => 0) 1 (-1)) 2 (-1)) 3 1) 4 1) 5 (-1)) 6 1) 7 (-1)) 8 (-1)) 9 1) 10 1) 11 (-1))))] (fun r w1 => r = 2 ∧ w1 = [(h0, .inr (4, [.ref h2, .ref h1])), (h1, .inl (cI, 64, .inl (upd (upd (upd (fun _ => (-1)) 31 0) 38 1) 44 2))), (h2, .inr (6, [.ref h3, .int 3])), (h3, .inl (cI, 144, .inl (upd (upd (upd (upd (upd (upd (upd (upd (upd (upd (upd (upd (upd (upd (upd (upd (upd (fun _ => 0) 1 (-1)) 2 (-1)) 3 1) 4 1) 5 (-1)) 6 1) 7 (-1)) 8 (-1)) 9 1) 10 1) 11 (-1)) 12 2) 13 (-1)) 14 (-1)) 15 1) 16 1) 17 (-1))))]) := by
  refine CtI.of (by decide +kernel) (Nat.le_of_ble_eq_true rfl) ?_
  intro p e s m below meth c A ls hx hb hr hml hown hts hnw hlocks hin hA hS hP hK hD hl
  have hown : s.vm.findClass RX4 = some m.cls := hown
  have hl : lv_has ls 10 [(0, .ref h0), (1, .int 2), (2, .int (-1)), (3, .int (-1))] := hl
  refine lv_iload_n hx hb dX4_find_0 rfl (lv_at hl 1 rfl) ?_
  refine lv_iload_n hx hb dX4_find_1 rfl (lv_at hl 2 rfl) ?_
  refine lv_iload_n hx hb dX4_find_2 rfl (lv_at hl 3 rfl) ?_
  refine kSi (As := [.int 2, .int (-1), .int (-1)]) (rest := []) (wr := [(h0, .inr (4, [.ref h2, .ref h1])), (h1, .inl (cI, 64, .inl (upd (upd (fun _ => (-1)) 31 0) 38 1))), (h2, .inr (6, [.ref h3, .int 2])), (h3, .inl (cI, 144, .inl (upd (upd (upd (upd (upd (upd (upd (upd (upd (upd (upd (fun _ => 0) 1 (-1)) 2 (-1)) 3 1) 4 1) 5 (-1)) 6 1) 7 (-1)) 8 (-1)) 9 1) 10 1) 11 (-1))))]) hx hb hml hown hts hnw hK hP hD hS hA hl.1 (c_X4_bucketOf_2 l D cI cZ cB cJ) yk_X4_bucketOf wm_184 [] [0, 1, 2, 3] rfl rfl (by decide) (by decide) (by decide) rfl rfl dX4_find_3 ⟨Nat.le_of_ble_eq_true rfl, Nat.le_of_ble_eq_true rfl⟩ ⟨Nat.le_of_ble_eq_true rfl, Nat.le_of_ble_eq_true rfl⟩ (Nat.le_of_ble_eq_true rfl) (fun r9 w1 H locs hq9 hP hD hS => ?_)
  obtain ⟨rfl, rfl⟩ := hq9
  have hP : va_P D vwCl [(h0, .inr (4, [.ref h2, .ref h1])), (h1, .inl (cI, 64, .inl (upd (upd (fun _ => (-1)) 31 0) 38 1))), (h2, .inr (6, [.ref h3, .int 2])), (h3, .inl (cI, 144, .inl (upd (upd (upd (upd (upd (upd (upd (upd (upd (upd (upd (fun _ => 0) 1 (-1)) 2 (-1)) 3 1) 4 1) 5 (-1)) 6 1) 7 (-1)) 8 (-1)) 9 1) 10 1) 11 (-1))))] H := hP
  have hD : va_D A [(h0, .inr (4, [.ref h2, .ref h1])), (h1, .inl (cI, 64, .inl (upd (upd (fun _ => (-1)) 31 0) 38 1))), (h2, .inr (6, [.ref h3, .int 2])), (h3, .inl (cI, 144, .inl (upd (upd (upd (upd (upd (upd (upd (upd (upd (upd (upd (fun _ => 0) 1 (-1)) 2 (-1)) 3 1) 4 1) 5 (-1)) 6 1) 7 (-1)) 8 (-1)) 9 1) 10 1) 11 (-1))))] := hD
  refine W.widen (k := 0) (n := 0) (Nat.le_of_ble_eq_true rfl) (Nat.le_of_ble_eq_true rfl) ?_
  refine pcn (b := 6) rfl ?_
  refine lv_istore (lv' := [(4, .int 44), (0, .ref h0), (1, .int 2), (2, .int (-1)), (3, .int (-1))]) hx hb dX4_find_6 hl (by decide) rfl (fun ls hl => ?_)
  refine lv_aload_n hx hb dX4_find_8 rfl (lv_at hl 1 rfl) ?_
  refine va_get (D := D) (ci := 4) (v := .ref h1) (C := RX4) (T := TX4) (N := 2) hx hb hts inX4 hown hK hP 0 rfl rfl 1 (by decide) (hts _ wm_174) (fun _ h9 => h9) rfl dX4_find_9 ?_
  refine lv_iload hx hb dX4_find_12 (lv_at hl 0 rfl) ?_
  refine kSNi (As := [.ref h1, .int 44]) (rest := []) (wr := [(h0, .inr (4, [.ref h2, .ref h1])), (h2, .inr (6, [.ref h3, .int 2])), (h3, .inl (cI, 144, .inl (upd (upd (upd (upd (upd (upd (upd (upd (upd (upd (upd (fun _ => 0) 1 (-1)) 2 (-1)) 3 1) 4 1) 5 (-1)) 6 1) 7 (-1)) 8 (-1)) 9 1) 10 1) 11 (-1))))]) hx hb hml hown hts hnw hK hP hD hS hA hl.1 (c_X11_at_2 l D cI cZ cB cJ h1) yk_X11_at wn_187 [1] [0, 2, 3] rfl rfl (by decide) (by decide) (by decide) rfl rfl dX4_find_14 ⟨Nat.le_of_ble_eq_true rfl, Nat.le_of_ble_eq_true rfl⟩ ⟨Nat.le_of_ble_eq_true rfl, Nat.le_of_ble_eq_true rfl⟩ (Nat.le_of_ble_eq_true rfl) (fun r9 w1 H locs hq9 hP hD hS => ?_)
  obtain ⟨rfl, rfl⟩ := hq9
  have hP : va_P D vwCl [(h0, .inr (4, [.ref h2, .ref h1])), (h2, .inr (6, [.ref h3, .int 2])), (h3, .inl (cI, 144, .inl (upd (upd (upd (upd (upd (upd (upd (upd (upd (upd (upd (fun _ => 0) 1 (-1)) 2 (-1)) 3 1) 4 1) 5 (-1)) 6 1) 7 (-1)) 8 (-1)) 9 1) 10 1) 11 (-1)))), (h1, .inl (cI, 64, .inl (upd (upd (fun _ => (-1)) 31 0) 38 1)))] H := hP
  have hD : va_D A [(h0, .inr (4, [.ref h2, .ref h1])), (h2, .inr (6, [.ref h3, .int 2])), (h3, .inl (cI, 144, .inl (upd (upd (upd (upd (upd (upd (upd (upd (upd (upd (upd (fun _ => 0) 1 (-1)) 2 (-1)) 3 1) 4 1) 5 (-1)) 6 1) 7 (-1)) 8 (-1)) 9 1) 10 1) 11 (-1)))), (h1, .inl (cI, 64, .inl (upd (upd (fun _ => (-1)) 31 0) 38 1)))] := hD
  refine W.widen (k := 0) (n := 0) (Nat.le_of_ble_eq_true rfl) (Nat.le_of_ble_eq_true rfl) ?_
  refine pcn (b := 17) rfl ?_
  refine lv_istore (lv' := [(5, .int (-1)), (4, .int 44), (0, .ref h0), (1, .int 2), (2, .int (-1)), (3, .int (-1))]) hx hb dX4_find_17 hl (by decide) rfl (fun ls hl => ?_)
  refine lv_iload hx hb dX4_find_19 (lv_at hl 0 rfl) ?_
  refine lv_istore (lv' := [(6, .int (-1)), (5, .int (-1)), (4, .int 44), (0, .ref h0), (1, .int 2), (2, .int (-1)), (3, .int (-1))]) hx hb dX4_find_21 hl (by decide) rfl (fun ls hl => ?_)
  refine lv_iconst (v := 0) hx hb dX4_find_23 (by decide +kernel) ?_
  refine lv_istore (lv' := [(7, .int 0), (6, .int (-1)), (5, .int (-1)), (4, .int 44), (0, .ref h0), (1, .int 2), (2, .int (-1)), (3, .int (-1))]) hx hb dX4_find_24 hl (by decide) rfl (fun ls hl => ?_)
  refine lv_iload hx hb dX4_find_26 (lv_at hl 1 rfl) ?_
  refine lv_if_lt (tgt := 74) hx hb dX4_find_28 (by decide) (fun _ => ?_) (fun h9 => absurd (by decide +kernel) h9)
  refine lv_iconst (v := 1) hx hb dX4_find_74 (by decide +kernel) ?_
  refine lv_iconst (v := 0) hx hb dX4_find_75 (by decide +kernel) ?_
  refine lv_aload_n hx hb dX4_find_76 rfl (lv_at hl 4 rfl) ?_
  refine va_get (D := D) (ci := 4) (v := .ref h2) (C := RX4) (T := TX4) (N := 2) hx hb hts inX4 hown hK hP 0 rfl rfl 0 (by decide) (hts _ wm_171) (fun _ h9 => h9) rfl dX4_find_77 ?_
  refine lv_iload_n hx hb dX4_find_80 rfl (lv_at hl 6 rfl) ?_
  refine lv_iconst (v := 3) hx hb dX4_find_81 (by decide +kernel) ?_
  refine kVNi (As := [.int (-1), .int 3]) (rest := [.int 0, .int 1]) (wr := [(h0, .inr (4, [.ref h2, .ref h1])), (h3, .inl (cI, 144, .inl (upd (upd (upd (upd (upd (upd (upd (upd (upd (upd (upd (fun _ => 0) 1 (-1)) 2 (-1)) 3 1) 4 1) 5 (-1)) 6 1) 7 (-1)) 8 (-1)) 9 1) 10 1) 11 (-1)))), (h1, .inl (cI, 64, .inl (upd (upd (fun _ => (-1)) 31 0) 38 1)))]) hx hb hml hown hts hnw hK hP hD hS hA hl.1 (c_X6_get_4 l D cI cZ cB cJ h2 h3) yk_X6_get wn_195 [1] [0, 2, 3] rfl rfl (by decide) (by decide) (by decide) 0 rfl rfl rfl rfl rfl dX4_find_82 ⟨Nat.le_of_ble_eq_true rfl, Nat.le_of_ble_eq_true rfl⟩ ⟨Nat.le_of_ble_eq_true rfl, Nat.le_of_ble_eq_true rfl⟩ (Nat.le_of_ble_eq_true rfl) (fun r9 w1 H locs hq9 hP hD hS => ?_)
  obtain ⟨rfl, rfl⟩ := hq9
  have hP : va_P D vwCl [(h0, .inr (4, [.ref h2, .ref h1])), (h3, .inl (cI, 144, .inl (upd (upd (upd (upd (upd (upd (upd (upd (upd (upd (upd (fun _ => 0) 1 (-1)) 2 (-1)) 3 1) 4 1) 5 (-1)) 6 1) 7 (-1)) 8 (-1)) 9 1) 10 1) 11 (-1)))), (h1, .inl (cI, 64, .inl (upd (upd (fun _ => (-1)) 31 0) 38 1))), (h2, .inr (6, [.ref h3, .int 2]))] H := hP
  have hD : va_D A [(h0, .inr (4, [.ref h2, .ref h1])), (h3, .inl (cI, 144, .inl (upd (upd (upd (upd (upd (upd (upd (upd (upd (upd (upd (fun _ => 0) 1 (-1)) 2 (-1)) 3 1) 4 1) 5 (-1)) 6 1) 7 (-1)) 8 (-1)) 9 1) 10 1) 11 (-1)))), (h1, .inl (cI, 64, .inl (upd (upd (fun _ => (-1)) 31 0) 38 1))), (h2, .inr (6, [.ref h3, .int 2]))] := hD
  refine W.widen (k := 0) (n := 0) (Nat.le_of_ble_eq_true rfl) (Nat.le_of_ble_eq_true rfl) ?_
  refine pcn (b := 85) rfl ?_
  refine va_mmax hx hb (hml.trans hl.1.symm) hown (hts _ wm_199) (hts _ wm_154) (hts _ wm_8) (hts _ wm_155) (Nat.le_of_ble_eq_true rfl) (Nat.le_of_ble_eq_true rfl) (Nat.le_of_ble_eq_true rfl) (Nat.le_of_ble_eq_true rfl) dX4_find_85 ?_
  refine nrm (y := 0) (by decide +kernel) ?_
  refine lv_iadd hx hb dX4_find_88 ?_
  refine nrm (y := 1) (by decide +kernel) ?_
  refine lv_iconst (v := 0) hx hb dX4_find_89 (by decide +kernel) ?_
  refine lv_aload_n hx hb dX4_find_90 rfl (lv_at hl 4 rfl) ?_
  refine va_get (D := D) (ci := 4) (v := .ref h2) (C := RX4) (T := TX4) (N := 2) hx hb hts inX4 hown hK hP 0 rfl rfl 0 (by decide) (hts _ wm_171) (fun _ h9 => h9) rfl dX4_find_91 ?_
  refine lv_iload_n hx hb dX4_find_94 rfl (lv_at hl 7 rfl) ?_
  refine lv_iconst (v := 3) hx hb dX4_find_95 (by decide +kernel) ?_
  refine pcn (b := 96) rfl ?_
  refine kVNi (As := [.int (-1), .int 3]) (rest := [.int 0, .int 1]) (wr := [(h0, .inr (4, [.ref h2, .ref h1])), (h3, .inl (cI, 144, .inl (upd (upd (upd (upd (upd (upd (upd (upd (upd (upd (upd (fun _ => 0) 1 (-1)) 2 (-1)) 3 1) 4 1) 5 (-1)) 6 1) 7 (-1)) 8 (-1)) 9 1) 10 1) 11 (-1)))), (h1, .inl (cI, 64, .inl (upd (upd (fun _ => (-1)) 31 0) 38 1)))]) hx hb hml hown hts hnw hK hP hD hS hA hl.1 (c_X6_get_4 l D cI cZ cB cJ h2 h3) yk_X6_get wn_195 [3] [0, 1, 2] rfl rfl (by decide) (by decide) (by decide) 0 rfl rfl rfl rfl rfl dX4_find_96 ⟨Nat.le_of_ble_eq_true rfl, Nat.le_of_ble_eq_true rfl⟩ ⟨Nat.le_of_ble_eq_true rfl, Nat.le_of_ble_eq_true rfl⟩ (Nat.le_of_ble_eq_true rfl) (fun r9 w1 H locs hq9 hP hD hS => ?_)
  obtain ⟨rfl, rfl⟩ := hq9
  have hP : va_P D vwCl [(h0, .inr (4, [.ref h2, .ref h1])), (h3, .inl (cI, 144, .inl (upd (upd (upd (upd (upd (upd (upd (upd (upd (upd (upd (fun _ => 0) 1 (-1)) 2 (-1)) 3 1) 4 1) 5 (-1)) 6 1) 7 (-1)) 8 (-1)) 9 1) 10 1) 11 (-1)))), (h1, .inl (cI, 64, .inl (upd (upd (fun _ => (-1)) 31 0) 38 1))), (h2, .inr (6, [.ref h3, .int 2]))] H := hP
  have hD : va_D A [(h0, .inr (4, [.ref h2, .ref h1])), (h3, .inl (cI, 144, .inl (upd (upd (upd (upd (upd (upd (upd (upd (upd (upd (upd (fun _ => 0) 1 (-1)) 2 (-1)) 3 1) 4 1) 5 (-1)) 6 1) 7 (-1)) 8 (-1)) 9 1) 10 1) 11 (-1)))), (h1, .inl (cI, 64, .inl (upd (upd (fun _ => (-1)) 31 0) 38 1))), (h2, .inr (6, [.ref h3, .int 2]))] := hD
  refine W.widen (k := 0) (n := 0) (Nat.le_of_ble_eq_true rfl) (Nat.le_of_ble_eq_true rfl) ?_
  refine pcn (b := 99) rfl ?_
  refine va_mmax hx hb (hml.trans hl.1.symm) hown (hts _ wm_199) (hts _ wm_154) (hts _ wm_8) (hts _ wm_155) (Nat.le_of_ble_eq_true rfl) (Nat.le_of_ble_eq_true rfl) (Nat.le_of_ble_eq_true rfl) (Nat.le_of_ble_eq_true rfl) dX4_find_99 ?_
  refine nrm (y := 0) (by decide +kernel) ?_
  refine lv_iadd hx hb dX4_find_102 ?_
  refine nrm (y := 1) (by decide +kernel) ?_
  refine lv_istore (lv' := [(7, .int 1), (6, .int (-1)), (5, .int (-1)), (4, .int 44), (0, .ref h0), (1, .int 2), (2, .int (-1)), (3, .int (-1))]) hx hb dX4_find_103 hl (by decide) rfl (fun ls hl => ?_)
  refine lv_iconst (v := 1) hx hb dX4_find_105 (by decide +kernel) ?_
  refine lv_aload_n hx hb dX4_find_106 rfl (lv_at hl 4 rfl) ?_
  refine va_get (D := D) (ci := 4) (v := .ref h2) (C := RX4) (T := TX4) (N := 2) hx hb hts inX4 hown hK hP 0 rfl rfl 0 (by decide) (hts _ wm_171) (fun _ h9 => h9) rfl dX4_find_107 ?_
  refine lv_iload_n hx hb dX4_find_110 rfl (lv_at hl 6 rfl) ?_
  refine pcn (b := 111) rfl ?_
  refine lv_iconst (v := 4) hx hb dX4_find_111 (by decide +kernel) ?_
  refine kVNi (As := [.int (-1), .int 4]) (rest := [.int 1]) (wr := [(h0, .inr (4, [.ref h2, .ref h1])), (h3, .inl (cI, 144, .inl (upd (upd (upd (upd (upd (upd (upd (upd (upd (upd (upd (fun _ => 0) 1 (-1)) 2 (-1)) 3 1) 4 1) 5 (-1)) 6 1) 7 (-1)) 8 (-1)) 9 1) 10 1) 11 (-1)))), (h1, .inl (cI, 64, .inl (upd (upd (fun _ => (-1)) 31 0) 38 1)))]) hx hb hml hown hts hnw hK hP hD hS hA hl.1 (c_X6_get_5 l D cI cZ cB cJ h2 h3) yk_X6_get wn_195 [3] [0, 1, 2] rfl rfl (by decide) (by decide) (by decide) 0 rfl rfl rfl rfl rfl dX4_find_112 ⟨Nat.le_of_ble_eq_true rfl, Nat.le_of_ble_eq_true rfl⟩ ⟨Nat.le_of_ble_eq_true rfl, Nat.le_of_ble_eq_true rfl⟩ (Nat.le_of_ble_eq_true rfl) (fun r9 w1 H locs hq9 hP hD hS => ?_)
  obtain ⟨rfl, rfl⟩ := hq9
  have hP : va_P D vwCl [(h0, .inr (4, [.ref h2, .ref h1])), (h3, .inl (cI, 144, .inl (upd (upd (upd (upd (upd (upd (upd (upd (upd (upd (upd (fun _ => 0) 1 (-1)) 2 (-1)) 3 1) 4 1) 5 (-1)) 6 1) 7 (-1)) 8 (-1)) 9 1) 10 1) 11 (-1)))), (h1, .inl (cI, 64, .inl (upd (upd (fun _ => (-1)) 31 0) 38 1))), (h2, .inr (6, [.ref h3, .int 2]))] H := hP
  have hD : va_D A [(h0, .inr (4, [.ref h2, .ref h1])), (h3, .inl (cI, 144, .inl (upd (upd (upd (upd (upd (upd (upd (upd (upd (upd (upd (fun _ => 0) 1 (-1)) 2 (-1)) 3 1) 4 1) 5 (-1)) 6 1) 7 (-1)) 8 (-1)) 9 1) 10 1) 11 (-1)))), (h1, .inl (cI, 64, .inl (upd (upd (fun _ => (-1)) 31 0) 38 1))), (h2, .inr (6, [.ref h3, .int 2]))] := hD
  refine W.widen (k := 0) (n := 0) (Nat.le_of_ble_eq_true rfl) (Nat.le_of_ble_eq_true rfl) ?_
  refine pcn (b := 115) rfl ?_
  refine va_mmax hx hb (hml.trans hl.1.symm) hown (hts _ wm_199) (hts _ wm_154) (hts _ wm_8) (hts _ wm_155) (Nat.le_of_ble_eq_true rfl) (Nat.le_of_ble_eq_true rfl) (Nat.le_of_ble_eq_true rfl) (Nat.le_of_ble_eq_true rfl) dX4_find_115 ?_
  refine nrm (y := 1) (by decide +kernel) ?_
  refine lv_istore (lv' := [(8, .int 1), (7, .int 1), (6, .int (-1)), (5, .int (-1)), (4, .int 44), (0, .ref h0), (1, .int 2), (2, .int (-1)), (3, .int (-1))]) hx hb dX4_find_118 hl (by decide) rfl (fun ls hl => ?_)
  refine lv_iload_n hx hb dX4_find_120 rfl (lv_at hl 8 rfl) ?_
  refine lv_if_lt (tgt := 142) hx hb dX4_find_121 (by decide) (fun _ => ?_) (fun h9 => absurd (by decide +kernel) h9)
  refine lv_aload_n hx hb dX4_find_142 rfl (lv_at hl 5 rfl) ?_
  refine va_get (D := D) (ci := 4) (v := .ref h2) (C := RX4) (T := TX4) (N := 2) hx hb hts inX4 hown hK hP 0 rfl rfl 0 (by decide) (hts _ wm_171) (fun _ h9 => h9) rfl dX4_find_143 ?_
  refine lv_iload_n hx hb dX4_find_146 rfl (lv_at hl 6 rfl) ?_
  refine lv_iload_n hx hb dX4_find_147 rfl (lv_at hl 7 rfl) ?_
  refine lv_iload_n hx hb dX4_find_148 rfl (lv_at hl 8 rfl) ?_
  refine lv_iload hx hb dX4_find_149 (lv_at hl 1 rfl) ?_
  refine lv_iload hx hb dX4_find_151 (lv_at hl 0 rfl) ?_
  refine pcn (b := 153) rfl ?_
  refine lv_iload hx hb dX4_find_153 (lv_at hl 3 rfl) ?_
  refine kVNi (As := [.int 2, .int (-1), .int (-1), .int 1, .int 1, .int (-1)]) (rest := []) (wr := [(h0, .inr (4, [.ref h2, .ref h1])), (h1, .inl (cI, 64, .inl (upd (upd (fun _ => (-1)) 31 0) 38 1)))]) hx hb hml hown hts hnw hK hP hD hS hA hl.1 (c_X6_add_2 l D cI cZ cB cJ h2 h3) yk_X6_add wn_200 [3, 1] [0, 2] rfl rfl (by decide) (by decide) (by decide) 0 rfl rfl rfl rfl rfl dX4_find_155 ⟨Nat.le_of_ble_eq_true rfl, Nat.le_of_ble_eq_true rfl⟩ ⟨Nat.le_of_ble_eq_true rfl, Nat.le_of_ble_eq_true rfl⟩ (Nat.le_of_ble_eq_true rfl) (fun r9 w1 H locs hq9 hP hD hS => ?_)
  obtain ⟨rfl, rfl⟩ := hq9
  have hP : va_P D vwCl [(h0, .inr (4, [.ref h2, .ref h1])), (h1, .inl (cI, 64, .inl (upd (upd (fun _ => (-1)) 31 0) 38 1))), (h2, .inr (6, [.ref h3, .int 3])), (h3, .inl (cI, 144, .inl (upd (upd (upd (upd (upd (upd (upd (upd (upd (upd (upd (upd (upd (upd (upd (upd (upd (fun _ => 0) 1 (-1)) 2 (-1)) 3 1) 4 1) 5 (-1)) 6 1) 7 (-1)) 8 (-1)) 9 1) 10 1) 11 (-1)) 12 2) 13 (-1)) 14 (-1)) 15 1) 16 1) 17 (-1))))] H := hP
  have hD : va_D A [(h0, .inr (4, [.ref h2, .ref h1])), (h1, .inl (cI, 64, .inl (upd (upd (fun _ => (-1)) 31 0) 38 1))), (h2, .inr (6, [.ref h3, .int 3])), (h3, .inl (cI, 144, .inl (upd (upd (upd (upd (upd (upd (upd (upd (upd (upd (upd (upd (upd (upd (upd (upd (upd (fun _ => 0) 1 (-1)) 2 (-1)) 3 1) 4 1) 5 (-1)) 6 1) 7 (-1)) 8 (-1)) 9 1) 10 1) 11 (-1)) 12 2) 13 (-1)) 14 (-1)) 15 1) 16 1) 17 (-1))))] := hD
  refine W.widen (k := 0) (n := 0) (Nat.le_of_ble_eq_true rfl) (Nat.le_of_ble_eq_true rfl) ?_
  refine pcn (b := 158) rfl ?_
  refine lv_istore (lv' := [(9, .int 2), (8, .int 1), (7, .int 1), (6, .int (-1)), (5, .int (-1)), (4, .int 44), (0, .ref h0), (1, .int 2), (2, .int (-1)), (3, .int (-1))]) hx hb dX4_find_158 hl (by decide) rfl (fun ls hl => ?_)
  refine lv_iload hx hb dX4_find_160 (lv_at hl 0 rfl) ?_
  refine lv_if_lt (tgt := 176) hx hb dX4_find_162 (by decide) (fun h9 => absurd h9 (by decide +kernel)) (fun _ => ?_)
  refine lv_aload_n hx hb dX4_find_165 rfl (lv_at hl 6 rfl) ?_
  refine va_get (D := D) (ci := 4) (v := .ref h1) (C := RX4) (T := TX4) (N := 2) hx hb hts inX4 hown hK hP 0 rfl rfl 1 (by decide) (hts _ wm_174) (fun _ h9 => h9) rfl dX4_find_166 ?_
  refine lv_iload hx hb dX4_find_169 (lv_at hl 5 rfl) ?_
  refine lv_iload hx hb dX4_find_171 (lv_at hl 0 rfl) ?_
  refine pcn (b := 173) rfl ?_
  refine kSNv (As := [.ref h1, .int 44, .int 2]) (rest := []) (wr := [(h0, .inr (4, [.ref h2, .ref h1])), (h2, .inr (6, [.ref h3, .int 3])), (h3, .inl (cI, 144, .inl (upd (upd (upd (upd (upd (upd (upd (upd (upd (upd (upd (upd (upd (upd (upd (upd (upd (fun _ => 0) 1 (-1)) 2 (-1)) 3 1) 4 1) 5 (-1)) 6 1) 7 (-1)) 8 (-1)) 9 1) 10 1) 11 (-1)) 12 2) 13 (-1)) 14 (-1)) 15 1) 16 1) 17 (-1))))]) hx hb hml hown hts hnw hK hP hD hS hA hl.1 (c_X11_put_2 l D cI cZ cB cJ h1) yk_X11_put wn_218 [1] [0, 2, 3] rfl rfl (by decide) (by decide) (by decide) rfl rfl dX4_find_173 ⟨Nat.le_of_ble_eq_true rfl, Nat.le_of_ble_eq_true rfl⟩ ⟨Nat.le_of_ble_eq_true rfl, Nat.le_of_ble_eq_true rfl⟩ (Nat.le_of_ble_eq_true rfl) (fun w1 H locs hq9 hP hD hS => ?_)
  obtain rfl := hq9
  have hP : va_P D vwCl [(h0, .inr (4, [.ref h2, .ref h1])), (h2, .inr (6, [.ref h3, .int 3])), (h3, .inl (cI, 144, .inl (upd (upd (upd (upd (upd (upd (upd (upd (upd (upd (upd (upd (upd (upd (upd (upd (upd (fun _ => 0) 1 (-1)) 2 (-1)) 3 1) 4 1) 5 (-1)) 6 1) 7 (-1)) 8 (-1)) 9 1) 10 1) 11 (-1)) 12 2) 13 (-1)) 14 (-1)) 15 1) 16 1) 17 (-1)))), (h1, .inl (cI, 64, .inl (upd (upd (upd (fun _ => (-1)) 31 0) 38 1) 44 2)))] H := hP
  have hD : va_D A [(h0, .inr (4, [.ref h2, .ref h1])), (h2, .inr (6, [.ref h3, .int 3])), (h3, .inl (cI, 144, .inl (upd (upd (upd (upd (upd (upd (upd (upd (upd (upd (upd (upd (upd (upd (upd (upd (upd (fun _ => 0) 1 (-1)) 2 (-1)) 3 1) 4 1) 5 (-1)) 6 1) 7 (-1)) 8 (-1)) 9 1) 10 1) 11 (-1)) 12 2) 13 (-1)) 14 (-1)) 15 1) 16 1) 17 (-1)))), (h1, .inl (cI, 64, .inl (upd (upd (upd (fun _ => (-1)) 31 0) 38 1) 44 2)))] := hD
  refine W.widen (k := 0) (n := 0) (Nat.le_of_ble_eq_true rfl) (Nat.le_of_ble_eq_true rfl) ?_
  refine pcn (b := 176) rfl ?_
  refine lv_iload hx hb dX4_find_176 (lv_at hl 0 rfl) ?_
  refine W.widen (k := 0) (n := 0) (Nat.le_of_ble_eq_true rfl) (Nat.le_of_ble_eq_true rfl) ?_
  have hP := hP.sub (ws' := [(h0, .inr (4, [.ref h2, .ref h1])), (h1, .inl (cI, 64, .inl (upd (upd (upd (fun _ => (-1)) 31 0) 38 1) 44 2))), (h2, .inr (6, [.ref h3, .int 3])), (h3, .inl (cI, 144, .inl (upd (upd (upd (upd (upd (upd (upd (upd (upd (upd (upd (upd (upd (upd (upd (upd (upd (fun _ => 0) 1 (-1)) 2 (-1)) 3 1) 4 1) 5 (-1)) 6 1) 7 (-1)) 8 (-1)) 9 1) 10 1) 11 (-1)) 12 2) 13 (-1)) 14 (-1)) 15 1) 16 1) 17 (-1))))]) [0, 3, 1, 2] rfl
  have hD := hD.sub (ws' := [(h0, .inr (4, [.ref h2, .ref h1])), (h1, .inl (cI, 64, .inl (upd (upd (upd (fun _ => (-1)) 31 0) 38 1) 44 2))), (h2, .inr (6, [.ref h3, .int 3])), (h3, .inl (cI, 144, .inl (upd (upd (upd (upd (upd (upd (upd (upd (upd (upd (upd (upd (upd (upd (upd (upd (upd (fun _ => 0) 1 (-1)) 2 (-1)) 3 1) 4 1) 5 (-1)) 6 1) 7 (-1)) 8 (-1)) 9 1) 10 1) 11 (-1)) 12 2) 13 (-1)) 14 (-1)) 15 1) 16 1) 17 (-1))))]) [0, 3, 1, 2] (by decide) rfl
  exact rtI hx hb hr hlocks hS hP hD ⟨rfl, rfl⟩ dX4_find_178

set_option maxHeartbeats 4000000 in
set_option maxRecDepth 100000 in
theorem c_X4_bucketOf_3 (l : Launch) (D : va_G) (cI cZ cB cJ : ClassId) : CtI l D (TT cI cZ cB cJ) yX4_bucketOf cX4_bucketOf 4 (some .int) 0 0 0 0 [.int 4, .int 0, .int 0] [] (fun r w1 => r = 26 ∧ w1 = []) := by
  refine CtI.of (by decide +kernel) (Nat.le_of_ble_eq_true rfl) ?_
  intro p e s m below meth c A ls hx hb hr hml hown hts hnw hlocks hin hA hS hP hK hD hl
  have hown : s.vm.findClass RX4 = some m.cls := hown
  have hl : lv_has ls 4 [(0, .int 4), (1, .int 0), (2, .int 0)] := hl
  refine lv_iload_n hx hb dX4_bucketOf_0 rfl (lv_at hl 0 rfl) ?_
  refine lv_bipush (v := 31) hx hb dX4_bucketOf_1 (by decide +kernel) ?_
  refine lv_imul hx hb dX4_bucketOf_3 ?_
  refine nrm (y := 124) (by decide +kernel) ?_
  refine lv_iload_n hx hb dX4_bucketOf_4 rfl (lv_at hl 1 rfl) ?_
  refine lv_iadd hx hb dX4_bucketOf_5 ?_
  refine nrm (y := 124) (by decide +kernel) ?_
  refine lv_bipush (v := 31) hx hb dX4_bucketOf_6 (by decide +kernel) ?_
  refine lv_imul hx hb dX4_bucketOf_8 ?_
  refine nrm (y := 3844) (by decide +kernel) ?_
  refine pcn (b := 9) rfl ?_
  refine lv_iload_n hx hb dX4_bucketOf_9 rfl (lv_at hl 2 rfl) ?_
  refine lv_iadd hx hb dX4_bucketOf_10 ?_
  refine nrm (y := 3844) (by decide +kernel) ?_
  refine lv_istore_n (lv' := [(3, .int 3844), (0, .int 4), (1, .int 0), (2, .int 0)]) hx hb dX4_bucketOf_11 rfl hl (by decide) rfl (fun ls hl => ?_)
  refine lv_iload_n hx hb dX4_bucketOf_12 rfl (lv_at hl 0 rfl) ?_
  refine lv_iload_n hx hb dX4_bucketOf_13 rfl (lv_at hl 0 rfl) ?_
  refine lv_bipush (v := 7) hx hb dX4_bucketOf_14 (by decide +kernel) ?_
  refine lv_iushr hx hb dX4_bucketOf_16 rfl ?_
  refine nrm (y := 30) (by decide +kernel) ?_
  refine lv_ixor hx hb dX4_bucketOf_17 ?_
  refine nrm (y := 3866) (by decide +kernel) ?_
  refine pcn (b := 18) rfl ?_
  refine lv_bipush (v := 63) hx hb dX4_bucketOf_18 (by decide +kernel) ?_
  refine lv_iand hx hb dX4_bucketOf_20 ?_
  refine nrm (y := 26) (by decide +kernel) ?_
  refine W.widen (k := 0) (n := 0) (Nat.le_of_ble_eq_true rfl) (Nat.le_of_ble_eq_true rfl) ?_
  exact rtI hx hb hr hlocks hS hP hD ⟨rfl, rfl⟩ dX4_bucketOf_21

set_option maxHeartbeats 4000000 in
set_option maxRecDepth 100000 in
theorem c_X11_at_3 (l : Launch) (D : va_G) (cI cZ cB cJ : ClassId) (h0 : Nat) : CtI l D (TT cI cZ cB cJ) yX11_at cX11_at 2 (some .int) 0 0 0 0 [.ref h0, .int 26] [(h0, .inl (cI, 64, .inl (upd (upd (upd (fun _ => (-1)) 31 0) 38 1) 44 2)))] (fun r w1 => r = (-1) ∧ w1 = [(h0, .inl (cI, 64, .inl (upd (upd (upd (fun _ => (-1)) 31 0) 38 1) 44 2)))]) := by
  refine CtI.of (by decide +kernel) (Nat.le_of_ble_eq_true rfl) ?_
  intro p e s m below meth c A ls hx hb hr hml hown hts hnw hlocks hin hA hS hP hK hD hl
  have hown : s.vm.findClass RX11 = some m.cls := hown
  have hl : lv_has ls 2 [(0, .ref h0), (1, .int 26)] := hl
  refine lv_iload_n hx hb dX11_at_0 rfl (lv_at hl 1 rfl) ?_
  refine lv_if_lt (tgt := 16) hx hb dX11_at_1 (by decide) (fun h9 => absurd h9 (by decide +kernel)) (fun _ => ?_)
  refine lv_iload_n hx hb dX11_at_4 rfl (lv_at hl 1 rfl) ?_
  refine lv_aload_n hx hb dX11_at_5 rfl (lv_at hl 0 rfl) ?_
  refine va_alen (v := 64) hx hb hK hP 0 0 rfl rfl (by decide +kernel) dX11_at_6 ?_
  refine lv_icmp_ge (tgt := 16) hx hb dX11_at_7 (by decide) (fun h9 => absurd h9 (by decide +kernel)) (fun _ => ?_)
  refine lv_aload_n hx hb dX11_at_10 rfl (lv_at hl 0 rfl) ?_
  refine pcn (b := 11) rfl ?_
  refine lv_iload_n hx hb dX11_at_11 rfl (lv_at hl 1 rfl) ?_
  refine al_i (x := (-1)) hx hb hK hP 0 0 rfl rfl (vpi (by decide +kernel)) (by first | decide +kernel | rfl) dX11_at_12 ?_
  refine lv_goto (tgt := 17) hx hb dX11_at_13 (by decide) ?_
  refine W.widen (k := 0) (n := 0) (Nat.le_of_ble_eq_true rfl) (Nat.le_of_ble_eq_true rfl) ?_
  exact rtI hx hb hr hlocks hS hP hD ⟨rfl, rfl⟩ dX11_at_17

set_option maxHeartbeats 4000000 in
set_option maxRecDepth 100000 in
theorem c_X6_get_6 (l : Launch) (D : va_G) (cI cZ cB cJ : ClassId) (h0 h1 : Nat) : CtI l D (TT cI cZ cB cJ) yX6_get cX6_get 5 (some .int) 0 0 0 0 [.ref h0, .int 0, .int 3] [(h0, .inr (6, [.ref h1, .int 3])), (h1, .inl (cI, 144, .inl (upd (upd (upd (upd (upd (upd (upd (upd (upd (upd (upd (upd (upd (upd (upd (upd (upd (fun _ => 0) 1 (-1)) 2 (-1)) 3 1) 4 1) 5 (-1)) 6 1) 7 (-1)) 8 (-1)) 9 1) 10 1) 11 (-1)) 12 2) 13 (-1)) 14 (-1)) 15 1) 16 1) 17 (-1))))] (fun r w1 => r = 1 ∧ w1 = [(h0, .inr (6, [.ref h1, .int 3])), (h1, .inl (cI, 144, .inl (upd (upd (upd (upd (upd (upd (upd (upd (upd (upd (upd (upd (upd (upd (upd (upd (upd (fun _ => 0) 1 (-1)) 2 (-1)) 3 1) 4 1) 5 (-1)) 6 1) 7 (-1)) 8 (-1)) 9 1) 10 1) 11 (-1)) 12 2) 13 (-1)) 14 (-1)) 15 1) 16 1) 17 (-1))))]) := by
  refine CtI.of (by decide +kernel) (Nat.le_of_ble_eq_true rfl) ?_
  intro p e s m below meth c A ls hx hb hr hml hown hts hnw hlocks hin hA hS hP hK hD hl
  have hown : s.vm.findClass RX6 = some m.cls := hown
  have hl : lv_has ls 5 [(0, .ref h0), (1, .int 0), (2, .int 3)] := hl
  refine lv_iload_n hx hb dX6_get_0 rfl (lv_at hl 1 rfl) ?_
  refine lv_bipush (v := 6) hx hb dX6_get_1 (by decide +kernel) ?_
  refine lv_imul hx hb dX6_get_3 ?_
  refine nrm (y := 0) (by decide +kernel) ?_
  refine lv_iload_n hx hb dX6_get_4 rfl (lv_at hl 2 rfl) ?_
  refine lv_iadd hx hb dX6_get_5 ?_
  refine nrm (y := 3) (by decide +kernel) ?_
  refine lv_istore_n (lv' := [(3, .int 3), (0, .ref h0), (1, .int 0), (2, .int 3)]) hx hb dX6_get_6 rfl hl (by decide) rfl (fun ls hl => ?_)
  refine lv_iload_n hx hb dX6_get_7 rfl (lv_at hl 2 rfl) ?_
  refine pcn (b := 8) rfl ?_
  refine lv_if_lt (tgt := 33) hx hb dX6_get_8 (by decide) (fun h9 => absurd h9 (by decide +kernel)) (fun _ => ?_)
  refine lv_iload_n hx hb dX6_get_11 rfl (lv_at hl 2 rfl) ?_
  refine lv_aload_n hx hb dX6_get_12 rfl (lv_at hl 1 rfl) ?_
  refine va_get (D := D) (ci := 6) (v := .int 3) (C := RX6) (T := TX6) (N := 2) hx hb hts inX6 hown hK hP 0 rfl rfl 1 (by decide) (hts _ wm_157) (fun _ h9 => h9) rfl dX6_get_13 ?_
  refine lv_icmp_ge (tgt := 33) hx hb dX6_get_16 (by decide) (fun h9 => absurd h9 (by decide +kernel)) (fun _ => ?_)
  refine lv_iload_n hx hb dX6_get_19 rfl (lv_at hl 3 rfl) ?_
  refine lv_if_lt (tgt := 33) hx hb dX6_get_20 (by decide) (fun h9 => absurd h9 (by decide +kernel)) (fun _ => ?_)
  refine lv_iload_n hx hb dX6_get_23 rfl (lv_at hl 3 rfl) ?_
  refine pcn (b := 24) rfl ?_
  refine lv_bipush (v := 6) hx hb dX6_get_24 (by decide +kernel) ?_
  refine lv_icmp_ge (tgt := 33) hx hb dX6_get_26 (by decide) (fun h9 => absurd h9 (by decide +kernel)) (fun _ => ?_)
  refine lv_iconst (v := 1) hx hb dX6_get_29 (by decide +kernel) ?_
  refine lv_goto (tgt := 34) hx hb dX6_get_30 (by decide) ?_
  refine lv_istore (lv' := [(4, .int 1), (3, .int 3), (0, .ref h0), (1, .int 0), (2, .int 3)]) hx hb dX6_get_34 hl (by decide) rfl (fun ls hl => ?_)
  refine lv_iload hx hb dX6_get_36 (lv_at hl 0 rfl) ?_
  refine lv_if_eq (tgt := 63) hx hb dX6_get_38 (by decide) (fun h9 => absurd h9 (by decide +kernel)) (fun _ => ?_)
  refine lv_iload_n hx hb dX6_get_41 rfl (lv_at hl 1 rfl) ?_
  refine lv_if_lt (tgt := 63) hx hb dX6_get_42 (by decide) (fun h9 => absurd h9 (by decide +kernel)) (fun _ => ?_)
  refine lv_iload_n hx hb dX6_get_45 rfl (lv_at hl 1 rfl) ?_
  refine lv_aload_n hx hb dX6_get_46 rfl (lv_at hl 2 rfl) ?_
  refine pcn (b := 47) rfl ?_
  refine va_get (D := D) (ci := 6) (v := .ref h1) (C := RX6) (T := TX6) (N := 2) hx hb hts inX6 hown hK hP 0 rfl rfl 0 (by decide) (hts _ wm_156) (fun _ h9 => h9) rfl dX6_get_47 ?_
  refine va_alen (v := 144) hx hb hK hP 1 0 rfl rfl (by decide +kernel) dX6_get_50 ?_
  refine lv_icmp_ge (tgt := 63) hx hb dX6_get_51 (by decide) (fun h9 => absurd h9 (by decide +kernel)) (fun _ => ?_)
  refine lv_aload_n hx hb dX6_get_54 rfl (lv_at hl 2 rfl) ?_
  refine va_get (D := D) (ci := 6) (v := .ref h1) (C := RX6) (T := TX6) (N := 2) hx hb hts inX6 hown hK hP 0 rfl rfl 0 (by decide) (hts _ wm_156) (fun _ h9 => h9) rfl dX6_get_55 ?_
  refine lv_iload_n hx hb dX6_get_58 rfl (lv_at hl 1 rfl) ?_
  refine al_i (x := 1) hx hb hK hP 1 0 rfl rfl (vpi (by decide +kernel)) (by first | decide +kernel | rfl) dX6_get_59 ?_
  refine lv_goto (tgt := 64) hx hb dX6_get_60 (by decide) ?_
  refine W.widen (k := 0) (n := 0) (Nat.le_of_ble_eq_true rfl) (Nat.le_of_ble_eq_true rfl) ?_
  exact rtI hx hb hr hlocks hS hP hD ⟨rfl, rfl⟩ dX6_get_64

set_option maxHeartbeats 4000000 in
set_option maxRecDepth 100000 in
theorem c_X6_get_7 (l : Launch) (D : va_G) (cI cZ cB cJ : ClassId) (h0 h1 : Nat) : CtI l D (TT cI cZ cB cJ) yX6_get cX6_get 5 (some .int) 0 0 0 0 [.ref h0, .int 0, .int 4] [(h0, .inr (6, [.ref h1, .int 3])), (h1, .inl (cI, 144, .inl (upd (upd (upd (upd (upd (upd (upd (upd (upd (upd (upd (upd (upd (upd (upd (upd (upd (fun _ => 0) 1 (-1)) 2 (-1)) 3 1) 4 1) 5 (-1)) 6 1) 7 (-1)) 8 (-1)) 9 1) 10 1) 11 (-1)) 12 2) 13 (-1)) 14 (-1)) 15 1) 16 1) 17 (-1))))] (fun r w1 => r = 1 ∧ w1 = [(h0, .inr (6, [.ref h1, .int 3])), (h1, .inl (cI, 144, .inl (upd (upd (upd (upd (upd (upd (upd (upd (upd (upd (upd (upd (upd (upd (upd (upd (upd (fun _ => 0) 1 (-1)) 2 (-1)) 3 1) 4 1) 5 (-1)) 6 1) 7 (-1)) 8 (-1)) 9 1) 10 1) 11 (-1)) 12 2) 13 (-1)) 14 (-1)) 15 1) 16 1) 17 (-1))))]) := by
  refine CtI.of (by decide +kernel) (Nat.le_of_ble_eq_true rfl) ?_
  intro p e s m below meth c A ls hx hb hr hml hown hts hnw hlocks hin hA hS hP hK hD hl
  have hown : s.vm.findClass RX6 = some m.cls := hown
  have hl : lv_has ls 5 [(0, .ref h0), (1, .int 0), (2, .int 4)] := hl
  refine lv_iload_n hx hb dX6_get_0 rfl (lv_at hl 1 rfl) ?_
  refine lv_bipush (v := 6) hx hb dX6_get_1 (by decide +kernel) ?_
  refine lv_imul hx hb dX6_get_3 ?_
  refine nrm (y := 0) (by decide +kernel) ?_
  refine lv_iload_n hx hb dX6_get_4 rfl (lv_at hl 2 rfl) ?_
  refine lv_iadd hx hb dX6_get_5 ?_
  refine nrm (y := 4) (by decide +kernel) ?_
  refine lv_istore_n (lv' := [(3, .int 4), (0, .ref h0), (1, .int 0), (2, .int 4)]) hx hb dX6_get_6 rfl hl (by decide) rfl (fun ls hl => ?_)
  refine lv_iload_n hx hb dX6_get_7 rfl (lv_at hl 2 rfl) ?_
  refine pcn (b := 8) rfl ?_
  refine lv_if_lt (tgt := 33) hx hb dX6_get_8 (by decide) (fun h9 => absurd h9 (by decide +kernel)) (fun _ => ?_)
  refine lv_iload_n hx hb dX6_get_11 rfl (lv_at hl 2 rfl) ?_
  refine lv_aload_n hx hb dX6_get_12 rfl (lv_at hl 1 rfl) ?_
  refine va_get (D := D) (ci := 6) (v := .int 3) (C := RX6) (T := TX6) (N := 2) hx hb hts inX6 hown hK hP 0 rfl rfl 1 (by decide) (hts _ wm_157) (fun _ h9 => h9) rfl dX6_get_13 ?_
  refine lv_icmp_ge (tgt := 33) hx hb dX6_get_16 (by decide) (fun h9 => absurd h9 (by decide +kernel)) (fun _ => ?_)
  refine lv_iload_n hx hb dX6_get_19 rfl (lv_at hl 3 rfl) ?_
  refine lv_if_lt (tgt := 33) hx hb dX6_get_20 (by decide) (fun h9 => absurd h9 (by decide +kernel)) (fun _ => ?_)
  refine lv_iload_n hx hb dX6_get_23 rfl (lv_at hl 3 rfl) ?_
  refine pcn (b := 24) rfl ?_
  refine lv_bipush (v := 6) hx hb dX6_get_24 (by decide +kernel) ?_
  refine lv_icmp_ge (tgt := 33) hx hb dX6_get_26 (by decide) (fun h9 => absurd h9 (by decide +kernel)) (fun _ => ?_)
  refine lv_iconst (v := 1) hx hb dX6_get_29 (by decide +kernel) ?_
  refine lv_goto (tgt := 34) hx hb dX6_get_30 (by decide) ?_
  refine lv_istore (lv' := [(4, .int 1), (3, .int 4), (0, .ref h0), (1, .int 0), (2, .int 4)]) hx hb dX6_get_34 hl (by decide) rfl (fun ls hl => ?_)
  refine lv_iload hx hb dX6_get_36 (lv_at hl 0 rfl) ?_
  refine lv_if_eq (tgt := 63) hx hb dX6_get_38 (by decide) (fun h9 => absurd h9 (by decide +kernel)) (fun _ => ?_)
  refine lv_iload_n hx hb dX6_get_41 rfl (lv_at hl 1 rfl) ?_
  refine lv_if_lt (tgt := 63) hx hb dX6_get_42 (by decide) (fun h9 => absurd h9 (by decide +kernel)) (fun _ => ?_)
  refine lv_iload_n hx hb dX6_get_45 rfl (lv_at hl 1 rfl) ?_
  refine lv_aload_n hx hb dX6_get_46 rfl (lv_at hl 2 rfl) ?_
  refine pcn (b := 47) rfl ?_
  refine va_get (D := D) (ci := 6) (v := .ref h1) (C := RX6) (T := TX6) (N := 2) hx hb hts inX6 hown hK hP 0 rfl rfl 0 (by decide) (hts _ wm_156) (fun _ h9 => h9) rfl dX6_get_47 ?_
  refine va_alen (v := 144) hx hb hK hP 1 0 rfl rfl (by decide +kernel) dX6_get_50 ?_
  refine lv_icmp_ge (tgt := 63) hx hb dX6_get_51 (by decide) (fun h9 => absurd h9 (by decide +kernel)) (fun _ => ?_)
  refine lv_aload_n hx hb dX6_get_54 rfl (lv_at hl 2 rfl) ?_
  refine va_get (D := D) (ci := 6) (v := .ref h1) (C := RX6) (T := TX6) (N := 2) hx hb hts inX6 hown hK hP 0 rfl rfl 0 (by decide) (hts _ wm_156) (fun _ h9 => h9) rfl dX6_get_55 ?_
  refine lv_iload_n hx hb dX6_get_58 rfl (lv_at hl 1 rfl) ?_
  refine al_i (x := 1) hx hb hK hP 1 0 rfl rfl (vpi (by decide +kernel)) (by first | decide +kernel | rfl) dX6_get_59 ?_
  refine lv_goto (tgt := 64) hx hb dX6_get_60 (by decide) ?_
  refine W.widen (k := 0) (n := 0) (Nat.le_of_ble_eq_true rfl) (Nat.le_of_ble_eq_true rfl) ?_
  exact rtI hx hb hr hlocks hS hP hD ⟨rfl, rfl⟩ dX6_get_64

set_option maxHeartbeats 4000000 in
set_option maxRecDepth 100000 in
theorem c_X6_add_3 (l : Launch) (D : va_G) (cI cZ cB cJ : ClassId) (h0 h1 : Nat) : CtI l D (TT cI cZ cB cJ) yX6_add cX6_add 8 (some .int) 0 0 0 0 [.ref h0, .int 4, .int 0, .int 0, .int 3, .int 2, .int (-1)] [(h0, .inr (6, [.ref h1, .int 3])), (h1, .inl (cI, 144, .inl (upd (upd (upd (upd (upd (upd (upd (upd (upd (upd (upd (upd (upd (upd (upd (upd (upd (fun _ => 0) 1 (-1)) 2 (-1)) 3 1) 4 1) 5 (-1)) 6 1) 7 (-1)) 8 (-1)) 9 1) 10 1) 11 (-1)) 12 2) 13 (-1)) 14 (-1)) 15 1) 16 1) 17 (-1))))] (fun r w1 => r = 3 ∧ w1 = [(h0, .inr (6, [.ref h1, .int 4])), (h1, .inl (cI, 144, .inl (upd (upd (upd (upd (upd (upd (upd (upd (upd (upd (upd (upd (upd (upd (upd (upd (upd (upd (upd (upd (upd (fun _ => 0) 1 (-1)) 2 (-1)) 3 1) 4 1) 5 (-1)) 6 1) 7 (-1)) 8 (-1)) 9 1) 10 1) 11 (-1)) 12 2) 13 (-1)) 14 (-1)) 15 1) 16 1) 17 (-1)) 18 4) 21 3) 22 2) 23 (-1))))]) := by
  refine CtI.of (by decide +kernel) (Nat.le_of_ble_eq_true rfl) ?_
  intro p e s m below meth c A ls hx hb hr hml hown hts hnw hlocks hin hA hS hP hK hD hl
  have hown : s.vm.findClass RX6 = some m.cls := hown
  have hl : lv_has ls 8 [(0, .ref h0), (1, .int 4), (2, .int 0), (3, .int 0), (4, .int 3), (5, .int 2), (6, .int (-1))] := hl
  refine lv_aload_n hx hb dX6_add_0 rfl (lv_at hl 0 rfl) ?_
  refine va_get (D := D) (ci := 6) (v := .int 3) (C := RX6) (T := TX6) (N := 2) hx hb hts inX6 hown hK hP 0 rfl rfl 1 (by decide) (hts _ wm_157) (fun _ h9 => h9) rfl dX6_add_1 ?_
  refine lv_bipush (v := 6) hx hb dX6_add_4 (by decide +kernel) ?_
  refine lv_imul hx hb dX6_add_6 ?_
  refine nrm (y := 18) (by decide +kernel) ?_
  refine lv_istore (lv' := [(7, .int 18), (0, .ref h0), (1, .int 4), (2, .int 0), (3, .int 0), (4, .int 3), (5, .int 2), (6, .int (-1))]) hx hb dX6_add_7 hl (by decide) rfl (fun ls hl => ?_)
  refine lv_iload hx hb dX6_add_9 (lv_at hl 0 rfl) ?_
  refine lv_bipush (v := 6) hx hb dX6_add_11 (by decide +kernel) ?_
  refine pcn (b := 13) rfl ?_
  refine lv_iadd hx hb dX6_add_13 ?_
  refine nrm (y := 24) (by decide +kernel) ?_
  refine lv_aload_n hx hb dX6_add_14 rfl (lv_at hl 1 rfl) ?_
  refine va_get (D := D) (ci := 6) (v := .ref h1) (C := RX6) (T := TX6) (N := 2) hx hb hts inX6 hown hK hP 0 rfl rfl 0 (by decide) (hts _ wm_156) (fun _ h9 => h9) rfl dX6_add_15 ?_
  refine va_alen (v := 144) hx hb hK hP 1 0 rfl rfl (by decide +kernel) dX6_add_18 ?_
  refine lv_icmp_le (tgt := 49) hx hb dX6_add_19 (by decide) (fun _ => ?_) (fun h9 => absurd (by decide +kernel) h9)
  refine lv_iload hx hb dX6_add_49 (lv_at hl 0 rfl) ?_
  refine lv_if_lt (tgt := 67) hx hb dX6_add_51 (by decide) (fun h9 => absurd h9 (by decide +kernel)) (fun _ => ?_)
  refine lv_iload hx hb dX6_add_54 (lv_at hl 0 rfl) ?_
  refine lv_bipush (v := 6) hx hb dX6_add_56 (by decide +kernel) ?_
  refine lv_iadd hx hb dX6_add_58 ?_
  refine nrm (y := 24) (by decide +kernel) ?_
  refine lv_aload_n hx hb dX6_add_59 rfl (lv_at hl 1 rfl) ?_
  refine va_get (D := D) (ci := 6) (v := .ref h1) (C := RX6) (T := TX6) (N := 2) hx hb hts inX6 hown hK hP 0 rfl rfl 0 (by decide) (hts _ wm_156) (fun _ h9 => h9) rfl dX6_add_60 ?_
  refine pcn (b := 63) rfl ?_
  refine va_alen (v := 144) hx hb hK hP 1 0 rfl rfl (by decide +kernel) dX6_add_63 ?_
  refine lv_icmp_le (tgt := 69) hx hb dX6_add_64 (by decide) (fun _ => ?_) (fun h9 => absurd (by decide +kernel) h9)
  refine lv_aload_n hx hb dX6_add_69 rfl (lv_at hl 1 rfl) ?_
  refine va_get (D := D) (ci := 6) (v := .ref h1) (C := RX6) (T := TX6) (N := 2) hx hb hts inX6 hown hK hP 0 rfl rfl 0 (by decide) (hts _ wm_156) (fun _ h9 => h9) rfl dX6_add_70 ?_
  refine lv_iload hx hb dX6_add_73 (lv_at hl 0 rfl) ?_
  refine lv_iload_n hx hb dX6_add_75 rfl (lv_at hl 2 rfl) ?_
  refine as_i (k := 18) hx hb hK hP hD hS 1 0 rfl rfl (vpi (by decide +kernel)) (by decide +kernel) dX6_add_76 (fun H locs hP hD hS => ?_)
  have hP : va_P D vwCl [(h0, .inr (6, [.ref h1, .int 3])), (h1, .inl (cI, 144, .inl (upd (upd (upd (upd (upd (upd (upd (upd (upd (upd (upd (upd (upd (upd (upd (upd (upd (upd (fun _ => 0) 1 (-1)) 2 (-1)) 3 1) 4 1) 5 (-1)) 6 1) 7 (-1)) 8 (-1)) 9 1) 10 1) 11 (-1)) 12 2) 13 (-1)) 14 (-1)) 15 1) 16 1) 17 (-1)) 18 4)))] H := hP
  have hD : va_D A [(h0, .inr (6, [.ref h1, .int 3])), (h1, .inl (cI, 144, .inl (upd (upd (upd (upd (upd (upd (upd (upd (upd (upd (upd (upd (upd (upd (upd (upd (upd (upd (fun _ => 0) 1 (-1)) 2 (-1)) 3 1) 4 1) 5 (-1)) 6 1) 7 (-1)) 8 (-1)) 9 1) 10 1) 11 (-1)) 12 2) 13 (-1)) 14 (-1)) 15 1) 16 1) 17 (-1)) 18 4)))] := hD
  refine lv_aload_n hx hb dX6_add_77 rfl (lv_at hl 1 rfl) ?_
  refine va_get (D := D) (ci := 6) (v := .ref h1) (C := RX6) (T := TX6) (N := 2) hx hb hts inX6 hown hK hP 0 rfl rfl 0 (by decide) (hts _ wm_156) (fun _ h9 => h9) rfl dX6_add_78 ?_
  refine pcn (b := 81) rfl ?_
  refine lv_iload hx hb dX6_add_81 (lv_at hl 0 rfl) ?_
  refine lv_iconst (v := 1) hx hb dX6_add_83 (by decide +kernel) ?_
  refine lv_iadd hx hb dX6_add_84 ?_
  refine nrm (y := 19) (by decide +kernel) ?_
  refine lv_iload_n hx hb dX6_add_85 rfl (lv_at hl 3 rfl) ?_
  refine as_i_s hx hb hK hP hD hS 1 0 rfl rfl (vpi (by decide +kernel)) (by first | decide +kernel | rfl) dX6_add_86 (fun H locs hP hD hS => ?_)
  have hP : va_P D vwCl [(h0, .inr (6, [.ref h1, .int 3])), (h1, .inl (cI, 144, .inl (upd (upd (upd (upd (upd (upd (upd (upd (upd (upd (upd (upd (upd (upd (upd (upd (upd (upd (fun _ => 0) 1 (-1)) 2 (-1)) 3 1) 4 1) 5 (-1)) 6 1) 7 (-1)) 8 (-1)) 9 1) 10 1) 11 (-1)) 12 2) 13 (-1)) 14 (-1)) 15 1) 16 1) 17 (-1)) 18 4)))] H := hP
  have hD : va_D A [(h0, .inr (6, [.ref h1, .int 3])), (h1, .inl (cI, 144, .inl (upd (upd (upd (upd (upd (upd (upd (upd (upd (upd (upd (upd (upd (upd (upd (upd (upd (upd (fun _ => 0) 1 (-1)) 2 (-1)) 3 1) 4 1) 5 (-1)) 6 1) 7 (-1)) 8 (-1)) 9 1) 10 1) 11 (-1)) 12 2) 13 (-1)) 14 (-1)) 15 1) 16 1) 17 (-1)) 18 4)))] := hD
  refine lv_aload_n hx hb dX6_add_87 rfl (lv_at hl 1 rfl) ?_
  refine va_get (D := D) (ci := 6) (v := .ref h1) (C := RX6) (T := TX6) (N := 2) hx hb hts inX6 hown hK hP 0 rfl rfl 0 (by decide) (hts _ wm_156) (fun _ h9 => h9) rfl dX6_add_88 ?_
  refine lv_iload hx hb dX6_add_91 (lv_at hl 0 rfl) ?_
  refine pcn (b := 93) rfl ?_
  refine lv_iconst (v := 2) hx hb dX6_add_93 (by decide +kernel) ?_
  refine lv_iadd hx hb dX6_add_94 ?_
  refine nrm (y := 20) (by decide +kernel) ?_
  refine lv_iload_n hx hb dX6_add_95 rfl (lv_at hl 4 rfl) ?_
  refine as_i_s hx hb hK hP hD hS 1 0 rfl rfl (vpi (by decide +kernel)) (by first | decide +kernel | rfl) dX6_add_96 (fun H locs hP hD hS => ?_)
  have hP : va_P D vwCl [(h0, .inr (6, [.ref h1, .int 3])), (h1, .inl (cI, 144, .inl (upd (upd (upd (upd (upd (upd (upd (upd (upd (upd (upd (upd (upd (upd (upd (upd (upd (upd (fun _ => 0) 1 (-1)) 2 (-1)) 3 1) 4 1) 5 (-1)) 6 1) 7 (-1)) 8 (-1)) 9 1) 10 1) 11 (-1)) 12 2) 13 (-1)) 14 (-1)) 15 1) 16 1) 17 (-1)) 18 4)))] H := hP
  have hD : va_D A [(h0, .inr (6, [.ref h1, .int 3])), (h1, .inl (cI, 144, .inl (upd (upd (upd (upd (upd (upd (upd (upd (upd (upd (upd (upd (upd (upd (upd (upd (upd (upd (fun _ => 0) 1 (-1)) 2 (-1)) 3 1) 4 1) 5 (-1)) 6 1) 7 (-1)) 8 (-1)) 9 1) 10 1) 11 (-1)) 12 2) 13 (-1)) 14 (-1)) 15 1) 16 1) 17 (-1)) 18 4)))] := hD
  refine lv_aload_n hx hb dX6_add_97 rfl (lv_at hl 1 rfl) ?_
  refine va_get (D := D) (ci := 6) (v := .ref h1) (C := RX6) (T := TX6) (N := 2) hx hb hts inX6 hown hK hP 0 rfl rfl 0 (by decide) (hts _ wm_156) (fun _ h9 => h9) rfl dX6_add_98 ?_
  refine lv_iload hx hb dX6_add_101 (lv_at hl 0 rfl) ?_
  refine lv_iconst (v := 3) hx hb dX6_add_103 (by decide +kernel) ?_
  refine pcn (b := 104) rfl ?_
  refine lv_iadd hx hb dX6_add_104 ?_
  refine nrm (y := 21) (by decide +kernel) ?_
  refine lv_iload hx hb dX6_add_105 (lv_at hl 5 rfl) ?_
  refine as_i (k := 21) hx hb hK hP hD hS 1 0 rfl rfl (vpi (by decide +kernel)) (by decide +kernel) dX6_add_107 (fun H locs hP hD hS => ?_)
  have hP : va_P D vwCl [(h0, .inr (6, [.ref h1, .int 3])), (h1, .inl (cI, 144, .inl (upd (upd (upd (upd (upd (upd (upd (upd (upd (upd (upd (upd (upd (upd (upd (upd (upd (upd (upd (fun _ => 0) 1 (-1)) 2 (-1)) 3 1) 4 1) 5 (-1)) 6 1) 7 (-1)) 8 (-1)) 9 1) 10 1) 11 (-1)) 12 2) 13 (-1)) 14 (-1)) 15 1) 16 1) 17 (-1)) 18 4) 21 3)))] H := hP
  have hD : va_D A [(h0, .inr (6, [.ref h1, .int 3])), (h1, .inl (cI, 144, .inl (upd (upd (upd (upd (upd (upd (upd (upd (upd (upd (upd (upd (upd (upd (upd (upd (upd (upd (upd (fun _ => 0) 1 (-1)) 2 (-1)) 3 1) 4 1) 5 (-1)) 6 1) 7 (-1)) 8 (-1)) 9 1) 10 1) 11 (-1)) 12 2) 13 (-1)) 14 (-1)) 15 1) 16 1) 17 (-1)) 18 4) 21 3)))] := hD
  refine lv_aload_n hx hb dX6_add_108 rfl (lv_at hl 1 rfl) ?_
  refine va_get (D := D) (ci := 6) (v := .ref h1) (C := RX6) (T := TX6) (N := 2) hx hb hts inX6 hown hK hP 0 rfl rfl 0 (by decide) (hts _ wm_156) (fun _ h9 => h9) rfl dX6_add_109 ?_
  refine lv_iload hx hb dX6_add_112 (lv_at hl 0 rfl) ?_
  refine lv_iconst (v := 4) hx hb dX6_add_114 (by decide +kernel) ?_
  refine lv_iadd hx hb dX6_add_115 ?_
  refine nrm (y := 22) (by decide +kernel) ?_
  refine pcn (b := 116) rfl ?_
  refine lv_iload hx hb dX6_add_116 (lv_at hl 6 rfl) ?_
  refine as_i (k := 22) hx hb hK hP hD hS 1 0 rfl rfl (vpi (by decide +kernel)) (by decide +kernel) dX6_add_118 (fun H locs hP hD hS => ?_)
  have hP : va_P D vwCl [(h0, .inr (6, [.ref h1, .int 3])), (h1, .inl (cI, 144, .inl (upd (upd (upd (upd (upd (upd (upd (upd (upd (upd (upd (upd (upd (upd (upd (upd (upd (upd (upd (upd (fun _ => 0) 1 (-1)) 2 (-1)) 3 1) 4 1) 5 (-1)) 6 1) 7 (-1)) 8 (-1)) 9 1) 10 1) 11 (-1)) 12 2) 13 (-1)) 14 (-1)) 15 1) 16 1) 17 (-1)) 18 4) 21 3) 22 2)))] H := hP
  have hD : va_D A [(h0, .inr (6, [.ref h1, .int 3])), (h1, .inl (cI, 144, .inl (upd (upd (upd (upd (upd (upd (upd (upd (upd (upd (upd (upd (upd (upd (upd (upd (upd (upd (upd (upd (fun _ => 0) 1 (-1)) 2 (-1)) 3 1) 4 1) 5 (-1)) 6 1) 7 (-1)) 8 (-1)) 9 1) 10 1) 11 (-1)) 12 2) 13 (-1)) 14 (-1)) 15 1) 16 1) 17 (-1)) 18 4) 21 3) 22 2)))] := hD
  refine lv_aload_n hx hb dX6_add_119 rfl (lv_at hl 1 rfl) ?_
  refine va_get (D := D) (ci := 6) (v := .ref h1) (C := RX6) (T := TX6) (N := 2) hx hb hts inX6 hown hK hP 0 rfl rfl 0 (by decide) (hts _ wm_156) (fun _ h9 => h9) rfl dX6_add_120 ?_
  refine lv_iload hx hb dX6_add_123 (lv_at hl 0 rfl) ?_
  refine lv_iconst (v := 5) hx hb dX6_add_125 (by decide +kernel) ?_
  refine lv_iadd hx hb dX6_add_126 ?_
  refine nrm (y := 23) (by decide +kernel) ?_
  refine lv_iload hx hb dX6_add_127 (lv_at hl 7 rfl) ?_
  refine pcn (b := 129) rfl ?_
  refine as_i (k := 23) hx hb hK hP hD hS 1 0 rfl rfl (vpi (by decide +kernel)) (by decide +kernel) dX6_add_129 (fun H locs hP hD hS => ?_)
  have hP : va_P D vwCl [(h0, .inr (6, [.ref h1, .int 3])), (h1, .inl (cI, 144, .inl (upd (upd (upd (upd (upd (upd (upd (upd (upd (upd (upd (upd (upd (upd (upd (upd (upd (upd (upd (upd (upd (fun _ => 0) 1 (-1)) 2 (-1)) 3 1) 4 1) 5 (-1)) 6 1) 7 (-1)) 8 (-1)) 9 1) 10 1) 11 (-1)) 12 2) 13 (-1)) 14 (-1)) 15 1) 16 1) 17 (-1)) 18 4) 21 3) 22 2) 23 (-1))))] H := hP
  have hD : va_D A [(h0, .inr (6, [.ref h1, .int 3])), (h1, .inl (cI, 144, .inl (upd (upd (upd (upd (upd (upd (upd (upd (upd (upd (upd (upd (upd (upd (upd (upd (upd (upd (upd (upd (upd (fun _ => 0) 1 (-1)) 2 (-1)) 3 1) 4 1) 5 (-1)) 6 1) 7 (-1)) 8 (-1)) 9 1) 10 1) 11 (-1)) 12 2) 13 (-1)) 14 (-1)) 15 1) 16 1) 17 (-1)) 18 4) 21 3) 22 2) 23 (-1))))] := hD
  refine lv_aload_n hx hb dX6_add_130 rfl (lv_at hl 1 rfl) ?_
  refine lv_dup hx hb dX6_add_131 rfl ?_
  refine va_get (D := D) (ci := 6) (v := .int 3) (C := RX6) (T := TX6) (N := 2) hx hb hts inX6 hown hK hP 0 rfl rfl 1 (by decide) (hts _ wm_157) (fun _ h9 => h9) rfl dX6_add_132 ?_
  refine lv_iconst (v := 1) hx hb dX6_add_135 (by decide +kernel) ?_
  refine lv_iadd hx hb dX6_add_136 ?_
  refine nrm (y := 4) (by decide +kernel) ?_
  refine va_put (D := D) (ci := 6) (v := .int 4) (ty := .int) (C := RX6) (T := TX6) (N := 2) hx hb hts inX6 tyX6 tyX6_ok nmX6 hown hK hP hD hS 0 rfl rfl 1 (by decide) (hts _ wm_157) (fun _ h9 => h9) rfl (by decide +kernel) rfl rfl (Nat.le_of_ble_eq_true rfl) dX6_add_137 (fun H locs hP hD hS => ?_)
  have hP : va_P D vwCl [(h0, .inr (6, [.ref h1, .int 4])), (h1, .inl (cI, 144, .inl (upd (upd (upd (upd (upd (upd (upd (upd (upd (upd (upd (upd (upd (upd (upd (upd (upd (upd (upd (upd (upd (fun _ => 0) 1 (-1)) 2 (-1)) 3 1) 4 1) 5 (-1)) 6 1) 7 (-1)) 8 (-1)) 9 1) 10 1) 11 (-1)) 12 2) 13 (-1)) 14 (-1)) 15 1) 16 1) 17 (-1)) 18 4) 21 3) 22 2) 23 (-1))))] H := hP
  have hD : va_D A [(h0, .inr (6, [.ref h1, .int 4])), (h1, .inl (cI, 144, .inl (upd (upd (upd (upd (upd (upd (upd (upd (upd (upd (upd (upd (upd (upd (upd (upd (upd (upd (upd (upd (upd (fun _ => 0) 1 (-1)) 2 (-1)) 3 1) 4 1) 5 (-1)) 6 1) 7 (-1)) 8 (-1)) 9 1) 10 1) 11 (-1)) 12 2) 13 (-1)) 14 (-1)) 15 1) 16 1) 17 (-1)) 18 4) 21 3) 22 2) 23 (-1))))] := hD
  refine lv_aload_n hx hb dX6_add_140 rfl (lv_at hl 1 rfl) ?_
  refine pcn (b := 141) rfl ?_
  refine va_get (D := D) (ci := 6) (v := .int 4) (C := RX6) (T := TX6) (N := 2) hx hb hts inX6 hown hK hP 0 rfl rfl 1 (by decide) (hts _ wm_157) (fun _ h9 => h9) rfl dX6_add_141 ?_
  refine lv_iconst (v := 1) hx hb dX6_add_144 (by decide +kernel) ?_
  refine lv_isub hx hb dX6_add_145 ?_
  refine nrm (y := 3) (by decide +kernel) ?_
  refine W.widen (k := 0) (n := 0) (Nat.le_of_ble_eq_true rfl) (Nat.le_of_ble_eq_true rfl) ?_
  exact rtI hx hb hr hlocks hS hP hD ⟨rfl, rfl⟩ dX6_add_146

set_option maxHeartbeats 4000000 in
set_option maxRecDepth 100000 in
theorem c_X11_put_3 (l : Launch) (D : va_G) (cI cZ cB cJ : ClassId) (h0 : Nat) : CtV l D (TT cI cZ cB cJ) yX11_put cX11_put 3 none 0 0 0 0 [.ref h0, .int 26, .int 3] [(h0, .inl (cI, 64, .inl (upd (upd (upd (fun _ => (-1)) 31 0) 38 1) 44 2)))] (fun w1 => w1 = [(h0, .inl (cI, 64, .inl (upd (upd (upd (upd (fun _ => (-1)) 31 0) 38 1) 44 2) 26 3)))]) := by
  refine CtV.of (by decide +kernel) (Nat.le_of_ble_eq_true rfl) ?_
  intro p e s m below meth c A ls hx hb hr hml hown hts hnw hlocks hin hA hS hP hK hD hl
  have hown : s.vm.findClass RX11 = some m.cls := hown
  have hl : lv_has ls 3 [(0, .ref h0), (1, .int 26), (2, .int 3)] := hl
  refine lv_iload_n hx hb dX11_put_0 rfl (lv_at hl 1 rfl) ?_
  refine lv_if_lt (tgt := 14) hx hb dX11_put_1 (by decide) (fun h9 => absurd h9 (by decide +kernel)) (fun _ => ?_)
  refine lv_iload_n hx hb dX11_put_4 rfl (lv_at hl 1 rfl) ?_
  refine lv_aload_n hx hb dX11_put_5 rfl (lv_at hl 0 rfl) ?_
  refine va_alen (v := 64) hx hb hK hP 0 0 rfl rfl (by decide +kernel) dX11_put_6 ?_
  refine lv_icmp_ge (tgt := 14) hx hb dX11_put_7 (by decide) (fun h9 => absurd h9 (by decide +kernel)) (fun _ => ?_)
  refine lv_aload_n hx hb dX11_put_10 rfl (lv_at hl 0 rfl) ?_
  refine pcn (b := 11) rfl ?_
  refine lv_iload_n hx hb dX11_put_11 rfl (lv_at hl 1 rfl) ?_
  refine lv_iload_n hx hb dX11_put_12 rfl (lv_at hl 2 rfl) ?_
  refine as_i (k := 26) hx hb hK hP hD hS 0 0 rfl rfl (vpi (by decide +kernel)) (by decide +kernel) dX11_put_13 (fun H locs hP hD hS => ?_)
  have hP : va_P D vwCl [(h0, .inl (cI, 64, .inl (upd (upd (upd (upd (fun _ => (-1)) 31 0) 38 1) 44 2) 26 3)))] H := hP
  have hD : va_D A [(h0, .inl (cI, 64, .inl (upd (upd (upd (upd (fun _ => (-1)) 31 0) 38 1) 44 2) 26 3)))] := hD
  refine W.widen (k := 0) (n := 0) (Nat.le_of_ble_eq_true rfl) (Nat.le_of_ble_eq_true rfl) ?_
  exact rtV hx hb hr hlocks hS hP hD rfl dX11_put_14

set_option maxHeartbeats 4000000 in
set_option maxRecDepth 100000 in
theorem c_X4_find_3 (l : Launch) (D : va_G) (cI cZ cB cJ : ClassId) (h0 h1 h2 h3 : Nat) : CtI l D (TT cI cZ cB cJ) yX4_find cX4_find 10 (some .int) 1 27 0 0 [.ref h0, .int 4, .int 0, .int 0] [(h0, .inr (4, [.ref h2, .ref h1])), (h1, .inl (cI, 64, .inl (upd (upd (upd (fun _ => (-1)) 31 0) 38 1) 44 2))), (h2, .inr (6, [.ref h3, .int 3])), (h3, .inl (cI, 144, .inl (upd (upd (upd (upd (upd (upd (upd (upd (upd (upd (upd (upd (upd (upd (upd (upd (upd (fun _ => 0) 1 (-1)) 2 (-1)) 3 1) 4 1) 5 (-1)) 6 1) 7 (-1)) 8 (-1)) 9 1) 10 1) 11 (-1)) 12 2) 13 (-1)) 14 (-1)) 15 1) 16 1) 17 (-1))))] (fun r w1 => r = 3 ∧ w1 = [(h0, .inr (4, [.ref h2, .ref h1])), (h1, .inl (cI, 64, .inl (upd (upd (upd (upd (fun _ => (-1)) 31 0) 38 1) 44 2) 26 3))), (h2, .inr (6, [.ref h3, .int 4])), (h3, .inl (cI, 144, .inl (upd (upd (upd (upd (upd (upd (upd (upd (upd (upd (upd (upd (upd (upd (upd (upd (upd (upd (upd (upd (upd (fun _ => 0) 1 (-1)) 2 (-1)) 3 1) 4 1) 5 (-1)) 6 1) 7 (-1)) 8 (-1)) 9 1) 10 1) 11 (-1)) 12 2) 13 (-1)) 14 (-1)) 15 1) 16 1) 17 (-1)) 18 4) 21 3) 22 2) 23 (-1))))]) := by
  refine CtI.of (by decide +kernel) (Nat.le_of_ble_eq_true rfl) ?_
  intro p e s m below meth c A ls hx hb hr hml hown hts hnw hlocks hin hA hS hP hK hD hl
  have hown : s.vm.findClass RX4 = some m.cls := hown
  have hl : lv_has ls 10 [(0, .ref h0), (1, .int 4), (2, .int 0), (3, .int 0)] := hl
  refine lv_iload_n hx hb dX4_find_0 rfl (lv_at hl 1 rfl) ?_
  refine lv_iload_n hx hb dX4_find_1 rfl (lv_at hl 2 rfl) ?_
  refine lv_iload_n hx hb dX4_find_2 rfl (lv_at hl 3 rfl) ?_
  refine kSi (As := [.int 4, .int 0, .int 0]) (rest := []) (wr := [(h0, .inr (4, [.ref h2, .ref h1])), (h1, .inl (cI, 64, .inl (upd (upd (upd (fun _ => (-1)) 31 0) 38 1) 44 2))), (h2, .inr (6, [.ref h3, .int 3])), (h3, .inl (cI, 144, .inl (upd (upd (upd (upd (upd (upd (upd (upd (upd (upd (upd (upd (upd (upd (upd (upd (upd (fun _ => 0) 1 (-1)) 2 (-1)) 3 1) 4 1) 5 (-1)) 6 1) 7 (-1)) 8 (-1)) 9 1) 10 1) 11 (-1)) 12 2) 13 (-1)) 14 (-1)) 15 1) 16 1) 17 (-1))))]) hx hb hml hown hts hnw hK hP hD hS hA hl.1 (c_X4_bucketOf_3 l D cI cZ cB cJ) yk_X4_bucketOf wm_184 [] [0, 1, 2, 3] rfl rfl (by decide) (by decide) (by decide) rfl rfl dX4_find_3 ⟨Nat.le_of_ble_eq_true rfl, Nat.le_of_ble_eq_true rfl⟩ ⟨Nat.le_of_ble_eq_true rfl, Nat.le_of_ble_eq_true rfl⟩ (Nat.le_of_ble_eq_true rfl) (fun r9 w1 H locs hq9 hP hD hS => ?_)
  obtain ⟨rfl, rfl⟩ := hq9
  have hP : va_P D vwCl [(h0, .inr (4, [.ref h2, .ref h1])), (h1, .inl (cI, 64, .inl (upd (upd (upd (fun _ => (-1)) 31 0) 38 1) 44 2))), (h2, .inr (6, [.ref h3, .int 3])), (h3, .inl (cI, 144, .inl (upd (upd (upd (upd (upd (upd (upd (upd (upd (upd (upd (upd (upd (upd (upd (upd (upd (fun _ => 0) 1 (-1)) 2 (-1)) 3 1) 4 1) 5 (-1)) 6 1) 7 (-1)) 8 (-1)) 9 1) 10 1) 11 (-1)) 12 2) 13 (-1)) 14 (-1)) 15 1) 16 1) 17 (-1))))] H := hP
  have hD : va_D A [(h0, .inr (4, [.ref h2, .ref h1])), (h1, .inl (cI, 64, .inl (upd (upd (upd (fun _ => (-1)) 31 0) 38 1) 44 2))), (h2, .inr (6, [.ref h3, .int 3])), (h3, .inl (cI, 144, .inl (upd (upd (upd (upd (upd (upd (upd (upd (upd (upd (upd (upd (upd (upd (upd (upd (upd (fun _ => 0) 1 (-1)) 2 (-1)) 3 1) 4 1) 5 (-1)) 6 1) 7 (-1)) 8 (-1)) 9 1) 10 1) 11 (-1)) 12 2) 13 (-1)) 14 (-1)) 15 1) 16 1) 17 (-1))))] := hD
  refine W.widen (k := 0) (n := 0) (Nat.le_of_ble_eq_true rfl) (Nat.le_of_ble_eq_true rfl) ?_
  refine pcn (b := 6) rfl ?_
  refine lv_istore (lv' := [(4, .int 26), (0, .ref h0), (1, .int 4), (2, .int 0), (3, .int 0)]) hx hb dX4_find_6 hl (by decide) rfl (fun ls hl => ?_)
  refine lv_aload_n hx hb dX4_find_8 rfl (lv_at hl 1 rfl) ?_
  refine va_get (D := D) (ci := 4) (v := .ref h1) (C := RX4) (T := TX4) (N := 2) hx hb hts inX4 hown hK hP 0 rfl rfl 1 (by decide) (hts _ wm_174) (fun _ h9 => h9) rfl dX4_find_9 ?_
  refine lv_iload hx hb dX4_find_12 (lv_at hl 0 rfl) ?_
  refine kSNi (As := [.ref h1, .int 26]) (rest := []) (wr := [(h0, .inr (4, [.ref h2, .ref h1])), (h2, .inr (6, [.ref h3, .int 3])), (h3, .inl (cI, 144, .inl (upd (upd (upd (upd (upd (upd (upd (upd (upd (upd (upd (upd (upd (upd (upd (upd (upd (fun _ => 0) 1 (-1)) 2 (-1)) 3 1) 4 1) 5 (-1)) 6 1) 7 (-1)) 8 (-1)) 9 1) 10 1) 11 (-1)) 12 2) 13 (-1)) 14 (-1)) 15 1) 16 1) 17 (-1))))]) hx hb hml hown hts hnw hK hP hD hS hA hl.1 (c_X11_at_3 l D cI cZ cB cJ h1) yk_X11_at wn_187 [1] [0, 2, 3] rfl rfl (by decide) (by decide) (by decide) rfl rfl dX4_find_14 ⟨Nat.le_of_ble_eq_true rfl, Nat.le_of_ble_eq_true rfl⟩ ⟨Nat.le_of_ble_eq_true rfl, Nat.le_of_ble_eq_true rfl⟩ (Nat.le_of_ble_eq_true rfl) (fun r9 w1 H locs hq9 hP hD hS => ?_)
  obtain ⟨rfl, rfl⟩ := hq9
  have hP : va_P D vwCl [(h0, .inr (4, [.ref h2, .ref h1])), (h2, .inr (6, [.ref h3, .int 3])), (h3, .inl (cI, 144, .inl (upd (upd (upd (upd (upd (upd (upd (upd (upd (upd (upd (upd (upd (upd (upd (upd (upd (fun _ => 0) 1 (-1)) 2 (-1)) 3 1) 4 1) 5 (-1)) 6 1) 7 (-1)) 8 (-1)) 9 1) 10 1) 11 (-1)) 12 2) 13 (-1)) 14 (-1)) 15 1) 16 1) 17 (-1)))), (h1, .inl (cI, 64, .inl (upd (upd (upd (fun _ => (-1)) 31 0) 38 1) 44 2)))] H := hP
  have hD : va_D A [(h0, .inr (4, [.ref h2, .ref h1])), (h2, .inr (6, [.ref h3, .int 3])), (h3, .inl (cI, 144, .inl (upd (upd (upd (upd (upd (upd (upd (upd (upd (upd (upd (upd (upd (upd (upd (upd (upd (fun _ => 0) 1 (-1)) 2 (-1)) 3 1) 4 1) 5 (-1)) 6 1) 7 (-1)) 8 (-1)) 9 1) 10 1) 11 (-1)) 12 2) 13 (-1)) 14 (-1)) 15 1) 16 1) 17 (-1)))), (h1, .inl (cI, 64, .inl (upd (upd (upd (fun _ => (-1)) 31 0) 38 1) 44 2)))] := hD
  refine W.widen (k := 0) (n := 0) (Nat.le_of_ble_eq_true rfl) (Nat.le_of_ble_eq_true rfl) ?_
  refine pcn (b := 17) rfl ?_
  refine lv_istore (lv' := [(5, .int (-1)), (4, .int 26), (0, .ref h0), (1, .int 4), (2, .int 0), (3, .int 0)]) hx hb dX4_find_17 hl (by decide) rfl (fun ls hl => ?_)
  refine lv_iload hx hb dX4_find_19 (lv_at hl 0 rfl) ?_
  refine lv_istore (lv' := [(6, .int (-1)), (5, .int (-1)), (4, .int 26), (0, .ref h0), (1, .int 4), (2, .int 0), (3, .int 0)]) hx hb dX4_find_21 hl (by decide) rfl (fun ls hl => ?_)
  refine lv_iconst (v := 0) hx hb dX4_find_23 (by decide +kernel) ?_
  refine lv_istore (lv' := [(7, .int 0), (6, .int (-1)), (5, .int (-1)), (4, .int 26), (0, .ref h0), (1, .int 4), (2, .int 0), (3, .int 0)]) hx hb dX4_find_24 hl (by decide) rfl (fun ls hl => ?_)
  refine lv_iload hx hb dX4_find_26 (lv_at hl 1 rfl) ?_
  refine lv_if_lt (tgt := 74) hx hb dX4_find_28 (by decide) (fun _ => ?_) (fun h9 => absurd (by decide +kernel) h9)
  refine lv_iconst (v := 1) hx hb dX4_find_74 (by decide +kernel) ?_
  refine lv_iconst (v := 0) hx hb dX4_find_75 (by decide +kernel) ?_
  refine lv_aload_n hx hb dX4_find_76 rfl (lv_at hl 4 rfl) ?_
  refine va_get (D := D) (ci := 4) (v := .ref h2) (C := RX4) (T := TX4) (N := 2) hx hb hts inX4 hown hK hP 0 rfl rfl 0 (by decide) (hts _ wm_171) (fun _ h9 => h9) rfl dX4_find_77 ?_
  refine lv_iload_n hx hb dX4_find_80 rfl (lv_at hl 6 rfl) ?_
  refine lv_iconst (v := 3) hx hb dX4_find_81 (by decide +kernel) ?_
  refine kVNi (As := [.int 0, .int 3]) (rest := [.int 0, .int 1]) (wr := [(h0, .inr (4, [.ref h2, .ref h1])), (h1, .inl (cI, 64, .inl (upd (upd (upd (fun _ => (-1)) 31 0) 38 1) 44 2)))]) hx hb hml hown hts hnw hK hP hD hS hA hl.1 (c_X6_get_6 l D cI cZ cB cJ h2 h3) yk_X6_get wn_195 [1, 2] [0, 3] rfl rfl (by decide) (by decide) (by decide) 0 rfl rfl rfl rfl rfl dX4_find_82 ⟨Nat.le_of_ble_eq_true rfl, Nat.le_of_ble_eq_true rfl⟩ ⟨Nat.le_of_ble_eq_true rfl, Nat.le_of_ble_eq_true rfl⟩ (Nat.le_of_ble_eq_true rfl) (fun r9 w1 H locs hq9 hP hD hS => ?_)
  obtain ⟨rfl, rfl⟩ := hq9
  have hP : va_P D vwCl [(h0, .inr (4, [.ref h2, .ref h1])), (h1, .inl (cI, 64, .inl (upd (upd (upd (fun _ => (-1)) 31 0) 38 1) 44 2))), (h2, .inr (6, [.ref h3, .int 3])), (h3, .inl (cI, 144, .inl (upd (upd (upd (upd (upd (upd (upd (upd (upd (upd (upd (upd (upd (upd (upd (upd (upd (fun _ => 0) 1 (-1)) 2 (-1)) 3 1) 4 1) 5 (-1)) 6 1) 7 (-1)) 8 (-1)) 9 1) 10 1) 11 (-1)) 12 2) 13 (-1)) 14 (-1)) 15 1) 16 1) 17 (-1))))] H := hP
  have hD : va_D A [(h0, .inr (4, [.ref h2, .ref h1])), (h1, .inl (cI, 64, .inl (upd (upd (upd (fun _ => (-1)) 31 0) 38 1) 44 2))), (h2, .inr (6, [.ref h3, .int 3])), (h3, .inl (cI, 144, .inl (upd (upd (upd (upd (upd (upd (upd (upd (upd (upd (upd (upd (upd (upd (upd (upd (upd (fun _ => 0) 1 (-1)) 2 (-1)) 3 1) 4 1) 5 (-1)) 6 1) 7 (-1)) 8 (-1)) 9 1) 10 1) 11 (-1)) 12 2) 13 (-1)) 14 (-1)) 15 1) 16 1) 17 (-1))))] := hD
  refine W.widen (k := 0) (n := 0) (Nat.le_of_ble_eq_true rfl) (Nat.le_of_ble_eq_true rfl) ?_
  refine pcn (b := 85) rfl ?_
  refine va_mmax hx hb (hml.trans hl.1.symm) hown (hts _ wm_199) (hts _ wm_154) (hts _ wm_8) (hts _ wm_155) (Nat.le_of_ble_eq_true rfl) (Nat.le_of_ble_eq_true rfl) (Nat.le_of_ble_eq_true rfl) (Nat.le_of_ble_eq_true rfl) dX4_find_85 ?_
  refine nrm (y := 1) (by decide +kernel) ?_
  refine lv_iadd hx hb dX4_find_88 ?_
  refine nrm (y := 2) (by decide +kernel) ?_
  refine lv_iconst (v := 0) hx hb dX4_find_89 (by decide +kernel) ?_
  refine lv_aload_n hx hb dX4_find_90 rfl (lv_at hl 4 rfl) ?_
  refine va_get (D := D) (ci := 4) (v := .ref h2) (C := RX4) (T := TX4) (N := 2) hx hb hts inX4 hown hK hP 0 rfl rfl 0 (by decide) (hts _ wm_171) (fun _ h9 => h9) rfl dX4_find_91 ?_
  refine lv_iload_n hx hb dX4_find_94 rfl (lv_at hl 7 rfl) ?_
  refine lv_iconst (v := 3) hx hb dX4_find_95 (by decide +kernel) ?_
  refine pcn (b := 96) rfl ?_
  refine kVNi (As := [.int 0, .int 3]) (rest := [.int 0, .int 2]) (wr := [(h0, .inr (4, [.ref h2, .ref h1])), (h1, .inl (cI, 64, .inl (upd (upd (upd (fun _ => (-1)) 31 0) 38 1) 44 2)))]) hx hb hml hown hts hnw hK hP hD hS hA hl.1 (c_X6_get_6 l D cI cZ cB cJ h2 h3) yk_X6_get wn_195 [2, 3] [0, 1] rfl rfl (by decide) (by decide) (by decide) 0 rfl rfl rfl rfl rfl dX4_find_96 ⟨Nat.le_of_ble_eq_true rfl, Nat.le_of_ble_eq_true rfl⟩ ⟨Nat.le_of_ble_eq_true rfl, Nat.le_of_ble_eq_true rfl⟩ (Nat.le_of_ble_eq_true rfl) (fun r9 w1 H locs hq9 hP hD hS => ?_)
  obtain ⟨rfl, rfl⟩ := hq9
  have hP : va_P D vwCl [(h0, .inr (4, [.ref h2, .ref h1])), (h1, .inl (cI, 64, .inl (upd (upd (upd (fun _ => (-1)) 31 0) 38 1) 44 2))), (h2, .inr (6, [.ref h3, .int 3])), (h3, .inl (cI, 144, .inl (upd (upd (upd (upd (upd (upd (upd (upd (upd (upd (upd (upd (upd (upd (upd (upd (upd (fun _ => 0) 1 (-1)) 2 (-1)) 3 1) 4 1) 5 (-1)) 6 1) 7 (-1)) 8 (-1)) 9 1) 10 1) 11 (-1)) 12 2) 13 (-1)) 14 (-1)) 15 1) 16 1) 17 (-1))))] H := hP
  have hD : va_D A [(h0, .inr (4, [.ref h2, .ref h1])), (h1, .inl (cI, 64, .inl (upd (upd (upd (fun _ => (-1)) 31 0) 38 1) 44 2))), (h2, .inr (6, [.ref h3, .int 3])), (h3, .inl (cI, 144, .inl (upd (upd (upd (upd (upd (upd (upd (upd (upd (upd (upd (upd (upd (upd (upd (upd (upd (fun _ => 0) 1 (-1)) 2 (-1)) 3 1) 4 1) 5 (-1)) 6 1) 7 (-1)) 8 (-1)) 9 1) 10 1) 11 (-1)) 12 2) 13 (-1)) 14 (-1)) 15 1) 16 1) 17 (-1))))] := hD
  refine W.widen (k := 0) (n := 0) (Nat.le_of_ble_eq_true rfl) (Nat.le_of_ble_eq_true rfl) ?_
  refine pcn (b := 99) rfl ?_
  refine va_mmax hx hb (hml.trans hl.1.symm) hown (hts _ wm_199) (hts _ wm_154) (hts _ wm_8) (hts _ wm_155) (Nat.le_of_ble_eq_true rfl) (Nat.le_of_ble_eq_true rfl) (Nat.le_of_ble_eq_true rfl) (Nat.le_of_ble_eq_true rfl) dX4_find_99 ?_
  refine nrm (y := 1) (by decide +kernel) ?_
  refine lv_iadd hx hb dX4_find_102 ?_
  refine nrm (y := 3) (by decide +kernel) ?_
  refine lv_istore (lv' := [(7, .int 3), (6, .int (-1)), (5, .int (-1)), (4, .int 26), (0, .ref h0), (1, .int 4), (2, .int 0), (3, .int 0)]) hx hb dX4_find_103 hl (by decide) rfl (fun ls hl => ?_)
  refine lv_iconst (v := 1) hx hb dX4_find_105 (by decide +kernel) ?_
  refine lv_aload_n hx hb dX4_find_106 rfl (lv_at hl 4 rfl) ?_
  refine va_get (D := D) (ci := 4) (v := .ref h2) (C := RX4) (T := TX4) (N := 2) hx hb hts inX4 hown hK hP 0 rfl rfl 0 (by decide) (hts _ wm_171) (fun _ h9 => h9) rfl dX4_find_107 ?_
  refine lv_iload_n hx hb dX4_find_110 rfl (lv_at hl 6 rfl) ?_
  refine pcn (b := 111) rfl ?_
  refine lv_iconst (v := 4) hx hb dX4_find_111 (by decide +kernel) ?_
  refine kVNi (As := [.int 0, .int 4]) (rest := [.int 1]) (wr := [(h0, .inr (4, [.ref h2, .ref h1])), (h1, .inl (cI, 64, .inl (upd (upd (upd (fun _ => (-1)) 31 0) 38 1) 44 2)))]) hx hb hml hown hts hnw hK hP hD hS hA hl.1 (c_X6_get_7 l D cI cZ cB cJ h2 h3) yk_X6_get wn_195 [2, 3] [0, 1] rfl rfl (by decide) (by decide) (by decide) 0 rfl rfl rfl rfl rfl dX4_find_112 ⟨Nat.le_of_ble_eq_true rfl, Nat.le_of_ble_eq_true rfl⟩ ⟨Nat.le_of_ble_eq_true rfl, Nat.le_of_ble_eq_true rfl⟩ (Nat.le_of_ble_eq_true rfl) (fun r9 w1 H locs hq9 hP hD hS => ?_)
  obtain ⟨rfl, rfl⟩ := hq9
  have hP : va_P D vwCl [(h0, .inr (4, [.ref h2, .ref h1])), (h1, .inl (cI, 64, .inl (upd (upd (upd (fun _ => (-1)) 31 0) 38 1) 44 2))), (h2, .inr (6, [.ref h3, .int 3])), (h3, .inl (cI, 144, .inl (upd (upd (upd (upd (upd (upd (upd (upd (upd (upd (upd (upd (upd (upd (upd (upd (upd (fun _ => 0) 1 (-1)) 2 (-1)) 3 1) 4 1) 5 (-1)) 6 1) 7 (-1)) 8 (-1)) 9 1) 10 1) 11 (-1)) 12 2) 13 (-1)) 14 (-1)) 15 1) 16 1) 17 (-1))))] H := hP
  have hD : va_D A [(h0, .inr (4, [.ref h2, .ref h1])), (h1, .inl (cI, 64, .inl (upd (upd (upd (fun _ => (-1)) 31 0) 38 1) 44 2))), (h2, .inr (6, [.ref h3, .int 3])), (h3, .inl (cI, 144, .inl (upd (upd (upd (upd (upd (upd (upd (upd (upd (upd (upd (upd (upd (upd (upd (upd (upd (fun _ => 0) 1 (-1)) 2 (-1)) 3 1) 4 1) 5 (-1)) 6 1) 7 (-1)) 8 (-1)) 9 1) 10 1) 11 (-1)) 12 2) 13 (-1)) 14 (-1)) 15 1) 16 1) 17 (-1))))] := hD
  refine W.widen (k := 0) (n := 0) (Nat.le_of_ble_eq_true rfl) (Nat.le_of_ble_eq_true rfl) ?_
  refine pcn (b := 115) rfl ?_
  refine va_mmax hx hb (hml.trans hl.1.symm) hown (hts _ wm_199) (hts _ wm_154) (hts _ wm_8) (hts _ wm_155) (Nat.le_of_ble_eq_true rfl) (Nat.le_of_ble_eq_true rfl) (Nat.le_of_ble_eq_true rfl) (Nat.le_of_ble_eq_true rfl) dX4_find_115 ?_
  refine nrm (y := 1) (by decide +kernel) ?_
  refine lv_istore (lv' := [(8, .int 1), (7, .int 3), (6, .int (-1)), (5, .int (-1)), (4, .int 26), (0, .ref h0), (1, .int 4), (2, .int 0), (3, .int 0)]) hx hb dX4_find_118 hl (by decide) rfl (fun ls hl => ?_)
  refine lv_iload_n hx hb dX4_find_120 rfl (lv_at hl 8 rfl) ?_
  refine lv_if_lt (tgt := 142) hx hb dX4_find_121 (by decide) (fun h9 => absurd h9 (by decide +kernel)) (fun _ => ?_)
  refine lv_iconst (v := 1) hx hb dX4_find_124 (by decide +kernel) ?_
  refine lv_iload hx hb dX4_find_125 (lv_at hl 0 rfl) ?_
  refine lv_aload_n hx hb dX4_find_127 rfl (lv_at hl 5 rfl) ?_
  refine pcn (b := 128) rfl ?_
  refine va_get (D := D) (ci := 4) (v := .ref h2) (C := RX4) (T := TX4) (N := 2) hx hb hts inX4 hown hK hP 0 rfl rfl 0 (by decide) (hts _ wm_171) (fun _ h9 => h9) rfl dX4_find_128 ?_
  refine lv_iload_n hx hb dX4_find_131 rfl (lv_at hl 8 rfl) ?_
  refine lv_iconst (v := 4) hx hb dX4_find_132 (by decide +kernel) ?_
  refine kVNi (As := [.int 0, .int 4]) (rest := [.int 1, .int 1]) (wr := [(h0, .inr (4, [.ref h2, .ref h1])), (h1, .inl (cI, 64, .inl (upd (upd (upd (fun _ => (-1)) 31 0) 38 1) 44 2)))]) hx hb hml hown hts hnw hK hP hD hS hA hl.1 (c_X6_get_7 l D cI cZ cB cJ h2 h3) yk_X6_get wn_195 [2, 3] [0, 1] rfl rfl (by decide) (by decide) (by decide) 0 rfl rfl rfl rfl rfl dX4_find_133 ⟨Nat.le_of_ble_eq_true rfl, Nat.le_of_ble_eq_true rfl⟩ ⟨Nat.le_of_ble_eq_true rfl, Nat.le_of_ble_eq_true rfl⟩ (Nat.le_of_ble_eq_true rfl) (fun r9 w1 H locs hq9 hP hD hS => ?_)
  obtain ⟨rfl, rfl⟩ := hq9
  have hP : va_P D vwCl [(h0, .inr (4, [.ref h2, .ref h1])), (h1, .inl (cI, 64, .inl (upd (upd (upd (fun _ => (-1)) 31 0) 38 1) 44 2))), (h2, .inr (6, [.ref h3, .int 3])), (h3, .inl (cI, 144, .inl (upd (upd (upd (upd (upd (upd (upd (upd (upd (upd (upd (upd (upd (upd (upd (upd (upd (fun _ => 0) 1 (-1)) 2 (-1)) 3 1) 4 1) 5 (-1)) 6 1) 7 (-1)) 8 (-1)) 9 1) 10 1) 11 (-1)) 12 2) 13 (-1)) 14 (-1)) 15 1) 16 1) 17 (-1))))] H := hP
  have hD : va_D A [(h0, .inr (4, [.ref h2, .ref h1])), (h1, .inl (cI, 64, .inl (upd (upd (upd (fun _ => (-1)) 31 0) 38 1) 44 2))), (h2, .inr (6, [.ref h3, .int 3])), (h3, .inl (cI, 144, .inl (upd (upd (upd (upd (upd (upd (upd (upd (upd (upd (upd (upd (upd (upd (upd (upd (upd (fun _ => 0) 1 (-1)) 2 (-1)) 3 1) 4 1) 5 (-1)) 6 1) 7 (-1)) 8 (-1)) 9 1) 10 1) 11 (-1)) 12 2) 13 (-1)) 14 (-1)) 15 1) 16 1) 17 (-1))))] := hD
  refine W.widen (k := 0) (n := 0) (Nat.le_of_ble_eq_true rfl) (Nat.le_of_ble_eq_true rfl) ?_
  refine pcn (b := 136) rfl ?_
  refine va_mmax hx hb (hml.trans hl.1.symm) hown (hts _ wm_199) (hts _ wm_154) (hts _ wm_8) (hts _ wm_155) (Nat.le_of_ble_eq_true rfl) (Nat.le_of_ble_eq_true rfl) (Nat.le_of_ble_eq_true rfl) (Nat.le_of_ble_eq_true rfl) dX4_find_136 ?_
  refine nrm (y := 1) (by decide +kernel) ?_
  refine lv_iadd hx hb dX4_find_139 ?_
  refine nrm (y := 2) (by decide +kernel) ?_
  refine lv_istore (lv' := [(8, .int 2), (7, .int 3), (6, .int (-1)), (5, .int (-1)), (4, .int 26), (0, .ref h0), (1, .int 4), (2, .int 0), (3, .int 0)]) hx hb dX4_find_140 hl (by decide) rfl (fun ls hl => ?_)
  refine lv_aload_n hx hb dX4_find_142 rfl (lv_at hl 5 rfl) ?_
  refine va_get (D := D) (ci := 4) (v := .ref h2) (C := RX4) (T := TX4) (N := 2) hx hb hts inX4 hown hK hP 0 rfl rfl 0 (by decide) (hts _ wm_171) (fun _ h9 => h9) rfl dX4_find_143 ?_
  refine lv_iload_n hx hb dX4_find_146 rfl (lv_at hl 6 rfl) ?_
  refine lv_iload_n hx hb dX4_find_147 rfl (lv_at hl 7 rfl) ?_
  refine pcn (b := 148) rfl ?_
  refine lv_iload_n hx hb dX4_find_148 rfl (lv_at hl 8 rfl) ?_
  refine lv_iload hx hb dX4_find_149 (lv_at hl 1 rfl) ?_
  refine lv_iload hx hb dX4_find_151 (lv_at hl 0 rfl) ?_
  refine lv_iload hx hb dX4_find_153 (lv_at hl 3 rfl) ?_
  refine kVNi (As := [.int 4, .int 0, .int 0, .int 3, .int 2, .int (-1)]) (rest := []) (wr := [(h0, .inr (4, [.ref h2, .ref h1])), (h1, .inl (cI, 64, .inl (upd (upd (upd (fun _ => (-1)) 31 0) 38 1) 44 2)))]) hx hb hml hown hts hnw hK hP hD hS hA hl.1 (c_X6_add_3 l D cI cZ cB cJ h2 h3) yk_X6_add wn_200 [2, 3] [0, 1] rfl rfl (by decide) (by decide) (by decide) 0 rfl rfl rfl rfl rfl dX4_find_155 ⟨Nat.le_of_ble_eq_true rfl, Nat.le_of_ble_eq_true rfl⟩ ⟨Nat.le_of_ble_eq_true rfl, Nat.le_of_ble_eq_true rfl⟩ (Nat.le_of_ble_eq_true rfl) (fun r9 w1 H locs hq9 hP hD hS => ?_)
  obtain ⟨rfl, rfl⟩ := hq9
  have hP : va_P D vwCl [(h0, .inr (4, [.ref h2, .ref h1])), (h1, .inl (cI, 64, .inl (upd (upd (upd (fun _ => (-1)) 31 0) 38 1) 44 2))), (h2, .inr (6, [.ref h3, .int 4])), (h3, .inl (cI, 144, .inl (upd (upd (upd (upd (upd (upd (upd (upd (upd (upd (upd (upd (upd (upd (upd (upd (upd (upd (upd (upd (upd (fun _ => 0) 1 (-1)) 2 (-1)) 3 1) 4 1) 5 (-1)) 6 1) 7 (-1)) 8 (-1)) 9 1) 10 1) 11 (-1)) 12 2) 13 (-1)) 14 (-1)) 15 1) 16 1) 17 (-1)) 18 4) 21 3) 22 2) 23 (-1))))] H := hP
  have hD : va_D A [(h0, .inr (4, [.ref h2, .ref h1])), (h1, .inl (cI, 64, .inl (upd (upd (upd (fun _ => (-1)) 31 0) 38 1) 44 2))), (h2, .inr (6, [.ref h3, .int 4])), (h3, .inl (cI, 144, .inl (upd (upd (upd (upd (upd (upd (upd (upd (upd (upd (upd (upd (upd (upd (upd (upd (upd (upd (upd (upd (upd (fun _ => 0) 1 (-1)) 2 (-1)) 3 1) 4 1) 5 (-1)) 6 1) 7 (-1)) 8 (-1)) 9 1) 10 1) 11 (-1)) 12 2) 13 (-1)) 14 (-1)) 15 1) 16 1) 17 (-1)) 18 4) 21 3) 22 2) 23 (-1))))] := hD
  refine W.widen (k := 0) (n := 0) (Nat.le_of_ble_eq_true rfl) (Nat.le_of_ble_eq_true rfl) ?_
  refine pcn (b := 158) rfl ?_
  refine lv_istore (lv' := [(9, .int 3), (8, .int 2), (7, .int 3), (6, .int (-1)), (5, .int (-1)), (4, .int 26), (0, .ref h0), (1, .int 4), (2, .int 0), (3, .int 0)]) hx hb dX4_find_158 hl (by decide) rfl (fun ls hl => ?_)
  refine lv_iload hx hb dX4_find_160 (lv_at hl 0 rfl) ?_
  refine lv_if_lt (tgt := 176) hx hb dX4_find_162 (by decide) (fun h9 => absurd h9 (by decide +kernel)) (fun _ => ?_)
  refine lv_aload_n hx hb dX4_find_165 rfl (lv_at hl 6 rfl) ?_
  refine va_get (D := D) (ci := 4) (v := .ref h1) (C := RX4) (T := TX4) (N := 2) hx hb hts inX4 hown hK hP 0 rfl rfl 1 (by decide) (hts _ wm_174) (fun _ h9 => h9) rfl dX4_find_166 ?_
  refine lv_iload hx hb dX4_find_169 (lv_at hl 5 rfl) ?_
  refine lv_iload hx hb dX4_find_171 (lv_at hl 0 rfl) ?_
  refine pcn (b := 173) rfl ?_
  refine kSNv (As := [.ref h1, .int 26, .int 3]) (rest := []) (wr := [(h0, .inr (4, [.ref h2, .ref h1])), (h2, .inr (6, [.ref h3, .int 4])), (h3, .inl (cI, 144, .inl (upd (upd (upd (upd (upd (upd (upd (upd (upd (upd (upd (upd (upd (upd (upd (upd (upd (upd (upd (upd (upd (fun _ => 0) 1 (-1)) 2 (-1)) 3 1) 4 1) 5 (-1)) 6 1) 7 (-1)) 8 (-1)) 9 1) 10 1) 11 (-1)) 12 2) 13 (-1)) 14 (-1)) 15 1) 16 1) 17 (-1)) 18 4) 21 3) 22 2) 23 (-1))))]) hx hb hml hown hts hnw hK hP hD hS hA hl.1 (c_X11_put_3 l D cI cZ cB cJ h1) yk_X11_put wn_218 [1] [0, 2, 3] rfl rfl (by decide) (by decide) (by decide) rfl rfl dX4_find_173 ⟨Nat.le_of_ble_eq_true rfl, Nat.le_of_ble_eq_true rfl⟩ ⟨Nat.le_of_ble_eq_true rfl, Nat.le_of_ble_eq_true rfl⟩ (Nat.le_of_ble_eq_true rfl) (fun w1 H locs hq9 hP hD hS => ?_)
  obtain rfl := hq9
  have hP : va_P D vwCl [(h0, .inr (4, [.ref h2, .ref h1])), (h2, .inr (6, [.ref h3, .int 4])), (h3, .inl (cI, 144, .inl (upd (upd (upd (upd (upd (upd (upd (upd (upd (upd (upd (upd (upd (upd (upd (upd (upd (upd (upd (upd (upd (fun _ => 0) 1 (-1)) 2 (-1)) 3 1) 4 1) 5 (-1)) 6 1) 7 (-1)) 8 (-1)) 9 1) 10 1) 11 (-1)) 12 2) 13 (-1)) 14 (-1)) 15 1) 16 1) 17 (-1)) 18 4) 21 3) 22 2) 23 (-1)))), (h1, .inl (cI, 64, .inl (upd (upd (upd (upd (fun _ => (-1)) 31 0) 38 1) 44 2) 26 3)))] H := hP
  have hD : va_D A [(h0, .inr (4, [.ref h2, .ref h1])), (h2, .inr (6, [.ref h3, .int 4])), (h3, .inl (cI, 144, .inl (upd (upd (upd (upd (upd (upd (upd (upd (upd (upd (upd (upd (upd (upd (upd (upd (upd (upd (upd (upd (upd (fun _ => 0) 1 (-1)) 2 (-1)) 3 1) 4 1) 5 (-1)) 6 1) 7 (-1)) 8 (-1)) 9 1) 10 1) 11 (-1)) 12 2) 13 (-1)) 14 (-1)) 15 1) 16 1) 17 (-1)) 18 4) 21 3) 22 2) 23 (-1)))), (h1, .inl (cI, 64, .inl (upd (upd (upd (upd (fun _ => (-1)) 31 0) 38 1) 44 2) 26 3)))] := hD
  refine W.widen (k := 0) (n := 0) (Nat.le_of_ble_eq_true rfl) (Nat.le_of_ble_eq_true rfl) ?_
  refine pcn (b := 176) rfl ?_
  refine lv_iload hx hb dX4_find_176 (lv_at hl 0 rfl) ?_
  refine W.widen (k := 0) (n := 0) (Nat.le_of_ble_eq_true rfl) (Nat.le_of_ble_eq_true rfl) ?_
  have hP := hP.sub (ws' := [(h0, .inr (4, [.ref h2, .ref h1])), (h1, .inl (cI, 64, .inl (upd (upd (upd (upd (fun _ => (-1)) 31 0) 38 1) 44 2) 26 3))), (h2, .inr (6, [.ref h3, .int 4])), (h3, .inl (cI, 144, .inl (upd (upd (upd (upd (upd (upd (upd (upd (upd (upd (upd (upd (upd (upd (upd (upd (upd (upd (upd (upd (upd (fun _ => 0) 1 (-1)) 2 (-1)) 3 1) 4 1) 5 (-1)) 6 1) 7 (-1)) 8 (-1)) 9 1) 10 1) 11 (-1)) 12 2) 13 (-1)) 14 (-1)) 15 1) 16 1) 17 (-1)) 18 4) 21 3) 22 2) 23 (-1))))]) [0, 3, 1, 2] rfl
  have hD := hD.sub (ws' := [(h0, .inr (4, [.ref h2, .ref h1])), (h1, .inl (cI, 64, .inl (upd (upd (upd (upd (fun _ => (-1)) 31 0) 38 1) 44 2) 26 3))), (h2, .inr (6, [.ref h3, .int 4])), (h3, .inl (cI, 144, .inl (upd (upd (upd (upd (upd (upd (upd (upd (upd (upd (upd (upd (upd (upd (upd (upd (upd (upd (upd (upd (upd (fun _ => 0) 1 (-1)) 2 (-1)) 3 1) 4 1) 5 (-1)) 6 1) 7 (-1)) 8 (-1)) 9 1) 10 1) 11 (-1)) 12 2) 13 (-1)) 14 (-1)) 15 1) 16 1) 17 (-1)) 18 4) 21 3) 22 2) 23 (-1))))]) [0, 3, 1, 2] (by decide) rfl
  exact rtI hx hb hr hlocks hS hP hD ⟨rfl, rfl⟩ dX4_find_178

set_option maxHeartbeats 4000000 in
set_option maxRecDepth 100000 in
theorem c_X9_init_0 (l : Launch) (D : va_G) (cI cZ cB cJ : ClassId) (h0 : Nat) : CtV l D (TT cI cZ cB cJ) yX9_init cX9_init 1 none 3 62 4 212 [.ref h0] [(h0, .inr (9, [.null, .null]))] (fun w1 => ∃ (q0 q1 q2 q3 : Nat), w1 = [(h0, .inr (9, [.ref q0, .ref q1])), (q0, .inr (4, [.ref q1, .ref q3])), (q1, .inr (6, [.ref q2, .int 4])), (q2, .inl (cI, 144, .inl (upd (upd (upd (upd (upd (upd (upd (upd (upd (upd (upd (upd (upd (upd (upd (upd (upd (upd (upd (upd (upd (fun _ => 0) 1 (-1)) 2 (-1)) 3 1) 4 1) 5 (-1)) 6 1) 7 (-1)) 8 (-1)) 9 1) 10 1) 11 (-1)) 12 2) 13 (-1)) 14 (-1)) 15 1) 16 1) 17 (-1)) 18 4) 21 3) 22 2) 23 (-1))))]) := by
  refine CtV.of (by decide +kernel) (Nat.le_of_ble_eq_true rfl) ?_
  intro p e s m below meth c A ls hx hb hr hml hown hts hnw hlocks hin hA hS hP hK hD hl
  have hown : s.vm.findClass RX9 = some m.cls := hown
  have hl : lv_has ls 1 [(0, .ref h0)] := hl
  have hin : meth.name = "<init>" := hin
  refine lv_aload_n hx hb dX9_init_0 rfl (lv_at hl 0 rfl) ?_
  refine W.objInit hx hb hown (hts _ wm_136) (hts _ wm_27) (hts _ wm_28) rfl (by rw [hml]; exact hl.1) rfl dX9_init_1 (Nat.le_of_ble_eq_true rfl) (Nat.le_of_ble_eq_true rfl) ?_
  refine W.eq (g2 := F0 m 4 ls []) rfl ?_
  refine lv_aload_n hx hb dX9_init_4 rfl (lv_at hl 0 rfl) ?_
  refine va_new (ci := 4) (fs := [.null, .null]) (C := RX4) (T := TX4) (N := 2) hx hb hts inX4 tyX4 tyX4_ok hown (hts _ wm_137) (hts _ wm_138) (hts _ wm_6) hK hP hD hS hA rfl df_X4 (Nat.le_of_ble_eq_true rfl) (Nat.le_of_ble_eq_true rfl) dX9_init_5 (fun q0 H hP hD hS => ?_)
  have hP : va_P D vwCl [(h0, .inr (9, [.null, .null])), (q0, .inr (4, [.null, .null]))] H := hP
  have hD : va_D A [(h0, .inr (9, [.null, .null])), (q0, .inr (4, [.null, .null]))] := hD
  refine W.widen (k := 1) (n := 2) (Nat.le_of_ble_eq_true rfl) (Nat.le_of_ble_eq_true rfl) ?_
  refine lv_dup hx hb dX9_init_8 rfl ?_
  refine kINv (As := []) (rest := [.ref q0, .ref h0]) (wr := [(h0, .inr (9, [.null, .null]))]) hx hb hml hown hts hnw hK hP hD hS hA hl.1 (c_X4_init_0 l D cI cZ cB cJ q0) yk_X4_init wn_139 [1] [0] rfl rfl (by decide) (by decide) (by decide) rfl rfl dX9_init_9 ⟨Nat.le_of_ble_eq_true rfl, Nat.le_of_ble_eq_true rfl⟩ ⟨Nat.le_of_ble_eq_true rfl, Nat.le_of_ble_eq_true rfl⟩ (Nat.le_of_ble_eq_true rfl) (fun w1 H locs hq9 hP hD hS => ?_)
  obtain ⟨q1, q2, q3, rfl⟩ := hq9
  have hP : va_P D vwCl [(h0, .inr (9, [.null, .null])), (q0, .inr (4, [.ref q1, .ref q3])), (q1, .inr (6, [.ref q2, .int 0])), (q2, .inl (cI, 144, .inl (fun _ => 0))), (q3, .inl (cI, 64, .inl (fun _ => (-1))))] H := hP
  have hD : va_D A [(h0, .inr (9, [.null, .null])), (q0, .inr (4, [.ref q1, .ref q3])), (q1, .inr (6, [.ref q2, .int 0])), (q2, .inl (cI, 144, .inl (fun _ => 0))), (q3, .inl (cI, 64, .inl (fun _ => (-1))))] := hD
  refine W.widen (k := 4) (n := 212) (Nat.le_of_ble_eq_true rfl) (Nat.le_of_ble_eq_true rfl) ?_
  refine pcn (b := 12) rfl ?_
  refine va_putF (D := D) (ci := 9) (v := .ref q0) (ty := (.object "GradualCheck$Pool")) (C := RX9) (T := TX9) (N := 2) hx hb hts inX9 tyX9 tyX9_ok nmX9 hown hK hP hD hS 0 rfl rfl 0 (by decide) (hts _ wm_221) (fun _ h9 => h9) rfl hin rfl (by decide +kernel) rfl rfl (Nat.le_of_ble_eq_true rfl) dX9_init_12 (fun H locs hP hD hS => ?_)
  have hP : va_P D vwCl [(h0, .inr (9, [.ref q0, .null])), (q0, .inr (4, [.ref q1, .ref q3])), (q1, .inr (6, [.ref q2, .int 0])), (q2, .inl (cI, 144, .inl (fun _ => 0))), (q3, .inl (cI, 64, .inl (fun _ => (-1))))] H := hP
  have hD : va_D A [(h0, .inr (9, [.ref q0, .null])), (q0, .inr (4, [.ref q1, .ref q3])), (q1, .inr (6, [.ref q2, .int 0])), (q2, .inl (cI, 144, .inl (fun _ => 0))), (q3, .inl (cI, 64, .inl (fun _ => (-1))))] := hD
  refine lv_aload_n hx hb dX9_init_15 rfl (lv_at hl 0 rfl) ?_
  refine lv_aload_n hx hb dX9_init_16 rfl (lv_at hl 0 rfl) ?_
  refine va_get (D := D) (ci := 9) (v := .ref q0) (C := RX9) (T := TX9) (N := 2) hx hb hts inX9 hown hK hP 0 rfl rfl 0 (by decide) (hts _ wm_221) (fun _ h9 => h9) rfl dX9_init_17 ?_
  refine va_getN (D := D) (ci := 4) (v := .ref q1) (C := RX4) (T := TX4) (N := 2) hx hb hts inX4 hown hK hP 1 rfl rfl 0 (by decide) (va_Nw.use rfl (hnw _ wn_172)) (fun _ h9 => h9) rfl dX9_init_20 ?_
  refine va_putF (D := D) (ci := 9) (v := .ref q1) (ty := (.object "GradualCheck$Table")) (C := RX9) (T := TX9) (N := 2) hx hb hts inX9 tyX9 tyX9_ok nmX9 hown hK hP hD hS 0 rfl rfl 1 (by decide) (hts _ wm_225) (fun _ h9 => h9) rfl hin rfl (by decide +kernel) rfl rfl (Nat.le_of_ble_eq_true rfl) dX9_init_23 (fun H locs hP hD hS => ?_)
  have hP : va_P D vwCl [(h0, .inr (9, [.ref q0, .ref q1])), (q0, .inr (4, [.ref q1, .ref q3])), (q1, .inr (6, [.ref q2, .int 0])), (q2, .inl (cI, 144, .inl (fun _ => 0))), (q3, .inl (cI, 64, .inl (fun _ => (-1))))] H := hP
  have hD : va_D A [(h0, .inr (9, [.ref q0, .ref q1])), (q0, .inr (4, [.ref q1, .ref q3])), (q1, .inr (6, [.ref q2, .int 0])), (q2, .inl (cI, 144, .inl (fun _ => 0))), (q3, .inl (cI, 64, .inl (fun _ => (-1))))] := hD
  refine lv_aload_n hx hb dX9_init_26 rfl (lv_at hl 0 rfl) ?_
  refine pcn (b := 27) rfl ?_
  refine va_get (D := D) (ci := 9) (v := .ref q0) (C := RX9) (T := TX9) (N := 2) hx hb hts inX9 hown hK hP 0 rfl rfl 0 (by decide) (hts _ wm_221) (fun _ h9 => h9) rfl dX9_init_27 ?_
  refine lv_iconst (v := 0) hx hb dX9_init_30 (by decide +kernel) ?_
  refine lv_iconst (v := (-1)) hx hb dX9_init_31 (by decide +kernel) ?_
  refine lv_iconst (v := (-1)) hx hb dX9_init_32 (by decide +kernel) ?_
  refine kVNi (As := [.int 0, .int (-1), .int (-1)]) (rest := []) (wr := [(h0, .inr (9, [.ref q0, .ref q1]))]) hx hb hml hown hts hnw hK hP hD hS hA hl.1 (c_X4_find_0 l D cI cZ cB cJ q0 q3 q1 q2) yk_X4_find wn_180 [1, 4, 2, 3] [0] rfl rfl (by decide) (by decide) (by decide) 0 rfl rfl rfl rfl rfl dX9_init_33 ⟨Nat.le_of_ble_eq_true rfl, Nat.le_of_ble_eq_true rfl⟩ ⟨Nat.le_of_ble_eq_true rfl, Nat.le_of_ble_eq_true rfl⟩ (Nat.le_of_ble_eq_true rfl) (fun r9 w1 H locs hq9 hP hD hS => ?_)
  obtain ⟨rfl, rfl⟩ := hq9
  have hP : va_P D vwCl [(h0, .inr (9, [.ref q0, .ref q1])), (q0, .inr (4, [.ref q1, .ref q3])), (q3, .inl (cI, 64, .inl (upd (fun _ => (-1)) 31 0))), (q1, .inr (6, [.ref q2, .int 1])), (q2, .inl (cI, 144, .inl (upd (upd (upd (upd (upd (fun _ => 0) 1 (-1)) 2 (-1)) 3 1) 4 1) 5 (-1))))] H := hP
  have hD : va_D A [(h0, .inr (9, [.ref q0, .ref q1])), (q0, .inr (4, [.ref q1, .ref q3])), (q3, .inl (cI, 64, .inl (upd (fun _ => (-1)) 31 0))), (q1, .inr (6, [.ref q2, .int 1])), (q2, .inl (cI, 144, .inl (upd (upd (upd (upd (upd (fun _ => 0) 1 (-1)) 2 (-1)) 3 1) 4 1) 5 (-1))))] := hD
  refine W.widen (k := 4) (n := 212) (Nat.le_of_ble_eq_true rfl) (Nat.le_of_ble_eq_true rfl) ?_
  refine pcn (b := 36) rfl ?_
  refine lv_pop hx hb dX9_init_36 rfl ?_
  refine lv_aload_n hx hb dX9_init_37 rfl (lv_at hl 0 rfl) ?_
  refine va_get (D := D) (ci := 9) (v := .ref q0) (C := RX9) (T := TX9) (N := 2) hx hb hts inX9 hown hK hP 0 rfl rfl 0 (by decide) (hts _ wm_221) (fun _ h9 => h9) rfl dX9_init_38 ?_
  refine lv_iconst (v := 1) hx hb dX9_init_41 (by decide +kernel) ?_
  refine lv_iconst (v := (-1)) hx hb dX9_init_42 (by decide +kernel) ?_
  refine lv_iconst (v := (-1)) hx hb dX9_init_43 (by decide +kernel) ?_
  refine kVNi (As := [.int 1, .int (-1), .int (-1)]) (rest := []) (wr := [(h0, .inr (9, [.ref q0, .ref q1]))]) hx hb hml hown hts hnw hK hP hD hS hA hl.1 (c_X4_find_1 l D cI cZ cB cJ q0 q3 q1 q2) yk_X4_find wn_180 [1, 2, 3, 4] [0] rfl rfl (by decide) (by decide) (by decide) 0 rfl rfl rfl rfl rfl dX9_init_44 ⟨Nat.le_of_ble_eq_true rfl, Nat.le_of_ble_eq_true rfl⟩ ⟨Nat.le_of_ble_eq_true rfl, Nat.le_of_ble_eq_true rfl⟩ (Nat.le_of_ble_eq_true rfl) (fun r9 w1 H locs hq9 hP hD hS => ?_)
  obtain ⟨rfl, rfl⟩ := hq9
  have hP : va_P D vwCl [(h0, .inr (9, [.ref q0, .ref q1])), (q0, .inr (4, [.ref q1, .ref q3])), (q3, .inl (cI, 64, .inl (upd (upd (fun _ => (-1)) 31 0) 38 1))), (q1, .inr (6, [.ref q2, .int 2])), (q2, .inl (cI, 144, .inl (upd (upd (upd (upd (upd (upd (upd (upd (upd (upd (upd (fun _ => 0) 1 (-1)) 2 (-1)) 3 1) 4 1) 5 (-1)) 6 1) 7 (-1)) 8 (-1)) 9 1) 10 1) 11 (-1))))] H := hP
  have hD : va_D A [(h0, .inr (9, [.ref q0, .ref q1])), (q0, .inr (4, [.ref q1, .ref q3])), (q3, .inl (cI, 64, .inl (upd (upd (fun _ => (-1)) 31 0) 38 1))), (q1, .inr (6, [.ref q2, .int 2])), (q2, .inl (cI, 144, .inl (upd (upd (upd (upd (upd (upd (upd (upd (upd (upd (upd (fun _ => 0) 1 (-1)) 2 (-1)) 3 1) 4 1) 5 (-1)) 6 1) 7 (-1)) 8 (-1)) 9 1) 10 1) 11 (-1))))] := hD
  refine W.widen (k := 4) (n := 212) (Nat.le_of_ble_eq_true rfl) (Nat.le_of_ble_eq_true rfl) ?_
  refine pcn (b := 47) rfl ?_
  refine lv_pop hx hb dX9_init_47 rfl ?_
  refine lv_aload_n hx hb dX9_init_48 rfl (lv_at hl 0 rfl) ?_
  refine va_get (D := D) (ci := 9) (v := .ref q0) (C := RX9) (T := TX9) (N := 2) hx hb hts inX9 hown hK hP 0 rfl rfl 0 (by decide) (hts _ wm_221) (fun _ h9 => h9) rfl dX9_init_49 ?_
  refine lv_iconst (v := 2) hx hb dX9_init_52 (by decide +kernel) ?_
  refine lv_iconst (v := (-1)) hx hb dX9_init_53 (by decide +kernel) ?_
  refine lv_iconst (v := (-1)) hx hb dX9_init_54 (by decide +kernel) ?_
  refine kVNi (As := [.int 2, .int (-1), .int (-1)]) (rest := []) (wr := [(h0, .inr (9, [.ref q0, .ref q1]))]) hx hb hml hown hts hnw hK hP hD hS hA hl.1 (c_X4_find_2 l D cI cZ cB cJ q0 q3 q1 q2) yk_X4_find wn_180 [1, 2, 3, 4] [0] rfl rfl (by decide) (by decide) (by decide) 0 rfl rfl rfl rfl rfl dX9_init_55 ⟨Nat.le_of_ble_eq_true rfl, Nat.le_of_ble_eq_true rfl⟩ ⟨Nat.le_of_ble_eq_true rfl, Nat.le_of_ble_eq_true rfl⟩ (Nat.le_of_ble_eq_true rfl) (fun r9 w1 H locs hq9 hP hD hS => ?_)
  obtain ⟨rfl, rfl⟩ := hq9
  have hP : va_P D vwCl [(h0, .inr (9, [.ref q0, .ref q1])), (q0, .inr (4, [.ref q1, .ref q3])), (q3, .inl (cI, 64, .inl (upd (upd (upd (fun _ => (-1)) 31 0) 38 1) 44 2))), (q1, .inr (6, [.ref q2, .int 3])), (q2, .inl (cI, 144, .inl (upd (upd (upd (upd (upd (upd (upd (upd (upd (upd (upd (upd (upd (upd (upd (upd (upd (fun _ => 0) 1 (-1)) 2 (-1)) 3 1) 4 1) 5 (-1)) 6 1) 7 (-1)) 8 (-1)) 9 1) 10 1) 11 (-1)) 12 2) 13 (-1)) 14 (-1)) 15 1) 16 1) 17 (-1))))] H := hP
  have hD : va_D A [(h0, .inr (9, [.ref q0, .ref q1])), (q0, .inr (4, [.ref q1, .ref q3])), (q3, .inl (cI, 64, .inl (upd (upd (upd (fun _ => (-1)) 31 0) 38 1) 44 2))), (q1, .inr (6, [.ref q2, .int 3])), (q2, .inl (cI, 144, .inl (upd (upd (upd (upd (upd (upd (upd (upd (upd (upd (upd (upd (upd (upd (upd (upd (upd (fun _ => 0) 1 (-1)) 2 (-1)) 3 1) 4 1) 5 (-1)) 6 1) 7 (-1)) 8 (-1)) 9 1) 10 1) 11 (-1)) 12 2) 13 (-1)) 14 (-1)) 15 1) 16 1) 17 (-1))))] := hD
  refine W.widen (k := 4) (n := 212) (Nat.le_of_ble_eq_true rfl) (Nat.le_of_ble_eq_true rfl) ?_
  refine pcn (b := 58) rfl ?_
  refine lv_pop hx hb dX9_init_58 rfl ?_
  refine lv_aload_n hx hb dX9_init_59 rfl (lv_at hl 0 rfl) ?_
  refine va_get (D := D) (ci := 9) (v := .ref q0) (C := RX9) (T := TX9) (N := 2) hx hb hts inX9 hown hK hP 0 rfl rfl 0 (by decide) (hts _ wm_221) (fun _ h9 => h9) rfl dX9_init_60 ?_
  refine lv_iconst (v := 4) hx hb dX9_init_63 (by decide +kernel) ?_
  refine lv_iconst (v := 0) hx hb dX9_init_64 (by decide +kernel) ?_
  refine lv_iconst (v := 0) hx hb dX9_init_65 (by decide +kernel) ?_
  refine kVNi (As := [.int 4, .int 0, .int 0]) (rest := []) (wr := [(h0, .inr (9, [.ref q0, .ref q1]))]) hx hb hml hown hts hnw hK hP hD hS hA hl.1 (c_X4_find_3 l D cI cZ cB cJ q0 q3 q1 q2) yk_X4_find wn_180 [1, 2, 3, 4] [0] rfl rfl (by decide) (by decide) (by decide) 0 rfl rfl rfl rfl rfl dX9_init_66 ⟨Nat.le_of_ble_eq_true rfl, Nat.le_of_ble_eq_true rfl⟩ ⟨Nat.le_of_ble_eq_true rfl, Nat.le_of_ble_eq_true rfl⟩ (Nat.le_of_ble_eq_true rfl) (fun r9 w1 H locs hq9 hP hD hS => ?_)
  obtain ⟨rfl, rfl⟩ := hq9
  have hP := hP.sub (ws' := [(h0, .inr (9, [.ref q0, .ref q1])), (q0, .inr (4, [.ref q1, .ref q3])), (q1, .inr (6, [.ref q2, .int 4])), (q2, .inl (cI, 144, .inl (upd (upd (upd (upd (upd (upd (upd (upd (upd (upd (upd (upd (upd (upd (upd (upd (upd (upd (upd (upd (upd (fun _ => 0) 1 (-1)) 2 (-1)) 3 1) 4 1) 5 (-1)) 6 1) 7 (-1)) 8 (-1)) 9 1) 10 1) 11 (-1)) 12 2) 13 (-1)) 14 (-1)) 15 1) 16 1) 17 (-1)) 18 4) 21 3) 22 2) 23 (-1))))]) [0, 1, 3, 4] rfl
  have hD := hD.sub (ws' := [(h0, .inr (9, [.ref q0, .ref q1])), (q0, .inr (4, [.ref q1, .ref q3])), (q1, .inr (6, [.ref q2, .int 4])), (q2, .inl (cI, 144, .inl (upd (upd (upd (upd (upd (upd (upd (upd (upd (upd (upd (upd (upd (upd (upd (upd (upd (upd (upd (upd (upd (fun _ => 0) 1 (-1)) 2 (-1)) 3 1) 4 1) 5 (-1)) 6 1) 7 (-1)) 8 (-1)) 9 1) 10 1) 11 (-1)) 12 2) 13 (-1)) 14 (-1)) 15 1) 16 1) 17 (-1)) 18 4) 21 3) 22 2) 23 (-1))))]) [0, 1, 3, 4] (by decide) rfl
  have hP : va_P D vwCl [(h0, .inr (9, [.ref q0, .ref q1])), (q0, .inr (4, [.ref q1, .ref q3])), (q1, .inr (6, [.ref q2, .int 4])), (q2, .inl (cI, 144, .inl (upd (upd (upd (upd (upd (upd (upd (upd (upd (upd (upd (upd (upd (upd (upd (upd (upd (upd (upd (upd (upd (fun _ => 0) 1 (-1)) 2 (-1)) 3 1) 4 1) 5 (-1)) 6 1) 7 (-1)) 8 (-1)) 9 1) 10 1) 11 (-1)) 12 2) 13 (-1)) 14 (-1)) 15 1) 16 1) 17 (-1)) 18 4) 21 3) 22 2) 23 (-1))))] H := hP
  have hD : va_D A [(h0, .inr (9, [.ref q0, .ref q1])), (q0, .inr (4, [.ref q1, .ref q3])), (q1, .inr (6, [.ref q2, .int 4])), (q2, .inl (cI, 144, .inl (upd (upd (upd (upd (upd (upd (upd (upd (upd (upd (upd (upd (upd (upd (upd (upd (upd (upd (upd (upd (upd (fun _ => 0) 1 (-1)) 2 (-1)) 3 1) 4 1) 5 (-1)) 6 1) 7 (-1)) 8 (-1)) 9 1) 10 1) 11 (-1)) 12 2) 13 (-1)) 14 (-1)) 15 1) 16 1) 17 (-1)) 18 4) 21 3) 22 2) 23 (-1))))] := hD
  refine W.widen (k := 4) (n := 212) (Nat.le_of_ble_eq_true rfl) (Nat.le_of_ble_eq_true rfl) ?_
  refine pcn (b := 69) rfl ?_
  refine lv_pop hx hb dX9_init_69 rfl ?_
  refine W.widen (k := 4) (n := 212) (Nat.le_of_ble_eq_true rfl) (Nat.le_of_ble_eq_true rfl) ?_
  exact rtV hx hb hr hlocks hS hP hD ⟨q0, q1, q2, q3, rfl⟩ dX9_init_70

set_option maxHeartbeats 4000000 in
set_option maxRecDepth 100000 in
theorem c_X2_init_0 (l : Launch) (D : va_G) (cI cZ cB cJ : ClassId) (h0 : Nat) : CtV l D (TT cI cZ cB cJ) yX2_init cX2_init 1 none 3 62 4 212 [.ref h0] [(h0, .inr (2, [.null, .null]))] (fun w1 => ∃ (q0 q1 q2 q3 : Nat), w1 = [(h0, .inr (2, [.ref q0, .ref q1])), (q0, .inr (4, [.ref q1, .ref q3])), (q1, .inr (6, [.ref q2, .int 3]))]) := by
  refine CtV.of (by decide +kernel) (Nat.le_of_ble_eq_true rfl) ?_
  intro p e s m below meth c A ls hx hb hr hml hown hts hnw hlocks hin hA hS hP hK hD hl
  have hown : s.vm.findClass RX2 = some m.cls := hown
  have hl : lv_has ls 1 [(0, .ref h0)] := hl
  have hin : meth.name = "<init>" := hin
  refine lv_aload_n hx hb dX2_init_0 rfl (lv_at hl 0 rfl) ?_
  refine W.objInit hx hb hown (hts _ wm_238) (hts _ wm_27) (hts _ wm_28) rfl (by rw [hml]; exact hl.1) rfl dX2_init_1 (Nat.le_of_ble_eq_true rfl) (Nat.le_of_ble_eq_true rfl) ?_
  refine W.eq (g2 := F0 m 4 ls []) rfl ?_
  refine lv_aload_n hx hb dX2_init_4 rfl (lv_at hl 0 rfl) ?_
  refine va_new (ci := 4) (fs := [.null, .null]) (C := RX4) (T := TX4) (N := 2) hx hb hts inX4 tyX4 tyX4_ok hown (hts _ wm_239) (hts _ wm_138) (hts _ wm_6) hK hP hD hS hA rfl df_X4 (Nat.le_of_ble_eq_true rfl) (Nat.le_of_ble_eq_true rfl) dX2_init_5 (fun q0 H hP hD hS => ?_)
  have hP : va_P D vwCl [(h0, .inr (2, [.null, .null])), (q0, .inr (4, [.null, .null]))] H := hP
  have hD : va_D A [(h0, .inr (2, [.null, .null])), (q0, .inr (4, [.null, .null]))] := hD
  refine W.widen (k := 1) (n := 2) (Nat.le_of_ble_eq_true rfl) (Nat.le_of_ble_eq_true rfl) ?_
  refine lv_dup hx hb dX2_init_8 rfl ?_
  refine kINv (As := []) (rest := [.ref q0, .ref h0]) (wr := [(h0, .inr (2, [.null, .null]))]) hx hb hml hown hts hnw hK hP hD hS hA hl.1 (c_X4_init_0 l D cI cZ cB cJ q0) yk_X4_init wn_240 [1] [0] rfl rfl (by decide) (by decide) (by decide) rfl rfl dX2_init_9 ⟨Nat.le_of_ble_eq_true rfl, Nat.le_of_ble_eq_true rfl⟩ ⟨Nat.le_of_ble_eq_true rfl, Nat.le_of_ble_eq_true rfl⟩ (Nat.le_of_ble_eq_true rfl) (fun w1 H locs hq9 hP hD hS => ?_)
  obtain ⟨q1, q2, q3, rfl⟩ := hq9
  have hP : va_P D vwCl [(h0, .inr (2, [.null, .null])), (q0, .inr (4, [.ref q1, .ref q3])), (q1, .inr (6, [.ref q2, .int 0])), (q2, .inl (cI, 144, .inl (fun _ => 0))), (q3, .inl (cI, 64, .inl (fun _ => (-1))))] H := hP
  have hD : va_D A [(h0, .inr (2, [.null, .null])), (q0, .inr (4, [.ref q1, .ref q3])), (q1, .inr (6, [.ref q2, .int 0])), (q2, .inl (cI, 144, .inl (fun _ => 0))), (q3, .inl (cI, 64, .inl (fun _ => (-1))))] := hD
  refine W.widen (k := 4) (n := 212) (Nat.le_of_ble_eq_true rfl) (Nat.le_of_ble_eq_true rfl) ?_
  refine pcn (b := 12) rfl ?_
  refine va_putF (D := D) (ci := 2) (v := .ref q0) (ty := (.object "GradualCheck$Pool")) (C := RX2) (T := TX2) (N := 2) hx hb hts inX2 tyX2 tyX2_ok nmX2 hown hK hP hD hS 0 rfl rfl 0 (by decide) (hts _ wm_242) (fun _ h9 => h9) rfl hin rfl (by decide +kernel) rfl rfl (Nat.le_of_ble_eq_true rfl) dX2_init_12 (fun H locs hP hD hS => ?_)
  have hP : va_P D vwCl [(h0, .inr (2, [.ref q0, .null])), (q0, .inr (4, [.ref q1, .ref q3])), (q1, .inr (6, [.ref q2, .int 0])), (q2, .inl (cI, 144, .inl (fun _ => 0))), (q3, .inl (cI, 64, .inl (fun _ => (-1))))] H := hP
  have hD : va_D A [(h0, .inr (2, [.ref q0, .null])), (q0, .inr (4, [.ref q1, .ref q3])), (q1, .inr (6, [.ref q2, .int 0])), (q2, .inl (cI, 144, .inl (fun _ => 0))), (q3, .inl (cI, 64, .inl (fun _ => (-1))))] := hD
  refine lv_aload_n hx hb dX2_init_15 rfl (lv_at hl 0 rfl) ?_
  refine lv_aload_n hx hb dX2_init_16 rfl (lv_at hl 0 rfl) ?_
  refine va_get (D := D) (ci := 2) (v := .ref q0) (C := RX2) (T := TX2) (N := 2) hx hb hts inX2 hown hK hP 0 rfl rfl 0 (by decide) (hts _ wm_242) (fun _ h9 => h9) rfl dX2_init_17 ?_
  refine va_getN (D := D) (ci := 4) (v := .ref q1) (C := RX4) (T := TX4) (N := 2) hx hb hts inX4 hown hK hP 1 rfl rfl 0 (by decide) (va_Nw.use rfl (hnw _ wn_173)) (fun _ h9 => h9) rfl dX2_init_20 ?_
  refine va_putF (D := D) (ci := 2) (v := .ref q1) (ty := (.object "GradualCheck$Table")) (C := RX2) (T := TX2) (N := 2) hx hb hts inX2 tyX2 tyX2_ok nmX2 hown hK hP hD hS 0 rfl rfl 1 (by decide) (hts _ wm_246) (fun _ h9 => h9) rfl hin rfl (by decide +kernel) rfl rfl (Nat.le_of_ble_eq_true rfl) dX2_init_23 (fun H locs hP hD hS => ?_)
  have hP : va_P D vwCl [(h0, .inr (2, [.ref q0, .ref q1])), (q0, .inr (4, [.ref q1, .ref q3])), (q1, .inr (6, [.ref q2, .int 0])), (q2, .inl (cI, 144, .inl (fun _ => 0))), (q3, .inl (cI, 64, .inl (fun _ => (-1))))] H := hP
  have hD : va_D A [(h0, .inr (2, [.ref q0, .ref q1])), (q0, .inr (4, [.ref q1, .ref q3])), (q1, .inr (6, [.ref q2, .int 0])), (q2, .inl (cI, 144, .inl (fun _ => 0))), (q3, .inl (cI, 64, .inl (fun _ => (-1))))] := hD
  refine lv_aload_n hx hb dX2_init_26 rfl (lv_at hl 0 rfl) ?_
  refine pcn (b := 27) rfl ?_
  refine va_get (D := D) (ci := 2) (v := .ref q0) (C := RX2) (T := TX2) (N := 2) hx hb hts inX2 hown hK hP 0 rfl rfl 0 (by decide) (hts _ wm_242) (fun _ h9 => h9) rfl dX2_init_27 ?_
  refine lv_iconst (v := 0) hx hb dX2_init_30 (by decide +kernel) ?_
  refine lv_iconst (v := (-1)) hx hb dX2_init_31 (by decide +kernel) ?_
  refine lv_iconst (v := (-1)) hx hb dX2_init_32 (by decide +kernel) ?_
  refine kVNi (As := [.int 0, .int (-1), .int (-1)]) (rest := []) (wr := [(h0, .inr (2, [.ref q0, .ref q1]))]) hx hb hml hown hts hnw hK hP hD hS hA hl.1 (c_X4_find_0 l D cI cZ cB cJ q0 q3 q1 q2) yk_X4_find wn_241 [1, 4, 2, 3] [0] rfl rfl (by decide) (by decide) (by decide) 0 rfl rfl rfl rfl rfl dX2_init_33 ⟨Nat.le_of_ble_eq_true rfl, Nat.le_of_ble_eq_true rfl⟩ ⟨Nat.le_of_ble_eq_true rfl, Nat.le_of_ble_eq_true rfl⟩ (Nat.le_of_ble_eq_true rfl) (fun r9 w1 H locs hq9 hP hD hS => ?_)
  obtain ⟨rfl, rfl⟩ := hq9
  have hP : va_P D vwCl [(h0, .inr (2, [.ref q0, .ref q1])), (q0, .inr (4, [.ref q1, .ref q3])), (q3, .inl (cI, 64, .inl (upd (fun _ => (-1)) 31 0))), (q1, .inr (6, [.ref q2, .int 1])), (q2, .inl (cI, 144, .inl (upd (upd (upd (upd (upd (fun _ => 0) 1 (-1)) 2 (-1)) 3 1) 4 1) 5 (-1))))] H := hP
  have hD : va_D A [(h0, .inr (2, [.ref q0, .ref q1])), (q0, .inr (4, [.ref q1, .ref q3])), (q3, .inl (cI, 64, .inl (upd (fun _ => (-1)) 31 0))), (q1, .inr (6, [.ref q2, .int 1])), (q2, .inl (cI, 144, .inl (upd (upd (upd (upd (upd (fun _ => 0) 1 (-1)) 2 (-1)) 3 1) 4 1) 5 (-1))))] := hD
  refine W.widen (k := 4) (n := 212) (Nat.le_of_ble_eq_true rfl) (Nat.le_of_ble_eq_true rfl) ?_
  refine pcn (b := 36) rfl ?_
  refine lv_pop hx hb dX2_init_36 rfl ?_
  refine lv_aload_n hx hb dX2_init_37 rfl (lv_at hl 0 rfl) ?_
  refine va_get (D := D) (ci := 2) (v := .ref q0) (C := RX2) (T := TX2) (N := 2) hx hb hts inX2 hown hK hP 0 rfl rfl 0 (by decide) (hts _ wm_242) (fun _ h9 => h9) rfl dX2_init_38 ?_
  refine lv_iconst (v := 1) hx hb dX2_init_41 (by decide +kernel) ?_
  refine lv_iconst (v := (-1)) hx hb dX2_init_42 (by decide +kernel) ?_
  refine lv_iconst (v := (-1)) hx hb dX2_init_43 (by decide +kernel) ?_
  refine kVNi (As := [.int 1, .int (-1), .int (-1)]) (rest := []) (wr := [(h0, .inr (2, [.ref q0, .ref q1]))]) hx hb hml hown hts hnw hK hP hD hS hA hl.1 (c_X4_find_1 l D cI cZ cB cJ q0 q3 q1 q2) yk_X4_find wn_241 [1, 2, 3, 4] [0] rfl rfl (by decide) (by decide) (by decide) 0 rfl rfl rfl rfl rfl dX2_init_44 ⟨Nat.le_of_ble_eq_true rfl, Nat.le_of_ble_eq_true rfl⟩ ⟨Nat.le_of_ble_eq_true rfl, Nat.le_of_ble_eq_true rfl⟩ (Nat.le_of_ble_eq_true rfl) (fun r9 w1 H locs hq9 hP hD hS => ?_)
  obtain ⟨rfl, rfl⟩ := hq9
  have hP : va_P D vwCl [(h0, .inr (2, [.ref q0, .ref q1])), (q0, .inr (4, [.ref q1, .ref q3])), (q3, .inl (cI, 64, .inl (upd (upd (fun _ => (-1)) 31 0) 38 1))), (q1, .inr (6, [.ref q2, .int 2])), (q2, .inl (cI, 144, .inl (upd (upd (upd (upd (upd (upd (upd (upd (upd (upd (upd (fun _ => 0) 1 (-1)) 2 (-1)) 3 1) 4 1) 5 (-1)) 6 1) 7 (-1)) 8 (-1)) 9 1) 10 1) 11 (-1))))] H := hP
  have hD : va_D A [(h0, .inr (2, [.ref q0, .ref q1])), (q0, .inr (4, [.ref q1, .ref q3])), (q3, .inl (cI, 64, .inl (upd (upd (fun _ => (-1)) 31 0) 38 1))), (q1, .inr (6, [.ref q2, .int 2])), (q2, .inl (cI, 144, .inl (upd (upd (upd (upd (upd (upd (upd (upd (upd (upd (upd (fun _ => 0) 1 (-1)) 2 (-1)) 3 1) 4 1) 5 (-1)) 6 1) 7 (-1)) 8 (-1)) 9 1) 10 1) 11 (-1))))] := hD
  refine W.widen (k := 4) (n := 212) (Nat.le_of_ble_eq_true rfl) (Nat.le_of_ble_eq_true rfl) ?_
  refine pcn (b := 47) rfl ?_
  refine lv_pop hx hb dX2_init_47 rfl ?_
  refine lv_aload_n hx hb dX2_init_48 rfl (lv_at hl 0 rfl) ?_
  refine va_get (D := D) (ci := 2) (v := .ref q0) (C := RX2) (T := TX2) (N := 2) hx hb hts inX2 hown hK hP 0 rfl rfl 0 (by decide) (hts _ wm_242) (fun _ h9 => h9) rfl dX2_init_49 ?_
  refine lv_iconst (v := 2) hx hb dX2_init_52 (by decide +kernel) ?_
  refine lv_iconst (v := (-1)) hx hb dX2_init_53 (by decide +kernel) ?_
  refine lv_iconst (v := (-1)) hx hb dX2_init_54 (by decide +kernel) ?_
  refine kVNi (As := [.int 2, .int (-1), .int (-1)]) (rest := []) (wr := [(h0, .inr (2, [.ref q0, .ref q1]))]) hx hb hml hown hts hnw hK hP hD hS hA hl.1 (c_X4_find_2 l D cI cZ cB cJ q0 q3 q1 q2) yk_X4_find wn_241 [1, 2, 3, 4] [0] rfl rfl (by decide) (by decide) (by decide) 0 rfl rfl rfl rfl rfl dX2_init_55 ⟨Nat.le_of_ble_eq_true rfl, Nat.le_of_ble_eq_true rfl⟩ ⟨Nat.le_of_ble_eq_true rfl, Nat.le_of_ble_eq_true rfl⟩ (Nat.le_of_ble_eq_true rfl) (fun r9 w1 H locs hq9 hP hD hS => ?_)
  obtain ⟨rfl, rfl⟩ := hq9
  have hP := hP.sub (ws' := [(h0, .inr (2, [.ref q0, .ref q1])), (q0, .inr (4, [.ref q1, .ref q3])), (q1, .inr (6, [.ref q2, .int 3]))]) [0, 1, 3] rfl
  have hD := hD.sub (ws' := [(h0, .inr (2, [.ref q0, .ref q1])), (q0, .inr (4, [.ref q1, .ref q3])), (q1, .inr (6, [.ref q2, .int 3]))]) [0, 1, 3] (by decide) rfl
  have hP : va_P D vwCl [(h0, .inr (2, [.ref q0, .ref q1])), (q0, .inr (4, [.ref q1, .ref q3])), (q1, .inr (6, [.ref q2, .int 3]))] H := hP
  have hD : va_D A [(h0, .inr (2, [.ref q0, .ref q1])), (q0, .inr (4, [.ref q1, .ref q3])), (q1, .inr (6, [.ref q2, .int 3]))] := hD
  refine W.widen (k := 4) (n := 212) (Nat.le_of_ble_eq_true rfl) (Nat.le_of_ble_eq_true rfl) ?_
  refine pcn (b := 58) rfl ?_
  refine lv_pop hx hb dX2_init_58 rfl ?_
  refine W.widen (k := 4) (n := 212) (Nat.le_of_ble_eq_true rfl) (Nat.le_of_ble_eq_true rfl) ?_
  exact rtV hx hb hr hlocks hS hP hD ⟨q0, q1, q2, q3, rfl⟩ dX2_init_59
