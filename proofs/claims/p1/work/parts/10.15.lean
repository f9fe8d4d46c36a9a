set_option maxHeartbeats 4000000 in
set_option maxRecDepth 100000 in
theorem c_X1_setTyped_1 (l : Launch) (D : va_G) (cI cZ cB cJ : ClassId) (h0 h1 h2 h3 h4 h5 h6 g0 g1 g2 g3 g4 g5 g6 g7 g8 g9 g10 g11 g12 : Nat) : CtV l D (TT cI cZ cB cJ) yX1_setTyped cX1_setTyped 6 none 2 45 0 0 [.ref h0, .int 0, .int 1] [(h0, .inr (1, [.ref h4, .ref h1, .ref g0, .ref g1, .ref g2, .ref g3, .ref h6, .int 4, .int 3, .int 0, .int (-1), .int 0])), (h1, .inr (9, [.ref g4, .ref h2])), (h2, .inr (6, [.ref h3, .int 4])), (h3, .inl (cI, 144, .inl (upd (upd (upd (upd (upd (upd (upd (upd (upd (upd (upd (upd (upd (upd (upd (upd (upd (upd (upd (upd (upd (fun _ => 0) 1 (-1)) 2 (-1)) 3 1) 4 1) 5 (-1)) 6 1) 7 (-1)) 8 (-1)) 9 1) 10 1) 11 (-1)) 12 2) 13 (-1)) 14 (-1)) 15 1) 16 1) 17 (-1)) 18 4) 21 3) 22 2) 23 (-1)))), (h4, .inr (7, [.ref g5, .ref g6, .ref g7, .ref g8, .ref g9, .ref g10, .ref h5, .ref g11, .ref g12, .int 1, .int 1, .int 0])), (h5, .inl (cI, 180, .inl (fun _ => (-1)))), (h6, .inl (cZ, 60, .inl (upd (fun _ => 0) 0 1)))] (fun w1 => w1 = [(h0, .inr (1, [.ref h4, .ref h1, .ref g0, .ref g1, .ref g2, .ref g3, .ref h6, .int 4, .int 3, .int 0, .int (-1), .int 0])), (h1, .inr (9, [.ref g4, .ref h2])), (h2, .inr (6, [.ref h3, .int 4])), (h3, .inl (cI, 144, .inl (upd (upd (upd (upd (upd (upd (upd (upd (upd (upd (upd (upd (upd (upd (upd (upd (upd (upd (upd (upd (upd (fun _ => 0) 1 (-1)) 2 (-1)) 3 1) 4 1) 5 (-1)) 6 1) 7 (-1)) 8 (-1)) 9 1) 10 1) 11 (-1)) 12 2) 13 (-1)) 14 (-1)) 15 1) 16 1) 17 (-1)) 18 4) 21 3) 22 2) 23 (-1)))), (h4, .inr (7, [.ref g5, .ref g6, .ref g7, .ref g8, .ref g9, .ref g10, .ref h5, .ref g11, .ref g12, .int 1, .int 1, .int 0])), (h5, .inl (cI, 180, .inl (fun _ => (-1)))), (h6, .inl (cZ, 60, .inl (upd (fun _ => 0) 0 1)))]) := by
  refine CtV.of (by decide +kernel) (Nat.le_of_ble_eq_true rfl) ?_
  intro p e s m below meth c A ls hx hb hr hml hown hts hnw hlocks hin hA hS hP hK hD hl
  have hown : s.vm.findClass RX1 = some m.cls := hown
  have hl : lv_has ls 6 [(0, .ref h0), (1, .int 0), (2, .int 1)] := hl
  refine lv_aload_n hx hb dX1_setTyped_0 rfl (lv_at hl 0 rfl) ?_
  refine va_get (D := D) (ci := 1) (v := .ref h1) (C := RX1) (T := TX1) (N := 12) hx hb hts inX1 hown hK hP 0 rfl rfl 1 (by decide) (hts _ wm_279) (fun _ h9 => h9) rfl dX1_setTyped_1 ?_
  refine lv_iload_n hx hb dX1_setTyped_4 rfl (lv_at hl 2 rfl) ?_
  refine kVNi (As := [.int 1]) (rest := []) (wr := [(h0, .inr (1, [.ref h4, .ref h1, .ref g0, .ref g1, .ref g2, .ref g3, .ref h6, .int 4, .int 3, .int 0, .int (-1), .int 0])), (h4, .inr (7, [.ref g5, .ref g6, .ref g7, .ref g8, .ref g9, .ref g10, .ref h5, .ref g11, .ref g12, .int 1, .int 1, .int 0])), (h5, .inl (cI, 180, .inl (fun _ => (-1)))), (h6, .inl (cZ, 60, .inl (upd (fun _ => 0) 0 1)))]) hx hb hml hown hts hnw hK hP hD hS hA hl.1 (c_X9_hasUnknown_0 l D cI cZ cB cJ h1 h2 h3 g4) yk_X9_hasUnknown wn_574 [1, 2, 3] [0, 4, 5, 6] rfl rfl (by decide) (by decide) (by decide) 0 rfl rfl rfl rfl rfl dX1_setTyped_5 ⟨Nat.le_of_ble_eq_true rfl, Nat.le_of_ble_eq_true rfl⟩ ⟨Nat.le_of_ble_eq_true rfl, Nat.le_of_ble_eq_true rfl⟩ (Nat.le_of_ble_eq_true rfl) (fun r9 w1 H locs hq9 hP hD hS => ?_)
  obtain ⟨rfl, rfl⟩ := hq9
  have hP : va_P D vwCl [(h0, .inr (1, [.ref h4, .ref h1, .ref g0, .ref g1, .ref g2, .ref g3, .ref h6, .int 4, .int 3, .int 0, .int (-1), .int 0])), (h4, .inr (7, [.ref g5, .ref g6, .ref g7, .ref g8, .ref g9, .ref g10, .ref h5, .ref g11, .ref g12, .int 1, .int 1, .int 0])), (h5, .inl (cI, 180, .inl (fun _ => (-1)))), (h6, .inl (cZ, 60, .inl (upd (fun _ => 0) 0 1))), (h1, .inr (9, [.ref g4, .ref h2])), (h2, .inr (6, [.ref h3, .int 4])), (h3, .inl (cI, 144, .inl (upd (upd (upd (upd (upd (upd (upd (upd (upd (upd (upd (upd (upd (upd (upd (upd (upd (upd (upd (upd (upd (fun _ => 0) 1 (-1)) 2 (-1)) 3 1) 4 1) 5 (-1)) 6 1) 7 (-1)) 8 (-1)) 9 1) 10 1) 11 (-1)) 12 2) 13 (-1)) 14 (-1)) 15 1) 16 1) 17 (-1)) 18 4) 21 3) 22 2) 23 (-1))))] H := hP
  have hD : va_D A [(h0, .inr (1, [.ref h4, .ref h1, .ref g0, .ref g1, .ref g2, .ref g3, .ref h6, .int 4, .int 3, .int 0, .int (-1), .int 0])), (h4, .inr (7, [.ref g5, .ref g6, .ref g7, .ref g8, .ref g9, .ref g10, .ref h5, .ref g11, .ref g12, .int 1, .int 1, .int 0])), (h5, .inl (cI, 180, .inl (fun _ => (-1)))), (h6, .inl (cZ, 60, .inl (upd (fun _ => 0) 0 1))), (h1, .inr (9, [.ref g4, .ref h2])), (h2, .inr (6, [.ref h3, .int 4])), (h3, .inl (cI, 144, .inl (upd (upd (upd (upd (upd (upd (upd (upd (upd (upd (upd (upd (upd (upd (upd (upd (upd (upd (upd (upd (upd (fun _ => 0) 1 (-1)) 2 (-1)) 3 1) 4 1) 5 (-1)) 6 1) 7 (-1)) 8 (-1)) 9 1) 10 1) 11 (-1)) 12 2) 13 (-1)) 14 (-1)) 15 1) 16 1) 17 (-1)) 18 4) 21 3) 22 2) 23 (-1))))] := hD
  refine W.widen (k := 0) (n := 0) (Nat.le_of_ble_eq_true rfl) (Nat.le_of_ble_eq_true rfl) ?_
  refine pcn (b := 8) rfl ?_
  refine lv_if_ne (tgt := 15) hx hb dX1_setTyped_8 (by decide) (fun h9 => absurd (by decide +kernel) h9) (fun _ => ?_)
  refine lv_iconst (v := 1) hx hb dX1_setTyped_11 (by decide +kernel) ?_
  refine lv_goto (tgt := 16) hx hb dX1_setTyped_12 (by decide) ?_
  refine lv_istore_n (lv' := [(3, .int 1), (0, .ref h0), (1, .int 0), (2, .int 1)]) hx hb dX1_setTyped_16 rfl hl (by decide) rfl (fun ls hl => ?_)
  refine lv_iconst (v := 0) hx hb dX1_setTyped_17 (by decide +kernel) ?_
  refine lv_istore (lv' := [(4, .int 0), (3, .int 1), (0, .ref h0), (1, .int 0), (2, .int 1)]) hx hb dX1_setTyped_18 hl (by decide) rfl (fun ls hl => ?_)
  refine lv_iload hx hb dX1_setTyped_20 (lv_at hl 0 rfl) ?_
  refine lv_iconst (v := 3) hx hb dX1_setTyped_22 (by decide +kernel) ?_
  refine lv_icmp_ge (tgt := 72) hx hb dX1_setTyped_23 (by decide) (fun h9 => absurd h9 (by decide +kernel)) (fun _ => ?_)
  refine lv_aload_n hx hb dX1_setTyped_26 rfl (lv_at hl 2 rfl) ?_
  refine pcn (b := 27) rfl ?_
  refine va_get (D := D) (ci := 1) (v := .ref h4) (C := RX1) (T := TX1) (N := 12) hx hb hts inX1 hown hK hP 0 rfl rfl 0 (by decide) (hts _ wm_274) (fun _ h9 => h9) rfl dX1_setTyped_27 ?_
  refine lv_iload_n hx hb dX1_setTyped_30 rfl (lv_at hl 3 rfl) ?_
  refine lv_iload hx hb dX1_setTyped_31 (lv_at hl 0 rfl) ?_
  refine kVNi (As := [.int 0, .int 0]) (rest := []) (wr := [(h0, .inr (1, [.ref h4, .ref h1, .ref g0, .ref g1, .ref g2, .ref g3, .ref h6, .int 4, .int 3, .int 0, .int (-1), .int 0])), (h6, .inl (cZ, 60, .inl (upd (fun _ => 0) 0 1))), (h1, .inr (9, [.ref g4, .ref h2])), (h2, .inr (6, [.ref h3, .int 4])), (h3, .inl (cI, 144, .inl (upd (upd (upd (upd (upd (upd (upd (upd (upd (upd (upd (upd (upd (upd (upd (upd (upd (upd (upd (upd (upd (fun _ => 0) 1 (-1)) 2 (-1)) 3 1) 4 1) 5 (-1)) 6 1) 7 (-1)) 8 (-1)) 9 1) 10 1) 11 (-1)) 12 2) 13 (-1)) 14 (-1)) 15 1) 16 1) 17 (-1)) 18 4) 21 3) 22 2) 23 (-1))))]) hx hb hml hown hts hnw hK hP hD hS hA hl.1 (c_X7_part_0 l D cI cZ cB cJ h4 h5 g5 g6 g7 g8 g9 g10 g11 g12) yk_X7_part wn_487 [1, 2] [0, 3, 4, 5, 6] rfl rfl (by decide) (by decide) (by decide) 0 rfl rfl rfl rfl rfl dX1_setTyped_33 ⟨Nat.le_of_ble_eq_true rfl, Nat.le_of_ble_eq_true rfl⟩ ⟨Nat.le_of_ble_eq_true rfl, Nat.le_of_ble_eq_true rfl⟩ (Nat.le_of_ble_eq_true rfl) (fun r9 w1 H locs hq9 hP hD hS => ?_)
  obtain ⟨rfl, rfl⟩ := hq9
  have hP : va_P D vwCl [(h0, .inr (1, [.ref h4, .ref h1, .ref g0, .ref g1, .ref g2, .ref g3, .ref h6, .int 4, .int 3, .int 0, .int (-1), .int 0])), (h6, .inl (cZ, 60, .inl (upd (fun _ => 0) 0 1))), (h1, .inr (9, [.ref g4, .ref h2])), (h2, .inr (6, [.ref h3, .int 4])), (h3, .inl (cI, 144, .inl (upd (upd (upd (upd (upd (upd (upd (upd (upd (upd (upd (upd (upd (upd (upd (upd (upd (upd (upd (upd (upd (fun _ => 0) 1 (-1)) 2 (-1)) 3 1) 4 1) 5 (-1)) 6 1) 7 (-1)) 8 (-1)) 9 1) 10 1) 11 (-1)) 12 2) 13 (-1)) 14 (-1)) 15 1) 16 1) 17 (-1)) 18 4) 21 3) 22 2) 23 (-1)))), (h4, .inr (7, [.ref g5, .ref g6, .ref g7, .ref g8, .ref g9, .ref g10, .ref h5, .ref g11, .ref g12, .int 1, .int 1, .int 0])), (h5, .inl (cI, 180, .inl (fun _ => (-1))))] H := hP
  have hD : va_D A [(h0, .inr (1, [.ref h4, .ref h1, .ref g0, .ref g1, .ref g2, .ref g3, .ref h6, .int 4, .int 3, .int 0, .int (-1), .int 0])), (h6, .inl (cZ, 60, .inl (upd (fun _ => 0) 0 1))), (h1, .inr (9, [.ref g4, .ref h2])), (h2, .inr (6, [.ref h3, .int 4])), (h3, .inl (cI, 144, .inl (upd (upd (upd (upd (upd (upd (upd (upd (upd (upd (upd (upd (upd (upd (upd (upd (upd (upd (upd (upd (upd (fun _ => 0) 1 (-1)) 2 (-1)) 3 1) 4 1) 5 (-1)) 6 1) 7 (-1)) 8 (-1)) 9 1) 10 1) 11 (-1)) 12 2) 13 (-1)) 14 (-1)) 15 1) 16 1) 17 (-1)) 18 4) 21 3) 22 2) 23 (-1)))), (h4, .inr (7, [.ref g5, .ref g6, .ref g7, .ref g8, .ref g9, .ref g10, .ref h5, .ref g11, .ref g12, .int 1, .int 1, .int 0])), (h5, .inl (cI, 180, .inl (fun _ => (-1))))] := hD
  refine W.widen (k := 0) (n := 0) (Nat.le_of_ble_eq_true rfl) (Nat.le_of_ble_eq_true rfl) ?_
  refine pcn (b := 36) rfl ?_
  refine lv_istore (lv' := [(5, .int (-1)), (4, .int 0), (3, .int 1), (0, .ref h0), (1, .int 0), (2, .int 1)]) hx hb dX1_setTyped_36 hl (by decide) rfl (fun ls hl => ?_)
  refine lv_iload hx hb dX1_setTyped_38 (lv_at hl 0 rfl) ?_
  refine lv_if_lt (tgt := 66) hx hb dX1_setTyped_40 (by decide) (fun _ => ?_) (fun h9 => absurd (by decide +kernel) h9)
  refine lv_iinc (v := 1) (lv' := [(4, .int 1), (5, .int (-1)), (3, .int 1), (0, .ref h0), (1, .int 0), (2, .int 1)]) hx hb dX1_setTyped_66 hl (k := 1) rfl (by decide +kernel) (by decide) rfl (fun ls hl => ?_)
  refine lv_goto (tgt := 20) hx hb dX1_setTyped_69 (by decide) ?_
  refine lv_iload hx hb dX1_setTyped_20 (lv_at hl 0 rfl) ?_
  refine lv_iconst (v := 3) hx hb dX1_setTyped_22 (by decide +kernel) ?_
  refine lv_icmp_ge (tgt := 72) hx hb dX1_setTyped_23 (by decide) (fun h9 => absurd h9 (by decide +kernel)) (fun _ => ?_)
  refine lv_aload_n hx hb dX1_setTyped_26 rfl (lv_at hl 3 rfl) ?_
  refine va_get (D := D) (ci := 1) (v := .ref h4) (C := RX1) (T := TX1) (N := 12) hx hb hts inX1 hown hK hP 0 rfl rfl 0 (by decide) (hts _ wm_274) (fun _ h9 => h9) rfl dX1_setTyped_27 ?_
  refine lv_iload_n hx hb dX1_setTyped_30 rfl (lv_at hl 4 rfl) ?_
  refine lv_iload hx hb dX1_setTyped_31 (lv_at hl 0 rfl) ?_
  refine pcn (b := 33) rfl ?_
  refine kVNi (As := [.int 0, .int 1]) (rest := []) (wr := [(h0, .inr (1, [.ref h4, .ref h1, .ref g0, .ref g1, .ref g2, .ref g3, .ref h6, .int 4, .int 3, .int 0, .int (-1), .int 0])), (h6, .inl (cZ, 60, .inl (upd (fun _ => 0) 0 1))), (h1, .inr (9, [.ref g4, .ref h2])), (h2, .inr (6, [.ref h3, .int 4])), (h3, .inl (cI, 144, .inl (upd (upd (upd (upd (upd (upd (upd (upd (upd (upd (upd (upd (upd (upd (upd (upd (upd (upd (upd (upd (upd (fun _ => 0) 1 (-1)) 2 (-1)) 3 1) 4 1) 5 (-1)) 6 1) 7 (-1)) 8 (-1)) 9 1) 10 1) 11 (-1)) 12 2) 13 (-1)) 14 (-1)) 15 1) 16 1) 17 (-1)) 18 4) 21 3) 22 2) 23 (-1))))]) hx hb hml hown hts hnw hK hP hD hS hA hl.1 (c_X7_part_1 l D cI cZ cB cJ h4 h5 g5 g6 g7 g8 g9 g10 g11 g12) yk_X7_part wn_487 [5, 6] [0, 1, 2, 3, 4] rfl rfl (by decide) (by decide) (by decide) 0 rfl rfl rfl rfl rfl dX1_setTyped_33 ⟨Nat.le_of_ble_eq_true rfl, Nat.le_of_ble_eq_true rfl⟩ ⟨Nat.le_of_ble_eq_true rfl, Nat.le_of_ble_eq_true rfl⟩ (Nat.le_of_ble_eq_true rfl) (fun r9 w1 H locs hq9 hP hD hS => ?_)
  obtain ⟨rfl, rfl⟩ := hq9
  have hP : va_P D vwCl [(h0, .inr (1, [.ref h4, .ref h1, .ref g0, .ref g1, .ref g2, .ref g3, .ref h6, .int 4, .int 3, .int 0, .int (-1), .int 0])), (h6, .inl (cZ, 60, .inl (upd (fun _ => 0) 0 1))), (h1, .inr (9, [.ref g4, .ref h2])), (h2, .inr (6, [.ref h3, .int 4])), (h3, .inl (cI, 144, .inl (upd (upd (upd (upd (upd (upd (upd (upd (upd (upd (upd (upd (upd (upd (upd (upd (upd (upd (upd (upd (upd (fun _ => 0) 1 (-1)) 2 (-1)) 3 1) 4 1) 5 (-1)) 6 1) 7 (-1)) 8 (-1)) 9 1) 10 1) 11 (-1)) 12 2) 13 (-1)) 14 (-1)) 15 1) 16 1) 17 (-1)) 18 4) 21 3) 22 2) 23 (-1)))), (h4, .inr (7, [.ref g5, .ref g6, .ref g7, .ref g8, .ref g9, .ref g10, .ref h5, .ref g11, .ref g12, .int 1, .int 1, .int 0])), (h5, .inl (cI, 180, .inl (fun _ => (-1))))] H := hP
  have hD : va_D A [(h0, .inr (1, [.ref h4, .ref h1, .ref g0, .ref g1, .ref g2, .ref g3, .ref h6, .int 4, .int 3, .int 0, .int (-1), .int 0])), (h6, .inl (cZ, 60, .inl (upd (fun _ => 0) 0 1))), (h1, .inr (9, [.ref g4, .ref h2])), (h2, .inr (6, [.ref h3, .int 4])), (h3, .inl (cI, 144, .inl (upd (upd (upd (upd (upd (upd (upd (upd (upd (upd (upd (upd (upd (upd (upd (upd (upd (upd (upd (upd (upd (fun _ => 0) 1 (-1)) 2 (-1)) 3 1) 4 1) 5 (-1)) 6 1) 7 (-1)) 8 (-1)) 9 1) 10 1) 11 (-1)) 12 2) 13 (-1)) 14 (-1)) 15 1) 16 1) 17 (-1)) 18 4) 21 3) 22 2) 23 (-1)))), (h4, .inr (7, [.ref g5, .ref g6, .ref g7, .ref g8, .ref g9, .ref g10, .ref h5, .ref g11, .ref g12, .int 1, .int 1, .int 0])), (h5, .inl (cI, 180, .inl (fun _ => (-1))))] := hD
  refine W.widen (k := 0) (n := 0) (Nat.le_of_ble_eq_true rfl) (Nat.le_of_ble_eq_true rfl) ?_
  refine pcn (b := 36) rfl ?_
  refine lv_istore (lv' := [(5, .int (-1)), (4, .int 1), (3, .int 1), (0, .ref h0), (1, .int 0), (2, .int 1)]) hx hb dX1_setTyped_36 hl (by decide) rfl (fun ls hl => ?_)
  refine lv_iload hx hb dX1_setTyped_38 (lv_at hl 0 rfl) ?_
  refine lv_if_lt (tgt := 66) hx hb dX1_setTyped_40 (by decide) (fun _ => ?_) (fun h9 => absurd (by decide +kernel) h9)
  refine lv_iinc (v := 2) (lv' := [(4, .int 2), (5, .int (-1)), (3, .int 1), (0, .ref h0), (1, .int 0), (2, .int 1)]) hx hb dX1_setTyped_66 hl (k := 1) rfl (by decide +kernel) (by decide) rfl (fun ls hl => ?_)
  refine lv_goto (tgt := 20) hx hb dX1_setTyped_69 (by decide) ?_
  refine lv_iload hx hb dX1_setTyped_20 (lv_at hl 0 rfl) ?_
  refine lv_iconst (v := 3) hx hb dX1_setTyped_22 (by decide +kernel) ?_
  refine lv_icmp_ge (tgt := 72) hx hb dX1_setTyped_23 (by decide) (fun h9 => absurd h9 (by decide +kernel)) (fun _ => ?_)
  refine lv_aload_n hx hb dX1_setTyped_26 rfl (lv_at hl 3 rfl) ?_
  refine va_get (D := D) (ci := 1) (v := .ref h4) (C := RX1) (T := TX1) (N := 12) hx hb hts inX1 hown hK hP 0 rfl rfl 0 (by decide) (hts _ wm_274) (fun _ h9 => h9) rfl dX1_setTyped_27 ?_
  refine lv_iload_n hx hb dX1_setTyped_30 rfl (lv_at hl 4 rfl) ?_
  refine lv_iload hx hb dX1_setTyped_31 (lv_at hl 0 rfl) ?_
  refine pcn (b := 33) rfl ?_
  refine kVNi (As := [.int 0, .int 2]) (rest := []) (wr := [(h0, .inr (1, [.ref h4, .ref h1, .ref g0, .ref g1, .ref g2, .ref g3, .ref h6, .int 4, .int 3, .int 0, .int (-1), .int 0])), (h6, .inl (cZ, 60, .inl (upd (fun _ => 0) 0 1))), (h1, .inr (9, [.ref g4, .ref h2])), (h2, .inr (6, [.ref h3, .int 4])), (h3, .inl (cI, 144, .inl (upd (upd (upd (upd (upd (upd (upd (upd (upd (upd (upd (upd (upd (upd (upd (upd (upd (upd (upd (upd (upd (fun _ => 0) 1 (-1)) 2 (-1)) 3 1) 4 1) 5 (-1)) 6 1) 7 (-1)) 8 (-1)) 9 1) 10 1) 11 (-1)) 12 2) 13 (-1)) 14 (-1)) 15 1) 16 1) 17 (-1)) 18 4) 21 3) 22 2) 23 (-1))))]) hx hb hml hown hts hnw hK hP hD hS hA hl.1 (c_X7_part_2 l D cI cZ cB cJ h4 h5 g5 g6 g7 g8 g9 g10 g11 g12) yk_X7_part wn_487 [5, 6] [0, 1, 2, 3, 4] rfl rfl (by decide) (by decide) (by decide) 0 rfl rfl rfl rfl rfl dX1_setTyped_33 ⟨Nat.le_of_ble_eq_true rfl, Nat.le_of_ble_eq_true rfl⟩ ⟨Nat.le_of_ble_eq_true rfl, Nat.le_of_ble_eq_true rfl⟩ (Nat.le_of_ble_eq_true rfl) (fun r9 w1 H locs hq9 hP hD hS => ?_)
  obtain ⟨rfl, rfl⟩ := hq9
  have hP : va_P D vwCl [(h0, .inr (1, [.ref h4, .ref h1, .ref g0, .ref g1, .ref g2, .ref g3, .ref h6, .int 4, .int 3, .int 0, .int (-1), .int 0])), (h6, .inl (cZ, 60, .inl (upd (fun _ => 0) 0 1))), (h1, .inr (9, [.ref g4, .ref h2])), (h2, .inr (6, [.ref h3, .int 4])), (h3, .inl (cI, 144, .inl (upd (upd (upd (upd (upd (upd (upd (upd (upd (upd (upd (upd (upd (upd (upd (upd (upd (upd (upd (upd (upd (fun _ => 0) 1 (-1)) 2 (-1)) 3 1) 4 1) 5 (-1)) 6 1) 7 (-1)) 8 (-1)) 9 1) 10 1) 11 (-1)) 12 2) 13 (-1)) 14 (-1)) 15 1) 16 1) 17 (-1)) 18 4) 21 3) 22 2) 23 (-1)))), (h4, .inr (7, [.ref g5, .ref g6, .ref g7, .ref g8, .ref g9, .ref g10, .ref h5, .ref g11, .ref g12, .int 1, .int 1, .int 0])), (h5, .inl (cI, 180, .inl (fun _ => (-1))))] H := hP
  have hD : va_D A [(h0, .inr (1, [.ref h4, .ref h1, .ref g0, .ref g1, .ref g2, .ref g3, .ref h6, .int 4, .int 3, .int 0, .int (-1), .int 0])), (h6, .inl (cZ, 60, .inl (upd (fun _ => 0) 0 1))), (h1, .inr (9, [.ref g4, .ref h2])), (h2, .inr (6, [.ref h3, .int 4])), (h3, .inl (cI, 144, .inl (upd (upd (upd (upd (upd (upd (upd (upd (upd (upd (upd (upd (upd (upd (upd (upd (upd (upd (upd (upd (upd (fun _ => 0) 1 (-1)) 2 (-1)) 3 1) 4 1) 5 (-1)) 6 1) 7 (-1)) 8 (-1)) 9 1) 10 1) 11 (-1)) 12 2) 13 (-1)) 14 (-1)) 15 1) 16 1) 17 (-1)) 18 4) 21 3) 22 2) 23 (-1)))), (h4, .inr (7, [.ref g5, .ref g6, .ref g7, .ref g8, .ref g9, .ref g10, .ref h5, .ref g11, .ref g12, .int 1, .int 1, .int 0])), (h5, .inl (cI, 180, .inl (fun _ => (-1))))] := hD
  refine W.widen (k := 0) (n := 0) (Nat.le_of_ble_eq_true rfl) (Nat.le_of_ble_eq_true rfl) ?_
  refine pcn (b := 36) rfl ?_
  refine lv_istore (lv' := [(5, .int (-1)), (4, .int 2), (3, .int 1), (0, .ref h0), (1, .int 0), (2, .int 1)]) hx hb dX1_setTyped_36 hl (by decide) rfl (fun ls hl => ?_)
  refine lv_iload hx hb dX1_setTyped_38 (lv_at hl 0 rfl) ?_
  refine lv_if_lt (tgt := 66) hx hb dX1_setTyped_40 (by decide) (fun _ => ?_) (fun h9 => absurd (by decide +kernel) h9)
  refine lv_iinc (v := 3) (lv' := [(4, .int 3), (5, .int (-1)), (3, .int 1), (0, .ref h0), (1, .int 0), (2, .int 1)]) hx hb dX1_setTyped_66 hl (k := 1) rfl (by decide +kernel) (by decide) rfl (fun ls hl => ?_)
  refine lv_goto (tgt := 20) hx hb dX1_setTyped_69 (by decide) ?_
  refine lv_iload hx hb dX1_setTyped_20 (lv_at hl 0 rfl) ?_
  refine lv_iconst (v := 3) hx hb dX1_setTyped_22 (by decide +kernel) ?_
  refine lv_icmp_ge (tgt := 72) hx hb dX1_setTyped_23 (by decide) (fun _ => ?_) (fun h9 => absurd (by decide +kernel) h9)
  refine lv_iload_n hx hb dX1_setTyped_72 rfl (lv_at hl 4 rfl) ?_
  refine lv_if_lt (tgt := 92) hx hb dX1_setTyped_73 (by decide) (fun h9 => absurd h9 (by decide +kernel)) (fun _ => ?_)
  refine lv_iload_n hx hb dX1_setTyped_76 rfl (lv_at hl 4 rfl) ?_
  refine lv_aload_n hx hb dX1_setTyped_77 rfl (lv_at hl 3 rfl) ?_
  refine va_get (D := D) (ci := 1) (v := .ref h6) (C := RX1) (T := TX1) (N := 12) hx hb hts inX1 hown hK hP 0 rfl rfl 6 (by decide) (hts _ wm_293) (fun _ h9 => h9) rfl dX1_setTyped_78 ?_
  refine va_alen (v := 60) hx hb hK hP 1 1 rfl rfl (by decide +kernel) dX1_setTyped_81 ?_
  refine lv_icmp_ge (tgt := 92) hx hb dX1_setTyped_82 (by decide) (fun h9 => absurd h9 (by decide +kernel)) (fun _ => ?_)
  refine pcn (b := 85) rfl ?_
  refine lv_aload_n hx hb dX1_setTyped_85 rfl (lv_at hl 3 rfl) ?_
  refine va_get (D := D) (ci := 1) (v := .ref h6) (C := RX1) (T := TX1) (N := 12) hx hb hts inX1 hown hK hP 0 rfl rfl 6 (by decide) (hts _ wm_293) (fun _ h9 => h9) rfl dX1_setTyped_86 ?_
  refine lv_iload_n hx hb dX1_setTyped_89 rfl (lv_at hl 4 rfl) ?_
  refine lv_iload_n hx hb dX1_setTyped_90 rfl (lv_at hl 2 rfl) ?_
  refine as_z_s hx hb hK hP hD hS 1 1 rfl rfl (vpi (by decide +kernel)) (by first | decide +kernel | rfl) dX1_setTyped_91 (fun H locs hP hD hS => ?_)
  have hP : va_P D vwCl [(h0, .inr (1, [.ref h4, .ref h1, .ref g0, .ref g1, .ref g2, .ref g3, .ref h6, .int 4, .int 3, .int 0, .int (-1), .int 0])), (h6, .inl (cZ, 60, .inl (upd (fun _ => 0) 0 1))), (h1, .inr (9, [.ref g4, .ref h2])), (h2, .inr (6, [.ref h3, .int 4])), (h3, .inl (cI, 144, .inl (upd (upd (upd (upd (upd (upd (upd (upd (upd (upd (upd (upd (upd (upd (upd (upd (upd (upd (upd (upd (upd (fun _ => 0) 1 (-1)) 2 (-1)) 3 1) 4 1) 5 (-1)) 6 1) 7 (-1)) 8 (-1)) 9 1) 10 1) 11 (-1)) 12 2) 13 (-1)) 14 (-1)) 15 1) 16 1) 17 (-1)) 18 4) 21 3) 22 2) 23 (-1)))), (h4, .inr (7, [.ref g5, .ref g6, .ref g7, .ref g8, .ref g9, .ref g10, .ref h5, .ref g11, .ref g12, .int 1, .int 1, .int 0])), (h5, .inl (cI, 180, .inl (fun _ => (-1))))] H := hP
  have hD : va_D A [(h0, .inr (1, [.ref h4, .ref h1, .ref g0, .ref g1, .ref g2, .ref g3, .ref h6, .int 4, .int 3, .int 0, .int (-1), .int 0])), (h6, .inl (cZ, 60, .inl (upd (fun _ => 0) 0 1))), (h1, .inr (9, [.ref g4, .ref h2])), (h2, .inr (6, [.ref h3, .int 4])), (h3, .inl (cI, 144, .inl (upd (upd (upd (upd (upd (upd (upd (upd (upd (upd (upd (upd (upd (upd (upd (upd (upd (upd (upd (upd (upd (fun _ => 0) 1 (-1)) 2 (-1)) 3 1) 4 1) 5 (-1)) 6 1) 7 (-1)) 8 (-1)) 9 1) 10 1) 11 (-1)) 12 2) 13 (-1)) 14 (-1)) 15 1) 16 1) 17 (-1)) 18 4) 21 3) 22 2) 23 (-1)))), (h4, .inr (7, [.ref g5, .ref g6, .ref g7, .ref g8, .ref g9, .ref g10, .ref h5, .ref g11, .ref g12, .int 1, .int 1, .int 0])), (h5, .inl (cI, 180, .inl (fun _ => (-1))))] := hD
  refine W.widen (k := 0) (n := 0) (Nat.le_of_ble_eq_true rfl) (Nat.le_of_ble_eq_true rfl) ?_
  have hP := hP.sub (ws' := [(h0, .inr (1, [.ref h4, .ref h1, .ref g0, .ref g1, .ref g2, .ref g3, .ref h6, .int 4, .int 3, .int 0, .int (-1), .int 0])), (h1, .inr (9, [.ref g4, .ref h2])), (h2, .inr (6, [.ref h3, .int 4])), (h3, .inl (cI, 144, .inl (upd (upd (upd (upd (upd (upd (upd (upd (upd (upd (upd (upd (upd (upd (upd (upd (upd (upd (upd (upd (upd (fun _ => 0) 1 (-1)) 2 (-1)) 3 1) 4 1) 5 (-1)) 6 1) 7 (-1)) 8 (-1)) 9 1) 10 1) 11 (-1)) 12 2) 13 (-1)) 14 (-1)) 15 1) 16 1) 17 (-1)) 18 4) 21 3) 22 2) 23 (-1)))), (h4, .inr (7, [.ref g5, .ref g6, .ref g7, .ref g8, .ref g9, .ref g10, .ref h5, .ref g11, .ref g12, .int 1, .int 1, .int 0])), (h5, .inl (cI, 180, .inl (fun _ => (-1)))), (h6, .inl (cZ, 60, .inl (upd (fun _ => 0) 0 1)))]) [0, 2, 3, 4, 5, 6, 1] rfl
  have hD := hD.sub (ws' := [(h0, .inr (1, [.ref h4, .ref h1, .ref g0, .ref g1, .ref g2, .ref g3, .ref h6, .int 4, .int 3, .int 0, .int (-1), .int 0])), (h1, .inr (9, [.ref g4, .ref h2])), (h2, .inr (6, [.ref h3, .int 4])), (h3, .inl (cI, 144, .inl (upd (upd (upd (upd (upd (upd (upd (upd (upd (upd (upd (upd (upd (upd (upd (upd (upd (upd (upd (upd (upd (fun _ => 0) 1 (-1)) 2 (-1)) 3 1) 4 1) 5 (-1)) 6 1) 7 (-1)) 8 (-1)) 9 1) 10 1) 11 (-1)) 12 2) 13 (-1)) 14 (-1)) 15 1) 16 1) 17 (-1)) 18 4) 21 3) 22 2) 23 (-1)))), (h4, .inr (7, [.ref g5, .ref g6, .ref g7, .ref g8, .ref g9, .ref g10, .ref h5, .ref g11, .ref g12, .int 1, .int 1, .int 0])), (h5, .inl (cI, 180, .inl (fun _ => (-1)))), (h6, .inl (cZ, 60, .inl (upd (fun _ => 0) 0 1)))]) [0, 2, 3, 4, 5, 6, 1] (by decide) rfl
  exact rtV hx hb hr hlocks hS hP hD rfl dX1_setTyped_92

set_option maxHeartbeats 4000000 in
set_option maxRecDepth 100000 in
theorem c_X1_again_1 (l : Launch) (D : va_G) (cI cZ cB cJ : ClassId) (h0 h1 h2 h3 h4 h5 h6 h7 h8 h9 h10 h11 h12 h13 h14 h15 h16 g0 g1 g2 g3 g4 g5 g6 g7 g8 : Nat) : CtI l D (TT cI cZ cB cJ) yX1_again cX1_again 4 (some .int) 3 70 0 0 [.ref h0] [(h0, .inr (1, [.ref h9, .ref h1, .ref h4, .ref h7, .ref h14, .ref h8, .ref h16, .int 4, .int 3, .int 0, .int (-1), .int 0])), (h1, .inr (9, [.ref h2, .ref h3])), (h2, .inr (4, [.ref h3, .ref g0])), (h3, .inr (6, [.ref h15, .int 4])), (h4, .inr (2, [.ref h5, .ref h6])), (h5, .inr (4, [.ref h6, .ref g1])), (h6, .inr (6, [.ref g2, .int 3])), (h7, .inr (6, [.ref g3, .int 0])), (h8, .inl (cI, 60, .inl (fun _ => (-1)))), (h9, .inr (7, [.ref h13, .ref g4, .ref g5, .ref h11, .ref g6, .ref g7, .ref h12, .ref h10, .ref g8, .int 1, .int 1, .int 0])), (h10, .inl (cI, 60, .inl (fun _ => 0))), (h11, .inl (cI, 60, .inl (fun _ => 0))), (h12, .inl (cI, 180, .inl (fun _ => (-1)))), (h13, .inl (cI, 60, .inl (fun _ => 0))), (h14, .inl (cI, 60, .inl (upd (fun _ => 0) 0 1))), (h15, .inl (cI, 144, .inl (upd (upd (upd (upd (upd (upd (upd (upd (upd (upd (upd (upd (upd (upd (upd (upd (upd (upd (upd (upd (upd (fun _ => 0) 1 (-1)) 2 (-1)) 3 1) 4 1) 5 (-1)) 6 1) 7 (-1)) 8 (-1)) 9 1) 10 1) 11 (-1)) 12 2) 13 (-1)) 14 (-1)) 15 1) 16 1) 17 (-1)) 18 4) 21 3) 22 2) 23 (-1)))), (h16, .inl (cZ, 60, .inl (upd (fun _ => 0) 0 1)))] (fun r w1 => r = (-1) ∧ w1 = [(h0, .inr (1, [.ref h9, .ref h1, .ref h4, .ref h7, .ref h14, .ref h8, .ref h16, .int 4, .int 3, .int 0, .int (-1), .int 0])), (h1, .inr (9, [.ref h2, .ref h3])), (h2, .inr (4, [.ref h3, .ref g0])), (h3, .inr (6, [.ref h15, .int 4])), (h4, .inr (2, [.ref h5, .ref h6])), (h5, .inr (4, [.ref h6, .ref g1])), (h6, .inr (6, [.ref g2, .int 3])), (h7, .inr (6, [.ref g3, .int 0])), (h8, .inl (cI, 60, .inl (fun _ => (-1)))), (h9, .inr (7, [.ref h13, .ref g4, .ref g5, .ref h11, .ref g6, .ref g7, .ref h12, .ref h10, .ref g8, .int 1, .int 1, .int 0])), (h10, .inl (cI, 60, .inl (fun _ => 0))), (h11, .inl (cI, 60, .inl (fun _ => 0))), (h12, .inl (cI, 180, .inl (fun _ => (-1)))), (h13, .inl (cI, 60, .inl (fun _ => 0))), (h14, .inl (cI, 60, .inl (upd (fun _ => 0) 0 1))), (h15, .inl (cI, 144, .inl (upd (upd (upd (upd (upd (upd (upd (upd (upd (upd (upd (upd (upd (upd (upd (upd (upd (upd (upd (upd (upd (fun _ => 0) 1 (-1)) 2 (-1)) 3 1) 4 1) 5 (-1)) 6 1) 7 (-1)) 8 (-1)) 9 1) 10 1) 11 (-1)) 12 2) 13 (-1)) 14 (-1)) 15 1) 16 1) 17 (-1)) 18 4) 21 3) 22 2) 23 (-1)))), (h16, .inl (cZ, 60, .inl (upd (fun _ => 0) 0 1)))]) := by
  refine CtI.of (by decide +kernel) (Nat.le_of_ble_eq_true rfl) ?_
  intro p e s m below meth c A ls hx hb hr hml hown hts hnw hlocks hin hA hS hP hK hD hl
  have hown : s.vm.findClass RX1 = some m.cls := hown
  have hl : lv_has ls 4 [(0, .ref h0)] := hl
  refine lv_aload_n hx hb dX1_again_0 rfl (lv_at hl 0 rfl) ?_
  refine va_get (D := D) (ci := 1) (v := .ref h1) (C := RX1) (T := TX1) (N := 12) hx hb hts inX1 hown hK hP 0 rfl rfl 1 (by decide) (hts _ wm_279) (fun _ h9 => h9) rfl dX1_again_1 ?_
  refine va_getN (D := D) (ci := 9) (v := .ref h2) (C := RX9) (T := TX9) (N := 2) hx hb hts inX9 hown hK hP 1 rfl rfl 0 (by decide) (va_Nw.use rfl (hnw _ wn_223)) (fun _ h9 => h9) rfl dX1_again_4 ?_
  refine lv_aload_n hx hb dX1_again_7 rfl (lv_at hl 0 rfl) ?_
  refine va_get (D := D) (ci := 1) (v := .int 4) (C := RX1) (T := TX1) (N := 12) hx hb hts inX1 hown hK hP 0 rfl rfl 7 (by decide) (hts _ wm_294) (fun _ h9 => h9) rfl dX1_again_8 ?_
  refine kVNv (As := [.int 4]) (rest := []) (wr := [(h0, .inr (1, [.ref h9, .ref h1, .ref h4, .ref h7, .ref h14, .ref h8, .ref h16, .int 4, .int 3, .int 0, .int (-1), .int 0])), (h1, .inr (9, [.ref h2, .ref h3])), (h4, .inr (2, [.ref h5, .ref h6])), (h5, .inr (4, [.ref h6, .ref g1])), (h6, .inr (6, [.ref g2, .int 3])), (h7, .inr (6, [.ref g3, .int 0])), (h8, .inl (cI, 60, .inl (fun _ => (-1)))), (h9, .inr (7, [.ref h13, .ref g4, .ref g5, .ref h11, .ref g6, .ref g7, .ref h12, .ref h10, .ref g8, .int 1, .int 1, .int 0])), (h10, .inl (cI, 60, .inl (fun _ => 0))), (h11, .inl (cI, 60, .inl (fun _ => 0))), (h12, .inl (cI, 180, .inl (fun _ => (-1)))), (h13, .inl (cI, 60, .inl (fun _ => 0))), (h14, .inl (cI, 60, .inl (upd (fun _ => 0) 0 1))), (h15, .inl (cI, 144, .inl (upd (upd (upd (upd (upd (upd (upd (upd (upd (upd (upd (upd (upd (upd (upd (upd (upd (upd (upd (upd (upd (fun _ => 0) 1 (-1)) 2 (-1)) 3 1) 4 1) 5 (-1)) 6 1) 7 (-1)) 8 (-1)) 9 1) 10 1) 11 (-1)) 12 2) 13 (-1)) 14 (-1)) 15 1) 16 1) 17 (-1)) 18 4) 21 3) 22 2) 23 (-1)))), (h16, .inl (cZ, 60, .inl (upd (fun _ => 0) 0 1)))]) hx hb hml hown hts hnw hK hP hD hS hA hl.1 (c_X4_cutTo_0 l D cI cZ cB cJ h2 h3 g0 h15) yk_X4_cutTo wn_472 [2, 3] [0, 1, 4, 5, 6, 7, 8, 9, 10, 11, 12, 13, 14, 15, 16] rfl rfl (by decide) (by decide) (by decide) 0 rfl rfl rfl rfl rfl dX1_again_11 ⟨Nat.le_of_ble_eq_true rfl, Nat.le_of_ble_eq_true rfl⟩ ⟨Nat.le_of_ble_eq_true rfl, Nat.le_of_ble_eq_true rfl⟩ (Nat.le_of_ble_eq_true rfl) (fun w1 H locs hq9 hP hD hS => ?_)
  obtain rfl := hq9
  have hP : va_P D vwCl [(h0, .inr (1, [.ref h9, .ref h1, .ref h4, .ref h7, .ref h14, .ref h8, .ref h16, .int 4, .int 3, .int 0, .int (-1), .int 0])), (h1, .inr (9, [.ref h2, .ref h3])), (h4, .inr (2, [.ref h5, .ref h6])), (h5, .inr (4, [.ref h6, .ref g1])), (h6, .inr (6, [.ref g2, .int 3])), (h7, .inr (6, [.ref g3, .int 0])), (h8, .inl (cI, 60, .inl (fun _ => (-1)))), (h9, .inr (7, [.ref h13, .ref g4, .ref g5, .ref h11, .ref g6, .ref g7, .ref h12, .ref h10, .ref g8, .int 1, .int 1, .int 0])), (h10, .inl (cI, 60, .inl (fun _ => 0))), (h11, .inl (cI, 60, .inl (fun _ => 0))), (h12, .inl (cI, 180, .inl (fun _ => (-1)))), (h13, .inl (cI, 60, .inl (fun _ => 0))), (h14, .inl (cI, 60, .inl (upd (fun _ => 0) 0 1))), (h15, .inl (cI, 144, .inl (upd (upd (upd (upd (upd (upd (upd (upd (upd (upd (upd (upd (upd (upd (upd (upd (upd (upd (upd (upd (upd (fun _ => 0) 1 (-1)) 2 (-1)) 3 1) 4 1) 5 (-1)) 6 1) 7 (-1)) 8 (-1)) 9 1) 10 1) 11 (-1)) 12 2) 13 (-1)) 14 (-1)) 15 1) 16 1) 17 (-1)) 18 4) 21 3) 22 2) 23 (-1)))), (h16, .inl (cZ, 60, .inl (upd (fun _ => 0) 0 1))), (h2, .inr (4, [.ref h3, .ref g0])), (h3, .inr (6, [.ref h15, .int 4]))] H := hP
  have hD : va_D A [(h0, .inr (1, [.ref h9, .ref h1, .ref h4, .ref h7, .ref h14, .ref h8, .ref h16, .int 4, .int 3, .int 0, .int (-1), .int 0])), (h1, .inr (9, [.ref h2, .ref h3])), (h4, .inr (2, [.ref h5, .ref h6])), (h5, .inr (4, [.ref h6, .ref g1])), (h6, .inr (6, [.ref g2, .int 3])), (h7, .inr (6, [.ref g3, .int 0])), (h8, .inl (cI, 60, .inl (fun _ => (-1)))), (h9, .inr (7, [.ref h13, .ref g4, .ref g5, .ref h11, .ref g6, .ref g7, .ref h12, .ref h10, .ref g8, .int 1, .int 1, .int 0])), (h10, .inl (cI, 60, .inl (fun _ => 0))), (h11, .inl (cI, 60, .inl (fun _ => 0))), (h12, .inl (cI, 180, .inl (fun _ => (-1)))), (h13, .inl (cI, 60, .inl (fun _ => 0))), (h14, .inl (cI, 60, .inl (upd (fun _ => 0) 0 1))), (h15, .inl (cI, 144, .inl (upd (upd (upd (upd (upd (upd (upd (upd (upd (upd (upd (upd (upd (upd (upd (upd (upd (upd (upd (upd (upd (fun _ => 0) 1 (-1)) 2 (-1)) 3 1) 4 1) 5 (-1)) 6 1) 7 (-1)) 8 (-1)) 9 1) 10 1) 11 (-1)) 12 2) 13 (-1)) 14 (-1)) 15 1) 16 1) 17 (-1)) 18 4) 21 3) 22 2) 23 (-1)))), (h16, .inl (cZ, 60, .inl (upd (fun _ => 0) 0 1))), (h2, .inr (4, [.ref h3, .ref g0])), (h3, .inr (6, [.ref h15, .int 4]))] := hD
  refine W.widen (k := 0) (n := 0) (Nat.le_of_ble_eq_true rfl) (Nat.le_of_ble_eq_true rfl) ?_
  refine pcn (b := 14) rfl ?_
  refine lv_aload_n hx hb dX1_again_14 rfl (lv_at hl 0 rfl) ?_
  refine va_get (D := D) (ci := 1) (v := .ref h4) (C := RX1) (T := TX1) (N := 12) hx hb hts inX1 hown hK hP 0 rfl rfl 2 (by decide) (hts _ wm_282) (fun _ h9 => h9) rfl dX1_again_15 ?_
  refine va_getN (D := D) (ci := 2) (v := .ref h5) (C := RX2) (T := TX2) (N := 2) hx hb hts inX2 hown hK hP 2 rfl rfl 0 (by decide) (va_Nw.use rfl (hnw _ wn_244)) (fun _ h9 => h9) rfl dX1_again_18 ?_
  refine lv_iconst (v := 3) hx hb dX1_again_21 (by decide +kernel) ?_
  refine kVNv (As := [.int 3]) (rest := []) (wr := [(h0, .inr (1, [.ref h9, .ref h1, .ref h4, .ref h7, .ref h14, .ref h8, .ref h16, .int 4, .int 3, .int 0, .int (-1), .int 0])), (h1, .inr (9, [.ref h2, .ref h3])), (h4, .inr (2, [.ref h5, .ref h6])), (h7, .inr (6, [.ref g3, .int 0])), (h8, .inl (cI, 60, .inl (fun _ => (-1)))), (h9, .inr (7, [.ref h13, .ref g4, .ref g5, .ref h11, .ref g6, .ref g7, .ref h12, .ref h10, .ref g8, .int 1, .int 1, .int 0])), (h10, .inl (cI, 60, .inl (fun _ => 0))), (h11, .inl (cI, 60, .inl (fun _ => 0))), (h12, .inl (cI, 180, .inl (fun _ => (-1)))), (h13, .inl (cI, 60, .inl (fun _ => 0))), (h14, .inl (cI, 60, .inl (upd (fun _ => 0) 0 1))), (h15, .inl (cI, 144, .inl (upd (upd (upd (upd (upd (upd (upd (upd (upd (upd (upd (upd (upd (upd (upd (upd (upd (upd (upd (upd (upd (fun _ => 0) 1 (-1)) 2 (-1)) 3 1) 4 1) 5 (-1)) 6 1) 7 (-1)) 8 (-1)) 9 1) 10 1) 11 (-1)) 12 2) 13 (-1)) 14 (-1)) 15 1) 16 1) 17 (-1)) 18 4) 21 3) 22 2) 23 (-1)))), (h16, .inl (cZ, 60, .inl (upd (fun _ => 0) 0 1))), (h2, .inr (4, [.ref h3, .ref g0])), (h3, .inr (6, [.ref h15, .int 4]))]) hx hb hml hown hts hnw hK hP hD hS hA hl.1 (c_X4_cutTo_1 l D cI cZ cB cJ h5 h6 g1 g2) yk_X4_cutTo wn_472 [3, 4] [0, 1, 2, 5, 6, 7, 8, 9, 10, 11, 12, 13, 14, 15, 16] rfl rfl (by decide) (by decide) (by decide) 0 rfl rfl rfl rfl rfl dX1_again_22 ⟨Nat.le_of_ble_eq_true rfl, Nat.le_of_ble_eq_true rfl⟩ ⟨Nat.le_of_ble_eq_true rfl, Nat.le_of_ble_eq_true rfl⟩ (Nat.le_of_ble_eq_true rfl) (fun w1 H locs hq9 hP hD hS => ?_)
  obtain rfl := hq9
  have hP : va_P D vwCl [(h0, .inr (1, [.ref h9, .ref h1, .ref h4, .ref h7, .ref h14, .ref h8, .ref h16, .int 4, .int 3, .int 0, .int (-1), .int 0])), (h1, .inr (9, [.ref h2, .ref h3])), (h4, .inr (2, [.ref h5, .ref h6])), (h7, .inr (6, [.ref g3, .int 0])), (h8, .inl (cI, 60, .inl (fun _ => (-1)))), (h9, .inr (7, [.ref h13, .ref g4, .ref g5, .ref h11, .ref g6, .ref g7, .ref h12, .ref h10, .ref g8, .int 1, .int 1, .int 0])), (h10, .inl (cI, 60, .inl (fun _ => 0))), (h11, .inl (cI, 60, .inl (fun _ => 0))), (h12, .inl (cI, 180, .inl (fun _ => (-1)))), (h13, .inl (cI, 60, .inl (fun _ => 0))), (h14, .inl (cI, 60, .inl (upd (fun _ => 0) 0 1))), (h15, .inl (cI, 144, .inl (upd (upd (upd (upd (upd (upd (upd (upd (upd (upd (upd (upd (upd (upd (upd (upd (upd (upd (upd (upd (upd (fun _ => 0) 1 (-1)) 2 (-1)) 3 1) 4 1) 5 (-1)) 6 1) 7 (-1)) 8 (-1)) 9 1) 10 1) 11 (-1)) 12 2) 13 (-1)) 14 (-1)) 15 1) 16 1) 17 (-1)) 18 4) 21 3) 22 2) 23 (-1)))), (h16, .inl (cZ, 60, .inl (upd (fun _ => 0) 0 1))), (h2, .inr (4, [.ref h3, .ref g0])), (h3, .inr (6, [.ref h15, .int 4])), (h5, .inr (4, [.ref h6, .ref g1])), (h6, .inr (6, [.ref g2, .int 3]))] H := hP
  have hD : va_D A [(h0, .inr (1, [.ref h9, .ref h1, .ref h4, .ref h7, .ref h14, .ref h8, .ref h16, .int 4, .int 3, .int 0, .int (-1), .int 0])), (h1, .inr (9, [.ref h2, .ref h3])), (h4, .inr (2, [.ref h5, .ref h6])), (h7, .inr (6, [.ref g3, .int 0])), (h8, .inl (cI, 60, .inl (fun _ => (-1)))), (h9, .inr (7, [.ref h13, .ref g4, .ref g5, .ref h11, .ref g6, .ref g7, .ref h12, .ref h10, .ref g8, .int 1, .int 1, .int 0])), (h10, .inl (cI, 60, .inl (fun _ => 0))), (h11, .inl (cI, 60, .inl (fun _ => 0))), (h12, .inl (cI, 180, .inl (fun _ => (-1)))), (h13, .inl (cI, 60, .inl (fun _ => 0))), (h14, .inl (cI, 60, .inl (upd (fun _ => 0) 0 1))), (h15, .inl (cI, 144, .inl (upd (upd (upd (upd (upd (upd (upd (upd (upd (upd (upd (upd (upd (upd (upd (upd (upd (upd (upd (upd (upd (fun _ => 0) 1 (-1)) 2 (-1)) 3 1) 4 1) 5 (-1)) 6 1) 7 (-1)) 8 (-1)) 9 1) 10 1) 11 (-1)) 12 2) 13 (-1)) 14 (-1)) 15 1) 16 1) 17 (-1)) 18 4) 21 3) 22 2) 23 (-1)))), (h16, .inl (cZ, 60, .inl (upd (fun _ => 0) 0 1))), (h2, .inr (4, [.ref h3, .ref g0])), (h3, .inr (6, [.ref h15, .int 4])), (h5, .inr (4, [.ref h6, .ref g1])), (h6, .inr (6, [.ref g2, .int 3]))] := hD
  refine W.widen (k := 0) (n := 0) (Nat.le_of_ble_eq_true rfl) (Nat.le_of_ble_eq_true rfl) ?_
  refine pcn (b := 25) rfl ?_
  refine lv_aload_n hx hb dX1_again_25 rfl (lv_at hl 0 rfl) ?_
  refine va_get (D := D) (ci := 1) (v := .ref h7) (C := RX1) (T := TX1) (N := 12) hx hb hts inX1 hown hK hP 0 rfl rfl 3 (by decide) (hts _ wm_285) (fun _ h9 => h9) rfl dX1_again_26 ?_
  refine lv_iconst (v := 0) hx hb dX1_again_29 (by decide +kernel) ?_
  refine kVNv (As := [.int 0]) (rest := []) (wr := [(h0, .inr (1, [.ref h9, .ref h1, .ref h4, .ref h7, .ref h14, .ref h8, .ref h16, .int 4, .int 3, .int 0, .int (-1), .int 0])), (h1, .inr (9, [.ref h2, .ref h3])), (h4, .inr (2, [.ref h5, .ref h6])), (h8, .inl (cI, 60, .inl (fun _ => (-1)))), (h9, .inr (7, [.ref h13, .ref g4, .ref g5, .ref h11, .ref g6, .ref g7, .ref h12, .ref h10, .ref g8, .int 1, .int 1, .int 0])), (h10, .inl (cI, 60, .inl (fun _ => 0))), (h11, .inl (cI, 60, .inl (fun _ => 0))), (h12, .inl (cI, 180, .inl (fun _ => (-1)))), (h13, .inl (cI, 60, .inl (fun _ => 0))), (h14, .inl (cI, 60, .inl (upd (fun _ => 0) 0 1))), (h15, .inl (cI, 144, .inl (upd (upd (upd (upd (upd (upd (upd (upd (upd (upd (upd (upd (upd (upd (upd (upd (upd (upd (upd (upd (upd (fun _ => 0) 1 (-1)) 2 (-1)) 3 1) 4 1) 5 (-1)) 6 1) 7 (-1)) 8 (-1)) 9 1) 10 1) 11 (-1)) 12 2) 13 (-1)) 14 (-1)) 15 1) 16 1) 17 (-1)) 18 4) 21 3) 22 2) 23 (-1)))), (h16, .inl (cZ, 60, .inl (upd (fun _ => 0) 0 1))), (h2, .inr (4, [.ref h3, .ref g0])), (h3, .inr (6, [.ref h15, .int 4])), (h5, .inr (4, [.ref h6, .ref g1])), (h6, .inr (6, [.ref g2, .int 3]))]) hx hb hml hown hts hnw hK hP hD hS hA hl.1 (c_X6_cut_2 l D cI cZ cB cJ h7 g3) yk_X6_cut wn_480 [3] [0, 1, 2, 4, 5, 6, 7, 8, 9, 10, 11, 12, 13, 14, 15, 16] rfl rfl (by decide) (by decide) (by decide) 0 rfl rfl rfl rfl rfl dX1_again_30 ⟨Nat.le_of_ble_eq_true rfl, Nat.le_of_ble_eq_true rfl⟩ ⟨Nat.le_of_ble_eq_true rfl, Nat.le_of_ble_eq_true rfl⟩ (Nat.le_of_ble_eq_true rfl) (fun w1 H locs hq9 hP hD hS => ?_)
  obtain rfl := hq9
  have hP : va_P D vwCl [(h0, .inr (1, [.ref h9, .ref h1, .ref h4, .ref h7, .ref h14, .ref h8, .ref h16, .int 4, .int 3, .int 0, .int (-1), .int 0])), (h1, .inr (9, [.ref h2, .ref h3])), (h4, .inr (2, [.ref h5, .ref h6])), (h8, .inl (cI, 60, .inl (fun _ => (-1)))), (h9, .inr (7, [.ref h13, .ref g4, .ref g5, .ref h11, .ref g6, .ref g7, .ref h12, .ref h10, .ref g8, .int 1, .int 1, .int 0])), (h10, .inl (cI, 60, .inl (fun _ => 0))), (h11, .inl (cI, 60, .inl (fun _ => 0))), (h12, .inl (cI, 180, .inl (fun _ => (-1)))), (h13, .inl (cI, 60, .inl (fun _ => 0))), (h14, .inl (cI, 60, .inl (upd (fun _ => 0) 0 1))), (h15, .inl (cI, 144, .inl (upd (upd (upd (upd (upd (upd (upd (upd (upd (upd (upd (upd (upd (upd (upd (upd (upd (upd (upd (upd (upd (fun _ => 0) 1 (-1)) 2 (-1)) 3 1) 4 1) 5 (-1)) 6 1) 7 (-1)) 8 (-1)) 9 1) 10 1) 11 (-1)) 12 2) 13 (-1)) 14 (-1)) 15 1) 16 1) 17 (-1)) 18 4) 21 3) 22 2) 23 (-1)))), (h16, .inl (cZ, 60, .inl (upd (fun _ => 0) 0 1))), (h2, .inr (4, [.ref h3, .ref g0])), (h3, .inr (6, [.ref h15, .int 4])), (h5, .inr (4, [.ref h6, .ref g1])), (h6, .inr (6, [.ref g2, .int 3])), (h7, .inr (6, [.ref g3, .int 0]))] H := hP
  have hD : va_D A [(h0, .inr (1, [.ref h9, .ref h1, .ref h4, .ref h7, .ref h14, .ref h8, .ref h16, .int 4, .int 3, .int 0, .int (-1), .int 0])), (h1, .inr (9, [.ref h2, .ref h3])), (h4, .inr (2, [.ref h5, .ref h6])), (h8, .inl (cI, 60, .inl (fun _ => (-1)))), (h9, .inr (7, [.ref h13, .ref g4, .ref g5, .ref h11, .ref g6, .ref g7, .ref h12, .ref h10, .ref g8, .int 1, .int 1, .int 0])), (h10, .inl (cI, 60, .inl (fun _ => 0))), (h11, .inl (cI, 60, .inl (fun _ => 0))), (h12, .inl (cI, 180, .inl (fun _ => (-1)))), (h13, .inl (cI, 60, .inl (fun _ => 0))), (h14, .inl (cI, 60, .inl (upd (fun _ => 0) 0 1))), (h15, .inl (cI, 144, .inl (upd (upd (upd (upd (upd (upd (upd (upd (upd (upd (upd (upd (upd (upd (upd (upd (upd (upd (upd (upd (upd (fun _ => 0) 1 (-1)) 2 (-1)) 3 1) 4 1) 5 (-1)) 6 1) 7 (-1)) 8 (-1)) 9 1) 10 1) 11 (-1)) 12 2) 13 (-1)) 14 (-1)) 15 1) 16 1) 17 (-1)) 18 4) 21 3) 22 2) 23 (-1)))), (h16, .inl (cZ, 60, .inl (upd (fun _ => 0) 0 1))), (h2, .inr (4, [.ref h3, .ref g0])), (h3, .inr (6, [.ref h15, .int 4])), (h5, .inr (4, [.ref h6, .ref g1])), (h6, .inr (6, [.ref g2, .int 3])), (h7, .inr (6, [.ref g3, .int 0]))] := hD
  refine W.widen (k := 0) (n := 0) (Nat.le_of_ble_eq_true rfl) (Nat.le_of_ble_eq_true rfl) ?_
  refine pcn (b := 33) rfl ?_
  refine lv_aload_n hx hb dX1_again_33 rfl (lv_at hl 0 rfl) ?_
  refine va_get (D := D) (ci := 1) (v := .ref h8) (C := RX1) (T := TX1) (N := 12) hx hb hts inX1 hown hK hP 0 rfl rfl 5 (by decide) (hts _ wm_290) (fun _ h9 => h9) rfl dX1_again_34 ?_
  refine lv_iconst (v := (-1)) hx hb dX1_again_37 (by decide +kernel) ?_
  refine kSv (As := [.ref h8, .int (-1)]) (rest := []) (wr := [(h0, .inr (1, [.ref h9, .ref h1, .ref h4, .ref h7, .ref h14, .ref h8, .ref h16, .int 4, .int 3, .int 0, .int (-1), .int 0])), (h1, .inr (9, [.ref h2, .ref h3])), (h4, .inr (2, [.ref h5, .ref h6])), (h9, .inr (7, [.ref h13, .ref g4, .ref g5, .ref h11, .ref g6, .ref g7, .ref h12, .ref h10, .ref g8, .int 1, .int 1, .int 0])), (h10, .inl (cI, 60, .inl (fun _ => 0))), (h11, .inl (cI, 60, .inl (fun _ => 0))), (h12, .inl (cI, 180, .inl (fun _ => (-1)))), (h13, .inl (cI, 60, .inl (fun _ => 0))), (h14, .inl (cI, 60, .inl (upd (fun _ => 0) 0 1))), (h15, .inl (cI, 144, .inl (upd (upd (upd (upd (upd (upd (upd (upd (upd (upd (upd (upd (upd (upd (upd (upd (upd (upd (upd (upd (upd (fun _ => 0) 1 (-1)) 2 (-1)) 3 1) 4 1) 5 (-1)) 6 1) 7 (-1)) 8 (-1)) 9 1) 10 1) 11 (-1)) 12 2) 13 (-1)) 14 (-1)) 15 1) 16 1) 17 (-1)) 18 4) 21 3) 22 2) 23 (-1)))), (h16, .inl (cZ, 60, .inl (upd (fun _ => 0) 0 1))), (h2, .inr (4, [.ref h3, .ref g0])), (h3, .inr (6, [.ref h15, .int 4])), (h5, .inr (4, [.ref h6, .ref g1])), (h6, .inr (6, [.ref g2, .int 3])), (h7, .inr (6, [.ref g3, .int 0]))]) hx hb hml hown hts hnw hK hP hD hS hA hl.1 (c_fill l D cI cZ cB cJ h8 60 (fun _ => (-1)) (-1) (by decide)) yk_J7_fill_53178 wm_481 [3] [0, 1, 2, 4, 5, 6, 7, 8, 9, 10, 11, 12, 13, 14, 15, 16] rfl rfl (by decide) (by decide) (by decide) rfl rfl dX1_again_38 ⟨Nat.le_of_ble_eq_true rfl, Nat.le_of_ble_eq_true rfl⟩ ⟨Nat.le_of_ble_eq_true rfl, Nat.le_of_ble_eq_true rfl⟩ (Nat.le_of_ble_eq_true rfl) (fun w1 H locs hq9 hP hD hS => ?_)
  obtain rfl := hq9
  have hP : va_P D vwCl [(h0, .inr (1, [.ref h9, .ref h1, .ref h4, .ref h7, .ref h14, .ref h8, .ref h16, .int 4, .int 3, .int 0, .int (-1), .int 0])), (h1, .inr (9, [.ref h2, .ref h3])), (h4, .inr (2, [.ref h5, .ref h6])), (h9, .inr (7, [.ref h13, .ref g4, .ref g5, .ref h11, .ref g6, .ref g7, .ref h12, .ref h10, .ref g8, .int 1, .int 1, .int 0])), (h10, .inl (cI, 60, .inl (fun _ => 0))), (h11, .inl (cI, 60, .inl (fun _ => 0))), (h12, .inl (cI, 180, .inl (fun _ => (-1)))), (h13, .inl (cI, 60, .inl (fun _ => 0))), (h14, .inl (cI, 60, .inl (upd (fun _ => 0) 0 1))), (h15, .inl (cI, 144, .inl (upd (upd (upd (upd (upd (upd (upd (upd (upd (upd (upd (upd (upd (upd (upd (upd (upd (upd (upd (upd (upd (fun _ => 0) 1 (-1)) 2 (-1)) 3 1) 4 1) 5 (-1)) 6 1) 7 (-1)) 8 (-1)) 9 1) 10 1) 11 (-1)) 12 2) 13 (-1)) 14 (-1)) 15 1) 16 1) 17 (-1)) 18 4) 21 3) 22 2) 23 (-1)))), (h16, .inl (cZ, 60, .inl (upd (fun _ => 0) 0 1))), (h2, .inr (4, [.ref h3, .ref g0])), (h3, .inr (6, [.ref h15, .int 4])), (h5, .inr (4, [.ref h6, .ref g1])), (h6, .inr (6, [.ref g2, .int 3])), (h7, .inr (6, [.ref g3, .int 0])), (h8, .inl (cI, 60, .inl (fun _ => (-1))))] H := hP
  have hD : va_D A [(h0, .inr (1, [.ref h9, .ref h1, .ref h4, .ref h7, .ref h14, .ref h8, .ref h16, .int 4, .int 3, .int 0, .int (-1), .int 0])), (h1, .inr (9, [.ref h2, .ref h3])), (h4, .inr (2, [.ref h5, .ref h6])), (h9, .inr (7, [.ref h13, .ref g4, .ref g5, .ref h11, .ref g6, .ref g7, .ref h12, .ref h10, .ref g8, .int 1, .int 1, .int 0])), (h10, .inl (cI, 60, .inl (fun _ => 0))), (h11, .inl (cI, 60, .inl (fun _ => 0))), (h12, .inl (cI, 180, .inl (fun _ => (-1)))), (h13, .inl (cI, 60, .inl (fun _ => 0))), (h14, .inl (cI, 60, .inl (upd (fun _ => 0) 0 1))), (h15, .inl (cI, 144, .inl (upd (upd (upd (upd (upd (upd (upd (upd (upd (upd (upd (upd (upd (upd (upd (upd (upd (upd (upd (upd (upd (fun _ => 0) 1 (-1)) 2 (-1)) 3 1) 4 1) 5 (-1)) 6 1) 7 (-1)) 8 (-1)) 9 1) 10 1) 11 (-1)) 12 2) 13 (-1)) 14 (-1)) 15 1) 16 1) 17 (-1)) 18 4) 21 3) 22 2) 23 (-1)))), (h16, .inl (cZ, 60, .inl (upd (fun _ => 0) 0 1))), (h2, .inr (4, [.ref h3, .ref g0])), (h3, .inr (6, [.ref h15, .int 4])), (h5, .inr (4, [.ref h6, .ref g1])), (h6, .inr (6, [.ref g2, .int 3])), (h7, .inr (6, [.ref g3, .int 0])), (h8, .inl (cI, 60, .inl (fun _ => (-1))))] := hD
  refine W.widen (k := 0) (n := 0) (Nat.le_of_ble_eq_true rfl) (Nat.le_of_ble_eq_true rfl) ?_
  refine pcn (b := 41) rfl ?_
  refine lv_iconst (v := 0) hx hb dX1_again_41 (by decide +kernel) ?_
  refine lv_istore_n (lv' := [(1, .int 0), (0, .ref h0)]) hx hb dX1_again_42 rfl hl (by decide) rfl (fun ls hl => ?_)
  refine lv_iload_n hx hb dX1_again_43 rfl (lv_at hl 0 rfl) ?_
  refine lv_aload_n hx hb dX1_again_44 rfl (lv_at hl 1 rfl) ?_
  refine va_get (D := D) (ci := 1) (v := .ref h9) (C := RX1) (T := TX1) (N := 12) hx hb hts inX1 hown hK hP 0 rfl rfl 0 (by decide) (hts _ wm_274) (fun _ h9 => h9) rfl dX1_again_45 ?_
  refine va_getN (D := D) (ci := 7) (v := .int 1) (C := RX7) (T := TX7) (N := 12) hx hb hts inX7 hown hK hP 3 rfl rfl 9 (by decide) (va_Nw.use rfl (hnw _ wn_99)) (fun _ h9 => h9) rfl dX1_again_48 ?_
  refine lv_icmp_ge (tgt := 99) hx hb dX1_again_51 (by decide) (fun h9 => absurd h9 (by decide +kernel)) (fun _ => ?_)
  refine pcn (b := 54) rfl ?_
  refine lv_aload_n hx hb dX1_again_54 rfl (lv_at hl 1 rfl) ?_
  refine va_get (D := D) (ci := 1) (v := .ref h9) (C := RX1) (T := TX1) (N := 12) hx hb hts inX1 hown hK hP 0 rfl rfl 0 (by decide) (hts _ wm_274) (fun _ h9 => h9) rfl dX1_again_55 ?_
  refine va_getN (D := D) (ci := 7) (v := .ref h10) (C := RX7) (T := TX7) (N := 12) hx hb hts inX7 hown hK hP 3 rfl rfl 7 (by decide) (va_Nw.use rfl (hnw _ wn_94)) (fun _ h9 => h9) rfl dX1_again_58 ?_
  refine lv_iload_n hx hb dX1_again_61 rfl (lv_at hl 0 rfl) ?_
  refine kSNi (As := [.ref h10, .int 0]) (rest := []) (wr := [(h0, .inr (1, [.ref h9, .ref h1, .ref h4, .ref h7, .ref h14, .ref h8, .ref h16, .int 4, .int 3, .int 0, .int (-1), .int 0])), (h1, .inr (9, [.ref h2, .ref h3])), (h4, .inr (2, [.ref h5, .ref h6])), (h9, .inr (7, [.ref h13, .ref g4, .ref g5, .ref h11, .ref g6, .ref g7, .ref h12, .ref h10, .ref g8, .int 1, .int 1, .int 0])), (h11, .inl (cI, 60, .inl (fun _ => 0))), (h12, .inl (cI, 180, .inl (fun _ => (-1)))), (h13, .inl (cI, 60, .inl (fun _ => 0))), (h14, .inl (cI, 60, .inl (upd (fun _ => 0) 0 1))), (h15, .inl (cI, 144, .inl (upd (upd (upd (upd (upd (upd (upd (upd (upd (upd (upd (upd (upd (upd (upd (upd (upd (upd (upd (upd (upd (fun _ => 0) 1 (-1)) 2 (-1)) 3 1) 4 1) 5 (-1)) 6 1) 7 (-1)) 8 (-1)) 9 1) 10 1) 11 (-1)) 12 2) 13 (-1)) 14 (-1)) 15 1) 16 1) 17 (-1)) 18 4) 21 3) 22 2) 23 (-1)))), (h16, .inl (cZ, 60, .inl (upd (fun _ => 0) 0 1))), (h2, .inr (4, [.ref h3, .ref g0])), (h3, .inr (6, [.ref h15, .int 4])), (h5, .inr (4, [.ref h6, .ref g1])), (h6, .inr (6, [.ref g2, .int 3])), (h7, .inr (6, [.ref g3, .int 0])), (h8, .inl (cI, 60, .inl (fun _ => (-1))))]) hx hb hml hown hts hnw hK hP hD hS hA hl.1 (c_X11_at_4 l D cI cZ cB cJ h10) yk_X11_at wn_482 [4] [0, 1, 2, 3, 5, 6, 7, 8, 9, 10, 11, 12, 13, 14, 15, 16] rfl rfl (by decide) (by decide) (by decide) rfl rfl dX1_again_62 ⟨Nat.le_of_ble_eq_true rfl, Nat.le_of_ble_eq_true rfl⟩ ⟨Nat.le_of_ble_eq_true rfl, Nat.le_of_ble_eq_true rfl⟩ (Nat.le_of_ble_eq_true rfl) (fun r9 w1 H locs hq9 hP hD hS => ?_)
  obtain ⟨rfl, rfl⟩ := hq9
  have hP : va_P D vwCl [(h0, .inr (1, [.ref h9, .ref h1, .ref h4, .ref h7, .ref h14, .ref h8, .ref h16, .int 4, .int 3, .int 0, .int (-1), .int 0])), (h1, .inr (9, [.ref h2, .ref h3])), (h4, .inr (2, [.ref h5, .ref h6])), (h9, .inr (7, [.ref h13, .ref g4, .ref g5, .ref h11, .ref g6, .ref g7, .ref h12, .ref h10, .ref g8, .int 1, .int 1, .int 0])), (h11, .inl (cI, 60, .inl (fun _ => 0))), (h12, .inl (cI, 180, .inl (fun _ => (-1)))), (h13, .inl (cI, 60, .inl (fun _ => 0))), (h14, .inl (cI, 60, .inl (upd (fun _ => 0) 0 1))), (h15, .inl (cI, 144, .inl (upd (upd (upd (upd (upd (upd (upd (upd (upd (upd (upd (upd (upd (upd (upd (upd (upd (upd (upd (upd (upd (fun _ => 0) 1 (-1)) 2 (-1)) 3 1) 4 1) 5 (-1)) 6 1) 7 (-1)) 8 (-1)) 9 1) 10 1) 11 (-1)) 12 2) 13 (-1)) 14 (-1)) 15 1) 16 1) 17 (-1)) 18 4) 21 3) 22 2) 23 (-1)))), (h16, .inl (cZ, 60, .inl (upd (fun _ => 0) 0 1))), (h2, .inr (4, [.ref h3, .ref g0])), (h3, .inr (6, [.ref h15, .int 4])), (h5, .inr (4, [.ref h6, .ref g1])), (h6, .inr (6, [.ref g2, .int 3])), (h7, .inr (6, [.ref g3, .int 0])), (h8, .inl (cI, 60, .inl (fun _ => (-1)))), (h10, .inl (cI, 60, .inl (fun _ => 0)))] H := hP
  have hD : va_D A [(h0, .inr (1, [.ref h9, .ref h1, .ref h4, .ref h7, .ref h14, .ref h8, .ref h16, .int 4, .int 3, .int 0, .int (-1), .int 0])), (h1, .inr (9, [.ref h2, .ref h3])), (h4, .inr (2, [.ref h5, .ref h6])), (h9, .inr (7, [.ref h13, .ref g4, .ref g5, .ref h11, .ref g6, .ref g7, .ref h12, .ref h10, .ref g8, .int 1, .int 1, .int 0])), (h11, .inl (cI, 60, .inl (fun _ => 0))), (h12, .inl (cI, 180, .inl (fun _ => (-1)))), (h13, .inl (cI, 60, .inl (fun _ => 0))), (h14, .inl (cI, 60, .inl (upd (fun _ => 0) 0 1))), (h15, .inl (cI, 144, .inl (upd (upd (upd (upd (upd (upd (upd (upd (upd (upd (upd (upd (upd (upd (upd (upd (upd (upd (upd (upd (upd (fun _ => 0) 1 (-1)) 2 (-1)) 3 1) 4 1) 5 (-1)) 6 1) 7 (-1)) 8 (-1)) 9 1) 10 1) 11 (-1)) 12 2) 13 (-1)) 14 (-1)) 15 1) 16 1) 17 (-1)) 18 4) 21 3) 22 2) 23 (-1)))), (h16, .inl (cZ, 60, .inl (upd (fun _ => 0) 0 1))), (h2, .inr (4, [.ref h3, .ref g0])), (h3, .inr (6, [.ref h15, .int 4])), (h5, .inr (4, [.ref h6, .ref g1])), (h6, .inr (6, [.ref g2, .int 3])), (h7, .inr (6, [.ref g3, .int 0])), (h8, .inl (cI, 60, .inl (fun _ => (-1)))), (h10, .inl (cI, 60, .inl (fun _ => 0)))] := hD
  refine W.widen (k := 0) (n := 0) (Nat.le_of_ble_eq_true rfl) (Nat.le_of_ble_eq_true rfl) ?_
  refine pcn (b := 65) rfl ?_
  refine lv_istore_n (lv' := [(2, .int 0), (1, .int 0), (0, .ref h0)]) hx hb dX1_again_65 rfl hl (by decide) rfl (fun ls hl => ?_)
  refine lv_aload_n hx hb dX1_again_66 rfl (lv_at hl 2 rfl) ?_
  refine lv_iload_n hx hb dX1_again_67 rfl (lv_at hl 0 rfl) ?_
  refine kVi (As := [.int 0]) (rest := []) (wr := [(h1, .inr (9, [.ref h2, .ref h3])), (h4, .inr (2, [.ref h5, .ref h6])), (h14, .inl (cI, 60, .inl (upd (fun _ => 0) 0 1))), (h15, .inl (cI, 144, .inl (upd (upd (upd (upd (upd (upd (upd (upd (upd (upd (upd (upd (upd (upd (upd (upd (upd (upd (upd (upd (upd (fun _ => 0) 1 (-1)) 2 (-1)) 3 1) 4 1) 5 (-1)) 6 1) 7 (-1)) 8 (-1)) 9 1) 10 1) 11 (-1)) 12 2) 13 (-1)) 14 (-1)) 15 1) 16 1) 17 (-1)) 18 4) 21 3) 22 2) 23 (-1)))), (h16, .inl (cZ, 60, .inl (upd (fun _ => 0) 0 1))), (h2, .inr (4, [.ref h3, .ref g0])), (h3, .inr (6, [.ref h15, .int 4])), (h5, .inr (4, [.ref h6, .ref g1])), (h6, .inr (6, [.ref g2, .int 3])), (h7, .inr (6, [.ref g3, .int 0])), (h8, .inl (cI, 60, .inl (fun _ => (-1)))), (h10, .inl (cI, 60, .inl (fun _ => 0)))]) hx hb hml hown hts hnw hK hP hD hS hA hl.1 (c_X1_typeOf_1 l D cI cZ cB cJ h0 h9 h11 h12 h13 h1 h4 h7 h14 h8 h16 g4 g5 g6 g7 h10 g8) yk_X1_typeOf wm_483 [0, 3, 4, 5, 6] [1, 2, 7, 8, 9, 10, 11, 12, 13, 14, 15, 16] rfl rfl (by decide) (by decide) (by decide) 0 rfl rfl rfl rfl rfl dX1_again_68 ⟨Nat.le_of_ble_eq_true rfl, Nat.le_of_ble_eq_true rfl⟩ ⟨Nat.le_of_ble_eq_true rfl, Nat.le_of_ble_eq_true rfl⟩ (Nat.le_of_ble_eq_true rfl) (fun r9 w1 H locs hq9 hP hD hS => ?_)
  obtain ⟨rfl, rfl⟩ := hq9
  have hP : va_P D vwCl [(h1, .inr (9, [.ref h2, .ref h3])), (h4, .inr (2, [.ref h5, .ref h6])), (h14, .inl (cI, 60, .inl (upd (fun _ => 0) 0 1))), (h15, .inl (cI, 144, .inl (upd (upd (upd (upd (upd (upd (upd (upd (upd (upd (upd (upd (upd (upd (upd (upd (upd (upd (upd (upd (upd (fun _ => 0) 1 (-1)) 2 (-1)) 3 1) 4 1) 5 (-1)) 6 1) 7 (-1)) 8 (-1)) 9 1) 10 1) 11 (-1)) 12 2) 13 (-1)) 14 (-1)) 15 1) 16 1) 17 (-1)) 18 4) 21 3) 22 2) 23 (-1)))), (h16, .inl (cZ, 60, .inl (upd (fun _ => 0) 0 1))), (h2, .inr (4, [.ref h3, .ref g0])), (h3, .inr (6, [.ref h15, .int 4])), (h5, .inr (4, [.ref h6, .ref g1])), (h6, .inr (6, [.ref g2, .int 3])), (h7, .inr (6, [.ref g3, .int 0])), (h8, .inl (cI, 60, .inl (fun _ => (-1)))), (h10, .inl (cI, 60, .inl (fun _ => 0))), (h0, .inr (1, [.ref h9, .ref h1, .ref h4, .ref h7, .ref h14, .ref h8, .ref h16, .int 4, .int 3, .int 0, .int (-1), .int 0])), (h9, .inr (7, [.ref h13, .ref g4, .ref g5, .ref h11, .ref g6, .ref g7, .ref h12, .ref h10, .ref g8, .int 1, .int 1, .int 0])), (h11, .inl (cI, 60, .inl (fun _ => 0))), (h12, .inl (cI, 180, .inl (fun _ => (-1)))), (h13, .inl (cI, 60, .inl (fun _ => 0)))] H := hP
  have hD : va_D A [(h1, .inr (9, [.ref h2, .ref h3])), (h4, .inr (2, [.ref h5, .ref h6])), (h14, .inl (cI, 60, .inl (upd (fun _ => 0) 0 1))), (h15, .inl (cI, 144, .inl (upd (upd (upd (upd (upd (upd (upd (upd (upd (upd (upd (upd (upd (upd (upd (upd (upd (upd (upd (upd (upd (fun _ => 0) 1 (-1)) 2 (-1)) 3 1) 4 1) 5 (-1)) 6 1) 7 (-1)) 8 (-1)) 9 1) 10 1) 11 (-1)) 12 2) 13 (-1)) 14 (-1)) 15 1) 16 1) 17 (-1)) 18 4) 21 3) 22 2) 23 (-1)))), (h16, .inl (cZ, 60, .inl (upd (fun _ => 0) 0 1))), (h2, .inr (4, [.ref h3, .ref g0])), (h3, .inr (6, [.ref h15, .int 4])), (h5, .inr (4, [.ref h6, .ref g1])), (h6, .inr (6, [.ref g2, .int 3])), (h7, .inr (6, [.ref g3, .int 0])), (h8, .inl (cI, 60, .inl (fun _ => (-1)))), (h10, .inl (cI, 60, .inl (fun _ => 0))), (h0, .inr (1, [.ref h9, .ref h1, .ref h4, .ref h7, .ref h14, .ref h8, .ref h16, .int 4, .int 3, .int 0, .int (-1), .int 0])), (h9, .inr (7, [.ref h13, .ref g4, .ref g5, .ref h11, .ref g6, .ref g7, .ref h12, .ref h10, .ref g8, .int 1, .int 1, .int 0])), (h11, .inl (cI, 60, .inl (fun _ => 0))), (h12, .inl (cI, 180, .inl (fun _ => (-1)))), (h13, .inl (cI, 60, .inl (fun _ => 0)))] := hD
  refine W.widen (k := 0) (n := 0) (Nat.le_of_ble_eq_true rfl) (Nat.le_of_ble_eq_true rfl) ?_
  refine pcn (b := 71) rfl ?_
  refine lv_istore_n (lv' := [(3, .int 1), (2, .int 0), (1, .int 0), (0, .ref h0)]) hx hb dX1_again_71 rfl hl (by decide) rfl (fun ls hl => ?_)
  refine lv_iload_n hx hb dX1_again_72 rfl (lv_at hl 0 rfl) ?_
  refine lv_if_ge (tgt := 78) hx hb dX1_again_73 (by decide) (fun _ => ?_) (fun h9 => absurd (by decide +kernel) h9)
  refine lv_aload_n hx hb dX1_again_78 rfl (lv_at hl 3 rfl) ?_
  refine va_get (D := D) (ci := 1) (v := .ref h14) (C := RX1) (T := TX1) (N := 12) hx hb hts inX1 hown hK hP 12 rfl rfl 4 (by decide) (hts _ wm_288) (fun _ h9 => h9) rfl dX1_again_79 ?_
  refine lv_iload_n hx hb dX1_again_82 rfl (lv_at hl 1 rfl) ?_
  refine lv_iload_n hx hb dX1_again_83 rfl (lv_at hl 0 rfl) ?_
  refine kSNv (As := [.ref h14, .int 0, .int 1]) (rest := []) (wr := [(h1, .inr (9, [.ref h2, .ref h3])), (h4, .inr (2, [.ref h5, .ref h6])), (h15, .inl (cI, 144, .inl (upd (upd (upd (upd (upd (upd (upd (upd (upd (upd (upd (upd (upd (upd (upd (upd (upd (upd (upd (upd (upd (fun _ => 0) 1 (-1)) 2 (-1)) 3 1) 4 1) 5 (-1)) 6 1) 7 (-1)) 8 (-1)) 9 1) 10 1) 11 (-1)) 12 2) 13 (-1)) 14 (-1)) 15 1) 16 1) 17 (-1)) 18 4) 21 3) 22 2) 23 (-1)))), (h16, .inl (cZ, 60, .inl (upd (fun _ => 0) 0 1))), (h2, .inr (4, [.ref h3, .ref g0])), (h3, .inr (6, [.ref h15, .int 4])), (h5, .inr (4, [.ref h6, .ref g1])), (h6, .inr (6, [.ref g2, .int 3])), (h7, .inr (6, [.ref g3, .int 0])), (h8, .inl (cI, 60, .inl (fun _ => (-1)))), (h10, .inl (cI, 60, .inl (fun _ => 0))), (h0, .inr (1, [.ref h9, .ref h1, .ref h4, .ref h7, .ref h14, .ref h8, .ref h16, .int 4, .int 3, .int 0, .int (-1), .int 0])), (h9, .inr (7, [.ref h13, .ref g4, .ref g5, .ref h11, .ref g6, .ref g7, .ref h12, .ref h10, .ref g8, .int 1, .int 1, .int 0])), (h11, .inl (cI, 60, .inl (fun _ => 0))), (h12, .inl (cI, 180, .inl (fun _ => (-1)))), (h13, .inl (cI, 60, .inl (fun _ => 0)))]) hx hb hml hown hts hnw hK hP hD hS hA hl.1 (c_X11_put_27 l D cI cZ cB cJ h14) yk_X11_put wn_552 [2] [0, 1, 3, 4, 5, 6, 7, 8, 9, 10, 11, 12, 13, 14, 15, 16] rfl rfl (by decide) (by decide) (by decide) rfl rfl dX1_again_84 ⟨Nat.le_of_ble_eq_true rfl, Nat.le_of_ble_eq_true rfl⟩ ⟨Nat.le_of_ble_eq_true rfl, Nat.le_of_ble_eq_true rfl⟩ (Nat.le_of_ble_eq_true rfl) (fun w1 H locs hq9 hP hD hS => ?_)
  obtain rfl := hq9
  have hP : va_P D vwCl [(h1, .inr (9, [.ref h2, .ref h3])), (h4, .inr (2, [.ref h5, .ref h6])), (h15, .inl (cI, 144, .inl (upd (upd (upd (upd (upd (upd (upd (upd (upd (upd (upd (upd (upd (upd (upd (upd (upd (upd (upd (upd (upd (fun _ => 0) 1 (-1)) 2 (-1)) 3 1) 4 1) 5 (-1)) 6 1) 7 (-1)) 8 (-1)) 9 1) 10 1) 11 (-1)) 12 2) 13 (-1)) 14 (-1)) 15 1) 16 1) 17 (-1)) 18 4) 21 3) 22 2) 23 (-1)))), (h16, .inl (cZ, 60, .inl (upd (fun _ => 0) 0 1))), (h2, .inr (4, [.ref h3, .ref g0])), (h3, .inr (6, [.ref h15, .int 4])), (h5, .inr (4, [.ref h6, .ref g1])), (h6, .inr (6, [.ref g2, .int 3])), (h7, .inr (6, [.ref g3, .int 0])), (h8, .inl (cI, 60, .inl (fun _ => (-1)))), (h10, .inl (cI, 60, .inl (fun _ => 0))), (h0, .inr (1, [.ref h9, .ref h1, .ref h4, .ref h7, .ref h14, .ref h8, .ref h16, .int 4, .int 3, .int 0, .int (-1), .int 0])), (h9, .inr (7, [.ref h13, .ref g4, .ref g5, .ref h11, .ref g6, .ref g7, .ref h12, .ref h10, .ref g8, .int 1, .int 1, .int 0])), (h11, .inl (cI, 60, .inl (fun _ => 0))), (h12, .inl (cI, 180, .inl (fun _ => (-1)))), (h13, .inl (cI, 60, .inl (fun _ => 0))), (h14, .inl (cI, 60, .inl (upd (fun _ => 0) 0 1)))] H := hP
  have hD : va_D A [(h1, .inr (9, [.ref h2, .ref h3])), (h4, .inr (2, [.ref h5, .ref h6])), (h15, .inl (cI, 144, .inl (upd (upd (upd (upd (upd (upd (upd (upd (upd (upd (upd (upd (upd (upd (upd (upd (upd (upd (upd (upd (upd (fun _ => 0) 1 (-1)) 2 (-1)) 3 1) 4 1) 5 (-1)) 6 1) 7 (-1)) 8 (-1)) 9 1) 10 1) 11 (-1)) 12 2) 13 (-1)) 14 (-1)) 15 1) 16 1) 17 (-1)) 18 4) 21 3) 22 2) 23 (-1)))), (h16, .inl (cZ, 60, .inl (upd (fun _ => 0) 0 1))), (h2, .inr (4, [.ref h3, .ref g0])), (h3, .inr (6, [.ref h15, .int 4])), (h5, .inr (4, [.ref h6, .ref g1])), (h6, .inr (6, [.ref g2, .int 3])), (h7, .inr (6, [.ref g3, .int 0])), (h8, .inl (cI, 60, .inl (fun _ => (-1)))), (h10, .inl (cI, 60, .inl (fun _ => 0))), (h0, .inr (1, [.ref h9, .ref h1, .ref h4, .ref h7, .ref h14, .ref h8, .ref h16, .int 4, .int 3, .int 0, .int (-1), .int 0])), (h9, .inr (7, [.ref h13, .ref g4, .ref g5, .ref h11, .ref g6, .ref g7, .ref h12, .ref h10, .ref g8, .int 1, .int 1, .int 0])), (h11, .inl (cI, 60, .inl (fun _ => 0))), (h12, .inl (cI, 180, .inl (fun _ => (-1)))), (h13, .inl (cI, 60, .inl (fun _ => 0))), (h14, .inl (cI, 60, .inl (upd (fun _ => 0) 0 1)))] := hD
  refine W.widen (k := 0) (n := 0) (Nat.le_of_ble_eq_true rfl) (Nat.le_of_ble_eq_true rfl) ?_
  refine pcn (b := 87) rfl ?_
  refine lv_aload_n hx hb dX1_again_87 rfl (lv_at hl 3 rfl) ?_
  refine lv_iload_n hx hb dX1_again_88 rfl (lv_at hl 1 rfl) ?_
  refine lv_iload_n hx hb dX1_again_89 rfl (lv_at hl 0 rfl) ?_
  refine kVv (As := [.int 0, .int 1]) (rest := []) (wr := [(h4, .inr (2, [.ref h5, .ref h6])), (h2, .inr (4, [.ref h3, .ref g0])), (h5, .inr (4, [.ref h6, .ref g1])), (h6, .inr (6, [.ref g2, .int 3])), (h7, .inr (6, [.ref g3, .int 0])), (h8, .inl (cI, 60, .inl (fun _ => (-1)))), (h10, .inl (cI, 60, .inl (fun _ => 0))), (h11, .inl (cI, 60, .inl (fun _ => 0))), (h13, .inl (cI, 60, .inl (fun _ => 0))), (h14, .inl (cI, 60, .inl (upd (fun _ => 0) 0 1)))]) hx hb hml hown hts hnw hK hP hD hS hA hl.1 (c_X1_setTyped_1 l D cI cZ cB cJ h0 h1 h3 h15 h9 h12 h16 h4 h7 h14 h8 h2 h13 g4 g5 h11 g6 g7 h10 g8) yk_X1_setTyped wm_570 [11, 0, 5, 2, 12, 14, 3] [1, 4, 6, 7, 8, 9, 10, 13, 15, 16] rfl rfl (by decide) (by decide) (by decide) 0 rfl rfl rfl rfl rfl dX1_again_90 ⟨Nat.le_of_ble_eq_true rfl, Nat.le_of_ble_eq_true rfl⟩ ⟨Nat.le_of_ble_eq_true rfl, Nat.le_of_ble_eq_true rfl⟩ (Nat.le_of_ble_eq_true rfl) (fun w1 H locs hq9 hP hD hS => ?_)
  obtain rfl := hq9
  have hP : va_P D vwCl [(h4, .inr (2, [.ref h5, .ref h6])), (h2, .inr (4, [.ref h3, .ref g0])), (h5, .inr (4, [.ref h6, .ref g1])), (h6, .inr (6, [.ref g2, .int 3])), (h7, .inr (6, [.ref g3, .int 0])), (h8, .inl (cI, 60, .inl (fun _ => (-1)))), (h10, .inl (cI, 60, .inl (fun _ => 0))), (h11, .inl (cI, 60, .inl (fun _ => 0))), (h13, .inl (cI, 60, .inl (fun _ => 0))), (h14, .inl (cI, 60, .inl (upd (fun _ => 0) 0 1))), (h0, .inr (1, [.ref h9, .ref h1, .ref h4, .ref h7, .ref h14, .ref h8, .ref h16, .int 4, .int 3, .int 0, .int (-1), .int 0])), (h1, .inr (9, [.ref h2, .ref h3])), (h3, .inr (6, [.ref h15, .int 4])), (h15, .inl (cI, 144, .inl (upd (upd (upd (upd (upd (upd (upd (upd (upd (upd (upd (upd (upd (upd (upd (upd (upd (upd (upd (upd (upd (fun _ => 0) 1 (-1)) 2 (-1)) 3 1) 4 1) 5 (-1)) 6 1) 7 (-1)) 8 (-1)) 9 1) 10 1) 11 (-1)) 12 2) 13 (-1)) 14 (-1)) 15 1) 16 1) 17 (-1)) 18 4) 21 3) 22 2) 23 (-1)))), (h9, .inr (7, [.ref h13, .ref g4, .ref g5, .ref h11, .ref g6, .ref g7, .ref h12, .ref h10, .ref g8, .int 1, .int 1, .int 0])), (h12, .inl (cI, 180, .inl (fun _ => (-1)))), (h16, .inl (cZ, 60, .inl (upd (fun _ => 0) 0 1)))] H := hP
  have hD : va_D A [(h4, .inr (2, [.ref h5, .ref h6])), (h2, .inr (4, [.ref h3, .ref g0])), (h5, .inr (4, [.ref h6, .ref g1])), (h6, .inr (6, [.ref g2, .int 3])), (h7, .inr (6, [.ref g3, .int 0])), (h8, .inl (cI, 60, .inl (fun _ => (-1)))), (h10, .inl (cI, 60, .inl (fun _ => 0))), (h11, .inl (cI, 60, .inl (fun _ => 0))), (h13, .inl (cI, 60, .inl (fun _ => 0))), (h14, .inl (cI, 60, .inl (upd (fun _ => 0) 0 1))), (h0, .inr (1, [.ref h9, .ref h1, .ref h4, .ref h7, .ref h14, .ref h8, .ref h16, .int 4, .int 3, .int 0, .int (-1), .int 0])), (h1, .inr (9, [.ref h2, .ref h3])), (h3, .inr (6, [.ref h15, .int 4])), (h15, .inl (cI, 144, .inl (upd (upd (upd (upd (upd (upd (upd (upd (upd (upd (upd (upd (upd (upd (upd (upd (upd (upd (upd (upd (upd (fun _ => 0) 1 (-1)) 2 (-1)) 3 1) 4 1) 5 (-1)) 6 1) 7 (-1)) 8 (-1)) 9 1) 10 1) 11 (-1)) 12 2) 13 (-1)) 14 (-1)) 15 1) 16 1) 17 (-1)) 18 4) 21 3) 22 2) 23 (-1)))), (h9, .inr (7, [.ref h13, .ref g4, .ref g5, .ref h11, .ref g6, .ref g7, .ref h12, .ref h10, .ref g8, .int 1, .int 1, .int 0])), (h12, .inl (cI, 180, .inl (fun _ => (-1)))), (h16, .inl (cZ, 60, .inl (upd (fun _ => 0) 0 1)))] := hD
  refine W.widen (k := 0) (n := 0) (Nat.le_of_ble_eq_true rfl) (Nat.le_of_ble_eq_true rfl) ?_
  refine pcn (b := 93) rfl ?_
  refine lv_iinc (v := 1) (lv' := [(1, .int 1), (3, .int 1), (2, .int 0), (0, .ref h0)]) hx hb dX1_again_93 hl (k := 2) rfl (by decide +kernel) (by decide) rfl (fun ls hl => ?_)
  refine lv_goto (tgt := 43) hx hb dX1_again_96 (by decide) ?_
  refine lv_iload_n hx hb dX1_again_43 rfl (lv_at hl 0 rfl) ?_
  refine lv_aload_n hx hb dX1_again_44 rfl (lv_at hl 3 rfl) ?_
  refine va_get (D := D) (ci := 1) (v := .ref h9) (C := RX1) (T := TX1) (N := 12) hx hb hts inX1 hown hK hP 10 rfl rfl 0 (by decide) (hts _ wm_274) (fun _ h9 => h9) rfl dX1_again_45 ?_
  refine va_getN (D := D) (ci := 7) (v := .int 1) (C := RX7) (T := TX7) (N := 12) hx hb hts inX7 hown hK hP 14 rfl rfl 9 (by decide) (va_Nw.use rfl (hnw _ wn_99)) (fun _ h9 => h9) rfl dX1_again_48 ?_
  refine lv_icmp_ge (tgt := 99) hx hb dX1_again_51 (by decide) (fun _ => ?_) (fun h9 => absurd (by decide +kernel) h9)
  refine lv_aload_n hx hb dX1_again_99 rfl (lv_at hl 3 rfl) ?_
  refine lv_aload_n hx hb dX1_again_100 rfl (lv_at hl 3 rfl) ?_
  refine va_get (D := D) (ci := 1) (v := .ref h4) (C := RX1) (T := TX1) (N := 12) hx hb hts inX1 hown hK hP 10 rfl rfl 2 (by decide) (hts _ wm_282) (fun _ h9 => h9) rfl dX1_again_101 ?_
  refine va_getN (D := D) (ci := 2) (v := .ref h6) (C := RX2) (T := TX2) (N := 2) hx hb hts inX2 hown hK hP 0 rfl rfl 1 (by decide) (va_Nw.use rfl (hnw _ wn_247)) (fun _ h9 => h9) rfl dX1_again_104 ?_
  refine va_getN (D := D) (ci := 6) (v := .int 3) (C := RX6) (T := TX6) (N := 2) hx hb hts inX6 hown hK hP 3 rfl rfl 1 (by decide) (va_Nw.use rfl (hnw _ wn_158)) (fun _ h9 => h9) rfl dX1_again_107 ?_
  refine va_put (D := D) (ci := 1) (v := .int 3) (ty := .int) (C := RX1) (T := TX1) (N := 12) hx hb hts inX1 tyX1 tyX1_ok nmX1 hown hK hP hD hS 10 rfl rfl 8 (by decide) (hts _ wm_296) (fun _ h9 => h9) rfl (by decide +kernel) rfl rfl (Nat.le_of_ble_eq_true rfl) dX1_again_110 (fun H locs hP hD hS => ?_)
  have hP : va_P D vwCl [(h4, .inr (2, [.ref h5, .ref h6])), (h2, .inr (4, [.ref h3, .ref g0])), (h5, .inr (4, [.ref h6, .ref g1])), (h6, .inr (6, [.ref g2, .int 3])), (h7, .inr (6, [.ref g3, .int 0])), (h8, .inl (cI, 60, .inl (fun _ => (-1)))), (h10, .inl (cI, 60, .inl (fun _ => 0))), (h11, .inl (cI, 60, .inl (fun _ => 0))), (h13, .inl (cI, 60, .inl (fun _ => 0))), (h14, .inl (cI, 60, .inl (upd (fun _ => 0) 0 1))), (h0, .inr (1, [.ref h9, .ref h1, .ref h4, .ref h7, .ref h14, .ref h8, .ref h16, .int 4, .int 3, .int 0, .int (-1), .int 0])), (h1, .inr (9, [.ref h2, .ref h3])), (h3, .inr (6, [.ref h15, .int 4])), (h15, .inl (cI, 144, .inl (upd (upd (upd (upd (upd (upd (upd (upd (upd (upd (upd (upd (upd (upd (upd (upd (upd (upd (upd (upd (upd (fun _ => 0) 1 (-1)) 2 (-1)) 3 1) 4 1) 5 (-1)) 6 1) 7 (-1)) 8 (-1)) 9 1) 10 1) 11 (-1)) 12 2) 13 (-1)) 14 (-1)) 15 1) 16 1) 17 (-1)) 18 4) 21 3) 22 2) 23 (-1)))), (h9, .inr (7, [.ref h13, .ref g4, .ref g5, .ref h11, .ref g6, .ref g7, .ref h12, .ref h10, .ref g8, .int 1, .int 1, .int 0])), (h12, .inl (cI, 180, .inl (fun _ => (-1)))), (h16, .inl (cZ, 60, .inl (upd (fun _ => 0) 0 1)))] H := hP
  have hD : va_D A [(h4, .inr (2, [.ref h5, .ref h6])), (h2, .inr (4, [.ref h3, .ref g0])), (h5, .inr (4, [.ref h6, .ref g1])), (h6, .inr (6, [.ref g2, .int 3])), (h7, .inr (6, [.ref g3, .int 0])), (h8, .inl (cI, 60, .inl (fun _ => (-1)))), (h10, .inl (cI, 60, .inl (fun _ => 0))), (h11, .inl (cI, 60, .inl (fun _ => 0))), (h13, .inl (cI, 60, .inl (fun _ => 0))), (h14, .inl (cI, 60, .inl (upd (fun _ => 0) 0 1))), (h0, .inr (1, [.ref h9, .ref h1, .ref h4, .ref h7, .ref h14, .ref h8, .ref h16, .int 4, .int 3, .int 0, .int (-1), .int 0])), (h1, .inr (9, [.ref h2, .ref h3])), (h3, .inr (6, [.ref h15, .int 4])), (h15, .inl (cI, 144, .inl (upd (upd (upd (upd (upd (upd (upd (upd (upd (upd (upd (upd (upd (upd (upd (upd (upd (upd (upd (upd (upd (fun _ => 0) 1 (-1)) 2 (-1)) 3 1) 4 1) 5 (-1)) 6 1) 7 (-1)) 8 (-1)) 9 1) 10 1) 11 (-1)) 12 2) 13 (-1)) 14 (-1)) 15 1) 16 1) 17 (-1)) 18 4) 21 3) 22 2) 23 (-1)))), (h9, .inr (7, [.ref h13, .ref g4, .ref g5, .ref h11, .ref g6, .ref g7, .ref h12, .ref h10, .ref g8, .int 1, .int 1, .int 0])), (h12, .inl (cI, 180, .inl (fun _ => (-1)))), (h16, .inl (cZ, 60, .inl (upd (fun _ => 0) 0 1)))] := hD
  refine lv_iconst (v := (-1)) hx hb dX1_again_113 (by decide +kernel) ?_
  refine W.widen (k := 0) (n := 0) (Nat.le_of_ble_eq_true rfl) (Nat.le_of_ble_eq_true rfl) ?_
  have hP := hP.sub (ws' := [(h0, .inr (1, [.ref h9, .ref h1, .ref h4, .ref h7, .ref h14, .ref h8, .ref h16, .int 4, .int 3, .int 0, .int (-1), .int 0])), (h1, .inr (9, [.ref h2, .ref h3])), (h2, .inr (4, [.ref h3, .ref g0])), (h3, .inr (6, [.ref h15, .int 4])), (h4, .inr (2, [.ref h5, .ref h6])), (h5, .inr (4, [.ref h6, .ref g1])), (h6, .inr (6, [.ref g2, .int 3])), (h7, .inr (6, [.ref g3, .int 0])), (h8, .inl (cI, 60, .inl (fun _ => (-1)))), (h9, .inr (7, [.ref h13, .ref g4, .ref g5, .ref h11, .ref g6, .ref g7, .ref h12, .ref h10, .ref g8, .int 1, .int 1, .int 0])), (h10, .inl (cI, 60, .inl (fun _ => 0))), (h11, .inl (cI, 60, .inl (fun _ => 0))), (h12, .inl (cI, 180, .inl (fun _ => (-1)))), (h13, .inl (cI, 60, .inl (fun _ => 0))), (h14, .inl (cI, 60, .inl (upd (fun _ => 0) 0 1))), (h15, .inl (cI, 144, .inl (upd (upd (upd (upd (upd (upd (upd (upd (upd (upd (upd (upd (upd (upd (upd (upd (upd (upd (upd (upd (upd (fun _ => 0) 1 (-1)) 2 (-1)) 3 1) 4 1) 5 (-1)) 6 1) 7 (-1)) 8 (-1)) 9 1) 10 1) 11 (-1)) 12 2) 13 (-1)) 14 (-1)) 15 1) 16 1) 17 (-1)) 18 4) 21 3) 22 2) 23 (-1)))), (h16, .inl (cZ, 60, .inl (upd (fun _ => 0) 0 1)))]) [10, 11, 1, 12, 0, 2, 3, 4, 5, 14, 6, 7, 15, 8, 9, 13, 16] rfl
  have hD := hD.sub (ws' := [(h0, .inr (1, [.ref h9, .ref h1, .ref h4, .ref h7, .ref h14, .ref h8, .ref h16, .int 4, .int 3, .int 0, .int (-1), .int 0])), (h1, .inr (9, [.ref h2, .ref h3])), (h2, .inr (4, [.ref h3, .ref g0])), (h3, .inr (6, [.ref h15, .int 4])), (h4, .inr (2, [.ref h5, .ref h6])), (h5, .inr (4, [.ref h6, .ref g1])), (h6, .inr (6, [.ref g2, .int 3])), (h7, .inr (6, [.ref g3, .int 0])), (h8, .inl (cI, 60, .inl (fun _ => (-1)))), (h9, .inr (7, [.ref h13, .ref g4, .ref g5, .ref h11, .ref g6, .ref g7, .ref h12, .ref h10, .ref g8, .int 1, .int 1, .int 0])), (h10, .inl (cI, 60, .inl (fun _ => 0))), (h11, .inl (cI, 60, .inl (fun _ => 0))), (h12, .inl (cI, 180, .inl (fun _ => (-1)))), (h13, .inl (cI, 60, .inl (fun _ => 0))), (h14, .inl (cI, 60, .inl (upd (fun _ => 0) 0 1))), (h15, .inl (cI, 144, .inl (upd (upd (upd (upd (upd (upd (upd (upd (upd (upd (upd (upd (upd (upd (upd (upd (upd (upd (upd (upd (upd (fun _ => 0) 1 (-1)) 2 (-1)) 3 1) 4 1) 5 (-1)) 6 1) 7 (-1)) 8 (-1)) 9 1) 10 1) 11 (-1)) 12 2) 13 (-1)) 14 (-1)) 15 1) 16 1) 17 (-1)) 18 4) 21 3) 22 2) 23 (-1)))), (h16, .inl (cZ, 60, .inl (upd (fun _ => 0) 0 1)))]) [10, 11, 1, 12, 0, 2, 3, 4, 5, 14, 6, 7, 15, 8, 9, 13, 16] (by decide) rfl
  exact rtI hx hb hr hlocks hS hP hD ⟨rfl, rfl⟩ dX1_again_114

set_option maxHeartbeats 4000000 in
set_option maxRecDepth 100000 in
theorem c_X3_take_0 (l : Launch) (D : va_G) (cI cZ cB cJ : ClassId) (h0 g0 g1 g2 : Nat) : CtV l D (TT cI cZ cB cJ) yX3_take cX3_take 2 none 0 0 0 0 [.ref h0, .ref g0] [(h0, .inr (3, [.ref g1, .ref g2, .ref g0, .int (-1), .int 0, .int 0, .int 0, .int 0, .int 0, .int 0, .int 0, .int 0, .int 0, .int 0, .int 0, .int 0, .int 0, .int 0, .int 0]))] (fun w1 => w1 = [(h0, .inr (3, [.ref g1, .ref g2, .ref g0, .int (-1), .int 0, .int 0, .int 0, .int 0, .int 0, .int 0, .int 0, .int 0, .int 0, .int 0, .int 0, .int 0, .int 0, .int 0, .int 0]))]) := by
  refine CtV.of (by decide +kernel) (Nat.le_of_ble_eq_true rfl) ?_
  intro p e s m below meth c A ls hx hb hr hml hown hts hnw hlocks hin hA hS hP hK hD hl
  have hown : s.vm.findClass RX3 = some m.cls := hown
  have hl : lv_has ls 2 [(0, .ref h0), (1, .ref g0)] := hl
  refine lv_aload_n hx hb dX3_take_0 rfl (lv_at hl 0 rfl) ?_
  refine lv_aload_n hx hb dX3_take_1 rfl (lv_at hl 1 rfl) ?_
  refine va_put (D := D) (ci := 3) (v := .ref g0) (ty := (.object "GradualCheck$Check")) (C := RX3) (T := TX3) (N := 19) hx hb hts inX3 tyX3 tyX3_ok nmX3 hown hK hP hD hS 0 rfl rfl 2 (by decide) (hts _ wm_353) (fun _ h9 => h9) rfl (by decide +kernel) rfl rfl (Nat.le_of_ble_eq_true rfl) dX3_take_2 (fun H locs hP hD hS => ?_)
  have hP : va_P D vwCl [(h0, .inr (3, [.ref g1, .ref g2, .ref g0, .int (-1), .int 0, .int 0, .int 0, .int 0, .int 0, .int 0, .int 0, .int 0, .int 0, .int 0, .int 0, .int 0, .int 0, .int 0, .int 0]))] H := hP
  have hD : va_D A [(h0, .inr (3, [.ref g1, .ref g2, .ref g0, .int (-1), .int 0, .int 0, .int 0, .int 0, .int 0, .int 0, .int 0, .int 0, .int 0, .int 0, .int 0, .int 0, .int 0, .int 0, .int 0]))] := hD
  refine lv_aload_n hx hb dX3_take_5 rfl (lv_at hl 0 rfl) ?_
  refine lv_iconst (v := (-1)) hx hb dX3_take_6 (by decide +kernel) ?_
  refine va_put (D := D) (ci := 3) (v := .int (-1)) (ty := .int) (C := RX3) (T := TX3) (N := 19) hx hb hts inX3 tyX3 tyX3_ok nmX3 hown hK hP hD hS 0 rfl rfl 3 (by decide) (hts _ wm_354) (fun _ h9 => h9) rfl (by decide +kernel) rfl rfl (Nat.le_of_ble_eq_true rfl) dX3_take_7 (fun H locs hP hD hS => ?_)
  have hP : va_P D vwCl [(h0, .inr (3, [.ref g1, .ref g2, .ref g0, .int (-1), .int 0, .int 0, .int 0, .int 0, .int 0, .int 0, .int 0, .int 0, .int 0, .int 0, .int 0, .int 0, .int 0, .int 0, .int 0]))] H := hP
  have hD : va_D A [(h0, .inr (3, [.ref g1, .ref g2, .ref g0, .int (-1), .int 0, .int 0, .int 0, .int 0, .int 0, .int 0, .int 0, .int 0, .int 0, .int 0, .int 0, .int 0, .int 0, .int 0, .int 0]))] := hD
  refine W.widen (k := 0) (n := 0) (Nat.le_of_ble_eq_true rfl) (Nat.le_of_ble_eq_true rfl) ?_
  exact rtV hx hb hr hlocks hS hP hD rfl dX3_take_10

set_option maxHeartbeats 4000000 in
set_option maxRecDepth 100000 in
theorem c_X3_restart_1 (l : Launch) (D : va_G) (cI cZ cB cJ : ClassId) (h0 h1 h2 h3 h4 h5 h6 g0 g1 g2 g3 g4 g5 g6 g7 g8 g9 : Nat) : CtV l D (TT cI cZ cB cJ) yX3_restart cX3_restart 2 none 3 65 0 0 [.ref h0, .int 0] [(h0, .inr (3, [.ref h5, .ref h6, .ref h1, .int (-1), .int 0, .int 0, .int 0, .int 0, .int 0, .int 0, .int 0, .int 0, .int 0, .int 0, .int 0, .int 0, .int 0, .int 0, .int 0])), (h1, .inr (1, [.ref g0, .ref g1, .ref h2, .ref g2, .ref g3, .ref g4, .ref g5, .int 4, .int 3, .int 0, .int (-1), .int 0])), (h2, .inr (2, [.ref h3, .ref h4])), (h3, .inr (4, [.ref h4, .ref g6])), (h4, .inr (6, [.ref g7, .int 3])), (h5, .inr (6, [.ref g8, .int 0])), (h6, .inr (6, [.ref g9, .int 0]))] (fun w1 => w1 = [(h0, .inr (3, [.ref h5, .ref h6, .ref h1, .int 0, .int 0, .int 0, .int (-1), .int (-1), .int 0, .int 0, .int (-1), .int 0, .int 0, .int 0, .int 0, .int 0, .int 0, .int 0, .int 0])), (h1, .inr (1, [.ref g0, .ref g1, .ref h2, .ref g2, .ref g3, .ref g4, .ref g5, .int 4, .int 3, .int 0, .int (-1), .int 0])), (h2, .inr (2, [.ref h3, .ref h4])), (h3, .inr (4, [.ref h4, .ref g6])), (h4, .inr (6, [.ref g7, .int 3])), (h5, .inr (6, [.ref g8, .int 0])), (h6, .inr (6, [.ref g9, .int 0]))]) := by
  refine CtV.of (by decide +kernel) (Nat.le_of_ble_eq_true rfl) ?_
  intro p e s m below meth c A ls hx hb hr hml hown hts hnw hlocks hin hA hS hP hK hD hl
  have hown : s.vm.findClass RX3 = some m.cls := hown
  have hl : lv_has ls 2 [(0, .ref h0), (1, .int 0)] := hl
  refine lv_aload_n hx hb dX3_restart_0 rfl (lv_at hl 0 rfl) ?_
  refine lv_iload_n hx hb dX3_restart_1 rfl (lv_at hl 1 rfl) ?_
  refine va_put (D := D) (ci := 3) (v := .int 0) (ty := .int) (C := RX3) (T := TX3) (N := 19) hx hb hts inX3 tyX3 tyX3_ok nmX3 hown hK hP hD hS 0 rfl rfl 3 (by decide) (hts _ wm_354) (fun _ h9 => h9) rfl (by decide +kernel) rfl rfl (Nat.le_of_ble_eq_true rfl) dX3_restart_2 (fun H locs hP hD hS => ?_)
  have hP : va_P D vwCl [(h0, .inr (3, [.ref h5, .ref h6, .ref h1, .int 0, .int 0, .int 0, .int 0, .int 0, .int 0, .int 0, .int 0, .int 0, .int 0, .int 0, .int 0, .int 0, .int 0, .int 0, .int 0])), (h1, .inr (1, [.ref g0, .ref g1, .ref h2, .ref g2, .ref g3, .ref g4, .ref g5, .int 4, .int 3, .int 0, .int (-1), .int 0])), (h2, .inr (2, [.ref h3, .ref h4])), (h3, .inr (4, [.ref h4, .ref g6])), (h4, .inr (6, [.ref g7, .int 3])), (h5, .inr (6, [.ref g8, .int 0])), (h6, .inr (6, [.ref g9, .int 0]))] H := hP
  have hD : va_D A [(h0, .inr (3, [.ref h5, .ref h6, .ref h1, .int 0, .int 0, .int 0, .int 0, .int 0, .int 0, .int 0, .int 0, .int 0, .int 0, .int 0, .int 0, .int 0, .int 0, .int 0, .int 0])), (h1, .inr (1, [.ref g0, .ref g1, .ref h2, .ref g2, .ref g3, .ref g4, .ref g5, .int 4, .int 3, .int 0, .int (-1), .int 0])), (h2, .inr (2, [.ref h3, .ref h4])), (h3, .inr (4, [.ref h4, .ref g6])), (h4, .inr (6, [.ref g7, .int 3])), (h5, .inr (6, [.ref g8, .int 0])), (h6, .inr (6, [.ref g9, .int 0]))] := hD
  refine lv_aload_n hx hb dX3_restart_5 rfl (lv_at hl 0 rfl) ?_
  refine va_get (D := D) (ci := 3) (v := .ref h1) (C := RX3) (T := TX3) (N := 19) hx hb hts inX3 hown hK hP 0 rfl rfl 2 (by decide) (hts _ wm_353) (fun _ h9 => h9) rfl dX3_restart_6 ?_
  refine va_getN (D := D) (ci := 1) (v := .ref h2) (C := RX1) (T := TX1) (N := 12) hx hb hts inX1 hown hK hP 1 rfl rfl 2 (by decide) (va_Nw.use rfl (hnw _ wn_283)) (fun _ h9 => h9) rfl dX3_restart_9 ?_
  refine va_getN (D := D) (ci := 2) (v := .ref h3) (C := RX2) (T := TX2) (N := 2) hx hb hts inX2 hown hK hP 2 rfl rfl 0 (by decide) (va_Nw.use rfl (hnw _ wn_243)) (fun _ h9 => h9) rfl dX3_restart_12 ?_
  refine pcn (b := 15) rfl ?_
  refine lv_aload_n hx hb dX3_restart_15 rfl (lv_at hl 0 rfl) ?_
  refine va_get (D := D) (ci := 3) (v := .ref h1) (C := RX3) (T := TX3) (N := 19) hx hb hts inX3 hown hK hP 0 rfl rfl 2 (by decide) (hts _ wm_353) (fun _ h9 => h9) rfl dX3_restart_16 ?_
  refine va_getN (D := D) (ci := 1) (v := .int 3) (C := RX1) (T := TX1) (N := 12) hx hb hts inX1 hown hK hP 1 rfl rfl 8 (by decide) (va_Nw.use rfl (hnw _ wn_295)) (fun _ h9 => h9) rfl dX3_restart_19 ?_
  refine kVNv (As := [.int 3]) (rest := []) (wr := [(h0, .inr (3, [.ref h5, .ref h6, .ref h1, .int 0, .int 0, .int 0, .int 0, .int 0, .int 0, .int 0, .int 0, .int 0, .int 0, .int 0, .int 0, .int 0, .int 0, .int 0, .int 0])), (h1, .inr (1, [.ref g0, .ref g1, .ref h2, .ref g2, .ref g3, .ref g4, .ref g5, .int 4, .int 3, .int 0, .int (-1), .int 0])), (h2, .inr (2, [.ref h3, .ref h4])), (h5, .inr (6, [.ref g8, .int 0])), (h6, .inr (6, [.ref g9, .int 0]))]) hx hb hml hown hts hnw hK hP hD hS hA hl.1 (c_X4_cutTo_1 l D cI cZ cB cJ h3 h4 g6 g7) yk_X4_cutTo wn_1123 [3, 4] [0, 1, 2, 5, 6] rfl rfl (by decide) (by decide) (by decide) 0 rfl rfl rfl rfl rfl dX3_restart_22 ⟨Nat.le_of_ble_eq_true rfl, Nat.le_of_ble_eq_true rfl⟩ ⟨Nat.le_of_ble_eq_true rfl, Nat.le_of_ble_eq_true rfl⟩ (Nat.le_of_ble_eq_true rfl) (fun w1 H locs hq9 hP hD hS => ?_)
  obtain rfl := hq9
  have hP : va_P D vwCl [(h0, .inr (3, [.ref h5, .ref h6, .ref h1, .int 0, .int 0, .int 0, .int 0, .int 0, .int 0, .int 0, .int 0, .int 0, .int 0, .int 0, .int 0, .int 0, .int 0, .int 0, .int 0])), (h1, .inr (1, [.ref g0, .ref g1, .ref h2, .ref g2, .ref g3, .ref g4, .ref g5, .int 4, .int 3, .int 0, .int (-1), .int 0])), (h2, .inr (2, [.ref h3, .ref h4])), (h5, .inr (6, [.ref g8, .int 0])), (h6, .inr (6, [.ref g9, .int 0])), (h3, .inr (4, [.ref h4, .ref g6])), (h4, .inr (6, [.ref g7, .int 3]))] H := hP
  have hD : va_D A [(h0, .inr (3, [.ref h5, .ref h6, .ref h1, .int 0, .int 0, .int 0, .int 0, .int 0, .int 0, .int 0, .int 0, .int 0, .int 0, .int 0, .int 0, .int 0, .int 0, .int 0, .int 0])), (h1, .inr (1, [.ref g0, .ref g1, .ref h2, .ref g2, .ref g3, .ref g4, .ref g5, .int 4, .int 3, .int 0, .int (-1), .int 0])), (h2, .inr (2, [.ref h3, .ref h4])), (h5, .inr (6, [.ref g8, .int 0])), (h6, .inr (6, [.ref g9, .int 0])), (h3, .inr (4, [.ref h4, .ref g6])), (h4, .inr (6, [.ref g7, .int 3]))] := hD
  refine W.widen (k := 0) (n := 0) (Nat.le_of_ble_eq_true rfl) (Nat.le_of_ble_eq_true rfl) ?_
  refine pcn (b := 25) rfl ?_
  refine lv_aload_n hx hb dX3_restart_25 rfl (lv_at hl 0 rfl) ?_
  refine va_get (D := D) (ci := 3) (v := .ref h5) (C := RX3) (T := TX3) (N := 19) hx hb hts inX3 hown hK hP 0 rfl rfl 0 (by decide) (hts _ wm_351) (fun _ h9 => h9) rfl dX3_restart_26 ?_
  refine lv_iconst (v := 0) hx hb dX3_restart_29 (by decide +kernel) ?_
  refine kVNv (As := [.int 0]) (rest := []) (wr := [(h0, .inr (3, [.ref h5, .ref h6, .ref h1, .int 0, .int 0, .int 0, .int 0, .int 0, .int 0, .int 0, .int 0, .int 0, .int 0, .int 0, .int 0, .int 0, .int 0, .int 0, .int 0])), (h1, .inr (1, [.ref g0, .ref g1, .ref h2, .ref g2, .ref g3, .ref g4, .ref g5, .int 4, .int 3, .int 0, .int (-1), .int 0])), (h2, .inr (2, [.ref h3, .ref h4])), (h6, .inr (6, [.ref g9, .int 0])), (h3, .inr (4, [.ref h4, .ref g6])), (h4, .inr (6, [.ref g7, .int 3]))]) hx hb hml hown hts hnw hK hP hD hS hA hl.1 (c_X6_cut_2 l D cI cZ cB cJ h5 g8) yk_X6_cut wn_1124 [3] [0, 1, 2, 4, 5, 6] rfl rfl (by decide) (by decide) (by decide) 0 rfl rfl rfl rfl rfl dX3_restart_30 ⟨Nat.le_of_ble_eq_true rfl, Nat.le_of_ble_eq_true rfl⟩ ⟨Nat.le_of_ble_eq_true rfl, Nat.le_of_ble_eq_true rfl⟩ (Nat.le_of_ble_eq_true rfl) (fun w1 H locs hq9 hP hD hS => ?_)
  obtain rfl := hq9
  have hP : va_P D vwCl [(h0, .inr (3, [.ref h5, .ref h6, .ref h1, .int 0, .int 0, .int 0, .int 0, .int 0, .int 0, .int 0, .int 0, .int 0, .int 0, .int 0, .int 0, .int 0, .int 0, .int 0, .int 0])), (h1, .inr (1, [.ref g0, .ref g1, .ref h2, .ref g2, .ref g3, .ref g4, .ref g5, .int 4, .int 3, .int 0, .int (-1), .int 0])), (h2, .inr (2, [.ref h3, .ref h4])), (h6, .inr (6, [.ref g9, .int 0])), (h3, .inr (4, [.ref h4, .ref g6])), (h4, .inr (6, [.ref g7, .int 3])), (h5, .inr (6, [.ref g8, .int 0]))] H := hP
  have hD : va_D A [(h0, .inr (3, [.ref h5, .ref h6, .ref h1, .int 0, .int 0, .int 0, .int 0, .int 0, .int 0, .int 0, .int 0, .int 0, .int 0, .int 0, .int 0, .int 0, .int 0, .int 0, .int 0])), (h1, .inr (1, [.ref g0, .ref g1, .ref h2, .ref g2, .ref g3, .ref g4, .ref g5, .int 4, .int 3, .int 0, .int (-1), .int 0])), (h2, .inr (2, [.ref h3, .ref h4])), (h6, .inr (6, [.ref g9, .int 0])), (h3, .inr (4, [.ref h4, .ref g6])), (h4, .inr (6, [.ref g7, .int 3])), (h5, .inr (6, [.ref g8, .int 0]))] := hD
  refine W.widen (k := 0) (n := 0) (Nat.le_of_ble_eq_true rfl) (Nat.le_of_ble_eq_true rfl) ?_
  refine pcn (b := 33) rfl ?_
  refine lv_aload_n hx hb dX3_restart_33 rfl (lv_at hl 0 rfl) ?_
  refine va_get (D := D) (ci := 3) (v := .ref h6) (C := RX3) (T := TX3) (N := 19) hx hb hts inX3 hown hK hP 0 rfl rfl 1 (by decide) (hts _ wm_352) (fun _ h9 => h9) rfl dX3_restart_34 ?_
  refine lv_iconst (v := 0) hx hb dX3_restart_37 (by decide +kernel) ?_
  refine kVNv (As := [.int 0]) (rest := []) (wr := [(h0, .inr (3, [.ref h5, .ref h6, .ref h1, .int 0, .int 0, .int 0, .int 0, .int 0, .int 0, .int 0, .int 0, .int 0, .int 0, .int 0, .int 0, .int 0, .int 0, .int 0, .int 0])), (h1, .inr (1, [.ref g0, .ref g1, .ref h2, .ref g2, .ref g3, .ref g4, .ref g5, .int 4, .int 3, .int 0, .int (-1), .int 0])), (h2, .inr (2, [.ref h3, .ref h4])), (h3, .inr (4, [.ref h4, .ref g6])), (h4, .inr (6, [.ref g7, .int 3])), (h5, .inr (6, [.ref g8, .int 0]))]) hx hb hml hown hts hnw hK hP hD hS hA hl.1 (c_X6_cut_2 l D cI cZ cB cJ h6 g9) yk_X6_cut wn_1124 [3] [0, 1, 2, 4, 5, 6] rfl rfl (by decide) (by decide) (by decide) 0 rfl rfl rfl rfl rfl dX3_restart_38 ⟨Nat.le_of_ble_eq_true rfl, Nat.le_of_ble_eq_true rfl⟩ ⟨Nat.le_of_ble_eq_true rfl, Nat.le_of_ble_eq_true rfl⟩ (Nat.le_of_ble_eq_true rfl) (fun w1 H locs hq9 hP hD hS => ?_)
  obtain rfl := hq9
  have hP : va_P D vwCl [(h0, .inr (3, [.ref h5, .ref h6, .ref h1, .int 0, .int 0, .int 0, .int 0, .int 0, .int 0, .int 0, .int 0, .int 0, .int 0, .int 0, .int 0, .int 0, .int 0, .int 0, .int 0])), (h1, .inr (1, [.ref g0, .ref g1, .ref h2, .ref g2, .ref g3, .ref g4, .ref g5, .int 4, .int 3, .int 0, .int (-1), .int 0])), (h2, .inr (2, [.ref h3, .ref h4])), (h3, .inr (4, [.ref h4, .ref g6])), (h4, .inr (6, [.ref g7, .int 3])), (h5, .inr (6, [.ref g8, .int 0])), (h6, .inr (6, [.ref g9, .int 0]))] H := hP
  have hD : va_D A [(h0, .inr (3, [.ref h5, .ref h6, .ref h1, .int 0, .int 0, .int 0, .int 0, .int 0, .int 0, .int 0, .int 0, .int 0, .int 0, .int 0, .int 0, .int 0, .int 0, .int 0, .int 0])), (h1, .inr (1, [.ref g0, .ref g1, .ref h2, .ref g2, .ref g3, .ref g4, .ref g5, .int 4, .int 3, .int 0, .int (-1), .int 0])), (h2, .inr (2, [.ref h3, .ref h4])), (h3, .inr (4, [.ref h4, .ref g6])), (h4, .inr (6, [.ref g7, .int 3])), (h5, .inr (6, [.ref g8, .int 0])), (h6, .inr (6, [.ref g9, .int 0]))] := hD
  refine W.widen (k := 0) (n := 0) (Nat.le_of_ble_eq_true rfl) (Nat.le_of_ble_eq_true rfl) ?_
  refine pcn (b := 41) rfl ?_
  refine lv_aload_n hx hb dX3_restart_41 rfl (lv_at hl 0 rfl) ?_
  refine lv_iconst (v := 0) hx hb dX3_restart_42 (by decide +kernel) ?_
  refine va_put (D := D) (ci := 3) (v := .int 0) (ty := .int) (C := RX3) (T := TX3) (N := 19) hx hb hts inX3 tyX3 tyX3_ok nmX3 hown hK hP hD hS 0 rfl rfl 4 (by decide) (hts _ wm_355) (fun _ h9 => h9) rfl (by decide +kernel) rfl rfl (Nat.le_of_ble_eq_true rfl) dX3_restart_43 (fun H locs hP hD hS => ?_)
  have hP : va_P D vwCl [(h0, .inr (3, [.ref h5, .ref h6, .ref h1, .int 0, .int 0, .int 0, .int 0, .int 0, .int 0, .int 0, .int 0, .int 0, .int 0, .int 0, .int 0, .int 0, .int 0, .int 0, .int 0])), (h1, .inr (1, [.ref g0, .ref g1, .ref h2, .ref g2, .ref g3, .ref g4, .ref g5, .int 4, .int 3, .int 0, .int (-1), .int 0])), (h2, .inr (2, [.ref h3, .ref h4])), (h3, .inr (4, [.ref h4, .ref g6])), (h4, .inr (6, [.ref g7, .int 3])), (h5, .inr (6, [.ref g8, .int 0])), (h6, .inr (6, [.ref g9, .int 0]))] H := hP
  have hD : va_D A [(h0, .inr (3, [.ref h5, .ref h6, .ref h1, .int 0, .int 0, .int 0, .int 0, .int 0, .int 0, .int 0, .int 0, .int 0, .int 0, .int 0, .int 0, .int 0, .int 0, .int 0, .int 0])), (h1, .inr (1, [.ref g0, .ref g1, .ref h2, .ref g2, .ref g3, .ref g4, .ref g5, .int 4, .int 3, .int 0, .int (-1), .int 0])), (h2, .inr (2, [.ref h3, .ref h4])), (h3, .inr (4, [.ref h4, .ref g6])), (h4, .inr (6, [.ref g7, .int 3])), (h5, .inr (6, [.ref g8, .int 0])), (h6, .inr (6, [.ref g9, .int 0]))] := hD
  refine lv_aload_n hx hb dX3_restart_46 rfl (lv_at hl 0 rfl) ?_
  refine lv_iconst (v := 0) hx hb dX3_restart_47 (by decide +kernel) ?_
  refine va_put (D := D) (ci := 3) (v := .int 0) (ty := .int) (C := RX3) (T := TX3) (N := 19) hx hb hts inX3 tyX3 tyX3_ok nmX3 hown hK hP hD hS 0 rfl rfl 5 (by decide) (hts _ wm_356) (fun _ h9 => h9) rfl (by decide +kernel) rfl rfl (Nat.le_of_ble_eq_true rfl) dX3_restart_48 (fun H locs hP hD hS => ?_)
  have hP : va_P D vwCl [(h0, .inr (3, [.ref h5, .ref h6, .ref h1, .int 0, .int 0, .int 0, .int 0, .int 0, .int 0, .int 0, .int 0, .int 0, .int 0, .int 0, .int 0, .int 0, .int 0, .int 0, .int 0])), (h1, .inr (1, [.ref g0, .ref g1, .ref h2, .ref g2, .ref g3, .ref g4, .ref g5, .int 4, .int 3, .int 0, .int (-1), .int 0])), (h2, .inr (2, [.ref h3, .ref h4])), (h3, .inr (4, [.ref h4, .ref g6])), (h4, .inr (6, [.ref g7, .int 3])), (h5, .inr (6, [.ref g8, .int 0])), (h6, .inr (6, [.ref g9, .int 0]))] H := hP
  have hD : va_D A [(h0, .inr (3, [.ref h5, .ref h6, .ref h1, .int 0, .int 0, .int 0, .int 0, .int 0, .int 0, .int 0, .int 0, .int 0, .int 0, .int 0, .int 0, .int 0, .int 0, .int 0, .int 0])), (h1, .inr (1, [.ref g0, .ref g1, .ref h2, .ref g2, .ref g3, .ref g4, .ref g5, .int 4, .int 3, .int 0, .int (-1), .int 0])), (h2, .inr (2, [.ref h3, .ref h4])), (h3, .inr (4, [.ref h4, .ref g6])), (h4, .inr (6, [.ref g7, .int 3])), (h5, .inr (6, [.ref g8, .int 0])), (h6, .inr (6, [.ref g9, .int 0]))] := hD
  refine lv_aload_n hx hb dX3_restart_51 rfl (lv_at hl 0 rfl) ?_
  refine pcn (b := 52) rfl ?_
  refine lv_iconst (v := (-1)) hx hb dX3_restart_52 (by decide +kernel) ?_
  refine va_put (D := D) (ci := 3) (v := .int (-1)) (ty := .int) (C := RX3) (T := TX3) (N := 19) hx hb hts inX3 tyX3 tyX3_ok nmX3 hown hK hP hD hS 0 rfl rfl 6 (by decide) (hts _ wm_357) (fun _ h9 => h9) rfl (by decide +kernel) rfl rfl (Nat.le_of_ble_eq_true rfl) dX3_restart_53 (fun H locs hP hD hS => ?_)
  have hP : va_P D vwCl [(h0, .inr (3, [.ref h5, .ref h6, .ref h1, .int 0, .int 0, .int 0, .int (-1), .int 0, .int 0, .int 0, .int 0, .int 0, .int 0, .int 0, .int 0, .int 0, .int 0, .int 0, .int 0])), (h1, .inr (1, [.ref g0, .ref g1, .ref h2, .ref g2, .ref g3, .ref g4, .ref g5, .int 4, .int 3, .int 0, .int (-1), .int 0])), (h2, .inr (2, [.ref h3, .ref h4])), (h3, .inr (4, [.ref h4, .ref g6])), (h4, .inr (6, [.ref g7, .int 3])), (h5, .inr (6, [.ref g8, .int 0])), (h6, .inr (6, [.ref g9, .int 0]))] H := hP
  have hD : va_D A [(h0, .inr (3, [.ref h5, .ref h6, .ref h1, .int 0, .int 0, .int 0, .int (-1), .int 0, .int 0, .int 0, .int 0, .int 0, .int 0, .int 0, .int 0, .int 0, .int 0, .int 0, .int 0])), (h1, .inr (1, [.ref g0, .ref g1, .ref h2, .ref g2, .ref g3, .ref g4, .ref g5, .int 4, .int 3, .int 0, .int (-1), .int 0])), (h2, .inr (2, [.ref h3, .ref h4])), (h3, .inr (4, [.ref h4, .ref g6])), (h4, .inr (6, [.ref g7, .int 3])), (h5, .inr (6, [.ref g8, .int 0])), (h6, .inr (6, [.ref g9, .int 0]))] := hD
  refine lv_aload_n hx hb dX3_restart_56 rfl (lv_at hl 0 rfl) ?_
  refine lv_iconst (v := (-1)) hx hb dX3_restart_57 (by decide +kernel) ?_
  refine va_put (D := D) (ci := 3) (v := .int (-1)) (ty := .int) (C := RX3) (T := TX3) (N := 19) hx hb hts inX3 tyX3 tyX3_ok nmX3 hown hK hP hD hS 0 rfl rfl 7 (by decide) (hts _ wm_358) (fun _ h9 => h9) rfl (by decide +kernel) rfl rfl (Nat.le_of_ble_eq_true rfl) dX3_restart_58 (fun H locs hP hD hS => ?_)
  have hP : va_P D vwCl [(h0, .inr (3, [.ref h5, .ref h6, .ref h1, .int 0, .int 0, .int 0, .int (-1), .int (-1), .int 0, .int 0, .int 0, .int 0, .int 0, .int 0, .int 0, .int 0, .int 0, .int 0, .int 0])), (h1, .inr (1, [.ref g0, .ref g1, .ref h2, .ref g2, .ref g3, .ref g4, .ref g5, .int 4, .int 3, .int 0, .int (-1), .int 0])), (h2, .inr (2, [.ref h3, .ref h4])), (h3, .inr (4, [.ref h4, .ref g6])), (h4, .inr (6, [.ref g7, .int 3])), (h5, .inr (6, [.ref g8, .int 0])), (h6, .inr (6, [.ref g9, .int 0]))] H := hP
  have hD : va_D A [(h0, .inr (3, [.ref h5, .ref h6, .ref h1, .int 0, .int 0, .int 0, .int (-1), .int (-1), .int 0, .int 0, .int 0, .int 0, .int 0, .int 0, .int 0, .int 0, .int 0, .int 0, .int 0])), (h1, .inr (1, [.ref g0, .ref g1, .ref h2, .ref g2, .ref g3, .ref g4, .ref g5, .int 4, .int 3, .int 0, .int (-1), .int 0])), (h2, .inr (2, [.ref h3, .ref h4])), (h3, .inr (4, [.ref h4, .ref g6])), (h4, .inr (6, [.ref g7, .int 3])), (h5, .inr (6, [.ref g8, .int 0])), (h6, .inr (6, [.ref g9, .int 0]))] := hD
  refine lv_aload_n hx hb dX3_restart_61 rfl (lv_at hl 0 rfl) ?_
  refine lv_iconst (v := (-1)) hx hb dX3_restart_62 (by decide +kernel) ?_
  refine va_put (D := D) (ci := 3) (v := .int (-1)) (ty := .int) (C := RX3) (T := TX3) (N := 19) hx hb hts inX3 tyX3 tyX3_ok nmX3 hown hK hP hD hS 0 rfl rfl 10 (by decide) (hts _ wm_361) (fun _ h9 => h9) rfl (by decide +kernel) rfl rfl (Nat.le_of_ble_eq_true rfl) dX3_restart_63 (fun H locs hP hD hS => ?_)
  have hP : va_P D vwCl [(h0, .inr (3, [.ref h5, .ref h6, .ref h1, .int 0, .int 0, .int 0, .int (-1), .int (-1), .int 0, .int 0, .int (-1), .int 0, .int 0, .int 0, .int 0, .int 0, .int 0, .int 0, .int 0])), (h1, .inr (1, [.ref g0, .ref g1, .ref h2, .ref g2, .ref g3, .ref g4, .ref g5, .int 4, .int 3, .int 0, .int (-1), .int 0])), (h2, .inr (2, [.ref h3, .ref h4])), (h3, .inr (4, [.ref h4, .ref g6])), (h4, .inr (6, [.ref g7, .int 3])), (h5, .inr (6, [.ref g8, .int 0])), (h6, .inr (6, [.ref g9, .int 0]))] H := hP
  have hD : va_D A [(h0, .inr (3, [.ref h5, .ref h6, .ref h1, .int 0, .int 0, .int 0, .int (-1), .int (-1), .int 0, .int 0, .int (-1), .int 0, .int 0, .int 0, .int 0, .int 0, .int 0, .int 0, .int 0])), (h1, .inr (1, [.ref g0, .ref g1, .ref h2, .ref g2, .ref g3, .ref g4, .ref g5, .int 4, .int 3, .int 0, .int (-1), .int 0])), (h2, .inr (2, [.ref h3, .ref h4])), (h3, .inr (4, [.ref h4, .ref g6])), (h4, .inr (6, [.ref g7, .int 3])), (h5, .inr (6, [.ref g8, .int 0])), (h6, .inr (6, [.ref g9, .int 0]))] := hD
  refine pcn (b := 66) rfl ?_
  refine lv_aload_n hx hb dX3_restart_66 rfl (lv_at hl 0 rfl) ?_
  refine lv_iconst (v := 0) hx hb dX3_restart_67 (by decide +kernel) ?_
  refine va_put (D := D) (ci := 3) (v := .int 0) (ty := .int) (C := RX3) (T := TX3) (N := 19) hx hb hts inX3 tyX3 tyX3_ok nmX3 hown hK hP hD hS 0 rfl rfl 11 (by decide) (hts _ wm_362) (fun _ h9 => h9) rfl (by decide +kernel) rfl rfl (Nat.le_of_ble_eq_true rfl) dX3_restart_68 (fun H locs hP hD hS => ?_)
  have hP : va_P D vwCl [(h0, .inr (3, [.ref h5, .ref h6, .ref h1, .int 0, .int 0, .int 0, .int (-1), .int (-1), .int 0, .int 0, .int (-1), .int 0, .int 0, .int 0, .int 0, .int 0, .int 0, .int 0, .int 0])), (h1, .inr (1, [.ref g0, .ref g1, .ref h2, .ref g2, .ref g3, .ref g4, .ref g5, .int 4, .int 3, .int 0, .int (-1), .int 0])), (h2, .inr (2, [.ref h3, .ref h4])), (h3, .inr (4, [.ref h4, .ref g6])), (h4, .inr (6, [.ref g7, .int 3])), (h5, .inr (6, [.ref g8, .int 0])), (h6, .inr (6, [.ref g9, .int 0]))] H := hP
  have hD : va_D A [(h0, .inr (3, [.ref h5, .ref h6, .ref h1, .int 0, .int 0, .int 0, .int (-1), .int (-1), .int 0, .int 0, .int (-1), .int 0, .int 0, .int 0, .int 0, .int 0, .int 0, .int 0, .int 0])), (h1, .inr (1, [.ref g0, .ref g1, .ref h2, .ref g2, .ref g3, .ref g4, .ref g5, .int 4, .int 3, .int 0, .int (-1), .int 0])), (h2, .inr (2, [.ref h3, .ref h4])), (h3, .inr (4, [.ref h4, .ref g6])), (h4, .inr (6, [.ref g7, .int 3])), (h5, .inr (6, [.ref g8, .int 0])), (h6, .inr (6, [.ref g9, .int 0]))] := hD
  refine lv_aload_n hx hb dX3_restart_71 rfl (lv_at hl 0 rfl) ?_
  refine lv_iconst (v := 0) hx hb dX3_restart_72 (by decide +kernel) ?_
  refine va_put (D := D) (ci := 3) (v := .int 0) (ty := .int) (C := RX3) (T := TX3) (N := 19) hx hb hts inX3 tyX3 tyX3_ok nmX3 hown hK hP hD hS 0 rfl rfl 12 (by decide) (hts _ wm_363) (fun _ h9 => h9) rfl (by decide +kernel) rfl rfl (Nat.le_of_ble_eq_true rfl) dX3_restart_73 (fun H locs hP hD hS => ?_)
  have hP : va_P D vwCl [(h0, .inr (3, [.ref h5, .ref h6, .ref h1, .int 0, .int 0, .int 0, .int (-1), .int (-1), .int 0, .int 0, .int (-1), .int 0, .int 0, .int 0, .int 0, .int 0, .int 0, .int 0, .int 0])), (h1, .inr (1, [.ref g0, .ref g1, .ref h2, .ref g2, .ref g3, .ref g4, .ref g5, .int 4, .int 3, .int 0, .int (-1), .int 0])), (h2, .inr (2, [.ref h3, .ref h4])), (h3, .inr (4, [.ref h4, .ref g6])), (h4, .inr (6, [.ref g7, .int 3])), (h5, .inr (6, [.ref g8, .int 0])), (h6, .inr (6, [.ref g9, .int 0]))] H := hP
  have hD : va_D A [(h0, .inr (3, [.ref h5, .ref h6, .ref h1, .int 0, .int 0, .int 0, .int (-1), .int (-1), .int 0, .int 0, .int (-1), .int 0, .int 0, .int 0, .int 0, .int 0, .int 0, .int 0, .int 0])), (h1, .inr (1, [.ref g0, .ref g1, .ref h2, .ref g2, .ref g3, .ref g4, .ref g5, .int 4, .int 3, .int 0, .int (-1), .int 0])), (h2, .inr (2, [.ref h3, .ref h4])), (h3, .inr (4, [.ref h4, .ref g6])), (h4, .inr (6, [.ref g7, .int 3])), (h5, .inr (6, [.ref g8, .int 0])), (h6, .inr (6, [.ref g9, .int 0]))] := hD
  refine lv_aload_n hx hb dX3_restart_76 rfl (lv_at hl 0 rfl) ?_
  refine lv_iconst (v := 0) hx hb dX3_restart_77 (by decide +kernel) ?_
  refine pcn (b := 78) rfl ?_
  refine va_put (D := D) (ci := 3) (v := .int 0) (ty := .int) (C := RX3) (T := TX3) (N := 19) hx hb hts inX3 tyX3 tyX3_ok nmX3 hown hK hP hD hS 0 rfl rfl 13 (by decide) (hts _ wm_364) (fun _ h9 => h9) rfl (by decide +kernel) rfl rfl (Nat.le_of_ble_eq_true rfl) dX3_restart_78 (fun H locs hP hD hS => ?_)
  have hP : va_P D vwCl [(h0, .inr (3, [.ref h5, .ref h6, .ref h1, .int 0, .int 0, .int 0, .int (-1), .int (-1), .int 0, .int 0, .int (-1), .int 0, .int 0, .int 0, .int 0, .int 0, .int 0, .int 0, .int 0])), (h1, .inr (1, [.ref g0, .ref g1, .ref h2, .ref g2, .ref g3, .ref g4, .ref g5, .int 4, .int 3, .int 0, .int (-1), .int 0])), (h2, .inr (2, [.ref h3, .ref h4])), (h3, .inr (4, [.ref h4, .ref g6])), (h4, .inr (6, [.ref g7, .int 3])), (h5, .inr (6, [.ref g8, .int 0])), (h6, .inr (6, [.ref g9, .int 0]))] H := hP
  have hD : va_D A [(h0, .inr (3, [.ref h5, .ref h6, .ref h1, .int 0, .int 0, .int 0, .int (-1), .int (-1), .int 0, .int 0, .int (-1), .int 0, .int 0, .int 0, .int 0, .int 0, .int 0, .int 0, .int 0])), (h1, .inr (1, [.ref g0, .ref g1, .ref h2, .ref g2, .ref g3, .ref g4, .ref g5, .int 4, .int 3, .int 0, .int (-1), .int 0])), (h2, .inr (2, [.ref h3, .ref h4])), (h3, .inr (4, [.ref h4, .ref g6])), (h4, .inr (6, [.ref g7, .int 3])), (h5, .inr (6, [.ref g8, .int 0])), (h6, .inr (6, [.ref g9, .int 0]))] := hD
  refine lv_aload_n hx hb dX3_restart_81 rfl (lv_at hl 0 rfl) ?_
  refine lv_iconst (v := 0) hx hb dX3_restart_82 (by decide +kernel) ?_
  refine va_put (D := D) (ci := 3) (v := .int 0) (ty := .int) (C := RX3) (T := TX3) (N := 19) hx hb hts inX3 tyX3 tyX3_ok nmX3 hown hK hP hD hS 0 rfl rfl 14 (by decide) (hts _ wm_365) (fun _ h9 => h9) rfl (by decide +kernel) rfl rfl (Nat.le_of_ble_eq_true rfl) dX3_restart_83 (fun H locs hP hD hS => ?_)
  have hP : va_P D vwCl [(h0, .inr (3, [.ref h5, .ref h6, .ref h1, .int 0, .int 0, .int 0, .int (-1), .int (-1), .int 0, .int 0, .int (-1), .int 0, .int 0, .int 0, .int 0, .int 0, .int 0, .int 0, .int 0])), (h1, .inr (1, [.ref g0, .ref g1, .ref h2, .ref g2, .ref g3, .ref g4, .ref g5, .int 4, .int 3, .int 0, .int (-1), .int 0])), (h2, .inr (2, [.ref h3, .ref h4])), (h3, .inr (4, [.ref h4, .ref g6])), (h4, .inr (6, [.ref g7, .int 3])), (h5, .inr (6, [.ref g8, .int 0])), (h6, .inr (6, [.ref g9, .int 0]))] H := hP
  have hD : va_D A [(h0, .inr (3, [.ref h5, .ref h6, .ref h1, .int 0, .int 0, .int 0, .int (-1), .int (-1), .int 0, .int 0, .int (-1), .int 0, .int 0, .int 0, .int 0, .int 0, .int 0, .int 0, .int 0])), (h1, .inr (1, [.ref g0, .ref g1, .ref h2, .ref g2, .ref g3, .ref g4, .ref g5, .int 4, .int 3, .int 0, .int (-1), .int 0])), (h2, .inr (2, [.ref h3, .ref h4])), (h3, .inr (4, [.ref h4, .ref g6])), (h4, .inr (6, [.ref g7, .int 3])), (h5, .inr (6, [.ref g8, .int 0])), (h6, .inr (6, [.ref g9, .int 0]))] := hD
  refine lv_aload_n hx hb dX3_restart_86 rfl (lv_at hl 0 rfl) ?_
  refine lv_iconst (v := 0) hx hb dX3_restart_87 (by decide +kernel) ?_
  refine va_put (D := D) (ci := 3) (v := .int 0) (ty := .int) (C := RX3) (T := TX3) (N := 19) hx hb hts inX3 tyX3 tyX3_ok nmX3 hown hK hP hD hS 0 rfl rfl 15 (by decide) (hts _ wm_366) (fun _ h9 => h9) rfl (by decide +kernel) rfl rfl (Nat.le_of_ble_eq_true rfl) dX3_restart_88 (fun H locs hP hD hS => ?_)
  have hP : va_P D vwCl [(h0, .inr (3, [.ref h5, .ref h6, .ref h1, .int 0, .int 0, .int 0, .int (-1), .int (-1), .int 0, .int 0, .int (-1), .int 0, .int 0, .int 0, .int 0, .int 0, .int 0, .int 0, .int 0])), (h1, .inr (1, [.ref g0, .ref g1, .ref h2, .ref g2, .ref g3, .ref g4, .ref g5, .int 4, .int 3, .int 0, .int (-1), .int 0])), (h2, .inr (2, [.ref h3, .ref h4])), (h3, .inr (4, [.ref h4, .ref g6])), (h4, .inr (6, [.ref g7, .int 3])), (h5, .inr (6, [.ref g8, .int 0])), (h6, .inr (6, [.ref g9, .int 0]))] H := hP
  have hD : va_D A [(h0, .inr (3, [.ref h5, .ref h6, .ref h1, .int 0, .int 0, .int 0, .int (-1), .int (-1), .int 0, .int 0, .int (-1), .int 0, .int 0, .int 0, .int 0, .int 0, .int 0, .int 0, .int 0])), (h1, .inr (1, [.ref g0, .ref g1, .ref h2, .ref g2, .ref g3, .ref g4, .ref g5, .int 4, .int 3, .int 0, .int (-1), .int 0])), (h2, .inr (2, [.ref h3, .ref h4])), (h3, .inr (4, [.ref h4, .ref g6])), (h4, .inr (6, [.ref g7, .int 3])), (h5, .inr (6, [.ref g8, .int 0])), (h6, .inr (6, [.ref g9, .int 0]))] := hD
  refine lv_aload_n hx hb dX3_restart_91 rfl (lv_at hl 0 rfl) ?_
  refine pcn (b := 92) rfl ?_
  refine lv_iconst (v := 0) hx hb dX3_restart_92 (by decide +kernel) ?_
  refine va_put (D := D) (ci := 3) (v := .int 0) (ty := .int) (C := RX3) (T := TX3) (N := 19) hx hb hts inX3 tyX3 tyX3_ok nmX3 hown hK hP hD hS 0 rfl rfl 16 (by decide) (hts _ wm_367) (fun _ h9 => h9) rfl (by decide +kernel) rfl rfl (Nat.le_of_ble_eq_true rfl) dX3_restart_93 (fun H locs hP hD hS => ?_)
  have hP : va_P D vwCl [(h0, .inr (3, [.ref h5, .ref h6, .ref h1, .int 0, .int 0, .int 0, .int (-1), .int (-1), .int 0, .int 0, .int (-1), .int 0, .int 0, .int 0, .int 0, .int 0, .int 0, .int 0, .int 0])), (h1, .inr (1, [.ref g0, .ref g1, .ref h2, .ref g2, .ref g3, .ref g4, .ref g5, .int 4, .int 3, .int 0, .int (-1), .int 0])), (h2, .inr (2, [.ref h3, .ref h4])), (h3, .inr (4, [.ref h4, .ref g6])), (h4, .inr (6, [.ref g7, .int 3])), (h5, .inr (6, [.ref g8, .int 0])), (h6, .inr (6, [.ref g9, .int 0]))] H := hP
  have hD : va_D A [(h0, .inr (3, [.ref h5, .ref h6, .ref h1, .int 0, .int 0, .int 0, .int (-1), .int (-1), .int 0, .int 0, .int (-1), .int 0, .int 0, .int 0, .int 0, .int 0, .int 0, .int 0, .int 0])), (h1, .inr (1, [.ref g0, .ref g1, .ref h2, .ref g2, .ref g3, .ref g4, .ref g5, .int 4, .int 3, .int 0, .int (-1), .int 0])), (h2, .inr (2, [.ref h3, .ref h4])), (h3, .inr (4, [.ref h4, .ref g6])), (h4, .inr (6, [.ref g7, .int 3])), (h5, .inr (6, [.ref g8, .int 0])), (h6, .inr (6, [.ref g9, .int 0]))] := hD
  refine lv_aload_n hx hb dX3_restart_96 rfl (lv_at hl 0 rfl) ?_
  refine lv_iconst (v := 0) hx hb dX3_restart_97 (by decide +kernel) ?_
  refine va_put (D := D) (ci := 3) (v := .int 0) (ty := .int) (C := RX3) (T := TX3) (N := 19) hx hb hts inX3 tyX3 tyX3_ok nmX3 hown hK hP hD hS 0 rfl rfl 17 (by decide) (hts _ wm_368) (fun _ h9 => h9) rfl (by decide +kernel) rfl rfl (Nat.le_of_ble_eq_true rfl) dX3_restart_98 (fun H locs hP hD hS => ?_)
  have hP : va_P D vwCl [(h0, .inr (3, [.ref h5, .ref h6, .ref h1, .int 0, .int 0, .int 0, .int (-1), .int (-1), .int 0, .int 0, .int (-1), .int 0, .int 0, .int 0, .int 0, .int 0, .int 0, .int 0, .int 0])), (h1, .inr (1, [.ref g0, .ref g1, .ref h2, .ref g2, .ref g3, .ref g4, .ref g5, .int 4, .int 3, .int 0, .int (-1), .int 0])), (h2, .inr (2, [.ref h3, .ref h4])), (h3, .inr (4, [.ref h4, .ref g6])), (h4, .inr (6, [.ref g7, .int 3])), (h5, .inr (6, [.ref g8, .int 0])), (h6, .inr (6, [.ref g9, .int 0]))] H := hP
  have hD : va_D A [(h0, .inr (3, [.ref h5, .ref h6, .ref h1, .int 0, .int 0, .int 0, .int (-1), .int (-1), .int 0, .int 0, .int (-1), .int 0, .int 0, .int 0, .int 0, .int 0, .int 0, .int 0, .int 0])), (h1, .inr (1, [.ref g0, .ref g1, .ref h2, .ref g2, .ref g3, .ref g4, .ref g5, .int 4, .int 3, .int 0, .int (-1), .int 0])), (h2, .inr (2, [.ref h3, .ref h4])), (h3, .inr (4, [.ref h4, .ref g6])), (h4, .inr (6, [.ref g7, .int 3])), (h5, .inr (6, [.ref g8, .int 0])), (h6, .inr (6, [.ref g9, .int 0]))] := hD
  refine lv_aload_n hx hb dX3_restart_101 rfl (lv_at hl 0 rfl) ?_
  refine lv_iconst (v := 0) hx hb dX3_restart_102 (by decide +kernel) ?_
  refine va_put (D := D) (ci := 3) (v := .int 0) (ty := .int) (C := RX3) (T := TX3) (N := 19) hx hb hts inX3 tyX3 tyX3_ok nmX3 hown hK hP hD hS 0 rfl rfl 18 (by decide) (hts _ wm_369) (fun _ h9 => h9) rfl (by decide +kernel) rfl rfl (Nat.le_of_ble_eq_true rfl) dX3_restart_103 (fun H locs hP hD hS => ?_)
  have hP : va_P D vwCl [(h0, .inr (3, [.ref h5, .ref h6, .ref h1, .int 0, .int 0, .int 0, .int (-1), .int (-1), .int 0, .int 0, .int (-1), .int 0, .int 0, .int 0, .int 0, .int 0, .int 0, .int 0, .int 0])), (h1, .inr (1, [.ref g0, .ref g1, .ref h2, .ref g2, .ref g3, .ref g4, .ref g5, .int 4, .int 3, .int 0, .int (-1), .int 0])), (h2, .inr (2, [.ref h3, .ref h4])), (h3, .inr (4, [.ref h4, .ref g6])), (h4, .inr (6, [.ref g7, .int 3])), (h5, .inr (6, [.ref g8, .int 0])), (h6, .inr (6, [.ref g9, .int 0]))] H := hP
  have hD : va_D A [(h0, .inr (3, [.ref h5, .ref h6, .ref h1, .int 0, .int 0, .int 0, .int (-1), .int (-1), .int 0, .int 0, .int (-1), .int 0, .int 0, .int 0, .int 0, .int 0, .int 0, .int 0, .int 0])), (h1, .inr (1, [.ref g0, .ref g1, .ref h2, .ref g2, .ref g3, .ref g4, .ref g5, .int 4, .int 3, .int 0, .int (-1), .int 0])), (h2, .inr (2, [.ref h3, .ref h4])), (h3, .inr (4, [.ref h4, .ref g6])), (h4, .inr (6, [.ref g7, .int 3])), (h5, .inr (6, [.ref g8, .int 0])), (h6, .inr (6, [.ref g9, .int 0]))] := hD
  refine W.widen (k := 0) (n := 0) (Nat.le_of_ble_eq_true rfl) (Nat.le_of_ble_eq_true rfl) ?_
  exact rtV hx hb hr hlocks hS hP hD rfl dX3_restart_106

set_option maxHeartbeats 4000000 in
set_option maxRecDepth 100000 in
theorem c_X3_rests_2 (l : Launch) (D : va_G) (cI cZ cB cJ : ClassId) (h0 g0 g1 g2 : Nat) : CtI l D (TT cI cZ cB cJ) yX3_rests cX3_rests 1 (some .boolean) 0 0 0 0 [.ref h0] [(h0, .inr (3, [.ref g0, .ref g1, .ref g2, .int 0, .int 0, .int 0, .int (-1), .int (-1), .int 0, .int 0, .int (-1), .int 0, .int 0, .int 0, .int 0, .int 0, .int 0, .int 0, .int 0]))] (fun r w1 => r = 0 ∧ w1 = [(h0, .inr (3, [.ref g0, .ref g1, .ref g2, .int 0, .int 0, .int 0, .int (-1), .int (-1), .int 0, .int 0, .int (-1), .int 0, .int 0, .int 0, .int 0, .int 0, .int 0, .int 0, .int 0]))]) := by
  refine CtI.of (by decide +kernel) (Nat.le_of_ble_eq_true rfl) ?_
  intro p e s m below meth c A ls hx hb hr hml hown hts hnw hlocks hin hA hS hP hK hD hl
  have hown : s.vm.findClass RX3 = some m.cls := hown
  have hl : lv_has ls 1 [(0, .ref h0)] := hl
  refine lv_aload_n hx hb dX3_rests_0 rfl (lv_at hl 0 rfl) ?_
  refine va_get (D := D) (ci := 3) (v := .int 0) (C := RX3) (T := TX3) (N := 19) hx hb hts inX3 hown hK hP 0 rfl rfl 4 (by decide) (hts _ wm_355) (fun _ h9 => h9) rfl dX3_rests_1 ?_
  refine lv_iconst (v := 2) hx hb dX3_rests_4 (by decide +kernel) ?_
  refine lv_icmp_eq (tgt := 34) hx hb dX3_rests_5 (by decide) (fun h9 => absurd h9 (by decide +kernel)) (fun _ => ?_)
  refine lv_aload_n hx hb dX3_rests_8 rfl (lv_at hl 0 rfl) ?_
  refine va_get (D := D) (ci := 3) (v := .int 0) (C := RX3) (T := TX3) (N := 19) hx hb hts inX3 hown hK hP 0 rfl rfl 4 (by decide) (hts _ wm_355) (fun _ h9 => h9) rfl dX3_rests_9 ?_
  refine lv_iconst (v := 3) hx hb dX3_rests_12 (by decide +kernel) ?_
  refine pcn (b := 13) rfl ?_
  refine lv_icmp_eq (tgt := 34) hx hb dX3_rests_13 (by decide) (fun h9 => absurd h9 (by decide +kernel)) (fun _ => ?_)
  refine lv_aload_n hx hb dX3_rests_16 rfl (lv_at hl 0 rfl) ?_
  refine va_get (D := D) (ci := 3) (v := .int 0) (C := RX3) (T := TX3) (N := 19) hx hb hts inX3 hown hK hP 0 rfl rfl 4 (by decide) (hts _ wm_355) (fun _ h9 => h9) rfl dX3_rests_17 ?_
  refine lv_iconst (v := 1) hx hb dX3_rests_20 (by decide +kernel) ?_
  refine lv_icmp_ne (tgt := 38) hx hb dX3_rests_21 (by decide) (fun _ => ?_) (fun h9 => absurd h9 (by decide +kernel))
  refine lv_iconst (v := 0) hx hb dX3_rests_38 (by decide +kernel) ?_
  refine W.widen (k := 0) (n := 0) (Nat.le_of_ble_eq_true rfl) (Nat.le_of_ble_eq_true rfl) ?_
  exact rtZ hx hb hr rfl hlocks hS hP hD ⟨rfl, rfl⟩ dX3_rests_39

set_option maxHeartbeats 4000000 in
set_option maxRecDepth 100000 in
theorem c_X3_give_1 (l : Launch) (D : va_G) (cI cZ cB cJ : ClassId) (h0 g0 g1 g2 : Nat) : CtV l D (TT cI cZ cB cJ) yX3_give cX3_give 4 none 0 0 0 0 [.ref h0, .int 1, .int 0, .int (-1)] [(h0, .inr (3, [.ref g0, .ref g1, .ref g2, .int 0, .int 0, .int 0, .int (-1), .int (-1), .int 0, .int 0, .int (-1), .int 0, .int 1, .int 0, .int 0, .int 0, .int 0, .int 0, .int 0]))] (fun w1 => w1 = [(h0, .inr (3, [.ref g0, .ref g1, .ref g2, .int 0, .int 1, .int 0, .int (-1), .int 1, .int 0, .int (-1), .int (-1), .int 0, .int 1, .int 0, .int 0, .int 0, .int 0, .int 0, .int 0]))]) := by
  refine CtV.of (by decide +kernel) (Nat.le_of_ble_eq_true rfl) ?_
  intro p e s m below meth c A ls hx hb hr hml hown hts hnw hlocks hin hA hS hP hK hD hl
  have hown : s.vm.findClass RX3 = some m.cls := hown
  have hl : lv_has ls 4 [(0, .ref h0), (1, .int 1), (2, .int 0), (3, .int (-1))] := hl
  refine lv_aload_n hx hb dX3_give_0 rfl (lv_at hl 0 rfl) ?_
  refine lv_iload_n hx hb dX3_give_1 rfl (lv_at hl 1 rfl) ?_
  refine va_put (D := D) (ci := 3) (v := .int 1) (ty := .int) (C := RX3) (T := TX3) (N := 19) hx hb hts inX3 tyX3 tyX3_ok nmX3 hown hK hP hD hS 0 rfl rfl 7 (by decide) (hts _ wm_358) (fun _ h9 => h9) rfl (by decide +kernel) rfl rfl (Nat.le_of_ble_eq_true rfl) dX3_give_2 (fun H locs hP hD hS => ?_)
  have hP : va_P D vwCl [(h0, .inr (3, [.ref g0, .ref g1, .ref g2, .int 0, .int 0, .int 0, .int (-1), .int 1, .int 0, .int 0, .int (-1), .int 0, .int 1, .int 0, .int 0, .int 0, .int 0, .int 0, .int 0]))] H := hP
  have hD : va_D A [(h0, .inr (3, [.ref g0, .ref g1, .ref g2, .int 0, .int 0, .int 0, .int (-1), .int 1, .int 0, .int 0, .int (-1), .int 0, .int 1, .int 0, .int 0, .int 0, .int 0, .int 0, .int 0]))] := hD
  refine lv_aload_n hx hb dX3_give_5 rfl (lv_at hl 0 rfl) ?_
  refine lv_iload_n hx hb dX3_give_6 rfl (lv_at hl 2 rfl) ?_
  refine va_put (D := D) (ci := 3) (v := .int 0) (ty := .int) (C := RX3) (T := TX3) (N := 19) hx hb hts inX3 tyX3 tyX3_ok nmX3 hown hK hP hD hS 0 rfl rfl 8 (by decide) (hts _ wm_359) (fun _ h9 => h9) rfl (by decide +kernel) rfl rfl (Nat.le_of_ble_eq_true rfl) dX3_give_7 (fun H locs hP hD hS => ?_)
  have hP : va_P D vwCl [(h0, .inr (3, [.ref g0, .ref g1, .ref g2, .int 0, .int 0, .int 0, .int (-1), .int 1, .int 0, .int 0, .int (-1), .int 0, .int 1, .int 0, .int 0, .int 0, .int 0, .int 0, .int 0]))] H := hP
  have hD : va_D A [(h0, .inr (3, [.ref g0, .ref g1, .ref g2, .int 0, .int 0, .int 0, .int (-1), .int 1, .int 0, .int 0, .int (-1), .int 0, .int 1, .int 0, .int 0, .int 0, .int 0, .int 0, .int 0]))] := hD
  refine lv_aload_n hx hb dX3_give_10 rfl (lv_at hl 0 rfl) ?_
  refine pcn (b := 11) rfl ?_
  refine lv_iload_n hx hb dX3_give_11 rfl (lv_at hl 3 rfl) ?_
  refine va_put (D := D) (ci := 3) (v := .int (-1)) (ty := .int) (C := RX3) (T := TX3) (N := 19) hx hb hts inX3 tyX3 tyX3_ok nmX3 hown hK hP hD hS 0 rfl rfl 9 (by decide) (hts _ wm_360) (fun _ h9 => h9) rfl (by decide +kernel) rfl rfl (Nat.le_of_ble_eq_true rfl) dX3_give_12 (fun H locs hP hD hS => ?_)
  have hP : va_P D vwCl [(h0, .inr (3, [.ref g0, .ref g1, .ref g2, .int 0, .int 0, .int 0, .int (-1), .int 1, .int 0, .int (-1), .int (-1), .int 0, .int 1, .int 0, .int 0, .int 0, .int 0, .int 0, .int 0]))] H := hP
  have hD : va_D A [(h0, .inr (3, [.ref g0, .ref g1, .ref g2, .int 0, .int 0, .int 0, .int (-1), .int 1, .int 0, .int (-1), .int (-1), .int 0, .int 1, .int 0, .int 0, .int 0, .int 0, .int 0, .int 0]))] := hD
  refine lv_aload_n hx hb dX3_give_15 rfl (lv_at hl 0 rfl) ?_
  refine lv_iconst (v := (-1)) hx hb dX3_give_16 (by decide +kernel) ?_
  refine va_put (D := D) (ci := 3) (v := .int (-1)) (ty := .int) (C := RX3) (T := TX3) (N := 19) hx hb hts inX3 tyX3 tyX3_ok nmX3 hown hK hP hD hS 0 rfl rfl 10 (by decide) (hts _ wm_361) (fun _ h9 => h9) rfl (by decide +kernel) rfl rfl (Nat.le_of_ble_eq_true rfl) dX3_give_17 (fun H locs hP hD hS => ?_)
  have hP : va_P D vwCl [(h0, .inr (3, [.ref g0, .ref g1, .ref g2, .int 0, .int 0, .int 0, .int (-1), .int 1, .int 0, .int (-1), .int (-1), .int 0, .int 1, .int 0, .int 0, .int 0, .int 0, .int 0, .int 0]))] H := hP
  have hD : va_D A [(h0, .inr (3, [.ref g0, .ref g1, .ref g2, .int 0, .int 0, .int 0, .int (-1), .int 1, .int 0, .int (-1), .int (-1), .int 0, .int 1, .int 0, .int 0, .int 0, .int 0, .int 0, .int 0]))] := hD
  refine lv_aload_n hx hb dX3_give_20 rfl (lv_at hl 0 rfl) ?_
  refine lv_iconst (v := 1) hx hb dX3_give_21 (by decide +kernel) ?_
  refine va_put (D := D) (ci := 3) (v := .int 1) (ty := .int) (C := RX3) (T := TX3) (N := 19) hx hb hts inX3 tyX3 tyX3_ok nmX3 hown hK hP hD hS 0 rfl rfl 4 (by decide) (hts _ wm_355) (fun _ h9 => h9) rfl (by decide +kernel) rfl rfl (Nat.le_of_ble_eq_true rfl) dX3_give_22 (fun H locs hP hD hS => ?_)
  have hP : va_P D vwCl [(h0, .inr (3, [.ref g0, .ref g1, .ref g2, .int 0, .int 1, .int 0, .int (-1), .int 1, .int 0, .int (-1), .int (-1), .int 0, .int 1, .int 0, .int 0, .int 0, .int 0, .int 0, .int 0]))] H := hP
  have hD : va_D A [(h0, .inr (3, [.ref g0, .ref g1, .ref g2, .int 0, .int 1, .int 0, .int (-1), .int 1, .int 0, .int (-1), .int (-1), .int 0, .int 1, .int 0, .int 0, .int 0, .int 0, .int 0, .int 0]))] := hD
  refine W.widen (k := 0) (n := 0) (Nat.le_of_ble_eq_true rfl) (Nat.le_of_ble_eq_true rfl) ?_
  exact rtV hx hb hr hlocks hS hP hD rfl dX3_give_25

set_option maxHeartbeats 4000000 in
set_option maxRecDepth 100000 in
theorem c_X3_begin_1 (l : Launch) (D : va_G) (cI cZ cB cJ : ClassId) (h0 h1 h2 h3 h4 g0 g1 g2 g3 g4 g5 g6 g7 g8 g9 g10 g11 g12 g13 g14 : Nat) : CtV l D (TT cI cZ cB cJ) yX3_begin cX3_begin 3 none 1 23 0 0 [.ref h0] [(h0, .inr (3, [.ref g0, .ref g1, .ref h1, .int 0, .int 0, .int 0, .int (-1), .int (-1), .int 0, .int 0, .int (-1), .int 0, .int 1, .int 0, .int 0, .int 0, .int 0, .int 0, .int 0])), (h1, .inr (1, [.ref h2, .ref g2, .ref g3, .ref g4, .ref g5, .ref g6, .ref g7, .int 4, .int 3, .int 0, .int (-1), .int 0])), (h2, .inr (7, [.ref h4, .ref g8, .ref g9, .ref h3, .ref g10, .ref g11, .ref g12, .ref g13, .ref g14, .int 1, .int 1, .int 0])), (h3, .inl (cI, 60, .inl (fun _ => 0))), (h4, .inl (cI, 60, .inl (fun _ => 0)))] (fun w1 => w1 = [(h0, .inr (3, [.ref g0, .ref g1, .ref h1, .int 0, .int 1, .int 0, .int (-1), .int 1, .int 0, .int (-1), .int (-1), .int 0, .int 1, .int 0, .int 0, .int 0, .int 0, .int 0, .int 0])), (h1, .inr (1, [.ref h2, .ref g2, .ref g3, .ref g4, .ref g5, .ref g6, .ref g7, .int 4, .int 3, .int 0, .int (-1), .int 0])), (h2, .inr (7, [.ref h4, .ref g8, .ref g9, .ref h3, .ref g10, .ref g11, .ref g12, .ref g13, .ref g14, .int 1, .int 1, .int 0])), (h3, .inl (cI, 60, .inl (fun _ => 0))), (h4, .inl (cI, 60, .inl (fun _ => 0)))]) := by
  refine CtV.of (by decide +kernel) (Nat.le_of_ble_eq_true rfl) ?_
  intro p e s m below meth c A ls hx hb hr hml hown hts hnw hlocks hin hA hS hP hK hD hl
  have hown : s.vm.findClass RX3 = some m.cls := hown
  have hl : lv_has ls 3 [(0, .ref h0)] := hl
  refine lv_aload_n hx hb dX3_begin_0 rfl (lv_at hl 0 rfl) ?_
  refine va_get (D := D) (ci := 3) (v := .ref h1) (C := RX3) (T := TX3) (N := 19) hx hb hts inX3 hown hK hP 0 rfl rfl 2 (by decide) (hts _ wm_353) (fun _ h9 => h9) rfl dX3_begin_1 ?_
  refine va_getN (D := D) (ci := 1) (v := .ref h2) (C := RX1) (T := TX1) (N := 12) hx hb hts inX1 hown hK hP 1 rfl rfl 0 (by decide) (va_Nw.use rfl (hnw _ wn_276)) (fun _ h9 => h9) rfl dX3_begin_4 ?_
  refine va_getN (D := D) (ci := 7) (v := .ref h3) (C := RX7) (T := TX7) (N := 12) hx hb hts inX7 hown hK hP 2 rfl rfl 3 (by decide) (va_Nw.use rfl (hnw _ wn_84)) (fun _ h9 => h9) rfl dX3_begin_7 ?_
  refine lv_aload_n hx hb dX3_begin_10 rfl (lv_at hl 0 rfl) ?_
  refine va_get (D := D) (ci := 3) (v := .int 0) (C := RX3) (T := TX3) (N := 19) hx hb hts inX3 hown hK hP 0 rfl rfl 5 (by decide) (hts _ wm_356) (fun _ h9 => h9) rfl dX3_begin_11 ?_
  refine kSNi (As := [.ref h3, .int 0]) (rest := []) (wr := [(h0, .inr (3, [.ref g0, .ref g1, .ref h1, .int 0, .int 0, .int 0, .int (-1), .int (-1), .int 0, .int 0, .int (-1), .int 0, .int 1, .int 0, .int 0, .int 0, .int 0, .int 0, .int 0])), (h1, .inr (1, [.ref h2, .ref g2, .ref g3, .ref g4, .ref g5, .ref g6, .ref g7, .int 4, .int 3, .int 0, .int (-1), .int 0])), (h2, .inr (7, [.ref h4, .ref g8, .ref g9, .ref h3, .ref g10, .ref g11, .ref g12, .ref g13, .ref g14, .int 1, .int 1, .int 0])), (h4, .inl (cI, 60, .inl (fun _ => 0)))]) hx hb hml hown hts hnw hK hP hD hS hA hl.1 (c_X11_at_4 l D cI cZ cB cJ h3) yk_X11_at wn_1133 [3] [0, 1, 2, 4] rfl rfl (by decide) (by decide) (by decide) rfl rfl dX3_begin_14 ⟨Nat.le_of_ble_eq_true rfl, Nat.le_of_ble_eq_true rfl⟩ ⟨Nat.le_of_ble_eq_true rfl, Nat.le_of_ble_eq_true rfl⟩ (Nat.le_of_ble_eq_true rfl) (fun r9 w1 H locs hq9 hP hD hS => ?_)
  obtain ⟨rfl, rfl⟩ := hq9
  have hP : va_P D vwCl [(h0, .inr (3, [.ref g0, .ref g1, .ref h1, .int 0, .int 0, .int 0, .int (-1), .int (-1), .int 0, .int 0, .int (-1), .int 0, .int 1, .int 0, .int 0, .int 0, .int 0, .int 0, .int 0])), (h1, .inr (1, [.ref h2, .ref g2, .ref g3, .ref g4, .ref g5, .ref g6, .ref g7, .int 4, .int 3, .int 0, .int (-1), .int 0])), (h2, .inr (7, [.ref h4, .ref g8, .ref g9, .ref h3, .ref g10, .ref g11, .ref g12, .ref g13, .ref g14, .int 1, .int 1, .int 0])), (h4, .inl (cI, 60, .inl (fun _ => 0))), (h3, .inl (cI, 60, .inl (fun _ => 0)))] H := hP
  have hD : va_D A [(h0, .inr (3, [.ref g0, .ref g1, .ref h1, .int 0, .int 0, .int 0, .int (-1), .int (-1), .int 0, .int 0, .int (-1), .int 0, .int 1, .int 0, .int 0, .int 0, .int 0, .int 0, .int 0])), (h1, .inr (1, [.ref h2, .ref g2, .ref g3, .ref g4, .ref g5, .ref g6, .ref g7, .int 4, .int 3, .int 0, .int (-1), .int 0])), (h2, .inr (7, [.ref h4, .ref g8, .ref g9, .ref h3, .ref g10, .ref g11, .ref g12, .ref g13, .ref g14, .int 1, .int 1, .int 0])), (h4, .inl (cI, 60, .inl (fun _ => 0))), (h3, .inl (cI, 60, .inl (fun _ => 0)))] := hD
  refine W.widen (k := 0) (n := 0) (Nat.le_of_ble_eq_true rfl) (Nat.le_of_ble_eq_true rfl) ?_
  refine pcn (b := 17) rfl ?_
  refine lv_istore_n (lv' := [(1, .int 0), (0, .ref h0)]) hx hb dX3_begin_17 rfl hl (by decide) rfl (fun ls hl => ?_)
  refine lv_aload_n hx hb dX3_begin_18 rfl (lv_at hl 1 rfl) ?_
  refine va_get (D := D) (ci := 3) (v := .int 0) (C := RX3) (T := TX3) (N := 19) hx hb hts inX3 hown hK hP 0 rfl rfl 5 (by decide) (hts _ wm_356) (fun _ h9 => h9) rfl dX3_begin_19 ?_
  refine lv_istore_n (lv' := [(2, .int 0), (1, .int 0), (0, .ref h0)]) hx hb dX3_begin_22 rfl hl (by decide) rfl (fun ls hl => ?_)
  refine lv_aload_n hx hb dX3_begin_23 rfl (lv_at hl 2 rfl) ?_
  refine va_get (D := D) (ci := 3) (v := .ref h1) (C := RX3) (T := TX3) (N := 19) hx hb hts inX3 hown hK hP 0 rfl rfl 2 (by decide) (hts _ wm_353) (fun _ h9 => h9) rfl dX3_begin_24 ?_
  refine va_getN (D := D) (ci := 1) (v := .ref h2) (C := RX1) (T := TX1) (N := 12) hx hb hts inX1 hown hK hP 1 rfl rfl 0 (by decide) (va_Nw.use rfl (hnw _ wn_276)) (fun _ h9 => h9) rfl dX3_begin_27 ?_
  refine pcn (b := 30) rfl ?_
  refine va_getN (D := D) (ci := 7) (v := .ref h4) (C := RX7) (T := TX7) (N := 12) hx hb hts inX7 hown hK hP 2 rfl rfl 0 (by decide) (va_Nw.use rfl (hnw _ wn_76)) (fun _ h9 => h9) rfl dX3_begin_30 ?_
  refine lv_aload_n hx hb dX3_begin_33 rfl (lv_at hl 2 rfl) ?_
  refine va_get (D := D) (ci := 3) (v := .int 0) (C := RX3) (T := TX3) (N := 19) hx hb hts inX3 hown hK hP 0 rfl rfl 5 (by decide) (hts _ wm_356) (fun _ h9 => h9) rfl dX3_begin_34 ?_
  refine kSNi (As := [.ref h4, .int 0]) (rest := []) (wr := [(h0, .inr (3, [.ref g0, .ref g1, .ref h1, .int 0, .int 0, .int 0, .int (-1), .int (-1), .int 0, .int 0, .int (-1), .int 0, .int 1, .int 0, .int 0, .int 0, .int 0, .int 0, .int 0])), (h1, .inr (1, [.ref h2, .ref g2, .ref g3, .ref g4, .ref g5, .ref g6, .ref g7, .int 4, .int 3, .int 0, .int (-1), .int 0])), (h2, .inr (7, [.ref h4, .ref g8, .ref g9, .ref h3, .ref g10, .ref g11, .ref g12, .ref g13, .ref g14, .int 1, .int 1, .int 0])), (h3, .inl (cI, 60, .inl (fun _ => 0)))]) hx hb hml hown hts hnw hK hP hD hS hA hl.1 (c_X11_at_4 l D cI cZ cB cJ h4) yk_X11_at wn_1133 [3] [0, 1, 2, 4] rfl rfl (by decide) (by decide) (by decide) rfl rfl dX3_begin_37 ⟨Nat.le_of_ble_eq_true rfl, Nat.le_of_ble_eq_true rfl⟩ ⟨Nat.le_of_ble_eq_true rfl, Nat.le_of_ble_eq_true rfl⟩ (Nat.le_of_ble_eq_true rfl) (fun r9 w1 H locs hq9 hP hD hS => ?_)
  obtain ⟨rfl, rfl⟩ := hq9
  have hP : va_P D vwCl [(h0, .inr (3, [.ref g0, .ref g1, .ref h1, .int 0, .int 0, .int 0, .int (-1), .int (-1), .int 0, .int 0, .int (-1), .int 0, .int 1, .int 0, .int 0, .int 0, .int 0, .int 0, .int 0])), (h1, .inr (1, [.ref h2, .ref g2, .ref g3, .ref g4, .ref g5, .ref g6, .ref g7, .int 4, .int 3, .int 0, .int (-1), .int 0])), (h2, .inr (7, [.ref h4, .ref g8, .ref g9, .ref h3, .ref g10, .ref g11, .ref g12, .ref g13, .ref g14, .int 1, .int 1, .int 0])), (h3, .inl (cI, 60, .inl (fun _ => 0))), (h4, .inl (cI, 60, .inl (fun _ => 0)))] H := hP
  have hD : va_D A [(h0, .inr (3, [.ref g0, .ref g1, .ref h1, .int 0, .int 0, .int 0, .int (-1), .int (-1), .int 0, .int 0, .int (-1), .int 0, .int 1, .int 0, .int 0, .int 0, .int 0, .int 0, .int 0])), (h1, .inr (1, [.ref h2, .ref g2, .ref g3, .ref g4, .ref g5, .ref g6, .ref g7, .int 4, .int 3, .int 0, .int (-1), .int 0])), (h2, .inr (7, [.ref h4, .ref g8, .ref g9, .ref h3, .ref g10, .ref g11, .ref g12, .ref g13, .ref g14, .int 1, .int 1, .int 0])), (h3, .inl (cI, 60, .inl (fun _ => 0))), (h4, .inl (cI, 60, .inl (fun _ => 0)))] := hD
  refine W.widen (k := 0) (n := 0) (Nat.le_of_ble_eq_true rfl) (Nat.le_of_ble_eq_true rfl) ?_
  refine pcn (b := 40) rfl ?_
  refine lv_tableIn (off := 48) (tgt := 88) hx hb dX3_begin_40 (by decide +kernel) (by decide +kernel) (by decide +kernel) (by decide) ?_
  refine lv_aload_n hx hb dX3_begin_88 rfl (lv_at hl 2 rfl) ?_
  refine lv_iconst (v := 1) hx hb dX3_begin_89 (by decide +kernel) ?_
  refine lv_iload_n hx hb dX3_begin_90 rfl (lv_at hl 1 rfl) ?_
  refine lv_iconst (v := (-1)) hx hb dX3_begin_91 (by decide +kernel) ?_
  refine kVv (As := [.int 1, .int 0, .int (-1)]) (rest := []) (wr := [(h1, .inr (1, [.ref h2, .ref g2, .ref g3, .ref g4, .ref g5, .ref g6, .ref g7, .int 4, .int 3, .int 0, .int (-1), .int 0])), (h2, .inr (7, [.ref h4, .ref g8, .ref g9, .ref h3, .ref g10, .ref g11, .ref g12, .ref g13, .ref g14, .int 1, .int 1, .int 0])), (h3, .inl (cI, 60, .inl (fun _ => 0))), (h4, .inl (cI, 60, .inl (fun _ => 0)))]) hx hb hml hown hts hnw hK hP hD hS hA hl.1 (c_X3_give_1 l D cI cZ cB cJ h0 g0 g1 h1) yk_X3_give wm_1134 [0] [1, 2, 3, 4] rfl rfl (by decide) (by decide) (by decide) 0 rfl rfl rfl rfl rfl dX3_begin_92 ⟨Nat.le_of_ble_eq_true rfl, Nat.le_of_ble_eq_true rfl⟩ ⟨Nat.le_of_ble_eq_true rfl, Nat.le_of_ble_eq_true rfl⟩ (Nat.le_of_ble_eq_true rfl) (fun w1 H locs hq9 hP hD hS => ?_)
  obtain rfl := hq9
  have hP : va_P D vwCl [(h1, .inr (1, [.ref h2, .ref g2, .ref g3, .ref g4, .ref g5, .ref g6, .ref g7, .int 4, .int 3, .int 0, .int (-1), .int 0])), (h2, .inr (7, [.ref h4, .ref g8, .ref g9, .ref h3, .ref g10, .ref g11, .ref g12, .ref g13, .ref g14, .int 1, .int 1, .int 0])), (h3, .inl (cI, 60, .inl (fun _ => 0))), (h4, .inl (cI, 60, .inl (fun _ => 0))), (h0, .inr (3, [.ref g0, .ref g1, .ref h1, .int 0, .int 1, .int 0, .int (-1), .int 1, .int 0, .int (-1), .int (-1), .int 0, .int 1, .int 0, .int 0, .int 0, .int 0, .int 0, .int 0]))] H := hP
  have hD : va_D A [(h1, .inr (1, [.ref h2, .ref g2, .ref g3, .ref g4, .ref g5, .ref g6, .ref g7, .int 4, .int 3, .int 0, .int (-1), .int 0])), (h2, .inr (7, [.ref h4, .ref g8, .ref g9, .ref h3, .ref g10, .ref g11, .ref g12, .ref g13, .ref g14, .int 1, .int 1, .int 0])), (h3, .inl (cI, 60, .inl (fun _ => 0))), (h4, .inl (cI, 60, .inl (fun _ => 0))), (h0, .inr (3, [.ref g0, .ref g1, .ref h1, .int 0, .int 1, .int 0, .int (-1), .int 1, .int 0, .int (-1), .int (-1), .int 0, .int 1, .int 0, .int 0, .int 0, .int 0, .int 0, .int 0]))] := hD
  refine W.widen (k := 0) (n := 0) (Nat.le_of_ble_eq_true rfl) (Nat.le_of_ble_eq_true rfl) ?_
  refine pcn (b := 95) rfl ?_
  refine lv_goto (tgt := 210) hx hb dX3_begin_95 (by decide) ?_
  refine W.widen (k := 0) (n := 0) (Nat.le_of_ble_eq_true rfl) (Nat.le_of_ble_eq_true rfl) ?_
  have hP := hP.sub (ws' := [(h0, .inr (3, [.ref g0, .ref g1, .ref h1, .int 0, .int 1, .int 0, .int (-1), .int 1, .int 0, .int (-1), .int (-1), .int 0, .int 1, .int 0, .int 0, .int 0, .int 0, .int 0, .int 0])), (h1, .inr (1, [.ref h2, .ref g2, .ref g3, .ref g4, .ref g5, .ref g6, .ref g7, .int 4, .int 3, .int 0, .int (-1), .int 0])), (h2, .inr (7, [.ref h4, .ref g8, .ref g9, .ref h3, .ref g10, .ref g11, .ref g12, .ref g13, .ref g14, .int 1, .int 1, .int 0])), (h3, .inl (cI, 60, .inl (fun _ => 0))), (h4, .inl (cI, 60, .inl (fun _ => 0)))]) [4, 0, 1, 2, 3] rfl
  have hD := hD.sub (ws' := [(h0, .inr (3, [.ref g0, .ref g1, .ref h1, .int 0, .int 1, .int 0, .int (-1), .int 1, .int 0, .int (-1), .int (-1), .int 0, .int 1, .int 0, .int 0, .int 0, .int 0, .int 0, .int 0])), (h1, .inr (1, [.ref h2, .ref g2, .ref g3, .ref g4, .ref g5, .ref g6, .ref g7, .int 4, .int 3, .int 0, .int (-1), .int 0])), (h2, .inr (7, [.ref h4, .ref g8, .ref g9, .ref h3, .ref g10, .ref g11, .ref g12, .ref g13, .ref g14, .int 1, .int 1, .int 0])), (h3, .inl (cI, 60, .inl (fun _ => 0))), (h4, .inl (cI, 60, .inl (fun _ => 0)))]) [4, 0, 1, 2, 3] (by decide) rfl
  exact rtV hx hb hr hlocks hS hP hD rfl dX3_begin_210

set_option maxHeartbeats 4000000 in
set_option maxRecDepth 100000 in
theorem c_X3_rests_3 (l : Launch) (D : va_G) (cI cZ cB cJ : ClassId) (h0 h1 g0 g1 g2 : Nat) : CtI l D (TT cI cZ cB cJ) yX3_rests cX3_rests 1 (some .boolean) 0 0 0 0 [.ref h0] [(h0, .inr (3, [.ref h1, .ref g0, .ref g1, .int 0, .int 1, .int 0, .int (-1), .int 1, .int 0, .int (-1), .int (-1), .int 0, .int 1, .int 0, .int 0, .int 0, .int 0, .int 0, .int 0])), (h1, .inr (6, [.ref g2, .int 0]))] (fun r w1 => r = 1 ∧ w1 = [(h0, .inr (3, [.ref h1, .ref g0, .ref g1, .int 0, .int 1, .int 0, .int (-1), .int 1, .int 0, .int (-1), .int (-1), .int 0, .int 1, .int 0, .int 0, .int 0, .int 0, .int 0, .int 0])), (h1, .inr (6, [.ref g2, .int 0]))]) := by
  refine CtI.of (by decide +kernel) (Nat.le_of_ble_eq_true rfl) ?_
  intro p e s m below meth c A ls hx hb hr hml hown hts hnw hlocks hin hA hS hP hK hD hl
  have hown : s.vm.findClass RX3 = some m.cls := hown
  have hl : lv_has ls 1 [(0, .ref h0)] := hl
  refine lv_aload_n hx hb dX3_rests_0 rfl (lv_at hl 0 rfl) ?_
  refine va_get (D := D) (ci := 3) (v := .int 1) (C := RX3) (T := TX3) (N := 19) hx hb hts inX3 hown hK hP 0 rfl rfl 4 (by decide) (hts _ wm_355) (fun _ h9 => h9) rfl dX3_rests_1 ?_
  refine lv_iconst (v := 2) hx hb dX3_rests_4 (by decide +kernel) ?_
  refine lv_icmp_eq (tgt := 34) hx hb dX3_rests_5 (by decide) (fun h9 => absurd h9 (by decide +kernel)) (fun _ => ?_)
  refine lv_aload_n hx hb dX3_rests_8 rfl (lv_at hl 0 rfl) ?_
  refine va_get (D := D) (ci := 3) (v := .int 1) (C := RX3) (T := TX3) (N := 19) hx hb hts inX3 hown hK hP 0 rfl rfl 4 (by decide) (hts _ wm_355) (fun _ h9 => h9) rfl dX3_rests_9 ?_
  refine lv_iconst (v := 3) hx hb dX3_rests_12 (by decide +kernel) ?_
  refine pcn (b := 13) rfl ?_
  refine lv_icmp_eq (tgt := 34) hx hb dX3_rests_13 (by decide) (fun h9 => absurd h9 (by decide +kernel)) (fun _ => ?_)
  refine lv_aload_n hx hb dX3_rests_16 rfl (lv_at hl 0 rfl) ?_
  refine va_get (D := D) (ci := 3) (v := .int 1) (C := RX3) (T := TX3) (N := 19) hx hb hts inX3 hown hK hP 0 rfl rfl 4 (by decide) (hts _ wm_355) (fun _ h9 => h9) rfl dX3_rests_17 ?_
  refine lv_iconst (v := 1) hx hb dX3_rests_20 (by decide +kernel) ?_
  refine lv_icmp_ne (tgt := 38) hx hb dX3_rests_21 (by decide) (fun h9 => absurd (by decide +kernel) h9) (fun _ => ?_)
  refine lv_aload_n hx hb dX3_rests_24 rfl (lv_at hl 0 rfl) ?_
  refine va_get (D := D) (ci := 3) (v := .ref h1) (C := RX3) (T := TX3) (N := 19) hx hb hts inX3 hown hK hP 0 rfl rfl 0 (by decide) (hts _ wm_351) (fun _ h9 => h9) rfl dX3_rests_25 ?_
  refine va_getN (D := D) (ci := 6) (v := .int 0) (C := RX6) (T := TX6) (N := 2) hx hb hts inX6 hown hK hP 1 rfl rfl 1 (by decide) (va_Nw.use rfl (hnw _ wn_159)) (fun _ h9 => h9) rfl dX3_rests_28 ?_
  refine pcn (b := 31) rfl ?_
  refine lv_if_ne (tgt := 38) hx hb dX3_rests_31 (by decide) (fun h9 => absurd (by decide +kernel) h9) (fun _ => ?_)
  refine lv_iconst (v := 1) hx hb dX3_rests_34 (by decide +kernel) ?_
  refine lv_goto (tgt := 39) hx hb dX3_rests_35 (by decide) ?_
  refine W.widen (k := 0) (n := 0) (Nat.le_of_ble_eq_true rfl) (Nat.le_of_ble_eq_true rfl) ?_
  exact rtZ hx hb hr rfl hlocks hS hP hD ⟨rfl, rfl⟩ dX3_rests_39

set_option maxHeartbeats 4000000 in
set_option maxRecDepth 100000 in
theorem c_X3_go_4 (l : Launch) (D : va_G) (cI cZ cB cJ : ClassId) (h0 h1 h2 h3 h4 h5 h6 h7 h8 h9 g0 g1 g2 g3 g4 g5 g6 g7 g8 g9 g10 g11 g12 g13 g14 g15 : Nat) : CtV l D (TT cI cZ cB cJ) yX3_go cX3_go 4 none 4 86 0 0 [.ref h0, .int 0, .int 100] [(h0, .inr (3, [.ref h5, .ref h6, .ref h1, .int (-1), .int 0, .int 0, .int 0, .int 0, .int 0, .int 0, .int 0, .int 0, .int 0, .int 0, .int 0, .int 0, .int 0, .int 0, .int 0])), (h1, .inr (1, [.ref h7, .ref g0, .ref h2, .ref g1, .ref g2, .ref g3, .ref g4, .int 4, .int 3, .int 0, .int (-1), .int 0])), (h2, .inr (2, [.ref h3, .ref h4])), (h3, .inr (4, [.ref h4, .ref g5])), (h4, .inr (6, [.ref g6, .int 3])), (h5, .inr (6, [.ref g7, .int 0])), (h6, .inr (6, [.ref g8, .int 0])), (h7, .inr (7, [.ref h9, .ref g9, .ref g10, .ref h8, .ref g11, .ref g12, .ref g13, .ref g14, .ref g15, .int 1, .int 1, .int 0])), (h8, .inl (cI, 60, .inl (fun _ => 0))), (h9, .inl (cI, 60, .inl (fun _ => 0)))] (fun w1 => w1 = [(h0, .inr (3, [.ref h5, .ref h6, .ref h1, .int 0, .int 1, .int 0, .int (-1), .int 1, .int 0, .int (-1), .int (-1), .int 0, .int 1, .int 0, .int 0, .int 0, .int 0, .int 0, .int 0])), (h1, .inr (1, [.ref h7, .ref g0, .ref h2, .ref g1, .ref g2, .ref g3, .ref g4, .int 4, .int 3, .int 0, .int (-1), .int 0])), (h2, .inr (2, [.ref h3, .ref h4])), (h3, .inr (4, [.ref h4, .ref g5])), (h4, .inr (6, [.ref g6, .int 3])), (h5, .inr (6, [.ref g7, .int 0])), (h6, .inr (6, [.ref g8, .int 0])), (h7, .inr (7, [.ref h9, .ref g9, .ref g10, .ref h8, .ref g11, .ref g12, .ref g13, .ref g14, .ref g15, .int 1, .int 1, .int 0])), (h8, .inl (cI, 60, .inl (fun _ => 0))), (h9, .inl (cI, 60, .inl (fun _ => 0)))]) := by
  refine CtV.of (by decide +kernel) (Nat.le_of_ble_eq_true rfl) ?_
  intro p e s m below meth c A ls hx hb hr hml hown hts hnw hlocks hin hA hS hP hK hD hl
  have hown : s.vm.findClass RX3 = some m.cls := hown
  have hl : lv_has ls 4 [(0, .ref h0), (1, .int 0), (2, .int 100)] := hl
  refine lv_iload_n hx hb dX3_go_0 rfl (lv_at hl 1 rfl) ?_
  refine lv_aload_n hx hb dX3_go_1 rfl (lv_at hl 0 rfl) ?_
  refine va_get (D := D) (ci := 3) (v := .int (-1)) (C := RX3) (T := TX3) (N := 19) hx hb hts inX3 hown hK hP 0 rfl rfl 3 (by decide) (hts _ wm_354) (fun _ h9 => h9) rfl dX3_go_2 ?_
  refine lv_icmp_ne (tgt := 16) hx hb dX3_go_5 (by decide) (fun _ => ?_) (fun h9 => absurd h9 (by decide +kernel))
  refine lv_aload_n hx hb dX3_go_16 rfl (lv_at hl 0 rfl) ?_
  refine lv_iload_n hx hb dX3_go_17 rfl (lv_at hl 1 rfl) ?_
  refine kVv (As := [.int 0]) (rest := []) (wr := [(h7, .inr (7, [.ref h9, .ref g9, .ref g10, .ref h8, .ref g11, .ref g12, .ref g13, .ref g14, .ref g15, .int 1, .int 1, .int 0])), (h8, .inl (cI, 60, .inl (fun _ => 0))), (h9, .inl (cI, 60, .inl (fun _ => 0)))]) hx hb hml hown hts hnw hK hP hD hS hA hl.1 (c_X3_restart_1 l D cI cZ cB cJ h0 h1 h2 h3 h4 h5 h6 h7 g0 g1 g2 g3 g4 g5 g6 g7 g8) yk_X3_restart wm_1119 [0, 1, 2, 3, 4, 5, 6] [7, 8, 9] rfl rfl (by decide) (by decide) (by decide) 0 rfl rfl rfl rfl rfl dX3_go_18 ⟨Nat.le_of_ble_eq_true rfl, Nat.le_of_ble_eq_true rfl⟩ ⟨Nat.le_of_ble_eq_true rfl, Nat.le_of_ble_eq_true rfl⟩ (Nat.le_of_ble_eq_true rfl) (fun w1 H locs hq9 hP hD hS => ?_)
  obtain rfl := hq9
  have hP : va_P D vwCl [(h7, .inr (7, [.ref h9, .ref g9, .ref g10, .ref h8, .ref g11, .ref g12, .ref g13, .ref g14, .ref g15, .int 1, .int 1, .int 0])), (h8, .inl (cI, 60, .inl (fun _ => 0))), (h9, .inl (cI, 60, .inl (fun _ => 0))), (h0, .inr (3, [.ref h5, .ref h6, .ref h1, .int 0, .int 0, .int 0, .int (-1), .int (-1), .int 0, .int 0, .int (-1), .int 0, .int 0, .int 0, .int 0, .int 0, .int 0, .int 0, .int 0])), (h1, .inr (1, [.ref h7, .ref g0, .ref h2, .ref g1, .ref g2, .ref g3, .ref g4, .int 4, .int 3, .int 0, .int (-1), .int 0])), (h2, .inr (2, [.ref h3, .ref h4])), (h3, .inr (4, [.ref h4, .ref g5])), (h4, .inr (6, [.ref g6, .int 3])), (h5, .inr (6, [.ref g7, .int 0])), (h6, .inr (6, [.ref g8, .int 0]))] H := hP
  have hD : va_D A [(h7, .inr (7, [.ref h9, .ref g9, .ref g10, .ref h8, .ref g11, .ref g12, .ref g13, .ref g14, .ref g15, .int 1, .int 1, .int 0])), (h8, .inl (cI, 60, .inl (fun _ => 0))), (h9, .inl (cI, 60, .inl (fun _ => 0))), (h0, .inr (3, [.ref h5, .ref h6, .ref h1, .int 0, .int 0, .int 0, .int (-1), .int (-1), .int 0, .int 0, .int (-1), .int 0, .int 0, .int 0, .int 0, .int 0, .int 0, .int 0, .int 0])), (h1, .inr (1, [.ref h7, .ref g0, .ref h2, .ref g1, .ref g2, .ref g3, .ref g4, .int 4, .int 3, .int 0, .int (-1), .int 0])), (h2, .inr (2, [.ref h3, .ref h4])), (h3, .inr (4, [.ref h4, .ref g5])), (h4, .inr (6, [.ref g6, .int 3])), (h5, .inr (6, [.ref g7, .int 0])), (h6, .inr (6, [.ref g8, .int 0]))] := hD
  refine W.widen (k := 0) (n := 0) (Nat.le_of_ble_eq_true rfl) (Nat.le_of_ble_eq_true rfl) ?_
  refine pcn (b := 21) rfl ?_
  refine lv_aload_n hx hb dX3_go_21 rfl (lv_at hl 0 rfl) ?_
  refine va_get (D := D) (ci := 3) (v := .int 0) (C := RX3) (T := TX3) (N := 19) hx hb hts inX3 hown hK hP 3 rfl rfl 12 (by decide) (hts _ wm_363) (fun _ h9 => h9) rfl dX3_go_22 ?_
  refine lv_iload_n hx hb dX3_go_25 rfl (lv_at hl 2 rfl) ?_
  refine lv_icmp_ge (tgt := 152) hx hb dX3_go_26 (by decide) (fun h9 => absurd h9 (by decide +kernel)) (fun _ => ?_)
  refine lv_aload_n hx hb dX3_go_29 rfl (lv_at hl 0 rfl) ?_
  refine kVi (As := []) (rest := []) (wr := [(h7, .inr (7, [.ref h9, .ref g9, .ref g10, .ref h8, .ref g11, .ref g12, .ref g13, .ref g14, .ref g15, .int 1, .int 1, .int 0])), (h8, .inl (cI, 60, .inl (fun _ => 0))), (h9, .inl (cI, 60, .inl (fun _ => 0))), (h1, .inr (1, [.ref h7, .ref g0, .ref h2, .ref g1, .ref g2, .ref g3, .ref g4, .int 4, .int 3, .int 0, .int (-1), .int 0])), (h2, .inr (2, [.ref h3, .ref h4])), (h3, .inr (4, [.ref h4, .ref g5])), (h4, .inr (6, [.ref g6, .int 3])), (h5, .inr (6, [.ref g7, .int 0])), (h6, .inr (6, [.ref g8, .int 0]))]) hx hb hml hown hts hnw hK hP hD hS hA hl.1 (c_X3_rests_2 l D cI cZ cB cJ h0 h5 h6 h1) yk_X3_rests wm_1125 [3] [0, 1, 2, 4, 5, 6, 7, 8, 9] rfl rfl (by decide) (by decide) (by decide) 0 rfl rfl rfl rfl rfl dX3_go_30 ⟨Nat.le_of_ble_eq_true rfl, Nat.le_of_ble_eq_true rfl⟩ ⟨Nat.le_of_ble_eq_true rfl, Nat.le_of_ble_eq_true rfl⟩ (Nat.le_of_ble_eq_true rfl) (fun r9 w1 H locs hq9 hP hD hS => ?_)
  obtain ⟨rfl, rfl⟩ := hq9
  have hP : va_P D vwCl [(h7, .inr (7, [.ref h9, .ref g9, .ref g10, .ref h8, .ref g11, .ref g12, .ref g13, .ref g14, .ref g15, .int 1, .int 1, .int 0])), (h8, .inl (cI, 60, .inl (fun _ => 0))), (h9, .inl (cI, 60, .inl (fun _ => 0))), (h1, .inr (1, [.ref h7, .ref g0, .ref h2, .ref g1, .ref g2, .ref g3, .ref g4, .int 4, .int 3, .int 0, .int (-1), .int 0])), (h2, .inr (2, [.ref h3, .ref h4])), (h3, .inr (4, [.ref h4, .ref g5])), (h4, .inr (6, [.ref g6, .int 3])), (h5, .inr (6, [.ref g7, .int 0])), (h6, .inr (6, [.ref g8, .int 0])), (h0, .inr (3, [.ref h5, .ref h6, .ref h1, .int 0, .int 0, .int 0, .int (-1), .int (-1), .int 0, .int 0, .int (-1), .int 0, .int 0, .int 0, .int 0, .int 0, .int 0, .int 0, .int 0]))] H := hP
  have hD : va_D A [(h7, .inr (7, [.ref h9, .ref g9, .ref g10, .ref h8, .ref g11, .ref g12, .ref g13, .ref g14, .ref g15, .int 1, .int 1, .int 0])), (h8, .inl (cI, 60, .inl (fun _ => 0))), (h9, .inl (cI, 60, .inl (fun _ => 0))), (h1, .inr (1, [.ref h7, .ref g0, .ref h2, .ref g1, .ref g2, .ref g3, .ref g4, .int 4, .int 3, .int 0, .int (-1), .int 0])), (h2, .inr (2, [.ref h3, .ref h4])), (h3, .inr (4, [.ref h4, .ref g5])), (h4, .inr (6, [.ref g6, .int 3])), (h5, .inr (6, [.ref g7, .int 0])), (h6, .inr (6, [.ref g8, .int 0])), (h0, .inr (3, [.ref h5, .ref h6, .ref h1, .int 0, .int 0, .int 0, .int (-1), .int (-1), .int 0, .int 0, .int (-1), .int 0, .int 0, .int 0, .int 0, .int 0, .int 0, .int 0, .int 0]))] := hD
  refine W.widen (k := 0) (n := 0) (Nat.le_of_ble_eq_true rfl) (Nat.le_of_ble_eq_true rfl) ?_
  refine pcn (b := 33) rfl ?_
  refine lv_if_ne (tgt := 152) hx hb dX3_go_33 (by decide) (fun h9 => absurd (by decide +kernel) h9) (fun _ => ?_)
  refine lv_aload_n hx hb dX3_go_36 rfl (lv_at hl 0 rfl) ?_
  refine lv_dup hx hb dX3_go_37 rfl ?_
  refine va_get (D := D) (ci := 3) (v := .int 0) (C := RX3) (T := TX3) (N := 19) hx hb hts inX3 hown hK hP 9 rfl rfl 12 (by decide) (hts _ wm_363) (fun _ h9 => h9) rfl dX3_go_38 ?_
  refine lv_iconst (v := 1) hx hb dX3_go_41 (by decide +kernel) ?_
  refine lv_iadd hx hb dX3_go_42 ?_
  refine nrm (y := 1) (by decide +kernel) ?_
  refine va_put (D := D) (ci := 3) (v := .int 1) (ty := .int) (C := RX3) (T := TX3) (N := 19) hx hb hts inX3 tyX3 tyX3_ok nmX3 hown hK hP hD hS 9 rfl rfl 12 (by decide) (hts _ wm_363) (fun _ h9 => h9) rfl (by decide +kernel) rfl rfl (Nat.le_of_ble_eq_true rfl) dX3_go_43 (fun H locs hP hD hS => ?_)
  have hP : va_P D vwCl [(h7, .inr (7, [.ref h9, .ref g9, .ref g10, .ref h8, .ref g11, .ref g12, .ref g13, .ref g14, .ref g15, .int 1, .int 1, .int 0])), (h8, .inl (cI, 60, .inl (fun _ => 0))), (h9, .inl (cI, 60, .inl (fun _ => 0))), (h1, .inr (1, [.ref h7, .ref g0, .ref h2, .ref g1, .ref g2, .ref g3, .ref g4, .int 4, .int 3, .int 0, .int (-1), .int 0])), (h2, .inr (2, [.ref h3, .ref h4])), (h3, .inr (4, [.ref h4, .ref g5])), (h4, .inr (6, [.ref g6, .int 3])), (h5, .inr (6, [.ref g7, .int 0])), (h6, .inr (6, [.ref g8, .int 0])), (h0, .inr (3, [.ref h5, .ref h6, .ref h1, .int 0, .int 0, .int 0, .int (-1), .int (-1), .int 0, .int 0, .int (-1), .int 0, .int 1, .int 0, .int 0, .int 0, .int 0, .int 0, .int 0]))] H := hP
  have hD : va_D A [(h7, .inr (7, [.ref h9, .ref g9, .ref g10, .ref h8, .ref g11, .ref g12, .ref g13, .ref g14, .ref g15, .int 1, .int 1, .int 0])), (h8, .inl (cI, 60, .inl (fun _ => 0))), (h9, .inl (cI, 60, .inl (fun _ => 0))), (h1, .inr (1, [.ref h7, .ref g0, .ref h2, .ref g1, .ref g2, .ref g3, .ref g4, .int 4, .int 3, .int 0, .int (-1), .int 0])), (h2, .inr (2, [.ref h3, .ref h4])), (h3, .inr (4, [.ref h4, .ref g5])), (h4, .inr (6, [.ref g6, .int 3])), (h5, .inr (6, [.ref g7, .int 0])), (h6, .inr (6, [.ref g8, .int 0])), (h0, .inr (3, [.ref h5, .ref h6, .ref h1, .int 0, .int 0, .int 0, .int (-1), .int (-1), .int 0, .int 0, .int (-1), .int 0, .int 1, .int 0, .int 0, .int 0, .int 0, .int 0, .int 0]))] := hD
  refine pcn (b := 46) rfl ?_
  refine lv_aload_n hx hb dX3_go_46 rfl (lv_at hl 0 rfl) ?_
  refine va_get (D := D) (ci := 3) (v := .ref h5) (C := RX3) (T := TX3) (N := 19) hx hb hts inX3 hown hK hP 9 rfl rfl 0 (by decide) (hts _ wm_351) (fun _ h9 => h9) rfl dX3_go_47 ?_
  refine va_getN (D := D) (ci := 6) (v := .int 0) (C := RX6) (T := TX6) (N := 2) hx hb hts inX6 hown hK hP 7 rfl rfl 1 (by decide) (va_Nw.use rfl (hnw _ wn_159)) (fun _ h9 => h9) rfl dX3_go_50 ?_
  refine lv_iconst (v := 1) hx hb dX3_go_53 (by decide +kernel) ?_
  refine lv_isub hx hb dX3_go_54 ?_
  refine nrm (y := (-1)) (by decide +kernel) ?_
  refine lv_istore_n (lv' := [(3, .int (-1)), (0, .ref h0), (1, .int 0), (2, .int 100)]) hx hb dX3_go_55 rfl hl (by decide) rfl (fun ls hl => ?_)
  refine lv_aload_n hx hb dX3_go_56 rfl (lv_at hl 1 rfl) ?_
  refine va_get (D := D) (ci := 3) (v := .int 0) (C := RX3) (T := TX3) (N := 19) hx hb hts inX3 hown hK hP 9 rfl rfl 4 (by decide) (hts _ wm_355) (fun _ h9 => h9) rfl dX3_go_57 ?_
  refine pcn (b := 60) rfl ?_
  refine lv_if_ne (tgt := 70) hx hb dX3_go_60 (by decide) (fun h9 => absurd (by decide +kernel) h9) (fun _ => ?_)
  refine lv_aload_n hx hb dX3_go_63 rfl (lv_at hl 1 rfl) ?_
  refine kVv (As := []) (rest := []) (wr := [(h2, .inr (2, [.ref h3, .ref h4])), (h3, .inr (4, [.ref h4, .ref g5])), (h4, .inr (6, [.ref g6, .int 3])), (h5, .inr (6, [.ref g7, .int 0])), (h6, .inr (6, [.ref g8, .int 0]))]) hx hb hml hown hts hnw hK hP hD hS hA hl.1 (c_X3_begin_1 l D cI cZ cB cJ h0 h1 h7 h8 h9 h5 h6 g0 h2 g1 g2 g3 g4 g9 g10 g11 g12 g13 g14 g15) yk_X3_begin wm_1129 [9, 3, 0, 1, 2] [4, 5, 6, 7, 8] rfl rfl (by decide) (by decide) (by decide) 0 rfl rfl rfl rfl rfl dX3_go_64 ⟨Nat.le_of_ble_eq_true rfl, Nat.le_of_ble_eq_true rfl⟩ ⟨Nat.le_of_ble_eq_true rfl, Nat.le_of_ble_eq_true rfl⟩ (Nat.le_of_ble_eq_true rfl) (fun w1 H locs hq9 hP hD hS => ?_)
  obtain rfl := hq9
  have hP : va_P D vwCl [(h2, .inr (2, [.ref h3, .ref h4])), (h3, .inr (4, [.ref h4, .ref g5])), (h4, .inr (6, [.ref g6, .int 3])), (h5, .inr (6, [.ref g7, .int 0])), (h6, .inr (6, [.ref g8, .int 0])), (h0, .inr (3, [.ref h5, .ref h6, .ref h1, .int 0, .int 1, .int 0, .int (-1), .int 1, .int 0, .int (-1), .int (-1), .int 0, .int 1, .int 0, .int 0, .int 0, .int 0, .int 0, .int 0])), (h1, .inr (1, [.ref h7, .ref g0, .ref h2, .ref g1, .ref g2, .ref g3, .ref g4, .int 4, .int 3, .int 0, .int (-1), .int 0])), (h7, .inr (7, [.ref h9, .ref g9, .ref g10, .ref h8, .ref g11, .ref g12, .ref g13, .ref g14, .ref g15, .int 1, .int 1, .int 0])), (h8, .inl (cI, 60, .inl (fun _ => 0))), (h9, .inl (cI, 60, .inl (fun _ => 0)))] H := hP
  have hD : va_D A [(h2, .inr (2, [.ref h3, .ref h4])), (h3, .inr (4, [.ref h4, .ref g5])), (h4, .inr (6, [.ref g6, .int 3])), (h5, .inr (6, [.ref g7, .int 0])), (h6, .inr (6, [.ref g8, .int 0])), (h0, .inr (3, [.ref h5, .ref h6, .ref h1, .int 0, .int 1, .int 0, .int (-1), .int 1, .int 0, .int (-1), .int (-1), .int 0, .int 1, .int 0, .int 0, .int 0, .int 0, .int 0, .int 0])), (h1, .inr (1, [.ref h7, .ref g0, .ref h2, .ref g1, .ref g2, .ref g3, .ref g4, .int 4, .int 3, .int 0, .int (-1), .int 0])), (h7, .inr (7, [.ref h9, .ref g9, .ref g10, .ref h8, .ref g11, .ref g12, .ref g13, .ref g14, .ref g15, .int 1, .int 1, .int 0])), (h8, .inl (cI, 60, .inl (fun _ => 0))), (h9, .inl (cI, 60, .inl (fun _ => 0)))] := hD
  refine W.widen (k := 0) (n := 0) (Nat.le_of_ble_eq_true rfl) (Nat.le_of_ble_eq_true rfl) ?_
  refine pcn (b := 67) rfl ?_
  refine lv_goto (tgt := 116) hx hb dX3_go_67 (by decide) ?_
  refine lv_aload_n hx hb dX3_go_116 rfl (lv_at hl 1 rfl) ?_
  refine lv_aload_n hx hb dX3_go_117 rfl (lv_at hl 1 rfl) ?_
  refine va_get (D := D) (ci := 3) (v := .int 0) (C := RX3) (T := TX3) (N := 19) hx hb hts inX3 hown hK hP 5 rfl rfl 14 (by decide) (hts _ wm_365) (fun _ h9 => h9) rfl dX3_go_118 ?_
  refine lv_aload_n hx hb dX3_go_121 rfl (lv_at hl 1 rfl) ?_
  refine va_get (D := D) (ci := 3) (v := .ref h5) (C := RX3) (T := TX3) (N := 19) hx hb hts inX3 hown hK hP 5 rfl rfl 0 (by decide) (hts _ wm_351) (fun _ h9 => h9) rfl dX3_go_122 ?_
  refine va_getN (D := D) (ci := 6) (v := .int 0) (C := RX6) (T := TX6) (N := 2) hx hb hts inX6 hown hK hP 3 rfl rfl 1 (by decide) (va_Nw.use rfl (hnw _ wn_159)) (fun _ h9 => h9) rfl dX3_go_125 ?_
  refine va_mmax hx hb (hml.trans hl.1.symm) hown (hts _ wm_1163) (hts _ wm_154) (hts _ wm_8) (hts _ wm_155) (Nat.le_of_ble_eq_true rfl) (Nat.le_of_ble_eq_true rfl) (Nat.le_of_ble_eq_true rfl) (Nat.le_of_ble_eq_true rfl) dX3_go_128 ?_
  refine nrm (y := 0) (by decide +kernel) ?_
  refine pcn (b := 131) rfl ?_
  refine va_put (D := D) (ci := 3) (v := .int 0) (ty := .int) (C := RX3) (T := TX3) (N := 19) hx hb hts inX3 tyX3 tyX3_ok nmX3 hown hK hP hD hS 5 rfl rfl 14 (by decide) (hts _ wm_365) (fun _ h9 => h9) rfl (by decide +kernel) rfl rfl (Nat.le_of_ble_eq_true rfl) dX3_go_131 (fun H locs hP hD hS => ?_)
  have hP : va_P D vwCl [(h2, .inr (2, [.ref h3, .ref h4])), (h3, .inr (4, [.ref h4, .ref g5])), (h4, .inr (6, [.ref g6, .int 3])), (h5, .inr (6, [.ref g7, .int 0])), (h6, .inr (6, [.ref g8, .int 0])), (h0, .inr (3, [.ref h5, .ref h6, .ref h1, .int 0, .int 1, .int 0, .int (-1), .int 1, .int 0, .int (-1), .int (-1), .int 0, .int 1, .int 0, .int 0, .int 0, .int 0, .int 0, .int 0])), (h1, .inr (1, [.ref h7, .ref g0, .ref h2, .ref g1, .ref g2, .ref g3, .ref g4, .int 4, .int 3, .int 0, .int (-1), .int 0])), (h7, .inr (7, [.ref h9, .ref g9, .ref g10, .ref h8, .ref g11, .ref g12, .ref g13, .ref g14, .ref g15, .int 1, .int 1, .int 0])), (h8, .inl (cI, 60, .inl (fun _ => 0))), (h9, .inl (cI, 60, .inl (fun _ => 0)))] H := hP
  have hD : va_D A [(h2, .inr (2, [.ref h3, .ref h4])), (h3, .inr (4, [.ref h4, .ref g5])), (h4, .inr (6, [.ref g6, .int 3])), (h5, .inr (6, [.ref g7, .int 0])), (h6, .inr (6, [.ref g8, .int 0])), (h0, .inr (3, [.ref h5, .ref h6, .ref h1, .int 0, .int 1, .int 0, .int (-1), .int 1, .int 0, .int (-1), .int (-1), .int 0, .int 1, .int 0, .int 0, .int 0, .int 0, .int 0, .int 0])), (h1, .inr (1, [.ref h7, .ref g0, .ref h2, .ref g1, .ref g2, .ref g3, .ref g4, .int 4, .int 3, .int 0, .int (-1), .int 0])), (h7, .inr (7, [.ref h9, .ref g9, .ref g10, .ref h8, .ref g11, .ref g12, .ref g13, .ref g14, .ref g15, .int 1, .int 1, .int 0])), (h8, .inl (cI, 60, .inl (fun _ => 0))), (h9, .inl (cI, 60, .inl (fun _ => 0)))] := hD
  refine lv_aload_n hx hb dX3_go_134 rfl (lv_at hl 1 rfl) ?_
  refine lv_aload_n hx hb dX3_go_135 rfl (lv_at hl 1 rfl) ?_
  refine va_get (D := D) (ci := 3) (v := .int 0) (C := RX3) (T := TX3) (N := 19) hx hb hts inX3 hown hK hP 5 rfl rfl 15 (by decide) (hts _ wm_366) (fun _ h9 => h9) rfl dX3_go_136 ?_
  refine lv_aload_n hx hb dX3_go_139 rfl (lv_at hl 1 rfl) ?_
  refine va_get (D := D) (ci := 3) (v := .int 0) (C := RX3) (T := TX3) (N := 19) hx hb hts inX3 hown hK hP 5 rfl rfl 13 (by decide) (hts _ wm_364) (fun _ h9 => h9) rfl dX3_go_140 ?_
  refine va_mmax hx hb (hml.trans hl.1.symm) hown (hts _ wm_1163) (hts _ wm_154) (hts _ wm_8) (hts _ wm_155) (Nat.le_of_ble_eq_true rfl) (Nat.le_of_ble_eq_true rfl) (Nat.le_of_ble_eq_true rfl) (Nat.le_of_ble_eq_true rfl) dX3_go_143 ?_
  refine nrm (y := 0) (by decide +kernel) ?_
  refine va_put (D := D) (ci := 3) (v := .int 0) (ty := .int) (C := RX3) (T := TX3) (N := 19) hx hb hts inX3 tyX3 tyX3_ok nmX3 hown hK hP hD hS 5 rfl rfl 15 (by decide) (hts _ wm_366) (fun _ h9 => h9) rfl (by decide +kernel) rfl rfl (Nat.le_of_ble_eq_true rfl) dX3_go_146 (fun H locs hP hD hS => ?_)
  have hP : va_P D vwCl [(h2, .inr (2, [.ref h3, .ref h4])), (h3, .inr (4, [.ref h4, .ref g5])), (h4, .inr (6, [.ref g6, .int 3])), (h5, .inr (6, [.ref g7, .int 0])), (h6, .inr (6, [.ref g8, .int 0])), (h0, .inr (3, [.ref h5, .ref h6, .ref h1, .int 0, .int 1, .int 0, .int (-1), .int 1, .int 0, .int (-1), .int (-1), .int 0, .int 1, .int 0, .int 0, .int 0, .int 0, .int 0, .int 0])), (h1, .inr (1, [.ref h7, .ref g0, .ref h2, .ref g1, .ref g2, .ref g3, .ref g4, .int 4, .int 3, .int 0, .int (-1), .int 0])), (h7, .inr (7, [.ref h9, .ref g9, .ref g10, .ref h8, .ref g11, .ref g12, .ref g13, .ref g14, .ref g15, .int 1, .int 1, .int 0])), (h8, .inl (cI, 60, .inl (fun _ => 0))), (h9, .inl (cI, 60, .inl (fun _ => 0)))] H := hP
  have hD : va_D A [(h2, .inr (2, [.ref h3, .ref h4])), (h3, .inr (4, [.ref h4, .ref g5])), (h4, .inr (6, [.ref g6, .int 3])), (h5, .inr (6, [.ref g7, .int 0])), (h6, .inr (6, [.ref g8, .int 0])), (h0, .inr (3, [.ref h5, .ref h6, .ref h1, .int 0, .int 1, .int 0, .int (-1), .int 1, .int 0, .int (-1), .int (-1), .int 0, .int 1, .int 0, .int 0, .int 0, .int 0, .int 0, .int 0])), (h1, .inr (1, [.ref h7, .ref g0, .ref h2, .ref g1, .ref g2, .ref g3, .ref g4, .int 4, .int 3, .int 0, .int (-1), .int 0])), (h7, .inr (7, [.ref h9, .ref g9, .ref g10, .ref h8, .ref g11, .ref g12, .ref g13, .ref g14, .ref g15, .int 1, .int 1, .int 0])), (h8, .inl (cI, 60, .inl (fun _ => 0))), (h9, .inl (cI, 60, .inl (fun _ => 0)))] := hD
  refine pcn (b := 149) rfl ?_
  refine lv_goto (tgt := 21) hx hb dX3_go_149 (by decide) ?_
  refine lv_aload_n hx hb dX3_go_21 rfl (lv_at hl 1 rfl) ?_
  refine va_get (D := D) (ci := 3) (v := .int 1) (C := RX3) (T := TX3) (N := 19) hx hb hts inX3 hown hK hP 5 rfl rfl 12 (by decide) (hts _ wm_363) (fun _ h9 => h9) rfl dX3_go_22 ?_
  refine lv_iload_n hx hb dX3_go_25 rfl (lv_at hl 3 rfl) ?_
  refine lv_icmp_ge (tgt := 152) hx hb dX3_go_26 (by decide) (fun h9 => absurd h9 (by decide +kernel)) (fun _ => ?_)
  refine lv_aload_n hx hb dX3_go_29 rfl (lv_at hl 1 rfl) ?_
  refine kVi (As := []) (rest := []) (wr := [(h2, .inr (2, [.ref h3, .ref h4])), (h3, .inr (4, [.ref h4, .ref g5])), (h4, .inr (6, [.ref g6, .int 3])), (h6, .inr (6, [.ref g8, .int 0])), (h1, .inr (1, [.ref h7, .ref g0, .ref h2, .ref g1, .ref g2, .ref g3, .ref g4, .int 4, .int 3, .int 0, .int (-1), .int 0])), (h7, .inr (7, [.ref h9, .ref g9, .ref g10, .ref h8, .ref g11, .ref g12, .ref g13, .ref g14, .ref g15, .int 1, .int 1, .int 0])), (h8, .inl (cI, 60, .inl (fun _ => 0))), (h9, .inl (cI, 60, .inl (fun _ => 0)))]) hx hb hml hown hts hnw hK hP hD hS hA hl.1 (c_X3_rests_3 l D cI cZ cB cJ h0 h5 h6 h1 g7) yk_X3_rests wm_1125 [5, 3] [0, 1, 2, 4, 6, 7, 8, 9] rfl rfl (by decide) (by decide) (by decide) 0 rfl rfl rfl rfl rfl dX3_go_30 ⟨Nat.le_of_ble_eq_true rfl, Nat.le_of_ble_eq_true rfl⟩ ⟨Nat.le_of_ble_eq_true rfl, Nat.le_of_ble_eq_true rfl⟩ (Nat.le_of_ble_eq_true rfl) (fun r9 w1 H locs hq9 hP hD hS => ?_)
  obtain ⟨rfl, rfl⟩ := hq9
  have hP : va_P D vwCl [(h2, .inr (2, [.ref h3, .ref h4])), (h3, .inr (4, [.ref h4, .ref g5])), (h4, .inr (6, [.ref g6, .int 3])), (h6, .inr (6, [.ref g8, .int 0])), (h1, .inr (1, [.ref h7, .ref g0, .ref h2, .ref g1, .ref g2, .ref g3, .ref g4, .int 4, .int 3, .int 0, .int (-1), .int 0])), (h7, .inr (7, [.ref h9, .ref g9, .ref g10, .ref h8, .ref g11, .ref g12, .ref g13, .ref g14, .ref g15, .int 1, .int 1, .int 0])), (h8, .inl (cI, 60, .inl (fun _ => 0))), (h9, .inl (cI, 60, .inl (fun _ => 0))), (h0, .inr (3, [.ref h5, .ref h6, .ref h1, .int 0, .int 1, .int 0, .int (-1), .int 1, .int 0, .int (-1), .int (-1), .int 0, .int 1, .int 0, .int 0, .int 0, .int 0, .int 0, .int 0])), (h5, .inr (6, [.ref g7, .int 0]))] H := hP
  have hD : va_D A [(h2, .inr (2, [.ref h3, .ref h4])), (h3, .inr (4, [.ref h4, .ref g5])), (h4, .inr (6, [.ref g6, .int 3])), (h6, .inr (6, [.ref g8, .int 0])), (h1, .inr (1, [.ref h7, .ref g0, .ref h2, .ref g1, .ref g2, .ref g3, .ref g4, .int 4, .int 3, .int 0, .int (-1), .int 0])), (h7, .inr (7, [.ref h9, .ref g9, .ref g10, .ref h8, .ref g11, .ref g12, .ref g13, .ref g14, .ref g15, .int 1, .int 1, .int 0])), (h8, .inl (cI, 60, .inl (fun _ => 0))), (h9, .inl (cI, 60, .inl (fun _ => 0))), (h0, .inr (3, [.ref h5, .ref h6, .ref h1, .int 0, .int 1, .int 0, .int (-1), .int 1, .int 0, .int (-1), .int (-1), .int 0, .int 1, .int 0, .int 0, .int 0, .int 0, .int 0, .int 0])), (h5, .inr (6, [.ref g7, .int 0]))] := hD
  refine W.widen (k := 0) (n := 0) (Nat.le_of_ble_eq_true rfl) (Nat.le_of_ble_eq_true rfl) ?_
  refine pcn (b := 33) rfl ?_
  refine lv_if_ne (tgt := 152) hx hb dX3_go_33 (by decide) (fun _ => ?_) (fun h9 => absurd h9 (by decide +kernel))
  refine W.widen (k := 0) (n := 0) (Nat.le_of_ble_eq_true rfl) (Nat.le_of_ble_eq_true rfl) ?_
  have hP := hP.sub (ws' := [(h0, .inr (3, [.ref h5, .ref h6, .ref h1, .int 0, .int 1, .int 0, .int (-1), .int 1, .int 0, .int (-1), .int (-1), .int 0, .int 1, .int 0, .int 0, .int 0, .int 0, .int 0, .int 0])), (h1, .inr (1, [.ref h7, .ref g0, .ref h2, .ref g1, .ref g2, .ref g3, .ref g4, .int 4, .int 3, .int 0, .int (-1), .int 0])), (h2, .inr (2, [.ref h3, .ref h4])), (h3, .inr (4, [.ref h4, .ref g5])), (h4, .inr (6, [.ref g6, .int 3])), (h5, .inr (6, [.ref g7, .int 0])), (h6, .inr (6, [.ref g8, .int 0])), (h7, .inr (7, [.ref h9, .ref g9, .ref g10, .ref h8, .ref g11, .ref g12, .ref g13, .ref g14, .ref g15, .int 1, .int 1, .int 0])), (h8, .inl (cI, 60, .inl (fun _ => 0))), (h9, .inl (cI, 60, .inl (fun _ => 0)))]) [8, 4, 0, 1, 2, 9, 3, 5, 6, 7] rfl
  have hD := hD.sub (ws' := [(h0, .inr (3, [.ref h5, .ref h6, .ref h1, .int 0, .int 1, .int 0, .int (-1), .int 1, .int 0, .int (-1), .int (-1), .int 0, .int 1, .int 0, .int 0, .int 0, .int 0, .int 0, .int 0])), (h1, .inr (1, [.ref h7, .ref g0, .ref h2, .ref g1, .ref g2, .ref g3, .ref g4, .int 4, .int 3, .int 0, .int (-1), .int 0])), (h2, .inr (2, [.ref h3, .ref h4])), (h3, .inr (4, [.ref h4, .ref g5])), (h4, .inr (6, [.ref g6, .int 3])), (h5, .inr (6, [.ref g7, .int 0])), (h6, .inr (6, [.ref g8, .int 0])), (h7, .inr (7, [.ref h9, .ref g9, .ref g10, .ref h8, .ref g11, .ref g12, .ref g13, .ref g14, .ref g15, .int 1, .int 1, .int 0])), (h8, .inl (cI, 60, .inl (fun _ => 0))), (h9, .inl (cI, 60, .inl (fun _ => 0)))]) [8, 4, 0, 1, 2, 9, 3, 5, 6, 7] (by decide) rfl
  exact rtV hx hb hr hlocks hS hP hD rfl dX3_go_152

set_option maxHeartbeats 4000000 in
set_option maxRecDepth 100000 in
theorem c_X3_outcome_1 (l : Launch) (D : va_G) (cI cZ cB cJ : ClassId) (h0 h1 g0 g1 g2 : Nat) : CtI l D (TT cI cZ cB cJ) yX3_outcome cX3_outcome 1 (some .int) 0 0 0 0 [.ref h0] [(h0, .inr (3, [.ref h1, .ref g0, .ref g1, .int 0, .int 1, .int 0, .int (-1), .int 1, .int 0, .int (-1), .int (-1), .int 0, .int 1, .int 0, .int 0, .int 0, .int 0, .int 0, .int 0])), (h1, .inr (6, [.ref g2, .int 0]))] (fun r w1 => r = 1 ∧ w1 = [(h0, .inr (3, [.ref h1, .ref g0, .ref g1, .int 0, .int 1, .int 0, .int (-1), .int 1, .int 0, .int (-1), .int (-1), .int 0, .int 1, .int 0, .int 0, .int 0, .int 0, .int 0, .int 0])), (h1, .inr (6, [.ref g2, .int 0]))]) := by
  refine CtI.of (by decide +kernel) (Nat.le_of_ble_eq_true rfl) ?_
  intro p e s m below meth c A ls hx hb hr hml hown hts hnw hlocks hin hA hS hP hK hD hl
  have hown : s.vm.findClass RX3 = some m.cls := hown
  have hl : lv_has ls 1 [(0, .ref h0)] := hl
  refine lv_aload_n hx hb dX3_outcome_0 rfl (lv_at hl 0 rfl) ?_
  refine va_get (D := D) (ci := 3) (v := .int 1) (C := RX3) (T := TX3) (N := 19) hx hb hts inX3 hown hK hP 0 rfl rfl 4 (by decide) (hts _ wm_355) (fun _ h9 => h9) rfl dX3_outcome_1 ?_
  refine lv_iconst (v := 2) hx hb dX3_outcome_4 (by decide +kernel) ?_
  refine lv_icmp_ne (tgt := 10) hx hb dX3_outcome_5 (by decide) (fun _ => ?_) (fun h9 => absurd h9 (by decide +kernel))
  refine lv_aload_n hx hb dX3_outcome_10 rfl (lv_at hl 0 rfl) ?_
  refine va_get (D := D) (ci := 3) (v := .int 1) (C := RX3) (T := TX3) (N := 19) hx hb hts inX3 hown hK hP 0 rfl rfl 4 (by decide) (hts _ wm_355) (fun _ h9 => h9) rfl dX3_outcome_11 ?_
  refine lv_iconst (v := 3) hx hb dX3_outcome_14 (by decide +kernel) ?_
  refine lv_icmp_ne (tgt := 20) hx hb dX3_outcome_15 (by decide) (fun _ => ?_) (fun h9 => absurd h9 (by decide +kernel))
  refine lv_aload_n hx hb dX3_outcome_20 rfl (lv_at hl 0 rfl) ?_
  refine va_get (D := D) (ci := 3) (v := .int 1) (C := RX3) (T := TX3) (N := 19) hx hb hts inX3 hown hK hP 0 rfl rfl 4 (by decide) (hts _ wm_355) (fun _ h9 => h9) rfl dX3_outcome_21 ?_
  refine lv_iconst (v := 1) hx hb dX3_outcome_24 (by decide +kernel) ?_
  refine lv_icmp_ne (tgt := 45) hx hb dX3_outcome_25 (by decide) (fun h9 => absurd (by decide +kernel) h9) (fun _ => ?_)
  refine lv_aload_n hx hb dX3_outcome_28 rfl (lv_at hl 0 rfl) ?_
  refine va_get (D := D) (ci := 3) (v := .ref h1) (C := RX3) (T := TX3) (N := 19) hx hb hts inX3 hown hK hP 0 rfl rfl 0 (by decide) (hts _ wm_351) (fun _ h9 => h9) rfl dX3_outcome_29 ?_
  refine va_getN (D := D) (ci := 6) (v := .int 0) (C := RX6) (T := TX6) (N := 2) hx hb hts inX6 hown hK hP 1 rfl rfl 1 (by decide) (va_Nw.use rfl (hnw _ wn_159)) (fun _ h9 => h9) rfl dX3_outcome_32 ?_
  refine pcn (b := 35) rfl ?_
  refine lv_if_ne (tgt := 45) hx hb dX3_outcome_35 (by decide) (fun h9 => absurd (by decide +kernel) h9) (fun _ => ?_)
  refine lv_aload_n hx hb dX3_outcome_38 rfl (lv_at hl 0 rfl) ?_
  refine va_get (D := D) (ci := 3) (v := .int 1) (C := RX3) (T := TX3) (N := 19) hx hb hts inX3 hown hK hP 0 rfl rfl 7 (by decide) (hts _ wm_358) (fun _ h9 => h9) rfl dX3_outcome_39 ?_
  refine lv_goto (tgt := 46) hx hb dX3_outcome_42 (by decide) ?_
  refine W.widen (k := 0) (n := 0) (Nat.le_of_ble_eq_true rfl) (Nat.le_of_ble_eq_true rfl) ?_
  exact rtI hx hb hr hlocks hS hP hD ⟨rfl, rfl⟩ dX3_outcome_46

set_option maxHeartbeats 4000000 in
set_option maxRecDepth 100000 in
theorem c_X11_at_10 (l : Launch) (D : va_G) (cI cZ cB cJ : ClassId) (h0 : Nat) : CtI l D (TT cI cZ cB cJ) yX11_at cX11_at 2 (some .int) 0 0 0 0 [.ref h0, .int 0] [(h0, .inl (cI, 7, .inl (fun _ => 0)))] (fun r w1 => r = 0 ∧ w1 = [(h0, .inl (cI, 7, .inl (fun _ => 0)))]) := by
  refine CtI.of (by decide +kernel) (Nat.le_of_ble_eq_true rfl) ?_
  intro p e s m below meth c A ls hx hb hr hml hown hts hnw hlocks hin hA hS hP hK hD hl
  have hown : s.vm.findClass RX11 = some m.cls := hown
  have hl : lv_has ls 2 [(0, .ref h0), (1, .int 0)] := hl
  refine lv_iload_n hx hb dX11_at_0 rfl (lv_at hl 1 rfl) ?_
  refine lv_if_lt (tgt := 16) hx hb dX11_at_1 (by decide) (fun h9 => absurd h9 (by decide +kernel)) (fun _ => ?_)
  refine lv_iload_n hx hb dX11_at_4 rfl (lv_at hl 1 rfl) ?_
  refine lv_aload_n hx hb dX11_at_5 rfl (lv_at hl 0 rfl) ?_
  refine va_alen (v := 7) hx hb hK hP 0 0 rfl rfl (by decide +kernel) dX11_at_6 ?_
  refine lv_icmp_ge (tgt := 16) hx hb dX11_at_7 (by decide) (fun h9 => absurd h9 (by decide +kernel)) (fun _ => ?_)
  refine lv_aload_n hx hb dX11_at_10 rfl (lv_at hl 0 rfl) ?_
  refine pcn (b := 11) rfl ?_
  refine lv_iload_n hx hb dX11_at_11 rfl (lv_at hl 1 rfl) ?_
  refine al_i (x := 0) hx hb hK hP 0 0 rfl rfl (vpi (by decide +kernel)) (by first | decide +kernel | rfl) dX11_at_12 ?_
  refine lv_goto (tgt := 17) hx hb dX11_at_13 (by decide) ?_
  refine W.widen (k := 0) (n := 0) (Nat.le_of_ble_eq_true rfl) (Nat.le_of_ble_eq_true rfl) ?_
  exact rtI hx hb hr hlocks hS hP hD ⟨rfl, rfl⟩ dX11_at_17

set_option maxHeartbeats 4000000 in
set_option maxRecDepth 100000 in
theorem c_X11_put_28 (l : Launch) (D : va_G) (cI cZ cB cJ : ClassId) (h0 : Nat) : CtV l D (TT cI cZ cB cJ) yX11_put cX11_put 3 none 0 0 0 0 [.ref h0, .int 5, .int 0] [(h0, .inl (cI, 7, .inl (fun _ => 0)))] (fun w1 => w1 = [(h0, .inl (cI, 7, .inl (fun _ => 0)))]) := by
  refine CtV.of (by decide +kernel) (Nat.le_of_ble_eq_true rfl) ?_
  intro p e s m below meth c A ls hx hb hr hml hown hts hnw hlocks hin hA hS hP hK hD hl
  have hown : s.vm.findClass RX11 = some m.cls := hown
  have hl : lv_has ls 3 [(0, .ref h0), (1, .int 5), (2, .int 0)] := hl
  refine lv_iload_n hx hb dX11_put_0 rfl (lv_at hl 1 rfl) ?_
  refine lv_if_lt (tgt := 14) hx hb dX11_put_1 (by decide) (fun h9 => absurd h9 (by decide +kernel)) (fun _ => ?_)
  refine lv_iload_n hx hb dX11_put_4 rfl (lv_at hl 1 rfl) ?_
  refine lv_aload_n hx hb dX11_put_5 rfl (lv_at hl 0 rfl) ?_
  refine va_alen (v := 7) hx hb hK hP 0 0 rfl rfl (by decide +kernel) dX11_put_6 ?_
  refine lv_icmp_ge (tgt := 14) hx hb dX11_put_7 (by decide) (fun h9 => absurd h9 (by decide +kernel)) (fun _ => ?_)
  refine lv_aload_n hx hb dX11_put_10 rfl (lv_at hl 0 rfl) ?_
  refine pcn (b := 11) rfl ?_
  refine lv_iload_n hx hb dX11_put_11 rfl (lv_at hl 1 rfl) ?_
  refine lv_iload_n hx hb dX11_put_12 rfl (lv_at hl 2 rfl) ?_
  refine as_i_s hx hb hK hP hD hS 0 0 rfl rfl (vpi (by decide +kernel)) (by first | decide +kernel | rfl) dX11_put_13 (fun H locs hP hD hS => ?_)
  have hP : va_P D vwCl [(h0, .inl (cI, 7, .inl (fun _ => 0)))] H := hP
  have hD : va_D A [(h0, .inl (cI, 7, .inl (fun _ => 0)))] := hD
  refine W.widen (k := 0) (n := 0) (Nat.le_of_ble_eq_true rfl) (Nat.le_of_ble_eq_true rfl) ?_
  exact rtV hx hb hr hlocks hS hP hD rfl dX11_put_14

set_option maxHeartbeats 4000000 in
set_option maxRecDepth 100000 in
theorem c_X11_at_11 (l : Launch) (D : va_G) (cI cZ cB cJ : ClassId) (h0 : Nat) : CtI l D (TT cI cZ cB cJ) yX11_at cX11_at 2 (some .int) 0 0 0 0 [.ref h0, .int 6] [(h0, .inl (cI, 7, .inl (fun _ => 0)))] (fun r w1 => r = 0 ∧ w1 = [(h0, .inl (cI, 7, .inl (fun _ => 0)))]) := by
  refine CtI.of (by decide +kernel) (Nat.le_of_ble_eq_true rfl) ?_
  intro p e s m below meth c A ls hx hb hr hml hown hts hnw hlocks hin hA hS hP hK hD hl
  have hown : s.vm.findClass RX11 = some m.cls := hown
  have hl : lv_has ls 2 [(0, .ref h0), (1, .int 6)] := hl
  refine lv_iload_n hx hb dX11_at_0 rfl (lv_at hl 1 rfl) ?_
  refine lv_if_lt (tgt := 16) hx hb dX11_at_1 (by decide) (fun h9 => absurd h9 (by decide +kernel)) (fun _ => ?_)
  refine lv_iload_n hx hb dX11_at_4 rfl (lv_at hl 1 rfl) ?_
  refine lv_aload_n hx hb dX11_at_5 rfl (lv_at hl 0 rfl) ?_
  refine va_alen (v := 7) hx hb hK hP 0 0 rfl rfl (by decide +kernel) dX11_at_6 ?_
  refine lv_icmp_ge (tgt := 16) hx hb dX11_at_7 (by decide) (fun h9 => absurd h9 (by decide +kernel)) (fun _ => ?_)
  refine lv_aload_n hx hb dX11_at_10 rfl (lv_at hl 0 rfl) ?_
  refine pcn (b := 11) rfl ?_
  refine lv_iload_n hx hb dX11_at_11 rfl (lv_at hl 1 rfl) ?_
  refine al_i (x := 0) hx hb hK hP 0 0 rfl rfl (vpi (by decide +kernel)) (by first | decide +kernel | rfl) dX11_at_12 ?_
  refine lv_goto (tgt := 17) hx hb dX11_at_13 (by decide) ?_
  refine W.widen (k := 0) (n := 0) (Nat.le_of_ble_eq_true rfl) (Nat.le_of_ble_eq_true rfl) ?_
  exact rtI hx hb hr hlocks hS hP hD ⟨rfl, rfl⟩ dX11_at_17

set_option maxHeartbeats 4000000 in
set_option maxRecDepth 100000 in
theorem c_X11_put_29 (l : Launch) (D : va_G) (cI cZ cB cJ : ClassId) (h0 : Nat) : CtV l D (TT cI cZ cB cJ) yX11_put cX11_put 3 none 0 0 0 0 [.ref h0, .int 6, .int 0] [(h0, .inl (cI, 7, .inl (fun _ => 0)))] (fun w1 => w1 = [(h0, .inl (cI, 7, .inl (fun _ => 0)))]) := by
  refine CtV.of (by decide +kernel) (Nat.le_of_ble_eq_true rfl) ?_
  intro p e s m below meth c A ls hx hb hr hml hown hts hnw hlocks hin hA hS hP hK hD hl
  have hown : s.vm.findClass RX11 = some m.cls := hown
  have hl : lv_has ls 3 [(0, .ref h0), (1, .int 6), (2, .int 0)] := hl
  refine lv_iload_n hx hb dX11_put_0 rfl (lv_at hl 1 rfl) ?_
  refine lv_if_lt (tgt := 14) hx hb dX11_put_1 (by decide) (fun h9 => absurd h9 (by decide +kernel)) (fun _ => ?_)
  refine lv_iload_n hx hb dX11_put_4 rfl (lv_at hl 1 rfl) ?_
  refine lv_aload_n hx hb dX11_put_5 rfl (lv_at hl 0 rfl) ?_
  refine va_alen (v := 7) hx hb hK hP 0 0 rfl rfl (by decide +kernel) dX11_put_6 ?_
  refine lv_icmp_ge (tgt := 14) hx hb dX11_put_7 (by decide) (fun h9 => absurd h9 (by decide +kernel)) (fun _ => ?_)
  refine lv_aload_n hx hb dX11_put_10 rfl (lv_at hl 0 rfl) ?_
  refine pcn (b := 11) rfl ?_
  refine lv_iload_n hx hb dX11_put_11 rfl (lv_at hl 1 rfl) ?_
  refine lv_iload_n hx hb dX11_put_12 rfl (lv_at hl 2 rfl) ?_
  refine as_i_s hx hb hK hP hD hS 0 0 rfl rfl (vpi (by decide +kernel)) (by first | decide +kernel | rfl) dX11_put_13 (fun H locs hP hD hS => ?_)
  have hP : va_P D vwCl [(h0, .inl (cI, 7, .inl (fun _ => 0)))] H := hP
  have hD : va_D A [(h0, .inl (cI, 7, .inl (fun _ => 0)))] := hD
  refine W.widen (k := 0) (n := 0) (Nat.le_of_ble_eq_true rfl) (Nat.le_of_ble_eq_true rfl) ?_
  exact rtV hx hb hr hlocks hS hP hD rfl dX11_put_14

set_option maxHeartbeats 4000000 in
set_option maxRecDepth 100000 in
theorem c_X11_put_30 (l : Launch) (D : va_G) (cI cZ cB cJ : ClassId) (h0 : Nat) : CtV l D (TT cI cZ cB cJ) yX11_put cX11_put 3 none 0 0 0 0 [.ref h0, .int 0, .int 1] [(h0, .inl (cI, 7, .inl (fun _ => 0)))] (fun w1 => w1 = [(h0, .inl (cI, 7, .inl (upd (fun _ => 0) 0 1)))]) := by
  refine CtV.of (by decide +kernel) (Nat.le_of_ble_eq_true rfl) ?_
  intro p e s m below meth c A ls hx hb hr hml hown hts hnw hlocks hin hA hS hP hK hD hl
  have hown : s.vm.findClass RX11 = some m.cls := hown
  have hl : lv_has ls 3 [(0, .ref h0), (1, .int 0), (2, .int 1)] := hl
  refine lv_iload_n hx hb dX11_put_0 rfl (lv_at hl 1 rfl) ?_
  refine lv_if_lt (tgt := 14) hx hb dX11_put_1 (by decide) (fun h9 => absurd h9 (by decide +kernel)) (fun _ => ?_)
  refine lv_iload_n hx hb dX11_put_4 rfl (lv_at hl 1 rfl) ?_
  refine lv_aload_n hx hb dX11_put_5 rfl (lv_at hl 0 rfl) ?_
  refine va_alen (v := 7) hx hb hK hP 0 0 rfl rfl (by decide +kernel) dX11_put_6 ?_
  refine lv_icmp_ge (tgt := 14) hx hb dX11_put_7 (by decide) (fun h9 => absurd h9 (by decide +kernel)) (fun _ => ?_)
  refine lv_aload_n hx hb dX11_put_10 rfl (lv_at hl 0 rfl) ?_
  refine pcn (b := 11) rfl ?_
  refine lv_iload_n hx hb dX11_put_11 rfl (lv_at hl 1 rfl) ?_
  refine lv_iload_n hx hb dX11_put_12 rfl (lv_at hl 2 rfl) ?_
  refine as_i (k := 0) hx hb hK hP hD hS 0 0 rfl rfl (vpi (by decide +kernel)) (by decide +kernel) dX11_put_13 (fun H locs hP hD hS => ?_)
  have hP : va_P D vwCl [(h0, .inl (cI, 7, .inl (upd (fun _ => 0) 0 1)))] H := hP
  have hD : va_D A [(h0, .inl (cI, 7, .inl (upd (fun _ => 0) 0 1)))] := hD
  refine W.widen (k := 0) (n := 0) (Nat.le_of_ble_eq_true rfl) (Nat.le_of_ble_eq_true rfl) ?_
  exact rtV hx hb hr hlocks hS hP hD rfl dX11_put_14

set_option maxHeartbeats 4000000 in
set_option maxRecDepth 100000 in
theorem c_X11_isValue_0 (l : Launch) (D : va_G) (cI cZ cB cJ : ClassId) : CtI l D (TT cI cZ cB cJ) yX11_isValue cX11_isValue 1 (some .boolean) 0 0 0 0 [.int 1] [] (fun r w1 => r = 1 ∧ w1 = []) := by
  refine CtI.of (by decide +kernel) (Nat.le_of_ble_eq_true rfl) ?_
  intro p e s m below meth c A ls hx hb hr hml hown hts hnw hlocks hin hA hS hP hK hD hl
  have hown : s.vm.findClass RX11 = some m.cls := hown
  have hl : lv_has ls 1 [(0, .int 1)] := hl
  refine lv_iload_n hx hb dX11_isValue_0 rfl (lv_at hl 0 rfl) ?_
  refine lv_iconst (v := 1) hx hb dX11_isValue_1 (by decide +kernel) ?_
  refine lv_icmp_lt (tgt := 14) hx hb dX11_isValue_2 (by decide) (fun h9 => absurd h9 (by decide +kernel)) (fun _ => ?_)
  refine lv_iload_n hx hb dX11_isValue_5 rfl (lv_at hl 0 rfl) ?_
  refine lv_iconst (v := 3) hx hb dX11_isValue_6 (by decide +kernel) ?_
  refine lv_icmp_gt (tgt := 14) hx hb dX11_isValue_7 (by decide) (fun h9 => absurd h9 (by decide +kernel)) (fun _ => ?_)
  refine lv_iconst (v := 1) hx hb dX11_isValue_10 (by decide +kernel) ?_
  refine pcn (b := 11) rfl ?_
  refine lv_goto (tgt := 15) hx hb dX11_isValue_11 (by decide) ?_
  refine W.widen (k := 0) (n := 0) (Nat.le_of_ble_eq_true rfl) (Nat.le_of_ble_eq_true rfl) ?_
  exact rtZ hx hb hr rfl hlocks hS hP hD ⟨rfl, rfl⟩ dX11_isValue_15

set_option maxHeartbeats 4000000 in
set_option maxRecDepth 100000 in
theorem c_X11_at_12 (l : Launch) (D : va_G) (cI cZ cB cJ : ClassId) (h0 : Nat) : CtI l D (TT cI cZ cB cJ) yX11_at cX11_at 2 (some .int) 0 0 0 0 [.ref h0, .int 1] [(h0, .inl (cI, 7, .inl (upd (fun _ => 0) 0 1)))] (fun r w1 => r = 0 ∧ w1 = [(h0, .inl (cI, 7, .inl (upd (fun _ => 0) 0 1)))]) := by
  refine CtI.of (by decide +kernel) (Nat.le_of_ble_eq_true rfl) ?_
  intro p e s m below meth c A ls hx hb hr hml hown hts hnw hlocks hin hA hS hP hK hD hl
  have hown : s.vm.findClass RX11 = some m.cls := hown
  have hl : lv_has ls 2 [(0, .ref h0), (1, .int 1)] := hl
  refine lv_iload_n hx hb dX11_at_0 rfl (lv_at hl 1 rfl) ?_
  refine lv_if_lt (tgt := 16) hx hb dX11_at_1 (by decide) (fun h9 => absurd h9 (by decide +kernel)) (fun _ => ?_)
  refine lv_iload_n hx hb dX11_at_4 rfl (lv_at hl 1 rfl) ?_
  refine lv_aload_n hx hb dX11_at_5 rfl (lv_at hl 0 rfl) ?_
  refine va_alen (v := 7) hx hb hK hP 0 0 rfl rfl (by decide +kernel) dX11_at_6 ?_
  refine lv_icmp_ge (tgt := 16) hx hb dX11_at_7 (by decide) (fun h9 => absurd h9 (by decide +kernel)) (fun _ => ?_)
  refine lv_aload_n hx hb dX11_at_10 rfl (lv_at hl 0 rfl) ?_
  refine pcn (b := 11) rfl ?_
  refine lv_iload_n hx hb dX11_at_11 rfl (lv_at hl 1 rfl) ?_
  refine al_i (x := 0) hx hb hK hP 0 0 rfl rfl (vpi (by decide +kernel)) (by first | decide +kernel | rfl) dX11_at_12 ?_
  refine lv_goto (tgt := 17) hx hb dX11_at_13 (by decide) ?_
  refine W.widen (k := 0) (n := 0) (Nat.le_of_ble_eq_true rfl) (Nat.le_of_ble_eq_true rfl) ?_
  exact rtI hx hb hr hlocks hS hP hD ⟨rfl, rfl⟩ dX11_at_17

set_option maxHeartbeats 4000000 in
set_option maxRecDepth 100000 in
theorem c_X11_put_31 (l : Launch) (D : va_G) (cI cZ cB cJ : ClassId) (h0 : Nat) : CtV l D (TT cI cZ cB cJ) yX11_put cX11_put 3 none 0 0 0 0 [.ref h0, .int 1, .int 1] [(h0, .inl (cI, 7, .inl (upd (fun _ => 0) 0 1)))] (fun w1 => w1 = [(h0, .inl (cI, 7, .inl (upd (upd (fun _ => 0) 0 1) 1 1)))]) := by
  refine CtV.of (by decide +kernel) (Nat.le_of_ble_eq_true rfl) ?_
  intro p e s m below meth c A ls hx hb hr hml hown hts hnw hlocks hin hA hS hP hK hD hl
  have hown : s.vm.findClass RX11 = some m.cls := hown
  have hl : lv_has ls 3 [(0, .ref h0), (1, .int 1), (2, .int 1)] := hl
  refine lv_iload_n hx hb dX11_put_0 rfl (lv_at hl 1 rfl) ?_
  refine lv_if_lt (tgt := 14) hx hb dX11_put_1 (by decide) (fun h9 => absurd h9 (by decide +kernel)) (fun _ => ?_)
  refine lv_iload_n hx hb dX11_put_4 rfl (lv_at hl 1 rfl) ?_
  refine lv_aload_n hx hb dX11_put_5 rfl (lv_at hl 0 rfl) ?_
  refine va_alen (v := 7) hx hb hK hP 0 0 rfl rfl (by decide +kernel) dX11_put_6 ?_
  refine lv_icmp_ge (tgt := 14) hx hb dX11_put_7 (by decide) (fun h9 => absurd h9 (by decide +kernel)) (fun _ => ?_)
  refine lv_aload_n hx hb dX11_put_10 rfl (lv_at hl 0 rfl) ?_
  refine pcn (b := 11) rfl ?_
  refine lv_iload_n hx hb dX11_put_11 rfl (lv_at hl 1 rfl) ?_
  refine lv_iload_n hx hb dX11_put_12 rfl (lv_at hl 2 rfl) ?_
  refine as_i (k := 1) hx hb hK hP hD hS 0 0 rfl rfl (vpi (by decide +kernel)) (by decide +kernel) dX11_put_13 (fun H locs hP hD hS => ?_)
  have hP : va_P D vwCl [(h0, .inl (cI, 7, .inl (upd (upd (fun _ => 0) 0 1) 1 1)))] H := hP
  have hD : va_D A [(h0, .inl (cI, 7, .inl (upd (upd (fun _ => 0) 0 1) 1 1)))] := hD
  refine W.widen (k := 0) (n := 0) (Nat.le_of_ble_eq_true rfl) (Nat.le_of_ble_eq_true rfl) ?_
  exact rtV hx hb hr hlocks hS hP hD rfl dX11_put_14

set_option maxHeartbeats 4000000 in
set_option maxRecDepth 100000 in
theorem c_X3_outcomeNumber_1 (l : Launch) (D : va_G) (cI cZ cB cJ : ClassId) (h0 h1 g0 g1 g2 : Nat) : CtI l D (TT cI cZ cB cJ) yX3_outcomeNumber cX3_outcomeNumber 1 (some .int) 1 20 0 0 [.ref h0] [(h0, .inr (3, [.ref h1, .ref g0, .ref g1, .int 0, .int 1, .int 0, .int (-1), .int 1, .int 0, .int (-1), .int (-1), .int 0, .int 1, .int 0, .int 0, .int 0, .int 0, .int 0, .int 0])), (h1, .inr (6, [.ref g2, .int 0]))] (fun r w1 => r = 0 ∧ w1 = [(h0, .inr (3, [.ref h1, .ref g0, .ref g1, .int 0, .int 1, .int 0, .int (-1), .int 1, .int 0, .int (-1), .int (-1), .int 0, .int 1, .int 0, .int 0, .int 0, .int 0, .int 0, .int 0])), (h1, .inr (6, [.ref g2, .int 0]))]) := by
  refine CtI.of (by decide +kernel) (Nat.le_of_ble_eq_true rfl) ?_
  intro p e s m below meth c A ls hx hb hr hml hown hts hnw hlocks hin hA hS hP hK hD hl
  have hown : s.vm.findClass RX3 = some m.cls := hown
  have hl : lv_has ls 1 [(0, .ref h0)] := hl
  refine lv_aload_n hx hb dX3_outcomeNumber_0 rfl (lv_at hl 0 rfl) ?_
  refine kVi (As := []) (rest := []) (wr := []) hx hb hml hown hts hnw hK hP hD hS hA hl.1 (c_X3_outcome_1 l D cI cZ cB cJ h0 h1 g0 g1 g2) yk_X3_outcome wm_1202 [0, 1] [] rfl rfl (by decide) (by decide) (by decide) 0 rfl rfl rfl rfl rfl dX3_outcomeNumber_1 ⟨Nat.le_of_ble_eq_true rfl, Nat.le_of_ble_eq_true rfl⟩ ⟨Nat.le_of_ble_eq_true rfl, Nat.le_of_ble_eq_true rfl⟩ (Nat.le_of_ble_eq_true rfl) (fun r9 w1 H locs hq9 hP hD hS => ?_)
  obtain ⟨rfl, rfl⟩ := hq9
  have hP : va_P D vwCl [(h0, .inr (3, [.ref h1, .ref g0, .ref g1, .int 0, .int 1, .int 0, .int (-1), .int 1, .int 0, .int (-1), .int (-1), .int 0, .int 1, .int 0, .int 0, .int 0, .int 0, .int 0, .int 0])), (h1, .inr (6, [.ref g2, .int 0]))] H := hP
  have hD : va_D A [(h0, .inr (3, [.ref h1, .ref g0, .ref g1, .int 0, .int 1, .int 0, .int (-1), .int 1, .int 0, .int (-1), .int (-1), .int 0, .int 1, .int 0, .int 0, .int 0, .int 0, .int 0, .int 0])), (h1, .inr (6, [.ref g2, .int 0]))] := hD
  refine W.widen (k := 0) (n := 0) (Nat.le_of_ble_eq_true rfl) (Nat.le_of_ble_eq_true rfl) ?_
  refine pcn (b := 4) rfl ?_
  refine lv_lookup (off := 50) (tgt := 54) hx hb dX3_outcomeNumber_4 (by decide +kernel) (by decide +kernel) (by decide) ?_
  refine lv_aload_n hx hb dX3_outcomeNumber_54 rfl (lv_at hl 0 rfl) ?_
  refine va_get (D := D) (ci := 3) (v := .int 0) (C := RX3) (T := TX3) (N := 19) hx hb hts inX3 hown hK hP 0 rfl rfl 8 (by decide) (hts _ wm_359) (fun _ h9 => h9) rfl dX3_outcomeNumber_55 ?_
  refine W.widen (k := 0) (n := 0) (Nat.le_of_ble_eq_true rfl) (Nat.le_of_ble_eq_true rfl) ?_
  exact rtI hx hb hr hlocks hS hP hD ⟨rfl, rfl⟩ dX3_outcomeNumber_58

set_option maxHeartbeats 4000000 in
set_option maxRecDepth 100000 in
theorem c_X3_unlike_0 (l : Launch) (D : va_G) (cI cZ cB cJ : ClassId) (h0 h1 g0 g1 g2 : Nat) : CtI l D (TT cI cZ cB cJ) yX3_unlike cX3_unlike 1 (some .int) 2 40 0 0 [.ref h0] [(h0, .inr (3, [.ref h1, .ref g0, .ref g1, .int 0, .int 1, .int 0, .int (-1), .int 1, .int 0, .int (-1), .int (-1), .int 0, .int 1, .int 0, .int 0, .int 0, .int 0, .int 0, .int 0])), (h1, .inr (6, [.ref g2, .int 0]))] (fun r w1 => r = 0 ∧ w1 = [(h0, .inr (3, [.ref h1, .ref g0, .ref g1, .int 0, .int 1, .int 0, .int (-1), .int 1, .int 0, .int (-1), .int (-1), .int 0, .int 1, .int 0, .int 0, .int 0, .int 0, .int 0, .int 0])), (h1, .inr (6, [.ref g2, .int 0]))]) := by
  refine CtI.of (by decide +kernel) (Nat.le_of_ble_eq_true rfl) ?_
  intro p e s m below meth c A ls hx hb hr hml hown hts hnw hlocks hin hA hS hP hK hD hl
  have hown : s.vm.findClass RX3 = some m.cls := hown
  have hl : lv_has ls 1 [(0, .ref h0)] := hl
  refine lv_aload_n hx hb dX3_unlike_0 rfl (lv_at hl 0 rfl) ?_
  refine kVi (As := []) (rest := []) (wr := []) hx hb hml hown hts hnw hK hP hD hS hA hl.1 (c_X3_outcome_1 l D cI cZ cB cJ h0 h1 g0 g1 g2) yk_X3_outcome wm_1202 [0, 1] [] rfl rfl (by decide) (by decide) (by decide) 0 rfl rfl rfl rfl rfl dX3_unlike_1 ⟨Nat.le_of_ble_eq_true rfl, Nat.le_of_ble_eq_true rfl⟩ ⟨Nat.le_of_ble_eq_true rfl, Nat.le_of_ble_eq_true rfl⟩ (Nat.le_of_ble_eq_true rfl) (fun r9 w1 H locs hq9 hP hD hS => ?_)
  obtain ⟨rfl, rfl⟩ := hq9
  have hP : va_P D vwCl [(h0, .inr (3, [.ref h1, .ref g0, .ref g1, .int 0, .int 1, .int 0, .int (-1), .int 1, .int 0, .int (-1), .int (-1), .int 0, .int 1, .int 0, .int 0, .int 0, .int 0, .int 0, .int 0])), (h1, .inr (6, [.ref g2, .int 0]))] H := hP
  have hD : va_D A [(h0, .inr (3, [.ref h1, .ref g0, .ref g1, .int 0, .int 1, .int 0, .int (-1), .int 1, .int 0, .int (-1), .int (-1), .int 0, .int 1, .int 0, .int 0, .int 0, .int 0, .int 0, .int 0])), (h1, .inr (6, [.ref g2, .int 0]))] := hD
  refine W.widen (k := 0) (n := 0) (Nat.le_of_ble_eq_true rfl) (Nat.le_of_ble_eq_true rfl) ?_
  refine pcn (b := 4) rfl ?_
  refine lv_iconst (v := 3) hx hb dX3_unlike_4 (by decide +kernel) ?_
  refine lv_icmp_ne (tgt := 12) hx hb dX3_unlike_5 (by decide) (fun _ => ?_) (fun h9 => absurd h9 (by decide +kernel))
  refine lv_aload_n hx hb dX3_unlike_12 rfl (lv_at hl 0 rfl) ?_
  refine kVi (As := []) (rest := []) (wr := []) hx hb hml hown hts hnw hK hP hD hS hA hl.1 (c_X3_outcomeNumber_1 l D cI cZ cB cJ h0 h1 g0 g1 g2) yk_X3_outcomeNumber wm_1206 [0, 1] [] rfl rfl (by decide) (by decide) (by decide) 0 rfl rfl rfl rfl rfl dX3_unlike_13 ⟨Nat.le_of_ble_eq_true rfl, Nat.le_of_ble_eq_true rfl⟩ ⟨Nat.le_of_ble_eq_true rfl, Nat.le_of_ble_eq_true rfl⟩ (Nat.le_of_ble_eq_true rfl) (fun r9 w1 H locs hq9 hP hD hS => ?_)
  obtain ⟨rfl, rfl⟩ := hq9
  have hP : va_P D vwCl [(h0, .inr (3, [.ref h1, .ref g0, .ref g1, .int 0, .int 1, .int 0, .int (-1), .int 1, .int 0, .int (-1), .int (-1), .int 0, .int 1, .int 0, .int 0, .int 0, .int 0, .int 0, .int 0])), (h1, .inr (6, [.ref g2, .int 0]))] H := hP
  have hD : va_D A [(h0, .inr (3, [.ref h1, .ref g0, .ref g1, .int 0, .int 1, .int 0, .int (-1), .int 1, .int 0, .int (-1), .int (-1), .int 0, .int 1, .int 0, .int 0, .int 0, .int 0, .int 0, .int 0])), (h1, .inr (6, [.ref g2, .int 0]))] := hD
  refine W.widen (k := 0) (n := 0) (Nat.le_of_ble_eq_true rfl) (Nat.le_of_ble_eq_true rfl) ?_
  refine pcn (b := 16) rfl ?_
  refine W.widen (k := 0) (n := 0) (Nat.le_of_ble_eq_true rfl) (Nat.le_of_ble_eq_true rfl) ?_
  exact rtI hx hb hr hlocks hS hP hD ⟨rfl, rfl⟩ dX3_unlike_16

set_option maxHeartbeats 4000000 in
set_option maxRecDepth 100000 in
theorem c_X11_at_13 (l : Launch) (D : va_G) (cI cZ cB cJ : ClassId) (h0 : Nat) : CtI l D (TT cI cZ cB cJ) yX11_at cX11_at 2 (some .int) 0 0 0 0 [.ref h0, .int 4] [(h0, .inl (cI, 7, .inl (upd (upd (fun _ => 0) 0 1) 1 1)))] (fun r w1 => r = 0 ∧ w1 = [(h0, .inl (cI, 7, .inl (upd (upd (fun _ => 0) 0 1) 1 1)))]) := by
  refine CtI.of (by decide +kernel) (Nat.le_of_ble_eq_true rfl) ?_
  intro p e s m below meth c A ls hx hb hr hml hown hts hnw hlocks hin hA hS hP hK hD hl
  have hown : s.vm.findClass RX11 = some m.cls := hown
  have hl : lv_has ls 2 [(0, .ref h0), (1, .int 4)] := hl
  refine lv_iload_n hx hb dX11_at_0 rfl (lv_at hl 1 rfl) ?_
  refine lv_if_lt (tgt := 16) hx hb dX11_at_1 (by decide) (fun h9 => absurd h9 (by decide +kernel)) (fun _ => ?_)
  refine lv_iload_n hx hb dX11_at_4 rfl (lv_at hl 1 rfl) ?_
  refine lv_aload_n hx hb dX11_at_5 rfl (lv_at hl 0 rfl) ?_
  refine va_alen (v := 7) hx hb hK hP 0 0 rfl rfl (by decide +kernel) dX11_at_6 ?_
  refine lv_icmp_ge (tgt := 16) hx hb dX11_at_7 (by decide) (fun h9 => absurd h9 (by decide +kernel)) (fun _ => ?_)
  refine lv_aload_n hx hb dX11_at_10 rfl (lv_at hl 0 rfl) ?_
  refine pcn (b := 11) rfl ?_
  refine lv_iload_n hx hb dX11_at_11 rfl (lv_at hl 1 rfl) ?_
  refine al_i (x := 0) hx hb hK hP 0 0 rfl rfl (vpi (by decide +kernel)) (by first | decide +kernel | rfl) dX11_at_12 ?_
  refine lv_goto (tgt := 17) hx hb dX11_at_13 (by decide) ?_
  refine W.widen (k := 0) (n := 0) (Nat.le_of_ble_eq_true rfl) (Nat.le_of_ble_eq_true rfl) ?_
  exact rtI hx hb hr hlocks hS hP hD ⟨rfl, rfl⟩ dX11_at_17

set_option maxHeartbeats 4000000 in
set_option maxRecDepth 100000 in
theorem c_X11_put_32 (l : Launch) (D : va_G) (cI cZ cB cJ : ClassId) (h0 : Nat) : CtV l D (TT cI cZ cB cJ) yX11_put cX11_put 3 none 0 0 0 0 [.ref h0, .int 0, .int 1] [(h0, .inl (cI, 32, .inl (fun _ => 0)))] (fun w1 => w1 = [(h0, .inl (cI, 32, .inl (upd (fun _ => 0) 0 1)))]) := by
  refine CtV.of (by decide +kernel) (Nat.le_of_ble_eq_true rfl) ?_
  intro p e s m below meth c A ls hx hb hr hml hown hts hnw hlocks hin hA hS hP hK hD hl
  have hown : s.vm.findClass RX11 = some m.cls := hown
  have hl : lv_has ls 3 [(0, .ref h0), (1, .int 0), (2, .int 1)] := hl
  refine lv_iload_n hx hb dX11_put_0 rfl (lv_at hl 1 rfl) ?_
  refine lv_if_lt (tgt := 14) hx hb dX11_put_1 (by decide) (fun h9 => absurd h9 (by decide +kernel)) (fun _ => ?_)
  refine lv_iload_n hx hb dX11_put_4 rfl (lv_at hl 1 rfl) ?_
  refine lv_aload_n hx hb dX11_put_5 rfl (lv_at hl 0 rfl) ?_
  refine va_alen (v := 32) hx hb hK hP 0 0 rfl rfl (by decide +kernel) dX11_put_6 ?_
  refine lv_icmp_ge (tgt := 14) hx hb dX11_put_7 (by decide) (fun h9 => absurd h9 (by decide +kernel)) (fun _ => ?_)
  refine lv_aload_n hx hb dX11_put_10 rfl (lv_at hl 0 rfl) ?_
  refine pcn (b := 11) rfl ?_
  refine lv_iload_n hx hb dX11_put_11 rfl (lv_at hl 1 rfl) ?_
  refine lv_iload_n hx hb dX11_put_12 rfl (lv_at hl 2 rfl) ?_
  refine as_i (k := 0) hx hb hK hP hD hS 0 0 rfl rfl (vpi (by decide +kernel)) (by decide +kernel) dX11_put_13 (fun H locs hP hD hS => ?_)
  have hP : va_P D vwCl [(h0, .inl (cI, 32, .inl (upd (fun _ => 0) 0 1)))] H := hP
  have hD : va_D A [(h0, .inl (cI, 32, .inl (upd (fun _ => 0) 0 1)))] := hD
  refine W.widen (k := 0) (n := 0) (Nat.le_of_ble_eq_true rfl) (Nat.le_of_ble_eq_true rfl) ?_
  exact rtV hx hb hr hlocks hS hP hD rfl dX11_put_14

set_option maxHeartbeats 4000000 in
set_option maxRecDepth 100000 in
theorem c_X11_put_33 (l : Launch) (D : va_G) (cI cZ cB cJ : ClassId) (h0 : Nat) : CtV l D (TT cI cZ cB cJ) yX11_put cX11_put 3 none 0 0 0 0 [.ref h0, .int 1, .int 0] [(h0, .inl (cI, 32, .inl (upd (fun _ => 0) 0 1)))] (fun w1 => w1 = [(h0, .inl (cI, 32, .inl (upd (fun _ => 0) 0 1)))]) := by
  refine CtV.of (by decide +kernel) (Nat.le_of_ble_eq_true rfl) ?_
  intro p e s m below meth c A ls hx hb hr hml hown hts hnw hlocks hin hA hS hP hK hD hl
  have hown : s.vm.findClass RX11 = some m.cls := hown
  have hl : lv_has ls 3 [(0, .ref h0), (1, .int 1), (2, .int 0)] := hl
  refine lv_iload_n hx hb dX11_put_0 rfl (lv_at hl 1 rfl) ?_
  refine lv_if_lt (tgt := 14) hx hb dX11_put_1 (by decide) (fun h9 => absurd h9 (by decide +kernel)) (fun _ => ?_)
  refine lv_iload_n hx hb dX11_put_4 rfl (lv_at hl 1 rfl) ?_
  refine lv_aload_n hx hb dX11_put_5 rfl (lv_at hl 0 rfl) ?_
  refine va_alen (v := 32) hx hb hK hP 0 0 rfl rfl (by decide +kernel) dX11_put_6 ?_
  refine lv_icmp_ge (tgt := 14) hx hb dX11_put_7 (by decide) (fun h9 => absurd h9 (by decide +kernel)) (fun _ => ?_)
  refine lv_aload_n hx hb dX11_put_10 rfl (lv_at hl 0 rfl) ?_
  refine pcn (b := 11) rfl ?_
  refine lv_iload_n hx hb dX11_put_11 rfl (lv_at hl 1 rfl) ?_
  refine lv_iload_n hx hb dX11_put_12 rfl (lv_at hl 2 rfl) ?_
  refine as_i_s hx hb hK hP hD hS 0 0 rfl rfl (vpi (by decide +kernel)) (by first | decide +kernel | rfl) dX11_put_13 (fun H locs hP hD hS => ?_)
  have hP : va_P D vwCl [(h0, .inl (cI, 32, .inl (upd (fun _ => 0) 0 1)))] H := hP
  have hD : va_D A [(h0, .inl (cI, 32, .inl (upd (fun _ => 0) 0 1)))] := hD
  refine W.widen (k := 0) (n := 0) (Nat.le_of_ble_eq_true rfl) (Nat.le_of_ble_eq_true rfl) ?_
  exact rtV hx hb hr hlocks hS hP hD rfl dX11_put_14

set_option maxHeartbeats 4000000 in
set_option maxRecDepth 100000 in
theorem c_X11_put_34 (l : Launch) (D : va_G) (cI cZ cB cJ : ClassId) (h0 : Nat) : CtV l D (TT cI cZ cB cJ) yX11_put cX11_put 3 none 0 0 0 0 [.ref h0, .int 4, .int 1] [(h0, .inl (cI, 7, .inl (upd (upd (fun _ => 0) 0 1) 1 1)))] (fun w1 => w1 = [(h0, .inl (cI, 7, .inl (upd (upd (upd (fun _ => 0) 0 1) 1 1) 4 1)))]) := by
  refine CtV.of (by decide +kernel) (Nat.le_of_ble_eq_true rfl) ?_
  intro p e s m below meth c A ls hx hb hr hml hown hts hnw hlocks hin hA hS hP hK hD hl
  have hown : s.vm.findClass RX11 = some m.cls := hown
  have hl : lv_has ls 3 [(0, .ref h0), (1, .int 4), (2, .int 1)] := hl
  refine lv_iload_n hx hb dX11_put_0 rfl (lv_at hl 1 rfl) ?_
  refine lv_if_lt (tgt := 14) hx hb dX11_put_1 (by decide) (fun h9 => absurd h9 (by decide +kernel)) (fun _ => ?_)
  refine lv_iload_n hx hb dX11_put_4 rfl (lv_at hl 1 rfl) ?_
  refine lv_aload_n hx hb dX11_put_5 rfl (lv_at hl 0 rfl) ?_
  refine va_alen (v := 7) hx hb hK hP 0 0 rfl rfl (by decide +kernel) dX11_put_6 ?_
  refine lv_icmp_ge (tgt := 14) hx hb dX11_put_7 (by decide) (fun h9 => absurd h9 (by decide +kernel)) (fun _ => ?_)
  refine lv_aload_n hx hb dX11_put_10 rfl (lv_at hl 0 rfl) ?_
  refine pcn (b := 11) rfl ?_
  refine lv_iload_n hx hb dX11_put_11 rfl (lv_at hl 1 rfl) ?_
  refine lv_iload_n hx hb dX11_put_12 rfl (lv_at hl 2 rfl) ?_
  refine as_i (k := 4) hx hb hK hP hD hS 0 0 rfl rfl (vpi (by decide +kernel)) (by decide +kernel) dX11_put_13 (fun H locs hP hD hS => ?_)
  have hP : va_P D vwCl [(h0, .inl (cI, 7, .inl (upd (upd (upd (fun _ => 0) 0 1) 1 1) 4 1)))] H := hP
  have hD : va_D A [(h0, .inl (cI, 7, .inl (upd (upd (upd (fun _ => 0) 0 1) 1 1) 4 1)))] := hD
  refine W.widen (k := 0) (n := 0) (Nat.le_of_ble_eq_true rfl) (Nat.le_of_ble_eq_true rfl) ?_
  exact rtV hx hb hr hlocks hS hP hD rfl dX11_put_14
