set_option maxHeartbeats 4000000 in
set_option maxRecDepth 100000 in
theorem c_X12_isArrow_0 (l : Launch) (D : va_G) (cI cZ cB cJ : ClassId) : CtI l D (TT cI cZ cB cJ) yX12_isArrow cX12_isArrow 1 (some .boolean) 0 0 0 0 [.int 1] [] (fun r w1 => r = 0 ∧ w1 = []) := by
  refine CtI.of (by decide +kernel) (Nat.le_of_ble_eq_true rfl) ?_
  intro p e s m below meth c A ls hx hb hr hml hown hts hnw hlocks hin hA hS hP hK hD hl
  have hown : s.vm.findClass RX12 = some m.cls := hown
  have hl : lv_has ls 1 [(0, .int 1)] := hl
  refine lv_iload_n hx hb dX12_isArrow_0 rfl (lv_at hl 0 rfl) ?_
  refine lv_iconst (v := 3) hx hb dX12_isArrow_1 (by decide +kernel) ?_
  refine lv_icmp_lt (tgt := 9) hx hb dX12_isArrow_2 (by decide) (fun _ => ?_) (fun h9 => absurd (by decide +kernel) h9)
  refine lv_iconst (v := 0) hx hb dX12_isArrow_9 (by decide +kernel) ?_
  refine W.widen (k := 0) (n := 0) (Nat.le_of_ble_eq_true rfl) (Nat.le_of_ble_eq_true rfl) ?_
  exact rtZ hx hb hr rfl hlocks hS hP hD ⟨rfl, rfl⟩ dX12_isArrow_10

set_option maxHeartbeats 4000000 in
set_option maxRecDepth 100000 in
theorem c_X12_saysType_0 (l : Launch) (D : va_G) (cI cZ cB cJ : ClassId) (h0 h1 h2 g0 g1 g2 g3 g4 g5 g6 g7 g8 g9 g10 g11 g12 g13 g14 g15 g16 g17 g18 g19 g20 g21 g22 g23 g24 g25 g26 g27 g28 g29 g30 g31 g32 g33 g34 g35 g36 g37 g38 g39 g40 g41 g42 g43 g44 g45 g46 g47 g48 g49 g50 g51 g52 g53 g54 g55 g56 g57 g58 g59 g60 g61 g62 g63 g64 g65 g66 g67 : Nat) : CtV l D (TT cI cZ cB cJ) yX12_saysType cX12_saysType 3 none 2 44 0 0 [.ref h0, .int 1] [(h0, .inr (12, [.ref g0, .ref g1, .ref g2, .ref g3, .ref g4, .int 4, .ref g5, .ref g6, .ref g7, .ref g8, .ref h1, .int 0, .ref g9, .ref g10, .ref g11, .ref g12, .ref g13, .ref g14, .ref g15, .ref g16, .int 0, .ref g17, .int 0, .ref g18, .int 0, .int 0, .int 0, .int 0, .int 0, .int 0, .int 0, .int 0, .long 0, .ref g19, .ref g20, .ref g21, .ref g22, .ref g23, .ref g24, .ref g25, .ref g26, .ref g27, .ref g28, .ref g29, .int 0, .int 1, .int 0, .ref g30, .ref g31, .int 0, .ref g32, .ref g33, .ref g34, .ref g35, .int 0, .ref g36, .int 0, .ref g37, .ref g38, .ref g39, .ref g40, .ref g41, .ref g42, .ref g43, .ref g44, .ref g45, .ref g46, .int 0, .int 0, .int 4, .ref g47, .ref g48, .ref g49, .ref g50, .ref g51, .ref g52, .ref g53, .ref g54, .ref g55, .ref g56, .ref g57, .ref g58, .ref g59, .int 0, .int 0, .int 0, .int 0, .int 0, .int 0, .int 0, .int 0, .int 0, .int 0, .int 0, .int 0, .int 0, .int 0, .int 0, .int 0, .int 0, .int 0, .int 0, .int 0, .ref g60, .ref g61, .int 0, .ref g62, .ref g63, .ref g64, .ref g65, .int 0, .int 0, .ref g66, .ref h2, .int 0, .ref g67, .int 0, .int 0])), (h1, .inl (cI, 1200, .inl (fun _ => 0))), (h2, .inl (cB, 3000, .inl (fun _ => 0)))] (fun w1 => w1 = [(h0, .inr (12, [.ref g0, .ref g1, .ref g2, .ref g3, .ref g4, .int 4, .ref g5, .ref g6, .ref g7, .ref g8, .ref h1, .int 0, .ref g9, .ref g10, .ref g11, .ref g12, .ref g13, .ref g14, .ref g15, .ref g16, .int 0, .ref g17, .int 0, .ref g18, .int 0, .int 0, .int 0, .int 0, .int 0, .int 0, .int 0, .int 0, .long 0, .ref g19, .ref g20, .ref g21, .ref g22, .ref g23, .ref g24, .ref g25, .ref g26, .ref g27, .ref g28, .ref g29, .int 0, .int 1, .int 0, .ref g30, .ref g31, .int 0, .ref g32, .ref g33, .ref g34, .ref g35, .int 0, .ref g36, .int 0, .ref g37, .ref g38, .ref g39, .ref g40, .ref g41, .ref g42, .ref g43, .ref g44, .ref g45, .ref g46, .int 0, .int 0, .int 4, .ref g47, .ref g48, .ref g49, .ref g50, .ref g51, .ref g52, .ref g53, .ref g54, .ref g55, .ref g56, .ref g57, .ref g58, .ref g59, .int 0, .int 0, .int 0, .int 0, .int 0, .int 0, .int 0, .int 0, .int 0, .int 0, .int 0, .int 0, .int 0, .int 0, .int 0, .int 0, .int 0, .int 0, .int 0, .int 0, .ref g60, .ref g61, .int 0, .ref g62, .ref g63, .ref g64, .ref g65, .int 0, .int 0, .ref g66, .ref h2, .int 3, .ref g67, .int 0, .int 0])), (h1, .inl (cI, 1200, .inl (upd (fun _ => 0) 0 1))), (h2, .inl (cB, 3000, .inl (upd (upd (upd (fun _ => 0) 0 105) 1 110) 2 116)))]) := by
  refine CtV.of (by decide +kernel) (Nat.le_of_ble_eq_true rfl) ?_
  intro p e s m below meth c A ls hx hb hr hml hown hts hnw hlocks hin hA hS hP hK hD hl
  have hown : s.vm.findClass RX12 = some m.cls := hown
  have hl : lv_has ls 3 [(0, .ref h0), (1, .int 1)] := hl
  refine lv_aload_n hx hb dX12_saysType_0 rfl (lv_at hl 0 rfl) ?_
  refine lv_iconst (v := 0) hx hb dX12_saysType_1 (by decide +kernel) ?_
  refine va_put (D := D) (ci := 12) (v := .int 0) (ty := .int) (C := RX12) (T := TX12) (N := 118) hx hb hts inX12 tyX12 tyX12_ok nmX12 hown hK hP hD hS 0 rfl rfl 11 (by decide) (hts _ wm_1378) (fun _ h9 => h9) rfl (by decide +kernel) rfl rfl (Nat.le_of_ble_eq_true rfl) dX12_saysType_2 (fun H locs hP hD hS => ?_)
  have hP : va_P D vwCl [(h0, .inr (12, [.ref g0, .ref g1, .ref g2, .ref g3, .ref g4, .int 4, .ref g5, .ref g6, .ref g7, .ref g8, .ref h1, .int 0, .ref g9, .ref g10, .ref g11, .ref g12, .ref g13, .ref g14, .ref g15, .ref g16, .int 0, .ref g17, .int 0, .ref g18, .int 0, .int 0, .int 0, .int 0, .int 0, .int 0, .int 0, .int 0, .long 0, .ref g19, .ref g20, .ref g21, .ref g22, .ref g23, .ref g24, .ref g25, .ref g26, .ref g27, .ref g28, .ref g29, .int 0, .int 1, .int 0, .ref g30, .ref g31, .int 0, .ref g32, .ref g33, .ref g34, .ref g35, .int 0, .ref g36, .int 0, .ref g37, .ref g38, .ref g39, .ref g40, .ref g41, .ref g42, .ref g43, .ref g44, .ref g45, .ref g46, .int 0, .int 0, .int 4, .ref g47, .ref g48, .ref g49, .ref g50, .ref g51, .ref g52, .ref g53, .ref g54, .ref g55, .ref g56, .ref g57, .ref g58, .ref g59, .int 0, .int 0, .int 0, .int 0, .int 0, .int 0, .int 0, .int 0, .int 0, .int 0, .int 0, .int 0, .int 0, .int 0, .int 0, .int 0, .int 0, .int 0, .int 0, .int 0, .ref g60, .ref g61, .int 0, .ref g62, .ref g63, .ref g64, .ref g65, .int 0, .int 0, .ref g66, .ref h2, .int 0, .ref g67, .int 0, .int 0])), (h1, .inl (cI, 1200, .inl (fun _ => 0))), (h2, .inl (cB, 3000, .inl (fun _ => 0)))] H := hP
  have hD : va_D A [(h0, .inr (12, [.ref g0, .ref g1, .ref g2, .ref g3, .ref g4, .int 4, .ref g5, .ref g6, .ref g7, .ref g8, .ref h1, .int 0, .ref g9, .ref g10, .ref g11, .ref g12, .ref g13, .ref g14, .ref g15, .ref g16, .int 0, .ref g17, .int 0, .ref g18, .int 0, .int 0, .int 0, .int 0, .int 0, .int 0, .int 0, .int 0, .long 0, .ref g19, .ref g20, .ref g21, .ref g22, .ref g23, .ref g24, .ref g25, .ref g26, .ref g27, .ref g28, .ref g29, .int 0, .int 1, .int 0, .ref g30, .ref g31, .int 0, .ref g32, .ref g33, .ref g34, .ref g35, .int 0, .ref g36, .int 0, .ref g37, .ref g38, .ref g39, .ref g40, .ref g41, .ref g42, .ref g43, .ref g44, .ref g45, .ref g46, .int 0, .int 0, .int 4, .ref g47, .ref g48, .ref g49, .ref g50, .ref g51, .ref g52, .ref g53, .ref g54, .ref g55, .ref g56, .ref g57, .ref g58, .ref g59, .int 0, .int 0, .int 0, .int 0, .int 0, .int 0, .int 0, .int 0, .int 0, .int 0, .int 0, .int 0, .int 0, .int 0, .int 0, .int 0, .int 0, .int 0, .int 0, .int 0, .ref g60, .ref g61, .int 0, .ref g62, .ref g63, .ref g64, .ref g65, .int 0, .int 0, .ref g66, .ref h2, .int 0, .ref g67, .int 0, .int 0])), (h1, .inl (cI, 1200, .inl (fun _ => 0))), (h2, .inl (cB, 3000, .inl (fun _ => 0)))] := hD
  refine lv_aload_n hx hb dX12_saysType_5 rfl (lv_at hl 0 rfl) ?_
  refine lv_iload_n hx hb dX12_saysType_6 rfl (lv_at hl 1 rfl) ?_
  refine kVv (As := [.int 1]) (rest := []) (wr := [(h2, .inl (cB, 3000, .inl (fun _ => 0)))]) hx hb hml hown hts hnw hK hP hD hS hA hl.1 (c_X12_piles_0 l D cI cZ cB cJ h0 h1 g0 g1 g2 g3 g4 g5 g6 g7 g8 g9 g10 g11 g12 g13 g14 g15 g16 g17 g18 g19 g20 g21 g22 g23 g24 g25 g26 g27 g28 g29 g30 g31 g32 g33 g34 g35 g36 g37 g38 g39 g40 g41 g42 g43 g44 g45 g46 g47 g48 g49 g50 g51 g52 g53 g54 g55 g56 g57 g58 g59 g60 g61 g62 g63 g64 g65 g66 h2 g67) yk_X12_piles wm_1304 [0, 1] [2] rfl rfl (by decide) (by decide) (by decide) 0 rfl rfl rfl rfl rfl dX12_saysType_7 ⟨Nat.le_of_ble_eq_true rfl, Nat.le_of_ble_eq_true rfl⟩ ⟨Nat.le_of_ble_eq_true rfl, Nat.le_of_ble_eq_true rfl⟩ (Nat.le_of_ble_eq_true rfl) (fun w1 H locs hq9 hP hD hS => ?_)
  obtain rfl := hq9
  have hP : va_P D vwCl [(h2, .inl (cB, 3000, .inl (fun _ => 0))), (h0, .inr (12, [.ref g0, .ref g1, .ref g2, .ref g3, .ref g4, .int 4, .ref g5, .ref g6, .ref g7, .ref g8, .ref h1, .int 1, .ref g9, .ref g10, .ref g11, .ref g12, .ref g13, .ref g14, .ref g15, .ref g16, .int 0, .ref g17, .int 0, .ref g18, .int 0, .int 0, .int 0, .int 0, .int 0, .int 0, .int 0, .int 0, .long 0, .ref g19, .ref g20, .ref g21, .ref g22, .ref g23, .ref g24, .ref g25, .ref g26, .ref g27, .ref g28, .ref g29, .int 0, .int 1, .int 0, .ref g30, .ref g31, .int 0, .ref g32, .ref g33, .ref g34, .ref g35, .int 0, .ref g36, .int 0, .ref g37, .ref g38, .ref g39, .ref g40, .ref g41, .ref g42, .ref g43, .ref g44, .ref g45, .ref g46, .int 0, .int 0, .int 4, .ref g47, .ref g48, .ref g49, .ref g50, .ref g51, .ref g52, .ref g53, .ref g54, .ref g55, .ref g56, .ref g57, .ref g58, .ref g59, .int 0, .int 0, .int 0, .int 0, .int 0, .int 0, .int 0, .int 0, .int 0, .int 0, .int 0, .int 0, .int 0, .int 0, .int 0, .int 0, .int 0, .int 0, .int 0, .int 0, .ref g60, .ref g61, .int 0, .ref g62, .ref g63, .ref g64, .ref g65, .int 0, .int 0, .ref g66, .ref h2, .int 0, .ref g67, .int 0, .int 0])), (h1, .inl (cI, 1200, .inl (upd (fun _ => 0) 0 1)))] H := hP
  have hD : va_D A [(h2, .inl (cB, 3000, .inl (fun _ => 0))), (h0, .inr (12, [.ref g0, .ref g1, .ref g2, .ref g3, .ref g4, .int 4, .ref g5, .ref g6, .ref g7, .ref g8, .ref h1, .int 1, .ref g9, .ref g10, .ref g11, .ref g12, .ref g13, .ref g14, .ref g15, .ref g16, .int 0, .ref g17, .int 0, .ref g18, .int 0, .int 0, .int 0, .int 0, .int 0, .int 0, .int 0, .int 0, .long 0, .ref g19, .ref g20, .ref g21, .ref g22, .ref g23, .ref g24, .ref g25, .ref g26, .ref g27, .ref g28, .ref g29, .int 0, .int 1, .int 0, .ref g30, .ref g31, .int 0, .ref g32, .ref g33, .ref g34, .ref g35, .int 0, .ref g36, .int 0, .ref g37, .ref g38, .ref g39, .ref g40, .ref g41, .ref g42, .ref g43, .ref g44, .ref g45, .ref g46, .int 0, .int 0, .int 4, .ref g47, .ref g48, .ref g49, .ref g50, .ref g51, .ref g52, .ref g53, .ref g54, .ref g55, .ref g56, .ref g57, .ref g58, .ref g59, .int 0, .int 0, .int 0, .int 0, .int 0, .int 0, .int 0, .int 0, .int 0, .int 0, .int 0, .int 0, .int 0, .int 0, .int 0, .int 0, .int 0, .int 0, .int 0, .int 0, .ref g60, .ref g61, .int 0, .ref g62, .ref g63, .ref g64, .ref g65, .int 0, .int 0, .ref g66, .ref h2, .int 0, .ref g67, .int 0, .int 0])), (h1, .inl (cI, 1200, .inl (upd (fun _ => 0) 0 1)))] := hD
  refine W.widen (k := 0) (n := 0) (Nat.le_of_ble_eq_true rfl) (Nat.le_of_ble_eq_true rfl) ?_
  refine pcn (b := 10) rfl ?_
  refine lv_aload_n hx hb dX12_saysType_10 rfl (lv_at hl 0 rfl) ?_
  refine va_get (D := D) (ci := 12) (v := .int 1) (C := RX12) (T := TX12) (N := 118) hx hb hts inX12 hown hK hP 1 rfl rfl 11 (by decide) (hts _ wm_1378) (fun _ h9 => h9) rfl dX12_saysType_11 ?_
  refine lv_if_le (tgt := 129) hx hb dX12_saysType_14 (by decide) (fun h9 => absurd h9 (by decide +kernel)) (fun _ => ?_)
  refine lv_aload_n hx hb dX12_saysType_17 rfl (lv_at hl 0 rfl) ?_
  refine kVi (As := []) (rest := []) (wr := [(h2, .inl (cB, 3000, .inl (fun _ => 0)))]) hx hb hml hown hts hnw hK hP hD hS hA hl.1 (c_X12_takes_0 l D cI cZ cB cJ h0 h1 g0 g1 g2 g3 g4 g5 g6 g7 g8 g9 g10 g11 g12 g13 g14 g15 g16 g17 g18 g19 g20 g21 g22 g23 g24 g25 g26 g27 g28 g29 g30 g31 g32 g33 g34 g35 g36 g37 g38 g39 g40 g41 g42 g43 g44 g45 g46 g47 g48 g49 g50 g51 g52 g53 g54 g55 g56 g57 g58 g59 g60 g61 g62 g63 g64 g65 g66 h2 g67) yk_X12_takes wm_1300 [1, 2] [0] rfl rfl (by decide) (by decide) (by decide) 0 rfl rfl rfl rfl rfl dX12_saysType_18 ⟨Nat.le_of_ble_eq_true rfl, Nat.le_of_ble_eq_true rfl⟩ ⟨Nat.le_of_ble_eq_true rfl, Nat.le_of_ble_eq_true rfl⟩ (Nat.le_of_ble_eq_true rfl) (fun r9 w1 H locs hq9 hP hD hS => ?_)
  obtain ⟨rfl, rfl⟩ := hq9
  have hP : va_P D vwCl [(h2, .inl (cB, 3000, .inl (fun _ => 0))), (h0, .inr (12, [.ref g0, .ref g1, .ref g2, .ref g3, .ref g4, .int 4, .ref g5, .ref g6, .ref g7, .ref g8, .ref h1, .int 0, .ref g9, .ref g10, .ref g11, .ref g12, .ref g13, .ref g14, .ref g15, .ref g16, .int 0, .ref g17, .int 0, .ref g18, .int 0, .int 0, .int 0, .int 0, .int 0, .int 0, .int 0, .int 0, .long 0, .ref g19, .ref g20, .ref g21, .ref g22, .ref g23, .ref g24, .ref g25, .ref g26, .ref g27, .ref g28, .ref g29, .int 0, .int 1, .int 0, .ref g30, .ref g31, .int 0, .ref g32, .ref g33, .ref g34, .ref g35, .int 0, .ref g36, .int 0, .ref g37, .ref g38, .ref g39, .ref g40, .ref g41, .ref g42, .ref g43, .ref g44, .ref g45, .ref g46, .int 0, .int 0, .int 4, .ref g47, .ref g48, .ref g49, .ref g50, .ref g51, .ref g52, .ref g53, .ref g54, .ref g55, .ref g56, .ref g57, .ref g58, .ref g59, .int 0, .int 0, .int 0, .int 0, .int 0, .int 0, .int 0, .int 0, .int 0, .int 0, .int 0, .int 0, .int 0, .int 0, .int 0, .int 0, .int 0, .int 0, .int 0, .int 0, .ref g60, .ref g61, .int 0, .ref g62, .ref g63, .ref g64, .ref g65, .int 0, .int 0, .ref g66, .ref h2, .int 0, .ref g67, .int 0, .int 0])), (h1, .inl (cI, 1200, .inl (upd (fun _ => 0) 0 1)))] H := hP
  have hD : va_D A [(h2, .inl (cB, 3000, .inl (fun _ => 0))), (h0, .inr (12, [.ref g0, .ref g1, .ref g2, .ref g3, .ref g4, .int 4, .ref g5, .ref g6, .ref g7, .ref g8, .ref h1, .int 0, .ref g9, .ref g10, .ref g11, .ref g12, .ref g13, .ref g14, .ref g15, .ref g16, .int 0, .ref g17, .int 0, .ref g18, .int 0, .int 0, .int 0, .int 0, .int 0, .int 0, .int 0, .int 0, .long 0, .ref g19, .ref g20, .ref g21, .ref g22, .ref g23, .ref g24, .ref g25, .ref g26, .ref g27, .ref g28, .ref g29, .int 0, .int 1, .int 0, .ref g30, .ref g31, .int 0, .ref g32, .ref g33, .ref g34, .ref g35, .int 0, .ref g36, .int 0, .ref g37, .ref g38, .ref g39, .ref g40, .ref g41, .ref g42, .ref g43, .ref g44, .ref g45, .ref g46, .int 0, .int 0, .int 4, .ref g47, .ref g48, .ref g49, .ref g50, .ref g51, .ref g52, .ref g53, .ref g54, .ref g55, .ref g56, .ref g57, .ref g58, .ref g59, .int 0, .int 0, .int 0, .int 0, .int 0, .int 0, .int 0, .int 0, .int 0, .int 0, .int 0, .int 0, .int 0, .int 0, .int 0, .int 0, .int 0, .int 0, .int 0, .int 0, .ref g60, .ref g61, .int 0, .ref g62, .ref g63, .ref g64, .ref g65, .int 0, .int 0, .ref g66, .ref h2, .int 0, .ref g67, .int 0, .int 0])), (h1, .inl (cI, 1200, .inl (upd (fun _ => 0) 0 1)))] := hD
  refine W.widen (k := 0) (n := 0) (Nat.le_of_ble_eq_true rfl) (Nat.le_of_ble_eq_true rfl) ?_
  refine pcn (b := 21) rfl ?_
  refine lv_istore_n (lv' := [(2, .int 1), (0, .ref h0), (1, .int 1)]) hx hb dX12_saysType_21 rfl hl (by decide) rfl (fun ls hl => ?_)
  refine lv_iload_n hx hb dX12_saysType_22 rfl (lv_at hl 0 rfl) ?_
  refine lv_if_ge (tgt := 32) hx hb dX12_saysType_23 (by decide) (fun _ => ?_) (fun h9 => absurd (by decide +kernel) h9)
  refine lv_iload_n hx hb dX12_saysType_32 rfl (lv_at hl 0 rfl) ?_
  refine lv_if_ne (tgt := 42) hx hb dX12_saysType_33 (by decide) (fun _ => ?_) (fun h9 => absurd h9 (by decide +kernel))
  refine lv_iload_n hx hb dX12_saysType_42 rfl (lv_at hl 0 rfl) ?_
  refine lv_iconst (v := 1) hx hb dX12_saysType_43 (by decide +kernel) ?_
  refine lv_icmp_ne (tgt := 54) hx hb dX12_saysType_44 (by decide) (fun h9 => absurd (by decide +kernel) h9) (fun _ => ?_)
  refine lv_aload_n hx hb dX12_saysType_47 rfl (lv_at hl 1 rfl) ?_
  refine lv_ldc2 (v := 9684) hx hb hown (hts _ wm_1795) dX12_saysType_48 ?_
  refine kVv (As := [.long 9684]) (rest := []) (wr := [(h1, .inl (cI, 1200, .inl (upd (fun _ => 0) 0 1)))]) hx hb hml hown hts hnw hK hP hD hS hA hl.1 (c_X12_saysWord_0 l D cI cZ cB cJ h0 h2 g0 g1 g2 g3 g4 g5 g6 g7 g8 h1 g9 g10 g11 g12 g13 g14 g15 g16 g17 g18 g19 g20 g21 g22 g23 g24 g25 g26 g27 g28 g29 g30 g31 g32 g33 g34 g35 g36 g37 g38 g39 g40 g41 g42 g43 g44 g45 g46 g47 g48 g49 g50 g51 g52 g53 g54 g55 g56 g57 g58 g59 g60 g61 g62 g63 g64 g65 g66 g67) yk_X12_saysWord wm_2056 [1, 0] [2] rfl rfl (by decide) (by decide) (by decide) 0 rfl rfl rfl rfl rfl dX12_saysType_51 ⟨Nat.le_of_ble_eq_true rfl, Nat.le_of_ble_eq_true rfl⟩ ⟨Nat.le_of_ble_eq_true rfl, Nat.le_of_ble_eq_true rfl⟩ (Nat.le_of_ble_eq_true rfl) (fun w1 H locs hq9 hP hD hS => ?_)
  obtain rfl := hq9
  have hP : va_P D vwCl [(h1, .inl (cI, 1200, .inl (upd (fun _ => 0) 0 1))), (h0, .inr (12, [.ref g0, .ref g1, .ref g2, .ref g3, .ref g4, .int 4, .ref g5, .ref g6, .ref g7, .ref g8, .ref h1, .int 0, .ref g9, .ref g10, .ref g11, .ref g12, .ref g13, .ref g14, .ref g15, .ref g16, .int 0, .ref g17, .int 0, .ref g18, .int 0, .int 0, .int 0, .int 0, .int 0, .int 0, .int 0, .int 0, .long 0, .ref g19, .ref g20, .ref g21, .ref g22, .ref g23, .ref g24, .ref g25, .ref g26, .ref g27, .ref g28, .ref g29, .int 0, .int 1, .int 0, .ref g30, .ref g31, .int 0, .ref g32, .ref g33, .ref g34, .ref g35, .int 0, .ref g36, .int 0, .ref g37, .ref g38, .ref g39, .ref g40, .ref g41, .ref g42, .ref g43, .ref g44, .ref g45, .ref g46, .int 0, .int 0, .int 4, .ref g47, .ref g48, .ref g49, .ref g50, .ref g51, .ref g52, .ref g53, .ref g54, .ref g55, .ref g56, .ref g57, .ref g58, .ref g59, .int 0, .int 0, .int 0, .int 0, .int 0, .int 0, .int 0, .int 0, .int 0, .int 0, .int 0, .int 0, .int 0, .int 0, .int 0, .int 0, .int 0, .int 0, .int 0, .int 0, .ref g60, .ref g61, .int 0, .ref g62, .ref g63, .ref g64, .ref g65, .int 0, .int 0, .ref g66, .ref h2, .int 3, .ref g67, .int 0, .int 0])), (h2, .inl (cB, 3000, .inl (upd (upd (upd (fun _ => 0) 0 105) 1 110) 2 116)))] H := hP
  have hD : va_D A [(h1, .inl (cI, 1200, .inl (upd (fun _ => 0) 0 1))), (h0, .inr (12, [.ref g0, .ref g1, .ref g2, .ref g3, .ref g4, .int 4, .ref g5, .ref g6, .ref g7, .ref g8, .ref h1, .int 0, .ref g9, .ref g10, .ref g11, .ref g12, .ref g13, .ref g14, .ref g15, .ref g16, .int 0, .ref g17, .int 0, .ref g18, .int 0, .int 0, .int 0, .int 0, .int 0, .int 0, .int 0, .int 0, .long 0, .ref g19, .ref g20, .ref g21, .ref g22, .ref g23, .ref g24, .ref g25, .ref g26, .ref g27, .ref g28, .ref g29, .int 0, .int 1, .int 0, .ref g30, .ref g31, .int 0, .ref g32, .ref g33, .ref g34, .ref g35, .int 0, .ref g36, .int 0, .ref g37, .ref g38, .ref g39, .ref g40, .ref g41, .ref g42, .ref g43, .ref g44, .ref g45, .ref g46, .int 0, .int 0, .int 4, .ref g47, .ref g48, .ref g49, .ref g50, .ref g51, .ref g52, .ref g53, .ref g54, .ref g55, .ref g56, .ref g57, .ref g58, .ref g59, .int 0, .int 0, .int 0, .int 0, .int 0, .int 0, .int 0, .int 0, .int 0, .int 0, .int 0, .int 0, .int 0, .int 0, .int 0, .int 0, .int 0, .int 0, .int 0, .int 0, .ref g60, .ref g61, .int 0, .ref g62, .ref g63, .ref g64, .ref g65, .int 0, .int 0, .ref g66, .ref h2, .int 3, .ref g67, .int 0, .int 0])), (h2, .inl (cB, 3000, .inl (upd (upd (upd (fun _ => 0) 0 105) 1 110) 2 116)))] := hD
  refine W.widen (k := 0) (n := 0) (Nat.le_of_ble_eq_true rfl) (Nat.le_of_ble_eq_true rfl) ?_
  refine pcn (b := 54) rfl ?_
  refine lv_iload_n hx hb dX12_saysType_54 rfl (lv_at hl 0 rfl) ?_
  refine lv_iconst (v := 2) hx hb dX12_saysType_55 (by decide +kernel) ?_
  refine lv_icmp_ne (tgt := 66) hx hb dX12_saysType_56 (by decide) (fun _ => ?_) (fun h9 => absurd h9 (by decide +kernel))
  refine lv_iload_n hx hb dX12_saysType_66 rfl (lv_at hl 0 rfl) ?_
  refine kSi (As := [.int 1]) (rest := []) (wr := [(h1, .inl (cI, 1200, .inl (upd (fun _ => 0) 0 1))), (h0, .inr (12, [.ref g0, .ref g1, .ref g2, .ref g3, .ref g4, .int 4, .ref g5, .ref g6, .ref g7, .ref g8, .ref h1, .int 0, .ref g9, .ref g10, .ref g11, .ref g12, .ref g13, .ref g14, .ref g15, .ref g16, .int 0, .ref g17, .int 0, .ref g18, .int 0, .int 0, .int 0, .int 0, .int 0, .int 0, .int 0, .int 0, .long 0, .ref g19, .ref g20, .ref g21, .ref g22, .ref g23, .ref g24, .ref g25, .ref g26, .ref g27, .ref g28, .ref g29, .int 0, .int 1, .int 0, .ref g30, .ref g31, .int 0, .ref g32, .ref g33, .ref g34, .ref g35, .int 0, .ref g36, .int 0, .ref g37, .ref g38, .ref g39, .ref g40, .ref g41, .ref g42, .ref g43, .ref g44, .ref g45, .ref g46, .int 0, .int 0, .int 4, .ref g47, .ref g48, .ref g49, .ref g50, .ref g51, .ref g52, .ref g53, .ref g54, .ref g55, .ref g56, .ref g57, .ref g58, .ref g59, .int 0, .int 0, .int 0, .int 0, .int 0, .int 0, .int 0, .int 0, .int 0, .int 0, .int 0, .int 0, .int 0, .int 0, .int 0, .int 0, .int 0, .int 0, .int 0, .int 0, .ref g60, .ref g61, .int 0, .ref g62, .ref g63, .ref g64, .ref g65, .int 0, .int 0, .ref g66, .ref h2, .int 3, .ref g67, .int 0, .int 0])), (h2, .inl (cB, 3000, .inl (upd (upd (upd (fun _ => 0) 0 105) 1 110) 2 116)))]) hx hb hml hown hts hnw hK hP hD hS hA hl.1 (c_X12_isArrow_0 l D cI cZ cB cJ) yk_X12_isArrow wm_1324 [] [0, 1, 2] rfl rfl (by decide) (by decide) (by decide) rfl rfl dX12_saysType_67 ⟨Nat.le_of_ble_eq_true rfl, Nat.le_of_ble_eq_true rfl⟩ ⟨Nat.le_of_ble_eq_true rfl, Nat.le_of_ble_eq_true rfl⟩ (Nat.le_of_ble_eq_true rfl) (fun r9 w1 H locs hq9 hP hD hS => ?_)
  obtain ⟨rfl, rfl⟩ := hq9
  have hP : va_P D vwCl [(h1, .inl (cI, 1200, .inl (upd (fun _ => 0) 0 1))), (h0, .inr (12, [.ref g0, .ref g1, .ref g2, .ref g3, .ref g4, .int 4, .ref g5, .ref g6, .ref g7, .ref g8, .ref h1, .int 0, .ref g9, .ref g10, .ref g11, .ref g12, .ref g13, .ref g14, .ref g15, .ref g16, .int 0, .ref g17, .int 0, .ref g18, .int 0, .int 0, .int 0, .int 0, .int 0, .int 0, .int 0, .int 0, .long 0, .ref g19, .ref g20, .ref g21, .ref g22, .ref g23, .ref g24, .ref g25, .ref g26, .ref g27, .ref g28, .ref g29, .int 0, .int 1, .int 0, .ref g30, .ref g31, .int 0, .ref g32, .ref g33, .ref g34, .ref g35, .int 0, .ref g36, .int 0, .ref g37, .ref g38, .ref g39, .ref g40, .ref g41, .ref g42, .ref g43, .ref g44, .ref g45, .ref g46, .int 0, .int 0, .int 4, .ref g47, .ref g48, .ref g49, .ref g50, .ref g51, .ref g52, .ref g53, .ref g54, .ref g55, .ref g56, .ref g57, .ref g58, .ref g59, .int 0, .int 0, .int 0, .int 0, .int 0, .int 0, .int 0, .int 0, .int 0, .int 0, .int 0, .int 0, .int 0, .int 0, .int 0, .int 0, .int 0, .int 0, .int 0, .int 0, .ref g60, .ref g61, .int 0, .ref g62, .ref g63, .ref g64, .ref g65, .int 0, .int 0, .ref g66, .ref h2, .int 3, .ref g67, .int 0, .int 0])), (h2, .inl (cB, 3000, .inl (upd (upd (upd (fun _ => 0) 0 105) 1 110) 2 116)))] H := hP
  have hD : va_D A [(h1, .inl (cI, 1200, .inl (upd (fun _ => 0) 0 1))), (h0, .inr (12, [.ref g0, .ref g1, .ref g2, .ref g3, .ref g4, .int 4, .ref g5, .ref g6, .ref g7, .ref g8, .ref h1, .int 0, .ref g9, .ref g10, .ref g11, .ref g12, .ref g13, .ref g14, .ref g15, .ref g16, .int 0, .ref g17, .int 0, .ref g18, .int 0, .int 0, .int 0, .int 0, .int 0, .int 0, .int 0, .int 0, .long 0, .ref g19, .ref g20, .ref g21, .ref g22, .ref g23, .ref g24, .ref g25, .ref g26, .ref g27, .ref g28, .ref g29, .int 0, .int 1, .int 0, .ref g30, .ref g31, .int 0, .ref g32, .ref g33, .ref g34, .ref g35, .int 0, .ref g36, .int 0, .ref g37, .ref g38, .ref g39, .ref g40, .ref g41, .ref g42, .ref g43, .ref g44, .ref g45, .ref g46, .int 0, .int 0, .int 4, .ref g47, .ref g48, .ref g49, .ref g50, .ref g51, .ref g52, .ref g53, .ref g54, .ref g55, .ref g56, .ref g57, .ref g58, .ref g59, .int 0, .int 0, .int 0, .int 0, .int 0, .int 0, .int 0, .int 0, .int 0, .int 0, .int 0, .int 0, .int 0, .int 0, .int 0, .int 0, .int 0, .int 0, .int 0, .int 0, .ref g60, .ref g61, .int 0, .ref g62, .ref g63, .ref g64, .ref g65, .int 0, .int 0, .ref g66, .ref h2, .int 3, .ref g67, .int 0, .int 0])), (h2, .inl (cB, 3000, .inl (upd (upd (upd (fun _ => 0) 0 105) 1 110) 2 116)))] := hD
  refine W.widen (k := 0) (n := 0) (Nat.le_of_ble_eq_true rfl) (Nat.le_of_ble_eq_true rfl) ?_
  refine pcn (b := 70) rfl ?_
  refine lv_if_ne (tgt := 76) hx hb dX12_saysType_70 (by decide) (fun h9 => absurd (by decide +kernel) h9) (fun _ => ?_)
  refine lv_goto (tgt := 10) hx hb dX12_saysType_73 (by decide) ?_
  refine lv_aload_n hx hb dX12_saysType_10 rfl (lv_at hl 1 rfl) ?_
  refine va_get (D := D) (ci := 12) (v := .int 0) (C := RX12) (T := TX12) (N := 118) hx hb hts inX12 hown hK hP 1 rfl rfl 11 (by decide) (hts _ wm_1378) (fun _ h9 => h9) rfl dX12_saysType_11 ?_
  refine lv_if_le (tgt := 129) hx hb dX12_saysType_14 (by decide) (fun _ => ?_) (fun h9 => absurd (by decide +kernel) h9)
  refine W.widen (k := 0) (n := 0) (Nat.le_of_ble_eq_true rfl) (Nat.le_of_ble_eq_true rfl) ?_
  have hP := hP.sub (ws' := [(h0, .inr (12, [.ref g0, .ref g1, .ref g2, .ref g3, .ref g4, .int 4, .ref g5, .ref g6, .ref g7, .ref g8, .ref h1, .int 0, .ref g9, .ref g10, .ref g11, .ref g12, .ref g13, .ref g14, .ref g15, .ref g16, .int 0, .ref g17, .int 0, .ref g18, .int 0, .int 0, .int 0, .int 0, .int 0, .int 0, .int 0, .int 0, .long 0, .ref g19, .ref g20, .ref g21, .ref g22, .ref g23, .ref g24, .ref g25, .ref g26, .ref g27, .ref g28, .ref g29, .int 0, .int 1, .int 0, .ref g30, .ref g31, .int 0, .ref g32, .ref g33, .ref g34, .ref g35, .int 0, .ref g36, .int 0, .ref g37, .ref g38, .ref g39, .ref g40, .ref g41, .ref g42, .ref g43, .ref g44, .ref g45, .ref g46, .int 0, .int 0, .int 4, .ref g47, .ref g48, .ref g49, .ref g50, .ref g51, .ref g52, .ref g53, .ref g54, .ref g55, .ref g56, .ref g57, .ref g58, .ref g59, .int 0, .int 0, .int 0, .int 0, .int 0, .int 0, .int 0, .int 0, .int 0, .int 0, .int 0, .int 0, .int 0, .int 0, .int 0, .int 0, .int 0, .int 0, .int 0, .int 0, .ref g60, .ref g61, .int 0, .ref g62, .ref g63, .ref g64, .ref g65, .int 0, .int 0, .ref g66, .ref h2, .int 3, .ref g67, .int 0, .int 0])), (h1, .inl (cI, 1200, .inl (upd (fun _ => 0) 0 1))), (h2, .inl (cB, 3000, .inl (upd (upd (upd (fun _ => 0) 0 105) 1 110) 2 116)))]) [1, 0, 2] rfl
  have hD := hD.sub (ws' := [(h0, .inr (12, [.ref g0, .ref g1, .ref g2, .ref g3, .ref g4, .int 4, .ref g5, .ref g6, .ref g7, .ref g8, .ref h1, .int 0, .ref g9, .ref g10, .ref g11, .ref g12, .ref g13, .ref g14, .ref g15, .ref g16, .int 0, .ref g17, .int 0, .ref g18, .int 0, .int 0, .int 0, .int 0, .int 0, .int 0, .int 0, .int 0, .long 0, .ref g19, .ref g20, .ref g21, .ref g22, .ref g23, .ref g24, .ref g25, .ref g26, .ref g27, .ref g28, .ref g29, .int 0, .int 1, .int 0, .ref g30, .ref g31, .int 0, .ref g32, .ref g33, .ref g34, .ref g35, .int 0, .ref g36, .int 0, .ref g37, .ref g38, .ref g39, .ref g40, .ref g41, .ref g42, .ref g43, .ref g44, .ref g45, .ref g46, .int 0, .int 0, .int 4, .ref g47, .ref g48, .ref g49, .ref g50, .ref g51, .ref g52, .ref g53, .ref g54, .ref g55, .ref g56, .ref g57, .ref g58, .ref g59, .int 0, .int 0, .int 0, .int 0, .int 0, .int 0, .int 0, .int 0, .int 0, .int 0, .int 0, .int 0, .int 0, .int 0, .int 0, .int 0, .int 0, .int 0, .int 0, .int 0, .ref g60, .ref g61, .int 0, .ref g62, .ref g63, .ref g64, .ref g65, .int 0, .int 0, .ref g66, .ref h2, .int 3, .ref g67, .int 0, .int 0])), (h1, .inl (cI, 1200, .inl (upd (fun _ => 0) 0 1))), (h2, .inl (cB, 3000, .inl (upd (upd (upd (fun _ => 0) 0 105) 1 110) 2 116)))]) [1, 0, 2] (by decide) rfl
  exact rtV hx hb hr hlocks hS hP hD rfl dX12_saysType_129

set_option maxHeartbeats 4000000 in
set_option maxRecDepth 100000 in
theorem c_X10_start_2 (l : Launch) (D : va_G) (cI cZ cB cJ : ClassId) (h0 : Nat) : CtV l D (TT cI cZ cB cJ) yX10_start cX10_start 2 none 0 0 0 0 [.ref h0, .int 0] [(h0, .inr (10, [.int 0, .int 0, .int 0]))] (fun w1 => w1 = [(h0, .inr (10, [.int 0, .int 0, .int (-4)]))]) := by
  refine CtV.of (by decide +kernel) (Nat.le_of_ble_eq_true rfl) ?_
  intro p e s m below meth c A ls hx hb hr hml hown hts hnw hlocks hin hA hS hP hK hD hl
  have hown : s.vm.findClass RX10 = some m.cls := hown
  have hl : lv_has ls 2 [(0, .ref h0), (1, .int 0)] := hl
  refine lv_aload_n hx hb dX10_start_0 rfl (lv_at hl 0 rfl) ?_
  refine lv_iload_n hx hb dX10_start_1 rfl (lv_at hl 1 rfl) ?_
  refine va_put (D := D) (ci := 10) (v := .int 0) (ty := .int) (C := RX10) (T := TX10) (N := 3) hx hb hts inX10 tyX10 tyX10_ok nmX10 hown hK hP hD hS 0 rfl rfl 0 (by decide) (hts _ wm_415) (fun _ h9 => h9) rfl (by decide +kernel) rfl rfl (Nat.le_of_ble_eq_true rfl) dX10_start_2 (fun H locs hP hD hS => ?_)
  have hP : va_P D vwCl [(h0, .inr (10, [.int 0, .int 0, .int 0]))] H := hP
  have hD : va_D A [(h0, .inr (10, [.int 0, .int 0, .int 0]))] := hD
  refine lv_aload_n hx hb dX10_start_5 rfl (lv_at hl 0 rfl) ?_
  refine lv_iconst (v := 0) hx hb dX10_start_6 (by decide +kernel) ?_
  refine va_put (D := D) (ci := 10) (v := .int 0) (ty := .int) (C := RX10) (T := TX10) (N := 3) hx hb hts inX10 tyX10 tyX10_ok nmX10 hown hK hP hD hS 0 rfl rfl 1 (by decide) (hts _ wm_416) (fun _ h9 => h9) rfl (by decide +kernel) rfl rfl (Nat.le_of_ble_eq_true rfl) dX10_start_7 (fun H locs hP hD hS => ?_)
  have hP : va_P D vwCl [(h0, .inr (10, [.int 0, .int 0, .int 0]))] H := hP
  have hD : va_D A [(h0, .inr (10, [.int 0, .int 0, .int 0]))] := hD
  refine lv_aload_n hx hb dX10_start_10 rfl (lv_at hl 0 rfl) ?_
  refine pcn (b := 11) rfl ?_
  refine lv_bipush (v := (-4)) hx hb dX10_start_11 (by decide +kernel) ?_
  refine va_put (D := D) (ci := 10) (v := .int (-4)) (ty := .int) (C := RX10) (T := TX10) (N := 3) hx hb hts inX10 tyX10 tyX10_ok nmX10 hown hK hP hD hS 0 rfl rfl 2 (by decide) (hts _ wm_418) (fun _ h9 => h9) rfl (by decide +kernel) rfl rfl (Nat.le_of_ble_eq_true rfl) dX10_start_13 (fun H locs hP hD hS => ?_)
  have hP : va_P D vwCl [(h0, .inr (10, [.int 0, .int 0, .int (-4)]))] H := hP
  have hD : va_D A [(h0, .inr (10, [.int 0, .int 0, .int (-4)]))] := hD
  refine W.widen (k := 0) (n := 0) (Nat.le_of_ble_eq_true rfl) (Nat.le_of_ble_eq_true rfl) ?_
  exact rtV hx hb hr hlocks hS hP hD rfl dX10_start_16

set_option maxHeartbeats 4000000 in
set_option maxRecDepth 100000 in
theorem c_X10_sign_3 (l : Launch) (D : va_G) (cI cZ cB cJ : ClassId) (h0 : Nat) : CtV l D (TT cI cZ cB cJ) yX10_sign cX10_sign 2 none 0 0 0 0 [.ref h0, .int 105] [(h0, .inr (10, [.int 0, .int 0, .int (-4)]))] (fun w1 => w1 = [(h0, .inr (10, [.int 0, .int 1, .int 105]))]) := by
  refine CtV.of (by decide +kernel) (Nat.le_of_ble_eq_true rfl) ?_
  intro p e s m below meth c A ls hx hb hr hml hown hts hnw hlocks hin hA hS hP hK hD hl
  have hown : s.vm.findClass RX10 = some m.cls := hown
  have hl : lv_has ls 2 [(0, .ref h0), (1, .int 105)] := hl
  refine lv_aload_n hx hb dX10_sign_0 rfl (lv_at hl 0 rfl) ?_
  refine va_get (D := D) (ci := 10) (v := .int 0) (C := RX10) (T := TX10) (N := 3) hx hb hts inX10 hown hK hP 0 rfl rfl 1 (by decide) (hts _ wm_416) (fun _ h9 => h9) rfl dX10_sign_1 ?_
  refine lv_sipush (v := 3000) hx hb dX10_sign_4 (by decide +kernel) ?_
  refine lv_icmp_lt (tgt := 11) hx hb dX10_sign_7 (by decide) (fun _ => ?_) (fun h9 => absurd (by decide +kernel) h9)
  refine lv_aload_n hx hb dX10_sign_11 rfl (lv_at hl 0 rfl) ?_
  refine va_get (D := D) (ci := 10) (v := .int 0) (C := RX10) (T := TX10) (N := 3) hx hb hts inX10 hown hK hP 0 rfl rfl 1 (by decide) (hts _ wm_416) (fun _ h9 => h9) rfl dX10_sign_12 ?_
  refine lv_aload_n hx hb dX10_sign_15 rfl (lv_at hl 0 rfl) ?_
  refine va_get (D := D) (ci := 10) (v := .int 0) (C := RX10) (T := TX10) (N := 3) hx hb hts inX10 hown hK hP 0 rfl rfl 0 (by decide) (hts _ wm_415) (fun _ h9 => h9) rfl dX10_sign_16 ?_
  refine lv_icmp_ne (tgt := 27) hx hb dX10_sign_19 (by decide) (fun h9 => absurd (by decide +kernel) h9) (fun _ => ?_)
  refine lv_aload_n hx hb dX10_sign_22 rfl (lv_at hl 0 rfl) ?_
  refine lv_iload_n hx hb dX10_sign_23 rfl (lv_at hl 1 rfl) ?_
  refine pcn (b := 24) rfl ?_
  refine va_put (D := D) (ci := 10) (v := .int 105) (ty := .int) (C := RX10) (T := TX10) (N := 3) hx hb hts inX10 tyX10 tyX10_ok nmX10 hown hK hP hD hS 0 rfl rfl 2 (by decide) (hts _ wm_418) (fun _ h9 => h9) rfl (by decide +kernel) rfl rfl (Nat.le_of_ble_eq_true rfl) dX10_sign_24 (fun H locs hP hD hS => ?_)
  have hP : va_P D vwCl [(h0, .inr (10, [.int 0, .int 0, .int 105]))] H := hP
  have hD : va_D A [(h0, .inr (10, [.int 0, .int 0, .int 105]))] := hD
  refine lv_aload_n hx hb dX10_sign_27 rfl (lv_at hl 0 rfl) ?_
  refine lv_dup hx hb dX10_sign_28 rfl ?_
  refine va_get (D := D) (ci := 10) (v := .int 0) (C := RX10) (T := TX10) (N := 3) hx hb hts inX10 hown hK hP 0 rfl rfl 1 (by decide) (hts _ wm_416) (fun _ h9 => h9) rfl dX10_sign_29 ?_
  refine lv_iconst (v := 1) hx hb dX10_sign_32 (by decide +kernel) ?_
  refine lv_iadd hx hb dX10_sign_33 ?_
  refine nrm (y := 1) (by decide +kernel) ?_
  refine va_put (D := D) (ci := 10) (v := .int 1) (ty := .int) (C := RX10) (T := TX10) (N := 3) hx hb hts inX10 tyX10 tyX10_ok nmX10 hown hK hP hD hS 0 rfl rfl 1 (by decide) (hts _ wm_416) (fun _ h9 => h9) rfl (by decide +kernel) rfl rfl (Nat.le_of_ble_eq_true rfl) dX10_sign_34 (fun H locs hP hD hS => ?_)
  have hP : va_P D vwCl [(h0, .inr (10, [.int 0, .int 1, .int 105]))] H := hP
  have hD : va_D A [(h0, .inr (10, [.int 0, .int 1, .int 105]))] := hD
  refine W.widen (k := 0) (n := 0) (Nat.le_of_ble_eq_true rfl) (Nat.le_of_ble_eq_true rfl) ?_
  exact rtV hx hb hr hlocks hS hP hD rfl dX10_sign_37

set_option maxHeartbeats 4000000 in
set_option maxRecDepth 100000 in
theorem c_X10_sign_4 (l : Launch) (D : va_G) (cI cZ cB cJ : ClassId) (h0 : Nat) : CtV l D (TT cI cZ cB cJ) yX10_sign cX10_sign 2 none 0 0 0 0 [.ref h0, .int 110] [(h0, .inr (10, [.int 0, .int 1, .int 105]))] (fun w1 => w1 = [(h0, .inr (10, [.int 0, .int 2, .int 105]))]) := by
  refine CtV.of (by decide +kernel) (Nat.le_of_ble_eq_true rfl) ?_
  intro p e s m below meth c A ls hx hb hr hml hown hts hnw hlocks hin hA hS hP hK hD hl
  have hown : s.vm.findClass RX10 = some m.cls := hown
  have hl : lv_has ls 2 [(0, .ref h0), (1, .int 110)] := hl
  refine lv_aload_n hx hb dX10_sign_0 rfl (lv_at hl 0 rfl) ?_
  refine va_get (D := D) (ci := 10) (v := .int 1) (C := RX10) (T := TX10) (N := 3) hx hb hts inX10 hown hK hP 0 rfl rfl 1 (by decide) (hts _ wm_416) (fun _ h9 => h9) rfl dX10_sign_1 ?_
  refine lv_sipush (v := 3000) hx hb dX10_sign_4 (by decide +kernel) ?_
  refine lv_icmp_lt (tgt := 11) hx hb dX10_sign_7 (by decide) (fun _ => ?_) (fun h9 => absurd (by decide +kernel) h9)
  refine lv_aload_n hx hb dX10_sign_11 rfl (lv_at hl 0 rfl) ?_
  refine va_get (D := D) (ci := 10) (v := .int 1) (C := RX10) (T := TX10) (N := 3) hx hb hts inX10 hown hK hP 0 rfl rfl 1 (by decide) (hts _ wm_416) (fun _ h9 => h9) rfl dX10_sign_12 ?_
  refine lv_aload_n hx hb dX10_sign_15 rfl (lv_at hl 0 rfl) ?_
  refine va_get (D := D) (ci := 10) (v := .int 0) (C := RX10) (T := TX10) (N := 3) hx hb hts inX10 hown hK hP 0 rfl rfl 0 (by decide) (hts _ wm_415) (fun _ h9 => h9) rfl dX10_sign_16 ?_
  refine lv_icmp_ne (tgt := 27) hx hb dX10_sign_19 (by decide) (fun _ => ?_) (fun h9 => absurd h9 (by decide +kernel))
  refine lv_aload_n hx hb dX10_sign_27 rfl (lv_at hl 0 rfl) ?_
  refine lv_dup hx hb dX10_sign_28 rfl ?_
  refine va_get (D := D) (ci := 10) (v := .int 1) (C := RX10) (T := TX10) (N := 3) hx hb hts inX10 hown hK hP 0 rfl rfl 1 (by decide) (hts _ wm_416) (fun _ h9 => h9) rfl dX10_sign_29 ?_
  refine lv_iconst (v := 1) hx hb dX10_sign_32 (by decide +kernel) ?_
  refine lv_iadd hx hb dX10_sign_33 ?_
  refine nrm (y := 2) (by decide +kernel) ?_
  refine va_put (D := D) (ci := 10) (v := .int 2) (ty := .int) (C := RX10) (T := TX10) (N := 3) hx hb hts inX10 tyX10 tyX10_ok nmX10 hown hK hP hD hS 0 rfl rfl 1 (by decide) (hts _ wm_416) (fun _ h9 => h9) rfl (by decide +kernel) rfl rfl (Nat.le_of_ble_eq_true rfl) dX10_sign_34 (fun H locs hP hD hS => ?_)
  have hP : va_P D vwCl [(h0, .inr (10, [.int 0, .int 2, .int 105]))] H := hP
  have hD : va_D A [(h0, .inr (10, [.int 0, .int 2, .int 105]))] := hD
  refine W.widen (k := 0) (n := 0) (Nat.le_of_ble_eq_true rfl) (Nat.le_of_ble_eq_true rfl) ?_
  exact rtV hx hb hr hlocks hS hP hD rfl dX10_sign_37

set_option maxHeartbeats 4000000 in
set_option maxRecDepth 100000 in
theorem c_X10_sign_5 (l : Launch) (D : va_G) (cI cZ cB cJ : ClassId) (h0 : Nat) : CtV l D (TT cI cZ cB cJ) yX10_sign cX10_sign 2 none 0 0 0 0 [.ref h0, .int 116] [(h0, .inr (10, [.int 0, .int 2, .int 105]))] (fun w1 => w1 = [(h0, .inr (10, [.int 0, .int 3, .int 105]))]) := by
  refine CtV.of (by decide +kernel) (Nat.le_of_ble_eq_true rfl) ?_
  intro p e s m below meth c A ls hx hb hr hml hown hts hnw hlocks hin hA hS hP hK hD hl
  have hown : s.vm.findClass RX10 = some m.cls := hown
  have hl : lv_has ls 2 [(0, .ref h0), (1, .int 116)] := hl
  refine lv_aload_n hx hb dX10_sign_0 rfl (lv_at hl 0 rfl) ?_
  refine va_get (D := D) (ci := 10) (v := .int 2) (C := RX10) (T := TX10) (N := 3) hx hb hts inX10 hown hK hP 0 rfl rfl 1 (by decide) (hts _ wm_416) (fun _ h9 => h9) rfl dX10_sign_1 ?_
  refine lv_sipush (v := 3000) hx hb dX10_sign_4 (by decide +kernel) ?_
  refine lv_icmp_lt (tgt := 11) hx hb dX10_sign_7 (by decide) (fun _ => ?_) (fun h9 => absurd (by decide +kernel) h9)
  refine lv_aload_n hx hb dX10_sign_11 rfl (lv_at hl 0 rfl) ?_
  refine va_get (D := D) (ci := 10) (v := .int 2) (C := RX10) (T := TX10) (N := 3) hx hb hts inX10 hown hK hP 0 rfl rfl 1 (by decide) (hts _ wm_416) (fun _ h9 => h9) rfl dX10_sign_12 ?_
  refine lv_aload_n hx hb dX10_sign_15 rfl (lv_at hl 0 rfl) ?_
  refine va_get (D := D) (ci := 10) (v := .int 0) (C := RX10) (T := TX10) (N := 3) hx hb hts inX10 hown hK hP 0 rfl rfl 0 (by decide) (hts _ wm_415) (fun _ h9 => h9) rfl dX10_sign_16 ?_
  refine lv_icmp_ne (tgt := 27) hx hb dX10_sign_19 (by decide) (fun _ => ?_) (fun h9 => absurd h9 (by decide +kernel))
  refine lv_aload_n hx hb dX10_sign_27 rfl (lv_at hl 0 rfl) ?_
  refine lv_dup hx hb dX10_sign_28 rfl ?_
  refine va_get (D := D) (ci := 10) (v := .int 2) (C := RX10) (T := TX10) (N := 3) hx hb hts inX10 hown hK hP 0 rfl rfl 1 (by decide) (hts _ wm_416) (fun _ h9 => h9) rfl dX10_sign_29 ?_
  refine lv_iconst (v := 1) hx hb dX10_sign_32 (by decide +kernel) ?_
  refine lv_iadd hx hb dX10_sign_33 ?_
  refine nrm (y := 3) (by decide +kernel) ?_
  refine va_put (D := D) (ci := 10) (v := .int 3) (ty := .int) (C := RX10) (T := TX10) (N := 3) hx hb hts inX10 tyX10 tyX10_ok nmX10 hown hK hP hD hS 0 rfl rfl 1 (by decide) (hts _ wm_416) (fun _ h9 => h9) rfl (by decide +kernel) rfl rfl (Nat.le_of_ble_eq_true rfl) dX10_sign_34 (fun H locs hP hD hS => ?_)
  have hP : va_P D vwCl [(h0, .inr (10, [.int 0, .int 3, .int 105]))] H := hP
  have hD : va_D A [(h0, .inr (10, [.int 0, .int 3, .int 105]))] := hD
  refine W.widen (k := 0) (n := 0) (Nat.le_of_ble_eq_true rfl) (Nat.le_of_ble_eq_true rfl) ?_
  exact rtV hx hb hr hlocks hS hP hD rfl dX10_sign_37

set_option maxHeartbeats 4000000 in
set_option maxRecDepth 100000 in
theorem c_X10_word_1 (l : Launch) (D : va_G) (cI cZ cB cJ : ClassId) (ak kv : Nat) (fo : Option Nat) (h0 : Nat) : CtVS ak kv fo l D (TT cI cZ cB cJ) yX10_word cX10_word 3 none 4 85 0 0 [.ref h0, .ref ak] [(h0, .inr (10, [.int 0, .int 0, .int (-4)]))] (fun w1 => w1 = [(h0, .inr (10, [.int 0, .int 3, .int 105]))]) := by
  refine CtVS.of (by decide +kernel) (Nat.le_of_ble_eq_true rfl) ?_
  intro p e s m below meth c A ls hSX hx hb hr hml hown hts hnw hlocks hin hA hS hP hK hD hl
  have hown : s.vm.findClass RX10 = some m.cls := hown
  have hl : lv_has ls 3 [(0, .ref h0), (1, .ref ak)] := hl
  refine lv_iconst (v := 0) hx hb dX10_word_0 (by decide +kernel) ?_
  refine lv_istore_n (lv' := [(2, .int 0), (0, .ref h0), (1, .ref ak)]) hx hb dX10_word_1 rfl hl (by decide) rfl (fun ls hl => ?_)
  refine lv_iload_n hx hb dX10_word_2 rfl (lv_at hl 0 rfl) ?_
  refine lv_aload_n hx hb dX10_word_3 rfl (lv_at hl 2 rfl) ?_
  refine zVi (As := []) (rest := [.int 0]) (wr := [(h0, .inr (10, [.int 0, .int 0, .int (-4)]))]) hSX hx hb hml hown hts hnw hK hP hD hS hA hl.1 (c_length l D cI cZ cB cJ ak kv fo) yk_J0_length_8abf5 wm_875 [] [0] rfl rfl (by decide) (by decide) (by decide) (hSX.recv hS) rfl rfl dX10_word_4 ⟨Nat.le_of_ble_eq_true rfl, Nat.le_of_ble_eq_true rfl⟩ ⟨Nat.le_of_ble_eq_true rfl, Nat.le_of_ble_eq_true rfl⟩ (Nat.le_of_ble_eq_true rfl) (fun r9 w1 H locs hq9 hP hD hS => ?_)
  obtain ⟨rfl, rfl⟩ := hq9
  have hP : va_P D vwCl [(h0, .inr (10, [.int 0, .int 0, .int (-4)]))] H := hP
  have hD : va_D A [(h0, .inr (10, [.int 0, .int 0, .int (-4)]))] := hD
  refine W.widen (k := 0) (n := 0) (Nat.le_of_ble_eq_true rfl) (Nat.le_of_ble_eq_true rfl) ?_
  refine pcn (b := 7) rfl ?_
  refine lv_icmp_ge (tgt := 25) hx hb dX10_word_7 (by decide) (fun h9 => absurd h9 (by decide +kernel)) (fun _ => ?_)
  refine lv_aload_n hx hb dX10_word_10 rfl (lv_at hl 1 rfl) ?_
  refine lv_aload_n hx hb dX10_word_11 rfl (lv_at hl 2 rfl) ?_
  refine lv_iload_n hx hb dX10_word_12 rfl (lv_at hl 0 rfl) ?_
  refine zVi (As := [.int 0]) (rest := [.ref h0]) (wr := [(h0, .inr (10, [.int 0, .int 0, .int (-4)]))]) hSX hx hb hml hown hts hnw hK hP hD hS hA hl.1 (c_charAt0 l D cI cZ cB cJ ak kv fo) yk_J0_charAt_5068e wm_885 [] [0] rfl rfl (by decide) (by decide) (by decide) (hSX.recv hS) rfl rfl dX10_word_13 ⟨Nat.le_of_ble_eq_true rfl, Nat.le_of_ble_eq_true rfl⟩ ⟨Nat.le_of_ble_eq_true rfl, Nat.le_of_ble_eq_true rfl⟩ (Nat.le_of_ble_eq_true rfl) (fun r9 w1 H locs hq9 hP hD hS => ?_)
  obtain ⟨rfl, rfl⟩ := hq9
  have hP : va_P D vwCl [(h0, .inr (10, [.int 0, .int 0, .int (-4)]))] H := hP
  have hD : va_D A [(h0, .inr (10, [.int 0, .int 0, .int (-4)]))] := hD
  refine W.widen (k := 0) (n := 0) (Nat.le_of_ble_eq_true rfl) (Nat.le_of_ble_eq_true rfl) ?_
  refine pcn (b := 16) rfl ?_
  refine kVv (As := [.int 105]) (rest := []) (wr := []) hx hb hml hown hts hnw hK hP hD hS hA hl.1 (c_X10_sign_3 l D cI cZ cB cJ h0) yk_X10_sign wm_866 [0] [] rfl rfl (by decide) (by decide) (by decide) 0 rfl rfl rfl rfl rfl dX10_word_16 ⟨Nat.le_of_ble_eq_true rfl, Nat.le_of_ble_eq_true rfl⟩ ⟨Nat.le_of_ble_eq_true rfl, Nat.le_of_ble_eq_true rfl⟩ (Nat.le_of_ble_eq_true rfl) (fun w1 H locs hq9 hP hD hS => ?_)
  obtain rfl := hq9
  have hP : va_P D vwCl [(h0, .inr (10, [.int 0, .int 1, .int 105]))] H := hP
  have hD : va_D A [(h0, .inr (10, [.int 0, .int 1, .int 105]))] := hD
  refine W.widen (k := 0) (n := 0) (Nat.le_of_ble_eq_true rfl) (Nat.le_of_ble_eq_true rfl) ?_
  refine pcn (b := 19) rfl ?_
  refine lv_iinc (v := 1) (lv' := [(2, .int 1), (0, .ref h0), (1, .ref ak)]) hx hb dX10_word_19 hl (k := 0) rfl (by decide +kernel) (by decide) rfl (fun ls hl => ?_)
  refine lv_goto (tgt := 2) hx hb dX10_word_22 (by decide) ?_
  refine lv_iload_n hx hb dX10_word_2 rfl (lv_at hl 0 rfl) ?_
  refine lv_aload_n hx hb dX10_word_3 rfl (lv_at hl 2 rfl) ?_
  refine zVi (As := []) (rest := [.int 1]) (wr := [(h0, .inr (10, [.int 0, .int 1, .int 105]))]) hSX hx hb hml hown hts hnw hK hP hD hS hA hl.1 (c_length l D cI cZ cB cJ ak kv fo) yk_J0_length_8abf5 wm_875 [] [0] rfl rfl (by decide) (by decide) (by decide) (hSX.recv hS) rfl rfl dX10_word_4 ⟨Nat.le_of_ble_eq_true rfl, Nat.le_of_ble_eq_true rfl⟩ ⟨Nat.le_of_ble_eq_true rfl, Nat.le_of_ble_eq_true rfl⟩ (Nat.le_of_ble_eq_true rfl) (fun r9 w1 H locs hq9 hP hD hS => ?_)
  obtain ⟨rfl, rfl⟩ := hq9
  have hP : va_P D vwCl [(h0, .inr (10, [.int 0, .int 1, .int 105]))] H := hP
  have hD : va_D A [(h0, .inr (10, [.int 0, .int 1, .int 105]))] := hD
  refine W.widen (k := 0) (n := 0) (Nat.le_of_ble_eq_true rfl) (Nat.le_of_ble_eq_true rfl) ?_
  refine pcn (b := 7) rfl ?_
  refine lv_icmp_ge (tgt := 25) hx hb dX10_word_7 (by decide) (fun h9 => absurd h9 (by decide +kernel)) (fun _ => ?_)
  refine lv_aload_n hx hb dX10_word_10 rfl (lv_at hl 1 rfl) ?_
  refine lv_aload_n hx hb dX10_word_11 rfl (lv_at hl 2 rfl) ?_
  refine lv_iload_n hx hb dX10_word_12 rfl (lv_at hl 0 rfl) ?_
  refine zVi (As := [.int 1]) (rest := [.ref h0]) (wr := [(h0, .inr (10, [.int 0, .int 1, .int 105]))]) hSX hx hb hml hown hts hnw hK hP hD hS hA hl.1 (c_charAt1 l D cI cZ cB cJ ak kv fo) yk_J0_charAt_5068e wm_885 [] [0] rfl rfl (by decide) (by decide) (by decide) (hSX.recv hS) rfl rfl dX10_word_13 ⟨Nat.le_of_ble_eq_true rfl, Nat.le_of_ble_eq_true rfl⟩ ⟨Nat.le_of_ble_eq_true rfl, Nat.le_of_ble_eq_true rfl⟩ (Nat.le_of_ble_eq_true rfl) (fun r9 w1 H locs hq9 hP hD hS => ?_)
  obtain ⟨rfl, rfl⟩ := hq9
  have hP : va_P D vwCl [(h0, .inr (10, [.int 0, .int 1, .int 105]))] H := hP
  have hD : va_D A [(h0, .inr (10, [.int 0, .int 1, .int 105]))] := hD
  refine W.widen (k := 0) (n := 0) (Nat.le_of_ble_eq_true rfl) (Nat.le_of_ble_eq_true rfl) ?_
  refine pcn (b := 16) rfl ?_
  refine kVv (As := [.int 110]) (rest := []) (wr := []) hx hb hml hown hts hnw hK hP hD hS hA hl.1 (c_X10_sign_4 l D cI cZ cB cJ h0) yk_X10_sign wm_866 [0] [] rfl rfl (by decide) (by decide) (by decide) 0 rfl rfl rfl rfl rfl dX10_word_16 ⟨Nat.le_of_ble_eq_true rfl, Nat.le_of_ble_eq_true rfl⟩ ⟨Nat.le_of_ble_eq_true rfl, Nat.le_of_ble_eq_true rfl⟩ (Nat.le_of_ble_eq_true rfl) (fun w1 H locs hq9 hP hD hS => ?_)
  obtain rfl := hq9
  have hP : va_P D vwCl [(h0, .inr (10, [.int 0, .int 2, .int 105]))] H := hP
  have hD : va_D A [(h0, .inr (10, [.int 0, .int 2, .int 105]))] := hD
  refine W.widen (k := 0) (n := 0) (Nat.le_of_ble_eq_true rfl) (Nat.le_of_ble_eq_true rfl) ?_
  refine pcn (b := 19) rfl ?_
  refine lv_iinc (v := 2) (lv' := [(2, .int 2), (0, .ref h0), (1, .ref ak)]) hx hb dX10_word_19 hl (k := 0) rfl (by decide +kernel) (by decide) rfl (fun ls hl => ?_)
  refine lv_goto (tgt := 2) hx hb dX10_word_22 (by decide) ?_
  refine lv_iload_n hx hb dX10_word_2 rfl (lv_at hl 0 rfl) ?_
  refine lv_aload_n hx hb dX10_word_3 rfl (lv_at hl 2 rfl) ?_
  refine zVi (As := []) (rest := [.int 2]) (wr := [(h0, .inr (10, [.int 0, .int 2, .int 105]))]) hSX hx hb hml hown hts hnw hK hP hD hS hA hl.1 (c_length l D cI cZ cB cJ ak kv fo) yk_J0_length_8abf5 wm_875 [] [0] rfl rfl (by decide) (by decide) (by decide) (hSX.recv hS) rfl rfl dX10_word_4 ⟨Nat.le_of_ble_eq_true rfl, Nat.le_of_ble_eq_true rfl⟩ ⟨Nat.le_of_ble_eq_true rfl, Nat.le_of_ble_eq_true rfl⟩ (Nat.le_of_ble_eq_true rfl) (fun r9 w1 H locs hq9 hP hD hS => ?_)
  obtain ⟨rfl, rfl⟩ := hq9
  have hP : va_P D vwCl [(h0, .inr (10, [.int 0, .int 2, .int 105]))] H := hP
  have hD : va_D A [(h0, .inr (10, [.int 0, .int 2, .int 105]))] := hD
  refine W.widen (k := 0) (n := 0) (Nat.le_of_ble_eq_true rfl) (Nat.le_of_ble_eq_true rfl) ?_
  refine pcn (b := 7) rfl ?_
  refine lv_icmp_ge (tgt := 25) hx hb dX10_word_7 (by decide) (fun h9 => absurd h9 (by decide +kernel)) (fun _ => ?_)
  refine lv_aload_n hx hb dX10_word_10 rfl (lv_at hl 1 rfl) ?_
  refine lv_aload_n hx hb dX10_word_11 rfl (lv_at hl 2 rfl) ?_
  refine lv_iload_n hx hb dX10_word_12 rfl (lv_at hl 0 rfl) ?_
  refine zVi (As := [.int 2]) (rest := [.ref h0]) (wr := [(h0, .inr (10, [.int 0, .int 2, .int 105]))]) hSX hx hb hml hown hts hnw hK hP hD hS hA hl.1 (c_charAt2 l D cI cZ cB cJ ak kv fo) yk_J0_charAt_5068e wm_885 [] [0] rfl rfl (by decide) (by decide) (by decide) (hSX.recv hS) rfl rfl dX10_word_13 ⟨Nat.le_of_ble_eq_true rfl, Nat.le_of_ble_eq_true rfl⟩ ⟨Nat.le_of_ble_eq_true rfl, Nat.le_of_ble_eq_true rfl⟩ (Nat.le_of_ble_eq_true rfl) (fun r9 w1 H locs hq9 hP hD hS => ?_)
  obtain ⟨rfl, rfl⟩ := hq9
  have hP : va_P D vwCl [(h0, .inr (10, [.int 0, .int 2, .int 105]))] H := hP
  have hD : va_D A [(h0, .inr (10, [.int 0, .int 2, .int 105]))] := hD
  refine W.widen (k := 0) (n := 0) (Nat.le_of_ble_eq_true rfl) (Nat.le_of_ble_eq_true rfl) ?_
  refine pcn (b := 16) rfl ?_
  refine kVv (As := [.int 116]) (rest := []) (wr := []) hx hb hml hown hts hnw hK hP hD hS hA hl.1 (c_X10_sign_5 l D cI cZ cB cJ h0) yk_X10_sign wm_866 [0] [] rfl rfl (by decide) (by decide) (by decide) 0 rfl rfl rfl rfl rfl dX10_word_16 ⟨Nat.le_of_ble_eq_true rfl, Nat.le_of_ble_eq_true rfl⟩ ⟨Nat.le_of_ble_eq_true rfl, Nat.le_of_ble_eq_true rfl⟩ (Nat.le_of_ble_eq_true rfl) (fun w1 H locs hq9 hP hD hS => ?_)
  obtain rfl := hq9
  have hP : va_P D vwCl [(h0, .inr (10, [.int 0, .int 3, .int 105]))] H := hP
  have hD : va_D A [(h0, .inr (10, [.int 0, .int 3, .int 105]))] := hD
  refine W.widen (k := 0) (n := 0) (Nat.le_of_ble_eq_true rfl) (Nat.le_of_ble_eq_true rfl) ?_
  refine pcn (b := 19) rfl ?_
  refine lv_iinc (v := 3) (lv' := [(2, .int 3), (0, .ref h0), (1, .ref ak)]) hx hb dX10_word_19 hl (k := 0) rfl (by decide +kernel) (by decide) rfl (fun ls hl => ?_)
  refine lv_goto (tgt := 2) hx hb dX10_word_22 (by decide) ?_
  refine lv_iload_n hx hb dX10_word_2 rfl (lv_at hl 0 rfl) ?_
  refine lv_aload_n hx hb dX10_word_3 rfl (lv_at hl 2 rfl) ?_
  refine zVi (As := []) (rest := [.int 3]) (wr := [(h0, .inr (10, [.int 0, .int 3, .int 105]))]) hSX hx hb hml hown hts hnw hK hP hD hS hA hl.1 (c_length l D cI cZ cB cJ ak kv fo) yk_J0_length_8abf5 wm_875 [] [0] rfl rfl (by decide) (by decide) (by decide) (hSX.recv hS) rfl rfl dX10_word_4 ⟨Nat.le_of_ble_eq_true rfl, Nat.le_of_ble_eq_true rfl⟩ ⟨Nat.le_of_ble_eq_true rfl, Nat.le_of_ble_eq_true rfl⟩ (Nat.le_of_ble_eq_true rfl) (fun r9 w1 H locs hq9 hP hD hS => ?_)
  obtain ⟨rfl, rfl⟩ := hq9
  have hP : va_P D vwCl [(h0, .inr (10, [.int 0, .int 3, .int 105]))] H := hP
  have hD : va_D A [(h0, .inr (10, [.int 0, .int 3, .int 105]))] := hD
  refine W.widen (k := 0) (n := 0) (Nat.le_of_ble_eq_true rfl) (Nat.le_of_ble_eq_true rfl) ?_
  refine pcn (b := 7) rfl ?_
  refine lv_icmp_ge (tgt := 25) hx hb dX10_word_7 (by decide) (fun _ => ?_) (fun h9 => absurd (by decide +kernel) h9)
  refine W.widen (k := 0) (n := 0) (Nat.le_of_ble_eq_true rfl) (Nat.le_of_ble_eq_true rfl) ?_
  exact rtV hx hb hr hlocks hS hP hD rfl dX10_word_25

set_option maxHeartbeats 4000000 in
set_option maxRecDepth 100000 in
theorem c_X10_writeType_1 (l : Launch) (D : va_G) (cI cZ cB cJ : ClassId) (ak kv : Nat) (fo : Option Nat) (h0 g0 : Nat) : CtVS ak kv fo l D (TT cI cZ cB cJ) yX10_writeType cX10_writeType 4 none 5 107 0 0 [.ref h0, .ref g0, .int 1, .int 40] [(h0, .inr (10, [.int 0, .int 0, .int (-4)]))] (fun w1 => w1 = [(h0, .inr (10, [.int 0, .int 3, .int 105]))]) := by
  refine CtVS.of (by decide +kernel) (Nat.le_of_ble_eq_true rfl) ?_
  intro p e s m below meth c A ls hSX hx hb hr hml hown hts hnw hlocks hin hA hS hP hK hD hl
  have hown : s.vm.findClass RX10 = some m.cls := hown
  have hl : lv_has ls 4 [(0, .ref h0), (1, .ref g0), (2, .int 1), (3, .int 40)] := hl
  refine lv_iload_n hx hb dX10_writeType_0 rfl (lv_at hl 3 rfl) ?_
  refine lv_if_gt (tgt := 5) hx hb dX10_writeType_1 (by decide) (fun _ => ?_) (fun h9 => absurd (by decide +kernel) h9)
  refine lv_iload_n hx hb dX10_writeType_5 rfl (lv_at hl 2 rfl) ?_
  refine lv_if_ne (tgt := 18) hx hb dX10_writeType_6 (by decide) (fun _ => ?_) (fun h9 => absurd h9 (by decide +kernel))
  refine lv_iload_n hx hb dX10_writeType_18 rfl (lv_at hl 2 rfl) ?_
  refine lv_iconst (v := 1) hx hb dX10_writeType_19 (by decide +kernel) ?_
  refine lv_icmp_ne (tgt := 32) hx hb dX10_writeType_20 (by decide) (fun h9 => absurd (by decide +kernel) h9) (fun _ => ?_)
  refine lv_aload_n hx hb dX10_writeType_23 rfl (lv_at hl 0 rfl) ?_
  refine va_ldcS hx hb hown hSX.1 dX10_writeType_24 ?_
  refine zVv (As := [.ref ak]) (rest := []) (wr := []) hSX hx hb hml hown hts hnw hK hP hD hS hA hl.1 (c_X10_word_1 l D cI cZ cB cJ ak kv fo h0) yk_X10_word wm_871 [0] [] rfl rfl (by decide) (by decide) (by decide) (rcv hK hP 0 rfl rfl rfl) rfl rfl dX10_writeType_26 ⟨Nat.le_of_ble_eq_true rfl, Nat.le_of_ble_eq_true rfl⟩ ⟨Nat.le_of_ble_eq_true rfl, Nat.le_of_ble_eq_true rfl⟩ (Nat.le_of_ble_eq_true rfl) (fun w1 H locs hq9 hP hD hS => ?_)
  obtain rfl := hq9
  have hP : va_P D vwCl [(h0, .inr (10, [.int 0, .int 3, .int 105]))] H := hP
  have hD : va_D A [(h0, .inr (10, [.int 0, .int 3, .int 105]))] := hD
  refine W.widen (k := 0) (n := 0) (Nat.le_of_ble_eq_true rfl) (Nat.le_of_ble_eq_true rfl) ?_
  refine pcn (b := 29) rfl ?_
  refine lv_goto (tgt := 90) hx hb dX10_writeType_29 (by decide) ?_
  refine W.widen (k := 0) (n := 0) (Nat.le_of_ble_eq_true rfl) (Nat.le_of_ble_eq_true rfl) ?_
  exact rtV hx hb hr hlocks hS hP hD rfl dX10_writeType_90

set_option maxHeartbeats 4000000 in
set_option maxRecDepth 100000 in
theorem c_X11_writeText_8 (l : Launch) (D : va_G) (cI cZ cB cJ : ClassId) (ak kv : Nat) (fo : Option Nat) (h0 h1 h2 h3 h4 g0 g1 g2 g3 g4 g5 g6 g7 g8 g9 g10 g11 g12 g13 g14 g15 g16 g17 g18 g19 g20 g21 : Nat) : CtIS ak kv fo l D (TT cI cZ cB cJ) yX11_writeText cX11_writeText 5 (some .boolean) 6 130 0 0 [.ref h0, .int 1, .int 0] [(h0, .inr (11, [.ref g0, .int 0, .ref g1, .ref g2, .ref h1, .ref g3, .ref g4, .ref h4, .ref g5, .ref g6, .ref g7])), (h1, .inr (1, [.ref h2, .ref g8, .ref g9, .ref g10, .ref h3, .ref g11, .ref g12, .int 4, .int 3, .int 0, .int (-1), .int 0])), (h2, .inr (7, [.ref g13, .ref g14, .ref g15, .ref g16, .ref g17, .ref g18, .ref g19, .ref g20, .ref g21, .int 1, .int 1, .int 0])), (h3, .inl (cI, 60, .inl (upd (fun _ => 0) 0 1))), (h4, .inr (10, [.int 0, .int 0, .int (-4)]))] (fun r w1 => r = 1 ∧ w1 = [(h0, .inr (11, [.ref g0, .int 0, .ref g1, .ref g2, .ref h1, .ref g3, .ref g4, .ref h4, .ref g5, .ref g6, .ref g7])), (h1, .inr (1, [.ref h2, .ref g8, .ref g9, .ref g10, .ref h3, .ref g11, .ref g12, .int 4, .int 3, .int 0, .int (-1), .int 0])), (h2, .inr (7, [.ref g13, .ref g14, .ref g15, .ref g16, .ref g17, .ref g18, .ref g19, .ref g20, .ref g21, .int 1, .int 1, .int 0])), (h3, .inl (cI, 60, .inl (upd (fun _ => 0) 0 1))), (h4, .inr (10, [.int 0, .int 3, .int 105]))]) := by
  refine CtIS.of (by decide +kernel) (Nat.le_of_ble_eq_true rfl) ?_
  intro p e s m below meth c A ls hSX hx hb hr hml hown hts hnw hlocks hin hA hS hP hK hD hl
  have hown : s.vm.findClass RX11 = some m.cls := hown
  have hl : lv_has ls 5 [(0, .ref h0), (1, .int 1), (2, .int 0)] := hl
  refine lv_iload_n hx hb dX11_writeText_0 rfl (lv_at hl 2 rfl) ?_
  refine lv_if_lt (tgt := 13) hx hb dX11_writeText_1 (by decide) (fun h9 => absurd h9 (by decide +kernel)) (fun _ => ?_)
  refine lv_iload_n hx hb dX11_writeText_4 rfl (lv_at hl 2 rfl) ?_
  refine lv_aload_n hx hb dX11_writeText_5 rfl (lv_at hl 0 rfl) ?_
  refine lv_iload_n hx hb dX11_writeText_6 rfl (lv_at hl 1 rfl) ?_
  refine kVi (As := [.int 1]) (rest := [.int 0]) (wr := [(h3, .inl (cI, 60, .inl (upd (fun _ => 0) 0 1))), (h4, .inr (10, [.int 0, .int 0, .int (-4)]))]) hx hb hml hown hts hnw hK hP hD hS hA hl.1 (c_X11_textsOf_2 l D cI cZ cB cJ h0 h1 h2 g0 g1 g2 g3 g4 h4 g5 g6 g7 g8 g9 g10 h3 g11 g12 g13 g14 g15 g16 g17 g18 g19 g20 g21) yk_X11_textsOf wm_857 [0, 1, 2] [3, 4] rfl rfl (by decide) (by decide) (by decide) 0 rfl rfl rfl rfl rfl dX11_writeText_7 ⟨Nat.le_of_ble_eq_true rfl, Nat.le_of_ble_eq_true rfl⟩ ⟨Nat.le_of_ble_eq_true rfl, Nat.le_of_ble_eq_true rfl⟩ (Nat.le_of_ble_eq_true rfl) (fun r9 w1 H locs hq9 hP hD hS => ?_)
  obtain ⟨rfl, rfl⟩ := hq9
  have hP : va_P D vwCl [(h3, .inl (cI, 60, .inl (upd (fun _ => 0) 0 1))), (h4, .inr (10, [.int 0, .int 0, .int (-4)])), (h0, .inr (11, [.ref g0, .int 0, .ref g1, .ref g2, .ref h1, .ref g3, .ref g4, .ref h4, .ref g5, .ref g6, .ref g7])), (h1, .inr (1, [.ref h2, .ref g8, .ref g9, .ref g10, .ref h3, .ref g11, .ref g12, .int 4, .int 3, .int 0, .int (-1), .int 0])), (h2, .inr (7, [.ref g13, .ref g14, .ref g15, .ref g16, .ref g17, .ref g18, .ref g19, .ref g20, .ref g21, .int 1, .int 1, .int 0]))] H := hP
  have hD : va_D A [(h3, .inl (cI, 60, .inl (upd (fun _ => 0) 0 1))), (h4, .inr (10, [.int 0, .int 0, .int (-4)])), (h0, .inr (11, [.ref g0, .int 0, .ref g1, .ref g2, .ref h1, .ref g3, .ref g4, .ref h4, .ref g5, .ref g6, .ref g7])), (h1, .inr (1, [.ref h2, .ref g8, .ref g9, .ref g10, .ref h3, .ref g11, .ref g12, .int 4, .int 3, .int 0, .int (-1), .int 0])), (h2, .inr (7, [.ref g13, .ref g14, .ref g15, .ref g16, .ref g17, .ref g18, .ref g19, .ref g20, .ref g21, .int 1, .int 1, .int 0]))] := hD
  refine W.widen (k := 0) (n := 0) (Nat.le_of_ble_eq_true rfl) (Nat.le_of_ble_eq_true rfl) ?_
  refine pcn (b := 10) rfl ?_
  refine lv_icmp_lt (tgt := 15) hx hb dX11_writeText_10 (by decide) (fun _ => ?_) (fun h9 => absurd (by decide +kernel) h9)
  refine lv_aload_n hx hb dX11_writeText_15 rfl (lv_at hl 0 rfl) ?_
  refine va_get (D := D) (ci := 11) (v := .ref h1) (C := RX11) (T := TX11) (N := 11) hx hb hts inX11 hown hK hP 2 rfl rfl 4 (by decide) (hts _ wm_586) (fun _ h9 => h9) rfl dX11_writeText_16 ?_
  refine va_getN (D := D) (ci := 1) (v := .ref g8) (C := RX1) (T := TX1) (N := 12) hx hb hts inX1 hown hK hP 3 rfl rfl 1 (by decide) (va_Nw.use rfl (hnw _ wn_280)) (fun _ h9 => h9) rfl dX11_writeText_19 ?_
  refine lv_astore_n (lv' := [(3, .ref g8), (0, .ref h0), (1, .int 1), (2, .int 0)]) hx hb dX11_writeText_22 rfl hl (by decide) rfl (fun ls hl => ?_)
  refine lv_aload_n hx hb dX11_writeText_23 rfl (lv_at hl 1 rfl) ?_
  refine va_get (D := D) (ci := 11) (v := .ref h1) (C := RX11) (T := TX11) (N := 11) hx hb hts inX11 hown hK hP 2 rfl rfl 4 (by decide) (hts _ wm_586) (fun _ h9 => h9) rfl dX11_writeText_24 ?_
  refine va_getN (D := D) (ci := 1) (v := .ref g9) (C := RX1) (T := TX1) (N := 12) hx hb hts inX1 hown hK hP 3 rfl rfl 2 (by decide) (va_Nw.use rfl (hnw _ wn_284)) (fun _ h9 => h9) rfl dX11_writeText_27 ?_
  refine pcn (b := 30) rfl ?_
  refine lv_astore (lv' := [(4, .ref g9), (3, .ref g8), (0, .ref h0), (1, .int 1), (2, .int 0)]) hx hb dX11_writeText_30 hl (by decide) rfl (fun ls hl => ?_)
  refine lv_iload_n hx hb dX11_writeText_32 rfl (lv_at hl 3 rfl) ?_
  refine lv_tableIn (off := 77) (tgt := 110) hx hb dX11_writeText_33 (by decide +kernel) (by decide +kernel) (by decide +kernel) (by decide) ?_
  refine lv_aload_n hx hb dX11_writeText_110 rfl (lv_at hl 2 rfl) ?_
  refine va_get (D := D) (ci := 11) (v := .ref h4) (C := RX11) (T := TX11) (N := 11) hx hb hts inX11 hown hK hP 2 rfl rfl 7 (by decide) (hts _ wm_589) (fun _ h9 => h9) rfl dX11_writeText_111 ?_
  refine lv_aload_n hx hb dX11_writeText_114 rfl (lv_at hl 1 rfl) ?_
  refine lv_aload_n hx hb dX11_writeText_115 rfl (lv_at hl 2 rfl) ?_
  refine va_get (D := D) (ci := 11) (v := .ref h1) (C := RX11) (T := TX11) (N := 11) hx hb hts inX11 hown hK hP 2 rfl rfl 4 (by decide) (hts _ wm_586) (fun _ h9 => h9) rfl dX11_writeText_116 ?_
  refine va_getN (D := D) (ci := 1) (v := .ref h3) (C := RX1) (T := TX1) (N := 12) hx hb hts inX1 hown hK hP 3 rfl rfl 4 (by decide) (va_Nw.use rfl (hnw _ wn_289)) (fun _ h9 => h9) rfl dX11_writeText_119 ?_
  refine lv_iload_n hx hb dX11_writeText_122 rfl (lv_at hl 4 rfl) ?_
  refine pcn (b := 123) rfl ?_
  refine kSi (As := [.ref h3, .int 0]) (rest := [.ref g8, .ref h4]) (wr := [(h4, .inr (10, [.int 0, .int 0, .int (-4)])), (h0, .inr (11, [.ref g0, .int 0, .ref g1, .ref g2, .ref h1, .ref g3, .ref g4, .ref h4, .ref g5, .ref g6, .ref g7])), (h1, .inr (1, [.ref h2, .ref g8, .ref g9, .ref g10, .ref h3, .ref g11, .ref g12, .int 4, .int 3, .int 0, .int (-1), .int 0])), (h2, .inr (7, [.ref g13, .ref g14, .ref g15, .ref g16, .ref g17, .ref g18, .ref g19, .ref g20, .ref g21, .int 1, .int 1, .int 0]))]) hx hb hml hown hts hnw hK hP hD hS hA hl.1 (c_X11_at_9 l D cI cZ cB cJ h3) yk_X11_at wm_861 [0] [1, 2, 3, 4] rfl rfl (by decide) (by decide) (by decide) rfl rfl dX11_writeText_123 ⟨Nat.le_of_ble_eq_true rfl, Nat.le_of_ble_eq_true rfl⟩ ⟨Nat.le_of_ble_eq_true rfl, Nat.le_of_ble_eq_true rfl⟩ (Nat.le_of_ble_eq_true rfl) (fun r9 w1 H locs hq9 hP hD hS => ?_)
  obtain ⟨rfl, rfl⟩ := hq9
  have hP : va_P D vwCl [(h4, .inr (10, [.int 0, .int 0, .int (-4)])), (h0, .inr (11, [.ref g0, .int 0, .ref g1, .ref g2, .ref h1, .ref g3, .ref g4, .ref h4, .ref g5, .ref g6, .ref g7])), (h1, .inr (1, [.ref h2, .ref g8, .ref g9, .ref g10, .ref h3, .ref g11, .ref g12, .int 4, .int 3, .int 0, .int (-1), .int 0])), (h2, .inr (7, [.ref g13, .ref g14, .ref g15, .ref g16, .ref g17, .ref g18, .ref g19, .ref g20, .ref g21, .int 1, .int 1, .int 0])), (h3, .inl (cI, 60, .inl (upd (fun _ => 0) 0 1)))] H := hP
  have hD : va_D A [(h4, .inr (10, [.int 0, .int 0, .int (-4)])), (h0, .inr (11, [.ref g0, .int 0, .ref g1, .ref g2, .ref h1, .ref g3, .ref g4, .ref h4, .ref g5, .ref g6, .ref g7])), (h1, .inr (1, [.ref h2, .ref g8, .ref g9, .ref g10, .ref h3, .ref g11, .ref g12, .int 4, .int 3, .int 0, .int (-1), .int 0])), (h2, .inr (7, [.ref g13, .ref g14, .ref g15, .ref g16, .ref g17, .ref g18, .ref g19, .ref g20, .ref g21, .int 1, .int 1, .int 0])), (h3, .inl (cI, 60, .inl (upd (fun _ => 0) 0 1)))] := hD
  refine W.widen (k := 0) (n := 0) (Nat.le_of_ble_eq_true rfl) (Nat.le_of_ble_eq_true rfl) ?_
  refine pcn (b := 126) rfl ?_
  refine lv_bipush (v := 40) hx hb dX11_writeText_126 (by decide +kernel) ?_
  refine zVNv (As := [.ref g8, .int 1, .int 40]) (rest := []) (wr := [(h0, .inr (11, [.ref g0, .int 0, .ref g1, .ref g2, .ref h1, .ref g3, .ref g4, .ref h4, .ref g5, .ref g6, .ref g7])), (h1, .inr (1, [.ref h2, .ref g8, .ref g9, .ref g10, .ref h3, .ref g11, .ref g12, .int 4, .int 3, .int 0, .int (-1), .int 0])), (h2, .inr (7, [.ref g13, .ref g14, .ref g15, .ref g16, .ref g17, .ref g18, .ref g19, .ref g20, .ref g21, .int 1, .int 1, .int 0])), (h3, .inl (cI, 60, .inl (upd (fun _ => 0) 0 1)))]) hSX hx hb hml hown hts hnw hK hP hD hS hA hl.1 (c_X10_writeType_1 l D cI cZ cB cJ ak kv fo h4 g8) yk_X10_writeType wn_862 [0] [1, 2, 3, 4] rfl rfl (by decide) (by decide) (by decide) (rcv hK hP 0 rfl rfl rfl) rfl rfl dX11_writeText_128 ⟨Nat.le_of_ble_eq_true rfl, Nat.le_of_ble_eq_true rfl⟩ ⟨Nat.le_of_ble_eq_true rfl, Nat.le_of_ble_eq_true rfl⟩ (Nat.le_of_ble_eq_true rfl) (fun w1 H locs hq9 hP hD hS => ?_)
  obtain rfl := hq9
  have hP : va_P D vwCl [(h0, .inr (11, [.ref g0, .int 0, .ref g1, .ref g2, .ref h1, .ref g3, .ref g4, .ref h4, .ref g5, .ref g6, .ref g7])), (h1, .inr (1, [.ref h2, .ref g8, .ref g9, .ref g10, .ref h3, .ref g11, .ref g12, .int 4, .int 3, .int 0, .int (-1), .int 0])), (h2, .inr (7, [.ref g13, .ref g14, .ref g15, .ref g16, .ref g17, .ref g18, .ref g19, .ref g20, .ref g21, .int 1, .int 1, .int 0])), (h3, .inl (cI, 60, .inl (upd (fun _ => 0) 0 1))), (h4, .inr (10, [.int 0, .int 3, .int 105]))] H := hP
  have hD : va_D A [(h0, .inr (11, [.ref g0, .int 0, .ref g1, .ref g2, .ref h1, .ref g3, .ref g4, .ref h4, .ref g5, .ref g6, .ref g7])), (h1, .inr (1, [.ref h2, .ref g8, .ref g9, .ref g10, .ref h3, .ref g11, .ref g12, .int 4, .int 3, .int 0, .int (-1), .int 0])), (h2, .inr (7, [.ref g13, .ref g14, .ref g15, .ref g16, .ref g17, .ref g18, .ref g19, .ref g20, .ref g21, .int 1, .int 1, .int 0])), (h3, .inl (cI, 60, .inl (upd (fun _ => 0) 0 1))), (h4, .inr (10, [.int 0, .int 3, .int 105]))] := hD
  refine W.widen (k := 0) (n := 0) (Nat.le_of_ble_eq_true rfl) (Nat.le_of_ble_eq_true rfl) ?_
  refine pcn (b := 131) rfl ?_
  refine lv_goto (tgt := 300) hx hb dX11_writeText_131 (by decide) ?_
  refine lv_iconst (v := 1) hx hb dX11_writeText_300 (by decide +kernel) ?_
  refine W.widen (k := 0) (n := 0) (Nat.le_of_ble_eq_true rfl) (Nat.le_of_ble_eq_true rfl) ?_
  exact rtZ hx hb hr rfl hlocks hS hP hD ⟨rfl, rfl⟩ dX11_writeText_301

set_option maxHeartbeats 4000000 in
set_option maxRecDepth 100000 in
theorem c_X10_start_3 (l : Launch) (D : va_G) (cI cZ cB cJ : ClassId) (h0 : Nat) : CtV l D (TT cI cZ cB cJ) yX10_start cX10_start 2 none 0 0 0 0 [.ref h0, .int 1] [(h0, .inr (10, [.int 0, .int 0, .int 0]))] (fun w1 => w1 = [(h0, .inr (10, [.int 1, .int 0, .int (-4)]))]) := by
  refine CtV.of (by decide +kernel) (Nat.le_of_ble_eq_true rfl) ?_
  intro p e s m below meth c A ls hx hb hr hml hown hts hnw hlocks hin hA hS hP hK hD hl
  have hown : s.vm.findClass RX10 = some m.cls := hown
  have hl : lv_has ls 2 [(0, .ref h0), (1, .int 1)] := hl
  refine lv_aload_n hx hb dX10_start_0 rfl (lv_at hl 0 rfl) ?_
  refine lv_iload_n hx hb dX10_start_1 rfl (lv_at hl 1 rfl) ?_
  refine va_put (D := D) (ci := 10) (v := .int 1) (ty := .int) (C := RX10) (T := TX10) (N := 3) hx hb hts inX10 tyX10 tyX10_ok nmX10 hown hK hP hD hS 0 rfl rfl 0 (by decide) (hts _ wm_415) (fun _ h9 => h9) rfl (by decide +kernel) rfl rfl (Nat.le_of_ble_eq_true rfl) dX10_start_2 (fun H locs hP hD hS => ?_)
  have hP : va_P D vwCl [(h0, .inr (10, [.int 1, .int 0, .int 0]))] H := hP
  have hD : va_D A [(h0, .inr (10, [.int 1, .int 0, .int 0]))] := hD
  refine lv_aload_n hx hb dX10_start_5 rfl (lv_at hl 0 rfl) ?_
  refine lv_iconst (v := 0) hx hb dX10_start_6 (by decide +kernel) ?_
  refine va_put (D := D) (ci := 10) (v := .int 0) (ty := .int) (C := RX10) (T := TX10) (N := 3) hx hb hts inX10 tyX10 tyX10_ok nmX10 hown hK hP hD hS 0 rfl rfl 1 (by decide) (hts _ wm_416) (fun _ h9 => h9) rfl (by decide +kernel) rfl rfl (Nat.le_of_ble_eq_true rfl) dX10_start_7 (fun H locs hP hD hS => ?_)
  have hP : va_P D vwCl [(h0, .inr (10, [.int 1, .int 0, .int 0]))] H := hP
  have hD : va_D A [(h0, .inr (10, [.int 1, .int 0, .int 0]))] := hD
  refine lv_aload_n hx hb dX10_start_10 rfl (lv_at hl 0 rfl) ?_
  refine pcn (b := 11) rfl ?_
  refine lv_bipush (v := (-4)) hx hb dX10_start_11 (by decide +kernel) ?_
  refine va_put (D := D) (ci := 10) (v := .int (-4)) (ty := .int) (C := RX10) (T := TX10) (N := 3) hx hb hts inX10 tyX10 tyX10_ok nmX10 hown hK hP hD hS 0 rfl rfl 2 (by decide) (hts _ wm_418) (fun _ h9 => h9) rfl (by decide +kernel) rfl rfl (Nat.le_of_ble_eq_true rfl) dX10_start_13 (fun H locs hP hD hS => ?_)
  have hP : va_P D vwCl [(h0, .inr (10, [.int 1, .int 0, .int (-4)]))] H := hP
  have hD : va_D A [(h0, .inr (10, [.int 1, .int 0, .int (-4)]))] := hD
  refine W.widen (k := 0) (n := 0) (Nat.le_of_ble_eq_true rfl) (Nat.le_of_ble_eq_true rfl) ?_
  exact rtV hx hb hr hlocks hS hP hD rfl dX10_start_16

set_option maxHeartbeats 4000000 in
set_option maxRecDepth 100000 in
theorem c_X10_sign_6 (l : Launch) (D : va_G) (cI cZ cB cJ : ClassId) (h0 : Nat) : CtV l D (TT cI cZ cB cJ) yX10_sign cX10_sign 2 none 0 0 0 0 [.ref h0, .int 105] [(h0, .inr (10, [.int 1, .int 0, .int (-4)]))] (fun w1 => w1 = [(h0, .inr (10, [.int 1, .int 1, .int (-4)]))]) := by
  refine CtV.of (by decide +kernel) (Nat.le_of_ble_eq_true rfl) ?_
  intro p e s m below meth c A ls hx hb hr hml hown hts hnw hlocks hin hA hS hP hK hD hl
  have hown : s.vm.findClass RX10 = some m.cls := hown
  have hl : lv_has ls 2 [(0, .ref h0), (1, .int 105)] := hl
  refine lv_aload_n hx hb dX10_sign_0 rfl (lv_at hl 0 rfl) ?_
  refine va_get (D := D) (ci := 10) (v := .int 0) (C := RX10) (T := TX10) (N := 3) hx hb hts inX10 hown hK hP 0 rfl rfl 1 (by decide) (hts _ wm_416) (fun _ h9 => h9) rfl dX10_sign_1 ?_
  refine lv_sipush (v := 3000) hx hb dX10_sign_4 (by decide +kernel) ?_
  refine lv_icmp_lt (tgt := 11) hx hb dX10_sign_7 (by decide) (fun _ => ?_) (fun h9 => absurd (by decide +kernel) h9)
  refine lv_aload_n hx hb dX10_sign_11 rfl (lv_at hl 0 rfl) ?_
  refine va_get (D := D) (ci := 10) (v := .int 0) (C := RX10) (T := TX10) (N := 3) hx hb hts inX10 hown hK hP 0 rfl rfl 1 (by decide) (hts _ wm_416) (fun _ h9 => h9) rfl dX10_sign_12 ?_
  refine lv_aload_n hx hb dX10_sign_15 rfl (lv_at hl 0 rfl) ?_
  refine va_get (D := D) (ci := 10) (v := .int 1) (C := RX10) (T := TX10) (N := 3) hx hb hts inX10 hown hK hP 0 rfl rfl 0 (by decide) (hts _ wm_415) (fun _ h9 => h9) rfl dX10_sign_16 ?_
  refine lv_icmp_ne (tgt := 27) hx hb dX10_sign_19 (by decide) (fun _ => ?_) (fun h9 => absurd h9 (by decide +kernel))
  refine lv_aload_n hx hb dX10_sign_27 rfl (lv_at hl 0 rfl) ?_
  refine lv_dup hx hb dX10_sign_28 rfl ?_
  refine va_get (D := D) (ci := 10) (v := .int 0) (C := RX10) (T := TX10) (N := 3) hx hb hts inX10 hown hK hP 0 rfl rfl 1 (by decide) (hts _ wm_416) (fun _ h9 => h9) rfl dX10_sign_29 ?_
  refine lv_iconst (v := 1) hx hb dX10_sign_32 (by decide +kernel) ?_
  refine lv_iadd hx hb dX10_sign_33 ?_
  refine nrm (y := 1) (by decide +kernel) ?_
  refine va_put (D := D) (ci := 10) (v := .int 1) (ty := .int) (C := RX10) (T := TX10) (N := 3) hx hb hts inX10 tyX10 tyX10_ok nmX10 hown hK hP hD hS 0 rfl rfl 1 (by decide) (hts _ wm_416) (fun _ h9 => h9) rfl (by decide +kernel) rfl rfl (Nat.le_of_ble_eq_true rfl) dX10_sign_34 (fun H locs hP hD hS => ?_)
  have hP : va_P D vwCl [(h0, .inr (10, [.int 1, .int 1, .int (-4)]))] H := hP
  have hD : va_D A [(h0, .inr (10, [.int 1, .int 1, .int (-4)]))] := hD
  refine W.widen (k := 0) (n := 0) (Nat.le_of_ble_eq_true rfl) (Nat.le_of_ble_eq_true rfl) ?_
  exact rtV hx hb hr hlocks hS hP hD rfl dX10_sign_37

set_option maxHeartbeats 4000000 in
set_option maxRecDepth 100000 in
theorem c_X10_sign_7 (l : Launch) (D : va_G) (cI cZ cB cJ : ClassId) (h0 : Nat) : CtV l D (TT cI cZ cB cJ) yX10_sign cX10_sign 2 none 0 0 0 0 [.ref h0, .int 110] [(h0, .inr (10, [.int 1, .int 1, .int (-4)]))] (fun w1 => w1 = [(h0, .inr (10, [.int 1, .int 2, .int 110]))]) := by
  refine CtV.of (by decide +kernel) (Nat.le_of_ble_eq_true rfl) ?_
  intro p e s m below meth c A ls hx hb hr hml hown hts hnw hlocks hin hA hS hP hK hD hl
  have hown : s.vm.findClass RX10 = some m.cls := hown
  have hl : lv_has ls 2 [(0, .ref h0), (1, .int 110)] := hl
  refine lv_aload_n hx hb dX10_sign_0 rfl (lv_at hl 0 rfl) ?_
  refine va_get (D := D) (ci := 10) (v := .int 1) (C := RX10) (T := TX10) (N := 3) hx hb hts inX10 hown hK hP 0 rfl rfl 1 (by decide) (hts _ wm_416) (fun _ h9 => h9) rfl dX10_sign_1 ?_
  refine lv_sipush (v := 3000) hx hb dX10_sign_4 (by decide +kernel) ?_
  refine lv_icmp_lt (tgt := 11) hx hb dX10_sign_7 (by decide) (fun _ => ?_) (fun h9 => absurd (by decide +kernel) h9)
  refine lv_aload_n hx hb dX10_sign_11 rfl (lv_at hl 0 rfl) ?_
  refine va_get (D := D) (ci := 10) (v := .int 1) (C := RX10) (T := TX10) (N := 3) hx hb hts inX10 hown hK hP 0 rfl rfl 1 (by decide) (hts _ wm_416) (fun _ h9 => h9) rfl dX10_sign_12 ?_
  refine lv_aload_n hx hb dX10_sign_15 rfl (lv_at hl 0 rfl) ?_
  refine va_get (D := D) (ci := 10) (v := .int 1) (C := RX10) (T := TX10) (N := 3) hx hb hts inX10 hown hK hP 0 rfl rfl 0 (by decide) (hts _ wm_415) (fun _ h9 => h9) rfl dX10_sign_16 ?_
  refine lv_icmp_ne (tgt := 27) hx hb dX10_sign_19 (by decide) (fun h9 => absurd (by decide +kernel) h9) (fun _ => ?_)
  refine lv_aload_n hx hb dX10_sign_22 rfl (lv_at hl 0 rfl) ?_
  refine lv_iload_n hx hb dX10_sign_23 rfl (lv_at hl 1 rfl) ?_
  refine pcn (b := 24) rfl ?_
  refine va_put (D := D) (ci := 10) (v := .int 110) (ty := .int) (C := RX10) (T := TX10) (N := 3) hx hb hts inX10 tyX10 tyX10_ok nmX10 hown hK hP hD hS 0 rfl rfl 2 (by decide) (hts _ wm_418) (fun _ h9 => h9) rfl (by decide +kernel) rfl rfl (Nat.le_of_ble_eq_true rfl) dX10_sign_24 (fun H locs hP hD hS => ?_)
  have hP : va_P D vwCl [(h0, .inr (10, [.int 1, .int 1, .int 110]))] H := hP
  have hD : va_D A [(h0, .inr (10, [.int 1, .int 1, .int 110]))] := hD
  refine lv_aload_n hx hb dX10_sign_27 rfl (lv_at hl 0 rfl) ?_
  refine lv_dup hx hb dX10_sign_28 rfl ?_
  refine va_get (D := D) (ci := 10) (v := .int 1) (C := RX10) (T := TX10) (N := 3) hx hb hts inX10 hown hK hP 0 rfl rfl 1 (by decide) (hts _ wm_416) (fun _ h9 => h9) rfl dX10_sign_29 ?_
  refine lv_iconst (v := 1) hx hb dX10_sign_32 (by decide +kernel) ?_
  refine lv_iadd hx hb dX10_sign_33 ?_
  refine nrm (y := 2) (by decide +kernel) ?_
  refine va_put (D := D) (ci := 10) (v := .int 2) (ty := .int) (C := RX10) (T := TX10) (N := 3) hx hb hts inX10 tyX10 tyX10_ok nmX10 hown hK hP hD hS 0 rfl rfl 1 (by decide) (hts _ wm_416) (fun _ h9 => h9) rfl (by decide +kernel) rfl rfl (Nat.le_of_ble_eq_true rfl) dX10_sign_34 (fun H locs hP hD hS => ?_)
  have hP : va_P D vwCl [(h0, .inr (10, [.int 1, .int 2, .int 110]))] H := hP
  have hD : va_D A [(h0, .inr (10, [.int 1, .int 2, .int 110]))] := hD
  refine W.widen (k := 0) (n := 0) (Nat.le_of_ble_eq_true rfl) (Nat.le_of_ble_eq_true rfl) ?_
  exact rtV hx hb hr hlocks hS hP hD rfl dX10_sign_37

set_option maxHeartbeats 4000000 in
set_option maxRecDepth 100000 in
theorem c_X10_sign_8 (l : Launch) (D : va_G) (cI cZ cB cJ : ClassId) (h0 : Nat) : CtV l D (TT cI cZ cB cJ) yX10_sign cX10_sign 2 none 0 0 0 0 [.ref h0, .int 116] [(h0, .inr (10, [.int 1, .int 2, .int 110]))] (fun w1 => w1 = [(h0, .inr (10, [.int 1, .int 3, .int 110]))]) := by
  refine CtV.of (by decide +kernel) (Nat.le_of_ble_eq_true rfl) ?_
  intro p e s m below meth c A ls hx hb hr hml hown hts hnw hlocks hin hA hS hP hK hD hl
  have hown : s.vm.findClass RX10 = some m.cls := hown
  have hl : lv_has ls 2 [(0, .ref h0), (1, .int 116)] := hl
  refine lv_aload_n hx hb dX10_sign_0 rfl (lv_at hl 0 rfl) ?_
  refine va_get (D := D) (ci := 10) (v := .int 2) (C := RX10) (T := TX10) (N := 3) hx hb hts inX10 hown hK hP 0 rfl rfl 1 (by decide) (hts _ wm_416) (fun _ h9 => h9) rfl dX10_sign_1 ?_
  refine lv_sipush (v := 3000) hx hb dX10_sign_4 (by decide +kernel) ?_
  refine lv_icmp_lt (tgt := 11) hx hb dX10_sign_7 (by decide) (fun _ => ?_) (fun h9 => absurd (by decide +kernel) h9)
  refine lv_aload_n hx hb dX10_sign_11 rfl (lv_at hl 0 rfl) ?_
  refine va_get (D := D) (ci := 10) (v := .int 2) (C := RX10) (T := TX10) (N := 3) hx hb hts inX10 hown hK hP 0 rfl rfl 1 (by decide) (hts _ wm_416) (fun _ h9 => h9) rfl dX10_sign_12 ?_
  refine lv_aload_n hx hb dX10_sign_15 rfl (lv_at hl 0 rfl) ?_
  refine va_get (D := D) (ci := 10) (v := .int 1) (C := RX10) (T := TX10) (N := 3) hx hb hts inX10 hown hK hP 0 rfl rfl 0 (by decide) (hts _ wm_415) (fun _ h9 => h9) rfl dX10_sign_16 ?_
  refine lv_icmp_ne (tgt := 27) hx hb dX10_sign_19 (by decide) (fun _ => ?_) (fun h9 => absurd h9 (by decide +kernel))
  refine lv_aload_n hx hb dX10_sign_27 rfl (lv_at hl 0 rfl) ?_
  refine lv_dup hx hb dX10_sign_28 rfl ?_
  refine va_get (D := D) (ci := 10) (v := .int 2) (C := RX10) (T := TX10) (N := 3) hx hb hts inX10 hown hK hP 0 rfl rfl 1 (by decide) (hts _ wm_416) (fun _ h9 => h9) rfl dX10_sign_29 ?_
  refine lv_iconst (v := 1) hx hb dX10_sign_32 (by decide +kernel) ?_
  refine lv_iadd hx hb dX10_sign_33 ?_
  refine nrm (y := 3) (by decide +kernel) ?_
  refine va_put (D := D) (ci := 10) (v := .int 3) (ty := .int) (C := RX10) (T := TX10) (N := 3) hx hb hts inX10 tyX10 tyX10_ok nmX10 hown hK hP hD hS 0 rfl rfl 1 (by decide) (hts _ wm_416) (fun _ h9 => h9) rfl (by decide +kernel) rfl rfl (Nat.le_of_ble_eq_true rfl) dX10_sign_34 (fun H locs hP hD hS => ?_)
  have hP : va_P D vwCl [(h0, .inr (10, [.int 1, .int 3, .int 110]))] H := hP
  have hD : va_D A [(h0, .inr (10, [.int 1, .int 3, .int 110]))] := hD
  refine W.widen (k := 0) (n := 0) (Nat.le_of_ble_eq_true rfl) (Nat.le_of_ble_eq_true rfl) ?_
  exact rtV hx hb hr hlocks hS hP hD rfl dX10_sign_37

set_option maxHeartbeats 4000000 in
set_option maxRecDepth 100000 in
theorem c_X10_word_2 (l : Launch) (D : va_G) (cI cZ cB cJ : ClassId) (ak kv : Nat) (fo : Option Nat) (h0 : Nat) : CtVS ak kv fo l D (TT cI cZ cB cJ) yX10_word cX10_word 3 none 4 85 0 0 [.ref h0, .ref ak] [(h0, .inr (10, [.int 1, .int 0, .int (-4)]))] (fun w1 => w1 = [(h0, .inr (10, [.int 1, .int 3, .int 110]))]) := by
  refine CtVS.of (by decide +kernel) (Nat.le_of_ble_eq_true rfl) ?_
  intro p e s m below meth c A ls hSX hx hb hr hml hown hts hnw hlocks hin hA hS hP hK hD hl
  have hown : s.vm.findClass RX10 = some m.cls := hown
  have hl : lv_has ls 3 [(0, .ref h0), (1, .ref ak)] := hl
  refine lv_iconst (v := 0) hx hb dX10_word_0 (by decide +kernel) ?_
  refine lv_istore_n (lv' := [(2, .int 0), (0, .ref h0), (1, .ref ak)]) hx hb dX10_word_1 rfl hl (by decide) rfl (fun ls hl => ?_)
  refine lv_iload_n hx hb dX10_word_2 rfl (lv_at hl 0 rfl) ?_
  refine lv_aload_n hx hb dX10_word_3 rfl (lv_at hl 2 rfl) ?_
  refine zVi (As := []) (rest := [.int 0]) (wr := [(h0, .inr (10, [.int 1, .int 0, .int (-4)]))]) hSX hx hb hml hown hts hnw hK hP hD hS hA hl.1 (c_length l D cI cZ cB cJ ak kv fo) yk_J0_length_8abf5 wm_875 [] [0] rfl rfl (by decide) (by decide) (by decide) (hSX.recv hS) rfl rfl dX10_word_4 ⟨Nat.le_of_ble_eq_true rfl, Nat.le_of_ble_eq_true rfl⟩ ⟨Nat.le_of_ble_eq_true rfl, Nat.le_of_ble_eq_true rfl⟩ (Nat.le_of_ble_eq_true rfl) (fun r9 w1 H locs hq9 hP hD hS => ?_)
  obtain ⟨rfl, rfl⟩ := hq9
  have hP : va_P D vwCl [(h0, .inr (10, [.int 1, .int 0, .int (-4)]))] H := hP
  have hD : va_D A [(h0, .inr (10, [.int 1, .int 0, .int (-4)]))] := hD
  refine W.widen (k := 0) (n := 0) (Nat.le_of_ble_eq_true rfl) (Nat.le_of_ble_eq_true rfl) ?_
  refine pcn (b := 7) rfl ?_
  refine lv_icmp_ge (tgt := 25) hx hb dX10_word_7 (by decide) (fun h9 => absurd h9 (by decide +kernel)) (fun _ => ?_)
  refine lv_aload_n hx hb dX10_word_10 rfl (lv_at hl 1 rfl) ?_
  refine lv_aload_n hx hb dX10_word_11 rfl (lv_at hl 2 rfl) ?_
  refine lv_iload_n hx hb dX10_word_12 rfl (lv_at hl 0 rfl) ?_
  refine zVi (As := [.int 0]) (rest := [.ref h0]) (wr := [(h0, .inr (10, [.int 1, .int 0, .int (-4)]))]) hSX hx hb hml hown hts hnw hK hP hD hS hA hl.1 (c_charAt0 l D cI cZ cB cJ ak kv fo) yk_J0_charAt_5068e wm_885 [] [0] rfl rfl (by decide) (by decide) (by decide) (hSX.recv hS) rfl rfl dX10_word_13 ⟨Nat.le_of_ble_eq_true rfl, Nat.le_of_ble_eq_true rfl⟩ ⟨Nat.le_of_ble_eq_true rfl, Nat.le_of_ble_eq_true rfl⟩ (Nat.le_of_ble_eq_true rfl) (fun r9 w1 H locs hq9 hP hD hS => ?_)
  obtain ⟨rfl, rfl⟩ := hq9
  have hP : va_P D vwCl [(h0, .inr (10, [.int 1, .int 0, .int (-4)]))] H := hP
  have hD : va_D A [(h0, .inr (10, [.int 1, .int 0, .int (-4)]))] := hD
  refine W.widen (k := 0) (n := 0) (Nat.le_of_ble_eq_true rfl) (Nat.le_of_ble_eq_true rfl) ?_
  refine pcn (b := 16) rfl ?_
  refine kVv (As := [.int 105]) (rest := []) (wr := []) hx hb hml hown hts hnw hK hP hD hS hA hl.1 (c_X10_sign_6 l D cI cZ cB cJ h0) yk_X10_sign wm_866 [0] [] rfl rfl (by decide) (by decide) (by decide) 0 rfl rfl rfl rfl rfl dX10_word_16 ⟨Nat.le_of_ble_eq_true rfl, Nat.le_of_ble_eq_true rfl⟩ ⟨Nat.le_of_ble_eq_true rfl, Nat.le_of_ble_eq_true rfl⟩ (Nat.le_of_ble_eq_true rfl) (fun w1 H locs hq9 hP hD hS => ?_)
  obtain rfl := hq9
  have hP : va_P D vwCl [(h0, .inr (10, [.int 1, .int 1, .int (-4)]))] H := hP
  have hD : va_D A [(h0, .inr (10, [.int 1, .int 1, .int (-4)]))] := hD
  refine W.widen (k := 0) (n := 0) (Nat.le_of_ble_eq_true rfl) (Nat.le_of_ble_eq_true rfl) ?_
  refine pcn (b := 19) rfl ?_
  refine lv_iinc (v := 1) (lv' := [(2, .int 1), (0, .ref h0), (1, .ref ak)]) hx hb dX10_word_19 hl (k := 0) rfl (by decide +kernel) (by decide) rfl (fun ls hl => ?_)
  refine lv_goto (tgt := 2) hx hb dX10_word_22 (by decide) ?_
  refine lv_iload_n hx hb dX10_word_2 rfl (lv_at hl 0 rfl) ?_
  refine lv_aload_n hx hb dX10_word_3 rfl (lv_at hl 2 rfl) ?_
  refine zVi (As := []) (rest := [.int 1]) (wr := [(h0, .inr (10, [.int 1, .int 1, .int (-4)]))]) hSX hx hb hml hown hts hnw hK hP hD hS hA hl.1 (c_length l D cI cZ cB cJ ak kv fo) yk_J0_length_8abf5 wm_875 [] [0] rfl rfl (by decide) (by decide) (by decide) (hSX.recv hS) rfl rfl dX10_word_4 ⟨Nat.le_of_ble_eq_true rfl, Nat.le_of_ble_eq_true rfl⟩ ⟨Nat.le_of_ble_eq_true rfl, Nat.le_of_ble_eq_true rfl⟩ (Nat.le_of_ble_eq_true rfl) (fun r9 w1 H locs hq9 hP hD hS => ?_)
  obtain ⟨rfl, rfl⟩ := hq9
  have hP : va_P D vwCl [(h0, .inr (10, [.int 1, .int 1, .int (-4)]))] H := hP
  have hD : va_D A [(h0, .inr (10, [.int 1, .int 1, .int (-4)]))] := hD
  refine W.widen (k := 0) (n := 0) (Nat.le_of_ble_eq_true rfl) (Nat.le_of_ble_eq_true rfl) ?_
  refine pcn (b := 7) rfl ?_
  refine lv_icmp_ge (tgt := 25) hx hb dX10_word_7 (by decide) (fun h9 => absurd h9 (by decide +kernel)) (fun _ => ?_)
  refine lv_aload_n hx hb dX10_word_10 rfl (lv_at hl 1 rfl) ?_
  refine lv_aload_n hx hb dX10_word_11 rfl (lv_at hl 2 rfl) ?_
  refine lv_iload_n hx hb dX10_word_12 rfl (lv_at hl 0 rfl) ?_
  refine zVi (As := [.int 1]) (rest := [.ref h0]) (wr := [(h0, .inr (10, [.int 1, .int 1, .int (-4)]))]) hSX hx hb hml hown hts hnw hK hP hD hS hA hl.1 (c_charAt1 l D cI cZ cB cJ ak kv fo) yk_J0_charAt_5068e wm_885 [] [0] rfl rfl (by decide) (by decide) (by decide) (hSX.recv hS) rfl rfl dX10_word_13 ⟨Nat.le_of_ble_eq_true rfl, Nat.le_of_ble_eq_true rfl⟩ ⟨Nat.le_of_ble_eq_true rfl, Nat.le_of_ble_eq_true rfl⟩ (Nat.le_of_ble_eq_true rfl) (fun r9 w1 H locs hq9 hP hD hS => ?_)
  obtain ⟨rfl, rfl⟩ := hq9
  have hP : va_P D vwCl [(h0, .inr (10, [.int 1, .int 1, .int (-4)]))] H := hP
  have hD : va_D A [(h0, .inr (10, [.int 1, .int 1, .int (-4)]))] := hD
  refine W.widen (k := 0) (n := 0) (Nat.le_of_ble_eq_true rfl) (Nat.le_of_ble_eq_true rfl) ?_
  refine pcn (b := 16) rfl ?_
  refine kVv (As := [.int 110]) (rest := []) (wr := []) hx hb hml hown hts hnw hK hP hD hS hA hl.1 (c_X10_sign_7 l D cI cZ cB cJ h0) yk_X10_sign wm_866 [0] [] rfl rfl (by decide) (by decide) (by decide) 0 rfl rfl rfl rfl rfl dX10_word_16 ⟨Nat.le_of_ble_eq_true rfl, Nat.le_of_ble_eq_true rfl⟩ ⟨Nat.le_of_ble_eq_true rfl, Nat.le_of_ble_eq_true rfl⟩ (Nat.le_of_ble_eq_true rfl) (fun w1 H locs hq9 hP hD hS => ?_)
  obtain rfl := hq9
  have hP : va_P D vwCl [(h0, .inr (10, [.int 1, .int 2, .int 110]))] H := hP
  have hD : va_D A [(h0, .inr (10, [.int 1, .int 2, .int 110]))] := hD
  refine W.widen (k := 0) (n := 0) (Nat.le_of_ble_eq_true rfl) (Nat.le_of_ble_eq_true rfl) ?_
  refine pcn (b := 19) rfl ?_
  refine lv_iinc (v := 2) (lv' := [(2, .int 2), (0, .ref h0), (1, .ref ak)]) hx hb dX10_word_19 hl (k := 0) rfl (by decide +kernel) (by decide) rfl (fun ls hl => ?_)
  refine lv_goto (tgt := 2) hx hb dX10_word_22 (by decide) ?_
  refine lv_iload_n hx hb dX10_word_2 rfl (lv_at hl 0 rfl) ?_
  refine lv_aload_n hx hb dX10_word_3 rfl (lv_at hl 2 rfl) ?_
  refine zVi (As := []) (rest := [.int 2]) (wr := [(h0, .inr (10, [.int 1, .int 2, .int 110]))]) hSX hx hb hml hown hts hnw hK hP hD hS hA hl.1 (c_length l D cI cZ cB cJ ak kv fo) yk_J0_length_8abf5 wm_875 [] [0] rfl rfl (by decide) (by decide) (by decide) (hSX.recv hS) rfl rfl dX10_word_4 ⟨Nat.le_of_ble_eq_true rfl, Nat.le_of_ble_eq_true rfl⟩ ⟨Nat.le_of_ble_eq_true rfl, Nat.le_of_ble_eq_true rfl⟩ (Nat.le_of_ble_eq_true rfl) (fun r9 w1 H locs hq9 hP hD hS => ?_)
  obtain ⟨rfl, rfl⟩ := hq9
  have hP : va_P D vwCl [(h0, .inr (10, [.int 1, .int 2, .int 110]))] H := hP
  have hD : va_D A [(h0, .inr (10, [.int 1, .int 2, .int 110]))] := hD
  refine W.widen (k := 0) (n := 0) (Nat.le_of_ble_eq_true rfl) (Nat.le_of_ble_eq_true rfl) ?_
  refine pcn (b := 7) rfl ?_
  refine lv_icmp_ge (tgt := 25) hx hb dX10_word_7 (by decide) (fun h9 => absurd h9 (by decide +kernel)) (fun _ => ?_)
  refine lv_aload_n hx hb dX10_word_10 rfl (lv_at hl 1 rfl) ?_
  refine lv_aload_n hx hb dX10_word_11 rfl (lv_at hl 2 rfl) ?_
  refine lv_iload_n hx hb dX10_word_12 rfl (lv_at hl 0 rfl) ?_
  refine zVi (As := [.int 2]) (rest := [.ref h0]) (wr := [(h0, .inr (10, [.int 1, .int 2, .int 110]))]) hSX hx hb hml hown hts hnw hK hP hD hS hA hl.1 (c_charAt2 l D cI cZ cB cJ ak kv fo) yk_J0_charAt_5068e wm_885 [] [0] rfl rfl (by decide) (by decide) (by decide) (hSX.recv hS) rfl rfl dX10_word_13 ⟨Nat.le_of_ble_eq_true rfl, Nat.le_of_ble_eq_true rfl⟩ ⟨Nat.le_of_ble_eq_true rfl, Nat.le_of_ble_eq_true rfl⟩ (Nat.le_of_ble_eq_true rfl) (fun r9 w1 H locs hq9 hP hD hS => ?_)
  obtain ⟨rfl, rfl⟩ := hq9
  have hP : va_P D vwCl [(h0, .inr (10, [.int 1, .int 2, .int 110]))] H := hP
  have hD : va_D A [(h0, .inr (10, [.int 1, .int 2, .int 110]))] := hD
  refine W.widen (k := 0) (n := 0) (Nat.le_of_ble_eq_true rfl) (Nat.le_of_ble_eq_true rfl) ?_
  refine pcn (b := 16) rfl ?_
  refine kVv (As := [.int 116]) (rest := []) (wr := []) hx hb hml hown hts hnw hK hP hD hS hA hl.1 (c_X10_sign_8 l D cI cZ cB cJ h0) yk_X10_sign wm_866 [0] [] rfl rfl (by decide) (by decide) (by decide) 0 rfl rfl rfl rfl rfl dX10_word_16 ⟨Nat.le_of_ble_eq_true rfl, Nat.le_of_ble_eq_true rfl⟩ ⟨Nat.le_of_ble_eq_true rfl, Nat.le_of_ble_eq_true rfl⟩ (Nat.le_of_ble_eq_true rfl) (fun w1 H locs hq9 hP hD hS => ?_)
  obtain rfl := hq9
  have hP : va_P D vwCl [(h0, .inr (10, [.int 1, .int 3, .int 110]))] H := hP
  have hD : va_D A [(h0, .inr (10, [.int 1, .int 3, .int 110]))] := hD
  refine W.widen (k := 0) (n := 0) (Nat.le_of_ble_eq_true rfl) (Nat.le_of_ble_eq_true rfl) ?_
  refine pcn (b := 19) rfl ?_
  refine lv_iinc (v := 3) (lv' := [(2, .int 3), (0, .ref h0), (1, .ref ak)]) hx hb dX10_word_19 hl (k := 0) rfl (by decide +kernel) (by decide) rfl (fun ls hl => ?_)
  refine lv_goto (tgt := 2) hx hb dX10_word_22 (by decide) ?_
  refine lv_iload_n hx hb dX10_word_2 rfl (lv_at hl 0 rfl) ?_
  refine lv_aload_n hx hb dX10_word_3 rfl (lv_at hl 2 rfl) ?_
  refine zVi (As := []) (rest := [.int 3]) (wr := [(h0, .inr (10, [.int 1, .int 3, .int 110]))]) hSX hx hb hml hown hts hnw hK hP hD hS hA hl.1 (c_length l D cI cZ cB cJ ak kv fo) yk_J0_length_8abf5 wm_875 [] [0] rfl rfl (by decide) (by decide) (by decide) (hSX.recv hS) rfl rfl dX10_word_4 ⟨Nat.le_of_ble_eq_true rfl, Nat.le_of_ble_eq_true rfl⟩ ⟨Nat.le_of_ble_eq_true rfl, Nat.le_of_ble_eq_true rfl⟩ (Nat.le_of_ble_eq_true rfl) (fun r9 w1 H locs hq9 hP hD hS => ?_)
  obtain ⟨rfl, rfl⟩ := hq9
  have hP : va_P D vwCl [(h0, .inr (10, [.int 1, .int 3, .int 110]))] H := hP
  have hD : va_D A [(h0, .inr (10, [.int 1, .int 3, .int 110]))] := hD
  refine W.widen (k := 0) (n := 0) (Nat.le_of_ble_eq_true rfl) (Nat.le_of_ble_eq_true rfl) ?_
  refine pcn (b := 7) rfl ?_
  refine lv_icmp_ge (tgt := 25) hx hb dX10_word_7 (by decide) (fun _ => ?_) (fun h9 => absurd (by decide +kernel) h9)
  refine W.widen (k := 0) (n := 0) (Nat.le_of_ble_eq_true rfl) (Nat.le_of_ble_eq_true rfl) ?_
  exact rtV hx hb hr hlocks hS hP hD rfl dX10_word_25

set_option maxHeartbeats 4000000 in
set_option maxRecDepth 100000 in
theorem c_X10_writeType_2 (l : Launch) (D : va_G) (cI cZ cB cJ : ClassId) (ak kv : Nat) (fo : Option Nat) (h0 g0 : Nat) : CtVS ak kv fo l D (TT cI cZ cB cJ) yX10_writeType cX10_writeType 4 none 5 107 0 0 [.ref h0, .ref g0, .int 1, .int 40] [(h0, .inr (10, [.int 1, .int 0, .int (-4)]))] (fun w1 => w1 = [(h0, .inr (10, [.int 1, .int 3, .int 110]))]) := by
  refine CtVS.of (by decide +kernel) (Nat.le_of_ble_eq_true rfl) ?_
  intro p e s m below meth c A ls hSX hx hb hr hml hown hts hnw hlocks hin hA hS hP hK hD hl
  have hown : s.vm.findClass RX10 = some m.cls := hown
  have hl : lv_has ls 4 [(0, .ref h0), (1, .ref g0), (2, .int 1), (3, .int 40)] := hl
  refine lv_iload_n hx hb dX10_writeType_0 rfl (lv_at hl 3 rfl) ?_
  refine lv_if_gt (tgt := 5) hx hb dX10_writeType_1 (by decide) (fun _ => ?_) (fun h9 => absurd (by decide +kernel) h9)
  refine lv_iload_n hx hb dX10_writeType_5 rfl (lv_at hl 2 rfl) ?_
  refine lv_if_ne (tgt := 18) hx hb dX10_writeType_6 (by decide) (fun _ => ?_) (fun h9 => absurd h9 (by decide +kernel))
  refine lv_iload_n hx hb dX10_writeType_18 rfl (lv_at hl 2 rfl) ?_
  refine lv_iconst (v := 1) hx hb dX10_writeType_19 (by decide +kernel) ?_
  refine lv_icmp_ne (tgt := 32) hx hb dX10_writeType_20 (by decide) (fun h9 => absurd (by decide +kernel) h9) (fun _ => ?_)
  refine lv_aload_n hx hb dX10_writeType_23 rfl (lv_at hl 0 rfl) ?_
  refine va_ldcS hx hb hown hSX.1 dX10_writeType_24 ?_
  refine zVv (As := [.ref ak]) (rest := []) (wr := []) hSX hx hb hml hown hts hnw hK hP hD hS hA hl.1 (c_X10_word_2 l D cI cZ cB cJ ak kv fo h0) yk_X10_word wm_871 [0] [] rfl rfl (by decide) (by decide) (by decide) (rcv hK hP 0 rfl rfl rfl) rfl rfl dX10_writeType_26 ⟨Nat.le_of_ble_eq_true rfl, Nat.le_of_ble_eq_true rfl⟩ ⟨Nat.le_of_ble_eq_true rfl, Nat.le_of_ble_eq_true rfl⟩ (Nat.le_of_ble_eq_true rfl) (fun w1 H locs hq9 hP hD hS => ?_)
  obtain rfl := hq9
  have hP : va_P D vwCl [(h0, .inr (10, [.int 1, .int 3, .int 110]))] H := hP
  have hD : va_D A [(h0, .inr (10, [.int 1, .int 3, .int 110]))] := hD
  refine W.widen (k := 0) (n := 0) (Nat.le_of_ble_eq_true rfl) (Nat.le_of_ble_eq_true rfl) ?_
  refine pcn (b := 29) rfl ?_
  refine lv_goto (tgt := 90) hx hb dX10_writeType_29 (by decide) ?_
  refine W.widen (k := 0) (n := 0) (Nat.le_of_ble_eq_true rfl) (Nat.le_of_ble_eq_true rfl) ?_
  exact rtV hx hb hr hlocks hS hP hD rfl dX10_writeType_90

set_option maxHeartbeats 4000000 in
set_option maxRecDepth 100000 in
theorem c_X11_writeText_9 (l : Launch) (D : va_G) (cI cZ cB cJ : ClassId) (ak kv : Nat) (fo : Option Nat) (h0 h1 h2 h3 h4 g0 g1 g2 g3 g4 g5 g6 g7 g8 g9 g10 g11 g12 g13 g14 g15 g16 g17 g18 g19 g20 g21 : Nat) : CtIS ak kv fo l D (TT cI cZ cB cJ) yX11_writeText cX11_writeText 5 (some .boolean) 6 130 0 0 [.ref h0, .int 1, .int 0] [(h0, .inr (11, [.ref g0, .int 0, .ref g1, .ref g2, .ref h1, .ref g3, .ref g4, .ref h4, .ref g5, .ref g6, .ref g7])), (h1, .inr (1, [.ref h2, .ref g8, .ref g9, .ref g10, .ref h3, .ref g11, .ref g12, .int 4, .int 3, .int 0, .int (-1), .int 0])), (h2, .inr (7, [.ref g13, .ref g14, .ref g15, .ref g16, .ref g17, .ref g18, .ref g19, .ref g20, .ref g21, .int 1, .int 1, .int 0])), (h3, .inl (cI, 60, .inl (upd (fun _ => 0) 0 1))), (h4, .inr (10, [.int 1, .int 0, .int (-4)]))] (fun r w1 => r = 1 ∧ w1 = [(h0, .inr (11, [.ref g0, .int 0, .ref g1, .ref g2, .ref h1, .ref g3, .ref g4, .ref h4, .ref g5, .ref g6, .ref g7])), (h1, .inr (1, [.ref h2, .ref g8, .ref g9, .ref g10, .ref h3, .ref g11, .ref g12, .int 4, .int 3, .int 0, .int (-1), .int 0])), (h2, .inr (7, [.ref g13, .ref g14, .ref g15, .ref g16, .ref g17, .ref g18, .ref g19, .ref g20, .ref g21, .int 1, .int 1, .int 0])), (h3, .inl (cI, 60, .inl (upd (fun _ => 0) 0 1))), (h4, .inr (10, [.int 1, .int 3, .int 110]))]) := by
  refine CtIS.of (by decide +kernel) (Nat.le_of_ble_eq_true rfl) ?_
  intro p e s m below meth c A ls hSX hx hb hr hml hown hts hnw hlocks hin hA hS hP hK hD hl
  have hown : s.vm.findClass RX11 = some m.cls := hown
  have hl : lv_has ls 5 [(0, .ref h0), (1, .int 1), (2, .int 0)] := hl
  refine lv_iload_n hx hb dX11_writeText_0 rfl (lv_at hl 2 rfl) ?_
  refine lv_if_lt (tgt := 13) hx hb dX11_writeText_1 (by decide) (fun h9 => absurd h9 (by decide +kernel)) (fun _ => ?_)
  refine lv_iload_n hx hb dX11_writeText_4 rfl (lv_at hl 2 rfl) ?_
  refine lv_aload_n hx hb dX11_writeText_5 rfl (lv_at hl 0 rfl) ?_
  refine lv_iload_n hx hb dX11_writeText_6 rfl (lv_at hl 1 rfl) ?_
  refine kVi (As := [.int 1]) (rest := [.int 0]) (wr := [(h3, .inl (cI, 60, .inl (upd (fun _ => 0) 0 1))), (h4, .inr (10, [.int 1, .int 0, .int (-4)]))]) hx hb hml hown hts hnw hK hP hD hS hA hl.1 (c_X11_textsOf_2 l D cI cZ cB cJ h0 h1 h2 g0 g1 g2 g3 g4 h4 g5 g6 g7 g8 g9 g10 h3 g11 g12 g13 g14 g15 g16 g17 g18 g19 g20 g21) yk_X11_textsOf wm_857 [0, 1, 2] [3, 4] rfl rfl (by decide) (by decide) (by decide) 0 rfl rfl rfl rfl rfl dX11_writeText_7 ⟨Nat.le_of_ble_eq_true rfl, Nat.le_of_ble_eq_true rfl⟩ ⟨Nat.le_of_ble_eq_true rfl, Nat.le_of_ble_eq_true rfl⟩ (Nat.le_of_ble_eq_true rfl) (fun r9 w1 H locs hq9 hP hD hS => ?_)
  obtain ⟨rfl, rfl⟩ := hq9
  have hP : va_P D vwCl [(h3, .inl (cI, 60, .inl (upd (fun _ => 0) 0 1))), (h4, .inr (10, [.int 1, .int 0, .int (-4)])), (h0, .inr (11, [.ref g0, .int 0, .ref g1, .ref g2, .ref h1, .ref g3, .ref g4, .ref h4, .ref g5, .ref g6, .ref g7])), (h1, .inr (1, [.ref h2, .ref g8, .ref g9, .ref g10, .ref h3, .ref g11, .ref g12, .int 4, .int 3, .int 0, .int (-1), .int 0])), (h2, .inr (7, [.ref g13, .ref g14, .ref g15, .ref g16, .ref g17, .ref g18, .ref g19, .ref g20, .ref g21, .int 1, .int 1, .int 0]))] H := hP
  have hD : va_D A [(h3, .inl (cI, 60, .inl (upd (fun _ => 0) 0 1))), (h4, .inr (10, [.int 1, .int 0, .int (-4)])), (h0, .inr (11, [.ref g0, .int 0, .ref g1, .ref g2, .ref h1, .ref g3, .ref g4, .ref h4, .ref g5, .ref g6, .ref g7])), (h1, .inr (1, [.ref h2, .ref g8, .ref g9, .ref g10, .ref h3, .ref g11, .ref g12, .int 4, .int 3, .int 0, .int (-1), .int 0])), (h2, .inr (7, [.ref g13, .ref g14, .ref g15, .ref g16, .ref g17, .ref g18, .ref g19, .ref g20, .ref g21, .int 1, .int 1, .int 0]))] := hD
  refine W.widen (k := 0) (n := 0) (Nat.le_of_ble_eq_true rfl) (Nat.le_of_ble_eq_true rfl) ?_
  refine pcn (b := 10) rfl ?_
  refine lv_icmp_lt (tgt := 15) hx hb dX11_writeText_10 (by decide) (fun _ => ?_) (fun h9 => absurd (by decide +kernel) h9)
  refine lv_aload_n hx hb dX11_writeText_15 rfl (lv_at hl 0 rfl) ?_
  refine va_get (D := D) (ci := 11) (v := .ref h1) (C := RX11) (T := TX11) (N := 11) hx hb hts inX11 hown hK hP 2 rfl rfl 4 (by decide) (hts _ wm_586) (fun _ h9 => h9) rfl dX11_writeText_16 ?_
  refine va_getN (D := D) (ci := 1) (v := .ref g8) (C := RX1) (T := TX1) (N := 12) hx hb hts inX1 hown hK hP 3 rfl rfl 1 (by decide) (va_Nw.use rfl (hnw _ wn_280)) (fun _ h9 => h9) rfl dX11_writeText_19 ?_
  refine lv_astore_n (lv' := [(3, .ref g8), (0, .ref h0), (1, .int 1), (2, .int 0)]) hx hb dX11_writeText_22 rfl hl (by decide) rfl (fun ls hl => ?_)
  refine lv_aload_n hx hb dX11_writeText_23 rfl (lv_at hl 1 rfl) ?_
  refine va_get (D := D) (ci := 11) (v := .ref h1) (C := RX11) (T := TX11) (N := 11) hx hb hts inX11 hown hK hP 2 rfl rfl 4 (by decide) (hts _ wm_586) (fun _ h9 => h9) rfl dX11_writeText_24 ?_
  refine va_getN (D := D) (ci := 1) (v := .ref g9) (C := RX1) (T := TX1) (N := 12) hx hb hts inX1 hown hK hP 3 rfl rfl 2 (by decide) (va_Nw.use rfl (hnw _ wn_284)) (fun _ h9 => h9) rfl dX11_writeText_27 ?_
  refine pcn (b := 30) rfl ?_
  refine lv_astore (lv' := [(4, .ref g9), (3, .ref g8), (0, .ref h0), (1, .int 1), (2, .int 0)]) hx hb dX11_writeText_30 hl (by decide) rfl (fun ls hl => ?_)
  refine lv_iload_n hx hb dX11_writeText_32 rfl (lv_at hl 3 rfl) ?_
  refine lv_tableIn (off := 77) (tgt := 110) hx hb dX11_writeText_33 (by decide +kernel) (by decide +kernel) (by decide +kernel) (by decide) ?_
  refine lv_aload_n hx hb dX11_writeText_110 rfl (lv_at hl 2 rfl) ?_
  refine va_get (D := D) (ci := 11) (v := .ref h4) (C := RX11) (T := TX11) (N := 11) hx hb hts inX11 hown hK hP 2 rfl rfl 7 (by decide) (hts _ wm_589) (fun _ h9 => h9) rfl dX11_writeText_111 ?_
  refine lv_aload_n hx hb dX11_writeText_114 rfl (lv_at hl 1 rfl) ?_
  refine lv_aload_n hx hb dX11_writeText_115 rfl (lv_at hl 2 rfl) ?_
  refine va_get (D := D) (ci := 11) (v := .ref h1) (C := RX11) (T := TX11) (N := 11) hx hb hts inX11 hown hK hP 2 rfl rfl 4 (by decide) (hts _ wm_586) (fun _ h9 => h9) rfl dX11_writeText_116 ?_
  refine va_getN (D := D) (ci := 1) (v := .ref h3) (C := RX1) (T := TX1) (N := 12) hx hb hts inX1 hown hK hP 3 rfl rfl 4 (by decide) (va_Nw.use rfl (hnw _ wn_289)) (fun _ h9 => h9) rfl dX11_writeText_119 ?_
  refine lv_iload_n hx hb dX11_writeText_122 rfl (lv_at hl 4 rfl) ?_
  refine pcn (b := 123) rfl ?_
  refine kSi (As := [.ref h3, .int 0]) (rest := [.ref g8, .ref h4]) (wr := [(h4, .inr (10, [.int 1, .int 0, .int (-4)])), (h0, .inr (11, [.ref g0, .int 0, .ref g1, .ref g2, .ref h1, .ref g3, .ref g4, .ref h4, .ref g5, .ref g6, .ref g7])), (h1, .inr (1, [.ref h2, .ref g8, .ref g9, .ref g10, .ref h3, .ref g11, .ref g12, .int 4, .int 3, .int 0, .int (-1), .int 0])), (h2, .inr (7, [.ref g13, .ref g14, .ref g15, .ref g16, .ref g17, .ref g18, .ref g19, .ref g20, .ref g21, .int 1, .int 1, .int 0]))]) hx hb hml hown hts hnw hK hP hD hS hA hl.1 (c_X11_at_9 l D cI cZ cB cJ h3) yk_X11_at wm_861 [0] [1, 2, 3, 4] rfl rfl (by decide) (by decide) (by decide) rfl rfl dX11_writeText_123 ⟨Nat.le_of_ble_eq_true rfl, Nat.le_of_ble_eq_true rfl⟩ ⟨Nat.le_of_ble_eq_true rfl, Nat.le_of_ble_eq_true rfl⟩ (Nat.le_of_ble_eq_true rfl) (fun r9 w1 H locs hq9 hP hD hS => ?_)
  obtain ⟨rfl, rfl⟩ := hq9
  have hP : va_P D vwCl [(h4, .inr (10, [.int 1, .int 0, .int (-4)])), (h0, .inr (11, [.ref g0, .int 0, .ref g1, .ref g2, .ref h1, .ref g3, .ref g4, .ref h4, .ref g5, .ref g6, .ref g7])), (h1, .inr (1, [.ref h2, .ref g8, .ref g9, .ref g10, .ref h3, .ref g11, .ref g12, .int 4, .int 3, .int 0, .int (-1), .int 0])), (h2, .inr (7, [.ref g13, .ref g14, .ref g15, .ref g16, .ref g17, .ref g18, .ref g19, .ref g20, .ref g21, .int 1, .int 1, .int 0])), (h3, .inl (cI, 60, .inl (upd (fun _ => 0) 0 1)))] H := hP
  have hD : va_D A [(h4, .inr (10, [.int 1, .int 0, .int (-4)])), (h0, .inr (11, [.ref g0, .int 0, .ref g1, .ref g2, .ref h1, .ref g3, .ref g4, .ref h4, .ref g5, .ref g6, .ref g7])), (h1, .inr (1, [.ref h2, .ref g8, .ref g9, .ref g10, .ref h3, .ref g11, .ref g12, .int 4, .int 3, .int 0, .int (-1), .int 0])), (h2, .inr (7, [.ref g13, .ref g14, .ref g15, .ref g16, .ref g17, .ref g18, .ref g19, .ref g20, .ref g21, .int 1, .int 1, .int 0])), (h3, .inl (cI, 60, .inl (upd (fun _ => 0) 0 1)))] := hD
  refine W.widen (k := 0) (n := 0) (Nat.le_of_ble_eq_true rfl) (Nat.le_of_ble_eq_true rfl) ?_
  refine pcn (b := 126) rfl ?_
  refine lv_bipush (v := 40) hx hb dX11_writeText_126 (by decide +kernel) ?_
  refine zVNv (As := [.ref g8, .int 1, .int 40]) (rest := []) (wr := [(h0, .inr (11, [.ref g0, .int 0, .ref g1, .ref g2, .ref h1, .ref g3, .ref g4, .ref h4, .ref g5, .ref g6, .ref g7])), (h1, .inr (1, [.ref h2, .ref g8, .ref g9, .ref g10, .ref h3, .ref g11, .ref g12, .int 4, .int 3, .int 0, .int (-1), .int 0])), (h2, .inr (7, [.ref g13, .ref g14, .ref g15, .ref g16, .ref g17, .ref g18, .ref g19, .ref g20, .ref g21, .int 1, .int 1, .int 0])), (h3, .inl (cI, 60, .inl (upd (fun _ => 0) 0 1)))]) hSX hx hb hml hown hts hnw hK hP hD hS hA hl.1 (c_X10_writeType_2 l D cI cZ cB cJ ak kv fo h4 g8) yk_X10_writeType wn_862 [0] [1, 2, 3, 4] rfl rfl (by decide) (by decide) (by decide) (rcv hK hP 0 rfl rfl rfl) rfl rfl dX11_writeText_128 ⟨Nat.le_of_ble_eq_true rfl, Nat.le_of_ble_eq_true rfl⟩ ⟨Nat.le_of_ble_eq_true rfl, Nat.le_of_ble_eq_true rfl⟩ (Nat.le_of_ble_eq_true rfl) (fun w1 H locs hq9 hP hD hS => ?_)
  obtain rfl := hq9
  have hP : va_P D vwCl [(h0, .inr (11, [.ref g0, .int 0, .ref g1, .ref g2, .ref h1, .ref g3, .ref g4, .ref h4, .ref g5, .ref g6, .ref g7])), (h1, .inr (1, [.ref h2, .ref g8, .ref g9, .ref g10, .ref h3, .ref g11, .ref g12, .int 4, .int 3, .int 0, .int (-1), .int 0])), (h2, .inr (7, [.ref g13, .ref g14, .ref g15, .ref g16, .ref g17, .ref g18, .ref g19, .ref g20, .ref g21, .int 1, .int 1, .int 0])), (h3, .inl (cI, 60, .inl (upd (fun _ => 0) 0 1))), (h4, .inr (10, [.int 1, .int 3, .int 110]))] H := hP
  have hD : va_D A [(h0, .inr (11, [.ref g0, .int 0, .ref g1, .ref g2, .ref h1, .ref g3, .ref g4, .ref h4, .ref g5, .ref g6, .ref g7])), (h1, .inr (1, [.ref h2, .ref g8, .ref g9, .ref g10, .ref h3, .ref g11, .ref g12, .int 4, .int 3, .int 0, .int (-1), .int 0])), (h2, .inr (7, [.ref g13, .ref g14, .ref g15, .ref g16, .ref g17, .ref g18, .ref g19, .ref g20, .ref g21, .int 1, .int 1, .int 0])), (h3, .inl (cI, 60, .inl (upd (fun _ => 0) 0 1))), (h4, .inr (10, [.int 1, .int 3, .int 110]))] := hD
  refine W.widen (k := 0) (n := 0) (Nat.le_of_ble_eq_true rfl) (Nat.le_of_ble_eq_true rfl) ?_
  refine pcn (b := 131) rfl ?_
  refine lv_goto (tgt := 300) hx hb dX11_writeText_131 (by decide) ?_
  refine lv_iconst (v := 1) hx hb dX11_writeText_300 (by decide +kernel) ?_
  refine W.widen (k := 0) (n := 0) (Nat.le_of_ble_eq_true rfl) (Nat.le_of_ble_eq_true rfl) ?_
  exact rtZ hx hb hr rfl hlocks hS hP hD ⟨rfl, rfl⟩ dX11_writeText_301

set_option maxHeartbeats 4000000 in
set_option maxRecDepth 100000 in
theorem c_X10_start_4 (l : Launch) (D : va_G) (cI cZ cB cJ : ClassId) (h0 : Nat) : CtV l D (TT cI cZ cB cJ) yX10_start cX10_start 2 none 0 0 0 0 [.ref h0, .int 2] [(h0, .inr (10, [.int 0, .int 0, .int 0]))] (fun w1 => w1 = [(h0, .inr (10, [.int 2, .int 0, .int (-4)]))]) := by
  refine CtV.of (by decide +kernel) (Nat.le_of_ble_eq_true rfl) ?_
  intro p e s m below meth c A ls hx hb hr hml hown hts hnw hlocks hin hA hS hP hK hD hl
  have hown : s.vm.findClass RX10 = some m.cls := hown
  have hl : lv_has ls 2 [(0, .ref h0), (1, .int 2)] := hl
  refine lv_aload_n hx hb dX10_start_0 rfl (lv_at hl 0 rfl) ?_
  refine lv_iload_n hx hb dX10_start_1 rfl (lv_at hl 1 rfl) ?_
  refine va_put (D := D) (ci := 10) (v := .int 2) (ty := .int) (C := RX10) (T := TX10) (N := 3) hx hb hts inX10 tyX10 tyX10_ok nmX10 hown hK hP hD hS 0 rfl rfl 0 (by decide) (hts _ wm_415) (fun _ h9 => h9) rfl (by decide +kernel) rfl rfl (Nat.le_of_ble_eq_true rfl) dX10_start_2 (fun H locs hP hD hS => ?_)
  have hP : va_P D vwCl [(h0, .inr (10, [.int 2, .int 0, .int 0]))] H := hP
  have hD : va_D A [(h0, .inr (10, [.int 2, .int 0, .int 0]))] := hD
  refine lv_aload_n hx hb dX10_start_5 rfl (lv_at hl 0 rfl) ?_
  refine lv_iconst (v := 0) hx hb dX10_start_6 (by decide +kernel) ?_
  refine va_put (D := D) (ci := 10) (v := .int 0) (ty := .int) (C := RX10) (T := TX10) (N := 3) hx hb hts inX10 tyX10 tyX10_ok nmX10 hown hK hP hD hS 0 rfl rfl 1 (by decide) (hts _ wm_416) (fun _ h9 => h9) rfl (by decide +kernel) rfl rfl (Nat.le_of_ble_eq_true rfl) dX10_start_7 (fun H locs hP hD hS => ?_)
  have hP : va_P D vwCl [(h0, .inr (10, [.int 2, .int 0, .int 0]))] H := hP
  have hD : va_D A [(h0, .inr (10, [.int 2, .int 0, .int 0]))] := hD
  refine lv_aload_n hx hb dX10_start_10 rfl (lv_at hl 0 rfl) ?_
  refine pcn (b := 11) rfl ?_
  refine lv_bipush (v := (-4)) hx hb dX10_start_11 (by decide +kernel) ?_
  refine va_put (D := D) (ci := 10) (v := .int (-4)) (ty := .int) (C := RX10) (T := TX10) (N := 3) hx hb hts inX10 tyX10 tyX10_ok nmX10 hown hK hP hD hS 0 rfl rfl 2 (by decide) (hts _ wm_418) (fun _ h9 => h9) rfl (by decide +kernel) rfl rfl (Nat.le_of_ble_eq_true rfl) dX10_start_13 (fun H locs hP hD hS => ?_)
  have hP : va_P D vwCl [(h0, .inr (10, [.int 2, .int 0, .int (-4)]))] H := hP
  have hD : va_D A [(h0, .inr (10, [.int 2, .int 0, .int (-4)]))] := hD
  refine W.widen (k := 0) (n := 0) (Nat.le_of_ble_eq_true rfl) (Nat.le_of_ble_eq_true rfl) ?_
  exact rtV hx hb hr hlocks hS hP hD rfl dX10_start_16

set_option maxHeartbeats 4000000 in
set_option maxRecDepth 100000 in
theorem c_X10_sign_9 (l : Launch) (D : va_G) (cI cZ cB cJ : ClassId) (h0 : Nat) : CtV l D (TT cI cZ cB cJ) yX10_sign cX10_sign 2 none 0 0 0 0 [.ref h0, .int 105] [(h0, .inr (10, [.int 2, .int 0, .int (-4)]))] (fun w1 => w1 = [(h0, .inr (10, [.int 2, .int 1, .int (-4)]))]) := by
  refine CtV.of (by decide +kernel) (Nat.le_of_ble_eq_true rfl) ?_
  intro p e s m below meth c A ls hx hb hr hml hown hts hnw hlocks hin hA hS hP hK hD hl
  have hown : s.vm.findClass RX10 = some m.cls := hown
  have hl : lv_has ls 2 [(0, .ref h0), (1, .int 105)] := hl
  refine lv_aload_n hx hb dX10_sign_0 rfl (lv_at hl 0 rfl) ?_
  refine va_get (D := D) (ci := 10) (v := .int 0) (C := RX10) (T := TX10) (N := 3) hx hb hts inX10 hown hK hP 0 rfl rfl 1 (by decide) (hts _ wm_416) (fun _ h9 => h9) rfl dX10_sign_1 ?_
  refine lv_sipush (v := 3000) hx hb dX10_sign_4 (by decide +kernel) ?_
  refine lv_icmp_lt (tgt := 11) hx hb dX10_sign_7 (by decide) (fun _ => ?_) (fun h9 => absurd (by decide +kernel) h9)
  refine lv_aload_n hx hb dX10_sign_11 rfl (lv_at hl 0 rfl) ?_
  refine va_get (D := D) (ci := 10) (v := .int 0) (C := RX10) (T := TX10) (N := 3) hx hb hts inX10 hown hK hP 0 rfl rfl 1 (by decide) (hts _ wm_416) (fun _ h9 => h9) rfl dX10_sign_12 ?_
  refine lv_aload_n hx hb dX10_sign_15 rfl (lv_at hl 0 rfl) ?_
  refine va_get (D := D) (ci := 10) (v := .int 2) (C := RX10) (T := TX10) (N := 3) hx hb hts inX10 hown hK hP 0 rfl rfl 0 (by decide) (hts _ wm_415) (fun _ h9 => h9) rfl dX10_sign_16 ?_
  refine lv_icmp_ne (tgt := 27) hx hb dX10_sign_19 (by decide) (fun _ => ?_) (fun h9 => absurd h9 (by decide +kernel))
  refine lv_aload_n hx hb dX10_sign_27 rfl (lv_at hl 0 rfl) ?_
  refine lv_dup hx hb dX10_sign_28 rfl ?_
  refine va_get (D := D) (ci := 10) (v := .int 0) (C := RX10) (T := TX10) (N := 3) hx hb hts inX10 hown hK hP 0 rfl rfl 1 (by decide) (hts _ wm_416) (fun _ h9 => h9) rfl dX10_sign_29 ?_
  refine lv_iconst (v := 1) hx hb dX10_sign_32 (by decide +kernel) ?_
  refine lv_iadd hx hb dX10_sign_33 ?_
  refine nrm (y := 1) (by decide +kernel) ?_
  refine va_put (D := D) (ci := 10) (v := .int 1) (ty := .int) (C := RX10) (T := TX10) (N := 3) hx hb hts inX10 tyX10 tyX10_ok nmX10 hown hK hP hD hS 0 rfl rfl 1 (by decide) (hts _ wm_416) (fun _ h9 => h9) rfl (by decide +kernel) rfl rfl (Nat.le_of_ble_eq_true rfl) dX10_sign_34 (fun H locs hP hD hS => ?_)
  have hP : va_P D vwCl [(h0, .inr (10, [.int 2, .int 1, .int (-4)]))] H := hP
  have hD : va_D A [(h0, .inr (10, [.int 2, .int 1, .int (-4)]))] := hD
  refine W.widen (k := 0) (n := 0) (Nat.le_of_ble_eq_true rfl) (Nat.le_of_ble_eq_true rfl) ?_
  exact rtV hx hb hr hlocks hS hP hD rfl dX10_sign_37

set_option maxHeartbeats 4000000 in
set_option maxRecDepth 100000 in
theorem c_X10_sign_10 (l : Launch) (D : va_G) (cI cZ cB cJ : ClassId) (h0 : Nat) : CtV l D (TT cI cZ cB cJ) yX10_sign cX10_sign 2 none 0 0 0 0 [.ref h0, .int 110] [(h0, .inr (10, [.int 2, .int 1, .int (-4)]))] (fun w1 => w1 = [(h0, .inr (10, [.int 2, .int 2, .int (-4)]))]) := by
  refine CtV.of (by decide +kernel) (Nat.le_of_ble_eq_true rfl) ?_
  intro p e s m below meth c A ls hx hb hr hml hown hts hnw hlocks hin hA hS hP hK hD hl
  have hown : s.vm.findClass RX10 = some m.cls := hown
  have hl : lv_has ls 2 [(0, .ref h0), (1, .int 110)] := hl
  refine lv_aload_n hx hb dX10_sign_0 rfl (lv_at hl 0 rfl) ?_
  refine va_get (D := D) (ci := 10) (v := .int 1) (C := RX10) (T := TX10) (N := 3) hx hb hts inX10 hown hK hP 0 rfl rfl 1 (by decide) (hts _ wm_416) (fun _ h9 => h9) rfl dX10_sign_1 ?_
  refine lv_sipush (v := 3000) hx hb dX10_sign_4 (by decide +kernel) ?_
  refine lv_icmp_lt (tgt := 11) hx hb dX10_sign_7 (by decide) (fun _ => ?_) (fun h9 => absurd (by decide +kernel) h9)
  refine lv_aload_n hx hb dX10_sign_11 rfl (lv_at hl 0 rfl) ?_
  refine va_get (D := D) (ci := 10) (v := .int 1) (C := RX10) (T := TX10) (N := 3) hx hb hts inX10 hown hK hP 0 rfl rfl 1 (by decide) (hts _ wm_416) (fun _ h9 => h9) rfl dX10_sign_12 ?_
  refine lv_aload_n hx hb dX10_sign_15 rfl (lv_at hl 0 rfl) ?_
  refine va_get (D := D) (ci := 10) (v := .int 2) (C := RX10) (T := TX10) (N := 3) hx hb hts inX10 hown hK hP 0 rfl rfl 0 (by decide) (hts _ wm_415) (fun _ h9 => h9) rfl dX10_sign_16 ?_
  refine lv_icmp_ne (tgt := 27) hx hb dX10_sign_19 (by decide) (fun _ => ?_) (fun h9 => absurd h9 (by decide +kernel))
  refine lv_aload_n hx hb dX10_sign_27 rfl (lv_at hl 0 rfl) ?_
  refine lv_dup hx hb dX10_sign_28 rfl ?_
  refine va_get (D := D) (ci := 10) (v := .int 1) (C := RX10) (T := TX10) (N := 3) hx hb hts inX10 hown hK hP 0 rfl rfl 1 (by decide) (hts _ wm_416) (fun _ h9 => h9) rfl dX10_sign_29 ?_
  refine lv_iconst (v := 1) hx hb dX10_sign_32 (by decide +kernel) ?_
  refine lv_iadd hx hb dX10_sign_33 ?_
  refine nrm (y := 2) (by decide +kernel) ?_
  refine va_put (D := D) (ci := 10) (v := .int 2) (ty := .int) (C := RX10) (T := TX10) (N := 3) hx hb hts inX10 tyX10 tyX10_ok nmX10 hown hK hP hD hS 0 rfl rfl 1 (by decide) (hts _ wm_416) (fun _ h9 => h9) rfl (by decide +kernel) rfl rfl (Nat.le_of_ble_eq_true rfl) dX10_sign_34 (fun H locs hP hD hS => ?_)
  have hP : va_P D vwCl [(h0, .inr (10, [.int 2, .int 2, .int (-4)]))] H := hP
  have hD : va_D A [(h0, .inr (10, [.int 2, .int 2, .int (-4)]))] := hD
  refine W.widen (k := 0) (n := 0) (Nat.le_of_ble_eq_true rfl) (Nat.le_of_ble_eq_true rfl) ?_
  exact rtV hx hb hr hlocks hS hP hD rfl dX10_sign_37

set_option maxHeartbeats 4000000 in
set_option maxRecDepth 100000 in
theorem c_X10_sign_11 (l : Launch) (D : va_G) (cI cZ cB cJ : ClassId) (h0 : Nat) : CtV l D (TT cI cZ cB cJ) yX10_sign cX10_sign 2 none 0 0 0 0 [.ref h0, .int 116] [(h0, .inr (10, [.int 2, .int 2, .int (-4)]))] (fun w1 => w1 = [(h0, .inr (10, [.int 2, .int 3, .int 116]))]) := by
  refine CtV.of (by decide +kernel) (Nat.le_of_ble_eq_true rfl) ?_
  intro p e s m below meth c A ls hx hb hr hml hown hts hnw hlocks hin hA hS hP hK hD hl
  have hown : s.vm.findClass RX10 = some m.cls := hown
  have hl : lv_has ls 2 [(0, .ref h0), (1, .int 116)] := hl
  refine lv_aload_n hx hb dX10_sign_0 rfl (lv_at hl 0 rfl) ?_
  refine va_get (D := D) (ci := 10) (v := .int 2) (C := RX10) (T := TX10) (N := 3) hx hb hts inX10 hown hK hP 0 rfl rfl 1 (by decide) (hts _ wm_416) (fun _ h9 => h9) rfl dX10_sign_1 ?_
  refine lv_sipush (v := 3000) hx hb dX10_sign_4 (by decide +kernel) ?_
  refine lv_icmp_lt (tgt := 11) hx hb dX10_sign_7 (by decide) (fun _ => ?_) (fun h9 => absurd (by decide +kernel) h9)
  refine lv_aload_n hx hb dX10_sign_11 rfl (lv_at hl 0 rfl) ?_
  refine va_get (D := D) (ci := 10) (v := .int 2) (C := RX10) (T := TX10) (N := 3) hx hb hts inX10 hown hK hP 0 rfl rfl 1 (by decide) (hts _ wm_416) (fun _ h9 => h9) rfl dX10_sign_12 ?_
  refine lv_aload_n hx hb dX10_sign_15 rfl (lv_at hl 0 rfl) ?_
  refine va_get (D := D) (ci := 10) (v := .int 2) (C := RX10) (T := TX10) (N := 3) hx hb hts inX10 hown hK hP 0 rfl rfl 0 (by decide) (hts _ wm_415) (fun _ h9 => h9) rfl dX10_sign_16 ?_
  refine lv_icmp_ne (tgt := 27) hx hb dX10_sign_19 (by decide) (fun h9 => absurd (by decide +kernel) h9) (fun _ => ?_)
  refine lv_aload_n hx hb dX10_sign_22 rfl (lv_at hl 0 rfl) ?_
  refine lv_iload_n hx hb dX10_sign_23 rfl (lv_at hl 1 rfl) ?_
  refine pcn (b := 24) rfl ?_
  refine va_put (D := D) (ci := 10) (v := .int 116) (ty := .int) (C := RX10) (T := TX10) (N := 3) hx hb hts inX10 tyX10 tyX10_ok nmX10 hown hK hP hD hS 0 rfl rfl 2 (by decide) (hts _ wm_418) (fun _ h9 => h9) rfl (by decide +kernel) rfl rfl (Nat.le_of_ble_eq_true rfl) dX10_sign_24 (fun H locs hP hD hS => ?_)
  have hP : va_P D vwCl [(h0, .inr (10, [.int 2, .int 2, .int 116]))] H := hP
  have hD : va_D A [(h0, .inr (10, [.int 2, .int 2, .int 116]))] := hD
  refine lv_aload_n hx hb dX10_sign_27 rfl (lv_at hl 0 rfl) ?_
  refine lv_dup hx hb dX10_sign_28 rfl ?_
  refine va_get (D := D) (ci := 10) (v := .int 2) (C := RX10) (T := TX10) (N := 3) hx hb hts inX10 hown hK hP 0 rfl rfl 1 (by decide) (hts _ wm_416) (fun _ h9 => h9) rfl dX10_sign_29 ?_
  refine lv_iconst (v := 1) hx hb dX10_sign_32 (by decide +kernel) ?_
  refine lv_iadd hx hb dX10_sign_33 ?_
  refine nrm (y := 3) (by decide +kernel) ?_
  refine va_put (D := D) (ci := 10) (v := .int 3) (ty := .int) (C := RX10) (T := TX10) (N := 3) hx hb hts inX10 tyX10 tyX10_ok nmX10 hown hK hP hD hS 0 rfl rfl 1 (by decide) (hts _ wm_416) (fun _ h9 => h9) rfl (by decide +kernel) rfl rfl (Nat.le_of_ble_eq_true rfl) dX10_sign_34 (fun H locs hP hD hS => ?_)
  have hP : va_P D vwCl [(h0, .inr (10, [.int 2, .int 3, .int 116]))] H := hP
  have hD : va_D A [(h0, .inr (10, [.int 2, .int 3, .int 116]))] := hD
  refine W.widen (k := 0) (n := 0) (Nat.le_of_ble_eq_true rfl) (Nat.le_of_ble_eq_true rfl) ?_
  exact rtV hx hb hr hlocks hS hP hD rfl dX10_sign_37

set_option maxHeartbeats 4000000 in
set_option maxRecDepth 100000 in
theorem c_X10_word_3 (l : Launch) (D : va_G) (cI cZ cB cJ : ClassId) (ak kv : Nat) (fo : Option Nat) (h0 : Nat) : CtVS ak kv fo l D (TT cI cZ cB cJ) yX10_word cX10_word 3 none 4 85 0 0 [.ref h0, .ref ak] [(h0, .inr (10, [.int 2, .int 0, .int (-4)]))] (fun w1 => w1 = [(h0, .inr (10, [.int 2, .int 3, .int 116]))]) := by
  refine CtVS.of (by decide +kernel) (Nat.le_of_ble_eq_true rfl) ?_
  intro p e s m below meth c A ls hSX hx hb hr hml hown hts hnw hlocks hin hA hS hP hK hD hl
  have hown : s.vm.findClass RX10 = some m.cls := hown
  have hl : lv_has ls 3 [(0, .ref h0), (1, .ref ak)] := hl
  refine lv_iconst (v := 0) hx hb dX10_word_0 (by decide +kernel) ?_
  refine lv_istore_n (lv' := [(2, .int 0), (0, .ref h0), (1, .ref ak)]) hx hb dX10_word_1 rfl hl (by decide) rfl (fun ls hl => ?_)
  refine lv_iload_n hx hb dX10_word_2 rfl (lv_at hl 0 rfl) ?_
  refine lv_aload_n hx hb dX10_word_3 rfl (lv_at hl 2 rfl) ?_
  refine zVi (As := []) (rest := [.int 0]) (wr := [(h0, .inr (10, [.int 2, .int 0, .int (-4)]))]) hSX hx hb hml hown hts hnw hK hP hD hS hA hl.1 (c_length l D cI cZ cB cJ ak kv fo) yk_J0_length_8abf5 wm_875 [] [0] rfl rfl (by decide) (by decide) (by decide) (hSX.recv hS) rfl rfl dX10_word_4 ⟨Nat.le_of_ble_eq_true rfl, Nat.le_of_ble_eq_true rfl⟩ ⟨Nat.le_of_ble_eq_true rfl, Nat.le_of_ble_eq_true rfl⟩ (Nat.le_of_ble_eq_true rfl) (fun r9 w1 H locs hq9 hP hD hS => ?_)
  obtain ⟨rfl, rfl⟩ := hq9
  have hP : va_P D vwCl [(h0, .inr (10, [.int 2, .int 0, .int (-4)]))] H := hP
  have hD : va_D A [(h0, .inr (10, [.int 2, .int 0, .int (-4)]))] := hD
  refine W.widen (k := 0) (n := 0) (Nat.le_of_ble_eq_true rfl) (Nat.le_of_ble_eq_true rfl) ?_
  refine pcn (b := 7) rfl ?_
  refine lv_icmp_ge (tgt := 25) hx hb dX10_word_7 (by decide) (fun h9 => absurd h9 (by decide +kernel)) (fun _ => ?_)
  refine lv_aload_n hx hb dX10_word_10 rfl (lv_at hl 1 rfl) ?_
  refine lv_aload_n hx hb dX10_word_11 rfl (lv_at hl 2 rfl) ?_
  refine lv_iload_n hx hb dX10_word_12 rfl (lv_at hl 0 rfl) ?_
  refine zVi (As := [.int 0]) (rest := [.ref h0]) (wr := [(h0, .inr (10, [.int 2, .int 0, .int (-4)]))]) hSX hx hb hml hown hts hnw hK hP hD hS hA hl.1 (c_charAt0 l D cI cZ cB cJ ak kv fo) yk_J0_charAt_5068e wm_885 [] [0] rfl rfl (by decide) (by decide) (by decide) (hSX.recv hS) rfl rfl dX10_word_13 ⟨Nat.le_of_ble_eq_true rfl, Nat.le_of_ble_eq_true rfl⟩ ⟨Nat.le_of_ble_eq_true rfl, Nat.le_of_ble_eq_true rfl⟩ (Nat.le_of_ble_eq_true rfl) (fun r9 w1 H locs hq9 hP hD hS => ?_)
  obtain ⟨rfl, rfl⟩ := hq9
  have hP : va_P D vwCl [(h0, .inr (10, [.int 2, .int 0, .int (-4)]))] H := hP
  have hD : va_D A [(h0, .inr (10, [.int 2, .int 0, .int (-4)]))] := hD
  refine W.widen (k := 0) (n := 0) (Nat.le_of_ble_eq_true rfl) (Nat.le_of_ble_eq_true rfl) ?_
  refine pcn (b := 16) rfl ?_
  refine kVv (As := [.int 105]) (rest := []) (wr := []) hx hb hml hown hts hnw hK hP hD hS hA hl.1 (c_X10_sign_9 l D cI cZ cB cJ h0) yk_X10_sign wm_866 [0] [] rfl rfl (by decide) (by decide) (by decide) 0 rfl rfl rfl rfl rfl dX10_word_16 ⟨Nat.le_of_ble_eq_true rfl, Nat.le_of_ble_eq_true rfl⟩ ⟨Nat.le_of_ble_eq_true rfl, Nat.le_of_ble_eq_true rfl⟩ (Nat.le_of_ble_eq_true rfl) (fun w1 H locs hq9 hP hD hS => ?_)
  obtain rfl := hq9
  have hP : va_P D vwCl [(h0, .inr (10, [.int 2, .int 1, .int (-4)]))] H := hP
  have hD : va_D A [(h0, .inr (10, [.int 2, .int 1, .int (-4)]))] := hD
  refine W.widen (k := 0) (n := 0) (Nat.le_of_ble_eq_true rfl) (Nat.le_of_ble_eq_true rfl) ?_
  refine pcn (b := 19) rfl ?_
  refine lv_iinc (v := 1) (lv' := [(2, .int 1), (0, .ref h0), (1, .ref ak)]) hx hb dX10_word_19 hl (k := 0) rfl (by decide +kernel) (by decide) rfl (fun ls hl => ?_)
  refine lv_goto (tgt := 2) hx hb dX10_word_22 (by decide) ?_
  refine lv_iload_n hx hb dX10_word_2 rfl (lv_at hl 0 rfl) ?_
  refine lv_aload_n hx hb dX10_word_3 rfl (lv_at hl 2 rfl) ?_
  refine zVi (As := []) (rest := [.int 1]) (wr := [(h0, .inr (10, [.int 2, .int 1, .int (-4)]))]) hSX hx hb hml hown hts hnw hK hP hD hS hA hl.1 (c_length l D cI cZ cB cJ ak kv fo) yk_J0_length_8abf5 wm_875 [] [0] rfl rfl (by decide) (by decide) (by decide) (hSX.recv hS) rfl rfl dX10_word_4 ⟨Nat.le_of_ble_eq_true rfl, Nat.le_of_ble_eq_true rfl⟩ ⟨Nat.le_of_ble_eq_true rfl, Nat.le_of_ble_eq_true rfl⟩ (Nat.le_of_ble_eq_true rfl) (fun r9 w1 H locs hq9 hP hD hS => ?_)
  obtain ⟨rfl, rfl⟩ := hq9
  have hP : va_P D vwCl [(h0, .inr (10, [.int 2, .int 1, .int (-4)]))] H := hP
  have hD : va_D A [(h0, .inr (10, [.int 2, .int 1, .int (-4)]))] := hD
  refine W.widen (k := 0) (n := 0) (Nat.le_of_ble_eq_true rfl) (Nat.le_of_ble_eq_true rfl) ?_
  refine pcn (b := 7) rfl ?_
  refine lv_icmp_ge (tgt := 25) hx hb dX10_word_7 (by decide) (fun h9 => absurd h9 (by decide +kernel)) (fun _ => ?_)
  refine lv_aload_n hx hb dX10_word_10 rfl (lv_at hl 1 rfl) ?_
  refine lv_aload_n hx hb dX10_word_11 rfl (lv_at hl 2 rfl) ?_
  refine lv_iload_n hx hb dX10_word_12 rfl (lv_at hl 0 rfl) ?_
  refine zVi (As := [.int 1]) (rest := [.ref h0]) (wr := [(h0, .inr (10, [.int 2, .int 1, .int (-4)]))]) hSX hx hb hml hown hts hnw hK hP hD hS hA hl.1 (c_charAt1 l D cI cZ cB cJ ak kv fo) yk_J0_charAt_5068e wm_885 [] [0] rfl rfl (by decide) (by decide) (by decide) (hSX.recv hS) rfl rfl dX10_word_13 ⟨Nat.le_of_ble_eq_true rfl, Nat.le_of_ble_eq_true rfl⟩ ⟨Nat.le_of_ble_eq_true rfl, Nat.le_of_ble_eq_true rfl⟩ (Nat.le_of_ble_eq_true rfl) (fun r9 w1 H locs hq9 hP hD hS => ?_)
  obtain ⟨rfl, rfl⟩ := hq9
  have hP : va_P D vwCl [(h0, .inr (10, [.int 2, .int 1, .int (-4)]))] H := hP
  have hD : va_D A [(h0, .inr (10, [.int 2, .int 1, .int (-4)]))] := hD
  refine W.widen (k := 0) (n := 0) (Nat.le_of_ble_eq_true rfl) (Nat.le_of_ble_eq_true rfl) ?_
  refine pcn (b := 16) rfl ?_
  refine kVv (As := [.int 110]) (rest := []) (wr := []) hx hb hml hown hts hnw hK hP hD hS hA hl.1 (c_X10_sign_10 l D cI cZ cB cJ h0) yk_X10_sign wm_866 [0] [] rfl rfl (by decide) (by decide) (by decide) 0 rfl rfl rfl rfl rfl dX10_word_16 ⟨Nat.le_of_ble_eq_true rfl, Nat.le_of_ble_eq_true rfl⟩ ⟨Nat.le_of_ble_eq_true rfl, Nat.le_of_ble_eq_true rfl⟩ (Nat.le_of_ble_eq_true rfl) (fun w1 H locs hq9 hP hD hS => ?_)
  obtain rfl := hq9
  have hP : va_P D vwCl [(h0, .inr (10, [.int 2, .int 2, .int (-4)]))] H := hP
  have hD : va_D A [(h0, .inr (10, [.int 2, .int 2, .int (-4)]))] := hD
  refine W.widen (k := 0) (n := 0) (Nat.le_of_ble_eq_true rfl) (Nat.le_of_ble_eq_true rfl) ?_
  refine pcn (b := 19) rfl ?_
  refine lv_iinc (v := 2) (lv' := [(2, .int 2), (0, .ref h0), (1, .ref ak)]) hx hb dX10_word_19 hl (k := 0) rfl (by decide +kernel) (by decide) rfl (fun ls hl => ?_)
  refine lv_goto (tgt := 2) hx hb dX10_word_22 (by decide) ?_
  refine lv_iload_n hx hb dX10_word_2 rfl (lv_at hl 0 rfl) ?_
  refine lv_aload_n hx hb dX10_word_3 rfl (lv_at hl 2 rfl) ?_
  refine zVi (As := []) (rest := [.int 2]) (wr := [(h0, .inr (10, [.int 2, .int 2, .int (-4)]))]) hSX hx hb hml hown hts hnw hK hP hD hS hA hl.1 (c_length l D cI cZ cB cJ ak kv fo) yk_J0_length_8abf5 wm_875 [] [0] rfl rfl (by decide) (by decide) (by decide) (hSX.recv hS) rfl rfl dX10_word_4 ⟨Nat.le_of_ble_eq_true rfl, Nat.le_of_ble_eq_true rfl⟩ ⟨Nat.le_of_ble_eq_true rfl, Nat.le_of_ble_eq_true rfl⟩ (Nat.le_of_ble_eq_true rfl) (fun r9 w1 H locs hq9 hP hD hS => ?_)
  obtain ⟨rfl, rfl⟩ := hq9
  have hP : va_P D vwCl [(h0, .inr (10, [.int 2, .int 2, .int (-4)]))] H := hP
  have hD : va_D A [(h0, .inr (10, [.int 2, .int 2, .int (-4)]))] := hD
  refine W.widen (k := 0) (n := 0) (Nat.le_of_ble_eq_true rfl) (Nat.le_of_ble_eq_true rfl) ?_
  refine pcn (b := 7) rfl ?_
  refine lv_icmp_ge (tgt := 25) hx hb dX10_word_7 (by decide) (fun h9 => absurd h9 (by decide +kernel)) (fun _ => ?_)
  refine lv_aload_n hx hb dX10_word_10 rfl (lv_at hl 1 rfl) ?_
  refine lv_aload_n hx hb dX10_word_11 rfl (lv_at hl 2 rfl) ?_
  refine lv_iload_n hx hb dX10_word_12 rfl (lv_at hl 0 rfl) ?_
  refine zVi (As := [.int 2]) (rest := [.ref h0]) (wr := [(h0, .inr (10, [.int 2, .int 2, .int (-4)]))]) hSX hx hb hml hown hts hnw hK hP hD hS hA hl.1 (c_charAt2 l D cI cZ cB cJ ak kv fo) yk_J0_charAt_5068e wm_885 [] [0] rfl rfl (by decide) (by decide) (by decide) (hSX.recv hS) rfl rfl dX10_word_13 ⟨Nat.le_of_ble_eq_true rfl, Nat.le_of_ble_eq_true rfl⟩ ⟨Nat.le_of_ble_eq_true rfl, Nat.le_of_ble_eq_true rfl⟩ (Nat.le_of_ble_eq_true rfl) (fun r9 w1 H locs hq9 hP hD hS => ?_)
  obtain ⟨rfl, rfl⟩ := hq9
  have hP : va_P D vwCl [(h0, .inr (10, [.int 2, .int 2, .int (-4)]))] H := hP
  have hD : va_D A [(h0, .inr (10, [.int 2, .int 2, .int (-4)]))] := hD
  refine W.widen (k := 0) (n := 0) (Nat.le_of_ble_eq_true rfl) (Nat.le_of_ble_eq_true rfl) ?_
  refine pcn (b := 16) rfl ?_
  refine kVv (As := [.int 116]) (rest := []) (wr := []) hx hb hml hown hts hnw hK hP hD hS hA hl.1 (c_X10_sign_11 l D cI cZ cB cJ h0) yk_X10_sign wm_866 [0] [] rfl rfl (by decide) (by decide) (by decide) 0 rfl rfl rfl rfl rfl dX10_word_16 ⟨Nat.le_of_ble_eq_true rfl, Nat.le_of_ble_eq_true rfl⟩ ⟨Nat.le_of_ble_eq_true rfl, Nat.le_of_ble_eq_true rfl⟩ (Nat.le_of_ble_eq_true rfl) (fun w1 H locs hq9 hP hD hS => ?_)
  obtain rfl := hq9
  have hP : va_P D vwCl [(h0, .inr (10, [.int 2, .int 3, .int 116]))] H := hP
  have hD : va_D A [(h0, .inr (10, [.int 2, .int 3, .int 116]))] := hD
  refine W.widen (k := 0) (n := 0) (Nat.le_of_ble_eq_true rfl) (Nat.le_of_ble_eq_true rfl) ?_
  refine pcn (b := 19) rfl ?_
  refine lv_iinc (v := 3) (lv' := [(2, .int 3), (0, .ref h0), (1, .ref ak)]) hx hb dX10_word_19 hl (k := 0) rfl (by decide +kernel) (by decide) rfl (fun ls hl => ?_)
  refine lv_goto (tgt := 2) hx hb dX10_word_22 (by decide) ?_
  refine lv_iload_n hx hb dX10_word_2 rfl (lv_at hl 0 rfl) ?_
  refine lv_aload_n hx hb dX10_word_3 rfl (lv_at hl 2 rfl) ?_
  refine zVi (As := []) (rest := [.int 3]) (wr := [(h0, .inr (10, [.int 2, .int 3, .int 116]))]) hSX hx hb hml hown hts hnw hK hP hD hS hA hl.1 (c_length l D cI cZ cB cJ ak kv fo) yk_J0_length_8abf5 wm_875 [] [0] rfl rfl (by decide) (by decide) (by decide) (hSX.recv hS) rfl rfl dX10_word_4 ⟨Nat.le_of_ble_eq_true rfl, Nat.le_of_ble_eq_true rfl⟩ ⟨Nat.le_of_ble_eq_true rfl, Nat.le_of_ble_eq_true rfl⟩ (Nat.le_of_ble_eq_true rfl) (fun r9 w1 H locs hq9 hP hD hS => ?_)
  obtain ⟨rfl, rfl⟩ := hq9
  have hP : va_P D vwCl [(h0, .inr (10, [.int 2, .int 3, .int 116]))] H := hP
  have hD : va_D A [(h0, .inr (10, [.int 2, .int 3, .int 116]))] := hD
  refine W.widen (k := 0) (n := 0) (Nat.le_of_ble_eq_true rfl) (Nat.le_of_ble_eq_true rfl) ?_
  refine pcn (b := 7) rfl ?_
  refine lv_icmp_ge (tgt := 25) hx hb dX10_word_7 (by decide) (fun _ => ?_) (fun h9 => absurd (by decide +kernel) h9)
  refine W.widen (k := 0) (n := 0) (Nat.le_of_ble_eq_true rfl) (Nat.le_of_ble_eq_true rfl) ?_
  exact rtV hx hb hr hlocks hS hP hD rfl dX10_word_25

set_option maxHeartbeats 4000000 in
set_option maxRecDepth 100000 in
theorem c_X10_writeType_3 (l : Launch) (D : va_G) (cI cZ cB cJ : ClassId) (ak kv : Nat) (fo : Option Nat) (h0 g0 : Nat) : CtVS ak kv fo l D (TT cI cZ cB cJ) yX10_writeType cX10_writeType 4 none 5 107 0 0 [.ref h0, .ref g0, .int 1, .int 40] [(h0, .inr (10, [.int 2, .int 0, .int (-4)]))] (fun w1 => w1 = [(h0, .inr (10, [.int 2, .int 3, .int 116]))]) := by
  refine CtVS.of (by decide +kernel) (Nat.le_of_ble_eq_true rfl) ?_
  intro p e s m below meth c A ls hSX hx hb hr hml hown hts hnw hlocks hin hA hS hP hK hD hl
  have hown : s.vm.findClass RX10 = some m.cls := hown
  have hl : lv_has ls 4 [(0, .ref h0), (1, .ref g0), (2, .int 1), (3, .int 40)] := hl
  refine lv_iload_n hx hb dX10_writeType_0 rfl (lv_at hl 3 rfl) ?_
  refine lv_if_gt (tgt := 5) hx hb dX10_writeType_1 (by decide) (fun _ => ?_) (fun h9 => absurd (by decide +kernel) h9)
  refine lv_iload_n hx hb dX10_writeType_5 rfl (lv_at hl 2 rfl) ?_
  refine lv_if_ne (tgt := 18) hx hb dX10_writeType_6 (by decide) (fun _ => ?_) (fun h9 => absurd h9 (by decide +kernel))
  refine lv_iload_n hx hb dX10_writeType_18 rfl (lv_at hl 2 rfl) ?_
  refine lv_iconst (v := 1) hx hb dX10_writeType_19 (by decide +kernel) ?_
  refine lv_icmp_ne (tgt := 32) hx hb dX10_writeType_20 (by decide) (fun h9 => absurd (by decide +kernel) h9) (fun _ => ?_)
  refine lv_aload_n hx hb dX10_writeType_23 rfl (lv_at hl 0 rfl) ?_
  refine va_ldcS hx hb hown hSX.1 dX10_writeType_24 ?_
  refine zVv (As := [.ref ak]) (rest := []) (wr := []) hSX hx hb hml hown hts hnw hK hP hD hS hA hl.1 (c_X10_word_3 l D cI cZ cB cJ ak kv fo h0) yk_X10_word wm_871 [0] [] rfl rfl (by decide) (by decide) (by decide) (rcv hK hP 0 rfl rfl rfl) rfl rfl dX10_writeType_26 ⟨Nat.le_of_ble_eq_true rfl, Nat.le_of_ble_eq_true rfl⟩ ⟨Nat.le_of_ble_eq_true rfl, Nat.le_of_ble_eq_true rfl⟩ (Nat.le_of_ble_eq_true rfl) (fun w1 H locs hq9 hP hD hS => ?_)
  obtain rfl := hq9
  have hP : va_P D vwCl [(h0, .inr (10, [.int 2, .int 3, .int 116]))] H := hP
  have hD : va_D A [(h0, .inr (10, [.int 2, .int 3, .int 116]))] := hD
  refine W.widen (k := 0) (n := 0) (Nat.le_of_ble_eq_true rfl) (Nat.le_of_ble_eq_true rfl) ?_
  refine pcn (b := 29) rfl ?_
  refine lv_goto (tgt := 90) hx hb dX10_writeType_29 (by decide) ?_
  refine W.widen (k := 0) (n := 0) (Nat.le_of_ble_eq_true rfl) (Nat.le_of_ble_eq_true rfl) ?_
  exact rtV hx hb hr hlocks hS hP hD rfl dX10_writeType_90

set_option maxHeartbeats 4000000 in
set_option maxRecDepth 100000 in
theorem c_X11_writeText_10 (l : Launch) (D : va_G) (cI cZ cB cJ : ClassId) (ak kv : Nat) (fo : Option Nat) (h0 h1 h2 h3 h4 g0 g1 g2 g3 g4 g5 g6 g7 g8 g9 g10 g11 g12 g13 g14 g15 g16 g17 g18 g19 g20 g21 : Nat) : CtIS ak kv fo l D (TT cI cZ cB cJ) yX11_writeText cX11_writeText 5 (some .boolean) 6 130 0 0 [.ref h0, .int 1, .int 0] [(h0, .inr (11, [.ref g0, .int 0, .ref g1, .ref g2, .ref h1, .ref g3, .ref g4, .ref h4, .ref g5, .ref g6, .ref g7])), (h1, .inr (1, [.ref h2, .ref g8, .ref g9, .ref g10, .ref h3, .ref g11, .ref g12, .int 4, .int 3, .int 0, .int (-1), .int 0])), (h2, .inr (7, [.ref g13, .ref g14, .ref g15, .ref g16, .ref g17, .ref g18, .ref g19, .ref g20, .ref g21, .int 1, .int 1, .int 0])), (h3, .inl (cI, 60, .inl (upd (fun _ => 0) 0 1))), (h4, .inr (10, [.int 2, .int 0, .int (-4)]))] (fun r w1 => r = 1 ∧ w1 = [(h0, .inr (11, [.ref g0, .int 0, .ref g1, .ref g2, .ref h1, .ref g3, .ref g4, .ref h4, .ref g5, .ref g6, .ref g7])), (h1, .inr (1, [.ref h2, .ref g8, .ref g9, .ref g10, .ref h3, .ref g11, .ref g12, .int 4, .int 3, .int 0, .int (-1), .int 0])), (h2, .inr (7, [.ref g13, .ref g14, .ref g15, .ref g16, .ref g17, .ref g18, .ref g19, .ref g20, .ref g21, .int 1, .int 1, .int 0])), (h3, .inl (cI, 60, .inl (upd (fun _ => 0) 0 1))), (h4, .inr (10, [.int 2, .int 3, .int 116]))]) := by
  refine CtIS.of (by decide +kernel) (Nat.le_of_ble_eq_true rfl) ?_
  intro p e s m below meth c A ls hSX hx hb hr hml hown hts hnw hlocks hin hA hS hP hK hD hl
  have hown : s.vm.findClass RX11 = some m.cls := hown
  have hl : lv_has ls 5 [(0, .ref h0), (1, .int 1), (2, .int 0)] := hl
  refine lv_iload_n hx hb dX11_writeText_0 rfl (lv_at hl 2 rfl) ?_
  refine lv_if_lt (tgt := 13) hx hb dX11_writeText_1 (by decide) (fun h9 => absurd h9 (by decide +kernel)) (fun _ => ?_)
  refine lv_iload_n hx hb dX11_writeText_4 rfl (lv_at hl 2 rfl) ?_
  refine lv_aload_n hx hb dX11_writeText_5 rfl (lv_at hl 0 rfl) ?_
  refine lv_iload_n hx hb dX11_writeText_6 rfl (lv_at hl 1 rfl) ?_
  refine kVi (As := [.int 1]) (rest := [.int 0]) (wr := [(h3, .inl (cI, 60, .inl (upd (fun _ => 0) 0 1))), (h4, .inr (10, [.int 2, .int 0, .int (-4)]))]) hx hb hml hown hts hnw hK hP hD hS hA hl.1 (c_X11_textsOf_2 l D cI cZ cB cJ h0 h1 h2 g0 g1 g2 g3 g4 h4 g5 g6 g7 g8 g9 g10 h3 g11 g12 g13 g14 g15 g16 g17 g18 g19 g20 g21) yk_X11_textsOf wm_857 [0, 1, 2] [3, 4] rfl rfl (by decide) (by decide) (by decide) 0 rfl rfl rfl rfl rfl dX11_writeText_7 ⟨Nat.le_of_ble_eq_true rfl, Nat.le_of_ble_eq_true rfl⟩ ⟨Nat.le_of_ble_eq_true rfl, Nat.le_of_ble_eq_true rfl⟩ (Nat.le_of_ble_eq_true rfl) (fun r9 w1 H locs hq9 hP hD hS => ?_)
  obtain ⟨rfl, rfl⟩ := hq9
  have hP : va_P D vwCl [(h3, .inl (cI, 60, .inl (upd (fun _ => 0) 0 1))), (h4, .inr (10, [.int 2, .int 0, .int (-4)])), (h0, .inr (11, [.ref g0, .int 0, .ref g1, .ref g2, .ref h1, .ref g3, .ref g4, .ref h4, .ref g5, .ref g6, .ref g7])), (h1, .inr (1, [.ref h2, .ref g8, .ref g9, .ref g10, .ref h3, .ref g11, .ref g12, .int 4, .int 3, .int 0, .int (-1), .int 0])), (h2, .inr (7, [.ref g13, .ref g14, .ref g15, .ref g16, .ref g17, .ref g18, .ref g19, .ref g20, .ref g21, .int 1, .int 1, .int 0]))] H := hP
  have hD : va_D A [(h3, .inl (cI, 60, .inl (upd (fun _ => 0) 0 1))), (h4, .inr (10, [.int 2, .int 0, .int (-4)])), (h0, .inr (11, [.ref g0, .int 0, .ref g1, .ref g2, .ref h1, .ref g3, .ref g4, .ref h4, .ref g5, .ref g6, .ref g7])), (h1, .inr (1, [.ref h2, .ref g8, .ref g9, .ref g10, .ref h3, .ref g11, .ref g12, .int 4, .int 3, .int 0, .int (-1), .int 0])), (h2, .inr (7, [.ref g13, .ref g14, .ref g15, .ref g16, .ref g17, .ref g18, .ref g19, .ref g20, .ref g21, .int 1, .int 1, .int 0]))] := hD
  refine W.widen (k := 0) (n := 0) (Nat.le_of_ble_eq_true rfl) (Nat.le_of_ble_eq_true rfl) ?_
  refine pcn (b := 10) rfl ?_
  refine lv_icmp_lt (tgt := 15) hx hb dX11_writeText_10 (by decide) (fun _ => ?_) (fun h9 => absurd (by decide +kernel) h9)
  refine lv_aload_n hx hb dX11_writeText_15 rfl (lv_at hl 0 rfl) ?_
  refine va_get (D := D) (ci := 11) (v := .ref h1) (C := RX11) (T := TX11) (N := 11) hx hb hts inX11 hown hK hP 2 rfl rfl 4 (by decide) (hts _ wm_586) (fun _ h9 => h9) rfl dX11_writeText_16 ?_
  refine va_getN (D := D) (ci := 1) (v := .ref g8) (C := RX1) (T := TX1) (N := 12) hx hb hts inX1 hown hK hP 3 rfl rfl 1 (by decide) (va_Nw.use rfl (hnw _ wn_280)) (fun _ h9 => h9) rfl dX11_writeText_19 ?_
  refine lv_astore_n (lv' := [(3, .ref g8), (0, .ref h0), (1, .int 1), (2, .int 0)]) hx hb dX11_writeText_22 rfl hl (by decide) rfl (fun ls hl => ?_)
  refine lv_aload_n hx hb dX11_writeText_23 rfl (lv_at hl 1 rfl) ?_
  refine va_get (D := D) (ci := 11) (v := .ref h1) (C := RX11) (T := TX11) (N := 11) hx hb hts inX11 hown hK hP 2 rfl rfl 4 (by decide) (hts _ wm_586) (fun _ h9 => h9) rfl dX11_writeText_24 ?_
  refine va_getN (D := D) (ci := 1) (v := .ref g9) (C := RX1) (T := TX1) (N := 12) hx hb hts inX1 hown hK hP 3 rfl rfl 2 (by decide) (va_Nw.use rfl (hnw _ wn_284)) (fun _ h9 => h9) rfl dX11_writeText_27 ?_
  refine pcn (b := 30) rfl ?_
  refine lv_astore (lv' := [(4, .ref g9), (3, .ref g8), (0, .ref h0), (1, .int 1), (2, .int 0)]) hx hb dX11_writeText_30 hl (by decide) rfl (fun ls hl => ?_)
  refine lv_iload_n hx hb dX11_writeText_32 rfl (lv_at hl 3 rfl) ?_
  refine lv_tableIn (off := 77) (tgt := 110) hx hb dX11_writeText_33 (by decide +kernel) (by decide +kernel) (by decide +kernel) (by decide) ?_
  refine lv_aload_n hx hb dX11_writeText_110 rfl (lv_at hl 2 rfl) ?_
  refine va_get (D := D) (ci := 11) (v := .ref h4) (C := RX11) (T := TX11) (N := 11) hx hb hts inX11 hown hK hP 2 rfl rfl 7 (by decide) (hts _ wm_589) (fun _ h9 => h9) rfl dX11_writeText_111 ?_
  refine lv_aload_n hx hb dX11_writeText_114 rfl (lv_at hl 1 rfl) ?_
  refine lv_aload_n hx hb dX11_writeText_115 rfl (lv_at hl 2 rfl) ?_
  refine va_get (D := D) (ci := 11) (v := .ref h1) (C := RX11) (T := TX11) (N := 11) hx hb hts inX11 hown hK hP 2 rfl rfl 4 (by decide) (hts _ wm_586) (fun _ h9 => h9) rfl dX11_writeText_116 ?_
  refine va_getN (D := D) (ci := 1) (v := .ref h3) (C := RX1) (T := TX1) (N := 12) hx hb hts inX1 hown hK hP 3 rfl rfl 4 (by decide) (va_Nw.use rfl (hnw _ wn_289)) (fun _ h9 => h9) rfl dX11_writeText_119 ?_
  refine lv_iload_n hx hb dX11_writeText_122 rfl (lv_at hl 4 rfl) ?_
  refine pcn (b := 123) rfl ?_
  refine kSi (As := [.ref h3, .int 0]) (rest := [.ref g8, .ref h4]) (wr := [(h4, .inr (10, [.int 2, .int 0, .int (-4)])), (h0, .inr (11, [.ref g0, .int 0, .ref g1, .ref g2, .ref h1, .ref g3, .ref g4, .ref h4, .ref g5, .ref g6, .ref g7])), (h1, .inr (1, [.ref h2, .ref g8, .ref g9, .ref g10, .ref h3, .ref g11, .ref g12, .int 4, .int 3, .int 0, .int (-1), .int 0])), (h2, .inr (7, [.ref g13, .ref g14, .ref g15, .ref g16, .ref g17, .ref g18, .ref g19, .ref g20, .ref g21, .int 1, .int 1, .int 0]))]) hx hb hml hown hts hnw hK hP hD hS hA hl.1 (c_X11_at_9 l D cI cZ cB cJ h3) yk_X11_at wm_861 [0] [1, 2, 3, 4] rfl rfl (by decide) (by decide) (by decide) rfl rfl dX11_writeText_123 ⟨Nat.le_of_ble_eq_true rfl, Nat.le_of_ble_eq_true rfl⟩ ⟨Nat.le_of_ble_eq_true rfl, Nat.le_of_ble_eq_true rfl⟩ (Nat.le_of_ble_eq_true rfl) (fun r9 w1 H locs hq9 hP hD hS => ?_)
  obtain ⟨rfl, rfl⟩ := hq9
  have hP : va_P D vwCl [(h4, .inr (10, [.int 2, .int 0, .int (-4)])), (h0, .inr (11, [.ref g0, .int 0, .ref g1, .ref g2, .ref h1, .ref g3, .ref g4, .ref h4, .ref g5, .ref g6, .ref g7])), (h1, .inr (1, [.ref h2, .ref g8, .ref g9, .ref g10, .ref h3, .ref g11, .ref g12, .int 4, .int 3, .int 0, .int (-1), .int 0])), (h2, .inr (7, [.ref g13, .ref g14, .ref g15, .ref g16, .ref g17, .ref g18, .ref g19, .ref g20, .ref g21, .int 1, .int 1, .int 0])), (h3, .inl (cI, 60, .inl (upd (fun _ => 0) 0 1)))] H := hP
  have hD : va_D A [(h4, .inr (10, [.int 2, .int 0, .int (-4)])), (h0, .inr (11, [.ref g0, .int 0, .ref g1, .ref g2, .ref h1, .ref g3, .ref g4, .ref h4, .ref g5, .ref g6, .ref g7])), (h1, .inr (1, [.ref h2, .ref g8, .ref g9, .ref g10, .ref h3, .ref g11, .ref g12, .int 4, .int 3, .int 0, .int (-1), .int 0])), (h2, .inr (7, [.ref g13, .ref g14, .ref g15, .ref g16, .ref g17, .ref g18, .ref g19, .ref g20, .ref g21, .int 1, .int 1, .int 0])), (h3, .inl (cI, 60, .inl (upd (fun _ => 0) 0 1)))] := hD
  refine W.widen (k := 0) (n := 0) (Nat.le_of_ble_eq_true rfl) (Nat.le_of_ble_eq_true rfl) ?_
  refine pcn (b := 126) rfl ?_
  refine lv_bipush (v := 40) hx hb dX11_writeText_126 (by decide +kernel) ?_
  refine zVNv (As := [.ref g8, .int 1, .int 40]) (rest := []) (wr := [(h0, .inr (11, [.ref g0, .int 0, .ref g1, .ref g2, .ref h1, .ref g3, .ref g4, .ref h4, .ref g5, .ref g6, .ref g7])), (h1, .inr (1, [.ref h2, .ref g8, .ref g9, .ref g10, .ref h3, .ref g11, .ref g12, .int 4, .int 3, .int 0, .int (-1), .int 0])), (h2, .inr (7, [.ref g13, .ref g14, .ref g15, .ref g16, .ref g17, .ref g18, .ref g19, .ref g20, .ref g21, .int 1, .int 1, .int 0])), (h3, .inl (cI, 60, .inl (upd (fun _ => 0) 0 1)))]) hSX hx hb hml hown hts hnw hK hP hD hS hA hl.1 (c_X10_writeType_3 l D cI cZ cB cJ ak kv fo h4 g8) yk_X10_writeType wn_862 [0] [1, 2, 3, 4] rfl rfl (by decide) (by decide) (by decide) (rcv hK hP 0 rfl rfl rfl) rfl rfl dX11_writeText_128 ⟨Nat.le_of_ble_eq_true rfl, Nat.le_of_ble_eq_true rfl⟩ ⟨Nat.le_of_ble_eq_true rfl, Nat.le_of_ble_eq_true rfl⟩ (Nat.le_of_ble_eq_true rfl) (fun w1 H locs hq9 hP hD hS => ?_)
  obtain rfl := hq9
  have hP : va_P D vwCl [(h0, .inr (11, [.ref g0, .int 0, .ref g1, .ref g2, .ref h1, .ref g3, .ref g4, .ref h4, .ref g5, .ref g6, .ref g7])), (h1, .inr (1, [.ref h2, .ref g8, .ref g9, .ref g10, .ref h3, .ref g11, .ref g12, .int 4, .int 3, .int 0, .int (-1), .int 0])), (h2, .inr (7, [.ref g13, .ref g14, .ref g15, .ref g16, .ref g17, .ref g18, .ref g19, .ref g20, .ref g21, .int 1, .int 1, .int 0])), (h3, .inl (cI, 60, .inl (upd (fun _ => 0) 0 1))), (h4, .inr (10, [.int 2, .int 3, .int 116]))] H := hP
  have hD : va_D A [(h0, .inr (11, [.ref g0, .int 0, .ref g1, .ref g2, .ref h1, .ref g3, .ref g4, .ref h4, .ref g5, .ref g6, .ref g7])), (h1, .inr (1, [.ref h2, .ref g8, .ref g9, .ref g10, .ref h3, .ref g11, .ref g12, .int 4, .int 3, .int 0, .int (-1), .int 0])), (h2, .inr (7, [.ref g13, .ref g14, .ref g15, .ref g16, .ref g17, .ref g18, .ref g19, .ref g20, .ref g21, .int 1, .int 1, .int 0])), (h3, .inl (cI, 60, .inl (upd (fun _ => 0) 0 1))), (h4, .inr (10, [.int 2, .int 3, .int 116]))] := hD
  refine W.widen (k := 0) (n := 0) (Nat.le_of_ble_eq_true rfl) (Nat.le_of_ble_eq_true rfl) ?_
  refine pcn (b := 131) rfl ?_
  refine lv_goto (tgt := 300) hx hb dX11_writeText_131 (by decide) ?_
  refine lv_iconst (v := 1) hx hb dX11_writeText_300 (by decide +kernel) ?_
  refine W.widen (k := 0) (n := 0) (Nat.le_of_ble_eq_true rfl) (Nat.le_of_ble_eq_true rfl) ?_
  exact rtZ hx hb hr rfl hlocks hS hP hD ⟨rfl, rfl⟩ dX11_writeText_301
