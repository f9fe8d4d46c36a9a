set_option maxHeartbeats 4000000 in
set_option maxRecDepth 100000 in
theorem c_X12_in_0 (l : Launch) (D : va_G) (cI cZ cB cJ : ClassId) (s0 : Int32) (s0l : ((-2147483648) : Int) ≤ s0.toInt) (s0h : s0.toInt ≤ (0 : Int)) : CtI l D (TT cI cZ cB cJ) yX12_in cX12_in 3 (some .boolean) 0 0 0 0 [.int s0, .int 1, .int 240] [] (fun r w1 => r = 0 ∧ w1 = []) := by
  refine CtI.of (by decide +kernel) (Nat.le_of_ble_eq_true rfl) ?_
  intro p e s m below meth c A ls hx hb hr hml hown hts hnw hlocks hin hA hS hP hK hD hl
  have hown : s.vm.findClass RX12 = some m.cls := hown
  have hl : lv_has ls 3 [(0, .int s0), (1, .int 1), (2, .int 240)] := hl
  refine lv_iload_n hx hb dX12_in_0 rfl (lv_at hl 0 rfl) ?_
  refine lv_iload_n hx hb dX12_in_1 rfl (lv_at hl 1 rfl) ?_
  refine lv_icmp_lt (tgt := 14) hx hb dX12_in_2 (by decide) (fun _ => ?_) (fun h9 => absurd (iv_lt s0h (by decide +kernel : (1 : Int) ≤ (1 : Int32).toInt) (by decide)) h9)
  refine lv_iconst (v := 0) hx hb dX12_in_14 (by decide +kernel) ?_
  refine W.widen (k := 0) (n := 0) (Nat.le_of_ble_eq_true rfl) (Nat.le_of_ble_eq_true rfl) ?_
  exact rtZ hx hb hr rfl hlocks hS hP hD ⟨rfl, rfl⟩ dX12_in_15

set_option maxHeartbeats 4000000 in
set_option maxRecDepth 100000 in
theorem c_X12_starts_0 (l : Launch) (D : va_G) (cI cZ cB cJ : ClassId) (h0 g0 g1 g2 g3 g4 g5 g6 g7 g8 g9 g10 g11 g12 g13 g14 g15 g16 g17 g18 g19 g20 g21 g22 g23 g24 g25 g26 g27 g28 g29 g30 g31 g32 g33 g34 g35 g36 g37 g38 g39 g40 g41 g42 g43 g44 g45 g46 g47 g48 g49 g50 g51 g52 g53 g54 g55 g56 g57 g58 g59 g60 g61 g62 g63 g64 g65 g66 g67 g68 g69 : Nat) (s0 : Int32) (s0l : ((-2147483648) : Int) ≤ s0.toInt) (s0h : s0.toInt ≤ (0 : Int)) : CtI l D (TT cI cZ cB cJ) yX12_starts cX12_starts 3 (some .boolean) 1 22 0 0 [.ref h0, .int s0, .int 240] [(h0, .inr (12, [.ref g0, .ref g1, .ref g2, .ref g3, .ref g4, .int 4, .ref g5, .ref g6, .ref g7, .ref g8, .ref g9, .int 0, .ref g10, .ref g11, .ref g12, .ref g13, .ref g14, .ref g15, .ref g16, .ref g17, .int 0, .ref g18, .int 0, .ref g19, .int 0, .int 0, .int 0, .int 0, .int 0, .int 0, .int 0, .int 0, .long 0, .ref g20, .ref g21, .ref g22, .ref g23, .ref g24, .ref g25, .ref g26, .ref g27, .ref g28, .ref g29, .ref g30, .int 0, .int 1, .int 0, .ref g31, .ref g32, .int 0, .ref g33, .ref g34, .ref g35, .ref g36, .int 0, .ref g37, .int 0, .ref g38, .ref g39, .ref g40, .ref g41, .ref g42, .ref g43, .ref g44, .ref g45, .ref g46, .ref g47, .int 0, .int 0, .int 4, .ref g48, .ref g49, .ref g50, .ref g51, .ref g52, .ref g53, .ref g54, .ref g55, .ref g56, .ref g57, .ref g58, .ref g59, .ref g60, .int 0, .int 0, .int 0, .int 0, .int 0, .int 0, .int 0, .int 0, .int 0, .int 0, .int 0, .int 0, .int 0, .int 0, .int 0, .int 0, .int 0, .int 0, .int 0, .int 0, .ref g61, .ref g62, .int 0, .ref g63, .ref g64, .ref g65, .ref g66, .int 0, .int 0, .ref g67, .ref g68, .int 0, .ref g69, .int 0, .int 0]))] (fun r w1 => r = 0 ∧ w1 = [(h0, .inr (12, [.ref g0, .ref g1, .ref g2, .ref g3, .ref g4, .int 4, .ref g5, .ref g6, .ref g7, .ref g8, .ref g9, .int 0, .ref g10, .ref g11, .ref g12, .ref g13, .ref g14, .ref g15, .ref g16, .ref g17, .int 0, .ref g18, .int 0, .ref g19, .int 0, .int 0, .int 0, .int 0, .int 0, .int 0, .int 0, .int 0, .long 0, .ref g20, .ref g21, .ref g22, .ref g23, .ref g24, .ref g25, .ref g26, .ref g27, .ref g28, .ref g29, .ref g30, .int 0, .int 1, .int 0, .ref g31, .ref g32, .int 0, .ref g33, .ref g34, .ref g35, .ref g36, .int 0, .ref g37, .int 0, .ref g38, .ref g39, .ref g40, .ref g41, .ref g42, .ref g43, .ref g44, .ref g45, .ref g46, .ref g47, .int 0, .int 0, .int 4, .ref g48, .ref g49, .ref g50, .ref g51, .ref g52, .ref g53, .ref g54, .ref g55, .ref g56, .ref g57, .ref g58, .ref g59, .ref g60, .int 0, .int 0, .int 0, .int 0, .int 0, .int 0, .int 0, .int 0, .int 0, .int 0, .int 0, .int 0, .int 0, .int 0, .int 0, .int 0, .int 0, .int 0, .int 0, .int 0, .ref g61, .ref g62, .int 0, .ref g63, .ref g64, .ref g65, .ref g66, .int 0, .int 0, .ref g67, .ref g68, .int 0, .ref g69, .int 0, .int 0]))]) := by
  refine CtI.of (by decide +kernel) (Nat.le_of_ble_eq_true rfl) ?_
  intro p e s m below meth c A ls hx hb hr hml hown hts hnw hlocks hin hA hS hP hK hD hl
  have hown : s.vm.findClass RX12 = some m.cls := hown
  have hl : lv_has ls 3 [(0, .ref h0), (1, .int s0), (2, .int 240)] := hl
  refine lv_iload_n hx hb dX12_starts_0 rfl (lv_at hl 1 rfl) ?_
  refine lv_iconst (v := 1) hx hb dX12_starts_1 (by decide +kernel) ?_
  refine lv_iload_n hx hb dX12_starts_2 rfl (lv_at hl 2 rfl) ?_
  refine kSi (As := [.int s0, .int 1, .int 240]) (rest := []) (wr := [(h0, .inr (12, [.ref g0, .ref g1, .ref g2, .ref g3, .ref g4, .int 4, .ref g5, .ref g6, .ref g7, .ref g8, .ref g9, .int 0, .ref g10, .ref g11, .ref g12, .ref g13, .ref g14, .ref g15, .ref g16, .ref g17, .int 0, .ref g18, .int 0, .ref g19, .int 0, .int 0, .int 0, .int 0, .int 0, .int 0, .int 0, .int 0, .long 0, .ref g20, .ref g21, .ref g22, .ref g23, .ref g24, .ref g25, .ref g26, .ref g27, .ref g28, .ref g29, .ref g30, .int 0, .int 1, .int 0, .ref g31, .ref g32, .int 0, .ref g33, .ref g34, .ref g35, .ref g36, .int 0, .ref g37, .int 0, .ref g38, .ref g39, .ref g40, .ref g41, .ref g42, .ref g43, .ref g44, .ref g45, .ref g46, .ref g47, .int 0, .int 0, .int 4, .ref g48, .ref g49, .ref g50, .ref g51, .ref g52, .ref g53, .ref g54, .ref g55, .ref g56, .ref g57, .ref g58, .ref g59, .ref g60, .int 0, .int 0, .int 0, .int 0, .int 0, .int 0, .int 0, .int 0, .int 0, .int 0, .int 0, .int 0, .int 0, .int 0, .int 0, .int 0, .int 0, .int 0, .int 0, .int 0, .ref g61, .ref g62, .int 0, .ref g63, .ref g64, .ref g65, .ref g66, .int 0, .int 0, .ref g67, .ref g68, .int 0, .ref g69, .int 0, .int 0]))]) hx hb hml hown hts hnw hK hP hD hS hA hl.1 (c_X12_in_0 l D cI cZ cB cJ s0 s0l s0h) yk_X12_in wm_1739 [] [0] rfl rfl (by decide) (by decide) (by decide) rfl rfl dX12_starts_3 ⟨Nat.le_of_ble_eq_true rfl, Nat.le_of_ble_eq_true rfl⟩ ⟨Nat.le_of_ble_eq_true rfl, Nat.le_of_ble_eq_true rfl⟩ (Nat.le_of_ble_eq_true rfl) (fun r9 w1 H locs hq9 hP hD hS => ?_)
  obtain ⟨rfl, rfl⟩ := hq9
  have hP : va_P D vwCl [(h0, .inr (12, [.ref g0, .ref g1, .ref g2, .ref g3, .ref g4, .int 4, .ref g5, .ref g6, .ref g7, .ref g8, .ref g9, .int 0, .ref g10, .ref g11, .ref g12, .ref g13, .ref g14, .ref g15, .ref g16, .ref g17, .int 0, .ref g18, .int 0, .ref g19, .int 0, .int 0, .int 0, .int 0, .int 0, .int 0, .int 0, .int 0, .long 0, .ref g20, .ref g21, .ref g22, .ref g23, .ref g24, .ref g25, .ref g26, .ref g27, .ref g28, .ref g29, .ref g30, .int 0, .int 1, .int 0, .ref g31, .ref g32, .int 0, .ref g33, .ref g34, .ref g35, .ref g36, .int 0, .ref g37, .int 0, .ref g38, .ref g39, .ref g40, .ref g41, .ref g42, .ref g43, .ref g44, .ref g45, .ref g46, .ref g47, .int 0, .int 0, .int 4, .ref g48, .ref g49, .ref g50, .ref g51, .ref g52, .ref g53, .ref g54, .ref g55, .ref g56, .ref g57, .ref g58, .ref g59, .ref g60, .int 0, .int 0, .int 0, .int 0, .int 0, .int 0, .int 0, .int 0, .int 0, .int 0, .int 0, .int 0, .int 0, .int 0, .int 0, .int 0, .int 0, .int 0, .int 0, .int 0, .ref g61, .ref g62, .int 0, .ref g63, .ref g64, .ref g65, .ref g66, .int 0, .int 0, .ref g67, .ref g68, .int 0, .ref g69, .int 0, .int 0]))] H := hP
  have hD : va_D A [(h0, .inr (12, [.ref g0, .ref g1, .ref g2, .ref g3, .ref g4, .int 4, .ref g5, .ref g6, .ref g7, .ref g8, .ref g9, .int 0, .ref g10, .ref g11, .ref g12, .ref g13, .ref g14, .ref g15, .ref g16, .ref g17, .int 0, .ref g18, .int 0, .ref g19, .int 0, .int 0, .int 0, .int 0, .int 0, .int 0, .int 0, .int 0, .long 0, .ref g20, .ref g21, .ref g22, .ref g23, .ref g24, .ref g25, .ref g26, .ref g27, .ref g28, .ref g29, .ref g30, .int 0, .int 1, .int 0, .ref g31, .ref g32, .int 0, .ref g33, .ref g34, .ref g35, .ref g36, .int 0, .ref g37, .int 0, .ref g38, .ref g39, .ref g40, .ref g41, .ref g42, .ref g43, .ref g44, .ref g45, .ref g46, .ref g47, .int 0, .int 0, .int 4, .ref g48, .ref g49, .ref g50, .ref g51, .ref g52, .ref g53, .ref g54, .ref g55, .ref g56, .ref g57, .ref g58, .ref g59, .ref g60, .int 0, .int 0, .int 0, .int 0, .int 0, .int 0, .int 0, .int 0, .int 0, .int 0, .int 0, .int 0, .int 0, .int 0, .int 0, .int 0, .int 0, .int 0, .int 0, .int 0, .ref g61, .ref g62, .int 0, .ref g63, .ref g64, .ref g65, .ref g66, .int 0, .int 0, .ref g67, .ref g68, .int 0, .ref g69, .int 0, .int 0]))] := hD
  refine W.widen (k := 0) (n := 0) (Nat.le_of_ble_eq_true rfl) (Nat.le_of_ble_eq_true rfl) ?_
  refine pcn (b := 6) rfl ?_
  refine lv_if_eq (tgt := 17) hx hb dX12_starts_6 (by decide) (fun _ => ?_) (fun h9 => absurd (by decide +kernel) h9)
  refine lv_iconst (v := 0) hx hb dX12_starts_17 (by decide +kernel) ?_
  refine W.widen (k := 0) (n := 0) (Nat.le_of_ble_eq_true rfl) (Nat.le_of_ble_eq_true rfl) ?_
  exact rtZ hx hb hr rfl hlocks hS hP hD ⟨rfl, rfl⟩ dX12_starts_18

set_option maxHeartbeats 4000000 in
set_option maxRecDepth 100000 in
theorem c_X12_in_1 (l : Launch) (D : va_G) (cI cZ cB cJ : ClassId) (s0 : Int32) (s0l : (1 : Int) ≤ s0.toInt) (s0h : s0.toInt ≤ (240 : Int)) : CtI l D (TT cI cZ cB cJ) yX12_in cX12_in 3 (some .boolean) 0 0 0 0 [.int s0, .int 1, .int 240] [] (fun r w1 => r = 1 ∧ w1 = []) := by
  refine CtI.of (by decide +kernel) (Nat.le_of_ble_eq_true rfl) ?_
  intro p e s m below meth c A ls hx hb hr hml hown hts hnw hlocks hin hA hS hP hK hD hl
  have hown : s.vm.findClass RX12 = some m.cls := hown
  have hl : lv_has ls 3 [(0, .int s0), (1, .int 1), (2, .int 240)] := hl
  refine lv_iload_n hx hb dX12_in_0 rfl (lv_at hl 0 rfl) ?_
  refine lv_iload_n hx hb dX12_in_1 rfl (lv_at hl 1 rfl) ?_
  refine lv_icmp_lt (tgt := 14) hx hb dX12_in_2 (by decide) (fun h9 => absurd h9 (iv_nlt s0l (by decide +kernel : (1 : Int32).toInt ≤ (1 : Int)) (by decide))) (fun _ => ?_)
  refine lv_iload_n hx hb dX12_in_5 rfl (lv_at hl 0 rfl) ?_
  refine lv_iload_n hx hb dX12_in_6 rfl (lv_at hl 2 rfl) ?_
  refine lv_icmp_gt (tgt := 14) hx hb dX12_in_7 (by decide) (fun h9 => absurd h9 (iv_nlt (by decide +kernel : (240 : Int) ≤ (240 : Int32).toInt) s0h (by decide))) (fun _ => ?_)
  refine lv_iconst (v := 1) hx hb dX12_in_10 (by decide +kernel) ?_
  refine pcn (b := 11) rfl ?_
  refine lv_goto (tgt := 15) hx hb dX12_in_11 (by decide) ?_
  refine W.widen (k := 0) (n := 0) (Nat.le_of_ble_eq_true rfl) (Nat.le_of_ble_eq_true rfl) ?_
  exact rtZ hx hb hr rfl hlocks hS hP hD ⟨rfl, rfl⟩ dX12_in_15

set_option maxHeartbeats 4000000 in
set_option maxRecDepth 100000 in
theorem c_X12_starts_1 (l : Launch) (D : va_G) (cI cZ cB cJ : ClassId) (h0 g0 g1 g2 g3 g4 g5 g6 g7 g8 g9 g10 g11 g12 g13 g14 g15 g16 g17 g18 g19 g20 g21 g22 g23 g24 g25 g26 g27 g28 g29 g30 g31 g32 g33 g34 g35 g36 g37 g38 g39 g40 g41 g42 g43 g44 g45 g46 g47 g48 g49 g50 g51 g52 g53 g54 g55 g56 g57 g58 g59 g60 g61 g62 g63 g64 g65 g66 g67 g68 g69 : Nat) (s0 : Int32) (s0l : (1 : Int) ≤ s0.toInt) (s0h : s0.toInt ≤ (240 : Int)) : CtI l D (TT cI cZ cB cJ) yX12_starts cX12_starts 3 (some .boolean) 1 22 0 0 [.ref h0, .int s0, .int 240] [(h0, .inr (12, [.ref g0, .ref g1, .ref g2, .ref g3, .ref g4, .int 4, .ref g5, .ref g6, .ref g7, .ref g8, .ref g9, .int 0, .ref g10, .ref g11, .ref g12, .ref g13, .ref g14, .ref g15, .ref g16, .ref g17, .int 0, .ref g18, .int 0, .ref g19, .int 0, .int 0, .int 0, .int 0, .int 0, .int 0, .int 0, .int 0, .long 0, .ref g20, .ref g21, .ref g22, .ref g23, .ref g24, .ref g25, .ref g26, .ref g27, .ref g28, .ref g29, .ref g30, .int 0, .int 1, .int 0, .ref g31, .ref g32, .int 0, .ref g33, .ref g34, .ref g35, .ref g36, .int 0, .ref g37, .int 0, .ref g38, .ref g39, .ref g40, .ref g41, .ref g42, .ref g43, .ref g44, .ref g45, .ref g46, .ref g47, .int 0, .int 0, .int 4, .ref g48, .ref g49, .ref g50, .ref g51, .ref g52, .ref g53, .ref g54, .ref g55, .ref g56, .ref g57, .ref g58, .ref g59, .ref g60, .int 0, .int 0, .int 0, .int 0, .int 0, .int 0, .int 0, .int 0, .int 0, .int 0, .int 0, .int 0, .int 0, .int 0, .int 0, .int 0, .int 0, .int 0, .int 0, .int 0, .ref g61, .ref g62, .int 0, .ref g63, .ref g64, .ref g65, .ref g66, .int 0, .int 0, .ref g67, .ref g68, .int 0, .ref g69, .int 0, .int 0]))] (fun r w1 => r = 0 ∧ w1 = [(h0, .inr (12, [.ref g0, .ref g1, .ref g2, .ref g3, .ref g4, .int 4, .ref g5, .ref g6, .ref g7, .ref g8, .ref g9, .int 0, .ref g10, .ref g11, .ref g12, .ref g13, .ref g14, .ref g15, .ref g16, .ref g17, .int 0, .ref g18, .int 0, .ref g19, .int 0, .int 0, .int 0, .int 0, .int 0, .int 0, .int 0, .int 0, .long 0, .ref g20, .ref g21, .ref g22, .ref g23, .ref g24, .ref g25, .ref g26, .ref g27, .ref g28, .ref g29, .ref g30, .int 0, .int 1, .int 0, .ref g31, .ref g32, .int 0, .ref g33, .ref g34, .ref g35, .ref g36, .int 0, .ref g37, .int 0, .ref g38, .ref g39, .ref g40, .ref g41, .ref g42, .ref g43, .ref g44, .ref g45, .ref g46, .ref g47, .int 0, .int 0, .int 4, .ref g48, .ref g49, .ref g50, .ref g51, .ref g52, .ref g53, .ref g54, .ref g55, .ref g56, .ref g57, .ref g58, .ref g59, .ref g60, .int 0, .int 0, .int 0, .int 0, .int 0, .int 0, .int 0, .int 0, .int 0, .int 0, .int 0, .int 0, .int 0, .int 0, .int 0, .int 0, .int 0, .int 0, .int 0, .int 0, .ref g61, .ref g62, .int 0, .ref g63, .ref g64, .ref g65, .ref g66, .int 0, .int 0, .ref g67, .ref g68, .int 0, .ref g69, .int 0, .int 0]))]) := by
  refine CtI.of (by decide +kernel) (Nat.le_of_ble_eq_true rfl) ?_
  intro p e s m below meth c A ls hx hb hr hml hown hts hnw hlocks hin hA hS hP hK hD hl
  have hown : s.vm.findClass RX12 = some m.cls := hown
  have hl : lv_has ls 3 [(0, .ref h0), (1, .int s0), (2, .int 240)] := hl
  refine lv_iload_n hx hb dX12_starts_0 rfl (lv_at hl 1 rfl) ?_
  refine lv_iconst (v := 1) hx hb dX12_starts_1 (by decide +kernel) ?_
  refine lv_iload_n hx hb dX12_starts_2 rfl (lv_at hl 2 rfl) ?_
  refine kSi (As := [.int s0, .int 1, .int 240]) (rest := []) (wr := [(h0, .inr (12, [.ref g0, .ref g1, .ref g2, .ref g3, .ref g4, .int 4, .ref g5, .ref g6, .ref g7, .ref g8, .ref g9, .int 0, .ref g10, .ref g11, .ref g12, .ref g13, .ref g14, .ref g15, .ref g16, .ref g17, .int 0, .ref g18, .int 0, .ref g19, .int 0, .int 0, .int 0, .int 0, .int 0, .int 0, .int 0, .int 0, .long 0, .ref g20, .ref g21, .ref g22, .ref g23, .ref g24, .ref g25, .ref g26, .ref g27, .ref g28, .ref g29, .ref g30, .int 0, .int 1, .int 0, .ref g31, .ref g32, .int 0, .ref g33, .ref g34, .ref g35, .ref g36, .int 0, .ref g37, .int 0, .ref g38, .ref g39, .ref g40, .ref g41, .ref g42, .ref g43, .ref g44, .ref g45, .ref g46, .ref g47, .int 0, .int 0, .int 4, .ref g48, .ref g49, .ref g50, .ref g51, .ref g52, .ref g53, .ref g54, .ref g55, .ref g56, .ref g57, .ref g58, .ref g59, .ref g60, .int 0, .int 0, .int 0, .int 0, .int 0, .int 0, .int 0, .int 0, .int 0, .int 0, .int 0, .int 0, .int 0, .int 0, .int 0, .int 0, .int 0, .int 0, .int 0, .int 0, .ref g61, .ref g62, .int 0, .ref g63, .ref g64, .ref g65, .ref g66, .int 0, .int 0, .ref g67, .ref g68, .int 0, .ref g69, .int 0, .int 0]))]) hx hb hml hown hts hnw hK hP hD hS hA hl.1 (c_X12_in_1 l D cI cZ cB cJ s0 s0l s0h) yk_X12_in wm_1739 [] [0] rfl rfl (by decide) (by decide) (by decide) rfl rfl dX12_starts_3 ⟨Nat.le_of_ble_eq_true rfl, Nat.le_of_ble_eq_true rfl⟩ ⟨Nat.le_of_ble_eq_true rfl, Nat.le_of_ble_eq_true rfl⟩ (Nat.le_of_ble_eq_true rfl) (fun r9 w1 H locs hq9 hP hD hS => ?_)
  obtain ⟨rfl, rfl⟩ := hq9
  have hP : va_P D vwCl [(h0, .inr (12, [.ref g0, .ref g1, .ref g2, .ref g3, .ref g4, .int 4, .ref g5, .ref g6, .ref g7, .ref g8, .ref g9, .int 0, .ref g10, .ref g11, .ref g12, .ref g13, .ref g14, .ref g15, .ref g16, .ref g17, .int 0, .ref g18, .int 0, .ref g19, .int 0, .int 0, .int 0, .int 0, .int 0, .int 0, .int 0, .int 0, .long 0, .ref g20, .ref g21, .ref g22, .ref g23, .ref g24, .ref g25, .ref g26, .ref g27, .ref g28, .ref g29, .ref g30, .int 0, .int 1, .int 0, .ref g31, .ref g32, .int 0, .ref g33, .ref g34, .ref g35, .ref g36, .int 0, .ref g37, .int 0, .ref g38, .ref g39, .ref g40, .ref g41, .ref g42, .ref g43, .ref g44, .ref g45, .ref g46, .ref g47, .int 0, .int 0, .int 4, .ref g48, .ref g49, .ref g50, .ref g51, .ref g52, .ref g53, .ref g54, .ref g55, .ref g56, .ref g57, .ref g58, .ref g59, .ref g60, .int 0, .int 0, .int 0, .int 0, .int 0, .int 0, .int 0, .int 0, .int 0, .int 0, .int 0, .int 0, .int 0, .int 0, .int 0, .int 0, .int 0, .int 0, .int 0, .int 0, .ref g61, .ref g62, .int 0, .ref g63, .ref g64, .ref g65, .ref g66, .int 0, .int 0, .ref g67, .ref g68, .int 0, .ref g69, .int 0, .int 0]))] H := hP
  have hD : va_D A [(h0, .inr (12, [.ref g0, .ref g1, .ref g2, .ref g3, .ref g4, .int 4, .ref g5, .ref g6, .ref g7, .ref g8, .ref g9, .int 0, .ref g10, .ref g11, .ref g12, .ref g13, .ref g14, .ref g15, .ref g16, .ref g17, .int 0, .ref g18, .int 0, .ref g19, .int 0, .int 0, .int 0, .int 0, .int 0, .int 0, .int 0, .int 0, .long 0, .ref g20, .ref g21, .ref g22, .ref g23, .ref g24, .ref g25, .ref g26, .ref g27, .ref g28, .ref g29, .ref g30, .int 0, .int 1, .int 0, .ref g31, .ref g32, .int 0, .ref g33, .ref g34, .ref g35, .ref g36, .int 0, .ref g37, .int 0, .ref g38, .ref g39, .ref g40, .ref g41, .ref g42, .ref g43, .ref g44, .ref g45, .ref g46, .ref g47, .int 0, .int 0, .int 4, .ref g48, .ref g49, .ref g50, .ref g51, .ref g52, .ref g53, .ref g54, .ref g55, .ref g56, .ref g57, .ref g58, .ref g59, .ref g60, .int 0, .int 0, .int 0, .int 0, .int 0, .int 0, .int 0, .int 0, .int 0, .int 0, .int 0, .int 0, .int 0, .int 0, .int 0, .int 0, .int 0, .int 0, .int 0, .int 0, .ref g61, .ref g62, .int 0, .ref g63, .ref g64, .ref g65, .ref g66, .int 0, .int 0, .ref g67, .ref g68, .int 0, .ref g69, .int 0, .int 0]))] := hD
  refine W.widen (k := 0) (n := 0) (Nat.le_of_ble_eq_true rfl) (Nat.le_of_ble_eq_true rfl) ?_
  refine pcn (b := 6) rfl ?_
  refine lv_if_eq (tgt := 17) hx hb dX12_starts_6 (by decide) (fun h9 => absurd h9 (by decide +kernel)) (fun _ => ?_)
  refine lv_iload_n hx hb dX12_starts_9 rfl (lv_at hl 1 rfl) ?_
  refine lv_aload_n hx hb dX12_starts_10 rfl (lv_at hl 0 rfl) ?_
  refine va_get (D := D) (ci := 12) (v := .int 0) (C := RX12) (T := TX12) (N := 118) hx hb hts inX12 hown hK hP 0 rfl rfl 24 (by decide) (hts _ wm_1391) (fun _ h9 => h9) rfl dX12_starts_11 ?_
  refine lv_icmp_le (tgt := 19) hx hb dX12_starts_14 (by decide) (fun h9 => absurd h9 (iv_nle s0l (by decide +kernel : (0 : Int32).toInt ≤ (0 : Int)) (by decide))) (fun _ => ?_)
  refine lv_iconst (v := 0) hx hb dX12_starts_17 (by decide +kernel) ?_
  refine W.widen (k := 0) (n := 0) (Nat.le_of_ble_eq_true rfl) (Nat.le_of_ble_eq_true rfl) ?_
  exact rtZ hx hb hr rfl hlocks hS hP hD ⟨rfl, rfl⟩ dX12_starts_18

set_option maxHeartbeats 4000000 in
set_option maxRecDepth 100000 in
theorem c_X12_in_2 (l : Launch) (D : va_G) (cI cZ cB cJ : ClassId) (s0 : Int32) (s0l : (241 : Int) ≤ s0.toInt) (s0h : s0.toInt ≤ (2147483647 : Int)) : CtI l D (TT cI cZ cB cJ) yX12_in cX12_in 3 (some .boolean) 0 0 0 0 [.int s0, .int 1, .int 240] [] (fun r w1 => r = 0 ∧ w1 = []) := by
  refine CtI.of (by decide +kernel) (Nat.le_of_ble_eq_true rfl) ?_
  intro p e s m below meth c A ls hx hb hr hml hown hts hnw hlocks hin hA hS hP hK hD hl
  have hown : s.vm.findClass RX12 = some m.cls := hown
  have hl : lv_has ls 3 [(0, .int s0), (1, .int 1), (2, .int 240)] := hl
  refine lv_iload_n hx hb dX12_in_0 rfl (lv_at hl 0 rfl) ?_
  refine lv_iload_n hx hb dX12_in_1 rfl (lv_at hl 1 rfl) ?_
  refine lv_icmp_lt (tgt := 14) hx hb dX12_in_2 (by decide) (fun h9 => absurd h9 (iv_nlt s0l (by decide +kernel : (1 : Int32).toInt ≤ (1 : Int)) (by decide))) (fun _ => ?_)
  refine lv_iload_n hx hb dX12_in_5 rfl (lv_at hl 0 rfl) ?_
  refine lv_iload_n hx hb dX12_in_6 rfl (lv_at hl 2 rfl) ?_
  refine lv_icmp_gt (tgt := 14) hx hb dX12_in_7 (by decide) (fun _ => ?_) (fun h9 => absurd (iv_lt (by decide +kernel : (240 : Int32).toInt ≤ (240 : Int)) s0l (by decide)) h9)
  refine lv_iconst (v := 0) hx hb dX12_in_14 (by decide +kernel) ?_
  refine W.widen (k := 0) (n := 0) (Nat.le_of_ble_eq_true rfl) (Nat.le_of_ble_eq_true rfl) ?_
  exact rtZ hx hb hr rfl hlocks hS hP hD ⟨rfl, rfl⟩ dX12_in_15

set_option maxHeartbeats 4000000 in
set_option maxRecDepth 100000 in
theorem c_X12_starts_2 (l : Launch) (D : va_G) (cI cZ cB cJ : ClassId) (h0 g0 g1 g2 g3 g4 g5 g6 g7 g8 g9 g10 g11 g12 g13 g14 g15 g16 g17 g18 g19 g20 g21 g22 g23 g24 g25 g26 g27 g28 g29 g30 g31 g32 g33 g34 g35 g36 g37 g38 g39 g40 g41 g42 g43 g44 g45 g46 g47 g48 g49 g50 g51 g52 g53 g54 g55 g56 g57 g58 g59 g60 g61 g62 g63 g64 g65 g66 g67 g68 g69 : Nat) (s0 : Int32) (s0l : (241 : Int) ≤ s0.toInt) (s0h : s0.toInt ≤ (2147483647 : Int)) : CtI l D (TT cI cZ cB cJ) yX12_starts cX12_starts 3 (some .boolean) 1 22 0 0 [.ref h0, .int s0, .int 240] [(h0, .inr (12, [.ref g0, .ref g1, .ref g2, .ref g3, .ref g4, .int 4, .ref g5, .ref g6, .ref g7, .ref g8, .ref g9, .int 0, .ref g10, .ref g11, .ref g12, .ref g13, .ref g14, .ref g15, .ref g16, .ref g17, .int 0, .ref g18, .int 0, .ref g19, .int 0, .int 0, .int 0, .int 0, .int 0, .int 0, .int 0, .int 0, .long 0, .ref g20, .ref g21, .ref g22, .ref g23, .ref g24, .ref g25, .ref g26, .ref g27, .ref g28, .ref g29, .ref g30, .int 0, .int 1, .int 0, .ref g31, .ref g32, .int 0, .ref g33, .ref g34, .ref g35, .ref g36, .int 0, .ref g37, .int 0, .ref g38, .ref g39, .ref g40, .ref g41, .ref g42, .ref g43, .ref g44, .ref g45, .ref g46, .ref g47, .int 0, .int 0, .int 4, .ref g48, .ref g49, .ref g50, .ref g51, .ref g52, .ref g53, .ref g54, .ref g55, .ref g56, .ref g57, .ref g58, .ref g59, .ref g60, .int 0, .int 0, .int 0, .int 0, .int 0, .int 0, .int 0, .int 0, .int 0, .int 0, .int 0, .int 0, .int 0, .int 0, .int 0, .int 0, .int 0, .int 0, .int 0, .int 0, .ref g61, .ref g62, .int 0, .ref g63, .ref g64, .ref g65, .ref g66, .int 0, .int 0, .ref g67, .ref g68, .int 0, .ref g69, .int 0, .int 0]))] (fun r w1 => r = 0 ∧ w1 = [(h0, .inr (12, [.ref g0, .ref g1, .ref g2, .ref g3, .ref g4, .int 4, .ref g5, .ref g6, .ref g7, .ref g8, .ref g9, .int 0, .ref g10, .ref g11, .ref g12, .ref g13, .ref g14, .ref g15, .ref g16, .ref g17, .int 0, .ref g18, .int 0, .ref g19, .int 0, .int 0, .int 0, .int 0, .int 0, .int 0, .int 0, .int 0, .long 0, .ref g20, .ref g21, .ref g22, .ref g23, .ref g24, .ref g25, .ref g26, .ref g27, .ref g28, .ref g29, .ref g30, .int 0, .int 1, .int 0, .ref g31, .ref g32, .int 0, .ref g33, .ref g34, .ref g35, .ref g36, .int 0, .ref g37, .int 0, .ref g38, .ref g39, .ref g40, .ref g41, .ref g42, .ref g43, .ref g44, .ref g45, .ref g46, .ref g47, .int 0, .int 0, .int 4, .ref g48, .ref g49, .ref g50, .ref g51, .ref g52, .ref g53, .ref g54, .ref g55, .ref g56, .ref g57, .ref g58, .ref g59, .ref g60, .int 0, .int 0, .int 0, .int 0, .int 0, .int 0, .int 0, .int 0, .int 0, .int 0, .int 0, .int 0, .int 0, .int 0, .int 0, .int 0, .int 0, .int 0, .int 0, .int 0, .ref g61, .ref g62, .int 0, .ref g63, .ref g64, .ref g65, .ref g66, .int 0, .int 0, .ref g67, .ref g68, .int 0, .ref g69, .int 0, .int 0]))]) := by
  refine CtI.of (by decide +kernel) (Nat.le_of_ble_eq_true rfl) ?_
  intro p e s m below meth c A ls hx hb hr hml hown hts hnw hlocks hin hA hS hP hK hD hl
  have hown : s.vm.findClass RX12 = some m.cls := hown
  have hl : lv_has ls 3 [(0, .ref h0), (1, .int s0), (2, .int 240)] := hl
  refine lv_iload_n hx hb dX12_starts_0 rfl (lv_at hl 1 rfl) ?_
  refine lv_iconst (v := 1) hx hb dX12_starts_1 (by decide +kernel) ?_
  refine lv_iload_n hx hb dX12_starts_2 rfl (lv_at hl 2 rfl) ?_
  refine kSi (As := [.int s0, .int 1, .int 240]) (rest := []) (wr := [(h0, .inr (12, [.ref g0, .ref g1, .ref g2, .ref g3, .ref g4, .int 4, .ref g5, .ref g6, .ref g7, .ref g8, .ref g9, .int 0, .ref g10, .ref g11, .ref g12, .ref g13, .ref g14, .ref g15, .ref g16, .ref g17, .int 0, .ref g18, .int 0, .ref g19, .int 0, .int 0, .int 0, .int 0, .int 0, .int 0, .int 0, .int 0, .long 0, .ref g20, .ref g21, .ref g22, .ref g23, .ref g24, .ref g25, .ref g26, .ref g27, .ref g28, .ref g29, .ref g30, .int 0, .int 1, .int 0, .ref g31, .ref g32, .int 0, .ref g33, .ref g34, .ref g35, .ref g36, .int 0, .ref g37, .int 0, .ref g38, .ref g39, .ref g40, .ref g41, .ref g42, .ref g43, .ref g44, .ref g45, .ref g46, .ref g47, .int 0, .int 0, .int 4, .ref g48, .ref g49, .ref g50, .ref g51, .ref g52, .ref g53, .ref g54, .ref g55, .ref g56, .ref g57, .ref g58, .ref g59, .ref g60, .int 0, .int 0, .int 0, .int 0, .int 0, .int 0, .int 0, .int 0, .int 0, .int 0, .int 0, .int 0, .int 0, .int 0, .int 0, .int 0, .int 0, .int 0, .int 0, .int 0, .ref g61, .ref g62, .int 0, .ref g63, .ref g64, .ref g65, .ref g66, .int 0, .int 0, .ref g67, .ref g68, .int 0, .ref g69, .int 0, .int 0]))]) hx hb hml hown hts hnw hK hP hD hS hA hl.1 (c_X12_in_2 l D cI cZ cB cJ s0 s0l s0h) yk_X12_in wm_1739 [] [0] rfl rfl (by decide) (by decide) (by decide) rfl rfl dX12_starts_3 ⟨Nat.le_of_ble_eq_true rfl, Nat.le_of_ble_eq_true rfl⟩ ⟨Nat.le_of_ble_eq_true rfl, Nat.le_of_ble_eq_true rfl⟩ (Nat.le_of_ble_eq_true rfl) (fun r9 w1 H locs hq9 hP hD hS => ?_)
  obtain ⟨rfl, rfl⟩ := hq9
  have hP : va_P D vwCl [(h0, .inr (12, [.ref g0, .ref g1, .ref g2, .ref g3, .ref g4, .int 4, .ref g5, .ref g6, .ref g7, .ref g8, .ref g9, .int 0, .ref g10, .ref g11, .ref g12, .ref g13, .ref g14, .ref g15, .ref g16, .ref g17, .int 0, .ref g18, .int 0, .ref g19, .int 0, .int 0, .int 0, .int 0, .int 0, .int 0, .int 0, .int 0, .long 0, .ref g20, .ref g21, .ref g22, .ref g23, .ref g24, .ref g25, .ref g26, .ref g27, .ref g28, .ref g29, .ref g30, .int 0, .int 1, .int 0, .ref g31, .ref g32, .int 0, .ref g33, .ref g34, .ref g35, .ref g36, .int 0, .ref g37, .int 0, .ref g38, .ref g39, .ref g40, .ref g41, .ref g42, .ref g43, .ref g44, .ref g45, .ref g46, .ref g47, .int 0, .int 0, .int 4, .ref g48, .ref g49, .ref g50, .ref g51, .ref g52, .ref g53, .ref g54, .ref g55, .ref g56, .ref g57, .ref g58, .ref g59, .ref g60, .int 0, .int 0, .int 0, .int 0, .int 0, .int 0, .int 0, .int 0, .int 0, .int 0, .int 0, .int 0, .int 0, .int 0, .int 0, .int 0, .int 0, .int 0, .int 0, .int 0, .ref g61, .ref g62, .int 0, .ref g63, .ref g64, .ref g65, .ref g66, .int 0, .int 0, .ref g67, .ref g68, .int 0, .ref g69, .int 0, .int 0]))] H := hP
  have hD : va_D A [(h0, .inr (12, [.ref g0, .ref g1, .ref g2, .ref g3, .ref g4, .int 4, .ref g5, .ref g6, .ref g7, .ref g8, .ref g9, .int 0, .ref g10, .ref g11, .ref g12, .ref g13, .ref g14, .ref g15, .ref g16, .ref g17, .int 0, .ref g18, .int 0, .ref g19, .int 0, .int 0, .int 0, .int 0, .int 0, .int 0, .int 0, .int 0, .long 0, .ref g20, .ref g21, .ref g22, .ref g23, .ref g24, .ref g25, .ref g26, .ref g27, .ref g28, .ref g29, .ref g30, .int 0, .int 1, .int 0, .ref g31, .ref g32, .int 0, .ref g33, .ref g34, .ref g35, .ref g36, .int 0, .ref g37, .int 0, .ref g38, .ref g39, .ref g40, .ref g41, .ref g42, .ref g43, .ref g44, .ref g45, .ref g46, .ref g47, .int 0, .int 0, .int 4, .ref g48, .ref g49, .ref g50, .ref g51, .ref g52, .ref g53, .ref g54, .ref g55, .ref g56, .ref g57, .ref g58, .ref g59, .ref g60, .int 0, .int 0, .int 0, .int 0, .int 0, .int 0, .int 0, .int 0, .int 0, .int 0, .int 0, .int 0, .int 0, .int 0, .int 0, .int 0, .int 0, .int 0, .int 0, .int 0, .ref g61, .ref g62, .int 0, .ref g63, .ref g64, .ref g65, .ref g66, .int 0, .int 0, .ref g67, .ref g68, .int 0, .ref g69, .int 0, .int 0]))] := hD
  refine W.widen (k := 0) (n := 0) (Nat.le_of_ble_eq_true rfl) (Nat.le_of_ble_eq_true rfl) ?_
  refine pcn (b := 6) rfl ?_
  refine lv_if_eq (tgt := 17) hx hb dX12_starts_6 (by decide) (fun _ => ?_) (fun h9 => absurd (by decide +kernel) h9)
  refine lv_iconst (v := 0) hx hb dX12_starts_17 (by decide +kernel) ?_
  refine W.widen (k := 0) (n := 0) (Nat.le_of_ble_eq_true rfl) (Nat.le_of_ble_eq_true rfl) ?_
  exact rtZ hx hb hr rfl hlocks hS hP hD ⟨rfl, rfl⟩ dX12_starts_18

set_option maxHeartbeats 4000000 in
set_option maxRecDepth 100000 in
theorem c_X12_in_3 (l : Launch) (D : va_G) (cI cZ cB cJ : ClassId) (s0 : Int32) (s0l : ((-2147483648) : Int) ≤ s0.toInt) (s0h : s0.toInt ≤ (0 : Int)) : CtI l D (TT cI cZ cB cJ) yX12_in cX12_in 3 (some .boolean) 0 0 0 0 [.int s0, .int 1, .int 100] [] (fun r w1 => r = 0 ∧ w1 = []) := by
  refine CtI.of (by decide +kernel) (Nat.le_of_ble_eq_true rfl) ?_
  intro p e s m below meth c A ls hx hb hr hml hown hts hnw hlocks hin hA hS hP hK hD hl
  have hown : s.vm.findClass RX12 = some m.cls := hown
  have hl : lv_has ls 3 [(0, .int s0), (1, .int 1), (2, .int 100)] := hl
  refine lv_iload_n hx hb dX12_in_0 rfl (lv_at hl 0 rfl) ?_
  refine lv_iload_n hx hb dX12_in_1 rfl (lv_at hl 1 rfl) ?_
  refine lv_icmp_lt (tgt := 14) hx hb dX12_in_2 (by decide) (fun _ => ?_) (fun h9 => absurd (iv_lt s0h (by decide +kernel : (1 : Int) ≤ (1 : Int32).toInt) (by decide)) h9)
  refine lv_iconst (v := 0) hx hb dX12_in_14 (by decide +kernel) ?_
  refine W.widen (k := 0) (n := 0) (Nat.le_of_ble_eq_true rfl) (Nat.le_of_ble_eq_true rfl) ?_
  exact rtZ hx hb hr rfl hlocks hS hP hD ⟨rfl, rfl⟩ dX12_in_15

set_option maxHeartbeats 4000000 in
set_option maxRecDepth 100000 in
theorem c_X12_starts_3 (l : Launch) (D : va_G) (cI cZ cB cJ : ClassId) (h0 g0 g1 g2 g3 g4 g5 g6 g7 g8 g9 g10 g11 g12 g13 g14 g15 g16 g17 g18 g19 g20 g21 g22 g23 g24 g25 g26 g27 g28 g29 g30 g31 g32 g33 g34 g35 g36 g37 g38 g39 g40 g41 g42 g43 g44 g45 g46 g47 g48 g49 g50 g51 g52 g53 g54 g55 g56 g57 g58 g59 g60 g61 g62 g63 g64 g65 g66 g67 g68 g69 : Nat) (s0 : Int32) (s0l : ((-2147483648) : Int) ≤ s0.toInt) (s0h : s0.toInt ≤ (0 : Int)) : CtI l D (TT cI cZ cB cJ) yX12_starts cX12_starts 3 (some .boolean) 1 22 0 0 [.ref h0, .int s0, .int 100] [(h0, .inr (12, [.ref g0, .ref g1, .ref g2, .ref g3, .ref g4, .int 4, .ref g5, .ref g6, .ref g7, .ref g8, .ref g9, .int 0, .ref g10, .ref g11, .ref g12, .ref g13, .ref g14, .ref g15, .ref g16, .ref g17, .int 0, .ref g18, .int 0, .ref g19, .int 0, .int 0, .int 0, .int 0, .int 0, .int 0, .int 0, .int 0, .long 0, .ref g20, .ref g21, .ref g22, .ref g23, .ref g24, .ref g25, .ref g26, .ref g27, .ref g28, .ref g29, .ref g30, .int 0, .int 1, .int 0, .ref g31, .ref g32, .int 0, .ref g33, .ref g34, .ref g35, .ref g36, .int 0, .ref g37, .int 0, .ref g38, .ref g39, .ref g40, .ref g41, .ref g42, .ref g43, .ref g44, .ref g45, .ref g46, .ref g47, .int 0, .int 0, .int 4, .ref g48, .ref g49, .ref g50, .ref g51, .ref g52, .ref g53, .ref g54, .ref g55, .ref g56, .ref g57, .ref g58, .ref g59, .ref g60, .int 0, .int 0, .int 0, .int 0, .int 0, .int 0, .int 0, .int 0, .int 0, .int 0, .int 0, .int 0, .int 0, .int 0, .int 0, .int 0, .int 0, .int 0, .int 0, .int 0, .ref g61, .ref g62, .int 0, .ref g63, .ref g64, .ref g65, .ref g66, .int 0, .int 0, .ref g67, .ref g68, .int 0, .ref g69, .int 0, .int 0]))] (fun r w1 => r = 0 ∧ w1 = [(h0, .inr (12, [.ref g0, .ref g1, .ref g2, .ref g3, .ref g4, .int 4, .ref g5, .ref g6, .ref g7, .ref g8, .ref g9, .int 0, .ref g10, .ref g11, .ref g12, .ref g13, .ref g14, .ref g15, .ref g16, .ref g17, .int 0, .ref g18, .int 0, .ref g19, .int 0, .int 0, .int 0, .int 0, .int 0, .int 0, .int 0, .int 0, .long 0, .ref g20, .ref g21, .ref g22, .ref g23, .ref g24, .ref g25, .ref g26, .ref g27, .ref g28, .ref g29, .ref g30, .int 0, .int 1, .int 0, .ref g31, .ref g32, .int 0, .ref g33, .ref g34, .ref g35, .ref g36, .int 0, .ref g37, .int 0, .ref g38, .ref g39, .ref g40, .ref g41, .ref g42, .ref g43, .ref g44, .ref g45, .ref g46, .ref g47, .int 0, .int 0, .int 4, .ref g48, .ref g49, .ref g50, .ref g51, .ref g52, .ref g53, .ref g54, .ref g55, .ref g56, .ref g57, .ref g58, .ref g59, .ref g60, .int 0, .int 0, .int 0, .int 0, .int 0, .int 0, .int 0, .int 0, .int 0, .int 0, .int 0, .int 0, .int 0, .int 0, .int 0, .int 0, .int 0, .int 0, .int 0, .int 0, .ref g61, .ref g62, .int 0, .ref g63, .ref g64, .ref g65, .ref g66, .int 0, .int 0, .ref g67, .ref g68, .int 0, .ref g69, .int 0, .int 0]))]) := by
  refine CtI.of (by decide +kernel) (Nat.le_of_ble_eq_true rfl) ?_
  intro p e s m below meth c A ls hx hb hr hml hown hts hnw hlocks hin hA hS hP hK hD hl
  have hown : s.vm.findClass RX12 = some m.cls := hown
  have hl : lv_has ls 3 [(0, .ref h0), (1, .int s0), (2, .int 100)] := hl
  refine lv_iload_n hx hb dX12_starts_0 rfl (lv_at hl 1 rfl) ?_
  refine lv_iconst (v := 1) hx hb dX12_starts_1 (by decide +kernel) ?_
  refine lv_iload_n hx hb dX12_starts_2 rfl (lv_at hl 2 rfl) ?_
  refine kSi (As := [.int s0, .int 1, .int 100]) (rest := []) (wr := [(h0, .inr (12, [.ref g0, .ref g1, .ref g2, .ref g3, .ref g4, .int 4, .ref g5, .ref g6, .ref g7, .ref g8, .ref g9, .int 0, .ref g10, .ref g11, .ref g12, .ref g13, .ref g14, .ref g15, .ref g16, .ref g17, .int 0, .ref g18, .int 0, .ref g19, .int 0, .int 0, .int 0, .int 0, .int 0, .int 0, .int 0, .int 0, .long 0, .ref g20, .ref g21, .ref g22, .ref g23, .ref g24, .ref g25, .ref g26, .ref g27, .ref g28, .ref g29, .ref g30, .int 0, .int 1, .int 0, .ref g31, .ref g32, .int 0, .ref g33, .ref g34, .ref g35, .ref g36, .int 0, .ref g37, .int 0, .ref g38, .ref g39, .ref g40, .ref g41, .ref g42, .ref g43, .ref g44, .ref g45, .ref g46, .ref g47, .int 0, .int 0, .int 4, .ref g48, .ref g49, .ref g50, .ref g51, .ref g52, .ref g53, .ref g54, .ref g55, .ref g56, .ref g57, .ref g58, .ref g59, .ref g60, .int 0, .int 0, .int 0, .int 0, .int 0, .int 0, .int 0, .int 0, .int 0, .int 0, .int 0, .int 0, .int 0, .int 0, .int 0, .int 0, .int 0, .int 0, .int 0, .int 0, .ref g61, .ref g62, .int 0, .ref g63, .ref g64, .ref g65, .ref g66, .int 0, .int 0, .ref g67, .ref g68, .int 0, .ref g69, .int 0, .int 0]))]) hx hb hml hown hts hnw hK hP hD hS hA hl.1 (c_X12_in_3 l D cI cZ cB cJ s0 s0l s0h) yk_X12_in wm_1739 [] [0] rfl rfl (by decide) (by decide) (by decide) rfl rfl dX12_starts_3 ⟨Nat.le_of_ble_eq_true rfl, Nat.le_of_ble_eq_true rfl⟩ ⟨Nat.le_of_ble_eq_true rfl, Nat.le_of_ble_eq_true rfl⟩ (Nat.le_of_ble_eq_true rfl) (fun r9 w1 H locs hq9 hP hD hS => ?_)
  obtain ⟨rfl, rfl⟩ := hq9
  have hP : va_P D vwCl [(h0, .inr (12, [.ref g0, .ref g1, .ref g2, .ref g3, .ref g4, .int 4, .ref g5, .ref g6, .ref g7, .ref g8, .ref g9, .int 0, .ref g10, .ref g11, .ref g12, .ref g13, .ref g14, .ref g15, .ref g16, .ref g17, .int 0, .ref g18, .int 0, .ref g19, .int 0, .int 0, .int 0, .int 0, .int 0, .int 0, .int 0, .int 0, .long 0, .ref g20, .ref g21, .ref g22, .ref g23, .ref g24, .ref g25, .ref g26, .ref g27, .ref g28, .ref g29, .ref g30, .int 0, .int 1, .int 0, .ref g31, .ref g32, .int 0, .ref g33, .ref g34, .ref g35, .ref g36, .int 0, .ref g37, .int 0, .ref g38, .ref g39, .ref g40, .ref g41, .ref g42, .ref g43, .ref g44, .ref g45, .ref g46, .ref g47, .int 0, .int 0, .int 4, .ref g48, .ref g49, .ref g50, .ref g51, .ref g52, .ref g53, .ref g54, .ref g55, .ref g56, .ref g57, .ref g58, .ref g59, .ref g60, .int 0, .int 0, .int 0, .int 0, .int 0, .int 0, .int 0, .int 0, .int 0, .int 0, .int 0, .int 0, .int 0, .int 0, .int 0, .int 0, .int 0, .int 0, .int 0, .int 0, .ref g61, .ref g62, .int 0, .ref g63, .ref g64, .ref g65, .ref g66, .int 0, .int 0, .ref g67, .ref g68, .int 0, .ref g69, .int 0, .int 0]))] H := hP
  have hD : va_D A [(h0, .inr (12, [.ref g0, .ref g1, .ref g2, .ref g3, .ref g4, .int 4, .ref g5, .ref g6, .ref g7, .ref g8, .ref g9, .int 0, .ref g10, .ref g11, .ref g12, .ref g13, .ref g14, .ref g15, .ref g16, .ref g17, .int 0, .ref g18, .int 0, .ref g19, .int 0, .int 0, .int 0, .int 0, .int 0, .int 0, .int 0, .int 0, .long 0, .ref g20, .ref g21, .ref g22, .ref g23, .ref g24, .ref g25, .ref g26, .ref g27, .ref g28, .ref g29, .ref g30, .int 0, .int 1, .int 0, .ref g31, .ref g32, .int 0, .ref g33, .ref g34, .ref g35, .ref g36, .int 0, .ref g37, .int 0, .ref g38, .ref g39, .ref g40, .ref g41, .ref g42, .ref g43, .ref g44, .ref g45, .ref g46, .ref g47, .int 0, .int 0, .int 4, .ref g48, .ref g49, .ref g50, .ref g51, .ref g52, .ref g53, .ref g54, .ref g55, .ref g56, .ref g57, .ref g58, .ref g59, .ref g60, .int 0, .int 0, .int 0, .int 0, .int 0, .int 0, .int 0, .int 0, .int 0, .int 0, .int 0, .int 0, .int 0, .int 0, .int 0, .int 0, .int 0, .int 0, .int 0, .int 0, .ref g61, .ref g62, .int 0, .ref g63, .ref g64, .ref g65, .ref g66, .int 0, .int 0, .ref g67, .ref g68, .int 0, .ref g69, .int 0, .int 0]))] := hD
  refine W.widen (k := 0) (n := 0) (Nat.le_of_ble_eq_true rfl) (Nat.le_of_ble_eq_true rfl) ?_
  refine pcn (b := 6) rfl ?_
  refine lv_if_eq (tgt := 17) hx hb dX12_starts_6 (by decide) (fun _ => ?_) (fun h9 => absurd (by decide +kernel) h9)
  refine lv_iconst (v := 0) hx hb dX12_starts_17 (by decide +kernel) ?_
  refine W.widen (k := 0) (n := 0) (Nat.le_of_ble_eq_true rfl) (Nat.le_of_ble_eq_true rfl) ?_
  exact rtZ hx hb hr rfl hlocks hS hP hD ⟨rfl, rfl⟩ dX12_starts_18

set_option maxHeartbeats 4000000 in
set_option maxRecDepth 100000 in
theorem c_X12_in_4 (l : Launch) (D : va_G) (cI cZ cB cJ : ClassId) (s0 : Int32) (s0l : (1 : Int) ≤ s0.toInt) (s0h : s0.toInt ≤ (100 : Int)) : CtI l D (TT cI cZ cB cJ) yX12_in cX12_in 3 (some .boolean) 0 0 0 0 [.int s0, .int 1, .int 100] [] (fun r w1 => r = 1 ∧ w1 = []) := by
  refine CtI.of (by decide +kernel) (Nat.le_of_ble_eq_true rfl) ?_
  intro p e s m below meth c A ls hx hb hr hml hown hts hnw hlocks hin hA hS hP hK hD hl
  have hown : s.vm.findClass RX12 = some m.cls := hown
  have hl : lv_has ls 3 [(0, .int s0), (1, .int 1), (2, .int 100)] := hl
  refine lv_iload_n hx hb dX12_in_0 rfl (lv_at hl 0 rfl) ?_
  refine lv_iload_n hx hb dX12_in_1 rfl (lv_at hl 1 rfl) ?_
  refine lv_icmp_lt (tgt := 14) hx hb dX12_in_2 (by decide) (fun h9 => absurd h9 (iv_nlt s0l (by decide +kernel : (1 : Int32).toInt ≤ (1 : Int)) (by decide))) (fun _ => ?_)
  refine lv_iload_n hx hb dX12_in_5 rfl (lv_at hl 0 rfl) ?_
  refine lv_iload_n hx hb dX12_in_6 rfl (lv_at hl 2 rfl) ?_
  refine lv_icmp_gt (tgt := 14) hx hb dX12_in_7 (by decide) (fun h9 => absurd h9 (iv_nlt (by decide +kernel : (100 : Int) ≤ (100 : Int32).toInt) s0h (by decide))) (fun _ => ?_)
  refine lv_iconst (v := 1) hx hb dX12_in_10 (by decide +kernel) ?_
  refine pcn (b := 11) rfl ?_
  refine lv_goto (tgt := 15) hx hb dX12_in_11 (by decide) ?_
  refine W.widen (k := 0) (n := 0) (Nat.le_of_ble_eq_true rfl) (Nat.le_of_ble_eq_true rfl) ?_
  exact rtZ hx hb hr rfl hlocks hS hP hD ⟨rfl, rfl⟩ dX12_in_15

set_option maxHeartbeats 4000000 in
set_option maxRecDepth 100000 in
theorem c_X12_starts_4 (l : Launch) (D : va_G) (cI cZ cB cJ : ClassId) (h0 g0 g1 g2 g3 g4 g5 g6 g7 g8 g9 g10 g11 g12 g13 g14 g15 g16 g17 g18 g19 g20 g21 g22 g23 g24 g25 g26 g27 g28 g29 g30 g31 g32 g33 g34 g35 g36 g37 g38 g39 g40 g41 g42 g43 g44 g45 g46 g47 g48 g49 g50 g51 g52 g53 g54 g55 g56 g57 g58 g59 g60 g61 g62 g63 g64 g65 g66 g67 g68 g69 : Nat) (s0 : Int32) (s0l : (1 : Int) ≤ s0.toInt) (s0h : s0.toInt ≤ (100 : Int)) : CtI l D (TT cI cZ cB cJ) yX12_starts cX12_starts 3 (some .boolean) 1 22 0 0 [.ref h0, .int s0, .int 100] [(h0, .inr (12, [.ref g0, .ref g1, .ref g2, .ref g3, .ref g4, .int 4, .ref g5, .ref g6, .ref g7, .ref g8, .ref g9, .int 0, .ref g10, .ref g11, .ref g12, .ref g13, .ref g14, .ref g15, .ref g16, .ref g17, .int 0, .ref g18, .int 0, .ref g19, .int 0, .int 0, .int 0, .int 0, .int 0, .int 0, .int 0, .int 0, .long 0, .ref g20, .ref g21, .ref g22, .ref g23, .ref g24, .ref g25, .ref g26, .ref g27, .ref g28, .ref g29, .ref g30, .int 0, .int 1, .int 0, .ref g31, .ref g32, .int 0, .ref g33, .ref g34, .ref g35, .ref g36, .int 0, .ref g37, .int 0, .ref g38, .ref g39, .ref g40, .ref g41, .ref g42, .ref g43, .ref g44, .ref g45, .ref g46, .ref g47, .int 0, .int 0, .int 4, .ref g48, .ref g49, .ref g50, .ref g51, .ref g52, .ref g53, .ref g54, .ref g55, .ref g56, .ref g57, .ref g58, .ref g59, .ref g60, .int 0, .int 0, .int 0, .int 0, .int 0, .int 0, .int 0, .int 0, .int 0, .int 0, .int 0, .int 0, .int 0, .int 0, .int 0, .int 0, .int 0, .int 0, .int 0, .int 0, .ref g61, .ref g62, .int 0, .ref g63, .ref g64, .ref g65, .ref g66, .int 0, .int 0, .ref g67, .ref g68, .int 0, .ref g69, .int 0, .int 0]))] (fun r w1 => r = 0 ∧ w1 = [(h0, .inr (12, [.ref g0, .ref g1, .ref g2, .ref g3, .ref g4, .int 4, .ref g5, .ref g6, .ref g7, .ref g8, .ref g9, .int 0, .ref g10, .ref g11, .ref g12, .ref g13, .ref g14, .ref g15, .ref g16, .ref g17, .int 0, .ref g18, .int 0, .ref g19, .int 0, .int 0, .int 0, .int 0, .int 0, .int 0, .int 0, .int 0, .long 0, .ref g20, .ref g21, .ref g22, .ref g23, .ref g24, .ref g25, .ref g26, .ref g27, .ref g28, .ref g29, .ref g30, .int 0, .int 1, .int 0, .ref g31, .ref g32, .int 0, .ref g33, .ref g34, .ref g35, .ref g36, .int 0, .ref g37, .int 0, .ref g38, .ref g39, .ref g40, .ref g41, .ref g42, .ref g43, .ref g44, .ref g45, .ref g46, .ref g47, .int 0, .int 0, .int 4, .ref g48, .ref g49, .ref g50, .ref g51, .ref g52, .ref g53, .ref g54, .ref g55, .ref g56, .ref g57, .ref g58, .ref g59, .ref g60, .int 0, .int 0, .int 0, .int 0, .int 0, .int 0, .int 0, .int 0, .int 0, .int 0, .int 0, .int 0, .int 0, .int 0, .int 0, .int 0, .int 0, .int 0, .int 0, .int 0, .ref g61, .ref g62, .int 0, .ref g63, .ref g64, .ref g65, .ref g66, .int 0, .int 0, .ref g67, .ref g68, .int 0, .ref g69, .int 0, .int 0]))]) := by
  refine CtI.of (by decide +kernel) (Nat.le_of_ble_eq_true rfl) ?_
  intro p e s m below meth c A ls hx hb hr hml hown hts hnw hlocks hin hA hS hP hK hD hl
  have hown : s.vm.findClass RX12 = some m.cls := hown
  have hl : lv_has ls 3 [(0, .ref h0), (1, .int s0), (2, .int 100)] := hl
  refine lv_iload_n hx hb dX12_starts_0 rfl (lv_at hl 1 rfl) ?_
  refine lv_iconst (v := 1) hx hb dX12_starts_1 (by decide +kernel) ?_
  refine lv_iload_n hx hb dX12_starts_2 rfl (lv_at hl 2 rfl) ?_
  refine kSi (As := [.int s0, .int 1, .int 100]) (rest := []) (wr := [(h0, .inr (12, [.ref g0, .ref g1, .ref g2, .ref g3, .ref g4, .int 4, .ref g5, .ref g6, .ref g7, .ref g8, .ref g9, .int 0, .ref g10, .ref g11, .ref g12, .ref g13, .ref g14, .ref g15, .ref g16, .ref g17, .int 0, .ref g18, .int 0, .ref g19, .int 0, .int 0, .int 0, .int 0, .int 0, .int 0, .int 0, .int 0, .long 0, .ref g20, .ref g21, .ref g22, .ref g23, .ref g24, .ref g25, .ref g26, .ref g27, .ref g28, .ref g29, .ref g30, .int 0, .int 1, .int 0, .ref g31, .ref g32, .int 0, .ref g33, .ref g34, .ref g35, .ref g36, .int 0, .ref g37, .int 0, .ref g38, .ref g39, .ref g40, .ref g41, .ref g42, .ref g43, .ref g44, .ref g45, .ref g46, .ref g47, .int 0, .int 0, .int 4, .ref g48, .ref g49, .ref g50, .ref g51, .ref g52, .ref g53, .ref g54, .ref g55, .ref g56, .ref g57, .ref g58, .ref g59, .ref g60, .int 0, .int 0, .int 0, .int 0, .int 0, .int 0, .int 0, .int 0, .int 0, .int 0, .int 0, .int 0, .int 0, .int 0, .int 0, .int 0, .int 0, .int 0, .int 0, .int 0, .ref g61, .ref g62, .int 0, .ref g63, .ref g64, .ref g65, .ref g66, .int 0, .int 0, .ref g67, .ref g68, .int 0, .ref g69, .int 0, .int 0]))]) hx hb hml hown hts hnw hK hP hD hS hA hl.1 (c_X12_in_4 l D cI cZ cB cJ s0 s0l s0h) yk_X12_in wm_1739 [] [0] rfl rfl (by decide) (by decide) (by decide) rfl rfl dX12_starts_3 ⟨Nat.le_of_ble_eq_true rfl, Nat.le_of_ble_eq_true rfl⟩ ⟨Nat.le_of_ble_eq_true rfl, Nat.le_of_ble_eq_true rfl⟩ (Nat.le_of_ble_eq_true rfl) (fun r9 w1 H locs hq9 hP hD hS => ?_)
  obtain ⟨rfl, rfl⟩ := hq9
  have hP : va_P D vwCl [(h0, .inr (12, [.ref g0, .ref g1, .ref g2, .ref g3, .ref g4, .int 4, .ref g5, .ref g6, .ref g7, .ref g8, .ref g9, .int 0, .ref g10, .ref g11, .ref g12, .ref g13, .ref g14, .ref g15, .ref g16, .ref g17, .int 0, .ref g18, .int 0, .ref g19, .int 0, .int 0, .int 0, .int 0, .int 0, .int 0, .int 0, .int 0, .long 0, .ref g20, .ref g21, .ref g22, .ref g23, .ref g24, .ref g25, .ref g26, .ref g27, .ref g28, .ref g29, .ref g30, .int 0, .int 1, .int 0, .ref g31, .ref g32, .int 0, .ref g33, .ref g34, .ref g35, .ref g36, .int 0, .ref g37, .int 0, .ref g38, .ref g39, .ref g40, .ref g41, .ref g42, .ref g43, .ref g44, .ref g45, .ref g46, .ref g47, .int 0, .int 0, .int 4, .ref g48, .ref g49, .ref g50, .ref g51, .ref g52, .ref g53, .ref g54, .ref g55, .ref g56, .ref g57, .ref g58, .ref g59, .ref g60, .int 0, .int 0, .int 0, .int 0, .int 0, .int 0, .int 0, .int 0, .int 0, .int 0, .int 0, .int 0, .int 0, .int 0, .int 0, .int 0, .int 0, .int 0, .int 0, .int 0, .ref g61, .ref g62, .int 0, .ref g63, .ref g64, .ref g65, .ref g66, .int 0, .int 0, .ref g67, .ref g68, .int 0, .ref g69, .int 0, .int 0]))] H := hP
  have hD : va_D A [(h0, .inr (12, [.ref g0, .ref g1, .ref g2, .ref g3, .ref g4, .int 4, .ref g5, .ref g6, .ref g7, .ref g8, .ref g9, .int 0, .ref g10, .ref g11, .ref g12, .ref g13, .ref g14, .ref g15, .ref g16, .ref g17, .int 0, .ref g18, .int 0, .ref g19, .int 0, .int 0, .int 0, .int 0, .int 0, .int 0, .int 0, .int 0, .long 0, .ref g20, .ref g21, .ref g22, .ref g23, .ref g24, .ref g25, .ref g26, .ref g27, .ref g28, .ref g29, .ref g30, .int 0, .int 1, .int 0, .ref g31, .ref g32, .int 0, .ref g33, .ref g34, .ref g35, .ref g36, .int 0, .ref g37, .int 0, .ref g38, .ref g39, .ref g40, .ref g41, .ref g42, .ref g43, .ref g44, .ref g45, .ref g46, .ref g47, .int 0, .int 0, .int 4, .ref g48, .ref g49, .ref g50, .ref g51, .ref g52, .ref g53, .ref g54, .ref g55, .ref g56, .ref g57, .ref g58, .ref g59, .ref g60, .int 0, .int 0, .int 0, .int 0, .int 0, .int 0, .int 0, .int 0, .int 0, .int 0, .int 0, .int 0, .int 0, .int 0, .int 0, .int 0, .int 0, .int 0, .int 0, .int 0, .ref g61, .ref g62, .int 0, .ref g63, .ref g64, .ref g65, .ref g66, .int 0, .int 0, .ref g67, .ref g68, .int 0, .ref g69, .int 0, .int 0]))] := hD
  refine W.widen (k := 0) (n := 0) (Nat.le_of_ble_eq_true rfl) (Nat.le_of_ble_eq_true rfl) ?_
  refine pcn (b := 6) rfl ?_
  refine lv_if_eq (tgt := 17) hx hb dX12_starts_6 (by decide) (fun h9 => absurd h9 (by decide +kernel)) (fun _ => ?_)
  refine lv_iload_n hx hb dX12_starts_9 rfl (lv_at hl 1 rfl) ?_
  refine lv_aload_n hx hb dX12_starts_10 rfl (lv_at hl 0 rfl) ?_
  refine va_get (D := D) (ci := 12) (v := .int 0) (C := RX12) (T := TX12) (N := 118) hx hb hts inX12 hown hK hP 0 rfl rfl 24 (by decide) (hts _ wm_1391) (fun _ h9 => h9) rfl dX12_starts_11 ?_
  refine lv_icmp_le (tgt := 19) hx hb dX12_starts_14 (by decide) (fun h9 => absurd h9 (iv_nle s0l (by decide +kernel : (0 : Int32).toInt ≤ (0 : Int)) (by decide))) (fun _ => ?_)
  refine lv_iconst (v := 0) hx hb dX12_starts_17 (by decide +kernel) ?_
  refine W.widen (k := 0) (n := 0) (Nat.le_of_ble_eq_true rfl) (Nat.le_of_ble_eq_true rfl) ?_
  exact rtZ hx hb hr rfl hlocks hS hP hD ⟨rfl, rfl⟩ dX12_starts_18

set_option maxHeartbeats 4000000 in
set_option maxRecDepth 100000 in
theorem c_X12_in_5 (l : Launch) (D : va_G) (cI cZ cB cJ : ClassId) (s0 : Int32) (s0l : (101 : Int) ≤ s0.toInt) (s0h : s0.toInt ≤ (2147483647 : Int)) : CtI l D (TT cI cZ cB cJ) yX12_in cX12_in 3 (some .boolean) 0 0 0 0 [.int s0, .int 1, .int 100] [] (fun r w1 => r = 0 ∧ w1 = []) := by
  refine CtI.of (by decide +kernel) (Nat.le_of_ble_eq_true rfl) ?_
  intro p e s m below meth c A ls hx hb hr hml hown hts hnw hlocks hin hA hS hP hK hD hl
  have hown : s.vm.findClass RX12 = some m.cls := hown
  have hl : lv_has ls 3 [(0, .int s0), (1, .int 1), (2, .int 100)] := hl
  refine lv_iload_n hx hb dX12_in_0 rfl (lv_at hl 0 rfl) ?_
  refine lv_iload_n hx hb dX12_in_1 rfl (lv_at hl 1 rfl) ?_
  refine lv_icmp_lt (tgt := 14) hx hb dX12_in_2 (by decide) (fun h9 => absurd h9 (iv_nlt s0l (by decide +kernel : (1 : Int32).toInt ≤ (1 : Int)) (by decide))) (fun _ => ?_)
  refine lv_iload_n hx hb dX12_in_5 rfl (lv_at hl 0 rfl) ?_
  refine lv_iload_n hx hb dX12_in_6 rfl (lv_at hl 2 rfl) ?_
  refine lv_icmp_gt (tgt := 14) hx hb dX12_in_7 (by decide) (fun _ => ?_) (fun h9 => absurd (iv_lt (by decide +kernel : (100 : Int32).toInt ≤ (100 : Int)) s0l (by decide)) h9)
  refine lv_iconst (v := 0) hx hb dX12_in_14 (by decide +kernel) ?_
  refine W.widen (k := 0) (n := 0) (Nat.le_of_ble_eq_true rfl) (Nat.le_of_ble_eq_true rfl) ?_
  exact rtZ hx hb hr rfl hlocks hS hP hD ⟨rfl, rfl⟩ dX12_in_15

set_option maxHeartbeats 4000000 in
set_option maxRecDepth 100000 in
theorem c_X12_starts_5 (l : Launch) (D : va_G) (cI cZ cB cJ : ClassId) (h0 g0 g1 g2 g3 g4 g5 g6 g7 g8 g9 g10 g11 g12 g13 g14 g15 g16 g17 g18 g19 g20 g21 g22 g23 g24 g25 g26 g27 g28 g29 g30 g31 g32 g33 g34 g35 g36 g37 g38 g39 g40 g41 g42 g43 g44 g45 g46 g47 g48 g49 g50 g51 g52 g53 g54 g55 g56 g57 g58 g59 g60 g61 g62 g63 g64 g65 g66 g67 g68 g69 : Nat) (s0 : Int32) (s0l : (101 : Int) ≤ s0.toInt) (s0h : s0.toInt ≤ (2147483647 : Int)) : CtI l D (TT cI cZ cB cJ) yX12_starts cX12_starts 3 (some .boolean) 1 22 0 0 [.ref h0, .int s0, .int 100] [(h0, .inr (12, [.ref g0, .ref g1, .ref g2, .ref g3, .ref g4, .int 4, .ref g5, .ref g6, .ref g7, .ref g8, .ref g9, .int 0, .ref g10, .ref g11, .ref g12, .ref g13, .ref g14, .ref g15, .ref g16, .ref g17, .int 0, .ref g18, .int 0, .ref g19, .int 0, .int 0, .int 0, .int 0, .int 0, .int 0, .int 0, .int 0, .long 0, .ref g20, .ref g21, .ref g22, .ref g23, .ref g24, .ref g25, .ref g26, .ref g27, .ref g28, .ref g29, .ref g30, .int 0, .int 1, .int 0, .ref g31, .ref g32, .int 0, .ref g33, .ref g34, .ref g35, .ref g36, .int 0, .ref g37, .int 0, .ref g38, .ref g39, .ref g40, .ref g41, .ref g42, .ref g43, .ref g44, .ref g45, .ref g46, .ref g47, .int 0, .int 0, .int 4, .ref g48, .ref g49, .ref g50, .ref g51, .ref g52, .ref g53, .ref g54, .ref g55, .ref g56, .ref g57, .ref g58, .ref g59, .ref g60, .int 0, .int 0, .int 0, .int 0, .int 0, .int 0, .int 0, .int 0, .int 0, .int 0, .int 0, .int 0, .int 0, .int 0, .int 0, .int 0, .int 0, .int 0, .int 0, .int 0, .ref g61, .ref g62, .int 0, .ref g63, .ref g64, .ref g65, .ref g66, .int 0, .int 0, .ref g67, .ref g68, .int 0, .ref g69, .int 0, .int 0]))] (fun r w1 => r = 0 ∧ w1 = [(h0, .inr (12, [.ref g0, .ref g1, .ref g2, .ref g3, .ref g4, .int 4, .ref g5, .ref g6, .ref g7, .ref g8, .ref g9, .int 0, .ref g10, .ref g11, .ref g12, .ref g13, .ref g14, .ref g15, .ref g16, .ref g17, .int 0, .ref g18, .int 0, .ref g19, .int 0, .int 0, .int 0, .int 0, .int 0, .int 0, .int 0, .int 0, .long 0, .ref g20, .ref g21, .ref g22, .ref g23, .ref g24, .ref g25, .ref g26, .ref g27, .ref g28, .ref g29, .ref g30, .int 0, .int 1, .int 0, .ref g31, .ref g32, .int 0, .ref g33, .ref g34, .ref g35, .ref g36, .int 0, .ref g37, .int 0, .ref g38, .ref g39, .ref g40, .ref g41, .ref g42, .ref g43, .ref g44, .ref g45, .ref g46, .ref g47, .int 0, .int 0, .int 4, .ref g48, .ref g49, .ref g50, .ref g51, .ref g52, .ref g53, .ref g54, .ref g55, .ref g56, .ref g57, .ref g58, .ref g59, .ref g60, .int 0, .int 0, .int 0, .int 0, .int 0, .int 0, .int 0, .int 0, .int 0, .int 0, .int 0, .int 0, .int 0, .int 0, .int 0, .int 0, .int 0, .int 0, .int 0, .int 0, .ref g61, .ref g62, .int 0, .ref g63, .ref g64, .ref g65, .ref g66, .int 0, .int 0, .ref g67, .ref g68, .int 0, .ref g69, .int 0, .int 0]))]) := by
  refine CtI.of (by decide +kernel) (Nat.le_of_ble_eq_true rfl) ?_
  intro p e s m below meth c A ls hx hb hr hml hown hts hnw hlocks hin hA hS hP hK hD hl
  have hown : s.vm.findClass RX12 = some m.cls := hown
  have hl : lv_has ls 3 [(0, .ref h0), (1, .int s0), (2, .int 100)] := hl
  refine lv_iload_n hx hb dX12_starts_0 rfl (lv_at hl 1 rfl) ?_
  refine lv_iconst (v := 1) hx hb dX12_starts_1 (by decide +kernel) ?_
  refine lv_iload_n hx hb dX12_starts_2 rfl (lv_at hl 2 rfl) ?_
  refine kSi (As := [.int s0, .int 1, .int 100]) (rest := []) (wr := [(h0, .inr (12, [.ref g0, .ref g1, .ref g2, .ref g3, .ref g4, .int 4, .ref g5, .ref g6, .ref g7, .ref g8, .ref g9, .int 0, .ref g10, .ref g11, .ref g12, .ref g13, .ref g14, .ref g15, .ref g16, .ref g17, .int 0, .ref g18, .int 0, .ref g19, .int 0, .int 0, .int 0, .int 0, .int 0, .int 0, .int 0, .int 0, .long 0, .ref g20, .ref g21, .ref g22, .ref g23, .ref g24, .ref g25, .ref g26, .ref g27, .ref g28, .ref g29, .ref g30, .int 0, .int 1, .int 0, .ref g31, .ref g32, .int 0, .ref g33, .ref g34, .ref g35, .ref g36, .int 0, .ref g37, .int 0, .ref g38, .ref g39, .ref g40, .ref g41, .ref g42, .ref g43, .ref g44, .ref g45, .ref g46, .ref g47, .int 0, .int 0, .int 4, .ref g48, .ref g49, .ref g50, .ref g51, .ref g52, .ref g53, .ref g54, .ref g55, .ref g56, .ref g57, .ref g58, .ref g59, .ref g60, .int 0, .int 0, .int 0, .int 0, .int 0, .int 0, .int 0, .int 0, .int 0, .int 0, .int 0, .int 0, .int 0, .int 0, .int 0, .int 0, .int 0, .int 0, .int 0, .int 0, .ref g61, .ref g62, .int 0, .ref g63, .ref g64, .ref g65, .ref g66, .int 0, .int 0, .ref g67, .ref g68, .int 0, .ref g69, .int 0, .int 0]))]) hx hb hml hown hts hnw hK hP hD hS hA hl.1 (c_X12_in_5 l D cI cZ cB cJ s0 s0l s0h) yk_X12_in wm_1739 [] [0] rfl rfl (by decide) (by decide) (by decide) rfl rfl dX12_starts_3 ⟨Nat.le_of_ble_eq_true rfl, Nat.le_of_ble_eq_true rfl⟩ ⟨Nat.le_of_ble_eq_true rfl, Nat.le_of_ble_eq_true rfl⟩ (Nat.le_of_ble_eq_true rfl) (fun r9 w1 H locs hq9 hP hD hS => ?_)
  obtain ⟨rfl, rfl⟩ := hq9
  have hP : va_P D vwCl [(h0, .inr (12, [.ref g0, .ref g1, .ref g2, .ref g3, .ref g4, .int 4, .ref g5, .ref g6, .ref g7, .ref g8, .ref g9, .int 0, .ref g10, .ref g11, .ref g12, .ref g13, .ref g14, .ref g15, .ref g16, .ref g17, .int 0, .ref g18, .int 0, .ref g19, .int 0, .int 0, .int 0, .int 0, .int 0, .int 0, .int 0, .int 0, .long 0, .ref g20, .ref g21, .ref g22, .ref g23, .ref g24, .ref g25, .ref g26, .ref g27, .ref g28, .ref g29, .ref g30, .int 0, .int 1, .int 0, .ref g31, .ref g32, .int 0, .ref g33, .ref g34, .ref g35, .ref g36, .int 0, .ref g37, .int 0, .ref g38, .ref g39, .ref g40, .ref g41, .ref g42, .ref g43, .ref g44, .ref g45, .ref g46, .ref g47, .int 0, .int 0, .int 4, .ref g48, .ref g49, .ref g50, .ref g51, .ref g52, .ref g53, .ref g54, .ref g55, .ref g56, .ref g57, .ref g58, .ref g59, .ref g60, .int 0, .int 0, .int 0, .int 0, .int 0, .int 0, .int 0, .int 0, .int 0, .int 0, .int 0, .int 0, .int 0, .int 0, .int 0, .int 0, .int 0, .int 0, .int 0, .int 0, .ref g61, .ref g62, .int 0, .ref g63, .ref g64, .ref g65, .ref g66, .int 0, .int 0, .ref g67, .ref g68, .int 0, .ref g69, .int 0, .int 0]))] H := hP
  have hD : va_D A [(h0, .inr (12, [.ref g0, .ref g1, .ref g2, .ref g3, .ref g4, .int 4, .ref g5, .ref g6, .ref g7, .ref g8, .ref g9, .int 0, .ref g10, .ref g11, .ref g12, .ref g13, .ref g14, .ref g15, .ref g16, .ref g17, .int 0, .ref g18, .int 0, .ref g19, .int 0, .int 0, .int 0, .int 0, .int 0, .int 0, .int 0, .int 0, .long 0, .ref g20, .ref g21, .ref g22, .ref g23, .ref g24, .ref g25, .ref g26, .ref g27, .ref g28, .ref g29, .ref g30, .int 0, .int 1, .int 0, .ref g31, .ref g32, .int 0, .ref g33, .ref g34, .ref g35, .ref g36, .int 0, .ref g37, .int 0, .ref g38, .ref g39, .ref g40, .ref g41, .ref g42, .ref g43, .ref g44, .ref g45, .ref g46, .ref g47, .int 0, .int 0, .int 4, .ref g48, .ref g49, .ref g50, .ref g51, .ref g52, .ref g53, .ref g54, .ref g55, .ref g56, .ref g57, .ref g58, .ref g59, .ref g60, .int 0, .int 0, .int 0, .int 0, .int 0, .int 0, .int 0, .int 0, .int 0, .int 0, .int 0, .int 0, .int 0, .int 0, .int 0, .int 0, .int 0, .int 0, .int 0, .int 0, .ref g61, .ref g62, .int 0, .ref g63, .ref g64, .ref g65, .ref g66, .int 0, .int 0, .ref g67, .ref g68, .int 0, .ref g69, .int 0, .int 0]))] := hD
  refine W.widen (k := 0) (n := 0) (Nat.le_of_ble_eq_true rfl) (Nat.le_of_ble_eq_true rfl) ?_
  refine pcn (b := 6) rfl ?_
  refine lv_if_eq (tgt := 17) hx hb dX12_starts_6 (by decide) (fun _ => ?_) (fun h9 => absurd (by decide +kernel) h9)
  refine lv_iconst (v := 0) hx hb dX12_starts_17 (by decide +kernel) ?_
  refine W.widen (k := 0) (n := 0) (Nat.le_of_ble_eq_true rfl) (Nat.le_of_ble_eq_true rfl) ?_
  exact rtZ hx hb hr rfl hlocks hS hP hD ⟨rfl, rfl⟩ dX12_starts_18

set_option maxHeartbeats 4000000 in
set_option maxRecDepth 100000 in
theorem c_X1_sizeOfCasts_0 (l : Launch) (D : va_G) (cI cZ cB cJ : ClassId) (h0 h1 g0 g1 g2 g3 g4 g5 g6 : Nat) : CtI l D (TT cI cZ cB cJ) yX1_sizeOfCasts cX1_sizeOfCasts 3 (some .int) 0 0 0 0 [.ref h0] [(h0, .inr (1, [.ref g0, .ref g1, .ref g2, .ref h1, .ref g3, .ref g4, .ref g5, .int 4, .int 3, .int 0, .int (-1), .int 0])), (h1, .inr (6, [.ref g6, .int 0]))] (fun r w1 => r = 0 ∧ w1 = [(h0, .inr (1, [.ref g0, .ref g1, .ref g2, .ref h1, .ref g3, .ref g4, .ref g5, .int 4, .int 3, .int 0, .int (-1), .int 0])), (h1, .inr (6, [.ref g6, .int 0]))]) := by
  refine CtI.of (by decide +kernel) (Nat.le_of_ble_eq_true rfl) ?_
  intro p e s m below meth c A ls hx hb hr hml hown hts hnw hlocks hin hA hS hP hK hD hl
  have hown : s.vm.findClass RX1 = some m.cls := hown
  have hl : lv_has ls 3 [(0, .ref h0)] := hl
  refine lv_iconst (v := 0) hx hb dX1_sizeOfCasts_0 (by decide +kernel) ?_
  refine lv_istore_n (lv' := [(1, .int 0), (0, .ref h0)]) hx hb dX1_sizeOfCasts_1 rfl hl (by decide) rfl (fun ls hl => ?_)
  refine lv_iconst (v := 0) hx hb dX1_sizeOfCasts_2 (by decide +kernel) ?_
  refine lv_istore_n (lv' := [(2, .int 0), (1, .int 0), (0, .ref h0)]) hx hb dX1_sizeOfCasts_3 rfl hl (by decide) rfl (fun ls hl => ?_)
  refine lv_iload_n hx hb dX1_sizeOfCasts_4 rfl (lv_at hl 0 rfl) ?_
  refine lv_aload_n hx hb dX1_sizeOfCasts_5 rfl (lv_at hl 2 rfl) ?_
  refine va_get (D := D) (ci := 1) (v := .ref h1) (C := RX1) (T := TX1) (N := 12) hx hb hts inX1 hown hK hP 0 rfl rfl 3 (by decide) (hts _ wm_285) (fun _ h9 => h9) rfl dX1_sizeOfCasts_6 ?_
  refine pcn (b := 9) rfl ?_
  refine va_getN (D := D) (ci := 6) (v := .int 0) (C := RX6) (T := TX6) (N := 2) hx hb hts inX6 hown hK hP 1 rfl rfl 1 (by decide) (va_Nw.use rfl (hnw _ wn_158)) (fun _ h9 => h9) rfl dX1_sizeOfCasts_9 ?_
  refine lv_icmp_ge (tgt := 40) hx hb dX1_sizeOfCasts_12 (by decide) (fun _ => ?_) (fun h9 => absurd (by decide +kernel) h9)
  refine lv_iload_n hx hb dX1_sizeOfCasts_40 rfl (lv_at hl 1 rfl) ?_
  refine W.widen (k := 0) (n := 0) (Nat.le_of_ble_eq_true rfl) (Nat.le_of_ble_eq_true rfl) ?_
  exact rtI hx hb hr hlocks hS hP hD ⟨rfl, rfl⟩ dX1_sizeOfCasts_41

set_option maxHeartbeats 4000000 in
set_option maxRecDepth 100000 in
theorem c_X12_sizes_0 (l : Launch) (D : va_G) (cI cZ cB cJ : ClassId) (h0 g0 g1 g2 g3 g4 g5 g6 g7 g8 g9 g10 g11 g12 g13 g14 g15 g16 g17 g18 g19 g20 g21 g22 g23 g24 g25 g26 g27 g28 g29 g30 g31 g32 g33 g34 g35 g36 g37 g38 g39 g40 g41 g42 g43 g44 g45 g46 g47 g48 g49 g50 g51 g52 g53 g54 g55 g56 g57 g58 g59 g60 g61 g62 g63 g64 g65 g66 g67 g68 g69 : Nat) : CtI l D (TT cI cZ cB cJ) yX12_sizes cX12_sizes 3 (some .int) 0 0 0 0 [.ref h0] [(h0, .inr (12, [.ref g0, .ref g1, .ref g2, .ref g3, .ref g4, .int 4, .ref g5, .ref g6, .ref g7, .ref g8, .ref g9, .int 0, .ref g10, .ref g11, .ref g12, .ref g13, .ref g14, .ref g15, .ref g16, .ref g17, .int 0, .ref g18, .int 0, .ref g19, .int 0, .int 0, .int 0, .int 0, .int 0, .int 0, .int 0, .int 0, .long 0, .ref g20, .ref g21, .ref g22, .ref g23, .ref g24, .ref g25, .ref g26, .ref g27, .ref g28, .ref g29, .ref g30, .int 0, .int 1, .int 0, .ref g31, .ref g32, .int 0, .ref g33, .ref g34, .ref g35, .ref g36, .int 0, .ref g37, .int 0, .ref g38, .ref g39, .ref g40, .ref g41, .ref g42, .ref g43, .ref g44, .ref g45, .ref g46, .ref g47, .int 0, .int 0, .int 4, .ref g48, .ref g49, .ref g50, .ref g51, .ref g52, .ref g53, .ref g54, .ref g55, .ref g56, .ref g57, .ref g58, .ref g59, .ref g60, .int 0, .int 0, .int 0, .int 0, .int 0, .int 0, .int 0, .int 0, .int 0, .int 0, .int 0, .int 0, .int 0, .int 0, .int 0, .int 0, .int 0, .int 0, .int 0, .int 0, .ref g61, .ref g62, .int 0, .ref g63, .ref g64, .ref g65, .ref g66, .int 0, .int 0, .ref g67, .ref g68, .int 0, .ref g69, .int 0, .int 0]))] (fun r w1 => r = 0 ∧ w1 = [(h0, .inr (12, [.ref g0, .ref g1, .ref g2, .ref g3, .ref g4, .int 4, .ref g5, .ref g6, .ref g7, .ref g8, .ref g9, .int 0, .ref g10, .ref g11, .ref g12, .ref g13, .ref g14, .ref g15, .ref g16, .ref g17, .int 0, .ref g18, .int 0, .ref g19, .int 0, .int 0, .int 0, .int 0, .int 0, .int 0, .int 0, .int 0, .long 0, .ref g20, .ref g21, .ref g22, .ref g23, .ref g24, .ref g25, .ref g26, .ref g27, .ref g28, .ref g29, .ref g30, .int 0, .int 1, .int 0, .ref g31, .ref g32, .int 0, .ref g33, .ref g34, .ref g35, .ref g36, .int 0, .ref g37, .int 0, .ref g38, .ref g39, .ref g40, .ref g41, .ref g42, .ref g43, .ref g44, .ref g45, .ref g46, .ref g47, .int 0, .int 0, .int 4, .ref g48, .ref g49, .ref g50, .ref g51, .ref g52, .ref g53, .ref g54, .ref g55, .ref g56, .ref g57, .ref g58, .ref g59, .ref g60, .int 0, .int 0, .int 0, .int 0, .int 0, .int 0, .int 0, .int 0, .int 0, .int 0, .int 0, .int 0, .int 0, .int 0, .int 0, .int 0, .int 0, .int 0, .int 0, .int 0, .ref g61, .ref g62, .int 0, .ref g63, .ref g64, .ref g65, .ref g66, .int 0, .int 0, .ref g67, .ref g68, .int 0, .ref g69, .int 0, .int 0]))]) := by
  refine CtI.of (by decide +kernel) (Nat.le_of_ble_eq_true rfl) ?_
  intro p e s m below meth c A ls hx hb hr hml hown hts hnw hlocks hin hA hS hP hK hD hl
  have hown : s.vm.findClass RX12 = some m.cls := hown
  have hl : lv_has ls 3 [(0, .ref h0)] := hl
  refine lv_iconst (v := 0) hx hb dX12_sizes_0 (by decide +kernel) ?_
  refine lv_istore_n (lv' := [(1, .int 0), (0, .ref h0)]) hx hb dX12_sizes_1 rfl hl (by decide) rfl (fun ls hl => ?_)
  refine lv_iconst (v := 0) hx hb dX12_sizes_2 (by decide +kernel) ?_
  refine lv_istore_n (lv' := [(2, .int 0), (1, .int 0), (0, .ref h0)]) hx hb dX12_sizes_3 rfl hl (by decide) rfl (fun ls hl => ?_)
  refine lv_iload_n hx hb dX12_sizes_4 rfl (lv_at hl 0 rfl) ?_
  refine lv_aload_n hx hb dX12_sizes_5 rfl (lv_at hl 2 rfl) ?_
  refine va_get (D := D) (ci := 12) (v := .int 0) (C := RX12) (T := TX12) (N := 118) hx hb hts inX12 hown hK hP 0 rfl rfl 67 (by decide) (hts _ wm_1434) (fun _ h9 => h9) rfl dX12_sizes_6 ?_
  refine pcn (b := 9) rfl ?_
  refine lv_icmp_ge (tgt := 32) hx hb dX12_sizes_9 (by decide) (fun _ => ?_) (fun h9 => absurd (by decide +kernel) h9)
  refine lv_iload_n hx hb dX12_sizes_32 rfl (lv_at hl 1 rfl) ?_
  refine W.widen (k := 0) (n := 0) (Nat.le_of_ble_eq_true rfl) (Nat.le_of_ble_eq_true rfl) ?_
  exact rtI hx hb hr hlocks hS hP hD ⟨rfl, rfl⟩ dX12_sizes_33

set_option maxHeartbeats 4000000 in
set_option maxRecDepth 100000 in
theorem c_X1_isTyped_0 (l : Launch) (D : va_G) (cI cZ cB cJ : ClassId) (h0 h1 g0 g1 g2 g3 g4 g5 : Nat) : CtI l D (TT cI cZ cB cJ) yX1_isTyped cX1_isTyped 2 (some .boolean) 0 0 0 0 [.ref h0, .int 0] [(h0, .inr (1, [.ref g0, .ref g1, .ref g2, .ref g3, .ref g4, .ref g5, .ref h1, .int 4, .int 3, .int 0, .int (-1), .int 0])), (h1, .inl (cZ, 60, .inl (upd (fun _ => 0) 0 1)))] (fun r w1 => r = 1 ∧ w1 = [(h0, .inr (1, [.ref g0, .ref g1, .ref g2, .ref g3, .ref g4, .ref g5, .ref h1, .int 4, .int 3, .int 0, .int (-1), .int 0])), (h1, .inl (cZ, 60, .inl (upd (fun _ => 0) 0 1)))]) := by
  refine CtI.of (by decide +kernel) (Nat.le_of_ble_eq_true rfl) ?_
  intro p e s m below meth c A ls hx hb hr hml hown hts hnw hlocks hin hA hS hP hK hD hl
  have hown : s.vm.findClass RX1 = some m.cls := hown
  have hl : lv_has ls 2 [(0, .ref h0), (1, .int 0)] := hl
  refine lv_iload_n hx hb dX1_isTyped_0 rfl (lv_at hl 1 rfl) ?_
  refine lv_if_lt (tgt := 26) hx hb dX1_isTyped_1 (by decide) (fun h9 => absurd h9 (by decide +kernel)) (fun _ => ?_)
  refine lv_iload_n hx hb dX1_isTyped_4 rfl (lv_at hl 1 rfl) ?_
  refine lv_aload_n hx hb dX1_isTyped_5 rfl (lv_at hl 0 rfl) ?_
  refine va_get (D := D) (ci := 1) (v := .ref h1) (C := RX1) (T := TX1) (N := 12) hx hb hts inX1 hown hK hP 0 rfl rfl 6 (by decide) (hts _ wm_293) (fun _ h9 => h9) rfl dX1_isTyped_6 ?_
  refine va_alen (v := 60) hx hb hK hP 1 1 rfl rfl (by decide +kernel) dX1_isTyped_9 ?_
  refine lv_icmp_ge (tgt := 26) hx hb dX1_isTyped_10 (by decide) (fun h9 => absurd h9 (by decide +kernel)) (fun _ => ?_)
  refine pcn (b := 13) rfl ?_
  refine lv_aload_n hx hb dX1_isTyped_13 rfl (lv_at hl 0 rfl) ?_
  refine va_get (D := D) (ci := 1) (v := .ref h1) (C := RX1) (T := TX1) (N := 12) hx hb hts inX1 hown hK hP 0 rfl rfl 6 (by decide) (hts _ wm_293) (fun _ h9 => h9) rfl dX1_isTyped_14 ?_
  refine lv_iload_n hx hb dX1_isTyped_17 rfl (lv_at hl 1 rfl) ?_
  refine al_z (x := 1) hx hb hK hP 1 1 rfl rfl (vpi (by decide +kernel)) (by first | decide +kernel | rfl) dX1_isTyped_18 ?_
  refine lv_if_eq (tgt := 26) hx hb dX1_isTyped_19 (by decide) (fun h9 => absurd h9 (by decide +kernel)) (fun _ => ?_)
  refine lv_iconst (v := 1) hx hb dX1_isTyped_22 (by decide +kernel) ?_
  refine lv_goto (tgt := 27) hx hb dX1_isTyped_23 (by decide) ?_
  refine W.widen (k := 0) (n := 0) (Nat.le_of_ble_eq_true rfl) (Nat.le_of_ble_eq_true rfl) ?_
  exact rtZ hx hb hr rfl hlocks hS hP hD ⟨rfl, rfl⟩ dX1_isTyped_27

set_option maxHeartbeats 4000000 in
set_option maxRecDepth 100000 in
theorem c_X1_typedNodes_0 (l : Launch) (D : va_G) (cI cZ cB cJ : ClassId) (h0 h1 h2 g0 g1 g2 g3 g4 g5 g6 g7 g8 g9 g10 g11 g12 g13 : Nat) : CtI l D (TT cI cZ cB cJ) yX1_typedNodes cX1_typedNodes 3 (some .int) 1 21 0 0 [.ref h0] [(h0, .inr (1, [.ref h1, .ref g0, .ref g1, .ref g2, .ref g3, .ref g4, .ref h2, .int 4, .int 3, .int 0, .int (-1), .int 0])), (h1, .inr (7, [.ref g5, .ref g6, .ref g7, .ref g8, .ref g9, .ref g10, .ref g11, .ref g12, .ref g13, .int 1, .int 1, .int 0])), (h2, .inl (cZ, 60, .inl (upd (fun _ => 0) 0 1)))] (fun r w1 => r = 1 ∧ w1 = [(h0, .inr (1, [.ref h1, .ref g0, .ref g1, .ref g2, .ref g3, .ref g4, .ref h2, .int 4, .int 3, .int 0, .int (-1), .int 0])), (h1, .inr (7, [.ref g5, .ref g6, .ref g7, .ref g8, .ref g9, .ref g10, .ref g11, .ref g12, .ref g13, .int 1, .int 1, .int 0])), (h2, .inl (cZ, 60, .inl (upd (fun _ => 0) 0 1)))]) := by
  refine CtI.of (by decide +kernel) (Nat.le_of_ble_eq_true rfl) ?_
  intro p e s m below meth c A ls hx hb hr hml hown hts hnw hlocks hin hA hS hP hK hD hl
  have hown : s.vm.findClass RX1 = some m.cls := hown
  have hl : lv_has ls 3 [(0, .ref h0)] := hl
  refine lv_iconst (v := 0) hx hb dX1_typedNodes_0 (by decide +kernel) ?_
  refine lv_istore_n (lv' := [(1, .int 0), (0, .ref h0)]) hx hb dX1_typedNodes_1 rfl hl (by decide) rfl (fun ls hl => ?_)
  refine lv_iconst (v := 0) hx hb dX1_typedNodes_2 (by decide +kernel) ?_
  refine lv_istore_n (lv' := [(2, .int 0), (1, .int 0), (0, .ref h0)]) hx hb dX1_typedNodes_3 rfl hl (by decide) rfl (fun ls hl => ?_)
  refine lv_iload_n hx hb dX1_typedNodes_4 rfl (lv_at hl 0 rfl) ?_
  refine lv_aload_n hx hb dX1_typedNodes_5 rfl (lv_at hl 2 rfl) ?_
  refine va_get (D := D) (ci := 1) (v := .ref h1) (C := RX1) (T := TX1) (N := 12) hx hb hts inX1 hown hK hP 0 rfl rfl 0 (by decide) (hts _ wm_274) (fun _ h9 => h9) rfl dX1_typedNodes_6 ?_
  refine pcn (b := 9) rfl ?_
  refine va_getN (D := D) (ci := 7) (v := .int 1) (C := RX7) (T := TX7) (N := 12) hx hb hts inX7 hown hK hP 1 rfl rfl 9 (by decide) (va_Nw.use rfl (hnw _ wn_99)) (fun _ h9 => h9) rfl dX1_typedNodes_9 ?_
  refine lv_icmp_ge (tgt := 32) hx hb dX1_typedNodes_12 (by decide) (fun h9 => absurd h9 (by decide +kernel)) (fun _ => ?_)
  refine lv_aload_n hx hb dX1_typedNodes_15 rfl (lv_at hl 2 rfl) ?_
  refine lv_iload_n hx hb dX1_typedNodes_16 rfl (lv_at hl 0 rfl) ?_
  refine kVi (As := [.int 0]) (rest := []) (wr := [(h1, .inr (7, [.ref g5, .ref g6, .ref g7, .ref g8, .ref g9, .ref g10, .ref g11, .ref g12, .ref g13, .int 1, .int 1, .int 0]))]) hx hb hml hown hts hnw hK hP hD hS hA hl.1 (c_X1_isTyped_0 l D cI cZ cB cJ h0 h2 h1 g0 g1 g2 g3 g4) yk_X1_isTyped wm_578 [0, 2] [1] rfl rfl (by decide) (by decide) (by decide) 0 rfl rfl rfl rfl rfl dX1_typedNodes_17 ⟨Nat.le_of_ble_eq_true rfl, Nat.le_of_ble_eq_true rfl⟩ ⟨Nat.le_of_ble_eq_true rfl, Nat.le_of_ble_eq_true rfl⟩ (Nat.le_of_ble_eq_true rfl) (fun r9 w1 H locs hq9 hP hD hS => ?_)
  obtain ⟨rfl, rfl⟩ := hq9
  have hP : va_P D vwCl [(h1, .inr (7, [.ref g5, .ref g6, .ref g7, .ref g8, .ref g9, .ref g10, .ref g11, .ref g12, .ref g13, .int 1, .int 1, .int 0])), (h0, .inr (1, [.ref h1, .ref g0, .ref g1, .ref g2, .ref g3, .ref g4, .ref h2, .int 4, .int 3, .int 0, .int (-1), .int 0])), (h2, .inl (cZ, 60, .inl (upd (fun _ => 0) 0 1)))] H := hP
  have hD : va_D A [(h1, .inr (7, [.ref g5, .ref g6, .ref g7, .ref g8, .ref g9, .ref g10, .ref g11, .ref g12, .ref g13, .int 1, .int 1, .int 0])), (h0, .inr (1, [.ref h1, .ref g0, .ref g1, .ref g2, .ref g3, .ref g4, .ref h2, .int 4, .int 3, .int 0, .int (-1), .int 0])), (h2, .inl (cZ, 60, .inl (upd (fun _ => 0) 0 1)))] := hD
  refine W.widen (k := 0) (n := 0) (Nat.le_of_ble_eq_true rfl) (Nat.le_of_ble_eq_true rfl) ?_
  refine pcn (b := 20) rfl ?_
  refine lv_if_eq (tgt := 26) hx hb dX1_typedNodes_20 (by decide) (fun h9 => absurd h9 (by decide +kernel)) (fun _ => ?_)
  refine lv_iinc (v := 1) (lv' := [(1, .int 1), (2, .int 0), (0, .ref h0)]) hx hb dX1_typedNodes_23 hl (k := 1) rfl (by decide +kernel) (by decide) rfl (fun ls hl => ?_)
  refine lv_iinc (v := 1) (lv' := [(2, .int 1), (1, .int 1), (0, .ref h0)]) hx hb dX1_typedNodes_26 hl (k := 1) rfl (by decide +kernel) (by decide) rfl (fun ls hl => ?_)
  refine lv_goto (tgt := 4) hx hb dX1_typedNodes_29 (by decide) ?_
  refine lv_iload_n hx hb dX1_typedNodes_4 rfl (lv_at hl 0 rfl) ?_
  refine lv_aload_n hx hb dX1_typedNodes_5 rfl (lv_at hl 2 rfl) ?_
  refine va_get (D := D) (ci := 1) (v := .ref h1) (C := RX1) (T := TX1) (N := 12) hx hb hts inX1 hown hK hP 1 rfl rfl 0 (by decide) (hts _ wm_274) (fun _ h9 => h9) rfl dX1_typedNodes_6 ?_
  refine va_getN (D := D) (ci := 7) (v := .int 1) (C := RX7) (T := TX7) (N := 12) hx hb hts inX7 hown hK hP 0 rfl rfl 9 (by decide) (va_Nw.use rfl (hnw _ wn_99)) (fun _ h9 => h9) rfl dX1_typedNodes_9 ?_
  refine lv_icmp_ge (tgt := 32) hx hb dX1_typedNodes_12 (by decide) (fun _ => ?_) (fun h9 => absurd (by decide +kernel) h9)
  refine lv_iload_n hx hb dX1_typedNodes_32 rfl (lv_at hl 1 rfl) ?_
  refine W.widen (k := 0) (n := 0) (Nat.le_of_ble_eq_true rfl) (Nat.le_of_ble_eq_true rfl) ?_
  have hP := hP.sub (ws' := [(h0, .inr (1, [.ref h1, .ref g0, .ref g1, .ref g2, .ref g3, .ref g4, .ref h2, .int 4, .int 3, .int 0, .int (-1), .int 0])), (h1, .inr (7, [.ref g5, .ref g6, .ref g7, .ref g8, .ref g9, .ref g10, .ref g11, .ref g12, .ref g13, .int 1, .int 1, .int 0])), (h2, .inl (cZ, 60, .inl (upd (fun _ => 0) 0 1)))]) [1, 0, 2] rfl
  have hD := hD.sub (ws' := [(h0, .inr (1, [.ref h1, .ref g0, .ref g1, .ref g2, .ref g3, .ref g4, .ref h2, .int 4, .int 3, .int 0, .int (-1), .int 0])), (h1, .inr (7, [.ref g5, .ref g6, .ref g7, .ref g8, .ref g9, .ref g10, .ref g11, .ref g12, .ref g13, .int 1, .int 1, .int 0])), (h2, .inl (cZ, 60, .inl (upd (fun _ => 0) 0 1)))]) [1, 0, 2] (by decide) rfl
  exact rtI hx hb hr hlocks hS hP hD ⟨rfl, rfl⟩ dX1_typedNodes_33

set_option maxHeartbeats 4000000 in
set_option maxRecDepth 100000 in
theorem c_X12_typedMany_0 (l : Launch) (D : va_G) (cI cZ cB cJ : ClassId) (h0 h1 h2 g0 g1 g2 g3 g4 g5 g6 g7 g8 g9 g10 g11 g12 g13 g14 g15 g16 g17 g18 g19 g20 g21 g22 g23 g24 g25 g26 g27 g28 g29 g30 g31 g32 g33 g34 g35 g36 g37 g38 g39 g40 g41 g42 g43 g44 g45 g46 g47 g48 g49 g50 g51 g52 g53 g54 g55 g56 g57 g58 g59 g60 g61 g62 g63 g64 g65 g66 g67 : Nat) : CtI l D (TT cI cZ cB cJ) yX12_typedMany cX12_typedMany 3 (some .int) 0 0 0 0 [.ref h0] [(h0, .inr (12, [.ref g0, .ref g1, .ref g2, .ref g3, .ref g4, .int 4, .ref g5, .ref g6, .ref g7, .ref g8, .ref g9, .int 0, .ref g10, .ref g11, .ref g12, .ref g13, .ref g14, .ref g15, .ref g16, .ref g17, .int 0, .ref g18, .int 0, .ref g19, .int 0, .int 0, .int 0, .int 0, .int 0, .int 0, .int 0, .int 0, .long 0, .ref g20, .ref g21, .ref g22, .ref g23, .ref g24, .ref g25, .ref g26, .ref g27, .ref h1, .ref g28, .ref g29, .int 0, .int 1, .int 0, .ref g30, .ref g31, .int 0, .ref g32, .ref g33, .ref g34, .ref g35, .int 0, .ref g36, .int 0, .ref g37, .ref g38, .ref g39, .ref g40, .ref g41, .ref g42, .ref g43, .ref g44, .ref g45, .ref h2, .int 0, .int 0, .int 4, .ref g46, .ref g47, .ref g48, .ref g49, .ref g50, .ref g51, .ref g52, .ref g53, .ref g54, .ref g55, .ref g56, .ref g57, .ref g58, .int 0, .int 0, .int 0, .int 0, .int 0, .int 0, .int 0, .int 0, .int 0, .int 0, .int 0, .int 0, .int 0, .int 0, .int 0, .int 0, .int 0, .int 0, .int 0, .int 0, .ref g59, .ref g60, .int 0, .ref g61, .ref g62, .ref g63, .ref g64, .int 0, .int 0, .ref g65, .ref g66, .int 0, .ref g67, .int 0, .int 0])), (h1, .inl (cI, 2, .inl (upd (fun _ => 0) 0 1))), (h2, .inl (cZ, 60, .inl (upd (fun _ => 0) 0 1)))] (fun r w1 => r = 1 ∧ w1 = [(h0, .inr (12, [.ref g0, .ref g1, .ref g2, .ref g3, .ref g4, .int 4, .ref g5, .ref g6, .ref g7, .ref g8, .ref g9, .int 0, .ref g10, .ref g11, .ref g12, .ref g13, .ref g14, .ref g15, .ref g16, .ref g17, .int 0, .ref g18, .int 0, .ref g19, .int 0, .int 0, .int 0, .int 0, .int 0, .int 0, .int 0, .int 0, .long 0, .ref g20, .ref g21, .ref g22, .ref g23, .ref g24, .ref g25, .ref g26, .ref g27, .ref h1, .ref g28, .ref g29, .int 0, .int 1, .int 0, .ref g30, .ref g31, .int 0, .ref g32, .ref g33, .ref g34, .ref g35, .int 0, .ref g36, .int 0, .ref g37, .ref g38, .ref g39, .ref g40, .ref g41, .ref g42, .ref g43, .ref g44, .ref g45, .ref h2, .int 0, .int 0, .int 4, .ref g46, .ref g47, .ref g48, .ref g49, .ref g50, .ref g51, .ref g52, .ref g53, .ref g54, .ref g55, .ref g56, .ref g57, .ref g58, .int 0, .int 0, .int 0, .int 0, .int 0, .int 0, .int 0, .int 0, .int 0, .int 0, .int 0, .int 0, .int 0, .int 0, .int 0, .int 0, .int 0, .int 0, .int 0, .int 0, .ref g59, .ref g60, .int 0, .ref g61, .ref g62, .ref g63, .ref g64, .int 0, .int 0, .ref g65, .ref g66, .int 0, .ref g67, .int 0, .int 0])), (h1, .inl (cI, 2, .inl (upd (fun _ => 0) 0 1))), (h2, .inl (cZ, 60, .inl (upd (fun _ => 0) 0 1)))]) := by
  refine CtI.of (by decide +kernel) (Nat.le_of_ble_eq_true rfl) ?_
  intro p e s m below meth c A ls hx hb hr hml hown hts hnw hlocks hin hA hS hP hK hD hl
  have hown : s.vm.findClass RX12 = some m.cls := hown
  have hl : lv_has ls 3 [(0, .ref h0)] := hl
  refine lv_iconst (v := 0) hx hb dX12_typedMany_0 (by decide +kernel) ?_
  refine lv_istore_n (lv' := [(1, .int 0), (0, .ref h0)]) hx hb dX12_typedMany_1 rfl hl (by decide) rfl (fun ls hl => ?_)
  refine lv_iconst (v := 0) hx hb dX12_typedMany_2 (by decide +kernel) ?_
  refine lv_istore_n (lv' := [(2, .int 0), (1, .int 0), (0, .ref h0)]) hx hb dX12_typedMany_3 rfl hl (by decide) rfl (fun ls hl => ?_)
  refine lv_iload_n hx hb dX12_typedMany_4 rfl (lv_at hl 0 rfl) ?_
  refine lv_aload_n hx hb dX12_typedMany_5 rfl (lv_at hl 2 rfl) ?_
  refine va_get (D := D) (ci := 12) (v := .ref h1) (C := RX12) (T := TX12) (N := 118) hx hb hts inX12 hown hK hP 0 rfl rfl 41 (by decide) (hts _ wm_1408) (fun _ h9 => h9) rfl dX12_typedMany_6 ?_
  refine pcn (b := 9) rfl ?_
  refine lv_aload_n hx hb dX12_typedMany_9 rfl (lv_at hl 2 rfl) ?_
  refine va_get (D := D) (ci := 12) (v := .int 0) (C := RX12) (T := TX12) (N := 118) hx hb hts inX12 hown hK hP 0 rfl rfl 44 (by decide) (hts _ wm_1411) (fun _ h9 => h9) rfl dX12_typedMany_10 ?_
  refine al_i (x := 1) hx hb hK hP 1 0 rfl rfl (vpi (by decide +kernel)) (by first | decide +kernel | rfl) dX12_typedMany_13 ?_
  refine lv_icmp_ge (tgt := 40) hx hb dX12_typedMany_14 (by decide) (fun h9 => absurd h9 (by decide +kernel)) (fun _ => ?_)
  refine lv_iload_n hx hb dX12_typedMany_17 rfl (lv_at hl 1 rfl) ?_
  refine lv_aload_n hx hb dX12_typedMany_18 rfl (lv_at hl 2 rfl) ?_
  refine va_get (D := D) (ci := 12) (v := .ref h2) (C := RX12) (T := TX12) (N := 118) hx hb hts inX12 hown hK hP 0 rfl rfl 66 (by decide) (hts _ wm_1433) (fun _ h9 => h9) rfl dX12_typedMany_19 ?_
  refine lv_iload_n hx hb dX12_typedMany_22 rfl (lv_at hl 0 rfl) ?_
  refine pcn (b := 23) rfl ?_
  refine al_z (x := 1) hx hb hK hP 2 1 rfl rfl (vpi (by decide +kernel)) (by first | decide +kernel | rfl) dX12_typedMany_23 ?_
  refine lv_if_eq (tgt := 31) hx hb dX12_typedMany_24 (by decide) (fun h9 => absurd h9 (by decide +kernel)) (fun _ => ?_)
  refine lv_iconst (v := 1) hx hb dX12_typedMany_27 (by decide +kernel) ?_
  refine lv_goto (tgt := 32) hx hb dX12_typedMany_28 (by decide) ?_
  refine lv_iadd hx hb dX12_typedMany_32 ?_
  refine nrm (y := 1) (by decide +kernel) ?_
  refine lv_istore_n (lv' := [(1, .int 1), (2, .int 0), (0, .ref h0)]) hx hb dX12_typedMany_33 rfl hl (by decide) rfl (fun ls hl => ?_)
  refine lv_iinc (v := 1) (lv' := [(2, .int 1), (1, .int 1), (0, .ref h0)]) hx hb dX12_typedMany_34 hl (k := 1) rfl (by decide +kernel) (by decide) rfl (fun ls hl => ?_)
  refine lv_goto (tgt := 4) hx hb dX12_typedMany_37 (by decide) ?_
  refine lv_iload_n hx hb dX12_typedMany_4 rfl (lv_at hl 0 rfl) ?_
  refine lv_aload_n hx hb dX12_typedMany_5 rfl (lv_at hl 2 rfl) ?_
  refine va_get (D := D) (ci := 12) (v := .ref h1) (C := RX12) (T := TX12) (N := 118) hx hb hts inX12 hown hK hP 0 rfl rfl 41 (by decide) (hts _ wm_1408) (fun _ h9 => h9) rfl dX12_typedMany_6 ?_
  refine lv_aload_n hx hb dX12_typedMany_9 rfl (lv_at hl 2 rfl) ?_
  refine va_get (D := D) (ci := 12) (v := .int 0) (C := RX12) (T := TX12) (N := 118) hx hb hts inX12 hown hK hP 0 rfl rfl 44 (by decide) (hts _ wm_1411) (fun _ h9 => h9) rfl dX12_typedMany_10 ?_
  refine al_i (x := 1) hx hb hK hP 1 0 rfl rfl (vpi (by decide +kernel)) (by first | decide +kernel | rfl) dX12_typedMany_13 ?_
  refine lv_icmp_ge (tgt := 40) hx hb dX12_typedMany_14 (by decide) (fun _ => ?_) (fun h9 => absurd (by decide +kernel) h9)
  refine lv_iload_n hx hb dX12_typedMany_40 rfl (lv_at hl 1 rfl) ?_
  refine W.widen (k := 0) (n := 0) (Nat.le_of_ble_eq_true rfl) (Nat.le_of_ble_eq_true rfl) ?_
  exact rtI hx hb hr hlocks hS hP hD ⟨rfl, rfl⟩ dX12_typedMany_41

set_option maxHeartbeats 4000000 in
set_option maxRecDepth 100000 in
theorem c_X12_in_6 (l : Launch) (D : va_G) (cI cZ cB cJ : ClassId) (s0 : Int32) (s0l : ((-2147483648) : Int) ≤ s0.toInt) (s0h : s0.toInt ≤ ((-1) : Int)) : CtI l D (TT cI cZ cB cJ) yX12_in cX12_in 3 (some .boolean) 0 0 0 0 [.int s0, .int 0, .int 0] [] (fun r w1 => r = 0 ∧ w1 = []) := by
  refine CtI.of (by decide +kernel) (Nat.le_of_ble_eq_true rfl) ?_
  intro p e s m below meth c A ls hx hb hr hml hown hts hnw hlocks hin hA hS hP hK hD hl
  have hown : s.vm.findClass RX12 = some m.cls := hown
  have hl : lv_has ls 3 [(0, .int s0), (1, .int 0), (2, .int 0)] := hl
  refine lv_iload_n hx hb dX12_in_0 rfl (lv_at hl 0 rfl) ?_
  refine lv_iload_n hx hb dX12_in_1 rfl (lv_at hl 1 rfl) ?_
  refine lv_icmp_lt (tgt := 14) hx hb dX12_in_2 (by decide) (fun _ => ?_) (fun h9 => absurd (iv_lt s0h (by decide +kernel : (0 : Int) ≤ (0 : Int32).toInt) (by decide)) h9)
  refine lv_iconst (v := 0) hx hb dX12_in_14 (by decide +kernel) ?_
  refine W.widen (k := 0) (n := 0) (Nat.le_of_ble_eq_true rfl) (Nat.le_of_ble_eq_true rfl) ?_
  exact rtZ hx hb hr rfl hlocks hS hP hD ⟨rfl, rfl⟩ dX12_in_15

set_option maxHeartbeats 4000000 in
set_option maxRecDepth 100000 in
theorem c_X12_in_7 (l : Launch) (D : va_G) (cI cZ cB cJ : ClassId) (s0 : Int32) (s0l : (1 : Int) ≤ s0.toInt) (s0h : s0.toInt ≤ (2147483647 : Int)) : CtI l D (TT cI cZ cB cJ) yX12_in cX12_in 3 (some .boolean) 0 0 0 0 [.int s0, .int 0, .int 0] [] (fun r w1 => r = 0 ∧ w1 = []) := by
  refine CtI.of (by decide +kernel) (Nat.le_of_ble_eq_true rfl) ?_
  intro p e s m below meth c A ls hx hb hr hml hown hts hnw hlocks hin hA hS hP hK hD hl
  have hown : s.vm.findClass RX12 = some m.cls := hown
  have hl : lv_has ls 3 [(0, .int s0), (1, .int 0), (2, .int 0)] := hl
  refine lv_iload_n hx hb dX12_in_0 rfl (lv_at hl 0 rfl) ?_
  refine lv_iload_n hx hb dX12_in_1 rfl (lv_at hl 1 rfl) ?_
  refine lv_icmp_lt (tgt := 14) hx hb dX12_in_2 (by decide) (fun h9 => absurd h9 (iv_nlt s0l (by decide +kernel : (0 : Int32).toInt ≤ (0 : Int)) (by decide))) (fun _ => ?_)
  refine lv_iload_n hx hb dX12_in_5 rfl (lv_at hl 0 rfl) ?_
  refine lv_iload_n hx hb dX12_in_6 rfl (lv_at hl 2 rfl) ?_
  refine lv_icmp_gt (tgt := 14) hx hb dX12_in_7 (by decide) (fun _ => ?_) (fun h9 => absurd (iv_lt (by decide +kernel : (0 : Int32).toInt ≤ (0 : Int)) s0l (by decide)) h9)
  refine lv_iconst (v := 0) hx hb dX12_in_14 (by decide +kernel) ?_
  refine W.widen (k := 0) (n := 0) (Nat.le_of_ble_eq_true rfl) (Nat.le_of_ble_eq_true rfl) ?_
  exact rtZ hx hb hr rfl hlocks hS hP hD ⟨rfl, rfl⟩ dX12_in_15

set_option maxHeartbeats 4000000 in
set_option maxRecDepth 100000 in
theorem c_X11_at_8 (l : Launch) (D : va_G) (cI cZ cB cJ : ClassId) (h0 : Nat) : CtI l D (TT cI cZ cB cJ) yX11_at cX11_at 2 (some .int) 0 0 0 0 [.ref h0, .int 0] [(h0, .inl (cI, 60, .inl (upd (fun _ => 0) 0 (-1))))] (fun r w1 => r = (-1) ∧ w1 = [(h0, .inl (cI, 60, .inl (upd (fun _ => 0) 0 (-1))))]) := by
  refine CtI.of (by decide +kernel) (Nat.le_of_ble_eq_true rfl) ?_
  intro p e s m below meth c A ls hx hb hr hml hown hts hnw hlocks hin hA hS hP hK hD hl
  have hown : s.vm.findClass RX11 = some m.cls := hown
  have hl : lv_has ls 2 [(0, .ref h0), (1, .int 0)] := hl
  refine lv_iload_n hx hb dX11_at_0 rfl (lv_at hl 1 rfl) ?_
  refine lv_if_lt (tgt := 16) hx hb dX11_at_1 (by decide) (fun h9 => absurd h9 (by decide +kernel)) (fun _ => ?_)
  refine lv_iload_n hx hb dX11_at_4 rfl (lv_at hl 1 rfl) ?_
  refine lv_aload_n hx hb dX11_at_5 rfl (lv_at hl 0 rfl) ?_
  refine va_alen (v := 60) hx hb hK hP 0 0 rfl rfl (by decide +kernel) dX11_at_6 ?_
  refine lv_icmp_ge (tgt := 16) hx hb dX11_at_7 (by decide) (fun h9 => absurd h9 (by decide +kernel)) (fun _ => ?_)
  refine lv_aload_n hx hb dX11_at_10 rfl (lv_at hl 0 rfl) ?_
  refine pcn (b := 11) rfl ?_
  refine lv_iload_n hx hb dX11_at_11 rfl (lv_at hl 1 rfl) ?_
  refine al_i (x := (-1)) hx hb hK hP 0 0 rfl rfl (vpi (by decide +kernel)) (by first | decide +kernel | rfl) dX11_at_12 ?_
  refine lv_goto (tgt := 17) hx hb dX11_at_13 (by decide) ?_
  refine W.widen (k := 0) (n := 0) (Nat.le_of_ble_eq_true rfl) (Nat.le_of_ble_eq_true rfl) ?_
  exact rtI hx hb hr hlocks hS hP hD ⟨rfl, rfl⟩ dX11_at_17

set_option maxHeartbeats 4000000 in
set_option maxRecDepth 100000 in
theorem c_X1_ofNode_0 (l : Launch) (D : va_G) (cI cZ cB cJ : ClassId) (h0 h1 h2 g0 g1 g2 g3 g4 g5 g6 g7 g8 g9 g10 g11 g12 g13 : Nat) (s0 : Int32) (s0l : ((-2147483648) : Int) ≤ s0.toInt) (s0h : s0.toInt ≤ ((-1) : Int)) : CtI l D (TT cI cZ cB cJ) yX1_ofNode cX1_ofNode 4 (some .int) 1 21 0 0 [.ref h0, .int 0, .int s0] [(h0, .inr (1, [.ref h1, .ref g0, .ref g1, .ref g2, .ref g3, .ref g4, .ref g5, .int 4, .int 3, .int 0, .int (-1), .int 0])), (h1, .inr (7, [.ref g6, .ref h2, .ref g7, .ref g8, .ref g9, .ref g10, .ref g11, .ref g12, .ref g13, .int 1, .int 1, .int 0])), (h2, .inl (cI, 60, .inl (upd (fun _ => 0) 0 (-1))))] (fun r w1 => r = (-1) ∧ w1 = [(h0, .inr (1, [.ref h1, .ref g0, .ref g1, .ref g2, .ref g3, .ref g4, .ref g5, .int 4, .int 3, .int 0, .int (-1), .int 0])), (h1, .inr (7, [.ref g6, .ref h2, .ref g7, .ref g8, .ref g9, .ref g10, .ref g11, .ref g12, .ref g13, .int 1, .int 1, .int 0])), (h2, .inl (cI, 60, .inl (upd (fun _ => 0) 0 (-1))))]) := by
  refine CtI.of (by decide +kernel) (Nat.le_of_ble_eq_true rfl) ?_
  intro p e s m below meth c A ls hx hb hr hml hown hts hnw hlocks hin hA hS hP hK hD hl
  have hown : s.vm.findClass RX1 = some m.cls := hown
  have hl : lv_has ls 4 [(0, .ref h0), (1, .int 0), (2, .int s0)] := hl
  refine lv_aload_n hx hb dX1_ofNode_0 rfl (lv_at hl 0 rfl) ?_
  refine va_get (D := D) (ci := 1) (v := .ref h1) (C := RX1) (T := TX1) (N := 12) hx hb hts inX1 hown hK hP 0 rfl rfl 0 (by decide) (hts _ wm_274) (fun _ h9 => h9) rfl dX1_ofNode_1 ?_
  refine va_getN (D := D) (ci := 7) (v := .ref h2) (C := RX7) (T := TX7) (N := 12) hx hb hts inX7 hown hK hP 1 rfl rfl 1 (by decide) (va_Nw.use rfl (hnw _ wn_81)) (fun _ h9 => h9) rfl dX1_ofNode_4 ?_
  refine lv_iload_n hx hb dX1_ofNode_7 rfl (lv_at hl 1 rfl) ?_
  refine kSNi (As := [.ref h2, .int 0]) (rest := []) (wr := [(h0, .inr (1, [.ref h1, .ref g0, .ref g1, .ref g2, .ref g3, .ref g4, .ref g5, .int 4, .int 3, .int 0, .int (-1), .int 0])), (h1, .inr (7, [.ref g6, .ref h2, .ref g7, .ref g8, .ref g9, .ref g10, .ref g11, .ref g12, .ref g13, .int 1, .int 1, .int 0]))]) hx hb hml hown hts hnw hK hP hD hS hA hl.1 (c_X11_at_8 l D cI cZ cB cJ h2) yk_X11_at wn_482 [2] [0, 1] rfl rfl (by decide) (by decide) (by decide) rfl rfl dX1_ofNode_8 ⟨Nat.le_of_ble_eq_true rfl, Nat.le_of_ble_eq_true rfl⟩ ⟨Nat.le_of_ble_eq_true rfl, Nat.le_of_ble_eq_true rfl⟩ (Nat.le_of_ble_eq_true rfl) (fun r9 w1 H locs hq9 hP hD hS => ?_)
  obtain ⟨rfl, rfl⟩ := hq9
  have hP : va_P D vwCl [(h0, .inr (1, [.ref h1, .ref g0, .ref g1, .ref g2, .ref g3, .ref g4, .ref g5, .int 4, .int 3, .int 0, .int (-1), .int 0])), (h1, .inr (7, [.ref g6, .ref h2, .ref g7, .ref g8, .ref g9, .ref g10, .ref g11, .ref g12, .ref g13, .int 1, .int 1, .int 0])), (h2, .inl (cI, 60, .inl (upd (fun _ => 0) 0 (-1))))] H := hP
  have hD : va_D A [(h0, .inr (1, [.ref h1, .ref g0, .ref g1, .ref g2, .ref g3, .ref g4, .ref g5, .int 4, .int 3, .int 0, .int (-1), .int 0])), (h1, .inr (7, [.ref g6, .ref h2, .ref g7, .ref g8, .ref g9, .ref g10, .ref g11, .ref g12, .ref g13, .int 1, .int 1, .int 0])), (h2, .inl (cI, 60, .inl (upd (fun _ => 0) 0 (-1))))] := hD
  refine W.widen (k := 0) (n := 0) (Nat.le_of_ble_eq_true rfl) (Nat.le_of_ble_eq_true rfl) ?_
  refine pcn (b := 11) rfl ?_
  refine lv_istore_n (lv' := [(3, .int (-1)), (0, .ref h0), (1, .int 0), (2, .int s0)]) hx hb dX1_ofNode_11 rfl hl (by decide) rfl (fun ls hl => ?_)
  refine lv_iload_n hx hb dX1_ofNode_12 rfl (lv_at hl 3 rfl) ?_
  refine lv_tableOut (tgt := 159) hx hb dX1_ofNode_13 (Or.inl (Int.lt_of_le_of_lt s0h (by decide))) (by decide) ?_
  refine lv_iconst (v := (-1)) hx hb dX1_ofNode_159 (by decide +kernel) ?_
  refine W.widen (k := 0) (n := 0) (Nat.le_of_ble_eq_true rfl) (Nat.le_of_ble_eq_true rfl) ?_
  exact rtI hx hb hr hlocks hS hP hD ⟨rfl, rfl⟩ dX1_ofNode_160

set_option maxHeartbeats 4000000 in
set_option maxRecDepth 100000 in
theorem c_X12_in_8 (l : Launch) (D : va_G) (cI cZ cB cJ : ClassId) : CtI l D (TT cI cZ cB cJ) yX12_in cX12_in 3 (some .boolean) 0 0 0 0 [.int 0, .int 0, .int 0] [] (fun r w1 => r = 1 ∧ w1 = []) := by
  refine CtI.of (by decide +kernel) (Nat.le_of_ble_eq_true rfl) ?_
  intro p e s m below meth c A ls hx hb hr hml hown hts hnw hlocks hin hA hS hP hK hD hl
  have hown : s.vm.findClass RX12 = some m.cls := hown
  have hl : lv_has ls 3 [(0, .int 0), (1, .int 0), (2, .int 0)] := hl
  refine lv_iload_n hx hb dX12_in_0 rfl (lv_at hl 0 rfl) ?_
  refine lv_iload_n hx hb dX12_in_1 rfl (lv_at hl 1 rfl) ?_
  refine lv_icmp_lt (tgt := 14) hx hb dX12_in_2 (by decide) (fun h9 => absurd h9 (by decide +kernel)) (fun _ => ?_)
  refine lv_iload_n hx hb dX12_in_5 rfl (lv_at hl 0 rfl) ?_
  refine lv_iload_n hx hb dX12_in_6 rfl (lv_at hl 2 rfl) ?_
  refine lv_icmp_gt (tgt := 14) hx hb dX12_in_7 (by decide) (fun h9 => absurd h9 (by decide +kernel)) (fun _ => ?_)
  refine lv_iconst (v := 1) hx hb dX12_in_10 (by decide +kernel) ?_
  refine pcn (b := 11) rfl ?_
  refine lv_goto (tgt := 15) hx hb dX12_in_11 (by decide) ?_
  refine W.widen (k := 0) (n := 0) (Nat.le_of_ble_eq_true rfl) (Nat.le_of_ble_eq_true rfl) ?_
  exact rtZ hx hb hr rfl hlocks hS hP hD ⟨rfl, rfl⟩ dX12_in_15

set_option maxHeartbeats 4000000 in
set_option maxRecDepth 100000 in
theorem c_X1_ofNode_1 (l : Launch) (D : va_G) (cI cZ cB cJ : ClassId) (h0 h1 h2 h3 g0 g1 g2 g3 g4 g5 g6 g7 g8 g9 g10 g11 g12 : Nat) : CtI l D (TT cI cZ cB cJ) yX1_ofNode cX1_ofNode 4 (some .int) 1 21 0 0 [.ref h0, .int 0, .int 0] [(h0, .inr (1, [.ref h1, .ref g0, .ref g1, .ref g2, .ref g3, .ref g4, .ref g5, .int 4, .int 3, .int 0, .int (-1), .int 0])), (h1, .inr (7, [.ref h3, .ref h2, .ref g6, .ref g7, .ref g8, .ref g9, .ref g10, .ref g11, .ref g12, .int 1, .int 1, .int 0])), (h2, .inl (cI, 60, .inl (upd (fun _ => 0) 0 (-1)))), (h3, .inl (cI, 60, .inl (fun _ => 0)))] (fun r w1 => r = 0 ∧ w1 = [(h0, .inr (1, [.ref h1, .ref g0, .ref g1, .ref g2, .ref g3, .ref g4, .ref g5, .int 4, .int 3, .int 0, .int (-1), .int 0])), (h1, .inr (7, [.ref h3, .ref h2, .ref g6, .ref g7, .ref g8, .ref g9, .ref g10, .ref g11, .ref g12, .int 1, .int 1, .int 0])), (h2, .inl (cI, 60, .inl (upd (fun _ => 0) 0 (-1)))), (h3, .inl (cI, 60, .inl (fun _ => 0)))]) := by
  refine CtI.of (by decide +kernel) (Nat.le_of_ble_eq_true rfl) ?_
  intro p e s m below meth c A ls hx hb hr hml hown hts hnw hlocks hin hA hS hP hK hD hl
  have hown : s.vm.findClass RX1 = some m.cls := hown
  have hl : lv_has ls 4 [(0, .ref h0), (1, .int 0), (2, .int 0)] := hl
  refine lv_aload_n hx hb dX1_ofNode_0 rfl (lv_at hl 0 rfl) ?_
  refine va_get (D := D) (ci := 1) (v := .ref h1) (C := RX1) (T := TX1) (N := 12) hx hb hts inX1 hown hK hP 0 rfl rfl 0 (by decide) (hts _ wm_274) (fun _ h9 => h9) rfl dX1_ofNode_1 ?_
  refine va_getN (D := D) (ci := 7) (v := .ref h2) (C := RX7) (T := TX7) (N := 12) hx hb hts inX7 hown hK hP 1 rfl rfl 1 (by decide) (va_Nw.use rfl (hnw _ wn_81)) (fun _ h9 => h9) rfl dX1_ofNode_4 ?_
  refine lv_iload_n hx hb dX1_ofNode_7 rfl (lv_at hl 1 rfl) ?_
  refine kSNi (As := [.ref h2, .int 0]) (rest := []) (wr := [(h0, .inr (1, [.ref h1, .ref g0, .ref g1, .ref g2, .ref g3, .ref g4, .ref g5, .int 4, .int 3, .int 0, .int (-1), .int 0])), (h1, .inr (7, [.ref h3, .ref h2, .ref g6, .ref g7, .ref g8, .ref g9, .ref g10, .ref g11, .ref g12, .int 1, .int 1, .int 0])), (h3, .inl (cI, 60, .inl (fun _ => 0)))]) hx hb hml hown hts hnw hK hP hD hS hA hl.1 (c_X11_at_8 l D cI cZ cB cJ h2) yk_X11_at wn_482 [2] [0, 1, 3] rfl rfl (by decide) (by decide) (by decide) rfl rfl dX1_ofNode_8 ⟨Nat.le_of_ble_eq_true rfl, Nat.le_of_ble_eq_true rfl⟩ ⟨Nat.le_of_ble_eq_true rfl, Nat.le_of_ble_eq_true rfl⟩ (Nat.le_of_ble_eq_true rfl) (fun r9 w1 H locs hq9 hP hD hS => ?_)
  obtain ⟨rfl, rfl⟩ := hq9
  have hP : va_P D vwCl [(h0, .inr (1, [.ref h1, .ref g0, .ref g1, .ref g2, .ref g3, .ref g4, .ref g5, .int 4, .int 3, .int 0, .int (-1), .int 0])), (h1, .inr (7, [.ref h3, .ref h2, .ref g6, .ref g7, .ref g8, .ref g9, .ref g10, .ref g11, .ref g12, .int 1, .int 1, .int 0])), (h3, .inl (cI, 60, .inl (fun _ => 0))), (h2, .inl (cI, 60, .inl (upd (fun _ => 0) 0 (-1))))] H := hP
  have hD : va_D A [(h0, .inr (1, [.ref h1, .ref g0, .ref g1, .ref g2, .ref g3, .ref g4, .ref g5, .int 4, .int 3, .int 0, .int (-1), .int 0])), (h1, .inr (7, [.ref h3, .ref h2, .ref g6, .ref g7, .ref g8, .ref g9, .ref g10, .ref g11, .ref g12, .int 1, .int 1, .int 0])), (h3, .inl (cI, 60, .inl (fun _ => 0))), (h2, .inl (cI, 60, .inl (upd (fun _ => 0) 0 (-1))))] := hD
  refine W.widen (k := 0) (n := 0) (Nat.le_of_ble_eq_true rfl) (Nat.le_of_ble_eq_true rfl) ?_
  refine pcn (b := 11) rfl ?_
  refine lv_istore_n (lv' := [(3, .int (-1)), (0, .ref h0), (1, .int 0), (2, .int 0)]) hx hb dX1_ofNode_11 rfl hl (by decide) rfl (fun ls hl => ?_)
  refine lv_iload_n hx hb dX1_ofNode_12 rfl (lv_at hl 3 rfl) ?_
  refine lv_tableIn (off := 47) (tgt := 60) hx hb dX1_ofNode_13 (by decide +kernel) (by decide +kernel) (by decide +kernel) (by decide) ?_
  refine lv_aload_n hx hb dX1_ofNode_60 rfl (lv_at hl 1 rfl) ?_
  refine va_get (D := D) (ci := 1) (v := .ref h1) (C := RX1) (T := TX1) (N := 12) hx hb hts inX1 hown hK hP 0 rfl rfl 0 (by decide) (hts _ wm_274) (fun _ h9 => h9) rfl dX1_ofNode_61 ?_
  refine va_getN (D := D) (ci := 7) (v := .ref h3) (C := RX7) (T := TX7) (N := 12) hx hb hts inX7 hown hK hP 1 rfl rfl 0 (by decide) (va_Nw.use rfl (hnw _ wn_78)) (fun _ h9 => h9) rfl dX1_ofNode_64 ?_
  refine lv_iload_n hx hb dX1_ofNode_67 rfl (lv_at hl 2 rfl) ?_
  refine kSNi (As := [.ref h3, .int 0]) (rest := []) (wr := [(h0, .inr (1, [.ref h1, .ref g0, .ref g1, .ref g2, .ref g3, .ref g4, .ref g5, .int 4, .int 3, .int 0, .int (-1), .int 0])), (h1, .inr (7, [.ref h3, .ref h2, .ref g6, .ref g7, .ref g8, .ref g9, .ref g10, .ref g11, .ref g12, .int 1, .int 1, .int 0])), (h2, .inl (cI, 60, .inl (upd (fun _ => 0) 0 (-1))))]) hx hb hml hown hts hnw hK hP hD hS hA hl.1 (c_X11_at_4 l D cI cZ cB cJ h3) yk_X11_at wn_482 [2] [0, 1, 3] rfl rfl (by decide) (by decide) (by decide) rfl rfl dX1_ofNode_68 ⟨Nat.le_of_ble_eq_true rfl, Nat.le_of_ble_eq_true rfl⟩ ⟨Nat.le_of_ble_eq_true rfl, Nat.le_of_ble_eq_true rfl⟩ (Nat.le_of_ble_eq_true rfl) (fun r9 w1 H locs hq9 hP hD hS => ?_)
  obtain ⟨rfl, rfl⟩ := hq9
  have hP : va_P D vwCl [(h0, .inr (1, [.ref h1, .ref g0, .ref g1, .ref g2, .ref g3, .ref g4, .ref g5, .int 4, .int 3, .int 0, .int (-1), .int 0])), (h1, .inr (7, [.ref h3, .ref h2, .ref g6, .ref g7, .ref g8, .ref g9, .ref g10, .ref g11, .ref g12, .int 1, .int 1, .int 0])), (h2, .inl (cI, 60, .inl (upd (fun _ => 0) 0 (-1)))), (h3, .inl (cI, 60, .inl (fun _ => 0)))] H := hP
  have hD : va_D A [(h0, .inr (1, [.ref h1, .ref g0, .ref g1, .ref g2, .ref g3, .ref g4, .ref g5, .int 4, .int 3, .int 0, .int (-1), .int 0])), (h1, .inr (7, [.ref h3, .ref h2, .ref g6, .ref g7, .ref g8, .ref g9, .ref g10, .ref g11, .ref g12, .int 1, .int 1, .int 0])), (h2, .inl (cI, 60, .inl (upd (fun _ => 0) 0 (-1)))), (h3, .inl (cI, 60, .inl (fun _ => 0)))] := hD
  refine W.widen (k := 0) (n := 0) (Nat.le_of_ble_eq_true rfl) (Nat.le_of_ble_eq_true rfl) ?_
  refine pcn (b := 71) rfl ?_
  refine W.widen (k := 0) (n := 0) (Nat.le_of_ble_eq_true rfl) (Nat.le_of_ble_eq_true rfl) ?_
  exact rtI hx hb hr hlocks hS hP hD ⟨rfl, rfl⟩ dX1_ofNode_71

set_option maxHeartbeats 4000000 in
set_option maxRecDepth 100000 in
theorem c_X1_ofNode_2 (l : Launch) (D : va_G) (cI cZ cB cJ : ClassId) (h0 h1 h2 g0 g1 g2 g3 g4 g5 g6 g7 g8 g9 g10 g11 g12 g13 : Nat) : CtI l D (TT cI cZ cB cJ) yX1_ofNode cX1_ofNode 4 (some .int) 1 21 0 0 [.ref h0, .int 0, .int 1] [(h0, .inr (1, [.ref h1, .ref g0, .ref g1, .ref g2, .ref g3, .ref g4, .ref g5, .int 4, .int 3, .int 0, .int (-1), .int 0])), (h1, .inr (7, [.ref g6, .ref h2, .ref g7, .ref g8, .ref g9, .ref g10, .ref g11, .ref g12, .ref g13, .int 1, .int 1, .int 0])), (h2, .inl (cI, 60, .inl (upd (fun _ => 0) 0 (-1))))] (fun r w1 => r = (-2) ∧ w1 = [(h0, .inr (1, [.ref h1, .ref g0, .ref g1, .ref g2, .ref g3, .ref g4, .ref g5, .int 4, .int 3, .int 0, .int (-1), .int 0])), (h1, .inr (7, [.ref g6, .ref h2, .ref g7, .ref g8, .ref g9, .ref g10, .ref g11, .ref g12, .ref g13, .int 1, .int 1, .int 0])), (h2, .inl (cI, 60, .inl (upd (fun _ => 0) 0 (-1))))]) := by
  refine CtI.of (by decide +kernel) (Nat.le_of_ble_eq_true rfl) ?_
  intro p e s m below meth c A ls hx hb hr hml hown hts hnw hlocks hin hA hS hP hK hD hl
  have hown : s.vm.findClass RX1 = some m.cls := hown
  have hl : lv_has ls 4 [(0, .ref h0), (1, .int 0), (2, .int 1)] := hl
  refine lv_aload_n hx hb dX1_ofNode_0 rfl (lv_at hl 0 rfl) ?_
  refine va_get (D := D) (ci := 1) (v := .ref h1) (C := RX1) (T := TX1) (N := 12) hx hb hts inX1 hown hK hP 0 rfl rfl 0 (by decide) (hts _ wm_274) (fun _ h9 => h9) rfl dX1_ofNode_1 ?_
  refine va_getN (D := D) (ci := 7) (v := .ref h2) (C := RX7) (T := TX7) (N := 12) hx hb hts inX7 hown hK hP 1 rfl rfl 1 (by decide) (va_Nw.use rfl (hnw _ wn_81)) (fun _ h9 => h9) rfl dX1_ofNode_4 ?_
  refine lv_iload_n hx hb dX1_ofNode_7 rfl (lv_at hl 1 rfl) ?_
  refine kSNi (As := [.ref h2, .int 0]) (rest := []) (wr := [(h0, .inr (1, [.ref h1, .ref g0, .ref g1, .ref g2, .ref g3, .ref g4, .ref g5, .int 4, .int 3, .int 0, .int (-1), .int 0])), (h1, .inr (7, [.ref g6, .ref h2, .ref g7, .ref g8, .ref g9, .ref g10, .ref g11, .ref g12, .ref g13, .int 1, .int 1, .int 0]))]) hx hb hml hown hts hnw hK hP hD hS hA hl.1 (c_X11_at_8 l D cI cZ cB cJ h2) yk_X11_at wn_482 [2] [0, 1] rfl rfl (by decide) (by decide) (by decide) rfl rfl dX1_ofNode_8 ⟨Nat.le_of_ble_eq_true rfl, Nat.le_of_ble_eq_true rfl⟩ ⟨Nat.le_of_ble_eq_true rfl, Nat.le_of_ble_eq_true rfl⟩ (Nat.le_of_ble_eq_true rfl) (fun r9 w1 H locs hq9 hP hD hS => ?_)
  obtain ⟨rfl, rfl⟩ := hq9
  have hP : va_P D vwCl [(h0, .inr (1, [.ref h1, .ref g0, .ref g1, .ref g2, .ref g3, .ref g4, .ref g5, .int 4, .int 3, .int 0, .int (-1), .int 0])), (h1, .inr (7, [.ref g6, .ref h2, .ref g7, .ref g8, .ref g9, .ref g10, .ref g11, .ref g12, .ref g13, .int 1, .int 1, .int 0])), (h2, .inl (cI, 60, .inl (upd (fun _ => 0) 0 (-1))))] H := hP
  have hD : va_D A [(h0, .inr (1, [.ref h1, .ref g0, .ref g1, .ref g2, .ref g3, .ref g4, .ref g5, .int 4, .int 3, .int 0, .int (-1), .int 0])), (h1, .inr (7, [.ref g6, .ref h2, .ref g7, .ref g8, .ref g9, .ref g10, .ref g11, .ref g12, .ref g13, .int 1, .int 1, .int 0])), (h2, .inl (cI, 60, .inl (upd (fun _ => 0) 0 (-1))))] := hD
  refine W.widen (k := 0) (n := 0) (Nat.le_of_ble_eq_true rfl) (Nat.le_of_ble_eq_true rfl) ?_
  refine pcn (b := 11) rfl ?_
  refine lv_istore_n (lv' := [(3, .int (-1)), (0, .ref h0), (1, .int 0), (2, .int 1)]) hx hb dX1_ofNode_11 rfl hl (by decide) rfl (fun ls hl => ?_)
  refine lv_iload_n hx hb dX1_ofNode_12 rfl (lv_at hl 3 rfl) ?_
  refine lv_tableIn (off := 59) (tgt := 72) hx hb dX1_ofNode_13 (by decide +kernel) (by decide +kernel) (by decide +kernel) (by decide) ?_
  refine lv_iload_n hx hb dX1_ofNode_72 rfl (lv_at hl 0 rfl) ?_
  refine lv_if_ge (tgt := 81) hx hb dX1_ofNode_73 (by decide) (fun h9 => absurd h9 (by decide +kernel)) (fun _ => ?_)
  refine lv_bipush (v := (-2)) hx hb dX1_ofNode_76 (by decide +kernel) ?_
  refine lv_goto (tgt := 82) hx hb dX1_ofNode_78 (by decide) ?_
  refine W.widen (k := 0) (n := 0) (Nat.le_of_ble_eq_true rfl) (Nat.le_of_ble_eq_true rfl) ?_
  exact rtI hx hb hr hlocks hS hP hD ⟨rfl, rfl⟩ dX1_ofNode_82

set_option maxHeartbeats 4000000 in
set_option maxRecDepth 100000 in
theorem c_X1_ofNode_3 (l : Launch) (D : va_G) (cI cZ cB cJ : ClassId) (h0 h1 h2 h3 g0 g1 g2 g3 g4 g5 g6 g7 g8 g9 g10 g11 g12 : Nat) : CtI l D (TT cI cZ cB cJ) yX1_ofNode cX1_ofNode 4 (some .int) 1 21 0 0 [.ref h0, .int 0, .int 2] [(h0, .inr (1, [.ref h1, .ref g0, .ref g1, .ref g2, .ref g3, .ref g4, .ref g5, .int 4, .int 3, .int 0, .int (-1), .int 0])), (h1, .inr (7, [.ref g6, .ref h2, .ref g7, .ref h3, .ref g8, .ref g9, .ref g10, .ref g11, .ref g12, .int 1, .int 1, .int 0])), (h2, .inl (cI, 60, .inl (upd (fun _ => 0) 0 (-1)))), (h3, .inl (cI, 60, .inl (fun _ => 0)))] (fun r w1 => r = 0 ∧ w1 = [(h0, .inr (1, [.ref h1, .ref g0, .ref g1, .ref g2, .ref g3, .ref g4, .ref g5, .int 4, .int 3, .int 0, .int (-1), .int 0])), (h1, .inr (7, [.ref g6, .ref h2, .ref g7, .ref h3, .ref g8, .ref g9, .ref g10, .ref g11, .ref g12, .int 1, .int 1, .int 0])), (h2, .inl (cI, 60, .inl (upd (fun _ => 0) 0 (-1)))), (h3, .inl (cI, 60, .inl (fun _ => 0)))]) := by
  refine CtI.of (by decide +kernel) (Nat.le_of_ble_eq_true rfl) ?_
  intro p e s m below meth c A ls hx hb hr hml hown hts hnw hlocks hin hA hS hP hK hD hl
  have hown : s.vm.findClass RX1 = some m.cls := hown
  have hl : lv_has ls 4 [(0, .ref h0), (1, .int 0), (2, .int 2)] := hl
  refine lv_aload_n hx hb dX1_ofNode_0 rfl (lv_at hl 0 rfl) ?_
  refine va_get (D := D) (ci := 1) (v := .ref h1) (C := RX1) (T := TX1) (N := 12) hx hb hts inX1 hown hK hP 0 rfl rfl 0 (by decide) (hts _ wm_274) (fun _ h9 => h9) rfl dX1_ofNode_1 ?_
  refine va_getN (D := D) (ci := 7) (v := .ref h2) (C := RX7) (T := TX7) (N := 12) hx hb hts inX7 hown hK hP 1 rfl rfl 1 (by decide) (va_Nw.use rfl (hnw _ wn_81)) (fun _ h9 => h9) rfl dX1_ofNode_4 ?_
  refine lv_iload_n hx hb dX1_ofNode_7 rfl (lv_at hl 1 rfl) ?_
  refine kSNi (As := [.ref h2, .int 0]) (rest := []) (wr := [(h0, .inr (1, [.ref h1, .ref g0, .ref g1, .ref g2, .ref g3, .ref g4, .ref g5, .int 4, .int 3, .int 0, .int (-1), .int 0])), (h1, .inr (7, [.ref g6, .ref h2, .ref g7, .ref h3, .ref g8, .ref g9, .ref g10, .ref g11, .ref g12, .int 1, .int 1, .int 0])), (h3, .inl (cI, 60, .inl (fun _ => 0)))]) hx hb hml hown hts hnw hK hP hD hS hA hl.1 (c_X11_at_8 l D cI cZ cB cJ h2) yk_X11_at wn_482 [2] [0, 1, 3] rfl rfl (by decide) (by decide) (by decide) rfl rfl dX1_ofNode_8 ⟨Nat.le_of_ble_eq_true rfl, Nat.le_of_ble_eq_true rfl⟩ ⟨Nat.le_of_ble_eq_true rfl, Nat.le_of_ble_eq_true rfl⟩ (Nat.le_of_ble_eq_true rfl) (fun r9 w1 H locs hq9 hP hD hS => ?_)
  obtain ⟨rfl, rfl⟩ := hq9
  have hP : va_P D vwCl [(h0, .inr (1, [.ref h1, .ref g0, .ref g1, .ref g2, .ref g3, .ref g4, .ref g5, .int 4, .int 3, .int 0, .int (-1), .int 0])), (h1, .inr (7, [.ref g6, .ref h2, .ref g7, .ref h3, .ref g8, .ref g9, .ref g10, .ref g11, .ref g12, .int 1, .int 1, .int 0])), (h3, .inl (cI, 60, .inl (fun _ => 0))), (h2, .inl (cI, 60, .inl (upd (fun _ => 0) 0 (-1))))] H := hP
  have hD : va_D A [(h0, .inr (1, [.ref h1, .ref g0, .ref g1, .ref g2, .ref g3, .ref g4, .ref g5, .int 4, .int 3, .int 0, .int (-1), .int 0])), (h1, .inr (7, [.ref g6, .ref h2, .ref g7, .ref h3, .ref g8, .ref g9, .ref g10, .ref g11, .ref g12, .int 1, .int 1, .int 0])), (h3, .inl (cI, 60, .inl (fun _ => 0))), (h2, .inl (cI, 60, .inl (upd (fun _ => 0) 0 (-1))))] := hD
  refine W.widen (k := 0) (n := 0) (Nat.le_of_ble_eq_true rfl) (Nat.le_of_ble_eq_true rfl) ?_
  refine pcn (b := 11) rfl ?_
  refine lv_istore_n (lv' := [(3, .int (-1)), (0, .ref h0), (1, .int 0), (2, .int 2)]) hx hb dX1_ofNode_11 rfl hl (by decide) rfl (fun ls hl => ?_)
  refine lv_iload_n hx hb dX1_ofNode_12 rfl (lv_at hl 3 rfl) ?_
  refine lv_tableIn (off := 70) (tgt := 83) hx hb dX1_ofNode_13 (by decide +kernel) (by decide +kernel) (by decide +kernel) (by decide) ?_
  refine lv_aload_n hx hb dX1_ofNode_83 rfl (lv_at hl 1 rfl) ?_
  refine va_get (D := D) (ci := 1) (v := .ref h1) (C := RX1) (T := TX1) (N := 12) hx hb hts inX1 hown hK hP 0 rfl rfl 0 (by decide) (hts _ wm_274) (fun _ h9 => h9) rfl dX1_ofNode_84 ?_
  refine va_getN (D := D) (ci := 7) (v := .ref h3) (C := RX7) (T := TX7) (N := 12) hx hb hts inX7 hown hK hP 1 rfl rfl 3 (by decide) (va_Nw.use rfl (hnw _ wn_85)) (fun _ h9 => h9) rfl dX1_ofNode_87 ?_
  refine lv_iload_n hx hb dX1_ofNode_90 rfl (lv_at hl 2 rfl) ?_
  refine kSNi (As := [.ref h3, .int 0]) (rest := []) (wr := [(h0, .inr (1, [.ref h1, .ref g0, .ref g1, .ref g2, .ref g3, .ref g4, .ref g5, .int 4, .int 3, .int 0, .int (-1), .int 0])), (h1, .inr (7, [.ref g6, .ref h2, .ref g7, .ref h3, .ref g8, .ref g9, .ref g10, .ref g11, .ref g12, .int 1, .int 1, .int 0])), (h2, .inl (cI, 60, .inl (upd (fun _ => 0) 0 (-1))))]) hx hb hml hown hts hnw hK hP hD hS hA hl.1 (c_X11_at_4 l D cI cZ cB cJ h3) yk_X11_at wn_482 [2] [0, 1, 3] rfl rfl (by decide) (by decide) (by decide) rfl rfl dX1_ofNode_91 ⟨Nat.le_of_ble_eq_true rfl, Nat.le_of_ble_eq_true rfl⟩ ⟨Nat.le_of_ble_eq_true rfl, Nat.le_of_ble_eq_true rfl⟩ (Nat.le_of_ble_eq_true rfl) (fun r9 w1 H locs hq9 hP hD hS => ?_)
  obtain ⟨rfl, rfl⟩ := hq9
  have hP : va_P D vwCl [(h0, .inr (1, [.ref h1, .ref g0, .ref g1, .ref g2, .ref g3, .ref g4, .ref g5, .int 4, .int 3, .int 0, .int (-1), .int 0])), (h1, .inr (7, [.ref g6, .ref h2, .ref g7, .ref h3, .ref g8, .ref g9, .ref g10, .ref g11, .ref g12, .int 1, .int 1, .int 0])), (h2, .inl (cI, 60, .inl (upd (fun _ => 0) 0 (-1)))), (h3, .inl (cI, 60, .inl (fun _ => 0)))] H := hP
  have hD : va_D A [(h0, .inr (1, [.ref h1, .ref g0, .ref g1, .ref g2, .ref g3, .ref g4, .ref g5, .int 4, .int 3, .int 0, .int (-1), .int 0])), (h1, .inr (7, [.ref g6, .ref h2, .ref g7, .ref h3, .ref g8, .ref g9, .ref g10, .ref g11, .ref g12, .int 1, .int 1, .int 0])), (h2, .inl (cI, 60, .inl (upd (fun _ => 0) 0 (-1)))), (h3, .inl (cI, 60, .inl (fun _ => 0)))] := hD
  refine W.widen (k := 0) (n := 0) (Nat.le_of_ble_eq_true rfl) (Nat.le_of_ble_eq_true rfl) ?_
  refine pcn (b := 94) rfl ?_
  refine W.widen (k := 0) (n := 0) (Nat.le_of_ble_eq_true rfl) (Nat.le_of_ble_eq_true rfl) ?_
  exact rtI hx hb hr hlocks hS hP hD ⟨rfl, rfl⟩ dX1_ofNode_94

set_option maxHeartbeats 4000000 in
set_option maxRecDepth 100000 in
theorem c_X11_at_9 (l : Launch) (D : va_G) (cI cZ cB cJ : ClassId) (h0 : Nat) : CtI l D (TT cI cZ cB cJ) yX11_at cX11_at 2 (some .int) 0 0 0 0 [.ref h0, .int 0] [(h0, .inl (cI, 60, .inl (upd (fun _ => 0) 0 1)))] (fun r w1 => r = 1 ∧ w1 = [(h0, .inl (cI, 60, .inl (upd (fun _ => 0) 0 1)))]) := by
  refine CtI.of (by decide +kernel) (Nat.le_of_ble_eq_true rfl) ?_
  intro p e s m below meth c A ls hx hb hr hml hown hts hnw hlocks hin hA hS hP hK hD hl
  have hown : s.vm.findClass RX11 = some m.cls := hown
  have hl : lv_has ls 2 [(0, .ref h0), (1, .int 0)] := hl
  refine lv_iload_n hx hb dX11_at_0 rfl (lv_at hl 1 rfl) ?_
  refine lv_if_lt (tgt := 16) hx hb dX11_at_1 (by decide) (fun h9 => absurd h9 (by decide +kernel)) (fun _ => ?_)
  refine lv_iload_n hx hb dX11_at_4 rfl (lv_at hl 1 rfl) ?_
  refine lv_aload_n hx hb dX11_at_5 rfl (lv_at hl 0 rfl) ?_
  refine va_alen (v := 60) hx hb hK hP 0 0 rfl rfl (by decide +kernel) dX11_at_6 ?_
  refine lv_icmp_ge (tgt := 16) hx hb dX11_at_7 (by decide) (fun h9 => absurd h9 (by decide +kernel)) (fun _ => ?_)
  refine lv_aload_n hx hb dX11_at_10 rfl (lv_at hl 0 rfl) ?_
  refine pcn (b := 11) rfl ?_
  refine lv_iload_n hx hb dX11_at_11 rfl (lv_at hl 1 rfl) ?_
  refine al_i (x := 1) hx hb hK hP 0 0 rfl rfl (vpi (by decide +kernel)) (by first | decide +kernel | rfl) dX11_at_12 ?_
  refine lv_goto (tgt := 17) hx hb dX11_at_13 (by decide) ?_
  refine W.widen (k := 0) (n := 0) (Nat.le_of_ble_eq_true rfl) (Nat.le_of_ble_eq_true rfl) ?_
  exact rtI hx hb hr hlocks hS hP hD ⟨rfl, rfl⟩ dX11_at_17

set_option maxHeartbeats 4000000 in
set_option maxRecDepth 100000 in
theorem c_X6_get_9 (l : Launch) (D : va_G) (cI cZ cB cJ : ClassId) (h0 h1 : Nat) : CtI l D (TT cI cZ cB cJ) yX6_get cX6_get 5 (some .int) 0 0 0 0 [.ref h0, .int 1, .int 3] [(h0, .inr (6, [.ref h1, .int 4])), (h1, .inl (cI, 144, .inl (upd (upd (upd (upd (upd (upd (upd (upd (upd (upd (upd (upd (upd (upd (upd (upd (upd (upd (upd (upd (upd (fun _ => 0) 1 (-1)) 2 (-1)) 3 1) 4 1) 5 (-1)) 6 1) 7 (-1)) 8 (-1)) 9 1) 10 1) 11 (-1)) 12 2) 13 (-1)) 14 (-1)) 15 1) 16 1) 17 (-1)) 18 4) 21 3) 22 2) 23 (-1))))] (fun r w1 => r = 1 ∧ w1 = [(h0, .inr (6, [.ref h1, .int 4])), (h1, .inl (cI, 144, .inl (upd (upd (upd (upd (upd (upd (upd (upd (upd (upd (upd (upd (upd (upd (upd (upd (upd (upd (upd (upd (upd (fun _ => 0) 1 (-1)) 2 (-1)) 3 1) 4 1) 5 (-1)) 6 1) 7 (-1)) 8 (-1)) 9 1) 10 1) 11 (-1)) 12 2) 13 (-1)) 14 (-1)) 15 1) 16 1) 17 (-1)) 18 4) 21 3) 22 2) 23 (-1))))]) := by
  refine CtI.of (by decide +kernel) (Nat.le_of_ble_eq_true rfl) ?_
  intro p e s m below meth c A ls hx hb hr hml hown hts hnw hlocks hin hA hS hP hK hD hl
  have hown : s.vm.findClass RX6 = some m.cls := hown
  have hl : lv_has ls 5 [(0, .ref h0), (1, .int 1), (2, .int 3)] := hl
  refine lv_iload_n hx hb dX6_get_0 rfl (lv_at hl 1 rfl) ?_
  refine lv_bipush (v := 6) hx hb dX6_get_1 (by decide +kernel) ?_
  refine lv_imul hx hb dX6_get_3 ?_
  refine nrm (y := 6) (by decide +kernel) ?_
  refine lv_iload_n hx hb dX6_get_4 rfl (lv_at hl 2 rfl) ?_
  refine lv_iadd hx hb dX6_get_5 ?_
  refine nrm (y := 9) (by decide +kernel) ?_
  refine lv_istore_n (lv' := [(3, .int 9), (0, .ref h0), (1, .int 1), (2, .int 3)]) hx hb dX6_get_6 rfl hl (by decide) rfl (fun ls hl => ?_)
  refine lv_iload_n hx hb dX6_get_7 rfl (lv_at hl 2 rfl) ?_
  refine pcn (b := 8) rfl ?_
  refine lv_if_lt (tgt := 33) hx hb dX6_get_8 (by decide) (fun h9 => absurd h9 (by decide +kernel)) (fun _ => ?_)
  refine lv_iload_n hx hb dX6_get_11 rfl (lv_at hl 2 rfl) ?_
  refine lv_aload_n hx hb dX6_get_12 rfl (lv_at hl 1 rfl) ?_
  refine va_get (D := D) (ci := 6) (v := .int 4) (C := RX6) (T := TX6) (N := 2) hx hb hts inX6 hown hK hP 0 rfl rfl 1 (by decide) (hts _ wm_157) (fun _ h9 => h9) rfl dX6_get_13 ?_
  refine lv_icmp_ge (tgt := 33) hx hb dX6_get_16 (by decide) (fun h9 => absurd h9 (by decide +kernel)) (fun _ => ?_)
  refine lv_iload_n hx hb dX6_get_19 rfl (lv_at hl 3 rfl) ?_
  refine lv_if_lt (tgt := 33) hx hb dX6_get_20 (by decide) (fun h9 => absurd h9 (by decide +kernel)) (fun _ => ?_)
  refine lv_iload_n hx hb dX6_get_23 rfl (lv_at hl 3 rfl) ?_
  refine pcn (b := 24) rfl ?_
  refine lv_bipush (v := 6) hx hb dX6_get_24 (by decide +kernel) ?_
  refine lv_icmp_ge (tgt := 33) hx hb dX6_get_26 (by decide) (fun h9 => absurd h9 (by decide +kernel)) (fun _ => ?_)
  refine lv_iconst (v := 1) hx hb dX6_get_29 (by decide +kernel) ?_
  refine lv_goto (tgt := 34) hx hb dX6_get_30 (by decide) ?_
  refine lv_istore (lv' := [(4, .int 1), (3, .int 9), (0, .ref h0), (1, .int 1), (2, .int 3)]) hx hb dX6_get_34 hl (by decide) rfl (fun ls hl => ?_)
  refine lv_iload hx hb dX6_get_36 (lv_at hl 0 rfl) ?_
  refine lv_if_eq (tgt := 63) hx hb dX6_get_38 (by decide) (fun h9 => absurd h9 (by decide +kernel)) (fun _ => ?_)
  refine lv_iload_n hx hb dX6_get_41 rfl (lv_at hl 1 rfl) ?_
  refine lv_if_lt (tgt := 63) hx hb dX6_get_42 (by decide) (fun h9 => absurd h9 (by decide +kernel)) (fun _ => ?_)
  refine lv_iload_n hx hb dX6_get_45 rfl (lv_at hl 1 rfl) ?_
  refine lv_aload_n hx hb dX6_get_46 rfl (lv_at hl 2 rfl) ?_
  refine pcn (b := 47) rfl ?_
  refine va_get (D := D) (ci := 6) (v := .ref h1) (C := RX6) (T := TX6) (N := 2) hx hb hts inX6 hown hK hP 0 rfl rfl 0 (by decide) (hts _ wm_156) (fun _ h9 => h9) rfl dX6_get_47 ?_
  refine va_alen (v := 144) hx hb hK hP 1 0 rfl rfl (by decide +kernel) dX6_get_50 ?_
  refine lv_icmp_ge (tgt := 63) hx hb dX6_get_51 (by decide) (fun h9 => absurd h9 (by decide +kernel)) (fun _ => ?_)
  refine lv_aload_n hx hb dX6_get_54 rfl (lv_at hl 2 rfl) ?_
  refine va_get (D := D) (ci := 6) (v := .ref h1) (C := RX6) (T := TX6) (N := 2) hx hb hts inX6 hown hK hP 0 rfl rfl 0 (by decide) (hts _ wm_156) (fun _ h9 => h9) rfl dX6_get_55 ?_
  refine lv_iload_n hx hb dX6_get_58 rfl (lv_at hl 1 rfl) ?_
  refine al_i (x := 1) hx hb hK hP 1 0 rfl rfl (vpi (by decide +kernel)) (by first | decide +kernel | rfl) dX6_get_59 ?_
  refine lv_goto (tgt := 64) hx hb dX6_get_60 (by decide) ?_
  refine W.widen (k := 0) (n := 0) (Nat.le_of_ble_eq_true rfl) (Nat.le_of_ble_eq_true rfl) ?_
  exact rtI hx hb hr hlocks hS hP hD ⟨rfl, rfl⟩ dX6_get_64

set_option maxHeartbeats 4000000 in
set_option maxRecDepth 100000 in
theorem c_X9_size_0 (l : Launch) (D : va_G) (cI cZ cB cJ : ClassId) (h0 h1 h2 g0 : Nat) : CtI l D (TT cI cZ cB cJ) yX9_size cX9_size 2 (some .int) 1 24 0 0 [.ref h0, .int 1] [(h0, .inr (9, [.ref g0, .ref h1])), (h1, .inr (6, [.ref h2, .int 4])), (h2, .inl (cI, 144, .inl (upd (upd (upd (upd (upd (upd (upd (upd (upd (upd (upd (upd (upd (upd (upd (upd (upd (upd (upd (upd (upd (fun _ => 0) 1 (-1)) 2 (-1)) 3 1) 4 1) 5 (-1)) 6 1) 7 (-1)) 8 (-1)) 9 1) 10 1) 11 (-1)) 12 2) 13 (-1)) 14 (-1)) 15 1) 16 1) 17 (-1)) 18 4) 21 3) 22 2) 23 (-1))))] (fun r w1 => r = 1 ∧ w1 = [(h0, .inr (9, [.ref g0, .ref h1])), (h1, .inr (6, [.ref h2, .int 4])), (h2, .inl (cI, 144, .inl (upd (upd (upd (upd (upd (upd (upd (upd (upd (upd (upd (upd (upd (upd (upd (upd (upd (upd (upd (upd (upd (fun _ => 0) 1 (-1)) 2 (-1)) 3 1) 4 1) 5 (-1)) 6 1) 7 (-1)) 8 (-1)) 9 1) 10 1) 11 (-1)) 12 2) 13 (-1)) 14 (-1)) 15 1) 16 1) 17 (-1)) 18 4) 21 3) 22 2) 23 (-1))))]) := by
  refine CtI.of (by decide +kernel) (Nat.le_of_ble_eq_true rfl) ?_
  intro p e s m below meth c A ls hx hb hr hml hown hts hnw hlocks hin hA hS hP hK hD hl
  have hown : s.vm.findClass RX9 = some m.cls := hown
  have hl : lv_has ls 2 [(0, .ref h0), (1, .int 1)] := hl
  refine lv_aload_n hx hb dX9_size_0 rfl (lv_at hl 0 rfl) ?_
  refine va_get (D := D) (ci := 9) (v := .ref h1) (C := RX9) (T := TX9) (N := 2) hx hb hts inX9 hown hK hP 0 rfl rfl 1 (by decide) (hts _ wm_225) (fun _ h9 => h9) rfl dX9_size_1 ?_
  refine lv_iload_n hx hb dX9_size_4 rfl (lv_at hl 1 rfl) ?_
  refine lv_iconst (v := 3) hx hb dX9_size_5 (by decide +kernel) ?_
  refine kVNi (As := [.int 1, .int 3]) (rest := []) (wr := [(h0, .inr (9, [.ref g0, .ref h1]))]) hx hb hml hown hts hnw hK hP hD hS hA hl.1 (c_X6_get_9 l D cI cZ cB cJ h1 h2) yk_X6_get wn_500 [1, 2] [0] rfl rfl (by decide) (by decide) (by decide) 0 rfl rfl rfl rfl rfl dX9_size_6 ⟨Nat.le_of_ble_eq_true rfl, Nat.le_of_ble_eq_true rfl⟩ ⟨Nat.le_of_ble_eq_true rfl, Nat.le_of_ble_eq_true rfl⟩ (Nat.le_of_ble_eq_true rfl) (fun r9 w1 H locs hq9 hP hD hS => ?_)
  obtain ⟨rfl, rfl⟩ := hq9
  have hP : va_P D vwCl [(h0, .inr (9, [.ref g0, .ref h1])), (h1, .inr (6, [.ref h2, .int 4])), (h2, .inl (cI, 144, .inl (upd (upd (upd (upd (upd (upd (upd (upd (upd (upd (upd (upd (upd (upd (upd (upd (upd (upd (upd (upd (upd (fun _ => 0) 1 (-1)) 2 (-1)) 3 1) 4 1) 5 (-1)) 6 1) 7 (-1)) 8 (-1)) 9 1) 10 1) 11 (-1)) 12 2) 13 (-1)) 14 (-1)) 15 1) 16 1) 17 (-1)) 18 4) 21 3) 22 2) 23 (-1))))] H := hP
  have hD : va_D A [(h0, .inr (9, [.ref g0, .ref h1])), (h1, .inr (6, [.ref h2, .int 4])), (h2, .inl (cI, 144, .inl (upd (upd (upd (upd (upd (upd (upd (upd (upd (upd (upd (upd (upd (upd (upd (upd (upd (upd (upd (upd (upd (fun _ => 0) 1 (-1)) 2 (-1)) 3 1) 4 1) 5 (-1)) 6 1) 7 (-1)) 8 (-1)) 9 1) 10 1) 11 (-1)) 12 2) 13 (-1)) 14 (-1)) 15 1) 16 1) 17 (-1)) 18 4) 21 3) 22 2) 23 (-1))))] := hD
  refine W.widen (k := 0) (n := 0) (Nat.le_of_ble_eq_true rfl) (Nat.le_of_ble_eq_true rfl) ?_
  refine pcn (b := 9) rfl ?_
  refine W.widen (k := 0) (n := 0) (Nat.le_of_ble_eq_true rfl) (Nat.le_of_ble_eq_true rfl) ?_
  exact rtI hx hb hr hlocks hS hP hD ⟨rfl, rfl⟩ dX9_size_9

set_option maxHeartbeats 4000000 in
set_option maxRecDepth 100000 in
theorem c_X1_ofNode_4 (l : Launch) (D : va_G) (cI cZ cB cJ : ClassId) (h0 h1 h2 h3 h4 h5 h6 g0 g1 g2 g3 g4 g5 g6 g7 g8 g9 g10 g11 g12 : Nat) : CtI l D (TT cI cZ cB cJ) yX1_ofNode cX1_ofNode 4 (some .int) 2 45 0 0 [.ref h0, .int 0, .int 3] [(h0, .inr (1, [.ref h1, .ref h4, .ref g0, .ref g1, .ref h3, .ref g2, .ref g3, .int 4, .int 3, .int 0, .int (-1), .int 0])), (h1, .inr (7, [.ref g4, .ref h2, .ref g5, .ref g6, .ref g7, .ref g8, .ref g9, .ref g10, .ref g11, .int 1, .int 1, .int 0])), (h2, .inl (cI, 60, .inl (upd (fun _ => 0) 0 (-1)))), (h3, .inl (cI, 60, .inl (upd (fun _ => 0) 0 1))), (h4, .inr (9, [.ref g12, .ref h5])), (h5, .inr (6, [.ref h6, .int 4])), (h6, .inl (cI, 144, .inl (upd (upd (upd (upd (upd (upd (upd (upd (upd (upd (upd (upd (upd (upd (upd (upd (upd (upd (upd (upd (upd (fun _ => 0) 1 (-1)) 2 (-1)) 3 1) 4 1) 5 (-1)) 6 1) 7 (-1)) 8 (-1)) 9 1) 10 1) 11 (-1)) 12 2) 13 (-1)) 14 (-1)) 15 1) 16 1) 17 (-1)) 18 4) 21 3) 22 2) 23 (-1))))] (fun r w1 => r = 1 ∧ w1 = [(h0, .inr (1, [.ref h1, .ref h4, .ref g0, .ref g1, .ref h3, .ref g2, .ref g3, .int 4, .int 3, .int 0, .int (-1), .int 0])), (h1, .inr (7, [.ref g4, .ref h2, .ref g5, .ref g6, .ref g7, .ref g8, .ref g9, .ref g10, .ref g11, .int 1, .int 1, .int 0])), (h2, .inl (cI, 60, .inl (upd (fun _ => 0) 0 (-1)))), (h3, .inl (cI, 60, .inl (upd (fun _ => 0) 0 1))), (h4, .inr (9, [.ref g12, .ref h5])), (h5, .inr (6, [.ref h6, .int 4])), (h6, .inl (cI, 144, .inl (upd (upd (upd (upd (upd (upd (upd (upd (upd (upd (upd (upd (upd (upd (upd (upd (upd (upd (upd (upd (upd (fun _ => 0) 1 (-1)) 2 (-1)) 3 1) 4 1) 5 (-1)) 6 1) 7 (-1)) 8 (-1)) 9 1) 10 1) 11 (-1)) 12 2) 13 (-1)) 14 (-1)) 15 1) 16 1) 17 (-1)) 18 4) 21 3) 22 2) 23 (-1))))]) := by
  refine CtI.of (by decide +kernel) (Nat.le_of_ble_eq_true rfl) ?_
  intro p e s m below meth c A ls hx hb hr hml hown hts hnw hlocks hin hA hS hP hK hD hl
  have hown : s.vm.findClass RX1 = some m.cls := hown
  have hl : lv_has ls 4 [(0, .ref h0), (1, .int 0), (2, .int 3)] := hl
  refine lv_aload_n hx hb dX1_ofNode_0 rfl (lv_at hl 0 rfl) ?_
  refine va_get (D := D) (ci := 1) (v := .ref h1) (C := RX1) (T := TX1) (N := 12) hx hb hts inX1 hown hK hP 0 rfl rfl 0 (by decide) (hts _ wm_274) (fun _ h9 => h9) rfl dX1_ofNode_1 ?_
  refine va_getN (D := D) (ci := 7) (v := .ref h2) (C := RX7) (T := TX7) (N := 12) hx hb hts inX7 hown hK hP 1 rfl rfl 1 (by decide) (va_Nw.use rfl (hnw _ wn_81)) (fun _ h9 => h9) rfl dX1_ofNode_4 ?_
  refine lv_iload_n hx hb dX1_ofNode_7 rfl (lv_at hl 1 rfl) ?_
  refine kSNi (As := [.ref h2, .int 0]) (rest := []) (wr := [(h0, .inr (1, [.ref h1, .ref h4, .ref g0, .ref g1, .ref h3, .ref g2, .ref g3, .int 4, .int 3, .int 0, .int (-1), .int 0])), (h1, .inr (7, [.ref g4, .ref h2, .ref g5, .ref g6, .ref g7, .ref g8, .ref g9, .ref g10, .ref g11, .int 1, .int 1, .int 0])), (h3, .inl (cI, 60, .inl (upd (fun _ => 0) 0 1))), (h4, .inr (9, [.ref g12, .ref h5])), (h5, .inr (6, [.ref h6, .int 4])), (h6, .inl (cI, 144, .inl (upd (upd (upd (upd (upd (upd (upd (upd (upd (upd (upd (upd (upd (upd (upd (upd (upd (upd (upd (upd (upd (fun _ => 0) 1 (-1)) 2 (-1)) 3 1) 4 1) 5 (-1)) 6 1) 7 (-1)) 8 (-1)) 9 1) 10 1) 11 (-1)) 12 2) 13 (-1)) 14 (-1)) 15 1) 16 1) 17 (-1)) 18 4) 21 3) 22 2) 23 (-1))))]) hx hb hml hown hts hnw hK hP hD hS hA hl.1 (c_X11_at_8 l D cI cZ cB cJ h2) yk_X11_at wn_482 [2] [0, 1, 3, 4, 5, 6] rfl rfl (by decide) (by decide) (by decide) rfl rfl dX1_ofNode_8 ⟨Nat.le_of_ble_eq_true rfl, Nat.le_of_ble_eq_true rfl⟩ ⟨Nat.le_of_ble_eq_true rfl, Nat.le_of_ble_eq_true rfl⟩ (Nat.le_of_ble_eq_true rfl) (fun r9 w1 H locs hq9 hP hD hS => ?_)
  obtain ⟨rfl, rfl⟩ := hq9
  have hP : va_P D vwCl [(h0, .inr (1, [.ref h1, .ref h4, .ref g0, .ref g1, .ref h3, .ref g2, .ref g3, .int 4, .int 3, .int 0, .int (-1), .int 0])), (h1, .inr (7, [.ref g4, .ref h2, .ref g5, .ref g6, .ref g7, .ref g8, .ref g9, .ref g10, .ref g11, .int 1, .int 1, .int 0])), (h3, .inl (cI, 60, .inl (upd (fun _ => 0) 0 1))), (h4, .inr (9, [.ref g12, .ref h5])), (h5, .inr (6, [.ref h6, .int 4])), (h6, .inl (cI, 144, .inl (upd (upd (upd (upd (upd (upd (upd (upd (upd (upd (upd (upd (upd (upd (upd (upd (upd (upd (upd (upd (upd (fun _ => 0) 1 (-1)) 2 (-1)) 3 1) 4 1) 5 (-1)) 6 1) 7 (-1)) 8 (-1)) 9 1) 10 1) 11 (-1)) 12 2) 13 (-1)) 14 (-1)) 15 1) 16 1) 17 (-1)) 18 4) 21 3) 22 2) 23 (-1)))), (h2, .inl (cI, 60, .inl (upd (fun _ => 0) 0 (-1))))] H := hP
  have hD : va_D A [(h0, .inr (1, [.ref h1, .ref h4, .ref g0, .ref g1, .ref h3, .ref g2, .ref g3, .int 4, .int 3, .int 0, .int (-1), .int 0])), (h1, .inr (7, [.ref g4, .ref h2, .ref g5, .ref g6, .ref g7, .ref g8, .ref g9, .ref g10, .ref g11, .int 1, .int 1, .int 0])), (h3, .inl (cI, 60, .inl (upd (fun _ => 0) 0 1))), (h4, .inr (9, [.ref g12, .ref h5])), (h5, .inr (6, [.ref h6, .int 4])), (h6, .inl (cI, 144, .inl (upd (upd (upd (upd (upd (upd (upd (upd (upd (upd (upd (upd (upd (upd (upd (upd (upd (upd (upd (upd (upd (fun _ => 0) 1 (-1)) 2 (-1)) 3 1) 4 1) 5 (-1)) 6 1) 7 (-1)) 8 (-1)) 9 1) 10 1) 11 (-1)) 12 2) 13 (-1)) 14 (-1)) 15 1) 16 1) 17 (-1)) 18 4) 21 3) 22 2) 23 (-1)))), (h2, .inl (cI, 60, .inl (upd (fun _ => 0) 0 (-1))))] := hD
  refine W.widen (k := 0) (n := 0) (Nat.le_of_ble_eq_true rfl) (Nat.le_of_ble_eq_true rfl) ?_
  refine pcn (b := 11) rfl ?_
  refine lv_istore_n (lv' := [(3, .int (-1)), (0, .ref h0), (1, .int 0), (2, .int 3)]) hx hb dX1_ofNode_11 rfl hl (by decide) rfl (fun ls hl => ?_)
  refine lv_iload_n hx hb dX1_ofNode_12 rfl (lv_at hl 3 rfl) ?_
  refine lv_tableIn (off := 82) (tgt := 95) hx hb dX1_ofNode_13 (by decide +kernel) (by decide +kernel) (by decide +kernel) (by decide) ?_
  refine lv_aload_n hx hb dX1_ofNode_95 rfl (lv_at hl 1 rfl) ?_
  refine va_get (D := D) (ci := 1) (v := .ref h4) (C := RX1) (T := TX1) (N := 12) hx hb hts inX1 hown hK hP 0 rfl rfl 1 (by decide) (hts _ wm_279) (fun _ h9 => h9) rfl dX1_ofNode_96 ?_
  refine lv_aload_n hx hb dX1_ofNode_99 rfl (lv_at hl 1 rfl) ?_
  refine va_get (D := D) (ci := 1) (v := .ref h3) (C := RX1) (T := TX1) (N := 12) hx hb hts inX1 hown hK hP 0 rfl rfl 4 (by decide) (hts _ wm_288) (fun _ h9 => h9) rfl dX1_ofNode_100 ?_
  refine lv_iload_n hx hb dX1_ofNode_103 rfl (lv_at hl 2 rfl) ?_
  refine kSNi (As := [.ref h3, .int 0]) (rest := [.ref h4]) (wr := [(h0, .inr (1, [.ref h1, .ref h4, .ref g0, .ref g1, .ref h3, .ref g2, .ref g3, .int 4, .int 3, .int 0, .int (-1), .int 0])), (h1, .inr (7, [.ref g4, .ref h2, .ref g5, .ref g6, .ref g7, .ref g8, .ref g9, .ref g10, .ref g11, .int 1, .int 1, .int 0])), (h4, .inr (9, [.ref g12, .ref h5])), (h5, .inr (6, [.ref h6, .int 4])), (h6, .inl (cI, 144, .inl (upd (upd (upd (upd (upd (upd (upd (upd (upd (upd (upd (upd (upd (upd (upd (upd (upd (upd (upd (upd (upd (fun _ => 0) 1 (-1)) 2 (-1)) 3 1) 4 1) 5 (-1)) 6 1) 7 (-1)) 8 (-1)) 9 1) 10 1) 11 (-1)) 12 2) 13 (-1)) 14 (-1)) 15 1) 16 1) 17 (-1)) 18 4) 21 3) 22 2) 23 (-1)))), (h2, .inl (cI, 60, .inl (upd (fun _ => 0) 0 (-1))))]) hx hb hml hown hts hnw hK hP hD hS hA hl.1 (c_X11_at_9 l D cI cZ cB cJ h3) yk_X11_at wn_482 [2] [0, 1, 3, 4, 5, 6] rfl rfl (by decide) (by decide) (by decide) rfl rfl dX1_ofNode_104 ⟨Nat.le_of_ble_eq_true rfl, Nat.le_of_ble_eq_true rfl⟩ ⟨Nat.le_of_ble_eq_true rfl, Nat.le_of_ble_eq_true rfl⟩ (Nat.le_of_ble_eq_true rfl) (fun r9 w1 H locs hq9 hP hD hS => ?_)
  obtain ⟨rfl, rfl⟩ := hq9
  have hP : va_P D vwCl [(h0, .inr (1, [.ref h1, .ref h4, .ref g0, .ref g1, .ref h3, .ref g2, .ref g3, .int 4, .int 3, .int 0, .int (-1), .int 0])), (h1, .inr (7, [.ref g4, .ref h2, .ref g5, .ref g6, .ref g7, .ref g8, .ref g9, .ref g10, .ref g11, .int 1, .int 1, .int 0])), (h4, .inr (9, [.ref g12, .ref h5])), (h5, .inr (6, [.ref h6, .int 4])), (h6, .inl (cI, 144, .inl (upd (upd (upd (upd (upd (upd (upd (upd (upd (upd (upd (upd (upd (upd (upd (upd (upd (upd (upd (upd (upd (fun _ => 0) 1 (-1)) 2 (-1)) 3 1) 4 1) 5 (-1)) 6 1) 7 (-1)) 8 (-1)) 9 1) 10 1) 11 (-1)) 12 2) 13 (-1)) 14 (-1)) 15 1) 16 1) 17 (-1)) 18 4) 21 3) 22 2) 23 (-1)))), (h2, .inl (cI, 60, .inl (upd (fun _ => 0) 0 (-1)))), (h3, .inl (cI, 60, .inl (upd (fun _ => 0) 0 1)))] H := hP
  have hD : va_D A [(h0, .inr (1, [.ref h1, .ref h4, .ref g0, .ref g1, .ref h3, .ref g2, .ref g3, .int 4, .int 3, .int 0, .int (-1), .int 0])), (h1, .inr (7, [.ref g4, .ref h2, .ref g5, .ref g6, .ref g7, .ref g8, .ref g9, .ref g10, .ref g11, .int 1, .int 1, .int 0])), (h4, .inr (9, [.ref g12, .ref h5])), (h5, .inr (6, [.ref h6, .int 4])), (h6, .inl (cI, 144, .inl (upd (upd (upd (upd (upd (upd (upd (upd (upd (upd (upd (upd (upd (upd (upd (upd (upd (upd (upd (upd (upd (fun _ => 0) 1 (-1)) 2 (-1)) 3 1) 4 1) 5 (-1)) 6 1) 7 (-1)) 8 (-1)) 9 1) 10 1) 11 (-1)) 12 2) 13 (-1)) 14 (-1)) 15 1) 16 1) 17 (-1)) 18 4) 21 3) 22 2) 23 (-1)))), (h2, .inl (cI, 60, .inl (upd (fun _ => 0) 0 (-1)))), (h3, .inl (cI, 60, .inl (upd (fun _ => 0) 0 1)))] := hD
  refine W.widen (k := 0) (n := 0) (Nat.le_of_ble_eq_true rfl) (Nat.le_of_ble_eq_true rfl) ?_
  refine pcn (b := 107) rfl ?_
  refine kVNi (As := [.int 1]) (rest := []) (wr := [(h0, .inr (1, [.ref h1, .ref h4, .ref g0, .ref g1, .ref h3, .ref g2, .ref g3, .int 4, .int 3, .int 0, .int (-1), .int 0])), (h1, .inr (7, [.ref g4, .ref h2, .ref g5, .ref g6, .ref g7, .ref g8, .ref g9, .ref g10, .ref g11, .int 1, .int 1, .int 0])), (h2, .inl (cI, 60, .inl (upd (fun _ => 0) 0 (-1)))), (h3, .inl (cI, 60, .inl (upd (fun _ => 0) 0 1)))]) hx hb hml hown hts hnw hK hP hD hS hA hl.1 (c_X9_size_0 l D cI cZ cB cJ h4 h5 h6 g12) yk_X9_size wn_805 [2, 3, 4] [0, 1, 5, 6] rfl rfl (by decide) (by decide) (by decide) 0 rfl rfl rfl rfl rfl dX1_ofNode_107 ⟨Nat.le_of_ble_eq_true rfl, Nat.le_of_ble_eq_true rfl⟩ ⟨Nat.le_of_ble_eq_true rfl, Nat.le_of_ble_eq_true rfl⟩ (Nat.le_of_ble_eq_true rfl) (fun r9 w1 H locs hq9 hP hD hS => ?_)
  obtain ⟨rfl, rfl⟩ := hq9
  have hP : va_P D vwCl [(h0, .inr (1, [.ref h1, .ref h4, .ref g0, .ref g1, .ref h3, .ref g2, .ref g3, .int 4, .int 3, .int 0, .int (-1), .int 0])), (h1, .inr (7, [.ref g4, .ref h2, .ref g5, .ref g6, .ref g7, .ref g8, .ref g9, .ref g10, .ref g11, .int 1, .int 1, .int 0])), (h2, .inl (cI, 60, .inl (upd (fun _ => 0) 0 (-1)))), (h3, .inl (cI, 60, .inl (upd (fun _ => 0) 0 1))), (h4, .inr (9, [.ref g12, .ref h5])), (h5, .inr (6, [.ref h6, .int 4])), (h6, .inl (cI, 144, .inl (upd (upd (upd (upd (upd (upd (upd (upd (upd (upd (upd (upd (upd (upd (upd (upd (upd (upd (upd (upd (upd (fun _ => 0) 1 (-1)) 2 (-1)) 3 1) 4 1) 5 (-1)) 6 1) 7 (-1)) 8 (-1)) 9 1) 10 1) 11 (-1)) 12 2) 13 (-1)) 14 (-1)) 15 1) 16 1) 17 (-1)) 18 4) 21 3) 22 2) 23 (-1))))] H := hP
  have hD : va_D A [(h0, .inr (1, [.ref h1, .ref h4, .ref g0, .ref g1, .ref h3, .ref g2, .ref g3, .int 4, .int 3, .int 0, .int (-1), .int 0])), (h1, .inr (7, [.ref g4, .ref h2, .ref g5, .ref g6, .ref g7, .ref g8, .ref g9, .ref g10, .ref g11, .int 1, .int 1, .int 0])), (h2, .inl (cI, 60, .inl (upd (fun _ => 0) 0 (-1)))), (h3, .inl (cI, 60, .inl (upd (fun _ => 0) 0 1))), (h4, .inr (9, [.ref g12, .ref h5])), (h5, .inr (6, [.ref h6, .int 4])), (h6, .inl (cI, 144, .inl (upd (upd (upd (upd (upd (upd (upd (upd (upd (upd (upd (upd (upd (upd (upd (upd (upd (upd (upd (upd (upd (fun _ => 0) 1 (-1)) 2 (-1)) 3 1) 4 1) 5 (-1)) 6 1) 7 (-1)) 8 (-1)) 9 1) 10 1) 11 (-1)) 12 2) 13 (-1)) 14 (-1)) 15 1) 16 1) 17 (-1)) 18 4) 21 3) 22 2) 23 (-1))))] := hD
  refine W.widen (k := 0) (n := 0) (Nat.le_of_ble_eq_true rfl) (Nat.le_of_ble_eq_true rfl) ?_
  refine pcn (b := 110) rfl ?_
  refine W.widen (k := 0) (n := 0) (Nat.le_of_ble_eq_true rfl) (Nat.le_of_ble_eq_true rfl) ?_
  exact rtI hx hb hr hlocks hS hP hD ⟨rfl, rfl⟩ dX1_ofNode_110

set_option maxHeartbeats 4000000 in
set_option maxRecDepth 100000 in
theorem c_X6_get_10 (l : Launch) (D : va_G) (cI cZ cB cJ : ClassId) (h0 h1 : Nat) : CtI l D (TT cI cZ cB cJ) yX6_get cX6_get 5 (some .int) 0 0 0 0 [.ref h0, .int 1, .int 4] [(h0, .inr (6, [.ref h1, .int 4])), (h1, .inl (cI, 144, .inl (upd (upd (upd (upd (upd (upd (upd (upd (upd (upd (upd (upd (upd (upd (upd (upd (upd (upd (upd (upd (upd (fun _ => 0) 1 (-1)) 2 (-1)) 3 1) 4 1) 5 (-1)) 6 1) 7 (-1)) 8 (-1)) 9 1) 10 1) 11 (-1)) 12 2) 13 (-1)) 14 (-1)) 15 1) 16 1) 17 (-1)) 18 4) 21 3) 22 2) 23 (-1))))] (fun r w1 => r = 1 ∧ w1 = [(h0, .inr (6, [.ref h1, .int 4])), (h1, .inl (cI, 144, .inl (upd (upd (upd (upd (upd (upd (upd (upd (upd (upd (upd (upd (upd (upd (upd (upd (upd (upd (upd (upd (upd (fun _ => 0) 1 (-1)) 2 (-1)) 3 1) 4 1) 5 (-1)) 6 1) 7 (-1)) 8 (-1)) 9 1) 10 1) 11 (-1)) 12 2) 13 (-1)) 14 (-1)) 15 1) 16 1) 17 (-1)) 18 4) 21 3) 22 2) 23 (-1))))]) := by
  refine CtI.of (by decide +kernel) (Nat.le_of_ble_eq_true rfl) ?_
  intro p e s m below meth c A ls hx hb hr hml hown hts hnw hlocks hin hA hS hP hK hD hl
  have hown : s.vm.findClass RX6 = some m.cls := hown
  have hl : lv_has ls 5 [(0, .ref h0), (1, .int 1), (2, .int 4)] := hl
  refine lv_iload_n hx hb dX6_get_0 rfl (lv_at hl 1 rfl) ?_
  refine lv_bipush (v := 6) hx hb dX6_get_1 (by decide +kernel) ?_
  refine lv_imul hx hb dX6_get_3 ?_
  refine nrm (y := 6) (by decide +kernel) ?_
  refine lv_iload_n hx hb dX6_get_4 rfl (lv_at hl 2 rfl) ?_
  refine lv_iadd hx hb dX6_get_5 ?_
  refine nrm (y := 10) (by decide +kernel) ?_
  refine lv_istore_n (lv' := [(3, .int 10), (0, .ref h0), (1, .int 1), (2, .int 4)]) hx hb dX6_get_6 rfl hl (by decide) rfl (fun ls hl => ?_)
  refine lv_iload_n hx hb dX6_get_7 rfl (lv_at hl 2 rfl) ?_
  refine pcn (b := 8) rfl ?_
  refine lv_if_lt (tgt := 33) hx hb dX6_get_8 (by decide) (fun h9 => absurd h9 (by decide +kernel)) (fun _ => ?_)
  refine lv_iload_n hx hb dX6_get_11 rfl (lv_at hl 2 rfl) ?_
  refine lv_aload_n hx hb dX6_get_12 rfl (lv_at hl 1 rfl) ?_
  refine va_get (D := D) (ci := 6) (v := .int 4) (C := RX6) (T := TX6) (N := 2) hx hb hts inX6 hown hK hP 0 rfl rfl 1 (by decide) (hts _ wm_157) (fun _ h9 => h9) rfl dX6_get_13 ?_
  refine lv_icmp_ge (tgt := 33) hx hb dX6_get_16 (by decide) (fun h9 => absurd h9 (by decide +kernel)) (fun _ => ?_)
  refine lv_iload_n hx hb dX6_get_19 rfl (lv_at hl 3 rfl) ?_
  refine lv_if_lt (tgt := 33) hx hb dX6_get_20 (by decide) (fun h9 => absurd h9 (by decide +kernel)) (fun _ => ?_)
  refine lv_iload_n hx hb dX6_get_23 rfl (lv_at hl 3 rfl) ?_
  refine pcn (b := 24) rfl ?_
  refine lv_bipush (v := 6) hx hb dX6_get_24 (by decide +kernel) ?_
  refine lv_icmp_ge (tgt := 33) hx hb dX6_get_26 (by decide) (fun h9 => absurd h9 (by decide +kernel)) (fun _ => ?_)
  refine lv_iconst (v := 1) hx hb dX6_get_29 (by decide +kernel) ?_
  refine lv_goto (tgt := 34) hx hb dX6_get_30 (by decide) ?_
  refine lv_istore (lv' := [(4, .int 1), (3, .int 10), (0, .ref h0), (1, .int 1), (2, .int 4)]) hx hb dX6_get_34 hl (by decide) rfl (fun ls hl => ?_)
  refine lv_iload hx hb dX6_get_36 (lv_at hl 0 rfl) ?_
  refine lv_if_eq (tgt := 63) hx hb dX6_get_38 (by decide) (fun h9 => absurd h9 (by decide +kernel)) (fun _ => ?_)
  refine lv_iload_n hx hb dX6_get_41 rfl (lv_at hl 1 rfl) ?_
  refine lv_if_lt (tgt := 63) hx hb dX6_get_42 (by decide) (fun h9 => absurd h9 (by decide +kernel)) (fun _ => ?_)
  refine lv_iload_n hx hb dX6_get_45 rfl (lv_at hl 1 rfl) ?_
  refine lv_aload_n hx hb dX6_get_46 rfl (lv_at hl 2 rfl) ?_
  refine pcn (b := 47) rfl ?_
  refine va_get (D := D) (ci := 6) (v := .ref h1) (C := RX6) (T := TX6) (N := 2) hx hb hts inX6 hown hK hP 0 rfl rfl 0 (by decide) (hts _ wm_156) (fun _ h9 => h9) rfl dX6_get_47 ?_
  refine va_alen (v := 144) hx hb hK hP 1 0 rfl rfl (by decide +kernel) dX6_get_50 ?_
  refine lv_icmp_ge (tgt := 63) hx hb dX6_get_51 (by decide) (fun h9 => absurd h9 (by decide +kernel)) (fun _ => ?_)
  refine lv_aload_n hx hb dX6_get_54 rfl (lv_at hl 2 rfl) ?_
  refine va_get (D := D) (ci := 6) (v := .ref h1) (C := RX6) (T := TX6) (N := 2) hx hb hts inX6 hown hK hP 0 rfl rfl 0 (by decide) (hts _ wm_156) (fun _ h9 => h9) rfl dX6_get_55 ?_
  refine lv_iload_n hx hb dX6_get_58 rfl (lv_at hl 1 rfl) ?_
  refine al_i (x := 1) hx hb hK hP 1 0 rfl rfl (vpi (by decide +kernel)) (by first | decide +kernel | rfl) dX6_get_59 ?_
  refine lv_goto (tgt := 64) hx hb dX6_get_60 (by decide) ?_
  refine W.widen (k := 0) (n := 0) (Nat.le_of_ble_eq_true rfl) (Nat.le_of_ble_eq_true rfl) ?_
  exact rtI hx hb hr hlocks hS hP hD ⟨rfl, rfl⟩ dX6_get_64

set_option maxHeartbeats 4000000 in
set_option maxRecDepth 100000 in
theorem c_X9_height_0 (l : Launch) (D : va_G) (cI cZ cB cJ : ClassId) (h0 h1 h2 g0 : Nat) : CtI l D (TT cI cZ cB cJ) yX9_height cX9_height 2 (some .int) 1 24 0 0 [.ref h0, .int 1] [(h0, .inr (9, [.ref g0, .ref h1])), (h1, .inr (6, [.ref h2, .int 4])), (h2, .inl (cI, 144, .inl (upd (upd (upd (upd (upd (upd (upd (upd (upd (upd (upd (upd (upd (upd (upd (upd (upd (upd (upd (upd (upd (fun _ => 0) 1 (-1)) 2 (-1)) 3 1) 4 1) 5 (-1)) 6 1) 7 (-1)) 8 (-1)) 9 1) 10 1) 11 (-1)) 12 2) 13 (-1)) 14 (-1)) 15 1) 16 1) 17 (-1)) 18 4) 21 3) 22 2) 23 (-1))))] (fun r w1 => r = 1 ∧ w1 = [(h0, .inr (9, [.ref g0, .ref h1])), (h1, .inr (6, [.ref h2, .int 4])), (h2, .inl (cI, 144, .inl (upd (upd (upd (upd (upd (upd (upd (upd (upd (upd (upd (upd (upd (upd (upd (upd (upd (upd (upd (upd (upd (fun _ => 0) 1 (-1)) 2 (-1)) 3 1) 4 1) 5 (-1)) 6 1) 7 (-1)) 8 (-1)) 9 1) 10 1) 11 (-1)) 12 2) 13 (-1)) 14 (-1)) 15 1) 16 1) 17 (-1)) 18 4) 21 3) 22 2) 23 (-1))))]) := by
  refine CtI.of (by decide +kernel) (Nat.le_of_ble_eq_true rfl) ?_
  intro p e s m below meth c A ls hx hb hr hml hown hts hnw hlocks hin hA hS hP hK hD hl
  have hown : s.vm.findClass RX9 = some m.cls := hown
  have hl : lv_has ls 2 [(0, .ref h0), (1, .int 1)] := hl
  refine lv_aload_n hx hb dX9_height_0 rfl (lv_at hl 0 rfl) ?_
  refine va_get (D := D) (ci := 9) (v := .ref h1) (C := RX9) (T := TX9) (N := 2) hx hb hts inX9 hown hK hP 0 rfl rfl 1 (by decide) (hts _ wm_225) (fun _ h9 => h9) rfl dX9_height_1 ?_
  refine lv_iload_n hx hb dX9_height_4 rfl (lv_at hl 1 rfl) ?_
  refine lv_iconst (v := 4) hx hb dX9_height_5 (by decide +kernel) ?_
  refine kVNi (As := [.int 1, .int 4]) (rest := []) (wr := [(h0, .inr (9, [.ref g0, .ref h1]))]) hx hb hml hown hts hnw hK hP hD hS hA hl.1 (c_X6_get_10 l D cI cZ cB cJ h1 h2) yk_X6_get wn_500 [1, 2] [0] rfl rfl (by decide) (by decide) (by decide) 0 rfl rfl rfl rfl rfl dX9_height_6 ⟨Nat.le_of_ble_eq_true rfl, Nat.le_of_ble_eq_true rfl⟩ ⟨Nat.le_of_ble_eq_true rfl, Nat.le_of_ble_eq_true rfl⟩ (Nat.le_of_ble_eq_true rfl) (fun r9 w1 H locs hq9 hP hD hS => ?_)
  obtain ⟨rfl, rfl⟩ := hq9
  have hP : va_P D vwCl [(h0, .inr (9, [.ref g0, .ref h1])), (h1, .inr (6, [.ref h2, .int 4])), (h2, .inl (cI, 144, .inl (upd (upd (upd (upd (upd (upd (upd (upd (upd (upd (upd (upd (upd (upd (upd (upd (upd (upd (upd (upd (upd (fun _ => 0) 1 (-1)) 2 (-1)) 3 1) 4 1) 5 (-1)) 6 1) 7 (-1)) 8 (-1)) 9 1) 10 1) 11 (-1)) 12 2) 13 (-1)) 14 (-1)) 15 1) 16 1) 17 (-1)) 18 4) 21 3) 22 2) 23 (-1))))] H := hP
  have hD : va_D A [(h0, .inr (9, [.ref g0, .ref h1])), (h1, .inr (6, [.ref h2, .int 4])), (h2, .inl (cI, 144, .inl (upd (upd (upd (upd (upd (upd (upd (upd (upd (upd (upd (upd (upd (upd (upd (upd (upd (upd (upd (upd (upd (fun _ => 0) 1 (-1)) 2 (-1)) 3 1) 4 1) 5 (-1)) 6 1) 7 (-1)) 8 (-1)) 9 1) 10 1) 11 (-1)) 12 2) 13 (-1)) 14 (-1)) 15 1) 16 1) 17 (-1)) 18 4) 21 3) 22 2) 23 (-1))))] := hD
  refine W.widen (k := 0) (n := 0) (Nat.le_of_ble_eq_true rfl) (Nat.le_of_ble_eq_true rfl) ?_
  refine pcn (b := 9) rfl ?_
  refine W.widen (k := 0) (n := 0) (Nat.le_of_ble_eq_true rfl) (Nat.le_of_ble_eq_true rfl) ?_
  exact rtI hx hb hr hlocks hS hP hD ⟨rfl, rfl⟩ dX9_height_9

set_option maxHeartbeats 4000000 in
set_option maxRecDepth 100000 in
theorem c_X1_ofNode_5 (l : Launch) (D : va_G) (cI cZ cB cJ : ClassId) (h0 h1 h2 h3 h4 h5 h6 g0 g1 g2 g3 g4 g5 g6 g7 g8 g9 g10 g11 g12 : Nat) : CtI l D (TT cI cZ cB cJ) yX1_ofNode cX1_ofNode 4 (some .int) 2 45 0 0 [.ref h0, .int 0, .int 4] [(h0, .inr (1, [.ref h1, .ref h4, .ref g0, .ref g1, .ref h3, .ref g2, .ref g3, .int 4, .int 3, .int 0, .int (-1), .int 0])), (h1, .inr (7, [.ref g4, .ref h2, .ref g5, .ref g6, .ref g7, .ref g8, .ref g9, .ref g10, .ref g11, .int 1, .int 1, .int 0])), (h2, .inl (cI, 60, .inl (upd (fun _ => 0) 0 (-1)))), (h3, .inl (cI, 60, .inl (upd (fun _ => 0) 0 1))), (h4, .inr (9, [.ref g12, .ref h5])), (h5, .inr (6, [.ref h6, .int 4])), (h6, .inl (cI, 144, .inl (upd (upd (upd (upd (upd (upd (upd (upd (upd (upd (upd (upd (upd (upd (upd (upd (upd (upd (upd (upd (upd (fun _ => 0) 1 (-1)) 2 (-1)) 3 1) 4 1) 5 (-1)) 6 1) 7 (-1)) 8 (-1)) 9 1) 10 1) 11 (-1)) 12 2) 13 (-1)) 14 (-1)) 15 1) 16 1) 17 (-1)) 18 4) 21 3) 22 2) 23 (-1))))] (fun r w1 => r = 1 ∧ w1 = [(h0, .inr (1, [.ref h1, .ref h4, .ref g0, .ref g1, .ref h3, .ref g2, .ref g3, .int 4, .int 3, .int 0, .int (-1), .int 0])), (h1, .inr (7, [.ref g4, .ref h2, .ref g5, .ref g6, .ref g7, .ref g8, .ref g9, .ref g10, .ref g11, .int 1, .int 1, .int 0])), (h2, .inl (cI, 60, .inl (upd (fun _ => 0) 0 (-1)))), (h3, .inl (cI, 60, .inl (upd (fun _ => 0) 0 1))), (h4, .inr (9, [.ref g12, .ref h5])), (h5, .inr (6, [.ref h6, .int 4])), (h6, .inl (cI, 144, .inl (upd (upd (upd (upd (upd (upd (upd (upd (upd (upd (upd (upd (upd (upd (upd (upd (upd (upd (upd (upd (upd (fun _ => 0) 1 (-1)) 2 (-1)) 3 1) 4 1) 5 (-1)) 6 1) 7 (-1)) 8 (-1)) 9 1) 10 1) 11 (-1)) 12 2) 13 (-1)) 14 (-1)) 15 1) 16 1) 17 (-1)) 18 4) 21 3) 22 2) 23 (-1))))]) := by
  refine CtI.of (by decide +kernel) (Nat.le_of_ble_eq_true rfl) ?_
  intro p e s m below meth c A ls hx hb hr hml hown hts hnw hlocks hin hA hS hP hK hD hl
  have hown : s.vm.findClass RX1 = some m.cls := hown
  have hl : lv_has ls 4 [(0, .ref h0), (1, .int 0), (2, .int 4)] := hl
  refine lv_aload_n hx hb dX1_ofNode_0 rfl (lv_at hl 0 rfl) ?_
  refine va_get (D := D) (ci := 1) (v := .ref h1) (C := RX1) (T := TX1) (N := 12) hx hb hts inX1 hown hK hP 0 rfl rfl 0 (by decide) (hts _ wm_274) (fun _ h9 => h9) rfl dX1_ofNode_1 ?_
  refine va_getN (D := D) (ci := 7) (v := .ref h2) (C := RX7) (T := TX7) (N := 12) hx hb hts inX7 hown hK hP 1 rfl rfl 1 (by decide) (va_Nw.use rfl (hnw _ wn_81)) (fun _ h9 => h9) rfl dX1_ofNode_4 ?_
  refine lv_iload_n hx hb dX1_ofNode_7 rfl (lv_at hl 1 rfl) ?_
  refine kSNi (As := [.ref h2, .int 0]) (rest := []) (wr := [(h0, .inr (1, [.ref h1, .ref h4, .ref g0, .ref g1, .ref h3, .ref g2, .ref g3, .int 4, .int 3, .int 0, .int (-1), .int 0])), (h1, .inr (7, [.ref g4, .ref h2, .ref g5, .ref g6, .ref g7, .ref g8, .ref g9, .ref g10, .ref g11, .int 1, .int 1, .int 0])), (h3, .inl (cI, 60, .inl (upd (fun _ => 0) 0 1))), (h4, .inr (9, [.ref g12, .ref h5])), (h5, .inr (6, [.ref h6, .int 4])), (h6, .inl (cI, 144, .inl (upd (upd (upd (upd (upd (upd (upd (upd (upd (upd (upd (upd (upd (upd (upd (upd (upd (upd (upd (upd (upd (fun _ => 0) 1 (-1)) 2 (-1)) 3 1) 4 1) 5 (-1)) 6 1) 7 (-1)) 8 (-1)) 9 1) 10 1) 11 (-1)) 12 2) 13 (-1)) 14 (-1)) 15 1) 16 1) 17 (-1)) 18 4) 21 3) 22 2) 23 (-1))))]) hx hb hml hown hts hnw hK hP hD hS hA hl.1 (c_X11_at_8 l D cI cZ cB cJ h2) yk_X11_at wn_482 [2] [0, 1, 3, 4, 5, 6] rfl rfl (by decide) (by decide) (by decide) rfl rfl dX1_ofNode_8 ⟨Nat.le_of_ble_eq_true rfl, Nat.le_of_ble_eq_true rfl⟩ ⟨Nat.le_of_ble_eq_true rfl, Nat.le_of_ble_eq_true rfl⟩ (Nat.le_of_ble_eq_true rfl) (fun r9 w1 H locs hq9 hP hD hS => ?_)
  obtain ⟨rfl, rfl⟩ := hq9
  have hP : va_P D vwCl [(h0, .inr (1, [.ref h1, .ref h4, .ref g0, .ref g1, .ref h3, .ref g2, .ref g3, .int 4, .int 3, .int 0, .int (-1), .int 0])), (h1, .inr (7, [.ref g4, .ref h2, .ref g5, .ref g6, .ref g7, .ref g8, .ref g9, .ref g10, .ref g11, .int 1, .int 1, .int 0])), (h3, .inl (cI, 60, .inl (upd (fun _ => 0) 0 1))), (h4, .inr (9, [.ref g12, .ref h5])), (h5, .inr (6, [.ref h6, .int 4])), (h6, .inl (cI, 144, .inl (upd (upd (upd (upd (upd (upd (upd (upd (upd (upd (upd (upd (upd (upd (upd (upd (upd (upd (upd (upd (upd (fun _ => 0) 1 (-1)) 2 (-1)) 3 1) 4 1) 5 (-1)) 6 1) 7 (-1)) 8 (-1)) 9 1) 10 1) 11 (-1)) 12 2) 13 (-1)) 14 (-1)) 15 1) 16 1) 17 (-1)) 18 4) 21 3) 22 2) 23 (-1)))), (h2, .inl (cI, 60, .inl (upd (fun _ => 0) 0 (-1))))] H := hP
  have hD : va_D A [(h0, .inr (1, [.ref h1, .ref h4, .ref g0, .ref g1, .ref h3, .ref g2, .ref g3, .int 4, .int 3, .int 0, .int (-1), .int 0])), (h1, .inr (7, [.ref g4, .ref h2, .ref g5, .ref g6, .ref g7, .ref g8, .ref g9, .ref g10, .ref g11, .int 1, .int 1, .int 0])), (h3, .inl (cI, 60, .inl (upd (fun _ => 0) 0 1))), (h4, .inr (9, [.ref g12, .ref h5])), (h5, .inr (6, [.ref h6, .int 4])), (h6, .inl (cI, 144, .inl (upd (upd (upd (upd (upd (upd (upd (upd (upd (upd (upd (upd (upd (upd (upd (upd (upd (upd (upd (upd (upd (fun _ => 0) 1 (-1)) 2 (-1)) 3 1) 4 1) 5 (-1)) 6 1) 7 (-1)) 8 (-1)) 9 1) 10 1) 11 (-1)) 12 2) 13 (-1)) 14 (-1)) 15 1) 16 1) 17 (-1)) 18 4) 21 3) 22 2) 23 (-1)))), (h2, .inl (cI, 60, .inl (upd (fun _ => 0) 0 (-1))))] := hD
  refine W.widen (k := 0) (n := 0) (Nat.le_of_ble_eq_true rfl) (Nat.le_of_ble_eq_true rfl) ?_
  refine pcn (b := 11) rfl ?_
  refine lv_istore_n (lv' := [(3, .int (-1)), (0, .ref h0), (1, .int 0), (2, .int 4)]) hx hb dX1_ofNode_11 rfl hl (by decide) rfl (fun ls hl => ?_)
  refine lv_iload_n hx hb dX1_ofNode_12 rfl (lv_at hl 3 rfl) ?_
  refine lv_tableIn (off := 98) (tgt := 111) hx hb dX1_ofNode_13 (by decide +kernel) (by decide +kernel) (by decide +kernel) (by decide) ?_
  refine lv_aload_n hx hb dX1_ofNode_111 rfl (lv_at hl 1 rfl) ?_
  refine va_get (D := D) (ci := 1) (v := .ref h4) (C := RX1) (T := TX1) (N := 12) hx hb hts inX1 hown hK hP 0 rfl rfl 1 (by decide) (hts _ wm_279) (fun _ h9 => h9) rfl dX1_ofNode_112 ?_
  refine lv_aload_n hx hb dX1_ofNode_115 rfl (lv_at hl 1 rfl) ?_
  refine va_get (D := D) (ci := 1) (v := .ref h3) (C := RX1) (T := TX1) (N := 12) hx hb hts inX1 hown hK hP 0 rfl rfl 4 (by decide) (hts _ wm_288) (fun _ h9 => h9) rfl dX1_ofNode_116 ?_
  refine lv_iload_n hx hb dX1_ofNode_119 rfl (lv_at hl 2 rfl) ?_
  refine kSNi (As := [.ref h3, .int 0]) (rest := [.ref h4]) (wr := [(h0, .inr (1, [.ref h1, .ref h4, .ref g0, .ref g1, .ref h3, .ref g2, .ref g3, .int 4, .int 3, .int 0, .int (-1), .int 0])), (h1, .inr (7, [.ref g4, .ref h2, .ref g5, .ref g6, .ref g7, .ref g8, .ref g9, .ref g10, .ref g11, .int 1, .int 1, .int 0])), (h4, .inr (9, [.ref g12, .ref h5])), (h5, .inr (6, [.ref h6, .int 4])), (h6, .inl (cI, 144, .inl (upd (upd (upd (upd (upd (upd (upd (upd (upd (upd (upd (upd (upd (upd (upd (upd (upd (upd (upd (upd (upd (fun _ => 0) 1 (-1)) 2 (-1)) 3 1) 4 1) 5 (-1)) 6 1) 7 (-1)) 8 (-1)) 9 1) 10 1) 11 (-1)) 12 2) 13 (-1)) 14 (-1)) 15 1) 16 1) 17 (-1)) 18 4) 21 3) 22 2) 23 (-1)))), (h2, .inl (cI, 60, .inl (upd (fun _ => 0) 0 (-1))))]) hx hb hml hown hts hnw hK hP hD hS hA hl.1 (c_X11_at_9 l D cI cZ cB cJ h3) yk_X11_at wn_482 [2] [0, 1, 3, 4, 5, 6] rfl rfl (by decide) (by decide) (by decide) rfl rfl dX1_ofNode_120 ⟨Nat.le_of_ble_eq_true rfl, Nat.le_of_ble_eq_true rfl⟩ ⟨Nat.le_of_ble_eq_true rfl, Nat.le_of_ble_eq_true rfl⟩ (Nat.le_of_ble_eq_true rfl) (fun r9 w1 H locs hq9 hP hD hS => ?_)
  obtain ⟨rfl, rfl⟩ := hq9
  have hP : va_P D vwCl [(h0, .inr (1, [.ref h1, .ref h4, .ref g0, .ref g1, .ref h3, .ref g2, .ref g3, .int 4, .int 3, .int 0, .int (-1), .int 0])), (h1, .inr (7, [.ref g4, .ref h2, .ref g5, .ref g6, .ref g7, .ref g8, .ref g9, .ref g10, .ref g11, .int 1, .int 1, .int 0])), (h4, .inr (9, [.ref g12, .ref h5])), (h5, .inr (6, [.ref h6, .int 4])), (h6, .inl (cI, 144, .inl (upd (upd (upd (upd (upd (upd (upd (upd (upd (upd (upd (upd (upd (upd (upd (upd (upd (upd (upd (upd (upd (fun _ => 0) 1 (-1)) 2 (-1)) 3 1) 4 1) 5 (-1)) 6 1) 7 (-1)) 8 (-1)) 9 1) 10 1) 11 (-1)) 12 2) 13 (-1)) 14 (-1)) 15 1) 16 1) 17 (-1)) 18 4) 21 3) 22 2) 23 (-1)))), (h2, .inl (cI, 60, .inl (upd (fun _ => 0) 0 (-1)))), (h3, .inl (cI, 60, .inl (upd (fun _ => 0) 0 1)))] H := hP
  have hD : va_D A [(h0, .inr (1, [.ref h1, .ref h4, .ref g0, .ref g1, .ref h3, .ref g2, .ref g3, .int 4, .int 3, .int 0, .int (-1), .int 0])), (h1, .inr (7, [.ref g4, .ref h2, .ref g5, .ref g6, .ref g7, .ref g8, .ref g9, .ref g10, .ref g11, .int 1, .int 1, .int 0])), (h4, .inr (9, [.ref g12, .ref h5])), (h5, .inr (6, [.ref h6, .int 4])), (h6, .inl (cI, 144, .inl (upd (upd (upd (upd (upd (upd (upd (upd (upd (upd (upd (upd (upd (upd (upd (upd (upd (upd (upd (upd (upd (fun _ => 0) 1 (-1)) 2 (-1)) 3 1) 4 1) 5 (-1)) 6 1) 7 (-1)) 8 (-1)) 9 1) 10 1) 11 (-1)) 12 2) 13 (-1)) 14 (-1)) 15 1) 16 1) 17 (-1)) 18 4) 21 3) 22 2) 23 (-1)))), (h2, .inl (cI, 60, .inl (upd (fun _ => 0) 0 (-1)))), (h3, .inl (cI, 60, .inl (upd (fun _ => 0) 0 1)))] := hD
  refine W.widen (k := 0) (n := 0) (Nat.le_of_ble_eq_true rfl) (Nat.le_of_ble_eq_true rfl) ?_
  refine pcn (b := 123) rfl ?_
  refine kVNi (As := [.int 1]) (rest := []) (wr := [(h0, .inr (1, [.ref h1, .ref h4, .ref g0, .ref g1, .ref h3, .ref g2, .ref g3, .int 4, .int 3, .int 0, .int (-1), .int 0])), (h1, .inr (7, [.ref g4, .ref h2, .ref g5, .ref g6, .ref g7, .ref g8, .ref g9, .ref g10, .ref g11, .int 1, .int 1, .int 0])), (h2, .inl (cI, 60, .inl (upd (fun _ => 0) 0 (-1)))), (h3, .inl (cI, 60, .inl (upd (fun _ => 0) 0 1)))]) hx hb hml hown hts hnw hK hP hD hS hA hl.1 (c_X9_height_0 l D cI cZ cB cJ h4 h5 h6 g12) yk_X9_height wn_809 [2, 3, 4] [0, 1, 5, 6] rfl rfl (by decide) (by decide) (by decide) 0 rfl rfl rfl rfl rfl dX1_ofNode_123 ⟨Nat.le_of_ble_eq_true rfl, Nat.le_of_ble_eq_true rfl⟩ ⟨Nat.le_of_ble_eq_true rfl, Nat.le_of_ble_eq_true rfl⟩ (Nat.le_of_ble_eq_true rfl) (fun r9 w1 H locs hq9 hP hD hS => ?_)
  obtain ⟨rfl, rfl⟩ := hq9
  have hP : va_P D vwCl [(h0, .inr (1, [.ref h1, .ref h4, .ref g0, .ref g1, .ref h3, .ref g2, .ref g3, .int 4, .int 3, .int 0, .int (-1), .int 0])), (h1, .inr (7, [.ref g4, .ref h2, .ref g5, .ref g6, .ref g7, .ref g8, .ref g9, .ref g10, .ref g11, .int 1, .int 1, .int 0])), (h2, .inl (cI, 60, .inl (upd (fun _ => 0) 0 (-1)))), (h3, .inl (cI, 60, .inl (upd (fun _ => 0) 0 1))), (h4, .inr (9, [.ref g12, .ref h5])), (h5, .inr (6, [.ref h6, .int 4])), (h6, .inl (cI, 144, .inl (upd (upd (upd (upd (upd (upd (upd (upd (upd (upd (upd (upd (upd (upd (upd (upd (upd (upd (upd (upd (upd (fun _ => 0) 1 (-1)) 2 (-1)) 3 1) 4 1) 5 (-1)) 6 1) 7 (-1)) 8 (-1)) 9 1) 10 1) 11 (-1)) 12 2) 13 (-1)) 14 (-1)) 15 1) 16 1) 17 (-1)) 18 4) 21 3) 22 2) 23 (-1))))] H := hP
  have hD : va_D A [(h0, .inr (1, [.ref h1, .ref h4, .ref g0, .ref g1, .ref h3, .ref g2, .ref g3, .int 4, .int 3, .int 0, .int (-1), .int 0])), (h1, .inr (7, [.ref g4, .ref h2, .ref g5, .ref g6, .ref g7, .ref g8, .ref g9, .ref g10, .ref g11, .int 1, .int 1, .int 0])), (h2, .inl (cI, 60, .inl (upd (fun _ => 0) 0 (-1)))), (h3, .inl (cI, 60, .inl (upd (fun _ => 0) 0 1))), (h4, .inr (9, [.ref g12, .ref h5])), (h5, .inr (6, [.ref h6, .int 4])), (h6, .inl (cI, 144, .inl (upd (upd (upd (upd (upd (upd (upd (upd (upd (upd (upd (upd (upd (upd (upd (upd (upd (upd (upd (upd (upd (fun _ => 0) 1 (-1)) 2 (-1)) 3 1) 4 1) 5 (-1)) 6 1) 7 (-1)) 8 (-1)) 9 1) 10 1) 11 (-1)) 12 2) 13 (-1)) 14 (-1)) 15 1) 16 1) 17 (-1)) 18 4) 21 3) 22 2) 23 (-1))))] := hD
  refine W.widen (k := 0) (n := 0) (Nat.le_of_ble_eq_true rfl) (Nat.le_of_ble_eq_true rfl) ?_
  refine pcn (b := 126) rfl ?_
  refine W.widen (k := 0) (n := 0) (Nat.le_of_ble_eq_true rfl) (Nat.le_of_ble_eq_true rfl) ?_
  exact rtI hx hb hr hlocks hS hP hD ⟨rfl, rfl⟩ dX1_ofNode_126

set_option maxHeartbeats 4000000 in
set_option maxRecDepth 100000 in
theorem c_X1_ofNode_6 (l : Launch) (D : va_G) (cI cZ cB cJ : ClassId) (h0 h1 h2 h3 g0 g1 g2 g3 g4 g5 g6 g7 g8 g9 g10 g11 g12 : Nat) : CtI l D (TT cI cZ cB cJ) yX1_ofNode cX1_ofNode 4 (some .int) 1 21 0 0 [.ref h0, .int 0, .int 5] [(h0, .inr (1, [.ref h1, .ref g0, .ref g1, .ref g2, .ref g3, .ref g4, .ref h3, .int 4, .int 3, .int 0, .int (-1), .int 0])), (h1, .inr (7, [.ref g5, .ref h2, .ref g6, .ref g7, .ref g8, .ref g9, .ref g10, .ref g11, .ref g12, .int 1, .int 1, .int 0])), (h2, .inl (cI, 60, .inl (upd (fun _ => 0) 0 (-1)))), (h3, .inl (cZ, 60, .inl (upd (fun _ => 0) 0 1)))] (fun r w1 => r = 1 ∧ w1 = [(h0, .inr (1, [.ref h1, .ref g0, .ref g1, .ref g2, .ref g3, .ref g4, .ref h3, .int 4, .int 3, .int 0, .int (-1), .int 0])), (h1, .inr (7, [.ref g5, .ref h2, .ref g6, .ref g7, .ref g8, .ref g9, .ref g10, .ref g11, .ref g12, .int 1, .int 1, .int 0])), (h2, .inl (cI, 60, .inl (upd (fun _ => 0) 0 (-1)))), (h3, .inl (cZ, 60, .inl (upd (fun _ => 0) 0 1)))]) := by
  refine CtI.of (by decide +kernel) (Nat.le_of_ble_eq_true rfl) ?_
  intro p e s m below meth c A ls hx hb hr hml hown hts hnw hlocks hin hA hS hP hK hD hl
  have hown : s.vm.findClass RX1 = some m.cls := hown
  have hl : lv_has ls 4 [(0, .ref h0), (1, .int 0), (2, .int 5)] := hl
  refine lv_aload_n hx hb dX1_ofNode_0 rfl (lv_at hl 0 rfl) ?_
  refine va_get (D := D) (ci := 1) (v := .ref h1) (C := RX1) (T := TX1) (N := 12) hx hb hts inX1 hown hK hP 0 rfl rfl 0 (by decide) (hts _ wm_274) (fun _ h9 => h9) rfl dX1_ofNode_1 ?_
  refine va_getN (D := D) (ci := 7) (v := .ref h2) (C := RX7) (T := TX7) (N := 12) hx hb hts inX7 hown hK hP 1 rfl rfl 1 (by decide) (va_Nw.use rfl (hnw _ wn_81)) (fun _ h9 => h9) rfl dX1_ofNode_4 ?_
  refine lv_iload_n hx hb dX1_ofNode_7 rfl (lv_at hl 1 rfl) ?_
  refine kSNi (As := [.ref h2, .int 0]) (rest := []) (wr := [(h0, .inr (1, [.ref h1, .ref g0, .ref g1, .ref g2, .ref g3, .ref g4, .ref h3, .int 4, .int 3, .int 0, .int (-1), .int 0])), (h1, .inr (7, [.ref g5, .ref h2, .ref g6, .ref g7, .ref g8, .ref g9, .ref g10, .ref g11, .ref g12, .int 1, .int 1, .int 0])), (h3, .inl (cZ, 60, .inl (upd (fun _ => 0) 0 1)))]) hx hb hml hown hts hnw hK hP hD hS hA hl.1 (c_X11_at_8 l D cI cZ cB cJ h2) yk_X11_at wn_482 [2] [0, 1, 3] rfl rfl (by decide) (by decide) (by decide) rfl rfl dX1_ofNode_8 ⟨Nat.le_of_ble_eq_true rfl, Nat.le_of_ble_eq_true rfl⟩ ⟨Nat.le_of_ble_eq_true rfl, Nat.le_of_ble_eq_true rfl⟩ (Nat.le_of_ble_eq_true rfl) (fun r9 w1 H locs hq9 hP hD hS => ?_)
  obtain ⟨rfl, rfl⟩ := hq9
  have hP : va_P D vwCl [(h0, .inr (1, [.ref h1, .ref g0, .ref g1, .ref g2, .ref g3, .ref g4, .ref h3, .int 4, .int 3, .int 0, .int (-1), .int 0])), (h1, .inr (7, [.ref g5, .ref h2, .ref g6, .ref g7, .ref g8, .ref g9, .ref g10, .ref g11, .ref g12, .int 1, .int 1, .int 0])), (h3, .inl (cZ, 60, .inl (upd (fun _ => 0) 0 1))), (h2, .inl (cI, 60, .inl (upd (fun _ => 0) 0 (-1))))] H := hP
  have hD : va_D A [(h0, .inr (1, [.ref h1, .ref g0, .ref g1, .ref g2, .ref g3, .ref g4, .ref h3, .int 4, .int 3, .int 0, .int (-1), .int 0])), (h1, .inr (7, [.ref g5, .ref h2, .ref g6, .ref g7, .ref g8, .ref g9, .ref g10, .ref g11, .ref g12, .int 1, .int 1, .int 0])), (h3, .inl (cZ, 60, .inl (upd (fun _ => 0) 0 1))), (h2, .inl (cI, 60, .inl (upd (fun _ => 0) 0 (-1))))] := hD
  refine W.widen (k := 0) (n := 0) (Nat.le_of_ble_eq_true rfl) (Nat.le_of_ble_eq_true rfl) ?_
  refine pcn (b := 11) rfl ?_
  refine lv_istore_n (lv' := [(3, .int (-1)), (0, .ref h0), (1, .int 0), (2, .int 5)]) hx hb dX1_ofNode_11 rfl hl (by decide) rfl (fun ls hl => ?_)
  refine lv_iload_n hx hb dX1_ofNode_12 rfl (lv_at hl 3 rfl) ?_
  refine lv_tableIn (off := 114) (tgt := 127) hx hb dX1_ofNode_13 (by decide +kernel) (by decide +kernel) (by decide +kernel) (by decide) ?_
  refine lv_aload_n hx hb dX1_ofNode_127 rfl (lv_at hl 1 rfl) ?_
  refine lv_iload_n hx hb dX1_ofNode_128 rfl (lv_at hl 2 rfl) ?_
  refine kVi (As := [.int 0]) (rest := []) (wr := [(h1, .inr (7, [.ref g5, .ref h2, .ref g6, .ref g7, .ref g8, .ref g9, .ref g10, .ref g11, .ref g12, .int 1, .int 1, .int 0])), (h2, .inl (cI, 60, .inl (upd (fun _ => 0) 0 (-1))))]) hx hb hml hown hts hnw hK hP hD hS hA hl.1 (c_X1_isTyped_0 l D cI cZ cB cJ h0 h3 h1 g0 g1 g2 g3 g4) yk_X1_isTyped wm_578 [0, 2] [1, 3] rfl rfl (by decide) (by decide) (by decide) 0 rfl rfl rfl rfl rfl dX1_ofNode_129 ⟨Nat.le_of_ble_eq_true rfl, Nat.le_of_ble_eq_true rfl⟩ ⟨Nat.le_of_ble_eq_true rfl, Nat.le_of_ble_eq_true rfl⟩ (Nat.le_of_ble_eq_true rfl) (fun r9 w1 H locs hq9 hP hD hS => ?_)
  obtain ⟨rfl, rfl⟩ := hq9
  have hP : va_P D vwCl [(h1, .inr (7, [.ref g5, .ref h2, .ref g6, .ref g7, .ref g8, .ref g9, .ref g10, .ref g11, .ref g12, .int 1, .int 1, .int 0])), (h2, .inl (cI, 60, .inl (upd (fun _ => 0) 0 (-1)))), (h0, .inr (1, [.ref h1, .ref g0, .ref g1, .ref g2, .ref g3, .ref g4, .ref h3, .int 4, .int 3, .int 0, .int (-1), .int 0])), (h3, .inl (cZ, 60, .inl (upd (fun _ => 0) 0 1)))] H := hP
  have hD : va_D A [(h1, .inr (7, [.ref g5, .ref h2, .ref g6, .ref g7, .ref g8, .ref g9, .ref g10, .ref g11, .ref g12, .int 1, .int 1, .int 0])), (h2, .inl (cI, 60, .inl (upd (fun _ => 0) 0 (-1)))), (h0, .inr (1, [.ref h1, .ref g0, .ref g1, .ref g2, .ref g3, .ref g4, .ref h3, .int 4, .int 3, .int 0, .int (-1), .int 0])), (h3, .inl (cZ, 60, .inl (upd (fun _ => 0) 0 1)))] := hD
  refine W.widen (k := 0) (n := 0) (Nat.le_of_ble_eq_true rfl) (Nat.le_of_ble_eq_true rfl) ?_
  refine pcn (b := 132) rfl ?_
  refine lv_if_eq (tgt := 139) hx hb dX1_ofNode_132 (by decide) (fun h9 => absurd h9 (by decide +kernel)) (fun _ => ?_)
  refine lv_iconst (v := 1) hx hb dX1_ofNode_135 (by decide +kernel) ?_
  refine lv_goto (tgt := 140) hx hb dX1_ofNode_136 (by decide) ?_
  refine W.widen (k := 0) (n := 0) (Nat.le_of_ble_eq_true rfl) (Nat.le_of_ble_eq_true rfl) ?_
  have hP := hP.sub (ws' := [(h0, .inr (1, [.ref h1, .ref g0, .ref g1, .ref g2, .ref g3, .ref g4, .ref h3, .int 4, .int 3, .int 0, .int (-1), .int 0])), (h1, .inr (7, [.ref g5, .ref h2, .ref g6, .ref g7, .ref g8, .ref g9, .ref g10, .ref g11, .ref g12, .int 1, .int 1, .int 0])), (h2, .inl (cI, 60, .inl (upd (fun _ => 0) 0 (-1)))), (h3, .inl (cZ, 60, .inl (upd (fun _ => 0) 0 1)))]) [2, 0, 1, 3] rfl
  have hD := hD.sub (ws' := [(h0, .inr (1, [.ref h1, .ref g0, .ref g1, .ref g2, .ref g3, .ref g4, .ref h3, .int 4, .int 3, .int 0, .int (-1), .int 0])), (h1, .inr (7, [.ref g5, .ref h2, .ref g6, .ref g7, .ref g8, .ref g9, .ref g10, .ref g11, .ref g12, .int 1, .int 1, .int 0])), (h2, .inl (cI, 60, .inl (upd (fun _ => 0) 0 (-1)))), (h3, .inl (cZ, 60, .inl (upd (fun _ => 0) 0 1)))]) [2, 0, 1, 3] (by decide) rfl
  exact rtI hx hb hr hlocks hS hP hD ⟨rfl, rfl⟩ dX1_ofNode_140

set_option maxHeartbeats 4000000 in
set_option maxRecDepth 100000 in
theorem c_X1_castsOnParts_0 (l : Launch) (D : va_G) (cI cZ cB cJ : ClassId) (h0 h1 h2 g0 g1 g2 g3 g4 g5 g6 g7 g8 g9 g10 g11 g12 g13 : Nat) : CtI l D (TT cI cZ cB cJ) yX1_castsOnParts cX1_castsOnParts 5 (some .int) 2 43 0 0 [.ref h0, .int 0] [(h0, .inr (1, [.ref h1, .ref g0, .ref g1, .ref g2, .ref g3, .ref g4, .ref g5, .int 4, .int 3, .int 0, .int (-1), .int 0])), (h1, .inr (7, [.ref g6, .ref g7, .ref g8, .ref g9, .ref g10, .ref g11, .ref h2, .ref g12, .ref g13, .int 1, .int 1, .int 0])), (h2, .inl (cI, 180, .inl (fun _ => (-1))))] (fun r w1 => r = 0 ∧ w1 = [(h0, .inr (1, [.ref h1, .ref g0, .ref g1, .ref g2, .ref g3, .ref g4, .ref g5, .int 4, .int 3, .int 0, .int (-1), .int 0])), (h1, .inr (7, [.ref g6, .ref g7, .ref g8, .ref g9, .ref g10, .ref g11, .ref h2, .ref g12, .ref g13, .int 1, .int 1, .int 0])), (h2, .inl (cI, 180, .inl (fun _ => (-1))))]) := by
  refine CtI.of (by decide +kernel) (Nat.le_of_ble_eq_true rfl) ?_
  intro p e s m below meth c A ls hx hb hr hml hown hts hnw hlocks hin hA hS hP hK hD hl
  have hown : s.vm.findClass RX1 = some m.cls := hown
  have hl : lv_has ls 5 [(0, .ref h0), (1, .int 0)] := hl
  refine lv_iconst (v := 0) hx hb dX1_castsOnParts_0 (by decide +kernel) ?_
  refine lv_istore_n (lv' := [(2, .int 0), (0, .ref h0), (1, .int 0)]) hx hb dX1_castsOnParts_1 rfl hl (by decide) rfl (fun ls hl => ?_)
  refine lv_iconst (v := 0) hx hb dX1_castsOnParts_2 (by decide +kernel) ?_
  refine lv_istore_n (lv' := [(3, .int 0), (2, .int 0), (0, .ref h0), (1, .int 0)]) hx hb dX1_castsOnParts_3 rfl hl (by decide) rfl (fun ls hl => ?_)
  refine lv_iload_n hx hb dX1_castsOnParts_4 rfl (lv_at hl 0 rfl) ?_
  refine lv_iconst (v := 3) hx hb dX1_castsOnParts_5 (by decide +kernel) ?_
  refine lv_icmp_ge (tgt := 46) hx hb dX1_castsOnParts_6 (by decide) (fun h9 => absurd h9 (by decide +kernel)) (fun _ => ?_)
  refine pcn (b := 9) rfl ?_
  refine lv_aload_n hx hb dX1_castsOnParts_9 rfl (lv_at hl 2 rfl) ?_
  refine va_get (D := D) (ci := 1) (v := .ref h1) (C := RX1) (T := TX1) (N := 12) hx hb hts inX1 hown hK hP 0 rfl rfl 0 (by decide) (hts _ wm_274) (fun _ h9 => h9) rfl dX1_castsOnParts_10 ?_
  refine lv_iload_n hx hb dX1_castsOnParts_13 rfl (lv_at hl 3 rfl) ?_
  refine lv_iload_n hx hb dX1_castsOnParts_14 rfl (lv_at hl 0 rfl) ?_
  refine kVNi (As := [.int 0, .int 0]) (rest := []) (wr := [(h0, .inr (1, [.ref h1, .ref g0, .ref g1, .ref g2, .ref g3, .ref g4, .ref g5, .int 4, .int 3, .int 0, .int (-1), .int 0]))]) hx hb hml hown hts hnw hK hP hD hS hA hl.1 (c_X7_part_0 l D cI cZ cB cJ h1 h2 g6 g7 g8 g9 g10 g11 g12 g13) yk_X7_part wn_487 [1, 2] [0] rfl rfl (by decide) (by decide) (by decide) 0 rfl rfl rfl rfl rfl dX1_castsOnParts_15 ⟨Nat.le_of_ble_eq_true rfl, Nat.le_of_ble_eq_true rfl⟩ ⟨Nat.le_of_ble_eq_true rfl, Nat.le_of_ble_eq_true rfl⟩ (Nat.le_of_ble_eq_true rfl) (fun r9 w1 H locs hq9 hP hD hS => ?_)
  obtain ⟨rfl, rfl⟩ := hq9
  have hP : va_P D vwCl [(h0, .inr (1, [.ref h1, .ref g0, .ref g1, .ref g2, .ref g3, .ref g4, .ref g5, .int 4, .int 3, .int 0, .int (-1), .int 0])), (h1, .inr (7, [.ref g6, .ref g7, .ref g8, .ref g9, .ref g10, .ref g11, .ref h2, .ref g12, .ref g13, .int 1, .int 1, .int 0])), (h2, .inl (cI, 180, .inl (fun _ => (-1))))] H := hP
  have hD : va_D A [(h0, .inr (1, [.ref h1, .ref g0, .ref g1, .ref g2, .ref g3, .ref g4, .ref g5, .int 4, .int 3, .int 0, .int (-1), .int 0])), (h1, .inr (7, [.ref g6, .ref g7, .ref g8, .ref g9, .ref g10, .ref g11, .ref h2, .ref g12, .ref g13, .int 1, .int 1, .int 0])), (h2, .inl (cI, 180, .inl (fun _ => (-1))))] := hD
  refine W.widen (k := 0) (n := 0) (Nat.le_of_ble_eq_true rfl) (Nat.le_of_ble_eq_true rfl) ?_
  refine pcn (b := 18) rfl ?_
  refine lv_istore (lv' := [(4, .int (-1)), (3, .int 0), (2, .int 0), (0, .ref h0), (1, .int 0)]) hx hb dX1_castsOnParts_18 hl (by decide) rfl (fun ls hl => ?_)
  refine lv_iload hx hb dX1_castsOnParts_20 (lv_at hl 0 rfl) ?_
  refine lv_if_lt (tgt := 40) hx hb dX1_castsOnParts_22 (by decide) (fun _ => ?_) (fun h9 => absurd (by decide +kernel) h9)
  refine lv_iinc (v := 1) (lv' := [(3, .int 1), (4, .int (-1)), (2, .int 0), (0, .ref h0), (1, .int 0)]) hx hb dX1_castsOnParts_40 hl (k := 1) rfl (by decide +kernel) (by decide) rfl (fun ls hl => ?_)
  refine lv_goto (tgt := 4) hx hb dX1_castsOnParts_43 (by decide) ?_
  refine lv_iload_n hx hb dX1_castsOnParts_4 rfl (lv_at hl 0 rfl) ?_
  refine lv_iconst (v := 3) hx hb dX1_castsOnParts_5 (by decide +kernel) ?_
  refine lv_icmp_ge (tgt := 46) hx hb dX1_castsOnParts_6 (by decide) (fun h9 => absurd h9 (by decide +kernel)) (fun _ => ?_)
  refine lv_aload_n hx hb dX1_castsOnParts_9 rfl (lv_at hl 3 rfl) ?_
  refine va_get (D := D) (ci := 1) (v := .ref h1) (C := RX1) (T := TX1) (N := 12) hx hb hts inX1 hown hK hP 0 rfl rfl 0 (by decide) (hts _ wm_274) (fun _ h9 => h9) rfl dX1_castsOnParts_10 ?_
  refine lv_iload_n hx hb dX1_castsOnParts_13 rfl (lv_at hl 4 rfl) ?_
  refine lv_iload_n hx hb dX1_castsOnParts_14 rfl (lv_at hl 0 rfl) ?_
  refine pcn (b := 15) rfl ?_
  refine kVNi (As := [.int 0, .int 1]) (rest := []) (wr := [(h0, .inr (1, [.ref h1, .ref g0, .ref g1, .ref g2, .ref g3, .ref g4, .ref g5, .int 4, .int 3, .int 0, .int (-1), .int 0]))]) hx hb hml hown hts hnw hK hP hD hS hA hl.1 (c_X7_part_1 l D cI cZ cB cJ h1 h2 g6 g7 g8 g9 g10 g11 g12 g13) yk_X7_part wn_487 [1, 2] [0] rfl rfl (by decide) (by decide) (by decide) 0 rfl rfl rfl rfl rfl dX1_castsOnParts_15 ⟨Nat.le_of_ble_eq_true rfl, Nat.le_of_ble_eq_true rfl⟩ ⟨Nat.le_of_ble_eq_true rfl, Nat.le_of_ble_eq_true rfl⟩ (Nat.le_of_ble_eq_true rfl) (fun r9 w1 H locs hq9 hP hD hS => ?_)
  obtain ⟨rfl, rfl⟩ := hq9
  have hP : va_P D vwCl [(h0, .inr (1, [.ref h1, .ref g0, .ref g1, .ref g2, .ref g3, .ref g4, .ref g5, .int 4, .int 3, .int 0, .int (-1), .int 0])), (h1, .inr (7, [.ref g6, .ref g7, .ref g8, .ref g9, .ref g10, .ref g11, .ref h2, .ref g12, .ref g13, .int 1, .int 1, .int 0])), (h2, .inl (cI, 180, .inl (fun _ => (-1))))] H := hP
  have hD : va_D A [(h0, .inr (1, [.ref h1, .ref g0, .ref g1, .ref g2, .ref g3, .ref g4, .ref g5, .int 4, .int 3, .int 0, .int (-1), .int 0])), (h1, .inr (7, [.ref g6, .ref g7, .ref g8, .ref g9, .ref g10, .ref g11, .ref h2, .ref g12, .ref g13, .int 1, .int 1, .int 0])), (h2, .inl (cI, 180, .inl (fun _ => (-1))))] := hD
  refine W.widen (k := 0) (n := 0) (Nat.le_of_ble_eq_true rfl) (Nat.le_of_ble_eq_true rfl) ?_
  refine pcn (b := 18) rfl ?_
  refine lv_istore (lv' := [(4, .int (-1)), (3, .int 1), (2, .int 0), (0, .ref h0), (1, .int 0)]) hx hb dX1_castsOnParts_18 hl (by decide) rfl (fun ls hl => ?_)
  refine lv_iload hx hb dX1_castsOnParts_20 (lv_at hl 0 rfl) ?_
  refine lv_if_lt (tgt := 40) hx hb dX1_castsOnParts_22 (by decide) (fun _ => ?_) (fun h9 => absurd (by decide +kernel) h9)
  refine lv_iinc (v := 2) (lv' := [(3, .int 2), (4, .int (-1)), (2, .int 0), (0, .ref h0), (1, .int 0)]) hx hb dX1_castsOnParts_40 hl (k := 1) rfl (by decide +kernel) (by decide) rfl (fun ls hl => ?_)
  refine lv_goto (tgt := 4) hx hb dX1_castsOnParts_43 (by decide) ?_
  refine lv_iload_n hx hb dX1_castsOnParts_4 rfl (lv_at hl 0 rfl) ?_
  refine lv_iconst (v := 3) hx hb dX1_castsOnParts_5 (by decide +kernel) ?_
  refine lv_icmp_ge (tgt := 46) hx hb dX1_castsOnParts_6 (by decide) (fun h9 => absurd h9 (by decide +kernel)) (fun _ => ?_)
  refine lv_aload_n hx hb dX1_castsOnParts_9 rfl (lv_at hl 3 rfl) ?_
  refine va_get (D := D) (ci := 1) (v := .ref h1) (C := RX1) (T := TX1) (N := 12) hx hb hts inX1 hown hK hP 0 rfl rfl 0 (by decide) (hts _ wm_274) (fun _ h9 => h9) rfl dX1_castsOnParts_10 ?_
  refine lv_iload_n hx hb dX1_castsOnParts_13 rfl (lv_at hl 4 rfl) ?_
  refine lv_iload_n hx hb dX1_castsOnParts_14 rfl (lv_at hl 0 rfl) ?_
  refine pcn (b := 15) rfl ?_
  refine kVNi (As := [.int 0, .int 2]) (rest := []) (wr := [(h0, .inr (1, [.ref h1, .ref g0, .ref g1, .ref g2, .ref g3, .ref g4, .ref g5, .int 4, .int 3, .int 0, .int (-1), .int 0]))]) hx hb hml hown hts hnw hK hP hD hS hA hl.1 (c_X7_part_2 l D cI cZ cB cJ h1 h2 g6 g7 g8 g9 g10 g11 g12 g13) yk_X7_part wn_487 [1, 2] [0] rfl rfl (by decide) (by decide) (by decide) 0 rfl rfl rfl rfl rfl dX1_castsOnParts_15 ⟨Nat.le_of_ble_eq_true rfl, Nat.le_of_ble_eq_true rfl⟩ ⟨Nat.le_of_ble_eq_true rfl, Nat.le_of_ble_eq_true rfl⟩ (Nat.le_of_ble_eq_true rfl) (fun r9 w1 H locs hq9 hP hD hS => ?_)
  obtain ⟨rfl, rfl⟩ := hq9
  have hP : va_P D vwCl [(h0, .inr (1, [.ref h1, .ref g0, .ref g1, .ref g2, .ref g3, .ref g4, .ref g5, .int 4, .int 3, .int 0, .int (-1), .int 0])), (h1, .inr (7, [.ref g6, .ref g7, .ref g8, .ref g9, .ref g10, .ref g11, .ref h2, .ref g12, .ref g13, .int 1, .int 1, .int 0])), (h2, .inl (cI, 180, .inl (fun _ => (-1))))] H := hP
  have hD : va_D A [(h0, .inr (1, [.ref h1, .ref g0, .ref g1, .ref g2, .ref g3, .ref g4, .ref g5, .int 4, .int 3, .int 0, .int (-1), .int 0])), (h1, .inr (7, [.ref g6, .ref g7, .ref g8, .ref g9, .ref g10, .ref g11, .ref h2, .ref g12, .ref g13, .int 1, .int 1, .int 0])), (h2, .inl (cI, 180, .inl (fun _ => (-1))))] := hD
  refine W.widen (k := 0) (n := 0) (Nat.le_of_ble_eq_true rfl) (Nat.le_of_ble_eq_true rfl) ?_
  refine pcn (b := 18) rfl ?_
  refine lv_istore (lv' := [(4, .int (-1)), (3, .int 2), (2, .int 0), (0, .ref h0), (1, .int 0)]) hx hb dX1_castsOnParts_18 hl (by decide) rfl (fun ls hl => ?_)
  refine lv_iload hx hb dX1_castsOnParts_20 (lv_at hl 0 rfl) ?_
  refine lv_if_lt (tgt := 40) hx hb dX1_castsOnParts_22 (by decide) (fun _ => ?_) (fun h9 => absurd (by decide +kernel) h9)
  refine lv_iinc (v := 3) (lv' := [(3, .int 3), (4, .int (-1)), (2, .int 0), (0, .ref h0), (1, .int 0)]) hx hb dX1_castsOnParts_40 hl (k := 1) rfl (by decide +kernel) (by decide) rfl (fun ls hl => ?_)
  refine lv_goto (tgt := 4) hx hb dX1_castsOnParts_43 (by decide) ?_
  refine lv_iload_n hx hb dX1_castsOnParts_4 rfl (lv_at hl 0 rfl) ?_
  refine lv_iconst (v := 3) hx hb dX1_castsOnParts_5 (by decide +kernel) ?_
  refine lv_icmp_ge (tgt := 46) hx hb dX1_castsOnParts_6 (by decide) (fun _ => ?_) (fun h9 => absurd (by decide +kernel) h9)
  refine lv_iload_n hx hb dX1_castsOnParts_46 rfl (lv_at hl 2 rfl) ?_
  refine W.widen (k := 0) (n := 0) (Nat.le_of_ble_eq_true rfl) (Nat.le_of_ble_eq_true rfl) ?_
  exact rtI hx hb hr hlocks hS hP hD ⟨rfl, rfl⟩ dX1_castsOnParts_47

set_option maxHeartbeats 4000000 in
set_option maxRecDepth 100000 in
theorem c_X1_ofNode_7 (l : Launch) (D : va_G) (cI cZ cB cJ : ClassId) (h0 h1 h2 h3 g0 g1 g2 g3 g4 g5 g6 g7 g8 g9 g10 g11 g12 : Nat) : CtI l D (TT cI cZ cB cJ) yX1_ofNode cX1_ofNode 4 (some .int) 3 67 0 0 [.ref h0, .int 0, .int 6] [(h0, .inr (1, [.ref h1, .ref g0, .ref g1, .ref g2, .ref g3, .ref g4, .ref g5, .int 4, .int 3, .int 0, .int (-1), .int 0])), (h1, .inr (7, [.ref g6, .ref h2, .ref g7, .ref g8, .ref g9, .ref g10, .ref h3, .ref g11, .ref g12, .int 1, .int 1, .int 0])), (h2, .inl (cI, 60, .inl (upd (fun _ => 0) 0 (-1)))), (h3, .inl (cI, 180, .inl (fun _ => (-1))))] (fun r w1 => r = 0 ∧ w1 = [(h0, .inr (1, [.ref h1, .ref g0, .ref g1, .ref g2, .ref g3, .ref g4, .ref g5, .int 4, .int 3, .int 0, .int (-1), .int 0])), (h1, .inr (7, [.ref g6, .ref h2, .ref g7, .ref g8, .ref g9, .ref g10, .ref h3, .ref g11, .ref g12, .int 1, .int 1, .int 0])), (h2, .inl (cI, 60, .inl (upd (fun _ => 0) 0 (-1)))), (h3, .inl (cI, 180, .inl (fun _ => (-1))))]) := by
  refine CtI.of (by decide +kernel) (Nat.le_of_ble_eq_true rfl) ?_
  intro p e s m below meth c A ls hx hb hr hml hown hts hnw hlocks hin hA hS hP hK hD hl
  have hown : s.vm.findClass RX1 = some m.cls := hown
  have hl : lv_has ls 4 [(0, .ref h0), (1, .int 0), (2, .int 6)] := hl
  refine lv_aload_n hx hb dX1_ofNode_0 rfl (lv_at hl 0 rfl) ?_
  refine va_get (D := D) (ci := 1) (v := .ref h1) (C := RX1) (T := TX1) (N := 12) hx hb hts inX1 hown hK hP 0 rfl rfl 0 (by decide) (hts _ wm_274) (fun _ h9 => h9) rfl dX1_ofNode_1 ?_
  refine va_getN (D := D) (ci := 7) (v := .ref h2) (C := RX7) (T := TX7) (N := 12) hx hb hts inX7 hown hK hP 1 rfl rfl 1 (by decide) (va_Nw.use rfl (hnw _ wn_81)) (fun _ h9 => h9) rfl dX1_ofNode_4 ?_
  refine lv_iload_n hx hb dX1_ofNode_7 rfl (lv_at hl 1 rfl) ?_
  refine kSNi (As := [.ref h2, .int 0]) (rest := []) (wr := [(h0, .inr (1, [.ref h1, .ref g0, .ref g1, .ref g2, .ref g3, .ref g4, .ref g5, .int 4, .int 3, .int 0, .int (-1), .int 0])), (h1, .inr (7, [.ref g6, .ref h2, .ref g7, .ref g8, .ref g9, .ref g10, .ref h3, .ref g11, .ref g12, .int 1, .int 1, .int 0])), (h3, .inl (cI, 180, .inl (fun _ => (-1))))]) hx hb hml hown hts hnw hK hP hD hS hA hl.1 (c_X11_at_8 l D cI cZ cB cJ h2) yk_X11_at wn_482 [2] [0, 1, 3] rfl rfl (by decide) (by decide) (by decide) rfl rfl dX1_ofNode_8 ⟨Nat.le_of_ble_eq_true rfl, Nat.le_of_ble_eq_true rfl⟩ ⟨Nat.le_of_ble_eq_true rfl, Nat.le_of_ble_eq_true rfl⟩ (Nat.le_of_ble_eq_true rfl) (fun r9 w1 H locs hq9 hP hD hS => ?_)
  obtain ⟨rfl, rfl⟩ := hq9
  have hP : va_P D vwCl [(h0, .inr (1, [.ref h1, .ref g0, .ref g1, .ref g2, .ref g3, .ref g4, .ref g5, .int 4, .int 3, .int 0, .int (-1), .int 0])), (h1, .inr (7, [.ref g6, .ref h2, .ref g7, .ref g8, .ref g9, .ref g10, .ref h3, .ref g11, .ref g12, .int 1, .int 1, .int 0])), (h3, .inl (cI, 180, .inl (fun _ => (-1)))), (h2, .inl (cI, 60, .inl (upd (fun _ => 0) 0 (-1))))] H := hP
  have hD : va_D A [(h0, .inr (1, [.ref h1, .ref g0, .ref g1, .ref g2, .ref g3, .ref g4, .ref g5, .int 4, .int 3, .int 0, .int (-1), .int 0])), (h1, .inr (7, [.ref g6, .ref h2, .ref g7, .ref g8, .ref g9, .ref g10, .ref h3, .ref g11, .ref g12, .int 1, .int 1, .int 0])), (h3, .inl (cI, 180, .inl (fun _ => (-1)))), (h2, .inl (cI, 60, .inl (upd (fun _ => 0) 0 (-1))))] := hD
  refine W.widen (k := 0) (n := 0) (Nat.le_of_ble_eq_true rfl) (Nat.le_of_ble_eq_true rfl) ?_
  refine pcn (b := 11) rfl ?_
  refine lv_istore_n (lv' := [(3, .int (-1)), (0, .ref h0), (1, .int 0), (2, .int 6)]) hx hb dX1_ofNode_11 rfl hl (by decide) rfl (fun ls hl => ?_)
  refine lv_iload_n hx hb dX1_ofNode_12 rfl (lv_at hl 3 rfl) ?_
  refine lv_tableIn (off := 128) (tgt := 141) hx hb dX1_ofNode_13 (by decide +kernel) (by decide +kernel) (by decide +kernel) (by decide) ?_
  refine lv_aload_n hx hb dX1_ofNode_141 rfl (lv_at hl 1 rfl) ?_
  refine lv_iload_n hx hb dX1_ofNode_142 rfl (lv_at hl 2 rfl) ?_
  refine kVi (As := [.int 0]) (rest := []) (wr := [(h2, .inl (cI, 60, .inl (upd (fun _ => 0) 0 (-1))))]) hx hb hml hown hts hnw hK hP hD hS hA hl.1 (c_X1_castsOnParts_0 l D cI cZ cB cJ h0 h1 h3 g0 g1 g2 g3 g4 g5 g6 h2 g7 g8 g9 g10 g11 g12) yk_X1_castsOnParts wm_813 [0, 1, 2] [3] rfl rfl (by decide) (by decide) (by decide) 0 rfl rfl rfl rfl rfl dX1_ofNode_143 ⟨Nat.le_of_ble_eq_true rfl, Nat.le_of_ble_eq_true rfl⟩ ⟨Nat.le_of_ble_eq_true rfl, Nat.le_of_ble_eq_true rfl⟩ (Nat.le_of_ble_eq_true rfl) (fun r9 w1 H locs hq9 hP hD hS => ?_)
  obtain ⟨rfl, rfl⟩ := hq9
  have hP : va_P D vwCl [(h2, .inl (cI, 60, .inl (upd (fun _ => 0) 0 (-1)))), (h0, .inr (1, [.ref h1, .ref g0, .ref g1, .ref g2, .ref g3, .ref g4, .ref g5, .int 4, .int 3, .int 0, .int (-1), .int 0])), (h1, .inr (7, [.ref g6, .ref h2, .ref g7, .ref g8, .ref g9, .ref g10, .ref h3, .ref g11, .ref g12, .int 1, .int 1, .int 0])), (h3, .inl (cI, 180, .inl (fun _ => (-1))))] H := hP
  have hD : va_D A [(h2, .inl (cI, 60, .inl (upd (fun _ => 0) 0 (-1)))), (h0, .inr (1, [.ref h1, .ref g0, .ref g1, .ref g2, .ref g3, .ref g4, .ref g5, .int 4, .int 3, .int 0, .int (-1), .int 0])), (h1, .inr (7, [.ref g6, .ref h2, .ref g7, .ref g8, .ref g9, .ref g10, .ref h3, .ref g11, .ref g12, .int 1, .int 1, .int 0])), (h3, .inl (cI, 180, .inl (fun _ => (-1))))] := hD
  refine W.widen (k := 0) (n := 0) (Nat.le_of_ble_eq_true rfl) (Nat.le_of_ble_eq_true rfl) ?_
  refine pcn (b := 146) rfl ?_
  refine W.widen (k := 0) (n := 0) (Nat.le_of_ble_eq_true rfl) (Nat.le_of_ble_eq_true rfl) ?_
  have hP := hP.sub (ws' := [(h0, .inr (1, [.ref h1, .ref g0, .ref g1, .ref g2, .ref g3, .ref g4, .ref g5, .int 4, .int 3, .int 0, .int (-1), .int 0])), (h1, .inr (7, [.ref g6, .ref h2, .ref g7, .ref g8, .ref g9, .ref g10, .ref h3, .ref g11, .ref g12, .int 1, .int 1, .int 0])), (h2, .inl (cI, 60, .inl (upd (fun _ => 0) 0 (-1)))), (h3, .inl (cI, 180, .inl (fun _ => (-1))))]) [1, 2, 0, 3] rfl
  have hD := hD.sub (ws' := [(h0, .inr (1, [.ref h1, .ref g0, .ref g1, .ref g2, .ref g3, .ref g4, .ref g5, .int 4, .int 3, .int 0, .int (-1), .int 0])), (h1, .inr (7, [.ref g6, .ref h2, .ref g7, .ref g8, .ref g9, .ref g10, .ref h3, .ref g11, .ref g12, .int 1, .int 1, .int 0])), (h2, .inl (cI, 60, .inl (upd (fun _ => 0) 0 (-1)))), (h3, .inl (cI, 180, .inl (fun _ => (-1))))]) [1, 2, 0, 3] (by decide) rfl
  exact rtI hx hb hr hlocks hS hP hD ⟨rfl, rfl⟩ dX1_ofNode_146
