set_option maxHeartbeats 4000000 in
set_option maxRecDepth 100000 in
theorem c_X5_init_0 (l : Launch) (D : va_G) (cI cZ cB cJ : ClassId) (h0 g0 : Nat) : CtV l D (TT cI cZ cB cJ) yX5_init cX5_init 2 none 1 20 4 964 [.ref h0, .ref g0] [(h0, .inr (5, [.null, .null, .null, .null, .null, .int 0, .int 0, .int 0]))] (fun w1 => ∃ (q0 q1 q2 q3 : Nat), w1 = [(h0, .inr (5, [.ref g0, .ref q0, .ref q1, .ref q2, .ref q3, .int 0, .int 0, .int 0]))]) := by
  refine CtV.of (by decide +kernel) (Nat.le_of_ble_eq_true rfl) ?_
  intro p e s m below meth c A ls hx hb hr hml hown hts hnw hlocks hin hA hS hP hK hD hl
  have hown : s.vm.findClass RX5 = some m.cls := hown
  have hl : lv_has ls 2 [(0, .ref h0), (1, .ref g0)] := hl
  have hin : meth.name = "<init>" := hin
  refine lv_aload_n hx hb dX5_init_0 rfl (lv_at hl 0 rfl) ?_
  refine W.objInit hx hb hown (hts _ wm_34) (hts _ wm_27) (hts _ wm_28) rfl (by rw [hml]; exact hl.1) rfl dX5_init_1 (Nat.le_of_ble_eq_true rfl) (Nat.le_of_ble_eq_true rfl) ?_
  refine W.eq (g2 := F0 m 4 ls []) rfl ?_
  refine lv_aload_n hx hb dX5_init_4 rfl (lv_at hl 0 rfl) ?_
  refine lv_sipush (v := 241) hx hb dX5_init_5 (by decide +kernel) ?_
  refine n_newa (atype := .int) (ty := .int) (N2 := 241) hx hb (hts _ wm_62) rfl hK hP hD hS hA 0 rfl (fun _ _ => rfl) (fun _ => rfl) (by decide +kernel) (by decide +kernel) (by decide +kernel) (Nat.le_of_ble_eq_true rfl) (Nat.le_of_ble_eq_true rfl) dX5_init_8 (fun q0 H hP hD hS => ?_)
  have hP : va_P D vwCl [(h0, .inr (5, [.null, .null, .null, .null, .null, .int 0, .int 0, .int 0])), (q0, .inl (cI, 241, .inl (fun _ => 0)))] H := hP
  have hD : va_D A [(h0, .inr (5, [.null, .null, .null, .null, .null, .int 0, .int 0, .int 0])), (q0, .inl (cI, 241, .inl (fun _ => 0)))] := hD
  refine W.widen (k := 1) (n := 241) (Nat.le_of_ble_eq_true rfl) (Nat.le_of_ble_eq_true rfl) ?_
  refine va_putF (D := D) (ci := 5) (v := .ref q0) (ty := (.array .int)) (C := RX5) (T := TX5) (N := 8) hx hb hts inX5 tyX5 tyX5_ok nmX5 hown hK hP hD hS 0 rfl rfl 1 (by decide) (hts _ wm_36) (fun _ h9 => h9) rfl hin rfl (by decide +kernel) rfl rfl (Nat.le_of_ble_eq_true rfl) dX5_init_10 (fun H locs hP hD hS => ?_)
  have hP := hP.sub (ws' := [(h0, .inr (5, [.null, .ref q0, .null, .null, .null, .int 0, .int 0, .int 0]))]) [0] rfl
  have hD := hD.sub (ws' := [(h0, .inr (5, [.null, .ref q0, .null, .null, .null, .int 0, .int 0, .int 0]))]) [0] (by decide) rfl
  have hP : va_P D vwCl [(h0, .inr (5, [.null, .ref q0, .null, .null, .null, .int 0, .int 0, .int 0]))] H := hP
  have hD : va_D A [(h0, .inr (5, [.null, .ref q0, .null, .null, .null, .int 0, .int 0, .int 0]))] := hD
  refine lv_aload_n hx hb dX5_init_13 rfl (lv_at hl 0 rfl) ?_
  refine pcn (b := 14) rfl ?_
  refine lv_sipush (v := 241) hx hb dX5_init_14 (by decide +kernel) ?_
  refine n_newa (atype := .int) (ty := .int) (N2 := 241) hx hb (hts _ wm_62) rfl hK hP hD hS hA 0 rfl (fun _ _ => rfl) (fun _ => rfl) (by decide +kernel) (by decide +kernel) (by decide +kernel) (Nat.le_of_ble_eq_true rfl) (Nat.le_of_ble_eq_true rfl) dX5_init_17 (fun q1 H hP hD hS => ?_)
  have hP : va_P D vwCl [(h0, .inr (5, [.null, .ref q0, .null, .null, .null, .int 0, .int 0, .int 0])), (q1, .inl (cI, 241, .inl (fun _ => 0)))] H := hP
  have hD : va_D A [(h0, .inr (5, [.null, .ref q0, .null, .null, .null, .int 0, .int 0, .int 0])), (q1, .inl (cI, 241, .inl (fun _ => 0)))] := hD
  refine W.widen (k := 2) (n := 482) (Nat.le_of_ble_eq_true rfl) (Nat.le_of_ble_eq_true rfl) ?_
  refine va_putF (D := D) (ci := 5) (v := .ref q1) (ty := (.array .int)) (C := RX5) (T := TX5) (N := 8) hx hb hts inX5 tyX5 tyX5_ok nmX5 hown hK hP hD hS 0 rfl rfl 2 (by decide) (hts _ wm_37) (fun _ h9 => h9) rfl hin rfl (by decide +kernel) rfl rfl (Nat.le_of_ble_eq_true rfl) dX5_init_19 (fun H locs hP hD hS => ?_)
  have hP := hP.sub (ws' := [(h0, .inr (5, [.null, .ref q0, .ref q1, .null, .null, .int 0, .int 0, .int 0]))]) [0] rfl
  have hD := hD.sub (ws' := [(h0, .inr (5, [.null, .ref q0, .ref q1, .null, .null, .int 0, .int 0, .int 0]))]) [0] (by decide) rfl
  have hP : va_P D vwCl [(h0, .inr (5, [.null, .ref q0, .ref q1, .null, .null, .int 0, .int 0, .int 0]))] H := hP
  have hD : va_D A [(h0, .inr (5, [.null, .ref q0, .ref q1, .null, .null, .int 0, .int 0, .int 0]))] := hD
  refine lv_aload_n hx hb dX5_init_22 rfl (lv_at hl 0 rfl) ?_
  refine lv_sipush (v := 241) hx hb dX5_init_23 (by decide +kernel) ?_
  refine n_newa (atype := .int) (ty := .int) (N2 := 241) hx hb (hts _ wm_62) rfl hK hP hD hS hA 0 rfl (fun _ _ => rfl) (fun _ => rfl) (by decide +kernel) (by decide +kernel) (by decide +kernel) (Nat.le_of_ble_eq_true rfl) (Nat.le_of_ble_eq_true rfl) dX5_init_26 (fun q2 H hP hD hS => ?_)
  have hP : va_P D vwCl [(h0, .inr (5, [.null, .ref q0, .ref q1, .null, .null, .int 0, .int 0, .int 0])), (q2, .inl (cI, 241, .inl (fun _ => 0)))] H := hP
  have hD : va_D A [(h0, .inr (5, [.null, .ref q0, .ref q1, .null, .null, .int 0, .int 0, .int 0])), (q2, .inl (cI, 241, .inl (fun _ => 0)))] := hD
  refine W.widen (k := 3) (n := 723) (Nat.le_of_ble_eq_true rfl) (Nat.le_of_ble_eq_true rfl) ?_
  refine va_putF (D := D) (ci := 5) (v := .ref q2) (ty := (.array .int)) (C := RX5) (T := TX5) (N := 8) hx hb hts inX5 tyX5 tyX5_ok nmX5 hown hK hP hD hS 0 rfl rfl 3 (by decide) (hts _ wm_38) (fun _ h9 => h9) rfl hin rfl (by decide +kernel) rfl rfl (Nat.le_of_ble_eq_true rfl) dX5_init_28 (fun H locs hP hD hS => ?_)
  have hP := hP.sub (ws' := [(h0, .inr (5, [.null, .ref q0, .ref q1, .ref q2, .null, .int 0, .int 0, .int 0]))]) [0] rfl
  have hD := hD.sub (ws' := [(h0, .inr (5, [.null, .ref q0, .ref q1, .ref q2, .null, .int 0, .int 0, .int 0]))]) [0] (by decide) rfl
  have hP : va_P D vwCl [(h0, .inr (5, [.null, .ref q0, .ref q1, .ref q2, .null, .int 0, .int 0, .int 0]))] H := hP
  have hD : va_D A [(h0, .inr (5, [.null, .ref q0, .ref q1, .ref q2, .null, .int 0, .int 0, .int 0]))] := hD
  refine lv_aload_n hx hb dX5_init_31 rfl (lv_at hl 0 rfl) ?_
  refine pcn (b := 32) rfl ?_
  refine lv_sipush (v := 241) hx hb dX5_init_32 (by decide +kernel) ?_
  refine n_newa (atype := .int) (ty := .int) (N2 := 241) hx hb (hts _ wm_62) rfl hK hP hD hS hA 0 rfl (fun _ _ => rfl) (fun _ => rfl) (by decide +kernel) (by decide +kernel) (by decide +kernel) (Nat.le_of_ble_eq_true rfl) (Nat.le_of_ble_eq_true rfl) dX5_init_35 (fun q3 H hP hD hS => ?_)
  have hP : va_P D vwCl [(h0, .inr (5, [.null, .ref q0, .ref q1, .ref q2, .null, .int 0, .int 0, .int 0])), (q3, .inl (cI, 241, .inl (fun _ => 0)))] H := hP
  have hD : va_D A [(h0, .inr (5, [.null, .ref q0, .ref q1, .ref q2, .null, .int 0, .int 0, .int 0])), (q3, .inl (cI, 241, .inl (fun _ => 0)))] := hD
  refine W.widen (k := 4) (n := 964) (Nat.le_of_ble_eq_true rfl) (Nat.le_of_ble_eq_true rfl) ?_
  refine va_putF (D := D) (ci := 5) (v := .ref q3) (ty := (.array .int)) (C := RX5) (T := TX5) (N := 8) hx hb hts inX5 tyX5 tyX5_ok nmX5 hown hK hP hD hS 0 rfl rfl 4 (by decide) (hts _ wm_39) (fun _ h9 => h9) rfl hin rfl (by decide +kernel) rfl rfl (Nat.le_of_ble_eq_true rfl) dX5_init_37 (fun H locs hP hD hS => ?_)
  have hP := hP.sub (ws' := [(h0, .inr (5, [.null, .ref q0, .ref q1, .ref q2, .ref q3, .int 0, .int 0, .int 0]))]) [0] rfl
  have hD := hD.sub (ws' := [(h0, .inr (5, [.null, .ref q0, .ref q1, .ref q2, .ref q3, .int 0, .int 0, .int 0]))]) [0] (by decide) rfl
  have hP : va_P D vwCl [(h0, .inr (5, [.null, .ref q0, .ref q1, .ref q2, .ref q3, .int 0, .int 0, .int 0]))] H := hP
  have hD : va_D A [(h0, .inr (5, [.null, .ref q0, .ref q1, .ref q2, .ref q3, .int 0, .int 0, .int 0]))] := hD
  refine lv_aload_n hx hb dX5_init_40 rfl (lv_at hl 0 rfl) ?_
  refine lv_aload_n hx hb dX5_init_41 rfl (lv_at hl 1 rfl) ?_
  refine va_putF (D := D) (ci := 5) (v := .ref g0) (ty := (.array .int)) (C := RX5) (T := TX5) (N := 8) hx hb hts inX5 tyX5 tyX5_ok nmX5 hown hK hP hD hS 0 rfl rfl 0 (by decide) (hts _ wm_35) (fun _ h9 => h9) rfl hin rfl (by decide +kernel) rfl rfl (Nat.le_of_ble_eq_true rfl) dX5_init_42 (fun H locs hP hD hS => ?_)
  have hP : va_P D vwCl [(h0, .inr (5, [.ref g0, .ref q0, .ref q1, .ref q2, .ref q3, .int 0, .int 0, .int 0]))] H := hP
  have hD : va_D A [(h0, .inr (5, [.ref g0, .ref q0, .ref q1, .ref q2, .ref q3, .int 0, .int 0, .int 0]))] := hD
  refine W.widen (k := 4) (n := 964) (Nat.le_of_ble_eq_true rfl) (Nat.le_of_ble_eq_true rfl) ?_
  exact rtV hx hb hr hlocks hS hP hD ⟨q0, q1, q2, q3, rfl⟩ dX5_init_45

set_option maxHeartbeats 4000000 in
set_option maxRecDepth 100000 in
theorem c_X7_init_0 (l : Launch) (D : va_G) (cI cZ cB cJ : ClassId) (h0 : Nat) : CtV l D (TT cI cZ cB cJ) yX7_init cX7_init 1 none 1 20 9 612 [.ref h0] [(h0, .inr (7, [.null, .null, .null, .null, .null, .null, .null, .null, .null, .int 0, .int 0, .int 0]))] (fun w1 => ∃ (q0 q1 q2 q3 q4 q5 q6 q7 q8 : Nat), w1 = [(h0, .inr (7, [.ref q0, .ref q1, .ref q2, .ref q3, .ref q4, .ref q5, .ref q6, .ref q7, .ref q8, .int 0, .int 0, .int 0])), (q0, .inl (cI, 60, .inl (fun _ => 0))), (q1, .inl (cI, 60, .inl (fun _ => 0))), (q2, .inl (cI, 60, .inl (fun _ => 0))), (q3, .inl (cI, 60, .inl (fun _ => 0))), (q4, .inl (cI, 60, .inl (fun _ => 0))), (q5, .inl (cI, 60, .inl (fun _ => 0))), (q6, .inl (cI, 180, .inl (fun _ => 0))), (q7, .inl (cI, 60, .inl (fun _ => 0)))]) := by
  refine CtV.of (by decide +kernel) (Nat.le_of_ble_eq_true rfl) ?_
  intro p e s m below meth c A ls hx hb hr hml hown hts hnw hlocks hin hA hS hP hK hD hl
  have hown : s.vm.findClass RX7 = some m.cls := hown
  have hl : lv_has ls 1 [(0, .ref h0)] := hl
  have hin : meth.name = "<init>" := hin
  refine lv_aload_n hx hb dX7_init_0 rfl (lv_at hl 0 rfl) ?_
  refine W.objInit hx hb hown (hts _ wm_74) (hts _ wm_27) (hts _ wm_28) rfl (by rw [hml]; exact hl.1) rfl dX7_init_1 (Nat.le_of_ble_eq_true rfl) (Nat.le_of_ble_eq_true rfl) ?_
  refine W.eq (g2 := F0 m 4 ls []) rfl ?_
  refine lv_aload_n hx hb dX7_init_4 rfl (lv_at hl 0 rfl) ?_
  refine lv_bipush (v := 60) hx hb dX7_init_5 (by decide +kernel) ?_
  refine n_newa (atype := .int) (ty := .int) (N2 := 60) hx hb (hts _ wm_62) rfl hK hP hD hS hA 0 rfl (fun _ _ => rfl) (fun _ => rfl) (by decide +kernel) (by decide +kernel) (by decide +kernel) (Nat.le_of_ble_eq_true rfl) (Nat.le_of_ble_eq_true rfl) dX7_init_7 (fun q0 H hP hD hS => ?_)
  have hP : va_P D vwCl [(h0, .inr (7, [.null, .null, .null, .null, .null, .null, .null, .null, .null, .int 0, .int 0, .int 0])), (q0, .inl (cI, 60, .inl (fun _ => 0)))] H := hP
  have hD : va_D A [(h0, .inr (7, [.null, .null, .null, .null, .null, .null, .null, .null, .null, .int 0, .int 0, .int 0])), (q0, .inl (cI, 60, .inl (fun _ => 0)))] := hD
  refine W.widen (k := 1) (n := 60) (Nat.le_of_ble_eq_true rfl) (Nat.le_of_ble_eq_true rfl) ?_
  refine va_putF (D := D) (ci := 7) (v := .ref q0) (ty := (.array .int)) (C := RX7) (T := TX7) (N := 12) hx hb hts inX7 tyX7 tyX7_ok nmX7 hown hK hP hD hS 0 rfl rfl 0 (by decide) (hts _ wm_75) (fun _ h9 => h9) rfl hin rfl (by decide +kernel) rfl rfl (Nat.le_of_ble_eq_true rfl) dX7_init_9 (fun H locs hP hD hS => ?_)
  have hP : va_P D vwCl [(h0, .inr (7, [.ref q0, .null, .null, .null, .null, .null, .null, .null, .null, .int 0, .int 0, .int 0])), (q0, .inl (cI, 60, .inl (fun _ => 0)))] H := hP
  have hD : va_D A [(h0, .inr (7, [.ref q0, .null, .null, .null, .null, .null, .null, .null, .null, .int 0, .int 0, .int 0])), (q0, .inl (cI, 60, .inl (fun _ => 0)))] := hD
  refine lv_aload_n hx hb dX7_init_12 rfl (lv_at hl 0 rfl) ?_
  refine pcn (b := 13) rfl ?_
  refine lv_bipush (v := 60) hx hb dX7_init_13 (by decide +kernel) ?_
  refine n_newa (atype := .int) (ty := .int) (N2 := 60) hx hb (hts _ wm_62) rfl hK hP hD hS hA 0 rfl (fun _ _ => rfl) (fun _ => rfl) (by decide +kernel) (by decide +kernel) (by decide +kernel) (Nat.le_of_ble_eq_true rfl) (Nat.le_of_ble_eq_true rfl) dX7_init_15 (fun q1 H hP hD hS => ?_)
  have hP : va_P D vwCl [(h0, .inr (7, [.ref q0, .null, .null, .null, .null, .null, .null, .null, .null, .int 0, .int 0, .int 0])), (q0, .inl (cI, 60, .inl (fun _ => 0))), (q1, .inl (cI, 60, .inl (fun _ => 0)))] H := hP
  have hD : va_D A [(h0, .inr (7, [.ref q0, .null, .null, .null, .null, .null, .null, .null, .null, .int 0, .int 0, .int 0])), (q0, .inl (cI, 60, .inl (fun _ => 0))), (q1, .inl (cI, 60, .inl (fun _ => 0)))] := hD
  refine W.widen (k := 2) (n := 120) (Nat.le_of_ble_eq_true rfl) (Nat.le_of_ble_eq_true rfl) ?_
  refine va_putF (D := D) (ci := 7) (v := .ref q1) (ty := (.array .int)) (C := RX7) (T := TX7) (N := 12) hx hb hts inX7 tyX7 tyX7_ok nmX7 hown hK hP hD hS 0 rfl rfl 1 (by decide) (hts _ wm_80) (fun _ h9 => h9) rfl hin rfl (by decide +kernel) rfl rfl (Nat.le_of_ble_eq_true rfl) dX7_init_17 (fun H locs hP hD hS => ?_)
  have hP : va_P D vwCl [(h0, .inr (7, [.ref q0, .ref q1, .null, .null, .null, .null, .null, .null, .null, .int 0, .int 0, .int 0])), (q0, .inl (cI, 60, .inl (fun _ => 0))), (q1, .inl (cI, 60, .inl (fun _ => 0)))] H := hP
  have hD : va_D A [(h0, .inr (7, [.ref q0, .ref q1, .null, .null, .null, .null, .null, .null, .null, .int 0, .int 0, .int 0])), (q0, .inl (cI, 60, .inl (fun _ => 0))), (q1, .inl (cI, 60, .inl (fun _ => 0)))] := hD
  refine lv_aload_n hx hb dX7_init_20 rfl (lv_at hl 0 rfl) ?_
  refine lv_bipush (v := 60) hx hb dX7_init_21 (by decide +kernel) ?_
  refine n_newa (atype := .int) (ty := .int) (N2 := 60) hx hb (hts _ wm_62) rfl hK hP hD hS hA 0 rfl (fun _ _ => rfl) (fun _ => rfl) (by decide +kernel) (by decide +kernel) (by decide +kernel) (Nat.le_of_ble_eq_true rfl) (Nat.le_of_ble_eq_true rfl) dX7_init_23 (fun q2 H hP hD hS => ?_)
  have hP : va_P D vwCl [(h0, .inr (7, [.ref q0, .ref q1, .null, .null, .null, .null, .null, .null, .null, .int 0, .int 0, .int 0])), (q0, .inl (cI, 60, .inl (fun _ => 0))), (q1, .inl (cI, 60, .inl (fun _ => 0))), (q2, .inl (cI, 60, .inl (fun _ => 0)))] H := hP
  have hD : va_D A [(h0, .inr (7, [.ref q0, .ref q1, .null, .null, .null, .null, .null, .null, .null, .int 0, .int 0, .int 0])), (q0, .inl (cI, 60, .inl (fun _ => 0))), (q1, .inl (cI, 60, .inl (fun _ => 0))), (q2, .inl (cI, 60, .inl (fun _ => 0)))] := hD
  refine W.widen (k := 3) (n := 180) (Nat.le_of_ble_eq_true rfl) (Nat.le_of_ble_eq_true rfl) ?_
  refine va_putF (D := D) (ci := 7) (v := .ref q2) (ty := (.array .int)) (C := RX7) (T := TX7) (N := 12) hx hb hts inX7 tyX7 tyX7_ok nmX7 hown hK hP hD hS 0 rfl rfl 2 (by decide) (hts _ wm_82) (fun _ h9 => h9) rfl hin rfl (by decide +kernel) rfl rfl (Nat.le_of_ble_eq_true rfl) dX7_init_25 (fun H locs hP hD hS => ?_)
  have hP : va_P D vwCl [(h0, .inr (7, [.ref q0, .ref q1, .ref q2, .null, .null, .null, .null, .null, .null, .int 0, .int 0, .int 0])), (q0, .inl (cI, 60, .inl (fun _ => 0))), (q1, .inl (cI, 60, .inl (fun _ => 0))), (q2, .inl (cI, 60, .inl (fun _ => 0)))] H := hP
  have hD : va_D A [(h0, .inr (7, [.ref q0, .ref q1, .ref q2, .null, .null, .null, .null, .null, .null, .int 0, .int 0, .int 0])), (q0, .inl (cI, 60, .inl (fun _ => 0))), (q1, .inl (cI, 60, .inl (fun _ => 0))), (q2, .inl (cI, 60, .inl (fun _ => 0)))] := hD
  refine lv_aload_n hx hb dX7_init_28 rfl (lv_at hl 0 rfl) ?_
  refine pcn (b := 29) rfl ?_
  refine lv_bipush (v := 60) hx hb dX7_init_29 (by decide +kernel) ?_
  refine n_newa (atype := .int) (ty := .int) (N2 := 60) hx hb (hts _ wm_62) rfl hK hP hD hS hA 0 rfl (fun _ _ => rfl) (fun _ => rfl) (by decide +kernel) (by decide +kernel) (by decide +kernel) (Nat.le_of_ble_eq_true rfl) (Nat.le_of_ble_eq_true rfl) dX7_init_31 (fun q3 H hP hD hS => ?_)
  have hP : va_P D vwCl [(h0, .inr (7, [.ref q0, .ref q1, .ref q2, .null, .null, .null, .null, .null, .null, .int 0, .int 0, .int 0])), (q0, .inl (cI, 60, .inl (fun _ => 0))), (q1, .inl (cI, 60, .inl (fun _ => 0))), (q2, .inl (cI, 60, .inl (fun _ => 0))), (q3, .inl (cI, 60, .inl (fun _ => 0)))] H := hP
  have hD : va_D A [(h0, .inr (7, [.ref q0, .ref q1, .ref q2, .null, .null, .null, .null, .null, .null, .int 0, .int 0, .int 0])), (q0, .inl (cI, 60, .inl (fun _ => 0))), (q1, .inl (cI, 60, .inl (fun _ => 0))), (q2, .inl (cI, 60, .inl (fun _ => 0))), (q3, .inl (cI, 60, .inl (fun _ => 0)))] := hD
  refine W.widen (k := 4) (n := 240) (Nat.le_of_ble_eq_true rfl) (Nat.le_of_ble_eq_true rfl) ?_
  refine va_putF (D := D) (ci := 7) (v := .ref q3) (ty := (.array .int)) (C := RX7) (T := TX7) (N := 12) hx hb hts inX7 tyX7 tyX7_ok nmX7 hown hK hP hD hS 0 rfl rfl 3 (by decide) (hts _ wm_83) (fun _ h9 => h9) rfl hin rfl (by decide +kernel) rfl rfl (Nat.le_of_ble_eq_true rfl) dX7_init_33 (fun H locs hP hD hS => ?_)
  have hP : va_P D vwCl [(h0, .inr (7, [.ref q0, .ref q1, .ref q2, .ref q3, .null, .null, .null, .null, .null, .int 0, .int 0, .int 0])), (q0, .inl (cI, 60, .inl (fun _ => 0))), (q1, .inl (cI, 60, .inl (fun _ => 0))), (q2, .inl (cI, 60, .inl (fun _ => 0))), (q3, .inl (cI, 60, .inl (fun _ => 0)))] H := hP
  have hD : va_D A [(h0, .inr (7, [.ref q0, .ref q1, .ref q2, .ref q3, .null, .null, .null, .null, .null, .int 0, .int 0, .int 0])), (q0, .inl (cI, 60, .inl (fun _ => 0))), (q1, .inl (cI, 60, .inl (fun _ => 0))), (q2, .inl (cI, 60, .inl (fun _ => 0))), (q3, .inl (cI, 60, .inl (fun _ => 0)))] := hD
  refine lv_aload_n hx hb dX7_init_36 rfl (lv_at hl 0 rfl) ?_
  refine lv_bipush (v := 60) hx hb dX7_init_37 (by decide +kernel) ?_
  refine n_newa (atype := .int) (ty := .int) (N2 := 60) hx hb (hts _ wm_62) rfl hK hP hD hS hA 0 rfl (fun _ _ => rfl) (fun _ => rfl) (by decide +kernel) (by decide +kernel) (by decide +kernel) (Nat.le_of_ble_eq_true rfl) (Nat.le_of_ble_eq_true rfl) dX7_init_39 (fun q4 H hP hD hS => ?_)
  have hP : va_P D vwCl [(h0, .inr (7, [.ref q0, .ref q1, .ref q2, .ref q3, .null, .null, .null, .null, .null, .int 0, .int 0, .int 0])), (q0, .inl (cI, 60, .inl (fun _ => 0))), (q1, .inl (cI, 60, .inl (fun _ => 0))), (q2, .inl (cI, 60, .inl (fun _ => 0))), (q3, .inl (cI, 60, .inl (fun _ => 0))), (q4, .inl (cI, 60, .inl (fun _ => 0)))] H := hP
  have hD : va_D A [(h0, .inr (7, [.ref q0, .ref q1, .ref q2, .ref q3, .null, .null, .null, .null, .null, .int 0, .int 0, .int 0])), (q0, .inl (cI, 60, .inl (fun _ => 0))), (q1, .inl (cI, 60, .inl (fun _ => 0))), (q2, .inl (cI, 60, .inl (fun _ => 0))), (q3, .inl (cI, 60, .inl (fun _ => 0))), (q4, .inl (cI, 60, .inl (fun _ => 0)))] := hD
  refine W.widen (k := 5) (n := 300) (Nat.le_of_ble_eq_true rfl) (Nat.le_of_ble_eq_true rfl) ?_
  refine va_putF (D := D) (ci := 7) (v := .ref q4) (ty := (.array .int)) (C := RX7) (T := TX7) (N := 12) hx hb hts inX7 tyX7 tyX7_ok nmX7 hown hK hP hD hS 0 rfl rfl 4 (by decide) (hts _ wm_87) (fun _ h9 => h9) rfl hin rfl (by decide +kernel) rfl rfl (Nat.le_of_ble_eq_true rfl) dX7_init_41 (fun H locs hP hD hS => ?_)
  have hP : va_P D vwCl [(h0, .inr (7, [.ref q0, .ref q1, .ref q2, .ref q3, .ref q4, .null, .null, .null, .null, .int 0, .int 0, .int 0])), (q0, .inl (cI, 60, .inl (fun _ => 0))), (q1, .inl (cI, 60, .inl (fun _ => 0))), (q2, .inl (cI, 60, .inl (fun _ => 0))), (q3, .inl (cI, 60, .inl (fun _ => 0))), (q4, .inl (cI, 60, .inl (fun _ => 0)))] H := hP
  have hD : va_D A [(h0, .inr (7, [.ref q0, .ref q1, .ref q2, .ref q3, .ref q4, .null, .null, .null, .null, .int 0, .int 0, .int 0])), (q0, .inl (cI, 60, .inl (fun _ => 0))), (q1, .inl (cI, 60, .inl (fun _ => 0))), (q2, .inl (cI, 60, .inl (fun _ => 0))), (q3, .inl (cI, 60, .inl (fun _ => 0))), (q4, .inl (cI, 60, .inl (fun _ => 0)))] := hD
  refine lv_aload_n hx hb dX7_init_44 rfl (lv_at hl 0 rfl) ?_
  refine pcn (b := 45) rfl ?_
  refine lv_bipush (v := 60) hx hb dX7_init_45 (by decide +kernel) ?_
  refine n_newa (atype := .int) (ty := .int) (N2 := 60) hx hb (hts _ wm_62) rfl hK hP hD hS hA 0 rfl (fun _ _ => rfl) (fun _ => rfl) (by decide +kernel) (by decide +kernel) (by decide +kernel) (Nat.le_of_ble_eq_true rfl) (Nat.le_of_ble_eq_true rfl) dX7_init_47 (fun q5 H hP hD hS => ?_)
  have hP : va_P D vwCl [(h0, .inr (7, [.ref q0, .ref q1, .ref q2, .ref q3, .ref q4, .null, .null, .null, .null, .int 0, .int 0, .int 0])), (q0, .inl (cI, 60, .inl (fun _ => 0))), (q1, .inl (cI, 60, .inl (fun _ => 0))), (q2, .inl (cI, 60, .inl (fun _ => 0))), (q3, .inl (cI, 60, .inl (fun _ => 0))), (q4, .inl (cI, 60, .inl (fun _ => 0))), (q5, .inl (cI, 60, .inl (fun _ => 0)))] H := hP
  have hD : va_D A [(h0, .inr (7, [.ref q0, .ref q1, .ref q2, .ref q3, .ref q4, .null, .null, .null, .null, .int 0, .int 0, .int 0])), (q0, .inl (cI, 60, .inl (fun _ => 0))), (q1, .inl (cI, 60, .inl (fun _ => 0))), (q2, .inl (cI, 60, .inl (fun _ => 0))), (q3, .inl (cI, 60, .inl (fun _ => 0))), (q4, .inl (cI, 60, .inl (fun _ => 0))), (q5, .inl (cI, 60, .inl (fun _ => 0)))] := hD
  refine W.widen (k := 6) (n := 360) (Nat.le_of_ble_eq_true rfl) (Nat.le_of_ble_eq_true rfl) ?_
  refine va_putF (D := D) (ci := 7) (v := .ref q5) (ty := (.array .int)) (C := RX7) (T := TX7) (N := 12) hx hb hts inX7 tyX7 tyX7_ok nmX7 hown hK hP hD hS 0 rfl rfl 5 (by decide) (hts _ wm_90) (fun _ h9 => h9) rfl hin rfl (by decide +kernel) rfl rfl (Nat.le_of_ble_eq_true rfl) dX7_init_49 (fun H locs hP hD hS => ?_)
  have hP : va_P D vwCl [(h0, .inr (7, [.ref q0, .ref q1, .ref q2, .ref q3, .ref q4, .ref q5, .null, .null, .null, .int 0, .int 0, .int 0])), (q0, .inl (cI, 60, .inl (fun _ => 0))), (q1, .inl (cI, 60, .inl (fun _ => 0))), (q2, .inl (cI, 60, .inl (fun _ => 0))), (q3, .inl (cI, 60, .inl (fun _ => 0))), (q4, .inl (cI, 60, .inl (fun _ => 0))), (q5, .inl (cI, 60, .inl (fun _ => 0)))] H := hP
  have hD : va_D A [(h0, .inr (7, [.ref q0, .ref q1, .ref q2, .ref q3, .ref q4, .ref q5, .null, .null, .null, .int 0, .int 0, .int 0])), (q0, .inl (cI, 60, .inl (fun _ => 0))), (q1, .inl (cI, 60, .inl (fun _ => 0))), (q2, .inl (cI, 60, .inl (fun _ => 0))), (q3, .inl (cI, 60, .inl (fun _ => 0))), (q4, .inl (cI, 60, .inl (fun _ => 0))), (q5, .inl (cI, 60, .inl (fun _ => 0)))] := hD
  refine lv_aload_n hx hb dX7_init_52 rfl (lv_at hl 0 rfl) ?_
  refine lv_sipush (v := 180) hx hb dX7_init_53 (by decide +kernel) ?_
  refine n_newa (atype := .int) (ty := .int) (N2 := 180) hx hb (hts _ wm_62) rfl hK hP hD hS hA 0 rfl (fun _ _ => rfl) (fun _ => rfl) (by decide +kernel) (by decide +kernel) (by decide +kernel) (Nat.le_of_ble_eq_true rfl) (Nat.le_of_ble_eq_true rfl) dX7_init_56 (fun q6 H hP hD hS => ?_)
  have hP : va_P D vwCl [(h0, .inr (7, [.ref q0, .ref q1, .ref q2, .ref q3, .ref q4, .ref q5, .null, .null, .null, .int 0, .int 0, .int 0])), (q0, .inl (cI, 60, .inl (fun _ => 0))), (q1, .inl (cI, 60, .inl (fun _ => 0))), (q2, .inl (cI, 60, .inl (fun _ => 0))), (q3, .inl (cI, 60, .inl (fun _ => 0))), (q4, .inl (cI, 60, .inl (fun _ => 0))), (q5, .inl (cI, 60, .inl (fun _ => 0))), (q6, .inl (cI, 180, .inl (fun _ => 0)))] H := hP
  have hD : va_D A [(h0, .inr (7, [.ref q0, .ref q1, .ref q2, .ref q3, .ref q4, .ref q5, .null, .null, .null, .int 0, .int 0, .int 0])), (q0, .inl (cI, 60, .inl (fun _ => 0))), (q1, .inl (cI, 60, .inl (fun _ => 0))), (q2, .inl (cI, 60, .inl (fun _ => 0))), (q3, .inl (cI, 60, .inl (fun _ => 0))), (q4, .inl (cI, 60, .inl (fun _ => 0))), (q5, .inl (cI, 60, .inl (fun _ => 0))), (q6, .inl (cI, 180, .inl (fun _ => 0)))] := hD
  refine W.widen (k := 7) (n := 540) (Nat.le_of_ble_eq_true rfl) (Nat.le_of_ble_eq_true rfl) ?_
  refine va_putF (D := D) (ci := 7) (v := .ref q6) (ty := (.array .int)) (C := RX7) (T := TX7) (N := 12) hx hb hts inX7 tyX7 tyX7_ok nmX7 hown hK hP hD hS 0 rfl rfl 6 (by decide) (hts _ wm_92) (fun _ h9 => h9) rfl hin rfl (by decide +kernel) rfl rfl (Nat.le_of_ble_eq_true rfl) dX7_init_58 (fun H locs hP hD hS => ?_)
  have hP : va_P D vwCl [(h0, .inr (7, [.ref q0, .ref q1, .ref q2, .ref q3, .ref q4, .ref q5, .ref q6, .null, .null, .int 0, .int 0, .int 0])), (q0, .inl (cI, 60, .inl (fun _ => 0))), (q1, .inl (cI, 60, .inl (fun _ => 0))), (q2, .inl (cI, 60, .inl (fun _ => 0))), (q3, .inl (cI, 60, .inl (fun _ => 0))), (q4, .inl (cI, 60, .inl (fun _ => 0))), (q5, .inl (cI, 60, .inl (fun _ => 0))), (q6, .inl (cI, 180, .inl (fun _ => 0)))] H := hP
  have hD : va_D A [(h0, .inr (7, [.ref q0, .ref q1, .ref q2, .ref q3, .ref q4, .ref q5, .ref q6, .null, .null, .int 0, .int 0, .int 0])), (q0, .inl (cI, 60, .inl (fun _ => 0))), (q1, .inl (cI, 60, .inl (fun _ => 0))), (q2, .inl (cI, 60, .inl (fun _ => 0))), (q3, .inl (cI, 60, .inl (fun _ => 0))), (q4, .inl (cI, 60, .inl (fun _ => 0))), (q5, .inl (cI, 60, .inl (fun _ => 0))), (q6, .inl (cI, 180, .inl (fun _ => 0)))] := hD
  refine lv_aload_n hx hb dX7_init_61 rfl (lv_at hl 0 rfl) ?_
  refine pcn (b := 62) rfl ?_
  refine lv_bipush (v := 60) hx hb dX7_init_62 (by decide +kernel) ?_
  refine n_newa (atype := .int) (ty := .int) (N2 := 60) hx hb (hts _ wm_62) rfl hK hP hD hS hA 0 rfl (fun _ _ => rfl) (fun _ => rfl) (by decide +kernel) (by decide +kernel) (by decide +kernel) (Nat.le_of_ble_eq_true rfl) (Nat.le_of_ble_eq_true rfl) dX7_init_64 (fun q7 H hP hD hS => ?_)
  have hP : va_P D vwCl [(h0, .inr (7, [.ref q0, .ref q1, .ref q2, .ref q3, .ref q4, .ref q5, .ref q6, .null, .null, .int 0, .int 0, .int 0])), (q0, .inl (cI, 60, .inl (fun _ => 0))), (q1, .inl (cI, 60, .inl (fun _ => 0))), (q2, .inl (cI, 60, .inl (fun _ => 0))), (q3, .inl (cI, 60, .inl (fun _ => 0))), (q4, .inl (cI, 60, .inl (fun _ => 0))), (q5, .inl (cI, 60, .inl (fun _ => 0))), (q6, .inl (cI, 180, .inl (fun _ => 0))), (q7, .inl (cI, 60, .inl (fun _ => 0)))] H := hP
  have hD : va_D A [(h0, .inr (7, [.ref q0, .ref q1, .ref q2, .ref q3, .ref q4, .ref q5, .ref q6, .null, .null, .int 0, .int 0, .int 0])), (q0, .inl (cI, 60, .inl (fun _ => 0))), (q1, .inl (cI, 60, .inl (fun _ => 0))), (q2, .inl (cI, 60, .inl (fun _ => 0))), (q3, .inl (cI, 60, .inl (fun _ => 0))), (q4, .inl (cI, 60, .inl (fun _ => 0))), (q5, .inl (cI, 60, .inl (fun _ => 0))), (q6, .inl (cI, 180, .inl (fun _ => 0))), (q7, .inl (cI, 60, .inl (fun _ => 0)))] := hD
  refine W.widen (k := 8) (n := 600) (Nat.le_of_ble_eq_true rfl) (Nat.le_of_ble_eq_true rfl) ?_
  refine va_putF (D := D) (ci := 7) (v := .ref q7) (ty := (.array .int)) (C := RX7) (T := TX7) (N := 12) hx hb hts inX7 tyX7 tyX7_ok nmX7 hown hK hP hD hS 0 rfl rfl 7 (by decide) (hts _ wm_93) (fun _ h9 => h9) rfl hin rfl (by decide +kernel) rfl rfl (Nat.le_of_ble_eq_true rfl) dX7_init_66 (fun H locs hP hD hS => ?_)
  have hP : va_P D vwCl [(h0, .inr (7, [.ref q0, .ref q1, .ref q2, .ref q3, .ref q4, .ref q5, .ref q6, .ref q7, .null, .int 0, .int 0, .int 0])), (q0, .inl (cI, 60, .inl (fun _ => 0))), (q1, .inl (cI, 60, .inl (fun _ => 0))), (q2, .inl (cI, 60, .inl (fun _ => 0))), (q3, .inl (cI, 60, .inl (fun _ => 0))), (q4, .inl (cI, 60, .inl (fun _ => 0))), (q5, .inl (cI, 60, .inl (fun _ => 0))), (q6, .inl (cI, 180, .inl (fun _ => 0))), (q7, .inl (cI, 60, .inl (fun _ => 0)))] H := hP
  have hD : va_D A [(h0, .inr (7, [.ref q0, .ref q1, .ref q2, .ref q3, .ref q4, .ref q5, .ref q6, .ref q7, .null, .int 0, .int 0, .int 0])), (q0, .inl (cI, 60, .inl (fun _ => 0))), (q1, .inl (cI, 60, .inl (fun _ => 0))), (q2, .inl (cI, 60, .inl (fun _ => 0))), (q3, .inl (cI, 60, .inl (fun _ => 0))), (q4, .inl (cI, 60, .inl (fun _ => 0))), (q5, .inl (cI, 60, .inl (fun _ => 0))), (q6, .inl (cI, 180, .inl (fun _ => 0))), (q7, .inl (cI, 60, .inl (fun _ => 0)))] := hD
  refine lv_aload_n hx hb dX7_init_69 rfl (lv_at hl 0 rfl) ?_
  refine lv_bipush (v := 12) hx hb dX7_init_70 (by decide +kernel) ?_
  refine n_newa (atype := .int) (ty := .int) (N2 := 12) hx hb (hts _ wm_62) rfl hK hP hD hS hA 0 rfl (fun _ _ => rfl) (fun _ => rfl) (by decide +kernel) (by decide +kernel) (by decide +kernel) (Nat.le_of_ble_eq_true rfl) (Nat.le_of_ble_eq_true rfl) dX7_init_72 (fun q8 H hP hD hS => ?_)
  have hP : va_P D vwCl [(h0, .inr (7, [.ref q0, .ref q1, .ref q2, .ref q3, .ref q4, .ref q5, .ref q6, .ref q7, .null, .int 0, .int 0, .int 0])), (q0, .inl (cI, 60, .inl (fun _ => 0))), (q1, .inl (cI, 60, .inl (fun _ => 0))), (q2, .inl (cI, 60, .inl (fun _ => 0))), (q3, .inl (cI, 60, .inl (fun _ => 0))), (q4, .inl (cI, 60, .inl (fun _ => 0))), (q5, .inl (cI, 60, .inl (fun _ => 0))), (q6, .inl (cI, 180, .inl (fun _ => 0))), (q7, .inl (cI, 60, .inl (fun _ => 0))), (q8, .inl (cI, 12, .inl (fun _ => 0)))] H := hP
  have hD : va_D A [(h0, .inr (7, [.ref q0, .ref q1, .ref q2, .ref q3, .ref q4, .ref q5, .ref q6, .ref q7, .null, .int 0, .int 0, .int 0])), (q0, .inl (cI, 60, .inl (fun _ => 0))), (q1, .inl (cI, 60, .inl (fun _ => 0))), (q2, .inl (cI, 60, .inl (fun _ => 0))), (q3, .inl (cI, 60, .inl (fun _ => 0))), (q4, .inl (cI, 60, .inl (fun _ => 0))), (q5, .inl (cI, 60, .inl (fun _ => 0))), (q6, .inl (cI, 180, .inl (fun _ => 0))), (q7, .inl (cI, 60, .inl (fun _ => 0))), (q8, .inl (cI, 12, .inl (fun _ => 0)))] := hD
  refine W.widen (k := 9) (n := 612) (Nat.le_of_ble_eq_true rfl) (Nat.le_of_ble_eq_true rfl) ?_
  refine va_putF (D := D) (ci := 7) (v := .ref q8) (ty := (.array .int)) (C := RX7) (T := TX7) (N := 12) hx hb hts inX7 tyX7 tyX7_ok nmX7 hown hK hP hD hS 0 rfl rfl 8 (by decide) (hts _ wm_95) (fun _ h9 => h9) rfl hin rfl (by decide +kernel) rfl rfl (Nat.le_of_ble_eq_true rfl) dX7_init_74 (fun H locs hP hD hS => ?_)
  have hP := hP.sub (ws' := [(h0, .inr (7, [.ref q0, .ref q1, .ref q2, .ref q3, .ref q4, .ref q5, .ref q6, .ref q7, .ref q8, .int 0, .int 0, .int 0])), (q0, .inl (cI, 60, .inl (fun _ => 0))), (q1, .inl (cI, 60, .inl (fun _ => 0))), (q2, .inl (cI, 60, .inl (fun _ => 0))), (q3, .inl (cI, 60, .inl (fun _ => 0))), (q4, .inl (cI, 60, .inl (fun _ => 0))), (q5, .inl (cI, 60, .inl (fun _ => 0))), (q6, .inl (cI, 180, .inl (fun _ => 0))), (q7, .inl (cI, 60, .inl (fun _ => 0)))]) [0, 1, 2, 3, 4, 5, 6, 7, 8] rfl
  have hD := hD.sub (ws' := [(h0, .inr (7, [.ref q0, .ref q1, .ref q2, .ref q3, .ref q4, .ref q5, .ref q6, .ref q7, .ref q8, .int 0, .int 0, .int 0])), (q0, .inl (cI, 60, .inl (fun _ => 0))), (q1, .inl (cI, 60, .inl (fun _ => 0))), (q2, .inl (cI, 60, .inl (fun _ => 0))), (q3, .inl (cI, 60, .inl (fun _ => 0))), (q4, .inl (cI, 60, .inl (fun _ => 0))), (q5, .inl (cI, 60, .inl (fun _ => 0))), (q6, .inl (cI, 180, .inl (fun _ => 0))), (q7, .inl (cI, 60, .inl (fun _ => 0)))]) [0, 1, 2, 3, 4, 5, 6, 7, 8] (by decide) rfl
  have hP : va_P D vwCl [(h0, .inr (7, [.ref q0, .ref q1, .ref q2, .ref q3, .ref q4, .ref q5, .ref q6, .ref q7, .ref q8, .int 0, .int 0, .int 0])), (q0, .inl (cI, 60, .inl (fun _ => 0))), (q1, .inl (cI, 60, .inl (fun _ => 0))), (q2, .inl (cI, 60, .inl (fun _ => 0))), (q3, .inl (cI, 60, .inl (fun _ => 0))), (q4, .inl (cI, 60, .inl (fun _ => 0))), (q5, .inl (cI, 60, .inl (fun _ => 0))), (q6, .inl (cI, 180, .inl (fun _ => 0))), (q7, .inl (cI, 60, .inl (fun _ => 0)))] H := hP
  have hD : va_D A [(h0, .inr (7, [.ref q0, .ref q1, .ref q2, .ref q3, .ref q4, .ref q5, .ref q6, .ref q7, .ref q8, .int 0, .int 0, .int 0])), (q0, .inl (cI, 60, .inl (fun _ => 0))), (q1, .inl (cI, 60, .inl (fun _ => 0))), (q2, .inl (cI, 60, .inl (fun _ => 0))), (q3, .inl (cI, 60, .inl (fun _ => 0))), (q4, .inl (cI, 60, .inl (fun _ => 0))), (q5, .inl (cI, 60, .inl (fun _ => 0))), (q6, .inl (cI, 180, .inl (fun _ => 0))), (q7, .inl (cI, 60, .inl (fun _ => 0)))] := hD
  refine W.widen (k := 9) (n := 612) (Nat.le_of_ble_eq_true rfl) (Nat.le_of_ble_eq_true rfl) ?_
  exact rtV hx hb hr hlocks hS hP hD ⟨q0, q1, q2, q3, q4, q5, q6, q7, q8, rfl⟩ dX7_init_77

set_option maxHeartbeats 4000000 in
set_option maxRecDepth 100000 in
theorem c_X6_init_0 (l : Launch) (D : va_G) (cI cZ cB cJ : ClassId) (h0 : Nat) : CtV l D (TT cI cZ cB cJ) yX6_init cX6_init 2 none 1 21 1 144 [.ref h0, .int 24] [(h0, .inr (6, [.null, .int 0]))] (fun w1 => ∃ (q0 : Nat), w1 = [(h0, .inr (6, [.ref q0, .int 0])), (q0, .inl (cI, 144, .inl (fun _ => 0)))]) := by
  refine CtV.of (by decide +kernel) (Nat.le_of_ble_eq_true rfl) ?_
  intro p e s m below meth c A ls hx hb hr hml hown hts hnw hlocks hin hA hS hP hK hD hl
  have hown : s.vm.findClass RX6 = some m.cls := hown
  have hl : lv_has ls 2 [(0, .ref h0), (1, .int 24)] := hl
  have hin : meth.name = "<init>" := hin
  refine lv_aload_n hx hb dX6_init_0 rfl (lv_at hl 0 rfl) ?_
  refine W.objInit hx hb hown (hts _ wm_148) (hts _ wm_27) (hts _ wm_28) rfl (by rw [hml]; exact hl.1) rfl dX6_init_1 (Nat.le_of_ble_eq_true rfl) (Nat.le_of_ble_eq_true rfl) ?_
  refine W.eq (g2 := F0 m 4 ls []) rfl ?_
  refine lv_aload_n hx hb dX6_init_4 rfl (lv_at hl 0 rfl) ?_
  refine lv_iconst (v := 1) hx hb dX6_init_5 (by decide +kernel) ?_
  refine lv_iload_n hx hb dX6_init_6 rfl (lv_at hl 1 rfl) ?_
  refine lv_ldc (v := 131072) hx hb hown (hts _ wm_149) dX6_init_7 ?_
  refine va_mmin hx hb (hml.trans hl.1.symm) hown (hts _ wm_150) (hts _ wm_151) (hts _ wm_8) (hts _ wm_152) (Nat.le_of_ble_eq_true rfl) (Nat.le_of_ble_eq_true rfl) (Nat.le_of_ble_eq_true rfl) (Nat.le_of_ble_eq_true rfl) dX6_init_9 ?_
  refine nrm (y := 24) (by decide +kernel) ?_
  refine pcn (b := 12) rfl ?_
  refine va_mmax hx hb (hml.trans hl.1.symm) hown (hts _ wm_153) (hts _ wm_154) (hts _ wm_8) (hts _ wm_155) (Nat.le_of_ble_eq_true rfl) (Nat.le_of_ble_eq_true rfl) (Nat.le_of_ble_eq_true rfl) (Nat.le_of_ble_eq_true rfl) dX6_init_12 ?_
  refine nrm (y := 24) (by decide +kernel) ?_
  refine lv_bipush (v := 6) hx hb dX6_init_15 (by decide +kernel) ?_
  refine lv_imul hx hb dX6_init_17 ?_
  refine nrm (y := 144) (by decide +kernel) ?_
  refine n_newa (atype := .int) (ty := .int) (N2 := 144) hx hb (hts _ wm_62) rfl hK hP hD hS hA 0 rfl (fun _ _ => rfl) (fun _ => rfl) (by decide +kernel) (by decide +kernel) (by decide +kernel) (Nat.le_of_ble_eq_true rfl) (Nat.le_of_ble_eq_true rfl) dX6_init_18 (fun q0 H hP hD hS => ?_)
  have hP : va_P D vwCl [(h0, .inr (6, [.null, .int 0])), (q0, .inl (cI, 144, .inl (fun _ => 0)))] H := hP
  have hD : va_D A [(h0, .inr (6, [.null, .int 0])), (q0, .inl (cI, 144, .inl (fun _ => 0)))] := hD
  refine W.widen (k := 1) (n := 144) (Nat.le_of_ble_eq_true rfl) (Nat.le_of_ble_eq_true rfl) ?_
  refine va_put (D := D) (ci := 6) (v := .ref q0) (ty := (.array .int)) (C := RX6) (T := TX6) (N := 2) hx hb hts inX6 tyX6 tyX6_ok nmX6 hown hK hP hD hS 0 rfl rfl 0 (by decide) (hts _ wm_156) (fun _ h9 => h9) rfl (by decide +kernel) rfl rfl (Nat.le_of_ble_eq_true rfl) dX6_init_20 (fun H locs hP hD hS => ?_)
  have hP : va_P D vwCl [(h0, .inr (6, [.ref q0, .int 0])), (q0, .inl (cI, 144, .inl (fun _ => 0)))] H := hP
  have hD : va_D A [(h0, .inr (6, [.ref q0, .int 0])), (q0, .inl (cI, 144, .inl (fun _ => 0)))] := hD
  refine lv_aload_n hx hb dX6_init_23 rfl (lv_at hl 0 rfl) ?_
  refine lv_iconst (v := 0) hx hb dX6_init_24 (by decide +kernel) ?_
  refine va_put (D := D) (ci := 6) (v := .int 0) (ty := .int) (C := RX6) (T := TX6) (N := 2) hx hb hts inX6 tyX6 tyX6_ok nmX6 hown hK hP hD hS 0 rfl rfl 1 (by decide) (hts _ wm_157) (fun _ h9 => h9) rfl (by decide +kernel) rfl rfl (Nat.le_of_ble_eq_true rfl) dX6_init_25 (fun H locs hP hD hS => ?_)
  have hP : va_P D vwCl [(h0, .inr (6, [.ref q0, .int 0])), (q0, .inl (cI, 144, .inl (fun _ => 0)))] H := hP
  have hD : va_D A [(h0, .inr (6, [.ref q0, .int 0])), (q0, .inl (cI, 144, .inl (fun _ => 0)))] := hD
  refine W.widen (k := 1) (n := 144) (Nat.le_of_ble_eq_true rfl) (Nat.le_of_ble_eq_true rfl) ?_
  exact rtV hx hb hr hlocks hS hP hD ⟨q0, rfl⟩ dX6_init_28

set_option maxHeartbeats 4000000 in
set_option maxRecDepth 100000 in
theorem c_X4_init_0 (l : Launch) (D : va_G) (cI cZ cB cJ : ClassId) (h0 : Nat) : CtV l D (TT cI cZ cB cJ) yX4_init cX4_init 1 none 2 42 3 210 [.ref h0] [(h0, .inr (4, [.null, .null]))] (fun w1 => ∃ (q0 q1 q2 : Nat), w1 = [(h0, .inr (4, [.ref q0, .ref q2])), (q0, .inr (6, [.ref q1, .int 0])), (q1, .inl (cI, 144, .inl (fun _ => 0))), (q2, .inl (cI, 64, .inl (fun _ => (-1))))]) := by
  refine CtV.of (by decide +kernel) (Nat.le_of_ble_eq_true rfl) ?_
  intro p e s m below meth c A ls hx hb hr hml hown hts hnw hlocks hin hA hS hP hK hD hl
  have hown : s.vm.findClass RX4 = some m.cls := hown
  have hl : lv_has ls 1 [(0, .ref h0)] := hl
  have hin : meth.name = "<init>" := hin
  refine lv_aload_n hx hb dX4_init_0 rfl (lv_at hl 0 rfl) ?_
  refine W.objInit hx hb hown (hts _ wm_142) (hts _ wm_27) (hts _ wm_28) rfl (by rw [hml]; exact hl.1) rfl dX4_init_1 (Nat.le_of_ble_eq_true rfl) (Nat.le_of_ble_eq_true rfl) ?_
  refine W.eq (g2 := F0 m 4 ls []) rfl ?_
  refine lv_aload_n hx hb dX4_init_4 rfl (lv_at hl 0 rfl) ?_
  refine va_new (ci := 6) (fs := [.null, .int 0]) (C := RX6) (T := TX6) (N := 2) hx hb hts inX6 tyX6 tyX6_ok hown (hts _ wm_143) (hts _ wm_144) (hts _ wm_7) hK hP hD hS hA rfl df_X6 (Nat.le_of_ble_eq_true rfl) (Nat.le_of_ble_eq_true rfl) dX4_init_5 (fun q0 H hP hD hS => ?_)
  have hP : va_P D vwCl [(h0, .inr (4, [.null, .null])), (q0, .inr (6, [.null, .int 0]))] H := hP
  have hD : va_D A [(h0, .inr (4, [.null, .null])), (q0, .inr (6, [.null, .int 0]))] := hD
  refine W.widen (k := 1) (n := 2) (Nat.le_of_ble_eq_true rfl) (Nat.le_of_ble_eq_true rfl) ?_
  refine lv_dup hx hb dX4_init_8 rfl ?_
  refine lv_bipush (v := 24) hx hb dX4_init_9 (by decide +kernel) ?_
  refine kINv (As := [.int 24]) (rest := [.ref q0, .ref h0]) (wr := [(h0, .inr (4, [.null, .null]))]) hx hb hml hown hts hnw hK hP hD hS hA hl.1 (c_X6_init_0 l D cI cZ cB cJ q0) yk_X6_init wn_145 [1] [0] rfl rfl (by decide) (by decide) (by decide) rfl rfl dX4_init_11 ⟨Nat.le_of_ble_eq_true rfl, Nat.le_of_ble_eq_true rfl⟩ ⟨Nat.le_of_ble_eq_true rfl, Nat.le_of_ble_eq_true rfl⟩ (Nat.le_of_ble_eq_true rfl) (fun w1 H locs hq9 hP hD hS => ?_)
  obtain ⟨q1, rfl⟩ := hq9
  have hP : va_P D vwCl [(h0, .inr (4, [.null, .null])), (q0, .inr (6, [.ref q1, .int 0])), (q1, .inl (cI, 144, .inl (fun _ => 0)))] H := hP
  have hD : va_D A [(h0, .inr (4, [.null, .null])), (q0, .inr (6, [.ref q1, .int 0])), (q1, .inl (cI, 144, .inl (fun _ => 0)))] := hD
  refine W.widen (k := 2) (n := 146) (Nat.le_of_ble_eq_true rfl) (Nat.le_of_ble_eq_true rfl) ?_
  refine pcn (b := 14) rfl ?_
  refine va_putF (D := D) (ci := 4) (v := .ref q0) (ty := (.object "GradualCheck$Table")) (C := RX4) (T := TX4) (N := 2) hx hb hts inX4 tyX4 tyX4_ok nmX4 hown hK hP hD hS 0 rfl rfl 0 (by decide) (hts _ wm_171) (fun _ h9 => h9) rfl hin rfl (by decide +kernel) rfl rfl (Nat.le_of_ble_eq_true rfl) dX4_init_14 (fun H locs hP hD hS => ?_)
  have hP : va_P D vwCl [(h0, .inr (4, [.ref q0, .null])), (q0, .inr (6, [.ref q1, .int 0])), (q1, .inl (cI, 144, .inl (fun _ => 0)))] H := hP
  have hD : va_D A [(h0, .inr (4, [.ref q0, .null])), (q0, .inr (6, [.ref q1, .int 0])), (q1, .inl (cI, 144, .inl (fun _ => 0)))] := hD
  refine lv_aload_n hx hb dX4_init_17 rfl (lv_at hl 0 rfl) ?_
  refine lv_bipush (v := 64) hx hb dX4_init_18 (by decide +kernel) ?_
  refine n_newa (atype := .int) (ty := .int) (N2 := 64) hx hb (hts _ wm_62) rfl hK hP hD hS hA 0 rfl (fun _ _ => rfl) (fun _ => rfl) (by decide +kernel) (by decide +kernel) (by decide +kernel) (Nat.le_of_ble_eq_true rfl) (Nat.le_of_ble_eq_true rfl) dX4_init_20 (fun q2 H hP hD hS => ?_)
  have hP : va_P D vwCl [(h0, .inr (4, [.ref q0, .null])), (q0, .inr (6, [.ref q1, .int 0])), (q1, .inl (cI, 144, .inl (fun _ => 0))), (q2, .inl (cI, 64, .inl (fun _ => 0)))] H := hP
  have hD : va_D A [(h0, .inr (4, [.ref q0, .null])), (q0, .inr (6, [.ref q1, .int 0])), (q1, .inl (cI, 144, .inl (fun _ => 0))), (q2, .inl (cI, 64, .inl (fun _ => 0)))] := hD
  refine W.widen (k := 3) (n := 210) (Nat.le_of_ble_eq_true rfl) (Nat.le_of_ble_eq_true rfl) ?_
  refine va_putF (D := D) (ci := 4) (v := .ref q2) (ty := (.array .int)) (C := RX4) (T := TX4) (N := 2) hx hb hts inX4 tyX4 tyX4_ok nmX4 hown hK hP hD hS 0 rfl rfl 1 (by decide) (hts _ wm_174) (fun _ h9 => h9) rfl hin rfl (by decide +kernel) rfl rfl (Nat.le_of_ble_eq_true rfl) dX4_init_22 (fun H locs hP hD hS => ?_)
  have hP : va_P D vwCl [(h0, .inr (4, [.ref q0, .ref q2])), (q0, .inr (6, [.ref q1, .int 0])), (q1, .inl (cI, 144, .inl (fun _ => 0))), (q2, .inl (cI, 64, .inl (fun _ => 0)))] H := hP
  have hD : va_D A [(h0, .inr (4, [.ref q0, .ref q2])), (q0, .inr (6, [.ref q1, .int 0])), (q1, .inl (cI, 144, .inl (fun _ => 0))), (q2, .inl (cI, 64, .inl (fun _ => 0)))] := hD
  refine lv_aload_n hx hb dX4_init_25 rfl (lv_at hl 0 rfl) ?_
  refine va_get (D := D) (ci := 4) (v := .ref q2) (C := RX4) (T := TX4) (N := 2) hx hb hts inX4 hown hK hP 0 rfl rfl 1 (by decide) (hts _ wm_174) (fun _ h9 => h9) rfl dX4_init_26 ?_
  refine pcn (b := 29) rfl ?_
  refine lv_iconst (v := (-1)) hx hb dX4_init_29 (by decide +kernel) ?_
  refine kSv (As := [.ref q2, .int (-1)]) (rest := []) (wr := [(h0, .inr (4, [.ref q0, .ref q2])), (q0, .inr (6, [.ref q1, .int 0])), (q1, .inl (cI, 144, .inl (fun _ => 0)))]) hx hb hml hown hts hnw hK hP hD hS hA hl.1 (c_fill l D cI cZ cB cJ q2 64 (fun _ => 0) (-1) (by decide)) yk_J7_fill_53178 wm_168 [3] [0, 1, 2] rfl rfl (by decide) (by decide) (by decide) rfl rfl dX4_init_30 ⟨Nat.le_of_ble_eq_true rfl, Nat.le_of_ble_eq_true rfl⟩ ⟨Nat.le_of_ble_eq_true rfl, Nat.le_of_ble_eq_true rfl⟩ (Nat.le_of_ble_eq_true rfl) (fun w1 H locs hq9 hP hD hS => ?_)
  obtain rfl := hq9
  have hP : va_P D vwCl [(h0, .inr (4, [.ref q0, .ref q2])), (q0, .inr (6, [.ref q1, .int 0])), (q1, .inl (cI, 144, .inl (fun _ => 0))), (q2, .inl (cI, 64, .inl (fun _ => (-1))))] H := hP
  have hD : va_D A [(h0, .inr (4, [.ref q0, .ref q2])), (q0, .inr (6, [.ref q1, .int 0])), (q1, .inl (cI, 144, .inl (fun _ => 0))), (q2, .inl (cI, 64, .inl (fun _ => (-1))))] := hD
  refine W.widen (k := 3) (n := 210) (Nat.le_of_ble_eq_true rfl) (Nat.le_of_ble_eq_true rfl) ?_
  refine pcn (b := 33) rfl ?_
  refine W.widen (k := 3) (n := 210) (Nat.le_of_ble_eq_true rfl) (Nat.le_of_ble_eq_true rfl) ?_
  exact rtV hx hb hr hlocks hS hP hD ⟨q0, q1, q2, rfl⟩ dX4_init_33

set_option maxHeartbeats 4000000 in
set_option maxRecDepth 100000 in
theorem c_X4_bucketOf_0 (l : Launch) (D : va_G) (cI cZ cB cJ : ClassId) : CtI l D (TT cI cZ cB cJ) yX4_bucketOf cX4_bucketOf 4 (some .int) 0 0 0 0 [.int 0, .int (-1), .int (-1)] [] (fun r w1 => r = 31 ∧ w1 = []) := by
  refine CtI.of (by decide +kernel) (Nat.le_of_ble_eq_true rfl) ?_
  intro p e s m below meth c A ls hx hb hr hml hown hts hnw hlocks hin hA hS hP hK hD hl
  have hown : s.vm.findClass RX4 = some m.cls := hown
  have hl : lv_has ls 4 [(0, .int 0), (1, .int (-1)), (2, .int (-1))] := hl
  refine lv_iload_n hx hb dX4_bucketOf_0 rfl (lv_at hl 0 rfl) ?_
  refine lv_bipush (v := 31) hx hb dX4_bucketOf_1 (by decide +kernel) ?_
  refine lv_imul hx hb dX4_bucketOf_3 ?_
  refine nrm (y := 0) (by decide +kernel) ?_
  refine lv_iload_n hx hb dX4_bucketOf_4 rfl (lv_at hl 1 rfl) ?_
  refine lv_iadd hx hb dX4_bucketOf_5 ?_
  refine nrm (y := (-1)) (by decide +kernel) ?_
  refine lv_bipush (v := 31) hx hb dX4_bucketOf_6 (by decide +kernel) ?_
  refine lv_imul hx hb dX4_bucketOf_8 ?_
  refine nrm (y := (-31)) (by decide +kernel) ?_
  refine pcn (b := 9) rfl ?_
  refine lv_iload_n hx hb dX4_bucketOf_9 rfl (lv_at hl 2 rfl) ?_
  refine lv_iadd hx hb dX4_bucketOf_10 ?_
  refine nrm (y := (-32)) (by decide +kernel) ?_
  refine lv_istore_n (lv' := [(3, .int (-32)), (0, .int 0), (1, .int (-1)), (2, .int (-1))]) hx hb dX4_bucketOf_11 rfl hl (by decide) rfl (fun ls hl => ?_)
  refine lv_iload_n hx hb dX4_bucketOf_12 rfl (lv_at hl 0 rfl) ?_
  refine lv_iload_n hx hb dX4_bucketOf_13 rfl (lv_at hl 0 rfl) ?_
  refine lv_bipush (v := 7) hx hb dX4_bucketOf_14 (by decide +kernel) ?_
  refine lv_iushr hx hb dX4_bucketOf_16 rfl ?_
  refine nrm (y := 33554431) (by decide +kernel) ?_
  refine lv_ixor hx hb dX4_bucketOf_17 ?_
  refine nrm (y := (-33554401)) (by decide +kernel) ?_
  refine pcn (b := 18) rfl ?_
  refine lv_bipush (v := 63) hx hb dX4_bucketOf_18 (by decide +kernel) ?_
  refine lv_iand hx hb dX4_bucketOf_20 ?_
  refine nrm (y := 31) (by decide +kernel) ?_
  refine W.widen (k := 0) (n := 0) (Nat.le_of_ble_eq_true rfl) (Nat.le_of_ble_eq_true rfl) ?_
  exact rtI hx hb hr hlocks hS hP hD ⟨rfl, rfl⟩ dX4_bucketOf_21

set_option maxHeartbeats 4000000 in
set_option maxRecDepth 100000 in
theorem c_X11_at_0 (l : Launch) (D : va_G) (cI cZ cB cJ : ClassId) (h0 : Nat) : CtI l D (TT cI cZ cB cJ) yX11_at cX11_at 2 (some .int) 0 0 0 0 [.ref h0, .int 31] [(h0, .inl (cI, 64, .inl (fun _ => (-1))))] (fun r w1 => r = (-1) ∧ w1 = [(h0, .inl (cI, 64, .inl (fun _ => (-1))))]) := by
  refine CtI.of (by decide +kernel) (Nat.le_of_ble_eq_true rfl) ?_
  intro p e s m below meth c A ls hx hb hr hml hown hts hnw hlocks hin hA hS hP hK hD hl
  have hown : s.vm.findClass RX11 = some m.cls := hown
  have hl : lv_has ls 2 [(0, .ref h0), (1, .int 31)] := hl
  refine lv_iload_n hx hb dX11_at_0 rfl (lv_at hl 1 rfl) ?_
  refine lv_if_lt (tgt := 16) hx hb dX11_at_1 (by decide) (fun h9 => absurd h9 (by decide +kernel)) (fun _ => ?_)
  refine lv_iload_n hx hb dX11_at_4 rfl (lv_at hl 1 rfl) ?_
  refine lv_aload_n hx hb dX11_at_5 rfl (lv_at hl 0 rfl) ?_
  refine va_alen (v := 64) hx hb hK hP 0 0 rfl rfl (by decide +kernel) dX11_at_6 ?_
  refine lv_icmp_ge (tgt := 16) hx hb dX11_at_7 (by decide) (fun h9 => absurd h9 (by decide +kernel)) (fun _ => ?_)
  refine lv_aload_n hx hb dX11_at_10 rfl (lv_at hl 0 rfl) ?_
  refine pcn (b := 11) rfl ?_
  refine lv_iload_n hx hb dX11_at_11 rfl (lv_at hl 1 rfl) ?_
  refine al_i (x := (-1)) hx hb hK hP 0 0 rfl rfl (vpi (by decide +kernel)) (by first | decide +kernel | rfl) dX11_at_12 ?_
  refine lv_goto (tgt := 17) hx hb dX11_at_13 (by decide) ?_
  refine W.widen (k := 0) (n := 0) (Nat.le_of_ble_eq_true rfl) (Nat.le_of_ble_eq_true rfl) ?_
  exact rtI hx hb hr hlocks hS hP hD ⟨rfl, rfl⟩ dX11_at_17

set_option maxHeartbeats 4000000 in
set_option maxRecDepth 100000 in
theorem c_X6_get_0 (l : Launch) (D : va_G) (cI cZ cB cJ : ClassId) (h0 g0 : Nat) : CtI l D (TT cI cZ cB cJ) yX6_get cX6_get 5 (some .int) 0 0 0 0 [.ref h0, .int (-1), .int 3] [(h0, .inr (6, [.ref g0, .int 0]))] (fun r w1 => r = (-1) ∧ w1 = [(h0, .inr (6, [.ref g0, .int 0]))]) := by
  refine CtI.of (by decide +kernel) (Nat.le_of_ble_eq_true rfl) ?_
  intro p e s m below meth c A ls hx hb hr hml hown hts hnw hlocks hin hA hS hP hK hD hl
  have hown : s.vm.findClass RX6 = some m.cls := hown
  have hl : lv_has ls 5 [(0, .ref h0), (1, .int (-1)), (2, .int 3)] := hl
  refine lv_iload_n hx hb dX6_get_0 rfl (lv_at hl 1 rfl) ?_
  refine lv_bipush (v := 6) hx hb dX6_get_1 (by decide +kernel) ?_
  refine lv_imul hx hb dX6_get_3 ?_
  refine nrm (y := (-6)) (by decide +kernel) ?_
  refine lv_iload_n hx hb dX6_get_4 rfl (lv_at hl 2 rfl) ?_
  refine lv_iadd hx hb dX6_get_5 ?_
  refine nrm (y := (-3)) (by decide +kernel) ?_
  refine lv_istore_n (lv' := [(3, .int (-3)), (0, .ref h0), (1, .int (-1)), (2, .int 3)]) hx hb dX6_get_6 rfl hl (by decide) rfl (fun ls hl => ?_)
  refine lv_iload_n hx hb dX6_get_7 rfl (lv_at hl 2 rfl) ?_
  refine pcn (b := 8) rfl ?_
  refine lv_if_lt (tgt := 33) hx hb dX6_get_8 (by decide) (fun _ => ?_) (fun h9 => absurd (by decide +kernel) h9)
  refine lv_iconst (v := 0) hx hb dX6_get_33 (by decide +kernel) ?_
  refine lv_istore (lv' := [(4, .int 0), (3, .int (-3)), (0, .ref h0), (1, .int (-1)), (2, .int 3)]) hx hb dX6_get_34 hl (by decide) rfl (fun ls hl => ?_)
  refine lv_iload hx hb dX6_get_36 (lv_at hl 0 rfl) ?_
  refine lv_if_eq (tgt := 63) hx hb dX6_get_38 (by decide) (fun _ => ?_) (fun h9 => absurd (by decide +kernel) h9)
  refine lv_iconst (v := (-1)) hx hb dX6_get_63 (by decide +kernel) ?_
  refine W.widen (k := 0) (n := 0) (Nat.le_of_ble_eq_true rfl) (Nat.le_of_ble_eq_true rfl) ?_
  exact rtI hx hb hr hlocks hS hP hD ⟨rfl, rfl⟩ dX6_get_64

set_option maxHeartbeats 4000000 in
set_option maxRecDepth 100000 in
theorem c_X6_get_1 (l : Launch) (D : va_G) (cI cZ cB cJ : ClassId) (h0 g0 : Nat) : CtI l D (TT cI cZ cB cJ) yX6_get cX6_get 5 (some .int) 0 0 0 0 [.ref h0, .int (-1), .int 4] [(h0, .inr (6, [.ref g0, .int 0]))] (fun r w1 => r = (-1) ∧ w1 = [(h0, .inr (6, [.ref g0, .int 0]))]) := by
  refine CtI.of (by decide +kernel) (Nat.le_of_ble_eq_true rfl) ?_
  intro p e s m below meth c A ls hx hb hr hml hown hts hnw hlocks hin hA hS hP hK hD hl
  have hown : s.vm.findClass RX6 = some m.cls := hown
  have hl : lv_has ls 5 [(0, .ref h0), (1, .int (-1)), (2, .int 4)] := hl
  refine lv_iload_n hx hb dX6_get_0 rfl (lv_at hl 1 rfl) ?_
  refine lv_bipush (v := 6) hx hb dX6_get_1 (by decide +kernel) ?_
  refine lv_imul hx hb dX6_get_3 ?_
  refine nrm (y := (-6)) (by decide +kernel) ?_
  refine lv_iload_n hx hb dX6_get_4 rfl (lv_at hl 2 rfl) ?_
  refine lv_iadd hx hb dX6_get_5 ?_
  refine nrm (y := (-2)) (by decide +kernel) ?_
  refine lv_istore_n (lv' := [(3, .int (-2)), (0, .ref h0), (1, .int (-1)), (2, .int 4)]) hx hb dX6_get_6 rfl hl (by decide) rfl (fun ls hl => ?_)
  refine lv_iload_n hx hb dX6_get_7 rfl (lv_at hl 2 rfl) ?_
  refine pcn (b := 8) rfl ?_
  refine lv_if_lt (tgt := 33) hx hb dX6_get_8 (by decide) (fun _ => ?_) (fun h9 => absurd (by decide +kernel) h9)
  refine lv_iconst (v := 0) hx hb dX6_get_33 (by decide +kernel) ?_
  refine lv_istore (lv' := [(4, .int 0), (3, .int (-2)), (0, .ref h0), (1, .int (-1)), (2, .int 4)]) hx hb dX6_get_34 hl (by decide) rfl (fun ls hl => ?_)
  refine lv_iload hx hb dX6_get_36 (lv_at hl 0 rfl) ?_
  refine lv_if_eq (tgt := 63) hx hb dX6_get_38 (by decide) (fun _ => ?_) (fun h9 => absurd (by decide +kernel) h9)
  refine lv_iconst (v := (-1)) hx hb dX6_get_63 (by decide +kernel) ?_
  refine W.widen (k := 0) (n := 0) (Nat.le_of_ble_eq_true rfl) (Nat.le_of_ble_eq_true rfl) ?_
  exact rtI hx hb hr hlocks hS hP hD ⟨rfl, rfl⟩ dX6_get_64

set_option maxHeartbeats 4000000 in
set_option maxRecDepth 100000 in
theorem c_X6_add_0 (l : Launch) (D : va_G) (cI cZ cB cJ : ClassId) (h0 h1 : Nat) : CtI l D (TT cI cZ cB cJ) yX6_add cX6_add 8 (some .int) 0 0 0 0 [.ref h0, .int 0, .int (-1), .int (-1), .int 1, .int 1, .int (-1)] [(h0, .inr (6, [.ref h1, .int 0])), (h1, .inl (cI, 144, .inl (fun _ => 0)))] (fun r w1 => r = 0 ∧ w1 = [(h0, .inr (6, [.ref h1, .int 1])), (h1, .inl (cI, 144, .inl (upd (upd (upd (upd (upd (fun _ => 0) 1 (-1)) 2 (-1)) 3 1) 4 1) 5 (-1))))]) := by
  refine CtI.of (by decide +kernel) (Nat.le_of_ble_eq_true rfl) ?_
  intro p e s m below meth c A ls hx hb hr hml hown hts hnw hlocks hin hA hS hP hK hD hl
  have hown : s.vm.findClass RX6 = some m.cls := hown
  have hl : lv_has ls 8 [(0, .ref h0), (1, .int 0), (2, .int (-1)), (3, .int (-1)), (4, .int 1), (5, .int 1), (6, .int (-1))] := hl
  refine lv_aload_n hx hb dX6_add_0 rfl (lv_at hl 0 rfl) ?_
  refine va_get (D := D) (ci := 6) (v := .int 0) (C := RX6) (T := TX6) (N := 2) hx hb hts inX6 hown hK hP 0 rfl rfl 1 (by decide) (hts _ wm_157) (fun _ h9 => h9) rfl dX6_add_1 ?_
  refine lv_bipush (v := 6) hx hb dX6_add_4 (by decide +kernel) ?_
  refine lv_imul hx hb dX6_add_6 ?_
  refine nrm (y := 0) (by decide +kernel) ?_
  refine lv_istore (lv' := [(7, .int 0), (0, .ref h0), (1, .int 0), (2, .int (-1)), (3, .int (-1)), (4, .int 1), (5, .int 1), (6, .int (-1))]) hx hb dX6_add_7 hl (by decide) rfl (fun ls hl => ?_)
  refine lv_iload hx hb dX6_add_9 (lv_at hl 0 rfl) ?_
  refine lv_bipush (v := 6) hx hb dX6_add_11 (by decide +kernel) ?_
  refine pcn (b := 13) rfl ?_
  refine lv_iadd hx hb dX6_add_13 ?_
  refine nrm (y := 6) (by decide +kernel) ?_
  refine lv_aload_n hx hb dX6_add_14 rfl (lv_at hl 1 rfl) ?_
  refine va_get (D := D) (ci := 6) (v := .ref h1) (C := RX6) (T := TX6) (N := 2) hx hb hts inX6 hown hK hP 0 rfl rfl 0 (by decide) (hts _ wm_156) (fun _ h9 => h9) rfl dX6_add_15 ?_
  refine va_alen (v := 144) hx hb hK hP 1 0 rfl rfl (by decide +kernel) dX6_add_18 ?_
  refine lv_icmp_le (tgt := 49) hx hb dX6_add_19 (by decide) (fun _ => ?_) (fun h9 => absurd (by decide +kernel) h9)
  refine lv_iload hx hb dX6_add_49 (lv_at hl 0 rfl) ?_
  refine lv_if_lt (tgt := 67) hx hb dX6_add_51 (by decide) (fun h9 => absurd h9 (by decide +kernel)) (fun _ => ?_)
  refine lv_iload hx hb dX6_add_54 (lv_at hl 0 rfl) ?_
  refine lv_bipush (v := 6) hx hb dX6_add_56 (by decide +kernel) ?_
  refine lv_iadd hx hb dX6_add_58 ?_
  refine nrm (y := 6) (by decide +kernel) ?_
  refine lv_aload_n hx hb dX6_add_59 rfl (lv_at hl 1 rfl) ?_
  refine va_get (D := D) (ci := 6) (v := .ref h1) (C := RX6) (T := TX6) (N := 2) hx hb hts inX6 hown hK hP 0 rfl rfl 0 (by decide) (hts _ wm_156) (fun _ h9 => h9) rfl dX6_add_60 ?_
  refine pcn (b := 63) rfl ?_
  refine va_alen (v := 144) hx hb hK hP 1 0 rfl rfl (by decide +kernel) dX6_add_63 ?_
  refine lv_icmp_le (tgt := 69) hx hb dX6_add_64 (by decide) (fun _ => ?_) (fun h9 => absurd (by decide +kernel) h9)
  refine lv_aload_n hx hb dX6_add_69 rfl (lv_at hl 1 rfl) ?_
  refine va_get (D := D) (ci := 6) (v := .ref h1) (C := RX6) (T := TX6) (N := 2) hx hb hts inX6 hown hK hP 0 rfl rfl 0 (by decide) (hts _ wm_156) (fun _ h9 => h9) rfl dX6_add_70 ?_
  refine lv_iload hx hb dX6_add_73 (lv_at hl 0 rfl) ?_
  refine lv_iload_n hx hb dX6_add_75 rfl (lv_at hl 2 rfl) ?_
  refine as_i_s hx hb hK hP hD hS 1 0 rfl rfl (vpi (by decide +kernel)) (by first | decide +kernel | rfl) dX6_add_76 (fun H locs hP hD hS => ?_)
  have hP : va_P D vwCl [(h0, .inr (6, [.ref h1, .int 0])), (h1, .inl (cI, 144, .inl (fun _ => 0)))] H := hP
  have hD : va_D A [(h0, .inr (6, [.ref h1, .int 0])), (h1, .inl (cI, 144, .inl (fun _ => 0)))] := hD
  refine lv_aload_n hx hb dX6_add_77 rfl (lv_at hl 1 rfl) ?_
  refine va_get (D := D) (ci := 6) (v := .ref h1) (C := RX6) (T := TX6) (N := 2) hx hb hts inX6 hown hK hP 0 rfl rfl 0 (by decide) (hts _ wm_156) (fun _ h9 => h9) rfl dX6_add_78 ?_
  refine pcn (b := 81) rfl ?_
  refine lv_iload hx hb dX6_add_81 (lv_at hl 0 rfl) ?_
  refine lv_iconst (v := 1) hx hb dX6_add_83 (by decide +kernel) ?_
  refine lv_iadd hx hb dX6_add_84 ?_
  refine nrm (y := 1) (by decide +kernel) ?_
  refine lv_iload_n hx hb dX6_add_85 rfl (lv_at hl 3 rfl) ?_
  refine as_i (k := 1) hx hb hK hP hD hS 1 0 rfl rfl (vpi (by decide +kernel)) (by decide +kernel) dX6_add_86 (fun H locs hP hD hS => ?_)
  have hP : va_P D vwCl [(h0, .inr (6, [.ref h1, .int 0])), (h1, .inl (cI, 144, .inl (upd (fun _ => 0) 1 (-1))))] H := hP
  have hD : va_D A [(h0, .inr (6, [.ref h1, .int 0])), (h1, .inl (cI, 144, .inl (upd (fun _ => 0) 1 (-1))))] := hD
  refine lv_aload_n hx hb dX6_add_87 rfl (lv_at hl 1 rfl) ?_
  refine va_get (D := D) (ci := 6) (v := .ref h1) (C := RX6) (T := TX6) (N := 2) hx hb hts inX6 hown hK hP 0 rfl rfl 0 (by decide) (hts _ wm_156) (fun _ h9 => h9) rfl dX6_add_88 ?_
  refine lv_iload hx hb dX6_add_91 (lv_at hl 0 rfl) ?_
  refine pcn (b := 93) rfl ?_
  refine lv_iconst (v := 2) hx hb dX6_add_93 (by decide +kernel) ?_
  refine lv_iadd hx hb dX6_add_94 ?_
  refine nrm (y := 2) (by decide +kernel) ?_
  refine lv_iload_n hx hb dX6_add_95 rfl (lv_at hl 4 rfl) ?_
  refine as_i (k := 2) hx hb hK hP hD hS 1 0 rfl rfl (vpi (by decide +kernel)) (by decide +kernel) dX6_add_96 (fun H locs hP hD hS => ?_)
  have hP : va_P D vwCl [(h0, .inr (6, [.ref h1, .int 0])), (h1, .inl (cI, 144, .inl (upd (upd (fun _ => 0) 1 (-1)) 2 (-1))))] H := hP
  have hD : va_D A [(h0, .inr (6, [.ref h1, .int 0])), (h1, .inl (cI, 144, .inl (upd (upd (fun _ => 0) 1 (-1)) 2 (-1))))] := hD
  refine lv_aload_n hx hb dX6_add_97 rfl (lv_at hl 1 rfl) ?_
  refine va_get (D := D) (ci := 6) (v := .ref h1) (C := RX6) (T := TX6) (N := 2) hx hb hts inX6 hown hK hP 0 rfl rfl 0 (by decide) (hts _ wm_156) (fun _ h9 => h9) rfl dX6_add_98 ?_
  refine lv_iload hx hb dX6_add_101 (lv_at hl 0 rfl) ?_
  refine lv_iconst (v := 3) hx hb dX6_add_103 (by decide +kernel) ?_
  refine pcn (b := 104) rfl ?_
  refine lv_iadd hx hb dX6_add_104 ?_
  refine nrm (y := 3) (by decide +kernel) ?_
  refine lv_iload hx hb dX6_add_105 (lv_at hl 5 rfl) ?_
  refine as_i (k := 3) hx hb hK hP hD hS 1 0 rfl rfl (vpi (by decide +kernel)) (by decide +kernel) dX6_add_107 (fun H locs hP hD hS => ?_)
  have hP : va_P D vwCl [(h0, .inr (6, [.ref h1, .int 0])), (h1, .inl (cI, 144, .inl (upd (upd (upd (fun _ => 0) 1 (-1)) 2 (-1)) 3 1)))] H := hP
  have hD : va_D A [(h0, .inr (6, [.ref h1, .int 0])), (h1, .inl (cI, 144, .inl (upd (upd (upd (fun _ => 0) 1 (-1)) 2 (-1)) 3 1)))] := hD
  refine lv_aload_n hx hb dX6_add_108 rfl (lv_at hl 1 rfl) ?_
  refine va_get (D := D) (ci := 6) (v := .ref h1) (C := RX6) (T := TX6) (N := 2) hx hb hts inX6 hown hK hP 0 rfl rfl 0 (by decide) (hts _ wm_156) (fun _ h9 => h9) rfl dX6_add_109 ?_
  refine lv_iload hx hb dX6_add_112 (lv_at hl 0 rfl) ?_
  refine lv_iconst (v := 4) hx hb dX6_add_114 (by decide +kernel) ?_
  refine lv_iadd hx hb dX6_add_115 ?_
  refine nrm (y := 4) (by decide +kernel) ?_
  refine pcn (b := 116) rfl ?_
  refine lv_iload hx hb dX6_add_116 (lv_at hl 6 rfl) ?_
  refine as_i (k := 4) hx hb hK hP hD hS 1 0 rfl rfl (vpi (by decide +kernel)) (by decide +kernel) dX6_add_118 (fun H locs hP hD hS => ?_)
  have hP : va_P D vwCl [(h0, .inr (6, [.ref h1, .int 0])), (h1, .inl (cI, 144, .inl (upd (upd (upd (upd (fun _ => 0) 1 (-1)) 2 (-1)) 3 1) 4 1)))] H := hP
  have hD : va_D A [(h0, .inr (6, [.ref h1, .int 0])), (h1, .inl (cI, 144, .inl (upd (upd (upd (upd (fun _ => 0) 1 (-1)) 2 (-1)) 3 1) 4 1)))] := hD
  refine lv_aload_n hx hb dX6_add_119 rfl (lv_at hl 1 rfl) ?_
  refine va_get (D := D) (ci := 6) (v := .ref h1) (C := RX6) (T := TX6) (N := 2) hx hb hts inX6 hown hK hP 0 rfl rfl 0 (by decide) (hts _ wm_156) (fun _ h9 => h9) rfl dX6_add_120 ?_
  refine lv_iload hx hb dX6_add_123 (lv_at hl 0 rfl) ?_
  refine lv_iconst (v := 5) hx hb dX6_add_125 (by decide +kernel) ?_
  refine lv_iadd hx hb dX6_add_126 ?_
  refine nrm (y := 5) (by decide +kernel) ?_
  refine lv_iload hx hb dX6_add_127 (lv_at hl 7 rfl) ?_
  refine pcn (b := 129) rfl ?_
  refine as_i (k := 5) hx hb hK hP hD hS 1 0 rfl rfl (vpi (by decide +kernel)) (by decide +kernel) dX6_add_129 (fun H locs hP hD hS => ?_)
  have hP : va_P D vwCl [(h0, .inr (6, [.ref h1, .int 0])), (h1, .inl (cI, 144, .inl (upd (upd (upd (upd (upd (fun _ => 0) 1 (-1)) 2 (-1)) 3 1) 4 1) 5 (-1))))] H := hP
  have hD : va_D A [(h0, .inr (6, [.ref h1, .int 0])), (h1, .inl (cI, 144, .inl (upd (upd (upd (upd (upd (fun _ => 0) 1 (-1)) 2 (-1)) 3 1) 4 1) 5 (-1))))] := hD
  refine lv_aload_n hx hb dX6_add_130 rfl (lv_at hl 1 rfl) ?_
  refine lv_dup hx hb dX6_add_131 rfl ?_
  refine va_get (D := D) (ci := 6) (v := .int 0) (C := RX6) (T := TX6) (N := 2) hx hb hts inX6 hown hK hP 0 rfl rfl 1 (by decide) (hts _ wm_157) (fun _ h9 => h9) rfl dX6_add_132 ?_
  refine lv_iconst (v := 1) hx hb dX6_add_135 (by decide +kernel) ?_
  refine lv_iadd hx hb dX6_add_136 ?_
  refine nrm (y := 1) (by decide +kernel) ?_
  refine va_put (D := D) (ci := 6) (v := .int 1) (ty := .int) (C := RX6) (T := TX6) (N := 2) hx hb hts inX6 tyX6 tyX6_ok nmX6 hown hK hP hD hS 0 rfl rfl 1 (by decide) (hts _ wm_157) (fun _ h9 => h9) rfl (by decide +kernel) rfl rfl (Nat.le_of_ble_eq_true rfl) dX6_add_137 (fun H locs hP hD hS => ?_)
  have hP : va_P D vwCl [(h0, .inr (6, [.ref h1, .int 1])), (h1, .inl (cI, 144, .inl (upd (upd (upd (upd (upd (fun _ => 0) 1 (-1)) 2 (-1)) 3 1) 4 1) 5 (-1))))] H := hP
  have hD : va_D A [(h0, .inr (6, [.ref h1, .int 1])), (h1, .inl (cI, 144, .inl (upd (upd (upd (upd (upd (fun _ => 0) 1 (-1)) 2 (-1)) 3 1) 4 1) 5 (-1))))] := hD
  refine lv_aload_n hx hb dX6_add_140 rfl (lv_at hl 1 rfl) ?_
  refine pcn (b := 141) rfl ?_
  refine va_get (D := D) (ci := 6) (v := .int 1) (C := RX6) (T := TX6) (N := 2) hx hb hts inX6 hown hK hP 0 rfl rfl 1 (by decide) (hts _ wm_157) (fun _ h9 => h9) rfl dX6_add_141 ?_
  refine lv_iconst (v := 1) hx hb dX6_add_144 (by decide +kernel) ?_
  refine lv_isub hx hb dX6_add_145 ?_
  refine nrm (y := 0) (by decide +kernel) ?_
  refine W.widen (k := 0) (n := 0) (Nat.le_of_ble_eq_true rfl) (Nat.le_of_ble_eq_true rfl) ?_
  exact rtI hx hb hr hlocks hS hP hD ⟨rfl, rfl⟩ dX6_add_146

set_option maxHeartbeats 4000000 in
set_option maxRecDepth 100000 in
theorem c_X11_put_0 (l : Launch) (D : va_G) (cI cZ cB cJ : ClassId) (h0 : Nat) : CtV l D (TT cI cZ cB cJ) yX11_put cX11_put 3 none 0 0 0 0 [.ref h0, .int 31, .int 0] [(h0, .inl (cI, 64, .inl (fun _ => (-1))))] (fun w1 => w1 = [(h0, .inl (cI, 64, .inl (upd (fun _ => (-1)) 31 0)))]) := by
  refine CtV.of (by decide +kernel) (Nat.le_of_ble_eq_true rfl) ?_
  intro p e s m below meth c A ls hx hb hr hml hown hts hnw hlocks hin hA hS hP hK hD hl
  have hown : s.vm.findClass RX11 = some m.cls := hown
  have hl : lv_has ls 3 [(0, .ref h0), (1, .int 31), (2, .int 0)] := hl
  refine lv_iload_n hx hb dX11_put_0 rfl (lv_at hl 1 rfl) ?_
  refine lv_if_lt (tgt := 14) hx hb dX11_put_1 (by decide) (fun h9 => absurd h9 (by decide +kernel)) (fun _ => ?_)
  refine lv_iload_n hx hb dX11_put_4 rfl (lv_at hl 1 rfl) ?_
  refine lv_aload_n hx hb dX11_put_5 rfl (lv_at hl 0 rfl) ?_
  refine va_alen (v := 64) hx hb hK hP 0 0 rfl rfl (by decide +kernel) dX11_put_6 ?_
  refine lv_icmp_ge (tgt := 14) hx hb dX11_put_7 (by decide) (fun h9 => absurd h9 (by decide +kernel)) (fun _ => ?_)
  refine lv_aload_n hx hb dX11_put_10 rfl (lv_at hl 0 rfl) ?_
  refine pcn (b := 11) rfl ?_
  refine lv_iload_n hx hb dX11_put_11 rfl (lv_at hl 1 rfl) ?_
  refine lv_iload_n hx hb dX11_put_12 rfl (lv_at hl 2 rfl) ?_
  refine as_i (k := 31) hx hb hK hP hD hS 0 0 rfl rfl (vpi (by decide +kernel)) (by decide +kernel) dX11_put_13 (fun H locs hP hD hS => ?_)
  have hP : va_P D vwCl [(h0, .inl (cI, 64, .inl (upd (fun _ => (-1)) 31 0)))] H := hP
  have hD : va_D A [(h0, .inl (cI, 64, .inl (upd (fun _ => (-1)) 31 0)))] := hD
  refine W.widen (k := 0) (n := 0) (Nat.le_of_ble_eq_true rfl) (Nat.le_of_ble_eq_true rfl) ?_
  exact rtV hx hb hr hlocks hS hP hD rfl dX11_put_14

set_option maxHeartbeats 4000000 in
set_option maxRecDepth 100000 in
theorem c_X4_find_0 (l : Launch) (D : va_G) (cI cZ cB cJ : ClassId) (h0 h1 h2 h3 : Nat) : CtI l D (TT cI cZ cB cJ) yX4_find cX4_find 10 (some .int) 1 27 0 0 [.ref h0, .int 0, .int (-1), .int (-1)] [(h0, .inr (4, [.ref h2, .ref h1])), (h1, .inl (cI, 64, .inl (fun _ => (-1)))), (h2, .inr (6, [.ref h3, .int 0])), (h3, .inl (cI, 144, .inl (fun _ => 0)))] (fun r w1 => r = 0 ∧ w1 = [(h0, .inr (4, [.ref h2, .ref h1])), (h1, .inl (cI, 64, .inl (upd (fun _ => (-1)) 31 0))), (h2, .inr (6, [.ref h3, .int 1])), (h3, .inl (cI, 144, .inl (upd (upd (upd (upd (upd (fun _ => 0) 1 (-1)) 2 (-1)) 3 1) 4 1) 5 (-1))))]) := by
  refine CtI.of (by decide +kernel) (Nat.le_of_ble_eq_true rfl) ?_
  intro p e s m below meth c A ls hx hb hr hml hown hts hnw hlocks hin hA hS hP hK hD hl
  have hown : s.vm.findClass RX4 = some m.cls := hown
  have hl : lv_has ls 10 [(0, .ref h0), (1, .int 0), (2, .int (-1)), (3, .int (-1))] := hl
  refine lv_iload_n hx hb dX4_find_0 rfl (lv_at hl 1 rfl) ?_
  refine lv_iload_n hx hb dX4_find_1 rfl (lv_at hl 2 rfl) ?_
  refine lv_iload_n hx hb dX4_find_2 rfl (lv_at hl 3 rfl) ?_
  refine kSi (As := [.int 0, .int (-1), .int (-1)]) (rest := []) (wr := [(h0, .inr (4, [.ref h2, .ref h1])), (h1, .inl (cI, 64, .inl (fun _ => (-1)))), (h2, .inr (6, [.ref h3, .int 0])), (h3, .inl (cI, 144, .inl (fun _ => 0)))]) hx hb hml hown hts hnw hK hP hD hS hA hl.1 (c_X4_bucketOf_0 l D cI cZ cB cJ) yk_X4_bucketOf wm_184 [] [0, 1, 2, 3] rfl rfl (by decide) (by decide) (by decide) rfl rfl dX4_find_3 ⟨Nat.le_of_ble_eq_true rfl, Nat.le_of_ble_eq_true rfl⟩ ⟨Nat.le_of_ble_eq_true rfl, Nat.le_of_ble_eq_true rfl⟩ (Nat.le_of_ble_eq_true rfl) (fun r9 w1 H locs hq9 hP hD hS => ?_)
  obtain ⟨rfl, rfl⟩ := hq9
  have hP : va_P D vwCl [(h0, .inr (4, [.ref h2, .ref h1])), (h1, .inl (cI, 64, .inl (fun _ => (-1)))), (h2, .inr (6, [.ref h3, .int 0])), (h3, .inl (cI, 144, .inl (fun _ => 0)))] H := hP
  have hD : va_D A [(h0, .inr (4, [.ref h2, .ref h1])), (h1, .inl (cI, 64, .inl (fun _ => (-1)))), (h2, .inr (6, [.ref h3, .int 0])), (h3, .inl (cI, 144, .inl (fun _ => 0)))] := hD
  refine W.widen (k := 0) (n := 0) (Nat.le_of_ble_eq_true rfl) (Nat.le_of_ble_eq_true rfl) ?_
  refine pcn (b := 6) rfl ?_
  refine lv_istore (lv' := [(4, .int 31), (0, .ref h0), (1, .int 0), (2, .int (-1)), (3, .int (-1))]) hx hb dX4_find_6 hl (by decide) rfl (fun ls hl => ?_)
  refine lv_aload_n hx hb dX4_find_8 rfl (lv_at hl 1 rfl) ?_
  refine va_get (D := D) (ci := 4) (v := .ref h1) (C := RX4) (T := TX4) (N := 2) hx hb hts inX4 hown hK hP 0 rfl rfl 1 (by decide) (hts _ wm_174) (fun _ h9 => h9) rfl dX4_find_9 ?_
  refine lv_iload hx hb dX4_find_12 (lv_at hl 0 rfl) ?_
  refine kSNi (As := [.ref h1, .int 31]) (rest := []) (wr := [(h0, .inr (4, [.ref h2, .ref h1])), (h2, .inr (6, [.ref h3, .int 0])), (h3, .inl (cI, 144, .inl (fun _ => 0)))]) hx hb hml hown hts hnw hK hP hD hS hA hl.1 (c_X11_at_0 l D cI cZ cB cJ h1) yk_X11_at wn_187 [1] [0, 2, 3] rfl rfl (by decide) (by decide) (by decide) rfl rfl dX4_find_14 ⟨Nat.le_of_ble_eq_true rfl, Nat.le_of_ble_eq_true rfl⟩ ⟨Nat.le_of_ble_eq_true rfl, Nat.le_of_ble_eq_true rfl⟩ (Nat.le_of_ble_eq_true rfl) (fun r9 w1 H locs hq9 hP hD hS => ?_)
  obtain ⟨rfl, rfl⟩ := hq9
  have hP : va_P D vwCl [(h0, .inr (4, [.ref h2, .ref h1])), (h2, .inr (6, [.ref h3, .int 0])), (h3, .inl (cI, 144, .inl (fun _ => 0))), (h1, .inl (cI, 64, .inl (fun _ => (-1))))] H := hP
  have hD : va_D A [(h0, .inr (4, [.ref h2, .ref h1])), (h2, .inr (6, [.ref h3, .int 0])), (h3, .inl (cI, 144, .inl (fun _ => 0))), (h1, .inl (cI, 64, .inl (fun _ => (-1))))] := hD
  refine W.widen (k := 0) (n := 0) (Nat.le_of_ble_eq_true rfl) (Nat.le_of_ble_eq_true rfl) ?_
  refine pcn (b := 17) rfl ?_
  refine lv_istore (lv' := [(5, .int (-1)), (4, .int 31), (0, .ref h0), (1, .int 0), (2, .int (-1)), (3, .int (-1))]) hx hb dX4_find_17 hl (by decide) rfl (fun ls hl => ?_)
  refine lv_iload hx hb dX4_find_19 (lv_at hl 0 rfl) ?_
  refine lv_istore (lv' := [(6, .int (-1)), (5, .int (-1)), (4, .int 31), (0, .ref h0), (1, .int 0), (2, .int (-1)), (3, .int (-1))]) hx hb dX4_find_21 hl (by decide) rfl (fun ls hl => ?_)
  refine lv_iconst (v := 0) hx hb dX4_find_23 (by decide +kernel) ?_
  refine lv_istore (lv' := [(7, .int 0), (6, .int (-1)), (5, .int (-1)), (4, .int 31), (0, .ref h0), (1, .int 0), (2, .int (-1)), (3, .int (-1))]) hx hb dX4_find_24 hl (by decide) rfl (fun ls hl => ?_)
  refine lv_iload hx hb dX4_find_26 (lv_at hl 1 rfl) ?_
  refine lv_if_lt (tgt := 74) hx hb dX4_find_28 (by decide) (fun _ => ?_) (fun h9 => absurd (by decide +kernel) h9)
  refine lv_iconst (v := 1) hx hb dX4_find_74 (by decide +kernel) ?_
  refine lv_iconst (v := 0) hx hb dX4_find_75 (by decide +kernel) ?_
  refine lv_aload_n hx hb dX4_find_76 rfl (lv_at hl 4 rfl) ?_
  refine va_get (D := D) (ci := 4) (v := .ref h2) (C := RX4) (T := TX4) (N := 2) hx hb hts inX4 hown hK hP 0 rfl rfl 0 (by decide) (hts _ wm_171) (fun _ h9 => h9) rfl dX4_find_77 ?_
  refine lv_iload_n hx hb dX4_find_80 rfl (lv_at hl 6 rfl) ?_
  refine lv_iconst (v := 3) hx hb dX4_find_81 (by decide +kernel) ?_
  refine kVNi (As := [.int (-1), .int 3]) (rest := [.int 0, .int 1]) (wr := [(h0, .inr (4, [.ref h2, .ref h1])), (h3, .inl (cI, 144, .inl (fun _ => 0))), (h1, .inl (cI, 64, .inl (fun _ => (-1))))]) hx hb hml hown hts hnw hK hP hD hS hA hl.1 (c_X6_get_0 l D cI cZ cB cJ h2 h3) yk_X6_get wn_195 [1] [0, 2, 3] rfl rfl (by decide) (by decide) (by decide) 0 rfl rfl rfl rfl rfl dX4_find_82 ⟨Nat.le_of_ble_eq_true rfl, Nat.le_of_ble_eq_true rfl⟩ ⟨Nat.le_of_ble_eq_true rfl, Nat.le_of_ble_eq_true rfl⟩ (Nat.le_of_ble_eq_true rfl) (fun r9 w1 H locs hq9 hP hD hS => ?_)
  obtain ⟨rfl, rfl⟩ := hq9
  have hP : va_P D vwCl [(h0, .inr (4, [.ref h2, .ref h1])), (h3, .inl (cI, 144, .inl (fun _ => 0))), (h1, .inl (cI, 64, .inl (fun _ => (-1)))), (h2, .inr (6, [.ref h3, .int 0]))] H := hP
  have hD : va_D A [(h0, .inr (4, [.ref h2, .ref h1])), (h3, .inl (cI, 144, .inl (fun _ => 0))), (h1, .inl (cI, 64, .inl (fun _ => (-1)))), (h2, .inr (6, [.ref h3, .int 0]))] := hD
  refine W.widen (k := 0) (n := 0) (Nat.le_of_ble_eq_true rfl) (Nat.le_of_ble_eq_true rfl) ?_
  refine pcn (b := 85) rfl ?_
  refine va_mmax hx hb (hml.trans hl.1.symm) hown (hts _ wm_199) (hts _ wm_154) (hts _ wm_8) (hts _ wm_155) (Nat.le_of_ble_eq_true rfl) (Nat.le_of_ble_eq_true rfl) (Nat.le_of_ble_eq_true rfl) (Nat.le_of_ble_eq_true rfl) dX4_find_85 ?_
  refine nrm (y := 0) (by decide +kernel) ?_
  refine lv_iadd hx hb dX4_find_88 ?_
  refine nrm (y := 1) (by decide +kernel) ?_
  refine lv_iconst (v := 0) hx hb dX4_find_89 (by decide +kernel) ?_
  refine lv_aload_n hx hb dX4_find_90 rfl (lv_at hl 4 rfl) ?_
  refine va_get (D := D) (ci := 4) (v := .ref h2) (C := RX4) (T := TX4) (N := 2) hx hb hts inX4 hown hK hP 0 rfl rfl 0 (by decide) (hts _ wm_171) (fun _ h9 => h9) rfl dX4_find_91 ?_
  refine lv_iload_n hx hb dX4_find_94 rfl (lv_at hl 7 rfl) ?_
  refine lv_iconst (v := 3) hx hb dX4_find_95 (by decide +kernel) ?_
  refine pcn (b := 96) rfl ?_
  refine kVNi (As := [.int (-1), .int 3]) (rest := [.int 0, .int 1]) (wr := [(h0, .inr (4, [.ref h2, .ref h1])), (h3, .inl (cI, 144, .inl (fun _ => 0))), (h1, .inl (cI, 64, .inl (fun _ => (-1))))]) hx hb hml hown hts hnw hK hP hD hS hA hl.1 (c_X6_get_0 l D cI cZ cB cJ h2 h3) yk_X6_get wn_195 [3] [0, 1, 2] rfl rfl (by decide) (by decide) (by decide) 0 rfl rfl rfl rfl rfl dX4_find_96 ⟨Nat.le_of_ble_eq_true rfl, Nat.le_of_ble_eq_true rfl⟩ ⟨Nat.le_of_ble_eq_true rfl, Nat.le_of_ble_eq_true rfl⟩ (Nat.le_of_ble_eq_true rfl) (fun r9 w1 H locs hq9 hP hD hS => ?_)
  obtain ⟨rfl, rfl⟩ := hq9
  have hP : va_P D vwCl [(h0, .inr (4, [.ref h2, .ref h1])), (h3, .inl (cI, 144, .inl (fun _ => 0))), (h1, .inl (cI, 64, .inl (fun _ => (-1)))), (h2, .inr (6, [.ref h3, .int 0]))] H := hP
  have hD : va_D A [(h0, .inr (4, [.ref h2, .ref h1])), (h3, .inl (cI, 144, .inl (fun _ => 0))), (h1, .inl (cI, 64, .inl (fun _ => (-1)))), (h2, .inr (6, [.ref h3, .int 0]))] := hD
  refine W.widen (k := 0) (n := 0) (Nat.le_of_ble_eq_true rfl) (Nat.le_of_ble_eq_true rfl) ?_
  refine pcn (b := 99) rfl ?_
  refine va_mmax hx hb (hml.trans hl.1.symm) hown (hts _ wm_199) (hts _ wm_154) (hts _ wm_8) (hts _ wm_155) (Nat.le_of_ble_eq_true rfl) (Nat.le_of_ble_eq_true rfl) (Nat.le_of_ble_eq_true rfl) (Nat.le_of_ble_eq_true rfl) dX4_find_99 ?_
  refine nrm (y := 0) (by decide +kernel) ?_
  refine lv_iadd hx hb dX4_find_102 ?_
  refine nrm (y := 1) (by decide +kernel) ?_
  refine lv_istore (lv' := [(7, .int 1), (6, .int (-1)), (5, .int (-1)), (4, .int 31), (0, .ref h0), (1, .int 0), (2, .int (-1)), (3, .int (-1))]) hx hb dX4_find_103 hl (by decide) rfl (fun ls hl => ?_)
  refine lv_iconst (v := 1) hx hb dX4_find_105 (by decide +kernel) ?_
  refine lv_aload_n hx hb dX4_find_106 rfl (lv_at hl 4 rfl) ?_
  refine va_get (D := D) (ci := 4) (v := .ref h2) (C := RX4) (T := TX4) (N := 2) hx hb hts inX4 hown hK hP 0 rfl rfl 0 (by decide) (hts _ wm_171) (fun _ h9 => h9) rfl dX4_find_107 ?_
  refine lv_iload_n hx hb dX4_find_110 rfl (lv_at hl 6 rfl) ?_
  refine pcn (b := 111) rfl ?_
  refine lv_iconst (v := 4) hx hb dX4_find_111 (by decide +kernel) ?_
  refine kVNi (As := [.int (-1), .int 4]) (rest := [.int 1]) (wr := [(h0, .inr (4, [.ref h2, .ref h1])), (h3, .inl (cI, 144, .inl (fun _ => 0))), (h1, .inl (cI, 64, .inl (fun _ => (-1))))]) hx hb hml hown hts hnw hK hP hD hS hA hl.1 (c_X6_get_1 l D cI cZ cB cJ h2 h3) yk_X6_get wn_195 [3] [0, 1, 2] rfl rfl (by decide) (by decide) (by decide) 0 rfl rfl rfl rfl rfl dX4_find_112 ⟨Nat.le_of_ble_eq_true rfl, Nat.le_of_ble_eq_true rfl⟩ ⟨Nat.le_of_ble_eq_true rfl, Nat.le_of_ble_eq_true rfl⟩ (Nat.le_of_ble_eq_true rfl) (fun r9 w1 H locs hq9 hP hD hS => ?_)
  obtain ⟨rfl, rfl⟩ := hq9
  have hP : va_P D vwCl [(h0, .inr (4, [.ref h2, .ref h1])), (h3, .inl (cI, 144, .inl (fun _ => 0))), (h1, .inl (cI, 64, .inl (fun _ => (-1)))), (h2, .inr (6, [.ref h3, .int 0]))] H := hP
  have hD : va_D A [(h0, .inr (4, [.ref h2, .ref h1])), (h3, .inl (cI, 144, .inl (fun _ => 0))), (h1, .inl (cI, 64, .inl (fun _ => (-1)))), (h2, .inr (6, [.ref h3, .int 0]))] := hD
  refine W.widen (k := 0) (n := 0) (Nat.le_of_ble_eq_true rfl) (Nat.le_of_ble_eq_true rfl) ?_
  refine pcn (b := 115) rfl ?_
  refine va_mmax hx hb (hml.trans hl.1.symm) hown (hts _ wm_199) (hts _ wm_154) (hts _ wm_8) (hts _ wm_155) (Nat.le_of_ble_eq_true rfl) (Nat.le_of_ble_eq_true rfl) (Nat.le_of_ble_eq_true rfl) (Nat.le_of_ble_eq_true rfl) dX4_find_115 ?_
  refine nrm (y := 1) (by decide +kernel) ?_
  refine lv_istore (lv' := [(8, .int 1), (7, .int 1), (6, .int (-1)), (5, .int (-1)), (4, .int 31), (0, .ref h0), (1, .int 0), (2, .int (-1)), (3, .int (-1))]) hx hb dX4_find_118 hl (by decide) rfl (fun ls hl => ?_)
  refine lv_iload_n hx hb dX4_find_120 rfl (lv_at hl 8 rfl) ?_
  refine lv_if_lt (tgt := 142) hx hb dX4_find_121 (by decide) (fun _ => ?_) (fun h9 => absurd (by decide +kernel) h9)
  refine lv_aload_n hx hb dX4_find_142 rfl (lv_at hl 5 rfl) ?_
  refine va_get (D := D) (ci := 4) (v := .ref h2) (C := RX4) (T := TX4) (N := 2) hx hb hts inX4 hown hK hP 0 rfl rfl 0 (by decide) (hts _ wm_171) (fun _ h9 => h9) rfl dX4_find_143 ?_
  refine lv_iload_n hx hb dX4_find_146 rfl (lv_at hl 6 rfl) ?_
  refine lv_iload_n hx hb dX4_find_147 rfl (lv_at hl 7 rfl) ?_
  refine lv_iload_n hx hb dX4_find_148 rfl (lv_at hl 8 rfl) ?_
  refine lv_iload hx hb dX4_find_149 (lv_at hl 1 rfl) ?_
  refine lv_iload hx hb dX4_find_151 (lv_at hl 0 rfl) ?_
  refine pcn (b := 153) rfl ?_
  refine lv_iload hx hb dX4_find_153 (lv_at hl 3 rfl) ?_
  refine kVNi (As := [.int 0, .int (-1), .int (-1), .int 1, .int 1, .int (-1)]) (rest := []) (wr := [(h0, .inr (4, [.ref h2, .ref h1])), (h1, .inl (cI, 64, .inl (fun _ => (-1))))]) hx hb hml hown hts hnw hK hP hD hS hA hl.1 (c_X6_add_0 l D cI cZ cB cJ h2 h3) yk_X6_add wn_200 [3, 1] [0, 2] rfl rfl (by decide) (by decide) (by decide) 0 rfl rfl rfl rfl rfl dX4_find_155 ⟨Nat.le_of_ble_eq_true rfl, Nat.le_of_ble_eq_true rfl⟩ ⟨Nat.le_of_ble_eq_true rfl, Nat.le_of_ble_eq_true rfl⟩ (Nat.le_of_ble_eq_true rfl) (fun r9 w1 H locs hq9 hP hD hS => ?_)
  obtain ⟨rfl, rfl⟩ := hq9
  have hP : va_P D vwCl [(h0, .inr (4, [.ref h2, .ref h1])), (h1, .inl (cI, 64, .inl (fun _ => (-1)))), (h2, .inr (6, [.ref h3, .int 1])), (h3, .inl (cI, 144, .inl (upd (upd (upd (upd (upd (fun _ => 0) 1 (-1)) 2 (-1)) 3 1) 4 1) 5 (-1))))] H := hP
  have hD : va_D A [(h0, .inr (4, [.ref h2, .ref h1])), (h1, .inl (cI, 64, .inl (fun _ => (-1)))), (h2, .inr (6, [.ref h3, .int 1])), (h3, .inl (cI, 144, .inl (upd (upd (upd (upd (upd (fun _ => 0) 1 (-1)) 2 (-1)) 3 1) 4 1) 5 (-1))))] := hD
  refine W.widen (k := 0) (n := 0) (Nat.le_of_ble_eq_true rfl) (Nat.le_of_ble_eq_true rfl) ?_
  refine pcn (b := 158) rfl ?_
  refine lv_istore (lv' := [(9, .int 0), (8, .int 1), (7, .int 1), (6, .int (-1)), (5, .int (-1)), (4, .int 31), (0, .ref h0), (1, .int 0), (2, .int (-1)), (3, .int (-1))]) hx hb dX4_find_158 hl (by decide) rfl (fun ls hl => ?_)
  refine lv_iload hx hb dX4_find_160 (lv_at hl 0 rfl) ?_
  refine lv_if_lt (tgt := 176) hx hb dX4_find_162 (by decide) (fun h9 => absurd h9 (by decide +kernel)) (fun _ => ?_)
  refine lv_aload_n hx hb dX4_find_165 rfl (lv_at hl 6 rfl) ?_
  refine va_get (D := D) (ci := 4) (v := .ref h1) (C := RX4) (T := TX4) (N := 2) hx hb hts inX4 hown hK hP 0 rfl rfl 1 (by decide) (hts _ wm_174) (fun _ h9 => h9) rfl dX4_find_166 ?_
  refine lv_iload hx hb dX4_find_169 (lv_at hl 5 rfl) ?_
  refine lv_iload hx hb dX4_find_171 (lv_at hl 0 rfl) ?_
  refine pcn (b := 173) rfl ?_
  refine kSNv (As := [.ref h1, .int 31, .int 0]) (rest := []) (wr := [(h0, .inr (4, [.ref h2, .ref h1])), (h2, .inr (6, [.ref h3, .int 1])), (h3, .inl (cI, 144, .inl (upd (upd (upd (upd (upd (fun _ => 0) 1 (-1)) 2 (-1)) 3 1) 4 1) 5 (-1))))]) hx hb hml hown hts hnw hK hP hD hS hA hl.1 (c_X11_put_0 l D cI cZ cB cJ h1) yk_X11_put wn_218 [1] [0, 2, 3] rfl rfl (by decide) (by decide) (by decide) rfl rfl dX4_find_173 ⟨Nat.le_of_ble_eq_true rfl, Nat.le_of_ble_eq_true rfl⟩ ⟨Nat.le_of_ble_eq_true rfl, Nat.le_of_ble_eq_true rfl⟩ (Nat.le_of_ble_eq_true rfl) (fun w1 H locs hq9 hP hD hS => ?_)
  obtain rfl := hq9
  have hP : va_P D vwCl [(h0, .inr (4, [.ref h2, .ref h1])), (h2, .inr (6, [.ref h3, .int 1])), (h3, .inl (cI, 144, .inl (upd (upd (upd (upd (upd (fun _ => 0) 1 (-1)) 2 (-1)) 3 1) 4 1) 5 (-1)))), (h1, .inl (cI, 64, .inl (upd (fun _ => (-1)) 31 0)))] H := hP
  have hD : va_D A [(h0, .inr (4, [.ref h2, .ref h1])), (h2, .inr (6, [.ref h3, .int 1])), (h3, .inl (cI, 144, .inl (upd (upd (upd (upd (upd (fun _ => 0) 1 (-1)) 2 (-1)) 3 1) 4 1) 5 (-1)))), (h1, .inl (cI, 64, .inl (upd (fun _ => (-1)) 31 0)))] := hD
  refine W.widen (k := 0) (n := 0) (Nat.le_of_ble_eq_true rfl) (Nat.le_of_ble_eq_true rfl) ?_
  refine pcn (b := 176) rfl ?_
  refine lv_iload hx hb dX4_find_176 (lv_at hl 0 rfl) ?_
  refine W.widen (k := 0) (n := 0) (Nat.le_of_ble_eq_true rfl) (Nat.le_of_ble_eq_true rfl) ?_
  have hP := hP.sub (ws' := [(h0, .inr (4, [.ref h2, .ref h1])), (h1, .inl (cI, 64, .inl (upd (fun _ => (-1)) 31 0))), (h2, .inr (6, [.ref h3, .int 1])), (h3, .inl (cI, 144, .inl (upd (upd (upd (upd (upd (fun _ => 0) 1 (-1)) 2 (-1)) 3 1) 4 1) 5 (-1))))]) [0, 3, 1, 2] rfl
  have hD := hD.sub (ws' := [(h0, .inr (4, [.ref h2, .ref h1])), (h1, .inl (cI, 64, .inl (upd (fun _ => (-1)) 31 0))), (h2, .inr (6, [.ref h3, .int 1])), (h3, .inl (cI, 144, .inl (upd (upd (upd (upd (upd (fun _ => 0) 1 (-1)) 2 (-1)) 3 1) 4 1) 5 (-1))))]) [0, 3, 1, 2] (by decide) rfl
  exact rtI hx hb hr hlocks hS hP hD ⟨rfl, rfl⟩ dX4_find_178

set_option maxHeartbeats 4000000 in
set_option maxRecDepth 100000 in
theorem c_X4_bucketOf_1 (l : Launch) (D : va_G) (cI cZ cB cJ : ClassId) : CtI l D (TT cI cZ cB cJ) yX4_bucketOf cX4_bucketOf 4 (some .int) 0 0 0 0 [.int 1, .int (-1), .int (-1)] [] (fun r w1 => r = 38 ∧ w1 = []) := by
  refine CtI.of (by decide +kernel) (Nat.le_of_ble_eq_true rfl) ?_
  intro p e s m below meth c A ls hx hb hr hml hown hts hnw hlocks hin hA hS hP hK hD hl
  have hown : s.vm.findClass RX4 = some m.cls := hown
  have hl : lv_has ls 4 [(0, .int 1), (1, .int (-1)), (2, .int (-1))] := hl
  refine lv_iload_n hx hb dX4_bucketOf_0 rfl (lv_at hl 0 rfl) ?_
  refine lv_bipush (v := 31) hx hb dX4_bucketOf_1 (by decide +kernel) ?_
  refine lv_imul hx hb dX4_bucketOf_3 ?_
  refine nrm (y := 31) (by decide +kernel) ?_
  refine lv_iload_n hx hb dX4_bucketOf_4 rfl (lv_at hl 1 rfl) ?_
  refine lv_iadd hx hb dX4_bucketOf_5 ?_
  refine nrm (y := 30) (by decide +kernel) ?_
  refine lv_bipush (v := 31) hx hb dX4_bucketOf_6 (by decide +kernel) ?_
  refine lv_imul hx hb dX4_bucketOf_8 ?_
  refine nrm (y := 930) (by decide +kernel) ?_
  refine pcn (b := 9) rfl ?_
  refine lv_iload_n hx hb dX4_bucketOf_9 rfl (lv_at hl 2 rfl) ?_
  refine lv_iadd hx hb dX4_bucketOf_10 ?_
  refine nrm (y := 929) (by decide +kernel) ?_
  refine lv_istore_n (lv' := [(3, .int 929), (0, .int 1), (1, .int (-1)), (2, .int (-1))]) hx hb dX4_bucketOf_11 rfl hl (by decide) rfl (fun ls hl => ?_)
  refine lv_iload_n hx hb dX4_bucketOf_12 rfl (lv_at hl 0 rfl) ?_
  refine lv_iload_n hx hb dX4_bucketOf_13 rfl (lv_at hl 0 rfl) ?_
  refine lv_bipush (v := 7) hx hb dX4_bucketOf_14 (by decide +kernel) ?_
  refine lv_iushr hx hb dX4_bucketOf_16 rfl ?_
  refine nrm (y := 7) (by decide +kernel) ?_
  refine lv_ixor hx hb dX4_bucketOf_17 ?_
  refine nrm (y := 934) (by decide +kernel) ?_
  refine pcn (b := 18) rfl ?_
  refine lv_bipush (v := 63) hx hb dX4_bucketOf_18 (by decide +kernel) ?_
  refine lv_iand hx hb dX4_bucketOf_20 ?_
  refine nrm (y := 38) (by decide +kernel) ?_
  refine W.widen (k := 0) (n := 0) (Nat.le_of_ble_eq_true rfl) (Nat.le_of_ble_eq_true rfl) ?_
  exact rtI hx hb hr hlocks hS hP hD ⟨rfl, rfl⟩ dX4_bucketOf_21

set_option maxHeartbeats 4000000 in
set_option maxRecDepth 100000 in
theorem c_X11_at_1 (l : Launch) (D : va_G) (cI cZ cB cJ : ClassId) (h0 : Nat) : CtI l D (TT cI cZ cB cJ) yX11_at cX11_at 2 (some .int) 0 0 0 0 [.ref h0, .int 38] [(h0, .inl (cI, 64, .inl (upd (fun _ => (-1)) 31 0)))] (fun r w1 => r = (-1) ∧ w1 = [(h0, .inl (cI, 64, .inl (upd (fun _ => (-1)) 31 0)))]) := by
  refine CtI.of (by decide +kernel) (Nat.le_of_ble_eq_true rfl) ?_
  intro p e s m below meth c A ls hx hb hr hml hown hts hnw hlocks hin hA hS hP hK hD hl
  have hown : s.vm.findClass RX11 = some m.cls := hown
  have hl : lv_has ls 2 [(0, .ref h0), (1, .int 38)] := hl
  refine lv_iload_n hx hb dX11_at_0 rfl (lv_at hl 1 rfl) ?_
  refine lv_if_lt (tgt := 16) hx hb dX11_at_1 (by decide) (fun h9 => absurd h9 (by decide +kernel)) (fun _ => ?_)
  refine lv_iload_n hx hb dX11_at_4 rfl (lv_at hl 1 rfl) ?_
  refine lv_aload_n hx hb dX11_at_5 rfl (lv_at hl 0 rfl) ?_
  refine va_alen (v := 64) hx hb hK hP 0 0 rfl rfl (by decide +kernel) dX11_at_6 ?_
  refine lv_icmp_ge (tgt := 16) hx hb dX11_at_7 (by decide) (fun h9 => absurd h9 (by decide +kernel)) (fun _ => ?_)
  refine lv_aload_n hx hb dX11_at_10 rfl (lv_at hl 0 rfl) ?_
  refine pcn (b := 11) rfl ?_
  refine lv_iload_n hx hb dX11_at_11 rfl (lv_at hl 1 rfl) ?_
  refine al_i (x := (-1)) hx hb hK hP 0 0 rfl rfl (vpi (by decide +kernel)) (by first | decide +kernel | rfl) dX11_at_12 ?_
  refine lv_goto (tgt := 17) hx hb dX11_at_13 (by decide) ?_
  refine W.widen (k := 0) (n := 0) (Nat.le_of_ble_eq_true rfl) (Nat.le_of_ble_eq_true rfl) ?_
  exact rtI hx hb hr hlocks hS hP hD ⟨rfl, rfl⟩ dX11_at_17

set_option maxHeartbeats 4000000 in
set_option maxRecDepth 100000 in
theorem c_X6_get_2 (l : Launch) (D : va_G) (cI cZ cB cJ : ClassId) (h0 g0 : Nat) : CtI l D (TT cI cZ cB cJ) yX6_get cX6_get 5 (some .int) 0 0 0 0 [.ref h0, .int (-1), .int 3] [(h0, .inr (6, [.ref g0, .int 1]))] (fun r w1 => r = (-1) ∧ w1 = [(h0, .inr (6, [.ref g0, .int 1]))]) := by
  refine CtI.of (by decide +kernel) (Nat.le_of_ble_eq_true rfl) ?_
  intro p e s m below meth c A ls hx hb hr hml hown hts hnw hlocks hin hA hS hP hK hD hl
  have hown : s.vm.findClass RX6 = some m.cls := hown
  have hl : lv_has ls 5 [(0, .ref h0), (1, .int (-1)), (2, .int 3)] := hl
  refine lv_iload_n hx hb dX6_get_0 rfl (lv_at hl 1 rfl) ?_
  refine lv_bipush (v := 6) hx hb dX6_get_1 (by decide +kernel) ?_
  refine lv_imul hx hb dX6_get_3 ?_
  refine nrm (y := (-6)) (by decide +kernel) ?_
  refine lv_iload_n hx hb dX6_get_4 rfl (lv_at hl 2 rfl) ?_
  refine lv_iadd hx hb dX6_get_5 ?_
  refine nrm (y := (-3)) (by decide +kernel) ?_
  refine lv_istore_n (lv' := [(3, .int (-3)), (0, .ref h0), (1, .int (-1)), (2, .int 3)]) hx hb dX6_get_6 rfl hl (by decide) rfl (fun ls hl => ?_)
  refine lv_iload_n hx hb dX6_get_7 rfl (lv_at hl 2 rfl) ?_
  refine pcn (b := 8) rfl ?_
  refine lv_if_lt (tgt := 33) hx hb dX6_get_8 (by decide) (fun _ => ?_) (fun h9 => absurd (by decide +kernel) h9)
  refine lv_iconst (v := 0) hx hb dX6_get_33 (by decide +kernel) ?_
  refine lv_istore (lv' := [(4, .int 0), (3, .int (-3)), (0, .ref h0), (1, .int (-1)), (2, .int 3)]) hx hb dX6_get_34 hl (by decide) rfl (fun ls hl => ?_)
  refine lv_iload hx hb dX6_get_36 (lv_at hl 0 rfl) ?_
  refine lv_if_eq (tgt := 63) hx hb dX6_get_38 (by decide) (fun _ => ?_) (fun h9 => absurd (by decide +kernel) h9)
  refine lv_iconst (v := (-1)) hx hb dX6_get_63 (by decide +kernel) ?_
  refine W.widen (k := 0) (n := 0) (Nat.le_of_ble_eq_true rfl) (Nat.le_of_ble_eq_true rfl) ?_
  exact rtI hx hb hr hlocks hS hP hD ⟨rfl, rfl⟩ dX6_get_64

set_option maxHeartbeats 4000000 in
set_option maxRecDepth 100000 in
theorem c_X6_get_3 (l : Launch) (D : va_G) (cI cZ cB cJ : ClassId) (h0 g0 : Nat) : CtI l D (TT cI cZ cB cJ) yX6_get cX6_get 5 (some .int) 0 0 0 0 [.ref h0, .int (-1), .int 4] [(h0, .inr (6, [.ref g0, .int 1]))] (fun r w1 => r = (-1) ∧ w1 = [(h0, .inr (6, [.ref g0, .int 1]))]) := by
  refine CtI.of (by decide +kernel) (Nat.le_of_ble_eq_true rfl) ?_
  intro p e s m below meth c A ls hx hb hr hml hown hts hnw hlocks hin hA hS hP hK hD hl
  have hown : s.vm.findClass RX6 = some m.cls := hown
  have hl : lv_has ls 5 [(0, .ref h0), (1, .int (-1)), (2, .int 4)] := hl
  refine lv_iload_n hx hb dX6_get_0 rfl (lv_at hl 1 rfl) ?_
  refine lv_bipush (v := 6) hx hb dX6_get_1 (by decide +kernel) ?_
  refine lv_imul hx hb dX6_get_3 ?_
  refine nrm (y := (-6)) (by decide +kernel) ?_
  refine lv_iload_n hx hb dX6_get_4 rfl (lv_at hl 2 rfl) ?_
  refine lv_iadd hx hb dX6_get_5 ?_
  refine nrm (y := (-2)) (by decide +kernel) ?_
  refine lv_istore_n (lv' := [(3, .int (-2)), (0, .ref h0), (1, .int (-1)), (2, .int 4)]) hx hb dX6_get_6 rfl hl (by decide) rfl (fun ls hl => ?_)
  refine lv_iload_n hx hb dX6_get_7 rfl (lv_at hl 2 rfl) ?_
  refine pcn (b := 8) rfl ?_
  refine lv_if_lt (tgt := 33) hx hb dX6_get_8 (by decide) (fun _ => ?_) (fun h9 => absurd (by decide +kernel) h9)
  refine lv_iconst (v := 0) hx hb dX6_get_33 (by decide +kernel) ?_
  refine lv_istore (lv' := [(4, .int 0), (3, .int (-2)), (0, .ref h0), (1, .int (-1)), (2, .int 4)]) hx hb dX6_get_34 hl (by decide) rfl (fun ls hl => ?_)
  refine lv_iload hx hb dX6_get_36 (lv_at hl 0 rfl) ?_
  refine lv_if_eq (tgt := 63) hx hb dX6_get_38 (by decide) (fun _ => ?_) (fun h9 => absurd (by decide +kernel) h9)
  refine lv_iconst (v := (-1)) hx hb dX6_get_63 (by decide +kernel) ?_
  refine W.widen (k := 0) (n := 0) (Nat.le_of_ble_eq_true rfl) (Nat.le_of_ble_eq_true rfl) ?_
  exact rtI hx hb hr hlocks hS hP hD ⟨rfl, rfl⟩ dX6_get_64

set_option maxHeartbeats 4000000 in
set_option maxRecDepth 100000 in
theorem c_X6_add_1 (l : Launch) (D : va_G) (cI cZ cB cJ : ClassId) (h0 h1 : Nat) : CtI l D (TT cI cZ cB cJ) yX6_add cX6_add 8 (some .int) 0 0 0 0 [.ref h0, .int 1, .int (-1), .int (-1), .int 1, .int 1, .int (-1)] [(h0, .inr (6, [.ref h1, .int 1])), (h1, .inl (cI, 144, .inl (upd (upd (upd (upd (upd (fun _ => 0) 1 (-1)) 2 (-1)) 3 1) 4 1) 5 (-1))))] (fun r w1 => r = 1 ∧ w1 = [(h0, .inr (6, [.ref h1, .int 2])), (h1, .inl (cI, 144, .inl (upd (upd (upd (upd (upd (upd (upd (upd (upd (upd (upd (fun _ => 0) 1 (-1)) 2 (-1)) 3 1) 4 1) 5 (-1)) 6 1) 7 (-1)) 8 (-1)) 9 1) 10 1) 11 (-1))))]) := by
  refine CtI.of (by decide +kernel) (Nat.le_of_ble_eq_true rfl) ?_
  intro p e s m below meth c A ls hx hb hr hml hown hts hnw hlocks hin hA hS hP hK hD hl
  have hown : s.vm.findClass RX6 = some m.cls := hown
  have hl : lv_has ls 8 [(0, .ref h0), (1, .int 1), (2, .int (-1)), (3, .int (-1)), (4, .int 1), (5, .int 1), (6, .int (-1))] := hl
  refine lv_aload_n hx hb dX6_add_0 rfl (lv_at hl 0 rfl) ?_
  refine va_get (D := D) (ci := 6) (v := .int 1) (C := RX6) (T := TX6) (N := 2) hx hb hts inX6 hown hK hP 0 rfl rfl 1 (by decide) (hts _ wm_157) (fun _ h9 => h9) rfl dX6_add_1 ?_
  refine lv_bipush (v := 6) hx hb dX6_add_4 (by decide +kernel) ?_
  refine lv_imul hx hb dX6_add_6 ?_
  refine nrm (y := 6) (by decide +kernel) ?_
  refine lv_istore (lv' := [(7, .int 6), (0, .ref h0), (1, .int 1), (2, .int (-1)), (3, .int (-1)), (4, .int 1), (5, .int 1), (6, .int (-1))]) hx hb dX6_add_7 hl (by decide) rfl (fun ls hl => ?_)
  refine lv_iload hx hb dX6_add_9 (lv_at hl 0 rfl) ?_
  refine lv_bipush (v := 6) hx hb dX6_add_11 (by decide +kernel) ?_
  refine pcn (b := 13) rfl ?_
  refine lv_iadd hx hb dX6_add_13 ?_
  refine nrm (y := 12) (by decide +kernel) ?_
  refine lv_aload_n hx hb dX6_add_14 rfl (lv_at hl 1 rfl) ?_
  refine va_get (D := D) (ci := 6) (v := .ref h1) (C := RX6) (T := TX6) (N := 2) hx hb hts inX6 hown hK hP 0 rfl rfl 0 (by decide) (hts _ wm_156) (fun _ h9 => h9) rfl dX6_add_15 ?_
  refine va_alen (v := 144) hx hb hK hP 1 0 rfl rfl (by decide +kernel) dX6_add_18 ?_
  refine lv_icmp_le (tgt := 49) hx hb dX6_add_19 (by decide) (fun _ => ?_) (fun h9 => absurd (by decide +kernel) h9)
  refine lv_iload hx hb dX6_add_49 (lv_at hl 0 rfl) ?_
  refine lv_if_lt (tgt := 67) hx hb dX6_add_51 (by decide) (fun h9 => absurd h9 (by decide +kernel)) (fun _ => ?_)
  refine lv_iload hx hb dX6_add_54 (lv_at hl 0 rfl) ?_
  refine lv_bipush (v := 6) hx hb dX6_add_56 (by decide +kernel) ?_
  refine lv_iadd hx hb dX6_add_58 ?_
  refine nrm (y := 12) (by decide +kernel) ?_
  refine lv_aload_n hx hb dX6_add_59 rfl (lv_at hl 1 rfl) ?_
  refine va_get (D := D) (ci := 6) (v := .ref h1) (C := RX6) (T := TX6) (N := 2) hx hb hts inX6 hown hK hP 0 rfl rfl 0 (by decide) (hts _ wm_156) (fun _ h9 => h9) rfl dX6_add_60 ?_
  refine pcn (b := 63) rfl ?_
  refine va_alen (v := 144) hx hb hK hP 1 0 rfl rfl (by decide +kernel) dX6_add_63 ?_
  refine lv_icmp_le (tgt := 69) hx hb dX6_add_64 (by decide) (fun _ => ?_) (fun h9 => absurd (by decide +kernel) h9)
  refine lv_aload_n hx hb dX6_add_69 rfl (lv_at hl 1 rfl) ?_
  refine va_get (D := D) (ci := 6) (v := .ref h1) (C := RX6) (T := TX6) (N := 2) hx hb hts inX6 hown hK hP 0 rfl rfl 0 (by decide) (hts _ wm_156) (fun _ h9 => h9) rfl dX6_add_70 ?_
  refine lv_iload hx hb dX6_add_73 (lv_at hl 0 rfl) ?_
  refine lv_iload_n hx hb dX6_add_75 rfl (lv_at hl 2 rfl) ?_
  refine as_i (k := 6) hx hb hK hP hD hS 1 0 rfl rfl (vpi (by decide +kernel)) (by decide +kernel) dX6_add_76 (fun H locs hP hD hS => ?_)
  have hP : va_P D vwCl [(h0, .inr (6, [.ref h1, .int 1])), (h1, .inl (cI, 144, .inl (upd (upd (upd (upd (upd (upd (fun _ => 0) 1 (-1)) 2 (-1)) 3 1) 4 1) 5 (-1)) 6 1)))] H := hP
  have hD : va_D A [(h0, .inr (6, [.ref h1, .int 1])), (h1, .inl (cI, 144, .inl (upd (upd (upd (upd (upd (upd (fun _ => 0) 1 (-1)) 2 (-1)) 3 1) 4 1) 5 (-1)) 6 1)))] := hD
  refine lv_aload_n hx hb dX6_add_77 rfl (lv_at hl 1 rfl) ?_
  refine va_get (D := D) (ci := 6) (v := .ref h1) (C := RX6) (T := TX6) (N := 2) hx hb hts inX6 hown hK hP 0 rfl rfl 0 (by decide) (hts _ wm_156) (fun _ h9 => h9) rfl dX6_add_78 ?_
  refine pcn (b := 81) rfl ?_
  refine lv_iload hx hb dX6_add_81 (lv_at hl 0 rfl) ?_
  refine lv_iconst (v := 1) hx hb dX6_add_83 (by decide +kernel) ?_
  refine lv_iadd hx hb dX6_add_84 ?_
  refine nrm (y := 7) (by decide +kernel) ?_
  refine lv_iload_n hx hb dX6_add_85 rfl (lv_at hl 3 rfl) ?_
  refine as_i (k := 7) hx hb hK hP hD hS 1 0 rfl rfl (vpi (by decide +kernel)) (by decide +kernel) dX6_add_86 (fun H locs hP hD hS => ?_)
  have hP : va_P D vwCl [(h0, .inr (6, [.ref h1, .int 1])), (h1, .inl (cI, 144, .inl (upd (upd (upd (upd (upd (upd (upd (fun _ => 0) 1 (-1)) 2 (-1)) 3 1) 4 1) 5 (-1)) 6 1) 7 (-1))))] H := hP
  have hD : va_D A [(h0, .inr (6, [.ref h1, .int 1])), (h1, .inl (cI, 144, .inl (upd (upd (upd (upd (upd (upd (upd (fun _ => 0) 1 (-1)) 2 (-1)) 3 1) 4 1) 5 (-1)) 6 1) 7 (-1))))] := hD
  refine lv_aload_n hx hb dX6_add_87 rfl (lv_at hl 1 rfl) ?_
  refine va_get (D := D) (ci := 6) (v := .ref h1) (C := RX6) (T := TX6) (N := 2) hx hb hts inX6 hown hK hP 0 rfl rfl 0 (by decide) (hts _ wm_156) (fun _ h9 => h9) rfl dX6_add_88 ?_
  refine lv_iload hx hb dX6_add_91 (lv_at hl 0 rfl) ?_
  refine pcn (b := 93) rfl ?_
  refine lv_iconst (v := 2) hx hb dX6_add_93 (by decide +kernel) ?_
  refine lv_iadd hx hb dX6_add_94 ?_
  refine nrm (y := 8) (by decide +kernel) ?_
  refine lv_iload_n hx hb dX6_add_95 rfl (lv_at hl 4 rfl) ?_
  refine as_i (k := 8) hx hb hK hP hD hS 1 0 rfl rfl (vpi (by decide +kernel)) (by decide +kernel) dX6_add_96 (fun H locs hP hD hS => ?_)
  have hP : va_P D vwCl [(h0, .inr (6, [.ref h1, .int 1])), (h1, .inl (cI, 144, .inl (upd (upd (upd (upd (upd (upd (upd (upd (fun _ => 0) 1 (-1)) 2 (-1)) 3 1) 4 1) 5 (-1)) 6 1) 7 (-1)) 8 (-1))))] H := hP
  have hD : va_D A [(h0, .inr (6, [.ref h1, .int 1])), (h1, .inl (cI, 144, .inl (upd (upd (upd (upd (upd (upd (upd (upd (fun _ => 0) 1 (-1)) 2 (-1)) 3 1) 4 1) 5 (-1)) 6 1) 7 (-1)) 8 (-1))))] := hD
  refine lv_aload_n hx hb dX6_add_97 rfl (lv_at hl 1 rfl) ?_
  refine va_get (D := D) (ci := 6) (v := .ref h1) (C := RX6) (T := TX6) (N := 2) hx hb hts inX6 hown hK hP 0 rfl rfl 0 (by decide) (hts _ wm_156) (fun _ h9 => h9) rfl dX6_add_98 ?_
  refine lv_iload hx hb dX6_add_101 (lv_at hl 0 rfl) ?_
  refine lv_iconst (v := 3) hx hb dX6_add_103 (by decide +kernel) ?_
  refine pcn (b := 104) rfl ?_
  refine lv_iadd hx hb dX6_add_104 ?_
  refine nrm (y := 9) (by decide +kernel) ?_
  refine lv_iload hx hb dX6_add_105 (lv_at hl 5 rfl) ?_
  refine as_i (k := 9) hx hb hK hP hD hS 1 0 rfl rfl (vpi (by decide +kernel)) (by decide +kernel) dX6_add_107 (fun H locs hP hD hS => ?_)
  have hP : va_P D vwCl [(h0, .inr (6, [.ref h1, .int 1])), (h1, .inl (cI, 144, .inl (upd (upd (upd (upd (upd (upd (upd (upd (upd (fun _ => 0) 1 (-1)) 2 (-1)) 3 1) 4 1) 5 (-1)) 6 1) 7 (-1)) 8 (-1)) 9 1)))] H := hP
  have hD : va_D A [(h0, .inr (6, [.ref h1, .int 1])), (h1, .inl (cI, 144, .inl (upd (upd (upd (upd (upd (upd (upd (upd (upd (fun _ => 0) 1 (-1)) 2 (-1)) 3 1) 4 1) 5 (-1)) 6 1) 7 (-1)) 8 (-1)) 9 1)))] := hD
  refine lv_aload_n hx hb dX6_add_108 rfl (lv_at hl 1 rfl) ?_
  refine va_get (D := D) (ci := 6) (v := .ref h1) (C := RX6) (T := TX6) (N := 2) hx hb hts inX6 hown hK hP 0 rfl rfl 0 (by decide) (hts _ wm_156) (fun _ h9 => h9) rfl dX6_add_109 ?_
  refine lv_iload hx hb dX6_add_112 (lv_at hl 0 rfl) ?_
  refine lv_iconst (v := 4) hx hb dX6_add_114 (by decide +kernel) ?_
  refine lv_iadd hx hb dX6_add_115 ?_
  refine nrm (y := 10) (by decide +kernel) ?_
  refine pcn (b := 116) rfl ?_
  refine lv_iload hx hb dX6_add_116 (lv_at hl 6 rfl) ?_
  refine as_i (k := 10) hx hb hK hP hD hS 1 0 rfl rfl (vpi (by decide +kernel)) (by decide +kernel) dX6_add_118 (fun H locs hP hD hS => ?_)
  have hP : va_P D vwCl [(h0, .inr (6, [.ref h1, .int 1])), (h1, .inl (cI, 144, .inl (upd (upd (upd (upd (upd (upd (upd (upd (upd (upd (fun _ => 0) 1 (-1)) 2 (-1)) 3 1) 4 1) 5 (-1)) 6 1) 7 (-1)) 8 (-1)) 9 1) 10 1)))] H := hP
  have hD : va_D A [(h0, .inr (6, [.ref h1, .int 1])), (h1, .inl (cI, 144, .inl (upd (upd (upd (upd (upd (upd (upd (upd (upd (upd (fun _ => 0) 1 (-1)) 2 (-1)) 3 1) 4 1) 5 (-1)) 6 1) 7 (-1)) 8 (-1)) 9 1) 10 1)))] := hD
  refine lv_aload_n hx hb dX6_add_119 rfl (lv_at hl 1 rfl) ?_
  refine va_get (D := D) (ci := 6) (v := .ref h1) (C := RX6) (T := TX6) (N := 2) hx hb hts inX6 hown hK hP 0 rfl rfl 0 (by decide) (hts _ wm_156) (fun _ h9 => h9) rfl dX6_add_120 ?_
  refine lv_iload hx hb dX6_add_123 (lv_at hl 0 rfl) ?_
  refine lv_iconst (v := 5) hx hb dX6_add_125 (by decide +kernel) ?_
  refine lv_iadd hx hb dX6_add_126 ?_
  refine nrm (y := 11) (by decide +kernel) ?_
  refine lv_iload hx hb dX6_add_127 (lv_at hl 7 rfl) ?_
  refine pcn (b := 129) rfl ?_
  refine as_i (k := 11) hx hb hK hP hD hS 1 0 rfl rfl (vpi (by decide +kernel)) (by decide +kernel) dX6_add_129 (fun H locs hP hD hS => ?_)
  have hP : va_P D vwCl [(h0, .inr (6, [.ref h1, .int 1])), (h1, .inl (cI, 144, .inl (upd (upd (upd (upd (upd (upd (upd (upd (upd (upd (upd (fun _ => 0) 1 (-1)) 2 (-1)) 3 1) 4 1) 5 (-1)) 6 1) 7 (-1)) 8 (-1)) 9 1) 10 1) 11 (-1))))] H := hP
  have hD : va_D A [(h0, .inr (6, [.ref h1, .int 1])), (h1, .inl (cI, 144, .inl (upd (upd (upd (upd (upd (upd (upd (upd (upd (upd (upd (fun _ => 0) 1 (-1)) 2 (-1)) 3 1) 4 1) 5 (-1)) 6 1) 7 (-1)) 8 (-1)) 9 1) 10 1) 11 (-1))))] := hD
  refine lv_aload_n hx hb dX6_add_130 rfl (lv_at hl 1 rfl) ?_
  refine lv_dup hx hb dX6_add_131 rfl ?_
  refine va_get (D := D) (ci := 6) (v := .int 1) (C := RX6) (T := TX6) (N := 2) hx hb hts inX6 hown hK hP 0 rfl rfl 1 (by decide) (hts _ wm_157) (fun _ h9 => h9) rfl dX6_add_132 ?_
  refine lv_iconst (v := 1) hx hb dX6_add_135 (by decide +kernel) ?_
  refine lv_iadd hx hb dX6_add_136 ?_
  refine nrm (y := 2) (by decide +kernel) ?_
  refine va_put (D := D) (ci := 6) (v := .int 2) (ty := .int) (C := RX6) (T := TX6) (N := 2) hx hb hts inX6 tyX6 tyX6_ok nmX6 hown hK hP hD hS 0 rfl rfl 1 (by decide) (hts _ wm_157) (fun _ h9 => h9) rfl (by decide +kernel) rfl rfl (Nat.le_of_ble_eq_true rfl) dX6_add_137 (fun H locs hP hD hS => ?_)
  have hP : va_P D vwCl [(h0, .inr (6, [.ref h1, .int 2])), (h1, .inl (cI, 144, .inl (upd (upd (upd (upd (upd (upd (upd (upd (upd (upd (upd (fun _ => 0) 1 (-1)) 2 (-1)) 3 1) 4 1) 5 (-1)) 6 1) 7 (-1)) 8 (-1)) 9 1) 10 1) 11 (-1))))] H := hP
  have hD : va_D A [(h0, .inr (6, [.ref h1, .int 2])), (h1, .inl (cI, 144, .inl (upd (upd (upd (upd (upd (upd (upd (upd (upd (upd (upd (fun _ => 0) 1 (-1)) 2 (-1)) 3 1) 4 1) 5 (-1)) 6 1) 7 (-1)) 8 (-1)) 9 1) 10 1) 11 (-1))))] := hD
  refine lv_aload_n hx hb dX6_add_140 rfl (lv_at hl 1 rfl) ?_
  refine pcn (b := 141) rfl ?_
  refine va_get (D := D) (ci := 6) (v := .int 2) (C := RX6) (T := TX6) (N := 2) hx hb hts inX6 hown hK hP 0 rfl rfl 1 (by decide) (hts _ wm_157) (fun _ h9 => h9) rfl dX6_add_141 ?_
  refine lv_iconst (v := 1) hx hb dX6_add_144 (by decide +kernel) ?_
  refine lv_isub hx hb dX6_add_145 ?_
  refine nrm (y := 1) (by decide +kernel) ?_
  refine W.widen (k := 0) (n := 0) (Nat.le_of_ble_eq_true rfl) (Nat.le_of_ble_eq_true rfl) ?_
  exact rtI hx hb hr hlocks hS hP hD ⟨rfl, rfl⟩ dX6_add_146

set_option maxHeartbeats 4000000 in
set_option maxRecDepth 100000 in
theorem c_X11_put_1 (l : Launch) (D : va_G) (cI cZ cB cJ : ClassId) (h0 : Nat) : CtV l D (TT cI cZ cB cJ) yX11_put cX11_put 3 none 0 0 0 0 [.ref h0, .int 38, .int 1] [(h0, .inl (cI, 64, .inl (upd (fun _ => (-1)) 31 0)))] (fun w1 => w1 = [(h0, .inl (cI, 64, .inl (upd (upd (fun _ => (-1)) 31 0) 38 1)))]) := by
  refine CtV.of (by decide +kernel) (Nat.le_of_ble_eq_true rfl) ?_
  intro p e s m below meth c A ls hx hb hr hml hown hts hnw hlocks hin hA hS hP hK hD hl
  have hown : s.vm.findClass RX11 = some m.cls := hown
  have hl : lv_has ls 3 [(0, .ref h0), (1, .int 38), (2, .int 1)] := hl
  refine lv_iload_n hx hb dX11_put_0 rfl (lv_at hl 1 rfl) ?_
  refine lv_if_lt (tgt := 14) hx hb dX11_put_1 (by decide) (fun h9 => absurd h9 (by decide +kernel)) (fun _ => ?_)
  refine lv_iload_n hx hb dX11_put_4 rfl (lv_at hl 1 rfl) ?_
  refine lv_aload_n hx hb dX11_put_5 rfl (lv_at hl 0 rfl) ?_
  refine va_alen (v := 64) hx hb hK hP 0 0 rfl rfl (by decide +kernel) dX11_put_6 ?_
  refine lv_icmp_ge (tgt := 14) hx hb dX11_put_7 (by decide) (fun h9 => absurd h9 (by decide +kernel)) (fun _ => ?_)
  refine lv_aload_n hx hb dX11_put_10 rfl (lv_at hl 0 rfl) ?_
  refine pcn (b := 11) rfl ?_
  refine lv_iload_n hx hb dX11_put_11 rfl (lv_at hl 1 rfl) ?_
  refine lv_iload_n hx hb dX11_put_12 rfl (lv_at hl 2 rfl) ?_
  refine as_i (k := 38) hx hb hK hP hD hS 0 0 rfl rfl (vpi (by decide +kernel)) (by decide +kernel) dX11_put_13 (fun H locs hP hD hS => ?_)
  have hP : va_P D vwCl [(h0, .inl (cI, 64, .inl (upd (upd (fun _ => (-1)) 31 0) 38 1)))] H := hP
  have hD : va_D A [(h0, .inl (cI, 64, .inl (upd (upd (fun _ => (-1)) 31 0) 38 1)))] := hD
  refine W.widen (k := 0) (n := 0) (Nat.le_of_ble_eq_true rfl) (Nat.le_of_ble_eq_true rfl) ?_
  exact rtV hx hb hr hlocks hS hP hD rfl dX11_put_14

set_option maxHeartbeats 4000000 in
set_option maxRecDepth 100000 in
theorem c_X4_find_1 (l : Launch) (D : va_G) (cI cZ cB cJ : ClassId) (h0 h1 h2 h3 : Nat) : CtI l D (TT cI cZ cB cJ) yX4_find cX4_find 10 (some .int) 1 27 0 0 [.ref h0, .int 1, .int (-1), .int (-1)] [(h0, .inr (4, [.ref h2, .ref h1])), (h1, .inl (cI, 64, .inl (upd (fun _ => (-1)) 31 0))), (h2, .inr (6, [.ref h3, .int 1])), (h3, .inl (cI, 144, .inl (upd (upd (upd (upd (upd (fun _ => 0) 1 (-1)) 2 (-1)) 3 1) 4 1) 5 (-1))))] (fun r w1 => r = 1 ∧ w1 = [(h0, .inr (4, [.ref h2, .ref h1])), (h1, .inl (cI, 64, .inl (upd (upd (fun _ => (-1)) 31 0) 38 1))), (h2, .inr (6, [.ref h3, .int 2])), (h3, .inl (cI, 144, .inl (upd (upd (upd (upd (upd (upd (upd (upd (upd (upd (upd (fun _ => 0) 1 (-1)) 2 (-1)) 3 1) 4 1) 5 (-1)) 6 1) 7 (-1)) 8 (-1)) 9 1) 10 1) 11 (-1))))]) := by
  refine CtI.of (by decide +kernel) (Nat.le_of_ble_eq_true rfl) ?_
  intro p e s m below meth c A ls hx hb hr hml hown hts hnw hlocks hin hA hS hP hK hD hl
  have hown : s.vm.findClass RX4 = some m.cls := hown
  have hl : lv_has ls 10 [(0, .ref h0), (1, .int 1), (2, .int (-1)), (3, .int (-1))] := hl
  refine lv_iload_n hx hb dX4_find_0 rfl (lv_at hl 1 rfl) ?_
  refine lv_iload_n hx hb dX4_find_1 rfl (lv_at hl 2 rfl) ?_
  refine lv_iload_n hx hb dX4_find_2 rfl (lv_at hl 3 rfl) ?_
  refine kSi (As := [.int 1, .int (-1), .int (-1)]) (rest := []) (wr := [(h0, .inr (4, [.ref h2, .ref h1])), (h1, .inl (cI, 64, .inl (upd (fun _ => (-1)) 31 0))), (h2, .inr (6, [.ref h3, .int 1])), (h3, .inl (cI, 144, .inl (upd (upd (upd (upd (upd (fun _ => 0) 1 (-1)) 2 (-1)) 3 1) 4 1) 5 (-1))))]) hx hb hml hown hts hnw hK hP hD hS hA hl.1 (c_X4_bucketOf_1 l D cI cZ cB cJ) yk_X4_bucketOf wm_184 [] [0, 1, 2, 3] rfl rfl (by decide) (by decide) (by decide) rfl rfl dX4_find_3 ⟨Nat.le_of_ble_eq_true rfl, Nat.le_of_ble_eq_true rfl⟩ ⟨Nat.le_of_ble_eq_true rfl, Nat.le_of_ble_eq_true rfl⟩ (Nat.le_of_ble_eq_true rfl) (fun r9 w1 H locs hq9 hP hD hS => ?_)
  obtain ⟨rfl, rfl⟩ := hq9
  have hP : va_P D vwCl [(h0, .inr (4, [.ref h2, .ref h1])), (h1, .inl (cI, 64, .inl (upd (fun _ => (-1)) 31 0))), (h2, .inr (6, [.ref h3, .int 1])), (h3, .inl (cI, 144, .inl (upd (upd (upd (upd (upd (fun _ => 0) 1 (-1)) 2 (-1)) 3 1) 4 1) 5 (-1))))] H := hP
  have hD : va_D A [(h0, .inr (4, [.ref h2, .ref h1])), (h1, .inl (cI, 64, .inl (upd (fun _ => (-1)) 31 0))), (h2, .inr (6, [.ref h3, .int 1])), (h3, .inl (cI, 144, .inl (upd (upd (upd (upd (upd (fun _ => 0) 1 (-1)) 2 (-1)) 3 1) 4 1) 5 (-1))))] := hD
  refine W.widen (k := 0) (n := 0) (Nat.le_of_ble_eq_true rfl) (Nat.le_of_ble_eq_true rfl) ?_
  refine pcn (b := 6) rfl ?_
  refine lv_istore (lv' := [(4, .int 38), (0, .ref h0), (1, .int 1), (2, .int (-1)), (3, .int (-1))]) hx hb dX4_find_6 hl (by decide) rfl (fun ls hl => ?_)
  refine lv_aload_n hx hb dX4_find_8 rfl (lv_at hl 1 rfl) ?_
  refine va_get (D := D) (ci := 4) (v := .ref h1) (C := RX4) (T := TX4) (N := 2) hx hb hts inX4 hown hK hP 0 rfl rfl 1 (by decide) (hts _ wm_174) (fun _ h9 => h9) rfl dX4_find_9 ?_
  refine lv_iload hx hb dX4_find_12 (lv_at hl 0 rfl) ?_
  refine kSNi (As := [.ref h1, .int 38]) (rest := []) (wr := [(h0, .inr (4, [.ref h2, .ref h1])), (h2, .inr (6, [.ref h3, .int 1])), (h3, .inl (cI, 144, .inl (upd (upd (upd (upd (upd (fun _ => 0) 1 (-1)) 2 (-1)) 3 1) 4 1) 5 (-1))))]) hx hb hml hown hts hnw hK hP hD hS hA hl.1 (c_X11_at_1 l D cI cZ cB cJ h1) yk_X11_at wn_187 [1] [0, 2, 3] rfl rfl (by decide) (by decide) (by decide) rfl rfl dX4_find_14 ⟨Nat.le_of_ble_eq_true rfl, Nat.le_of_ble_eq_true rfl⟩ ⟨Nat.le_of_ble_eq_true rfl, Nat.le_of_ble_eq_true rfl⟩ (Nat.le_of_ble_eq_true rfl) (fun r9 w1 H locs hq9 hP hD hS => ?_)
  obtain ⟨rfl, rfl⟩ := hq9
  have hP : va_P D vwCl [(h0, .inr (4, [.ref h2, .ref h1])), (h2, .inr (6, [.ref h3, .int 1])), (h3, .inl (cI, 144, .inl (upd (upd (upd (upd (upd (fun _ => 0) 1 (-1)) 2 (-1)) 3 1) 4 1) 5 (-1)))), (h1, .inl (cI, 64, .inl (upd (fun _ => (-1)) 31 0)))] H := hP
  have hD : va_D A [(h0, .inr (4, [.ref h2, .ref h1])), (h2, .inr (6, [.ref h3, .int 1])), (h3, .inl (cI, 144, .inl (upd (upd (upd (upd (upd (fun _ => 0) 1 (-1)) 2 (-1)) 3 1) 4 1) 5 (-1)))), (h1, .inl (cI, 64, .inl (upd (fun _ => (-1)) 31 0)))] := hD
  refine W.widen (k := 0) (n := 0) (Nat.le_of_ble_eq_true rfl) (Nat.le_of_ble_eq_true rfl) ?_
  refine pcn (b := 17) rfl ?_
  refine lv_istore (lv' := [(5, .int (-1)), (4, .int 38), (0, .ref h0), (1, .int 1), (2, .int (-1)), (3, .int (-1))]) hx hb dX4_find_17 hl (by decide) rfl (fun ls hl => ?_)
  refine lv_iload hx hb dX4_find_19 (lv_at hl 0 rfl) ?_
  refine lv_istore (lv' := [(6, .int (-1)), (5, .int (-1)), (4, .int 38), (0, .ref h0), (1, .int 1), (2, .int (-1)), (3, .int (-1))]) hx hb dX4_find_21 hl (by decide) rfl (fun ls hl => ?_)
  refine lv_iconst (v := 0) hx hb dX4_find_23 (by decide +kernel) ?_
  refine lv_istore (lv' := [(7, .int 0), (6, .int (-1)), (5, .int (-1)), (4, .int 38), (0, .ref h0), (1, .int 1), (2, .int (-1)), (3, .int (-1))]) hx hb dX4_find_24 hl (by decide) rfl (fun ls hl => ?_)
  refine lv_iload hx hb dX4_find_26 (lv_at hl 1 rfl) ?_
  refine lv_if_lt (tgt := 74) hx hb dX4_find_28 (by decide) (fun _ => ?_) (fun h9 => absurd (by decide +kernel) h9)
  refine lv_iconst (v := 1) hx hb dX4_find_74 (by decide +kernel) ?_
  refine lv_iconst (v := 0) hx hb dX4_find_75 (by decide +kernel) ?_
  refine lv_aload_n hx hb dX4_find_76 rfl (lv_at hl 4 rfl) ?_
  refine va_get (D := D) (ci := 4) (v := .ref h2) (C := RX4) (T := TX4) (N := 2) hx hb hts inX4 hown hK hP 0 rfl rfl 0 (by decide) (hts _ wm_171) (fun _ h9 => h9) rfl dX4_find_77 ?_
  refine lv_iload_n hx hb dX4_find_80 rfl (lv_at hl 6 rfl) ?_
  refine lv_iconst (v := 3) hx hb dX4_find_81 (by decide +kernel) ?_
  refine kVNi (As := [.int (-1), .int 3]) (rest := [.int 0, .int 1]) (wr := [(h0, .inr (4, [.ref h2, .ref h1])), (h3, .inl (cI, 144, .inl (upd (upd (upd (upd (upd (fun _ => 0) 1 (-1)) 2 (-1)) 3 1) 4 1) 5 (-1)))), (h1, .inl (cI, 64, .inl (upd (fun _ => (-1)) 31 0)))]) hx hb hml hown hts hnw hK hP hD hS hA hl.1 (c_X6_get_2 l D cI cZ cB cJ h2 h3) yk_X6_get wn_195 [1] [0, 2, 3] rfl rfl (by decide) (by decide) (by decide) 0 rfl rfl rfl rfl rfl dX4_find_82 ⟨Nat.le_of_ble_eq_true rfl, Nat.le_of_ble_eq_true rfl⟩ ⟨Nat.le_of_ble_eq_true rfl, Nat.le_of_ble_eq_true rfl⟩ (Nat.le_of_ble_eq_true rfl) (fun r9 w1 H locs hq9 hP hD hS => ?_)
  obtain ⟨rfl, rfl⟩ := hq9
  have hP : va_P D vwCl [(h0, .inr (4, [.ref h2, .ref h1])), (h3, .inl (cI, 144, .inl (upd (upd (upd (upd (upd (fun _ => 0) 1 (-1)) 2 (-1)) 3 1) 4 1) 5 (-1)))), (h1, .inl (cI, 64, .inl (upd (fun _ => (-1)) 31 0))), (h2, .inr (6, [.ref h3, .int 1]))] H := hP
  have hD : va_D A [(h0, .inr (4, [.ref h2, .ref h1])), (h3, .inl (cI, 144, .inl (upd (upd (upd (upd (upd (fun _ => 0) 1 (-1)) 2 (-1)) 3 1) 4 1) 5 (-1)))), (h1, .inl (cI, 64, .inl (upd (fun _ => (-1)) 31 0))), (h2, .inr (6, [.ref h3, .int 1]))] := hD
  refine W.widen (k := 0) (n := 0) (Nat.le_of_ble_eq_true rfl) (Nat.le_of_ble_eq_true rfl) ?_
  refine pcn (b := 85) rfl ?_
  refine va_mmax hx hb (hml.trans hl.1.symm) hown (hts _ wm_199) (hts _ wm_154) (hts _ wm_8) (hts _ wm_155) (Nat.le_of_ble_eq_true rfl) (Nat.le_of_ble_eq_true rfl) (Nat.le_of_ble_eq_true rfl) (Nat.le_of_ble_eq_true rfl) dX4_find_85 ?_
  refine nrm (y := 0) (by decide +kernel) ?_
  refine lv_iadd hx hb dX4_find_88 ?_
  refine nrm (y := 1) (by decide +kernel) ?_
  refine lv_iconst (v := 0) hx hb dX4_find_89 (by decide +kernel) ?_
  refine lv_aload_n hx hb dX4_find_90 rfl (lv_at hl 4 rfl) ?_
  refine va_get (D := D) (ci := 4) (v := .ref h2) (C := RX4) (T := TX4) (N := 2) hx hb hts inX4 hown hK hP 0 rfl rfl 0 (by decide) (hts _ wm_171) (fun _ h9 => h9) rfl dX4_find_91 ?_
  refine lv_iload_n hx hb dX4_find_94 rfl (lv_at hl 7 rfl) ?_
  refine lv_iconst (v := 3) hx hb dX4_find_95 (by decide +kernel) ?_
  refine pcn (b := 96) rfl ?_
  refine kVNi (As := [.int (-1), .int 3]) (rest := [.int 0, .int 1]) (wr := [(h0, .inr (4, [.ref h2, .ref h1])), (h3, .inl (cI, 144, .inl (upd (upd (upd (upd (upd (fun _ => 0) 1 (-1)) 2 (-1)) 3 1) 4 1) 5 (-1)))), (h1, .inl (cI, 64, .inl (upd (fun _ => (-1)) 31 0)))]) hx hb hml hown hts hnw hK hP hD hS hA hl.1 (c_X6_get_2 l D cI cZ cB cJ h2 h3) yk_X6_get wn_195 [3] [0, 1, 2] rfl rfl (by decide) (by decide) (by decide) 0 rfl rfl rfl rfl rfl dX4_find_96 ⟨Nat.le_of_ble_eq_true rfl, Nat.le_of_ble_eq_true rfl⟩ ⟨Nat.le_of_ble_eq_true rfl, Nat.le_of_ble_eq_true rfl⟩ (Nat.le_of_ble_eq_true rfl) (fun r9 w1 H locs hq9 hP hD hS => ?_)
  obtain ⟨rfl, rfl⟩ := hq9
  have hP : va_P D vwCl [(h0, .inr (4, [.ref h2, .ref h1])), (h3, .inl (cI, 144, .inl (upd (upd (upd (upd (upd (fun _ => 0) 1 (-1)) 2 (-1)) 3 1) 4 1) 5 (-1)))), (h1, .inl (cI, 64, .inl (upd (fun _ => (-1)) 31 0))), (h2, .inr (6, [.ref h3, .int 1]))] H := hP
  have hD : va_D A [(h0, .inr (4, [.ref h2, .ref h1])), (h3, .inl (cI, 144, .inl (upd (upd (upd (upd (upd (fun _ => 0) 1 (-1)) 2 (-1)) 3 1) 4 1) 5 (-1)))), (h1, .inl (cI, 64, .inl (upd (fun _ => (-1)) 31 0))), (h2, .inr (6, [.ref h3, .int 1]))] := hD
  refine W.widen (k := 0) (n := 0) (Nat.le_of_ble_eq_true rfl) (Nat.le_of_ble_eq_true rfl) ?_
  refine pcn (b := 99) rfl ?_
  refine va_mmax hx hb (hml.trans hl.1.symm) hown (hts _ wm_199) (hts _ wm_154) (hts _ wm_8) (hts _ wm_155) (Nat.le_of_ble_eq_true rfl) (Nat.le_of_ble_eq_true rfl) (Nat.le_of_ble_eq_true rfl) (Nat.le_of_ble_eq_true rfl) dX4_find_99 ?_
  refine nrm (y := 0) (by decide +kernel) ?_
  refine lv_iadd hx hb dX4_find_102 ?_
  refine nrm (y := 1) (by decide +kernel) ?_
  refine lv_istore (lv' := [(7, .int 1), (6, .int (-1)), (5, .int (-1)), (4, .int 38), (0, .ref h0), (1, .int 1), (2, .int (-1)), (3, .int (-1))]) hx hb dX4_find_103 hl (by decide) rfl (fun ls hl => ?_)
  refine lv_iconst (v := 1) hx hb dX4_find_105 (by decide +kernel) ?_
  refine lv_aload_n hx hb dX4_find_106 rfl (lv_at hl 4 rfl) ?_
  refine va_get (D := D) (ci := 4) (v := .ref h2) (C := RX4) (T := TX4) (N := 2) hx hb hts inX4 hown hK hP 0 rfl rfl 0 (by decide) (hts _ wm_171) (fun _ h9 => h9) rfl dX4_find_107 ?_
  refine lv_iload_n hx hb dX4_find_110 rfl (lv_at hl 6 rfl) ?_
  refine pcn (b := 111) rfl ?_
  refine lv_iconst (v := 4) hx hb dX4_find_111 (by decide +kernel) ?_
  refine kVNi (As := [.int (-1), .int 4]) (rest := [.int 1]) (wr := [(h0, .inr (4, [.ref h2, .ref h1])), (h3, .inl (cI, 144, .inl (upd (upd (upd (upd (upd (fun _ => 0) 1 (-1)) 2 (-1)) 3 1) 4 1) 5 (-1)))), (h1, .inl (cI, 64, .inl (upd (fun _ => (-1)) 31 0)))]) hx hb hml hown hts hnw hK hP hD hS hA hl.1 (c_X6_get_3 l D cI cZ cB cJ h2 h3) yk_X6_get wn_195 [3] [0, 1, 2] rfl rfl (by decide) (by decide) (by decide) 0 rfl rfl rfl rfl rfl dX4_find_112 ⟨Nat.le_of_ble_eq_true rfl, Nat.le_of_ble_eq_true rfl⟩ ⟨Nat.le_of_ble_eq_true rfl, Nat.le_of_ble_eq_true rfl⟩ (Nat.le_of_ble_eq_true rfl) (fun r9 w1 H locs hq9 hP hD hS => ?_)
  obtain ⟨rfl, rfl⟩ := hq9
  have hP : va_P D vwCl [(h0, .inr (4, [.ref h2, .ref h1])), (h3, .inl (cI, 144, .inl (upd (upd (upd (upd (upd (fun _ => 0) 1 (-1)) 2 (-1)) 3 1) 4 1) 5 (-1)))), (h1, .inl (cI, 64, .inl (upd (fun _ => (-1)) 31 0))), (h2, .inr (6, [.ref h3, .int 1]))] H := hP
  have hD : va_D A [(h0, .inr (4, [.ref h2, .ref h1])), (h3, .inl (cI, 144, .inl (upd (upd (upd (upd (upd (fun _ => 0) 1 (-1)) 2 (-1)) 3 1) 4 1) 5 (-1)))), (h1, .inl (cI, 64, .inl (upd (fun _ => (-1)) 31 0))), (h2, .inr (6, [.ref h3, .int 1]))] := hD
  refine W.widen (k := 0) (n := 0) (Nat.le_of_ble_eq_true rfl) (Nat.le_of_ble_eq_true rfl) ?_
  refine pcn (b := 115) rfl ?_
  refine va_mmax hx hb (hml.trans hl.1.symm) hown (hts _ wm_199) (hts _ wm_154) (hts _ wm_8) (hts _ wm_155) (Nat.le_of_ble_eq_true rfl) (Nat.le_of_ble_eq_true rfl) (Nat.le_of_ble_eq_true rfl) (Nat.le_of_ble_eq_true rfl) dX4_find_115 ?_
  refine nrm (y := 1) (by decide +kernel) ?_
  refine lv_istore (lv' := [(8, .int 1), (7, .int 1), (6, .int (-1)), (5, .int (-1)), (4, .int 38), (0, .ref h0), (1, .int 1), (2, .int (-1)), (3, .int (-1))]) hx hb dX4_find_118 hl (by decide) rfl (fun ls hl => ?_)
  refine lv_iload_n hx hb dX4_find_120 rfl (lv_at hl 8 rfl) ?_
  refine lv_if_lt (tgt := 142) hx hb dX4_find_121 (by decide) (fun _ => ?_) (fun h9 => absurd (by decide +kernel) h9)
  refine lv_aload_n hx hb dX4_find_142 rfl (lv_at hl 5 rfl) ?_
  refine va_get (D := D) (ci := 4) (v := .ref h2) (C := RX4) (T := TX4) (N := 2) hx hb hts inX4 hown hK hP 0 rfl rfl 0 (by decide) (hts _ wm_171) (fun _ h9 => h9) rfl dX4_find_143 ?_
  refine lv_iload_n hx hb dX4_find_146 rfl (lv_at hl 6 rfl) ?_
  refine lv_iload_n hx hb dX4_find_147 rfl (lv_at hl 7 rfl) ?_
  refine lv_iload_n hx hb dX4_find_148 rfl (lv_at hl 8 rfl) ?_
  refine lv_iload hx hb dX4_find_149 (lv_at hl 1 rfl) ?_
  refine lv_iload hx hb dX4_find_151 (lv_at hl 0 rfl) ?_
  refine pcn (b := 153) rfl ?_
  refine lv_iload hx hb dX4_find_153 (lv_at hl 3 rfl) ?_
  refine kVNi (As := [.int 1, .int (-1), .int (-1), .int 1, .int 1, .int (-1)]) (rest := []) (wr := [(h0, .inr (4, [.ref h2, .ref h1])), (h1, .inl (cI, 64, .inl (upd (fun _ => (-1)) 31 0)))]) hx hb hml hown hts hnw hK hP hD hS hA hl.1 (c_X6_add_1 l D cI cZ cB cJ h2 h3) yk_X6_add wn_200 [3, 1] [0, 2] rfl rfl (by decide) (by decide) (by decide) 0 rfl rfl rfl rfl rfl dX4_find_155 ⟨Nat.le_of_ble_eq_true rfl, Nat.le_of_ble_eq_true rfl⟩ ⟨Nat.le_of_ble_eq_true rfl, Nat.le_of_ble_eq_true rfl⟩ (Nat.le_of_ble_eq_true rfl) (fun r9 w1 H locs hq9 hP hD hS => ?_)
  obtain ⟨rfl, rfl⟩ := hq9
  have hP : va_P D vwCl [(h0, .inr (4, [.ref h2, .ref h1])), (h1, .inl (cI, 64, .inl (upd (fun _ => (-1)) 31 0))), (h2, .inr (6, [.ref h3, .int 2])), (h3, .inl (cI, 144, .inl (upd (upd (upd (upd (upd (upd (upd (upd (upd (upd (upd (fun _ => 0) 1 (-1)) 2 (-1)) 3 1) 4 1) 5 (-1)) 6 1) 7 (-1)) 8 (-1)) 9 1) 10 1) 11 (-1))))] H := hP
  have hD : va_D A [(h0, .inr (4, [.ref h2, .ref h1])), (h1, .inl (cI, 64, .inl (upd (fun _ => (-1)) 31 0))), (h2, .inr (6, [.ref h3, .int 2])), (h3, .inl (cI, 144, .inl (upd (upd (upd (upd (upd (upd (upd (upd (upd (upd (upd (fun _ => 0) 1 (-1)) 2 (-1)) 3 1) 4 1) 5 (-1)) 6 1) 7 (-1)) 8 (-1)) 9 1) 10 1) 11 (-1))))] := hD
  refine W.widen (k := 0) (n := 0) (Nat.le_of_ble_eq_true rfl) (Nat.le_of_ble_eq_true rfl) ?_
  refine pcn (b := 158) rfl ?_
  refine lv_istore (lv' := [(9, .int 1), (8, .int 1), (7, .int 1), (6, .int (-1)), (5, .int (-1)), (4, .int 38), (0, .ref h0), (1, .int 1), (2, .int (-1)), (3, .int (-1))]) hx hb dX4_find_158 hl (by decide) rfl (fun ls hl => ?_)
  refine lv_iload hx hb dX4_find_160 (lv_at hl 0 rfl) ?_
  refine lv_if_lt (tgt := 176) hx hb dX4_find_162 (by decide) (fun h9 => absurd h9 (by decide +kernel)) (fun _ => ?_)
  refine lv_aload_n hx hb dX4_find_165 rfl (lv_at hl 6 rfl) ?_
  refine va_get (D := D) (ci := 4) (v := .ref h1) (C := RX4) (T := TX4) (N := 2) hx hb hts inX4 hown hK hP 0 rfl rfl 1 (by decide) (hts _ wm_174) (fun _ h9 => h9) rfl dX4_find_166 ?_
  refine lv_iload hx hb dX4_find_169 (lv_at hl 5 rfl) ?_
  refine lv_iload hx hb dX4_find_171 (lv_at hl 0 rfl) ?_
  refine pcn (b := 173) rfl ?_
  refine kSNv (As := [.ref h1, .int 38, .int 1]) (rest := []) (wr := [(h0, .inr (4, [.ref h2, .ref h1])), (h2, .inr (6, [.ref h3, .int 2])), (h3, .inl (cI, 144, .inl (upd (upd (upd (upd (upd (upd (upd (upd (upd (upd (upd (fun _ => 0) 1 (-1)) 2 (-1)) 3 1) 4 1) 5 (-1)) 6 1) 7 (-1)) 8 (-1)) 9 1) 10 1) 11 (-1))))]) hx hb hml hown hts hnw hK hP hD hS hA hl.1 (c_X11_put_1 l D cI cZ cB cJ h1) yk_X11_put wn_218 [1] [0, 2, 3] rfl rfl (by decide) (by decide) (by decide) rfl rfl dX4_find_173 ⟨Nat.le_of_ble_eq_true rfl, Nat.le_of_ble_eq_true rfl⟩ ⟨Nat.le_of_ble_eq_true rfl, Nat.le_of_ble_eq_true rfl⟩ (Nat.le_of_ble_eq_true rfl) (fun w1 H locs hq9 hP hD hS => ?_)
  obtain rfl := hq9
  have hP : va_P D vwCl [(h0, .inr (4, [.ref h2, .ref h1])), (h2, .inr (6, [.ref h3, .int 2])), (h3, .inl (cI, 144, .inl (upd (upd (upd (upd (upd (upd (upd (upd (upd (upd (upd (fun _ => 0) 1 (-1)) 2 (-1)) 3 1) 4 1) 5 (-1)) 6 1) 7 (-1)) 8 (-1)) 9 1) 10 1) 11 (-1)))), (h1, .inl (cI, 64, .inl (upd (upd (fun _ => (-1)) 31 0) 38 1)))] H := hP
  have hD : va_D A [(h0, .inr (4, [.ref h2, .ref h1])), (h2, .inr (6, [.ref h3, .int 2])), (h3, .inl (cI, 144, .inl (upd (upd (upd (upd (upd (upd (upd (upd (upd (upd (upd (fun _ => 0) 1 (-1)) 2 (-1)) 3 1) 4 1) 5 (-1)) 6 1) 7 (-1)) 8 (-1)) 9 1) 10 1) 11 (-1)))), (h1, .inl (cI, 64, .inl (upd (upd (fun _ => (-1)) 31 0) 38 1)))] := hD
  refine W.widen (k := 0) (n := 0) (Nat.le_of_ble_eq_true rfl) (Nat.le_of_ble_eq_true rfl) ?_
  refine pcn (b := 176) rfl ?_
  refine lv_iload hx hb dX4_find_176 (lv_at hl 0 rfl) ?_
  refine W.widen (k := 0) (n := 0) (Nat.le_of_ble_eq_true rfl) (Nat.le_of_ble_eq_true rfl) ?_
  have hP := hP.sub (ws' := [(h0, .inr (4, [.ref h2, .ref h1])), (h1, .inl (cI, 64, .inl (upd (upd (fun _ => (-1)) 31 0) 38 1))), (h2, .inr (6, [.ref h3, .int 2])), (h3, .inl (cI, 144, .inl (upd (upd (upd (upd (upd (upd (upd (upd (upd (upd (upd (fun _ => 0) 1 (-1)) 2 (-1)) 3 1) 4 1) 5 (-1)) 6 1) 7 (-1)) 8 (-1)) 9 1) 10 1) 11 (-1))))]) [0, 3, 1, 2] rfl
  have hD := hD.sub (ws' := [(h0, .inr (4, [.ref h2, .ref h1])), (h1, .inl (cI, 64, .inl (upd (upd (fun _ => (-1)) 31 0) 38 1))), (h2, .inr (6, [.ref h3, .int 2])), (h3, .inl (cI, 144, .inl (upd (upd (upd (upd (upd (upd (upd (upd (upd (upd (upd (fun _ => 0) 1 (-1)) 2 (-1)) 3 1) 4 1) 5 (-1)) 6 1) 7 (-1)) 8 (-1)) 9 1) 10 1) 11 (-1))))]) [0, 3, 1, 2] (by decide) rfl
  exact rtI hx hb hr hlocks hS hP hD ⟨rfl, rfl⟩ dX4_find_178
