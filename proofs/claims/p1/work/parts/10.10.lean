set_option maxHeartbeats 4000000 in
set_option maxRecDepth 100000 in
theorem c_X10_sign_12 (l : Launch) (D : va_G) (cI cZ cB cJ : ClassId) (h0 : Nat) (s0 : Int32) (s0l : (3 : Int) ≤ s0.toInt) (s0h : s0.toInt ≤ (2147483647 : Int)) : CtV l D (TT cI cZ cB cJ) yX10_sign cX10_sign 2 none 0 0 0 0 [.ref h0, .int 105] [(h0, .inr (10, [.int s0, .int 0, .int (-4)]))] (fun w1 => w1 = [(h0, .inr (10, [.int s0, .int 1, .int (-4)]))]) := by
  refine CtV.of (by decide +kernel) (Nat.le_of_ble_eq_true rfl) ?_
  intro p e s m below meth c A ls hx hb hr hml hown hts hnw hlocks hin hA hS hP hK hD hl
  have hown : s.vm.findClass RX10 = some m.cls := hown
  have hl : lv_has ls 2 [(0, .ref h0), (1, .int 105)] := hl
  refine lv_aload_n hx hb dX10_sign_0 rfl (lv_at hl 0 rfl) ?_
  refine va_get (D := D) (ci := 10) (v := .int 0) (C := RX10) (T := TX10) (N := 3) hx hb hts inX10 hown hK hP 0 rfl rfl 1 (by decide) (hts _ wm_416) (fun _ h9 => h9) rfl dX10_sign_1 ?_
  refine lv_sipush (v := 3000) hx hb dX10_sign_4 (by decide +kernel) ?_
  refine lv_icmp_lt (tgt := 11) hx hb dX10_sign_7 (by decide) (fun _ => ?_) (fun h9 => absurd (by decide +kernel) h9)
  refine lv_aload_n hx hb dX10_sign_11 rfl (lv_at hl 0 rfl) ?_
  refine va_get (D := D) (ci := 10) (v := .int 0) (C := RX10) (T := TX10) (N := 3) hx hb hts inX10 hown hK hP 0 rfl rfl 1 (by decide) (hts _ wm_416) (fun _ h9 => h9) rfl dX10_sign_12 ?_
  refine lv_aload_n hx hb dX10_sign_15 rfl (lv_at hl 0 rfl) ?_
  refine va_get (D := D) (ci := 10) (v := .int s0) (C := RX10) (T := TX10) (N := 3) hx hb hts inX10 hown hK hP 0 rfl rfl 0 (by decide) (hts _ wm_415) (fun _ h9 => h9) rfl dX10_sign_16 ?_
  refine lv_icmp_ne (tgt := 27) hx hb dX10_sign_19 (by decide) (fun _ => ?_) (fun h9 => absurd h9 (iv_ne (by decide +kernel : (0 : Int32).toInt ≤ (0 : Int)) s0l (by decide)))
  refine lv_aload_n hx hb dX10_sign_27 rfl (lv_at hl 0 rfl) ?_
  refine lv_dup hx hb dX10_sign_28 rfl ?_
  refine va_get (D := D) (ci := 10) (v := .int 0) (C := RX10) (T := TX10) (N := 3) hx hb hts inX10 hown hK hP 0 rfl rfl 1 (by decide) (hts _ wm_416) (fun _ h9 => h9) rfl dX10_sign_29 ?_
  refine lv_iconst (v := 1) hx hb dX10_sign_32 (by decide +kernel) ?_
  refine lv_iadd hx hb dX10_sign_33 ?_
  refine nrm (y := 1) (by decide +kernel) ?_
  refine va_put (D := D) (ci := 10) (v := .int 1) (ty := .int) (C := RX10) (T := TX10) (N := 3) hx hb hts inX10 tyX10 tyX10_ok nmX10 hown hK hP hD hS 0 rfl rfl 1 (by decide) (hts _ wm_416) (fun _ h9 => h9) rfl (by decide +kernel) rfl rfl (Nat.le_of_ble_eq_true rfl) dX10_sign_34 (fun H locs hP hD hS => ?_)
  have hP : va_P D vwCl [(h0, .inr (10, [.int s0, .int 1, .int (-4)]))] H := hP
  have hD : va_D A [(h0, .inr (10, [.int s0, .int 1, .int (-4)]))] := hD
  refine W.widen (k := 0) (n := 0) (Nat.le_of_ble_eq_true rfl) (Nat.le_of_ble_eq_true rfl) ?_
  exact rtV hx hb hr hlocks hS hP hD rfl dX10_sign_37

set_option maxHeartbeats 4000000 in
set_option maxRecDepth 100000 in
theorem c_X10_sign_13 (l : Launch) (D : va_G) (cI cZ cB cJ : ClassId) (h0 : Nat) (s0 : Int32) (s0l : (3 : Int) ≤ s0.toInt) (s0h : s0.toInt ≤ (2147483647 : Int)) : CtV l D (TT cI cZ cB cJ) yX10_sign cX10_sign 2 none 0 0 0 0 [.ref h0, .int 110] [(h0, .inr (10, [.int s0, .int 1, .int (-4)]))] (fun w1 => w1 = [(h0, .inr (10, [.int s0, .int 2, .int (-4)]))]) := by
  refine CtV.of (by decide +kernel) (Nat.le_of_ble_eq_true rfl) ?_
  intro p e s m below meth c A ls hx hb hr hml hown hts hnw hlocks hin hA hS hP hK hD hl
  have hown : s.vm.findClass RX10 = some m.cls := hown
  have hl : lv_has ls 2 [(0, .ref h0), (1, .int 110)] := hl
  refine lv_aload_n hx hb dX10_sign_0 rfl (lv_at hl 0 rfl) ?_
  refine va_get (D := D) (ci := 10) (v := .int 1) (C := RX10) (T := TX10) (N := 3) hx hb hts inX10 hown hK hP 0 rfl rfl 1 (by decide) (hts _ wm_416) (fun _ h9 => h9) rfl dX10_sign_1 ?_
  refine lv_sipush (v := 3000) hx hb dX10_sign_4 (by decide +kernel) ?_
  refine lv_icmp_lt (tgt := 11) hx hb dX10_sign_7 (by decide) (fun _ => ?_) (fun h9 => absurd (by decide +kernel) h9)
  refine lv_aload_n hx hb dX10_sign_11 rfl (lv_at hl 0 rfl) ?_
  refine va_get (D := D) (ci := 10) (v := .int 1) (C := RX10) (T := TX10) (N := 3) hx hb hts inX10 hown hK hP 0 rfl rfl 1 (by decide) (hts _ wm_416) (fun _ h9 => h9) rfl dX10_sign_12 ?_
  refine lv_aload_n hx hb dX10_sign_15 rfl (lv_at hl 0 rfl) ?_
  refine va_get (D := D) (ci := 10) (v := .int s0) (C := RX10) (T := TX10) (N := 3) hx hb hts inX10 hown hK hP 0 rfl rfl 0 (by decide) (hts _ wm_415) (fun _ h9 => h9) rfl dX10_sign_16 ?_
  refine lv_icmp_ne (tgt := 27) hx hb dX10_sign_19 (by decide) (fun _ => ?_) (fun h9 => absurd h9 (iv_ne (by decide +kernel : (1 : Int32).toInt ≤ (1 : Int)) s0l (by decide)))
  refine lv_aload_n hx hb dX10_sign_27 rfl (lv_at hl 0 rfl) ?_
  refine lv_dup hx hb dX10_sign_28 rfl ?_
  refine va_get (D := D) (ci := 10) (v := .int 1) (C := RX10) (T := TX10) (N := 3) hx hb hts inX10 hown hK hP 0 rfl rfl 1 (by decide) (hts _ wm_416) (fun _ h9 => h9) rfl dX10_sign_29 ?_
  refine lv_iconst (v := 1) hx hb dX10_sign_32 (by decide +kernel) ?_
  refine lv_iadd hx hb dX10_sign_33 ?_
  refine nrm (y := 2) (by decide +kernel) ?_
  refine va_put (D := D) (ci := 10) (v := .int 2) (ty := .int) (C := RX10) (T := TX10) (N := 3) hx hb hts inX10 tyX10 tyX10_ok nmX10 hown hK hP hD hS 0 rfl rfl 1 (by decide) (hts _ wm_416) (fun _ h9 => h9) rfl (by decide +kernel) rfl rfl (Nat.le_of_ble_eq_true rfl) dX10_sign_34 (fun H locs hP hD hS => ?_)
  have hP : va_P D vwCl [(h0, .inr (10, [.int s0, .int 2, .int (-4)]))] H := hP
  have hD : va_D A [(h0, .inr (10, [.int s0, .int 2, .int (-4)]))] := hD
  refine W.widen (k := 0) (n := 0) (Nat.le_of_ble_eq_true rfl) (Nat.le_of_ble_eq_true rfl) ?_
  exact rtV hx hb hr hlocks hS hP hD rfl dX10_sign_37

set_option maxHeartbeats 4000000 in
set_option maxRecDepth 100000 in
theorem c_X10_sign_14 (l : Launch) (D : va_G) (cI cZ cB cJ : ClassId) (h0 : Nat) (s0 : Int32) (s0l : (3 : Int) ≤ s0.toInt) (s0h : s0.toInt ≤ (2147483647 : Int)) : CtV l D (TT cI cZ cB cJ) yX10_sign cX10_sign 2 none 0 0 0 0 [.ref h0, .int 116] [(h0, .inr (10, [.int s0, .int 2, .int (-4)]))] (fun w1 => w1 = [(h0, .inr (10, [.int s0, .int 3, .int (-4)]))]) := by
  refine CtV.of (by decide +kernel) (Nat.le_of_ble_eq_true rfl) ?_
  intro p e s m below meth c A ls hx hb hr hml hown hts hnw hlocks hin hA hS hP hK hD hl
  have hown : s.vm.findClass RX10 = some m.cls := hown
  have hl : lv_has ls 2 [(0, .ref h0), (1, .int 116)] := hl
  refine lv_aload_n hx hb dX10_sign_0 rfl (lv_at hl 0 rfl) ?_
  refine va_get (D := D) (ci := 10) (v := .int 2) (C := RX10) (T := TX10) (N := 3) hx hb hts inX10 hown hK hP 0 rfl rfl 1 (by decide) (hts _ wm_416) (fun _ h9 => h9) rfl dX10_sign_1 ?_
  refine lv_sipush (v := 3000) hx hb dX10_sign_4 (by decide +kernel) ?_
  refine lv_icmp_lt (tgt := 11) hx hb dX10_sign_7 (by decide) (fun _ => ?_) (fun h9 => absurd (by decide +kernel) h9)
  refine lv_aload_n hx hb dX10_sign_11 rfl (lv_at hl 0 rfl) ?_
  refine va_get (D := D) (ci := 10) (v := .int 2) (C := RX10) (T := TX10) (N := 3) hx hb hts inX10 hown hK hP 0 rfl rfl 1 (by decide) (hts _ wm_416) (fun _ h9 => h9) rfl dX10_sign_12 ?_
  refine lv_aload_n hx hb dX10_sign_15 rfl (lv_at hl 0 rfl) ?_
  refine va_get (D := D) (ci := 10) (v := .int s0) (C := RX10) (T := TX10) (N := 3) hx hb hts inX10 hown hK hP 0 rfl rfl 0 (by decide) (hts _ wm_415) (fun _ h9 => h9) rfl dX10_sign_16 ?_
  refine lv_icmp_ne (tgt := 27) hx hb dX10_sign_19 (by decide) (fun _ => ?_) (fun h9 => absurd h9 (iv_ne (by decide +kernel : (2 : Int32).toInt ≤ (2 : Int)) s0l (by decide)))
  refine lv_aload_n hx hb dX10_sign_27 rfl (lv_at hl 0 rfl) ?_
  refine lv_dup hx hb dX10_sign_28 rfl ?_
  refine va_get (D := D) (ci := 10) (v := .int 2) (C := RX10) (T := TX10) (N := 3) hx hb hts inX10 hown hK hP 0 rfl rfl 1 (by decide) (hts _ wm_416) (fun _ h9 => h9) rfl dX10_sign_29 ?_
  refine lv_iconst (v := 1) hx hb dX10_sign_32 (by decide +kernel) ?_
  refine lv_iadd hx hb dX10_sign_33 ?_
  refine nrm (y := 3) (by decide +kernel) ?_
  refine va_put (D := D) (ci := 10) (v := .int 3) (ty := .int) (C := RX10) (T := TX10) (N := 3) hx hb hts inX10 tyX10 tyX10_ok nmX10 hown hK hP hD hS 0 rfl rfl 1 (by decide) (hts _ wm_416) (fun _ h9 => h9) rfl (by decide +kernel) rfl rfl (Nat.le_of_ble_eq_true rfl) dX10_sign_34 (fun H locs hP hD hS => ?_)
  have hP : va_P D vwCl [(h0, .inr (10, [.int s0, .int 3, .int (-4)]))] H := hP
  have hD : va_D A [(h0, .inr (10, [.int s0, .int 3, .int (-4)]))] := hD
  refine W.widen (k := 0) (n := 0) (Nat.le_of_ble_eq_true rfl) (Nat.le_of_ble_eq_true rfl) ?_
  exact rtV hx hb hr hlocks hS hP hD rfl dX10_sign_37

set_option maxHeartbeats 4000000 in
set_option maxRecDepth 100000 in
theorem c_X10_word_4 (l : Launch) (D : va_G) (cI cZ cB cJ : ClassId) (ak kv : Nat) (fo : Option Nat) (h0 : Nat) (s0 : Int32) (s0l : (3 : Int) ≤ s0.toInt) (s0h : s0.toInt ≤ (2147483647 : Int)) : CtVS ak kv fo l D (TT cI cZ cB cJ) yX10_word cX10_word 3 none 4 85 0 0 [.ref h0, .ref ak] [(h0, .inr (10, [.int s0, .int 0, .int (-4)]))] (fun w1 => w1 = [(h0, .inr (10, [.int s0, .int 3, .int (-4)]))]) := by
  refine CtVS.of (by decide +kernel) (Nat.le_of_ble_eq_true rfl) ?_
  intro p e s m below meth c A ls hSX hx hb hr hml hown hts hnw hlocks hin hA hS hP hK hD hl
  have hown : s.vm.findClass RX10 = some m.cls := hown
  have hl : lv_has ls 3 [(0, .ref h0), (1, .ref ak)] := hl
  refine lv_iconst (v := 0) hx hb dX10_word_0 (by decide +kernel) ?_
  refine lv_istore_n (lv' := [(2, .int 0), (0, .ref h0), (1, .ref ak)]) hx hb dX10_word_1 rfl hl (by decide) rfl (fun ls hl => ?_)
  refine lv_iload_n hx hb dX10_word_2 rfl (lv_at hl 0 rfl) ?_
  refine lv_aload_n hx hb dX10_word_3 rfl (lv_at hl 2 rfl) ?_
  refine zVi (As := []) (rest := [.int 0]) (wr := [(h0, .inr (10, [.int s0, .int 0, .int (-4)]))]) hSX hx hb hml hown hts hnw hK hP hD hS hA hl.1 (c_length l D cI cZ cB cJ ak kv fo) yk_J0_length_8abf5 wm_875 [] [0] rfl rfl (by decide) (by decide) (by decide) (hSX.recv hS) rfl rfl dX10_word_4 ⟨Nat.le_of_ble_eq_true rfl, Nat.le_of_ble_eq_true rfl⟩ ⟨Nat.le_of_ble_eq_true rfl, Nat.le_of_ble_eq_true rfl⟩ (Nat.le_of_ble_eq_true rfl) (fun r9 w1 H locs hq9 hP hD hS => ?_)
  obtain ⟨rfl, rfl⟩ := hq9
  have hP : va_P D vwCl [(h0, .inr (10, [.int s0, .int 0, .int (-4)]))] H := hP
  have hD : va_D A [(h0, .inr (10, [.int s0, .int 0, .int (-4)]))] := hD
  refine W.widen (k := 0) (n := 0) (Nat.le_of_ble_eq_true rfl) (Nat.le_of_ble_eq_true rfl) ?_
  refine pcn (b := 7) rfl ?_
  refine lv_icmp_ge (tgt := 25) hx hb dX10_word_7 (by decide) (fun h9 => absurd h9 (by decide +kernel)) (fun _ => ?_)
  refine lv_aload_n hx hb dX10_word_10 rfl (lv_at hl 1 rfl) ?_
  refine lv_aload_n hx hb dX10_word_11 rfl (lv_at hl 2 rfl) ?_
  refine lv_iload_n hx hb dX10_word_12 rfl (lv_at hl 0 rfl) ?_
  refine zVi (As := [.int 0]) (rest := [.ref h0]) (wr := [(h0, .inr (10, [.int s0, .int 0, .int (-4)]))]) hSX hx hb hml hown hts hnw hK hP hD hS hA hl.1 (c_charAt0 l D cI cZ cB cJ ak kv fo) yk_J0_charAt_5068e wm_885 [] [0] rfl rfl (by decide) (by decide) (by decide) (hSX.recv hS) rfl rfl dX10_word_13 ⟨Nat.le_of_ble_eq_true rfl, Nat.le_of_ble_eq_true rfl⟩ ⟨Nat.le_of_ble_eq_true rfl, Nat.le_of_ble_eq_true rfl⟩ (Nat.le_of_ble_eq_true rfl) (fun r9 w1 H locs hq9 hP hD hS => ?_)
  obtain ⟨rfl, rfl⟩ := hq9
  have hP : va_P D vwCl [(h0, .inr (10, [.int s0, .int 0, .int (-4)]))] H := hP
  have hD : va_D A [(h0, .inr (10, [.int s0, .int 0, .int (-4)]))] := hD
  refine W.widen (k := 0) (n := 0) (Nat.le_of_ble_eq_true rfl) (Nat.le_of_ble_eq_true rfl) ?_
  refine pcn (b := 16) rfl ?_
  refine kVv (As := [.int 105]) (rest := []) (wr := []) hx hb hml hown hts hnw hK hP hD hS hA hl.1 (c_X10_sign_12 l D cI cZ cB cJ h0 s0 s0l s0h) yk_X10_sign wm_866 [0] [] rfl rfl (by decide) (by decide) (by decide) 0 rfl rfl rfl rfl rfl dX10_word_16 ⟨Nat.le_of_ble_eq_true rfl, Nat.le_of_ble_eq_true rfl⟩ ⟨Nat.le_of_ble_eq_true rfl, Nat.le_of_ble_eq_true rfl⟩ (Nat.le_of_ble_eq_true rfl) (fun w1 H locs hq9 hP hD hS => ?_)
  obtain rfl := hq9
  have hP : va_P D vwCl [(h0, .inr (10, [.int s0, .int 1, .int (-4)]))] H := hP
  have hD : va_D A [(h0, .inr (10, [.int s0, .int 1, .int (-4)]))] := hD
  refine W.widen (k := 0) (n := 0) (Nat.le_of_ble_eq_true rfl) (Nat.le_of_ble_eq_true rfl) ?_
  refine pcn (b := 19) rfl ?_
  refine lv_iinc (v := 1) (lv' := [(2, .int 1), (0, .ref h0), (1, .ref ak)]) hx hb dX10_word_19 hl (k := 0) rfl (by decide +kernel) (by decide) rfl (fun ls hl => ?_)
  refine lv_goto (tgt := 2) hx hb dX10_word_22 (by decide) ?_
  refine lv_iload_n hx hb dX10_word_2 rfl (lv_at hl 0 rfl) ?_
  refine lv_aload_n hx hb dX10_word_3 rfl (lv_at hl 2 rfl) ?_
  refine zVi (As := []) (rest := [.int 1]) (wr := [(h0, .inr (10, [.int s0, .int 1, .int (-4)]))]) hSX hx hb hml hown hts hnw hK hP hD hS hA hl.1 (c_length l D cI cZ cB cJ ak kv fo) yk_J0_length_8abf5 wm_875 [] [0] rfl rfl (by decide) (by decide) (by decide) (hSX.recv hS) rfl rfl dX10_word_4 ⟨Nat.le_of_ble_eq_true rfl, Nat.le_of_ble_eq_true rfl⟩ ⟨Nat.le_of_ble_eq_true rfl, Nat.le_of_ble_eq_true rfl⟩ (Nat.le_of_ble_eq_true rfl) (fun r9 w1 H locs hq9 hP hD hS => ?_)
  obtain ⟨rfl, rfl⟩ := hq9
  have hP : va_P D vwCl [(h0, .inr (10, [.int s0, .int 1, .int (-4)]))] H := hP
  have hD : va_D A [(h0, .inr (10, [.int s0, .int 1, .int (-4)]))] := hD
  refine W.widen (k := 0) (n := 0) (Nat.le_of_ble_eq_true rfl) (Nat.le_of_ble_eq_true rfl) ?_
  refine pcn (b := 7) rfl ?_
  refine lv_icmp_ge (tgt := 25) hx hb dX10_word_7 (by decide) (fun h9 => absurd h9 (by decide +kernel)) (fun _ => ?_)
  refine lv_aload_n hx hb dX10_word_10 rfl (lv_at hl 1 rfl) ?_
  refine lv_aload_n hx hb dX10_word_11 rfl (lv_at hl 2 rfl) ?_
  refine lv_iload_n hx hb dX10_word_12 rfl (lv_at hl 0 rfl) ?_
  refine zVi (As := [.int 1]) (rest := [.ref h0]) (wr := [(h0, .inr (10, [.int s0, .int 1, .int (-4)]))]) hSX hx hb hml hown hts hnw hK hP hD hS hA hl.1 (c_charAt1 l D cI cZ cB cJ ak kv fo) yk_J0_charAt_5068e wm_885 [] [0] rfl rfl (by decide) (by decide) (by decide) (hSX.recv hS) rfl rfl dX10_word_13 ⟨Nat.le_of_ble_eq_true rfl, Nat.le_of_ble_eq_true rfl⟩ ⟨Nat.le_of_ble_eq_true rfl, Nat.le_of_ble_eq_true rfl⟩ (Nat.le_of_ble_eq_true rfl) (fun r9 w1 H locs hq9 hP hD hS => ?_)
  obtain ⟨rfl, rfl⟩ := hq9
  have hP : va_P D vwCl [(h0, .inr (10, [.int s0, .int 1, .int (-4)]))] H := hP
  have hD : va_D A [(h0, .inr (10, [.int s0, .int 1, .int (-4)]))] := hD
  refine W.widen (k := 0) (n := 0) (Nat.le_of_ble_eq_true rfl) (Nat.le_of_ble_eq_true rfl) ?_
  refine pcn (b := 16) rfl ?_
  refine kVv (As := [.int 110]) (rest := []) (wr := []) hx hb hml hown hts hnw hK hP hD hS hA hl.1 (c_X10_sign_13 l D cI cZ cB cJ h0 s0 s0l s0h) yk_X10_sign wm_866 [0] [] rfl rfl (by decide) (by decide) (by decide) 0 rfl rfl rfl rfl rfl dX10_word_16 ⟨Nat.le_of_ble_eq_true rfl, Nat.le_of_ble_eq_true rfl⟩ ⟨Nat.le_of_ble_eq_true rfl, Nat.le_of_ble_eq_true rfl⟩ (Nat.le_of_ble_eq_true rfl) (fun w1 H locs hq9 hP hD hS => ?_)
  obtain rfl := hq9
  have hP : va_P D vwCl [(h0, .inr (10, [.int s0, .int 2, .int (-4)]))] H := hP
  have hD : va_D A [(h0, .inr (10, [.int s0, .int 2, .int (-4)]))] := hD
  refine W.widen (k := 0) (n := 0) (Nat.le_of_ble_eq_true rfl) (Nat.le_of_ble_eq_true rfl) ?_
  refine pcn (b := 19) rfl ?_
  refine lv_iinc (v := 2) (lv' := [(2, .int 2), (0, .ref h0), (1, .ref ak)]) hx hb dX10_word_19 hl (k := 0) rfl (by decide +kernel) (by decide) rfl (fun ls hl => ?_)
  refine lv_goto (tgt := 2) hx hb dX10_word_22 (by decide) ?_
  refine lv_iload_n hx hb dX10_word_2 rfl (lv_at hl 0 rfl) ?_
  refine lv_aload_n hx hb dX10_word_3 rfl (lv_at hl 2 rfl) ?_
  refine zVi (As := []) (rest := [.int 2]) (wr := [(h0, .inr (10, [.int s0, .int 2, .int (-4)]))]) hSX hx hb hml hown hts hnw hK hP hD hS hA hl.1 (c_length l D cI cZ cB cJ ak kv fo) yk_J0_length_8abf5 wm_875 [] [0] rfl rfl (by decide) (by decide) (by decide) (hSX.recv hS) rfl rfl dX10_word_4 ⟨Nat.le_of_ble_eq_true rfl, Nat.le_of_ble_eq_true rfl⟩ ⟨Nat.le_of_ble_eq_true rfl, Nat.le_of_ble_eq_true rfl⟩ (Nat.le_of_ble_eq_true rfl) (fun r9 w1 H locs hq9 hP hD hS => ?_)
  obtain ⟨rfl, rfl⟩ := hq9
  have hP : va_P D vwCl [(h0, .inr (10, [.int s0, .int 2, .int (-4)]))] H := hP
  have hD : va_D A [(h0, .inr (10, [.int s0, .int 2, .int (-4)]))] := hD
  refine W.widen (k := 0) (n := 0) (Nat.le_of_ble_eq_true rfl) (Nat.le_of_ble_eq_true rfl) ?_
  refine pcn (b := 7) rfl ?_
  refine lv_icmp_ge (tgt := 25) hx hb dX10_word_7 (by decide) (fun h9 => absurd h9 (by decide +kernel)) (fun _ => ?_)
  refine lv_aload_n hx hb dX10_word_10 rfl (lv_at hl 1 rfl) ?_
  refine lv_aload_n hx hb dX10_word_11 rfl (lv_at hl 2 rfl) ?_
  refine lv_iload_n hx hb dX10_word_12 rfl (lv_at hl 0 rfl) ?_
  refine zVi (As := [.int 2]) (rest := [.ref h0]) (wr := [(h0, .inr (10, [.int s0, .int 2, .int (-4)]))]) hSX hx hb hml hown hts hnw hK hP hD hS hA hl.1 (c_charAt2 l D cI cZ cB cJ ak kv fo) yk_J0_charAt_5068e wm_885 [] [0] rfl rfl (by decide) (by decide) (by decide) (hSX.recv hS) rfl rfl dX10_word_13 ⟨Nat.le_of_ble_eq_true rfl, Nat.le_of_ble_eq_true rfl⟩ ⟨Nat.le_of_ble_eq_true rfl, Nat.le_of_ble_eq_true rfl⟩ (Nat.le_of_ble_eq_true rfl) (fun r9 w1 H locs hq9 hP hD hS => ?_)
  obtain ⟨rfl, rfl⟩ := hq9
  have hP : va_P D vwCl [(h0, .inr (10, [.int s0, .int 2, .int (-4)]))] H := hP
  have hD : va_D A [(h0, .inr (10, [.int s0, .int 2, .int (-4)]))] := hD
  refine W.widen (k := 0) (n := 0) (Nat.le_of_ble_eq_true rfl) (Nat.le_of_ble_eq_true rfl) ?_
  refine pcn (b := 16) rfl ?_
  refine kVv (As := [.int 116]) (rest := []) (wr := []) hx hb hml hown hts hnw hK hP hD hS hA hl.1 (c_X10_sign_14 l D cI cZ cB cJ h0 s0 s0l s0h) yk_X10_sign wm_866 [0] [] rfl rfl (by decide) (by decide) (by decide) 0 rfl rfl rfl rfl rfl dX10_word_16 ⟨Nat.le_of_ble_eq_true rfl, Nat.le_of_ble_eq_true rfl⟩ ⟨Nat.le_of_ble_eq_true rfl, Nat.le_of_ble_eq_true rfl⟩ (Nat.le_of_ble_eq_true rfl) (fun w1 H locs hq9 hP hD hS => ?_)
  obtain rfl := hq9
  have hP : va_P D vwCl [(h0, .inr (10, [.int s0, .int 3, .int (-4)]))] H := hP
  have hD : va_D A [(h0, .inr (10, [.int s0, .int 3, .int (-4)]))] := hD
  refine W.widen (k := 0) (n := 0) (Nat.le_of_ble_eq_true rfl) (Nat.le_of_ble_eq_true rfl) ?_
  refine pcn (b := 19) rfl ?_
  refine lv_iinc (v := 3) (lv' := [(2, .int 3), (0, .ref h0), (1, .ref ak)]) hx hb dX10_word_19 hl (k := 0) rfl (by decide +kernel) (by decide) rfl (fun ls hl => ?_)
  refine lv_goto (tgt := 2) hx hb dX10_word_22 (by decide) ?_
  refine lv_iload_n hx hb dX10_word_2 rfl (lv_at hl 0 rfl) ?_
  refine lv_aload_n hx hb dX10_word_3 rfl (lv_at hl 2 rfl) ?_
  refine zVi (As := []) (rest := [.int 3]) (wr := [(h0, .inr (10, [.int s0, .int 3, .int (-4)]))]) hSX hx hb hml hown hts hnw hK hP hD hS hA hl.1 (c_length l D cI cZ cB cJ ak kv fo) yk_J0_length_8abf5 wm_875 [] [0] rfl rfl (by decide) (by decide) (by decide) (hSX.recv hS) rfl rfl dX10_word_4 ⟨Nat.le_of_ble_eq_true rfl, Nat.le_of_ble_eq_true rfl⟩ ⟨Nat.le_of_ble_eq_true rfl, Nat.le_of_ble_eq_true rfl⟩ (Nat.le_of_ble_eq_true rfl) (fun r9 w1 H locs hq9 hP hD hS => ?_)
  obtain ⟨rfl, rfl⟩ := hq9
  have hP : va_P D vwCl [(h0, .inr (10, [.int s0, .int 3, .int (-4)]))] H := hP
  have hD : va_D A [(h0, .inr (10, [.int s0, .int 3, .int (-4)]))] := hD
  refine W.widen (k := 0) (n := 0) (Nat.le_of_ble_eq_true rfl) (Nat.le_of_ble_eq_true rfl) ?_
  refine pcn (b := 7) rfl ?_
  refine lv_icmp_ge (tgt := 25) hx hb dX10_word_7 (by decide) (fun _ => ?_) (fun h9 => absurd (by decide +kernel) h9)
  refine W.widen (k := 0) (n := 0) (Nat.le_of_ble_eq_true rfl) (Nat.le_of_ble_eq_true rfl) ?_
  exact rtV hx hb hr hlocks hS hP hD rfl dX10_word_25

set_option maxHeartbeats 4000000 in
set_option maxRecDepth 100000 in
theorem c_X10_writeType_4 (l : Launch) (D : va_G) (cI cZ cB cJ : ClassId) (ak kv : Nat) (fo : Option Nat) (h0 g0 : Nat) (s0 : Int32) (s0l : (3 : Int) ≤ s0.toInt) (s0h : s0.toInt ≤ (2147483647 : Int)) : CtVS ak kv fo l D (TT cI cZ cB cJ) yX10_writeType cX10_writeType 4 none 5 107 0 0 [.ref h0, .ref g0, .int 1, .int 40] [(h0, .inr (10, [.int s0, .int 0, .int (-4)]))] (fun w1 => w1 = [(h0, .inr (10, [.int s0, .int 3, .int (-4)]))]) := by
  refine CtVS.of (by decide +kernel) (Nat.le_of_ble_eq_true rfl) ?_
  intro p e s m below meth c A ls hSX hx hb hr hml hown hts hnw hlocks hin hA hS hP hK hD hl
  have hown : s.vm.findClass RX10 = some m.cls := hown
  have hl : lv_has ls 4 [(0, .ref h0), (1, .ref g0), (2, .int 1), (3, .int 40)] := hl
  refine lv_iload_n hx hb dX10_writeType_0 rfl (lv_at hl 3 rfl) ?_
  refine lv_if_gt (tgt := 5) hx hb dX10_writeType_1 (by decide) (fun _ => ?_) (fun h9 => absurd (by decide +kernel) h9)
  refine lv_iload_n hx hb dX10_writeType_5 rfl (lv_at hl 2 rfl) ?_
  refine lv_if_ne (tgt := 18) hx hb dX10_writeType_6 (by decide) (fun _ => ?_) (fun h9 => absurd h9 (by decide +kernel))
  refine lv_iload_n hx hb dX10_writeType_18 rfl (lv_at hl 2 rfl) ?_
  refine lv_iconst (v := 1) hx hb dX10_writeType_19 (by decide +kernel) ?_
  refine lv_icmp_ne (tgt := 32) hx hb dX10_writeType_20 (by decide) (fun h9 => absurd (by decide +kernel) h9) (fun _ => ?_)
  refine lv_aload_n hx hb dX10_writeType_23 rfl (lv_at hl 0 rfl) ?_
  refine va_ldcS hx hb hown hSX.1 dX10_writeType_24 ?_
  refine zVv (As := [.ref ak]) (rest := []) (wr := []) hSX hx hb hml hown hts hnw hK hP hD hS hA hl.1 (c_X10_word_4 l D cI cZ cB cJ ak kv fo h0 s0 s0l s0h) yk_X10_word wm_871 [0] [] rfl rfl (by decide) (by decide) (by decide) (rcv hK hP 0 rfl rfl rfl) rfl rfl dX10_writeType_26 ⟨Nat.le_of_ble_eq_true rfl, Nat.le_of_ble_eq_true rfl⟩ ⟨Nat.le_of_ble_eq_true rfl, Nat.le_of_ble_eq_true rfl⟩ (Nat.le_of_ble_eq_true rfl) (fun w1 H locs hq9 hP hD hS => ?_)
  obtain rfl := hq9
  have hP : va_P D vwCl [(h0, .inr (10, [.int s0, .int 3, .int (-4)]))] H := hP
  have hD : va_D A [(h0, .inr (10, [.int s0, .int 3, .int (-4)]))] := hD
  refine W.widen (k := 0) (n := 0) (Nat.le_of_ble_eq_true rfl) (Nat.le_of_ble_eq_true rfl) ?_
  refine pcn (b := 29) rfl ?_
  refine lv_goto (tgt := 90) hx hb dX10_writeType_29 (by decide) ?_
  refine W.widen (k := 0) (n := 0) (Nat.le_of_ble_eq_true rfl) (Nat.le_of_ble_eq_true rfl) ?_
  exact rtV hx hb hr hlocks hS hP hD rfl dX10_writeType_90

set_option maxHeartbeats 4000000 in
set_option maxRecDepth 100000 in
theorem c_X11_writeText_11 (l : Launch) (D : va_G) (cI cZ cB cJ : ClassId) (ak kv : Nat) (fo : Option Nat) (h0 h1 h2 h3 h4 g0 g1 g2 g3 g4 g5 g6 g7 g8 g9 g10 g11 g12 g13 g14 g15 g16 g17 g18 g19 g20 g21 : Nat) (s0 : Int32) (s0l : (3 : Int) ≤ s0.toInt) (s0h : s0.toInt ≤ (2147483647 : Int)) : CtIS ak kv fo l D (TT cI cZ cB cJ) yX11_writeText cX11_writeText 5 (some .boolean) 6 130 0 0 [.ref h0, .int 1, .int 0] [(h0, .inr (11, [.ref g0, .int 0, .ref g1, .ref g2, .ref h1, .ref g3, .ref g4, .ref h4, .ref g5, .ref g6, .ref g7])), (h1, .inr (1, [.ref h2, .ref g8, .ref g9, .ref g10, .ref h3, .ref g11, .ref g12, .int 4, .int 3, .int 0, .int (-1), .int 0])), (h2, .inr (7, [.ref g13, .ref g14, .ref g15, .ref g16, .ref g17, .ref g18, .ref g19, .ref g20, .ref g21, .int 1, .int 1, .int 0])), (h3, .inl (cI, 60, .inl (upd (fun _ => 0) 0 1))), (h4, .inr (10, [.int s0, .int 0, .int (-4)]))] (fun r w1 => r = 1 ∧ w1 = [(h0, .inr (11, [.ref g0, .int 0, .ref g1, .ref g2, .ref h1, .ref g3, .ref g4, .ref h4, .ref g5, .ref g6, .ref g7])), (h1, .inr (1, [.ref h2, .ref g8, .ref g9, .ref g10, .ref h3, .ref g11, .ref g12, .int 4, .int 3, .int 0, .int (-1), .int 0])), (h2, .inr (7, [.ref g13, .ref g14, .ref g15, .ref g16, .ref g17, .ref g18, .ref g19, .ref g20, .ref g21, .int 1, .int 1, .int 0])), (h3, .inl (cI, 60, .inl (upd (fun _ => 0) 0 1))), (h4, .inr (10, [.int s0, .int 3, .int (-4)]))]) := by
  refine CtIS.of (by decide +kernel) (Nat.le_of_ble_eq_true rfl) ?_
  intro p e s m below meth c A ls hSX hx hb hr hml hown hts hnw hlocks hin hA hS hP hK hD hl
  have hown : s.vm.findClass RX11 = some m.cls := hown
  have hl : lv_has ls 5 [(0, .ref h0), (1, .int 1), (2, .int 0)] := hl
  refine lv_iload_n hx hb dX11_writeText_0 rfl (lv_at hl 2 rfl) ?_
  refine lv_if_lt (tgt := 13) hx hb dX11_writeText_1 (by decide) (fun h9 => absurd h9 (by decide +kernel)) (fun _ => ?_)
  refine lv_iload_n hx hb dX11_writeText_4 rfl (lv_at hl 2 rfl) ?_
  refine lv_aload_n hx hb dX11_writeText_5 rfl (lv_at hl 0 rfl) ?_
  refine lv_iload_n hx hb dX11_writeText_6 rfl (lv_at hl 1 rfl) ?_
  refine kVi (As := [.int 1]) (rest := [.int 0]) (wr := [(h3, .inl (cI, 60, .inl (upd (fun _ => 0) 0 1))), (h4, .inr (10, [.int s0, .int 0, .int (-4)]))]) hx hb hml hown hts hnw hK hP hD hS hA hl.1 (c_X11_textsOf_2 l D cI cZ cB cJ h0 h1 h2 g0 g1 g2 g3 g4 h4 g5 g6 g7 g8 g9 g10 h3 g11 g12 g13 g14 g15 g16 g17 g18 g19 g20 g21) yk_X11_textsOf wm_857 [0, 1, 2] [3, 4] rfl rfl (by decide) (by decide) (by decide) 0 rfl rfl rfl rfl rfl dX11_writeText_7 ⟨Nat.le_of_ble_eq_true rfl, Nat.le_of_ble_eq_true rfl⟩ ⟨Nat.le_of_ble_eq_true rfl, Nat.le_of_ble_eq_true rfl⟩ (Nat.le_of_ble_eq_true rfl) (fun r9 w1 H locs hq9 hP hD hS => ?_)
  obtain ⟨rfl, rfl⟩ := hq9
  have hP : va_P D vwCl [(h3, .inl (cI, 60, .inl (upd (fun _ => 0) 0 1))), (h4, .inr (10, [.int s0, .int 0, .int (-4)])), (h0, .inr (11, [.ref g0, .int 0, .ref g1, .ref g2, .ref h1, .ref g3, .ref g4, .ref h4, .ref g5, .ref g6, .ref g7])), (h1, .inr (1, [.ref h2, .ref g8, .ref g9, .ref g10, .ref h3, .ref g11, .ref g12, .int 4, .int 3, .int 0, .int (-1), .int 0])), (h2, .inr (7, [.ref g13, .ref g14, .ref g15, .ref g16, .ref g17, .ref g18, .ref g19, .ref g20, .ref g21, .int 1, .int 1, .int 0]))] H := hP
  have hD : va_D A [(h3, .inl (cI, 60, .inl (upd (fun _ => 0) 0 1))), (h4, .inr (10, [.int s0, .int 0, .int (-4)])), (h0, .inr (11, [.ref g0, .int 0, .ref g1, .ref g2, .ref h1, .ref g3, .ref g4, .ref h4, .ref g5, .ref g6, .ref g7])), (h1, .inr (1, [.ref h2, .ref g8, .ref g9, .ref g10, .ref h3, .ref g11, .ref g12, .int 4, .int 3, .int 0, .int (-1), .int 0])), (h2, .inr (7, [.ref g13, .ref g14, .ref g15, .ref g16, .ref g17, .ref g18, .ref g19, .ref g20, .ref g21, .int 1, .int 1, .int 0]))] := hD
  refine W.widen (k := 0) (n := 0) (Nat.le_of_ble_eq_true rfl) (Nat.le_of_ble_eq_true rfl) ?_
  refine pcn (b := 10) rfl ?_
  refine lv_icmp_lt (tgt := 15) hx hb dX11_writeText_10 (by decide) (fun _ => ?_) (fun h9 => absurd (by decide +kernel) h9)
  refine lv_aload_n hx hb dX11_writeText_15 rfl (lv_at hl 0 rfl) ?_
  refine va_get (D := D) (ci := 11) (v := .ref h1) (C := RX11) (T := TX11) (N := 11) hx hb hts inX11 hown hK hP 2 rfl rfl 4 (by decide) (hts _ wm_586) (fun _ h9 => h9) rfl dX11_writeText_16 ?_
  refine va_getN (D := D) (ci := 1) (v := .ref g8) (C := RX1) (T := TX1) (N := 12) hx hb hts inX1 hown hK hP 3 rfl rfl 1 (by decide) (va_Nw.use rfl (hnw _ wn_280)) (fun _ h9 => h9) rfl dX11_writeText_19 ?_
  refine lv_astore_n (lv' := [(3, .ref g8), (0, .ref h0), (1, .int 1), (2, .int 0)]) hx hb dX11_writeText_22 rfl hl (by decide) rfl (fun ls hl => ?_)
  refine lv_aload_n hx hb dX11_writeText_23 rfl (lv_at hl 1 rfl) ?_
  refine va_get (D := D) (ci := 11) (v := .ref h1) (C := RX11) (T := TX11) (N := 11) hx hb hts inX11 hown hK hP 2 rfl rfl 4 (by decide) (hts _ wm_586) (fun _ h9 => h9) rfl dX11_writeText_24 ?_
  refine va_getN (D := D) (ci := 1) (v := .ref g9) (C := RX1) (T := TX1) (N := 12) hx hb hts inX1 hown hK hP 3 rfl rfl 2 (by decide) (va_Nw.use rfl (hnw _ wn_284)) (fun _ h9 => h9) rfl dX11_writeText_27 ?_
  refine pcn (b := 30) rfl ?_
  refine lv_astore (lv' := [(4, .ref g9), (3, .ref g8), (0, .ref h0), (1, .int 1), (2, .int 0)]) hx hb dX11_writeText_30 hl (by decide) rfl (fun ls hl => ?_)
  refine lv_iload_n hx hb dX11_writeText_32 rfl (lv_at hl 3 rfl) ?_
  refine lv_tableIn (off := 77) (tgt := 110) hx hb dX11_writeText_33 (by decide +kernel) (by decide +kernel) (by decide +kernel) (by decide) ?_
  refine lv_aload_n hx hb dX11_writeText_110 rfl (lv_at hl 2 rfl) ?_
  refine va_get (D := D) (ci := 11) (v := .ref h4) (C := RX11) (T := TX11) (N := 11) hx hb hts inX11 hown hK hP 2 rfl rfl 7 (by decide) (hts _ wm_589) (fun _ h9 => h9) rfl dX11_writeText_111 ?_
  refine lv_aload_n hx hb dX11_writeText_114 rfl (lv_at hl 1 rfl) ?_
  refine lv_aload_n hx hb dX11_writeText_115 rfl (lv_at hl 2 rfl) ?_
  refine va_get (D := D) (ci := 11) (v := .ref h1) (C := RX11) (T := TX11) (N := 11) hx hb hts inX11 hown hK hP 2 rfl rfl 4 (by decide) (hts _ wm_586) (fun _ h9 => h9) rfl dX11_writeText_116 ?_
  refine va_getN (D := D) (ci := 1) (v := .ref h3) (C := RX1) (T := TX1) (N := 12) hx hb hts inX1 hown hK hP 3 rfl rfl 4 (by decide) (va_Nw.use rfl (hnw _ wn_289)) (fun _ h9 => h9) rfl dX11_writeText_119 ?_
  refine lv_iload_n hx hb dX11_writeText_122 rfl (lv_at hl 4 rfl) ?_
  refine pcn (b := 123) rfl ?_
  refine kSi (As := [.ref h3, .int 0]) (rest := [.ref g8, .ref h4]) (wr := [(h4, .inr (10, [.int s0, .int 0, .int (-4)])), (h0, .inr (11, [.ref g0, .int 0, .ref g1, .ref g2, .ref h1, .ref g3, .ref g4, .ref h4, .ref g5, .ref g6, .ref g7])), (h1, .inr (1, [.ref h2, .ref g8, .ref g9, .ref g10, .ref h3, .ref g11, .ref g12, .int 4, .int 3, .int 0, .int (-1), .int 0])), (h2, .inr (7, [.ref g13, .ref g14, .ref g15, .ref g16, .ref g17, .ref g18, .ref g19, .ref g20, .ref g21, .int 1, .int 1, .int 0]))]) hx hb hml hown hts hnw hK hP hD hS hA hl.1 (c_X11_at_9 l D cI cZ cB cJ h3) yk_X11_at wm_861 [0] [1, 2, 3, 4] rfl rfl (by decide) (by decide) (by decide) rfl rfl dX11_writeText_123 ⟨Nat.le_of_ble_eq_true rfl, Nat.le_of_ble_eq_true rfl⟩ ⟨Nat.le_of_ble_eq_true rfl, Nat.le_of_ble_eq_true rfl⟩ (Nat.le_of_ble_eq_true rfl) (fun r9 w1 H locs hq9 hP hD hS => ?_)
  obtain ⟨rfl, rfl⟩ := hq9
  have hP : va_P D vwCl [(h4, .inr (10, [.int s0, .int 0, .int (-4)])), (h0, .inr (11, [.ref g0, .int 0, .ref g1, .ref g2, .ref h1, .ref g3, .ref g4, .ref h4, .ref g5, .ref g6, .ref g7])), (h1, .inr (1, [.ref h2, .ref g8, .ref g9, .ref g10, .ref h3, .ref g11, .ref g12, .int 4, .int 3, .int 0, .int (-1), .int 0])), (h2, .inr (7, [.ref g13, .ref g14, .ref g15, .ref g16, .ref g17, .ref g18, .ref g19, .ref g20, .ref g21, .int 1, .int 1, .int 0])), (h3, .inl (cI, 60, .inl (upd (fun _ => 0) 0 1)))] H := hP
  have hD : va_D A [(h4, .inr (10, [.int s0, .int 0, .int (-4)])), (h0, .inr (11, [.ref g0, .int 0, .ref g1, .ref g2, .ref h1, .ref g3, .ref g4, .ref h4, .ref g5, .ref g6, .ref g7])), (h1, .inr (1, [.ref h2, .ref g8, .ref g9, .ref g10, .ref h3, .ref g11, .ref g12, .int 4, .int 3, .int 0, .int (-1), .int 0])), (h2, .inr (7, [.ref g13, .ref g14, .ref g15, .ref g16, .ref g17, .ref g18, .ref g19, .ref g20, .ref g21, .int 1, .int 1, .int 0])), (h3, .inl (cI, 60, .inl (upd (fun _ => 0) 0 1)))] := hD
  refine W.widen (k := 0) (n := 0) (Nat.le_of_ble_eq_true rfl) (Nat.le_of_ble_eq_true rfl) ?_
  refine pcn (b := 126) rfl ?_
  refine lv_bipush (v := 40) hx hb dX11_writeText_126 (by decide +kernel) ?_
  refine zVNv (As := [.ref g8, .int 1, .int 40]) (rest := []) (wr := [(h0, .inr (11, [.ref g0, .int 0, .ref g1, .ref g2, .ref h1, .ref g3, .ref g4, .ref h4, .ref g5, .ref g6, .ref g7])), (h1, .inr (1, [.ref h2, .ref g8, .ref g9, .ref g10, .ref h3, .ref g11, .ref g12, .int 4, .int 3, .int 0, .int (-1), .int 0])), (h2, .inr (7, [.ref g13, .ref g14, .ref g15, .ref g16, .ref g17, .ref g18, .ref g19, .ref g20, .ref g21, .int 1, .int 1, .int 0])), (h3, .inl (cI, 60, .inl (upd (fun _ => 0) 0 1)))]) hSX hx hb hml hown hts hnw hK hP hD hS hA hl.1 (c_X10_writeType_4 l D cI cZ cB cJ ak kv fo h4 g8 s0 s0l s0h) yk_X10_writeType wn_862 [0] [1, 2, 3, 4] rfl rfl (by decide) (by decide) (by decide) (rcv hK hP 0 rfl rfl rfl) rfl rfl dX11_writeText_128 ⟨Nat.le_of_ble_eq_true rfl, Nat.le_of_ble_eq_true rfl⟩ ⟨Nat.le_of_ble_eq_true rfl, Nat.le_of_ble_eq_true rfl⟩ (Nat.le_of_ble_eq_true rfl) (fun w1 H locs hq9 hP hD hS => ?_)
  obtain rfl := hq9
  have hP : va_P D vwCl [(h0, .inr (11, [.ref g0, .int 0, .ref g1, .ref g2, .ref h1, .ref g3, .ref g4, .ref h4, .ref g5, .ref g6, .ref g7])), (h1, .inr (1, [.ref h2, .ref g8, .ref g9, .ref g10, .ref h3, .ref g11, .ref g12, .int 4, .int 3, .int 0, .int (-1), .int 0])), (h2, .inr (7, [.ref g13, .ref g14, .ref g15, .ref g16, .ref g17, .ref g18, .ref g19, .ref g20, .ref g21, .int 1, .int 1, .int 0])), (h3, .inl (cI, 60, .inl (upd (fun _ => 0) 0 1))), (h4, .inr (10, [.int s0, .int 3, .int (-4)]))] H := hP
  have hD : va_D A [(h0, .inr (11, [.ref g0, .int 0, .ref g1, .ref g2, .ref h1, .ref g3, .ref g4, .ref h4, .ref g5, .ref g6, .ref g7])), (h1, .inr (1, [.ref h2, .ref g8, .ref g9, .ref g10, .ref h3, .ref g11, .ref g12, .int 4, .int 3, .int 0, .int (-1), .int 0])), (h2, .inr (7, [.ref g13, .ref g14, .ref g15, .ref g16, .ref g17, .ref g18, .ref g19, .ref g20, .ref g21, .int 1, .int 1, .int 0])), (h3, .inl (cI, 60, .inl (upd (fun _ => 0) 0 1))), (h4, .inr (10, [.int s0, .int 3, .int (-4)]))] := hD
  refine W.widen (k := 0) (n := 0) (Nat.le_of_ble_eq_true rfl) (Nat.le_of_ble_eq_true rfl) ?_
  refine pcn (b := 131) rfl ?_
  refine lv_goto (tgt := 300) hx hb dX11_writeText_131 (by decide) ?_
  refine lv_iconst (v := 1) hx hb dX11_writeText_300 (by decide +kernel) ?_
  refine W.widen (k := 0) (n := 0) (Nat.le_of_ble_eq_true rfl) (Nat.le_of_ble_eq_true rfl) ?_
  exact rtZ hx hb hr rfl hlocks hS hP hD ⟨rfl, rfl⟩ dX11_writeText_301

set_option maxHeartbeats 4000000 in
set_option maxRecDepth 100000 in
theorem c_X11_writeText_12 (l : Launch) (D : va_G) (cI cZ cB cJ : ClassId) (h0 h1 h2 g0 g1 g2 g3 g4 g5 g6 g7 g8 g9 g10 g11 g12 g13 g14 g15 g16 g17 g18 g19 g20 g21 g22 g23 : Nat) (s0 : Int32) (s0l : (1 : Int) ≤ s0.toInt) (s0h : s0.toInt ≤ (2147483647 : Int)) : CtI l D (TT cI cZ cB cJ) yX11_writeText cX11_writeText 5 (some .boolean) 1 21 0 0 [.ref h0, .int 1, .int s0] [(h0, .inr (11, [.ref g0, .int 0, .ref g1, .ref g2, .ref h1, .ref g3, .ref g4, .ref g5, .ref g6, .ref g7, .ref g8])), (h1, .inr (1, [.ref h2, .ref g9, .ref g10, .ref g11, .ref g12, .ref g13, .ref g14, .int 4, .int 3, .int 0, .int (-1), .int 0])), (h2, .inr (7, [.ref g15, .ref g16, .ref g17, .ref g18, .ref g19, .ref g20, .ref g21, .ref g22, .ref g23, .int 1, .int 1, .int 0]))] (fun r w1 => r = 0 ∧ w1 = [(h0, .inr (11, [.ref g0, .int 0, .ref g1, .ref g2, .ref h1, .ref g3, .ref g4, .ref g5, .ref g6, .ref g7, .ref g8])), (h1, .inr (1, [.ref h2, .ref g9, .ref g10, .ref g11, .ref g12, .ref g13, .ref g14, .int 4, .int 3, .int 0, .int (-1), .int 0])), (h2, .inr (7, [.ref g15, .ref g16, .ref g17, .ref g18, .ref g19, .ref g20, .ref g21, .ref g22, .ref g23, .int 1, .int 1, .int 0]))]) := by
  refine CtI.of (by decide +kernel) (Nat.le_of_ble_eq_true rfl) ?_
  intro p e s m below meth c A ls hx hb hr hml hown hts hnw hlocks hin hA hS hP hK hD hl
  have hown : s.vm.findClass RX11 = some m.cls := hown
  have hl : lv_has ls 5 [(0, .ref h0), (1, .int 1), (2, .int s0)] := hl
  refine lv_iload_n hx hb dX11_writeText_0 rfl (lv_at hl 2 rfl) ?_
  refine lv_if_lt (tgt := 13) hx hb dX11_writeText_1 (by decide) (fun h9 => absurd h9 (iv_nlt s0l (by decide +kernel : (0 : Int32).toInt ≤ (0 : Int)) (by decide))) (fun _ => ?_)
  refine lv_iload_n hx hb dX11_writeText_4 rfl (lv_at hl 2 rfl) ?_
  refine lv_aload_n hx hb dX11_writeText_5 rfl (lv_at hl 0 rfl) ?_
  refine lv_iload_n hx hb dX11_writeText_6 rfl (lv_at hl 1 rfl) ?_
  refine kVi (As := [.int 1]) (rest := [.int s0]) (wr := []) hx hb hml hown hts hnw hK hP hD hS hA hl.1 (c_X11_textsOf_2 l D cI cZ cB cJ h0 h1 h2 g0 g1 g2 g3 g4 g5 g6 g7 g8 g9 g10 g11 g12 g13 g14 g15 g16 g17 g18 g19 g20 g21 g22 g23) yk_X11_textsOf wm_857 [0, 1, 2] [] rfl rfl (by decide) (by decide) (by decide) 0 rfl rfl rfl rfl rfl dX11_writeText_7 ⟨Nat.le_of_ble_eq_true rfl, Nat.le_of_ble_eq_true rfl⟩ ⟨Nat.le_of_ble_eq_true rfl, Nat.le_of_ble_eq_true rfl⟩ (Nat.le_of_ble_eq_true rfl) (fun r9 w1 H locs hq9 hP hD hS => ?_)
  obtain ⟨rfl, rfl⟩ := hq9
  have hP : va_P D vwCl [(h0, .inr (11, [.ref g0, .int 0, .ref g1, .ref g2, .ref h1, .ref g3, .ref g4, .ref g5, .ref g6, .ref g7, .ref g8])), (h1, .inr (1, [.ref h2, .ref g9, .ref g10, .ref g11, .ref g12, .ref g13, .ref g14, .int 4, .int 3, .int 0, .int (-1), .int 0])), (h2, .inr (7, [.ref g15, .ref g16, .ref g17, .ref g18, .ref g19, .ref g20, .ref g21, .ref g22, .ref g23, .int 1, .int 1, .int 0]))] H := hP
  have hD : va_D A [(h0, .inr (11, [.ref g0, .int 0, .ref g1, .ref g2, .ref h1, .ref g3, .ref g4, .ref g5, .ref g6, .ref g7, .ref g8])), (h1, .inr (1, [.ref h2, .ref g9, .ref g10, .ref g11, .ref g12, .ref g13, .ref g14, .int 4, .int 3, .int 0, .int (-1), .int 0])), (h2, .inr (7, [.ref g15, .ref g16, .ref g17, .ref g18, .ref g19, .ref g20, .ref g21, .ref g22, .ref g23, .int 1, .int 1, .int 0]))] := hD
  refine W.widen (k := 0) (n := 0) (Nat.le_of_ble_eq_true rfl) (Nat.le_of_ble_eq_true rfl) ?_
  refine pcn (b := 10) rfl ?_
  refine lv_icmp_lt (tgt := 15) hx hb dX11_writeText_10 (by decide) (fun h9 => absurd h9 (iv_nlt s0l (by decide +kernel : (1 : Int32).toInt ≤ (1 : Int)) (by decide))) (fun _ => ?_)
  refine lv_iconst (v := 0) hx hb dX11_writeText_13 (by decide +kernel) ?_
  refine W.widen (k := 0) (n := 0) (Nat.le_of_ble_eq_true rfl) (Nat.le_of_ble_eq_true rfl) ?_
  exact rtZ hx hb hr rfl hlocks hS hP hD ⟨rfl, rfl⟩ dX11_writeText_14

set_option maxHeartbeats 4000000 in
set_option maxRecDepth 100000 in
theorem c_X12_manyOf_3 (l : Launch) (D : va_G) (cI cZ cB cJ : ClassId) (h0 h1 g0 g1 g2 g3 g4 g5 g6 g7 g8 g9 g10 g11 g12 g13 g14 g15 g16 g17 g18 g19 g20 g21 g22 g23 g24 g25 g26 g27 g28 g29 g30 g31 g32 g33 g34 g35 g36 g37 g38 g39 g40 g41 g42 g43 g44 g45 g46 g47 g48 g49 g50 g51 g52 g53 g54 g55 g56 g57 g58 g59 g60 g61 g62 g63 g64 g65 g66 g67 g68 : Nat) : CtI l D (TT cI cZ cB cJ) yX12_manyOf cX12_manyOf 2 (some .int) 0 0 0 0 [.ref h0, .int 2] [(h0, .inr (12, [.ref g0, .ref g1, .ref g2, .ref g3, .ref g4, .int 4, .ref g5, .ref g6, .ref g7, .ref g8, .ref g9, .int 0, .ref g10, .ref g11, .ref g12, .ref g13, .ref g14, .ref g15, .ref g16, .ref g17, .int 0, .ref g18, .int 0, .ref g19, .int 0, .int 0, .int 0, .int 0, .int 0, .int 0, .int 0, .int 0, .long 0, .ref g20, .ref g21, .ref g22, .ref g23, .ref g24, .ref g25, .ref g26, .ref g27, .ref g28, .ref h1, .ref g29, .int 0, .int 1, .int 0, .ref g30, .ref g31, .int 0, .ref g32, .ref g33, .ref g34, .ref g35, .int 0, .ref g36, .int 0, .ref g37, .ref g38, .ref g39, .ref g40, .ref g41, .ref g42, .ref g43, .ref g44, .ref g45, .ref g46, .int 0, .int 0, .int 4, .ref g47, .ref g48, .ref g49, .ref g50, .ref g51, .ref g52, .ref g53, .ref g54, .ref g55, .ref g56, .ref g57, .ref g58, .ref g59, .int 0, .int 0, .int 0, .int 0, .int 0, .int 0, .int 0, .int 0, .int 0, .int 0, .int 0, .int 0, .int 0, .int 0, .int 0, .int 0, .int 0, .int 0, .int 0, .int 0, .ref g60, .ref g61, .int 0, .ref g62, .ref g63, .ref g64, .ref g65, .int 0, .int 0, .ref g66, .ref g67, .int 0, .ref g68, .int 0, .int 0])), (h1, .inl (cI, 2, .inl (fun _ => 0)))] (fun r w1 => r = 0 ∧ w1 = [(h0, .inr (12, [.ref g0, .ref g1, .ref g2, .ref g3, .ref g4, .int 4, .ref g5, .ref g6, .ref g7, .ref g8, .ref g9, .int 0, .ref g10, .ref g11, .ref g12, .ref g13, .ref g14, .ref g15, .ref g16, .ref g17, .int 0, .ref g18, .int 0, .ref g19, .int 0, .int 0, .int 0, .int 0, .int 0, .int 0, .int 0, .int 0, .long 0, .ref g20, .ref g21, .ref g22, .ref g23, .ref g24, .ref g25, .ref g26, .ref g27, .ref g28, .ref h1, .ref g29, .int 0, .int 1, .int 0, .ref g30, .ref g31, .int 0, .ref g32, .ref g33, .ref g34, .ref g35, .int 0, .ref g36, .int 0, .ref g37, .ref g38, .ref g39, .ref g40, .ref g41, .ref g42, .ref g43, .ref g44, .ref g45, .ref g46, .int 0, .int 0, .int 4, .ref g47, .ref g48, .ref g49, .ref g50, .ref g51, .ref g52, .ref g53, .ref g54, .ref g55, .ref g56, .ref g57, .ref g58, .ref g59, .int 0, .int 0, .int 0, .int 0, .int 0, .int 0, .int 0, .int 0, .int 0, .int 0, .int 0, .int 0, .int 0, .int 0, .int 0, .int 0, .int 0, .int 0, .int 0, .int 0, .ref g60, .ref g61, .int 0, .ref g62, .ref g63, .ref g64, .ref g65, .int 0, .int 0, .ref g66, .ref g67, .int 0, .ref g68, .int 0, .int 0])), (h1, .inl (cI, 2, .inl (fun _ => 0)))]) := by
  refine CtI.of (by decide +kernel) (Nat.le_of_ble_eq_true rfl) ?_
  intro p e s m below meth c A ls hx hb hr hml hown hts hnw hlocks hin hA hS hP hK hD hl
  have hown : s.vm.findClass RX12 = some m.cls := hown
  have hl : lv_has ls 2 [(0, .ref h0), (1, .int 2)] := hl
  refine lv_iload_n hx hb dX12_manyOf_0 rfl (lv_at hl 1 rfl) ?_
  refine lv_tableIn (off := 56) (tgt := 57) hx hb dX12_manyOf_1 (by decide +kernel) (by decide +kernel) (by decide +kernel) (by decide) ?_
  refine lv_aload_n hx hb dX12_manyOf_57 rfl (lv_at hl 0 rfl) ?_
  refine va_get (D := D) (ci := 12) (v := .ref h1) (C := RX12) (T := TX12) (N := 118) hx hb hts inX12 hown hK hP 0 rfl rfl 42 (by decide) (hts _ wm_1409) (fun _ h9 => h9) rfl dX12_manyOf_58 ?_
  refine lv_aload_n hx hb dX12_manyOf_61 rfl (lv_at hl 0 rfl) ?_
  refine va_get (D := D) (ci := 12) (v := .int 0) (C := RX12) (T := TX12) (N := 118) hx hb hts inX12 hown hK hP 0 rfl rfl 44 (by decide) (hts _ wm_1411) (fun _ h9 => h9) rfl dX12_manyOf_62 ?_
  refine al_i (x := 0) hx hb hK hP 1 0 rfl rfl (vpi (by decide +kernel)) (by first | decide +kernel | rfl) dX12_manyOf_65 ?_
  refine W.widen (k := 0) (n := 0) (Nat.le_of_ble_eq_true rfl) (Nat.le_of_ble_eq_true rfl) ?_
  exact rtI hx hb hr hlocks hS hP hD ⟨rfl, rfl⟩ dX12_manyOf_66

set_option maxHeartbeats 4000000 in
set_option maxRecDepth 100000 in
theorem c_X11_writeText_13 (l : Launch) (D : va_G) (cI cZ cB cJ : ClassId) (h0 g0 g1 g2 g3 g4 g5 g6 g7 g8 g9 : Nat) (s0 : Int32) (s0l : ((-2147483648) : Int) ≤ s0.toInt) (s0h : s0.toInt ≤ ((-1) : Int)) : CtI l D (TT cI cZ cB cJ) yX11_writeText cX11_writeText 5 (some .boolean) 0 0 0 0 [.ref h0, .int 2, .int s0] [(h0, .inr (11, [.ref g0, .int 0, .ref g1, .ref g2, .ref g3, .ref g4, .ref g5, .ref g6, .ref g7, .ref g8, .ref g9]))] (fun r w1 => r = 0 ∧ w1 = [(h0, .inr (11, [.ref g0, .int 0, .ref g1, .ref g2, .ref g3, .ref g4, .ref g5, .ref g6, .ref g7, .ref g8, .ref g9]))]) := by
  refine CtI.of (by decide +kernel) (Nat.le_of_ble_eq_true rfl) ?_
  intro p e s m below meth c A ls hx hb hr hml hown hts hnw hlocks hin hA hS hP hK hD hl
  have hown : s.vm.findClass RX11 = some m.cls := hown
  have hl : lv_has ls 5 [(0, .ref h0), (1, .int 2), (2, .int s0)] := hl
  refine lv_iload_n hx hb dX11_writeText_0 rfl (lv_at hl 2 rfl) ?_
  refine lv_if_lt (tgt := 13) hx hb dX11_writeText_1 (by decide) (fun _ => ?_) (fun h9 => absurd (iv_lt s0h (by decide +kernel : (0 : Int) ≤ (0 : Int32).toInt) (by decide)) h9)
  refine lv_iconst (v := 0) hx hb dX11_writeText_13 (by decide +kernel) ?_
  refine W.widen (k := 0) (n := 0) (Nat.le_of_ble_eq_true rfl) (Nat.le_of_ble_eq_true rfl) ?_
  exact rtZ hx hb hr rfl hlocks hS hP hD ⟨rfl, rfl⟩ dX11_writeText_14

set_option maxHeartbeats 4000000 in
set_option maxRecDepth 100000 in
theorem c_X11_textsOf_3 (l : Launch) (D : va_G) (cI cZ cB cJ : ClassId) (h0 h1 h2 g0 g1 g2 g3 g4 g5 g6 g7 g8 g9 g10 g11 g12 g13 g14 g15 g16 g17 g18 g19 g20 g21 g22 g23 : Nat) : CtI l D (TT cI cZ cB cJ) yX11_textsOf cX11_textsOf 2 (some .int) 0 0 0 0 [.ref h0, .int 2] [(h0, .inr (11, [.ref g0, .int 0, .ref g1, .ref g2, .ref h1, .ref g3, .ref g4, .ref g5, .ref g6, .ref g7, .ref g8])), (h1, .inr (1, [.ref h2, .ref g9, .ref g10, .ref g11, .ref g12, .ref g13, .ref g14, .int 4, .int 3, .int 0, .int (-1), .int 0])), (h2, .inr (7, [.ref g15, .ref g16, .ref g17, .ref g18, .ref g19, .ref g20, .ref g21, .ref g22, .ref g23, .int 1, .int 1, .int 0]))] (fun r w1 => r = 0 ∧ w1 = [(h0, .inr (11, [.ref g0, .int 0, .ref g1, .ref g2, .ref h1, .ref g3, .ref g4, .ref g5, .ref g6, .ref g7, .ref g8])), (h1, .inr (1, [.ref h2, .ref g9, .ref g10, .ref g11, .ref g12, .ref g13, .ref g14, .int 4, .int 3, .int 0, .int (-1), .int 0])), (h2, .inr (7, [.ref g15, .ref g16, .ref g17, .ref g18, .ref g19, .ref g20, .ref g21, .ref g22, .ref g23, .int 1, .int 1, .int 0]))]) := by
  refine CtI.of (by decide +kernel) (Nat.le_of_ble_eq_true rfl) ?_
  intro p e s m below meth c A ls hx hb hr hml hown hts hnw hlocks hin hA hS hP hK hD hl
  have hown : s.vm.findClass RX11 = some m.cls := hown
  have hl : lv_has ls 2 [(0, .ref h0), (1, .int 2)] := hl
  refine lv_iload_n hx hb dX11_textsOf_0 rfl (lv_at hl 1 rfl) ?_
  refine lv_tableIn (off := 70) (tgt := 71) hx hb dX11_textsOf_1 (by decide +kernel) (by decide +kernel) (by decide +kernel) (by decide) ?_
  refine lv_aload_n hx hb dX11_textsOf_71 rfl (lv_at hl 0 rfl) ?_
  refine va_get (D := D) (ci := 11) (v := .ref h1) (C := RX11) (T := TX11) (N := 11) hx hb hts inX11 hown hK hP 0 rfl rfl 4 (by decide) (hts _ wm_586) (fun _ h9 => h9) rfl dX11_textsOf_72 ?_
  refine va_getN (D := D) (ci := 1) (v := .ref h2) (C := RX1) (T := TX1) (N := 12) hx hb hts inX1 hown hK hP 1 rfl rfl 0 (by decide) (va_Nw.use rfl (hnw _ wn_275)) (fun _ h9 => h9) rfl dX11_textsOf_75 ?_
  refine va_getN (D := D) (ci := 7) (v := .int 0) (C := RX7) (T := TX7) (N := 12) hx hb hts inX7 hown hK hP 2 rfl rfl 11 (by decide) (va_Nw.use rfl (hnw _ wn_104)) (fun _ h9 => h9) rfl dX11_textsOf_78 ?_
  refine W.widen (k := 0) (n := 0) (Nat.le_of_ble_eq_true rfl) (Nat.le_of_ble_eq_true rfl) ?_
  exact rtI hx hb hr hlocks hS hP hD ⟨rfl, rfl⟩ dX11_textsOf_81

set_option maxHeartbeats 4000000 in
set_option maxRecDepth 100000 in
theorem c_X11_writeText_14 (l : Launch) (D : va_G) (cI cZ cB cJ : ClassId) (h0 h1 h2 g0 g1 g2 g3 g4 g5 g6 g7 g8 g9 g10 g11 g12 g13 g14 g15 g16 g17 g18 g19 g20 g21 g22 g23 : Nat) : CtI l D (TT cI cZ cB cJ) yX11_writeText cX11_writeText 5 (some .boolean) 1 21 0 0 [.ref h0, .int 2, .int 0] [(h0, .inr (11, [.ref g0, .int 0, .ref g1, .ref g2, .ref h1, .ref g3, .ref g4, .ref g5, .ref g6, .ref g7, .ref g8])), (h1, .inr (1, [.ref h2, .ref g9, .ref g10, .ref g11, .ref g12, .ref g13, .ref g14, .int 4, .int 3, .int 0, .int (-1), .int 0])), (h2, .inr (7, [.ref g15, .ref g16, .ref g17, .ref g18, .ref g19, .ref g20, .ref g21, .ref g22, .ref g23, .int 1, .int 1, .int 0]))] (fun r w1 => r = 0 ∧ w1 = [(h0, .inr (11, [.ref g0, .int 0, .ref g1, .ref g2, .ref h1, .ref g3, .ref g4, .ref g5, .ref g6, .ref g7, .ref g8])), (h1, .inr (1, [.ref h2, .ref g9, .ref g10, .ref g11, .ref g12, .ref g13, .ref g14, .int 4, .int 3, .int 0, .int (-1), .int 0])), (h2, .inr (7, [.ref g15, .ref g16, .ref g17, .ref g18, .ref g19, .ref g20, .ref g21, .ref g22, .ref g23, .int 1, .int 1, .int 0]))]) := by
  refine CtI.of (by decide +kernel) (Nat.le_of_ble_eq_true rfl) ?_
  intro p e s m below meth c A ls hx hb hr hml hown hts hnw hlocks hin hA hS hP hK hD hl
  have hown : s.vm.findClass RX11 = some m.cls := hown
  have hl : lv_has ls 5 [(0, .ref h0), (1, .int 2), (2, .int 0)] := hl
  refine lv_iload_n hx hb dX11_writeText_0 rfl (lv_at hl 2 rfl) ?_
  refine lv_if_lt (tgt := 13) hx hb dX11_writeText_1 (by decide) (fun h9 => absurd h9 (by decide +kernel)) (fun _ => ?_)
  refine lv_iload_n hx hb dX11_writeText_4 rfl (lv_at hl 2 rfl) ?_
  refine lv_aload_n hx hb dX11_writeText_5 rfl (lv_at hl 0 rfl) ?_
  refine lv_iload_n hx hb dX11_writeText_6 rfl (lv_at hl 1 rfl) ?_
  refine kVi (As := [.int 2]) (rest := [.int 0]) (wr := []) hx hb hml hown hts hnw hK hP hD hS hA hl.1 (c_X11_textsOf_3 l D cI cZ cB cJ h0 h1 h2 g0 g1 g2 g3 g4 g5 g6 g7 g8 g9 g10 g11 g12 g13 g14 g15 g16 g17 g18 g19 g20 g21 g22 g23) yk_X11_textsOf wm_857 [0, 1, 2] [] rfl rfl (by decide) (by decide) (by decide) 0 rfl rfl rfl rfl rfl dX11_writeText_7 ⟨Nat.le_of_ble_eq_true rfl, Nat.le_of_ble_eq_true rfl⟩ ⟨Nat.le_of_ble_eq_true rfl, Nat.le_of_ble_eq_true rfl⟩ (Nat.le_of_ble_eq_true rfl) (fun r9 w1 H locs hq9 hP hD hS => ?_)
  obtain ⟨rfl, rfl⟩ := hq9
  have hP : va_P D vwCl [(h0, .inr (11, [.ref g0, .int 0, .ref g1, .ref g2, .ref h1, .ref g3, .ref g4, .ref g5, .ref g6, .ref g7, .ref g8])), (h1, .inr (1, [.ref h2, .ref g9, .ref g10, .ref g11, .ref g12, .ref g13, .ref g14, .int 4, .int 3, .int 0, .int (-1), .int 0])), (h2, .inr (7, [.ref g15, .ref g16, .ref g17, .ref g18, .ref g19, .ref g20, .ref g21, .ref g22, .ref g23, .int 1, .int 1, .int 0]))] H := hP
  have hD : va_D A [(h0, .inr (11, [.ref g0, .int 0, .ref g1, .ref g2, .ref h1, .ref g3, .ref g4, .ref g5, .ref g6, .ref g7, .ref g8])), (h1, .inr (1, [.ref h2, .ref g9, .ref g10, .ref g11, .ref g12, .ref g13, .ref g14, .int 4, .int 3, .int 0, .int (-1), .int 0])), (h2, .inr (7, [.ref g15, .ref g16, .ref g17, .ref g18, .ref g19, .ref g20, .ref g21, .ref g22, .ref g23, .int 1, .int 1, .int 0]))] := hD
  refine W.widen (k := 0) (n := 0) (Nat.le_of_ble_eq_true rfl) (Nat.le_of_ble_eq_true rfl) ?_
  refine pcn (b := 10) rfl ?_
  refine lv_icmp_lt (tgt := 15) hx hb dX11_writeText_10 (by decide) (fun h9 => absurd h9 (by decide +kernel)) (fun _ => ?_)
  refine lv_iconst (v := 0) hx hb dX11_writeText_13 (by decide +kernel) ?_
  refine W.widen (k := 0) (n := 0) (Nat.le_of_ble_eq_true rfl) (Nat.le_of_ble_eq_true rfl) ?_
  exact rtZ hx hb hr rfl hlocks hS hP hD ⟨rfl, rfl⟩ dX11_writeText_14

set_option maxHeartbeats 4000000 in
set_option maxRecDepth 100000 in
theorem c_X11_writeText_15 (l : Launch) (D : va_G) (cI cZ cB cJ : ClassId) (h0 h1 h2 g0 g1 g2 g3 g4 g5 g6 g7 g8 g9 g10 g11 g12 g13 g14 g15 g16 g17 g18 g19 g20 g21 g22 g23 : Nat) (s0 : Int32) (s0l : (1 : Int) ≤ s0.toInt) (s0h : s0.toInt ≤ (2147483647 : Int)) : CtI l D (TT cI cZ cB cJ) yX11_writeText cX11_writeText 5 (some .boolean) 1 21 0 0 [.ref h0, .int 2, .int s0] [(h0, .inr (11, [.ref g0, .int 0, .ref g1, .ref g2, .ref h1, .ref g3, .ref g4, .ref g5, .ref g6, .ref g7, .ref g8])), (h1, .inr (1, [.ref h2, .ref g9, .ref g10, .ref g11, .ref g12, .ref g13, .ref g14, .int 4, .int 3, .int 0, .int (-1), .int 0])), (h2, .inr (7, [.ref g15, .ref g16, .ref g17, .ref g18, .ref g19, .ref g20, .ref g21, .ref g22, .ref g23, .int 1, .int 1, .int 0]))] (fun r w1 => r = 0 ∧ w1 = [(h0, .inr (11, [.ref g0, .int 0, .ref g1, .ref g2, .ref h1, .ref g3, .ref g4, .ref g5, .ref g6, .ref g7, .ref g8])), (h1, .inr (1, [.ref h2, .ref g9, .ref g10, .ref g11, .ref g12, .ref g13, .ref g14, .int 4, .int 3, .int 0, .int (-1), .int 0])), (h2, .inr (7, [.ref g15, .ref g16, .ref g17, .ref g18, .ref g19, .ref g20, .ref g21, .ref g22, .ref g23, .int 1, .int 1, .int 0]))]) := by
  refine CtI.of (by decide +kernel) (Nat.le_of_ble_eq_true rfl) ?_
  intro p e s m below meth c A ls hx hb hr hml hown hts hnw hlocks hin hA hS hP hK hD hl
  have hown : s.vm.findClass RX11 = some m.cls := hown
  have hl : lv_has ls 5 [(0, .ref h0), (1, .int 2), (2, .int s0)] := hl
  refine lv_iload_n hx hb dX11_writeText_0 rfl (lv_at hl 2 rfl) ?_
  refine lv_if_lt (tgt := 13) hx hb dX11_writeText_1 (by decide) (fun h9 => absurd h9 (iv_nlt s0l (by decide +kernel : (0 : Int32).toInt ≤ (0 : Int)) (by decide))) (fun _ => ?_)
  refine lv_iload_n hx hb dX11_writeText_4 rfl (lv_at hl 2 rfl) ?_
  refine lv_aload_n hx hb dX11_writeText_5 rfl (lv_at hl 0 rfl) ?_
  refine lv_iload_n hx hb dX11_writeText_6 rfl (lv_at hl 1 rfl) ?_
  refine kVi (As := [.int 2]) (rest := [.int s0]) (wr := []) hx hb hml hown hts hnw hK hP hD hS hA hl.1 (c_X11_textsOf_3 l D cI cZ cB cJ h0 h1 h2 g0 g1 g2 g3 g4 g5 g6 g7 g8 g9 g10 g11 g12 g13 g14 g15 g16 g17 g18 g19 g20 g21 g22 g23) yk_X11_textsOf wm_857 [0, 1, 2] [] rfl rfl (by decide) (by decide) (by decide) 0 rfl rfl rfl rfl rfl dX11_writeText_7 ⟨Nat.le_of_ble_eq_true rfl, Nat.le_of_ble_eq_true rfl⟩ ⟨Nat.le_of_ble_eq_true rfl, Nat.le_of_ble_eq_true rfl⟩ (Nat.le_of_ble_eq_true rfl) (fun r9 w1 H locs hq9 hP hD hS => ?_)
  obtain ⟨rfl, rfl⟩ := hq9
  have hP : va_P D vwCl [(h0, .inr (11, [.ref g0, .int 0, .ref g1, .ref g2, .ref h1, .ref g3, .ref g4, .ref g5, .ref g6, .ref g7, .ref g8])), (h1, .inr (1, [.ref h2, .ref g9, .ref g10, .ref g11, .ref g12, .ref g13, .ref g14, .int 4, .int 3, .int 0, .int (-1), .int 0])), (h2, .inr (7, [.ref g15, .ref g16, .ref g17, .ref g18, .ref g19, .ref g20, .ref g21, .ref g22, .ref g23, .int 1, .int 1, .int 0]))] H := hP
  have hD : va_D A [(h0, .inr (11, [.ref g0, .int 0, .ref g1, .ref g2, .ref h1, .ref g3, .ref g4, .ref g5, .ref g6, .ref g7, .ref g8])), (h1, .inr (1, [.ref h2, .ref g9, .ref g10, .ref g11, .ref g12, .ref g13, .ref g14, .int 4, .int 3, .int 0, .int (-1), .int 0])), (h2, .inr (7, [.ref g15, .ref g16, .ref g17, .ref g18, .ref g19, .ref g20, .ref g21, .ref g22, .ref g23, .int 1, .int 1, .int 0]))] := hD
  refine W.widen (k := 0) (n := 0) (Nat.le_of_ble_eq_true rfl) (Nat.le_of_ble_eq_true rfl) ?_
  refine pcn (b := 10) rfl ?_
  refine lv_icmp_lt (tgt := 15) hx hb dX11_writeText_10 (by decide) (fun h9 => absurd h9 (iv_nlt s0l (by decide +kernel : (0 : Int32).toInt ≤ (0 : Int)) (by decide))) (fun _ => ?_)
  refine lv_iconst (v := 0) hx hb dX11_writeText_13 (by decide +kernel) ?_
  refine W.widen (k := 0) (n := 0) (Nat.le_of_ble_eq_true rfl) (Nat.le_of_ble_eq_true rfl) ?_
  exact rtZ hx hb hr rfl hlocks hS hP hD ⟨rfl, rfl⟩ dX11_writeText_14

set_option maxHeartbeats 4000000 in
set_option maxRecDepth 100000 in
theorem c_X12_manyOf_4 (l : Launch) (D : va_G) (cI cZ cB cJ : ClassId) (h0 g0 g1 g2 g3 g4 g5 g6 g7 g8 g9 g10 g11 g12 g13 g14 g15 g16 g17 g18 g19 g20 g21 g22 g23 g24 g25 g26 g27 g28 g29 g30 g31 g32 g33 g34 g35 g36 g37 g38 g39 g40 g41 g42 g43 g44 g45 g46 g47 g48 g49 g50 g51 g52 g53 g54 g55 g56 g57 g58 g59 g60 g61 g62 g63 g64 g65 g66 g67 g68 g69 : Nat) : CtI l D (TT cI cZ cB cJ) yX12_manyOf cX12_manyOf 2 (some .int) 0 0 0 0 [.ref h0, .int 3] [(h0, .inr (12, [.ref g0, .ref g1, .ref g2, .ref g3, .ref g4, .int 4, .ref g5, .ref g6, .ref g7, .ref g8, .ref g9, .int 0, .ref g10, .ref g11, .ref g12, .ref g13, .ref g14, .ref g15, .ref g16, .ref g17, .int 0, .ref g18, .int 0, .ref g19, .int 0, .int 0, .int 0, .int 0, .int 0, .int 0, .int 0, .int 0, .long 0, .ref g20, .ref g21, .ref g22, .ref g23, .ref g24, .ref g25, .ref g26, .ref g27, .ref g28, .ref g29, .ref g30, .int 0, .int 1, .int 0, .ref g31, .ref g32, .int 0, .ref g33, .ref g34, .ref g35, .ref g36, .int 0, .ref g37, .int 0, .ref g38, .ref g39, .ref g40, .ref g41, .ref g42, .ref g43, .ref g44, .ref g45, .ref g46, .ref g47, .int 0, .int 0, .int 4, .ref g48, .ref g49, .ref g50, .ref g51, .ref g52, .ref g53, .ref g54, .ref g55, .ref g56, .ref g57, .ref g58, .ref g59, .ref g60, .int 0, .int 0, .int 0, .int 0, .int 0, .int 0, .int 0, .int 0, .int 0, .int 0, .int 0, .int 0, .int 0, .int 0, .int 0, .int 0, .int 0, .int 0, .int 0, .int 0, .ref g61, .ref g62, .int 0, .ref g63, .ref g64, .ref g65, .ref g66, .int 0, .int 0, .ref g67, .ref g68, .int 0, .ref g69, .int 0, .int 0]))] (fun r w1 => r = 0 ∧ w1 = [(h0, .inr (12, [.ref g0, .ref g1, .ref g2, .ref g3, .ref g4, .int 4, .ref g5, .ref g6, .ref g7, .ref g8, .ref g9, .int 0, .ref g10, .ref g11, .ref g12, .ref g13, .ref g14, .ref g15, .ref g16, .ref g17, .int 0, .ref g18, .int 0, .ref g19, .int 0, .int 0, .int 0, .int 0, .int 0, .int 0, .int 0, .int 0, .long 0, .ref g20, .ref g21, .ref g22, .ref g23, .ref g24, .ref g25, .ref g26, .ref g27, .ref g28, .ref g29, .ref g30, .int 0, .int 1, .int 0, .ref g31, .ref g32, .int 0, .ref g33, .ref g34, .ref g35, .ref g36, .int 0, .ref g37, .int 0, .ref g38, .ref g39, .ref g40, .ref g41, .ref g42, .ref g43, .ref g44, .ref g45, .ref g46, .ref g47, .int 0, .int 0, .int 4, .ref g48, .ref g49, .ref g50, .ref g51, .ref g52, .ref g53, .ref g54, .ref g55, .ref g56, .ref g57, .ref g58, .ref g59, .ref g60, .int 0, .int 0, .int 0, .int 0, .int 0, .int 0, .int 0, .int 0, .int 0, .int 0, .int 0, .int 0, .int 0, .int 0, .int 0, .int 0, .int 0, .int 0, .int 0, .int 0, .ref g61, .ref g62, .int 0, .ref g63, .ref g64, .ref g65, .ref g66, .int 0, .int 0, .ref g67, .ref g68, .int 0, .ref g69, .int 0, .int 0]))]) := by
  refine CtI.of (by decide +kernel) (Nat.le_of_ble_eq_true rfl) ?_
  intro p e s m below meth c A ls hx hb hr hml hown hts hnw hlocks hin hA hS hP hK hD hl
  have hown : s.vm.findClass RX12 = some m.cls := hown
  have hl : lv_has ls 2 [(0, .ref h0), (1, .int 3)] := hl
  refine lv_iload_n hx hb dX12_manyOf_0 rfl (lv_at hl 1 rfl) ?_
  refine lv_tableIn (off := 66) (tgt := 67) hx hb dX12_manyOf_1 (by decide +kernel) (by decide +kernel) (by decide +kernel) (by decide) ?_
  refine lv_aload_n hx hb dX12_manyOf_67 rfl (lv_at hl 0 rfl) ?_
  refine va_get (D := D) (ci := 12) (v := .int 0) (C := RX12) (T := TX12) (N := 118) hx hb hts inX12 hown hK hP 0 rfl rfl 67 (by decide) (hts _ wm_1434) (fun _ h9 => h9) rfl dX12_manyOf_68 ?_
  refine W.widen (k := 0) (n := 0) (Nat.le_of_ble_eq_true rfl) (Nat.le_of_ble_eq_true rfl) ?_
  exact rtI hx hb hr hlocks hS hP hD ⟨rfl, rfl⟩ dX12_manyOf_71

set_option maxHeartbeats 4000000 in
set_option maxRecDepth 100000 in
theorem c_X11_writeText_16 (l : Launch) (D : va_G) (cI cZ cB cJ : ClassId) (h0 g0 g1 g2 g3 g4 g5 g6 g7 g8 g9 : Nat) (s0 : Int32) (s0l : ((-2147483648) : Int) ≤ s0.toInt) (s0h : s0.toInt ≤ ((-1) : Int)) : CtI l D (TT cI cZ cB cJ) yX11_writeText cX11_writeText 5 (some .boolean) 0 0 0 0 [.ref h0, .int 3, .int s0] [(h0, .inr (11, [.ref g0, .int 0, .ref g1, .ref g2, .ref g3, .ref g4, .ref g5, .ref g6, .ref g7, .ref g8, .ref g9]))] (fun r w1 => r = 0 ∧ w1 = [(h0, .inr (11, [.ref g0, .int 0, .ref g1, .ref g2, .ref g3, .ref g4, .ref g5, .ref g6, .ref g7, .ref g8, .ref g9]))]) := by
  refine CtI.of (by decide +kernel) (Nat.le_of_ble_eq_true rfl) ?_
  intro p e s m below meth c A ls hx hb hr hml hown hts hnw hlocks hin hA hS hP hK hD hl
  have hown : s.vm.findClass RX11 = some m.cls := hown
  have hl : lv_has ls 5 [(0, .ref h0), (1, .int 3), (2, .int s0)] := hl
  refine lv_iload_n hx hb dX11_writeText_0 rfl (lv_at hl 2 rfl) ?_
  refine lv_if_lt (tgt := 13) hx hb dX11_writeText_1 (by decide) (fun _ => ?_) (fun h9 => absurd (iv_lt s0h (by decide +kernel : (0 : Int) ≤ (0 : Int32).toInt) (by decide)) h9)
  refine lv_iconst (v := 0) hx hb dX11_writeText_13 (by decide +kernel) ?_
  refine W.widen (k := 0) (n := 0) (Nat.le_of_ble_eq_true rfl) (Nat.le_of_ble_eq_true rfl) ?_
  exact rtZ hx hb hr rfl hlocks hS hP hD ⟨rfl, rfl⟩ dX11_writeText_14

set_option maxHeartbeats 4000000 in
set_option maxRecDepth 100000 in
theorem c_X11_textsOf_4 (l : Launch) (D : va_G) (cI cZ cB cJ : ClassId) (h0 h1 h2 g0 g1 g2 g3 g4 g5 g6 g7 g8 g9 g10 g11 g12 g13 g14 g15 : Nat) : CtI l D (TT cI cZ cB cJ) yX11_textsOf cX11_textsOf 2 (some .int) 0 0 0 0 [.ref h0, .int 3] [(h0, .inr (11, [.ref g0, .int 0, .ref g1, .ref g2, .ref h1, .ref g3, .ref g4, .ref g5, .ref g6, .ref g7, .ref g8])), (h1, .inr (1, [.ref g9, .ref g10, .ref g11, .ref h2, .ref g12, .ref g13, .ref g14, .int 4, .int 3, .int 0, .int (-1), .int 0])), (h2, .inr (6, [.ref g15, .int 0]))] (fun r w1 => r = 0 ∧ w1 = [(h0, .inr (11, [.ref g0, .int 0, .ref g1, .ref g2, .ref h1, .ref g3, .ref g4, .ref g5, .ref g6, .ref g7, .ref g8])), (h1, .inr (1, [.ref g9, .ref g10, .ref g11, .ref h2, .ref g12, .ref g13, .ref g14, .int 4, .int 3, .int 0, .int (-1), .int 0])), (h2, .inr (6, [.ref g15, .int 0]))]) := by
  refine CtI.of (by decide +kernel) (Nat.le_of_ble_eq_true rfl) ?_
  intro p e s m below meth c A ls hx hb hr hml hown hts hnw hlocks hin hA hS hP hK hD hl
  have hown : s.vm.findClass RX11 = some m.cls := hown
  have hl : lv_has ls 2 [(0, .ref h0), (1, .int 3)] := hl
  refine lv_iload_n hx hb dX11_textsOf_0 rfl (lv_at hl 1 rfl) ?_
  refine lv_tableIn (off := 81) (tgt := 82) hx hb dX11_textsOf_1 (by decide +kernel) (by decide +kernel) (by decide +kernel) (by decide) ?_
  refine lv_aload_n hx hb dX11_textsOf_82 rfl (lv_at hl 0 rfl) ?_
  refine va_get (D := D) (ci := 11) (v := .ref h1) (C := RX11) (T := TX11) (N := 11) hx hb hts inX11 hown hK hP 0 rfl rfl 4 (by decide) (hts _ wm_586) (fun _ h9 => h9) rfl dX11_textsOf_83 ?_
  refine va_getN (D := D) (ci := 1) (v := .ref h2) (C := RX1) (T := TX1) (N := 12) hx hb hts inX1 hown hK hP 1 rfl rfl 3 (by decide) (va_Nw.use rfl (hnw _ wn_286)) (fun _ h9 => h9) rfl dX11_textsOf_86 ?_
  refine va_getN (D := D) (ci := 6) (v := .int 0) (C := RX6) (T := TX6) (N := 2) hx hb hts inX6 hown hK hP 2 rfl rfl 1 (by decide) (va_Nw.use rfl (hnw _ wn_162)) (fun _ h9 => h9) rfl dX11_textsOf_89 ?_
  refine W.widen (k := 0) (n := 0) (Nat.le_of_ble_eq_true rfl) (Nat.le_of_ble_eq_true rfl) ?_
  exact rtI hx hb hr hlocks hS hP hD ⟨rfl, rfl⟩ dX11_textsOf_92

set_option maxHeartbeats 4000000 in
set_option maxRecDepth 100000 in
theorem c_X11_writeText_17 (l : Launch) (D : va_G) (cI cZ cB cJ : ClassId) (h0 h1 h2 g0 g1 g2 g3 g4 g5 g6 g7 g8 g9 g10 g11 g12 g13 g14 g15 : Nat) : CtI l D (TT cI cZ cB cJ) yX11_writeText cX11_writeText 5 (some .boolean) 1 21 0 0 [.ref h0, .int 3, .int 0] [(h0, .inr (11, [.ref g0, .int 0, .ref g1, .ref g2, .ref h1, .ref g3, .ref g4, .ref g5, .ref g6, .ref g7, .ref g8])), (h1, .inr (1, [.ref g9, .ref g10, .ref g11, .ref h2, .ref g12, .ref g13, .ref g14, .int 4, .int 3, .int 0, .int (-1), .int 0])), (h2, .inr (6, [.ref g15, .int 0]))] (fun r w1 => r = 0 ∧ w1 = [(h0, .inr (11, [.ref g0, .int 0, .ref g1, .ref g2, .ref h1, .ref g3, .ref g4, .ref g5, .ref g6, .ref g7, .ref g8])), (h1, .inr (1, [.ref g9, .ref g10, .ref g11, .ref h2, .ref g12, .ref g13, .ref g14, .int 4, .int 3, .int 0, .int (-1), .int 0])), (h2, .inr (6, [.ref g15, .int 0]))]) := by
  refine CtI.of (by decide +kernel) (Nat.le_of_ble_eq_true rfl) ?_
  intro p e s m below meth c A ls hx hb hr hml hown hts hnw hlocks hin hA hS hP hK hD hl
  have hown : s.vm.findClass RX11 = some m.cls := hown
  have hl : lv_has ls 5 [(0, .ref h0), (1, .int 3), (2, .int 0)] := hl
  refine lv_iload_n hx hb dX11_writeText_0 rfl (lv_at hl 2 rfl) ?_
  refine lv_if_lt (tgt := 13) hx hb dX11_writeText_1 (by decide) (fun h9 => absurd h9 (by decide +kernel)) (fun _ => ?_)
  refine lv_iload_n hx hb dX11_writeText_4 rfl (lv_at hl 2 rfl) ?_
  refine lv_aload_n hx hb dX11_writeText_5 rfl (lv_at hl 0 rfl) ?_
  refine lv_iload_n hx hb dX11_writeText_6 rfl (lv_at hl 1 rfl) ?_
  refine kVi (As := [.int 3]) (rest := [.int 0]) (wr := []) hx hb hml hown hts hnw hK hP hD hS hA hl.1 (c_X11_textsOf_4 l D cI cZ cB cJ h0 h1 h2 g0 g1 g2 g3 g4 g5 g6 g7 g8 g9 g10 g11 g12 g13 g14 g15) yk_X11_textsOf wm_857 [0, 1, 2] [] rfl rfl (by decide) (by decide) (by decide) 0 rfl rfl rfl rfl rfl dX11_writeText_7 ⟨Nat.le_of_ble_eq_true rfl, Nat.le_of_ble_eq_true rfl⟩ ⟨Nat.le_of_ble_eq_true rfl, Nat.le_of_ble_eq_true rfl⟩ (Nat.le_of_ble_eq_true rfl) (fun r9 w1 H locs hq9 hP hD hS => ?_)
  obtain ⟨rfl, rfl⟩ := hq9
  have hP : va_P D vwCl [(h0, .inr (11, [.ref g0, .int 0, .ref g1, .ref g2, .ref h1, .ref g3, .ref g4, .ref g5, .ref g6, .ref g7, .ref g8])), (h1, .inr (1, [.ref g9, .ref g10, .ref g11, .ref h2, .ref g12, .ref g13, .ref g14, .int 4, .int 3, .int 0, .int (-1), .int 0])), (h2, .inr (6, [.ref g15, .int 0]))] H := hP
  have hD : va_D A [(h0, .inr (11, [.ref g0, .int 0, .ref g1, .ref g2, .ref h1, .ref g3, .ref g4, .ref g5, .ref g6, .ref g7, .ref g8])), (h1, .inr (1, [.ref g9, .ref g10, .ref g11, .ref h2, .ref g12, .ref g13, .ref g14, .int 4, .int 3, .int 0, .int (-1), .int 0])), (h2, .inr (6, [.ref g15, .int 0]))] := hD
  refine W.widen (k := 0) (n := 0) (Nat.le_of_ble_eq_true rfl) (Nat.le_of_ble_eq_true rfl) ?_
  refine pcn (b := 10) rfl ?_
  refine lv_icmp_lt (tgt := 15) hx hb dX11_writeText_10 (by decide) (fun h9 => absurd h9 (by decide +kernel)) (fun _ => ?_)
  refine lv_iconst (v := 0) hx hb dX11_writeText_13 (by decide +kernel) ?_
  refine W.widen (k := 0) (n := 0) (Nat.le_of_ble_eq_true rfl) (Nat.le_of_ble_eq_true rfl) ?_
  exact rtZ hx hb hr rfl hlocks hS hP hD ⟨rfl, rfl⟩ dX11_writeText_14

set_option maxHeartbeats 4000000 in
set_option maxRecDepth 100000 in
theorem c_X11_writeText_18 (l : Launch) (D : va_G) (cI cZ cB cJ : ClassId) (h0 h1 h2 g0 g1 g2 g3 g4 g5 g6 g7 g8 g9 g10 g11 g12 g13 g14 g15 : Nat) (s0 : Int32) (s0l : (1 : Int) ≤ s0.toInt) (s0h : s0.toInt ≤ (2147483647 : Int)) : CtI l D (TT cI cZ cB cJ) yX11_writeText cX11_writeText 5 (some .boolean) 1 21 0 0 [.ref h0, .int 3, .int s0] [(h0, .inr (11, [.ref g0, .int 0, .ref g1, .ref g2, .ref h1, .ref g3, .ref g4, .ref g5, .ref g6, .ref g7, .ref g8])), (h1, .inr (1, [.ref g9, .ref g10, .ref g11, .ref h2, .ref g12, .ref g13, .ref g14, .int 4, .int 3, .int 0, .int (-1), .int 0])), (h2, .inr (6, [.ref g15, .int 0]))] (fun r w1 => r = 0 ∧ w1 = [(h0, .inr (11, [.ref g0, .int 0, .ref g1, .ref g2, .ref h1, .ref g3, .ref g4, .ref g5, .ref g6, .ref g7, .ref g8])), (h1, .inr (1, [.ref g9, .ref g10, .ref g11, .ref h2, .ref g12, .ref g13, .ref g14, .int 4, .int 3, .int 0, .int (-1), .int 0])), (h2, .inr (6, [.ref g15, .int 0]))]) := by
  refine CtI.of (by decide +kernel) (Nat.le_of_ble_eq_true rfl) ?_
  intro p e s m below meth c A ls hx hb hr hml hown hts hnw hlocks hin hA hS hP hK hD hl
  have hown : s.vm.findClass RX11 = some m.cls := hown
  have hl : lv_has ls 5 [(0, .ref h0), (1, .int 3), (2, .int s0)] := hl
  refine lv_iload_n hx hb dX11_writeText_0 rfl (lv_at hl 2 rfl) ?_
  refine lv_if_lt (tgt := 13) hx hb dX11_writeText_1 (by decide) (fun h9 => absurd h9 (iv_nlt s0l (by decide +kernel : (0 : Int32).toInt ≤ (0 : Int)) (by decide))) (fun _ => ?_)
  refine lv_iload_n hx hb dX11_writeText_4 rfl (lv_at hl 2 rfl) ?_
  refine lv_aload_n hx hb dX11_writeText_5 rfl (lv_at hl 0 rfl) ?_
  refine lv_iload_n hx hb dX11_writeText_6 rfl (lv_at hl 1 rfl) ?_
  refine kVi (As := [.int 3]) (rest := [.int s0]) (wr := []) hx hb hml hown hts hnw hK hP hD hS hA hl.1 (c_X11_textsOf_4 l D cI cZ cB cJ h0 h1 h2 g0 g1 g2 g3 g4 g5 g6 g7 g8 g9 g10 g11 g12 g13 g14 g15) yk_X11_textsOf wm_857 [0, 1, 2] [] rfl rfl (by decide) (by decide) (by decide) 0 rfl rfl rfl rfl rfl dX11_writeText_7 ⟨Nat.le_of_ble_eq_true rfl, Nat.le_of_ble_eq_true rfl⟩ ⟨Nat.le_of_ble_eq_true rfl, Nat.le_of_ble_eq_true rfl⟩ (Nat.le_of_ble_eq_true rfl) (fun r9 w1 H locs hq9 hP hD hS => ?_)
  obtain ⟨rfl, rfl⟩ := hq9
  have hP : va_P D vwCl [(h0, .inr (11, [.ref g0, .int 0, .ref g1, .ref g2, .ref h1, .ref g3, .ref g4, .ref g5, .ref g6, .ref g7, .ref g8])), (h1, .inr (1, [.ref g9, .ref g10, .ref g11, .ref h2, .ref g12, .ref g13, .ref g14, .int 4, .int 3, .int 0, .int (-1), .int 0])), (h2, .inr (6, [.ref g15, .int 0]))] H := hP
  have hD : va_D A [(h0, .inr (11, [.ref g0, .int 0, .ref g1, .ref g2, .ref h1, .ref g3, .ref g4, .ref g5, .ref g6, .ref g7, .ref g8])), (h1, .inr (1, [.ref g9, .ref g10, .ref g11, .ref h2, .ref g12, .ref g13, .ref g14, .int 4, .int 3, .int 0, .int (-1), .int 0])), (h2, .inr (6, [.ref g15, .int 0]))] := hD
  refine W.widen (k := 0) (n := 0) (Nat.le_of_ble_eq_true rfl) (Nat.le_of_ble_eq_true rfl) ?_
  refine pcn (b := 10) rfl ?_
  refine lv_icmp_lt (tgt := 15) hx hb dX11_writeText_10 (by decide) (fun h9 => absurd h9 (iv_nlt s0l (by decide +kernel : (0 : Int32).toInt ≤ (0 : Int)) (by decide))) (fun _ => ?_)
  refine lv_iconst (v := 0) hx hb dX11_writeText_13 (by decide +kernel) ?_
  refine W.widen (k := 0) (n := 0) (Nat.le_of_ble_eq_true rfl) (Nat.le_of_ble_eq_true rfl) ?_
  exact rtZ hx hb hr rfl hlocks hS hP hD ⟨rfl, rfl⟩ dX11_writeText_14

set_option maxHeartbeats 4000000 in
set_option maxRecDepth 100000 in
theorem c_X12_manyOf_5 (l : Launch) (D : va_G) (cI cZ cB cJ : ClassId) (h0 g0 g1 g2 g3 g4 g5 g6 g7 g8 g9 g10 g11 g12 g13 g14 g15 g16 g17 g18 g19 g20 g21 g22 g23 g24 g25 g26 g27 g28 g29 g30 g31 g32 g33 g34 g35 g36 g37 g38 g39 g40 g41 g42 g43 g44 g45 g46 g47 g48 g49 g50 g51 g52 g53 g54 g55 g56 g57 g58 g59 g60 g61 g62 g63 g64 g65 g66 g67 g68 g69 : Nat) : CtI l D (TT cI cZ cB cJ) yX12_manyOf cX12_manyOf 2 (some .int) 0 0 0 0 [.ref h0, .int 4] [(h0, .inr (12, [.ref g0, .ref g1, .ref g2, .ref g3, .ref g4, .int 4, .ref g5, .ref g6, .ref g7, .ref g8, .ref g9, .int 0, .ref g10, .ref g11, .ref g12, .ref g13, .ref g14, .ref g15, .ref g16, .ref g17, .int 0, .ref g18, .int 0, .ref g19, .int 0, .int 0, .int 0, .int 0, .int 0, .int 0, .int 0, .int 0, .long 0, .ref g20, .ref g21, .ref g22, .ref g23, .ref g24, .ref g25, .ref g26, .ref g27, .ref g28, .ref g29, .ref g30, .int 0, .int 1, .int 0, .ref g31, .ref g32, .int 0, .ref g33, .ref g34, .ref g35, .ref g36, .int 0, .ref g37, .int 0, .ref g38, .ref g39, .ref g40, .ref g41, .ref g42, .ref g43, .ref g44, .ref g45, .ref g46, .ref g47, .int 0, .int 0, .int 4, .ref g48, .ref g49, .ref g50, .ref g51, .ref g52, .ref g53, .ref g54, .ref g55, .ref g56, .ref g57, .ref g58, .ref g59, .ref g60, .int 0, .int 0, .int 0, .int 0, .int 0, .int 0, .int 0, .int 0, .int 0, .int 0, .int 0, .int 0, .int 0, .int 0, .int 0, .int 0, .int 0, .int 0, .int 0, .int 0, .ref g61, .ref g62, .int 0, .ref g63, .ref g64, .ref g65, .ref g66, .int 0, .int 0, .ref g67, .ref g68, .int 0, .ref g69, .int 0, .int 0]))] (fun r w1 => r = 0 ∧ w1 = [(h0, .inr (12, [.ref g0, .ref g1, .ref g2, .ref g3, .ref g4, .int 4, .ref g5, .ref g6, .ref g7, .ref g8, .ref g9, .int 0, .ref g10, .ref g11, .ref g12, .ref g13, .ref g14, .ref g15, .ref g16, .ref g17, .int 0, .ref g18, .int 0, .ref g19, .int 0, .int 0, .int 0, .int 0, .int 0, .int 0, .int 0, .int 0, .long 0, .ref g20, .ref g21, .ref g22, .ref g23, .ref g24, .ref g25, .ref g26, .ref g27, .ref g28, .ref g29, .ref g30, .int 0, .int 1, .int 0, .ref g31, .ref g32, .int 0, .ref g33, .ref g34, .ref g35, .ref g36, .int 0, .ref g37, .int 0, .ref g38, .ref g39, .ref g40, .ref g41, .ref g42, .ref g43, .ref g44, .ref g45, .ref g46, .ref g47, .int 0, .int 0, .int 4, .ref g48, .ref g49, .ref g50, .ref g51, .ref g52, .ref g53, .ref g54, .ref g55, .ref g56, .ref g57, .ref g58, .ref g59, .ref g60, .int 0, .int 0, .int 0, .int 0, .int 0, .int 0, .int 0, .int 0, .int 0, .int 0, .int 0, .int 0, .int 0, .int 0, .int 0, .int 0, .int 0, .int 0, .int 0, .int 0, .ref g61, .ref g62, .int 0, .ref g63, .ref g64, .ref g65, .ref g66, .int 0, .int 0, .ref g67, .ref g68, .int 0, .ref g69, .int 0, .int 0]))]) := by
  refine CtI.of (by decide +kernel) (Nat.le_of_ble_eq_true rfl) ?_
  intro p e s m below meth c A ls hx hb hr hml hown hts hnw hlocks hin hA hS hP hK hD hl
  have hown : s.vm.findClass RX12 = some m.cls := hown
  have hl : lv_has ls 2 [(0, .ref h0), (1, .int 4)] := hl
  refine lv_iload_n hx hb dX12_manyOf_0 rfl (lv_at hl 1 rfl) ?_
  refine lv_tableIn (off := 66) (tgt := 67) hx hb dX12_manyOf_1 (by decide +kernel) (by decide +kernel) (by decide +kernel) (by decide) ?_
  refine lv_aload_n hx hb dX12_manyOf_67 rfl (lv_at hl 0 rfl) ?_
  refine va_get (D := D) (ci := 12) (v := .int 0) (C := RX12) (T := TX12) (N := 118) hx hb hts inX12 hown hK hP 0 rfl rfl 67 (by decide) (hts _ wm_1434) (fun _ h9 => h9) rfl dX12_manyOf_68 ?_
  refine W.widen (k := 0) (n := 0) (Nat.le_of_ble_eq_true rfl) (Nat.le_of_ble_eq_true rfl) ?_
  exact rtI hx hb hr hlocks hS hP hD ⟨rfl, rfl⟩ dX12_manyOf_71

set_option maxHeartbeats 4000000 in
set_option maxRecDepth 100000 in
theorem c_X11_writeText_19 (l : Launch) (D : va_G) (cI cZ cB cJ : ClassId) (h0 g0 g1 g2 g3 g4 g5 g6 g7 g8 g9 : Nat) (s0 : Int32) (s0l : ((-2147483648) : Int) ≤ s0.toInt) (s0h : s0.toInt ≤ ((-1) : Int)) : CtI l D (TT cI cZ cB cJ) yX11_writeText cX11_writeText 5 (some .boolean) 0 0 0 0 [.ref h0, .int 4, .int s0] [(h0, .inr (11, [.ref g0, .int 0, .ref g1, .ref g2, .ref g3, .ref g4, .ref g5, .ref g6, .ref g7, .ref g8, .ref g9]))] (fun r w1 => r = 0 ∧ w1 = [(h0, .inr (11, [.ref g0, .int 0, .ref g1, .ref g2, .ref g3, .ref g4, .ref g5, .ref g6, .ref g7, .ref g8, .ref g9]))]) := by
  refine CtI.of (by decide +kernel) (Nat.le_of_ble_eq_true rfl) ?_
  intro p e s m below meth c A ls hx hb hr hml hown hts hnw hlocks hin hA hS hP hK hD hl
  have hown : s.vm.findClass RX11 = some m.cls := hown
  have hl : lv_has ls 5 [(0, .ref h0), (1, .int 4), (2, .int s0)] := hl
  refine lv_iload_n hx hb dX11_writeText_0 rfl (lv_at hl 2 rfl) ?_
  refine lv_if_lt (tgt := 13) hx hb dX11_writeText_1 (by decide) (fun _ => ?_) (fun h9 => absurd (iv_lt s0h (by decide +kernel : (0 : Int) ≤ (0 : Int32).toInt) (by decide)) h9)
  refine lv_iconst (v := 0) hx hb dX11_writeText_13 (by decide +kernel) ?_
  refine W.widen (k := 0) (n := 0) (Nat.le_of_ble_eq_true rfl) (Nat.le_of_ble_eq_true rfl) ?_
  exact rtZ hx hb hr rfl hlocks hS hP hD ⟨rfl, rfl⟩ dX11_writeText_14

set_option maxHeartbeats 4000000 in
set_option maxRecDepth 100000 in
theorem c_X11_textsOf_5 (l : Launch) (D : va_G) (cI cZ cB cJ : ClassId) (h0 h1 h2 g0 g1 g2 g3 g4 g5 g6 g7 g8 g9 g10 g11 g12 g13 g14 g15 : Nat) : CtI l D (TT cI cZ cB cJ) yX11_textsOf cX11_textsOf 2 (some .int) 0 0 0 0 [.ref h0, .int 4] [(h0, .inr (11, [.ref g0, .int 0, .ref g1, .ref g2, .ref h1, .ref g3, .ref g4, .ref g5, .ref g6, .ref g7, .ref g8])), (h1, .inr (1, [.ref g9, .ref g10, .ref g11, .ref h2, .ref g12, .ref g13, .ref g14, .int 4, .int 3, .int 0, .int (-1), .int 0])), (h2, .inr (6, [.ref g15, .int 0]))] (fun r w1 => r = 0 ∧ w1 = [(h0, .inr (11, [.ref g0, .int 0, .ref g1, .ref g2, .ref h1, .ref g3, .ref g4, .ref g5, .ref g6, .ref g7, .ref g8])), (h1, .inr (1, [.ref g9, .ref g10, .ref g11, .ref h2, .ref g12, .ref g13, .ref g14, .int 4, .int 3, .int 0, .int (-1), .int 0])), (h2, .inr (6, [.ref g15, .int 0]))]) := by
  refine CtI.of (by decide +kernel) (Nat.le_of_ble_eq_true rfl) ?_
  intro p e s m below meth c A ls hx hb hr hml hown hts hnw hlocks hin hA hS hP hK hD hl
  have hown : s.vm.findClass RX11 = some m.cls := hown
  have hl : lv_has ls 2 [(0, .ref h0), (1, .int 4)] := hl
  refine lv_iload_n hx hb dX11_textsOf_0 rfl (lv_at hl 1 rfl) ?_
  refine lv_tableIn (off := 92) (tgt := 93) hx hb dX11_textsOf_1 (by decide +kernel) (by decide +kernel) (by decide +kernel) (by decide) ?_
  refine lv_aload_n hx hb dX11_textsOf_93 rfl (lv_at hl 0 rfl) ?_
  refine va_get (D := D) (ci := 11) (v := .ref h1) (C := RX11) (T := TX11) (N := 11) hx hb hts inX11 hown hK hP 0 rfl rfl 4 (by decide) (hts _ wm_586) (fun _ h9 => h9) rfl dX11_textsOf_94 ?_
  refine va_getN (D := D) (ci := 1) (v := .ref h2) (C := RX1) (T := TX1) (N := 12) hx hb hts inX1 hown hK hP 1 rfl rfl 3 (by decide) (va_Nw.use rfl (hnw _ wn_286)) (fun _ h9 => h9) rfl dX11_textsOf_97 ?_
  refine va_getN (D := D) (ci := 6) (v := .int 0) (C := RX6) (T := TX6) (N := 2) hx hb hts inX6 hown hK hP 2 rfl rfl 1 (by decide) (va_Nw.use rfl (hnw _ wn_162)) (fun _ h9 => h9) rfl dX11_textsOf_100 ?_
  refine W.widen (k := 0) (n := 0) (Nat.le_of_ble_eq_true rfl) (Nat.le_of_ble_eq_true rfl) ?_
  exact rtI hx hb hr hlocks hS hP hD ⟨rfl, rfl⟩ dX11_textsOf_103

set_option maxHeartbeats 4000000 in
set_option maxRecDepth 100000 in
theorem c_X11_writeText_20 (l : Launch) (D : va_G) (cI cZ cB cJ : ClassId) (h0 h1 h2 g0 g1 g2 g3 g4 g5 g6 g7 g8 g9 g10 g11 g12 g13 g14 g15 : Nat) : CtI l D (TT cI cZ cB cJ) yX11_writeText cX11_writeText 5 (some .boolean) 1 21 0 0 [.ref h0, .int 4, .int 0] [(h0, .inr (11, [.ref g0, .int 0, .ref g1, .ref g2, .ref h1, .ref g3, .ref g4, .ref g5, .ref g6, .ref g7, .ref g8])), (h1, .inr (1, [.ref g9, .ref g10, .ref g11, .ref h2, .ref g12, .ref g13, .ref g14, .int 4, .int 3, .int 0, .int (-1), .int 0])), (h2, .inr (6, [.ref g15, .int 0]))] (fun r w1 => r = 0 ∧ w1 = [(h0, .inr (11, [.ref g0, .int 0, .ref g1, .ref g2, .ref h1, .ref g3, .ref g4, .ref g5, .ref g6, .ref g7, .ref g8])), (h1, .inr (1, [.ref g9, .ref g10, .ref g11, .ref h2, .ref g12, .ref g13, .ref g14, .int 4, .int 3, .int 0, .int (-1), .int 0])), (h2, .inr (6, [.ref g15, .int 0]))]) := by
  refine CtI.of (by decide +kernel) (Nat.le_of_ble_eq_true rfl) ?_
  intro p e s m below meth c A ls hx hb hr hml hown hts hnw hlocks hin hA hS hP hK hD hl
  have hown : s.vm.findClass RX11 = some m.cls := hown
  have hl : lv_has ls 5 [(0, .ref h0), (1, .int 4), (2, .int 0)] := hl
  refine lv_iload_n hx hb dX11_writeText_0 rfl (lv_at hl 2 rfl) ?_
  refine lv_if_lt (tgt := 13) hx hb dX11_writeText_1 (by decide) (fun h9 => absurd h9 (by decide +kernel)) (fun _ => ?_)
  refine lv_iload_n hx hb dX11_writeText_4 rfl (lv_at hl 2 rfl) ?_
  refine lv_aload_n hx hb dX11_writeText_5 rfl (lv_at hl 0 rfl) ?_
  refine lv_iload_n hx hb dX11_writeText_6 rfl (lv_at hl 1 rfl) ?_
  refine kVi (As := [.int 4]) (rest := [.int 0]) (wr := []) hx hb hml hown hts hnw hK hP hD hS hA hl.1 (c_X11_textsOf_5 l D cI cZ cB cJ h0 h1 h2 g0 g1 g2 g3 g4 g5 g6 g7 g8 g9 g10 g11 g12 g13 g14 g15) yk_X11_textsOf wm_857 [0, 1, 2] [] rfl rfl (by decide) (by decide) (by decide) 0 rfl rfl rfl rfl rfl dX11_writeText_7 ⟨Nat.le_of_ble_eq_true rfl, Nat.le_of_ble_eq_true rfl⟩ ⟨Nat.le_of_ble_eq_true rfl, Nat.le_of_ble_eq_true rfl⟩ (Nat.le_of_ble_eq_true rfl) (fun r9 w1 H locs hq9 hP hD hS => ?_)
  obtain ⟨rfl, rfl⟩ := hq9
  have hP : va_P D vwCl [(h0, .inr (11, [.ref g0, .int 0, .ref g1, .ref g2, .ref h1, .ref g3, .ref g4, .ref g5, .ref g6, .ref g7, .ref g8])), (h1, .inr (1, [.ref g9, .ref g10, .ref g11, .ref h2, .ref g12, .ref g13, .ref g14, .int 4, .int 3, .int 0, .int (-1), .int 0])), (h2, .inr (6, [.ref g15, .int 0]))] H := hP
  have hD : va_D A [(h0, .inr (11, [.ref g0, .int 0, .ref g1, .ref g2, .ref h1, .ref g3, .ref g4, .ref g5, .ref g6, .ref g7, .ref g8])), (h1, .inr (1, [.ref g9, .ref g10, .ref g11, .ref h2, .ref g12, .ref g13, .ref g14, .int 4, .int 3, .int 0, .int (-1), .int 0])), (h2, .inr (6, [.ref g15, .int 0]))] := hD
  refine W.widen (k := 0) (n := 0) (Nat.le_of_ble_eq_true rfl) (Nat.le_of_ble_eq_true rfl) ?_
  refine pcn (b := 10) rfl ?_
  refine lv_icmp_lt (tgt := 15) hx hb dX11_writeText_10 (by decide) (fun h9 => absurd h9 (by decide +kernel)) (fun _ => ?_)
  refine lv_iconst (v := 0) hx hb dX11_writeText_13 (by decide +kernel) ?_
  refine W.widen (k := 0) (n := 0) (Nat.le_of_ble_eq_true rfl) (Nat.le_of_ble_eq_true rfl) ?_
  exact rtZ hx hb hr rfl hlocks hS hP hD ⟨rfl, rfl⟩ dX11_writeText_14

set_option maxHeartbeats 4000000 in
set_option maxRecDepth 100000 in
theorem c_X11_writeText_21 (l : Launch) (D : va_G) (cI cZ cB cJ : ClassId) (h0 h1 h2 g0 g1 g2 g3 g4 g5 g6 g7 g8 g9 g10 g11 g12 g13 g14 g15 : Nat) (s0 : Int32) (s0l : (1 : Int) ≤ s0.toInt) (s0h : s0.toInt ≤ (2147483647 : Int)) : CtI l D (TT cI cZ cB cJ) yX11_writeText cX11_writeText 5 (some .boolean) 1 21 0 0 [.ref h0, .int 4, .int s0] [(h0, .inr (11, [.ref g0, .int 0, .ref g1, .ref g2, .ref h1, .ref g3, .ref g4, .ref g5, .ref g6, .ref g7, .ref g8])), (h1, .inr (1, [.ref g9, .ref g10, .ref g11, .ref h2, .ref g12, .ref g13, .ref g14, .int 4, .int 3, .int 0, .int (-1), .int 0])), (h2, .inr (6, [.ref g15, .int 0]))] (fun r w1 => r = 0 ∧ w1 = [(h0, .inr (11, [.ref g0, .int 0, .ref g1, .ref g2, .ref h1, .ref g3, .ref g4, .ref g5, .ref g6, .ref g7, .ref g8])), (h1, .inr (1, [.ref g9, .ref g10, .ref g11, .ref h2, .ref g12, .ref g13, .ref g14, .int 4, .int 3, .int 0, .int (-1), .int 0])), (h2, .inr (6, [.ref g15, .int 0]))]) := by
  refine CtI.of (by decide +kernel) (Nat.le_of_ble_eq_true rfl) ?_
  intro p e s m below meth c A ls hx hb hr hml hown hts hnw hlocks hin hA hS hP hK hD hl
  have hown : s.vm.findClass RX11 = some m.cls := hown
  have hl : lv_has ls 5 [(0, .ref h0), (1, .int 4), (2, .int s0)] := hl
  refine lv_iload_n hx hb dX11_writeText_0 rfl (lv_at hl 2 rfl) ?_
  refine lv_if_lt (tgt := 13) hx hb dX11_writeText_1 (by decide) (fun h9 => absurd h9 (iv_nlt s0l (by decide +kernel : (0 : Int32).toInt ≤ (0 : Int)) (by decide))) (fun _ => ?_)
  refine lv_iload_n hx hb dX11_writeText_4 rfl (lv_at hl 2 rfl) ?_
  refine lv_aload_n hx hb dX11_writeText_5 rfl (lv_at hl 0 rfl) ?_
  refine lv_iload_n hx hb dX11_writeText_6 rfl (lv_at hl 1 rfl) ?_
  refine kVi (As := [.int 4]) (rest := [.int s0]) (wr := []) hx hb hml hown hts hnw hK hP hD hS hA hl.1 (c_X11_textsOf_5 l D cI cZ cB cJ h0 h1 h2 g0 g1 g2 g3 g4 g5 g6 g7 g8 g9 g10 g11 g12 g13 g14 g15) yk_X11_textsOf wm_857 [0, 1, 2] [] rfl rfl (by decide) (by decide) (by decide) 0 rfl rfl rfl rfl rfl dX11_writeText_7 ⟨Nat.le_of_ble_eq_true rfl, Nat.le_of_ble_eq_true rfl⟩ ⟨Nat.le_of_ble_eq_true rfl, Nat.le_of_ble_eq_true rfl⟩ (Nat.le_of_ble_eq_true rfl) (fun r9 w1 H locs hq9 hP hD hS => ?_)
  obtain ⟨rfl, rfl⟩ := hq9
  have hP : va_P D vwCl [(h0, .inr (11, [.ref g0, .int 0, .ref g1, .ref g2, .ref h1, .ref g3, .ref g4, .ref g5, .ref g6, .ref g7, .ref g8])), (h1, .inr (1, [.ref g9, .ref g10, .ref g11, .ref h2, .ref g12, .ref g13, .ref g14, .int 4, .int 3, .int 0, .int (-1), .int 0])), (h2, .inr (6, [.ref g15, .int 0]))] H := hP
  have hD : va_D A [(h0, .inr (11, [.ref g0, .int 0, .ref g1, .ref g2, .ref h1, .ref g3, .ref g4, .ref g5, .ref g6, .ref g7, .ref g8])), (h1, .inr (1, [.ref g9, .ref g10, .ref g11, .ref h2, .ref g12, .ref g13, .ref g14, .int 4, .int 3, .int 0, .int (-1), .int 0])), (h2, .inr (6, [.ref g15, .int 0]))] := hD
  refine W.widen (k := 0) (n := 0) (Nat.le_of_ble_eq_true rfl) (Nat.le_of_ble_eq_true rfl) ?_
  refine pcn (b := 10) rfl ?_
  refine lv_icmp_lt (tgt := 15) hx hb dX11_writeText_10 (by decide) (fun h9 => absurd h9 (iv_nlt s0l (by decide +kernel : (0 : Int32).toInt ≤ (0 : Int)) (by decide))) (fun _ => ?_)
  refine lv_iconst (v := 0) hx hb dX11_writeText_13 (by decide +kernel) ?_
  refine W.widen (k := 0) (n := 0) (Nat.le_of_ble_eq_true rfl) (Nat.le_of_ble_eq_true rfl) ?_
  exact rtZ hx hb hr rfl hlocks hS hP hD ⟨rfl, rfl⟩ dX11_writeText_14

set_option maxHeartbeats 4000000 in
set_option maxRecDepth 100000 in
theorem c_X12_manyOf_6 (l : Launch) (D : va_G) (cI cZ cB cJ : ClassId) (h0 g0 g1 g2 g3 g4 g5 g6 g7 g8 g9 g10 g11 g12 g13 g14 g15 g16 g17 g18 g19 g20 g21 g22 g23 g24 g25 g26 g27 g28 g29 g30 g31 g32 g33 g34 g35 g36 g37 g38 g39 g40 g41 g42 g43 g44 g45 g46 g47 g48 g49 g50 g51 g52 g53 g54 g55 g56 g57 g58 g59 g60 g61 g62 g63 g64 g65 g66 g67 g68 g69 : Nat) : CtI l D (TT cI cZ cB cJ) yX12_manyOf cX12_manyOf 2 (some .int) 0 0 0 0 [.ref h0, .int 5] [(h0, .inr (12, [.ref g0, .ref g1, .ref g2, .ref g3, .ref g4, .int 4, .ref g5, .ref g6, .ref g7, .ref g8, .ref g9, .int 0, .ref g10, .ref g11, .ref g12, .ref g13, .ref g14, .ref g15, .ref g16, .ref g17, .int 0, .ref g18, .int 0, .ref g19, .int 0, .int 0, .int 0, .int 0, .int 0, .int 0, .int 0, .int 0, .long 0, .ref g20, .ref g21, .ref g22, .ref g23, .ref g24, .ref g25, .ref g26, .ref g27, .ref g28, .ref g29, .ref g30, .int 0, .int 1, .int 0, .ref g31, .ref g32, .int 0, .ref g33, .ref g34, .ref g35, .ref g36, .int 0, .ref g37, .int 0, .ref g38, .ref g39, .ref g40, .ref g41, .ref g42, .ref g43, .ref g44, .ref g45, .ref g46, .ref g47, .int 0, .int 0, .int 4, .ref g48, .ref g49, .ref g50, .ref g51, .ref g52, .ref g53, .ref g54, .ref g55, .ref g56, .ref g57, .ref g58, .ref g59, .ref g60, .int 0, .int 0, .int 0, .int 0, .int 0, .int 0, .int 0, .int 0, .int 0, .int 0, .int 0, .int 0, .int 0, .int 0, .int 0, .int 0, .int 0, .int 0, .int 0, .int 0, .ref g61, .ref g62, .int 0, .ref g63, .ref g64, .ref g65, .ref g66, .int 0, .int 0, .ref g67, .ref g68, .int 0, .ref g69, .int 0, .int 0]))] (fun r w1 => r = 0 ∧ w1 = [(h0, .inr (12, [.ref g0, .ref g1, .ref g2, .ref g3, .ref g4, .int 4, .ref g5, .ref g6, .ref g7, .ref g8, .ref g9, .int 0, .ref g10, .ref g11, .ref g12, .ref g13, .ref g14, .ref g15, .ref g16, .ref g17, .int 0, .ref g18, .int 0, .ref g19, .int 0, .int 0, .int 0, .int 0, .int 0, .int 0, .int 0, .int 0, .long 0, .ref g20, .ref g21, .ref g22, .ref g23, .ref g24, .ref g25, .ref g26, .ref g27, .ref g28, .ref g29, .ref g30, .int 0, .int 1, .int 0, .ref g31, .ref g32, .int 0, .ref g33, .ref g34, .ref g35, .ref g36, .int 0, .ref g37, .int 0, .ref g38, .ref g39, .ref g40, .ref g41, .ref g42, .ref g43, .ref g44, .ref g45, .ref g46, .ref g47, .int 0, .int 0, .int 4, .ref g48, .ref g49, .ref g50, .ref g51, .ref g52, .ref g53, .ref g54, .ref g55, .ref g56, .ref g57, .ref g58, .ref g59, .ref g60, .int 0, .int 0, .int 0, .int 0, .int 0, .int 0, .int 0, .int 0, .int 0, .int 0, .int 0, .int 0, .int 0, .int 0, .int 0, .int 0, .int 0, .int 0, .int 0, .int 0, .ref g61, .ref g62, .int 0, .ref g63, .ref g64, .ref g65, .ref g66, .int 0, .int 0, .ref g67, .ref g68, .int 0, .ref g69, .int 0, .int 0]))]) := by
  refine CtI.of (by decide +kernel) (Nat.le_of_ble_eq_true rfl) ?_
  intro p e s m below meth c A ls hx hb hr hml hown hts hnw hlocks hin hA hS hP hK hD hl
  have hown : s.vm.findClass RX12 = some m.cls := hown
  have hl : lv_has ls 2 [(0, .ref h0), (1, .int 5)] := hl
  refine lv_iload_n hx hb dX12_manyOf_0 rfl (lv_at hl 1 rfl) ?_
  refine lv_tableIn (off := 66) (tgt := 67) hx hb dX12_manyOf_1 (by decide +kernel) (by decide +kernel) (by decide +kernel) (by decide) ?_
  refine lv_aload_n hx hb dX12_manyOf_67 rfl (lv_at hl 0 rfl) ?_
  refine va_get (D := D) (ci := 12) (v := .int 0) (C := RX12) (T := TX12) (N := 118) hx hb hts inX12 hown hK hP 0 rfl rfl 67 (by decide) (hts _ wm_1434) (fun _ h9 => h9) rfl dX12_manyOf_68 ?_
  refine W.widen (k := 0) (n := 0) (Nat.le_of_ble_eq_true rfl) (Nat.le_of_ble_eq_true rfl) ?_
  exact rtI hx hb hr hlocks hS hP hD ⟨rfl, rfl⟩ dX12_manyOf_71

set_option maxHeartbeats 4000000 in
set_option maxRecDepth 100000 in
theorem c_X11_writeText_22 (l : Launch) (D : va_G) (cI cZ cB cJ : ClassId) (h0 g0 g1 g2 g3 g4 g5 g6 g7 g8 g9 : Nat) (s0 : Int32) (s0l : ((-2147483648) : Int) ≤ s0.toInt) (s0h : s0.toInt ≤ ((-1) : Int)) : CtI l D (TT cI cZ cB cJ) yX11_writeText cX11_writeText 5 (some .boolean) 0 0 0 0 [.ref h0, .int 5, .int s0] [(h0, .inr (11, [.ref g0, .int 0, .ref g1, .ref g2, .ref g3, .ref g4, .ref g5, .ref g6, .ref g7, .ref g8, .ref g9]))] (fun r w1 => r = 0 ∧ w1 = [(h0, .inr (11, [.ref g0, .int 0, .ref g1, .ref g2, .ref g3, .ref g4, .ref g5, .ref g6, .ref g7, .ref g8, .ref g9]))]) := by
  refine CtI.of (by decide +kernel) (Nat.le_of_ble_eq_true rfl) ?_
  intro p e s m below meth c A ls hx hb hr hml hown hts hnw hlocks hin hA hS hP hK hD hl
  have hown : s.vm.findClass RX11 = some m.cls := hown
  have hl : lv_has ls 5 [(0, .ref h0), (1, .int 5), (2, .int s0)] := hl
  refine lv_iload_n hx hb dX11_writeText_0 rfl (lv_at hl 2 rfl) ?_
  refine lv_if_lt (tgt := 13) hx hb dX11_writeText_1 (by decide) (fun _ => ?_) (fun h9 => absurd (iv_lt s0h (by decide +kernel : (0 : Int) ≤ (0 : Int32).toInt) (by decide)) h9)
  refine lv_iconst (v := 0) hx hb dX11_writeText_13 (by decide +kernel) ?_
  refine W.widen (k := 0) (n := 0) (Nat.le_of_ble_eq_true rfl) (Nat.le_of_ble_eq_true rfl) ?_
  exact rtZ hx hb hr rfl hlocks hS hP hD ⟨rfl, rfl⟩ dX11_writeText_14

set_option maxHeartbeats 4000000 in
set_option maxRecDepth 100000 in
theorem c_X11_textsOf_6 (l : Launch) (D : va_G) (cI cZ cB cJ : ClassId) (h0 h1 h2 g0 g1 g2 g3 g4 g5 g6 g7 g8 g9 g10 g11 g12 g13 g14 g15 : Nat) : CtI l D (TT cI cZ cB cJ) yX11_textsOf cX11_textsOf 2 (some .int) 0 0 0 0 [.ref h0, .int 5] [(h0, .inr (11, [.ref g0, .int 0, .ref g1, .ref g2, .ref h1, .ref g3, .ref g4, .ref g5, .ref g6, .ref g7, .ref g8])), (h1, .inr (1, [.ref g9, .ref g10, .ref g11, .ref h2, .ref g12, .ref g13, .ref g14, .int 4, .int 3, .int 0, .int (-1), .int 0])), (h2, .inr (6, [.ref g15, .int 0]))] (fun r w1 => r = 0 ∧ w1 = [(h0, .inr (11, [.ref g0, .int 0, .ref g1, .ref g2, .ref h1, .ref g3, .ref g4, .ref g5, .ref g6, .ref g7, .ref g8])), (h1, .inr (1, [.ref g9, .ref g10, .ref g11, .ref h2, .ref g12, .ref g13, .ref g14, .int 4, .int 3, .int 0, .int (-1), .int 0])), (h2, .inr (6, [.ref g15, .int 0]))]) := by
  refine CtI.of (by decide +kernel) (Nat.le_of_ble_eq_true rfl) ?_
  intro p e s m below meth c A ls hx hb hr hml hown hts hnw hlocks hin hA hS hP hK hD hl
  have hown : s.vm.findClass RX11 = some m.cls := hown
  have hl : lv_has ls 2 [(0, .ref h0), (1, .int 5)] := hl
  refine lv_iload_n hx hb dX11_textsOf_0 rfl (lv_at hl 1 rfl) ?_
  refine lv_tableIn (off := 103) (tgt := 104) hx hb dX11_textsOf_1 (by decide +kernel) (by decide +kernel) (by decide +kernel) (by decide) ?_
  refine lv_aload_n hx hb dX11_textsOf_104 rfl (lv_at hl 0 rfl) ?_
  refine va_get (D := D) (ci := 11) (v := .ref h1) (C := RX11) (T := TX11) (N := 11) hx hb hts inX11 hown hK hP 0 rfl rfl 4 (by decide) (hts _ wm_586) (fun _ h9 => h9) rfl dX11_textsOf_105 ?_
  refine va_getN (D := D) (ci := 1) (v := .ref h2) (C := RX1) (T := TX1) (N := 12) hx hb hts inX1 hown hK hP 1 rfl rfl 3 (by decide) (va_Nw.use rfl (hnw _ wn_286)) (fun _ h9 => h9) rfl dX11_textsOf_108 ?_
  refine va_getN (D := D) (ci := 6) (v := .int 0) (C := RX6) (T := TX6) (N := 2) hx hb hts inX6 hown hK hP 2 rfl rfl 1 (by decide) (va_Nw.use rfl (hnw _ wn_162)) (fun _ h9 => h9) rfl dX11_textsOf_111 ?_
  refine W.widen (k := 0) (n := 0) (Nat.le_of_ble_eq_true rfl) (Nat.le_of_ble_eq_true rfl) ?_
  exact rtI hx hb hr hlocks hS hP hD ⟨rfl, rfl⟩ dX11_textsOf_114

set_option maxHeartbeats 4000000 in
set_option maxRecDepth 100000 in
theorem c_X11_writeText_23 (l : Launch) (D : va_G) (cI cZ cB cJ : ClassId) (h0 h1 h2 g0 g1 g2 g3 g4 g5 g6 g7 g8 g9 g10 g11 g12 g13 g14 g15 : Nat) : CtI l D (TT cI cZ cB cJ) yX11_writeText cX11_writeText 5 (some .boolean) 1 21 0 0 [.ref h0, .int 5, .int 0] [(h0, .inr (11, [.ref g0, .int 0, .ref g1, .ref g2, .ref h1, .ref g3, .ref g4, .ref g5, .ref g6, .ref g7, .ref g8])), (h1, .inr (1, [.ref g9, .ref g10, .ref g11, .ref h2, .ref g12, .ref g13, .ref g14, .int 4, .int 3, .int 0, .int (-1), .int 0])), (h2, .inr (6, [.ref g15, .int 0]))] (fun r w1 => r = 0 ∧ w1 = [(h0, .inr (11, [.ref g0, .int 0, .ref g1, .ref g2, .ref h1, .ref g3, .ref g4, .ref g5, .ref g6, .ref g7, .ref g8])), (h1, .inr (1, [.ref g9, .ref g10, .ref g11, .ref h2, .ref g12, .ref g13, .ref g14, .int 4, .int 3, .int 0, .int (-1), .int 0])), (h2, .inr (6, [.ref g15, .int 0]))]) := by
  refine CtI.of (by decide +kernel) (Nat.le_of_ble_eq_true rfl) ?_
  intro p e s m below meth c A ls hx hb hr hml hown hts hnw hlocks hin hA hS hP hK hD hl
  have hown : s.vm.findClass RX11 = some m.cls := hown
  have hl : lv_has ls 5 [(0, .ref h0), (1, .int 5), (2, .int 0)] := hl
  refine lv_iload_n hx hb dX11_writeText_0 rfl (lv_at hl 2 rfl) ?_
  refine lv_if_lt (tgt := 13) hx hb dX11_writeText_1 (by decide) (fun h9 => absurd h9 (by decide +kernel)) (fun _ => ?_)
  refine lv_iload_n hx hb dX11_writeText_4 rfl (lv_at hl 2 rfl) ?_
  refine lv_aload_n hx hb dX11_writeText_5 rfl (lv_at hl 0 rfl) ?_
  refine lv_iload_n hx hb dX11_writeText_6 rfl (lv_at hl 1 rfl) ?_
  refine kVi (As := [.int 5]) (rest := [.int 0]) (wr := []) hx hb hml hown hts hnw hK hP hD hS hA hl.1 (c_X11_textsOf_6 l D cI cZ cB cJ h0 h1 h2 g0 g1 g2 g3 g4 g5 g6 g7 g8 g9 g10 g11 g12 g13 g14 g15) yk_X11_textsOf wm_857 [0, 1, 2] [] rfl rfl (by decide) (by decide) (by decide) 0 rfl rfl rfl rfl rfl dX11_writeText_7 ⟨Nat.le_of_ble_eq_true rfl, Nat.le_of_ble_eq_true rfl⟩ ⟨Nat.le_of_ble_eq_true rfl, Nat.le_of_ble_eq_true rfl⟩ (Nat.le_of_ble_eq_true rfl) (fun r9 w1 H locs hq9 hP hD hS => ?_)
  obtain ⟨rfl, rfl⟩ := hq9
  have hP : va_P D vwCl [(h0, .inr (11, [.ref g0, .int 0, .ref g1, .ref g2, .ref h1, .ref g3, .ref g4, .ref g5, .ref g6, .ref g7, .ref g8])), (h1, .inr (1, [.ref g9, .ref g10, .ref g11, .ref h2, .ref g12, .ref g13, .ref g14, .int 4, .int 3, .int 0, .int (-1), .int 0])), (h2, .inr (6, [.ref g15, .int 0]))] H := hP
  have hD : va_D A [(h0, .inr (11, [.ref g0, .int 0, .ref g1, .ref g2, .ref h1, .ref g3, .ref g4, .ref g5, .ref g6, .ref g7, .ref g8])), (h1, .inr (1, [.ref g9, .ref g10, .ref g11, .ref h2, .ref g12, .ref g13, .ref g14, .int 4, .int 3, .int 0, .int (-1), .int 0])), (h2, .inr (6, [.ref g15, .int 0]))] := hD
  refine W.widen (k := 0) (n := 0) (Nat.le_of_ble_eq_true rfl) (Nat.le_of_ble_eq_true rfl) ?_
  refine pcn (b := 10) rfl ?_
  refine lv_icmp_lt (tgt := 15) hx hb dX11_writeText_10 (by decide) (fun h9 => absurd h9 (by decide +kernel)) (fun _ => ?_)
  refine lv_iconst (v := 0) hx hb dX11_writeText_13 (by decide +kernel) ?_
  refine W.widen (k := 0) (n := 0) (Nat.le_of_ble_eq_true rfl) (Nat.le_of_ble_eq_true rfl) ?_
  exact rtZ hx hb hr rfl hlocks hS hP hD ⟨rfl, rfl⟩ dX11_writeText_14

set_option maxHeartbeats 4000000 in
set_option maxRecDepth 100000 in
theorem c_X11_writeText_24 (l : Launch) (D : va_G) (cI cZ cB cJ : ClassId) (h0 h1 h2 g0 g1 g2 g3 g4 g5 g6 g7 g8 g9 g10 g11 g12 g13 g14 g15 : Nat) (s0 : Int32) (s0l : (1 : Int) ≤ s0.toInt) (s0h : s0.toInt ≤ (2147483647 : Int)) : CtI l D (TT cI cZ cB cJ) yX11_writeText cX11_writeText 5 (some .boolean) 1 21 0 0 [.ref h0, .int 5, .int s0] [(h0, .inr (11, [.ref g0, .int 0, .ref g1, .ref g2, .ref h1, .ref g3, .ref g4, .ref g5, .ref g6, .ref g7, .ref g8])), (h1, .inr (1, [.ref g9, .ref g10, .ref g11, .ref h2, .ref g12, .ref g13, .ref g14, .int 4, .int 3, .int 0, .int (-1), .int 0])), (h2, .inr (6, [.ref g15, .int 0]))] (fun r w1 => r = 0 ∧ w1 = [(h0, .inr (11, [.ref g0, .int 0, .ref g1, .ref g2, .ref h1, .ref g3, .ref g4, .ref g5, .ref g6, .ref g7, .ref g8])), (h1, .inr (1, [.ref g9, .ref g10, .ref g11, .ref h2, .ref g12, .ref g13, .ref g14, .int 4, .int 3, .int 0, .int (-1), .int 0])), (h2, .inr (6, [.ref g15, .int 0]))]) := by
  refine CtI.of (by decide +kernel) (Nat.le_of_ble_eq_true rfl) ?_
  intro p e s m below meth c A ls hx hb hr hml hown hts hnw hlocks hin hA hS hP hK hD hl
  have hown : s.vm.findClass RX11 = some m.cls := hown
  have hl : lv_has ls 5 [(0, .ref h0), (1, .int 5), (2, .int s0)] := hl
  refine lv_iload_n hx hb dX11_writeText_0 rfl (lv_at hl 2 rfl) ?_
  refine lv_if_lt (tgt := 13) hx hb dX11_writeText_1 (by decide) (fun h9 => absurd h9 (iv_nlt s0l (by decide +kernel : (0 : Int32).toInt ≤ (0 : Int)) (by decide))) (fun _ => ?_)
  refine lv_iload_n hx hb dX11_writeText_4 rfl (lv_at hl 2 rfl) ?_
  refine lv_aload_n hx hb dX11_writeText_5 rfl (lv_at hl 0 rfl) ?_
  refine lv_iload_n hx hb dX11_writeText_6 rfl (lv_at hl 1 rfl) ?_
  refine kVi (As := [.int 5]) (rest := [.int s0]) (wr := []) hx hb hml hown hts hnw hK hP hD hS hA hl.1 (c_X11_textsOf_6 l D cI cZ cB cJ h0 h1 h2 g0 g1 g2 g3 g4 g5 g6 g7 g8 g9 g10 g11 g12 g13 g14 g15) yk_X11_textsOf wm_857 [0, 1, 2] [] rfl rfl (by decide) (by decide) (by decide) 0 rfl rfl rfl rfl rfl dX11_writeText_7 ⟨Nat.le_of_ble_eq_true rfl, Nat.le_of_ble_eq_true rfl⟩ ⟨Nat.le_of_ble_eq_true rfl, Nat.le_of_ble_eq_true rfl⟩ (Nat.le_of_ble_eq_true rfl) (fun r9 w1 H locs hq9 hP hD hS => ?_)
  obtain ⟨rfl, rfl⟩ := hq9
  have hP : va_P D vwCl [(h0, .inr (11, [.ref g0, .int 0, .ref g1, .ref g2, .ref h1, .ref g3, .ref g4, .ref g5, .ref g6, .ref g7, .ref g8])), (h1, .inr (1, [.ref g9, .ref g10, .ref g11, .ref h2, .ref g12, .ref g13, .ref g14, .int 4, .int 3, .int 0, .int (-1), .int 0])), (h2, .inr (6, [.ref g15, .int 0]))] H := hP
  have hD : va_D A [(h0, .inr (11, [.ref g0, .int 0, .ref g1, .ref g2, .ref h1, .ref g3, .ref g4, .ref g5, .ref g6, .ref g7, .ref g8])), (h1, .inr (1, [.ref g9, .ref g10, .ref g11, .ref h2, .ref g12, .ref g13, .ref g14, .int 4, .int 3, .int 0, .int (-1), .int 0])), (h2, .inr (6, [.ref g15, .int 0]))] := hD
  refine W.widen (k := 0) (n := 0) (Nat.le_of_ble_eq_true rfl) (Nat.le_of_ble_eq_true rfl) ?_
  refine pcn (b := 10) rfl ?_
  refine lv_icmp_lt (tgt := 15) hx hb dX11_writeText_10 (by decide) (fun h9 => absurd h9 (iv_nlt s0l (by decide +kernel : (0 : Int32).toInt ≤ (0 : Int)) (by decide))) (fun _ => ?_)
  refine lv_iconst (v := 0) hx hb dX11_writeText_13 (by decide +kernel) ?_
  refine W.widen (k := 0) (n := 0) (Nat.le_of_ble_eq_true rfl) (Nat.le_of_ble_eq_true rfl) ?_
  exact rtZ hx hb hr rfl hlocks hS hP hD ⟨rfl, rfl⟩ dX11_writeText_14

set_option maxHeartbeats 4000000 in
set_option maxRecDepth 100000 in
theorem c_X12_manyOf_7 (l : Launch) (D : va_G) (cI cZ cB cJ : ClassId) (h0 g0 g1 g2 g3 g4 g5 g6 g7 g8 g9 g10 g11 g12 g13 g14 g15 g16 g17 g18 g19 g20 g21 g22 g23 g24 g25 g26 g27 g28 g29 g30 g31 g32 g33 g34 g35 g36 g37 g38 g39 g40 g41 g42 g43 g44 g45 g46 g47 g48 g49 g50 g51 g52 g53 g54 g55 g56 g57 g58 g59 g60 g61 g62 g63 g64 g65 g66 g67 g68 g69 : Nat) : CtI l D (TT cI cZ cB cJ) yX12_manyOf cX12_manyOf 2 (some .int) 0 0 0 0 [.ref h0, .int 6] [(h0, .inr (12, [.ref g0, .ref g1, .ref g2, .ref g3, .ref g4, .int 4, .ref g5, .ref g6, .ref g7, .ref g8, .ref g9, .int 0, .ref g10, .ref g11, .ref g12, .ref g13, .ref g14, .ref g15, .ref g16, .ref g17, .int 0, .ref g18, .int 0, .ref g19, .int 0, .int 0, .int 0, .int 0, .int 0, .int 0, .int 0, .int 0, .long 0, .ref g20, .ref g21, .ref g22, .ref g23, .ref g24, .ref g25, .ref g26, .ref g27, .ref g28, .ref g29, .ref g30, .int 0, .int 1, .int 0, .ref g31, .ref g32, .int 0, .ref g33, .ref g34, .ref g35, .ref g36, .int 0, .ref g37, .int 0, .ref g38, .ref g39, .ref g40, .ref g41, .ref g42, .ref g43, .ref g44, .ref g45, .ref g46, .ref g47, .int 0, .int 0, .int 4, .ref g48, .ref g49, .ref g50, .ref g51, .ref g52, .ref g53, .ref g54, .ref g55, .ref g56, .ref g57, .ref g58, .ref g59, .ref g60, .int 0, .int 0, .int 0, .int 0, .int 0, .int 0, .int 0, .int 0, .int 0, .int 0, .int 0, .int 0, .int 0, .int 0, .int 0, .int 0, .int 0, .int 0, .int 0, .int 0, .ref g61, .ref g62, .int 0, .ref g63, .ref g64, .ref g65, .ref g66, .int 0, .int 0, .ref g67, .ref g68, .int 0, .ref g69, .int 0, .int 0]))] (fun r w1 => r = 0 ∧ w1 = [(h0, .inr (12, [.ref g0, .ref g1, .ref g2, .ref g3, .ref g4, .int 4, .ref g5, .ref g6, .ref g7, .ref g8, .ref g9, .int 0, .ref g10, .ref g11, .ref g12, .ref g13, .ref g14, .ref g15, .ref g16, .ref g17, .int 0, .ref g18, .int 0, .ref g19, .int 0, .int 0, .int 0, .int 0, .int 0, .int 0, .int 0, .int 0, .long 0, .ref g20, .ref g21, .ref g22, .ref g23, .ref g24, .ref g25, .ref g26, .ref g27, .ref g28, .ref g29, .ref g30, .int 0, .int 1, .int 0, .ref g31, .ref g32, .int 0, .ref g33, .ref g34, .ref g35, .ref g36, .int 0, .ref g37, .int 0, .ref g38, .ref g39, .ref g40, .ref g41, .ref g42, .ref g43, .ref g44, .ref g45, .ref g46, .ref g47, .int 0, .int 0, .int 4, .ref g48, .ref g49, .ref g50, .ref g51, .ref g52, .ref g53, .ref g54, .ref g55, .ref g56, .ref g57, .ref g58, .ref g59, .ref g60, .int 0, .int 0, .int 0, .int 0, .int 0, .int 0, .int 0, .int 0, .int 0, .int 0, .int 0, .int 0, .int 0, .int 0, .int 0, .int 0, .int 0, .int 0, .int 0, .int 0, .ref g61, .ref g62, .int 0, .ref g63, .ref g64, .ref g65, .ref g66, .int 0, .int 0, .ref g67, .ref g68, .int 0, .ref g69, .int 0, .int 0]))]) := by
  refine CtI.of (by decide +kernel) (Nat.le_of_ble_eq_true rfl) ?_
  intro p e s m below meth c A ls hx hb hr hml hown hts hnw hlocks hin hA hS hP hK hD hl
  have hown : s.vm.findClass RX12 = some m.cls := hown
  have hl : lv_has ls 2 [(0, .ref h0), (1, .int 6)] := hl
  refine lv_iload_n hx hb dX12_manyOf_0 rfl (lv_at hl 1 rfl) ?_
  refine lv_tableIn (off := 71) (tgt := 72) hx hb dX12_manyOf_1 (by decide +kernel) (by decide +kernel) (by decide +kernel) (by decide) ?_
  refine lv_aload_n hx hb dX12_manyOf_72 rfl (lv_at hl 0 rfl) ?_
  refine va_get (D := D) (ci := 12) (v := .int 0) (C := RX12) (T := TX12) (N := 118) hx hb hts inX12 hown hK hP 0 rfl rfl 111 (by decide) (hts _ wm_1478) (fun _ h9 => h9) rfl dX12_manyOf_73 ?_
  refine W.widen (k := 0) (n := 0) (Nat.le_of_ble_eq_true rfl) (Nat.le_of_ble_eq_true rfl) ?_
  exact rtI hx hb hr hlocks hS hP hD ⟨rfl, rfl⟩ dX12_manyOf_76

set_option maxHeartbeats 4000000 in
set_option maxRecDepth 100000 in
theorem c_X11_writeText_25 (l : Launch) (D : va_G) (cI cZ cB cJ : ClassId) (h0 g0 g1 g2 g3 g4 g5 g6 g7 g8 g9 : Nat) (s0 : Int32) (s0l : ((-2147483648) : Int) ≤ s0.toInt) (s0h : s0.toInt ≤ ((-1) : Int)) : CtI l D (TT cI cZ cB cJ) yX11_writeText cX11_writeText 5 (some .boolean) 0 0 0 0 [.ref h0, .int 6, .int s0] [(h0, .inr (11, [.ref g0, .int 0, .ref g1, .ref g2, .ref g3, .ref g4, .ref g5, .ref g6, .ref g7, .ref g8, .ref g9]))] (fun r w1 => r = 0 ∧ w1 = [(h0, .inr (11, [.ref g0, .int 0, .ref g1, .ref g2, .ref g3, .ref g4, .ref g5, .ref g6, .ref g7, .ref g8, .ref g9]))]) := by
  refine CtI.of (by decide +kernel) (Nat.le_of_ble_eq_true rfl) ?_
  intro p e s m below meth c A ls hx hb hr hml hown hts hnw hlocks hin hA hS hP hK hD hl
  have hown : s.vm.findClass RX11 = some m.cls := hown
  have hl : lv_has ls 5 [(0, .ref h0), (1, .int 6), (2, .int s0)] := hl
  refine lv_iload_n hx hb dX11_writeText_0 rfl (lv_at hl 2 rfl) ?_
  refine lv_if_lt (tgt := 13) hx hb dX11_writeText_1 (by decide) (fun _ => ?_) (fun h9 => absurd (iv_lt s0h (by decide +kernel : (0 : Int) ≤ (0 : Int32).toInt) (by decide)) h9)
  refine lv_iconst (v := 0) hx hb dX11_writeText_13 (by decide +kernel) ?_
  refine W.widen (k := 0) (n := 0) (Nat.le_of_ble_eq_true rfl) (Nat.le_of_ble_eq_true rfl) ?_
  exact rtZ hx hb hr rfl hlocks hS hP hD ⟨rfl, rfl⟩ dX11_writeText_14

set_option maxHeartbeats 4000000 in
set_option maxRecDepth 100000 in
theorem c_X11_textsOf_7 (l : Launch) (D : va_G) (cI cZ cB cJ : ClassId) (h0 h1 g0 g1 g2 g3 g4 g5 g6 g7 g8 g9 g10 g11 g12 g13 g14 : Nat) : CtI l D (TT cI cZ cB cJ) yX11_textsOf cX11_textsOf 2 (some .int) 0 0 0 0 [.ref h0, .int 6] [(h0, .inr (11, [.ref g0, .int 0, .ref g1, .ref g2, .ref g3, .ref g4, .ref g5, .ref g6, .ref h1, .ref g7, .ref g8])), (h1, .inr (0, [.ref g9, .ref g10, .ref g11, .ref g12, .ref g13, .ref g14, .int 0, .int 0]))] (fun r w1 => r = 0 ∧ w1 = [(h0, .inr (11, [.ref g0, .int 0, .ref g1, .ref g2, .ref g3, .ref g4, .ref g5, .ref g6, .ref h1, .ref g7, .ref g8])), (h1, .inr (0, [.ref g9, .ref g10, .ref g11, .ref g12, .ref g13, .ref g14, .int 0, .int 0]))]) := by
  refine CtI.of (by decide +kernel) (Nat.le_of_ble_eq_true rfl) ?_
  intro p e s m below meth c A ls hx hb hr hml hown hts hnw hlocks hin hA hS hP hK hD hl
  have hown : s.vm.findClass RX11 = some m.cls := hown
  have hl : lv_has ls 2 [(0, .ref h0), (1, .int 6)] := hl
  refine lv_iload_n hx hb dX11_textsOf_0 rfl (lv_at hl 1 rfl) ?_
  refine lv_tableIn (off := 114) (tgt := 115) hx hb dX11_textsOf_1 (by decide +kernel) (by decide +kernel) (by decide +kernel) (by decide) ?_
  refine lv_aload_n hx hb dX11_textsOf_115 rfl (lv_at hl 0 rfl) ?_
  refine va_get (D := D) (ci := 11) (v := .ref h1) (C := RX11) (T := TX11) (N := 11) hx hb hts inX11 hown hK hP 0 rfl rfl 8 (by decide) (hts _ wm_590) (fun _ h9 => h9) rfl dX11_textsOf_116 ?_
  refine va_getN (D := D) (ci := 0) (v := .int 0) (C := RX0) (T := TX0) (N := 8) hx hb hts inX0 hown hK hP 1 rfl rfl 7 (by decide) (va_Nw.use rfl (hnw _ wn_450)) (fun _ h9 => h9) rfl dX11_textsOf_119 ?_
  refine W.widen (k := 0) (n := 0) (Nat.le_of_ble_eq_true rfl) (Nat.le_of_ble_eq_true rfl) ?_
  exact rtI hx hb hr hlocks hS hP hD ⟨rfl, rfl⟩ dX11_textsOf_122

set_option maxHeartbeats 4000000 in
set_option maxRecDepth 100000 in
theorem c_X11_writeText_26 (l : Launch) (D : va_G) (cI cZ cB cJ : ClassId) (h0 h1 g0 g1 g2 g3 g4 g5 g6 g7 g8 g9 g10 g11 g12 g13 g14 : Nat) : CtI l D (TT cI cZ cB cJ) yX11_writeText cX11_writeText 5 (some .boolean) 1 21 0 0 [.ref h0, .int 6, .int 0] [(h0, .inr (11, [.ref g0, .int 0, .ref g1, .ref g2, .ref g3, .ref g4, .ref g5, .ref g6, .ref h1, .ref g7, .ref g8])), (h1, .inr (0, [.ref g9, .ref g10, .ref g11, .ref g12, .ref g13, .ref g14, .int 0, .int 0]))] (fun r w1 => r = 0 ∧ w1 = [(h0, .inr (11, [.ref g0, .int 0, .ref g1, .ref g2, .ref g3, .ref g4, .ref g5, .ref g6, .ref h1, .ref g7, .ref g8])), (h1, .inr (0, [.ref g9, .ref g10, .ref g11, .ref g12, .ref g13, .ref g14, .int 0, .int 0]))]) := by
  refine CtI.of (by decide +kernel) (Nat.le_of_ble_eq_true rfl) ?_
  intro p e s m below meth c A ls hx hb hr hml hown hts hnw hlocks hin hA hS hP hK hD hl
  have hown : s.vm.findClass RX11 = some m.cls := hown
  have hl : lv_has ls 5 [(0, .ref h0), (1, .int 6), (2, .int 0)] := hl
  refine lv_iload_n hx hb dX11_writeText_0 rfl (lv_at hl 2 rfl) ?_
  refine lv_if_lt (tgt := 13) hx hb dX11_writeText_1 (by decide) (fun h9 => absurd h9 (by decide +kernel)) (fun _ => ?_)
  refine lv_iload_n hx hb dX11_writeText_4 rfl (lv_at hl 2 rfl) ?_
  refine lv_aload_n hx hb dX11_writeText_5 rfl (lv_at hl 0 rfl) ?_
  refine lv_iload_n hx hb dX11_writeText_6 rfl (lv_at hl 1 rfl) ?_
  refine kVi (As := [.int 6]) (rest := [.int 0]) (wr := []) hx hb hml hown hts hnw hK hP hD hS hA hl.1 (c_X11_textsOf_7 l D cI cZ cB cJ h0 h1 g0 g1 g2 g3 g4 g5 g6 g7 g8 g9 g10 g11 g12 g13 g14) yk_X11_textsOf wm_857 [0, 1] [] rfl rfl (by decide) (by decide) (by decide) 0 rfl rfl rfl rfl rfl dX11_writeText_7 ⟨Nat.le_of_ble_eq_true rfl, Nat.le_of_ble_eq_true rfl⟩ ⟨Nat.le_of_ble_eq_true rfl, Nat.le_of_ble_eq_true rfl⟩ (Nat.le_of_ble_eq_true rfl) (fun r9 w1 H locs hq9 hP hD hS => ?_)
  obtain ⟨rfl, rfl⟩ := hq9
  have hP : va_P D vwCl [(h0, .inr (11, [.ref g0, .int 0, .ref g1, .ref g2, .ref g3, .ref g4, .ref g5, .ref g6, .ref h1, .ref g7, .ref g8])), (h1, .inr (0, [.ref g9, .ref g10, .ref g11, .ref g12, .ref g13, .ref g14, .int 0, .int 0]))] H := hP
  have hD : va_D A [(h0, .inr (11, [.ref g0, .int 0, .ref g1, .ref g2, .ref g3, .ref g4, .ref g5, .ref g6, .ref h1, .ref g7, .ref g8])), (h1, .inr (0, [.ref g9, .ref g10, .ref g11, .ref g12, .ref g13, .ref g14, .int 0, .int 0]))] := hD
  refine W.widen (k := 0) (n := 0) (Nat.le_of_ble_eq_true rfl) (Nat.le_of_ble_eq_true rfl) ?_
  refine pcn (b := 10) rfl ?_
  refine lv_icmp_lt (tgt := 15) hx hb dX11_writeText_10 (by decide) (fun h9 => absurd h9 (by decide +kernel)) (fun _ => ?_)
  refine lv_iconst (v := 0) hx hb dX11_writeText_13 (by decide +kernel) ?_
  refine W.widen (k := 0) (n := 0) (Nat.le_of_ble_eq_true rfl) (Nat.le_of_ble_eq_true rfl) ?_
  exact rtZ hx hb hr rfl hlocks hS hP hD ⟨rfl, rfl⟩ dX11_writeText_14

set_option maxHeartbeats 4000000 in
set_option maxRecDepth 100000 in
theorem c_X11_writeText_27 (l : Launch) (D : va_G) (cI cZ cB cJ : ClassId) (h0 h1 g0 g1 g2 g3 g4 g5 g6 g7 g8 g9 g10 g11 g12 g13 g14 : Nat) (s0 : Int32) (s0l : (1 : Int) ≤ s0.toInt) (s0h : s0.toInt ≤ (2147483647 : Int)) : CtI l D (TT cI cZ cB cJ) yX11_writeText cX11_writeText 5 (some .boolean) 1 21 0 0 [.ref h0, .int 6, .int s0] [(h0, .inr (11, [.ref g0, .int 0, .ref g1, .ref g2, .ref g3, .ref g4, .ref g5, .ref g6, .ref h1, .ref g7, .ref g8])), (h1, .inr (0, [.ref g9, .ref g10, .ref g11, .ref g12, .ref g13, .ref g14, .int 0, .int 0]))] (fun r w1 => r = 0 ∧ w1 = [(h0, .inr (11, [.ref g0, .int 0, .ref g1, .ref g2, .ref g3, .ref g4, .ref g5, .ref g6, .ref h1, .ref g7, .ref g8])), (h1, .inr (0, [.ref g9, .ref g10, .ref g11, .ref g12, .ref g13, .ref g14, .int 0, .int 0]))]) := by
  refine CtI.of (by decide +kernel) (Nat.le_of_ble_eq_true rfl) ?_
  intro p e s m below meth c A ls hx hb hr hml hown hts hnw hlocks hin hA hS hP hK hD hl
  have hown : s.vm.findClass RX11 = some m.cls := hown
  have hl : lv_has ls 5 [(0, .ref h0), (1, .int 6), (2, .int s0)] := hl
  refine lv_iload_n hx hb dX11_writeText_0 rfl (lv_at hl 2 rfl) ?_
  refine lv_if_lt (tgt := 13) hx hb dX11_writeText_1 (by decide) (fun h9 => absurd h9 (iv_nlt s0l (by decide +kernel : (0 : Int32).toInt ≤ (0 : Int)) (by decide))) (fun _ => ?_)
  refine lv_iload_n hx hb dX11_writeText_4 rfl (lv_at hl 2 rfl) ?_
  refine lv_aload_n hx hb dX11_writeText_5 rfl (lv_at hl 0 rfl) ?_
  refine lv_iload_n hx hb dX11_writeText_6 rfl (lv_at hl 1 rfl) ?_
  refine kVi (As := [.int 6]) (rest := [.int s0]) (wr := []) hx hb hml hown hts hnw hK hP hD hS hA hl.1 (c_X11_textsOf_7 l D cI cZ cB cJ h0 h1 g0 g1 g2 g3 g4 g5 g6 g7 g8 g9 g10 g11 g12 g13 g14) yk_X11_textsOf wm_857 [0, 1] [] rfl rfl (by decide) (by decide) (by decide) 0 rfl rfl rfl rfl rfl dX11_writeText_7 ⟨Nat.le_of_ble_eq_true rfl, Nat.le_of_ble_eq_true rfl⟩ ⟨Nat.le_of_ble_eq_true rfl, Nat.le_of_ble_eq_true rfl⟩ (Nat.le_of_ble_eq_true rfl) (fun r9 w1 H locs hq9 hP hD hS => ?_)
  obtain ⟨rfl, rfl⟩ := hq9
  have hP : va_P D vwCl [(h0, .inr (11, [.ref g0, .int 0, .ref g1, .ref g2, .ref g3, .ref g4, .ref g5, .ref g6, .ref h1, .ref g7, .ref g8])), (h1, .inr (0, [.ref g9, .ref g10, .ref g11, .ref g12, .ref g13, .ref g14, .int 0, .int 0]))] H := hP
  have hD : va_D A [(h0, .inr (11, [.ref g0, .int 0, .ref g1, .ref g2, .ref g3, .ref g4, .ref g5, .ref g6, .ref h1, .ref g7, .ref g8])), (h1, .inr (0, [.ref g9, .ref g10, .ref g11, .ref g12, .ref g13, .ref g14, .int 0, .int 0]))] := hD
  refine W.widen (k := 0) (n := 0) (Nat.le_of_ble_eq_true rfl) (Nat.le_of_ble_eq_true rfl) ?_
  refine pcn (b := 10) rfl ?_
  refine lv_icmp_lt (tgt := 15) hx hb dX11_writeText_10 (by decide) (fun h9 => absurd h9 (iv_nlt s0l (by decide +kernel : (0 : Int32).toInt ≤ (0 : Int)) (by decide))) (fun _ => ?_)
  refine lv_iconst (v := 0) hx hb dX11_writeText_13 (by decide +kernel) ?_
  refine W.widen (k := 0) (n := 0) (Nat.le_of_ble_eq_true rfl) (Nat.le_of_ble_eq_true rfl) ?_
  exact rtZ hx hb hr rfl hlocks hS hP hD ⟨rfl, rfl⟩ dX11_writeText_14

set_option maxHeartbeats 4000000 in
set_option maxRecDepth 100000 in
theorem c_X12_manyOf_8 (l : Launch) (D : va_G) (cI cZ cB cJ : ClassId) (h0 h1 g0 g1 g2 g3 g4 g5 g6 g7 g8 g9 g10 g11 g12 g13 g14 g15 g16 g17 g18 g19 g20 g21 g22 g23 g24 g25 g26 g27 g28 g29 g30 g31 g32 g33 g34 g35 g36 g37 g38 g39 g40 g41 g42 g43 g44 g45 g46 g47 g48 g49 g50 g51 g52 g53 g54 g55 g56 g57 g58 g59 g60 g61 g62 g63 g64 g65 g66 g67 g68 : Nat) : CtI l D (TT cI cZ cB cJ) yX12_manyOf cX12_manyOf 2 (some .int) 0 0 0 0 [.ref h0, .int 7] [(h0, .inr (12, [.ref g0, .ref g1, .ref g2, .ref g3, .ref g4, .int 4, .ref g5, .ref g6, .ref g7, .ref g8, .ref g9, .int 0, .ref g10, .ref g11, .ref g12, .ref g13, .ref g14, .ref g15, .ref g16, .ref g17, .int 0, .ref g18, .int 0, .ref g19, .int 0, .int 0, .int 0, .int 0, .int 0, .int 0, .int 0, .int 0, .long 0, .ref g20, .ref g21, .ref g22, .ref g23, .ref g24, .ref g25, .ref g26, .ref g27, .ref h1, .ref g28, .ref g29, .int 0, .int 1, .int 0, .ref g30, .ref g31, .int 0, .ref g32, .ref g33, .ref g34, .ref g35, .int 0, .ref g36, .int 0, .ref g37, .ref g38, .ref g39, .ref g40, .ref g41, .ref g42, .ref g43, .ref g44, .ref g45, .ref g46, .int 0, .int 0, .int 4, .ref g47, .ref g48, .ref g49, .ref g50, .ref g51, .ref g52, .ref g53, .ref g54, .ref g55, .ref g56, .ref g57, .ref g58, .ref g59, .int 0, .int 0, .int 0, .int 0, .int 0, .int 0, .int 0, .int 0, .int 0, .int 0, .int 0, .int 0, .int 0, .int 0, .int 0, .int 0, .int 0, .int 0, .int 0, .int 0, .ref g60, .ref g61, .int 0, .ref g62, .ref g63, .ref g64, .ref g65, .int 0, .int 0, .ref g66, .ref g67, .int 0, .ref g68, .int 0, .int 0])), (h1, .inl (cI, 2, .inl (upd (fun _ => 0) 0 1)))] (fun r w1 => r = 1 ∧ w1 = [(h0, .inr (12, [.ref g0, .ref g1, .ref g2, .ref g3, .ref g4, .int 4, .ref g5, .ref g6, .ref g7, .ref g8, .ref g9, .int 0, .ref g10, .ref g11, .ref g12, .ref g13, .ref g14, .ref g15, .ref g16, .ref g17, .int 0, .ref g18, .int 0, .ref g19, .int 0, .int 0, .int 0, .int 0, .int 0, .int 0, .int 0, .int 0, .long 0, .ref g20, .ref g21, .ref g22, .ref g23, .ref g24, .ref g25, .ref g26, .ref g27, .ref h1, .ref g28, .ref g29, .int 0, .int 1, .int 0, .ref g30, .ref g31, .int 0, .ref g32, .ref g33, .ref g34, .ref g35, .int 0, .ref g36, .int 0, .ref g37, .ref g38, .ref g39, .ref g40, .ref g41, .ref g42, .ref g43, .ref g44, .ref g45, .ref g46, .int 0, .int 0, .int 4, .ref g47, .ref g48, .ref g49, .ref g50, .ref g51, .ref g52, .ref g53, .ref g54, .ref g55, .ref g56, .ref g57, .ref g58, .ref g59, .int 0, .int 0, .int 0, .int 0, .int 0, .int 0, .int 0, .int 0, .int 0, .int 0, .int 0, .int 0, .int 0, .int 0, .int 0, .int 0, .int 0, .int 0, .int 0, .int 0, .ref g60, .ref g61, .int 0, .ref g62, .ref g63, .ref g64, .ref g65, .int 0, .int 0, .ref g66, .ref g67, .int 0, .ref g68, .int 0, .int 0])), (h1, .inl (cI, 2, .inl (upd (fun _ => 0) 0 1)))]) := by
  refine CtI.of (by decide +kernel) (Nat.le_of_ble_eq_true rfl) ?_
  intro p e s m below meth c A ls hx hb hr hml hown hts hnw hlocks hin hA hS hP hK hD hl
  have hown : s.vm.findClass RX12 = some m.cls := hown
  have hl : lv_has ls 2 [(0, .ref h0), (1, .int 7)] := hl
  refine lv_iload_n hx hb dX12_manyOf_0 rfl (lv_at hl 1 rfl) ?_
  refine lv_tableIn (off := 76) (tgt := 77) hx hb dX12_manyOf_1 (by decide +kernel) (by decide +kernel) (by decide +kernel) (by decide) ?_
  refine lv_aload_n hx hb dX12_manyOf_77 rfl (lv_at hl 0 rfl) ?_
  refine va_get (D := D) (ci := 12) (v := .ref h1) (C := RX12) (T := TX12) (N := 118) hx hb hts inX12 hown hK hP 0 rfl rfl 41 (by decide) (hts _ wm_1408) (fun _ h9 => h9) rfl dX12_manyOf_78 ?_
  refine lv_aload_n hx hb dX12_manyOf_81 rfl (lv_at hl 0 rfl) ?_
  refine va_get (D := D) (ci := 12) (v := .int 0) (C := RX12) (T := TX12) (N := 118) hx hb hts inX12 hown hK hP 0 rfl rfl 44 (by decide) (hts _ wm_1411) (fun _ h9 => h9) rfl dX12_manyOf_82 ?_
  refine al_i (x := 1) hx hb hK hP 1 0 rfl rfl (vpi (by decide +kernel)) (by first | decide +kernel | rfl) dX12_manyOf_85 ?_
  refine W.widen (k := 0) (n := 0) (Nat.le_of_ble_eq_true rfl) (Nat.le_of_ble_eq_true rfl) ?_
  exact rtI hx hb hr hlocks hS hP hD ⟨rfl, rfl⟩ dX12_manyOf_86

set_option maxHeartbeats 4000000 in
set_option maxRecDepth 100000 in
theorem c_X11_writeText_28 (l : Launch) (D : va_G) (cI cZ cB cJ : ClassId) (h0 g0 g1 g2 g3 g4 g5 g6 g7 g8 g9 : Nat) (s0 : Int32) (s0l : ((-2147483648) : Int) ≤ s0.toInt) (s0h : s0.toInt ≤ ((-1) : Int)) : CtI l D (TT cI cZ cB cJ) yX11_writeText cX11_writeText 5 (some .boolean) 0 0 0 0 [.ref h0, .int 7, .int s0] [(h0, .inr (11, [.ref g0, .int 0, .ref g1, .ref g2, .ref g3, .ref g4, .ref g5, .ref g6, .ref g7, .ref g8, .ref g9]))] (fun r w1 => r = 0 ∧ w1 = [(h0, .inr (11, [.ref g0, .int 0, .ref g1, .ref g2, .ref g3, .ref g4, .ref g5, .ref g6, .ref g7, .ref g8, .ref g9]))]) := by
  refine CtI.of (by decide +kernel) (Nat.le_of_ble_eq_true rfl) ?_
  intro p e s m below meth c A ls hx hb hr hml hown hts hnw hlocks hin hA hS hP hK hD hl
  have hown : s.vm.findClass RX11 = some m.cls := hown
  have hl : lv_has ls 5 [(0, .ref h0), (1, .int 7), (2, .int s0)] := hl
  refine lv_iload_n hx hb dX11_writeText_0 rfl (lv_at hl 2 rfl) ?_
  refine lv_if_lt (tgt := 13) hx hb dX11_writeText_1 (by decide) (fun _ => ?_) (fun h9 => absurd (iv_lt s0h (by decide +kernel : (0 : Int) ≤ (0 : Int32).toInt) (by decide)) h9)
  refine lv_iconst (v := 0) hx hb dX11_writeText_13 (by decide +kernel) ?_
  refine W.widen (k := 0) (n := 0) (Nat.le_of_ble_eq_true rfl) (Nat.le_of_ble_eq_true rfl) ?_
  exact rtZ hx hb hr rfl hlocks hS hP hD ⟨rfl, rfl⟩ dX11_writeText_14

set_option maxHeartbeats 4000000 in
set_option maxRecDepth 100000 in
theorem c_X11_textsOf_8 (l : Launch) (D : va_G) (cI cZ cB cJ : ClassId) (h0 h1 h2 g0 g1 g2 g3 g4 g5 g6 g7 g8 g9 g10 g11 g12 g13 g14 g15 g16 g17 g18 g19 g20 g21 g22 g23 : Nat) : CtI l D (TT cI cZ cB cJ) yX11_textsOf cX11_textsOf 2 (some .int) 0 0 0 0 [.ref h0, .int 7] [(h0, .inr (11, [.ref g0, .int 0, .ref g1, .ref g2, .ref h1, .ref g3, .ref g4, .ref g5, .ref g6, .ref g7, .ref g8])), (h1, .inr (1, [.ref h2, .ref g9, .ref g10, .ref g11, .ref g12, .ref g13, .ref g14, .int 4, .int 3, .int 0, .int (-1), .int 0])), (h2, .inr (7, [.ref g15, .ref g16, .ref g17, .ref g18, .ref g19, .ref g20, .ref g21, .ref g22, .ref g23, .int 1, .int 1, .int 0]))] (fun r w1 => r = 1 ∧ w1 = [(h0, .inr (11, [.ref g0, .int 0, .ref g1, .ref g2, .ref h1, .ref g3, .ref g4, .ref g5, .ref g6, .ref g7, .ref g8])), (h1, .inr (1, [.ref h2, .ref g9, .ref g10, .ref g11, .ref g12, .ref g13, .ref g14, .int 4, .int 3, .int 0, .int (-1), .int 0])), (h2, .inr (7, [.ref g15, .ref g16, .ref g17, .ref g18, .ref g19, .ref g20, .ref g21, .ref g22, .ref g23, .int 1, .int 1, .int 0]))]) := by
  refine CtI.of (by decide +kernel) (Nat.le_of_ble_eq_true rfl) ?_
  intro p e s m below meth c A ls hx hb hr hml hown hts hnw hlocks hin hA hS hP hK hD hl
  have hown : s.vm.findClass RX11 = some m.cls := hown
  have hl : lv_has ls 2 [(0, .ref h0), (1, .int 7)] := hl
  refine lv_iload_n hx hb dX11_textsOf_0 rfl (lv_at hl 1 rfl) ?_
  refine lv_tableIn (off := 122) (tgt := 123) hx hb dX11_textsOf_1 (by decide +kernel) (by decide +kernel) (by decide +kernel) (by decide) ?_
  refine lv_aload_n hx hb dX11_textsOf_123 rfl (lv_at hl 0 rfl) ?_
  refine va_get (D := D) (ci := 11) (v := .ref h1) (C := RX11) (T := TX11) (N := 11) hx hb hts inX11 hown hK hP 0 rfl rfl 4 (by decide) (hts _ wm_586) (fun _ h9 => h9) rfl dX11_textsOf_124 ?_
  refine va_getN (D := D) (ci := 1) (v := .ref h2) (C := RX1) (T := TX1) (N := 12) hx hb hts inX1 hown hK hP 1 rfl rfl 0 (by decide) (va_Nw.use rfl (hnw _ wn_275)) (fun _ h9 => h9) rfl dX11_textsOf_127 ?_
  refine va_getN (D := D) (ci := 7) (v := .int 1) (C := RX7) (T := TX7) (N := 12) hx hb hts inX7 hown hK hP 2 rfl rfl 9 (by decide) (va_Nw.use rfl (hnw _ wn_100)) (fun _ h9 => h9) rfl dX11_textsOf_130 ?_
  refine W.widen (k := 0) (n := 0) (Nat.le_of_ble_eq_true rfl) (Nat.le_of_ble_eq_true rfl) ?_
  exact rtI hx hb hr hlocks hS hP hD ⟨rfl, rfl⟩ dX11_textsOf_133

set_option maxHeartbeats 4000000 in
set_option maxRecDepth 100000 in
theorem c_X10_sign_15 (l : Launch) (D : va_G) (cI cZ cB cJ : ClassId) (h0 : Nat) : CtV l D (TT cI cZ cB cJ) yX10_sign cX10_sign 2 none 0 0 0 0 [.ref h0, .int 48] [(h0, .inr (10, [.int (-1), .int 0, .int (-4)]))] (fun w1 => w1 = [(h0, .inr (10, [.int (-1), .int 1, .int (-4)]))]) := by
  refine CtV.of (by decide +kernel) (Nat.le_of_ble_eq_true rfl) ?_
  intro p e s m below meth c A ls hx hb hr hml hown hts hnw hlocks hin hA hS hP hK hD hl
  have hown : s.vm.findClass RX10 = some m.cls := hown
  have hl : lv_has ls 2 [(0, .ref h0), (1, .int 48)] := hl
  refine lv_aload_n hx hb dX10_sign_0 rfl (lv_at hl 0 rfl) ?_
  refine va_get (D := D) (ci := 10) (v := .int 0) (C := RX10) (T := TX10) (N := 3) hx hb hts inX10 hown hK hP 0 rfl rfl 1 (by decide) (hts _ wm_416) (fun _ h9 => h9) rfl dX10_sign_1 ?_
  refine lv_sipush (v := 3000) hx hb dX10_sign_4 (by decide +kernel) ?_
  refine lv_icmp_lt (tgt := 11) hx hb dX10_sign_7 (by decide) (fun _ => ?_) (fun h9 => absurd (by decide +kernel) h9)
  refine lv_aload_n hx hb dX10_sign_11 rfl (lv_at hl 0 rfl) ?_
  refine va_get (D := D) (ci := 10) (v := .int 0) (C := RX10) (T := TX10) (N := 3) hx hb hts inX10 hown hK hP 0 rfl rfl 1 (by decide) (hts _ wm_416) (fun _ h9 => h9) rfl dX10_sign_12 ?_
  refine lv_aload_n hx hb dX10_sign_15 rfl (lv_at hl 0 rfl) ?_
  refine va_get (D := D) (ci := 10) (v := .int (-1)) (C := RX10) (T := TX10) (N := 3) hx hb hts inX10 hown hK hP 0 rfl rfl 0 (by decide) (hts _ wm_415) (fun _ h9 => h9) rfl dX10_sign_16 ?_
  refine lv_icmp_ne (tgt := 27) hx hb dX10_sign_19 (by decide) (fun _ => ?_) (fun h9 => absurd h9 (by decide +kernel))
  refine lv_aload_n hx hb dX10_sign_27 rfl (lv_at hl 0 rfl) ?_
  refine lv_dup hx hb dX10_sign_28 rfl ?_
  refine va_get (D := D) (ci := 10) (v := .int 0) (C := RX10) (T := TX10) (N := 3) hx hb hts inX10 hown hK hP 0 rfl rfl 1 (by decide) (hts _ wm_416) (fun _ h9 => h9) rfl dX10_sign_29 ?_
  refine lv_iconst (v := 1) hx hb dX10_sign_32 (by decide +kernel) ?_
  refine lv_iadd hx hb dX10_sign_33 ?_
  refine nrm (y := 1) (by decide +kernel) ?_
  refine va_put (D := D) (ci := 10) (v := .int 1) (ty := .int) (C := RX10) (T := TX10) (N := 3) hx hb hts inX10 tyX10 tyX10_ok nmX10 hown hK hP hD hS 0 rfl rfl 1 (by decide) (hts _ wm_416) (fun _ h9 => h9) rfl (by decide +kernel) rfl rfl (Nat.le_of_ble_eq_true rfl) dX10_sign_34 (fun H locs hP hD hS => ?_)
  have hP : va_P D vwCl [(h0, .inr (10, [.int (-1), .int 1, .int (-4)]))] H := hP
  have hD : va_D A [(h0, .inr (10, [.int (-1), .int 1, .int (-4)]))] := hD
  refine W.widen (k := 0) (n := 0) (Nat.le_of_ble_eq_true rfl) (Nat.le_of_ble_eq_true rfl) ?_
  exact rtV hx hb hr hlocks hS hP hD rfl dX10_sign_37

set_option maxHeartbeats 4000000 in
set_option maxRecDepth 100000 in
theorem c_X10_digits_0 (l : Launch) (D : va_G) (cI cZ cB cJ : ClassId) (h0 : Nat) : CtV l D (TT cI cZ cB cJ) yX10_digits cX10_digits 3 none 1 21 0 0 [.ref h0, .int 0] [(h0, .inr (10, [.int (-1), .int 0, .int (-4)]))] (fun w1 => w1 = [(h0, .inr (10, [.int (-1), .int 1, .int (-4)]))]) := by
  refine CtV.of (by decide +kernel) (Nat.le_of_ble_eq_true rfl) ?_
  intro p e s m below meth c A ls hx hb hr hml hown hts hnw hlocks hin hA hS hP hK hD hl
  have hown : s.vm.findClass RX10 = some m.cls := hown
  have hl : lv_has ls 3 [(0, .ref h0), (1, .int 0)] := hl
  refine lv_sipush (v := 1000) hx hb dX10_digits_0 (by decide +kernel) ?_
  refine lv_istore_n (lv' := [(2, .int 1000), (0, .ref h0), (1, .int 0)]) hx hb dX10_digits_3 rfl hl (by decide) rfl (fun ls hl => ?_)
  refine lv_iload_n hx hb dX10_digits_4 rfl (lv_at hl 0 rfl) ?_
  refine lv_iconst (v := 1) hx hb dX10_digits_5 (by decide +kernel) ?_
  refine lv_icmp_le (tgt := 22) hx hb dX10_digits_6 (by decide) (fun h9 => absurd h9 (by decide +kernel)) (fun _ => ?_)
  refine lv_iload_n hx hb dX10_digits_9 rfl (lv_at hl 2 rfl) ?_
  refine lv_iload_n hx hb dX10_digits_10 rfl (lv_at hl 0 rfl) ?_
  refine pcn (b := 11) rfl ?_
  refine lv_icmp_ge (tgt := 22) hx hb dX10_digits_11 (by decide) (fun h9 => absurd h9 (by decide +kernel)) (fun _ => ?_)
  refine lv_iload_n hx hb dX10_digits_14 rfl (lv_at hl 0 rfl) ?_
  refine lv_bipush (v := 10) hx hb dX10_digits_15 (by decide +kernel) ?_
  refine lv_idiv hx hb dX10_digits_17 (by decide +kernel) ?_
  refine nrm (y := 100) (by decide +kernel) ?_
  refine lv_istore_n (lv' := [(2, .int 100), (0, .ref h0), (1, .int 0)]) hx hb dX10_digits_18 rfl hl (by decide) rfl (fun ls hl => ?_)
  refine lv_goto (tgt := 4) hx hb dX10_digits_19 (by decide) ?_
  refine lv_iload_n hx hb dX10_digits_4 rfl (lv_at hl 0 rfl) ?_
  refine lv_iconst (v := 1) hx hb dX10_digits_5 (by decide +kernel) ?_
  refine lv_icmp_le (tgt := 22) hx hb dX10_digits_6 (by decide) (fun h9 => absurd h9 (by decide +kernel)) (fun _ => ?_)
  refine lv_iload_n hx hb dX10_digits_9 rfl (lv_at hl 2 rfl) ?_
  refine lv_iload_n hx hb dX10_digits_10 rfl (lv_at hl 0 rfl) ?_
  refine lv_icmp_ge (tgt := 22) hx hb dX10_digits_11 (by decide) (fun h9 => absurd h9 (by decide +kernel)) (fun _ => ?_)
  refine lv_iload_n hx hb dX10_digits_14 rfl (lv_at hl 0 rfl) ?_
  refine pcn (b := 15) rfl ?_
  refine lv_bipush (v := 10) hx hb dX10_digits_15 (by decide +kernel) ?_
  refine lv_idiv hx hb dX10_digits_17 (by decide +kernel) ?_
  refine nrm (y := 10) (by decide +kernel) ?_
  refine lv_istore_n (lv' := [(2, .int 10), (0, .ref h0), (1, .int 0)]) hx hb dX10_digits_18 rfl hl (by decide) rfl (fun ls hl => ?_)
  refine lv_goto (tgt := 4) hx hb dX10_digits_19 (by decide) ?_
  refine lv_iload_n hx hb dX10_digits_4 rfl (lv_at hl 0 rfl) ?_
  refine lv_iconst (v := 1) hx hb dX10_digits_5 (by decide +kernel) ?_
  refine lv_icmp_le (tgt := 22) hx hb dX10_digits_6 (by decide) (fun h9 => absurd h9 (by decide +kernel)) (fun _ => ?_)
  refine lv_iload_n hx hb dX10_digits_9 rfl (lv_at hl 2 rfl) ?_
  refine lv_iload_n hx hb dX10_digits_10 rfl (lv_at hl 0 rfl) ?_
  refine lv_icmp_ge (tgt := 22) hx hb dX10_digits_11 (by decide) (fun h9 => absurd h9 (by decide +kernel)) (fun _ => ?_)
  refine lv_iload_n hx hb dX10_digits_14 rfl (lv_at hl 0 rfl) ?_
  refine pcn (b := 15) rfl ?_
  refine lv_bipush (v := 10) hx hb dX10_digits_15 (by decide +kernel) ?_
  refine lv_idiv hx hb dX10_digits_17 (by decide +kernel) ?_
  refine nrm (y := 1) (by decide +kernel) ?_
  refine lv_istore_n (lv' := [(2, .int 1), (0, .ref h0), (1, .int 0)]) hx hb dX10_digits_18 rfl hl (by decide) rfl (fun ls hl => ?_)
  refine lv_goto (tgt := 4) hx hb dX10_digits_19 (by decide) ?_
  refine lv_iload_n hx hb dX10_digits_4 rfl (lv_at hl 0 rfl) ?_
  refine lv_iconst (v := 1) hx hb dX10_digits_5 (by decide +kernel) ?_
  refine lv_icmp_le (tgt := 22) hx hb dX10_digits_6 (by decide) (fun _ => ?_) (fun h9 => absurd (by decide +kernel) h9)
  refine lv_iload_n hx hb dX10_digits_22 rfl (lv_at hl 0 rfl) ?_
  refine lv_if_le (tgt := 47) hx hb dX10_digits_23 (by decide) (fun h9 => absurd h9 (by decide +kernel)) (fun _ => ?_)
  refine lv_aload_n hx hb dX10_digits_26 rfl (lv_at hl 1 rfl) ?_
  refine lv_bipush (v := 48) hx hb dX10_digits_27 (by decide +kernel) ?_
  refine lv_iload_n hx hb dX10_digits_29 rfl (lv_at hl 2 rfl) ?_
  refine lv_iload_n hx hb dX10_digits_30 rfl (lv_at hl 0 rfl) ?_
  refine lv_idiv hx hb dX10_digits_31 (by decide +kernel) ?_
  refine nrm (y := 0) (by decide +kernel) ?_
  refine pcn (b := 32) rfl ?_
  refine lv_bipush (v := 10) hx hb dX10_digits_32 (by decide +kernel) ?_
  refine lv_irem hx hb dX10_digits_34 (by decide +kernel) ?_
  refine nrm (y := 0) (by decide +kernel) ?_
  refine lv_iadd hx hb dX10_digits_35 ?_
  refine nrm (y := 48) (by decide +kernel) ?_
  refine kVv (As := [.int 48]) (rest := []) (wr := []) hx hb hml hown hts hnw hK hP hD hS hA hl.1 (c_X10_sign_15 l D cI cZ cB cJ h0) yk_X10_sign wm_866 [0] [] rfl rfl (by decide) (by decide) (by decide) 0 rfl rfl rfl rfl rfl dX10_digits_36 ⟨Nat.le_of_ble_eq_true rfl, Nat.le_of_ble_eq_true rfl⟩ ⟨Nat.le_of_ble_eq_true rfl, Nat.le_of_ble_eq_true rfl⟩ (Nat.le_of_ble_eq_true rfl) (fun w1 H locs hq9 hP hD hS => ?_)
  obtain rfl := hq9
  have hP : va_P D vwCl [(h0, .inr (10, [.int (-1), .int 1, .int (-4)]))] H := hP
  have hD : va_D A [(h0, .inr (10, [.int (-1), .int 1, .int (-4)]))] := hD
  refine W.widen (k := 0) (n := 0) (Nat.le_of_ble_eq_true rfl) (Nat.le_of_ble_eq_true rfl) ?_
  refine pcn (b := 39) rfl ?_
  refine lv_iload_n hx hb dX10_digits_39 rfl (lv_at hl 0 rfl) ?_
  refine lv_bipush (v := 10) hx hb dX10_digits_40 (by decide +kernel) ?_
  refine lv_idiv hx hb dX10_digits_42 (by decide +kernel) ?_
  refine nrm (y := 0) (by decide +kernel) ?_
  refine lv_istore_n (lv' := [(2, .int 0), (0, .ref h0), (1, .int 0)]) hx hb dX10_digits_43 rfl hl (by decide) rfl (fun ls hl => ?_)
  refine lv_goto (tgt := 22) hx hb dX10_digits_44 (by decide) ?_
  refine lv_iload_n hx hb dX10_digits_22 rfl (lv_at hl 0 rfl) ?_
  refine lv_if_le (tgt := 47) hx hb dX10_digits_23 (by decide) (fun _ => ?_) (fun h9 => absurd (by decide +kernel) h9)
  refine W.widen (k := 0) (n := 0) (Nat.le_of_ble_eq_true rfl) (Nat.le_of_ble_eq_true rfl) ?_
  exact rtV hx hb hr hlocks hS hP hD rfl dX10_digits_47

set_option maxHeartbeats 4000000 in
set_option maxRecDepth 100000 in
theorem c_X10_writeTerm_0 (l : Launch) (D : va_G) (cI cZ cB cJ : ClassId) (h0 h1 h2 h3 h4 g0 g1 g2 g3 g4 g5 g6 g7 g8 g9 g10 g11 g12 : Nat) : CtV l D (TT cI cZ cB cJ) yX10_writeTerm cX10_writeTerm 7 none 2 43 0 0 [.ref h0, .ref h1, .int 0, .int 0, .int 40] [(h0, .inr (10, [.int (-1), .int 0, .int (-4)])), (h1, .inr (1, [.ref h2, .ref g0, .ref g1, .ref g2, .ref g3, .ref g4, .ref g5, .int 4, .int 3, .int 0, .int (-1), .int 0])), (h2, .inr (7, [.ref h3, .ref g6, .ref g7, .ref h4, .ref g8, .ref g9, .ref g10, .ref g11, .ref g12, .int 1, .int 1, .int 0])), (h3, .inl (cI, 60, .inl (fun _ => 0))), (h4, .inl (cI, 60, .inl (fun _ => 0)))] (fun w1 => w1 = [(h0, .inr (10, [.int (-1), .int 1, .int (-4)])), (h1, .inr (1, [.ref h2, .ref g0, .ref g1, .ref g2, .ref g3, .ref g4, .ref g5, .int 4, .int 3, .int 0, .int (-1), .int 0])), (h2, .inr (7, [.ref h3, .ref g6, .ref g7, .ref h4, .ref g8, .ref g9, .ref g10, .ref g11, .ref g12, .int 1, .int 1, .int 0])), (h3, .inl (cI, 60, .inl (fun _ => 0))), (h4, .inl (cI, 60, .inl (fun _ => 0)))]) := by
  refine CtV.of (by decide +kernel) (Nat.le_of_ble_eq_true rfl) ?_
  intro p e s m below meth c A ls hx hb hr hml hown hts hnw hlocks hin hA hS hP hK hD hl
  have hown : s.vm.findClass RX10 = some m.cls := hown
  have hl : lv_has ls 7 [(0, .ref h0), (1, .ref h1), (2, .int 0), (3, .int 0), (4, .int 40)] := hl
  refine lv_aload_n hx hb dX10_writeTerm_0 rfl (lv_at hl 1 rfl) ?_
  refine va_getN (D := D) (ci := 1) (v := .ref h2) (C := RX1) (T := TX1) (N := 12) hx hb hts inX1 hown hK hP 1 rfl rfl 0 (by decide) (va_Nw.use rfl (hnw _ wn_277)) (fun _ h9 => h9) rfl dX10_writeTerm_1 ?_
  refine va_getN (D := D) (ci := 7) (v := .ref h3) (C := RX7) (T := TX7) (N := 12) hx hb hts inX7 hown hK hP 2 rfl rfl 0 (by decide) (va_Nw.use rfl (hnw _ wn_79)) (fun _ h9 => h9) rfl dX10_writeTerm_4 ?_
  refine lv_iload_n hx hb dX10_writeTerm_7 rfl (lv_at hl 2 rfl) ?_
  refine kSNi (As := [.ref h3, .int 0]) (rest := []) (wr := [(h0, .inr (10, [.int (-1), .int 0, .int (-4)])), (h1, .inr (1, [.ref h2, .ref g0, .ref g1, .ref g2, .ref g3, .ref g4, .ref g5, .int 4, .int 3, .int 0, .int (-1), .int 0])), (h2, .inr (7, [.ref h3, .ref g6, .ref g7, .ref h4, .ref g8, .ref g9, .ref g10, .ref g11, .ref g12, .int 1, .int 1, .int 0])), (h4, .inl (cI, 60, .inl (fun _ => 0)))]) hx hb hml hown hts hnw hK hP hD hS hA hl.1 (c_X11_at_4 l D cI cZ cB cJ h3) yk_X11_at wn_971 [3] [0, 1, 2, 4] rfl rfl (by decide) (by decide) (by decide) rfl rfl dX10_writeTerm_8 ⟨Nat.le_of_ble_eq_true rfl, Nat.le_of_ble_eq_true rfl⟩ ⟨Nat.le_of_ble_eq_true rfl, Nat.le_of_ble_eq_true rfl⟩ (Nat.le_of_ble_eq_true rfl) (fun r9 w1 H locs hq9 hP hD hS => ?_)
  obtain ⟨rfl, rfl⟩ := hq9
  have hP : va_P D vwCl [(h0, .inr (10, [.int (-1), .int 0, .int (-4)])), (h1, .inr (1, [.ref h2, .ref g0, .ref g1, .ref g2, .ref g3, .ref g4, .ref g5, .int 4, .int 3, .int 0, .int (-1), .int 0])), (h2, .inr (7, [.ref h3, .ref g6, .ref g7, .ref h4, .ref g8, .ref g9, .ref g10, .ref g11, .ref g12, .int 1, .int 1, .int 0])), (h4, .inl (cI, 60, .inl (fun _ => 0))), (h3, .inl (cI, 60, .inl (fun _ => 0)))] H := hP
  have hD : va_D A [(h0, .inr (10, [.int (-1), .int 0, .int (-4)])), (h1, .inr (1, [.ref h2, .ref g0, .ref g1, .ref g2, .ref g3, .ref g4, .ref g5, .int 4, .int 3, .int 0, .int (-1), .int 0])), (h2, .inr (7, [.ref h3, .ref g6, .ref g7, .ref h4, .ref g8, .ref g9, .ref g10, .ref g11, .ref g12, .int 1, .int 1, .int 0])), (h4, .inl (cI, 60, .inl (fun _ => 0))), (h3, .inl (cI, 60, .inl (fun _ => 0)))] := hD
  refine W.widen (k := 0) (n := 0) (Nat.le_of_ble_eq_true rfl) (Nat.le_of_ble_eq_true rfl) ?_
  refine pcn (b := 11) rfl ?_
  refine lv_istore (lv' := [(5, .int 0), (0, .ref h0), (1, .ref h1), (2, .int 0), (3, .int 0), (4, .int 40)]) hx hb dX10_writeTerm_11 hl (by decide) rfl (fun ls hl => ?_)
  refine lv_aload_n hx hb dX10_writeTerm_13 rfl (lv_at hl 2 rfl) ?_
  refine va_getN (D := D) (ci := 1) (v := .ref h2) (C := RX1) (T := TX1) (N := 12) hx hb hts inX1 hown hK hP 1 rfl rfl 0 (by decide) (va_Nw.use rfl (hnw _ wn_277)) (fun _ h9 => h9) rfl dX10_writeTerm_14 ?_
  refine va_getN (D := D) (ci := 7) (v := .ref h4) (C := RX7) (T := TX7) (N := 12) hx hb hts inX7 hown hK hP 2 rfl rfl 3 (by decide) (va_Nw.use rfl (hnw _ wn_86)) (fun _ h9 => h9) rfl dX10_writeTerm_17 ?_
  refine lv_iload_n hx hb dX10_writeTerm_20 rfl (lv_at hl 3 rfl) ?_
  refine kSNi (As := [.ref h4, .int 0]) (rest := []) (wr := [(h0, .inr (10, [.int (-1), .int 0, .int (-4)])), (h1, .inr (1, [.ref h2, .ref g0, .ref g1, .ref g2, .ref g3, .ref g4, .ref g5, .int 4, .int 3, .int 0, .int (-1), .int 0])), (h2, .inr (7, [.ref h3, .ref g6, .ref g7, .ref h4, .ref g8, .ref g9, .ref g10, .ref g11, .ref g12, .int 1, .int 1, .int 0])), (h3, .inl (cI, 60, .inl (fun _ => 0)))]) hx hb hml hown hts hnw hK hP hD hS hA hl.1 (c_X11_at_4 l D cI cZ cB cJ h4) yk_X11_at wn_971 [3] [0, 1, 2, 4] rfl rfl (by decide) (by decide) (by decide) rfl rfl dX10_writeTerm_21 ⟨Nat.le_of_ble_eq_true rfl, Nat.le_of_ble_eq_true rfl⟩ ⟨Nat.le_of_ble_eq_true rfl, Nat.le_of_ble_eq_true rfl⟩ (Nat.le_of_ble_eq_true rfl) (fun r9 w1 H locs hq9 hP hD hS => ?_)
  obtain ⟨rfl, rfl⟩ := hq9
  have hP : va_P D vwCl [(h0, .inr (10, [.int (-1), .int 0, .int (-4)])), (h1, .inr (1, [.ref h2, .ref g0, .ref g1, .ref g2, .ref g3, .ref g4, .ref g5, .int 4, .int 3, .int 0, .int (-1), .int 0])), (h2, .inr (7, [.ref h3, .ref g6, .ref g7, .ref h4, .ref g8, .ref g9, .ref g10, .ref g11, .ref g12, .int 1, .int 1, .int 0])), (h3, .inl (cI, 60, .inl (fun _ => 0))), (h4, .inl (cI, 60, .inl (fun _ => 0)))] H := hP
  have hD : va_D A [(h0, .inr (10, [.int (-1), .int 0, .int (-4)])), (h1, .inr (1, [.ref h2, .ref g0, .ref g1, .ref g2, .ref g3, .ref g4, .ref g5, .int 4, .int 3, .int 0, .int (-1), .int 0])), (h2, .inr (7, [.ref h3, .ref g6, .ref g7, .ref h4, .ref g8, .ref g9, .ref g10, .ref g11, .ref g12, .int 1, .int 1, .int 0])), (h3, .inl (cI, 60, .inl (fun _ => 0))), (h4, .inl (cI, 60, .inl (fun _ => 0)))] := hD
  refine W.widen (k := 0) (n := 0) (Nat.le_of_ble_eq_true rfl) (Nat.le_of_ble_eq_true rfl) ?_
  refine pcn (b := 24) rfl ?_
  refine lv_istore (lv' := [(6, .int 0), (5, .int 0), (0, .ref h0), (1, .ref h1), (2, .int 0), (3, .int 0), (4, .int 40)]) hx hb dX10_writeTerm_24 hl (by decide) rfl (fun ls hl => ?_)
  refine lv_iload hx hb dX10_writeTerm_26 (lv_at hl 6 rfl) ?_
  refine lv_if_gt (tgt := 32) hx hb dX10_writeTerm_28 (by decide) (fun _ => ?_) (fun h9 => absurd (by decide +kernel) h9)
  refine lv_iload hx hb dX10_writeTerm_32 (lv_at hl 1 rfl) ?_
  refine lv_if_ne (tgt := 46) hx hb dX10_writeTerm_34 (by decide) (fun h9 => absurd (by decide +kernel) h9) (fun _ => ?_)
  refine lv_aload_n hx hb dX10_writeTerm_37 rfl (lv_at hl 2 rfl) ?_
  refine lv_iload hx hb dX10_writeTerm_38 (lv_at hl 0 rfl) ?_
  refine kVv (As := [.int 0]) (rest := []) (wr := [(h1, .inr (1, [.ref h2, .ref g0, .ref g1, .ref g2, .ref g3, .ref g4, .ref g5, .int 4, .int 3, .int 0, .int (-1), .int 0])), (h2, .inr (7, [.ref h3, .ref g6, .ref g7, .ref h4, .ref g8, .ref g9, .ref g10, .ref g11, .ref g12, .int 1, .int 1, .int 0])), (h3, .inl (cI, 60, .inl (fun _ => 0))), (h4, .inl (cI, 60, .inl (fun _ => 0)))]) hx hb hml hown hts hnw hK hP hD hS hA hl.1 (c_X10_digits_0 l D cI cZ cB cJ h0) yk_X10_digits wm_955 [0] [1, 2, 3, 4] rfl rfl (by decide) (by decide) (by decide) 0 rfl rfl rfl rfl rfl dX10_writeTerm_40 ⟨Nat.le_of_ble_eq_true rfl, Nat.le_of_ble_eq_true rfl⟩ ⟨Nat.le_of_ble_eq_true rfl, Nat.le_of_ble_eq_true rfl⟩ (Nat.le_of_ble_eq_true rfl) (fun w1 H locs hq9 hP hD hS => ?_)
  obtain rfl := hq9
  have hP : va_P D vwCl [(h1, .inr (1, [.ref h2, .ref g0, .ref g1, .ref g2, .ref g3, .ref g4, .ref g5, .int 4, .int 3, .int 0, .int (-1), .int 0])), (h2, .inr (7, [.ref h3, .ref g6, .ref g7, .ref h4, .ref g8, .ref g9, .ref g10, .ref g11, .ref g12, .int 1, .int 1, .int 0])), (h3, .inl (cI, 60, .inl (fun _ => 0))), (h4, .inl (cI, 60, .inl (fun _ => 0))), (h0, .inr (10, [.int (-1), .int 1, .int (-4)]))] H := hP
  have hD : va_D A [(h1, .inr (1, [.ref h2, .ref g0, .ref g1, .ref g2, .ref g3, .ref g4, .ref g5, .int 4, .int 3, .int 0, .int (-1), .int 0])), (h2, .inr (7, [.ref h3, .ref g6, .ref g7, .ref h4, .ref g8, .ref g9, .ref g10, .ref g11, .ref g12, .int 1, .int 1, .int 0])), (h3, .inl (cI, 60, .inl (fun _ => 0))), (h4, .inl (cI, 60, .inl (fun _ => 0))), (h0, .inr (10, [.int (-1), .int 1, .int (-4)]))] := hD
  refine W.widen (k := 0) (n := 0) (Nat.le_of_ble_eq_true rfl) (Nat.le_of_ble_eq_true rfl) ?_
  refine pcn (b := 43) rfl ?_
  refine lv_goto (tgt := 155) hx hb dX10_writeTerm_43 (by decide) ?_
  refine W.widen (k := 0) (n := 0) (Nat.le_of_ble_eq_true rfl) (Nat.le_of_ble_eq_true rfl) ?_
  have hP := hP.sub (ws' := [(h0, .inr (10, [.int (-1), .int 1, .int (-4)])), (h1, .inr (1, [.ref h2, .ref g0, .ref g1, .ref g2, .ref g3, .ref g4, .ref g5, .int 4, .int 3, .int 0, .int (-1), .int 0])), (h2, .inr (7, [.ref h3, .ref g6, .ref g7, .ref h4, .ref g8, .ref g9, .ref g10, .ref g11, .ref g12, .int 1, .int 1, .int 0])), (h3, .inl (cI, 60, .inl (fun _ => 0))), (h4, .inl (cI, 60, .inl (fun _ => 0)))]) [4, 0, 1, 2, 3] rfl
  have hD := hD.sub (ws' := [(h0, .inr (10, [.int (-1), .int 1, .int (-4)])), (h1, .inr (1, [.ref h2, .ref g0, .ref g1, .ref g2, .ref g3, .ref g4, .ref g5, .int 4, .int 3, .int 0, .int (-1), .int 0])), (h2, .inr (7, [.ref h3, .ref g6, .ref g7, .ref h4, .ref g8, .ref g9, .ref g10, .ref g11, .ref g12, .int 1, .int 1, .int 0])), (h3, .inl (cI, 60, .inl (fun _ => 0))), (h4, .inl (cI, 60, .inl (fun _ => 0)))]) [4, 0, 1, 2, 3] (by decide) rfl
  exact rtV hx hb hr hlocks hS hP hD rfl dX10_writeTerm_155

set_option maxHeartbeats 4000000 in
set_option maxRecDepth 100000 in
theorem c_X11_writeText_29 (l : Launch) (D : va_G) (cI cZ cB cJ : ClassId) (h0 h1 h2 h3 h4 h5 g0 g1 g2 g3 g4 g5 g6 g7 g8 g9 g10 g11 g12 g13 g14 g15 g16 g17 g18 g19 g20 : Nat) : CtI l D (TT cI cZ cB cJ) yX11_writeText cX11_writeText 5 (some .boolean) 3 69 0 0 [.ref h0, .int 7, .int 0] [(h0, .inr (11, [.ref g0, .int 0, .ref g1, .ref g2, .ref h1, .ref g3, .ref g4, .ref h3, .ref g5, .ref g6, .ref g7])), (h1, .inr (1, [.ref h2, .ref g8, .ref g9, .ref g10, .ref g11, .ref g12, .ref g13, .int 4, .int 3, .int 0, .int (-1), .int 0])), (h2, .inr (7, [.ref h4, .ref g14, .ref g15, .ref h5, .ref g16, .ref g17, .ref g18, .ref g19, .ref g20, .int 1, .int 1, .int 0])), (h3, .inr (10, [.int (-1), .int 0, .int (-4)])), (h4, .inl (cI, 60, .inl (fun _ => 0))), (h5, .inl (cI, 60, .inl (fun _ => 0)))] (fun r w1 => r = 1 ∧ w1 = [(h0, .inr (11, [.ref g0, .int 0, .ref g1, .ref g2, .ref h1, .ref g3, .ref g4, .ref h3, .ref g5, .ref g6, .ref g7])), (h1, .inr (1, [.ref h2, .ref g8, .ref g9, .ref g10, .ref g11, .ref g12, .ref g13, .int 4, .int 3, .int 0, .int (-1), .int 0])), (h2, .inr (7, [.ref h4, .ref g14, .ref g15, .ref h5, .ref g16, .ref g17, .ref g18, .ref g19, .ref g20, .int 1, .int 1, .int 0])), (h3, .inr (10, [.int (-1), .int 1, .int (-4)])), (h4, .inl (cI, 60, .inl (fun _ => 0))), (h5, .inl (cI, 60, .inl (fun _ => 0)))]) := by
  refine CtI.of (by decide +kernel) (Nat.le_of_ble_eq_true rfl) ?_
  intro p e s m below meth c A ls hx hb hr hml hown hts hnw hlocks hin hA hS hP hK hD hl
  have hown : s.vm.findClass RX11 = some m.cls := hown
  have hl : lv_has ls 5 [(0, .ref h0), (1, .int 7), (2, .int 0)] := hl
  refine lv_iload_n hx hb dX11_writeText_0 rfl (lv_at hl 2 rfl) ?_
  refine lv_if_lt (tgt := 13) hx hb dX11_writeText_1 (by decide) (fun h9 => absurd h9 (by decide +kernel)) (fun _ => ?_)
  refine lv_iload_n hx hb dX11_writeText_4 rfl (lv_at hl 2 rfl) ?_
  refine lv_aload_n hx hb dX11_writeText_5 rfl (lv_at hl 0 rfl) ?_
  refine lv_iload_n hx hb dX11_writeText_6 rfl (lv_at hl 1 rfl) ?_
  refine kVi (As := [.int 7]) (rest := [.int 0]) (wr := [(h3, .inr (10, [.int (-1), .int 0, .int (-4)])), (h4, .inl (cI, 60, .inl (fun _ => 0))), (h5, .inl (cI, 60, .inl (fun _ => 0)))]) hx hb hml hown hts hnw hK hP hD hS hA hl.1 (c_X11_textsOf_8 l D cI cZ cB cJ h0 h1 h2 g0 g1 g2 g3 g4 h3 g5 g6 g7 g8 g9 g10 g11 g12 g13 h4 g14 g15 h5 g16 g17 g18 g19 g20) yk_X11_textsOf wm_857 [0, 1, 2] [3, 4, 5] rfl rfl (by decide) (by decide) (by decide) 0 rfl rfl rfl rfl rfl dX11_writeText_7 ⟨Nat.le_of_ble_eq_true rfl, Nat.le_of_ble_eq_true rfl⟩ ⟨Nat.le_of_ble_eq_true rfl, Nat.le_of_ble_eq_true rfl⟩ (Nat.le_of_ble_eq_true rfl) (fun r9 w1 H locs hq9 hP hD hS => ?_)
  obtain ⟨rfl, rfl⟩ := hq9
  have hP : va_P D vwCl [(h3, .inr (10, [.int (-1), .int 0, .int (-4)])), (h4, .inl (cI, 60, .inl (fun _ => 0))), (h5, .inl (cI, 60, .inl (fun _ => 0))), (h0, .inr (11, [.ref g0, .int 0, .ref g1, .ref g2, .ref h1, .ref g3, .ref g4, .ref h3, .ref g5, .ref g6, .ref g7])), (h1, .inr (1, [.ref h2, .ref g8, .ref g9, .ref g10, .ref g11, .ref g12, .ref g13, .int 4, .int 3, .int 0, .int (-1), .int 0])), (h2, .inr (7, [.ref h4, .ref g14, .ref g15, .ref h5, .ref g16, .ref g17, .ref g18, .ref g19, .ref g20, .int 1, .int 1, .int 0]))] H := hP
  have hD : va_D A [(h3, .inr (10, [.int (-1), .int 0, .int (-4)])), (h4, .inl (cI, 60, .inl (fun _ => 0))), (h5, .inl (cI, 60, .inl (fun _ => 0))), (h0, .inr (11, [.ref g0, .int 0, .ref g1, .ref g2, .ref h1, .ref g3, .ref g4, .ref h3, .ref g5, .ref g6, .ref g7])), (h1, .inr (1, [.ref h2, .ref g8, .ref g9, .ref g10, .ref g11, .ref g12, .ref g13, .int 4, .int 3, .int 0, .int (-1), .int 0])), (h2, .inr (7, [.ref h4, .ref g14, .ref g15, .ref h5, .ref g16, .ref g17, .ref g18, .ref g19, .ref g20, .int 1, .int 1, .int 0]))] := hD
  refine W.widen (k := 0) (n := 0) (Nat.le_of_ble_eq_true rfl) (Nat.le_of_ble_eq_true rfl) ?_
  refine pcn (b := 10) rfl ?_
  refine lv_icmp_lt (tgt := 15) hx hb dX11_writeText_10 (by decide) (fun _ => ?_) (fun h9 => absurd (by decide +kernel) h9)
  refine lv_aload_n hx hb dX11_writeText_15 rfl (lv_at hl 0 rfl) ?_
  refine va_get (D := D) (ci := 11) (v := .ref h1) (C := RX11) (T := TX11) (N := 11) hx hb hts inX11 hown hK hP 3 rfl rfl 4 (by decide) (hts _ wm_586) (fun _ h9 => h9) rfl dX11_writeText_16 ?_
  refine va_getN (D := D) (ci := 1) (v := .ref g8) (C := RX1) (T := TX1) (N := 12) hx hb hts inX1 hown hK hP 4 rfl rfl 1 (by decide) (va_Nw.use rfl (hnw _ wn_280)) (fun _ h9 => h9) rfl dX11_writeText_19 ?_
  refine lv_astore_n (lv' := [(3, .ref g8), (0, .ref h0), (1, .int 7), (2, .int 0)]) hx hb dX11_writeText_22 rfl hl (by decide) rfl (fun ls hl => ?_)
  refine lv_aload_n hx hb dX11_writeText_23 rfl (lv_at hl 1 rfl) ?_
  refine va_get (D := D) (ci := 11) (v := .ref h1) (C := RX11) (T := TX11) (N := 11) hx hb hts inX11 hown hK hP 3 rfl rfl 4 (by decide) (hts _ wm_586) (fun _ h9 => h9) rfl dX11_writeText_24 ?_
  refine va_getN (D := D) (ci := 1) (v := .ref g9) (C := RX1) (T := TX1) (N := 12) hx hb hts inX1 hown hK hP 4 rfl rfl 2 (by decide) (va_Nw.use rfl (hnw _ wn_284)) (fun _ h9 => h9) rfl dX11_writeText_27 ?_
  refine pcn (b := 30) rfl ?_
  refine lv_astore (lv' := [(4, .ref g9), (3, .ref g8), (0, .ref h0), (1, .int 7), (2, .int 0)]) hx hb dX11_writeText_30 hl (by decide) rfl (fun ls hl => ?_)
  refine lv_iload_n hx hb dX11_writeText_32 rfl (lv_at hl 3 rfl) ?_
  refine lv_tableIn (off := 234) (tgt := 267) hx hb dX11_writeText_33 (by decide +kernel) (by decide +kernel) (by decide +kernel) (by decide) ?_
  refine lv_aload_n hx hb dX11_writeText_267 rfl (lv_at hl 2 rfl) ?_
  refine va_get (D := D) (ci := 11) (v := .ref h3) (C := RX11) (T := TX11) (N := 11) hx hb hts inX11 hown hK hP 3 rfl rfl 7 (by decide) (hts _ wm_589) (fun _ h9 => h9) rfl dX11_writeText_268 ?_
  refine lv_aload_n hx hb dX11_writeText_271 rfl (lv_at hl 2 rfl) ?_
  refine va_get (D := D) (ci := 11) (v := .ref h1) (C := RX11) (T := TX11) (N := 11) hx hb hts inX11 hown hK hP 3 rfl rfl 4 (by decide) (hts _ wm_586) (fun _ h9 => h9) rfl dX11_writeText_272 ?_
  refine lv_iload_n hx hb dX11_writeText_275 rfl (lv_at hl 4 rfl) ?_
  refine lv_iconst (v := 0) hx hb dX11_writeText_276 (by decide +kernel) ?_
  refine lv_bipush (v := 40) hx hb dX11_writeText_277 (by decide +kernel) ?_
  refine pcn (b := 279) rfl ?_
  refine kVNv (As := [.ref h1, .int 0, .int 0, .int 40]) (rest := []) (wr := [(h0, .inr (11, [.ref g0, .int 0, .ref g1, .ref g2, .ref h1, .ref g3, .ref g4, .ref h3, .ref g5, .ref g6, .ref g7]))]) hx hb hml hown hts hnw hK hP hD hS hA hl.1 (c_X10_writeTerm_0 l D cI cZ cB cJ h3 h1 h2 h4 h5 g8 g9 g10 g11 g12 g13 g14 g15 g16 g17 g18 g19 g20) yk_X10_writeTerm wn_967 [0, 4, 5, 1, 2] [3] rfl rfl (by decide) (by decide) (by decide) 0 rfl rfl rfl rfl rfl dX11_writeText_279 ⟨Nat.le_of_ble_eq_true rfl, Nat.le_of_ble_eq_true rfl⟩ ⟨Nat.le_of_ble_eq_true rfl, Nat.le_of_ble_eq_true rfl⟩ (Nat.le_of_ble_eq_true rfl) (fun w1 H locs hq9 hP hD hS => ?_)
  obtain rfl := hq9
  have hP : va_P D vwCl [(h0, .inr (11, [.ref g0, .int 0, .ref g1, .ref g2, .ref h1, .ref g3, .ref g4, .ref h3, .ref g5, .ref g6, .ref g7])), (h3, .inr (10, [.int (-1), .int 1, .int (-4)])), (h1, .inr (1, [.ref h2, .ref g8, .ref g9, .ref g10, .ref g11, .ref g12, .ref g13, .int 4, .int 3, .int 0, .int (-1), .int 0])), (h2, .inr (7, [.ref h4, .ref g14, .ref g15, .ref h5, .ref g16, .ref g17, .ref g18, .ref g19, .ref g20, .int 1, .int 1, .int 0])), (h4, .inl (cI, 60, .inl (fun _ => 0))), (h5, .inl (cI, 60, .inl (fun _ => 0)))] H := hP
  have hD : va_D A [(h0, .inr (11, [.ref g0, .int 0, .ref g1, .ref g2, .ref h1, .ref g3, .ref g4, .ref h3, .ref g5, .ref g6, .ref g7])), (h3, .inr (10, [.int (-1), .int 1, .int (-4)])), (h1, .inr (1, [.ref h2, .ref g8, .ref g9, .ref g10, .ref g11, .ref g12, .ref g13, .int 4, .int 3, .int 0, .int (-1), .int 0])), (h2, .inr (7, [.ref h4, .ref g14, .ref g15, .ref h5, .ref g16, .ref g17, .ref g18, .ref g19, .ref g20, .int 1, .int 1, .int 0])), (h4, .inl (cI, 60, .inl (fun _ => 0))), (h5, .inl (cI, 60, .inl (fun _ => 0)))] := hD
  refine W.widen (k := 0) (n := 0) (Nat.le_of_ble_eq_true rfl) (Nat.le_of_ble_eq_true rfl) ?_
  refine pcn (b := 282) rfl ?_
  refine lv_goto (tgt := 300) hx hb dX11_writeText_282 (by decide) ?_
  refine lv_iconst (v := 1) hx hb dX11_writeText_300 (by decide +kernel) ?_
  refine W.widen (k := 0) (n := 0) (Nat.le_of_ble_eq_true rfl) (Nat.le_of_ble_eq_true rfl) ?_
  have hP := hP.sub (ws' := [(h0, .inr (11, [.ref g0, .int 0, .ref g1, .ref g2, .ref h1, .ref g3, .ref g4, .ref h3, .ref g5, .ref g6, .ref g7])), (h1, .inr (1, [.ref h2, .ref g8, .ref g9, .ref g10, .ref g11, .ref g12, .ref g13, .int 4, .int 3, .int 0, .int (-1), .int 0])), (h2, .inr (7, [.ref h4, .ref g14, .ref g15, .ref h5, .ref g16, .ref g17, .ref g18, .ref g19, .ref g20, .int 1, .int 1, .int 0])), (h3, .inr (10, [.int (-1), .int 1, .int (-4)])), (h4, .inl (cI, 60, .inl (fun _ => 0))), (h5, .inl (cI, 60, .inl (fun _ => 0)))]) [0, 2, 3, 1, 4, 5] rfl
  have hD := hD.sub (ws' := [(h0, .inr (11, [.ref g0, .int 0, .ref g1, .ref g2, .ref h1, .ref g3, .ref g4, .ref h3, .ref g5, .ref g6, .ref g7])), (h1, .inr (1, [.ref h2, .ref g8, .ref g9, .ref g10, .ref g11, .ref g12, .ref g13, .int 4, .int 3, .int 0, .int (-1), .int 0])), (h2, .inr (7, [.ref h4, .ref g14, .ref g15, .ref h5, .ref g16, .ref g17, .ref g18, .ref g19, .ref g20, .int 1, .int 1, .int 0])), (h3, .inr (10, [.int (-1), .int 1, .int (-4)])), (h4, .inl (cI, 60, .inl (fun _ => 0))), (h5, .inl (cI, 60, .inl (fun _ => 0)))]) [0, 2, 3, 1, 4, 5] (by decide) rfl
  exact rtZ hx hb hr rfl hlocks hS hP hD ⟨rfl, rfl⟩ dX11_writeText_301
