theorem arrV_cg {cA : ClassId} {n : Nat} {f g : Nat → Value} (h : ∀ j, j < n → f j = g j) : arrV cA n f = arrV cA n g := by
  have e : (fun j : Fin n => f j.val) = (fun j : Fin n => g j.val) := funext fun j => h j.1 j.2
  simp only [arrV, e]
theorem P_cg {D : va_G} {ws : va_W} {H : Heap} {k a n : Nat} {cA : ClassId} {f g : Nat → Int32} (hP : va_P D vwCl ws H) (hq : ws[k]? = some (a, .inl (cA, n, .inl f))) (h : ∀ j, j < n → f j = g j) : va_P D vwCl (ws.set k (a, .inl (cA, n, .inl g))) H := by
  intro j q hj
  by_cases e : k = j
  · subst e
    rw [List.getElem?_set_self (List.getElem?_eq_some_iff.mp hq).1] at hj
    cases hj
    have h1 : H[a]? = some (vp_cell cA (n, .inl f)) := hP k _ hq
    show H[a]? = some (vp_cell cA (n, .inl g))
    rw [h1, vp_cell_i, vp_cell_i]
    congr 1
    exact arrV_cg (fun j hj => by rw [h j hj])
  · rw [List.getElem?_set_ne e] at hj
    exact hP j q hj
/-- a row is filled up to i -/
def fl_at (v : Int32) (f : Nat → Int32) (i : Nat) : Prop := ∀ j, j < i → f j = v
theorem fl_s {v : Int32} {f : Nat → Int32} {i : Nat} (h : fl_at v f i) : fl_at v (upd f i v) (i + 1) := by
  intro j hj
  by_cases e : j = i
  · simp [upd, e]
  · simp only [upd, if_neg e]
    exact h j (by omega)
section
variable {p : Program} {l : Launch} {e : Env} {R : Room} {s : State} {m : MethodId} {args : Array Value} {below : List Frame} {meth : Method} {c : Code} {cells slots : Nat} {Q : State → Prop} {D : va_G} {cI cZ cB cJ : ClassId} {A : Nat → Prop} {H0 : Heap}
set_option maxHeartbeats 4000000 in
set_option maxRecDepth 100000 in
theorem fill_loop (hx : p.tables.exec = Jvm.exec) (hb : c.code = cJ7_fill_53178) (hK : va_K D vwCl (TT cI cZ cB cJ) s) {h0 n : Nat} {v : Int32} (hn : n < 2 ^ 31)
    (kk : ∀ (H : Heap) (locs : List Loc) (ls : Array Slot), va_P D vwCl [(h0, .inl (cI, n, .inl (fun _ => v)))] H → va_D A [(h0, .inl (cI, n, .inl (fun _ => v)))] → va_S A H0 H locs → W p l e R s m args below meth c H locs cells slots Q (F0 m 20 ls [])) :
    ∀ (k i : Nat) (x : Int32) (f : Nat → Int32) (H : Heap) (locs : List Loc) (ls : Array Slot), i + k = n → x = nI i → fl_at v f i → va_P D vwCl [(h0, .inl (cI, n, .inl f))] H → va_D A [(h0, .inl (cI, n, .inl f))] → va_S A H0 H locs → lv_has ls 4 [(2, .int x), (3, .int (nI n)), (0, .ref h0), (1, .int v)] → W p l e R s m args below meth c H locs cells slots Q (F0 m 5 ls []) := by
  intro k
  induction k with
  | zero =>
    intro i x f H locs ls hik hxi hf hP hD hS hl
    refine lv_iload_n hx hb dJ7_fill_53178_5 rfl (lv_at hl 0 rfl) ?_
    refine lv_iload_n hx hb dJ7_fill_53178_6 rfl (lv_at hl 1 rfl) ?_
    refine lv_icmp_ge (tgt := 20) hx hb dJ7_fill_53178_7 (by decide) (fun _ => ?_) (fun h9 => absurd (by rw [hxi]; exact nI_le (by omega) (by omega)) h9)
    have hP := P_cg (k := 0) (g := fun _ => v) hP rfl (fun j hj => hf j (by omega))
    have hD := hD.set (p := 0) (e := .inl (cI, n, .inl (fun _ => v))) rfl
    exact kk H locs ls hP hD hS
  | succ k ih =>
    intro i x f H locs ls hik hxi hf hP hD hS hl
    refine lv_iload_n hx hb dJ7_fill_53178_5 rfl (lv_at hl 0 rfl) ?_
    refine lv_iload_n hx hb dJ7_fill_53178_6 rfl (lv_at hl 1 rfl) ?_
    refine lv_icmp_ge (tgt := 20) hx hb dJ7_fill_53178_7 (by decide) (fun h9 => absurd h9 (by rw [hxi]; exact nI_ge (by omega) (by omega))) (fun _ => ?_)
    refine lv_aload_n hx hb dJ7_fill_53178_10 rfl (lv_at hl 2 rfl) ?_
    refine lv_iload_n hx hb dJ7_fill_53178_11 rfl (lv_at hl 0 rfl) ?_
    refine lv_iload_n hx hb dJ7_fill_53178_12 rfl (lv_at hl 3 rfl) ?_
    refine as_i (k := i) hx hb hK hP hD hS 0 0 rfl rfl (by rw [hxi]; exact vp_in_nI (by omega) (by omega)) (by rw [hxi]; exact nI_clamp (by omega)) dJ7_fill_53178_13 (fun H locs hP hD hS => ?_)
    refine lv_iinc (v := nI (i + 1)) (lv' := [(2, .int (nI (i + 1))), (3, .int (nI n)), (0, .ref h0), (1, .int v)]) hx hb dJ7_fill_53178_14 hl (k := 0) rfl (by rw [hxi]; exact nI_1 i) (by decide) rfl (fun ls hl => ?_)
    refine lv_goto (tgt := 5) hx hb dJ7_fill_53178_17 (by decide) ?_
    exact ih (i + 1) _ (upd f i v) H locs ls (by omega) rfl (fl_s hf) hP hD hS hl
end
set_option maxHeartbeats 4000000 in
set_option maxRecDepth 100000 in
theorem c_fill (l : Launch) (D : va_G) (cI cZ cB cJ : ClassId) (h0 n : Nat) (f : Nat → Int32) (v : Int32) (hn : n < 2 ^ 31) : CtV l D (TT cI cZ cB cJ) yJ7_fill_53178 cJ7_fill_53178 4 none 0 0 0 0 [.ref h0, .int v] [(h0, .inl (cI, n, .inl f))] (fun w1 => w1 = [(h0, .inl (cI, n, .inl (fun _ => v)))]) := by
  refine CtV.of (by decide +kernel) (Nat.le_of_ble_eq_true rfl) ?_
  intro p e s m below meth c A ls hx hb hr hml hown hts hnw hlocks hin hA hS hP hK hD hl
  have hl : lv_has ls 4 [(0, .ref h0), (1, .int v)] := hl
  refine lv_iconst (v := 0) hx hb dJ7_fill_53178_0 (by decide +kernel) ?_
  refine lv_istore_n (lv' := [(2, .int 0), (0, .ref h0), (1, .int v)]) hx hb dJ7_fill_53178_1 rfl hl (by decide) rfl (fun ls hl => ?_)
  refine lv_aload_n hx hb dJ7_fill_53178_2 rfl (lv_at hl 1 rfl) ?_
  refine va_alen (v := nI n) hx hb hK hP 0 0 rfl rfl rfl dJ7_fill_53178_3 ?_
  refine lv_istore_n (lv' := [(3, .int (nI n)), (2, .int 0), (0, .ref h0), (1, .int v)]) hx hb dJ7_fill_53178_4 rfl hl (by decide) rfl (fun ls hl => ?_)
  refine pcn (b := 5) rfl ?_
  refine fill_loop hx hb hK hn (fun H locs ls hP hD hS => ?_) n 0 0 f s.heap [] ls (by omega) nI_0.symm (fun j h => absurd h (Nat.not_lt_zero j)) hP hD hS (lv_sub hl [1, 0, 2, 3] rfl)
  exact rtV hx hb hr hlocks hS hP hD rfl dJ7_fill_53178_20
section
variable {p : Program} {l : Launch} {e : Env} {R : Room} {s : State} {m : MethodId} {args : Array Value} {below : List Frame} {meth : Method} {c : Code} {cells slots : Nat} {Q : State → Prop} {D : va_G} {cI cZ cB cJ : ClassId} {A : Nat → Prop} {H0 : Heap}
theorem ws_at {ws : va_W} {q : Nat} {x y : Nat × va_E} (h : ws[q]? = some x) : (ws.set q y)[q]? = some y := List.getElem?_set_self (List.getElem?_eq_some_iff.mp h).1
theorem ws_ne {ws : va_W} {q q1 : Nat} {x y : Nat × va_E} (h : ws[q]? = some x) (hn : q1 ≠ q) : (ws.set q1 y)[q]? = some x := by rw [List.getElem?_set_ne hn]; exact h
set_option maxHeartbeats 4000000 in
set_option maxRecDepth 100000 in
theorem lp_head0 (hx : p.tables.exec = Jvm.exec) (hb : c.code = cX12_init) (hts : ∀ w ∈ gw, w.before args s = true) (hown : s.vm.findClass RX12 = some m.cls) (hK : va_K D vwCl (TT cI cZ cB cJ) s) {h ah q0 q1 : Nat} {fs : List Value} {ws : va_W} {z : Nat × va_E} (he : ws[q0]? = some (h, .inr (12, fs))) (hv : fs[18]? = some (.ref ah)) (hz : ws[q1]? = some z) (hne : q1 ≠ q0)
    (kk : ∀ (H : Heap) (locs : List Loc) (ls : Array Slot), va_P D vwCl (ws.set q1 (ah, .inl (cI, 2048, .inl (fun _ => (-1))))) H → va_D A (ws.set q1 (ah, .inl (cI, 2048, .inl (fun _ => (-1))))) → va_S A H0 H locs → lv_has ls 2 [(1, .int 2048), (0, .ref h)] → W p l e R s m args below meth c H locs cells slots Q (F0 m 674 ls [])) :
    ∀ (k i : Nat) (x : Int32) (f : Nat → Int32) (H : Heap) (locs : List Loc) (ls : Array Slot), i + k = 2048 → x = nI i → fl_at (-1) f i → va_P D vwCl (ws.set q1 (ah, .inl (cI, 2048, .inl f))) H → va_D A (ws.set q1 (ah, .inl (cI, 2048, .inl f))) → va_S A H0 H locs → lv_has ls 2 [(1, .int x), (0, .ref h)] → W p l e R s m args below meth c H locs cells slots Q (F0 m 654 ls []) := by
  intro k
  induction k with
  | zero =>
    intro i x f H locs ls hik hxi hf hP hD hS hl
    have hi : i = 2048 := by omega
    subst hi
    refine lv_iload_n hx hb dX12_init_654 rfl (lv_at hl 0 rfl) ?_
    refine lv_sipush (v := 2048) hx hb dX12_init_655 (by decide +kernel) ?_
    refine lv_icmp_ge (tgt := 674) hx hb dX12_init_658 (by decide) (fun _ => ?_) (fun h9 => absurd (by rw [hxi]; decide +kernel) h9)
    have hP := P_cg (g := fun _ => (-1)) hP (ws_at hz) (fun j hj => hf j hj)
    have hD := hD.set (e := .inl (cI, 2048, .inl (fun _ => (-1)))) (ws_at hz)
    rw [List.set_set] at hP hD
    rw [hxi] at hl
    exact kk H locs ls hP hD hS hl
  | succ k ih =>
    intro i x f H locs ls hik hxi hf hP hD hS hl
    refine lv_iload_n hx hb dX12_init_654 rfl (lv_at hl 0 rfl) ?_
    refine lv_sipush (v := 2048) hx hb dX12_init_655 (by decide +kernel) ?_
    refine lv_icmp_ge (tgt := 674) hx hb dX12_init_658 (by decide) (fun h9 => absurd h9 (by rw [hxi]; exact nI_ge (b := 2048) (by omega) (by omega))) (fun _ => ?_)
    refine lv_aload_n hx hb dX12_init_661 rfl (lv_at hl 1 rfl) ?_
    refine va_get (D := D) (ci := 12) (v := .ref ah) (C := RX12) (T := TX12) (N := 118) hx hb hts inX12 hown hK hP q0 (ws_ne he hne) rfl 18 (by decide) (hts _ wm_1385) (fun _ h9 => h9) hv dX12_init_662 ?_
    refine lv_iload_n hx hb dX12_init_665 rfl (lv_at hl 0 rfl) ?_
    refine lv_iconst (v := (-1)) hx hb dX12_init_666 (by decide +kernel) ?_
    refine as_i (k := i) hx hb hK hP hD hS q1 0 (ws_at hz) rfl (by rw [hxi]; exact vp_in_nI (by omega) (by omega)) (by rw [hxi]; exact nI_clamp (by omega)) dX12_init_667 (fun H locs hP hD hS => ?_)
    rw [List.set_set] at hP hD
    refine lv_iinc (v := nI (i + 1)) (lv' := [(1, .int (nI (i + 1))), (0, .ref h)]) hx hb dX12_init_668 hl (k := 0) rfl (by rw [hxi]; exact nI_1 i) (by decide) rfl (fun ls hl => ?_)
    refine lv_goto (tgt := 654) hx hb dX12_init_671 (by decide) ?_
    exact ih (i + 1) _ (upd f i (-1)) H locs ls (by omega) rfl (fl_s hf) hP hD hS hl
theorem lp_head {ls : Array Slot} {H : Heap} {locs : List Loc} {ws : va_W} {h ah : Nat} {fs : List Value} {f : Nat → Int32} (hx : p.tables.exec = Jvm.exec) (hb : c.code = cX12_init) (hts : ∀ w ∈ gw, w.before args s = true) (hown : s.vm.findClass RX12 = some m.cls) (hK : va_K D vwCl (TT cI cZ cB cJ) s) (hP : va_P D vwCl ws H) (hD : va_D A ws) (hS : va_S A H0 H locs) (hl : lv_has ls 2 [(1, .int 0), (0, .ref h)]) (q0 q1 : Nat) (he : ws[q0]? = some (h, .inr (12, fs))) (hv : fs[18]? = some (.ref ah)) (hz : ws[q1]? = some (ah, .inl (cI, 2048, .inl f))) (hne : q1 ≠ q0)
    (kk : ∀ (H : Heap) (locs : List Loc) (ls : Array Slot), va_P D vwCl (ws.set q1 (ah, .inl (cI, 2048, .inl (fun _ => (-1))))) H → va_D A (ws.set q1 (ah, .inl (cI, 2048, .inl (fun _ => (-1))))) → va_S A H0 H locs → lv_has ls 2 [(1, .int 2048), (0, .ref h)] → W p l e R s m args below meth c H locs cells slots Q (F0 m 674 ls [])) : W p l e R s m args below meth c H locs cells slots Q (F0 m 654 ls []) :=
  lp_head0 hx hb hts hown hK he hv hz hne kk 2048 0 0 f H locs ls (by omega) nI_0.symm (fun j h => absurd h (Nat.not_lt_zero j)) (by rw [set_same hz]; exact hP) (by rw [set_same hz]; exact hD) hS hl
set_option maxHeartbeats 4000000 in
set_option maxRecDepth 100000 in
theorem lp_chk0 {nL : Nat} (hnL : 1 < nL) (hx : p.tables.exec = Jvm.exec) (hb : c.code = cX12_checks) (hts : ∀ w ∈ gw, w.before args s = true) (hown : s.vm.findClass RX12 = some m.cls) (hK : va_K D vwCl (TT cI cZ cB cJ) s) {h ah bh q0 q1 q2 : Nat} {fs : List Value} {ws : va_W} {z z2 : Nat × va_E} (he : ws[q0]? = some (h, .inr (12, fs))) (hv : fs[58]? = some (.ref ah)) (hv2 : fs[64]? = some (.ref bh)) (hz : ws[q1]? = some z) (hz2 : ws[q2]? = some z2) (hne : q1 ≠ q0) (hne2 : q2 ≠ q0) (h12 : q1 ≠ q2)
    (kk : ∀ (H : Heap) (locs : List Loc) (ls : Array Slot), va_P D vwCl ((ws.set q1 (ah, .inl (cI, 60, .inl (fun _ => (-1))))).set q2 (bh, .inl (cI, 60, .inl (fun _ => 0)))) H → va_D A ((ws.set q1 (ah, .inl (cI, 60, .inl (fun _ => (-1))))).set q2 (bh, .inl (cI, 60, .inl (fun _ => 0)))) → va_S A H0 H locs → lv_has ls nL [(1, .int 60), (0, .ref h)] → W p l e R s m args below meth c H locs cells slots Q (F0 m 42 ls [])) :
    ∀ (k i : Nat) (x : Int32) (f g : Nat → Int32) (H : Heap) (locs : List Loc) (ls : Array Slot), i + k = 60 → x = nI i → fl_at (-1) f i → fl_at 0 g i → va_P D vwCl ((ws.set q1 (ah, .inl (cI, 60, .inl f))).set q2 (bh, .inl (cI, 60, .inl g))) H → va_D A ((ws.set q1 (ah, .inl (cI, 60, .inl f))).set q2 (bh, .inl (cI, 60, .inl g))) → va_S A H0 H locs → lv_has ls nL [(1, .int x), (0, .ref h)] → W p l e R s m args below meth c H locs cells slots Q (F0 m 16 ls []) := by
  intro k
  induction k with
  | zero =>
    intro i x f g H locs ls hik hxi hf hg hP hD hS hl
    have hi : i = 60 := by omega
    subst hi
    refine lv_iload_n hx hb dX12_checks_16 rfl (lv_at hl 0 rfl) ?_
    refine lv_bipush (v := 60) hx hb dX12_checks_17 (by decide +kernel) ?_
    refine lv_icmp_ge (tgt := 42) hx hb dX12_checks_19 (by decide) (fun _ => ?_) (fun h9 => absurd (by rw [hxi]; decide +kernel) h9)
    have w2 : ∀ (u v : Nat × va_E), ((ws.set q1 u).set q2 v)[q2]? = some v := fun u v => ws_at (ws_ne hz2 h12)
    have w1 : ∀ (u v : Nat × va_E), ((ws.set q1 u).set q2 v)[q1]? = some u := fun u v => ws_ne (ws_at hz) (Ne.symm h12)
    have hP := P_cg (g := fun _ => 0) hP (w2 _ _) (fun j hj => hg j hj)
    have hD := hD.set (e := .inl (cI, 60, .inl (fun _ => 0))) (w2 _ _)
    rw [List.set_set] at hP hD
    have hP := P_cg (g := fun _ => (-1)) hP (w1 _ _) (fun j hj => hf j hj)
    have hD := hD.set (e := .inl (cI, 60, .inl (fun _ => (-1)))) (w1 _ _)
    rw [List.set_comm _ _ (Ne.symm h12), List.set_set] at hP hD
    rw [hxi] at hl
    exact kk H locs ls hP hD hS hl
  | succ k ih =>
    intro i x f g H locs ls hik hxi hf hg hP hD hS hl
    have w2 : ∀ (u v : Nat × va_E), ((ws.set q1 u).set q2 v)[q2]? = some v := fun u v => ws_at (ws_ne hz2 h12)
    have w1 : ∀ (u v : Nat × va_E), ((ws.set q1 u).set q2 v)[q1]? = some u := fun u v => ws_ne (ws_at hz) (Ne.symm h12)
    have w0 : ∀ (u v : Nat × va_E), ((ws.set q1 u).set q2 v)[q0]? = some (h, .inr (12, fs)) := fun u v => ws_ne (ws_ne he hne) hne2
    refine lv_iload_n hx hb dX12_checks_16 rfl (lv_at hl 0 rfl) ?_
    refine lv_bipush (v := 60) hx hb dX12_checks_17 (by decide +kernel) ?_
    refine lv_icmp_ge (tgt := 42) hx hb dX12_checks_19 (by decide) (fun h9 => absurd h9 (by rw [hxi]; exact nI_ge (b := 60) (by omega) (by omega))) (fun _ => ?_)
    refine lv_aload_n hx hb dX12_checks_22 rfl (lv_at hl 1 rfl) ?_
    refine va_get (D := D) (ci := 12) (v := .ref ah) (C := RX12) (T := TX12) (N := 118) hx hb hts inX12 hown hK hP q0 (w0 _ _) rfl 58 (by decide) (hts _ wm_1425) (fun _ h9 => h9) hv dX12_checks_23 ?_
    refine lv_iload_n hx hb dX12_checks_26 rfl (lv_at hl 0 rfl) ?_
    refine lv_iconst (v := (-1)) hx hb dX12_checks_27 (by decide +kernel) ?_
    refine as_i (k := i) hx hb hK hP hD hS q1 0 (w1 _ _) rfl (by rw [hxi]; exact vp_in_nI (by omega) (by omega)) (by rw [hxi]; exact nI_clamp (by omega)) dX12_checks_28 (fun H locs hP hD hS => ?_)
    rw [List.set_comm _ _ (Ne.symm h12), List.set_set] at hP hD
    refine lv_aload_n hx hb dX12_checks_29 rfl (lv_at hl 1 rfl) ?_
    refine va_get (D := D) (ci := 12) (v := .ref bh) (C := RX12) (T := TX12) (N := 118) hx hb hts inX12 hown hK hP q0 (w0 _ _) rfl 64 (by decide) (hts _ wm_1431) (fun _ h9 => h9) hv2 dX12_checks_30 ?_
    refine lv_iload_n hx hb dX12_checks_33 rfl (lv_at hl 0 rfl) ?_
    refine lv_iconst (v := 0) hx hb dX12_checks_34 (by decide +kernel) ?_
    refine as_i (k := i) hx hb hK hP hD hS q2 0 (w2 _ _) rfl (by rw [hxi]; exact vp_in_nI (by omega) (by omega)) (by rw [hxi]; exact nI_clamp (by omega)) dX12_checks_35 (fun H locs hP hD hS => ?_)
    rw [List.set_set] at hP hD
    refine lv_iinc (v := nI (i + 1)) (lv' := [(1, .int (nI (i + 1))), (0, .ref h)]) hx hb dX12_checks_36 hl (k := 0) rfl (by rw [hxi]; exact nI_1 i) hnL rfl (fun ls hl => ?_)
    refine lv_goto (tgt := 16) hx hb dX12_checks_39 (by decide) ?_
    exact ih (i + 1) _ (upd f i (-1)) (upd g i 0) H locs ls (by omega) rfl (fl_s hf) (fl_s hg) hP hD hS hl
theorem lp_chk {nL : Nat} {ls : Array Slot} {H : Heap} {locs : List Loc} {ws : va_W} {h ah bh : Nat} {fs : List Value} {f g : Nat → Int32} (hx : p.tables.exec = Jvm.exec) (hb : c.code = cX12_checks) (hts : ∀ w ∈ gw, w.before args s = true) (hown : s.vm.findClass RX12 = some m.cls) (hK : va_K D vwCl (TT cI cZ cB cJ) s) (hP : va_P D vwCl ws H) (hD : va_D A ws) (hS : va_S A H0 H locs) (hl : lv_has ls nL [(1, .int 0), (0, .ref h)]) (q0 q1 q2 : Nat) (he : ws[q0]? = some (h, .inr (12, fs))) (hv : fs[58]? = some (.ref ah)) (hv2 : fs[64]? = some (.ref bh)) (hz : ws[q1]? = some (ah, .inl (cI, 60, .inl f))) (hz2 : ws[q2]? = some (bh, .inl (cI, 60, .inl g))) (hne : q1 ≠ q0) (hne2 : q2 ≠ q0) (h12 : q1 ≠ q2)
    (kk : ∀ (H : Heap) (locs : List Loc) (ls : Array Slot), va_P D vwCl ((ws.set q1 (ah, .inl (cI, 60, .inl (fun _ => (-1))))).set q2 (bh, .inl (cI, 60, .inl (fun _ => 0)))) H → va_D A ((ws.set q1 (ah, .inl (cI, 60, .inl (fun _ => (-1))))).set q2 (bh, .inl (cI, 60, .inl (fun _ => 0)))) → va_S A H0 H locs → lv_has ls nL [(1, .int 60), (0, .ref h)] → W p l e R s m args below meth c H locs cells slots Q (F0 m 42 ls [])) : W p l e R s m args below meth c H locs cells slots Q (F0 m 16 ls []) := by
  have hnL : 1 < nL := by
    have h1 := lv_at hl 0 rfl
    rw [← hl.1]
    exact (Array.getElem?_eq_some_iff.mp h1).1
  exact lp_chk0 hnL hx hb hts hown hK he hv hv2 hz hz2 hne hne2 h12 kk 60 0 0 f g H locs ls (by omega) nI_0.symm (fun j h => absurd h (Nat.not_lt_zero j)) (fun j h => absurd h (Nat.not_lt_zero j)) (by rw [set_same hz, set_same hz2]; exact hP) (by rw [set_same hz, set_same hz2]; exact hD) hS hl
end
