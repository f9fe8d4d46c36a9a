def SX (ak kv : Nat) (fo : Option Nat) (A : Nat → Prop) (U : State) (H : Heap) : Prop := vk_R RX10 34 "int" ak U ∧ va_O "java/lang/String" ak A U H ∧ va_OF "java/lang/String" "coder" "B" (.int 0) ak A U H ∧ va_OF "java/lang/String" "value" "[B" (.ref kv) ak A U H ∧ va_T .byte kv 3 (fun j => .int (([105, 110, 116] : List Int32).getD j 0)) A U H ∧ va_Z "java/lang/String" "COMPACT_STRINGS" "Z" (.int 1) A U H ∧ va_Z "jdk/internal/util/Preconditions" "SIOOBE_FORMATTER" "Ljava/util/function/BiFunction;" (va_rf fo) A U H
theorem SX.move {ak kv : Nat} {fo : Option Nat} {A B : Nat → Prop} {s U : State} {H : Heap} {locs : List Loc} (hW : s.WarmedH U.vm) (h : SX ak kv fo A s s.heap) (hS : va_S A s.heap H locs) (hAB : ∀ q, B q → A q) (hU : U.heap = H) : SX ak kv fo B U U.heap := by
  obtain ⟨h1, h2, h3, h4, h5, h6, h7⟩ := h
  rw [hU]
  exact ⟨h1.warm hW, ((h2.kept hS.2.1).narrow hAB).moved hW.alike, ((h3.kept hS.2.1).narrow hAB).moved hW.alike, ((h4.kept hS.2.1).narrow hAB).moved hW.alike, ((h5.kept hS.2.1).narrow hAB).moved hW.alike, ((h6.kept hS.2.1).narrow hAB).moved hW.alike, ((h7.kept hS.2.1).narrow hAB).moved hW.alike⟩
theorem SX.same {ak kv : Nat} {fo : Option Nat} {A : Nat → Prop} {s U : State} {H : Heap} (hv : s.vm = U.vm) (ha : s.vm.Alike U.vm) (h : SX ak kv fo A s H) : SX ak kv fo A U H := by
  obtain ⟨h1, h2, h3, h4, h5, h6, h7⟩ := h
  exact ⟨h1.same hv.symm, h2.moved ha, h3.moved ha, h4.moved ha, h5.moved ha, h6.moved ha, h7.moved ha⟩
theorem SX.recv {ak kv : Nat} {fo : Option Nat} {A : Nat → Prop} {s : State} {H : Heap} {locs : List Loc} (h : SX ak kv fo A s s.heap) (hS : va_S A s.heap H locs) : ∃ cell : Cell, H[ak]? = some cell ∧ cell.vm.isStatics = false ∧ s.vm.findClass RJ0 = some cell.cls := by
  obtain ⟨cell, h1, h2, h3, -⟩ := h.2.1.kept hS.2.1
  exact ⟨cell, h1, h2, h3⟩
theorem rcv {s : State} {H : Heap} {D : va_G} {T : List (ClassId × FieldType)} {ws : va_W} {b ci : Nat} {fs : List Value} {qc : vw_C} {C : String} (hK : va_K D vwCl T s) (hP : va_P D vwCl ws H) (q0 : Nat) (he : ws[q0]? = some (b, .inr (ci, fs))) (hc : vwCl[ci]? = some qc) (hcn : qc.1 = C) : ∃ cell : Cell, H[b]? = some cell ∧ cell.vm.isStatics = false ∧ s.vm.findClass C = some cell.cls := by
  obtain ⟨c1, z1, z2, z3⟩ := va_recv hK hP hc he
  exact ⟨c1, z1, z2, hcn ▸ z3⟩
theorem ct_blindS {ak kv : Nat} {fo : Option Nat} {D : va_G} {T : List (ClassId × FieldType)} {av : List Value} {ws : va_W} {sz : Nat} : FrameBlind (va_Pc av (fun U => U.heap.size = sz ∧ CB D T ws U ∧ SX ak kv fo (va_A ws sz) U U.heap)) := fun a U g mk q => by
  obtain ⟨q0, q1, ⟨qP, qK, qN, qD⟩, qX⟩ := q
  exact ⟨q0, q1, ⟨qP, va_K.moved (u := U) (U := U.calling g mk a) (Vm.Alike.refl U.vm) qK, NW.same (s := U) (U := U.calling g mk a) rfl qN, qD⟩, SX.same (s := U) (U := U.calling g mk a) rfl (Vm.Alike.refl U.vm) qX⟩

def CtIS (ak kv : Nat) (fo : Option Nat) (l : Launch) (D : va_G) (T : List (ClassId × FieldType)) (y : MethodName) (cc : ByteArray) (maxL : Nat) (ret : Option FieldType) (fr lo mc ms : Nat) (av : List Value) (ws : va_W) (Post : Int32 → va_W → Prop) : Prop :=
  ∀ sz : Nat, Met l y (Cond.code y cc maxL ret :: gw) { frames := fr, cells := mc, slots := ms, locals := lo } (va_Pc av (fun U => U.heap.size = sz ∧ CB D T ws U ∧ SX ak kv fo (va_A ws sz) U U.heap)) (va_Qi Post (fun w1 t => va_P D vwCl w1 t.heap ∧ va_D (va_A ws sz) w1) (va_A ws sz)) mc ms (va_A ws sz)
theorem CtIS.of {ak kv : Nat} {fo : Option Nat} {l : Launch} {D : va_G} {T : List (ClassId × FieldType)} {y : MethodName} {cc : ByteArray} {maxL : Nat} {ret : Option FieldType} {fr lo mc ms : Nat} {av : List Value} {ws : va_W} {Post : Int32 → va_W → Prop}
    (hy : plainName y.cls = true) (hlen : (lg_sl av).length ≤ maxL)
    (body : ∀ (p : Program) (e : Env) (s : State) (m : MethodId) (below : List Frame) (meth : Method) (c : Code) (A : Nat → Prop) (ls : Array Slot), SX ak kv fo A s s.heap → p.tables.exec = Jvm.exec → c.code = cc → meth.sig.returnType = ret → c.maxLocals = maxL → s.vm.findClass y.cls = some m.cls → (∀ w ∈ gw, w.before av.toArray s = true) → NW s → meth.locks = false → meth.name = y.name → (∀ q, s.heap.size ≤ q → A q) → va_S A s.heap s.heap [] → va_P D vwCl ws s.heap → va_K D vwCl T s → va_D A ws → lv_has ls maxL (lv_args 0 av) →
      W p l e { frames := fr, cells := mc, slots := ms, locals := lo } s m av.toArray below meth c s.heap [] 0 0 (MQ below (va_Qi Post (fun w1 t => va_P D vwCl w1 t.heap ∧ va_D A w1) A) av.toArray s mc ms A) (F0 m 0 ls [])) :
    CtIS ak kv fo l D T y cc maxL ret fr lo mc ms av ws Post := by
  intro sz
  refine Met.ofW (cc := cc) (maxL := maxL) (ret := ret) hy rfl ?_
  intro p e s m args below meth c s₁ B hml hv
  obtain ⟨rfl, hsz, ⟨hP, hK, hN, hD0⟩, hSX⟩ := hv
  have hx := B.exec
  have hb := B.bytes
  have hr := B.returns
  have hts := atoms_spec (ws := Cond.code y cc maxL ret :: gw) B.pre
  have hown : s.vm.findClass y.cls = some m.cls := findClass_of_methodNamed B.named
  have hlocks := B.notSynchronized
  have hin : meth.name = y.name := (name_of_methodNamed B.named B.method).1
  subst hsz
  have hD := hD0.self (sz := s.heap.size)
  have hl := lv_entry av (n := maxL) hlen
  rw [lg_entry_eq]
  exact body p e s m below meth c (va_A ws s.heap.size) _ hSX hx hb hr hml hown (fun w h => hts w (List.mem_cons_of_mem _ h)) hN hlocks hin (fun q h => Or.inr h) va_S.rf hP hK hD hl
theorem CtI.toS {ak kv : Nat} {fo : Option Nat} {l : Launch} {D : va_G} {T : List (ClassId × FieldType)} {y : MethodName} {cc : ByteArray} {maxL : Nat} {ret : Option FieldType} {fr lo mc ms : Nat} {av : List Value} {ws : va_W} {Post : Int32 → va_W → Prop} (h : CtI l D T y cc maxL ret fr lo mc ms av ws Post) : CtIS ak kv fo l D T y cc maxL ret fr lo mc ms av ws Post := by
  intro sz
  have h1 := h sz
  unfold Met MetFree at h1 ⊢
  intro p e ha hc hk s m args below hf happ hP ht
  exact h1 p e ha hc hk s m args below hf happ ⟨hP.1, hP.2.1, hP.2.2.1⟩ ht

def CtVS (ak kv : Nat) (fo : Option Nat) (l : Launch) (D : va_G) (T : List (ClassId × FieldType)) (y : MethodName) (cc : ByteArray) (maxL : Nat) (ret : Option FieldType) (fr lo mc ms : Nat) (av : List Value) (ws : va_W) (Post : va_W → Prop) : Prop :=
  ∀ sz : Nat, Met l y (Cond.code y cc maxL ret :: gw) { frames := fr, cells := mc, slots := ms, locals := lo } (va_Pc av (fun U => U.heap.size = sz ∧ CB D T ws U ∧ SX ak kv fo (va_A ws sz) U U.heap)) (va_Qv Post (fun w1 t => va_P D vwCl w1 t.heap ∧ va_D (va_A ws sz) w1) (va_A ws sz)) mc ms (va_A ws sz)
theorem CtVS.of {ak kv : Nat} {fo : Option Nat} {l : Launch} {D : va_G} {T : List (ClassId × FieldType)} {y : MethodName} {cc : ByteArray} {maxL : Nat} {ret : Option FieldType} {fr lo mc ms : Nat} {av : List Value} {ws : va_W} {Post : va_W → Prop}
    (hy : plainName y.cls = true) (hlen : (lg_sl av).length ≤ maxL)
    (body : ∀ (p : Program) (e : Env) (s : State) (m : MethodId) (below : List Frame) (meth : Method) (c : Code) (A : Nat → Prop) (ls : Array Slot), SX ak kv fo A s s.heap → p.tables.exec = Jvm.exec → c.code = cc → meth.sig.returnType = ret → c.maxLocals = maxL → s.vm.findClass y.cls = some m.cls → (∀ w ∈ gw, w.before av.toArray s = true) → NW s → meth.locks = false → meth.name = y.name → (∀ q, s.heap.size ≤ q → A q) → va_S A s.heap s.heap [] → va_P D vwCl ws s.heap → va_K D vwCl T s → va_D A ws → lv_has ls maxL (lv_args 0 av) →
      W p l e { frames := fr, cells := mc, slots := ms, locals := lo } s m av.toArray below meth c s.heap [] 0 0 (MQ below (va_Qv Post (fun w1 t => va_P D vwCl w1 t.heap ∧ va_D A w1) A) av.toArray s mc ms A) (F0 m 0 ls [])) :
    CtVS ak kv fo l D T y cc maxL ret fr lo mc ms av ws Post := by
  intro sz
  refine Met.ofW (cc := cc) (maxL := maxL) (ret := ret) hy rfl ?_
  intro p e s m args below meth c s₁ B hml hv
  obtain ⟨rfl, hsz, ⟨hP, hK, hN, hD0⟩, hSX⟩ := hv
  have hx := B.exec
  have hb := B.bytes
  have hr := B.returns
  have hts := atoms_spec (ws := Cond.code y cc maxL ret :: gw) B.pre
  have hown : s.vm.findClass y.cls = some m.cls := findClass_of_methodNamed B.named
  have hlocks := B.notSynchronized
  have hin : meth.name = y.name := (name_of_methodNamed B.named B.method).1
  subst hsz
  have hD := hD0.self (sz := s.heap.size)
  have hl := lv_entry av (n := maxL) hlen
  rw [lg_entry_eq]
  exact body p e s m below meth c (va_A ws s.heap.size) _ hSX hx hb hr hml hown (fun w h => hts w (List.mem_cons_of_mem _ h)) hN hlocks hin (fun q h => Or.inr h) va_S.rf hP hK hD hl
theorem CtV.toS {ak kv : Nat} {fo : Option Nat} {l : Launch} {D : va_G} {T : List (ClassId × FieldType)} {y : MethodName} {cc : ByteArray} {maxL : Nat} {ret : Option FieldType} {fr lo mc ms : Nat} {av : List Value} {ws : va_W} {Post : va_W → Prop} (h : CtV l D T y cc maxL ret fr lo mc ms av ws Post) : CtVS ak kv fo l D T y cc maxL ret fr lo mc ms av ws Post := by
  intro sz
  have h1 := h sz
  unfold Met MetFree at h1 ⊢
  intro p e ha hc hk s m args below hf happ hP ht
  exact h1 p e ha hc hk s m args below hf happ ⟨hP.1, hP.2.1, hP.2.2.1⟩ ht

section
variable {p : Program} {l : Launch} {e : Env} {R : Room} {s : State} {m : MethodId} {args : Array Value} {below : List Frame} {meth : Method} {c : Code} {H : Heap} {locs : List Loc} {cells slots : Nat} {Q : State → Prop} {cc : ByteArray} {pc : Nat} {ls : Array Slot} {rest : List Value} {D : va_G} {T : List (ClassId × FieldType)} {A : Nat → Prop} {ws : va_W} {a ak kv : Nat} {fo : Option Nat}

theorem zVi {y : MethodName} {cb : ByteArray} {maxL nL fr lo mc ms n idx : Nat} {ret : Option FieldType} {Post : Int32 → va_W → Prop} {own : String} {As : List Value} {b : Nat} {wc wr : va_W} {st0 : List Value}
    (hSX : SX ak kv fo A s s.heap) (hx : p.tables.exec = Jvm.exec) (hb : c.code = cc) (hml : c.maxLocals = nL) (hown : s.vm.findClass own = some m.cls) (hts : ∀ w ∈ gw, w.before args s = true) (hnw : NW s) (hK : va_K D vwCl T s) (hP : va_P D vwCl ws H) (hD : va_D A ws) (hS : va_S A s.heap H locs) (hA : ∀ q, s.heap.size ≤ q → A q) (hsz : ls.size = nL)
    (hM : CtIS ak kv fo l D T y cb maxL ret fr lo mc ms (.ref b :: As) wc Post) (hy : YI y cb maxL ret n) (hlk : Cond.methodLink own idx y ∈ gw) (isC isR : List Nat) (hC : isC.map (fun i => ws[i]?) = wc.map some) (hRr : isR.map (fun i => ws[i]?) = wr.map some) (hnC : va_nd isC = true) (hnR : va_nd isR = true) (hdis : ∀ i ∈ isR, i ∉ isC) (hrc : ∃ cell : Cell, H[b]? = some cell ∧ cell.vm.isStatics = false ∧ s.vm.findClass y.cls = some cell.cls)
    (hst : st0 = As.reverse ++ .ref b :: rest) (hlen : As.length = n) (hdg : decode cc pc = .ok (.invokevirtual idx, 3)) (hR : fr + 1 ≤ R.frames ∧ 8 + (maxL + 11) + lo ≤ R.locals) (hf : cells + mc ≤ R.cells ∧ slots + ms ≤ R.slots) (h8 : (rest.map fun v => v.category).sum ≤ 8)
    (kk : ∀ (r : Int32) (w1 : va_W) (H1 : Heap) (locs1 : List Loc), Post r w1 → va_P D vwCl (wr ++ w1) H1 → va_D A (wr ++ w1) → va_S A s.heap H1 locs1 → W p l e R s m args below meth c H1 locs1 (cells + mc) (slots + ms) Q (F0 m (pc + 3) ls (.int r :: rest))) :
    W p l e R s m args below meth c H locs cells slots Q (F0 m pc ls st0) := by
  have hPc := hP.sub (ws' := wc) isC (fm_of hC)
  have hDc := hD.sub (ws' := wc) isC hnC hC
  have hFc := va_free (wc := wc) hD hS hA isC hC
  refine va_calli (va_runV (As := As) (rest := rest) ⟨hx, hb, hml, hown, hts⟩ (hM H.size) ⟨callB_of n hts (gw_in hy.1) rfl rfl rfl (hts _ hy.2.1) (hts _ hlk) hy.2.2.2.2 hR, hts _ hy.2.2.1, hts _ hy.2.2.2.1⟩ ⟨ct_blindS, hrc, fun U hU hW => ⟨rfl, by rw [hU], ⟨by rw [hU]; exact hPc, va_K.moved hW.alike hK, hnw.warm hW, hDc.weaken (fun _ _ _ _ => trivial)⟩, hSX.move hW hS hFc hU⟩⟩ rfl hlen hsz hst (lv_room (rest := st0) h8) hdg hf) hS (fun q _ h => hFc q h) hFc (fun r u t H1 locs1 ht hvm hw hB hz1 hk1 hS1 => ?_)
  obtain ⟨hP1, hD1⟩ := hB
  rw [ht] at hP1
  obtain ⟨hP2, hD2⟩ := va_join (wr := wr) (w1 := u) hP hD isC isR hC hRr hnR hdis hk1 hFc hP1 hD1
  exact kk r u H1 locs1 hw hP2 hD2 hS1

theorem zVv {y : MethodName} {cb : ByteArray} {maxL nL fr lo mc ms n idx : Nat} {ret : Option FieldType} {Post : va_W → Prop} {own : String} {As : List Value} {b : Nat} {wc wr : va_W} {st0 : List Value}
    (hSX : SX ak kv fo A s s.heap) (hx : p.tables.exec = Jvm.exec) (hb : c.code = cc) (hml : c.maxLocals = nL) (hown : s.vm.findClass own = some m.cls) (hts : ∀ w ∈ gw, w.before args s = true) (hnw : NW s) (hK : va_K D vwCl T s) (hP : va_P D vwCl ws H) (hD : va_D A ws) (hS : va_S A s.heap H locs) (hA : ∀ q, s.heap.size ≤ q → A q) (hsz : ls.size = nL)
    (hM : CtVS ak kv fo l D T y cb maxL ret fr lo mc ms (.ref b :: As) wc Post) (hy : YI y cb maxL ret n) (hlk : Cond.methodLink own idx y ∈ gw) (isC isR : List Nat) (hC : isC.map (fun i => ws[i]?) = wc.map some) (hRr : isR.map (fun i => ws[i]?) = wr.map some) (hnC : va_nd isC = true) (hnR : va_nd isR = true) (hdis : ∀ i ∈ isR, i ∉ isC) (hrc : ∃ cell : Cell, H[b]? = some cell ∧ cell.vm.isStatics = false ∧ s.vm.findClass y.cls = some cell.cls)
    (hst : st0 = As.reverse ++ .ref b :: rest) (hlen : As.length = n) (hdg : decode cc pc = .ok (.invokevirtual idx, 3)) (hR : fr + 1 ≤ R.frames ∧ 8 + (maxL + 11) + lo ≤ R.locals) (hf : cells + mc ≤ R.cells ∧ slots + ms ≤ R.slots) (h8 : (rest.map fun v => v.category).sum ≤ 8)
    (kk : ∀ (w1 : va_W) (H1 : Heap) (locs1 : List Loc), Post w1 → va_P D vwCl (wr ++ w1) H1 → va_D A (wr ++ w1) → va_S A s.heap H1 locs1 → W p l e R s m args below meth c H1 locs1 (cells + mc) (slots + ms) Q (F0 m (pc + 3) ls rest)) :
    W p l e R s m args below meth c H locs cells slots Q (F0 m pc ls st0) := by
  have hPc := hP.sub (ws' := wc) isC (fm_of hC)
  have hDc := hD.sub (ws' := wc) isC hnC hC
  have hFc := va_free (wc := wc) hD hS hA isC hC
  refine va_callv (va_runV (As := As) (rest := rest) ⟨hx, hb, hml, hown, hts⟩ (hM H.size) ⟨callB_of n hts (gw_in hy.1) rfl rfl rfl (hts _ hy.2.1) (hts _ hlk) hy.2.2.2.2 hR, hts _ hy.2.2.1, hts _ hy.2.2.2.1⟩ ⟨ct_blindS, hrc, fun U hU hW => ⟨rfl, by rw [hU], ⟨by rw [hU]; exact hPc, va_K.moved hW.alike hK, hnw.warm hW, hDc.weaken (fun _ _ _ _ => trivial)⟩, hSX.move hW hS hFc hU⟩⟩ rfl hlen hsz hst (lv_room (rest := st0) h8) hdg hf) hS (fun q _ h => hFc q h) hFc (fun u t H1 locs1 ht hvm hw hB hz1 hk1 hS1 => ?_)
  obtain ⟨hP1, hD1⟩ := hB
  rw [ht] at hP1
  obtain ⟨hP2, hD2⟩ := va_join (wr := wr) (w1 := u) hP hD isC isR hC hRr hnR hdis hk1 hFc hP1 hD1
  exact kk u H1 locs1 hw hP2 hD2 hS1

theorem zVNi {y : MethodName} {cb : ByteArray} {maxL nL fr lo mc ms n idx : Nat} {ret : Option FieldType} {Post : Int32 → va_W → Prop} {own : String} {host : String} {As : List Value} {b : Nat} {wc wr : va_W} {st0 : List Value}
    (hSX : SX ak kv fo A s s.heap) (hx : p.tables.exec = Jvm.exec) (hb : c.code = cc) (hml : c.maxLocals = nL) (hown : s.vm.findClass own = some m.cls) (hts : ∀ w ∈ gw, w.before args s = true) (hnw : NW s) (hK : va_K D vwCl T s) (hP : va_P D vwCl ws H) (hD : va_D A ws) (hS : va_S A s.heap H locs) (hA : ∀ q, s.heap.size ≤ q → A q) (hsz : ls.size = nL)
    (hM : CtIS ak kv fo l D T y cb maxL ret fr lo mc ms (.ref b :: As) wc Post) (hy : YI y cb maxL ret n) (hlk : Cond.methodLinkNest own idx y host ∈ nws) (isC isR : List Nat) (hC : isC.map (fun i => ws[i]?) = wc.map some) (hRr : isR.map (fun i => ws[i]?) = wr.map some) (hnC : va_nd isC = true) (hnR : va_nd isR = true) (hdis : ∀ i ∈ isR, i ∉ isC) (hrc : ∃ cell : Cell, H[b]? = some cell ∧ cell.vm.isStatics = false ∧ s.vm.findClass y.cls = some cell.cls)
    (hst : st0 = As.reverse ++ .ref b :: rest) (hlen : As.length = n) (hdg : decode cc pc = .ok (.invokevirtual idx, 3)) (hR : fr + 1 ≤ R.frames ∧ 8 + (maxL + 11) + lo ≤ R.locals) (hf : cells + mc ≤ R.cells ∧ slots + ms ≤ R.slots) (h8 : (rest.map fun v => v.category).sum ≤ 8)
    (kk : ∀ (r : Int32) (w1 : va_W) (H1 : Heap) (locs1 : List Loc), Post r w1 → va_P D vwCl (wr ++ w1) H1 → va_D A (wr ++ w1) → va_S A s.heap H1 locs1 → W p l e R s m args below meth c H1 locs1 (cells + mc) (slots + ms) Q (F0 m (pc + 3) ls (.int r :: rest))) :
    W p l e R s m args below meth c H locs cells slots Q (F0 m pc ls st0) := by
  have hPc := hP.sub (ws' := wc) isC (fm_of hC)
  have hDc := hD.sub (ws' := wc) isC hnC hC
  have hFc := va_free (wc := wc) hD hS hA isC hC
  refine va_calli (va_runVN (As := As) (rest := rest) ⟨hx, hb, hml, hown, hts⟩ (hM H.size) ⟨va_cnB n hts (gw_in hy.1) rfl rfl rfl (hnw _ hlk) (hts _ hy.2.1) hy.2.2.2.2 hR, hts _ hy.2.2.1, hts _ hy.2.2.2.1⟩ ⟨ct_blindS, hrc, fun U hU hW => ⟨rfl, by rw [hU], ⟨by rw [hU]; exact hPc, va_K.moved hW.alike hK, hnw.warm hW, hDc.weaken (fun _ _ _ _ => trivial)⟩, hSX.move hW hS hFc hU⟩⟩ rfl hlen hsz hst (lv_room (rest := st0) h8) hdg hf) hS (fun q _ h => hFc q h) hFc (fun r u t H1 locs1 ht hvm hw hB hz1 hk1 hS1 => ?_)
  obtain ⟨hP1, hD1⟩ := hB
  rw [ht] at hP1
  obtain ⟨hP2, hD2⟩ := va_join (wr := wr) (w1 := u) hP hD isC isR hC hRr hnR hdis hk1 hFc hP1 hD1
  exact kk r u H1 locs1 hw hP2 hD2 hS1

theorem zVNv {y : MethodName} {cb : ByteArray} {maxL nL fr lo mc ms n idx : Nat} {ret : Option FieldType} {Post : va_W → Prop} {own : String} {host : String} {As : List Value} {b : Nat} {wc wr : va_W} {st0 : List Value}
    (hSX : SX ak kv fo A s s.heap) (hx : p.tables.exec = Jvm.exec) (hb : c.code = cc) (hml : c.maxLocals = nL) (hown : s.vm.findClass own = some m.cls) (hts : ∀ w ∈ gw, w.before args s = true) (hnw : NW s) (hK : va_K D vwCl T s) (hP : va_P D vwCl ws H) (hD : va_D A ws) (hS : va_S A s.heap H locs) (hA : ∀ q, s.heap.size ≤ q → A q) (hsz : ls.size = nL)
    (hM : CtVS ak kv fo l D T y cb maxL ret fr lo mc ms (.ref b :: As) wc Post) (hy : YI y cb maxL ret n) (hlk : Cond.methodLinkNest own idx y host ∈ nws) (isC isR : List Nat) (hC : isC.map (fun i => ws[i]?) = wc.map some) (hRr : isR.map (fun i => ws[i]?) = wr.map some) (hnC : va_nd isC = true) (hnR : va_nd isR = true) (hdis : ∀ i ∈ isR, i ∉ isC) (hrc : ∃ cell : Cell, H[b]? = some cell ∧ cell.vm.isStatics = false ∧ s.vm.findClass y.cls = some cell.cls)
    (hst : st0 = As.reverse ++ .ref b :: rest) (hlen : As.length = n) (hdg : decode cc pc = .ok (.invokevirtual idx, 3)) (hR : fr + 1 ≤ R.frames ∧ 8 + (maxL + 11) + lo ≤ R.locals) (hf : cells + mc ≤ R.cells ∧ slots + ms ≤ R.slots) (h8 : (rest.map fun v => v.category).sum ≤ 8)
    (kk : ∀ (w1 : va_W) (H1 : Heap) (locs1 : List Loc), Post w1 → va_P D vwCl (wr ++ w1) H1 → va_D A (wr ++ w1) → va_S A s.heap H1 locs1 → W p l e R s m args below meth c H1 locs1 (cells + mc) (slots + ms) Q (F0 m (pc + 3) ls rest)) :
    W p l e R s m args below meth c H locs cells slots Q (F0 m pc ls st0) := by
  have hPc := hP.sub (ws' := wc) isC (fm_of hC)
  have hDc := hD.sub (ws' := wc) isC hnC hC
  have hFc := va_free (wc := wc) hD hS hA isC hC
  refine va_callv (va_runVN (As := As) (rest := rest) ⟨hx, hb, hml, hown, hts⟩ (hM H.size) ⟨va_cnB n hts (gw_in hy.1) rfl rfl rfl (hnw _ hlk) (hts _ hy.2.1) hy.2.2.2.2 hR, hts _ hy.2.2.1, hts _ hy.2.2.2.1⟩ ⟨ct_blindS, hrc, fun U hU hW => ⟨rfl, by rw [hU], ⟨by rw [hU]; exact hPc, va_K.moved hW.alike hK, hnw.warm hW, hDc.weaken (fun _ _ _ _ => trivial)⟩, hSX.move hW hS hFc hU⟩⟩ rfl hlen hsz hst (lv_room (rest := st0) h8) hdg hf) hS (fun q _ h => hFc q h) hFc (fun u t H1 locs1 ht hvm hw hB hz1 hk1 hS1 => ?_)
  obtain ⟨hP1, hD1⟩ := hB
  rw [ht] at hP1
  obtain ⟨hP2, hD2⟩ := va_join (wr := wr) (w1 := u) hP hD isC isR hC hRr hnR hdis hk1 hFc hP1 hD1
  exact kk u H1 locs1 hw hP2 hD2 hS1

theorem zSi {y : MethodName} {cb : ByteArray} {maxL nL fr lo mc ms n idx : Nat} {ret : Option FieldType} {Post : Int32 → va_W → Prop} {own : String} {As : List Value} {wc wr : va_W} {st0 : List Value}
    (hSX : SX ak kv fo A s s.heap) (hx : p.tables.exec = Jvm.exec) (hb : c.code = cc) (hml : c.maxLocals = nL) (hown : s.vm.findClass own = some m.cls) (hts : ∀ w ∈ gw, w.before args s = true) (hnw : NW s) (hK : va_K D vwCl T s) (hP : va_P D vwCl ws H) (hD : va_D A ws) (hS : va_S A s.heap H locs) (hA : ∀ q, s.heap.size ≤ q → A q) (hsz : ls.size = nL)
    (hM : CtIS ak kv fo l D T y cb maxL ret fr lo mc ms As wc Post) (hy : YS y cb maxL ret n) (hlk : Cond.methodLink own idx y ∈ gw) (isC isR : List Nat) (hC : isC.map (fun i => ws[i]?) = wc.map some) (hRr : isR.map (fun i => ws[i]?) = wr.map some) (hnC : va_nd isC = true) (hnR : va_nd isR = true) (hdis : ∀ i ∈ isR, i ∉ isC)
    (hst : st0 = As.reverse ++ rest) (hlen : As.length = n) (hdg : decode cc pc = .ok (.invokestatic idx, 3)) (hR : fr + 1 ≤ R.frames ∧ 8 + (maxL + 11) + lo ≤ R.locals) (hf : cells + mc ≤ R.cells ∧ slots + ms ≤ R.slots) (h8 : (rest.map fun v => v.category).sum ≤ 8)
    (kk : ∀ (r : Int32) (w1 : va_W) (H1 : Heap) (locs1 : List Loc), Post r w1 → va_P D vwCl (wr ++ w1) H1 → va_D A (wr ++ w1) → va_S A s.heap H1 locs1 → W p l e R s m args below meth c H1 locs1 (cells + mc) (slots + ms) Q (F0 m (pc + 3) ls (.int r :: rest))) :
    W p l e R s m args below meth c H locs cells slots Q (F0 m pc ls st0) := by
  have hPc := hP.sub (ws' := wc) isC (fm_of hC)
  have hDc := hD.sub (ws' := wc) isC hnC hC
  have hFc := va_free (wc := wc) hD hS hA isC hC
  refine va_calli (va_runS (As := As) (rest := rest) ⟨hx, hb, hml, hown, hts⟩ (hM H.size) ⟨callB_of n hts (gw_in hy.1) rfl rfl rfl (hts _ hy.2.1) (hts _ hlk) hy.2.2.2 hR, hts _ hy.2.2.1⟩ ⟨ct_blindS, fun U hU hW => ⟨rfl, by rw [hU], ⟨by rw [hU]; exact hPc, va_K.moved hW.alike hK, hnw.warm hW, hDc.weaken (fun _ _ _ _ => trivial)⟩, hSX.move hW hS hFc hU⟩⟩ rfl hlen hsz hst (lv_room (rest := st0) h8) hdg hf) hS (fun q _ h => hFc q h) hFc (fun r u t H1 locs1 ht hvm hw hB hz1 hk1 hS1 => ?_)
  obtain ⟨hP1, hD1⟩ := hB
  rw [ht] at hP1
  obtain ⟨hP2, hD2⟩ := va_join (wr := wr) (w1 := u) hP hD isC isR hC hRr hnR hdis hk1 hFc hP1 hD1
  exact kk r u H1 locs1 hw hP2 hD2 hS1

theorem zSv {y : MethodName} {cb : ByteArray} {maxL nL fr lo mc ms n idx : Nat} {ret : Option FieldType} {Post : va_W → Prop} {own : String} {As : List Value} {wc wr : va_W} {st0 : List Value}
    (hSX : SX ak kv fo A s s.heap) (hx : p.tables.exec = Jvm.exec) (hb : c.code = cc) (hml : c.maxLocals = nL) (hown : s.vm.findClass own = some m.cls) (hts : ∀ w ∈ gw, w.before args s = true) (hnw : NW s) (hK : va_K D vwCl T s) (hP : va_P D vwCl ws H) (hD : va_D A ws) (hS : va_S A s.heap H locs) (hA : ∀ q, s.heap.size ≤ q → A q) (hsz : ls.size = nL)
    (hM : CtVS ak kv fo l D T y cb maxL ret fr lo mc ms As wc Post) (hy : YS y cb maxL ret n) (hlk : Cond.methodLink own idx y ∈ gw) (isC isR : List Nat) (hC : isC.map (fun i => ws[i]?) = wc.map some) (hRr : isR.map (fun i => ws[i]?) = wr.map some) (hnC : va_nd isC = true) (hnR : va_nd isR = true) (hdis : ∀ i ∈ isR, i ∉ isC)
    (hst : st0 = As.reverse ++ rest) (hlen : As.length = n) (hdg : decode cc pc = .ok (.invokestatic idx, 3)) (hR : fr + 1 ≤ R.frames ∧ 8 + (maxL + 11) + lo ≤ R.locals) (hf : cells + mc ≤ R.cells ∧ slots + ms ≤ R.slots) (h8 : (rest.map fun v => v.category).sum ≤ 8)
    (kk : ∀ (w1 : va_W) (H1 : Heap) (locs1 : List Loc), Post w1 → va_P D vwCl (wr ++ w1) H1 → va_D A (wr ++ w1) → va_S A s.heap H1 locs1 → W p l e R s m args below meth c H1 locs1 (cells + mc) (slots + ms) Q (F0 m (pc + 3) ls rest)) :
    W p l e R s m args below meth c H locs cells slots Q (F0 m pc ls st0) := by
  have hPc := hP.sub (ws' := wc) isC (fm_of hC)
  have hDc := hD.sub (ws' := wc) isC hnC hC
  have hFc := va_free (wc := wc) hD hS hA isC hC
  refine va_callv (va_runS (As := As) (rest := rest) ⟨hx, hb, hml, hown, hts⟩ (hM H.size) ⟨callB_of n hts (gw_in hy.1) rfl rfl rfl (hts _ hy.2.1) (hts _ hlk) hy.2.2.2 hR, hts _ hy.2.2.1⟩ ⟨ct_blindS, fun U hU hW => ⟨rfl, by rw [hU], ⟨by rw [hU]; exact hPc, va_K.moved hW.alike hK, hnw.warm hW, hDc.weaken (fun _ _ _ _ => trivial)⟩, hSX.move hW hS hFc hU⟩⟩ rfl hlen hsz hst (lv_room (rest := st0) h8) hdg hf) hS (fun q _ h => hFc q h) hFc (fun u t H1 locs1 ht hvm hw hB hz1 hk1 hS1 => ?_)
  obtain ⟨hP1, hD1⟩ := hB
  rw [ht] at hP1
  obtain ⟨hP2, hD2⟩ := va_join (wr := wr) (w1 := u) hP hD isC isR hC hRr hnR hdis hk1 hFc hP1 hD1
  exact kk u H1 locs1 hw hP2 hD2 hS1

end

set_option maxHeartbeats 4000000 in
set_option maxRecDepth 100000 in
theorem c_ck3 (l : Launch) (D : va_G) (cI cZ cB cJ : ClassId) (fo : Option Nat) (i : Int32) (h0 : ¬ i < 0) (h3 : i < 3) : CtI l D (TT cI cZ cB cJ) yJ3_checkIndex_8e157 cJ3_checkIndex_8e157 3 (some .int) 0 0 0 0 [.int i, .int 3, va_rf fo] [] (fun r w1 => r = i ∧ w1 = []) := by
  cases fo <;>
  · refine CtI.of (by decide +kernel) (Nat.le_of_ble_eq_true rfl) ?_
    intro p e s m below meth c A ls hx hb hr hml hown hts hnw hlocks hin hA hS hP hK hD hl
    refine lv_iload_n hx hb dJ3_checkIndex_8e157_0 rfl (lv_at hl 0 rfl) ?_
    refine lv_if_lt (tgt := 9) hx hb dJ3_checkIndex_8e157_1 (by decide) (fun h9 => absurd h9 h0) (fun _ => ?_)
    refine lv_iload_n hx hb dJ3_checkIndex_8e157_4 rfl (lv_at hl 0 rfl) ?_
    refine lv_iload_n hx hb dJ3_checkIndex_8e157_5 rfl (lv_at hl 1 rfl) ?_
    refine lv_icmp_lt (tgt := 16) hx hb dJ3_checkIndex_8e157_6 (by decide) (fun _ => ?_) (fun h9 => absurd h3 h9)
    refine lv_iload_n hx hb dJ3_checkIndex_8e157_16 rfl (lv_at hl 0 rfl) ?_
    exact rtI hx hb hr hlocks hS hP hD ⟨rfl, rfl⟩ dJ3_checkIndex_8e157_17

set_option maxHeartbeats 4000000 in
set_option maxRecDepth 100000 in
theorem c_ck0 (l : Launch) (D : va_G) (cI cZ cB cJ : ClassId) (ak kv : Nat) (fo : Option Nat) (i : Int32) (h0 : ¬ i < 0) (h3 : i < 3) : CtVS ak kv fo l D (TT cI cZ cB cJ) yJ0_checkIndex_df160 cJ0_checkIndex_df160 2 none 1 22 0 0 [.int i, .int 3] [] (fun w1 => w1 = []) := by
  refine CtVS.of (by decide +kernel) (Nat.le_of_ble_eq_true rfl) ?_
  intro p e s m below meth c A ls hSX hx hb hr hml hown hts hnw hlocks hin hA hS hP hK hD hl
  have hown : s.vm.findClass RJ0 = some m.cls := hown
  refine lv_iload_n hx hb dJ0_checkIndex_df160_0 rfl (lv_at hl 0 rfl) ?_
  refine lv_iload_n hx hb dJ0_checkIndex_df160_1 rfl (lv_at hl 1 rfl) ?_
  refine va_gets hx hb hSX.2.2.2.2.2.2 hS hown (hts _ wm_899) (fun _ h9 => h9) dJ0_checkIndex_df160_2 ?_
  refine kSi (As := [.int i, .int 3, va_rf fo]) (rest := []) (wr := []) hx hb hml hown hts hnw hK hP hD hS hA hl.1 (c_ck3 l D cI cZ cB cJ fo i h0 h3) yk_J3_checkIndex_8e157 wm_901 [] [] rfl rfl (by decide) (by decide) (by decide) rfl rfl dJ0_checkIndex_df160_5 ⟨(Nat.le_of_ble_eq_true rfl), (Nat.le_of_ble_eq_true rfl)⟩ ⟨(Nat.le_of_ble_eq_true rfl), (Nat.le_of_ble_eq_true rfl)⟩ (Nat.le_of_ble_eq_true rfl) (fun r9 w1 H locs hq9 hP hD hS => ?_)
  obtain ⟨rfl, rfl⟩ := hq9
  have hP : va_P D vwCl [] H := hP
  have hD : va_D A [] := hD
  refine W.widen (k := 0) (n := 0) (Nat.le_of_ble_eq_true rfl) (Nat.le_of_ble_eq_true rfl) ?_
  refine lv_pop hx hb dJ0_checkIndex_df160_8 rfl ?_
  exact rtV hx hb hr hlocks hS hP hD rfl dJ0_checkIndex_df160_9

set_option maxHeartbeats 4000000 in
set_option maxRecDepth 100000 in
theorem c_cL0 (l : Launch) (D : va_G) (cI cZ cB cJ : ClassId) (ak kv : Nat) (fo : Option Nat) : CtIS ak kv fo l D (TT cI cZ cB cJ) yJ1_charAt_3b067 cJ1_charAt_3b067 2 (some .char) 2 43 0 0 [.ref kv, .int 0] [] (fun r w1 => r = 105 ∧ w1 = []) := by
  refine CtIS.of (by decide +kernel) (Nat.le_of_ble_eq_true rfl) ?_
  intro p e s m below meth c A ls hSX hx hb hr hml hown hts hnw hlocks hin hA hS hP hK hD hl
  have hown : s.vm.findClass RJ1 = some m.cls := hown
  refine lv_iload_n hx hb dJ1_charAt_3b067_0 rfl (lv_at hl 1 rfl) ?_
  refine lv_aload_n hx hb dJ1_charAt_3b067_1 rfl (lv_at hl 0 rfl) ?_
  refine va_tlen (v := 3) hx hb hSX.2.2.2.2.1 hS (by decide +kernel) dJ1_charAt_3b067_2 ?_
  refine zSv (As := [.int 0, .int 3]) (rest := []) (wr := []) hSX hx hb hml hown hts hnw hK hP hD hS hA hl.1 (c_ck0 l D cI cZ cB cJ ak kv fo 0 (by decide +kernel) (by decide +kernel)) yk_J0_checkIndex_df160 wm_896 [] [] rfl rfl (by decide) (by decide) (by decide) rfl rfl dJ1_charAt_3b067_3 ⟨(Nat.le_of_ble_eq_true rfl), (Nat.le_of_ble_eq_true rfl)⟩ ⟨(Nat.le_of_ble_eq_true rfl), (Nat.le_of_ble_eq_true rfl)⟩ (Nat.le_of_ble_eq_true rfl) (fun w1 H locs hq9 hP hD hS => ?_)
  obtain rfl := hq9
  have hP : va_P D vwCl [] H := hP
  have hD : va_D A [] := hD
  refine W.widen (k := 0) (n := 0) (Nat.le_of_ble_eq_true rfl) (Nat.le_of_ble_eq_true rfl) ?_
  refine lv_aload_n hx hb dJ1_charAt_3b067_6 rfl (lv_at hl 0 rfl) ?_
  refine lv_iload_n hx hb dJ1_charAt_3b067_7 rfl (lv_at hl 1 rfl) ?_
  refine va_tb (v := .int 105) hx hb hSX.2.2.2.2.1 hS (vpi (by decide +kernel)) rfl dJ1_charAt_3b067_8 ?_
  refine lv_sipush (v := 255) hx hb dJ1_charAt_3b067_9 (by decide +kernel) ?_
  refine lv_iand hx hb dJ1_charAt_3b067_12 ?_
  refine nrm (y := 105) (by decide +kernel) ?_
  refine lv_i2c (v := 105) hx hb dJ1_charAt_3b067_13 (by decide +kernel) ?_
  exact rtZ hx hb hr rfl hlocks hS hP hD ⟨rfl, rfl⟩ dJ1_charAt_3b067_14

set_option maxHeartbeats 4000000 in
set_option maxRecDepth 100000 in
theorem c_cL1 (l : Launch) (D : va_G) (cI cZ cB cJ : ClassId) (ak kv : Nat) (fo : Option Nat) : CtIS ak kv fo l D (TT cI cZ cB cJ) yJ1_charAt_3b067 cJ1_charAt_3b067 2 (some .char) 2 43 0 0 [.ref kv, .int 1] [] (fun r w1 => r = 110 ∧ w1 = []) := by
  refine CtIS.of (by decide +kernel) (Nat.le_of_ble_eq_true rfl) ?_
  intro p e s m below meth c A ls hSX hx hb hr hml hown hts hnw hlocks hin hA hS hP hK hD hl
  have hown : s.vm.findClass RJ1 = some m.cls := hown
  refine lv_iload_n hx hb dJ1_charAt_3b067_0 rfl (lv_at hl 1 rfl) ?_
  refine lv_aload_n hx hb dJ1_charAt_3b067_1 rfl (lv_at hl 0 rfl) ?_
  refine va_tlen (v := 3) hx hb hSX.2.2.2.2.1 hS (by decide +kernel) dJ1_charAt_3b067_2 ?_
  refine zSv (As := [.int 1, .int 3]) (rest := []) (wr := []) hSX hx hb hml hown hts hnw hK hP hD hS hA hl.1 (c_ck0 l D cI cZ cB cJ ak kv fo 1 (by decide +kernel) (by decide +kernel)) yk_J0_checkIndex_df160 wm_896 [] [] rfl rfl (by decide) (by decide) (by decide) rfl rfl dJ1_charAt_3b067_3 ⟨(Nat.le_of_ble_eq_true rfl), (Nat.le_of_ble_eq_true rfl)⟩ ⟨(Nat.le_of_ble_eq_true rfl), (Nat.le_of_ble_eq_true rfl)⟩ (Nat.le_of_ble_eq_true rfl) (fun w1 H locs hq9 hP hD hS => ?_)
  obtain rfl := hq9
  have hP : va_P D vwCl [] H := hP
  have hD : va_D A [] := hD
  refine W.widen (k := 0) (n := 0) (Nat.le_of_ble_eq_true rfl) (Nat.le_of_ble_eq_true rfl) ?_
  refine lv_aload_n hx hb dJ1_charAt_3b067_6 rfl (lv_at hl 0 rfl) ?_
  refine lv_iload_n hx hb dJ1_charAt_3b067_7 rfl (lv_at hl 1 rfl) ?_
  refine va_tb (v := .int 110) hx hb hSX.2.2.2.2.1 hS (vpi (by decide +kernel)) rfl dJ1_charAt_3b067_8 ?_
  refine lv_sipush (v := 255) hx hb dJ1_charAt_3b067_9 (by decide +kernel) ?_
  refine lv_iand hx hb dJ1_charAt_3b067_12 ?_
  refine nrm (y := 110) (by decide +kernel) ?_
  refine lv_i2c (v := 110) hx hb dJ1_charAt_3b067_13 (by decide +kernel) ?_
  exact rtZ hx hb hr rfl hlocks hS hP hD ⟨rfl, rfl⟩ dJ1_charAt_3b067_14

set_option maxHeartbeats 4000000 in
set_option maxRecDepth 100000 in
theorem c_cL2 (l : Launch) (D : va_G) (cI cZ cB cJ : ClassId) (ak kv : Nat) (fo : Option Nat) : CtIS ak kv fo l D (TT cI cZ cB cJ) yJ1_charAt_3b067 cJ1_charAt_3b067 2 (some .char) 2 43 0 0 [.ref kv, .int 2] [] (fun r w1 => r = 116 ∧ w1 = []) := by
  refine CtIS.of (by decide +kernel) (Nat.le_of_ble_eq_true rfl) ?_
  intro p e s m below meth c A ls hSX hx hb hr hml hown hts hnw hlocks hin hA hS hP hK hD hl
  have hown : s.vm.findClass RJ1 = some m.cls := hown
  refine lv_iload_n hx hb dJ1_charAt_3b067_0 rfl (lv_at hl 1 rfl) ?_
  refine lv_aload_n hx hb dJ1_charAt_3b067_1 rfl (lv_at hl 0 rfl) ?_
  refine va_tlen (v := 3) hx hb hSX.2.2.2.2.1 hS (by decide +kernel) dJ1_charAt_3b067_2 ?_
  refine zSv (As := [.int 2, .int 3]) (rest := []) (wr := []) hSX hx hb hml hown hts hnw hK hP hD hS hA hl.1 (c_ck0 l D cI cZ cB cJ ak kv fo 2 (by decide +kernel) (by decide +kernel)) yk_J0_checkIndex_df160 wm_896 [] [] rfl rfl (by decide) (by decide) (by decide) rfl rfl dJ1_charAt_3b067_3 ⟨(Nat.le_of_ble_eq_true rfl), (Nat.le_of_ble_eq_true rfl)⟩ ⟨(Nat.le_of_ble_eq_true rfl), (Nat.le_of_ble_eq_true rfl)⟩ (Nat.le_of_ble_eq_true rfl) (fun w1 H locs hq9 hP hD hS => ?_)
  obtain rfl := hq9
  have hP : va_P D vwCl [] H := hP
  have hD : va_D A [] := hD
  refine W.widen (k := 0) (n := 0) (Nat.le_of_ble_eq_true rfl) (Nat.le_of_ble_eq_true rfl) ?_
  refine lv_aload_n hx hb dJ1_charAt_3b067_6 rfl (lv_at hl 0 rfl) ?_
  refine lv_iload_n hx hb dJ1_charAt_3b067_7 rfl (lv_at hl 1 rfl) ?_
  refine va_tb (v := .int 116) hx hb hSX.2.2.2.2.1 hS (vpi (by decide +kernel)) rfl dJ1_charAt_3b067_8 ?_
  refine lv_sipush (v := 255) hx hb dJ1_charAt_3b067_9 (by decide +kernel) ?_
  refine lv_iand hx hb dJ1_charAt_3b067_12 ?_
  refine nrm (y := 116) (by decide +kernel) ?_
  refine lv_i2c (v := 116) hx hb dJ1_charAt_3b067_13 (by decide +kernel) ?_
  exact rtZ hx hb hr rfl hlocks hS hP hD ⟨rfl, rfl⟩ dJ1_charAt_3b067_14

set_option maxHeartbeats 4000000 in
set_option maxRecDepth 100000 in
theorem c_coder (l : Launch) (D : va_G) (cI cZ cB cJ : ClassId) (ak kv : Nat) (fo : Option Nat) : CtIS ak kv fo l D (TT cI cZ cB cJ) yJ0_coder_7d493 cJ0_coder_7d493 1 (some .byte) 0 0 0 0 [.ref ak] [] (fun r w1 => r = 0 ∧ w1 = []) := by
  refine CtIS.of (by decide +kernel) (Nat.le_of_ble_eq_true rfl) ?_
  intro p e s m below meth c A ls hSX hx hb hr hml hown hts hnw hlocks hin hA hS hP hK hD hl
  have hown : s.vm.findClass RJ0 = some m.cls := hown
  refine va_gets hx hb hSX.2.2.2.2.2.1 hS hown (hts _ wm_883) (fun _ h9 => h9) dJ0_coder_7d493_0 ?_
  refine lv_if_eq (tgt := 13) hx hb dJ0_coder_7d493_3 (by decide) (fun h9 => absurd h9 (by decide +kernel)) (fun _ => ?_)
  refine lv_aload_n hx hb dJ0_coder_7d493_6 rfl (lv_at hl 0 rfl) ?_
  refine vk_getf hx hb hSX.2.2.1 hS hown (hts _ wm_2104) (fun _ h9 => h9) dJ0_coder_7d493_7 ?_
  refine lv_goto (tgt := 14) hx hb dJ0_coder_7d493_10 (by decide) ?_
  exact rtZ hx hb hr rfl hlocks hS hP hD ⟨rfl, rfl⟩ dJ0_coder_7d493_14

set_option maxHeartbeats 4000000 in
set_option maxRecDepth 100000 in
theorem c_lat (l : Launch) (D : va_G) (cI cZ cB cJ : ClassId) (ak kv : Nat) (fo : Option Nat) : CtIS ak kv fo l D (TT cI cZ cB cJ) yJ0_isLatin1_aae02 cJ0_isLatin1_aae02 1 (some .boolean) 0 0 0 0 [.ref ak] [] (fun r w1 => r = 1 ∧ w1 = []) := by
  refine CtIS.of (by decide +kernel) (Nat.le_of_ble_eq_true rfl) ?_
  intro p e s m below meth c A ls hSX hx hb hr hml hown hts hnw hlocks hin hA hS hP hK hD hl
  have hown : s.vm.findClass RJ0 = some m.cls := hown
  refine va_gets hx hb hSX.2.2.2.2.2.1 hS hown (hts _ wm_883) (fun _ h9 => h9) dJ0_isLatin1_aae02_0 ?_
  refine lv_if_eq (tgt := 17) hx hb dJ0_isLatin1_aae02_3 (by decide) (fun h9 => absurd h9 (by decide +kernel)) (fun _ => ?_)
  refine lv_aload_n hx hb dJ0_isLatin1_aae02_6 rfl (lv_at hl 0 rfl) ?_
  refine vk_getf hx hb hSX.2.2.1 hS hown (hts _ wm_2104) (fun _ h9 => h9) dJ0_isLatin1_aae02_7 ?_
  refine lv_if_ne (tgt := 17) hx hb dJ0_isLatin1_aae02_10 (by decide) (fun h9 => absurd rfl h9) (fun _ => ?_)
  refine lv_iconst (v := 1) hx hb dJ0_isLatin1_aae02_13 (by decide +kernel) ?_
  refine lv_goto (tgt := 18) hx hb dJ0_isLatin1_aae02_14 (by decide) ?_
  exact rtZ hx hb hr rfl hlocks hS hP hD ⟨rfl, rfl⟩ dJ0_isLatin1_aae02_18

set_option maxHeartbeats 4000000 in
set_option maxRecDepth 100000 in
theorem c_length (l : Launch) (D : va_G) (cI cZ cB cJ : ClassId) (ak kv : Nat) (fo : Option Nat) : CtIS ak kv fo l D (TT cI cZ cB cJ) yJ0_length_8abf5 cJ0_length_8abf5 1 (some .int) 1 20 0 0 [.ref ak] [] (fun r w1 => r = 3 ∧ w1 = []) := by
  refine CtIS.of (by decide +kernel) (Nat.le_of_ble_eq_true rfl) ?_
  intro p e s m below meth c A ls hSX hx hb hr hml hown hts hnw hlocks hin hA hS hP hK hD hl
  have hown : s.vm.findClass RJ0 = some m.cls := hown
  refine lv_aload_n hx hb dJ0_length_8abf5_0 rfl (lv_at hl 0 rfl) ?_
  refine vk_getf hx hb hSX.2.2.2.1 hS hown (hts _ wm_2103) (fun _ h9 => h9) dJ0_length_8abf5_1 ?_
  refine va_tlen (v := 3) hx hb hSX.2.2.2.2.1 hS (by decide +kernel) dJ0_length_8abf5_4 ?_
  refine lv_aload_n hx hb dJ0_length_8abf5_5 rfl (lv_at hl 0 rfl) ?_
  refine zVi (As := []) (rest := [.int 3]) (wr := []) hSX hx hb hml hown hts hnw hK hP hD hS hA hl.1 (c_coder l D cI cZ cB cJ ak kv fo) yk_J0_coder_7d493 wm_879 [] [] rfl rfl (by decide) (by decide) (by decide) (hSX.recv hS) rfl rfl dJ0_length_8abf5_6 ⟨(Nat.le_of_ble_eq_true rfl), (Nat.le_of_ble_eq_true rfl)⟩ ⟨(Nat.le_of_ble_eq_true rfl), (Nat.le_of_ble_eq_true rfl)⟩ (Nat.le_of_ble_eq_true rfl) (fun r9 w1 H locs hq9 hP hD hS => ?_)
  obtain ⟨rfl, rfl⟩ := hq9
  have hP : va_P D vwCl [] H := hP
  have hD : va_D A [] := hD
  refine W.widen (k := 0) (n := 0) (Nat.le_of_ble_eq_true rfl) (Nat.le_of_ble_eq_true rfl) ?_
  refine lv_ishr hx hb dJ0_length_8abf5_9 ?_
  refine nrm (y := 3) (by decide +kernel) ?_
  exact rtI hx hb hr hlocks hS hP hD ⟨rfl, rfl⟩ dJ0_length_8abf5_10

set_option maxHeartbeats 4000000 in
set_option maxRecDepth 100000 in
theorem c_charAt0 (l : Launch) (D : va_G) (cI cZ cB cJ : ClassId) (ak kv : Nat) (fo : Option Nat) : CtIS ak kv fo l D (TT cI cZ cB cJ) yJ0_charAt_5068e cJ0_charAt_5068e 2 (some .char) 3 64 0 0 [.ref ak, .int 0] [] (fun r w1 => r = 105 ∧ w1 = []) := by
  refine CtIS.of (by decide +kernel) (Nat.le_of_ble_eq_true rfl) ?_
  intro p e s m below meth c A ls hSX hx hb hr hml hown hts hnw hlocks hin hA hS hP hK hD hl
  have hown : s.vm.findClass RJ0 = some m.cls := hown
  refine lv_aload_n hx hb dJ0_charAt_5068e_0 rfl (lv_at hl 0 rfl) ?_
  refine zVi (As := []) (rest := []) (wr := []) hSX hx hb hml hown hts hnw hK hP hD hS hA hl.1 (c_lat l D cI cZ cB cJ ak kv fo) yk_J0_isLatin1_aae02 wm_889 [] [] rfl rfl (by decide) (by decide) (by decide) (hSX.recv hS) rfl rfl dJ0_charAt_5068e_1 ⟨(Nat.le_of_ble_eq_true rfl), (Nat.le_of_ble_eq_true rfl)⟩ ⟨(Nat.le_of_ble_eq_true rfl), (Nat.le_of_ble_eq_true rfl)⟩ (Nat.le_of_ble_eq_true rfl) (fun r9 w1 H locs hq9 hP hD hS => ?_)
  obtain ⟨rfl, rfl⟩ := hq9
  have hP : va_P D vwCl [] H := hP
  have hD : va_D A [] := hD
  refine W.widen (k := 0) (n := 0) (Nat.le_of_ble_eq_true rfl) (Nat.le_of_ble_eq_true rfl) ?_
  refine lv_if_eq (tgt := 16) hx hb dJ0_charAt_5068e_4 (by decide) (fun h9 => absurd h9 (by decide +kernel)) (fun _ => ?_)
  refine lv_aload_n hx hb dJ0_charAt_5068e_7 rfl (lv_at hl 0 rfl) ?_
  refine vk_getf hx hb hSX.2.2.2.1 hS hown (hts _ wm_2103) (fun _ h9 => h9) dJ0_charAt_5068e_8 ?_
  refine lv_iload_n hx hb dJ0_charAt_5068e_11 rfl (lv_at hl 1 rfl) ?_
  refine zSi (As := [.ref kv, .int 0]) (rest := []) (wr := []) hSX hx hb hml hown hts hnw hK hP hD hS hA hl.1 (c_cL0 l D cI cZ cB cJ ak kv fo) yk_J1_charAt_3b067 wm_893 [] [] rfl rfl (by decide) (by decide) (by decide) rfl rfl dJ0_charAt_5068e_12 ⟨(Nat.le_of_ble_eq_true rfl), (Nat.le_of_ble_eq_true rfl)⟩ ⟨(Nat.le_of_ble_eq_true rfl), (Nat.le_of_ble_eq_true rfl)⟩ (Nat.le_of_ble_eq_true rfl) (fun r9 w1 H locs hq9 hP hD hS => ?_)
  obtain ⟨rfl, rfl⟩ := hq9
  have hP : va_P D vwCl [] H := hP
  have hD : va_D A [] := hD
  refine W.widen (k := 0) (n := 0) (Nat.le_of_ble_eq_true rfl) (Nat.le_of_ble_eq_true rfl) ?_
  exact rtZ hx hb hr rfl hlocks hS hP hD ⟨rfl, rfl⟩ dJ0_charAt_5068e_15

set_option maxHeartbeats 4000000 in
set_option maxRecDepth 100000 in
theorem c_charAt1 (l : Launch) (D : va_G) (cI cZ cB cJ : ClassId) (ak kv : Nat) (fo : Option Nat) : CtIS ak kv fo l D (TT cI cZ cB cJ) yJ0_charAt_5068e cJ0_charAt_5068e 2 (some .char) 3 64 0 0 [.ref ak, .int 1] [] (fun r w1 => r = 110 ∧ w1 = []) := by
  refine CtIS.of (by decide +kernel) (Nat.le_of_ble_eq_true rfl) ?_
  intro p e s m below meth c A ls hSX hx hb hr hml hown hts hnw hlocks hin hA hS hP hK hD hl
  have hown : s.vm.findClass RJ0 = some m.cls := hown
  refine lv_aload_n hx hb dJ0_charAt_5068e_0 rfl (lv_at hl 0 rfl) ?_
  refine zVi (As := []) (rest := []) (wr := []) hSX hx hb hml hown hts hnw hK hP hD hS hA hl.1 (c_lat l D cI cZ cB cJ ak kv fo) yk_J0_isLatin1_aae02 wm_889 [] [] rfl rfl (by decide) (by decide) (by decide) (hSX.recv hS) rfl rfl dJ0_charAt_5068e_1 ⟨(Nat.le_of_ble_eq_true rfl), (Nat.le_of_ble_eq_true rfl)⟩ ⟨(Nat.le_of_ble_eq_true rfl), (Nat.le_of_ble_eq_true rfl)⟩ (Nat.le_of_ble_eq_true rfl) (fun r9 w1 H locs hq9 hP hD hS => ?_)
  obtain ⟨rfl, rfl⟩ := hq9
  have hP : va_P D vwCl [] H := hP
  have hD : va_D A [] := hD
  refine W.widen (k := 0) (n := 0) (Nat.le_of_ble_eq_true rfl) (Nat.le_of_ble_eq_true rfl) ?_
  refine lv_if_eq (tgt := 16) hx hb dJ0_charAt_5068e_4 (by decide) (fun h9 => absurd h9 (by decide +kernel)) (fun _ => ?_)
  refine lv_aload_n hx hb dJ0_charAt_5068e_7 rfl (lv_at hl 0 rfl) ?_
  refine vk_getf hx hb hSX.2.2.2.1 hS hown (hts _ wm_2103) (fun _ h9 => h9) dJ0_charAt_5068e_8 ?_
  refine lv_iload_n hx hb dJ0_charAt_5068e_11 rfl (lv_at hl 1 rfl) ?_
  refine zSi (As := [.ref kv, .int 1]) (rest := []) (wr := []) hSX hx hb hml hown hts hnw hK hP hD hS hA hl.1 (c_cL1 l D cI cZ cB cJ ak kv fo) yk_J1_charAt_3b067 wm_893 [] [] rfl rfl (by decide) (by decide) (by decide) rfl rfl dJ0_charAt_5068e_12 ⟨(Nat.le_of_ble_eq_true rfl), (Nat.le_of_ble_eq_true rfl)⟩ ⟨(Nat.le_of_ble_eq_true rfl), (Nat.le_of_ble_eq_true rfl)⟩ (Nat.le_of_ble_eq_true rfl) (fun r9 w1 H locs hq9 hP hD hS => ?_)
  obtain ⟨rfl, rfl⟩ := hq9
  have hP : va_P D vwCl [] H := hP
  have hD : va_D A [] := hD
  refine W.widen (k := 0) (n := 0) (Nat.le_of_ble_eq_true rfl) (Nat.le_of_ble_eq_true rfl) ?_
  exact rtZ hx hb hr rfl hlocks hS hP hD ⟨rfl, rfl⟩ dJ0_charAt_5068e_15

set_option maxHeartbeats 4000000 in
set_option maxRecDepth 100000 in
theorem c_charAt2 (l : Launch) (D : va_G) (cI cZ cB cJ : ClassId) (ak kv : Nat) (fo : Option Nat) : CtIS ak kv fo l D (TT cI cZ cB cJ) yJ0_charAt_5068e cJ0_charAt_5068e 2 (some .char) 3 64 0 0 [.ref ak, .int 2] [] (fun r w1 => r = 116 ∧ w1 = []) := by
  refine CtIS.of (by decide +kernel) (Nat.le_of_ble_eq_true rfl) ?_
  intro p e s m below meth c A ls hSX hx hb hr hml hown hts hnw hlocks hin hA hS hP hK hD hl
  have hown : s.vm.findClass RJ0 = some m.cls := hown
  refine lv_aload_n hx hb dJ0_charAt_5068e_0 rfl (lv_at hl 0 rfl) ?_
  refine zVi (As := []) (rest := []) (wr := []) hSX hx hb hml hown hts hnw hK hP hD hS hA hl.1 (c_lat l D cI cZ cB cJ ak kv fo) yk_J0_isLatin1_aae02 wm_889 [] [] rfl rfl (by decide) (by decide) (by decide) (hSX.recv hS) rfl rfl dJ0_charAt_5068e_1 ⟨(Nat.le_of_ble_eq_true rfl), (Nat.le_of_ble_eq_true rfl)⟩ ⟨(Nat.le_of_ble_eq_true rfl), (Nat.le_of_ble_eq_true rfl)⟩ (Nat.le_of_ble_eq_true rfl) (fun r9 w1 H locs hq9 hP hD hS => ?_)
  obtain ⟨rfl, rfl⟩ := hq9
  have hP : va_P D vwCl [] H := hP
  have hD : va_D A [] := hD
  refine W.widen (k := 0) (n := 0) (Nat.le_of_ble_eq_true rfl) (Nat.le_of_ble_eq_true rfl) ?_
  refine lv_if_eq (tgt := 16) hx hb dJ0_charAt_5068e_4 (by decide) (fun h9 => absurd h9 (by decide +kernel)) (fun _ => ?_)
  refine lv_aload_n hx hb dJ0_charAt_5068e_7 rfl (lv_at hl 0 rfl) ?_
  refine vk_getf hx hb hSX.2.2.2.1 hS hown (hts _ wm_2103) (fun _ h9 => h9) dJ0_charAt_5068e_8 ?_
  refine lv_iload_n hx hb dJ0_charAt_5068e_11 rfl (lv_at hl 1 rfl) ?_
  refine zSi (As := [.ref kv, .int 2]) (rest := []) (wr := []) hSX hx hb hml hown hts hnw hK hP hD hS hA hl.1 (c_cL2 l D cI cZ cB cJ ak kv fo) yk_J1_charAt_3b067 wm_893 [] [] rfl rfl (by decide) (by decide) (by decide) rfl rfl dJ0_charAt_5068e_12 ⟨(Nat.le_of_ble_eq_true rfl), (Nat.le_of_ble_eq_true rfl)⟩ ⟨(Nat.le_of_ble_eq_true rfl), (Nat.le_of_ble_eq_true rfl)⟩ (Nat.le_of_ble_eq_true rfl) (fun r9 w1 H locs hq9 hP hD hS => ?_)
  obtain ⟨rfl, rfl⟩ := hq9
  have hP : va_P D vwCl [] H := hP
  have hD : va_D A [] := hD
  refine W.widen (k := 0) (n := 0) (Nat.le_of_ble_eq_true rfl) (Nat.le_of_ble_eq_true rfl) ?_
  exact rtZ hx hb hr rfl hlocks hS hP hD ⟨rfl, rfl⟩ dJ0_charAt_5068e_15
