theorem arr_known {ty : FieldType} {args : Array Value} {s : State} (h : (Cond.arrayClass ty).before args s = true) (hra : ∀ (U : State) (c1 : ClassId), va_RA U c1 ty = (U.vm.findClass ("[" ++ ty.toString) = some c1) := by exact fun _ _ => rfl) : ∃ cA : ClassId, ArrOfT s cA ty ∧ va_RA s cA ty := by
  obtain ⟨cA, kA, comp, h1, h2, h3⟩ := Cond.arrayClass_spec h
  exact ⟨cA, fun n z => ⟨fun k h => (by cases h), kA, h2, comp, h3⟩, by rw [hra]; exact h1⟩
set_option maxHeartbeats 4000000 in
set_option maxRecDepth 100000 in
theorem sx_start {s : State} {b : Nat} (hts0 : ∀ w ∈ lw_tbl, w.before #[Value.ref b] s = true) (hgv : (Jvm.Cond.and given_1 narrow_1).before #[Value.ref b] s = true) : ∃ (ak kv : Nat) (fo : Option Nat), SX ak kv fo (fun q : Nat => s.heap.size ≤ q) s s.heap := by
  have hs := flat_of_before _ hgv
  have hA : ∀ a : Nat, a < s.heap.size → ¬ (fun q : Nat => s.heap.size ≤ q) a := fun a h => Nat.not_le.mpr h
  obtain ⟨adK, adV, hSk, hev⟩ := vk_Sof (args := #[Value.ref b]) (s := s) (N := 1) (tm := fun _ => .string "GradualCheck$Writer" 34) (len := [3]) (byt := [[105, 110, 116]]) (A := fun q : Nat => s.heap.size ≤ q)
    (fun i hi => by obtain rfl : i = 0 := by omega
                    decide)
    (fun i hi => by show (Cond.exactly (.string "GradualCheck$Writer" 34) "java/lang/String").before #[Value.ref b] s = true; exact hs _ (by decide +kernel))
    (fun i hi => by show (Cond.eq (.field (.string "GradualCheck$Writer" 34) "java/lang/String" "coder" "B") (.int 0)).before #[Value.ref b] s = true; exact hs _ (by decide +kernel))
    (fun i hi => by show (Cond.arrayOf (.field (.string "GradualCheck$Writer" 34) "java/lang/String" "value" "[B") .byte).before #[Value.ref b] s = true; exact hs _ (by decide +kernel))
    (fun i hi => by
      obtain rfl : i = 0 := by omega
      show (Cond.eq (.length (.field (.string "GradualCheck$Writer" 34) "java/lang/String" "value" "[B")) (.int 3)).before #[Value.ref b] s = true
      exact hs _ (by decide +kernel))
    (fun i hi j hj => by
      obtain rfl : i = 0 := by omega
      have hj3 : j < 3 := hj
      have hc : j = 0 ∨ j = 1 ∨ j = 2 := by omega
      rcases hc with rfl | rfl | rfl
      · show (Cond.eq (.elem (.field (.string "GradualCheck$Writer" 34) "java/lang/String" "value" "[B") (.int 0)) (.int 105)).before #[Value.ref b] s = true
        exact hs _ (by decide +kernel)
      · show (Cond.eq (.elem (.field (.string "GradualCheck$Writer" 34) "java/lang/String" "value" "[B") (.int 1)) (.int 110)).before #[Value.ref b] s = true
        exact hs _ (by decide +kernel)
      · show (Cond.eq (.elem (.field (.string "GradualCheck$Writer" 34) "java/lang/String" "value" "[B") (.int 2)) (.int 116)).before #[Value.ref b] s = true
        exact hs _ (by decide +kernel))
    (fun i j hi hj hn => absurd (show i = j by omega) hn) hA
  obtain ⟨h1, h2, h3, h4⟩ := hSk.1 0 (by omega)
  have hZ : va_Z "java/lang/String" "COMPACT_STRINGS" "Z" (.int 1) (fun q : Nat => s.heap.size ≤ q) s s.heap := va_Zof (hts0 (.laysStatic "java/lang/String" "COMPACT_STRINGS" "Z") (List.mem_append_right _ (List.mem_of_getElem? (i := 884) (by decide +kernel)))) (hts0 (.initialized "java/lang/String") (List.mem_append_right _ (List.mem_of_getElem? (i := 17) (by decide +kernel)))) (va_eqt (hs (Cond.eq (.static "java/lang/String" "COMPACT_STRINGS" "Z") (.int 1)) (by decide +kernel))) hA
  have hq : va_Zq "jdk/internal/util/Preconditions" "SIOOBE_FORMATTER" "Ljava/util/function/BiFunction;" (fun q : Nat => s.heap.size ≤ q) s s.heap := va_Zqof (hts0 (.laysStatic "jdk/internal/util/Preconditions" "SIOOBE_FORMATTER" "Ljava/util/function/BiFunction;") (List.mem_append_right _ (List.mem_of_getElem? (i := 900) (by decide +kernel)))) (hts0 (.initialized "jdk/internal/util/Preconditions") (List.mem_append_right _ (List.mem_of_getElem? (i := 19) (by decide +kernel)))) (hs (Cond.isRef (.static "jdk/internal/util/Preconditions" "SIOOBE_FORMATTER" "Ljava/util/function/BiFunction;")) (by decide +kernel)) hA
  have hR : vk_R RX10 34 "int" (adK 0) s := vk_R.of (A := #[Value.ref b]) (hts0 (.stringRef "GradualCheck$Writer" 34 "int") (List.mem_append_right _ (List.mem_of_getElem? (i := 870) (by decide +kernel)))) (hev 0 (by omega))
  rcases hq with hq | ⟨t, hq⟩
  · exact ⟨adK 0, adV 0, none, hR, h1, h2, h3, h4, hZ, hq⟩
  · exact ⟨adK 0, adV 0, some t, hR, h1, h2, h3, h4, hZ, hq⟩
