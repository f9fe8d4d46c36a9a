theorem i32_lo (x : Int32) : (-2147483648 : Int) ≤ x.toInt := Int32.le_toInt x
theorem i32_hi (x : Int32) : x.toInt ≤ (2147483647 : Int) := by have h := Int32.toInt_lt x; omega
theorem pt {x c : Int32} {k : Int} (hc : c.toInt = k) (h1 : k ≤ x.toInt) (h2 : x.toInt ≤ k) : x = c := Int32.toInt_inj.mp (by rw [hc]; omega)
abbrev WX (cI cZ cB cJ : ClassId) (h0 h1 h2 h3 h4 h5 h6 h7 h8 h9 h10 h11 h12 h13 h14 h15 h16 h17 h18 h19 h20 h21 h22 h23 h24 h25 h26 h27 h28 h29 h30 h31 h32 h33 g0 g1 g2 g3 g4 g5 g6 g7 g8 g9 g10 g11 g12 g13 g14 g15 g16 g17 g18 g19 : Nat) (f0 : Nat → Int32) : va_W := [(h0, .inr (11, [.ref h1, .int 0, .ref g0, .ref g1, .ref h2, .ref g2, .ref h21, .ref h24, .ref h25, .ref h32, .ref h33])), (h1, .inl (cI, 300, .inl f0)), (h2, .inr (1, [.ref h3, .ref h10, .ref h14, .ref h17, .ref h18, .ref h19, .ref h20, .int 4, .int 3, .int 0, .int (-1), .int 0])), (h3, .inr (7, [.ref h4, .ref h5, .ref g3, .ref h6, .ref g4, .ref h7, .ref h8, .ref h9, .ref g5, .int 1, .int 1, .int 0])), (h4, .inl (cI, 60, .inl (fun _ => 0))), (h5, .inl (cI, 60, .inl (upd (fun _ => 0) 0 (-1)))), (h6, .inl (cI, 60, .inl (fun _ => 0))), (h7, .inl (cI, 60, .inl (upd (fun _ => 0) 0 1))), (h8, .inl (cI, 180, .inl (fun _ => (-1)))), (h9, .inl (cI, 60, .inl (fun _ => 0))), (h10, .inr (9, [.ref h11, .ref h12])), (h11, .inr (4, [.ref h12, .ref g6])), (h12, .inr (6, [.ref h13, .int 4])), (h13, .inl (cI, 144, .inl (upd (upd (upd (upd (upd (upd (upd (upd (upd (upd (upd (upd (upd (upd (upd (upd (upd (upd (upd (upd (upd (fun _ => 0) 1 (-1)) 2 (-1)) 3 1) 4 1) 5 (-1)) 6 1) 7 (-1)) 8 (-1)) 9 1) 10 1) 11 (-1)) 12 2) 13 (-1)) 14 (-1)) 15 1) 16 1) 17 (-1)) 18 4) 21 3) 22 2) 23 (-1)))), (h14, .inr (2, [.ref h15, .ref h16])), (h15, .inr (4, [.ref h16, .ref g7])), (h16, .inr (6, [.ref g8, .int 3])), (h17, .inr (6, [.ref g9, .int 0])), (h18, .inl (cI, 60, .inl (upd (fun _ => 0) 0 1))), (h19, .inl (cI, 60, .inl (fun _ => (-1)))), (h20, .inl (cZ, 60, .inl (upd (fun _ => 0) 0 1))), (h21, .inr (3, [.ref h22, .ref h23, .ref h2, .int (-1), .int 0, .int 0, .int 0, .int 0, .int 0, .int 0, .int 0, .int 0, .int 0, .int 0, .int 0, .int 0, .int 0, .int 0, .int 0])), (h22, .inr (6, [.ref g10, .int 0])), (h23, .inr (6, [.ref g11, .int 0])), (h24, .inr (10, [.int 0, .int 0, .int 0])), (h25, .inr (0, [.ref h26, .ref h29, .ref g12, .ref g13, .ref g14, .ref g15, .int 0, .int 0])), (h26, .inr (9, [.ref h27, .ref h28])), (h27, .inr (4, [.ref h28, .ref g16])), (h28, .inr (6, [.ref g17, .int 4])), (h29, .inr (2, [.ref h30, .ref h31])), (h30, .inr (4, [.ref h31, .ref g18])), (h31, .inr (6, [.ref g19, .int 3])), (h32, .inl (cI, 7, .inl (fun _ => 0))), (h33, .inl (cI, 32, .inl (fun _ => 0)))]
abbrev WM (cI cZ cB cJ : ClassId) (h0 h1 h2 h3 h4 h5 h6 h7 h8 h9 h10 h11 h12 h13 h14 h15 h16 h17 h18 h19 h20 h21 h22 h23 h24 g0 g1 g2 g3 g4 g5 g6 g7 g8 g9 g10 g11 g12 g13 g14 g15 g16 g17 g18 g19 g20 g21 g22 g23 g24 g25 g26 g27 g28 g29 g30 g31 g32 g33 g34 g35 g36 g37 g38 g39 g40 g41 g42 g43 g44 g45 : Nat) (f0 : Nat → Int32) : va_W := [(h0, .inr (12, [.ref h1, .ref h2, .ref h3, .ref h4, .ref h5, .int 4, .ref g0, .ref g1, .ref g2, .ref g3, .ref h6, .int 0, .ref g4, .ref g5, .ref g6, .ref g7, .ref g8, .ref g9, .ref g10, .ref g11, .int 0, .ref g12, .int 0, .ref h7, .int 0, .int 0, .int 0, .int 0, .int 0, .int 0, .int 0, .int 0, .long 0, .ref h8, .ref h9, .ref h10, .ref h11, .ref h12, .ref g13, .ref h13, .ref g14, .ref h14, .ref h15, .ref g15, .int 0, .int 1, .int 0, .ref g16, .ref g17, .int 0, .ref g18, .ref g19, .ref g20, .ref g21, .int 0, .ref g22, .int 0, .ref h16, .ref h17, .ref g23, .ref g24, .ref g25, .ref g26, .ref g27, .ref h18, .ref h19, .ref h20, .int 0, .int 0, .int 4, .ref g28, .ref g29, .ref g30, .ref g31, .ref g32, .ref g33, .ref g34, .ref g35, .ref g36, .ref g37, .ref g38, .ref g39, .ref g40, .int 0, .int 0, .int 0, .int 0, .int 0, .int 0, .int 0, .int 0, .int 0, .int 0, .int 0, .int 0, .int 0, .int 0, .int 0, .int 0, .int 0, .int 0, .int 0, .int 0, .ref h21, .ref h22, .int 0, .ref g41, .ref g42, .ref g43, .ref g44, .int 0, .int 0, .ref g45, .ref h23, .int 0, .ref h24, .int 0, .int 0])), (h1, .inl (cI, 3000, .inl (fun _ => 0))), (h2, .inl (cI, 3000, .inl (fun _ => 0))), (h3, .inl (cI, 3000, .inl (upd (upd (upd (upd (fun _ => 0) 0 1) 1 1) 2 1) 3 2))), (h4, .inl (cI, 3000, .inl (upd (upd (upd (upd (fun _ => 0) 0 1) 1 1) 2 1) 3 3))), (h5, .inl (cZ, 3000, .inl (upd (upd (fun _ => 0) 0 1) 3 1))), (h6, .inl (cI, 1200, .inl (fun _ => 0))), (h7, .inl (cB, 300, .inl f0)), (h8, .inl (cI, 120, .inl (fun _ => 0))), (h9, .inl (cI, 120, .inl (fun _ => 0))), (h10, .inl (cI, 120, .inl (upd (fun _ => 0) 0 (-2)))), (h11, .inl (cI, 120, .inl (fun _ => 0))), (h12, .inl (cI, 120, .inl (fun _ => 0))), (h13, .inl (cI, 120, .inl (fun _ => 0))), (h14, .inl (cI, 2, .inl (upd (fun _ => 0) 0 1))), (h15, .inl (cI, 2, .inl (fun _ => 0))), (h16, .inl (cI, 60, .inl (upd (fun _ => 0) 0 1))), (h17, .inl (cI, 60, .inl (fun _ => (-1)))), (h18, .inl (cI, 60, .inl (fun _ => 0))), (h19, .inl (cI, 60, .inl (upd (fun _ => 0) 0 1))), (h20, .inl (cZ, 60, .inl (upd (fun _ => 0) 0 1))), (h21, .inl (cI, 16, .inl (fun _ => 0))), (h22, .inl (cI, 16, .inl (fun _ => 0))), (h23, .inl (cB, 3000, .inl (fun _ => 0))), (h24, .inl (cI, 400, .inl (fun _ => 0)))]
set_option maxHeartbeats 4000000 in
set_option maxRecDepth 100000 in
theorem both_feed (l : Launch) (D : va_G) (cI cZ cB cJ : ClassId) (a0 a1 a2 a3 a4 a5 a6 a7 a8 a9 a10 a11 a12 a13 a14 a15 a16 a17 a18 a19 a20 a21 a22 a23 a24 a25 a26 a27 a28 a29 a30 a31 a32 a33 b0 b1 b2 b3 b4 b5 b6 b7 b8 b9 b10 b11 b12 b13 b14 b15 b16 b17 b18 b19 c0 c1 c2 c3 c4 c5 c6 c7 c8 c9 c10 c11 c12 c13 c14 c15 c16 c17 c18 c19 c20 c21 c22 c23 c24 d0 d1 d2 d3 d4 d5 d6 d7 d8 d9 d10 d11 d12 d13 d14 d15 d16 d17 d18 d19 d20 d21 d22 d23 d24 d25 d26 d27 d28 d29 d30 d31 d32 d33 d34 d35 d36 d37 d38 d39 d40 d41 d42 d43 d44 d45 : Nat) (fx fm : Nat → Int32) (v0 v1 v2 v3 v4 : Int32) : ∃ r0 : Int32, CtI l D (TT cI cZ cB cJ) yX11_feed cX11_feed 6 (some .int) 2 44 0 0 [.ref a0, .int v0, .int v1, .int v2, .int v3, .int v4] (WX cI cZ cB cJ a0 a1 a2 a3 a4 a5 a6 a7 a8 a9 a10 a11 a12 a13 a14 a15 a16 a17 a18 a19 a20 a21 a22 a23 a24 a25 a26 a27 a28 a29 a30 a31 a32 a33 b0 b1 b2 b3 b4 b5 b6 b7 b8 b9 b10 b11 b12 b13 b14 b15 b16 b17 b18 b19 fx) (fun r w1 => r = r0 ∧ w1 = []) ∧ CtI l D (TT cI cZ cB cJ) yX12_feed cX12_feed 6 (some .int) 1 22 0 0 [.ref c0, .int v0, .int v1, .int v2, .int v3, .int v4] (WM cI cZ cB cJ c0 c1 c2 c3 c4 c5 c6 c7 c8 c9 c10 c11 c12 c13 c14 c15 c16 c17 c18 c19 c20 c21 c22 c23 c24 d0 d1 d2 d3 d4 d5 d6 d7 d8 d9 d10 d11 d12 d13 d14 d15 d16 d17 d18 d19 d20 d21 d22 d23 d24 d25 d26 d27 d28 d29 d30 d31 d32 d33 d34 d35 d36 d37 d38 d39 d40 d41 d42 d43 d44 d45 fm) (fun r w1 => r = r0 ∧ w1 = []) := by
  have l0_0 : (-2147483648 : Int) ≤ v0.toInt := i32_lo v0
  have u0 : v0.toInt ≤ (2147483647 : Int) := i32_hi v0
  have l1_0 : (-2147483648 : Int) ≤ v1.toInt := i32_lo v1
  have u1 : v1.toInt ≤ (2147483647 : Int) := i32_hi v1
  have l2_0 : (-2147483648 : Int) ≤ v2.toInt := i32_lo v2
  have u2 : v2.toInt ≤ (2147483647 : Int) := i32_hi v2
  have l3_0 : (-2147483648 : Int) ≤ v3.toInt := i32_lo v3
  have u3 : v3.toInt ≤ (2147483647 : Int) := i32_hi v3
  have l4_0 : (-2147483648 : Int) ≤ v4.toInt := i32_lo v4
  have u4 : v4.toInt ≤ (2147483647 : Int) := i32_hi v4
  exact ⟨20, (c_X11_feed_0 l D cI cZ cB cJ a0 a1 a2 a3 a4 a5 a6 a7 a8 a9 a10 a11 a12 a13 a14 a15 a16 a17 a18 a19 a20 a21 a22 a23 a24 a25 a26 a27 a28 a29 a30 a31 a32 a33 b0 b1 b2 b3 b4 b5 b6 b7 b8 b9 b10 b11 b12 b13 b14 b15 b16 b17 b18 b19 fx v0 v1 v2 v3 v4), (c_X12_feed_0 l D cI cZ cB cJ c0 c1 c2 c3 c4 c5 c6 c7 c8 c9 c10 c11 c12 c13 c14 c15 c16 c17 c18 c19 c20 c21 c22 c23 c24 d0 d1 d2 d3 d4 d5 d6 d7 d8 d9 d10 d11 d12 d13 d14 d15 d16 d17 d18 d19 d20 d21 d22 d23 d24 d25 d26 d27 d28 d29 d30 d31 d32 d33 d34 d35 d36 d37 d38 d39 d40 d41 d42 d43 d44 d45 fm v0 v1 v2 v3 v4)⟩
set_option maxHeartbeats 4000000 in
set_option maxRecDepth 100000 in
theorem both_program (l : Launch) (D : va_G) (cI cZ cB cJ : ClassId) (a0 a1 a2 a3 a4 a5 a6 a7 a8 a9 a10 a11 a12 a13 a14 a15 a16 a17 a18 a19 a20 a21 a22 a23 a24 a25 a26 a27 a28 a29 a30 a31 a32 a33 b0 b1 b2 b3 b4 b5 b6 b7 b8 b9 b10 b11 b12 b13 b14 b15 b16 b17 b18 b19 c0 c1 c2 c3 c4 c5 c6 c7 c8 c9 c10 c11 c12 c13 c14 c15 c16 c17 c18 c19 c20 c21 c22 c23 c24 d0 d1 d2 d3 d4 d5 d6 d7 d8 d9 d10 d11 d12 d13 d14 d15 d16 d17 d18 d19 d20 d21 d22 d23 d24 d25 d26 d27 d28 d29 d30 d31 d32 d33 d34 d35 d36 d37 d38 d39 d40 d41 d42 d43 d44 d45 : Nat) (fx fm : Nat → Int32) (v0 : Int32) : ∃ r0 : Int32, CtI l D (TT cI cZ cB cJ) yX11_program cX11_program 5 (some .int) 0 0 0 0 [.ref a0, .int v0] (WX cI cZ cB cJ a0 a1 a2 a3 a4 a5 a6 a7 a8 a9 a10 a11 a12 a13 a14 a15 a16 a17 a18 a19 a20 a21 a22 a23 a24 a25 a26 a27 a28 a29 a30 a31 a32 a33 b0 b1 b2 b3 b4 b5 b6 b7 b8 b9 b10 b11 b12 b13 b14 b15 b16 b17 b18 b19 fx) (fun r w1 => r = r0 ∧ w1 = []) ∧ CtI l D (TT cI cZ cB cJ) yX12_program cX12_program 5 (some .int) 2 44 0 0 [.ref c0, .int v0] (WM cI cZ cB cJ c0 c1 c2 c3 c4 c5 c6 c7 c8 c9 c10 c11 c12 c13 c14 c15 c16 c17 c18 c19 c20 c21 c22 c23 c24 d0 d1 d2 d3 d4 d5 d6 d7 d8 d9 d10 d11 d12 d13 d14 d15 d16 d17 d18 d19 d20 d21 d22 d23 d24 d25 d26 d27 d28 d29 d30 d31 d32 d33 d34 d35 d36 d37 d38 d39 d40 d41 d42 d43 d44 d45 fm) (fun r w1 => r = r0 ∧ w1 = []) := by
  have l0_0 : (-2147483648 : Int) ≤ v0.toInt := i32_lo v0
  have u0 : v0.toInt ≤ (2147483647 : Int) := i32_hi v0
  by_cases k0_0 : v0.toInt ≤ (0 : Int)
  ·
    exact ⟨(-1), (c_X11_program_0 l D cI cZ cB cJ a0 a1 a2 a3 a4 a5 a6 a7 a8 a9 a10 a11 a12 a13 a14 a15 a16 a17 a18 a19 a20 a21 a22 a23 a24 a25 a26 a27 a28 a29 a30 a31 a32 a33 b0 b1 b2 b3 b4 b5 b6 b7 b8 b9 b10 b11 b12 b13 b14 b15 b16 b17 b18 b19 fx v0 l0_0 k0_0), (c_X12_program_0 l D cI cZ cB cJ c0 c1 c2 c3 c4 c5 c6 c7 c8 c9 c10 c11 c12 c13 c14 c15 c16 c17 c18 c19 c20 c21 c22 c23 c24 d0 d1 d2 d3 d4 d5 d6 d7 d8 d9 d10 d11 d12 d13 d14 d15 d16 d17 d18 d19 d20 d21 d22 d23 d24 d25 d26 d27 d28 d29 d30 d31 d32 d33 d34 d35 d36 d37 d38 d39 d40 d41 d42 d43 d44 d45 fm v0 l0_0 k0_0)⟩
  have l0_1 : (1 : Int) ≤ v0.toInt := by omega
  by_cases k0_1 : v0.toInt ≤ (240 : Int)
  ·
    exact ⟨(-1), (c_X11_program_1 l D cI cZ cB cJ a0 a1 a2 a3 a4 a5 a6 a7 a8 a9 a10 a11 a12 a13 a14 a15 a16 a17 a18 a19 a20 a21 a22 a23 a24 a25 a26 a27 a28 a29 a30 a31 a32 a33 b0 b1 b2 b3 b4 b5 b6 b7 b8 b9 b10 b11 b12 b13 b14 b15 b16 b17 b18 b19 fx v0 l0_1 k0_1), (c_X12_program_1 l D cI cZ cB cJ c0 c1 c2 c3 c4 c5 c6 c7 c8 c9 c10 c11 c12 c13 c14 c15 c16 c17 c18 c19 c20 c21 c22 c23 c24 d0 d1 d2 d3 d4 d5 d6 d7 d8 d9 d10 d11 d12 d13 d14 d15 d16 d17 d18 d19 d20 d21 d22 d23 d24 d25 d26 d27 d28 d29 d30 d31 d32 d33 d34 d35 d36 d37 d38 d39 d40 d41 d42 d43 d44 d45 fm v0 l0_1 k0_1)⟩
  have l0_2 : (241 : Int) ≤ v0.toInt := by omega
  exact ⟨(-1), (c_X11_program_2 l D cI cZ cB cJ a0 a1 a2 a3 a4 a5 a6 a7 a8 a9 a10 a11 a12 a13 a14 a15 a16 a17 a18 a19 a20 a21 a22 a23 a24 a25 a26 a27 a28 a29 a30 a31 a32 a33 b0 b1 b2 b3 b4 b5 b6 b7 b8 b9 b10 b11 b12 b13 b14 b15 b16 b17 b18 b19 fx v0 l0_2 u0), (c_X12_program_2 l D cI cZ cB cJ c0 c1 c2 c3 c4 c5 c6 c7 c8 c9 c10 c11 c12 c13 c14 c15 c16 c17 c18 c19 c20 c21 c22 c23 c24 d0 d1 d2 d3 d4 d5 d6 d7 d8 d9 d10 d11 d12 d13 d14 d15 d16 d17 d18 d19 d20 d21 d22 d23 d24 d25 d26 d27 d28 d29 d30 d31 d32 d33 d34 d35 d36 d37 d38 d39 d40 d41 d42 d43 d44 d45 fm v0 l0_2 u0)⟩
set_option maxHeartbeats 4000000 in
set_option maxRecDepth 100000 in
theorem both_type (l : Launch) (D : va_G) (cI cZ cB cJ : ClassId) (a0 a1 a2 a3 a4 a5 a6 a7 a8 a9 a10 a11 a12 a13 a14 a15 a16 a17 a18 a19 a20 a21 a22 a23 a24 a25 a26 a27 a28 a29 a30 a31 a32 a33 b0 b1 b2 b3 b4 b5 b6 b7 b8 b9 b10 b11 b12 b13 b14 b15 b16 b17 b18 b19 c0 c1 c2 c3 c4 c5 c6 c7 c8 c9 c10 c11 c12 c13 c14 c15 c16 c17 c18 c19 c20 c21 c22 c23 c24 d0 d1 d2 d3 d4 d5 d6 d7 d8 d9 d10 d11 d12 d13 d14 d15 d16 d17 d18 d19 d20 d21 d22 d23 d24 d25 d26 d27 d28 d29 d30 d31 d32 d33 d34 d35 d36 d37 d38 d39 d40 d41 d42 d43 d44 d45 : Nat) (fx fm : Nat → Int32) (v0 : Int32) : ∃ r0 : Int32, CtI l D (TT cI cZ cB cJ) yX11_type cX11_type 2 (some .int) 0 0 0 0 [.ref a0, .int v0] (WX cI cZ cB cJ a0 a1 a2 a3 a4 a5 a6 a7 a8 a9 a10 a11 a12 a13 a14 a15 a16 a17 a18 a19 a20 a21 a22 a23 a24 a25 a26 a27 a28 a29 a30 a31 a32 a33 b0 b1 b2 b3 b4 b5 b6 b7 b8 b9 b10 b11 b12 b13 b14 b15 b16 b17 b18 b19 fx) (fun r w1 => r = r0 ∧ w1 = []) ∧ CtI l D (TT cI cZ cB cJ) yX12_type cX12_type 3 (some .int) 2 44 0 0 [.ref c0, .int v0] (WM cI cZ cB cJ c0 c1 c2 c3 c4 c5 c6 c7 c8 c9 c10 c11 c12 c13 c14 c15 c16 c17 c18 c19 c20 c21 c22 c23 c24 d0 d1 d2 d3 d4 d5 d6 d7 d8 d9 d10 d11 d12 d13 d14 d15 d16 d17 d18 d19 d20 d21 d22 d23 d24 d25 d26 d27 d28 d29 d30 d31 d32 d33 d34 d35 d36 d37 d38 d39 d40 d41 d42 d43 d44 d45 fm) (fun r w1 => r = r0 ∧ w1 = []) := by
  have l0_0 : (-2147483648 : Int) ≤ v0.toInt := i32_lo v0
  have u0 : v0.toInt ≤ (2147483647 : Int) := i32_hi v0
  by_cases k0_0 : v0.toInt ≤ (0 : Int)
  ·
    exact ⟨(-1), (c_X11_type_0 l D cI cZ cB cJ a0 a1 a2 a3 a4 a5 a6 a7 a8 a9 a10 a11 a12 a13 a14 a15 a16 a17 a18 a19 a20 a21 a22 a23 a24 a25 a26 a27 a28 a29 a30 a31 a32 a33 b0 b1 b2 b3 b4 b5 b6 b7 b8 b9 b10 b11 b12 b13 b14 b15 b16 b17 b18 b19 fx v0 l0_0 k0_0), (c_X12_type_0 l D cI cZ cB cJ c0 c1 c2 c3 c4 c5 c6 c7 c8 c9 c10 c11 c12 c13 c14 c15 c16 c17 c18 c19 c20 c21 c22 c23 c24 d0 d1 d2 d3 d4 d5 d6 d7 d8 d9 d10 d11 d12 d13 d14 d15 d16 d17 d18 d19 d20 d21 d22 d23 d24 d25 d26 d27 d28 d29 d30 d31 d32 d33 d34 d35 d36 d37 d38 d39 d40 d41 d42 d43 d44 d45 fm v0 l0_0 k0_0)⟩
  have l0_1 : (1 : Int) ≤ v0.toInt := by omega
  by_cases k0_1 : v0.toInt ≤ (100 : Int)
  ·
    exact ⟨(-1), (c_X11_type_1 l D cI cZ cB cJ a0 a1 a2 a3 a4 a5 a6 a7 a8 a9 a10 a11 a12 a13 a14 a15 a16 a17 a18 a19 a20 a21 a22 a23 a24 a25 a26 a27 a28 a29 a30 a31 a32 a33 b0 b1 b2 b3 b4 b5 b6 b7 b8 b9 b10 b11 b12 b13 b14 b15 b16 b17 b18 b19 fx v0 l0_1 k0_1), (c_X12_type_1 l D cI cZ cB cJ c0 c1 c2 c3 c4 c5 c6 c7 c8 c9 c10 c11 c12 c13 c14 c15 c16 c17 c18 c19 c20 c21 c22 c23 c24 d0 d1 d2 d3 d4 d5 d6 d7 d8 d9 d10 d11 d12 d13 d14 d15 d16 d17 d18 d19 d20 d21 d22 d23 d24 d25 d26 d27 d28 d29 d30 d31 d32 d33 d34 d35 d36 d37 d38 d39 d40 d41 d42 d43 d44 d45 fm v0 l0_1 k0_1)⟩
  have l0_2 : (101 : Int) ≤ v0.toInt := by omega
  exact ⟨(-1), (c_X11_type_2 l D cI cZ cB cJ a0 a1 a2 a3 a4 a5 a6 a7 a8 a9 a10 a11 a12 a13 a14 a15 a16 a17 a18 a19 a20 a21 a22 a23 a24 a25 a26 a27 a28 a29 a30 a31 a32 a33 b0 b1 b2 b3 b4 b5 b6 b7 b8 b9 b10 b11 b12 b13 b14 b15 b16 b17 b18 b19 fx v0 l0_2 u0), (c_X12_type_2 l D cI cZ cB cJ c0 c1 c2 c3 c4 c5 c6 c7 c8 c9 c10 c11 c12 c13 c14 c15 c16 c17 c18 c19 c20 c21 c22 c23 c24 d0 d1 d2 d3 d4 d5 d6 d7 d8 d9 d10 d11 d12 d13 d14 d15 d16 d17 d18 d19 d20 d21 d22 d23 d24 d25 d26 d27 d28 d29 d30 d31 d32 d33 d34 d35 d36 d37 d38 d39 d40 d41 d42 d43 d44 d45 fm v0 l0_2 u0)⟩
set_option maxHeartbeats 4000000 in
set_option maxRecDepth 100000 in
theorem both_count (l : Launch) (D : va_G) (cI cZ cB cJ : ClassId) (a0 a1 a2 a3 a4 a5 a6 a7 a8 a9 a10 a11 a12 a13 a14 a15 a16 a17 a18 a19 a20 a21 a22 a23 a24 a25 a26 a27 a28 a29 a30 a31 a32 a33 b0 b1 b2 b3 b4 b5 b6 b7 b8 b9 b10 b11 b12 b13 b14 b15 b16 b17 b18 b19 c0 c1 c2 c3 c4 c5 c6 c7 c8 c9 c10 c11 c12 c13 c14 c15 c16 c17 c18 c19 c20 c21 c22 c23 c24 d0 d1 d2 d3 d4 d5 d6 d7 d8 d9 d10 d11 d12 d13 d14 d15 d16 d17 d18 d19 d20 d21 d22 d23 d24 d25 d26 d27 d28 d29 d30 d31 d32 d33 d34 d35 d36 d37 d38 d39 d40 d41 d42 d43 d44 d45 : Nat) (fx fm : Nat → Int32) (v0 : Int32) : ∃ r0 : Int32, CtI l D (TT cI cZ cB cJ) yX11_count cX11_count 2 (some .int) 2 43 0 0 [.ref a0, .int v0] (WX cI cZ cB cJ a0 a1 a2 a3 a4 a5 a6 a7 a8 a9 a10 a11 a12 a13 a14 a15 a16 a17 a18 a19 a20 a21 a22 a23 a24 a25 a26 a27 a28 a29 a30 a31 a32 a33 b0 b1 b2 b3 b4 b5 b6 b7 b8 b9 b10 b11 b12 b13 b14 b15 b16 b17 b18 b19 fx) (fun r w1 => r = r0 ∧ w1 = []) ∧ CtI l D (TT cI cZ cB cJ) yX12_count cX12_count 2 (some .int) 1 22 0 0 [.ref c0, .int v0] (WM cI cZ cB cJ c0 c1 c2 c3 c4 c5 c6 c7 c8 c9 c10 c11 c12 c13 c14 c15 c16 c17 c18 c19 c20 c21 c22 c23 c24 d0 d1 d2 d3 d4 d5 d6 d7 d8 d9 d10 d11 d12 d13 d14 d15 d16 d17 d18 d19 d20 d21 d22 d23 d24 d25 d26 d27 d28 d29 d30 d31 d32 d33 d34 d35 d36 d37 d38 d39 d40 d41 d42 d43 d44 d45 fm) (fun r w1 => r = r0 ∧ w1 = []) := by
  have l0_0 : (-2147483648 : Int) ≤ v0.toInt := i32_lo v0
  have u0 : v0.toInt ≤ (2147483647 : Int) := i32_hi v0
  by_cases k0_0 : v0.toInt ≤ ((-1) : Int)
  ·
    exact ⟨(-1), (c_X11_count_0 l D cI cZ cB cJ a0 a1 a2 a3 a4 a5 a6 a7 a8 a9 a10 a11 a12 a13 a14 a15 a16 a17 a18 a19 a20 a21 a22 a23 a24 a25 a26 a27 a28 a29 a30 a31 a32 a33 b0 b1 b2 b3 b4 b5 b6 b7 b8 b9 b10 b11 b12 b13 b14 b15 b16 b17 b18 b19 fx v0 l0_0 k0_0), (c_X12_count_0 l D cI cZ cB cJ c0 c1 c2 c3 c4 c5 c6 c7 c8 c9 c10 c11 c12 c13 c14 c15 c16 c17 c18 c19 c20 c21 c22 c23 c24 d0 d1 d2 d3 d4 d5 d6 d7 d8 d9 d10 d11 d12 d13 d14 d15 d16 d17 d18 d19 d20 d21 d22 d23 d24 d25 d26 d27 d28 d29 d30 d31 d32 d33 d34 d35 d36 d37 d38 d39 d40 d41 d42 d43 d44 d45 fm v0 l0_0 k0_0)⟩
  have l0_1 : (0 : Int) ≤ v0.toInt := by omega
  by_cases k0_1 : v0.toInt ≤ (0 : Int)
  ·
    obtain rfl : v0 = 0 := pt (by decide +kernel : (0 : Int32).toInt = (0 : Int)) l0_1 k0_1
    exact ⟨1, (c_X11_count_1 l D cI cZ cB cJ a0 a1 a2 a3 a4 a5 a6 a7 a8 a9 a10 a11 a12 a13 a14 a15 a16 a17 a18 a19 a20 a21 a22 a23 a24 a25 a26 a27 a28 a29 a30 a31 a32 a33 b0 b1 b2 b3 b4 b5 b6 b7 b8 b9 b10 b11 b12 b13 b14 b15 b16 b17 b18 b19 fx), (c_X12_count_1 l D cI cZ cB cJ c0 c1 c2 c3 c4 c5 c6 c7 c8 c9 c10 c11 c12 c13 c14 c15 c16 c17 c18 c19 c20 c21 c22 c23 c24 d0 d1 d2 d3 d4 d5 d6 d7 d8 d9 d10 d11 d12 d13 d14 d15 d16 d17 d18 d19 d20 d21 d22 d23 d24 d25 d26 d27 d28 d29 d30 d31 d32 d33 d34 d35 d36 d37 d38 d39 d40 d41 d42 d43 d44 d45 fm)⟩
  have l0_2 : (1 : Int) ≤ v0.toInt := by omega
  by_cases k0_2 : v0.toInt ≤ (1 : Int)
  ·
    obtain rfl : v0 = 1 := pt (by decide +kernel : (1 : Int32).toInt = (1 : Int)) l0_2 k0_2
    exact ⟨0, (c_X11_count_2 l D cI cZ cB cJ a0 a1 a2 a3 a4 a5 a6 a7 a8 a9 a10 a11 a12 a13 a14 a15 a16 a17 a18 a19 a20 a21 a22 a23 a24 a25 a26 a27 a28 a29 a30 a31 a32 a33 b0 b1 b2 b3 b4 b5 b6 b7 b8 b9 b10 b11 b12 b13 b14 b15 b16 b17 b18 b19 fx), (c_X12_count_2 l D cI cZ cB cJ c0 c1 c2 c3 c4 c5 c6 c7 c8 c9 c10 c11 c12 c13 c14 c15 c16 c17 c18 c19 c20 c21 c22 c23 c24 d0 d1 d2 d3 d4 d5 d6 d7 d8 d9 d10 d11 d12 d13 d14 d15 d16 d17 d18 d19 d20 d21 d22 d23 d24 d25 d26 d27 d28 d29 d30 d31 d32 d33 d34 d35 d36 d37 d38 d39 d40 d41 d42 d43 d44 d45 fm)⟩
  have l0_3 : (2 : Int) ≤ v0.toInt := by omega
  by_cases k0_3 : v0.toInt ≤ (2 : Int)
  ·
    obtain rfl : v0 = 2 := pt (by decide +kernel : (2 : Int32).toInt = (2 : Int)) l0_3 k0_3
    exact ⟨0, (c_X11_count_3 l D cI cZ cB cJ a0 a1 a2 a3 a4 a5 a6 a7 a8 a9 a10 a11 a12 a13 a14 a15 a16 a17 a18 a19 a20 a21 a22 a23 a24 a25 a26 a27 a28 a29 a30 a31 a32 a33 b0 b1 b2 b3 b4 b5 b6 b7 b8 b9 b10 b11 b12 b13 b14 b15 b16 b17 b18 b19 fx), (c_X12_count_3 l D cI cZ cB cJ c0 c1 c2 c3 c4 c5 c6 c7 c8 c9 c10 c11 c12 c13 c14 c15 c16 c17 c18 c19 c20 c21 c22 c23 c24 d0 d1 d2 d3 d4 d5 d6 d7 d8 d9 d10 d11 d12 d13 d14 d15 d16 d17 d18 d19 d20 d21 d22 d23 d24 d25 d26 d27 d28 d29 d30 d31 d32 d33 d34 d35 d36 d37 d38 d39 d40 d41 d42 d43 d44 d45 fm)⟩
  have l0_4 : (3 : Int) ≤ v0.toInt := by omega
  by_cases k0_4 : v0.toInt ≤ (3 : Int)
  ·
    obtain rfl : v0 = 3 := pt (by decide +kernel : (3 : Int32).toInt = (3 : Int)) l0_4 k0_4
    exact ⟨0, (c_X11_count_4 l D cI cZ cB cJ a0 a1 a2 a3 a4 a5 a6 a7 a8 a9 a10 a11 a12 a13 a14 a15 a16 a17 a18 a19 a20 a21 a22 a23 a24 a25 a26 a27 a28 a29 a30 a31 a32 a33 b0 b1 b2 b3 b4 b5 b6 b7 b8 b9 b10 b11 b12 b13 b14 b15 b16 b17 b18 b19 fx), (c_X12_count_4 l D cI cZ cB cJ c0 c1 c2 c3 c4 c5 c6 c7 c8 c9 c10 c11 c12 c13 c14 c15 c16 c17 c18 c19 c20 c21 c22 c23 c24 d0 d1 d2 d3 d4 d5 d6 d7 d8 d9 d10 d11 d12 d13 d14 d15 d16 d17 d18 d19 d20 d21 d22 d23 d24 d25 d26 d27 d28 d29 d30 d31 d32 d33 d34 d35 d36 d37 d38 d39 d40 d41 d42 d43 d44 d45 fm)⟩
  have l0_5 : (4 : Int) ≤ v0.toInt := by omega
  by_cases k0_5 : v0.toInt ≤ (4 : Int)
  ·
    obtain rfl : v0 = 4 := pt (by decide +kernel : (4 : Int32).toInt = (4 : Int)) l0_5 k0_5
    exact ⟨0, (c_X11_count_5 l D cI cZ cB cJ a0 a1 a2 a3 a4 a5 a6 a7 a8 a9 a10 a11 a12 a13 a14 a15 a16 a17 a18 a19 a20 a21 a22 a23 a24 a25 a26 a27 a28 a29 a30 a31 a32 a33 b0 b1 b2 b3 b4 b5 b6 b7 b8 b9 b10 b11 b12 b13 b14 b15 b16 b17 b18 b19 fx), (c_X12_count_5 l D cI cZ cB cJ c0 c1 c2 c3 c4 c5 c6 c7 c8 c9 c10 c11 c12 c13 c14 c15 c16 c17 c18 c19 c20 c21 c22 c23 c24 d0 d1 d2 d3 d4 d5 d6 d7 d8 d9 d10 d11 d12 d13 d14 d15 d16 d17 d18 d19 d20 d21 d22 d23 d24 d25 d26 d27 d28 d29 d30 d31 d32 d33 d34 d35 d36 d37 d38 d39 d40 d41 d42 d43 d44 d45 fm)⟩
  have l0_6 : (5 : Int) ≤ v0.toInt := by omega
  by_cases k0_6 : v0.toInt ≤ (5 : Int)
  ·
    obtain rfl : v0 = 5 := pt (by decide +kernel : (5 : Int32).toInt = (5 : Int)) l0_6 k0_6
    exact ⟨0, (c_X11_count_6 l D cI cZ cB cJ a0 a1 a2 a3 a4 a5 a6 a7 a8 a9 a10 a11 a12 a13 a14 a15 a16 a17 a18 a19 a20 a21 a22 a23 a24 a25 a26 a27 a28 a29 a30 a31 a32 a33 b0 b1 b2 b3 b4 b5 b6 b7 b8 b9 b10 b11 b12 b13 b14 b15 b16 b17 b18 b19 fx), (c_X12_count_6 l D cI cZ cB cJ c0 c1 c2 c3 c4 c5 c6 c7 c8 c9 c10 c11 c12 c13 c14 c15 c16 c17 c18 c19 c20 c21 c22 c23 c24 d0 d1 d2 d3 d4 d5 d6 d7 d8 d9 d10 d11 d12 d13 d14 d15 d16 d17 d18 d19 d20 d21 d22 d23 d24 d25 d26 d27 d28 d29 d30 d31 d32 d33 d34 d35 d36 d37 d38 d39 d40 d41 d42 d43 d44 d45 fm)⟩
  have l0_7 : (6 : Int) ≤ v0.toInt := by omega
  by_cases k0_7 : v0.toInt ≤ (6 : Int)
  ·
    obtain rfl : v0 = 6 := pt (by decide +kernel : (6 : Int32).toInt = (6 : Int)) l0_7 k0_7
    exact ⟨0, (c_X11_count_7 l D cI cZ cB cJ a0 a1 a2 a3 a4 a5 a6 a7 a8 a9 a10 a11 a12 a13 a14 a15 a16 a17 a18 a19 a20 a21 a22 a23 a24 a25 a26 a27 a28 a29 a30 a31 a32 a33 b0 b1 b2 b3 b4 b5 b6 b7 b8 b9 b10 b11 b12 b13 b14 b15 b16 b17 b18 b19 fx), (c_X12_count_7 l D cI cZ cB cJ c0 c1 c2 c3 c4 c5 c6 c7 c8 c9 c10 c11 c12 c13 c14 c15 c16 c17 c18 c19 c20 c21 c22 c23 c24 d0 d1 d2 d3 d4 d5 d6 d7 d8 d9 d10 d11 d12 d13 d14 d15 d16 d17 d18 d19 d20 d21 d22 d23 d24 d25 d26 d27 d28 d29 d30 d31 d32 d33 d34 d35 d36 d37 d38 d39 d40 d41 d42 d43 d44 d45 fm)⟩
  have l0_8 : (7 : Int) ≤ v0.toInt := by omega
  by_cases k0_8 : v0.toInt ≤ (7 : Int)
  ·
    obtain rfl : v0 = 7 := pt (by decide +kernel : (7 : Int32).toInt = (7 : Int)) l0_8 k0_8
    exact ⟨0, (c_X11_count_8 l D cI cZ cB cJ a0 a1 a2 a3 a4 a5 a6 a7 a8 a9 a10 a11 a12 a13 a14 a15 a16 a17 a18 a19 a20 a21 a22 a23 a24 a25 a26 a27 a28 a29 a30 a31 a32 a33 b0 b1 b2 b3 b4 b5 b6 b7 b8 b9 b10 b11 b12 b13 b14 b15 b16 b17 b18 b19 fx), (c_X12_count_8 l D cI cZ cB cJ c0 c1 c2 c3 c4 c5 c6 c7 c8 c9 c10 c11 c12 c13 c14 c15 c16 c17 c18 c19 c20 c21 c22 c23 c24 d0 d1 d2 d3 d4 d5 d6 d7 d8 d9 d10 d11 d12 d13 d14 d15 d16 d17 d18 d19 d20 d21 d22 d23 d24 d25 d26 d27 d28 d29 d30 d31 d32 d33 d34 d35 d36 d37 d38 d39 d40 d41 d42 d43 d44 d45 fm)⟩
  have l0_9 : (8 : Int) ≤ v0.toInt := by omega
  by_cases k0_9 : v0.toInt ≤ (8 : Int)
  ·
    obtain rfl : v0 = 8 := pt (by decide +kernel : (8 : Int32).toInt = (8 : Int)) l0_9 k0_9
    exact ⟨1, (c_X11_count_9 l D cI cZ cB cJ a0 a1 a2 a3 a4 a5 a6 a7 a8 a9 a10 a11 a12 a13 a14 a15 a16 a17 a18 a19 a20 a21 a22 a23 a24 a25 a26 a27 a28 a29 a30 a31 a32 a33 b0 b1 b2 b3 b4 b5 b6 b7 b8 b9 b10 b11 b12 b13 b14 b15 b16 b17 b18 b19 fx), (c_X12_count_9 l D cI cZ cB cJ c0 c1 c2 c3 c4 c5 c6 c7 c8 c9 c10 c11 c12 c13 c14 c15 c16 c17 c18 c19 c20 c21 c22 c23 c24 d0 d1 d2 d3 d4 d5 d6 d7 d8 d9 d10 d11 d12 d13 d14 d15 d16 d17 d18 d19 d20 d21 d22 d23 d24 d25 d26 d27 d28 d29 d30 d31 d32 d33 d34 d35 d36 d37 d38 d39 d40 d41 d42 d43 d44 d45 fm)⟩
  have l0_10 : (9 : Int) ≤ v0.toInt := by omega
  exact ⟨(-1), (c_X11_count_10 l D cI cZ cB cJ a0 a1 a2 a3 a4 a5 a6 a7 a8 a9 a10 a11 a12 a13 a14 a15 a16 a17 a18 a19 a20 a21 a22 a23 a24 a25 a26 a27 a28 a29 a30 a31 a32 a33 b0 b1 b2 b3 b4 b5 b6 b7 b8 b9 b10 b11 b12 b13 b14 b15 b16 b17 b18 b19 fx v0 l0_10 u0), (c_X12_count_10 l D cI cZ cB cJ c0 c1 c2 c3 c4 c5 c6 c7 c8 c9 c10 c11 c12 c13 c14 c15 c16 c17 c18 c19 c20 c21 c22 c23 c24 d0 d1 d2 d3 d4 d5 d6 d7 d8 d9 d10 d11 d12 d13 d14 d15 d16 d17 d18 d19 d20 d21 d22 d23 d24 d25 d26 d27 d28 d29 d30 d31 d32 d33 d34 d35 d36 d37 d38 d39 d40 d41 d42 d43 d44 d45 fm v0 l0_10 u0)⟩
set_option maxHeartbeats 4000000 in
set_option maxRecDepth 100000 in
theorem both_node (l : Launch) (D : va_G) (cI cZ cB cJ : ClassId) (a0 a1 a2 a3 a4 a5 a6 a7 a8 a9 a10 a11 a12 a13 a14 a15 a16 a17 a18 a19 a20 a21 a22 a23 a24 a25 a26 a27 a28 a29 a30 a31 a32 a33 b0 b1 b2 b3 b4 b5 b6 b7 b8 b9 b10 b11 b12 b13 b14 b15 b16 b17 b18 b19 c0 c1 c2 c3 c4 c5 c6 c7 c8 c9 c10 c11 c12 c13 c14 c15 c16 c17 c18 c19 c20 c21 c22 c23 c24 d0 d1 d2 d3 d4 d5 d6 d7 d8 d9 d10 d11 d12 d13 d14 d15 d16 d17 d18 d19 d20 d21 d22 d23 d24 d25 d26 d27 d28 d29 d30 d31 d32 d33 d34 d35 d36 d37 d38 d39 d40 d41 d42 d43 d44 d45 : Nat) (fx fm : Nat → Int32) (v0 v1 : Int32) : ∃ r0 : Int32, CtI l D (TT cI cZ cB cJ) yX11_node cX11_node 3 (some .int) 4 90 0 0 [.ref a0, .int v0, .int v1] (WX cI cZ cB cJ a0 a1 a2 a3 a4 a5 a6 a7 a8 a9 a10 a11 a12 a13 a14 a15 a16 a17 a18 a19 a20 a21 a22 a23 a24 a25 a26 a27 a28 a29 a30 a31 a32 a33 b0 b1 b2 b3 b4 b5 b6 b7 b8 b9 b10 b11 b12 b13 b14 b15 b16 b17 b18 b19 fx) (fun r w1 => r = r0 ∧ w1 = []) ∧ CtI l D (TT cI cZ cB cJ) yX12_node cX12_node 3 (some .int) 1 22 0 0 [.ref c0, .int v0, .int v1] (WM cI cZ cB cJ c0 c1 c2 c3 c4 c5 c6 c7 c8 c9 c10 c11 c12 c13 c14 c15 c16 c17 c18 c19 c20 c21 c22 c23 c24 d0 d1 d2 d3 d4 d5 d6 d7 d8 d9 d10 d11 d12 d13 d14 d15 d16 d17 d18 d19 d20 d21 d22 d23 d24 d25 d26 d27 d28 d29 d30 d31 d32 d33 d34 d35 d36 d37 d38 d39 d40 d41 d42 d43 d44 d45 fm) (fun r w1 => r = r0 ∧ w1 = []) := by
  have l0_0 : (-2147483648 : Int) ≤ v0.toInt := i32_lo v0
  have u0 : v0.toInt ≤ (2147483647 : Int) := i32_hi v0
  by_cases k0_0 : v0.toInt ≤ ((-1) : Int)
  ·
    have l1_0 : (-2147483648 : Int) ≤ v1.toInt := i32_lo v1
    have u1 : v1.toInt ≤ (2147483647 : Int) := i32_hi v1
    exact ⟨(-1), (c_X11_node_0 l D cI cZ cB cJ a0 a1 a2 a3 a4 a5 a6 a7 a8 a9 a10 a11 a12 a13 a14 a15 a16 a17 a18 a19 a20 a21 a22 a23 a24 a25 a26 a27 a28 a29 a30 a31 a32 a33 b0 b1 b2 b3 b4 b5 b6 b7 b8 b9 b10 b11 b12 b13 b14 b15 b16 b17 b18 b19 fx v0 v1 l0_0 k0_0), (c_X12_node_0 l D cI cZ cB cJ c0 c1 c2 c3 c4 c5 c6 c7 c8 c9 c10 c11 c12 c13 c14 c15 c16 c17 c18 c19 c20 c21 c22 c23 c24 d0 d1 d2 d3 d4 d5 d6 d7 d8 d9 d10 d11 d12 d13 d14 d15 d16 d17 d18 d19 d20 d21 d22 d23 d24 d25 d26 d27 d28 d29 d30 d31 d32 d33 d34 d35 d36 d37 d38 d39 d40 d41 d42 d43 d44 d45 fm v0 v1 l0_0 k0_0)⟩
  have l0_1 : (0 : Int) ≤ v0.toInt := by omega
  by_cases k0_1 : v0.toInt ≤ (0 : Int)
  ·
    obtain rfl : v0 = 0 := pt (by decide +kernel : (0 : Int32).toInt = (0 : Int)) l0_1 k0_1
    have l1_0 : (-2147483648 : Int) ≤ v1.toInt := i32_lo v1
    have u1 : v1.toInt ≤ (2147483647 : Int) := i32_hi v1
    by_cases k1_0 : v1.toInt ≤ ((-1) : Int)
    ·
      exact ⟨(-1), (c_X11_node_2 l D cI cZ cB cJ a0 a1 a2 a3 a4 a5 a6 a7 a8 a9 a10 a11 a12 a13 a14 a15 a16 a17 a18 a19 a20 a21 a22 a23 a24 a25 a26 a27 a28 a29 a30 a31 a32 a33 b0 b1 b2 b3 b4 b5 b6 b7 b8 b9 b10 b11 b12 b13 b14 b15 b16 b17 b18 b19 fx v1 l1_0 k1_0), (c_X12_node_2 l D cI cZ cB cJ c0 c1 c2 c3 c4 c5 c6 c7 c8 c9 c10 c11 c12 c13 c14 c15 c16 c17 c18 c19 c20 c21 c22 c23 c24 d0 d1 d2 d3 d4 d5 d6 d7 d8 d9 d10 d11 d12 d13 d14 d15 d16 d17 d18 d19 d20 d21 d22 d23 d24 d25 d26 d27 d28 d29 d30 d31 d32 d33 d34 d35 d36 d37 d38 d39 d40 d41 d42 d43 d44 d45 fm v1 l1_0 k1_0)⟩
    have l1_1 : (0 : Int) ≤ v1.toInt := by omega
    by_cases k1_1 : v1.toInt ≤ (0 : Int)
    ·
      obtain rfl : v1 = 0 := pt (by decide +kernel : (0 : Int32).toInt = (0 : Int)) l1_1 k1_1
      exact ⟨0, (c_X11_node_3 l D cI cZ cB cJ a0 a1 a2 a3 a4 a5 a6 a7 a8 a9 a10 a11 a12 a13 a14 a15 a16 a17 a18 a19 a20 a21 a22 a23 a24 a25 a26 a27 a28 a29 a30 a31 a32 a33 b0 b1 b2 b3 b4 b5 b6 b7 b8 b9 b10 b11 b12 b13 b14 b15 b16 b17 b18 b19 fx), (c_X12_node_3 l D cI cZ cB cJ c0 c1 c2 c3 c4 c5 c6 c7 c8 c9 c10 c11 c12 c13 c14 c15 c16 c17 c18 c19 c20 c21 c22 c23 c24 d0 d1 d2 d3 d4 d5 d6 d7 d8 d9 d10 d11 d12 d13 d14 d15 d16 d17 d18 d19 d20 d21 d22 d23 d24 d25 d26 d27 d28 d29 d30 d31 d32 d33 d34 d35 d36 d37 d38 d39 d40 d41 d42 d43 d44 d45 fm)⟩
    have l1_2 : (1 : Int) ≤ v1.toInt := by omega
    by_cases k1_2 : v1.toInt ≤ (1 : Int)
    ·
      obtain rfl : v1 = 1 := pt (by decide +kernel : (1 : Int32).toInt = (1 : Int)) l1_2 k1_2
      exact ⟨(-2), (c_X11_node_4 l D cI cZ cB cJ a0 a1 a2 a3 a4 a5 a6 a7 a8 a9 a10 a11 a12 a13 a14 a15 a16 a17 a18 a19 a20 a21 a22 a23 a24 a25 a26 a27 a28 a29 a30 a31 a32 a33 b0 b1 b2 b3 b4 b5 b6 b7 b8 b9 b10 b11 b12 b13 b14 b15 b16 b17 b18 b19 fx), (c_X12_node_4 l D cI cZ cB cJ c0 c1 c2 c3 c4 c5 c6 c7 c8 c9 c10 c11 c12 c13 c14 c15 c16 c17 c18 c19 c20 c21 c22 c23 c24 d0 d1 d2 d3 d4 d5 d6 d7 d8 d9 d10 d11 d12 d13 d14 d15 d16 d17 d18 d19 d20 d21 d22 d23 d24 d25 d26 d27 d28 d29 d30 d31 d32 d33 d34 d35 d36 d37 d38 d39 d40 d41 d42 d43 d44 d45 fm)⟩
    have l1_3 : (2 : Int) ≤ v1.toInt := by omega
    by_cases k1_3 : v1.toInt ≤ (2 : Int)
    ·
      obtain rfl : v1 = 2 := pt (by decide +kernel : (2 : Int32).toInt = (2 : Int)) l1_3 k1_3
      exact ⟨0, (c_X11_node_5 l D cI cZ cB cJ a0 a1 a2 a3 a4 a5 a6 a7 a8 a9 a10 a11 a12 a13 a14 a15 a16 a17 a18 a19 a20 a21 a22 a23 a24 a25 a26 a27 a28 a29 a30 a31 a32 a33 b0 b1 b2 b3 b4 b5 b6 b7 b8 b9 b10 b11 b12 b13 b14 b15 b16 b17 b18 b19 fx), (c_X12_node_5 l D cI cZ cB cJ c0 c1 c2 c3 c4 c5 c6 c7 c8 c9 c10 c11 c12 c13 c14 c15 c16 c17 c18 c19 c20 c21 c22 c23 c24 d0 d1 d2 d3 d4 d5 d6 d7 d8 d9 d10 d11 d12 d13 d14 d15 d16 d17 d18 d19 d20 d21 d22 d23 d24 d25 d26 d27 d28 d29 d30 d31 d32 d33 d34 d35 d36 d37 d38 d39 d40 d41 d42 d43 d44 d45 fm)⟩
    have l1_4 : (3 : Int) ≤ v1.toInt := by omega
    by_cases k1_4 : v1.toInt ≤ (3 : Int)
    ·
      obtain rfl : v1 = 3 := pt (by decide +kernel : (3 : Int32).toInt = (3 : Int)) l1_4 k1_4
      exact ⟨1, (c_X11_node_6 l D cI cZ cB cJ a0 a1 a2 a3 a4 a5 a6 a7 a8 a9 a10 a11 a12 a13 a14 a15 a16 a17 a18 a19 a20 a21 a22 a23 a24 a25 a26 a27 a28 a29 a30 a31 a32 a33 b0 b1 b2 b3 b4 b5 b6 b7 b8 b9 b10 b11 b12 b13 b14 b15 b16 b17 b18 b19 fx), (c_X12_node_6 l D cI cZ cB cJ c0 c1 c2 c3 c4 c5 c6 c7 c8 c9 c10 c11 c12 c13 c14 c15 c16 c17 c18 c19 c20 c21 c22 c23 c24 d0 d1 d2 d3 d4 d5 d6 d7 d8 d9 d10 d11 d12 d13 d14 d15 d16 d17 d18 d19 d20 d21 d22 d23 d24 d25 d26 d27 d28 d29 d30 d31 d32 d33 d34 d35 d36 d37 d38 d39 d40 d41 d42 d43 d44 d45 fm)⟩
    have l1_5 : (4 : Int) ≤ v1.toInt := by omega
    by_cases k1_5 : v1.toInt ≤ (4 : Int)
    ·
      obtain rfl : v1 = 4 := pt (by decide +kernel : (4 : Int32).toInt = (4 : Int)) l1_5 k1_5
      exact ⟨1, (c_X11_node_7 l D cI cZ cB cJ a0 a1 a2 a3 a4 a5 a6 a7 a8 a9 a10 a11 a12 a13 a14 a15 a16 a17 a18 a19 a20 a21 a22 a23 a24 a25 a26 a27 a28 a29 a30 a31 a32 a33 b0 b1 b2 b3 b4 b5 b6 b7 b8 b9 b10 b11 b12 b13 b14 b15 b16 b17 b18 b19 fx), (c_X12_node_7 l D cI cZ cB cJ c0 c1 c2 c3 c4 c5 c6 c7 c8 c9 c10 c11 c12 c13 c14 c15 c16 c17 c18 c19 c20 c21 c22 c23 c24 d0 d1 d2 d3 d4 d5 d6 d7 d8 d9 d10 d11 d12 d13 d14 d15 d16 d17 d18 d19 d20 d21 d22 d23 d24 d25 d26 d27 d28 d29 d30 d31 d32 d33 d34 d35 d36 d37 d38 d39 d40 d41 d42 d43 d44 d45 fm)⟩
    have l1_6 : (5 : Int) ≤ v1.toInt := by omega
    by_cases k1_6 : v1.toInt ≤ (5 : Int)
    ·
      obtain rfl : v1 = 5 := pt (by decide +kernel : (5 : Int32).toInt = (5 : Int)) l1_6 k1_6
      exact ⟨1, (c_X11_node_8 l D cI cZ cB cJ a0 a1 a2 a3 a4 a5 a6 a7 a8 a9 a10 a11 a12 a13 a14 a15 a16 a17 a18 a19 a20 a21 a22 a23 a24 a25 a26 a27 a28 a29 a30 a31 a32 a33 b0 b1 b2 b3 b4 b5 b6 b7 b8 b9 b10 b11 b12 b13 b14 b15 b16 b17 b18 b19 fx), (c_X12_node_8 l D cI cZ cB cJ c0 c1 c2 c3 c4 c5 c6 c7 c8 c9 c10 c11 c12 c13 c14 c15 c16 c17 c18 c19 c20 c21 c22 c23 c24 d0 d1 d2 d3 d4 d5 d6 d7 d8 d9 d10 d11 d12 d13 d14 d15 d16 d17 d18 d19 d20 d21 d22 d23 d24 d25 d26 d27 d28 d29 d30 d31 d32 d33 d34 d35 d36 d37 d38 d39 d40 d41 d42 d43 d44 d45 fm)⟩
    have l1_7 : (6 : Int) ≤ v1.toInt := by omega
    by_cases k1_7 : v1.toInt ≤ (6 : Int)
    ·
      obtain rfl : v1 = 6 := pt (by decide +kernel : (6 : Int32).toInt = (6 : Int)) l1_7 k1_7
      exact ⟨0, (c_X11_node_9 l D cI cZ cB cJ a0 a1 a2 a3 a4 a5 a6 a7 a8 a9 a10 a11 a12 a13 a14 a15 a16 a17 a18 a19 a20 a21 a22 a23 a24 a25 a26 a27 a28 a29 a30 a31 a32 a33 b0 b1 b2 b3 b4 b5 b6 b7 b8 b9 b10 b11 b12 b13 b14 b15 b16 b17 b18 b19 fx), (c_X12_node_9 l D cI cZ cB cJ c0 c1 c2 c3 c4 c5 c6 c7 c8 c9 c10 c11 c12 c13 c14 c15 c16 c17 c18 c19 c20 c21 c22 c23 c24 d0 d1 d2 d3 d4 d5 d6 d7 d8 d9 d10 d11 d12 d13 d14 d15 d16 d17 d18 d19 d20 d21 d22 d23 d24 d25 d26 d27 d28 d29 d30 d31 d32 d33 d34 d35 d36 d37 d38 d39 d40 d41 d42 d43 d44 d45 fm)⟩
    have l1_8 : (7 : Int) ≤ v1.toInt := by omega
    by_cases k1_8 : v1.toInt ≤ (7 : Int)
    ·
      obtain rfl : v1 = 7 := pt (by decide +kernel : (7 : Int32).toInt = (7 : Int)) l1_8 k1_8
      exact ⟨1, (c_X11_node_10 l D cI cZ cB cJ a0 a1 a2 a3 a4 a5 a6 a7 a8 a9 a10 a11 a12 a13 a14 a15 a16 a17 a18 a19 a20 a21 a22 a23 a24 a25 a26 a27 a28 a29 a30 a31 a32 a33 b0 b1 b2 b3 b4 b5 b6 b7 b8 b9 b10 b11 b12 b13 b14 b15 b16 b17 b18 b19 fx), (c_X12_node_10 l D cI cZ cB cJ c0 c1 c2 c3 c4 c5 c6 c7 c8 c9 c10 c11 c12 c13 c14 c15 c16 c17 c18 c19 c20 c21 c22 c23 c24 d0 d1 d2 d3 d4 d5 d6 d7 d8 d9 d10 d11 d12 d13 d14 d15 d16 d17 d18 d19 d20 d21 d22 d23 d24 d25 d26 d27 d28 d29 d30 d31 d32 d33 d34 d35 d36 d37 d38 d39 d40 d41 d42 d43 d44 d45 fm)⟩
    have l1_9 : (8 : Int) ≤ v1.toInt := by omega
    exact ⟨(-1), (c_X11_node_11 l D cI cZ cB cJ a0 a1 a2 a3 a4 a5 a6 a7 a8 a9 a10 a11 a12 a13 a14 a15 a16 a17 a18 a19 a20 a21 a22 a23 a24 a25 a26 a27 a28 a29 a30 a31 a32 a33 b0 b1 b2 b3 b4 b5 b6 b7 b8 b9 b10 b11 b12 b13 b14 b15 b16 b17 b18 b19 fx v1 l1_9 u1), (c_X12_node_11 l D cI cZ cB cJ c0 c1 c2 c3 c4 c5 c6 c7 c8 c9 c10 c11 c12 c13 c14 c15 c16 c17 c18 c19 c20 c21 c22 c23 c24 d0 d1 d2 d3 d4 d5 d6 d7 d8 d9 d10 d11 d12 d13 d14 d15 d16 d17 d18 d19 d20 d21 d22 d23 d24 d25 d26 d27 d28 d29 d30 d31 d32 d33 d34 d35 d36 d37 d38 d39 d40 d41 d42 d43 d44 d45 fm v1 l1_9 u1)⟩
  have l0_2 : (1 : Int) ≤ v0.toInt := by omega
  have l1_0 : (-2147483648 : Int) ≤ v1.toInt := i32_lo v1
  have u1 : v1.toInt ≤ (2147483647 : Int) := i32_hi v1
  exact ⟨(-1), (c_X11_node_1 l D cI cZ cB cJ a0 a1 a2 a3 a4 a5 a6 a7 a8 a9 a10 a11 a12 a13 a14 a15 a16 a17 a18 a19 a20 a21 a22 a23 a24 a25 a26 a27 a28 a29 a30 a31 a32 a33 b0 b1 b2 b3 b4 b5 b6 b7 b8 b9 b10 b11 b12 b13 b14 b15 b16 b17 b18 b19 fx v0 v1 l0_2 u0), (c_X12_node_1 l D cI cZ cB cJ c0 c1 c2 c3 c4 c5 c6 c7 c8 c9 c10 c11 c12 c13 c14 c15 c16 c17 c18 c19 c20 c21 c22 c23 c24 d0 d1 d2 d3 d4 d5 d6 d7 d8 d9 d10 d11 d12 d13 d14 d15 d16 d17 d18 d19 d20 d21 d22 d23 d24 d25 d26 d27 d28 d29 d30 d31 d32 d33 d34 d35 d36 d37 d38 d39 d40 d41 d42 d43 d44 d45 fm v0 v1 l0_2 u0)⟩
set_option maxHeartbeats 4000000 in
set_option maxRecDepth 100000 in
theorem both_cast (l : Launch) (D : va_G) (cI cZ cB cJ : ClassId) (a0 a1 a2 a3 a4 a5 a6 a7 a8 a9 a10 a11 a12 a13 a14 a15 a16 a17 a18 a19 a20 a21 a22 a23 a24 a25 a26 a27 a28 a29 a30 a31 a32 a33 b0 b1 b2 b3 b4 b5 b6 b7 b8 b9 b10 b11 b12 b13 b14 b15 b16 b17 b18 b19 c0 c1 c2 c3 c4 c5 c6 c7 c8 c9 c10 c11 c12 c13 c14 c15 c16 c17 c18 c19 c20 c21 c22 c23 c24 d0 d1 d2 d3 d4 d5 d6 d7 d8 d9 d10 d11 d12 d13 d14 d15 d16 d17 d18 d19 d20 d21 d22 d23 d24 d25 d26 d27 d28 d29 d30 d31 d32 d33 d34 d35 d36 d37 d38 d39 d40 d41 d42 d43 d44 d45 : Nat) (fx fm : Nat → Int32) (v0 v1 : Int32) : ∃ r0 : Int32, CtI l D (TT cI cZ cB cJ) yX11_cast cX11_cast 3 (some .int) 0 0 0 0 [.ref a0, .int v0, .int v1] (WX cI cZ cB cJ a0 a1 a2 a3 a4 a5 a6 a7 a8 a9 a10 a11 a12 a13 a14 a15 a16 a17 a18 a19 a20 a21 a22 a23 a24 a25 a26 a27 a28 a29 a30 a31 a32 a33 b0 b1 b2 b3 b4 b5 b6 b7 b8 b9 b10 b11 b12 b13 b14 b15 b16 b17 b18 b19 fx) (fun r w1 => r = r0 ∧ w1 = []) ∧ CtI l D (TT cI cZ cB cJ) yX12_cast cX12_cast 5 (some .int) 1 22 0 0 [.ref c0, .int v0, .int v1] (WM cI cZ cB cJ c0 c1 c2 c3 c4 c5 c6 c7 c8 c9 c10 c11 c12 c13 c14 c15 c16 c17 c18 c19 c20 c21 c22 c23 c24 d0 d1 d2 d3 d4 d5 d6 d7 d8 d9 d10 d11 d12 d13 d14 d15 d16 d17 d18 d19 d20 d21 d22 d23 d24 d25 d26 d27 d28 d29 d30 d31 d32 d33 d34 d35 d36 d37 d38 d39 d40 d41 d42 d43 d44 d45 fm) (fun r w1 => r = r0 ∧ w1 = []) := by
  have l0_0 : (-2147483648 : Int) ≤ v0.toInt := i32_lo v0
  have u0 : v0.toInt ≤ (2147483647 : Int) := i32_hi v0
  by_cases k0_0 : v0.toInt ≤ ((-1) : Int)
  ·
    have l1_0 : (-2147483648 : Int) ≤ v1.toInt := i32_lo v1
    have u1 : v1.toInt ≤ (2147483647 : Int) := i32_hi v1
    exact ⟨(-1), (c_X11_cast_0 l D cI cZ cB cJ a0 a1 a2 a3 a4 a5 a6 a7 a8 a9 a10 a11 a12 a13 a14 a15 a16 a17 a18 a19 a20 a21 a22 a23 a24 a25 a26 a27 a28 a29 a30 a31 a32 a33 b0 b1 b2 b3 b4 b5 b6 b7 b8 b9 b10 b11 b12 b13 b14 b15 b16 b17 b18 b19 fx v0 v1 l0_0 k0_0), (c_X12_cast_0 l D cI cZ cB cJ c0 c1 c2 c3 c4 c5 c6 c7 c8 c9 c10 c11 c12 c13 c14 c15 c16 c17 c18 c19 c20 c21 c22 c23 c24 d0 d1 d2 d3 d4 d5 d6 d7 d8 d9 d10 d11 d12 d13 d14 d15 d16 d17 d18 d19 d20 d21 d22 d23 d24 d25 d26 d27 d28 d29 d30 d31 d32 d33 d34 d35 d36 d37 d38 d39 d40 d41 d42 d43 d44 d45 fm v0 v1 l0_0 k0_0)⟩
  have l0_1 : (0 : Int) ≤ v0.toInt := by omega
  have l1_0 : (-2147483648 : Int) ≤ v1.toInt := i32_lo v1
  have u1 : v1.toInt ≤ (2147483647 : Int) := i32_hi v1
  exact ⟨(-1), (c_X11_cast_1 l D cI cZ cB cJ a0 a1 a2 a3 a4 a5 a6 a7 a8 a9 a10 a11 a12 a13 a14 a15 a16 a17 a18 a19 a20 a21 a22 a23 a24 a25 a26 a27 a28 a29 a30 a31 a32 a33 b0 b1 b2 b3 b4 b5 b6 b7 b8 b9 b10 b11 b12 b13 b14 b15 b16 b17 b18 b19 fx v0 v1 l0_1 u0), (c_X12_cast_1 l D cI cZ cB cJ c0 c1 c2 c3 c4 c5 c6 c7 c8 c9 c10 c11 c12 c13 c14 c15 c16 c17 c18 c19 c20 c21 c22 c23 c24 d0 d1 d2 d3 d4 d5 d6 d7 d8 d9 d10 d11 d12 d13 d14 d15 d16 d17 d18 d19 d20 d21 d22 d23 d24 d25 d26 d27 d28 d29 d30 d31 d32 d33 d34 d35 d36 d37 d38 d39 d40 d41 d42 d43 d44 d45 fm v0 v1 l0_1 u0)⟩
set_option maxHeartbeats 4000000 in
set_option maxRecDepth 100000 in
theorem both_text (l : Launch) (D : va_G) (cI cZ cB cJ : ClassId) (ak kv : Nat) (fo : Option Nat) (a0 a1 a2 a3 a4 a5 a6 a7 a8 a9 a10 a11 a12 a13 a14 a15 a16 a17 a18 a19 a20 a21 a22 a23 a24 a25 a26 a27 a28 a29 a30 a31 a32 a33 b0 b1 b2 b3 b4 b5 b6 b7 b8 b9 b10 b11 b12 b13 b14 b15 b16 b17 b18 b19 c0 c1 c2 c3 c4 c5 c6 c7 c8 c9 c10 c11 c12 c13 c14 c15 c16 c17 c18 c19 c20 c21 c22 c23 c24 d0 d1 d2 d3 d4 d5 d6 d7 d8 d9 d10 d11 d12 d13 d14 d15 d16 d17 d18 d19 d20 d21 d22 d23 d24 d25 d26 d27 d28 d29 d30 d31 d32 d33 d34 d35 d36 d37 d38 d39 d40 d41 d42 d43 d44 d45 : Nat) (fx fm : Nat → Int32) (v0 v1 v2 : Int32) : ∃ r0 : Int32, CtIS ak kv fo l D (TT cI cZ cB cJ) yX11_text cX11_text 4 (some .int) 7 154 0 0 [.ref a0, .int v0, .int v1, .int v2] (WX cI cZ cB cJ a0 a1 a2 a3 a4 a5 a6 a7 a8 a9 a10 a11 a12 a13 a14 a15 a16 a17 a18 a19 a20 a21 a22 a23 a24 a25 a26 a27 a28 a29 a30 a31 a32 a33 b0 b1 b2 b3 b4 b5 b6 b7 b8 b9 b10 b11 b12 b13 b14 b15 b16 b17 b18 b19 fx) (fun r w1 => r = r0 ∧ w1 = []) ∧ CtI l D (TT cI cZ cB cJ) yX12_text cX12_text 4 (some .int) 4 90 0 0 [.ref c0, .int v0, .int v1, .int v2] (WM cI cZ cB cJ c0 c1 c2 c3 c4 c5 c6 c7 c8 c9 c10 c11 c12 c13 c14 c15 c16 c17 c18 c19 c20 c21 c22 c23 c24 d0 d1 d2 d3 d4 d5 d6 d7 d8 d9 d10 d11 d12 d13 d14 d15 d16 d17 d18 d19 d20 d21 d22 d23 d24 d25 d26 d27 d28 d29 d30 d31 d32 d33 d34 d35 d36 d37 d38 d39 d40 d41 d42 d43 d44 d45 fm) (fun r w1 => r = r0 ∧ w1 = []) := by
  have l0_0 : (-2147483648 : Int) ≤ v0.toInt := i32_lo v0
  have u0 : v0.toInt ≤ (2147483647 : Int) := i32_hi v0
  by_cases k0_0 : v0.toInt ≤ ((-1) : Int)
  ·
    have l1_0 : (-2147483648 : Int) ≤ v1.toInt := i32_lo v1
    have u1 : v1.toInt ≤ (2147483647 : Int) := i32_hi v1
    by_cases k1_0 : v1.toInt ≤ ((-1) : Int)
    ·
      have l2_0 : (-2147483648 : Int) ≤ v2.toInt := i32_lo v2
      have u2 : v2.toInt ≤ (2147483647 : Int) := i32_hi v2
      by_cases k2_0 : v2.toInt ≤ ((-2) : Int)
      ·
        exact ⟨(-1), (CtI.toS (c_X11_text_0 l D cI cZ cB cJ a0 a1 a2 a3 a4 a5 a6 a7 a8 a9 a10 a11 a12 a13 a14 a15 a16 a17 a18 a19 a20 a21 a22 a23 a24 a25 a26 a27 a28 a29 a30 a31 a32 a33 b0 b1 b2 b3 b4 b5 b6 b7 b8 b9 b10 b11 b12 b13 b14 b15 b16 b17 b18 b19 fx v0 v1 v2 l2_0 k2_0)), (c_X12_text_0 l D cI cZ cB cJ c0 c1 c2 c3 c4 c5 c6 c7 c8 c9 c10 c11 c12 c13 c14 c15 c16 c17 c18 c19 c20 c21 c22 c23 c24 d0 d1 d2 d3 d4 d5 d6 d7 d8 d9 d10 d11 d12 d13 d14 d15 d16 d17 d18 d19 d20 d21 d22 d23 d24 d25 d26 d27 d28 d29 d30 d31 d32 d33 d34 d35 d36 d37 d38 d39 d40 d41 d42 d43 d44 d45 fm v0 v1 v2 l0_0 k0_0 l1_0 k1_0)⟩
      have l2_1 : ((-1) : Int) ≤ v2.toInt := by omega
      exact ⟨(-1), (CtI.toS (c_X11_text_1 l D cI cZ cB cJ a0 a1 a2 a3 a4 a5 a6 a7 a8 a9 a10 a11 a12 a13 a14 a15 a16 a17 a18 a19 a20 a21 a22 a23 a24 a25 a26 a27 a28 a29 a30 a31 a32 a33 b0 b1 b2 b3 b4 b5 b6 b7 b8 b9 b10 b11 b12 b13 b14 b15 b16 b17 b18 b19 fx v0 v1 v2 l1_0 k1_0 l2_1 u2)), (c_X12_text_0 l D cI cZ cB cJ c0 c1 c2 c3 c4 c5 c6 c7 c8 c9 c10 c11 c12 c13 c14 c15 c16 c17 c18 c19 c20 c21 c22 c23 c24 d0 d1 d2 d3 d4 d5 d6 d7 d8 d9 d10 d11 d12 d13 d14 d15 d16 d17 d18 d19 d20 d21 d22 d23 d24 d25 d26 d27 d28 d29 d30 d31 d32 d33 d34 d35 d36 d37 d38 d39 d40 d41 d42 d43 d44 d45 fm v0 v1 v2 l0_0 k0_0 l1_0 k1_0)⟩
    have l1_1 : (0 : Int) ≤ v1.toInt := by omega
    by_cases k1_1 : v1.toInt ≤ (0 : Int)
    ·
      obtain rfl : v1 = 0 := pt (by decide +kernel : (0 : Int32).toInt = (0 : Int)) l1_1 k1_1
      have l2_0 : (-2147483648 : Int) ≤ v2.toInt := i32_lo v2
      have u2 : v2.toInt ≤ (2147483647 : Int) := i32_hi v2
      by_cases k2_0 : v2.toInt ≤ ((-2) : Int)
      ·
        exact ⟨(-1), (CtI.toS (c_X11_text_2 l D cI cZ cB cJ a0 a1 a2 a3 a4 a5 a6 a7 a8 a9 a10 a11 a12 a13 a14 a15 a16 a17 a18 a19 a20 a21 a22 a23 a24 a25 a26 a27 a28 a29 a30 a31 a32 a33 b0 b1 b2 b3 b4 b5 b6 b7 b8 b9 b10 b11 b12 b13 b14 b15 b16 b17 b18 b19 fx v0 v2 l2_0 k2_0)), (c_X12_text_1 l D cI cZ cB cJ c0 c1 c2 c3 c4 c5 c6 c7 c8 c9 c10 c11 c12 c13 c14 c15 c16 c17 c18 c19 c20 c21 c22 c23 c24 d0 d1 d2 d3 d4 d5 d6 d7 d8 d9 d10 d11 d12 d13 d14 d15 d16 d17 d18 d19 d20 d21 d22 d23 d24 d25 d26 d27 d28 d29 d30 d31 d32 d33 d34 d35 d36 d37 d38 d39 d40 d41 d42 d43 d44 d45 fm v0 v2 l0_0 k0_0)⟩
      have l2_1 : ((-1) : Int) ≤ v2.toInt := by omega
      exact ⟨(-1), (CtI.toS (c_X11_text_3 l D cI cZ cB cJ a0 a1 a2 a3 a4 a5 a6 a7 a8 a9 a10 a11 a12 a13 a14 a15 a16 a17 a18 a19 a20 a21 a22 a23 a24 a25 a26 a27 a28 a29 a30 a31 a32 a33 b0 b1 b2 b3 b4 b5 b6 b7 b8 b9 b10 b11 b12 b13 b14 b15 b16 b17 b18 b19 fx v0 v2 l0_0 k0_0 l2_1 u2)), (c_X12_text_1 l D cI cZ cB cJ c0 c1 c2 c3 c4 c5 c6 c7 c8 c9 c10 c11 c12 c13 c14 c15 c16 c17 c18 c19 c20 c21 c22 c23 c24 d0 d1 d2 d3 d4 d5 d6 d7 d8 d9 d10 d11 d12 d13 d14 d15 d16 d17 d18 d19 d20 d21 d22 d23 d24 d25 d26 d27 d28 d29 d30 d31 d32 d33 d34 d35 d36 d37 d38 d39 d40 d41 d42 d43 d44 d45 fm v0 v2 l0_0 k0_0)⟩
    have l1_2 : (1 : Int) ≤ v1.toInt := by omega
    have l2_0 : (-2147483648 : Int) ≤ v2.toInt := i32_lo v2
    have u2 : v2.toInt ≤ (2147483647 : Int) := i32_hi v2
    by_cases k2_0 : v2.toInt ≤ ((-2) : Int)
    ·
      exact ⟨(-1), (CtI.toS (c_X11_text_0 l D cI cZ cB cJ a0 a1 a2 a3 a4 a5 a6 a7 a8 a9 a10 a11 a12 a13 a14 a15 a16 a17 a18 a19 a20 a21 a22 a23 a24 a25 a26 a27 a28 a29 a30 a31 a32 a33 b0 b1 b2 b3 b4 b5 b6 b7 b8 b9 b10 b11 b12 b13 b14 b15 b16 b17 b18 b19 fx v0 v1 v2 l2_0 k2_0)), (c_X12_text_2 l D cI cZ cB cJ c0 c1 c2 c3 c4 c5 c6 c7 c8 c9 c10 c11 c12 c13 c14 c15 c16 c17 c18 c19 c20 c21 c22 c23 c24 d0 d1 d2 d3 d4 d5 d6 d7 d8 d9 d10 d11 d12 d13 d14 d15 d16 d17 d18 d19 d20 d21 d22 d23 d24 d25 d26 d27 d28 d29 d30 d31 d32 d33 d34 d35 d36 d37 d38 d39 d40 d41 d42 d43 d44 d45 fm v0 v1 v2 l0_0 k0_0 l1_2 u1)⟩
    have l2_1 : ((-1) : Int) ≤ v2.toInt := by omega
    exact ⟨(-1), (CtI.toS (c_X11_text_4 l D cI cZ cB cJ a0 a1 a2 a3 a4 a5 a6 a7 a8 a9 a10 a11 a12 a13 a14 a15 a16 a17 a18 a19 a20 a21 a22 a23 a24 a25 a26 a27 a28 a29 a30 a31 a32 a33 b0 b1 b2 b3 b4 b5 b6 b7 b8 b9 b10 b11 b12 b13 b14 b15 b16 b17 b18 b19 fx v0 v1 v2 l0_0 k0_0 l1_2 u1 l2_1 u2)), (c_X12_text_2 l D cI cZ cB cJ c0 c1 c2 c3 c4 c5 c6 c7 c8 c9 c10 c11 c12 c13 c14 c15 c16 c17 c18 c19 c20 c21 c22 c23 c24 d0 d1 d2 d3 d4 d5 d6 d7 d8 d9 d10 d11 d12 d13 d14 d15 d16 d17 d18 d19 d20 d21 d22 d23 d24 d25 d26 d27 d28 d29 d30 d31 d32 d33 d34 d35 d36 d37 d38 d39 d40 d41 d42 d43 d44 d45 fm v0 v1 v2 l0_0 k0_0 l1_2 u1)⟩
  have l0_1 : (0 : Int) ≤ v0.toInt := by omega
  by_cases k0_1 : v0.toInt ≤ (0 : Int)
  ·
    obtain rfl : v0 = 0 := pt (by decide +kernel : (0 : Int32).toInt = (0 : Int)) l0_1 k0_1
    have l1_0 : (-2147483648 : Int) ≤ v1.toInt := i32_lo v1
    have u1 : v1.toInt ≤ (2147483647 : Int) := i32_hi v1
    by_cases k1_0 : v1.toInt ≤ ((-1) : Int)
    ·
      have l2_0 : (-2147483648 : Int) ≤ v2.toInt := i32_lo v2
      have u2 : v2.toInt ≤ (2147483647 : Int) := i32_hi v2
      by_cases k2_0 : v2.toInt ≤ ((-2) : Int)
      ·
        exact ⟨(-1), (CtI.toS (c_X11_text_5 l D cI cZ cB cJ a0 a1 a2 a3 a4 a5 a6 a7 a8 a9 a10 a11 a12 a13 a14 a15 a16 a17 a18 a19 a20 a21 a22 a23 a24 a25 a26 a27 a28 a29 a30 a31 a32 a33 b0 b1 b2 b3 b4 b5 b6 b7 b8 b9 b10 b11 b12 b13 b14 b15 b16 b17 b18 b19 fx v1 v2 l2_0 k2_0)), (c_X12_text_3 l D cI cZ cB cJ c0 c1 c2 c3 c4 c5 c6 c7 c8 c9 c10 c11 c12 c13 c14 c15 c16 c17 c18 c19 c20 c21 c22 c23 c24 d0 d1 d2 d3 d4 d5 d6 d7 d8 d9 d10 d11 d12 d13 d14 d15 d16 d17 d18 d19 d20 d21 d22 d23 d24 d25 d26 d27 d28 d29 d30 d31 d32 d33 d34 d35 d36 d37 d38 d39 d40 d41 d42 d43 d44 d45 fm v1 v2 l1_0 k1_0)⟩
      have l2_1 : ((-1) : Int) ≤ v2.toInt := by omega
      exact ⟨(-1), (CtI.toS (c_X11_text_6 l D cI cZ cB cJ a0 a1 a2 a3 a4 a5 a6 a7 a8 a9 a10 a11 a12 a13 a14 a15 a16 a17 a18 a19 a20 a21 a22 a23 a24 a25 a26 a27 a28 a29 a30 a31 a32 a33 b0 b1 b2 b3 b4 b5 b6 b7 b8 b9 b10 b11 b12 b13 b14 b15 b16 b17 b18 b19 fx v1 v2 l1_0 k1_0 l2_1 u2)), (c_X12_text_3 l D cI cZ cB cJ c0 c1 c2 c3 c4 c5 c6 c7 c8 c9 c10 c11 c12 c13 c14 c15 c16 c17 c18 c19 c20 c21 c22 c23 c24 d0 d1 d2 d3 d4 d5 d6 d7 d8 d9 d10 d11 d12 d13 d14 d15 d16 d17 d18 d19 d20 d21 d22 d23 d24 d25 d26 d27 d28 d29 d30 d31 d32 d33 d34 d35 d36 d37 d38 d39 d40 d41 d42 d43 d44 d45 fm v1 v2 l1_0 k1_0)⟩
    have l1_1 : (0 : Int) ≤ v1.toInt := by omega
    by_cases k1_1 : v1.toInt ≤ (0 : Int)
    ·
      obtain rfl : v1 = 0 := pt (by decide +kernel : (0 : Int32).toInt = (0 : Int)) l1_1 k1_1
      have l2_0 : (-2147483648 : Int) ≤ v2.toInt := i32_lo v2
      have u2 : v2.toInt ≤ (2147483647 : Int) := i32_hi v2
      by_cases k2_0 : v2.toInt ≤ ((-2) : Int)
      ·
        exact ⟨(-1), (CtI.toS (c_X11_text_7 l D cI cZ cB cJ a0 a1 a2 a3 a4 a5 a6 a7 a8 a9 a10 a11 a12 a13 a14 a15 a16 a17 a18 a19 a20 a21 a22 a23 a24 a25 a26 a27 a28 a29 a30 a31 a32 a33 b0 b1 b2 b3 b4 b5 b6 b7 b8 b9 b10 b11 b12 b13 b14 b15 b16 b17 b18 b19 fx v2 l2_0 k2_0)), (c_X12_text_4 l D cI cZ cB cJ c0 c1 c2 c3 c4 c5 c6 c7 c8 c9 c10 c11 c12 c13 c14 c15 c16 c17 c18 c19 c20 c21 c22 c23 c24 d0 d1 d2 d3 d4 d5 d6 d7 d8 d9 d10 d11 d12 d13 d14 d15 d16 d17 d18 d19 d20 d21 d22 d23 d24 d25 d26 d27 d28 d29 d30 d31 d32 d33 d34 d35 d36 d37 d38 d39 d40 d41 d42 d43 d44 d45 fm v2)⟩
      have l2_1 : ((-1) : Int) ≤ v2.toInt := by omega
      exact ⟨(-1), (CtI.toS (c_X11_text_8 l D cI cZ cB cJ a0 a1 a2 a3 a4 a5 a6 a7 a8 a9 a10 a11 a12 a13 a14 a15 a16 a17 a18 a19 a20 a21 a22 a23 a24 a25 a26 a27 a28 a29 a30 a31 a32 a33 b0 b1 b2 b3 b4 b5 b6 b7 b8 b9 b10 b11 b12 b13 b14 b15 b16 b17 b18 b19 fx v2 l2_1 u2)), (c_X12_text_4 l D cI cZ cB cJ c0 c1 c2 c3 c4 c5 c6 c7 c8 c9 c10 c11 c12 c13 c14 c15 c16 c17 c18 c19 c20 c21 c22 c23 c24 d0 d1 d2 d3 d4 d5 d6 d7 d8 d9 d10 d11 d12 d13 d14 d15 d16 d17 d18 d19 d20 d21 d22 d23 d24 d25 d26 d27 d28 d29 d30 d31 d32 d33 d34 d35 d36 d37 d38 d39 d40 d41 d42 d43 d44 d45 fm v2)⟩
    have l1_2 : (1 : Int) ≤ v1.toInt := by omega
    have l2_0 : (-2147483648 : Int) ≤ v2.toInt := i32_lo v2
    have u2 : v2.toInt ≤ (2147483647 : Int) := i32_hi v2
    by_cases k2_0 : v2.toInt ≤ ((-2) : Int)
    ·
      exact ⟨(-1), (CtI.toS (c_X11_text_5 l D cI cZ cB cJ a0 a1 a2 a3 a4 a5 a6 a7 a8 a9 a10 a11 a12 a13 a14 a15 a16 a17 a18 a19 a20 a21 a22 a23 a24 a25 a26 a27 a28 a29 a30 a31 a32 a33 b0 b1 b2 b3 b4 b5 b6 b7 b8 b9 b10 b11 b12 b13 b14 b15 b16 b17 b18 b19 fx v1 v2 l2_0 k2_0)), (c_X12_text_5 l D cI cZ cB cJ c0 c1 c2 c3 c4 c5 c6 c7 c8 c9 c10 c11 c12 c13 c14 c15 c16 c17 c18 c19 c20 c21 c22 c23 c24 d0 d1 d2 d3 d4 d5 d6 d7 d8 d9 d10 d11 d12 d13 d14 d15 d16 d17 d18 d19 d20 d21 d22 d23 d24 d25 d26 d27 d28 d29 d30 d31 d32 d33 d34 d35 d36 d37 d38 d39 d40 d41 d42 d43 d44 d45 fm v1 v2 l1_2 u1)⟩
    have l2_1 : ((-1) : Int) ≤ v2.toInt := by omega
    exact ⟨(-1), (CtI.toS (c_X11_text_9 l D cI cZ cB cJ a0 a1 a2 a3 a4 a5 a6 a7 a8 a9 a10 a11 a12 a13 a14 a15 a16 a17 a18 a19 a20 a21 a22 a23 a24 a25 a26 a27 a28 a29 a30 a31 a32 a33 b0 b1 b2 b3 b4 b5 b6 b7 b8 b9 b10 b11 b12 b13 b14 b15 b16 b17 b18 b19 fx v1 v2 l1_2 u1 l2_1 u2)), (c_X12_text_5 l D cI cZ cB cJ c0 c1 c2 c3 c4 c5 c6 c7 c8 c9 c10 c11 c12 c13 c14 c15 c16 c17 c18 c19 c20 c21 c22 c23 c24 d0 d1 d2 d3 d4 d5 d6 d7 d8 d9 d10 d11 d12 d13 d14 d15 d16 d17 d18 d19 d20 d21 d22 d23 d24 d25 d26 d27 d28 d29 d30 d31 d32 d33 d34 d35 d36 d37 d38 d39 d40 d41 d42 d43 d44 d45 fm v1 v2 l1_2 u1)⟩
  have l0_2 : (1 : Int) ≤ v0.toInt := by omega
  by_cases k0_2 : v0.toInt ≤ (1 : Int)
  ·
    obtain rfl : v0 = 1 := pt (by decide +kernel : (1 : Int32).toInt = (1 : Int)) l0_2 k0_2
    have l1_0 : (-2147483648 : Int) ≤ v1.toInt := i32_lo v1
    have u1 : v1.toInt ≤ (2147483647 : Int) := i32_hi v1
    by_cases k1_0 : v1.toInt ≤ ((-1) : Int)
    ·
      have l2_0 : (-2147483648 : Int) ≤ v2.toInt := i32_lo v2
      have u2 : v2.toInt ≤ (2147483647 : Int) := i32_hi v2
      by_cases k2_0 : v2.toInt ≤ ((-2) : Int)
      ·
        exact ⟨(-1), (CtI.toS (c_X11_text_10 l D cI cZ cB cJ a0 a1 a2 a3 a4 a5 a6 a7 a8 a9 a10 a11 a12 a13 a14 a15 a16 a17 a18 a19 a20 a21 a22 a23 a24 a25 a26 a27 a28 a29 a30 a31 a32 a33 b0 b1 b2 b3 b4 b5 b6 b7 b8 b9 b10 b11 b12 b13 b14 b15 b16 b17 b18 b19 fx v1 v2 l2_0 k2_0)), (c_X12_text_6 l D cI cZ cB cJ c0 c1 c2 c3 c4 c5 c6 c7 c8 c9 c10 c11 c12 c13 c14 c15 c16 c17 c18 c19 c20 c21 c22 c23 c24 d0 d1 d2 d3 d4 d5 d6 d7 d8 d9 d10 d11 d12 d13 d14 d15 d16 d17 d18 d19 d20 d21 d22 d23 d24 d25 d26 d27 d28 d29 d30 d31 d32 d33 d34 d35 d36 d37 d38 d39 d40 d41 d42 d43 d44 d45 fm v1 v2 l1_0 k1_0)⟩
      have l2_1 : ((-1) : Int) ≤ v2.toInt := by omega
      exact ⟨(-1), (CtI.toS (c_X11_text_11 l D cI cZ cB cJ a0 a1 a2 a3 a4 a5 a6 a7 a8 a9 a10 a11 a12 a13 a14 a15 a16 a17 a18 a19 a20 a21 a22 a23 a24 a25 a26 a27 a28 a29 a30 a31 a32 a33 b0 b1 b2 b3 b4 b5 b6 b7 b8 b9 b10 b11 b12 b13 b14 b15 b16 b17 b18 b19 fx v1 v2 l1_0 k1_0 l2_1 u2)), (c_X12_text_6 l D cI cZ cB cJ c0 c1 c2 c3 c4 c5 c6 c7 c8 c9 c10 c11 c12 c13 c14 c15 c16 c17 c18 c19 c20 c21 c22 c23 c24 d0 d1 d2 d3 d4 d5 d6 d7 d8 d9 d10 d11 d12 d13 d14 d15 d16 d17 d18 d19 d20 d21 d22 d23 d24 d25 d26 d27 d28 d29 d30 d31 d32 d33 d34 d35 d36 d37 d38 d39 d40 d41 d42 d43 d44 d45 fm v1 v2 l1_0 k1_0)⟩
    have l1_1 : (0 : Int) ≤ v1.toInt := by omega
    by_cases k1_1 : v1.toInt ≤ (0 : Int)
    ·
      obtain rfl : v1 = 0 := pt (by decide +kernel : (0 : Int32).toInt = (0 : Int)) l1_1 k1_1
      have l2_0 : (-2147483648 : Int) ≤ v2.toInt := i32_lo v2
      have u2 : v2.toInt ≤ (2147483647 : Int) := i32_hi v2
      by_cases k2_0 : v2.toInt ≤ ((-2) : Int)
      ·
        exact ⟨(-1), (CtI.toS (c_X11_text_12 l D cI cZ cB cJ a0 a1 a2 a3 a4 a5 a6 a7 a8 a9 a10 a11 a12 a13 a14 a15 a16 a17 a18 a19 a20 a21 a22 a23 a24 a25 a26 a27 a28 a29 a30 a31 a32 a33 b0 b1 b2 b3 b4 b5 b6 b7 b8 b9 b10 b11 b12 b13 b14 b15 b16 b17 b18 b19 fx v2 l2_0 k2_0)), (c_X12_text_7 l D cI cZ cB cJ c0 c1 c2 c3 c4 c5 c6 c7 c8 c9 c10 c11 c12 c13 c14 c15 c16 c17 c18 c19 c20 c21 c22 c23 c24 d0 d1 d2 d3 d4 d5 d6 d7 d8 d9 d10 d11 d12 d13 d14 d15 d16 d17 d18 d19 d20 d21 d22 d23 d24 d25 d26 d27 d28 d29 d30 d31 d32 d33 d34 d35 d36 d37 d38 d39 d40 d41 d42 d43 d44 d45 fm v2 l2_0 k2_0)⟩
      have l2_1 : ((-1) : Int) ≤ v2.toInt := by omega
      by_cases k2_1 : v2.toInt ≤ ((-1) : Int)
      ·
        obtain rfl : v2 = (-1) := pt (by decide +kernel : ((-1) : Int32).toInt = ((-1) : Int)) l2_1 k2_1
        exact ⟨3, (c_X11_text_13 l D cI cZ cB cJ ak kv fo a0 a1 a2 a3 a4 a5 a6 a7 a8 a9 a10 a11 a12 a13 a14 a15 a16 a17 a18 a19 a20 a21 a22 a23 a24 a25 a26 a27 a28 a29 a30 a31 a32 a33 b0 b1 b2 b3 b4 b5 b6 b7 b8 b9 b10 b11 b12 b13 b14 b15 b16 b17 b18 b19 fx), (c_X12_text_8 l D cI cZ cB cJ c0 c1 c2 c3 c4 c5 c6 c7 c8 c9 c10 c11 c12 c13 c14 c15 c16 c17 c18 c19 c20 c21 c22 c23 c24 d0 d1 d2 d3 d4 d5 d6 d7 d8 d9 d10 d11 d12 d13 d14 d15 d16 d17 d18 d19 d20 d21 d22 d23 d24 d25 d26 d27 d28 d29 d30 d31 d32 d33 d34 d35 d36 d37 d38 d39 d40 d41 d42 d43 d44 d45 fm)⟩
      have l2_2 : (0 : Int) ≤ v2.toInt := by omega
      by_cases k2_2 : v2.toInt ≤ (0 : Int)
      ·
        obtain rfl : v2 = 0 := pt (by decide +kernel : (0 : Int32).toInt = (0 : Int)) l2_2 k2_2
        exact ⟨105, (c_X11_text_14 l D cI cZ cB cJ ak kv fo a0 a1 a2 a3 a4 a5 a6 a7 a8 a9 a10 a11 a12 a13 a14 a15 a16 a17 a18 a19 a20 a21 a22 a23 a24 a25 a26 a27 a28 a29 a30 a31 a32 a33 b0 b1 b2 b3 b4 b5 b6 b7 b8 b9 b10 b11 b12 b13 b14 b15 b16 b17 b18 b19 fx), (c_X12_text_9 l D cI cZ cB cJ c0 c1 c2 c3 c4 c5 c6 c7 c8 c9 c10 c11 c12 c13 c14 c15 c16 c17 c18 c19 c20 c21 c22 c23 c24 d0 d1 d2 d3 d4 d5 d6 d7 d8 d9 d10 d11 d12 d13 d14 d15 d16 d17 d18 d19 d20 d21 d22 d23 d24 d25 d26 d27 d28 d29 d30 d31 d32 d33 d34 d35 d36 d37 d38 d39 d40 d41 d42 d43 d44 d45 fm)⟩
      have l2_3 : (1 : Int) ≤ v2.toInt := by omega
      by_cases k2_3 : v2.toInt ≤ (1 : Int)
      ·
        obtain rfl : v2 = 1 := pt (by decide +kernel : (1 : Int32).toInt = (1 : Int)) l2_3 k2_3
        exact ⟨110, (c_X11_text_15 l D cI cZ cB cJ ak kv fo a0 a1 a2 a3 a4 a5 a6 a7 a8 a9 a10 a11 a12 a13 a14 a15 a16 a17 a18 a19 a20 a21 a22 a23 a24 a25 a26 a27 a28 a29 a30 a31 a32 a33 b0 b1 b2 b3 b4 b5 b6 b7 b8 b9 b10 b11 b12 b13 b14 b15 b16 b17 b18 b19 fx), (c_X12_text_10 l D cI cZ cB cJ c0 c1 c2 c3 c4 c5 c6 c7 c8 c9 c10 c11 c12 c13 c14 c15 c16 c17 c18 c19 c20 c21 c22 c23 c24 d0 d1 d2 d3 d4 d5 d6 d7 d8 d9 d10 d11 d12 d13 d14 d15 d16 d17 d18 d19 d20 d21 d22 d23 d24 d25 d26 d27 d28 d29 d30 d31 d32 d33 d34 d35 d36 d37 d38 d39 d40 d41 d42 d43 d44 d45 fm)⟩
      have l2_4 : (2 : Int) ≤ v2.toInt := by omega
      by_cases k2_4 : v2.toInt ≤ (2 : Int)
      ·
        obtain rfl : v2 = 2 := pt (by decide +kernel : (2 : Int32).toInt = (2 : Int)) l2_4 k2_4
        exact ⟨116, (c_X11_text_16 l D cI cZ cB cJ ak kv fo a0 a1 a2 a3 a4 a5 a6 a7 a8 a9 a10 a11 a12 a13 a14 a15 a16 a17 a18 a19 a20 a21 a22 a23 a24 a25 a26 a27 a28 a29 a30 a31 a32 a33 b0 b1 b2 b3 b4 b5 b6 b7 b8 b9 b10 b11 b12 b13 b14 b15 b16 b17 b18 b19 fx), (c_X12_text_11 l D cI cZ cB cJ c0 c1 c2 c3 c4 c5 c6 c7 c8 c9 c10 c11 c12 c13 c14 c15 c16 c17 c18 c19 c20 c21 c22 c23 c24 d0 d1 d2 d3 d4 d5 d6 d7 d8 d9 d10 d11 d12 d13 d14 d15 d16 d17 d18 d19 d20 d21 d22 d23 d24 d25 d26 d27 d28 d29 d30 d31 d32 d33 d34 d35 d36 d37 d38 d39 d40 d41 d42 d43 d44 d45 fm)⟩
      have l2_5 : (3 : Int) ≤ v2.toInt := by omega
      exact ⟨(-4), (c_X11_text_17 l D cI cZ cB cJ ak kv fo a0 a1 a2 a3 a4 a5 a6 a7 a8 a9 a10 a11 a12 a13 a14 a15 a16 a17 a18 a19 a20 a21 a22 a23 a24 a25 a26 a27 a28 a29 a30 a31 a32 a33 b0 b1 b2 b3 b4 b5 b6 b7 b8 b9 b10 b11 b12 b13 b14 b15 b16 b17 b18 b19 fx v2 l2_5 u2), (c_X12_text_12 l D cI cZ cB cJ c0 c1 c2 c3 c4 c5 c6 c7 c8 c9 c10 c11 c12 c13 c14 c15 c16 c17 c18 c19 c20 c21 c22 c23 c24 d0 d1 d2 d3 d4 d5 d6 d7 d8 d9 d10 d11 d12 d13 d14 d15 d16 d17 d18 d19 d20 d21 d22 d23 d24 d25 d26 d27 d28 d29 d30 d31 d32 d33 d34 d35 d36 d37 d38 d39 d40 d41 d42 d43 d44 d45 fm v2 l2_5 u2)⟩
    have l1_2 : (1 : Int) ≤ v1.toInt := by omega
    have l2_0 : (-2147483648 : Int) ≤ v2.toInt := i32_lo v2
    have u2 : v2.toInt ≤ (2147483647 : Int) := i32_hi v2
    by_cases k2_0 : v2.toInt ≤ ((-2) : Int)
    ·
      exact ⟨(-1), (CtI.toS (c_X11_text_10 l D cI cZ cB cJ a0 a1 a2 a3 a4 a5 a6 a7 a8 a9 a10 a11 a12 a13 a14 a15 a16 a17 a18 a19 a20 a21 a22 a23 a24 a25 a26 a27 a28 a29 a30 a31 a32 a33 b0 b1 b2 b3 b4 b5 b6 b7 b8 b9 b10 b11 b12 b13 b14 b15 b16 b17 b18 b19 fx v1 v2 l2_0 k2_0)), (c_X12_text_13 l D cI cZ cB cJ c0 c1 c2 c3 c4 c5 c6 c7 c8 c9 c10 c11 c12 c13 c14 c15 c16 c17 c18 c19 c20 c21 c22 c23 c24 d0 d1 d2 d3 d4 d5 d6 d7 d8 d9 d10 d11 d12 d13 d14 d15 d16 d17 d18 d19 d20 d21 d22 d23 d24 d25 d26 d27 d28 d29 d30 d31 d32 d33 d34 d35 d36 d37 d38 d39 d40 d41 d42 d43 d44 d45 fm v1 v2 l1_2 u1)⟩
    have l2_1 : ((-1) : Int) ≤ v2.toInt := by omega
    exact ⟨(-1), (CtI.toS (c_X11_text_18 l D cI cZ cB cJ a0 a1 a2 a3 a4 a5 a6 a7 a8 a9 a10 a11 a12 a13 a14 a15 a16 a17 a18 a19 a20 a21 a22 a23 a24 a25 a26 a27 a28 a29 a30 a31 a32 a33 b0 b1 b2 b3 b4 b5 b6 b7 b8 b9 b10 b11 b12 b13 b14 b15 b16 b17 b18 b19 fx v1 v2 l1_2 u1 l2_1 u2)), (c_X12_text_13 l D cI cZ cB cJ c0 c1 c2 c3 c4 c5 c6 c7 c8 c9 c10 c11 c12 c13 c14 c15 c16 c17 c18 c19 c20 c21 c22 c23 c24 d0 d1 d2 d3 d4 d5 d6 d7 d8 d9 d10 d11 d12 d13 d14 d15 d16 d17 d18 d19 d20 d21 d22 d23 d24 d25 d26 d27 d28 d29 d30 d31 d32 d33 d34 d35 d36 d37 d38 d39 d40 d41 d42 d43 d44 d45 fm v1 v2 l1_2 u1)⟩
  have l0_3 : (2 : Int) ≤ v0.toInt := by omega
  by_cases k0_3 : v0.toInt ≤ (2 : Int)
  ·
    obtain rfl : v0 = 2 := pt (by decide +kernel : (2 : Int32).toInt = (2 : Int)) l0_3 k0_3
    have l1_0 : (-2147483648 : Int) ≤ v1.toInt := i32_lo v1
    have u1 : v1.toInt ≤ (2147483647 : Int) := i32_hi v1
    by_cases k1_0 : v1.toInt ≤ ((-1) : Int)
    ·
      have l2_0 : (-2147483648 : Int) ≤ v2.toInt := i32_lo v2
      have u2 : v2.toInt ≤ (2147483647 : Int) := i32_hi v2
      by_cases k2_0 : v2.toInt ≤ ((-2) : Int)
      ·
        exact ⟨(-1), (CtI.toS (c_X11_text_19 l D cI cZ cB cJ a0 a1 a2 a3 a4 a5 a6 a7 a8 a9 a10 a11 a12 a13 a14 a15 a16 a17 a18 a19 a20 a21 a22 a23 a24 a25 a26 a27 a28 a29 a30 a31 a32 a33 b0 b1 b2 b3 b4 b5 b6 b7 b8 b9 b10 b11 b12 b13 b14 b15 b16 b17 b18 b19 fx v1 v2 l2_0 k2_0)), (c_X12_text_14 l D cI cZ cB cJ c0 c1 c2 c3 c4 c5 c6 c7 c8 c9 c10 c11 c12 c13 c14 c15 c16 c17 c18 c19 c20 c21 c22 c23 c24 d0 d1 d2 d3 d4 d5 d6 d7 d8 d9 d10 d11 d12 d13 d14 d15 d16 d17 d18 d19 d20 d21 d22 d23 d24 d25 d26 d27 d28 d29 d30 d31 d32 d33 d34 d35 d36 d37 d38 d39 d40 d41 d42 d43 d44 d45 fm v1 v2 l1_0 k1_0)⟩
      have l2_1 : ((-1) : Int) ≤ v2.toInt := by omega
      exact ⟨(-1), (CtI.toS (c_X11_text_20 l D cI cZ cB cJ a0 a1 a2 a3 a4 a5 a6 a7 a8 a9 a10 a11 a12 a13 a14 a15 a16 a17 a18 a19 a20 a21 a22 a23 a24 a25 a26 a27 a28 a29 a30 a31 a32 a33 b0 b1 b2 b3 b4 b5 b6 b7 b8 b9 b10 b11 b12 b13 b14 b15 b16 b17 b18 b19 fx v1 v2 l1_0 k1_0 l2_1 u2)), (c_X12_text_14 l D cI cZ cB cJ c0 c1 c2 c3 c4 c5 c6 c7 c8 c9 c10 c11 c12 c13 c14 c15 c16 c17 c18 c19 c20 c21 c22 c23 c24 d0 d1 d2 d3 d4 d5 d6 d7 d8 d9 d10 d11 d12 d13 d14 d15 d16 d17 d18 d19 d20 d21 d22 d23 d24 d25 d26 d27 d28 d29 d30 d31 d32 d33 d34 d35 d36 d37 d38 d39 d40 d41 d42 d43 d44 d45 fm v1 v2 l1_0 k1_0)⟩
    have l1_1 : (0 : Int) ≤ v1.toInt := by omega
    by_cases k1_1 : v1.toInt ≤ (0 : Int)
    ·
      obtain rfl : v1 = 0 := pt (by decide +kernel : (0 : Int32).toInt = (0 : Int)) l1_1 k1_1
      have l2_0 : (-2147483648 : Int) ≤ v2.toInt := i32_lo v2
      have u2 : v2.toInt ≤ (2147483647 : Int) := i32_hi v2
      by_cases k2_0 : v2.toInt ≤ ((-2) : Int)
      ·
        exact ⟨(-1), (CtI.toS (c_X11_text_21 l D cI cZ cB cJ a0 a1 a2 a3 a4 a5 a6 a7 a8 a9 a10 a11 a12 a13 a14 a15 a16 a17 a18 a19 a20 a21 a22 a23 a24 a25 a26 a27 a28 a29 a30 a31 a32 a33 b0 b1 b2 b3 b4 b5 b6 b7 b8 b9 b10 b11 b12 b13 b14 b15 b16 b17 b18 b19 fx v2 l2_0 k2_0)), (c_X12_text_15 l D cI cZ cB cJ c0 c1 c2 c3 c4 c5 c6 c7 c8 c9 c10 c11 c12 c13 c14 c15 c16 c17 c18 c19 c20 c21 c22 c23 c24 d0 d1 d2 d3 d4 d5 d6 d7 d8 d9 d10 d11 d12 d13 d14 d15 d16 d17 d18 d19 d20 d21 d22 d23 d24 d25 d26 d27 d28 d29 d30 d31 d32 d33 d34 d35 d36 d37 d38 d39 d40 d41 d42 d43 d44 d45 fm v2)⟩
      have l2_1 : ((-1) : Int) ≤ v2.toInt := by omega
      exact ⟨(-1), (CtI.toS (c_X11_text_22 l D cI cZ cB cJ a0 a1 a2 a3 a4 a5 a6 a7 a8 a9 a10 a11 a12 a13 a14 a15 a16 a17 a18 a19 a20 a21 a22 a23 a24 a25 a26 a27 a28 a29 a30 a31 a32 a33 b0 b1 b2 b3 b4 b5 b6 b7 b8 b9 b10 b11 b12 b13 b14 b15 b16 b17 b18 b19 fx v2 l2_1 u2)), (c_X12_text_15 l D cI cZ cB cJ c0 c1 c2 c3 c4 c5 c6 c7 c8 c9 c10 c11 c12 c13 c14 c15 c16 c17 c18 c19 c20 c21 c22 c23 c24 d0 d1 d2 d3 d4 d5 d6 d7 d8 d9 d10 d11 d12 d13 d14 d15 d16 d17 d18 d19 d20 d21 d22 d23 d24 d25 d26 d27 d28 d29 d30 d31 d32 d33 d34 d35 d36 d37 d38 d39 d40 d41 d42 d43 d44 d45 fm v2)⟩
    have l1_2 : (1 : Int) ≤ v1.toInt := by omega
    have l2_0 : (-2147483648 : Int) ≤ v2.toInt := i32_lo v2
    have u2 : v2.toInt ≤ (2147483647 : Int) := i32_hi v2
    by_cases k2_0 : v2.toInt ≤ ((-2) : Int)
    ·
      exact ⟨(-1), (CtI.toS (c_X11_text_19 l D cI cZ cB cJ a0 a1 a2 a3 a4 a5 a6 a7 a8 a9 a10 a11 a12 a13 a14 a15 a16 a17 a18 a19 a20 a21 a22 a23 a24 a25 a26 a27 a28 a29 a30 a31 a32 a33 b0 b1 b2 b3 b4 b5 b6 b7 b8 b9 b10 b11 b12 b13 b14 b15 b16 b17 b18 b19 fx v1 v2 l2_0 k2_0)), (c_X12_text_16 l D cI cZ cB cJ c0 c1 c2 c3 c4 c5 c6 c7 c8 c9 c10 c11 c12 c13 c14 c15 c16 c17 c18 c19 c20 c21 c22 c23 c24 d0 d1 d2 d3 d4 d5 d6 d7 d8 d9 d10 d11 d12 d13 d14 d15 d16 d17 d18 d19 d20 d21 d22 d23 d24 d25 d26 d27 d28 d29 d30 d31 d32 d33 d34 d35 d36 d37 d38 d39 d40 d41 d42 d43 d44 d45 fm v1 v2 l1_2 u1)⟩
    have l2_1 : ((-1) : Int) ≤ v2.toInt := by omega
    exact ⟨(-1), (CtI.toS (c_X11_text_23 l D cI cZ cB cJ a0 a1 a2 a3 a4 a5 a6 a7 a8 a9 a10 a11 a12 a13 a14 a15 a16 a17 a18 a19 a20 a21 a22 a23 a24 a25 a26 a27 a28 a29 a30 a31 a32 a33 b0 b1 b2 b3 b4 b5 b6 b7 b8 b9 b10 b11 b12 b13 b14 b15 b16 b17 b18 b19 fx v1 v2 l1_2 u1 l2_1 u2)), (c_X12_text_16 l D cI cZ cB cJ c0 c1 c2 c3 c4 c5 c6 c7 c8 c9 c10 c11 c12 c13 c14 c15 c16 c17 c18 c19 c20 c21 c22 c23 c24 d0 d1 d2 d3 d4 d5 d6 d7 d8 d9 d10 d11 d12 d13 d14 d15 d16 d17 d18 d19 d20 d21 d22 d23 d24 d25 d26 d27 d28 d29 d30 d31 d32 d33 d34 d35 d36 d37 d38 d39 d40 d41 d42 d43 d44 d45 fm v1 v2 l1_2 u1)⟩
  have l0_4 : (3 : Int) ≤ v0.toInt := by omega
  by_cases k0_4 : v0.toInt ≤ (3 : Int)
  ·
    obtain rfl : v0 = 3 := pt (by decide +kernel : (3 : Int32).toInt = (3 : Int)) l0_4 k0_4
    have l1_0 : (-2147483648 : Int) ≤ v1.toInt := i32_lo v1
    have u1 : v1.toInt ≤ (2147483647 : Int) := i32_hi v1
    by_cases k1_0 : v1.toInt ≤ ((-1) : Int)
    ·
      have l2_0 : (-2147483648 : Int) ≤ v2.toInt := i32_lo v2
      have u2 : v2.toInt ≤ (2147483647 : Int) := i32_hi v2
      by_cases k2_0 : v2.toInt ≤ ((-2) : Int)
      ·
        exact ⟨(-1), (CtI.toS (c_X11_text_24 l D cI cZ cB cJ a0 a1 a2 a3 a4 a5 a6 a7 a8 a9 a10 a11 a12 a13 a14 a15 a16 a17 a18 a19 a20 a21 a22 a23 a24 a25 a26 a27 a28 a29 a30 a31 a32 a33 b0 b1 b2 b3 b4 b5 b6 b7 b8 b9 b10 b11 b12 b13 b14 b15 b16 b17 b18 b19 fx v1 v2 l2_0 k2_0)), (c_X12_text_17 l D cI cZ cB cJ c0 c1 c2 c3 c4 c5 c6 c7 c8 c9 c10 c11 c12 c13 c14 c15 c16 c17 c18 c19 c20 c21 c22 c23 c24 d0 d1 d2 d3 d4 d5 d6 d7 d8 d9 d10 d11 d12 d13 d14 d15 d16 d17 d18 d19 d20 d21 d22 d23 d24 d25 d26 d27 d28 d29 d30 d31 d32 d33 d34 d35 d36 d37 d38 d39 d40 d41 d42 d43 d44 d45 fm v1 v2 l1_0 k1_0)⟩
      have l2_1 : ((-1) : Int) ≤ v2.toInt := by omega
      exact ⟨(-1), (CtI.toS (c_X11_text_25 l D cI cZ cB cJ a0 a1 a2 a3 a4 a5 a6 a7 a8 a9 a10 a11 a12 a13 a14 a15 a16 a17 a18 a19 a20 a21 a22 a23 a24 a25 a26 a27 a28 a29 a30 a31 a32 a33 b0 b1 b2 b3 b4 b5 b6 b7 b8 b9 b10 b11 b12 b13 b14 b15 b16 b17 b18 b19 fx v1 v2 l1_0 k1_0 l2_1 u2)), (c_X12_text_17 l D cI cZ cB cJ c0 c1 c2 c3 c4 c5 c6 c7 c8 c9 c10 c11 c12 c13 c14 c15 c16 c17 c18 c19 c20 c21 c22 c23 c24 d0 d1 d2 d3 d4 d5 d6 d7 d8 d9 d10 d11 d12 d13 d14 d15 d16 d17 d18 d19 d20 d21 d22 d23 d24 d25 d26 d27 d28 d29 d30 d31 d32 d33 d34 d35 d36 d37 d38 d39 d40 d41 d42 d43 d44 d45 fm v1 v2 l1_0 k1_0)⟩
    have l1_1 : (0 : Int) ≤ v1.toInt := by omega
    by_cases k1_1 : v1.toInt ≤ (0 : Int)
    ·
      obtain rfl : v1 = 0 := pt (by decide +kernel : (0 : Int32).toInt = (0 : Int)) l1_1 k1_1
      have l2_0 : (-2147483648 : Int) ≤ v2.toInt := i32_lo v2
      have u2 : v2.toInt ≤ (2147483647 : Int) := i32_hi v2
      by_cases k2_0 : v2.toInt ≤ ((-2) : Int)
      ·
        exact ⟨(-1), (CtI.toS (c_X11_text_26 l D cI cZ cB cJ a0 a1 a2 a3 a4 a5 a6 a7 a8 a9 a10 a11 a12 a13 a14 a15 a16 a17 a18 a19 a20 a21 a22 a23 a24 a25 a26 a27 a28 a29 a30 a31 a32 a33 b0 b1 b2 b3 b4 b5 b6 b7 b8 b9 b10 b11 b12 b13 b14 b15 b16 b17 b18 b19 fx v2 l2_0 k2_0)), (c_X12_text_18 l D cI cZ cB cJ c0 c1 c2 c3 c4 c5 c6 c7 c8 c9 c10 c11 c12 c13 c14 c15 c16 c17 c18 c19 c20 c21 c22 c23 c24 d0 d1 d2 d3 d4 d5 d6 d7 d8 d9 d10 d11 d12 d13 d14 d15 d16 d17 d18 d19 d20 d21 d22 d23 d24 d25 d26 d27 d28 d29 d30 d31 d32 d33 d34 d35 d36 d37 d38 d39 d40 d41 d42 d43 d44 d45 fm v2)⟩
      have l2_1 : ((-1) : Int) ≤ v2.toInt := by omega
      exact ⟨(-1), (CtI.toS (c_X11_text_27 l D cI cZ cB cJ a0 a1 a2 a3 a4 a5 a6 a7 a8 a9 a10 a11 a12 a13 a14 a15 a16 a17 a18 a19 a20 a21 a22 a23 a24 a25 a26 a27 a28 a29 a30 a31 a32 a33 b0 b1 b2 b3 b4 b5 b6 b7 b8 b9 b10 b11 b12 b13 b14 b15 b16 b17 b18 b19 fx v2 l2_1 u2)), (c_X12_text_18 l D cI cZ cB cJ c0 c1 c2 c3 c4 c5 c6 c7 c8 c9 c10 c11 c12 c13 c14 c15 c16 c17 c18 c19 c20 c21 c22 c23 c24 d0 d1 d2 d3 d4 d5 d6 d7 d8 d9 d10 d11 d12 d13 d14 d15 d16 d17 d18 d19 d20 d21 d22 d23 d24 d25 d26 d27 d28 d29 d30 d31 d32 d33 d34 d35 d36 d37 d38 d39 d40 d41 d42 d43 d44 d45 fm v2)⟩
    have l1_2 : (1 : Int) ≤ v1.toInt := by omega
    have l2_0 : (-2147483648 : Int) ≤ v2.toInt := i32_lo v2
    have u2 : v2.toInt ≤ (2147483647 : Int) := i32_hi v2
    by_cases k2_0 : v2.toInt ≤ ((-2) : Int)
    ·
      exact ⟨(-1), (CtI.toS (c_X11_text_24 l D cI cZ cB cJ a0 a1 a2 a3 a4 a5 a6 a7 a8 a9 a10 a11 a12 a13 a14 a15 a16 a17 a18 a19 a20 a21 a22 a23 a24 a25 a26 a27 a28 a29 a30 a31 a32 a33 b0 b1 b2 b3 b4 b5 b6 b7 b8 b9 b10 b11 b12 b13 b14 b15 b16 b17 b18 b19 fx v1 v2 l2_0 k2_0)), (c_X12_text_19 l D cI cZ cB cJ c0 c1 c2 c3 c4 c5 c6 c7 c8 c9 c10 c11 c12 c13 c14 c15 c16 c17 c18 c19 c20 c21 c22 c23 c24 d0 d1 d2 d3 d4 d5 d6 d7 d8 d9 d10 d11 d12 d13 d14 d15 d16 d17 d18 d19 d20 d21 d22 d23 d24 d25 d26 d27 d28 d29 d30 d31 d32 d33 d34 d35 d36 d37 d38 d39 d40 d41 d42 d43 d44 d45 fm v1 v2 l1_2 u1)⟩
    have l2_1 : ((-1) : Int) ≤ v2.toInt := by omega
    exact ⟨(-1), (CtI.toS (c_X11_text_28 l D cI cZ cB cJ a0 a1 a2 a3 a4 a5 a6 a7 a8 a9 a10 a11 a12 a13 a14 a15 a16 a17 a18 a19 a20 a21 a22 a23 a24 a25 a26 a27 a28 a29 a30 a31 a32 a33 b0 b1 b2 b3 b4 b5 b6 b7 b8 b9 b10 b11 b12 b13 b14 b15 b16 b17 b18 b19 fx v1 v2 l1_2 u1 l2_1 u2)), (c_X12_text_19 l D cI cZ cB cJ c0 c1 c2 c3 c4 c5 c6 c7 c8 c9 c10 c11 c12 c13 c14 c15 c16 c17 c18 c19 c20 c21 c22 c23 c24 d0 d1 d2 d3 d4 d5 d6 d7 d8 d9 d10 d11 d12 d13 d14 d15 d16 d17 d18 d19 d20 d21 d22 d23 d24 d25 d26 d27 d28 d29 d30 d31 d32 d33 d34 d35 d36 d37 d38 d39 d40 d41 d42 d43 d44 d45 fm v1 v2 l1_2 u1)⟩
  have l0_5 : (4 : Int) ≤ v0.toInt := by omega
  by_cases k0_5 : v0.toInt ≤ (4 : Int)
  ·
    obtain rfl : v0 = 4 := pt (by decide +kernel : (4 : Int32).toInt = (4 : Int)) l0_5 k0_5
    have l1_0 : (-2147483648 : Int) ≤ v1.toInt := i32_lo v1
    have u1 : v1.toInt ≤ (2147483647 : Int) := i32_hi v1
    by_cases k1_0 : v1.toInt ≤ ((-1) : Int)
    ·
      have l2_0 : (-2147483648 : Int) ≤ v2.toInt := i32_lo v2
      have u2 : v2.toInt ≤ (2147483647 : Int) := i32_hi v2
      by_cases k2_0 : v2.toInt ≤ ((-2) : Int)
      ·
        exact ⟨(-1), (CtI.toS (c_X11_text_29 l D cI cZ cB cJ a0 a1 a2 a3 a4 a5 a6 a7 a8 a9 a10 a11 a12 a13 a14 a15 a16 a17 a18 a19 a20 a21 a22 a23 a24 a25 a26 a27 a28 a29 a30 a31 a32 a33 b0 b1 b2 b3 b4 b5 b6 b7 b8 b9 b10 b11 b12 b13 b14 b15 b16 b17 b18 b19 fx v1 v2 l2_0 k2_0)), (c_X12_text_20 l D cI cZ cB cJ c0 c1 c2 c3 c4 c5 c6 c7 c8 c9 c10 c11 c12 c13 c14 c15 c16 c17 c18 c19 c20 c21 c22 c23 c24 d0 d1 d2 d3 d4 d5 d6 d7 d8 d9 d10 d11 d12 d13 d14 d15 d16 d17 d18 d19 d20 d21 d22 d23 d24 d25 d26 d27 d28 d29 d30 d31 d32 d33 d34 d35 d36 d37 d38 d39 d40 d41 d42 d43 d44 d45 fm v1 v2 l1_0 k1_0)⟩
      have l2_1 : ((-1) : Int) ≤ v2.toInt := by omega
      exact ⟨(-1), (CtI.toS (c_X11_text_30 l D cI cZ cB cJ a0 a1 a2 a3 a4 a5 a6 a7 a8 a9 a10 a11 a12 a13 a14 a15 a16 a17 a18 a19 a20 a21 a22 a23 a24 a25 a26 a27 a28 a29 a30 a31 a32 a33 b0 b1 b2 b3 b4 b5 b6 b7 b8 b9 b10 b11 b12 b13 b14 b15 b16 b17 b18 b19 fx v1 v2 l1_0 k1_0 l2_1 u2)), (c_X12_text_20 l D cI cZ cB cJ c0 c1 c2 c3 c4 c5 c6 c7 c8 c9 c10 c11 c12 c13 c14 c15 c16 c17 c18 c19 c20 c21 c22 c23 c24 d0 d1 d2 d3 d4 d5 d6 d7 d8 d9 d10 d11 d12 d13 d14 d15 d16 d17 d18 d19 d20 d21 d22 d23 d24 d25 d26 d27 d28 d29 d30 d31 d32 d33 d34 d35 d36 d37 d38 d39 d40 d41 d42 d43 d44 d45 fm v1 v2 l1_0 k1_0)⟩
    have l1_1 : (0 : Int) ≤ v1.toInt := by omega
    by_cases k1_1 : v1.toInt ≤ (0 : Int)
    ·
      obtain rfl : v1 = 0 := pt (by decide +kernel : (0 : Int32).toInt = (0 : Int)) l1_1 k1_1
      have l2_0 : (-2147483648 : Int) ≤ v2.toInt := i32_lo v2
      have u2 : v2.toInt ≤ (2147483647 : Int) := i32_hi v2
      by_cases k2_0 : v2.toInt ≤ ((-2) : Int)
      ·
        exact ⟨(-1), (CtI.toS (c_X11_text_31 l D cI cZ cB cJ a0 a1 a2 a3 a4 a5 a6 a7 a8 a9 a10 a11 a12 a13 a14 a15 a16 a17 a18 a19 a20 a21 a22 a23 a24 a25 a26 a27 a28 a29 a30 a31 a32 a33 b0 b1 b2 b3 b4 b5 b6 b7 b8 b9 b10 b11 b12 b13 b14 b15 b16 b17 b18 b19 fx v2 l2_0 k2_0)), (c_X12_text_21 l D cI cZ cB cJ c0 c1 c2 c3 c4 c5 c6 c7 c8 c9 c10 c11 c12 c13 c14 c15 c16 c17 c18 c19 c20 c21 c22 c23 c24 d0 d1 d2 d3 d4 d5 d6 d7 d8 d9 d10 d11 d12 d13 d14 d15 d16 d17 d18 d19 d20 d21 d22 d23 d24 d25 d26 d27 d28 d29 d30 d31 d32 d33 d34 d35 d36 d37 d38 d39 d40 d41 d42 d43 d44 d45 fm v2)⟩
      have l2_1 : ((-1) : Int) ≤ v2.toInt := by omega
      exact ⟨(-1), (CtI.toS (c_X11_text_32 l D cI cZ cB cJ a0 a1 a2 a3 a4 a5 a6 a7 a8 a9 a10 a11 a12 a13 a14 a15 a16 a17 a18 a19 a20 a21 a22 a23 a24 a25 a26 a27 a28 a29 a30 a31 a32 a33 b0 b1 b2 b3 b4 b5 b6 b7 b8 b9 b10 b11 b12 b13 b14 b15 b16 b17 b18 b19 fx v2 l2_1 u2)), (c_X12_text_21 l D cI cZ cB cJ c0 c1 c2 c3 c4 c5 c6 c7 c8 c9 c10 c11 c12 c13 c14 c15 c16 c17 c18 c19 c20 c21 c22 c23 c24 d0 d1 d2 d3 d4 d5 d6 d7 d8 d9 d10 d11 d12 d13 d14 d15 d16 d17 d18 d19 d20 d21 d22 d23 d24 d25 d26 d27 d28 d29 d30 d31 d32 d33 d34 d35 d36 d37 d38 d39 d40 d41 d42 d43 d44 d45 fm v2)⟩
    have l1_2 : (1 : Int) ≤ v1.toInt := by omega
    have l2_0 : (-2147483648 : Int) ≤ v2.toInt := i32_lo v2
    have u2 : v2.toInt ≤ (2147483647 : Int) := i32_hi v2
    by_cases k2_0 : v2.toInt ≤ ((-2) : Int)
    ·
      exact ⟨(-1), (CtI.toS (c_X11_text_29 l D cI cZ cB cJ a0 a1 a2 a3 a4 a5 a6 a7 a8 a9 a10 a11 a12 a13 a14 a15 a16 a17 a18 a19 a20 a21 a22 a23 a24 a25 a26 a27 a28 a29 a30 a31 a32 a33 b0 b1 b2 b3 b4 b5 b6 b7 b8 b9 b10 b11 b12 b13 b14 b15 b16 b17 b18 b19 fx v1 v2 l2_0 k2_0)), (c_X12_text_22 l D cI cZ cB cJ c0 c1 c2 c3 c4 c5 c6 c7 c8 c9 c10 c11 c12 c13 c14 c15 c16 c17 c18 c19 c20 c21 c22 c23 c24 d0 d1 d2 d3 d4 d5 d6 d7 d8 d9 d10 d11 d12 d13 d14 d15 d16 d17 d18 d19 d20 d21 d22 d23 d24 d25 d26 d27 d28 d29 d30 d31 d32 d33 d34 d35 d36 d37 d38 d39 d40 d41 d42 d43 d44 d45 fm v1 v2 l1_2 u1)⟩
    have l2_1 : ((-1) : Int) ≤ v2.toInt := by omega
    exact ⟨(-1), (CtI.toS (c_X11_text_33 l D cI cZ cB cJ a0 a1 a2 a3 a4 a5 a6 a7 a8 a9 a10 a11 a12 a13 a14 a15 a16 a17 a18 a19 a20 a21 a22 a23 a24 a25 a26 a27 a28 a29 a30 a31 a32 a33 b0 b1 b2 b3 b4 b5 b6 b7 b8 b9 b10 b11 b12 b13 b14 b15 b16 b17 b18 b19 fx v1 v2 l1_2 u1 l2_1 u2)), (c_X12_text_22 l D cI cZ cB cJ c0 c1 c2 c3 c4 c5 c6 c7 c8 c9 c10 c11 c12 c13 c14 c15 c16 c17 c18 c19 c20 c21 c22 c23 c24 d0 d1 d2 d3 d4 d5 d6 d7 d8 d9 d10 d11 d12 d13 d14 d15 d16 d17 d18 d19 d20 d21 d22 d23 d24 d25 d26 d27 d28 d29 d30 d31 d32 d33 d34 d35 d36 d37 d38 d39 d40 d41 d42 d43 d44 d45 fm v1 v2 l1_2 u1)⟩
  have l0_6 : (5 : Int) ≤ v0.toInt := by omega
  by_cases k0_6 : v0.toInt ≤ (5 : Int)
  ·
    obtain rfl : v0 = 5 := pt (by decide +kernel : (5 : Int32).toInt = (5 : Int)) l0_6 k0_6
    have l1_0 : (-2147483648 : Int) ≤ v1.toInt := i32_lo v1
    have u1 : v1.toInt ≤ (2147483647 : Int) := i32_hi v1
    by_cases k1_0 : v1.toInt ≤ ((-1) : Int)
    ·
      have l2_0 : (-2147483648 : Int) ≤ v2.toInt := i32_lo v2
      have u2 : v2.toInt ≤ (2147483647 : Int) := i32_hi v2
      by_cases k2_0 : v2.toInt ≤ ((-2) : Int)
      ·
        exact ⟨(-1), (CtI.toS (c_X11_text_34 l D cI cZ cB cJ a0 a1 a2 a3 a4 a5 a6 a7 a8 a9 a10 a11 a12 a13 a14 a15 a16 a17 a18 a19 a20 a21 a22 a23 a24 a25 a26 a27 a28 a29 a30 a31 a32 a33 b0 b1 b2 b3 b4 b5 b6 b7 b8 b9 b10 b11 b12 b13 b14 b15 b16 b17 b18 b19 fx v1 v2 l2_0 k2_0)), (c_X12_text_23 l D cI cZ cB cJ c0 c1 c2 c3 c4 c5 c6 c7 c8 c9 c10 c11 c12 c13 c14 c15 c16 c17 c18 c19 c20 c21 c22 c23 c24 d0 d1 d2 d3 d4 d5 d6 d7 d8 d9 d10 d11 d12 d13 d14 d15 d16 d17 d18 d19 d20 d21 d22 d23 d24 d25 d26 d27 d28 d29 d30 d31 d32 d33 d34 d35 d36 d37 d38 d39 d40 d41 d42 d43 d44 d45 fm v1 v2 l1_0 k1_0)⟩
      have l2_1 : ((-1) : Int) ≤ v2.toInt := by omega
      exact ⟨(-1), (CtI.toS (c_X11_text_35 l D cI cZ cB cJ a0 a1 a2 a3 a4 a5 a6 a7 a8 a9 a10 a11 a12 a13 a14 a15 a16 a17 a18 a19 a20 a21 a22 a23 a24 a25 a26 a27 a28 a29 a30 a31 a32 a33 b0 b1 b2 b3 b4 b5 b6 b7 b8 b9 b10 b11 b12 b13 b14 b15 b16 b17 b18 b19 fx v1 v2 l1_0 k1_0 l2_1 u2)), (c_X12_text_23 l D cI cZ cB cJ c0 c1 c2 c3 c4 c5 c6 c7 c8 c9 c10 c11 c12 c13 c14 c15 c16 c17 c18 c19 c20 c21 c22 c23 c24 d0 d1 d2 d3 d4 d5 d6 d7 d8 d9 d10 d11 d12 d13 d14 d15 d16 d17 d18 d19 d20 d21 d22 d23 d24 d25 d26 d27 d28 d29 d30 d31 d32 d33 d34 d35 d36 d37 d38 d39 d40 d41 d42 d43 d44 d45 fm v1 v2 l1_0 k1_0)⟩
    have l1_1 : (0 : Int) ≤ v1.toInt := by omega
    by_cases k1_1 : v1.toInt ≤ (0 : Int)
    ·
      obtain rfl : v1 = 0 := pt (by decide +kernel : (0 : Int32).toInt = (0 : Int)) l1_1 k1_1
      have l2_0 : (-2147483648 : Int) ≤ v2.toInt := i32_lo v2
      have u2 : v2.toInt ≤ (2147483647 : Int) := i32_hi v2
      by_cases k2_0 : v2.toInt ≤ ((-2) : Int)
      ·
        exact ⟨(-1), (CtI.toS (c_X11_text_36 l D cI cZ cB cJ a0 a1 a2 a3 a4 a5 a6 a7 a8 a9 a10 a11 a12 a13 a14 a15 a16 a17 a18 a19 a20 a21 a22 a23 a24 a25 a26 a27 a28 a29 a30 a31 a32 a33 b0 b1 b2 b3 b4 b5 b6 b7 b8 b9 b10 b11 b12 b13 b14 b15 b16 b17 b18 b19 fx v2 l2_0 k2_0)), (c_X12_text_24 l D cI cZ cB cJ c0 c1 c2 c3 c4 c5 c6 c7 c8 c9 c10 c11 c12 c13 c14 c15 c16 c17 c18 c19 c20 c21 c22 c23 c24 d0 d1 d2 d3 d4 d5 d6 d7 d8 d9 d10 d11 d12 d13 d14 d15 d16 d17 d18 d19 d20 d21 d22 d23 d24 d25 d26 d27 d28 d29 d30 d31 d32 d33 d34 d35 d36 d37 d38 d39 d40 d41 d42 d43 d44 d45 fm v2)⟩
      have l2_1 : ((-1) : Int) ≤ v2.toInt := by omega
      exact ⟨(-1), (CtI.toS (c_X11_text_37 l D cI cZ cB cJ a0 a1 a2 a3 a4 a5 a6 a7 a8 a9 a10 a11 a12 a13 a14 a15 a16 a17 a18 a19 a20 a21 a22 a23 a24 a25 a26 a27 a28 a29 a30 a31 a32 a33 b0 b1 b2 b3 b4 b5 b6 b7 b8 b9 b10 b11 b12 b13 b14 b15 b16 b17 b18 b19 fx v2 l2_1 u2)), (c_X12_text_24 l D cI cZ cB cJ c0 c1 c2 c3 c4 c5 c6 c7 c8 c9 c10 c11 c12 c13 c14 c15 c16 c17 c18 c19 c20 c21 c22 c23 c24 d0 d1 d2 d3 d4 d5 d6 d7 d8 d9 d10 d11 d12 d13 d14 d15 d16 d17 d18 d19 d20 d21 d22 d23 d24 d25 d26 d27 d28 d29 d30 d31 d32 d33 d34 d35 d36 d37 d38 d39 d40 d41 d42 d43 d44 d45 fm v2)⟩
    have l1_2 : (1 : Int) ≤ v1.toInt := by omega
    have l2_0 : (-2147483648 : Int) ≤ v2.toInt := i32_lo v2
    have u2 : v2.toInt ≤ (2147483647 : Int) := i32_hi v2
    by_cases k2_0 : v2.toInt ≤ ((-2) : Int)
    ·
      exact ⟨(-1), (CtI.toS (c_X11_text_34 l D cI cZ cB cJ a0 a1 a2 a3 a4 a5 a6 a7 a8 a9 a10 a11 a12 a13 a14 a15 a16 a17 a18 a19 a20 a21 a22 a23 a24 a25 a26 a27 a28 a29 a30 a31 a32 a33 b0 b1 b2 b3 b4 b5 b6 b7 b8 b9 b10 b11 b12 b13 b14 b15 b16 b17 b18 b19 fx v1 v2 l2_0 k2_0)), (c_X12_text_25 l D cI cZ cB cJ c0 c1 c2 c3 c4 c5 c6 c7 c8 c9 c10 c11 c12 c13 c14 c15 c16 c17 c18 c19 c20 c21 c22 c23 c24 d0 d1 d2 d3 d4 d5 d6 d7 d8 d9 d10 d11 d12 d13 d14 d15 d16 d17 d18 d19 d20 d21 d22 d23 d24 d25 d26 d27 d28 d29 d30 d31 d32 d33 d34 d35 d36 d37 d38 d39 d40 d41 d42 d43 d44 d45 fm v1 v2 l1_2 u1)⟩
    have l2_1 : ((-1) : Int) ≤ v2.toInt := by omega
    exact ⟨(-1), (CtI.toS (c_X11_text_38 l D cI cZ cB cJ a0 a1 a2 a3 a4 a5 a6 a7 a8 a9 a10 a11 a12 a13 a14 a15 a16 a17 a18 a19 a20 a21 a22 a23 a24 a25 a26 a27 a28 a29 a30 a31 a32 a33 b0 b1 b2 b3 b4 b5 b6 b7 b8 b9 b10 b11 b12 b13 b14 b15 b16 b17 b18 b19 fx v1 v2 l1_2 u1 l2_1 u2)), (c_X12_text_25 l D cI cZ cB cJ c0 c1 c2 c3 c4 c5 c6 c7 c8 c9 c10 c11 c12 c13 c14 c15 c16 c17 c18 c19 c20 c21 c22 c23 c24 d0 d1 d2 d3 d4 d5 d6 d7 d8 d9 d10 d11 d12 d13 d14 d15 d16 d17 d18 d19 d20 d21 d22 d23 d24 d25 d26 d27 d28 d29 d30 d31 d32 d33 d34 d35 d36 d37 d38 d39 d40 d41 d42 d43 d44 d45 fm v1 v2 l1_2 u1)⟩
  have l0_7 : (6 : Int) ≤ v0.toInt := by omega
  by_cases k0_7 : v0.toInt ≤ (6 : Int)
  ·
    obtain rfl : v0 = 6 := pt (by decide +kernel : (6 : Int32).toInt = (6 : Int)) l0_7 k0_7
    have l1_0 : (-2147483648 : Int) ≤ v1.toInt := i32_lo v1
    have u1 : v1.toInt ≤ (2147483647 : Int) := i32_hi v1
    by_cases k1_0 : v1.toInt ≤ ((-1) : Int)
    ·
      have l2_0 : (-2147483648 : Int) ≤ v2.toInt := i32_lo v2
      have u2 : v2.toInt ≤ (2147483647 : Int) := i32_hi v2
      by_cases k2_0 : v2.toInt ≤ ((-2) : Int)
      ·
        exact ⟨(-1), (CtI.toS (c_X11_text_39 l D cI cZ cB cJ a0 a1 a2 a3 a4 a5 a6 a7 a8 a9 a10 a11 a12 a13 a14 a15 a16 a17 a18 a19 a20 a21 a22 a23 a24 a25 a26 a27 a28 a29 a30 a31 a32 a33 b0 b1 b2 b3 b4 b5 b6 b7 b8 b9 b10 b11 b12 b13 b14 b15 b16 b17 b18 b19 fx v1 v2 l2_0 k2_0)), (c_X12_text_26 l D cI cZ cB cJ c0 c1 c2 c3 c4 c5 c6 c7 c8 c9 c10 c11 c12 c13 c14 c15 c16 c17 c18 c19 c20 c21 c22 c23 c24 d0 d1 d2 d3 d4 d5 d6 d7 d8 d9 d10 d11 d12 d13 d14 d15 d16 d17 d18 d19 d20 d21 d22 d23 d24 d25 d26 d27 d28 d29 d30 d31 d32 d33 d34 d35 d36 d37 d38 d39 d40 d41 d42 d43 d44 d45 fm v1 v2 l1_0 k1_0)⟩
      have l2_1 : ((-1) : Int) ≤ v2.toInt := by omega
      exact ⟨(-1), (CtI.toS (c_X11_text_40 l D cI cZ cB cJ a0 a1 a2 a3 a4 a5 a6 a7 a8 a9 a10 a11 a12 a13 a14 a15 a16 a17 a18 a19 a20 a21 a22 a23 a24 a25 a26 a27 a28 a29 a30 a31 a32 a33 b0 b1 b2 b3 b4 b5 b6 b7 b8 b9 b10 b11 b12 b13 b14 b15 b16 b17 b18 b19 fx v1 v2 l1_0 k1_0 l2_1 u2)), (c_X12_text_26 l D cI cZ cB cJ c0 c1 c2 c3 c4 c5 c6 c7 c8 c9 c10 c11 c12 c13 c14 c15 c16 c17 c18 c19 c20 c21 c22 c23 c24 d0 d1 d2 d3 d4 d5 d6 d7 d8 d9 d10 d11 d12 d13 d14 d15 d16 d17 d18 d19 d20 d21 d22 d23 d24 d25 d26 d27 d28 d29 d30 d31 d32 d33 d34 d35 d36 d37 d38 d39 d40 d41 d42 d43 d44 d45 fm v1 v2 l1_0 k1_0)⟩
    have l1_1 : (0 : Int) ≤ v1.toInt := by omega
    by_cases k1_1 : v1.toInt ≤ (0 : Int)
    ·
      obtain rfl : v1 = 0 := pt (by decide +kernel : (0 : Int32).toInt = (0 : Int)) l1_1 k1_1
      have l2_0 : (-2147483648 : Int) ≤ v2.toInt := i32_lo v2
      have u2 : v2.toInt ≤ (2147483647 : Int) := i32_hi v2
      by_cases k2_0 : v2.toInt ≤ ((-2) : Int)
      ·
        exact ⟨(-1), (CtI.toS (c_X11_text_41 l D cI cZ cB cJ a0 a1 a2 a3 a4 a5 a6 a7 a8 a9 a10 a11 a12 a13 a14 a15 a16 a17 a18 a19 a20 a21 a22 a23 a24 a25 a26 a27 a28 a29 a30 a31 a32 a33 b0 b1 b2 b3 b4 b5 b6 b7 b8 b9 b10 b11 b12 b13 b14 b15 b16 b17 b18 b19 fx v2 l2_0 k2_0)), (c_X12_text_27 l D cI cZ cB cJ c0 c1 c2 c3 c4 c5 c6 c7 c8 c9 c10 c11 c12 c13 c14 c15 c16 c17 c18 c19 c20 c21 c22 c23 c24 d0 d1 d2 d3 d4 d5 d6 d7 d8 d9 d10 d11 d12 d13 d14 d15 d16 d17 d18 d19 d20 d21 d22 d23 d24 d25 d26 d27 d28 d29 d30 d31 d32 d33 d34 d35 d36 d37 d38 d39 d40 d41 d42 d43 d44 d45 fm v2)⟩
      have l2_1 : ((-1) : Int) ≤ v2.toInt := by omega
      exact ⟨(-1), (CtI.toS (c_X11_text_42 l D cI cZ cB cJ a0 a1 a2 a3 a4 a5 a6 a7 a8 a9 a10 a11 a12 a13 a14 a15 a16 a17 a18 a19 a20 a21 a22 a23 a24 a25 a26 a27 a28 a29 a30 a31 a32 a33 b0 b1 b2 b3 b4 b5 b6 b7 b8 b9 b10 b11 b12 b13 b14 b15 b16 b17 b18 b19 fx v2 l2_1 u2)), (c_X12_text_27 l D cI cZ cB cJ c0 c1 c2 c3 c4 c5 c6 c7 c8 c9 c10 c11 c12 c13 c14 c15 c16 c17 c18 c19 c20 c21 c22 c23 c24 d0 d1 d2 d3 d4 d5 d6 d7 d8 d9 d10 d11 d12 d13 d14 d15 d16 d17 d18 d19 d20 d21 d22 d23 d24 d25 d26 d27 d28 d29 d30 d31 d32 d33 d34 d35 d36 d37 d38 d39 d40 d41 d42 d43 d44 d45 fm v2)⟩
    have l1_2 : (1 : Int) ≤ v1.toInt := by omega
    have l2_0 : (-2147483648 : Int) ≤ v2.toInt := i32_lo v2
    have u2 : v2.toInt ≤ (2147483647 : Int) := i32_hi v2
    by_cases k2_0 : v2.toInt ≤ ((-2) : Int)
    ·
      exact ⟨(-1), (CtI.toS (c_X11_text_39 l D cI cZ cB cJ a0 a1 a2 a3 a4 a5 a6 a7 a8 a9 a10 a11 a12 a13 a14 a15 a16 a17 a18 a19 a20 a21 a22 a23 a24 a25 a26 a27 a28 a29 a30 a31 a32 a33 b0 b1 b2 b3 b4 b5 b6 b7 b8 b9 b10 b11 b12 b13 b14 b15 b16 b17 b18 b19 fx v1 v2 l2_0 k2_0)), (c_X12_text_28 l D cI cZ cB cJ c0 c1 c2 c3 c4 c5 c6 c7 c8 c9 c10 c11 c12 c13 c14 c15 c16 c17 c18 c19 c20 c21 c22 c23 c24 d0 d1 d2 d3 d4 d5 d6 d7 d8 d9 d10 d11 d12 d13 d14 d15 d16 d17 d18 d19 d20 d21 d22 d23 d24 d25 d26 d27 d28 d29 d30 d31 d32 d33 d34 d35 d36 d37 d38 d39 d40 d41 d42 d43 d44 d45 fm v1 v2 l1_2 u1)⟩
    have l2_1 : ((-1) : Int) ≤ v2.toInt := by omega
    exact ⟨(-1), (CtI.toS (c_X11_text_43 l D cI cZ cB cJ a0 a1 a2 a3 a4 a5 a6 a7 a8 a9 a10 a11 a12 a13 a14 a15 a16 a17 a18 a19 a20 a21 a22 a23 a24 a25 a26 a27 a28 a29 a30 a31 a32 a33 b0 b1 b2 b3 b4 b5 b6 b7 b8 b9 b10 b11 b12 b13 b14 b15 b16 b17 b18 b19 fx v1 v2 l1_2 u1 l2_1 u2)), (c_X12_text_28 l D cI cZ cB cJ c0 c1 c2 c3 c4 c5 c6 c7 c8 c9 c10 c11 c12 c13 c14 c15 c16 c17 c18 c19 c20 c21 c22 c23 c24 d0 d1 d2 d3 d4 d5 d6 d7 d8 d9 d10 d11 d12 d13 d14 d15 d16 d17 d18 d19 d20 d21 d22 d23 d24 d25 d26 d27 d28 d29 d30 d31 d32 d33 d34 d35 d36 d37 d38 d39 d40 d41 d42 d43 d44 d45 fm v1 v2 l1_2 u1)⟩
  have l0_8 : (7 : Int) ≤ v0.toInt := by omega
  by_cases k0_8 : v0.toInt ≤ (7 : Int)
  ·
    obtain rfl : v0 = 7 := pt (by decide +kernel : (7 : Int32).toInt = (7 : Int)) l0_8 k0_8
    have l1_0 : (-2147483648 : Int) ≤ v1.toInt := i32_lo v1
    have u1 : v1.toInt ≤ (2147483647 : Int) := i32_hi v1
    by_cases k1_0 : v1.toInt ≤ ((-1) : Int)
    ·
      have l2_0 : (-2147483648 : Int) ≤ v2.toInt := i32_lo v2
      have u2 : v2.toInt ≤ (2147483647 : Int) := i32_hi v2
      by_cases k2_0 : v2.toInt ≤ ((-2) : Int)
      ·
        exact ⟨(-1), (CtI.toS (c_X11_text_44 l D cI cZ cB cJ a0 a1 a2 a3 a4 a5 a6 a7 a8 a9 a10 a11 a12 a13 a14 a15 a16 a17 a18 a19 a20 a21 a22 a23 a24 a25 a26 a27 a28 a29 a30 a31 a32 a33 b0 b1 b2 b3 b4 b5 b6 b7 b8 b9 b10 b11 b12 b13 b14 b15 b16 b17 b18 b19 fx v1 v2 l2_0 k2_0)), (c_X12_text_29 l D cI cZ cB cJ c0 c1 c2 c3 c4 c5 c6 c7 c8 c9 c10 c11 c12 c13 c14 c15 c16 c17 c18 c19 c20 c21 c22 c23 c24 d0 d1 d2 d3 d4 d5 d6 d7 d8 d9 d10 d11 d12 d13 d14 d15 d16 d17 d18 d19 d20 d21 d22 d23 d24 d25 d26 d27 d28 d29 d30 d31 d32 d33 d34 d35 d36 d37 d38 d39 d40 d41 d42 d43 d44 d45 fm v1 v2 l1_0 k1_0)⟩
      have l2_1 : ((-1) : Int) ≤ v2.toInt := by omega
      exact ⟨(-1), (CtI.toS (c_X11_text_45 l D cI cZ cB cJ a0 a1 a2 a3 a4 a5 a6 a7 a8 a9 a10 a11 a12 a13 a14 a15 a16 a17 a18 a19 a20 a21 a22 a23 a24 a25 a26 a27 a28 a29 a30 a31 a32 a33 b0 b1 b2 b3 b4 b5 b6 b7 b8 b9 b10 b11 b12 b13 b14 b15 b16 b17 b18 b19 fx v1 v2 l1_0 k1_0 l2_1 u2)), (c_X12_text_29 l D cI cZ cB cJ c0 c1 c2 c3 c4 c5 c6 c7 c8 c9 c10 c11 c12 c13 c14 c15 c16 c17 c18 c19 c20 c21 c22 c23 c24 d0 d1 d2 d3 d4 d5 d6 d7 d8 d9 d10 d11 d12 d13 d14 d15 d16 d17 d18 d19 d20 d21 d22 d23 d24 d25 d26 d27 d28 d29 d30 d31 d32 d33 d34 d35 d36 d37 d38 d39 d40 d41 d42 d43 d44 d45 fm v1 v2 l1_0 k1_0)⟩
    have l1_1 : (0 : Int) ≤ v1.toInt := by omega
    by_cases k1_1 : v1.toInt ≤ (0 : Int)
    ·
      obtain rfl : v1 = 0 := pt (by decide +kernel : (0 : Int32).toInt = (0 : Int)) l1_1 k1_1
      have l2_0 : (-2147483648 : Int) ≤ v2.toInt := i32_lo v2
      have u2 : v2.toInt ≤ (2147483647 : Int) := i32_hi v2
      by_cases k2_0 : v2.toInt ≤ ((-2) : Int)
      ·
        exact ⟨(-1), (CtI.toS (c_X11_text_46 l D cI cZ cB cJ a0 a1 a2 a3 a4 a5 a6 a7 a8 a9 a10 a11 a12 a13 a14 a15 a16 a17 a18 a19 a20 a21 a22 a23 a24 a25 a26 a27 a28 a29 a30 a31 a32 a33 b0 b1 b2 b3 b4 b5 b6 b7 b8 b9 b10 b11 b12 b13 b14 b15 b16 b17 b18 b19 fx v2 l2_0 k2_0)), (c_X12_text_30 l D cI cZ cB cJ c0 c1 c2 c3 c4 c5 c6 c7 c8 c9 c10 c11 c12 c13 c14 c15 c16 c17 c18 c19 c20 c21 c22 c23 c24 d0 d1 d2 d3 d4 d5 d6 d7 d8 d9 d10 d11 d12 d13 d14 d15 d16 d17 d18 d19 d20 d21 d22 d23 d24 d25 d26 d27 d28 d29 d30 d31 d32 d33 d34 d35 d36 d37 d38 d39 d40 d41 d42 d43 d44 d45 fm v2 l2_0 k2_0)⟩
      have l2_1 : ((-1) : Int) ≤ v2.toInt := by omega
      by_cases k2_1 : v2.toInt ≤ ((-1) : Int)
      ·
        obtain rfl : v2 = (-1) := pt (by decide +kernel : ((-1) : Int32).toInt = ((-1) : Int)) l2_1 k2_1
        exact ⟨1, (CtI.toS (c_X11_text_47 l D cI cZ cB cJ a0 a1 a2 a3 a4 a5 a6 a7 a8 a9 a10 a11 a12 a13 a14 a15 a16 a17 a18 a19 a20 a21 a22 a23 a24 a25 a26 a27 a28 a29 a30 a31 a32 a33 b0 b1 b2 b3 b4 b5 b6 b7 b8 b9 b10 b11 b12 b13 b14 b15 b16 b17 b18 b19 fx)), (c_X12_text_31 l D cI cZ cB cJ c0 c1 c2 c3 c4 c5 c6 c7 c8 c9 c10 c11 c12 c13 c14 c15 c16 c17 c18 c19 c20 c21 c22 c23 c24 d0 d1 d2 d3 d4 d5 d6 d7 d8 d9 d10 d11 d12 d13 d14 d15 d16 d17 d18 d19 d20 d21 d22 d23 d24 d25 d26 d27 d28 d29 d30 d31 d32 d33 d34 d35 d36 d37 d38 d39 d40 d41 d42 d43 d44 d45 fm)⟩
      have l2_2 : (0 : Int) ≤ v2.toInt := by omega
      by_cases k2_2 : v2.toInt ≤ (0 : Int)
      ·
        obtain rfl : v2 = 0 := pt (by decide +kernel : (0 : Int32).toInt = (0 : Int)) l2_2 k2_2
        exact ⟨48, (CtI.toS (c_X11_text_48 l D cI cZ cB cJ a0 a1 a2 a3 a4 a5 a6 a7 a8 a9 a10 a11 a12 a13 a14 a15 a16 a17 a18 a19 a20 a21 a22 a23 a24 a25 a26 a27 a28 a29 a30 a31 a32 a33 b0 b1 b2 b3 b4 b5 b6 b7 b8 b9 b10 b11 b12 b13 b14 b15 b16 b17 b18 b19 fx)), (c_X12_text_32 l D cI cZ cB cJ c0 c1 c2 c3 c4 c5 c6 c7 c8 c9 c10 c11 c12 c13 c14 c15 c16 c17 c18 c19 c20 c21 c22 c23 c24 d0 d1 d2 d3 d4 d5 d6 d7 d8 d9 d10 d11 d12 d13 d14 d15 d16 d17 d18 d19 d20 d21 d22 d23 d24 d25 d26 d27 d28 d29 d30 d31 d32 d33 d34 d35 d36 d37 d38 d39 d40 d41 d42 d43 d44 d45 fm)⟩
      have l2_3 : (1 : Int) ≤ v2.toInt := by omega
      exact ⟨(-4), (CtI.toS (c_X11_text_49 l D cI cZ cB cJ a0 a1 a2 a3 a4 a5 a6 a7 a8 a9 a10 a11 a12 a13 a14 a15 a16 a17 a18 a19 a20 a21 a22 a23 a24 a25 a26 a27 a28 a29 a30 a31 a32 a33 b0 b1 b2 b3 b4 b5 b6 b7 b8 b9 b10 b11 b12 b13 b14 b15 b16 b17 b18 b19 fx v2 l2_3 u2)), (c_X12_text_33 l D cI cZ cB cJ c0 c1 c2 c3 c4 c5 c6 c7 c8 c9 c10 c11 c12 c13 c14 c15 c16 c17 c18 c19 c20 c21 c22 c23 c24 d0 d1 d2 d3 d4 d5 d6 d7 d8 d9 d10 d11 d12 d13 d14 d15 d16 d17 d18 d19 d20 d21 d22 d23 d24 d25 d26 d27 d28 d29 d30 d31 d32 d33 d34 d35 d36 d37 d38 d39 d40 d41 d42 d43 d44 d45 fm v2 l2_3 u2)⟩
    have l1_2 : (1 : Int) ≤ v1.toInt := by omega
    have l2_0 : (-2147483648 : Int) ≤ v2.toInt := i32_lo v2
    have u2 : v2.toInt ≤ (2147483647 : Int) := i32_hi v2
    by_cases k2_0 : v2.toInt ≤ ((-2) : Int)
    ·
      exact ⟨(-1), (CtI.toS (c_X11_text_44 l D cI cZ cB cJ a0 a1 a2 a3 a4 a5 a6 a7 a8 a9 a10 a11 a12 a13 a14 a15 a16 a17 a18 a19 a20 a21 a22 a23 a24 a25 a26 a27 a28 a29 a30 a31 a32 a33 b0 b1 b2 b3 b4 b5 b6 b7 b8 b9 b10 b11 b12 b13 b14 b15 b16 b17 b18 b19 fx v1 v2 l2_0 k2_0)), (c_X12_text_34 l D cI cZ cB cJ c0 c1 c2 c3 c4 c5 c6 c7 c8 c9 c10 c11 c12 c13 c14 c15 c16 c17 c18 c19 c20 c21 c22 c23 c24 d0 d1 d2 d3 d4 d5 d6 d7 d8 d9 d10 d11 d12 d13 d14 d15 d16 d17 d18 d19 d20 d21 d22 d23 d24 d25 d26 d27 d28 d29 d30 d31 d32 d33 d34 d35 d36 d37 d38 d39 d40 d41 d42 d43 d44 d45 fm v1 v2 l1_2 u1)⟩
    have l2_1 : ((-1) : Int) ≤ v2.toInt := by omega
    exact ⟨(-1), (CtI.toS (c_X11_text_50 l D cI cZ cB cJ a0 a1 a2 a3 a4 a5 a6 a7 a8 a9 a10 a11 a12 a13 a14 a15 a16 a17 a18 a19 a20 a21 a22 a23 a24 a25 a26 a27 a28 a29 a30 a31 a32 a33 b0 b1 b2 b3 b4 b5 b6 b7 b8 b9 b10 b11 b12 b13 b14 b15 b16 b17 b18 b19 fx v1 v2 l1_2 u1 l2_1 u2)), (c_X12_text_34 l D cI cZ cB cJ c0 c1 c2 c3 c4 c5 c6 c7 c8 c9 c10 c11 c12 c13 c14 c15 c16 c17 c18 c19 c20 c21 c22 c23 c24 d0 d1 d2 d3 d4 d5 d6 d7 d8 d9 d10 d11 d12 d13 d14 d15 d16 d17 d18 d19 d20 d21 d22 d23 d24 d25 d26 d27 d28 d29 d30 d31 d32 d33 d34 d35 d36 d37 d38 d39 d40 d41 d42 d43 d44 d45 fm v1 v2 l1_2 u1)⟩
  have l0_9 : (8 : Int) ≤ v0.toInt := by omega
  by_cases k0_9 : v0.toInt ≤ (8 : Int)
  ·
    obtain rfl : v0 = 8 := pt (by decide +kernel : (8 : Int32).toInt = (8 : Int)) l0_9 k0_9
    have l1_0 : (-2147483648 : Int) ≤ v1.toInt := i32_lo v1
    have u1 : v1.toInt ≤ (2147483647 : Int) := i32_hi v1
    by_cases k1_0 : v1.toInt ≤ ((-1) : Int)
    ·
      have l2_0 : (-2147483648 : Int) ≤ v2.toInt := i32_lo v2
      have u2 : v2.toInt ≤ (2147483647 : Int) := i32_hi v2
      by_cases k2_0 : v2.toInt ≤ ((-2) : Int)
      ·
        exact ⟨(-1), (CtI.toS (c_X11_text_51 l D cI cZ cB cJ a0 a1 a2 a3 a4 a5 a6 a7 a8 a9 a10 a11 a12 a13 a14 a15 a16 a17 a18 a19 a20 a21 a22 a23 a24 a25 a26 a27 a28 a29 a30 a31 a32 a33 b0 b1 b2 b3 b4 b5 b6 b7 b8 b9 b10 b11 b12 b13 b14 b15 b16 b17 b18 b19 fx v1 v2 l2_0 k2_0)), (c_X12_text_35 l D cI cZ cB cJ c0 c1 c2 c3 c4 c5 c6 c7 c8 c9 c10 c11 c12 c13 c14 c15 c16 c17 c18 c19 c20 c21 c22 c23 c24 d0 d1 d2 d3 d4 d5 d6 d7 d8 d9 d10 d11 d12 d13 d14 d15 d16 d17 d18 d19 d20 d21 d22 d23 d24 d25 d26 d27 d28 d29 d30 d31 d32 d33 d34 d35 d36 d37 d38 d39 d40 d41 d42 d43 d44 d45 fm v1 v2 l1_0 k1_0)⟩
      have l2_1 : ((-1) : Int) ≤ v2.toInt := by omega
      exact ⟨(-1), (CtI.toS (c_X11_text_52 l D cI cZ cB cJ a0 a1 a2 a3 a4 a5 a6 a7 a8 a9 a10 a11 a12 a13 a14 a15 a16 a17 a18 a19 a20 a21 a22 a23 a24 a25 a26 a27 a28 a29 a30 a31 a32 a33 b0 b1 b2 b3 b4 b5 b6 b7 b8 b9 b10 b11 b12 b13 b14 b15 b16 b17 b18 b19 fx v1 v2 l1_0 k1_0 l2_1 u2)), (c_X12_text_35 l D cI cZ cB cJ c0 c1 c2 c3 c4 c5 c6 c7 c8 c9 c10 c11 c12 c13 c14 c15 c16 c17 c18 c19 c20 c21 c22 c23 c24 d0 d1 d2 d3 d4 d5 d6 d7 d8 d9 d10 d11 d12 d13 d14 d15 d16 d17 d18 d19 d20 d21 d22 d23 d24 d25 d26 d27 d28 d29 d30 d31 d32 d33 d34 d35 d36 d37 d38 d39 d40 d41 d42 d43 d44 d45 fm v1 v2 l1_0 k1_0)⟩
    have l1_1 : (0 : Int) ≤ v1.toInt := by omega
    by_cases k1_1 : v1.toInt ≤ (0 : Int)
    ·
      obtain rfl : v1 = 0 := pt (by decide +kernel : (0 : Int32).toInt = (0 : Int)) l1_1 k1_1
      have l2_0 : (-2147483648 : Int) ≤ v2.toInt := i32_lo v2
      have u2 : v2.toInt ≤ (2147483647 : Int) := i32_hi v2
      by_cases k2_0 : v2.toInt ≤ ((-2) : Int)
      ·
        exact ⟨(-1), (CtI.toS (c_X11_text_53 l D cI cZ cB cJ a0 a1 a2 a3 a4 a5 a6 a7 a8 a9 a10 a11 a12 a13 a14 a15 a16 a17 a18 a19 a20 a21 a22 a23 a24 a25 a26 a27 a28 a29 a30 a31 a32 a33 b0 b1 b2 b3 b4 b5 b6 b7 b8 b9 b10 b11 b12 b13 b14 b15 b16 b17 b18 b19 fx v2 l2_0 k2_0)), (c_X12_text_36 l D cI cZ cB cJ c0 c1 c2 c3 c4 c5 c6 c7 c8 c9 c10 c11 c12 c13 c14 c15 c16 c17 c18 c19 c20 c21 c22 c23 c24 d0 d1 d2 d3 d4 d5 d6 d7 d8 d9 d10 d11 d12 d13 d14 d15 d16 d17 d18 d19 d20 d21 d22 d23 d24 d25 d26 d27 d28 d29 d30 d31 d32 d33 d34 d35 d36 d37 d38 d39 d40 d41 d42 d43 d44 d45 fm v2 l2_0 k2_0)⟩
      have l2_1 : ((-1) : Int) ≤ v2.toInt := by omega
      by_cases k2_1 : v2.toInt ≤ ((-1) : Int)
      ·
        obtain rfl : v2 = (-1) := pt (by decide +kernel : ((-1) : Int32).toInt = ((-1) : Int)) l2_1 k2_1
        exact ⟨1, (CtI.toS (c_X11_text_54 l D cI cZ cB cJ a0 a1 a2 a3 a4 a5 a6 a7 a8 a9 a10 a11 a12 a13 a14 a15 a16 a17 a18 a19 a20 a21 a22 a23 a24 a25 a26 a27 a28 a29 a30 a31 a32 a33 b0 b1 b2 b3 b4 b5 b6 b7 b8 b9 b10 b11 b12 b13 b14 b15 b16 b17 b18 b19 fx)), (c_X12_text_37 l D cI cZ cB cJ c0 c1 c2 c3 c4 c5 c6 c7 c8 c9 c10 c11 c12 c13 c14 c15 c16 c17 c18 c19 c20 c21 c22 c23 c24 d0 d1 d2 d3 d4 d5 d6 d7 d8 d9 d10 d11 d12 d13 d14 d15 d16 d17 d18 d19 d20 d21 d22 d23 d24 d25 d26 d27 d28 d29 d30 d31 d32 d33 d34 d35 d36 d37 d38 d39 d40 d41 d42 d43 d44 d45 fm)⟩
      have l2_2 : (0 : Int) ≤ v2.toInt := by omega
      by_cases k2_2 : v2.toInt ≤ (0 : Int)
      ·
        obtain rfl : v2 = 0 := pt (by decide +kernel : (0 : Int32).toInt = (0 : Int)) l2_2 k2_2
        exact ⟨48, (CtI.toS (c_X11_text_55 l D cI cZ cB cJ a0 a1 a2 a3 a4 a5 a6 a7 a8 a9 a10 a11 a12 a13 a14 a15 a16 a17 a18 a19 a20 a21 a22 a23 a24 a25 a26 a27 a28 a29 a30 a31 a32 a33 b0 b1 b2 b3 b4 b5 b6 b7 b8 b9 b10 b11 b12 b13 b14 b15 b16 b17 b18 b19 fx)), (c_X12_text_38 l D cI cZ cB cJ c0 c1 c2 c3 c4 c5 c6 c7 c8 c9 c10 c11 c12 c13 c14 c15 c16 c17 c18 c19 c20 c21 c22 c23 c24 d0 d1 d2 d3 d4 d5 d6 d7 d8 d9 d10 d11 d12 d13 d14 d15 d16 d17 d18 d19 d20 d21 d22 d23 d24 d25 d26 d27 d28 d29 d30 d31 d32 d33 d34 d35 d36 d37 d38 d39 d40 d41 d42 d43 d44 d45 fm)⟩
      have l2_3 : (1 : Int) ≤ v2.toInt := by omega
      exact ⟨(-4), (CtI.toS (c_X11_text_56 l D cI cZ cB cJ a0 a1 a2 a3 a4 a5 a6 a7 a8 a9 a10 a11 a12 a13 a14 a15 a16 a17 a18 a19 a20 a21 a22 a23 a24 a25 a26 a27 a28 a29 a30 a31 a32 a33 b0 b1 b2 b3 b4 b5 b6 b7 b8 b9 b10 b11 b12 b13 b14 b15 b16 b17 b18 b19 fx v2 l2_3 u2)), (c_X12_text_39 l D cI cZ cB cJ c0 c1 c2 c3 c4 c5 c6 c7 c8 c9 c10 c11 c12 c13 c14 c15 c16 c17 c18 c19 c20 c21 c22 c23 c24 d0 d1 d2 d3 d4 d5 d6 d7 d8 d9 d10 d11 d12 d13 d14 d15 d16 d17 d18 d19 d20 d21 d22 d23 d24 d25 d26 d27 d28 d29 d30 d31 d32 d33 d34 d35 d36 d37 d38 d39 d40 d41 d42 d43 d44 d45 fm v2 l2_3 u2)⟩
    have l1_2 : (1 : Int) ≤ v1.toInt := by omega
    have l2_0 : (-2147483648 : Int) ≤ v2.toInt := i32_lo v2
    have u2 : v2.toInt ≤ (2147483647 : Int) := i32_hi v2
    by_cases k2_0 : v2.toInt ≤ ((-2) : Int)
    ·
      exact ⟨(-1), (CtI.toS (c_X11_text_51 l D cI cZ cB cJ a0 a1 a2 a3 a4 a5 a6 a7 a8 a9 a10 a11 a12 a13 a14 a15 a16 a17 a18 a19 a20 a21 a22 a23 a24 a25 a26 a27 a28 a29 a30 a31 a32 a33 b0 b1 b2 b3 b4 b5 b6 b7 b8 b9 b10 b11 b12 b13 b14 b15 b16 b17 b18 b19 fx v1 v2 l2_0 k2_0)), (c_X12_text_40 l D cI cZ cB cJ c0 c1 c2 c3 c4 c5 c6 c7 c8 c9 c10 c11 c12 c13 c14 c15 c16 c17 c18 c19 c20 c21 c22 c23 c24 d0 d1 d2 d3 d4 d5 d6 d7 d8 d9 d10 d11 d12 d13 d14 d15 d16 d17 d18 d19 d20 d21 d22 d23 d24 d25 d26 d27 d28 d29 d30 d31 d32 d33 d34 d35 d36 d37 d38 d39 d40 d41 d42 d43 d44 d45 fm v1 v2 l1_2 u1)⟩
    have l2_1 : ((-1) : Int) ≤ v2.toInt := by omega
    exact ⟨(-1), (CtI.toS (c_X11_text_57 l D cI cZ cB cJ a0 a1 a2 a3 a4 a5 a6 a7 a8 a9 a10 a11 a12 a13 a14 a15 a16 a17 a18 a19 a20 a21 a22 a23 a24 a25 a26 a27 a28 a29 a30 a31 a32 a33 b0 b1 b2 b3 b4 b5 b6 b7 b8 b9 b10 b11 b12 b13 b14 b15 b16 b17 b18 b19 fx v1 v2 l1_2 u1 l2_1 u2)), (c_X12_text_40 l D cI cZ cB cJ c0 c1 c2 c3 c4 c5 c6 c7 c8 c9 c10 c11 c12 c13 c14 c15 c16 c17 c18 c19 c20 c21 c22 c23 c24 d0 d1 d2 d3 d4 d5 d6 d7 d8 d9 d10 d11 d12 d13 d14 d15 d16 d17 d18 d19 d20 d21 d22 d23 d24 d25 d26 d27 d28 d29 d30 d31 d32 d33 d34 d35 d36 d37 d38 d39 d40 d41 d42 d43 d44 d45 fm v1 v2 l1_2 u1)⟩
  have l0_10 : (9 : Int) ≤ v0.toInt := by omega
  have l1_0 : (-2147483648 : Int) ≤ v1.toInt := i32_lo v1
  have u1 : v1.toInt ≤ (2147483647 : Int) := i32_hi v1
  by_cases k1_0 : v1.toInt ≤ ((-1) : Int)
  ·
    have l2_0 : (-2147483648 : Int) ≤ v2.toInt := i32_lo v2
    have u2 : v2.toInt ≤ (2147483647 : Int) := i32_hi v2
    by_cases k2_0 : v2.toInt ≤ ((-2) : Int)
    ·
      exact ⟨(-1), (CtI.toS (c_X11_text_0 l D cI cZ cB cJ a0 a1 a2 a3 a4 a5 a6 a7 a8 a9 a10 a11 a12 a13 a14 a15 a16 a17 a18 a19 a20 a21 a22 a23 a24 a25 a26 a27 a28 a29 a30 a31 a32 a33 b0 b1 b2 b3 b4 b5 b6 b7 b8 b9 b10 b11 b12 b13 b14 b15 b16 b17 b18 b19 fx v0 v1 v2 l2_0 k2_0)), (c_X12_text_41 l D cI cZ cB cJ c0 c1 c2 c3 c4 c5 c6 c7 c8 c9 c10 c11 c12 c13 c14 c15 c16 c17 c18 c19 c20 c21 c22 c23 c24 d0 d1 d2 d3 d4 d5 d6 d7 d8 d9 d10 d11 d12 d13 d14 d15 d16 d17 d18 d19 d20 d21 d22 d23 d24 d25 d26 d27 d28 d29 d30 d31 d32 d33 d34 d35 d36 d37 d38 d39 d40 d41 d42 d43 d44 d45 fm v0 v1 v2 l0_10 u0 l1_0 k1_0)⟩
    have l2_1 : ((-1) : Int) ≤ v2.toInt := by omega
    exact ⟨(-1), (CtI.toS (c_X11_text_1 l D cI cZ cB cJ a0 a1 a2 a3 a4 a5 a6 a7 a8 a9 a10 a11 a12 a13 a14 a15 a16 a17 a18 a19 a20 a21 a22 a23 a24 a25 a26 a27 a28 a29 a30 a31 a32 a33 b0 b1 b2 b3 b4 b5 b6 b7 b8 b9 b10 b11 b12 b13 b14 b15 b16 b17 b18 b19 fx v0 v1 v2 l1_0 k1_0 l2_1 u2)), (c_X12_text_41 l D cI cZ cB cJ c0 c1 c2 c3 c4 c5 c6 c7 c8 c9 c10 c11 c12 c13 c14 c15 c16 c17 c18 c19 c20 c21 c22 c23 c24 d0 d1 d2 d3 d4 d5 d6 d7 d8 d9 d10 d11 d12 d13 d14 d15 d16 d17 d18 d19 d20 d21 d22 d23 d24 d25 d26 d27 d28 d29 d30 d31 d32 d33 d34 d35 d36 d37 d38 d39 d40 d41 d42 d43 d44 d45 fm v0 v1 v2 l0_10 u0 l1_0 k1_0)⟩
  have l1_1 : (0 : Int) ≤ v1.toInt := by omega
  by_cases k1_1 : v1.toInt ≤ (0 : Int)
  ·
    obtain rfl : v1 = 0 := pt (by decide +kernel : (0 : Int32).toInt = (0 : Int)) l1_1 k1_1
    have l2_0 : (-2147483648 : Int) ≤ v2.toInt := i32_lo v2
    have u2 : v2.toInt ≤ (2147483647 : Int) := i32_hi v2
    by_cases k2_0 : v2.toInt ≤ ((-2) : Int)
    ·
      exact ⟨(-1), (CtI.toS (c_X11_text_2 l D cI cZ cB cJ a0 a1 a2 a3 a4 a5 a6 a7 a8 a9 a10 a11 a12 a13 a14 a15 a16 a17 a18 a19 a20 a21 a22 a23 a24 a25 a26 a27 a28 a29 a30 a31 a32 a33 b0 b1 b2 b3 b4 b5 b6 b7 b8 b9 b10 b11 b12 b13 b14 b15 b16 b17 b18 b19 fx v0 v2 l2_0 k2_0)), (c_X12_text_42 l D cI cZ cB cJ c0 c1 c2 c3 c4 c5 c6 c7 c8 c9 c10 c11 c12 c13 c14 c15 c16 c17 c18 c19 c20 c21 c22 c23 c24 d0 d1 d2 d3 d4 d5 d6 d7 d8 d9 d10 d11 d12 d13 d14 d15 d16 d17 d18 d19 d20 d21 d22 d23 d24 d25 d26 d27 d28 d29 d30 d31 d32 d33 d34 d35 d36 d37 d38 d39 d40 d41 d42 d43 d44 d45 fm v0 v2 l0_10 u0)⟩
    have l2_1 : ((-1) : Int) ≤ v2.toInt := by omega
    exact ⟨(-1), (CtI.toS (c_X11_text_58 l D cI cZ cB cJ a0 a1 a2 a3 a4 a5 a6 a7 a8 a9 a10 a11 a12 a13 a14 a15 a16 a17 a18 a19 a20 a21 a22 a23 a24 a25 a26 a27 a28 a29 a30 a31 a32 a33 b0 b1 b2 b3 b4 b5 b6 b7 b8 b9 b10 b11 b12 b13 b14 b15 b16 b17 b18 b19 fx v0 v2 l0_10 u0 l2_1 u2)), (c_X12_text_42 l D cI cZ cB cJ c0 c1 c2 c3 c4 c5 c6 c7 c8 c9 c10 c11 c12 c13 c14 c15 c16 c17 c18 c19 c20 c21 c22 c23 c24 d0 d1 d2 d3 d4 d5 d6 d7 d8 d9 d10 d11 d12 d13 d14 d15 d16 d17 d18 d19 d20 d21 d22 d23 d24 d25 d26 d27 d28 d29 d30 d31 d32 d33 d34 d35 d36 d37 d38 d39 d40 d41 d42 d43 d44 d45 fm v0 v2 l0_10 u0)⟩
  have l1_2 : (1 : Int) ≤ v1.toInt := by omega
  have l2_0 : (-2147483648 : Int) ≤ v2.toInt := i32_lo v2
  have u2 : v2.toInt ≤ (2147483647 : Int) := i32_hi v2
  by_cases k2_0 : v2.toInt ≤ ((-2) : Int)
  ·
    exact ⟨(-1), (CtI.toS (c_X11_text_0 l D cI cZ cB cJ a0 a1 a2 a3 a4 a5 a6 a7 a8 a9 a10 a11 a12 a13 a14 a15 a16 a17 a18 a19 a20 a21 a22 a23 a24 a25 a26 a27 a28 a29 a30 a31 a32 a33 b0 b1 b2 b3 b4 b5 b6 b7 b8 b9 b10 b11 b12 b13 b14 b15 b16 b17 b18 b19 fx v0 v1 v2 l2_0 k2_0)), (c_X12_text_43 l D cI cZ cB cJ c0 c1 c2 c3 c4 c5 c6 c7 c8 c9 c10 c11 c12 c13 c14 c15 c16 c17 c18 c19 c20 c21 c22 c23 c24 d0 d1 d2 d3 d4 d5 d6 d7 d8 d9 d10 d11 d12 d13 d14 d15 d16 d17 d18 d19 d20 d21 d22 d23 d24 d25 d26 d27 d28 d29 d30 d31 d32 d33 d34 d35 d36 d37 d38 d39 d40 d41 d42 d43 d44 d45 fm v0 v1 v2 l0_10 u0 l1_2 u1)⟩
  have l2_1 : ((-1) : Int) ≤ v2.toInt := by omega
  exact ⟨(-1), (CtI.toS (c_X11_text_59 l D cI cZ cB cJ a0 a1 a2 a3 a4 a5 a6 a7 a8 a9 a10 a11 a12 a13 a14 a15 a16 a17 a18 a19 a20 a21 a22 a23 a24 a25 a26 a27 a28 a29 a30 a31 a32 a33 b0 b1 b2 b3 b4 b5 b6 b7 b8 b9 b10 b11 b12 b13 b14 b15 b16 b17 b18 b19 fx v0 v1 v2 l0_10 u0 l1_2 u1 l2_1 u2)), (c_X12_text_43 l D cI cZ cB cJ c0 c1 c2 c3 c4 c5 c6 c7 c8 c9 c10 c11 c12 c13 c14 c15 c16 c17 c18 c19 c20 c21 c22 c23 c24 d0 d1 d2 d3 d4 d5 d6 d7 d8 d9 d10 d11 d12 d13 d14 d15 d16 d17 d18 d19 d20 d21 d22 d23 d24 d25 d26 d27 d28 d29 d30 d31 d32 d33 d34 d35 d36 d37 d38 d39 d40 d41 d42 d43 d44 d45 fm v0 v1 v2 l0_10 u0 l1_2 u1)⟩
set_option maxHeartbeats 4000000 in
set_option maxRecDepth 100000 in
theorem both_pair (l : Launch) (D : va_G) (cI cZ cB cJ : ClassId) (a0 a1 a2 a3 a4 a5 a6 a7 a8 a9 a10 a11 a12 a13 a14 a15 a16 a17 a18 a19 a20 a21 a22 a23 a24 a25 a26 a27 a28 a29 a30 a31 a32 a33 b0 b1 b2 b3 b4 b5 b6 b7 b8 b9 b10 b11 b12 b13 b14 b15 b16 b17 b18 b19 c0 c1 c2 c3 c4 c5 c6 c7 c8 c9 c10 c11 c12 c13 c14 c15 c16 c17 c18 c19 c20 c21 c22 c23 c24 d0 d1 d2 d3 d4 d5 d6 d7 d8 d9 d10 d11 d12 d13 d14 d15 d16 d17 d18 d19 d20 d21 d22 d23 d24 d25 d26 d27 d28 d29 d30 d31 d32 d33 d34 d35 d36 d37 d38 d39 d40 d41 d42 d43 d44 d45 : Nat) (fx fm : Nat → Int32) (v0 v1 v2 : Int32) : ∃ r0 : Int32, CtI l D (TT cI cZ cB cJ) yX11_pair cX11_pair 4 (some .int) 1 22 0 0 [.ref a0, .int v0, .int v1, .int v2] (WX cI cZ cB cJ a0 a1 a2 a3 a4 a5 a6 a7 a8 a9 a10 a11 a12 a13 a14 a15 a16 a17 a18 a19 a20 a21 a22 a23 a24 a25 a26 a27 a28 a29 a30 a31 a32 a33 b0 b1 b2 b3 b4 b5 b6 b7 b8 b9 b10 b11 b12 b13 b14 b15 b16 b17 b18 b19 fx) (fun r w1 => r = r0 ∧ w1 = []) ∧ CtI l D (TT cI cZ cB cJ) yX12_pair cX12_pair 7 (some .int) 2 44 0 0 [.ref c0, .int v0, .int v1, .int v2] (WM cI cZ cB cJ c0 c1 c2 c3 c4 c5 c6 c7 c8 c9 c10 c11 c12 c13 c14 c15 c16 c17 c18 c19 c20 c21 c22 c23 c24 d0 d1 d2 d3 d4 d5 d6 d7 d8 d9 d10 d11 d12 d13 d14 d15 d16 d17 d18 d19 d20 d21 d22 d23 d24 d25 d26 d27 d28 d29 d30 d31 d32 d33 d34 d35 d36 d37 d38 d39 d40 d41 d42 d43 d44 d45 fm) (fun r w1 => r = r0 ∧ w1 = []) := by
  have l0_0 : (-2147483648 : Int) ≤ v0.toInt := i32_lo v0
  have u0 : v0.toInt ≤ (2147483647 : Int) := i32_hi v0
  by_cases k0_0 : v0.toInt ≤ ((-1) : Int)
  ·
    have l1_0 : (-2147483648 : Int) ≤ v1.toInt := i32_lo v1
    have u1 : v1.toInt ≤ (2147483647 : Int) := i32_hi v1
    have l2_0 : (-2147483648 : Int) ≤ v2.toInt := i32_lo v2
    have u2 : v2.toInt ≤ (2147483647 : Int) := i32_hi v2
    exact ⟨(-1), (c_X11_pair_0 l D cI cZ cB cJ a0 a1 a2 a3 a4 a5 a6 a7 a8 a9 a10 a11 a12 a13 a14 a15 a16 a17 a18 a19 a20 a21 a22 a23 a24 a25 a26 a27 a28 a29 a30 a31 a32 a33 b0 b1 b2 b3 b4 b5 b6 b7 b8 b9 b10 b11 b12 b13 b14 b15 b16 b17 b18 b19 fx v0 v1 v2 l0_0 k0_0), (c_X12_pair_0 l D cI cZ cB cJ c0 c1 c2 c3 c4 c5 c6 c7 c8 c9 c10 c11 c12 c13 c14 c15 c16 c17 c18 c19 c20 c21 c22 c23 c24 d0 d1 d2 d3 d4 d5 d6 d7 d8 d9 d10 d11 d12 d13 d14 d15 d16 d17 d18 d19 d20 d21 d22 d23 d24 d25 d26 d27 d28 d29 d30 d31 d32 d33 d34 d35 d36 d37 d38 d39 d40 d41 d42 d43 d44 d45 fm v0 v1 v2 l0_0 k0_0)⟩
  have l0_1 : (0 : Int) ≤ v0.toInt := by omega
  have l1_0 : (-2147483648 : Int) ≤ v1.toInt := i32_lo v1
  have u1 : v1.toInt ≤ (2147483647 : Int) := i32_hi v1
  have l2_0 : (-2147483648 : Int) ≤ v2.toInt := i32_lo v2
  have u2 : v2.toInt ≤ (2147483647 : Int) := i32_hi v2
  exact ⟨(-1), (c_X11_pair_1 l D cI cZ cB cJ a0 a1 a2 a3 a4 a5 a6 a7 a8 a9 a10 a11 a12 a13 a14 a15 a16 a17 a18 a19 a20 a21 a22 a23 a24 a25 a26 a27 a28 a29 a30 a31 a32 a33 b0 b1 b2 b3 b4 b5 b6 b7 b8 b9 b10 b11 b12 b13 b14 b15 b16 b17 b18 b19 fx v0 v1 v2 l0_1 u0), (c_X12_pair_1 l D cI cZ cB cJ c0 c1 c2 c3 c4 c5 c6 c7 c8 c9 c10 c11 c12 c13 c14 c15 c16 c17 c18 c19 c20 c21 c22 c23 c24 d0 d1 d2 d3 d4 d5 d6 d7 d8 d9 d10 d11 d12 d13 d14 d15 d16 d17 d18 d19 d20 d21 d22 d23 d24 d25 d26 d27 d28 d29 d30 d31 d32 d33 d34 d35 d36 d37 d38 d39 d40 d41 d42 d43 d44 d45 fm v0 v1 v2 l0_1 u0)⟩
set_option maxHeartbeats 4000000 in
set_option maxRecDepth 100000 in
theorem both_meet (l : Launch) (D : va_G) (cI cZ cB cJ : ClassId) (a0 a1 a2 a3 a4 a5 a6 a7 a8 a9 a10 a11 a12 a13 a14 a15 a16 a17 a18 a19 a20 a21 a22 a23 a24 a25 a26 a27 a28 a29 a30 a31 a32 a33 b0 b1 b2 b3 b4 b5 b6 b7 b8 b9 b10 b11 b12 b13 b14 b15 b16 b17 b18 b19 c0 c1 c2 c3 c4 c5 c6 c7 c8 c9 c10 c11 c12 c13 c14 c15 c16 c17 c18 c19 c20 c21 c22 c23 c24 d0 d1 d2 d3 d4 d5 d6 d7 d8 d9 d10 d11 d12 d13 d14 d15 d16 d17 d18 d19 d20 d21 d22 d23 d24 d25 d26 d27 d28 d29 d30 d31 d32 d33 d34 d35 d36 d37 d38 d39 d40 d41 d42 d43 d44 d45 : Nat) (fx fm : Nat → Int32) (v0 v1 : Int32) : ∃ r0 : Int32, CtI l D (TT cI cZ cB cJ) yX11_meet cX11_meet 3 (some .int) 1 22 0 0 [.ref a0, .int v0, .int v1] (WX cI cZ cB cJ a0 a1 a2 a3 a4 a5 a6 a7 a8 a9 a10 a11 a12 a13 a14 a15 a16 a17 a18 a19 a20 a21 a22 a23 a24 a25 a26 a27 a28 a29 a30 a31 a32 a33 b0 b1 b2 b3 b4 b5 b6 b7 b8 b9 b10 b11 b12 b13 b14 b15 b16 b17 b18 b19 fx) (fun r w1 => r = r0 ∧ w1 = []) ∧ CtI l D (TT cI cZ cB cJ) yX12_meet cX12_meet 5 (some .int) 2 44 0 0 [.ref c0, .int v0, .int v1] (WM cI cZ cB cJ c0 c1 c2 c3 c4 c5 c6 c7 c8 c9 c10 c11 c12 c13 c14 c15 c16 c17 c18 c19 c20 c21 c22 c23 c24 d0 d1 d2 d3 d4 d5 d6 d7 d8 d9 d10 d11 d12 d13 d14 d15 d16 d17 d18 d19 d20 d21 d22 d23 d24 d25 d26 d27 d28 d29 d30 d31 d32 d33 d34 d35 d36 d37 d38 d39 d40 d41 d42 d43 d44 d45 fm) (fun r w1 => r = r0 ∧ w1 = []) := by
  have l0_0 : (-2147483648 : Int) ≤ v0.toInt := i32_lo v0
  have u0 : v0.toInt ≤ (2147483647 : Int) := i32_hi v0
  by_cases k0_0 : v0.toInt ≤ ((-1) : Int)
  ·
    have l1_0 : (-2147483648 : Int) ≤ v1.toInt := i32_lo v1
    have u1 : v1.toInt ≤ (2147483647 : Int) := i32_hi v1
    exact ⟨(-1), (c_X11_meet_0 l D cI cZ cB cJ a0 a1 a2 a3 a4 a5 a6 a7 a8 a9 a10 a11 a12 a13 a14 a15 a16 a17 a18 a19 a20 a21 a22 a23 a24 a25 a26 a27 a28 a29 a30 a31 a32 a33 b0 b1 b2 b3 b4 b5 b6 b7 b8 b9 b10 b11 b12 b13 b14 b15 b16 b17 b18 b19 fx v0 v1 l0_0 k0_0), (c_X12_meet_0 l D cI cZ cB cJ c0 c1 c2 c3 c4 c5 c6 c7 c8 c9 c10 c11 c12 c13 c14 c15 c16 c17 c18 c19 c20 c21 c22 c23 c24 d0 d1 d2 d3 d4 d5 d6 d7 d8 d9 d10 d11 d12 d13 d14 d15 d16 d17 d18 d19 d20 d21 d22 d23 d24 d25 d26 d27 d28 d29 d30 d31 d32 d33 d34 d35 d36 d37 d38 d39 d40 d41 d42 d43 d44 d45 fm v0 v1 l0_0 k0_0)⟩
  have l0_1 : (0 : Int) ≤ v0.toInt := by omega
  have l1_0 : (-2147483648 : Int) ≤ v1.toInt := i32_lo v1
  have u1 : v1.toInt ≤ (2147483647 : Int) := i32_hi v1
  exact ⟨(-1), (c_X11_meet_1 l D cI cZ cB cJ a0 a1 a2 a3 a4 a5 a6 a7 a8 a9 a10 a11 a12 a13 a14 a15 a16 a17 a18 a19 a20 a21 a22 a23 a24 a25 a26 a27 a28 a29 a30 a31 a32 a33 b0 b1 b2 b3 b4 b5 b6 b7 b8 b9 b10 b11 b12 b13 b14 b15 b16 b17 b18 b19 fx v0 v1 l0_1 u0), (c_X12_meet_1 l D cI cZ cB cJ c0 c1 c2 c3 c4 c5 c6 c7 c8 c9 c10 c11 c12 c13 c14 c15 c16 c17 c18 c19 c20 c21 c22 c23 c24 d0 d1 d2 d3 d4 d5 d6 d7 d8 d9 d10 d11 d12 d13 d14 d15 d16 d17 d18 d19 d20 d21 d22 d23 d24 d25 d26 d27 d28 d29 d30 d31 d32 d33 d34 d35 d36 d37 d38 d39 d40 d41 d42 d43 d44 d45 fm v0 v1 l0_1 u0)⟩
set_option maxHeartbeats 4000000 in
set_option maxRecDepth 100000 in
theorem both_join (l : Launch) (D : va_G) (cI cZ cB cJ : ClassId) (a0 a1 a2 a3 a4 a5 a6 a7 a8 a9 a10 a11 a12 a13 a14 a15 a16 a17 a18 a19 a20 a21 a22 a23 a24 a25 a26 a27 a28 a29 a30 a31 a32 a33 b0 b1 b2 b3 b4 b5 b6 b7 b8 b9 b10 b11 b12 b13 b14 b15 b16 b17 b18 b19 c0 c1 c2 c3 c4 c5 c6 c7 c8 c9 c10 c11 c12 c13 c14 c15 c16 c17 c18 c19 c20 c21 c22 c23 c24 d0 d1 d2 d3 d4 d5 d6 d7 d8 d9 d10 d11 d12 d13 d14 d15 d16 d17 d18 d19 d20 d21 d22 d23 d24 d25 d26 d27 d28 d29 d30 d31 d32 d33 d34 d35 d36 d37 d38 d39 d40 d41 d42 d43 d44 d45 : Nat) (fx fm : Nat → Int32) (v0 v1 : Int32) : ∃ r0 : Int32, CtI l D (TT cI cZ cB cJ) yX11_join cX11_join 3 (some .int) 1 22 0 0 [.ref a0, .int v0, .int v1] (WX cI cZ cB cJ a0 a1 a2 a3 a4 a5 a6 a7 a8 a9 a10 a11 a12 a13 a14 a15 a16 a17 a18 a19 a20 a21 a22 a23 a24 a25 a26 a27 a28 a29 a30 a31 a32 a33 b0 b1 b2 b3 b4 b5 b6 b7 b8 b9 b10 b11 b12 b13 b14 b15 b16 b17 b18 b19 fx) (fun r w1 => r = r0 ∧ w1 = []) ∧ CtI l D (TT cI cZ cB cJ) yX12_join cX12_join 4 (some .int) 2 44 0 0 [.ref c0, .int v0, .int v1] (WM cI cZ cB cJ c0 c1 c2 c3 c4 c5 c6 c7 c8 c9 c10 c11 c12 c13 c14 c15 c16 c17 c18 c19 c20 c21 c22 c23 c24 d0 d1 d2 d3 d4 d5 d6 d7 d8 d9 d10 d11 d12 d13 d14 d15 d16 d17 d18 d19 d20 d21 d22 d23 d24 d25 d26 d27 d28 d29 d30 d31 d32 d33 d34 d35 d36 d37 d38 d39 d40 d41 d42 d43 d44 d45 fm) (fun r w1 => r = r0 ∧ w1 = []) := by
  have l0_0 : (-2147483648 : Int) ≤ v0.toInt := i32_lo v0
  have u0 : v0.toInt ≤ (2147483647 : Int) := i32_hi v0
  by_cases k0_0 : v0.toInt ≤ ((-1) : Int)
  ·
    have l1_0 : (-2147483648 : Int) ≤ v1.toInt := i32_lo v1
    have u1 : v1.toInt ≤ (2147483647 : Int) := i32_hi v1
    exact ⟨(-1), (c_X11_join_0 l D cI cZ cB cJ a0 a1 a2 a3 a4 a5 a6 a7 a8 a9 a10 a11 a12 a13 a14 a15 a16 a17 a18 a19 a20 a21 a22 a23 a24 a25 a26 a27 a28 a29 a30 a31 a32 a33 b0 b1 b2 b3 b4 b5 b6 b7 b8 b9 b10 b11 b12 b13 b14 b15 b16 b17 b18 b19 fx v0 v1 l0_0 k0_0), (c_X12_join_0 l D cI cZ cB cJ c0 c1 c2 c3 c4 c5 c6 c7 c8 c9 c10 c11 c12 c13 c14 c15 c16 c17 c18 c19 c20 c21 c22 c23 c24 d0 d1 d2 d3 d4 d5 d6 d7 d8 d9 d10 d11 d12 d13 d14 d15 d16 d17 d18 d19 d20 d21 d22 d23 d24 d25 d26 d27 d28 d29 d30 d31 d32 d33 d34 d35 d36 d37 d38 d39 d40 d41 d42 d43 d44 d45 fm v0 v1 l0_0 k0_0)⟩
  have l0_1 : (0 : Int) ≤ v0.toInt := by omega
  have l1_0 : (-2147483648 : Int) ≤ v1.toInt := i32_lo v1
  have u1 : v1.toInt ≤ (2147483647 : Int) := i32_hi v1
  exact ⟨(-1), (c_X11_join_1 l D cI cZ cB cJ a0 a1 a2 a3 a4 a5 a6 a7 a8 a9 a10 a11 a12 a13 a14 a15 a16 a17 a18 a19 a20 a21 a22 a23 a24 a25 a26 a27 a28 a29 a30 a31 a32 a33 b0 b1 b2 b3 b4 b5 b6 b7 b8 b9 b10 b11 b12 b13 b14 b15 b16 b17 b18 b19 fx v0 v1 l0_1 u0), (c_X12_join_1 l D cI cZ cB cJ c0 c1 c2 c3 c4 c5 c6 c7 c8 c9 c10 c11 c12 c13 c14 c15 c16 c17 c18 c19 c20 c21 c22 c23 c24 d0 d1 d2 d3 d4 d5 d6 d7 d8 d9 d10 d11 d12 d13 d14 d15 d16 d17 d18 d19 d20 d21 d22 d23 d24 d25 d26 d27 d28 d29 d30 d31 d32 d33 d34 d35 d36 d37 d38 d39 d40 d41 d42 d43 d44 d45 fm v0 v1 l0_1 u0)⟩
set_option maxHeartbeats 4000000 in
set_option maxRecDepth 100000 in
theorem both_coerce (l : Launch) (D : va_G) (cI cZ cB cJ : ClassId) (a0 a1 a2 a3 a4 a5 a6 a7 a8 a9 a10 a11 a12 a13 a14 a15 a16 a17 a18 a19 a20 a21 a22 a23 a24 a25 a26 a27 a28 a29 a30 a31 a32 a33 b0 b1 b2 b3 b4 b5 b6 b7 b8 b9 b10 b11 b12 b13 b14 b15 b16 b17 b18 b19 c0 c1 c2 c3 c4 c5 c6 c7 c8 c9 c10 c11 c12 c13 c14 c15 c16 c17 c18 c19 c20 c21 c22 c23 c24 d0 d1 d2 d3 d4 d5 d6 d7 d8 d9 d10 d11 d12 d13 d14 d15 d16 d17 d18 d19 d20 d21 d22 d23 d24 d25 d26 d27 d28 d29 d30 d31 d32 d33 d34 d35 d36 d37 d38 d39 d40 d41 d42 d43 d44 d45 : Nat) (fx fm : Nat → Int32) (v0 v1 v2 : Int32) : ∃ r0 : Int32, CtI l D (TT cI cZ cB cJ) yX11_coerce cX11_coerce 4 (some .int) 1 22 0 0 [.ref a0, .int v0, .int v1, .int v2] (WX cI cZ cB cJ a0 a1 a2 a3 a4 a5 a6 a7 a8 a9 a10 a11 a12 a13 a14 a15 a16 a17 a18 a19 a20 a21 a22 a23 a24 a25 a26 a27 a28 a29 a30 a31 a32 a33 b0 b1 b2 b3 b4 b5 b6 b7 b8 b9 b10 b11 b12 b13 b14 b15 b16 b17 b18 b19 fx) (fun r w1 => r = r0 ∧ w1 = []) ∧ CtI l D (TT cI cZ cB cJ) yX12_coerce cX12_coerce 6 (some .int) 2 44 0 0 [.ref c0, .int v0, .int v1, .int v2] (WM cI cZ cB cJ c0 c1 c2 c3 c4 c5 c6 c7 c8 c9 c10 c11 c12 c13 c14 c15 c16 c17 c18 c19 c20 c21 c22 c23 c24 d0 d1 d2 d3 d4 d5 d6 d7 d8 d9 d10 d11 d12 d13 d14 d15 d16 d17 d18 d19 d20 d21 d22 d23 d24 d25 d26 d27 d28 d29 d30 d31 d32 d33 d34 d35 d36 d37 d38 d39 d40 d41 d42 d43 d44 d45 fm) (fun r w1 => r = r0 ∧ w1 = []) := by
  have l0_0 : (-2147483648 : Int) ≤ v0.toInt := i32_lo v0
  have u0 : v0.toInt ≤ (2147483647 : Int) := i32_hi v0
  by_cases k0_0 : v0.toInt ≤ ((-1) : Int)
  ·
    have l1_0 : (-2147483648 : Int) ≤ v1.toInt := i32_lo v1
    have u1 : v1.toInt ≤ (2147483647 : Int) := i32_hi v1
    have l2_0 : (-2147483648 : Int) ≤ v2.toInt := i32_lo v2
    have u2 : v2.toInt ≤ (2147483647 : Int) := i32_hi v2
    exact ⟨(-1), (c_X11_coerce_0 l D cI cZ cB cJ a0 a1 a2 a3 a4 a5 a6 a7 a8 a9 a10 a11 a12 a13 a14 a15 a16 a17 a18 a19 a20 a21 a22 a23 a24 a25 a26 a27 a28 a29 a30 a31 a32 a33 b0 b1 b2 b3 b4 b5 b6 b7 b8 b9 b10 b11 b12 b13 b14 b15 b16 b17 b18 b19 fx v0 v1 v2 l0_0 k0_0), (c_X12_coerce_0 l D cI cZ cB cJ c0 c1 c2 c3 c4 c5 c6 c7 c8 c9 c10 c11 c12 c13 c14 c15 c16 c17 c18 c19 c20 c21 c22 c23 c24 d0 d1 d2 d3 d4 d5 d6 d7 d8 d9 d10 d11 d12 d13 d14 d15 d16 d17 d18 d19 d20 d21 d22 d23 d24 d25 d26 d27 d28 d29 d30 d31 d32 d33 d34 d35 d36 d37 d38 d39 d40 d41 d42 d43 d44 d45 fm v0 v1 v2 l0_0 k0_0)⟩
  have l0_1 : (0 : Int) ≤ v0.toInt := by omega
  have l1_0 : (-2147483648 : Int) ≤ v1.toInt := i32_lo v1
  have u1 : v1.toInt ≤ (2147483647 : Int) := i32_hi v1
  have l2_0 : (-2147483648 : Int) ≤ v2.toInt := i32_lo v2
  have u2 : v2.toInt ≤ (2147483647 : Int) := i32_hi v2
  exact ⟨(-1), (c_X11_coerce_1 l D cI cZ cB cJ a0 a1 a2 a3 a4 a5 a6 a7 a8 a9 a10 a11 a12 a13 a14 a15 a16 a17 a18 a19 a20 a21 a22 a23 a24 a25 a26 a27 a28 a29 a30 a31 a32 a33 b0 b1 b2 b3 b4 b5 b6 b7 b8 b9 b10 b11 b12 b13 b14 b15 b16 b17 b18 b19 fx v0 v1 v2 l0_1 u0), (c_X12_coerce_1 l D cI cZ cB cJ c0 c1 c2 c3 c4 c5 c6 c7 c8 c9 c10 c11 c12 c13 c14 c15 c16 c17 c18 c19 c20 c21 c22 c23 c24 d0 d1 d2 d3 d4 d5 d6 d7 d8 d9 d10 d11 d12 d13 d14 d15 d16 d17 d18 d19 d20 d21 d22 d23 d24 d25 d26 d27 d28 d29 d30 d31 d32 d33 d34 d35 d36 d37 d38 d39 d40 d41 d42 d43 d44 d45 fm v0 v1 v2 l0_1 u0)⟩
set_option maxHeartbeats 4000000 in
set_option maxRecDepth 100000 in
theorem both_then (l : Launch) (D : va_G) (cI cZ cB cJ : ClassId) (a0 a1 a2 a3 a4 a5 a6 a7 a8 a9 a10 a11 a12 a13 a14 a15 a16 a17 a18 a19 a20 a21 a22 a23 a24 a25 a26 a27 a28 a29 a30 a31 a32 a33 b0 b1 b2 b3 b4 b5 b6 b7 b8 b9 b10 b11 b12 b13 b14 b15 b16 b17 b18 b19 c0 c1 c2 c3 c4 c5 c6 c7 c8 c9 c10 c11 c12 c13 c14 c15 c16 c17 c18 c19 c20 c21 c22 c23 c24 d0 d1 d2 d3 d4 d5 d6 d7 d8 d9 d10 d11 d12 d13 d14 d15 d16 d17 d18 d19 d20 d21 d22 d23 d24 d25 d26 d27 d28 d29 d30 d31 d32 d33 d34 d35 d36 d37 d38 d39 d40 d41 d42 d43 d44 d45 : Nat) (fx fm : Nat → Int32) (v0 v1 : Int32) : ∃ r0 : Int32, CtI l D (TT cI cZ cB cJ) yX11_then cX11_then 3 (some .int) 1 21 0 0 [.ref a0, .int v0, .int v1] (WX cI cZ cB cJ a0 a1 a2 a3 a4 a5 a6 a7 a8 a9 a10 a11 a12 a13 a14 a15 a16 a17 a18 a19 a20 a21 a22 a23 a24 a25 a26 a27 a28 a29 a30 a31 a32 a33 b0 b1 b2 b3 b4 b5 b6 b7 b8 b9 b10 b11 b12 b13 b14 b15 b16 b17 b18 b19 fx) (fun r w1 => r = r0 ∧ w1 = []) ∧ CtI l D (TT cI cZ cB cJ) yX12_then cX12_then 6 (some .int) 2 43 0 0 [.ref c0, .int v0, .int v1] (WM cI cZ cB cJ c0 c1 c2 c3 c4 c5 c6 c7 c8 c9 c10 c11 c12 c13 c14 c15 c16 c17 c18 c19 c20 c21 c22 c23 c24 d0 d1 d2 d3 d4 d5 d6 d7 d8 d9 d10 d11 d12 d13 d14 d15 d16 d17 d18 d19 d20 d21 d22 d23 d24 d25 d26 d27 d28 d29 d30 d31 d32 d33 d34 d35 d36 d37 d38 d39 d40 d41 d42 d43 d44 d45 fm) (fun r w1 => r = r0 ∧ w1 = []) := by
  have l0_0 : (-2147483648 : Int) ≤ v0.toInt := i32_lo v0
  have u0 : v0.toInt ≤ (2147483647 : Int) := i32_hi v0
  by_cases k0_0 : v0.toInt ≤ ((-1) : Int)
  ·
    have l1_0 : (-2147483648 : Int) ≤ v1.toInt := i32_lo v1
    have u1 : v1.toInt ≤ (2147483647 : Int) := i32_hi v1
    exact ⟨(-1), (c_X11_then_0 l D cI cZ cB cJ a0 a1 a2 a3 a4 a5 a6 a7 a8 a9 a10 a11 a12 a13 a14 a15 a16 a17 a18 a19 a20 a21 a22 a23 a24 a25 a26 a27 a28 a29 a30 a31 a32 a33 b0 b1 b2 b3 b4 b5 b6 b7 b8 b9 b10 b11 b12 b13 b14 b15 b16 b17 b18 b19 fx v0 v1 l0_0 k0_0), (c_X12_then_0 l D cI cZ cB cJ c0 c1 c2 c3 c4 c5 c6 c7 c8 c9 c10 c11 c12 c13 c14 c15 c16 c17 c18 c19 c20 c21 c22 c23 c24 d0 d1 d2 d3 d4 d5 d6 d7 d8 d9 d10 d11 d12 d13 d14 d15 d16 d17 d18 d19 d20 d21 d22 d23 d24 d25 d26 d27 d28 d29 d30 d31 d32 d33 d34 d35 d36 d37 d38 d39 d40 d41 d42 d43 d44 d45 fm v0 v1 l0_0 k0_0)⟩
  have l0_1 : (0 : Int) ≤ v0.toInt := by omega
  have l1_0 : (-2147483648 : Int) ≤ v1.toInt := i32_lo v1
  have u1 : v1.toInt ≤ (2147483647 : Int) := i32_hi v1
  exact ⟨(-1), (c_X11_then_1 l D cI cZ cB cJ a0 a1 a2 a3 a4 a5 a6 a7 a8 a9 a10 a11 a12 a13 a14 a15 a16 a17 a18 a19 a20 a21 a22 a23 a24 a25 a26 a27 a28 a29 a30 a31 a32 a33 b0 b1 b2 b3 b4 b5 b6 b7 b8 b9 b10 b11 b12 b13 b14 b15 b16 b17 b18 b19 fx v0 v1 l0_1 u0), (c_X12_then_1 l D cI cZ cB cJ c0 c1 c2 c3 c4 c5 c6 c7 c8 c9 c10 c11 c12 c13 c14 c15 c16 c17 c18 c19 c20 c21 c22 c23 c24 d0 d1 d2 d3 d4 d5 d6 d7 d8 d9 d10 d11 d12 d13 d14 d15 d16 d17 d18 d19 d20 d21 d22 d23 d24 d25 d26 d27 d28 d29 d30 d31 d32 d33 d34 d35 d36 d37 d38 d39 d40 d41 d42 d43 d44 d45 fm v0 v1 l0_1 u0)⟩
set_option maxHeartbeats 4000000 in
set_option maxRecDepth 100000 in
theorem both_coercion (l : Launch) (D : va_G) (cI cZ cB cJ : ClassId) (a0 a1 a2 a3 a4 a5 a6 a7 a8 a9 a10 a11 a12 a13 a14 a15 a16 a17 a18 a19 a20 a21 a22 a23 a24 a25 a26 a27 a28 a29 a30 a31 a32 a33 b0 b1 b2 b3 b4 b5 b6 b7 b8 b9 b10 b11 b12 b13 b14 b15 b16 b17 b18 b19 c0 c1 c2 c3 c4 c5 c6 c7 c8 c9 c10 c11 c12 c13 c14 c15 c16 c17 c18 c19 c20 c21 c22 c23 c24 d0 d1 d2 d3 d4 d5 d6 d7 d8 d9 d10 d11 d12 d13 d14 d15 d16 d17 d18 d19 d20 d21 d22 d23 d24 d25 d26 d27 d28 d29 d30 d31 d32 d33 d34 d35 d36 d37 d38 d39 d40 d41 d42 d43 d44 d45 : Nat) (fx fm : Nat → Int32) (v0 v1 : Int32) : ∃ r0 : Int32, CtI l D (TT cI cZ cB cJ) yX11_coercion cX11_coercion 3 (some .int) 1 21 0 0 [.ref a0, .int v0, .int v1] (WX cI cZ cB cJ a0 a1 a2 a3 a4 a5 a6 a7 a8 a9 a10 a11 a12 a13 a14 a15 a16 a17 a18 a19 a20 a21 a22 a23 a24 a25 a26 a27 a28 a29 a30 a31 a32 a33 b0 b1 b2 b3 b4 b5 b6 b7 b8 b9 b10 b11 b12 b13 b14 b15 b16 b17 b18 b19 fx) (fun r w1 => r = r0 ∧ w1 = []) ∧ CtI l D (TT cI cZ cB cJ) yX12_coercion cX12_coercion 5 (some .int) 2 43 0 0 [.ref c0, .int v0, .int v1] (WM cI cZ cB cJ c0 c1 c2 c3 c4 c5 c6 c7 c8 c9 c10 c11 c12 c13 c14 c15 c16 c17 c18 c19 c20 c21 c22 c23 c24 d0 d1 d2 d3 d4 d5 d6 d7 d8 d9 d10 d11 d12 d13 d14 d15 d16 d17 d18 d19 d20 d21 d22 d23 d24 d25 d26 d27 d28 d29 d30 d31 d32 d33 d34 d35 d36 d37 d38 d39 d40 d41 d42 d43 d44 d45 fm) (fun r w1 => r = r0 ∧ w1 = []) := by
  have l0_0 : (-2147483648 : Int) ≤ v0.toInt := i32_lo v0
  have u0 : v0.toInt ≤ (2147483647 : Int) := i32_hi v0
  by_cases k0_0 : v0.toInt ≤ ((-1) : Int)
  ·
    have l1_0 : (-2147483648 : Int) ≤ v1.toInt := i32_lo v1
    have u1 : v1.toInt ≤ (2147483647 : Int) := i32_hi v1
    exact ⟨(-1), (c_X11_coercion_0 l D cI cZ cB cJ a0 a1 a2 a3 a4 a5 a6 a7 a8 a9 a10 a11 a12 a13 a14 a15 a16 a17 a18 a19 a20 a21 a22 a23 a24 a25 a26 a27 a28 a29 a30 a31 a32 a33 b0 b1 b2 b3 b4 b5 b6 b7 b8 b9 b10 b11 b12 b13 b14 b15 b16 b17 b18 b19 fx v0 v1 l0_0 k0_0), (c_X12_coercion_0 l D cI cZ cB cJ c0 c1 c2 c3 c4 c5 c6 c7 c8 c9 c10 c11 c12 c13 c14 c15 c16 c17 c18 c19 c20 c21 c22 c23 c24 d0 d1 d2 d3 d4 d5 d6 d7 d8 d9 d10 d11 d12 d13 d14 d15 d16 d17 d18 d19 d20 d21 d22 d23 d24 d25 d26 d27 d28 d29 d30 d31 d32 d33 d34 d35 d36 d37 d38 d39 d40 d41 d42 d43 d44 d45 fm v0 v1 l0_0 k0_0)⟩
  have l0_1 : (0 : Int) ≤ v0.toInt := by omega
  have l1_0 : (-2147483648 : Int) ≤ v1.toInt := i32_lo v1
  have u1 : v1.toInt ≤ (2147483647 : Int) := i32_hi v1
  exact ⟨(-1), (c_X11_coercion_1 l D cI cZ cB cJ a0 a1 a2 a3 a4 a5 a6 a7 a8 a9 a10 a11 a12 a13 a14 a15 a16 a17 a18 a19 a20 a21 a22 a23 a24 a25 a26 a27 a28 a29 a30 a31 a32 a33 b0 b1 b2 b3 b4 b5 b6 b7 b8 b9 b10 b11 b12 b13 b14 b15 b16 b17 b18 b19 fx v0 v1 l0_1 u0), (c_X12_coercion_1 l D cI cZ cB cJ c0 c1 c2 c3 c4 c5 c6 c7 c8 c9 c10 c11 c12 c13 c14 c15 c16 c17 c18 c19 c20 c21 c22 c23 c24 d0 d1 d2 d3 d4 d5 d6 d7 d8 d9 d10 d11 d12 d13 d14 d15 d16 d17 d18 d19 d20 d21 d22 d23 d24 d25 d26 d27 d28 d29 d30 d31 d32 d33 d34 d35 d36 d37 d38 d39 d40 d41 d42 d43 d44 d45 fm v0 v1 l0_1 u0)⟩
set_option maxHeartbeats 4000000 in
set_option maxRecDepth 100000 in
theorem both_clear (l : Launch) (D : va_G) (cI cZ cB cJ : ClassId) (a0 a1 a2 a3 a4 a5 a6 a7 a8 a9 a10 a11 a12 a13 a14 a15 a16 a17 a18 a19 a20 a21 a22 a23 a24 a25 a26 a27 a28 a29 a30 a31 a32 a33 b0 b1 b2 b3 b4 b5 b6 b7 b8 b9 b10 b11 b12 b13 b14 b15 b16 b17 b18 b19 c0 c1 c2 c3 c4 c5 c6 c7 c8 c9 c10 c11 c12 c13 c14 c15 c16 c17 c18 c19 c20 c21 c22 c23 c24 d0 d1 d2 d3 d4 d5 d6 d7 d8 d9 d10 d11 d12 d13 d14 d15 d16 d17 d18 d19 d20 d21 d22 d23 d24 d25 d26 d27 d28 d29 d30 d31 d32 d33 d34 d35 d36 d37 d38 d39 d40 d41 d42 d43 d44 d45 : Nat) (fx fm : Nat → Int32) (v0 : Int32) : ∃ r0 : Int32, CtI l D (TT cI cZ cB cJ) yX11_clear cX11_clear 2 (some .int) 4 86 0 0 [.ref a0, .int v0] (WX cI cZ cB cJ a0 a1 a2 a3 a4 a5 a6 a7 a8 a9 a10 a11 a12 a13 a14 a15 a16 a17 a18 a19 a20 a21 a22 a23 a24 a25 a26 a27 a28 a29 a30 a31 a32 a33 b0 b1 b2 b3 b4 b5 b6 b7 b8 b9 b10 b11 b12 b13 b14 b15 b16 b17 b18 b19 fx) (fun r w1 => r = r0 ∧ w1 = []) ∧ CtI l D (TT cI cZ cB cJ) yX12_clear cX12_clear 3 (some .int) 1 22 0 0 [.ref c0, .int v0] (WM cI cZ cB cJ c0 c1 c2 c3 c4 c5 c6 c7 c8 c9 c10 c11 c12 c13 c14 c15 c16 c17 c18 c19 c20 c21 c22 c23 c24 d0 d1 d2 d3 d4 d5 d6 d7 d8 d9 d10 d11 d12 d13 d14 d15 d16 d17 d18 d19 d20 d21 d22 d23 d24 d25 d26 d27 d28 d29 d30 d31 d32 d33 d34 d35 d36 d37 d38 d39 d40 d41 d42 d43 d44 d45 fm) (fun r w1 => r = r0 ∧ w1 = []) := by
  have l0_0 : (-2147483648 : Int) ≤ v0.toInt := i32_lo v0
  have u0 : v0.toInt ≤ (2147483647 : Int) := i32_hi v0
  by_cases k0_0 : v0.toInt ≤ ((-1) : Int)
  ·
    exact ⟨(-1), (c_X11_clear_0 l D cI cZ cB cJ a0 a1 a2 a3 a4 a5 a6 a7 a8 a9 a10 a11 a12 a13 a14 a15 a16 a17 a18 a19 a20 a21 a22 a23 a24 a25 a26 a27 a28 a29 a30 a31 a32 a33 b0 b1 b2 b3 b4 b5 b6 b7 b8 b9 b10 b11 b12 b13 b14 b15 b16 b17 b18 b19 fx v0 l0_0 k0_0), (c_X12_clear_0 l D cI cZ cB cJ c0 c1 c2 c3 c4 c5 c6 c7 c8 c9 c10 c11 c12 c13 c14 c15 c16 c17 c18 c19 c20 c21 c22 c23 c24 d0 d1 d2 d3 d4 d5 d6 d7 d8 d9 d10 d11 d12 d13 d14 d15 d16 d17 d18 d19 d20 d21 d22 d23 d24 d25 d26 d27 d28 d29 d30 d31 d32 d33 d34 d35 d36 d37 d38 d39 d40 d41 d42 d43 d44 d45 fm v0 l0_0 k0_0)⟩
  have l0_1 : (0 : Int) ≤ v0.toInt := by omega
  by_cases k0_1 : v0.toInt ≤ (0 : Int)
  ·
    obtain rfl : v0 = 0 := pt (by decide +kernel : (0 : Int32).toInt = (0 : Int)) l0_1 k0_1
    exact ⟨0, (c_X11_clear_1 l D cI cZ cB cJ a0 a1 a2 a3 a4 a5 a6 a7 a8 a9 a10 a11 a12 a13 a14 a15 a16 a17 a18 a19 a20 a21 a22 a23 a24 a25 a26 a27 a28 a29 a30 a31 a32 a33 b0 b1 b2 b3 b4 b5 b6 b7 b8 b9 b10 b11 b12 b13 b14 b15 b16 b17 b18 b19 fx), (c_X12_clear_1 l D cI cZ cB cJ c0 c1 c2 c3 c4 c5 c6 c7 c8 c9 c10 c11 c12 c13 c14 c15 c16 c17 c18 c19 c20 c21 c22 c23 c24 d0 d1 d2 d3 d4 d5 d6 d7 d8 d9 d10 d11 d12 d13 d14 d15 d16 d17 d18 d19 d20 d21 d22 d23 d24 d25 d26 d27 d28 d29 d30 d31 d32 d33 d34 d35 d36 d37 d38 d39 d40 d41 d42 d43 d44 d45 fm)⟩
  have l0_2 : (1 : Int) ≤ v0.toInt := by omega
  by_cases k0_2 : v0.toInt ≤ (1 : Int)
  ·
    obtain rfl : v0 = 1 := pt (by decide +kernel : (1 : Int32).toInt = (1 : Int)) l0_2 k0_2
    exact ⟨0, (c_X11_clear_2 l D cI cZ cB cJ a0 a1 a2 a3 a4 a5 a6 a7 a8 a9 a10 a11 a12 a13 a14 a15 a16 a17 a18 a19 a20 a21 a22 a23 a24 a25 a26 a27 a28 a29 a30 a31 a32 a33 b0 b1 b2 b3 b4 b5 b6 b7 b8 b9 b10 b11 b12 b13 b14 b15 b16 b17 b18 b19 fx), (c_X12_clear_2 l D cI cZ cB cJ c0 c1 c2 c3 c4 c5 c6 c7 c8 c9 c10 c11 c12 c13 c14 c15 c16 c17 c18 c19 c20 c21 c22 c23 c24 d0 d1 d2 d3 d4 d5 d6 d7 d8 d9 d10 d11 d12 d13 d14 d15 d16 d17 d18 d19 d20 d21 d22 d23 d24 d25 d26 d27 d28 d29 d30 d31 d32 d33 d34 d35 d36 d37 d38 d39 d40 d41 d42 d43 d44 d45 fm)⟩
  have l0_3 : (2 : Int) ≤ v0.toInt := by omega
  exact ⟨(-1), (c_X11_clear_3 l D cI cZ cB cJ a0 a1 a2 a3 a4 a5 a6 a7 a8 a9 a10 a11 a12 a13 a14 a15 a16 a17 a18 a19 a20 a21 a22 a23 a24 a25 a26 a27 a28 a29 a30 a31 a32 a33 b0 b1 b2 b3 b4 b5 b6 b7 b8 b9 b10 b11 b12 b13 b14 b15 b16 b17 b18 b19 fx v0 l0_3 u0), (c_X12_clear_3 l D cI cZ cB cJ c0 c1 c2 c3 c4 c5 c6 c7 c8 c9 c10 c11 c12 c13 c14 c15 c16 c17 c18 c19 c20 c21 c22 c23 c24 d0 d1 d2 d3 d4 d5 d6 d7 d8 d9 d10 d11 d12 d13 d14 d15 d16 d17 d18 d19 d20 d21 d22 d23 d24 d25 d26 d27 d28 d29 d30 d31 d32 d33 d34 d35 d36 d37 d38 d39 d40 d41 d42 d43 d44 d45 fm v0 l0_3 u0)⟩
set_option maxHeartbeats 4000000 in
set_option maxRecDepth 100000 in
theorem both_run (l : Launch) (D : va_G) (cI cZ cB cJ : ClassId) (a0 a1 a2 a3 a4 a5 a6 a7 a8 a9 a10 a11 a12 a13 a14 a15 a16 a17 a18 a19 a20 a21 a22 a23 a24 a25 a26 a27 a28 a29 a30 a31 a32 a33 b0 b1 b2 b3 b4 b5 b6 b7 b8 b9 b10 b11 b12 b13 b14 b15 b16 b17 b18 b19 c0 c1 c2 c3 c4 c5 c6 c7 c8 c9 c10 c11 c12 c13 c14 c15 c16 c17 c18 c19 c20 c21 c22 c23 c24 d0 d1 d2 d3 d4 d5 d6 d7 d8 d9 d10 d11 d12 d13 d14 d15 d16 d17 d18 d19 d20 d21 d22 d23 d24 d25 d26 d27 d28 d29 d30 d31 d32 d33 d34 d35 d36 d37 d38 d39 d40 d41 d42 d43 d44 d45 : Nat) (fx fm : Nat → Int32) (v0 v1 : Int32) : ∃ r0 : Int32, CtI l D (TT cI cZ cB cJ) yX11_run cX11_run 3 (some .int) 5 109 0 0 [.ref a0, .int v0, .int v1] (WX cI cZ cB cJ a0 a1 a2 a3 a4 a5 a6 a7 a8 a9 a10 a11 a12 a13 a14 a15 a16 a17 a18 a19 a20 a21 a22 a23 a24 a25 a26 a27 a28 a29 a30 a31 a32 a33 b0 b1 b2 b3 b4 b5 b6 b7 b8 b9 b10 b11 b12 b13 b14 b15 b16 b17 b18 b19 fx) (fun r w1 => r = r0 ∧ w1 = []) ∧ CtI l D (TT cI cZ cB cJ) yX12_run cX12_run 3 (some .int) 3 68 0 0 [.ref c0, .int v0, .int v1] (WM cI cZ cB cJ c0 c1 c2 c3 c4 c5 c6 c7 c8 c9 c10 c11 c12 c13 c14 c15 c16 c17 c18 c19 c20 c21 c22 c23 c24 d0 d1 d2 d3 d4 d5 d6 d7 d8 d9 d10 d11 d12 d13 d14 d15 d16 d17 d18 d19 d20 d21 d22 d23 d24 d25 d26 d27 d28 d29 d30 d31 d32 d33 d34 d35 d36 d37 d38 d39 d40 d41 d42 d43 d44 d45 fm) (fun r w1 => r = r0 ∧ w1 = []) := by
  have l0_0 : (-2147483648 : Int) ≤ v0.toInt := i32_lo v0
  have u0 : v0.toInt ≤ (2147483647 : Int) := i32_hi v0
  by_cases k0_0 : v0.toInt ≤ ((-1) : Int)
  ·
    have l1_0 : (-2147483648 : Int) ≤ v1.toInt := i32_lo v1
    have u1 : v1.toInt ≤ (2147483647 : Int) := i32_hi v1
    exact ⟨(-2147483648), (c_X11_run_0 l D cI cZ cB cJ a0 a1 a2 a3 a4 a5 a6 a7 a8 a9 a10 a11 a12 a13 a14 a15 a16 a17 a18 a19 a20 a21 a22 a23 a24 a25 a26 a27 a28 a29 a30 a31 a32 a33 b0 b1 b2 b3 b4 b5 b6 b7 b8 b9 b10 b11 b12 b13 b14 b15 b16 b17 b18 b19 fx v0 v1 l0_0 k0_0), (c_X12_run_0 l D cI cZ cB cJ c0 c1 c2 c3 c4 c5 c6 c7 c8 c9 c10 c11 c12 c13 c14 c15 c16 c17 c18 c19 c20 c21 c22 c23 c24 d0 d1 d2 d3 d4 d5 d6 d7 d8 d9 d10 d11 d12 d13 d14 d15 d16 d17 d18 d19 d20 d21 d22 d23 d24 d25 d26 d27 d28 d29 d30 d31 d32 d33 d34 d35 d36 d37 d38 d39 d40 d41 d42 d43 d44 d45 fm v0 v1 l0_0 k0_0)⟩
  have l0_1 : (0 : Int) ≤ v0.toInt := by omega
  by_cases k0_1 : v0.toInt ≤ (2 : Int)
  ·
    have l1_0 : (-2147483648 : Int) ≤ v1.toInt := i32_lo v1
    have u1 : v1.toInt ≤ (2147483647 : Int) := i32_hi v1
    by_cases k1_0 : v1.toInt ≤ ((-1) : Int)
    ·
      exact ⟨(-2147483648), (c_X11_run_2 l D cI cZ cB cJ a0 a1 a2 a3 a4 a5 a6 a7 a8 a9 a10 a11 a12 a13 a14 a15 a16 a17 a18 a19 a20 a21 a22 a23 a24 a25 a26 a27 a28 a29 a30 a31 a32 a33 b0 b1 b2 b3 b4 b5 b6 b7 b8 b9 b10 b11 b12 b13 b14 b15 b16 b17 b18 b19 fx v0 v1 l0_1 k0_1 l1_0 k1_0), (c_X12_run_2 l D cI cZ cB cJ c0 c1 c2 c3 c4 c5 c6 c7 c8 c9 c10 c11 c12 c13 c14 c15 c16 c17 c18 c19 c20 c21 c22 c23 c24 d0 d1 d2 d3 d4 d5 d6 d7 d8 d9 d10 d11 d12 d13 d14 d15 d16 d17 d18 d19 d20 d21 d22 d23 d24 d25 d26 d27 d28 d29 d30 d31 d32 d33 d34 d35 d36 d37 d38 d39 d40 d41 d42 d43 d44 d45 fm v0 v1 l0_1 k0_1 l1_0 k1_0)⟩
    have l1_1 : (0 : Int) ≤ v1.toInt := by omega
    by_cases k1_1 : v1.toInt ≤ (0 : Int)
    ·
      obtain rfl : v1 = 0 := pt (by decide +kernel : (0 : Int32).toInt = (0 : Int)) l1_1 k1_1
      exact ⟨1, (c_X11_run_3 l D cI cZ cB cJ a0 a1 a2 a3 a4 a5 a6 a7 a8 a9 a10 a11 a12 a13 a14 a15 a16 a17 a18 a19 a20 a21 a22 a23 a24 a25 a26 a27 a28 a29 a30 a31 a32 a33 b0 b1 b2 b3 b4 b5 b6 b7 b8 b9 b10 b11 b12 b13 b14 b15 b16 b17 b18 b19 fx v0 l0_1 k0_1), (c_X12_run_3 l D cI cZ cB cJ c0 c1 c2 c3 c4 c5 c6 c7 c8 c9 c10 c11 c12 c13 c14 c15 c16 c17 c18 c19 c20 c21 c22 c23 c24 d0 d1 d2 d3 d4 d5 d6 d7 d8 d9 d10 d11 d12 d13 d14 d15 d16 d17 d18 d19 d20 d21 d22 d23 d24 d25 d26 d27 d28 d29 d30 d31 d32 d33 d34 d35 d36 d37 d38 d39 d40 d41 d42 d43 d44 d45 fm v0 l0_1 k0_1)⟩
    have l1_2 : (1 : Int) ≤ v1.toInt := by omega
    by_cases k1_2 : v1.toInt ≤ (1 : Int)
    ·
      obtain rfl : v1 = 1 := pt (by decide +kernel : (1 : Int32).toInt = (1 : Int)) l1_2 k1_2
      exact ⟨0, (c_X11_run_4 l D cI cZ cB cJ a0 a1 a2 a3 a4 a5 a6 a7 a8 a9 a10 a11 a12 a13 a14 a15 a16 a17 a18 a19 a20 a21 a22 a23 a24 a25 a26 a27 a28 a29 a30 a31 a32 a33 b0 b1 b2 b3 b4 b5 b6 b7 b8 b9 b10 b11 b12 b13 b14 b15 b16 b17 b18 b19 fx v0 l0_1 k0_1), (c_X12_run_4 l D cI cZ cB cJ c0 c1 c2 c3 c4 c5 c6 c7 c8 c9 c10 c11 c12 c13 c14 c15 c16 c17 c18 c19 c20 c21 c22 c23 c24 d0 d1 d2 d3 d4 d5 d6 d7 d8 d9 d10 d11 d12 d13 d14 d15 d16 d17 d18 d19 d20 d21 d22 d23 d24 d25 d26 d27 d28 d29 d30 d31 d32 d33 d34 d35 d36 d37 d38 d39 d40 d41 d42 d43 d44 d45 fm v0 l0_1 k0_1)⟩
    have l1_3 : (2 : Int) ≤ v1.toInt := by omega
    by_cases k1_3 : v1.toInt ≤ (2 : Int)
    ·
      obtain rfl : v1 = 2 := pt (by decide +kernel : (2 : Int32).toInt = (2 : Int)) l1_3 k1_3
      exact ⟨0, (c_X11_run_5 l D cI cZ cB cJ a0 a1 a2 a3 a4 a5 a6 a7 a8 a9 a10 a11 a12 a13 a14 a15 a16 a17 a18 a19 a20 a21 a22 a23 a24 a25 a26 a27 a28 a29 a30 a31 a32 a33 b0 b1 b2 b3 b4 b5 b6 b7 b8 b9 b10 b11 b12 b13 b14 b15 b16 b17 b18 b19 fx v0 l0_1 k0_1), (c_X12_run_5 l D cI cZ cB cJ c0 c1 c2 c3 c4 c5 c6 c7 c8 c9 c10 c11 c12 c13 c14 c15 c16 c17 c18 c19 c20 c21 c22 c23 c24 d0 d1 d2 d3 d4 d5 d6 d7 d8 d9 d10 d11 d12 d13 d14 d15 d16 d17 d18 d19 d20 d21 d22 d23 d24 d25 d26 d27 d28 d29 d30 d31 d32 d33 d34 d35 d36 d37 d38 d39 d40 d41 d42 d43 d44 d45 fm v0 l0_1 k0_1)⟩
    have l1_4 : (3 : Int) ≤ v1.toInt := by omega
    by_cases k1_4 : v1.toInt ≤ (3 : Int)
    ·
      obtain rfl : v1 = 3 := pt (by decide +kernel : (3 : Int32).toInt = (3 : Int)) l1_4 k1_4
      exact ⟨1, (c_X11_run_6 l D cI cZ cB cJ a0 a1 a2 a3 a4 a5 a6 a7 a8 a9 a10 a11 a12 a13 a14 a15 a16 a17 a18 a19 a20 a21 a22 a23 a24 a25 a26 a27 a28 a29 a30 a31 a32 a33 b0 b1 b2 b3 b4 b5 b6 b7 b8 b9 b10 b11 b12 b13 b14 b15 b16 b17 b18 b19 fx v0 l0_1 k0_1), (c_X12_run_6 l D cI cZ cB cJ c0 c1 c2 c3 c4 c5 c6 c7 c8 c9 c10 c11 c12 c13 c14 c15 c16 c17 c18 c19 c20 c21 c22 c23 c24 d0 d1 d2 d3 d4 d5 d6 d7 d8 d9 d10 d11 d12 d13 d14 d15 d16 d17 d18 d19 d20 d21 d22 d23 d24 d25 d26 d27 d28 d29 d30 d31 d32 d33 d34 d35 d36 d37 d38 d39 d40 d41 d42 d43 d44 d45 fm v0 l0_1 k0_1)⟩
    have l1_5 : (4 : Int) ≤ v1.toInt := by omega
    by_cases k1_5 : v1.toInt ≤ (4 : Int)
    ·
      obtain rfl : v1 = 4 := pt (by decide +kernel : (4 : Int32).toInt = (4 : Int)) l1_5 k1_5
      exact ⟨0, (c_X11_run_7 l D cI cZ cB cJ a0 a1 a2 a3 a4 a5 a6 a7 a8 a9 a10 a11 a12 a13 a14 a15 a16 a17 a18 a19 a20 a21 a22 a23 a24 a25 a26 a27 a28 a29 a30 a31 a32 a33 b0 b1 b2 b3 b4 b5 b6 b7 b8 b9 b10 b11 b12 b13 b14 b15 b16 b17 b18 b19 fx v0 l0_1 k0_1), (c_X12_run_7 l D cI cZ cB cJ c0 c1 c2 c3 c4 c5 c6 c7 c8 c9 c10 c11 c12 c13 c14 c15 c16 c17 c18 c19 c20 c21 c22 c23 c24 d0 d1 d2 d3 d4 d5 d6 d7 d8 d9 d10 d11 d12 d13 d14 d15 d16 d17 d18 d19 d20 d21 d22 d23 d24 d25 d26 d27 d28 d29 d30 d31 d32 d33 d34 d35 d36 d37 d38 d39 d40 d41 d42 d43 d44 d45 fm v0 l0_1 k0_1)⟩
    have l1_6 : (5 : Int) ≤ v1.toInt := by omega
    by_cases k1_6 : v1.toInt ≤ (5 : Int)
    ·
      obtain rfl : v1 = 5 := pt (by decide +kernel : (5 : Int32).toInt = (5 : Int)) l1_6 k1_6
      exact ⟨0, (c_X11_run_8 l D cI cZ cB cJ a0 a1 a2 a3 a4 a5 a6 a7 a8 a9 a10 a11 a12 a13 a14 a15 a16 a17 a18 a19 a20 a21 a22 a23 a24 a25 a26 a27 a28 a29 a30 a31 a32 a33 b0 b1 b2 b3 b4 b5 b6 b7 b8 b9 b10 b11 b12 b13 b14 b15 b16 b17 b18 b19 fx v0 l0_1 k0_1), (c_X12_run_8 l D cI cZ cB cJ c0 c1 c2 c3 c4 c5 c6 c7 c8 c9 c10 c11 c12 c13 c14 c15 c16 c17 c18 c19 c20 c21 c22 c23 c24 d0 d1 d2 d3 d4 d5 d6 d7 d8 d9 d10 d11 d12 d13 d14 d15 d16 d17 d18 d19 d20 d21 d22 d23 d24 d25 d26 d27 d28 d29 d30 d31 d32 d33 d34 d35 d36 d37 d38 d39 d40 d41 d42 d43 d44 d45 fm v0 l0_1 k0_1)⟩
    have l1_7 : (6 : Int) ≤ v1.toInt := by omega
    by_cases k1_7 : v1.toInt ≤ (6 : Int)
    ·
      obtain rfl : v1 = 6 := pt (by decide +kernel : (6 : Int32).toInt = (6 : Int)) l1_7 k1_7
      exact ⟨0, (c_X11_run_9 l D cI cZ cB cJ a0 a1 a2 a3 a4 a5 a6 a7 a8 a9 a10 a11 a12 a13 a14 a15 a16 a17 a18 a19 a20 a21 a22 a23 a24 a25 a26 a27 a28 a29 a30 a31 a32 a33 b0 b1 b2 b3 b4 b5 b6 b7 b8 b9 b10 b11 b12 b13 b14 b15 b16 b17 b18 b19 fx v0 l0_1 k0_1), (c_X12_run_9 l D cI cZ cB cJ c0 c1 c2 c3 c4 c5 c6 c7 c8 c9 c10 c11 c12 c13 c14 c15 c16 c17 c18 c19 c20 c21 c22 c23 c24 d0 d1 d2 d3 d4 d5 d6 d7 d8 d9 d10 d11 d12 d13 d14 d15 d16 d17 d18 d19 d20 d21 d22 d23 d24 d25 d26 d27 d28 d29 d30 d31 d32 d33 d34 d35 d36 d37 d38 d39 d40 d41 d42 d43 d44 d45 fm v0 l0_1 k0_1)⟩
    have l1_8 : (7 : Int) ≤ v1.toInt := by omega
    by_cases k1_8 : v1.toInt ≤ (7 : Int)
    ·
      obtain rfl : v1 = 7 := pt (by decide +kernel : (7 : Int32).toInt = (7 : Int)) l1_8 k1_8
      exact ⟨0, (c_X11_run_10 l D cI cZ cB cJ a0 a1 a2 a3 a4 a5 a6 a7 a8 a9 a10 a11 a12 a13 a14 a15 a16 a17 a18 a19 a20 a21 a22 a23 a24 a25 a26 a27 a28 a29 a30 a31 a32 a33 b0 b1 b2 b3 b4 b5 b6 b7 b8 b9 b10 b11 b12 b13 b14 b15 b16 b17 b18 b19 fx v0 l0_1 k0_1), (c_X12_run_10 l D cI cZ cB cJ c0 c1 c2 c3 c4 c5 c6 c7 c8 c9 c10 c11 c12 c13 c14 c15 c16 c17 c18 c19 c20 c21 c22 c23 c24 d0 d1 d2 d3 d4 d5 d6 d7 d8 d9 d10 d11 d12 d13 d14 d15 d16 d17 d18 d19 d20 d21 d22 d23 d24 d25 d26 d27 d28 d29 d30 d31 d32 d33 d34 d35 d36 d37 d38 d39 d40 d41 d42 d43 d44 d45 fm v0 l0_1 k0_1)⟩
    have l1_9 : (8 : Int) ≤ v1.toInt := by omega
    by_cases k1_9 : v1.toInt ≤ (8 : Int)
    ·
      obtain rfl : v1 = 8 := pt (by decide +kernel : (8 : Int32).toInt = (8 : Int)) l1_9 k1_9
      exact ⟨0, (c_X11_run_11 l D cI cZ cB cJ a0 a1 a2 a3 a4 a5 a6 a7 a8 a9 a10 a11 a12 a13 a14 a15 a16 a17 a18 a19 a20 a21 a22 a23 a24 a25 a26 a27 a28 a29 a30 a31 a32 a33 b0 b1 b2 b3 b4 b5 b6 b7 b8 b9 b10 b11 b12 b13 b14 b15 b16 b17 b18 b19 fx v0 l0_1 k0_1), (c_X12_run_11 l D cI cZ cB cJ c0 c1 c2 c3 c4 c5 c6 c7 c8 c9 c10 c11 c12 c13 c14 c15 c16 c17 c18 c19 c20 c21 c22 c23 c24 d0 d1 d2 d3 d4 d5 d6 d7 d8 d9 d10 d11 d12 d13 d14 d15 d16 d17 d18 d19 d20 d21 d22 d23 d24 d25 d26 d27 d28 d29 d30 d31 d32 d33 d34 d35 d36 d37 d38 d39 d40 d41 d42 d43 d44 d45 fm v0 l0_1 k0_1)⟩
    have l1_10 : (9 : Int) ≤ v1.toInt := by omega
    exact ⟨(-2147483648), (c_X11_run_12 l D cI cZ cB cJ a0 a1 a2 a3 a4 a5 a6 a7 a8 a9 a10 a11 a12 a13 a14 a15 a16 a17 a18 a19 a20 a21 a22 a23 a24 a25 a26 a27 a28 a29 a30 a31 a32 a33 b0 b1 b2 b3 b4 b5 b6 b7 b8 b9 b10 b11 b12 b13 b14 b15 b16 b17 b18 b19 fx v0 v1 l0_1 k0_1 l1_10 u1), (c_X12_run_12 l D cI cZ cB cJ c0 c1 c2 c3 c4 c5 c6 c7 c8 c9 c10 c11 c12 c13 c14 c15 c16 c17 c18 c19 c20 c21 c22 c23 c24 d0 d1 d2 d3 d4 d5 d6 d7 d8 d9 d10 d11 d12 d13 d14 d15 d16 d17 d18 d19 d20 d21 d22 d23 d24 d25 d26 d27 d28 d29 d30 d31 d32 d33 d34 d35 d36 d37 d38 d39 d40 d41 d42 d43 d44 d45 fm v0 v1 l0_1 k0_1 l1_10 u1)⟩
  have l0_2 : (3 : Int) ≤ v0.toInt := by omega
  have l1_0 : (-2147483648 : Int) ≤ v1.toInt := i32_lo v1
  have u1 : v1.toInt ≤ (2147483647 : Int) := i32_hi v1
  exact ⟨(-2147483648), (c_X11_run_1 l D cI cZ cB cJ a0 a1 a2 a3 a4 a5 a6 a7 a8 a9 a10 a11 a12 a13 a14 a15 a16 a17 a18 a19 a20 a21 a22 a23 a24 a25 a26 a27 a28 a29 a30 a31 a32 a33 b0 b1 b2 b3 b4 b5 b6 b7 b8 b9 b10 b11 b12 b13 b14 b15 b16 b17 b18 b19 fx v0 v1 l0_2 u0), (c_X12_run_1 l D cI cZ cB cJ c0 c1 c2 c3 c4 c5 c6 c7 c8 c9 c10 c11 c12 c13 c14 c15 c16 c17 c18 c19 c20 c21 c22 c23 c24 d0 d1 d2 d3 d4 d5 d6 d7 d8 d9 d10 d11 d12 d13 d14 d15 d16 d17 d18 d19 d20 d21 d22 d23 d24 d25 d26 d27 d28 d29 d30 d31 d32 d33 d34 d35 d36 d37 d38 d39 d40 d41 d42 d43 d44 d45 fm v0 v1 l0_2 u0)⟩
set_option maxHeartbeats 4000000 in
set_option maxRecDepth 100000 in
theorem both_trace (l : Launch) (D : va_G) (cI cZ cB cJ : ClassId) (a0 a1 a2 a3 a4 a5 a6 a7 a8 a9 a10 a11 a12 a13 a14 a15 a16 a17 a18 a19 a20 a21 a22 a23 a24 a25 a26 a27 a28 a29 a30 a31 a32 a33 b0 b1 b2 b3 b4 b5 b6 b7 b8 b9 b10 b11 b12 b13 b14 b15 b16 b17 b18 b19 c0 c1 c2 c3 c4 c5 c6 c7 c8 c9 c10 c11 c12 c13 c14 c15 c16 c17 c18 c19 c20 c21 c22 c23 c24 d0 d1 d2 d3 d4 d5 d6 d7 d8 d9 d10 d11 d12 d13 d14 d15 d16 d17 d18 d19 d20 d21 d22 d23 d24 d25 d26 d27 d28 d29 d30 d31 d32 d33 d34 d35 d36 d37 d38 d39 d40 d41 d42 d43 d44 d45 : Nat) (fx fm : Nat → Int32) (v0 v1 v2 : Int32) : ∃ r0 : Int32, CtI l D (TT cI cZ cB cJ) yX11_trace cX11_trace 4 (some .int) 5 109 0 0 [.ref a0, .int v0, .int v1, .int v2] (WX cI cZ cB cJ a0 a1 a2 a3 a4 a5 a6 a7 a8 a9 a10 a11 a12 a13 a14 a15 a16 a17 a18 a19 a20 a21 a22 a23 a24 a25 a26 a27 a28 a29 a30 a31 a32 a33 b0 b1 b2 b3 b4 b5 b6 b7 b8 b9 b10 b11 b12 b13 b14 b15 b16 b17 b18 b19 fx) (fun r w1 => r = r0 ∧ w1 = []) ∧ CtI l D (TT cI cZ cB cJ) yX12_trace cX12_trace 5 (some .int) 3 68 0 0 [.ref c0, .int v0, .int v1, .int v2] (WM cI cZ cB cJ c0 c1 c2 c3 c4 c5 c6 c7 c8 c9 c10 c11 c12 c13 c14 c15 c16 c17 c18 c19 c20 c21 c22 c23 c24 d0 d1 d2 d3 d4 d5 d6 d7 d8 d9 d10 d11 d12 d13 d14 d15 d16 d17 d18 d19 d20 d21 d22 d23 d24 d25 d26 d27 d28 d29 d30 d31 d32 d33 d34 d35 d36 d37 d38 d39 d40 d41 d42 d43 d44 d45 fm) (fun r w1 => r = r0 ∧ w1 = []) := by
  have l0_0 : (-2147483648 : Int) ≤ v0.toInt := i32_lo v0
  have u0 : v0.toInt ≤ (2147483647 : Int) := i32_hi v0
  by_cases k0_0 : v0.toInt ≤ ((-1) : Int)
  ·
    have l1_0 : (-2147483648 : Int) ≤ v1.toInt := i32_lo v1
    have u1 : v1.toInt ≤ (2147483647 : Int) := i32_hi v1
    have l2_0 : (-2147483648 : Int) ≤ v2.toInt := i32_lo v2
    have u2 : v2.toInt ≤ (2147483647 : Int) := i32_hi v2
    exact ⟨(-1), (c_X11_trace_0 l D cI cZ cB cJ a0 a1 a2 a3 a4 a5 a6 a7 a8 a9 a10 a11 a12 a13 a14 a15 a16 a17 a18 a19 a20 a21 a22 a23 a24 a25 a26 a27 a28 a29 a30 a31 a32 a33 b0 b1 b2 b3 b4 b5 b6 b7 b8 b9 b10 b11 b12 b13 b14 b15 b16 b17 b18 b19 fx v0 v1 v2 l0_0 k0_0), (c_X12_trace_0 l D cI cZ cB cJ c0 c1 c2 c3 c4 c5 c6 c7 c8 c9 c10 c11 c12 c13 c14 c15 c16 c17 c18 c19 c20 c21 c22 c23 c24 d0 d1 d2 d3 d4 d5 d6 d7 d8 d9 d10 d11 d12 d13 d14 d15 d16 d17 d18 d19 d20 d21 d22 d23 d24 d25 d26 d27 d28 d29 d30 d31 d32 d33 d34 d35 d36 d37 d38 d39 d40 d41 d42 d43 d44 d45 fm v0 v1 v2 l0_0 k0_0)⟩
  have l0_1 : (0 : Int) ≤ v0.toInt := by omega
  by_cases k0_1 : v0.toInt ≤ (2 : Int)
  ·
    have l1_0 : (-2147483648 : Int) ≤ v1.toInt := i32_lo v1
    have u1 : v1.toInt ≤ (2147483647 : Int) := i32_hi v1
    by_cases k1_0 : v1.toInt ≤ ((-1) : Int)
    ·
      have l2_0 : (-2147483648 : Int) ≤ v2.toInt := i32_lo v2
      have u2 : v2.toInt ≤ (2147483647 : Int) := i32_hi v2
      exact ⟨(-1), (c_X11_trace_2 l D cI cZ cB cJ a0 a1 a2 a3 a4 a5 a6 a7 a8 a9 a10 a11 a12 a13 a14 a15 a16 a17 a18 a19 a20 a21 a22 a23 a24 a25 a26 a27 a28 a29 a30 a31 a32 a33 b0 b1 b2 b3 b4 b5 b6 b7 b8 b9 b10 b11 b12 b13 b14 b15 b16 b17 b18 b19 fx v0 v1 v2 l0_1 k0_1 l1_0 k1_0), (c_X12_trace_2 l D cI cZ cB cJ c0 c1 c2 c3 c4 c5 c6 c7 c8 c9 c10 c11 c12 c13 c14 c15 c16 c17 c18 c19 c20 c21 c22 c23 c24 d0 d1 d2 d3 d4 d5 d6 d7 d8 d9 d10 d11 d12 d13 d14 d15 d16 d17 d18 d19 d20 d21 d22 d23 d24 d25 d26 d27 d28 d29 d30 d31 d32 d33 d34 d35 d36 d37 d38 d39 d40 d41 d42 d43 d44 d45 fm v0 v1 v2 l0_1 k0_1 l1_0 k1_0)⟩
    have l1_1 : (0 : Int) ≤ v1.toInt := by omega
    by_cases k1_1 : v1.toInt ≤ (0 : Int)
    ·
      obtain rfl : v1 = 0 := pt (by decide +kernel : (0 : Int32).toInt = (0 : Int)) l1_1 k1_1
      have l2_0 : (-2147483648 : Int) ≤ v2.toInt := i32_lo v2
      have u2 : v2.toInt ≤ (2147483647 : Int) := i32_hi v2
      by_cases k2_0 : v2.toInt ≤ ((-1) : Int)
      ·
        exact ⟨(-1), (c_X11_trace_4 l D cI cZ cB cJ a0 a1 a2 a3 a4 a5 a6 a7 a8 a9 a10 a11 a12 a13 a14 a15 a16 a17 a18 a19 a20 a21 a22 a23 a24 a25 a26 a27 a28 a29 a30 a31 a32 a33 b0 b1 b2 b3 b4 b5 b6 b7 b8 b9 b10 b11 b12 b13 b14 b15 b16 b17 b18 b19 fx v0 v2 l0_1 k0_1 l2_0 k2_0), (c_X12_trace_4 l D cI cZ cB cJ c0 c1 c2 c3 c4 c5 c6 c7 c8 c9 c10 c11 c12 c13 c14 c15 c16 c17 c18 c19 c20 c21 c22 c23 c24 d0 d1 d2 d3 d4 d5 d6 d7 d8 d9 d10 d11 d12 d13 d14 d15 d16 d17 d18 d19 d20 d21 d22 d23 d24 d25 d26 d27 d28 d29 d30 d31 d32 d33 d34 d35 d36 d37 d38 d39 d40 d41 d42 d43 d44 d45 fm v0 v2 l0_1 k0_1 l2_0 k2_0)⟩
      have l2_1 : (0 : Int) ≤ v2.toInt := by omega
      by_cases k2_1 : v2.toInt ≤ (0 : Int)
      ·
        obtain rfl : v2 = 0 := pt (by decide +kernel : (0 : Int32).toInt = (0 : Int)) l2_1 k2_1
        exact ⟨0, (c_X11_trace_5 l D cI cZ cB cJ a0 a1 a2 a3 a4 a5 a6 a7 a8 a9 a10 a11 a12 a13 a14 a15 a16 a17 a18 a19 a20 a21 a22 a23 a24 a25 a26 a27 a28 a29 a30 a31 a32 a33 b0 b1 b2 b3 b4 b5 b6 b7 b8 b9 b10 b11 b12 b13 b14 b15 b16 b17 b18 b19 fx v0 l0_1 k0_1), (c_X12_trace_5 l D cI cZ cB cJ c0 c1 c2 c3 c4 c5 c6 c7 c8 c9 c10 c11 c12 c13 c14 c15 c16 c17 c18 c19 c20 c21 c22 c23 c24 d0 d1 d2 d3 d4 d5 d6 d7 d8 d9 d10 d11 d12 d13 d14 d15 d16 d17 d18 d19 d20 d21 d22 d23 d24 d25 d26 d27 d28 d29 d30 d31 d32 d33 d34 d35 d36 d37 d38 d39 d40 d41 d42 d43 d44 d45 fm v0 l0_1 k0_1)⟩
      have l2_2 : (1 : Int) ≤ v2.toInt := by omega
      by_cases k2_2 : v2.toInt ≤ (1 : Int)
      ·
        obtain rfl : v2 = 1 := pt (by decide +kernel : (1 : Int32).toInt = (1 : Int)) l2_2 k2_2
        exact ⟨0, (c_X11_trace_6 l D cI cZ cB cJ a0 a1 a2 a3 a4 a5 a6 a7 a8 a9 a10 a11 a12 a13 a14 a15 a16 a17 a18 a19 a20 a21 a22 a23 a24 a25 a26 a27 a28 a29 a30 a31 a32 a33 b0 b1 b2 b3 b4 b5 b6 b7 b8 b9 b10 b11 b12 b13 b14 b15 b16 b17 b18 b19 fx v0 l0_1 k0_1), (c_X12_trace_6 l D cI cZ cB cJ c0 c1 c2 c3 c4 c5 c6 c7 c8 c9 c10 c11 c12 c13 c14 c15 c16 c17 c18 c19 c20 c21 c22 c23 c24 d0 d1 d2 d3 d4 d5 d6 d7 d8 d9 d10 d11 d12 d13 d14 d15 d16 d17 d18 d19 d20 d21 d22 d23 d24 d25 d26 d27 d28 d29 d30 d31 d32 d33 d34 d35 d36 d37 d38 d39 d40 d41 d42 d43 d44 d45 fm v0 l0_1 k0_1)⟩
      have l2_3 : (2 : Int) ≤ v2.toInt := by omega
      by_cases k2_3 : v2.toInt ≤ (2 : Int)
      ·
        obtain rfl : v2 = 2 := pt (by decide +kernel : (2 : Int32).toInt = (2 : Int)) l2_3 k2_3
        exact ⟨0, (c_X11_trace_7 l D cI cZ cB cJ a0 a1 a2 a3 a4 a5 a6 a7 a8 a9 a10 a11 a12 a13 a14 a15 a16 a17 a18 a19 a20 a21 a22 a23 a24 a25 a26 a27 a28 a29 a30 a31 a32 a33 b0 b1 b2 b3 b4 b5 b6 b7 b8 b9 b10 b11 b12 b13 b14 b15 b16 b17 b18 b19 fx v0 l0_1 k0_1), (c_X12_trace_7 l D cI cZ cB cJ c0 c1 c2 c3 c4 c5 c6 c7 c8 c9 c10 c11 c12 c13 c14 c15 c16 c17 c18 c19 c20 c21 c22 c23 c24 d0 d1 d2 d3 d4 d5 d6 d7 d8 d9 d10 d11 d12 d13 d14 d15 d16 d17 d18 d19 d20 d21 d22 d23 d24 d25 d26 d27 d28 d29 d30 d31 d32 d33 d34 d35 d36 d37 d38 d39 d40 d41 d42 d43 d44 d45 fm v0 l0_1 k0_1)⟩
      have l2_4 : (3 : Int) ≤ v2.toInt := by omega
      by_cases k2_4 : v2.toInt ≤ (3 : Int)
      ·
        obtain rfl : v2 = 3 := pt (by decide +kernel : (3 : Int32).toInt = (3 : Int)) l2_4 k2_4
        exact ⟨(-2), (c_X11_trace_8 l D cI cZ cB cJ a0 a1 a2 a3 a4 a5 a6 a7 a8 a9 a10 a11 a12 a13 a14 a15 a16 a17 a18 a19 a20 a21 a22 a23 a24 a25 a26 a27 a28 a29 a30 a31 a32 a33 b0 b1 b2 b3 b4 b5 b6 b7 b8 b9 b10 b11 b12 b13 b14 b15 b16 b17 b18 b19 fx v0 l0_1 k0_1), (c_X12_trace_8 l D cI cZ cB cJ c0 c1 c2 c3 c4 c5 c6 c7 c8 c9 c10 c11 c12 c13 c14 c15 c16 c17 c18 c19 c20 c21 c22 c23 c24 d0 d1 d2 d3 d4 d5 d6 d7 d8 d9 d10 d11 d12 d13 d14 d15 d16 d17 d18 d19 d20 d21 d22 d23 d24 d25 d26 d27 d28 d29 d30 d31 d32 d33 d34 d35 d36 d37 d38 d39 d40 d41 d42 d43 d44 d45 fm v0 l0_1 k0_1)⟩
      have l2_5 : (4 : Int) ≤ v2.toInt := by omega
      exact ⟨(-1), (c_X11_trace_9 l D cI cZ cB cJ a0 a1 a2 a3 a4 a5 a6 a7 a8 a9 a10 a11 a12 a13 a14 a15 a16 a17 a18 a19 a20 a21 a22 a23 a24 a25 a26 a27 a28 a29 a30 a31 a32 a33 b0 b1 b2 b3 b4 b5 b6 b7 b8 b9 b10 b11 b12 b13 b14 b15 b16 b17 b18 b19 fx v0 v2 l0_1 k0_1 l2_5 u2), (c_X12_trace_9 l D cI cZ cB cJ c0 c1 c2 c3 c4 c5 c6 c7 c8 c9 c10 c11 c12 c13 c14 c15 c16 c17 c18 c19 c20 c21 c22 c23 c24 d0 d1 d2 d3 d4 d5 d6 d7 d8 d9 d10 d11 d12 d13 d14 d15 d16 d17 d18 d19 d20 d21 d22 d23 d24 d25 d26 d27 d28 d29 d30 d31 d32 d33 d34 d35 d36 d37 d38 d39 d40 d41 d42 d43 d44 d45 fm v0 v2 l0_1 k0_1 l2_5 u2)⟩
    have l1_2 : (1 : Int) ≤ v1.toInt := by omega
    by_cases k1_2 : v1.toInt ≤ (1 : Int)
    ·
      obtain rfl : v1 = 1 := pt (by decide +kernel : (1 : Int32).toInt = (1 : Int)) l1_2 k1_2
      have l2_0 : (-2147483648 : Int) ≤ v2.toInt := i32_lo v2
      have u2 : v2.toInt ≤ (2147483647 : Int) := i32_hi v2
      by_cases k2_0 : v2.toInt ≤ ((-1) : Int)
      ·
        exact ⟨(-1), (c_X11_trace_10 l D cI cZ cB cJ a0 a1 a2 a3 a4 a5 a6 a7 a8 a9 a10 a11 a12 a13 a14 a15 a16 a17 a18 a19 a20 a21 a22 a23 a24 a25 a26 a27 a28 a29 a30 a31 a32 a33 b0 b1 b2 b3 b4 b5 b6 b7 b8 b9 b10 b11 b12 b13 b14 b15 b16 b17 b18 b19 fx v0 v2 l0_1 k0_1 l2_0 k2_0), (c_X12_trace_10 l D cI cZ cB cJ c0 c1 c2 c3 c4 c5 c6 c7 c8 c9 c10 c11 c12 c13 c14 c15 c16 c17 c18 c19 c20 c21 c22 c23 c24 d0 d1 d2 d3 d4 d5 d6 d7 d8 d9 d10 d11 d12 d13 d14 d15 d16 d17 d18 d19 d20 d21 d22 d23 d24 d25 d26 d27 d28 d29 d30 d31 d32 d33 d34 d35 d36 d37 d38 d39 d40 d41 d42 d43 d44 d45 fm v0 v2 l0_1 k0_1 l2_0 k2_0)⟩
      have l2_1 : (0 : Int) ≤ v2.toInt := by omega
      by_cases k2_1 : v2.toInt ≤ (0 : Int)
      ·
        obtain rfl : v2 = 0 := pt (by decide +kernel : (0 : Int32).toInt = (0 : Int)) l2_1 k2_1
        exact ⟨0, (c_X11_trace_11 l D cI cZ cB cJ a0 a1 a2 a3 a4 a5 a6 a7 a8 a9 a10 a11 a12 a13 a14 a15 a16 a17 a18 a19 a20 a21 a22 a23 a24 a25 a26 a27 a28 a29 a30 a31 a32 a33 b0 b1 b2 b3 b4 b5 b6 b7 b8 b9 b10 b11 b12 b13 b14 b15 b16 b17 b18 b19 fx v0 l0_1 k0_1), (c_X12_trace_11 l D cI cZ cB cJ c0 c1 c2 c3 c4 c5 c6 c7 c8 c9 c10 c11 c12 c13 c14 c15 c16 c17 c18 c19 c20 c21 c22 c23 c24 d0 d1 d2 d3 d4 d5 d6 d7 d8 d9 d10 d11 d12 d13 d14 d15 d16 d17 d18 d19 d20 d21 d22 d23 d24 d25 d26 d27 d28 d29 d30 d31 d32 d33 d34 d35 d36 d37 d38 d39 d40 d41 d42 d43 d44 d45 fm v0 l0_1 k0_1)⟩
      have l2_2 : (1 : Int) ≤ v2.toInt := by omega
      by_cases k2_2 : v2.toInt ≤ (1 : Int)
      ·
        obtain rfl : v2 = 1 := pt (by decide +kernel : (1 : Int32).toInt = (1 : Int)) l2_2 k2_2
        exact ⟨0, (c_X11_trace_12 l D cI cZ cB cJ a0 a1 a2 a3 a4 a5 a6 a7 a8 a9 a10 a11 a12 a13 a14 a15 a16 a17 a18 a19 a20 a21 a22 a23 a24 a25 a26 a27 a28 a29 a30 a31 a32 a33 b0 b1 b2 b3 b4 b5 b6 b7 b8 b9 b10 b11 b12 b13 b14 b15 b16 b17 b18 b19 fx v0 l0_1 k0_1), (c_X12_trace_12 l D cI cZ cB cJ c0 c1 c2 c3 c4 c5 c6 c7 c8 c9 c10 c11 c12 c13 c14 c15 c16 c17 c18 c19 c20 c21 c22 c23 c24 d0 d1 d2 d3 d4 d5 d6 d7 d8 d9 d10 d11 d12 d13 d14 d15 d16 d17 d18 d19 d20 d21 d22 d23 d24 d25 d26 d27 d28 d29 d30 d31 d32 d33 d34 d35 d36 d37 d38 d39 d40 d41 d42 d43 d44 d45 fm v0 l0_1 k0_1)⟩
      have l2_3 : (2 : Int) ≤ v2.toInt := by omega
      by_cases k2_3 : v2.toInt ≤ (2 : Int)
      ·
        obtain rfl : v2 = 2 := pt (by decide +kernel : (2 : Int32).toInt = (2 : Int)) l2_3 k2_3
        exact ⟨(-2), (c_X11_trace_13 l D cI cZ cB cJ a0 a1 a2 a3 a4 a5 a6 a7 a8 a9 a10 a11 a12 a13 a14 a15 a16 a17 a18 a19 a20 a21 a22 a23 a24 a25 a26 a27 a28 a29 a30 a31 a32 a33 b0 b1 b2 b3 b4 b5 b6 b7 b8 b9 b10 b11 b12 b13 b14 b15 b16 b17 b18 b19 fx v0 l0_1 k0_1), (c_X12_trace_13 l D cI cZ cB cJ c0 c1 c2 c3 c4 c5 c6 c7 c8 c9 c10 c11 c12 c13 c14 c15 c16 c17 c18 c19 c20 c21 c22 c23 c24 d0 d1 d2 d3 d4 d5 d6 d7 d8 d9 d10 d11 d12 d13 d14 d15 d16 d17 d18 d19 d20 d21 d22 d23 d24 d25 d26 d27 d28 d29 d30 d31 d32 d33 d34 d35 d36 d37 d38 d39 d40 d41 d42 d43 d44 d45 fm v0 l0_1 k0_1)⟩
      have l2_4 : (3 : Int) ≤ v2.toInt := by omega
      by_cases k2_4 : v2.toInt ≤ (3 : Int)
      ·
        obtain rfl : v2 = 3 := pt (by decide +kernel : (3 : Int32).toInt = (3 : Int)) l2_4 k2_4
        exact ⟨1, (c_X11_trace_14 l D cI cZ cB cJ a0 a1 a2 a3 a4 a5 a6 a7 a8 a9 a10 a11 a12 a13 a14 a15 a16 a17 a18 a19 a20 a21 a22 a23 a24 a25 a26 a27 a28 a29 a30 a31 a32 a33 b0 b1 b2 b3 b4 b5 b6 b7 b8 b9 b10 b11 b12 b13 b14 b15 b16 b17 b18 b19 fx v0 l0_1 k0_1), (c_X12_trace_14 l D cI cZ cB cJ c0 c1 c2 c3 c4 c5 c6 c7 c8 c9 c10 c11 c12 c13 c14 c15 c16 c17 c18 c19 c20 c21 c22 c23 c24 d0 d1 d2 d3 d4 d5 d6 d7 d8 d9 d10 d11 d12 d13 d14 d15 d16 d17 d18 d19 d20 d21 d22 d23 d24 d25 d26 d27 d28 d29 d30 d31 d32 d33 d34 d35 d36 d37 d38 d39 d40 d41 d42 d43 d44 d45 fm v0 l0_1 k0_1)⟩
      have l2_5 : (4 : Int) ≤ v2.toInt := by omega
      exact ⟨(-1), (c_X11_trace_15 l D cI cZ cB cJ a0 a1 a2 a3 a4 a5 a6 a7 a8 a9 a10 a11 a12 a13 a14 a15 a16 a17 a18 a19 a20 a21 a22 a23 a24 a25 a26 a27 a28 a29 a30 a31 a32 a33 b0 b1 b2 b3 b4 b5 b6 b7 b8 b9 b10 b11 b12 b13 b14 b15 b16 b17 b18 b19 fx v0 v2 l0_1 k0_1 l2_5 u2), (c_X12_trace_15 l D cI cZ cB cJ c0 c1 c2 c3 c4 c5 c6 c7 c8 c9 c10 c11 c12 c13 c14 c15 c16 c17 c18 c19 c20 c21 c22 c23 c24 d0 d1 d2 d3 d4 d5 d6 d7 d8 d9 d10 d11 d12 d13 d14 d15 d16 d17 d18 d19 d20 d21 d22 d23 d24 d25 d26 d27 d28 d29 d30 d31 d32 d33 d34 d35 d36 d37 d38 d39 d40 d41 d42 d43 d44 d45 fm v0 v2 l0_1 k0_1 l2_5 u2)⟩
    have l1_3 : (2 : Int) ≤ v1.toInt := by omega
    by_cases k1_3 : v1.toInt ≤ (1500 : Int)
    ·
      have l2_0 : (-2147483648 : Int) ≤ v2.toInt := i32_lo v2
      have u2 : v2.toInt ≤ (2147483647 : Int) := i32_hi v2
      by_cases k2_0 : v2.toInt ≤ ((-1) : Int)
      ·
        exact ⟨(-1), (c_X11_trace_16 l D cI cZ cB cJ a0 a1 a2 a3 a4 a5 a6 a7 a8 a9 a10 a11 a12 a13 a14 a15 a16 a17 a18 a19 a20 a21 a22 a23 a24 a25 a26 a27 a28 a29 a30 a31 a32 a33 b0 b1 b2 b3 b4 b5 b6 b7 b8 b9 b10 b11 b12 b13 b14 b15 b16 b17 b18 b19 fx v0 v1 v2 l0_1 k0_1 l1_3 k1_3 l2_0 k2_0), (c_X12_trace_16 l D cI cZ cB cJ c0 c1 c2 c3 c4 c5 c6 c7 c8 c9 c10 c11 c12 c13 c14 c15 c16 c17 c18 c19 c20 c21 c22 c23 c24 d0 d1 d2 d3 d4 d5 d6 d7 d8 d9 d10 d11 d12 d13 d14 d15 d16 d17 d18 d19 d20 d21 d22 d23 d24 d25 d26 d27 d28 d29 d30 d31 d32 d33 d34 d35 d36 d37 d38 d39 d40 d41 d42 d43 d44 d45 fm v0 v1 v2 l0_1 k0_1 l1_3 k1_3 l2_0 k2_0)⟩
      have l2_1 : (0 : Int) ≤ v2.toInt := by omega
      by_cases k2_1 : v2.toInt ≤ (0 : Int)
      ·
        obtain rfl : v2 = 0 := pt (by decide +kernel : (0 : Int32).toInt = (0 : Int)) l2_1 k2_1
        exact ⟨0, (c_X11_trace_17 l D cI cZ cB cJ a0 a1 a2 a3 a4 a5 a6 a7 a8 a9 a10 a11 a12 a13 a14 a15 a16 a17 a18 a19 a20 a21 a22 a23 a24 a25 a26 a27 a28 a29 a30 a31 a32 a33 b0 b1 b2 b3 b4 b5 b6 b7 b8 b9 b10 b11 b12 b13 b14 b15 b16 b17 b18 b19 fx v0 v1 l0_1 k0_1 l1_3 k1_3), (c_X12_trace_17 l D cI cZ cB cJ c0 c1 c2 c3 c4 c5 c6 c7 c8 c9 c10 c11 c12 c13 c14 c15 c16 c17 c18 c19 c20 c21 c22 c23 c24 d0 d1 d2 d3 d4 d5 d6 d7 d8 d9 d10 d11 d12 d13 d14 d15 d16 d17 d18 d19 d20 d21 d22 d23 d24 d25 d26 d27 d28 d29 d30 d31 d32 d33 d34 d35 d36 d37 d38 d39 d40 d41 d42 d43 d44 d45 fm v0 v1 l0_1 k0_1 l1_3 k1_3)⟩
      have l2_2 : (1 : Int) ≤ v2.toInt := by omega
      by_cases k2_2 : v2.toInt ≤ (1 : Int)
      ·
        obtain rfl : v2 = 1 := pt (by decide +kernel : (1 : Int32).toInt = (1 : Int)) l2_2 k2_2
        exact ⟨0, (c_X11_trace_18 l D cI cZ cB cJ a0 a1 a2 a3 a4 a5 a6 a7 a8 a9 a10 a11 a12 a13 a14 a15 a16 a17 a18 a19 a20 a21 a22 a23 a24 a25 a26 a27 a28 a29 a30 a31 a32 a33 b0 b1 b2 b3 b4 b5 b6 b7 b8 b9 b10 b11 b12 b13 b14 b15 b16 b17 b18 b19 fx v0 v1 l0_1 k0_1 l1_3 k1_3), (c_X12_trace_18 l D cI cZ cB cJ c0 c1 c2 c3 c4 c5 c6 c7 c8 c9 c10 c11 c12 c13 c14 c15 c16 c17 c18 c19 c20 c21 c22 c23 c24 d0 d1 d2 d3 d4 d5 d6 d7 d8 d9 d10 d11 d12 d13 d14 d15 d16 d17 d18 d19 d20 d21 d22 d23 d24 d25 d26 d27 d28 d29 d30 d31 d32 d33 d34 d35 d36 d37 d38 d39 d40 d41 d42 d43 d44 d45 fm v0 v1 l0_1 k0_1 l1_3 k1_3)⟩
      have l2_3 : (2 : Int) ≤ v2.toInt := by omega
      by_cases k2_3 : v2.toInt ≤ (2 : Int)
      ·
        obtain rfl : v2 = 2 := pt (by decide +kernel : (2 : Int32).toInt = (2 : Int)) l2_3 k2_3
        exact ⟨(-2), (c_X11_trace_19 l D cI cZ cB cJ a0 a1 a2 a3 a4 a5 a6 a7 a8 a9 a10 a11 a12 a13 a14 a15 a16 a17 a18 a19 a20 a21 a22 a23 a24 a25 a26 a27 a28 a29 a30 a31 a32 a33 b0 b1 b2 b3 b4 b5 b6 b7 b8 b9 b10 b11 b12 b13 b14 b15 b16 b17 b18 b19 fx v0 v1 l0_1 k0_1 l1_3 k1_3), (c_X12_trace_19 l D cI cZ cB cJ c0 c1 c2 c3 c4 c5 c6 c7 c8 c9 c10 c11 c12 c13 c14 c15 c16 c17 c18 c19 c20 c21 c22 c23 c24 d0 d1 d2 d3 d4 d5 d6 d7 d8 d9 d10 d11 d12 d13 d14 d15 d16 d17 d18 d19 d20 d21 d22 d23 d24 d25 d26 d27 d28 d29 d30 d31 d32 d33 d34 d35 d36 d37 d38 d39 d40 d41 d42 d43 d44 d45 fm v0 v1 l0_1 k0_1 l1_3 k1_3)⟩
      have l2_4 : (3 : Int) ≤ v2.toInt := by omega
      by_cases k2_4 : v2.toInt ≤ (3 : Int)
      ·
        obtain rfl : v2 = 3 := pt (by decide +kernel : (3 : Int32).toInt = (3 : Int)) l2_4 k2_4
        exact ⟨1, (c_X11_trace_20 l D cI cZ cB cJ a0 a1 a2 a3 a4 a5 a6 a7 a8 a9 a10 a11 a12 a13 a14 a15 a16 a17 a18 a19 a20 a21 a22 a23 a24 a25 a26 a27 a28 a29 a30 a31 a32 a33 b0 b1 b2 b3 b4 b5 b6 b7 b8 b9 b10 b11 b12 b13 b14 b15 b16 b17 b18 b19 fx v0 v1 l0_1 k0_1 l1_3 k1_3), (c_X12_trace_20 l D cI cZ cB cJ c0 c1 c2 c3 c4 c5 c6 c7 c8 c9 c10 c11 c12 c13 c14 c15 c16 c17 c18 c19 c20 c21 c22 c23 c24 d0 d1 d2 d3 d4 d5 d6 d7 d8 d9 d10 d11 d12 d13 d14 d15 d16 d17 d18 d19 d20 d21 d22 d23 d24 d25 d26 d27 d28 d29 d30 d31 d32 d33 d34 d35 d36 d37 d38 d39 d40 d41 d42 d43 d44 d45 fm v0 v1 l0_1 k0_1 l1_3 k1_3)⟩
      have l2_5 : (4 : Int) ≤ v2.toInt := by omega
      exact ⟨(-1), (c_X11_trace_21 l D cI cZ cB cJ a0 a1 a2 a3 a4 a5 a6 a7 a8 a9 a10 a11 a12 a13 a14 a15 a16 a17 a18 a19 a20 a21 a22 a23 a24 a25 a26 a27 a28 a29 a30 a31 a32 a33 b0 b1 b2 b3 b4 b5 b6 b7 b8 b9 b10 b11 b12 b13 b14 b15 b16 b17 b18 b19 fx v0 v1 v2 l0_1 k0_1 l1_3 k1_3 l2_5 u2), (c_X12_trace_21 l D cI cZ cB cJ c0 c1 c2 c3 c4 c5 c6 c7 c8 c9 c10 c11 c12 c13 c14 c15 c16 c17 c18 c19 c20 c21 c22 c23 c24 d0 d1 d2 d3 d4 d5 d6 d7 d8 d9 d10 d11 d12 d13 d14 d15 d16 d17 d18 d19 d20 d21 d22 d23 d24 d25 d26 d27 d28 d29 d30 d31 d32 d33 d34 d35 d36 d37 d38 d39 d40 d41 d42 d43 d44 d45 fm v0 v1 v2 l0_1 k0_1 l1_3 k1_3 l2_5 u2)⟩
    have l1_4 : (1501 : Int) ≤ v1.toInt := by omega
    have l2_0 : (-2147483648 : Int) ≤ v2.toInt := i32_lo v2
    have u2 : v2.toInt ≤ (2147483647 : Int) := i32_hi v2
    exact ⟨(-1), (c_X11_trace_3 l D cI cZ cB cJ a0 a1 a2 a3 a4 a5 a6 a7 a8 a9 a10 a11 a12 a13 a14 a15 a16 a17 a18 a19 a20 a21 a22 a23 a24 a25 a26 a27 a28 a29 a30 a31 a32 a33 b0 b1 b2 b3 b4 b5 b6 b7 b8 b9 b10 b11 b12 b13 b14 b15 b16 b17 b18 b19 fx v0 v1 v2 l0_1 k0_1 l1_4 u1), (c_X12_trace_3 l D cI cZ cB cJ c0 c1 c2 c3 c4 c5 c6 c7 c8 c9 c10 c11 c12 c13 c14 c15 c16 c17 c18 c19 c20 c21 c22 c23 c24 d0 d1 d2 d3 d4 d5 d6 d7 d8 d9 d10 d11 d12 d13 d14 d15 d16 d17 d18 d19 d20 d21 d22 d23 d24 d25 d26 d27 d28 d29 d30 d31 d32 d33 d34 d35 d36 d37 d38 d39 d40 d41 d42 d43 d44 d45 fm v0 v1 v2 l0_1 k0_1 l1_4 u1)⟩
  have l0_2 : (3 : Int) ≤ v0.toInt := by omega
  have l1_0 : (-2147483648 : Int) ≤ v1.toInt := i32_lo v1
  have u1 : v1.toInt ≤ (2147483647 : Int) := i32_hi v1
  have l2_0 : (-2147483648 : Int) ≤ v2.toInt := i32_lo v2
  have u2 : v2.toInt ≤ (2147483647 : Int) := i32_hi v2
  exact ⟨(-1), (c_X11_trace_1 l D cI cZ cB cJ a0 a1 a2 a3 a4 a5 a6 a7 a8 a9 a10 a11 a12 a13 a14 a15 a16 a17 a18 a19 a20 a21 a22 a23 a24 a25 a26 a27 a28 a29 a30 a31 a32 a33 b0 b1 b2 b3 b4 b5 b6 b7 b8 b9 b10 b11 b12 b13 b14 b15 b16 b17 b18 b19 fx v0 v1 v2 l0_2 u0), (c_X12_trace_1 l D cI cZ cB cJ c0 c1 c2 c3 c4 c5 c6 c7 c8 c9 c10 c11 c12 c13 c14 c15 c16 c17 c18 c19 c20 c21 c22 c23 c24 d0 d1 d2 d3 d4 d5 d6 d7 d8 d9 d10 d11 d12 d13 d14 d15 d16 d17 d18 d19 d20 d21 d22 d23 d24 d25 d26 d27 d28 d29 d30 d31 d32 d33 d34 d35 d36 d37 d38 d39 d40 d41 d42 d43 d44 d45 fm v0 v1 v2 l0_2 u0)⟩
set_option maxHeartbeats 4000000 in
set_option maxRecDepth 100000 in
theorem both_tries (l : Launch) (D : va_G) (cI cZ cB cJ : ClassId) (a0 a1 a2 a3 a4 a5 a6 a7 a8 a9 a10 a11 a12 a13 a14 a15 a16 a17 a18 a19 a20 a21 a22 a23 a24 a25 a26 a27 a28 a29 a30 a31 a32 a33 b0 b1 b2 b3 b4 b5 b6 b7 b8 b9 b10 b11 b12 b13 b14 b15 b16 b17 b18 b19 c0 c1 c2 c3 c4 c5 c6 c7 c8 c9 c10 c11 c12 c13 c14 c15 c16 c17 c18 c19 c20 c21 c22 c23 c24 d0 d1 d2 d3 d4 d5 d6 d7 d8 d9 d10 d11 d12 d13 d14 d15 d16 d17 d18 d19 d20 d21 d22 d23 d24 d25 d26 d27 d28 d29 d30 d31 d32 d33 d34 d35 d36 d37 d38 d39 d40 d41 d42 d43 d44 d45 : Nat) (fx fm : Nat → Int32) (v0 v1 : Int32) : ∃ r0 : Int32, CtI l D (TT cI cZ cB cJ) yX11_tries cX11_tries 8 (some .int) 0 0 0 0 [.ref a0, .int v0, .int v1] (WX cI cZ cB cJ a0 a1 a2 a3 a4 a5 a6 a7 a8 a9 a10 a11 a12 a13 a14 a15 a16 a17 a18 a19 a20 a21 a22 a23 a24 a25 a26 a27 a28 a29 a30 a31 a32 a33 b0 b1 b2 b3 b4 b5 b6 b7 b8 b9 b10 b11 b12 b13 b14 b15 b16 b17 b18 b19 fx) (fun r w1 => r = r0 ∧ w1 = []) ∧ CtI l D (TT cI cZ cB cJ) yX12_tries cX12_tries 9 (some .int) 1 22 0 0 [.ref c0, .int v0, .int v1] (WM cI cZ cB cJ c0 c1 c2 c3 c4 c5 c6 c7 c8 c9 c10 c11 c12 c13 c14 c15 c16 c17 c18 c19 c20 c21 c22 c23 c24 d0 d1 d2 d3 d4 d5 d6 d7 d8 d9 d10 d11 d12 d13 d14 d15 d16 d17 d18 d19 d20 d21 d22 d23 d24 d25 d26 d27 d28 d29 d30 d31 d32 d33 d34 d35 d36 d37 d38 d39 d40 d41 d42 d43 d44 d45 fm) (fun r w1 => r = r0 ∧ w1 = []) := by
  have l0_0 : (-2147483648 : Int) ≤ v0.toInt := i32_lo v0
  have u0 : v0.toInt ≤ (2147483647 : Int) := i32_hi v0
  by_cases k0_0 : v0.toInt ≤ ((-1) : Int)
  ·
    have l1_0 : (-2147483648 : Int) ≤ v1.toInt := i32_lo v1
    have u1 : v1.toInt ≤ (2147483647 : Int) := i32_hi v1
    exact ⟨(-1), (c_X11_tries_0 l D cI cZ cB cJ a0 a1 a2 a3 a4 a5 a6 a7 a8 a9 a10 a11 a12 a13 a14 a15 a16 a17 a18 a19 a20 a21 a22 a23 a24 a25 a26 a27 a28 a29 a30 a31 a32 a33 b0 b1 b2 b3 b4 b5 b6 b7 b8 b9 b10 b11 b12 b13 b14 b15 b16 b17 b18 b19 fx v0 v1 l0_0 k0_0), (c_X12_tries_0 l D cI cZ cB cJ c0 c1 c2 c3 c4 c5 c6 c7 c8 c9 c10 c11 c12 c13 c14 c15 c16 c17 c18 c19 c20 c21 c22 c23 c24 d0 d1 d2 d3 d4 d5 d6 d7 d8 d9 d10 d11 d12 d13 d14 d15 d16 d17 d18 d19 d20 d21 d22 d23 d24 d25 d26 d27 d28 d29 d30 d31 d32 d33 d34 d35 d36 d37 d38 d39 d40 d41 d42 d43 d44 d45 fm v0 v1 l0_0 k0_0)⟩
  have l0_1 : (0 : Int) ≤ v0.toInt := by omega
  have l1_0 : (-2147483648 : Int) ≤ v1.toInt := i32_lo v1
  have u1 : v1.toInt ≤ (2147483647 : Int) := i32_hi v1
  exact ⟨(-1), (c_X11_tries_1 l D cI cZ cB cJ a0 a1 a2 a3 a4 a5 a6 a7 a8 a9 a10 a11 a12 a13 a14 a15 a16 a17 a18 a19 a20 a21 a22 a23 a24 a25 a26 a27 a28 a29 a30 a31 a32 a33 b0 b1 b2 b3 b4 b5 b6 b7 b8 b9 b10 b11 b12 b13 b14 b15 b16 b17 b18 b19 fx v0 v1 l0_1 u0), (c_X12_tries_1 l D cI cZ cB cJ c0 c1 c2 c3 c4 c5 c6 c7 c8 c9 c10 c11 c12 c13 c14 c15 c16 c17 c18 c19 c20 c21 c22 c23 c24 d0 d1 d2 d3 d4 d5 d6 d7 d8 d9 d10 d11 d12 d13 d14 d15 d16 d17 d18 d19 d20 d21 d22 d23 d24 d25 d26 d27 d28 d29 d30 d31 d32 d33 d34 d35 d36 d37 d38 d39 d40 d41 d42 d43 d44 d45 fm v0 v1 l0_1 u0)⟩
set_option maxHeartbeats 4000000 in
set_option maxRecDepth 100000 in
theorem both_loose (l : Launch) (D : va_G) (cI cZ cB cJ : ClassId) (a0 a1 a2 a3 a4 a5 a6 a7 a8 a9 a10 a11 a12 a13 a14 a15 a16 a17 a18 a19 a20 a21 a22 a23 a24 a25 a26 a27 a28 a29 a30 a31 a32 a33 b0 b1 b2 b3 b4 b5 b6 b7 b8 b9 b10 b11 b12 b13 b14 b15 b16 b17 b18 b19 c0 c1 c2 c3 c4 c5 c6 c7 c8 c9 c10 c11 c12 c13 c14 c15 c16 c17 c18 c19 c20 c21 c22 c23 c24 d0 d1 d2 d3 d4 d5 d6 d7 d8 d9 d10 d11 d12 d13 d14 d15 d16 d17 d18 d19 d20 d21 d22 d23 d24 d25 d26 d27 d28 d29 d30 d31 d32 d33 d34 d35 d36 d37 d38 d39 d40 d41 d42 d43 d44 d45 : Nat) (fx fm : Nat → Int32) (v0 v1 : Int32) : ∃ r0 : Int32, CtI l D (TT cI cZ cB cJ) yX11_loose cX11_loose 5 (some .int) 0 0 0 0 [.ref a0, .int v0, .int v1] (WX cI cZ cB cJ a0 a1 a2 a3 a4 a5 a6 a7 a8 a9 a10 a11 a12 a13 a14 a15 a16 a17 a18 a19 a20 a21 a22 a23 a24 a25 a26 a27 a28 a29 a30 a31 a32 a33 b0 b1 b2 b3 b4 b5 b6 b7 b8 b9 b10 b11 b12 b13 b14 b15 b16 b17 b18 b19 fx) (fun r w1 => r = r0 ∧ w1 = []) ∧ CtI l D (TT cI cZ cB cJ) yX12_loose cX12_loose 3 (some .int) 1 22 0 0 [.ref c0, .int v0, .int v1] (WM cI cZ cB cJ c0 c1 c2 c3 c4 c5 c6 c7 c8 c9 c10 c11 c12 c13 c14 c15 c16 c17 c18 c19 c20 c21 c22 c23 c24 d0 d1 d2 d3 d4 d5 d6 d7 d8 d9 d10 d11 d12 d13 d14 d15 d16 d17 d18 d19 d20 d21 d22 d23 d24 d25 d26 d27 d28 d29 d30 d31 d32 d33 d34 d35 d36 d37 d38 d39 d40 d41 d42 d43 d44 d45 fm) (fun r w1 => r = r0 ∧ w1 = []) := by
  have l0_0 : (-2147483648 : Int) ≤ v0.toInt := i32_lo v0
  have u0 : v0.toInt ≤ (2147483647 : Int) := i32_hi v0
  by_cases k0_0 : v0.toInt ≤ ((-1) : Int)
  ·
    have l1_0 : (-2147483648 : Int) ≤ v1.toInt := i32_lo v1
    have u1 : v1.toInt ≤ (2147483647 : Int) := i32_hi v1
    exact ⟨(-1), (c_X11_loose_0 l D cI cZ cB cJ a0 a1 a2 a3 a4 a5 a6 a7 a8 a9 a10 a11 a12 a13 a14 a15 a16 a17 a18 a19 a20 a21 a22 a23 a24 a25 a26 a27 a28 a29 a30 a31 a32 a33 b0 b1 b2 b3 b4 b5 b6 b7 b8 b9 b10 b11 b12 b13 b14 b15 b16 b17 b18 b19 fx v0 v1 l0_0 k0_0), (c_X12_loose_0 l D cI cZ cB cJ c0 c1 c2 c3 c4 c5 c6 c7 c8 c9 c10 c11 c12 c13 c14 c15 c16 c17 c18 c19 c20 c21 c22 c23 c24 d0 d1 d2 d3 d4 d5 d6 d7 d8 d9 d10 d11 d12 d13 d14 d15 d16 d17 d18 d19 d20 d21 d22 d23 d24 d25 d26 d27 d28 d29 d30 d31 d32 d33 d34 d35 d36 d37 d38 d39 d40 d41 d42 d43 d44 d45 fm v0 v1 l0_0 k0_0)⟩
  have l0_1 : (0 : Int) ≤ v0.toInt := by omega
  have l1_0 : (-2147483648 : Int) ≤ v1.toInt := i32_lo v1
  have u1 : v1.toInt ≤ (2147483647 : Int) := i32_hi v1
  exact ⟨(-1), (c_X11_loose_1 l D cI cZ cB cJ a0 a1 a2 a3 a4 a5 a6 a7 a8 a9 a10 a11 a12 a13 a14 a15 a16 a17 a18 a19 a20 a21 a22 a23 a24 a25 a26 a27 a28 a29 a30 a31 a32 a33 b0 b1 b2 b3 b4 b5 b6 b7 b8 b9 b10 b11 b12 b13 b14 b15 b16 b17 b18 b19 fx v0 v1 l0_1 u0), (c_X12_loose_1 l D cI cZ cB cJ c0 c1 c2 c3 c4 c5 c6 c7 c8 c9 c10 c11 c12 c13 c14 c15 c16 c17 c18 c19 c20 c21 c22 c23 c24 d0 d1 d2 d3 d4 d5 d6 d7 d8 d9 d10 d11 d12 d13 d14 d15 d16 d17 d18 d19 d20 d21 d22 d23 d24 d25 d26 d27 d28 d29 d30 d31 d32 d33 d34 d35 d36 d37 d38 d39 d40 d41 d42 d43 d44 d45 fm v0 v1 l0_1 u0)⟩
set_option maxHeartbeats 4000000 in
set_option maxRecDepth 100000 in
theorem both_sets (l : Launch) (D : va_G) (cI cZ cB cJ : ClassId) (a0 a1 a2 a3 a4 a5 a6 a7 a8 a9 a10 a11 a12 a13 a14 a15 a16 a17 a18 a19 a20 a21 a22 a23 a24 a25 a26 a27 a28 a29 a30 a31 a32 a33 b0 b1 b2 b3 b4 b5 b6 b7 b8 b9 b10 b11 b12 b13 b14 b15 b16 b17 b18 b19 c0 c1 c2 c3 c4 c5 c6 c7 c8 c9 c10 c11 c12 c13 c14 c15 c16 c17 c18 c19 c20 c21 c22 c23 c24 d0 d1 d2 d3 d4 d5 d6 d7 d8 d9 d10 d11 d12 d13 d14 d15 d16 d17 d18 d19 d20 d21 d22 d23 d24 d25 d26 d27 d28 d29 d30 d31 d32 d33 d34 d35 d36 d37 d38 d39 d40 d41 d42 d43 d44 d45 : Nat) (fx fm : Nat → Int32) (v0 : Int32) : ∃ r0 : Int32, CtI l D (TT cI cZ cB cJ) yX11_sets cX11_sets 5 (some .int) 5 109 0 0 [.ref a0, .int v0] (WX cI cZ cB cJ a0 a1 a2 a3 a4 a5 a6 a7 a8 a9 a10 a11 a12 a13 a14 a15 a16 a17 a18 a19 a20 a21 a22 a23 a24 a25 a26 a27 a28 a29 a30 a31 a32 a33 b0 b1 b2 b3 b4 b5 b6 b7 b8 b9 b10 b11 b12 b13 b14 b15 b16 b17 b18 b19 fx) (fun r w1 => r = r0 ∧ w1 = []) ∧ CtI l D (TT cI cZ cB cJ) yX12_sets cX12_sets 10 (some .int) 4 86 0 0 [.ref c0, .int v0] (WM cI cZ cB cJ c0 c1 c2 c3 c4 c5 c6 c7 c8 c9 c10 c11 c12 c13 c14 c15 c16 c17 c18 c19 c20 c21 c22 c23 c24 d0 d1 d2 d3 d4 d5 d6 d7 d8 d9 d10 d11 d12 d13 d14 d15 d16 d17 d18 d19 d20 d21 d22 d23 d24 d25 d26 d27 d28 d29 d30 d31 d32 d33 d34 d35 d36 d37 d38 d39 d40 d41 d42 d43 d44 d45 fm) (fun r w1 => r = r0 ∧ w1 = []) := by
  have l0_0 : (-2147483648 : Int) ≤ v0.toInt := i32_lo v0
  have u0 : v0.toInt ≤ (2147483647 : Int) := i32_hi v0
  by_cases k0_0 : v0.toInt ≤ ((-1) : Int)
  ·
    exact ⟨(-1), (c_X11_sets_0 l D cI cZ cB cJ a0 a1 a2 a3 a4 a5 a6 a7 a8 a9 a10 a11 a12 a13 a14 a15 a16 a17 a18 a19 a20 a21 a22 a23 a24 a25 a26 a27 a28 a29 a30 a31 a32 a33 b0 b1 b2 b3 b4 b5 b6 b7 b8 b9 b10 b11 b12 b13 b14 b15 b16 b17 b18 b19 fx v0 l0_0 k0_0), (c_X12_sets_0 l D cI cZ cB cJ c0 c1 c2 c3 c4 c5 c6 c7 c8 c9 c10 c11 c12 c13 c14 c15 c16 c17 c18 c19 c20 c21 c22 c23 c24 d0 d1 d2 d3 d4 d5 d6 d7 d8 d9 d10 d11 d12 d13 d14 d15 d16 d17 d18 d19 d20 d21 d22 d23 d24 d25 d26 d27 d28 d29 d30 d31 d32 d33 d34 d35 d36 d37 d38 d39 d40 d41 d42 d43 d44 d45 fm v0 l0_0 k0_0)⟩
  have l0_1 : (0 : Int) ≤ v0.toInt := by omega
  by_cases k0_1 : v0.toInt ≤ (0 : Int)
  ·
    obtain rfl : v0 = 0 := pt (by decide +kernel : (0 : Int32).toInt = (0 : Int)) l0_1 k0_1
    exact ⟨1, (c_X11_sets_1 l D cI cZ cB cJ a0 a1 a2 a3 a4 a5 a6 a7 a8 a9 a10 a11 a12 a13 a14 a15 a16 a17 a18 a19 a20 a21 a22 a23 a24 a25 a26 a27 a28 a29 a30 a31 a32 a33 b0 b1 b2 b3 b4 b5 b6 b7 b8 b9 b10 b11 b12 b13 b14 b15 b16 b17 b18 b19 fx), (c_X12_sets_1 l D cI cZ cB cJ c0 c1 c2 c3 c4 c5 c6 c7 c8 c9 c10 c11 c12 c13 c14 c15 c16 c17 c18 c19 c20 c21 c22 c23 c24 d0 d1 d2 d3 d4 d5 d6 d7 d8 d9 d10 d11 d12 d13 d14 d15 d16 d17 d18 d19 d20 d21 d22 d23 d24 d25 d26 d27 d28 d29 d30 d31 d32 d33 d34 d35 d36 d37 d38 d39 d40 d41 d42 d43 d44 d45 fm)⟩
  have l0_2 : (1 : Int) ≤ v0.toInt := by omega
  by_cases k0_2 : v0.toInt ≤ (1 : Int)
  ·
    obtain rfl : v0 = 1 := pt (by decide +kernel : (1 : Int32).toInt = (1 : Int)) l0_2 k0_2
    exact ⟨1, (c_X11_sets_2 l D cI cZ cB cJ a0 a1 a2 a3 a4 a5 a6 a7 a8 a9 a10 a11 a12 a13 a14 a15 a16 a17 a18 a19 a20 a21 a22 a23 a24 a25 a26 a27 a28 a29 a30 a31 a32 a33 b0 b1 b2 b3 b4 b5 b6 b7 b8 b9 b10 b11 b12 b13 b14 b15 b16 b17 b18 b19 fx), (c_X12_sets_2 l D cI cZ cB cJ c0 c1 c2 c3 c4 c5 c6 c7 c8 c9 c10 c11 c12 c13 c14 c15 c16 c17 c18 c19 c20 c21 c22 c23 c24 d0 d1 d2 d3 d4 d5 d6 d7 d8 d9 d10 d11 d12 d13 d14 d15 d16 d17 d18 d19 d20 d21 d22 d23 d24 d25 d26 d27 d28 d29 d30 d31 d32 d33 d34 d35 d36 d37 d38 d39 d40 d41 d42 d43 d44 d45 fm)⟩
  have l0_3 : (2 : Int) ≤ v0.toInt := by omega
  by_cases k0_3 : v0.toInt ≤ (2 : Int)
  ·
    obtain rfl : v0 = 2 := pt (by decide +kernel : (2 : Int32).toInt = (2 : Int)) l0_3 k0_3
    exact ⟨0, (c_X11_sets_3 l D cI cZ cB cJ a0 a1 a2 a3 a4 a5 a6 a7 a8 a9 a10 a11 a12 a13 a14 a15 a16 a17 a18 a19 a20 a21 a22 a23 a24 a25 a26 a27 a28 a29 a30 a31 a32 a33 b0 b1 b2 b3 b4 b5 b6 b7 b8 b9 b10 b11 b12 b13 b14 b15 b16 b17 b18 b19 fx), (c_X12_sets_3 l D cI cZ cB cJ c0 c1 c2 c3 c4 c5 c6 c7 c8 c9 c10 c11 c12 c13 c14 c15 c16 c17 c18 c19 c20 c21 c22 c23 c24 d0 d1 d2 d3 d4 d5 d6 d7 d8 d9 d10 d11 d12 d13 d14 d15 d16 d17 d18 d19 d20 d21 d22 d23 d24 d25 d26 d27 d28 d29 d30 d31 d32 d33 d34 d35 d36 d37 d38 d39 d40 d41 d42 d43 d44 d45 fm)⟩
  have l0_4 : (3 : Int) ≤ v0.toInt := by omega
  by_cases k0_4 : v0.toInt ≤ (3 : Int)
  ·
    obtain rfl : v0 = 3 := pt (by decide +kernel : (3 : Int32).toInt = (3 : Int)) l0_4 k0_4
    exact ⟨0, (c_X11_sets_4 l D cI cZ cB cJ a0 a1 a2 a3 a4 a5 a6 a7 a8 a9 a10 a11 a12 a13 a14 a15 a16 a17 a18 a19 a20 a21 a22 a23 a24 a25 a26 a27 a28 a29 a30 a31 a32 a33 b0 b1 b2 b3 b4 b5 b6 b7 b8 b9 b10 b11 b12 b13 b14 b15 b16 b17 b18 b19 fx), (c_X12_sets_4 l D cI cZ cB cJ c0 c1 c2 c3 c4 c5 c6 c7 c8 c9 c10 c11 c12 c13 c14 c15 c16 c17 c18 c19 c20 c21 c22 c23 c24 d0 d1 d2 d3 d4 d5 d6 d7 d8 d9 d10 d11 d12 d13 d14 d15 d16 d17 d18 d19 d20 d21 d22 d23 d24 d25 d26 d27 d28 d29 d30 d31 d32 d33 d34 d35 d36 d37 d38 d39 d40 d41 d42 d43 d44 d45 fm)⟩
  have l0_5 : (4 : Int) ≤ v0.toInt := by omega
  by_cases k0_5 : v0.toInt ≤ (4 : Int)
  ·
    obtain rfl : v0 = 4 := pt (by decide +kernel : (4 : Int32).toInt = (4 : Int)) l0_5 k0_5
    exact ⟨1, (c_X11_sets_5 l D cI cZ cB cJ a0 a1 a2 a3 a4 a5 a6 a7 a8 a9 a10 a11 a12 a13 a14 a15 a16 a17 a18 a19 a20 a21 a22 a23 a24 a25 a26 a27 a28 a29 a30 a31 a32 a33 b0 b1 b2 b3 b4 b5 b6 b7 b8 b9 b10 b11 b12 b13 b14 b15 b16 b17 b18 b19 fx), (c_X12_sets_5 l D cI cZ cB cJ c0 c1 c2 c3 c4 c5 c6 c7 c8 c9 c10 c11 c12 c13 c14 c15 c16 c17 c18 c19 c20 c21 c22 c23 c24 d0 d1 d2 d3 d4 d5 d6 d7 d8 d9 d10 d11 d12 d13 d14 d15 d16 d17 d18 d19 d20 d21 d22 d23 d24 d25 d26 d27 d28 d29 d30 d31 d32 d33 d34 d35 d36 d37 d38 d39 d40 d41 d42 d43 d44 d45 fm)⟩
  have l0_6 : (5 : Int) ≤ v0.toInt := by omega
  by_cases k0_6 : v0.toInt ≤ (5 : Int)
  ·
    obtain rfl : v0 = 5 := pt (by decide +kernel : (5 : Int32).toInt = (5 : Int)) l0_6 k0_6
    exact ⟨0, (c_X11_sets_6 l D cI cZ cB cJ a0 a1 a2 a3 a4 a5 a6 a7 a8 a9 a10 a11 a12 a13 a14 a15 a16 a17 a18 a19 a20 a21 a22 a23 a24 a25 a26 a27 a28 a29 a30 a31 a32 a33 b0 b1 b2 b3 b4 b5 b6 b7 b8 b9 b10 b11 b12 b13 b14 b15 b16 b17 b18 b19 fx), (c_X12_sets_6 l D cI cZ cB cJ c0 c1 c2 c3 c4 c5 c6 c7 c8 c9 c10 c11 c12 c13 c14 c15 c16 c17 c18 c19 c20 c21 c22 c23 c24 d0 d1 d2 d3 d4 d5 d6 d7 d8 d9 d10 d11 d12 d13 d14 d15 d16 d17 d18 d19 d20 d21 d22 d23 d24 d25 d26 d27 d28 d29 d30 d31 d32 d33 d34 d35 d36 d37 d38 d39 d40 d41 d42 d43 d44 d45 fm)⟩
  have l0_7 : (6 : Int) ≤ v0.toInt := by omega
  by_cases k0_7 : v0.toInt ≤ (6 : Int)
  ·
    obtain rfl : v0 = 6 := pt (by decide +kernel : (6 : Int32).toInt = (6 : Int)) l0_7 k0_7
    exact ⟨0, (c_X11_sets_7 l D cI cZ cB cJ a0 a1 a2 a3 a4 a5 a6 a7 a8 a9 a10 a11 a12 a13 a14 a15 a16 a17 a18 a19 a20 a21 a22 a23 a24 a25 a26 a27 a28 a29 a30 a31 a32 a33 b0 b1 b2 b3 b4 b5 b6 b7 b8 b9 b10 b11 b12 b13 b14 b15 b16 b17 b18 b19 fx), (c_X12_sets_7 l D cI cZ cB cJ c0 c1 c2 c3 c4 c5 c6 c7 c8 c9 c10 c11 c12 c13 c14 c15 c16 c17 c18 c19 c20 c21 c22 c23 c24 d0 d1 d2 d3 d4 d5 d6 d7 d8 d9 d10 d11 d12 d13 d14 d15 d16 d17 d18 d19 d20 d21 d22 d23 d24 d25 d26 d27 d28 d29 d30 d31 d32 d33 d34 d35 d36 d37 d38 d39 d40 d41 d42 d43 d44 d45 fm)⟩
  have l0_8 : (7 : Int) ≤ v0.toInt := by omega
  exact ⟨(-1), (c_X11_sets_8 l D cI cZ cB cJ a0 a1 a2 a3 a4 a5 a6 a7 a8 a9 a10 a11 a12 a13 a14 a15 a16 a17 a18 a19 a20 a21 a22 a23 a24 a25 a26 a27 a28 a29 a30 a31 a32 a33 b0 b1 b2 b3 b4 b5 b6 b7 b8 b9 b10 b11 b12 b13 b14 b15 b16 b17 b18 b19 fx v0 l0_8 u0), (c_X12_sets_8 l D cI cZ cB cJ c0 c1 c2 c3 c4 c5 c6 c7 c8 c9 c10 c11 c12 c13 c14 c15 c16 c17 c18 c19 c20 c21 c22 c23 c24 d0 d1 d2 d3 d4 d5 d6 d7 d8 d9 d10 d11 d12 d13 d14 d15 d16 d17 d18 d19 d20 d21 d22 d23 d24 d25 d26 d27 d28 d29 d30 d31 d32 d33 d34 d35 d36 d37 d38 d39 d40 d41 d42 d43 d44 d45 fm v0 l0_8 u0)⟩
