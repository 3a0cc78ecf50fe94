set_option maxHeartbeats 4000000 in
set_option maxRecDepth 100000 in
theorem c_X10_write_9 (l : Launch) (D : va_G) (G : ow_C) (h0 : Nat) (h1 : Nat) (v1 : Int32) (v2 : Int32) (h2 : Nat) (h3 : Nat) (h4 : Nat) (h5 : Nat) (h6 : Nat) (h7 : Nat) (h8 : Nat) (h9 : Nat) (h10 : Nat) (v3 : Int32) (h11 : Nat) (h12 : Nat) (h13 : Nat) (h14 : Nat) (v4 : Int32) (v5 : Int32) (h15 : Nat) (h16 : Nat) (h17 : Nat) (v6 : Int32) (h18 : Nat) (v7 : Int32) (h19 : Nat) (h20 : Nat) (v8 : Int32) (h21 : Nat) (h22 : Nat) (v9 : Int32) (v10 : Int32) (v11 : Int32) (v12 : Int32) (v13 : Int32) (v14 : Int32) (v15 : Int32) (v16 : Int32) (h23 : Nat) (v17 : Int64) (v18 : Int64) (v19 : Int64) (v20 : Int64) (v21 : Nat → Int32) (v22 : Nat → Int32) : ow_M l D G yX10_write cX10_write 4 none ({ frames := 1, cells := 0, slots := 0, locals := 64 } : Room) [.ref h0, .ref h1, .int 60] [(h0, .inr (10, (.int v1 :: .int v2 :: .ref h2 :: .ref h3 :: .ref h4 :: .ref h5 :: .ref h6 :: .ref h7 :: .ref h8 :: .ref h9 :: .ref h10 :: .ref h1 :: .int v3 :: .ref h11 :: .ref h12 :: .ref h13 :: .ref h14 :: .int v4 :: .int v5 :: .int 92 :: .ref h15 :: .ref h16 :: .ref h17 :: .int v6 :: .ref h18 :: .int v7 :: .ref h19 :: .ref h20 :: .int v8 :: .ref h21 :: .ref h22 :: .int v9 :: .int v10 :: .int v11 :: .int v12 :: .int v13 :: .int v14 :: .int v15 :: .int v16 :: .ref h23 :: .long v17 :: .long v18 :: .long v19 :: .long v20 :: []))), (h1, .inl (G.1, 60, .inl v21)), (h14, .inl (G.1, 1336, .inl v22))] (ow_V D (fun u => (True ∧ (∃ e0 : Nat → Int32, u = [(h0, .inr (10, (.int v1 :: .int v2 :: .ref h2 :: .ref h3 :: .ref h4 :: .ref h5 :: .ref h6 :: .ref h7 :: .ref h8 :: .ref h9 :: .ref h10 :: .ref h1 :: .int v3 :: .ref h11 :: .ref h12 :: .ref h13 :: .ref h14 :: .int v4 :: .int v5 :: .int 152 :: .ref h15 :: .ref h16 :: .ref h17 :: .int v6 :: .ref h18 :: .int v7 :: .ref h19 :: .ref h20 :: .int v8 :: .ref h21 :: .ref h22 :: .int v9 :: .int v10 :: .int v11 :: .int v12 :: .int v13 :: .int v14 :: .int v15 :: .int v16 :: .ref h23 :: .long v17 :: .long v18 :: .long v19 :: .long v20 :: []))), (h1, .inl (G.1, 60, .inl v21)), (h14, .inl (G.1, 1336, .inl e0))])))) 0 0 := by
  refine ow_met (by decide) (Nat.le_of_ble_eq_true rfl) ?_
  intro p e s m args below meth c A ls hE hl
  obtain ⟨hx, hb, hr, hml, hown, hlocks, hnm, hts, hN, hK, hP, hD, hA, hS⟩ := id hE
  have hown : s.vm.findClass RX10 = some m.cls := hown
  have hP : va_P D vwCl [(h0, .inr (10, (.int v1 :: .int v2 :: .ref h2 :: .ref h3 :: .ref h4 :: .ref h5 :: .ref h6 :: .ref h7 :: .ref h8 :: .ref h9 :: .ref h10 :: .ref h1 :: .int v3 :: .ref h11 :: .ref h12 :: .ref h13 :: .ref h14 :: .int v4 :: .int v5 :: .int 92 :: .ref h15 :: .ref h16 :: .ref h17 :: .int v6 :: .ref h18 :: .int v7 :: .ref h19 :: .ref h20 :: .int v8 :: .ref h21 :: .ref h22 :: .int v9 :: .int v10 :: .int v11 :: .int v12 :: .int v13 :: .int v14 :: .int v15 :: .int v16 :: .ref h23 :: .long v17 :: .long v18 :: .long v19 :: .long v20 :: []))), (h1, .inl (G.1, 60, .inl v21)), (h14, .inl (G.1, 1336, .inl v22))] s.heap := hP
  have hD : va_D A [(h0, .inr (10, (.int v1 :: .int v2 :: .ref h2 :: .ref h3 :: .ref h4 :: .ref h5 :: .ref h6 :: .ref h7 :: .ref h8 :: .ref h9 :: .ref h10 :: .ref h1 :: .int v3 :: .ref h11 :: .ref h12 :: .ref h13 :: .ref h14 :: .int v4 :: .int v5 :: .int 92 :: .ref h15 :: .ref h16 :: .ref h17 :: .int v6 :: .ref h18 :: .int v7 :: .ref h19 :: .ref h20 :: .int v8 :: .ref h21 :: .ref h22 :: .int v9 :: .int v10 :: .int v11 :: .int v12 :: .int v13 :: .int v14 :: .int v15 :: .int v16 :: .ref h23 :: .long v17 :: .long v18 :: .long v19 :: .long v20 :: []))), (h1, .inl (G.1, 60, .inl v21)), (h14, .inl (G.1, 1336, .inl v22))] := hD
  have hl : lv_has ls 4 [(0, .ref h0), (1, .ref h1), (2, .int 60)] := hl
  refine lv_iconst (v := 0) hx hb dX10_write_0 (by decide) ?_
  refine lv_istore_n (lv' := [(3, .int 0), (0, .ref h0), (1, .ref h1), (2, .int 60)]) hx hb dX10_write_1 rfl hl (by decide) rfl (fun ls hl => ?_)
  refine lv_iload_n hx hb dX10_write_2 rfl (lv_at hl 0 rfl) ?_
  refine lv_iload_n hx hb dX10_write_3 rfl (lv_at hl 3 rfl) ?_
  refine lv_icmp_ge (tgt := 35) hx hb dX10_write_4 (by decide) (fun h9 => absurd h9 (by decide)) (fun _ => ?_)
  refine lv_aload_n hx hb dX10_write_7 rfl (lv_at hl 1 rfl) ?_
  refine va_get (D := D) (ci := 10) (v := .ref h14) (C := RX10) (T := TX10) (N := 44) hx hb hts inlX10 hown hK hP 0 rfl rfl 16 (by decide) (hts _ k_105) (fun _ h9 => h9) rfl dX10_write_8 ?_
  refine lv_aload_n hx hb dX10_write_11 rfl (lv_at hl 1 rfl) ?_
  refine va_get (D := D) (ci := 10) (v := .int 92) (C := RX10) (T := TX10) (N := 44) hx hb hts inlX10 hown hK hP 0 rfl rfl 19 (by decide) (hts _ k_298) (fun _ h9 => h9) rfl dX10_write_12 ?_
  refine lv_aload_n hx hb dX10_write_15 rfl (lv_at hl 2 rfl) ?_
  refine lv_iload_n hx hb dX10_write_16 rfl (lv_at hl 0 rfl) ?_
  refine va_iald hx hb hK hP 1 0 rfl rfl (show ¬ ((0 : Int32) < 0 ∨ 60 ≤ (0 : Int32).toNatClampNeg) by decide) dX10_write_17 ?_
  refine lv_topi (fun x524 _ => ?_)
  refine va_iast hx hb hK hP hD hS 2 0 rfl rfl (show ¬ ((92 : Int32) < 0 ∨ 1336 ≤ (92 : Int32).toNatClampNeg) by decide) dX10_write_18 (fun H locs hP hD hS => ?_)
  obtain ⟨f525, hP, hD⟩ : ∃ f525, va_P D vwCl [(h0, .inr (10, (.int v1 :: .int v2 :: .ref h2 :: .ref h3 :: .ref h4 :: .ref h5 :: .ref h6 :: .ref h7 :: .ref h8 :: .ref h9 :: .ref h10 :: .ref h1 :: .int v3 :: .ref h11 :: .ref h12 :: .ref h13 :: .ref h14 :: .int v4 :: .int v5 :: .int 92 :: .ref h15 :: .ref h16 :: .ref h17 :: .int v6 :: .ref h18 :: .int v7 :: .ref h19 :: .ref h20 :: .int v8 :: .ref h21 :: .ref h22 :: .int v9 :: .int v10 :: .int v11 :: .int v12 :: .int v13 :: .int v14 :: .int v15 :: .int v16 :: .ref h23 :: .long v17 :: .long v18 :: .long v19 :: .long v20 :: []))), (h1, .inl (G.1, 60, .inl v21)), (h14, .inl (G.1, 1336, .inl f525))] H ∧ va_D A [(h0, .inr (10, (.int v1 :: .int v2 :: .ref h2 :: .ref h3 :: .ref h4 :: .ref h5 :: .ref h6 :: .ref h7 :: .ref h8 :: .ref h9 :: .ref h10 :: .ref h1 :: .int v3 :: .ref h11 :: .ref h12 :: .ref h13 :: .ref h14 :: .int v4 :: .int v5 :: .int 92 :: .ref h15 :: .ref h16 :: .ref h17 :: .int v6 :: .ref h18 :: .int v7 :: .ref h19 :: .ref h20 :: .int v8 :: .ref h21 :: .ref h22 :: .int v9 :: .int v10 :: .int v11 :: .int v12 :: .int v13 :: .int v14 :: .int v15 :: .int v16 :: .ref h23 :: .long v17 :: .long v18 :: .long v19 :: .long v20 :: []))), (h1, .inl (G.1, 60, .inl v21)), (h14, .inl (G.1, 1336, .inl f525))] := ⟨_, hP, hD⟩
  refine lv_aload_n hx hb dX10_write_19 rfl (lv_at hl 1 rfl) ?_
  refine lv_dup hx hb dX10_write_20 rfl ?_
  refine va_get (D := D) (ci := 10) (v := .int 92) (C := RX10) (T := TX10) (N := 44) hx hb hts inlX10 hown hK hP 0 rfl rfl 19 (by decide) (hts _ k_298) (fun _ h9 => h9) rfl dX10_write_21 ?_
  refine lv_iconst (v := 1) hx hb dX10_write_24 (by decide) ?_
  refine lv_iadd hx hb dX10_write_25 ?_
  refine ow_i (y := 93) (by decide) ?_
  refine va_put (D := D) (ci := 10) (v := .int 93) (ty := .int) (C := RX10) (T := TX10) (N := 44) hx hb hts inlX10 tyX10 tyX10_ok nmX10 hown hK hP hD hS 0 rfl rfl 19 (by decide) (hts _ k_298) (fun _ h9 => h9) rfl (tyX10_ok 19 (by decide)) rfl rfl (Nat.le_of_ble_eq_true rfl) dX10_write_26 (fun H locs hP hD hS => ?_)
  have hP : va_P D vwCl [(h0, .inr (10, (.int v1 :: .int v2 :: .ref h2 :: .ref h3 :: .ref h4 :: .ref h5 :: .ref h6 :: .ref h7 :: .ref h8 :: .ref h9 :: .ref h10 :: .ref h1 :: .int v3 :: .ref h11 :: .ref h12 :: .ref h13 :: .ref h14 :: .int v4 :: .int v5 :: .int 93 :: .ref h15 :: .ref h16 :: .ref h17 :: .int v6 :: .ref h18 :: .int v7 :: .ref h19 :: .ref h20 :: .int v8 :: .ref h21 :: .ref h22 :: .int v9 :: .int v10 :: .int v11 :: .int v12 :: .int v13 :: .int v14 :: .int v15 :: .int v16 :: .ref h23 :: .long v17 :: .long v18 :: .long v19 :: .long v20 :: []))), (h1, .inl (G.1, 60, .inl v21)), (h14, .inl (G.1, 1336, .inl f525))] H := hP
  have hD : va_D A [(h0, .inr (10, (.int v1 :: .int v2 :: .ref h2 :: .ref h3 :: .ref h4 :: .ref h5 :: .ref h6 :: .ref h7 :: .ref h8 :: .ref h9 :: .ref h10 :: .ref h1 :: .int v3 :: .ref h11 :: .ref h12 :: .ref h13 :: .ref h14 :: .int v4 :: .int v5 :: .int 93 :: .ref h15 :: .ref h16 :: .ref h17 :: .int v6 :: .ref h18 :: .int v7 :: .ref h19 :: .ref h20 :: .int v8 :: .ref h21 :: .ref h22 :: .int v9 :: .int v10 :: .int v11 :: .int v12 :: .int v13 :: .int v14 :: .int v15 :: .int v16 :: .ref h23 :: .long v17 :: .long v18 :: .long v19 :: .long v20 :: []))), (h1, .inl (G.1, 60, .inl v21)), (h14, .inl (G.1, 1336, .inl f525))] := hD
  refine lv_iinc (v := 1) (lv' := [(3, .int 1), (0, .ref h0), (1, .ref h1), (2, .int 60)]) hx hb dX10_write_29 hl (k := 0) rfl (by decide) (by decide) rfl (fun ls hl => ?_)
  refine lv_goto (tgt := 2) hx hb dX10_write_32 (by decide) ?_
  refine lv_iload_n hx hb dX10_write_2 rfl (lv_at hl 0 rfl) ?_
  refine lv_iload_n hx hb dX10_write_3 rfl (lv_at hl 3 rfl) ?_
  refine lv_icmp_ge (tgt := 35) hx hb dX10_write_4 (by decide) (fun h9 => absurd h9 (by decide)) (fun _ => ?_)
  refine lv_aload_n hx hb dX10_write_7 rfl (lv_at hl 1 rfl) ?_
  refine va_get (D := D) (ci := 10) (v := .ref h14) (C := RX10) (T := TX10) (N := 44) hx hb hts inlX10 hown hK hP 0 rfl rfl 16 (by decide) (hts _ k_105) (fun _ h9 => h9) rfl dX10_write_8 ?_
  refine lv_aload_n hx hb dX10_write_11 rfl (lv_at hl 1 rfl) ?_
  refine va_get (D := D) (ci := 10) (v := .int 93) (C := RX10) (T := TX10) (N := 44) hx hb hts inlX10 hown hK hP 0 rfl rfl 19 (by decide) (hts _ k_298) (fun _ h9 => h9) rfl dX10_write_12 ?_
  refine lv_aload_n hx hb dX10_write_15 rfl (lv_at hl 2 rfl) ?_
  refine lv_iload_n hx hb dX10_write_16 rfl (lv_at hl 0 rfl) ?_
  refine va_iald hx hb hK hP 1 0 rfl rfl (show ¬ ((1 : Int32) < 0 ∨ 60 ≤ (1 : Int32).toNatClampNeg) by decide) dX10_write_17 ?_
  refine lv_topi (fun x526 _ => ?_)
  refine va_iast hx hb hK hP hD hS 2 0 rfl rfl (show ¬ ((93 : Int32) < 0 ∨ 1336 ≤ (93 : Int32).toNatClampNeg) by decide) dX10_write_18 (fun H locs hP hD hS => ?_)
  obtain ⟨f527, hP, hD⟩ : ∃ f527, va_P D vwCl [(h0, .inr (10, (.int v1 :: .int v2 :: .ref h2 :: .ref h3 :: .ref h4 :: .ref h5 :: .ref h6 :: .ref h7 :: .ref h8 :: .ref h9 :: .ref h10 :: .ref h1 :: .int v3 :: .ref h11 :: .ref h12 :: .ref h13 :: .ref h14 :: .int v4 :: .int v5 :: .int 93 :: .ref h15 :: .ref h16 :: .ref h17 :: .int v6 :: .ref h18 :: .int v7 :: .ref h19 :: .ref h20 :: .int v8 :: .ref h21 :: .ref h22 :: .int v9 :: .int v10 :: .int v11 :: .int v12 :: .int v13 :: .int v14 :: .int v15 :: .int v16 :: .ref h23 :: .long v17 :: .long v18 :: .long v19 :: .long v20 :: []))), (h1, .inl (G.1, 60, .inl v21)), (h14, .inl (G.1, 1336, .inl f527))] H ∧ va_D A [(h0, .inr (10, (.int v1 :: .int v2 :: .ref h2 :: .ref h3 :: .ref h4 :: .ref h5 :: .ref h6 :: .ref h7 :: .ref h8 :: .ref h9 :: .ref h10 :: .ref h1 :: .int v3 :: .ref h11 :: .ref h12 :: .ref h13 :: .ref h14 :: .int v4 :: .int v5 :: .int 93 :: .ref h15 :: .ref h16 :: .ref h17 :: .int v6 :: .ref h18 :: .int v7 :: .ref h19 :: .ref h20 :: .int v8 :: .ref h21 :: .ref h22 :: .int v9 :: .int v10 :: .int v11 :: .int v12 :: .int v13 :: .int v14 :: .int v15 :: .int v16 :: .ref h23 :: .long v17 :: .long v18 :: .long v19 :: .long v20 :: []))), (h1, .inl (G.1, 60, .inl v21)), (h14, .inl (G.1, 1336, .inl f527))] := ⟨_, hP, hD⟩
  refine lv_aload_n hx hb dX10_write_19 rfl (lv_at hl 1 rfl) ?_
  refine lv_dup hx hb dX10_write_20 rfl ?_
  refine va_get (D := D) (ci := 10) (v := .int 93) (C := RX10) (T := TX10) (N := 44) hx hb hts inlX10 hown hK hP 0 rfl rfl 19 (by decide) (hts _ k_298) (fun _ h9 => h9) rfl dX10_write_21 ?_
  refine lv_iconst (v := 1) hx hb dX10_write_24 (by decide) ?_
  refine lv_iadd hx hb dX10_write_25 ?_
  refine ow_i (y := 94) (by decide) ?_
  refine va_put (D := D) (ci := 10) (v := .int 94) (ty := .int) (C := RX10) (T := TX10) (N := 44) hx hb hts inlX10 tyX10 tyX10_ok nmX10 hown hK hP hD hS 0 rfl rfl 19 (by decide) (hts _ k_298) (fun _ h9 => h9) rfl (tyX10_ok 19 (by decide)) rfl rfl (Nat.le_of_ble_eq_true rfl) dX10_write_26 (fun H locs hP hD hS => ?_)
  have hP : va_P D vwCl [(h0, .inr (10, (.int v1 :: .int v2 :: .ref h2 :: .ref h3 :: .ref h4 :: .ref h5 :: .ref h6 :: .ref h7 :: .ref h8 :: .ref h9 :: .ref h10 :: .ref h1 :: .int v3 :: .ref h11 :: .ref h12 :: .ref h13 :: .ref h14 :: .int v4 :: .int v5 :: .int 94 :: .ref h15 :: .ref h16 :: .ref h17 :: .int v6 :: .ref h18 :: .int v7 :: .ref h19 :: .ref h20 :: .int v8 :: .ref h21 :: .ref h22 :: .int v9 :: .int v10 :: .int v11 :: .int v12 :: .int v13 :: .int v14 :: .int v15 :: .int v16 :: .ref h23 :: .long v17 :: .long v18 :: .long v19 :: .long v20 :: []))), (h1, .inl (G.1, 60, .inl v21)), (h14, .inl (G.1, 1336, .inl f527))] H := hP
  have hD : va_D A [(h0, .inr (10, (.int v1 :: .int v2 :: .ref h2 :: .ref h3 :: .ref h4 :: .ref h5 :: .ref h6 :: .ref h7 :: .ref h8 :: .ref h9 :: .ref h10 :: .ref h1 :: .int v3 :: .ref h11 :: .ref h12 :: .ref h13 :: .ref h14 :: .int v4 :: .int v5 :: .int 94 :: .ref h15 :: .ref h16 :: .ref h17 :: .int v6 :: .ref h18 :: .int v7 :: .ref h19 :: .ref h20 :: .int v8 :: .ref h21 :: .ref h22 :: .int v9 :: .int v10 :: .int v11 :: .int v12 :: .int v13 :: .int v14 :: .int v15 :: .int v16 :: .ref h23 :: .long v17 :: .long v18 :: .long v19 :: .long v20 :: []))), (h1, .inl (G.1, 60, .inl v21)), (h14, .inl (G.1, 1336, .inl f527))] := hD
  refine lv_iinc (v := 2) (lv' := [(3, .int 2), (0, .ref h0), (1, .ref h1), (2, .int 60)]) hx hb dX10_write_29 hl (k := 0) rfl (by decide) (by decide) rfl (fun ls hl => ?_)
  refine lv_goto (tgt := 2) hx hb dX10_write_32 (by decide) ?_
  refine lv_iload_n hx hb dX10_write_2 rfl (lv_at hl 0 rfl) ?_
  refine lv_iload_n hx hb dX10_write_3 rfl (lv_at hl 3 rfl) ?_
  refine lv_icmp_ge (tgt := 35) hx hb dX10_write_4 (by decide) (fun h9 => absurd h9 (by decide)) (fun _ => ?_)
  refine lv_aload_n hx hb dX10_write_7 rfl (lv_at hl 1 rfl) ?_
  refine va_get (D := D) (ci := 10) (v := .ref h14) (C := RX10) (T := TX10) (N := 44) hx hb hts inlX10 hown hK hP 0 rfl rfl 16 (by decide) (hts _ k_105) (fun _ h9 => h9) rfl dX10_write_8 ?_
  refine lv_aload_n hx hb dX10_write_11 rfl (lv_at hl 1 rfl) ?_
  refine va_get (D := D) (ci := 10) (v := .int 94) (C := RX10) (T := TX10) (N := 44) hx hb hts inlX10 hown hK hP 0 rfl rfl 19 (by decide) (hts _ k_298) (fun _ h9 => h9) rfl dX10_write_12 ?_
  refine lv_aload_n hx hb dX10_write_15 rfl (lv_at hl 2 rfl) ?_
  refine lv_iload_n hx hb dX10_write_16 rfl (lv_at hl 0 rfl) ?_
  refine va_iald hx hb hK hP 1 0 rfl rfl (show ¬ ((2 : Int32) < 0 ∨ 60 ≤ (2 : Int32).toNatClampNeg) by decide) dX10_write_17 ?_
  refine lv_topi (fun x528 _ => ?_)
  refine va_iast hx hb hK hP hD hS 2 0 rfl rfl (show ¬ ((94 : Int32) < 0 ∨ 1336 ≤ (94 : Int32).toNatClampNeg) by decide) dX10_write_18 (fun H locs hP hD hS => ?_)
  obtain ⟨f529, hP, hD⟩ : ∃ f529, va_P D vwCl [(h0, .inr (10, (.int v1 :: .int v2 :: .ref h2 :: .ref h3 :: .ref h4 :: .ref h5 :: .ref h6 :: .ref h7 :: .ref h8 :: .ref h9 :: .ref h10 :: .ref h1 :: .int v3 :: .ref h11 :: .ref h12 :: .ref h13 :: .ref h14 :: .int v4 :: .int v5 :: .int 94 :: .ref h15 :: .ref h16 :: .ref h17 :: .int v6 :: .ref h18 :: .int v7 :: .ref h19 :: .ref h20 :: .int v8 :: .ref h21 :: .ref h22 :: .int v9 :: .int v10 :: .int v11 :: .int v12 :: .int v13 :: .int v14 :: .int v15 :: .int v16 :: .ref h23 :: .long v17 :: .long v18 :: .long v19 :: .long v20 :: []))), (h1, .inl (G.1, 60, .inl v21)), (h14, .inl (G.1, 1336, .inl f529))] H ∧ va_D A [(h0, .inr (10, (.int v1 :: .int v2 :: .ref h2 :: .ref h3 :: .ref h4 :: .ref h5 :: .ref h6 :: .ref h7 :: .ref h8 :: .ref h9 :: .ref h10 :: .ref h1 :: .int v3 :: .ref h11 :: .ref h12 :: .ref h13 :: .ref h14 :: .int v4 :: .int v5 :: .int 94 :: .ref h15 :: .ref h16 :: .ref h17 :: .int v6 :: .ref h18 :: .int v7 :: .ref h19 :: .ref h20 :: .int v8 :: .ref h21 :: .ref h22 :: .int v9 :: .int v10 :: .int v11 :: .int v12 :: .int v13 :: .int v14 :: .int v15 :: .int v16 :: .ref h23 :: .long v17 :: .long v18 :: .long v19 :: .long v20 :: []))), (h1, .inl (G.1, 60, .inl v21)), (h14, .inl (G.1, 1336, .inl f529))] := ⟨_, hP, hD⟩
  refine lv_aload_n hx hb dX10_write_19 rfl (lv_at hl 1 rfl) ?_
  refine lv_dup hx hb dX10_write_20 rfl ?_
  refine va_get (D := D) (ci := 10) (v := .int 94) (C := RX10) (T := TX10) (N := 44) hx hb hts inlX10 hown hK hP 0 rfl rfl 19 (by decide) (hts _ k_298) (fun _ h9 => h9) rfl dX10_write_21 ?_
  refine lv_iconst (v := 1) hx hb dX10_write_24 (by decide) ?_
  refine lv_iadd hx hb dX10_write_25 ?_
  refine ow_i (y := 95) (by decide) ?_
  refine va_put (D := D) (ci := 10) (v := .int 95) (ty := .int) (C := RX10) (T := TX10) (N := 44) hx hb hts inlX10 tyX10 tyX10_ok nmX10 hown hK hP hD hS 0 rfl rfl 19 (by decide) (hts _ k_298) (fun _ h9 => h9) rfl (tyX10_ok 19 (by decide)) rfl rfl (Nat.le_of_ble_eq_true rfl) dX10_write_26 (fun H locs hP hD hS => ?_)
  have hP : va_P D vwCl [(h0, .inr (10, (.int v1 :: .int v2 :: .ref h2 :: .ref h3 :: .ref h4 :: .ref h5 :: .ref h6 :: .ref h7 :: .ref h8 :: .ref h9 :: .ref h10 :: .ref h1 :: .int v3 :: .ref h11 :: .ref h12 :: .ref h13 :: .ref h14 :: .int v4 :: .int v5 :: .int 95 :: .ref h15 :: .ref h16 :: .ref h17 :: .int v6 :: .ref h18 :: .int v7 :: .ref h19 :: .ref h20 :: .int v8 :: .ref h21 :: .ref h22 :: .int v9 :: .int v10 :: .int v11 :: .int v12 :: .int v13 :: .int v14 :: .int v15 :: .int v16 :: .ref h23 :: .long v17 :: .long v18 :: .long v19 :: .long v20 :: []))), (h1, .inl (G.1, 60, .inl v21)), (h14, .inl (G.1, 1336, .inl f529))] H := hP
  have hD : va_D A [(h0, .inr (10, (.int v1 :: .int v2 :: .ref h2 :: .ref h3 :: .ref h4 :: .ref h5 :: .ref h6 :: .ref h7 :: .ref h8 :: .ref h9 :: .ref h10 :: .ref h1 :: .int v3 :: .ref h11 :: .ref h12 :: .ref h13 :: .ref h14 :: .int v4 :: .int v5 :: .int 95 :: .ref h15 :: .ref h16 :: .ref h17 :: .int v6 :: .ref h18 :: .int v7 :: .ref h19 :: .ref h20 :: .int v8 :: .ref h21 :: .ref h22 :: .int v9 :: .int v10 :: .int v11 :: .int v12 :: .int v13 :: .int v14 :: .int v15 :: .int v16 :: .ref h23 :: .long v17 :: .long v18 :: .long v19 :: .long v20 :: []))), (h1, .inl (G.1, 60, .inl v21)), (h14, .inl (G.1, 1336, .inl f529))] := hD
  refine lv_iinc (v := 3) (lv' := [(3, .int 3), (0, .ref h0), (1, .ref h1), (2, .int 60)]) hx hb dX10_write_29 hl (k := 0) rfl (by decide) (by decide) rfl (fun ls hl => ?_)
  refine lv_goto (tgt := 2) hx hb dX10_write_32 (by decide) ?_
  refine lv_iload_n hx hb dX10_write_2 rfl (lv_at hl 0 rfl) ?_
  refine lv_iload_n hx hb dX10_write_3 rfl (lv_at hl 3 rfl) ?_
  refine lv_icmp_ge (tgt := 35) hx hb dX10_write_4 (by decide) (fun h9 => absurd h9 (by decide)) (fun _ => ?_)
  refine lv_aload_n hx hb dX10_write_7 rfl (lv_at hl 1 rfl) ?_
  refine va_get (D := D) (ci := 10) (v := .ref h14) (C := RX10) (T := TX10) (N := 44) hx hb hts inlX10 hown hK hP 0 rfl rfl 16 (by decide) (hts _ k_105) (fun _ h9 => h9) rfl dX10_write_8 ?_
  refine lv_aload_n hx hb dX10_write_11 rfl (lv_at hl 1 rfl) ?_
  refine va_get (D := D) (ci := 10) (v := .int 95) (C := RX10) (T := TX10) (N := 44) hx hb hts inlX10 hown hK hP 0 rfl rfl 19 (by decide) (hts _ k_298) (fun _ h9 => h9) rfl dX10_write_12 ?_
  refine lv_aload_n hx hb dX10_write_15 rfl (lv_at hl 2 rfl) ?_
  refine lv_iload_n hx hb dX10_write_16 rfl (lv_at hl 0 rfl) ?_
  refine va_iald hx hb hK hP 1 0 rfl rfl (show ¬ ((3 : Int32) < 0 ∨ 60 ≤ (3 : Int32).toNatClampNeg) by decide) dX10_write_17 ?_
  refine lv_topi (fun x530 _ => ?_)
  refine va_iast hx hb hK hP hD hS 2 0 rfl rfl (show ¬ ((95 : Int32) < 0 ∨ 1336 ≤ (95 : Int32).toNatClampNeg) by decide) dX10_write_18 (fun H locs hP hD hS => ?_)
  obtain ⟨f531, hP, hD⟩ : ∃ f531, va_P D vwCl [(h0, .inr (10, (.int v1 :: .int v2 :: .ref h2 :: .ref h3 :: .ref h4 :: .ref h5 :: .ref h6 :: .ref h7 :: .ref h8 :: .ref h9 :: .ref h10 :: .ref h1 :: .int v3 :: .ref h11 :: .ref h12 :: .ref h13 :: .ref h14 :: .int v4 :: .int v5 :: .int 95 :: .ref h15 :: .ref h16 :: .ref h17 :: .int v6 :: .ref h18 :: .int v7 :: .ref h19 :: .ref h20 :: .int v8 :: .ref h21 :: .ref h22 :: .int v9 :: .int v10 :: .int v11 :: .int v12 :: .int v13 :: .int v14 :: .int v15 :: .int v16 :: .ref h23 :: .long v17 :: .long v18 :: .long v19 :: .long v20 :: []))), (h1, .inl (G.1, 60, .inl v21)), (h14, .inl (G.1, 1336, .inl f531))] H ∧ va_D A [(h0, .inr (10, (.int v1 :: .int v2 :: .ref h2 :: .ref h3 :: .ref h4 :: .ref h5 :: .ref h6 :: .ref h7 :: .ref h8 :: .ref h9 :: .ref h10 :: .ref h1 :: .int v3 :: .ref h11 :: .ref h12 :: .ref h13 :: .ref h14 :: .int v4 :: .int v5 :: .int 95 :: .ref h15 :: .ref h16 :: .ref h17 :: .int v6 :: .ref h18 :: .int v7 :: .ref h19 :: .ref h20 :: .int v8 :: .ref h21 :: .ref h22 :: .int v9 :: .int v10 :: .int v11 :: .int v12 :: .int v13 :: .int v14 :: .int v15 :: .int v16 :: .ref h23 :: .long v17 :: .long v18 :: .long v19 :: .long v20 :: []))), (h1, .inl (G.1, 60, .inl v21)), (h14, .inl (G.1, 1336, .inl f531))] := ⟨_, hP, hD⟩
  refine lv_aload_n hx hb dX10_write_19 rfl (lv_at hl 1 rfl) ?_
  refine lv_dup hx hb dX10_write_20 rfl ?_
  refine va_get (D := D) (ci := 10) (v := .int 95) (C := RX10) (T := TX10) (N := 44) hx hb hts inlX10 hown hK hP 0 rfl rfl 19 (by decide) (hts _ k_298) (fun _ h9 => h9) rfl dX10_write_21 ?_
  refine lv_iconst (v := 1) hx hb dX10_write_24 (by decide) ?_
  refine lv_iadd hx hb dX10_write_25 ?_
  refine ow_i (y := 96) (by decide) ?_
  refine va_put (D := D) (ci := 10) (v := .int 96) (ty := .int) (C := RX10) (T := TX10) (N := 44) hx hb hts inlX10 tyX10 tyX10_ok nmX10 hown hK hP hD hS 0 rfl rfl 19 (by decide) (hts _ k_298) (fun _ h9 => h9) rfl (tyX10_ok 19 (by decide)) rfl rfl (Nat.le_of_ble_eq_true rfl) dX10_write_26 (fun H locs hP hD hS => ?_)
  have hP : va_P D vwCl [(h0, .inr (10, (.int v1 :: .int v2 :: .ref h2 :: .ref h3 :: .ref h4 :: .ref h5 :: .ref h6 :: .ref h7 :: .ref h8 :: .ref h9 :: .ref h10 :: .ref h1 :: .int v3 :: .ref h11 :: .ref h12 :: .ref h13 :: .ref h14 :: .int v4 :: .int v5 :: .int 96 :: .ref h15 :: .ref h16 :: .ref h17 :: .int v6 :: .ref h18 :: .int v7 :: .ref h19 :: .ref h20 :: .int v8 :: .ref h21 :: .ref h22 :: .int v9 :: .int v10 :: .int v11 :: .int v12 :: .int v13 :: .int v14 :: .int v15 :: .int v16 :: .ref h23 :: .long v17 :: .long v18 :: .long v19 :: .long v20 :: []))), (h1, .inl (G.1, 60, .inl v21)), (h14, .inl (G.1, 1336, .inl f531))] H := hP
  have hD : va_D A [(h0, .inr (10, (.int v1 :: .int v2 :: .ref h2 :: .ref h3 :: .ref h4 :: .ref h5 :: .ref h6 :: .ref h7 :: .ref h8 :: .ref h9 :: .ref h10 :: .ref h1 :: .int v3 :: .ref h11 :: .ref h12 :: .ref h13 :: .ref h14 :: .int v4 :: .int v5 :: .int 96 :: .ref h15 :: .ref h16 :: .ref h17 :: .int v6 :: .ref h18 :: .int v7 :: .ref h19 :: .ref h20 :: .int v8 :: .ref h21 :: .ref h22 :: .int v9 :: .int v10 :: .int v11 :: .int v12 :: .int v13 :: .int v14 :: .int v15 :: .int v16 :: .ref h23 :: .long v17 :: .long v18 :: .long v19 :: .long v20 :: []))), (h1, .inl (G.1, 60, .inl v21)), (h14, .inl (G.1, 1336, .inl f531))] := hD
  refine lv_iinc (v := 4) (lv' := [(3, .int 4), (0, .ref h0), (1, .ref h1), (2, .int 60)]) hx hb dX10_write_29 hl (k := 0) rfl (by decide) (by decide) rfl (fun ls hl => ?_)
  refine lv_goto (tgt := 2) hx hb dX10_write_32 (by decide) ?_
  refine lv_iload_n hx hb dX10_write_2 rfl (lv_at hl 0 rfl) ?_
  refine lv_iload_n hx hb dX10_write_3 rfl (lv_at hl 3 rfl) ?_
  refine lv_icmp_ge (tgt := 35) hx hb dX10_write_4 (by decide) (fun h9 => absurd h9 (by decide)) (fun _ => ?_)
  refine lv_aload_n hx hb dX10_write_7 rfl (lv_at hl 1 rfl) ?_
  refine va_get (D := D) (ci := 10) (v := .ref h14) (C := RX10) (T := TX10) (N := 44) hx hb hts inlX10 hown hK hP 0 rfl rfl 16 (by decide) (hts _ k_105) (fun _ h9 => h9) rfl dX10_write_8 ?_
  refine lv_aload_n hx hb dX10_write_11 rfl (lv_at hl 1 rfl) ?_
  refine va_get (D := D) (ci := 10) (v := .int 96) (C := RX10) (T := TX10) (N := 44) hx hb hts inlX10 hown hK hP 0 rfl rfl 19 (by decide) (hts _ k_298) (fun _ h9 => h9) rfl dX10_write_12 ?_
  refine lv_aload_n hx hb dX10_write_15 rfl (lv_at hl 2 rfl) ?_
  refine lv_iload_n hx hb dX10_write_16 rfl (lv_at hl 0 rfl) ?_
  refine va_iald hx hb hK hP 1 0 rfl rfl (show ¬ ((4 : Int32) < 0 ∨ 60 ≤ (4 : Int32).toNatClampNeg) by decide) dX10_write_17 ?_
  refine lv_topi (fun x532 _ => ?_)
  refine va_iast hx hb hK hP hD hS 2 0 rfl rfl (show ¬ ((96 : Int32) < 0 ∨ 1336 ≤ (96 : Int32).toNatClampNeg) by decide) dX10_write_18 (fun H locs hP hD hS => ?_)
  obtain ⟨f533, hP, hD⟩ : ∃ f533, va_P D vwCl [(h0, .inr (10, (.int v1 :: .int v2 :: .ref h2 :: .ref h3 :: .ref h4 :: .ref h5 :: .ref h6 :: .ref h7 :: .ref h8 :: .ref h9 :: .ref h10 :: .ref h1 :: .int v3 :: .ref h11 :: .ref h12 :: .ref h13 :: .ref h14 :: .int v4 :: .int v5 :: .int 96 :: .ref h15 :: .ref h16 :: .ref h17 :: .int v6 :: .ref h18 :: .int v7 :: .ref h19 :: .ref h20 :: .int v8 :: .ref h21 :: .ref h22 :: .int v9 :: .int v10 :: .int v11 :: .int v12 :: .int v13 :: .int v14 :: .int v15 :: .int v16 :: .ref h23 :: .long v17 :: .long v18 :: .long v19 :: .long v20 :: []))), (h1, .inl (G.1, 60, .inl v21)), (h14, .inl (G.1, 1336, .inl f533))] H ∧ va_D A [(h0, .inr (10, (.int v1 :: .int v2 :: .ref h2 :: .ref h3 :: .ref h4 :: .ref h5 :: .ref h6 :: .ref h7 :: .ref h8 :: .ref h9 :: .ref h10 :: .ref h1 :: .int v3 :: .ref h11 :: .ref h12 :: .ref h13 :: .ref h14 :: .int v4 :: .int v5 :: .int 96 :: .ref h15 :: .ref h16 :: .ref h17 :: .int v6 :: .ref h18 :: .int v7 :: .ref h19 :: .ref h20 :: .int v8 :: .ref h21 :: .ref h22 :: .int v9 :: .int v10 :: .int v11 :: .int v12 :: .int v13 :: .int v14 :: .int v15 :: .int v16 :: .ref h23 :: .long v17 :: .long v18 :: .long v19 :: .long v20 :: []))), (h1, .inl (G.1, 60, .inl v21)), (h14, .inl (G.1, 1336, .inl f533))] := ⟨_, hP, hD⟩
  refine lv_aload_n hx hb dX10_write_19 rfl (lv_at hl 1 rfl) ?_
  refine lv_dup hx hb dX10_write_20 rfl ?_
  refine va_get (D := D) (ci := 10) (v := .int 96) (C := RX10) (T := TX10) (N := 44) hx hb hts inlX10 hown hK hP 0 rfl rfl 19 (by decide) (hts _ k_298) (fun _ h9 => h9) rfl dX10_write_21 ?_
  refine lv_iconst (v := 1) hx hb dX10_write_24 (by decide) ?_
  refine lv_iadd hx hb dX10_write_25 ?_
  refine ow_i (y := 97) (by decide) ?_
  refine va_put (D := D) (ci := 10) (v := .int 97) (ty := .int) (C := RX10) (T := TX10) (N := 44) hx hb hts inlX10 tyX10 tyX10_ok nmX10 hown hK hP hD hS 0 rfl rfl 19 (by decide) (hts _ k_298) (fun _ h9 => h9) rfl (tyX10_ok 19 (by decide)) rfl rfl (Nat.le_of_ble_eq_true rfl) dX10_write_26 (fun H locs hP hD hS => ?_)
  have hP : va_P D vwCl [(h0, .inr (10, (.int v1 :: .int v2 :: .ref h2 :: .ref h3 :: .ref h4 :: .ref h5 :: .ref h6 :: .ref h7 :: .ref h8 :: .ref h9 :: .ref h10 :: .ref h1 :: .int v3 :: .ref h11 :: .ref h12 :: .ref h13 :: .ref h14 :: .int v4 :: .int v5 :: .int 97 :: .ref h15 :: .ref h16 :: .ref h17 :: .int v6 :: .ref h18 :: .int v7 :: .ref h19 :: .ref h20 :: .int v8 :: .ref h21 :: .ref h22 :: .int v9 :: .int v10 :: .int v11 :: .int v12 :: .int v13 :: .int v14 :: .int v15 :: .int v16 :: .ref h23 :: .long v17 :: .long v18 :: .long v19 :: .long v20 :: []))), (h1, .inl (G.1, 60, .inl v21)), (h14, .inl (G.1, 1336, .inl f533))] H := hP
  have hD : va_D A [(h0, .inr (10, (.int v1 :: .int v2 :: .ref h2 :: .ref h3 :: .ref h4 :: .ref h5 :: .ref h6 :: .ref h7 :: .ref h8 :: .ref h9 :: .ref h10 :: .ref h1 :: .int v3 :: .ref h11 :: .ref h12 :: .ref h13 :: .ref h14 :: .int v4 :: .int v5 :: .int 97 :: .ref h15 :: .ref h16 :: .ref h17 :: .int v6 :: .ref h18 :: .int v7 :: .ref h19 :: .ref h20 :: .int v8 :: .ref h21 :: .ref h22 :: .int v9 :: .int v10 :: .int v11 :: .int v12 :: .int v13 :: .int v14 :: .int v15 :: .int v16 :: .ref h23 :: .long v17 :: .long v18 :: .long v19 :: .long v20 :: []))), (h1, .inl (G.1, 60, .inl v21)), (h14, .inl (G.1, 1336, .inl f533))] := hD
  refine lv_iinc (v := 5) (lv' := [(3, .int 5), (0, .ref h0), (1, .ref h1), (2, .int 60)]) hx hb dX10_write_29 hl (k := 0) rfl (by decide) (by decide) rfl (fun ls hl => ?_)
  refine lv_goto (tgt := 2) hx hb dX10_write_32 (by decide) ?_
  refine lv_iload_n hx hb dX10_write_2 rfl (lv_at hl 0 rfl) ?_
  refine lv_iload_n hx hb dX10_write_3 rfl (lv_at hl 3 rfl) ?_
  refine lv_icmp_ge (tgt := 35) hx hb dX10_write_4 (by decide) (fun h9 => absurd h9 (by decide)) (fun _ => ?_)
  refine lv_aload_n hx hb dX10_write_7 rfl (lv_at hl 1 rfl) ?_
  refine va_get (D := D) (ci := 10) (v := .ref h14) (C := RX10) (T := TX10) (N := 44) hx hb hts inlX10 hown hK hP 0 rfl rfl 16 (by decide) (hts _ k_105) (fun _ h9 => h9) rfl dX10_write_8 ?_
  refine lv_aload_n hx hb dX10_write_11 rfl (lv_at hl 1 rfl) ?_
  refine va_get (D := D) (ci := 10) (v := .int 97) (C := RX10) (T := TX10) (N := 44) hx hb hts inlX10 hown hK hP 0 rfl rfl 19 (by decide) (hts _ k_298) (fun _ h9 => h9) rfl dX10_write_12 ?_
  refine lv_aload_n hx hb dX10_write_15 rfl (lv_at hl 2 rfl) ?_
  refine lv_iload_n hx hb dX10_write_16 rfl (lv_at hl 0 rfl) ?_
  refine va_iald hx hb hK hP 1 0 rfl rfl (show ¬ ((5 : Int32) < 0 ∨ 60 ≤ (5 : Int32).toNatClampNeg) by decide) dX10_write_17 ?_
  refine lv_topi (fun x534 _ => ?_)
  refine va_iast hx hb hK hP hD hS 2 0 rfl rfl (show ¬ ((97 : Int32) < 0 ∨ 1336 ≤ (97 : Int32).toNatClampNeg) by decide) dX10_write_18 (fun H locs hP hD hS => ?_)
  obtain ⟨f535, hP, hD⟩ : ∃ f535, va_P D vwCl [(h0, .inr (10, (.int v1 :: .int v2 :: .ref h2 :: .ref h3 :: .ref h4 :: .ref h5 :: .ref h6 :: .ref h7 :: .ref h8 :: .ref h9 :: .ref h10 :: .ref h1 :: .int v3 :: .ref h11 :: .ref h12 :: .ref h13 :: .ref h14 :: .int v4 :: .int v5 :: .int 97 :: .ref h15 :: .ref h16 :: .ref h17 :: .int v6 :: .ref h18 :: .int v7 :: .ref h19 :: .ref h20 :: .int v8 :: .ref h21 :: .ref h22 :: .int v9 :: .int v10 :: .int v11 :: .int v12 :: .int v13 :: .int v14 :: .int v15 :: .int v16 :: .ref h23 :: .long v17 :: .long v18 :: .long v19 :: .long v20 :: []))), (h1, .inl (G.1, 60, .inl v21)), (h14, .inl (G.1, 1336, .inl f535))] H ∧ va_D A [(h0, .inr (10, (.int v1 :: .int v2 :: .ref h2 :: .ref h3 :: .ref h4 :: .ref h5 :: .ref h6 :: .ref h7 :: .ref h8 :: .ref h9 :: .ref h10 :: .ref h1 :: .int v3 :: .ref h11 :: .ref h12 :: .ref h13 :: .ref h14 :: .int v4 :: .int v5 :: .int 97 :: .ref h15 :: .ref h16 :: .ref h17 :: .int v6 :: .ref h18 :: .int v7 :: .ref h19 :: .ref h20 :: .int v8 :: .ref h21 :: .ref h22 :: .int v9 :: .int v10 :: .int v11 :: .int v12 :: .int v13 :: .int v14 :: .int v15 :: .int v16 :: .ref h23 :: .long v17 :: .long v18 :: .long v19 :: .long v20 :: []))), (h1, .inl (G.1, 60, .inl v21)), (h14, .inl (G.1, 1336, .inl f535))] := ⟨_, hP, hD⟩
  refine lv_aload_n hx hb dX10_write_19 rfl (lv_at hl 1 rfl) ?_
  refine lv_dup hx hb dX10_write_20 rfl ?_
  refine va_get (D := D) (ci := 10) (v := .int 97) (C := RX10) (T := TX10) (N := 44) hx hb hts inlX10 hown hK hP 0 rfl rfl 19 (by decide) (hts _ k_298) (fun _ h9 => h9) rfl dX10_write_21 ?_
  refine lv_iconst (v := 1) hx hb dX10_write_24 (by decide) ?_
  refine lv_iadd hx hb dX10_write_25 ?_
  refine ow_i (y := 98) (by decide) ?_
  refine va_put (D := D) (ci := 10) (v := .int 98) (ty := .int) (C := RX10) (T := TX10) (N := 44) hx hb hts inlX10 tyX10 tyX10_ok nmX10 hown hK hP hD hS 0 rfl rfl 19 (by decide) (hts _ k_298) (fun _ h9 => h9) rfl (tyX10_ok 19 (by decide)) rfl rfl (Nat.le_of_ble_eq_true rfl) dX10_write_26 (fun H locs hP hD hS => ?_)
  have hP : va_P D vwCl [(h0, .inr (10, (.int v1 :: .int v2 :: .ref h2 :: .ref h3 :: .ref h4 :: .ref h5 :: .ref h6 :: .ref h7 :: .ref h8 :: .ref h9 :: .ref h10 :: .ref h1 :: .int v3 :: .ref h11 :: .ref h12 :: .ref h13 :: .ref h14 :: .int v4 :: .int v5 :: .int 98 :: .ref h15 :: .ref h16 :: .ref h17 :: .int v6 :: .ref h18 :: .int v7 :: .ref h19 :: .ref h20 :: .int v8 :: .ref h21 :: .ref h22 :: .int v9 :: .int v10 :: .int v11 :: .int v12 :: .int v13 :: .int v14 :: .int v15 :: .int v16 :: .ref h23 :: .long v17 :: .long v18 :: .long v19 :: .long v20 :: []))), (h1, .inl (G.1, 60, .inl v21)), (h14, .inl (G.1, 1336, .inl f535))] H := hP
  have hD : va_D A [(h0, .inr (10, (.int v1 :: .int v2 :: .ref h2 :: .ref h3 :: .ref h4 :: .ref h5 :: .ref h6 :: .ref h7 :: .ref h8 :: .ref h9 :: .ref h10 :: .ref h1 :: .int v3 :: .ref h11 :: .ref h12 :: .ref h13 :: .ref h14 :: .int v4 :: .int v5 :: .int 98 :: .ref h15 :: .ref h16 :: .ref h17 :: .int v6 :: .ref h18 :: .int v7 :: .ref h19 :: .ref h20 :: .int v8 :: .ref h21 :: .ref h22 :: .int v9 :: .int v10 :: .int v11 :: .int v12 :: .int v13 :: .int v14 :: .int v15 :: .int v16 :: .ref h23 :: .long v17 :: .long v18 :: .long v19 :: .long v20 :: []))), (h1, .inl (G.1, 60, .inl v21)), (h14, .inl (G.1, 1336, .inl f535))] := hD
  refine lv_iinc (v := 6) (lv' := [(3, .int 6), (0, .ref h0), (1, .ref h1), (2, .int 60)]) hx hb dX10_write_29 hl (k := 0) rfl (by decide) (by decide) rfl (fun ls hl => ?_)
  refine lv_goto (tgt := 2) hx hb dX10_write_32 (by decide) ?_
  refine lv_iload_n hx hb dX10_write_2 rfl (lv_at hl 0 rfl) ?_
  refine lv_iload_n hx hb dX10_write_3 rfl (lv_at hl 3 rfl) ?_
  refine lv_icmp_ge (tgt := 35) hx hb dX10_write_4 (by decide) (fun h9 => absurd h9 (by decide)) (fun _ => ?_)
  refine lv_aload_n hx hb dX10_write_7 rfl (lv_at hl 1 rfl) ?_
  refine va_get (D := D) (ci := 10) (v := .ref h14) (C := RX10) (T := TX10) (N := 44) hx hb hts inlX10 hown hK hP 0 rfl rfl 16 (by decide) (hts _ k_105) (fun _ h9 => h9) rfl dX10_write_8 ?_
  refine lv_aload_n hx hb dX10_write_11 rfl (lv_at hl 1 rfl) ?_
  refine va_get (D := D) (ci := 10) (v := .int 98) (C := RX10) (T := TX10) (N := 44) hx hb hts inlX10 hown hK hP 0 rfl rfl 19 (by decide) (hts _ k_298) (fun _ h9 => h9) rfl dX10_write_12 ?_
  refine lv_aload_n hx hb dX10_write_15 rfl (lv_at hl 2 rfl) ?_
  refine lv_iload_n hx hb dX10_write_16 rfl (lv_at hl 0 rfl) ?_
  refine va_iald hx hb hK hP 1 0 rfl rfl (show ¬ ((6 : Int32) < 0 ∨ 60 ≤ (6 : Int32).toNatClampNeg) by decide) dX10_write_17 ?_
  refine lv_topi (fun x536 _ => ?_)
  refine va_iast hx hb hK hP hD hS 2 0 rfl rfl (show ¬ ((98 : Int32) < 0 ∨ 1336 ≤ (98 : Int32).toNatClampNeg) by decide) dX10_write_18 (fun H locs hP hD hS => ?_)
  obtain ⟨f537, hP, hD⟩ : ∃ f537, va_P D vwCl [(h0, .inr (10, (.int v1 :: .int v2 :: .ref h2 :: .ref h3 :: .ref h4 :: .ref h5 :: .ref h6 :: .ref h7 :: .ref h8 :: .ref h9 :: .ref h10 :: .ref h1 :: .int v3 :: .ref h11 :: .ref h12 :: .ref h13 :: .ref h14 :: .int v4 :: .int v5 :: .int 98 :: .ref h15 :: .ref h16 :: .ref h17 :: .int v6 :: .ref h18 :: .int v7 :: .ref h19 :: .ref h20 :: .int v8 :: .ref h21 :: .ref h22 :: .int v9 :: .int v10 :: .int v11 :: .int v12 :: .int v13 :: .int v14 :: .int v15 :: .int v16 :: .ref h23 :: .long v17 :: .long v18 :: .long v19 :: .long v20 :: []))), (h1, .inl (G.1, 60, .inl v21)), (h14, .inl (G.1, 1336, .inl f537))] H ∧ va_D A [(h0, .inr (10, (.int v1 :: .int v2 :: .ref h2 :: .ref h3 :: .ref h4 :: .ref h5 :: .ref h6 :: .ref h7 :: .ref h8 :: .ref h9 :: .ref h10 :: .ref h1 :: .int v3 :: .ref h11 :: .ref h12 :: .ref h13 :: .ref h14 :: .int v4 :: .int v5 :: .int 98 :: .ref h15 :: .ref h16 :: .ref h17 :: .int v6 :: .ref h18 :: .int v7 :: .ref h19 :: .ref h20 :: .int v8 :: .ref h21 :: .ref h22 :: .int v9 :: .int v10 :: .int v11 :: .int v12 :: .int v13 :: .int v14 :: .int v15 :: .int v16 :: .ref h23 :: .long v17 :: .long v18 :: .long v19 :: .long v20 :: []))), (h1, .inl (G.1, 60, .inl v21)), (h14, .inl (G.1, 1336, .inl f537))] := ⟨_, hP, hD⟩
  refine lv_aload_n hx hb dX10_write_19 rfl (lv_at hl 1 rfl) ?_
  refine lv_dup hx hb dX10_write_20 rfl ?_
  refine va_get (D := D) (ci := 10) (v := .int 98) (C := RX10) (T := TX10) (N := 44) hx hb hts inlX10 hown hK hP 0 rfl rfl 19 (by decide) (hts _ k_298) (fun _ h9 => h9) rfl dX10_write_21 ?_
  refine lv_iconst (v := 1) hx hb dX10_write_24 (by decide) ?_
  refine lv_iadd hx hb dX10_write_25 ?_
  refine ow_i (y := 99) (by decide) ?_
  refine va_put (D := D) (ci := 10) (v := .int 99) (ty := .int) (C := RX10) (T := TX10) (N := 44) hx hb hts inlX10 tyX10 tyX10_ok nmX10 hown hK hP hD hS 0 rfl rfl 19 (by decide) (hts _ k_298) (fun _ h9 => h9) rfl (tyX10_ok 19 (by decide)) rfl rfl (Nat.le_of_ble_eq_true rfl) dX10_write_26 (fun H locs hP hD hS => ?_)
  have hP : va_P D vwCl [(h0, .inr (10, (.int v1 :: .int v2 :: .ref h2 :: .ref h3 :: .ref h4 :: .ref h5 :: .ref h6 :: .ref h7 :: .ref h8 :: .ref h9 :: .ref h10 :: .ref h1 :: .int v3 :: .ref h11 :: .ref h12 :: .ref h13 :: .ref h14 :: .int v4 :: .int v5 :: .int 99 :: .ref h15 :: .ref h16 :: .ref h17 :: .int v6 :: .ref h18 :: .int v7 :: .ref h19 :: .ref h20 :: .int v8 :: .ref h21 :: .ref h22 :: .int v9 :: .int v10 :: .int v11 :: .int v12 :: .int v13 :: .int v14 :: .int v15 :: .int v16 :: .ref h23 :: .long v17 :: .long v18 :: .long v19 :: .long v20 :: []))), (h1, .inl (G.1, 60, .inl v21)), (h14, .inl (G.1, 1336, .inl f537))] H := hP
  have hD : va_D A [(h0, .inr (10, (.int v1 :: .int v2 :: .ref h2 :: .ref h3 :: .ref h4 :: .ref h5 :: .ref h6 :: .ref h7 :: .ref h8 :: .ref h9 :: .ref h10 :: .ref h1 :: .int v3 :: .ref h11 :: .ref h12 :: .ref h13 :: .ref h14 :: .int v4 :: .int v5 :: .int 99 :: .ref h15 :: .ref h16 :: .ref h17 :: .int v6 :: .ref h18 :: .int v7 :: .ref h19 :: .ref h20 :: .int v8 :: .ref h21 :: .ref h22 :: .int v9 :: .int v10 :: .int v11 :: .int v12 :: .int v13 :: .int v14 :: .int v15 :: .int v16 :: .ref h23 :: .long v17 :: .long v18 :: .long v19 :: .long v20 :: []))), (h1, .inl (G.1, 60, .inl v21)), (h14, .inl (G.1, 1336, .inl f537))] := hD
  refine lv_iinc (v := 7) (lv' := [(3, .int 7), (0, .ref h0), (1, .ref h1), (2, .int 60)]) hx hb dX10_write_29 hl (k := 0) rfl (by decide) (by decide) rfl (fun ls hl => ?_)
  refine lv_goto (tgt := 2) hx hb dX10_write_32 (by decide) ?_
  refine lv_iload_n hx hb dX10_write_2 rfl (lv_at hl 0 rfl) ?_
  refine lv_iload_n hx hb dX10_write_3 rfl (lv_at hl 3 rfl) ?_
  refine lv_icmp_ge (tgt := 35) hx hb dX10_write_4 (by decide) (fun h9 => absurd h9 (by decide)) (fun _ => ?_)
  refine lv_aload_n hx hb dX10_write_7 rfl (lv_at hl 1 rfl) ?_
  refine va_get (D := D) (ci := 10) (v := .ref h14) (C := RX10) (T := TX10) (N := 44) hx hb hts inlX10 hown hK hP 0 rfl rfl 16 (by decide) (hts _ k_105) (fun _ h9 => h9) rfl dX10_write_8 ?_
  refine lv_aload_n hx hb dX10_write_11 rfl (lv_at hl 1 rfl) ?_
  refine va_get (D := D) (ci := 10) (v := .int 99) (C := RX10) (T := TX10) (N := 44) hx hb hts inlX10 hown hK hP 0 rfl rfl 19 (by decide) (hts _ k_298) (fun _ h9 => h9) rfl dX10_write_12 ?_
  refine lv_aload_n hx hb dX10_write_15 rfl (lv_at hl 2 rfl) ?_
  refine lv_iload_n hx hb dX10_write_16 rfl (lv_at hl 0 rfl) ?_
  refine va_iald hx hb hK hP 1 0 rfl rfl (show ¬ ((7 : Int32) < 0 ∨ 60 ≤ (7 : Int32).toNatClampNeg) by decide) dX10_write_17 ?_
  refine lv_topi (fun x538 _ => ?_)
  refine va_iast hx hb hK hP hD hS 2 0 rfl rfl (show ¬ ((99 : Int32) < 0 ∨ 1336 ≤ (99 : Int32).toNatClampNeg) by decide) dX10_write_18 (fun H locs hP hD hS => ?_)
  obtain ⟨f539, hP, hD⟩ : ∃ f539, va_P D vwCl [(h0, .inr (10, (.int v1 :: .int v2 :: .ref h2 :: .ref h3 :: .ref h4 :: .ref h5 :: .ref h6 :: .ref h7 :: .ref h8 :: .ref h9 :: .ref h10 :: .ref h1 :: .int v3 :: .ref h11 :: .ref h12 :: .ref h13 :: .ref h14 :: .int v4 :: .int v5 :: .int 99 :: .ref h15 :: .ref h16 :: .ref h17 :: .int v6 :: .ref h18 :: .int v7 :: .ref h19 :: .ref h20 :: .int v8 :: .ref h21 :: .ref h22 :: .int v9 :: .int v10 :: .int v11 :: .int v12 :: .int v13 :: .int v14 :: .int v15 :: .int v16 :: .ref h23 :: .long v17 :: .long v18 :: .long v19 :: .long v20 :: []))), (h1, .inl (G.1, 60, .inl v21)), (h14, .inl (G.1, 1336, .inl f539))] H ∧ va_D A [(h0, .inr (10, (.int v1 :: .int v2 :: .ref h2 :: .ref h3 :: .ref h4 :: .ref h5 :: .ref h6 :: .ref h7 :: .ref h8 :: .ref h9 :: .ref h10 :: .ref h1 :: .int v3 :: .ref h11 :: .ref h12 :: .ref h13 :: .ref h14 :: .int v4 :: .int v5 :: .int 99 :: .ref h15 :: .ref h16 :: .ref h17 :: .int v6 :: .ref h18 :: .int v7 :: .ref h19 :: .ref h20 :: .int v8 :: .ref h21 :: .ref h22 :: .int v9 :: .int v10 :: .int v11 :: .int v12 :: .int v13 :: .int v14 :: .int v15 :: .int v16 :: .ref h23 :: .long v17 :: .long v18 :: .long v19 :: .long v20 :: []))), (h1, .inl (G.1, 60, .inl v21)), (h14, .inl (G.1, 1336, .inl f539))] := ⟨_, hP, hD⟩
  refine lv_aload_n hx hb dX10_write_19 rfl (lv_at hl 1 rfl) ?_
  refine lv_dup hx hb dX10_write_20 rfl ?_
  refine va_get (D := D) (ci := 10) (v := .int 99) (C := RX10) (T := TX10) (N := 44) hx hb hts inlX10 hown hK hP 0 rfl rfl 19 (by decide) (hts _ k_298) (fun _ h9 => h9) rfl dX10_write_21 ?_
  refine lv_iconst (v := 1) hx hb dX10_write_24 (by decide) ?_
  refine lv_iadd hx hb dX10_write_25 ?_
  refine ow_i (y := 100) (by decide) ?_
  refine va_put (D := D) (ci := 10) (v := .int 100) (ty := .int) (C := RX10) (T := TX10) (N := 44) hx hb hts inlX10 tyX10 tyX10_ok nmX10 hown hK hP hD hS 0 rfl rfl 19 (by decide) (hts _ k_298) (fun _ h9 => h9) rfl (tyX10_ok 19 (by decide)) rfl rfl (Nat.le_of_ble_eq_true rfl) dX10_write_26 (fun H locs hP hD hS => ?_)
  have hP : va_P D vwCl [(h0, .inr (10, (.int v1 :: .int v2 :: .ref h2 :: .ref h3 :: .ref h4 :: .ref h5 :: .ref h6 :: .ref h7 :: .ref h8 :: .ref h9 :: .ref h10 :: .ref h1 :: .int v3 :: .ref h11 :: .ref h12 :: .ref h13 :: .ref h14 :: .int v4 :: .int v5 :: .int 100 :: .ref h15 :: .ref h16 :: .ref h17 :: .int v6 :: .ref h18 :: .int v7 :: .ref h19 :: .ref h20 :: .int v8 :: .ref h21 :: .ref h22 :: .int v9 :: .int v10 :: .int v11 :: .int v12 :: .int v13 :: .int v14 :: .int v15 :: .int v16 :: .ref h23 :: .long v17 :: .long v18 :: .long v19 :: .long v20 :: []))), (h1, .inl (G.1, 60, .inl v21)), (h14, .inl (G.1, 1336, .inl f539))] H := hP
  have hD : va_D A [(h0, .inr (10, (.int v1 :: .int v2 :: .ref h2 :: .ref h3 :: .ref h4 :: .ref h5 :: .ref h6 :: .ref h7 :: .ref h8 :: .ref h9 :: .ref h10 :: .ref h1 :: .int v3 :: .ref h11 :: .ref h12 :: .ref h13 :: .ref h14 :: .int v4 :: .int v5 :: .int 100 :: .ref h15 :: .ref h16 :: .ref h17 :: .int v6 :: .ref h18 :: .int v7 :: .ref h19 :: .ref h20 :: .int v8 :: .ref h21 :: .ref h22 :: .int v9 :: .int v10 :: .int v11 :: .int v12 :: .int v13 :: .int v14 :: .int v15 :: .int v16 :: .ref h23 :: .long v17 :: .long v18 :: .long v19 :: .long v20 :: []))), (h1, .inl (G.1, 60, .inl v21)), (h14, .inl (G.1, 1336, .inl f539))] := hD
  refine lv_iinc (v := 8) (lv' := [(3, .int 8), (0, .ref h0), (1, .ref h1), (2, .int 60)]) hx hb dX10_write_29 hl (k := 0) rfl (by decide) (by decide) rfl (fun ls hl => ?_)
  refine lv_goto (tgt := 2) hx hb dX10_write_32 (by decide) ?_
  refine lv_iload_n hx hb dX10_write_2 rfl (lv_at hl 0 rfl) ?_
  refine lv_iload_n hx hb dX10_write_3 rfl (lv_at hl 3 rfl) ?_
  refine lv_icmp_ge (tgt := 35) hx hb dX10_write_4 (by decide) (fun h9 => absurd h9 (by decide)) (fun _ => ?_)
  refine lv_aload_n hx hb dX10_write_7 rfl (lv_at hl 1 rfl) ?_
  refine va_get (D := D) (ci := 10) (v := .ref h14) (C := RX10) (T := TX10) (N := 44) hx hb hts inlX10 hown hK hP 0 rfl rfl 16 (by decide) (hts _ k_105) (fun _ h9 => h9) rfl dX10_write_8 ?_
  refine lv_aload_n hx hb dX10_write_11 rfl (lv_at hl 1 rfl) ?_
  refine va_get (D := D) (ci := 10) (v := .int 100) (C := RX10) (T := TX10) (N := 44) hx hb hts inlX10 hown hK hP 0 rfl rfl 19 (by decide) (hts _ k_298) (fun _ h9 => h9) rfl dX10_write_12 ?_
  refine lv_aload_n hx hb dX10_write_15 rfl (lv_at hl 2 rfl) ?_
  refine lv_iload_n hx hb dX10_write_16 rfl (lv_at hl 0 rfl) ?_
  refine va_iald hx hb hK hP 1 0 rfl rfl (show ¬ ((8 : Int32) < 0 ∨ 60 ≤ (8 : Int32).toNatClampNeg) by decide) dX10_write_17 ?_
  refine lv_topi (fun x540 _ => ?_)
  refine va_iast hx hb hK hP hD hS 2 0 rfl rfl (show ¬ ((100 : Int32) < 0 ∨ 1336 ≤ (100 : Int32).toNatClampNeg) by decide) dX10_write_18 (fun H locs hP hD hS => ?_)
  obtain ⟨f541, hP, hD⟩ : ∃ f541, va_P D vwCl [(h0, .inr (10, (.int v1 :: .int v2 :: .ref h2 :: .ref h3 :: .ref h4 :: .ref h5 :: .ref h6 :: .ref h7 :: .ref h8 :: .ref h9 :: .ref h10 :: .ref h1 :: .int v3 :: .ref h11 :: .ref h12 :: .ref h13 :: .ref h14 :: .int v4 :: .int v5 :: .int 100 :: .ref h15 :: .ref h16 :: .ref h17 :: .int v6 :: .ref h18 :: .int v7 :: .ref h19 :: .ref h20 :: .int v8 :: .ref h21 :: .ref h22 :: .int v9 :: .int v10 :: .int v11 :: .int v12 :: .int v13 :: .int v14 :: .int v15 :: .int v16 :: .ref h23 :: .long v17 :: .long v18 :: .long v19 :: .long v20 :: []))), (h1, .inl (G.1, 60, .inl v21)), (h14, .inl (G.1, 1336, .inl f541))] H ∧ va_D A [(h0, .inr (10, (.int v1 :: .int v2 :: .ref h2 :: .ref h3 :: .ref h4 :: .ref h5 :: .ref h6 :: .ref h7 :: .ref h8 :: .ref h9 :: .ref h10 :: .ref h1 :: .int v3 :: .ref h11 :: .ref h12 :: .ref h13 :: .ref h14 :: .int v4 :: .int v5 :: .int 100 :: .ref h15 :: .ref h16 :: .ref h17 :: .int v6 :: .ref h18 :: .int v7 :: .ref h19 :: .ref h20 :: .int v8 :: .ref h21 :: .ref h22 :: .int v9 :: .int v10 :: .int v11 :: .int v12 :: .int v13 :: .int v14 :: .int v15 :: .int v16 :: .ref h23 :: .long v17 :: .long v18 :: .long v19 :: .long v20 :: []))), (h1, .inl (G.1, 60, .inl v21)), (h14, .inl (G.1, 1336, .inl f541))] := ⟨_, hP, hD⟩
  refine lv_aload_n hx hb dX10_write_19 rfl (lv_at hl 1 rfl) ?_
  refine lv_dup hx hb dX10_write_20 rfl ?_
  refine va_get (D := D) (ci := 10) (v := .int 100) (C := RX10) (T := TX10) (N := 44) hx hb hts inlX10 hown hK hP 0 rfl rfl 19 (by decide) (hts _ k_298) (fun _ h9 => h9) rfl dX10_write_21 ?_
  refine lv_iconst (v := 1) hx hb dX10_write_24 (by decide) ?_
  refine lv_iadd hx hb dX10_write_25 ?_
  refine ow_i (y := 101) (by decide) ?_
  refine va_put (D := D) (ci := 10) (v := .int 101) (ty := .int) (C := RX10) (T := TX10) (N := 44) hx hb hts inlX10 tyX10 tyX10_ok nmX10 hown hK hP hD hS 0 rfl rfl 19 (by decide) (hts _ k_298) (fun _ h9 => h9) rfl (tyX10_ok 19 (by decide)) rfl rfl (Nat.le_of_ble_eq_true rfl) dX10_write_26 (fun H locs hP hD hS => ?_)
  have hP : va_P D vwCl [(h0, .inr (10, (.int v1 :: .int v2 :: .ref h2 :: .ref h3 :: .ref h4 :: .ref h5 :: .ref h6 :: .ref h7 :: .ref h8 :: .ref h9 :: .ref h10 :: .ref h1 :: .int v3 :: .ref h11 :: .ref h12 :: .ref h13 :: .ref h14 :: .int v4 :: .int v5 :: .int 101 :: .ref h15 :: .ref h16 :: .ref h17 :: .int v6 :: .ref h18 :: .int v7 :: .ref h19 :: .ref h20 :: .int v8 :: .ref h21 :: .ref h22 :: .int v9 :: .int v10 :: .int v11 :: .int v12 :: .int v13 :: .int v14 :: .int v15 :: .int v16 :: .ref h23 :: .long v17 :: .long v18 :: .long v19 :: .long v20 :: []))), (h1, .inl (G.1, 60, .inl v21)), (h14, .inl (G.1, 1336, .inl f541))] H := hP
  have hD : va_D A [(h0, .inr (10, (.int v1 :: .int v2 :: .ref h2 :: .ref h3 :: .ref h4 :: .ref h5 :: .ref h6 :: .ref h7 :: .ref h8 :: .ref h9 :: .ref h10 :: .ref h1 :: .int v3 :: .ref h11 :: .ref h12 :: .ref h13 :: .ref h14 :: .int v4 :: .int v5 :: .int 101 :: .ref h15 :: .ref h16 :: .ref h17 :: .int v6 :: .ref h18 :: .int v7 :: .ref h19 :: .ref h20 :: .int v8 :: .ref h21 :: .ref h22 :: .int v9 :: .int v10 :: .int v11 :: .int v12 :: .int v13 :: .int v14 :: .int v15 :: .int v16 :: .ref h23 :: .long v17 :: .long v18 :: .long v19 :: .long v20 :: []))), (h1, .inl (G.1, 60, .inl v21)), (h14, .inl (G.1, 1336, .inl f541))] := hD
  refine lv_iinc (v := 9) (lv' := [(3, .int 9), (0, .ref h0), (1, .ref h1), (2, .int 60)]) hx hb dX10_write_29 hl (k := 0) rfl (by decide) (by decide) rfl (fun ls hl => ?_)
  refine lv_goto (tgt := 2) hx hb dX10_write_32 (by decide) ?_
  refine lv_iload_n hx hb dX10_write_2 rfl (lv_at hl 0 rfl) ?_
  refine lv_iload_n hx hb dX10_write_3 rfl (lv_at hl 3 rfl) ?_
  refine lv_icmp_ge (tgt := 35) hx hb dX10_write_4 (by decide) (fun h9 => absurd h9 (by decide)) (fun _ => ?_)
  refine lv_aload_n hx hb dX10_write_7 rfl (lv_at hl 1 rfl) ?_
  refine va_get (D := D) (ci := 10) (v := .ref h14) (C := RX10) (T := TX10) (N := 44) hx hb hts inlX10 hown hK hP 0 rfl rfl 16 (by decide) (hts _ k_105) (fun _ h9 => h9) rfl dX10_write_8 ?_
  refine lv_aload_n hx hb dX10_write_11 rfl (lv_at hl 1 rfl) ?_
  refine va_get (D := D) (ci := 10) (v := .int 101) (C := RX10) (T := TX10) (N := 44) hx hb hts inlX10 hown hK hP 0 rfl rfl 19 (by decide) (hts _ k_298) (fun _ h9 => h9) rfl dX10_write_12 ?_
  refine lv_aload_n hx hb dX10_write_15 rfl (lv_at hl 2 rfl) ?_
  refine lv_iload_n hx hb dX10_write_16 rfl (lv_at hl 0 rfl) ?_
  refine va_iald hx hb hK hP 1 0 rfl rfl (show ¬ ((9 : Int32) < 0 ∨ 60 ≤ (9 : Int32).toNatClampNeg) by decide) dX10_write_17 ?_
  refine lv_topi (fun x542 _ => ?_)
  refine va_iast hx hb hK hP hD hS 2 0 rfl rfl (show ¬ ((101 : Int32) < 0 ∨ 1336 ≤ (101 : Int32).toNatClampNeg) by decide) dX10_write_18 (fun H locs hP hD hS => ?_)
  obtain ⟨f543, hP, hD⟩ : ∃ f543, va_P D vwCl [(h0, .inr (10, (.int v1 :: .int v2 :: .ref h2 :: .ref h3 :: .ref h4 :: .ref h5 :: .ref h6 :: .ref h7 :: .ref h8 :: .ref h9 :: .ref h10 :: .ref h1 :: .int v3 :: .ref h11 :: .ref h12 :: .ref h13 :: .ref h14 :: .int v4 :: .int v5 :: .int 101 :: .ref h15 :: .ref h16 :: .ref h17 :: .int v6 :: .ref h18 :: .int v7 :: .ref h19 :: .ref h20 :: .int v8 :: .ref h21 :: .ref h22 :: .int v9 :: .int v10 :: .int v11 :: .int v12 :: .int v13 :: .int v14 :: .int v15 :: .int v16 :: .ref h23 :: .long v17 :: .long v18 :: .long v19 :: .long v20 :: []))), (h1, .inl (G.1, 60, .inl v21)), (h14, .inl (G.1, 1336, .inl f543))] H ∧ va_D A [(h0, .inr (10, (.int v1 :: .int v2 :: .ref h2 :: .ref h3 :: .ref h4 :: .ref h5 :: .ref h6 :: .ref h7 :: .ref h8 :: .ref h9 :: .ref h10 :: .ref h1 :: .int v3 :: .ref h11 :: .ref h12 :: .ref h13 :: .ref h14 :: .int v4 :: .int v5 :: .int 101 :: .ref h15 :: .ref h16 :: .ref h17 :: .int v6 :: .ref h18 :: .int v7 :: .ref h19 :: .ref h20 :: .int v8 :: .ref h21 :: .ref h22 :: .int v9 :: .int v10 :: .int v11 :: .int v12 :: .int v13 :: .int v14 :: .int v15 :: .int v16 :: .ref h23 :: .long v17 :: .long v18 :: .long v19 :: .long v20 :: []))), (h1, .inl (G.1, 60, .inl v21)), (h14, .inl (G.1, 1336, .inl f543))] := ⟨_, hP, hD⟩
  refine lv_aload_n hx hb dX10_write_19 rfl (lv_at hl 1 rfl) ?_
  refine lv_dup hx hb dX10_write_20 rfl ?_
  refine va_get (D := D) (ci := 10) (v := .int 101) (C := RX10) (T := TX10) (N := 44) hx hb hts inlX10 hown hK hP 0 rfl rfl 19 (by decide) (hts _ k_298) (fun _ h9 => h9) rfl dX10_write_21 ?_
  refine lv_iconst (v := 1) hx hb dX10_write_24 (by decide) ?_
  refine lv_iadd hx hb dX10_write_25 ?_
  refine ow_i (y := 102) (by decide) ?_
  refine va_put (D := D) (ci := 10) (v := .int 102) (ty := .int) (C := RX10) (T := TX10) (N := 44) hx hb hts inlX10 tyX10 tyX10_ok nmX10 hown hK hP hD hS 0 rfl rfl 19 (by decide) (hts _ k_298) (fun _ h9 => h9) rfl (tyX10_ok 19 (by decide)) rfl rfl (Nat.le_of_ble_eq_true rfl) dX10_write_26 (fun H locs hP hD hS => ?_)
  have hP : va_P D vwCl [(h0, .inr (10, (.int v1 :: .int v2 :: .ref h2 :: .ref h3 :: .ref h4 :: .ref h5 :: .ref h6 :: .ref h7 :: .ref h8 :: .ref h9 :: .ref h10 :: .ref h1 :: .int v3 :: .ref h11 :: .ref h12 :: .ref h13 :: .ref h14 :: .int v4 :: .int v5 :: .int 102 :: .ref h15 :: .ref h16 :: .ref h17 :: .int v6 :: .ref h18 :: .int v7 :: .ref h19 :: .ref h20 :: .int v8 :: .ref h21 :: .ref h22 :: .int v9 :: .int v10 :: .int v11 :: .int v12 :: .int v13 :: .int v14 :: .int v15 :: .int v16 :: .ref h23 :: .long v17 :: .long v18 :: .long v19 :: .long v20 :: []))), (h1, .inl (G.1, 60, .inl v21)), (h14, .inl (G.1, 1336, .inl f543))] H := hP
  have hD : va_D A [(h0, .inr (10, (.int v1 :: .int v2 :: .ref h2 :: .ref h3 :: .ref h4 :: .ref h5 :: .ref h6 :: .ref h7 :: .ref h8 :: .ref h9 :: .ref h10 :: .ref h1 :: .int v3 :: .ref h11 :: .ref h12 :: .ref h13 :: .ref h14 :: .int v4 :: .int v5 :: .int 102 :: .ref h15 :: .ref h16 :: .ref h17 :: .int v6 :: .ref h18 :: .int v7 :: .ref h19 :: .ref h20 :: .int v8 :: .ref h21 :: .ref h22 :: .int v9 :: .int v10 :: .int v11 :: .int v12 :: .int v13 :: .int v14 :: .int v15 :: .int v16 :: .ref h23 :: .long v17 :: .long v18 :: .long v19 :: .long v20 :: []))), (h1, .inl (G.1, 60, .inl v21)), (h14, .inl (G.1, 1336, .inl f543))] := hD
  refine lv_iinc (v := 10) (lv' := [(3, .int 10), (0, .ref h0), (1, .ref h1), (2, .int 60)]) hx hb dX10_write_29 hl (k := 0) rfl (by decide) (by decide) rfl (fun ls hl => ?_)
  refine lv_goto (tgt := 2) hx hb dX10_write_32 (by decide) ?_
  refine lv_iload_n hx hb dX10_write_2 rfl (lv_at hl 0 rfl) ?_
  refine lv_iload_n hx hb dX10_write_3 rfl (lv_at hl 3 rfl) ?_
  refine lv_icmp_ge (tgt := 35) hx hb dX10_write_4 (by decide) (fun h9 => absurd h9 (by decide)) (fun _ => ?_)
  refine lv_aload_n hx hb dX10_write_7 rfl (lv_at hl 1 rfl) ?_
  refine va_get (D := D) (ci := 10) (v := .ref h14) (C := RX10) (T := TX10) (N := 44) hx hb hts inlX10 hown hK hP 0 rfl rfl 16 (by decide) (hts _ k_105) (fun _ h9 => h9) rfl dX10_write_8 ?_
  refine lv_aload_n hx hb dX10_write_11 rfl (lv_at hl 1 rfl) ?_
  refine va_get (D := D) (ci := 10) (v := .int 102) (C := RX10) (T := TX10) (N := 44) hx hb hts inlX10 hown hK hP 0 rfl rfl 19 (by decide) (hts _ k_298) (fun _ h9 => h9) rfl dX10_write_12 ?_
  refine lv_aload_n hx hb dX10_write_15 rfl (lv_at hl 2 rfl) ?_
  refine lv_iload_n hx hb dX10_write_16 rfl (lv_at hl 0 rfl) ?_
  refine va_iald hx hb hK hP 1 0 rfl rfl (show ¬ ((10 : Int32) < 0 ∨ 60 ≤ (10 : Int32).toNatClampNeg) by decide) dX10_write_17 ?_
  refine lv_topi (fun x544 _ => ?_)
  refine va_iast hx hb hK hP hD hS 2 0 rfl rfl (show ¬ ((102 : Int32) < 0 ∨ 1336 ≤ (102 : Int32).toNatClampNeg) by decide) dX10_write_18 (fun H locs hP hD hS => ?_)
  obtain ⟨f545, hP, hD⟩ : ∃ f545, va_P D vwCl [(h0, .inr (10, (.int v1 :: .int v2 :: .ref h2 :: .ref h3 :: .ref h4 :: .ref h5 :: .ref h6 :: .ref h7 :: .ref h8 :: .ref h9 :: .ref h10 :: .ref h1 :: .int v3 :: .ref h11 :: .ref h12 :: .ref h13 :: .ref h14 :: .int v4 :: .int v5 :: .int 102 :: .ref h15 :: .ref h16 :: .ref h17 :: .int v6 :: .ref h18 :: .int v7 :: .ref h19 :: .ref h20 :: .int v8 :: .ref h21 :: .ref h22 :: .int v9 :: .int v10 :: .int v11 :: .int v12 :: .int v13 :: .int v14 :: .int v15 :: .int v16 :: .ref h23 :: .long v17 :: .long v18 :: .long v19 :: .long v20 :: []))), (h1, .inl (G.1, 60, .inl v21)), (h14, .inl (G.1, 1336, .inl f545))] H ∧ va_D A [(h0, .inr (10, (.int v1 :: .int v2 :: .ref h2 :: .ref h3 :: .ref h4 :: .ref h5 :: .ref h6 :: .ref h7 :: .ref h8 :: .ref h9 :: .ref h10 :: .ref h1 :: .int v3 :: .ref h11 :: .ref h12 :: .ref h13 :: .ref h14 :: .int v4 :: .int v5 :: .int 102 :: .ref h15 :: .ref h16 :: .ref h17 :: .int v6 :: .ref h18 :: .int v7 :: .ref h19 :: .ref h20 :: .int v8 :: .ref h21 :: .ref h22 :: .int v9 :: .int v10 :: .int v11 :: .int v12 :: .int v13 :: .int v14 :: .int v15 :: .int v16 :: .ref h23 :: .long v17 :: .long v18 :: .long v19 :: .long v20 :: []))), (h1, .inl (G.1, 60, .inl v21)), (h14, .inl (G.1, 1336, .inl f545))] := ⟨_, hP, hD⟩
  refine lv_aload_n hx hb dX10_write_19 rfl (lv_at hl 1 rfl) ?_
  refine lv_dup hx hb dX10_write_20 rfl ?_
  refine va_get (D := D) (ci := 10) (v := .int 102) (C := RX10) (T := TX10) (N := 44) hx hb hts inlX10 hown hK hP 0 rfl rfl 19 (by decide) (hts _ k_298) (fun _ h9 => h9) rfl dX10_write_21 ?_
  refine lv_iconst (v := 1) hx hb dX10_write_24 (by decide) ?_
  refine lv_iadd hx hb dX10_write_25 ?_
  refine ow_i (y := 103) (by decide) ?_
  refine va_put (D := D) (ci := 10) (v := .int 103) (ty := .int) (C := RX10) (T := TX10) (N := 44) hx hb hts inlX10 tyX10 tyX10_ok nmX10 hown hK hP hD hS 0 rfl rfl 19 (by decide) (hts _ k_298) (fun _ h9 => h9) rfl (tyX10_ok 19 (by decide)) rfl rfl (Nat.le_of_ble_eq_true rfl) dX10_write_26 (fun H locs hP hD hS => ?_)
  have hP : va_P D vwCl [(h0, .inr (10, (.int v1 :: .int v2 :: .ref h2 :: .ref h3 :: .ref h4 :: .ref h5 :: .ref h6 :: .ref h7 :: .ref h8 :: .ref h9 :: .ref h10 :: .ref h1 :: .int v3 :: .ref h11 :: .ref h12 :: .ref h13 :: .ref h14 :: .int v4 :: .int v5 :: .int 103 :: .ref h15 :: .ref h16 :: .ref h17 :: .int v6 :: .ref h18 :: .int v7 :: .ref h19 :: .ref h20 :: .int v8 :: .ref h21 :: .ref h22 :: .int v9 :: .int v10 :: .int v11 :: .int v12 :: .int v13 :: .int v14 :: .int v15 :: .int v16 :: .ref h23 :: .long v17 :: .long v18 :: .long v19 :: .long v20 :: []))), (h1, .inl (G.1, 60, .inl v21)), (h14, .inl (G.1, 1336, .inl f545))] H := hP
  have hD : va_D A [(h0, .inr (10, (.int v1 :: .int v2 :: .ref h2 :: .ref h3 :: .ref h4 :: .ref h5 :: .ref h6 :: .ref h7 :: .ref h8 :: .ref h9 :: .ref h10 :: .ref h1 :: .int v3 :: .ref h11 :: .ref h12 :: .ref h13 :: .ref h14 :: .int v4 :: .int v5 :: .int 103 :: .ref h15 :: .ref h16 :: .ref h17 :: .int v6 :: .ref h18 :: .int v7 :: .ref h19 :: .ref h20 :: .int v8 :: .ref h21 :: .ref h22 :: .int v9 :: .int v10 :: .int v11 :: .int v12 :: .int v13 :: .int v14 :: .int v15 :: .int v16 :: .ref h23 :: .long v17 :: .long v18 :: .long v19 :: .long v20 :: []))), (h1, .inl (G.1, 60, .inl v21)), (h14, .inl (G.1, 1336, .inl f545))] := hD
  refine lv_iinc (v := 11) (lv' := [(3, .int 11), (0, .ref h0), (1, .ref h1), (2, .int 60)]) hx hb dX10_write_29 hl (k := 0) rfl (by decide) (by decide) rfl (fun ls hl => ?_)
  refine lv_goto (tgt := 2) hx hb dX10_write_32 (by decide) ?_
  refine lv_iload_n hx hb dX10_write_2 rfl (lv_at hl 0 rfl) ?_
  refine lv_iload_n hx hb dX10_write_3 rfl (lv_at hl 3 rfl) ?_
  refine lv_icmp_ge (tgt := 35) hx hb dX10_write_4 (by decide) (fun h9 => absurd h9 (by decide)) (fun _ => ?_)
  refine lv_aload_n hx hb dX10_write_7 rfl (lv_at hl 1 rfl) ?_
  refine va_get (D := D) (ci := 10) (v := .ref h14) (C := RX10) (T := TX10) (N := 44) hx hb hts inlX10 hown hK hP 0 rfl rfl 16 (by decide) (hts _ k_105) (fun _ h9 => h9) rfl dX10_write_8 ?_
  refine lv_aload_n hx hb dX10_write_11 rfl (lv_at hl 1 rfl) ?_
  refine va_get (D := D) (ci := 10) (v := .int 103) (C := RX10) (T := TX10) (N := 44) hx hb hts inlX10 hown hK hP 0 rfl rfl 19 (by decide) (hts _ k_298) (fun _ h9 => h9) rfl dX10_write_12 ?_
  refine lv_aload_n hx hb dX10_write_15 rfl (lv_at hl 2 rfl) ?_
  refine lv_iload_n hx hb dX10_write_16 rfl (lv_at hl 0 rfl) ?_
  refine va_iald hx hb hK hP 1 0 rfl rfl (show ¬ ((11 : Int32) < 0 ∨ 60 ≤ (11 : Int32).toNatClampNeg) by decide) dX10_write_17 ?_
  refine lv_topi (fun x546 _ => ?_)
  refine va_iast hx hb hK hP hD hS 2 0 rfl rfl (show ¬ ((103 : Int32) < 0 ∨ 1336 ≤ (103 : Int32).toNatClampNeg) by decide) dX10_write_18 (fun H locs hP hD hS => ?_)
  obtain ⟨f547, hP, hD⟩ : ∃ f547, va_P D vwCl [(h0, .inr (10, (.int v1 :: .int v2 :: .ref h2 :: .ref h3 :: .ref h4 :: .ref h5 :: .ref h6 :: .ref h7 :: .ref h8 :: .ref h9 :: .ref h10 :: .ref h1 :: .int v3 :: .ref h11 :: .ref h12 :: .ref h13 :: .ref h14 :: .int v4 :: .int v5 :: .int 103 :: .ref h15 :: .ref h16 :: .ref h17 :: .int v6 :: .ref h18 :: .int v7 :: .ref h19 :: .ref h20 :: .int v8 :: .ref h21 :: .ref h22 :: .int v9 :: .int v10 :: .int v11 :: .int v12 :: .int v13 :: .int v14 :: .int v15 :: .int v16 :: .ref h23 :: .long v17 :: .long v18 :: .long v19 :: .long v20 :: []))), (h1, .inl (G.1, 60, .inl v21)), (h14, .inl (G.1, 1336, .inl f547))] H ∧ va_D A [(h0, .inr (10, (.int v1 :: .int v2 :: .ref h2 :: .ref h3 :: .ref h4 :: .ref h5 :: .ref h6 :: .ref h7 :: .ref h8 :: .ref h9 :: .ref h10 :: .ref h1 :: .int v3 :: .ref h11 :: .ref h12 :: .ref h13 :: .ref h14 :: .int v4 :: .int v5 :: .int 103 :: .ref h15 :: .ref h16 :: .ref h17 :: .int v6 :: .ref h18 :: .int v7 :: .ref h19 :: .ref h20 :: .int v8 :: .ref h21 :: .ref h22 :: .int v9 :: .int v10 :: .int v11 :: .int v12 :: .int v13 :: .int v14 :: .int v15 :: .int v16 :: .ref h23 :: .long v17 :: .long v18 :: .long v19 :: .long v20 :: []))), (h1, .inl (G.1, 60, .inl v21)), (h14, .inl (G.1, 1336, .inl f547))] := ⟨_, hP, hD⟩
  refine lv_aload_n hx hb dX10_write_19 rfl (lv_at hl 1 rfl) ?_
  refine lv_dup hx hb dX10_write_20 rfl ?_
  refine va_get (D := D) (ci := 10) (v := .int 103) (C := RX10) (T := TX10) (N := 44) hx hb hts inlX10 hown hK hP 0 rfl rfl 19 (by decide) (hts _ k_298) (fun _ h9 => h9) rfl dX10_write_21 ?_
  refine lv_iconst (v := 1) hx hb dX10_write_24 (by decide) ?_
  refine lv_iadd hx hb dX10_write_25 ?_
  refine ow_i (y := 104) (by decide) ?_
  refine va_put (D := D) (ci := 10) (v := .int 104) (ty := .int) (C := RX10) (T := TX10) (N := 44) hx hb hts inlX10 tyX10 tyX10_ok nmX10 hown hK hP hD hS 0 rfl rfl 19 (by decide) (hts _ k_298) (fun _ h9 => h9) rfl (tyX10_ok 19 (by decide)) rfl rfl (Nat.le_of_ble_eq_true rfl) dX10_write_26 (fun H locs hP hD hS => ?_)
  have hP : va_P D vwCl [(h0, .inr (10, (.int v1 :: .int v2 :: .ref h2 :: .ref h3 :: .ref h4 :: .ref h5 :: .ref h6 :: .ref h7 :: .ref h8 :: .ref h9 :: .ref h10 :: .ref h1 :: .int v3 :: .ref h11 :: .ref h12 :: .ref h13 :: .ref h14 :: .int v4 :: .int v5 :: .int 104 :: .ref h15 :: .ref h16 :: .ref h17 :: .int v6 :: .ref h18 :: .int v7 :: .ref h19 :: .ref h20 :: .int v8 :: .ref h21 :: .ref h22 :: .int v9 :: .int v10 :: .int v11 :: .int v12 :: .int v13 :: .int v14 :: .int v15 :: .int v16 :: .ref h23 :: .long v17 :: .long v18 :: .long v19 :: .long v20 :: []))), (h1, .inl (G.1, 60, .inl v21)), (h14, .inl (G.1, 1336, .inl f547))] H := hP
  have hD : va_D A [(h0, .inr (10, (.int v1 :: .int v2 :: .ref h2 :: .ref h3 :: .ref h4 :: .ref h5 :: .ref h6 :: .ref h7 :: .ref h8 :: .ref h9 :: .ref h10 :: .ref h1 :: .int v3 :: .ref h11 :: .ref h12 :: .ref h13 :: .ref h14 :: .int v4 :: .int v5 :: .int 104 :: .ref h15 :: .ref h16 :: .ref h17 :: .int v6 :: .ref h18 :: .int v7 :: .ref h19 :: .ref h20 :: .int v8 :: .ref h21 :: .ref h22 :: .int v9 :: .int v10 :: .int v11 :: .int v12 :: .int v13 :: .int v14 :: .int v15 :: .int v16 :: .ref h23 :: .long v17 :: .long v18 :: .long v19 :: .long v20 :: []))), (h1, .inl (G.1, 60, .inl v21)), (h14, .inl (G.1, 1336, .inl f547))] := hD
  refine lv_iinc (v := 12) (lv' := [(3, .int 12), (0, .ref h0), (1, .ref h1), (2, .int 60)]) hx hb dX10_write_29 hl (k := 0) rfl (by decide) (by decide) rfl (fun ls hl => ?_)
  refine lv_goto (tgt := 2) hx hb dX10_write_32 (by decide) ?_
  refine lv_iload_n hx hb dX10_write_2 rfl (lv_at hl 0 rfl) ?_
  refine lv_iload_n hx hb dX10_write_3 rfl (lv_at hl 3 rfl) ?_
  refine lv_icmp_ge (tgt := 35) hx hb dX10_write_4 (by decide) (fun h9 => absurd h9 (by decide)) (fun _ => ?_)
  refine lv_aload_n hx hb dX10_write_7 rfl (lv_at hl 1 rfl) ?_
  refine va_get (D := D) (ci := 10) (v := .ref h14) (C := RX10) (T := TX10) (N := 44) hx hb hts inlX10 hown hK hP 0 rfl rfl 16 (by decide) (hts _ k_105) (fun _ h9 => h9) rfl dX10_write_8 ?_
  refine lv_aload_n hx hb dX10_write_11 rfl (lv_at hl 1 rfl) ?_
  refine va_get (D := D) (ci := 10) (v := .int 104) (C := RX10) (T := TX10) (N := 44) hx hb hts inlX10 hown hK hP 0 rfl rfl 19 (by decide) (hts _ k_298) (fun _ h9 => h9) rfl dX10_write_12 ?_
  refine lv_aload_n hx hb dX10_write_15 rfl (lv_at hl 2 rfl) ?_
  refine lv_iload_n hx hb dX10_write_16 rfl (lv_at hl 0 rfl) ?_
  refine va_iald hx hb hK hP 1 0 rfl rfl (show ¬ ((12 : Int32) < 0 ∨ 60 ≤ (12 : Int32).toNatClampNeg) by decide) dX10_write_17 ?_
  refine lv_topi (fun x548 _ => ?_)
  refine va_iast hx hb hK hP hD hS 2 0 rfl rfl (show ¬ ((104 : Int32) < 0 ∨ 1336 ≤ (104 : Int32).toNatClampNeg) by decide) dX10_write_18 (fun H locs hP hD hS => ?_)
  obtain ⟨f549, hP, hD⟩ : ∃ f549, va_P D vwCl [(h0, .inr (10, (.int v1 :: .int v2 :: .ref h2 :: .ref h3 :: .ref h4 :: .ref h5 :: .ref h6 :: .ref h7 :: .ref h8 :: .ref h9 :: .ref h10 :: .ref h1 :: .int v3 :: .ref h11 :: .ref h12 :: .ref h13 :: .ref h14 :: .int v4 :: .int v5 :: .int 104 :: .ref h15 :: .ref h16 :: .ref h17 :: .int v6 :: .ref h18 :: .int v7 :: .ref h19 :: .ref h20 :: .int v8 :: .ref h21 :: .ref h22 :: .int v9 :: .int v10 :: .int v11 :: .int v12 :: .int v13 :: .int v14 :: .int v15 :: .int v16 :: .ref h23 :: .long v17 :: .long v18 :: .long v19 :: .long v20 :: []))), (h1, .inl (G.1, 60, .inl v21)), (h14, .inl (G.1, 1336, .inl f549))] H ∧ va_D A [(h0, .inr (10, (.int v1 :: .int v2 :: .ref h2 :: .ref h3 :: .ref h4 :: .ref h5 :: .ref h6 :: .ref h7 :: .ref h8 :: .ref h9 :: .ref h10 :: .ref h1 :: .int v3 :: .ref h11 :: .ref h12 :: .ref h13 :: .ref h14 :: .int v4 :: .int v5 :: .int 104 :: .ref h15 :: .ref h16 :: .ref h17 :: .int v6 :: .ref h18 :: .int v7 :: .ref h19 :: .ref h20 :: .int v8 :: .ref h21 :: .ref h22 :: .int v9 :: .int v10 :: .int v11 :: .int v12 :: .int v13 :: .int v14 :: .int v15 :: .int v16 :: .ref h23 :: .long v17 :: .long v18 :: .long v19 :: .long v20 :: []))), (h1, .inl (G.1, 60, .inl v21)), (h14, .inl (G.1, 1336, .inl f549))] := ⟨_, hP, hD⟩
  refine lv_aload_n hx hb dX10_write_19 rfl (lv_at hl 1 rfl) ?_
  refine lv_dup hx hb dX10_write_20 rfl ?_
  refine va_get (D := D) (ci := 10) (v := .int 104) (C := RX10) (T := TX10) (N := 44) hx hb hts inlX10 hown hK hP 0 rfl rfl 19 (by decide) (hts _ k_298) (fun _ h9 => h9) rfl dX10_write_21 ?_
  refine lv_iconst (v := 1) hx hb dX10_write_24 (by decide) ?_
  refine lv_iadd hx hb dX10_write_25 ?_
  refine ow_i (y := 105) (by decide) ?_
  refine va_put (D := D) (ci := 10) (v := .int 105) (ty := .int) (C := RX10) (T := TX10) (N := 44) hx hb hts inlX10 tyX10 tyX10_ok nmX10 hown hK hP hD hS 0 rfl rfl 19 (by decide) (hts _ k_298) (fun _ h9 => h9) rfl (tyX10_ok 19 (by decide)) rfl rfl (Nat.le_of_ble_eq_true rfl) dX10_write_26 (fun H locs hP hD hS => ?_)
  have hP : va_P D vwCl [(h0, .inr (10, (.int v1 :: .int v2 :: .ref h2 :: .ref h3 :: .ref h4 :: .ref h5 :: .ref h6 :: .ref h7 :: .ref h8 :: .ref h9 :: .ref h10 :: .ref h1 :: .int v3 :: .ref h11 :: .ref h12 :: .ref h13 :: .ref h14 :: .int v4 :: .int v5 :: .int 105 :: .ref h15 :: .ref h16 :: .ref h17 :: .int v6 :: .ref h18 :: .int v7 :: .ref h19 :: .ref h20 :: .int v8 :: .ref h21 :: .ref h22 :: .int v9 :: .int v10 :: .int v11 :: .int v12 :: .int v13 :: .int v14 :: .int v15 :: .int v16 :: .ref h23 :: .long v17 :: .long v18 :: .long v19 :: .long v20 :: []))), (h1, .inl (G.1, 60, .inl v21)), (h14, .inl (G.1, 1336, .inl f549))] H := hP
  have hD : va_D A [(h0, .inr (10, (.int v1 :: .int v2 :: .ref h2 :: .ref h3 :: .ref h4 :: .ref h5 :: .ref h6 :: .ref h7 :: .ref h8 :: .ref h9 :: .ref h10 :: .ref h1 :: .int v3 :: .ref h11 :: .ref h12 :: .ref h13 :: .ref h14 :: .int v4 :: .int v5 :: .int 105 :: .ref h15 :: .ref h16 :: .ref h17 :: .int v6 :: .ref h18 :: .int v7 :: .ref h19 :: .ref h20 :: .int v8 :: .ref h21 :: .ref h22 :: .int v9 :: .int v10 :: .int v11 :: .int v12 :: .int v13 :: .int v14 :: .int v15 :: .int v16 :: .ref h23 :: .long v17 :: .long v18 :: .long v19 :: .long v20 :: []))), (h1, .inl (G.1, 60, .inl v21)), (h14, .inl (G.1, 1336, .inl f549))] := hD
  refine lv_iinc (v := 13) (lv' := [(3, .int 13), (0, .ref h0), (1, .ref h1), (2, .int 60)]) hx hb dX10_write_29 hl (k := 0) rfl (by decide) (by decide) rfl (fun ls hl => ?_)
  refine lv_goto (tgt := 2) hx hb dX10_write_32 (by decide) ?_
  refine lv_iload_n hx hb dX10_write_2 rfl (lv_at hl 0 rfl) ?_
  refine lv_iload_n hx hb dX10_write_3 rfl (lv_at hl 3 rfl) ?_
  refine lv_icmp_ge (tgt := 35) hx hb dX10_write_4 (by decide) (fun h9 => absurd h9 (by decide)) (fun _ => ?_)
  refine lv_aload_n hx hb dX10_write_7 rfl (lv_at hl 1 rfl) ?_
  refine va_get (D := D) (ci := 10) (v := .ref h14) (C := RX10) (T := TX10) (N := 44) hx hb hts inlX10 hown hK hP 0 rfl rfl 16 (by decide) (hts _ k_105) (fun _ h9 => h9) rfl dX10_write_8 ?_
  refine lv_aload_n hx hb dX10_write_11 rfl (lv_at hl 1 rfl) ?_
  refine va_get (D := D) (ci := 10) (v := .int 105) (C := RX10) (T := TX10) (N := 44) hx hb hts inlX10 hown hK hP 0 rfl rfl 19 (by decide) (hts _ k_298) (fun _ h9 => h9) rfl dX10_write_12 ?_
  refine lv_aload_n hx hb dX10_write_15 rfl (lv_at hl 2 rfl) ?_
  refine lv_iload_n hx hb dX10_write_16 rfl (lv_at hl 0 rfl) ?_
  refine va_iald hx hb hK hP 1 0 rfl rfl (show ¬ ((13 : Int32) < 0 ∨ 60 ≤ (13 : Int32).toNatClampNeg) by decide) dX10_write_17 ?_
  refine lv_topi (fun x550 _ => ?_)
  refine va_iast hx hb hK hP hD hS 2 0 rfl rfl (show ¬ ((105 : Int32) < 0 ∨ 1336 ≤ (105 : Int32).toNatClampNeg) by decide) dX10_write_18 (fun H locs hP hD hS => ?_)
  obtain ⟨f551, hP, hD⟩ : ∃ f551, va_P D vwCl [(h0, .inr (10, (.int v1 :: .int v2 :: .ref h2 :: .ref h3 :: .ref h4 :: .ref h5 :: .ref h6 :: .ref h7 :: .ref h8 :: .ref h9 :: .ref h10 :: .ref h1 :: .int v3 :: .ref h11 :: .ref h12 :: .ref h13 :: .ref h14 :: .int v4 :: .int v5 :: .int 105 :: .ref h15 :: .ref h16 :: .ref h17 :: .int v6 :: .ref h18 :: .int v7 :: .ref h19 :: .ref h20 :: .int v8 :: .ref h21 :: .ref h22 :: .int v9 :: .int v10 :: .int v11 :: .int v12 :: .int v13 :: .int v14 :: .int v15 :: .int v16 :: .ref h23 :: .long v17 :: .long v18 :: .long v19 :: .long v20 :: []))), (h1, .inl (G.1, 60, .inl v21)), (h14, .inl (G.1, 1336, .inl f551))] H ∧ va_D A [(h0, .inr (10, (.int v1 :: .int v2 :: .ref h2 :: .ref h3 :: .ref h4 :: .ref h5 :: .ref h6 :: .ref h7 :: .ref h8 :: .ref h9 :: .ref h10 :: .ref h1 :: .int v3 :: .ref h11 :: .ref h12 :: .ref h13 :: .ref h14 :: .int v4 :: .int v5 :: .int 105 :: .ref h15 :: .ref h16 :: .ref h17 :: .int v6 :: .ref h18 :: .int v7 :: .ref h19 :: .ref h20 :: .int v8 :: .ref h21 :: .ref h22 :: .int v9 :: .int v10 :: .int v11 :: .int v12 :: .int v13 :: .int v14 :: .int v15 :: .int v16 :: .ref h23 :: .long v17 :: .long v18 :: .long v19 :: .long v20 :: []))), (h1, .inl (G.1, 60, .inl v21)), (h14, .inl (G.1, 1336, .inl f551))] := ⟨_, hP, hD⟩
  refine lv_aload_n hx hb dX10_write_19 rfl (lv_at hl 1 rfl) ?_
  refine lv_dup hx hb dX10_write_20 rfl ?_
  refine va_get (D := D) (ci := 10) (v := .int 105) (C := RX10) (T := TX10) (N := 44) hx hb hts inlX10 hown hK hP 0 rfl rfl 19 (by decide) (hts _ k_298) (fun _ h9 => h9) rfl dX10_write_21 ?_
  refine lv_iconst (v := 1) hx hb dX10_write_24 (by decide) ?_
  refine lv_iadd hx hb dX10_write_25 ?_
  refine ow_i (y := 106) (by decide) ?_
  refine va_put (D := D) (ci := 10) (v := .int 106) (ty := .int) (C := RX10) (T := TX10) (N := 44) hx hb hts inlX10 tyX10 tyX10_ok nmX10 hown hK hP hD hS 0 rfl rfl 19 (by decide) (hts _ k_298) (fun _ h9 => h9) rfl (tyX10_ok 19 (by decide)) rfl rfl (Nat.le_of_ble_eq_true rfl) dX10_write_26 (fun H locs hP hD hS => ?_)
  have hP : va_P D vwCl [(h0, .inr (10, (.int v1 :: .int v2 :: .ref h2 :: .ref h3 :: .ref h4 :: .ref h5 :: .ref h6 :: .ref h7 :: .ref h8 :: .ref h9 :: .ref h10 :: .ref h1 :: .int v3 :: .ref h11 :: .ref h12 :: .ref h13 :: .ref h14 :: .int v4 :: .int v5 :: .int 106 :: .ref h15 :: .ref h16 :: .ref h17 :: .int v6 :: .ref h18 :: .int v7 :: .ref h19 :: .ref h20 :: .int v8 :: .ref h21 :: .ref h22 :: .int v9 :: .int v10 :: .int v11 :: .int v12 :: .int v13 :: .int v14 :: .int v15 :: .int v16 :: .ref h23 :: .long v17 :: .long v18 :: .long v19 :: .long v20 :: []))), (h1, .inl (G.1, 60, .inl v21)), (h14, .inl (G.1, 1336, .inl f551))] H := hP
  have hD : va_D A [(h0, .inr (10, (.int v1 :: .int v2 :: .ref h2 :: .ref h3 :: .ref h4 :: .ref h5 :: .ref h6 :: .ref h7 :: .ref h8 :: .ref h9 :: .ref h10 :: .ref h1 :: .int v3 :: .ref h11 :: .ref h12 :: .ref h13 :: .ref h14 :: .int v4 :: .int v5 :: .int 106 :: .ref h15 :: .ref h16 :: .ref h17 :: .int v6 :: .ref h18 :: .int v7 :: .ref h19 :: .ref h20 :: .int v8 :: .ref h21 :: .ref h22 :: .int v9 :: .int v10 :: .int v11 :: .int v12 :: .int v13 :: .int v14 :: .int v15 :: .int v16 :: .ref h23 :: .long v17 :: .long v18 :: .long v19 :: .long v20 :: []))), (h1, .inl (G.1, 60, .inl v21)), (h14, .inl (G.1, 1336, .inl f551))] := hD
  refine lv_iinc (v := 14) (lv' := [(3, .int 14), (0, .ref h0), (1, .ref h1), (2, .int 60)]) hx hb dX10_write_29 hl (k := 0) rfl (by decide) (by decide) rfl (fun ls hl => ?_)
  refine lv_goto (tgt := 2) hx hb dX10_write_32 (by decide) ?_
  refine lv_iload_n hx hb dX10_write_2 rfl (lv_at hl 0 rfl) ?_
  refine lv_iload_n hx hb dX10_write_3 rfl (lv_at hl 3 rfl) ?_
  refine lv_icmp_ge (tgt := 35) hx hb dX10_write_4 (by decide) (fun h9 => absurd h9 (by decide)) (fun _ => ?_)
  refine lv_aload_n hx hb dX10_write_7 rfl (lv_at hl 1 rfl) ?_
  refine va_get (D := D) (ci := 10) (v := .ref h14) (C := RX10) (T := TX10) (N := 44) hx hb hts inlX10 hown hK hP 0 rfl rfl 16 (by decide) (hts _ k_105) (fun _ h9 => h9) rfl dX10_write_8 ?_
  refine lv_aload_n hx hb dX10_write_11 rfl (lv_at hl 1 rfl) ?_
  refine va_get (D := D) (ci := 10) (v := .int 106) (C := RX10) (T := TX10) (N := 44) hx hb hts inlX10 hown hK hP 0 rfl rfl 19 (by decide) (hts _ k_298) (fun _ h9 => h9) rfl dX10_write_12 ?_
  refine lv_aload_n hx hb dX10_write_15 rfl (lv_at hl 2 rfl) ?_
  refine lv_iload_n hx hb dX10_write_16 rfl (lv_at hl 0 rfl) ?_
  refine va_iald hx hb hK hP 1 0 rfl rfl (show ¬ ((14 : Int32) < 0 ∨ 60 ≤ (14 : Int32).toNatClampNeg) by decide) dX10_write_17 ?_
  refine lv_topi (fun x552 _ => ?_)
  refine va_iast hx hb hK hP hD hS 2 0 rfl rfl (show ¬ ((106 : Int32) < 0 ∨ 1336 ≤ (106 : Int32).toNatClampNeg) by decide) dX10_write_18 (fun H locs hP hD hS => ?_)
  obtain ⟨f553, hP, hD⟩ : ∃ f553, va_P D vwCl [(h0, .inr (10, (.int v1 :: .int v2 :: .ref h2 :: .ref h3 :: .ref h4 :: .ref h5 :: .ref h6 :: .ref h7 :: .ref h8 :: .ref h9 :: .ref h10 :: .ref h1 :: .int v3 :: .ref h11 :: .ref h12 :: .ref h13 :: .ref h14 :: .int v4 :: .int v5 :: .int 106 :: .ref h15 :: .ref h16 :: .ref h17 :: .int v6 :: .ref h18 :: .int v7 :: .ref h19 :: .ref h20 :: .int v8 :: .ref h21 :: .ref h22 :: .int v9 :: .int v10 :: .int v11 :: .int v12 :: .int v13 :: .int v14 :: .int v15 :: .int v16 :: .ref h23 :: .long v17 :: .long v18 :: .long v19 :: .long v20 :: []))), (h1, .inl (G.1, 60, .inl v21)), (h14, .inl (G.1, 1336, .inl f553))] H ∧ va_D A [(h0, .inr (10, (.int v1 :: .int v2 :: .ref h2 :: .ref h3 :: .ref h4 :: .ref h5 :: .ref h6 :: .ref h7 :: .ref h8 :: .ref h9 :: .ref h10 :: .ref h1 :: .int v3 :: .ref h11 :: .ref h12 :: .ref h13 :: .ref h14 :: .int v4 :: .int v5 :: .int 106 :: .ref h15 :: .ref h16 :: .ref h17 :: .int v6 :: .ref h18 :: .int v7 :: .ref h19 :: .ref h20 :: .int v8 :: .ref h21 :: .ref h22 :: .int v9 :: .int v10 :: .int v11 :: .int v12 :: .int v13 :: .int v14 :: .int v15 :: .int v16 :: .ref h23 :: .long v17 :: .long v18 :: .long v19 :: .long v20 :: []))), (h1, .inl (G.1, 60, .inl v21)), (h14, .inl (G.1, 1336, .inl f553))] := ⟨_, hP, hD⟩
  refine lv_aload_n hx hb dX10_write_19 rfl (lv_at hl 1 rfl) ?_
  refine lv_dup hx hb dX10_write_20 rfl ?_
  refine va_get (D := D) (ci := 10) (v := .int 106) (C := RX10) (T := TX10) (N := 44) hx hb hts inlX10 hown hK hP 0 rfl rfl 19 (by decide) (hts _ k_298) (fun _ h9 => h9) rfl dX10_write_21 ?_
  refine lv_iconst (v := 1) hx hb dX10_write_24 (by decide) ?_
  refine lv_iadd hx hb dX10_write_25 ?_
  refine ow_i (y := 107) (by decide) ?_
  refine va_put (D := D) (ci := 10) (v := .int 107) (ty := .int) (C := RX10) (T := TX10) (N := 44) hx hb hts inlX10 tyX10 tyX10_ok nmX10 hown hK hP hD hS 0 rfl rfl 19 (by decide) (hts _ k_298) (fun _ h9 => h9) rfl (tyX10_ok 19 (by decide)) rfl rfl (Nat.le_of_ble_eq_true rfl) dX10_write_26 (fun H locs hP hD hS => ?_)
  have hP : va_P D vwCl [(h0, .inr (10, (.int v1 :: .int v2 :: .ref h2 :: .ref h3 :: .ref h4 :: .ref h5 :: .ref h6 :: .ref h7 :: .ref h8 :: .ref h9 :: .ref h10 :: .ref h1 :: .int v3 :: .ref h11 :: .ref h12 :: .ref h13 :: .ref h14 :: .int v4 :: .int v5 :: .int 107 :: .ref h15 :: .ref h16 :: .ref h17 :: .int v6 :: .ref h18 :: .int v7 :: .ref h19 :: .ref h20 :: .int v8 :: .ref h21 :: .ref h22 :: .int v9 :: .int v10 :: .int v11 :: .int v12 :: .int v13 :: .int v14 :: .int v15 :: .int v16 :: .ref h23 :: .long v17 :: .long v18 :: .long v19 :: .long v20 :: []))), (h1, .inl (G.1, 60, .inl v21)), (h14, .inl (G.1, 1336, .inl f553))] H := hP
  have hD : va_D A [(h0, .inr (10, (.int v1 :: .int v2 :: .ref h2 :: .ref h3 :: .ref h4 :: .ref h5 :: .ref h6 :: .ref h7 :: .ref h8 :: .ref h9 :: .ref h10 :: .ref h1 :: .int v3 :: .ref h11 :: .ref h12 :: .ref h13 :: .ref h14 :: .int v4 :: .int v5 :: .int 107 :: .ref h15 :: .ref h16 :: .ref h17 :: .int v6 :: .ref h18 :: .int v7 :: .ref h19 :: .ref h20 :: .int v8 :: .ref h21 :: .ref h22 :: .int v9 :: .int v10 :: .int v11 :: .int v12 :: .int v13 :: .int v14 :: .int v15 :: .int v16 :: .ref h23 :: .long v17 :: .long v18 :: .long v19 :: .long v20 :: []))), (h1, .inl (G.1, 60, .inl v21)), (h14, .inl (G.1, 1336, .inl f553))] := hD
  refine lv_iinc (v := 15) (lv' := [(3, .int 15), (0, .ref h0), (1, .ref h1), (2, .int 60)]) hx hb dX10_write_29 hl (k := 0) rfl (by decide) (by decide) rfl (fun ls hl => ?_)
  refine lv_goto (tgt := 2) hx hb dX10_write_32 (by decide) ?_
  refine lv_iload_n hx hb dX10_write_2 rfl (lv_at hl 0 rfl) ?_
  refine lv_iload_n hx hb dX10_write_3 rfl (lv_at hl 3 rfl) ?_
  refine lv_icmp_ge (tgt := 35) hx hb dX10_write_4 (by decide) (fun h9 => absurd h9 (by decide)) (fun _ => ?_)
  refine lv_aload_n hx hb dX10_write_7 rfl (lv_at hl 1 rfl) ?_
  refine va_get (D := D) (ci := 10) (v := .ref h14) (C := RX10) (T := TX10) (N := 44) hx hb hts inlX10 hown hK hP 0 rfl rfl 16 (by decide) (hts _ k_105) (fun _ h9 => h9) rfl dX10_write_8 ?_
  refine lv_aload_n hx hb dX10_write_11 rfl (lv_at hl 1 rfl) ?_
  refine va_get (D := D) (ci := 10) (v := .int 107) (C := RX10) (T := TX10) (N := 44) hx hb hts inlX10 hown hK hP 0 rfl rfl 19 (by decide) (hts _ k_298) (fun _ h9 => h9) rfl dX10_write_12 ?_
  refine lv_aload_n hx hb dX10_write_15 rfl (lv_at hl 2 rfl) ?_
  refine lv_iload_n hx hb dX10_write_16 rfl (lv_at hl 0 rfl) ?_
  refine va_iald hx hb hK hP 1 0 rfl rfl (show ¬ ((15 : Int32) < 0 ∨ 60 ≤ (15 : Int32).toNatClampNeg) by decide) dX10_write_17 ?_
  refine lv_topi (fun x554 _ => ?_)
  refine va_iast hx hb hK hP hD hS 2 0 rfl rfl (show ¬ ((107 : Int32) < 0 ∨ 1336 ≤ (107 : Int32).toNatClampNeg) by decide) dX10_write_18 (fun H locs hP hD hS => ?_)
  obtain ⟨f555, hP, hD⟩ : ∃ f555, va_P D vwCl [(h0, .inr (10, (.int v1 :: .int v2 :: .ref h2 :: .ref h3 :: .ref h4 :: .ref h5 :: .ref h6 :: .ref h7 :: .ref h8 :: .ref h9 :: .ref h10 :: .ref h1 :: .int v3 :: .ref h11 :: .ref h12 :: .ref h13 :: .ref h14 :: .int v4 :: .int v5 :: .int 107 :: .ref h15 :: .ref h16 :: .ref h17 :: .int v6 :: .ref h18 :: .int v7 :: .ref h19 :: .ref h20 :: .int v8 :: .ref h21 :: .ref h22 :: .int v9 :: .int v10 :: .int v11 :: .int v12 :: .int v13 :: .int v14 :: .int v15 :: .int v16 :: .ref h23 :: .long v17 :: .long v18 :: .long v19 :: .long v20 :: []))), (h1, .inl (G.1, 60, .inl v21)), (h14, .inl (G.1, 1336, .inl f555))] H ∧ va_D A [(h0, .inr (10, (.int v1 :: .int v2 :: .ref h2 :: .ref h3 :: .ref h4 :: .ref h5 :: .ref h6 :: .ref h7 :: .ref h8 :: .ref h9 :: .ref h10 :: .ref h1 :: .int v3 :: .ref h11 :: .ref h12 :: .ref h13 :: .ref h14 :: .int v4 :: .int v5 :: .int 107 :: .ref h15 :: .ref h16 :: .ref h17 :: .int v6 :: .ref h18 :: .int v7 :: .ref h19 :: .ref h20 :: .int v8 :: .ref h21 :: .ref h22 :: .int v9 :: .int v10 :: .int v11 :: .int v12 :: .int v13 :: .int v14 :: .int v15 :: .int v16 :: .ref h23 :: .long v17 :: .long v18 :: .long v19 :: .long v20 :: []))), (h1, .inl (G.1, 60, .inl v21)), (h14, .inl (G.1, 1336, .inl f555))] := ⟨_, hP, hD⟩
  refine lv_aload_n hx hb dX10_write_19 rfl (lv_at hl 1 rfl) ?_
  refine lv_dup hx hb dX10_write_20 rfl ?_
  refine va_get (D := D) (ci := 10) (v := .int 107) (C := RX10) (T := TX10) (N := 44) hx hb hts inlX10 hown hK hP 0 rfl rfl 19 (by decide) (hts _ k_298) (fun _ h9 => h9) rfl dX10_write_21 ?_
  refine lv_iconst (v := 1) hx hb dX10_write_24 (by decide) ?_
  refine lv_iadd hx hb dX10_write_25 ?_
  refine ow_i (y := 108) (by decide) ?_
  refine va_put (D := D) (ci := 10) (v := .int 108) (ty := .int) (C := RX10) (T := TX10) (N := 44) hx hb hts inlX10 tyX10 tyX10_ok nmX10 hown hK hP hD hS 0 rfl rfl 19 (by decide) (hts _ k_298) (fun _ h9 => h9) rfl (tyX10_ok 19 (by decide)) rfl rfl (Nat.le_of_ble_eq_true rfl) dX10_write_26 (fun H locs hP hD hS => ?_)
  have hP : va_P D vwCl [(h0, .inr (10, (.int v1 :: .int v2 :: .ref h2 :: .ref h3 :: .ref h4 :: .ref h5 :: .ref h6 :: .ref h7 :: .ref h8 :: .ref h9 :: .ref h10 :: .ref h1 :: .int v3 :: .ref h11 :: .ref h12 :: .ref h13 :: .ref h14 :: .int v4 :: .int v5 :: .int 108 :: .ref h15 :: .ref h16 :: .ref h17 :: .int v6 :: .ref h18 :: .int v7 :: .ref h19 :: .ref h20 :: .int v8 :: .ref h21 :: .ref h22 :: .int v9 :: .int v10 :: .int v11 :: .int v12 :: .int v13 :: .int v14 :: .int v15 :: .int v16 :: .ref h23 :: .long v17 :: .long v18 :: .long v19 :: .long v20 :: []))), (h1, .inl (G.1, 60, .inl v21)), (h14, .inl (G.1, 1336, .inl f555))] H := hP
  have hD : va_D A [(h0, .inr (10, (.int v1 :: .int v2 :: .ref h2 :: .ref h3 :: .ref h4 :: .ref h5 :: .ref h6 :: .ref h7 :: .ref h8 :: .ref h9 :: .ref h10 :: .ref h1 :: .int v3 :: .ref h11 :: .ref h12 :: .ref h13 :: .ref h14 :: .int v4 :: .int v5 :: .int 108 :: .ref h15 :: .ref h16 :: .ref h17 :: .int v6 :: .ref h18 :: .int v7 :: .ref h19 :: .ref h20 :: .int v8 :: .ref h21 :: .ref h22 :: .int v9 :: .int v10 :: .int v11 :: .int v12 :: .int v13 :: .int v14 :: .int v15 :: .int v16 :: .ref h23 :: .long v17 :: .long v18 :: .long v19 :: .long v20 :: []))), (h1, .inl (G.1, 60, .inl v21)), (h14, .inl (G.1, 1336, .inl f555))] := hD
  refine lv_iinc (v := 16) (lv' := [(3, .int 16), (0, .ref h0), (1, .ref h1), (2, .int 60)]) hx hb dX10_write_29 hl (k := 0) rfl (by decide) (by decide) rfl (fun ls hl => ?_)
  refine lv_goto (tgt := 2) hx hb dX10_write_32 (by decide) ?_
  refine lv_iload_n hx hb dX10_write_2 rfl (lv_at hl 0 rfl) ?_
  refine lv_iload_n hx hb dX10_write_3 rfl (lv_at hl 3 rfl) ?_
  refine lv_icmp_ge (tgt := 35) hx hb dX10_write_4 (by decide) (fun h9 => absurd h9 (by decide)) (fun _ => ?_)
  refine lv_aload_n hx hb dX10_write_7 rfl (lv_at hl 1 rfl) ?_
  refine va_get (D := D) (ci := 10) (v := .ref h14) (C := RX10) (T := TX10) (N := 44) hx hb hts inlX10 hown hK hP 0 rfl rfl 16 (by decide) (hts _ k_105) (fun _ h9 => h9) rfl dX10_write_8 ?_
  refine lv_aload_n hx hb dX10_write_11 rfl (lv_at hl 1 rfl) ?_
  refine va_get (D := D) (ci := 10) (v := .int 108) (C := RX10) (T := TX10) (N := 44) hx hb hts inlX10 hown hK hP 0 rfl rfl 19 (by decide) (hts _ k_298) (fun _ h9 => h9) rfl dX10_write_12 ?_
  refine lv_aload_n hx hb dX10_write_15 rfl (lv_at hl 2 rfl) ?_
  refine lv_iload_n hx hb dX10_write_16 rfl (lv_at hl 0 rfl) ?_
  refine va_iald hx hb hK hP 1 0 rfl rfl (show ¬ ((16 : Int32) < 0 ∨ 60 ≤ (16 : Int32).toNatClampNeg) by decide) dX10_write_17 ?_
  refine lv_topi (fun x556 _ => ?_)
  refine va_iast hx hb hK hP hD hS 2 0 rfl rfl (show ¬ ((108 : Int32) < 0 ∨ 1336 ≤ (108 : Int32).toNatClampNeg) by decide) dX10_write_18 (fun H locs hP hD hS => ?_)
  obtain ⟨f557, hP, hD⟩ : ∃ f557, va_P D vwCl [(h0, .inr (10, (.int v1 :: .int v2 :: .ref h2 :: .ref h3 :: .ref h4 :: .ref h5 :: .ref h6 :: .ref h7 :: .ref h8 :: .ref h9 :: .ref h10 :: .ref h1 :: .int v3 :: .ref h11 :: .ref h12 :: .ref h13 :: .ref h14 :: .int v4 :: .int v5 :: .int 108 :: .ref h15 :: .ref h16 :: .ref h17 :: .int v6 :: .ref h18 :: .int v7 :: .ref h19 :: .ref h20 :: .int v8 :: .ref h21 :: .ref h22 :: .int v9 :: .int v10 :: .int v11 :: .int v12 :: .int v13 :: .int v14 :: .int v15 :: .int v16 :: .ref h23 :: .long v17 :: .long v18 :: .long v19 :: .long v20 :: []))), (h1, .inl (G.1, 60, .inl v21)), (h14, .inl (G.1, 1336, .inl f557))] H ∧ va_D A [(h0, .inr (10, (.int v1 :: .int v2 :: .ref h2 :: .ref h3 :: .ref h4 :: .ref h5 :: .ref h6 :: .ref h7 :: .ref h8 :: .ref h9 :: .ref h10 :: .ref h1 :: .int v3 :: .ref h11 :: .ref h12 :: .ref h13 :: .ref h14 :: .int v4 :: .int v5 :: .int 108 :: .ref h15 :: .ref h16 :: .ref h17 :: .int v6 :: .ref h18 :: .int v7 :: .ref h19 :: .ref h20 :: .int v8 :: .ref h21 :: .ref h22 :: .int v9 :: .int v10 :: .int v11 :: .int v12 :: .int v13 :: .int v14 :: .int v15 :: .int v16 :: .ref h23 :: .long v17 :: .long v18 :: .long v19 :: .long v20 :: []))), (h1, .inl (G.1, 60, .inl v21)), (h14, .inl (G.1, 1336, .inl f557))] := ⟨_, hP, hD⟩
  refine lv_aload_n hx hb dX10_write_19 rfl (lv_at hl 1 rfl) ?_
  refine lv_dup hx hb dX10_write_20 rfl ?_
  refine va_get (D := D) (ci := 10) (v := .int 108) (C := RX10) (T := TX10) (N := 44) hx hb hts inlX10 hown hK hP 0 rfl rfl 19 (by decide) (hts _ k_298) (fun _ h9 => h9) rfl dX10_write_21 ?_
  refine lv_iconst (v := 1) hx hb dX10_write_24 (by decide) ?_
  refine lv_iadd hx hb dX10_write_25 ?_
  refine ow_i (y := 109) (by decide) ?_
  refine va_put (D := D) (ci := 10) (v := .int 109) (ty := .int) (C := RX10) (T := TX10) (N := 44) hx hb hts inlX10 tyX10 tyX10_ok nmX10 hown hK hP hD hS 0 rfl rfl 19 (by decide) (hts _ k_298) (fun _ h9 => h9) rfl (tyX10_ok 19 (by decide)) rfl rfl (Nat.le_of_ble_eq_true rfl) dX10_write_26 (fun H locs hP hD hS => ?_)
  have hP : va_P D vwCl [(h0, .inr (10, (.int v1 :: .int v2 :: .ref h2 :: .ref h3 :: .ref h4 :: .ref h5 :: .ref h6 :: .ref h7 :: .ref h8 :: .ref h9 :: .ref h10 :: .ref h1 :: .int v3 :: .ref h11 :: .ref h12 :: .ref h13 :: .ref h14 :: .int v4 :: .int v5 :: .int 109 :: .ref h15 :: .ref h16 :: .ref h17 :: .int v6 :: .ref h18 :: .int v7 :: .ref h19 :: .ref h20 :: .int v8 :: .ref h21 :: .ref h22 :: .int v9 :: .int v10 :: .int v11 :: .int v12 :: .int v13 :: .int v14 :: .int v15 :: .int v16 :: .ref h23 :: .long v17 :: .long v18 :: .long v19 :: .long v20 :: []))), (h1, .inl (G.1, 60, .inl v21)), (h14, .inl (G.1, 1336, .inl f557))] H := hP
  have hD : va_D A [(h0, .inr (10, (.int v1 :: .int v2 :: .ref h2 :: .ref h3 :: .ref h4 :: .ref h5 :: .ref h6 :: .ref h7 :: .ref h8 :: .ref h9 :: .ref h10 :: .ref h1 :: .int v3 :: .ref h11 :: .ref h12 :: .ref h13 :: .ref h14 :: .int v4 :: .int v5 :: .int 109 :: .ref h15 :: .ref h16 :: .ref h17 :: .int v6 :: .ref h18 :: .int v7 :: .ref h19 :: .ref h20 :: .int v8 :: .ref h21 :: .ref h22 :: .int v9 :: .int v10 :: .int v11 :: .int v12 :: .int v13 :: .int v14 :: .int v15 :: .int v16 :: .ref h23 :: .long v17 :: .long v18 :: .long v19 :: .long v20 :: []))), (h1, .inl (G.1, 60, .inl v21)), (h14, .inl (G.1, 1336, .inl f557))] := hD
  refine lv_iinc (v := 17) (lv' := [(3, .int 17), (0, .ref h0), (1, .ref h1), (2, .int 60)]) hx hb dX10_write_29 hl (k := 0) rfl (by decide) (by decide) rfl (fun ls hl => ?_)
  refine lv_goto (tgt := 2) hx hb dX10_write_32 (by decide) ?_
  refine lv_iload_n hx hb dX10_write_2 rfl (lv_at hl 0 rfl) ?_
  refine lv_iload_n hx hb dX10_write_3 rfl (lv_at hl 3 rfl) ?_
  refine lv_icmp_ge (tgt := 35) hx hb dX10_write_4 (by decide) (fun h9 => absurd h9 (by decide)) (fun _ => ?_)
  refine lv_aload_n hx hb dX10_write_7 rfl (lv_at hl 1 rfl) ?_
  refine va_get (D := D) (ci := 10) (v := .ref h14) (C := RX10) (T := TX10) (N := 44) hx hb hts inlX10 hown hK hP 0 rfl rfl 16 (by decide) (hts _ k_105) (fun _ h9 => h9) rfl dX10_write_8 ?_
  refine lv_aload_n hx hb dX10_write_11 rfl (lv_at hl 1 rfl) ?_
  refine va_get (D := D) (ci := 10) (v := .int 109) (C := RX10) (T := TX10) (N := 44) hx hb hts inlX10 hown hK hP 0 rfl rfl 19 (by decide) (hts _ k_298) (fun _ h9 => h9) rfl dX10_write_12 ?_
  refine lv_aload_n hx hb dX10_write_15 rfl (lv_at hl 2 rfl) ?_
  refine lv_iload_n hx hb dX10_write_16 rfl (lv_at hl 0 rfl) ?_
  refine va_iald hx hb hK hP 1 0 rfl rfl (show ¬ ((17 : Int32) < 0 ∨ 60 ≤ (17 : Int32).toNatClampNeg) by decide) dX10_write_17 ?_
  refine lv_topi (fun x558 _ => ?_)
  refine va_iast hx hb hK hP hD hS 2 0 rfl rfl (show ¬ ((109 : Int32) < 0 ∨ 1336 ≤ (109 : Int32).toNatClampNeg) by decide) dX10_write_18 (fun H locs hP hD hS => ?_)
  obtain ⟨f559, hP, hD⟩ : ∃ f559, va_P D vwCl [(h0, .inr (10, (.int v1 :: .int v2 :: .ref h2 :: .ref h3 :: .ref h4 :: .ref h5 :: .ref h6 :: .ref h7 :: .ref h8 :: .ref h9 :: .ref h10 :: .ref h1 :: .int v3 :: .ref h11 :: .ref h12 :: .ref h13 :: .ref h14 :: .int v4 :: .int v5 :: .int 109 :: .ref h15 :: .ref h16 :: .ref h17 :: .int v6 :: .ref h18 :: .int v7 :: .ref h19 :: .ref h20 :: .int v8 :: .ref h21 :: .ref h22 :: .int v9 :: .int v10 :: .int v11 :: .int v12 :: .int v13 :: .int v14 :: .int v15 :: .int v16 :: .ref h23 :: .long v17 :: .long v18 :: .long v19 :: .long v20 :: []))), (h1, .inl (G.1, 60, .inl v21)), (h14, .inl (G.1, 1336, .inl f559))] H ∧ va_D A [(h0, .inr (10, (.int v1 :: .int v2 :: .ref h2 :: .ref h3 :: .ref h4 :: .ref h5 :: .ref h6 :: .ref h7 :: .ref h8 :: .ref h9 :: .ref h10 :: .ref h1 :: .int v3 :: .ref h11 :: .ref h12 :: .ref h13 :: .ref h14 :: .int v4 :: .int v5 :: .int 109 :: .ref h15 :: .ref h16 :: .ref h17 :: .int v6 :: .ref h18 :: .int v7 :: .ref h19 :: .ref h20 :: .int v8 :: .ref h21 :: .ref h22 :: .int v9 :: .int v10 :: .int v11 :: .int v12 :: .int v13 :: .int v14 :: .int v15 :: .int v16 :: .ref h23 :: .long v17 :: .long v18 :: .long v19 :: .long v20 :: []))), (h1, .inl (G.1, 60, .inl v21)), (h14, .inl (G.1, 1336, .inl f559))] := ⟨_, hP, hD⟩
  refine lv_aload_n hx hb dX10_write_19 rfl (lv_at hl 1 rfl) ?_
  refine lv_dup hx hb dX10_write_20 rfl ?_
  refine va_get (D := D) (ci := 10) (v := .int 109) (C := RX10) (T := TX10) (N := 44) hx hb hts inlX10 hown hK hP 0 rfl rfl 19 (by decide) (hts _ k_298) (fun _ h9 => h9) rfl dX10_write_21 ?_
  refine lv_iconst (v := 1) hx hb dX10_write_24 (by decide) ?_
  refine lv_iadd hx hb dX10_write_25 ?_
  refine ow_i (y := 110) (by decide) ?_
  refine va_put (D := D) (ci := 10) (v := .int 110) (ty := .int) (C := RX10) (T := TX10) (N := 44) hx hb hts inlX10 tyX10 tyX10_ok nmX10 hown hK hP hD hS 0 rfl rfl 19 (by decide) (hts _ k_298) (fun _ h9 => h9) rfl (tyX10_ok 19 (by decide)) rfl rfl (Nat.le_of_ble_eq_true rfl) dX10_write_26 (fun H locs hP hD hS => ?_)
  have hP : va_P D vwCl [(h0, .inr (10, (.int v1 :: .int v2 :: .ref h2 :: .ref h3 :: .ref h4 :: .ref h5 :: .ref h6 :: .ref h7 :: .ref h8 :: .ref h9 :: .ref h10 :: .ref h1 :: .int v3 :: .ref h11 :: .ref h12 :: .ref h13 :: .ref h14 :: .int v4 :: .int v5 :: .int 110 :: .ref h15 :: .ref h16 :: .ref h17 :: .int v6 :: .ref h18 :: .int v7 :: .ref h19 :: .ref h20 :: .int v8 :: .ref h21 :: .ref h22 :: .int v9 :: .int v10 :: .int v11 :: .int v12 :: .int v13 :: .int v14 :: .int v15 :: .int v16 :: .ref h23 :: .long v17 :: .long v18 :: .long v19 :: .long v20 :: []))), (h1, .inl (G.1, 60, .inl v21)), (h14, .inl (G.1, 1336, .inl f559))] H := hP
  have hD : va_D A [(h0, .inr (10, (.int v1 :: .int v2 :: .ref h2 :: .ref h3 :: .ref h4 :: .ref h5 :: .ref h6 :: .ref h7 :: .ref h8 :: .ref h9 :: .ref h10 :: .ref h1 :: .int v3 :: .ref h11 :: .ref h12 :: .ref h13 :: .ref h14 :: .int v4 :: .int v5 :: .int 110 :: .ref h15 :: .ref h16 :: .ref h17 :: .int v6 :: .ref h18 :: .int v7 :: .ref h19 :: .ref h20 :: .int v8 :: .ref h21 :: .ref h22 :: .int v9 :: .int v10 :: .int v11 :: .int v12 :: .int v13 :: .int v14 :: .int v15 :: .int v16 :: .ref h23 :: .long v17 :: .long v18 :: .long v19 :: .long v20 :: []))), (h1, .inl (G.1, 60, .inl v21)), (h14, .inl (G.1, 1336, .inl f559))] := hD
  refine lv_iinc (v := 18) (lv' := [(3, .int 18), (0, .ref h0), (1, .ref h1), (2, .int 60)]) hx hb dX10_write_29 hl (k := 0) rfl (by decide) (by decide) rfl (fun ls hl => ?_)
  refine lv_goto (tgt := 2) hx hb dX10_write_32 (by decide) ?_
  refine lv_iload_n hx hb dX10_write_2 rfl (lv_at hl 0 rfl) ?_
  refine lv_iload_n hx hb dX10_write_3 rfl (lv_at hl 3 rfl) ?_
  refine lv_icmp_ge (tgt := 35) hx hb dX10_write_4 (by decide) (fun h9 => absurd h9 (by decide)) (fun _ => ?_)
  refine lv_aload_n hx hb dX10_write_7 rfl (lv_at hl 1 rfl) ?_
  refine va_get (D := D) (ci := 10) (v := .ref h14) (C := RX10) (T := TX10) (N := 44) hx hb hts inlX10 hown hK hP 0 rfl rfl 16 (by decide) (hts _ k_105) (fun _ h9 => h9) rfl dX10_write_8 ?_
  refine lv_aload_n hx hb dX10_write_11 rfl (lv_at hl 1 rfl) ?_
  refine va_get (D := D) (ci := 10) (v := .int 110) (C := RX10) (T := TX10) (N := 44) hx hb hts inlX10 hown hK hP 0 rfl rfl 19 (by decide) (hts _ k_298) (fun _ h9 => h9) rfl dX10_write_12 ?_
  refine lv_aload_n hx hb dX10_write_15 rfl (lv_at hl 2 rfl) ?_
  refine lv_iload_n hx hb dX10_write_16 rfl (lv_at hl 0 rfl) ?_
  refine va_iald hx hb hK hP 1 0 rfl rfl (show ¬ ((18 : Int32) < 0 ∨ 60 ≤ (18 : Int32).toNatClampNeg) by decide) dX10_write_17 ?_
  refine lv_topi (fun x560 _ => ?_)
  refine va_iast hx hb hK hP hD hS 2 0 rfl rfl (show ¬ ((110 : Int32) < 0 ∨ 1336 ≤ (110 : Int32).toNatClampNeg) by decide) dX10_write_18 (fun H locs hP hD hS => ?_)
  obtain ⟨f561, hP, hD⟩ : ∃ f561, va_P D vwCl [(h0, .inr (10, (.int v1 :: .int v2 :: .ref h2 :: .ref h3 :: .ref h4 :: .ref h5 :: .ref h6 :: .ref h7 :: .ref h8 :: .ref h9 :: .ref h10 :: .ref h1 :: .int v3 :: .ref h11 :: .ref h12 :: .ref h13 :: .ref h14 :: .int v4 :: .int v5 :: .int 110 :: .ref h15 :: .ref h16 :: .ref h17 :: .int v6 :: .ref h18 :: .int v7 :: .ref h19 :: .ref h20 :: .int v8 :: .ref h21 :: .ref h22 :: .int v9 :: .int v10 :: .int v11 :: .int v12 :: .int v13 :: .int v14 :: .int v15 :: .int v16 :: .ref h23 :: .long v17 :: .long v18 :: .long v19 :: .long v20 :: []))), (h1, .inl (G.1, 60, .inl v21)), (h14, .inl (G.1, 1336, .inl f561))] H ∧ va_D A [(h0, .inr (10, (.int v1 :: .int v2 :: .ref h2 :: .ref h3 :: .ref h4 :: .ref h5 :: .ref h6 :: .ref h7 :: .ref h8 :: .ref h9 :: .ref h10 :: .ref h1 :: .int v3 :: .ref h11 :: .ref h12 :: .ref h13 :: .ref h14 :: .int v4 :: .int v5 :: .int 110 :: .ref h15 :: .ref h16 :: .ref h17 :: .int v6 :: .ref h18 :: .int v7 :: .ref h19 :: .ref h20 :: .int v8 :: .ref h21 :: .ref h22 :: .int v9 :: .int v10 :: .int v11 :: .int v12 :: .int v13 :: .int v14 :: .int v15 :: .int v16 :: .ref h23 :: .long v17 :: .long v18 :: .long v19 :: .long v20 :: []))), (h1, .inl (G.1, 60, .inl v21)), (h14, .inl (G.1, 1336, .inl f561))] := ⟨_, hP, hD⟩
  refine lv_aload_n hx hb dX10_write_19 rfl (lv_at hl 1 rfl) ?_
  refine lv_dup hx hb dX10_write_20 rfl ?_
  refine va_get (D := D) (ci := 10) (v := .int 110) (C := RX10) (T := TX10) (N := 44) hx hb hts inlX10 hown hK hP 0 rfl rfl 19 (by decide) (hts _ k_298) (fun _ h9 => h9) rfl dX10_write_21 ?_
  refine lv_iconst (v := 1) hx hb dX10_write_24 (by decide) ?_
  refine lv_iadd hx hb dX10_write_25 ?_
  refine ow_i (y := 111) (by decide) ?_
  refine va_put (D := D) (ci := 10) (v := .int 111) (ty := .int) (C := RX10) (T := TX10) (N := 44) hx hb hts inlX10 tyX10 tyX10_ok nmX10 hown hK hP hD hS 0 rfl rfl 19 (by decide) (hts _ k_298) (fun _ h9 => h9) rfl (tyX10_ok 19 (by decide)) rfl rfl (Nat.le_of_ble_eq_true rfl) dX10_write_26 (fun H locs hP hD hS => ?_)
  have hP : va_P D vwCl [(h0, .inr (10, (.int v1 :: .int v2 :: .ref h2 :: .ref h3 :: .ref h4 :: .ref h5 :: .ref h6 :: .ref h7 :: .ref h8 :: .ref h9 :: .ref h10 :: .ref h1 :: .int v3 :: .ref h11 :: .ref h12 :: .ref h13 :: .ref h14 :: .int v4 :: .int v5 :: .int 111 :: .ref h15 :: .ref h16 :: .ref h17 :: .int v6 :: .ref h18 :: .int v7 :: .ref h19 :: .ref h20 :: .int v8 :: .ref h21 :: .ref h22 :: .int v9 :: .int v10 :: .int v11 :: .int v12 :: .int v13 :: .int v14 :: .int v15 :: .int v16 :: .ref h23 :: .long v17 :: .long v18 :: .long v19 :: .long v20 :: []))), (h1, .inl (G.1, 60, .inl v21)), (h14, .inl (G.1, 1336, .inl f561))] H := hP
  have hD : va_D A [(h0, .inr (10, (.int v1 :: .int v2 :: .ref h2 :: .ref h3 :: .ref h4 :: .ref h5 :: .ref h6 :: .ref h7 :: .ref h8 :: .ref h9 :: .ref h10 :: .ref h1 :: .int v3 :: .ref h11 :: .ref h12 :: .ref h13 :: .ref h14 :: .int v4 :: .int v5 :: .int 111 :: .ref h15 :: .ref h16 :: .ref h17 :: .int v6 :: .ref h18 :: .int v7 :: .ref h19 :: .ref h20 :: .int v8 :: .ref h21 :: .ref h22 :: .int v9 :: .int v10 :: .int v11 :: .int v12 :: .int v13 :: .int v14 :: .int v15 :: .int v16 :: .ref h23 :: .long v17 :: .long v18 :: .long v19 :: .long v20 :: []))), (h1, .inl (G.1, 60, .inl v21)), (h14, .inl (G.1, 1336, .inl f561))] := hD
  refine lv_iinc (v := 19) (lv' := [(3, .int 19), (0, .ref h0), (1, .ref h1), (2, .int 60)]) hx hb dX10_write_29 hl (k := 0) rfl (by decide) (by decide) rfl (fun ls hl => ?_)
  refine lv_goto (tgt := 2) hx hb dX10_write_32 (by decide) ?_
  refine lv_iload_n hx hb dX10_write_2 rfl (lv_at hl 0 rfl) ?_
  refine lv_iload_n hx hb dX10_write_3 rfl (lv_at hl 3 rfl) ?_
  refine lv_icmp_ge (tgt := 35) hx hb dX10_write_4 (by decide) (fun h9 => absurd h9 (by decide)) (fun _ => ?_)
  refine lv_aload_n hx hb dX10_write_7 rfl (lv_at hl 1 rfl) ?_
  refine va_get (D := D) (ci := 10) (v := .ref h14) (C := RX10) (T := TX10) (N := 44) hx hb hts inlX10 hown hK hP 0 rfl rfl 16 (by decide) (hts _ k_105) (fun _ h9 => h9) rfl dX10_write_8 ?_
  refine lv_aload_n hx hb dX10_write_11 rfl (lv_at hl 1 rfl) ?_
  refine va_get (D := D) (ci := 10) (v := .int 111) (C := RX10) (T := TX10) (N := 44) hx hb hts inlX10 hown hK hP 0 rfl rfl 19 (by decide) (hts _ k_298) (fun _ h9 => h9) rfl dX10_write_12 ?_
  refine lv_aload_n hx hb dX10_write_15 rfl (lv_at hl 2 rfl) ?_
  refine lv_iload_n hx hb dX10_write_16 rfl (lv_at hl 0 rfl) ?_
  refine va_iald hx hb hK hP 1 0 rfl rfl (show ¬ ((19 : Int32) < 0 ∨ 60 ≤ (19 : Int32).toNatClampNeg) by decide) dX10_write_17 ?_
  refine lv_topi (fun x562 _ => ?_)
  refine va_iast hx hb hK hP hD hS 2 0 rfl rfl (show ¬ ((111 : Int32) < 0 ∨ 1336 ≤ (111 : Int32).toNatClampNeg) by decide) dX10_write_18 (fun H locs hP hD hS => ?_)
  obtain ⟨f563, hP, hD⟩ : ∃ f563, va_P D vwCl [(h0, .inr (10, (.int v1 :: .int v2 :: .ref h2 :: .ref h3 :: .ref h4 :: .ref h5 :: .ref h6 :: .ref h7 :: .ref h8 :: .ref h9 :: .ref h10 :: .ref h1 :: .int v3 :: .ref h11 :: .ref h12 :: .ref h13 :: .ref h14 :: .int v4 :: .int v5 :: .int 111 :: .ref h15 :: .ref h16 :: .ref h17 :: .int v6 :: .ref h18 :: .int v7 :: .ref h19 :: .ref h20 :: .int v8 :: .ref h21 :: .ref h22 :: .int v9 :: .int v10 :: .int v11 :: .int v12 :: .int v13 :: .int v14 :: .int v15 :: .int v16 :: .ref h23 :: .long v17 :: .long v18 :: .long v19 :: .long v20 :: []))), (h1, .inl (G.1, 60, .inl v21)), (h14, .inl (G.1, 1336, .inl f563))] H ∧ va_D A [(h0, .inr (10, (.int v1 :: .int v2 :: .ref h2 :: .ref h3 :: .ref h4 :: .ref h5 :: .ref h6 :: .ref h7 :: .ref h8 :: .ref h9 :: .ref h10 :: .ref h1 :: .int v3 :: .ref h11 :: .ref h12 :: .ref h13 :: .ref h14 :: .int v4 :: .int v5 :: .int 111 :: .ref h15 :: .ref h16 :: .ref h17 :: .int v6 :: .ref h18 :: .int v7 :: .ref h19 :: .ref h20 :: .int v8 :: .ref h21 :: .ref h22 :: .int v9 :: .int v10 :: .int v11 :: .int v12 :: .int v13 :: .int v14 :: .int v15 :: .int v16 :: .ref h23 :: .long v17 :: .long v18 :: .long v19 :: .long v20 :: []))), (h1, .inl (G.1, 60, .inl v21)), (h14, .inl (G.1, 1336, .inl f563))] := ⟨_, hP, hD⟩
  refine lv_aload_n hx hb dX10_write_19 rfl (lv_at hl 1 rfl) ?_
  refine lv_dup hx hb dX10_write_20 rfl ?_
  refine va_get (D := D) (ci := 10) (v := .int 111) (C := RX10) (T := TX10) (N := 44) hx hb hts inlX10 hown hK hP 0 rfl rfl 19 (by decide) (hts _ k_298) (fun _ h9 => h9) rfl dX10_write_21 ?_
  refine lv_iconst (v := 1) hx hb dX10_write_24 (by decide) ?_
  refine lv_iadd hx hb dX10_write_25 ?_
  refine ow_i (y := 112) (by decide) ?_
  refine va_put (D := D) (ci := 10) (v := .int 112) (ty := .int) (C := RX10) (T := TX10) (N := 44) hx hb hts inlX10 tyX10 tyX10_ok nmX10 hown hK hP hD hS 0 rfl rfl 19 (by decide) (hts _ k_298) (fun _ h9 => h9) rfl (tyX10_ok 19 (by decide)) rfl rfl (Nat.le_of_ble_eq_true rfl) dX10_write_26 (fun H locs hP hD hS => ?_)
  have hP : va_P D vwCl [(h0, .inr (10, (.int v1 :: .int v2 :: .ref h2 :: .ref h3 :: .ref h4 :: .ref h5 :: .ref h6 :: .ref h7 :: .ref h8 :: .ref h9 :: .ref h10 :: .ref h1 :: .int v3 :: .ref h11 :: .ref h12 :: .ref h13 :: .ref h14 :: .int v4 :: .int v5 :: .int 112 :: .ref h15 :: .ref h16 :: .ref h17 :: .int v6 :: .ref h18 :: .int v7 :: .ref h19 :: .ref h20 :: .int v8 :: .ref h21 :: .ref h22 :: .int v9 :: .int v10 :: .int v11 :: .int v12 :: .int v13 :: .int v14 :: .int v15 :: .int v16 :: .ref h23 :: .long v17 :: .long v18 :: .long v19 :: .long v20 :: []))), (h1, .inl (G.1, 60, .inl v21)), (h14, .inl (G.1, 1336, .inl f563))] H := hP
  have hD : va_D A [(h0, .inr (10, (.int v1 :: .int v2 :: .ref h2 :: .ref h3 :: .ref h4 :: .ref h5 :: .ref h6 :: .ref h7 :: .ref h8 :: .ref h9 :: .ref h10 :: .ref h1 :: .int v3 :: .ref h11 :: .ref h12 :: .ref h13 :: .ref h14 :: .int v4 :: .int v5 :: .int 112 :: .ref h15 :: .ref h16 :: .ref h17 :: .int v6 :: .ref h18 :: .int v7 :: .ref h19 :: .ref h20 :: .int v8 :: .ref h21 :: .ref h22 :: .int v9 :: .int v10 :: .int v11 :: .int v12 :: .int v13 :: .int v14 :: .int v15 :: .int v16 :: .ref h23 :: .long v17 :: .long v18 :: .long v19 :: .long v20 :: []))), (h1, .inl (G.1, 60, .inl v21)), (h14, .inl (G.1, 1336, .inl f563))] := hD
  refine lv_iinc (v := 20) (lv' := [(3, .int 20), (0, .ref h0), (1, .ref h1), (2, .int 60)]) hx hb dX10_write_29 hl (k := 0) rfl (by decide) (by decide) rfl (fun ls hl => ?_)
  refine lv_goto (tgt := 2) hx hb dX10_write_32 (by decide) ?_
  refine lv_iload_n hx hb dX10_write_2 rfl (lv_at hl 0 rfl) ?_
  refine lv_iload_n hx hb dX10_write_3 rfl (lv_at hl 3 rfl) ?_
  refine lv_icmp_ge (tgt := 35) hx hb dX10_write_4 (by decide) (fun h9 => absurd h9 (by decide)) (fun _ => ?_)
  refine lv_aload_n hx hb dX10_write_7 rfl (lv_at hl 1 rfl) ?_
  refine va_get (D := D) (ci := 10) (v := .ref h14) (C := RX10) (T := TX10) (N := 44) hx hb hts inlX10 hown hK hP 0 rfl rfl 16 (by decide) (hts _ k_105) (fun _ h9 => h9) rfl dX10_write_8 ?_
  refine lv_aload_n hx hb dX10_write_11 rfl (lv_at hl 1 rfl) ?_
  refine va_get (D := D) (ci := 10) (v := .int 112) (C := RX10) (T := TX10) (N := 44) hx hb hts inlX10 hown hK hP 0 rfl rfl 19 (by decide) (hts _ k_298) (fun _ h9 => h9) rfl dX10_write_12 ?_
  refine lv_aload_n hx hb dX10_write_15 rfl (lv_at hl 2 rfl) ?_
  refine lv_iload_n hx hb dX10_write_16 rfl (lv_at hl 0 rfl) ?_
  refine va_iald hx hb hK hP 1 0 rfl rfl (show ¬ ((20 : Int32) < 0 ∨ 60 ≤ (20 : Int32).toNatClampNeg) by decide) dX10_write_17 ?_
  refine lv_topi (fun x564 _ => ?_)
  refine va_iast hx hb hK hP hD hS 2 0 rfl rfl (show ¬ ((112 : Int32) < 0 ∨ 1336 ≤ (112 : Int32).toNatClampNeg) by decide) dX10_write_18 (fun H locs hP hD hS => ?_)
  obtain ⟨f565, hP, hD⟩ : ∃ f565, va_P D vwCl [(h0, .inr (10, (.int v1 :: .int v2 :: .ref h2 :: .ref h3 :: .ref h4 :: .ref h5 :: .ref h6 :: .ref h7 :: .ref h8 :: .ref h9 :: .ref h10 :: .ref h1 :: .int v3 :: .ref h11 :: .ref h12 :: .ref h13 :: .ref h14 :: .int v4 :: .int v5 :: .int 112 :: .ref h15 :: .ref h16 :: .ref h17 :: .int v6 :: .ref h18 :: .int v7 :: .ref h19 :: .ref h20 :: .int v8 :: .ref h21 :: .ref h22 :: .int v9 :: .int v10 :: .int v11 :: .int v12 :: .int v13 :: .int v14 :: .int v15 :: .int v16 :: .ref h23 :: .long v17 :: .long v18 :: .long v19 :: .long v20 :: []))), (h1, .inl (G.1, 60, .inl v21)), (h14, .inl (G.1, 1336, .inl f565))] H ∧ va_D A [(h0, .inr (10, (.int v1 :: .int v2 :: .ref h2 :: .ref h3 :: .ref h4 :: .ref h5 :: .ref h6 :: .ref h7 :: .ref h8 :: .ref h9 :: .ref h10 :: .ref h1 :: .int v3 :: .ref h11 :: .ref h12 :: .ref h13 :: .ref h14 :: .int v4 :: .int v5 :: .int 112 :: .ref h15 :: .ref h16 :: .ref h17 :: .int v6 :: .ref h18 :: .int v7 :: .ref h19 :: .ref h20 :: .int v8 :: .ref h21 :: .ref h22 :: .int v9 :: .int v10 :: .int v11 :: .int v12 :: .int v13 :: .int v14 :: .int v15 :: .int v16 :: .ref h23 :: .long v17 :: .long v18 :: .long v19 :: .long v20 :: []))), (h1, .inl (G.1, 60, .inl v21)), (h14, .inl (G.1, 1336, .inl f565))] := ⟨_, hP, hD⟩
  refine lv_aload_n hx hb dX10_write_19 rfl (lv_at hl 1 rfl) ?_
  refine lv_dup hx hb dX10_write_20 rfl ?_
  refine va_get (D := D) (ci := 10) (v := .int 112) (C := RX10) (T := TX10) (N := 44) hx hb hts inlX10 hown hK hP 0 rfl rfl 19 (by decide) (hts _ k_298) (fun _ h9 => h9) rfl dX10_write_21 ?_
  refine lv_iconst (v := 1) hx hb dX10_write_24 (by decide) ?_
  refine lv_iadd hx hb dX10_write_25 ?_
  refine ow_i (y := 113) (by decide) ?_
  refine va_put (D := D) (ci := 10) (v := .int 113) (ty := .int) (C := RX10) (T := TX10) (N := 44) hx hb hts inlX10 tyX10 tyX10_ok nmX10 hown hK hP hD hS 0 rfl rfl 19 (by decide) (hts _ k_298) (fun _ h9 => h9) rfl (tyX10_ok 19 (by decide)) rfl rfl (Nat.le_of_ble_eq_true rfl) dX10_write_26 (fun H locs hP hD hS => ?_)
  have hP : va_P D vwCl [(h0, .inr (10, (.int v1 :: .int v2 :: .ref h2 :: .ref h3 :: .ref h4 :: .ref h5 :: .ref h6 :: .ref h7 :: .ref h8 :: .ref h9 :: .ref h10 :: .ref h1 :: .int v3 :: .ref h11 :: .ref h12 :: .ref h13 :: .ref h14 :: .int v4 :: .int v5 :: .int 113 :: .ref h15 :: .ref h16 :: .ref h17 :: .int v6 :: .ref h18 :: .int v7 :: .ref h19 :: .ref h20 :: .int v8 :: .ref h21 :: .ref h22 :: .int v9 :: .int v10 :: .int v11 :: .int v12 :: .int v13 :: .int v14 :: .int v15 :: .int v16 :: .ref h23 :: .long v17 :: .long v18 :: .long v19 :: .long v20 :: []))), (h1, .inl (G.1, 60, .inl v21)), (h14, .inl (G.1, 1336, .inl f565))] H := hP
  have hD : va_D A [(h0, .inr (10, (.int v1 :: .int v2 :: .ref h2 :: .ref h3 :: .ref h4 :: .ref h5 :: .ref h6 :: .ref h7 :: .ref h8 :: .ref h9 :: .ref h10 :: .ref h1 :: .int v3 :: .ref h11 :: .ref h12 :: .ref h13 :: .ref h14 :: .int v4 :: .int v5 :: .int 113 :: .ref h15 :: .ref h16 :: .ref h17 :: .int v6 :: .ref h18 :: .int v7 :: .ref h19 :: .ref h20 :: .int v8 :: .ref h21 :: .ref h22 :: .int v9 :: .int v10 :: .int v11 :: .int v12 :: .int v13 :: .int v14 :: .int v15 :: .int v16 :: .ref h23 :: .long v17 :: .long v18 :: .long v19 :: .long v20 :: []))), (h1, .inl (G.1, 60, .inl v21)), (h14, .inl (G.1, 1336, .inl f565))] := hD
  refine lv_iinc (v := 21) (lv' := [(3, .int 21), (0, .ref h0), (1, .ref h1), (2, .int 60)]) hx hb dX10_write_29 hl (k := 0) rfl (by decide) (by decide) rfl (fun ls hl => ?_)
  refine lv_goto (tgt := 2) hx hb dX10_write_32 (by decide) ?_
  refine lv_iload_n hx hb dX10_write_2 rfl (lv_at hl 0 rfl) ?_
  refine lv_iload_n hx hb dX10_write_3 rfl (lv_at hl 3 rfl) ?_
  refine lv_icmp_ge (tgt := 35) hx hb dX10_write_4 (by decide) (fun h9 => absurd h9 (by decide)) (fun _ => ?_)
  refine lv_aload_n hx hb dX10_write_7 rfl (lv_at hl 1 rfl) ?_
  refine va_get (D := D) (ci := 10) (v := .ref h14) (C := RX10) (T := TX10) (N := 44) hx hb hts inlX10 hown hK hP 0 rfl rfl 16 (by decide) (hts _ k_105) (fun _ h9 => h9) rfl dX10_write_8 ?_
  refine lv_aload_n hx hb dX10_write_11 rfl (lv_at hl 1 rfl) ?_
  refine va_get (D := D) (ci := 10) (v := .int 113) (C := RX10) (T := TX10) (N := 44) hx hb hts inlX10 hown hK hP 0 rfl rfl 19 (by decide) (hts _ k_298) (fun _ h9 => h9) rfl dX10_write_12 ?_
  refine lv_aload_n hx hb dX10_write_15 rfl (lv_at hl 2 rfl) ?_
  refine lv_iload_n hx hb dX10_write_16 rfl (lv_at hl 0 rfl) ?_
  refine va_iald hx hb hK hP 1 0 rfl rfl (show ¬ ((21 : Int32) < 0 ∨ 60 ≤ (21 : Int32).toNatClampNeg) by decide) dX10_write_17 ?_
  refine lv_topi (fun x566 _ => ?_)
  refine va_iast hx hb hK hP hD hS 2 0 rfl rfl (show ¬ ((113 : Int32) < 0 ∨ 1336 ≤ (113 : Int32).toNatClampNeg) by decide) dX10_write_18 (fun H locs hP hD hS => ?_)
  obtain ⟨f567, hP, hD⟩ : ∃ f567, va_P D vwCl [(h0, .inr (10, (.int v1 :: .int v2 :: .ref h2 :: .ref h3 :: .ref h4 :: .ref h5 :: .ref h6 :: .ref h7 :: .ref h8 :: .ref h9 :: .ref h10 :: .ref h1 :: .int v3 :: .ref h11 :: .ref h12 :: .ref h13 :: .ref h14 :: .int v4 :: .int v5 :: .int 113 :: .ref h15 :: .ref h16 :: .ref h17 :: .int v6 :: .ref h18 :: .int v7 :: .ref h19 :: .ref h20 :: .int v8 :: .ref h21 :: .ref h22 :: .int v9 :: .int v10 :: .int v11 :: .int v12 :: .int v13 :: .int v14 :: .int v15 :: .int v16 :: .ref h23 :: .long v17 :: .long v18 :: .long v19 :: .long v20 :: []))), (h1, .inl (G.1, 60, .inl v21)), (h14, .inl (G.1, 1336, .inl f567))] H ∧ va_D A [(h0, .inr (10, (.int v1 :: .int v2 :: .ref h2 :: .ref h3 :: .ref h4 :: .ref h5 :: .ref h6 :: .ref h7 :: .ref h8 :: .ref h9 :: .ref h10 :: .ref h1 :: .int v3 :: .ref h11 :: .ref h12 :: .ref h13 :: .ref h14 :: .int v4 :: .int v5 :: .int 113 :: .ref h15 :: .ref h16 :: .ref h17 :: .int v6 :: .ref h18 :: .int v7 :: .ref h19 :: .ref h20 :: .int v8 :: .ref h21 :: .ref h22 :: .int v9 :: .int v10 :: .int v11 :: .int v12 :: .int v13 :: .int v14 :: .int v15 :: .int v16 :: .ref h23 :: .long v17 :: .long v18 :: .long v19 :: .long v20 :: []))), (h1, .inl (G.1, 60, .inl v21)), (h14, .inl (G.1, 1336, .inl f567))] := ⟨_, hP, hD⟩
  refine lv_aload_n hx hb dX10_write_19 rfl (lv_at hl 1 rfl) ?_
  refine lv_dup hx hb dX10_write_20 rfl ?_
  refine va_get (D := D) (ci := 10) (v := .int 113) (C := RX10) (T := TX10) (N := 44) hx hb hts inlX10 hown hK hP 0 rfl rfl 19 (by decide) (hts _ k_298) (fun _ h9 => h9) rfl dX10_write_21 ?_
  refine lv_iconst (v := 1) hx hb dX10_write_24 (by decide) ?_
  refine lv_iadd hx hb dX10_write_25 ?_
  refine ow_i (y := 114) (by decide) ?_
  refine va_put (D := D) (ci := 10) (v := .int 114) (ty := .int) (C := RX10) (T := TX10) (N := 44) hx hb hts inlX10 tyX10 tyX10_ok nmX10 hown hK hP hD hS 0 rfl rfl 19 (by decide) (hts _ k_298) (fun _ h9 => h9) rfl (tyX10_ok 19 (by decide)) rfl rfl (Nat.le_of_ble_eq_true rfl) dX10_write_26 (fun H locs hP hD hS => ?_)
  have hP : va_P D vwCl [(h0, .inr (10, (.int v1 :: .int v2 :: .ref h2 :: .ref h3 :: .ref h4 :: .ref h5 :: .ref h6 :: .ref h7 :: .ref h8 :: .ref h9 :: .ref h10 :: .ref h1 :: .int v3 :: .ref h11 :: .ref h12 :: .ref h13 :: .ref h14 :: .int v4 :: .int v5 :: .int 114 :: .ref h15 :: .ref h16 :: .ref h17 :: .int v6 :: .ref h18 :: .int v7 :: .ref h19 :: .ref h20 :: .int v8 :: .ref h21 :: .ref h22 :: .int v9 :: .int v10 :: .int v11 :: .int v12 :: .int v13 :: .int v14 :: .int v15 :: .int v16 :: .ref h23 :: .long v17 :: .long v18 :: .long v19 :: .long v20 :: []))), (h1, .inl (G.1, 60, .inl v21)), (h14, .inl (G.1, 1336, .inl f567))] H := hP
  have hD : va_D A [(h0, .inr (10, (.int v1 :: .int v2 :: .ref h2 :: .ref h3 :: .ref h4 :: .ref h5 :: .ref h6 :: .ref h7 :: .ref h8 :: .ref h9 :: .ref h10 :: .ref h1 :: .int v3 :: .ref h11 :: .ref h12 :: .ref h13 :: .ref h14 :: .int v4 :: .int v5 :: .int 114 :: .ref h15 :: .ref h16 :: .ref h17 :: .int v6 :: .ref h18 :: .int v7 :: .ref h19 :: .ref h20 :: .int v8 :: .ref h21 :: .ref h22 :: .int v9 :: .int v10 :: .int v11 :: .int v12 :: .int v13 :: .int v14 :: .int v15 :: .int v16 :: .ref h23 :: .long v17 :: .long v18 :: .long v19 :: .long v20 :: []))), (h1, .inl (G.1, 60, .inl v21)), (h14, .inl (G.1, 1336, .inl f567))] := hD
  refine lv_iinc (v := 22) (lv' := [(3, .int 22), (0, .ref h0), (1, .ref h1), (2, .int 60)]) hx hb dX10_write_29 hl (k := 0) rfl (by decide) (by decide) rfl (fun ls hl => ?_)
  refine lv_goto (tgt := 2) hx hb dX10_write_32 (by decide) ?_
  refine lv_iload_n hx hb dX10_write_2 rfl (lv_at hl 0 rfl) ?_
  refine lv_iload_n hx hb dX10_write_3 rfl (lv_at hl 3 rfl) ?_
  refine lv_icmp_ge (tgt := 35) hx hb dX10_write_4 (by decide) (fun h9 => absurd h9 (by decide)) (fun _ => ?_)
  refine lv_aload_n hx hb dX10_write_7 rfl (lv_at hl 1 rfl) ?_
  refine va_get (D := D) (ci := 10) (v := .ref h14) (C := RX10) (T := TX10) (N := 44) hx hb hts inlX10 hown hK hP 0 rfl rfl 16 (by decide) (hts _ k_105) (fun _ h9 => h9) rfl dX10_write_8 ?_
  refine lv_aload_n hx hb dX10_write_11 rfl (lv_at hl 1 rfl) ?_
  refine va_get (D := D) (ci := 10) (v := .int 114) (C := RX10) (T := TX10) (N := 44) hx hb hts inlX10 hown hK hP 0 rfl rfl 19 (by decide) (hts _ k_298) (fun _ h9 => h9) rfl dX10_write_12 ?_
  refine lv_aload_n hx hb dX10_write_15 rfl (lv_at hl 2 rfl) ?_
  refine lv_iload_n hx hb dX10_write_16 rfl (lv_at hl 0 rfl) ?_
  refine va_iald hx hb hK hP 1 0 rfl rfl (show ¬ ((22 : Int32) < 0 ∨ 60 ≤ (22 : Int32).toNatClampNeg) by decide) dX10_write_17 ?_
  refine lv_topi (fun x568 _ => ?_)
  refine va_iast hx hb hK hP hD hS 2 0 rfl rfl (show ¬ ((114 : Int32) < 0 ∨ 1336 ≤ (114 : Int32).toNatClampNeg) by decide) dX10_write_18 (fun H locs hP hD hS => ?_)
  obtain ⟨f569, hP, hD⟩ : ∃ f569, va_P D vwCl [(h0, .inr (10, (.int v1 :: .int v2 :: .ref h2 :: .ref h3 :: .ref h4 :: .ref h5 :: .ref h6 :: .ref h7 :: .ref h8 :: .ref h9 :: .ref h10 :: .ref h1 :: .int v3 :: .ref h11 :: .ref h12 :: .ref h13 :: .ref h14 :: .int v4 :: .int v5 :: .int 114 :: .ref h15 :: .ref h16 :: .ref h17 :: .int v6 :: .ref h18 :: .int v7 :: .ref h19 :: .ref h20 :: .int v8 :: .ref h21 :: .ref h22 :: .int v9 :: .int v10 :: .int v11 :: .int v12 :: .int v13 :: .int v14 :: .int v15 :: .int v16 :: .ref h23 :: .long v17 :: .long v18 :: .long v19 :: .long v20 :: []))), (h1, .inl (G.1, 60, .inl v21)), (h14, .inl (G.1, 1336, .inl f569))] H ∧ va_D A [(h0, .inr (10, (.int v1 :: .int v2 :: .ref h2 :: .ref h3 :: .ref h4 :: .ref h5 :: .ref h6 :: .ref h7 :: .ref h8 :: .ref h9 :: .ref h10 :: .ref h1 :: .int v3 :: .ref h11 :: .ref h12 :: .ref h13 :: .ref h14 :: .int v4 :: .int v5 :: .int 114 :: .ref h15 :: .ref h16 :: .ref h17 :: .int v6 :: .ref h18 :: .int v7 :: .ref h19 :: .ref h20 :: .int v8 :: .ref h21 :: .ref h22 :: .int v9 :: .int v10 :: .int v11 :: .int v12 :: .int v13 :: .int v14 :: .int v15 :: .int v16 :: .ref h23 :: .long v17 :: .long v18 :: .long v19 :: .long v20 :: []))), (h1, .inl (G.1, 60, .inl v21)), (h14, .inl (G.1, 1336, .inl f569))] := ⟨_, hP, hD⟩
  refine lv_aload_n hx hb dX10_write_19 rfl (lv_at hl 1 rfl) ?_
  refine lv_dup hx hb dX10_write_20 rfl ?_
  refine va_get (D := D) (ci := 10) (v := .int 114) (C := RX10) (T := TX10) (N := 44) hx hb hts inlX10 hown hK hP 0 rfl rfl 19 (by decide) (hts _ k_298) (fun _ h9 => h9) rfl dX10_write_21 ?_
  refine lv_iconst (v := 1) hx hb dX10_write_24 (by decide) ?_
  refine lv_iadd hx hb dX10_write_25 ?_
  refine ow_i (y := 115) (by decide) ?_
  refine va_put (D := D) (ci := 10) (v := .int 115) (ty := .int) (C := RX10) (T := TX10) (N := 44) hx hb hts inlX10 tyX10 tyX10_ok nmX10 hown hK hP hD hS 0 rfl rfl 19 (by decide) (hts _ k_298) (fun _ h9 => h9) rfl (tyX10_ok 19 (by decide)) rfl rfl (Nat.le_of_ble_eq_true rfl) dX10_write_26 (fun H locs hP hD hS => ?_)
  have hP : va_P D vwCl [(h0, .inr (10, (.int v1 :: .int v2 :: .ref h2 :: .ref h3 :: .ref h4 :: .ref h5 :: .ref h6 :: .ref h7 :: .ref h8 :: .ref h9 :: .ref h10 :: .ref h1 :: .int v3 :: .ref h11 :: .ref h12 :: .ref h13 :: .ref h14 :: .int v4 :: .int v5 :: .int 115 :: .ref h15 :: .ref h16 :: .ref h17 :: .int v6 :: .ref h18 :: .int v7 :: .ref h19 :: .ref h20 :: .int v8 :: .ref h21 :: .ref h22 :: .int v9 :: .int v10 :: .int v11 :: .int v12 :: .int v13 :: .int v14 :: .int v15 :: .int v16 :: .ref h23 :: .long v17 :: .long v18 :: .long v19 :: .long v20 :: []))), (h1, .inl (G.1, 60, .inl v21)), (h14, .inl (G.1, 1336, .inl f569))] H := hP
  have hD : va_D A [(h0, .inr (10, (.int v1 :: .int v2 :: .ref h2 :: .ref h3 :: .ref h4 :: .ref h5 :: .ref h6 :: .ref h7 :: .ref h8 :: .ref h9 :: .ref h10 :: .ref h1 :: .int v3 :: .ref h11 :: .ref h12 :: .ref h13 :: .ref h14 :: .int v4 :: .int v5 :: .int 115 :: .ref h15 :: .ref h16 :: .ref h17 :: .int v6 :: .ref h18 :: .int v7 :: .ref h19 :: .ref h20 :: .int v8 :: .ref h21 :: .ref h22 :: .int v9 :: .int v10 :: .int v11 :: .int v12 :: .int v13 :: .int v14 :: .int v15 :: .int v16 :: .ref h23 :: .long v17 :: .long v18 :: .long v19 :: .long v20 :: []))), (h1, .inl (G.1, 60, .inl v21)), (h14, .inl (G.1, 1336, .inl f569))] := hD
  refine lv_iinc (v := 23) (lv' := [(3, .int 23), (0, .ref h0), (1, .ref h1), (2, .int 60)]) hx hb dX10_write_29 hl (k := 0) rfl (by decide) (by decide) rfl (fun ls hl => ?_)
  refine lv_goto (tgt := 2) hx hb dX10_write_32 (by decide) ?_
  refine lv_iload_n hx hb dX10_write_2 rfl (lv_at hl 0 rfl) ?_
  refine lv_iload_n hx hb dX10_write_3 rfl (lv_at hl 3 rfl) ?_
  refine lv_icmp_ge (tgt := 35) hx hb dX10_write_4 (by decide) (fun h9 => absurd h9 (by decide)) (fun _ => ?_)
  refine lv_aload_n hx hb dX10_write_7 rfl (lv_at hl 1 rfl) ?_
  refine va_get (D := D) (ci := 10) (v := .ref h14) (C := RX10) (T := TX10) (N := 44) hx hb hts inlX10 hown hK hP 0 rfl rfl 16 (by decide) (hts _ k_105) (fun _ h9 => h9) rfl dX10_write_8 ?_
  refine lv_aload_n hx hb dX10_write_11 rfl (lv_at hl 1 rfl) ?_
  refine va_get (D := D) (ci := 10) (v := .int 115) (C := RX10) (T := TX10) (N := 44) hx hb hts inlX10 hown hK hP 0 rfl rfl 19 (by decide) (hts _ k_298) (fun _ h9 => h9) rfl dX10_write_12 ?_
  refine lv_aload_n hx hb dX10_write_15 rfl (lv_at hl 2 rfl) ?_
  refine lv_iload_n hx hb dX10_write_16 rfl (lv_at hl 0 rfl) ?_
  refine va_iald hx hb hK hP 1 0 rfl rfl (show ¬ ((23 : Int32) < 0 ∨ 60 ≤ (23 : Int32).toNatClampNeg) by decide) dX10_write_17 ?_
  refine lv_topi (fun x570 _ => ?_)
  refine va_iast hx hb hK hP hD hS 2 0 rfl rfl (show ¬ ((115 : Int32) < 0 ∨ 1336 ≤ (115 : Int32).toNatClampNeg) by decide) dX10_write_18 (fun H locs hP hD hS => ?_)
  obtain ⟨f571, hP, hD⟩ : ∃ f571, va_P D vwCl [(h0, .inr (10, (.int v1 :: .int v2 :: .ref h2 :: .ref h3 :: .ref h4 :: .ref h5 :: .ref h6 :: .ref h7 :: .ref h8 :: .ref h9 :: .ref h10 :: .ref h1 :: .int v3 :: .ref h11 :: .ref h12 :: .ref h13 :: .ref h14 :: .int v4 :: .int v5 :: .int 115 :: .ref h15 :: .ref h16 :: .ref h17 :: .int v6 :: .ref h18 :: .int v7 :: .ref h19 :: .ref h20 :: .int v8 :: .ref h21 :: .ref h22 :: .int v9 :: .int v10 :: .int v11 :: .int v12 :: .int v13 :: .int v14 :: .int v15 :: .int v16 :: .ref h23 :: .long v17 :: .long v18 :: .long v19 :: .long v20 :: []))), (h1, .inl (G.1, 60, .inl v21)), (h14, .inl (G.1, 1336, .inl f571))] H ∧ va_D A [(h0, .inr (10, (.int v1 :: .int v2 :: .ref h2 :: .ref h3 :: .ref h4 :: .ref h5 :: .ref h6 :: .ref h7 :: .ref h8 :: .ref h9 :: .ref h10 :: .ref h1 :: .int v3 :: .ref h11 :: .ref h12 :: .ref h13 :: .ref h14 :: .int v4 :: .int v5 :: .int 115 :: .ref h15 :: .ref h16 :: .ref h17 :: .int v6 :: .ref h18 :: .int v7 :: .ref h19 :: .ref h20 :: .int v8 :: .ref h21 :: .ref h22 :: .int v9 :: .int v10 :: .int v11 :: .int v12 :: .int v13 :: .int v14 :: .int v15 :: .int v16 :: .ref h23 :: .long v17 :: .long v18 :: .long v19 :: .long v20 :: []))), (h1, .inl (G.1, 60, .inl v21)), (h14, .inl (G.1, 1336, .inl f571))] := ⟨_, hP, hD⟩
  refine lv_aload_n hx hb dX10_write_19 rfl (lv_at hl 1 rfl) ?_
  refine lv_dup hx hb dX10_write_20 rfl ?_
  refine va_get (D := D) (ci := 10) (v := .int 115) (C := RX10) (T := TX10) (N := 44) hx hb hts inlX10 hown hK hP 0 rfl rfl 19 (by decide) (hts _ k_298) (fun _ h9 => h9) rfl dX10_write_21 ?_
  refine lv_iconst (v := 1) hx hb dX10_write_24 (by decide) ?_
  refine lv_iadd hx hb dX10_write_25 ?_
  refine ow_i (y := 116) (by decide) ?_
  refine va_put (D := D) (ci := 10) (v := .int 116) (ty := .int) (C := RX10) (T := TX10) (N := 44) hx hb hts inlX10 tyX10 tyX10_ok nmX10 hown hK hP hD hS 0 rfl rfl 19 (by decide) (hts _ k_298) (fun _ h9 => h9) rfl (tyX10_ok 19 (by decide)) rfl rfl (Nat.le_of_ble_eq_true rfl) dX10_write_26 (fun H locs hP hD hS => ?_)
  have hP : va_P D vwCl [(h0, .inr (10, (.int v1 :: .int v2 :: .ref h2 :: .ref h3 :: .ref h4 :: .ref h5 :: .ref h6 :: .ref h7 :: .ref h8 :: .ref h9 :: .ref h10 :: .ref h1 :: .int v3 :: .ref h11 :: .ref h12 :: .ref h13 :: .ref h14 :: .int v4 :: .int v5 :: .int 116 :: .ref h15 :: .ref h16 :: .ref h17 :: .int v6 :: .ref h18 :: .int v7 :: .ref h19 :: .ref h20 :: .int v8 :: .ref h21 :: .ref h22 :: .int v9 :: .int v10 :: .int v11 :: .int v12 :: .int v13 :: .int v14 :: .int v15 :: .int v16 :: .ref h23 :: .long v17 :: .long v18 :: .long v19 :: .long v20 :: []))), (h1, .inl (G.1, 60, .inl v21)), (h14, .inl (G.1, 1336, .inl f571))] H := hP
  have hD : va_D A [(h0, .inr (10, (.int v1 :: .int v2 :: .ref h2 :: .ref h3 :: .ref h4 :: .ref h5 :: .ref h6 :: .ref h7 :: .ref h8 :: .ref h9 :: .ref h10 :: .ref h1 :: .int v3 :: .ref h11 :: .ref h12 :: .ref h13 :: .ref h14 :: .int v4 :: .int v5 :: .int 116 :: .ref h15 :: .ref h16 :: .ref h17 :: .int v6 :: .ref h18 :: .int v7 :: .ref h19 :: .ref h20 :: .int v8 :: .ref h21 :: .ref h22 :: .int v9 :: .int v10 :: .int v11 :: .int v12 :: .int v13 :: .int v14 :: .int v15 :: .int v16 :: .ref h23 :: .long v17 :: .long v18 :: .long v19 :: .long v20 :: []))), (h1, .inl (G.1, 60, .inl v21)), (h14, .inl (G.1, 1336, .inl f571))] := hD
  refine lv_iinc (v := 24) (lv' := [(3, .int 24), (0, .ref h0), (1, .ref h1), (2, .int 60)]) hx hb dX10_write_29 hl (k := 0) rfl (by decide) (by decide) rfl (fun ls hl => ?_)
  refine lv_goto (tgt := 2) hx hb dX10_write_32 (by decide) ?_
  refine lv_iload_n hx hb dX10_write_2 rfl (lv_at hl 0 rfl) ?_
  refine lv_iload_n hx hb dX10_write_3 rfl (lv_at hl 3 rfl) ?_
  refine lv_icmp_ge (tgt := 35) hx hb dX10_write_4 (by decide) (fun h9 => absurd h9 (by decide)) (fun _ => ?_)
  refine lv_aload_n hx hb dX10_write_7 rfl (lv_at hl 1 rfl) ?_
  refine va_get (D := D) (ci := 10) (v := .ref h14) (C := RX10) (T := TX10) (N := 44) hx hb hts inlX10 hown hK hP 0 rfl rfl 16 (by decide) (hts _ k_105) (fun _ h9 => h9) rfl dX10_write_8 ?_
  refine lv_aload_n hx hb dX10_write_11 rfl (lv_at hl 1 rfl) ?_
  refine va_get (D := D) (ci := 10) (v := .int 116) (C := RX10) (T := TX10) (N := 44) hx hb hts inlX10 hown hK hP 0 rfl rfl 19 (by decide) (hts _ k_298) (fun _ h9 => h9) rfl dX10_write_12 ?_
  refine lv_aload_n hx hb dX10_write_15 rfl (lv_at hl 2 rfl) ?_
  refine lv_iload_n hx hb dX10_write_16 rfl (lv_at hl 0 rfl) ?_
  refine va_iald hx hb hK hP 1 0 rfl rfl (show ¬ ((24 : Int32) < 0 ∨ 60 ≤ (24 : Int32).toNatClampNeg) by decide) dX10_write_17 ?_
  refine lv_topi (fun x572 _ => ?_)
  refine va_iast hx hb hK hP hD hS 2 0 rfl rfl (show ¬ ((116 : Int32) < 0 ∨ 1336 ≤ (116 : Int32).toNatClampNeg) by decide) dX10_write_18 (fun H locs hP hD hS => ?_)
  obtain ⟨f573, hP, hD⟩ : ∃ f573, va_P D vwCl [(h0, .inr (10, (.int v1 :: .int v2 :: .ref h2 :: .ref h3 :: .ref h4 :: .ref h5 :: .ref h6 :: .ref h7 :: .ref h8 :: .ref h9 :: .ref h10 :: .ref h1 :: .int v3 :: .ref h11 :: .ref h12 :: .ref h13 :: .ref h14 :: .int v4 :: .int v5 :: .int 116 :: .ref h15 :: .ref h16 :: .ref h17 :: .int v6 :: .ref h18 :: .int v7 :: .ref h19 :: .ref h20 :: .int v8 :: .ref h21 :: .ref h22 :: .int v9 :: .int v10 :: .int v11 :: .int v12 :: .int v13 :: .int v14 :: .int v15 :: .int v16 :: .ref h23 :: .long v17 :: .long v18 :: .long v19 :: .long v20 :: []))), (h1, .inl (G.1, 60, .inl v21)), (h14, .inl (G.1, 1336, .inl f573))] H ∧ va_D A [(h0, .inr (10, (.int v1 :: .int v2 :: .ref h2 :: .ref h3 :: .ref h4 :: .ref h5 :: .ref h6 :: .ref h7 :: .ref h8 :: .ref h9 :: .ref h10 :: .ref h1 :: .int v3 :: .ref h11 :: .ref h12 :: .ref h13 :: .ref h14 :: .int v4 :: .int v5 :: .int 116 :: .ref h15 :: .ref h16 :: .ref h17 :: .int v6 :: .ref h18 :: .int v7 :: .ref h19 :: .ref h20 :: .int v8 :: .ref h21 :: .ref h22 :: .int v9 :: .int v10 :: .int v11 :: .int v12 :: .int v13 :: .int v14 :: .int v15 :: .int v16 :: .ref h23 :: .long v17 :: .long v18 :: .long v19 :: .long v20 :: []))), (h1, .inl (G.1, 60, .inl v21)), (h14, .inl (G.1, 1336, .inl f573))] := ⟨_, hP, hD⟩
  refine lv_aload_n hx hb dX10_write_19 rfl (lv_at hl 1 rfl) ?_
  refine lv_dup hx hb dX10_write_20 rfl ?_
  refine va_get (D := D) (ci := 10) (v := .int 116) (C := RX10) (T := TX10) (N := 44) hx hb hts inlX10 hown hK hP 0 rfl rfl 19 (by decide) (hts _ k_298) (fun _ h9 => h9) rfl dX10_write_21 ?_
  refine lv_iconst (v := 1) hx hb dX10_write_24 (by decide) ?_
  refine lv_iadd hx hb dX10_write_25 ?_
  refine ow_i (y := 117) (by decide) ?_
  refine va_put (D := D) (ci := 10) (v := .int 117) (ty := .int) (C := RX10) (T := TX10) (N := 44) hx hb hts inlX10 tyX10 tyX10_ok nmX10 hown hK hP hD hS 0 rfl rfl 19 (by decide) (hts _ k_298) (fun _ h9 => h9) rfl (tyX10_ok 19 (by decide)) rfl rfl (Nat.le_of_ble_eq_true rfl) dX10_write_26 (fun H locs hP hD hS => ?_)
  have hP : va_P D vwCl [(h0, .inr (10, (.int v1 :: .int v2 :: .ref h2 :: .ref h3 :: .ref h4 :: .ref h5 :: .ref h6 :: .ref h7 :: .ref h8 :: .ref h9 :: .ref h10 :: .ref h1 :: .int v3 :: .ref h11 :: .ref h12 :: .ref h13 :: .ref h14 :: .int v4 :: .int v5 :: .int 117 :: .ref h15 :: .ref h16 :: .ref h17 :: .int v6 :: .ref h18 :: .int v7 :: .ref h19 :: .ref h20 :: .int v8 :: .ref h21 :: .ref h22 :: .int v9 :: .int v10 :: .int v11 :: .int v12 :: .int v13 :: .int v14 :: .int v15 :: .int v16 :: .ref h23 :: .long v17 :: .long v18 :: .long v19 :: .long v20 :: []))), (h1, .inl (G.1, 60, .inl v21)), (h14, .inl (G.1, 1336, .inl f573))] H := hP
  have hD : va_D A [(h0, .inr (10, (.int v1 :: .int v2 :: .ref h2 :: .ref h3 :: .ref h4 :: .ref h5 :: .ref h6 :: .ref h7 :: .ref h8 :: .ref h9 :: .ref h10 :: .ref h1 :: .int v3 :: .ref h11 :: .ref h12 :: .ref h13 :: .ref h14 :: .int v4 :: .int v5 :: .int 117 :: .ref h15 :: .ref h16 :: .ref h17 :: .int v6 :: .ref h18 :: .int v7 :: .ref h19 :: .ref h20 :: .int v8 :: .ref h21 :: .ref h22 :: .int v9 :: .int v10 :: .int v11 :: .int v12 :: .int v13 :: .int v14 :: .int v15 :: .int v16 :: .ref h23 :: .long v17 :: .long v18 :: .long v19 :: .long v20 :: []))), (h1, .inl (G.1, 60, .inl v21)), (h14, .inl (G.1, 1336, .inl f573))] := hD
  refine lv_iinc (v := 25) (lv' := [(3, .int 25), (0, .ref h0), (1, .ref h1), (2, .int 60)]) hx hb dX10_write_29 hl (k := 0) rfl (by decide) (by decide) rfl (fun ls hl => ?_)
  refine lv_goto (tgt := 2) hx hb dX10_write_32 (by decide) ?_
  refine lv_iload_n hx hb dX10_write_2 rfl (lv_at hl 0 rfl) ?_
  refine lv_iload_n hx hb dX10_write_3 rfl (lv_at hl 3 rfl) ?_
  refine lv_icmp_ge (tgt := 35) hx hb dX10_write_4 (by decide) (fun h9 => absurd h9 (by decide)) (fun _ => ?_)
  refine lv_aload_n hx hb dX10_write_7 rfl (lv_at hl 1 rfl) ?_
  refine va_get (D := D) (ci := 10) (v := .ref h14) (C := RX10) (T := TX10) (N := 44) hx hb hts inlX10 hown hK hP 0 rfl rfl 16 (by decide) (hts _ k_105) (fun _ h9 => h9) rfl dX10_write_8 ?_
  refine lv_aload_n hx hb dX10_write_11 rfl (lv_at hl 1 rfl) ?_
  refine va_get (D := D) (ci := 10) (v := .int 117) (C := RX10) (T := TX10) (N := 44) hx hb hts inlX10 hown hK hP 0 rfl rfl 19 (by decide) (hts _ k_298) (fun _ h9 => h9) rfl dX10_write_12 ?_
  refine lv_aload_n hx hb dX10_write_15 rfl (lv_at hl 2 rfl) ?_
  refine lv_iload_n hx hb dX10_write_16 rfl (lv_at hl 0 rfl) ?_
  refine va_iald hx hb hK hP 1 0 rfl rfl (show ¬ ((25 : Int32) < 0 ∨ 60 ≤ (25 : Int32).toNatClampNeg) by decide) dX10_write_17 ?_
  refine lv_topi (fun x574 _ => ?_)
  refine va_iast hx hb hK hP hD hS 2 0 rfl rfl (show ¬ ((117 : Int32) < 0 ∨ 1336 ≤ (117 : Int32).toNatClampNeg) by decide) dX10_write_18 (fun H locs hP hD hS => ?_)
  obtain ⟨f575, hP, hD⟩ : ∃ f575, va_P D vwCl [(h0, .inr (10, (.int v1 :: .int v2 :: .ref h2 :: .ref h3 :: .ref h4 :: .ref h5 :: .ref h6 :: .ref h7 :: .ref h8 :: .ref h9 :: .ref h10 :: .ref h1 :: .int v3 :: .ref h11 :: .ref h12 :: .ref h13 :: .ref h14 :: .int v4 :: .int v5 :: .int 117 :: .ref h15 :: .ref h16 :: .ref h17 :: .int v6 :: .ref h18 :: .int v7 :: .ref h19 :: .ref h20 :: .int v8 :: .ref h21 :: .ref h22 :: .int v9 :: .int v10 :: .int v11 :: .int v12 :: .int v13 :: .int v14 :: .int v15 :: .int v16 :: .ref h23 :: .long v17 :: .long v18 :: .long v19 :: .long v20 :: []))), (h1, .inl (G.1, 60, .inl v21)), (h14, .inl (G.1, 1336, .inl f575))] H ∧ va_D A [(h0, .inr (10, (.int v1 :: .int v2 :: .ref h2 :: .ref h3 :: .ref h4 :: .ref h5 :: .ref h6 :: .ref h7 :: .ref h8 :: .ref h9 :: .ref h10 :: .ref h1 :: .int v3 :: .ref h11 :: .ref h12 :: .ref h13 :: .ref h14 :: .int v4 :: .int v5 :: .int 117 :: .ref h15 :: .ref h16 :: .ref h17 :: .int v6 :: .ref h18 :: .int v7 :: .ref h19 :: .ref h20 :: .int v8 :: .ref h21 :: .ref h22 :: .int v9 :: .int v10 :: .int v11 :: .int v12 :: .int v13 :: .int v14 :: .int v15 :: .int v16 :: .ref h23 :: .long v17 :: .long v18 :: .long v19 :: .long v20 :: []))), (h1, .inl (G.1, 60, .inl v21)), (h14, .inl (G.1, 1336, .inl f575))] := ⟨_, hP, hD⟩
  refine lv_aload_n hx hb dX10_write_19 rfl (lv_at hl 1 rfl) ?_
  refine lv_dup hx hb dX10_write_20 rfl ?_
  refine va_get (D := D) (ci := 10) (v := .int 117) (C := RX10) (T := TX10) (N := 44) hx hb hts inlX10 hown hK hP 0 rfl rfl 19 (by decide) (hts _ k_298) (fun _ h9 => h9) rfl dX10_write_21 ?_
  refine lv_iconst (v := 1) hx hb dX10_write_24 (by decide) ?_
  refine lv_iadd hx hb dX10_write_25 ?_
  refine ow_i (y := 118) (by decide) ?_
  refine va_put (D := D) (ci := 10) (v := .int 118) (ty := .int) (C := RX10) (T := TX10) (N := 44) hx hb hts inlX10 tyX10 tyX10_ok nmX10 hown hK hP hD hS 0 rfl rfl 19 (by decide) (hts _ k_298) (fun _ h9 => h9) rfl (tyX10_ok 19 (by decide)) rfl rfl (Nat.le_of_ble_eq_true rfl) dX10_write_26 (fun H locs hP hD hS => ?_)
  have hP : va_P D vwCl [(h0, .inr (10, (.int v1 :: .int v2 :: .ref h2 :: .ref h3 :: .ref h4 :: .ref h5 :: .ref h6 :: .ref h7 :: .ref h8 :: .ref h9 :: .ref h10 :: .ref h1 :: .int v3 :: .ref h11 :: .ref h12 :: .ref h13 :: .ref h14 :: .int v4 :: .int v5 :: .int 118 :: .ref h15 :: .ref h16 :: .ref h17 :: .int v6 :: .ref h18 :: .int v7 :: .ref h19 :: .ref h20 :: .int v8 :: .ref h21 :: .ref h22 :: .int v9 :: .int v10 :: .int v11 :: .int v12 :: .int v13 :: .int v14 :: .int v15 :: .int v16 :: .ref h23 :: .long v17 :: .long v18 :: .long v19 :: .long v20 :: []))), (h1, .inl (G.1, 60, .inl v21)), (h14, .inl (G.1, 1336, .inl f575))] H := hP
  have hD : va_D A [(h0, .inr (10, (.int v1 :: .int v2 :: .ref h2 :: .ref h3 :: .ref h4 :: .ref h5 :: .ref h6 :: .ref h7 :: .ref h8 :: .ref h9 :: .ref h10 :: .ref h1 :: .int v3 :: .ref h11 :: .ref h12 :: .ref h13 :: .ref h14 :: .int v4 :: .int v5 :: .int 118 :: .ref h15 :: .ref h16 :: .ref h17 :: .int v6 :: .ref h18 :: .int v7 :: .ref h19 :: .ref h20 :: .int v8 :: .ref h21 :: .ref h22 :: .int v9 :: .int v10 :: .int v11 :: .int v12 :: .int v13 :: .int v14 :: .int v15 :: .int v16 :: .ref h23 :: .long v17 :: .long v18 :: .long v19 :: .long v20 :: []))), (h1, .inl (G.1, 60, .inl v21)), (h14, .inl (G.1, 1336, .inl f575))] := hD
  refine lv_iinc (v := 26) (lv' := [(3, .int 26), (0, .ref h0), (1, .ref h1), (2, .int 60)]) hx hb dX10_write_29 hl (k := 0) rfl (by decide) (by decide) rfl (fun ls hl => ?_)
  refine lv_goto (tgt := 2) hx hb dX10_write_32 (by decide) ?_
  refine lv_iload_n hx hb dX10_write_2 rfl (lv_at hl 0 rfl) ?_
  refine lv_iload_n hx hb dX10_write_3 rfl (lv_at hl 3 rfl) ?_
  refine lv_icmp_ge (tgt := 35) hx hb dX10_write_4 (by decide) (fun h9 => absurd h9 (by decide)) (fun _ => ?_)
  refine lv_aload_n hx hb dX10_write_7 rfl (lv_at hl 1 rfl) ?_
  refine va_get (D := D) (ci := 10) (v := .ref h14) (C := RX10) (T := TX10) (N := 44) hx hb hts inlX10 hown hK hP 0 rfl rfl 16 (by decide) (hts _ k_105) (fun _ h9 => h9) rfl dX10_write_8 ?_
  refine lv_aload_n hx hb dX10_write_11 rfl (lv_at hl 1 rfl) ?_
  refine va_get (D := D) (ci := 10) (v := .int 118) (C := RX10) (T := TX10) (N := 44) hx hb hts inlX10 hown hK hP 0 rfl rfl 19 (by decide) (hts _ k_298) (fun _ h9 => h9) rfl dX10_write_12 ?_
  refine lv_aload_n hx hb dX10_write_15 rfl (lv_at hl 2 rfl) ?_
  refine lv_iload_n hx hb dX10_write_16 rfl (lv_at hl 0 rfl) ?_
  refine va_iald hx hb hK hP 1 0 rfl rfl (show ¬ ((26 : Int32) < 0 ∨ 60 ≤ (26 : Int32).toNatClampNeg) by decide) dX10_write_17 ?_
  refine lv_topi (fun x576 _ => ?_)
  refine va_iast hx hb hK hP hD hS 2 0 rfl rfl (show ¬ ((118 : Int32) < 0 ∨ 1336 ≤ (118 : Int32).toNatClampNeg) by decide) dX10_write_18 (fun H locs hP hD hS => ?_)
  obtain ⟨f577, hP, hD⟩ : ∃ f577, va_P D vwCl [(h0, .inr (10, (.int v1 :: .int v2 :: .ref h2 :: .ref h3 :: .ref h4 :: .ref h5 :: .ref h6 :: .ref h7 :: .ref h8 :: .ref h9 :: .ref h10 :: .ref h1 :: .int v3 :: .ref h11 :: .ref h12 :: .ref h13 :: .ref h14 :: .int v4 :: .int v5 :: .int 118 :: .ref h15 :: .ref h16 :: .ref h17 :: .int v6 :: .ref h18 :: .int v7 :: .ref h19 :: .ref h20 :: .int v8 :: .ref h21 :: .ref h22 :: .int v9 :: .int v10 :: .int v11 :: .int v12 :: .int v13 :: .int v14 :: .int v15 :: .int v16 :: .ref h23 :: .long v17 :: .long v18 :: .long v19 :: .long v20 :: []))), (h1, .inl (G.1, 60, .inl v21)), (h14, .inl (G.1, 1336, .inl f577))] H ∧ va_D A [(h0, .inr (10, (.int v1 :: .int v2 :: .ref h2 :: .ref h3 :: .ref h4 :: .ref h5 :: .ref h6 :: .ref h7 :: .ref h8 :: .ref h9 :: .ref h10 :: .ref h1 :: .int v3 :: .ref h11 :: .ref h12 :: .ref h13 :: .ref h14 :: .int v4 :: .int v5 :: .int 118 :: .ref h15 :: .ref h16 :: .ref h17 :: .int v6 :: .ref h18 :: .int v7 :: .ref h19 :: .ref h20 :: .int v8 :: .ref h21 :: .ref h22 :: .int v9 :: .int v10 :: .int v11 :: .int v12 :: .int v13 :: .int v14 :: .int v15 :: .int v16 :: .ref h23 :: .long v17 :: .long v18 :: .long v19 :: .long v20 :: []))), (h1, .inl (G.1, 60, .inl v21)), (h14, .inl (G.1, 1336, .inl f577))] := ⟨_, hP, hD⟩
  refine lv_aload_n hx hb dX10_write_19 rfl (lv_at hl 1 rfl) ?_
  refine lv_dup hx hb dX10_write_20 rfl ?_
  refine va_get (D := D) (ci := 10) (v := .int 118) (C := RX10) (T := TX10) (N := 44) hx hb hts inlX10 hown hK hP 0 rfl rfl 19 (by decide) (hts _ k_298) (fun _ h9 => h9) rfl dX10_write_21 ?_
  refine lv_iconst (v := 1) hx hb dX10_write_24 (by decide) ?_
  refine lv_iadd hx hb dX10_write_25 ?_
  refine ow_i (y := 119) (by decide) ?_
  refine va_put (D := D) (ci := 10) (v := .int 119) (ty := .int) (C := RX10) (T := TX10) (N := 44) hx hb hts inlX10 tyX10 tyX10_ok nmX10 hown hK hP hD hS 0 rfl rfl 19 (by decide) (hts _ k_298) (fun _ h9 => h9) rfl (tyX10_ok 19 (by decide)) rfl rfl (Nat.le_of_ble_eq_true rfl) dX10_write_26 (fun H locs hP hD hS => ?_)
  have hP : va_P D vwCl [(h0, .inr (10, (.int v1 :: .int v2 :: .ref h2 :: .ref h3 :: .ref h4 :: .ref h5 :: .ref h6 :: .ref h7 :: .ref h8 :: .ref h9 :: .ref h10 :: .ref h1 :: .int v3 :: .ref h11 :: .ref h12 :: .ref h13 :: .ref h14 :: .int v4 :: .int v5 :: .int 119 :: .ref h15 :: .ref h16 :: .ref h17 :: .int v6 :: .ref h18 :: .int v7 :: .ref h19 :: .ref h20 :: .int v8 :: .ref h21 :: .ref h22 :: .int v9 :: .int v10 :: .int v11 :: .int v12 :: .int v13 :: .int v14 :: .int v15 :: .int v16 :: .ref h23 :: .long v17 :: .long v18 :: .long v19 :: .long v20 :: []))), (h1, .inl (G.1, 60, .inl v21)), (h14, .inl (G.1, 1336, .inl f577))] H := hP
  have hD : va_D A [(h0, .inr (10, (.int v1 :: .int v2 :: .ref h2 :: .ref h3 :: .ref h4 :: .ref h5 :: .ref h6 :: .ref h7 :: .ref h8 :: .ref h9 :: .ref h10 :: .ref h1 :: .int v3 :: .ref h11 :: .ref h12 :: .ref h13 :: .ref h14 :: .int v4 :: .int v5 :: .int 119 :: .ref h15 :: .ref h16 :: .ref h17 :: .int v6 :: .ref h18 :: .int v7 :: .ref h19 :: .ref h20 :: .int v8 :: .ref h21 :: .ref h22 :: .int v9 :: .int v10 :: .int v11 :: .int v12 :: .int v13 :: .int v14 :: .int v15 :: .int v16 :: .ref h23 :: .long v17 :: .long v18 :: .long v19 :: .long v20 :: []))), (h1, .inl (G.1, 60, .inl v21)), (h14, .inl (G.1, 1336, .inl f577))] := hD
  refine lv_iinc (v := 27) (lv' := [(3, .int 27), (0, .ref h0), (1, .ref h1), (2, .int 60)]) hx hb dX10_write_29 hl (k := 0) rfl (by decide) (by decide) rfl (fun ls hl => ?_)
  refine lv_goto (tgt := 2) hx hb dX10_write_32 (by decide) ?_
  refine lv_iload_n hx hb dX10_write_2 rfl (lv_at hl 0 rfl) ?_
  refine lv_iload_n hx hb dX10_write_3 rfl (lv_at hl 3 rfl) ?_
  refine lv_icmp_ge (tgt := 35) hx hb dX10_write_4 (by decide) (fun h9 => absurd h9 (by decide)) (fun _ => ?_)
  refine lv_aload_n hx hb dX10_write_7 rfl (lv_at hl 1 rfl) ?_
  refine va_get (D := D) (ci := 10) (v := .ref h14) (C := RX10) (T := TX10) (N := 44) hx hb hts inlX10 hown hK hP 0 rfl rfl 16 (by decide) (hts _ k_105) (fun _ h9 => h9) rfl dX10_write_8 ?_
  refine lv_aload_n hx hb dX10_write_11 rfl (lv_at hl 1 rfl) ?_
  refine va_get (D := D) (ci := 10) (v := .int 119) (C := RX10) (T := TX10) (N := 44) hx hb hts inlX10 hown hK hP 0 rfl rfl 19 (by decide) (hts _ k_298) (fun _ h9 => h9) rfl dX10_write_12 ?_
  refine lv_aload_n hx hb dX10_write_15 rfl (lv_at hl 2 rfl) ?_
  refine lv_iload_n hx hb dX10_write_16 rfl (lv_at hl 0 rfl) ?_
  refine va_iald hx hb hK hP 1 0 rfl rfl (show ¬ ((27 : Int32) < 0 ∨ 60 ≤ (27 : Int32).toNatClampNeg) by decide) dX10_write_17 ?_
  refine lv_topi (fun x578 _ => ?_)
  refine va_iast hx hb hK hP hD hS 2 0 rfl rfl (show ¬ ((119 : Int32) < 0 ∨ 1336 ≤ (119 : Int32).toNatClampNeg) by decide) dX10_write_18 (fun H locs hP hD hS => ?_)
  obtain ⟨f579, hP, hD⟩ : ∃ f579, va_P D vwCl [(h0, .inr (10, (.int v1 :: .int v2 :: .ref h2 :: .ref h3 :: .ref h4 :: .ref h5 :: .ref h6 :: .ref h7 :: .ref h8 :: .ref h9 :: .ref h10 :: .ref h1 :: .int v3 :: .ref h11 :: .ref h12 :: .ref h13 :: .ref h14 :: .int v4 :: .int v5 :: .int 119 :: .ref h15 :: .ref h16 :: .ref h17 :: .int v6 :: .ref h18 :: .int v7 :: .ref h19 :: .ref h20 :: .int v8 :: .ref h21 :: .ref h22 :: .int v9 :: .int v10 :: .int v11 :: .int v12 :: .int v13 :: .int v14 :: .int v15 :: .int v16 :: .ref h23 :: .long v17 :: .long v18 :: .long v19 :: .long v20 :: []))), (h1, .inl (G.1, 60, .inl v21)), (h14, .inl (G.1, 1336, .inl f579))] H ∧ va_D A [(h0, .inr (10, (.int v1 :: .int v2 :: .ref h2 :: .ref h3 :: .ref h4 :: .ref h5 :: .ref h6 :: .ref h7 :: .ref h8 :: .ref h9 :: .ref h10 :: .ref h1 :: .int v3 :: .ref h11 :: .ref h12 :: .ref h13 :: .ref h14 :: .int v4 :: .int v5 :: .int 119 :: .ref h15 :: .ref h16 :: .ref h17 :: .int v6 :: .ref h18 :: .int v7 :: .ref h19 :: .ref h20 :: .int v8 :: .ref h21 :: .ref h22 :: .int v9 :: .int v10 :: .int v11 :: .int v12 :: .int v13 :: .int v14 :: .int v15 :: .int v16 :: .ref h23 :: .long v17 :: .long v18 :: .long v19 :: .long v20 :: []))), (h1, .inl (G.1, 60, .inl v21)), (h14, .inl (G.1, 1336, .inl f579))] := ⟨_, hP, hD⟩
  refine lv_aload_n hx hb dX10_write_19 rfl (lv_at hl 1 rfl) ?_
  refine lv_dup hx hb dX10_write_20 rfl ?_
  refine va_get (D := D) (ci := 10) (v := .int 119) (C := RX10) (T := TX10) (N := 44) hx hb hts inlX10 hown hK hP 0 rfl rfl 19 (by decide) (hts _ k_298) (fun _ h9 => h9) rfl dX10_write_21 ?_
  refine lv_iconst (v := 1) hx hb dX10_write_24 (by decide) ?_
  refine lv_iadd hx hb dX10_write_25 ?_
  refine ow_i (y := 120) (by decide) ?_
  refine va_put (D := D) (ci := 10) (v := .int 120) (ty := .int) (C := RX10) (T := TX10) (N := 44) hx hb hts inlX10 tyX10 tyX10_ok nmX10 hown hK hP hD hS 0 rfl rfl 19 (by decide) (hts _ k_298) (fun _ h9 => h9) rfl (tyX10_ok 19 (by decide)) rfl rfl (Nat.le_of_ble_eq_true rfl) dX10_write_26 (fun H locs hP hD hS => ?_)
  have hP : va_P D vwCl [(h0, .inr (10, (.int v1 :: .int v2 :: .ref h2 :: .ref h3 :: .ref h4 :: .ref h5 :: .ref h6 :: .ref h7 :: .ref h8 :: .ref h9 :: .ref h10 :: .ref h1 :: .int v3 :: .ref h11 :: .ref h12 :: .ref h13 :: .ref h14 :: .int v4 :: .int v5 :: .int 120 :: .ref h15 :: .ref h16 :: .ref h17 :: .int v6 :: .ref h18 :: .int v7 :: .ref h19 :: .ref h20 :: .int v8 :: .ref h21 :: .ref h22 :: .int v9 :: .int v10 :: .int v11 :: .int v12 :: .int v13 :: .int v14 :: .int v15 :: .int v16 :: .ref h23 :: .long v17 :: .long v18 :: .long v19 :: .long v20 :: []))), (h1, .inl (G.1, 60, .inl v21)), (h14, .inl (G.1, 1336, .inl f579))] H := hP
  have hD : va_D A [(h0, .inr (10, (.int v1 :: .int v2 :: .ref h2 :: .ref h3 :: .ref h4 :: .ref h5 :: .ref h6 :: .ref h7 :: .ref h8 :: .ref h9 :: .ref h10 :: .ref h1 :: .int v3 :: .ref h11 :: .ref h12 :: .ref h13 :: .ref h14 :: .int v4 :: .int v5 :: .int 120 :: .ref h15 :: .ref h16 :: .ref h17 :: .int v6 :: .ref h18 :: .int v7 :: .ref h19 :: .ref h20 :: .int v8 :: .ref h21 :: .ref h22 :: .int v9 :: .int v10 :: .int v11 :: .int v12 :: .int v13 :: .int v14 :: .int v15 :: .int v16 :: .ref h23 :: .long v17 :: .long v18 :: .long v19 :: .long v20 :: []))), (h1, .inl (G.1, 60, .inl v21)), (h14, .inl (G.1, 1336, .inl f579))] := hD
  refine lv_iinc (v := 28) (lv' := [(3, .int 28), (0, .ref h0), (1, .ref h1), (2, .int 60)]) hx hb dX10_write_29 hl (k := 0) rfl (by decide) (by decide) rfl (fun ls hl => ?_)
  refine lv_goto (tgt := 2) hx hb dX10_write_32 (by decide) ?_
  refine lv_iload_n hx hb dX10_write_2 rfl (lv_at hl 0 rfl) ?_
  refine lv_iload_n hx hb dX10_write_3 rfl (lv_at hl 3 rfl) ?_
  refine lv_icmp_ge (tgt := 35) hx hb dX10_write_4 (by decide) (fun h9 => absurd h9 (by decide)) (fun _ => ?_)
  refine lv_aload_n hx hb dX10_write_7 rfl (lv_at hl 1 rfl) ?_
  refine va_get (D := D) (ci := 10) (v := .ref h14) (C := RX10) (T := TX10) (N := 44) hx hb hts inlX10 hown hK hP 0 rfl rfl 16 (by decide) (hts _ k_105) (fun _ h9 => h9) rfl dX10_write_8 ?_
  refine lv_aload_n hx hb dX10_write_11 rfl (lv_at hl 1 rfl) ?_
  refine va_get (D := D) (ci := 10) (v := .int 120) (C := RX10) (T := TX10) (N := 44) hx hb hts inlX10 hown hK hP 0 rfl rfl 19 (by decide) (hts _ k_298) (fun _ h9 => h9) rfl dX10_write_12 ?_
  refine lv_aload_n hx hb dX10_write_15 rfl (lv_at hl 2 rfl) ?_
  refine lv_iload_n hx hb dX10_write_16 rfl (lv_at hl 0 rfl) ?_
  refine va_iald hx hb hK hP 1 0 rfl rfl (show ¬ ((28 : Int32) < 0 ∨ 60 ≤ (28 : Int32).toNatClampNeg) by decide) dX10_write_17 ?_
  refine lv_topi (fun x580 _ => ?_)
  refine va_iast hx hb hK hP hD hS 2 0 rfl rfl (show ¬ ((120 : Int32) < 0 ∨ 1336 ≤ (120 : Int32).toNatClampNeg) by decide) dX10_write_18 (fun H locs hP hD hS => ?_)
  obtain ⟨f581, hP, hD⟩ : ∃ f581, va_P D vwCl [(h0, .inr (10, (.int v1 :: .int v2 :: .ref h2 :: .ref h3 :: .ref h4 :: .ref h5 :: .ref h6 :: .ref h7 :: .ref h8 :: .ref h9 :: .ref h10 :: .ref h1 :: .int v3 :: .ref h11 :: .ref h12 :: .ref h13 :: .ref h14 :: .int v4 :: .int v5 :: .int 120 :: .ref h15 :: .ref h16 :: .ref h17 :: .int v6 :: .ref h18 :: .int v7 :: .ref h19 :: .ref h20 :: .int v8 :: .ref h21 :: .ref h22 :: .int v9 :: .int v10 :: .int v11 :: .int v12 :: .int v13 :: .int v14 :: .int v15 :: .int v16 :: .ref h23 :: .long v17 :: .long v18 :: .long v19 :: .long v20 :: []))), (h1, .inl (G.1, 60, .inl v21)), (h14, .inl (G.1, 1336, .inl f581))] H ∧ va_D A [(h0, .inr (10, (.int v1 :: .int v2 :: .ref h2 :: .ref h3 :: .ref h4 :: .ref h5 :: .ref h6 :: .ref h7 :: .ref h8 :: .ref h9 :: .ref h10 :: .ref h1 :: .int v3 :: .ref h11 :: .ref h12 :: .ref h13 :: .ref h14 :: .int v4 :: .int v5 :: .int 120 :: .ref h15 :: .ref h16 :: .ref h17 :: .int v6 :: .ref h18 :: .int v7 :: .ref h19 :: .ref h20 :: .int v8 :: .ref h21 :: .ref h22 :: .int v9 :: .int v10 :: .int v11 :: .int v12 :: .int v13 :: .int v14 :: .int v15 :: .int v16 :: .ref h23 :: .long v17 :: .long v18 :: .long v19 :: .long v20 :: []))), (h1, .inl (G.1, 60, .inl v21)), (h14, .inl (G.1, 1336, .inl f581))] := ⟨_, hP, hD⟩
  refine lv_aload_n hx hb dX10_write_19 rfl (lv_at hl 1 rfl) ?_
  refine lv_dup hx hb dX10_write_20 rfl ?_
  refine va_get (D := D) (ci := 10) (v := .int 120) (C := RX10) (T := TX10) (N := 44) hx hb hts inlX10 hown hK hP 0 rfl rfl 19 (by decide) (hts _ k_298) (fun _ h9 => h9) rfl dX10_write_21 ?_
  refine lv_iconst (v := 1) hx hb dX10_write_24 (by decide) ?_
  refine lv_iadd hx hb dX10_write_25 ?_
  refine ow_i (y := 121) (by decide) ?_
  refine va_put (D := D) (ci := 10) (v := .int 121) (ty := .int) (C := RX10) (T := TX10) (N := 44) hx hb hts inlX10 tyX10 tyX10_ok nmX10 hown hK hP hD hS 0 rfl rfl 19 (by decide) (hts _ k_298) (fun _ h9 => h9) rfl (tyX10_ok 19 (by decide)) rfl rfl (Nat.le_of_ble_eq_true rfl) dX10_write_26 (fun H locs hP hD hS => ?_)
  have hP : va_P D vwCl [(h0, .inr (10, (.int v1 :: .int v2 :: .ref h2 :: .ref h3 :: .ref h4 :: .ref h5 :: .ref h6 :: .ref h7 :: .ref h8 :: .ref h9 :: .ref h10 :: .ref h1 :: .int v3 :: .ref h11 :: .ref h12 :: .ref h13 :: .ref h14 :: .int v4 :: .int v5 :: .int 121 :: .ref h15 :: .ref h16 :: .ref h17 :: .int v6 :: .ref h18 :: .int v7 :: .ref h19 :: .ref h20 :: .int v8 :: .ref h21 :: .ref h22 :: .int v9 :: .int v10 :: .int v11 :: .int v12 :: .int v13 :: .int v14 :: .int v15 :: .int v16 :: .ref h23 :: .long v17 :: .long v18 :: .long v19 :: .long v20 :: []))), (h1, .inl (G.1, 60, .inl v21)), (h14, .inl (G.1, 1336, .inl f581))] H := hP
  have hD : va_D A [(h0, .inr (10, (.int v1 :: .int v2 :: .ref h2 :: .ref h3 :: .ref h4 :: .ref h5 :: .ref h6 :: .ref h7 :: .ref h8 :: .ref h9 :: .ref h10 :: .ref h1 :: .int v3 :: .ref h11 :: .ref h12 :: .ref h13 :: .ref h14 :: .int v4 :: .int v5 :: .int 121 :: .ref h15 :: .ref h16 :: .ref h17 :: .int v6 :: .ref h18 :: .int v7 :: .ref h19 :: .ref h20 :: .int v8 :: .ref h21 :: .ref h22 :: .int v9 :: .int v10 :: .int v11 :: .int v12 :: .int v13 :: .int v14 :: .int v15 :: .int v16 :: .ref h23 :: .long v17 :: .long v18 :: .long v19 :: .long v20 :: []))), (h1, .inl (G.1, 60, .inl v21)), (h14, .inl (G.1, 1336, .inl f581))] := hD
  refine lv_iinc (v := 29) (lv' := [(3, .int 29), (0, .ref h0), (1, .ref h1), (2, .int 60)]) hx hb dX10_write_29 hl (k := 0) rfl (by decide) (by decide) rfl (fun ls hl => ?_)
  refine lv_goto (tgt := 2) hx hb dX10_write_32 (by decide) ?_
  refine lv_iload_n hx hb dX10_write_2 rfl (lv_at hl 0 rfl) ?_
  refine lv_iload_n hx hb dX10_write_3 rfl (lv_at hl 3 rfl) ?_
  refine lv_icmp_ge (tgt := 35) hx hb dX10_write_4 (by decide) (fun h9 => absurd h9 (by decide)) (fun _ => ?_)
  refine lv_aload_n hx hb dX10_write_7 rfl (lv_at hl 1 rfl) ?_
  refine va_get (D := D) (ci := 10) (v := .ref h14) (C := RX10) (T := TX10) (N := 44) hx hb hts inlX10 hown hK hP 0 rfl rfl 16 (by decide) (hts _ k_105) (fun _ h9 => h9) rfl dX10_write_8 ?_
  refine lv_aload_n hx hb dX10_write_11 rfl (lv_at hl 1 rfl) ?_
  refine va_get (D := D) (ci := 10) (v := .int 121) (C := RX10) (T := TX10) (N := 44) hx hb hts inlX10 hown hK hP 0 rfl rfl 19 (by decide) (hts _ k_298) (fun _ h9 => h9) rfl dX10_write_12 ?_
  refine lv_aload_n hx hb dX10_write_15 rfl (lv_at hl 2 rfl) ?_
  refine lv_iload_n hx hb dX10_write_16 rfl (lv_at hl 0 rfl) ?_
  refine va_iald hx hb hK hP 1 0 rfl rfl (show ¬ ((29 : Int32) < 0 ∨ 60 ≤ (29 : Int32).toNatClampNeg) by decide) dX10_write_17 ?_
  refine lv_topi (fun x582 _ => ?_)
  refine va_iast hx hb hK hP hD hS 2 0 rfl rfl (show ¬ ((121 : Int32) < 0 ∨ 1336 ≤ (121 : Int32).toNatClampNeg) by decide) dX10_write_18 (fun H locs hP hD hS => ?_)
  obtain ⟨f583, hP, hD⟩ : ∃ f583, va_P D vwCl [(h0, .inr (10, (.int v1 :: .int v2 :: .ref h2 :: .ref h3 :: .ref h4 :: .ref h5 :: .ref h6 :: .ref h7 :: .ref h8 :: .ref h9 :: .ref h10 :: .ref h1 :: .int v3 :: .ref h11 :: .ref h12 :: .ref h13 :: .ref h14 :: .int v4 :: .int v5 :: .int 121 :: .ref h15 :: .ref h16 :: .ref h17 :: .int v6 :: .ref h18 :: .int v7 :: .ref h19 :: .ref h20 :: .int v8 :: .ref h21 :: .ref h22 :: .int v9 :: .int v10 :: .int v11 :: .int v12 :: .int v13 :: .int v14 :: .int v15 :: .int v16 :: .ref h23 :: .long v17 :: .long v18 :: .long v19 :: .long v20 :: []))), (h1, .inl (G.1, 60, .inl v21)), (h14, .inl (G.1, 1336, .inl f583))] H ∧ va_D A [(h0, .inr (10, (.int v1 :: .int v2 :: .ref h2 :: .ref h3 :: .ref h4 :: .ref h5 :: .ref h6 :: .ref h7 :: .ref h8 :: .ref h9 :: .ref h10 :: .ref h1 :: .int v3 :: .ref h11 :: .ref h12 :: .ref h13 :: .ref h14 :: .int v4 :: .int v5 :: .int 121 :: .ref h15 :: .ref h16 :: .ref h17 :: .int v6 :: .ref h18 :: .int v7 :: .ref h19 :: .ref h20 :: .int v8 :: .ref h21 :: .ref h22 :: .int v9 :: .int v10 :: .int v11 :: .int v12 :: .int v13 :: .int v14 :: .int v15 :: .int v16 :: .ref h23 :: .long v17 :: .long v18 :: .long v19 :: .long v20 :: []))), (h1, .inl (G.1, 60, .inl v21)), (h14, .inl (G.1, 1336, .inl f583))] := ⟨_, hP, hD⟩
  refine lv_aload_n hx hb dX10_write_19 rfl (lv_at hl 1 rfl) ?_
  refine lv_dup hx hb dX10_write_20 rfl ?_
  refine va_get (D := D) (ci := 10) (v := .int 121) (C := RX10) (T := TX10) (N := 44) hx hb hts inlX10 hown hK hP 0 rfl rfl 19 (by decide) (hts _ k_298) (fun _ h9 => h9) rfl dX10_write_21 ?_
  refine lv_iconst (v := 1) hx hb dX10_write_24 (by decide) ?_
  refine lv_iadd hx hb dX10_write_25 ?_
  refine ow_i (y := 122) (by decide) ?_
  refine va_put (D := D) (ci := 10) (v := .int 122) (ty := .int) (C := RX10) (T := TX10) (N := 44) hx hb hts inlX10 tyX10 tyX10_ok nmX10 hown hK hP hD hS 0 rfl rfl 19 (by decide) (hts _ k_298) (fun _ h9 => h9) rfl (tyX10_ok 19 (by decide)) rfl rfl (Nat.le_of_ble_eq_true rfl) dX10_write_26 (fun H locs hP hD hS => ?_)
  have hP : va_P D vwCl [(h0, .inr (10, (.int v1 :: .int v2 :: .ref h2 :: .ref h3 :: .ref h4 :: .ref h5 :: .ref h6 :: .ref h7 :: .ref h8 :: .ref h9 :: .ref h10 :: .ref h1 :: .int v3 :: .ref h11 :: .ref h12 :: .ref h13 :: .ref h14 :: .int v4 :: .int v5 :: .int 122 :: .ref h15 :: .ref h16 :: .ref h17 :: .int v6 :: .ref h18 :: .int v7 :: .ref h19 :: .ref h20 :: .int v8 :: .ref h21 :: .ref h22 :: .int v9 :: .int v10 :: .int v11 :: .int v12 :: .int v13 :: .int v14 :: .int v15 :: .int v16 :: .ref h23 :: .long v17 :: .long v18 :: .long v19 :: .long v20 :: []))), (h1, .inl (G.1, 60, .inl v21)), (h14, .inl (G.1, 1336, .inl f583))] H := hP
  have hD : va_D A [(h0, .inr (10, (.int v1 :: .int v2 :: .ref h2 :: .ref h3 :: .ref h4 :: .ref h5 :: .ref h6 :: .ref h7 :: .ref h8 :: .ref h9 :: .ref h10 :: .ref h1 :: .int v3 :: .ref h11 :: .ref h12 :: .ref h13 :: .ref h14 :: .int v4 :: .int v5 :: .int 122 :: .ref h15 :: .ref h16 :: .ref h17 :: .int v6 :: .ref h18 :: .int v7 :: .ref h19 :: .ref h20 :: .int v8 :: .ref h21 :: .ref h22 :: .int v9 :: .int v10 :: .int v11 :: .int v12 :: .int v13 :: .int v14 :: .int v15 :: .int v16 :: .ref h23 :: .long v17 :: .long v18 :: .long v19 :: .long v20 :: []))), (h1, .inl (G.1, 60, .inl v21)), (h14, .inl (G.1, 1336, .inl f583))] := hD
  refine lv_iinc (v := 30) (lv' := [(3, .int 30), (0, .ref h0), (1, .ref h1), (2, .int 60)]) hx hb dX10_write_29 hl (k := 0) rfl (by decide) (by decide) rfl (fun ls hl => ?_)
  refine lv_goto (tgt := 2) hx hb dX10_write_32 (by decide) ?_
  refine lv_iload_n hx hb dX10_write_2 rfl (lv_at hl 0 rfl) ?_
  refine lv_iload_n hx hb dX10_write_3 rfl (lv_at hl 3 rfl) ?_
  refine lv_icmp_ge (tgt := 35) hx hb dX10_write_4 (by decide) (fun h9 => absurd h9 (by decide)) (fun _ => ?_)
  refine lv_aload_n hx hb dX10_write_7 rfl (lv_at hl 1 rfl) ?_
  refine va_get (D := D) (ci := 10) (v := .ref h14) (C := RX10) (T := TX10) (N := 44) hx hb hts inlX10 hown hK hP 0 rfl rfl 16 (by decide) (hts _ k_105) (fun _ h9 => h9) rfl dX10_write_8 ?_
  refine lv_aload_n hx hb dX10_write_11 rfl (lv_at hl 1 rfl) ?_
  refine va_get (D := D) (ci := 10) (v := .int 122) (C := RX10) (T := TX10) (N := 44) hx hb hts inlX10 hown hK hP 0 rfl rfl 19 (by decide) (hts _ k_298) (fun _ h9 => h9) rfl dX10_write_12 ?_
  refine lv_aload_n hx hb dX10_write_15 rfl (lv_at hl 2 rfl) ?_
  refine lv_iload_n hx hb dX10_write_16 rfl (lv_at hl 0 rfl) ?_
  refine va_iald hx hb hK hP 1 0 rfl rfl (show ¬ ((30 : Int32) < 0 ∨ 60 ≤ (30 : Int32).toNatClampNeg) by decide) dX10_write_17 ?_
  refine lv_topi (fun x584 _ => ?_)
  refine va_iast hx hb hK hP hD hS 2 0 rfl rfl (show ¬ ((122 : Int32) < 0 ∨ 1336 ≤ (122 : Int32).toNatClampNeg) by decide) dX10_write_18 (fun H locs hP hD hS => ?_)
  obtain ⟨f585, hP, hD⟩ : ∃ f585, va_P D vwCl [(h0, .inr (10, (.int v1 :: .int v2 :: .ref h2 :: .ref h3 :: .ref h4 :: .ref h5 :: .ref h6 :: .ref h7 :: .ref h8 :: .ref h9 :: .ref h10 :: .ref h1 :: .int v3 :: .ref h11 :: .ref h12 :: .ref h13 :: .ref h14 :: .int v4 :: .int v5 :: .int 122 :: .ref h15 :: .ref h16 :: .ref h17 :: .int v6 :: .ref h18 :: .int v7 :: .ref h19 :: .ref h20 :: .int v8 :: .ref h21 :: .ref h22 :: .int v9 :: .int v10 :: .int v11 :: .int v12 :: .int v13 :: .int v14 :: .int v15 :: .int v16 :: .ref h23 :: .long v17 :: .long v18 :: .long v19 :: .long v20 :: []))), (h1, .inl (G.1, 60, .inl v21)), (h14, .inl (G.1, 1336, .inl f585))] H ∧ va_D A [(h0, .inr (10, (.int v1 :: .int v2 :: .ref h2 :: .ref h3 :: .ref h4 :: .ref h5 :: .ref h6 :: .ref h7 :: .ref h8 :: .ref h9 :: .ref h10 :: .ref h1 :: .int v3 :: .ref h11 :: .ref h12 :: .ref h13 :: .ref h14 :: .int v4 :: .int v5 :: .int 122 :: .ref h15 :: .ref h16 :: .ref h17 :: .int v6 :: .ref h18 :: .int v7 :: .ref h19 :: .ref h20 :: .int v8 :: .ref h21 :: .ref h22 :: .int v9 :: .int v10 :: .int v11 :: .int v12 :: .int v13 :: .int v14 :: .int v15 :: .int v16 :: .ref h23 :: .long v17 :: .long v18 :: .long v19 :: .long v20 :: []))), (h1, .inl (G.1, 60, .inl v21)), (h14, .inl (G.1, 1336, .inl f585))] := ⟨_, hP, hD⟩
  refine lv_aload_n hx hb dX10_write_19 rfl (lv_at hl 1 rfl) ?_
  refine lv_dup hx hb dX10_write_20 rfl ?_
  refine va_get (D := D) (ci := 10) (v := .int 122) (C := RX10) (T := TX10) (N := 44) hx hb hts inlX10 hown hK hP 0 rfl rfl 19 (by decide) (hts _ k_298) (fun _ h9 => h9) rfl dX10_write_21 ?_
  refine lv_iconst (v := 1) hx hb dX10_write_24 (by decide) ?_
  refine lv_iadd hx hb dX10_write_25 ?_
  refine ow_i (y := 123) (by decide) ?_
  refine va_put (D := D) (ci := 10) (v := .int 123) (ty := .int) (C := RX10) (T := TX10) (N := 44) hx hb hts inlX10 tyX10 tyX10_ok nmX10 hown hK hP hD hS 0 rfl rfl 19 (by decide) (hts _ k_298) (fun _ h9 => h9) rfl (tyX10_ok 19 (by decide)) rfl rfl (Nat.le_of_ble_eq_true rfl) dX10_write_26 (fun H locs hP hD hS => ?_)
  have hP : va_P D vwCl [(h0, .inr (10, (.int v1 :: .int v2 :: .ref h2 :: .ref h3 :: .ref h4 :: .ref h5 :: .ref h6 :: .ref h7 :: .ref h8 :: .ref h9 :: .ref h10 :: .ref h1 :: .int v3 :: .ref h11 :: .ref h12 :: .ref h13 :: .ref h14 :: .int v4 :: .int v5 :: .int 123 :: .ref h15 :: .ref h16 :: .ref h17 :: .int v6 :: .ref h18 :: .int v7 :: .ref h19 :: .ref h20 :: .int v8 :: .ref h21 :: .ref h22 :: .int v9 :: .int v10 :: .int v11 :: .int v12 :: .int v13 :: .int v14 :: .int v15 :: .int v16 :: .ref h23 :: .long v17 :: .long v18 :: .long v19 :: .long v20 :: []))), (h1, .inl (G.1, 60, .inl v21)), (h14, .inl (G.1, 1336, .inl f585))] H := hP
  have hD : va_D A [(h0, .inr (10, (.int v1 :: .int v2 :: .ref h2 :: .ref h3 :: .ref h4 :: .ref h5 :: .ref h6 :: .ref h7 :: .ref h8 :: .ref h9 :: .ref h10 :: .ref h1 :: .int v3 :: .ref h11 :: .ref h12 :: .ref h13 :: .ref h14 :: .int v4 :: .int v5 :: .int 123 :: .ref h15 :: .ref h16 :: .ref h17 :: .int v6 :: .ref h18 :: .int v7 :: .ref h19 :: .ref h20 :: .int v8 :: .ref h21 :: .ref h22 :: .int v9 :: .int v10 :: .int v11 :: .int v12 :: .int v13 :: .int v14 :: .int v15 :: .int v16 :: .ref h23 :: .long v17 :: .long v18 :: .long v19 :: .long v20 :: []))), (h1, .inl (G.1, 60, .inl v21)), (h14, .inl (G.1, 1336, .inl f585))] := hD
  refine lv_iinc (v := 31) (lv' := [(3, .int 31), (0, .ref h0), (1, .ref h1), (2, .int 60)]) hx hb dX10_write_29 hl (k := 0) rfl (by decide) (by decide) rfl (fun ls hl => ?_)
  refine lv_goto (tgt := 2) hx hb dX10_write_32 (by decide) ?_
  refine lv_iload_n hx hb dX10_write_2 rfl (lv_at hl 0 rfl) ?_
  refine lv_iload_n hx hb dX10_write_3 rfl (lv_at hl 3 rfl) ?_
  refine lv_icmp_ge (tgt := 35) hx hb dX10_write_4 (by decide) (fun h9 => absurd h9 (by decide)) (fun _ => ?_)
  refine lv_aload_n hx hb dX10_write_7 rfl (lv_at hl 1 rfl) ?_
  refine va_get (D := D) (ci := 10) (v := .ref h14) (C := RX10) (T := TX10) (N := 44) hx hb hts inlX10 hown hK hP 0 rfl rfl 16 (by decide) (hts _ k_105) (fun _ h9 => h9) rfl dX10_write_8 ?_
  refine lv_aload_n hx hb dX10_write_11 rfl (lv_at hl 1 rfl) ?_
  refine va_get (D := D) (ci := 10) (v := .int 123) (C := RX10) (T := TX10) (N := 44) hx hb hts inlX10 hown hK hP 0 rfl rfl 19 (by decide) (hts _ k_298) (fun _ h9 => h9) rfl dX10_write_12 ?_
  refine lv_aload_n hx hb dX10_write_15 rfl (lv_at hl 2 rfl) ?_
  refine lv_iload_n hx hb dX10_write_16 rfl (lv_at hl 0 rfl) ?_
  refine va_iald hx hb hK hP 1 0 rfl rfl (show ¬ ((31 : Int32) < 0 ∨ 60 ≤ (31 : Int32).toNatClampNeg) by decide) dX10_write_17 ?_
  refine lv_topi (fun x586 _ => ?_)
  refine va_iast hx hb hK hP hD hS 2 0 rfl rfl (show ¬ ((123 : Int32) < 0 ∨ 1336 ≤ (123 : Int32).toNatClampNeg) by decide) dX10_write_18 (fun H locs hP hD hS => ?_)
  obtain ⟨f587, hP, hD⟩ : ∃ f587, va_P D vwCl [(h0, .inr (10, (.int v1 :: .int v2 :: .ref h2 :: .ref h3 :: .ref h4 :: .ref h5 :: .ref h6 :: .ref h7 :: .ref h8 :: .ref h9 :: .ref h10 :: .ref h1 :: .int v3 :: .ref h11 :: .ref h12 :: .ref h13 :: .ref h14 :: .int v4 :: .int v5 :: .int 123 :: .ref h15 :: .ref h16 :: .ref h17 :: .int v6 :: .ref h18 :: .int v7 :: .ref h19 :: .ref h20 :: .int v8 :: .ref h21 :: .ref h22 :: .int v9 :: .int v10 :: .int v11 :: .int v12 :: .int v13 :: .int v14 :: .int v15 :: .int v16 :: .ref h23 :: .long v17 :: .long v18 :: .long v19 :: .long v20 :: []))), (h1, .inl (G.1, 60, .inl v21)), (h14, .inl (G.1, 1336, .inl f587))] H ∧ va_D A [(h0, .inr (10, (.int v1 :: .int v2 :: .ref h2 :: .ref h3 :: .ref h4 :: .ref h5 :: .ref h6 :: .ref h7 :: .ref h8 :: .ref h9 :: .ref h10 :: .ref h1 :: .int v3 :: .ref h11 :: .ref h12 :: .ref h13 :: .ref h14 :: .int v4 :: .int v5 :: .int 123 :: .ref h15 :: .ref h16 :: .ref h17 :: .int v6 :: .ref h18 :: .int v7 :: .ref h19 :: .ref h20 :: .int v8 :: .ref h21 :: .ref h22 :: .int v9 :: .int v10 :: .int v11 :: .int v12 :: .int v13 :: .int v14 :: .int v15 :: .int v16 :: .ref h23 :: .long v17 :: .long v18 :: .long v19 :: .long v20 :: []))), (h1, .inl (G.1, 60, .inl v21)), (h14, .inl (G.1, 1336, .inl f587))] := ⟨_, hP, hD⟩
  refine lv_aload_n hx hb dX10_write_19 rfl (lv_at hl 1 rfl) ?_
  refine lv_dup hx hb dX10_write_20 rfl ?_
  refine va_get (D := D) (ci := 10) (v := .int 123) (C := RX10) (T := TX10) (N := 44) hx hb hts inlX10 hown hK hP 0 rfl rfl 19 (by decide) (hts _ k_298) (fun _ h9 => h9) rfl dX10_write_21 ?_
  refine lv_iconst (v := 1) hx hb dX10_write_24 (by decide) ?_
  refine lv_iadd hx hb dX10_write_25 ?_
  refine ow_i (y := 124) (by decide) ?_
  refine va_put (D := D) (ci := 10) (v := .int 124) (ty := .int) (C := RX10) (T := TX10) (N := 44) hx hb hts inlX10 tyX10 tyX10_ok nmX10 hown hK hP hD hS 0 rfl rfl 19 (by decide) (hts _ k_298) (fun _ h9 => h9) rfl (tyX10_ok 19 (by decide)) rfl rfl (Nat.le_of_ble_eq_true rfl) dX10_write_26 (fun H locs hP hD hS => ?_)
  have hP : va_P D vwCl [(h0, .inr (10, (.int v1 :: .int v2 :: .ref h2 :: .ref h3 :: .ref h4 :: .ref h5 :: .ref h6 :: .ref h7 :: .ref h8 :: .ref h9 :: .ref h10 :: .ref h1 :: .int v3 :: .ref h11 :: .ref h12 :: .ref h13 :: .ref h14 :: .int v4 :: .int v5 :: .int 124 :: .ref h15 :: .ref h16 :: .ref h17 :: .int v6 :: .ref h18 :: .int v7 :: .ref h19 :: .ref h20 :: .int v8 :: .ref h21 :: .ref h22 :: .int v9 :: .int v10 :: .int v11 :: .int v12 :: .int v13 :: .int v14 :: .int v15 :: .int v16 :: .ref h23 :: .long v17 :: .long v18 :: .long v19 :: .long v20 :: []))), (h1, .inl (G.1, 60, .inl v21)), (h14, .inl (G.1, 1336, .inl f587))] H := hP
  have hD : va_D A [(h0, .inr (10, (.int v1 :: .int v2 :: .ref h2 :: .ref h3 :: .ref h4 :: .ref h5 :: .ref h6 :: .ref h7 :: .ref h8 :: .ref h9 :: .ref h10 :: .ref h1 :: .int v3 :: .ref h11 :: .ref h12 :: .ref h13 :: .ref h14 :: .int v4 :: .int v5 :: .int 124 :: .ref h15 :: .ref h16 :: .ref h17 :: .int v6 :: .ref h18 :: .int v7 :: .ref h19 :: .ref h20 :: .int v8 :: .ref h21 :: .ref h22 :: .int v9 :: .int v10 :: .int v11 :: .int v12 :: .int v13 :: .int v14 :: .int v15 :: .int v16 :: .ref h23 :: .long v17 :: .long v18 :: .long v19 :: .long v20 :: []))), (h1, .inl (G.1, 60, .inl v21)), (h14, .inl (G.1, 1336, .inl f587))] := hD
  refine lv_iinc (v := 32) (lv' := [(3, .int 32), (0, .ref h0), (1, .ref h1), (2, .int 60)]) hx hb dX10_write_29 hl (k := 0) rfl (by decide) (by decide) rfl (fun ls hl => ?_)
  refine lv_goto (tgt := 2) hx hb dX10_write_32 (by decide) ?_
  refine lv_iload_n hx hb dX10_write_2 rfl (lv_at hl 0 rfl) ?_
  refine lv_iload_n hx hb dX10_write_3 rfl (lv_at hl 3 rfl) ?_
  refine lv_icmp_ge (tgt := 35) hx hb dX10_write_4 (by decide) (fun h9 => absurd h9 (by decide)) (fun _ => ?_)
  refine lv_aload_n hx hb dX10_write_7 rfl (lv_at hl 1 rfl) ?_
  refine va_get (D := D) (ci := 10) (v := .ref h14) (C := RX10) (T := TX10) (N := 44) hx hb hts inlX10 hown hK hP 0 rfl rfl 16 (by decide) (hts _ k_105) (fun _ h9 => h9) rfl dX10_write_8 ?_
  refine lv_aload_n hx hb dX10_write_11 rfl (lv_at hl 1 rfl) ?_
  refine va_get (D := D) (ci := 10) (v := .int 124) (C := RX10) (T := TX10) (N := 44) hx hb hts inlX10 hown hK hP 0 rfl rfl 19 (by decide) (hts _ k_298) (fun _ h9 => h9) rfl dX10_write_12 ?_
  refine lv_aload_n hx hb dX10_write_15 rfl (lv_at hl 2 rfl) ?_
  refine lv_iload_n hx hb dX10_write_16 rfl (lv_at hl 0 rfl) ?_
  refine va_iald hx hb hK hP 1 0 rfl rfl (show ¬ ((32 : Int32) < 0 ∨ 60 ≤ (32 : Int32).toNatClampNeg) by decide) dX10_write_17 ?_
  refine lv_topi (fun x588 _ => ?_)
  refine va_iast hx hb hK hP hD hS 2 0 rfl rfl (show ¬ ((124 : Int32) < 0 ∨ 1336 ≤ (124 : Int32).toNatClampNeg) by decide) dX10_write_18 (fun H locs hP hD hS => ?_)
  obtain ⟨f589, hP, hD⟩ : ∃ f589, va_P D vwCl [(h0, .inr (10, (.int v1 :: .int v2 :: .ref h2 :: .ref h3 :: .ref h4 :: .ref h5 :: .ref h6 :: .ref h7 :: .ref h8 :: .ref h9 :: .ref h10 :: .ref h1 :: .int v3 :: .ref h11 :: .ref h12 :: .ref h13 :: .ref h14 :: .int v4 :: .int v5 :: .int 124 :: .ref h15 :: .ref h16 :: .ref h17 :: .int v6 :: .ref h18 :: .int v7 :: .ref h19 :: .ref h20 :: .int v8 :: .ref h21 :: .ref h22 :: .int v9 :: .int v10 :: .int v11 :: .int v12 :: .int v13 :: .int v14 :: .int v15 :: .int v16 :: .ref h23 :: .long v17 :: .long v18 :: .long v19 :: .long v20 :: []))), (h1, .inl (G.1, 60, .inl v21)), (h14, .inl (G.1, 1336, .inl f589))] H ∧ va_D A [(h0, .inr (10, (.int v1 :: .int v2 :: .ref h2 :: .ref h3 :: .ref h4 :: .ref h5 :: .ref h6 :: .ref h7 :: .ref h8 :: .ref h9 :: .ref h10 :: .ref h1 :: .int v3 :: .ref h11 :: .ref h12 :: .ref h13 :: .ref h14 :: .int v4 :: .int v5 :: .int 124 :: .ref h15 :: .ref h16 :: .ref h17 :: .int v6 :: .ref h18 :: .int v7 :: .ref h19 :: .ref h20 :: .int v8 :: .ref h21 :: .ref h22 :: .int v9 :: .int v10 :: .int v11 :: .int v12 :: .int v13 :: .int v14 :: .int v15 :: .int v16 :: .ref h23 :: .long v17 :: .long v18 :: .long v19 :: .long v20 :: []))), (h1, .inl (G.1, 60, .inl v21)), (h14, .inl (G.1, 1336, .inl f589))] := ⟨_, hP, hD⟩
  refine lv_aload_n hx hb dX10_write_19 rfl (lv_at hl 1 rfl) ?_
  refine lv_dup hx hb dX10_write_20 rfl ?_
  refine va_get (D := D) (ci := 10) (v := .int 124) (C := RX10) (T := TX10) (N := 44) hx hb hts inlX10 hown hK hP 0 rfl rfl 19 (by decide) (hts _ k_298) (fun _ h9 => h9) rfl dX10_write_21 ?_
  refine lv_iconst (v := 1) hx hb dX10_write_24 (by decide) ?_
  refine lv_iadd hx hb dX10_write_25 ?_
  refine ow_i (y := 125) (by decide) ?_
  refine va_put (D := D) (ci := 10) (v := .int 125) (ty := .int) (C := RX10) (T := TX10) (N := 44) hx hb hts inlX10 tyX10 tyX10_ok nmX10 hown hK hP hD hS 0 rfl rfl 19 (by decide) (hts _ k_298) (fun _ h9 => h9) rfl (tyX10_ok 19 (by decide)) rfl rfl (Nat.le_of_ble_eq_true rfl) dX10_write_26 (fun H locs hP hD hS => ?_)
  have hP : va_P D vwCl [(h0, .inr (10, (.int v1 :: .int v2 :: .ref h2 :: .ref h3 :: .ref h4 :: .ref h5 :: .ref h6 :: .ref h7 :: .ref h8 :: .ref h9 :: .ref h10 :: .ref h1 :: .int v3 :: .ref h11 :: .ref h12 :: .ref h13 :: .ref h14 :: .int v4 :: .int v5 :: .int 125 :: .ref h15 :: .ref h16 :: .ref h17 :: .int v6 :: .ref h18 :: .int v7 :: .ref h19 :: .ref h20 :: .int v8 :: .ref h21 :: .ref h22 :: .int v9 :: .int v10 :: .int v11 :: .int v12 :: .int v13 :: .int v14 :: .int v15 :: .int v16 :: .ref h23 :: .long v17 :: .long v18 :: .long v19 :: .long v20 :: []))), (h1, .inl (G.1, 60, .inl v21)), (h14, .inl (G.1, 1336, .inl f589))] H := hP
  have hD : va_D A [(h0, .inr (10, (.int v1 :: .int v2 :: .ref h2 :: .ref h3 :: .ref h4 :: .ref h5 :: .ref h6 :: .ref h7 :: .ref h8 :: .ref h9 :: .ref h10 :: .ref h1 :: .int v3 :: .ref h11 :: .ref h12 :: .ref h13 :: .ref h14 :: .int v4 :: .int v5 :: .int 125 :: .ref h15 :: .ref h16 :: .ref h17 :: .int v6 :: .ref h18 :: .int v7 :: .ref h19 :: .ref h20 :: .int v8 :: .ref h21 :: .ref h22 :: .int v9 :: .int v10 :: .int v11 :: .int v12 :: .int v13 :: .int v14 :: .int v15 :: .int v16 :: .ref h23 :: .long v17 :: .long v18 :: .long v19 :: .long v20 :: []))), (h1, .inl (G.1, 60, .inl v21)), (h14, .inl (G.1, 1336, .inl f589))] := hD
  refine lv_iinc (v := 33) (lv' := [(3, .int 33), (0, .ref h0), (1, .ref h1), (2, .int 60)]) hx hb dX10_write_29 hl (k := 0) rfl (by decide) (by decide) rfl (fun ls hl => ?_)
  refine lv_goto (tgt := 2) hx hb dX10_write_32 (by decide) ?_
  refine lv_iload_n hx hb dX10_write_2 rfl (lv_at hl 0 rfl) ?_
  refine lv_iload_n hx hb dX10_write_3 rfl (lv_at hl 3 rfl) ?_
  refine lv_icmp_ge (tgt := 35) hx hb dX10_write_4 (by decide) (fun h9 => absurd h9 (by decide)) (fun _ => ?_)
  refine lv_aload_n hx hb dX10_write_7 rfl (lv_at hl 1 rfl) ?_
  refine va_get (D := D) (ci := 10) (v := .ref h14) (C := RX10) (T := TX10) (N := 44) hx hb hts inlX10 hown hK hP 0 rfl rfl 16 (by decide) (hts _ k_105) (fun _ h9 => h9) rfl dX10_write_8 ?_
  refine lv_aload_n hx hb dX10_write_11 rfl (lv_at hl 1 rfl) ?_
  refine va_get (D := D) (ci := 10) (v := .int 125) (C := RX10) (T := TX10) (N := 44) hx hb hts inlX10 hown hK hP 0 rfl rfl 19 (by decide) (hts _ k_298) (fun _ h9 => h9) rfl dX10_write_12 ?_
  refine lv_aload_n hx hb dX10_write_15 rfl (lv_at hl 2 rfl) ?_
  refine lv_iload_n hx hb dX10_write_16 rfl (lv_at hl 0 rfl) ?_
  refine va_iald hx hb hK hP 1 0 rfl rfl (show ¬ ((33 : Int32) < 0 ∨ 60 ≤ (33 : Int32).toNatClampNeg) by decide) dX10_write_17 ?_
  refine lv_topi (fun x590 _ => ?_)
  refine va_iast hx hb hK hP hD hS 2 0 rfl rfl (show ¬ ((125 : Int32) < 0 ∨ 1336 ≤ (125 : Int32).toNatClampNeg) by decide) dX10_write_18 (fun H locs hP hD hS => ?_)
  obtain ⟨f591, hP, hD⟩ : ∃ f591, va_P D vwCl [(h0, .inr (10, (.int v1 :: .int v2 :: .ref h2 :: .ref h3 :: .ref h4 :: .ref h5 :: .ref h6 :: .ref h7 :: .ref h8 :: .ref h9 :: .ref h10 :: .ref h1 :: .int v3 :: .ref h11 :: .ref h12 :: .ref h13 :: .ref h14 :: .int v4 :: .int v5 :: .int 125 :: .ref h15 :: .ref h16 :: .ref h17 :: .int v6 :: .ref h18 :: .int v7 :: .ref h19 :: .ref h20 :: .int v8 :: .ref h21 :: .ref h22 :: .int v9 :: .int v10 :: .int v11 :: .int v12 :: .int v13 :: .int v14 :: .int v15 :: .int v16 :: .ref h23 :: .long v17 :: .long v18 :: .long v19 :: .long v20 :: []))), (h1, .inl (G.1, 60, .inl v21)), (h14, .inl (G.1, 1336, .inl f591))] H ∧ va_D A [(h0, .inr (10, (.int v1 :: .int v2 :: .ref h2 :: .ref h3 :: .ref h4 :: .ref h5 :: .ref h6 :: .ref h7 :: .ref h8 :: .ref h9 :: .ref h10 :: .ref h1 :: .int v3 :: .ref h11 :: .ref h12 :: .ref h13 :: .ref h14 :: .int v4 :: .int v5 :: .int 125 :: .ref h15 :: .ref h16 :: .ref h17 :: .int v6 :: .ref h18 :: .int v7 :: .ref h19 :: .ref h20 :: .int v8 :: .ref h21 :: .ref h22 :: .int v9 :: .int v10 :: .int v11 :: .int v12 :: .int v13 :: .int v14 :: .int v15 :: .int v16 :: .ref h23 :: .long v17 :: .long v18 :: .long v19 :: .long v20 :: []))), (h1, .inl (G.1, 60, .inl v21)), (h14, .inl (G.1, 1336, .inl f591))] := ⟨_, hP, hD⟩
  refine lv_aload_n hx hb dX10_write_19 rfl (lv_at hl 1 rfl) ?_
  refine lv_dup hx hb dX10_write_20 rfl ?_
  refine va_get (D := D) (ci := 10) (v := .int 125) (C := RX10) (T := TX10) (N := 44) hx hb hts inlX10 hown hK hP 0 rfl rfl 19 (by decide) (hts _ k_298) (fun _ h9 => h9) rfl dX10_write_21 ?_
  refine lv_iconst (v := 1) hx hb dX10_write_24 (by decide) ?_
  refine lv_iadd hx hb dX10_write_25 ?_
  refine ow_i (y := 126) (by decide) ?_
  refine va_put (D := D) (ci := 10) (v := .int 126) (ty := .int) (C := RX10) (T := TX10) (N := 44) hx hb hts inlX10 tyX10 tyX10_ok nmX10 hown hK hP hD hS 0 rfl rfl 19 (by decide) (hts _ k_298) (fun _ h9 => h9) rfl (tyX10_ok 19 (by decide)) rfl rfl (Nat.le_of_ble_eq_true rfl) dX10_write_26 (fun H locs hP hD hS => ?_)
  have hP : va_P D vwCl [(h0, .inr (10, (.int v1 :: .int v2 :: .ref h2 :: .ref h3 :: .ref h4 :: .ref h5 :: .ref h6 :: .ref h7 :: .ref h8 :: .ref h9 :: .ref h10 :: .ref h1 :: .int v3 :: .ref h11 :: .ref h12 :: .ref h13 :: .ref h14 :: .int v4 :: .int v5 :: .int 126 :: .ref h15 :: .ref h16 :: .ref h17 :: .int v6 :: .ref h18 :: .int v7 :: .ref h19 :: .ref h20 :: .int v8 :: .ref h21 :: .ref h22 :: .int v9 :: .int v10 :: .int v11 :: .int v12 :: .int v13 :: .int v14 :: .int v15 :: .int v16 :: .ref h23 :: .long v17 :: .long v18 :: .long v19 :: .long v20 :: []))), (h1, .inl (G.1, 60, .inl v21)), (h14, .inl (G.1, 1336, .inl f591))] H := hP
  have hD : va_D A [(h0, .inr (10, (.int v1 :: .int v2 :: .ref h2 :: .ref h3 :: .ref h4 :: .ref h5 :: .ref h6 :: .ref h7 :: .ref h8 :: .ref h9 :: .ref h10 :: .ref h1 :: .int v3 :: .ref h11 :: .ref h12 :: .ref h13 :: .ref h14 :: .int v4 :: .int v5 :: .int 126 :: .ref h15 :: .ref h16 :: .ref h17 :: .int v6 :: .ref h18 :: .int v7 :: .ref h19 :: .ref h20 :: .int v8 :: .ref h21 :: .ref h22 :: .int v9 :: .int v10 :: .int v11 :: .int v12 :: .int v13 :: .int v14 :: .int v15 :: .int v16 :: .ref h23 :: .long v17 :: .long v18 :: .long v19 :: .long v20 :: []))), (h1, .inl (G.1, 60, .inl v21)), (h14, .inl (G.1, 1336, .inl f591))] := hD
  refine lv_iinc (v := 34) (lv' := [(3, .int 34), (0, .ref h0), (1, .ref h1), (2, .int 60)]) hx hb dX10_write_29 hl (k := 0) rfl (by decide) (by decide) rfl (fun ls hl => ?_)
  refine lv_goto (tgt := 2) hx hb dX10_write_32 (by decide) ?_
  refine lv_iload_n hx hb dX10_write_2 rfl (lv_at hl 0 rfl) ?_
  refine lv_iload_n hx hb dX10_write_3 rfl (lv_at hl 3 rfl) ?_
  refine lv_icmp_ge (tgt := 35) hx hb dX10_write_4 (by decide) (fun h9 => absurd h9 (by decide)) (fun _ => ?_)
  refine lv_aload_n hx hb dX10_write_7 rfl (lv_at hl 1 rfl) ?_
  refine va_get (D := D) (ci := 10) (v := .ref h14) (C := RX10) (T := TX10) (N := 44) hx hb hts inlX10 hown hK hP 0 rfl rfl 16 (by decide) (hts _ k_105) (fun _ h9 => h9) rfl dX10_write_8 ?_
  refine lv_aload_n hx hb dX10_write_11 rfl (lv_at hl 1 rfl) ?_
  refine va_get (D := D) (ci := 10) (v := .int 126) (C := RX10) (T := TX10) (N := 44) hx hb hts inlX10 hown hK hP 0 rfl rfl 19 (by decide) (hts _ k_298) (fun _ h9 => h9) rfl dX10_write_12 ?_
  refine lv_aload_n hx hb dX10_write_15 rfl (lv_at hl 2 rfl) ?_
  refine lv_iload_n hx hb dX10_write_16 rfl (lv_at hl 0 rfl) ?_
  refine va_iald hx hb hK hP 1 0 rfl rfl (show ¬ ((34 : Int32) < 0 ∨ 60 ≤ (34 : Int32).toNatClampNeg) by decide) dX10_write_17 ?_
  refine lv_topi (fun x592 _ => ?_)
  refine va_iast hx hb hK hP hD hS 2 0 rfl rfl (show ¬ ((126 : Int32) < 0 ∨ 1336 ≤ (126 : Int32).toNatClampNeg) by decide) dX10_write_18 (fun H locs hP hD hS => ?_)
  obtain ⟨f593, hP, hD⟩ : ∃ f593, va_P D vwCl [(h0, .inr (10, (.int v1 :: .int v2 :: .ref h2 :: .ref h3 :: .ref h4 :: .ref h5 :: .ref h6 :: .ref h7 :: .ref h8 :: .ref h9 :: .ref h10 :: .ref h1 :: .int v3 :: .ref h11 :: .ref h12 :: .ref h13 :: .ref h14 :: .int v4 :: .int v5 :: .int 126 :: .ref h15 :: .ref h16 :: .ref h17 :: .int v6 :: .ref h18 :: .int v7 :: .ref h19 :: .ref h20 :: .int v8 :: .ref h21 :: .ref h22 :: .int v9 :: .int v10 :: .int v11 :: .int v12 :: .int v13 :: .int v14 :: .int v15 :: .int v16 :: .ref h23 :: .long v17 :: .long v18 :: .long v19 :: .long v20 :: []))), (h1, .inl (G.1, 60, .inl v21)), (h14, .inl (G.1, 1336, .inl f593))] H ∧ va_D A [(h0, .inr (10, (.int v1 :: .int v2 :: .ref h2 :: .ref h3 :: .ref h4 :: .ref h5 :: .ref h6 :: .ref h7 :: .ref h8 :: .ref h9 :: .ref h10 :: .ref h1 :: .int v3 :: .ref h11 :: .ref h12 :: .ref h13 :: .ref h14 :: .int v4 :: .int v5 :: .int 126 :: .ref h15 :: .ref h16 :: .ref h17 :: .int v6 :: .ref h18 :: .int v7 :: .ref h19 :: .ref h20 :: .int v8 :: .ref h21 :: .ref h22 :: .int v9 :: .int v10 :: .int v11 :: .int v12 :: .int v13 :: .int v14 :: .int v15 :: .int v16 :: .ref h23 :: .long v17 :: .long v18 :: .long v19 :: .long v20 :: []))), (h1, .inl (G.1, 60, .inl v21)), (h14, .inl (G.1, 1336, .inl f593))] := ⟨_, hP, hD⟩
  refine lv_aload_n hx hb dX10_write_19 rfl (lv_at hl 1 rfl) ?_
  refine lv_dup hx hb dX10_write_20 rfl ?_
  refine va_get (D := D) (ci := 10) (v := .int 126) (C := RX10) (T := TX10) (N := 44) hx hb hts inlX10 hown hK hP 0 rfl rfl 19 (by decide) (hts _ k_298) (fun _ h9 => h9) rfl dX10_write_21 ?_
  refine lv_iconst (v := 1) hx hb dX10_write_24 (by decide) ?_
  refine lv_iadd hx hb dX10_write_25 ?_
  refine ow_i (y := 127) (by decide) ?_
  refine va_put (D := D) (ci := 10) (v := .int 127) (ty := .int) (C := RX10) (T := TX10) (N := 44) hx hb hts inlX10 tyX10 tyX10_ok nmX10 hown hK hP hD hS 0 rfl rfl 19 (by decide) (hts _ k_298) (fun _ h9 => h9) rfl (tyX10_ok 19 (by decide)) rfl rfl (Nat.le_of_ble_eq_true rfl) dX10_write_26 (fun H locs hP hD hS => ?_)
  have hP : va_P D vwCl [(h0, .inr (10, (.int v1 :: .int v2 :: .ref h2 :: .ref h3 :: .ref h4 :: .ref h5 :: .ref h6 :: .ref h7 :: .ref h8 :: .ref h9 :: .ref h10 :: .ref h1 :: .int v3 :: .ref h11 :: .ref h12 :: .ref h13 :: .ref h14 :: .int v4 :: .int v5 :: .int 127 :: .ref h15 :: .ref h16 :: .ref h17 :: .int v6 :: .ref h18 :: .int v7 :: .ref h19 :: .ref h20 :: .int v8 :: .ref h21 :: .ref h22 :: .int v9 :: .int v10 :: .int v11 :: .int v12 :: .int v13 :: .int v14 :: .int v15 :: .int v16 :: .ref h23 :: .long v17 :: .long v18 :: .long v19 :: .long v20 :: []))), (h1, .inl (G.1, 60, .inl v21)), (h14, .inl (G.1, 1336, .inl f593))] H := hP
  have hD : va_D A [(h0, .inr (10, (.int v1 :: .int v2 :: .ref h2 :: .ref h3 :: .ref h4 :: .ref h5 :: .ref h6 :: .ref h7 :: .ref h8 :: .ref h9 :: .ref h10 :: .ref h1 :: .int v3 :: .ref h11 :: .ref h12 :: .ref h13 :: .ref h14 :: .int v4 :: .int v5 :: .int 127 :: .ref h15 :: .ref h16 :: .ref h17 :: .int v6 :: .ref h18 :: .int v7 :: .ref h19 :: .ref h20 :: .int v8 :: .ref h21 :: .ref h22 :: .int v9 :: .int v10 :: .int v11 :: .int v12 :: .int v13 :: .int v14 :: .int v15 :: .int v16 :: .ref h23 :: .long v17 :: .long v18 :: .long v19 :: .long v20 :: []))), (h1, .inl (G.1, 60, .inl v21)), (h14, .inl (G.1, 1336, .inl f593))] := hD
  refine lv_iinc (v := 35) (lv' := [(3, .int 35), (0, .ref h0), (1, .ref h1), (2, .int 60)]) hx hb dX10_write_29 hl (k := 0) rfl (by decide) (by decide) rfl (fun ls hl => ?_)
  refine lv_goto (tgt := 2) hx hb dX10_write_32 (by decide) ?_
  refine lv_iload_n hx hb dX10_write_2 rfl (lv_at hl 0 rfl) ?_
  refine lv_iload_n hx hb dX10_write_3 rfl (lv_at hl 3 rfl) ?_
  refine lv_icmp_ge (tgt := 35) hx hb dX10_write_4 (by decide) (fun h9 => absurd h9 (by decide)) (fun _ => ?_)
  refine lv_aload_n hx hb dX10_write_7 rfl (lv_at hl 1 rfl) ?_
  refine va_get (D := D) (ci := 10) (v := .ref h14) (C := RX10) (T := TX10) (N := 44) hx hb hts inlX10 hown hK hP 0 rfl rfl 16 (by decide) (hts _ k_105) (fun _ h9 => h9) rfl dX10_write_8 ?_
  refine lv_aload_n hx hb dX10_write_11 rfl (lv_at hl 1 rfl) ?_
  refine va_get (D := D) (ci := 10) (v := .int 127) (C := RX10) (T := TX10) (N := 44) hx hb hts inlX10 hown hK hP 0 rfl rfl 19 (by decide) (hts _ k_298) (fun _ h9 => h9) rfl dX10_write_12 ?_
  refine lv_aload_n hx hb dX10_write_15 rfl (lv_at hl 2 rfl) ?_
  refine lv_iload_n hx hb dX10_write_16 rfl (lv_at hl 0 rfl) ?_
  refine va_iald hx hb hK hP 1 0 rfl rfl (show ¬ ((35 : Int32) < 0 ∨ 60 ≤ (35 : Int32).toNatClampNeg) by decide) dX10_write_17 ?_
  refine lv_topi (fun x594 _ => ?_)
  refine va_iast hx hb hK hP hD hS 2 0 rfl rfl (show ¬ ((127 : Int32) < 0 ∨ 1336 ≤ (127 : Int32).toNatClampNeg) by decide) dX10_write_18 (fun H locs hP hD hS => ?_)
  obtain ⟨f595, hP, hD⟩ : ∃ f595, va_P D vwCl [(h0, .inr (10, (.int v1 :: .int v2 :: .ref h2 :: .ref h3 :: .ref h4 :: .ref h5 :: .ref h6 :: .ref h7 :: .ref h8 :: .ref h9 :: .ref h10 :: .ref h1 :: .int v3 :: .ref h11 :: .ref h12 :: .ref h13 :: .ref h14 :: .int v4 :: .int v5 :: .int 127 :: .ref h15 :: .ref h16 :: .ref h17 :: .int v6 :: .ref h18 :: .int v7 :: .ref h19 :: .ref h20 :: .int v8 :: .ref h21 :: .ref h22 :: .int v9 :: .int v10 :: .int v11 :: .int v12 :: .int v13 :: .int v14 :: .int v15 :: .int v16 :: .ref h23 :: .long v17 :: .long v18 :: .long v19 :: .long v20 :: []))), (h1, .inl (G.1, 60, .inl v21)), (h14, .inl (G.1, 1336, .inl f595))] H ∧ va_D A [(h0, .inr (10, (.int v1 :: .int v2 :: .ref h2 :: .ref h3 :: .ref h4 :: .ref h5 :: .ref h6 :: .ref h7 :: .ref h8 :: .ref h9 :: .ref h10 :: .ref h1 :: .int v3 :: .ref h11 :: .ref h12 :: .ref h13 :: .ref h14 :: .int v4 :: .int v5 :: .int 127 :: .ref h15 :: .ref h16 :: .ref h17 :: .int v6 :: .ref h18 :: .int v7 :: .ref h19 :: .ref h20 :: .int v8 :: .ref h21 :: .ref h22 :: .int v9 :: .int v10 :: .int v11 :: .int v12 :: .int v13 :: .int v14 :: .int v15 :: .int v16 :: .ref h23 :: .long v17 :: .long v18 :: .long v19 :: .long v20 :: []))), (h1, .inl (G.1, 60, .inl v21)), (h14, .inl (G.1, 1336, .inl f595))] := ⟨_, hP, hD⟩
  refine lv_aload_n hx hb dX10_write_19 rfl (lv_at hl 1 rfl) ?_
  refine lv_dup hx hb dX10_write_20 rfl ?_
  refine va_get (D := D) (ci := 10) (v := .int 127) (C := RX10) (T := TX10) (N := 44) hx hb hts inlX10 hown hK hP 0 rfl rfl 19 (by decide) (hts _ k_298) (fun _ h9 => h9) rfl dX10_write_21 ?_
  refine lv_iconst (v := 1) hx hb dX10_write_24 (by decide) ?_
  refine lv_iadd hx hb dX10_write_25 ?_
  refine ow_i (y := 128) (by decide) ?_
  refine va_put (D := D) (ci := 10) (v := .int 128) (ty := .int) (C := RX10) (T := TX10) (N := 44) hx hb hts inlX10 tyX10 tyX10_ok nmX10 hown hK hP hD hS 0 rfl rfl 19 (by decide) (hts _ k_298) (fun _ h9 => h9) rfl (tyX10_ok 19 (by decide)) rfl rfl (Nat.le_of_ble_eq_true rfl) dX10_write_26 (fun H locs hP hD hS => ?_)
  have hP : va_P D vwCl [(h0, .inr (10, (.int v1 :: .int v2 :: .ref h2 :: .ref h3 :: .ref h4 :: .ref h5 :: .ref h6 :: .ref h7 :: .ref h8 :: .ref h9 :: .ref h10 :: .ref h1 :: .int v3 :: .ref h11 :: .ref h12 :: .ref h13 :: .ref h14 :: .int v4 :: .int v5 :: .int 128 :: .ref h15 :: .ref h16 :: .ref h17 :: .int v6 :: .ref h18 :: .int v7 :: .ref h19 :: .ref h20 :: .int v8 :: .ref h21 :: .ref h22 :: .int v9 :: .int v10 :: .int v11 :: .int v12 :: .int v13 :: .int v14 :: .int v15 :: .int v16 :: .ref h23 :: .long v17 :: .long v18 :: .long v19 :: .long v20 :: []))), (h1, .inl (G.1, 60, .inl v21)), (h14, .inl (G.1, 1336, .inl f595))] H := hP
  have hD : va_D A [(h0, .inr (10, (.int v1 :: .int v2 :: .ref h2 :: .ref h3 :: .ref h4 :: .ref h5 :: .ref h6 :: .ref h7 :: .ref h8 :: .ref h9 :: .ref h10 :: .ref h1 :: .int v3 :: .ref h11 :: .ref h12 :: .ref h13 :: .ref h14 :: .int v4 :: .int v5 :: .int 128 :: .ref h15 :: .ref h16 :: .ref h17 :: .int v6 :: .ref h18 :: .int v7 :: .ref h19 :: .ref h20 :: .int v8 :: .ref h21 :: .ref h22 :: .int v9 :: .int v10 :: .int v11 :: .int v12 :: .int v13 :: .int v14 :: .int v15 :: .int v16 :: .ref h23 :: .long v17 :: .long v18 :: .long v19 :: .long v20 :: []))), (h1, .inl (G.1, 60, .inl v21)), (h14, .inl (G.1, 1336, .inl f595))] := hD
  refine lv_iinc (v := 36) (lv' := [(3, .int 36), (0, .ref h0), (1, .ref h1), (2, .int 60)]) hx hb dX10_write_29 hl (k := 0) rfl (by decide) (by decide) rfl (fun ls hl => ?_)
  refine lv_goto (tgt := 2) hx hb dX10_write_32 (by decide) ?_
  refine lv_iload_n hx hb dX10_write_2 rfl (lv_at hl 0 rfl) ?_
  refine lv_iload_n hx hb dX10_write_3 rfl (lv_at hl 3 rfl) ?_
  refine lv_icmp_ge (tgt := 35) hx hb dX10_write_4 (by decide) (fun h9 => absurd h9 (by decide)) (fun _ => ?_)
  refine lv_aload_n hx hb dX10_write_7 rfl (lv_at hl 1 rfl) ?_
  refine va_get (D := D) (ci := 10) (v := .ref h14) (C := RX10) (T := TX10) (N := 44) hx hb hts inlX10 hown hK hP 0 rfl rfl 16 (by decide) (hts _ k_105) (fun _ h9 => h9) rfl dX10_write_8 ?_
  refine lv_aload_n hx hb dX10_write_11 rfl (lv_at hl 1 rfl) ?_
  refine va_get (D := D) (ci := 10) (v := .int 128) (C := RX10) (T := TX10) (N := 44) hx hb hts inlX10 hown hK hP 0 rfl rfl 19 (by decide) (hts _ k_298) (fun _ h9 => h9) rfl dX10_write_12 ?_
  refine lv_aload_n hx hb dX10_write_15 rfl (lv_at hl 2 rfl) ?_
  refine lv_iload_n hx hb dX10_write_16 rfl (lv_at hl 0 rfl) ?_
  refine va_iald hx hb hK hP 1 0 rfl rfl (show ¬ ((36 : Int32) < 0 ∨ 60 ≤ (36 : Int32).toNatClampNeg) by decide) dX10_write_17 ?_
  refine lv_topi (fun x596 _ => ?_)
  refine va_iast hx hb hK hP hD hS 2 0 rfl rfl (show ¬ ((128 : Int32) < 0 ∨ 1336 ≤ (128 : Int32).toNatClampNeg) by decide) dX10_write_18 (fun H locs hP hD hS => ?_)
  obtain ⟨f597, hP, hD⟩ : ∃ f597, va_P D vwCl [(h0, .inr (10, (.int v1 :: .int v2 :: .ref h2 :: .ref h3 :: .ref h4 :: .ref h5 :: .ref h6 :: .ref h7 :: .ref h8 :: .ref h9 :: .ref h10 :: .ref h1 :: .int v3 :: .ref h11 :: .ref h12 :: .ref h13 :: .ref h14 :: .int v4 :: .int v5 :: .int 128 :: .ref h15 :: .ref h16 :: .ref h17 :: .int v6 :: .ref h18 :: .int v7 :: .ref h19 :: .ref h20 :: .int v8 :: .ref h21 :: .ref h22 :: .int v9 :: .int v10 :: .int v11 :: .int v12 :: .int v13 :: .int v14 :: .int v15 :: .int v16 :: .ref h23 :: .long v17 :: .long v18 :: .long v19 :: .long v20 :: []))), (h1, .inl (G.1, 60, .inl v21)), (h14, .inl (G.1, 1336, .inl f597))] H ∧ va_D A [(h0, .inr (10, (.int v1 :: .int v2 :: .ref h2 :: .ref h3 :: .ref h4 :: .ref h5 :: .ref h6 :: .ref h7 :: .ref h8 :: .ref h9 :: .ref h10 :: .ref h1 :: .int v3 :: .ref h11 :: .ref h12 :: .ref h13 :: .ref h14 :: .int v4 :: .int v5 :: .int 128 :: .ref h15 :: .ref h16 :: .ref h17 :: .int v6 :: .ref h18 :: .int v7 :: .ref h19 :: .ref h20 :: .int v8 :: .ref h21 :: .ref h22 :: .int v9 :: .int v10 :: .int v11 :: .int v12 :: .int v13 :: .int v14 :: .int v15 :: .int v16 :: .ref h23 :: .long v17 :: .long v18 :: .long v19 :: .long v20 :: []))), (h1, .inl (G.1, 60, .inl v21)), (h14, .inl (G.1, 1336, .inl f597))] := ⟨_, hP, hD⟩
  refine lv_aload_n hx hb dX10_write_19 rfl (lv_at hl 1 rfl) ?_
  refine lv_dup hx hb dX10_write_20 rfl ?_
  refine va_get (D := D) (ci := 10) (v := .int 128) (C := RX10) (T := TX10) (N := 44) hx hb hts inlX10 hown hK hP 0 rfl rfl 19 (by decide) (hts _ k_298) (fun _ h9 => h9) rfl dX10_write_21 ?_
  refine lv_iconst (v := 1) hx hb dX10_write_24 (by decide) ?_
  refine lv_iadd hx hb dX10_write_25 ?_
  refine ow_i (y := 129) (by decide) ?_
  refine va_put (D := D) (ci := 10) (v := .int 129) (ty := .int) (C := RX10) (T := TX10) (N := 44) hx hb hts inlX10 tyX10 tyX10_ok nmX10 hown hK hP hD hS 0 rfl rfl 19 (by decide) (hts _ k_298) (fun _ h9 => h9) rfl (tyX10_ok 19 (by decide)) rfl rfl (Nat.le_of_ble_eq_true rfl) dX10_write_26 (fun H locs hP hD hS => ?_)
  have hP : va_P D vwCl [(h0, .inr (10, (.int v1 :: .int v2 :: .ref h2 :: .ref h3 :: .ref h4 :: .ref h5 :: .ref h6 :: .ref h7 :: .ref h8 :: .ref h9 :: .ref h10 :: .ref h1 :: .int v3 :: .ref h11 :: .ref h12 :: .ref h13 :: .ref h14 :: .int v4 :: .int v5 :: .int 129 :: .ref h15 :: .ref h16 :: .ref h17 :: .int v6 :: .ref h18 :: .int v7 :: .ref h19 :: .ref h20 :: .int v8 :: .ref h21 :: .ref h22 :: .int v9 :: .int v10 :: .int v11 :: .int v12 :: .int v13 :: .int v14 :: .int v15 :: .int v16 :: .ref h23 :: .long v17 :: .long v18 :: .long v19 :: .long v20 :: []))), (h1, .inl (G.1, 60, .inl v21)), (h14, .inl (G.1, 1336, .inl f597))] H := hP
  have hD : va_D A [(h0, .inr (10, (.int v1 :: .int v2 :: .ref h2 :: .ref h3 :: .ref h4 :: .ref h5 :: .ref h6 :: .ref h7 :: .ref h8 :: .ref h9 :: .ref h10 :: .ref h1 :: .int v3 :: .ref h11 :: .ref h12 :: .ref h13 :: .ref h14 :: .int v4 :: .int v5 :: .int 129 :: .ref h15 :: .ref h16 :: .ref h17 :: .int v6 :: .ref h18 :: .int v7 :: .ref h19 :: .ref h20 :: .int v8 :: .ref h21 :: .ref h22 :: .int v9 :: .int v10 :: .int v11 :: .int v12 :: .int v13 :: .int v14 :: .int v15 :: .int v16 :: .ref h23 :: .long v17 :: .long v18 :: .long v19 :: .long v20 :: []))), (h1, .inl (G.1, 60, .inl v21)), (h14, .inl (G.1, 1336, .inl f597))] := hD
  refine lv_iinc (v := 37) (lv' := [(3, .int 37), (0, .ref h0), (1, .ref h1), (2, .int 60)]) hx hb dX10_write_29 hl (k := 0) rfl (by decide) (by decide) rfl (fun ls hl => ?_)
  refine lv_goto (tgt := 2) hx hb dX10_write_32 (by decide) ?_
  refine lv_iload_n hx hb dX10_write_2 rfl (lv_at hl 0 rfl) ?_
  refine lv_iload_n hx hb dX10_write_3 rfl (lv_at hl 3 rfl) ?_
  refine lv_icmp_ge (tgt := 35) hx hb dX10_write_4 (by decide) (fun h9 => absurd h9 (by decide)) (fun _ => ?_)
  refine lv_aload_n hx hb dX10_write_7 rfl (lv_at hl 1 rfl) ?_
  refine va_get (D := D) (ci := 10) (v := .ref h14) (C := RX10) (T := TX10) (N := 44) hx hb hts inlX10 hown hK hP 0 rfl rfl 16 (by decide) (hts _ k_105) (fun _ h9 => h9) rfl dX10_write_8 ?_
  refine lv_aload_n hx hb dX10_write_11 rfl (lv_at hl 1 rfl) ?_
  refine va_get (D := D) (ci := 10) (v := .int 129) (C := RX10) (T := TX10) (N := 44) hx hb hts inlX10 hown hK hP 0 rfl rfl 19 (by decide) (hts _ k_298) (fun _ h9 => h9) rfl dX10_write_12 ?_
  refine lv_aload_n hx hb dX10_write_15 rfl (lv_at hl 2 rfl) ?_
  refine lv_iload_n hx hb dX10_write_16 rfl (lv_at hl 0 rfl) ?_
  refine va_iald hx hb hK hP 1 0 rfl rfl (show ¬ ((37 : Int32) < 0 ∨ 60 ≤ (37 : Int32).toNatClampNeg) by decide) dX10_write_17 ?_
  refine lv_topi (fun x598 _ => ?_)
  refine va_iast hx hb hK hP hD hS 2 0 rfl rfl (show ¬ ((129 : Int32) < 0 ∨ 1336 ≤ (129 : Int32).toNatClampNeg) by decide) dX10_write_18 (fun H locs hP hD hS => ?_)
  obtain ⟨f599, hP, hD⟩ : ∃ f599, va_P D vwCl [(h0, .inr (10, (.int v1 :: .int v2 :: .ref h2 :: .ref h3 :: .ref h4 :: .ref h5 :: .ref h6 :: .ref h7 :: .ref h8 :: .ref h9 :: .ref h10 :: .ref h1 :: .int v3 :: .ref h11 :: .ref h12 :: .ref h13 :: .ref h14 :: .int v4 :: .int v5 :: .int 129 :: .ref h15 :: .ref h16 :: .ref h17 :: .int v6 :: .ref h18 :: .int v7 :: .ref h19 :: .ref h20 :: .int v8 :: .ref h21 :: .ref h22 :: .int v9 :: .int v10 :: .int v11 :: .int v12 :: .int v13 :: .int v14 :: .int v15 :: .int v16 :: .ref h23 :: .long v17 :: .long v18 :: .long v19 :: .long v20 :: []))), (h1, .inl (G.1, 60, .inl v21)), (h14, .inl (G.1, 1336, .inl f599))] H ∧ va_D A [(h0, .inr (10, (.int v1 :: .int v2 :: .ref h2 :: .ref h3 :: .ref h4 :: .ref h5 :: .ref h6 :: .ref h7 :: .ref h8 :: .ref h9 :: .ref h10 :: .ref h1 :: .int v3 :: .ref h11 :: .ref h12 :: .ref h13 :: .ref h14 :: .int v4 :: .int v5 :: .int 129 :: .ref h15 :: .ref h16 :: .ref h17 :: .int v6 :: .ref h18 :: .int v7 :: .ref h19 :: .ref h20 :: .int v8 :: .ref h21 :: .ref h22 :: .int v9 :: .int v10 :: .int v11 :: .int v12 :: .int v13 :: .int v14 :: .int v15 :: .int v16 :: .ref h23 :: .long v17 :: .long v18 :: .long v19 :: .long v20 :: []))), (h1, .inl (G.1, 60, .inl v21)), (h14, .inl (G.1, 1336, .inl f599))] := ⟨_, hP, hD⟩
  refine lv_aload_n hx hb dX10_write_19 rfl (lv_at hl 1 rfl) ?_
  refine lv_dup hx hb dX10_write_20 rfl ?_
  refine va_get (D := D) (ci := 10) (v := .int 129) (C := RX10) (T := TX10) (N := 44) hx hb hts inlX10 hown hK hP 0 rfl rfl 19 (by decide) (hts _ k_298) (fun _ h9 => h9) rfl dX10_write_21 ?_
  refine lv_iconst (v := 1) hx hb dX10_write_24 (by decide) ?_
  refine lv_iadd hx hb dX10_write_25 ?_
  refine ow_i (y := 130) (by decide) ?_
  refine va_put (D := D) (ci := 10) (v := .int 130) (ty := .int) (C := RX10) (T := TX10) (N := 44) hx hb hts inlX10 tyX10 tyX10_ok nmX10 hown hK hP hD hS 0 rfl rfl 19 (by decide) (hts _ k_298) (fun _ h9 => h9) rfl (tyX10_ok 19 (by decide)) rfl rfl (Nat.le_of_ble_eq_true rfl) dX10_write_26 (fun H locs hP hD hS => ?_)
  have hP : va_P D vwCl [(h0, .inr (10, (.int v1 :: .int v2 :: .ref h2 :: .ref h3 :: .ref h4 :: .ref h5 :: .ref h6 :: .ref h7 :: .ref h8 :: .ref h9 :: .ref h10 :: .ref h1 :: .int v3 :: .ref h11 :: .ref h12 :: .ref h13 :: .ref h14 :: .int v4 :: .int v5 :: .int 130 :: .ref h15 :: .ref h16 :: .ref h17 :: .int v6 :: .ref h18 :: .int v7 :: .ref h19 :: .ref h20 :: .int v8 :: .ref h21 :: .ref h22 :: .int v9 :: .int v10 :: .int v11 :: .int v12 :: .int v13 :: .int v14 :: .int v15 :: .int v16 :: .ref h23 :: .long v17 :: .long v18 :: .long v19 :: .long v20 :: []))), (h1, .inl (G.1, 60, .inl v21)), (h14, .inl (G.1, 1336, .inl f599))] H := hP
  have hD : va_D A [(h0, .inr (10, (.int v1 :: .int v2 :: .ref h2 :: .ref h3 :: .ref h4 :: .ref h5 :: .ref h6 :: .ref h7 :: .ref h8 :: .ref h9 :: .ref h10 :: .ref h1 :: .int v3 :: .ref h11 :: .ref h12 :: .ref h13 :: .ref h14 :: .int v4 :: .int v5 :: .int 130 :: .ref h15 :: .ref h16 :: .ref h17 :: .int v6 :: .ref h18 :: .int v7 :: .ref h19 :: .ref h20 :: .int v8 :: .ref h21 :: .ref h22 :: .int v9 :: .int v10 :: .int v11 :: .int v12 :: .int v13 :: .int v14 :: .int v15 :: .int v16 :: .ref h23 :: .long v17 :: .long v18 :: .long v19 :: .long v20 :: []))), (h1, .inl (G.1, 60, .inl v21)), (h14, .inl (G.1, 1336, .inl f599))] := hD
  refine lv_iinc (v := 38) (lv' := [(3, .int 38), (0, .ref h0), (1, .ref h1), (2, .int 60)]) hx hb dX10_write_29 hl (k := 0) rfl (by decide) (by decide) rfl (fun ls hl => ?_)
  refine lv_goto (tgt := 2) hx hb dX10_write_32 (by decide) ?_
  refine lv_iload_n hx hb dX10_write_2 rfl (lv_at hl 0 rfl) ?_
  refine lv_iload_n hx hb dX10_write_3 rfl (lv_at hl 3 rfl) ?_
  refine lv_icmp_ge (tgt := 35) hx hb dX10_write_4 (by decide) (fun h9 => absurd h9 (by decide)) (fun _ => ?_)
  refine lv_aload_n hx hb dX10_write_7 rfl (lv_at hl 1 rfl) ?_
  refine va_get (D := D) (ci := 10) (v := .ref h14) (C := RX10) (T := TX10) (N := 44) hx hb hts inlX10 hown hK hP 0 rfl rfl 16 (by decide) (hts _ k_105) (fun _ h9 => h9) rfl dX10_write_8 ?_
  refine lv_aload_n hx hb dX10_write_11 rfl (lv_at hl 1 rfl) ?_
  refine va_get (D := D) (ci := 10) (v := .int 130) (C := RX10) (T := TX10) (N := 44) hx hb hts inlX10 hown hK hP 0 rfl rfl 19 (by decide) (hts _ k_298) (fun _ h9 => h9) rfl dX10_write_12 ?_
  refine lv_aload_n hx hb dX10_write_15 rfl (lv_at hl 2 rfl) ?_
  refine lv_iload_n hx hb dX10_write_16 rfl (lv_at hl 0 rfl) ?_
  refine va_iald hx hb hK hP 1 0 rfl rfl (show ¬ ((38 : Int32) < 0 ∨ 60 ≤ (38 : Int32).toNatClampNeg) by decide) dX10_write_17 ?_
  refine lv_topi (fun x600 _ => ?_)
  refine va_iast hx hb hK hP hD hS 2 0 rfl rfl (show ¬ ((130 : Int32) < 0 ∨ 1336 ≤ (130 : Int32).toNatClampNeg) by decide) dX10_write_18 (fun H locs hP hD hS => ?_)
  obtain ⟨f601, hP, hD⟩ : ∃ f601, va_P D vwCl [(h0, .inr (10, (.int v1 :: .int v2 :: .ref h2 :: .ref h3 :: .ref h4 :: .ref h5 :: .ref h6 :: .ref h7 :: .ref h8 :: .ref h9 :: .ref h10 :: .ref h1 :: .int v3 :: .ref h11 :: .ref h12 :: .ref h13 :: .ref h14 :: .int v4 :: .int v5 :: .int 130 :: .ref h15 :: .ref h16 :: .ref h17 :: .int v6 :: .ref h18 :: .int v7 :: .ref h19 :: .ref h20 :: .int v8 :: .ref h21 :: .ref h22 :: .int v9 :: .int v10 :: .int v11 :: .int v12 :: .int v13 :: .int v14 :: .int v15 :: .int v16 :: .ref h23 :: .long v17 :: .long v18 :: .long v19 :: .long v20 :: []))), (h1, .inl (G.1, 60, .inl v21)), (h14, .inl (G.1, 1336, .inl f601))] H ∧ va_D A [(h0, .inr (10, (.int v1 :: .int v2 :: .ref h2 :: .ref h3 :: .ref h4 :: .ref h5 :: .ref h6 :: .ref h7 :: .ref h8 :: .ref h9 :: .ref h10 :: .ref h1 :: .int v3 :: .ref h11 :: .ref h12 :: .ref h13 :: .ref h14 :: .int v4 :: .int v5 :: .int 130 :: .ref h15 :: .ref h16 :: .ref h17 :: .int v6 :: .ref h18 :: .int v7 :: .ref h19 :: .ref h20 :: .int v8 :: .ref h21 :: .ref h22 :: .int v9 :: .int v10 :: .int v11 :: .int v12 :: .int v13 :: .int v14 :: .int v15 :: .int v16 :: .ref h23 :: .long v17 :: .long v18 :: .long v19 :: .long v20 :: []))), (h1, .inl (G.1, 60, .inl v21)), (h14, .inl (G.1, 1336, .inl f601))] := ⟨_, hP, hD⟩
  refine lv_aload_n hx hb dX10_write_19 rfl (lv_at hl 1 rfl) ?_
  refine lv_dup hx hb dX10_write_20 rfl ?_
  refine va_get (D := D) (ci := 10) (v := .int 130) (C := RX10) (T := TX10) (N := 44) hx hb hts inlX10 hown hK hP 0 rfl rfl 19 (by decide) (hts _ k_298) (fun _ h9 => h9) rfl dX10_write_21 ?_
  refine lv_iconst (v := 1) hx hb dX10_write_24 (by decide) ?_
  refine lv_iadd hx hb dX10_write_25 ?_
  refine ow_i (y := 131) (by decide) ?_
  refine va_put (D := D) (ci := 10) (v := .int 131) (ty := .int) (C := RX10) (T := TX10) (N := 44) hx hb hts inlX10 tyX10 tyX10_ok nmX10 hown hK hP hD hS 0 rfl rfl 19 (by decide) (hts _ k_298) (fun _ h9 => h9) rfl (tyX10_ok 19 (by decide)) rfl rfl (Nat.le_of_ble_eq_true rfl) dX10_write_26 (fun H locs hP hD hS => ?_)
  have hP : va_P D vwCl [(h0, .inr (10, (.int v1 :: .int v2 :: .ref h2 :: .ref h3 :: .ref h4 :: .ref h5 :: .ref h6 :: .ref h7 :: .ref h8 :: .ref h9 :: .ref h10 :: .ref h1 :: .int v3 :: .ref h11 :: .ref h12 :: .ref h13 :: .ref h14 :: .int v4 :: .int v5 :: .int 131 :: .ref h15 :: .ref h16 :: .ref h17 :: .int v6 :: .ref h18 :: .int v7 :: .ref h19 :: .ref h20 :: .int v8 :: .ref h21 :: .ref h22 :: .int v9 :: .int v10 :: .int v11 :: .int v12 :: .int v13 :: .int v14 :: .int v15 :: .int v16 :: .ref h23 :: .long v17 :: .long v18 :: .long v19 :: .long v20 :: []))), (h1, .inl (G.1, 60, .inl v21)), (h14, .inl (G.1, 1336, .inl f601))] H := hP
  have hD : va_D A [(h0, .inr (10, (.int v1 :: .int v2 :: .ref h2 :: .ref h3 :: .ref h4 :: .ref h5 :: .ref h6 :: .ref h7 :: .ref h8 :: .ref h9 :: .ref h10 :: .ref h1 :: .int v3 :: .ref h11 :: .ref h12 :: .ref h13 :: .ref h14 :: .int v4 :: .int v5 :: .int 131 :: .ref h15 :: .ref h16 :: .ref h17 :: .int v6 :: .ref h18 :: .int v7 :: .ref h19 :: .ref h20 :: .int v8 :: .ref h21 :: .ref h22 :: .int v9 :: .int v10 :: .int v11 :: .int v12 :: .int v13 :: .int v14 :: .int v15 :: .int v16 :: .ref h23 :: .long v17 :: .long v18 :: .long v19 :: .long v20 :: []))), (h1, .inl (G.1, 60, .inl v21)), (h14, .inl (G.1, 1336, .inl f601))] := hD
  refine lv_iinc (v := 39) (lv' := [(3, .int 39), (0, .ref h0), (1, .ref h1), (2, .int 60)]) hx hb dX10_write_29 hl (k := 0) rfl (by decide) (by decide) rfl (fun ls hl => ?_)
  refine lv_goto (tgt := 2) hx hb dX10_write_32 (by decide) ?_
  refine lv_iload_n hx hb dX10_write_2 rfl (lv_at hl 0 rfl) ?_
  refine lv_iload_n hx hb dX10_write_3 rfl (lv_at hl 3 rfl) ?_
  refine lv_icmp_ge (tgt := 35) hx hb dX10_write_4 (by decide) (fun h9 => absurd h9 (by decide)) (fun _ => ?_)
  refine lv_aload_n hx hb dX10_write_7 rfl (lv_at hl 1 rfl) ?_
  refine va_get (D := D) (ci := 10) (v := .ref h14) (C := RX10) (T := TX10) (N := 44) hx hb hts inlX10 hown hK hP 0 rfl rfl 16 (by decide) (hts _ k_105) (fun _ h9 => h9) rfl dX10_write_8 ?_
  refine lv_aload_n hx hb dX10_write_11 rfl (lv_at hl 1 rfl) ?_
  refine va_get (D := D) (ci := 10) (v := .int 131) (C := RX10) (T := TX10) (N := 44) hx hb hts inlX10 hown hK hP 0 rfl rfl 19 (by decide) (hts _ k_298) (fun _ h9 => h9) rfl dX10_write_12 ?_
  refine lv_aload_n hx hb dX10_write_15 rfl (lv_at hl 2 rfl) ?_
  refine lv_iload_n hx hb dX10_write_16 rfl (lv_at hl 0 rfl) ?_
  refine va_iald hx hb hK hP 1 0 rfl rfl (show ¬ ((39 : Int32) < 0 ∨ 60 ≤ (39 : Int32).toNatClampNeg) by decide) dX10_write_17 ?_
  refine lv_topi (fun x602 _ => ?_)
  refine va_iast hx hb hK hP hD hS 2 0 rfl rfl (show ¬ ((131 : Int32) < 0 ∨ 1336 ≤ (131 : Int32).toNatClampNeg) by decide) dX10_write_18 (fun H locs hP hD hS => ?_)
  obtain ⟨f603, hP, hD⟩ : ∃ f603, va_P D vwCl [(h0, .inr (10, (.int v1 :: .int v2 :: .ref h2 :: .ref h3 :: .ref h4 :: .ref h5 :: .ref h6 :: .ref h7 :: .ref h8 :: .ref h9 :: .ref h10 :: .ref h1 :: .int v3 :: .ref h11 :: .ref h12 :: .ref h13 :: .ref h14 :: .int v4 :: .int v5 :: .int 131 :: .ref h15 :: .ref h16 :: .ref h17 :: .int v6 :: .ref h18 :: .int v7 :: .ref h19 :: .ref h20 :: .int v8 :: .ref h21 :: .ref h22 :: .int v9 :: .int v10 :: .int v11 :: .int v12 :: .int v13 :: .int v14 :: .int v15 :: .int v16 :: .ref h23 :: .long v17 :: .long v18 :: .long v19 :: .long v20 :: []))), (h1, .inl (G.1, 60, .inl v21)), (h14, .inl (G.1, 1336, .inl f603))] H ∧ va_D A [(h0, .inr (10, (.int v1 :: .int v2 :: .ref h2 :: .ref h3 :: .ref h4 :: .ref h5 :: .ref h6 :: .ref h7 :: .ref h8 :: .ref h9 :: .ref h10 :: .ref h1 :: .int v3 :: .ref h11 :: .ref h12 :: .ref h13 :: .ref h14 :: .int v4 :: .int v5 :: .int 131 :: .ref h15 :: .ref h16 :: .ref h17 :: .int v6 :: .ref h18 :: .int v7 :: .ref h19 :: .ref h20 :: .int v8 :: .ref h21 :: .ref h22 :: .int v9 :: .int v10 :: .int v11 :: .int v12 :: .int v13 :: .int v14 :: .int v15 :: .int v16 :: .ref h23 :: .long v17 :: .long v18 :: .long v19 :: .long v20 :: []))), (h1, .inl (G.1, 60, .inl v21)), (h14, .inl (G.1, 1336, .inl f603))] := ⟨_, hP, hD⟩
  refine lv_aload_n hx hb dX10_write_19 rfl (lv_at hl 1 rfl) ?_
  refine lv_dup hx hb dX10_write_20 rfl ?_
  refine va_get (D := D) (ci := 10) (v := .int 131) (C := RX10) (T := TX10) (N := 44) hx hb hts inlX10 hown hK hP 0 rfl rfl 19 (by decide) (hts _ k_298) (fun _ h9 => h9) rfl dX10_write_21 ?_
  refine lv_iconst (v := 1) hx hb dX10_write_24 (by decide) ?_
  refine lv_iadd hx hb dX10_write_25 ?_
  refine ow_i (y := 132) (by decide) ?_
  refine va_put (D := D) (ci := 10) (v := .int 132) (ty := .int) (C := RX10) (T := TX10) (N := 44) hx hb hts inlX10 tyX10 tyX10_ok nmX10 hown hK hP hD hS 0 rfl rfl 19 (by decide) (hts _ k_298) (fun _ h9 => h9) rfl (tyX10_ok 19 (by decide)) rfl rfl (Nat.le_of_ble_eq_true rfl) dX10_write_26 (fun H locs hP hD hS => ?_)
  have hP : va_P D vwCl [(h0, .inr (10, (.int v1 :: .int v2 :: .ref h2 :: .ref h3 :: .ref h4 :: .ref h5 :: .ref h6 :: .ref h7 :: .ref h8 :: .ref h9 :: .ref h10 :: .ref h1 :: .int v3 :: .ref h11 :: .ref h12 :: .ref h13 :: .ref h14 :: .int v4 :: .int v5 :: .int 132 :: .ref h15 :: .ref h16 :: .ref h17 :: .int v6 :: .ref h18 :: .int v7 :: .ref h19 :: .ref h20 :: .int v8 :: .ref h21 :: .ref h22 :: .int v9 :: .int v10 :: .int v11 :: .int v12 :: .int v13 :: .int v14 :: .int v15 :: .int v16 :: .ref h23 :: .long v17 :: .long v18 :: .long v19 :: .long v20 :: []))), (h1, .inl (G.1, 60, .inl v21)), (h14, .inl (G.1, 1336, .inl f603))] H := hP
  have hD : va_D A [(h0, .inr (10, (.int v1 :: .int v2 :: .ref h2 :: .ref h3 :: .ref h4 :: .ref h5 :: .ref h6 :: .ref h7 :: .ref h8 :: .ref h9 :: .ref h10 :: .ref h1 :: .int v3 :: .ref h11 :: .ref h12 :: .ref h13 :: .ref h14 :: .int v4 :: .int v5 :: .int 132 :: .ref h15 :: .ref h16 :: .ref h17 :: .int v6 :: .ref h18 :: .int v7 :: .ref h19 :: .ref h20 :: .int v8 :: .ref h21 :: .ref h22 :: .int v9 :: .int v10 :: .int v11 :: .int v12 :: .int v13 :: .int v14 :: .int v15 :: .int v16 :: .ref h23 :: .long v17 :: .long v18 :: .long v19 :: .long v20 :: []))), (h1, .inl (G.1, 60, .inl v21)), (h14, .inl (G.1, 1336, .inl f603))] := hD
  refine lv_iinc (v := 40) (lv' := [(3, .int 40), (0, .ref h0), (1, .ref h1), (2, .int 60)]) hx hb dX10_write_29 hl (k := 0) rfl (by decide) (by decide) rfl (fun ls hl => ?_)
  refine lv_goto (tgt := 2) hx hb dX10_write_32 (by decide) ?_
  refine lv_iload_n hx hb dX10_write_2 rfl (lv_at hl 0 rfl) ?_
  refine lv_iload_n hx hb dX10_write_3 rfl (lv_at hl 3 rfl) ?_
  refine lv_icmp_ge (tgt := 35) hx hb dX10_write_4 (by decide) (fun h9 => absurd h9 (by decide)) (fun _ => ?_)
  refine lv_aload_n hx hb dX10_write_7 rfl (lv_at hl 1 rfl) ?_
  refine va_get (D := D) (ci := 10) (v := .ref h14) (C := RX10) (T := TX10) (N := 44) hx hb hts inlX10 hown hK hP 0 rfl rfl 16 (by decide) (hts _ k_105) (fun _ h9 => h9) rfl dX10_write_8 ?_
  refine lv_aload_n hx hb dX10_write_11 rfl (lv_at hl 1 rfl) ?_
  refine va_get (D := D) (ci := 10) (v := .int 132) (C := RX10) (T := TX10) (N := 44) hx hb hts inlX10 hown hK hP 0 rfl rfl 19 (by decide) (hts _ k_298) (fun _ h9 => h9) rfl dX10_write_12 ?_
  refine lv_aload_n hx hb dX10_write_15 rfl (lv_at hl 2 rfl) ?_
  refine lv_iload_n hx hb dX10_write_16 rfl (lv_at hl 0 rfl) ?_
  refine va_iald hx hb hK hP 1 0 rfl rfl (show ¬ ((40 : Int32) < 0 ∨ 60 ≤ (40 : Int32).toNatClampNeg) by decide) dX10_write_17 ?_
  refine lv_topi (fun x604 _ => ?_)
  refine va_iast hx hb hK hP hD hS 2 0 rfl rfl (show ¬ ((132 : Int32) < 0 ∨ 1336 ≤ (132 : Int32).toNatClampNeg) by decide) dX10_write_18 (fun H locs hP hD hS => ?_)
  obtain ⟨f605, hP, hD⟩ : ∃ f605, va_P D vwCl [(h0, .inr (10, (.int v1 :: .int v2 :: .ref h2 :: .ref h3 :: .ref h4 :: .ref h5 :: .ref h6 :: .ref h7 :: .ref h8 :: .ref h9 :: .ref h10 :: .ref h1 :: .int v3 :: .ref h11 :: .ref h12 :: .ref h13 :: .ref h14 :: .int v4 :: .int v5 :: .int 132 :: .ref h15 :: .ref h16 :: .ref h17 :: .int v6 :: .ref h18 :: .int v7 :: .ref h19 :: .ref h20 :: .int v8 :: .ref h21 :: .ref h22 :: .int v9 :: .int v10 :: .int v11 :: .int v12 :: .int v13 :: .int v14 :: .int v15 :: .int v16 :: .ref h23 :: .long v17 :: .long v18 :: .long v19 :: .long v20 :: []))), (h1, .inl (G.1, 60, .inl v21)), (h14, .inl (G.1, 1336, .inl f605))] H ∧ va_D A [(h0, .inr (10, (.int v1 :: .int v2 :: .ref h2 :: .ref h3 :: .ref h4 :: .ref h5 :: .ref h6 :: .ref h7 :: .ref h8 :: .ref h9 :: .ref h10 :: .ref h1 :: .int v3 :: .ref h11 :: .ref h12 :: .ref h13 :: .ref h14 :: .int v4 :: .int v5 :: .int 132 :: .ref h15 :: .ref h16 :: .ref h17 :: .int v6 :: .ref h18 :: .int v7 :: .ref h19 :: .ref h20 :: .int v8 :: .ref h21 :: .ref h22 :: .int v9 :: .int v10 :: .int v11 :: .int v12 :: .int v13 :: .int v14 :: .int v15 :: .int v16 :: .ref h23 :: .long v17 :: .long v18 :: .long v19 :: .long v20 :: []))), (h1, .inl (G.1, 60, .inl v21)), (h14, .inl (G.1, 1336, .inl f605))] := ⟨_, hP, hD⟩
  refine lv_aload_n hx hb dX10_write_19 rfl (lv_at hl 1 rfl) ?_
  refine lv_dup hx hb dX10_write_20 rfl ?_
  refine va_get (D := D) (ci := 10) (v := .int 132) (C := RX10) (T := TX10) (N := 44) hx hb hts inlX10 hown hK hP 0 rfl rfl 19 (by decide) (hts _ k_298) (fun _ h9 => h9) rfl dX10_write_21 ?_
  refine lv_iconst (v := 1) hx hb dX10_write_24 (by decide) ?_
  refine lv_iadd hx hb dX10_write_25 ?_
  refine ow_i (y := 133) (by decide) ?_
  refine va_put (D := D) (ci := 10) (v := .int 133) (ty := .int) (C := RX10) (T := TX10) (N := 44) hx hb hts inlX10 tyX10 tyX10_ok nmX10 hown hK hP hD hS 0 rfl rfl 19 (by decide) (hts _ k_298) (fun _ h9 => h9) rfl (tyX10_ok 19 (by decide)) rfl rfl (Nat.le_of_ble_eq_true rfl) dX10_write_26 (fun H locs hP hD hS => ?_)
  have hP : va_P D vwCl [(h0, .inr (10, (.int v1 :: .int v2 :: .ref h2 :: .ref h3 :: .ref h4 :: .ref h5 :: .ref h6 :: .ref h7 :: .ref h8 :: .ref h9 :: .ref h10 :: .ref h1 :: .int v3 :: .ref h11 :: .ref h12 :: .ref h13 :: .ref h14 :: .int v4 :: .int v5 :: .int 133 :: .ref h15 :: .ref h16 :: .ref h17 :: .int v6 :: .ref h18 :: .int v7 :: .ref h19 :: .ref h20 :: .int v8 :: .ref h21 :: .ref h22 :: .int v9 :: .int v10 :: .int v11 :: .int v12 :: .int v13 :: .int v14 :: .int v15 :: .int v16 :: .ref h23 :: .long v17 :: .long v18 :: .long v19 :: .long v20 :: []))), (h1, .inl (G.1, 60, .inl v21)), (h14, .inl (G.1, 1336, .inl f605))] H := hP
  have hD : va_D A [(h0, .inr (10, (.int v1 :: .int v2 :: .ref h2 :: .ref h3 :: .ref h4 :: .ref h5 :: .ref h6 :: .ref h7 :: .ref h8 :: .ref h9 :: .ref h10 :: .ref h1 :: .int v3 :: .ref h11 :: .ref h12 :: .ref h13 :: .ref h14 :: .int v4 :: .int v5 :: .int 133 :: .ref h15 :: .ref h16 :: .ref h17 :: .int v6 :: .ref h18 :: .int v7 :: .ref h19 :: .ref h20 :: .int v8 :: .ref h21 :: .ref h22 :: .int v9 :: .int v10 :: .int v11 :: .int v12 :: .int v13 :: .int v14 :: .int v15 :: .int v16 :: .ref h23 :: .long v17 :: .long v18 :: .long v19 :: .long v20 :: []))), (h1, .inl (G.1, 60, .inl v21)), (h14, .inl (G.1, 1336, .inl f605))] := hD
  refine lv_iinc (v := 41) (lv' := [(3, .int 41), (0, .ref h0), (1, .ref h1), (2, .int 60)]) hx hb dX10_write_29 hl (k := 0) rfl (by decide) (by decide) rfl (fun ls hl => ?_)
  refine lv_goto (tgt := 2) hx hb dX10_write_32 (by decide) ?_
  refine lv_iload_n hx hb dX10_write_2 rfl (lv_at hl 0 rfl) ?_
  refine lv_iload_n hx hb dX10_write_3 rfl (lv_at hl 3 rfl) ?_
  refine lv_icmp_ge (tgt := 35) hx hb dX10_write_4 (by decide) (fun h9 => absurd h9 (by decide)) (fun _ => ?_)
  refine lv_aload_n hx hb dX10_write_7 rfl (lv_at hl 1 rfl) ?_
  refine va_get (D := D) (ci := 10) (v := .ref h14) (C := RX10) (T := TX10) (N := 44) hx hb hts inlX10 hown hK hP 0 rfl rfl 16 (by decide) (hts _ k_105) (fun _ h9 => h9) rfl dX10_write_8 ?_
  refine lv_aload_n hx hb dX10_write_11 rfl (lv_at hl 1 rfl) ?_
  refine va_get (D := D) (ci := 10) (v := .int 133) (C := RX10) (T := TX10) (N := 44) hx hb hts inlX10 hown hK hP 0 rfl rfl 19 (by decide) (hts _ k_298) (fun _ h9 => h9) rfl dX10_write_12 ?_
  refine lv_aload_n hx hb dX10_write_15 rfl (lv_at hl 2 rfl) ?_
  refine lv_iload_n hx hb dX10_write_16 rfl (lv_at hl 0 rfl) ?_
  refine va_iald hx hb hK hP 1 0 rfl rfl (show ¬ ((41 : Int32) < 0 ∨ 60 ≤ (41 : Int32).toNatClampNeg) by decide) dX10_write_17 ?_
  refine lv_topi (fun x606 _ => ?_)
  refine va_iast hx hb hK hP hD hS 2 0 rfl rfl (show ¬ ((133 : Int32) < 0 ∨ 1336 ≤ (133 : Int32).toNatClampNeg) by decide) dX10_write_18 (fun H locs hP hD hS => ?_)
  obtain ⟨f607, hP, hD⟩ : ∃ f607, va_P D vwCl [(h0, .inr (10, (.int v1 :: .int v2 :: .ref h2 :: .ref h3 :: .ref h4 :: .ref h5 :: .ref h6 :: .ref h7 :: .ref h8 :: .ref h9 :: .ref h10 :: .ref h1 :: .int v3 :: .ref h11 :: .ref h12 :: .ref h13 :: .ref h14 :: .int v4 :: .int v5 :: .int 133 :: .ref h15 :: .ref h16 :: .ref h17 :: .int v6 :: .ref h18 :: .int v7 :: .ref h19 :: .ref h20 :: .int v8 :: .ref h21 :: .ref h22 :: .int v9 :: .int v10 :: .int v11 :: .int v12 :: .int v13 :: .int v14 :: .int v15 :: .int v16 :: .ref h23 :: .long v17 :: .long v18 :: .long v19 :: .long v20 :: []))), (h1, .inl (G.1, 60, .inl v21)), (h14, .inl (G.1, 1336, .inl f607))] H ∧ va_D A [(h0, .inr (10, (.int v1 :: .int v2 :: .ref h2 :: .ref h3 :: .ref h4 :: .ref h5 :: .ref h6 :: .ref h7 :: .ref h8 :: .ref h9 :: .ref h10 :: .ref h1 :: .int v3 :: .ref h11 :: .ref h12 :: .ref h13 :: .ref h14 :: .int v4 :: .int v5 :: .int 133 :: .ref h15 :: .ref h16 :: .ref h17 :: .int v6 :: .ref h18 :: .int v7 :: .ref h19 :: .ref h20 :: .int v8 :: .ref h21 :: .ref h22 :: .int v9 :: .int v10 :: .int v11 :: .int v12 :: .int v13 :: .int v14 :: .int v15 :: .int v16 :: .ref h23 :: .long v17 :: .long v18 :: .long v19 :: .long v20 :: []))), (h1, .inl (G.1, 60, .inl v21)), (h14, .inl (G.1, 1336, .inl f607))] := ⟨_, hP, hD⟩
  refine lv_aload_n hx hb dX10_write_19 rfl (lv_at hl 1 rfl) ?_
  refine lv_dup hx hb dX10_write_20 rfl ?_
  refine va_get (D := D) (ci := 10) (v := .int 133) (C := RX10) (T := TX10) (N := 44) hx hb hts inlX10 hown hK hP 0 rfl rfl 19 (by decide) (hts _ k_298) (fun _ h9 => h9) rfl dX10_write_21 ?_
  refine lv_iconst (v := 1) hx hb dX10_write_24 (by decide) ?_
  refine lv_iadd hx hb dX10_write_25 ?_
  refine ow_i (y := 134) (by decide) ?_
  refine va_put (D := D) (ci := 10) (v := .int 134) (ty := .int) (C := RX10) (T := TX10) (N := 44) hx hb hts inlX10 tyX10 tyX10_ok nmX10 hown hK hP hD hS 0 rfl rfl 19 (by decide) (hts _ k_298) (fun _ h9 => h9) rfl (tyX10_ok 19 (by decide)) rfl rfl (Nat.le_of_ble_eq_true rfl) dX10_write_26 (fun H locs hP hD hS => ?_)
  have hP : va_P D vwCl [(h0, .inr (10, (.int v1 :: .int v2 :: .ref h2 :: .ref h3 :: .ref h4 :: .ref h5 :: .ref h6 :: .ref h7 :: .ref h8 :: .ref h9 :: .ref h10 :: .ref h1 :: .int v3 :: .ref h11 :: .ref h12 :: .ref h13 :: .ref h14 :: .int v4 :: .int v5 :: .int 134 :: .ref h15 :: .ref h16 :: .ref h17 :: .int v6 :: .ref h18 :: .int v7 :: .ref h19 :: .ref h20 :: .int v8 :: .ref h21 :: .ref h22 :: .int v9 :: .int v10 :: .int v11 :: .int v12 :: .int v13 :: .int v14 :: .int v15 :: .int v16 :: .ref h23 :: .long v17 :: .long v18 :: .long v19 :: .long v20 :: []))), (h1, .inl (G.1, 60, .inl v21)), (h14, .inl (G.1, 1336, .inl f607))] H := hP
  have hD : va_D A [(h0, .inr (10, (.int v1 :: .int v2 :: .ref h2 :: .ref h3 :: .ref h4 :: .ref h5 :: .ref h6 :: .ref h7 :: .ref h8 :: .ref h9 :: .ref h10 :: .ref h1 :: .int v3 :: .ref h11 :: .ref h12 :: .ref h13 :: .ref h14 :: .int v4 :: .int v5 :: .int 134 :: .ref h15 :: .ref h16 :: .ref h17 :: .int v6 :: .ref h18 :: .int v7 :: .ref h19 :: .ref h20 :: .int v8 :: .ref h21 :: .ref h22 :: .int v9 :: .int v10 :: .int v11 :: .int v12 :: .int v13 :: .int v14 :: .int v15 :: .int v16 :: .ref h23 :: .long v17 :: .long v18 :: .long v19 :: .long v20 :: []))), (h1, .inl (G.1, 60, .inl v21)), (h14, .inl (G.1, 1336, .inl f607))] := hD
  refine lv_iinc (v := 42) (lv' := [(3, .int 42), (0, .ref h0), (1, .ref h1), (2, .int 60)]) hx hb dX10_write_29 hl (k := 0) rfl (by decide) (by decide) rfl (fun ls hl => ?_)
  refine lv_goto (tgt := 2) hx hb dX10_write_32 (by decide) ?_
  refine lv_iload_n hx hb dX10_write_2 rfl (lv_at hl 0 rfl) ?_
  refine lv_iload_n hx hb dX10_write_3 rfl (lv_at hl 3 rfl) ?_
  refine lv_icmp_ge (tgt := 35) hx hb dX10_write_4 (by decide) (fun h9 => absurd h9 (by decide)) (fun _ => ?_)
  refine lv_aload_n hx hb dX10_write_7 rfl (lv_at hl 1 rfl) ?_
  refine va_get (D := D) (ci := 10) (v := .ref h14) (C := RX10) (T := TX10) (N := 44) hx hb hts inlX10 hown hK hP 0 rfl rfl 16 (by decide) (hts _ k_105) (fun _ h9 => h9) rfl dX10_write_8 ?_
  refine lv_aload_n hx hb dX10_write_11 rfl (lv_at hl 1 rfl) ?_
  refine va_get (D := D) (ci := 10) (v := .int 134) (C := RX10) (T := TX10) (N := 44) hx hb hts inlX10 hown hK hP 0 rfl rfl 19 (by decide) (hts _ k_298) (fun _ h9 => h9) rfl dX10_write_12 ?_
  refine lv_aload_n hx hb dX10_write_15 rfl (lv_at hl 2 rfl) ?_
  refine lv_iload_n hx hb dX10_write_16 rfl (lv_at hl 0 rfl) ?_
  refine va_iald hx hb hK hP 1 0 rfl rfl (show ¬ ((42 : Int32) < 0 ∨ 60 ≤ (42 : Int32).toNatClampNeg) by decide) dX10_write_17 ?_
  refine lv_topi (fun x608 _ => ?_)
  refine va_iast hx hb hK hP hD hS 2 0 rfl rfl (show ¬ ((134 : Int32) < 0 ∨ 1336 ≤ (134 : Int32).toNatClampNeg) by decide) dX10_write_18 (fun H locs hP hD hS => ?_)
  obtain ⟨f609, hP, hD⟩ : ∃ f609, va_P D vwCl [(h0, .inr (10, (.int v1 :: .int v2 :: .ref h2 :: .ref h3 :: .ref h4 :: .ref h5 :: .ref h6 :: .ref h7 :: .ref h8 :: .ref h9 :: .ref h10 :: .ref h1 :: .int v3 :: .ref h11 :: .ref h12 :: .ref h13 :: .ref h14 :: .int v4 :: .int v5 :: .int 134 :: .ref h15 :: .ref h16 :: .ref h17 :: .int v6 :: .ref h18 :: .int v7 :: .ref h19 :: .ref h20 :: .int v8 :: .ref h21 :: .ref h22 :: .int v9 :: .int v10 :: .int v11 :: .int v12 :: .int v13 :: .int v14 :: .int v15 :: .int v16 :: .ref h23 :: .long v17 :: .long v18 :: .long v19 :: .long v20 :: []))), (h1, .inl (G.1, 60, .inl v21)), (h14, .inl (G.1, 1336, .inl f609))] H ∧ va_D A [(h0, .inr (10, (.int v1 :: .int v2 :: .ref h2 :: .ref h3 :: .ref h4 :: .ref h5 :: .ref h6 :: .ref h7 :: .ref h8 :: .ref h9 :: .ref h10 :: .ref h1 :: .int v3 :: .ref h11 :: .ref h12 :: .ref h13 :: .ref h14 :: .int v4 :: .int v5 :: .int 134 :: .ref h15 :: .ref h16 :: .ref h17 :: .int v6 :: .ref h18 :: .int v7 :: .ref h19 :: .ref h20 :: .int v8 :: .ref h21 :: .ref h22 :: .int v9 :: .int v10 :: .int v11 :: .int v12 :: .int v13 :: .int v14 :: .int v15 :: .int v16 :: .ref h23 :: .long v17 :: .long v18 :: .long v19 :: .long v20 :: []))), (h1, .inl (G.1, 60, .inl v21)), (h14, .inl (G.1, 1336, .inl f609))] := ⟨_, hP, hD⟩
  refine lv_aload_n hx hb dX10_write_19 rfl (lv_at hl 1 rfl) ?_
  refine lv_dup hx hb dX10_write_20 rfl ?_
  refine va_get (D := D) (ci := 10) (v := .int 134) (C := RX10) (T := TX10) (N := 44) hx hb hts inlX10 hown hK hP 0 rfl rfl 19 (by decide) (hts _ k_298) (fun _ h9 => h9) rfl dX10_write_21 ?_
  refine lv_iconst (v := 1) hx hb dX10_write_24 (by decide) ?_
  refine lv_iadd hx hb dX10_write_25 ?_
  refine ow_i (y := 135) (by decide) ?_
  refine va_put (D := D) (ci := 10) (v := .int 135) (ty := .int) (C := RX10) (T := TX10) (N := 44) hx hb hts inlX10 tyX10 tyX10_ok nmX10 hown hK hP hD hS 0 rfl rfl 19 (by decide) (hts _ k_298) (fun _ h9 => h9) rfl (tyX10_ok 19 (by decide)) rfl rfl (Nat.le_of_ble_eq_true rfl) dX10_write_26 (fun H locs hP hD hS => ?_)
  have hP : va_P D vwCl [(h0, .inr (10, (.int v1 :: .int v2 :: .ref h2 :: .ref h3 :: .ref h4 :: .ref h5 :: .ref h6 :: .ref h7 :: .ref h8 :: .ref h9 :: .ref h10 :: .ref h1 :: .int v3 :: .ref h11 :: .ref h12 :: .ref h13 :: .ref h14 :: .int v4 :: .int v5 :: .int 135 :: .ref h15 :: .ref h16 :: .ref h17 :: .int v6 :: .ref h18 :: .int v7 :: .ref h19 :: .ref h20 :: .int v8 :: .ref h21 :: .ref h22 :: .int v9 :: .int v10 :: .int v11 :: .int v12 :: .int v13 :: .int v14 :: .int v15 :: .int v16 :: .ref h23 :: .long v17 :: .long v18 :: .long v19 :: .long v20 :: []))), (h1, .inl (G.1, 60, .inl v21)), (h14, .inl (G.1, 1336, .inl f609))] H := hP
  have hD : va_D A [(h0, .inr (10, (.int v1 :: .int v2 :: .ref h2 :: .ref h3 :: .ref h4 :: .ref h5 :: .ref h6 :: .ref h7 :: .ref h8 :: .ref h9 :: .ref h10 :: .ref h1 :: .int v3 :: .ref h11 :: .ref h12 :: .ref h13 :: .ref h14 :: .int v4 :: .int v5 :: .int 135 :: .ref h15 :: .ref h16 :: .ref h17 :: .int v6 :: .ref h18 :: .int v7 :: .ref h19 :: .ref h20 :: .int v8 :: .ref h21 :: .ref h22 :: .int v9 :: .int v10 :: .int v11 :: .int v12 :: .int v13 :: .int v14 :: .int v15 :: .int v16 :: .ref h23 :: .long v17 :: .long v18 :: .long v19 :: .long v20 :: []))), (h1, .inl (G.1, 60, .inl v21)), (h14, .inl (G.1, 1336, .inl f609))] := hD
  refine lv_iinc (v := 43) (lv' := [(3, .int 43), (0, .ref h0), (1, .ref h1), (2, .int 60)]) hx hb dX10_write_29 hl (k := 0) rfl (by decide) (by decide) rfl (fun ls hl => ?_)
  refine lv_goto (tgt := 2) hx hb dX10_write_32 (by decide) ?_
  refine lv_iload_n hx hb dX10_write_2 rfl (lv_at hl 0 rfl) ?_
  refine lv_iload_n hx hb dX10_write_3 rfl (lv_at hl 3 rfl) ?_
  refine lv_icmp_ge (tgt := 35) hx hb dX10_write_4 (by decide) (fun h9 => absurd h9 (by decide)) (fun _ => ?_)
  refine lv_aload_n hx hb dX10_write_7 rfl (lv_at hl 1 rfl) ?_
  refine va_get (D := D) (ci := 10) (v := .ref h14) (C := RX10) (T := TX10) (N := 44) hx hb hts inlX10 hown hK hP 0 rfl rfl 16 (by decide) (hts _ k_105) (fun _ h9 => h9) rfl dX10_write_8 ?_
  refine lv_aload_n hx hb dX10_write_11 rfl (lv_at hl 1 rfl) ?_
  refine va_get (D := D) (ci := 10) (v := .int 135) (C := RX10) (T := TX10) (N := 44) hx hb hts inlX10 hown hK hP 0 rfl rfl 19 (by decide) (hts _ k_298) (fun _ h9 => h9) rfl dX10_write_12 ?_
  refine lv_aload_n hx hb dX10_write_15 rfl (lv_at hl 2 rfl) ?_
  refine lv_iload_n hx hb dX10_write_16 rfl (lv_at hl 0 rfl) ?_
  refine va_iald hx hb hK hP 1 0 rfl rfl (show ¬ ((43 : Int32) < 0 ∨ 60 ≤ (43 : Int32).toNatClampNeg) by decide) dX10_write_17 ?_
  refine lv_topi (fun x610 _ => ?_)
  refine va_iast hx hb hK hP hD hS 2 0 rfl rfl (show ¬ ((135 : Int32) < 0 ∨ 1336 ≤ (135 : Int32).toNatClampNeg) by decide) dX10_write_18 (fun H locs hP hD hS => ?_)
  obtain ⟨f611, hP, hD⟩ : ∃ f611, va_P D vwCl [(h0, .inr (10, (.int v1 :: .int v2 :: .ref h2 :: .ref h3 :: .ref h4 :: .ref h5 :: .ref h6 :: .ref h7 :: .ref h8 :: .ref h9 :: .ref h10 :: .ref h1 :: .int v3 :: .ref h11 :: .ref h12 :: .ref h13 :: .ref h14 :: .int v4 :: .int v5 :: .int 135 :: .ref h15 :: .ref h16 :: .ref h17 :: .int v6 :: .ref h18 :: .int v7 :: .ref h19 :: .ref h20 :: .int v8 :: .ref h21 :: .ref h22 :: .int v9 :: .int v10 :: .int v11 :: .int v12 :: .int v13 :: .int v14 :: .int v15 :: .int v16 :: .ref h23 :: .long v17 :: .long v18 :: .long v19 :: .long v20 :: []))), (h1, .inl (G.1, 60, .inl v21)), (h14, .inl (G.1, 1336, .inl f611))] H ∧ va_D A [(h0, .inr (10, (.int v1 :: .int v2 :: .ref h2 :: .ref h3 :: .ref h4 :: .ref h5 :: .ref h6 :: .ref h7 :: .ref h8 :: .ref h9 :: .ref h10 :: .ref h1 :: .int v3 :: .ref h11 :: .ref h12 :: .ref h13 :: .ref h14 :: .int v4 :: .int v5 :: .int 135 :: .ref h15 :: .ref h16 :: .ref h17 :: .int v6 :: .ref h18 :: .int v7 :: .ref h19 :: .ref h20 :: .int v8 :: .ref h21 :: .ref h22 :: .int v9 :: .int v10 :: .int v11 :: .int v12 :: .int v13 :: .int v14 :: .int v15 :: .int v16 :: .ref h23 :: .long v17 :: .long v18 :: .long v19 :: .long v20 :: []))), (h1, .inl (G.1, 60, .inl v21)), (h14, .inl (G.1, 1336, .inl f611))] := ⟨_, hP, hD⟩
  refine lv_aload_n hx hb dX10_write_19 rfl (lv_at hl 1 rfl) ?_
  refine lv_dup hx hb dX10_write_20 rfl ?_
  refine va_get (D := D) (ci := 10) (v := .int 135) (C := RX10) (T := TX10) (N := 44) hx hb hts inlX10 hown hK hP 0 rfl rfl 19 (by decide) (hts _ k_298) (fun _ h9 => h9) rfl dX10_write_21 ?_
  refine lv_iconst (v := 1) hx hb dX10_write_24 (by decide) ?_
  refine lv_iadd hx hb dX10_write_25 ?_
  refine ow_i (y := 136) (by decide) ?_
  refine va_put (D := D) (ci := 10) (v := .int 136) (ty := .int) (C := RX10) (T := TX10) (N := 44) hx hb hts inlX10 tyX10 tyX10_ok nmX10 hown hK hP hD hS 0 rfl rfl 19 (by decide) (hts _ k_298) (fun _ h9 => h9) rfl (tyX10_ok 19 (by decide)) rfl rfl (Nat.le_of_ble_eq_true rfl) dX10_write_26 (fun H locs hP hD hS => ?_)
  have hP : va_P D vwCl [(h0, .inr (10, (.int v1 :: .int v2 :: .ref h2 :: .ref h3 :: .ref h4 :: .ref h5 :: .ref h6 :: .ref h7 :: .ref h8 :: .ref h9 :: .ref h10 :: .ref h1 :: .int v3 :: .ref h11 :: .ref h12 :: .ref h13 :: .ref h14 :: .int v4 :: .int v5 :: .int 136 :: .ref h15 :: .ref h16 :: .ref h17 :: .int v6 :: .ref h18 :: .int v7 :: .ref h19 :: .ref h20 :: .int v8 :: .ref h21 :: .ref h22 :: .int v9 :: .int v10 :: .int v11 :: .int v12 :: .int v13 :: .int v14 :: .int v15 :: .int v16 :: .ref h23 :: .long v17 :: .long v18 :: .long v19 :: .long v20 :: []))), (h1, .inl (G.1, 60, .inl v21)), (h14, .inl (G.1, 1336, .inl f611))] H := hP
  have hD : va_D A [(h0, .inr (10, (.int v1 :: .int v2 :: .ref h2 :: .ref h3 :: .ref h4 :: .ref h5 :: .ref h6 :: .ref h7 :: .ref h8 :: .ref h9 :: .ref h10 :: .ref h1 :: .int v3 :: .ref h11 :: .ref h12 :: .ref h13 :: .ref h14 :: .int v4 :: .int v5 :: .int 136 :: .ref h15 :: .ref h16 :: .ref h17 :: .int v6 :: .ref h18 :: .int v7 :: .ref h19 :: .ref h20 :: .int v8 :: .ref h21 :: .ref h22 :: .int v9 :: .int v10 :: .int v11 :: .int v12 :: .int v13 :: .int v14 :: .int v15 :: .int v16 :: .ref h23 :: .long v17 :: .long v18 :: .long v19 :: .long v20 :: []))), (h1, .inl (G.1, 60, .inl v21)), (h14, .inl (G.1, 1336, .inl f611))] := hD
  refine lv_iinc (v := 44) (lv' := [(3, .int 44), (0, .ref h0), (1, .ref h1), (2, .int 60)]) hx hb dX10_write_29 hl (k := 0) rfl (by decide) (by decide) rfl (fun ls hl => ?_)
  refine lv_goto (tgt := 2) hx hb dX10_write_32 (by decide) ?_
  refine lv_iload_n hx hb dX10_write_2 rfl (lv_at hl 0 rfl) ?_
  refine lv_iload_n hx hb dX10_write_3 rfl (lv_at hl 3 rfl) ?_
  refine lv_icmp_ge (tgt := 35) hx hb dX10_write_4 (by decide) (fun h9 => absurd h9 (by decide)) (fun _ => ?_)
  refine lv_aload_n hx hb dX10_write_7 rfl (lv_at hl 1 rfl) ?_
  refine va_get (D := D) (ci := 10) (v := .ref h14) (C := RX10) (T := TX10) (N := 44) hx hb hts inlX10 hown hK hP 0 rfl rfl 16 (by decide) (hts _ k_105) (fun _ h9 => h9) rfl dX10_write_8 ?_
  refine lv_aload_n hx hb dX10_write_11 rfl (lv_at hl 1 rfl) ?_
  refine va_get (D := D) (ci := 10) (v := .int 136) (C := RX10) (T := TX10) (N := 44) hx hb hts inlX10 hown hK hP 0 rfl rfl 19 (by decide) (hts _ k_298) (fun _ h9 => h9) rfl dX10_write_12 ?_
  refine lv_aload_n hx hb dX10_write_15 rfl (lv_at hl 2 rfl) ?_
  refine lv_iload_n hx hb dX10_write_16 rfl (lv_at hl 0 rfl) ?_
  refine va_iald hx hb hK hP 1 0 rfl rfl (show ¬ ((44 : Int32) < 0 ∨ 60 ≤ (44 : Int32).toNatClampNeg) by decide) dX10_write_17 ?_
  refine lv_topi (fun x612 _ => ?_)
  refine va_iast hx hb hK hP hD hS 2 0 rfl rfl (show ¬ ((136 : Int32) < 0 ∨ 1336 ≤ (136 : Int32).toNatClampNeg) by decide) dX10_write_18 (fun H locs hP hD hS => ?_)
  obtain ⟨f613, hP, hD⟩ : ∃ f613, va_P D vwCl [(h0, .inr (10, (.int v1 :: .int v2 :: .ref h2 :: .ref h3 :: .ref h4 :: .ref h5 :: .ref h6 :: .ref h7 :: .ref h8 :: .ref h9 :: .ref h10 :: .ref h1 :: .int v3 :: .ref h11 :: .ref h12 :: .ref h13 :: .ref h14 :: .int v4 :: .int v5 :: .int 136 :: .ref h15 :: .ref h16 :: .ref h17 :: .int v6 :: .ref h18 :: .int v7 :: .ref h19 :: .ref h20 :: .int v8 :: .ref h21 :: .ref h22 :: .int v9 :: .int v10 :: .int v11 :: .int v12 :: .int v13 :: .int v14 :: .int v15 :: .int v16 :: .ref h23 :: .long v17 :: .long v18 :: .long v19 :: .long v20 :: []))), (h1, .inl (G.1, 60, .inl v21)), (h14, .inl (G.1, 1336, .inl f613))] H ∧ va_D A [(h0, .inr (10, (.int v1 :: .int v2 :: .ref h2 :: .ref h3 :: .ref h4 :: .ref h5 :: .ref h6 :: .ref h7 :: .ref h8 :: .ref h9 :: .ref h10 :: .ref h1 :: .int v3 :: .ref h11 :: .ref h12 :: .ref h13 :: .ref h14 :: .int v4 :: .int v5 :: .int 136 :: .ref h15 :: .ref h16 :: .ref h17 :: .int v6 :: .ref h18 :: .int v7 :: .ref h19 :: .ref h20 :: .int v8 :: .ref h21 :: .ref h22 :: .int v9 :: .int v10 :: .int v11 :: .int v12 :: .int v13 :: .int v14 :: .int v15 :: .int v16 :: .ref h23 :: .long v17 :: .long v18 :: .long v19 :: .long v20 :: []))), (h1, .inl (G.1, 60, .inl v21)), (h14, .inl (G.1, 1336, .inl f613))] := ⟨_, hP, hD⟩
  refine lv_aload_n hx hb dX10_write_19 rfl (lv_at hl 1 rfl) ?_
  refine lv_dup hx hb dX10_write_20 rfl ?_
  refine va_get (D := D) (ci := 10) (v := .int 136) (C := RX10) (T := TX10) (N := 44) hx hb hts inlX10 hown hK hP 0 rfl rfl 19 (by decide) (hts _ k_298) (fun _ h9 => h9) rfl dX10_write_21 ?_
  refine lv_iconst (v := 1) hx hb dX10_write_24 (by decide) ?_
  refine lv_iadd hx hb dX10_write_25 ?_
  refine ow_i (y := 137) (by decide) ?_
  refine va_put (D := D) (ci := 10) (v := .int 137) (ty := .int) (C := RX10) (T := TX10) (N := 44) hx hb hts inlX10 tyX10 tyX10_ok nmX10 hown hK hP hD hS 0 rfl rfl 19 (by decide) (hts _ k_298) (fun _ h9 => h9) rfl (tyX10_ok 19 (by decide)) rfl rfl (Nat.le_of_ble_eq_true rfl) dX10_write_26 (fun H locs hP hD hS => ?_)
  have hP : va_P D vwCl [(h0, .inr (10, (.int v1 :: .int v2 :: .ref h2 :: .ref h3 :: .ref h4 :: .ref h5 :: .ref h6 :: .ref h7 :: .ref h8 :: .ref h9 :: .ref h10 :: .ref h1 :: .int v3 :: .ref h11 :: .ref h12 :: .ref h13 :: .ref h14 :: .int v4 :: .int v5 :: .int 137 :: .ref h15 :: .ref h16 :: .ref h17 :: .int v6 :: .ref h18 :: .int v7 :: .ref h19 :: .ref h20 :: .int v8 :: .ref h21 :: .ref h22 :: .int v9 :: .int v10 :: .int v11 :: .int v12 :: .int v13 :: .int v14 :: .int v15 :: .int v16 :: .ref h23 :: .long v17 :: .long v18 :: .long v19 :: .long v20 :: []))), (h1, .inl (G.1, 60, .inl v21)), (h14, .inl (G.1, 1336, .inl f613))] H := hP
  have hD : va_D A [(h0, .inr (10, (.int v1 :: .int v2 :: .ref h2 :: .ref h3 :: .ref h4 :: .ref h5 :: .ref h6 :: .ref h7 :: .ref h8 :: .ref h9 :: .ref h10 :: .ref h1 :: .int v3 :: .ref h11 :: .ref h12 :: .ref h13 :: .ref h14 :: .int v4 :: .int v5 :: .int 137 :: .ref h15 :: .ref h16 :: .ref h17 :: .int v6 :: .ref h18 :: .int v7 :: .ref h19 :: .ref h20 :: .int v8 :: .ref h21 :: .ref h22 :: .int v9 :: .int v10 :: .int v11 :: .int v12 :: .int v13 :: .int v14 :: .int v15 :: .int v16 :: .ref h23 :: .long v17 :: .long v18 :: .long v19 :: .long v20 :: []))), (h1, .inl (G.1, 60, .inl v21)), (h14, .inl (G.1, 1336, .inl f613))] := hD
  refine lv_iinc (v := 45) (lv' := [(3, .int 45), (0, .ref h0), (1, .ref h1), (2, .int 60)]) hx hb dX10_write_29 hl (k := 0) rfl (by decide) (by decide) rfl (fun ls hl => ?_)
  refine lv_goto (tgt := 2) hx hb dX10_write_32 (by decide) ?_
  refine lv_iload_n hx hb dX10_write_2 rfl (lv_at hl 0 rfl) ?_
  refine lv_iload_n hx hb dX10_write_3 rfl (lv_at hl 3 rfl) ?_
  refine lv_icmp_ge (tgt := 35) hx hb dX10_write_4 (by decide) (fun h9 => absurd h9 (by decide)) (fun _ => ?_)
  refine lv_aload_n hx hb dX10_write_7 rfl (lv_at hl 1 rfl) ?_
  refine va_get (D := D) (ci := 10) (v := .ref h14) (C := RX10) (T := TX10) (N := 44) hx hb hts inlX10 hown hK hP 0 rfl rfl 16 (by decide) (hts _ k_105) (fun _ h9 => h9) rfl dX10_write_8 ?_
  refine lv_aload_n hx hb dX10_write_11 rfl (lv_at hl 1 rfl) ?_
  refine va_get (D := D) (ci := 10) (v := .int 137) (C := RX10) (T := TX10) (N := 44) hx hb hts inlX10 hown hK hP 0 rfl rfl 19 (by decide) (hts _ k_298) (fun _ h9 => h9) rfl dX10_write_12 ?_
  refine lv_aload_n hx hb dX10_write_15 rfl (lv_at hl 2 rfl) ?_
  refine lv_iload_n hx hb dX10_write_16 rfl (lv_at hl 0 rfl) ?_
  refine va_iald hx hb hK hP 1 0 rfl rfl (show ¬ ((45 : Int32) < 0 ∨ 60 ≤ (45 : Int32).toNatClampNeg) by decide) dX10_write_17 ?_
  refine lv_topi (fun x614 _ => ?_)
  refine va_iast hx hb hK hP hD hS 2 0 rfl rfl (show ¬ ((137 : Int32) < 0 ∨ 1336 ≤ (137 : Int32).toNatClampNeg) by decide) dX10_write_18 (fun H locs hP hD hS => ?_)
  obtain ⟨f615, hP, hD⟩ : ∃ f615, va_P D vwCl [(h0, .inr (10, (.int v1 :: .int v2 :: .ref h2 :: .ref h3 :: .ref h4 :: .ref h5 :: .ref h6 :: .ref h7 :: .ref h8 :: .ref h9 :: .ref h10 :: .ref h1 :: .int v3 :: .ref h11 :: .ref h12 :: .ref h13 :: .ref h14 :: .int v4 :: .int v5 :: .int 137 :: .ref h15 :: .ref h16 :: .ref h17 :: .int v6 :: .ref h18 :: .int v7 :: .ref h19 :: .ref h20 :: .int v8 :: .ref h21 :: .ref h22 :: .int v9 :: .int v10 :: .int v11 :: .int v12 :: .int v13 :: .int v14 :: .int v15 :: .int v16 :: .ref h23 :: .long v17 :: .long v18 :: .long v19 :: .long v20 :: []))), (h1, .inl (G.1, 60, .inl v21)), (h14, .inl (G.1, 1336, .inl f615))] H ∧ va_D A [(h0, .inr (10, (.int v1 :: .int v2 :: .ref h2 :: .ref h3 :: .ref h4 :: .ref h5 :: .ref h6 :: .ref h7 :: .ref h8 :: .ref h9 :: .ref h10 :: .ref h1 :: .int v3 :: .ref h11 :: .ref h12 :: .ref h13 :: .ref h14 :: .int v4 :: .int v5 :: .int 137 :: .ref h15 :: .ref h16 :: .ref h17 :: .int v6 :: .ref h18 :: .int v7 :: .ref h19 :: .ref h20 :: .int v8 :: .ref h21 :: .ref h22 :: .int v9 :: .int v10 :: .int v11 :: .int v12 :: .int v13 :: .int v14 :: .int v15 :: .int v16 :: .ref h23 :: .long v17 :: .long v18 :: .long v19 :: .long v20 :: []))), (h1, .inl (G.1, 60, .inl v21)), (h14, .inl (G.1, 1336, .inl f615))] := ⟨_, hP, hD⟩
  refine lv_aload_n hx hb dX10_write_19 rfl (lv_at hl 1 rfl) ?_
  refine lv_dup hx hb dX10_write_20 rfl ?_
  refine va_get (D := D) (ci := 10) (v := .int 137) (C := RX10) (T := TX10) (N := 44) hx hb hts inlX10 hown hK hP 0 rfl rfl 19 (by decide) (hts _ k_298) (fun _ h9 => h9) rfl dX10_write_21 ?_
  refine lv_iconst (v := 1) hx hb dX10_write_24 (by decide) ?_
  refine lv_iadd hx hb dX10_write_25 ?_
  refine ow_i (y := 138) (by decide) ?_
  refine va_put (D := D) (ci := 10) (v := .int 138) (ty := .int) (C := RX10) (T := TX10) (N := 44) hx hb hts inlX10 tyX10 tyX10_ok nmX10 hown hK hP hD hS 0 rfl rfl 19 (by decide) (hts _ k_298) (fun _ h9 => h9) rfl (tyX10_ok 19 (by decide)) rfl rfl (Nat.le_of_ble_eq_true rfl) dX10_write_26 (fun H locs hP hD hS => ?_)
  have hP : va_P D vwCl [(h0, .inr (10, (.int v1 :: .int v2 :: .ref h2 :: .ref h3 :: .ref h4 :: .ref h5 :: .ref h6 :: .ref h7 :: .ref h8 :: .ref h9 :: .ref h10 :: .ref h1 :: .int v3 :: .ref h11 :: .ref h12 :: .ref h13 :: .ref h14 :: .int v4 :: .int v5 :: .int 138 :: .ref h15 :: .ref h16 :: .ref h17 :: .int v6 :: .ref h18 :: .int v7 :: .ref h19 :: .ref h20 :: .int v8 :: .ref h21 :: .ref h22 :: .int v9 :: .int v10 :: .int v11 :: .int v12 :: .int v13 :: .int v14 :: .int v15 :: .int v16 :: .ref h23 :: .long v17 :: .long v18 :: .long v19 :: .long v20 :: []))), (h1, .inl (G.1, 60, .inl v21)), (h14, .inl (G.1, 1336, .inl f615))] H := hP
  have hD : va_D A [(h0, .inr (10, (.int v1 :: .int v2 :: .ref h2 :: .ref h3 :: .ref h4 :: .ref h5 :: .ref h6 :: .ref h7 :: .ref h8 :: .ref h9 :: .ref h10 :: .ref h1 :: .int v3 :: .ref h11 :: .ref h12 :: .ref h13 :: .ref h14 :: .int v4 :: .int v5 :: .int 138 :: .ref h15 :: .ref h16 :: .ref h17 :: .int v6 :: .ref h18 :: .int v7 :: .ref h19 :: .ref h20 :: .int v8 :: .ref h21 :: .ref h22 :: .int v9 :: .int v10 :: .int v11 :: .int v12 :: .int v13 :: .int v14 :: .int v15 :: .int v16 :: .ref h23 :: .long v17 :: .long v18 :: .long v19 :: .long v20 :: []))), (h1, .inl (G.1, 60, .inl v21)), (h14, .inl (G.1, 1336, .inl f615))] := hD
  refine lv_iinc (v := 46) (lv' := [(3, .int 46), (0, .ref h0), (1, .ref h1), (2, .int 60)]) hx hb dX10_write_29 hl (k := 0) rfl (by decide) (by decide) rfl (fun ls hl => ?_)
  refine lv_goto (tgt := 2) hx hb dX10_write_32 (by decide) ?_
  refine lv_iload_n hx hb dX10_write_2 rfl (lv_at hl 0 rfl) ?_
  refine lv_iload_n hx hb dX10_write_3 rfl (lv_at hl 3 rfl) ?_
  refine lv_icmp_ge (tgt := 35) hx hb dX10_write_4 (by decide) (fun h9 => absurd h9 (by decide)) (fun _ => ?_)
  refine lv_aload_n hx hb dX10_write_7 rfl (lv_at hl 1 rfl) ?_
  refine va_get (D := D) (ci := 10) (v := .ref h14) (C := RX10) (T := TX10) (N := 44) hx hb hts inlX10 hown hK hP 0 rfl rfl 16 (by decide) (hts _ k_105) (fun _ h9 => h9) rfl dX10_write_8 ?_
  refine lv_aload_n hx hb dX10_write_11 rfl (lv_at hl 1 rfl) ?_
  refine va_get (D := D) (ci := 10) (v := .int 138) (C := RX10) (T := TX10) (N := 44) hx hb hts inlX10 hown hK hP 0 rfl rfl 19 (by decide) (hts _ k_298) (fun _ h9 => h9) rfl dX10_write_12 ?_
  refine lv_aload_n hx hb dX10_write_15 rfl (lv_at hl 2 rfl) ?_
  refine lv_iload_n hx hb dX10_write_16 rfl (lv_at hl 0 rfl) ?_
  refine va_iald hx hb hK hP 1 0 rfl rfl (show ¬ ((46 : Int32) < 0 ∨ 60 ≤ (46 : Int32).toNatClampNeg) by decide) dX10_write_17 ?_
  refine lv_topi (fun x616 _ => ?_)
  refine va_iast hx hb hK hP hD hS 2 0 rfl rfl (show ¬ ((138 : Int32) < 0 ∨ 1336 ≤ (138 : Int32).toNatClampNeg) by decide) dX10_write_18 (fun H locs hP hD hS => ?_)
  obtain ⟨f617, hP, hD⟩ : ∃ f617, va_P D vwCl [(h0, .inr (10, (.int v1 :: .int v2 :: .ref h2 :: .ref h3 :: .ref h4 :: .ref h5 :: .ref h6 :: .ref h7 :: .ref h8 :: .ref h9 :: .ref h10 :: .ref h1 :: .int v3 :: .ref h11 :: .ref h12 :: .ref h13 :: .ref h14 :: .int v4 :: .int v5 :: .int 138 :: .ref h15 :: .ref h16 :: .ref h17 :: .int v6 :: .ref h18 :: .int v7 :: .ref h19 :: .ref h20 :: .int v8 :: .ref h21 :: .ref h22 :: .int v9 :: .int v10 :: .int v11 :: .int v12 :: .int v13 :: .int v14 :: .int v15 :: .int v16 :: .ref h23 :: .long v17 :: .long v18 :: .long v19 :: .long v20 :: []))), (h1, .inl (G.1, 60, .inl v21)), (h14, .inl (G.1, 1336, .inl f617))] H ∧ va_D A [(h0, .inr (10, (.int v1 :: .int v2 :: .ref h2 :: .ref h3 :: .ref h4 :: .ref h5 :: .ref h6 :: .ref h7 :: .ref h8 :: .ref h9 :: .ref h10 :: .ref h1 :: .int v3 :: .ref h11 :: .ref h12 :: .ref h13 :: .ref h14 :: .int v4 :: .int v5 :: .int 138 :: .ref h15 :: .ref h16 :: .ref h17 :: .int v6 :: .ref h18 :: .int v7 :: .ref h19 :: .ref h20 :: .int v8 :: .ref h21 :: .ref h22 :: .int v9 :: .int v10 :: .int v11 :: .int v12 :: .int v13 :: .int v14 :: .int v15 :: .int v16 :: .ref h23 :: .long v17 :: .long v18 :: .long v19 :: .long v20 :: []))), (h1, .inl (G.1, 60, .inl v21)), (h14, .inl (G.1, 1336, .inl f617))] := ⟨_, hP, hD⟩
  refine lv_aload_n hx hb dX10_write_19 rfl (lv_at hl 1 rfl) ?_
  refine lv_dup hx hb dX10_write_20 rfl ?_
  refine va_get (D := D) (ci := 10) (v := .int 138) (C := RX10) (T := TX10) (N := 44) hx hb hts inlX10 hown hK hP 0 rfl rfl 19 (by decide) (hts _ k_298) (fun _ h9 => h9) rfl dX10_write_21 ?_
  refine lv_iconst (v := 1) hx hb dX10_write_24 (by decide) ?_
  refine lv_iadd hx hb dX10_write_25 ?_
  refine ow_i (y := 139) (by decide) ?_
  refine va_put (D := D) (ci := 10) (v := .int 139) (ty := .int) (C := RX10) (T := TX10) (N := 44) hx hb hts inlX10 tyX10 tyX10_ok nmX10 hown hK hP hD hS 0 rfl rfl 19 (by decide) (hts _ k_298) (fun _ h9 => h9) rfl (tyX10_ok 19 (by decide)) rfl rfl (Nat.le_of_ble_eq_true rfl) dX10_write_26 (fun H locs hP hD hS => ?_)
  have hP : va_P D vwCl [(h0, .inr (10, (.int v1 :: .int v2 :: .ref h2 :: .ref h3 :: .ref h4 :: .ref h5 :: .ref h6 :: .ref h7 :: .ref h8 :: .ref h9 :: .ref h10 :: .ref h1 :: .int v3 :: .ref h11 :: .ref h12 :: .ref h13 :: .ref h14 :: .int v4 :: .int v5 :: .int 139 :: .ref h15 :: .ref h16 :: .ref h17 :: .int v6 :: .ref h18 :: .int v7 :: .ref h19 :: .ref h20 :: .int v8 :: .ref h21 :: .ref h22 :: .int v9 :: .int v10 :: .int v11 :: .int v12 :: .int v13 :: .int v14 :: .int v15 :: .int v16 :: .ref h23 :: .long v17 :: .long v18 :: .long v19 :: .long v20 :: []))), (h1, .inl (G.1, 60, .inl v21)), (h14, .inl (G.1, 1336, .inl f617))] H := hP
  have hD : va_D A [(h0, .inr (10, (.int v1 :: .int v2 :: .ref h2 :: .ref h3 :: .ref h4 :: .ref h5 :: .ref h6 :: .ref h7 :: .ref h8 :: .ref h9 :: .ref h10 :: .ref h1 :: .int v3 :: .ref h11 :: .ref h12 :: .ref h13 :: .ref h14 :: .int v4 :: .int v5 :: .int 139 :: .ref h15 :: .ref h16 :: .ref h17 :: .int v6 :: .ref h18 :: .int v7 :: .ref h19 :: .ref h20 :: .int v8 :: .ref h21 :: .ref h22 :: .int v9 :: .int v10 :: .int v11 :: .int v12 :: .int v13 :: .int v14 :: .int v15 :: .int v16 :: .ref h23 :: .long v17 :: .long v18 :: .long v19 :: .long v20 :: []))), (h1, .inl (G.1, 60, .inl v21)), (h14, .inl (G.1, 1336, .inl f617))] := hD
  refine lv_iinc (v := 47) (lv' := [(3, .int 47), (0, .ref h0), (1, .ref h1), (2, .int 60)]) hx hb dX10_write_29 hl (k := 0) rfl (by decide) (by decide) rfl (fun ls hl => ?_)
  refine lv_goto (tgt := 2) hx hb dX10_write_32 (by decide) ?_
  refine lv_iload_n hx hb dX10_write_2 rfl (lv_at hl 0 rfl) ?_
  refine lv_iload_n hx hb dX10_write_3 rfl (lv_at hl 3 rfl) ?_
  refine lv_icmp_ge (tgt := 35) hx hb dX10_write_4 (by decide) (fun h9 => absurd h9 (by decide)) (fun _ => ?_)
  refine lv_aload_n hx hb dX10_write_7 rfl (lv_at hl 1 rfl) ?_
  refine va_get (D := D) (ci := 10) (v := .ref h14) (C := RX10) (T := TX10) (N := 44) hx hb hts inlX10 hown hK hP 0 rfl rfl 16 (by decide) (hts _ k_105) (fun _ h9 => h9) rfl dX10_write_8 ?_
  refine lv_aload_n hx hb dX10_write_11 rfl (lv_at hl 1 rfl) ?_
  refine va_get (D := D) (ci := 10) (v := .int 139) (C := RX10) (T := TX10) (N := 44) hx hb hts inlX10 hown hK hP 0 rfl rfl 19 (by decide) (hts _ k_298) (fun _ h9 => h9) rfl dX10_write_12 ?_
  refine lv_aload_n hx hb dX10_write_15 rfl (lv_at hl 2 rfl) ?_
  refine lv_iload_n hx hb dX10_write_16 rfl (lv_at hl 0 rfl) ?_
  refine va_iald hx hb hK hP 1 0 rfl rfl (show ¬ ((47 : Int32) < 0 ∨ 60 ≤ (47 : Int32).toNatClampNeg) by decide) dX10_write_17 ?_
  refine lv_topi (fun x618 _ => ?_)
  refine va_iast hx hb hK hP hD hS 2 0 rfl rfl (show ¬ ((139 : Int32) < 0 ∨ 1336 ≤ (139 : Int32).toNatClampNeg) by decide) dX10_write_18 (fun H locs hP hD hS => ?_)
  obtain ⟨f619, hP, hD⟩ : ∃ f619, va_P D vwCl [(h0, .inr (10, (.int v1 :: .int v2 :: .ref h2 :: .ref h3 :: .ref h4 :: .ref h5 :: .ref h6 :: .ref h7 :: .ref h8 :: .ref h9 :: .ref h10 :: .ref h1 :: .int v3 :: .ref h11 :: .ref h12 :: .ref h13 :: .ref h14 :: .int v4 :: .int v5 :: .int 139 :: .ref h15 :: .ref h16 :: .ref h17 :: .int v6 :: .ref h18 :: .int v7 :: .ref h19 :: .ref h20 :: .int v8 :: .ref h21 :: .ref h22 :: .int v9 :: .int v10 :: .int v11 :: .int v12 :: .int v13 :: .int v14 :: .int v15 :: .int v16 :: .ref h23 :: .long v17 :: .long v18 :: .long v19 :: .long v20 :: []))), (h1, .inl (G.1, 60, .inl v21)), (h14, .inl (G.1, 1336, .inl f619))] H ∧ va_D A [(h0, .inr (10, (.int v1 :: .int v2 :: .ref h2 :: .ref h3 :: .ref h4 :: .ref h5 :: .ref h6 :: .ref h7 :: .ref h8 :: .ref h9 :: .ref h10 :: .ref h1 :: .int v3 :: .ref h11 :: .ref h12 :: .ref h13 :: .ref h14 :: .int v4 :: .int v5 :: .int 139 :: .ref h15 :: .ref h16 :: .ref h17 :: .int v6 :: .ref h18 :: .int v7 :: .ref h19 :: .ref h20 :: .int v8 :: .ref h21 :: .ref h22 :: .int v9 :: .int v10 :: .int v11 :: .int v12 :: .int v13 :: .int v14 :: .int v15 :: .int v16 :: .ref h23 :: .long v17 :: .long v18 :: .long v19 :: .long v20 :: []))), (h1, .inl (G.1, 60, .inl v21)), (h14, .inl (G.1, 1336, .inl f619))] := ⟨_, hP, hD⟩
  refine lv_aload_n hx hb dX10_write_19 rfl (lv_at hl 1 rfl) ?_
  refine lv_dup hx hb dX10_write_20 rfl ?_
  refine va_get (D := D) (ci := 10) (v := .int 139) (C := RX10) (T := TX10) (N := 44) hx hb hts inlX10 hown hK hP 0 rfl rfl 19 (by decide) (hts _ k_298) (fun _ h9 => h9) rfl dX10_write_21 ?_
  refine lv_iconst (v := 1) hx hb dX10_write_24 (by decide) ?_
  refine lv_iadd hx hb dX10_write_25 ?_
  refine ow_i (y := 140) (by decide) ?_
  refine va_put (D := D) (ci := 10) (v := .int 140) (ty := .int) (C := RX10) (T := TX10) (N := 44) hx hb hts inlX10 tyX10 tyX10_ok nmX10 hown hK hP hD hS 0 rfl rfl 19 (by decide) (hts _ k_298) (fun _ h9 => h9) rfl (tyX10_ok 19 (by decide)) rfl rfl (Nat.le_of_ble_eq_true rfl) dX10_write_26 (fun H locs hP hD hS => ?_)
  have hP : va_P D vwCl [(h0, .inr (10, (.int v1 :: .int v2 :: .ref h2 :: .ref h3 :: .ref h4 :: .ref h5 :: .ref h6 :: .ref h7 :: .ref h8 :: .ref h9 :: .ref h10 :: .ref h1 :: .int v3 :: .ref h11 :: .ref h12 :: .ref h13 :: .ref h14 :: .int v4 :: .int v5 :: .int 140 :: .ref h15 :: .ref h16 :: .ref h17 :: .int v6 :: .ref h18 :: .int v7 :: .ref h19 :: .ref h20 :: .int v8 :: .ref h21 :: .ref h22 :: .int v9 :: .int v10 :: .int v11 :: .int v12 :: .int v13 :: .int v14 :: .int v15 :: .int v16 :: .ref h23 :: .long v17 :: .long v18 :: .long v19 :: .long v20 :: []))), (h1, .inl (G.1, 60, .inl v21)), (h14, .inl (G.1, 1336, .inl f619))] H := hP
  have hD : va_D A [(h0, .inr (10, (.int v1 :: .int v2 :: .ref h2 :: .ref h3 :: .ref h4 :: .ref h5 :: .ref h6 :: .ref h7 :: .ref h8 :: .ref h9 :: .ref h10 :: .ref h1 :: .int v3 :: .ref h11 :: .ref h12 :: .ref h13 :: .ref h14 :: .int v4 :: .int v5 :: .int 140 :: .ref h15 :: .ref h16 :: .ref h17 :: .int v6 :: .ref h18 :: .int v7 :: .ref h19 :: .ref h20 :: .int v8 :: .ref h21 :: .ref h22 :: .int v9 :: .int v10 :: .int v11 :: .int v12 :: .int v13 :: .int v14 :: .int v15 :: .int v16 :: .ref h23 :: .long v17 :: .long v18 :: .long v19 :: .long v20 :: []))), (h1, .inl (G.1, 60, .inl v21)), (h14, .inl (G.1, 1336, .inl f619))] := hD
  refine lv_iinc (v := 48) (lv' := [(3, .int 48), (0, .ref h0), (1, .ref h1), (2, .int 60)]) hx hb dX10_write_29 hl (k := 0) rfl (by decide) (by decide) rfl (fun ls hl => ?_)
  refine lv_goto (tgt := 2) hx hb dX10_write_32 (by decide) ?_
  refine lv_iload_n hx hb dX10_write_2 rfl (lv_at hl 0 rfl) ?_
  refine lv_iload_n hx hb dX10_write_3 rfl (lv_at hl 3 rfl) ?_
  refine lv_icmp_ge (tgt := 35) hx hb dX10_write_4 (by decide) (fun h9 => absurd h9 (by decide)) (fun _ => ?_)
  refine lv_aload_n hx hb dX10_write_7 rfl (lv_at hl 1 rfl) ?_
  refine va_get (D := D) (ci := 10) (v := .ref h14) (C := RX10) (T := TX10) (N := 44) hx hb hts inlX10 hown hK hP 0 rfl rfl 16 (by decide) (hts _ k_105) (fun _ h9 => h9) rfl dX10_write_8 ?_
  refine lv_aload_n hx hb dX10_write_11 rfl (lv_at hl 1 rfl) ?_
  refine va_get (D := D) (ci := 10) (v := .int 140) (C := RX10) (T := TX10) (N := 44) hx hb hts inlX10 hown hK hP 0 rfl rfl 19 (by decide) (hts _ k_298) (fun _ h9 => h9) rfl dX10_write_12 ?_
  refine lv_aload_n hx hb dX10_write_15 rfl (lv_at hl 2 rfl) ?_
  refine lv_iload_n hx hb dX10_write_16 rfl (lv_at hl 0 rfl) ?_
  refine va_iald hx hb hK hP 1 0 rfl rfl (show ¬ ((48 : Int32) < 0 ∨ 60 ≤ (48 : Int32).toNatClampNeg) by decide) dX10_write_17 ?_
  refine lv_topi (fun x620 _ => ?_)
  refine va_iast hx hb hK hP hD hS 2 0 rfl rfl (show ¬ ((140 : Int32) < 0 ∨ 1336 ≤ (140 : Int32).toNatClampNeg) by decide) dX10_write_18 (fun H locs hP hD hS => ?_)
  obtain ⟨f621, hP, hD⟩ : ∃ f621, va_P D vwCl [(h0, .inr (10, (.int v1 :: .int v2 :: .ref h2 :: .ref h3 :: .ref h4 :: .ref h5 :: .ref h6 :: .ref h7 :: .ref h8 :: .ref h9 :: .ref h10 :: .ref h1 :: .int v3 :: .ref h11 :: .ref h12 :: .ref h13 :: .ref h14 :: .int v4 :: .int v5 :: .int 140 :: .ref h15 :: .ref h16 :: .ref h17 :: .int v6 :: .ref h18 :: .int v7 :: .ref h19 :: .ref h20 :: .int v8 :: .ref h21 :: .ref h22 :: .int v9 :: .int v10 :: .int v11 :: .int v12 :: .int v13 :: .int v14 :: .int v15 :: .int v16 :: .ref h23 :: .long v17 :: .long v18 :: .long v19 :: .long v20 :: []))), (h1, .inl (G.1, 60, .inl v21)), (h14, .inl (G.1, 1336, .inl f621))] H ∧ va_D A [(h0, .inr (10, (.int v1 :: .int v2 :: .ref h2 :: .ref h3 :: .ref h4 :: .ref h5 :: .ref h6 :: .ref h7 :: .ref h8 :: .ref h9 :: .ref h10 :: .ref h1 :: .int v3 :: .ref h11 :: .ref h12 :: .ref h13 :: .ref h14 :: .int v4 :: .int v5 :: .int 140 :: .ref h15 :: .ref h16 :: .ref h17 :: .int v6 :: .ref h18 :: .int v7 :: .ref h19 :: .ref h20 :: .int v8 :: .ref h21 :: .ref h22 :: .int v9 :: .int v10 :: .int v11 :: .int v12 :: .int v13 :: .int v14 :: .int v15 :: .int v16 :: .ref h23 :: .long v17 :: .long v18 :: .long v19 :: .long v20 :: []))), (h1, .inl (G.1, 60, .inl v21)), (h14, .inl (G.1, 1336, .inl f621))] := ⟨_, hP, hD⟩
  refine lv_aload_n hx hb dX10_write_19 rfl (lv_at hl 1 rfl) ?_
  refine lv_dup hx hb dX10_write_20 rfl ?_
  refine va_get (D := D) (ci := 10) (v := .int 140) (C := RX10) (T := TX10) (N := 44) hx hb hts inlX10 hown hK hP 0 rfl rfl 19 (by decide) (hts _ k_298) (fun _ h9 => h9) rfl dX10_write_21 ?_
  refine lv_iconst (v := 1) hx hb dX10_write_24 (by decide) ?_
  refine lv_iadd hx hb dX10_write_25 ?_
  refine ow_i (y := 141) (by decide) ?_
  refine va_put (D := D) (ci := 10) (v := .int 141) (ty := .int) (C := RX10) (T := TX10) (N := 44) hx hb hts inlX10 tyX10 tyX10_ok nmX10 hown hK hP hD hS 0 rfl rfl 19 (by decide) (hts _ k_298) (fun _ h9 => h9) rfl (tyX10_ok 19 (by decide)) rfl rfl (Nat.le_of_ble_eq_true rfl) dX10_write_26 (fun H locs hP hD hS => ?_)
  have hP : va_P D vwCl [(h0, .inr (10, (.int v1 :: .int v2 :: .ref h2 :: .ref h3 :: .ref h4 :: .ref h5 :: .ref h6 :: .ref h7 :: .ref h8 :: .ref h9 :: .ref h10 :: .ref h1 :: .int v3 :: .ref h11 :: .ref h12 :: .ref h13 :: .ref h14 :: .int v4 :: .int v5 :: .int 141 :: .ref h15 :: .ref h16 :: .ref h17 :: .int v6 :: .ref h18 :: .int v7 :: .ref h19 :: .ref h20 :: .int v8 :: .ref h21 :: .ref h22 :: .int v9 :: .int v10 :: .int v11 :: .int v12 :: .int v13 :: .int v14 :: .int v15 :: .int v16 :: .ref h23 :: .long v17 :: .long v18 :: .long v19 :: .long v20 :: []))), (h1, .inl (G.1, 60, .inl v21)), (h14, .inl (G.1, 1336, .inl f621))] H := hP
  have hD : va_D A [(h0, .inr (10, (.int v1 :: .int v2 :: .ref h2 :: .ref h3 :: .ref h4 :: .ref h5 :: .ref h6 :: .ref h7 :: .ref h8 :: .ref h9 :: .ref h10 :: .ref h1 :: .int v3 :: .ref h11 :: .ref h12 :: .ref h13 :: .ref h14 :: .int v4 :: .int v5 :: .int 141 :: .ref h15 :: .ref h16 :: .ref h17 :: .int v6 :: .ref h18 :: .int v7 :: .ref h19 :: .ref h20 :: .int v8 :: .ref h21 :: .ref h22 :: .int v9 :: .int v10 :: .int v11 :: .int v12 :: .int v13 :: .int v14 :: .int v15 :: .int v16 :: .ref h23 :: .long v17 :: .long v18 :: .long v19 :: .long v20 :: []))), (h1, .inl (G.1, 60, .inl v21)), (h14, .inl (G.1, 1336, .inl f621))] := hD
  refine lv_iinc (v := 49) (lv' := [(3, .int 49), (0, .ref h0), (1, .ref h1), (2, .int 60)]) hx hb dX10_write_29 hl (k := 0) rfl (by decide) (by decide) rfl (fun ls hl => ?_)
  refine lv_goto (tgt := 2) hx hb dX10_write_32 (by decide) ?_
  refine lv_iload_n hx hb dX10_write_2 rfl (lv_at hl 0 rfl) ?_
  refine lv_iload_n hx hb dX10_write_3 rfl (lv_at hl 3 rfl) ?_
  refine lv_icmp_ge (tgt := 35) hx hb dX10_write_4 (by decide) (fun h9 => absurd h9 (by decide)) (fun _ => ?_)
  refine lv_aload_n hx hb dX10_write_7 rfl (lv_at hl 1 rfl) ?_
  refine va_get (D := D) (ci := 10) (v := .ref h14) (C := RX10) (T := TX10) (N := 44) hx hb hts inlX10 hown hK hP 0 rfl rfl 16 (by decide) (hts _ k_105) (fun _ h9 => h9) rfl dX10_write_8 ?_
  refine lv_aload_n hx hb dX10_write_11 rfl (lv_at hl 1 rfl) ?_
  refine va_get (D := D) (ci := 10) (v := .int 141) (C := RX10) (T := TX10) (N := 44) hx hb hts inlX10 hown hK hP 0 rfl rfl 19 (by decide) (hts _ k_298) (fun _ h9 => h9) rfl dX10_write_12 ?_
  refine lv_aload_n hx hb dX10_write_15 rfl (lv_at hl 2 rfl) ?_
  refine lv_iload_n hx hb dX10_write_16 rfl (lv_at hl 0 rfl) ?_
  refine va_iald hx hb hK hP 1 0 rfl rfl (show ¬ ((49 : Int32) < 0 ∨ 60 ≤ (49 : Int32).toNatClampNeg) by decide) dX10_write_17 ?_
  refine lv_topi (fun x622 _ => ?_)
  refine va_iast hx hb hK hP hD hS 2 0 rfl rfl (show ¬ ((141 : Int32) < 0 ∨ 1336 ≤ (141 : Int32).toNatClampNeg) by decide) dX10_write_18 (fun H locs hP hD hS => ?_)
  obtain ⟨f623, hP, hD⟩ : ∃ f623, va_P D vwCl [(h0, .inr (10, (.int v1 :: .int v2 :: .ref h2 :: .ref h3 :: .ref h4 :: .ref h5 :: .ref h6 :: .ref h7 :: .ref h8 :: .ref h9 :: .ref h10 :: .ref h1 :: .int v3 :: .ref h11 :: .ref h12 :: .ref h13 :: .ref h14 :: .int v4 :: .int v5 :: .int 141 :: .ref h15 :: .ref h16 :: .ref h17 :: .int v6 :: .ref h18 :: .int v7 :: .ref h19 :: .ref h20 :: .int v8 :: .ref h21 :: .ref h22 :: .int v9 :: .int v10 :: .int v11 :: .int v12 :: .int v13 :: .int v14 :: .int v15 :: .int v16 :: .ref h23 :: .long v17 :: .long v18 :: .long v19 :: .long v20 :: []))), (h1, .inl (G.1, 60, .inl v21)), (h14, .inl (G.1, 1336, .inl f623))] H ∧ va_D A [(h0, .inr (10, (.int v1 :: .int v2 :: .ref h2 :: .ref h3 :: .ref h4 :: .ref h5 :: .ref h6 :: .ref h7 :: .ref h8 :: .ref h9 :: .ref h10 :: .ref h1 :: .int v3 :: .ref h11 :: .ref h12 :: .ref h13 :: .ref h14 :: .int v4 :: .int v5 :: .int 141 :: .ref h15 :: .ref h16 :: .ref h17 :: .int v6 :: .ref h18 :: .int v7 :: .ref h19 :: .ref h20 :: .int v8 :: .ref h21 :: .ref h22 :: .int v9 :: .int v10 :: .int v11 :: .int v12 :: .int v13 :: .int v14 :: .int v15 :: .int v16 :: .ref h23 :: .long v17 :: .long v18 :: .long v19 :: .long v20 :: []))), (h1, .inl (G.1, 60, .inl v21)), (h14, .inl (G.1, 1336, .inl f623))] := ⟨_, hP, hD⟩
  refine lv_aload_n hx hb dX10_write_19 rfl (lv_at hl 1 rfl) ?_
  refine lv_dup hx hb dX10_write_20 rfl ?_
  refine va_get (D := D) (ci := 10) (v := .int 141) (C := RX10) (T := TX10) (N := 44) hx hb hts inlX10 hown hK hP 0 rfl rfl 19 (by decide) (hts _ k_298) (fun _ h9 => h9) rfl dX10_write_21 ?_
  refine lv_iconst (v := 1) hx hb dX10_write_24 (by decide) ?_
  refine lv_iadd hx hb dX10_write_25 ?_
  refine ow_i (y := 142) (by decide) ?_
  refine va_put (D := D) (ci := 10) (v := .int 142) (ty := .int) (C := RX10) (T := TX10) (N := 44) hx hb hts inlX10 tyX10 tyX10_ok nmX10 hown hK hP hD hS 0 rfl rfl 19 (by decide) (hts _ k_298) (fun _ h9 => h9) rfl (tyX10_ok 19 (by decide)) rfl rfl (Nat.le_of_ble_eq_true rfl) dX10_write_26 (fun H locs hP hD hS => ?_)
  have hP : va_P D vwCl [(h0, .inr (10, (.int v1 :: .int v2 :: .ref h2 :: .ref h3 :: .ref h4 :: .ref h5 :: .ref h6 :: .ref h7 :: .ref h8 :: .ref h9 :: .ref h10 :: .ref h1 :: .int v3 :: .ref h11 :: .ref h12 :: .ref h13 :: .ref h14 :: .int v4 :: .int v5 :: .int 142 :: .ref h15 :: .ref h16 :: .ref h17 :: .int v6 :: .ref h18 :: .int v7 :: .ref h19 :: .ref h20 :: .int v8 :: .ref h21 :: .ref h22 :: .int v9 :: .int v10 :: .int v11 :: .int v12 :: .int v13 :: .int v14 :: .int v15 :: .int v16 :: .ref h23 :: .long v17 :: .long v18 :: .long v19 :: .long v20 :: []))), (h1, .inl (G.1, 60, .inl v21)), (h14, .inl (G.1, 1336, .inl f623))] H := hP
  have hD : va_D A [(h0, .inr (10, (.int v1 :: .int v2 :: .ref h2 :: .ref h3 :: .ref h4 :: .ref h5 :: .ref h6 :: .ref h7 :: .ref h8 :: .ref h9 :: .ref h10 :: .ref h1 :: .int v3 :: .ref h11 :: .ref h12 :: .ref h13 :: .ref h14 :: .int v4 :: .int v5 :: .int 142 :: .ref h15 :: .ref h16 :: .ref h17 :: .int v6 :: .ref h18 :: .int v7 :: .ref h19 :: .ref h20 :: .int v8 :: .ref h21 :: .ref h22 :: .int v9 :: .int v10 :: .int v11 :: .int v12 :: .int v13 :: .int v14 :: .int v15 :: .int v16 :: .ref h23 :: .long v17 :: .long v18 :: .long v19 :: .long v20 :: []))), (h1, .inl (G.1, 60, .inl v21)), (h14, .inl (G.1, 1336, .inl f623))] := hD
  refine lv_iinc (v := 50) (lv' := [(3, .int 50), (0, .ref h0), (1, .ref h1), (2, .int 60)]) hx hb dX10_write_29 hl (k := 0) rfl (by decide) (by decide) rfl (fun ls hl => ?_)
  refine lv_goto (tgt := 2) hx hb dX10_write_32 (by decide) ?_
  refine lv_iload_n hx hb dX10_write_2 rfl (lv_at hl 0 rfl) ?_
  refine lv_iload_n hx hb dX10_write_3 rfl (lv_at hl 3 rfl) ?_
  refine lv_icmp_ge (tgt := 35) hx hb dX10_write_4 (by decide) (fun h9 => absurd h9 (by decide)) (fun _ => ?_)
  refine lv_aload_n hx hb dX10_write_7 rfl (lv_at hl 1 rfl) ?_
  refine va_get (D := D) (ci := 10) (v := .ref h14) (C := RX10) (T := TX10) (N := 44) hx hb hts inlX10 hown hK hP 0 rfl rfl 16 (by decide) (hts _ k_105) (fun _ h9 => h9) rfl dX10_write_8 ?_
  refine lv_aload_n hx hb dX10_write_11 rfl (lv_at hl 1 rfl) ?_
  refine va_get (D := D) (ci := 10) (v := .int 142) (C := RX10) (T := TX10) (N := 44) hx hb hts inlX10 hown hK hP 0 rfl rfl 19 (by decide) (hts _ k_298) (fun _ h9 => h9) rfl dX10_write_12 ?_
  refine lv_aload_n hx hb dX10_write_15 rfl (lv_at hl 2 rfl) ?_
  refine lv_iload_n hx hb dX10_write_16 rfl (lv_at hl 0 rfl) ?_
  refine va_iald hx hb hK hP 1 0 rfl rfl (show ¬ ((50 : Int32) < 0 ∨ 60 ≤ (50 : Int32).toNatClampNeg) by decide) dX10_write_17 ?_
  refine lv_topi (fun x624 _ => ?_)
  refine va_iast hx hb hK hP hD hS 2 0 rfl rfl (show ¬ ((142 : Int32) < 0 ∨ 1336 ≤ (142 : Int32).toNatClampNeg) by decide) dX10_write_18 (fun H locs hP hD hS => ?_)
  obtain ⟨f625, hP, hD⟩ : ∃ f625, va_P D vwCl [(h0, .inr (10, (.int v1 :: .int v2 :: .ref h2 :: .ref h3 :: .ref h4 :: .ref h5 :: .ref h6 :: .ref h7 :: .ref h8 :: .ref h9 :: .ref h10 :: .ref h1 :: .int v3 :: .ref h11 :: .ref h12 :: .ref h13 :: .ref h14 :: .int v4 :: .int v5 :: .int 142 :: .ref h15 :: .ref h16 :: .ref h17 :: .int v6 :: .ref h18 :: .int v7 :: .ref h19 :: .ref h20 :: .int v8 :: .ref h21 :: .ref h22 :: .int v9 :: .int v10 :: .int v11 :: .int v12 :: .int v13 :: .int v14 :: .int v15 :: .int v16 :: .ref h23 :: .long v17 :: .long v18 :: .long v19 :: .long v20 :: []))), (h1, .inl (G.1, 60, .inl v21)), (h14, .inl (G.1, 1336, .inl f625))] H ∧ va_D A [(h0, .inr (10, (.int v1 :: .int v2 :: .ref h2 :: .ref h3 :: .ref h4 :: .ref h5 :: .ref h6 :: .ref h7 :: .ref h8 :: .ref h9 :: .ref h10 :: .ref h1 :: .int v3 :: .ref h11 :: .ref h12 :: .ref h13 :: .ref h14 :: .int v4 :: .int v5 :: .int 142 :: .ref h15 :: .ref h16 :: .ref h17 :: .int v6 :: .ref h18 :: .int v7 :: .ref h19 :: .ref h20 :: .int v8 :: .ref h21 :: .ref h22 :: .int v9 :: .int v10 :: .int v11 :: .int v12 :: .int v13 :: .int v14 :: .int v15 :: .int v16 :: .ref h23 :: .long v17 :: .long v18 :: .long v19 :: .long v20 :: []))), (h1, .inl (G.1, 60, .inl v21)), (h14, .inl (G.1, 1336, .inl f625))] := ⟨_, hP, hD⟩
  refine lv_aload_n hx hb dX10_write_19 rfl (lv_at hl 1 rfl) ?_
  refine lv_dup hx hb dX10_write_20 rfl ?_
  refine va_get (D := D) (ci := 10) (v := .int 142) (C := RX10) (T := TX10) (N := 44) hx hb hts inlX10 hown hK hP 0 rfl rfl 19 (by decide) (hts _ k_298) (fun _ h9 => h9) rfl dX10_write_21 ?_
  refine lv_iconst (v := 1) hx hb dX10_write_24 (by decide) ?_
  refine lv_iadd hx hb dX10_write_25 ?_
  refine ow_i (y := 143) (by decide) ?_
  refine va_put (D := D) (ci := 10) (v := .int 143) (ty := .int) (C := RX10) (T := TX10) (N := 44) hx hb hts inlX10 tyX10 tyX10_ok nmX10 hown hK hP hD hS 0 rfl rfl 19 (by decide) (hts _ k_298) (fun _ h9 => h9) rfl (tyX10_ok 19 (by decide)) rfl rfl (Nat.le_of_ble_eq_true rfl) dX10_write_26 (fun H locs hP hD hS => ?_)
  have hP : va_P D vwCl [(h0, .inr (10, (.int v1 :: .int v2 :: .ref h2 :: .ref h3 :: .ref h4 :: .ref h5 :: .ref h6 :: .ref h7 :: .ref h8 :: .ref h9 :: .ref h10 :: .ref h1 :: .int v3 :: .ref h11 :: .ref h12 :: .ref h13 :: .ref h14 :: .int v4 :: .int v5 :: .int 143 :: .ref h15 :: .ref h16 :: .ref h17 :: .int v6 :: .ref h18 :: .int v7 :: .ref h19 :: .ref h20 :: .int v8 :: .ref h21 :: .ref h22 :: .int v9 :: .int v10 :: .int v11 :: .int v12 :: .int v13 :: .int v14 :: .int v15 :: .int v16 :: .ref h23 :: .long v17 :: .long v18 :: .long v19 :: .long v20 :: []))), (h1, .inl (G.1, 60, .inl v21)), (h14, .inl (G.1, 1336, .inl f625))] H := hP
  have hD : va_D A [(h0, .inr (10, (.int v1 :: .int v2 :: .ref h2 :: .ref h3 :: .ref h4 :: .ref h5 :: .ref h6 :: .ref h7 :: .ref h8 :: .ref h9 :: .ref h10 :: .ref h1 :: .int v3 :: .ref h11 :: .ref h12 :: .ref h13 :: .ref h14 :: .int v4 :: .int v5 :: .int 143 :: .ref h15 :: .ref h16 :: .ref h17 :: .int v6 :: .ref h18 :: .int v7 :: .ref h19 :: .ref h20 :: .int v8 :: .ref h21 :: .ref h22 :: .int v9 :: .int v10 :: .int v11 :: .int v12 :: .int v13 :: .int v14 :: .int v15 :: .int v16 :: .ref h23 :: .long v17 :: .long v18 :: .long v19 :: .long v20 :: []))), (h1, .inl (G.1, 60, .inl v21)), (h14, .inl (G.1, 1336, .inl f625))] := hD
  refine lv_iinc (v := 51) (lv' := [(3, .int 51), (0, .ref h0), (1, .ref h1), (2, .int 60)]) hx hb dX10_write_29 hl (k := 0) rfl (by decide) (by decide) rfl (fun ls hl => ?_)
  refine lv_goto (tgt := 2) hx hb dX10_write_32 (by decide) ?_
  refine lv_iload_n hx hb dX10_write_2 rfl (lv_at hl 0 rfl) ?_
  refine lv_iload_n hx hb dX10_write_3 rfl (lv_at hl 3 rfl) ?_
  refine lv_icmp_ge (tgt := 35) hx hb dX10_write_4 (by decide) (fun h9 => absurd h9 (by decide)) (fun _ => ?_)
  refine lv_aload_n hx hb dX10_write_7 rfl (lv_at hl 1 rfl) ?_
  refine va_get (D := D) (ci := 10) (v := .ref h14) (C := RX10) (T := TX10) (N := 44) hx hb hts inlX10 hown hK hP 0 rfl rfl 16 (by decide) (hts _ k_105) (fun _ h9 => h9) rfl dX10_write_8 ?_
  refine lv_aload_n hx hb dX10_write_11 rfl (lv_at hl 1 rfl) ?_
  refine va_get (D := D) (ci := 10) (v := .int 143) (C := RX10) (T := TX10) (N := 44) hx hb hts inlX10 hown hK hP 0 rfl rfl 19 (by decide) (hts _ k_298) (fun _ h9 => h9) rfl dX10_write_12 ?_
  refine lv_aload_n hx hb dX10_write_15 rfl (lv_at hl 2 rfl) ?_
  refine lv_iload_n hx hb dX10_write_16 rfl (lv_at hl 0 rfl) ?_
  refine va_iald hx hb hK hP 1 0 rfl rfl (show ¬ ((51 : Int32) < 0 ∨ 60 ≤ (51 : Int32).toNatClampNeg) by decide) dX10_write_17 ?_
  refine lv_topi (fun x626 _ => ?_)
  refine va_iast hx hb hK hP hD hS 2 0 rfl rfl (show ¬ ((143 : Int32) < 0 ∨ 1336 ≤ (143 : Int32).toNatClampNeg) by decide) dX10_write_18 (fun H locs hP hD hS => ?_)
  obtain ⟨f627, hP, hD⟩ : ∃ f627, va_P D vwCl [(h0, .inr (10, (.int v1 :: .int v2 :: .ref h2 :: .ref h3 :: .ref h4 :: .ref h5 :: .ref h6 :: .ref h7 :: .ref h8 :: .ref h9 :: .ref h10 :: .ref h1 :: .int v3 :: .ref h11 :: .ref h12 :: .ref h13 :: .ref h14 :: .int v4 :: .int v5 :: .int 143 :: .ref h15 :: .ref h16 :: .ref h17 :: .int v6 :: .ref h18 :: .int v7 :: .ref h19 :: .ref h20 :: .int v8 :: .ref h21 :: .ref h22 :: .int v9 :: .int v10 :: .int v11 :: .int v12 :: .int v13 :: .int v14 :: .int v15 :: .int v16 :: .ref h23 :: .long v17 :: .long v18 :: .long v19 :: .long v20 :: []))), (h1, .inl (G.1, 60, .inl v21)), (h14, .inl (G.1, 1336, .inl f627))] H ∧ va_D A [(h0, .inr (10, (.int v1 :: .int v2 :: .ref h2 :: .ref h3 :: .ref h4 :: .ref h5 :: .ref h6 :: .ref h7 :: .ref h8 :: .ref h9 :: .ref h10 :: .ref h1 :: .int v3 :: .ref h11 :: .ref h12 :: .ref h13 :: .ref h14 :: .int v4 :: .int v5 :: .int 143 :: .ref h15 :: .ref h16 :: .ref h17 :: .int v6 :: .ref h18 :: .int v7 :: .ref h19 :: .ref h20 :: .int v8 :: .ref h21 :: .ref h22 :: .int v9 :: .int v10 :: .int v11 :: .int v12 :: .int v13 :: .int v14 :: .int v15 :: .int v16 :: .ref h23 :: .long v17 :: .long v18 :: .long v19 :: .long v20 :: []))), (h1, .inl (G.1, 60, .inl v21)), (h14, .inl (G.1, 1336, .inl f627))] := ⟨_, hP, hD⟩
  refine lv_aload_n hx hb dX10_write_19 rfl (lv_at hl 1 rfl) ?_
  refine lv_dup hx hb dX10_write_20 rfl ?_
  refine va_get (D := D) (ci := 10) (v := .int 143) (C := RX10) (T := TX10) (N := 44) hx hb hts inlX10 hown hK hP 0 rfl rfl 19 (by decide) (hts _ k_298) (fun _ h9 => h9) rfl dX10_write_21 ?_
  refine lv_iconst (v := 1) hx hb dX10_write_24 (by decide) ?_
  refine lv_iadd hx hb dX10_write_25 ?_
  refine ow_i (y := 144) (by decide) ?_
  refine va_put (D := D) (ci := 10) (v := .int 144) (ty := .int) (C := RX10) (T := TX10) (N := 44) hx hb hts inlX10 tyX10 tyX10_ok nmX10 hown hK hP hD hS 0 rfl rfl 19 (by decide) (hts _ k_298) (fun _ h9 => h9) rfl (tyX10_ok 19 (by decide)) rfl rfl (Nat.le_of_ble_eq_true rfl) dX10_write_26 (fun H locs hP hD hS => ?_)
  have hP : va_P D vwCl [(h0, .inr (10, (.int v1 :: .int v2 :: .ref h2 :: .ref h3 :: .ref h4 :: .ref h5 :: .ref h6 :: .ref h7 :: .ref h8 :: .ref h9 :: .ref h10 :: .ref h1 :: .int v3 :: .ref h11 :: .ref h12 :: .ref h13 :: .ref h14 :: .int v4 :: .int v5 :: .int 144 :: .ref h15 :: .ref h16 :: .ref h17 :: .int v6 :: .ref h18 :: .int v7 :: .ref h19 :: .ref h20 :: .int v8 :: .ref h21 :: .ref h22 :: .int v9 :: .int v10 :: .int v11 :: .int v12 :: .int v13 :: .int v14 :: .int v15 :: .int v16 :: .ref h23 :: .long v17 :: .long v18 :: .long v19 :: .long v20 :: []))), (h1, .inl (G.1, 60, .inl v21)), (h14, .inl (G.1, 1336, .inl f627))] H := hP
  have hD : va_D A [(h0, .inr (10, (.int v1 :: .int v2 :: .ref h2 :: .ref h3 :: .ref h4 :: .ref h5 :: .ref h6 :: .ref h7 :: .ref h8 :: .ref h9 :: .ref h10 :: .ref h1 :: .int v3 :: .ref h11 :: .ref h12 :: .ref h13 :: .ref h14 :: .int v4 :: .int v5 :: .int 144 :: .ref h15 :: .ref h16 :: .ref h17 :: .int v6 :: .ref h18 :: .int v7 :: .ref h19 :: .ref h20 :: .int v8 :: .ref h21 :: .ref h22 :: .int v9 :: .int v10 :: .int v11 :: .int v12 :: .int v13 :: .int v14 :: .int v15 :: .int v16 :: .ref h23 :: .long v17 :: .long v18 :: .long v19 :: .long v20 :: []))), (h1, .inl (G.1, 60, .inl v21)), (h14, .inl (G.1, 1336, .inl f627))] := hD
  refine lv_iinc (v := 52) (lv' := [(3, .int 52), (0, .ref h0), (1, .ref h1), (2, .int 60)]) hx hb dX10_write_29 hl (k := 0) rfl (by decide) (by decide) rfl (fun ls hl => ?_)
  refine lv_goto (tgt := 2) hx hb dX10_write_32 (by decide) ?_
  refine lv_iload_n hx hb dX10_write_2 rfl (lv_at hl 0 rfl) ?_
  refine lv_iload_n hx hb dX10_write_3 rfl (lv_at hl 3 rfl) ?_
  refine lv_icmp_ge (tgt := 35) hx hb dX10_write_4 (by decide) (fun h9 => absurd h9 (by decide)) (fun _ => ?_)
  refine lv_aload_n hx hb dX10_write_7 rfl (lv_at hl 1 rfl) ?_
  refine va_get (D := D) (ci := 10) (v := .ref h14) (C := RX10) (T := TX10) (N := 44) hx hb hts inlX10 hown hK hP 0 rfl rfl 16 (by decide) (hts _ k_105) (fun _ h9 => h9) rfl dX10_write_8 ?_
  refine lv_aload_n hx hb dX10_write_11 rfl (lv_at hl 1 rfl) ?_
  refine va_get (D := D) (ci := 10) (v := .int 144) (C := RX10) (T := TX10) (N := 44) hx hb hts inlX10 hown hK hP 0 rfl rfl 19 (by decide) (hts _ k_298) (fun _ h9 => h9) rfl dX10_write_12 ?_
  refine lv_aload_n hx hb dX10_write_15 rfl (lv_at hl 2 rfl) ?_
  refine lv_iload_n hx hb dX10_write_16 rfl (lv_at hl 0 rfl) ?_
  refine va_iald hx hb hK hP 1 0 rfl rfl (show ¬ ((52 : Int32) < 0 ∨ 60 ≤ (52 : Int32).toNatClampNeg) by decide) dX10_write_17 ?_
  refine lv_topi (fun x628 _ => ?_)
  refine va_iast hx hb hK hP hD hS 2 0 rfl rfl (show ¬ ((144 : Int32) < 0 ∨ 1336 ≤ (144 : Int32).toNatClampNeg) by decide) dX10_write_18 (fun H locs hP hD hS => ?_)
  obtain ⟨f629, hP, hD⟩ : ∃ f629, va_P D vwCl [(h0, .inr (10, (.int v1 :: .int v2 :: .ref h2 :: .ref h3 :: .ref h4 :: .ref h5 :: .ref h6 :: .ref h7 :: .ref h8 :: .ref h9 :: .ref h10 :: .ref h1 :: .int v3 :: .ref h11 :: .ref h12 :: .ref h13 :: .ref h14 :: .int v4 :: .int v5 :: .int 144 :: .ref h15 :: .ref h16 :: .ref h17 :: .int v6 :: .ref h18 :: .int v7 :: .ref h19 :: .ref h20 :: .int v8 :: .ref h21 :: .ref h22 :: .int v9 :: .int v10 :: .int v11 :: .int v12 :: .int v13 :: .int v14 :: .int v15 :: .int v16 :: .ref h23 :: .long v17 :: .long v18 :: .long v19 :: .long v20 :: []))), (h1, .inl (G.1, 60, .inl v21)), (h14, .inl (G.1, 1336, .inl f629))] H ∧ va_D A [(h0, .inr (10, (.int v1 :: .int v2 :: .ref h2 :: .ref h3 :: .ref h4 :: .ref h5 :: .ref h6 :: .ref h7 :: .ref h8 :: .ref h9 :: .ref h10 :: .ref h1 :: .int v3 :: .ref h11 :: .ref h12 :: .ref h13 :: .ref h14 :: .int v4 :: .int v5 :: .int 144 :: .ref h15 :: .ref h16 :: .ref h17 :: .int v6 :: .ref h18 :: .int v7 :: .ref h19 :: .ref h20 :: .int v8 :: .ref h21 :: .ref h22 :: .int v9 :: .int v10 :: .int v11 :: .int v12 :: .int v13 :: .int v14 :: .int v15 :: .int v16 :: .ref h23 :: .long v17 :: .long v18 :: .long v19 :: .long v20 :: []))), (h1, .inl (G.1, 60, .inl v21)), (h14, .inl (G.1, 1336, .inl f629))] := ⟨_, hP, hD⟩
  refine lv_aload_n hx hb dX10_write_19 rfl (lv_at hl 1 rfl) ?_
  refine lv_dup hx hb dX10_write_20 rfl ?_
  refine va_get (D := D) (ci := 10) (v := .int 144) (C := RX10) (T := TX10) (N := 44) hx hb hts inlX10 hown hK hP 0 rfl rfl 19 (by decide) (hts _ k_298) (fun _ h9 => h9) rfl dX10_write_21 ?_
  refine lv_iconst (v := 1) hx hb dX10_write_24 (by decide) ?_
  refine lv_iadd hx hb dX10_write_25 ?_
  refine ow_i (y := 145) (by decide) ?_
  refine va_put (D := D) (ci := 10) (v := .int 145) (ty := .int) (C := RX10) (T := TX10) (N := 44) hx hb hts inlX10 tyX10 tyX10_ok nmX10 hown hK hP hD hS 0 rfl rfl 19 (by decide) (hts _ k_298) (fun _ h9 => h9) rfl (tyX10_ok 19 (by decide)) rfl rfl (Nat.le_of_ble_eq_true rfl) dX10_write_26 (fun H locs hP hD hS => ?_)
  have hP : va_P D vwCl [(h0, .inr (10, (.int v1 :: .int v2 :: .ref h2 :: .ref h3 :: .ref h4 :: .ref h5 :: .ref h6 :: .ref h7 :: .ref h8 :: .ref h9 :: .ref h10 :: .ref h1 :: .int v3 :: .ref h11 :: .ref h12 :: .ref h13 :: .ref h14 :: .int v4 :: .int v5 :: .int 145 :: .ref h15 :: .ref h16 :: .ref h17 :: .int v6 :: .ref h18 :: .int v7 :: .ref h19 :: .ref h20 :: .int v8 :: .ref h21 :: .ref h22 :: .int v9 :: .int v10 :: .int v11 :: .int v12 :: .int v13 :: .int v14 :: .int v15 :: .int v16 :: .ref h23 :: .long v17 :: .long v18 :: .long v19 :: .long v20 :: []))), (h1, .inl (G.1, 60, .inl v21)), (h14, .inl (G.1, 1336, .inl f629))] H := hP
  have hD : va_D A [(h0, .inr (10, (.int v1 :: .int v2 :: .ref h2 :: .ref h3 :: .ref h4 :: .ref h5 :: .ref h6 :: .ref h7 :: .ref h8 :: .ref h9 :: .ref h10 :: .ref h1 :: .int v3 :: .ref h11 :: .ref h12 :: .ref h13 :: .ref h14 :: .int v4 :: .int v5 :: .int 145 :: .ref h15 :: .ref h16 :: .ref h17 :: .int v6 :: .ref h18 :: .int v7 :: .ref h19 :: .ref h20 :: .int v8 :: .ref h21 :: .ref h22 :: .int v9 :: .int v10 :: .int v11 :: .int v12 :: .int v13 :: .int v14 :: .int v15 :: .int v16 :: .ref h23 :: .long v17 :: .long v18 :: .long v19 :: .long v20 :: []))), (h1, .inl (G.1, 60, .inl v21)), (h14, .inl (G.1, 1336, .inl f629))] := hD
  refine lv_iinc (v := 53) (lv' := [(3, .int 53), (0, .ref h0), (1, .ref h1), (2, .int 60)]) hx hb dX10_write_29 hl (k := 0) rfl (by decide) (by decide) rfl (fun ls hl => ?_)
  refine lv_goto (tgt := 2) hx hb dX10_write_32 (by decide) ?_
  refine lv_iload_n hx hb dX10_write_2 rfl (lv_at hl 0 rfl) ?_
  refine lv_iload_n hx hb dX10_write_3 rfl (lv_at hl 3 rfl) ?_
  refine lv_icmp_ge (tgt := 35) hx hb dX10_write_4 (by decide) (fun h9 => absurd h9 (by decide)) (fun _ => ?_)
  refine lv_aload_n hx hb dX10_write_7 rfl (lv_at hl 1 rfl) ?_
  refine va_get (D := D) (ci := 10) (v := .ref h14) (C := RX10) (T := TX10) (N := 44) hx hb hts inlX10 hown hK hP 0 rfl rfl 16 (by decide) (hts _ k_105) (fun _ h9 => h9) rfl dX10_write_8 ?_
  refine lv_aload_n hx hb dX10_write_11 rfl (lv_at hl 1 rfl) ?_
  refine va_get (D := D) (ci := 10) (v := .int 145) (C := RX10) (T := TX10) (N := 44) hx hb hts inlX10 hown hK hP 0 rfl rfl 19 (by decide) (hts _ k_298) (fun _ h9 => h9) rfl dX10_write_12 ?_
  refine lv_aload_n hx hb dX10_write_15 rfl (lv_at hl 2 rfl) ?_
  refine lv_iload_n hx hb dX10_write_16 rfl (lv_at hl 0 rfl) ?_
  refine va_iald hx hb hK hP 1 0 rfl rfl (show ¬ ((53 : Int32) < 0 ∨ 60 ≤ (53 : Int32).toNatClampNeg) by decide) dX10_write_17 ?_
  refine lv_topi (fun x630 _ => ?_)
  refine va_iast hx hb hK hP hD hS 2 0 rfl rfl (show ¬ ((145 : Int32) < 0 ∨ 1336 ≤ (145 : Int32).toNatClampNeg) by decide) dX10_write_18 (fun H locs hP hD hS => ?_)
  obtain ⟨f631, hP, hD⟩ : ∃ f631, va_P D vwCl [(h0, .inr (10, (.int v1 :: .int v2 :: .ref h2 :: .ref h3 :: .ref h4 :: .ref h5 :: .ref h6 :: .ref h7 :: .ref h8 :: .ref h9 :: .ref h10 :: .ref h1 :: .int v3 :: .ref h11 :: .ref h12 :: .ref h13 :: .ref h14 :: .int v4 :: .int v5 :: .int 145 :: .ref h15 :: .ref h16 :: .ref h17 :: .int v6 :: .ref h18 :: .int v7 :: .ref h19 :: .ref h20 :: .int v8 :: .ref h21 :: .ref h22 :: .int v9 :: .int v10 :: .int v11 :: .int v12 :: .int v13 :: .int v14 :: .int v15 :: .int v16 :: .ref h23 :: .long v17 :: .long v18 :: .long v19 :: .long v20 :: []))), (h1, .inl (G.1, 60, .inl v21)), (h14, .inl (G.1, 1336, .inl f631))] H ∧ va_D A [(h0, .inr (10, (.int v1 :: .int v2 :: .ref h2 :: .ref h3 :: .ref h4 :: .ref h5 :: .ref h6 :: .ref h7 :: .ref h8 :: .ref h9 :: .ref h10 :: .ref h1 :: .int v3 :: .ref h11 :: .ref h12 :: .ref h13 :: .ref h14 :: .int v4 :: .int v5 :: .int 145 :: .ref h15 :: .ref h16 :: .ref h17 :: .int v6 :: .ref h18 :: .int v7 :: .ref h19 :: .ref h20 :: .int v8 :: .ref h21 :: .ref h22 :: .int v9 :: .int v10 :: .int v11 :: .int v12 :: .int v13 :: .int v14 :: .int v15 :: .int v16 :: .ref h23 :: .long v17 :: .long v18 :: .long v19 :: .long v20 :: []))), (h1, .inl (G.1, 60, .inl v21)), (h14, .inl (G.1, 1336, .inl f631))] := ⟨_, hP, hD⟩
  refine lv_aload_n hx hb dX10_write_19 rfl (lv_at hl 1 rfl) ?_
  refine lv_dup hx hb dX10_write_20 rfl ?_
  refine va_get (D := D) (ci := 10) (v := .int 145) (C := RX10) (T := TX10) (N := 44) hx hb hts inlX10 hown hK hP 0 rfl rfl 19 (by decide) (hts _ k_298) (fun _ h9 => h9) rfl dX10_write_21 ?_
  refine lv_iconst (v := 1) hx hb dX10_write_24 (by decide) ?_
  refine lv_iadd hx hb dX10_write_25 ?_
  refine ow_i (y := 146) (by decide) ?_
  refine va_put (D := D) (ci := 10) (v := .int 146) (ty := .int) (C := RX10) (T := TX10) (N := 44) hx hb hts inlX10 tyX10 tyX10_ok nmX10 hown hK hP hD hS 0 rfl rfl 19 (by decide) (hts _ k_298) (fun _ h9 => h9) rfl (tyX10_ok 19 (by decide)) rfl rfl (Nat.le_of_ble_eq_true rfl) dX10_write_26 (fun H locs hP hD hS => ?_)
  have hP : va_P D vwCl [(h0, .inr (10, (.int v1 :: .int v2 :: .ref h2 :: .ref h3 :: .ref h4 :: .ref h5 :: .ref h6 :: .ref h7 :: .ref h8 :: .ref h9 :: .ref h10 :: .ref h1 :: .int v3 :: .ref h11 :: .ref h12 :: .ref h13 :: .ref h14 :: .int v4 :: .int v5 :: .int 146 :: .ref h15 :: .ref h16 :: .ref h17 :: .int v6 :: .ref h18 :: .int v7 :: .ref h19 :: .ref h20 :: .int v8 :: .ref h21 :: .ref h22 :: .int v9 :: .int v10 :: .int v11 :: .int v12 :: .int v13 :: .int v14 :: .int v15 :: .int v16 :: .ref h23 :: .long v17 :: .long v18 :: .long v19 :: .long v20 :: []))), (h1, .inl (G.1, 60, .inl v21)), (h14, .inl (G.1, 1336, .inl f631))] H := hP
  have hD : va_D A [(h0, .inr (10, (.int v1 :: .int v2 :: .ref h2 :: .ref h3 :: .ref h4 :: .ref h5 :: .ref h6 :: .ref h7 :: .ref h8 :: .ref h9 :: .ref h10 :: .ref h1 :: .int v3 :: .ref h11 :: .ref h12 :: .ref h13 :: .ref h14 :: .int v4 :: .int v5 :: .int 146 :: .ref h15 :: .ref h16 :: .ref h17 :: .int v6 :: .ref h18 :: .int v7 :: .ref h19 :: .ref h20 :: .int v8 :: .ref h21 :: .ref h22 :: .int v9 :: .int v10 :: .int v11 :: .int v12 :: .int v13 :: .int v14 :: .int v15 :: .int v16 :: .ref h23 :: .long v17 :: .long v18 :: .long v19 :: .long v20 :: []))), (h1, .inl (G.1, 60, .inl v21)), (h14, .inl (G.1, 1336, .inl f631))] := hD
  refine lv_iinc (v := 54) (lv' := [(3, .int 54), (0, .ref h0), (1, .ref h1), (2, .int 60)]) hx hb dX10_write_29 hl (k := 0) rfl (by decide) (by decide) rfl (fun ls hl => ?_)
  refine lv_goto (tgt := 2) hx hb dX10_write_32 (by decide) ?_
  refine lv_iload_n hx hb dX10_write_2 rfl (lv_at hl 0 rfl) ?_
  refine lv_iload_n hx hb dX10_write_3 rfl (lv_at hl 3 rfl) ?_
  refine lv_icmp_ge (tgt := 35) hx hb dX10_write_4 (by decide) (fun h9 => absurd h9 (by decide)) (fun _ => ?_)
  refine lv_aload_n hx hb dX10_write_7 rfl (lv_at hl 1 rfl) ?_
  refine va_get (D := D) (ci := 10) (v := .ref h14) (C := RX10) (T := TX10) (N := 44) hx hb hts inlX10 hown hK hP 0 rfl rfl 16 (by decide) (hts _ k_105) (fun _ h9 => h9) rfl dX10_write_8 ?_
  refine lv_aload_n hx hb dX10_write_11 rfl (lv_at hl 1 rfl) ?_
  refine va_get (D := D) (ci := 10) (v := .int 146) (C := RX10) (T := TX10) (N := 44) hx hb hts inlX10 hown hK hP 0 rfl rfl 19 (by decide) (hts _ k_298) (fun _ h9 => h9) rfl dX10_write_12 ?_
  refine lv_aload_n hx hb dX10_write_15 rfl (lv_at hl 2 rfl) ?_
  refine lv_iload_n hx hb dX10_write_16 rfl (lv_at hl 0 rfl) ?_
  refine va_iald hx hb hK hP 1 0 rfl rfl (show ¬ ((54 : Int32) < 0 ∨ 60 ≤ (54 : Int32).toNatClampNeg) by decide) dX10_write_17 ?_
  refine lv_topi (fun x632 _ => ?_)
  refine va_iast hx hb hK hP hD hS 2 0 rfl rfl (show ¬ ((146 : Int32) < 0 ∨ 1336 ≤ (146 : Int32).toNatClampNeg) by decide) dX10_write_18 (fun H locs hP hD hS => ?_)
  obtain ⟨f633, hP, hD⟩ : ∃ f633, va_P D vwCl [(h0, .inr (10, (.int v1 :: .int v2 :: .ref h2 :: .ref h3 :: .ref h4 :: .ref h5 :: .ref h6 :: .ref h7 :: .ref h8 :: .ref h9 :: .ref h10 :: .ref h1 :: .int v3 :: .ref h11 :: .ref h12 :: .ref h13 :: .ref h14 :: .int v4 :: .int v5 :: .int 146 :: .ref h15 :: .ref h16 :: .ref h17 :: .int v6 :: .ref h18 :: .int v7 :: .ref h19 :: .ref h20 :: .int v8 :: .ref h21 :: .ref h22 :: .int v9 :: .int v10 :: .int v11 :: .int v12 :: .int v13 :: .int v14 :: .int v15 :: .int v16 :: .ref h23 :: .long v17 :: .long v18 :: .long v19 :: .long v20 :: []))), (h1, .inl (G.1, 60, .inl v21)), (h14, .inl (G.1, 1336, .inl f633))] H ∧ va_D A [(h0, .inr (10, (.int v1 :: .int v2 :: .ref h2 :: .ref h3 :: .ref h4 :: .ref h5 :: .ref h6 :: .ref h7 :: .ref h8 :: .ref h9 :: .ref h10 :: .ref h1 :: .int v3 :: .ref h11 :: .ref h12 :: .ref h13 :: .ref h14 :: .int v4 :: .int v5 :: .int 146 :: .ref h15 :: .ref h16 :: .ref h17 :: .int v6 :: .ref h18 :: .int v7 :: .ref h19 :: .ref h20 :: .int v8 :: .ref h21 :: .ref h22 :: .int v9 :: .int v10 :: .int v11 :: .int v12 :: .int v13 :: .int v14 :: .int v15 :: .int v16 :: .ref h23 :: .long v17 :: .long v18 :: .long v19 :: .long v20 :: []))), (h1, .inl (G.1, 60, .inl v21)), (h14, .inl (G.1, 1336, .inl f633))] := ⟨_, hP, hD⟩
  refine lv_aload_n hx hb dX10_write_19 rfl (lv_at hl 1 rfl) ?_
  refine lv_dup hx hb dX10_write_20 rfl ?_
  refine va_get (D := D) (ci := 10) (v := .int 146) (C := RX10) (T := TX10) (N := 44) hx hb hts inlX10 hown hK hP 0 rfl rfl 19 (by decide) (hts _ k_298) (fun _ h9 => h9) rfl dX10_write_21 ?_
  refine lv_iconst (v := 1) hx hb dX10_write_24 (by decide) ?_
  refine lv_iadd hx hb dX10_write_25 ?_
  refine ow_i (y := 147) (by decide) ?_
  refine va_put (D := D) (ci := 10) (v := .int 147) (ty := .int) (C := RX10) (T := TX10) (N := 44) hx hb hts inlX10 tyX10 tyX10_ok nmX10 hown hK hP hD hS 0 rfl rfl 19 (by decide) (hts _ k_298) (fun _ h9 => h9) rfl (tyX10_ok 19 (by decide)) rfl rfl (Nat.le_of_ble_eq_true rfl) dX10_write_26 (fun H locs hP hD hS => ?_)
  have hP : va_P D vwCl [(h0, .inr (10, (.int v1 :: .int v2 :: .ref h2 :: .ref h3 :: .ref h4 :: .ref h5 :: .ref h6 :: .ref h7 :: .ref h8 :: .ref h9 :: .ref h10 :: .ref h1 :: .int v3 :: .ref h11 :: .ref h12 :: .ref h13 :: .ref h14 :: .int v4 :: .int v5 :: .int 147 :: .ref h15 :: .ref h16 :: .ref h17 :: .int v6 :: .ref h18 :: .int v7 :: .ref h19 :: .ref h20 :: .int v8 :: .ref h21 :: .ref h22 :: .int v9 :: .int v10 :: .int v11 :: .int v12 :: .int v13 :: .int v14 :: .int v15 :: .int v16 :: .ref h23 :: .long v17 :: .long v18 :: .long v19 :: .long v20 :: []))), (h1, .inl (G.1, 60, .inl v21)), (h14, .inl (G.1, 1336, .inl f633))] H := hP
  have hD : va_D A [(h0, .inr (10, (.int v1 :: .int v2 :: .ref h2 :: .ref h3 :: .ref h4 :: .ref h5 :: .ref h6 :: .ref h7 :: .ref h8 :: .ref h9 :: .ref h10 :: .ref h1 :: .int v3 :: .ref h11 :: .ref h12 :: .ref h13 :: .ref h14 :: .int v4 :: .int v5 :: .int 147 :: .ref h15 :: .ref h16 :: .ref h17 :: .int v6 :: .ref h18 :: .int v7 :: .ref h19 :: .ref h20 :: .int v8 :: .ref h21 :: .ref h22 :: .int v9 :: .int v10 :: .int v11 :: .int v12 :: .int v13 :: .int v14 :: .int v15 :: .int v16 :: .ref h23 :: .long v17 :: .long v18 :: .long v19 :: .long v20 :: []))), (h1, .inl (G.1, 60, .inl v21)), (h14, .inl (G.1, 1336, .inl f633))] := hD
  refine lv_iinc (v := 55) (lv' := [(3, .int 55), (0, .ref h0), (1, .ref h1), (2, .int 60)]) hx hb dX10_write_29 hl (k := 0) rfl (by decide) (by decide) rfl (fun ls hl => ?_)
  refine lv_goto (tgt := 2) hx hb dX10_write_32 (by decide) ?_
  refine lv_iload_n hx hb dX10_write_2 rfl (lv_at hl 0 rfl) ?_
  refine lv_iload_n hx hb dX10_write_3 rfl (lv_at hl 3 rfl) ?_
  refine lv_icmp_ge (tgt := 35) hx hb dX10_write_4 (by decide) (fun h9 => absurd h9 (by decide)) (fun _ => ?_)
  refine lv_aload_n hx hb dX10_write_7 rfl (lv_at hl 1 rfl) ?_
  refine va_get (D := D) (ci := 10) (v := .ref h14) (C := RX10) (T := TX10) (N := 44) hx hb hts inlX10 hown hK hP 0 rfl rfl 16 (by decide) (hts _ k_105) (fun _ h9 => h9) rfl dX10_write_8 ?_
  refine lv_aload_n hx hb dX10_write_11 rfl (lv_at hl 1 rfl) ?_
  refine va_get (D := D) (ci := 10) (v := .int 147) (C := RX10) (T := TX10) (N := 44) hx hb hts inlX10 hown hK hP 0 rfl rfl 19 (by decide) (hts _ k_298) (fun _ h9 => h9) rfl dX10_write_12 ?_
  refine lv_aload_n hx hb dX10_write_15 rfl (lv_at hl 2 rfl) ?_
  refine lv_iload_n hx hb dX10_write_16 rfl (lv_at hl 0 rfl) ?_
  refine va_iald hx hb hK hP 1 0 rfl rfl (show ¬ ((55 : Int32) < 0 ∨ 60 ≤ (55 : Int32).toNatClampNeg) by decide) dX10_write_17 ?_
  refine lv_topi (fun x634 _ => ?_)
  refine va_iast hx hb hK hP hD hS 2 0 rfl rfl (show ¬ ((147 : Int32) < 0 ∨ 1336 ≤ (147 : Int32).toNatClampNeg) by decide) dX10_write_18 (fun H locs hP hD hS => ?_)
  obtain ⟨f635, hP, hD⟩ : ∃ f635, va_P D vwCl [(h0, .inr (10, (.int v1 :: .int v2 :: .ref h2 :: .ref h3 :: .ref h4 :: .ref h5 :: .ref h6 :: .ref h7 :: .ref h8 :: .ref h9 :: .ref h10 :: .ref h1 :: .int v3 :: .ref h11 :: .ref h12 :: .ref h13 :: .ref h14 :: .int v4 :: .int v5 :: .int 147 :: .ref h15 :: .ref h16 :: .ref h17 :: .int v6 :: .ref h18 :: .int v7 :: .ref h19 :: .ref h20 :: .int v8 :: .ref h21 :: .ref h22 :: .int v9 :: .int v10 :: .int v11 :: .int v12 :: .int v13 :: .int v14 :: .int v15 :: .int v16 :: .ref h23 :: .long v17 :: .long v18 :: .long v19 :: .long v20 :: []))), (h1, .inl (G.1, 60, .inl v21)), (h14, .inl (G.1, 1336, .inl f635))] H ∧ va_D A [(h0, .inr (10, (.int v1 :: .int v2 :: .ref h2 :: .ref h3 :: .ref h4 :: .ref h5 :: .ref h6 :: .ref h7 :: .ref h8 :: .ref h9 :: .ref h10 :: .ref h1 :: .int v3 :: .ref h11 :: .ref h12 :: .ref h13 :: .ref h14 :: .int v4 :: .int v5 :: .int 147 :: .ref h15 :: .ref h16 :: .ref h17 :: .int v6 :: .ref h18 :: .int v7 :: .ref h19 :: .ref h20 :: .int v8 :: .ref h21 :: .ref h22 :: .int v9 :: .int v10 :: .int v11 :: .int v12 :: .int v13 :: .int v14 :: .int v15 :: .int v16 :: .ref h23 :: .long v17 :: .long v18 :: .long v19 :: .long v20 :: []))), (h1, .inl (G.1, 60, .inl v21)), (h14, .inl (G.1, 1336, .inl f635))] := ⟨_, hP, hD⟩
  refine lv_aload_n hx hb dX10_write_19 rfl (lv_at hl 1 rfl) ?_
  refine lv_dup hx hb dX10_write_20 rfl ?_
  refine va_get (D := D) (ci := 10) (v := .int 147) (C := RX10) (T := TX10) (N := 44) hx hb hts inlX10 hown hK hP 0 rfl rfl 19 (by decide) (hts _ k_298) (fun _ h9 => h9) rfl dX10_write_21 ?_
  refine lv_iconst (v := 1) hx hb dX10_write_24 (by decide) ?_
  refine lv_iadd hx hb dX10_write_25 ?_
  refine ow_i (y := 148) (by decide) ?_
  refine va_put (D := D) (ci := 10) (v := .int 148) (ty := .int) (C := RX10) (T := TX10) (N := 44) hx hb hts inlX10 tyX10 tyX10_ok nmX10 hown hK hP hD hS 0 rfl rfl 19 (by decide) (hts _ k_298) (fun _ h9 => h9) rfl (tyX10_ok 19 (by decide)) rfl rfl (Nat.le_of_ble_eq_true rfl) dX10_write_26 (fun H locs hP hD hS => ?_)
  have hP : va_P D vwCl [(h0, .inr (10, (.int v1 :: .int v2 :: .ref h2 :: .ref h3 :: .ref h4 :: .ref h5 :: .ref h6 :: .ref h7 :: .ref h8 :: .ref h9 :: .ref h10 :: .ref h1 :: .int v3 :: .ref h11 :: .ref h12 :: .ref h13 :: .ref h14 :: .int v4 :: .int v5 :: .int 148 :: .ref h15 :: .ref h16 :: .ref h17 :: .int v6 :: .ref h18 :: .int v7 :: .ref h19 :: .ref h20 :: .int v8 :: .ref h21 :: .ref h22 :: .int v9 :: .int v10 :: .int v11 :: .int v12 :: .int v13 :: .int v14 :: .int v15 :: .int v16 :: .ref h23 :: .long v17 :: .long v18 :: .long v19 :: .long v20 :: []))), (h1, .inl (G.1, 60, .inl v21)), (h14, .inl (G.1, 1336, .inl f635))] H := hP
  have hD : va_D A [(h0, .inr (10, (.int v1 :: .int v2 :: .ref h2 :: .ref h3 :: .ref h4 :: .ref h5 :: .ref h6 :: .ref h7 :: .ref h8 :: .ref h9 :: .ref h10 :: .ref h1 :: .int v3 :: .ref h11 :: .ref h12 :: .ref h13 :: .ref h14 :: .int v4 :: .int v5 :: .int 148 :: .ref h15 :: .ref h16 :: .ref h17 :: .int v6 :: .ref h18 :: .int v7 :: .ref h19 :: .ref h20 :: .int v8 :: .ref h21 :: .ref h22 :: .int v9 :: .int v10 :: .int v11 :: .int v12 :: .int v13 :: .int v14 :: .int v15 :: .int v16 :: .ref h23 :: .long v17 :: .long v18 :: .long v19 :: .long v20 :: []))), (h1, .inl (G.1, 60, .inl v21)), (h14, .inl (G.1, 1336, .inl f635))] := hD
  refine lv_iinc (v := 56) (lv' := [(3, .int 56), (0, .ref h0), (1, .ref h1), (2, .int 60)]) hx hb dX10_write_29 hl (k := 0) rfl (by decide) (by decide) rfl (fun ls hl => ?_)
  refine lv_goto (tgt := 2) hx hb dX10_write_32 (by decide) ?_
  refine lv_iload_n hx hb dX10_write_2 rfl (lv_at hl 0 rfl) ?_
  refine lv_iload_n hx hb dX10_write_3 rfl (lv_at hl 3 rfl) ?_
  refine lv_icmp_ge (tgt := 35) hx hb dX10_write_4 (by decide) (fun h9 => absurd h9 (by decide)) (fun _ => ?_)
  refine lv_aload_n hx hb dX10_write_7 rfl (lv_at hl 1 rfl) ?_
  refine va_get (D := D) (ci := 10) (v := .ref h14) (C := RX10) (T := TX10) (N := 44) hx hb hts inlX10 hown hK hP 0 rfl rfl 16 (by decide) (hts _ k_105) (fun _ h9 => h9) rfl dX10_write_8 ?_
  refine lv_aload_n hx hb dX10_write_11 rfl (lv_at hl 1 rfl) ?_
  refine va_get (D := D) (ci := 10) (v := .int 148) (C := RX10) (T := TX10) (N := 44) hx hb hts inlX10 hown hK hP 0 rfl rfl 19 (by decide) (hts _ k_298) (fun _ h9 => h9) rfl dX10_write_12 ?_
  refine lv_aload_n hx hb dX10_write_15 rfl (lv_at hl 2 rfl) ?_
  refine lv_iload_n hx hb dX10_write_16 rfl (lv_at hl 0 rfl) ?_
  refine va_iald hx hb hK hP 1 0 rfl rfl (show ¬ ((56 : Int32) < 0 ∨ 60 ≤ (56 : Int32).toNatClampNeg) by decide) dX10_write_17 ?_
  refine lv_topi (fun x636 _ => ?_)
  refine va_iast hx hb hK hP hD hS 2 0 rfl rfl (show ¬ ((148 : Int32) < 0 ∨ 1336 ≤ (148 : Int32).toNatClampNeg) by decide) dX10_write_18 (fun H locs hP hD hS => ?_)
  obtain ⟨f637, hP, hD⟩ : ∃ f637, va_P D vwCl [(h0, .inr (10, (.int v1 :: .int v2 :: .ref h2 :: .ref h3 :: .ref h4 :: .ref h5 :: .ref h6 :: .ref h7 :: .ref h8 :: .ref h9 :: .ref h10 :: .ref h1 :: .int v3 :: .ref h11 :: .ref h12 :: .ref h13 :: .ref h14 :: .int v4 :: .int v5 :: .int 148 :: .ref h15 :: .ref h16 :: .ref h17 :: .int v6 :: .ref h18 :: .int v7 :: .ref h19 :: .ref h20 :: .int v8 :: .ref h21 :: .ref h22 :: .int v9 :: .int v10 :: .int v11 :: .int v12 :: .int v13 :: .int v14 :: .int v15 :: .int v16 :: .ref h23 :: .long v17 :: .long v18 :: .long v19 :: .long v20 :: []))), (h1, .inl (G.1, 60, .inl v21)), (h14, .inl (G.1, 1336, .inl f637))] H ∧ va_D A [(h0, .inr (10, (.int v1 :: .int v2 :: .ref h2 :: .ref h3 :: .ref h4 :: .ref h5 :: .ref h6 :: .ref h7 :: .ref h8 :: .ref h9 :: .ref h10 :: .ref h1 :: .int v3 :: .ref h11 :: .ref h12 :: .ref h13 :: .ref h14 :: .int v4 :: .int v5 :: .int 148 :: .ref h15 :: .ref h16 :: .ref h17 :: .int v6 :: .ref h18 :: .int v7 :: .ref h19 :: .ref h20 :: .int v8 :: .ref h21 :: .ref h22 :: .int v9 :: .int v10 :: .int v11 :: .int v12 :: .int v13 :: .int v14 :: .int v15 :: .int v16 :: .ref h23 :: .long v17 :: .long v18 :: .long v19 :: .long v20 :: []))), (h1, .inl (G.1, 60, .inl v21)), (h14, .inl (G.1, 1336, .inl f637))] := ⟨_, hP, hD⟩
  refine lv_aload_n hx hb dX10_write_19 rfl (lv_at hl 1 rfl) ?_
  refine lv_dup hx hb dX10_write_20 rfl ?_
  refine va_get (D := D) (ci := 10) (v := .int 148) (C := RX10) (T := TX10) (N := 44) hx hb hts inlX10 hown hK hP 0 rfl rfl 19 (by decide) (hts _ k_298) (fun _ h9 => h9) rfl dX10_write_21 ?_
  refine lv_iconst (v := 1) hx hb dX10_write_24 (by decide) ?_
  refine lv_iadd hx hb dX10_write_25 ?_
  refine ow_i (y := 149) (by decide) ?_
  refine va_put (D := D) (ci := 10) (v := .int 149) (ty := .int) (C := RX10) (T := TX10) (N := 44) hx hb hts inlX10 tyX10 tyX10_ok nmX10 hown hK hP hD hS 0 rfl rfl 19 (by decide) (hts _ k_298) (fun _ h9 => h9) rfl (tyX10_ok 19 (by decide)) rfl rfl (Nat.le_of_ble_eq_true rfl) dX10_write_26 (fun H locs hP hD hS => ?_)
  have hP : va_P D vwCl [(h0, .inr (10, (.int v1 :: .int v2 :: .ref h2 :: .ref h3 :: .ref h4 :: .ref h5 :: .ref h6 :: .ref h7 :: .ref h8 :: .ref h9 :: .ref h10 :: .ref h1 :: .int v3 :: .ref h11 :: .ref h12 :: .ref h13 :: .ref h14 :: .int v4 :: .int v5 :: .int 149 :: .ref h15 :: .ref h16 :: .ref h17 :: .int v6 :: .ref h18 :: .int v7 :: .ref h19 :: .ref h20 :: .int v8 :: .ref h21 :: .ref h22 :: .int v9 :: .int v10 :: .int v11 :: .int v12 :: .int v13 :: .int v14 :: .int v15 :: .int v16 :: .ref h23 :: .long v17 :: .long v18 :: .long v19 :: .long v20 :: []))), (h1, .inl (G.1, 60, .inl v21)), (h14, .inl (G.1, 1336, .inl f637))] H := hP
  have hD : va_D A [(h0, .inr (10, (.int v1 :: .int v2 :: .ref h2 :: .ref h3 :: .ref h4 :: .ref h5 :: .ref h6 :: .ref h7 :: .ref h8 :: .ref h9 :: .ref h10 :: .ref h1 :: .int v3 :: .ref h11 :: .ref h12 :: .ref h13 :: .ref h14 :: .int v4 :: .int v5 :: .int 149 :: .ref h15 :: .ref h16 :: .ref h17 :: .int v6 :: .ref h18 :: .int v7 :: .ref h19 :: .ref h20 :: .int v8 :: .ref h21 :: .ref h22 :: .int v9 :: .int v10 :: .int v11 :: .int v12 :: .int v13 :: .int v14 :: .int v15 :: .int v16 :: .ref h23 :: .long v17 :: .long v18 :: .long v19 :: .long v20 :: []))), (h1, .inl (G.1, 60, .inl v21)), (h14, .inl (G.1, 1336, .inl f637))] := hD
  refine lv_iinc (v := 57) (lv' := [(3, .int 57), (0, .ref h0), (1, .ref h1), (2, .int 60)]) hx hb dX10_write_29 hl (k := 0) rfl (by decide) (by decide) rfl (fun ls hl => ?_)
  refine lv_goto (tgt := 2) hx hb dX10_write_32 (by decide) ?_
  refine lv_iload_n hx hb dX10_write_2 rfl (lv_at hl 0 rfl) ?_
  refine lv_iload_n hx hb dX10_write_3 rfl (lv_at hl 3 rfl) ?_
  refine lv_icmp_ge (tgt := 35) hx hb dX10_write_4 (by decide) (fun h9 => absurd h9 (by decide)) (fun _ => ?_)
  refine lv_aload_n hx hb dX10_write_7 rfl (lv_at hl 1 rfl) ?_
  refine va_get (D := D) (ci := 10) (v := .ref h14) (C := RX10) (T := TX10) (N := 44) hx hb hts inlX10 hown hK hP 0 rfl rfl 16 (by decide) (hts _ k_105) (fun _ h9 => h9) rfl dX10_write_8 ?_
  refine lv_aload_n hx hb dX10_write_11 rfl (lv_at hl 1 rfl) ?_
  refine va_get (D := D) (ci := 10) (v := .int 149) (C := RX10) (T := TX10) (N := 44) hx hb hts inlX10 hown hK hP 0 rfl rfl 19 (by decide) (hts _ k_298) (fun _ h9 => h9) rfl dX10_write_12 ?_
  refine lv_aload_n hx hb dX10_write_15 rfl (lv_at hl 2 rfl) ?_
  refine lv_iload_n hx hb dX10_write_16 rfl (lv_at hl 0 rfl) ?_
  refine va_iald hx hb hK hP 1 0 rfl rfl (show ¬ ((57 : Int32) < 0 ∨ 60 ≤ (57 : Int32).toNatClampNeg) by decide) dX10_write_17 ?_
  refine lv_topi (fun x638 _ => ?_)
  refine va_iast hx hb hK hP hD hS 2 0 rfl rfl (show ¬ ((149 : Int32) < 0 ∨ 1336 ≤ (149 : Int32).toNatClampNeg) by decide) dX10_write_18 (fun H locs hP hD hS => ?_)
  obtain ⟨f639, hP, hD⟩ : ∃ f639, va_P D vwCl [(h0, .inr (10, (.int v1 :: .int v2 :: .ref h2 :: .ref h3 :: .ref h4 :: .ref h5 :: .ref h6 :: .ref h7 :: .ref h8 :: .ref h9 :: .ref h10 :: .ref h1 :: .int v3 :: .ref h11 :: .ref h12 :: .ref h13 :: .ref h14 :: .int v4 :: .int v5 :: .int 149 :: .ref h15 :: .ref h16 :: .ref h17 :: .int v6 :: .ref h18 :: .int v7 :: .ref h19 :: .ref h20 :: .int v8 :: .ref h21 :: .ref h22 :: .int v9 :: .int v10 :: .int v11 :: .int v12 :: .int v13 :: .int v14 :: .int v15 :: .int v16 :: .ref h23 :: .long v17 :: .long v18 :: .long v19 :: .long v20 :: []))), (h1, .inl (G.1, 60, .inl v21)), (h14, .inl (G.1, 1336, .inl f639))] H ∧ va_D A [(h0, .inr (10, (.int v1 :: .int v2 :: .ref h2 :: .ref h3 :: .ref h4 :: .ref h5 :: .ref h6 :: .ref h7 :: .ref h8 :: .ref h9 :: .ref h10 :: .ref h1 :: .int v3 :: .ref h11 :: .ref h12 :: .ref h13 :: .ref h14 :: .int v4 :: .int v5 :: .int 149 :: .ref h15 :: .ref h16 :: .ref h17 :: .int v6 :: .ref h18 :: .int v7 :: .ref h19 :: .ref h20 :: .int v8 :: .ref h21 :: .ref h22 :: .int v9 :: .int v10 :: .int v11 :: .int v12 :: .int v13 :: .int v14 :: .int v15 :: .int v16 :: .ref h23 :: .long v17 :: .long v18 :: .long v19 :: .long v20 :: []))), (h1, .inl (G.1, 60, .inl v21)), (h14, .inl (G.1, 1336, .inl f639))] := ⟨_, hP, hD⟩
  refine lv_aload_n hx hb dX10_write_19 rfl (lv_at hl 1 rfl) ?_
  refine lv_dup hx hb dX10_write_20 rfl ?_
  refine va_get (D := D) (ci := 10) (v := .int 149) (C := RX10) (T := TX10) (N := 44) hx hb hts inlX10 hown hK hP 0 rfl rfl 19 (by decide) (hts _ k_298) (fun _ h9 => h9) rfl dX10_write_21 ?_
  refine lv_iconst (v := 1) hx hb dX10_write_24 (by decide) ?_
  refine lv_iadd hx hb dX10_write_25 ?_
  refine ow_i (y := 150) (by decide) ?_
  refine va_put (D := D) (ci := 10) (v := .int 150) (ty := .int) (C := RX10) (T := TX10) (N := 44) hx hb hts inlX10 tyX10 tyX10_ok nmX10 hown hK hP hD hS 0 rfl rfl 19 (by decide) (hts _ k_298) (fun _ h9 => h9) rfl (tyX10_ok 19 (by decide)) rfl rfl (Nat.le_of_ble_eq_true rfl) dX10_write_26 (fun H locs hP hD hS => ?_)
  have hP : va_P D vwCl [(h0, .inr (10, (.int v1 :: .int v2 :: .ref h2 :: .ref h3 :: .ref h4 :: .ref h5 :: .ref h6 :: .ref h7 :: .ref h8 :: .ref h9 :: .ref h10 :: .ref h1 :: .int v3 :: .ref h11 :: .ref h12 :: .ref h13 :: .ref h14 :: .int v4 :: .int v5 :: .int 150 :: .ref h15 :: .ref h16 :: .ref h17 :: .int v6 :: .ref h18 :: .int v7 :: .ref h19 :: .ref h20 :: .int v8 :: .ref h21 :: .ref h22 :: .int v9 :: .int v10 :: .int v11 :: .int v12 :: .int v13 :: .int v14 :: .int v15 :: .int v16 :: .ref h23 :: .long v17 :: .long v18 :: .long v19 :: .long v20 :: []))), (h1, .inl (G.1, 60, .inl v21)), (h14, .inl (G.1, 1336, .inl f639))] H := hP
  have hD : va_D A [(h0, .inr (10, (.int v1 :: .int v2 :: .ref h2 :: .ref h3 :: .ref h4 :: .ref h5 :: .ref h6 :: .ref h7 :: .ref h8 :: .ref h9 :: .ref h10 :: .ref h1 :: .int v3 :: .ref h11 :: .ref h12 :: .ref h13 :: .ref h14 :: .int v4 :: .int v5 :: .int 150 :: .ref h15 :: .ref h16 :: .ref h17 :: .int v6 :: .ref h18 :: .int v7 :: .ref h19 :: .ref h20 :: .int v8 :: .ref h21 :: .ref h22 :: .int v9 :: .int v10 :: .int v11 :: .int v12 :: .int v13 :: .int v14 :: .int v15 :: .int v16 :: .ref h23 :: .long v17 :: .long v18 :: .long v19 :: .long v20 :: []))), (h1, .inl (G.1, 60, .inl v21)), (h14, .inl (G.1, 1336, .inl f639))] := hD
  refine lv_iinc (v := 58) (lv' := [(3, .int 58), (0, .ref h0), (1, .ref h1), (2, .int 60)]) hx hb dX10_write_29 hl (k := 0) rfl (by decide) (by decide) rfl (fun ls hl => ?_)
  refine lv_goto (tgt := 2) hx hb dX10_write_32 (by decide) ?_
  refine lv_iload_n hx hb dX10_write_2 rfl (lv_at hl 0 rfl) ?_
  refine lv_iload_n hx hb dX10_write_3 rfl (lv_at hl 3 rfl) ?_
  refine lv_icmp_ge (tgt := 35) hx hb dX10_write_4 (by decide) (fun h9 => absurd h9 (by decide)) (fun _ => ?_)
  refine lv_aload_n hx hb dX10_write_7 rfl (lv_at hl 1 rfl) ?_
  refine va_get (D := D) (ci := 10) (v := .ref h14) (C := RX10) (T := TX10) (N := 44) hx hb hts inlX10 hown hK hP 0 rfl rfl 16 (by decide) (hts _ k_105) (fun _ h9 => h9) rfl dX10_write_8 ?_
  refine lv_aload_n hx hb dX10_write_11 rfl (lv_at hl 1 rfl) ?_
  refine va_get (D := D) (ci := 10) (v := .int 150) (C := RX10) (T := TX10) (N := 44) hx hb hts inlX10 hown hK hP 0 rfl rfl 19 (by decide) (hts _ k_298) (fun _ h9 => h9) rfl dX10_write_12 ?_
  refine lv_aload_n hx hb dX10_write_15 rfl (lv_at hl 2 rfl) ?_
  refine lv_iload_n hx hb dX10_write_16 rfl (lv_at hl 0 rfl) ?_
  refine va_iald hx hb hK hP 1 0 rfl rfl (show ¬ ((58 : Int32) < 0 ∨ 60 ≤ (58 : Int32).toNatClampNeg) by decide) dX10_write_17 ?_
  refine lv_topi (fun x640 _ => ?_)
  refine va_iast hx hb hK hP hD hS 2 0 rfl rfl (show ¬ ((150 : Int32) < 0 ∨ 1336 ≤ (150 : Int32).toNatClampNeg) by decide) dX10_write_18 (fun H locs hP hD hS => ?_)
  obtain ⟨f641, hP, hD⟩ : ∃ f641, va_P D vwCl [(h0, .inr (10, (.int v1 :: .int v2 :: .ref h2 :: .ref h3 :: .ref h4 :: .ref h5 :: .ref h6 :: .ref h7 :: .ref h8 :: .ref h9 :: .ref h10 :: .ref h1 :: .int v3 :: .ref h11 :: .ref h12 :: .ref h13 :: .ref h14 :: .int v4 :: .int v5 :: .int 150 :: .ref h15 :: .ref h16 :: .ref h17 :: .int v6 :: .ref h18 :: .int v7 :: .ref h19 :: .ref h20 :: .int v8 :: .ref h21 :: .ref h22 :: .int v9 :: .int v10 :: .int v11 :: .int v12 :: .int v13 :: .int v14 :: .int v15 :: .int v16 :: .ref h23 :: .long v17 :: .long v18 :: .long v19 :: .long v20 :: []))), (h1, .inl (G.1, 60, .inl v21)), (h14, .inl (G.1, 1336, .inl f641))] H ∧ va_D A [(h0, .inr (10, (.int v1 :: .int v2 :: .ref h2 :: .ref h3 :: .ref h4 :: .ref h5 :: .ref h6 :: .ref h7 :: .ref h8 :: .ref h9 :: .ref h10 :: .ref h1 :: .int v3 :: .ref h11 :: .ref h12 :: .ref h13 :: .ref h14 :: .int v4 :: .int v5 :: .int 150 :: .ref h15 :: .ref h16 :: .ref h17 :: .int v6 :: .ref h18 :: .int v7 :: .ref h19 :: .ref h20 :: .int v8 :: .ref h21 :: .ref h22 :: .int v9 :: .int v10 :: .int v11 :: .int v12 :: .int v13 :: .int v14 :: .int v15 :: .int v16 :: .ref h23 :: .long v17 :: .long v18 :: .long v19 :: .long v20 :: []))), (h1, .inl (G.1, 60, .inl v21)), (h14, .inl (G.1, 1336, .inl f641))] := ⟨_, hP, hD⟩
  refine lv_aload_n hx hb dX10_write_19 rfl (lv_at hl 1 rfl) ?_
  refine lv_dup hx hb dX10_write_20 rfl ?_
  refine va_get (D := D) (ci := 10) (v := .int 150) (C := RX10) (T := TX10) (N := 44) hx hb hts inlX10 hown hK hP 0 rfl rfl 19 (by decide) (hts _ k_298) (fun _ h9 => h9) rfl dX10_write_21 ?_
  refine lv_iconst (v := 1) hx hb dX10_write_24 (by decide) ?_
  refine lv_iadd hx hb dX10_write_25 ?_
  refine ow_i (y := 151) (by decide) ?_
  refine va_put (D := D) (ci := 10) (v := .int 151) (ty := .int) (C := RX10) (T := TX10) (N := 44) hx hb hts inlX10 tyX10 tyX10_ok nmX10 hown hK hP hD hS 0 rfl rfl 19 (by decide) (hts _ k_298) (fun _ h9 => h9) rfl (tyX10_ok 19 (by decide)) rfl rfl (Nat.le_of_ble_eq_true rfl) dX10_write_26 (fun H locs hP hD hS => ?_)
  have hP : va_P D vwCl [(h0, .inr (10, (.int v1 :: .int v2 :: .ref h2 :: .ref h3 :: .ref h4 :: .ref h5 :: .ref h6 :: .ref h7 :: .ref h8 :: .ref h9 :: .ref h10 :: .ref h1 :: .int v3 :: .ref h11 :: .ref h12 :: .ref h13 :: .ref h14 :: .int v4 :: .int v5 :: .int 151 :: .ref h15 :: .ref h16 :: .ref h17 :: .int v6 :: .ref h18 :: .int v7 :: .ref h19 :: .ref h20 :: .int v8 :: .ref h21 :: .ref h22 :: .int v9 :: .int v10 :: .int v11 :: .int v12 :: .int v13 :: .int v14 :: .int v15 :: .int v16 :: .ref h23 :: .long v17 :: .long v18 :: .long v19 :: .long v20 :: []))), (h1, .inl (G.1, 60, .inl v21)), (h14, .inl (G.1, 1336, .inl f641))] H := hP
  have hD : va_D A [(h0, .inr (10, (.int v1 :: .int v2 :: .ref h2 :: .ref h3 :: .ref h4 :: .ref h5 :: .ref h6 :: .ref h7 :: .ref h8 :: .ref h9 :: .ref h10 :: .ref h1 :: .int v3 :: .ref h11 :: .ref h12 :: .ref h13 :: .ref h14 :: .int v4 :: .int v5 :: .int 151 :: .ref h15 :: .ref h16 :: .ref h17 :: .int v6 :: .ref h18 :: .int v7 :: .ref h19 :: .ref h20 :: .int v8 :: .ref h21 :: .ref h22 :: .int v9 :: .int v10 :: .int v11 :: .int v12 :: .int v13 :: .int v14 :: .int v15 :: .int v16 :: .ref h23 :: .long v17 :: .long v18 :: .long v19 :: .long v20 :: []))), (h1, .inl (G.1, 60, .inl v21)), (h14, .inl (G.1, 1336, .inl f641))] := hD
  refine lv_iinc (v := 59) (lv' := [(3, .int 59), (0, .ref h0), (1, .ref h1), (2, .int 60)]) hx hb dX10_write_29 hl (k := 0) rfl (by decide) (by decide) rfl (fun ls hl => ?_)
  refine lv_goto (tgt := 2) hx hb dX10_write_32 (by decide) ?_
  refine lv_iload_n hx hb dX10_write_2 rfl (lv_at hl 0 rfl) ?_
  refine lv_iload_n hx hb dX10_write_3 rfl (lv_at hl 3 rfl) ?_
  refine lv_icmp_ge (tgt := 35) hx hb dX10_write_4 (by decide) (fun h9 => absurd h9 (by decide)) (fun _ => ?_)
  refine lv_aload_n hx hb dX10_write_7 rfl (lv_at hl 1 rfl) ?_
  refine va_get (D := D) (ci := 10) (v := .ref h14) (C := RX10) (T := TX10) (N := 44) hx hb hts inlX10 hown hK hP 0 rfl rfl 16 (by decide) (hts _ k_105) (fun _ h9 => h9) rfl dX10_write_8 ?_
  refine lv_aload_n hx hb dX10_write_11 rfl (lv_at hl 1 rfl) ?_
  refine va_get (D := D) (ci := 10) (v := .int 151) (C := RX10) (T := TX10) (N := 44) hx hb hts inlX10 hown hK hP 0 rfl rfl 19 (by decide) (hts _ k_298) (fun _ h9 => h9) rfl dX10_write_12 ?_
  refine lv_aload_n hx hb dX10_write_15 rfl (lv_at hl 2 rfl) ?_
  refine lv_iload_n hx hb dX10_write_16 rfl (lv_at hl 0 rfl) ?_
  refine va_iald hx hb hK hP 1 0 rfl rfl (show ¬ ((59 : Int32) < 0 ∨ 60 ≤ (59 : Int32).toNatClampNeg) by decide) dX10_write_17 ?_
  refine lv_topi (fun x642 _ => ?_)
  refine va_iast hx hb hK hP hD hS 2 0 rfl rfl (show ¬ ((151 : Int32) < 0 ∨ 1336 ≤ (151 : Int32).toNatClampNeg) by decide) dX10_write_18 (fun H locs hP hD hS => ?_)
  obtain ⟨f643, hP, hD⟩ : ∃ f643, va_P D vwCl [(h0, .inr (10, (.int v1 :: .int v2 :: .ref h2 :: .ref h3 :: .ref h4 :: .ref h5 :: .ref h6 :: .ref h7 :: .ref h8 :: .ref h9 :: .ref h10 :: .ref h1 :: .int v3 :: .ref h11 :: .ref h12 :: .ref h13 :: .ref h14 :: .int v4 :: .int v5 :: .int 151 :: .ref h15 :: .ref h16 :: .ref h17 :: .int v6 :: .ref h18 :: .int v7 :: .ref h19 :: .ref h20 :: .int v8 :: .ref h21 :: .ref h22 :: .int v9 :: .int v10 :: .int v11 :: .int v12 :: .int v13 :: .int v14 :: .int v15 :: .int v16 :: .ref h23 :: .long v17 :: .long v18 :: .long v19 :: .long v20 :: []))), (h1, .inl (G.1, 60, .inl v21)), (h14, .inl (G.1, 1336, .inl f643))] H ∧ va_D A [(h0, .inr (10, (.int v1 :: .int v2 :: .ref h2 :: .ref h3 :: .ref h4 :: .ref h5 :: .ref h6 :: .ref h7 :: .ref h8 :: .ref h9 :: .ref h10 :: .ref h1 :: .int v3 :: .ref h11 :: .ref h12 :: .ref h13 :: .ref h14 :: .int v4 :: .int v5 :: .int 151 :: .ref h15 :: .ref h16 :: .ref h17 :: .int v6 :: .ref h18 :: .int v7 :: .ref h19 :: .ref h20 :: .int v8 :: .ref h21 :: .ref h22 :: .int v9 :: .int v10 :: .int v11 :: .int v12 :: .int v13 :: .int v14 :: .int v15 :: .int v16 :: .ref h23 :: .long v17 :: .long v18 :: .long v19 :: .long v20 :: []))), (h1, .inl (G.1, 60, .inl v21)), (h14, .inl (G.1, 1336, .inl f643))] := ⟨_, hP, hD⟩
  refine lv_aload_n hx hb dX10_write_19 rfl (lv_at hl 1 rfl) ?_
  refine lv_dup hx hb dX10_write_20 rfl ?_
  refine va_get (D := D) (ci := 10) (v := .int 151) (C := RX10) (T := TX10) (N := 44) hx hb hts inlX10 hown hK hP 0 rfl rfl 19 (by decide) (hts _ k_298) (fun _ h9 => h9) rfl dX10_write_21 ?_
  refine lv_iconst (v := 1) hx hb dX10_write_24 (by decide) ?_
  refine lv_iadd hx hb dX10_write_25 ?_
  refine ow_i (y := 152) (by decide) ?_
  refine va_put (D := D) (ci := 10) (v := .int 152) (ty := .int) (C := RX10) (T := TX10) (N := 44) hx hb hts inlX10 tyX10 tyX10_ok nmX10 hown hK hP hD hS 0 rfl rfl 19 (by decide) (hts _ k_298) (fun _ h9 => h9) rfl (tyX10_ok 19 (by decide)) rfl rfl (Nat.le_of_ble_eq_true rfl) dX10_write_26 (fun H locs hP hD hS => ?_)
  have hP : va_P D vwCl [(h0, .inr (10, (.int v1 :: .int v2 :: .ref h2 :: .ref h3 :: .ref h4 :: .ref h5 :: .ref h6 :: .ref h7 :: .ref h8 :: .ref h9 :: .ref h10 :: .ref h1 :: .int v3 :: .ref h11 :: .ref h12 :: .ref h13 :: .ref h14 :: .int v4 :: .int v5 :: .int 152 :: .ref h15 :: .ref h16 :: .ref h17 :: .int v6 :: .ref h18 :: .int v7 :: .ref h19 :: .ref h20 :: .int v8 :: .ref h21 :: .ref h22 :: .int v9 :: .int v10 :: .int v11 :: .int v12 :: .int v13 :: .int v14 :: .int v15 :: .int v16 :: .ref h23 :: .long v17 :: .long v18 :: .long v19 :: .long v20 :: []))), (h1, .inl (G.1, 60, .inl v21)), (h14, .inl (G.1, 1336, .inl f643))] H := hP
  have hD : va_D A [(h0, .inr (10, (.int v1 :: .int v2 :: .ref h2 :: .ref h3 :: .ref h4 :: .ref h5 :: .ref h6 :: .ref h7 :: .ref h8 :: .ref h9 :: .ref h10 :: .ref h1 :: .int v3 :: .ref h11 :: .ref h12 :: .ref h13 :: .ref h14 :: .int v4 :: .int v5 :: .int 152 :: .ref h15 :: .ref h16 :: .ref h17 :: .int v6 :: .ref h18 :: .int v7 :: .ref h19 :: .ref h20 :: .int v8 :: .ref h21 :: .ref h22 :: .int v9 :: .int v10 :: .int v11 :: .int v12 :: .int v13 :: .int v14 :: .int v15 :: .int v16 :: .ref h23 :: .long v17 :: .long v18 :: .long v19 :: .long v20 :: []))), (h1, .inl (G.1, 60, .inl v21)), (h14, .inl (G.1, 1336, .inl f643))] := hD
  refine lv_iinc (v := 60) (lv' := [(3, .int 60), (0, .ref h0), (1, .ref h1), (2, .int 60)]) hx hb dX10_write_29 hl (k := 0) rfl (by decide) (by decide) rfl (fun ls hl => ?_)
  refine lv_goto (tgt := 2) hx hb dX10_write_32 (by decide) ?_
  refine lv_iload_n hx hb dX10_write_2 rfl (lv_at hl 0 rfl) ?_
  refine lv_iload_n hx hb dX10_write_3 rfl (lv_at hl 3 rfl) ?_
  refine lv_icmp_ge (tgt := 35) hx hb dX10_write_4 (by decide) (fun _ => ?_) (fun h9 => absurd h9 (by decide))
  exact ow_vret (u := [(h0, .inr (10, (.int v1 :: .int v2 :: .ref h2 :: .ref h3 :: .ref h4 :: .ref h5 :: .ref h6 :: .ref h7 :: .ref h8 :: .ref h9 :: .ref h10 :: .ref h1 :: .int v3 :: .ref h11 :: .ref h12 :: .ref h13 :: .ref h14 :: .int v4 :: .int v5 :: .int 152 :: .ref h15 :: .ref h16 :: .ref h17 :: .int v6 :: .ref h18 :: .int v7 :: .ref h19 :: .ref h20 :: .int v8 :: .ref h21 :: .ref h22 :: .int v9 :: .int v10 :: .int v11 :: .int v12 :: .int v13 :: .int v14 :: .int v15 :: .int v16 :: .ref h23 :: .long v17 :: .long v18 :: .long v19 :: .long v20 :: []))), (h1, .inl (G.1, 60, .inl v21)), (h14, .inl (G.1, 1336, .inl f643))]) hx hb hr hlocks hP hD hS [0, 1, 2] (by decide) rfl dX10_write_35 ⟨trivial, f643, rfl⟩
