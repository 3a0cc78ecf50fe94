set_option maxHeartbeats 4000000 in
set_option maxRecDepth 100000 in
theorem c_X10_write_2 (l : Launch) (D : va_G) (G : ow_C) (h0 : Nat) (h1 : Nat) (v1 : Int32) (v2 : Int32) (h2 : Nat) (h3 : Nat) (h4 : Nat) (h5 : Nat) (h6 : Nat) (h7 : Nat) (h8 : Nat) (h9 : Nat) (h10 : Nat) (v3 : Int32) (h11 : Nat) (h12 : Nat) (h13 : Nat) (h14 : Nat) (v4 : Int32) (v5 : Int32) (h15 : Nat) (h16 : Nat) (h17 : Nat) (v6 : Int32) (h18 : Nat) (v7 : Int32) (h19 : Nat) (h20 : Nat) (v8 : Int32) (h21 : Nat) (h22 : Nat) (v9 : Int32) (v10 : Int32) (v11 : Int32) (v12 : Int32) (v13 : Int32) (v14 : Int32) (v15 : Int32) (v16 : Int32) (h23 : Nat) (v17 : Int64) (v18 : Int64) (v19 : Int64) (v20 : Int64) (v21 : Nat → Int32) (v22 : Nat → Int32) : ow_M l D G yX10_write cX10_write 4 none ({ frames := 1, cells := 0, slots := 0, locals := 64 } : Room) [.ref h0, .ref h1, .int 10] [(h0, .inr (10, [.int v1, .int v2, .ref h2, .ref h3, .ref h1, .ref h4, .ref h5, .ref h6, .ref h7, .ref h8, .ref h9, .ref h10, .int v3, .ref h11, .ref h12, .ref h13, .ref h14, .int v4, .int v5, .int 22, .ref h15, .ref h16, .ref h17, .int v6, .ref h18, .int v7, .ref h19, .ref h20, .int v8, .ref h21, .ref h22, .int v9, .int v10, .int v11, .int v12, .int v13, .int v14, .int v15, .int v16, .ref h23, .long v17, .long v18, .long v19, .long v20])), (h1, .inl (G.1, 10, .inl v21)), (h14, .inl (G.1, 1336, .inl v22))] (ow_V D (fun u => (True ∧ (∃ e0 : Nat → Int32, u = [(h0, .inr (10, [.int v1, .int v2, .ref h2, .ref h3, .ref h1, .ref h4, .ref h5, .ref h6, .ref h7, .ref h8, .ref h9, .ref h10, .int v3, .ref h11, .ref h12, .ref h13, .ref h14, .int v4, .int v5, .int 32, .ref h15, .ref h16, .ref h17, .int v6, .ref h18, .int v7, .ref h19, .ref h20, .int v8, .ref h21, .ref h22, .int v9, .int v10, .int v11, .int v12, .int v13, .int v14, .int v15, .int v16, .ref h23, .long v17, .long v18, .long v19, .long v20])), (h1, .inl (G.1, 10, .inl v21)), (h14, .inl (G.1, 1336, .inl e0))])))) 0 0 := by
  refine ow_met (by decide) (Nat.le_of_ble_eq_true rfl) ?_
  intro p e s m args below meth c A ls hE hl
  obtain ⟨hx, hb, hr, hml, hown, hlocks, hnm, hts, hN, hK, hP, hD, hA, hS⟩ := hE
  have hown : s.vm.findClass RX10 = some m.cls := hown
  have hP : va_P D vwCl [(h0, .inr (10, [.int v1, .int v2, .ref h2, .ref h3, .ref h1, .ref h4, .ref h5, .ref h6, .ref h7, .ref h8, .ref h9, .ref h10, .int v3, .ref h11, .ref h12, .ref h13, .ref h14, .int v4, .int v5, .int 22, .ref h15, .ref h16, .ref h17, .int v6, .ref h18, .int v7, .ref h19, .ref h20, .int v8, .ref h21, .ref h22, .int v9, .int v10, .int v11, .int v12, .int v13, .int v14, .int v15, .int v16, .ref h23, .long v17, .long v18, .long v19, .long v20])), (h1, .inl (G.1, 10, .inl v21)), (h14, .inl (G.1, 1336, .inl v22))] s.heap := hP
  have hD : va_D A [(h0, .inr (10, [.int v1, .int v2, .ref h2, .ref h3, .ref h1, .ref h4, .ref h5, .ref h6, .ref h7, .ref h8, .ref h9, .ref h10, .int v3, .ref h11, .ref h12, .ref h13, .ref h14, .int v4, .int v5, .int 22, .ref h15, .ref h16, .ref h17, .int v6, .ref h18, .int v7, .ref h19, .ref h20, .int v8, .ref h21, .ref h22, .int v9, .int v10, .int v11, .int v12, .int v13, .int v14, .int v15, .int v16, .ref h23, .long v17, .long v18, .long v19, .long v20])), (h1, .inl (G.1, 10, .inl v21)), (h14, .inl (G.1, 1336, .inl v22))] := hD
  have hl : lv_has ls 4 [(0, .ref h0), (1, .ref h1), (2, .int 10)] := hl
  refine lv_iconst (v := 0) hx hb dX10_write_0 (by decide) ?_
  refine lv_istore_n (lv' := [(3, .int 0), (0, .ref h0), (1, .ref h1), (2, .int 10)]) hx hb dX10_write_1 rfl hl (by decide) rfl (fun ls hl => ?_)
  refine lv_iload_n hx hb dX10_write_2 rfl (lv_at hl 0 rfl) ?_
  refine lv_iload_n hx hb dX10_write_3 rfl (lv_at hl 3 rfl) ?_
  refine lv_icmp_ge (tgt := 35) hx hb dX10_write_4 (by decide) (fun h9 => absurd h9 (by decide)) (fun _ => ?_)
  refine lv_aload_n hx hb dX10_write_7 rfl (lv_at hl 1 rfl) ?_
  refine va_get (D := D) (ci := 10) (v := .ref h14) (C := RX10) (T := TX10) (N := 44) hx hb hts inlX10 hown hK hP 0 rfl rfl 16 (by decide) (hts _ k_105) (fun _ h9 => h9) rfl dX10_write_8 ?_
  refine lv_aload_n hx hb dX10_write_11 rfl (lv_at hl 1 rfl) ?_
  refine va_get (D := D) (ci := 10) (v := .int 22) (C := RX10) (T := TX10) (N := 44) hx hb hts inlX10 hown hK hP 0 rfl rfl 19 (by decide) (hts _ k_298) (fun _ h9 => h9) rfl dX10_write_12 ?_
  refine lv_aload_n hx hb dX10_write_15 rfl (lv_at hl 2 rfl) ?_
  refine lv_iload_n hx hb dX10_write_16 rfl (lv_at hl 0 rfl) ?_
  refine va_iald hx hb hK hP 1 0 rfl rfl (show ¬ ((0 : Int32) < 0 ∨ 10 ≤ (0 : Int32).toNatClampNeg) by decide) dX10_write_17 ?_
  refine lv_topi (fun x370 _ => ?_)
  refine va_iast hx hb hK hP hD hS 2 0 rfl rfl (show ¬ ((22 : Int32) < 0 ∨ 1336 ≤ (22 : Int32).toNatClampNeg) by decide) dX10_write_18 (fun H locs hP hD hS => ?_)
  obtain ⟨f371, hP, hD⟩ : ∃ f371, va_P D vwCl [(h0, .inr (10, [.int v1, .int v2, .ref h2, .ref h3, .ref h1, .ref h4, .ref h5, .ref h6, .ref h7, .ref h8, .ref h9, .ref h10, .int v3, .ref h11, .ref h12, .ref h13, .ref h14, .int v4, .int v5, .int 22, .ref h15, .ref h16, .ref h17, .int v6, .ref h18, .int v7, .ref h19, .ref h20, .int v8, .ref h21, .ref h22, .int v9, .int v10, .int v11, .int v12, .int v13, .int v14, .int v15, .int v16, .ref h23, .long v17, .long v18, .long v19, .long v20])), (h1, .inl (G.1, 10, .inl v21)), (h14, .inl (G.1, 1336, .inl f371))] H ∧ va_D A [(h0, .inr (10, [.int v1, .int v2, .ref h2, .ref h3, .ref h1, .ref h4, .ref h5, .ref h6, .ref h7, .ref h8, .ref h9, .ref h10, .int v3, .ref h11, .ref h12, .ref h13, .ref h14, .int v4, .int v5, .int 22, .ref h15, .ref h16, .ref h17, .int v6, .ref h18, .int v7, .ref h19, .ref h20, .int v8, .ref h21, .ref h22, .int v9, .int v10, .int v11, .int v12, .int v13, .int v14, .int v15, .int v16, .ref h23, .long v17, .long v18, .long v19, .long v20])), (h1, .inl (G.1, 10, .inl v21)), (h14, .inl (G.1, 1336, .inl f371))] := ⟨_, hP, hD⟩
  refine lv_aload_n hx hb dX10_write_19 rfl (lv_at hl 1 rfl) ?_
  refine lv_dup hx hb dX10_write_20 rfl ?_
  refine va_get (D := D) (ci := 10) (v := .int 22) (C := RX10) (T := TX10) (N := 44) hx hb hts inlX10 hown hK hP 0 rfl rfl 19 (by decide) (hts _ k_298) (fun _ h9 => h9) rfl dX10_write_21 ?_
  refine lv_iconst (v := 1) hx hb dX10_write_24 (by decide) ?_
  refine lv_iadd hx hb dX10_write_25 ?_
  refine ow_i (y := 23) (by decide) ?_
  refine va_put (D := D) (ci := 10) (v := .int 23) (ty := .int) (C := RX10) (T := TX10) (N := 44) hx hb hts inlX10 tyX10 tyX10_ok nmX10 hown hK hP hD hS 0 rfl rfl 19 (by decide) (hts _ k_298) (fun _ h9 => h9) rfl (tyX10_ok 19 (by decide)) rfl rfl (Nat.le_of_ble_eq_true rfl) dX10_write_26 (fun H locs hP hD hS => ?_)
  have hP : va_P D vwCl [(h0, .inr (10, [.int v1, .int v2, .ref h2, .ref h3, .ref h1, .ref h4, .ref h5, .ref h6, .ref h7, .ref h8, .ref h9, .ref h10, .int v3, .ref h11, .ref h12, .ref h13, .ref h14, .int v4, .int v5, .int 23, .ref h15, .ref h16, .ref h17, .int v6, .ref h18, .int v7, .ref h19, .ref h20, .int v8, .ref h21, .ref h22, .int v9, .int v10, .int v11, .int v12, .int v13, .int v14, .int v15, .int v16, .ref h23, .long v17, .long v18, .long v19, .long v20])), (h1, .inl (G.1, 10, .inl v21)), (h14, .inl (G.1, 1336, .inl f371))] H := hP
  have hD : va_D A [(h0, .inr (10, [.int v1, .int v2, .ref h2, .ref h3, .ref h1, .ref h4, .ref h5, .ref h6, .ref h7, .ref h8, .ref h9, .ref h10, .int v3, .ref h11, .ref h12, .ref h13, .ref h14, .int v4, .int v5, .int 23, .ref h15, .ref h16, .ref h17, .int v6, .ref h18, .int v7, .ref h19, .ref h20, .int v8, .ref h21, .ref h22, .int v9, .int v10, .int v11, .int v12, .int v13, .int v14, .int v15, .int v16, .ref h23, .long v17, .long v18, .long v19, .long v20])), (h1, .inl (G.1, 10, .inl v21)), (h14, .inl (G.1, 1336, .inl f371))] := hD
  refine lv_iinc (v := 1) (lv' := [(3, .int 1), (0, .ref h0), (1, .ref h1), (2, .int 10)]) hx hb dX10_write_29 hl (k := 0) rfl (by decide) (by decide) rfl (fun ls hl => ?_)
  refine lv_goto (tgt := 2) hx hb dX10_write_32 (by decide) ?_
  refine lv_iload_n hx hb dX10_write_2 rfl (lv_at hl 0 rfl) ?_
  refine lv_iload_n hx hb dX10_write_3 rfl (lv_at hl 3 rfl) ?_
  refine lv_icmp_ge (tgt := 35) hx hb dX10_write_4 (by decide) (fun h9 => absurd h9 (by decide)) (fun _ => ?_)
  refine lv_aload_n hx hb dX10_write_7 rfl (lv_at hl 1 rfl) ?_
  refine va_get (D := D) (ci := 10) (v := .ref h14) (C := RX10) (T := TX10) (N := 44) hx hb hts inlX10 hown hK hP 0 rfl rfl 16 (by decide) (hts _ k_105) (fun _ h9 => h9) rfl dX10_write_8 ?_
  refine lv_aload_n hx hb dX10_write_11 rfl (lv_at hl 1 rfl) ?_
  refine va_get (D := D) (ci := 10) (v := .int 23) (C := RX10) (T := TX10) (N := 44) hx hb hts inlX10 hown hK hP 0 rfl rfl 19 (by decide) (hts _ k_298) (fun _ h9 => h9) rfl dX10_write_12 ?_
  refine lv_aload_n hx hb dX10_write_15 rfl (lv_at hl 2 rfl) ?_
  refine lv_iload_n hx hb dX10_write_16 rfl (lv_at hl 0 rfl) ?_
  refine va_iald hx hb hK hP 1 0 rfl rfl (show ¬ ((1 : Int32) < 0 ∨ 10 ≤ (1 : Int32).toNatClampNeg) by decide) dX10_write_17 ?_
  refine lv_topi (fun x372 _ => ?_)
  refine va_iast hx hb hK hP hD hS 2 0 rfl rfl (show ¬ ((23 : Int32) < 0 ∨ 1336 ≤ (23 : Int32).toNatClampNeg) by decide) dX10_write_18 (fun H locs hP hD hS => ?_)
  obtain ⟨f373, hP, hD⟩ : ∃ f373, va_P D vwCl [(h0, .inr (10, [.int v1, .int v2, .ref h2, .ref h3, .ref h1, .ref h4, .ref h5, .ref h6, .ref h7, .ref h8, .ref h9, .ref h10, .int v3, .ref h11, .ref h12, .ref h13, .ref h14, .int v4, .int v5, .int 23, .ref h15, .ref h16, .ref h17, .int v6, .ref h18, .int v7, .ref h19, .ref h20, .int v8, .ref h21, .ref h22, .int v9, .int v10, .int v11, .int v12, .int v13, .int v14, .int v15, .int v16, .ref h23, .long v17, .long v18, .long v19, .long v20])), (h1, .inl (G.1, 10, .inl v21)), (h14, .inl (G.1, 1336, .inl f373))] H ∧ va_D A [(h0, .inr (10, [.int v1, .int v2, .ref h2, .ref h3, .ref h1, .ref h4, .ref h5, .ref h6, .ref h7, .ref h8, .ref h9, .ref h10, .int v3, .ref h11, .ref h12, .ref h13, .ref h14, .int v4, .int v5, .int 23, .ref h15, .ref h16, .ref h17, .int v6, .ref h18, .int v7, .ref h19, .ref h20, .int v8, .ref h21, .ref h22, .int v9, .int v10, .int v11, .int v12, .int v13, .int v14, .int v15, .int v16, .ref h23, .long v17, .long v18, .long v19, .long v20])), (h1, .inl (G.1, 10, .inl v21)), (h14, .inl (G.1, 1336, .inl f373))] := ⟨_, hP, hD⟩
  refine lv_aload_n hx hb dX10_write_19 rfl (lv_at hl 1 rfl) ?_
  refine lv_dup hx hb dX10_write_20 rfl ?_
  refine va_get (D := D) (ci := 10) (v := .int 23) (C := RX10) (T := TX10) (N := 44) hx hb hts inlX10 hown hK hP 0 rfl rfl 19 (by decide) (hts _ k_298) (fun _ h9 => h9) rfl dX10_write_21 ?_
  refine lv_iconst (v := 1) hx hb dX10_write_24 (by decide) ?_
  refine lv_iadd hx hb dX10_write_25 ?_
  refine ow_i (y := 24) (by decide) ?_
  refine va_put (D := D) (ci := 10) (v := .int 24) (ty := .int) (C := RX10) (T := TX10) (N := 44) hx hb hts inlX10 tyX10 tyX10_ok nmX10 hown hK hP hD hS 0 rfl rfl 19 (by decide) (hts _ k_298) (fun _ h9 => h9) rfl (tyX10_ok 19 (by decide)) rfl rfl (Nat.le_of_ble_eq_true rfl) dX10_write_26 (fun H locs hP hD hS => ?_)
  have hP : va_P D vwCl [(h0, .inr (10, [.int v1, .int v2, .ref h2, .ref h3, .ref h1, .ref h4, .ref h5, .ref h6, .ref h7, .ref h8, .ref h9, .ref h10, .int v3, .ref h11, .ref h12, .ref h13, .ref h14, .int v4, .int v5, .int 24, .ref h15, .ref h16, .ref h17, .int v6, .ref h18, .int v7, .ref h19, .ref h20, .int v8, .ref h21, .ref h22, .int v9, .int v10, .int v11, .int v12, .int v13, .int v14, .int v15, .int v16, .ref h23, .long v17, .long v18, .long v19, .long v20])), (h1, .inl (G.1, 10, .inl v21)), (h14, .inl (G.1, 1336, .inl f373))] H := hP
  have hD : va_D A [(h0, .inr (10, [.int v1, .int v2, .ref h2, .ref h3, .ref h1, .ref h4, .ref h5, .ref h6, .ref h7, .ref h8, .ref h9, .ref h10, .int v3, .ref h11, .ref h12, .ref h13, .ref h14, .int v4, .int v5, .int 24, .ref h15, .ref h16, .ref h17, .int v6, .ref h18, .int v7, .ref h19, .ref h20, .int v8, .ref h21, .ref h22, .int v9, .int v10, .int v11, .int v12, .int v13, .int v14, .int v15, .int v16, .ref h23, .long v17, .long v18, .long v19, .long v20])), (h1, .inl (G.1, 10, .inl v21)), (h14, .inl (G.1, 1336, .inl f373))] := hD
  refine lv_iinc (v := 2) (lv' := [(3, .int 2), (0, .ref h0), (1, .ref h1), (2, .int 10)]) hx hb dX10_write_29 hl (k := 0) rfl (by decide) (by decide) rfl (fun ls hl => ?_)
  refine lv_goto (tgt := 2) hx hb dX10_write_32 (by decide) ?_
  refine lv_iload_n hx hb dX10_write_2 rfl (lv_at hl 0 rfl) ?_
  refine lv_iload_n hx hb dX10_write_3 rfl (lv_at hl 3 rfl) ?_
  refine lv_icmp_ge (tgt := 35) hx hb dX10_write_4 (by decide) (fun h9 => absurd h9 (by decide)) (fun _ => ?_)
  refine lv_aload_n hx hb dX10_write_7 rfl (lv_at hl 1 rfl) ?_
  refine va_get (D := D) (ci := 10) (v := .ref h14) (C := RX10) (T := TX10) (N := 44) hx hb hts inlX10 hown hK hP 0 rfl rfl 16 (by decide) (hts _ k_105) (fun _ h9 => h9) rfl dX10_write_8 ?_
  refine lv_aload_n hx hb dX10_write_11 rfl (lv_at hl 1 rfl) ?_
  refine va_get (D := D) (ci := 10) (v := .int 24) (C := RX10) (T := TX10) (N := 44) hx hb hts inlX10 hown hK hP 0 rfl rfl 19 (by decide) (hts _ k_298) (fun _ h9 => h9) rfl dX10_write_12 ?_
  refine lv_aload_n hx hb dX10_write_15 rfl (lv_at hl 2 rfl) ?_
  refine lv_iload_n hx hb dX10_write_16 rfl (lv_at hl 0 rfl) ?_
  refine va_iald hx hb hK hP 1 0 rfl rfl (show ¬ ((2 : Int32) < 0 ∨ 10 ≤ (2 : Int32).toNatClampNeg) by decide) dX10_write_17 ?_
  refine lv_topi (fun x374 _ => ?_)
  refine va_iast hx hb hK hP hD hS 2 0 rfl rfl (show ¬ ((24 : Int32) < 0 ∨ 1336 ≤ (24 : Int32).toNatClampNeg) by decide) dX10_write_18 (fun H locs hP hD hS => ?_)
  obtain ⟨f375, hP, hD⟩ : ∃ f375, va_P D vwCl [(h0, .inr (10, [.int v1, .int v2, .ref h2, .ref h3, .ref h1, .ref h4, .ref h5, .ref h6, .ref h7, .ref h8, .ref h9, .ref h10, .int v3, .ref h11, .ref h12, .ref h13, .ref h14, .int v4, .int v5, .int 24, .ref h15, .ref h16, .ref h17, .int v6, .ref h18, .int v7, .ref h19, .ref h20, .int v8, .ref h21, .ref h22, .int v9, .int v10, .int v11, .int v12, .int v13, .int v14, .int v15, .int v16, .ref h23, .long v17, .long v18, .long v19, .long v20])), (h1, .inl (G.1, 10, .inl v21)), (h14, .inl (G.1, 1336, .inl f375))] H ∧ va_D A [(h0, .inr (10, [.int v1, .int v2, .ref h2, .ref h3, .ref h1, .ref h4, .ref h5, .ref h6, .ref h7, .ref h8, .ref h9, .ref h10, .int v3, .ref h11, .ref h12, .ref h13, .ref h14, .int v4, .int v5, .int 24, .ref h15, .ref h16, .ref h17, .int v6, .ref h18, .int v7, .ref h19, .ref h20, .int v8, .ref h21, .ref h22, .int v9, .int v10, .int v11, .int v12, .int v13, .int v14, .int v15, .int v16, .ref h23, .long v17, .long v18, .long v19, .long v20])), (h1, .inl (G.1, 10, .inl v21)), (h14, .inl (G.1, 1336, .inl f375))] := ⟨_, hP, hD⟩
  refine lv_aload_n hx hb dX10_write_19 rfl (lv_at hl 1 rfl) ?_
  refine lv_dup hx hb dX10_write_20 rfl ?_
  refine va_get (D := D) (ci := 10) (v := .int 24) (C := RX10) (T := TX10) (N := 44) hx hb hts inlX10 hown hK hP 0 rfl rfl 19 (by decide) (hts _ k_298) (fun _ h9 => h9) rfl dX10_write_21 ?_
  refine lv_iconst (v := 1) hx hb dX10_write_24 (by decide) ?_
  refine lv_iadd hx hb dX10_write_25 ?_
  refine ow_i (y := 25) (by decide) ?_
  refine va_put (D := D) (ci := 10) (v := .int 25) (ty := .int) (C := RX10) (T := TX10) (N := 44) hx hb hts inlX10 tyX10 tyX10_ok nmX10 hown hK hP hD hS 0 rfl rfl 19 (by decide) (hts _ k_298) (fun _ h9 => h9) rfl (tyX10_ok 19 (by decide)) rfl rfl (Nat.le_of_ble_eq_true rfl) dX10_write_26 (fun H locs hP hD hS => ?_)
  have hP : va_P D vwCl [(h0, .inr (10, [.int v1, .int v2, .ref h2, .ref h3, .ref h1, .ref h4, .ref h5, .ref h6, .ref h7, .ref h8, .ref h9, .ref h10, .int v3, .ref h11, .ref h12, .ref h13, .ref h14, .int v4, .int v5, .int 25, .ref h15, .ref h16, .ref h17, .int v6, .ref h18, .int v7, .ref h19, .ref h20, .int v8, .ref h21, .ref h22, .int v9, .int v10, .int v11, .int v12, .int v13, .int v14, .int v15, .int v16, .ref h23, .long v17, .long v18, .long v19, .long v20])), (h1, .inl (G.1, 10, .inl v21)), (h14, .inl (G.1, 1336, .inl f375))] H := hP
  have hD : va_D A [(h0, .inr (10, [.int v1, .int v2, .ref h2, .ref h3, .ref h1, .ref h4, .ref h5, .ref h6, .ref h7, .ref h8, .ref h9, .ref h10, .int v3, .ref h11, .ref h12, .ref h13, .ref h14, .int v4, .int v5, .int 25, .ref h15, .ref h16, .ref h17, .int v6, .ref h18, .int v7, .ref h19, .ref h20, .int v8, .ref h21, .ref h22, .int v9, .int v10, .int v11, .int v12, .int v13, .int v14, .int v15, .int v16, .ref h23, .long v17, .long v18, .long v19, .long v20])), (h1, .inl (G.1, 10, .inl v21)), (h14, .inl (G.1, 1336, .inl f375))] := hD
  refine lv_iinc (v := 3) (lv' := [(3, .int 3), (0, .ref h0), (1, .ref h1), (2, .int 10)]) hx hb dX10_write_29 hl (k := 0) rfl (by decide) (by decide) rfl (fun ls hl => ?_)
  refine lv_goto (tgt := 2) hx hb dX10_write_32 (by decide) ?_
  refine lv_iload_n hx hb dX10_write_2 rfl (lv_at hl 0 rfl) ?_
  refine lv_iload_n hx hb dX10_write_3 rfl (lv_at hl 3 rfl) ?_
  refine lv_icmp_ge (tgt := 35) hx hb dX10_write_4 (by decide) (fun h9 => absurd h9 (by decide)) (fun _ => ?_)
  refine lv_aload_n hx hb dX10_write_7 rfl (lv_at hl 1 rfl) ?_
  refine va_get (D := D) (ci := 10) (v := .ref h14) (C := RX10) (T := TX10) (N := 44) hx hb hts inlX10 hown hK hP 0 rfl rfl 16 (by decide) (hts _ k_105) (fun _ h9 => h9) rfl dX10_write_8 ?_
  refine lv_aload_n hx hb dX10_write_11 rfl (lv_at hl 1 rfl) ?_
  refine va_get (D := D) (ci := 10) (v := .int 25) (C := RX10) (T := TX10) (N := 44) hx hb hts inlX10 hown hK hP 0 rfl rfl 19 (by decide) (hts _ k_298) (fun _ h9 => h9) rfl dX10_write_12 ?_
  refine lv_aload_n hx hb dX10_write_15 rfl (lv_at hl 2 rfl) ?_
  refine lv_iload_n hx hb dX10_write_16 rfl (lv_at hl 0 rfl) ?_
  refine va_iald hx hb hK hP 1 0 rfl rfl (show ¬ ((3 : Int32) < 0 ∨ 10 ≤ (3 : Int32).toNatClampNeg) by decide) dX10_write_17 ?_
  refine lv_topi (fun x376 _ => ?_)
  refine va_iast hx hb hK hP hD hS 2 0 rfl rfl (show ¬ ((25 : Int32) < 0 ∨ 1336 ≤ (25 : Int32).toNatClampNeg) by decide) dX10_write_18 (fun H locs hP hD hS => ?_)
  obtain ⟨f377, hP, hD⟩ : ∃ f377, va_P D vwCl [(h0, .inr (10, [.int v1, .int v2, .ref h2, .ref h3, .ref h1, .ref h4, .ref h5, .ref h6, .ref h7, .ref h8, .ref h9, .ref h10, .int v3, .ref h11, .ref h12, .ref h13, .ref h14, .int v4, .int v5, .int 25, .ref h15, .ref h16, .ref h17, .int v6, .ref h18, .int v7, .ref h19, .ref h20, .int v8, .ref h21, .ref h22, .int v9, .int v10, .int v11, .int v12, .int v13, .int v14, .int v15, .int v16, .ref h23, .long v17, .long v18, .long v19, .long v20])), (h1, .inl (G.1, 10, .inl v21)), (h14, .inl (G.1, 1336, .inl f377))] H ∧ va_D A [(h0, .inr (10, [.int v1, .int v2, .ref h2, .ref h3, .ref h1, .ref h4, .ref h5, .ref h6, .ref h7, .ref h8, .ref h9, .ref h10, .int v3, .ref h11, .ref h12, .ref h13, .ref h14, .int v4, .int v5, .int 25, .ref h15, .ref h16, .ref h17, .int v6, .ref h18, .int v7, .ref h19, .ref h20, .int v8, .ref h21, .ref h22, .int v9, .int v10, .int v11, .int v12, .int v13, .int v14, .int v15, .int v16, .ref h23, .long v17, .long v18, .long v19, .long v20])), (h1, .inl (G.1, 10, .inl v21)), (h14, .inl (G.1, 1336, .inl f377))] := ⟨_, hP, hD⟩
  refine lv_aload_n hx hb dX10_write_19 rfl (lv_at hl 1 rfl) ?_
  refine lv_dup hx hb dX10_write_20 rfl ?_
  refine va_get (D := D) (ci := 10) (v := .int 25) (C := RX10) (T := TX10) (N := 44) hx hb hts inlX10 hown hK hP 0 rfl rfl 19 (by decide) (hts _ k_298) (fun _ h9 => h9) rfl dX10_write_21 ?_
  refine lv_iconst (v := 1) hx hb dX10_write_24 (by decide) ?_
  refine lv_iadd hx hb dX10_write_25 ?_
  refine ow_i (y := 26) (by decide) ?_
  refine va_put (D := D) (ci := 10) (v := .int 26) (ty := .int) (C := RX10) (T := TX10) (N := 44) hx hb hts inlX10 tyX10 tyX10_ok nmX10 hown hK hP hD hS 0 rfl rfl 19 (by decide) (hts _ k_298) (fun _ h9 => h9) rfl (tyX10_ok 19 (by decide)) rfl rfl (Nat.le_of_ble_eq_true rfl) dX10_write_26 (fun H locs hP hD hS => ?_)
  have hP : va_P D vwCl [(h0, .inr (10, [.int v1, .int v2, .ref h2, .ref h3, .ref h1, .ref h4, .ref h5, .ref h6, .ref h7, .ref h8, .ref h9, .ref h10, .int v3, .ref h11, .ref h12, .ref h13, .ref h14, .int v4, .int v5, .int 26, .ref h15, .ref h16, .ref h17, .int v6, .ref h18, .int v7, .ref h19, .ref h20, .int v8, .ref h21, .ref h22, .int v9, .int v10, .int v11, .int v12, .int v13, .int v14, .int v15, .int v16, .ref h23, .long v17, .long v18, .long v19, .long v20])), (h1, .inl (G.1, 10, .inl v21)), (h14, .inl (G.1, 1336, .inl f377))] H := hP
  have hD : va_D A [(h0, .inr (10, [.int v1, .int v2, .ref h2, .ref h3, .ref h1, .ref h4, .ref h5, .ref h6, .ref h7, .ref h8, .ref h9, .ref h10, .int v3, .ref h11, .ref h12, .ref h13, .ref h14, .int v4, .int v5, .int 26, .ref h15, .ref h16, .ref h17, .int v6, .ref h18, .int v7, .ref h19, .ref h20, .int v8, .ref h21, .ref h22, .int v9, .int v10, .int v11, .int v12, .int v13, .int v14, .int v15, .int v16, .ref h23, .long v17, .long v18, .long v19, .long v20])), (h1, .inl (G.1, 10, .inl v21)), (h14, .inl (G.1, 1336, .inl f377))] := hD
  refine lv_iinc (v := 4) (lv' := [(3, .int 4), (0, .ref h0), (1, .ref h1), (2, .int 10)]) hx hb dX10_write_29 hl (k := 0) rfl (by decide) (by decide) rfl (fun ls hl => ?_)
  refine lv_goto (tgt := 2) hx hb dX10_write_32 (by decide) ?_
  refine lv_iload_n hx hb dX10_write_2 rfl (lv_at hl 0 rfl) ?_
  refine lv_iload_n hx hb dX10_write_3 rfl (lv_at hl 3 rfl) ?_
  refine lv_icmp_ge (tgt := 35) hx hb dX10_write_4 (by decide) (fun h9 => absurd h9 (by decide)) (fun _ => ?_)
  refine lv_aload_n hx hb dX10_write_7 rfl (lv_at hl 1 rfl) ?_
  refine va_get (D := D) (ci := 10) (v := .ref h14) (C := RX10) (T := TX10) (N := 44) hx hb hts inlX10 hown hK hP 0 rfl rfl 16 (by decide) (hts _ k_105) (fun _ h9 => h9) rfl dX10_write_8 ?_
  refine lv_aload_n hx hb dX10_write_11 rfl (lv_at hl 1 rfl) ?_
  refine va_get (D := D) (ci := 10) (v := .int 26) (C := RX10) (T := TX10) (N := 44) hx hb hts inlX10 hown hK hP 0 rfl rfl 19 (by decide) (hts _ k_298) (fun _ h9 => h9) rfl dX10_write_12 ?_
  refine lv_aload_n hx hb dX10_write_15 rfl (lv_at hl 2 rfl) ?_
  refine lv_iload_n hx hb dX10_write_16 rfl (lv_at hl 0 rfl) ?_
  refine va_iald hx hb hK hP 1 0 rfl rfl (show ¬ ((4 : Int32) < 0 ∨ 10 ≤ (4 : Int32).toNatClampNeg) by decide) dX10_write_17 ?_
  refine lv_topi (fun x378 _ => ?_)
  refine va_iast hx hb hK hP hD hS 2 0 rfl rfl (show ¬ ((26 : Int32) < 0 ∨ 1336 ≤ (26 : Int32).toNatClampNeg) by decide) dX10_write_18 (fun H locs hP hD hS => ?_)
  obtain ⟨f379, hP, hD⟩ : ∃ f379, va_P D vwCl [(h0, .inr (10, [.int v1, .int v2, .ref h2, .ref h3, .ref h1, .ref h4, .ref h5, .ref h6, .ref h7, .ref h8, .ref h9, .ref h10, .int v3, .ref h11, .ref h12, .ref h13, .ref h14, .int v4, .int v5, .int 26, .ref h15, .ref h16, .ref h17, .int v6, .ref h18, .int v7, .ref h19, .ref h20, .int v8, .ref h21, .ref h22, .int v9, .int v10, .int v11, .int v12, .int v13, .int v14, .int v15, .int v16, .ref h23, .long v17, .long v18, .long v19, .long v20])), (h1, .inl (G.1, 10, .inl v21)), (h14, .inl (G.1, 1336, .inl f379))] H ∧ va_D A [(h0, .inr (10, [.int v1, .int v2, .ref h2, .ref h3, .ref h1, .ref h4, .ref h5, .ref h6, .ref h7, .ref h8, .ref h9, .ref h10, .int v3, .ref h11, .ref h12, .ref h13, .ref h14, .int v4, .int v5, .int 26, .ref h15, .ref h16, .ref h17, .int v6, .ref h18, .int v7, .ref h19, .ref h20, .int v8, .ref h21, .ref h22, .int v9, .int v10, .int v11, .int v12, .int v13, .int v14, .int v15, .int v16, .ref h23, .long v17, .long v18, .long v19, .long v20])), (h1, .inl (G.1, 10, .inl v21)), (h14, .inl (G.1, 1336, .inl f379))] := ⟨_, hP, hD⟩
  refine lv_aload_n hx hb dX10_write_19 rfl (lv_at hl 1 rfl) ?_
  refine lv_dup hx hb dX10_write_20 rfl ?_
  refine va_get (D := D) (ci := 10) (v := .int 26) (C := RX10) (T := TX10) (N := 44) hx hb hts inlX10 hown hK hP 0 rfl rfl 19 (by decide) (hts _ k_298) (fun _ h9 => h9) rfl dX10_write_21 ?_
  refine lv_iconst (v := 1) hx hb dX10_write_24 (by decide) ?_
  refine lv_iadd hx hb dX10_write_25 ?_
  refine ow_i (y := 27) (by decide) ?_
  refine va_put (D := D) (ci := 10) (v := .int 27) (ty := .int) (C := RX10) (T := TX10) (N := 44) hx hb hts inlX10 tyX10 tyX10_ok nmX10 hown hK hP hD hS 0 rfl rfl 19 (by decide) (hts _ k_298) (fun _ h9 => h9) rfl (tyX10_ok 19 (by decide)) rfl rfl (Nat.le_of_ble_eq_true rfl) dX10_write_26 (fun H locs hP hD hS => ?_)
  have hP : va_P D vwCl [(h0, .inr (10, [.int v1, .int v2, .ref h2, .ref h3, .ref h1, .ref h4, .ref h5, .ref h6, .ref h7, .ref h8, .ref h9, .ref h10, .int v3, .ref h11, .ref h12, .ref h13, .ref h14, .int v4, .int v5, .int 27, .ref h15, .ref h16, .ref h17, .int v6, .ref h18, .int v7, .ref h19, .ref h20, .int v8, .ref h21, .ref h22, .int v9, .int v10, .int v11, .int v12, .int v13, .int v14, .int v15, .int v16, .ref h23, .long v17, .long v18, .long v19, .long v20])), (h1, .inl (G.1, 10, .inl v21)), (h14, .inl (G.1, 1336, .inl f379))] H := hP
  have hD : va_D A [(h0, .inr (10, [.int v1, .int v2, .ref h2, .ref h3, .ref h1, .ref h4, .ref h5, .ref h6, .ref h7, .ref h8, .ref h9, .ref h10, .int v3, .ref h11, .ref h12, .ref h13, .ref h14, .int v4, .int v5, .int 27, .ref h15, .ref h16, .ref h17, .int v6, .ref h18, .int v7, .ref h19, .ref h20, .int v8, .ref h21, .ref h22, .int v9, .int v10, .int v11, .int v12, .int v13, .int v14, .int v15, .int v16, .ref h23, .long v17, .long v18, .long v19, .long v20])), (h1, .inl (G.1, 10, .inl v21)), (h14, .inl (G.1, 1336, .inl f379))] := hD
  refine lv_iinc (v := 5) (lv' := [(3, .int 5), (0, .ref h0), (1, .ref h1), (2, .int 10)]) hx hb dX10_write_29 hl (k := 0) rfl (by decide) (by decide) rfl (fun ls hl => ?_)
  refine lv_goto (tgt := 2) hx hb dX10_write_32 (by decide) ?_
  refine lv_iload_n hx hb dX10_write_2 rfl (lv_at hl 0 rfl) ?_
  refine lv_iload_n hx hb dX10_write_3 rfl (lv_at hl 3 rfl) ?_
  refine lv_icmp_ge (tgt := 35) hx hb dX10_write_4 (by decide) (fun h9 => absurd h9 (by decide)) (fun _ => ?_)
  refine lv_aload_n hx hb dX10_write_7 rfl (lv_at hl 1 rfl) ?_
  refine va_get (D := D) (ci := 10) (v := .ref h14) (C := RX10) (T := TX10) (N := 44) hx hb hts inlX10 hown hK hP 0 rfl rfl 16 (by decide) (hts _ k_105) (fun _ h9 => h9) rfl dX10_write_8 ?_
  refine lv_aload_n hx hb dX10_write_11 rfl (lv_at hl 1 rfl) ?_
  refine va_get (D := D) (ci := 10) (v := .int 27) (C := RX10) (T := TX10) (N := 44) hx hb hts inlX10 hown hK hP 0 rfl rfl 19 (by decide) (hts _ k_298) (fun _ h9 => h9) rfl dX10_write_12 ?_
  refine lv_aload_n hx hb dX10_write_15 rfl (lv_at hl 2 rfl) ?_
  refine lv_iload_n hx hb dX10_write_16 rfl (lv_at hl 0 rfl) ?_
  refine va_iald hx hb hK hP 1 0 rfl rfl (show ¬ ((5 : Int32) < 0 ∨ 10 ≤ (5 : Int32).toNatClampNeg) by decide) dX10_write_17 ?_
  refine lv_topi (fun x380 _ => ?_)
  refine va_iast hx hb hK hP hD hS 2 0 rfl rfl (show ¬ ((27 : Int32) < 0 ∨ 1336 ≤ (27 : Int32).toNatClampNeg) by decide) dX10_write_18 (fun H locs hP hD hS => ?_)
  obtain ⟨f381, hP, hD⟩ : ∃ f381, va_P D vwCl [(h0, .inr (10, [.int v1, .int v2, .ref h2, .ref h3, .ref h1, .ref h4, .ref h5, .ref h6, .ref h7, .ref h8, .ref h9, .ref h10, .int v3, .ref h11, .ref h12, .ref h13, .ref h14, .int v4, .int v5, .int 27, .ref h15, .ref h16, .ref h17, .int v6, .ref h18, .int v7, .ref h19, .ref h20, .int v8, .ref h21, .ref h22, .int v9, .int v10, .int v11, .int v12, .int v13, .int v14, .int v15, .int v16, .ref h23, .long v17, .long v18, .long v19, .long v20])), (h1, .inl (G.1, 10, .inl v21)), (h14, .inl (G.1, 1336, .inl f381))] H ∧ va_D A [(h0, .inr (10, [.int v1, .int v2, .ref h2, .ref h3, .ref h1, .ref h4, .ref h5, .ref h6, .ref h7, .ref h8, .ref h9, .ref h10, .int v3, .ref h11, .ref h12, .ref h13, .ref h14, .int v4, .int v5, .int 27, .ref h15, .ref h16, .ref h17, .int v6, .ref h18, .int v7, .ref h19, .ref h20, .int v8, .ref h21, .ref h22, .int v9, .int v10, .int v11, .int v12, .int v13, .int v14, .int v15, .int v16, .ref h23, .long v17, .long v18, .long v19, .long v20])), (h1, .inl (G.1, 10, .inl v21)), (h14, .inl (G.1, 1336, .inl f381))] := ⟨_, hP, hD⟩
  refine lv_aload_n hx hb dX10_write_19 rfl (lv_at hl 1 rfl) ?_
  refine lv_dup hx hb dX10_write_20 rfl ?_
  refine va_get (D := D) (ci := 10) (v := .int 27) (C := RX10) (T := TX10) (N := 44) hx hb hts inlX10 hown hK hP 0 rfl rfl 19 (by decide) (hts _ k_298) (fun _ h9 => h9) rfl dX10_write_21 ?_
  refine lv_iconst (v := 1) hx hb dX10_write_24 (by decide) ?_
  refine lv_iadd hx hb dX10_write_25 ?_
  refine ow_i (y := 28) (by decide) ?_
  refine va_put (D := D) (ci := 10) (v := .int 28) (ty := .int) (C := RX10) (T := TX10) (N := 44) hx hb hts inlX10 tyX10 tyX10_ok nmX10 hown hK hP hD hS 0 rfl rfl 19 (by decide) (hts _ k_298) (fun _ h9 => h9) rfl (tyX10_ok 19 (by decide)) rfl rfl (Nat.le_of_ble_eq_true rfl) dX10_write_26 (fun H locs hP hD hS => ?_)
  have hP : va_P D vwCl [(h0, .inr (10, [.int v1, .int v2, .ref h2, .ref h3, .ref h1, .ref h4, .ref h5, .ref h6, .ref h7, .ref h8, .ref h9, .ref h10, .int v3, .ref h11, .ref h12, .ref h13, .ref h14, .int v4, .int v5, .int 28, .ref h15, .ref h16, .ref h17, .int v6, .ref h18, .int v7, .ref h19, .ref h20, .int v8, .ref h21, .ref h22, .int v9, .int v10, .int v11, .int v12, .int v13, .int v14, .int v15, .int v16, .ref h23, .long v17, .long v18, .long v19, .long v20])), (h1, .inl (G.1, 10, .inl v21)), (h14, .inl (G.1, 1336, .inl f381))] H := hP
  have hD : va_D A [(h0, .inr (10, [.int v1, .int v2, .ref h2, .ref h3, .ref h1, .ref h4, .ref h5, .ref h6, .ref h7, .ref h8, .ref h9, .ref h10, .int v3, .ref h11, .ref h12, .ref h13, .ref h14, .int v4, .int v5, .int 28, .ref h15, .ref h16, .ref h17, .int v6, .ref h18, .int v7, .ref h19, .ref h20, .int v8, .ref h21, .ref h22, .int v9, .int v10, .int v11, .int v12, .int v13, .int v14, .int v15, .int v16, .ref h23, .long v17, .long v18, .long v19, .long v20])), (h1, .inl (G.1, 10, .inl v21)), (h14, .inl (G.1, 1336, .inl f381))] := hD
  refine lv_iinc (v := 6) (lv' := [(3, .int 6), (0, .ref h0), (1, .ref h1), (2, .int 10)]) hx hb dX10_write_29 hl (k := 0) rfl (by decide) (by decide) rfl (fun ls hl => ?_)
  refine lv_goto (tgt := 2) hx hb dX10_write_32 (by decide) ?_
  refine lv_iload_n hx hb dX10_write_2 rfl (lv_at hl 0 rfl) ?_
  refine lv_iload_n hx hb dX10_write_3 rfl (lv_at hl 3 rfl) ?_
  refine lv_icmp_ge (tgt := 35) hx hb dX10_write_4 (by decide) (fun h9 => absurd h9 (by decide)) (fun _ => ?_)
  refine lv_aload_n hx hb dX10_write_7 rfl (lv_at hl 1 rfl) ?_
  refine va_get (D := D) (ci := 10) (v := .ref h14) (C := RX10) (T := TX10) (N := 44) hx hb hts inlX10 hown hK hP 0 rfl rfl 16 (by decide) (hts _ k_105) (fun _ h9 => h9) rfl dX10_write_8 ?_
  refine lv_aload_n hx hb dX10_write_11 rfl (lv_at hl 1 rfl) ?_
  refine va_get (D := D) (ci := 10) (v := .int 28) (C := RX10) (T := TX10) (N := 44) hx hb hts inlX10 hown hK hP 0 rfl rfl 19 (by decide) (hts _ k_298) (fun _ h9 => h9) rfl dX10_write_12 ?_
  refine lv_aload_n hx hb dX10_write_15 rfl (lv_at hl 2 rfl) ?_
  refine lv_iload_n hx hb dX10_write_16 rfl (lv_at hl 0 rfl) ?_
  refine va_iald hx hb hK hP 1 0 rfl rfl (show ¬ ((6 : Int32) < 0 ∨ 10 ≤ (6 : Int32).toNatClampNeg) by decide) dX10_write_17 ?_
  refine lv_topi (fun x382 _ => ?_)
  refine va_iast hx hb hK hP hD hS 2 0 rfl rfl (show ¬ ((28 : Int32) < 0 ∨ 1336 ≤ (28 : Int32).toNatClampNeg) by decide) dX10_write_18 (fun H locs hP hD hS => ?_)
  obtain ⟨f383, hP, hD⟩ : ∃ f383, va_P D vwCl [(h0, .inr (10, [.int v1, .int v2, .ref h2, .ref h3, .ref h1, .ref h4, .ref h5, .ref h6, .ref h7, .ref h8, .ref h9, .ref h10, .int v3, .ref h11, .ref h12, .ref h13, .ref h14, .int v4, .int v5, .int 28, .ref h15, .ref h16, .ref h17, .int v6, .ref h18, .int v7, .ref h19, .ref h20, .int v8, .ref h21, .ref h22, .int v9, .int v10, .int v11, .int v12, .int v13, .int v14, .int v15, .int v16, .ref h23, .long v17, .long v18, .long v19, .long v20])), (h1, .inl (G.1, 10, .inl v21)), (h14, .inl (G.1, 1336, .inl f383))] H ∧ va_D A [(h0, .inr (10, [.int v1, .int v2, .ref h2, .ref h3, .ref h1, .ref h4, .ref h5, .ref h6, .ref h7, .ref h8, .ref h9, .ref h10, .int v3, .ref h11, .ref h12, .ref h13, .ref h14, .int v4, .int v5, .int 28, .ref h15, .ref h16, .ref h17, .int v6, .ref h18, .int v7, .ref h19, .ref h20, .int v8, .ref h21, .ref h22, .int v9, .int v10, .int v11, .int v12, .int v13, .int v14, .int v15, .int v16, .ref h23, .long v17, .long v18, .long v19, .long v20])), (h1, .inl (G.1, 10, .inl v21)), (h14, .inl (G.1, 1336, .inl f383))] := ⟨_, hP, hD⟩
  refine lv_aload_n hx hb dX10_write_19 rfl (lv_at hl 1 rfl) ?_
  refine lv_dup hx hb dX10_write_20 rfl ?_
  refine va_get (D := D) (ci := 10) (v := .int 28) (C := RX10) (T := TX10) (N := 44) hx hb hts inlX10 hown hK hP 0 rfl rfl 19 (by decide) (hts _ k_298) (fun _ h9 => h9) rfl dX10_write_21 ?_
  refine lv_iconst (v := 1) hx hb dX10_write_24 (by decide) ?_
  refine lv_iadd hx hb dX10_write_25 ?_
  refine ow_i (y := 29) (by decide) ?_
  refine va_put (D := D) (ci := 10) (v := .int 29) (ty := .int) (C := RX10) (T := TX10) (N := 44) hx hb hts inlX10 tyX10 tyX10_ok nmX10 hown hK hP hD hS 0 rfl rfl 19 (by decide) (hts _ k_298) (fun _ h9 => h9) rfl (tyX10_ok 19 (by decide)) rfl rfl (Nat.le_of_ble_eq_true rfl) dX10_write_26 (fun H locs hP hD hS => ?_)
  have hP : va_P D vwCl [(h0, .inr (10, [.int v1, .int v2, .ref h2, .ref h3, .ref h1, .ref h4, .ref h5, .ref h6, .ref h7, .ref h8, .ref h9, .ref h10, .int v3, .ref h11, .ref h12, .ref h13, .ref h14, .int v4, .int v5, .int 29, .ref h15, .ref h16, .ref h17, .int v6, .ref h18, .int v7, .ref h19, .ref h20, .int v8, .ref h21, .ref h22, .int v9, .int v10, .int v11, .int v12, .int v13, .int v14, .int v15, .int v16, .ref h23, .long v17, .long v18, .long v19, .long v20])), (h1, .inl (G.1, 10, .inl v21)), (h14, .inl (G.1, 1336, .inl f383))] H := hP
  have hD : va_D A [(h0, .inr (10, [.int v1, .int v2, .ref h2, .ref h3, .ref h1, .ref h4, .ref h5, .ref h6, .ref h7, .ref h8, .ref h9, .ref h10, .int v3, .ref h11, .ref h12, .ref h13, .ref h14, .int v4, .int v5, .int 29, .ref h15, .ref h16, .ref h17, .int v6, .ref h18, .int v7, .ref h19, .ref h20, .int v8, .ref h21, .ref h22, .int v9, .int v10, .int v11, .int v12, .int v13, .int v14, .int v15, .int v16, .ref h23, .long v17, .long v18, .long v19, .long v20])), (h1, .inl (G.1, 10, .inl v21)), (h14, .inl (G.1, 1336, .inl f383))] := hD
  refine lv_iinc (v := 7) (lv' := [(3, .int 7), (0, .ref h0), (1, .ref h1), (2, .int 10)]) hx hb dX10_write_29 hl (k := 0) rfl (by decide) (by decide) rfl (fun ls hl => ?_)
  refine lv_goto (tgt := 2) hx hb dX10_write_32 (by decide) ?_
  refine lv_iload_n hx hb dX10_write_2 rfl (lv_at hl 0 rfl) ?_
  refine lv_iload_n hx hb dX10_write_3 rfl (lv_at hl 3 rfl) ?_
  refine lv_icmp_ge (tgt := 35) hx hb dX10_write_4 (by decide) (fun h9 => absurd h9 (by decide)) (fun _ => ?_)
  refine lv_aload_n hx hb dX10_write_7 rfl (lv_at hl 1 rfl) ?_
  refine va_get (D := D) (ci := 10) (v := .ref h14) (C := RX10) (T := TX10) (N := 44) hx hb hts inlX10 hown hK hP 0 rfl rfl 16 (by decide) (hts _ k_105) (fun _ h9 => h9) rfl dX10_write_8 ?_
  refine lv_aload_n hx hb dX10_write_11 rfl (lv_at hl 1 rfl) ?_
  refine va_get (D := D) (ci := 10) (v := .int 29) (C := RX10) (T := TX10) (N := 44) hx hb hts inlX10 hown hK hP 0 rfl rfl 19 (by decide) (hts _ k_298) (fun _ h9 => h9) rfl dX10_write_12 ?_
  refine lv_aload_n hx hb dX10_write_15 rfl (lv_at hl 2 rfl) ?_
  refine lv_iload_n hx hb dX10_write_16 rfl (lv_at hl 0 rfl) ?_
  refine va_iald hx hb hK hP 1 0 rfl rfl (show ¬ ((7 : Int32) < 0 ∨ 10 ≤ (7 : Int32).toNatClampNeg) by decide) dX10_write_17 ?_
  refine lv_topi (fun x384 _ => ?_)
  refine va_iast hx hb hK hP hD hS 2 0 rfl rfl (show ¬ ((29 : Int32) < 0 ∨ 1336 ≤ (29 : Int32).toNatClampNeg) by decide) dX10_write_18 (fun H locs hP hD hS => ?_)
  obtain ⟨f385, hP, hD⟩ : ∃ f385, va_P D vwCl [(h0, .inr (10, [.int v1, .int v2, .ref h2, .ref h3, .ref h1, .ref h4, .ref h5, .ref h6, .ref h7, .ref h8, .ref h9, .ref h10, .int v3, .ref h11, .ref h12, .ref h13, .ref h14, .int v4, .int v5, .int 29, .ref h15, .ref h16, .ref h17, .int v6, .ref h18, .int v7, .ref h19, .ref h20, .int v8, .ref h21, .ref h22, .int v9, .int v10, .int v11, .int v12, .int v13, .int v14, .int v15, .int v16, .ref h23, .long v17, .long v18, .long v19, .long v20])), (h1, .inl (G.1, 10, .inl v21)), (h14, .inl (G.1, 1336, .inl f385))] H ∧ va_D A [(h0, .inr (10, [.int v1, .int v2, .ref h2, .ref h3, .ref h1, .ref h4, .ref h5, .ref h6, .ref h7, .ref h8, .ref h9, .ref h10, .int v3, .ref h11, .ref h12, .ref h13, .ref h14, .int v4, .int v5, .int 29, .ref h15, .ref h16, .ref h17, .int v6, .ref h18, .int v7, .ref h19, .ref h20, .int v8, .ref h21, .ref h22, .int v9, .int v10, .int v11, .int v12, .int v13, .int v14, .int v15, .int v16, .ref h23, .long v17, .long v18, .long v19, .long v20])), (h1, .inl (G.1, 10, .inl v21)), (h14, .inl (G.1, 1336, .inl f385))] := ⟨_, hP, hD⟩
  refine lv_aload_n hx hb dX10_write_19 rfl (lv_at hl 1 rfl) ?_
  refine lv_dup hx hb dX10_write_20 rfl ?_
  refine va_get (D := D) (ci := 10) (v := .int 29) (C := RX10) (T := TX10) (N := 44) hx hb hts inlX10 hown hK hP 0 rfl rfl 19 (by decide) (hts _ k_298) (fun _ h9 => h9) rfl dX10_write_21 ?_
  refine lv_iconst (v := 1) hx hb dX10_write_24 (by decide) ?_
  refine lv_iadd hx hb dX10_write_25 ?_
  refine ow_i (y := 30) (by decide) ?_
  refine va_put (D := D) (ci := 10) (v := .int 30) (ty := .int) (C := RX10) (T := TX10) (N := 44) hx hb hts inlX10 tyX10 tyX10_ok nmX10 hown hK hP hD hS 0 rfl rfl 19 (by decide) (hts _ k_298) (fun _ h9 => h9) rfl (tyX10_ok 19 (by decide)) rfl rfl (Nat.le_of_ble_eq_true rfl) dX10_write_26 (fun H locs hP hD hS => ?_)
  have hP : va_P D vwCl [(h0, .inr (10, [.int v1, .int v2, .ref h2, .ref h3, .ref h1, .ref h4, .ref h5, .ref h6, .ref h7, .ref h8, .ref h9, .ref h10, .int v3, .ref h11, .ref h12, .ref h13, .ref h14, .int v4, .int v5, .int 30, .ref h15, .ref h16, .ref h17, .int v6, .ref h18, .int v7, .ref h19, .ref h20, .int v8, .ref h21, .ref h22, .int v9, .int v10, .int v11, .int v12, .int v13, .int v14, .int v15, .int v16, .ref h23, .long v17, .long v18, .long v19, .long v20])), (h1, .inl (G.1, 10, .inl v21)), (h14, .inl (G.1, 1336, .inl f385))] H := hP
  have hD : va_D A [(h0, .inr (10, [.int v1, .int v2, .ref h2, .ref h3, .ref h1, .ref h4, .ref h5, .ref h6, .ref h7, .ref h8, .ref h9, .ref h10, .int v3, .ref h11, .ref h12, .ref h13, .ref h14, .int v4, .int v5, .int 30, .ref h15, .ref h16, .ref h17, .int v6, .ref h18, .int v7, .ref h19, .ref h20, .int v8, .ref h21, .ref h22, .int v9, .int v10, .int v11, .int v12, .int v13, .int v14, .int v15, .int v16, .ref h23, .long v17, .long v18, .long v19, .long v20])), (h1, .inl (G.1, 10, .inl v21)), (h14, .inl (G.1, 1336, .inl f385))] := hD
  refine lv_iinc (v := 8) (lv' := [(3, .int 8), (0, .ref h0), (1, .ref h1), (2, .int 10)]) hx hb dX10_write_29 hl (k := 0) rfl (by decide) (by decide) rfl (fun ls hl => ?_)
  refine lv_goto (tgt := 2) hx hb dX10_write_32 (by decide) ?_
  refine lv_iload_n hx hb dX10_write_2 rfl (lv_at hl 0 rfl) ?_
  refine lv_iload_n hx hb dX10_write_3 rfl (lv_at hl 3 rfl) ?_
  refine lv_icmp_ge (tgt := 35) hx hb dX10_write_4 (by decide) (fun h9 => absurd h9 (by decide)) (fun _ => ?_)
  refine lv_aload_n hx hb dX10_write_7 rfl (lv_at hl 1 rfl) ?_
  refine va_get (D := D) (ci := 10) (v := .ref h14) (C := RX10) (T := TX10) (N := 44) hx hb hts inlX10 hown hK hP 0 rfl rfl 16 (by decide) (hts _ k_105) (fun _ h9 => h9) rfl dX10_write_8 ?_
  refine lv_aload_n hx hb dX10_write_11 rfl (lv_at hl 1 rfl) ?_
  refine va_get (D := D) (ci := 10) (v := .int 30) (C := RX10) (T := TX10) (N := 44) hx hb hts inlX10 hown hK hP 0 rfl rfl 19 (by decide) (hts _ k_298) (fun _ h9 => h9) rfl dX10_write_12 ?_
  refine lv_aload_n hx hb dX10_write_15 rfl (lv_at hl 2 rfl) ?_
  refine lv_iload_n hx hb dX10_write_16 rfl (lv_at hl 0 rfl) ?_
  refine va_iald hx hb hK hP 1 0 rfl rfl (show ¬ ((8 : Int32) < 0 ∨ 10 ≤ (8 : Int32).toNatClampNeg) by decide) dX10_write_17 ?_
  refine lv_topi (fun x386 _ => ?_)
  refine va_iast hx hb hK hP hD hS 2 0 rfl rfl (show ¬ ((30 : Int32) < 0 ∨ 1336 ≤ (30 : Int32).toNatClampNeg) by decide) dX10_write_18 (fun H locs hP hD hS => ?_)
  obtain ⟨f387, hP, hD⟩ : ∃ f387, va_P D vwCl [(h0, .inr (10, [.int v1, .int v2, .ref h2, .ref h3, .ref h1, .ref h4, .ref h5, .ref h6, .ref h7, .ref h8, .ref h9, .ref h10, .int v3, .ref h11, .ref h12, .ref h13, .ref h14, .int v4, .int v5, .int 30, .ref h15, .ref h16, .ref h17, .int v6, .ref h18, .int v7, .ref h19, .ref h20, .int v8, .ref h21, .ref h22, .int v9, .int v10, .int v11, .int v12, .int v13, .int v14, .int v15, .int v16, .ref h23, .long v17, .long v18, .long v19, .long v20])), (h1, .inl (G.1, 10, .inl v21)), (h14, .inl (G.1, 1336, .inl f387))] H ∧ va_D A [(h0, .inr (10, [.int v1, .int v2, .ref h2, .ref h3, .ref h1, .ref h4, .ref h5, .ref h6, .ref h7, .ref h8, .ref h9, .ref h10, .int v3, .ref h11, .ref h12, .ref h13, .ref h14, .int v4, .int v5, .int 30, .ref h15, .ref h16, .ref h17, .int v6, .ref h18, .int v7, .ref h19, .ref h20, .int v8, .ref h21, .ref h22, .int v9, .int v10, .int v11, .int v12, .int v13, .int v14, .int v15, .int v16, .ref h23, .long v17, .long v18, .long v19, .long v20])), (h1, .inl (G.1, 10, .inl v21)), (h14, .inl (G.1, 1336, .inl f387))] := ⟨_, hP, hD⟩
  refine lv_aload_n hx hb dX10_write_19 rfl (lv_at hl 1 rfl) ?_
  refine lv_dup hx hb dX10_write_20 rfl ?_
  refine va_get (D := D) (ci := 10) (v := .int 30) (C := RX10) (T := TX10) (N := 44) hx hb hts inlX10 hown hK hP 0 rfl rfl 19 (by decide) (hts _ k_298) (fun _ h9 => h9) rfl dX10_write_21 ?_
  refine lv_iconst (v := 1) hx hb dX10_write_24 (by decide) ?_
  refine lv_iadd hx hb dX10_write_25 ?_
  refine ow_i (y := 31) (by decide) ?_
  refine va_put (D := D) (ci := 10) (v := .int 31) (ty := .int) (C := RX10) (T := TX10) (N := 44) hx hb hts inlX10 tyX10 tyX10_ok nmX10 hown hK hP hD hS 0 rfl rfl 19 (by decide) (hts _ k_298) (fun _ h9 => h9) rfl (tyX10_ok 19 (by decide)) rfl rfl (Nat.le_of_ble_eq_true rfl) dX10_write_26 (fun H locs hP hD hS => ?_)
  have hP : va_P D vwCl [(h0, .inr (10, [.int v1, .int v2, .ref h2, .ref h3, .ref h1, .ref h4, .ref h5, .ref h6, .ref h7, .ref h8, .ref h9, .ref h10, .int v3, .ref h11, .ref h12, .ref h13, .ref h14, .int v4, .int v5, .int 31, .ref h15, .ref h16, .ref h17, .int v6, .ref h18, .int v7, .ref h19, .ref h20, .int v8, .ref h21, .ref h22, .int v9, .int v10, .int v11, .int v12, .int v13, .int v14, .int v15, .int v16, .ref h23, .long v17, .long v18, .long v19, .long v20])), (h1, .inl (G.1, 10, .inl v21)), (h14, .inl (G.1, 1336, .inl f387))] H := hP
  have hD : va_D A [(h0, .inr (10, [.int v1, .int v2, .ref h2, .ref h3, .ref h1, .ref h4, .ref h5, .ref h6, .ref h7, .ref h8, .ref h9, .ref h10, .int v3, .ref h11, .ref h12, .ref h13, .ref h14, .int v4, .int v5, .int 31, .ref h15, .ref h16, .ref h17, .int v6, .ref h18, .int v7, .ref h19, .ref h20, .int v8, .ref h21, .ref h22, .int v9, .int v10, .int v11, .int v12, .int v13, .int v14, .int v15, .int v16, .ref h23, .long v17, .long v18, .long v19, .long v20])), (h1, .inl (G.1, 10, .inl v21)), (h14, .inl (G.1, 1336, .inl f387))] := hD
  refine lv_iinc (v := 9) (lv' := [(3, .int 9), (0, .ref h0), (1, .ref h1), (2, .int 10)]) hx hb dX10_write_29 hl (k := 0) rfl (by decide) (by decide) rfl (fun ls hl => ?_)
  refine lv_goto (tgt := 2) hx hb dX10_write_32 (by decide) ?_
  refine lv_iload_n hx hb dX10_write_2 rfl (lv_at hl 0 rfl) ?_
  refine lv_iload_n hx hb dX10_write_3 rfl (lv_at hl 3 rfl) ?_
  refine lv_icmp_ge (tgt := 35) hx hb dX10_write_4 (by decide) (fun h9 => absurd h9 (by decide)) (fun _ => ?_)
  refine lv_aload_n hx hb dX10_write_7 rfl (lv_at hl 1 rfl) ?_
  refine va_get (D := D) (ci := 10) (v := .ref h14) (C := RX10) (T := TX10) (N := 44) hx hb hts inlX10 hown hK hP 0 rfl rfl 16 (by decide) (hts _ k_105) (fun _ h9 => h9) rfl dX10_write_8 ?_
  refine lv_aload_n hx hb dX10_write_11 rfl (lv_at hl 1 rfl) ?_
  refine va_get (D := D) (ci := 10) (v := .int 31) (C := RX10) (T := TX10) (N := 44) hx hb hts inlX10 hown hK hP 0 rfl rfl 19 (by decide) (hts _ k_298) (fun _ h9 => h9) rfl dX10_write_12 ?_
  refine lv_aload_n hx hb dX10_write_15 rfl (lv_at hl 2 rfl) ?_
  refine lv_iload_n hx hb dX10_write_16 rfl (lv_at hl 0 rfl) ?_
  refine va_iald hx hb hK hP 1 0 rfl rfl (show ¬ ((9 : Int32) < 0 ∨ 10 ≤ (9 : Int32).toNatClampNeg) by decide) dX10_write_17 ?_
  refine lv_topi (fun x388 _ => ?_)
  refine va_iast hx hb hK hP hD hS 2 0 rfl rfl (show ¬ ((31 : Int32) < 0 ∨ 1336 ≤ (31 : Int32).toNatClampNeg) by decide) dX10_write_18 (fun H locs hP hD hS => ?_)
  obtain ⟨f389, hP, hD⟩ : ∃ f389, va_P D vwCl [(h0, .inr (10, [.int v1, .int v2, .ref h2, .ref h3, .ref h1, .ref h4, .ref h5, .ref h6, .ref h7, .ref h8, .ref h9, .ref h10, .int v3, .ref h11, .ref h12, .ref h13, .ref h14, .int v4, .int v5, .int 31, .ref h15, .ref h16, .ref h17, .int v6, .ref h18, .int v7, .ref h19, .ref h20, .int v8, .ref h21, .ref h22, .int v9, .int v10, .int v11, .int v12, .int v13, .int v14, .int v15, .int v16, .ref h23, .long v17, .long v18, .long v19, .long v20])), (h1, .inl (G.1, 10, .inl v21)), (h14, .inl (G.1, 1336, .inl f389))] H ∧ va_D A [(h0, .inr (10, [.int v1, .int v2, .ref h2, .ref h3, .ref h1, .ref h4, .ref h5, .ref h6, .ref h7, .ref h8, .ref h9, .ref h10, .int v3, .ref h11, .ref h12, .ref h13, .ref h14, .int v4, .int v5, .int 31, .ref h15, .ref h16, .ref h17, .int v6, .ref h18, .int v7, .ref h19, .ref h20, .int v8, .ref h21, .ref h22, .int v9, .int v10, .int v11, .int v12, .int v13, .int v14, .int v15, .int v16, .ref h23, .long v17, .long v18, .long v19, .long v20])), (h1, .inl (G.1, 10, .inl v21)), (h14, .inl (G.1, 1336, .inl f389))] := ⟨_, hP, hD⟩
  refine lv_aload_n hx hb dX10_write_19 rfl (lv_at hl 1 rfl) ?_
  refine lv_dup hx hb dX10_write_20 rfl ?_
  refine va_get (D := D) (ci := 10) (v := .int 31) (C := RX10) (T := TX10) (N := 44) hx hb hts inlX10 hown hK hP 0 rfl rfl 19 (by decide) (hts _ k_298) (fun _ h9 => h9) rfl dX10_write_21 ?_
  refine lv_iconst (v := 1) hx hb dX10_write_24 (by decide) ?_
  refine lv_iadd hx hb dX10_write_25 ?_
  refine ow_i (y := 32) (by decide) ?_
  refine va_put (D := D) (ci := 10) (v := .int 32) (ty := .int) (C := RX10) (T := TX10) (N := 44) hx hb hts inlX10 tyX10 tyX10_ok nmX10 hown hK hP hD hS 0 rfl rfl 19 (by decide) (hts _ k_298) (fun _ h9 => h9) rfl (tyX10_ok 19 (by decide)) rfl rfl (Nat.le_of_ble_eq_true rfl) dX10_write_26 (fun H locs hP hD hS => ?_)
  have hP : va_P D vwCl [(h0, .inr (10, [.int v1, .int v2, .ref h2, .ref h3, .ref h1, .ref h4, .ref h5, .ref h6, .ref h7, .ref h8, .ref h9, .ref h10, .int v3, .ref h11, .ref h12, .ref h13, .ref h14, .int v4, .int v5, .int 32, .ref h15, .ref h16, .ref h17, .int v6, .ref h18, .int v7, .ref h19, .ref h20, .int v8, .ref h21, .ref h22, .int v9, .int v10, .int v11, .int v12, .int v13, .int v14, .int v15, .int v16, .ref h23, .long v17, .long v18, .long v19, .long v20])), (h1, .inl (G.1, 10, .inl v21)), (h14, .inl (G.1, 1336, .inl f389))] H := hP
  have hD : va_D A [(h0, .inr (10, [.int v1, .int v2, .ref h2, .ref h3, .ref h1, .ref h4, .ref h5, .ref h6, .ref h7, .ref h8, .ref h9, .ref h10, .int v3, .ref h11, .ref h12, .ref h13, .ref h14, .int v4, .int v5, .int 32, .ref h15, .ref h16, .ref h17, .int v6, .ref h18, .int v7, .ref h19, .ref h20, .int v8, .ref h21, .ref h22, .int v9, .int v10, .int v11, .int v12, .int v13, .int v14, .int v15, .int v16, .ref h23, .long v17, .long v18, .long v19, .long v20])), (h1, .inl (G.1, 10, .inl v21)), (h14, .inl (G.1, 1336, .inl f389))] := hD
  refine lv_iinc (v := 10) (lv' := [(3, .int 10), (0, .ref h0), (1, .ref h1), (2, .int 10)]) hx hb dX10_write_29 hl (k := 0) rfl (by decide) (by decide) rfl (fun ls hl => ?_)
  refine lv_goto (tgt := 2) hx hb dX10_write_32 (by decide) ?_
  refine lv_iload_n hx hb dX10_write_2 rfl (lv_at hl 0 rfl) ?_
  refine lv_iload_n hx hb dX10_write_3 rfl (lv_at hl 3 rfl) ?_
  refine lv_icmp_ge (tgt := 35) hx hb dX10_write_4 (by decide) (fun _ => ?_) (fun h9 => absurd h9 (by decide))
  exact ow_vret (u := [(h0, .inr (10, [.int v1, .int v2, .ref h2, .ref h3, .ref h1, .ref h4, .ref h5, .ref h6, .ref h7, .ref h8, .ref h9, .ref h10, .int v3, .ref h11, .ref h12, .ref h13, .ref h14, .int v4, .int v5, .int 32, .ref h15, .ref h16, .ref h17, .int v6, .ref h18, .int v7, .ref h19, .ref h20, .int v8, .ref h21, .ref h22, .int v9, .int v10, .int v11, .int v12, .int v13, .int v14, .int v15, .int v16, .ref h23, .long v17, .long v18, .long v19, .long v20])), (h1, .inl (G.1, 10, .inl v21)), (h14, .inl (G.1, 1336, .inl f389))]) hx hb hr hlocks hP hD hS [0, 1, 2] (by decide) rfl dX10_write_35 ⟨trivial, f389, rfl⟩
set_option maxHeartbeats 4000000 in
set_option maxRecDepth 100000 in
theorem c_X10_write_3 (l : Launch) (D : va_G) (G : ow_C) (h0 : Nat) (h1 : Nat) (v1 : Int32) (v2 : Int32) (h2 : Nat) (h3 : Nat) (h4 : Nat) (h5 : Nat) (h6 : Nat) (h7 : Nat) (h8 : Nat) (h9 : Nat) (h10 : Nat) (v3 : Int32) (h11 : Nat) (h12 : Nat) (h13 : Nat) (h14 : Nat) (v4 : Int32) (v5 : Int32) (h15 : Nat) (h16 : Nat) (h17 : Nat) (v6 : Int32) (h18 : Nat) (v7 : Int32) (h19 : Nat) (h20 : Nat) (v8 : Int32) (h21 : Nat) (h22 : Nat) (v9 : Int32) (v10 : Int32) (v11 : Int32) (v12 : Int32) (v13 : Int32) (v14 : Int32) (v15 : Int32) (v16 : Int32) (h23 : Nat) (v17 : Int64) (v18 : Int64) (v19 : Int64) (v20 : Int64) (v21 : Nat → Int32) (v22 : Nat → Int32) : ow_M l D G yX10_write cX10_write 4 none ({ frames := 1, cells := 0, slots := 0, locals := 64 } : Room) [.ref h0, .ref h1, .int 10] [(h0, .inr (10, [.int v1, .int v2, .ref h2, .ref h3, .ref h4, .ref h1, .ref h5, .ref h6, .ref h7, .ref h8, .ref h9, .ref h10, .int v3, .ref h11, .ref h12, .ref h13, .ref h14, .int v4, .int v5, .int 32, .ref h15, .ref h16, .ref h17, .int v6, .ref h18, .int v7, .ref h19, .ref h20, .int v8, .ref h21, .ref h22, .int v9, .int v10, .int v11, .int v12, .int v13, .int v14, .int v15, .int v16, .ref h23, .long v17, .long v18, .long v19, .long v20])), (h1, .inl (G.1, 10, .inl v21)), (h14, .inl (G.1, 1336, .inl v22))] (ow_V D (fun u => (True ∧ (∃ e0 : Nat → Int32, u = [(h0, .inr (10, [.int v1, .int v2, .ref h2, .ref h3, .ref h4, .ref h1, .ref h5, .ref h6, .ref h7, .ref h8, .ref h9, .ref h10, .int v3, .ref h11, .ref h12, .ref h13, .ref h14, .int v4, .int v5, .int 42, .ref h15, .ref h16, .ref h17, .int v6, .ref h18, .int v7, .ref h19, .ref h20, .int v8, .ref h21, .ref h22, .int v9, .int v10, .int v11, .int v12, .int v13, .int v14, .int v15, .int v16, .ref h23, .long v17, .long v18, .long v19, .long v20])), (h1, .inl (G.1, 10, .inl v21)), (h14, .inl (G.1, 1336, .inl e0))])))) 0 0 := by
  refine ow_met (by decide) (Nat.le_of_ble_eq_true rfl) ?_
  intro p e s m args below meth c A ls hE hl
  obtain ⟨hx, hb, hr, hml, hown, hlocks, hnm, hts, hN, hK, hP, hD, hA, hS⟩ := hE
  have hown : s.vm.findClass RX10 = some m.cls := hown
  have hP : va_P D vwCl [(h0, .inr (10, [.int v1, .int v2, .ref h2, .ref h3, .ref h4, .ref h1, .ref h5, .ref h6, .ref h7, .ref h8, .ref h9, .ref h10, .int v3, .ref h11, .ref h12, .ref h13, .ref h14, .int v4, .int v5, .int 32, .ref h15, .ref h16, .ref h17, .int v6, .ref h18, .int v7, .ref h19, .ref h20, .int v8, .ref h21, .ref h22, .int v9, .int v10, .int v11, .int v12, .int v13, .int v14, .int v15, .int v16, .ref h23, .long v17, .long v18, .long v19, .long v20])), (h1, .inl (G.1, 10, .inl v21)), (h14, .inl (G.1, 1336, .inl v22))] s.heap := hP
  have hD : va_D A [(h0, .inr (10, [.int v1, .int v2, .ref h2, .ref h3, .ref h4, .ref h1, .ref h5, .ref h6, .ref h7, .ref h8, .ref h9, .ref h10, .int v3, .ref h11, .ref h12, .ref h13, .ref h14, .int v4, .int v5, .int 32, .ref h15, .ref h16, .ref h17, .int v6, .ref h18, .int v7, .ref h19, .ref h20, .int v8, .ref h21, .ref h22, .int v9, .int v10, .int v11, .int v12, .int v13, .int v14, .int v15, .int v16, .ref h23, .long v17, .long v18, .long v19, .long v20])), (h1, .inl (G.1, 10, .inl v21)), (h14, .inl (G.1, 1336, .inl v22))] := hD
  have hl : lv_has ls 4 [(0, .ref h0), (1, .ref h1), (2, .int 10)] := hl
  refine lv_iconst (v := 0) hx hb dX10_write_0 (by decide) ?_
  refine lv_istore_n (lv' := [(3, .int 0), (0, .ref h0), (1, .ref h1), (2, .int 10)]) hx hb dX10_write_1 rfl hl (by decide) rfl (fun ls hl => ?_)
  refine lv_iload_n hx hb dX10_write_2 rfl (lv_at hl 0 rfl) ?_
  refine lv_iload_n hx hb dX10_write_3 rfl (lv_at hl 3 rfl) ?_
  refine lv_icmp_ge (tgt := 35) hx hb dX10_write_4 (by decide) (fun h9 => absurd h9 (by decide)) (fun _ => ?_)
  refine lv_aload_n hx hb dX10_write_7 rfl (lv_at hl 1 rfl) ?_
  refine va_get (D := D) (ci := 10) (v := .ref h14) (C := RX10) (T := TX10) (N := 44) hx hb hts inlX10 hown hK hP 0 rfl rfl 16 (by decide) (hts _ k_105) (fun _ h9 => h9) rfl dX10_write_8 ?_
  refine lv_aload_n hx hb dX10_write_11 rfl (lv_at hl 1 rfl) ?_
  refine va_get (D := D) (ci := 10) (v := .int 32) (C := RX10) (T := TX10) (N := 44) hx hb hts inlX10 hown hK hP 0 rfl rfl 19 (by decide) (hts _ k_298) (fun _ h9 => h9) rfl dX10_write_12 ?_
  refine lv_aload_n hx hb dX10_write_15 rfl (lv_at hl 2 rfl) ?_
  refine lv_iload_n hx hb dX10_write_16 rfl (lv_at hl 0 rfl) ?_
  refine va_iald hx hb hK hP 1 0 rfl rfl (show ¬ ((0 : Int32) < 0 ∨ 10 ≤ (0 : Int32).toNatClampNeg) by decide) dX10_write_17 ?_
  refine lv_topi (fun x392 _ => ?_)
  refine va_iast hx hb hK hP hD hS 2 0 rfl rfl (show ¬ ((32 : Int32) < 0 ∨ 1336 ≤ (32 : Int32).toNatClampNeg) by decide) dX10_write_18 (fun H locs hP hD hS => ?_)
  obtain ⟨f393, hP, hD⟩ : ∃ f393, va_P D vwCl [(h0, .inr (10, [.int v1, .int v2, .ref h2, .ref h3, .ref h4, .ref h1, .ref h5, .ref h6, .ref h7, .ref h8, .ref h9, .ref h10, .int v3, .ref h11, .ref h12, .ref h13, .ref h14, .int v4, .int v5, .int 32, .ref h15, .ref h16, .ref h17, .int v6, .ref h18, .int v7, .ref h19, .ref h20, .int v8, .ref h21, .ref h22, .int v9, .int v10, .int v11, .int v12, .int v13, .int v14, .int v15, .int v16, .ref h23, .long v17, .long v18, .long v19, .long v20])), (h1, .inl (G.1, 10, .inl v21)), (h14, .inl (G.1, 1336, .inl f393))] H ∧ va_D A [(h0, .inr (10, [.int v1, .int v2, .ref h2, .ref h3, .ref h4, .ref h1, .ref h5, .ref h6, .ref h7, .ref h8, .ref h9, .ref h10, .int v3, .ref h11, .ref h12, .ref h13, .ref h14, .int v4, .int v5, .int 32, .ref h15, .ref h16, .ref h17, .int v6, .ref h18, .int v7, .ref h19, .ref h20, .int v8, .ref h21, .ref h22, .int v9, .int v10, .int v11, .int v12, .int v13, .int v14, .int v15, .int v16, .ref h23, .long v17, .long v18, .long v19, .long v20])), (h1, .inl (G.1, 10, .inl v21)), (h14, .inl (G.1, 1336, .inl f393))] := ⟨_, hP, hD⟩
  refine lv_aload_n hx hb dX10_write_19 rfl (lv_at hl 1 rfl) ?_
  refine lv_dup hx hb dX10_write_20 rfl ?_
  refine va_get (D := D) (ci := 10) (v := .int 32) (C := RX10) (T := TX10) (N := 44) hx hb hts inlX10 hown hK hP 0 rfl rfl 19 (by decide) (hts _ k_298) (fun _ h9 => h9) rfl dX10_write_21 ?_
  refine lv_iconst (v := 1) hx hb dX10_write_24 (by decide) ?_
  refine lv_iadd hx hb dX10_write_25 ?_
  refine ow_i (y := 33) (by decide) ?_
  refine va_put (D := D) (ci := 10) (v := .int 33) (ty := .int) (C := RX10) (T := TX10) (N := 44) hx hb hts inlX10 tyX10 tyX10_ok nmX10 hown hK hP hD hS 0 rfl rfl 19 (by decide) (hts _ k_298) (fun _ h9 => h9) rfl (tyX10_ok 19 (by decide)) rfl rfl (Nat.le_of_ble_eq_true rfl) dX10_write_26 (fun H locs hP hD hS => ?_)
  have hP : va_P D vwCl [(h0, .inr (10, [.int v1, .int v2, .ref h2, .ref h3, .ref h4, .ref h1, .ref h5, .ref h6, .ref h7, .ref h8, .ref h9, .ref h10, .int v3, .ref h11, .ref h12, .ref h13, .ref h14, .int v4, .int v5, .int 33, .ref h15, .ref h16, .ref h17, .int v6, .ref h18, .int v7, .ref h19, .ref h20, .int v8, .ref h21, .ref h22, .int v9, .int v10, .int v11, .int v12, .int v13, .int v14, .int v15, .int v16, .ref h23, .long v17, .long v18, .long v19, .long v20])), (h1, .inl (G.1, 10, .inl v21)), (h14, .inl (G.1, 1336, .inl f393))] H := hP
  have hD : va_D A [(h0, .inr (10, [.int v1, .int v2, .ref h2, .ref h3, .ref h4, .ref h1, .ref h5, .ref h6, .ref h7, .ref h8, .ref h9, .ref h10, .int v3, .ref h11, .ref h12, .ref h13, .ref h14, .int v4, .int v5, .int 33, .ref h15, .ref h16, .ref h17, .int v6, .ref h18, .int v7, .ref h19, .ref h20, .int v8, .ref h21, .ref h22, .int v9, .int v10, .int v11, .int v12, .int v13, .int v14, .int v15, .int v16, .ref h23, .long v17, .long v18, .long v19, .long v20])), (h1, .inl (G.1, 10, .inl v21)), (h14, .inl (G.1, 1336, .inl f393))] := hD
  refine lv_iinc (v := 1) (lv' := [(3, .int 1), (0, .ref h0), (1, .ref h1), (2, .int 10)]) hx hb dX10_write_29 hl (k := 0) rfl (by decide) (by decide) rfl (fun ls hl => ?_)
  refine lv_goto (tgt := 2) hx hb dX10_write_32 (by decide) ?_
  refine lv_iload_n hx hb dX10_write_2 rfl (lv_at hl 0 rfl) ?_
  refine lv_iload_n hx hb dX10_write_3 rfl (lv_at hl 3 rfl) ?_
  refine lv_icmp_ge (tgt := 35) hx hb dX10_write_4 (by decide) (fun h9 => absurd h9 (by decide)) (fun _ => ?_)
  refine lv_aload_n hx hb dX10_write_7 rfl (lv_at hl 1 rfl) ?_
  refine va_get (D := D) (ci := 10) (v := .ref h14) (C := RX10) (T := TX10) (N := 44) hx hb hts inlX10 hown hK hP 0 rfl rfl 16 (by decide) (hts _ k_105) (fun _ h9 => h9) rfl dX10_write_8 ?_
  refine lv_aload_n hx hb dX10_write_11 rfl (lv_at hl 1 rfl) ?_
  refine va_get (D := D) (ci := 10) (v := .int 33) (C := RX10) (T := TX10) (N := 44) hx hb hts inlX10 hown hK hP 0 rfl rfl 19 (by decide) (hts _ k_298) (fun _ h9 => h9) rfl dX10_write_12 ?_
  refine lv_aload_n hx hb dX10_write_15 rfl (lv_at hl 2 rfl) ?_
  refine lv_iload_n hx hb dX10_write_16 rfl (lv_at hl 0 rfl) ?_
  refine va_iald hx hb hK hP 1 0 rfl rfl (show ¬ ((1 : Int32) < 0 ∨ 10 ≤ (1 : Int32).toNatClampNeg) by decide) dX10_write_17 ?_
  refine lv_topi (fun x394 _ => ?_)
  refine va_iast hx hb hK hP hD hS 2 0 rfl rfl (show ¬ ((33 : Int32) < 0 ∨ 1336 ≤ (33 : Int32).toNatClampNeg) by decide) dX10_write_18 (fun H locs hP hD hS => ?_)
  obtain ⟨f395, hP, hD⟩ : ∃ f395, va_P D vwCl [(h0, .inr (10, [.int v1, .int v2, .ref h2, .ref h3, .ref h4, .ref h1, .ref h5, .ref h6, .ref h7, .ref h8, .ref h9, .ref h10, .int v3, .ref h11, .ref h12, .ref h13, .ref h14, .int v4, .int v5, .int 33, .ref h15, .ref h16, .ref h17, .int v6, .ref h18, .int v7, .ref h19, .ref h20, .int v8, .ref h21, .ref h22, .int v9, .int v10, .int v11, .int v12, .int v13, .int v14, .int v15, .int v16, .ref h23, .long v17, .long v18, .long v19, .long v20])), (h1, .inl (G.1, 10, .inl v21)), (h14, .inl (G.1, 1336, .inl f395))] H ∧ va_D A [(h0, .inr (10, [.int v1, .int v2, .ref h2, .ref h3, .ref h4, .ref h1, .ref h5, .ref h6, .ref h7, .ref h8, .ref h9, .ref h10, .int v3, .ref h11, .ref h12, .ref h13, .ref h14, .int v4, .int v5, .int 33, .ref h15, .ref h16, .ref h17, .int v6, .ref h18, .int v7, .ref h19, .ref h20, .int v8, .ref h21, .ref h22, .int v9, .int v10, .int v11, .int v12, .int v13, .int v14, .int v15, .int v16, .ref h23, .long v17, .long v18, .long v19, .long v20])), (h1, .inl (G.1, 10, .inl v21)), (h14, .inl (G.1, 1336, .inl f395))] := ⟨_, hP, hD⟩
  refine lv_aload_n hx hb dX10_write_19 rfl (lv_at hl 1 rfl) ?_
  refine lv_dup hx hb dX10_write_20 rfl ?_
  refine va_get (D := D) (ci := 10) (v := .int 33) (C := RX10) (T := TX10) (N := 44) hx hb hts inlX10 hown hK hP 0 rfl rfl 19 (by decide) (hts _ k_298) (fun _ h9 => h9) rfl dX10_write_21 ?_
  refine lv_iconst (v := 1) hx hb dX10_write_24 (by decide) ?_
  refine lv_iadd hx hb dX10_write_25 ?_
  refine ow_i (y := 34) (by decide) ?_
  refine va_put (D := D) (ci := 10) (v := .int 34) (ty := .int) (C := RX10) (T := TX10) (N := 44) hx hb hts inlX10 tyX10 tyX10_ok nmX10 hown hK hP hD hS 0 rfl rfl 19 (by decide) (hts _ k_298) (fun _ h9 => h9) rfl (tyX10_ok 19 (by decide)) rfl rfl (Nat.le_of_ble_eq_true rfl) dX10_write_26 (fun H locs hP hD hS => ?_)
  have hP : va_P D vwCl [(h0, .inr (10, [.int v1, .int v2, .ref h2, .ref h3, .ref h4, .ref h1, .ref h5, .ref h6, .ref h7, .ref h8, .ref h9, .ref h10, .int v3, .ref h11, .ref h12, .ref h13, .ref h14, .int v4, .int v5, .int 34, .ref h15, .ref h16, .ref h17, .int v6, .ref h18, .int v7, .ref h19, .ref h20, .int v8, .ref h21, .ref h22, .int v9, .int v10, .int v11, .int v12, .int v13, .int v14, .int v15, .int v16, .ref h23, .long v17, .long v18, .long v19, .long v20])), (h1, .inl (G.1, 10, .inl v21)), (h14, .inl (G.1, 1336, .inl f395))] H := hP
  have hD : va_D A [(h0, .inr (10, [.int v1, .int v2, .ref h2, .ref h3, .ref h4, .ref h1, .ref h5, .ref h6, .ref h7, .ref h8, .ref h9, .ref h10, .int v3, .ref h11, .ref h12, .ref h13, .ref h14, .int v4, .int v5, .int 34, .ref h15, .ref h16, .ref h17, .int v6, .ref h18, .int v7, .ref h19, .ref h20, .int v8, .ref h21, .ref h22, .int v9, .int v10, .int v11, .int v12, .int v13, .int v14, .int v15, .int v16, .ref h23, .long v17, .long v18, .long v19, .long v20])), (h1, .inl (G.1, 10, .inl v21)), (h14, .inl (G.1, 1336, .inl f395))] := hD
  refine lv_iinc (v := 2) (lv' := [(3, .int 2), (0, .ref h0), (1, .ref h1), (2, .int 10)]) hx hb dX10_write_29 hl (k := 0) rfl (by decide) (by decide) rfl (fun ls hl => ?_)
  refine lv_goto (tgt := 2) hx hb dX10_write_32 (by decide) ?_
  refine lv_iload_n hx hb dX10_write_2 rfl (lv_at hl 0 rfl) ?_
  refine lv_iload_n hx hb dX10_write_3 rfl (lv_at hl 3 rfl) ?_
  refine lv_icmp_ge (tgt := 35) hx hb dX10_write_4 (by decide) (fun h9 => absurd h9 (by decide)) (fun _ => ?_)
  refine lv_aload_n hx hb dX10_write_7 rfl (lv_at hl 1 rfl) ?_
  refine va_get (D := D) (ci := 10) (v := .ref h14) (C := RX10) (T := TX10) (N := 44) hx hb hts inlX10 hown hK hP 0 rfl rfl 16 (by decide) (hts _ k_105) (fun _ h9 => h9) rfl dX10_write_8 ?_
  refine lv_aload_n hx hb dX10_write_11 rfl (lv_at hl 1 rfl) ?_
  refine va_get (D := D) (ci := 10) (v := .int 34) (C := RX10) (T := TX10) (N := 44) hx hb hts inlX10 hown hK hP 0 rfl rfl 19 (by decide) (hts _ k_298) (fun _ h9 => h9) rfl dX10_write_12 ?_
  refine lv_aload_n hx hb dX10_write_15 rfl (lv_at hl 2 rfl) ?_
  refine lv_iload_n hx hb dX10_write_16 rfl (lv_at hl 0 rfl) ?_
  refine va_iald hx hb hK hP 1 0 rfl rfl (show ¬ ((2 : Int32) < 0 ∨ 10 ≤ (2 : Int32).toNatClampNeg) by decide) dX10_write_17 ?_
  refine lv_topi (fun x396 _ => ?_)
  refine va_iast hx hb hK hP hD hS 2 0 rfl rfl (show ¬ ((34 : Int32) < 0 ∨ 1336 ≤ (34 : Int32).toNatClampNeg) by decide) dX10_write_18 (fun H locs hP hD hS => ?_)
  obtain ⟨f397, hP, hD⟩ : ∃ f397, va_P D vwCl [(h0, .inr (10, [.int v1, .int v2, .ref h2, .ref h3, .ref h4, .ref h1, .ref h5, .ref h6, .ref h7, .ref h8, .ref h9, .ref h10, .int v3, .ref h11, .ref h12, .ref h13, .ref h14, .int v4, .int v5, .int 34, .ref h15, .ref h16, .ref h17, .int v6, .ref h18, .int v7, .ref h19, .ref h20, .int v8, .ref h21, .ref h22, .int v9, .int v10, .int v11, .int v12, .int v13, .int v14, .int v15, .int v16, .ref h23, .long v17, .long v18, .long v19, .long v20])), (h1, .inl (G.1, 10, .inl v21)), (h14, .inl (G.1, 1336, .inl f397))] H ∧ va_D A [(h0, .inr (10, [.int v1, .int v2, .ref h2, .ref h3, .ref h4, .ref h1, .ref h5, .ref h6, .ref h7, .ref h8, .ref h9, .ref h10, .int v3, .ref h11, .ref h12, .ref h13, .ref h14, .int v4, .int v5, .int 34, .ref h15, .ref h16, .ref h17, .int v6, .ref h18, .int v7, .ref h19, .ref h20, .int v8, .ref h21, .ref h22, .int v9, .int v10, .int v11, .int v12, .int v13, .int v14, .int v15, .int v16, .ref h23, .long v17, .long v18, .long v19, .long v20])), (h1, .inl (G.1, 10, .inl v21)), (h14, .inl (G.1, 1336, .inl f397))] := ⟨_, hP, hD⟩
  refine lv_aload_n hx hb dX10_write_19 rfl (lv_at hl 1 rfl) ?_
  refine lv_dup hx hb dX10_write_20 rfl ?_
  refine va_get (D := D) (ci := 10) (v := .int 34) (C := RX10) (T := TX10) (N := 44) hx hb hts inlX10 hown hK hP 0 rfl rfl 19 (by decide) (hts _ k_298) (fun _ h9 => h9) rfl dX10_write_21 ?_
  refine lv_iconst (v := 1) hx hb dX10_write_24 (by decide) ?_
  refine lv_iadd hx hb dX10_write_25 ?_
  refine ow_i (y := 35) (by decide) ?_
  refine va_put (D := D) (ci := 10) (v := .int 35) (ty := .int) (C := RX10) (T := TX10) (N := 44) hx hb hts inlX10 tyX10 tyX10_ok nmX10 hown hK hP hD hS 0 rfl rfl 19 (by decide) (hts _ k_298) (fun _ h9 => h9) rfl (tyX10_ok 19 (by decide)) rfl rfl (Nat.le_of_ble_eq_true rfl) dX10_write_26 (fun H locs hP hD hS => ?_)
  have hP : va_P D vwCl [(h0, .inr (10, [.int v1, .int v2, .ref h2, .ref h3, .ref h4, .ref h1, .ref h5, .ref h6, .ref h7, .ref h8, .ref h9, .ref h10, .int v3, .ref h11, .ref h12, .ref h13, .ref h14, .int v4, .int v5, .int 35, .ref h15, .ref h16, .ref h17, .int v6, .ref h18, .int v7, .ref h19, .ref h20, .int v8, .ref h21, .ref h22, .int v9, .int v10, .int v11, .int v12, .int v13, .int v14, .int v15, .int v16, .ref h23, .long v17, .long v18, .long v19, .long v20])), (h1, .inl (G.1, 10, .inl v21)), (h14, .inl (G.1, 1336, .inl f397))] H := hP
  have hD : va_D A [(h0, .inr (10, [.int v1, .int v2, .ref h2, .ref h3, .ref h4, .ref h1, .ref h5, .ref h6, .ref h7, .ref h8, .ref h9, .ref h10, .int v3, .ref h11, .ref h12, .ref h13, .ref h14, .int v4, .int v5, .int 35, .ref h15, .ref h16, .ref h17, .int v6, .ref h18, .int v7, .ref h19, .ref h20, .int v8, .ref h21, .ref h22, .int v9, .int v10, .int v11, .int v12, .int v13, .int v14, .int v15, .int v16, .ref h23, .long v17, .long v18, .long v19, .long v20])), (h1, .inl (G.1, 10, .inl v21)), (h14, .inl (G.1, 1336, .inl f397))] := hD
  refine lv_iinc (v := 3) (lv' := [(3, .int 3), (0, .ref h0), (1, .ref h1), (2, .int 10)]) hx hb dX10_write_29 hl (k := 0) rfl (by decide) (by decide) rfl (fun ls hl => ?_)
  refine lv_goto (tgt := 2) hx hb dX10_write_32 (by decide) ?_
  refine lv_iload_n hx hb dX10_write_2 rfl (lv_at hl 0 rfl) ?_
  refine lv_iload_n hx hb dX10_write_3 rfl (lv_at hl 3 rfl) ?_
  refine lv_icmp_ge (tgt := 35) hx hb dX10_write_4 (by decide) (fun h9 => absurd h9 (by decide)) (fun _ => ?_)
  refine lv_aload_n hx hb dX10_write_7 rfl (lv_at hl 1 rfl) ?_
  refine va_get (D := D) (ci := 10) (v := .ref h14) (C := RX10) (T := TX10) (N := 44) hx hb hts inlX10 hown hK hP 0 rfl rfl 16 (by decide) (hts _ k_105) (fun _ h9 => h9) rfl dX10_write_8 ?_
  refine lv_aload_n hx hb dX10_write_11 rfl (lv_at hl 1 rfl) ?_
  refine va_get (D := D) (ci := 10) (v := .int 35) (C := RX10) (T := TX10) (N := 44) hx hb hts inlX10 hown hK hP 0 rfl rfl 19 (by decide) (hts _ k_298) (fun _ h9 => h9) rfl dX10_write_12 ?_
  refine lv_aload_n hx hb dX10_write_15 rfl (lv_at hl 2 rfl) ?_
  refine lv_iload_n hx hb dX10_write_16 rfl (lv_at hl 0 rfl) ?_
  refine va_iald hx hb hK hP 1 0 rfl rfl (show ¬ ((3 : Int32) < 0 ∨ 10 ≤ (3 : Int32).toNatClampNeg) by decide) dX10_write_17 ?_
  refine lv_topi (fun x398 _ => ?_)
  refine va_iast hx hb hK hP hD hS 2 0 rfl rfl (show ¬ ((35 : Int32) < 0 ∨ 1336 ≤ (35 : Int32).toNatClampNeg) by decide) dX10_write_18 (fun H locs hP hD hS => ?_)
  obtain ⟨f399, hP, hD⟩ : ∃ f399, va_P D vwCl [(h0, .inr (10, [.int v1, .int v2, .ref h2, .ref h3, .ref h4, .ref h1, .ref h5, .ref h6, .ref h7, .ref h8, .ref h9, .ref h10, .int v3, .ref h11, .ref h12, .ref h13, .ref h14, .int v4, .int v5, .int 35, .ref h15, .ref h16, .ref h17, .int v6, .ref h18, .int v7, .ref h19, .ref h20, .int v8, .ref h21, .ref h22, .int v9, .int v10, .int v11, .int v12, .int v13, .int v14, .int v15, .int v16, .ref h23, .long v17, .long v18, .long v19, .long v20])), (h1, .inl (G.1, 10, .inl v21)), (h14, .inl (G.1, 1336, .inl f399))] H ∧ va_D A [(h0, .inr (10, [.int v1, .int v2, .ref h2, .ref h3, .ref h4, .ref h1, .ref h5, .ref h6, .ref h7, .ref h8, .ref h9, .ref h10, .int v3, .ref h11, .ref h12, .ref h13, .ref h14, .int v4, .int v5, .int 35, .ref h15, .ref h16, .ref h17, .int v6, .ref h18, .int v7, .ref h19, .ref h20, .int v8, .ref h21, .ref h22, .int v9, .int v10, .int v11, .int v12, .int v13, .int v14, .int v15, .int v16, .ref h23, .long v17, .long v18, .long v19, .long v20])), (h1, .inl (G.1, 10, .inl v21)), (h14, .inl (G.1, 1336, .inl f399))] := ⟨_, hP, hD⟩
  refine lv_aload_n hx hb dX10_write_19 rfl (lv_at hl 1 rfl) ?_
  refine lv_dup hx hb dX10_write_20 rfl ?_
  refine va_get (D := D) (ci := 10) (v := .int 35) (C := RX10) (T := TX10) (N := 44) hx hb hts inlX10 hown hK hP 0 rfl rfl 19 (by decide) (hts _ k_298) (fun _ h9 => h9) rfl dX10_write_21 ?_
  refine lv_iconst (v := 1) hx hb dX10_write_24 (by decide) ?_
  refine lv_iadd hx hb dX10_write_25 ?_
  refine ow_i (y := 36) (by decide) ?_
  refine va_put (D := D) (ci := 10) (v := .int 36) (ty := .int) (C := RX10) (T := TX10) (N := 44) hx hb hts inlX10 tyX10 tyX10_ok nmX10 hown hK hP hD hS 0 rfl rfl 19 (by decide) (hts _ k_298) (fun _ h9 => h9) rfl (tyX10_ok 19 (by decide)) rfl rfl (Nat.le_of_ble_eq_true rfl) dX10_write_26 (fun H locs hP hD hS => ?_)
  have hP : va_P D vwCl [(h0, .inr (10, [.int v1, .int v2, .ref h2, .ref h3, .ref h4, .ref h1, .ref h5, .ref h6, .ref h7, .ref h8, .ref h9, .ref h10, .int v3, .ref h11, .ref h12, .ref h13, .ref h14, .int v4, .int v5, .int 36, .ref h15, .ref h16, .ref h17, .int v6, .ref h18, .int v7, .ref h19, .ref h20, .int v8, .ref h21, .ref h22, .int v9, .int v10, .int v11, .int v12, .int v13, .int v14, .int v15, .int v16, .ref h23, .long v17, .long v18, .long v19, .long v20])), (h1, .inl (G.1, 10, .inl v21)), (h14, .inl (G.1, 1336, .inl f399))] H := hP
  have hD : va_D A [(h0, .inr (10, [.int v1, .int v2, .ref h2, .ref h3, .ref h4, .ref h1, .ref h5, .ref h6, .ref h7, .ref h8, .ref h9, .ref h10, .int v3, .ref h11, .ref h12, .ref h13, .ref h14, .int v4, .int v5, .int 36, .ref h15, .ref h16, .ref h17, .int v6, .ref h18, .int v7, .ref h19, .ref h20, .int v8, .ref h21, .ref h22, .int v9, .int v10, .int v11, .int v12, .int v13, .int v14, .int v15, .int v16, .ref h23, .long v17, .long v18, .long v19, .long v20])), (h1, .inl (G.1, 10, .inl v21)), (h14, .inl (G.1, 1336, .inl f399))] := hD
  refine lv_iinc (v := 4) (lv' := [(3, .int 4), (0, .ref h0), (1, .ref h1), (2, .int 10)]) hx hb dX10_write_29 hl (k := 0) rfl (by decide) (by decide) rfl (fun ls hl => ?_)
  refine lv_goto (tgt := 2) hx hb dX10_write_32 (by decide) ?_
  refine lv_iload_n hx hb dX10_write_2 rfl (lv_at hl 0 rfl) ?_
  refine lv_iload_n hx hb dX10_write_3 rfl (lv_at hl 3 rfl) ?_
  refine lv_icmp_ge (tgt := 35) hx hb dX10_write_4 (by decide) (fun h9 => absurd h9 (by decide)) (fun _ => ?_)
  refine lv_aload_n hx hb dX10_write_7 rfl (lv_at hl 1 rfl) ?_
  refine va_get (D := D) (ci := 10) (v := .ref h14) (C := RX10) (T := TX10) (N := 44) hx hb hts inlX10 hown hK hP 0 rfl rfl 16 (by decide) (hts _ k_105) (fun _ h9 => h9) rfl dX10_write_8 ?_
  refine lv_aload_n hx hb dX10_write_11 rfl (lv_at hl 1 rfl) ?_
  refine va_get (D := D) (ci := 10) (v := .int 36) (C := RX10) (T := TX10) (N := 44) hx hb hts inlX10 hown hK hP 0 rfl rfl 19 (by decide) (hts _ k_298) (fun _ h9 => h9) rfl dX10_write_12 ?_
  refine lv_aload_n hx hb dX10_write_15 rfl (lv_at hl 2 rfl) ?_
  refine lv_iload_n hx hb dX10_write_16 rfl (lv_at hl 0 rfl) ?_
  refine va_iald hx hb hK hP 1 0 rfl rfl (show ¬ ((4 : Int32) < 0 ∨ 10 ≤ (4 : Int32).toNatClampNeg) by decide) dX10_write_17 ?_
  refine lv_topi (fun x400 _ => ?_)
  refine va_iast hx hb hK hP hD hS 2 0 rfl rfl (show ¬ ((36 : Int32) < 0 ∨ 1336 ≤ (36 : Int32).toNatClampNeg) by decide) dX10_write_18 (fun H locs hP hD hS => ?_)
  obtain ⟨f401, hP, hD⟩ : ∃ f401, va_P D vwCl [(h0, .inr (10, [.int v1, .int v2, .ref h2, .ref h3, .ref h4, .ref h1, .ref h5, .ref h6, .ref h7, .ref h8, .ref h9, .ref h10, .int v3, .ref h11, .ref h12, .ref h13, .ref h14, .int v4, .int v5, .int 36, .ref h15, .ref h16, .ref h17, .int v6, .ref h18, .int v7, .ref h19, .ref h20, .int v8, .ref h21, .ref h22, .int v9, .int v10, .int v11, .int v12, .int v13, .int v14, .int v15, .int v16, .ref h23, .long v17, .long v18, .long v19, .long v20])), (h1, .inl (G.1, 10, .inl v21)), (h14, .inl (G.1, 1336, .inl f401))] H ∧ va_D A [(h0, .inr (10, [.int v1, .int v2, .ref h2, .ref h3, .ref h4, .ref h1, .ref h5, .ref h6, .ref h7, .ref h8, .ref h9, .ref h10, .int v3, .ref h11, .ref h12, .ref h13, .ref h14, .int v4, .int v5, .int 36, .ref h15, .ref h16, .ref h17, .int v6, .ref h18, .int v7, .ref h19, .ref h20, .int v8, .ref h21, .ref h22, .int v9, .int v10, .int v11, .int v12, .int v13, .int v14, .int v15, .int v16, .ref h23, .long v17, .long v18, .long v19, .long v20])), (h1, .inl (G.1, 10, .inl v21)), (h14, .inl (G.1, 1336, .inl f401))] := ⟨_, hP, hD⟩
  refine lv_aload_n hx hb dX10_write_19 rfl (lv_at hl 1 rfl) ?_
  refine lv_dup hx hb dX10_write_20 rfl ?_
  refine va_get (D := D) (ci := 10) (v := .int 36) (C := RX10) (T := TX10) (N := 44) hx hb hts inlX10 hown hK hP 0 rfl rfl 19 (by decide) (hts _ k_298) (fun _ h9 => h9) rfl dX10_write_21 ?_
  refine lv_iconst (v := 1) hx hb dX10_write_24 (by decide) ?_
  refine lv_iadd hx hb dX10_write_25 ?_
  refine ow_i (y := 37) (by decide) ?_
  refine va_put (D := D) (ci := 10) (v := .int 37) (ty := .int) (C := RX10) (T := TX10) (N := 44) hx hb hts inlX10 tyX10 tyX10_ok nmX10 hown hK hP hD hS 0 rfl rfl 19 (by decide) (hts _ k_298) (fun _ h9 => h9) rfl (tyX10_ok 19 (by decide)) rfl rfl (Nat.le_of_ble_eq_true rfl) dX10_write_26 (fun H locs hP hD hS => ?_)
  have hP : va_P D vwCl [(h0, .inr (10, [.int v1, .int v2, .ref h2, .ref h3, .ref h4, .ref h1, .ref h5, .ref h6, .ref h7, .ref h8, .ref h9, .ref h10, .int v3, .ref h11, .ref h12, .ref h13, .ref h14, .int v4, .int v5, .int 37, .ref h15, .ref h16, .ref h17, .int v6, .ref h18, .int v7, .ref h19, .ref h20, .int v8, .ref h21, .ref h22, .int v9, .int v10, .int v11, .int v12, .int v13, .int v14, .int v15, .int v16, .ref h23, .long v17, .long v18, .long v19, .long v20])), (h1, .inl (G.1, 10, .inl v21)), (h14, .inl (G.1, 1336, .inl f401))] H := hP
  have hD : va_D A [(h0, .inr (10, [.int v1, .int v2, .ref h2, .ref h3, .ref h4, .ref h1, .ref h5, .ref h6, .ref h7, .ref h8, .ref h9, .ref h10, .int v3, .ref h11, .ref h12, .ref h13, .ref h14, .int v4, .int v5, .int 37, .ref h15, .ref h16, .ref h17, .int v6, .ref h18, .int v7, .ref h19, .ref h20, .int v8, .ref h21, .ref h22, .int v9, .int v10, .int v11, .int v12, .int v13, .int v14, .int v15, .int v16, .ref h23, .long v17, .long v18, .long v19, .long v20])), (h1, .inl (G.1, 10, .inl v21)), (h14, .inl (G.1, 1336, .inl f401))] := hD
  refine lv_iinc (v := 5) (lv' := [(3, .int 5), (0, .ref h0), (1, .ref h1), (2, .int 10)]) hx hb dX10_write_29 hl (k := 0) rfl (by decide) (by decide) rfl (fun ls hl => ?_)
  refine lv_goto (tgt := 2) hx hb dX10_write_32 (by decide) ?_
  refine lv_iload_n hx hb dX10_write_2 rfl (lv_at hl 0 rfl) ?_
  refine lv_iload_n hx hb dX10_write_3 rfl (lv_at hl 3 rfl) ?_
  refine lv_icmp_ge (tgt := 35) hx hb dX10_write_4 (by decide) (fun h9 => absurd h9 (by decide)) (fun _ => ?_)
  refine lv_aload_n hx hb dX10_write_7 rfl (lv_at hl 1 rfl) ?_
  refine va_get (D := D) (ci := 10) (v := .ref h14) (C := RX10) (T := TX10) (N := 44) hx hb hts inlX10 hown hK hP 0 rfl rfl 16 (by decide) (hts _ k_105) (fun _ h9 => h9) rfl dX10_write_8 ?_
  refine lv_aload_n hx hb dX10_write_11 rfl (lv_at hl 1 rfl) ?_
  refine va_get (D := D) (ci := 10) (v := .int 37) (C := RX10) (T := TX10) (N := 44) hx hb hts inlX10 hown hK hP 0 rfl rfl 19 (by decide) (hts _ k_298) (fun _ h9 => h9) rfl dX10_write_12 ?_
  refine lv_aload_n hx hb dX10_write_15 rfl (lv_at hl 2 rfl) ?_
  refine lv_iload_n hx hb dX10_write_16 rfl (lv_at hl 0 rfl) ?_
  refine va_iald hx hb hK hP 1 0 rfl rfl (show ¬ ((5 : Int32) < 0 ∨ 10 ≤ (5 : Int32).toNatClampNeg) by decide) dX10_write_17 ?_
  refine lv_topi (fun x402 _ => ?_)
  refine va_iast hx hb hK hP hD hS 2 0 rfl rfl (show ¬ ((37 : Int32) < 0 ∨ 1336 ≤ (37 : Int32).toNatClampNeg) by decide) dX10_write_18 (fun H locs hP hD hS => ?_)
  obtain ⟨f403, hP, hD⟩ : ∃ f403, va_P D vwCl [(h0, .inr (10, [.int v1, .int v2, .ref h2, .ref h3, .ref h4, .ref h1, .ref h5, .ref h6, .ref h7, .ref h8, .ref h9, .ref h10, .int v3, .ref h11, .ref h12, .ref h13, .ref h14, .int v4, .int v5, .int 37, .ref h15, .ref h16, .ref h17, .int v6, .ref h18, .int v7, .ref h19, .ref h20, .int v8, .ref h21, .ref h22, .int v9, .int v10, .int v11, .int v12, .int v13, .int v14, .int v15, .int v16, .ref h23, .long v17, .long v18, .long v19, .long v20])), (h1, .inl (G.1, 10, .inl v21)), (h14, .inl (G.1, 1336, .inl f403))] H ∧ va_D A [(h0, .inr (10, [.int v1, .int v2, .ref h2, .ref h3, .ref h4, .ref h1, .ref h5, .ref h6, .ref h7, .ref h8, .ref h9, .ref h10, .int v3, .ref h11, .ref h12, .ref h13, .ref h14, .int v4, .int v5, .int 37, .ref h15, .ref h16, .ref h17, .int v6, .ref h18, .int v7, .ref h19, .ref h20, .int v8, .ref h21, .ref h22, .int v9, .int v10, .int v11, .int v12, .int v13, .int v14, .int v15, .int v16, .ref h23, .long v17, .long v18, .long v19, .long v20])), (h1, .inl (G.1, 10, .inl v21)), (h14, .inl (G.1, 1336, .inl f403))] := ⟨_, hP, hD⟩
  refine lv_aload_n hx hb dX10_write_19 rfl (lv_at hl 1 rfl) ?_
  refine lv_dup hx hb dX10_write_20 rfl ?_
  refine va_get (D := D) (ci := 10) (v := .int 37) (C := RX10) (T := TX10) (N := 44) hx hb hts inlX10 hown hK hP 0 rfl rfl 19 (by decide) (hts _ k_298) (fun _ h9 => h9) rfl dX10_write_21 ?_
  refine lv_iconst (v := 1) hx hb dX10_write_24 (by decide) ?_
  refine lv_iadd hx hb dX10_write_25 ?_
  refine ow_i (y := 38) (by decide) ?_
  refine va_put (D := D) (ci := 10) (v := .int 38) (ty := .int) (C := RX10) (T := TX10) (N := 44) hx hb hts inlX10 tyX10 tyX10_ok nmX10 hown hK hP hD hS 0 rfl rfl 19 (by decide) (hts _ k_298) (fun _ h9 => h9) rfl (tyX10_ok 19 (by decide)) rfl rfl (Nat.le_of_ble_eq_true rfl) dX10_write_26 (fun H locs hP hD hS => ?_)
  have hP : va_P D vwCl [(h0, .inr (10, [.int v1, .int v2, .ref h2, .ref h3, .ref h4, .ref h1, .ref h5, .ref h6, .ref h7, .ref h8, .ref h9, .ref h10, .int v3, .ref h11, .ref h12, .ref h13, .ref h14, .int v4, .int v5, .int 38, .ref h15, .ref h16, .ref h17, .int v6, .ref h18, .int v7, .ref h19, .ref h20, .int v8, .ref h21, .ref h22, .int v9, .int v10, .int v11, .int v12, .int v13, .int v14, .int v15, .int v16, .ref h23, .long v17, .long v18, .long v19, .long v20])), (h1, .inl (G.1, 10, .inl v21)), (h14, .inl (G.1, 1336, .inl f403))] H := hP
  have hD : va_D A [(h0, .inr (10, [.int v1, .int v2, .ref h2, .ref h3, .ref h4, .ref h1, .ref h5, .ref h6, .ref h7, .ref h8, .ref h9, .ref h10, .int v3, .ref h11, .ref h12, .ref h13, .ref h14, .int v4, .int v5, .int 38, .ref h15, .ref h16, .ref h17, .int v6, .ref h18, .int v7, .ref h19, .ref h20, .int v8, .ref h21, .ref h22, .int v9, .int v10, .int v11, .int v12, .int v13, .int v14, .int v15, .int v16, .ref h23, .long v17, .long v18, .long v19, .long v20])), (h1, .inl (G.1, 10, .inl v21)), (h14, .inl (G.1, 1336, .inl f403))] := hD
  refine lv_iinc (v := 6) (lv' := [(3, .int 6), (0, .ref h0), (1, .ref h1), (2, .int 10)]) hx hb dX10_write_29 hl (k := 0) rfl (by decide) (by decide) rfl (fun ls hl => ?_)
  refine lv_goto (tgt := 2) hx hb dX10_write_32 (by decide) ?_
  refine lv_iload_n hx hb dX10_write_2 rfl (lv_at hl 0 rfl) ?_
  refine lv_iload_n hx hb dX10_write_3 rfl (lv_at hl 3 rfl) ?_
  refine lv_icmp_ge (tgt := 35) hx hb dX10_write_4 (by decide) (fun h9 => absurd h9 (by decide)) (fun _ => ?_)
  refine lv_aload_n hx hb dX10_write_7 rfl (lv_at hl 1 rfl) ?_
  refine va_get (D := D) (ci := 10) (v := .ref h14) (C := RX10) (T := TX10) (N := 44) hx hb hts inlX10 hown hK hP 0 rfl rfl 16 (by decide) (hts _ k_105) (fun _ h9 => h9) rfl dX10_write_8 ?_
  refine lv_aload_n hx hb dX10_write_11 rfl (lv_at hl 1 rfl) ?_
  refine va_get (D := D) (ci := 10) (v := .int 38) (C := RX10) (T := TX10) (N := 44) hx hb hts inlX10 hown hK hP 0 rfl rfl 19 (by decide) (hts _ k_298) (fun _ h9 => h9) rfl dX10_write_12 ?_
  refine lv_aload_n hx hb dX10_write_15 rfl (lv_at hl 2 rfl) ?_
  refine lv_iload_n hx hb dX10_write_16 rfl (lv_at hl 0 rfl) ?_
  refine va_iald hx hb hK hP 1 0 rfl rfl (show ¬ ((6 : Int32) < 0 ∨ 10 ≤ (6 : Int32).toNatClampNeg) by decide) dX10_write_17 ?_
  refine lv_topi (fun x404 _ => ?_)
  refine va_iast hx hb hK hP hD hS 2 0 rfl rfl (show ¬ ((38 : Int32) < 0 ∨ 1336 ≤ (38 : Int32).toNatClampNeg) by decide) dX10_write_18 (fun H locs hP hD hS => ?_)
  obtain ⟨f405, hP, hD⟩ : ∃ f405, va_P D vwCl [(h0, .inr (10, [.int v1, .int v2, .ref h2, .ref h3, .ref h4, .ref h1, .ref h5, .ref h6, .ref h7, .ref h8, .ref h9, .ref h10, .int v3, .ref h11, .ref h12, .ref h13, .ref h14, .int v4, .int v5, .int 38, .ref h15, .ref h16, .ref h17, .int v6, .ref h18, .int v7, .ref h19, .ref h20, .int v8, .ref h21, .ref h22, .int v9, .int v10, .int v11, .int v12, .int v13, .int v14, .int v15, .int v16, .ref h23, .long v17, .long v18, .long v19, .long v20])), (h1, .inl (G.1, 10, .inl v21)), (h14, .inl (G.1, 1336, .inl f405))] H ∧ va_D A [(h0, .inr (10, [.int v1, .int v2, .ref h2, .ref h3, .ref h4, .ref h1, .ref h5, .ref h6, .ref h7, .ref h8, .ref h9, .ref h10, .int v3, .ref h11, .ref h12, .ref h13, .ref h14, .int v4, .int v5, .int 38, .ref h15, .ref h16, .ref h17, .int v6, .ref h18, .int v7, .ref h19, .ref h20, .int v8, .ref h21, .ref h22, .int v9, .int v10, .int v11, .int v12, .int v13, .int v14, .int v15, .int v16, .ref h23, .long v17, .long v18, .long v19, .long v20])), (h1, .inl (G.1, 10, .inl v21)), (h14, .inl (G.1, 1336, .inl f405))] := ⟨_, hP, hD⟩
  refine lv_aload_n hx hb dX10_write_19 rfl (lv_at hl 1 rfl) ?_
  refine lv_dup hx hb dX10_write_20 rfl ?_
  refine va_get (D := D) (ci := 10) (v := .int 38) (C := RX10) (T := TX10) (N := 44) hx hb hts inlX10 hown hK hP 0 rfl rfl 19 (by decide) (hts _ k_298) (fun _ h9 => h9) rfl dX10_write_21 ?_
  refine lv_iconst (v := 1) hx hb dX10_write_24 (by decide) ?_
  refine lv_iadd hx hb dX10_write_25 ?_
  refine ow_i (y := 39) (by decide) ?_
  refine va_put (D := D) (ci := 10) (v := .int 39) (ty := .int) (C := RX10) (T := TX10) (N := 44) hx hb hts inlX10 tyX10 tyX10_ok nmX10 hown hK hP hD hS 0 rfl rfl 19 (by decide) (hts _ k_298) (fun _ h9 => h9) rfl (tyX10_ok 19 (by decide)) rfl rfl (Nat.le_of_ble_eq_true rfl) dX10_write_26 (fun H locs hP hD hS => ?_)
  have hP : va_P D vwCl [(h0, .inr (10, [.int v1, .int v2, .ref h2, .ref h3, .ref h4, .ref h1, .ref h5, .ref h6, .ref h7, .ref h8, .ref h9, .ref h10, .int v3, .ref h11, .ref h12, .ref h13, .ref h14, .int v4, .int v5, .int 39, .ref h15, .ref h16, .ref h17, .int v6, .ref h18, .int v7, .ref h19, .ref h20, .int v8, .ref h21, .ref h22, .int v9, .int v10, .int v11, .int v12, .int v13, .int v14, .int v15, .int v16, .ref h23, .long v17, .long v18, .long v19, .long v20])), (h1, .inl (G.1, 10, .inl v21)), (h14, .inl (G.1, 1336, .inl f405))] H := hP
  have hD : va_D A [(h0, .inr (10, [.int v1, .int v2, .ref h2, .ref h3, .ref h4, .ref h1, .ref h5, .ref h6, .ref h7, .ref h8, .ref h9, .ref h10, .int v3, .ref h11, .ref h12, .ref h13, .ref h14, .int v4, .int v5, .int 39, .ref h15, .ref h16, .ref h17, .int v6, .ref h18, .int v7, .ref h19, .ref h20, .int v8, .ref h21, .ref h22, .int v9, .int v10, .int v11, .int v12, .int v13, .int v14, .int v15, .int v16, .ref h23, .long v17, .long v18, .long v19, .long v20])), (h1, .inl (G.1, 10, .inl v21)), (h14, .inl (G.1, 1336, .inl f405))] := hD
  refine lv_iinc (v := 7) (lv' := [(3, .int 7), (0, .ref h0), (1, .ref h1), (2, .int 10)]) hx hb dX10_write_29 hl (k := 0) rfl (by decide) (by decide) rfl (fun ls hl => ?_)
  refine lv_goto (tgt := 2) hx hb dX10_write_32 (by decide) ?_
  refine lv_iload_n hx hb dX10_write_2 rfl (lv_at hl 0 rfl) ?_
  refine lv_iload_n hx hb dX10_write_3 rfl (lv_at hl 3 rfl) ?_
  refine lv_icmp_ge (tgt := 35) hx hb dX10_write_4 (by decide) (fun h9 => absurd h9 (by decide)) (fun _ => ?_)
  refine lv_aload_n hx hb dX10_write_7 rfl (lv_at hl 1 rfl) ?_
  refine va_get (D := D) (ci := 10) (v := .ref h14) (C := RX10) (T := TX10) (N := 44) hx hb hts inlX10 hown hK hP 0 rfl rfl 16 (by decide) (hts _ k_105) (fun _ h9 => h9) rfl dX10_write_8 ?_
  refine lv_aload_n hx hb dX10_write_11 rfl (lv_at hl 1 rfl) ?_
  refine va_get (D := D) (ci := 10) (v := .int 39) (C := RX10) (T := TX10) (N := 44) hx hb hts inlX10 hown hK hP 0 rfl rfl 19 (by decide) (hts _ k_298) (fun _ h9 => h9) rfl dX10_write_12 ?_
  refine lv_aload_n hx hb dX10_write_15 rfl (lv_at hl 2 rfl) ?_
  refine lv_iload_n hx hb dX10_write_16 rfl (lv_at hl 0 rfl) ?_
  refine va_iald hx hb hK hP 1 0 rfl rfl (show ¬ ((7 : Int32) < 0 ∨ 10 ≤ (7 : Int32).toNatClampNeg) by decide) dX10_write_17 ?_
  refine lv_topi (fun x406 _ => ?_)
  refine va_iast hx hb hK hP hD hS 2 0 rfl rfl (show ¬ ((39 : Int32) < 0 ∨ 1336 ≤ (39 : Int32).toNatClampNeg) by decide) dX10_write_18 (fun H locs hP hD hS => ?_)
  obtain ⟨f407, hP, hD⟩ : ∃ f407, va_P D vwCl [(h0, .inr (10, [.int v1, .int v2, .ref h2, .ref h3, .ref h4, .ref h1, .ref h5, .ref h6, .ref h7, .ref h8, .ref h9, .ref h10, .int v3, .ref h11, .ref h12, .ref h13, .ref h14, .int v4, .int v5, .int 39, .ref h15, .ref h16, .ref h17, .int v6, .ref h18, .int v7, .ref h19, .ref h20, .int v8, .ref h21, .ref h22, .int v9, .int v10, .int v11, .int v12, .int v13, .int v14, .int v15, .int v16, .ref h23, .long v17, .long v18, .long v19, .long v20])), (h1, .inl (G.1, 10, .inl v21)), (h14, .inl (G.1, 1336, .inl f407))] H ∧ va_D A [(h0, .inr (10, [.int v1, .int v2, .ref h2, .ref h3, .ref h4, .ref h1, .ref h5, .ref h6, .ref h7, .ref h8, .ref h9, .ref h10, .int v3, .ref h11, .ref h12, .ref h13, .ref h14, .int v4, .int v5, .int 39, .ref h15, .ref h16, .ref h17, .int v6, .ref h18, .int v7, .ref h19, .ref h20, .int v8, .ref h21, .ref h22, .int v9, .int v10, .int v11, .int v12, .int v13, .int v14, .int v15, .int v16, .ref h23, .long v17, .long v18, .long v19, .long v20])), (h1, .inl (G.1, 10, .inl v21)), (h14, .inl (G.1, 1336, .inl f407))] := ⟨_, hP, hD⟩
  refine lv_aload_n hx hb dX10_write_19 rfl (lv_at hl 1 rfl) ?_
  refine lv_dup hx hb dX10_write_20 rfl ?_
  refine va_get (D := D) (ci := 10) (v := .int 39) (C := RX10) (T := TX10) (N := 44) hx hb hts inlX10 hown hK hP 0 rfl rfl 19 (by decide) (hts _ k_298) (fun _ h9 => h9) rfl dX10_write_21 ?_
  refine lv_iconst (v := 1) hx hb dX10_write_24 (by decide) ?_
  refine lv_iadd hx hb dX10_write_25 ?_
  refine ow_i (y := 40) (by decide) ?_
  refine va_put (D := D) (ci := 10) (v := .int 40) (ty := .int) (C := RX10) (T := TX10) (N := 44) hx hb hts inlX10 tyX10 tyX10_ok nmX10 hown hK hP hD hS 0 rfl rfl 19 (by decide) (hts _ k_298) (fun _ h9 => h9) rfl (tyX10_ok 19 (by decide)) rfl rfl (Nat.le_of_ble_eq_true rfl) dX10_write_26 (fun H locs hP hD hS => ?_)
  have hP : va_P D vwCl [(h0, .inr (10, [.int v1, .int v2, .ref h2, .ref h3, .ref h4, .ref h1, .ref h5, .ref h6, .ref h7, .ref h8, .ref h9, .ref h10, .int v3, .ref h11, .ref h12, .ref h13, .ref h14, .int v4, .int v5, .int 40, .ref h15, .ref h16, .ref h17, .int v6, .ref h18, .int v7, .ref h19, .ref h20, .int v8, .ref h21, .ref h22, .int v9, .int v10, .int v11, .int v12, .int v13, .int v14, .int v15, .int v16, .ref h23, .long v17, .long v18, .long v19, .long v20])), (h1, .inl (G.1, 10, .inl v21)), (h14, .inl (G.1, 1336, .inl f407))] H := hP
  have hD : va_D A [(h0, .inr (10, [.int v1, .int v2, .ref h2, .ref h3, .ref h4, .ref h1, .ref h5, .ref h6, .ref h7, .ref h8, .ref h9, .ref h10, .int v3, .ref h11, .ref h12, .ref h13, .ref h14, .int v4, .int v5, .int 40, .ref h15, .ref h16, .ref h17, .int v6, .ref h18, .int v7, .ref h19, .ref h20, .int v8, .ref h21, .ref h22, .int v9, .int v10, .int v11, .int v12, .int v13, .int v14, .int v15, .int v16, .ref h23, .long v17, .long v18, .long v19, .long v20])), (h1, .inl (G.1, 10, .inl v21)), (h14, .inl (G.1, 1336, .inl f407))] := hD
  refine lv_iinc (v := 8) (lv' := [(3, .int 8), (0, .ref h0), (1, .ref h1), (2, .int 10)]) hx hb dX10_write_29 hl (k := 0) rfl (by decide) (by decide) rfl (fun ls hl => ?_)
  refine lv_goto (tgt := 2) hx hb dX10_write_32 (by decide) ?_
  refine lv_iload_n hx hb dX10_write_2 rfl (lv_at hl 0 rfl) ?_
  refine lv_iload_n hx hb dX10_write_3 rfl (lv_at hl 3 rfl) ?_
  refine lv_icmp_ge (tgt := 35) hx hb dX10_write_4 (by decide) (fun h9 => absurd h9 (by decide)) (fun _ => ?_)
  refine lv_aload_n hx hb dX10_write_7 rfl (lv_at hl 1 rfl) ?_
  refine va_get (D := D) (ci := 10) (v := .ref h14) (C := RX10) (T := TX10) (N := 44) hx hb hts inlX10 hown hK hP 0 rfl rfl 16 (by decide) (hts _ k_105) (fun _ h9 => h9) rfl dX10_write_8 ?_
  refine lv_aload_n hx hb dX10_write_11 rfl (lv_at hl 1 rfl) ?_
  refine va_get (D := D) (ci := 10) (v := .int 40) (C := RX10) (T := TX10) (N := 44) hx hb hts inlX10 hown hK hP 0 rfl rfl 19 (by decide) (hts _ k_298) (fun _ h9 => h9) rfl dX10_write_12 ?_
  refine lv_aload_n hx hb dX10_write_15 rfl (lv_at hl 2 rfl) ?_
  refine lv_iload_n hx hb dX10_write_16 rfl (lv_at hl 0 rfl) ?_
  refine va_iald hx hb hK hP 1 0 rfl rfl (show ¬ ((8 : Int32) < 0 ∨ 10 ≤ (8 : Int32).toNatClampNeg) by decide) dX10_write_17 ?_
  refine lv_topi (fun x408 _ => ?_)
  refine va_iast hx hb hK hP hD hS 2 0 rfl rfl (show ¬ ((40 : Int32) < 0 ∨ 1336 ≤ (40 : Int32).toNatClampNeg) by decide) dX10_write_18 (fun H locs hP hD hS => ?_)
  obtain ⟨f409, hP, hD⟩ : ∃ f409, va_P D vwCl [(h0, .inr (10, [.int v1, .int v2, .ref h2, .ref h3, .ref h4, .ref h1, .ref h5, .ref h6, .ref h7, .ref h8, .ref h9, .ref h10, .int v3, .ref h11, .ref h12, .ref h13, .ref h14, .int v4, .int v5, .int 40, .ref h15, .ref h16, .ref h17, .int v6, .ref h18, .int v7, .ref h19, .ref h20, .int v8, .ref h21, .ref h22, .int v9, .int v10, .int v11, .int v12, .int v13, .int v14, .int v15, .int v16, .ref h23, .long v17, .long v18, .long v19, .long v20])), (h1, .inl (G.1, 10, .inl v21)), (h14, .inl (G.1, 1336, .inl f409))] H ∧ va_D A [(h0, .inr (10, [.int v1, .int v2, .ref h2, .ref h3, .ref h4, .ref h1, .ref h5, .ref h6, .ref h7, .ref h8, .ref h9, .ref h10, .int v3, .ref h11, .ref h12, .ref h13, .ref h14, .int v4, .int v5, .int 40, .ref h15, .ref h16, .ref h17, .int v6, .ref h18, .int v7, .ref h19, .ref h20, .int v8, .ref h21, .ref h22, .int v9, .int v10, .int v11, .int v12, .int v13, .int v14, .int v15, .int v16, .ref h23, .long v17, .long v18, .long v19, .long v20])), (h1, .inl (G.1, 10, .inl v21)), (h14, .inl (G.1, 1336, .inl f409))] := ⟨_, hP, hD⟩
  refine lv_aload_n hx hb dX10_write_19 rfl (lv_at hl 1 rfl) ?_
  refine lv_dup hx hb dX10_write_20 rfl ?_
  refine va_get (D := D) (ci := 10) (v := .int 40) (C := RX10) (T := TX10) (N := 44) hx hb hts inlX10 hown hK hP 0 rfl rfl 19 (by decide) (hts _ k_298) (fun _ h9 => h9) rfl dX10_write_21 ?_
  refine lv_iconst (v := 1) hx hb dX10_write_24 (by decide) ?_
  refine lv_iadd hx hb dX10_write_25 ?_
  refine ow_i (y := 41) (by decide) ?_
  refine va_put (D := D) (ci := 10) (v := .int 41) (ty := .int) (C := RX10) (T := TX10) (N := 44) hx hb hts inlX10 tyX10 tyX10_ok nmX10 hown hK hP hD hS 0 rfl rfl 19 (by decide) (hts _ k_298) (fun _ h9 => h9) rfl (tyX10_ok 19 (by decide)) rfl rfl (Nat.le_of_ble_eq_true rfl) dX10_write_26 (fun H locs hP hD hS => ?_)
  have hP : va_P D vwCl [(h0, .inr (10, [.int v1, .int v2, .ref h2, .ref h3, .ref h4, .ref h1, .ref h5, .ref h6, .ref h7, .ref h8, .ref h9, .ref h10, .int v3, .ref h11, .ref h12, .ref h13, .ref h14, .int v4, .int v5, .int 41, .ref h15, .ref h16, .ref h17, .int v6, .ref h18, .int v7, .ref h19, .ref h20, .int v8, .ref h21, .ref h22, .int v9, .int v10, .int v11, .int v12, .int v13, .int v14, .int v15, .int v16, .ref h23, .long v17, .long v18, .long v19, .long v20])), (h1, .inl (G.1, 10, .inl v21)), (h14, .inl (G.1, 1336, .inl f409))] H := hP
  have hD : va_D A [(h0, .inr (10, [.int v1, .int v2, .ref h2, .ref h3, .ref h4, .ref h1, .ref h5, .ref h6, .ref h7, .ref h8, .ref h9, .ref h10, .int v3, .ref h11, .ref h12, .ref h13, .ref h14, .int v4, .int v5, .int 41, .ref h15, .ref h16, .ref h17, .int v6, .ref h18, .int v7, .ref h19, .ref h20, .int v8, .ref h21, .ref h22, .int v9, .int v10, .int v11, .int v12, .int v13, .int v14, .int v15, .int v16, .ref h23, .long v17, .long v18, .long v19, .long v20])), (h1, .inl (G.1, 10, .inl v21)), (h14, .inl (G.1, 1336, .inl f409))] := hD
  refine lv_iinc (v := 9) (lv' := [(3, .int 9), (0, .ref h0), (1, .ref h1), (2, .int 10)]) hx hb dX10_write_29 hl (k := 0) rfl (by decide) (by decide) rfl (fun ls hl => ?_)
  refine lv_goto (tgt := 2) hx hb dX10_write_32 (by decide) ?_
  refine lv_iload_n hx hb dX10_write_2 rfl (lv_at hl 0 rfl) ?_
  refine lv_iload_n hx hb dX10_write_3 rfl (lv_at hl 3 rfl) ?_
  refine lv_icmp_ge (tgt := 35) hx hb dX10_write_4 (by decide) (fun h9 => absurd h9 (by decide)) (fun _ => ?_)
  refine lv_aload_n hx hb dX10_write_7 rfl (lv_at hl 1 rfl) ?_
  refine va_get (D := D) (ci := 10) (v := .ref h14) (C := RX10) (T := TX10) (N := 44) hx hb hts inlX10 hown hK hP 0 rfl rfl 16 (by decide) (hts _ k_105) (fun _ h9 => h9) rfl dX10_write_8 ?_
  refine lv_aload_n hx hb dX10_write_11 rfl (lv_at hl 1 rfl) ?_
  refine va_get (D := D) (ci := 10) (v := .int 41) (C := RX10) (T := TX10) (N := 44) hx hb hts inlX10 hown hK hP 0 rfl rfl 19 (by decide) (hts _ k_298) (fun _ h9 => h9) rfl dX10_write_12 ?_
  refine lv_aload_n hx hb dX10_write_15 rfl (lv_at hl 2 rfl) ?_
  refine lv_iload_n hx hb dX10_write_16 rfl (lv_at hl 0 rfl) ?_
  refine va_iald hx hb hK hP 1 0 rfl rfl (show ¬ ((9 : Int32) < 0 ∨ 10 ≤ (9 : Int32).toNatClampNeg) by decide) dX10_write_17 ?_
  refine lv_topi (fun x410 _ => ?_)
  refine va_iast hx hb hK hP hD hS 2 0 rfl rfl (show ¬ ((41 : Int32) < 0 ∨ 1336 ≤ (41 : Int32).toNatClampNeg) by decide) dX10_write_18 (fun H locs hP hD hS => ?_)
  obtain ⟨f411, hP, hD⟩ : ∃ f411, va_P D vwCl [(h0, .inr (10, [.int v1, .int v2, .ref h2, .ref h3, .ref h4, .ref h1, .ref h5, .ref h6, .ref h7, .ref h8, .ref h9, .ref h10, .int v3, .ref h11, .ref h12, .ref h13, .ref h14, .int v4, .int v5, .int 41, .ref h15, .ref h16, .ref h17, .int v6, .ref h18, .int v7, .ref h19, .ref h20, .int v8, .ref h21, .ref h22, .int v9, .int v10, .int v11, .int v12, .int v13, .int v14, .int v15, .int v16, .ref h23, .long v17, .long v18, .long v19, .long v20])), (h1, .inl (G.1, 10, .inl v21)), (h14, .inl (G.1, 1336, .inl f411))] H ∧ va_D A [(h0, .inr (10, [.int v1, .int v2, .ref h2, .ref h3, .ref h4, .ref h1, .ref h5, .ref h6, .ref h7, .ref h8, .ref h9, .ref h10, .int v3, .ref h11, .ref h12, .ref h13, .ref h14, .int v4, .int v5, .int 41, .ref h15, .ref h16, .ref h17, .int v6, .ref h18, .int v7, .ref h19, .ref h20, .int v8, .ref h21, .ref h22, .int v9, .int v10, .int v11, .int v12, .int v13, .int v14, .int v15, .int v16, .ref h23, .long v17, .long v18, .long v19, .long v20])), (h1, .inl (G.1, 10, .inl v21)), (h14, .inl (G.1, 1336, .inl f411))] := ⟨_, hP, hD⟩
  refine lv_aload_n hx hb dX10_write_19 rfl (lv_at hl 1 rfl) ?_
  refine lv_dup hx hb dX10_write_20 rfl ?_
  refine va_get (D := D) (ci := 10) (v := .int 41) (C := RX10) (T := TX10) (N := 44) hx hb hts inlX10 hown hK hP 0 rfl rfl 19 (by decide) (hts _ k_298) (fun _ h9 => h9) rfl dX10_write_21 ?_
  refine lv_iconst (v := 1) hx hb dX10_write_24 (by decide) ?_
  refine lv_iadd hx hb dX10_write_25 ?_
  refine ow_i (y := 42) (by decide) ?_
  refine va_put (D := D) (ci := 10) (v := .int 42) (ty := .int) (C := RX10) (T := TX10) (N := 44) hx hb hts inlX10 tyX10 tyX10_ok nmX10 hown hK hP hD hS 0 rfl rfl 19 (by decide) (hts _ k_298) (fun _ h9 => h9) rfl (tyX10_ok 19 (by decide)) rfl rfl (Nat.le_of_ble_eq_true rfl) dX10_write_26 (fun H locs hP hD hS => ?_)
  have hP : va_P D vwCl [(h0, .inr (10, [.int v1, .int v2, .ref h2, .ref h3, .ref h4, .ref h1, .ref h5, .ref h6, .ref h7, .ref h8, .ref h9, .ref h10, .int v3, .ref h11, .ref h12, .ref h13, .ref h14, .int v4, .int v5, .int 42, .ref h15, .ref h16, .ref h17, .int v6, .ref h18, .int v7, .ref h19, .ref h20, .int v8, .ref h21, .ref h22, .int v9, .int v10, .int v11, .int v12, .int v13, .int v14, .int v15, .int v16, .ref h23, .long v17, .long v18, .long v19, .long v20])), (h1, .inl (G.1, 10, .inl v21)), (h14, .inl (G.1, 1336, .inl f411))] H := hP
  have hD : va_D A [(h0, .inr (10, [.int v1, .int v2, .ref h2, .ref h3, .ref h4, .ref h1, .ref h5, .ref h6, .ref h7, .ref h8, .ref h9, .ref h10, .int v3, .ref h11, .ref h12, .ref h13, .ref h14, .int v4, .int v5, .int 42, .ref h15, .ref h16, .ref h17, .int v6, .ref h18, .int v7, .ref h19, .ref h20, .int v8, .ref h21, .ref h22, .int v9, .int v10, .int v11, .int v12, .int v13, .int v14, .int v15, .int v16, .ref h23, .long v17, .long v18, .long v19, .long v20])), (h1, .inl (G.1, 10, .inl v21)), (h14, .inl (G.1, 1336, .inl f411))] := hD
  refine lv_iinc (v := 10) (lv' := [(3, .int 10), (0, .ref h0), (1, .ref h1), (2, .int 10)]) hx hb dX10_write_29 hl (k := 0) rfl (by decide) (by decide) rfl (fun ls hl => ?_)
  refine lv_goto (tgt := 2) hx hb dX10_write_32 (by decide) ?_
  refine lv_iload_n hx hb dX10_write_2 rfl (lv_at hl 0 rfl) ?_
  refine lv_iload_n hx hb dX10_write_3 rfl (lv_at hl 3 rfl) ?_
  refine lv_icmp_ge (tgt := 35) hx hb dX10_write_4 (by decide) (fun _ => ?_) (fun h9 => absurd h9 (by decide))
  exact ow_vret (u := [(h0, .inr (10, [.int v1, .int v2, .ref h2, .ref h3, .ref h4, .ref h1, .ref h5, .ref h6, .ref h7, .ref h8, .ref h9, .ref h10, .int v3, .ref h11, .ref h12, .ref h13, .ref h14, .int v4, .int v5, .int 42, .ref h15, .ref h16, .ref h17, .int v6, .ref h18, .int v7, .ref h19, .ref h20, .int v8, .ref h21, .ref h22, .int v9, .int v10, .int v11, .int v12, .int v13, .int v14, .int v15, .int v16, .ref h23, .long v17, .long v18, .long v19, .long v20])), (h1, .inl (G.1, 10, .inl v21)), (h14, .inl (G.1, 1336, .inl f411))]) hx hb hr hlocks hP hD hS [0, 1, 2] (by decide) rfl dX10_write_35 ⟨trivial, f411, rfl⟩
set_option maxHeartbeats 4000000 in
set_option maxRecDepth 100000 in
theorem c_X10_write_4 (l : Launch) (D : va_G) (G : ow_C) (h0 : Nat) (h1 : Nat) (v1 : Int32) (v2 : Int32) (h2 : Nat) (h3 : Nat) (h4 : Nat) (h5 : Nat) (h6 : Nat) (h7 : Nat) (h8 : Nat) (h9 : Nat) (h10 : Nat) (v3 : Int32) (h11 : Nat) (h12 : Nat) (h13 : Nat) (h14 : Nat) (v4 : Int32) (v5 : Int32) (h15 : Nat) (h16 : Nat) (h17 : Nat) (v6 : Int32) (h18 : Nat) (v7 : Int32) (h19 : Nat) (h20 : Nat) (v8 : Int32) (h21 : Nat) (h22 : Nat) (v9 : Int32) (v10 : Int32) (v11 : Int32) (v12 : Int32) (v13 : Int32) (v14 : Int32) (v15 : Int32) (v16 : Int32) (h23 : Nat) (v17 : Int64) (v18 : Int64) (v19 : Int64) (v20 : Int64) (v21 : Nat → Int32) (v22 : Nat → Int32) : ow_M l D G yX10_write cX10_write 4 none ({ frames := 1, cells := 0, slots := 0, locals := 64 } : Room) [.ref h0, .ref h1, .int 10] [(h0, .inr (10, [.int v1, .int v2, .ref h2, .ref h3, .ref h4, .ref h5, .ref h1, .ref h6, .ref h7, .ref h8, .ref h9, .ref h10, .int v3, .ref h11, .ref h12, .ref h13, .ref h14, .int v4, .int v5, .int 42, .ref h15, .ref h16, .ref h17, .int v6, .ref h18, .int v7, .ref h19, .ref h20, .int v8, .ref h21, .ref h22, .int v9, .int v10, .int v11, .int v12, .int v13, .int v14, .int v15, .int v16, .ref h23, .long v17, .long v18, .long v19, .long v20])), (h1, .inl (G.1, 10, .inl v21)), (h14, .inl (G.1, 1336, .inl v22))] (ow_V D (fun u => (True ∧ (∃ e0 : Nat → Int32, u = [(h0, .inr (10, [.int v1, .int v2, .ref h2, .ref h3, .ref h4, .ref h5, .ref h1, .ref h6, .ref h7, .ref h8, .ref h9, .ref h10, .int v3, .ref h11, .ref h12, .ref h13, .ref h14, .int v4, .int v5, .int 52, .ref h15, .ref h16, .ref h17, .int v6, .ref h18, .int v7, .ref h19, .ref h20, .int v8, .ref h21, .ref h22, .int v9, .int v10, .int v11, .int v12, .int v13, .int v14, .int v15, .int v16, .ref h23, .long v17, .long v18, .long v19, .long v20])), (h1, .inl (G.1, 10, .inl v21)), (h14, .inl (G.1, 1336, .inl e0))])))) 0 0 := by
  refine ow_met (by decide) (Nat.le_of_ble_eq_true rfl) ?_
  intro p e s m args below meth c A ls hE hl
  obtain ⟨hx, hb, hr, hml, hown, hlocks, hnm, hts, hN, hK, hP, hD, hA, hS⟩ := hE
  have hown : s.vm.findClass RX10 = some m.cls := hown
  have hP : va_P D vwCl [(h0, .inr (10, [.int v1, .int v2, .ref h2, .ref h3, .ref h4, .ref h5, .ref h1, .ref h6, .ref h7, .ref h8, .ref h9, .ref h10, .int v3, .ref h11, .ref h12, .ref h13, .ref h14, .int v4, .int v5, .int 42, .ref h15, .ref h16, .ref h17, .int v6, .ref h18, .int v7, .ref h19, .ref h20, .int v8, .ref h21, .ref h22, .int v9, .int v10, .int v11, .int v12, .int v13, .int v14, .int v15, .int v16, .ref h23, .long v17, .long v18, .long v19, .long v20])), (h1, .inl (G.1, 10, .inl v21)), (h14, .inl (G.1, 1336, .inl v22))] s.heap := hP
  have hD : va_D A [(h0, .inr (10, [.int v1, .int v2, .ref h2, .ref h3, .ref h4, .ref h5, .ref h1, .ref h6, .ref h7, .ref h8, .ref h9, .ref h10, .int v3, .ref h11, .ref h12, .ref h13, .ref h14, .int v4, .int v5, .int 42, .ref h15, .ref h16, .ref h17, .int v6, .ref h18, .int v7, .ref h19, .ref h20, .int v8, .ref h21, .ref h22, .int v9, .int v10, .int v11, .int v12, .int v13, .int v14, .int v15, .int v16, .ref h23, .long v17, .long v18, .long v19, .long v20])), (h1, .inl (G.1, 10, .inl v21)), (h14, .inl (G.1, 1336, .inl v22))] := hD
  have hl : lv_has ls 4 [(0, .ref h0), (1, .ref h1), (2, .int 10)] := hl
  refine lv_iconst (v := 0) hx hb dX10_write_0 (by decide) ?_
  refine lv_istore_n (lv' := [(3, .int 0), (0, .ref h0), (1, .ref h1), (2, .int 10)]) hx hb dX10_write_1 rfl hl (by decide) rfl (fun ls hl => ?_)
  refine lv_iload_n hx hb dX10_write_2 rfl (lv_at hl 0 rfl) ?_
  refine lv_iload_n hx hb dX10_write_3 rfl (lv_at hl 3 rfl) ?_
  refine lv_icmp_ge (tgt := 35) hx hb dX10_write_4 (by decide) (fun h9 => absurd h9 (by decide)) (fun _ => ?_)
  refine lv_aload_n hx hb dX10_write_7 rfl (lv_at hl 1 rfl) ?_
  refine va_get (D := D) (ci := 10) (v := .ref h14) (C := RX10) (T := TX10) (N := 44) hx hb hts inlX10 hown hK hP 0 rfl rfl 16 (by decide) (hts _ k_105) (fun _ h9 => h9) rfl dX10_write_8 ?_
  refine lv_aload_n hx hb dX10_write_11 rfl (lv_at hl 1 rfl) ?_
  refine va_get (D := D) (ci := 10) (v := .int 42) (C := RX10) (T := TX10) (N := 44) hx hb hts inlX10 hown hK hP 0 rfl rfl 19 (by decide) (hts _ k_298) (fun _ h9 => h9) rfl dX10_write_12 ?_
  refine lv_aload_n hx hb dX10_write_15 rfl (lv_at hl 2 rfl) ?_
  refine lv_iload_n hx hb dX10_write_16 rfl (lv_at hl 0 rfl) ?_
  refine va_iald hx hb hK hP 1 0 rfl rfl (show ¬ ((0 : Int32) < 0 ∨ 10 ≤ (0 : Int32).toNatClampNeg) by decide) dX10_write_17 ?_
  refine lv_topi (fun x414 _ => ?_)
  refine va_iast hx hb hK hP hD hS 2 0 rfl rfl (show ¬ ((42 : Int32) < 0 ∨ 1336 ≤ (42 : Int32).toNatClampNeg) by decide) dX10_write_18 (fun H locs hP hD hS => ?_)
  obtain ⟨f415, hP, hD⟩ : ∃ f415, va_P D vwCl [(h0, .inr (10, [.int v1, .int v2, .ref h2, .ref h3, .ref h4, .ref h5, .ref h1, .ref h6, .ref h7, .ref h8, .ref h9, .ref h10, .int v3, .ref h11, .ref h12, .ref h13, .ref h14, .int v4, .int v5, .int 42, .ref h15, .ref h16, .ref h17, .int v6, .ref h18, .int v7, .ref h19, .ref h20, .int v8, .ref h21, .ref h22, .int v9, .int v10, .int v11, .int v12, .int v13, .int v14, .int v15, .int v16, .ref h23, .long v17, .long v18, .long v19, .long v20])), (h1, .inl (G.1, 10, .inl v21)), (h14, .inl (G.1, 1336, .inl f415))] H ∧ va_D A [(h0, .inr (10, [.int v1, .int v2, .ref h2, .ref h3, .ref h4, .ref h5, .ref h1, .ref h6, .ref h7, .ref h8, .ref h9, .ref h10, .int v3, .ref h11, .ref h12, .ref h13, .ref h14, .int v4, .int v5, .int 42, .ref h15, .ref h16, .ref h17, .int v6, .ref h18, .int v7, .ref h19, .ref h20, .int v8, .ref h21, .ref h22, .int v9, .int v10, .int v11, .int v12, .int v13, .int v14, .int v15, .int v16, .ref h23, .long v17, .long v18, .long v19, .long v20])), (h1, .inl (G.1, 10, .inl v21)), (h14, .inl (G.1, 1336, .inl f415))] := ⟨_, hP, hD⟩
  refine lv_aload_n hx hb dX10_write_19 rfl (lv_at hl 1 rfl) ?_
  refine lv_dup hx hb dX10_write_20 rfl ?_
  refine va_get (D := D) (ci := 10) (v := .int 42) (C := RX10) (T := TX10) (N := 44) hx hb hts inlX10 hown hK hP 0 rfl rfl 19 (by decide) (hts _ k_298) (fun _ h9 => h9) rfl dX10_write_21 ?_
  refine lv_iconst (v := 1) hx hb dX10_write_24 (by decide) ?_
  refine lv_iadd hx hb dX10_write_25 ?_
  refine ow_i (y := 43) (by decide) ?_
  refine va_put (D := D) (ci := 10) (v := .int 43) (ty := .int) (C := RX10) (T := TX10) (N := 44) hx hb hts inlX10 tyX10 tyX10_ok nmX10 hown hK hP hD hS 0 rfl rfl 19 (by decide) (hts _ k_298) (fun _ h9 => h9) rfl (tyX10_ok 19 (by decide)) rfl rfl (Nat.le_of_ble_eq_true rfl) dX10_write_26 (fun H locs hP hD hS => ?_)
  have hP : va_P D vwCl [(h0, .inr (10, [.int v1, .int v2, .ref h2, .ref h3, .ref h4, .ref h5, .ref h1, .ref h6, .ref h7, .ref h8, .ref h9, .ref h10, .int v3, .ref h11, .ref h12, .ref h13, .ref h14, .int v4, .int v5, .int 43, .ref h15, .ref h16, .ref h17, .int v6, .ref h18, .int v7, .ref h19, .ref h20, .int v8, .ref h21, .ref h22, .int v9, .int v10, .int v11, .int v12, .int v13, .int v14, .int v15, .int v16, .ref h23, .long v17, .long v18, .long v19, .long v20])), (h1, .inl (G.1, 10, .inl v21)), (h14, .inl (G.1, 1336, .inl f415))] H := hP
  have hD : va_D A [(h0, .inr (10, [.int v1, .int v2, .ref h2, .ref h3, .ref h4, .ref h5, .ref h1, .ref h6, .ref h7, .ref h8, .ref h9, .ref h10, .int v3, .ref h11, .ref h12, .ref h13, .ref h14, .int v4, .int v5, .int 43, .ref h15, .ref h16, .ref h17, .int v6, .ref h18, .int v7, .ref h19, .ref h20, .int v8, .ref h21, .ref h22, .int v9, .int v10, .int v11, .int v12, .int v13, .int v14, .int v15, .int v16, .ref h23, .long v17, .long v18, .long v19, .long v20])), (h1, .inl (G.1, 10, .inl v21)), (h14, .inl (G.1, 1336, .inl f415))] := hD
  refine lv_iinc (v := 1) (lv' := [(3, .int 1), (0, .ref h0), (1, .ref h1), (2, .int 10)]) hx hb dX10_write_29 hl (k := 0) rfl (by decide) (by decide) rfl (fun ls hl => ?_)
  refine lv_goto (tgt := 2) hx hb dX10_write_32 (by decide) ?_
  refine lv_iload_n hx hb dX10_write_2 rfl (lv_at hl 0 rfl) ?_
  refine lv_iload_n hx hb dX10_write_3 rfl (lv_at hl 3 rfl) ?_
  refine lv_icmp_ge (tgt := 35) hx hb dX10_write_4 (by decide) (fun h9 => absurd h9 (by decide)) (fun _ => ?_)
  refine lv_aload_n hx hb dX10_write_7 rfl (lv_at hl 1 rfl) ?_
  refine va_get (D := D) (ci := 10) (v := .ref h14) (C := RX10) (T := TX10) (N := 44) hx hb hts inlX10 hown hK hP 0 rfl rfl 16 (by decide) (hts _ k_105) (fun _ h9 => h9) rfl dX10_write_8 ?_
  refine lv_aload_n hx hb dX10_write_11 rfl (lv_at hl 1 rfl) ?_
  refine va_get (D := D) (ci := 10) (v := .int 43) (C := RX10) (T := TX10) (N := 44) hx hb hts inlX10 hown hK hP 0 rfl rfl 19 (by decide) (hts _ k_298) (fun _ h9 => h9) rfl dX10_write_12 ?_
  refine lv_aload_n hx hb dX10_write_15 rfl (lv_at hl 2 rfl) ?_
  refine lv_iload_n hx hb dX10_write_16 rfl (lv_at hl 0 rfl) ?_
  refine va_iald hx hb hK hP 1 0 rfl rfl (show ¬ ((1 : Int32) < 0 ∨ 10 ≤ (1 : Int32).toNatClampNeg) by decide) dX10_write_17 ?_
  refine lv_topi (fun x416 _ => ?_)
  refine va_iast hx hb hK hP hD hS 2 0 rfl rfl (show ¬ ((43 : Int32) < 0 ∨ 1336 ≤ (43 : Int32).toNatClampNeg) by decide) dX10_write_18 (fun H locs hP hD hS => ?_)
  obtain ⟨f417, hP, hD⟩ : ∃ f417, va_P D vwCl [(h0, .inr (10, [.int v1, .int v2, .ref h2, .ref h3, .ref h4, .ref h5, .ref h1, .ref h6, .ref h7, .ref h8, .ref h9, .ref h10, .int v3, .ref h11, .ref h12, .ref h13, .ref h14, .int v4, .int v5, .int 43, .ref h15, .ref h16, .ref h17, .int v6, .ref h18, .int v7, .ref h19, .ref h20, .int v8, .ref h21, .ref h22, .int v9, .int v10, .int v11, .int v12, .int v13, .int v14, .int v15, .int v16, .ref h23, .long v17, .long v18, .long v19, .long v20])), (h1, .inl (G.1, 10, .inl v21)), (h14, .inl (G.1, 1336, .inl f417))] H ∧ va_D A [(h0, .inr (10, [.int v1, .int v2, .ref h2, .ref h3, .ref h4, .ref h5, .ref h1, .ref h6, .ref h7, .ref h8, .ref h9, .ref h10, .int v3, .ref h11, .ref h12, .ref h13, .ref h14, .int v4, .int v5, .int 43, .ref h15, .ref h16, .ref h17, .int v6, .ref h18, .int v7, .ref h19, .ref h20, .int v8, .ref h21, .ref h22, .int v9, .int v10, .int v11, .int v12, .int v13, .int v14, .int v15, .int v16, .ref h23, .long v17, .long v18, .long v19, .long v20])), (h1, .inl (G.1, 10, .inl v21)), (h14, .inl (G.1, 1336, .inl f417))] := ⟨_, hP, hD⟩
  refine lv_aload_n hx hb dX10_write_19 rfl (lv_at hl 1 rfl) ?_
  refine lv_dup hx hb dX10_write_20 rfl ?_
  refine va_get (D := D) (ci := 10) (v := .int 43) (C := RX10) (T := TX10) (N := 44) hx hb hts inlX10 hown hK hP 0 rfl rfl 19 (by decide) (hts _ k_298) (fun _ h9 => h9) rfl dX10_write_21 ?_
  refine lv_iconst (v := 1) hx hb dX10_write_24 (by decide) ?_
  refine lv_iadd hx hb dX10_write_25 ?_
  refine ow_i (y := 44) (by decide) ?_
  refine va_put (D := D) (ci := 10) (v := .int 44) (ty := .int) (C := RX10) (T := TX10) (N := 44) hx hb hts inlX10 tyX10 tyX10_ok nmX10 hown hK hP hD hS 0 rfl rfl 19 (by decide) (hts _ k_298) (fun _ h9 => h9) rfl (tyX10_ok 19 (by decide)) rfl rfl (Nat.le_of_ble_eq_true rfl) dX10_write_26 (fun H locs hP hD hS => ?_)
  have hP : va_P D vwCl [(h0, .inr (10, [.int v1, .int v2, .ref h2, .ref h3, .ref h4, .ref h5, .ref h1, .ref h6, .ref h7, .ref h8, .ref h9, .ref h10, .int v3, .ref h11, .ref h12, .ref h13, .ref h14, .int v4, .int v5, .int 44, .ref h15, .ref h16, .ref h17, .int v6, .ref h18, .int v7, .ref h19, .ref h20, .int v8, .ref h21, .ref h22, .int v9, .int v10, .int v11, .int v12, .int v13, .int v14, .int v15, .int v16, .ref h23, .long v17, .long v18, .long v19, .long v20])), (h1, .inl (G.1, 10, .inl v21)), (h14, .inl (G.1, 1336, .inl f417))] H := hP
  have hD : va_D A [(h0, .inr (10, [.int v1, .int v2, .ref h2, .ref h3, .ref h4, .ref h5, .ref h1, .ref h6, .ref h7, .ref h8, .ref h9, .ref h10, .int v3, .ref h11, .ref h12, .ref h13, .ref h14, .int v4, .int v5, .int 44, .ref h15, .ref h16, .ref h17, .int v6, .ref h18, .int v7, .ref h19, .ref h20, .int v8, .ref h21, .ref h22, .int v9, .int v10, .int v11, .int v12, .int v13, .int v14, .int v15, .int v16, .ref h23, .long v17, .long v18, .long v19, .long v20])), (h1, .inl (G.1, 10, .inl v21)), (h14, .inl (G.1, 1336, .inl f417))] := hD
  refine lv_iinc (v := 2) (lv' := [(3, .int 2), (0, .ref h0), (1, .ref h1), (2, .int 10)]) hx hb dX10_write_29 hl (k := 0) rfl (by decide) (by decide) rfl (fun ls hl => ?_)
  refine lv_goto (tgt := 2) hx hb dX10_write_32 (by decide) ?_
  refine lv_iload_n hx hb dX10_write_2 rfl (lv_at hl 0 rfl) ?_
  refine lv_iload_n hx hb dX10_write_3 rfl (lv_at hl 3 rfl) ?_
  refine lv_icmp_ge (tgt := 35) hx hb dX10_write_4 (by decide) (fun h9 => absurd h9 (by decide)) (fun _ => ?_)
  refine lv_aload_n hx hb dX10_write_7 rfl (lv_at hl 1 rfl) ?_
  refine va_get (D := D) (ci := 10) (v := .ref h14) (C := RX10) (T := TX10) (N := 44) hx hb hts inlX10 hown hK hP 0 rfl rfl 16 (by decide) (hts _ k_105) (fun _ h9 => h9) rfl dX10_write_8 ?_
  refine lv_aload_n hx hb dX10_write_11 rfl (lv_at hl 1 rfl) ?_
  refine va_get (D := D) (ci := 10) (v := .int 44) (C := RX10) (T := TX10) (N := 44) hx hb hts inlX10 hown hK hP 0 rfl rfl 19 (by decide) (hts _ k_298) (fun _ h9 => h9) rfl dX10_write_12 ?_
  refine lv_aload_n hx hb dX10_write_15 rfl (lv_at hl 2 rfl) ?_
  refine lv_iload_n hx hb dX10_write_16 rfl (lv_at hl 0 rfl) ?_
  refine va_iald hx hb hK hP 1 0 rfl rfl (show ¬ ((2 : Int32) < 0 ∨ 10 ≤ (2 : Int32).toNatClampNeg) by decide) dX10_write_17 ?_
  refine lv_topi (fun x418 _ => ?_)
  refine va_iast hx hb hK hP hD hS 2 0 rfl rfl (show ¬ ((44 : Int32) < 0 ∨ 1336 ≤ (44 : Int32).toNatClampNeg) by decide) dX10_write_18 (fun H locs hP hD hS => ?_)
  obtain ⟨f419, hP, hD⟩ : ∃ f419, va_P D vwCl [(h0, .inr (10, [.int v1, .int v2, .ref h2, .ref h3, .ref h4, .ref h5, .ref h1, .ref h6, .ref h7, .ref h8, .ref h9, .ref h10, .int v3, .ref h11, .ref h12, .ref h13, .ref h14, .int v4, .int v5, .int 44, .ref h15, .ref h16, .ref h17, .int v6, .ref h18, .int v7, .ref h19, .ref h20, .int v8, .ref h21, .ref h22, .int v9, .int v10, .int v11, .int v12, .int v13, .int v14, .int v15, .int v16, .ref h23, .long v17, .long v18, .long v19, .long v20])), (h1, .inl (G.1, 10, .inl v21)), (h14, .inl (G.1, 1336, .inl f419))] H ∧ va_D A [(h0, .inr (10, [.int v1, .int v2, .ref h2, .ref h3, .ref h4, .ref h5, .ref h1, .ref h6, .ref h7, .ref h8, .ref h9, .ref h10, .int v3, .ref h11, .ref h12, .ref h13, .ref h14, .int v4, .int v5, .int 44, .ref h15, .ref h16, .ref h17, .int v6, .ref h18, .int v7, .ref h19, .ref h20, .int v8, .ref h21, .ref h22, .int v9, .int v10, .int v11, .int v12, .int v13, .int v14, .int v15, .int v16, .ref h23, .long v17, .long v18, .long v19, .long v20])), (h1, .inl (G.1, 10, .inl v21)), (h14, .inl (G.1, 1336, .inl f419))] := ⟨_, hP, hD⟩
  refine lv_aload_n hx hb dX10_write_19 rfl (lv_at hl 1 rfl) ?_
  refine lv_dup hx hb dX10_write_20 rfl ?_
  refine va_get (D := D) (ci := 10) (v := .int 44) (C := RX10) (T := TX10) (N := 44) hx hb hts inlX10 hown hK hP 0 rfl rfl 19 (by decide) (hts _ k_298) (fun _ h9 => h9) rfl dX10_write_21 ?_
  refine lv_iconst (v := 1) hx hb dX10_write_24 (by decide) ?_
  refine lv_iadd hx hb dX10_write_25 ?_
  refine ow_i (y := 45) (by decide) ?_
  refine va_put (D := D) (ci := 10) (v := .int 45) (ty := .int) (C := RX10) (T := TX10) (N := 44) hx hb hts inlX10 tyX10 tyX10_ok nmX10 hown hK hP hD hS 0 rfl rfl 19 (by decide) (hts _ k_298) (fun _ h9 => h9) rfl (tyX10_ok 19 (by decide)) rfl rfl (Nat.le_of_ble_eq_true rfl) dX10_write_26 (fun H locs hP hD hS => ?_)
  have hP : va_P D vwCl [(h0, .inr (10, [.int v1, .int v2, .ref h2, .ref h3, .ref h4, .ref h5, .ref h1, .ref h6, .ref h7, .ref h8, .ref h9, .ref h10, .int v3, .ref h11, .ref h12, .ref h13, .ref h14, .int v4, .int v5, .int 45, .ref h15, .ref h16, .ref h17, .int v6, .ref h18, .int v7, .ref h19, .ref h20, .int v8, .ref h21, .ref h22, .int v9, .int v10, .int v11, .int v12, .int v13, .int v14, .int v15, .int v16, .ref h23, .long v17, .long v18, .long v19, .long v20])), (h1, .inl (G.1, 10, .inl v21)), (h14, .inl (G.1, 1336, .inl f419))] H := hP
  have hD : va_D A [(h0, .inr (10, [.int v1, .int v2, .ref h2, .ref h3, .ref h4, .ref h5, .ref h1, .ref h6, .ref h7, .ref h8, .ref h9, .ref h10, .int v3, .ref h11, .ref h12, .ref h13, .ref h14, .int v4, .int v5, .int 45, .ref h15, .ref h16, .ref h17, .int v6, .ref h18, .int v7, .ref h19, .ref h20, .int v8, .ref h21, .ref h22, .int v9, .int v10, .int v11, .int v12, .int v13, .int v14, .int v15, .int v16, .ref h23, .long v17, .long v18, .long v19, .long v20])), (h1, .inl (G.1, 10, .inl v21)), (h14, .inl (G.1, 1336, .inl f419))] := hD
  refine lv_iinc (v := 3) (lv' := [(3, .int 3), (0, .ref h0), (1, .ref h1), (2, .int 10)]) hx hb dX10_write_29 hl (k := 0) rfl (by decide) (by decide) rfl (fun ls hl => ?_)
  refine lv_goto (tgt := 2) hx hb dX10_write_32 (by decide) ?_
  refine lv_iload_n hx hb dX10_write_2 rfl (lv_at hl 0 rfl) ?_
  refine lv_iload_n hx hb dX10_write_3 rfl (lv_at hl 3 rfl) ?_
  refine lv_icmp_ge (tgt := 35) hx hb dX10_write_4 (by decide) (fun h9 => absurd h9 (by decide)) (fun _ => ?_)
  refine lv_aload_n hx hb dX10_write_7 rfl (lv_at hl 1 rfl) ?_
  refine va_get (D := D) (ci := 10) (v := .ref h14) (C := RX10) (T := TX10) (N := 44) hx hb hts inlX10 hown hK hP 0 rfl rfl 16 (by decide) (hts _ k_105) (fun _ h9 => h9) rfl dX10_write_8 ?_
  refine lv_aload_n hx hb dX10_write_11 rfl (lv_at hl 1 rfl) ?_
  refine va_get (D := D) (ci := 10) (v := .int 45) (C := RX10) (T := TX10) (N := 44) hx hb hts inlX10 hown hK hP 0 rfl rfl 19 (by decide) (hts _ k_298) (fun _ h9 => h9) rfl dX10_write_12 ?_
  refine lv_aload_n hx hb dX10_write_15 rfl (lv_at hl 2 rfl) ?_
  refine lv_iload_n hx hb dX10_write_16 rfl (lv_at hl 0 rfl) ?_
  refine va_iald hx hb hK hP 1 0 rfl rfl (show ¬ ((3 : Int32) < 0 ∨ 10 ≤ (3 : Int32).toNatClampNeg) by decide) dX10_write_17 ?_
  refine lv_topi (fun x420 _ => ?_)
  refine va_iast hx hb hK hP hD hS 2 0 rfl rfl (show ¬ ((45 : Int32) < 0 ∨ 1336 ≤ (45 : Int32).toNatClampNeg) by decide) dX10_write_18 (fun H locs hP hD hS => ?_)
  obtain ⟨f421, hP, hD⟩ : ∃ f421, va_P D vwCl [(h0, .inr (10, [.int v1, .int v2, .ref h2, .ref h3, .ref h4, .ref h5, .ref h1, .ref h6, .ref h7, .ref h8, .ref h9, .ref h10, .int v3, .ref h11, .ref h12, .ref h13, .ref h14, .int v4, .int v5, .int 45, .ref h15, .ref h16, .ref h17, .int v6, .ref h18, .int v7, .ref h19, .ref h20, .int v8, .ref h21, .ref h22, .int v9, .int v10, .int v11, .int v12, .int v13, .int v14, .int v15, .int v16, .ref h23, .long v17, .long v18, .long v19, .long v20])), (h1, .inl (G.1, 10, .inl v21)), (h14, .inl (G.1, 1336, .inl f421))] H ∧ va_D A [(h0, .inr (10, [.int v1, .int v2, .ref h2, .ref h3, .ref h4, .ref h5, .ref h1, .ref h6, .ref h7, .ref h8, .ref h9, .ref h10, .int v3, .ref h11, .ref h12, .ref h13, .ref h14, .int v4, .int v5, .int 45, .ref h15, .ref h16, .ref h17, .int v6, .ref h18, .int v7, .ref h19, .ref h20, .int v8, .ref h21, .ref h22, .int v9, .int v10, .int v11, .int v12, .int v13, .int v14, .int v15, .int v16, .ref h23, .long v17, .long v18, .long v19, .long v20])), (h1, .inl (G.1, 10, .inl v21)), (h14, .inl (G.1, 1336, .inl f421))] := ⟨_, hP, hD⟩
  refine lv_aload_n hx hb dX10_write_19 rfl (lv_at hl 1 rfl) ?_
  refine lv_dup hx hb dX10_write_20 rfl ?_
  refine va_get (D := D) (ci := 10) (v := .int 45) (C := RX10) (T := TX10) (N := 44) hx hb hts inlX10 hown hK hP 0 rfl rfl 19 (by decide) (hts _ k_298) (fun _ h9 => h9) rfl dX10_write_21 ?_
  refine lv_iconst (v := 1) hx hb dX10_write_24 (by decide) ?_
  refine lv_iadd hx hb dX10_write_25 ?_
  refine ow_i (y := 46) (by decide) ?_
  refine va_put (D := D) (ci := 10) (v := .int 46) (ty := .int) (C := RX10) (T := TX10) (N := 44) hx hb hts inlX10 tyX10 tyX10_ok nmX10 hown hK hP hD hS 0 rfl rfl 19 (by decide) (hts _ k_298) (fun _ h9 => h9) rfl (tyX10_ok 19 (by decide)) rfl rfl (Nat.le_of_ble_eq_true rfl) dX10_write_26 (fun H locs hP hD hS => ?_)
  have hP : va_P D vwCl [(h0, .inr (10, [.int v1, .int v2, .ref h2, .ref h3, .ref h4, .ref h5, .ref h1, .ref h6, .ref h7, .ref h8, .ref h9, .ref h10, .int v3, .ref h11, .ref h12, .ref h13, .ref h14, .int v4, .int v5, .int 46, .ref h15, .ref h16, .ref h17, .int v6, .ref h18, .int v7, .ref h19, .ref h20, .int v8, .ref h21, .ref h22, .int v9, .int v10, .int v11, .int v12, .int v13, .int v14, .int v15, .int v16, .ref h23, .long v17, .long v18, .long v19, .long v20])), (h1, .inl (G.1, 10, .inl v21)), (h14, .inl (G.1, 1336, .inl f421))] H := hP
  have hD : va_D A [(h0, .inr (10, [.int v1, .int v2, .ref h2, .ref h3, .ref h4, .ref h5, .ref h1, .ref h6, .ref h7, .ref h8, .ref h9, .ref h10, .int v3, .ref h11, .ref h12, .ref h13, .ref h14, .int v4, .int v5, .int 46, .ref h15, .ref h16, .ref h17, .int v6, .ref h18, .int v7, .ref h19, .ref h20, .int v8, .ref h21, .ref h22, .int v9, .int v10, .int v11, .int v12, .int v13, .int v14, .int v15, .int v16, .ref h23, .long v17, .long v18, .long v19, .long v20])), (h1, .inl (G.1, 10, .inl v21)), (h14, .inl (G.1, 1336, .inl f421))] := hD
  refine lv_iinc (v := 4) (lv' := [(3, .int 4), (0, .ref h0), (1, .ref h1), (2, .int 10)]) hx hb dX10_write_29 hl (k := 0) rfl (by decide) (by decide) rfl (fun ls hl => ?_)
  refine lv_goto (tgt := 2) hx hb dX10_write_32 (by decide) ?_
  refine lv_iload_n hx hb dX10_write_2 rfl (lv_at hl 0 rfl) ?_
  refine lv_iload_n hx hb dX10_write_3 rfl (lv_at hl 3 rfl) ?_
  refine lv_icmp_ge (tgt := 35) hx hb dX10_write_4 (by decide) (fun h9 => absurd h9 (by decide)) (fun _ => ?_)
  refine lv_aload_n hx hb dX10_write_7 rfl (lv_at hl 1 rfl) ?_
  refine va_get (D := D) (ci := 10) (v := .ref h14) (C := RX10) (T := TX10) (N := 44) hx hb hts inlX10 hown hK hP 0 rfl rfl 16 (by decide) (hts _ k_105) (fun _ h9 => h9) rfl dX10_write_8 ?_
  refine lv_aload_n hx hb dX10_write_11 rfl (lv_at hl 1 rfl) ?_
  refine va_get (D := D) (ci := 10) (v := .int 46) (C := RX10) (T := TX10) (N := 44) hx hb hts inlX10 hown hK hP 0 rfl rfl 19 (by decide) (hts _ k_298) (fun _ h9 => h9) rfl dX10_write_12 ?_
  refine lv_aload_n hx hb dX10_write_15 rfl (lv_at hl 2 rfl) ?_
  refine lv_iload_n hx hb dX10_write_16 rfl (lv_at hl 0 rfl) ?_
  refine va_iald hx hb hK hP 1 0 rfl rfl (show ¬ ((4 : Int32) < 0 ∨ 10 ≤ (4 : Int32).toNatClampNeg) by decide) dX10_write_17 ?_
  refine lv_topi (fun x422 _ => ?_)
  refine va_iast hx hb hK hP hD hS 2 0 rfl rfl (show ¬ ((46 : Int32) < 0 ∨ 1336 ≤ (46 : Int32).toNatClampNeg) by decide) dX10_write_18 (fun H locs hP hD hS => ?_)
  obtain ⟨f423, hP, hD⟩ : ∃ f423, va_P D vwCl [(h0, .inr (10, [.int v1, .int v2, .ref h2, .ref h3, .ref h4, .ref h5, .ref h1, .ref h6, .ref h7, .ref h8, .ref h9, .ref h10, .int v3, .ref h11, .ref h12, .ref h13, .ref h14, .int v4, .int v5, .int 46, .ref h15, .ref h16, .ref h17, .int v6, .ref h18, .int v7, .ref h19, .ref h20, .int v8, .ref h21, .ref h22, .int v9, .int v10, .int v11, .int v12, .int v13, .int v14, .int v15, .int v16, .ref h23, .long v17, .long v18, .long v19, .long v20])), (h1, .inl (G.1, 10, .inl v21)), (h14, .inl (G.1, 1336, .inl f423))] H ∧ va_D A [(h0, .inr (10, [.int v1, .int v2, .ref h2, .ref h3, .ref h4, .ref h5, .ref h1, .ref h6, .ref h7, .ref h8, .ref h9, .ref h10, .int v3, .ref h11, .ref h12, .ref h13, .ref h14, .int v4, .int v5, .int 46, .ref h15, .ref h16, .ref h17, .int v6, .ref h18, .int v7, .ref h19, .ref h20, .int v8, .ref h21, .ref h22, .int v9, .int v10, .int v11, .int v12, .int v13, .int v14, .int v15, .int v16, .ref h23, .long v17, .long v18, .long v19, .long v20])), (h1, .inl (G.1, 10, .inl v21)), (h14, .inl (G.1, 1336, .inl f423))] := ⟨_, hP, hD⟩
  refine lv_aload_n hx hb dX10_write_19 rfl (lv_at hl 1 rfl) ?_
  refine lv_dup hx hb dX10_write_20 rfl ?_
  refine va_get (D := D) (ci := 10) (v := .int 46) (C := RX10) (T := TX10) (N := 44) hx hb hts inlX10 hown hK hP 0 rfl rfl 19 (by decide) (hts _ k_298) (fun _ h9 => h9) rfl dX10_write_21 ?_
  refine lv_iconst (v := 1) hx hb dX10_write_24 (by decide) ?_
  refine lv_iadd hx hb dX10_write_25 ?_
  refine ow_i (y := 47) (by decide) ?_
  refine va_put (D := D) (ci := 10) (v := .int 47) (ty := .int) (C := RX10) (T := TX10) (N := 44) hx hb hts inlX10 tyX10 tyX10_ok nmX10 hown hK hP hD hS 0 rfl rfl 19 (by decide) (hts _ k_298) (fun _ h9 => h9) rfl (tyX10_ok 19 (by decide)) rfl rfl (Nat.le_of_ble_eq_true rfl) dX10_write_26 (fun H locs hP hD hS => ?_)
  have hP : va_P D vwCl [(h0, .inr (10, [.int v1, .int v2, .ref h2, .ref h3, .ref h4, .ref h5, .ref h1, .ref h6, .ref h7, .ref h8, .ref h9, .ref h10, .int v3, .ref h11, .ref h12, .ref h13, .ref h14, .int v4, .int v5, .int 47, .ref h15, .ref h16, .ref h17, .int v6, .ref h18, .int v7, .ref h19, .ref h20, .int v8, .ref h21, .ref h22, .int v9, .int v10, .int v11, .int v12, .int v13, .int v14, .int v15, .int v16, .ref h23, .long v17, .long v18, .long v19, .long v20])), (h1, .inl (G.1, 10, .inl v21)), (h14, .inl (G.1, 1336, .inl f423))] H := hP
  have hD : va_D A [(h0, .inr (10, [.int v1, .int v2, .ref h2, .ref h3, .ref h4, .ref h5, .ref h1, .ref h6, .ref h7, .ref h8, .ref h9, .ref h10, .int v3, .ref h11, .ref h12, .ref h13, .ref h14, .int v4, .int v5, .int 47, .ref h15, .ref h16, .ref h17, .int v6, .ref h18, .int v7, .ref h19, .ref h20, .int v8, .ref h21, .ref h22, .int v9, .int v10, .int v11, .int v12, .int v13, .int v14, .int v15, .int v16, .ref h23, .long v17, .long v18, .long v19, .long v20])), (h1, .inl (G.1, 10, .inl v21)), (h14, .inl (G.1, 1336, .inl f423))] := hD
  refine lv_iinc (v := 5) (lv' := [(3, .int 5), (0, .ref h0), (1, .ref h1), (2, .int 10)]) hx hb dX10_write_29 hl (k := 0) rfl (by decide) (by decide) rfl (fun ls hl => ?_)
  refine lv_goto (tgt := 2) hx hb dX10_write_32 (by decide) ?_
  refine lv_iload_n hx hb dX10_write_2 rfl (lv_at hl 0 rfl) ?_
  refine lv_iload_n hx hb dX10_write_3 rfl (lv_at hl 3 rfl) ?_
  refine lv_icmp_ge (tgt := 35) hx hb dX10_write_4 (by decide) (fun h9 => absurd h9 (by decide)) (fun _ => ?_)
  refine lv_aload_n hx hb dX10_write_7 rfl (lv_at hl 1 rfl) ?_
  refine va_get (D := D) (ci := 10) (v := .ref h14) (C := RX10) (T := TX10) (N := 44) hx hb hts inlX10 hown hK hP 0 rfl rfl 16 (by decide) (hts _ k_105) (fun _ h9 => h9) rfl dX10_write_8 ?_
  refine lv_aload_n hx hb dX10_write_11 rfl (lv_at hl 1 rfl) ?_
  refine va_get (D := D) (ci := 10) (v := .int 47) (C := RX10) (T := TX10) (N := 44) hx hb hts inlX10 hown hK hP 0 rfl rfl 19 (by decide) (hts _ k_298) (fun _ h9 => h9) rfl dX10_write_12 ?_
  refine lv_aload_n hx hb dX10_write_15 rfl (lv_at hl 2 rfl) ?_
  refine lv_iload_n hx hb dX10_write_16 rfl (lv_at hl 0 rfl) ?_
  refine va_iald hx hb hK hP 1 0 rfl rfl (show ¬ ((5 : Int32) < 0 ∨ 10 ≤ (5 : Int32).toNatClampNeg) by decide) dX10_write_17 ?_
  refine lv_topi (fun x424 _ => ?_)
  refine va_iast hx hb hK hP hD hS 2 0 rfl rfl (show ¬ ((47 : Int32) < 0 ∨ 1336 ≤ (47 : Int32).toNatClampNeg) by decide) dX10_write_18 (fun H locs hP hD hS => ?_)
  obtain ⟨f425, hP, hD⟩ : ∃ f425, va_P D vwCl [(h0, .inr (10, [.int v1, .int v2, .ref h2, .ref h3, .ref h4, .ref h5, .ref h1, .ref h6, .ref h7, .ref h8, .ref h9, .ref h10, .int v3, .ref h11, .ref h12, .ref h13, .ref h14, .int v4, .int v5, .int 47, .ref h15, .ref h16, .ref h17, .int v6, .ref h18, .int v7, .ref h19, .ref h20, .int v8, .ref h21, .ref h22, .int v9, .int v10, .int v11, .int v12, .int v13, .int v14, .int v15, .int v16, .ref h23, .long v17, .long v18, .long v19, .long v20])), (h1, .inl (G.1, 10, .inl v21)), (h14, .inl (G.1, 1336, .inl f425))] H ∧ va_D A [(h0, .inr (10, [.int v1, .int v2, .ref h2, .ref h3, .ref h4, .ref h5, .ref h1, .ref h6, .ref h7, .ref h8, .ref h9, .ref h10, .int v3, .ref h11, .ref h12, .ref h13, .ref h14, .int v4, .int v5, .int 47, .ref h15, .ref h16, .ref h17, .int v6, .ref h18, .int v7, .ref h19, .ref h20, .int v8, .ref h21, .ref h22, .int v9, .int v10, .int v11, .int v12, .int v13, .int v14, .int v15, .int v16, .ref h23, .long v17, .long v18, .long v19, .long v20])), (h1, .inl (G.1, 10, .inl v21)), (h14, .inl (G.1, 1336, .inl f425))] := ⟨_, hP, hD⟩
  refine lv_aload_n hx hb dX10_write_19 rfl (lv_at hl 1 rfl) ?_
  refine lv_dup hx hb dX10_write_20 rfl ?_
  refine va_get (D := D) (ci := 10) (v := .int 47) (C := RX10) (T := TX10) (N := 44) hx hb hts inlX10 hown hK hP 0 rfl rfl 19 (by decide) (hts _ k_298) (fun _ h9 => h9) rfl dX10_write_21 ?_
  refine lv_iconst (v := 1) hx hb dX10_write_24 (by decide) ?_
  refine lv_iadd hx hb dX10_write_25 ?_
  refine ow_i (y := 48) (by decide) ?_
  refine va_put (D := D) (ci := 10) (v := .int 48) (ty := .int) (C := RX10) (T := TX10) (N := 44) hx hb hts inlX10 tyX10 tyX10_ok nmX10 hown hK hP hD hS 0 rfl rfl 19 (by decide) (hts _ k_298) (fun _ h9 => h9) rfl (tyX10_ok 19 (by decide)) rfl rfl (Nat.le_of_ble_eq_true rfl) dX10_write_26 (fun H locs hP hD hS => ?_)
  have hP : va_P D vwCl [(h0, .inr (10, [.int v1, .int v2, .ref h2, .ref h3, .ref h4, .ref h5, .ref h1, .ref h6, .ref h7, .ref h8, .ref h9, .ref h10, .int v3, .ref h11, .ref h12, .ref h13, .ref h14, .int v4, .int v5, .int 48, .ref h15, .ref h16, .ref h17, .int v6, .ref h18, .int v7, .ref h19, .ref h20, .int v8, .ref h21, .ref h22, .int v9, .int v10, .int v11, .int v12, .int v13, .int v14, .int v15, .int v16, .ref h23, .long v17, .long v18, .long v19, .long v20])), (h1, .inl (G.1, 10, .inl v21)), (h14, .inl (G.1, 1336, .inl f425))] H := hP
  have hD : va_D A [(h0, .inr (10, [.int v1, .int v2, .ref h2, .ref h3, .ref h4, .ref h5, .ref h1, .ref h6, .ref h7, .ref h8, .ref h9, .ref h10, .int v3, .ref h11, .ref h12, .ref h13, .ref h14, .int v4, .int v5, .int 48, .ref h15, .ref h16, .ref h17, .int v6, .ref h18, .int v7, .ref h19, .ref h20, .int v8, .ref h21, .ref h22, .int v9, .int v10, .int v11, .int v12, .int v13, .int v14, .int v15, .int v16, .ref h23, .long v17, .long v18, .long v19, .long v20])), (h1, .inl (G.1, 10, .inl v21)), (h14, .inl (G.1, 1336, .inl f425))] := hD
  refine lv_iinc (v := 6) (lv' := [(3, .int 6), (0, .ref h0), (1, .ref h1), (2, .int 10)]) hx hb dX10_write_29 hl (k := 0) rfl (by decide) (by decide) rfl (fun ls hl => ?_)
  refine lv_goto (tgt := 2) hx hb dX10_write_32 (by decide) ?_
  refine lv_iload_n hx hb dX10_write_2 rfl (lv_at hl 0 rfl) ?_
  refine lv_iload_n hx hb dX10_write_3 rfl (lv_at hl 3 rfl) ?_
  refine lv_icmp_ge (tgt := 35) hx hb dX10_write_4 (by decide) (fun h9 => absurd h9 (by decide)) (fun _ => ?_)
  refine lv_aload_n hx hb dX10_write_7 rfl (lv_at hl 1 rfl) ?_
  refine va_get (D := D) (ci := 10) (v := .ref h14) (C := RX10) (T := TX10) (N := 44) hx hb hts inlX10 hown hK hP 0 rfl rfl 16 (by decide) (hts _ k_105) (fun _ h9 => h9) rfl dX10_write_8 ?_
  refine lv_aload_n hx hb dX10_write_11 rfl (lv_at hl 1 rfl) ?_
  refine va_get (D := D) (ci := 10) (v := .int 48) (C := RX10) (T := TX10) (N := 44) hx hb hts inlX10 hown hK hP 0 rfl rfl 19 (by decide) (hts _ k_298) (fun _ h9 => h9) rfl dX10_write_12 ?_
  refine lv_aload_n hx hb dX10_write_15 rfl (lv_at hl 2 rfl) ?_
  refine lv_iload_n hx hb dX10_write_16 rfl (lv_at hl 0 rfl) ?_
  refine va_iald hx hb hK hP 1 0 rfl rfl (show ¬ ((6 : Int32) < 0 ∨ 10 ≤ (6 : Int32).toNatClampNeg) by decide) dX10_write_17 ?_
  refine lv_topi (fun x426 _ => ?_)
  refine va_iast hx hb hK hP hD hS 2 0 rfl rfl (show ¬ ((48 : Int32) < 0 ∨ 1336 ≤ (48 : Int32).toNatClampNeg) by decide) dX10_write_18 (fun H locs hP hD hS => ?_)
  obtain ⟨f427, hP, hD⟩ : ∃ f427, va_P D vwCl [(h0, .inr (10, [.int v1, .int v2, .ref h2, .ref h3, .ref h4, .ref h5, .ref h1, .ref h6, .ref h7, .ref h8, .ref h9, .ref h10, .int v3, .ref h11, .ref h12, .ref h13, .ref h14, .int v4, .int v5, .int 48, .ref h15, .ref h16, .ref h17, .int v6, .ref h18, .int v7, .ref h19, .ref h20, .int v8, .ref h21, .ref h22, .int v9, .int v10, .int v11, .int v12, .int v13, .int v14, .int v15, .int v16, .ref h23, .long v17, .long v18, .long v19, .long v20])), (h1, .inl (G.1, 10, .inl v21)), (h14, .inl (G.1, 1336, .inl f427))] H ∧ va_D A [(h0, .inr (10, [.int v1, .int v2, .ref h2, .ref h3, .ref h4, .ref h5, .ref h1, .ref h6, .ref h7, .ref h8, .ref h9, .ref h10, .int v3, .ref h11, .ref h12, .ref h13, .ref h14, .int v4, .int v5, .int 48, .ref h15, .ref h16, .ref h17, .int v6, .ref h18, .int v7, .ref h19, .ref h20, .int v8, .ref h21, .ref h22, .int v9, .int v10, .int v11, .int v12, .int v13, .int v14, .int v15, .int v16, .ref h23, .long v17, .long v18, .long v19, .long v20])), (h1, .inl (G.1, 10, .inl v21)), (h14, .inl (G.1, 1336, .inl f427))] := ⟨_, hP, hD⟩
  refine lv_aload_n hx hb dX10_write_19 rfl (lv_at hl 1 rfl) ?_
  refine lv_dup hx hb dX10_write_20 rfl ?_
  refine va_get (D := D) (ci := 10) (v := .int 48) (C := RX10) (T := TX10) (N := 44) hx hb hts inlX10 hown hK hP 0 rfl rfl 19 (by decide) (hts _ k_298) (fun _ h9 => h9) rfl dX10_write_21 ?_
  refine lv_iconst (v := 1) hx hb dX10_write_24 (by decide) ?_
  refine lv_iadd hx hb dX10_write_25 ?_
  refine ow_i (y := 49) (by decide) ?_
  refine va_put (D := D) (ci := 10) (v := .int 49) (ty := .int) (C := RX10) (T := TX10) (N := 44) hx hb hts inlX10 tyX10 tyX10_ok nmX10 hown hK hP hD hS 0 rfl rfl 19 (by decide) (hts _ k_298) (fun _ h9 => h9) rfl (tyX10_ok 19 (by decide)) rfl rfl (Nat.le_of_ble_eq_true rfl) dX10_write_26 (fun H locs hP hD hS => ?_)
  have hP : va_P D vwCl [(h0, .inr (10, [.int v1, .int v2, .ref h2, .ref h3, .ref h4, .ref h5, .ref h1, .ref h6, .ref h7, .ref h8, .ref h9, .ref h10, .int v3, .ref h11, .ref h12, .ref h13, .ref h14, .int v4, .int v5, .int 49, .ref h15, .ref h16, .ref h17, .int v6, .ref h18, .int v7, .ref h19, .ref h20, .int v8, .ref h21, .ref h22, .int v9, .int v10, .int v11, .int v12, .int v13, .int v14, .int v15, .int v16, .ref h23, .long v17, .long v18, .long v19, .long v20])), (h1, .inl (G.1, 10, .inl v21)), (h14, .inl (G.1, 1336, .inl f427))] H := hP
  have hD : va_D A [(h0, .inr (10, [.int v1, .int v2, .ref h2, .ref h3, .ref h4, .ref h5, .ref h1, .ref h6, .ref h7, .ref h8, .ref h9, .ref h10, .int v3, .ref h11, .ref h12, .ref h13, .ref h14, .int v4, .int v5, .int 49, .ref h15, .ref h16, .ref h17, .int v6, .ref h18, .int v7, .ref h19, .ref h20, .int v8, .ref h21, .ref h22, .int v9, .int v10, .int v11, .int v12, .int v13, .int v14, .int v15, .int v16, .ref h23, .long v17, .long v18, .long v19, .long v20])), (h1, .inl (G.1, 10, .inl v21)), (h14, .inl (G.1, 1336, .inl f427))] := hD
  refine lv_iinc (v := 7) (lv' := [(3, .int 7), (0, .ref h0), (1, .ref h1), (2, .int 10)]) hx hb dX10_write_29 hl (k := 0) rfl (by decide) (by decide) rfl (fun ls hl => ?_)
  refine lv_goto (tgt := 2) hx hb dX10_write_32 (by decide) ?_
  refine lv_iload_n hx hb dX10_write_2 rfl (lv_at hl 0 rfl) ?_
  refine lv_iload_n hx hb dX10_write_3 rfl (lv_at hl 3 rfl) ?_
  refine lv_icmp_ge (tgt := 35) hx hb dX10_write_4 (by decide) (fun h9 => absurd h9 (by decide)) (fun _ => ?_)
  refine lv_aload_n hx hb dX10_write_7 rfl (lv_at hl 1 rfl) ?_
  refine va_get (D := D) (ci := 10) (v := .ref h14) (C := RX10) (T := TX10) (N := 44) hx hb hts inlX10 hown hK hP 0 rfl rfl 16 (by decide) (hts _ k_105) (fun _ h9 => h9) rfl dX10_write_8 ?_
  refine lv_aload_n hx hb dX10_write_11 rfl (lv_at hl 1 rfl) ?_
  refine va_get (D := D) (ci := 10) (v := .int 49) (C := RX10) (T := TX10) (N := 44) hx hb hts inlX10 hown hK hP 0 rfl rfl 19 (by decide) (hts _ k_298) (fun _ h9 => h9) rfl dX10_write_12 ?_
  refine lv_aload_n hx hb dX10_write_15 rfl (lv_at hl 2 rfl) ?_
  refine lv_iload_n hx hb dX10_write_16 rfl (lv_at hl 0 rfl) ?_
  refine va_iald hx hb hK hP 1 0 rfl rfl (show ¬ ((7 : Int32) < 0 ∨ 10 ≤ (7 : Int32).toNatClampNeg) by decide) dX10_write_17 ?_
  refine lv_topi (fun x428 _ => ?_)
  refine va_iast hx hb hK hP hD hS 2 0 rfl rfl (show ¬ ((49 : Int32) < 0 ∨ 1336 ≤ (49 : Int32).toNatClampNeg) by decide) dX10_write_18 (fun H locs hP hD hS => ?_)
  obtain ⟨f429, hP, hD⟩ : ∃ f429, va_P D vwCl [(h0, .inr (10, [.int v1, .int v2, .ref h2, .ref h3, .ref h4, .ref h5, .ref h1, .ref h6, .ref h7, .ref h8, .ref h9, .ref h10, .int v3, .ref h11, .ref h12, .ref h13, .ref h14, .int v4, .int v5, .int 49, .ref h15, .ref h16, .ref h17, .int v6, .ref h18, .int v7, .ref h19, .ref h20, .int v8, .ref h21, .ref h22, .int v9, .int v10, .int v11, .int v12, .int v13, .int v14, .int v15, .int v16, .ref h23, .long v17, .long v18, .long v19, .long v20])), (h1, .inl (G.1, 10, .inl v21)), (h14, .inl (G.1, 1336, .inl f429))] H ∧ va_D A [(h0, .inr (10, [.int v1, .int v2, .ref h2, .ref h3, .ref h4, .ref h5, .ref h1, .ref h6, .ref h7, .ref h8, .ref h9, .ref h10, .int v3, .ref h11, .ref h12, .ref h13, .ref h14, .int v4, .int v5, .int 49, .ref h15, .ref h16, .ref h17, .int v6, .ref h18, .int v7, .ref h19, .ref h20, .int v8, .ref h21, .ref h22, .int v9, .int v10, .int v11, .int v12, .int v13, .int v14, .int v15, .int v16, .ref h23, .long v17, .long v18, .long v19, .long v20])), (h1, .inl (G.1, 10, .inl v21)), (h14, .inl (G.1, 1336, .inl f429))] := ⟨_, hP, hD⟩
  refine lv_aload_n hx hb dX10_write_19 rfl (lv_at hl 1 rfl) ?_
  refine lv_dup hx hb dX10_write_20 rfl ?_
  refine va_get (D := D) (ci := 10) (v := .int 49) (C := RX10) (T := TX10) (N := 44) hx hb hts inlX10 hown hK hP 0 rfl rfl 19 (by decide) (hts _ k_298) (fun _ h9 => h9) rfl dX10_write_21 ?_
  refine lv_iconst (v := 1) hx hb dX10_write_24 (by decide) ?_
  refine lv_iadd hx hb dX10_write_25 ?_
  refine ow_i (y := 50) (by decide) ?_
  refine va_put (D := D) (ci := 10) (v := .int 50) (ty := .int) (C := RX10) (T := TX10) (N := 44) hx hb hts inlX10 tyX10 tyX10_ok nmX10 hown hK hP hD hS 0 rfl rfl 19 (by decide) (hts _ k_298) (fun _ h9 => h9) rfl (tyX10_ok 19 (by decide)) rfl rfl (Nat.le_of_ble_eq_true rfl) dX10_write_26 (fun H locs hP hD hS => ?_)
  have hP : va_P D vwCl [(h0, .inr (10, [.int v1, .int v2, .ref h2, .ref h3, .ref h4, .ref h5, .ref h1, .ref h6, .ref h7, .ref h8, .ref h9, .ref h10, .int v3, .ref h11, .ref h12, .ref h13, .ref h14, .int v4, .int v5, .int 50, .ref h15, .ref h16, .ref h17, .int v6, .ref h18, .int v7, .ref h19, .ref h20, .int v8, .ref h21, .ref h22, .int v9, .int v10, .int v11, .int v12, .int v13, .int v14, .int v15, .int v16, .ref h23, .long v17, .long v18, .long v19, .long v20])), (h1, .inl (G.1, 10, .inl v21)), (h14, .inl (G.1, 1336, .inl f429))] H := hP
  have hD : va_D A [(h0, .inr (10, [.int v1, .int v2, .ref h2, .ref h3, .ref h4, .ref h5, .ref h1, .ref h6, .ref h7, .ref h8, .ref h9, .ref h10, .int v3, .ref h11, .ref h12, .ref h13, .ref h14, .int v4, .int v5, .int 50, .ref h15, .ref h16, .ref h17, .int v6, .ref h18, .int v7, .ref h19, .ref h20, .int v8, .ref h21, .ref h22, .int v9, .int v10, .int v11, .int v12, .int v13, .int v14, .int v15, .int v16, .ref h23, .long v17, .long v18, .long v19, .long v20])), (h1, .inl (G.1, 10, .inl v21)), (h14, .inl (G.1, 1336, .inl f429))] := hD
  refine lv_iinc (v := 8) (lv' := [(3, .int 8), (0, .ref h0), (1, .ref h1), (2, .int 10)]) hx hb dX10_write_29 hl (k := 0) rfl (by decide) (by decide) rfl (fun ls hl => ?_)
  refine lv_goto (tgt := 2) hx hb dX10_write_32 (by decide) ?_
  refine lv_iload_n hx hb dX10_write_2 rfl (lv_at hl 0 rfl) ?_
  refine lv_iload_n hx hb dX10_write_3 rfl (lv_at hl 3 rfl) ?_
  refine lv_icmp_ge (tgt := 35) hx hb dX10_write_4 (by decide) (fun h9 => absurd h9 (by decide)) (fun _ => ?_)
  refine lv_aload_n hx hb dX10_write_7 rfl (lv_at hl 1 rfl) ?_
  refine va_get (D := D) (ci := 10) (v := .ref h14) (C := RX10) (T := TX10) (N := 44) hx hb hts inlX10 hown hK hP 0 rfl rfl 16 (by decide) (hts _ k_105) (fun _ h9 => h9) rfl dX10_write_8 ?_
  refine lv_aload_n hx hb dX10_write_11 rfl (lv_at hl 1 rfl) ?_
  refine va_get (D := D) (ci := 10) (v := .int 50) (C := RX10) (T := TX10) (N := 44) hx hb hts inlX10 hown hK hP 0 rfl rfl 19 (by decide) (hts _ k_298) (fun _ h9 => h9) rfl dX10_write_12 ?_
  refine lv_aload_n hx hb dX10_write_15 rfl (lv_at hl 2 rfl) ?_
  refine lv_iload_n hx hb dX10_write_16 rfl (lv_at hl 0 rfl) ?_
  refine va_iald hx hb hK hP 1 0 rfl rfl (show ¬ ((8 : Int32) < 0 ∨ 10 ≤ (8 : Int32).toNatClampNeg) by decide) dX10_write_17 ?_
  refine lv_topi (fun x430 _ => ?_)
  refine va_iast hx hb hK hP hD hS 2 0 rfl rfl (show ¬ ((50 : Int32) < 0 ∨ 1336 ≤ (50 : Int32).toNatClampNeg) by decide) dX10_write_18 (fun H locs hP hD hS => ?_)
  obtain ⟨f431, hP, hD⟩ : ∃ f431, va_P D vwCl [(h0, .inr (10, [.int v1, .int v2, .ref h2, .ref h3, .ref h4, .ref h5, .ref h1, .ref h6, .ref h7, .ref h8, .ref h9, .ref h10, .int v3, .ref h11, .ref h12, .ref h13, .ref h14, .int v4, .int v5, .int 50, .ref h15, .ref h16, .ref h17, .int v6, .ref h18, .int v7, .ref h19, .ref h20, .int v8, .ref h21, .ref h22, .int v9, .int v10, .int v11, .int v12, .int v13, .int v14, .int v15, .int v16, .ref h23, .long v17, .long v18, .long v19, .long v20])), (h1, .inl (G.1, 10, .inl v21)), (h14, .inl (G.1, 1336, .inl f431))] H ∧ va_D A [(h0, .inr (10, [.int v1, .int v2, .ref h2, .ref h3, .ref h4, .ref h5, .ref h1, .ref h6, .ref h7, .ref h8, .ref h9, .ref h10, .int v3, .ref h11, .ref h12, .ref h13, .ref h14, .int v4, .int v5, .int 50, .ref h15, .ref h16, .ref h17, .int v6, .ref h18, .int v7, .ref h19, .ref h20, .int v8, .ref h21, .ref h22, .int v9, .int v10, .int v11, .int v12, .int v13, .int v14, .int v15, .int v16, .ref h23, .long v17, .long v18, .long v19, .long v20])), (h1, .inl (G.1, 10, .inl v21)), (h14, .inl (G.1, 1336, .inl f431))] := ⟨_, hP, hD⟩
  refine lv_aload_n hx hb dX10_write_19 rfl (lv_at hl 1 rfl) ?_
  refine lv_dup hx hb dX10_write_20 rfl ?_
  refine va_get (D := D) (ci := 10) (v := .int 50) (C := RX10) (T := TX10) (N := 44) hx hb hts inlX10 hown hK hP 0 rfl rfl 19 (by decide) (hts _ k_298) (fun _ h9 => h9) rfl dX10_write_21 ?_
  refine lv_iconst (v := 1) hx hb dX10_write_24 (by decide) ?_
  refine lv_iadd hx hb dX10_write_25 ?_
  refine ow_i (y := 51) (by decide) ?_
  refine va_put (D := D) (ci := 10) (v := .int 51) (ty := .int) (C := RX10) (T := TX10) (N := 44) hx hb hts inlX10 tyX10 tyX10_ok nmX10 hown hK hP hD hS 0 rfl rfl 19 (by decide) (hts _ k_298) (fun _ h9 => h9) rfl (tyX10_ok 19 (by decide)) rfl rfl (Nat.le_of_ble_eq_true rfl) dX10_write_26 (fun H locs hP hD hS => ?_)
  have hP : va_P D vwCl [(h0, .inr (10, [.int v1, .int v2, .ref h2, .ref h3, .ref h4, .ref h5, .ref h1, .ref h6, .ref h7, .ref h8, .ref h9, .ref h10, .int v3, .ref h11, .ref h12, .ref h13, .ref h14, .int v4, .int v5, .int 51, .ref h15, .ref h16, .ref h17, .int v6, .ref h18, .int v7, .ref h19, .ref h20, .int v8, .ref h21, .ref h22, .int v9, .int v10, .int v11, .int v12, .int v13, .int v14, .int v15, .int v16, .ref h23, .long v17, .long v18, .long v19, .long v20])), (h1, .inl (G.1, 10, .inl v21)), (h14, .inl (G.1, 1336, .inl f431))] H := hP
  have hD : va_D A [(h0, .inr (10, [.int v1, .int v2, .ref h2, .ref h3, .ref h4, .ref h5, .ref h1, .ref h6, .ref h7, .ref h8, .ref h9, .ref h10, .int v3, .ref h11, .ref h12, .ref h13, .ref h14, .int v4, .int v5, .int 51, .ref h15, .ref h16, .ref h17, .int v6, .ref h18, .int v7, .ref h19, .ref h20, .int v8, .ref h21, .ref h22, .int v9, .int v10, .int v11, .int v12, .int v13, .int v14, .int v15, .int v16, .ref h23, .long v17, .long v18, .long v19, .long v20])), (h1, .inl (G.1, 10, .inl v21)), (h14, .inl (G.1, 1336, .inl f431))] := hD
  refine lv_iinc (v := 9) (lv' := [(3, .int 9), (0, .ref h0), (1, .ref h1), (2, .int 10)]) hx hb dX10_write_29 hl (k := 0) rfl (by decide) (by decide) rfl (fun ls hl => ?_)
  refine lv_goto (tgt := 2) hx hb dX10_write_32 (by decide) ?_
  refine lv_iload_n hx hb dX10_write_2 rfl (lv_at hl 0 rfl) ?_
  refine lv_iload_n hx hb dX10_write_3 rfl (lv_at hl 3 rfl) ?_
  refine lv_icmp_ge (tgt := 35) hx hb dX10_write_4 (by decide) (fun h9 => absurd h9 (by decide)) (fun _ => ?_)
  refine lv_aload_n hx hb dX10_write_7 rfl (lv_at hl 1 rfl) ?_
  refine va_get (D := D) (ci := 10) (v := .ref h14) (C := RX10) (T := TX10) (N := 44) hx hb hts inlX10 hown hK hP 0 rfl rfl 16 (by decide) (hts _ k_105) (fun _ h9 => h9) rfl dX10_write_8 ?_
  refine lv_aload_n hx hb dX10_write_11 rfl (lv_at hl 1 rfl) ?_
  refine va_get (D := D) (ci := 10) (v := .int 51) (C := RX10) (T := TX10) (N := 44) hx hb hts inlX10 hown hK hP 0 rfl rfl 19 (by decide) (hts _ k_298) (fun _ h9 => h9) rfl dX10_write_12 ?_
  refine lv_aload_n hx hb dX10_write_15 rfl (lv_at hl 2 rfl) ?_
  refine lv_iload_n hx hb dX10_write_16 rfl (lv_at hl 0 rfl) ?_
  refine va_iald hx hb hK hP 1 0 rfl rfl (show ¬ ((9 : Int32) < 0 ∨ 10 ≤ (9 : Int32).toNatClampNeg) by decide) dX10_write_17 ?_
  refine lv_topi (fun x432 _ => ?_)
  refine va_iast hx hb hK hP hD hS 2 0 rfl rfl (show ¬ ((51 : Int32) < 0 ∨ 1336 ≤ (51 : Int32).toNatClampNeg) by decide) dX10_write_18 (fun H locs hP hD hS => ?_)
  obtain ⟨f433, hP, hD⟩ : ∃ f433, va_P D vwCl [(h0, .inr (10, [.int v1, .int v2, .ref h2, .ref h3, .ref h4, .ref h5, .ref h1, .ref h6, .ref h7, .ref h8, .ref h9, .ref h10, .int v3, .ref h11, .ref h12, .ref h13, .ref h14, .int v4, .int v5, .int 51, .ref h15, .ref h16, .ref h17, .int v6, .ref h18, .int v7, .ref h19, .ref h20, .int v8, .ref h21, .ref h22, .int v9, .int v10, .int v11, .int v12, .int v13, .int v14, .int v15, .int v16, .ref h23, .long v17, .long v18, .long v19, .long v20])), (h1, .inl (G.1, 10, .inl v21)), (h14, .inl (G.1, 1336, .inl f433))] H ∧ va_D A [(h0, .inr (10, [.int v1, .int v2, .ref h2, .ref h3, .ref h4, .ref h5, .ref h1, .ref h6, .ref h7, .ref h8, .ref h9, .ref h10, .int v3, .ref h11, .ref h12, .ref h13, .ref h14, .int v4, .int v5, .int 51, .ref h15, .ref h16, .ref h17, .int v6, .ref h18, .int v7, .ref h19, .ref h20, .int v8, .ref h21, .ref h22, .int v9, .int v10, .int v11, .int v12, .int v13, .int v14, .int v15, .int v16, .ref h23, .long v17, .long v18, .long v19, .long v20])), (h1, .inl (G.1, 10, .inl v21)), (h14, .inl (G.1, 1336, .inl f433))] := ⟨_, hP, hD⟩
  refine lv_aload_n hx hb dX10_write_19 rfl (lv_at hl 1 rfl) ?_
  refine lv_dup hx hb dX10_write_20 rfl ?_
  refine va_get (D := D) (ci := 10) (v := .int 51) (C := RX10) (T := TX10) (N := 44) hx hb hts inlX10 hown hK hP 0 rfl rfl 19 (by decide) (hts _ k_298) (fun _ h9 => h9) rfl dX10_write_21 ?_
  refine lv_iconst (v := 1) hx hb dX10_write_24 (by decide) ?_
  refine lv_iadd hx hb dX10_write_25 ?_
  refine ow_i (y := 52) (by decide) ?_
  refine va_put (D := D) (ci := 10) (v := .int 52) (ty := .int) (C := RX10) (T := TX10) (N := 44) hx hb hts inlX10 tyX10 tyX10_ok nmX10 hown hK hP hD hS 0 rfl rfl 19 (by decide) (hts _ k_298) (fun _ h9 => h9) rfl (tyX10_ok 19 (by decide)) rfl rfl (Nat.le_of_ble_eq_true rfl) dX10_write_26 (fun H locs hP hD hS => ?_)
  have hP : va_P D vwCl [(h0, .inr (10, [.int v1, .int v2, .ref h2, .ref h3, .ref h4, .ref h5, .ref h1, .ref h6, .ref h7, .ref h8, .ref h9, .ref h10, .int v3, .ref h11, .ref h12, .ref h13, .ref h14, .int v4, .int v5, .int 52, .ref h15, .ref h16, .ref h17, .int v6, .ref h18, .int v7, .ref h19, .ref h20, .int v8, .ref h21, .ref h22, .int v9, .int v10, .int v11, .int v12, .int v13, .int v14, .int v15, .int v16, .ref h23, .long v17, .long v18, .long v19, .long v20])), (h1, .inl (G.1, 10, .inl v21)), (h14, .inl (G.1, 1336, .inl f433))] H := hP
  have hD : va_D A [(h0, .inr (10, [.int v1, .int v2, .ref h2, .ref h3, .ref h4, .ref h5, .ref h1, .ref h6, .ref h7, .ref h8, .ref h9, .ref h10, .int v3, .ref h11, .ref h12, .ref h13, .ref h14, .int v4, .int v5, .int 52, .ref h15, .ref h16, .ref h17, .int v6, .ref h18, .int v7, .ref h19, .ref h20, .int v8, .ref h21, .ref h22, .int v9, .int v10, .int v11, .int v12, .int v13, .int v14, .int v15, .int v16, .ref h23, .long v17, .long v18, .long v19, .long v20])), (h1, .inl (G.1, 10, .inl v21)), (h14, .inl (G.1, 1336, .inl f433))] := hD
  refine lv_iinc (v := 10) (lv' := [(3, .int 10), (0, .ref h0), (1, .ref h1), (2, .int 10)]) hx hb dX10_write_29 hl (k := 0) rfl (by decide) (by decide) rfl (fun ls hl => ?_)
  refine lv_goto (tgt := 2) hx hb dX10_write_32 (by decide) ?_
  refine lv_iload_n hx hb dX10_write_2 rfl (lv_at hl 0 rfl) ?_
  refine lv_iload_n hx hb dX10_write_3 rfl (lv_at hl 3 rfl) ?_
  refine lv_icmp_ge (tgt := 35) hx hb dX10_write_4 (by decide) (fun _ => ?_) (fun h9 => absurd h9 (by decide))
  exact ow_vret (u := [(h0, .inr (10, [.int v1, .int v2, .ref h2, .ref h3, .ref h4, .ref h5, .ref h1, .ref h6, .ref h7, .ref h8, .ref h9, .ref h10, .int v3, .ref h11, .ref h12, .ref h13, .ref h14, .int v4, .int v5, .int 52, .ref h15, .ref h16, .ref h17, .int v6, .ref h18, .int v7, .ref h19, .ref h20, .int v8, .ref h21, .ref h22, .int v9, .int v10, .int v11, .int v12, .int v13, .int v14, .int v15, .int v16, .ref h23, .long v17, .long v18, .long v19, .long v20])), (h1, .inl (G.1, 10, .inl v21)), (h14, .inl (G.1, 1336, .inl f433))]) hx hb hr hlocks hP hD hS [0, 1, 2] (by decide) rfl dX10_write_35 ⟨trivial, f433, rfl⟩
