set_option maxHeartbeats 4000000 in
set_option maxRecDepth 100000 in
theorem c_X10_write_5 (l : Launch) (D : va_G) (G : ow_C) (h0 : Nat) (h1 : Nat) (v1 : Int32) (v2 : Int32) (h2 : Nat) (h3 : Nat) (h4 : Nat) (h5 : Nat) (h6 : Nat) (h7 : Nat) (h8 : Nat) (h9 : Nat) (h10 : Nat) (v3 : Int32) (h11 : Nat) (h12 : Nat) (h13 : Nat) (h14 : Nat) (v4 : Int32) (v5 : Int32) (h15 : Nat) (h16 : Nat) (h17 : Nat) (v6 : Int32) (h18 : Nat) (v7 : Int32) (h19 : Nat) (h20 : Nat) (v8 : Int32) (h21 : Nat) (h22 : Nat) (v9 : Int32) (v10 : Int32) (v11 : Int32) (v12 : Int32) (v13 : Int32) (v14 : Int32) (v15 : Int32) (v16 : Int32) (h23 : Nat) (v17 : Int64) (v18 : Int64) (v19 : Int64) (v20 : Int64) (v21 : Nat → Int32) (v22 : Nat → Int32) : ow_M l D G yX10_write cX10_write 4 none ({ frames := 1, cells := 0, slots := 0, locals := 64 } : Room) [.ref h0, .ref h1, .int 10] [(h0, .inr (10, [.int v1, .int v2, .ref h2, .ref h3, .ref h4, .ref h5, .ref h6, .ref h1, .ref h7, .ref h8, .ref h9, .ref h10, .int v3, .ref h11, .ref h12, .ref h13, .ref h14, .int v4, .int v5, .int 52, .ref h15, .ref h16, .ref h17, .int v6, .ref h18, .int v7, .ref h19, .ref h20, .int v8, .ref h21, .ref h22, .int v9, .int v10, .int v11, .int v12, .int v13, .int v14, .int v15, .int v16, .ref h23, .long v17, .long v18, .long v19, .long v20])), (h1, .inl (G.1, 10, .inl v21)), (h14, .inl (G.1, 1336, .inl v22))] (ow_V D (fun u => (True ∧ (∃ e0 : Nat → Int32, u = [(h0, .inr (10, [.int v1, .int v2, .ref h2, .ref h3, .ref h4, .ref h5, .ref h6, .ref h1, .ref h7, .ref h8, .ref h9, .ref h10, .int v3, .ref h11, .ref h12, .ref h13, .ref h14, .int v4, .int v5, .int 62, .ref h15, .ref h16, .ref h17, .int v6, .ref h18, .int v7, .ref h19, .ref h20, .int v8, .ref h21, .ref h22, .int v9, .int v10, .int v11, .int v12, .int v13, .int v14, .int v15, .int v16, .ref h23, .long v17, .long v18, .long v19, .long v20])), (h1, .inl (G.1, 10, .inl v21)), (h14, .inl (G.1, 1336, .inl e0))])))) 0 0 := by
  refine ow_met (by decide) (Nat.le_of_ble_eq_true rfl) ?_
  intro p e s m args below meth c A ls hE hl
  obtain ⟨hx, hb, hr, hml, hown, hlocks, hnm, hts, hN, hK, hP, hD, hA, hS⟩ := hE
  have hown : s.vm.findClass RX10 = some m.cls := hown
  have hP : va_P D vwCl [(h0, .inr (10, [.int v1, .int v2, .ref h2, .ref h3, .ref h4, .ref h5, .ref h6, .ref h1, .ref h7, .ref h8, .ref h9, .ref h10, .int v3, .ref h11, .ref h12, .ref h13, .ref h14, .int v4, .int v5, .int 52, .ref h15, .ref h16, .ref h17, .int v6, .ref h18, .int v7, .ref h19, .ref h20, .int v8, .ref h21, .ref h22, .int v9, .int v10, .int v11, .int v12, .int v13, .int v14, .int v15, .int v16, .ref h23, .long v17, .long v18, .long v19, .long v20])), (h1, .inl (G.1, 10, .inl v21)), (h14, .inl (G.1, 1336, .inl v22))] s.heap := hP
  have hD : va_D A [(h0, .inr (10, [.int v1, .int v2, .ref h2, .ref h3, .ref h4, .ref h5, .ref h6, .ref h1, .ref h7, .ref h8, .ref h9, .ref h10, .int v3, .ref h11, .ref h12, .ref h13, .ref h14, .int v4, .int v5, .int 52, .ref h15, .ref h16, .ref h17, .int v6, .ref h18, .int v7, .ref h19, .ref h20, .int v8, .ref h21, .ref h22, .int v9, .int v10, .int v11, .int v12, .int v13, .int v14, .int v15, .int v16, .ref h23, .long v17, .long v18, .long v19, .long v20])), (h1, .inl (G.1, 10, .inl v21)), (h14, .inl (G.1, 1336, .inl v22))] := hD
  have hl : lv_has ls 4 [(0, .ref h0), (1, .ref h1), (2, .int 10)] := hl
  refine lv_iconst (v := 0) hx hb dX10_write_0 (by decide) ?_
  refine lv_istore_n (lv' := [(3, .int 0), (0, .ref h0), (1, .ref h1), (2, .int 10)]) hx hb dX10_write_1 rfl hl (by decide) rfl (fun ls hl => ?_)
  refine lv_iload_n hx hb dX10_write_2 rfl (lv_at hl 0 rfl) ?_
  refine lv_iload_n hx hb dX10_write_3 rfl (lv_at hl 3 rfl) ?_
  refine lv_icmp_ge (tgt := 35) hx hb dX10_write_4 (by decide) (fun h9 => absurd h9 (by decide)) (fun _ => ?_)
  refine lv_aload_n hx hb dX10_write_7 rfl (lv_at hl 1 rfl) ?_
  refine va_get (D := D) (ci := 10) (v := .ref h14) (C := RX10) (T := TX10) (N := 44) hx hb hts inlX10 hown hK hP 0 rfl rfl 16 (by decide) (hts _ k_105) (fun _ h9 => h9) rfl dX10_write_8 ?_
  refine lv_aload_n hx hb dX10_write_11 rfl (lv_at hl 1 rfl) ?_
  refine va_get (D := D) (ci := 10) (v := .int 52) (C := RX10) (T := TX10) (N := 44) hx hb hts inlX10 hown hK hP 0 rfl rfl 19 (by decide) (hts _ k_298) (fun _ h9 => h9) rfl dX10_write_12 ?_
  refine lv_aload_n hx hb dX10_write_15 rfl (lv_at hl 2 rfl) ?_
  refine lv_iload_n hx hb dX10_write_16 rfl (lv_at hl 0 rfl) ?_
  refine va_iald hx hb hK hP 1 0 rfl rfl (show ¬ ((0 : Int32) < 0 ∨ 10 ≤ (0 : Int32).toNatClampNeg) by decide) dX10_write_17 ?_
  refine lv_topi (fun x436 _ => ?_)
  refine va_iast hx hb hK hP hD hS 2 0 rfl rfl (show ¬ ((52 : Int32) < 0 ∨ 1336 ≤ (52 : Int32).toNatClampNeg) by decide) dX10_write_18 (fun H locs hP hD hS => ?_)
  obtain ⟨f437, hP, hD⟩ : ∃ f437, va_P D vwCl [(h0, .inr (10, [.int v1, .int v2, .ref h2, .ref h3, .ref h4, .ref h5, .ref h6, .ref h1, .ref h7, .ref h8, .ref h9, .ref h10, .int v3, .ref h11, .ref h12, .ref h13, .ref h14, .int v4, .int v5, .int 52, .ref h15, .ref h16, .ref h17, .int v6, .ref h18, .int v7, .ref h19, .ref h20, .int v8, .ref h21, .ref h22, .int v9, .int v10, .int v11, .int v12, .int v13, .int v14, .int v15, .int v16, .ref h23, .long v17, .long v18, .long v19, .long v20])), (h1, .inl (G.1, 10, .inl v21)), (h14, .inl (G.1, 1336, .inl f437))] H ∧ va_D A [(h0, .inr (10, [.int v1, .int v2, .ref h2, .ref h3, .ref h4, .ref h5, .ref h6, .ref h1, .ref h7, .ref h8, .ref h9, .ref h10, .int v3, .ref h11, .ref h12, .ref h13, .ref h14, .int v4, .int v5, .int 52, .ref h15, .ref h16, .ref h17, .int v6, .ref h18, .int v7, .ref h19, .ref h20, .int v8, .ref h21, .ref h22, .int v9, .int v10, .int v11, .int v12, .int v13, .int v14, .int v15, .int v16, .ref h23, .long v17, .long v18, .long v19, .long v20])), (h1, .inl (G.1, 10, .inl v21)), (h14, .inl (G.1, 1336, .inl f437))] := ⟨_, hP, hD⟩
  refine lv_aload_n hx hb dX10_write_19 rfl (lv_at hl 1 rfl) ?_
  refine lv_dup hx hb dX10_write_20 rfl ?_
  refine va_get (D := D) (ci := 10) (v := .int 52) (C := RX10) (T := TX10) (N := 44) hx hb hts inlX10 hown hK hP 0 rfl rfl 19 (by decide) (hts _ k_298) (fun _ h9 => h9) rfl dX10_write_21 ?_
  refine lv_iconst (v := 1) hx hb dX10_write_24 (by decide) ?_
  refine lv_iadd hx hb dX10_write_25 ?_
  refine ow_i (y := 53) (by decide) ?_
  refine va_put (D := D) (ci := 10) (v := .int 53) (ty := .int) (C := RX10) (T := TX10) (N := 44) hx hb hts inlX10 tyX10 tyX10_ok nmX10 hown hK hP hD hS 0 rfl rfl 19 (by decide) (hts _ k_298) (fun _ h9 => h9) rfl (tyX10_ok 19 (by decide)) rfl rfl (Nat.le_of_ble_eq_true rfl) dX10_write_26 (fun H locs hP hD hS => ?_)
  have hP : va_P D vwCl [(h0, .inr (10, [.int v1, .int v2, .ref h2, .ref h3, .ref h4, .ref h5, .ref h6, .ref h1, .ref h7, .ref h8, .ref h9, .ref h10, .int v3, .ref h11, .ref h12, .ref h13, .ref h14, .int v4, .int v5, .int 53, .ref h15, .ref h16, .ref h17, .int v6, .ref h18, .int v7, .ref h19, .ref h20, .int v8, .ref h21, .ref h22, .int v9, .int v10, .int v11, .int v12, .int v13, .int v14, .int v15, .int v16, .ref h23, .long v17, .long v18, .long v19, .long v20])), (h1, .inl (G.1, 10, .inl v21)), (h14, .inl (G.1, 1336, .inl f437))] H := hP
  have hD : va_D A [(h0, .inr (10, [.int v1, .int v2, .ref h2, .ref h3, .ref h4, .ref h5, .ref h6, .ref h1, .ref h7, .ref h8, .ref h9, .ref h10, .int v3, .ref h11, .ref h12, .ref h13, .ref h14, .int v4, .int v5, .int 53, .ref h15, .ref h16, .ref h17, .int v6, .ref h18, .int v7, .ref h19, .ref h20, .int v8, .ref h21, .ref h22, .int v9, .int v10, .int v11, .int v12, .int v13, .int v14, .int v15, .int v16, .ref h23, .long v17, .long v18, .long v19, .long v20])), (h1, .inl (G.1, 10, .inl v21)), (h14, .inl (G.1, 1336, .inl f437))] := hD
  refine lv_iinc (v := 1) (lv' := [(3, .int 1), (0, .ref h0), (1, .ref h1), (2, .int 10)]) hx hb dX10_write_29 hl (k := 0) rfl (by decide) (by decide) rfl (fun ls hl => ?_)
  refine lv_goto (tgt := 2) hx hb dX10_write_32 (by decide) ?_
  refine lv_iload_n hx hb dX10_write_2 rfl (lv_at hl 0 rfl) ?_
  refine lv_iload_n hx hb dX10_write_3 rfl (lv_at hl 3 rfl) ?_
  refine lv_icmp_ge (tgt := 35) hx hb dX10_write_4 (by decide) (fun h9 => absurd h9 (by decide)) (fun _ => ?_)
  refine lv_aload_n hx hb dX10_write_7 rfl (lv_at hl 1 rfl) ?_
  refine va_get (D := D) (ci := 10) (v := .ref h14) (C := RX10) (T := TX10) (N := 44) hx hb hts inlX10 hown hK hP 0 rfl rfl 16 (by decide) (hts _ k_105) (fun _ h9 => h9) rfl dX10_write_8 ?_
  refine lv_aload_n hx hb dX10_write_11 rfl (lv_at hl 1 rfl) ?_
  refine va_get (D := D) (ci := 10) (v := .int 53) (C := RX10) (T := TX10) (N := 44) hx hb hts inlX10 hown hK hP 0 rfl rfl 19 (by decide) (hts _ k_298) (fun _ h9 => h9) rfl dX10_write_12 ?_
  refine lv_aload_n hx hb dX10_write_15 rfl (lv_at hl 2 rfl) ?_
  refine lv_iload_n hx hb dX10_write_16 rfl (lv_at hl 0 rfl) ?_
  refine va_iald hx hb hK hP 1 0 rfl rfl (show ¬ ((1 : Int32) < 0 ∨ 10 ≤ (1 : Int32).toNatClampNeg) by decide) dX10_write_17 ?_
  refine lv_topi (fun x438 _ => ?_)
  refine va_iast hx hb hK hP hD hS 2 0 rfl rfl (show ¬ ((53 : Int32) < 0 ∨ 1336 ≤ (53 : Int32).toNatClampNeg) by decide) dX10_write_18 (fun H locs hP hD hS => ?_)
  obtain ⟨f439, hP, hD⟩ : ∃ f439, va_P D vwCl [(h0, .inr (10, [.int v1, .int v2, .ref h2, .ref h3, .ref h4, .ref h5, .ref h6, .ref h1, .ref h7, .ref h8, .ref h9, .ref h10, .int v3, .ref h11, .ref h12, .ref h13, .ref h14, .int v4, .int v5, .int 53, .ref h15, .ref h16, .ref h17, .int v6, .ref h18, .int v7, .ref h19, .ref h20, .int v8, .ref h21, .ref h22, .int v9, .int v10, .int v11, .int v12, .int v13, .int v14, .int v15, .int v16, .ref h23, .long v17, .long v18, .long v19, .long v20])), (h1, .inl (G.1, 10, .inl v21)), (h14, .inl (G.1, 1336, .inl f439))] H ∧ va_D A [(h0, .inr (10, [.int v1, .int v2, .ref h2, .ref h3, .ref h4, .ref h5, .ref h6, .ref h1, .ref h7, .ref h8, .ref h9, .ref h10, .int v3, .ref h11, .ref h12, .ref h13, .ref h14, .int v4, .int v5, .int 53, .ref h15, .ref h16, .ref h17, .int v6, .ref h18, .int v7, .ref h19, .ref h20, .int v8, .ref h21, .ref h22, .int v9, .int v10, .int v11, .int v12, .int v13, .int v14, .int v15, .int v16, .ref h23, .long v17, .long v18, .long v19, .long v20])), (h1, .inl (G.1, 10, .inl v21)), (h14, .inl (G.1, 1336, .inl f439))] := ⟨_, hP, hD⟩
  refine lv_aload_n hx hb dX10_write_19 rfl (lv_at hl 1 rfl) ?_
  refine lv_dup hx hb dX10_write_20 rfl ?_
  refine va_get (D := D) (ci := 10) (v := .int 53) (C := RX10) (T := TX10) (N := 44) hx hb hts inlX10 hown hK hP 0 rfl rfl 19 (by decide) (hts _ k_298) (fun _ h9 => h9) rfl dX10_write_21 ?_
  refine lv_iconst (v := 1) hx hb dX10_write_24 (by decide) ?_
  refine lv_iadd hx hb dX10_write_25 ?_
  refine ow_i (y := 54) (by decide) ?_
  refine va_put (D := D) (ci := 10) (v := .int 54) (ty := .int) (C := RX10) (T := TX10) (N := 44) hx hb hts inlX10 tyX10 tyX10_ok nmX10 hown hK hP hD hS 0 rfl rfl 19 (by decide) (hts _ k_298) (fun _ h9 => h9) rfl (tyX10_ok 19 (by decide)) rfl rfl (Nat.le_of_ble_eq_true rfl) dX10_write_26 (fun H locs hP hD hS => ?_)
  have hP : va_P D vwCl [(h0, .inr (10, [.int v1, .int v2, .ref h2, .ref h3, .ref h4, .ref h5, .ref h6, .ref h1, .ref h7, .ref h8, .ref h9, .ref h10, .int v3, .ref h11, .ref h12, .ref h13, .ref h14, .int v4, .int v5, .int 54, .ref h15, .ref h16, .ref h17, .int v6, .ref h18, .int v7, .ref h19, .ref h20, .int v8, .ref h21, .ref h22, .int v9, .int v10, .int v11, .int v12, .int v13, .int v14, .int v15, .int v16, .ref h23, .long v17, .long v18, .long v19, .long v20])), (h1, .inl (G.1, 10, .inl v21)), (h14, .inl (G.1, 1336, .inl f439))] H := hP
  have hD : va_D A [(h0, .inr (10, [.int v1, .int v2, .ref h2, .ref h3, .ref h4, .ref h5, .ref h6, .ref h1, .ref h7, .ref h8, .ref h9, .ref h10, .int v3, .ref h11, .ref h12, .ref h13, .ref h14, .int v4, .int v5, .int 54, .ref h15, .ref h16, .ref h17, .int v6, .ref h18, .int v7, .ref h19, .ref h20, .int v8, .ref h21, .ref h22, .int v9, .int v10, .int v11, .int v12, .int v13, .int v14, .int v15, .int v16, .ref h23, .long v17, .long v18, .long v19, .long v20])), (h1, .inl (G.1, 10, .inl v21)), (h14, .inl (G.1, 1336, .inl f439))] := hD
  refine lv_iinc (v := 2) (lv' := [(3, .int 2), (0, .ref h0), (1, .ref h1), (2, .int 10)]) hx hb dX10_write_29 hl (k := 0) rfl (by decide) (by decide) rfl (fun ls hl => ?_)
  refine lv_goto (tgt := 2) hx hb dX10_write_32 (by decide) ?_
  refine lv_iload_n hx hb dX10_write_2 rfl (lv_at hl 0 rfl) ?_
  refine lv_iload_n hx hb dX10_write_3 rfl (lv_at hl 3 rfl) ?_
  refine lv_icmp_ge (tgt := 35) hx hb dX10_write_4 (by decide) (fun h9 => absurd h9 (by decide)) (fun _ => ?_)
  refine lv_aload_n hx hb dX10_write_7 rfl (lv_at hl 1 rfl) ?_
  refine va_get (D := D) (ci := 10) (v := .ref h14) (C := RX10) (T := TX10) (N := 44) hx hb hts inlX10 hown hK hP 0 rfl rfl 16 (by decide) (hts _ k_105) (fun _ h9 => h9) rfl dX10_write_8 ?_
  refine lv_aload_n hx hb dX10_write_11 rfl (lv_at hl 1 rfl) ?_
  refine va_get (D := D) (ci := 10) (v := .int 54) (C := RX10) (T := TX10) (N := 44) hx hb hts inlX10 hown hK hP 0 rfl rfl 19 (by decide) (hts _ k_298) (fun _ h9 => h9) rfl dX10_write_12 ?_
  refine lv_aload_n hx hb dX10_write_15 rfl (lv_at hl 2 rfl) ?_
  refine lv_iload_n hx hb dX10_write_16 rfl (lv_at hl 0 rfl) ?_
  refine va_iald hx hb hK hP 1 0 rfl rfl (show ¬ ((2 : Int32) < 0 ∨ 10 ≤ (2 : Int32).toNatClampNeg) by decide) dX10_write_17 ?_
  refine lv_topi (fun x440 _ => ?_)
  refine va_iast hx hb hK hP hD hS 2 0 rfl rfl (show ¬ ((54 : Int32) < 0 ∨ 1336 ≤ (54 : Int32).toNatClampNeg) by decide) dX10_write_18 (fun H locs hP hD hS => ?_)
  obtain ⟨f441, hP, hD⟩ : ∃ f441, va_P D vwCl [(h0, .inr (10, [.int v1, .int v2, .ref h2, .ref h3, .ref h4, .ref h5, .ref h6, .ref h1, .ref h7, .ref h8, .ref h9, .ref h10, .int v3, .ref h11, .ref h12, .ref h13, .ref h14, .int v4, .int v5, .int 54, .ref h15, .ref h16, .ref h17, .int v6, .ref h18, .int v7, .ref h19, .ref h20, .int v8, .ref h21, .ref h22, .int v9, .int v10, .int v11, .int v12, .int v13, .int v14, .int v15, .int v16, .ref h23, .long v17, .long v18, .long v19, .long v20])), (h1, .inl (G.1, 10, .inl v21)), (h14, .inl (G.1, 1336, .inl f441))] H ∧ va_D A [(h0, .inr (10, [.int v1, .int v2, .ref h2, .ref h3, .ref h4, .ref h5, .ref h6, .ref h1, .ref h7, .ref h8, .ref h9, .ref h10, .int v3, .ref h11, .ref h12, .ref h13, .ref h14, .int v4, .int v5, .int 54, .ref h15, .ref h16, .ref h17, .int v6, .ref h18, .int v7, .ref h19, .ref h20, .int v8, .ref h21, .ref h22, .int v9, .int v10, .int v11, .int v12, .int v13, .int v14, .int v15, .int v16, .ref h23, .long v17, .long v18, .long v19, .long v20])), (h1, .inl (G.1, 10, .inl v21)), (h14, .inl (G.1, 1336, .inl f441))] := ⟨_, hP, hD⟩
  refine lv_aload_n hx hb dX10_write_19 rfl (lv_at hl 1 rfl) ?_
  refine lv_dup hx hb dX10_write_20 rfl ?_
  refine va_get (D := D) (ci := 10) (v := .int 54) (C := RX10) (T := TX10) (N := 44) hx hb hts inlX10 hown hK hP 0 rfl rfl 19 (by decide) (hts _ k_298) (fun _ h9 => h9) rfl dX10_write_21 ?_
  refine lv_iconst (v := 1) hx hb dX10_write_24 (by decide) ?_
  refine lv_iadd hx hb dX10_write_25 ?_
  refine ow_i (y := 55) (by decide) ?_
  refine va_put (D := D) (ci := 10) (v := .int 55) (ty := .int) (C := RX10) (T := TX10) (N := 44) hx hb hts inlX10 tyX10 tyX10_ok nmX10 hown hK hP hD hS 0 rfl rfl 19 (by decide) (hts _ k_298) (fun _ h9 => h9) rfl (tyX10_ok 19 (by decide)) rfl rfl (Nat.le_of_ble_eq_true rfl) dX10_write_26 (fun H locs hP hD hS => ?_)
  have hP : va_P D vwCl [(h0, .inr (10, [.int v1, .int v2, .ref h2, .ref h3, .ref h4, .ref h5, .ref h6, .ref h1, .ref h7, .ref h8, .ref h9, .ref h10, .int v3, .ref h11, .ref h12, .ref h13, .ref h14, .int v4, .int v5, .int 55, .ref h15, .ref h16, .ref h17, .int v6, .ref h18, .int v7, .ref h19, .ref h20, .int v8, .ref h21, .ref h22, .int v9, .int v10, .int v11, .int v12, .int v13, .int v14, .int v15, .int v16, .ref h23, .long v17, .long v18, .long v19, .long v20])), (h1, .inl (G.1, 10, .inl v21)), (h14, .inl (G.1, 1336, .inl f441))] H := hP
  have hD : va_D A [(h0, .inr (10, [.int v1, .int v2, .ref h2, .ref h3, .ref h4, .ref h5, .ref h6, .ref h1, .ref h7, .ref h8, .ref h9, .ref h10, .int v3, .ref h11, .ref h12, .ref h13, .ref h14, .int v4, .int v5, .int 55, .ref h15, .ref h16, .ref h17, .int v6, .ref h18, .int v7, .ref h19, .ref h20, .int v8, .ref h21, .ref h22, .int v9, .int v10, .int v11, .int v12, .int v13, .int v14, .int v15, .int v16, .ref h23, .long v17, .long v18, .long v19, .long v20])), (h1, .inl (G.1, 10, .inl v21)), (h14, .inl (G.1, 1336, .inl f441))] := hD
  refine lv_iinc (v := 3) (lv' := [(3, .int 3), (0, .ref h0), (1, .ref h1), (2, .int 10)]) hx hb dX10_write_29 hl (k := 0) rfl (by decide) (by decide) rfl (fun ls hl => ?_)
  refine lv_goto (tgt := 2) hx hb dX10_write_32 (by decide) ?_
  refine lv_iload_n hx hb dX10_write_2 rfl (lv_at hl 0 rfl) ?_
  refine lv_iload_n hx hb dX10_write_3 rfl (lv_at hl 3 rfl) ?_
  refine lv_icmp_ge (tgt := 35) hx hb dX10_write_4 (by decide) (fun h9 => absurd h9 (by decide)) (fun _ => ?_)
  refine lv_aload_n hx hb dX10_write_7 rfl (lv_at hl 1 rfl) ?_
  refine va_get (D := D) (ci := 10) (v := .ref h14) (C := RX10) (T := TX10) (N := 44) hx hb hts inlX10 hown hK hP 0 rfl rfl 16 (by decide) (hts _ k_105) (fun _ h9 => h9) rfl dX10_write_8 ?_
  refine lv_aload_n hx hb dX10_write_11 rfl (lv_at hl 1 rfl) ?_
  refine va_get (D := D) (ci := 10) (v := .int 55) (C := RX10) (T := TX10) (N := 44) hx hb hts inlX10 hown hK hP 0 rfl rfl 19 (by decide) (hts _ k_298) (fun _ h9 => h9) rfl dX10_write_12 ?_
  refine lv_aload_n hx hb dX10_write_15 rfl (lv_at hl 2 rfl) ?_
  refine lv_iload_n hx hb dX10_write_16 rfl (lv_at hl 0 rfl) ?_
  refine va_iald hx hb hK hP 1 0 rfl rfl (show ¬ ((3 : Int32) < 0 ∨ 10 ≤ (3 : Int32).toNatClampNeg) by decide) dX10_write_17 ?_
  refine lv_topi (fun x442 _ => ?_)
  refine va_iast hx hb hK hP hD hS 2 0 rfl rfl (show ¬ ((55 : Int32) < 0 ∨ 1336 ≤ (55 : Int32).toNatClampNeg) by decide) dX10_write_18 (fun H locs hP hD hS => ?_)
  obtain ⟨f443, hP, hD⟩ : ∃ f443, va_P D vwCl [(h0, .inr (10, [.int v1, .int v2, .ref h2, .ref h3, .ref h4, .ref h5, .ref h6, .ref h1, .ref h7, .ref h8, .ref h9, .ref h10, .int v3, .ref h11, .ref h12, .ref h13, .ref h14, .int v4, .int v5, .int 55, .ref h15, .ref h16, .ref h17, .int v6, .ref h18, .int v7, .ref h19, .ref h20, .int v8, .ref h21, .ref h22, .int v9, .int v10, .int v11, .int v12, .int v13, .int v14, .int v15, .int v16, .ref h23, .long v17, .long v18, .long v19, .long v20])), (h1, .inl (G.1, 10, .inl v21)), (h14, .inl (G.1, 1336, .inl f443))] H ∧ va_D A [(h0, .inr (10, [.int v1, .int v2, .ref h2, .ref h3, .ref h4, .ref h5, .ref h6, .ref h1, .ref h7, .ref h8, .ref h9, .ref h10, .int v3, .ref h11, .ref h12, .ref h13, .ref h14, .int v4, .int v5, .int 55, .ref h15, .ref h16, .ref h17, .int v6, .ref h18, .int v7, .ref h19, .ref h20, .int v8, .ref h21, .ref h22, .int v9, .int v10, .int v11, .int v12, .int v13, .int v14, .int v15, .int v16, .ref h23, .long v17, .long v18, .long v19, .long v20])), (h1, .inl (G.1, 10, .inl v21)), (h14, .inl (G.1, 1336, .inl f443))] := ⟨_, hP, hD⟩
  refine lv_aload_n hx hb dX10_write_19 rfl (lv_at hl 1 rfl) ?_
  refine lv_dup hx hb dX10_write_20 rfl ?_
  refine va_get (D := D) (ci := 10) (v := .int 55) (C := RX10) (T := TX10) (N := 44) hx hb hts inlX10 hown hK hP 0 rfl rfl 19 (by decide) (hts _ k_298) (fun _ h9 => h9) rfl dX10_write_21 ?_
  refine lv_iconst (v := 1) hx hb dX10_write_24 (by decide) ?_
  refine lv_iadd hx hb dX10_write_25 ?_
  refine ow_i (y := 56) (by decide) ?_
  refine va_put (D := D) (ci := 10) (v := .int 56) (ty := .int) (C := RX10) (T := TX10) (N := 44) hx hb hts inlX10 tyX10 tyX10_ok nmX10 hown hK hP hD hS 0 rfl rfl 19 (by decide) (hts _ k_298) (fun _ h9 => h9) rfl (tyX10_ok 19 (by decide)) rfl rfl (Nat.le_of_ble_eq_true rfl) dX10_write_26 (fun H locs hP hD hS => ?_)
  have hP : va_P D vwCl [(h0, .inr (10, [.int v1, .int v2, .ref h2, .ref h3, .ref h4, .ref h5, .ref h6, .ref h1, .ref h7, .ref h8, .ref h9, .ref h10, .int v3, .ref h11, .ref h12, .ref h13, .ref h14, .int v4, .int v5, .int 56, .ref h15, .ref h16, .ref h17, .int v6, .ref h18, .int v7, .ref h19, .ref h20, .int v8, .ref h21, .ref h22, .int v9, .int v10, .int v11, .int v12, .int v13, .int v14, .int v15, .int v16, .ref h23, .long v17, .long v18, .long v19, .long v20])), (h1, .inl (G.1, 10, .inl v21)), (h14, .inl (G.1, 1336, .inl f443))] H := hP
  have hD : va_D A [(h0, .inr (10, [.int v1, .int v2, .ref h2, .ref h3, .ref h4, .ref h5, .ref h6, .ref h1, .ref h7, .ref h8, .ref h9, .ref h10, .int v3, .ref h11, .ref h12, .ref h13, .ref h14, .int v4, .int v5, .int 56, .ref h15, .ref h16, .ref h17, .int v6, .ref h18, .int v7, .ref h19, .ref h20, .int v8, .ref h21, .ref h22, .int v9, .int v10, .int v11, .int v12, .int v13, .int v14, .int v15, .int v16, .ref h23, .long v17, .long v18, .long v19, .long v20])), (h1, .inl (G.1, 10, .inl v21)), (h14, .inl (G.1, 1336, .inl f443))] := hD
  refine lv_iinc (v := 4) (lv' := [(3, .int 4), (0, .ref h0), (1, .ref h1), (2, .int 10)]) hx hb dX10_write_29 hl (k := 0) rfl (by decide) (by decide) rfl (fun ls hl => ?_)
  refine lv_goto (tgt := 2) hx hb dX10_write_32 (by decide) ?_
  refine lv_iload_n hx hb dX10_write_2 rfl (lv_at hl 0 rfl) ?_
  refine lv_iload_n hx hb dX10_write_3 rfl (lv_at hl 3 rfl) ?_
  refine lv_icmp_ge (tgt := 35) hx hb dX10_write_4 (by decide) (fun h9 => absurd h9 (by decide)) (fun _ => ?_)
  refine lv_aload_n hx hb dX10_write_7 rfl (lv_at hl 1 rfl) ?_
  refine va_get (D := D) (ci := 10) (v := .ref h14) (C := RX10) (T := TX10) (N := 44) hx hb hts inlX10 hown hK hP 0 rfl rfl 16 (by decide) (hts _ k_105) (fun _ h9 => h9) rfl dX10_write_8 ?_
  refine lv_aload_n hx hb dX10_write_11 rfl (lv_at hl 1 rfl) ?_
  refine va_get (D := D) (ci := 10) (v := .int 56) (C := RX10) (T := TX10) (N := 44) hx hb hts inlX10 hown hK hP 0 rfl rfl 19 (by decide) (hts _ k_298) (fun _ h9 => h9) rfl dX10_write_12 ?_
  refine lv_aload_n hx hb dX10_write_15 rfl (lv_at hl 2 rfl) ?_
  refine lv_iload_n hx hb dX10_write_16 rfl (lv_at hl 0 rfl) ?_
  refine va_iald hx hb hK hP 1 0 rfl rfl (show ¬ ((4 : Int32) < 0 ∨ 10 ≤ (4 : Int32).toNatClampNeg) by decide) dX10_write_17 ?_
  refine lv_topi (fun x444 _ => ?_)
  refine va_iast hx hb hK hP hD hS 2 0 rfl rfl (show ¬ ((56 : Int32) < 0 ∨ 1336 ≤ (56 : Int32).toNatClampNeg) by decide) dX10_write_18 (fun H locs hP hD hS => ?_)
  obtain ⟨f445, hP, hD⟩ : ∃ f445, va_P D vwCl [(h0, .inr (10, [.int v1, .int v2, .ref h2, .ref h3, .ref h4, .ref h5, .ref h6, .ref h1, .ref h7, .ref h8, .ref h9, .ref h10, .int v3, .ref h11, .ref h12, .ref h13, .ref h14, .int v4, .int v5, .int 56, .ref h15, .ref h16, .ref h17, .int v6, .ref h18, .int v7, .ref h19, .ref h20, .int v8, .ref h21, .ref h22, .int v9, .int v10, .int v11, .int v12, .int v13, .int v14, .int v15, .int v16, .ref h23, .long v17, .long v18, .long v19, .long v20])), (h1, .inl (G.1, 10, .inl v21)), (h14, .inl (G.1, 1336, .inl f445))] H ∧ va_D A [(h0, .inr (10, [.int v1, .int v2, .ref h2, .ref h3, .ref h4, .ref h5, .ref h6, .ref h1, .ref h7, .ref h8, .ref h9, .ref h10, .int v3, .ref h11, .ref h12, .ref h13, .ref h14, .int v4, .int v5, .int 56, .ref h15, .ref h16, .ref h17, .int v6, .ref h18, .int v7, .ref h19, .ref h20, .int v8, .ref h21, .ref h22, .int v9, .int v10, .int v11, .int v12, .int v13, .int v14, .int v15, .int v16, .ref h23, .long v17, .long v18, .long v19, .long v20])), (h1, .inl (G.1, 10, .inl v21)), (h14, .inl (G.1, 1336, .inl f445))] := ⟨_, hP, hD⟩
  refine lv_aload_n hx hb dX10_write_19 rfl (lv_at hl 1 rfl) ?_
  refine lv_dup hx hb dX10_write_20 rfl ?_
  refine va_get (D := D) (ci := 10) (v := .int 56) (C := RX10) (T := TX10) (N := 44) hx hb hts inlX10 hown hK hP 0 rfl rfl 19 (by decide) (hts _ k_298) (fun _ h9 => h9) rfl dX10_write_21 ?_
  refine lv_iconst (v := 1) hx hb dX10_write_24 (by decide) ?_
  refine lv_iadd hx hb dX10_write_25 ?_
  refine ow_i (y := 57) (by decide) ?_
  refine va_put (D := D) (ci := 10) (v := .int 57) (ty := .int) (C := RX10) (T := TX10) (N := 44) hx hb hts inlX10 tyX10 tyX10_ok nmX10 hown hK hP hD hS 0 rfl rfl 19 (by decide) (hts _ k_298) (fun _ h9 => h9) rfl (tyX10_ok 19 (by decide)) rfl rfl (Nat.le_of_ble_eq_true rfl) dX10_write_26 (fun H locs hP hD hS => ?_)
  have hP : va_P D vwCl [(h0, .inr (10, [.int v1, .int v2, .ref h2, .ref h3, .ref h4, .ref h5, .ref h6, .ref h1, .ref h7, .ref h8, .ref h9, .ref h10, .int v3, .ref h11, .ref h12, .ref h13, .ref h14, .int v4, .int v5, .int 57, .ref h15, .ref h16, .ref h17, .int v6, .ref h18, .int v7, .ref h19, .ref h20, .int v8, .ref h21, .ref h22, .int v9, .int v10, .int v11, .int v12, .int v13, .int v14, .int v15, .int v16, .ref h23, .long v17, .long v18, .long v19, .long v20])), (h1, .inl (G.1, 10, .inl v21)), (h14, .inl (G.1, 1336, .inl f445))] H := hP
  have hD : va_D A [(h0, .inr (10, [.int v1, .int v2, .ref h2, .ref h3, .ref h4, .ref h5, .ref h6, .ref h1, .ref h7, .ref h8, .ref h9, .ref h10, .int v3, .ref h11, .ref h12, .ref h13, .ref h14, .int v4, .int v5, .int 57, .ref h15, .ref h16, .ref h17, .int v6, .ref h18, .int v7, .ref h19, .ref h20, .int v8, .ref h21, .ref h22, .int v9, .int v10, .int v11, .int v12, .int v13, .int v14, .int v15, .int v16, .ref h23, .long v17, .long v18, .long v19, .long v20])), (h1, .inl (G.1, 10, .inl v21)), (h14, .inl (G.1, 1336, .inl f445))] := hD
  refine lv_iinc (v := 5) (lv' := [(3, .int 5), (0, .ref h0), (1, .ref h1), (2, .int 10)]) hx hb dX10_write_29 hl (k := 0) rfl (by decide) (by decide) rfl (fun ls hl => ?_)
  refine lv_goto (tgt := 2) hx hb dX10_write_32 (by decide) ?_
  refine lv_iload_n hx hb dX10_write_2 rfl (lv_at hl 0 rfl) ?_
  refine lv_iload_n hx hb dX10_write_3 rfl (lv_at hl 3 rfl) ?_
  refine lv_icmp_ge (tgt := 35) hx hb dX10_write_4 (by decide) (fun h9 => absurd h9 (by decide)) (fun _ => ?_)
  refine lv_aload_n hx hb dX10_write_7 rfl (lv_at hl 1 rfl) ?_
  refine va_get (D := D) (ci := 10) (v := .ref h14) (C := RX10) (T := TX10) (N := 44) hx hb hts inlX10 hown hK hP 0 rfl rfl 16 (by decide) (hts _ k_105) (fun _ h9 => h9) rfl dX10_write_8 ?_
  refine lv_aload_n hx hb dX10_write_11 rfl (lv_at hl 1 rfl) ?_
  refine va_get (D := D) (ci := 10) (v := .int 57) (C := RX10) (T := TX10) (N := 44) hx hb hts inlX10 hown hK hP 0 rfl rfl 19 (by decide) (hts _ k_298) (fun _ h9 => h9) rfl dX10_write_12 ?_
  refine lv_aload_n hx hb dX10_write_15 rfl (lv_at hl 2 rfl) ?_
  refine lv_iload_n hx hb dX10_write_16 rfl (lv_at hl 0 rfl) ?_
  refine va_iald hx hb hK hP 1 0 rfl rfl (show ¬ ((5 : Int32) < 0 ∨ 10 ≤ (5 : Int32).toNatClampNeg) by decide) dX10_write_17 ?_
  refine lv_topi (fun x446 _ => ?_)
  refine va_iast hx hb hK hP hD hS 2 0 rfl rfl (show ¬ ((57 : Int32) < 0 ∨ 1336 ≤ (57 : Int32).toNatClampNeg) by decide) dX10_write_18 (fun H locs hP hD hS => ?_)
  obtain ⟨f447, hP, hD⟩ : ∃ f447, va_P D vwCl [(h0, .inr (10, [.int v1, .int v2, .ref h2, .ref h3, .ref h4, .ref h5, .ref h6, .ref h1, .ref h7, .ref h8, .ref h9, .ref h10, .int v3, .ref h11, .ref h12, .ref h13, .ref h14, .int v4, .int v5, .int 57, .ref h15, .ref h16, .ref h17, .int v6, .ref h18, .int v7, .ref h19, .ref h20, .int v8, .ref h21, .ref h22, .int v9, .int v10, .int v11, .int v12, .int v13, .int v14, .int v15, .int v16, .ref h23, .long v17, .long v18, .long v19, .long v20])), (h1, .inl (G.1, 10, .inl v21)), (h14, .inl (G.1, 1336, .inl f447))] H ∧ va_D A [(h0, .inr (10, [.int v1, .int v2, .ref h2, .ref h3, .ref h4, .ref h5, .ref h6, .ref h1, .ref h7, .ref h8, .ref h9, .ref h10, .int v3, .ref h11, .ref h12, .ref h13, .ref h14, .int v4, .int v5, .int 57, .ref h15, .ref h16, .ref h17, .int v6, .ref h18, .int v7, .ref h19, .ref h20, .int v8, .ref h21, .ref h22, .int v9, .int v10, .int v11, .int v12, .int v13, .int v14, .int v15, .int v16, .ref h23, .long v17, .long v18, .long v19, .long v20])), (h1, .inl (G.1, 10, .inl v21)), (h14, .inl (G.1, 1336, .inl f447))] := ⟨_, hP, hD⟩
  refine lv_aload_n hx hb dX10_write_19 rfl (lv_at hl 1 rfl) ?_
  refine lv_dup hx hb dX10_write_20 rfl ?_
  refine va_get (D := D) (ci := 10) (v := .int 57) (C := RX10) (T := TX10) (N := 44) hx hb hts inlX10 hown hK hP 0 rfl rfl 19 (by decide) (hts _ k_298) (fun _ h9 => h9) rfl dX10_write_21 ?_
  refine lv_iconst (v := 1) hx hb dX10_write_24 (by decide) ?_
  refine lv_iadd hx hb dX10_write_25 ?_
  refine ow_i (y := 58) (by decide) ?_
  refine va_put (D := D) (ci := 10) (v := .int 58) (ty := .int) (C := RX10) (T := TX10) (N := 44) hx hb hts inlX10 tyX10 tyX10_ok nmX10 hown hK hP hD hS 0 rfl rfl 19 (by decide) (hts _ k_298) (fun _ h9 => h9) rfl (tyX10_ok 19 (by decide)) rfl rfl (Nat.le_of_ble_eq_true rfl) dX10_write_26 (fun H locs hP hD hS => ?_)
  have hP : va_P D vwCl [(h0, .inr (10, [.int v1, .int v2, .ref h2, .ref h3, .ref h4, .ref h5, .ref h6, .ref h1, .ref h7, .ref h8, .ref h9, .ref h10, .int v3, .ref h11, .ref h12, .ref h13, .ref h14, .int v4, .int v5, .int 58, .ref h15, .ref h16, .ref h17, .int v6, .ref h18, .int v7, .ref h19, .ref h20, .int v8, .ref h21, .ref h22, .int v9, .int v10, .int v11, .int v12, .int v13, .int v14, .int v15, .int v16, .ref h23, .long v17, .long v18, .long v19, .long v20])), (h1, .inl (G.1, 10, .inl v21)), (h14, .inl (G.1, 1336, .inl f447))] H := hP
  have hD : va_D A [(h0, .inr (10, [.int v1, .int v2, .ref h2, .ref h3, .ref h4, .ref h5, .ref h6, .ref h1, .ref h7, .ref h8, .ref h9, .ref h10, .int v3, .ref h11, .ref h12, .ref h13, .ref h14, .int v4, .int v5, .int 58, .ref h15, .ref h16, .ref h17, .int v6, .ref h18, .int v7, .ref h19, .ref h20, .int v8, .ref h21, .ref h22, .int v9, .int v10, .int v11, .int v12, .int v13, .int v14, .int v15, .int v16, .ref h23, .long v17, .long v18, .long v19, .long v20])), (h1, .inl (G.1, 10, .inl v21)), (h14, .inl (G.1, 1336, .inl f447))] := hD
  refine lv_iinc (v := 6) (lv' := [(3, .int 6), (0, .ref h0), (1, .ref h1), (2, .int 10)]) hx hb dX10_write_29 hl (k := 0) rfl (by decide) (by decide) rfl (fun ls hl => ?_)
  refine lv_goto (tgt := 2) hx hb dX10_write_32 (by decide) ?_
  refine lv_iload_n hx hb dX10_write_2 rfl (lv_at hl 0 rfl) ?_
  refine lv_iload_n hx hb dX10_write_3 rfl (lv_at hl 3 rfl) ?_
  refine lv_icmp_ge (tgt := 35) hx hb dX10_write_4 (by decide) (fun h9 => absurd h9 (by decide)) (fun _ => ?_)
  refine lv_aload_n hx hb dX10_write_7 rfl (lv_at hl 1 rfl) ?_
  refine va_get (D := D) (ci := 10) (v := .ref h14) (C := RX10) (T := TX10) (N := 44) hx hb hts inlX10 hown hK hP 0 rfl rfl 16 (by decide) (hts _ k_105) (fun _ h9 => h9) rfl dX10_write_8 ?_
  refine lv_aload_n hx hb dX10_write_11 rfl (lv_at hl 1 rfl) ?_
  refine va_get (D := D) (ci := 10) (v := .int 58) (C := RX10) (T := TX10) (N := 44) hx hb hts inlX10 hown hK hP 0 rfl rfl 19 (by decide) (hts _ k_298) (fun _ h9 => h9) rfl dX10_write_12 ?_
  refine lv_aload_n hx hb dX10_write_15 rfl (lv_at hl 2 rfl) ?_
  refine lv_iload_n hx hb dX10_write_16 rfl (lv_at hl 0 rfl) ?_
  refine va_iald hx hb hK hP 1 0 rfl rfl (show ¬ ((6 : Int32) < 0 ∨ 10 ≤ (6 : Int32).toNatClampNeg) by decide) dX10_write_17 ?_
  refine lv_topi (fun x448 _ => ?_)
  refine va_iast hx hb hK hP hD hS 2 0 rfl rfl (show ¬ ((58 : Int32) < 0 ∨ 1336 ≤ (58 : Int32).toNatClampNeg) by decide) dX10_write_18 (fun H locs hP hD hS => ?_)
  obtain ⟨f449, hP, hD⟩ : ∃ f449, va_P D vwCl [(h0, .inr (10, [.int v1, .int v2, .ref h2, .ref h3, .ref h4, .ref h5, .ref h6, .ref h1, .ref h7, .ref h8, .ref h9, .ref h10, .int v3, .ref h11, .ref h12, .ref h13, .ref h14, .int v4, .int v5, .int 58, .ref h15, .ref h16, .ref h17, .int v6, .ref h18, .int v7, .ref h19, .ref h20, .int v8, .ref h21, .ref h22, .int v9, .int v10, .int v11, .int v12, .int v13, .int v14, .int v15, .int v16, .ref h23, .long v17, .long v18, .long v19, .long v20])), (h1, .inl (G.1, 10, .inl v21)), (h14, .inl (G.1, 1336, .inl f449))] H ∧ va_D A [(h0, .inr (10, [.int v1, .int v2, .ref h2, .ref h3, .ref h4, .ref h5, .ref h6, .ref h1, .ref h7, .ref h8, .ref h9, .ref h10, .int v3, .ref h11, .ref h12, .ref h13, .ref h14, .int v4, .int v5, .int 58, .ref h15, .ref h16, .ref h17, .int v6, .ref h18, .int v7, .ref h19, .ref h20, .int v8, .ref h21, .ref h22, .int v9, .int v10, .int v11, .int v12, .int v13, .int v14, .int v15, .int v16, .ref h23, .long v17, .long v18, .long v19, .long v20])), (h1, .inl (G.1, 10, .inl v21)), (h14, .inl (G.1, 1336, .inl f449))] := ⟨_, hP, hD⟩
  refine lv_aload_n hx hb dX10_write_19 rfl (lv_at hl 1 rfl) ?_
  refine lv_dup hx hb dX10_write_20 rfl ?_
  refine va_get (D := D) (ci := 10) (v := .int 58) (C := RX10) (T := TX10) (N := 44) hx hb hts inlX10 hown hK hP 0 rfl rfl 19 (by decide) (hts _ k_298) (fun _ h9 => h9) rfl dX10_write_21 ?_
  refine lv_iconst (v := 1) hx hb dX10_write_24 (by decide) ?_
  refine lv_iadd hx hb dX10_write_25 ?_
  refine ow_i (y := 59) (by decide) ?_
  refine va_put (D := D) (ci := 10) (v := .int 59) (ty := .int) (C := RX10) (T := TX10) (N := 44) hx hb hts inlX10 tyX10 tyX10_ok nmX10 hown hK hP hD hS 0 rfl rfl 19 (by decide) (hts _ k_298) (fun _ h9 => h9) rfl (tyX10_ok 19 (by decide)) rfl rfl (Nat.le_of_ble_eq_true rfl) dX10_write_26 (fun H locs hP hD hS => ?_)
  have hP : va_P D vwCl [(h0, .inr (10, [.int v1, .int v2, .ref h2, .ref h3, .ref h4, .ref h5, .ref h6, .ref h1, .ref h7, .ref h8, .ref h9, .ref h10, .int v3, .ref h11, .ref h12, .ref h13, .ref h14, .int v4, .int v5, .int 59, .ref h15, .ref h16, .ref h17, .int v6, .ref h18, .int v7, .ref h19, .ref h20, .int v8, .ref h21, .ref h22, .int v9, .int v10, .int v11, .int v12, .int v13, .int v14, .int v15, .int v16, .ref h23, .long v17, .long v18, .long v19, .long v20])), (h1, .inl (G.1, 10, .inl v21)), (h14, .inl (G.1, 1336, .inl f449))] H := hP
  have hD : va_D A [(h0, .inr (10, [.int v1, .int v2, .ref h2, .ref h3, .ref h4, .ref h5, .ref h6, .ref h1, .ref h7, .ref h8, .ref h9, .ref h10, .int v3, .ref h11, .ref h12, .ref h13, .ref h14, .int v4, .int v5, .int 59, .ref h15, .ref h16, .ref h17, .int v6, .ref h18, .int v7, .ref h19, .ref h20, .int v8, .ref h21, .ref h22, .int v9, .int v10, .int v11, .int v12, .int v13, .int v14, .int v15, .int v16, .ref h23, .long v17, .long v18, .long v19, .long v20])), (h1, .inl (G.1, 10, .inl v21)), (h14, .inl (G.1, 1336, .inl f449))] := hD
  refine lv_iinc (v := 7) (lv' := [(3, .int 7), (0, .ref h0), (1, .ref h1), (2, .int 10)]) hx hb dX10_write_29 hl (k := 0) rfl (by decide) (by decide) rfl (fun ls hl => ?_)
  refine lv_goto (tgt := 2) hx hb dX10_write_32 (by decide) ?_
  refine lv_iload_n hx hb dX10_write_2 rfl (lv_at hl 0 rfl) ?_
  refine lv_iload_n hx hb dX10_write_3 rfl (lv_at hl 3 rfl) ?_
  refine lv_icmp_ge (tgt := 35) hx hb dX10_write_4 (by decide) (fun h9 => absurd h9 (by decide)) (fun _ => ?_)
  refine lv_aload_n hx hb dX10_write_7 rfl (lv_at hl 1 rfl) ?_
  refine va_get (D := D) (ci := 10) (v := .ref h14) (C := RX10) (T := TX10) (N := 44) hx hb hts inlX10 hown hK hP 0 rfl rfl 16 (by decide) (hts _ k_105) (fun _ h9 => h9) rfl dX10_write_8 ?_
  refine lv_aload_n hx hb dX10_write_11 rfl (lv_at hl 1 rfl) ?_
  refine va_get (D := D) (ci := 10) (v := .int 59) (C := RX10) (T := TX10) (N := 44) hx hb hts inlX10 hown hK hP 0 rfl rfl 19 (by decide) (hts _ k_298) (fun _ h9 => h9) rfl dX10_write_12 ?_
  refine lv_aload_n hx hb dX10_write_15 rfl (lv_at hl 2 rfl) ?_
  refine lv_iload_n hx hb dX10_write_16 rfl (lv_at hl 0 rfl) ?_
  refine va_iald hx hb hK hP 1 0 rfl rfl (show ¬ ((7 : Int32) < 0 ∨ 10 ≤ (7 : Int32).toNatClampNeg) by decide) dX10_write_17 ?_
  refine lv_topi (fun x450 _ => ?_)
  refine va_iast hx hb hK hP hD hS 2 0 rfl rfl (show ¬ ((59 : Int32) < 0 ∨ 1336 ≤ (59 : Int32).toNatClampNeg) by decide) dX10_write_18 (fun H locs hP hD hS => ?_)
  obtain ⟨f451, hP, hD⟩ : ∃ f451, va_P D vwCl [(h0, .inr (10, [.int v1, .int v2, .ref h2, .ref h3, .ref h4, .ref h5, .ref h6, .ref h1, .ref h7, .ref h8, .ref h9, .ref h10, .int v3, .ref h11, .ref h12, .ref h13, .ref h14, .int v4, .int v5, .int 59, .ref h15, .ref h16, .ref h17, .int v6, .ref h18, .int v7, .ref h19, .ref h20, .int v8, .ref h21, .ref h22, .int v9, .int v10, .int v11, .int v12, .int v13, .int v14, .int v15, .int v16, .ref h23, .long v17, .long v18, .long v19, .long v20])), (h1, .inl (G.1, 10, .inl v21)), (h14, .inl (G.1, 1336, .inl f451))] H ∧ va_D A [(h0, .inr (10, [.int v1, .int v2, .ref h2, .ref h3, .ref h4, .ref h5, .ref h6, .ref h1, .ref h7, .ref h8, .ref h9, .ref h10, .int v3, .ref h11, .ref h12, .ref h13, .ref h14, .int v4, .int v5, .int 59, .ref h15, .ref h16, .ref h17, .int v6, .ref h18, .int v7, .ref h19, .ref h20, .int v8, .ref h21, .ref h22, .int v9, .int v10, .int v11, .int v12, .int v13, .int v14, .int v15, .int v16, .ref h23, .long v17, .long v18, .long v19, .long v20])), (h1, .inl (G.1, 10, .inl v21)), (h14, .inl (G.1, 1336, .inl f451))] := ⟨_, hP, hD⟩
  refine lv_aload_n hx hb dX10_write_19 rfl (lv_at hl 1 rfl) ?_
  refine lv_dup hx hb dX10_write_20 rfl ?_
  refine va_get (D := D) (ci := 10) (v := .int 59) (C := RX10) (T := TX10) (N := 44) hx hb hts inlX10 hown hK hP 0 rfl rfl 19 (by decide) (hts _ k_298) (fun _ h9 => h9) rfl dX10_write_21 ?_
  refine lv_iconst (v := 1) hx hb dX10_write_24 (by decide) ?_
  refine lv_iadd hx hb dX10_write_25 ?_
  refine ow_i (y := 60) (by decide) ?_
  refine va_put (D := D) (ci := 10) (v := .int 60) (ty := .int) (C := RX10) (T := TX10) (N := 44) hx hb hts inlX10 tyX10 tyX10_ok nmX10 hown hK hP hD hS 0 rfl rfl 19 (by decide) (hts _ k_298) (fun _ h9 => h9) rfl (tyX10_ok 19 (by decide)) rfl rfl (Nat.le_of_ble_eq_true rfl) dX10_write_26 (fun H locs hP hD hS => ?_)
  have hP : va_P D vwCl [(h0, .inr (10, [.int v1, .int v2, .ref h2, .ref h3, .ref h4, .ref h5, .ref h6, .ref h1, .ref h7, .ref h8, .ref h9, .ref h10, .int v3, .ref h11, .ref h12, .ref h13, .ref h14, .int v4, .int v5, .int 60, .ref h15, .ref h16, .ref h17, .int v6, .ref h18, .int v7, .ref h19, .ref h20, .int v8, .ref h21, .ref h22, .int v9, .int v10, .int v11, .int v12, .int v13, .int v14, .int v15, .int v16, .ref h23, .long v17, .long v18, .long v19, .long v20])), (h1, .inl (G.1, 10, .inl v21)), (h14, .inl (G.1, 1336, .inl f451))] H := hP
  have hD : va_D A [(h0, .inr (10, [.int v1, .int v2, .ref h2, .ref h3, .ref h4, .ref h5, .ref h6, .ref h1, .ref h7, .ref h8, .ref h9, .ref h10, .int v3, .ref h11, .ref h12, .ref h13, .ref h14, .int v4, .int v5, .int 60, .ref h15, .ref h16, .ref h17, .int v6, .ref h18, .int v7, .ref h19, .ref h20, .int v8, .ref h21, .ref h22, .int v9, .int v10, .int v11, .int v12, .int v13, .int v14, .int v15, .int v16, .ref h23, .long v17, .long v18, .long v19, .long v20])), (h1, .inl (G.1, 10, .inl v21)), (h14, .inl (G.1, 1336, .inl f451))] := hD
  refine lv_iinc (v := 8) (lv' := [(3, .int 8), (0, .ref h0), (1, .ref h1), (2, .int 10)]) hx hb dX10_write_29 hl (k := 0) rfl (by decide) (by decide) rfl (fun ls hl => ?_)
  refine lv_goto (tgt := 2) hx hb dX10_write_32 (by decide) ?_
  refine lv_iload_n hx hb dX10_write_2 rfl (lv_at hl 0 rfl) ?_
  refine lv_iload_n hx hb dX10_write_3 rfl (lv_at hl 3 rfl) ?_
  refine lv_icmp_ge (tgt := 35) hx hb dX10_write_4 (by decide) (fun h9 => absurd h9 (by decide)) (fun _ => ?_)
  refine lv_aload_n hx hb dX10_write_7 rfl (lv_at hl 1 rfl) ?_
  refine va_get (D := D) (ci := 10) (v := .ref h14) (C := RX10) (T := TX10) (N := 44) hx hb hts inlX10 hown hK hP 0 rfl rfl 16 (by decide) (hts _ k_105) (fun _ h9 => h9) rfl dX10_write_8 ?_
  refine lv_aload_n hx hb dX10_write_11 rfl (lv_at hl 1 rfl) ?_
  refine va_get (D := D) (ci := 10) (v := .int 60) (C := RX10) (T := TX10) (N := 44) hx hb hts inlX10 hown hK hP 0 rfl rfl 19 (by decide) (hts _ k_298) (fun _ h9 => h9) rfl dX10_write_12 ?_
  refine lv_aload_n hx hb dX10_write_15 rfl (lv_at hl 2 rfl) ?_
  refine lv_iload_n hx hb dX10_write_16 rfl (lv_at hl 0 rfl) ?_
  refine va_iald hx hb hK hP 1 0 rfl rfl (show ¬ ((8 : Int32) < 0 ∨ 10 ≤ (8 : Int32).toNatClampNeg) by decide) dX10_write_17 ?_
  refine lv_topi (fun x452 _ => ?_)
  refine va_iast hx hb hK hP hD hS 2 0 rfl rfl (show ¬ ((60 : Int32) < 0 ∨ 1336 ≤ (60 : Int32).toNatClampNeg) by decide) dX10_write_18 (fun H locs hP hD hS => ?_)
  obtain ⟨f453, hP, hD⟩ : ∃ f453, va_P D vwCl [(h0, .inr (10, [.int v1, .int v2, .ref h2, .ref h3, .ref h4, .ref h5, .ref h6, .ref h1, .ref h7, .ref h8, .ref h9, .ref h10, .int v3, .ref h11, .ref h12, .ref h13, .ref h14, .int v4, .int v5, .int 60, .ref h15, .ref h16, .ref h17, .int v6, .ref h18, .int v7, .ref h19, .ref h20, .int v8, .ref h21, .ref h22, .int v9, .int v10, .int v11, .int v12, .int v13, .int v14, .int v15, .int v16, .ref h23, .long v17, .long v18, .long v19, .long v20])), (h1, .inl (G.1, 10, .inl v21)), (h14, .inl (G.1, 1336, .inl f453))] H ∧ va_D A [(h0, .inr (10, [.int v1, .int v2, .ref h2, .ref h3, .ref h4, .ref h5, .ref h6, .ref h1, .ref h7, .ref h8, .ref h9, .ref h10, .int v3, .ref h11, .ref h12, .ref h13, .ref h14, .int v4, .int v5, .int 60, .ref h15, .ref h16, .ref h17, .int v6, .ref h18, .int v7, .ref h19, .ref h20, .int v8, .ref h21, .ref h22, .int v9, .int v10, .int v11, .int v12, .int v13, .int v14, .int v15, .int v16, .ref h23, .long v17, .long v18, .long v19, .long v20])), (h1, .inl (G.1, 10, .inl v21)), (h14, .inl (G.1, 1336, .inl f453))] := ⟨_, hP, hD⟩
  refine lv_aload_n hx hb dX10_write_19 rfl (lv_at hl 1 rfl) ?_
  refine lv_dup hx hb dX10_write_20 rfl ?_
  refine va_get (D := D) (ci := 10) (v := .int 60) (C := RX10) (T := TX10) (N := 44) hx hb hts inlX10 hown hK hP 0 rfl rfl 19 (by decide) (hts _ k_298) (fun _ h9 => h9) rfl dX10_write_21 ?_
  refine lv_iconst (v := 1) hx hb dX10_write_24 (by decide) ?_
  refine lv_iadd hx hb dX10_write_25 ?_
  refine ow_i (y := 61) (by decide) ?_
  refine va_put (D := D) (ci := 10) (v := .int 61) (ty := .int) (C := RX10) (T := TX10) (N := 44) hx hb hts inlX10 tyX10 tyX10_ok nmX10 hown hK hP hD hS 0 rfl rfl 19 (by decide) (hts _ k_298) (fun _ h9 => h9) rfl (tyX10_ok 19 (by decide)) rfl rfl (Nat.le_of_ble_eq_true rfl) dX10_write_26 (fun H locs hP hD hS => ?_)
  have hP : va_P D vwCl [(h0, .inr (10, [.int v1, .int v2, .ref h2, .ref h3, .ref h4, .ref h5, .ref h6, .ref h1, .ref h7, .ref h8, .ref h9, .ref h10, .int v3, .ref h11, .ref h12, .ref h13, .ref h14, .int v4, .int v5, .int 61, .ref h15, .ref h16, .ref h17, .int v6, .ref h18, .int v7, .ref h19, .ref h20, .int v8, .ref h21, .ref h22, .int v9, .int v10, .int v11, .int v12, .int v13, .int v14, .int v15, .int v16, .ref h23, .long v17, .long v18, .long v19, .long v20])), (h1, .inl (G.1, 10, .inl v21)), (h14, .inl (G.1, 1336, .inl f453))] H := hP
  have hD : va_D A [(h0, .inr (10, [.int v1, .int v2, .ref h2, .ref h3, .ref h4, .ref h5, .ref h6, .ref h1, .ref h7, .ref h8, .ref h9, .ref h10, .int v3, .ref h11, .ref h12, .ref h13, .ref h14, .int v4, .int v5, .int 61, .ref h15, .ref h16, .ref h17, .int v6, .ref h18, .int v7, .ref h19, .ref h20, .int v8, .ref h21, .ref h22, .int v9, .int v10, .int v11, .int v12, .int v13, .int v14, .int v15, .int v16, .ref h23, .long v17, .long v18, .long v19, .long v20])), (h1, .inl (G.1, 10, .inl v21)), (h14, .inl (G.1, 1336, .inl f453))] := hD
  refine lv_iinc (v := 9) (lv' := [(3, .int 9), (0, .ref h0), (1, .ref h1), (2, .int 10)]) hx hb dX10_write_29 hl (k := 0) rfl (by decide) (by decide) rfl (fun ls hl => ?_)
  refine lv_goto (tgt := 2) hx hb dX10_write_32 (by decide) ?_
  refine lv_iload_n hx hb dX10_write_2 rfl (lv_at hl 0 rfl) ?_
  refine lv_iload_n hx hb dX10_write_3 rfl (lv_at hl 3 rfl) ?_
  refine lv_icmp_ge (tgt := 35) hx hb dX10_write_4 (by decide) (fun h9 => absurd h9 (by decide)) (fun _ => ?_)
  refine lv_aload_n hx hb dX10_write_7 rfl (lv_at hl 1 rfl) ?_
  refine va_get (D := D) (ci := 10) (v := .ref h14) (C := RX10) (T := TX10) (N := 44) hx hb hts inlX10 hown hK hP 0 rfl rfl 16 (by decide) (hts _ k_105) (fun _ h9 => h9) rfl dX10_write_8 ?_
  refine lv_aload_n hx hb dX10_write_11 rfl (lv_at hl 1 rfl) ?_
  refine va_get (D := D) (ci := 10) (v := .int 61) (C := RX10) (T := TX10) (N := 44) hx hb hts inlX10 hown hK hP 0 rfl rfl 19 (by decide) (hts _ k_298) (fun _ h9 => h9) rfl dX10_write_12 ?_
  refine lv_aload_n hx hb dX10_write_15 rfl (lv_at hl 2 rfl) ?_
  refine lv_iload_n hx hb dX10_write_16 rfl (lv_at hl 0 rfl) ?_
  refine va_iald hx hb hK hP 1 0 rfl rfl (show ¬ ((9 : Int32) < 0 ∨ 10 ≤ (9 : Int32).toNatClampNeg) by decide) dX10_write_17 ?_
  refine lv_topi (fun x454 _ => ?_)
  refine va_iast hx hb hK hP hD hS 2 0 rfl rfl (show ¬ ((61 : Int32) < 0 ∨ 1336 ≤ (61 : Int32).toNatClampNeg) by decide) dX10_write_18 (fun H locs hP hD hS => ?_)
  obtain ⟨f455, hP, hD⟩ : ∃ f455, va_P D vwCl [(h0, .inr (10, [.int v1, .int v2, .ref h2, .ref h3, .ref h4, .ref h5, .ref h6, .ref h1, .ref h7, .ref h8, .ref h9, .ref h10, .int v3, .ref h11, .ref h12, .ref h13, .ref h14, .int v4, .int v5, .int 61, .ref h15, .ref h16, .ref h17, .int v6, .ref h18, .int v7, .ref h19, .ref h20, .int v8, .ref h21, .ref h22, .int v9, .int v10, .int v11, .int v12, .int v13, .int v14, .int v15, .int v16, .ref h23, .long v17, .long v18, .long v19, .long v20])), (h1, .inl (G.1, 10, .inl v21)), (h14, .inl (G.1, 1336, .inl f455))] H ∧ va_D A [(h0, .inr (10, [.int v1, .int v2, .ref h2, .ref h3, .ref h4, .ref h5, .ref h6, .ref h1, .ref h7, .ref h8, .ref h9, .ref h10, .int v3, .ref h11, .ref h12, .ref h13, .ref h14, .int v4, .int v5, .int 61, .ref h15, .ref h16, .ref h17, .int v6, .ref h18, .int v7, .ref h19, .ref h20, .int v8, .ref h21, .ref h22, .int v9, .int v10, .int v11, .int v12, .int v13, .int v14, .int v15, .int v16, .ref h23, .long v17, .long v18, .long v19, .long v20])), (h1, .inl (G.1, 10, .inl v21)), (h14, .inl (G.1, 1336, .inl f455))] := ⟨_, hP, hD⟩
  refine lv_aload_n hx hb dX10_write_19 rfl (lv_at hl 1 rfl) ?_
  refine lv_dup hx hb dX10_write_20 rfl ?_
  refine va_get (D := D) (ci := 10) (v := .int 61) (C := RX10) (T := TX10) (N := 44) hx hb hts inlX10 hown hK hP 0 rfl rfl 19 (by decide) (hts _ k_298) (fun _ h9 => h9) rfl dX10_write_21 ?_
  refine lv_iconst (v := 1) hx hb dX10_write_24 (by decide) ?_
  refine lv_iadd hx hb dX10_write_25 ?_
  refine ow_i (y := 62) (by decide) ?_
  refine va_put (D := D) (ci := 10) (v := .int 62) (ty := .int) (C := RX10) (T := TX10) (N := 44) hx hb hts inlX10 tyX10 tyX10_ok nmX10 hown hK hP hD hS 0 rfl rfl 19 (by decide) (hts _ k_298) (fun _ h9 => h9) rfl (tyX10_ok 19 (by decide)) rfl rfl (Nat.le_of_ble_eq_true rfl) dX10_write_26 (fun H locs hP hD hS => ?_)
  have hP : va_P D vwCl [(h0, .inr (10, [.int v1, .int v2, .ref h2, .ref h3, .ref h4, .ref h5, .ref h6, .ref h1, .ref h7, .ref h8, .ref h9, .ref h10, .int v3, .ref h11, .ref h12, .ref h13, .ref h14, .int v4, .int v5, .int 62, .ref h15, .ref h16, .ref h17, .int v6, .ref h18, .int v7, .ref h19, .ref h20, .int v8, .ref h21, .ref h22, .int v9, .int v10, .int v11, .int v12, .int v13, .int v14, .int v15, .int v16, .ref h23, .long v17, .long v18, .long v19, .long v20])), (h1, .inl (G.1, 10, .inl v21)), (h14, .inl (G.1, 1336, .inl f455))] H := hP
  have hD : va_D A [(h0, .inr (10, [.int v1, .int v2, .ref h2, .ref h3, .ref h4, .ref h5, .ref h6, .ref h1, .ref h7, .ref h8, .ref h9, .ref h10, .int v3, .ref h11, .ref h12, .ref h13, .ref h14, .int v4, .int v5, .int 62, .ref h15, .ref h16, .ref h17, .int v6, .ref h18, .int v7, .ref h19, .ref h20, .int v8, .ref h21, .ref h22, .int v9, .int v10, .int v11, .int v12, .int v13, .int v14, .int v15, .int v16, .ref h23, .long v17, .long v18, .long v19, .long v20])), (h1, .inl (G.1, 10, .inl v21)), (h14, .inl (G.1, 1336, .inl f455))] := hD
  refine lv_iinc (v := 10) (lv' := [(3, .int 10), (0, .ref h0), (1, .ref h1), (2, .int 10)]) hx hb dX10_write_29 hl (k := 0) rfl (by decide) (by decide) rfl (fun ls hl => ?_)
  refine lv_goto (tgt := 2) hx hb dX10_write_32 (by decide) ?_
  refine lv_iload_n hx hb dX10_write_2 rfl (lv_at hl 0 rfl) ?_
  refine lv_iload_n hx hb dX10_write_3 rfl (lv_at hl 3 rfl) ?_
  refine lv_icmp_ge (tgt := 35) hx hb dX10_write_4 (by decide) (fun _ => ?_) (fun h9 => absurd h9 (by decide))
  exact ow_vret (u := [(h0, .inr (10, [.int v1, .int v2, .ref h2, .ref h3, .ref h4, .ref h5, .ref h6, .ref h1, .ref h7, .ref h8, .ref h9, .ref h10, .int v3, .ref h11, .ref h12, .ref h13, .ref h14, .int v4, .int v5, .int 62, .ref h15, .ref h16, .ref h17, .int v6, .ref h18, .int v7, .ref h19, .ref h20, .int v8, .ref h21, .ref h22, .int v9, .int v10, .int v11, .int v12, .int v13, .int v14, .int v15, .int v16, .ref h23, .long v17, .long v18, .long v19, .long v20])), (h1, .inl (G.1, 10, .inl v21)), (h14, .inl (G.1, 1336, .inl f455))]) hx hb hr hlocks hP hD hS [0, 1, 2] (by decide) rfl dX10_write_35 ⟨trivial, f455, rfl⟩
set_option maxHeartbeats 4000000 in
set_option maxRecDepth 100000 in
theorem c_X10_write_6 (l : Launch) (D : va_G) (G : ow_C) (h0 : Nat) (h1 : Nat) (v1 : Int32) (v2 : Int32) (h2 : Nat) (h3 : Nat) (h4 : Nat) (h5 : Nat) (h6 : Nat) (h7 : Nat) (h8 : Nat) (h9 : Nat) (h10 : Nat) (v3 : Int32) (h11 : Nat) (h12 : Nat) (h13 : Nat) (h14 : Nat) (v4 : Int32) (v5 : Int32) (h15 : Nat) (h16 : Nat) (h17 : Nat) (v6 : Int32) (h18 : Nat) (v7 : Int32) (h19 : Nat) (h20 : Nat) (v8 : Int32) (h21 : Nat) (h22 : Nat) (v9 : Int32) (v10 : Int32) (v11 : Int32) (v12 : Int32) (v13 : Int32) (v14 : Int32) (v15 : Int32) (v16 : Int32) (h23 : Nat) (v17 : Int64) (v18 : Int64) (v19 : Int64) (v20 : Int64) (v21 : Nat → Int32) (v22 : Nat → Int32) : ow_M l D G yX10_write cX10_write 4 none ({ frames := 1, cells := 0, slots := 0, locals := 64 } : Room) [.ref h0, .ref h1, .int 10] [(h0, .inr (10, [.int v1, .int v2, .ref h2, .ref h3, .ref h4, .ref h5, .ref h6, .ref h7, .ref h1, .ref h8, .ref h9, .ref h10, .int v3, .ref h11, .ref h12, .ref h13, .ref h14, .int v4, .int v5, .int 62, .ref h15, .ref h16, .ref h17, .int v6, .ref h18, .int v7, .ref h19, .ref h20, .int v8, .ref h21, .ref h22, .int v9, .int v10, .int v11, .int v12, .int v13, .int v14, .int v15, .int v16, .ref h23, .long v17, .long v18, .long v19, .long v20])), (h1, .inl (G.1, 10, .inl v21)), (h14, .inl (G.1, 1336, .inl v22))] (ow_V D (fun u => (True ∧ (∃ e0 : Nat → Int32, u = [(h0, .inr (10, [.int v1, .int v2, .ref h2, .ref h3, .ref h4, .ref h5, .ref h6, .ref h7, .ref h1, .ref h8, .ref h9, .ref h10, .int v3, .ref h11, .ref h12, .ref h13, .ref h14, .int v4, .int v5, .int 72, .ref h15, .ref h16, .ref h17, .int v6, .ref h18, .int v7, .ref h19, .ref h20, .int v8, .ref h21, .ref h22, .int v9, .int v10, .int v11, .int v12, .int v13, .int v14, .int v15, .int v16, .ref h23, .long v17, .long v18, .long v19, .long v20])), (h1, .inl (G.1, 10, .inl v21)), (h14, .inl (G.1, 1336, .inl e0))])))) 0 0 := by
  refine ow_met (by decide) (Nat.le_of_ble_eq_true rfl) ?_
  intro p e s m args below meth c A ls hE hl
  obtain ⟨hx, hb, hr, hml, hown, hlocks, hnm, hts, hN, hK, hP, hD, hA, hS⟩ := hE
  have hown : s.vm.findClass RX10 = some m.cls := hown
  have hP : va_P D vwCl [(h0, .inr (10, [.int v1, .int v2, .ref h2, .ref h3, .ref h4, .ref h5, .ref h6, .ref h7, .ref h1, .ref h8, .ref h9, .ref h10, .int v3, .ref h11, .ref h12, .ref h13, .ref h14, .int v4, .int v5, .int 62, .ref h15, .ref h16, .ref h17, .int v6, .ref h18, .int v7, .ref h19, .ref h20, .int v8, .ref h21, .ref h22, .int v9, .int v10, .int v11, .int v12, .int v13, .int v14, .int v15, .int v16, .ref h23, .long v17, .long v18, .long v19, .long v20])), (h1, .inl (G.1, 10, .inl v21)), (h14, .inl (G.1, 1336, .inl v22))] s.heap := hP
  have hD : va_D A [(h0, .inr (10, [.int v1, .int v2, .ref h2, .ref h3, .ref h4, .ref h5, .ref h6, .ref h7, .ref h1, .ref h8, .ref h9, .ref h10, .int v3, .ref h11, .ref h12, .ref h13, .ref h14, .int v4, .int v5, .int 62, .ref h15, .ref h16, .ref h17, .int v6, .ref h18, .int v7, .ref h19, .ref h20, .int v8, .ref h21, .ref h22, .int v9, .int v10, .int v11, .int v12, .int v13, .int v14, .int v15, .int v16, .ref h23, .long v17, .long v18, .long v19, .long v20])), (h1, .inl (G.1, 10, .inl v21)), (h14, .inl (G.1, 1336, .inl v22))] := hD
  have hl : lv_has ls 4 [(0, .ref h0), (1, .ref h1), (2, .int 10)] := hl
  refine lv_iconst (v := 0) hx hb dX10_write_0 (by decide) ?_
  refine lv_istore_n (lv' := [(3, .int 0), (0, .ref h0), (1, .ref h1), (2, .int 10)]) hx hb dX10_write_1 rfl hl (by decide) rfl (fun ls hl => ?_)
  refine lv_iload_n hx hb dX10_write_2 rfl (lv_at hl 0 rfl) ?_
  refine lv_iload_n hx hb dX10_write_3 rfl (lv_at hl 3 rfl) ?_
  refine lv_icmp_ge (tgt := 35) hx hb dX10_write_4 (by decide) (fun h9 => absurd h9 (by decide)) (fun _ => ?_)
  refine lv_aload_n hx hb dX10_write_7 rfl (lv_at hl 1 rfl) ?_
  refine va_get (D := D) (ci := 10) (v := .ref h14) (C := RX10) (T := TX10) (N := 44) hx hb hts inlX10 hown hK hP 0 rfl rfl 16 (by decide) (hts _ k_105) (fun _ h9 => h9) rfl dX10_write_8 ?_
  refine lv_aload_n hx hb dX10_write_11 rfl (lv_at hl 1 rfl) ?_
  refine va_get (D := D) (ci := 10) (v := .int 62) (C := RX10) (T := TX10) (N := 44) hx hb hts inlX10 hown hK hP 0 rfl rfl 19 (by decide) (hts _ k_298) (fun _ h9 => h9) rfl dX10_write_12 ?_
  refine lv_aload_n hx hb dX10_write_15 rfl (lv_at hl 2 rfl) ?_
  refine lv_iload_n hx hb dX10_write_16 rfl (lv_at hl 0 rfl) ?_
  refine va_iald hx hb hK hP 1 0 rfl rfl (show ¬ ((0 : Int32) < 0 ∨ 10 ≤ (0 : Int32).toNatClampNeg) by decide) dX10_write_17 ?_
  refine lv_topi (fun x458 _ => ?_)
  refine va_iast hx hb hK hP hD hS 2 0 rfl rfl (show ¬ ((62 : Int32) < 0 ∨ 1336 ≤ (62 : Int32).toNatClampNeg) by decide) dX10_write_18 (fun H locs hP hD hS => ?_)
  obtain ⟨f459, hP, hD⟩ : ∃ f459, va_P D vwCl [(h0, .inr (10, [.int v1, .int v2, .ref h2, .ref h3, .ref h4, .ref h5, .ref h6, .ref h7, .ref h1, .ref h8, .ref h9, .ref h10, .int v3, .ref h11, .ref h12, .ref h13, .ref h14, .int v4, .int v5, .int 62, .ref h15, .ref h16, .ref h17, .int v6, .ref h18, .int v7, .ref h19, .ref h20, .int v8, .ref h21, .ref h22, .int v9, .int v10, .int v11, .int v12, .int v13, .int v14, .int v15, .int v16, .ref h23, .long v17, .long v18, .long v19, .long v20])), (h1, .inl (G.1, 10, .inl v21)), (h14, .inl (G.1, 1336, .inl f459))] H ∧ va_D A [(h0, .inr (10, [.int v1, .int v2, .ref h2, .ref h3, .ref h4, .ref h5, .ref h6, .ref h7, .ref h1, .ref h8, .ref h9, .ref h10, .int v3, .ref h11, .ref h12, .ref h13, .ref h14, .int v4, .int v5, .int 62, .ref h15, .ref h16, .ref h17, .int v6, .ref h18, .int v7, .ref h19, .ref h20, .int v8, .ref h21, .ref h22, .int v9, .int v10, .int v11, .int v12, .int v13, .int v14, .int v15, .int v16, .ref h23, .long v17, .long v18, .long v19, .long v20])), (h1, .inl (G.1, 10, .inl v21)), (h14, .inl (G.1, 1336, .inl f459))] := ⟨_, hP, hD⟩
  refine lv_aload_n hx hb dX10_write_19 rfl (lv_at hl 1 rfl) ?_
  refine lv_dup hx hb dX10_write_20 rfl ?_
  refine va_get (D := D) (ci := 10) (v := .int 62) (C := RX10) (T := TX10) (N := 44) hx hb hts inlX10 hown hK hP 0 rfl rfl 19 (by decide) (hts _ k_298) (fun _ h9 => h9) rfl dX10_write_21 ?_
  refine lv_iconst (v := 1) hx hb dX10_write_24 (by decide) ?_
  refine lv_iadd hx hb dX10_write_25 ?_
  refine ow_i (y := 63) (by decide) ?_
  refine va_put (D := D) (ci := 10) (v := .int 63) (ty := .int) (C := RX10) (T := TX10) (N := 44) hx hb hts inlX10 tyX10 tyX10_ok nmX10 hown hK hP hD hS 0 rfl rfl 19 (by decide) (hts _ k_298) (fun _ h9 => h9) rfl (tyX10_ok 19 (by decide)) rfl rfl (Nat.le_of_ble_eq_true rfl) dX10_write_26 (fun H locs hP hD hS => ?_)
  have hP : va_P D vwCl [(h0, .inr (10, [.int v1, .int v2, .ref h2, .ref h3, .ref h4, .ref h5, .ref h6, .ref h7, .ref h1, .ref h8, .ref h9, .ref h10, .int v3, .ref h11, .ref h12, .ref h13, .ref h14, .int v4, .int v5, .int 63, .ref h15, .ref h16, .ref h17, .int v6, .ref h18, .int v7, .ref h19, .ref h20, .int v8, .ref h21, .ref h22, .int v9, .int v10, .int v11, .int v12, .int v13, .int v14, .int v15, .int v16, .ref h23, .long v17, .long v18, .long v19, .long v20])), (h1, .inl (G.1, 10, .inl v21)), (h14, .inl (G.1, 1336, .inl f459))] H := hP
  have hD : va_D A [(h0, .inr (10, [.int v1, .int v2, .ref h2, .ref h3, .ref h4, .ref h5, .ref h6, .ref h7, .ref h1, .ref h8, .ref h9, .ref h10, .int v3, .ref h11, .ref h12, .ref h13, .ref h14, .int v4, .int v5, .int 63, .ref h15, .ref h16, .ref h17, .int v6, .ref h18, .int v7, .ref h19, .ref h20, .int v8, .ref h21, .ref h22, .int v9, .int v10, .int v11, .int v12, .int v13, .int v14, .int v15, .int v16, .ref h23, .long v17, .long v18, .long v19, .long v20])), (h1, .inl (G.1, 10, .inl v21)), (h14, .inl (G.1, 1336, .inl f459))] := hD
  refine lv_iinc (v := 1) (lv' := [(3, .int 1), (0, .ref h0), (1, .ref h1), (2, .int 10)]) hx hb dX10_write_29 hl (k := 0) rfl (by decide) (by decide) rfl (fun ls hl => ?_)
  refine lv_goto (tgt := 2) hx hb dX10_write_32 (by decide) ?_
  refine lv_iload_n hx hb dX10_write_2 rfl (lv_at hl 0 rfl) ?_
  refine lv_iload_n hx hb dX10_write_3 rfl (lv_at hl 3 rfl) ?_
  refine lv_icmp_ge (tgt := 35) hx hb dX10_write_4 (by decide) (fun h9 => absurd h9 (by decide)) (fun _ => ?_)
  refine lv_aload_n hx hb dX10_write_7 rfl (lv_at hl 1 rfl) ?_
  refine va_get (D := D) (ci := 10) (v := .ref h14) (C := RX10) (T := TX10) (N := 44) hx hb hts inlX10 hown hK hP 0 rfl rfl 16 (by decide) (hts _ k_105) (fun _ h9 => h9) rfl dX10_write_8 ?_
  refine lv_aload_n hx hb dX10_write_11 rfl (lv_at hl 1 rfl) ?_
  refine va_get (D := D) (ci := 10) (v := .int 63) (C := RX10) (T := TX10) (N := 44) hx hb hts inlX10 hown hK hP 0 rfl rfl 19 (by decide) (hts _ k_298) (fun _ h9 => h9) rfl dX10_write_12 ?_
  refine lv_aload_n hx hb dX10_write_15 rfl (lv_at hl 2 rfl) ?_
  refine lv_iload_n hx hb dX10_write_16 rfl (lv_at hl 0 rfl) ?_
  refine va_iald hx hb hK hP 1 0 rfl rfl (show ¬ ((1 : Int32) < 0 ∨ 10 ≤ (1 : Int32).toNatClampNeg) by decide) dX10_write_17 ?_
  refine lv_topi (fun x460 _ => ?_)
  refine va_iast hx hb hK hP hD hS 2 0 rfl rfl (show ¬ ((63 : Int32) < 0 ∨ 1336 ≤ (63 : Int32).toNatClampNeg) by decide) dX10_write_18 (fun H locs hP hD hS => ?_)
  obtain ⟨f461, hP, hD⟩ : ∃ f461, va_P D vwCl [(h0, .inr (10, [.int v1, .int v2, .ref h2, .ref h3, .ref h4, .ref h5, .ref h6, .ref h7, .ref h1, .ref h8, .ref h9, .ref h10, .int v3, .ref h11, .ref h12, .ref h13, .ref h14, .int v4, .int v5, .int 63, .ref h15, .ref h16, .ref h17, .int v6, .ref h18, .int v7, .ref h19, .ref h20, .int v8, .ref h21, .ref h22, .int v9, .int v10, .int v11, .int v12, .int v13, .int v14, .int v15, .int v16, .ref h23, .long v17, .long v18, .long v19, .long v20])), (h1, .inl (G.1, 10, .inl v21)), (h14, .inl (G.1, 1336, .inl f461))] H ∧ va_D A [(h0, .inr (10, [.int v1, .int v2, .ref h2, .ref h3, .ref h4, .ref h5, .ref h6, .ref h7, .ref h1, .ref h8, .ref h9, .ref h10, .int v3, .ref h11, .ref h12, .ref h13, .ref h14, .int v4, .int v5, .int 63, .ref h15, .ref h16, .ref h17, .int v6, .ref h18, .int v7, .ref h19, .ref h20, .int v8, .ref h21, .ref h22, .int v9, .int v10, .int v11, .int v12, .int v13, .int v14, .int v15, .int v16, .ref h23, .long v17, .long v18, .long v19, .long v20])), (h1, .inl (G.1, 10, .inl v21)), (h14, .inl (G.1, 1336, .inl f461))] := ⟨_, hP, hD⟩
  refine lv_aload_n hx hb dX10_write_19 rfl (lv_at hl 1 rfl) ?_
  refine lv_dup hx hb dX10_write_20 rfl ?_
  refine va_get (D := D) (ci := 10) (v := .int 63) (C := RX10) (T := TX10) (N := 44) hx hb hts inlX10 hown hK hP 0 rfl rfl 19 (by decide) (hts _ k_298) (fun _ h9 => h9) rfl dX10_write_21 ?_
  refine lv_iconst (v := 1) hx hb dX10_write_24 (by decide) ?_
  refine lv_iadd hx hb dX10_write_25 ?_
  refine ow_i (y := 64) (by decide) ?_
  refine va_put (D := D) (ci := 10) (v := .int 64) (ty := .int) (C := RX10) (T := TX10) (N := 44) hx hb hts inlX10 tyX10 tyX10_ok nmX10 hown hK hP hD hS 0 rfl rfl 19 (by decide) (hts _ k_298) (fun _ h9 => h9) rfl (tyX10_ok 19 (by decide)) rfl rfl (Nat.le_of_ble_eq_true rfl) dX10_write_26 (fun H locs hP hD hS => ?_)
  have hP : va_P D vwCl [(h0, .inr (10, [.int v1, .int v2, .ref h2, .ref h3, .ref h4, .ref h5, .ref h6, .ref h7, .ref h1, .ref h8, .ref h9, .ref h10, .int v3, .ref h11, .ref h12, .ref h13, .ref h14, .int v4, .int v5, .int 64, .ref h15, .ref h16, .ref h17, .int v6, .ref h18, .int v7, .ref h19, .ref h20, .int v8, .ref h21, .ref h22, .int v9, .int v10, .int v11, .int v12, .int v13, .int v14, .int v15, .int v16, .ref h23, .long v17, .long v18, .long v19, .long v20])), (h1, .inl (G.1, 10, .inl v21)), (h14, .inl (G.1, 1336, .inl f461))] H := hP
  have hD : va_D A [(h0, .inr (10, [.int v1, .int v2, .ref h2, .ref h3, .ref h4, .ref h5, .ref h6, .ref h7, .ref h1, .ref h8, .ref h9, .ref h10, .int v3, .ref h11, .ref h12, .ref h13, .ref h14, .int v4, .int v5, .int 64, .ref h15, .ref h16, .ref h17, .int v6, .ref h18, .int v7, .ref h19, .ref h20, .int v8, .ref h21, .ref h22, .int v9, .int v10, .int v11, .int v12, .int v13, .int v14, .int v15, .int v16, .ref h23, .long v17, .long v18, .long v19, .long v20])), (h1, .inl (G.1, 10, .inl v21)), (h14, .inl (G.1, 1336, .inl f461))] := hD
  refine lv_iinc (v := 2) (lv' := [(3, .int 2), (0, .ref h0), (1, .ref h1), (2, .int 10)]) hx hb dX10_write_29 hl (k := 0) rfl (by decide) (by decide) rfl (fun ls hl => ?_)
  refine lv_goto (tgt := 2) hx hb dX10_write_32 (by decide) ?_
  refine lv_iload_n hx hb dX10_write_2 rfl (lv_at hl 0 rfl) ?_
  refine lv_iload_n hx hb dX10_write_3 rfl (lv_at hl 3 rfl) ?_
  refine lv_icmp_ge (tgt := 35) hx hb dX10_write_4 (by decide) (fun h9 => absurd h9 (by decide)) (fun _ => ?_)
  refine lv_aload_n hx hb dX10_write_7 rfl (lv_at hl 1 rfl) ?_
  refine va_get (D := D) (ci := 10) (v := .ref h14) (C := RX10) (T := TX10) (N := 44) hx hb hts inlX10 hown hK hP 0 rfl rfl 16 (by decide) (hts _ k_105) (fun _ h9 => h9) rfl dX10_write_8 ?_
  refine lv_aload_n hx hb dX10_write_11 rfl (lv_at hl 1 rfl) ?_
  refine va_get (D := D) (ci := 10) (v := .int 64) (C := RX10) (T := TX10) (N := 44) hx hb hts inlX10 hown hK hP 0 rfl rfl 19 (by decide) (hts _ k_298) (fun _ h9 => h9) rfl dX10_write_12 ?_
  refine lv_aload_n hx hb dX10_write_15 rfl (lv_at hl 2 rfl) ?_
  refine lv_iload_n hx hb dX10_write_16 rfl (lv_at hl 0 rfl) ?_
  refine va_iald hx hb hK hP 1 0 rfl rfl (show ¬ ((2 : Int32) < 0 ∨ 10 ≤ (2 : Int32).toNatClampNeg) by decide) dX10_write_17 ?_
  refine lv_topi (fun x462 _ => ?_)
  refine va_iast hx hb hK hP hD hS 2 0 rfl rfl (show ¬ ((64 : Int32) < 0 ∨ 1336 ≤ (64 : Int32).toNatClampNeg) by decide) dX10_write_18 (fun H locs hP hD hS => ?_)
  obtain ⟨f463, hP, hD⟩ : ∃ f463, va_P D vwCl [(h0, .inr (10, [.int v1, .int v2, .ref h2, .ref h3, .ref h4, .ref h5, .ref h6, .ref h7, .ref h1, .ref h8, .ref h9, .ref h10, .int v3, .ref h11, .ref h12, .ref h13, .ref h14, .int v4, .int v5, .int 64, .ref h15, .ref h16, .ref h17, .int v6, .ref h18, .int v7, .ref h19, .ref h20, .int v8, .ref h21, .ref h22, .int v9, .int v10, .int v11, .int v12, .int v13, .int v14, .int v15, .int v16, .ref h23, .long v17, .long v18, .long v19, .long v20])), (h1, .inl (G.1, 10, .inl v21)), (h14, .inl (G.1, 1336, .inl f463))] H ∧ va_D A [(h0, .inr (10, [.int v1, .int v2, .ref h2, .ref h3, .ref h4, .ref h5, .ref h6, .ref h7, .ref h1, .ref h8, .ref h9, .ref h10, .int v3, .ref h11, .ref h12, .ref h13, .ref h14, .int v4, .int v5, .int 64, .ref h15, .ref h16, .ref h17, .int v6, .ref h18, .int v7, .ref h19, .ref h20, .int v8, .ref h21, .ref h22, .int v9, .int v10, .int v11, .int v12, .int v13, .int v14, .int v15, .int v16, .ref h23, .long v17, .long v18, .long v19, .long v20])), (h1, .inl (G.1, 10, .inl v21)), (h14, .inl (G.1, 1336, .inl f463))] := ⟨_, hP, hD⟩
  refine lv_aload_n hx hb dX10_write_19 rfl (lv_at hl 1 rfl) ?_
  refine lv_dup hx hb dX10_write_20 rfl ?_
  refine va_get (D := D) (ci := 10) (v := .int 64) (C := RX10) (T := TX10) (N := 44) hx hb hts inlX10 hown hK hP 0 rfl rfl 19 (by decide) (hts _ k_298) (fun _ h9 => h9) rfl dX10_write_21 ?_
  refine lv_iconst (v := 1) hx hb dX10_write_24 (by decide) ?_
  refine lv_iadd hx hb dX10_write_25 ?_
  refine ow_i (y := 65) (by decide) ?_
  refine va_put (D := D) (ci := 10) (v := .int 65) (ty := .int) (C := RX10) (T := TX10) (N := 44) hx hb hts inlX10 tyX10 tyX10_ok nmX10 hown hK hP hD hS 0 rfl rfl 19 (by decide) (hts _ k_298) (fun _ h9 => h9) rfl (tyX10_ok 19 (by decide)) rfl rfl (Nat.le_of_ble_eq_true rfl) dX10_write_26 (fun H locs hP hD hS => ?_)
  have hP : va_P D vwCl [(h0, .inr (10, [.int v1, .int v2, .ref h2, .ref h3, .ref h4, .ref h5, .ref h6, .ref h7, .ref h1, .ref h8, .ref h9, .ref h10, .int v3, .ref h11, .ref h12, .ref h13, .ref h14, .int v4, .int v5, .int 65, .ref h15, .ref h16, .ref h17, .int v6, .ref h18, .int v7, .ref h19, .ref h20, .int v8, .ref h21, .ref h22, .int v9, .int v10, .int v11, .int v12, .int v13, .int v14, .int v15, .int v16, .ref h23, .long v17, .long v18, .long v19, .long v20])), (h1, .inl (G.1, 10, .inl v21)), (h14, .inl (G.1, 1336, .inl f463))] H := hP
  have hD : va_D A [(h0, .inr (10, [.int v1, .int v2, .ref h2, .ref h3, .ref h4, .ref h5, .ref h6, .ref h7, .ref h1, .ref h8, .ref h9, .ref h10, .int v3, .ref h11, .ref h12, .ref h13, .ref h14, .int v4, .int v5, .int 65, .ref h15, .ref h16, .ref h17, .int v6, .ref h18, .int v7, .ref h19, .ref h20, .int v8, .ref h21, .ref h22, .int v9, .int v10, .int v11, .int v12, .int v13, .int v14, .int v15, .int v16, .ref h23, .long v17, .long v18, .long v19, .long v20])), (h1, .inl (G.1, 10, .inl v21)), (h14, .inl (G.1, 1336, .inl f463))] := hD
  refine lv_iinc (v := 3) (lv' := [(3, .int 3), (0, .ref h0), (1, .ref h1), (2, .int 10)]) hx hb dX10_write_29 hl (k := 0) rfl (by decide) (by decide) rfl (fun ls hl => ?_)
  refine lv_goto (tgt := 2) hx hb dX10_write_32 (by decide) ?_
  refine lv_iload_n hx hb dX10_write_2 rfl (lv_at hl 0 rfl) ?_
  refine lv_iload_n hx hb dX10_write_3 rfl (lv_at hl 3 rfl) ?_
  refine lv_icmp_ge (tgt := 35) hx hb dX10_write_4 (by decide) (fun h9 => absurd h9 (by decide)) (fun _ => ?_)
  refine lv_aload_n hx hb dX10_write_7 rfl (lv_at hl 1 rfl) ?_
  refine va_get (D := D) (ci := 10) (v := .ref h14) (C := RX10) (T := TX10) (N := 44) hx hb hts inlX10 hown hK hP 0 rfl rfl 16 (by decide) (hts _ k_105) (fun _ h9 => h9) rfl dX10_write_8 ?_
  refine lv_aload_n hx hb dX10_write_11 rfl (lv_at hl 1 rfl) ?_
  refine va_get (D := D) (ci := 10) (v := .int 65) (C := RX10) (T := TX10) (N := 44) hx hb hts inlX10 hown hK hP 0 rfl rfl 19 (by decide) (hts _ k_298) (fun _ h9 => h9) rfl dX10_write_12 ?_
  refine lv_aload_n hx hb dX10_write_15 rfl (lv_at hl 2 rfl) ?_
  refine lv_iload_n hx hb dX10_write_16 rfl (lv_at hl 0 rfl) ?_
  refine va_iald hx hb hK hP 1 0 rfl rfl (show ¬ ((3 : Int32) < 0 ∨ 10 ≤ (3 : Int32).toNatClampNeg) by decide) dX10_write_17 ?_
  refine lv_topi (fun x464 _ => ?_)
  refine va_iast hx hb hK hP hD hS 2 0 rfl rfl (show ¬ ((65 : Int32) < 0 ∨ 1336 ≤ (65 : Int32).toNatClampNeg) by decide) dX10_write_18 (fun H locs hP hD hS => ?_)
  obtain ⟨f465, hP, hD⟩ : ∃ f465, va_P D vwCl [(h0, .inr (10, [.int v1, .int v2, .ref h2, .ref h3, .ref h4, .ref h5, .ref h6, .ref h7, .ref h1, .ref h8, .ref h9, .ref h10, .int v3, .ref h11, .ref h12, .ref h13, .ref h14, .int v4, .int v5, .int 65, .ref h15, .ref h16, .ref h17, .int v6, .ref h18, .int v7, .ref h19, .ref h20, .int v8, .ref h21, .ref h22, .int v9, .int v10, .int v11, .int v12, .int v13, .int v14, .int v15, .int v16, .ref h23, .long v17, .long v18, .long v19, .long v20])), (h1, .inl (G.1, 10, .inl v21)), (h14, .inl (G.1, 1336, .inl f465))] H ∧ va_D A [(h0, .inr (10, [.int v1, .int v2, .ref h2, .ref h3, .ref h4, .ref h5, .ref h6, .ref h7, .ref h1, .ref h8, .ref h9, .ref h10, .int v3, .ref h11, .ref h12, .ref h13, .ref h14, .int v4, .int v5, .int 65, .ref h15, .ref h16, .ref h17, .int v6, .ref h18, .int v7, .ref h19, .ref h20, .int v8, .ref h21, .ref h22, .int v9, .int v10, .int v11, .int v12, .int v13, .int v14, .int v15, .int v16, .ref h23, .long v17, .long v18, .long v19, .long v20])), (h1, .inl (G.1, 10, .inl v21)), (h14, .inl (G.1, 1336, .inl f465))] := ⟨_, hP, hD⟩
  refine lv_aload_n hx hb dX10_write_19 rfl (lv_at hl 1 rfl) ?_
  refine lv_dup hx hb dX10_write_20 rfl ?_
  refine va_get (D := D) (ci := 10) (v := .int 65) (C := RX10) (T := TX10) (N := 44) hx hb hts inlX10 hown hK hP 0 rfl rfl 19 (by decide) (hts _ k_298) (fun _ h9 => h9) rfl dX10_write_21 ?_
  refine lv_iconst (v := 1) hx hb dX10_write_24 (by decide) ?_
  refine lv_iadd hx hb dX10_write_25 ?_
  refine ow_i (y := 66) (by decide) ?_
  refine va_put (D := D) (ci := 10) (v := .int 66) (ty := .int) (C := RX10) (T := TX10) (N := 44) hx hb hts inlX10 tyX10 tyX10_ok nmX10 hown hK hP hD hS 0 rfl rfl 19 (by decide) (hts _ k_298) (fun _ h9 => h9) rfl (tyX10_ok 19 (by decide)) rfl rfl (Nat.le_of_ble_eq_true rfl) dX10_write_26 (fun H locs hP hD hS => ?_)
  have hP : va_P D vwCl [(h0, .inr (10, [.int v1, .int v2, .ref h2, .ref h3, .ref h4, .ref h5, .ref h6, .ref h7, .ref h1, .ref h8, .ref h9, .ref h10, .int v3, .ref h11, .ref h12, .ref h13, .ref h14, .int v4, .int v5, .int 66, .ref h15, .ref h16, .ref h17, .int v6, .ref h18, .int v7, .ref h19, .ref h20, .int v8, .ref h21, .ref h22, .int v9, .int v10, .int v11, .int v12, .int v13, .int v14, .int v15, .int v16, .ref h23, .long v17, .long v18, .long v19, .long v20])), (h1, .inl (G.1, 10, .inl v21)), (h14, .inl (G.1, 1336, .inl f465))] H := hP
  have hD : va_D A [(h0, .inr (10, [.int v1, .int v2, .ref h2, .ref h3, .ref h4, .ref h5, .ref h6, .ref h7, .ref h1, .ref h8, .ref h9, .ref h10, .int v3, .ref h11, .ref h12, .ref h13, .ref h14, .int v4, .int v5, .int 66, .ref h15, .ref h16, .ref h17, .int v6, .ref h18, .int v7, .ref h19, .ref h20, .int v8, .ref h21, .ref h22, .int v9, .int v10, .int v11, .int v12, .int v13, .int v14, .int v15, .int v16, .ref h23, .long v17, .long v18, .long v19, .long v20])), (h1, .inl (G.1, 10, .inl v21)), (h14, .inl (G.1, 1336, .inl f465))] := hD
  refine lv_iinc (v := 4) (lv' := [(3, .int 4), (0, .ref h0), (1, .ref h1), (2, .int 10)]) hx hb dX10_write_29 hl (k := 0) rfl (by decide) (by decide) rfl (fun ls hl => ?_)
  refine lv_goto (tgt := 2) hx hb dX10_write_32 (by decide) ?_
  refine lv_iload_n hx hb dX10_write_2 rfl (lv_at hl 0 rfl) ?_
  refine lv_iload_n hx hb dX10_write_3 rfl (lv_at hl 3 rfl) ?_
  refine lv_icmp_ge (tgt := 35) hx hb dX10_write_4 (by decide) (fun h9 => absurd h9 (by decide)) (fun _ => ?_)
  refine lv_aload_n hx hb dX10_write_7 rfl (lv_at hl 1 rfl) ?_
  refine va_get (D := D) (ci := 10) (v := .ref h14) (C := RX10) (T := TX10) (N := 44) hx hb hts inlX10 hown hK hP 0 rfl rfl 16 (by decide) (hts _ k_105) (fun _ h9 => h9) rfl dX10_write_8 ?_
  refine lv_aload_n hx hb dX10_write_11 rfl (lv_at hl 1 rfl) ?_
  refine va_get (D := D) (ci := 10) (v := .int 66) (C := RX10) (T := TX10) (N := 44) hx hb hts inlX10 hown hK hP 0 rfl rfl 19 (by decide) (hts _ k_298) (fun _ h9 => h9) rfl dX10_write_12 ?_
  refine lv_aload_n hx hb dX10_write_15 rfl (lv_at hl 2 rfl) ?_
  refine lv_iload_n hx hb dX10_write_16 rfl (lv_at hl 0 rfl) ?_
  refine va_iald hx hb hK hP 1 0 rfl rfl (show ¬ ((4 : Int32) < 0 ∨ 10 ≤ (4 : Int32).toNatClampNeg) by decide) dX10_write_17 ?_
  refine lv_topi (fun x466 _ => ?_)
  refine va_iast hx hb hK hP hD hS 2 0 rfl rfl (show ¬ ((66 : Int32) < 0 ∨ 1336 ≤ (66 : Int32).toNatClampNeg) by decide) dX10_write_18 (fun H locs hP hD hS => ?_)
  obtain ⟨f467, hP, hD⟩ : ∃ f467, va_P D vwCl [(h0, .inr (10, [.int v1, .int v2, .ref h2, .ref h3, .ref h4, .ref h5, .ref h6, .ref h7, .ref h1, .ref h8, .ref h9, .ref h10, .int v3, .ref h11, .ref h12, .ref h13, .ref h14, .int v4, .int v5, .int 66, .ref h15, .ref h16, .ref h17, .int v6, .ref h18, .int v7, .ref h19, .ref h20, .int v8, .ref h21, .ref h22, .int v9, .int v10, .int v11, .int v12, .int v13, .int v14, .int v15, .int v16, .ref h23, .long v17, .long v18, .long v19, .long v20])), (h1, .inl (G.1, 10, .inl v21)), (h14, .inl (G.1, 1336, .inl f467))] H ∧ va_D A [(h0, .inr (10, [.int v1, .int v2, .ref h2, .ref h3, .ref h4, .ref h5, .ref h6, .ref h7, .ref h1, .ref h8, .ref h9, .ref h10, .int v3, .ref h11, .ref h12, .ref h13, .ref h14, .int v4, .int v5, .int 66, .ref h15, .ref h16, .ref h17, .int v6, .ref h18, .int v7, .ref h19, .ref h20, .int v8, .ref h21, .ref h22, .int v9, .int v10, .int v11, .int v12, .int v13, .int v14, .int v15, .int v16, .ref h23, .long v17, .long v18, .long v19, .long v20])), (h1, .inl (G.1, 10, .inl v21)), (h14, .inl (G.1, 1336, .inl f467))] := ⟨_, hP, hD⟩
  refine lv_aload_n hx hb dX10_write_19 rfl (lv_at hl 1 rfl) ?_
  refine lv_dup hx hb dX10_write_20 rfl ?_
  refine va_get (D := D) (ci := 10) (v := .int 66) (C := RX10) (T := TX10) (N := 44) hx hb hts inlX10 hown hK hP 0 rfl rfl 19 (by decide) (hts _ k_298) (fun _ h9 => h9) rfl dX10_write_21 ?_
  refine lv_iconst (v := 1) hx hb dX10_write_24 (by decide) ?_
  refine lv_iadd hx hb dX10_write_25 ?_
  refine ow_i (y := 67) (by decide) ?_
  refine va_put (D := D) (ci := 10) (v := .int 67) (ty := .int) (C := RX10) (T := TX10) (N := 44) hx hb hts inlX10 tyX10 tyX10_ok nmX10 hown hK hP hD hS 0 rfl rfl 19 (by decide) (hts _ k_298) (fun _ h9 => h9) rfl (tyX10_ok 19 (by decide)) rfl rfl (Nat.le_of_ble_eq_true rfl) dX10_write_26 (fun H locs hP hD hS => ?_)
  have hP : va_P D vwCl [(h0, .inr (10, [.int v1, .int v2, .ref h2, .ref h3, .ref h4, .ref h5, .ref h6, .ref h7, .ref h1, .ref h8, .ref h9, .ref h10, .int v3, .ref h11, .ref h12, .ref h13, .ref h14, .int v4, .int v5, .int 67, .ref h15, .ref h16, .ref h17, .int v6, .ref h18, .int v7, .ref h19, .ref h20, .int v8, .ref h21, .ref h22, .int v9, .int v10, .int v11, .int v12, .int v13, .int v14, .int v15, .int v16, .ref h23, .long v17, .long v18, .long v19, .long v20])), (h1, .inl (G.1, 10, .inl v21)), (h14, .inl (G.1, 1336, .inl f467))] H := hP
  have hD : va_D A [(h0, .inr (10, [.int v1, .int v2, .ref h2, .ref h3, .ref h4, .ref h5, .ref h6, .ref h7, .ref h1, .ref h8, .ref h9, .ref h10, .int v3, .ref h11, .ref h12, .ref h13, .ref h14, .int v4, .int v5, .int 67, .ref h15, .ref h16, .ref h17, .int v6, .ref h18, .int v7, .ref h19, .ref h20, .int v8, .ref h21, .ref h22, .int v9, .int v10, .int v11, .int v12, .int v13, .int v14, .int v15, .int v16, .ref h23, .long v17, .long v18, .long v19, .long v20])), (h1, .inl (G.1, 10, .inl v21)), (h14, .inl (G.1, 1336, .inl f467))] := hD
  refine lv_iinc (v := 5) (lv' := [(3, .int 5), (0, .ref h0), (1, .ref h1), (2, .int 10)]) hx hb dX10_write_29 hl (k := 0) rfl (by decide) (by decide) rfl (fun ls hl => ?_)
  refine lv_goto (tgt := 2) hx hb dX10_write_32 (by decide) ?_
  refine lv_iload_n hx hb dX10_write_2 rfl (lv_at hl 0 rfl) ?_
  refine lv_iload_n hx hb dX10_write_3 rfl (lv_at hl 3 rfl) ?_
  refine lv_icmp_ge (tgt := 35) hx hb dX10_write_4 (by decide) (fun h9 => absurd h9 (by decide)) (fun _ => ?_)
  refine lv_aload_n hx hb dX10_write_7 rfl (lv_at hl 1 rfl) ?_
  refine va_get (D := D) (ci := 10) (v := .ref h14) (C := RX10) (T := TX10) (N := 44) hx hb hts inlX10 hown hK hP 0 rfl rfl 16 (by decide) (hts _ k_105) (fun _ h9 => h9) rfl dX10_write_8 ?_
  refine lv_aload_n hx hb dX10_write_11 rfl (lv_at hl 1 rfl) ?_
  refine va_get (D := D) (ci := 10) (v := .int 67) (C := RX10) (T := TX10) (N := 44) hx hb hts inlX10 hown hK hP 0 rfl rfl 19 (by decide) (hts _ k_298) (fun _ h9 => h9) rfl dX10_write_12 ?_
  refine lv_aload_n hx hb dX10_write_15 rfl (lv_at hl 2 rfl) ?_
  refine lv_iload_n hx hb dX10_write_16 rfl (lv_at hl 0 rfl) ?_
  refine va_iald hx hb hK hP 1 0 rfl rfl (show ¬ ((5 : Int32) < 0 ∨ 10 ≤ (5 : Int32).toNatClampNeg) by decide) dX10_write_17 ?_
  refine lv_topi (fun x468 _ => ?_)
  refine va_iast hx hb hK hP hD hS 2 0 rfl rfl (show ¬ ((67 : Int32) < 0 ∨ 1336 ≤ (67 : Int32).toNatClampNeg) by decide) dX10_write_18 (fun H locs hP hD hS => ?_)
  obtain ⟨f469, hP, hD⟩ : ∃ f469, va_P D vwCl [(h0, .inr (10, [.int v1, .int v2, .ref h2, .ref h3, .ref h4, .ref h5, .ref h6, .ref h7, .ref h1, .ref h8, .ref h9, .ref h10, .int v3, .ref h11, .ref h12, .ref h13, .ref h14, .int v4, .int v5, .int 67, .ref h15, .ref h16, .ref h17, .int v6, .ref h18, .int v7, .ref h19, .ref h20, .int v8, .ref h21, .ref h22, .int v9, .int v10, .int v11, .int v12, .int v13, .int v14, .int v15, .int v16, .ref h23, .long v17, .long v18, .long v19, .long v20])), (h1, .inl (G.1, 10, .inl v21)), (h14, .inl (G.1, 1336, .inl f469))] H ∧ va_D A [(h0, .inr (10, [.int v1, .int v2, .ref h2, .ref h3, .ref h4, .ref h5, .ref h6, .ref h7, .ref h1, .ref h8, .ref h9, .ref h10, .int v3, .ref h11, .ref h12, .ref h13, .ref h14, .int v4, .int v5, .int 67, .ref h15, .ref h16, .ref h17, .int v6, .ref h18, .int v7, .ref h19, .ref h20, .int v8, .ref h21, .ref h22, .int v9, .int v10, .int v11, .int v12, .int v13, .int v14, .int v15, .int v16, .ref h23, .long v17, .long v18, .long v19, .long v20])), (h1, .inl (G.1, 10, .inl v21)), (h14, .inl (G.1, 1336, .inl f469))] := ⟨_, hP, hD⟩
  refine lv_aload_n hx hb dX10_write_19 rfl (lv_at hl 1 rfl) ?_
  refine lv_dup hx hb dX10_write_20 rfl ?_
  refine va_get (D := D) (ci := 10) (v := .int 67) (C := RX10) (T := TX10) (N := 44) hx hb hts inlX10 hown hK hP 0 rfl rfl 19 (by decide) (hts _ k_298) (fun _ h9 => h9) rfl dX10_write_21 ?_
  refine lv_iconst (v := 1) hx hb dX10_write_24 (by decide) ?_
  refine lv_iadd hx hb dX10_write_25 ?_
  refine ow_i (y := 68) (by decide) ?_
  refine va_put (D := D) (ci := 10) (v := .int 68) (ty := .int) (C := RX10) (T := TX10) (N := 44) hx hb hts inlX10 tyX10 tyX10_ok nmX10 hown hK hP hD hS 0 rfl rfl 19 (by decide) (hts _ k_298) (fun _ h9 => h9) rfl (tyX10_ok 19 (by decide)) rfl rfl (Nat.le_of_ble_eq_true rfl) dX10_write_26 (fun H locs hP hD hS => ?_)
  have hP : va_P D vwCl [(h0, .inr (10, [.int v1, .int v2, .ref h2, .ref h3, .ref h4, .ref h5, .ref h6, .ref h7, .ref h1, .ref h8, .ref h9, .ref h10, .int v3, .ref h11, .ref h12, .ref h13, .ref h14, .int v4, .int v5, .int 68, .ref h15, .ref h16, .ref h17, .int v6, .ref h18, .int v7, .ref h19, .ref h20, .int v8, .ref h21, .ref h22, .int v9, .int v10, .int v11, .int v12, .int v13, .int v14, .int v15, .int v16, .ref h23, .long v17, .long v18, .long v19, .long v20])), (h1, .inl (G.1, 10, .inl v21)), (h14, .inl (G.1, 1336, .inl f469))] H := hP
  have hD : va_D A [(h0, .inr (10, [.int v1, .int v2, .ref h2, .ref h3, .ref h4, .ref h5, .ref h6, .ref h7, .ref h1, .ref h8, .ref h9, .ref h10, .int v3, .ref h11, .ref h12, .ref h13, .ref h14, .int v4, .int v5, .int 68, .ref h15, .ref h16, .ref h17, .int v6, .ref h18, .int v7, .ref h19, .ref h20, .int v8, .ref h21, .ref h22, .int v9, .int v10, .int v11, .int v12, .int v13, .int v14, .int v15, .int v16, .ref h23, .long v17, .long v18, .long v19, .long v20])), (h1, .inl (G.1, 10, .inl v21)), (h14, .inl (G.1, 1336, .inl f469))] := hD
  refine lv_iinc (v := 6) (lv' := [(3, .int 6), (0, .ref h0), (1, .ref h1), (2, .int 10)]) hx hb dX10_write_29 hl (k := 0) rfl (by decide) (by decide) rfl (fun ls hl => ?_)
  refine lv_goto (tgt := 2) hx hb dX10_write_32 (by decide) ?_
  refine lv_iload_n hx hb dX10_write_2 rfl (lv_at hl 0 rfl) ?_
  refine lv_iload_n hx hb dX10_write_3 rfl (lv_at hl 3 rfl) ?_
  refine lv_icmp_ge (tgt := 35) hx hb dX10_write_4 (by decide) (fun h9 => absurd h9 (by decide)) (fun _ => ?_)
  refine lv_aload_n hx hb dX10_write_7 rfl (lv_at hl 1 rfl) ?_
  refine va_get (D := D) (ci := 10) (v := .ref h14) (C := RX10) (T := TX10) (N := 44) hx hb hts inlX10 hown hK hP 0 rfl rfl 16 (by decide) (hts _ k_105) (fun _ h9 => h9) rfl dX10_write_8 ?_
  refine lv_aload_n hx hb dX10_write_11 rfl (lv_at hl 1 rfl) ?_
  refine va_get (D := D) (ci := 10) (v := .int 68) (C := RX10) (T := TX10) (N := 44) hx hb hts inlX10 hown hK hP 0 rfl rfl 19 (by decide) (hts _ k_298) (fun _ h9 => h9) rfl dX10_write_12 ?_
  refine lv_aload_n hx hb dX10_write_15 rfl (lv_at hl 2 rfl) ?_
  refine lv_iload_n hx hb dX10_write_16 rfl (lv_at hl 0 rfl) ?_
  refine va_iald hx hb hK hP 1 0 rfl rfl (show ¬ ((6 : Int32) < 0 ∨ 10 ≤ (6 : Int32).toNatClampNeg) by decide) dX10_write_17 ?_
  refine lv_topi (fun x470 _ => ?_)
  refine va_iast hx hb hK hP hD hS 2 0 rfl rfl (show ¬ ((68 : Int32) < 0 ∨ 1336 ≤ (68 : Int32).toNatClampNeg) by decide) dX10_write_18 (fun H locs hP hD hS => ?_)
  obtain ⟨f471, hP, hD⟩ : ∃ f471, va_P D vwCl [(h0, .inr (10, [.int v1, .int v2, .ref h2, .ref h3, .ref h4, .ref h5, .ref h6, .ref h7, .ref h1, .ref h8, .ref h9, .ref h10, .int v3, .ref h11, .ref h12, .ref h13, .ref h14, .int v4, .int v5, .int 68, .ref h15, .ref h16, .ref h17, .int v6, .ref h18, .int v7, .ref h19, .ref h20, .int v8, .ref h21, .ref h22, .int v9, .int v10, .int v11, .int v12, .int v13, .int v14, .int v15, .int v16, .ref h23, .long v17, .long v18, .long v19, .long v20])), (h1, .inl (G.1, 10, .inl v21)), (h14, .inl (G.1, 1336, .inl f471))] H ∧ va_D A [(h0, .inr (10, [.int v1, .int v2, .ref h2, .ref h3, .ref h4, .ref h5, .ref h6, .ref h7, .ref h1, .ref h8, .ref h9, .ref h10, .int v3, .ref h11, .ref h12, .ref h13, .ref h14, .int v4, .int v5, .int 68, .ref h15, .ref h16, .ref h17, .int v6, .ref h18, .int v7, .ref h19, .ref h20, .int v8, .ref h21, .ref h22, .int v9, .int v10, .int v11, .int v12, .int v13, .int v14, .int v15, .int v16, .ref h23, .long v17, .long v18, .long v19, .long v20])), (h1, .inl (G.1, 10, .inl v21)), (h14, .inl (G.1, 1336, .inl f471))] := ⟨_, hP, hD⟩
  refine lv_aload_n hx hb dX10_write_19 rfl (lv_at hl 1 rfl) ?_
  refine lv_dup hx hb dX10_write_20 rfl ?_
  refine va_get (D := D) (ci := 10) (v := .int 68) (C := RX10) (T := TX10) (N := 44) hx hb hts inlX10 hown hK hP 0 rfl rfl 19 (by decide) (hts _ k_298) (fun _ h9 => h9) rfl dX10_write_21 ?_
  refine lv_iconst (v := 1) hx hb dX10_write_24 (by decide) ?_
  refine lv_iadd hx hb dX10_write_25 ?_
  refine ow_i (y := 69) (by decide) ?_
  refine va_put (D := D) (ci := 10) (v := .int 69) (ty := .int) (C := RX10) (T := TX10) (N := 44) hx hb hts inlX10 tyX10 tyX10_ok nmX10 hown hK hP hD hS 0 rfl rfl 19 (by decide) (hts _ k_298) (fun _ h9 => h9) rfl (tyX10_ok 19 (by decide)) rfl rfl (Nat.le_of_ble_eq_true rfl) dX10_write_26 (fun H locs hP hD hS => ?_)
  have hP : va_P D vwCl [(h0, .inr (10, [.int v1, .int v2, .ref h2, .ref h3, .ref h4, .ref h5, .ref h6, .ref h7, .ref h1, .ref h8, .ref h9, .ref h10, .int v3, .ref h11, .ref h12, .ref h13, .ref h14, .int v4, .int v5, .int 69, .ref h15, .ref h16, .ref h17, .int v6, .ref h18, .int v7, .ref h19, .ref h20, .int v8, .ref h21, .ref h22, .int v9, .int v10, .int v11, .int v12, .int v13, .int v14, .int v15, .int v16, .ref h23, .long v17, .long v18, .long v19, .long v20])), (h1, .inl (G.1, 10, .inl v21)), (h14, .inl (G.1, 1336, .inl f471))] H := hP
  have hD : va_D A [(h0, .inr (10, [.int v1, .int v2, .ref h2, .ref h3, .ref h4, .ref h5, .ref h6, .ref h7, .ref h1, .ref h8, .ref h9, .ref h10, .int v3, .ref h11, .ref h12, .ref h13, .ref h14, .int v4, .int v5, .int 69, .ref h15, .ref h16, .ref h17, .int v6, .ref h18, .int v7, .ref h19, .ref h20, .int v8, .ref h21, .ref h22, .int v9, .int v10, .int v11, .int v12, .int v13, .int v14, .int v15, .int v16, .ref h23, .long v17, .long v18, .long v19, .long v20])), (h1, .inl (G.1, 10, .inl v21)), (h14, .inl (G.1, 1336, .inl f471))] := hD
  refine lv_iinc (v := 7) (lv' := [(3, .int 7), (0, .ref h0), (1, .ref h1), (2, .int 10)]) hx hb dX10_write_29 hl (k := 0) rfl (by decide) (by decide) rfl (fun ls hl => ?_)
  refine lv_goto (tgt := 2) hx hb dX10_write_32 (by decide) ?_
  refine lv_iload_n hx hb dX10_write_2 rfl (lv_at hl 0 rfl) ?_
  refine lv_iload_n hx hb dX10_write_3 rfl (lv_at hl 3 rfl) ?_
  refine lv_icmp_ge (tgt := 35) hx hb dX10_write_4 (by decide) (fun h9 => absurd h9 (by decide)) (fun _ => ?_)
  refine lv_aload_n hx hb dX10_write_7 rfl (lv_at hl 1 rfl) ?_
  refine va_get (D := D) (ci := 10) (v := .ref h14) (C := RX10) (T := TX10) (N := 44) hx hb hts inlX10 hown hK hP 0 rfl rfl 16 (by decide) (hts _ k_105) (fun _ h9 => h9) rfl dX10_write_8 ?_
  refine lv_aload_n hx hb dX10_write_11 rfl (lv_at hl 1 rfl) ?_
  refine va_get (D := D) (ci := 10) (v := .int 69) (C := RX10) (T := TX10) (N := 44) hx hb hts inlX10 hown hK hP 0 rfl rfl 19 (by decide) (hts _ k_298) (fun _ h9 => h9) rfl dX10_write_12 ?_
  refine lv_aload_n hx hb dX10_write_15 rfl (lv_at hl 2 rfl) ?_
  refine lv_iload_n hx hb dX10_write_16 rfl (lv_at hl 0 rfl) ?_
  refine va_iald hx hb hK hP 1 0 rfl rfl (show ¬ ((7 : Int32) < 0 ∨ 10 ≤ (7 : Int32).toNatClampNeg) by decide) dX10_write_17 ?_
  refine lv_topi (fun x472 _ => ?_)
  refine va_iast hx hb hK hP hD hS 2 0 rfl rfl (show ¬ ((69 : Int32) < 0 ∨ 1336 ≤ (69 : Int32).toNatClampNeg) by decide) dX10_write_18 (fun H locs hP hD hS => ?_)
  obtain ⟨f473, hP, hD⟩ : ∃ f473, va_P D vwCl [(h0, .inr (10, [.int v1, .int v2, .ref h2, .ref h3, .ref h4, .ref h5, .ref h6, .ref h7, .ref h1, .ref h8, .ref h9, .ref h10, .int v3, .ref h11, .ref h12, .ref h13, .ref h14, .int v4, .int v5, .int 69, .ref h15, .ref h16, .ref h17, .int v6, .ref h18, .int v7, .ref h19, .ref h20, .int v8, .ref h21, .ref h22, .int v9, .int v10, .int v11, .int v12, .int v13, .int v14, .int v15, .int v16, .ref h23, .long v17, .long v18, .long v19, .long v20])), (h1, .inl (G.1, 10, .inl v21)), (h14, .inl (G.1, 1336, .inl f473))] H ∧ va_D A [(h0, .inr (10, [.int v1, .int v2, .ref h2, .ref h3, .ref h4, .ref h5, .ref h6, .ref h7, .ref h1, .ref h8, .ref h9, .ref h10, .int v3, .ref h11, .ref h12, .ref h13, .ref h14, .int v4, .int v5, .int 69, .ref h15, .ref h16, .ref h17, .int v6, .ref h18, .int v7, .ref h19, .ref h20, .int v8, .ref h21, .ref h22, .int v9, .int v10, .int v11, .int v12, .int v13, .int v14, .int v15, .int v16, .ref h23, .long v17, .long v18, .long v19, .long v20])), (h1, .inl (G.1, 10, .inl v21)), (h14, .inl (G.1, 1336, .inl f473))] := ⟨_, hP, hD⟩
  refine lv_aload_n hx hb dX10_write_19 rfl (lv_at hl 1 rfl) ?_
  refine lv_dup hx hb dX10_write_20 rfl ?_
  refine va_get (D := D) (ci := 10) (v := .int 69) (C := RX10) (T := TX10) (N := 44) hx hb hts inlX10 hown hK hP 0 rfl rfl 19 (by decide) (hts _ k_298) (fun _ h9 => h9) rfl dX10_write_21 ?_
  refine lv_iconst (v := 1) hx hb dX10_write_24 (by decide) ?_
  refine lv_iadd hx hb dX10_write_25 ?_
  refine ow_i (y := 70) (by decide) ?_
  refine va_put (D := D) (ci := 10) (v := .int 70) (ty := .int) (C := RX10) (T := TX10) (N := 44) hx hb hts inlX10 tyX10 tyX10_ok nmX10 hown hK hP hD hS 0 rfl rfl 19 (by decide) (hts _ k_298) (fun _ h9 => h9) rfl (tyX10_ok 19 (by decide)) rfl rfl (Nat.le_of_ble_eq_true rfl) dX10_write_26 (fun H locs hP hD hS => ?_)
  have hP : va_P D vwCl [(h0, .inr (10, [.int v1, .int v2, .ref h2, .ref h3, .ref h4, .ref h5, .ref h6, .ref h7, .ref h1, .ref h8, .ref h9, .ref h10, .int v3, .ref h11, .ref h12, .ref h13, .ref h14, .int v4, .int v5, .int 70, .ref h15, .ref h16, .ref h17, .int v6, .ref h18, .int v7, .ref h19, .ref h20, .int v8, .ref h21, .ref h22, .int v9, .int v10, .int v11, .int v12, .int v13, .int v14, .int v15, .int v16, .ref h23, .long v17, .long v18, .long v19, .long v20])), (h1, .inl (G.1, 10, .inl v21)), (h14, .inl (G.1, 1336, .inl f473))] H := hP
  have hD : va_D A [(h0, .inr (10, [.int v1, .int v2, .ref h2, .ref h3, .ref h4, .ref h5, .ref h6, .ref h7, .ref h1, .ref h8, .ref h9, .ref h10, .int v3, .ref h11, .ref h12, .ref h13, .ref h14, .int v4, .int v5, .int 70, .ref h15, .ref h16, .ref h17, .int v6, .ref h18, .int v7, .ref h19, .ref h20, .int v8, .ref h21, .ref h22, .int v9, .int v10, .int v11, .int v12, .int v13, .int v14, .int v15, .int v16, .ref h23, .long v17, .long v18, .long v19, .long v20])), (h1, .inl (G.1, 10, .inl v21)), (h14, .inl (G.1, 1336, .inl f473))] := hD
  refine lv_iinc (v := 8) (lv' := [(3, .int 8), (0, .ref h0), (1, .ref h1), (2, .int 10)]) hx hb dX10_write_29 hl (k := 0) rfl (by decide) (by decide) rfl (fun ls hl => ?_)
  refine lv_goto (tgt := 2) hx hb dX10_write_32 (by decide) ?_
  refine lv_iload_n hx hb dX10_write_2 rfl (lv_at hl 0 rfl) ?_
  refine lv_iload_n hx hb dX10_write_3 rfl (lv_at hl 3 rfl) ?_
  refine lv_icmp_ge (tgt := 35) hx hb dX10_write_4 (by decide) (fun h9 => absurd h9 (by decide)) (fun _ => ?_)
  refine lv_aload_n hx hb dX10_write_7 rfl (lv_at hl 1 rfl) ?_
  refine va_get (D := D) (ci := 10) (v := .ref h14) (C := RX10) (T := TX10) (N := 44) hx hb hts inlX10 hown hK hP 0 rfl rfl 16 (by decide) (hts _ k_105) (fun _ h9 => h9) rfl dX10_write_8 ?_
  refine lv_aload_n hx hb dX10_write_11 rfl (lv_at hl 1 rfl) ?_
  refine va_get (D := D) (ci := 10) (v := .int 70) (C := RX10) (T := TX10) (N := 44) hx hb hts inlX10 hown hK hP 0 rfl rfl 19 (by decide) (hts _ k_298) (fun _ h9 => h9) rfl dX10_write_12 ?_
  refine lv_aload_n hx hb dX10_write_15 rfl (lv_at hl 2 rfl) ?_
  refine lv_iload_n hx hb dX10_write_16 rfl (lv_at hl 0 rfl) ?_
  refine va_iald hx hb hK hP 1 0 rfl rfl (show ¬ ((8 : Int32) < 0 ∨ 10 ≤ (8 : Int32).toNatClampNeg) by decide) dX10_write_17 ?_
  refine lv_topi (fun x474 _ => ?_)
  refine va_iast hx hb hK hP hD hS 2 0 rfl rfl (show ¬ ((70 : Int32) < 0 ∨ 1336 ≤ (70 : Int32).toNatClampNeg) by decide) dX10_write_18 (fun H locs hP hD hS => ?_)
  obtain ⟨f475, hP, hD⟩ : ∃ f475, va_P D vwCl [(h0, .inr (10, [.int v1, .int v2, .ref h2, .ref h3, .ref h4, .ref h5, .ref h6, .ref h7, .ref h1, .ref h8, .ref h9, .ref h10, .int v3, .ref h11, .ref h12, .ref h13, .ref h14, .int v4, .int v5, .int 70, .ref h15, .ref h16, .ref h17, .int v6, .ref h18, .int v7, .ref h19, .ref h20, .int v8, .ref h21, .ref h22, .int v9, .int v10, .int v11, .int v12, .int v13, .int v14, .int v15, .int v16, .ref h23, .long v17, .long v18, .long v19, .long v20])), (h1, .inl (G.1, 10, .inl v21)), (h14, .inl (G.1, 1336, .inl f475))] H ∧ va_D A [(h0, .inr (10, [.int v1, .int v2, .ref h2, .ref h3, .ref h4, .ref h5, .ref h6, .ref h7, .ref h1, .ref h8, .ref h9, .ref h10, .int v3, .ref h11, .ref h12, .ref h13, .ref h14, .int v4, .int v5, .int 70, .ref h15, .ref h16, .ref h17, .int v6, .ref h18, .int v7, .ref h19, .ref h20, .int v8, .ref h21, .ref h22, .int v9, .int v10, .int v11, .int v12, .int v13, .int v14, .int v15, .int v16, .ref h23, .long v17, .long v18, .long v19, .long v20])), (h1, .inl (G.1, 10, .inl v21)), (h14, .inl (G.1, 1336, .inl f475))] := ⟨_, hP, hD⟩
  refine lv_aload_n hx hb dX10_write_19 rfl (lv_at hl 1 rfl) ?_
  refine lv_dup hx hb dX10_write_20 rfl ?_
  refine va_get (D := D) (ci := 10) (v := .int 70) (C := RX10) (T := TX10) (N := 44) hx hb hts inlX10 hown hK hP 0 rfl rfl 19 (by decide) (hts _ k_298) (fun _ h9 => h9) rfl dX10_write_21 ?_
  refine lv_iconst (v := 1) hx hb dX10_write_24 (by decide) ?_
  refine lv_iadd hx hb dX10_write_25 ?_
  refine ow_i (y := 71) (by decide) ?_
  refine va_put (D := D) (ci := 10) (v := .int 71) (ty := .int) (C := RX10) (T := TX10) (N := 44) hx hb hts inlX10 tyX10 tyX10_ok nmX10 hown hK hP hD hS 0 rfl rfl 19 (by decide) (hts _ k_298) (fun _ h9 => h9) rfl (tyX10_ok 19 (by decide)) rfl rfl (Nat.le_of_ble_eq_true rfl) dX10_write_26 (fun H locs hP hD hS => ?_)
  have hP : va_P D vwCl [(h0, .inr (10, [.int v1, .int v2, .ref h2, .ref h3, .ref h4, .ref h5, .ref h6, .ref h7, .ref h1, .ref h8, .ref h9, .ref h10, .int v3, .ref h11, .ref h12, .ref h13, .ref h14, .int v4, .int v5, .int 71, .ref h15, .ref h16, .ref h17, .int v6, .ref h18, .int v7, .ref h19, .ref h20, .int v8, .ref h21, .ref h22, .int v9, .int v10, .int v11, .int v12, .int v13, .int v14, .int v15, .int v16, .ref h23, .long v17, .long v18, .long v19, .long v20])), (h1, .inl (G.1, 10, .inl v21)), (h14, .inl (G.1, 1336, .inl f475))] H := hP
  have hD : va_D A [(h0, .inr (10, [.int v1, .int v2, .ref h2, .ref h3, .ref h4, .ref h5, .ref h6, .ref h7, .ref h1, .ref h8, .ref h9, .ref h10, .int v3, .ref h11, .ref h12, .ref h13, .ref h14, .int v4, .int v5, .int 71, .ref h15, .ref h16, .ref h17, .int v6, .ref h18, .int v7, .ref h19, .ref h20, .int v8, .ref h21, .ref h22, .int v9, .int v10, .int v11, .int v12, .int v13, .int v14, .int v15, .int v16, .ref h23, .long v17, .long v18, .long v19, .long v20])), (h1, .inl (G.1, 10, .inl v21)), (h14, .inl (G.1, 1336, .inl f475))] := hD
  refine lv_iinc (v := 9) (lv' := [(3, .int 9), (0, .ref h0), (1, .ref h1), (2, .int 10)]) hx hb dX10_write_29 hl (k := 0) rfl (by decide) (by decide) rfl (fun ls hl => ?_)
  refine lv_goto (tgt := 2) hx hb dX10_write_32 (by decide) ?_
  refine lv_iload_n hx hb dX10_write_2 rfl (lv_at hl 0 rfl) ?_
  refine lv_iload_n hx hb dX10_write_3 rfl (lv_at hl 3 rfl) ?_
  refine lv_icmp_ge (tgt := 35) hx hb dX10_write_4 (by decide) (fun h9 => absurd h9 (by decide)) (fun _ => ?_)
  refine lv_aload_n hx hb dX10_write_7 rfl (lv_at hl 1 rfl) ?_
  refine va_get (D := D) (ci := 10) (v := .ref h14) (C := RX10) (T := TX10) (N := 44) hx hb hts inlX10 hown hK hP 0 rfl rfl 16 (by decide) (hts _ k_105) (fun _ h9 => h9) rfl dX10_write_8 ?_
  refine lv_aload_n hx hb dX10_write_11 rfl (lv_at hl 1 rfl) ?_
  refine va_get (D := D) (ci := 10) (v := .int 71) (C := RX10) (T := TX10) (N := 44) hx hb hts inlX10 hown hK hP 0 rfl rfl 19 (by decide) (hts _ k_298) (fun _ h9 => h9) rfl dX10_write_12 ?_
  refine lv_aload_n hx hb dX10_write_15 rfl (lv_at hl 2 rfl) ?_
  refine lv_iload_n hx hb dX10_write_16 rfl (lv_at hl 0 rfl) ?_
  refine va_iald hx hb hK hP 1 0 rfl rfl (show ¬ ((9 : Int32) < 0 ∨ 10 ≤ (9 : Int32).toNatClampNeg) by decide) dX10_write_17 ?_
  refine lv_topi (fun x476 _ => ?_)
  refine va_iast hx hb hK hP hD hS 2 0 rfl rfl (show ¬ ((71 : Int32) < 0 ∨ 1336 ≤ (71 : Int32).toNatClampNeg) by decide) dX10_write_18 (fun H locs hP hD hS => ?_)
  obtain ⟨f477, hP, hD⟩ : ∃ f477, va_P D vwCl [(h0, .inr (10, [.int v1, .int v2, .ref h2, .ref h3, .ref h4, .ref h5, .ref h6, .ref h7, .ref h1, .ref h8, .ref h9, .ref h10, .int v3, .ref h11, .ref h12, .ref h13, .ref h14, .int v4, .int v5, .int 71, .ref h15, .ref h16, .ref h17, .int v6, .ref h18, .int v7, .ref h19, .ref h20, .int v8, .ref h21, .ref h22, .int v9, .int v10, .int v11, .int v12, .int v13, .int v14, .int v15, .int v16, .ref h23, .long v17, .long v18, .long v19, .long v20])), (h1, .inl (G.1, 10, .inl v21)), (h14, .inl (G.1, 1336, .inl f477))] H ∧ va_D A [(h0, .inr (10, [.int v1, .int v2, .ref h2, .ref h3, .ref h4, .ref h5, .ref h6, .ref h7, .ref h1, .ref h8, .ref h9, .ref h10, .int v3, .ref h11, .ref h12, .ref h13, .ref h14, .int v4, .int v5, .int 71, .ref h15, .ref h16, .ref h17, .int v6, .ref h18, .int v7, .ref h19, .ref h20, .int v8, .ref h21, .ref h22, .int v9, .int v10, .int v11, .int v12, .int v13, .int v14, .int v15, .int v16, .ref h23, .long v17, .long v18, .long v19, .long v20])), (h1, .inl (G.1, 10, .inl v21)), (h14, .inl (G.1, 1336, .inl f477))] := ⟨_, hP, hD⟩
  refine lv_aload_n hx hb dX10_write_19 rfl (lv_at hl 1 rfl) ?_
  refine lv_dup hx hb dX10_write_20 rfl ?_
  refine va_get (D := D) (ci := 10) (v := .int 71) (C := RX10) (T := TX10) (N := 44) hx hb hts inlX10 hown hK hP 0 rfl rfl 19 (by decide) (hts _ k_298) (fun _ h9 => h9) rfl dX10_write_21 ?_
  refine lv_iconst (v := 1) hx hb dX10_write_24 (by decide) ?_
  refine lv_iadd hx hb dX10_write_25 ?_
  refine ow_i (y := 72) (by decide) ?_
  refine va_put (D := D) (ci := 10) (v := .int 72) (ty := .int) (C := RX10) (T := TX10) (N := 44) hx hb hts inlX10 tyX10 tyX10_ok nmX10 hown hK hP hD hS 0 rfl rfl 19 (by decide) (hts _ k_298) (fun _ h9 => h9) rfl (tyX10_ok 19 (by decide)) rfl rfl (Nat.le_of_ble_eq_true rfl) dX10_write_26 (fun H locs hP hD hS => ?_)
  have hP : va_P D vwCl [(h0, .inr (10, [.int v1, .int v2, .ref h2, .ref h3, .ref h4, .ref h5, .ref h6, .ref h7, .ref h1, .ref h8, .ref h9, .ref h10, .int v3, .ref h11, .ref h12, .ref h13, .ref h14, .int v4, .int v5, .int 72, .ref h15, .ref h16, .ref h17, .int v6, .ref h18, .int v7, .ref h19, .ref h20, .int v8, .ref h21, .ref h22, .int v9, .int v10, .int v11, .int v12, .int v13, .int v14, .int v15, .int v16, .ref h23, .long v17, .long v18, .long v19, .long v20])), (h1, .inl (G.1, 10, .inl v21)), (h14, .inl (G.1, 1336, .inl f477))] H := hP
  have hD : va_D A [(h0, .inr (10, [.int v1, .int v2, .ref h2, .ref h3, .ref h4, .ref h5, .ref h6, .ref h7, .ref h1, .ref h8, .ref h9, .ref h10, .int v3, .ref h11, .ref h12, .ref h13, .ref h14, .int v4, .int v5, .int 72, .ref h15, .ref h16, .ref h17, .int v6, .ref h18, .int v7, .ref h19, .ref h20, .int v8, .ref h21, .ref h22, .int v9, .int v10, .int v11, .int v12, .int v13, .int v14, .int v15, .int v16, .ref h23, .long v17, .long v18, .long v19, .long v20])), (h1, .inl (G.1, 10, .inl v21)), (h14, .inl (G.1, 1336, .inl f477))] := hD
  refine lv_iinc (v := 10) (lv' := [(3, .int 10), (0, .ref h0), (1, .ref h1), (2, .int 10)]) hx hb dX10_write_29 hl (k := 0) rfl (by decide) (by decide) rfl (fun ls hl => ?_)
  refine lv_goto (tgt := 2) hx hb dX10_write_32 (by decide) ?_
  refine lv_iload_n hx hb dX10_write_2 rfl (lv_at hl 0 rfl) ?_
  refine lv_iload_n hx hb dX10_write_3 rfl (lv_at hl 3 rfl) ?_
  refine lv_icmp_ge (tgt := 35) hx hb dX10_write_4 (by decide) (fun _ => ?_) (fun h9 => absurd h9 (by decide))
  exact ow_vret (u := [(h0, .inr (10, [.int v1, .int v2, .ref h2, .ref h3, .ref h4, .ref h5, .ref h6, .ref h7, .ref h1, .ref h8, .ref h9, .ref h10, .int v3, .ref h11, .ref h12, .ref h13, .ref h14, .int v4, .int v5, .int 72, .ref h15, .ref h16, .ref h17, .int v6, .ref h18, .int v7, .ref h19, .ref h20, .int v8, .ref h21, .ref h22, .int v9, .int v10, .int v11, .int v12, .int v13, .int v14, .int v15, .int v16, .ref h23, .long v17, .long v18, .long v19, .long v20])), (h1, .inl (G.1, 10, .inl v21)), (h14, .inl (G.1, 1336, .inl f477))]) hx hb hr hlocks hP hD hS [0, 1, 2] (by decide) rfl dX10_write_35 ⟨trivial, f477, rfl⟩
set_option maxHeartbeats 4000000 in
set_option maxRecDepth 100000 in
theorem c_X10_write_7 (l : Launch) (D : va_G) (G : ow_C) (h0 : Nat) (h1 : Nat) (v1 : Int32) (v2 : Int32) (h2 : Nat) (h3 : Nat) (h4 : Nat) (h5 : Nat) (h6 : Nat) (h7 : Nat) (h8 : Nat) (h9 : Nat) (h10 : Nat) (v3 : Int32) (h11 : Nat) (h12 : Nat) (h13 : Nat) (h14 : Nat) (v4 : Int32) (v5 : Int32) (h15 : Nat) (h16 : Nat) (h17 : Nat) (v6 : Int32) (h18 : Nat) (v7 : Int32) (h19 : Nat) (h20 : Nat) (v8 : Int32) (h21 : Nat) (h22 : Nat) (v9 : Int32) (v10 : Int32) (v11 : Int32) (v12 : Int32) (v13 : Int32) (v14 : Int32) (v15 : Int32) (v16 : Int32) (h23 : Nat) (v17 : Int64) (v18 : Int64) (v19 : Int64) (v20 : Int64) (v21 : Nat → Int32) (v22 : Nat → Int32) : ow_M l D G yX10_write cX10_write 4 none ({ frames := 1, cells := 0, slots := 0, locals := 64 } : Room) [.ref h0, .ref h1, .int 10] [(h0, .inr (10, [.int v1, .int v2, .ref h2, .ref h3, .ref h4, .ref h5, .ref h6, .ref h7, .ref h8, .ref h1, .ref h9, .ref h10, .int v3, .ref h11, .ref h12, .ref h13, .ref h14, .int v4, .int v5, .int 72, .ref h15, .ref h16, .ref h17, .int v6, .ref h18, .int v7, .ref h19, .ref h20, .int v8, .ref h21, .ref h22, .int v9, .int v10, .int v11, .int v12, .int v13, .int v14, .int v15, .int v16, .ref h23, .long v17, .long v18, .long v19, .long v20])), (h1, .inl (G.1, 10, .inl v21)), (h14, .inl (G.1, 1336, .inl v22))] (ow_V D (fun u => (True ∧ (∃ e0 : Nat → Int32, u = [(h0, .inr (10, [.int v1, .int v2, .ref h2, .ref h3, .ref h4, .ref h5, .ref h6, .ref h7, .ref h8, .ref h1, .ref h9, .ref h10, .int v3, .ref h11, .ref h12, .ref h13, .ref h14, .int v4, .int v5, .int 82, .ref h15, .ref h16, .ref h17, .int v6, .ref h18, .int v7, .ref h19, .ref h20, .int v8, .ref h21, .ref h22, .int v9, .int v10, .int v11, .int v12, .int v13, .int v14, .int v15, .int v16, .ref h23, .long v17, .long v18, .long v19, .long v20])), (h1, .inl (G.1, 10, .inl v21)), (h14, .inl (G.1, 1336, .inl e0))])))) 0 0 := by
  refine ow_met (by decide) (Nat.le_of_ble_eq_true rfl) ?_
  intro p e s m args below meth c A ls hE hl
  obtain ⟨hx, hb, hr, hml, hown, hlocks, hnm, hts, hN, hK, hP, hD, hA, hS⟩ := hE
  have hown : s.vm.findClass RX10 = some m.cls := hown
  have hP : va_P D vwCl [(h0, .inr (10, [.int v1, .int v2, .ref h2, .ref h3, .ref h4, .ref h5, .ref h6, .ref h7, .ref h8, .ref h1, .ref h9, .ref h10, .int v3, .ref h11, .ref h12, .ref h13, .ref h14, .int v4, .int v5, .int 72, .ref h15, .ref h16, .ref h17, .int v6, .ref h18, .int v7, .ref h19, .ref h20, .int v8, .ref h21, .ref h22, .int v9, .int v10, .int v11, .int v12, .int v13, .int v14, .int v15, .int v16, .ref h23, .long v17, .long v18, .long v19, .long v20])), (h1, .inl (G.1, 10, .inl v21)), (h14, .inl (G.1, 1336, .inl v22))] s.heap := hP
  have hD : va_D A [(h0, .inr (10, [.int v1, .int v2, .ref h2, .ref h3, .ref h4, .ref h5, .ref h6, .ref h7, .ref h8, .ref h1, .ref h9, .ref h10, .int v3, .ref h11, .ref h12, .ref h13, .ref h14, .int v4, .int v5, .int 72, .ref h15, .ref h16, .ref h17, .int v6, .ref h18, .int v7, .ref h19, .ref h20, .int v8, .ref h21, .ref h22, .int v9, .int v10, .int v11, .int v12, .int v13, .int v14, .int v15, .int v16, .ref h23, .long v17, .long v18, .long v19, .long v20])), (h1, .inl (G.1, 10, .inl v21)), (h14, .inl (G.1, 1336, .inl v22))] := hD
  have hl : lv_has ls 4 [(0, .ref h0), (1, .ref h1), (2, .int 10)] := hl
  refine lv_iconst (v := 0) hx hb dX10_write_0 (by decide) ?_
  refine lv_istore_n (lv' := [(3, .int 0), (0, .ref h0), (1, .ref h1), (2, .int 10)]) hx hb dX10_write_1 rfl hl (by decide) rfl (fun ls hl => ?_)
  refine lv_iload_n hx hb dX10_write_2 rfl (lv_at hl 0 rfl) ?_
  refine lv_iload_n hx hb dX10_write_3 rfl (lv_at hl 3 rfl) ?_
  refine lv_icmp_ge (tgt := 35) hx hb dX10_write_4 (by decide) (fun h9 => absurd h9 (by decide)) (fun _ => ?_)
  refine lv_aload_n hx hb dX10_write_7 rfl (lv_at hl 1 rfl) ?_
  refine va_get (D := D) (ci := 10) (v := .ref h14) (C := RX10) (T := TX10) (N := 44) hx hb hts inlX10 hown hK hP 0 rfl rfl 16 (by decide) (hts _ k_105) (fun _ h9 => h9) rfl dX10_write_8 ?_
  refine lv_aload_n hx hb dX10_write_11 rfl (lv_at hl 1 rfl) ?_
  refine va_get (D := D) (ci := 10) (v := .int 72) (C := RX10) (T := TX10) (N := 44) hx hb hts inlX10 hown hK hP 0 rfl rfl 19 (by decide) (hts _ k_298) (fun _ h9 => h9) rfl dX10_write_12 ?_
  refine lv_aload_n hx hb dX10_write_15 rfl (lv_at hl 2 rfl) ?_
  refine lv_iload_n hx hb dX10_write_16 rfl (lv_at hl 0 rfl) ?_
  refine va_iald hx hb hK hP 1 0 rfl rfl (show ¬ ((0 : Int32) < 0 ∨ 10 ≤ (0 : Int32).toNatClampNeg) by decide) dX10_write_17 ?_
  refine lv_topi (fun x480 _ => ?_)
  refine va_iast hx hb hK hP hD hS 2 0 rfl rfl (show ¬ ((72 : Int32) < 0 ∨ 1336 ≤ (72 : Int32).toNatClampNeg) by decide) dX10_write_18 (fun H locs hP hD hS => ?_)
  obtain ⟨f481, hP, hD⟩ : ∃ f481, va_P D vwCl [(h0, .inr (10, [.int v1, .int v2, .ref h2, .ref h3, .ref h4, .ref h5, .ref h6, .ref h7, .ref h8, .ref h1, .ref h9, .ref h10, .int v3, .ref h11, .ref h12, .ref h13, .ref h14, .int v4, .int v5, .int 72, .ref h15, .ref h16, .ref h17, .int v6, .ref h18, .int v7, .ref h19, .ref h20, .int v8, .ref h21, .ref h22, .int v9, .int v10, .int v11, .int v12, .int v13, .int v14, .int v15, .int v16, .ref h23, .long v17, .long v18, .long v19, .long v20])), (h1, .inl (G.1, 10, .inl v21)), (h14, .inl (G.1, 1336, .inl f481))] H ∧ va_D A [(h0, .inr (10, [.int v1, .int v2, .ref h2, .ref h3, .ref h4, .ref h5, .ref h6, .ref h7, .ref h8, .ref h1, .ref h9, .ref h10, .int v3, .ref h11, .ref h12, .ref h13, .ref h14, .int v4, .int v5, .int 72, .ref h15, .ref h16, .ref h17, .int v6, .ref h18, .int v7, .ref h19, .ref h20, .int v8, .ref h21, .ref h22, .int v9, .int v10, .int v11, .int v12, .int v13, .int v14, .int v15, .int v16, .ref h23, .long v17, .long v18, .long v19, .long v20])), (h1, .inl (G.1, 10, .inl v21)), (h14, .inl (G.1, 1336, .inl f481))] := ⟨_, hP, hD⟩
  refine lv_aload_n hx hb dX10_write_19 rfl (lv_at hl 1 rfl) ?_
  refine lv_dup hx hb dX10_write_20 rfl ?_
  refine va_get (D := D) (ci := 10) (v := .int 72) (C := RX10) (T := TX10) (N := 44) hx hb hts inlX10 hown hK hP 0 rfl rfl 19 (by decide) (hts _ k_298) (fun _ h9 => h9) rfl dX10_write_21 ?_
  refine lv_iconst (v := 1) hx hb dX10_write_24 (by decide) ?_
  refine lv_iadd hx hb dX10_write_25 ?_
  refine ow_i (y := 73) (by decide) ?_
  refine va_put (D := D) (ci := 10) (v := .int 73) (ty := .int) (C := RX10) (T := TX10) (N := 44) hx hb hts inlX10 tyX10 tyX10_ok nmX10 hown hK hP hD hS 0 rfl rfl 19 (by decide) (hts _ k_298) (fun _ h9 => h9) rfl (tyX10_ok 19 (by decide)) rfl rfl (Nat.le_of_ble_eq_true rfl) dX10_write_26 (fun H locs hP hD hS => ?_)
  have hP : va_P D vwCl [(h0, .inr (10, [.int v1, .int v2, .ref h2, .ref h3, .ref h4, .ref h5, .ref h6, .ref h7, .ref h8, .ref h1, .ref h9, .ref h10, .int v3, .ref h11, .ref h12, .ref h13, .ref h14, .int v4, .int v5, .int 73, .ref h15, .ref h16, .ref h17, .int v6, .ref h18, .int v7, .ref h19, .ref h20, .int v8, .ref h21, .ref h22, .int v9, .int v10, .int v11, .int v12, .int v13, .int v14, .int v15, .int v16, .ref h23, .long v17, .long v18, .long v19, .long v20])), (h1, .inl (G.1, 10, .inl v21)), (h14, .inl (G.1, 1336, .inl f481))] H := hP
  have hD : va_D A [(h0, .inr (10, [.int v1, .int v2, .ref h2, .ref h3, .ref h4, .ref h5, .ref h6, .ref h7, .ref h8, .ref h1, .ref h9, .ref h10, .int v3, .ref h11, .ref h12, .ref h13, .ref h14, .int v4, .int v5, .int 73, .ref h15, .ref h16, .ref h17, .int v6, .ref h18, .int v7, .ref h19, .ref h20, .int v8, .ref h21, .ref h22, .int v9, .int v10, .int v11, .int v12, .int v13, .int v14, .int v15, .int v16, .ref h23, .long v17, .long v18, .long v19, .long v20])), (h1, .inl (G.1, 10, .inl v21)), (h14, .inl (G.1, 1336, .inl f481))] := hD
  refine lv_iinc (v := 1) (lv' := [(3, .int 1), (0, .ref h0), (1, .ref h1), (2, .int 10)]) hx hb dX10_write_29 hl (k := 0) rfl (by decide) (by decide) rfl (fun ls hl => ?_)
  refine lv_goto (tgt := 2) hx hb dX10_write_32 (by decide) ?_
  refine lv_iload_n hx hb dX10_write_2 rfl (lv_at hl 0 rfl) ?_
  refine lv_iload_n hx hb dX10_write_3 rfl (lv_at hl 3 rfl) ?_
  refine lv_icmp_ge (tgt := 35) hx hb dX10_write_4 (by decide) (fun h9 => absurd h9 (by decide)) (fun _ => ?_)
  refine lv_aload_n hx hb dX10_write_7 rfl (lv_at hl 1 rfl) ?_
  refine va_get (D := D) (ci := 10) (v := .ref h14) (C := RX10) (T := TX10) (N := 44) hx hb hts inlX10 hown hK hP 0 rfl rfl 16 (by decide) (hts _ k_105) (fun _ h9 => h9) rfl dX10_write_8 ?_
  refine lv_aload_n hx hb dX10_write_11 rfl (lv_at hl 1 rfl) ?_
  refine va_get (D := D) (ci := 10) (v := .int 73) (C := RX10) (T := TX10) (N := 44) hx hb hts inlX10 hown hK hP 0 rfl rfl 19 (by decide) (hts _ k_298) (fun _ h9 => h9) rfl dX10_write_12 ?_
  refine lv_aload_n hx hb dX10_write_15 rfl (lv_at hl 2 rfl) ?_
  refine lv_iload_n hx hb dX10_write_16 rfl (lv_at hl 0 rfl) ?_
  refine va_iald hx hb hK hP 1 0 rfl rfl (show ¬ ((1 : Int32) < 0 ∨ 10 ≤ (1 : Int32).toNatClampNeg) by decide) dX10_write_17 ?_
  refine lv_topi (fun x482 _ => ?_)
  refine va_iast hx hb hK hP hD hS 2 0 rfl rfl (show ¬ ((73 : Int32) < 0 ∨ 1336 ≤ (73 : Int32).toNatClampNeg) by decide) dX10_write_18 (fun H locs hP hD hS => ?_)
  obtain ⟨f483, hP, hD⟩ : ∃ f483, va_P D vwCl [(h0, .inr (10, [.int v1, .int v2, .ref h2, .ref h3, .ref h4, .ref h5, .ref h6, .ref h7, .ref h8, .ref h1, .ref h9, .ref h10, .int v3, .ref h11, .ref h12, .ref h13, .ref h14, .int v4, .int v5, .int 73, .ref h15, .ref h16, .ref h17, .int v6, .ref h18, .int v7, .ref h19, .ref h20, .int v8, .ref h21, .ref h22, .int v9, .int v10, .int v11, .int v12, .int v13, .int v14, .int v15, .int v16, .ref h23, .long v17, .long v18, .long v19, .long v20])), (h1, .inl (G.1, 10, .inl v21)), (h14, .inl (G.1, 1336, .inl f483))] H ∧ va_D A [(h0, .inr (10, [.int v1, .int v2, .ref h2, .ref h3, .ref h4, .ref h5, .ref h6, .ref h7, .ref h8, .ref h1, .ref h9, .ref h10, .int v3, .ref h11, .ref h12, .ref h13, .ref h14, .int v4, .int v5, .int 73, .ref h15, .ref h16, .ref h17, .int v6, .ref h18, .int v7, .ref h19, .ref h20, .int v8, .ref h21, .ref h22, .int v9, .int v10, .int v11, .int v12, .int v13, .int v14, .int v15, .int v16, .ref h23, .long v17, .long v18, .long v19, .long v20])), (h1, .inl (G.1, 10, .inl v21)), (h14, .inl (G.1, 1336, .inl f483))] := ⟨_, hP, hD⟩
  refine lv_aload_n hx hb dX10_write_19 rfl (lv_at hl 1 rfl) ?_
  refine lv_dup hx hb dX10_write_20 rfl ?_
  refine va_get (D := D) (ci := 10) (v := .int 73) (C := RX10) (T := TX10) (N := 44) hx hb hts inlX10 hown hK hP 0 rfl rfl 19 (by decide) (hts _ k_298) (fun _ h9 => h9) rfl dX10_write_21 ?_
  refine lv_iconst (v := 1) hx hb dX10_write_24 (by decide) ?_
  refine lv_iadd hx hb dX10_write_25 ?_
  refine ow_i (y := 74) (by decide) ?_
  refine va_put (D := D) (ci := 10) (v := .int 74) (ty := .int) (C := RX10) (T := TX10) (N := 44) hx hb hts inlX10 tyX10 tyX10_ok nmX10 hown hK hP hD hS 0 rfl rfl 19 (by decide) (hts _ k_298) (fun _ h9 => h9) rfl (tyX10_ok 19 (by decide)) rfl rfl (Nat.le_of_ble_eq_true rfl) dX10_write_26 (fun H locs hP hD hS => ?_)
  have hP : va_P D vwCl [(h0, .inr (10, [.int v1, .int v2, .ref h2, .ref h3, .ref h4, .ref h5, .ref h6, .ref h7, .ref h8, .ref h1, .ref h9, .ref h10, .int v3, .ref h11, .ref h12, .ref h13, .ref h14, .int v4, .int v5, .int 74, .ref h15, .ref h16, .ref h17, .int v6, .ref h18, .int v7, .ref h19, .ref h20, .int v8, .ref h21, .ref h22, .int v9, .int v10, .int v11, .int v12, .int v13, .int v14, .int v15, .int v16, .ref h23, .long v17, .long v18, .long v19, .long v20])), (h1, .inl (G.1, 10, .inl v21)), (h14, .inl (G.1, 1336, .inl f483))] H := hP
  have hD : va_D A [(h0, .inr (10, [.int v1, .int v2, .ref h2, .ref h3, .ref h4, .ref h5, .ref h6, .ref h7, .ref h8, .ref h1, .ref h9, .ref h10, .int v3, .ref h11, .ref h12, .ref h13, .ref h14, .int v4, .int v5, .int 74, .ref h15, .ref h16, .ref h17, .int v6, .ref h18, .int v7, .ref h19, .ref h20, .int v8, .ref h21, .ref h22, .int v9, .int v10, .int v11, .int v12, .int v13, .int v14, .int v15, .int v16, .ref h23, .long v17, .long v18, .long v19, .long v20])), (h1, .inl (G.1, 10, .inl v21)), (h14, .inl (G.1, 1336, .inl f483))] := hD
  refine lv_iinc (v := 2) (lv' := [(3, .int 2), (0, .ref h0), (1, .ref h1), (2, .int 10)]) hx hb dX10_write_29 hl (k := 0) rfl (by decide) (by decide) rfl (fun ls hl => ?_)
  refine lv_goto (tgt := 2) hx hb dX10_write_32 (by decide) ?_
  refine lv_iload_n hx hb dX10_write_2 rfl (lv_at hl 0 rfl) ?_
  refine lv_iload_n hx hb dX10_write_3 rfl (lv_at hl 3 rfl) ?_
  refine lv_icmp_ge (tgt := 35) hx hb dX10_write_4 (by decide) (fun h9 => absurd h9 (by decide)) (fun _ => ?_)
  refine lv_aload_n hx hb dX10_write_7 rfl (lv_at hl 1 rfl) ?_
  refine va_get (D := D) (ci := 10) (v := .ref h14) (C := RX10) (T := TX10) (N := 44) hx hb hts inlX10 hown hK hP 0 rfl rfl 16 (by decide) (hts _ k_105) (fun _ h9 => h9) rfl dX10_write_8 ?_
  refine lv_aload_n hx hb dX10_write_11 rfl (lv_at hl 1 rfl) ?_
  refine va_get (D := D) (ci := 10) (v := .int 74) (C := RX10) (T := TX10) (N := 44) hx hb hts inlX10 hown hK hP 0 rfl rfl 19 (by decide) (hts _ k_298) (fun _ h9 => h9) rfl dX10_write_12 ?_
  refine lv_aload_n hx hb dX10_write_15 rfl (lv_at hl 2 rfl) ?_
  refine lv_iload_n hx hb dX10_write_16 rfl (lv_at hl 0 rfl) ?_
  refine va_iald hx hb hK hP 1 0 rfl rfl (show ¬ ((2 : Int32) < 0 ∨ 10 ≤ (2 : Int32).toNatClampNeg) by decide) dX10_write_17 ?_
  refine lv_topi (fun x484 _ => ?_)
  refine va_iast hx hb hK hP hD hS 2 0 rfl rfl (show ¬ ((74 : Int32) < 0 ∨ 1336 ≤ (74 : Int32).toNatClampNeg) by decide) dX10_write_18 (fun H locs hP hD hS => ?_)
  obtain ⟨f485, hP, hD⟩ : ∃ f485, va_P D vwCl [(h0, .inr (10, [.int v1, .int v2, .ref h2, .ref h3, .ref h4, .ref h5, .ref h6, .ref h7, .ref h8, .ref h1, .ref h9, .ref h10, .int v3, .ref h11, .ref h12, .ref h13, .ref h14, .int v4, .int v5, .int 74, .ref h15, .ref h16, .ref h17, .int v6, .ref h18, .int v7, .ref h19, .ref h20, .int v8, .ref h21, .ref h22, .int v9, .int v10, .int v11, .int v12, .int v13, .int v14, .int v15, .int v16, .ref h23, .long v17, .long v18, .long v19, .long v20])), (h1, .inl (G.1, 10, .inl v21)), (h14, .inl (G.1, 1336, .inl f485))] H ∧ va_D A [(h0, .inr (10, [.int v1, .int v2, .ref h2, .ref h3, .ref h4, .ref h5, .ref h6, .ref h7, .ref h8, .ref h1, .ref h9, .ref h10, .int v3, .ref h11, .ref h12, .ref h13, .ref h14, .int v4, .int v5, .int 74, .ref h15, .ref h16, .ref h17, .int v6, .ref h18, .int v7, .ref h19, .ref h20, .int v8, .ref h21, .ref h22, .int v9, .int v10, .int v11, .int v12, .int v13, .int v14, .int v15, .int v16, .ref h23, .long v17, .long v18, .long v19, .long v20])), (h1, .inl (G.1, 10, .inl v21)), (h14, .inl (G.1, 1336, .inl f485))] := ⟨_, hP, hD⟩
  refine lv_aload_n hx hb dX10_write_19 rfl (lv_at hl 1 rfl) ?_
  refine lv_dup hx hb dX10_write_20 rfl ?_
  refine va_get (D := D) (ci := 10) (v := .int 74) (C := RX10) (T := TX10) (N := 44) hx hb hts inlX10 hown hK hP 0 rfl rfl 19 (by decide) (hts _ k_298) (fun _ h9 => h9) rfl dX10_write_21 ?_
  refine lv_iconst (v := 1) hx hb dX10_write_24 (by decide) ?_
  refine lv_iadd hx hb dX10_write_25 ?_
  refine ow_i (y := 75) (by decide) ?_
  refine va_put (D := D) (ci := 10) (v := .int 75) (ty := .int) (C := RX10) (T := TX10) (N := 44) hx hb hts inlX10 tyX10 tyX10_ok nmX10 hown hK hP hD hS 0 rfl rfl 19 (by decide) (hts _ k_298) (fun _ h9 => h9) rfl (tyX10_ok 19 (by decide)) rfl rfl (Nat.le_of_ble_eq_true rfl) dX10_write_26 (fun H locs hP hD hS => ?_)
  have hP : va_P D vwCl [(h0, .inr (10, [.int v1, .int v2, .ref h2, .ref h3, .ref h4, .ref h5, .ref h6, .ref h7, .ref h8, .ref h1, .ref h9, .ref h10, .int v3, .ref h11, .ref h12, .ref h13, .ref h14, .int v4, .int v5, .int 75, .ref h15, .ref h16, .ref h17, .int v6, .ref h18, .int v7, .ref h19, .ref h20, .int v8, .ref h21, .ref h22, .int v9, .int v10, .int v11, .int v12, .int v13, .int v14, .int v15, .int v16, .ref h23, .long v17, .long v18, .long v19, .long v20])), (h1, .inl (G.1, 10, .inl v21)), (h14, .inl (G.1, 1336, .inl f485))] H := hP
  have hD : va_D A [(h0, .inr (10, [.int v1, .int v2, .ref h2, .ref h3, .ref h4, .ref h5, .ref h6, .ref h7, .ref h8, .ref h1, .ref h9, .ref h10, .int v3, .ref h11, .ref h12, .ref h13, .ref h14, .int v4, .int v5, .int 75, .ref h15, .ref h16, .ref h17, .int v6, .ref h18, .int v7, .ref h19, .ref h20, .int v8, .ref h21, .ref h22, .int v9, .int v10, .int v11, .int v12, .int v13, .int v14, .int v15, .int v16, .ref h23, .long v17, .long v18, .long v19, .long v20])), (h1, .inl (G.1, 10, .inl v21)), (h14, .inl (G.1, 1336, .inl f485))] := hD
  refine lv_iinc (v := 3) (lv' := [(3, .int 3), (0, .ref h0), (1, .ref h1), (2, .int 10)]) hx hb dX10_write_29 hl (k := 0) rfl (by decide) (by decide) rfl (fun ls hl => ?_)
  refine lv_goto (tgt := 2) hx hb dX10_write_32 (by decide) ?_
  refine lv_iload_n hx hb dX10_write_2 rfl (lv_at hl 0 rfl) ?_
  refine lv_iload_n hx hb dX10_write_3 rfl (lv_at hl 3 rfl) ?_
  refine lv_icmp_ge (tgt := 35) hx hb dX10_write_4 (by decide) (fun h9 => absurd h9 (by decide)) (fun _ => ?_)
  refine lv_aload_n hx hb dX10_write_7 rfl (lv_at hl 1 rfl) ?_
  refine va_get (D := D) (ci := 10) (v := .ref h14) (C := RX10) (T := TX10) (N := 44) hx hb hts inlX10 hown hK hP 0 rfl rfl 16 (by decide) (hts _ k_105) (fun _ h9 => h9) rfl dX10_write_8 ?_
  refine lv_aload_n hx hb dX10_write_11 rfl (lv_at hl 1 rfl) ?_
  refine va_get (D := D) (ci := 10) (v := .int 75) (C := RX10) (T := TX10) (N := 44) hx hb hts inlX10 hown hK hP 0 rfl rfl 19 (by decide) (hts _ k_298) (fun _ h9 => h9) rfl dX10_write_12 ?_
  refine lv_aload_n hx hb dX10_write_15 rfl (lv_at hl 2 rfl) ?_
  refine lv_iload_n hx hb dX10_write_16 rfl (lv_at hl 0 rfl) ?_
  refine va_iald hx hb hK hP 1 0 rfl rfl (show ¬ ((3 : Int32) < 0 ∨ 10 ≤ (3 : Int32).toNatClampNeg) by decide) dX10_write_17 ?_
  refine lv_topi (fun x486 _ => ?_)
  refine va_iast hx hb hK hP hD hS 2 0 rfl rfl (show ¬ ((75 : Int32) < 0 ∨ 1336 ≤ (75 : Int32).toNatClampNeg) by decide) dX10_write_18 (fun H locs hP hD hS => ?_)
  obtain ⟨f487, hP, hD⟩ : ∃ f487, va_P D vwCl [(h0, .inr (10, [.int v1, .int v2, .ref h2, .ref h3, .ref h4, .ref h5, .ref h6, .ref h7, .ref h8, .ref h1, .ref h9, .ref h10, .int v3, .ref h11, .ref h12, .ref h13, .ref h14, .int v4, .int v5, .int 75, .ref h15, .ref h16, .ref h17, .int v6, .ref h18, .int v7, .ref h19, .ref h20, .int v8, .ref h21, .ref h22, .int v9, .int v10, .int v11, .int v12, .int v13, .int v14, .int v15, .int v16, .ref h23, .long v17, .long v18, .long v19, .long v20])), (h1, .inl (G.1, 10, .inl v21)), (h14, .inl (G.1, 1336, .inl f487))] H ∧ va_D A [(h0, .inr (10, [.int v1, .int v2, .ref h2, .ref h3, .ref h4, .ref h5, .ref h6, .ref h7, .ref h8, .ref h1, .ref h9, .ref h10, .int v3, .ref h11, .ref h12, .ref h13, .ref h14, .int v4, .int v5, .int 75, .ref h15, .ref h16, .ref h17, .int v6, .ref h18, .int v7, .ref h19, .ref h20, .int v8, .ref h21, .ref h22, .int v9, .int v10, .int v11, .int v12, .int v13, .int v14, .int v15, .int v16, .ref h23, .long v17, .long v18, .long v19, .long v20])), (h1, .inl (G.1, 10, .inl v21)), (h14, .inl (G.1, 1336, .inl f487))] := ⟨_, hP, hD⟩
  refine lv_aload_n hx hb dX10_write_19 rfl (lv_at hl 1 rfl) ?_
  refine lv_dup hx hb dX10_write_20 rfl ?_
  refine va_get (D := D) (ci := 10) (v := .int 75) (C := RX10) (T := TX10) (N := 44) hx hb hts inlX10 hown hK hP 0 rfl rfl 19 (by decide) (hts _ k_298) (fun _ h9 => h9) rfl dX10_write_21 ?_
  refine lv_iconst (v := 1) hx hb dX10_write_24 (by decide) ?_
  refine lv_iadd hx hb dX10_write_25 ?_
  refine ow_i (y := 76) (by decide) ?_
  refine va_put (D := D) (ci := 10) (v := .int 76) (ty := .int) (C := RX10) (T := TX10) (N := 44) hx hb hts inlX10 tyX10 tyX10_ok nmX10 hown hK hP hD hS 0 rfl rfl 19 (by decide) (hts _ k_298) (fun _ h9 => h9) rfl (tyX10_ok 19 (by decide)) rfl rfl (Nat.le_of_ble_eq_true rfl) dX10_write_26 (fun H locs hP hD hS => ?_)
  have hP : va_P D vwCl [(h0, .inr (10, [.int v1, .int v2, .ref h2, .ref h3, .ref h4, .ref h5, .ref h6, .ref h7, .ref h8, .ref h1, .ref h9, .ref h10, .int v3, .ref h11, .ref h12, .ref h13, .ref h14, .int v4, .int v5, .int 76, .ref h15, .ref h16, .ref h17, .int v6, .ref h18, .int v7, .ref h19, .ref h20, .int v8, .ref h21, .ref h22, .int v9, .int v10, .int v11, .int v12, .int v13, .int v14, .int v15, .int v16, .ref h23, .long v17, .long v18, .long v19, .long v20])), (h1, .inl (G.1, 10, .inl v21)), (h14, .inl (G.1, 1336, .inl f487))] H := hP
  have hD : va_D A [(h0, .inr (10, [.int v1, .int v2, .ref h2, .ref h3, .ref h4, .ref h5, .ref h6, .ref h7, .ref h8, .ref h1, .ref h9, .ref h10, .int v3, .ref h11, .ref h12, .ref h13, .ref h14, .int v4, .int v5, .int 76, .ref h15, .ref h16, .ref h17, .int v6, .ref h18, .int v7, .ref h19, .ref h20, .int v8, .ref h21, .ref h22, .int v9, .int v10, .int v11, .int v12, .int v13, .int v14, .int v15, .int v16, .ref h23, .long v17, .long v18, .long v19, .long v20])), (h1, .inl (G.1, 10, .inl v21)), (h14, .inl (G.1, 1336, .inl f487))] := hD
  refine lv_iinc (v := 4) (lv' := [(3, .int 4), (0, .ref h0), (1, .ref h1), (2, .int 10)]) hx hb dX10_write_29 hl (k := 0) rfl (by decide) (by decide) rfl (fun ls hl => ?_)
  refine lv_goto (tgt := 2) hx hb dX10_write_32 (by decide) ?_
  refine lv_iload_n hx hb dX10_write_2 rfl (lv_at hl 0 rfl) ?_
  refine lv_iload_n hx hb dX10_write_3 rfl (lv_at hl 3 rfl) ?_
  refine lv_icmp_ge (tgt := 35) hx hb dX10_write_4 (by decide) (fun h9 => absurd h9 (by decide)) (fun _ => ?_)
  refine lv_aload_n hx hb dX10_write_7 rfl (lv_at hl 1 rfl) ?_
  refine va_get (D := D) (ci := 10) (v := .ref h14) (C := RX10) (T := TX10) (N := 44) hx hb hts inlX10 hown hK hP 0 rfl rfl 16 (by decide) (hts _ k_105) (fun _ h9 => h9) rfl dX10_write_8 ?_
  refine lv_aload_n hx hb dX10_write_11 rfl (lv_at hl 1 rfl) ?_
  refine va_get (D := D) (ci := 10) (v := .int 76) (C := RX10) (T := TX10) (N := 44) hx hb hts inlX10 hown hK hP 0 rfl rfl 19 (by decide) (hts _ k_298) (fun _ h9 => h9) rfl dX10_write_12 ?_
  refine lv_aload_n hx hb dX10_write_15 rfl (lv_at hl 2 rfl) ?_
  refine lv_iload_n hx hb dX10_write_16 rfl (lv_at hl 0 rfl) ?_
  refine va_iald hx hb hK hP 1 0 rfl rfl (show ¬ ((4 : Int32) < 0 ∨ 10 ≤ (4 : Int32).toNatClampNeg) by decide) dX10_write_17 ?_
  refine lv_topi (fun x488 _ => ?_)
  refine va_iast hx hb hK hP hD hS 2 0 rfl rfl (show ¬ ((76 : Int32) < 0 ∨ 1336 ≤ (76 : Int32).toNatClampNeg) by decide) dX10_write_18 (fun H locs hP hD hS => ?_)
  obtain ⟨f489, hP, hD⟩ : ∃ f489, va_P D vwCl [(h0, .inr (10, [.int v1, .int v2, .ref h2, .ref h3, .ref h4, .ref h5, .ref h6, .ref h7, .ref h8, .ref h1, .ref h9, .ref h10, .int v3, .ref h11, .ref h12, .ref h13, .ref h14, .int v4, .int v5, .int 76, .ref h15, .ref h16, .ref h17, .int v6, .ref h18, .int v7, .ref h19, .ref h20, .int v8, .ref h21, .ref h22, .int v9, .int v10, .int v11, .int v12, .int v13, .int v14, .int v15, .int v16, .ref h23, .long v17, .long v18, .long v19, .long v20])), (h1, .inl (G.1, 10, .inl v21)), (h14, .inl (G.1, 1336, .inl f489))] H ∧ va_D A [(h0, .inr (10, [.int v1, .int v2, .ref h2, .ref h3, .ref h4, .ref h5, .ref h6, .ref h7, .ref h8, .ref h1, .ref h9, .ref h10, .int v3, .ref h11, .ref h12, .ref h13, .ref h14, .int v4, .int v5, .int 76, .ref h15, .ref h16, .ref h17, .int v6, .ref h18, .int v7, .ref h19, .ref h20, .int v8, .ref h21, .ref h22, .int v9, .int v10, .int v11, .int v12, .int v13, .int v14, .int v15, .int v16, .ref h23, .long v17, .long v18, .long v19, .long v20])), (h1, .inl (G.1, 10, .inl v21)), (h14, .inl (G.1, 1336, .inl f489))] := ⟨_, hP, hD⟩
  refine lv_aload_n hx hb dX10_write_19 rfl (lv_at hl 1 rfl) ?_
  refine lv_dup hx hb dX10_write_20 rfl ?_
  refine va_get (D := D) (ci := 10) (v := .int 76) (C := RX10) (T := TX10) (N := 44) hx hb hts inlX10 hown hK hP 0 rfl rfl 19 (by decide) (hts _ k_298) (fun _ h9 => h9) rfl dX10_write_21 ?_
  refine lv_iconst (v := 1) hx hb dX10_write_24 (by decide) ?_
  refine lv_iadd hx hb dX10_write_25 ?_
  refine ow_i (y := 77) (by decide) ?_
  refine va_put (D := D) (ci := 10) (v := .int 77) (ty := .int) (C := RX10) (T := TX10) (N := 44) hx hb hts inlX10 tyX10 tyX10_ok nmX10 hown hK hP hD hS 0 rfl rfl 19 (by decide) (hts _ k_298) (fun _ h9 => h9) rfl (tyX10_ok 19 (by decide)) rfl rfl (Nat.le_of_ble_eq_true rfl) dX10_write_26 (fun H locs hP hD hS => ?_)
  have hP : va_P D vwCl [(h0, .inr (10, [.int v1, .int v2, .ref h2, .ref h3, .ref h4, .ref h5, .ref h6, .ref h7, .ref h8, .ref h1, .ref h9, .ref h10, .int v3, .ref h11, .ref h12, .ref h13, .ref h14, .int v4, .int v5, .int 77, .ref h15, .ref h16, .ref h17, .int v6, .ref h18, .int v7, .ref h19, .ref h20, .int v8, .ref h21, .ref h22, .int v9, .int v10, .int v11, .int v12, .int v13, .int v14, .int v15, .int v16, .ref h23, .long v17, .long v18, .long v19, .long v20])), (h1, .inl (G.1, 10, .inl v21)), (h14, .inl (G.1, 1336, .inl f489))] H := hP
  have hD : va_D A [(h0, .inr (10, [.int v1, .int v2, .ref h2, .ref h3, .ref h4, .ref h5, .ref h6, .ref h7, .ref h8, .ref h1, .ref h9, .ref h10, .int v3, .ref h11, .ref h12, .ref h13, .ref h14, .int v4, .int v5, .int 77, .ref h15, .ref h16, .ref h17, .int v6, .ref h18, .int v7, .ref h19, .ref h20, .int v8, .ref h21, .ref h22, .int v9, .int v10, .int v11, .int v12, .int v13, .int v14, .int v15, .int v16, .ref h23, .long v17, .long v18, .long v19, .long v20])), (h1, .inl (G.1, 10, .inl v21)), (h14, .inl (G.1, 1336, .inl f489))] := hD
  refine lv_iinc (v := 5) (lv' := [(3, .int 5), (0, .ref h0), (1, .ref h1), (2, .int 10)]) hx hb dX10_write_29 hl (k := 0) rfl (by decide) (by decide) rfl (fun ls hl => ?_)
  refine lv_goto (tgt := 2) hx hb dX10_write_32 (by decide) ?_
  refine lv_iload_n hx hb dX10_write_2 rfl (lv_at hl 0 rfl) ?_
  refine lv_iload_n hx hb dX10_write_3 rfl (lv_at hl 3 rfl) ?_
  refine lv_icmp_ge (tgt := 35) hx hb dX10_write_4 (by decide) (fun h9 => absurd h9 (by decide)) (fun _ => ?_)
  refine lv_aload_n hx hb dX10_write_7 rfl (lv_at hl 1 rfl) ?_
  refine va_get (D := D) (ci := 10) (v := .ref h14) (C := RX10) (T := TX10) (N := 44) hx hb hts inlX10 hown hK hP 0 rfl rfl 16 (by decide) (hts _ k_105) (fun _ h9 => h9) rfl dX10_write_8 ?_
  refine lv_aload_n hx hb dX10_write_11 rfl (lv_at hl 1 rfl) ?_
  refine va_get (D := D) (ci := 10) (v := .int 77) (C := RX10) (T := TX10) (N := 44) hx hb hts inlX10 hown hK hP 0 rfl rfl 19 (by decide) (hts _ k_298) (fun _ h9 => h9) rfl dX10_write_12 ?_
  refine lv_aload_n hx hb dX10_write_15 rfl (lv_at hl 2 rfl) ?_
  refine lv_iload_n hx hb dX10_write_16 rfl (lv_at hl 0 rfl) ?_
  refine va_iald hx hb hK hP 1 0 rfl rfl (show ¬ ((5 : Int32) < 0 ∨ 10 ≤ (5 : Int32).toNatClampNeg) by decide) dX10_write_17 ?_
  refine lv_topi (fun x490 _ => ?_)
  refine va_iast hx hb hK hP hD hS 2 0 rfl rfl (show ¬ ((77 : Int32) < 0 ∨ 1336 ≤ (77 : Int32).toNatClampNeg) by decide) dX10_write_18 (fun H locs hP hD hS => ?_)
  obtain ⟨f491, hP, hD⟩ : ∃ f491, va_P D vwCl [(h0, .inr (10, [.int v1, .int v2, .ref h2, .ref h3, .ref h4, .ref h5, .ref h6, .ref h7, .ref h8, .ref h1, .ref h9, .ref h10, .int v3, .ref h11, .ref h12, .ref h13, .ref h14, .int v4, .int v5, .int 77, .ref h15, .ref h16, .ref h17, .int v6, .ref h18, .int v7, .ref h19, .ref h20, .int v8, .ref h21, .ref h22, .int v9, .int v10, .int v11, .int v12, .int v13, .int v14, .int v15, .int v16, .ref h23, .long v17, .long v18, .long v19, .long v20])), (h1, .inl (G.1, 10, .inl v21)), (h14, .inl (G.1, 1336, .inl f491))] H ∧ va_D A [(h0, .inr (10, [.int v1, .int v2, .ref h2, .ref h3, .ref h4, .ref h5, .ref h6, .ref h7, .ref h8, .ref h1, .ref h9, .ref h10, .int v3, .ref h11, .ref h12, .ref h13, .ref h14, .int v4, .int v5, .int 77, .ref h15, .ref h16, .ref h17, .int v6, .ref h18, .int v7, .ref h19, .ref h20, .int v8, .ref h21, .ref h22, .int v9, .int v10, .int v11, .int v12, .int v13, .int v14, .int v15, .int v16, .ref h23, .long v17, .long v18, .long v19, .long v20])), (h1, .inl (G.1, 10, .inl v21)), (h14, .inl (G.1, 1336, .inl f491))] := ⟨_, hP, hD⟩
  refine lv_aload_n hx hb dX10_write_19 rfl (lv_at hl 1 rfl) ?_
  refine lv_dup hx hb dX10_write_20 rfl ?_
  refine va_get (D := D) (ci := 10) (v := .int 77) (C := RX10) (T := TX10) (N := 44) hx hb hts inlX10 hown hK hP 0 rfl rfl 19 (by decide) (hts _ k_298) (fun _ h9 => h9) rfl dX10_write_21 ?_
  refine lv_iconst (v := 1) hx hb dX10_write_24 (by decide) ?_
  refine lv_iadd hx hb dX10_write_25 ?_
  refine ow_i (y := 78) (by decide) ?_
  refine va_put (D := D) (ci := 10) (v := .int 78) (ty := .int) (C := RX10) (T := TX10) (N := 44) hx hb hts inlX10 tyX10 tyX10_ok nmX10 hown hK hP hD hS 0 rfl rfl 19 (by decide) (hts _ k_298) (fun _ h9 => h9) rfl (tyX10_ok 19 (by decide)) rfl rfl (Nat.le_of_ble_eq_true rfl) dX10_write_26 (fun H locs hP hD hS => ?_)
  have hP : va_P D vwCl [(h0, .inr (10, [.int v1, .int v2, .ref h2, .ref h3, .ref h4, .ref h5, .ref h6, .ref h7, .ref h8, .ref h1, .ref h9, .ref h10, .int v3, .ref h11, .ref h12, .ref h13, .ref h14, .int v4, .int v5, .int 78, .ref h15, .ref h16, .ref h17, .int v6, .ref h18, .int v7, .ref h19, .ref h20, .int v8, .ref h21, .ref h22, .int v9, .int v10, .int v11, .int v12, .int v13, .int v14, .int v15, .int v16, .ref h23, .long v17, .long v18, .long v19, .long v20])), (h1, .inl (G.1, 10, .inl v21)), (h14, .inl (G.1, 1336, .inl f491))] H := hP
  have hD : va_D A [(h0, .inr (10, [.int v1, .int v2, .ref h2, .ref h3, .ref h4, .ref h5, .ref h6, .ref h7, .ref h8, .ref h1, .ref h9, .ref h10, .int v3, .ref h11, .ref h12, .ref h13, .ref h14, .int v4, .int v5, .int 78, .ref h15, .ref h16, .ref h17, .int v6, .ref h18, .int v7, .ref h19, .ref h20, .int v8, .ref h21, .ref h22, .int v9, .int v10, .int v11, .int v12, .int v13, .int v14, .int v15, .int v16, .ref h23, .long v17, .long v18, .long v19, .long v20])), (h1, .inl (G.1, 10, .inl v21)), (h14, .inl (G.1, 1336, .inl f491))] := hD
  refine lv_iinc (v := 6) (lv' := [(3, .int 6), (0, .ref h0), (1, .ref h1), (2, .int 10)]) hx hb dX10_write_29 hl (k := 0) rfl (by decide) (by decide) rfl (fun ls hl => ?_)
  refine lv_goto (tgt := 2) hx hb dX10_write_32 (by decide) ?_
  refine lv_iload_n hx hb dX10_write_2 rfl (lv_at hl 0 rfl) ?_
  refine lv_iload_n hx hb dX10_write_3 rfl (lv_at hl 3 rfl) ?_
  refine lv_icmp_ge (tgt := 35) hx hb dX10_write_4 (by decide) (fun h9 => absurd h9 (by decide)) (fun _ => ?_)
  refine lv_aload_n hx hb dX10_write_7 rfl (lv_at hl 1 rfl) ?_
  refine va_get (D := D) (ci := 10) (v := .ref h14) (C := RX10) (T := TX10) (N := 44) hx hb hts inlX10 hown hK hP 0 rfl rfl 16 (by decide) (hts _ k_105) (fun _ h9 => h9) rfl dX10_write_8 ?_
  refine lv_aload_n hx hb dX10_write_11 rfl (lv_at hl 1 rfl) ?_
  refine va_get (D := D) (ci := 10) (v := .int 78) (C := RX10) (T := TX10) (N := 44) hx hb hts inlX10 hown hK hP 0 rfl rfl 19 (by decide) (hts _ k_298) (fun _ h9 => h9) rfl dX10_write_12 ?_
  refine lv_aload_n hx hb dX10_write_15 rfl (lv_at hl 2 rfl) ?_
  refine lv_iload_n hx hb dX10_write_16 rfl (lv_at hl 0 rfl) ?_
  refine va_iald hx hb hK hP 1 0 rfl rfl (show ¬ ((6 : Int32) < 0 ∨ 10 ≤ (6 : Int32).toNatClampNeg) by decide) dX10_write_17 ?_
  refine lv_topi (fun x492 _ => ?_)
  refine va_iast hx hb hK hP hD hS 2 0 rfl rfl (show ¬ ((78 : Int32) < 0 ∨ 1336 ≤ (78 : Int32).toNatClampNeg) by decide) dX10_write_18 (fun H locs hP hD hS => ?_)
  obtain ⟨f493, hP, hD⟩ : ∃ f493, va_P D vwCl [(h0, .inr (10, [.int v1, .int v2, .ref h2, .ref h3, .ref h4, .ref h5, .ref h6, .ref h7, .ref h8, .ref h1, .ref h9, .ref h10, .int v3, .ref h11, .ref h12, .ref h13, .ref h14, .int v4, .int v5, .int 78, .ref h15, .ref h16, .ref h17, .int v6, .ref h18, .int v7, .ref h19, .ref h20, .int v8, .ref h21, .ref h22, .int v9, .int v10, .int v11, .int v12, .int v13, .int v14, .int v15, .int v16, .ref h23, .long v17, .long v18, .long v19, .long v20])), (h1, .inl (G.1, 10, .inl v21)), (h14, .inl (G.1, 1336, .inl f493))] H ∧ va_D A [(h0, .inr (10, [.int v1, .int v2, .ref h2, .ref h3, .ref h4, .ref h5, .ref h6, .ref h7, .ref h8, .ref h1, .ref h9, .ref h10, .int v3, .ref h11, .ref h12, .ref h13, .ref h14, .int v4, .int v5, .int 78, .ref h15, .ref h16, .ref h17, .int v6, .ref h18, .int v7, .ref h19, .ref h20, .int v8, .ref h21, .ref h22, .int v9, .int v10, .int v11, .int v12, .int v13, .int v14, .int v15, .int v16, .ref h23, .long v17, .long v18, .long v19, .long v20])), (h1, .inl (G.1, 10, .inl v21)), (h14, .inl (G.1, 1336, .inl f493))] := ⟨_, hP, hD⟩
  refine lv_aload_n hx hb dX10_write_19 rfl (lv_at hl 1 rfl) ?_
  refine lv_dup hx hb dX10_write_20 rfl ?_
  refine va_get (D := D) (ci := 10) (v := .int 78) (C := RX10) (T := TX10) (N := 44) hx hb hts inlX10 hown hK hP 0 rfl rfl 19 (by decide) (hts _ k_298) (fun _ h9 => h9) rfl dX10_write_21 ?_
  refine lv_iconst (v := 1) hx hb dX10_write_24 (by decide) ?_
  refine lv_iadd hx hb dX10_write_25 ?_
  refine ow_i (y := 79) (by decide) ?_
  refine va_put (D := D) (ci := 10) (v := .int 79) (ty := .int) (C := RX10) (T := TX10) (N := 44) hx hb hts inlX10 tyX10 tyX10_ok nmX10 hown hK hP hD hS 0 rfl rfl 19 (by decide) (hts _ k_298) (fun _ h9 => h9) rfl (tyX10_ok 19 (by decide)) rfl rfl (Nat.le_of_ble_eq_true rfl) dX10_write_26 (fun H locs hP hD hS => ?_)
  have hP : va_P D vwCl [(h0, .inr (10, [.int v1, .int v2, .ref h2, .ref h3, .ref h4, .ref h5, .ref h6, .ref h7, .ref h8, .ref h1, .ref h9, .ref h10, .int v3, .ref h11, .ref h12, .ref h13, .ref h14, .int v4, .int v5, .int 79, .ref h15, .ref h16, .ref h17, .int v6, .ref h18, .int v7, .ref h19, .ref h20, .int v8, .ref h21, .ref h22, .int v9, .int v10, .int v11, .int v12, .int v13, .int v14, .int v15, .int v16, .ref h23, .long v17, .long v18, .long v19, .long v20])), (h1, .inl (G.1, 10, .inl v21)), (h14, .inl (G.1, 1336, .inl f493))] H := hP
  have hD : va_D A [(h0, .inr (10, [.int v1, .int v2, .ref h2, .ref h3, .ref h4, .ref h5, .ref h6, .ref h7, .ref h8, .ref h1, .ref h9, .ref h10, .int v3, .ref h11, .ref h12, .ref h13, .ref h14, .int v4, .int v5, .int 79, .ref h15, .ref h16, .ref h17, .int v6, .ref h18, .int v7, .ref h19, .ref h20, .int v8, .ref h21, .ref h22, .int v9, .int v10, .int v11, .int v12, .int v13, .int v14, .int v15, .int v16, .ref h23, .long v17, .long v18, .long v19, .long v20])), (h1, .inl (G.1, 10, .inl v21)), (h14, .inl (G.1, 1336, .inl f493))] := hD
  refine lv_iinc (v := 7) (lv' := [(3, .int 7), (0, .ref h0), (1, .ref h1), (2, .int 10)]) hx hb dX10_write_29 hl (k := 0) rfl (by decide) (by decide) rfl (fun ls hl => ?_)
  refine lv_goto (tgt := 2) hx hb dX10_write_32 (by decide) ?_
  refine lv_iload_n hx hb dX10_write_2 rfl (lv_at hl 0 rfl) ?_
  refine lv_iload_n hx hb dX10_write_3 rfl (lv_at hl 3 rfl) ?_
  refine lv_icmp_ge (tgt := 35) hx hb dX10_write_4 (by decide) (fun h9 => absurd h9 (by decide)) (fun _ => ?_)
  refine lv_aload_n hx hb dX10_write_7 rfl (lv_at hl 1 rfl) ?_
  refine va_get (D := D) (ci := 10) (v := .ref h14) (C := RX10) (T := TX10) (N := 44) hx hb hts inlX10 hown hK hP 0 rfl rfl 16 (by decide) (hts _ k_105) (fun _ h9 => h9) rfl dX10_write_8 ?_
  refine lv_aload_n hx hb dX10_write_11 rfl (lv_at hl 1 rfl) ?_
  refine va_get (D := D) (ci := 10) (v := .int 79) (C := RX10) (T := TX10) (N := 44) hx hb hts inlX10 hown hK hP 0 rfl rfl 19 (by decide) (hts _ k_298) (fun _ h9 => h9) rfl dX10_write_12 ?_
  refine lv_aload_n hx hb dX10_write_15 rfl (lv_at hl 2 rfl) ?_
  refine lv_iload_n hx hb dX10_write_16 rfl (lv_at hl 0 rfl) ?_
  refine va_iald hx hb hK hP 1 0 rfl rfl (show ¬ ((7 : Int32) < 0 ∨ 10 ≤ (7 : Int32).toNatClampNeg) by decide) dX10_write_17 ?_
  refine lv_topi (fun x494 _ => ?_)
  refine va_iast hx hb hK hP hD hS 2 0 rfl rfl (show ¬ ((79 : Int32) < 0 ∨ 1336 ≤ (79 : Int32).toNatClampNeg) by decide) dX10_write_18 (fun H locs hP hD hS => ?_)
  obtain ⟨f495, hP, hD⟩ : ∃ f495, va_P D vwCl [(h0, .inr (10, [.int v1, .int v2, .ref h2, .ref h3, .ref h4, .ref h5, .ref h6, .ref h7, .ref h8, .ref h1, .ref h9, .ref h10, .int v3, .ref h11, .ref h12, .ref h13, .ref h14, .int v4, .int v5, .int 79, .ref h15, .ref h16, .ref h17, .int v6, .ref h18, .int v7, .ref h19, .ref h20, .int v8, .ref h21, .ref h22, .int v9, .int v10, .int v11, .int v12, .int v13, .int v14, .int v15, .int v16, .ref h23, .long v17, .long v18, .long v19, .long v20])), (h1, .inl (G.1, 10, .inl v21)), (h14, .inl (G.1, 1336, .inl f495))] H ∧ va_D A [(h0, .inr (10, [.int v1, .int v2, .ref h2, .ref h3, .ref h4, .ref h5, .ref h6, .ref h7, .ref h8, .ref h1, .ref h9, .ref h10, .int v3, .ref h11, .ref h12, .ref h13, .ref h14, .int v4, .int v5, .int 79, .ref h15, .ref h16, .ref h17, .int v6, .ref h18, .int v7, .ref h19, .ref h20, .int v8, .ref h21, .ref h22, .int v9, .int v10, .int v11, .int v12, .int v13, .int v14, .int v15, .int v16, .ref h23, .long v17, .long v18, .long v19, .long v20])), (h1, .inl (G.1, 10, .inl v21)), (h14, .inl (G.1, 1336, .inl f495))] := ⟨_, hP, hD⟩
  refine lv_aload_n hx hb dX10_write_19 rfl (lv_at hl 1 rfl) ?_
  refine lv_dup hx hb dX10_write_20 rfl ?_
  refine va_get (D := D) (ci := 10) (v := .int 79) (C := RX10) (T := TX10) (N := 44) hx hb hts inlX10 hown hK hP 0 rfl rfl 19 (by decide) (hts _ k_298) (fun _ h9 => h9) rfl dX10_write_21 ?_
  refine lv_iconst (v := 1) hx hb dX10_write_24 (by decide) ?_
  refine lv_iadd hx hb dX10_write_25 ?_
  refine ow_i (y := 80) (by decide) ?_
  refine va_put (D := D) (ci := 10) (v := .int 80) (ty := .int) (C := RX10) (T := TX10) (N := 44) hx hb hts inlX10 tyX10 tyX10_ok nmX10 hown hK hP hD hS 0 rfl rfl 19 (by decide) (hts _ k_298) (fun _ h9 => h9) rfl (tyX10_ok 19 (by decide)) rfl rfl (Nat.le_of_ble_eq_true rfl) dX10_write_26 (fun H locs hP hD hS => ?_)
  have hP : va_P D vwCl [(h0, .inr (10, [.int v1, .int v2, .ref h2, .ref h3, .ref h4, .ref h5, .ref h6, .ref h7, .ref h8, .ref h1, .ref h9, .ref h10, .int v3, .ref h11, .ref h12, .ref h13, .ref h14, .int v4, .int v5, .int 80, .ref h15, .ref h16, .ref h17, .int v6, .ref h18, .int v7, .ref h19, .ref h20, .int v8, .ref h21, .ref h22, .int v9, .int v10, .int v11, .int v12, .int v13, .int v14, .int v15, .int v16, .ref h23, .long v17, .long v18, .long v19, .long v20])), (h1, .inl (G.1, 10, .inl v21)), (h14, .inl (G.1, 1336, .inl f495))] H := hP
  have hD : va_D A [(h0, .inr (10, [.int v1, .int v2, .ref h2, .ref h3, .ref h4, .ref h5, .ref h6, .ref h7, .ref h8, .ref h1, .ref h9, .ref h10, .int v3, .ref h11, .ref h12, .ref h13, .ref h14, .int v4, .int v5, .int 80, .ref h15, .ref h16, .ref h17, .int v6, .ref h18, .int v7, .ref h19, .ref h20, .int v8, .ref h21, .ref h22, .int v9, .int v10, .int v11, .int v12, .int v13, .int v14, .int v15, .int v16, .ref h23, .long v17, .long v18, .long v19, .long v20])), (h1, .inl (G.1, 10, .inl v21)), (h14, .inl (G.1, 1336, .inl f495))] := hD
  refine lv_iinc (v := 8) (lv' := [(3, .int 8), (0, .ref h0), (1, .ref h1), (2, .int 10)]) hx hb dX10_write_29 hl (k := 0) rfl (by decide) (by decide) rfl (fun ls hl => ?_)
  refine lv_goto (tgt := 2) hx hb dX10_write_32 (by decide) ?_
  refine lv_iload_n hx hb dX10_write_2 rfl (lv_at hl 0 rfl) ?_
  refine lv_iload_n hx hb dX10_write_3 rfl (lv_at hl 3 rfl) ?_
  refine lv_icmp_ge (tgt := 35) hx hb dX10_write_4 (by decide) (fun h9 => absurd h9 (by decide)) (fun _ => ?_)
  refine lv_aload_n hx hb dX10_write_7 rfl (lv_at hl 1 rfl) ?_
  refine va_get (D := D) (ci := 10) (v := .ref h14) (C := RX10) (T := TX10) (N := 44) hx hb hts inlX10 hown hK hP 0 rfl rfl 16 (by decide) (hts _ k_105) (fun _ h9 => h9) rfl dX10_write_8 ?_
  refine lv_aload_n hx hb dX10_write_11 rfl (lv_at hl 1 rfl) ?_
  refine va_get (D := D) (ci := 10) (v := .int 80) (C := RX10) (T := TX10) (N := 44) hx hb hts inlX10 hown hK hP 0 rfl rfl 19 (by decide) (hts _ k_298) (fun _ h9 => h9) rfl dX10_write_12 ?_
  refine lv_aload_n hx hb dX10_write_15 rfl (lv_at hl 2 rfl) ?_
  refine lv_iload_n hx hb dX10_write_16 rfl (lv_at hl 0 rfl) ?_
  refine va_iald hx hb hK hP 1 0 rfl rfl (show ¬ ((8 : Int32) < 0 ∨ 10 ≤ (8 : Int32).toNatClampNeg) by decide) dX10_write_17 ?_
  refine lv_topi (fun x496 _ => ?_)
  refine va_iast hx hb hK hP hD hS 2 0 rfl rfl (show ¬ ((80 : Int32) < 0 ∨ 1336 ≤ (80 : Int32).toNatClampNeg) by decide) dX10_write_18 (fun H locs hP hD hS => ?_)
  obtain ⟨f497, hP, hD⟩ : ∃ f497, va_P D vwCl [(h0, .inr (10, [.int v1, .int v2, .ref h2, .ref h3, .ref h4, .ref h5, .ref h6, .ref h7, .ref h8, .ref h1, .ref h9, .ref h10, .int v3, .ref h11, .ref h12, .ref h13, .ref h14, .int v4, .int v5, .int 80, .ref h15, .ref h16, .ref h17, .int v6, .ref h18, .int v7, .ref h19, .ref h20, .int v8, .ref h21, .ref h22, .int v9, .int v10, .int v11, .int v12, .int v13, .int v14, .int v15, .int v16, .ref h23, .long v17, .long v18, .long v19, .long v20])), (h1, .inl (G.1, 10, .inl v21)), (h14, .inl (G.1, 1336, .inl f497))] H ∧ va_D A [(h0, .inr (10, [.int v1, .int v2, .ref h2, .ref h3, .ref h4, .ref h5, .ref h6, .ref h7, .ref h8, .ref h1, .ref h9, .ref h10, .int v3, .ref h11, .ref h12, .ref h13, .ref h14, .int v4, .int v5, .int 80, .ref h15, .ref h16, .ref h17, .int v6, .ref h18, .int v7, .ref h19, .ref h20, .int v8, .ref h21, .ref h22, .int v9, .int v10, .int v11, .int v12, .int v13, .int v14, .int v15, .int v16, .ref h23, .long v17, .long v18, .long v19, .long v20])), (h1, .inl (G.1, 10, .inl v21)), (h14, .inl (G.1, 1336, .inl f497))] := ⟨_, hP, hD⟩
  refine lv_aload_n hx hb dX10_write_19 rfl (lv_at hl 1 rfl) ?_
  refine lv_dup hx hb dX10_write_20 rfl ?_
  refine va_get (D := D) (ci := 10) (v := .int 80) (C := RX10) (T := TX10) (N := 44) hx hb hts inlX10 hown hK hP 0 rfl rfl 19 (by decide) (hts _ k_298) (fun _ h9 => h9) rfl dX10_write_21 ?_
  refine lv_iconst (v := 1) hx hb dX10_write_24 (by decide) ?_
  refine lv_iadd hx hb dX10_write_25 ?_
  refine ow_i (y := 81) (by decide) ?_
  refine va_put (D := D) (ci := 10) (v := .int 81) (ty := .int) (C := RX10) (T := TX10) (N := 44) hx hb hts inlX10 tyX10 tyX10_ok nmX10 hown hK hP hD hS 0 rfl rfl 19 (by decide) (hts _ k_298) (fun _ h9 => h9) rfl (tyX10_ok 19 (by decide)) rfl rfl (Nat.le_of_ble_eq_true rfl) dX10_write_26 (fun H locs hP hD hS => ?_)
  have hP : va_P D vwCl [(h0, .inr (10, [.int v1, .int v2, .ref h2, .ref h3, .ref h4, .ref h5, .ref h6, .ref h7, .ref h8, .ref h1, .ref h9, .ref h10, .int v3, .ref h11, .ref h12, .ref h13, .ref h14, .int v4, .int v5, .int 81, .ref h15, .ref h16, .ref h17, .int v6, .ref h18, .int v7, .ref h19, .ref h20, .int v8, .ref h21, .ref h22, .int v9, .int v10, .int v11, .int v12, .int v13, .int v14, .int v15, .int v16, .ref h23, .long v17, .long v18, .long v19, .long v20])), (h1, .inl (G.1, 10, .inl v21)), (h14, .inl (G.1, 1336, .inl f497))] H := hP
  have hD : va_D A [(h0, .inr (10, [.int v1, .int v2, .ref h2, .ref h3, .ref h4, .ref h5, .ref h6, .ref h7, .ref h8, .ref h1, .ref h9, .ref h10, .int v3, .ref h11, .ref h12, .ref h13, .ref h14, .int v4, .int v5, .int 81, .ref h15, .ref h16, .ref h17, .int v6, .ref h18, .int v7, .ref h19, .ref h20, .int v8, .ref h21, .ref h22, .int v9, .int v10, .int v11, .int v12, .int v13, .int v14, .int v15, .int v16, .ref h23, .long v17, .long v18, .long v19, .long v20])), (h1, .inl (G.1, 10, .inl v21)), (h14, .inl (G.1, 1336, .inl f497))] := hD
  refine lv_iinc (v := 9) (lv' := [(3, .int 9), (0, .ref h0), (1, .ref h1), (2, .int 10)]) hx hb dX10_write_29 hl (k := 0) rfl (by decide) (by decide) rfl (fun ls hl => ?_)
  refine lv_goto (tgt := 2) hx hb dX10_write_32 (by decide) ?_
  refine lv_iload_n hx hb dX10_write_2 rfl (lv_at hl 0 rfl) ?_
  refine lv_iload_n hx hb dX10_write_3 rfl (lv_at hl 3 rfl) ?_
  refine lv_icmp_ge (tgt := 35) hx hb dX10_write_4 (by decide) (fun h9 => absurd h9 (by decide)) (fun _ => ?_)
  refine lv_aload_n hx hb dX10_write_7 rfl (lv_at hl 1 rfl) ?_
  refine va_get (D := D) (ci := 10) (v := .ref h14) (C := RX10) (T := TX10) (N := 44) hx hb hts inlX10 hown hK hP 0 rfl rfl 16 (by decide) (hts _ k_105) (fun _ h9 => h9) rfl dX10_write_8 ?_
  refine lv_aload_n hx hb dX10_write_11 rfl (lv_at hl 1 rfl) ?_
  refine va_get (D := D) (ci := 10) (v := .int 81) (C := RX10) (T := TX10) (N := 44) hx hb hts inlX10 hown hK hP 0 rfl rfl 19 (by decide) (hts _ k_298) (fun _ h9 => h9) rfl dX10_write_12 ?_
  refine lv_aload_n hx hb dX10_write_15 rfl (lv_at hl 2 rfl) ?_
  refine lv_iload_n hx hb dX10_write_16 rfl (lv_at hl 0 rfl) ?_
  refine va_iald hx hb hK hP 1 0 rfl rfl (show ¬ ((9 : Int32) < 0 ∨ 10 ≤ (9 : Int32).toNatClampNeg) by decide) dX10_write_17 ?_
  refine lv_topi (fun x498 _ => ?_)
  refine va_iast hx hb hK hP hD hS 2 0 rfl rfl (show ¬ ((81 : Int32) < 0 ∨ 1336 ≤ (81 : Int32).toNatClampNeg) by decide) dX10_write_18 (fun H locs hP hD hS => ?_)
  obtain ⟨f499, hP, hD⟩ : ∃ f499, va_P D vwCl [(h0, .inr (10, [.int v1, .int v2, .ref h2, .ref h3, .ref h4, .ref h5, .ref h6, .ref h7, .ref h8, .ref h1, .ref h9, .ref h10, .int v3, .ref h11, .ref h12, .ref h13, .ref h14, .int v4, .int v5, .int 81, .ref h15, .ref h16, .ref h17, .int v6, .ref h18, .int v7, .ref h19, .ref h20, .int v8, .ref h21, .ref h22, .int v9, .int v10, .int v11, .int v12, .int v13, .int v14, .int v15, .int v16, .ref h23, .long v17, .long v18, .long v19, .long v20])), (h1, .inl (G.1, 10, .inl v21)), (h14, .inl (G.1, 1336, .inl f499))] H ∧ va_D A [(h0, .inr (10, [.int v1, .int v2, .ref h2, .ref h3, .ref h4, .ref h5, .ref h6, .ref h7, .ref h8, .ref h1, .ref h9, .ref h10, .int v3, .ref h11, .ref h12, .ref h13, .ref h14, .int v4, .int v5, .int 81, .ref h15, .ref h16, .ref h17, .int v6, .ref h18, .int v7, .ref h19, .ref h20, .int v8, .ref h21, .ref h22, .int v9, .int v10, .int v11, .int v12, .int v13, .int v14, .int v15, .int v16, .ref h23, .long v17, .long v18, .long v19, .long v20])), (h1, .inl (G.1, 10, .inl v21)), (h14, .inl (G.1, 1336, .inl f499))] := ⟨_, hP, hD⟩
  refine lv_aload_n hx hb dX10_write_19 rfl (lv_at hl 1 rfl) ?_
  refine lv_dup hx hb dX10_write_20 rfl ?_
  refine va_get (D := D) (ci := 10) (v := .int 81) (C := RX10) (T := TX10) (N := 44) hx hb hts inlX10 hown hK hP 0 rfl rfl 19 (by decide) (hts _ k_298) (fun _ h9 => h9) rfl dX10_write_21 ?_
  refine lv_iconst (v := 1) hx hb dX10_write_24 (by decide) ?_
  refine lv_iadd hx hb dX10_write_25 ?_
  refine ow_i (y := 82) (by decide) ?_
  refine va_put (D := D) (ci := 10) (v := .int 82) (ty := .int) (C := RX10) (T := TX10) (N := 44) hx hb hts inlX10 tyX10 tyX10_ok nmX10 hown hK hP hD hS 0 rfl rfl 19 (by decide) (hts _ k_298) (fun _ h9 => h9) rfl (tyX10_ok 19 (by decide)) rfl rfl (Nat.le_of_ble_eq_true rfl) dX10_write_26 (fun H locs hP hD hS => ?_)
  have hP : va_P D vwCl [(h0, .inr (10, [.int v1, .int v2, .ref h2, .ref h3, .ref h4, .ref h5, .ref h6, .ref h7, .ref h8, .ref h1, .ref h9, .ref h10, .int v3, .ref h11, .ref h12, .ref h13, .ref h14, .int v4, .int v5, .int 82, .ref h15, .ref h16, .ref h17, .int v6, .ref h18, .int v7, .ref h19, .ref h20, .int v8, .ref h21, .ref h22, .int v9, .int v10, .int v11, .int v12, .int v13, .int v14, .int v15, .int v16, .ref h23, .long v17, .long v18, .long v19, .long v20])), (h1, .inl (G.1, 10, .inl v21)), (h14, .inl (G.1, 1336, .inl f499))] H := hP
  have hD : va_D A [(h0, .inr (10, [.int v1, .int v2, .ref h2, .ref h3, .ref h4, .ref h5, .ref h6, .ref h7, .ref h8, .ref h1, .ref h9, .ref h10, .int v3, .ref h11, .ref h12, .ref h13, .ref h14, .int v4, .int v5, .int 82, .ref h15, .ref h16, .ref h17, .int v6, .ref h18, .int v7, .ref h19, .ref h20, .int v8, .ref h21, .ref h22, .int v9, .int v10, .int v11, .int v12, .int v13, .int v14, .int v15, .int v16, .ref h23, .long v17, .long v18, .long v19, .long v20])), (h1, .inl (G.1, 10, .inl v21)), (h14, .inl (G.1, 1336, .inl f499))] := hD
  refine lv_iinc (v := 10) (lv' := [(3, .int 10), (0, .ref h0), (1, .ref h1), (2, .int 10)]) hx hb dX10_write_29 hl (k := 0) rfl (by decide) (by decide) rfl (fun ls hl => ?_)
  refine lv_goto (tgt := 2) hx hb dX10_write_32 (by decide) ?_
  refine lv_iload_n hx hb dX10_write_2 rfl (lv_at hl 0 rfl) ?_
  refine lv_iload_n hx hb dX10_write_3 rfl (lv_at hl 3 rfl) ?_
  refine lv_icmp_ge (tgt := 35) hx hb dX10_write_4 (by decide) (fun _ => ?_) (fun h9 => absurd h9 (by decide))
  exact ow_vret (u := [(h0, .inr (10, [.int v1, .int v2, .ref h2, .ref h3, .ref h4, .ref h5, .ref h6, .ref h7, .ref h8, .ref h1, .ref h9, .ref h10, .int v3, .ref h11, .ref h12, .ref h13, .ref h14, .int v4, .int v5, .int 82, .ref h15, .ref h16, .ref h17, .int v6, .ref h18, .int v7, .ref h19, .ref h20, .int v8, .ref h21, .ref h22, .int v9, .int v10, .int v11, .int v12, .int v13, .int v14, .int v15, .int v16, .ref h23, .long v17, .long v18, .long v19, .long v20])), (h1, .inl (G.1, 10, .inl v21)), (h14, .inl (G.1, 1336, .inl f499))]) hx hb hr hlocks hP hD hS [0, 1, 2] (by decide) rfl dX10_write_35 ⟨trivial, f499, rfl⟩
