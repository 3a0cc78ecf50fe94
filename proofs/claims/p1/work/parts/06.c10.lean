set_option maxHeartbeats 4000000 in
set_option maxRecDepth 100000 in
theorem c_X10_write_8 (l : Launch) (D : va_G) (G : ow_C) (h0 : Nat) (h1 : Nat) (v1 : Int32) (v2 : Int32) (h2 : Nat) (h3 : Nat) (h4 : Nat) (h5 : Nat) (h6 : Nat) (h7 : Nat) (h8 : Nat) (h9 : Nat) (h10 : Nat) (v3 : Int32) (h11 : Nat) (h12 : Nat) (h13 : Nat) (h14 : Nat) (v4 : Int32) (v5 : Int32) (h15 : Nat) (h16 : Nat) (h17 : Nat) (v6 : Int32) (h18 : Nat) (v7 : Int32) (h19 : Nat) (h20 : Nat) (v8 : Int32) (h21 : Nat) (h22 : Nat) (v9 : Int32) (v10 : Int32) (v11 : Int32) (v12 : Int32) (v13 : Int32) (v14 : Int32) (v15 : Int32) (v16 : Int32) (h23 : Nat) (v17 : Int64) (v18 : Int64) (v19 : Int64) (v20 : Int64) (v21 : Nat → Int32) (v22 : Nat → Int32) : ow_M l D G yX10_write cX10_write 4 none ({ frames := 1, cells := 0, slots := 0, locals := 64 } : Room) [.ref h0, .ref h1, .int 10] [(h0, .inr (10, [.int v1, .int v2, .ref h2, .ref h3, .ref h4, .ref h5, .ref h6, .ref h7, .ref h8, .ref h9, .ref h1, .ref h10, .int v3, .ref h11, .ref h12, .ref h13, .ref h14, .int v4, .int v5, .int 82, .ref h15, .ref h16, .ref h17, .int v6, .ref h18, .int v7, .ref h19, .ref h20, .int v8, .ref h21, .ref h22, .int v9, .int v10, .int v11, .int v12, .int v13, .int v14, .int v15, .int v16, .ref h23, .long v17, .long v18, .long v19, .long v20])), (h1, .inl (G.1, 10, .inl v21)), (h14, .inl (G.1, 1336, .inl v22))] (ow_V D (fun u => (True ∧ (∃ e0 : Nat → Int32, u = [(h0, .inr (10, [.int v1, .int v2, .ref h2, .ref h3, .ref h4, .ref h5, .ref h6, .ref h7, .ref h8, .ref h9, .ref h1, .ref h10, .int v3, .ref h11, .ref h12, .ref h13, .ref h14, .int v4, .int v5, .int 92, .ref h15, .ref h16, .ref h17, .int v6, .ref h18, .int v7, .ref h19, .ref h20, .int v8, .ref h21, .ref h22, .int v9, .int v10, .int v11, .int v12, .int v13, .int v14, .int v15, .int v16, .ref h23, .long v17, .long v18, .long v19, .long v20])), (h1, .inl (G.1, 10, .inl v21)), (h14, .inl (G.1, 1336, .inl e0))])))) 0 0 := by
  refine ow_met (by decide) (Nat.le_of_ble_eq_true rfl) ?_
  intro p e s m args below meth c A ls hE hl
  obtain ⟨hx, hb, hr, hml, hown, hlocks, hnm, hts, hN, hK, hP, hD, hA, hS⟩ := hE
  have hown : s.vm.findClass RX10 = some m.cls := hown
  have hP : va_P D vwCl [(h0, .inr (10, [.int v1, .int v2, .ref h2, .ref h3, .ref h4, .ref h5, .ref h6, .ref h7, .ref h8, .ref h9, .ref h1, .ref h10, .int v3, .ref h11, .ref h12, .ref h13, .ref h14, .int v4, .int v5, .int 82, .ref h15, .ref h16, .ref h17, .int v6, .ref h18, .int v7, .ref h19, .ref h20, .int v8, .ref h21, .ref h22, .int v9, .int v10, .int v11, .int v12, .int v13, .int v14, .int v15, .int v16, .ref h23, .long v17, .long v18, .long v19, .long v20])), (h1, .inl (G.1, 10, .inl v21)), (h14, .inl (G.1, 1336, .inl v22))] s.heap := hP
  have hD : va_D A [(h0, .inr (10, [.int v1, .int v2, .ref h2, .ref h3, .ref h4, .ref h5, .ref h6, .ref h7, .ref h8, .ref h9, .ref h1, .ref h10, .int v3, .ref h11, .ref h12, .ref h13, .ref h14, .int v4, .int v5, .int 82, .ref h15, .ref h16, .ref h17, .int v6, .ref h18, .int v7, .ref h19, .ref h20, .int v8, .ref h21, .ref h22, .int v9, .int v10, .int v11, .int v12, .int v13, .int v14, .int v15, .int v16, .ref h23, .long v17, .long v18, .long v19, .long v20])), (h1, .inl (G.1, 10, .inl v21)), (h14, .inl (G.1, 1336, .inl v22))] := hD
  have hl : lv_has ls 4 [(0, .ref h0), (1, .ref h1), (2, .int 10)] := hl
  refine lv_iconst (v := 0) hx hb dX10_write_0 (by decide) ?_
  refine lv_istore_n (lv' := [(3, .int 0), (0, .ref h0), (1, .ref h1), (2, .int 10)]) hx hb dX10_write_1 rfl hl (by decide) rfl (fun ls hl => ?_)
  refine lv_iload_n hx hb dX10_write_2 rfl (lv_at hl 0 rfl) ?_
  refine lv_iload_n hx hb dX10_write_3 rfl (lv_at hl 3 rfl) ?_
  refine lv_icmp_ge (tgt := 35) hx hb dX10_write_4 (by decide) (fun h9 => absurd h9 (by decide)) (fun _ => ?_)
  refine lv_aload_n hx hb dX10_write_7 rfl (lv_at hl 1 rfl) ?_
  refine va_get (D := D) (ci := 10) (v := .ref h14) (C := RX10) (T := TX10) (N := 44) hx hb hts inlX10 hown hK hP 0 rfl rfl 16 (by decide) (hts _ k_105) (fun _ h9 => h9) rfl dX10_write_8 ?_
  refine lv_aload_n hx hb dX10_write_11 rfl (lv_at hl 1 rfl) ?_
  refine va_get (D := D) (ci := 10) (v := .int 82) (C := RX10) (T := TX10) (N := 44) hx hb hts inlX10 hown hK hP 0 rfl rfl 19 (by decide) (hts _ k_298) (fun _ h9 => h9) rfl dX10_write_12 ?_
  refine lv_aload_n hx hb dX10_write_15 rfl (lv_at hl 2 rfl) ?_
  refine lv_iload_n hx hb dX10_write_16 rfl (lv_at hl 0 rfl) ?_
  refine va_iald hx hb hK hP 1 0 rfl rfl (show ¬ ((0 : Int32) < 0 ∨ 10 ≤ (0 : Int32).toNatClampNeg) by decide) dX10_write_17 ?_
  refine lv_topi (fun x502 _ => ?_)
  refine va_iast hx hb hK hP hD hS 2 0 rfl rfl (show ¬ ((82 : Int32) < 0 ∨ 1336 ≤ (82 : Int32).toNatClampNeg) by decide) dX10_write_18 (fun H locs hP hD hS => ?_)
  obtain ⟨f503, hP, hD⟩ : ∃ f503, va_P D vwCl [(h0, .inr (10, [.int v1, .int v2, .ref h2, .ref h3, .ref h4, .ref h5, .ref h6, .ref h7, .ref h8, .ref h9, .ref h1, .ref h10, .int v3, .ref h11, .ref h12, .ref h13, .ref h14, .int v4, .int v5, .int 82, .ref h15, .ref h16, .ref h17, .int v6, .ref h18, .int v7, .ref h19, .ref h20, .int v8, .ref h21, .ref h22, .int v9, .int v10, .int v11, .int v12, .int v13, .int v14, .int v15, .int v16, .ref h23, .long v17, .long v18, .long v19, .long v20])), (h1, .inl (G.1, 10, .inl v21)), (h14, .inl (G.1, 1336, .inl f503))] H ∧ va_D A [(h0, .inr (10, [.int v1, .int v2, .ref h2, .ref h3, .ref h4, .ref h5, .ref h6, .ref h7, .ref h8, .ref h9, .ref h1, .ref h10, .int v3, .ref h11, .ref h12, .ref h13, .ref h14, .int v4, .int v5, .int 82, .ref h15, .ref h16, .ref h17, .int v6, .ref h18, .int v7, .ref h19, .ref h20, .int v8, .ref h21, .ref h22, .int v9, .int v10, .int v11, .int v12, .int v13, .int v14, .int v15, .int v16, .ref h23, .long v17, .long v18, .long v19, .long v20])), (h1, .inl (G.1, 10, .inl v21)), (h14, .inl (G.1, 1336, .inl f503))] := ⟨_, hP, hD⟩
  refine lv_aload_n hx hb dX10_write_19 rfl (lv_at hl 1 rfl) ?_
  refine lv_dup hx hb dX10_write_20 rfl ?_
  refine va_get (D := D) (ci := 10) (v := .int 82) (C := RX10) (T := TX10) (N := 44) hx hb hts inlX10 hown hK hP 0 rfl rfl 19 (by decide) (hts _ k_298) (fun _ h9 => h9) rfl dX10_write_21 ?_
  refine lv_iconst (v := 1) hx hb dX10_write_24 (by decide) ?_
  refine lv_iadd hx hb dX10_write_25 ?_
  refine ow_i (y := 83) (by decide) ?_
  refine va_put (D := D) (ci := 10) (v := .int 83) (ty := .int) (C := RX10) (T := TX10) (N := 44) hx hb hts inlX10 tyX10 tyX10_ok nmX10 hown hK hP hD hS 0 rfl rfl 19 (by decide) (hts _ k_298) (fun _ h9 => h9) rfl (tyX10_ok 19 (by decide)) rfl rfl (Nat.le_of_ble_eq_true rfl) dX10_write_26 (fun H locs hP hD hS => ?_)
  have hP : va_P D vwCl [(h0, .inr (10, [.int v1, .int v2, .ref h2, .ref h3, .ref h4, .ref h5, .ref h6, .ref h7, .ref h8, .ref h9, .ref h1, .ref h10, .int v3, .ref h11, .ref h12, .ref h13, .ref h14, .int v4, .int v5, .int 83, .ref h15, .ref h16, .ref h17, .int v6, .ref h18, .int v7, .ref h19, .ref h20, .int v8, .ref h21, .ref h22, .int v9, .int v10, .int v11, .int v12, .int v13, .int v14, .int v15, .int v16, .ref h23, .long v17, .long v18, .long v19, .long v20])), (h1, .inl (G.1, 10, .inl v21)), (h14, .inl (G.1, 1336, .inl f503))] H := hP
  have hD : va_D A [(h0, .inr (10, [.int v1, .int v2, .ref h2, .ref h3, .ref h4, .ref h5, .ref h6, .ref h7, .ref h8, .ref h9, .ref h1, .ref h10, .int v3, .ref h11, .ref h12, .ref h13, .ref h14, .int v4, .int v5, .int 83, .ref h15, .ref h16, .ref h17, .int v6, .ref h18, .int v7, .ref h19, .ref h20, .int v8, .ref h21, .ref h22, .int v9, .int v10, .int v11, .int v12, .int v13, .int v14, .int v15, .int v16, .ref h23, .long v17, .long v18, .long v19, .long v20])), (h1, .inl (G.1, 10, .inl v21)), (h14, .inl (G.1, 1336, .inl f503))] := hD
  refine lv_iinc (v := 1) (lv' := [(3, .int 1), (0, .ref h0), (1, .ref h1), (2, .int 10)]) hx hb dX10_write_29 hl (k := 0) rfl (by decide) (by decide) rfl (fun ls hl => ?_)
  refine lv_goto (tgt := 2) hx hb dX10_write_32 (by decide) ?_
  refine lv_iload_n hx hb dX10_write_2 rfl (lv_at hl 0 rfl) ?_
  refine lv_iload_n hx hb dX10_write_3 rfl (lv_at hl 3 rfl) ?_
  refine lv_icmp_ge (tgt := 35) hx hb dX10_write_4 (by decide) (fun h9 => absurd h9 (by decide)) (fun _ => ?_)
  refine lv_aload_n hx hb dX10_write_7 rfl (lv_at hl 1 rfl) ?_
  refine va_get (D := D) (ci := 10) (v := .ref h14) (C := RX10) (T := TX10) (N := 44) hx hb hts inlX10 hown hK hP 0 rfl rfl 16 (by decide) (hts _ k_105) (fun _ h9 => h9) rfl dX10_write_8 ?_
  refine lv_aload_n hx hb dX10_write_11 rfl (lv_at hl 1 rfl) ?_
  refine va_get (D := D) (ci := 10) (v := .int 83) (C := RX10) (T := TX10) (N := 44) hx hb hts inlX10 hown hK hP 0 rfl rfl 19 (by decide) (hts _ k_298) (fun _ h9 => h9) rfl dX10_write_12 ?_
  refine lv_aload_n hx hb dX10_write_15 rfl (lv_at hl 2 rfl) ?_
  refine lv_iload_n hx hb dX10_write_16 rfl (lv_at hl 0 rfl) ?_
  refine va_iald hx hb hK hP 1 0 rfl rfl (show ¬ ((1 : Int32) < 0 ∨ 10 ≤ (1 : Int32).toNatClampNeg) by decide) dX10_write_17 ?_
  refine lv_topi (fun x504 _ => ?_)
  refine va_iast hx hb hK hP hD hS 2 0 rfl rfl (show ¬ ((83 : Int32) < 0 ∨ 1336 ≤ (83 : Int32).toNatClampNeg) by decide) dX10_write_18 (fun H locs hP hD hS => ?_)
  obtain ⟨f505, hP, hD⟩ : ∃ f505, va_P D vwCl [(h0, .inr (10, [.int v1, .int v2, .ref h2, .ref h3, .ref h4, .ref h5, .ref h6, .ref h7, .ref h8, .ref h9, .ref h1, .ref h10, .int v3, .ref h11, .ref h12, .ref h13, .ref h14, .int v4, .int v5, .int 83, .ref h15, .ref h16, .ref h17, .int v6, .ref h18, .int v7, .ref h19, .ref h20, .int v8, .ref h21, .ref h22, .int v9, .int v10, .int v11, .int v12, .int v13, .int v14, .int v15, .int v16, .ref h23, .long v17, .long v18, .long v19, .long v20])), (h1, .inl (G.1, 10, .inl v21)), (h14, .inl (G.1, 1336, .inl f505))] H ∧ va_D A [(h0, .inr (10, [.int v1, .int v2, .ref h2, .ref h3, .ref h4, .ref h5, .ref h6, .ref h7, .ref h8, .ref h9, .ref h1, .ref h10, .int v3, .ref h11, .ref h12, .ref h13, .ref h14, .int v4, .int v5, .int 83, .ref h15, .ref h16, .ref h17, .int v6, .ref h18, .int v7, .ref h19, .ref h20, .int v8, .ref h21, .ref h22, .int v9, .int v10, .int v11, .int v12, .int v13, .int v14, .int v15, .int v16, .ref h23, .long v17, .long v18, .long v19, .long v20])), (h1, .inl (G.1, 10, .inl v21)), (h14, .inl (G.1, 1336, .inl f505))] := ⟨_, hP, hD⟩
  refine lv_aload_n hx hb dX10_write_19 rfl (lv_at hl 1 rfl) ?_
  refine lv_dup hx hb dX10_write_20 rfl ?_
  refine va_get (D := D) (ci := 10) (v := .int 83) (C := RX10) (T := TX10) (N := 44) hx hb hts inlX10 hown hK hP 0 rfl rfl 19 (by decide) (hts _ k_298) (fun _ h9 => h9) rfl dX10_write_21 ?_
  refine lv_iconst (v := 1) hx hb dX10_write_24 (by decide) ?_
  refine lv_iadd hx hb dX10_write_25 ?_
  refine ow_i (y := 84) (by decide) ?_
  refine va_put (D := D) (ci := 10) (v := .int 84) (ty := .int) (C := RX10) (T := TX10) (N := 44) hx hb hts inlX10 tyX10 tyX10_ok nmX10 hown hK hP hD hS 0 rfl rfl 19 (by decide) (hts _ k_298) (fun _ h9 => h9) rfl (tyX10_ok 19 (by decide)) rfl rfl (Nat.le_of_ble_eq_true rfl) dX10_write_26 (fun H locs hP hD hS => ?_)
  have hP : va_P D vwCl [(h0, .inr (10, [.int v1, .int v2, .ref h2, .ref h3, .ref h4, .ref h5, .ref h6, .ref h7, .ref h8, .ref h9, .ref h1, .ref h10, .int v3, .ref h11, .ref h12, .ref h13, .ref h14, .int v4, .int v5, .int 84, .ref h15, .ref h16, .ref h17, .int v6, .ref h18, .int v7, .ref h19, .ref h20, .int v8, .ref h21, .ref h22, .int v9, .int v10, .int v11, .int v12, .int v13, .int v14, .int v15, .int v16, .ref h23, .long v17, .long v18, .long v19, .long v20])), (h1, .inl (G.1, 10, .inl v21)), (h14, .inl (G.1, 1336, .inl f505))] H := hP
  have hD : va_D A [(h0, .inr (10, [.int v1, .int v2, .ref h2, .ref h3, .ref h4, .ref h5, .ref h6, .ref h7, .ref h8, .ref h9, .ref h1, .ref h10, .int v3, .ref h11, .ref h12, .ref h13, .ref h14, .int v4, .int v5, .int 84, .ref h15, .ref h16, .ref h17, .int v6, .ref h18, .int v7, .ref h19, .ref h20, .int v8, .ref h21, .ref h22, .int v9, .int v10, .int v11, .int v12, .int v13, .int v14, .int v15, .int v16, .ref h23, .long v17, .long v18, .long v19, .long v20])), (h1, .inl (G.1, 10, .inl v21)), (h14, .inl (G.1, 1336, .inl f505))] := hD
  refine lv_iinc (v := 2) (lv' := [(3, .int 2), (0, .ref h0), (1, .ref h1), (2, .int 10)]) hx hb dX10_write_29 hl (k := 0) rfl (by decide) (by decide) rfl (fun ls hl => ?_)
  refine lv_goto (tgt := 2) hx hb dX10_write_32 (by decide) ?_
  refine lv_iload_n hx hb dX10_write_2 rfl (lv_at hl 0 rfl) ?_
  refine lv_iload_n hx hb dX10_write_3 rfl (lv_at hl 3 rfl) ?_
  refine lv_icmp_ge (tgt := 35) hx hb dX10_write_4 (by decide) (fun h9 => absurd h9 (by decide)) (fun _ => ?_)
  refine lv_aload_n hx hb dX10_write_7 rfl (lv_at hl 1 rfl) ?_
  refine va_get (D := D) (ci := 10) (v := .ref h14) (C := RX10) (T := TX10) (N := 44) hx hb hts inlX10 hown hK hP 0 rfl rfl 16 (by decide) (hts _ k_105) (fun _ h9 => h9) rfl dX10_write_8 ?_
  refine lv_aload_n hx hb dX10_write_11 rfl (lv_at hl 1 rfl) ?_
  refine va_get (D := D) (ci := 10) (v := .int 84) (C := RX10) (T := TX10) (N := 44) hx hb hts inlX10 hown hK hP 0 rfl rfl 19 (by decide) (hts _ k_298) (fun _ h9 => h9) rfl dX10_write_12 ?_
  refine lv_aload_n hx hb dX10_write_15 rfl (lv_at hl 2 rfl) ?_
  refine lv_iload_n hx hb dX10_write_16 rfl (lv_at hl 0 rfl) ?_
  refine va_iald hx hb hK hP 1 0 rfl rfl (show ¬ ((2 : Int32) < 0 ∨ 10 ≤ (2 : Int32).toNatClampNeg) by decide) dX10_write_17 ?_
  refine lv_topi (fun x506 _ => ?_)
  refine va_iast hx hb hK hP hD hS 2 0 rfl rfl (show ¬ ((84 : Int32) < 0 ∨ 1336 ≤ (84 : Int32).toNatClampNeg) by decide) dX10_write_18 (fun H locs hP hD hS => ?_)
  obtain ⟨f507, hP, hD⟩ : ∃ f507, va_P D vwCl [(h0, .inr (10, [.int v1, .int v2, .ref h2, .ref h3, .ref h4, .ref h5, .ref h6, .ref h7, .ref h8, .ref h9, .ref h1, .ref h10, .int v3, .ref h11, .ref h12, .ref h13, .ref h14, .int v4, .int v5, .int 84, .ref h15, .ref h16, .ref h17, .int v6, .ref h18, .int v7, .ref h19, .ref h20, .int v8, .ref h21, .ref h22, .int v9, .int v10, .int v11, .int v12, .int v13, .int v14, .int v15, .int v16, .ref h23, .long v17, .long v18, .long v19, .long v20])), (h1, .inl (G.1, 10, .inl v21)), (h14, .inl (G.1, 1336, .inl f507))] H ∧ va_D A [(h0, .inr (10, [.int v1, .int v2, .ref h2, .ref h3, .ref h4, .ref h5, .ref h6, .ref h7, .ref h8, .ref h9, .ref h1, .ref h10, .int v3, .ref h11, .ref h12, .ref h13, .ref h14, .int v4, .int v5, .int 84, .ref h15, .ref h16, .ref h17, .int v6, .ref h18, .int v7, .ref h19, .ref h20, .int v8, .ref h21, .ref h22, .int v9, .int v10, .int v11, .int v12, .int v13, .int v14, .int v15, .int v16, .ref h23, .long v17, .long v18, .long v19, .long v20])), (h1, .inl (G.1, 10, .inl v21)), (h14, .inl (G.1, 1336, .inl f507))] := ⟨_, hP, hD⟩
  refine lv_aload_n hx hb dX10_write_19 rfl (lv_at hl 1 rfl) ?_
  refine lv_dup hx hb dX10_write_20 rfl ?_
  refine va_get (D := D) (ci := 10) (v := .int 84) (C := RX10) (T := TX10) (N := 44) hx hb hts inlX10 hown hK hP 0 rfl rfl 19 (by decide) (hts _ k_298) (fun _ h9 => h9) rfl dX10_write_21 ?_
  refine lv_iconst (v := 1) hx hb dX10_write_24 (by decide) ?_
  refine lv_iadd hx hb dX10_write_25 ?_
  refine ow_i (y := 85) (by decide) ?_
  refine va_put (D := D) (ci := 10) (v := .int 85) (ty := .int) (C := RX10) (T := TX10) (N := 44) hx hb hts inlX10 tyX10 tyX10_ok nmX10 hown hK hP hD hS 0 rfl rfl 19 (by decide) (hts _ k_298) (fun _ h9 => h9) rfl (tyX10_ok 19 (by decide)) rfl rfl (Nat.le_of_ble_eq_true rfl) dX10_write_26 (fun H locs hP hD hS => ?_)
  have hP : va_P D vwCl [(h0, .inr (10, [.int v1, .int v2, .ref h2, .ref h3, .ref h4, .ref h5, .ref h6, .ref h7, .ref h8, .ref h9, .ref h1, .ref h10, .int v3, .ref h11, .ref h12, .ref h13, .ref h14, .int v4, .int v5, .int 85, .ref h15, .ref h16, .ref h17, .int v6, .ref h18, .int v7, .ref h19, .ref h20, .int v8, .ref h21, .ref h22, .int v9, .int v10, .int v11, .int v12, .int v13, .int v14, .int v15, .int v16, .ref h23, .long v17, .long v18, .long v19, .long v20])), (h1, .inl (G.1, 10, .inl v21)), (h14, .inl (G.1, 1336, .inl f507))] H := hP
  have hD : va_D A [(h0, .inr (10, [.int v1, .int v2, .ref h2, .ref h3, .ref h4, .ref h5, .ref h6, .ref h7, .ref h8, .ref h9, .ref h1, .ref h10, .int v3, .ref h11, .ref h12, .ref h13, .ref h14, .int v4, .int v5, .int 85, .ref h15, .ref h16, .ref h17, .int v6, .ref h18, .int v7, .ref h19, .ref h20, .int v8, .ref h21, .ref h22, .int v9, .int v10, .int v11, .int v12, .int v13, .int v14, .int v15, .int v16, .ref h23, .long v17, .long v18, .long v19, .long v20])), (h1, .inl (G.1, 10, .inl v21)), (h14, .inl (G.1, 1336, .inl f507))] := hD
  refine lv_iinc (v := 3) (lv' := [(3, .int 3), (0, .ref h0), (1, .ref h1), (2, .int 10)]) hx hb dX10_write_29 hl (k := 0) rfl (by decide) (by decide) rfl (fun ls hl => ?_)
  refine lv_goto (tgt := 2) hx hb dX10_write_32 (by decide) ?_
  refine lv_iload_n hx hb dX10_write_2 rfl (lv_at hl 0 rfl) ?_
  refine lv_iload_n hx hb dX10_write_3 rfl (lv_at hl 3 rfl) ?_
  refine lv_icmp_ge (tgt := 35) hx hb dX10_write_4 (by decide) (fun h9 => absurd h9 (by decide)) (fun _ => ?_)
  refine lv_aload_n hx hb dX10_write_7 rfl (lv_at hl 1 rfl) ?_
  refine va_get (D := D) (ci := 10) (v := .ref h14) (C := RX10) (T := TX10) (N := 44) hx hb hts inlX10 hown hK hP 0 rfl rfl 16 (by decide) (hts _ k_105) (fun _ h9 => h9) rfl dX10_write_8 ?_
  refine lv_aload_n hx hb dX10_write_11 rfl (lv_at hl 1 rfl) ?_
  refine va_get (D := D) (ci := 10) (v := .int 85) (C := RX10) (T := TX10) (N := 44) hx hb hts inlX10 hown hK hP 0 rfl rfl 19 (by decide) (hts _ k_298) (fun _ h9 => h9) rfl dX10_write_12 ?_
  refine lv_aload_n hx hb dX10_write_15 rfl (lv_at hl 2 rfl) ?_
  refine lv_iload_n hx hb dX10_write_16 rfl (lv_at hl 0 rfl) ?_
  refine va_iald hx hb hK hP 1 0 rfl rfl (show ¬ ((3 : Int32) < 0 ∨ 10 ≤ (3 : Int32).toNatClampNeg) by decide) dX10_write_17 ?_
  refine lv_topi (fun x508 _ => ?_)
  refine va_iast hx hb hK hP hD hS 2 0 rfl rfl (show ¬ ((85 : Int32) < 0 ∨ 1336 ≤ (85 : Int32).toNatClampNeg) by decide) dX10_write_18 (fun H locs hP hD hS => ?_)
  obtain ⟨f509, hP, hD⟩ : ∃ f509, va_P D vwCl [(h0, .inr (10, [.int v1, .int v2, .ref h2, .ref h3, .ref h4, .ref h5, .ref h6, .ref h7, .ref h8, .ref h9, .ref h1, .ref h10, .int v3, .ref h11, .ref h12, .ref h13, .ref h14, .int v4, .int v5, .int 85, .ref h15, .ref h16, .ref h17, .int v6, .ref h18, .int v7, .ref h19, .ref h20, .int v8, .ref h21, .ref h22, .int v9, .int v10, .int v11, .int v12, .int v13, .int v14, .int v15, .int v16, .ref h23, .long v17, .long v18, .long v19, .long v20])), (h1, .inl (G.1, 10, .inl v21)), (h14, .inl (G.1, 1336, .inl f509))] H ∧ va_D A [(h0, .inr (10, [.int v1, .int v2, .ref h2, .ref h3, .ref h4, .ref h5, .ref h6, .ref h7, .ref h8, .ref h9, .ref h1, .ref h10, .int v3, .ref h11, .ref h12, .ref h13, .ref h14, .int v4, .int v5, .int 85, .ref h15, .ref h16, .ref h17, .int v6, .ref h18, .int v7, .ref h19, .ref h20, .int v8, .ref h21, .ref h22, .int v9, .int v10, .int v11, .int v12, .int v13, .int v14, .int v15, .int v16, .ref h23, .long v17, .long v18, .long v19, .long v20])), (h1, .inl (G.1, 10, .inl v21)), (h14, .inl (G.1, 1336, .inl f509))] := ⟨_, hP, hD⟩
  refine lv_aload_n hx hb dX10_write_19 rfl (lv_at hl 1 rfl) ?_
  refine lv_dup hx hb dX10_write_20 rfl ?_
  refine va_get (D := D) (ci := 10) (v := .int 85) (C := RX10) (T := TX10) (N := 44) hx hb hts inlX10 hown hK hP 0 rfl rfl 19 (by decide) (hts _ k_298) (fun _ h9 => h9) rfl dX10_write_21 ?_
  refine lv_iconst (v := 1) hx hb dX10_write_24 (by decide) ?_
  refine lv_iadd hx hb dX10_write_25 ?_
  refine ow_i (y := 86) (by decide) ?_
  refine va_put (D := D) (ci := 10) (v := .int 86) (ty := .int) (C := RX10) (T := TX10) (N := 44) hx hb hts inlX10 tyX10 tyX10_ok nmX10 hown hK hP hD hS 0 rfl rfl 19 (by decide) (hts _ k_298) (fun _ h9 => h9) rfl (tyX10_ok 19 (by decide)) rfl rfl (Nat.le_of_ble_eq_true rfl) dX10_write_26 (fun H locs hP hD hS => ?_)
  have hP : va_P D vwCl [(h0, .inr (10, [.int v1, .int v2, .ref h2, .ref h3, .ref h4, .ref h5, .ref h6, .ref h7, .ref h8, .ref h9, .ref h1, .ref h10, .int v3, .ref h11, .ref h12, .ref h13, .ref h14, .int v4, .int v5, .int 86, .ref h15, .ref h16, .ref h17, .int v6, .ref h18, .int v7, .ref h19, .ref h20, .int v8, .ref h21, .ref h22, .int v9, .int v10, .int v11, .int v12, .int v13, .int v14, .int v15, .int v16, .ref h23, .long v17, .long v18, .long v19, .long v20])), (h1, .inl (G.1, 10, .inl v21)), (h14, .inl (G.1, 1336, .inl f509))] H := hP
  have hD : va_D A [(h0, .inr (10, [.int v1, .int v2, .ref h2, .ref h3, .ref h4, .ref h5, .ref h6, .ref h7, .ref h8, .ref h9, .ref h1, .ref h10, .int v3, .ref h11, .ref h12, .ref h13, .ref h14, .int v4, .int v5, .int 86, .ref h15, .ref h16, .ref h17, .int v6, .ref h18, .int v7, .ref h19, .ref h20, .int v8, .ref h21, .ref h22, .int v9, .int v10, .int v11, .int v12, .int v13, .int v14, .int v15, .int v16, .ref h23, .long v17, .long v18, .long v19, .long v20])), (h1, .inl (G.1, 10, .inl v21)), (h14, .inl (G.1, 1336, .inl f509))] := hD
  refine lv_iinc (v := 4) (lv' := [(3, .int 4), (0, .ref h0), (1, .ref h1), (2, .int 10)]) hx hb dX10_write_29 hl (k := 0) rfl (by decide) (by decide) rfl (fun ls hl => ?_)
  refine lv_goto (tgt := 2) hx hb dX10_write_32 (by decide) ?_
  refine lv_iload_n hx hb dX10_write_2 rfl (lv_at hl 0 rfl) ?_
  refine lv_iload_n hx hb dX10_write_3 rfl (lv_at hl 3 rfl) ?_
  refine lv_icmp_ge (tgt := 35) hx hb dX10_write_4 (by decide) (fun h9 => absurd h9 (by decide)) (fun _ => ?_)
  refine lv_aload_n hx hb dX10_write_7 rfl (lv_at hl 1 rfl) ?_
  refine va_get (D := D) (ci := 10) (v := .ref h14) (C := RX10) (T := TX10) (N := 44) hx hb hts inlX10 hown hK hP 0 rfl rfl 16 (by decide) (hts _ k_105) (fun _ h9 => h9) rfl dX10_write_8 ?_
  refine lv_aload_n hx hb dX10_write_11 rfl (lv_at hl 1 rfl) ?_
  refine va_get (D := D) (ci := 10) (v := .int 86) (C := RX10) (T := TX10) (N := 44) hx hb hts inlX10 hown hK hP 0 rfl rfl 19 (by decide) (hts _ k_298) (fun _ h9 => h9) rfl dX10_write_12 ?_
  refine lv_aload_n hx hb dX10_write_15 rfl (lv_at hl 2 rfl) ?_
  refine lv_iload_n hx hb dX10_write_16 rfl (lv_at hl 0 rfl) ?_
  refine va_iald hx hb hK hP 1 0 rfl rfl (show ¬ ((4 : Int32) < 0 ∨ 10 ≤ (4 : Int32).toNatClampNeg) by decide) dX10_write_17 ?_
  refine lv_topi (fun x510 _ => ?_)
  refine va_iast hx hb hK hP hD hS 2 0 rfl rfl (show ¬ ((86 : Int32) < 0 ∨ 1336 ≤ (86 : Int32).toNatClampNeg) by decide) dX10_write_18 (fun H locs hP hD hS => ?_)
  obtain ⟨f511, hP, hD⟩ : ∃ f511, va_P D vwCl [(h0, .inr (10, [.int v1, .int v2, .ref h2, .ref h3, .ref h4, .ref h5, .ref h6, .ref h7, .ref h8, .ref h9, .ref h1, .ref h10, .int v3, .ref h11, .ref h12, .ref h13, .ref h14, .int v4, .int v5, .int 86, .ref h15, .ref h16, .ref h17, .int v6, .ref h18, .int v7, .ref h19, .ref h20, .int v8, .ref h21, .ref h22, .int v9, .int v10, .int v11, .int v12, .int v13, .int v14, .int v15, .int v16, .ref h23, .long v17, .long v18, .long v19, .long v20])), (h1, .inl (G.1, 10, .inl v21)), (h14, .inl (G.1, 1336, .inl f511))] H ∧ va_D A [(h0, .inr (10, [.int v1, .int v2, .ref h2, .ref h3, .ref h4, .ref h5, .ref h6, .ref h7, .ref h8, .ref h9, .ref h1, .ref h10, .int v3, .ref h11, .ref h12, .ref h13, .ref h14, .int v4, .int v5, .int 86, .ref h15, .ref h16, .ref h17, .int v6, .ref h18, .int v7, .ref h19, .ref h20, .int v8, .ref h21, .ref h22, .int v9, .int v10, .int v11, .int v12, .int v13, .int v14, .int v15, .int v16, .ref h23, .long v17, .long v18, .long v19, .long v20])), (h1, .inl (G.1, 10, .inl v21)), (h14, .inl (G.1, 1336, .inl f511))] := ⟨_, hP, hD⟩
  refine lv_aload_n hx hb dX10_write_19 rfl (lv_at hl 1 rfl) ?_
  refine lv_dup hx hb dX10_write_20 rfl ?_
  refine va_get (D := D) (ci := 10) (v := .int 86) (C := RX10) (T := TX10) (N := 44) hx hb hts inlX10 hown hK hP 0 rfl rfl 19 (by decide) (hts _ k_298) (fun _ h9 => h9) rfl dX10_write_21 ?_
  refine lv_iconst (v := 1) hx hb dX10_write_24 (by decide) ?_
  refine lv_iadd hx hb dX10_write_25 ?_
  refine ow_i (y := 87) (by decide) ?_
  refine va_put (D := D) (ci := 10) (v := .int 87) (ty := .int) (C := RX10) (T := TX10) (N := 44) hx hb hts inlX10 tyX10 tyX10_ok nmX10 hown hK hP hD hS 0 rfl rfl 19 (by decide) (hts _ k_298) (fun _ h9 => h9) rfl (tyX10_ok 19 (by decide)) rfl rfl (Nat.le_of_ble_eq_true rfl) dX10_write_26 (fun H locs hP hD hS => ?_)
  have hP : va_P D vwCl [(h0, .inr (10, [.int v1, .int v2, .ref h2, .ref h3, .ref h4, .ref h5, .ref h6, .ref h7, .ref h8, .ref h9, .ref h1, .ref h10, .int v3, .ref h11, .ref h12, .ref h13, .ref h14, .int v4, .int v5, .int 87, .ref h15, .ref h16, .ref h17, .int v6, .ref h18, .int v7, .ref h19, .ref h20, .int v8, .ref h21, .ref h22, .int v9, .int v10, .int v11, .int v12, .int v13, .int v14, .int v15, .int v16, .ref h23, .long v17, .long v18, .long v19, .long v20])), (h1, .inl (G.1, 10, .inl v21)), (h14, .inl (G.1, 1336, .inl f511))] H := hP
  have hD : va_D A [(h0, .inr (10, [.int v1, .int v2, .ref h2, .ref h3, .ref h4, .ref h5, .ref h6, .ref h7, .ref h8, .ref h9, .ref h1, .ref h10, .int v3, .ref h11, .ref h12, .ref h13, .ref h14, .int v4, .int v5, .int 87, .ref h15, .ref h16, .ref h17, .int v6, .ref h18, .int v7, .ref h19, .ref h20, .int v8, .ref h21, .ref h22, .int v9, .int v10, .int v11, .int v12, .int v13, .int v14, .int v15, .int v16, .ref h23, .long v17, .long v18, .long v19, .long v20])), (h1, .inl (G.1, 10, .inl v21)), (h14, .inl (G.1, 1336, .inl f511))] := hD
  refine lv_iinc (v := 5) (lv' := [(3, .int 5), (0, .ref h0), (1, .ref h1), (2, .int 10)]) hx hb dX10_write_29 hl (k := 0) rfl (by decide) (by decide) rfl (fun ls hl => ?_)
  refine lv_goto (tgt := 2) hx hb dX10_write_32 (by decide) ?_
  refine lv_iload_n hx hb dX10_write_2 rfl (lv_at hl 0 rfl) ?_
  refine lv_iload_n hx hb dX10_write_3 rfl (lv_at hl 3 rfl) ?_
  refine lv_icmp_ge (tgt := 35) hx hb dX10_write_4 (by decide) (fun h9 => absurd h9 (by decide)) (fun _ => ?_)
  refine lv_aload_n hx hb dX10_write_7 rfl (lv_at hl 1 rfl) ?_
  refine va_get (D := D) (ci := 10) (v := .ref h14) (C := RX10) (T := TX10) (N := 44) hx hb hts inlX10 hown hK hP 0 rfl rfl 16 (by decide) (hts _ k_105) (fun _ h9 => h9) rfl dX10_write_8 ?_
  refine lv_aload_n hx hb dX10_write_11 rfl (lv_at hl 1 rfl) ?_
  refine va_get (D := D) (ci := 10) (v := .int 87) (C := RX10) (T := TX10) (N := 44) hx hb hts inlX10 hown hK hP 0 rfl rfl 19 (by decide) (hts _ k_298) (fun _ h9 => h9) rfl dX10_write_12 ?_
  refine lv_aload_n hx hb dX10_write_15 rfl (lv_at hl 2 rfl) ?_
  refine lv_iload_n hx hb dX10_write_16 rfl (lv_at hl 0 rfl) ?_
  refine va_iald hx hb hK hP 1 0 rfl rfl (show ¬ ((5 : Int32) < 0 ∨ 10 ≤ (5 : Int32).toNatClampNeg) by decide) dX10_write_17 ?_
  refine lv_topi (fun x512 _ => ?_)
  refine va_iast hx hb hK hP hD hS 2 0 rfl rfl (show ¬ ((87 : Int32) < 0 ∨ 1336 ≤ (87 : Int32).toNatClampNeg) by decide) dX10_write_18 (fun H locs hP hD hS => ?_)
  obtain ⟨f513, hP, hD⟩ : ∃ f513, va_P D vwCl [(h0, .inr (10, [.int v1, .int v2, .ref h2, .ref h3, .ref h4, .ref h5, .ref h6, .ref h7, .ref h8, .ref h9, .ref h1, .ref h10, .int v3, .ref h11, .ref h12, .ref h13, .ref h14, .int v4, .int v5, .int 87, .ref h15, .ref h16, .ref h17, .int v6, .ref h18, .int v7, .ref h19, .ref h20, .int v8, .ref h21, .ref h22, .int v9, .int v10, .int v11, .int v12, .int v13, .int v14, .int v15, .int v16, .ref h23, .long v17, .long v18, .long v19, .long v20])), (h1, .inl (G.1, 10, .inl v21)), (h14, .inl (G.1, 1336, .inl f513))] H ∧ va_D A [(h0, .inr (10, [.int v1, .int v2, .ref h2, .ref h3, .ref h4, .ref h5, .ref h6, .ref h7, .ref h8, .ref h9, .ref h1, .ref h10, .int v3, .ref h11, .ref h12, .ref h13, .ref h14, .int v4, .int v5, .int 87, .ref h15, .ref h16, .ref h17, .int v6, .ref h18, .int v7, .ref h19, .ref h20, .int v8, .ref h21, .ref h22, .int v9, .int v10, .int v11, .int v12, .int v13, .int v14, .int v15, .int v16, .ref h23, .long v17, .long v18, .long v19, .long v20])), (h1, .inl (G.1, 10, .inl v21)), (h14, .inl (G.1, 1336, .inl f513))] := ⟨_, hP, hD⟩
  refine lv_aload_n hx hb dX10_write_19 rfl (lv_at hl 1 rfl) ?_
  refine lv_dup hx hb dX10_write_20 rfl ?_
  refine va_get (D := D) (ci := 10) (v := .int 87) (C := RX10) (T := TX10) (N := 44) hx hb hts inlX10 hown hK hP 0 rfl rfl 19 (by decide) (hts _ k_298) (fun _ h9 => h9) rfl dX10_write_21 ?_
  refine lv_iconst (v := 1) hx hb dX10_write_24 (by decide) ?_
  refine lv_iadd hx hb dX10_write_25 ?_
  refine ow_i (y := 88) (by decide) ?_
  refine va_put (D := D) (ci := 10) (v := .int 88) (ty := .int) (C := RX10) (T := TX10) (N := 44) hx hb hts inlX10 tyX10 tyX10_ok nmX10 hown hK hP hD hS 0 rfl rfl 19 (by decide) (hts _ k_298) (fun _ h9 => h9) rfl (tyX10_ok 19 (by decide)) rfl rfl (Nat.le_of_ble_eq_true rfl) dX10_write_26 (fun H locs hP hD hS => ?_)
  have hP : va_P D vwCl [(h0, .inr (10, [.int v1, .int v2, .ref h2, .ref h3, .ref h4, .ref h5, .ref h6, .ref h7, .ref h8, .ref h9, .ref h1, .ref h10, .int v3, .ref h11, .ref h12, .ref h13, .ref h14, .int v4, .int v5, .int 88, .ref h15, .ref h16, .ref h17, .int v6, .ref h18, .int v7, .ref h19, .ref h20, .int v8, .ref h21, .ref h22, .int v9, .int v10, .int v11, .int v12, .int v13, .int v14, .int v15, .int v16, .ref h23, .long v17, .long v18, .long v19, .long v20])), (h1, .inl (G.1, 10, .inl v21)), (h14, .inl (G.1, 1336, .inl f513))] H := hP
  have hD : va_D A [(h0, .inr (10, [.int v1, .int v2, .ref h2, .ref h3, .ref h4, .ref h5, .ref h6, .ref h7, .ref h8, .ref h9, .ref h1, .ref h10, .int v3, .ref h11, .ref h12, .ref h13, .ref h14, .int v4, .int v5, .int 88, .ref h15, .ref h16, .ref h17, .int v6, .ref h18, .int v7, .ref h19, .ref h20, .int v8, .ref h21, .ref h22, .int v9, .int v10, .int v11, .int v12, .int v13, .int v14, .int v15, .int v16, .ref h23, .long v17, .long v18, .long v19, .long v20])), (h1, .inl (G.1, 10, .inl v21)), (h14, .inl (G.1, 1336, .inl f513))] := hD
  refine lv_iinc (v := 6) (lv' := [(3, .int 6), (0, .ref h0), (1, .ref h1), (2, .int 10)]) hx hb dX10_write_29 hl (k := 0) rfl (by decide) (by decide) rfl (fun ls hl => ?_)
  refine lv_goto (tgt := 2) hx hb dX10_write_32 (by decide) ?_
  refine lv_iload_n hx hb dX10_write_2 rfl (lv_at hl 0 rfl) ?_
  refine lv_iload_n hx hb dX10_write_3 rfl (lv_at hl 3 rfl) ?_
  refine lv_icmp_ge (tgt := 35) hx hb dX10_write_4 (by decide) (fun h9 => absurd h9 (by decide)) (fun _ => ?_)
  refine lv_aload_n hx hb dX10_write_7 rfl (lv_at hl 1 rfl) ?_
  refine va_get (D := D) (ci := 10) (v := .ref h14) (C := RX10) (T := TX10) (N := 44) hx hb hts inlX10 hown hK hP 0 rfl rfl 16 (by decide) (hts _ k_105) (fun _ h9 => h9) rfl dX10_write_8 ?_
  refine lv_aload_n hx hb dX10_write_11 rfl (lv_at hl 1 rfl) ?_
  refine va_get (D := D) (ci := 10) (v := .int 88) (C := RX10) (T := TX10) (N := 44) hx hb hts inlX10 hown hK hP 0 rfl rfl 19 (by decide) (hts _ k_298) (fun _ h9 => h9) rfl dX10_write_12 ?_
  refine lv_aload_n hx hb dX10_write_15 rfl (lv_at hl 2 rfl) ?_
  refine lv_iload_n hx hb dX10_write_16 rfl (lv_at hl 0 rfl) ?_
  refine va_iald hx hb hK hP 1 0 rfl rfl (show ¬ ((6 : Int32) < 0 ∨ 10 ≤ (6 : Int32).toNatClampNeg) by decide) dX10_write_17 ?_
  refine lv_topi (fun x514 _ => ?_)
  refine va_iast hx hb hK hP hD hS 2 0 rfl rfl (show ¬ ((88 : Int32) < 0 ∨ 1336 ≤ (88 : Int32).toNatClampNeg) by decide) dX10_write_18 (fun H locs hP hD hS => ?_)
  obtain ⟨f515, hP, hD⟩ : ∃ f515, va_P D vwCl [(h0, .inr (10, [.int v1, .int v2, .ref h2, .ref h3, .ref h4, .ref h5, .ref h6, .ref h7, .ref h8, .ref h9, .ref h1, .ref h10, .int v3, .ref h11, .ref h12, .ref h13, .ref h14, .int v4, .int v5, .int 88, .ref h15, .ref h16, .ref h17, .int v6, .ref h18, .int v7, .ref h19, .ref h20, .int v8, .ref h21, .ref h22, .int v9, .int v10, .int v11, .int v12, .int v13, .int v14, .int v15, .int v16, .ref h23, .long v17, .long v18, .long v19, .long v20])), (h1, .inl (G.1, 10, .inl v21)), (h14, .inl (G.1, 1336, .inl f515))] H ∧ va_D A [(h0, .inr (10, [.int v1, .int v2, .ref h2, .ref h3, .ref h4, .ref h5, .ref h6, .ref h7, .ref h8, .ref h9, .ref h1, .ref h10, .int v3, .ref h11, .ref h12, .ref h13, .ref h14, .int v4, .int v5, .int 88, .ref h15, .ref h16, .ref h17, .int v6, .ref h18, .int v7, .ref h19, .ref h20, .int v8, .ref h21, .ref h22, .int v9, .int v10, .int v11, .int v12, .int v13, .int v14, .int v15, .int v16, .ref h23, .long v17, .long v18, .long v19, .long v20])), (h1, .inl (G.1, 10, .inl v21)), (h14, .inl (G.1, 1336, .inl f515))] := ⟨_, hP, hD⟩
  refine lv_aload_n hx hb dX10_write_19 rfl (lv_at hl 1 rfl) ?_
  refine lv_dup hx hb dX10_write_20 rfl ?_
  refine va_get (D := D) (ci := 10) (v := .int 88) (C := RX10) (T := TX10) (N := 44) hx hb hts inlX10 hown hK hP 0 rfl rfl 19 (by decide) (hts _ k_298) (fun _ h9 => h9) rfl dX10_write_21 ?_
  refine lv_iconst (v := 1) hx hb dX10_write_24 (by decide) ?_
  refine lv_iadd hx hb dX10_write_25 ?_
  refine ow_i (y := 89) (by decide) ?_
  refine va_put (D := D) (ci := 10) (v := .int 89) (ty := .int) (C := RX10) (T := TX10) (N := 44) hx hb hts inlX10 tyX10 tyX10_ok nmX10 hown hK hP hD hS 0 rfl rfl 19 (by decide) (hts _ k_298) (fun _ h9 => h9) rfl (tyX10_ok 19 (by decide)) rfl rfl (Nat.le_of_ble_eq_true rfl) dX10_write_26 (fun H locs hP hD hS => ?_)
  have hP : va_P D vwCl [(h0, .inr (10, [.int v1, .int v2, .ref h2, .ref h3, .ref h4, .ref h5, .ref h6, .ref h7, .ref h8, .ref h9, .ref h1, .ref h10, .int v3, .ref h11, .ref h12, .ref h13, .ref h14, .int v4, .int v5, .int 89, .ref h15, .ref h16, .ref h17, .int v6, .ref h18, .int v7, .ref h19, .ref h20, .int v8, .ref h21, .ref h22, .int v9, .int v10, .int v11, .int v12, .int v13, .int v14, .int v15, .int v16, .ref h23, .long v17, .long v18, .long v19, .long v20])), (h1, .inl (G.1, 10, .inl v21)), (h14, .inl (G.1, 1336, .inl f515))] H := hP
  have hD : va_D A [(h0, .inr (10, [.int v1, .int v2, .ref h2, .ref h3, .ref h4, .ref h5, .ref h6, .ref h7, .ref h8, .ref h9, .ref h1, .ref h10, .int v3, .ref h11, .ref h12, .ref h13, .ref h14, .int v4, .int v5, .int 89, .ref h15, .ref h16, .ref h17, .int v6, .ref h18, .int v7, .ref h19, .ref h20, .int v8, .ref h21, .ref h22, .int v9, .int v10, .int v11, .int v12, .int v13, .int v14, .int v15, .int v16, .ref h23, .long v17, .long v18, .long v19, .long v20])), (h1, .inl (G.1, 10, .inl v21)), (h14, .inl (G.1, 1336, .inl f515))] := hD
  refine lv_iinc (v := 7) (lv' := [(3, .int 7), (0, .ref h0), (1, .ref h1), (2, .int 10)]) hx hb dX10_write_29 hl (k := 0) rfl (by decide) (by decide) rfl (fun ls hl => ?_)
  refine lv_goto (tgt := 2) hx hb dX10_write_32 (by decide) ?_
  refine lv_iload_n hx hb dX10_write_2 rfl (lv_at hl 0 rfl) ?_
  refine lv_iload_n hx hb dX10_write_3 rfl (lv_at hl 3 rfl) ?_
  refine lv_icmp_ge (tgt := 35) hx hb dX10_write_4 (by decide) (fun h9 => absurd h9 (by decide)) (fun _ => ?_)
  refine lv_aload_n hx hb dX10_write_7 rfl (lv_at hl 1 rfl) ?_
  refine va_get (D := D) (ci := 10) (v := .ref h14) (C := RX10) (T := TX10) (N := 44) hx hb hts inlX10 hown hK hP 0 rfl rfl 16 (by decide) (hts _ k_105) (fun _ h9 => h9) rfl dX10_write_8 ?_
  refine lv_aload_n hx hb dX10_write_11 rfl (lv_at hl 1 rfl) ?_
  refine va_get (D := D) (ci := 10) (v := .int 89) (C := RX10) (T := TX10) (N := 44) hx hb hts inlX10 hown hK hP 0 rfl rfl 19 (by decide) (hts _ k_298) (fun _ h9 => h9) rfl dX10_write_12 ?_
  refine lv_aload_n hx hb dX10_write_15 rfl (lv_at hl 2 rfl) ?_
  refine lv_iload_n hx hb dX10_write_16 rfl (lv_at hl 0 rfl) ?_
  refine va_iald hx hb hK hP 1 0 rfl rfl (show ¬ ((7 : Int32) < 0 ∨ 10 ≤ (7 : Int32).toNatClampNeg) by decide) dX10_write_17 ?_
  refine lv_topi (fun x516 _ => ?_)
  refine va_iast hx hb hK hP hD hS 2 0 rfl rfl (show ¬ ((89 : Int32) < 0 ∨ 1336 ≤ (89 : Int32).toNatClampNeg) by decide) dX10_write_18 (fun H locs hP hD hS => ?_)
  obtain ⟨f517, hP, hD⟩ : ∃ f517, va_P D vwCl [(h0, .inr (10, [.int v1, .int v2, .ref h2, .ref h3, .ref h4, .ref h5, .ref h6, .ref h7, .ref h8, .ref h9, .ref h1, .ref h10, .int v3, .ref h11, .ref h12, .ref h13, .ref h14, .int v4, .int v5, .int 89, .ref h15, .ref h16, .ref h17, .int v6, .ref h18, .int v7, .ref h19, .ref h20, .int v8, .ref h21, .ref h22, .int v9, .int v10, .int v11, .int v12, .int v13, .int v14, .int v15, .int v16, .ref h23, .long v17, .long v18, .long v19, .long v20])), (h1, .inl (G.1, 10, .inl v21)), (h14, .inl (G.1, 1336, .inl f517))] H ∧ va_D A [(h0, .inr (10, [.int v1, .int v2, .ref h2, .ref h3, .ref h4, .ref h5, .ref h6, .ref h7, .ref h8, .ref h9, .ref h1, .ref h10, .int v3, .ref h11, .ref h12, .ref h13, .ref h14, .int v4, .int v5, .int 89, .ref h15, .ref h16, .ref h17, .int v6, .ref h18, .int v7, .ref h19, .ref h20, .int v8, .ref h21, .ref h22, .int v9, .int v10, .int v11, .int v12, .int v13, .int v14, .int v15, .int v16, .ref h23, .long v17, .long v18, .long v19, .long v20])), (h1, .inl (G.1, 10, .inl v21)), (h14, .inl (G.1, 1336, .inl f517))] := ⟨_, hP, hD⟩
  refine lv_aload_n hx hb dX10_write_19 rfl (lv_at hl 1 rfl) ?_
  refine lv_dup hx hb dX10_write_20 rfl ?_
  refine va_get (D := D) (ci := 10) (v := .int 89) (C := RX10) (T := TX10) (N := 44) hx hb hts inlX10 hown hK hP 0 rfl rfl 19 (by decide) (hts _ k_298) (fun _ h9 => h9) rfl dX10_write_21 ?_
  refine lv_iconst (v := 1) hx hb dX10_write_24 (by decide) ?_
  refine lv_iadd hx hb dX10_write_25 ?_
  refine ow_i (y := 90) (by decide) ?_
  refine va_put (D := D) (ci := 10) (v := .int 90) (ty := .int) (C := RX10) (T := TX10) (N := 44) hx hb hts inlX10 tyX10 tyX10_ok nmX10 hown hK hP hD hS 0 rfl rfl 19 (by decide) (hts _ k_298) (fun _ h9 => h9) rfl (tyX10_ok 19 (by decide)) rfl rfl (Nat.le_of_ble_eq_true rfl) dX10_write_26 (fun H locs hP hD hS => ?_)
  have hP : va_P D vwCl [(h0, .inr (10, [.int v1, .int v2, .ref h2, .ref h3, .ref h4, .ref h5, .ref h6, .ref h7, .ref h8, .ref h9, .ref h1, .ref h10, .int v3, .ref h11, .ref h12, .ref h13, .ref h14, .int v4, .int v5, .int 90, .ref h15, .ref h16, .ref h17, .int v6, .ref h18, .int v7, .ref h19, .ref h20, .int v8, .ref h21, .ref h22, .int v9, .int v10, .int v11, .int v12, .int v13, .int v14, .int v15, .int v16, .ref h23, .long v17, .long v18, .long v19, .long v20])), (h1, .inl (G.1, 10, .inl v21)), (h14, .inl (G.1, 1336, .inl f517))] H := hP
  have hD : va_D A [(h0, .inr (10, [.int v1, .int v2, .ref h2, .ref h3, .ref h4, .ref h5, .ref h6, .ref h7, .ref h8, .ref h9, .ref h1, .ref h10, .int v3, .ref h11, .ref h12, .ref h13, .ref h14, .int v4, .int v5, .int 90, .ref h15, .ref h16, .ref h17, .int v6, .ref h18, .int v7, .ref h19, .ref h20, .int v8, .ref h21, .ref h22, .int v9, .int v10, .int v11, .int v12, .int v13, .int v14, .int v15, .int v16, .ref h23, .long v17, .long v18, .long v19, .long v20])), (h1, .inl (G.1, 10, .inl v21)), (h14, .inl (G.1, 1336, .inl f517))] := hD
  refine lv_iinc (v := 8) (lv' := [(3, .int 8), (0, .ref h0), (1, .ref h1), (2, .int 10)]) hx hb dX10_write_29 hl (k := 0) rfl (by decide) (by decide) rfl (fun ls hl => ?_)
  refine lv_goto (tgt := 2) hx hb dX10_write_32 (by decide) ?_
  refine lv_iload_n hx hb dX10_write_2 rfl (lv_at hl 0 rfl) ?_
  refine lv_iload_n hx hb dX10_write_3 rfl (lv_at hl 3 rfl) ?_
  refine lv_icmp_ge (tgt := 35) hx hb dX10_write_4 (by decide) (fun h9 => absurd h9 (by decide)) (fun _ => ?_)
  refine lv_aload_n hx hb dX10_write_7 rfl (lv_at hl 1 rfl) ?_
  refine va_get (D := D) (ci := 10) (v := .ref h14) (C := RX10) (T := TX10) (N := 44) hx hb hts inlX10 hown hK hP 0 rfl rfl 16 (by decide) (hts _ k_105) (fun _ h9 => h9) rfl dX10_write_8 ?_
  refine lv_aload_n hx hb dX10_write_11 rfl (lv_at hl 1 rfl) ?_
  refine va_get (D := D) (ci := 10) (v := .int 90) (C := RX10) (T := TX10) (N := 44) hx hb hts inlX10 hown hK hP 0 rfl rfl 19 (by decide) (hts _ k_298) (fun _ h9 => h9) rfl dX10_write_12 ?_
  refine lv_aload_n hx hb dX10_write_15 rfl (lv_at hl 2 rfl) ?_
  refine lv_iload_n hx hb dX10_write_16 rfl (lv_at hl 0 rfl) ?_
  refine va_iald hx hb hK hP 1 0 rfl rfl (show ¬ ((8 : Int32) < 0 ∨ 10 ≤ (8 : Int32).toNatClampNeg) by decide) dX10_write_17 ?_
  refine lv_topi (fun x518 _ => ?_)
  refine va_iast hx hb hK hP hD hS 2 0 rfl rfl (show ¬ ((90 : Int32) < 0 ∨ 1336 ≤ (90 : Int32).toNatClampNeg) by decide) dX10_write_18 (fun H locs hP hD hS => ?_)
  obtain ⟨f519, hP, hD⟩ : ∃ f519, va_P D vwCl [(h0, .inr (10, [.int v1, .int v2, .ref h2, .ref h3, .ref h4, .ref h5, .ref h6, .ref h7, .ref h8, .ref h9, .ref h1, .ref h10, .int v3, .ref h11, .ref h12, .ref h13, .ref h14, .int v4, .int v5, .int 90, .ref h15, .ref h16, .ref h17, .int v6, .ref h18, .int v7, .ref h19, .ref h20, .int v8, .ref h21, .ref h22, .int v9, .int v10, .int v11, .int v12, .int v13, .int v14, .int v15, .int v16, .ref h23, .long v17, .long v18, .long v19, .long v20])), (h1, .inl (G.1, 10, .inl v21)), (h14, .inl (G.1, 1336, .inl f519))] H ∧ va_D A [(h0, .inr (10, [.int v1, .int v2, .ref h2, .ref h3, .ref h4, .ref h5, .ref h6, .ref h7, .ref h8, .ref h9, .ref h1, .ref h10, .int v3, .ref h11, .ref h12, .ref h13, .ref h14, .int v4, .int v5, .int 90, .ref h15, .ref h16, .ref h17, .int v6, .ref h18, .int v7, .ref h19, .ref h20, .int v8, .ref h21, .ref h22, .int v9, .int v10, .int v11, .int v12, .int v13, .int v14, .int v15, .int v16, .ref h23, .long v17, .long v18, .long v19, .long v20])), (h1, .inl (G.1, 10, .inl v21)), (h14, .inl (G.1, 1336, .inl f519))] := ⟨_, hP, hD⟩
  refine lv_aload_n hx hb dX10_write_19 rfl (lv_at hl 1 rfl) ?_
  refine lv_dup hx hb dX10_write_20 rfl ?_
  refine va_get (D := D) (ci := 10) (v := .int 90) (C := RX10) (T := TX10) (N := 44) hx hb hts inlX10 hown hK hP 0 rfl rfl 19 (by decide) (hts _ k_298) (fun _ h9 => h9) rfl dX10_write_21 ?_
  refine lv_iconst (v := 1) hx hb dX10_write_24 (by decide) ?_
  refine lv_iadd hx hb dX10_write_25 ?_
  refine ow_i (y := 91) (by decide) ?_
  refine va_put (D := D) (ci := 10) (v := .int 91) (ty := .int) (C := RX10) (T := TX10) (N := 44) hx hb hts inlX10 tyX10 tyX10_ok nmX10 hown hK hP hD hS 0 rfl rfl 19 (by decide) (hts _ k_298) (fun _ h9 => h9) rfl (tyX10_ok 19 (by decide)) rfl rfl (Nat.le_of_ble_eq_true rfl) dX10_write_26 (fun H locs hP hD hS => ?_)
  have hP : va_P D vwCl [(h0, .inr (10, [.int v1, .int v2, .ref h2, .ref h3, .ref h4, .ref h5, .ref h6, .ref h7, .ref h8, .ref h9, .ref h1, .ref h10, .int v3, .ref h11, .ref h12, .ref h13, .ref h14, .int v4, .int v5, .int 91, .ref h15, .ref h16, .ref h17, .int v6, .ref h18, .int v7, .ref h19, .ref h20, .int v8, .ref h21, .ref h22, .int v9, .int v10, .int v11, .int v12, .int v13, .int v14, .int v15, .int v16, .ref h23, .long v17, .long v18, .long v19, .long v20])), (h1, .inl (G.1, 10, .inl v21)), (h14, .inl (G.1, 1336, .inl f519))] H := hP
  have hD : va_D A [(h0, .inr (10, [.int v1, .int v2, .ref h2, .ref h3, .ref h4, .ref h5, .ref h6, .ref h7, .ref h8, .ref h9, .ref h1, .ref h10, .int v3, .ref h11, .ref h12, .ref h13, .ref h14, .int v4, .int v5, .int 91, .ref h15, .ref h16, .ref h17, .int v6, .ref h18, .int v7, .ref h19, .ref h20, .int v8, .ref h21, .ref h22, .int v9, .int v10, .int v11, .int v12, .int v13, .int v14, .int v15, .int v16, .ref h23, .long v17, .long v18, .long v19, .long v20])), (h1, .inl (G.1, 10, .inl v21)), (h14, .inl (G.1, 1336, .inl f519))] := hD
  refine lv_iinc (v := 9) (lv' := [(3, .int 9), (0, .ref h0), (1, .ref h1), (2, .int 10)]) hx hb dX10_write_29 hl (k := 0) rfl (by decide) (by decide) rfl (fun ls hl => ?_)
  refine lv_goto (tgt := 2) hx hb dX10_write_32 (by decide) ?_
  refine lv_iload_n hx hb dX10_write_2 rfl (lv_at hl 0 rfl) ?_
  refine lv_iload_n hx hb dX10_write_3 rfl (lv_at hl 3 rfl) ?_
  refine lv_icmp_ge (tgt := 35) hx hb dX10_write_4 (by decide) (fun h9 => absurd h9 (by decide)) (fun _ => ?_)
  refine lv_aload_n hx hb dX10_write_7 rfl (lv_at hl 1 rfl) ?_
  refine va_get (D := D) (ci := 10) (v := .ref h14) (C := RX10) (T := TX10) (N := 44) hx hb hts inlX10 hown hK hP 0 rfl rfl 16 (by decide) (hts _ k_105) (fun _ h9 => h9) rfl dX10_write_8 ?_
  refine lv_aload_n hx hb dX10_write_11 rfl (lv_at hl 1 rfl) ?_
  refine va_get (D := D) (ci := 10) (v := .int 91) (C := RX10) (T := TX10) (N := 44) hx hb hts inlX10 hown hK hP 0 rfl rfl 19 (by decide) (hts _ k_298) (fun _ h9 => h9) rfl dX10_write_12 ?_
  refine lv_aload_n hx hb dX10_write_15 rfl (lv_at hl 2 rfl) ?_
  refine lv_iload_n hx hb dX10_write_16 rfl (lv_at hl 0 rfl) ?_
  refine va_iald hx hb hK hP 1 0 rfl rfl (show ¬ ((9 : Int32) < 0 ∨ 10 ≤ (9 : Int32).toNatClampNeg) by decide) dX10_write_17 ?_
  refine lv_topi (fun x520 _ => ?_)
  refine va_iast hx hb hK hP hD hS 2 0 rfl rfl (show ¬ ((91 : Int32) < 0 ∨ 1336 ≤ (91 : Int32).toNatClampNeg) by decide) dX10_write_18 (fun H locs hP hD hS => ?_)
  obtain ⟨f521, hP, hD⟩ : ∃ f521, va_P D vwCl [(h0, .inr (10, [.int v1, .int v2, .ref h2, .ref h3, .ref h4, .ref h5, .ref h6, .ref h7, .ref h8, .ref h9, .ref h1, .ref h10, .int v3, .ref h11, .ref h12, .ref h13, .ref h14, .int v4, .int v5, .int 91, .ref h15, .ref h16, .ref h17, .int v6, .ref h18, .int v7, .ref h19, .ref h20, .int v8, .ref h21, .ref h22, .int v9, .int v10, .int v11, .int v12, .int v13, .int v14, .int v15, .int v16, .ref h23, .long v17, .long v18, .long v19, .long v20])), (h1, .inl (G.1, 10, .inl v21)), (h14, .inl (G.1, 1336, .inl f521))] H ∧ va_D A [(h0, .inr (10, [.int v1, .int v2, .ref h2, .ref h3, .ref h4, .ref h5, .ref h6, .ref h7, .ref h8, .ref h9, .ref h1, .ref h10, .int v3, .ref h11, .ref h12, .ref h13, .ref h14, .int v4, .int v5, .int 91, .ref h15, .ref h16, .ref h17, .int v6, .ref h18, .int v7, .ref h19, .ref h20, .int v8, .ref h21, .ref h22, .int v9, .int v10, .int v11, .int v12, .int v13, .int v14, .int v15, .int v16, .ref h23, .long v17, .long v18, .long v19, .long v20])), (h1, .inl (G.1, 10, .inl v21)), (h14, .inl (G.1, 1336, .inl f521))] := ⟨_, hP, hD⟩
  refine lv_aload_n hx hb dX10_write_19 rfl (lv_at hl 1 rfl) ?_
  refine lv_dup hx hb dX10_write_20 rfl ?_
  refine va_get (D := D) (ci := 10) (v := .int 91) (C := RX10) (T := TX10) (N := 44) hx hb hts inlX10 hown hK hP 0 rfl rfl 19 (by decide) (hts _ k_298) (fun _ h9 => h9) rfl dX10_write_21 ?_
  refine lv_iconst (v := 1) hx hb dX10_write_24 (by decide) ?_
  refine lv_iadd hx hb dX10_write_25 ?_
  refine ow_i (y := 92) (by decide) ?_
  refine va_put (D := D) (ci := 10) (v := .int 92) (ty := .int) (C := RX10) (T := TX10) (N := 44) hx hb hts inlX10 tyX10 tyX10_ok nmX10 hown hK hP hD hS 0 rfl rfl 19 (by decide) (hts _ k_298) (fun _ h9 => h9) rfl (tyX10_ok 19 (by decide)) rfl rfl (Nat.le_of_ble_eq_true rfl) dX10_write_26 (fun H locs hP hD hS => ?_)
  have hP : va_P D vwCl [(h0, .inr (10, [.int v1, .int v2, .ref h2, .ref h3, .ref h4, .ref h5, .ref h6, .ref h7, .ref h8, .ref h9, .ref h1, .ref h10, .int v3, .ref h11, .ref h12, .ref h13, .ref h14, .int v4, .int v5, .int 92, .ref h15, .ref h16, .ref h17, .int v6, .ref h18, .int v7, .ref h19, .ref h20, .int v8, .ref h21, .ref h22, .int v9, .int v10, .int v11, .int v12, .int v13, .int v14, .int v15, .int v16, .ref h23, .long v17, .long v18, .long v19, .long v20])), (h1, .inl (G.1, 10, .inl v21)), (h14, .inl (G.1, 1336, .inl f521))] H := hP
  have hD : va_D A [(h0, .inr (10, [.int v1, .int v2, .ref h2, .ref h3, .ref h4, .ref h5, .ref h6, .ref h7, .ref h8, .ref h9, .ref h1, .ref h10, .int v3, .ref h11, .ref h12, .ref h13, .ref h14, .int v4, .int v5, .int 92, .ref h15, .ref h16, .ref h17, .int v6, .ref h18, .int v7, .ref h19, .ref h20, .int v8, .ref h21, .ref h22, .int v9, .int v10, .int v11, .int v12, .int v13, .int v14, .int v15, .int v16, .ref h23, .long v17, .long v18, .long v19, .long v20])), (h1, .inl (G.1, 10, .inl v21)), (h14, .inl (G.1, 1336, .inl f521))] := hD
  refine lv_iinc (v := 10) (lv' := [(3, .int 10), (0, .ref h0), (1, .ref h1), (2, .int 10)]) hx hb dX10_write_29 hl (k := 0) rfl (by decide) (by decide) rfl (fun ls hl => ?_)
  refine lv_goto (tgt := 2) hx hb dX10_write_32 (by decide) ?_
  refine lv_iload_n hx hb dX10_write_2 rfl (lv_at hl 0 rfl) ?_
  refine lv_iload_n hx hb dX10_write_3 rfl (lv_at hl 3 rfl) ?_
  refine lv_icmp_ge (tgt := 35) hx hb dX10_write_4 (by decide) (fun _ => ?_) (fun h9 => absurd h9 (by decide))
  exact ow_vret (u := [(h0, .inr (10, [.int v1, .int v2, .ref h2, .ref h3, .ref h4, .ref h5, .ref h6, .ref h7, .ref h8, .ref h9, .ref h1, .ref h10, .int v3, .ref h11, .ref h12, .ref h13, .ref h14, .int v4, .int v5, .int 92, .ref h15, .ref h16, .ref h17, .int v6, .ref h18, .int v7, .ref h19, .ref h20, .int v8, .ref h21, .ref h22, .int v9, .int v10, .int v11, .int v12, .int v13, .int v14, .int v15, .int v16, .ref h23, .long v17, .long v18, .long v19, .long v20])), (h1, .inl (G.1, 10, .inl v21)), (h14, .inl (G.1, 1336, .inl f521))]) hx hb hr hlocks hP hD hS [0, 1, 2] (by decide) rfl dX10_write_35 ⟨trivial, f521, rfl⟩
