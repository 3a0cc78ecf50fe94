set_option maxHeartbeats 4000000 in
set_option maxRecDepth 100000 in
theorem c_X10_share_0 (l : Launch) (D : va_G) (G : ow_C) (h0 : Nat) (p1 : Int32) (p2 : Int32) (p3 : Int32) (p4 : Int32) (v1 : Int32) (h5 : Nat) (h6 : Nat) (h7 : Nat) (h8 : Nat) (h9 : Nat) (h10 : Nat) (h11 : Nat) (h12 : Nat) (h13 : Nat) (h14 : Nat) (v2 : Int32) (h15 : Nat) (h16 : Nat) (h17 : Nat) (h18 : Nat) (v3 : Int32) (v4 : Int32) (v5 : Int32) (h19 : Nat) (h20 : Nat) (h21 : Nat) (v6 : Int32) (h22 : Nat) (v7 : Int32) (h23 : Nat) (h24 : Nat) (v8 : Int32) (h25 : Nat) (h26 : Nat) (v9 : Int32) (v10 : Int32) (v11 : Int32) (v12 : Int32) (v13 : Int32) (v14 : Int32) (v15 : Int32) (v16 : Int32) (h27 : Nat) (v17 : Int64) (v18 : Int64) (v19 : Int64) (v20 : Int64) : ow_M l D G yX10_share cX10_share 12 (some .long) ({ frames := 3, cells := 0, slots := 0, locals := 107 } : Room) [.ref h0, .int p1, .int p2, .int p3, .int p4] [(h0, .inr (10, (.int v1 :: .int 0 :: .ref h5 :: .ref h6 :: .ref h7 :: .ref h8 :: .ref h9 :: .ref h10 :: .ref h11 :: .ref h12 :: .ref h13 :: .ref h14 :: .int v2 :: .ref h15 :: .ref h16 :: .ref h17 :: .ref h18 :: .int v3 :: .int v4 :: .int v5 :: .ref h19 :: .ref h20 :: .ref h21 :: .int v6 :: .ref h22 :: .int v7 :: .ref h23 :: .ref h24 :: .int v8 :: .ref h25 :: .ref h26 :: .int v9 :: .int v10 :: .int v11 :: .int v12 :: .int v13 :: .int v14 :: .int v15 :: .int v16 :: .ref h27 :: .long v17 :: .long v18 :: .long v19 :: .long v20 :: [])))] (ow_L D (fun r u => (r = (-3) ∧ True ∧ u = []))) 0 0 := by
  refine ow_met (by decide) (Nat.le_of_ble_eq_true rfl) ?_
  intro p e s m args below meth c A ls hE hl
  obtain ⟨hx, hb, hr, hml, hown, hlocks, hnm, hts, hN, hK, hP, hD, hA, hS⟩ := hE
  have hown : s.vm.findClass RX10 = some m.cls := hown
  have hP : va_P D vwCl [(h0, .inr (10, (.int v1 :: .int 0 :: .ref h5 :: .ref h6 :: .ref h7 :: .ref h8 :: .ref h9 :: .ref h10 :: .ref h11 :: .ref h12 :: .ref h13 :: .ref h14 :: .int v2 :: .ref h15 :: .ref h16 :: .ref h17 :: .ref h18 :: .int v3 :: .int v4 :: .int v5 :: .ref h19 :: .ref h20 :: .ref h21 :: .int v6 :: .ref h22 :: .int v7 :: .ref h23 :: .ref h24 :: .int v8 :: .ref h25 :: .ref h26 :: .int v9 :: .int v10 :: .int v11 :: .int v12 :: .int v13 :: .int v14 :: .int v15 :: .int v16 :: .ref h27 :: .long v17 :: .long v18 :: .long v19 :: .long v20 :: [])))] s.heap := hP
  have hD : va_D A [(h0, .inr (10, (.int v1 :: .int 0 :: .ref h5 :: .ref h6 :: .ref h7 :: .ref h8 :: .ref h9 :: .ref h10 :: .ref h11 :: .ref h12 :: .ref h13 :: .ref h14 :: .int v2 :: .ref h15 :: .ref h16 :: .ref h17 :: .ref h18 :: .int v3 :: .int v4 :: .int v5 :: .ref h19 :: .ref h20 :: .ref h21 :: .int v6 :: .ref h22 :: .int v7 :: .ref h23 :: .ref h24 :: .int v8 :: .ref h25 :: .ref h26 :: .int v9 :: .int v10 :: .int v11 :: .int v12 :: .int v13 :: .int v14 :: .int v15 :: .int v16 :: .ref h27 :: .long v17 :: .long v18 :: .long v19 :: .long v20 :: [])))] := hD
  have hl : lv_has ls 12 [(0, .ref h0), (1, .int p1), (2, .int p2), (3, .int p3), (4, .int p4)] := hl
  refine lv_aload_n hx hb dX10_share_0 rfl (lv_at hl 0 rfl) ?_
  refine lv_iconst (v := 0) hx hb dX10_share_1 (by decide) ?_
  refine va_put (D := D) (ci := 10) (v := .int 0) (ty := .int) (C := RX10) (T := TX10) (N := 44) hx hb hts inlX10 tyX10 tyX10_ok nmX10 hown hK hP hD hS 0 rfl rfl 0 (by decide) (hts _ k_288) (fun _ h9 => h9) rfl (tyX10_ok 0 (by decide)) rfl rfl (Nat.le_of_ble_eq_true rfl) dX10_share_2 (fun H locs hP hD hS => ?_)
  have hP : va_P D vwCl [(h0, .inr (10, (.int 0 :: .int 0 :: .ref h5 :: .ref h6 :: .ref h7 :: .ref h8 :: .ref h9 :: .ref h10 :: .ref h11 :: .ref h12 :: .ref h13 :: .ref h14 :: .int v2 :: .ref h15 :: .ref h16 :: .ref h17 :: .ref h18 :: .int v3 :: .int v4 :: .int v5 :: .ref h19 :: .ref h20 :: .ref h21 :: .int v6 :: .ref h22 :: .int v7 :: .ref h23 :: .ref h24 :: .int v8 :: .ref h25 :: .ref h26 :: .int v9 :: .int v10 :: .int v11 :: .int v12 :: .int v13 :: .int v14 :: .int v15 :: .int v16 :: .ref h27 :: .long v17 :: .long v18 :: .long v19 :: .long v20 :: [])))] H := hP
  have hD : va_D A [(h0, .inr (10, (.int 0 :: .int 0 :: .ref h5 :: .ref h6 :: .ref h7 :: .ref h8 :: .ref h9 :: .ref h10 :: .ref h11 :: .ref h12 :: .ref h13 :: .ref h14 :: .int v2 :: .ref h15 :: .ref h16 :: .ref h17 :: .ref h18 :: .int v3 :: .int v4 :: .int v5 :: .ref h19 :: .ref h20 :: .ref h21 :: .int v6 :: .ref h22 :: .int v7 :: .ref h23 :: .ref h24 :: .int v8 :: .ref h25 :: .ref h26 :: .int v9 :: .int v10 :: .int v11 :: .int v12 :: .int v13 :: .int v14 :: .int v15 :: .int v16 :: .ref h27 :: .long v17 :: .long v18 :: .long v19 :: .long v20 :: [])))] := hD
  refine lv_aload_n hx hb dX10_share_5 rfl (lv_at hl 0 rfl) ?_
  refine lv_iload_n hx hb dX10_share_6 rfl (lv_at hl 1 rfl) ?_
  refine ow_ci (wr := []) (ow_rV (rest := []) (n := 1) (ci := 10) (q := (RX10, TX10, 44)) ⟨hx, hb, hml, hown, hts⟩ (c_X10_isRoad_0 l D G h0 p1 0 h5 h6 h7 h8 h9 h10 h11 h12 h13 h14 v2 h15 h16 h17 h18 v3 v4 v5 h19 h20 h21 v6 h22 v7 h23 h24 v8 h25 h26 v9 v10 v11 v12 v13 v14 v15 v16 h27 v17 v18 v19 v20) k_314 k_313 k_291 k_315 k_316 (by decide +kernel) ⟨Nat.le_of_ble_eq_true rfl, Nat.le_of_ble_eq_true rfl⟩ rfl rfl hN hK hP hD [0] (by decide) rfl rfl rfl rfl hl.1 rfl (Nat.le_of_ble_eq_true rfl) dX10_share_7 ⟨Nat.le_of_ble_eq_true rfl, Nat.le_of_ble_eq_true rfl⟩) hP hD hS hA [0] [] rfl rfl (by decide) (by decide) (fun r u H locs hw hP hD hS => ?_)
  obtain ⟨rfl, c_453, rfl⟩ := hw
  have hP : va_P D vwCl [(h0, .inr (10, (.int 0 :: .int 0 :: .ref h5 :: .ref h6 :: .ref h7 :: .ref h8 :: .ref h9 :: .ref h10 :: .ref h11 :: .ref h12 :: .ref h13 :: .ref h14 :: .int v2 :: .ref h15 :: .ref h16 :: .ref h17 :: .ref h18 :: .int v3 :: .int v4 :: .int v5 :: .ref h19 :: .ref h20 :: .ref h21 :: .int v6 :: .ref h22 :: .int v7 :: .ref h23 :: .ref h24 :: .int v8 :: .ref h25 :: .ref h26 :: .int v9 :: .int v10 :: .int v11 :: .int v12 :: .int v13 :: .int v14 :: .int v15 :: .int v16 :: .ref h27 :: .long v17 :: .long v18 :: .long v19 :: .long v20 :: [])))] H := hP
  have hD : va_D A [(h0, .inr (10, (.int 0 :: .int 0 :: .ref h5 :: .ref h6 :: .ref h7 :: .ref h8 :: .ref h9 :: .ref h10 :: .ref h11 :: .ref h12 :: .ref h13 :: .ref h14 :: .int v2 :: .ref h15 :: .ref h16 :: .ref h17 :: .ref h18 :: .int v3 :: .int v4 :: .int v5 :: .ref h19 :: .ref h20 :: .ref h21 :: .int v6 :: .ref h22 :: .int v7 :: .ref h23 :: .ref h24 :: .int v8 :: .ref h25 :: .ref h26 :: .int v9 :: .int v10 :: .int v11 :: .int v12 :: .int v13 :: .int v14 :: .int v15 :: .int v16 :: .ref h27 :: .long v17 :: .long v18 :: .long v19 :: .long v20 :: [])))] := hD
  refine W.widen (k := 0) (n := 0) (Nat.le_of_ble_eq_true rfl) (Nat.le_of_ble_eq_true rfl) ?_
  refine lv_if_eq (tgt := 43) hx hb dX10_share_10 (by decide) (fun _ => ?_) (fun h9 => absurd h9 (by decide))
  refine lv_ldc2 (v := (-3)) hx hb hown (hts _ k_373) dX10_share_43 ?_
  exact ow_lret (u := []) hx hb hr hlocks hP hD hS [] (by decide) rfl dX10_share_46 ⟨rfl, trivial, rfl⟩
set_option maxHeartbeats 4000000 in
set_option maxRecDepth 100000 in
theorem c_X10_undo_0 (l : Launch) (D : va_G) (G : ow_C) (h0 : Nat) (v1 : Int32) (v2 : Int32) (h1 : Nat) (h2 : Nat) (h3 : Nat) (h4 : Nat) (h5 : Nat) (h6 : Nat) (h7 : Nat) (h8 : Nat) (h9 : Nat) (h10 : Nat) (v3 : Int32) (h11 : Nat) (h12 : Nat) (h13 : Nat) (h14 : Nat) (v4 : Int32) (v5 : Int32) (h15 : Nat) (h16 : Nat) (h17 : Nat) (v6 : Int32) (h18 : Nat) (v7 : Int32) (h19 : Nat) (h20 : Nat) (v8 : Int32) (h21 : Nat) (h22 : Nat) (v9 : Int32) (v10 : Int32) (v11 : Int32) (v12 : Int32) (v13 : Int32) (v14 : Int32) (v15 : Int32) (v16 : Int32) (h23 : Nat) (v17 : Int64) (v18 : Int64) (v19 : Int64) (v20 : Int64) : ow_M l D G yX10_undo cX10_undo 1 (some .int) ({ frames := 1, cells := 0, slots := 0, locals := 64 } : Room) [.ref h0] [(h0, .inr (10, (.int v1 :: .int v2 :: .ref h1 :: .ref h2 :: .ref h3 :: .ref h4 :: .ref h5 :: .ref h6 :: .ref h7 :: .ref h8 :: .ref h9 :: .ref h10 :: .int v3 :: .ref h11 :: .ref h12 :: .ref h13 :: .ref h14 :: .int v4 :: .int 0 :: .int v5 :: .ref h15 :: .ref h16 :: .ref h17 :: .int v6 :: .ref h18 :: .int v7 :: .ref h19 :: .ref h20 :: .int v8 :: .ref h21 :: .ref h22 :: .int v9 :: .int v10 :: .int v11 :: .int v12 :: .int v13 :: .int v14 :: .int v15 :: .int v16 :: .ref h23 :: .long v17 :: .long v18 :: .long v19 :: .long v20 :: [])))] (ow_I D (fun r u => (r = (-4) ∧ True ∧ u = []))) 0 0 := by
  refine ow_met (by decide) (Nat.le_of_ble_eq_true rfl) ?_
  intro p e s m args below meth c A ls hE hl
  obtain ⟨hx, hb, hr, hml, hown, hlocks, hnm, hts, hN, hK, hP, hD, hA, hS⟩ := hE
  have hown : s.vm.findClass RX10 = some m.cls := hown
  have hP : va_P D vwCl [(h0, .inr (10, (.int v1 :: .int v2 :: .ref h1 :: .ref h2 :: .ref h3 :: .ref h4 :: .ref h5 :: .ref h6 :: .ref h7 :: .ref h8 :: .ref h9 :: .ref h10 :: .int v3 :: .ref h11 :: .ref h12 :: .ref h13 :: .ref h14 :: .int v4 :: .int 0 :: .int v5 :: .ref h15 :: .ref h16 :: .ref h17 :: .int v6 :: .ref h18 :: .int v7 :: .ref h19 :: .ref h20 :: .int v8 :: .ref h21 :: .ref h22 :: .int v9 :: .int v10 :: .int v11 :: .int v12 :: .int v13 :: .int v14 :: .int v15 :: .int v16 :: .ref h23 :: .long v17 :: .long v18 :: .long v19 :: .long v20 :: [])))] s.heap := hP
  have hD : va_D A [(h0, .inr (10, (.int v1 :: .int v2 :: .ref h1 :: .ref h2 :: .ref h3 :: .ref h4 :: .ref h5 :: .ref h6 :: .ref h7 :: .ref h8 :: .ref h9 :: .ref h10 :: .int v3 :: .ref h11 :: .ref h12 :: .ref h13 :: .ref h14 :: .int v4 :: .int 0 :: .int v5 :: .ref h15 :: .ref h16 :: .ref h17 :: .int v6 :: .ref h18 :: .int v7 :: .ref h19 :: .ref h20 :: .int v8 :: .ref h21 :: .ref h22 :: .int v9 :: .int v10 :: .int v11 :: .int v12 :: .int v13 :: .int v14 :: .int v15 :: .int v16 :: .ref h23 :: .long v17 :: .long v18 :: .long v19 :: .long v20 :: [])))] := hD
  have hl : lv_has ls 1 [(0, .ref h0)] := hl
  refine lv_aload_n hx hb dX10_undo_0 rfl (lv_at hl 0 rfl) ?_
  refine lv_iconst (v := 0) hx hb dX10_undo_1 (by decide) ?_
  refine va_put (D := D) (ci := 10) (v := .int 0) (ty := .int) (C := RX10) (T := TX10) (N := 44) hx hb hts inlX10 tyX10 tyX10_ok nmX10 hown hK hP hD hS 0 rfl rfl 0 (by decide) (hts _ k_288) (fun _ h9 => h9) rfl (tyX10_ok 0 (by decide)) rfl rfl (Nat.le_of_ble_eq_true rfl) dX10_undo_2 (fun H locs hP hD hS => ?_)
  have hP : va_P D vwCl [(h0, .inr (10, (.int 0 :: .int v2 :: .ref h1 :: .ref h2 :: .ref h3 :: .ref h4 :: .ref h5 :: .ref h6 :: .ref h7 :: .ref h8 :: .ref h9 :: .ref h10 :: .int v3 :: .ref h11 :: .ref h12 :: .ref h13 :: .ref h14 :: .int v4 :: .int 0 :: .int v5 :: .ref h15 :: .ref h16 :: .ref h17 :: .int v6 :: .ref h18 :: .int v7 :: .ref h19 :: .ref h20 :: .int v8 :: .ref h21 :: .ref h22 :: .int v9 :: .int v10 :: .int v11 :: .int v12 :: .int v13 :: .int v14 :: .int v15 :: .int v16 :: .ref h23 :: .long v17 :: .long v18 :: .long v19 :: .long v20 :: [])))] H := hP
  have hD : va_D A [(h0, .inr (10, (.int 0 :: .int v2 :: .ref h1 :: .ref h2 :: .ref h3 :: .ref h4 :: .ref h5 :: .ref h6 :: .ref h7 :: .ref h8 :: .ref h9 :: .ref h10 :: .int v3 :: .ref h11 :: .ref h12 :: .ref h13 :: .ref h14 :: .int v4 :: .int 0 :: .int v5 :: .ref h15 :: .ref h16 :: .ref h17 :: .int v6 :: .ref h18 :: .int v7 :: .ref h19 :: .ref h20 :: .int v8 :: .ref h21 :: .ref h22 :: .int v9 :: .int v10 :: .int v11 :: .int v12 :: .int v13 :: .int v14 :: .int v15 :: .int v16 :: .ref h23 :: .long v17 :: .long v18 :: .long v19 :: .long v20 :: [])))] := hD
  refine lv_aload_n hx hb dX10_undo_5 rfl (lv_at hl 0 rfl) ?_
  refine va_get (D := D) (ci := 10) (v := .int 0) (C := RX10) (T := TX10) (N := 44) hx hb hts inlX10 hown hK hP 0 rfl rfl 18 (by decide) (hts _ k_304) (fun _ h9 => h9) rfl dX10_undo_6 ?_
  refine lv_if_ne (tgt := 15) hx hb dX10_undo_9 (by decide) (fun h9 => absurd h9 (by decide)) (fun _ => ?_)
  refine lv_bipush (v := (-4)) hx hb dX10_undo_12 (by decide) ?_
  exact ow_iret (ty := .int) (u := []) hx hb hr hlocks rfl hP hD hS [] (by decide) rfl dX10_undo_14 ⟨rfl, trivial, rfl⟩
set_option maxHeartbeats 4000000 in
set_option maxRecDepth 100000 in
theorem c_X10_count_0 (l : Launch) (D : va_G) (G : ow_C) (h0 : Nat) (p1 : Int32) (v1 : Int32) (h2 : Nat) (h3 : Nat) (h4 : Nat) (h5 : Nat) (h6 : Nat) (h7 : Nat) (h8 : Nat) (h9 : Nat) (h10 : Nat) (h11 : Nat) (h12 : Nat) (h13 : Nat) (h14 : Nat) (h15 : Nat) (v2 : Int32) (v3 : Int32) (h16 : Nat) (h17 : Nat) (h18 : Nat) (v4 : Int32) (h19 : Nat) (v5 : Int32) (h20 : Nat) (h21 : Nat) (v6 : Int32) (h22 : Nat) (h23 : Nat) (v7 : Int32) (v8 : Int32) (v9 : Int32) (v10 : Int32) (v11 : Int32) (v12 : Int32) (v13 : Int32) (v14 : Int32) (h24 : Nat) (v15 : Int64) (v16 : Int64) (v17 : Int64) (v18 : Int64) : ow_M l D G yX10_count cX10_count 4 (some .int) ({ frames := 1, cells := 0, slots := 0, locals := 64 } : Room) [.ref h0, .int p1] [(h0, .inr (10, (.int v1 :: .int 0 :: .ref h2 :: .ref h3 :: .ref h4 :: .ref h5 :: .ref h6 :: .ref h7 :: .ref h8 :: .ref h9 :: .ref h10 :: .ref h11 :: .int 0 :: .ref h12 :: .ref h13 :: .ref h14 :: .ref h15 :: .int v2 :: .int 0 :: .int v3 :: .ref h16 :: .ref h17 :: .ref h18 :: .int v4 :: .ref h19 :: .int v5 :: .ref h20 :: .ref h21 :: .int v6 :: .ref h22 :: .ref h23 :: .int v7 :: .int v8 :: .int v9 :: .int v10 :: .int v11 :: .int v12 :: .int v13 :: .int v14 :: .ref h24 :: .long v15 :: .long v16 :: .long v17 :: .long v18 :: [])))] (ow_I D (fun r u => (r = 0 ∧ (0 ≤ p1.toInt ∧ p1.toInt ≤ 5) ∧ u = []) ∨ (r = (-3) ∧ (¬ (0 ≤ p1.toInt ∧ p1.toInt ≤ 5)) ∧ u = []))) 0 0 := by
  refine ow_met (by decide) (Nat.le_of_ble_eq_true rfl) ?_
  intro p e s m args below meth c A ls hE hl
  obtain ⟨hx, hb, hr, hml, hown, hlocks, hnm, hts, hN, hK, hP, hD, hA, hS⟩ := hE
  have hown : s.vm.findClass RX10 = some m.cls := hown
  have hP : va_P D vwCl [(h0, .inr (10, (.int v1 :: .int 0 :: .ref h2 :: .ref h3 :: .ref h4 :: .ref h5 :: .ref h6 :: .ref h7 :: .ref h8 :: .ref h9 :: .ref h10 :: .ref h11 :: .int 0 :: .ref h12 :: .ref h13 :: .ref h14 :: .ref h15 :: .int v2 :: .int 0 :: .int v3 :: .ref h16 :: .ref h17 :: .ref h18 :: .int v4 :: .ref h19 :: .int v5 :: .ref h20 :: .ref h21 :: .int v6 :: .ref h22 :: .ref h23 :: .int v7 :: .int v8 :: .int v9 :: .int v10 :: .int v11 :: .int v12 :: .int v13 :: .int v14 :: .ref h24 :: .long v15 :: .long v16 :: .long v17 :: .long v18 :: [])))] s.heap := hP
  have hD : va_D A [(h0, .inr (10, (.int v1 :: .int 0 :: .ref h2 :: .ref h3 :: .ref h4 :: .ref h5 :: .ref h6 :: .ref h7 :: .ref h8 :: .ref h9 :: .ref h10 :: .ref h11 :: .int 0 :: .ref h12 :: .ref h13 :: .ref h14 :: .ref h15 :: .int v2 :: .int 0 :: .int v3 :: .ref h16 :: .ref h17 :: .ref h18 :: .int v4 :: .ref h19 :: .int v5 :: .ref h20 :: .ref h21 :: .int v6 :: .ref h22 :: .ref h23 :: .int v7 :: .int v8 :: .int v9 :: .int v10 :: .int v11 :: .int v12 :: .int v13 :: .int v14 :: .ref h24 :: .long v15 :: .long v16 :: .long v17 :: .long v18 :: [])))] := hD
  have hl : lv_has ls 4 [(0, .ref h0), (1, .int p1)] := hl
  refine lv_aload_n hx hb dX10_count_0 rfl (lv_at hl 0 rfl) ?_
  refine lv_iconst (v := 0) hx hb dX10_count_1 (by decide) ?_
  refine va_put (D := D) (ci := 10) (v := .int 0) (ty := .int) (C := RX10) (T := TX10) (N := 44) hx hb hts inlX10 tyX10 tyX10_ok nmX10 hown hK hP hD hS 0 rfl rfl 0 (by decide) (hts _ k_288) (fun _ h9 => h9) rfl (tyX10_ok 0 (by decide)) rfl rfl (Nat.le_of_ble_eq_true rfl) dX10_count_2 (fun H locs hP hD hS => ?_)
  have hP : va_P D vwCl [(h0, .inr (10, (.int 0 :: .int 0 :: .ref h2 :: .ref h3 :: .ref h4 :: .ref h5 :: .ref h6 :: .ref h7 :: .ref h8 :: .ref h9 :: .ref h10 :: .ref h11 :: .int 0 :: .ref h12 :: .ref h13 :: .ref h14 :: .ref h15 :: .int v2 :: .int 0 :: .int v3 :: .ref h16 :: .ref h17 :: .ref h18 :: .int v4 :: .ref h19 :: .int v5 :: .ref h20 :: .ref h21 :: .int v6 :: .ref h22 :: .ref h23 :: .int v7 :: .int v8 :: .int v9 :: .int v10 :: .int v11 :: .int v12 :: .int v13 :: .int v14 :: .ref h24 :: .long v15 :: .long v16 :: .long v17 :: .long v18 :: [])))] H := hP
  have hD : va_D A [(h0, .inr (10, (.int 0 :: .int 0 :: .ref h2 :: .ref h3 :: .ref h4 :: .ref h5 :: .ref h6 :: .ref h7 :: .ref h8 :: .ref h9 :: .ref h10 :: .ref h11 :: .int 0 :: .ref h12 :: .ref h13 :: .ref h14 :: .ref h15 :: .int v2 :: .int 0 :: .int v3 :: .ref h16 :: .ref h17 :: .ref h18 :: .int v4 :: .ref h19 :: .int v5 :: .ref h20 :: .ref h21 :: .int v6 :: .ref h22 :: .ref h23 :: .int v7 :: .int v8 :: .int v9 :: .int v10 :: .int v11 :: .int v12 :: .int v13 :: .int v14 :: .ref h24 :: .long v15 :: .long v16 :: .long v17 :: .long v18 :: [])))] := hD
  refine lv_iconst (v := 0) hx hb dX10_count_5 (by decide) ?_
  refine lv_istore_n (lv' := [(2, .int 0), (0, .ref h0), (1, .int p1)]) hx hb dX10_count_6 rfl hl (by decide) rfl (fun ls hl => ?_)
  refine lv_iload_n hx hb dX10_count_7 rfl (lv_at hl 2 rfl) ?_
  by_cases c_454 : p1 = 0
  · have z_454 := q_eq (a := p1.toInt) (b := 0) rfl (by decide) c_454
    refine ow_i (y := 0) c_454 ?_
    refine lv_tableIn (off := 40) (tgt := 48) hx hb dX10_count_8 (by decide) (by decide) rfl (by decide) ?_
    refine lv_aload_n hx hb dX10_count_48 rfl (lv_at hl 1 rfl) ?_
    refine va_get (D := D) (ci := 10) (v := .int 0) (C := RX10) (T := TX10) (N := 44) hx hb hts inlX10 hown hK hP 0 rfl rfl 1 (by decide) (hts _ k_296) (fun _ h9 => h9) rfl dX10_count_49 ?_
    exact ow_iret (ty := .int) (u := []) hx hb hr hlocks rfl hP hD hS [] (by decide) rfl dX10_count_52 (Or.inl ⟨rfl, (by omega), rfl⟩)
  have z_454 := q_ne (a := p1.toInt) (b := 0) rfl (by decide) c_454
  by_cases c_455 : p1 = 1
  · have z_455 := q_eq (a := p1.toInt) (b := 1) rfl (by decide) c_455
    refine ow_i (y := 1) c_455 ?_
    refine lv_tableIn (off := 45) (tgt := 53) hx hb dX10_count_8 (by decide) (by decide) rfl (by decide) ?_
    refine lv_aload_n hx hb dX10_count_53 rfl (lv_at hl 1 rfl) ?_
    refine va_get (D := D) (ci := 10) (v := .int 0) (C := RX10) (T := TX10) (N := 44) hx hb hts inlX10 hown hK hP 0 rfl rfl 12 (by decide) (hts _ k_299) (fun _ h9 => h9) rfl dX10_count_54 ?_
    exact ow_iret (ty := .int) (u := []) hx hb hr hlocks rfl hP hD hS [] (by decide) rfl dX10_count_57 (Or.inl ⟨rfl, (by omega), rfl⟩)
  have z_455 := q_ne (a := p1.toInt) (b := 1) rfl (by decide) c_455
  by_cases c_456 : p1 = 2
  · have z_456 := q_eq (a := p1.toInt) (b := 2) rfl (by decide) c_456
    refine ow_i (y := 2) c_456 ?_
    refine lv_tableIn (off := 50) (tgt := 58) hx hb dX10_count_8 (by decide) (by decide) rfl (by decide) ?_
    refine lv_iconst (v := 0) hx hb dX10_count_58 (by decide) ?_
    refine lv_istore_n (lv' := [(3, .int 0), (2, .int 0), (0, .ref h0), (1, .int p1)]) hx hb dX10_count_59 rfl hl (by decide) rfl (fun ls hl => ?_)
    refine lv_iload_n hx hb dX10_count_60 rfl (lv_at hl 0 rfl) ?_
    refine lv_aload_n hx hb dX10_count_61 rfl (lv_at hl 2 rfl) ?_
    refine va_get (D := D) (ci := 10) (v := .int 0) (C := RX10) (T := TX10) (N := 44) hx hb hts inlX10 hown hK hP 0 rfl rfl 1 (by decide) (hts _ k_296) (fun _ h9 => h9) rfl dX10_count_62 ?_
    refine lv_icmp_ge (tgt := 83) hx hb dX10_count_65 (by decide) (fun _ => ?_) (fun h9 => absurd h9 (by decide))
    refine lv_iload_n hx hb dX10_count_83 rfl (lv_at hl 1 rfl) ?_
    exact ow_iret (ty := .int) (u := []) hx hb hr hlocks rfl hP hD hS [] (by decide) rfl dX10_count_84 (Or.inl ⟨rfl, (by omega), rfl⟩)
  have z_456 := q_ne (a := p1.toInt) (b := 2) rfl (by decide) c_456
  by_cases c_457 : p1 = 3
  · have z_457 := q_eq (a := p1.toInt) (b := 3) rfl (by decide) c_457
    refine ow_i (y := 3) c_457 ?_
    refine lv_tableIn (off := 77) (tgt := 85) hx hb dX10_count_8 (by decide) (by decide) rfl (by decide) ?_
    refine lv_iconst (v := 0) hx hb dX10_count_85 (by decide) ?_
    refine lv_istore_n (lv' := [(3, .int 0), (2, .int 0), (0, .ref h0), (1, .int p1)]) hx hb dX10_count_86 rfl hl (by decide) rfl (fun ls hl => ?_)
    refine lv_iload_n hx hb dX10_count_87 rfl (lv_at hl 0 rfl) ?_
    refine lv_aload_n hx hb dX10_count_88 rfl (lv_at hl 2 rfl) ?_
    refine va_get (D := D) (ci := 10) (v := .int 0) (C := RX10) (T := TX10) (N := 44) hx hb hts inlX10 hown hK hP 0 rfl rfl 1 (by decide) (hts _ k_296) (fun _ h9 => h9) rfl dX10_count_89 ?_
    refine lv_icmp_ge (tgt := 119) hx hb dX10_count_92 (by decide) (fun _ => ?_) (fun h9 => absurd h9 (by decide))
    refine lv_iload_n hx hb dX10_count_119 rfl (lv_at hl 1 rfl) ?_
    exact ow_iret (ty := .int) (u := []) hx hb hr hlocks rfl hP hD hS [] (by decide) rfl dX10_count_120 (Or.inl ⟨rfl, (by omega), rfl⟩)
  have z_457 := q_ne (a := p1.toInt) (b := 3) rfl (by decide) c_457
  by_cases c_458 : p1 = 4
  · have z_458 := q_eq (a := p1.toInt) (b := 4) rfl (by decide) c_458
    refine ow_i (y := 4) c_458 ?_
    refine lv_tableIn (off := 113) (tgt := 121) hx hb dX10_count_8 (by decide) (by decide) rfl (by decide) ?_
    refine lv_iconst (v := 0) hx hb dX10_count_121 (by decide) ?_
    refine lv_istore_n (lv' := [(3, .int 0), (2, .int 0), (0, .ref h0), (1, .int p1)]) hx hb dX10_count_122 rfl hl (by decide) rfl (fun ls hl => ?_)
    refine lv_iload_n hx hb dX10_count_123 rfl (lv_at hl 0 rfl) ?_
    refine lv_aload_n hx hb dX10_count_124 rfl (lv_at hl 2 rfl) ?_
    refine va_get (D := D) (ci := 10) (v := .int 0) (C := RX10) (T := TX10) (N := 44) hx hb hts inlX10 hown hK hP 0 rfl rfl 12 (by decide) (hts _ k_299) (fun _ h9 => h9) rfl dX10_count_125 ?_
    refine lv_icmp_ge (tgt := 155) hx hb dX10_count_128 (by decide) (fun _ => ?_) (fun h9 => absurd h9 (by decide))
    refine lv_iload_n hx hb dX10_count_155 rfl (lv_at hl 1 rfl) ?_
    exact ow_iret (ty := .int) (u := []) hx hb hr hlocks rfl hP hD hS [] (by decide) rfl dX10_count_156 (Or.inl ⟨rfl, (by omega), rfl⟩)
  have z_458 := q_ne (a := p1.toInt) (b := 4) rfl (by decide) c_458
  by_cases c_459 : p1 = 5
  · have z_459 := q_eq (a := p1.toInt) (b := 5) rfl (by decide) c_459
    refine ow_i (y := 5) c_459 ?_
    refine lv_tableIn (off := 149) (tgt := 157) hx hb dX10_count_8 (by decide) (by decide) rfl (by decide) ?_
    refine lv_aload_n hx hb dX10_count_157 rfl (lv_at hl 1 rfl) ?_
    refine va_get (D := D) (ci := 10) (v := .int 0) (C := RX10) (T := TX10) (N := 44) hx hb hts inlX10 hown hK hP 0 rfl rfl 18 (by decide) (hts _ k_304) (fun _ h9 => h9) rfl dX10_count_158 ?_
    exact ow_iret (ty := .int) (u := []) hx hb hr hlocks rfl hP hD hS [] (by decide) rfl dX10_count_161 (Or.inl ⟨rfl, (by omega), rfl⟩)
  have z_459 := q_ne (a := p1.toInt) (b := 5) rfl (by decide) c_459
  refine lv_tableOut (tgt := 162) hx hb dX10_count_8 (by omega) (by decide) ?_
  refine lv_bipush (v := (-3)) hx hb dX10_count_162 (by decide) ?_
  exact ow_iret (ty := .int) (u := []) hx hb hr hlocks rfl hP hD hS [] (by decide) rfl dX10_count_164 (Or.inr (⟨rfl, (by omega), rfl⟩))
