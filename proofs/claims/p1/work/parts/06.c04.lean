set_option maxHeartbeats 4000000 in
set_option maxRecDepth 100000 in
theorem c_X5_begin_0 (l : Launch) (D : va_G) (G : ow_C) (h0 : Nat) (p1 : Int32) (p2 : Int32) (p3 : Int32) (p4 : Int32) (p5 : Int32) (v1 : Int32) (v2 : Int32) (v3 : Int32) (v4 : Int32) (v5 : Int32) (v6 : Int32) (v7 : Int32) (v8 : Int32) (v9 : Int32) (h6 : Nat) : ow_M l D G yX5_begin cX5_begin 6 none ({ frames := 1, cells := 0, slots := 0, locals := 64 } : Room) [.ref h0, .int p1, .int p2, .int p3, .int p4, .int p5] [(h0, .inr (5, [.int v1, .int v2, .int v3, .int v4, .int v5, .int v6, .int v7, .int v8, .int v9, .ref h6]))] (ow_V D (fun u => (True ∧ u = [(h0, .inr (5, [.int p1, .int p2, .int p3, .int p4, .int p5, .int 0, .int 1, .int 0, .int (-1), .ref h6]))]))) 0 0 := by
  refine ow_met (by decide) (Nat.le_of_ble_eq_true rfl) ?_
  intro p e s m args below meth c A ls hE hl
  obtain ⟨hx, hb, hr, hml, hown, hlocks, hnm, hts, hN, hK, hP, hD, hA, hS⟩ := id hE
  have hown : s.vm.findClass RX5 = some m.cls := hown
  have hP : va_P D vwCl [(h0, .inr (5, [.int v1, .int v2, .int v3, .int v4, .int v5, .int v6, .int v7, .int v8, .int v9, .ref h6]))] s.heap := hP
  have hD : va_D A [(h0, .inr (5, [.int v1, .int v2, .int v3, .int v4, .int v5, .int v6, .int v7, .int v8, .int v9, .ref h6]))] := hD
  have hl : lv_has ls 6 [(0, .ref h0), (1, .int p1), (2, .int p2), (3, .int p3), (4, .int p4), (5, .int p5)] := hl
  refine lv_aload_n hx hb dX5_begin_0 rfl (lv_at hl 0 rfl) ?_
  refine lv_iload_n hx hb dX5_begin_1 rfl (lv_at hl 1 rfl) ?_
  refine va_put (D := D) (ci := 5) (v := .int p1) (ty := .int) (C := RX5) (T := TX5) (N := 10) hx hb hts inlX5 tyX5 tyX5_ok nmX5 hown hK hP hD hS 0 rfl rfl 0 (by decide) (hts _ k_136) (fun _ h9 => h9) rfl (tyX5_ok 0 (by decide)) rfl rfl (Nat.le_of_ble_eq_true rfl) dX5_begin_2 (fun H locs hP hD hS => ?_)
  have hP : va_P D vwCl [(h0, .inr (5, [.int p1, .int v2, .int v3, .int v4, .int v5, .int v6, .int v7, .int v8, .int v9, .ref h6]))] H := hP
  have hD : va_D A [(h0, .inr (5, [.int p1, .int v2, .int v3, .int v4, .int v5, .int v6, .int v7, .int v8, .int v9, .ref h6]))] := hD
  refine lv_aload_n hx hb dX5_begin_5 rfl (lv_at hl 0 rfl) ?_
  refine lv_iload_n hx hb dX5_begin_6 rfl (lv_at hl 2 rfl) ?_
  refine va_put (D := D) (ci := 5) (v := .int p2) (ty := .int) (C := RX5) (T := TX5) (N := 10) hx hb hts inlX5 tyX5 tyX5_ok nmX5 hown hK hP hD hS 0 rfl rfl 1 (by decide) (hts _ k_137) (fun _ h9 => h9) rfl (tyX5_ok 1 (by decide)) rfl rfl (Nat.le_of_ble_eq_true rfl) dX5_begin_7 (fun H locs hP hD hS => ?_)
  have hP : va_P D vwCl [(h0, .inr (5, [.int p1, .int p2, .int v3, .int v4, .int v5, .int v6, .int v7, .int v8, .int v9, .ref h6]))] H := hP
  have hD : va_D A [(h0, .inr (5, [.int p1, .int p2, .int v3, .int v4, .int v5, .int v6, .int v7, .int v8, .int v9, .ref h6]))] := hD
  refine lv_aload_n hx hb dX5_begin_10 rfl (lv_at hl 0 rfl) ?_
  refine lv_iload_n hx hb dX5_begin_11 rfl (lv_at hl 3 rfl) ?_
  refine va_put (D := D) (ci := 5) (v := .int p3) (ty := .int) (C := RX5) (T := TX5) (N := 10) hx hb hts inlX5 tyX5 tyX5_ok nmX5 hown hK hP hD hS 0 rfl rfl 2 (by decide) (hts _ k_138) (fun _ h9 => h9) rfl (tyX5_ok 2 (by decide)) rfl rfl (Nat.le_of_ble_eq_true rfl) dX5_begin_12 (fun H locs hP hD hS => ?_)
  have hP : va_P D vwCl [(h0, .inr (5, [.int p1, .int p2, .int p3, .int v4, .int v5, .int v6, .int v7, .int v8, .int v9, .ref h6]))] H := hP
  have hD : va_D A [(h0, .inr (5, [.int p1, .int p2, .int p3, .int v4, .int v5, .int v6, .int v7, .int v8, .int v9, .ref h6]))] := hD
  refine lv_aload_n hx hb dX5_begin_15 rfl (lv_at hl 0 rfl) ?_
  refine lv_iload hx hb dX5_begin_16 (lv_at hl 4 rfl) ?_
  refine va_put (D := D) (ci := 5) (v := .int p4) (ty := .int) (C := RX5) (T := TX5) (N := 10) hx hb hts inlX5 tyX5 tyX5_ok nmX5 hown hK hP hD hS 0 rfl rfl 3 (by decide) (hts _ k_139) (fun _ h9 => h9) rfl (tyX5_ok 3 (by decide)) rfl rfl (Nat.le_of_ble_eq_true rfl) dX5_begin_18 (fun H locs hP hD hS => ?_)
  have hP : va_P D vwCl [(h0, .inr (5, [.int p1, .int p2, .int p3, .int p4, .int v5, .int v6, .int v7, .int v8, .int v9, .ref h6]))] H := hP
  have hD : va_D A [(h0, .inr (5, [.int p1, .int p2, .int p3, .int p4, .int v5, .int v6, .int v7, .int v8, .int v9, .ref h6]))] := hD
  refine lv_aload_n hx hb dX5_begin_21 rfl (lv_at hl 0 rfl) ?_
  refine lv_iload hx hb dX5_begin_22 (lv_at hl 5 rfl) ?_
  refine va_put (D := D) (ci := 5) (v := .int p5) (ty := .int) (C := RX5) (T := TX5) (N := 10) hx hb hts inlX5 tyX5 tyX5_ok nmX5 hown hK hP hD hS 0 rfl rfl 4 (by decide) (hts _ k_140) (fun _ h9 => h9) rfl (tyX5_ok 4 (by decide)) rfl rfl (Nat.le_of_ble_eq_true rfl) dX5_begin_24 (fun H locs hP hD hS => ?_)
  have hP : va_P D vwCl [(h0, .inr (5, [.int p1, .int p2, .int p3, .int p4, .int p5, .int v6, .int v7, .int v8, .int v9, .ref h6]))] H := hP
  have hD : va_D A [(h0, .inr (5, [.int p1, .int p2, .int p3, .int p4, .int p5, .int v6, .int v7, .int v8, .int v9, .ref h6]))] := hD
  refine lv_aload_n hx hb dX5_begin_27 rfl (lv_at hl 0 rfl) ?_
  refine lv_iconst (v := 0) hx hb dX5_begin_28 (by decide) ?_
  refine va_put (D := D) (ci := 5) (v := .int 0) (ty := .int) (C := RX5) (T := TX5) (N := 10) hx hb hts inlX5 tyX5 tyX5_ok nmX5 hown hK hP hD hS 0 rfl rfl 5 (by decide) (hts _ k_141) (fun _ h9 => h9) rfl (tyX5_ok 5 (by decide)) rfl rfl (Nat.le_of_ble_eq_true rfl) dX5_begin_29 (fun H locs hP hD hS => ?_)
  have hP : va_P D vwCl [(h0, .inr (5, [.int p1, .int p2, .int p3, .int p4, .int p5, .int 0, .int v7, .int v8, .int v9, .ref h6]))] H := hP
  have hD : va_D A [(h0, .inr (5, [.int p1, .int p2, .int p3, .int p4, .int p5, .int 0, .int v7, .int v8, .int v9, .ref h6]))] := hD
  refine lv_aload_n hx hb dX5_begin_32 rfl (lv_at hl 0 rfl) ?_
  refine lv_iconst (v := 1) hx hb dX5_begin_33 (by decide) ?_
  refine va_put (D := D) (ci := 5) (v := .int 1) (ty := .boolean) (C := RX5) (T := TX5) (N := 10) hx hb hts inlX5 tyX5 tyX5_ok nmX5 hown hK hP hD hS 0 rfl rfl 6 (by decide) (hts _ k_142) (fun _ h9 => h9) rfl (tyX5_ok 6 (by decide)) rfl rfl (Nat.le_of_ble_eq_true rfl) dX5_begin_34 (fun H locs hP hD hS => ?_)
  have hP : va_P D vwCl [(h0, .inr (5, [.int p1, .int p2, .int p3, .int p4, .int p5, .int 0, .int 1, .int v8, .int v9, .ref h6]))] H := hP
  have hD : va_D A [(h0, .inr (5, [.int p1, .int p2, .int p3, .int p4, .int p5, .int 0, .int 1, .int v8, .int v9, .ref h6]))] := hD
  refine lv_aload_n hx hb dX5_begin_37 rfl (lv_at hl 0 rfl) ?_
  refine lv_iconst (v := 0) hx hb dX5_begin_38 (by decide) ?_
  refine va_put (D := D) (ci := 5) (v := .int 0) (ty := .boolean) (C := RX5) (T := TX5) (N := 10) hx hb hts inlX5 tyX5 tyX5_ok nmX5 hown hK hP hD hS 0 rfl rfl 7 (by decide) (hts _ k_143) (fun _ h9 => h9) rfl (tyX5_ok 7 (by decide)) rfl rfl (Nat.le_of_ble_eq_true rfl) dX5_begin_39 (fun H locs hP hD hS => ?_)
  have hP : va_P D vwCl [(h0, .inr (5, [.int p1, .int p2, .int p3, .int p4, .int p5, .int 0, .int 1, .int 0, .int v9, .ref h6]))] H := hP
  have hD : va_D A [(h0, .inr (5, [.int p1, .int p2, .int p3, .int p4, .int p5, .int 0, .int 1, .int 0, .int v9, .ref h6]))] := hD
  refine lv_aload_n hx hb dX5_begin_42 rfl (lv_at hl 0 rfl) ?_
  refine lv_iconst (v := (-1)) hx hb dX5_begin_43 (by decide) ?_
  refine va_put (D := D) (ci := 5) (v := .int (-1)) (ty := .int) (C := RX5) (T := TX5) (N := 10) hx hb hts inlX5 tyX5 tyX5_ok nmX5 hown hK hP hD hS 0 rfl rfl 8 (by decide) (hts _ k_144) (fun _ h9 => h9) rfl (tyX5_ok 8 (by decide)) rfl rfl (Nat.le_of_ble_eq_true rfl) dX5_begin_44 (fun H locs hP hD hS => ?_)
  have hP : va_P D vwCl [(h0, .inr (5, [.int p1, .int p2, .int p3, .int p4, .int p5, .int 0, .int 1, .int 0, .int (-1), .ref h6]))] H := hP
  have hD : va_D A [(h0, .inr (5, [.int p1, .int p2, .int p3, .int p4, .int p5, .int 0, .int 1, .int 0, .int (-1), .ref h6]))] := hD
  exact ow_vret (u := [(h0, .inr (5, [.int p1, .int p2, .int p3, .int p4, .int p5, .int 0, .int 1, .int 0, .int (-1), .ref h6]))]) hx hb hr hlocks hP hD hS [0] (by decide) rfl dX5_begin_47 ⟨trivial, rfl⟩
set_option maxHeartbeats 4000000 in
set_option maxRecDepth 100000 in
theorem c_X4_find_0 (l : Launch) (D : va_G) (G : ow_C) (h0 : Nat) (h1 : Nat) (h2 : Nat) (h3 : Nat) (h4 : Nat) (h5 : Nat) (h6 : Nat) (v1 : Int32) (h7 : Nat) (h8 : Nat) (v2 : Int32) : ow_M l D G yX4_find cX4_find 5 none ({ frames := 1, cells := 0, slots := 0, locals := 64 } : Room) [.ref h0, .ref h1, .int (-1)] [(h0, .inr (4, [.ref h2, .ref h3, .ref h4, .ref h5, .ref h6, .int v1])), (h1, .inr (8, [.ref h7, .ref h8, .int v2, .int 0]))] (ow_V D (fun u => (True ∧ u = [(h0, .inr (4, [.ref h2, .ref h3, .ref h4, .ref h5, .ref h6, .int 0])), (h1, .inr (8, [.ref h7, .ref h8, .int v2, .int 0]))]))) 0 0 := by
  refine ow_met (by decide) (Nat.le_of_ble_eq_true rfl) ?_
  intro p e s m args below meth c A ls hE hl
  obtain ⟨hx, hb, hr, hml, hown, hlocks, hnm, hts, hN, hK, hP, hD, hA, hS⟩ := id hE
  have hown : s.vm.findClass RX4 = some m.cls := hown
  have hP : va_P D vwCl [(h0, .inr (4, [.ref h2, .ref h3, .ref h4, .ref h5, .ref h6, .int v1])), (h1, .inr (8, [.ref h7, .ref h8, .int v2, .int 0]))] s.heap := hP
  have hD : va_D A [(h0, .inr (4, [.ref h2, .ref h3, .ref h4, .ref h5, .ref h6, .int v1])), (h1, .inr (8, [.ref h7, .ref h8, .int v2, .int 0]))] := hD
  have hl : lv_has ls 5 [(0, .ref h0), (1, .ref h1), (2, .int (-1))] := hl
  refine lv_aload_n hx hb dX4_find_0 rfl (lv_at hl 0 rfl) ?_
  refine lv_aload_n hx hb dX4_find_1 rfl (lv_at hl 1 rfl) ?_
  refine va_getN (D := D) (ci := 8) (v := .int 0) (C := RX8) (T := TX8) (N := 4) hx hb hts inlX8 hown hK hP 1 rfl rfl 3 (by decide) (va_Nw.use rfl (hN.1 40 _ rfl)) (fun _ h9 => h9) rfl dX4_find_2 ?_
  refine va_put (D := D) (ci := 4) (v := .int 0) (ty := .int) (C := RX4) (T := TX4) (N := 6) hx hb hts inlX4 tyX4 tyX4_ok nmX4 hown hK hP hD hS 0 rfl rfl 5 (by decide) (hts _ k_148) (fun _ h9 => h9) rfl (tyX4_ok 5 (by decide)) rfl rfl (Nat.le_of_ble_eq_true rfl) dX4_find_5 (fun H locs hP hD hS => ?_)
  have hP : va_P D vwCl [(h0, .inr (4, [.ref h2, .ref h3, .ref h4, .ref h5, .ref h6, .int 0])), (h1, .inr (8, [.ref h7, .ref h8, .int v2, .int 0]))] H := hP
  have hD : va_D A [(h0, .inr (4, [.ref h2, .ref h3, .ref h4, .ref h5, .ref h6, .int 0])), (h1, .inr (8, [.ref h7, .ref h8, .int v2, .int 0]))] := hD
  refine lv_iconst (v := 0) hx hb dX4_find_8 (by decide) ?_
  refine lv_istore_n (lv' := [(3, .int 0), (0, .ref h0), (1, .ref h1), (2, .int (-1))]) hx hb dX4_find_9 rfl hl (by decide) rfl (fun ls hl => ?_)
  refine lv_iload_n hx hb dX4_find_10 rfl (lv_at hl 0 rfl) ?_
  refine lv_aload_n hx hb dX4_find_11 rfl (lv_at hl 1 rfl) ?_
  refine va_get (D := D) (ci := 4) (v := .int 0) (C := RX4) (T := TX4) (N := 6) hx hb hts inlX4 hown hK hP 0 rfl rfl 5 (by decide) (hts _ k_148) (fun _ h9 => h9) rfl dX4_find_12 ?_
  refine lv_icmp_ge (tgt := 56) hx hb dX4_find_15 (by decide) (fun _ => ?_) (fun h9 => absurd h9 (by decide))
  exact ow_vret (u := [(h0, .inr (4, [.ref h2, .ref h3, .ref h4, .ref h5, .ref h6, .int 0])), (h1, .inr (8, [.ref h7, .ref h8, .int v2, .int 0]))]) hx hb hr hlocks hP hD hS [0, 1] (by decide) rfl dX4_find_56 ⟨trivial, rfl⟩
set_option maxHeartbeats 4000000 in
set_option maxRecDepth 100000 in
theorem c_X9_roadsHaveChanged_0 (l : Launch) (D : va_G) (G : ow_C) (h0 : Nat) (h1 : Nat) (h2 : Nat) (h3 : Nat) (h4 : Nat) (h5 : Nat) (h6 : Nat) (h7 : Nat) (h8 : Nat) (h9 : Nat) (h10 : Nat) (h11 : Nat) (v1 : Int32) (h12 : Nat) (h13 : Nat) (h14 : Nat) (h15 : Nat) (h16 : Nat) (v2 : Int32) : ow_M l D G yX9_roadsHaveChanged cX9_roadsHaveChanged 2 none ({ frames := 2, cells := 0, slots := 0, locals := 88 } : Room) [.ref h0] [(h0, .inr (9, [.ref h1, .ref h2, .ref h3, .ref h4, .ref h5, .ref h6, .ref h7, .ref h8, .ref h9])), (h1, .inr (8, [.ref h10, .ref h11, .int v1, .int 0])), (h3, .inr (4, [.ref h12, .ref h13, .ref h14, .ref h15, .ref h16, .int v2]))] (ow_V D (fun u => (True ∧ u = [(h0, .inr (9, [.ref h1, .ref h2, .ref h3, .ref h4, .ref h5, .ref h6, .ref h7, .ref h8, .ref h9])), (h3, .inr (4, [.ref h12, .ref h13, .ref h14, .ref h15, .ref h16, .int 0])), (h1, .inr (8, [.ref h10, .ref h11, .int v1, .int 0]))]))) 0 0 := by
  refine ow_met (by decide) (Nat.le_of_ble_eq_true rfl) ?_
  intro p e s m args below meth c A ls hE hl
  obtain ⟨hx, hb, hr, hml, hown, hlocks, hnm, hts, hN, hK, hP, hD, hA, hS⟩ := id hE
  have hown : s.vm.findClass RX9 = some m.cls := hown
  have hP : va_P D vwCl [(h0, .inr (9, [.ref h1, .ref h2, .ref h3, .ref h4, .ref h5, .ref h6, .ref h7, .ref h8, .ref h9])), (h1, .inr (8, [.ref h10, .ref h11, .int v1, .int 0])), (h3, .inr (4, [.ref h12, .ref h13, .ref h14, .ref h15, .ref h16, .int v2]))] s.heap := hP
  have hD : va_D A [(h0, .inr (9, [.ref h1, .ref h2, .ref h3, .ref h4, .ref h5, .ref h6, .ref h7, .ref h8, .ref h9])), (h1, .inr (8, [.ref h10, .ref h11, .int v1, .int 0])), (h3, .inr (4, [.ref h12, .ref h13, .ref h14, .ref h15, .ref h16, .int v2]))] := hD
  have hl : lv_has ls 2 [(0, .ref h0)] := hl
  refine lv_iconst (v := 0) hx hb dX9_roadsHaveChanged_0 (by decide) ?_
  refine lv_istore_n (lv' := [(1, .int 0), (0, .ref h0)]) hx hb dX9_roadsHaveChanged_1 rfl hl (by decide) rfl (fun ls hl => ?_)
  refine lv_iload_n hx hb dX9_roadsHaveChanged_2 rfl (lv_at hl 0 rfl) ?_
  refine lv_aload_n hx hb dX9_roadsHaveChanged_3 rfl (lv_at hl 1 rfl) ?_
  refine va_get (D := D) (ci := 9) (v := .ref h1) (C := RX9) (T := TX9) (N := 9) hx hb hts inlX9 hown hK hP 0 rfl rfl 0 (by decide) (hts _ k_25) (fun _ h9 => h9) rfl dX9_roadsHaveChanged_4 ?_
  refine va_getN (D := D) (ci := 8) (v := .int 0) (C := RX8) (T := TX8) (N := 4) hx hb hts inlX8 hown hK hP 1 rfl rfl 3 (by decide) (va_Nw.use rfl (hN.1 42 _ rfl)) (fun _ h9 => h9) rfl dX9_roadsHaveChanged_7 ?_
  refine lv_icmp_ge (tgt := 32) hx hb dX9_roadsHaveChanged_10 (by decide) (fun _ => ?_) (fun h9 => absurd h9 (by decide))
  refine lv_aload_n hx hb dX9_roadsHaveChanged_32 rfl (lv_at hl 1 rfl) ?_
  refine va_get (D := D) (ci := 9) (v := .ref h3) (C := RX9) (T := TX9) (N := 9) hx hb hts inlX9 hown hK hP 0 rfl rfl 2 (by decide) (hts _ k_46) (fun _ h9 => h9) rfl dX9_roadsHaveChanged_33 ?_
  refine lv_aload_n hx hb dX9_roadsHaveChanged_36 rfl (lv_at hl 1 rfl) ?_
  refine va_get (D := D) (ci := 9) (v := .ref h1) (C := RX9) (T := TX9) (N := 9) hx hb hts inlX9 hown hK hP 0 rfl rfl 0 (by decide) (hts _ k_25) (fun _ h9 => h9) rfl dX9_roadsHaveChanged_37 ?_
  refine lv_iconst (v := (-1)) hx hb dX9_roadsHaveChanged_40 (by decide) ?_
  refine ow_cv (wr := [(h0, .inr (9, [.ref h1, .ref h2, .ref h3, .ref h4, .ref h5, .ref h6, .ref h7, .ref h8, .ref h9]))]) (ow_rVN (rest := []) (n := 2) (iN := 79) (ci := 4) (q := (RX4, TX4, 6)) ⟨hx, hb, hml, hown, hts⟩ (c_X4_find_0 l D G h3 h1 h12 h13 h14 h15 h16 v2 h10 h11 v1) k_149 rfl k_37 k_150 k_151 (by decide +kernel) ⟨Nat.le_of_ble_eq_true rfl, Nat.le_of_ble_eq_true rfl⟩ rfl rfl hN hK hP hD [2, 1] (by decide) rfl rfl rfl rfl hl.1 rfl (Nat.le_of_ble_eq_true rfl) dX9_roadsHaveChanged_41 ⟨Nat.le_of_ble_eq_true rfl, Nat.le_of_ble_eq_true rfl⟩) hP hD hS hA [2, 1] [0] rfl rfl (by decide) (by decide) (fun u H locs hw hP hD hS => ?_)
  obtain ⟨c_188, rfl⟩ := hw
  have hP : va_P D vwCl [(h0, .inr (9, [.ref h1, .ref h2, .ref h3, .ref h4, .ref h5, .ref h6, .ref h7, .ref h8, .ref h9])), (h3, .inr (4, [.ref h12, .ref h13, .ref h14, .ref h15, .ref h16, .int 0])), (h1, .inr (8, [.ref h10, .ref h11, .int v1, .int 0]))] H := hP
  have hD : va_D A [(h0, .inr (9, [.ref h1, .ref h2, .ref h3, .ref h4, .ref h5, .ref h6, .ref h7, .ref h8, .ref h9])), (h3, .inr (4, [.ref h12, .ref h13, .ref h14, .ref h15, .ref h16, .int 0])), (h1, .inr (8, [.ref h10, .ref h11, .int v1, .int 0]))] := hD
  refine W.widen (k := 0) (n := 0) (Nat.le_of_ble_eq_true rfl) (Nat.le_of_ble_eq_true rfl) ?_
  exact ow_vret (u := [(h0, .inr (9, [.ref h1, .ref h2, .ref h3, .ref h4, .ref h5, .ref h6, .ref h7, .ref h8, .ref h9])), (h3, .inr (4, [.ref h12, .ref h13, .ref h14, .ref h15, .ref h16, .int 0])), (h1, .inr (8, [.ref h10, .ref h11, .int v1, .int 0]))]) hx hb hr hlocks hP hD hS [0, 1, 2] (by decide) rfl dX9_roadsHaveChanged_44 ⟨trivial, rfl⟩
set_option maxHeartbeats 4000000 in
set_option maxRecDepth 100000 in
theorem c_X9_road_0 (l : Launch) (D : va_G) (G : ow_C) (h0 : Nat) (p1 : Int32) (p2 : Int32) (p3 : Int32) (p4 : Int32) (p5 : Int32) (h6 : Nat) (h7 : Nat) (h8 : Nat) (h9 : Nat) (h10 : Nat) (h11 : Nat) (h12 : Nat) (h13 : Nat) (h14 : Nat) (h15 : Nat) (h16 : Nat) (h17 : Nat) (v1 : Nat → Option Nat) (h18 : Nat) (h19 : Nat) (h20 : Nat) (v2 : Int32) (v3 : Int32) (v4 : Nat → Option Nat) (h21 : Nat) (v5 : Int32) (v6 : Int32) (v7 : Int32) (v8 : Int32) (v9 : Int32) (v10 : Int32) (v11 : Int32) (v12 : Int32) (v13 : Int32) (h22 : Nat) (h23 : Nat) (h24 : Nat) (h25 : Nat) (h26 : Nat) (h27 : Nat) (v14 : Int32) (hk_h17_0 : v1 0 = some h18) (hk_h15_0 : v4 0 = some h21) : ow_M l D G yX9_road cX9_road 7 (some .int) ({ frames := 3, cells := 0, slots := 0, locals := 109 } : Room) [.ref h0, .int p1, .int p2, .int p3, .int p4, .int p5] [(h0, .inr (9, [.ref h6, .ref h7, .ref h8, .ref h9, .ref h10, .ref h11, .ref h12, .ref h13, .ref h14])), (h6, .inr (8, [.ref h15, .ref h16, .int 0, .int 0])), (h7, .inr (3, [.ref h17, .int 0, .int 0])), (h17, .inl (G.2.2.2, 8, .inr (.inr (.inr (.inr v1))))), (h18, .inr (8, [.ref h19, .ref h20, .int v2, .int v3])), (h15, .inl (G.2.1, 10, .inr (.inr (.inr (.inr v4))))), (h21, .inr (5, [.int v5, .int v6, .int v7, .int v8, .int v9, .int v10, .int v11, .int v12, .int v13, .ref h22])), (h8, .inr (4, [.ref h23, .ref h24, .ref h25, .ref h26, .ref h27, .int v14]))] (ow_I D (fun r u => (r = (-3) ∧ (¬ (0 ≤ p1.toInt ∧ p1.toInt ≤ 3 ∧ 0 ≤ p2.toInt ∧ p2.toInt ≤ 5 ∧ 0 ≤ p3.toInt ∧ p3.toInt ≤ 5 ∧ 0 ≤ p4.toInt ∧ p4.toInt ≤ 12 ∧ 0 ≤ p5.toInt ∧ p5.toInt ≤ 1000 ∧ (¬ p2.toInt = p3.toInt))) ∧ u = []) ∨ (r = 0 ∧ (0 ≤ p1.toInt ∧ p1.toInt ≤ 3 ∧ 0 ≤ p2.toInt ∧ p2.toInt ≤ 5 ∧ 0 ≤ p3.toInt ∧ p3.toInt ≤ 5 ∧ 0 ≤ p4.toInt ∧ p4.toInt ≤ 12 ∧ 0 ≤ p5.toInt ∧ p5.toInt ≤ 1000 ∧ (¬ p2.toInt = p3.toInt)) ∧ u = []))) 0 0 := by
  refine ow_met (by decide) (Nat.le_of_ble_eq_true rfl) ?_
  intro p e s m args below meth c A ls hE hl
  obtain ⟨hx, hb, hr, hml, hown, hlocks, hnm, hts, hN, hK, hP, hD, hA, hS⟩ := id hE
  have hown : s.vm.findClass RX9 = some m.cls := hown
  have hP : va_P D vwCl [(h0, .inr (9, [.ref h6, .ref h7, .ref h8, .ref h9, .ref h10, .ref h11, .ref h12, .ref h13, .ref h14])), (h6, .inr (8, [.ref h15, .ref h16, .int 0, .int 0])), (h7, .inr (3, [.ref h17, .int 0, .int 0])), (h17, .inl (G.2.2.2, 8, .inr (.inr (.inr (.inr v1))))), (h18, .inr (8, [.ref h19, .ref h20, .int v2, .int v3])), (h15, .inl (G.2.1, 10, .inr (.inr (.inr (.inr v4))))), (h21, .inr (5, [.int v5, .int v6, .int v7, .int v8, .int v9, .int v10, .int v11, .int v12, .int v13, .ref h22])), (h8, .inr (4, [.ref h23, .ref h24, .ref h25, .ref h26, .ref h27, .int v14]))] s.heap := hP
  have hD : va_D A [(h0, .inr (9, [.ref h6, .ref h7, .ref h8, .ref h9, .ref h10, .ref h11, .ref h12, .ref h13, .ref h14])), (h6, .inr (8, [.ref h15, .ref h16, .int 0, .int 0])), (h7, .inr (3, [.ref h17, .int 0, .int 0])), (h17, .inl (G.2.2.2, 8, .inr (.inr (.inr (.inr v1))))), (h18, .inr (8, [.ref h19, .ref h20, .int v2, .int v3])), (h15, .inl (G.2.1, 10, .inr (.inr (.inr (.inr v4))))), (h21, .inr (5, [.int v5, .int v6, .int v7, .int v8, .int v9, .int v10, .int v11, .int v12, .int v13, .ref h22])), (h8, .inr (4, [.ref h23, .ref h24, .ref h25, .ref h26, .ref h27, .int v14]))] := hD
  have hl : lv_has ls 7 [(0, .ref h0), (1, .int p1), (2, .int p2), (3, .int p3), (4, .int p4), (5, .int p5)] := hl
  refine lv_iload_n hx hb dX9_road_0 rfl (lv_at hl 1 rfl) ?_
  refine ow_ci (wr := [(h0, .inr (9, [.ref h6, .ref h7, .ref h8, .ref h9, .ref h10, .ref h11, .ref h12, .ref h13, .ref h14])), (h6, .inr (8, [.ref h15, .ref h16, .int 0, .int 0])), (h7, .inr (3, [.ref h17, .int 0, .int 0])), (h17, .inl (G.2.2.2, 8, .inr (.inr (.inr (.inr v1))))), (h18, .inr (8, [.ref h19, .ref h20, .int v2, .int v3])), (h15, .inl (G.2.1, 10, .inr (.inr (.inr (.inr v4))))), (h21, .inr (5, [.int v5, .int v6, .int v7, .int v8, .int v9, .int v10, .int v11, .int v12, .int v13, .ref h22])), (h8, .inr (4, [.ref h23, .ref h24, .ref h25, .ref h26, .ref h27, .int v14]))]) (ow_rS (rest := []) (n := 1) ⟨hx, hb, hml, hown, hts⟩ (c_X9_isKind_0 l D G p1) k_116 k_115 k_117 k_118 (by decide +kernel) ⟨Nat.le_of_ble_eq_true rfl, Nat.le_of_ble_eq_true rfl⟩ rfl rfl hN hK hP hD [] (by decide) rfl rfl hl.1 rfl (Nat.le_of_ble_eq_true rfl) dX9_road_1 ⟨Nat.le_of_ble_eq_true rfl, Nat.le_of_ble_eq_true rfl⟩) hP hD hS hA [] [0, 1, 2, 3, 4, 5, 6, 7] rfl rfl (by decide) (by decide) (fun r u H locs hw hP hD hS => ?_)
  rcases hw with ⟨rfl, c_170, rfl⟩ | ⟨rfl, c_171, rfl⟩
  · have hP : va_P D vwCl [(h0, .inr (9, [.ref h6, .ref h7, .ref h8, .ref h9, .ref h10, .ref h11, .ref h12, .ref h13, .ref h14])), (h6, .inr (8, [.ref h15, .ref h16, .int 0, .int 0])), (h7, .inr (3, [.ref h17, .int 0, .int 0])), (h17, .inl (G.2.2.2, 8, .inr (.inr (.inr (.inr v1))))), (h18, .inr (8, [.ref h19, .ref h20, .int v2, .int v3])), (h15, .inl (G.2.1, 10, .inr (.inr (.inr (.inr v4))))), (h21, .inr (5, [.int v5, .int v6, .int v7, .int v8, .int v9, .int v10, .int v11, .int v12, .int v13, .ref h22])), (h8, .inr (4, [.ref h23, .ref h24, .ref h25, .ref h26, .ref h27, .int v14]))] H := hP
    have hD : va_D A [(h0, .inr (9, [.ref h6, .ref h7, .ref h8, .ref h9, .ref h10, .ref h11, .ref h12, .ref h13, .ref h14])), (h6, .inr (8, [.ref h15, .ref h16, .int 0, .int 0])), (h7, .inr (3, [.ref h17, .int 0, .int 0])), (h17, .inl (G.2.2.2, 8, .inr (.inr (.inr (.inr v1))))), (h18, .inr (8, [.ref h19, .ref h20, .int v2, .int v3])), (h15, .inl (G.2.1, 10, .inr (.inr (.inr (.inr v4))))), (h21, .inr (5, [.int v5, .int v6, .int v7, .int v8, .int v9, .int v10, .int v11, .int v12, .int v13, .ref h22])), (h8, .inr (4, [.ref h23, .ref h24, .ref h25, .ref h26, .ref h27, .int v14]))] := hD
    refine W.widen (k := 0) (n := 0) (Nat.le_of_ble_eq_true rfl) (Nat.le_of_ble_eq_true rfl) ?_
    refine lv_if_eq (tgt := 40) hx hb dX9_road_4 (by decide) (fun _ => ?_) (fun h9 => absurd h9 (by decide))
    refine lv_bipush (v := (-3)) hx hb dX9_road_40 (by decide) ?_
    exact ow_iret (ty := .int) (u := []) hx hb hr hlocks rfl hP hD hS [] (by decide) rfl dX9_road_42 (Or.inl ⟨rfl, (by omega), rfl⟩)
  · have hP : va_P D vwCl [(h0, .inr (9, [.ref h6, .ref h7, .ref h8, .ref h9, .ref h10, .ref h11, .ref h12, .ref h13, .ref h14])), (h6, .inr (8, [.ref h15, .ref h16, .int 0, .int 0])), (h7, .inr (3, [.ref h17, .int 0, .int 0])), (h17, .inl (G.2.2.2, 8, .inr (.inr (.inr (.inr v1))))), (h18, .inr (8, [.ref h19, .ref h20, .int v2, .int v3])), (h15, .inl (G.2.1, 10, .inr (.inr (.inr (.inr v4))))), (h21, .inr (5, [.int v5, .int v6, .int v7, .int v8, .int v9, .int v10, .int v11, .int v12, .int v13, .ref h22])), (h8, .inr (4, [.ref h23, .ref h24, .ref h25, .ref h26, .ref h27, .int v14]))] H := hP
    have hD : va_D A [(h0, .inr (9, [.ref h6, .ref h7, .ref h8, .ref h9, .ref h10, .ref h11, .ref h12, .ref h13, .ref h14])), (h6, .inr (8, [.ref h15, .ref h16, .int 0, .int 0])), (h7, .inr (3, [.ref h17, .int 0, .int 0])), (h17, .inl (G.2.2.2, 8, .inr (.inr (.inr (.inr v1))))), (h18, .inr (8, [.ref h19, .ref h20, .int v2, .int v3])), (h15, .inl (G.2.1, 10, .inr (.inr (.inr (.inr v4))))), (h21, .inr (5, [.int v5, .int v6, .int v7, .int v8, .int v9, .int v10, .int v11, .int v12, .int v13, .ref h22])), (h8, .inr (4, [.ref h23, .ref h24, .ref h25, .ref h26, .ref h27, .int v14]))] := hD
    refine W.widen (k := 0) (n := 0) (Nat.le_of_ble_eq_true rfl) (Nat.le_of_ble_eq_true rfl) ?_
    refine lv_if_eq (tgt := 40) hx hb dX9_road_4 (by decide) (fun h9 => absurd h9 (by decide)) (fun _ => ?_)
    refine lv_iload_n hx hb dX9_road_7 rfl (lv_at hl 2 rfl) ?_
    refine lv_iload_n hx hb dX9_road_8 rfl (lv_at hl 3 rfl) ?_
    refine ow_ci (wr := [(h0, .inr (9, [.ref h6, .ref h7, .ref h8, .ref h9, .ref h10, .ref h11, .ref h12, .ref h13, .ref h14])), (h6, .inr (8, [.ref h15, .ref h16, .int 0, .int 0])), (h7, .inr (3, [.ref h17, .int 0, .int 0])), (h17, .inl (G.2.2.2, 8, .inr (.inr (.inr (.inr v1))))), (h18, .inr (8, [.ref h19, .ref h20, .int v2, .int v3])), (h15, .inl (G.2.1, 10, .inr (.inr (.inr (.inr v4))))), (h21, .inr (5, [.int v5, .int v6, .int v7, .int v8, .int v9, .int v10, .int v11, .int v12, .int v13, .ref h22])), (h8, .inr (4, [.ref h23, .ref h24, .ref h25, .ref h26, .ref h27, .int v14]))]) (ow_rS (rest := []) (n := 2) ⟨hx, hb, hml, hown, hts⟩ (c_X9_arePlaces_0 l D G p2 p3) k_120 k_119 k_117 k_121 (by decide +kernel) ⟨Nat.le_of_ble_eq_true rfl, Nat.le_of_ble_eq_true rfl⟩ rfl rfl hN hK hP hD [] (by decide) rfl rfl hl.1 rfl (Nat.le_of_ble_eq_true rfl) dX9_road_9 ⟨Nat.le_of_ble_eq_true rfl, Nat.le_of_ble_eq_true rfl⟩) hP hD hS hA [] [0, 1, 2, 3, 4, 5, 6, 7] rfl rfl (by decide) (by decide) (fun r u H locs hw hP hD hS => ?_)
    rcases hw with ⟨rfl, c_172, rfl⟩ | ⟨rfl, c_173, rfl⟩
    · have hP : va_P D vwCl [(h0, .inr (9, [.ref h6, .ref h7, .ref h8, .ref h9, .ref h10, .ref h11, .ref h12, .ref h13, .ref h14])), (h6, .inr (8, [.ref h15, .ref h16, .int 0, .int 0])), (h7, .inr (3, [.ref h17, .int 0, .int 0])), (h17, .inl (G.2.2.2, 8, .inr (.inr (.inr (.inr v1))))), (h18, .inr (8, [.ref h19, .ref h20, .int v2, .int v3])), (h15, .inl (G.2.1, 10, .inr (.inr (.inr (.inr v4))))), (h21, .inr (5, [.int v5, .int v6, .int v7, .int v8, .int v9, .int v10, .int v11, .int v12, .int v13, .ref h22])), (h8, .inr (4, [.ref h23, .ref h24, .ref h25, .ref h26, .ref h27, .int v14]))] H := hP
      have hD : va_D A [(h0, .inr (9, [.ref h6, .ref h7, .ref h8, .ref h9, .ref h10, .ref h11, .ref h12, .ref h13, .ref h14])), (h6, .inr (8, [.ref h15, .ref h16, .int 0, .int 0])), (h7, .inr (3, [.ref h17, .int 0, .int 0])), (h17, .inl (G.2.2.2, 8, .inr (.inr (.inr (.inr v1))))), (h18, .inr (8, [.ref h19, .ref h20, .int v2, .int v3])), (h15, .inl (G.2.1, 10, .inr (.inr (.inr (.inr v4))))), (h21, .inr (5, [.int v5, .int v6, .int v7, .int v8, .int v9, .int v10, .int v11, .int v12, .int v13, .ref h22])), (h8, .inr (4, [.ref h23, .ref h24, .ref h25, .ref h26, .ref h27, .int v14]))] := hD
      refine W.widen (k := 0) (n := 0) (Nat.le_of_ble_eq_true rfl) (Nat.le_of_ble_eq_true rfl) ?_
      refine lv_if_eq (tgt := 40) hx hb dX9_road_12 (by decide) (fun _ => ?_) (fun h9 => absurd h9 (by decide))
      refine lv_bipush (v := (-3)) hx hb dX9_road_40 (by decide) ?_
      exact ow_iret (ty := .int) (u := []) hx hb hr hlocks rfl hP hD hS [] (by decide) rfl dX9_road_42 (Or.inl ⟨rfl, (by omega), rfl⟩)
    · have hP : va_P D vwCl [(h0, .inr (9, [.ref h6, .ref h7, .ref h8, .ref h9, .ref h10, .ref h11, .ref h12, .ref h13, .ref h14])), (h6, .inr (8, [.ref h15, .ref h16, .int 0, .int 0])), (h7, .inr (3, [.ref h17, .int 0, .int 0])), (h17, .inl (G.2.2.2, 8, .inr (.inr (.inr (.inr v1))))), (h18, .inr (8, [.ref h19, .ref h20, .int v2, .int v3])), (h15, .inl (G.2.1, 10, .inr (.inr (.inr (.inr v4))))), (h21, .inr (5, [.int v5, .int v6, .int v7, .int v8, .int v9, .int v10, .int v11, .int v12, .int v13, .ref h22])), (h8, .inr (4, [.ref h23, .ref h24, .ref h25, .ref h26, .ref h27, .int v14]))] H := hP
      have hD : va_D A [(h0, .inr (9, [.ref h6, .ref h7, .ref h8, .ref h9, .ref h10, .ref h11, .ref h12, .ref h13, .ref h14])), (h6, .inr (8, [.ref h15, .ref h16, .int 0, .int 0])), (h7, .inr (3, [.ref h17, .int 0, .int 0])), (h17, .inl (G.2.2.2, 8, .inr (.inr (.inr (.inr v1))))), (h18, .inr (8, [.ref h19, .ref h20, .int v2, .int v3])), (h15, .inl (G.2.1, 10, .inr (.inr (.inr (.inr v4))))), (h21, .inr (5, [.int v5, .int v6, .int v7, .int v8, .int v9, .int v10, .int v11, .int v12, .int v13, .ref h22])), (h8, .inr (4, [.ref h23, .ref h24, .ref h25, .ref h26, .ref h27, .int v14]))] := hD
      refine W.widen (k := 0) (n := 0) (Nat.le_of_ble_eq_true rfl) (Nat.le_of_ble_eq_true rfl) ?_
      refine lv_if_eq (tgt := 40) hx hb dX9_road_12 (by decide) (fun h9 => absurd h9 (by decide)) (fun _ => ?_)
      refine lv_iload hx hb dX9_road_15 (lv_at hl 4 rfl) ?_
      refine lv_if_lt (tgt := 40) hx hb dX9_road_17 (by decide) (fun c_174 => ?_) (fun c_174 => ?_)
      · have z_174 := q_lt (a := p4.toInt) (b := 0) rfl (by decide) c_174
        refine lv_bipush (v := (-3)) hx hb dX9_road_40 (by decide) ?_
        exact ow_iret (ty := .int) (u := []) hx hb hr hlocks rfl hP hD hS [] (by decide) rfl dX9_road_42 (Or.inl ⟨rfl, (by omega), rfl⟩)
      · have z_174 := q_nlt (a := p4.toInt) (b := 0) rfl (by decide) c_174
        refine lv_iload hx hb dX9_road_20 (lv_at hl 4 rfl) ?_
        refine lv_bipush (v := 12) hx hb dX9_road_22 (by decide) ?_
        refine lv_icmp_gt (tgt := 40) hx hb dX9_road_24 (by decide) (fun c_175 => ?_) (fun c_175 => ?_)
        · have z_175 := q_lt (a := 12) (b := p4.toInt) (by decide) rfl c_175
          refine lv_bipush (v := (-3)) hx hb dX9_road_40 (by decide) ?_
          exact ow_iret (ty := .int) (u := []) hx hb hr hlocks rfl hP hD hS [] (by decide) rfl dX9_road_42 (Or.inl ⟨rfl, (by omega), rfl⟩)
        · have z_175 := q_nlt (a := 12) (b := p4.toInt) (by decide) rfl c_175
          refine lv_iload hx hb dX9_road_27 (lv_at hl 5 rfl) ?_
          refine lv_if_lt (tgt := 40) hx hb dX9_road_29 (by decide) (fun c_176 => ?_) (fun c_176 => ?_)
          · have z_176 := q_lt (a := p5.toInt) (b := 0) rfl (by decide) c_176
            refine lv_bipush (v := (-3)) hx hb dX9_road_40 (by decide) ?_
            exact ow_iret (ty := .int) (u := []) hx hb hr hlocks rfl hP hD hS [] (by decide) rfl dX9_road_42 (Or.inl ⟨rfl, (by omega), rfl⟩)
          · have z_176 := q_nlt (a := p5.toInt) (b := 0) rfl (by decide) c_176
            refine lv_iload hx hb dX9_road_32 (lv_at hl 5 rfl) ?_
            refine lv_sipush (v := 1000) hx hb dX9_road_34 (by decide) ?_
            refine lv_icmp_le (tgt := 43) hx hb dX9_road_37 (by decide) (fun c_177 => ?_) (fun c_177 => ?_)
            · have z_177 := q_le (a := p5.toInt) (b := 1000) rfl (by decide) c_177
              refine lv_aload_n hx hb dX9_road_43 rfl (lv_at hl 0 rfl) ?_
              refine va_get (D := D) (ci := 9) (v := .ref h6) (C := RX9) (T := TX9) (N := 9) hx hb hts inlX9 hown hK hP 0 rfl rfl 0 (by decide) (hts _ k_25) (fun _ h9 => h9) rfl dX9_road_44 ?_
              refine va_getN (D := D) (ci := 8) (v := .int 0) (C := RX8) (T := TX8) (N := 4) hx hb hts inlX8 hown hK hP 1 rfl rfl 2 (by decide) (va_Nw.use rfl (hN.1 38 _ rfl)) (fun _ h9 => h9) rfl dX9_road_47 ?_
              refine lv_bipush (v := 10) hx hb dX9_road_50 (by decide) ?_
              refine lv_icmp_lt (tgt := 58) hx hb dX9_road_52 (by decide) (fun _ => ?_) (fun h9 => absurd h9 (by decide))
              refine lv_aload_n hx hb dX9_road_58 rfl (lv_at hl 0 rfl) ?_
              refine va_get (D := D) (ci := 9) (v := .ref h7) (C := RX9) (T := TX9) (N := 9) hx hb hts inlX9 hown hK hP 0 rfl rfl 1 (by decide) (hts _ k_34) (fun _ h9 => h9) rfl dX9_road_59 ?_
              refine lv_aload_n hx hb dX9_road_62 rfl (lv_at hl 0 rfl) ?_
              refine va_get (D := D) (ci := 9) (v := .ref h6) (C := RX9) (T := TX9) (N := 9) hx hb hts inlX9 hown hK hP 0 rfl rfl 0 (by decide) (hts _ k_25) (fun _ h9 => h9) rfl dX9_road_63 ?_
              refine ow_cv (wr := [(h0, .inr (9, [.ref h6, .ref h7, .ref h8, .ref h9, .ref h10, .ref h11, .ref h12, .ref h13, .ref h14])), (h15, .inl (G.2.1, 10, .inr (.inr (.inr (.inr v4))))), (h21, .inr (5, [.int v5, .int v6, .int v7, .int v8, .int v9, .int v10, .int v11, .int v12, .int v13, .ref h22])), (h8, .inr (4, [.ref h23, .ref h24, .ref h25, .ref h26, .ref h27, .int v14]))]) (ow_rVN (rest := []) (n := 1) (iN := 74) (ci := 3) (q := (RX3, TX3, 3)) ⟨hx, hb, hml, hown, hts⟩ (c_X3_keep_0 l D G h7 h6 h17 v1 h18 h19 h20 v2 v3 h15 h16 hk_h17_0) k_133 rfl k_28 k_134 k_135 (by decide +kernel) ⟨Nat.le_of_ble_eq_true rfl, Nat.le_of_ble_eq_true rfl⟩ rfl rfl hN hK hP hD [2, 3, 4, 1] (by decide) rfl rfl rfl rfl hl.1 rfl (Nat.le_of_ble_eq_true rfl) dX9_road_66 ⟨Nat.le_of_ble_eq_true rfl, Nat.le_of_ble_eq_true rfl⟩) hP hD hS hA [2, 3, 4, 1] [0, 5, 6, 7] rfl rfl (by decide) (by decide) (fun u H locs hw hP hD hS => ?_)
              obtain ⟨c_178, rfl⟩ := hw
              have hP : va_P D vwCl [(h0, .inr (9, [.ref h6, .ref h7, .ref h8, .ref h9, .ref h10, .ref h11, .ref h12, .ref h13, .ref h14])), (h15, .inl (G.2.1, 10, .inr (.inr (.inr (.inr v4))))), (h21, .inr (5, [.int v5, .int v6, .int v7, .int v8, .int v9, .int v10, .int v11, .int v12, .int v13, .ref h22])), (h8, .inr (4, [.ref h23, .ref h24, .ref h25, .ref h26, .ref h27, .int v14])), (h7, .inr (3, [.ref h17, .int 1, .int 1])), (h17, .inl (G.2.2.2, 8, .inr (.inr (.inr (.inr v1))))), (h18, .inr (8, [.ref h19, .ref h20, .int 0, .int 0])), (h6, .inr (8, [.ref h15, .ref h16, .int 0, .int 0]))] H := hP
              have hD : va_D A [(h0, .inr (9, [.ref h6, .ref h7, .ref h8, .ref h9, .ref h10, .ref h11, .ref h12, .ref h13, .ref h14])), (h15, .inl (G.2.1, 10, .inr (.inr (.inr (.inr v4))))), (h21, .inr (5, [.int v5, .int v6, .int v7, .int v8, .int v9, .int v10, .int v11, .int v12, .int v13, .ref h22])), (h8, .inr (4, [.ref h23, .ref h24, .ref h25, .ref h26, .ref h27, .int v14])), (h7, .inr (3, [.ref h17, .int 1, .int 1])), (h17, .inl (G.2.2.2, 8, .inr (.inr (.inr (.inr v1))))), (h18, .inr (8, [.ref h19, .ref h20, .int 0, .int 0])), (h6, .inr (8, [.ref h15, .ref h16, .int 0, .int 0]))] := hD
              refine W.widen (k := 0) (n := 0) (Nat.le_of_ble_eq_true rfl) (Nat.le_of_ble_eq_true rfl) ?_
              refine lv_aload_n hx hb dX9_road_69 rfl (lv_at hl 0 rfl) ?_
              refine va_get (D := D) (ci := 9) (v := .ref h6) (C := RX9) (T := TX9) (N := 9) hx hb hts inlX9 hown hK hP 0 rfl rfl 0 (by decide) (hts _ k_25) (fun _ h9 => h9) rfl dX9_road_70 ?_
              refine va_getN (D := D) (ci := 8) (v := .int 0) (C := RX8) (T := TX8) (N := 4) hx hb hts inlX8 hown hK hP 7 rfl rfl 2 (by decide) (va_Nw.use rfl (hN.1 38 _ rfl)) (fun _ h9 => h9) rfl dX9_road_73 ?_
              refine lv_istore (lv' := [(6, .int 0), (0, .ref h0), (1, .int p1), (2, .int p2), (3, .int p3), (4, .int p4), (5, .int p5)]) hx hb dX9_road_76 hl (by decide) rfl (fun ls hl => ?_)
              refine lv_aload_n hx hb dX9_road_78 rfl (lv_at hl 1 rfl) ?_
              refine va_get (D := D) (ci := 9) (v := .ref h6) (C := RX9) (T := TX9) (N := 9) hx hb hts inlX9 hown hK hP 0 rfl rfl 0 (by decide) (hts _ k_25) (fun _ h9 => h9) rfl dX9_road_79 ?_
              refine va_getN (D := D) (ci := 8) (v := .ref h15) (C := RX8) (T := TX8) (N := 4) hx hb hts inlX8 hown hK hP 7 rfl rfl 0 (by decide) (va_Nw.use rfl (hN.1 31 _ rfl)) (fun _ h9 => h9) rfl dX9_road_82 ?_
              refine lv_iload hx hb dX9_road_85 (lv_at hl 0 rfl) ?_
              refine ow_ald (q0 := 1) (t0 := 1) (r := h21) hx hb hK hP rfl rfl (show ¬ ((0 : Int32) < 0 ∨ 10 ≤ (0 : Int32).toNatClampNeg) by decide) hk_h15_0 dX9_road_87 ?_
              refine lv_iload_n hx hb dX9_road_88 rfl (lv_at hl 2 rfl) ?_
              refine lv_iload_n hx hb dX9_road_89 rfl (lv_at hl 3 rfl) ?_
              refine lv_iload_n hx hb dX9_road_90 rfl (lv_at hl 4 rfl) ?_
              refine lv_iload hx hb dX9_road_91 (lv_at hl 5 rfl) ?_
              refine lv_iload hx hb dX9_road_93 (lv_at hl 6 rfl) ?_
              refine ow_cv (wr := [(h0, .inr (9, [.ref h6, .ref h7, .ref h8, .ref h9, .ref h10, .ref h11, .ref h12, .ref h13, .ref h14])), (h15, .inl (G.2.1, 10, .inr (.inr (.inr (.inr v4))))), (h8, .inr (4, [.ref h23, .ref h24, .ref h25, .ref h26, .ref h27, .int v14])), (h7, .inr (3, [.ref h17, .int 1, .int 1])), (h17, .inl (G.2.2.2, 8, .inr (.inr (.inr (.inr v1))))), (h18, .inr (8, [.ref h19, .ref h20, .int 0, .int 0])), (h6, .inr (8, [.ref h15, .ref h16, .int 0, .int 0]))]) (ow_rVN (rest := []) (n := 5) (iN := 78) (ci := 5) (q := (RX5, TX5, 10)) ⟨hx, hb, hml, hown, hts⟩ (c_X5_begin_0 l D G h21 p1 p2 p3 p4 p5 v5 v6 v7 v8 v9 v10 v11 v12 v13 h22) k_145 rfl k_12 k_146 k_147 (by decide +kernel) ⟨Nat.le_of_ble_eq_true rfl, Nat.le_of_ble_eq_true rfl⟩ rfl rfl hN hK hP hD [2] (by decide) rfl rfl rfl rfl hl.1 rfl (Nat.le_of_ble_eq_true rfl) dX9_road_95 ⟨Nat.le_of_ble_eq_true rfl, Nat.le_of_ble_eq_true rfl⟩) hP hD hS hA [2] [0, 1, 3, 4, 5, 6, 7] rfl rfl (by decide) (by decide) (fun u H locs hw hP hD hS => ?_)
              obtain ⟨c_179, rfl⟩ := hw
              have hP : va_P D vwCl [(h0, .inr (9, [.ref h6, .ref h7, .ref h8, .ref h9, .ref h10, .ref h11, .ref h12, .ref h13, .ref h14])), (h15, .inl (G.2.1, 10, .inr (.inr (.inr (.inr v4))))), (h8, .inr (4, [.ref h23, .ref h24, .ref h25, .ref h26, .ref h27, .int v14])), (h7, .inr (3, [.ref h17, .int 1, .int 1])), (h17, .inl (G.2.2.2, 8, .inr (.inr (.inr (.inr v1))))), (h18, .inr (8, [.ref h19, .ref h20, .int 0, .int 0])), (h6, .inr (8, [.ref h15, .ref h16, .int 0, .int 0])), (h21, .inr (5, [.int p1, .int p2, .int p3, .int p4, .int p5, .int 0, .int 1, .int 0, .int (-1), .ref h22]))] H := hP
              have hD : va_D A [(h0, .inr (9, [.ref h6, .ref h7, .ref h8, .ref h9, .ref h10, .ref h11, .ref h12, .ref h13, .ref h14])), (h15, .inl (G.2.1, 10, .inr (.inr (.inr (.inr v4))))), (h8, .inr (4, [.ref h23, .ref h24, .ref h25, .ref h26, .ref h27, .int v14])), (h7, .inr (3, [.ref h17, .int 1, .int 1])), (h17, .inl (G.2.2.2, 8, .inr (.inr (.inr (.inr v1))))), (h18, .inr (8, [.ref h19, .ref h20, .int 0, .int 0])), (h6, .inr (8, [.ref h15, .ref h16, .int 0, .int 0])), (h21, .inr (5, [.int p1, .int p2, .int p3, .int p4, .int p5, .int 0, .int 1, .int 0, .int (-1), .ref h22]))] := hD
              refine W.widen (k := 0) (n := 0) (Nat.le_of_ble_eq_true rfl) (Nat.le_of_ble_eq_true rfl) ?_
              refine lv_aload_n hx hb dX9_road_98 rfl (lv_at hl 1 rfl) ?_
              refine va_get (D := D) (ci := 9) (v := .ref h6) (C := RX9) (T := TX9) (N := 9) hx hb hts inlX9 hown hK hP 0 rfl rfl 0 (by decide) (hts _ k_25) (fun _ h9 => h9) rfl dX9_road_99 ?_
              refine lv_iload hx hb dX9_road_102 (lv_at hl 0 rfl) ?_
              refine lv_iconst (v := 1) hx hb dX9_road_104 (by decide) ?_
              refine lv_iadd hx hb dX9_road_105 ?_
              refine ow_i (y := 1) (by decide) ?_
              refine va_putN (D := D) (ci := 8) (v := .int 1) (ty := .int) (C := RX8) (T := TX8) (N := 4) hx hb hts inlX8 tyX8 tyX8_ok nmX8 hown hK hP hD hS 6 rfl rfl 2 (by decide) (va_Nw.use rfl (hN.1 38 _ rfl)) (fun _ h9 => h9) rfl (tyX8_ok 2 (by decide)) rfl rfl (Nat.le_of_ble_eq_true rfl) dX9_road_106 (fun H locs hP hD hS => ?_)
              have hP : va_P D vwCl [(h0, .inr (9, [.ref h6, .ref h7, .ref h8, .ref h9, .ref h10, .ref h11, .ref h12, .ref h13, .ref h14])), (h15, .inl (G.2.1, 10, .inr (.inr (.inr (.inr v4))))), (h8, .inr (4, [.ref h23, .ref h24, .ref h25, .ref h26, .ref h27, .int v14])), (h7, .inr (3, [.ref h17, .int 1, .int 1])), (h17, .inl (G.2.2.2, 8, .inr (.inr (.inr (.inr v1))))), (h18, .inr (8, [.ref h19, .ref h20, .int 0, .int 0])), (h6, .inr (8, [.ref h15, .ref h16, .int 1, .int 0])), (h21, .inr (5, [.int p1, .int p2, .int p3, .int p4, .int p5, .int 0, .int 1, .int 0, .int (-1), .ref h22]))] H := hP
              have hD : va_D A [(h0, .inr (9, [.ref h6, .ref h7, .ref h8, .ref h9, .ref h10, .ref h11, .ref h12, .ref h13, .ref h14])), (h15, .inl (G.2.1, 10, .inr (.inr (.inr (.inr v4))))), (h8, .inr (4, [.ref h23, .ref h24, .ref h25, .ref h26, .ref h27, .int v14])), (h7, .inr (3, [.ref h17, .int 1, .int 1])), (h17, .inl (G.2.2.2, 8, .inr (.inr (.inr (.inr v1))))), (h18, .inr (8, [.ref h19, .ref h20, .int 0, .int 0])), (h6, .inr (8, [.ref h15, .ref h16, .int 1, .int 0])), (h21, .inr (5, [.int p1, .int p2, .int p3, .int p4, .int p5, .int 0, .int 1, .int 0, .int (-1), .ref h22]))] := hD
              refine lv_aload_n hx hb dX9_road_109 rfl (lv_at hl 1 rfl) ?_
              refine ow_cv (wr := [(h15, .inl (G.2.1, 10, .inr (.inr (.inr (.inr v4))))), (h7, .inr (3, [.ref h17, .int 1, .int 1])), (h17, .inl (G.2.2.2, 8, .inr (.inr (.inr (.inr v1))))), (h18, .inr (8, [.ref h19, .ref h20, .int 0, .int 0])), (h21, .inr (5, [.int p1, .int p2, .int p3, .int p4, .int p5, .int 0, .int 1, .int 0, .int (-1), .ref h22]))]) (ow_rV (rest := []) (n := 0) (ci := 9) (q := (RX9, TX9, 9)) ⟨hx, hb, hml, hown, hts⟩ (c_X9_roadsHaveChanged_0 l D G h0 h6 h7 h8 h9 h10 h11 h12 h13 h14 h15 h16 1 h23 h24 h25 h26 h27 v14) k_153 k_152 k_117 k_154 k_155 (by decide +kernel) ⟨Nat.le_of_ble_eq_true rfl, Nat.le_of_ble_eq_true rfl⟩ rfl rfl hN hK hP hD [0, 6, 2] (by decide) rfl rfl rfl rfl hl.1 rfl (Nat.le_of_ble_eq_true rfl) dX9_road_110 ⟨Nat.le_of_ble_eq_true rfl, Nat.le_of_ble_eq_true rfl⟩) hP hD hS hA [0, 6, 2] [1, 3, 4, 5, 7] rfl rfl (by decide) (by decide) (fun u H locs hw hP hD hS => ?_)
              obtain ⟨c_180, rfl⟩ := hw
              have hP : va_P D vwCl [(h15, .inl (G.2.1, 10, .inr (.inr (.inr (.inr v4))))), (h7, .inr (3, [.ref h17, .int 1, .int 1])), (h17, .inl (G.2.2.2, 8, .inr (.inr (.inr (.inr v1))))), (h18, .inr (8, [.ref h19, .ref h20, .int 0, .int 0])), (h21, .inr (5, [.int p1, .int p2, .int p3, .int p4, .int p5, .int 0, .int 1, .int 0, .int (-1), .ref h22])), (h0, .inr (9, [.ref h6, .ref h7, .ref h8, .ref h9, .ref h10, .ref h11, .ref h12, .ref h13, .ref h14])), (h8, .inr (4, [.ref h23, .ref h24, .ref h25, .ref h26, .ref h27, .int 0])), (h6, .inr (8, [.ref h15, .ref h16, .int 1, .int 0]))] H := hP
              have hD : va_D A [(h15, .inl (G.2.1, 10, .inr (.inr (.inr (.inr v4))))), (h7, .inr (3, [.ref h17, .int 1, .int 1])), (h17, .inl (G.2.2.2, 8, .inr (.inr (.inr (.inr v1))))), (h18, .inr (8, [.ref h19, .ref h20, .int 0, .int 0])), (h21, .inr (5, [.int p1, .int p2, .int p3, .int p4, .int p5, .int 0, .int 1, .int 0, .int (-1), .ref h22])), (h0, .inr (9, [.ref h6, .ref h7, .ref h8, .ref h9, .ref h10, .ref h11, .ref h12, .ref h13, .ref h14])), (h8, .inr (4, [.ref h23, .ref h24, .ref h25, .ref h26, .ref h27, .int 0])), (h6, .inr (8, [.ref h15, .ref h16, .int 1, .int 0]))] := hD
              refine W.widen (k := 0) (n := 0) (Nat.le_of_ble_eq_true rfl) (Nat.le_of_ble_eq_true rfl) ?_
              refine lv_iload hx hb dX9_road_113 (lv_at hl 0 rfl) ?_
              exact ow_iret (ty := .int) (u := []) hx hb hr hlocks rfl hP hD hS [] (by decide) rfl dX9_road_115 (Or.inr (⟨rfl, (by omega), rfl⟩))
            · have z_177 := q_nle (a := p5.toInt) (b := 1000) rfl (by decide) c_177
              refine lv_bipush (v := (-3)) hx hb dX9_road_40 (by decide) ?_
              exact ow_iret (ty := .int) (u := []) hx hb hr hlocks rfl hP hD hS [] (by decide) rfl dX9_road_42 (Or.inl ⟨rfl, (by omega), rfl⟩)
set_option maxHeartbeats 4000000 in
set_option maxRecDepth 100000 in
theorem c_X8_roadAt_0 (l : Launch) (D : va_G) (G : ow_C) (h0 : Nat) (p1 : Int32) (h2 : Nat) (h3 : Nat) (v1 : Int32) : ow_M l D G yX8_roadAt cX8_roadAt 2 (some (.object "SelfishTown$Road")) ({ frames := 1, cells := 0, slots := 0, locals := 64 } : Room) [.ref h0, .int p1] [(h0, .inr (8, [.ref h2, .ref h3, .int 0, .int v1]))] (ow_N D (fun u => (True ∧ u = [(h0, .inr (8, [.ref h2, .ref h3, .int 0, .int v1]))]))) 0 0 := by
  refine ow_met (by decide) (Nat.le_of_ble_eq_true rfl) ?_
  intro p e s m args below meth c A ls hE hl
  obtain ⟨hx, hb, hr, hml, hown, hlocks, hnm, hts, hN, hK, hP, hD, hA, hS⟩ := id hE
  have hown : s.vm.findClass RX8 = some m.cls := hown
  have hP : va_P D vwCl [(h0, .inr (8, [.ref h2, .ref h3, .int 0, .int v1]))] s.heap := hP
  have hD : va_D A [(h0, .inr (8, [.ref h2, .ref h3, .int 0, .int v1]))] := hD
  have hl : lv_has ls 2 [(0, .ref h0), (1, .int p1)] := hl
  refine lv_iload_n hx hb dX8_roadAt_0 rfl (lv_at hl 1 rfl) ?_
  refine lv_if_lt (tgt := 21) hx hb dX8_roadAt_1 (by decide) (fun c_181 => ?_) (fun c_181 => ?_)
  · have z_181 := q_lt (a := p1.toInt) (b := 0) rfl (by decide) c_181
    refine lv_null hx hb dX8_roadAt_21 ?_
    exact ow_nret (u := [(h0, .inr (8, [.ref h2, .ref h3, .int 0, .int v1]))]) hx hb hr hlocks hP hD hS [0] (by decide) rfl dX8_roadAt_22 ⟨trivial, rfl⟩
  · have z_181 := q_nlt (a := p1.toInt) (b := 0) rfl (by decide) c_181
    refine lv_iload_n hx hb dX8_roadAt_4 rfl (lv_at hl 1 rfl) ?_
    refine lv_aload_n hx hb dX8_roadAt_5 rfl (lv_at hl 0 rfl) ?_
    refine va_get (D := D) (ci := 8) (v := .int 0) (C := RX8) (T := TX8) (N := 4) hx hb hts inlX8 hown hK hP 0 rfl rfl 2 (by decide) (hts _ k_123) (fun _ h9 => h9) rfl dX8_roadAt_6 ?_
    refine lv_icmp_ge (tgt := 21) hx hb dX8_roadAt_9 (by decide) (fun c_182 => ?_) (fun c_182 => by exfalso; have z_182 := q_nle (a := 0) (b := p1.toInt) (by decide) rfl c_182; omega)
    have z_182 := q_le (a := 0) (b := p1.toInt) (by decide) rfl c_182
    refine lv_null hx hb dX8_roadAt_21 ?_
    exact ow_nret (u := [(h0, .inr (8, [.ref h2, .ref h3, .int 0, .int v1]))]) hx hb hr hlocks hP hD hS [0] (by decide) rfl dX8_roadAt_22 ⟨trivial, rfl⟩
set_option maxHeartbeats 4000000 in
set_option maxRecDepth 100000 in
theorem c_X9_open_0 (l : Launch) (D : va_G) (G : ow_C) (h0 : Nat) (p1 : Int32) (p2 : Int32) (h3 : Nat) (h4 : Nat) (h5 : Nat) (h6 : Nat) (h7 : Nat) (h8 : Nat) (h9 : Nat) (h10 : Nat) (h11 : Nat) (h12 : Nat) (h13 : Nat) (v1 : Int32) : ow_M l D G yX9_open cX9_open 5 (some .int) ({ frames := 2, cells := 0, slots := 0, locals := 85 } : Room) [.ref h0, .int p1, .int p2] [(h0, .inr (9, [.ref h3, .ref h4, .ref h5, .ref h6, .ref h7, .ref h8, .ref h9, .ref h10, .ref h11])), (h3, .inr (8, [.ref h12, .ref h13, .int 0, .int v1]))] (ow_I D (fun r u => (r = (-3) ∧ True ∧ u = []))) 0 0 := by
  refine ow_met (by decide) (Nat.le_of_ble_eq_true rfl) ?_
  intro p e s m args below meth c A ls hE hl
  obtain ⟨hx, hb, hr, hml, hown, hlocks, hnm, hts, hN, hK, hP, hD, hA, hS⟩ := id hE
  have hown : s.vm.findClass RX9 = some m.cls := hown
  have hP : va_P D vwCl [(h0, .inr (9, [.ref h3, .ref h4, .ref h5, .ref h6, .ref h7, .ref h8, .ref h9, .ref h10, .ref h11])), (h3, .inr (8, [.ref h12, .ref h13, .int 0, .int v1]))] s.heap := hP
  have hD : va_D A [(h0, .inr (9, [.ref h3, .ref h4, .ref h5, .ref h6, .ref h7, .ref h8, .ref h9, .ref h10, .ref h11])), (h3, .inr (8, [.ref h12, .ref h13, .int 0, .int v1]))] := hD
  have hl : lv_has ls 5 [(0, .ref h0), (1, .int p1), (2, .int p2)] := hl
  refine lv_aload_n hx hb dX9_open_0 rfl (lv_at hl 0 rfl) ?_
  refine va_get (D := D) (ci := 9) (v := .ref h3) (C := RX9) (T := TX9) (N := 9) hx hb hts inlX9 hown hK hP 0 rfl rfl 0 (by decide) (hts _ k_25) (fun _ h9 => h9) rfl dX9_open_1 ?_
  refine lv_iload_n hx hb dX9_open_4 rfl (lv_at hl 1 rfl) ?_
  refine ow_cn (wr := [(h0, .inr (9, [.ref h3, .ref h4, .ref h5, .ref h6, .ref h7, .ref h8, .ref h9, .ref h10, .ref h11]))]) (ow_rVN (rest := []) (n := 1) (iN := 81) (ci := 8) (q := (RX8, TX8, 4)) ⟨hx, hb, hml, hown, hts⟩ (c_X8_roadAt_0 l D G h3 p1 h12 h13 v1) k_156 rfl k_5 k_157 k_158 (by decide +kernel) ⟨Nat.le_of_ble_eq_true rfl, Nat.le_of_ble_eq_true rfl⟩ rfl rfl hN hK hP hD [1] (by decide) rfl rfl rfl rfl hl.1 rfl (Nat.le_of_ble_eq_true rfl) dX9_open_5 ⟨Nat.le_of_ble_eq_true rfl, Nat.le_of_ble_eq_true rfl⟩) hP hD hS hA [1] [0] rfl rfl (by decide) (by decide) (fun u H locs hw hP hD hS => ?_)
  obtain ⟨c_181, rfl⟩ := hw
  have hP : va_P D vwCl [(h0, .inr (9, [.ref h3, .ref h4, .ref h5, .ref h6, .ref h7, .ref h8, .ref h9, .ref h10, .ref h11])), (h3, .inr (8, [.ref h12, .ref h13, .int 0, .int v1]))] H := hP
  have hD : va_D A [(h0, .inr (9, [.ref h3, .ref h4, .ref h5, .ref h6, .ref h7, .ref h8, .ref h9, .ref h10, .ref h11])), (h3, .inr (8, [.ref h12, .ref h13, .int 0, .int v1]))] := hD
  refine W.widen (k := 0) (n := 0) (Nat.le_of_ble_eq_true rfl) (Nat.le_of_ble_eq_true rfl) ?_
  refine lv_astore_nN (lv' := [(3, .null), (0, .ref h0), (1, .int p1), (2, .int p2)]) hx hb dX9_open_8 rfl hl (by decide) rfl (fun ls hl => ?_)
  refine lv_aload_nN hx hb dX9_open_9 rfl (lv_at hl 0 rfl) ?_
  refine lv_ifnullN (tgt := 20) hx hb dX9_open_10 (by decide) ?_
  refine lv_bipush (v := (-3)) hx hb dX9_open_20 (by decide) ?_
  exact ow_iret (ty := .int) (u := []) hx hb hr hlocks rfl hP hD hS [] (by decide) rfl dX9_open_22 ⟨rfl, trivial, rfl⟩
set_option maxHeartbeats 4000000 in
set_option maxRecDepth 100000 in
theorem c_X9_table_0 (l : Launch) (D : va_G) (G : ow_C) (h0 : Nat) (p1 : Int32) (p2 : Int32) (p3 : Int32) (h4 : Nat) (h5 : Nat) (h6 : Nat) (h7 : Nat) (h8 : Nat) (h9 : Nat) (h10 : Nat) (h11 : Nat) (h12 : Nat) (h13 : Nat) (h14 : Nat) (v1 : Int32) : ow_M l D G yX9_table cX9_table 5 (some .int) ({ frames := 2, cells := 0, slots := 0, locals := 85 } : Room) [.ref h0, .int p1, .int p2, .int p3] [(h0, .inr (9, [.ref h4, .ref h5, .ref h6, .ref h7, .ref h8, .ref h9, .ref h10, .ref h11, .ref h12])), (h4, .inr (8, [.ref h13, .ref h14, .int 0, .int v1]))] (ow_I D (fun r u => (r = (-3) ∧ True ∧ u = []))) 0 0 := by
  refine ow_met (by decide) (Nat.le_of_ble_eq_true rfl) ?_
  intro p e s m args below meth c A ls hE hl
  obtain ⟨hx, hb, hr, hml, hown, hlocks, hnm, hts, hN, hK, hP, hD, hA, hS⟩ := id hE
  have hown : s.vm.findClass RX9 = some m.cls := hown
  have hP : va_P D vwCl [(h0, .inr (9, [.ref h4, .ref h5, .ref h6, .ref h7, .ref h8, .ref h9, .ref h10, .ref h11, .ref h12])), (h4, .inr (8, [.ref h13, .ref h14, .int 0, .int v1]))] s.heap := hP
  have hD : va_D A [(h0, .inr (9, [.ref h4, .ref h5, .ref h6, .ref h7, .ref h8, .ref h9, .ref h10, .ref h11, .ref h12])), (h4, .inr (8, [.ref h13, .ref h14, .int 0, .int v1]))] := hD
  have hl : lv_has ls 5 [(0, .ref h0), (1, .int p1), (2, .int p2), (3, .int p3)] := hl
  refine lv_aload_n hx hb dX9_table_0 rfl (lv_at hl 0 rfl) ?_
  refine va_get (D := D) (ci := 9) (v := .ref h4) (C := RX9) (T := TX9) (N := 9) hx hb hts inlX9 hown hK hP 0 rfl rfl 0 (by decide) (hts _ k_25) (fun _ h9 => h9) rfl dX9_table_1 ?_
  refine lv_iload_n hx hb dX9_table_4 rfl (lv_at hl 1 rfl) ?_
  refine ow_cn (wr := [(h0, .inr (9, [.ref h4, .ref h5, .ref h6, .ref h7, .ref h8, .ref h9, .ref h10, .ref h11, .ref h12]))]) (ow_rVN (rest := []) (n := 1) (iN := 81) (ci := 8) (q := (RX8, TX8, 4)) ⟨hx, hb, hml, hown, hts⟩ (c_X8_roadAt_0 l D G h4 p1 h13 h14 v1) k_156 rfl k_5 k_157 k_158 (by decide +kernel) ⟨Nat.le_of_ble_eq_true rfl, Nat.le_of_ble_eq_true rfl⟩ rfl rfl hN hK hP hD [1] (by decide) rfl rfl rfl rfl hl.1 rfl (Nat.le_of_ble_eq_true rfl) dX9_table_5 ⟨Nat.le_of_ble_eq_true rfl, Nat.le_of_ble_eq_true rfl⟩) hP hD hS hA [1] [0] rfl rfl (by decide) (by decide) (fun u H locs hw hP hD hS => ?_)
  obtain ⟨c_182, rfl⟩ := hw
  have hP : va_P D vwCl [(h0, .inr (9, [.ref h4, .ref h5, .ref h6, .ref h7, .ref h8, .ref h9, .ref h10, .ref h11, .ref h12])), (h4, .inr (8, [.ref h13, .ref h14, .int 0, .int v1]))] H := hP
  have hD : va_D A [(h0, .inr (9, [.ref h4, .ref h5, .ref h6, .ref h7, .ref h8, .ref h9, .ref h10, .ref h11, .ref h12])), (h4, .inr (8, [.ref h13, .ref h14, .int 0, .int v1]))] := hD
  refine W.widen (k := 0) (n := 0) (Nat.le_of_ble_eq_true rfl) (Nat.le_of_ble_eq_true rfl) ?_
  refine lv_astoreN (lv' := [(4, .null), (0, .ref h0), (1, .int p1), (2, .int p2), (3, .int p3)]) hx hb dX9_table_8 hl (by decide) rfl (fun ls hl => ?_)
  refine lv_aloadN hx hb dX9_table_10 (lv_at hl 0 rfl) ?_
  refine lv_ifnullN (tgt := 33) hx hb dX9_table_12 (by decide) ?_
  refine lv_bipush (v := (-3)) hx hb dX9_table_33 (by decide) ?_
  exact ow_iret (ty := .int) (u := []) hx hb hr hlocks rfl hP hD hS [] (by decide) rfl dX9_table_35 ⟨rfl, trivial, rfl⟩
set_option maxHeartbeats 4000000 in
set_option maxRecDepth 100000 in
theorem c_X9_enter_0 (l : Launch) (D : va_G) (G : ow_C) (h0 : Nat) (p1 : Int32) (p2 : Int32) (p3 : Int32) (h4 : Nat) (h5 : Nat) (h6 : Nat) (h7 : Nat) (h8 : Nat) (h9 : Nat) (h10 : Nat) (h11 : Nat) (h12 : Nat) (h13 : Nat) (h14 : Nat) (v1 : Int32) : ow_M l D G yX9_enter cX9_enter 6 (some .int) ({ frames := 2, cells := 0, slots := 0, locals := 85 } : Room) [.ref h0, .int p1, .int p2, .int p3] [(h0, .inr (9, [.ref h4, .ref h5, .ref h6, .ref h7, .ref h8, .ref h9, .ref h10, .ref h11, .ref h12])), (h4, .inr (8, [.ref h13, .ref h14, .int 0, .int v1]))] (ow_I D (fun r u => (r = (-3) ∧ True ∧ u = []))) 0 0 := by
  refine ow_met (by decide) (Nat.le_of_ble_eq_true rfl) ?_
  intro p e s m args below meth c A ls hE hl
  obtain ⟨hx, hb, hr, hml, hown, hlocks, hnm, hts, hN, hK, hP, hD, hA, hS⟩ := id hE
  have hown : s.vm.findClass RX9 = some m.cls := hown
  have hP : va_P D vwCl [(h0, .inr (9, [.ref h4, .ref h5, .ref h6, .ref h7, .ref h8, .ref h9, .ref h10, .ref h11, .ref h12])), (h4, .inr (8, [.ref h13, .ref h14, .int 0, .int v1]))] s.heap := hP
  have hD : va_D A [(h0, .inr (9, [.ref h4, .ref h5, .ref h6, .ref h7, .ref h8, .ref h9, .ref h10, .ref h11, .ref h12])), (h4, .inr (8, [.ref h13, .ref h14, .int 0, .int v1]))] := hD
  have hl : lv_has ls 6 [(0, .ref h0), (1, .int p1), (2, .int p2), (3, .int p3)] := hl
  refine lv_aload_n hx hb dX9_enter_0 rfl (lv_at hl 0 rfl) ?_
  refine va_get (D := D) (ci := 9) (v := .ref h4) (C := RX9) (T := TX9) (N := 9) hx hb hts inlX9 hown hK hP 0 rfl rfl 0 (by decide) (hts _ k_25) (fun _ h9 => h9) rfl dX9_enter_1 ?_
  refine lv_iload_n hx hb dX9_enter_4 rfl (lv_at hl 1 rfl) ?_
  refine ow_cn (wr := [(h0, .inr (9, [.ref h4, .ref h5, .ref h6, .ref h7, .ref h8, .ref h9, .ref h10, .ref h11, .ref h12]))]) (ow_rVN (rest := []) (n := 1) (iN := 81) (ci := 8) (q := (RX8, TX8, 4)) ⟨hx, hb, hml, hown, hts⟩ (c_X8_roadAt_0 l D G h4 p1 h13 h14 v1) k_156 rfl k_5 k_157 k_158 (by decide +kernel) ⟨Nat.le_of_ble_eq_true rfl, Nat.le_of_ble_eq_true rfl⟩ rfl rfl hN hK hP hD [1] (by decide) rfl rfl rfl rfl hl.1 rfl (Nat.le_of_ble_eq_true rfl) dX9_enter_5 ⟨Nat.le_of_ble_eq_true rfl, Nat.le_of_ble_eq_true rfl⟩) hP hD hS hA [1] [0] rfl rfl (by decide) (by decide) (fun u H locs hw hP hD hS => ?_)
  obtain ⟨c_183, rfl⟩ := hw
  have hP : va_P D vwCl [(h0, .inr (9, [.ref h4, .ref h5, .ref h6, .ref h7, .ref h8, .ref h9, .ref h10, .ref h11, .ref h12])), (h4, .inr (8, [.ref h13, .ref h14, .int 0, .int v1]))] H := hP
  have hD : va_D A [(h0, .inr (9, [.ref h4, .ref h5, .ref h6, .ref h7, .ref h8, .ref h9, .ref h10, .ref h11, .ref h12])), (h4, .inr (8, [.ref h13, .ref h14, .int 0, .int v1]))] := hD
  refine W.widen (k := 0) (n := 0) (Nat.le_of_ble_eq_true rfl) (Nat.le_of_ble_eq_true rfl) ?_
  refine lv_astoreN (lv' := [(4, .null), (0, .ref h0), (1, .int p1), (2, .int p2), (3, .int p3)]) hx hb dX9_enter_8 hl (by decide) rfl (fun ls hl => ?_)
  refine lv_aloadN hx hb dX9_enter_10 (lv_at hl 0 rfl) ?_
  refine lv_ifnonnullN hx hb dX9_enter_12 ?_
  refine lv_bipush (v := (-3)) hx hb dX9_enter_15 (by decide) ?_
  exact ow_iret (ty := .int) (u := []) hx hb hr hlocks rfl hP hD hS [] (by decide) rfl dX9_enter_17 ⟨rfl, trivial, rfl⟩
set_option maxHeartbeats 4000000 in
set_option maxRecDepth 100000 in
theorem c_X9_copy_0 (l : Launch) (D : va_G) (G : ow_C) (h0 : Nat) (p1 : Int32) (p2 : Int32) (p3 : Int32) (h4 : Nat) (h5 : Nat) (h6 : Nat) (h7 : Nat) (h8 : Nat) (h9 : Nat) (h10 : Nat) (h11 : Nat) (h12 : Nat) (h13 : Nat) (h14 : Nat) (v1 : Int32) : ow_M l D G yX9_copy cX9_copy 6 (some .int) ({ frames := 2, cells := 0, slots := 0, locals := 85 } : Room) [.ref h0, .int p1, .int p2, .int p3] [(h0, .inr (9, [.ref h4, .ref h5, .ref h6, .ref h7, .ref h8, .ref h9, .ref h10, .ref h11, .ref h12])), (h4, .inr (8, [.ref h13, .ref h14, .int 0, .int v1]))] (ow_I D (fun r u => (r = (-3) ∧ True ∧ u = []))) 0 0 := by
  refine ow_met (by decide) (Nat.le_of_ble_eq_true rfl) ?_
  intro p e s m args below meth c A ls hE hl
  obtain ⟨hx, hb, hr, hml, hown, hlocks, hnm, hts, hN, hK, hP, hD, hA, hS⟩ := id hE
  have hown : s.vm.findClass RX9 = some m.cls := hown
  have hP : va_P D vwCl [(h0, .inr (9, [.ref h4, .ref h5, .ref h6, .ref h7, .ref h8, .ref h9, .ref h10, .ref h11, .ref h12])), (h4, .inr (8, [.ref h13, .ref h14, .int 0, .int v1]))] s.heap := hP
  have hD : va_D A [(h0, .inr (9, [.ref h4, .ref h5, .ref h6, .ref h7, .ref h8, .ref h9, .ref h10, .ref h11, .ref h12])), (h4, .inr (8, [.ref h13, .ref h14, .int 0, .int v1]))] := hD
  have hl : lv_has ls 6 [(0, .ref h0), (1, .int p1), (2, .int p2), (3, .int p3)] := hl
  refine lv_aload_n hx hb dX9_copy_0 rfl (lv_at hl 0 rfl) ?_
  refine va_get (D := D) (ci := 9) (v := .ref h4) (C := RX9) (T := TX9) (N := 9) hx hb hts inlX9 hown hK hP 0 rfl rfl 0 (by decide) (hts _ k_25) (fun _ h9 => h9) rfl dX9_copy_1 ?_
  refine lv_iload_n hx hb dX9_copy_4 rfl (lv_at hl 1 rfl) ?_
  refine ow_cn (wr := [(h0, .inr (9, [.ref h4, .ref h5, .ref h6, .ref h7, .ref h8, .ref h9, .ref h10, .ref h11, .ref h12]))]) (ow_rVN (rest := []) (n := 1) (iN := 81) (ci := 8) (q := (RX8, TX8, 4)) ⟨hx, hb, hml, hown, hts⟩ (c_X8_roadAt_0 l D G h4 p1 h13 h14 v1) k_156 rfl k_5 k_157 k_158 (by decide +kernel) ⟨Nat.le_of_ble_eq_true rfl, Nat.le_of_ble_eq_true rfl⟩ rfl rfl hN hK hP hD [1] (by decide) rfl rfl rfl rfl hl.1 rfl (Nat.le_of_ble_eq_true rfl) dX9_copy_5 ⟨Nat.le_of_ble_eq_true rfl, Nat.le_of_ble_eq_true rfl⟩) hP hD hS hA [1] [0] rfl rfl (by decide) (by decide) (fun u H locs hw hP hD hS => ?_)
  obtain ⟨c_184, rfl⟩ := hw
  have hP : va_P D vwCl [(h0, .inr (9, [.ref h4, .ref h5, .ref h6, .ref h7, .ref h8, .ref h9, .ref h10, .ref h11, .ref h12])), (h4, .inr (8, [.ref h13, .ref h14, .int 0, .int v1]))] H := hP
  have hD : va_D A [(h0, .inr (9, [.ref h4, .ref h5, .ref h6, .ref h7, .ref h8, .ref h9, .ref h10, .ref h11, .ref h12])), (h4, .inr (8, [.ref h13, .ref h14, .int 0, .int v1]))] := hD
  refine W.widen (k := 0) (n := 0) (Nat.le_of_ble_eq_true rfl) (Nat.le_of_ble_eq_true rfl) ?_
  refine lv_astoreN (lv' := [(4, .null), (0, .ref h0), (1, .int p1), (2, .int p2), (3, .int p3)]) hx hb dX9_copy_8 hl (by decide) rfl (fun ls hl => ?_)
  refine lv_aload_n hx hb dX9_copy_10 rfl (lv_at hl 1 rfl) ?_
  refine va_get (D := D) (ci := 9) (v := .ref h4) (C := RX9) (T := TX9) (N := 9) hx hb hts inlX9 hown hK hP 0 rfl rfl 0 (by decide) (hts _ k_25) (fun _ h9 => h9) rfl dX9_copy_11 ?_
  refine lv_iload_n hx hb dX9_copy_14 rfl (lv_at hl 3 rfl) ?_
  refine ow_cn (wr := [(h0, .inr (9, [.ref h4, .ref h5, .ref h6, .ref h7, .ref h8, .ref h9, .ref h10, .ref h11, .ref h12]))]) (ow_rVN (rest := []) (n := 1) (iN := 81) (ci := 8) (q := (RX8, TX8, 4)) ⟨hx, hb, hml, hown, hts⟩ (c_X8_roadAt_0 l D G h4 p2 h13 h14 v1) k_156 rfl k_5 k_157 k_158 (by decide +kernel) ⟨Nat.le_of_ble_eq_true rfl, Nat.le_of_ble_eq_true rfl⟩ rfl rfl hN hK hP hD [1] (by decide) rfl rfl rfl rfl hl.1 rfl (Nat.le_of_ble_eq_true rfl) dX9_copy_15 ⟨Nat.le_of_ble_eq_true rfl, Nat.le_of_ble_eq_true rfl⟩) hP hD hS hA [1] [0] rfl rfl (by decide) (by decide) (fun u H locs hw hP hD hS => ?_)
  obtain ⟨c_185, rfl⟩ := hw
  have hP : va_P D vwCl [(h0, .inr (9, [.ref h4, .ref h5, .ref h6, .ref h7, .ref h8, .ref h9, .ref h10, .ref h11, .ref h12])), (h4, .inr (8, [.ref h13, .ref h14, .int 0, .int v1]))] H := hP
  have hD : va_D A [(h0, .inr (9, [.ref h4, .ref h5, .ref h6, .ref h7, .ref h8, .ref h9, .ref h10, .ref h11, .ref h12])), (h4, .inr (8, [.ref h13, .ref h14, .int 0, .int v1]))] := hD
  refine W.widen (k := 0) (n := 0) (Nat.le_of_ble_eq_true rfl) (Nat.le_of_ble_eq_true rfl) ?_
  refine lv_astoreN (lv' := [(5, .null), (4, .null), (0, .ref h0), (1, .int p1), (2, .int p2), (3, .int p3)]) hx hb dX9_copy_18 hl (by decide) rfl (fun ls hl => ?_)
  refine lv_aloadN hx hb dX9_copy_20 (lv_at hl 1 rfl) ?_
  refine lv_ifnullN (tgt := 30) hx hb dX9_copy_22 (by decide) ?_
  refine lv_bipush (v := (-3)) hx hb dX9_copy_30 (by decide) ?_
  exact ow_iret (ty := .int) (u := []) hx hb hr hlocks rfl hP hD hS [] (by decide) rfl dX9_copy_32 ⟨rfl, trivial, rfl⟩
set_option maxHeartbeats 4000000 in
set_option maxRecDepth 100000 in
theorem c_X9_toll_0 (l : Launch) (D : va_G) (G : ow_C) (h0 : Nat) (p1 : Int32) (p2 : Int32) (h3 : Nat) (h4 : Nat) (h5 : Nat) (h6 : Nat) (h7 : Nat) (h8 : Nat) (h9 : Nat) (h10 : Nat) (h11 : Nat) (h12 : Nat) (h13 : Nat) (v1 : Int32) : ow_M l D G yX9_toll cX9_toll 5 (some .int) ({ frames := 2, cells := 0, slots := 0, locals := 85 } : Room) [.ref h0, .int p1, .int p2] [(h0, .inr (9, [.ref h3, .ref h4, .ref h5, .ref h6, .ref h7, .ref h8, .ref h9, .ref h10, .ref h11])), (h3, .inr (8, [.ref h12, .ref h13, .int 0, .int v1]))] (ow_I D (fun r u => (r = (-3) ∧ True ∧ u = []))) 0 0 := by
  refine ow_met (by decide) (Nat.le_of_ble_eq_true rfl) ?_
  intro p e s m args below meth c A ls hE hl
  obtain ⟨hx, hb, hr, hml, hown, hlocks, hnm, hts, hN, hK, hP, hD, hA, hS⟩ := id hE
  have hown : s.vm.findClass RX9 = some m.cls := hown
  have hP : va_P D vwCl [(h0, .inr (9, [.ref h3, .ref h4, .ref h5, .ref h6, .ref h7, .ref h8, .ref h9, .ref h10, .ref h11])), (h3, .inr (8, [.ref h12, .ref h13, .int 0, .int v1]))] s.heap := hP
  have hD : va_D A [(h0, .inr (9, [.ref h3, .ref h4, .ref h5, .ref h6, .ref h7, .ref h8, .ref h9, .ref h10, .ref h11])), (h3, .inr (8, [.ref h12, .ref h13, .int 0, .int v1]))] := hD
  have hl : lv_has ls 5 [(0, .ref h0), (1, .int p1), (2, .int p2)] := hl
  refine lv_aload_n hx hb dX9_toll_0 rfl (lv_at hl 0 rfl) ?_
  refine va_get (D := D) (ci := 9) (v := .ref h3) (C := RX9) (T := TX9) (N := 9) hx hb hts inlX9 hown hK hP 0 rfl rfl 0 (by decide) (hts _ k_25) (fun _ h9 => h9) rfl dX9_toll_1 ?_
  refine lv_iload_n hx hb dX9_toll_4 rfl (lv_at hl 1 rfl) ?_
  refine ow_cn (wr := [(h0, .inr (9, [.ref h3, .ref h4, .ref h5, .ref h6, .ref h7, .ref h8, .ref h9, .ref h10, .ref h11]))]) (ow_rVN (rest := []) (n := 1) (iN := 81) (ci := 8) (q := (RX8, TX8, 4)) ⟨hx, hb, hml, hown, hts⟩ (c_X8_roadAt_0 l D G h3 p1 h12 h13 v1) k_156 rfl k_5 k_157 k_158 (by decide +kernel) ⟨Nat.le_of_ble_eq_true rfl, Nat.le_of_ble_eq_true rfl⟩ rfl rfl hN hK hP hD [1] (by decide) rfl rfl rfl rfl hl.1 rfl (Nat.le_of_ble_eq_true rfl) dX9_toll_5 ⟨Nat.le_of_ble_eq_true rfl, Nat.le_of_ble_eq_true rfl⟩) hP hD hS hA [1] [0] rfl rfl (by decide) (by decide) (fun u H locs hw hP hD hS => ?_)
  obtain ⟨c_186, rfl⟩ := hw
  have hP : va_P D vwCl [(h0, .inr (9, [.ref h3, .ref h4, .ref h5, .ref h6, .ref h7, .ref h8, .ref h9, .ref h10, .ref h11])), (h3, .inr (8, [.ref h12, .ref h13, .int 0, .int v1]))] H := hP
  have hD : va_D A [(h0, .inr (9, [.ref h3, .ref h4, .ref h5, .ref h6, .ref h7, .ref h8, .ref h9, .ref h10, .ref h11])), (h3, .inr (8, [.ref h12, .ref h13, .int 0, .int v1]))] := hD
  refine W.widen (k := 0) (n := 0) (Nat.le_of_ble_eq_true rfl) (Nat.le_of_ble_eq_true rfl) ?_
  refine lv_astore_nN (lv' := [(3, .null), (0, .ref h0), (1, .int p1), (2, .int p2)]) hx hb dX9_toll_8 rfl hl (by decide) rfl (fun ls hl => ?_)
  refine lv_aload_nN hx hb dX9_toll_9 rfl (lv_at hl 0 rfl) ?_
  refine lv_ifnullN (tgt := 23) hx hb dX9_toll_10 (by decide) ?_
  refine lv_bipush (v := (-3)) hx hb dX9_toll_23 (by decide) ?_
  exact ow_iret (ty := .int) (u := []) hx hb hr hlocks rfl hP hD hS [] (by decide) rfl dX9_toll_25 ⟨rfl, trivial, rfl⟩
set_option maxHeartbeats 4000000 in
set_option maxRecDepth 100000 in
theorem c_X9_about_0 (l : Launch) (D : va_G) (G : ow_C) (h0 : Nat) (p1 : Int32) (p2 : Int32) (h3 : Nat) (h4 : Nat) (h5 : Nat) (h6 : Nat) (h7 : Nat) (h8 : Nat) (h9 : Nat) (h10 : Nat) (h11 : Nat) (h12 : Nat) (h13 : Nat) (v1 : Int32) : ow_M l D G yX9_about cX9_about 4 (some .int) ({ frames := 2, cells := 0, slots := 0, locals := 85 } : Room) [.ref h0, .int p1, .int p2] [(h0, .inr (9, [.ref h3, .ref h4, .ref h5, .ref h6, .ref h7, .ref h8, .ref h9, .ref h10, .ref h11])), (h3, .inr (8, [.ref h12, .ref h13, .int 0, .int v1]))] (ow_I D (fun r u => (r = (-3) ∧ True ∧ u = []))) 0 0 := by
  refine ow_met (by decide) (Nat.le_of_ble_eq_true rfl) ?_
  intro p e s m args below meth c A ls hE hl
  obtain ⟨hx, hb, hr, hml, hown, hlocks, hnm, hts, hN, hK, hP, hD, hA, hS⟩ := id hE
  have hown : s.vm.findClass RX9 = some m.cls := hown
  have hP : va_P D vwCl [(h0, .inr (9, [.ref h3, .ref h4, .ref h5, .ref h6, .ref h7, .ref h8, .ref h9, .ref h10, .ref h11])), (h3, .inr (8, [.ref h12, .ref h13, .int 0, .int v1]))] s.heap := hP
  have hD : va_D A [(h0, .inr (9, [.ref h3, .ref h4, .ref h5, .ref h6, .ref h7, .ref h8, .ref h9, .ref h10, .ref h11])), (h3, .inr (8, [.ref h12, .ref h13, .int 0, .int v1]))] := hD
  have hl : lv_has ls 4 [(0, .ref h0), (1, .int p1), (2, .int p2)] := hl
  refine lv_aload_n hx hb dX9_about_0 rfl (lv_at hl 0 rfl) ?_
  refine va_get (D := D) (ci := 9) (v := .ref h3) (C := RX9) (T := TX9) (N := 9) hx hb hts inlX9 hown hK hP 0 rfl rfl 0 (by decide) (hts _ k_25) (fun _ h9 => h9) rfl dX9_about_1 ?_
  refine lv_iload_n hx hb dX9_about_4 rfl (lv_at hl 1 rfl) ?_
  refine ow_cn (wr := [(h0, .inr (9, [.ref h3, .ref h4, .ref h5, .ref h6, .ref h7, .ref h8, .ref h9, .ref h10, .ref h11]))]) (ow_rVN (rest := []) (n := 1) (iN := 81) (ci := 8) (q := (RX8, TX8, 4)) ⟨hx, hb, hml, hown, hts⟩ (c_X8_roadAt_0 l D G h3 p1 h12 h13 v1) k_156 rfl k_5 k_157 k_158 (by decide +kernel) ⟨Nat.le_of_ble_eq_true rfl, Nat.le_of_ble_eq_true rfl⟩ rfl rfl hN hK hP hD [1] (by decide) rfl rfl rfl rfl hl.1 rfl (Nat.le_of_ble_eq_true rfl) dX9_about_5 ⟨Nat.le_of_ble_eq_true rfl, Nat.le_of_ble_eq_true rfl⟩) hP hD hS hA [1] [0] rfl rfl (by decide) (by decide) (fun u H locs hw hP hD hS => ?_)
  obtain ⟨c_187, rfl⟩ := hw
  have hP : va_P D vwCl [(h0, .inr (9, [.ref h3, .ref h4, .ref h5, .ref h6, .ref h7, .ref h8, .ref h9, .ref h10, .ref h11])), (h3, .inr (8, [.ref h12, .ref h13, .int 0, .int v1]))] H := hP
  have hD : va_D A [(h0, .inr (9, [.ref h3, .ref h4, .ref h5, .ref h6, .ref h7, .ref h8, .ref h9, .ref h10, .ref h11])), (h3, .inr (8, [.ref h12, .ref h13, .int 0, .int v1]))] := hD
  refine W.widen (k := 0) (n := 0) (Nat.le_of_ble_eq_true rfl) (Nat.le_of_ble_eq_true rfl) ?_
  refine lv_astore_nN (lv' := [(3, .null), (0, .ref h0), (1, .int p1), (2, .int p2)]) hx hb dX9_about_8 rfl hl (by decide) rfl (fun ls hl => ?_)
  refine lv_aload_nN hx hb dX9_about_9 rfl (lv_at hl 0 rfl) ?_
  refine lv_ifnonnullN hx hb dX9_about_10 ?_
  refine lv_bipush (v := (-3)) hx hb dX9_about_13 (by decide) ?_
  exact ow_iret (ty := .int) (u := []) hx hb hr hlocks rfl hP hD hS [] (by decide) rfl dX9_about_15 ⟨rfl, trivial, rfl⟩
set_option maxHeartbeats 4000000 in
set_option maxRecDepth 100000 in
theorem c_X9_isOf_0 (l : Launch) (D : va_G) (G : ow_C) (h0 : Nat) (p1 : Int32) (p2 : Int32) (h3 : Nat) (h4 : Nat) (h5 : Nat) (h6 : Nat) (h7 : Nat) (h8 : Nat) (h9 : Nat) (h10 : Nat) (h11 : Nat) (h12 : Nat) (h13 : Nat) (v1 : Int32) : ow_M l D G yX9_isOf cX9_isOf 5 (some .int) ({ frames := 2, cells := 0, slots := 0, locals := 85 } : Room) [.ref h0, .int p1, .int p2] [(h0, .inr (9, [.ref h3, .ref h4, .ref h5, .ref h6, .ref h7, .ref h8, .ref h9, .ref h10, .ref h11])), (h3, .inr (8, [.ref h12, .ref h13, .int 0, .int v1]))] (ow_I D (fun r u => (r = (-3) ∧ True ∧ u = []))) 0 0 := by
  refine ow_met (by decide) (Nat.le_of_ble_eq_true rfl) ?_
  intro p e s m args below meth c A ls hE hl
  obtain ⟨hx, hb, hr, hml, hown, hlocks, hnm, hts, hN, hK, hP, hD, hA, hS⟩ := id hE
  have hown : s.vm.findClass RX9 = some m.cls := hown
  have hP : va_P D vwCl [(h0, .inr (9, [.ref h3, .ref h4, .ref h5, .ref h6, .ref h7, .ref h8, .ref h9, .ref h10, .ref h11])), (h3, .inr (8, [.ref h12, .ref h13, .int 0, .int v1]))] s.heap := hP
  have hD : va_D A [(h0, .inr (9, [.ref h3, .ref h4, .ref h5, .ref h6, .ref h7, .ref h8, .ref h9, .ref h10, .ref h11])), (h3, .inr (8, [.ref h12, .ref h13, .int 0, .int v1]))] := hD
  have hl : lv_has ls 5 [(0, .ref h0), (1, .int p1), (2, .int p2)] := hl
  refine lv_aload_n hx hb dX9_isOf_0 rfl (lv_at hl 0 rfl) ?_
  refine va_get (D := D) (ci := 9) (v := .ref h3) (C := RX9) (T := TX9) (N := 9) hx hb hts inlX9 hown hK hP 0 rfl rfl 0 (by decide) (hts _ k_25) (fun _ h9 => h9) rfl dX9_isOf_1 ?_
  refine lv_iload_n hx hb dX9_isOf_4 rfl (lv_at hl 1 rfl) ?_
  refine ow_cn (wr := [(h0, .inr (9, [.ref h3, .ref h4, .ref h5, .ref h6, .ref h7, .ref h8, .ref h9, .ref h10, .ref h11]))]) (ow_rVN (rest := []) (n := 1) (iN := 81) (ci := 8) (q := (RX8, TX8, 4)) ⟨hx, hb, hml, hown, hts⟩ (c_X8_roadAt_0 l D G h3 p1 h12 h13 v1) k_156 rfl k_5 k_157 k_158 (by decide +kernel) ⟨Nat.le_of_ble_eq_true rfl, Nat.le_of_ble_eq_true rfl⟩ rfl rfl hN hK hP hD [1] (by decide) rfl rfl rfl rfl hl.1 rfl (Nat.le_of_ble_eq_true rfl) dX9_isOf_5 ⟨Nat.le_of_ble_eq_true rfl, Nat.le_of_ble_eq_true rfl⟩) hP hD hS hA [1] [0] rfl rfl (by decide) (by decide) (fun u H locs hw hP hD hS => ?_)
  obtain ⟨c_188, rfl⟩ := hw
  have hP : va_P D vwCl [(h0, .inr (9, [.ref h3, .ref h4, .ref h5, .ref h6, .ref h7, .ref h8, .ref h9, .ref h10, .ref h11])), (h3, .inr (8, [.ref h12, .ref h13, .int 0, .int v1]))] H := hP
  have hD : va_D A [(h0, .inr (9, [.ref h3, .ref h4, .ref h5, .ref h6, .ref h7, .ref h8, .ref h9, .ref h10, .ref h11])), (h3, .inr (8, [.ref h12, .ref h13, .int 0, .int v1]))] := hD
  refine W.widen (k := 0) (n := 0) (Nat.le_of_ble_eq_true rfl) (Nat.le_of_ble_eq_true rfl) ?_
  refine lv_astore_nN (lv' := [(3, .null), (0, .ref h0), (1, .int p1), (2, .int p2)]) hx hb dX9_isOf_8 rfl hl (by decide) rfl (fun ls hl => ?_)
  refine lv_aload_nN hx hb dX9_isOf_9 rfl (lv_at hl 0 rfl) ?_
  refine lv_ifnullN (tgt := 20) hx hb dX9_isOf_10 (by decide) ?_
  refine lv_bipush (v := (-3)) hx hb dX9_isOf_20 (by decide) ?_
  exact ow_iret (ty := .int) (u := []) hx hb hr hlocks rfl hP hD hS [] (by decide) rfl dX9_isOf_22 ⟨rfl, trivial, rfl⟩
set_option maxHeartbeats 4000000 in
set_option maxRecDepth 100000 in
theorem c_X9_takes_0 (l : Launch) (D : va_G) (G : ow_C) (h0 : Nat) (p1 : Int32) (p2 : Int32) (h3 : Nat) (h4 : Nat) (h5 : Nat) (h6 : Nat) (h7 : Nat) (h8 : Nat) (h9 : Nat) (h10 : Nat) (h11 : Nat) (h12 : Nat) (h13 : Nat) (v1 : Int32) : ow_M l D G yX9_takes cX9_takes 4 (some .int) ({ frames := 2, cells := 0, slots := 0, locals := 85 } : Room) [.ref h0, .int p1, .int p2] [(h0, .inr (9, [.ref h3, .ref h4, .ref h5, .ref h6, .ref h7, .ref h8, .ref h9, .ref h10, .ref h11])), (h3, .inr (8, [.ref h12, .ref h13, .int 0, .int v1]))] (ow_I D (fun r u => (r = (-3) ∧ True ∧ u = []))) 0 0 := by
  refine ow_met (by decide) (Nat.le_of_ble_eq_true rfl) ?_
  intro p e s m args below meth c A ls hE hl
  obtain ⟨hx, hb, hr, hml, hown, hlocks, hnm, hts, hN, hK, hP, hD, hA, hS⟩ := id hE
  have hown : s.vm.findClass RX9 = some m.cls := hown
  have hP : va_P D vwCl [(h0, .inr (9, [.ref h3, .ref h4, .ref h5, .ref h6, .ref h7, .ref h8, .ref h9, .ref h10, .ref h11])), (h3, .inr (8, [.ref h12, .ref h13, .int 0, .int v1]))] s.heap := hP
  have hD : va_D A [(h0, .inr (9, [.ref h3, .ref h4, .ref h5, .ref h6, .ref h7, .ref h8, .ref h9, .ref h10, .ref h11])), (h3, .inr (8, [.ref h12, .ref h13, .int 0, .int v1]))] := hD
  have hl : lv_has ls 4 [(0, .ref h0), (1, .int p1), (2, .int p2)] := hl
  refine lv_aload_n hx hb dX9_takes_0 rfl (lv_at hl 0 rfl) ?_
  refine va_get (D := D) (ci := 9) (v := .ref h3) (C := RX9) (T := TX9) (N := 9) hx hb hts inlX9 hown hK hP 0 rfl rfl 0 (by decide) (hts _ k_25) (fun _ h9 => h9) rfl dX9_takes_1 ?_
  refine lv_iload_n hx hb dX9_takes_4 rfl (lv_at hl 1 rfl) ?_
  refine ow_cn (wr := [(h0, .inr (9, [.ref h3, .ref h4, .ref h5, .ref h6, .ref h7, .ref h8, .ref h9, .ref h10, .ref h11]))]) (ow_rVN (rest := []) (n := 1) (iN := 81) (ci := 8) (q := (RX8, TX8, 4)) ⟨hx, hb, hml, hown, hts⟩ (c_X8_roadAt_0 l D G h3 p1 h12 h13 v1) k_156 rfl k_5 k_157 k_158 (by decide +kernel) ⟨Nat.le_of_ble_eq_true rfl, Nat.le_of_ble_eq_true rfl⟩ rfl rfl hN hK hP hD [1] (by decide) rfl rfl rfl rfl hl.1 rfl (Nat.le_of_ble_eq_true rfl) dX9_takes_5 ⟨Nat.le_of_ble_eq_true rfl, Nat.le_of_ble_eq_true rfl⟩) hP hD hS hA [1] [0] rfl rfl (by decide) (by decide) (fun u H locs hw hP hD hS => ?_)
  obtain ⟨c_189, rfl⟩ := hw
  have hP : va_P D vwCl [(h0, .inr (9, [.ref h3, .ref h4, .ref h5, .ref h6, .ref h7, .ref h8, .ref h9, .ref h10, .ref h11])), (h3, .inr (8, [.ref h12, .ref h13, .int 0, .int v1]))] H := hP
  have hD : va_D A [(h0, .inr (9, [.ref h3, .ref h4, .ref h5, .ref h6, .ref h7, .ref h8, .ref h9, .ref h10, .ref h11])), (h3, .inr (8, [.ref h12, .ref h13, .int 0, .int v1]))] := hD
  refine W.widen (k := 0) (n := 0) (Nat.le_of_ble_eq_true rfl) (Nat.le_of_ble_eq_true rfl) ?_
  refine lv_astore_nN (lv' := [(3, .null), (0, .ref h0), (1, .int p1), (2, .int p2)]) hx hb dX9_takes_8 rfl hl (by decide) rfl (fun ls hl => ?_)
  refine lv_aload_nN hx hb dX9_takes_9 rfl (lv_at hl 0 rfl) ?_
  refine lv_ifnullN (tgt := 23) hx hb dX9_takes_10 (by decide) ?_
  refine lv_bipush (v := (-3)) hx hb dX9_takes_23 (by decide) ?_
  exact ow_iret (ty := .int) (u := []) hx hb hr hlocks rfl hP hD hS [] (by decide) rfl dX9_takes_25 ⟨rfl, trivial, rfl⟩
set_option maxHeartbeats 4000000 in
set_option maxRecDepth 100000 in
theorem c_X1_begin_0 (l : Launch) (D : va_G) (G : ow_C) (h0 : Nat) (p1 : Int32) (p2 : Int32) (v1 : Int32) (v2 : Int32) (v3 : Int32) : ow_M l D G yX1_begin cX1_begin 3 none ({ frames := 1, cells := 0, slots := 0, locals := 64 } : Room) [.ref h0, .int p1, .int p2] [(h0, .inr (1, [.int v1, .int v2, .int v3]))] (ow_V D (fun u => (True ∧ u = [(h0, .inr (1, [.int p1, .int p2, .int (-1)]))]))) 0 0 := by
  refine ow_met (by decide) (Nat.le_of_ble_eq_true rfl) ?_
  intro p e s m args below meth c A ls hE hl
  obtain ⟨hx, hb, hr, hml, hown, hlocks, hnm, hts, hN, hK, hP, hD, hA, hS⟩ := id hE
  have hown : s.vm.findClass RX1 = some m.cls := hown
  have hP : va_P D vwCl [(h0, .inr (1, [.int v1, .int v2, .int v3]))] s.heap := hP
  have hD : va_D A [(h0, .inr (1, [.int v1, .int v2, .int v3]))] := hD
  have hl : lv_has ls 3 [(0, .ref h0), (1, .int p1), (2, .int p2)] := hl
  refine lv_aload_n hx hb dX1_begin_0 rfl (lv_at hl 0 rfl) ?_
  refine lv_iload_n hx hb dX1_begin_1 rfl (lv_at hl 1 rfl) ?_
  refine va_put (D := D) (ci := 1) (v := .int p1) (ty := .int) (C := RX1) (T := TX1) (N := 3) hx hb hts inlX1 tyX1 tyX1_ok nmX1 hown hK hP hD hS 0 rfl rfl 0 (by decide) (hts _ k_159) (fun _ h9 => h9) rfl (tyX1_ok 0 (by decide)) rfl rfl (Nat.le_of_ble_eq_true rfl) dX1_begin_2 (fun H locs hP hD hS => ?_)
  have hP : va_P D vwCl [(h0, .inr (1, [.int p1, .int v2, .int v3]))] H := hP
  have hD : va_D A [(h0, .inr (1, [.int p1, .int v2, .int v3]))] := hD
  refine lv_aload_n hx hb dX1_begin_5 rfl (lv_at hl 0 rfl) ?_
  refine lv_iload_n hx hb dX1_begin_6 rfl (lv_at hl 2 rfl) ?_
  refine va_put (D := D) (ci := 1) (v := .int p2) (ty := .int) (C := RX1) (T := TX1) (N := 3) hx hb hts inlX1 tyX1 tyX1_ok nmX1 hown hK hP hD hS 0 rfl rfl 1 (by decide) (hts _ k_160) (fun _ h9 => h9) rfl (tyX1_ok 1 (by decide)) rfl rfl (Nat.le_of_ble_eq_true rfl) dX1_begin_7 (fun H locs hP hD hS => ?_)
  have hP : va_P D vwCl [(h0, .inr (1, [.int p1, .int p2, .int v3]))] H := hP
  have hD : va_D A [(h0, .inr (1, [.int p1, .int p2, .int v3]))] := hD
  refine lv_aload_n hx hb dX1_begin_10 rfl (lv_at hl 0 rfl) ?_
  refine lv_iconst (v := (-1)) hx hb dX1_begin_11 (by decide) ?_
  refine va_put (D := D) (ci := 1) (v := .int (-1)) (ty := .int) (C := RX1) (T := TX1) (N := 3) hx hb hts inlX1 tyX1 tyX1_ok nmX1 hown hK hP hD hS 0 rfl rfl 2 (by decide) (hts _ k_161) (fun _ h9 => h9) rfl (tyX1_ok 2 (by decide)) rfl rfl (Nat.le_of_ble_eq_true rfl) dX1_begin_12 (fun H locs hP hD hS => ?_)
  have hP : va_P D vwCl [(h0, .inr (1, [.int p1, .int p2, .int (-1)]))] H := hP
  have hD : va_D A [(h0, .inr (1, [.int p1, .int p2, .int (-1)]))] := hD
  exact ow_vret (u := [(h0, .inr (1, [.int p1, .int p2, .int (-1)]))]) hx hb hr hlocks hP hD hS [0] (by decide) rfl dX1_begin_15 ⟨trivial, rfl⟩
set_option maxHeartbeats 4000000 in
set_option maxRecDepth 100000 in
theorem c_X4_extend_0 (l : Launch) (D : va_G) (G : ow_C) (h0 : Nat) (h1 : Nat) (p2 : Int32) (p3 : Int32) (h4 : Nat) (h5 : Nat) (h6 : Nat) (h7 : Nat) (h8 : Nat) (v1 : Int32) (h9 : Nat) (h10 : Nat) (v2 : Int32) : ow_M l D G yX4_extend cX4_extend 10 none ({ frames := 1, cells := 0, slots := 0, locals := 64 } : Room) [.ref h0, .ref h1, .int (-1), .int 0, .int p2, .int p3, .int 0] [(h0, .inr (4, [.ref h4, .ref h5, .ref h6, .ref h7, .ref h8, .int v1])), (h1, .inr (8, [.ref h9, .ref h10, .int 0, .int v2]))] (ow_V D (fun u => (True ∧ u = [(h0, .inr (4, [.ref h4, .ref h5, .ref h6, .ref h7, .ref h8, .int v1])), (h1, .inr (8, [.ref h9, .ref h10, .int 0, .int v2]))]))) 0 0 := by
  refine ow_met (by decide) (Nat.le_of_ble_eq_true rfl) ?_
  intro p e s m args below meth c A ls hE hl
  obtain ⟨hx, hb, hr, hml, hown, hlocks, hnm, hts, hN, hK, hP, hD, hA, hS⟩ := id hE
  have hown : s.vm.findClass RX4 = some m.cls := hown
  have hP : va_P D vwCl [(h0, .inr (4, [.ref h4, .ref h5, .ref h6, .ref h7, .ref h8, .int v1])), (h1, .inr (8, [.ref h9, .ref h10, .int 0, .int v2]))] s.heap := hP
  have hD : va_D A [(h0, .inr (4, [.ref h4, .ref h5, .ref h6, .ref h7, .ref h8, .int v1])), (h1, .inr (8, [.ref h9, .ref h10, .int 0, .int v2]))] := hD
  have hl : lv_has ls 10 [(0, .ref h0), (1, .ref h1), (2, .int (-1)), (3, .int 0), (4, .int p2), (5, .int p3), (6, .int 0)] := hl
  refine lv_iload hx hb dX4_extend_0 (lv_at hl 6 rfl) ?_
  refine lv_iconst (v := 5) hx hb dX4_extend_2 (by decide) ?_
  refine lv_icmp_lt (tgt := 7) hx hb dX4_extend_3 (by decide) (fun _ => ?_) (fun h9 => absurd h9 (by decide))
  refine lv_iconst (v := 0) hx hb dX4_extend_7 (by decide) ?_
  refine lv_istore (lv' := [(7, .int 0), (0, .ref h0), (1, .ref h1), (2, .int (-1)), (3, .int 0), (4, .int p2), (5, .int p3), (6, .int 0)]) hx hb dX4_extend_8 hl (by decide) rfl (fun ls hl => ?_)
  refine lv_iload hx hb dX4_extend_10 (lv_at hl 0 rfl) ?_
  refine lv_aload_n hx hb dX4_extend_12 rfl (lv_at hl 2 rfl) ?_
  refine va_getN (D := D) (ci := 8) (v := .int 0) (C := RX8) (T := TX8) (N := 4) hx hb hts inlX8 hown hK hP 1 rfl rfl 2 (by decide) (va_Nw.use rfl (hN.1 39 _ rfl)) (fun _ h9 => h9) rfl dX4_extend_13 ?_
  refine lv_icmp_ge (tgt := 150) hx hb dX4_extend_16 (by decide) (fun _ => ?_) (fun h9 => absurd h9 (by decide))
  exact ow_vret (u := [(h0, .inr (4, [.ref h4, .ref h5, .ref h6, .ref h7, .ref h8, .int v1])), (h1, .inr (8, [.ref h9, .ref h10, .int 0, .int v2]))]) hx hb hr hlocks hP hD hS [0, 1] (by decide) rfl dX4_extend_150 ⟨trivial, rfl⟩
set_option maxHeartbeats 4000000 in
set_option maxRecDepth 100000 in
theorem c_X4_find_1 (l : Launch) (D : va_G) (G : ow_C) (h0 : Nat) (h1 : Nat) (h2 : Nat) (h3 : Nat) (h4 : Nat) (h5 : Nat) (h6 : Nat) (v1 : Int32) (h7 : Nat) (h8 : Nat) (v2 : Nat → Option Nat) (h9 : Nat) (p10 : Int32) (v3 : Int32) (v4 : Int32) (v5 : Nat → Int32) (hk_h8_0 : v2 0 = some h9) : ow_M l D G yX4_find cX4_find 5 none ({ frames := 2, cells := 0, slots := 0, locals := 93 } : Room) [.ref h0, .ref h1, .int (-1)] [(h0, .inr (4, [.ref h2, .ref h3, .ref h4, .ref h5, .ref h6, .int v1])), (h1, .inr (8, [.ref h7, .ref h8, .int 0, .int 1])), (h8, .inl (G.2.2.1, 5, .inr (.inr (.inr (.inr v2))))), (h9, .inr (1, [.int p10, .int v3, .int v4])), (h2, .inl (G.1, 5, .inl v5))] (ow_V D (fun u => (True ∧ (∃ e0 : Nat → Int32, u = [(h8, .inl (G.2.2.1, 5, .inr (.inr (.inr (.inr v2))))), (h9, .inr (1, [.int p10, .int v3, .int v4])), (h2, .inl (G.1, 5, .inl e0)), (h0, .inr (4, [.ref h2, .ref h3, .ref h4, .ref h5, .ref h6, .int 1])), (h1, .inr (8, [.ref h7, .ref h8, .int 0, .int 1]))])))) 0 0 := by
  refine ow_met (by decide) (Nat.le_of_ble_eq_true rfl) ?_
  intro p e s m args below meth c A ls hE hl
  obtain ⟨hx, hb, hr, hml, hown, hlocks, hnm, hts, hN, hK, hP, hD, hA, hS⟩ := id hE
  have hown : s.vm.findClass RX4 = some m.cls := hown
  have hP : va_P D vwCl [(h0, .inr (4, [.ref h2, .ref h3, .ref h4, .ref h5, .ref h6, .int v1])), (h1, .inr (8, [.ref h7, .ref h8, .int 0, .int 1])), (h8, .inl (G.2.2.1, 5, .inr (.inr (.inr (.inr v2))))), (h9, .inr (1, [.int p10, .int v3, .int v4])), (h2, .inl (G.1, 5, .inl v5))] s.heap := hP
  have hD : va_D A [(h0, .inr (4, [.ref h2, .ref h3, .ref h4, .ref h5, .ref h6, .int v1])), (h1, .inr (8, [.ref h7, .ref h8, .int 0, .int 1])), (h8, .inl (G.2.2.1, 5, .inr (.inr (.inr (.inr v2))))), (h9, .inr (1, [.int p10, .int v3, .int v4])), (h2, .inl (G.1, 5, .inl v5))] := hD
  have hl : lv_has ls 5 [(0, .ref h0), (1, .ref h1), (2, .int (-1))] := hl
  refine lv_aload_n hx hb dX4_find_0 rfl (lv_at hl 0 rfl) ?_
  refine lv_aload_n hx hb dX4_find_1 rfl (lv_at hl 1 rfl) ?_
  refine va_getN (D := D) (ci := 8) (v := .int 1) (C := RX8) (T := TX8) (N := 4) hx hb hts inlX8 hown hK hP 1 rfl rfl 3 (by decide) (va_Nw.use rfl (hN.1 40 _ rfl)) (fun _ h9 => h9) rfl dX4_find_2 ?_
  refine va_put (D := D) (ci := 4) (v := .int 1) (ty := .int) (C := RX4) (T := TX4) (N := 6) hx hb hts inlX4 tyX4 tyX4_ok nmX4 hown hK hP hD hS 0 rfl rfl 5 (by decide) (hts _ k_148) (fun _ h9 => h9) rfl (tyX4_ok 5 (by decide)) rfl rfl (Nat.le_of_ble_eq_true rfl) dX4_find_5 (fun H locs hP hD hS => ?_)
  have hP : va_P D vwCl [(h0, .inr (4, [.ref h2, .ref h3, .ref h4, .ref h5, .ref h6, .int 1])), (h1, .inr (8, [.ref h7, .ref h8, .int 0, .int 1])), (h8, .inl (G.2.2.1, 5, .inr (.inr (.inr (.inr v2))))), (h9, .inr (1, [.int p10, .int v3, .int v4])), (h2, .inl (G.1, 5, .inl v5))] H := hP
  have hD : va_D A [(h0, .inr (4, [.ref h2, .ref h3, .ref h4, .ref h5, .ref h6, .int 1])), (h1, .inr (8, [.ref h7, .ref h8, .int 0, .int 1])), (h8, .inl (G.2.2.1, 5, .inr (.inr (.inr (.inr v2))))), (h9, .inr (1, [.int p10, .int v3, .int v4])), (h2, .inl (G.1, 5, .inl v5))] := hD
  refine lv_iconst (v := 0) hx hb dX4_find_8 (by decide) ?_
  refine lv_istore_n (lv' := [(3, .int 0), (0, .ref h0), (1, .ref h1), (2, .int (-1))]) hx hb dX4_find_9 rfl hl (by decide) rfl (fun ls hl => ?_)
  refine lv_iload_n hx hb dX4_find_10 rfl (lv_at hl 0 rfl) ?_
  refine lv_aload_n hx hb dX4_find_11 rfl (lv_at hl 1 rfl) ?_
  refine va_get (D := D) (ci := 4) (v := .int 1) (C := RX4) (T := TX4) (N := 6) hx hb hts inlX4 hown hK hP 0 rfl rfl 5 (by decide) (hts _ k_148) (fun _ h9 => h9) rfl dX4_find_12 ?_
  refine lv_icmp_ge (tgt := 56) hx hb dX4_find_15 (by decide) (fun h9 => absurd h9 (by decide)) (fun _ => ?_)
  refine lv_aload_n hx hb dX4_find_18 rfl (lv_at hl 2 rfl) ?_
  refine va_getN (D := D) (ci := 8) (v := .ref h8) (C := RX8) (T := TX8) (N := 4) hx hb hts inlX8 hown hK hP 1 rfl rfl 1 (by decide) (va_Nw.use rfl (hN.1 33 _ rfl)) (fun _ h9 => h9) rfl dX4_find_19 ?_
  refine lv_iload_n hx hb dX4_find_22 rfl (lv_at hl 0 rfl) ?_
  refine ow_ald (q0 := 2) (t0 := 2) (r := h9) hx hb hK hP rfl rfl (show ¬ ((0 : Int32) < 0 ∨ 5 ≤ (0 : Int32).toNatClampNeg) by decide) hk_h8_0 dX4_find_23 ?_
  refine va_getN (D := D) (ci := 1) (v := .int p10) (C := RX1) (T := TX1) (N := 3) hx hb hts inlX1 hown hK hP 3 rfl rfl 0 (by decide) (va_Nw.use rfl (hN.1 22 _ rfl)) (fun _ h9 => h9) rfl dX4_find_24 ?_
  refine lv_istore (lv' := [(4, .int p10), (3, .int 0), (0, .ref h0), (1, .ref h1), (2, .int (-1))]) hx hb dX4_find_27 hl (by decide) rfl (fun ls hl => ?_)
  refine lv_aload_n hx hb dX4_find_29 rfl (lv_at hl 2 rfl) ?_
  refine va_get (D := D) (ci := 4) (v := .ref h2) (C := RX4) (T := TX4) (N := 6) hx hb hts inlX4 hown hK hP 0 rfl rfl 0 (by decide) (hts _ k_39) (fun _ h9 => h9) rfl dX4_find_30 ?_
  refine lv_iload_n hx hb dX4_find_33 rfl (lv_at hl 1 rfl) ?_
  refine lv_iconst (v := 0) hx hb dX4_find_34 (by decide) ?_
  refine va_iast hx hb hK hP hD hS 4 0 rfl rfl (show ¬ ((0 : Int32) < 0 ∨ 5 ≤ (0 : Int32).toNatClampNeg) by decide) dX4_find_35 (fun H locs hP hD hS => ?_)
  obtain ⟨f194, hP, hD⟩ : ∃ f194, va_P D vwCl [(h0, .inr (4, [.ref h2, .ref h3, .ref h4, .ref h5, .ref h6, .int 1])), (h1, .inr (8, [.ref h7, .ref h8, .int 0, .int 1])), (h8, .inl (G.2.2.1, 5, .inr (.inr (.inr (.inr v2))))), (h9, .inr (1, [.int p10, .int v3, .int v4])), (h2, .inl (G.1, 5, .inl f194))] H ∧ va_D A [(h0, .inr (4, [.ref h2, .ref h3, .ref h4, .ref h5, .ref h6, .int 1])), (h1, .inr (8, [.ref h7, .ref h8, .int 0, .int 1])), (h8, .inl (G.2.2.1, 5, .inr (.inr (.inr (.inr v2))))), (h9, .inr (1, [.int p10, .int v3, .int v4])), (h2, .inl (G.1, 5, .inl f194))] := ⟨_, hP, hD⟩
  refine lv_aload_n hx hb dX4_find_36 rfl (lv_at hl 2 rfl) ?_
  refine lv_aload_n hx hb dX4_find_37 rfl (lv_at hl 3 rfl) ?_
  refine lv_iload_n hx hb dX4_find_38 rfl (lv_at hl 4 rfl) ?_
  refine lv_iload_n hx hb dX4_find_39 rfl (lv_at hl 1 rfl) ?_
  refine lv_iload hx hb dX4_find_40 (lv_at hl 0 rfl) ?_
  refine lv_iconst (v := 1) hx hb dX4_find_42 (by decide) ?_
  refine lv_iload hx hb dX4_find_43 (lv_at hl 0 rfl) ?_
  refine lv_ishl hx hb dX4_find_45 ?_
  refine lv_topi (fun x195 _ => ?_)
  refine lv_iconst (v := 0) hx hb dX4_find_46 (by decide) ?_
  refine ow_cv (wr := [(h8, .inl (G.2.2.1, 5, .inr (.inr (.inr (.inr v2))))), (h9, .inr (1, [.int p10, .int v3, .int v4])), (h2, .inl (G.1, 5, .inl f194))]) (ow_rV (rest := []) (n := 6) (ci := 4) (q := (RX4, TX4, 6)) ⟨hx, hb, hml, hown, hts⟩ (c_X4_extend_0 l D G h0 h1 p10 x195 h2 h3 h4 h5 h6 1 h7 h8 1) k_166 k_165 k_37 k_167 k_168 (by decide +kernel) ⟨Nat.le_of_ble_eq_true rfl, Nat.le_of_ble_eq_true rfl⟩ rfl rfl hN hK hP hD [0, 1] (by decide) rfl rfl rfl rfl hl.1 rfl (Nat.le_of_ble_eq_true rfl) dX4_find_47 ⟨Nat.le_of_ble_eq_true rfl, Nat.le_of_ble_eq_true rfl⟩) hP hD hS hA [0, 1] [2, 3, 4] rfl rfl (by decide) (by decide) (fun u H locs hw hP hD hS => ?_)
  obtain ⟨c_196, rfl⟩ := hw
  have hP : va_P D vwCl [(h8, .inl (G.2.2.1, 5, .inr (.inr (.inr (.inr v2))))), (h9, .inr (1, [.int p10, .int v3, .int v4])), (h2, .inl (G.1, 5, .inl f194)), (h0, .inr (4, [.ref h2, .ref h3, .ref h4, .ref h5, .ref h6, .int 1])), (h1, .inr (8, [.ref h7, .ref h8, .int 0, .int 1]))] H := hP
  have hD : va_D A [(h8, .inl (G.2.2.1, 5, .inr (.inr (.inr (.inr v2))))), (h9, .inr (1, [.int p10, .int v3, .int v4])), (h2, .inl (G.1, 5, .inl f194)), (h0, .inr (4, [.ref h2, .ref h3, .ref h4, .ref h5, .ref h6, .int 1])), (h1, .inr (8, [.ref h7, .ref h8, .int 0, .int 1]))] := hD
  refine W.widen (k := 0) (n := 0) (Nat.le_of_ble_eq_true rfl) (Nat.le_of_ble_eq_true rfl) ?_
  refine lv_iinc (v := 1) (lv' := [(3, .int 1), (4, .int p10), (0, .ref h0), (1, .ref h1), (2, .int (-1))]) hx hb dX4_find_50 hl (k := 1) rfl (by decide) (by decide) rfl (fun ls hl => ?_)
  refine lv_goto (tgt := 10) hx hb dX4_find_53 (by decide) ?_
  refine lv_iload_n hx hb dX4_find_10 rfl (lv_at hl 0 rfl) ?_
  refine lv_aload_n hx hb dX4_find_11 rfl (lv_at hl 2 rfl) ?_
  refine va_get (D := D) (ci := 4) (v := .int 1) (C := RX4) (T := TX4) (N := 6) hx hb hts inlX4 hown hK hP 3 rfl rfl 5 (by decide) (hts _ k_148) (fun _ h9 => h9) rfl dX4_find_12 ?_
  refine lv_icmp_ge (tgt := 56) hx hb dX4_find_15 (by decide) (fun _ => ?_) (fun h9 => absurd h9 (by decide))
  exact ow_vret (u := [(h8, .inl (G.2.2.1, 5, .inr (.inr (.inr (.inr v2))))), (h9, .inr (1, [.int p10, .int v3, .int v4])), (h2, .inl (G.1, 5, .inl f194)), (h0, .inr (4, [.ref h2, .ref h3, .ref h4, .ref h5, .ref h6, .int 1])), (h1, .inr (8, [.ref h7, .ref h8, .int 0, .int 1]))]) hx hb hr hlocks hP hD hS [0, 1, 2, 3, 4] (by decide) rfl dX4_find_56 ⟨trivial, f194, rfl⟩
set_option maxHeartbeats 4000000 in
set_option maxRecDepth 100000 in
theorem c_X9_driver_0 (l : Launch) (D : va_G) (G : ow_C) (h0 : Nat) (p1 : Int32) (p2 : Int32) (h3 : Nat) (h4 : Nat) (h5 : Nat) (h6 : Nat) (h7 : Nat) (h8 : Nat) (h9 : Nat) (h10 : Nat) (h11 : Nat) (h12 : Nat) (h13 : Nat) (h14 : Nat) (v1 : Nat → Option Nat) (h15 : Nat) (h16 : Nat) (h17 : Nat) (v2 : Int32) (v3 : Int32) (v4 : Nat → Option Nat) (h18 : Nat) (v5 : Int32) (v6 : Int32) (v7 : Int32) (h19 : Nat) (h20 : Nat) (h21 : Nat) (h22 : Nat) (h23 : Nat) (v8 : Int32) (v9 : Nat → Int32) (hk_h14_0 : v1 0 = some h15) (hk_h13_0 : v4 0 = some h18) : ow_M l D G yX9_driver cX9_driver 4 (some .int) ({ frames := 3, cells := 0, slots := 0, locals := 117 } : Room) [.ref h0, .int p1, .int p2] [(h0, .inr (9, [.ref h3, .ref h4, .ref h5, .ref h6, .ref h7, .ref h8, .ref h9, .ref h10, .ref h11])), (h3, .inr (8, [.ref h12, .ref h13, .int 0, .int 0])), (h4, .inr (3, [.ref h14, .int 0, .int 0])), (h14, .inl (G.2.2.2, 8, .inr (.inr (.inr (.inr v1))))), (h15, .inr (8, [.ref h16, .ref h17, .int v2, .int v3])), (h13, .inl (G.2.2.1, 5, .inr (.inr (.inr (.inr v4))))), (h18, .inr (1, [.int v5, .int v6, .int v7])), (h5, .inr (4, [.ref h19, .ref h20, .ref h21, .ref h22, .ref h23, .int v8])), (h19, .inl (G.1, 5, .inl v9))] (ow_I D (fun r u => (r = (-3) ∧ (¬ (0 ≤ p1.toInt ∧ p1.toInt ≤ 5 ∧ 0 ≤ p2.toInt ∧ p2.toInt ≤ 5 ∧ (¬ p1.toInt = p2.toInt))) ∧ u = []) ∨ (r = 0 ∧ (0 ≤ p1.toInt ∧ p1.toInt ≤ 5 ∧ 0 ≤ p2.toInt ∧ p2.toInt ≤ 5 ∧ (¬ p1.toInt = p2.toInt)) ∧ u = []))) 0 0 := by
  refine ow_met (by decide) (Nat.le_of_ble_eq_true rfl) ?_
  intro p e s m args below meth c A ls hE hl
  obtain ⟨hx, hb, hr, hml, hown, hlocks, hnm, hts, hN, hK, hP, hD, hA, hS⟩ := id hE
  have hown : s.vm.findClass RX9 = some m.cls := hown
  have hP : va_P D vwCl [(h0, .inr (9, [.ref h3, .ref h4, .ref h5, .ref h6, .ref h7, .ref h8, .ref h9, .ref h10, .ref h11])), (h3, .inr (8, [.ref h12, .ref h13, .int 0, .int 0])), (h4, .inr (3, [.ref h14, .int 0, .int 0])), (h14, .inl (G.2.2.2, 8, .inr (.inr (.inr (.inr v1))))), (h15, .inr (8, [.ref h16, .ref h17, .int v2, .int v3])), (h13, .inl (G.2.2.1, 5, .inr (.inr (.inr (.inr v4))))), (h18, .inr (1, [.int v5, .int v6, .int v7])), (h5, .inr (4, [.ref h19, .ref h20, .ref h21, .ref h22, .ref h23, .int v8])), (h19, .inl (G.1, 5, .inl v9))] s.heap := hP
  have hD : va_D A [(h0, .inr (9, [.ref h3, .ref h4, .ref h5, .ref h6, .ref h7, .ref h8, .ref h9, .ref h10, .ref h11])), (h3, .inr (8, [.ref h12, .ref h13, .int 0, .int 0])), (h4, .inr (3, [.ref h14, .int 0, .int 0])), (h14, .inl (G.2.2.2, 8, .inr (.inr (.inr (.inr v1))))), (h15, .inr (8, [.ref h16, .ref h17, .int v2, .int v3])), (h13, .inl (G.2.2.1, 5, .inr (.inr (.inr (.inr v4))))), (h18, .inr (1, [.int v5, .int v6, .int v7])), (h5, .inr (4, [.ref h19, .ref h20, .ref h21, .ref h22, .ref h23, .int v8])), (h19, .inl (G.1, 5, .inl v9))] := hD
  have hl : lv_has ls 4 [(0, .ref h0), (1, .int p1), (2, .int p2)] := hl
  refine lv_iload_n hx hb dX9_driver_0 rfl (lv_at hl 1 rfl) ?_
  refine lv_iload_n hx hb dX9_driver_1 rfl (lv_at hl 2 rfl) ?_
  refine ow_ci (wr := [(h0, .inr (9, [.ref h3, .ref h4, .ref h5, .ref h6, .ref h7, .ref h8, .ref h9, .ref h10, .ref h11])), (h3, .inr (8, [.ref h12, .ref h13, .int 0, .int 0])), (h4, .inr (3, [.ref h14, .int 0, .int 0])), (h14, .inl (G.2.2.2, 8, .inr (.inr (.inr (.inr v1))))), (h15, .inr (8, [.ref h16, .ref h17, .int v2, .int v3])), (h13, .inl (G.2.2.1, 5, .inr (.inr (.inr (.inr v4))))), (h18, .inr (1, [.int v5, .int v6, .int v7])), (h5, .inr (4, [.ref h19, .ref h20, .ref h21, .ref h22, .ref h23, .int v8])), (h19, .inl (G.1, 5, .inl v9))]) (ow_rS (rest := []) (n := 2) ⟨hx, hb, hml, hown, hts⟩ (c_X9_arePlaces_0 l D G p1 p2) k_120 k_119 k_117 k_121 (by decide +kernel) ⟨Nat.le_of_ble_eq_true rfl, Nat.le_of_ble_eq_true rfl⟩ rfl rfl hN hK hP hD [] (by decide) rfl rfl hl.1 rfl (Nat.le_of_ble_eq_true rfl) dX9_driver_2 ⟨Nat.le_of_ble_eq_true rfl, Nat.le_of_ble_eq_true rfl⟩) hP hD hS hA [] [0, 1, 2, 3, 4, 5, 6, 7, 8] rfl rfl (by decide) (by decide) (fun r u H locs hw hP hD hS => ?_)
  rcases hw with ⟨rfl, c_190, rfl⟩ | ⟨rfl, c_191, rfl⟩
  · have hP : va_P D vwCl [(h0, .inr (9, [.ref h3, .ref h4, .ref h5, .ref h6, .ref h7, .ref h8, .ref h9, .ref h10, .ref h11])), (h3, .inr (8, [.ref h12, .ref h13, .int 0, .int 0])), (h4, .inr (3, [.ref h14, .int 0, .int 0])), (h14, .inl (G.2.2.2, 8, .inr (.inr (.inr (.inr v1))))), (h15, .inr (8, [.ref h16, .ref h17, .int v2, .int v3])), (h13, .inl (G.2.2.1, 5, .inr (.inr (.inr (.inr v4))))), (h18, .inr (1, [.int v5, .int v6, .int v7])), (h5, .inr (4, [.ref h19, .ref h20, .ref h21, .ref h22, .ref h23, .int v8])), (h19, .inl (G.1, 5, .inl v9))] H := hP
    have hD : va_D A [(h0, .inr (9, [.ref h3, .ref h4, .ref h5, .ref h6, .ref h7, .ref h8, .ref h9, .ref h10, .ref h11])), (h3, .inr (8, [.ref h12, .ref h13, .int 0, .int 0])), (h4, .inr (3, [.ref h14, .int 0, .int 0])), (h14, .inl (G.2.2.2, 8, .inr (.inr (.inr (.inr v1))))), (h15, .inr (8, [.ref h16, .ref h17, .int v2, .int v3])), (h13, .inl (G.2.2.1, 5, .inr (.inr (.inr (.inr v4))))), (h18, .inr (1, [.int v5, .int v6, .int v7])), (h5, .inr (4, [.ref h19, .ref h20, .ref h21, .ref h22, .ref h23, .int v8])), (h19, .inl (G.1, 5, .inl v9))] := hD
    refine W.widen (k := 0) (n := 0) (Nat.le_of_ble_eq_true rfl) (Nat.le_of_ble_eq_true rfl) ?_
    refine lv_if_ne (tgt := 11) hx hb dX9_driver_5 (by decide) (fun h9 => absurd h9 (by decide)) (fun _ => ?_)
    refine lv_bipush (v := (-3)) hx hb dX9_driver_8 (by decide) ?_
    exact ow_iret (ty := .int) (u := []) hx hb hr hlocks rfl hP hD hS [] (by decide) rfl dX9_driver_10 (Or.inl ⟨rfl, (by omega), rfl⟩)
  · have hP : va_P D vwCl [(h0, .inr (9, [.ref h3, .ref h4, .ref h5, .ref h6, .ref h7, .ref h8, .ref h9, .ref h10, .ref h11])), (h3, .inr (8, [.ref h12, .ref h13, .int 0, .int 0])), (h4, .inr (3, [.ref h14, .int 0, .int 0])), (h14, .inl (G.2.2.2, 8, .inr (.inr (.inr (.inr v1))))), (h15, .inr (8, [.ref h16, .ref h17, .int v2, .int v3])), (h13, .inl (G.2.2.1, 5, .inr (.inr (.inr (.inr v4))))), (h18, .inr (1, [.int v5, .int v6, .int v7])), (h5, .inr (4, [.ref h19, .ref h20, .ref h21, .ref h22, .ref h23, .int v8])), (h19, .inl (G.1, 5, .inl v9))] H := hP
    have hD : va_D A [(h0, .inr (9, [.ref h3, .ref h4, .ref h5, .ref h6, .ref h7, .ref h8, .ref h9, .ref h10, .ref h11])), (h3, .inr (8, [.ref h12, .ref h13, .int 0, .int 0])), (h4, .inr (3, [.ref h14, .int 0, .int 0])), (h14, .inl (G.2.2.2, 8, .inr (.inr (.inr (.inr v1))))), (h15, .inr (8, [.ref h16, .ref h17, .int v2, .int v3])), (h13, .inl (G.2.2.1, 5, .inr (.inr (.inr (.inr v4))))), (h18, .inr (1, [.int v5, .int v6, .int v7])), (h5, .inr (4, [.ref h19, .ref h20, .ref h21, .ref h22, .ref h23, .int v8])), (h19, .inl (G.1, 5, .inl v9))] := hD
    refine W.widen (k := 0) (n := 0) (Nat.le_of_ble_eq_true rfl) (Nat.le_of_ble_eq_true rfl) ?_
    refine lv_if_ne (tgt := 11) hx hb dX9_driver_5 (by decide) (fun _ => ?_) (fun h9 => absurd h9 (by decide))
    refine lv_aload_n hx hb dX9_driver_11 rfl (lv_at hl 0 rfl) ?_
    refine va_get (D := D) (ci := 9) (v := .ref h3) (C := RX9) (T := TX9) (N := 9) hx hb hts inlX9 hown hK hP 0 rfl rfl 0 (by decide) (hts _ k_25) (fun _ h9 => h9) rfl dX9_driver_12 ?_
    refine va_getN (D := D) (ci := 8) (v := .int 0) (C := RX8) (T := TX8) (N := 4) hx hb hts inlX8 hown hK hP 1 rfl rfl 3 (by decide) (va_Nw.use rfl (hN.1 42 _ rfl)) (fun _ h9 => h9) rfl dX9_driver_15 ?_
    refine lv_iconst (v := 5) hx hb dX9_driver_18 (by decide) ?_
    refine lv_icmp_lt (tgt := 25) hx hb dX9_driver_19 (by decide) (fun _ => ?_) (fun h9 => absurd h9 (by decide))
    refine lv_aload_n hx hb dX9_driver_25 rfl (lv_at hl 0 rfl) ?_
    refine va_get (D := D) (ci := 9) (v := .ref h4) (C := RX9) (T := TX9) (N := 9) hx hb hts inlX9 hown hK hP 0 rfl rfl 1 (by decide) (hts _ k_34) (fun _ h9 => h9) rfl dX9_driver_26 ?_
    refine lv_aload_n hx hb dX9_driver_29 rfl (lv_at hl 0 rfl) ?_
    refine va_get (D := D) (ci := 9) (v := .ref h3) (C := RX9) (T := TX9) (N := 9) hx hb hts inlX9 hown hK hP 0 rfl rfl 0 (by decide) (hts _ k_25) (fun _ h9 => h9) rfl dX9_driver_30 ?_
    refine ow_cv (wr := [(h0, .inr (9, [.ref h3, .ref h4, .ref h5, .ref h6, .ref h7, .ref h8, .ref h9, .ref h10, .ref h11])), (h13, .inl (G.2.2.1, 5, .inr (.inr (.inr (.inr v4))))), (h18, .inr (1, [.int v5, .int v6, .int v7])), (h5, .inr (4, [.ref h19, .ref h20, .ref h21, .ref h22, .ref h23, .int v8])), (h19, .inl (G.1, 5, .inl v9))]) (ow_rVN (rest := []) (n := 1) (iN := 74) (ci := 3) (q := (RX3, TX3, 3)) ⟨hx, hb, hml, hown, hts⟩ (c_X3_keep_0 l D G h4 h3 h14 v1 h15 h16 h17 v2 v3 h12 h13 hk_h14_0) k_133 rfl k_28 k_134 k_135 (by decide +kernel) ⟨Nat.le_of_ble_eq_true rfl, Nat.le_of_ble_eq_true rfl⟩ rfl rfl hN hK hP hD [2, 3, 4, 1] (by decide) rfl rfl rfl rfl hl.1 rfl (Nat.le_of_ble_eq_true rfl) dX9_driver_33 ⟨Nat.le_of_ble_eq_true rfl, Nat.le_of_ble_eq_true rfl⟩) hP hD hS hA [2, 3, 4, 1] [0, 5, 6, 7, 8] rfl rfl (by decide) (by decide) (fun u H locs hw hP hD hS => ?_)
    obtain ⟨c_192, rfl⟩ := hw
    have hP : va_P D vwCl [(h0, .inr (9, [.ref h3, .ref h4, .ref h5, .ref h6, .ref h7, .ref h8, .ref h9, .ref h10, .ref h11])), (h13, .inl (G.2.2.1, 5, .inr (.inr (.inr (.inr v4))))), (h18, .inr (1, [.int v5, .int v6, .int v7])), (h5, .inr (4, [.ref h19, .ref h20, .ref h21, .ref h22, .ref h23, .int v8])), (h19, .inl (G.1, 5, .inl v9)), (h4, .inr (3, [.ref h14, .int 1, .int 1])), (h14, .inl (G.2.2.2, 8, .inr (.inr (.inr (.inr v1))))), (h15, .inr (8, [.ref h16, .ref h17, .int 0, .int 0])), (h3, .inr (8, [.ref h12, .ref h13, .int 0, .int 0]))] H := hP
    have hD : va_D A [(h0, .inr (9, [.ref h3, .ref h4, .ref h5, .ref h6, .ref h7, .ref h8, .ref h9, .ref h10, .ref h11])), (h13, .inl (G.2.2.1, 5, .inr (.inr (.inr (.inr v4))))), (h18, .inr (1, [.int v5, .int v6, .int v7])), (h5, .inr (4, [.ref h19, .ref h20, .ref h21, .ref h22, .ref h23, .int v8])), (h19, .inl (G.1, 5, .inl v9)), (h4, .inr (3, [.ref h14, .int 1, .int 1])), (h14, .inl (G.2.2.2, 8, .inr (.inr (.inr (.inr v1))))), (h15, .inr (8, [.ref h16, .ref h17, .int 0, .int 0])), (h3, .inr (8, [.ref h12, .ref h13, .int 0, .int 0]))] := hD
    refine W.widen (k := 0) (n := 0) (Nat.le_of_ble_eq_true rfl) (Nat.le_of_ble_eq_true rfl) ?_
    refine lv_aload_n hx hb dX9_driver_36 rfl (lv_at hl 0 rfl) ?_
    refine va_get (D := D) (ci := 9) (v := .ref h3) (C := RX9) (T := TX9) (N := 9) hx hb hts inlX9 hown hK hP 0 rfl rfl 0 (by decide) (hts _ k_25) (fun _ h9 => h9) rfl dX9_driver_37 ?_
    refine va_getN (D := D) (ci := 8) (v := .int 0) (C := RX8) (T := TX8) (N := 4) hx hb hts inlX8 hown hK hP 8 rfl rfl 3 (by decide) (va_Nw.use rfl (hN.1 42 _ rfl)) (fun _ h9 => h9) rfl dX9_driver_40 ?_
    refine lv_istore_n (lv' := [(3, .int 0), (0, .ref h0), (1, .int p1), (2, .int p2)]) hx hb dX9_driver_43 rfl hl (by decide) rfl (fun ls hl => ?_)
    refine lv_aload_n hx hb dX9_driver_44 rfl (lv_at hl 1 rfl) ?_
    refine va_get (D := D) (ci := 9) (v := .ref h3) (C := RX9) (T := TX9) (N := 9) hx hb hts inlX9 hown hK hP 0 rfl rfl 0 (by decide) (hts _ k_25) (fun _ h9 => h9) rfl dX9_driver_45 ?_
    refine va_getN (D := D) (ci := 8) (v := .ref h13) (C := RX8) (T := TX8) (N := 4) hx hb hts inlX8 hown hK hP 8 rfl rfl 1 (by decide) (va_Nw.use rfl (hN.1 35 _ rfl)) (fun _ h9 => h9) rfl dX9_driver_48 ?_
    refine lv_iload_n hx hb dX9_driver_51 rfl (lv_at hl 0 rfl) ?_
    refine ow_ald (q0 := 1) (t0 := 2) (r := h18) hx hb hK hP rfl rfl (show ¬ ((0 : Int32) < 0 ∨ 5 ≤ (0 : Int32).toNatClampNeg) by decide) hk_h13_0 dX9_driver_52 ?_
    refine lv_iload_n hx hb dX9_driver_53 rfl (lv_at hl 2 rfl) ?_
    refine lv_iload_n hx hb dX9_driver_54 rfl (lv_at hl 3 rfl) ?_
    refine ow_cv (wr := [(h0, .inr (9, [.ref h3, .ref h4, .ref h5, .ref h6, .ref h7, .ref h8, .ref h9, .ref h10, .ref h11])), (h13, .inl (G.2.2.1, 5, .inr (.inr (.inr (.inr v4))))), (h5, .inr (4, [.ref h19, .ref h20, .ref h21, .ref h22, .ref h23, .int v8])), (h19, .inl (G.1, 5, .inl v9)), (h4, .inr (3, [.ref h14, .int 1, .int 1])), (h14, .inl (G.2.2.2, 8, .inr (.inr (.inr (.inr v1))))), (h15, .inr (8, [.ref h16, .ref h17, .int 0, .int 0])), (h3, .inr (8, [.ref h12, .ref h13, .int 0, .int 0]))]) (ow_rVN (rest := []) (n := 2) (iN := 87) (ci := 1) (q := (RX1, TX1, 3)) ⟨hx, hb, hml, hown, hts⟩ (c_X1_begin_0 l D G h18 p1 p2 v5 v6 v7) k_162 rfl k_19 k_163 k_164 (by decide +kernel) ⟨Nat.le_of_ble_eq_true rfl, Nat.le_of_ble_eq_true rfl⟩ rfl rfl hN hK hP hD [2] (by decide) rfl rfl rfl rfl hl.1 rfl (Nat.le_of_ble_eq_true rfl) dX9_driver_55 ⟨Nat.le_of_ble_eq_true rfl, Nat.le_of_ble_eq_true rfl⟩) hP hD hS hA [2] [0, 1, 3, 4, 5, 6, 7, 8] rfl rfl (by decide) (by decide) (fun u H locs hw hP hD hS => ?_)
    obtain ⟨c_193, rfl⟩ := hw
    have hP : va_P D vwCl [(h0, .inr (9, [.ref h3, .ref h4, .ref h5, .ref h6, .ref h7, .ref h8, .ref h9, .ref h10, .ref h11])), (h13, .inl (G.2.2.1, 5, .inr (.inr (.inr (.inr v4))))), (h5, .inr (4, [.ref h19, .ref h20, .ref h21, .ref h22, .ref h23, .int v8])), (h19, .inl (G.1, 5, .inl v9)), (h4, .inr (3, [.ref h14, .int 1, .int 1])), (h14, .inl (G.2.2.2, 8, .inr (.inr (.inr (.inr v1))))), (h15, .inr (8, [.ref h16, .ref h17, .int 0, .int 0])), (h3, .inr (8, [.ref h12, .ref h13, .int 0, .int 0])), (h18, .inr (1, [.int p1, .int p2, .int (-1)]))] H := hP
    have hD : va_D A [(h0, .inr (9, [.ref h3, .ref h4, .ref h5, .ref h6, .ref h7, .ref h8, .ref h9, .ref h10, .ref h11])), (h13, .inl (G.2.2.1, 5, .inr (.inr (.inr (.inr v4))))), (h5, .inr (4, [.ref h19, .ref h20, .ref h21, .ref h22, .ref h23, .int v8])), (h19, .inl (G.1, 5, .inl v9)), (h4, .inr (3, [.ref h14, .int 1, .int 1])), (h14, .inl (G.2.2.2, 8, .inr (.inr (.inr (.inr v1))))), (h15, .inr (8, [.ref h16, .ref h17, .int 0, .int 0])), (h3, .inr (8, [.ref h12, .ref h13, .int 0, .int 0])), (h18, .inr (1, [.int p1, .int p2, .int (-1)]))] := hD
    refine W.widen (k := 0) (n := 0) (Nat.le_of_ble_eq_true rfl) (Nat.le_of_ble_eq_true rfl) ?_
    refine lv_aload_n hx hb dX9_driver_58 rfl (lv_at hl 1 rfl) ?_
    refine va_get (D := D) (ci := 9) (v := .ref h3) (C := RX9) (T := TX9) (N := 9) hx hb hts inlX9 hown hK hP 0 rfl rfl 0 (by decide) (hts _ k_25) (fun _ h9 => h9) rfl dX9_driver_59 ?_
    refine lv_iload_n hx hb dX9_driver_62 rfl (lv_at hl 0 rfl) ?_
    refine lv_iconst (v := 1) hx hb dX9_driver_63 (by decide) ?_
    refine lv_iadd hx hb dX9_driver_64 ?_
    refine ow_i (y := 1) (by decide) ?_
    refine va_putN (D := D) (ci := 8) (v := .int 1) (ty := .int) (C := RX8) (T := TX8) (N := 4) hx hb hts inlX8 tyX8 tyX8_ok nmX8 hown hK hP hD hS 7 rfl rfl 3 (by decide) (va_Nw.use rfl (hN.1 42 _ rfl)) (fun _ h9 => h9) rfl (tyX8_ok 3 (by decide)) rfl rfl (Nat.le_of_ble_eq_true rfl) dX9_driver_65 (fun H locs hP hD hS => ?_)
    have hP : va_P D vwCl [(h0, .inr (9, [.ref h3, .ref h4, .ref h5, .ref h6, .ref h7, .ref h8, .ref h9, .ref h10, .ref h11])), (h13, .inl (G.2.2.1, 5, .inr (.inr (.inr (.inr v4))))), (h5, .inr (4, [.ref h19, .ref h20, .ref h21, .ref h22, .ref h23, .int v8])), (h19, .inl (G.1, 5, .inl v9)), (h4, .inr (3, [.ref h14, .int 1, .int 1])), (h14, .inl (G.2.2.2, 8, .inr (.inr (.inr (.inr v1))))), (h15, .inr (8, [.ref h16, .ref h17, .int 0, .int 0])), (h3, .inr (8, [.ref h12, .ref h13, .int 0, .int 1])), (h18, .inr (1, [.int p1, .int p2, .int (-1)]))] H := hP
    have hD : va_D A [(h0, .inr (9, [.ref h3, .ref h4, .ref h5, .ref h6, .ref h7, .ref h8, .ref h9, .ref h10, .ref h11])), (h13, .inl (G.2.2.1, 5, .inr (.inr (.inr (.inr v4))))), (h5, .inr (4, [.ref h19, .ref h20, .ref h21, .ref h22, .ref h23, .int v8])), (h19, .inl (G.1, 5, .inl v9)), (h4, .inr (3, [.ref h14, .int 1, .int 1])), (h14, .inl (G.2.2.2, 8, .inr (.inr (.inr (.inr v1))))), (h15, .inr (8, [.ref h16, .ref h17, .int 0, .int 0])), (h3, .inr (8, [.ref h12, .ref h13, .int 0, .int 1])), (h18, .inr (1, [.int p1, .int p2, .int (-1)]))] := hD
    refine lv_aload_n hx hb dX9_driver_68 rfl (lv_at hl 1 rfl) ?_
    refine va_get (D := D) (ci := 9) (v := .ref h5) (C := RX9) (T := TX9) (N := 9) hx hb hts inlX9 hown hK hP 0 rfl rfl 2 (by decide) (hts _ k_46) (fun _ h9 => h9) rfl dX9_driver_69 ?_
    refine lv_aload_n hx hb dX9_driver_72 rfl (lv_at hl 1 rfl) ?_
    refine va_get (D := D) (ci := 9) (v := .ref h3) (C := RX9) (T := TX9) (N := 9) hx hb hts inlX9 hown hK hP 0 rfl rfl 0 (by decide) (hts _ k_25) (fun _ h9 => h9) rfl dX9_driver_73 ?_
    refine lv_iconst (v := (-1)) hx hb dX9_driver_76 (by decide) ?_
    refine ow_cv (wr := [(h0, .inr (9, [.ref h3, .ref h4, .ref h5, .ref h6, .ref h7, .ref h8, .ref h9, .ref h10, .ref h11])), (h4, .inr (3, [.ref h14, .int 1, .int 1])), (h14, .inl (G.2.2.2, 8, .inr (.inr (.inr (.inr v1))))), (h15, .inr (8, [.ref h16, .ref h17, .int 0, .int 0]))]) (ow_rVN (rest := []) (n := 2) (iN := 79) (ci := 4) (q := (RX4, TX4, 6)) ⟨hx, hb, hml, hown, hts⟩ (c_X4_find_1 l D G h5 h3 h19 h20 h21 h22 h23 v8 h12 h13 v4 h18 p1 p2 (-1) v9 hk_h13_0) k_149 rfl k_37 k_150 k_151 (by decide +kernel) ⟨Nat.le_of_ble_eq_true rfl, Nat.le_of_ble_eq_true rfl⟩ rfl rfl hN hK hP hD [2, 7, 1, 8, 3] (by decide) rfl rfl rfl rfl hl.1 rfl (Nat.le_of_ble_eq_true rfl) dX9_driver_77 ⟨Nat.le_of_ble_eq_true rfl, Nat.le_of_ble_eq_true rfl⟩) hP hD hS hA [2, 7, 1, 8, 3] [0, 4, 5, 6] rfl rfl (by decide) (by decide) (fun u H locs hw hP hD hS => ?_)
    obtain ⟨c_195, f194, rfl⟩ := hw
    have hP : va_P D vwCl [(h0, .inr (9, [.ref h3, .ref h4, .ref h5, .ref h6, .ref h7, .ref h8, .ref h9, .ref h10, .ref h11])), (h4, .inr (3, [.ref h14, .int 1, .int 1])), (h14, .inl (G.2.2.2, 8, .inr (.inr (.inr (.inr v1))))), (h15, .inr (8, [.ref h16, .ref h17, .int 0, .int 0])), (h13, .inl (G.2.2.1, 5, .inr (.inr (.inr (.inr v4))))), (h18, .inr (1, [.int p1, .int p2, .int (-1)])), (h19, .inl (G.1, 5, .inl f194)), (h5, .inr (4, [.ref h19, .ref h20, .ref h21, .ref h22, .ref h23, .int 1])), (h3, .inr (8, [.ref h12, .ref h13, .int 0, .int 1]))] H := hP
    have hD : va_D A [(h0, .inr (9, [.ref h3, .ref h4, .ref h5, .ref h6, .ref h7, .ref h8, .ref h9, .ref h10, .ref h11])), (h4, .inr (3, [.ref h14, .int 1, .int 1])), (h14, .inl (G.2.2.2, 8, .inr (.inr (.inr (.inr v1))))), (h15, .inr (8, [.ref h16, .ref h17, .int 0, .int 0])), (h13, .inl (G.2.2.1, 5, .inr (.inr (.inr (.inr v4))))), (h18, .inr (1, [.int p1, .int p2, .int (-1)])), (h19, .inl (G.1, 5, .inl f194)), (h5, .inr (4, [.ref h19, .ref h20, .ref h21, .ref h22, .ref h23, .int 1])), (h3, .inr (8, [.ref h12, .ref h13, .int 0, .int 1]))] := hD
    refine W.widen (k := 0) (n := 0) (Nat.le_of_ble_eq_true rfl) (Nat.le_of_ble_eq_true rfl) ?_
    refine lv_iload_n hx hb dX9_driver_80 rfl (lv_at hl 0 rfl) ?_
    exact ow_iret (ty := .int) (u := []) hx hb hr hlocks rfl hP hD hS [] (by decide) rfl dX9_driver_81 (Or.inr (⟨rfl, (by omega), rfl⟩))
set_option maxHeartbeats 4000000 in
set_option maxRecDepth 100000 in
theorem c_X8_driverAt_0 (l : Launch) (D : va_G) (G : ow_C) (h0 : Nat) (p1 : Int32) (h2 : Nat) (h3 : Nat) (v1 : Int32) : ow_M l D G yX8_driverAt cX8_driverAt 2 (some (.object "SelfishTown$Driver")) ({ frames := 1, cells := 0, slots := 0, locals := 64 } : Room) [.ref h0, .int p1] [(h0, .inr (8, [.ref h2, .ref h3, .int v1, .int 0]))] (ow_N D (fun u => (True ∧ u = [(h0, .inr (8, [.ref h2, .ref h3, .int v1, .int 0]))]))) 0 0 := by
  refine ow_met (by decide) (Nat.le_of_ble_eq_true rfl) ?_
  intro p e s m args below meth c A ls hE hl
  obtain ⟨hx, hb, hr, hml, hown, hlocks, hnm, hts, hN, hK, hP, hD, hA, hS⟩ := id hE
  have hown : s.vm.findClass RX8 = some m.cls := hown
  have hP : va_P D vwCl [(h0, .inr (8, [.ref h2, .ref h3, .int v1, .int 0]))] s.heap := hP
  have hD : va_D A [(h0, .inr (8, [.ref h2, .ref h3, .int v1, .int 0]))] := hD
  have hl : lv_has ls 2 [(0, .ref h0), (1, .int p1)] := hl
  refine lv_iload_n hx hb dX8_driverAt_0 rfl (lv_at hl 1 rfl) ?_
  refine lv_if_lt (tgt := 21) hx hb dX8_driverAt_1 (by decide) (fun c_196 => ?_) (fun c_196 => ?_)
  · have z_196 := q_lt (a := p1.toInt) (b := 0) rfl (by decide) c_196
    refine lv_null hx hb dX8_driverAt_21 ?_
    exact ow_nret (u := [(h0, .inr (8, [.ref h2, .ref h3, .int v1, .int 0]))]) hx hb hr hlocks hP hD hS [0] (by decide) rfl dX8_driverAt_22 ⟨trivial, rfl⟩
  · have z_196 := q_nlt (a := p1.toInt) (b := 0) rfl (by decide) c_196
    refine lv_iload_n hx hb dX8_driverAt_4 rfl (lv_at hl 1 rfl) ?_
    refine lv_aload_n hx hb dX8_driverAt_5 rfl (lv_at hl 0 rfl) ?_
    refine va_get (D := D) (ci := 8) (v := .int 0) (C := RX8) (T := TX8) (N := 4) hx hb hts inlX8 hown hK hP 0 rfl rfl 3 (by decide) (hts _ k_124) (fun _ h9 => h9) rfl dX8_driverAt_6 ?_
    refine lv_icmp_ge (tgt := 21) hx hb dX8_driverAt_9 (by decide) (fun c_197 => ?_) (fun c_197 => by exfalso; have z_197 := q_nle (a := 0) (b := p1.toInt) (by decide) rfl c_197; omega)
    have z_197 := q_le (a := 0) (b := p1.toInt) (by decide) rfl c_197
    refine lv_null hx hb dX8_driverAt_21 ?_
    exact ow_nret (u := [(h0, .inr (8, [.ref h2, .ref h3, .int v1, .int 0]))]) hx hb hr hlocks hP hD hS [0] (by decide) rfl dX8_driverAt_22 ⟨trivial, rfl⟩
set_option maxHeartbeats 4000000 in
set_option maxRecDepth 100000 in
theorem c_X9_ways_0 (l : Launch) (D : va_G) (G : ow_C) (h0 : Nat) (p1 : Int32) (h2 : Nat) (h3 : Nat) (h4 : Nat) (h5 : Nat) (h6 : Nat) (h7 : Nat) (h8 : Nat) (h9 : Nat) (h10 : Nat) (h11 : Nat) (h12 : Nat) (v1 : Int32) : ow_M l D G yX9_ways cX9_ways 2 (some .int) ({ frames := 2, cells := 0, slots := 0, locals := 85 } : Room) [.ref h0, .int p1] [(h0, .inr (9, [.ref h2, .ref h3, .ref h4, .ref h5, .ref h6, .ref h7, .ref h8, .ref h9, .ref h10])), (h2, .inr (8, [.ref h11, .ref h12, .int v1, .int 0]))] (ow_I D (fun r u => (r = (-3) ∧ True ∧ u = []))) 0 0 := by
  refine ow_met (by decide) (Nat.le_of_ble_eq_true rfl) ?_
  intro p e s m args below meth c A ls hE hl
  obtain ⟨hx, hb, hr, hml, hown, hlocks, hnm, hts, hN, hK, hP, hD, hA, hS⟩ := id hE
  have hown : s.vm.findClass RX9 = some m.cls := hown
  have hP : va_P D vwCl [(h0, .inr (9, [.ref h2, .ref h3, .ref h4, .ref h5, .ref h6, .ref h7, .ref h8, .ref h9, .ref h10])), (h2, .inr (8, [.ref h11, .ref h12, .int v1, .int 0]))] s.heap := hP
  have hD : va_D A [(h0, .inr (9, [.ref h2, .ref h3, .ref h4, .ref h5, .ref h6, .ref h7, .ref h8, .ref h9, .ref h10])), (h2, .inr (8, [.ref h11, .ref h12, .int v1, .int 0]))] := hD
  have hl : lv_has ls 2 [(0, .ref h0), (1, .int p1)] := hl
  refine lv_aload_n hx hb dX9_ways_0 rfl (lv_at hl 0 rfl) ?_
  refine va_get (D := D) (ci := 9) (v := .ref h2) (C := RX9) (T := TX9) (N := 9) hx hb hts inlX9 hown hK hP 0 rfl rfl 0 (by decide) (hts _ k_25) (fun _ h9 => h9) rfl dX9_ways_1 ?_
  refine lv_iload_n hx hb dX9_ways_4 rfl (lv_at hl 1 rfl) ?_
  refine ow_cn (wr := [(h0, .inr (9, [.ref h2, .ref h3, .ref h4, .ref h5, .ref h6, .ref h7, .ref h8, .ref h9, .ref h10]))]) (ow_rVN (rest := []) (n := 1) (iN := 88) (ci := 8) (q := (RX8, TX8, 4)) ⟨hx, hb, hml, hown, hts⟩ (c_X8_driverAt_0 l D G h2 p1 h11 h12 v1) k_169 rfl k_5 k_170 k_171 (by decide +kernel) ⟨Nat.le_of_ble_eq_true rfl, Nat.le_of_ble_eq_true rfl⟩ rfl rfl hN hK hP hD [1] (by decide) rfl rfl rfl rfl hl.1 rfl (Nat.le_of_ble_eq_true rfl) dX9_ways_5 ⟨Nat.le_of_ble_eq_true rfl, Nat.le_of_ble_eq_true rfl⟩) hP hD hS hA [1] [0] rfl rfl (by decide) (by decide) (fun u H locs hw hP hD hS => ?_)
  obtain ⟨c_196, rfl⟩ := hw
  have hP : va_P D vwCl [(h0, .inr (9, [.ref h2, .ref h3, .ref h4, .ref h5, .ref h6, .ref h7, .ref h8, .ref h9, .ref h10])), (h2, .inr (8, [.ref h11, .ref h12, .int v1, .int 0]))] H := hP
  have hD : va_D A [(h0, .inr (9, [.ref h2, .ref h3, .ref h4, .ref h5, .ref h6, .ref h7, .ref h8, .ref h9, .ref h10])), (h2, .inr (8, [.ref h11, .ref h12, .int v1, .int 0]))] := hD
  refine W.widen (k := 0) (n := 0) (Nat.le_of_ble_eq_true rfl) (Nat.le_of_ble_eq_true rfl) ?_
  refine lv_ifnonnullN hx hb dX9_ways_8 ?_
  refine lv_bipush (v := (-3)) hx hb dX9_ways_11 (by decide) ?_
  refine lv_goto (tgt := 25) hx hb dX9_ways_13 (by decide) ?_
  exact ow_iret (ty := .int) (u := []) hx hb hr hlocks rfl hP hD hS [] (by decide) rfl dX9_ways_25 ⟨rfl, trivial, rfl⟩
set_option maxHeartbeats 4000000 in
set_option maxRecDepth 100000 in
theorem c_X9_way_0 (l : Launch) (D : va_G) (G : ow_C) (h0 : Nat) (p1 : Int32) (p2 : Int32) (p3 : Int32) (h4 : Nat) (h5 : Nat) (h6 : Nat) (h7 : Nat) (h8 : Nat) (h9 : Nat) (h10 : Nat) (h11 : Nat) (h12 : Nat) (h13 : Nat) (h14 : Nat) (v1 : Int32) : ow_M l D G yX9_way cX9_way 5 (some .int) ({ frames := 2, cells := 0, slots := 0, locals := 85 } : Room) [.ref h0, .int p1, .int p2, .int p3] [(h0, .inr (9, [.ref h4, .ref h5, .ref h6, .ref h7, .ref h8, .ref h9, .ref h10, .ref h11, .ref h12])), (h4, .inr (8, [.ref h13, .ref h14, .int v1, .int 0]))] (ow_I D (fun r u => (r = (-3) ∧ True ∧ u = []))) 0 0 := by
  refine ow_met (by decide) (Nat.le_of_ble_eq_true rfl) ?_
  intro p e s m args below meth c A ls hE hl
  obtain ⟨hx, hb, hr, hml, hown, hlocks, hnm, hts, hN, hK, hP, hD, hA, hS⟩ := id hE
  have hown : s.vm.findClass RX9 = some m.cls := hown
  have hP : va_P D vwCl [(h0, .inr (9, [.ref h4, .ref h5, .ref h6, .ref h7, .ref h8, .ref h9, .ref h10, .ref h11, .ref h12])), (h4, .inr (8, [.ref h13, .ref h14, .int v1, .int 0]))] s.heap := hP
  have hD : va_D A [(h0, .inr (9, [.ref h4, .ref h5, .ref h6, .ref h7, .ref h8, .ref h9, .ref h10, .ref h11, .ref h12])), (h4, .inr (8, [.ref h13, .ref h14, .int v1, .int 0]))] := hD
  have hl : lv_has ls 5 [(0, .ref h0), (1, .int p1), (2, .int p2), (3, .int p3)] := hl
  refine lv_aload_n hx hb dX9_way_0 rfl (lv_at hl 0 rfl) ?_
  refine va_get (D := D) (ci := 9) (v := .ref h4) (C := RX9) (T := TX9) (N := 9) hx hb hts inlX9 hown hK hP 0 rfl rfl 0 (by decide) (hts _ k_25) (fun _ h9 => h9) rfl dX9_way_1 ?_
  refine lv_iload_n hx hb dX9_way_4 rfl (lv_at hl 1 rfl) ?_
  refine ow_cn (wr := [(h0, .inr (9, [.ref h4, .ref h5, .ref h6, .ref h7, .ref h8, .ref h9, .ref h10, .ref h11, .ref h12]))]) (ow_rVN (rest := []) (n := 1) (iN := 88) (ci := 8) (q := (RX8, TX8, 4)) ⟨hx, hb, hml, hown, hts⟩ (c_X8_driverAt_0 l D G h4 p1 h13 h14 v1) k_169 rfl k_5 k_170 k_171 (by decide +kernel) ⟨Nat.le_of_ble_eq_true rfl, Nat.le_of_ble_eq_true rfl⟩ rfl rfl hN hK hP hD [1] (by decide) rfl rfl rfl rfl hl.1 rfl (Nat.le_of_ble_eq_true rfl) dX9_way_5 ⟨Nat.le_of_ble_eq_true rfl, Nat.le_of_ble_eq_true rfl⟩) hP hD hS hA [1] [0] rfl rfl (by decide) (by decide) (fun u H locs hw hP hD hS => ?_)
  obtain ⟨c_197, rfl⟩ := hw
  have hP : va_P D vwCl [(h0, .inr (9, [.ref h4, .ref h5, .ref h6, .ref h7, .ref h8, .ref h9, .ref h10, .ref h11, .ref h12])), (h4, .inr (8, [.ref h13, .ref h14, .int v1, .int 0]))] H := hP
  have hD : va_D A [(h0, .inr (9, [.ref h4, .ref h5, .ref h6, .ref h7, .ref h8, .ref h9, .ref h10, .ref h11, .ref h12])), (h4, .inr (8, [.ref h13, .ref h14, .int v1, .int 0]))] := hD
  refine W.widen (k := 0) (n := 0) (Nat.le_of_ble_eq_true rfl) (Nat.le_of_ble_eq_true rfl) ?_
  refine lv_ifnullN (tgt := 32) hx hb dX9_way_8 (by decide) ?_
  refine lv_bipush (v := (-3)) hx hb dX9_way_32 (by decide) ?_
  exact ow_iret (ty := .int) (u := []) hx hb hr hlocks rfl hP hD hS [] (by decide) rfl dX9_way_34 ⟨rfl, trivial, rfl⟩
set_option maxHeartbeats 4000000 in
set_option maxRecDepth 100000 in
theorem c_X9_choose_0 (l : Launch) (D : va_G) (G : ow_C) (h0 : Nat) (p1 : Int32) (p2 : Int32) (h3 : Nat) (h4 : Nat) (h5 : Nat) (h6 : Nat) (h7 : Nat) (h8 : Nat) (h9 : Nat) (h10 : Nat) (h11 : Nat) (h12 : Nat) (h13 : Nat) (v1 : Int32) : ow_M l D G yX9_choose cX9_choose 5 (some .int) ({ frames := 2, cells := 0, slots := 0, locals := 85 } : Room) [.ref h0, .int p1, .int p2] [(h0, .inr (9, [.ref h3, .ref h4, .ref h5, .ref h6, .ref h7, .ref h8, .ref h9, .ref h10, .ref h11])), (h3, .inr (8, [.ref h12, .ref h13, .int v1, .int 0]))] (ow_I D (fun r u => (r = (-3) ∧ True ∧ u = []))) 0 0 := by
  refine ow_met (by decide) (Nat.le_of_ble_eq_true rfl) ?_
  intro p e s m args below meth c A ls hE hl
  obtain ⟨hx, hb, hr, hml, hown, hlocks, hnm, hts, hN, hK, hP, hD, hA, hS⟩ := id hE
  have hown : s.vm.findClass RX9 = some m.cls := hown
  have hP : va_P D vwCl [(h0, .inr (9, [.ref h3, .ref h4, .ref h5, .ref h6, .ref h7, .ref h8, .ref h9, .ref h10, .ref h11])), (h3, .inr (8, [.ref h12, .ref h13, .int v1, .int 0]))] s.heap := hP
  have hD : va_D A [(h0, .inr (9, [.ref h3, .ref h4, .ref h5, .ref h6, .ref h7, .ref h8, .ref h9, .ref h10, .ref h11])), (h3, .inr (8, [.ref h12, .ref h13, .int v1, .int 0]))] := hD
  have hl : lv_has ls 5 [(0, .ref h0), (1, .int p1), (2, .int p2)] := hl
  refine lv_aload_n hx hb dX9_choose_0 rfl (lv_at hl 0 rfl) ?_
  refine va_get (D := D) (ci := 9) (v := .ref h3) (C := RX9) (T := TX9) (N := 9) hx hb hts inlX9 hown hK hP 0 rfl rfl 0 (by decide) (hts _ k_25) (fun _ h9 => h9) rfl dX9_choose_1 ?_
  refine lv_iload_n hx hb dX9_choose_4 rfl (lv_at hl 1 rfl) ?_
  refine ow_cn (wr := [(h0, .inr (9, [.ref h3, .ref h4, .ref h5, .ref h6, .ref h7, .ref h8, .ref h9, .ref h10, .ref h11]))]) (ow_rVN (rest := []) (n := 1) (iN := 88) (ci := 8) (q := (RX8, TX8, 4)) ⟨hx, hb, hml, hown, hts⟩ (c_X8_driverAt_0 l D G h3 p1 h12 h13 v1) k_169 rfl k_5 k_170 k_171 (by decide +kernel) ⟨Nat.le_of_ble_eq_true rfl, Nat.le_of_ble_eq_true rfl⟩ rfl rfl hN hK hP hD [1] (by decide) rfl rfl rfl rfl hl.1 rfl (Nat.le_of_ble_eq_true rfl) dX9_choose_5 ⟨Nat.le_of_ble_eq_true rfl, Nat.le_of_ble_eq_true rfl⟩) hP hD hS hA [1] [0] rfl rfl (by decide) (by decide) (fun u H locs hw hP hD hS => ?_)
  obtain ⟨c_198, rfl⟩ := hw
  have hP : va_P D vwCl [(h0, .inr (9, [.ref h3, .ref h4, .ref h5, .ref h6, .ref h7, .ref h8, .ref h9, .ref h10, .ref h11])), (h3, .inr (8, [.ref h12, .ref h13, .int v1, .int 0]))] H := hP
  have hD : va_D A [(h0, .inr (9, [.ref h3, .ref h4, .ref h5, .ref h6, .ref h7, .ref h8, .ref h9, .ref h10, .ref h11])), (h3, .inr (8, [.ref h12, .ref h13, .int v1, .int 0]))] := hD
  refine W.widen (k := 0) (n := 0) (Nat.le_of_ble_eq_true rfl) (Nat.le_of_ble_eq_true rfl) ?_
  refine lv_astore_nN (lv' := [(3, .null), (0, .ref h0), (1, .int p1), (2, .int p2)]) hx hb dX9_choose_8 rfl hl (by decide) rfl (fun ls hl => ?_)
  refine lv_aload_nN hx hb dX9_choose_9 rfl (lv_at hl 0 rfl) ?_
  refine lv_ifnullN (tgt := 31) hx hb dX9_choose_10 (by decide) ?_
  refine lv_bipush (v := (-3)) hx hb dX9_choose_31 (by decide) ?_
  exact ow_iret (ty := .int) (u := []) hx hb hr hlocks rfl hP hD hS [] (by decide) rfl dX9_choose_33 ⟨rfl, trivial, rfl⟩
set_option maxHeartbeats 4000000 in
set_option maxRecDepth 100000 in
theorem c_X9_told_0 (l : Launch) (D : va_G) (G : ow_C) (h0 : Nat) (p1 : Int32) (p2 : Int32) (h3 : Nat) (h4 : Nat) (h5 : Nat) (h6 : Nat) (h7 : Nat) (h8 : Nat) (h9 : Nat) (h10 : Nat) (h11 : Nat) (h12 : Nat) (h13 : Nat) (v1 : Int32) : ow_M l D G yX9_told cX9_told 4 (some .int) ({ frames := 2, cells := 0, slots := 0, locals := 85 } : Room) [.ref h0, .int p1, .int p2] [(h0, .inr (9, [.ref h3, .ref h4, .ref h5, .ref h6, .ref h7, .ref h8, .ref h9, .ref h10, .ref h11])), (h3, .inr (8, [.ref h12, .ref h13, .int v1, .int 0]))] (ow_I D (fun r u => (r = (-3) ∧ True ∧ u = []))) 0 0 := by
  refine ow_met (by decide) (Nat.le_of_ble_eq_true rfl) ?_
  intro p e s m args below meth c A ls hE hl
  obtain ⟨hx, hb, hr, hml, hown, hlocks, hnm, hts, hN, hK, hP, hD, hA, hS⟩ := id hE
  have hown : s.vm.findClass RX9 = some m.cls := hown
  have hP : va_P D vwCl [(h0, .inr (9, [.ref h3, .ref h4, .ref h5, .ref h6, .ref h7, .ref h8, .ref h9, .ref h10, .ref h11])), (h3, .inr (8, [.ref h12, .ref h13, .int v1, .int 0]))] s.heap := hP
  have hD : va_D A [(h0, .inr (9, [.ref h3, .ref h4, .ref h5, .ref h6, .ref h7, .ref h8, .ref h9, .ref h10, .ref h11])), (h3, .inr (8, [.ref h12, .ref h13, .int v1, .int 0]))] := hD
  have hl : lv_has ls 4 [(0, .ref h0), (1, .int p1), (2, .int p2)] := hl
  refine lv_aload_n hx hb dX9_told_0 rfl (lv_at hl 0 rfl) ?_
  refine va_get (D := D) (ci := 9) (v := .ref h3) (C := RX9) (T := TX9) (N := 9) hx hb hts inlX9 hown hK hP 0 rfl rfl 0 (by decide) (hts _ k_25) (fun _ h9 => h9) rfl dX9_told_1 ?_
  refine lv_iload_n hx hb dX9_told_4 rfl (lv_at hl 1 rfl) ?_
  refine ow_cn (wr := [(h0, .inr (9, [.ref h3, .ref h4, .ref h5, .ref h6, .ref h7, .ref h8, .ref h9, .ref h10, .ref h11]))]) (ow_rVN (rest := []) (n := 1) (iN := 88) (ci := 8) (q := (RX8, TX8, 4)) ⟨hx, hb, hml, hown, hts⟩ (c_X8_driverAt_0 l D G h3 p1 h12 h13 v1) k_169 rfl k_5 k_170 k_171 (by decide +kernel) ⟨Nat.le_of_ble_eq_true rfl, Nat.le_of_ble_eq_true rfl⟩ rfl rfl hN hK hP hD [1] (by decide) rfl rfl rfl rfl hl.1 rfl (Nat.le_of_ble_eq_true rfl) dX9_told_5 ⟨Nat.le_of_ble_eq_true rfl, Nat.le_of_ble_eq_true rfl⟩) hP hD hS hA [1] [0] rfl rfl (by decide) (by decide) (fun u H locs hw hP hD hS => ?_)
  obtain ⟨c_199, rfl⟩ := hw
  have hP : va_P D vwCl [(h0, .inr (9, [.ref h3, .ref h4, .ref h5, .ref h6, .ref h7, .ref h8, .ref h9, .ref h10, .ref h11])), (h3, .inr (8, [.ref h12, .ref h13, .int v1, .int 0]))] H := hP
  have hD : va_D A [(h0, .inr (9, [.ref h3, .ref h4, .ref h5, .ref h6, .ref h7, .ref h8, .ref h9, .ref h10, .ref h11])), (h3, .inr (8, [.ref h12, .ref h13, .int v1, .int 0]))] := hD
  refine W.widen (k := 0) (n := 0) (Nat.le_of_ble_eq_true rfl) (Nat.le_of_ble_eq_true rfl) ?_
  refine lv_astore_nN (lv' := [(3, .null), (0, .ref h0), (1, .int p1), (2, .int p2)]) hx hb dX9_told_8 rfl hl (by decide) rfl (fun ls hl => ?_)
  refine lv_aload_nN hx hb dX9_told_9 rfl (lv_at hl 0 rfl) ?_
  refine lv_ifnullN (tgt := 22) hx hb dX9_told_10 (by decide) ?_
  refine lv_bipush (v := (-3)) hx hb dX9_told_22 (by decide) ?_
  exact ow_iret (ty := .int) (u := []) hx hb hr hlocks rfl hP hD hS [] (by decide) rfl dX9_told_24 ⟨rfl, trivial, rfl⟩
set_option maxHeartbeats 4000000 in
set_option maxRecDepth 100000 in
theorem c_X8_choosers_0 (l : Launch) (D : va_G) (G : ow_C) (h0 : Nat) (h1 : Nat) (h2 : Nat) (v1 : Int32) : ow_M l D G yX8_choosers cX8_choosers 3 (some .int) ({ frames := 1, cells := 0, slots := 0, locals := 64 } : Room) [.ref h0] [(h0, .inr (8, [.ref h1, .ref h2, .int v1, .int 0]))] (ow_I D (fun r u => (r = 0 ∧ True ∧ u = [(h0, .inr (8, [.ref h1, .ref h2, .int v1, .int 0]))]))) 0 0 := by
  refine ow_met (by decide) (Nat.le_of_ble_eq_true rfl) ?_
  intro p e s m args below meth c A ls hE hl
  obtain ⟨hx, hb, hr, hml, hown, hlocks, hnm, hts, hN, hK, hP, hD, hA, hS⟩ := id hE
  have hown : s.vm.findClass RX8 = some m.cls := hown
  have hP : va_P D vwCl [(h0, .inr (8, [.ref h1, .ref h2, .int v1, .int 0]))] s.heap := hP
  have hD : va_D A [(h0, .inr (8, [.ref h1, .ref h2, .int v1, .int 0]))] := hD
  have hl : lv_has ls 3 [(0, .ref h0)] := hl
  refine lv_iconst (v := 0) hx hb dX8_choosers_0 (by decide) ?_
  refine lv_istore_n (lv' := [(1, .int 0), (0, .ref h0)]) hx hb dX8_choosers_1 rfl hl (by decide) rfl (fun ls hl => ?_)
  refine lv_iconst (v := 0) hx hb dX8_choosers_2 (by decide) ?_
  refine lv_istore_n (lv' := [(2, .int 0), (1, .int 0), (0, .ref h0)]) hx hb dX8_choosers_3 rfl hl (by decide) rfl (fun ls hl => ?_)
  refine lv_iload_n hx hb dX8_choosers_4 rfl (lv_at hl 0 rfl) ?_
  refine lv_aload_n hx hb dX8_choosers_5 rfl (lv_at hl 2 rfl) ?_
  refine va_get (D := D) (ci := 8) (v := .int 0) (C := RX8) (T := TX8) (N := 4) hx hb hts inlX8 hown hK hP 0 rfl rfl 3 (by decide) (hts _ k_124) (fun _ h9 => h9) rfl dX8_choosers_6 ?_
  refine lv_icmp_ge (tgt := 39) hx hb dX8_choosers_9 (by decide) (fun _ => ?_) (fun h9 => absurd h9 (by decide))
  refine lv_iload_n hx hb dX8_choosers_39 rfl (lv_at hl 1 rfl) ?_
  exact ow_iret (ty := .int) (u := [(h0, .inr (8, [.ref h1, .ref h2, .int v1, .int 0]))]) hx hb hr hlocks rfl hP hD hS [0] (by decide) rfl dX8_choosers_40 ⟨rfl, trivial, rfl⟩
set_option maxHeartbeats 4000000 in
set_option maxRecDepth 100000 in
theorem c_X8_isHabit_0 (l : Launch) (D : va_G) (G : ow_C) (h0 : Nat) (h1 : Nat) (h2 : Nat) (v1 : Int32) : ow_M l D G yX8_isHabit cX8_isHabit 1 (some .boolean) ({ frames := 2, cells := 0, slots := 0, locals := 86 } : Room) [.ref h0] [(h0, .inr (8, [.ref h1, .ref h2, .int v1, .int 0]))] (ow_I D (fun r u => (r = 1 ∧ True ∧ u = [(h0, .inr (8, [.ref h1, .ref h2, .int v1, .int 0]))]))) 0 0 := by
  refine ow_met (by decide) (Nat.le_of_ble_eq_true rfl) ?_
  intro p e s m args below meth c A ls hE hl
  obtain ⟨hx, hb, hr, hml, hown, hlocks, hnm, hts, hN, hK, hP, hD, hA, hS⟩ := id hE
  have hown : s.vm.findClass RX8 = some m.cls := hown
  have hP : va_P D vwCl [(h0, .inr (8, [.ref h1, .ref h2, .int v1, .int 0]))] s.heap := hP
  have hD : va_D A [(h0, .inr (8, [.ref h1, .ref h2, .int v1, .int 0]))] := hD
  have hl : lv_has ls 1 [(0, .ref h0)] := hl
  refine lv_aload_n hx hb dX8_isHabit_0 rfl (lv_at hl 0 rfl) ?_
  refine ow_ci (wr := []) (ow_rV (rest := []) (n := 0) (ci := 8) (q := (RX8, TX8, 4)) ⟨hx, hb, hml, hown, hts⟩ (c_X8_choosers_0 l D G h0 h1 h2 v1) k_173 k_172 k_5 k_174 k_175 (by decide +kernel) ⟨Nat.le_of_ble_eq_true rfl, Nat.le_of_ble_eq_true rfl⟩ rfl rfl hN hK hP hD [0] (by decide) rfl rfl rfl rfl hl.1 rfl (Nat.le_of_ble_eq_true rfl) dX8_isHabit_1 ⟨Nat.le_of_ble_eq_true rfl, Nat.le_of_ble_eq_true rfl⟩) hP hD hS hA [0] [] rfl rfl (by decide) (by decide) (fun r u H locs hw hP hD hS => ?_)
  obtain ⟨rfl, c_202, rfl⟩ := hw
  have hP : va_P D vwCl [(h0, .inr (8, [.ref h1, .ref h2, .int v1, .int 0]))] H := hP
  have hD : va_D A [(h0, .inr (8, [.ref h1, .ref h2, .int v1, .int 0]))] := hD
  refine W.widen (k := 0) (n := 0) (Nat.le_of_ble_eq_true rfl) (Nat.le_of_ble_eq_true rfl) ?_
  refine lv_aload_n hx hb dX8_isHabit_4 rfl (lv_at hl 0 rfl) ?_
  refine va_get (D := D) (ci := 8) (v := .int 0) (C := RX8) (T := TX8) (N := 4) hx hb hts inlX8 hown hK hP 0 rfl rfl 3 (by decide) (hts _ k_124) (fun _ h9 => h9) rfl dX8_isHabit_5 ?_
  refine lv_icmp_ne (tgt := 15) hx hb dX8_isHabit_8 (by decide) (fun h9 => absurd h9 (by decide)) (fun _ => ?_)
  refine lv_iconst (v := 1) hx hb dX8_isHabit_11 (by decide) ?_
  refine lv_goto (tgt := 16) hx hb dX8_isHabit_12 (by decide) ?_
  exact ow_iret (ty := .boolean) (u := [(h0, .inr (8, [.ref h1, .ref h2, .int v1, .int 0]))]) hx hb hr hlocks rfl hP hD hS [0] (by decide) rfl dX8_isHabit_16 ⟨rfl, trivial, rfl⟩
set_option maxHeartbeats 4000000 in
set_option maxRecDepth 100000 in
theorem c_J7_fill_53178_0 (l : Launch) (D : va_G) (G : ow_C) (h0 : Nat) (v1 : Nat → Int32) : ow_M l D G yJ7_fill_53178 cJ7_fill_53178 4 none ({ frames := 1, cells := 0, slots := 0, locals := 64 } : Room) [.ref h0, .int (-1)] [(h0, .inl (G.1, 5, .inl v1))] (ow_V D (fun u => (True ∧ (∃ e0 : Nat → Int32, u = [(h0, .inl (G.1, 5, .inl e0))])))) 0 0 := by
  refine ow_met (by decide) (Nat.le_of_ble_eq_true rfl) ?_
  intro p e s m args below meth c A ls hE hl
  obtain ⟨hx, hb, hr, hml, hown, hlocks, hnm, hts, hN, hK, hP, hD, hA, hS⟩ := id hE
  have hown : s.vm.findClass RJ7 = some m.cls := hown
  have hP : va_P D vwCl [(h0, .inl (G.1, 5, .inl v1))] s.heap := hP
  have hD : va_D A [(h0, .inl (G.1, 5, .inl v1))] := hD
  have hl : lv_has ls 4 [(0, .ref h0), (1, .int (-1))] := hl
  refine lv_iconst (v := 0) hx hb dJ7_fill_53178_0 (by decide) ?_
  refine lv_istore_n (lv' := [(2, .int 0), (0, .ref h0), (1, .int (-1))]) hx hb dJ7_fill_53178_1 rfl hl (by decide) rfl (fun ls hl => ?_)
  refine lv_aload_n hx hb dJ7_fill_53178_2 rfl (lv_at hl 1 rfl) ?_
  refine va_alen (v := 5) hx hb hK hP 0 0 rfl rfl rfl dJ7_fill_53178_3 ?_
  refine lv_istore_n (lv' := [(3, .int 5), (2, .int 0), (0, .ref h0), (1, .int (-1))]) hx hb dJ7_fill_53178_4 rfl hl (by decide) rfl (fun ls hl => ?_)
  refine lv_iload_n hx hb dJ7_fill_53178_5 rfl (lv_at hl 1 rfl) ?_
  refine lv_iload_n hx hb dJ7_fill_53178_6 rfl (lv_at hl 0 rfl) ?_
  refine lv_icmp_ge (tgt := 20) hx hb dJ7_fill_53178_7 (by decide) (fun h9 => absurd h9 (by decide)) (fun _ => ?_)
  refine lv_aload_n hx hb dJ7_fill_53178_10 rfl (lv_at hl 2 rfl) ?_
  refine lv_iload_n hx hb dJ7_fill_53178_11 rfl (lv_at hl 1 rfl) ?_
  refine lv_iload_n hx hb dJ7_fill_53178_12 rfl (lv_at hl 3 rfl) ?_
  refine va_iast hx hb hK hP hD hS 0 0 rfl rfl (show ¬ ((0 : Int32) < 0 ∨ 5 ≤ (0 : Int32).toNatClampNeg) by decide) dJ7_fill_53178_13 (fun H locs hP hD hS => ?_)
  obtain ⟨f204, hP, hD⟩ : ∃ f204, va_P D vwCl [(h0, .inl (G.1, 5, .inl f204))] H ∧ va_D A [(h0, .inl (G.1, 5, .inl f204))] := ⟨_, hP, hD⟩
  refine lv_iinc (v := 1) (lv' := [(2, .int 1), (3, .int 5), (0, .ref h0), (1, .int (-1))]) hx hb dJ7_fill_53178_14 hl (k := 1) rfl (by decide) (by decide) rfl (fun ls hl => ?_)
  refine lv_goto (tgt := 5) hx hb dJ7_fill_53178_17 (by decide) ?_
  refine lv_iload_n hx hb dJ7_fill_53178_5 rfl (lv_at hl 0 rfl) ?_
  refine lv_iload_n hx hb dJ7_fill_53178_6 rfl (lv_at hl 1 rfl) ?_
  refine lv_icmp_ge (tgt := 20) hx hb dJ7_fill_53178_7 (by decide) (fun h9 => absurd h9 (by decide)) (fun _ => ?_)
  refine lv_aload_n hx hb dJ7_fill_53178_10 rfl (lv_at hl 2 rfl) ?_
  refine lv_iload_n hx hb dJ7_fill_53178_11 rfl (lv_at hl 0 rfl) ?_
  refine lv_iload_n hx hb dJ7_fill_53178_12 rfl (lv_at hl 3 rfl) ?_
  refine va_iast hx hb hK hP hD hS 0 0 rfl rfl (show ¬ ((1 : Int32) < 0 ∨ 5 ≤ (1 : Int32).toNatClampNeg) by decide) dJ7_fill_53178_13 (fun H locs hP hD hS => ?_)
  obtain ⟨f205, hP, hD⟩ : ∃ f205, va_P D vwCl [(h0, .inl (G.1, 5, .inl f205))] H ∧ va_D A [(h0, .inl (G.1, 5, .inl f205))] := ⟨_, hP, hD⟩
  refine lv_iinc (v := 2) (lv' := [(2, .int 2), (3, .int 5), (0, .ref h0), (1, .int (-1))]) hx hb dJ7_fill_53178_14 hl (k := 0) rfl (by decide) (by decide) rfl (fun ls hl => ?_)
  refine lv_goto (tgt := 5) hx hb dJ7_fill_53178_17 (by decide) ?_
  refine lv_iload_n hx hb dJ7_fill_53178_5 rfl (lv_at hl 0 rfl) ?_
  refine lv_iload_n hx hb dJ7_fill_53178_6 rfl (lv_at hl 1 rfl) ?_
  refine lv_icmp_ge (tgt := 20) hx hb dJ7_fill_53178_7 (by decide) (fun h9 => absurd h9 (by decide)) (fun _ => ?_)
  refine lv_aload_n hx hb dJ7_fill_53178_10 rfl (lv_at hl 2 rfl) ?_
  refine lv_iload_n hx hb dJ7_fill_53178_11 rfl (lv_at hl 0 rfl) ?_
  refine lv_iload_n hx hb dJ7_fill_53178_12 rfl (lv_at hl 3 rfl) ?_
  refine va_iast hx hb hK hP hD hS 0 0 rfl rfl (show ¬ ((2 : Int32) < 0 ∨ 5 ≤ (2 : Int32).toNatClampNeg) by decide) dJ7_fill_53178_13 (fun H locs hP hD hS => ?_)
  obtain ⟨f206, hP, hD⟩ : ∃ f206, va_P D vwCl [(h0, .inl (G.1, 5, .inl f206))] H ∧ va_D A [(h0, .inl (G.1, 5, .inl f206))] := ⟨_, hP, hD⟩
  refine lv_iinc (v := 3) (lv' := [(2, .int 3), (3, .int 5), (0, .ref h0), (1, .int (-1))]) hx hb dJ7_fill_53178_14 hl (k := 0) rfl (by decide) (by decide) rfl (fun ls hl => ?_)
  refine lv_goto (tgt := 5) hx hb dJ7_fill_53178_17 (by decide) ?_
  refine lv_iload_n hx hb dJ7_fill_53178_5 rfl (lv_at hl 0 rfl) ?_
  refine lv_iload_n hx hb dJ7_fill_53178_6 rfl (lv_at hl 1 rfl) ?_
  refine lv_icmp_ge (tgt := 20) hx hb dJ7_fill_53178_7 (by decide) (fun h9 => absurd h9 (by decide)) (fun _ => ?_)
  refine lv_aload_n hx hb dJ7_fill_53178_10 rfl (lv_at hl 2 rfl) ?_
  refine lv_iload_n hx hb dJ7_fill_53178_11 rfl (lv_at hl 0 rfl) ?_
  refine lv_iload_n hx hb dJ7_fill_53178_12 rfl (lv_at hl 3 rfl) ?_
  refine va_iast hx hb hK hP hD hS 0 0 rfl rfl (show ¬ ((3 : Int32) < 0 ∨ 5 ≤ (3 : Int32).toNatClampNeg) by decide) dJ7_fill_53178_13 (fun H locs hP hD hS => ?_)
  obtain ⟨f207, hP, hD⟩ : ∃ f207, va_P D vwCl [(h0, .inl (G.1, 5, .inl f207))] H ∧ va_D A [(h0, .inl (G.1, 5, .inl f207))] := ⟨_, hP, hD⟩
  refine lv_iinc (v := 4) (lv' := [(2, .int 4), (3, .int 5), (0, .ref h0), (1, .int (-1))]) hx hb dJ7_fill_53178_14 hl (k := 0) rfl (by decide) (by decide) rfl (fun ls hl => ?_)
  refine lv_goto (tgt := 5) hx hb dJ7_fill_53178_17 (by decide) ?_
  refine lv_iload_n hx hb dJ7_fill_53178_5 rfl (lv_at hl 0 rfl) ?_
  refine lv_iload_n hx hb dJ7_fill_53178_6 rfl (lv_at hl 1 rfl) ?_
  refine lv_icmp_ge (tgt := 20) hx hb dJ7_fill_53178_7 (by decide) (fun h9 => absurd h9 (by decide)) (fun _ => ?_)
  refine lv_aload_n hx hb dJ7_fill_53178_10 rfl (lv_at hl 2 rfl) ?_
  refine lv_iload_n hx hb dJ7_fill_53178_11 rfl (lv_at hl 0 rfl) ?_
  refine lv_iload_n hx hb dJ7_fill_53178_12 rfl (lv_at hl 3 rfl) ?_
  refine va_iast hx hb hK hP hD hS 0 0 rfl rfl (show ¬ ((4 : Int32) < 0 ∨ 5 ≤ (4 : Int32).toNatClampNeg) by decide) dJ7_fill_53178_13 (fun H locs hP hD hS => ?_)
  obtain ⟨f208, hP, hD⟩ : ∃ f208, va_P D vwCl [(h0, .inl (G.1, 5, .inl f208))] H ∧ va_D A [(h0, .inl (G.1, 5, .inl f208))] := ⟨_, hP, hD⟩
  refine lv_iinc (v := 5) (lv' := [(2, .int 5), (3, .int 5), (0, .ref h0), (1, .int (-1))]) hx hb dJ7_fill_53178_14 hl (k := 0) rfl (by decide) (by decide) rfl (fun ls hl => ?_)
  refine lv_goto (tgt := 5) hx hb dJ7_fill_53178_17 (by decide) ?_
  refine lv_iload_n hx hb dJ7_fill_53178_5 rfl (lv_at hl 0 rfl) ?_
  refine lv_iload_n hx hb dJ7_fill_53178_6 rfl (lv_at hl 1 rfl) ?_
  refine lv_icmp_ge (tgt := 20) hx hb dJ7_fill_53178_7 (by decide) (fun _ => ?_) (fun h9 => absurd h9 (by decide))
  exact ow_vret (u := [(h0, .inl (G.1, 5, .inl f208))]) hx hb hr hlocks hP hD hS [0] (by decide) rfl dJ7_fill_53178_20 ⟨trivial, f208, rfl⟩
set_option maxHeartbeats 4000000 in
set_option maxRecDepth 100000 in
theorem c_X0_empty_0 (l : Launch) (D : va_G) (G : ow_C) (h0 : Nat) (h1 : Nat) (h2 : Nat) (h3 : Nat) (h4 : Nat) (h5 : Nat) (h6 : Nat) (h7 : Nat) (h8 : Nat) (h9 : Nat) (h10 : Nat) (v1 : Int32) (v2 : Nat → Int32) : ow_M l D G yX0_empty cX0_empty 5 none ({ frames := 2, cells := 0, slots := 0, locals := 87 } : Room) [.ref h0] [(h0, .inr (0, [.ref h1, .ref h2, .ref h3, .ref h4, .ref h5, .ref h6, .ref h7, .ref h8])), (h1, .inr (8, [.ref h9, .ref h10, .int 0, .int v1])), (h3, .inl (G.1, 5, .inl v2))] (ow_V D (fun u => (True ∧ (∃ e0 : Nat → Int32, u = [(h0, .inr (0, [.ref h1, .ref h2, .ref h3, .ref h4, .ref h5, .ref h6, .ref h7, .ref h8])), (h1, .inr (8, [.ref h9, .ref h10, .int 0, .int v1])), (h3, .inl (G.1, 5, .inl e0))])))) 0 0 := by
  refine ow_met (by decide) (Nat.le_of_ble_eq_true rfl) ?_
  intro p e s m args below meth c A ls hE hl
  obtain ⟨hx, hb, hr, hml, hown, hlocks, hnm, hts, hN, hK, hP, hD, hA, hS⟩ := id hE
  have hown : s.vm.findClass RX0 = some m.cls := hown
  have hP : va_P D vwCl [(h0, .inr (0, [.ref h1, .ref h2, .ref h3, .ref h4, .ref h5, .ref h6, .ref h7, .ref h8])), (h1, .inr (8, [.ref h9, .ref h10, .int 0, .int v1])), (h3, .inl (G.1, 5, .inl v2))] s.heap := hP
  have hD : va_D A [(h0, .inr (0, [.ref h1, .ref h2, .ref h3, .ref h4, .ref h5, .ref h6, .ref h7, .ref h8])), (h1, .inr (8, [.ref h9, .ref h10, .int 0, .int v1])), (h3, .inl (G.1, 5, .inl v2))] := hD
  have hl : lv_has ls 5 [(0, .ref h0)] := hl
  refine lv_iconst (v := 0) hx hb dX0_empty_0 (by decide) ?_
  refine lv_istore_n (lv' := [(1, .int 0), (0, .ref h0)]) hx hb dX0_empty_1 rfl hl (by decide) rfl (fun ls hl => ?_)
  refine lv_iload_n hx hb dX0_empty_2 rfl (lv_at hl 0 rfl) ?_
  refine lv_aload_n hx hb dX0_empty_3 rfl (lv_at hl 1 rfl) ?_
  refine va_get (D := D) (ci := 0) (v := .ref h1) (C := RX0) (T := TX0) (N := 8) hx hb hts inlX0 hown hK hP 0 rfl rfl 0 (by decide) (hts _ k_58) (fun _ h9 => h9) rfl dX0_empty_4 ?_
  refine va_getN (D := D) (ci := 8) (v := .int 0) (C := RX8) (T := TX8) (N := 4) hx hb hts inlX8 hown hK hP 1 rfl rfl 2 (by decide) (va_Nw.use rfl (hN.1 36 _ rfl)) (fun _ h9 => h9) rfl dX0_empty_7 ?_
  refine lv_icmp_ge (tgt := 89) hx hb dX0_empty_10 (by decide) (fun _ => ?_) (fun h9 => absurd h9 (by decide))
  refine lv_aload_n hx hb dX0_empty_89 rfl (lv_at hl 1 rfl) ?_
  refine va_get (D := D) (ci := 0) (v := .ref h3) (C := RX0) (T := TX0) (N := 8) hx hb hts inlX0 hown hK hP 0 rfl rfl 2 (by decide) (hts _ k_52) (fun _ h9 => h9) rfl dX0_empty_90 ?_
  refine lv_iconst (v := (-1)) hx hb dX0_empty_93 (by decide) ?_
  refine ow_cv (wr := [(h0, .inr (0, [.ref h1, .ref h2, .ref h3, .ref h4, .ref h5, .ref h6, .ref h7, .ref h8])), (h1, .inr (8, [.ref h9, .ref h10, .int 0, .int v1]))]) (ow_rS (rest := []) (n := 2) ⟨hx, hb, hml, hown, hts⟩ (c_J7_fill_53178_0 l D G h3 v2) k_180 k_179 k_181 k_182 (by decide +kernel) ⟨Nat.le_of_ble_eq_true rfl, Nat.le_of_ble_eq_true rfl⟩ rfl rfl hN hK hP hD [2] (by decide) rfl rfl hl.1 rfl (Nat.le_of_ble_eq_true rfl) dX0_empty_94 ⟨Nat.le_of_ble_eq_true rfl, Nat.le_of_ble_eq_true rfl⟩) hP hD hS hA [2] [0, 1] rfl rfl (by decide) (by decide) (fun u H locs hw hP hD hS => ?_)
  obtain ⟨c_205, f204, rfl⟩ := hw
  have hP : va_P D vwCl [(h0, .inr (0, [.ref h1, .ref h2, .ref h3, .ref h4, .ref h5, .ref h6, .ref h7, .ref h8])), (h1, .inr (8, [.ref h9, .ref h10, .int 0, .int v1])), (h3, .inl (G.1, 5, .inl f204))] H := hP
  have hD : va_D A [(h0, .inr (0, [.ref h1, .ref h2, .ref h3, .ref h4, .ref h5, .ref h6, .ref h7, .ref h8])), (h1, .inr (8, [.ref h9, .ref h10, .int 0, .int v1])), (h3, .inl (G.1, 5, .inl f204))] := hD
  refine W.widen (k := 0) (n := 0) (Nat.le_of_ble_eq_true rfl) (Nat.le_of_ble_eq_true rfl) ?_
  exact ow_vret (u := [(h0, .inr (0, [.ref h1, .ref h2, .ref h3, .ref h4, .ref h5, .ref h6, .ref h7, .ref h8])), (h1, .inr (8, [.ref h9, .ref h10, .int 0, .int v1])), (h3, .inl (G.1, 5, .inl f204))]) hx hb hr hlocks hP hD hS [0, 1, 2] (by decide) rfl dX0_empty_97 ⟨trivial, f204, rfl⟩
set_option maxHeartbeats 4000000 in
set_option maxRecDepth 100000 in
theorem c_X0_gather_0 (l : Launch) (D : va_G) (G : ow_C) (h0 : Nat) (h1 : Nat) (h2 : Nat) (h3 : Nat) (h4 : Nat) (h5 : Nat) (h6 : Nat) (h7 : Nat) (h8 : Nat) (h9 : Nat) (h10 : Nat) (v1 : Nat → Int32) : ow_M l D G yX0_gather cX0_gather 2 none ({ frames := 3, cells := 0, slots := 0, locals := 111 } : Room) [.ref h0] [(h0, .inr (0, [.ref h1, .ref h2, .ref h3, .ref h4, .ref h5, .ref h6, .ref h7, .ref h8])), (h1, .inr (8, [.ref h9, .ref h10, .int 0, .int 0])), (h3, .inl (G.1, 5, .inl v1))] (ow_V D (fun u => (True ∧ (∃ e0 : Nat → Int32, u = [(h0, .inr (0, [.ref h1, .ref h2, .ref h3, .ref h4, .ref h5, .ref h6, .ref h7, .ref h8])), (h1, .inr (8, [.ref h9, .ref h10, .int 0, .int 0])), (h3, .inl (G.1, 5, .inl e0))])))) 0 0 := by
  refine ow_met (by decide) (Nat.le_of_ble_eq_true rfl) ?_
  intro p e s m args below meth c A ls hE hl
  obtain ⟨hx, hb, hr, hml, hown, hlocks, hnm, hts, hN, hK, hP, hD, hA, hS⟩ := id hE
  have hown : s.vm.findClass RX0 = some m.cls := hown
  have hP : va_P D vwCl [(h0, .inr (0, [.ref h1, .ref h2, .ref h3, .ref h4, .ref h5, .ref h6, .ref h7, .ref h8])), (h1, .inr (8, [.ref h9, .ref h10, .int 0, .int 0])), (h3, .inl (G.1, 5, .inl v1))] s.heap := hP
  have hD : va_D A [(h0, .inr (0, [.ref h1, .ref h2, .ref h3, .ref h4, .ref h5, .ref h6, .ref h7, .ref h8])), (h1, .inr (8, [.ref h9, .ref h10, .int 0, .int 0])), (h3, .inl (G.1, 5, .inl v1))] := hD
  have hl : lv_has ls 2 [(0, .ref h0)] := hl
  refine lv_aload_n hx hb dX0_gather_0 rfl (lv_at hl 0 rfl) ?_
  refine ow_cv (wr := []) (ow_rV (rest := []) (n := 0) (ci := 0) (q := (RX0, TX0, 8)) ⟨hx, hb, hml, hown, hts⟩ (c_X0_empty_0 l D G h0 h1 h2 h3 h4 h5 h6 h7 h8 h9 h10 0 v1) k_184 k_183 k_50 k_185 k_186 (by decide +kernel) ⟨Nat.le_of_ble_eq_true rfl, Nat.le_of_ble_eq_true rfl⟩ rfl rfl hN hK hP hD [0, 1, 2] (by decide) rfl rfl rfl rfl hl.1 rfl (Nat.le_of_ble_eq_true rfl) dX0_gather_1 ⟨Nat.le_of_ble_eq_true rfl, Nat.le_of_ble_eq_true rfl⟩) hP hD hS hA [0, 1, 2] [] rfl rfl (by decide) (by decide) (fun u H locs hw hP hD hS => ?_)
  obtain ⟨c_205, f204, rfl⟩ := hw
  have hP : va_P D vwCl [(h0, .inr (0, [.ref h1, .ref h2, .ref h3, .ref h4, .ref h5, .ref h6, .ref h7, .ref h8])), (h1, .inr (8, [.ref h9, .ref h10, .int 0, .int 0])), (h3, .inl (G.1, 5, .inl f204))] H := hP
  have hD : va_D A [(h0, .inr (0, [.ref h1, .ref h2, .ref h3, .ref h4, .ref h5, .ref h6, .ref h7, .ref h8])), (h1, .inr (8, [.ref h9, .ref h10, .int 0, .int 0])), (h3, .inl (G.1, 5, .inl f204))] := hD
  refine W.widen (k := 0) (n := 0) (Nat.le_of_ble_eq_true rfl) (Nat.le_of_ble_eq_true rfl) ?_
  refine lv_iconst (v := 0) hx hb dX0_gather_4 (by decide) ?_
  refine lv_istore_n (lv' := [(1, .int 0), (0, .ref h0)]) hx hb dX0_gather_5 rfl hl (by decide) rfl (fun ls hl => ?_)
  refine lv_iload_n hx hb dX0_gather_6 rfl (lv_at hl 0 rfl) ?_
  refine lv_aload_n hx hb dX0_gather_7 rfl (lv_at hl 1 rfl) ?_
  refine va_get (D := D) (ci := 0) (v := .ref h1) (C := RX0) (T := TX0) (N := 8) hx hb hts inlX0 hown hK hP 0 rfl rfl 0 (by decide) (hts _ k_58) (fun _ h9 => h9) rfl dX0_gather_8 ?_
  refine va_getN (D := D) (ci := 8) (v := .int 0) (C := RX8) (T := TX8) (N := 4) hx hb hts inlX8 hown hK hP 1 rfl rfl 3 (by decide) (va_Nw.use rfl (hN.1 41 _ rfl)) (fun _ h9 => h9) rfl dX0_gather_11 ?_
  refine lv_icmp_ge (tgt := 40) hx hb dX0_gather_14 (by decide) (fun _ => ?_) (fun h9 => absurd h9 (by decide))
  exact ow_vret (u := [(h0, .inr (0, [.ref h1, .ref h2, .ref h3, .ref h4, .ref h5, .ref h6, .ref h7, .ref h8])), (h1, .inr (8, [.ref h9, .ref h10, .int 0, .int 0])), (h3, .inl (G.1, 5, .inl f204))]) hx hb hr hlocks hP hD hS [0, 1, 2] (by decide) rfl dX0_gather_40 ⟨trivial, f204, rfl⟩
set_option maxHeartbeats 4000000 in
set_option maxRecDepth 100000 in
theorem c_X0_leastRestless_0 (l : Launch) (D : va_G) (G : ow_C) (h0 : Nat) (h1 : Nat) (h2 : Nat) (h3 : Nat) (h4 : Nat) (h5 : Nat) (h6 : Nat) (h7 : Nat) (h8 : Nat) (h9 : Nat) (h10 : Nat) (v1 : Int32) : ow_M l D G yX0_leastRestless cX0_leastRestless 4 (some .int) ({ frames := 1, cells := 0, slots := 0, locals := 64 } : Room) [.ref h0] [(h0, .inr (0, [.ref h1, .ref h2, .ref h3, .ref h4, .ref h5, .ref h6, .ref h7, .ref h8])), (h1, .inr (8, [.ref h9, .ref h10, .int v1, .int 0]))] (ow_I D (fun r u => (r = (-1) ∧ True ∧ u = [(h0, .inr (0, [.ref h1, .ref h2, .ref h3, .ref h4, .ref h5, .ref h6, .ref h7, .ref h8])), (h1, .inr (8, [.ref h9, .ref h10, .int v1, .int 0]))]))) 0 0 := by
  refine ow_met (by decide) (Nat.le_of_ble_eq_true rfl) ?_
  intro p e s m args below meth c A ls hE hl
  obtain ⟨hx, hb, hr, hml, hown, hlocks, hnm, hts, hN, hK, hP, hD, hA, hS⟩ := id hE
  have hown : s.vm.findClass RX0 = some m.cls := hown
  have hP : va_P D vwCl [(h0, .inr (0, [.ref h1, .ref h2, .ref h3, .ref h4, .ref h5, .ref h6, .ref h7, .ref h8])), (h1, .inr (8, [.ref h9, .ref h10, .int v1, .int 0]))] s.heap := hP
  have hD : va_D A [(h0, .inr (0, [.ref h1, .ref h2, .ref h3, .ref h4, .ref h5, .ref h6, .ref h7, .ref h8])), (h1, .inr (8, [.ref h9, .ref h10, .int v1, .int 0]))] := hD
  have hl : lv_has ls 4 [(0, .ref h0)] := hl
  refine lv_iconst (v := 0) hx hb dX0_leastRestless_0 (by decide) ?_
  refine lv_istore_n (lv' := [(1, .int 0), (0, .ref h0)]) hx hb dX0_leastRestless_1 rfl hl (by decide) rfl (fun ls hl => ?_)
  refine lv_iload_n hx hb dX0_leastRestless_2 rfl (lv_at hl 0 rfl) ?_
  refine lv_aload_n hx hb dX0_leastRestless_3 rfl (lv_at hl 1 rfl) ?_
  refine va_get (D := D) (ci := 0) (v := .ref h1) (C := RX0) (T := TX0) (N := 8) hx hb hts inlX0 hown hK hP 0 rfl rfl 0 (by decide) (hts _ k_58) (fun _ h9 => h9) rfl dX0_leastRestless_4 ?_
  refine va_getN (D := D) (ci := 8) (v := .int 0) (C := RX8) (T := TX8) (N := 4) hx hb hts inlX8 hown hK hP 1 rfl rfl 3 (by decide) (va_Nw.use rfl (hN.1 41 _ rfl)) (fun _ h9 => h9) rfl dX0_leastRestless_7 ?_
  refine lv_icmp_ge (tgt := 72) hx hb dX0_leastRestless_10 (by decide) (fun _ => ?_) (fun h9 => absurd h9 (by decide))
  refine lv_iconst (v := (-1)) hx hb dX0_leastRestless_72 (by decide) ?_
  exact ow_iret (ty := .int) (u := [(h0, .inr (0, [.ref h1, .ref h2, .ref h3, .ref h4, .ref h5, .ref h6, .ref h7, .ref h8])), (h1, .inr (8, [.ref h9, .ref h10, .int v1, .int 0]))]) hx hb hr hlocks rfl hP hD hS [0, 1] (by decide) rfl dX0_leastRestless_73 ⟨rfl, trivial, rfl⟩
set_option maxHeartbeats 4000000 in
set_option maxRecDepth 100000 in
theorem c_X0_isAtRest_0 (l : Launch) (D : va_G) (G : ow_C) (h0 : Nat) (h1 : Nat) (h2 : Nat) (h3 : Nat) (h4 : Nat) (h5 : Nat) (h6 : Nat) (h7 : Nat) (h8 : Nat) (h9 : Nat) (h10 : Nat) (v1 : Int32) : ow_M l D G yX0_isAtRest cX0_isAtRest 1 (some .boolean) ({ frames := 2, cells := 0, slots := 0, locals := 87 } : Room) [.ref h0] [(h0, .inr (0, [.ref h1, .ref h2, .ref h3, .ref h4, .ref h5, .ref h6, .ref h7, .ref h8])), (h1, .inr (8, [.ref h9, .ref h10, .int v1, .int 0]))] (ow_I D (fun r u => (r = 1 ∧ True ∧ u = [(h0, .inr (0, [.ref h1, .ref h2, .ref h3, .ref h4, .ref h5, .ref h6, .ref h7, .ref h8])), (h1, .inr (8, [.ref h9, .ref h10, .int v1, .int 0]))]))) 0 0 := by
  refine ow_met (by decide) (Nat.le_of_ble_eq_true rfl) ?_
  intro p e s m args below meth c A ls hE hl
  obtain ⟨hx, hb, hr, hml, hown, hlocks, hnm, hts, hN, hK, hP, hD, hA, hS⟩ := id hE
  have hown : s.vm.findClass RX0 = some m.cls := hown
  have hP : va_P D vwCl [(h0, .inr (0, [.ref h1, .ref h2, .ref h3, .ref h4, .ref h5, .ref h6, .ref h7, .ref h8])), (h1, .inr (8, [.ref h9, .ref h10, .int v1, .int 0]))] s.heap := hP
  have hD : va_D A [(h0, .inr (0, [.ref h1, .ref h2, .ref h3, .ref h4, .ref h5, .ref h6, .ref h7, .ref h8])), (h1, .inr (8, [.ref h9, .ref h10, .int v1, .int 0]))] := hD
  have hl : lv_has ls 1 [(0, .ref h0)] := hl
  refine lv_aload_n hx hb dX0_isAtRest_0 rfl (lv_at hl 0 rfl) ?_
  refine ow_ci (wr := []) (ow_rV (rest := []) (n := 0) (ci := 0) (q := (RX0, TX0, 8)) ⟨hx, hb, hml, hown, hts⟩ (c_X0_leastRestless_0 l D G h0 h1 h2 h3 h4 h5 h6 h7 h8 h9 h10 v1) k_191 k_190 k_50 k_192 k_193 (by decide +kernel) ⟨Nat.le_of_ble_eq_true rfl, Nat.le_of_ble_eq_true rfl⟩ rfl rfl hN hK hP hD [0, 1] (by decide) rfl rfl rfl rfl hl.1 rfl (Nat.le_of_ble_eq_true rfl) dX0_isAtRest_1 ⟨Nat.le_of_ble_eq_true rfl, Nat.le_of_ble_eq_true rfl⟩) hP hD hS hA [0, 1] [] rfl rfl (by decide) (by decide) (fun r u H locs hw hP hD hS => ?_)
  obtain ⟨rfl, c_210, rfl⟩ := hw
  have hP : va_P D vwCl [(h0, .inr (0, [.ref h1, .ref h2, .ref h3, .ref h4, .ref h5, .ref h6, .ref h7, .ref h8])), (h1, .inr (8, [.ref h9, .ref h10, .int v1, .int 0]))] H := hP
  have hD : va_D A [(h0, .inr (0, [.ref h1, .ref h2, .ref h3, .ref h4, .ref h5, .ref h6, .ref h7, .ref h8])), (h1, .inr (8, [.ref h9, .ref h10, .int v1, .int 0]))] := hD
  refine W.widen (k := 0) (n := 0) (Nat.le_of_ble_eq_true rfl) (Nat.le_of_ble_eq_true rfl) ?_
  refine lv_iconst (v := (-1)) hx hb dX0_isAtRest_4 (by decide) ?_
  refine lv_icmp_ne (tgt := 12) hx hb dX0_isAtRest_5 (by decide) (fun h9 => absurd h9 (by decide)) (fun _ => ?_)
  refine lv_iconst (v := 1) hx hb dX0_isAtRest_8 (by decide) ?_
  refine lv_goto (tgt := 13) hx hb dX0_isAtRest_9 (by decide) ?_
  exact ow_iret (ty := .boolean) (u := [(h0, .inr (0, [.ref h1, .ref h2, .ref h3, .ref h4, .ref h5, .ref h6, .ref h7, .ref h8])), (h1, .inr (8, [.ref h9, .ref h10, .int v1, .int 0]))]) hx hb hr hlocks rfl hP hD hS [0, 1] (by decide) rfl dX0_isAtRest_13 ⟨rfl, trivial, rfl⟩
set_option maxHeartbeats 4000000 in
set_option maxRecDepth 100000 in
theorem c_X0_most_0 (l : Launch) (D : va_G) (G : ow_C) (h0 : Nat) (h1 : Nat) (h2 : Nat) (h3 : Nat) (h4 : Nat) (h5 : Nat) (h6 : Nat) (h7 : Nat) (h8 : Nat) (h9 : Nat) (h10 : Nat) (v1 : Int32) : ow_M l D G yX0_most cX0_most 3 (some .int) ({ frames := 1, cells := 0, slots := 0, locals := 64 } : Room) [.ref h0] [(h0, .inr (0, [.ref h1, .ref h2, .ref h3, .ref h4, .ref h5, .ref h6, .ref h7, .ref h8])), (h1, .inr (8, [.ref h9, .ref h10, .int v1, .int 0]))] (ow_I D (fun r u => (r = 0 ∧ True ∧ u = [(h0, .inr (0, [.ref h1, .ref h2, .ref h3, .ref h4, .ref h5, .ref h6, .ref h7, .ref h8])), (h1, .inr (8, [.ref h9, .ref h10, .int v1, .int 0]))]))) 0 0 := by
  refine ow_met (by decide) (Nat.le_of_ble_eq_true rfl) ?_
  intro p e s m args below meth c A ls hE hl
  obtain ⟨hx, hb, hr, hml, hown, hlocks, hnm, hts, hN, hK, hP, hD, hA, hS⟩ := id hE
  have hown : s.vm.findClass RX0 = some m.cls := hown
  have hP : va_P D vwCl [(h0, .inr (0, [.ref h1, .ref h2, .ref h3, .ref h4, .ref h5, .ref h6, .ref h7, .ref h8])), (h1, .inr (8, [.ref h9, .ref h10, .int v1, .int 0]))] s.heap := hP
  have hD : va_D A [(h0, .inr (0, [.ref h1, .ref h2, .ref h3, .ref h4, .ref h5, .ref h6, .ref h7, .ref h8])), (h1, .inr (8, [.ref h9, .ref h10, .int v1, .int 0]))] := hD
  have hl : lv_has ls 3 [(0, .ref h0)] := hl
  refine lv_iconst (v := 0) hx hb dX0_most_0 (by decide) ?_
  refine lv_istore_n (lv' := [(1, .int 0), (0, .ref h0)]) hx hb dX0_most_1 rfl hl (by decide) rfl (fun ls hl => ?_)
  refine lv_iconst (v := 0) hx hb dX0_most_2 (by decide) ?_
  refine lv_istore_n (lv' := [(2, .int 0), (1, .int 0), (0, .ref h0)]) hx hb dX0_most_3 rfl hl (by decide) rfl (fun ls hl => ?_)
  refine lv_iload_n hx hb dX0_most_4 rfl (lv_at hl 0 rfl) ?_
  refine lv_aload_n hx hb dX0_most_5 rfl (lv_at hl 2 rfl) ?_
  refine va_get (D := D) (ci := 0) (v := .ref h1) (C := RX0) (T := TX0) (N := 8) hx hb hts inlX0 hown hK hP 0 rfl rfl 0 (by decide) (hts _ k_58) (fun _ h9 => h9) rfl dX0_most_6 ?_
  refine va_getN (D := D) (ci := 8) (v := .int 0) (C := RX8) (T := TX8) (N := 4) hx hb hts inlX8 hown hK hP 1 rfl rfl 3 (by decide) (va_Nw.use rfl (hN.1 41 _ rfl)) (fun _ h9 => h9) rfl dX0_most_9 ?_
  refine lv_icmp_ge (tgt := 41) hx hb dX0_most_12 (by decide) (fun _ => ?_) (fun h9 => absurd h9 (by decide))
  refine lv_iload_n hx hb dX0_most_41 rfl (lv_at hl 1 rfl) ?_
  exact ow_iret (ty := .int) (u := [(h0, .inr (0, [.ref h1, .ref h2, .ref h3, .ref h4, .ref h5, .ref h6, .ref h7, .ref h8])), (h1, .inr (8, [.ref h9, .ref h10, .int v1, .int 0]))]) hx hb hr hlocks rfl hP hD hS [0, 1] (by decide) rfl dX0_most_42 ⟨rfl, trivial, rfl⟩
set_option maxHeartbeats 4000000 in
set_option maxRecDepth 100000 in
theorem c_X0_sum_0 (l : Launch) (D : va_G) (G : ow_C) (h0 : Nat) (h1 : Nat) (h2 : Nat) (h3 : Nat) (h4 : Nat) (h5 : Nat) (h6 : Nat) (h7 : Nat) (h8 : Nat) (h9 : Nat) (h10 : Nat) (v1 : Int32) : ow_M l D G yX0_sum cX0_sum 3 (some .int) ({ frames := 1, cells := 0, slots := 0, locals := 64 } : Room) [.ref h0] [(h0, .inr (0, [.ref h1, .ref h2, .ref h3, .ref h4, .ref h5, .ref h6, .ref h7, .ref h8])), (h1, .inr (8, [.ref h9, .ref h10, .int 0, .int v1]))] (ow_I D (fun r u => (r = 0 ∧ True ∧ u = [(h0, .inr (0, [.ref h1, .ref h2, .ref h3, .ref h4, .ref h5, .ref h6, .ref h7, .ref h8])), (h1, .inr (8, [.ref h9, .ref h10, .int 0, .int v1]))]))) 0 0 := by
  refine ow_met (by decide) (Nat.le_of_ble_eq_true rfl) ?_
  intro p e s m args below meth c A ls hE hl
  obtain ⟨hx, hb, hr, hml, hown, hlocks, hnm, hts, hN, hK, hP, hD, hA, hS⟩ := id hE
  have hown : s.vm.findClass RX0 = some m.cls := hown
  have hP : va_P D vwCl [(h0, .inr (0, [.ref h1, .ref h2, .ref h3, .ref h4, .ref h5, .ref h6, .ref h7, .ref h8])), (h1, .inr (8, [.ref h9, .ref h10, .int 0, .int v1]))] s.heap := hP
  have hD : va_D A [(h0, .inr (0, [.ref h1, .ref h2, .ref h3, .ref h4, .ref h5, .ref h6, .ref h7, .ref h8])), (h1, .inr (8, [.ref h9, .ref h10, .int 0, .int v1]))] := hD
  have hl : lv_has ls 3 [(0, .ref h0)] := hl
  refine lv_iconst (v := 0) hx hb dX0_sum_0 (by decide) ?_
  refine lv_istore_n (lv' := [(1, .int 0), (0, .ref h0)]) hx hb dX0_sum_1 rfl hl (by decide) rfl (fun ls hl => ?_)
  refine lv_iconst (v := 0) hx hb dX0_sum_2 (by decide) ?_
  refine lv_istore_n (lv' := [(2, .int 0), (1, .int 0), (0, .ref h0)]) hx hb dX0_sum_3 rfl hl (by decide) rfl (fun ls hl => ?_)
  refine lv_iload_n hx hb dX0_sum_4 rfl (lv_at hl 0 rfl) ?_
  refine lv_aload_n hx hb dX0_sum_5 rfl (lv_at hl 2 rfl) ?_
  refine va_get (D := D) (ci := 0) (v := .ref h1) (C := RX0) (T := TX0) (N := 8) hx hb hts inlX0 hown hK hP 0 rfl rfl 0 (by decide) (hts _ k_58) (fun _ h9 => h9) rfl dX0_sum_6 ?_
  refine va_getN (D := D) (ci := 8) (v := .int 0) (C := RX8) (T := TX8) (N := 4) hx hb hts inlX8 hown hK hP 1 rfl rfl 2 (by decide) (va_Nw.use rfl (hN.1 36 _ rfl)) (fun _ h9 => h9) rfl dX0_sum_9 ?_
  refine lv_icmp_ge (tgt := 57) hx hb dX0_sum_12 (by decide) (fun _ => ?_) (fun h9 => absurd h9 (by decide))
  refine lv_iload_n hx hb dX0_sum_57 rfl (lv_at hl 1 rfl) ?_
  exact ow_iret (ty := .int) (u := [(h0, .inr (0, [.ref h1, .ref h2, .ref h3, .ref h4, .ref h5, .ref h6, .ref h7, .ref h8])), (h1, .inr (8, [.ref h9, .ref h10, .int 0, .int v1]))]) hx hb hr hlocks rfl hP hD hS [0, 1] (by decide) rfl dX0_sum_58 ⟨rfl, trivial, rfl⟩
