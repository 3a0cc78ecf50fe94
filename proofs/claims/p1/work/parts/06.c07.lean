set_option maxHeartbeats 4000000 in
set_option maxRecDepth 100000 in
theorem c_X9_undo_0 (l : Launch) (D : va_G) (G : ow_C) (h0 : Nat) (h1 : Nat) (h2 : Nat) (h3 : Nat) (h4 : Nat) (h5 : Nat) (h6 : Nat) (h7 : Nat) (h8 : Nat) (h9 : Nat) (h10 : Nat) (v1 : Int32) : ow_M l D G yX9_undo cX9_undo 1 (some .int) ({ frames := 1, cells := 0, slots := 0, locals := 64 } : Room) [.ref h0] [(h0, .inr (9, [.ref h1, .ref h2, .ref h3, .ref h4, .ref h5, .ref h6, .ref h7, .ref h8, .ref h9])), (h2, .inr (3, [.ref h10, .int 0, .int v1]))] (ow_I D (fun r u => (r = (-4) ∧ True ∧ u = []))) 0 0 := by
  refine ow_met (by decide) (Nat.le_of_ble_eq_true rfl) ?_
  intro p e s m args below meth c A ls hE hl
  obtain ⟨hx, hb, hr, hml, hown, hlocks, hnm, hts, hN, hK, hP, hD, hA, hS⟩ := id hE
  have hown : s.vm.findClass RX9 = some m.cls := hown
  have hP : va_P D vwCl [(h0, .inr (9, [.ref h1, .ref h2, .ref h3, .ref h4, .ref h5, .ref h6, .ref h7, .ref h8, .ref h9])), (h2, .inr (3, [.ref h10, .int 0, .int v1]))] s.heap := hP
  have hD : va_D A [(h0, .inr (9, [.ref h1, .ref h2, .ref h3, .ref h4, .ref h5, .ref h6, .ref h7, .ref h8, .ref h9])), (h2, .inr (3, [.ref h10, .int 0, .int v1]))] := hD
  have hl : lv_has ls 1 [(0, .ref h0)] := hl
  refine lv_aload_n hx hb dX9_undo_0 rfl (lv_at hl 0 rfl) ?_
  refine va_get (D := D) (ci := 9) (v := .ref h2) (C := RX9) (T := TX9) (N := 9) hx hb hts inlX9 hown hK hP 0 rfl rfl 1 (by decide) (hts _ k_34) (fun _ h9 => h9) rfl dX9_undo_1 ?_
  refine va_getN (D := D) (ci := 3) (v := .int 0) (C := RX3) (T := TX3) (N := 3) hx hb hts inlX3 hown hK hP 1 rfl rfl 1 (by decide) (va_Nw.use rfl (hN.1 43 _ rfl)) (fun _ h9 => h9) rfl dX9_undo_4 ?_
  refine lv_if_ne (tgt := 13) hx hb dX9_undo_7 (by decide) (fun h9 => absurd h9 (by decide)) (fun _ => ?_)
  refine lv_bipush (v := (-4)) hx hb dX9_undo_10 (by decide) ?_
  exact ow_iret (ty := .int) (u := []) hx hb hr hlocks rfl hP hD hS [] (by decide) rfl dX9_undo_12 ⟨rfl, trivial, rfl⟩
set_option maxHeartbeats 4000000 in
set_option maxRecDepth 100000 in
theorem c_X8_openRoads_0 (l : Launch) (D : va_G) (G : ow_C) (h0 : Nat) (h1 : Nat) (h2 : Nat) (v1 : Int32) : ow_M l D G yX8_openRoads cX8_openRoads 3 (some .int) ({ frames := 1, cells := 0, slots := 0, locals := 64 } : Room) [.ref h0] [(h0, .inr (8, [.ref h1, .ref h2, .int 0, .int v1]))] (ow_I D (fun r u => (r = 0 ∧ True ∧ u = [(h0, .inr (8, [.ref h1, .ref h2, .int 0, .int v1]))]))) 0 0 := by
  refine ow_met (by decide) (Nat.le_of_ble_eq_true rfl) ?_
  intro p e s m args below meth c A ls hE hl
  obtain ⟨hx, hb, hr, hml, hown, hlocks, hnm, hts, hN, hK, hP, hD, hA, hS⟩ := id hE
  have hown : s.vm.findClass RX8 = some m.cls := hown
  have hP : va_P D vwCl [(h0, .inr (8, [.ref h1, .ref h2, .int 0, .int v1]))] s.heap := hP
  have hD : va_D A [(h0, .inr (8, [.ref h1, .ref h2, .int 0, .int v1]))] := hD
  have hl : lv_has ls 3 [(0, .ref h0)] := hl
  refine lv_iconst (v := 0) hx hb dX8_openRoads_0 (by decide) ?_
  refine lv_istore_n (lv' := [(1, .int 0), (0, .ref h0)]) hx hb dX8_openRoads_1 rfl hl (by decide) rfl (fun ls hl => ?_)
  refine lv_iconst (v := 0) hx hb dX8_openRoads_2 (by decide) ?_
  refine lv_istore_n (lv' := [(2, .int 0), (1, .int 0), (0, .ref h0)]) hx hb dX8_openRoads_3 rfl hl (by decide) rfl (fun ls hl => ?_)
  refine lv_iload_n hx hb dX8_openRoads_4 rfl (lv_at hl 0 rfl) ?_
  refine lv_aload_n hx hb dX8_openRoads_5 rfl (lv_at hl 2 rfl) ?_
  refine va_get (D := D) (ci := 8) (v := .int 0) (C := RX8) (T := TX8) (N := 4) hx hb hts inlX8 hown hK hP 0 rfl rfl 2 (by decide) (hts _ k_123) (fun _ h9 => h9) rfl dX8_openRoads_6 ?_
  refine lv_icmp_ge (tgt := 38) hx hb dX8_openRoads_9 (by decide) (fun _ => ?_) (fun h9 => absurd h9 (by decide))
  refine lv_iload_n hx hb dX8_openRoads_38 rfl (lv_at hl 1 rfl) ?_
  exact ow_iret (ty := .int) (u := [(h0, .inr (8, [.ref h1, .ref h2, .int 0, .int v1]))]) hx hb hr hlocks rfl hP hD hS [0] (by decide) rfl dX8_openRoads_39 ⟨rfl, trivial, rfl⟩
set_option maxHeartbeats 4000000 in
set_option maxRecDepth 100000 in
theorem c_X8_tables_0 (l : Launch) (D : va_G) (G : ow_C) (h0 : Nat) (h1 : Nat) (h2 : Nat) (v1 : Int32) : ow_M l D G yX8_tables cX8_tables 3 (some .int) ({ frames := 1, cells := 0, slots := 0, locals := 64 } : Room) [.ref h0] [(h0, .inr (8, [.ref h1, .ref h2, .int 0, .int v1]))] (ow_I D (fun r u => (r = 0 ∧ True ∧ u = [(h0, .inr (8, [.ref h1, .ref h2, .int 0, .int v1]))]))) 0 0 := by
  refine ow_met (by decide) (Nat.le_of_ble_eq_true rfl) ?_
  intro p e s m args below meth c A ls hE hl
  obtain ⟨hx, hb, hr, hml, hown, hlocks, hnm, hts, hN, hK, hP, hD, hA, hS⟩ := id hE
  have hown : s.vm.findClass RX8 = some m.cls := hown
  have hP : va_P D vwCl [(h0, .inr (8, [.ref h1, .ref h2, .int 0, .int v1]))] s.heap := hP
  have hD : va_D A [(h0, .inr (8, [.ref h1, .ref h2, .int 0, .int v1]))] := hD
  have hl : lv_has ls 3 [(0, .ref h0)] := hl
  refine lv_iconst (v := 0) hx hb dX8_tables_0 (by decide) ?_
  refine lv_istore_n (lv' := [(1, .int 0), (0, .ref h0)]) hx hb dX8_tables_1 rfl hl (by decide) rfl (fun ls hl => ?_)
  refine lv_iconst (v := 0) hx hb dX8_tables_2 (by decide) ?_
  refine lv_istore_n (lv' := [(2, .int 0), (1, .int 0), (0, .ref h0)]) hx hb dX8_tables_3 rfl hl (by decide) rfl (fun ls hl => ?_)
  refine lv_iload_n hx hb dX8_tables_4 rfl (lv_at hl 0 rfl) ?_
  refine lv_aload_n hx hb dX8_tables_5 rfl (lv_at hl 2 rfl) ?_
  refine va_get (D := D) (ci := 8) (v := .int 0) (C := RX8) (T := TX8) (N := 4) hx hb hts inlX8 hown hK hP 0 rfl rfl 2 (by decide) (hts _ k_123) (fun _ h9 => h9) rfl dX8_tables_6 ?_
  refine lv_icmp_ge (tgt := 39) hx hb dX8_tables_9 (by decide) (fun _ => ?_) (fun h9 => absurd h9 (by decide))
  refine lv_iload_n hx hb dX8_tables_39 rfl (lv_at hl 1 rfl) ?_
  exact ow_iret (ty := .int) (u := [(h0, .inr (8, [.ref h1, .ref h2, .int 0, .int v1]))]) hx hb hr hlocks rfl hP hD hS [0] (by decide) rfl dX8_tables_40 ⟨rfl, trivial, rfl⟩
set_option maxHeartbeats 4000000 in
set_option maxRecDepth 100000 in
theorem c_X9_count_0 (l : Launch) (D : va_G) (G : ow_C) (h0 : Nat) (p1 : Int32) (h2 : Nat) (h3 : Nat) (h4 : Nat) (h5 : Nat) (h6 : Nat) (h7 : Nat) (h8 : Nat) (h9 : Nat) (h10 : Nat) (h11 : Nat) (h12 : Nat) (h13 : Nat) (v1 : Int32) : ow_M l D G yX9_count cX9_count 2 (some .int) ({ frames := 2, cells := 0, slots := 0, locals := 86 } : Room) [.ref h0, .int p1] [(h0, .inr (9, [.ref h2, .ref h3, .ref h4, .ref h5, .ref h6, .ref h7, .ref h8, .ref h9, .ref h10])), (h2, .inr (8, [.ref h11, .ref h12, .int 0, .int 0])), (h3, .inr (3, [.ref h13, .int 0, .int v1]))] (ow_I D (fun r u => (r = 0 ∧ (0 ≤ p1.toInt ∧ p1.toInt ≤ 5) ∧ u = []) ∨ (r = (-3) ∧ (¬ (0 ≤ p1.toInt ∧ p1.toInt ≤ 5)) ∧ u = []))) 0 0 := by
  refine ow_met (by decide) (Nat.le_of_ble_eq_true rfl) ?_
  intro p e s m args below meth c A ls hE hl
  obtain ⟨hx, hb, hr, hml, hown, hlocks, hnm, hts, hN, hK, hP, hD, hA, hS⟩ := id hE
  have hown : s.vm.findClass RX9 = some m.cls := hown
  have hP : va_P D vwCl [(h0, .inr (9, [.ref h2, .ref h3, .ref h4, .ref h5, .ref h6, .ref h7, .ref h8, .ref h9, .ref h10])), (h2, .inr (8, [.ref h11, .ref h12, .int 0, .int 0])), (h3, .inr (3, [.ref h13, .int 0, .int v1]))] s.heap := hP
  have hD : va_D A [(h0, .inr (9, [.ref h2, .ref h3, .ref h4, .ref h5, .ref h6, .ref h7, .ref h8, .ref h9, .ref h10])), (h2, .inr (8, [.ref h11, .ref h12, .int 0, .int 0])), (h3, .inr (3, [.ref h13, .int 0, .int v1]))] := hD
  have hl : lv_has ls 2 [(0, .ref h0), (1, .int p1)] := hl
  refine lv_iload_n hx hb dX9_count_0 rfl (lv_at hl 1 rfl) ?_
  by_cases c_296 : p1 = 0
  · have z_296 := q_eq (a := p1.toInt) (b := 0) rfl (by decide) c_296
    refine ow_i (y := 0) c_296 ?_
    refine lv_tableIn (off := 39) (tgt := 40) hx hb dX9_count_1 (by decide) (by decide) rfl (by decide) ?_
    refine lv_aload_n hx hb dX9_count_40 rfl (lv_at hl 0 rfl) ?_
    refine va_get (D := D) (ci := 9) (v := .ref h2) (C := RX9) (T := TX9) (N := 9) hx hb hts inlX9 hown hK hP 0 rfl rfl 0 (by decide) (hts _ k_25) (fun _ h9 => h9) rfl dX9_count_41 ?_
    refine va_getN (D := D) (ci := 8) (v := .int 0) (C := RX8) (T := TX8) (N := 4) hx hb hts inlX8 hown hK hP 1 rfl rfl 2 (by decide) (va_Nw.use rfl (hN.1 38 _ rfl)) (fun _ h9 => h9) rfl dX9_count_44 ?_
    exact ow_iret (ty := .int) (u := []) hx hb hr hlocks rfl hP hD hS [] (by decide) rfl dX9_count_47 (Or.inl ⟨rfl, (by omega), rfl⟩)
  have z_296 := q_ne (a := p1.toInt) (b := 0) rfl (by decide) c_296
  by_cases c_297 : p1 = 1
  · have z_297 := q_eq (a := p1.toInt) (b := 1) rfl (by decide) c_297
    refine ow_i (y := 1) c_297 ?_
    refine lv_tableIn (off := 47) (tgt := 48) hx hb dX9_count_1 (by decide) (by decide) rfl (by decide) ?_
    refine lv_aload_n hx hb dX9_count_48 rfl (lv_at hl 0 rfl) ?_
    refine va_get (D := D) (ci := 9) (v := .ref h2) (C := RX9) (T := TX9) (N := 9) hx hb hts inlX9 hown hK hP 0 rfl rfl 0 (by decide) (hts _ k_25) (fun _ h9 => h9) rfl dX9_count_49 ?_
    refine va_getN (D := D) (ci := 8) (v := .int 0) (C := RX8) (T := TX8) (N := 4) hx hb hts inlX8 hown hK hP 1 rfl rfl 3 (by decide) (va_Nw.use rfl (hN.1 42 _ rfl)) (fun _ h9 => h9) rfl dX9_count_52 ?_
    exact ow_iret (ty := .int) (u := []) hx hb hr hlocks rfl hP hD hS [] (by decide) rfl dX9_count_55 (Or.inl ⟨rfl, (by omega), rfl⟩)
  have z_297 := q_ne (a := p1.toInt) (b := 1) rfl (by decide) c_297
  by_cases c_298 : p1 = 2
  · have z_298 := q_eq (a := p1.toInt) (b := 2) rfl (by decide) c_298
    refine ow_i (y := 2) c_298 ?_
    refine lv_tableIn (off := 55) (tgt := 56) hx hb dX9_count_1 (by decide) (by decide) rfl (by decide) ?_
    refine lv_aload_n hx hb dX9_count_56 rfl (lv_at hl 0 rfl) ?_
    refine va_get (D := D) (ci := 9) (v := .ref h2) (C := RX9) (T := TX9) (N := 9) hx hb hts inlX9 hown hK hP 0 rfl rfl 0 (by decide) (hts _ k_25) (fun _ h9 => h9) rfl dX9_count_57 ?_
    refine ow_ci (wr := [(h0, .inr (9, [.ref h2, .ref h3, .ref h4, .ref h5, .ref h6, .ref h7, .ref h8, .ref h9, .ref h10])), (h3, .inr (3, [.ref h13, .int 0, .int v1]))]) (ow_rVN (rest := []) (n := 0) (iN := 122) (ci := 8) (q := (RX8, TX8, 4)) ⟨hx, hb, hml, hown, hts⟩ (c_X8_openRoads_0 l D G h2 h11 h12 0) k_282 rfl k_5 k_283 k_284 (by decide +kernel) ⟨Nat.le_of_ble_eq_true rfl, Nat.le_of_ble_eq_true rfl⟩ rfl rfl hN hK hP hD [1] (by decide) rfl rfl rfl rfl hl.1 rfl (Nat.le_of_ble_eq_true rfl) dX9_count_60 ⟨Nat.le_of_ble_eq_true rfl, Nat.le_of_ble_eq_true rfl⟩) hP hD hS hA [1] [0, 2] rfl rfl (by decide) (by decide) (fun r u H locs hw hP hD hS => ?_)
    obtain ⟨rfl, c_299, rfl⟩ := hw
    have hP : va_P D vwCl [(h0, .inr (9, [.ref h2, .ref h3, .ref h4, .ref h5, .ref h6, .ref h7, .ref h8, .ref h9, .ref h10])), (h3, .inr (3, [.ref h13, .int 0, .int v1])), (h2, .inr (8, [.ref h11, .ref h12, .int 0, .int 0]))] H := hP
    have hD : va_D A [(h0, .inr (9, [.ref h2, .ref h3, .ref h4, .ref h5, .ref h6, .ref h7, .ref h8, .ref h9, .ref h10])), (h3, .inr (3, [.ref h13, .int 0, .int v1])), (h2, .inr (8, [.ref h11, .ref h12, .int 0, .int 0]))] := hD
    refine W.widen (k := 0) (n := 0) (Nat.le_of_ble_eq_true rfl) (Nat.le_of_ble_eq_true rfl) ?_
    exact ow_iret (ty := .int) (u := []) hx hb hr hlocks rfl hP hD hS [] (by decide) rfl dX9_count_63 (Or.inl ⟨rfl, (by omega), rfl⟩)
  have z_298 := q_ne (a := p1.toInt) (b := 2) rfl (by decide) c_298
  by_cases c_300 : p1 = 3
  · have z_300 := q_eq (a := p1.toInt) (b := 3) rfl (by decide) c_300
    refine ow_i (y := 3) c_300 ?_
    refine lv_tableIn (off := 63) (tgt := 64) hx hb dX9_count_1 (by decide) (by decide) rfl (by decide) ?_
    refine lv_aload_n hx hb dX9_count_64 rfl (lv_at hl 0 rfl) ?_
    refine va_get (D := D) (ci := 9) (v := .ref h2) (C := RX9) (T := TX9) (N := 9) hx hb hts inlX9 hown hK hP 0 rfl rfl 0 (by decide) (hts _ k_25) (fun _ h9 => h9) rfl dX9_count_65 ?_
    refine ow_ci (wr := [(h0, .inr (9, [.ref h2, .ref h3, .ref h4, .ref h5, .ref h6, .ref h7, .ref h8, .ref h9, .ref h10])), (h3, .inr (3, [.ref h13, .int 0, .int v1]))]) (ow_rVN (rest := []) (n := 0) (iN := 123) (ci := 8) (q := (RX8, TX8, 4)) ⟨hx, hb, hml, hown, hts⟩ (c_X8_tables_0 l D G h2 h11 h12 0) k_285 rfl k_5 k_286 k_287 (by decide +kernel) ⟨Nat.le_of_ble_eq_true rfl, Nat.le_of_ble_eq_true rfl⟩ rfl rfl hN hK hP hD [1] (by decide) rfl rfl rfl rfl hl.1 rfl (Nat.le_of_ble_eq_true rfl) dX9_count_68 ⟨Nat.le_of_ble_eq_true rfl, Nat.le_of_ble_eq_true rfl⟩) hP hD hS hA [1] [0, 2] rfl rfl (by decide) (by decide) (fun r u H locs hw hP hD hS => ?_)
    obtain ⟨rfl, c_301, rfl⟩ := hw
    have hP : va_P D vwCl [(h0, .inr (9, [.ref h2, .ref h3, .ref h4, .ref h5, .ref h6, .ref h7, .ref h8, .ref h9, .ref h10])), (h3, .inr (3, [.ref h13, .int 0, .int v1])), (h2, .inr (8, [.ref h11, .ref h12, .int 0, .int 0]))] H := hP
    have hD : va_D A [(h0, .inr (9, [.ref h2, .ref h3, .ref h4, .ref h5, .ref h6, .ref h7, .ref h8, .ref h9, .ref h10])), (h3, .inr (3, [.ref h13, .int 0, .int v1])), (h2, .inr (8, [.ref h11, .ref h12, .int 0, .int 0]))] := hD
    refine W.widen (k := 0) (n := 0) (Nat.le_of_ble_eq_true rfl) (Nat.le_of_ble_eq_true rfl) ?_
    exact ow_iret (ty := .int) (u := []) hx hb hr hlocks rfl hP hD hS [] (by decide) rfl dX9_count_71 (Or.inl ⟨rfl, (by omega), rfl⟩)
  have z_300 := q_ne (a := p1.toInt) (b := 3) rfl (by decide) c_300
  by_cases c_302 : p1 = 4
  · have z_302 := q_eq (a := p1.toInt) (b := 4) rfl (by decide) c_302
    refine ow_i (y := 4) c_302 ?_
    refine lv_tableIn (off := 71) (tgt := 72) hx hb dX9_count_1 (by decide) (by decide) rfl (by decide) ?_
    refine lv_aload_n hx hb dX9_count_72 rfl (lv_at hl 0 rfl) ?_
    refine va_get (D := D) (ci := 9) (v := .ref h2) (C := RX9) (T := TX9) (N := 9) hx hb hts inlX9 hown hK hP 0 rfl rfl 0 (by decide) (hts _ k_25) (fun _ h9 => h9) rfl dX9_count_73 ?_
    refine ow_ci (wr := [(h0, .inr (9, [.ref h2, .ref h3, .ref h4, .ref h5, .ref h6, .ref h7, .ref h8, .ref h9, .ref h10])), (h3, .inr (3, [.ref h13, .int 0, .int v1]))]) (ow_rVN (rest := []) (n := 0) (iN := 124) (ci := 8) (q := (RX8, TX8, 4)) ⟨hx, hb, hml, hown, hts⟩ (c_X8_choosers_0 l D G h2 h11 h12 0) k_173 rfl k_5 k_174 k_175 (by decide +kernel) ⟨Nat.le_of_ble_eq_true rfl, Nat.le_of_ble_eq_true rfl⟩ rfl rfl hN hK hP hD [1] (by decide) rfl rfl rfl rfl hl.1 rfl (Nat.le_of_ble_eq_true rfl) dX9_count_76 ⟨Nat.le_of_ble_eq_true rfl, Nat.le_of_ble_eq_true rfl⟩) hP hD hS hA [1] [0, 2] rfl rfl (by decide) (by decide) (fun r u H locs hw hP hD hS => ?_)
    obtain ⟨rfl, c_303, rfl⟩ := hw
    have hP : va_P D vwCl [(h0, .inr (9, [.ref h2, .ref h3, .ref h4, .ref h5, .ref h6, .ref h7, .ref h8, .ref h9, .ref h10])), (h3, .inr (3, [.ref h13, .int 0, .int v1])), (h2, .inr (8, [.ref h11, .ref h12, .int 0, .int 0]))] H := hP
    have hD : va_D A [(h0, .inr (9, [.ref h2, .ref h3, .ref h4, .ref h5, .ref h6, .ref h7, .ref h8, .ref h9, .ref h10])), (h3, .inr (3, [.ref h13, .int 0, .int v1])), (h2, .inr (8, [.ref h11, .ref h12, .int 0, .int 0]))] := hD
    refine W.widen (k := 0) (n := 0) (Nat.le_of_ble_eq_true rfl) (Nat.le_of_ble_eq_true rfl) ?_
    exact ow_iret (ty := .int) (u := []) hx hb hr hlocks rfl hP hD hS [] (by decide) rfl dX9_count_79 (Or.inl ⟨rfl, (by omega), rfl⟩)
  have z_302 := q_ne (a := p1.toInt) (b := 4) rfl (by decide) c_302
  by_cases c_304 : p1 = 5
  · have z_304 := q_eq (a := p1.toInt) (b := 5) rfl (by decide) c_304
    refine ow_i (y := 5) c_304 ?_
    refine lv_tableIn (off := 79) (tgt := 80) hx hb dX9_count_1 (by decide) (by decide) rfl (by decide) ?_
    refine lv_aload_n hx hb dX9_count_80 rfl (lv_at hl 0 rfl) ?_
    refine va_get (D := D) (ci := 9) (v := .ref h3) (C := RX9) (T := TX9) (N := 9) hx hb hts inlX9 hown hK hP 0 rfl rfl 1 (by decide) (hts _ k_34) (fun _ h9 => h9) rfl dX9_count_81 ?_
    refine va_getN (D := D) (ci := 3) (v := .int 0) (C := RX3) (T := TX3) (N := 3) hx hb hts inlX3 hown hK hP 2 rfl rfl 1 (by decide) (va_Nw.use rfl (hN.1 43 _ rfl)) (fun _ h9 => h9) rfl dX9_count_84 ?_
    exact ow_iret (ty := .int) (u := []) hx hb hr hlocks rfl hP hD hS [] (by decide) rfl dX9_count_87 (Or.inl ⟨rfl, (by omega), rfl⟩)
  have z_304 := q_ne (a := p1.toInt) (b := 5) rfl (by decide) c_304
  refine lv_tableOut (tgt := 88) hx hb dX9_count_1 (by omega) (by decide) ?_
  refine lv_bipush (v := (-3)) hx hb dX9_count_88 (by decide) ?_
  exact ow_iret (ty := .int) (u := []) hx hb hr hlocks rfl hP hD hS [] (by decide) rfl dX9_count_90 (Or.inr (⟨rfl, (by omega), rfl⟩))
set_option maxHeartbeats 4000000 in
set_option maxRecDepth 100000 in
theorem c_X10_in_0 (l : Launch) (D : va_G) (G : ow_C) (p0 : Int32) : ow_M l D G yX10_in cX10_in 3 (some .boolean) ({ frames := 1, cells := 0, slots := 0, locals := 64 } : Room) [.int p0, .int 0, .int 3] [] (ow_I D (fun r u => (r = 0 ∧ (¬ (0 ≤ p0.toInt ∧ p0.toInt ≤ 3)) ∧ u = []) ∨ (r = 1 ∧ (0 ≤ p0.toInt ∧ p0.toInt ≤ 3) ∧ u = []))) 0 0 := by
  refine ow_met (by decide) (Nat.le_of_ble_eq_true rfl) ?_
  intro p e s m args below meth c A ls hE hl
  obtain ⟨hx, hb, hr, hml, hown, hlocks, hnm, hts, hN, hK, hP, hD, hA, hS⟩ := id hE
  have hown : s.vm.findClass RX10 = some m.cls := hown
  have hP : va_P D vwCl [] s.heap := hP
  have hD : va_D A [] := hD
  have hl : lv_has ls 3 [(0, .int p0), (1, .int 0), (2, .int 3)] := hl
  refine lv_iload_n hx hb dX10_in_0 rfl (lv_at hl 0 rfl) ?_
  refine lv_iload_n hx hb dX10_in_1 rfl (lv_at hl 1 rfl) ?_
  refine lv_icmp_lt (tgt := 14) hx hb dX10_in_2 (by decide) (fun c_305 => ?_) (fun c_305 => ?_)
  · have z_305 := q_lt (a := p0.toInt) (b := 0) rfl (by decide) c_305
    refine lv_iconst (v := 0) hx hb dX10_in_14 (by decide) ?_
    exact ow_iret (ty := .boolean) (u := []) hx hb hr hlocks rfl hP hD hS [] (by decide) rfl dX10_in_15 (Or.inl ⟨rfl, (by omega), rfl⟩)
  · have z_305 := q_nlt (a := p0.toInt) (b := 0) rfl (by decide) c_305
    refine lv_iload_n hx hb dX10_in_5 rfl (lv_at hl 0 rfl) ?_
    refine lv_iload_n hx hb dX10_in_6 rfl (lv_at hl 2 rfl) ?_
    refine lv_icmp_gt (tgt := 14) hx hb dX10_in_7 (by decide) (fun c_306 => ?_) (fun c_306 => ?_)
    · have z_306 := q_lt (a := 3) (b := p0.toInt) (by decide) rfl c_306
      refine lv_iconst (v := 0) hx hb dX10_in_14 (by decide) ?_
      exact ow_iret (ty := .boolean) (u := []) hx hb hr hlocks rfl hP hD hS [] (by decide) rfl dX10_in_15 (Or.inl ⟨rfl, (by omega), rfl⟩)
    · have z_306 := q_nlt (a := 3) (b := p0.toInt) (by decide) rfl c_306
      refine lv_iconst (v := 1) hx hb dX10_in_10 (by decide) ?_
      refine lv_goto (tgt := 15) hx hb dX10_in_11 (by decide) ?_
      exact ow_iret (ty := .boolean) (u := []) hx hb hr hlocks rfl hP hD hS [] (by decide) rfl dX10_in_15 (Or.inr (⟨rfl, (by omega), rfl⟩))
set_option maxHeartbeats 4000000 in
set_option maxRecDepth 100000 in
theorem c_X10_in_1 (l : Launch) (D : va_G) (G : ow_C) (p0 : Int32) : ow_M l D G yX10_in cX10_in 3 (some .boolean) ({ frames := 1, cells := 0, slots := 0, locals := 64 } : Room) [.int p0, .int 0, .int 5] [] (ow_I D (fun r u => (r = 0 ∧ (¬ (0 ≤ p0.toInt ∧ p0.toInt ≤ 5)) ∧ u = []) ∨ (r = 1 ∧ (0 ≤ p0.toInt ∧ p0.toInt ≤ 5) ∧ u = []))) 0 0 := by
  refine ow_met (by decide) (Nat.le_of_ble_eq_true rfl) ?_
  intro p e s m args below meth c A ls hE hl
  obtain ⟨hx, hb, hr, hml, hown, hlocks, hnm, hts, hN, hK, hP, hD, hA, hS⟩ := id hE
  have hown : s.vm.findClass RX10 = some m.cls := hown
  have hP : va_P D vwCl [] s.heap := hP
  have hD : va_D A [] := hD
  have hl : lv_has ls 3 [(0, .int p0), (1, .int 0), (2, .int 5)] := hl
  refine lv_iload_n hx hb dX10_in_0 rfl (lv_at hl 0 rfl) ?_
  refine lv_iload_n hx hb dX10_in_1 rfl (lv_at hl 1 rfl) ?_
  refine lv_icmp_lt (tgt := 14) hx hb dX10_in_2 (by decide) (fun c_309 => ?_) (fun c_309 => ?_)
  · have z_309 := q_lt (a := p0.toInt) (b := 0) rfl (by decide) c_309
    refine lv_iconst (v := 0) hx hb dX10_in_14 (by decide) ?_
    exact ow_iret (ty := .boolean) (u := []) hx hb hr hlocks rfl hP hD hS [] (by decide) rfl dX10_in_15 (Or.inl ⟨rfl, (by omega), rfl⟩)
  · have z_309 := q_nlt (a := p0.toInt) (b := 0) rfl (by decide) c_309
    refine lv_iload_n hx hb dX10_in_5 rfl (lv_at hl 0 rfl) ?_
    refine lv_iload_n hx hb dX10_in_6 rfl (lv_at hl 2 rfl) ?_
    refine lv_icmp_gt (tgt := 14) hx hb dX10_in_7 (by decide) (fun c_310 => ?_) (fun c_310 => ?_)
    · have z_310 := q_lt (a := 5) (b := p0.toInt) (by decide) rfl c_310
      refine lv_iconst (v := 0) hx hb dX10_in_14 (by decide) ?_
      exact ow_iret (ty := .boolean) (u := []) hx hb hr hlocks rfl hP hD hS [] (by decide) rfl dX10_in_15 (Or.inl ⟨rfl, (by omega), rfl⟩)
    · have z_310 := q_nlt (a := 5) (b := p0.toInt) (by decide) rfl c_310
      refine lv_iconst (v := 1) hx hb dX10_in_10 (by decide) ?_
      refine lv_goto (tgt := 15) hx hb dX10_in_11 (by decide) ?_
      exact ow_iret (ty := .boolean) (u := []) hx hb hr hlocks rfl hP hD hS [] (by decide) rfl dX10_in_15 (Or.inr (⟨rfl, (by omega), rfl⟩))
set_option maxHeartbeats 4000000 in
set_option maxRecDepth 100000 in
theorem c_X10_isPlace_0 (l : Launch) (D : va_G) (G : ow_C) (p0 : Int32) : ow_M l D G yX10_isPlace cX10_isPlace 1 (some .boolean) ({ frames := 2, cells := 0, slots := 0, locals := 86 } : Room) [.int p0] [] (ow_I D (fun r u => (r = 0 ∧ (¬ (0 ≤ p0.toInt ∧ p0.toInt ≤ 5)) ∧ u = []) ∨ (r = 1 ∧ (0 ≤ p0.toInt ∧ p0.toInt ≤ 5) ∧ u = []))) 0 0 := by
  refine ow_met (by decide) (Nat.le_of_ble_eq_true rfl) ?_
  intro p e s m args below meth c A ls hE hl
  obtain ⟨hx, hb, hr, hml, hown, hlocks, hnm, hts, hN, hK, hP, hD, hA, hS⟩ := id hE
  have hown : s.vm.findClass RX10 = some m.cls := hown
  have hP : va_P D vwCl [] s.heap := hP
  have hD : va_D A [] := hD
  have hl : lv_has ls 1 [(0, .int p0)] := hl
  refine lv_iload_n hx hb dX10_isPlace_0 rfl (lv_at hl 0 rfl) ?_
  refine lv_iconst (v := 0) hx hb dX10_isPlace_1 (by decide) ?_
  refine lv_iconst (v := 5) hx hb dX10_isPlace_2 (by decide) ?_
  refine ow_ci (wr := []) (ow_rS (rest := []) (n := 3) ⟨hx, hb, hml, hown, hts⟩ (c_X10_in_1 l D G p0) k_290 k_289 k_291 k_292 (by decide +kernel) ⟨Nat.le_of_ble_eq_true rfl, Nat.le_of_ble_eq_true rfl⟩ rfl rfl hN hK hP hD [] (by decide) rfl rfl hl.1 rfl (Nat.le_of_ble_eq_true rfl) dX10_isPlace_3 ⟨Nat.le_of_ble_eq_true rfl, Nat.le_of_ble_eq_true rfl⟩) hP hD hS hA [] [] rfl rfl (by decide) (by decide) (fun r u H locs hw hP hD hS => ?_)
  rcases hw with ⟨rfl, c_309, rfl⟩ | ⟨rfl, c_310, rfl⟩
  · have hP : va_P D vwCl [] H := hP
    have hD : va_D A [] := hD
    refine W.widen (k := 0) (n := 0) (Nat.le_of_ble_eq_true rfl) (Nat.le_of_ble_eq_true rfl) ?_
    exact ow_iret (ty := .boolean) (u := []) hx hb hr hlocks rfl hP hD hS [] (by decide) rfl dX10_isPlace_6 (Or.inl ⟨rfl, (by omega), rfl⟩)
  · have hP : va_P D vwCl [] H := hP
    have hD : va_D A [] := hD
    refine W.widen (k := 0) (n := 0) (Nat.le_of_ble_eq_true rfl) (Nat.le_of_ble_eq_true rfl) ?_
    exact ow_iret (ty := .boolean) (u := []) hx hb hr hlocks rfl hP hD hS [] (by decide) rfl dX10_isPlace_6 (Or.inr (⟨rfl, (by omega), rfl⟩))
set_option maxHeartbeats 4000000 in
set_option maxRecDepth 100000 in
theorem c_X10_in_2 (l : Launch) (D : va_G) (G : ow_C) (p0 : Int32) : ow_M l D G yX10_in cX10_in 3 (some .boolean) ({ frames := 1, cells := 0, slots := 0, locals := 64 } : Room) [.int p0, .int 0, .int 12] [] (ow_I D (fun r u => (r = 0 ∧ (¬ (0 ≤ p0.toInt ∧ p0.toInt ≤ 12)) ∧ u = []) ∨ (r = 1 ∧ (0 ≤ p0.toInt ∧ p0.toInt ≤ 12) ∧ u = []))) 0 0 := by
  refine ow_met (by decide) (Nat.le_of_ble_eq_true rfl) ?_
  intro p e s m args below meth c A ls hE hl
  obtain ⟨hx, hb, hr, hml, hown, hlocks, hnm, hts, hN, hK, hP, hD, hA, hS⟩ := id hE
  have hown : s.vm.findClass RX10 = some m.cls := hown
  have hP : va_P D vwCl [] s.heap := hP
  have hD : va_D A [] := hD
  have hl : lv_has ls 3 [(0, .int p0), (1, .int 0), (2, .int 12)] := hl
  refine lv_iload_n hx hb dX10_in_0 rfl (lv_at hl 0 rfl) ?_
  refine lv_iload_n hx hb dX10_in_1 rfl (lv_at hl 1 rfl) ?_
  refine lv_icmp_lt (tgt := 14) hx hb dX10_in_2 (by decide) (fun c_316 => ?_) (fun c_316 => ?_)
  · have z_316 := q_lt (a := p0.toInt) (b := 0) rfl (by decide) c_316
    refine lv_iconst (v := 0) hx hb dX10_in_14 (by decide) ?_
    exact ow_iret (ty := .boolean) (u := []) hx hb hr hlocks rfl hP hD hS [] (by decide) rfl dX10_in_15 (Or.inl ⟨rfl, (by omega), rfl⟩)
  · have z_316 := q_nlt (a := p0.toInt) (b := 0) rfl (by decide) c_316
    refine lv_iload_n hx hb dX10_in_5 rfl (lv_at hl 0 rfl) ?_
    refine lv_iload_n hx hb dX10_in_6 rfl (lv_at hl 2 rfl) ?_
    refine lv_icmp_gt (tgt := 14) hx hb dX10_in_7 (by decide) (fun c_317 => ?_) (fun c_317 => ?_)
    · have z_317 := q_lt (a := 12) (b := p0.toInt) (by decide) rfl c_317
      refine lv_iconst (v := 0) hx hb dX10_in_14 (by decide) ?_
      exact ow_iret (ty := .boolean) (u := []) hx hb hr hlocks rfl hP hD hS [] (by decide) rfl dX10_in_15 (Or.inl ⟨rfl, (by omega), rfl⟩)
    · have z_317 := q_nlt (a := 12) (b := p0.toInt) (by decide) rfl c_317
      refine lv_iconst (v := 1) hx hb dX10_in_10 (by decide) ?_
      refine lv_goto (tgt := 15) hx hb dX10_in_11 (by decide) ?_
      exact ow_iret (ty := .boolean) (u := []) hx hb hr hlocks rfl hP hD hS [] (by decide) rfl dX10_in_15 (Or.inr (⟨rfl, (by omega), rfl⟩))
set_option maxHeartbeats 4000000 in
set_option maxRecDepth 100000 in
theorem c_X10_in_3 (l : Launch) (D : va_G) (G : ow_C) (p0 : Int32) : ow_M l D G yX10_in cX10_in 3 (some .boolean) ({ frames := 1, cells := 0, slots := 0, locals := 64 } : Room) [.int p0, .int 0, .int 1000] [] (ow_I D (fun r u => (r = 0 ∧ (¬ (0 ≤ p0.toInt ∧ p0.toInt ≤ 1000)) ∧ u = []) ∨ (r = 1 ∧ (0 ≤ p0.toInt ∧ p0.toInt ≤ 1000) ∧ u = []))) 0 0 := by
  refine ow_met (by decide) (Nat.le_of_ble_eq_true rfl) ?_
  intro p e s m args below meth c A ls hE hl
  obtain ⟨hx, hb, hr, hml, hown, hlocks, hnm, hts, hN, hK, hP, hD, hA, hS⟩ := id hE
  have hown : s.vm.findClass RX10 = some m.cls := hown
  have hP : va_P D vwCl [] s.heap := hP
  have hD : va_D A [] := hD
  have hl : lv_has ls 3 [(0, .int p0), (1, .int 0), (2, .int 1000)] := hl
  refine lv_iload_n hx hb dX10_in_0 rfl (lv_at hl 0 rfl) ?_
  refine lv_iload_n hx hb dX10_in_1 rfl (lv_at hl 1 rfl) ?_
  refine lv_icmp_lt (tgt := 14) hx hb dX10_in_2 (by decide) (fun c_320 => ?_) (fun c_320 => ?_)
  · have z_320 := q_lt (a := p0.toInt) (b := 0) rfl (by decide) c_320
    refine lv_iconst (v := 0) hx hb dX10_in_14 (by decide) ?_
    exact ow_iret (ty := .boolean) (u := []) hx hb hr hlocks rfl hP hD hS [] (by decide) rfl dX10_in_15 (Or.inl ⟨rfl, (by omega), rfl⟩)
  · have z_320 := q_nlt (a := p0.toInt) (b := 0) rfl (by decide) c_320
    refine lv_iload_n hx hb dX10_in_5 rfl (lv_at hl 0 rfl) ?_
    refine lv_iload_n hx hb dX10_in_6 rfl (lv_at hl 2 rfl) ?_
    refine lv_icmp_gt (tgt := 14) hx hb dX10_in_7 (by decide) (fun c_321 => ?_) (fun c_321 => ?_)
    · have z_321 := q_lt (a := 1000) (b := p0.toInt) (by decide) rfl c_321
      refine lv_iconst (v := 0) hx hb dX10_in_14 (by decide) ?_
      exact ow_iret (ty := .boolean) (u := []) hx hb hr hlocks rfl hP hD hS [] (by decide) rfl dX10_in_15 (Or.inl ⟨rfl, (by omega), rfl⟩)
    · have z_321 := q_nlt (a := 1000) (b := p0.toInt) (by decide) rfl c_321
      refine lv_iconst (v := 1) hx hb dX10_in_10 (by decide) ?_
      refine lv_goto (tgt := 15) hx hb dX10_in_11 (by decide) ?_
      exact ow_iret (ty := .boolean) (u := []) hx hb hr hlocks rfl hP hD hS [] (by decide) rfl dX10_in_15 (Or.inr (⟨rfl, (by omega), rfl⟩))
set_option maxHeartbeats 4000000 in
set_option maxRecDepth 100000 in
theorem c_X10_write_0 (l : Launch) (D : va_G) (G : ow_C) (h0 : Nat) (h1 : Nat) (v1 : Int32) (v2 : Int32) (h2 : Nat) (h3 : Nat) (h4 : Nat) (h5 : Nat) (h6 : Nat) (h7 : Nat) (h8 : Nat) (h9 : Nat) (h10 : Nat) (v3 : Int32) (h11 : Nat) (h12 : Nat) (h13 : Nat) (h14 : Nat) (v4 : Int32) (v5 : Int32) (h15 : Nat) (h16 : Nat) (h17 : Nat) (v6 : Int32) (h18 : Nat) (v7 : Int32) (h19 : Nat) (h20 : Nat) (v8 : Int32) (h21 : Nat) (h22 : Nat) (v9 : Int32) (v10 : Int32) (v11 : Int32) (v12 : Int32) (v13 : Int32) (v14 : Int32) (v15 : Int32) (v16 : Int32) (h23 : Nat) (v17 : Int64) (v18 : Int64) (v19 : Int64) (v20 : Int64) (v21 : Nat → Int32) (v22 : Nat → Int32) : ow_M l D G yX10_write cX10_write 4 none ({ frames := 1, cells := 0, slots := 0, locals := 64 } : Room) [.ref h0, .ref h1, .int 10] [(h0, .inr (10, (.int v1 :: .int v2 :: .ref h1 :: .ref h2 :: .ref h3 :: .ref h4 :: .ref h5 :: .ref h6 :: .ref h7 :: .ref h8 :: .ref h9 :: .ref h10 :: .int v3 :: .ref h11 :: .ref h12 :: .ref h13 :: .ref h14 :: .int v4 :: .int v5 :: .int 2 :: .ref h15 :: .ref h16 :: .ref h17 :: .int v6 :: .ref h18 :: .int v7 :: .ref h19 :: .ref h20 :: .int v8 :: .ref h21 :: .ref h22 :: .int v9 :: .int v10 :: .int v11 :: .int v12 :: .int v13 :: .int v14 :: .int v15 :: .int v16 :: .ref h23 :: .long v17 :: .long v18 :: .long v19 :: .long v20 :: []))), (h1, .inl (G.1, 10, .inl v21)), (h14, .inl (G.1, 1336, .inl v22))] (ow_V D (fun u => (True ∧ (∃ e0 : Nat → Int32, u = [(h0, .inr (10, (.int v1 :: .int v2 :: .ref h1 :: .ref h2 :: .ref h3 :: .ref h4 :: .ref h5 :: .ref h6 :: .ref h7 :: .ref h8 :: .ref h9 :: .ref h10 :: .int v3 :: .ref h11 :: .ref h12 :: .ref h13 :: .ref h14 :: .int v4 :: .int v5 :: .int 12 :: .ref h15 :: .ref h16 :: .ref h17 :: .int v6 :: .ref h18 :: .int v7 :: .ref h19 :: .ref h20 :: .int v8 :: .ref h21 :: .ref h22 :: .int v9 :: .int v10 :: .int v11 :: .int v12 :: .int v13 :: .int v14 :: .int v15 :: .int v16 :: .ref h23 :: .long v17 :: .long v18 :: .long v19 :: .long v20 :: []))), (h1, .inl (G.1, 10, .inl v21)), (h14, .inl (G.1, 1336, .inl e0))])))) 0 0 := by
  refine ow_met (by decide) (Nat.le_of_ble_eq_true rfl) ?_
  intro p e s m args below meth c A ls hE hl
  obtain ⟨hx, hb, hr, hml, hown, hlocks, hnm, hts, hN, hK, hP, hD, hA, hS⟩ := id hE
  have hown : s.vm.findClass RX10 = some m.cls := hown
  have hP : va_P D vwCl [(h0, .inr (10, (.int v1 :: .int v2 :: .ref h1 :: .ref h2 :: .ref h3 :: .ref h4 :: .ref h5 :: .ref h6 :: .ref h7 :: .ref h8 :: .ref h9 :: .ref h10 :: .int v3 :: .ref h11 :: .ref h12 :: .ref h13 :: .ref h14 :: .int v4 :: .int v5 :: .int 2 :: .ref h15 :: .ref h16 :: .ref h17 :: .int v6 :: .ref h18 :: .int v7 :: .ref h19 :: .ref h20 :: .int v8 :: .ref h21 :: .ref h22 :: .int v9 :: .int v10 :: .int v11 :: .int v12 :: .int v13 :: .int v14 :: .int v15 :: .int v16 :: .ref h23 :: .long v17 :: .long v18 :: .long v19 :: .long v20 :: []))), (h1, .inl (G.1, 10, .inl v21)), (h14, .inl (G.1, 1336, .inl v22))] s.heap := hP
  have hD : va_D A [(h0, .inr (10, (.int v1 :: .int v2 :: .ref h1 :: .ref h2 :: .ref h3 :: .ref h4 :: .ref h5 :: .ref h6 :: .ref h7 :: .ref h8 :: .ref h9 :: .ref h10 :: .int v3 :: .ref h11 :: .ref h12 :: .ref h13 :: .ref h14 :: .int v4 :: .int v5 :: .int 2 :: .ref h15 :: .ref h16 :: .ref h17 :: .int v6 :: .ref h18 :: .int v7 :: .ref h19 :: .ref h20 :: .int v8 :: .ref h21 :: .ref h22 :: .int v9 :: .int v10 :: .int v11 :: .int v12 :: .int v13 :: .int v14 :: .int v15 :: .int v16 :: .ref h23 :: .long v17 :: .long v18 :: .long v19 :: .long v20 :: []))), (h1, .inl (G.1, 10, .inl v21)), (h14, .inl (G.1, 1336, .inl v22))] := hD
  have hl : lv_has ls 4 [(0, .ref h0), (1, .ref h1), (2, .int 10)] := hl
  refine lv_iconst (v := 0) hx hb dX10_write_0 (by decide) ?_
  refine lv_istore_n (lv' := [(3, .int 0), (0, .ref h0), (1, .ref h1), (2, .int 10)]) hx hb dX10_write_1 rfl hl (by decide) rfl (fun ls hl => ?_)
  refine lv_iload_n hx hb dX10_write_2 rfl (lv_at hl 0 rfl) ?_
  refine lv_iload_n hx hb dX10_write_3 rfl (lv_at hl 3 rfl) ?_
  refine lv_icmp_ge (tgt := 35) hx hb dX10_write_4 (by decide) (fun h9 => absurd h9 (by decide)) (fun _ => ?_)
  refine lv_aload_n hx hb dX10_write_7 rfl (lv_at hl 1 rfl) ?_
  refine va_get (D := D) (ci := 10) (v := .ref h14) (C := RX10) (T := TX10) (N := 44) hx hb hts inlX10 hown hK hP 0 rfl rfl 16 (by decide) (hts _ k_105) (fun _ h9 => h9) rfl dX10_write_8 ?_
  refine lv_aload_n hx hb dX10_write_11 rfl (lv_at hl 1 rfl) ?_
  refine va_get (D := D) (ci := 10) (v := .int 2) (C := RX10) (T := TX10) (N := 44) hx hb hts inlX10 hown hK hP 0 rfl rfl 19 (by decide) (hts _ k_298) (fun _ h9 => h9) rfl dX10_write_12 ?_
  refine lv_aload_n hx hb dX10_write_15 rfl (lv_at hl 2 rfl) ?_
  refine lv_iload_n hx hb dX10_write_16 rfl (lv_at hl 0 rfl) ?_
  refine va_iald hx hb hK hP 1 0 rfl rfl (show ¬ ((0 : Int32) < 0 ∨ 10 ≤ (0 : Int32).toNatClampNeg) by decide) dX10_write_17 ?_
  refine lv_topi (fun x326 _ => ?_)
  refine va_iast hx hb hK hP hD hS 2 0 rfl rfl (show ¬ ((2 : Int32) < 0 ∨ 1336 ≤ (2 : Int32).toNatClampNeg) by decide) dX10_write_18 (fun H locs hP hD hS => ?_)
  obtain ⟨f327, hP, hD⟩ : ∃ f327, va_P D vwCl [(h0, .inr (10, (.int v1 :: .int v2 :: .ref h1 :: .ref h2 :: .ref h3 :: .ref h4 :: .ref h5 :: .ref h6 :: .ref h7 :: .ref h8 :: .ref h9 :: .ref h10 :: .int v3 :: .ref h11 :: .ref h12 :: .ref h13 :: .ref h14 :: .int v4 :: .int v5 :: .int 2 :: .ref h15 :: .ref h16 :: .ref h17 :: .int v6 :: .ref h18 :: .int v7 :: .ref h19 :: .ref h20 :: .int v8 :: .ref h21 :: .ref h22 :: .int v9 :: .int v10 :: .int v11 :: .int v12 :: .int v13 :: .int v14 :: .int v15 :: .int v16 :: .ref h23 :: .long v17 :: .long v18 :: .long v19 :: .long v20 :: []))), (h1, .inl (G.1, 10, .inl v21)), (h14, .inl (G.1, 1336, .inl f327))] H ∧ va_D A [(h0, .inr (10, (.int v1 :: .int v2 :: .ref h1 :: .ref h2 :: .ref h3 :: .ref h4 :: .ref h5 :: .ref h6 :: .ref h7 :: .ref h8 :: .ref h9 :: .ref h10 :: .int v3 :: .ref h11 :: .ref h12 :: .ref h13 :: .ref h14 :: .int v4 :: .int v5 :: .int 2 :: .ref h15 :: .ref h16 :: .ref h17 :: .int v6 :: .ref h18 :: .int v7 :: .ref h19 :: .ref h20 :: .int v8 :: .ref h21 :: .ref h22 :: .int v9 :: .int v10 :: .int v11 :: .int v12 :: .int v13 :: .int v14 :: .int v15 :: .int v16 :: .ref h23 :: .long v17 :: .long v18 :: .long v19 :: .long v20 :: []))), (h1, .inl (G.1, 10, .inl v21)), (h14, .inl (G.1, 1336, .inl f327))] := ⟨_, hP, hD⟩
  refine lv_aload_n hx hb dX10_write_19 rfl (lv_at hl 1 rfl) ?_
  refine lv_dup hx hb dX10_write_20 rfl ?_
  refine va_get (D := D) (ci := 10) (v := .int 2) (C := RX10) (T := TX10) (N := 44) hx hb hts inlX10 hown hK hP 0 rfl rfl 19 (by decide) (hts _ k_298) (fun _ h9 => h9) rfl dX10_write_21 ?_
  refine lv_iconst (v := 1) hx hb dX10_write_24 (by decide) ?_
  refine lv_iadd hx hb dX10_write_25 ?_
  refine ow_i (y := 3) (by decide) ?_
  refine va_put (D := D) (ci := 10) (v := .int 3) (ty := .int) (C := RX10) (T := TX10) (N := 44) hx hb hts inlX10 tyX10 tyX10_ok nmX10 hown hK hP hD hS 0 rfl rfl 19 (by decide) (hts _ k_298) (fun _ h9 => h9) rfl (tyX10_ok 19 (by decide)) rfl rfl (Nat.le_of_ble_eq_true rfl) dX10_write_26 (fun H locs hP hD hS => ?_)
  have hP : va_P D vwCl [(h0, .inr (10, (.int v1 :: .int v2 :: .ref h1 :: .ref h2 :: .ref h3 :: .ref h4 :: .ref h5 :: .ref h6 :: .ref h7 :: .ref h8 :: .ref h9 :: .ref h10 :: .int v3 :: .ref h11 :: .ref h12 :: .ref h13 :: .ref h14 :: .int v4 :: .int v5 :: .int 3 :: .ref h15 :: .ref h16 :: .ref h17 :: .int v6 :: .ref h18 :: .int v7 :: .ref h19 :: .ref h20 :: .int v8 :: .ref h21 :: .ref h22 :: .int v9 :: .int v10 :: .int v11 :: .int v12 :: .int v13 :: .int v14 :: .int v15 :: .int v16 :: .ref h23 :: .long v17 :: .long v18 :: .long v19 :: .long v20 :: []))), (h1, .inl (G.1, 10, .inl v21)), (h14, .inl (G.1, 1336, .inl f327))] H := hP
  have hD : va_D A [(h0, .inr (10, (.int v1 :: .int v2 :: .ref h1 :: .ref h2 :: .ref h3 :: .ref h4 :: .ref h5 :: .ref h6 :: .ref h7 :: .ref h8 :: .ref h9 :: .ref h10 :: .int v3 :: .ref h11 :: .ref h12 :: .ref h13 :: .ref h14 :: .int v4 :: .int v5 :: .int 3 :: .ref h15 :: .ref h16 :: .ref h17 :: .int v6 :: .ref h18 :: .int v7 :: .ref h19 :: .ref h20 :: .int v8 :: .ref h21 :: .ref h22 :: .int v9 :: .int v10 :: .int v11 :: .int v12 :: .int v13 :: .int v14 :: .int v15 :: .int v16 :: .ref h23 :: .long v17 :: .long v18 :: .long v19 :: .long v20 :: []))), (h1, .inl (G.1, 10, .inl v21)), (h14, .inl (G.1, 1336, .inl f327))] := hD
  refine lv_iinc (v := 1) (lv' := [(3, .int 1), (0, .ref h0), (1, .ref h1), (2, .int 10)]) hx hb dX10_write_29 hl (k := 0) rfl (by decide) (by decide) rfl (fun ls hl => ?_)
  refine lv_goto (tgt := 2) hx hb dX10_write_32 (by decide) ?_
  refine lv_iload_n hx hb dX10_write_2 rfl (lv_at hl 0 rfl) ?_
  refine lv_iload_n hx hb dX10_write_3 rfl (lv_at hl 3 rfl) ?_
  refine lv_icmp_ge (tgt := 35) hx hb dX10_write_4 (by decide) (fun h9 => absurd h9 (by decide)) (fun _ => ?_)
  refine lv_aload_n hx hb dX10_write_7 rfl (lv_at hl 1 rfl) ?_
  refine va_get (D := D) (ci := 10) (v := .ref h14) (C := RX10) (T := TX10) (N := 44) hx hb hts inlX10 hown hK hP 0 rfl rfl 16 (by decide) (hts _ k_105) (fun _ h9 => h9) rfl dX10_write_8 ?_
  refine lv_aload_n hx hb dX10_write_11 rfl (lv_at hl 1 rfl) ?_
  refine va_get (D := D) (ci := 10) (v := .int 3) (C := RX10) (T := TX10) (N := 44) hx hb hts inlX10 hown hK hP 0 rfl rfl 19 (by decide) (hts _ k_298) (fun _ h9 => h9) rfl dX10_write_12 ?_
  refine lv_aload_n hx hb dX10_write_15 rfl (lv_at hl 2 rfl) ?_
  refine lv_iload_n hx hb dX10_write_16 rfl (lv_at hl 0 rfl) ?_
  refine va_iald hx hb hK hP 1 0 rfl rfl (show ¬ ((1 : Int32) < 0 ∨ 10 ≤ (1 : Int32).toNatClampNeg) by decide) dX10_write_17 ?_
  refine lv_topi (fun x328 _ => ?_)
  refine va_iast hx hb hK hP hD hS 2 0 rfl rfl (show ¬ ((3 : Int32) < 0 ∨ 1336 ≤ (3 : Int32).toNatClampNeg) by decide) dX10_write_18 (fun H locs hP hD hS => ?_)
  obtain ⟨f329, hP, hD⟩ : ∃ f329, va_P D vwCl [(h0, .inr (10, (.int v1 :: .int v2 :: .ref h1 :: .ref h2 :: .ref h3 :: .ref h4 :: .ref h5 :: .ref h6 :: .ref h7 :: .ref h8 :: .ref h9 :: .ref h10 :: .int v3 :: .ref h11 :: .ref h12 :: .ref h13 :: .ref h14 :: .int v4 :: .int v5 :: .int 3 :: .ref h15 :: .ref h16 :: .ref h17 :: .int v6 :: .ref h18 :: .int v7 :: .ref h19 :: .ref h20 :: .int v8 :: .ref h21 :: .ref h22 :: .int v9 :: .int v10 :: .int v11 :: .int v12 :: .int v13 :: .int v14 :: .int v15 :: .int v16 :: .ref h23 :: .long v17 :: .long v18 :: .long v19 :: .long v20 :: []))), (h1, .inl (G.1, 10, .inl v21)), (h14, .inl (G.1, 1336, .inl f329))] H ∧ va_D A [(h0, .inr (10, (.int v1 :: .int v2 :: .ref h1 :: .ref h2 :: .ref h3 :: .ref h4 :: .ref h5 :: .ref h6 :: .ref h7 :: .ref h8 :: .ref h9 :: .ref h10 :: .int v3 :: .ref h11 :: .ref h12 :: .ref h13 :: .ref h14 :: .int v4 :: .int v5 :: .int 3 :: .ref h15 :: .ref h16 :: .ref h17 :: .int v6 :: .ref h18 :: .int v7 :: .ref h19 :: .ref h20 :: .int v8 :: .ref h21 :: .ref h22 :: .int v9 :: .int v10 :: .int v11 :: .int v12 :: .int v13 :: .int v14 :: .int v15 :: .int v16 :: .ref h23 :: .long v17 :: .long v18 :: .long v19 :: .long v20 :: []))), (h1, .inl (G.1, 10, .inl v21)), (h14, .inl (G.1, 1336, .inl f329))] := ⟨_, hP, hD⟩
  refine lv_aload_n hx hb dX10_write_19 rfl (lv_at hl 1 rfl) ?_
  refine lv_dup hx hb dX10_write_20 rfl ?_
  refine va_get (D := D) (ci := 10) (v := .int 3) (C := RX10) (T := TX10) (N := 44) hx hb hts inlX10 hown hK hP 0 rfl rfl 19 (by decide) (hts _ k_298) (fun _ h9 => h9) rfl dX10_write_21 ?_
  refine lv_iconst (v := 1) hx hb dX10_write_24 (by decide) ?_
  refine lv_iadd hx hb dX10_write_25 ?_
  refine ow_i (y := 4) (by decide) ?_
  refine va_put (D := D) (ci := 10) (v := .int 4) (ty := .int) (C := RX10) (T := TX10) (N := 44) hx hb hts inlX10 tyX10 tyX10_ok nmX10 hown hK hP hD hS 0 rfl rfl 19 (by decide) (hts _ k_298) (fun _ h9 => h9) rfl (tyX10_ok 19 (by decide)) rfl rfl (Nat.le_of_ble_eq_true rfl) dX10_write_26 (fun H locs hP hD hS => ?_)
  have hP : va_P D vwCl [(h0, .inr (10, (.int v1 :: .int v2 :: .ref h1 :: .ref h2 :: .ref h3 :: .ref h4 :: .ref h5 :: .ref h6 :: .ref h7 :: .ref h8 :: .ref h9 :: .ref h10 :: .int v3 :: .ref h11 :: .ref h12 :: .ref h13 :: .ref h14 :: .int v4 :: .int v5 :: .int 4 :: .ref h15 :: .ref h16 :: .ref h17 :: .int v6 :: .ref h18 :: .int v7 :: .ref h19 :: .ref h20 :: .int v8 :: .ref h21 :: .ref h22 :: .int v9 :: .int v10 :: .int v11 :: .int v12 :: .int v13 :: .int v14 :: .int v15 :: .int v16 :: .ref h23 :: .long v17 :: .long v18 :: .long v19 :: .long v20 :: []))), (h1, .inl (G.1, 10, .inl v21)), (h14, .inl (G.1, 1336, .inl f329))] H := hP
  have hD : va_D A [(h0, .inr (10, (.int v1 :: .int v2 :: .ref h1 :: .ref h2 :: .ref h3 :: .ref h4 :: .ref h5 :: .ref h6 :: .ref h7 :: .ref h8 :: .ref h9 :: .ref h10 :: .int v3 :: .ref h11 :: .ref h12 :: .ref h13 :: .ref h14 :: .int v4 :: .int v5 :: .int 4 :: .ref h15 :: .ref h16 :: .ref h17 :: .int v6 :: .ref h18 :: .int v7 :: .ref h19 :: .ref h20 :: .int v8 :: .ref h21 :: .ref h22 :: .int v9 :: .int v10 :: .int v11 :: .int v12 :: .int v13 :: .int v14 :: .int v15 :: .int v16 :: .ref h23 :: .long v17 :: .long v18 :: .long v19 :: .long v20 :: []))), (h1, .inl (G.1, 10, .inl v21)), (h14, .inl (G.1, 1336, .inl f329))] := hD
  refine lv_iinc (v := 2) (lv' := [(3, .int 2), (0, .ref h0), (1, .ref h1), (2, .int 10)]) hx hb dX10_write_29 hl (k := 0) rfl (by decide) (by decide) rfl (fun ls hl => ?_)
  refine lv_goto (tgt := 2) hx hb dX10_write_32 (by decide) ?_
  refine lv_iload_n hx hb dX10_write_2 rfl (lv_at hl 0 rfl) ?_
  refine lv_iload_n hx hb dX10_write_3 rfl (lv_at hl 3 rfl) ?_
  refine lv_icmp_ge (tgt := 35) hx hb dX10_write_4 (by decide) (fun h9 => absurd h9 (by decide)) (fun _ => ?_)
  refine lv_aload_n hx hb dX10_write_7 rfl (lv_at hl 1 rfl) ?_
  refine va_get (D := D) (ci := 10) (v := .ref h14) (C := RX10) (T := TX10) (N := 44) hx hb hts inlX10 hown hK hP 0 rfl rfl 16 (by decide) (hts _ k_105) (fun _ h9 => h9) rfl dX10_write_8 ?_
  refine lv_aload_n hx hb dX10_write_11 rfl (lv_at hl 1 rfl) ?_
  refine va_get (D := D) (ci := 10) (v := .int 4) (C := RX10) (T := TX10) (N := 44) hx hb hts inlX10 hown hK hP 0 rfl rfl 19 (by decide) (hts _ k_298) (fun _ h9 => h9) rfl dX10_write_12 ?_
  refine lv_aload_n hx hb dX10_write_15 rfl (lv_at hl 2 rfl) ?_
  refine lv_iload_n hx hb dX10_write_16 rfl (lv_at hl 0 rfl) ?_
  refine va_iald hx hb hK hP 1 0 rfl rfl (show ¬ ((2 : Int32) < 0 ∨ 10 ≤ (2 : Int32).toNatClampNeg) by decide) dX10_write_17 ?_
  refine lv_topi (fun x330 _ => ?_)
  refine va_iast hx hb hK hP hD hS 2 0 rfl rfl (show ¬ ((4 : Int32) < 0 ∨ 1336 ≤ (4 : Int32).toNatClampNeg) by decide) dX10_write_18 (fun H locs hP hD hS => ?_)
  obtain ⟨f331, hP, hD⟩ : ∃ f331, va_P D vwCl [(h0, .inr (10, (.int v1 :: .int v2 :: .ref h1 :: .ref h2 :: .ref h3 :: .ref h4 :: .ref h5 :: .ref h6 :: .ref h7 :: .ref h8 :: .ref h9 :: .ref h10 :: .int v3 :: .ref h11 :: .ref h12 :: .ref h13 :: .ref h14 :: .int v4 :: .int v5 :: .int 4 :: .ref h15 :: .ref h16 :: .ref h17 :: .int v6 :: .ref h18 :: .int v7 :: .ref h19 :: .ref h20 :: .int v8 :: .ref h21 :: .ref h22 :: .int v9 :: .int v10 :: .int v11 :: .int v12 :: .int v13 :: .int v14 :: .int v15 :: .int v16 :: .ref h23 :: .long v17 :: .long v18 :: .long v19 :: .long v20 :: []))), (h1, .inl (G.1, 10, .inl v21)), (h14, .inl (G.1, 1336, .inl f331))] H ∧ va_D A [(h0, .inr (10, (.int v1 :: .int v2 :: .ref h1 :: .ref h2 :: .ref h3 :: .ref h4 :: .ref h5 :: .ref h6 :: .ref h7 :: .ref h8 :: .ref h9 :: .ref h10 :: .int v3 :: .ref h11 :: .ref h12 :: .ref h13 :: .ref h14 :: .int v4 :: .int v5 :: .int 4 :: .ref h15 :: .ref h16 :: .ref h17 :: .int v6 :: .ref h18 :: .int v7 :: .ref h19 :: .ref h20 :: .int v8 :: .ref h21 :: .ref h22 :: .int v9 :: .int v10 :: .int v11 :: .int v12 :: .int v13 :: .int v14 :: .int v15 :: .int v16 :: .ref h23 :: .long v17 :: .long v18 :: .long v19 :: .long v20 :: []))), (h1, .inl (G.1, 10, .inl v21)), (h14, .inl (G.1, 1336, .inl f331))] := ⟨_, hP, hD⟩
  refine lv_aload_n hx hb dX10_write_19 rfl (lv_at hl 1 rfl) ?_
  refine lv_dup hx hb dX10_write_20 rfl ?_
  refine va_get (D := D) (ci := 10) (v := .int 4) (C := RX10) (T := TX10) (N := 44) hx hb hts inlX10 hown hK hP 0 rfl rfl 19 (by decide) (hts _ k_298) (fun _ h9 => h9) rfl dX10_write_21 ?_
  refine lv_iconst (v := 1) hx hb dX10_write_24 (by decide) ?_
  refine lv_iadd hx hb dX10_write_25 ?_
  refine ow_i (y := 5) (by decide) ?_
  refine va_put (D := D) (ci := 10) (v := .int 5) (ty := .int) (C := RX10) (T := TX10) (N := 44) hx hb hts inlX10 tyX10 tyX10_ok nmX10 hown hK hP hD hS 0 rfl rfl 19 (by decide) (hts _ k_298) (fun _ h9 => h9) rfl (tyX10_ok 19 (by decide)) rfl rfl (Nat.le_of_ble_eq_true rfl) dX10_write_26 (fun H locs hP hD hS => ?_)
  have hP : va_P D vwCl [(h0, .inr (10, (.int v1 :: .int v2 :: .ref h1 :: .ref h2 :: .ref h3 :: .ref h4 :: .ref h5 :: .ref h6 :: .ref h7 :: .ref h8 :: .ref h9 :: .ref h10 :: .int v3 :: .ref h11 :: .ref h12 :: .ref h13 :: .ref h14 :: .int v4 :: .int v5 :: .int 5 :: .ref h15 :: .ref h16 :: .ref h17 :: .int v6 :: .ref h18 :: .int v7 :: .ref h19 :: .ref h20 :: .int v8 :: .ref h21 :: .ref h22 :: .int v9 :: .int v10 :: .int v11 :: .int v12 :: .int v13 :: .int v14 :: .int v15 :: .int v16 :: .ref h23 :: .long v17 :: .long v18 :: .long v19 :: .long v20 :: []))), (h1, .inl (G.1, 10, .inl v21)), (h14, .inl (G.1, 1336, .inl f331))] H := hP
  have hD : va_D A [(h0, .inr (10, (.int v1 :: .int v2 :: .ref h1 :: .ref h2 :: .ref h3 :: .ref h4 :: .ref h5 :: .ref h6 :: .ref h7 :: .ref h8 :: .ref h9 :: .ref h10 :: .int v3 :: .ref h11 :: .ref h12 :: .ref h13 :: .ref h14 :: .int v4 :: .int v5 :: .int 5 :: .ref h15 :: .ref h16 :: .ref h17 :: .int v6 :: .ref h18 :: .int v7 :: .ref h19 :: .ref h20 :: .int v8 :: .ref h21 :: .ref h22 :: .int v9 :: .int v10 :: .int v11 :: .int v12 :: .int v13 :: .int v14 :: .int v15 :: .int v16 :: .ref h23 :: .long v17 :: .long v18 :: .long v19 :: .long v20 :: []))), (h1, .inl (G.1, 10, .inl v21)), (h14, .inl (G.1, 1336, .inl f331))] := hD
  refine lv_iinc (v := 3) (lv' := [(3, .int 3), (0, .ref h0), (1, .ref h1), (2, .int 10)]) hx hb dX10_write_29 hl (k := 0) rfl (by decide) (by decide) rfl (fun ls hl => ?_)
  refine lv_goto (tgt := 2) hx hb dX10_write_32 (by decide) ?_
  refine lv_iload_n hx hb dX10_write_2 rfl (lv_at hl 0 rfl) ?_
  refine lv_iload_n hx hb dX10_write_3 rfl (lv_at hl 3 rfl) ?_
  refine lv_icmp_ge (tgt := 35) hx hb dX10_write_4 (by decide) (fun h9 => absurd h9 (by decide)) (fun _ => ?_)
  refine lv_aload_n hx hb dX10_write_7 rfl (lv_at hl 1 rfl) ?_
  refine va_get (D := D) (ci := 10) (v := .ref h14) (C := RX10) (T := TX10) (N := 44) hx hb hts inlX10 hown hK hP 0 rfl rfl 16 (by decide) (hts _ k_105) (fun _ h9 => h9) rfl dX10_write_8 ?_
  refine lv_aload_n hx hb dX10_write_11 rfl (lv_at hl 1 rfl) ?_
  refine va_get (D := D) (ci := 10) (v := .int 5) (C := RX10) (T := TX10) (N := 44) hx hb hts inlX10 hown hK hP 0 rfl rfl 19 (by decide) (hts _ k_298) (fun _ h9 => h9) rfl dX10_write_12 ?_
  refine lv_aload_n hx hb dX10_write_15 rfl (lv_at hl 2 rfl) ?_
  refine lv_iload_n hx hb dX10_write_16 rfl (lv_at hl 0 rfl) ?_
  refine va_iald hx hb hK hP 1 0 rfl rfl (show ¬ ((3 : Int32) < 0 ∨ 10 ≤ (3 : Int32).toNatClampNeg) by decide) dX10_write_17 ?_
  refine lv_topi (fun x332 _ => ?_)
  refine va_iast hx hb hK hP hD hS 2 0 rfl rfl (show ¬ ((5 : Int32) < 0 ∨ 1336 ≤ (5 : Int32).toNatClampNeg) by decide) dX10_write_18 (fun H locs hP hD hS => ?_)
  obtain ⟨f333, hP, hD⟩ : ∃ f333, va_P D vwCl [(h0, .inr (10, (.int v1 :: .int v2 :: .ref h1 :: .ref h2 :: .ref h3 :: .ref h4 :: .ref h5 :: .ref h6 :: .ref h7 :: .ref h8 :: .ref h9 :: .ref h10 :: .int v3 :: .ref h11 :: .ref h12 :: .ref h13 :: .ref h14 :: .int v4 :: .int v5 :: .int 5 :: .ref h15 :: .ref h16 :: .ref h17 :: .int v6 :: .ref h18 :: .int v7 :: .ref h19 :: .ref h20 :: .int v8 :: .ref h21 :: .ref h22 :: .int v9 :: .int v10 :: .int v11 :: .int v12 :: .int v13 :: .int v14 :: .int v15 :: .int v16 :: .ref h23 :: .long v17 :: .long v18 :: .long v19 :: .long v20 :: []))), (h1, .inl (G.1, 10, .inl v21)), (h14, .inl (G.1, 1336, .inl f333))] H ∧ va_D A [(h0, .inr (10, (.int v1 :: .int v2 :: .ref h1 :: .ref h2 :: .ref h3 :: .ref h4 :: .ref h5 :: .ref h6 :: .ref h7 :: .ref h8 :: .ref h9 :: .ref h10 :: .int v3 :: .ref h11 :: .ref h12 :: .ref h13 :: .ref h14 :: .int v4 :: .int v5 :: .int 5 :: .ref h15 :: .ref h16 :: .ref h17 :: .int v6 :: .ref h18 :: .int v7 :: .ref h19 :: .ref h20 :: .int v8 :: .ref h21 :: .ref h22 :: .int v9 :: .int v10 :: .int v11 :: .int v12 :: .int v13 :: .int v14 :: .int v15 :: .int v16 :: .ref h23 :: .long v17 :: .long v18 :: .long v19 :: .long v20 :: []))), (h1, .inl (G.1, 10, .inl v21)), (h14, .inl (G.1, 1336, .inl f333))] := ⟨_, hP, hD⟩
  refine lv_aload_n hx hb dX10_write_19 rfl (lv_at hl 1 rfl) ?_
  refine lv_dup hx hb dX10_write_20 rfl ?_
  refine va_get (D := D) (ci := 10) (v := .int 5) (C := RX10) (T := TX10) (N := 44) hx hb hts inlX10 hown hK hP 0 rfl rfl 19 (by decide) (hts _ k_298) (fun _ h9 => h9) rfl dX10_write_21 ?_
  refine lv_iconst (v := 1) hx hb dX10_write_24 (by decide) ?_
  refine lv_iadd hx hb dX10_write_25 ?_
  refine ow_i (y := 6) (by decide) ?_
  refine va_put (D := D) (ci := 10) (v := .int 6) (ty := .int) (C := RX10) (T := TX10) (N := 44) hx hb hts inlX10 tyX10 tyX10_ok nmX10 hown hK hP hD hS 0 rfl rfl 19 (by decide) (hts _ k_298) (fun _ h9 => h9) rfl (tyX10_ok 19 (by decide)) rfl rfl (Nat.le_of_ble_eq_true rfl) dX10_write_26 (fun H locs hP hD hS => ?_)
  have hP : va_P D vwCl [(h0, .inr (10, (.int v1 :: .int v2 :: .ref h1 :: .ref h2 :: .ref h3 :: .ref h4 :: .ref h5 :: .ref h6 :: .ref h7 :: .ref h8 :: .ref h9 :: .ref h10 :: .int v3 :: .ref h11 :: .ref h12 :: .ref h13 :: .ref h14 :: .int v4 :: .int v5 :: .int 6 :: .ref h15 :: .ref h16 :: .ref h17 :: .int v6 :: .ref h18 :: .int v7 :: .ref h19 :: .ref h20 :: .int v8 :: .ref h21 :: .ref h22 :: .int v9 :: .int v10 :: .int v11 :: .int v12 :: .int v13 :: .int v14 :: .int v15 :: .int v16 :: .ref h23 :: .long v17 :: .long v18 :: .long v19 :: .long v20 :: []))), (h1, .inl (G.1, 10, .inl v21)), (h14, .inl (G.1, 1336, .inl f333))] H := hP
  have hD : va_D A [(h0, .inr (10, (.int v1 :: .int v2 :: .ref h1 :: .ref h2 :: .ref h3 :: .ref h4 :: .ref h5 :: .ref h6 :: .ref h7 :: .ref h8 :: .ref h9 :: .ref h10 :: .int v3 :: .ref h11 :: .ref h12 :: .ref h13 :: .ref h14 :: .int v4 :: .int v5 :: .int 6 :: .ref h15 :: .ref h16 :: .ref h17 :: .int v6 :: .ref h18 :: .int v7 :: .ref h19 :: .ref h20 :: .int v8 :: .ref h21 :: .ref h22 :: .int v9 :: .int v10 :: .int v11 :: .int v12 :: .int v13 :: .int v14 :: .int v15 :: .int v16 :: .ref h23 :: .long v17 :: .long v18 :: .long v19 :: .long v20 :: []))), (h1, .inl (G.1, 10, .inl v21)), (h14, .inl (G.1, 1336, .inl f333))] := hD
  refine lv_iinc (v := 4) (lv' := [(3, .int 4), (0, .ref h0), (1, .ref h1), (2, .int 10)]) hx hb dX10_write_29 hl (k := 0) rfl (by decide) (by decide) rfl (fun ls hl => ?_)
  refine lv_goto (tgt := 2) hx hb dX10_write_32 (by decide) ?_
  refine lv_iload_n hx hb dX10_write_2 rfl (lv_at hl 0 rfl) ?_
  refine lv_iload_n hx hb dX10_write_3 rfl (lv_at hl 3 rfl) ?_
  refine lv_icmp_ge (tgt := 35) hx hb dX10_write_4 (by decide) (fun h9 => absurd h9 (by decide)) (fun _ => ?_)
  refine lv_aload_n hx hb dX10_write_7 rfl (lv_at hl 1 rfl) ?_
  refine va_get (D := D) (ci := 10) (v := .ref h14) (C := RX10) (T := TX10) (N := 44) hx hb hts inlX10 hown hK hP 0 rfl rfl 16 (by decide) (hts _ k_105) (fun _ h9 => h9) rfl dX10_write_8 ?_
  refine lv_aload_n hx hb dX10_write_11 rfl (lv_at hl 1 rfl) ?_
  refine va_get (D := D) (ci := 10) (v := .int 6) (C := RX10) (T := TX10) (N := 44) hx hb hts inlX10 hown hK hP 0 rfl rfl 19 (by decide) (hts _ k_298) (fun _ h9 => h9) rfl dX10_write_12 ?_
  refine lv_aload_n hx hb dX10_write_15 rfl (lv_at hl 2 rfl) ?_
  refine lv_iload_n hx hb dX10_write_16 rfl (lv_at hl 0 rfl) ?_
  refine va_iald hx hb hK hP 1 0 rfl rfl (show ¬ ((4 : Int32) < 0 ∨ 10 ≤ (4 : Int32).toNatClampNeg) by decide) dX10_write_17 ?_
  refine lv_topi (fun x334 _ => ?_)
  refine va_iast hx hb hK hP hD hS 2 0 rfl rfl (show ¬ ((6 : Int32) < 0 ∨ 1336 ≤ (6 : Int32).toNatClampNeg) by decide) dX10_write_18 (fun H locs hP hD hS => ?_)
  obtain ⟨f335, hP, hD⟩ : ∃ f335, va_P D vwCl [(h0, .inr (10, (.int v1 :: .int v2 :: .ref h1 :: .ref h2 :: .ref h3 :: .ref h4 :: .ref h5 :: .ref h6 :: .ref h7 :: .ref h8 :: .ref h9 :: .ref h10 :: .int v3 :: .ref h11 :: .ref h12 :: .ref h13 :: .ref h14 :: .int v4 :: .int v5 :: .int 6 :: .ref h15 :: .ref h16 :: .ref h17 :: .int v6 :: .ref h18 :: .int v7 :: .ref h19 :: .ref h20 :: .int v8 :: .ref h21 :: .ref h22 :: .int v9 :: .int v10 :: .int v11 :: .int v12 :: .int v13 :: .int v14 :: .int v15 :: .int v16 :: .ref h23 :: .long v17 :: .long v18 :: .long v19 :: .long v20 :: []))), (h1, .inl (G.1, 10, .inl v21)), (h14, .inl (G.1, 1336, .inl f335))] H ∧ va_D A [(h0, .inr (10, (.int v1 :: .int v2 :: .ref h1 :: .ref h2 :: .ref h3 :: .ref h4 :: .ref h5 :: .ref h6 :: .ref h7 :: .ref h8 :: .ref h9 :: .ref h10 :: .int v3 :: .ref h11 :: .ref h12 :: .ref h13 :: .ref h14 :: .int v4 :: .int v5 :: .int 6 :: .ref h15 :: .ref h16 :: .ref h17 :: .int v6 :: .ref h18 :: .int v7 :: .ref h19 :: .ref h20 :: .int v8 :: .ref h21 :: .ref h22 :: .int v9 :: .int v10 :: .int v11 :: .int v12 :: .int v13 :: .int v14 :: .int v15 :: .int v16 :: .ref h23 :: .long v17 :: .long v18 :: .long v19 :: .long v20 :: []))), (h1, .inl (G.1, 10, .inl v21)), (h14, .inl (G.1, 1336, .inl f335))] := ⟨_, hP, hD⟩
  refine lv_aload_n hx hb dX10_write_19 rfl (lv_at hl 1 rfl) ?_
  refine lv_dup hx hb dX10_write_20 rfl ?_
  refine va_get (D := D) (ci := 10) (v := .int 6) (C := RX10) (T := TX10) (N := 44) hx hb hts inlX10 hown hK hP 0 rfl rfl 19 (by decide) (hts _ k_298) (fun _ h9 => h9) rfl dX10_write_21 ?_
  refine lv_iconst (v := 1) hx hb dX10_write_24 (by decide) ?_
  refine lv_iadd hx hb dX10_write_25 ?_
  refine ow_i (y := 7) (by decide) ?_
  refine va_put (D := D) (ci := 10) (v := .int 7) (ty := .int) (C := RX10) (T := TX10) (N := 44) hx hb hts inlX10 tyX10 tyX10_ok nmX10 hown hK hP hD hS 0 rfl rfl 19 (by decide) (hts _ k_298) (fun _ h9 => h9) rfl (tyX10_ok 19 (by decide)) rfl rfl (Nat.le_of_ble_eq_true rfl) dX10_write_26 (fun H locs hP hD hS => ?_)
  have hP : va_P D vwCl [(h0, .inr (10, (.int v1 :: .int v2 :: .ref h1 :: .ref h2 :: .ref h3 :: .ref h4 :: .ref h5 :: .ref h6 :: .ref h7 :: .ref h8 :: .ref h9 :: .ref h10 :: .int v3 :: .ref h11 :: .ref h12 :: .ref h13 :: .ref h14 :: .int v4 :: .int v5 :: .int 7 :: .ref h15 :: .ref h16 :: .ref h17 :: .int v6 :: .ref h18 :: .int v7 :: .ref h19 :: .ref h20 :: .int v8 :: .ref h21 :: .ref h22 :: .int v9 :: .int v10 :: .int v11 :: .int v12 :: .int v13 :: .int v14 :: .int v15 :: .int v16 :: .ref h23 :: .long v17 :: .long v18 :: .long v19 :: .long v20 :: []))), (h1, .inl (G.1, 10, .inl v21)), (h14, .inl (G.1, 1336, .inl f335))] H := hP
  have hD : va_D A [(h0, .inr (10, (.int v1 :: .int v2 :: .ref h1 :: .ref h2 :: .ref h3 :: .ref h4 :: .ref h5 :: .ref h6 :: .ref h7 :: .ref h8 :: .ref h9 :: .ref h10 :: .int v3 :: .ref h11 :: .ref h12 :: .ref h13 :: .ref h14 :: .int v4 :: .int v5 :: .int 7 :: .ref h15 :: .ref h16 :: .ref h17 :: .int v6 :: .ref h18 :: .int v7 :: .ref h19 :: .ref h20 :: .int v8 :: .ref h21 :: .ref h22 :: .int v9 :: .int v10 :: .int v11 :: .int v12 :: .int v13 :: .int v14 :: .int v15 :: .int v16 :: .ref h23 :: .long v17 :: .long v18 :: .long v19 :: .long v20 :: []))), (h1, .inl (G.1, 10, .inl v21)), (h14, .inl (G.1, 1336, .inl f335))] := hD
  refine lv_iinc (v := 5) (lv' := [(3, .int 5), (0, .ref h0), (1, .ref h1), (2, .int 10)]) hx hb dX10_write_29 hl (k := 0) rfl (by decide) (by decide) rfl (fun ls hl => ?_)
  refine lv_goto (tgt := 2) hx hb dX10_write_32 (by decide) ?_
  refine lv_iload_n hx hb dX10_write_2 rfl (lv_at hl 0 rfl) ?_
  refine lv_iload_n hx hb dX10_write_3 rfl (lv_at hl 3 rfl) ?_
  refine lv_icmp_ge (tgt := 35) hx hb dX10_write_4 (by decide) (fun h9 => absurd h9 (by decide)) (fun _ => ?_)
  refine lv_aload_n hx hb dX10_write_7 rfl (lv_at hl 1 rfl) ?_
  refine va_get (D := D) (ci := 10) (v := .ref h14) (C := RX10) (T := TX10) (N := 44) hx hb hts inlX10 hown hK hP 0 rfl rfl 16 (by decide) (hts _ k_105) (fun _ h9 => h9) rfl dX10_write_8 ?_
  refine lv_aload_n hx hb dX10_write_11 rfl (lv_at hl 1 rfl) ?_
  refine va_get (D := D) (ci := 10) (v := .int 7) (C := RX10) (T := TX10) (N := 44) hx hb hts inlX10 hown hK hP 0 rfl rfl 19 (by decide) (hts _ k_298) (fun _ h9 => h9) rfl dX10_write_12 ?_
  refine lv_aload_n hx hb dX10_write_15 rfl (lv_at hl 2 rfl) ?_
  refine lv_iload_n hx hb dX10_write_16 rfl (lv_at hl 0 rfl) ?_
  refine va_iald hx hb hK hP 1 0 rfl rfl (show ¬ ((5 : Int32) < 0 ∨ 10 ≤ (5 : Int32).toNatClampNeg) by decide) dX10_write_17 ?_
  refine lv_topi (fun x336 _ => ?_)
  refine va_iast hx hb hK hP hD hS 2 0 rfl rfl (show ¬ ((7 : Int32) < 0 ∨ 1336 ≤ (7 : Int32).toNatClampNeg) by decide) dX10_write_18 (fun H locs hP hD hS => ?_)
  obtain ⟨f337, hP, hD⟩ : ∃ f337, va_P D vwCl [(h0, .inr (10, (.int v1 :: .int v2 :: .ref h1 :: .ref h2 :: .ref h3 :: .ref h4 :: .ref h5 :: .ref h6 :: .ref h7 :: .ref h8 :: .ref h9 :: .ref h10 :: .int v3 :: .ref h11 :: .ref h12 :: .ref h13 :: .ref h14 :: .int v4 :: .int v5 :: .int 7 :: .ref h15 :: .ref h16 :: .ref h17 :: .int v6 :: .ref h18 :: .int v7 :: .ref h19 :: .ref h20 :: .int v8 :: .ref h21 :: .ref h22 :: .int v9 :: .int v10 :: .int v11 :: .int v12 :: .int v13 :: .int v14 :: .int v15 :: .int v16 :: .ref h23 :: .long v17 :: .long v18 :: .long v19 :: .long v20 :: []))), (h1, .inl (G.1, 10, .inl v21)), (h14, .inl (G.1, 1336, .inl f337))] H ∧ va_D A [(h0, .inr (10, (.int v1 :: .int v2 :: .ref h1 :: .ref h2 :: .ref h3 :: .ref h4 :: .ref h5 :: .ref h6 :: .ref h7 :: .ref h8 :: .ref h9 :: .ref h10 :: .int v3 :: .ref h11 :: .ref h12 :: .ref h13 :: .ref h14 :: .int v4 :: .int v5 :: .int 7 :: .ref h15 :: .ref h16 :: .ref h17 :: .int v6 :: .ref h18 :: .int v7 :: .ref h19 :: .ref h20 :: .int v8 :: .ref h21 :: .ref h22 :: .int v9 :: .int v10 :: .int v11 :: .int v12 :: .int v13 :: .int v14 :: .int v15 :: .int v16 :: .ref h23 :: .long v17 :: .long v18 :: .long v19 :: .long v20 :: []))), (h1, .inl (G.1, 10, .inl v21)), (h14, .inl (G.1, 1336, .inl f337))] := ⟨_, hP, hD⟩
  refine lv_aload_n hx hb dX10_write_19 rfl (lv_at hl 1 rfl) ?_
  refine lv_dup hx hb dX10_write_20 rfl ?_
  refine va_get (D := D) (ci := 10) (v := .int 7) (C := RX10) (T := TX10) (N := 44) hx hb hts inlX10 hown hK hP 0 rfl rfl 19 (by decide) (hts _ k_298) (fun _ h9 => h9) rfl dX10_write_21 ?_
  refine lv_iconst (v := 1) hx hb dX10_write_24 (by decide) ?_
  refine lv_iadd hx hb dX10_write_25 ?_
  refine ow_i (y := 8) (by decide) ?_
  refine va_put (D := D) (ci := 10) (v := .int 8) (ty := .int) (C := RX10) (T := TX10) (N := 44) hx hb hts inlX10 tyX10 tyX10_ok nmX10 hown hK hP hD hS 0 rfl rfl 19 (by decide) (hts _ k_298) (fun _ h9 => h9) rfl (tyX10_ok 19 (by decide)) rfl rfl (Nat.le_of_ble_eq_true rfl) dX10_write_26 (fun H locs hP hD hS => ?_)
  have hP : va_P D vwCl [(h0, .inr (10, (.int v1 :: .int v2 :: .ref h1 :: .ref h2 :: .ref h3 :: .ref h4 :: .ref h5 :: .ref h6 :: .ref h7 :: .ref h8 :: .ref h9 :: .ref h10 :: .int v3 :: .ref h11 :: .ref h12 :: .ref h13 :: .ref h14 :: .int v4 :: .int v5 :: .int 8 :: .ref h15 :: .ref h16 :: .ref h17 :: .int v6 :: .ref h18 :: .int v7 :: .ref h19 :: .ref h20 :: .int v8 :: .ref h21 :: .ref h22 :: .int v9 :: .int v10 :: .int v11 :: .int v12 :: .int v13 :: .int v14 :: .int v15 :: .int v16 :: .ref h23 :: .long v17 :: .long v18 :: .long v19 :: .long v20 :: []))), (h1, .inl (G.1, 10, .inl v21)), (h14, .inl (G.1, 1336, .inl f337))] H := hP
  have hD : va_D A [(h0, .inr (10, (.int v1 :: .int v2 :: .ref h1 :: .ref h2 :: .ref h3 :: .ref h4 :: .ref h5 :: .ref h6 :: .ref h7 :: .ref h8 :: .ref h9 :: .ref h10 :: .int v3 :: .ref h11 :: .ref h12 :: .ref h13 :: .ref h14 :: .int v4 :: .int v5 :: .int 8 :: .ref h15 :: .ref h16 :: .ref h17 :: .int v6 :: .ref h18 :: .int v7 :: .ref h19 :: .ref h20 :: .int v8 :: .ref h21 :: .ref h22 :: .int v9 :: .int v10 :: .int v11 :: .int v12 :: .int v13 :: .int v14 :: .int v15 :: .int v16 :: .ref h23 :: .long v17 :: .long v18 :: .long v19 :: .long v20 :: []))), (h1, .inl (G.1, 10, .inl v21)), (h14, .inl (G.1, 1336, .inl f337))] := hD
  refine lv_iinc (v := 6) (lv' := [(3, .int 6), (0, .ref h0), (1, .ref h1), (2, .int 10)]) hx hb dX10_write_29 hl (k := 0) rfl (by decide) (by decide) rfl (fun ls hl => ?_)
  refine lv_goto (tgt := 2) hx hb dX10_write_32 (by decide) ?_
  refine lv_iload_n hx hb dX10_write_2 rfl (lv_at hl 0 rfl) ?_
  refine lv_iload_n hx hb dX10_write_3 rfl (lv_at hl 3 rfl) ?_
  refine lv_icmp_ge (tgt := 35) hx hb dX10_write_4 (by decide) (fun h9 => absurd h9 (by decide)) (fun _ => ?_)
  refine lv_aload_n hx hb dX10_write_7 rfl (lv_at hl 1 rfl) ?_
  refine va_get (D := D) (ci := 10) (v := .ref h14) (C := RX10) (T := TX10) (N := 44) hx hb hts inlX10 hown hK hP 0 rfl rfl 16 (by decide) (hts _ k_105) (fun _ h9 => h9) rfl dX10_write_8 ?_
  refine lv_aload_n hx hb dX10_write_11 rfl (lv_at hl 1 rfl) ?_
  refine va_get (D := D) (ci := 10) (v := .int 8) (C := RX10) (T := TX10) (N := 44) hx hb hts inlX10 hown hK hP 0 rfl rfl 19 (by decide) (hts _ k_298) (fun _ h9 => h9) rfl dX10_write_12 ?_
  refine lv_aload_n hx hb dX10_write_15 rfl (lv_at hl 2 rfl) ?_
  refine lv_iload_n hx hb dX10_write_16 rfl (lv_at hl 0 rfl) ?_
  refine va_iald hx hb hK hP 1 0 rfl rfl (show ¬ ((6 : Int32) < 0 ∨ 10 ≤ (6 : Int32).toNatClampNeg) by decide) dX10_write_17 ?_
  refine lv_topi (fun x338 _ => ?_)
  refine va_iast hx hb hK hP hD hS 2 0 rfl rfl (show ¬ ((8 : Int32) < 0 ∨ 1336 ≤ (8 : Int32).toNatClampNeg) by decide) dX10_write_18 (fun H locs hP hD hS => ?_)
  obtain ⟨f339, hP, hD⟩ : ∃ f339, va_P D vwCl [(h0, .inr (10, (.int v1 :: .int v2 :: .ref h1 :: .ref h2 :: .ref h3 :: .ref h4 :: .ref h5 :: .ref h6 :: .ref h7 :: .ref h8 :: .ref h9 :: .ref h10 :: .int v3 :: .ref h11 :: .ref h12 :: .ref h13 :: .ref h14 :: .int v4 :: .int v5 :: .int 8 :: .ref h15 :: .ref h16 :: .ref h17 :: .int v6 :: .ref h18 :: .int v7 :: .ref h19 :: .ref h20 :: .int v8 :: .ref h21 :: .ref h22 :: .int v9 :: .int v10 :: .int v11 :: .int v12 :: .int v13 :: .int v14 :: .int v15 :: .int v16 :: .ref h23 :: .long v17 :: .long v18 :: .long v19 :: .long v20 :: []))), (h1, .inl (G.1, 10, .inl v21)), (h14, .inl (G.1, 1336, .inl f339))] H ∧ va_D A [(h0, .inr (10, (.int v1 :: .int v2 :: .ref h1 :: .ref h2 :: .ref h3 :: .ref h4 :: .ref h5 :: .ref h6 :: .ref h7 :: .ref h8 :: .ref h9 :: .ref h10 :: .int v3 :: .ref h11 :: .ref h12 :: .ref h13 :: .ref h14 :: .int v4 :: .int v5 :: .int 8 :: .ref h15 :: .ref h16 :: .ref h17 :: .int v6 :: .ref h18 :: .int v7 :: .ref h19 :: .ref h20 :: .int v8 :: .ref h21 :: .ref h22 :: .int v9 :: .int v10 :: .int v11 :: .int v12 :: .int v13 :: .int v14 :: .int v15 :: .int v16 :: .ref h23 :: .long v17 :: .long v18 :: .long v19 :: .long v20 :: []))), (h1, .inl (G.1, 10, .inl v21)), (h14, .inl (G.1, 1336, .inl f339))] := ⟨_, hP, hD⟩
  refine lv_aload_n hx hb dX10_write_19 rfl (lv_at hl 1 rfl) ?_
  refine lv_dup hx hb dX10_write_20 rfl ?_
  refine va_get (D := D) (ci := 10) (v := .int 8) (C := RX10) (T := TX10) (N := 44) hx hb hts inlX10 hown hK hP 0 rfl rfl 19 (by decide) (hts _ k_298) (fun _ h9 => h9) rfl dX10_write_21 ?_
  refine lv_iconst (v := 1) hx hb dX10_write_24 (by decide) ?_
  refine lv_iadd hx hb dX10_write_25 ?_
  refine ow_i (y := 9) (by decide) ?_
  refine va_put (D := D) (ci := 10) (v := .int 9) (ty := .int) (C := RX10) (T := TX10) (N := 44) hx hb hts inlX10 tyX10 tyX10_ok nmX10 hown hK hP hD hS 0 rfl rfl 19 (by decide) (hts _ k_298) (fun _ h9 => h9) rfl (tyX10_ok 19 (by decide)) rfl rfl (Nat.le_of_ble_eq_true rfl) dX10_write_26 (fun H locs hP hD hS => ?_)
  have hP : va_P D vwCl [(h0, .inr (10, (.int v1 :: .int v2 :: .ref h1 :: .ref h2 :: .ref h3 :: .ref h4 :: .ref h5 :: .ref h6 :: .ref h7 :: .ref h8 :: .ref h9 :: .ref h10 :: .int v3 :: .ref h11 :: .ref h12 :: .ref h13 :: .ref h14 :: .int v4 :: .int v5 :: .int 9 :: .ref h15 :: .ref h16 :: .ref h17 :: .int v6 :: .ref h18 :: .int v7 :: .ref h19 :: .ref h20 :: .int v8 :: .ref h21 :: .ref h22 :: .int v9 :: .int v10 :: .int v11 :: .int v12 :: .int v13 :: .int v14 :: .int v15 :: .int v16 :: .ref h23 :: .long v17 :: .long v18 :: .long v19 :: .long v20 :: []))), (h1, .inl (G.1, 10, .inl v21)), (h14, .inl (G.1, 1336, .inl f339))] H := hP
  have hD : va_D A [(h0, .inr (10, (.int v1 :: .int v2 :: .ref h1 :: .ref h2 :: .ref h3 :: .ref h4 :: .ref h5 :: .ref h6 :: .ref h7 :: .ref h8 :: .ref h9 :: .ref h10 :: .int v3 :: .ref h11 :: .ref h12 :: .ref h13 :: .ref h14 :: .int v4 :: .int v5 :: .int 9 :: .ref h15 :: .ref h16 :: .ref h17 :: .int v6 :: .ref h18 :: .int v7 :: .ref h19 :: .ref h20 :: .int v8 :: .ref h21 :: .ref h22 :: .int v9 :: .int v10 :: .int v11 :: .int v12 :: .int v13 :: .int v14 :: .int v15 :: .int v16 :: .ref h23 :: .long v17 :: .long v18 :: .long v19 :: .long v20 :: []))), (h1, .inl (G.1, 10, .inl v21)), (h14, .inl (G.1, 1336, .inl f339))] := hD
  refine lv_iinc (v := 7) (lv' := [(3, .int 7), (0, .ref h0), (1, .ref h1), (2, .int 10)]) hx hb dX10_write_29 hl (k := 0) rfl (by decide) (by decide) rfl (fun ls hl => ?_)
  refine lv_goto (tgt := 2) hx hb dX10_write_32 (by decide) ?_
  refine lv_iload_n hx hb dX10_write_2 rfl (lv_at hl 0 rfl) ?_
  refine lv_iload_n hx hb dX10_write_3 rfl (lv_at hl 3 rfl) ?_
  refine lv_icmp_ge (tgt := 35) hx hb dX10_write_4 (by decide) (fun h9 => absurd h9 (by decide)) (fun _ => ?_)
  refine lv_aload_n hx hb dX10_write_7 rfl (lv_at hl 1 rfl) ?_
  refine va_get (D := D) (ci := 10) (v := .ref h14) (C := RX10) (T := TX10) (N := 44) hx hb hts inlX10 hown hK hP 0 rfl rfl 16 (by decide) (hts _ k_105) (fun _ h9 => h9) rfl dX10_write_8 ?_
  refine lv_aload_n hx hb dX10_write_11 rfl (lv_at hl 1 rfl) ?_
  refine va_get (D := D) (ci := 10) (v := .int 9) (C := RX10) (T := TX10) (N := 44) hx hb hts inlX10 hown hK hP 0 rfl rfl 19 (by decide) (hts _ k_298) (fun _ h9 => h9) rfl dX10_write_12 ?_
  refine lv_aload_n hx hb dX10_write_15 rfl (lv_at hl 2 rfl) ?_
  refine lv_iload_n hx hb dX10_write_16 rfl (lv_at hl 0 rfl) ?_
  refine va_iald hx hb hK hP 1 0 rfl rfl (show ¬ ((7 : Int32) < 0 ∨ 10 ≤ (7 : Int32).toNatClampNeg) by decide) dX10_write_17 ?_
  refine lv_topi (fun x340 _ => ?_)
  refine va_iast hx hb hK hP hD hS 2 0 rfl rfl (show ¬ ((9 : Int32) < 0 ∨ 1336 ≤ (9 : Int32).toNatClampNeg) by decide) dX10_write_18 (fun H locs hP hD hS => ?_)
  obtain ⟨f341, hP, hD⟩ : ∃ f341, va_P D vwCl [(h0, .inr (10, (.int v1 :: .int v2 :: .ref h1 :: .ref h2 :: .ref h3 :: .ref h4 :: .ref h5 :: .ref h6 :: .ref h7 :: .ref h8 :: .ref h9 :: .ref h10 :: .int v3 :: .ref h11 :: .ref h12 :: .ref h13 :: .ref h14 :: .int v4 :: .int v5 :: .int 9 :: .ref h15 :: .ref h16 :: .ref h17 :: .int v6 :: .ref h18 :: .int v7 :: .ref h19 :: .ref h20 :: .int v8 :: .ref h21 :: .ref h22 :: .int v9 :: .int v10 :: .int v11 :: .int v12 :: .int v13 :: .int v14 :: .int v15 :: .int v16 :: .ref h23 :: .long v17 :: .long v18 :: .long v19 :: .long v20 :: []))), (h1, .inl (G.1, 10, .inl v21)), (h14, .inl (G.1, 1336, .inl f341))] H ∧ va_D A [(h0, .inr (10, (.int v1 :: .int v2 :: .ref h1 :: .ref h2 :: .ref h3 :: .ref h4 :: .ref h5 :: .ref h6 :: .ref h7 :: .ref h8 :: .ref h9 :: .ref h10 :: .int v3 :: .ref h11 :: .ref h12 :: .ref h13 :: .ref h14 :: .int v4 :: .int v5 :: .int 9 :: .ref h15 :: .ref h16 :: .ref h17 :: .int v6 :: .ref h18 :: .int v7 :: .ref h19 :: .ref h20 :: .int v8 :: .ref h21 :: .ref h22 :: .int v9 :: .int v10 :: .int v11 :: .int v12 :: .int v13 :: .int v14 :: .int v15 :: .int v16 :: .ref h23 :: .long v17 :: .long v18 :: .long v19 :: .long v20 :: []))), (h1, .inl (G.1, 10, .inl v21)), (h14, .inl (G.1, 1336, .inl f341))] := ⟨_, hP, hD⟩
  refine lv_aload_n hx hb dX10_write_19 rfl (lv_at hl 1 rfl) ?_
  refine lv_dup hx hb dX10_write_20 rfl ?_
  refine va_get (D := D) (ci := 10) (v := .int 9) (C := RX10) (T := TX10) (N := 44) hx hb hts inlX10 hown hK hP 0 rfl rfl 19 (by decide) (hts _ k_298) (fun _ h9 => h9) rfl dX10_write_21 ?_
  refine lv_iconst (v := 1) hx hb dX10_write_24 (by decide) ?_
  refine lv_iadd hx hb dX10_write_25 ?_
  refine ow_i (y := 10) (by decide) ?_
  refine va_put (D := D) (ci := 10) (v := .int 10) (ty := .int) (C := RX10) (T := TX10) (N := 44) hx hb hts inlX10 tyX10 tyX10_ok nmX10 hown hK hP hD hS 0 rfl rfl 19 (by decide) (hts _ k_298) (fun _ h9 => h9) rfl (tyX10_ok 19 (by decide)) rfl rfl (Nat.le_of_ble_eq_true rfl) dX10_write_26 (fun H locs hP hD hS => ?_)
  have hP : va_P D vwCl [(h0, .inr (10, (.int v1 :: .int v2 :: .ref h1 :: .ref h2 :: .ref h3 :: .ref h4 :: .ref h5 :: .ref h6 :: .ref h7 :: .ref h8 :: .ref h9 :: .ref h10 :: .int v3 :: .ref h11 :: .ref h12 :: .ref h13 :: .ref h14 :: .int v4 :: .int v5 :: .int 10 :: .ref h15 :: .ref h16 :: .ref h17 :: .int v6 :: .ref h18 :: .int v7 :: .ref h19 :: .ref h20 :: .int v8 :: .ref h21 :: .ref h22 :: .int v9 :: .int v10 :: .int v11 :: .int v12 :: .int v13 :: .int v14 :: .int v15 :: .int v16 :: .ref h23 :: .long v17 :: .long v18 :: .long v19 :: .long v20 :: []))), (h1, .inl (G.1, 10, .inl v21)), (h14, .inl (G.1, 1336, .inl f341))] H := hP
  have hD : va_D A [(h0, .inr (10, (.int v1 :: .int v2 :: .ref h1 :: .ref h2 :: .ref h3 :: .ref h4 :: .ref h5 :: .ref h6 :: .ref h7 :: .ref h8 :: .ref h9 :: .ref h10 :: .int v3 :: .ref h11 :: .ref h12 :: .ref h13 :: .ref h14 :: .int v4 :: .int v5 :: .int 10 :: .ref h15 :: .ref h16 :: .ref h17 :: .int v6 :: .ref h18 :: .int v7 :: .ref h19 :: .ref h20 :: .int v8 :: .ref h21 :: .ref h22 :: .int v9 :: .int v10 :: .int v11 :: .int v12 :: .int v13 :: .int v14 :: .int v15 :: .int v16 :: .ref h23 :: .long v17 :: .long v18 :: .long v19 :: .long v20 :: []))), (h1, .inl (G.1, 10, .inl v21)), (h14, .inl (G.1, 1336, .inl f341))] := hD
  refine lv_iinc (v := 8) (lv' := [(3, .int 8), (0, .ref h0), (1, .ref h1), (2, .int 10)]) hx hb dX10_write_29 hl (k := 0) rfl (by decide) (by decide) rfl (fun ls hl => ?_)
  refine lv_goto (tgt := 2) hx hb dX10_write_32 (by decide) ?_
  refine lv_iload_n hx hb dX10_write_2 rfl (lv_at hl 0 rfl) ?_
  refine lv_iload_n hx hb dX10_write_3 rfl (lv_at hl 3 rfl) ?_
  refine lv_icmp_ge (tgt := 35) hx hb dX10_write_4 (by decide) (fun h9 => absurd h9 (by decide)) (fun _ => ?_)
  refine lv_aload_n hx hb dX10_write_7 rfl (lv_at hl 1 rfl) ?_
  refine va_get (D := D) (ci := 10) (v := .ref h14) (C := RX10) (T := TX10) (N := 44) hx hb hts inlX10 hown hK hP 0 rfl rfl 16 (by decide) (hts _ k_105) (fun _ h9 => h9) rfl dX10_write_8 ?_
  refine lv_aload_n hx hb dX10_write_11 rfl (lv_at hl 1 rfl) ?_
  refine va_get (D := D) (ci := 10) (v := .int 10) (C := RX10) (T := TX10) (N := 44) hx hb hts inlX10 hown hK hP 0 rfl rfl 19 (by decide) (hts _ k_298) (fun _ h9 => h9) rfl dX10_write_12 ?_
  refine lv_aload_n hx hb dX10_write_15 rfl (lv_at hl 2 rfl) ?_
  refine lv_iload_n hx hb dX10_write_16 rfl (lv_at hl 0 rfl) ?_
  refine va_iald hx hb hK hP 1 0 rfl rfl (show ¬ ((8 : Int32) < 0 ∨ 10 ≤ (8 : Int32).toNatClampNeg) by decide) dX10_write_17 ?_
  refine lv_topi (fun x342 _ => ?_)
  refine va_iast hx hb hK hP hD hS 2 0 rfl rfl (show ¬ ((10 : Int32) < 0 ∨ 1336 ≤ (10 : Int32).toNatClampNeg) by decide) dX10_write_18 (fun H locs hP hD hS => ?_)
  obtain ⟨f343, hP, hD⟩ : ∃ f343, va_P D vwCl [(h0, .inr (10, (.int v1 :: .int v2 :: .ref h1 :: .ref h2 :: .ref h3 :: .ref h4 :: .ref h5 :: .ref h6 :: .ref h7 :: .ref h8 :: .ref h9 :: .ref h10 :: .int v3 :: .ref h11 :: .ref h12 :: .ref h13 :: .ref h14 :: .int v4 :: .int v5 :: .int 10 :: .ref h15 :: .ref h16 :: .ref h17 :: .int v6 :: .ref h18 :: .int v7 :: .ref h19 :: .ref h20 :: .int v8 :: .ref h21 :: .ref h22 :: .int v9 :: .int v10 :: .int v11 :: .int v12 :: .int v13 :: .int v14 :: .int v15 :: .int v16 :: .ref h23 :: .long v17 :: .long v18 :: .long v19 :: .long v20 :: []))), (h1, .inl (G.1, 10, .inl v21)), (h14, .inl (G.1, 1336, .inl f343))] H ∧ va_D A [(h0, .inr (10, (.int v1 :: .int v2 :: .ref h1 :: .ref h2 :: .ref h3 :: .ref h4 :: .ref h5 :: .ref h6 :: .ref h7 :: .ref h8 :: .ref h9 :: .ref h10 :: .int v3 :: .ref h11 :: .ref h12 :: .ref h13 :: .ref h14 :: .int v4 :: .int v5 :: .int 10 :: .ref h15 :: .ref h16 :: .ref h17 :: .int v6 :: .ref h18 :: .int v7 :: .ref h19 :: .ref h20 :: .int v8 :: .ref h21 :: .ref h22 :: .int v9 :: .int v10 :: .int v11 :: .int v12 :: .int v13 :: .int v14 :: .int v15 :: .int v16 :: .ref h23 :: .long v17 :: .long v18 :: .long v19 :: .long v20 :: []))), (h1, .inl (G.1, 10, .inl v21)), (h14, .inl (G.1, 1336, .inl f343))] := ⟨_, hP, hD⟩
  refine lv_aload_n hx hb dX10_write_19 rfl (lv_at hl 1 rfl) ?_
  refine lv_dup hx hb dX10_write_20 rfl ?_
  refine va_get (D := D) (ci := 10) (v := .int 10) (C := RX10) (T := TX10) (N := 44) hx hb hts inlX10 hown hK hP 0 rfl rfl 19 (by decide) (hts _ k_298) (fun _ h9 => h9) rfl dX10_write_21 ?_
  refine lv_iconst (v := 1) hx hb dX10_write_24 (by decide) ?_
  refine lv_iadd hx hb dX10_write_25 ?_
  refine ow_i (y := 11) (by decide) ?_
  refine va_put (D := D) (ci := 10) (v := .int 11) (ty := .int) (C := RX10) (T := TX10) (N := 44) hx hb hts inlX10 tyX10 tyX10_ok nmX10 hown hK hP hD hS 0 rfl rfl 19 (by decide) (hts _ k_298) (fun _ h9 => h9) rfl (tyX10_ok 19 (by decide)) rfl rfl (Nat.le_of_ble_eq_true rfl) dX10_write_26 (fun H locs hP hD hS => ?_)
  have hP : va_P D vwCl [(h0, .inr (10, (.int v1 :: .int v2 :: .ref h1 :: .ref h2 :: .ref h3 :: .ref h4 :: .ref h5 :: .ref h6 :: .ref h7 :: .ref h8 :: .ref h9 :: .ref h10 :: .int v3 :: .ref h11 :: .ref h12 :: .ref h13 :: .ref h14 :: .int v4 :: .int v5 :: .int 11 :: .ref h15 :: .ref h16 :: .ref h17 :: .int v6 :: .ref h18 :: .int v7 :: .ref h19 :: .ref h20 :: .int v8 :: .ref h21 :: .ref h22 :: .int v9 :: .int v10 :: .int v11 :: .int v12 :: .int v13 :: .int v14 :: .int v15 :: .int v16 :: .ref h23 :: .long v17 :: .long v18 :: .long v19 :: .long v20 :: []))), (h1, .inl (G.1, 10, .inl v21)), (h14, .inl (G.1, 1336, .inl f343))] H := hP
  have hD : va_D A [(h0, .inr (10, (.int v1 :: .int v2 :: .ref h1 :: .ref h2 :: .ref h3 :: .ref h4 :: .ref h5 :: .ref h6 :: .ref h7 :: .ref h8 :: .ref h9 :: .ref h10 :: .int v3 :: .ref h11 :: .ref h12 :: .ref h13 :: .ref h14 :: .int v4 :: .int v5 :: .int 11 :: .ref h15 :: .ref h16 :: .ref h17 :: .int v6 :: .ref h18 :: .int v7 :: .ref h19 :: .ref h20 :: .int v8 :: .ref h21 :: .ref h22 :: .int v9 :: .int v10 :: .int v11 :: .int v12 :: .int v13 :: .int v14 :: .int v15 :: .int v16 :: .ref h23 :: .long v17 :: .long v18 :: .long v19 :: .long v20 :: []))), (h1, .inl (G.1, 10, .inl v21)), (h14, .inl (G.1, 1336, .inl f343))] := hD
  refine lv_iinc (v := 9) (lv' := [(3, .int 9), (0, .ref h0), (1, .ref h1), (2, .int 10)]) hx hb dX10_write_29 hl (k := 0) rfl (by decide) (by decide) rfl (fun ls hl => ?_)
  refine lv_goto (tgt := 2) hx hb dX10_write_32 (by decide) ?_
  refine lv_iload_n hx hb dX10_write_2 rfl (lv_at hl 0 rfl) ?_
  refine lv_iload_n hx hb dX10_write_3 rfl (lv_at hl 3 rfl) ?_
  refine lv_icmp_ge (tgt := 35) hx hb dX10_write_4 (by decide) (fun h9 => absurd h9 (by decide)) (fun _ => ?_)
  refine lv_aload_n hx hb dX10_write_7 rfl (lv_at hl 1 rfl) ?_
  refine va_get (D := D) (ci := 10) (v := .ref h14) (C := RX10) (T := TX10) (N := 44) hx hb hts inlX10 hown hK hP 0 rfl rfl 16 (by decide) (hts _ k_105) (fun _ h9 => h9) rfl dX10_write_8 ?_
  refine lv_aload_n hx hb dX10_write_11 rfl (lv_at hl 1 rfl) ?_
  refine va_get (D := D) (ci := 10) (v := .int 11) (C := RX10) (T := TX10) (N := 44) hx hb hts inlX10 hown hK hP 0 rfl rfl 19 (by decide) (hts _ k_298) (fun _ h9 => h9) rfl dX10_write_12 ?_
  refine lv_aload_n hx hb dX10_write_15 rfl (lv_at hl 2 rfl) ?_
  refine lv_iload_n hx hb dX10_write_16 rfl (lv_at hl 0 rfl) ?_
  refine va_iald hx hb hK hP 1 0 rfl rfl (show ¬ ((9 : Int32) < 0 ∨ 10 ≤ (9 : Int32).toNatClampNeg) by decide) dX10_write_17 ?_
  refine lv_topi (fun x344 _ => ?_)
  refine va_iast hx hb hK hP hD hS 2 0 rfl rfl (show ¬ ((11 : Int32) < 0 ∨ 1336 ≤ (11 : Int32).toNatClampNeg) by decide) dX10_write_18 (fun H locs hP hD hS => ?_)
  obtain ⟨f345, hP, hD⟩ : ∃ f345, va_P D vwCl [(h0, .inr (10, (.int v1 :: .int v2 :: .ref h1 :: .ref h2 :: .ref h3 :: .ref h4 :: .ref h5 :: .ref h6 :: .ref h7 :: .ref h8 :: .ref h9 :: .ref h10 :: .int v3 :: .ref h11 :: .ref h12 :: .ref h13 :: .ref h14 :: .int v4 :: .int v5 :: .int 11 :: .ref h15 :: .ref h16 :: .ref h17 :: .int v6 :: .ref h18 :: .int v7 :: .ref h19 :: .ref h20 :: .int v8 :: .ref h21 :: .ref h22 :: .int v9 :: .int v10 :: .int v11 :: .int v12 :: .int v13 :: .int v14 :: .int v15 :: .int v16 :: .ref h23 :: .long v17 :: .long v18 :: .long v19 :: .long v20 :: []))), (h1, .inl (G.1, 10, .inl v21)), (h14, .inl (G.1, 1336, .inl f345))] H ∧ va_D A [(h0, .inr (10, (.int v1 :: .int v2 :: .ref h1 :: .ref h2 :: .ref h3 :: .ref h4 :: .ref h5 :: .ref h6 :: .ref h7 :: .ref h8 :: .ref h9 :: .ref h10 :: .int v3 :: .ref h11 :: .ref h12 :: .ref h13 :: .ref h14 :: .int v4 :: .int v5 :: .int 11 :: .ref h15 :: .ref h16 :: .ref h17 :: .int v6 :: .ref h18 :: .int v7 :: .ref h19 :: .ref h20 :: .int v8 :: .ref h21 :: .ref h22 :: .int v9 :: .int v10 :: .int v11 :: .int v12 :: .int v13 :: .int v14 :: .int v15 :: .int v16 :: .ref h23 :: .long v17 :: .long v18 :: .long v19 :: .long v20 :: []))), (h1, .inl (G.1, 10, .inl v21)), (h14, .inl (G.1, 1336, .inl f345))] := ⟨_, hP, hD⟩
  refine lv_aload_n hx hb dX10_write_19 rfl (lv_at hl 1 rfl) ?_
  refine lv_dup hx hb dX10_write_20 rfl ?_
  refine va_get (D := D) (ci := 10) (v := .int 11) (C := RX10) (T := TX10) (N := 44) hx hb hts inlX10 hown hK hP 0 rfl rfl 19 (by decide) (hts _ k_298) (fun _ h9 => h9) rfl dX10_write_21 ?_
  refine lv_iconst (v := 1) hx hb dX10_write_24 (by decide) ?_
  refine lv_iadd hx hb dX10_write_25 ?_
  refine ow_i (y := 12) (by decide) ?_
  refine va_put (D := D) (ci := 10) (v := .int 12) (ty := .int) (C := RX10) (T := TX10) (N := 44) hx hb hts inlX10 tyX10 tyX10_ok nmX10 hown hK hP hD hS 0 rfl rfl 19 (by decide) (hts _ k_298) (fun _ h9 => h9) rfl (tyX10_ok 19 (by decide)) rfl rfl (Nat.le_of_ble_eq_true rfl) dX10_write_26 (fun H locs hP hD hS => ?_)
  have hP : va_P D vwCl [(h0, .inr (10, (.int v1 :: .int v2 :: .ref h1 :: .ref h2 :: .ref h3 :: .ref h4 :: .ref h5 :: .ref h6 :: .ref h7 :: .ref h8 :: .ref h9 :: .ref h10 :: .int v3 :: .ref h11 :: .ref h12 :: .ref h13 :: .ref h14 :: .int v4 :: .int v5 :: .int 12 :: .ref h15 :: .ref h16 :: .ref h17 :: .int v6 :: .ref h18 :: .int v7 :: .ref h19 :: .ref h20 :: .int v8 :: .ref h21 :: .ref h22 :: .int v9 :: .int v10 :: .int v11 :: .int v12 :: .int v13 :: .int v14 :: .int v15 :: .int v16 :: .ref h23 :: .long v17 :: .long v18 :: .long v19 :: .long v20 :: []))), (h1, .inl (G.1, 10, .inl v21)), (h14, .inl (G.1, 1336, .inl f345))] H := hP
  have hD : va_D A [(h0, .inr (10, (.int v1 :: .int v2 :: .ref h1 :: .ref h2 :: .ref h3 :: .ref h4 :: .ref h5 :: .ref h6 :: .ref h7 :: .ref h8 :: .ref h9 :: .ref h10 :: .int v3 :: .ref h11 :: .ref h12 :: .ref h13 :: .ref h14 :: .int v4 :: .int v5 :: .int 12 :: .ref h15 :: .ref h16 :: .ref h17 :: .int v6 :: .ref h18 :: .int v7 :: .ref h19 :: .ref h20 :: .int v8 :: .ref h21 :: .ref h22 :: .int v9 :: .int v10 :: .int v11 :: .int v12 :: .int v13 :: .int v14 :: .int v15 :: .int v16 :: .ref h23 :: .long v17 :: .long v18 :: .long v19 :: .long v20 :: []))), (h1, .inl (G.1, 10, .inl v21)), (h14, .inl (G.1, 1336, .inl f345))] := hD
  refine lv_iinc (v := 10) (lv' := [(3, .int 10), (0, .ref h0), (1, .ref h1), (2, .int 10)]) hx hb dX10_write_29 hl (k := 0) rfl (by decide) (by decide) rfl (fun ls hl => ?_)
  refine lv_goto (tgt := 2) hx hb dX10_write_32 (by decide) ?_
  refine lv_iload_n hx hb dX10_write_2 rfl (lv_at hl 0 rfl) ?_
  refine lv_iload_n hx hb dX10_write_3 rfl (lv_at hl 3 rfl) ?_
  refine lv_icmp_ge (tgt := 35) hx hb dX10_write_4 (by decide) (fun _ => ?_) (fun h9 => absurd h9 (by decide))
  exact ow_vret (u := [(h0, .inr (10, (.int v1 :: .int v2 :: .ref h1 :: .ref h2 :: .ref h3 :: .ref h4 :: .ref h5 :: .ref h6 :: .ref h7 :: .ref h8 :: .ref h9 :: .ref h10 :: .int v3 :: .ref h11 :: .ref h12 :: .ref h13 :: .ref h14 :: .int v4 :: .int v5 :: .int 12 :: .ref h15 :: .ref h16 :: .ref h17 :: .int v6 :: .ref h18 :: .int v7 :: .ref h19 :: .ref h20 :: .int v8 :: .ref h21 :: .ref h22 :: .int v9 :: .int v10 :: .int v11 :: .int v12 :: .int v13 :: .int v14 :: .int v15 :: .int v16 :: .ref h23 :: .long v17 :: .long v18 :: .long v19 :: .long v20 :: []))), (h1, .inl (G.1, 10, .inl v21)), (h14, .inl (G.1, 1336, .inl f345))]) hx hb hr hlocks hP hD hS [0, 1, 2] (by decide) rfl dX10_write_35 ⟨trivial, f345, rfl⟩
set_option maxHeartbeats 4000000 in
set_option maxRecDepth 100000 in
theorem c_X10_write_1 (l : Launch) (D : va_G) (G : ow_C) (h0 : Nat) (h1 : Nat) (v1 : Int32) (v2 : Int32) (h2 : Nat) (h3 : Nat) (h4 : Nat) (h5 : Nat) (h6 : Nat) (h7 : Nat) (h8 : Nat) (h9 : Nat) (h10 : Nat) (v3 : Int32) (h11 : Nat) (h12 : Nat) (h13 : Nat) (h14 : Nat) (v4 : Int32) (v5 : Int32) (h15 : Nat) (h16 : Nat) (h17 : Nat) (v6 : Int32) (h18 : Nat) (v7 : Int32) (h19 : Nat) (h20 : Nat) (v8 : Int32) (h21 : Nat) (h22 : Nat) (v9 : Int32) (v10 : Int32) (v11 : Int32) (v12 : Int32) (v13 : Int32) (v14 : Int32) (v15 : Int32) (v16 : Int32) (h23 : Nat) (v17 : Int64) (v18 : Int64) (v19 : Int64) (v20 : Int64) (v21 : Nat → Int32) (v22 : Nat → Int32) : ow_M l D G yX10_write cX10_write 4 none ({ frames := 1, cells := 0, slots := 0, locals := 64 } : Room) [.ref h0, .ref h1, .int 10] [(h0, .inr (10, (.int v1 :: .int v2 :: .ref h2 :: .ref h1 :: .ref h3 :: .ref h4 :: .ref h5 :: .ref h6 :: .ref h7 :: .ref h8 :: .ref h9 :: .ref h10 :: .int v3 :: .ref h11 :: .ref h12 :: .ref h13 :: .ref h14 :: .int v4 :: .int v5 :: .int 12 :: .ref h15 :: .ref h16 :: .ref h17 :: .int v6 :: .ref h18 :: .int v7 :: .ref h19 :: .ref h20 :: .int v8 :: .ref h21 :: .ref h22 :: .int v9 :: .int v10 :: .int v11 :: .int v12 :: .int v13 :: .int v14 :: .int v15 :: .int v16 :: .ref h23 :: .long v17 :: .long v18 :: .long v19 :: .long v20 :: []))), (h1, .inl (G.1, 10, .inl v21)), (h14, .inl (G.1, 1336, .inl v22))] (ow_V D (fun u => (True ∧ (∃ e0 : Nat → Int32, u = [(h0, .inr (10, (.int v1 :: .int v2 :: .ref h2 :: .ref h1 :: .ref h3 :: .ref h4 :: .ref h5 :: .ref h6 :: .ref h7 :: .ref h8 :: .ref h9 :: .ref h10 :: .int v3 :: .ref h11 :: .ref h12 :: .ref h13 :: .ref h14 :: .int v4 :: .int v5 :: .int 22 :: .ref h15 :: .ref h16 :: .ref h17 :: .int v6 :: .ref h18 :: .int v7 :: .ref h19 :: .ref h20 :: .int v8 :: .ref h21 :: .ref h22 :: .int v9 :: .int v10 :: .int v11 :: .int v12 :: .int v13 :: .int v14 :: .int v15 :: .int v16 :: .ref h23 :: .long v17 :: .long v18 :: .long v19 :: .long v20 :: []))), (h1, .inl (G.1, 10, .inl v21)), (h14, .inl (G.1, 1336, .inl e0))])))) 0 0 := by
  refine ow_met (by decide) (Nat.le_of_ble_eq_true rfl) ?_
  intro p e s m args below meth c A ls hE hl
  obtain ⟨hx, hb, hr, hml, hown, hlocks, hnm, hts, hN, hK, hP, hD, hA, hS⟩ := id hE
  have hown : s.vm.findClass RX10 = some m.cls := hown
  have hP : va_P D vwCl [(h0, .inr (10, (.int v1 :: .int v2 :: .ref h2 :: .ref h1 :: .ref h3 :: .ref h4 :: .ref h5 :: .ref h6 :: .ref h7 :: .ref h8 :: .ref h9 :: .ref h10 :: .int v3 :: .ref h11 :: .ref h12 :: .ref h13 :: .ref h14 :: .int v4 :: .int v5 :: .int 12 :: .ref h15 :: .ref h16 :: .ref h17 :: .int v6 :: .ref h18 :: .int v7 :: .ref h19 :: .ref h20 :: .int v8 :: .ref h21 :: .ref h22 :: .int v9 :: .int v10 :: .int v11 :: .int v12 :: .int v13 :: .int v14 :: .int v15 :: .int v16 :: .ref h23 :: .long v17 :: .long v18 :: .long v19 :: .long v20 :: []))), (h1, .inl (G.1, 10, .inl v21)), (h14, .inl (G.1, 1336, .inl v22))] s.heap := hP
  have hD : va_D A [(h0, .inr (10, (.int v1 :: .int v2 :: .ref h2 :: .ref h1 :: .ref h3 :: .ref h4 :: .ref h5 :: .ref h6 :: .ref h7 :: .ref h8 :: .ref h9 :: .ref h10 :: .int v3 :: .ref h11 :: .ref h12 :: .ref h13 :: .ref h14 :: .int v4 :: .int v5 :: .int 12 :: .ref h15 :: .ref h16 :: .ref h17 :: .int v6 :: .ref h18 :: .int v7 :: .ref h19 :: .ref h20 :: .int v8 :: .ref h21 :: .ref h22 :: .int v9 :: .int v10 :: .int v11 :: .int v12 :: .int v13 :: .int v14 :: .int v15 :: .int v16 :: .ref h23 :: .long v17 :: .long v18 :: .long v19 :: .long v20 :: []))), (h1, .inl (G.1, 10, .inl v21)), (h14, .inl (G.1, 1336, .inl v22))] := hD
  have hl : lv_has ls 4 [(0, .ref h0), (1, .ref h1), (2, .int 10)] := hl
  refine lv_iconst (v := 0) hx hb dX10_write_0 (by decide) ?_
  refine lv_istore_n (lv' := [(3, .int 0), (0, .ref h0), (1, .ref h1), (2, .int 10)]) hx hb dX10_write_1 rfl hl (by decide) rfl (fun ls hl => ?_)
  refine lv_iload_n hx hb dX10_write_2 rfl (lv_at hl 0 rfl) ?_
  refine lv_iload_n hx hb dX10_write_3 rfl (lv_at hl 3 rfl) ?_
  refine lv_icmp_ge (tgt := 35) hx hb dX10_write_4 (by decide) (fun h9 => absurd h9 (by decide)) (fun _ => ?_)
  refine lv_aload_n hx hb dX10_write_7 rfl (lv_at hl 1 rfl) ?_
  refine va_get (D := D) (ci := 10) (v := .ref h14) (C := RX10) (T := TX10) (N := 44) hx hb hts inlX10 hown hK hP 0 rfl rfl 16 (by decide) (hts _ k_105) (fun _ h9 => h9) rfl dX10_write_8 ?_
  refine lv_aload_n hx hb dX10_write_11 rfl (lv_at hl 1 rfl) ?_
  refine va_get (D := D) (ci := 10) (v := .int 12) (C := RX10) (T := TX10) (N := 44) hx hb hts inlX10 hown hK hP 0 rfl rfl 19 (by decide) (hts _ k_298) (fun _ h9 => h9) rfl dX10_write_12 ?_
  refine lv_aload_n hx hb dX10_write_15 rfl (lv_at hl 2 rfl) ?_
  refine lv_iload_n hx hb dX10_write_16 rfl (lv_at hl 0 rfl) ?_
  refine va_iald hx hb hK hP 1 0 rfl rfl (show ¬ ((0 : Int32) < 0 ∨ 10 ≤ (0 : Int32).toNatClampNeg) by decide) dX10_write_17 ?_
  refine lv_topi (fun x348 _ => ?_)
  refine va_iast hx hb hK hP hD hS 2 0 rfl rfl (show ¬ ((12 : Int32) < 0 ∨ 1336 ≤ (12 : Int32).toNatClampNeg) by decide) dX10_write_18 (fun H locs hP hD hS => ?_)
  obtain ⟨f349, hP, hD⟩ : ∃ f349, va_P D vwCl [(h0, .inr (10, (.int v1 :: .int v2 :: .ref h2 :: .ref h1 :: .ref h3 :: .ref h4 :: .ref h5 :: .ref h6 :: .ref h7 :: .ref h8 :: .ref h9 :: .ref h10 :: .int v3 :: .ref h11 :: .ref h12 :: .ref h13 :: .ref h14 :: .int v4 :: .int v5 :: .int 12 :: .ref h15 :: .ref h16 :: .ref h17 :: .int v6 :: .ref h18 :: .int v7 :: .ref h19 :: .ref h20 :: .int v8 :: .ref h21 :: .ref h22 :: .int v9 :: .int v10 :: .int v11 :: .int v12 :: .int v13 :: .int v14 :: .int v15 :: .int v16 :: .ref h23 :: .long v17 :: .long v18 :: .long v19 :: .long v20 :: []))), (h1, .inl (G.1, 10, .inl v21)), (h14, .inl (G.1, 1336, .inl f349))] H ∧ va_D A [(h0, .inr (10, (.int v1 :: .int v2 :: .ref h2 :: .ref h1 :: .ref h3 :: .ref h4 :: .ref h5 :: .ref h6 :: .ref h7 :: .ref h8 :: .ref h9 :: .ref h10 :: .int v3 :: .ref h11 :: .ref h12 :: .ref h13 :: .ref h14 :: .int v4 :: .int v5 :: .int 12 :: .ref h15 :: .ref h16 :: .ref h17 :: .int v6 :: .ref h18 :: .int v7 :: .ref h19 :: .ref h20 :: .int v8 :: .ref h21 :: .ref h22 :: .int v9 :: .int v10 :: .int v11 :: .int v12 :: .int v13 :: .int v14 :: .int v15 :: .int v16 :: .ref h23 :: .long v17 :: .long v18 :: .long v19 :: .long v20 :: []))), (h1, .inl (G.1, 10, .inl v21)), (h14, .inl (G.1, 1336, .inl f349))] := ⟨_, hP, hD⟩
  refine lv_aload_n hx hb dX10_write_19 rfl (lv_at hl 1 rfl) ?_
  refine lv_dup hx hb dX10_write_20 rfl ?_
  refine va_get (D := D) (ci := 10) (v := .int 12) (C := RX10) (T := TX10) (N := 44) hx hb hts inlX10 hown hK hP 0 rfl rfl 19 (by decide) (hts _ k_298) (fun _ h9 => h9) rfl dX10_write_21 ?_
  refine lv_iconst (v := 1) hx hb dX10_write_24 (by decide) ?_
  refine lv_iadd hx hb dX10_write_25 ?_
  refine ow_i (y := 13) (by decide) ?_
  refine va_put (D := D) (ci := 10) (v := .int 13) (ty := .int) (C := RX10) (T := TX10) (N := 44) hx hb hts inlX10 tyX10 tyX10_ok nmX10 hown hK hP hD hS 0 rfl rfl 19 (by decide) (hts _ k_298) (fun _ h9 => h9) rfl (tyX10_ok 19 (by decide)) rfl rfl (Nat.le_of_ble_eq_true rfl) dX10_write_26 (fun H locs hP hD hS => ?_)
  have hP : va_P D vwCl [(h0, .inr (10, (.int v1 :: .int v2 :: .ref h2 :: .ref h1 :: .ref h3 :: .ref h4 :: .ref h5 :: .ref h6 :: .ref h7 :: .ref h8 :: .ref h9 :: .ref h10 :: .int v3 :: .ref h11 :: .ref h12 :: .ref h13 :: .ref h14 :: .int v4 :: .int v5 :: .int 13 :: .ref h15 :: .ref h16 :: .ref h17 :: .int v6 :: .ref h18 :: .int v7 :: .ref h19 :: .ref h20 :: .int v8 :: .ref h21 :: .ref h22 :: .int v9 :: .int v10 :: .int v11 :: .int v12 :: .int v13 :: .int v14 :: .int v15 :: .int v16 :: .ref h23 :: .long v17 :: .long v18 :: .long v19 :: .long v20 :: []))), (h1, .inl (G.1, 10, .inl v21)), (h14, .inl (G.1, 1336, .inl f349))] H := hP
  have hD : va_D A [(h0, .inr (10, (.int v1 :: .int v2 :: .ref h2 :: .ref h1 :: .ref h3 :: .ref h4 :: .ref h5 :: .ref h6 :: .ref h7 :: .ref h8 :: .ref h9 :: .ref h10 :: .int v3 :: .ref h11 :: .ref h12 :: .ref h13 :: .ref h14 :: .int v4 :: .int v5 :: .int 13 :: .ref h15 :: .ref h16 :: .ref h17 :: .int v6 :: .ref h18 :: .int v7 :: .ref h19 :: .ref h20 :: .int v8 :: .ref h21 :: .ref h22 :: .int v9 :: .int v10 :: .int v11 :: .int v12 :: .int v13 :: .int v14 :: .int v15 :: .int v16 :: .ref h23 :: .long v17 :: .long v18 :: .long v19 :: .long v20 :: []))), (h1, .inl (G.1, 10, .inl v21)), (h14, .inl (G.1, 1336, .inl f349))] := hD
  refine lv_iinc (v := 1) (lv' := [(3, .int 1), (0, .ref h0), (1, .ref h1), (2, .int 10)]) hx hb dX10_write_29 hl (k := 0) rfl (by decide) (by decide) rfl (fun ls hl => ?_)
  refine lv_goto (tgt := 2) hx hb dX10_write_32 (by decide) ?_
  refine lv_iload_n hx hb dX10_write_2 rfl (lv_at hl 0 rfl) ?_
  refine lv_iload_n hx hb dX10_write_3 rfl (lv_at hl 3 rfl) ?_
  refine lv_icmp_ge (tgt := 35) hx hb dX10_write_4 (by decide) (fun h9 => absurd h9 (by decide)) (fun _ => ?_)
  refine lv_aload_n hx hb dX10_write_7 rfl (lv_at hl 1 rfl) ?_
  refine va_get (D := D) (ci := 10) (v := .ref h14) (C := RX10) (T := TX10) (N := 44) hx hb hts inlX10 hown hK hP 0 rfl rfl 16 (by decide) (hts _ k_105) (fun _ h9 => h9) rfl dX10_write_8 ?_
  refine lv_aload_n hx hb dX10_write_11 rfl (lv_at hl 1 rfl) ?_
  refine va_get (D := D) (ci := 10) (v := .int 13) (C := RX10) (T := TX10) (N := 44) hx hb hts inlX10 hown hK hP 0 rfl rfl 19 (by decide) (hts _ k_298) (fun _ h9 => h9) rfl dX10_write_12 ?_
  refine lv_aload_n hx hb dX10_write_15 rfl (lv_at hl 2 rfl) ?_
  refine lv_iload_n hx hb dX10_write_16 rfl (lv_at hl 0 rfl) ?_
  refine va_iald hx hb hK hP 1 0 rfl rfl (show ¬ ((1 : Int32) < 0 ∨ 10 ≤ (1 : Int32).toNatClampNeg) by decide) dX10_write_17 ?_
  refine lv_topi (fun x350 _ => ?_)
  refine va_iast hx hb hK hP hD hS 2 0 rfl rfl (show ¬ ((13 : Int32) < 0 ∨ 1336 ≤ (13 : Int32).toNatClampNeg) by decide) dX10_write_18 (fun H locs hP hD hS => ?_)
  obtain ⟨f351, hP, hD⟩ : ∃ f351, va_P D vwCl [(h0, .inr (10, (.int v1 :: .int v2 :: .ref h2 :: .ref h1 :: .ref h3 :: .ref h4 :: .ref h5 :: .ref h6 :: .ref h7 :: .ref h8 :: .ref h9 :: .ref h10 :: .int v3 :: .ref h11 :: .ref h12 :: .ref h13 :: .ref h14 :: .int v4 :: .int v5 :: .int 13 :: .ref h15 :: .ref h16 :: .ref h17 :: .int v6 :: .ref h18 :: .int v7 :: .ref h19 :: .ref h20 :: .int v8 :: .ref h21 :: .ref h22 :: .int v9 :: .int v10 :: .int v11 :: .int v12 :: .int v13 :: .int v14 :: .int v15 :: .int v16 :: .ref h23 :: .long v17 :: .long v18 :: .long v19 :: .long v20 :: []))), (h1, .inl (G.1, 10, .inl v21)), (h14, .inl (G.1, 1336, .inl f351))] H ∧ va_D A [(h0, .inr (10, (.int v1 :: .int v2 :: .ref h2 :: .ref h1 :: .ref h3 :: .ref h4 :: .ref h5 :: .ref h6 :: .ref h7 :: .ref h8 :: .ref h9 :: .ref h10 :: .int v3 :: .ref h11 :: .ref h12 :: .ref h13 :: .ref h14 :: .int v4 :: .int v5 :: .int 13 :: .ref h15 :: .ref h16 :: .ref h17 :: .int v6 :: .ref h18 :: .int v7 :: .ref h19 :: .ref h20 :: .int v8 :: .ref h21 :: .ref h22 :: .int v9 :: .int v10 :: .int v11 :: .int v12 :: .int v13 :: .int v14 :: .int v15 :: .int v16 :: .ref h23 :: .long v17 :: .long v18 :: .long v19 :: .long v20 :: []))), (h1, .inl (G.1, 10, .inl v21)), (h14, .inl (G.1, 1336, .inl f351))] := ⟨_, hP, hD⟩
  refine lv_aload_n hx hb dX10_write_19 rfl (lv_at hl 1 rfl) ?_
  refine lv_dup hx hb dX10_write_20 rfl ?_
  refine va_get (D := D) (ci := 10) (v := .int 13) (C := RX10) (T := TX10) (N := 44) hx hb hts inlX10 hown hK hP 0 rfl rfl 19 (by decide) (hts _ k_298) (fun _ h9 => h9) rfl dX10_write_21 ?_
  refine lv_iconst (v := 1) hx hb dX10_write_24 (by decide) ?_
  refine lv_iadd hx hb dX10_write_25 ?_
  refine ow_i (y := 14) (by decide) ?_
  refine va_put (D := D) (ci := 10) (v := .int 14) (ty := .int) (C := RX10) (T := TX10) (N := 44) hx hb hts inlX10 tyX10 tyX10_ok nmX10 hown hK hP hD hS 0 rfl rfl 19 (by decide) (hts _ k_298) (fun _ h9 => h9) rfl (tyX10_ok 19 (by decide)) rfl rfl (Nat.le_of_ble_eq_true rfl) dX10_write_26 (fun H locs hP hD hS => ?_)
  have hP : va_P D vwCl [(h0, .inr (10, (.int v1 :: .int v2 :: .ref h2 :: .ref h1 :: .ref h3 :: .ref h4 :: .ref h5 :: .ref h6 :: .ref h7 :: .ref h8 :: .ref h9 :: .ref h10 :: .int v3 :: .ref h11 :: .ref h12 :: .ref h13 :: .ref h14 :: .int v4 :: .int v5 :: .int 14 :: .ref h15 :: .ref h16 :: .ref h17 :: .int v6 :: .ref h18 :: .int v7 :: .ref h19 :: .ref h20 :: .int v8 :: .ref h21 :: .ref h22 :: .int v9 :: .int v10 :: .int v11 :: .int v12 :: .int v13 :: .int v14 :: .int v15 :: .int v16 :: .ref h23 :: .long v17 :: .long v18 :: .long v19 :: .long v20 :: []))), (h1, .inl (G.1, 10, .inl v21)), (h14, .inl (G.1, 1336, .inl f351))] H := hP
  have hD : va_D A [(h0, .inr (10, (.int v1 :: .int v2 :: .ref h2 :: .ref h1 :: .ref h3 :: .ref h4 :: .ref h5 :: .ref h6 :: .ref h7 :: .ref h8 :: .ref h9 :: .ref h10 :: .int v3 :: .ref h11 :: .ref h12 :: .ref h13 :: .ref h14 :: .int v4 :: .int v5 :: .int 14 :: .ref h15 :: .ref h16 :: .ref h17 :: .int v6 :: .ref h18 :: .int v7 :: .ref h19 :: .ref h20 :: .int v8 :: .ref h21 :: .ref h22 :: .int v9 :: .int v10 :: .int v11 :: .int v12 :: .int v13 :: .int v14 :: .int v15 :: .int v16 :: .ref h23 :: .long v17 :: .long v18 :: .long v19 :: .long v20 :: []))), (h1, .inl (G.1, 10, .inl v21)), (h14, .inl (G.1, 1336, .inl f351))] := hD
  refine lv_iinc (v := 2) (lv' := [(3, .int 2), (0, .ref h0), (1, .ref h1), (2, .int 10)]) hx hb dX10_write_29 hl (k := 0) rfl (by decide) (by decide) rfl (fun ls hl => ?_)
  refine lv_goto (tgt := 2) hx hb dX10_write_32 (by decide) ?_
  refine lv_iload_n hx hb dX10_write_2 rfl (lv_at hl 0 rfl) ?_
  refine lv_iload_n hx hb dX10_write_3 rfl (lv_at hl 3 rfl) ?_
  refine lv_icmp_ge (tgt := 35) hx hb dX10_write_4 (by decide) (fun h9 => absurd h9 (by decide)) (fun _ => ?_)
  refine lv_aload_n hx hb dX10_write_7 rfl (lv_at hl 1 rfl) ?_
  refine va_get (D := D) (ci := 10) (v := .ref h14) (C := RX10) (T := TX10) (N := 44) hx hb hts inlX10 hown hK hP 0 rfl rfl 16 (by decide) (hts _ k_105) (fun _ h9 => h9) rfl dX10_write_8 ?_
  refine lv_aload_n hx hb dX10_write_11 rfl (lv_at hl 1 rfl) ?_
  refine va_get (D := D) (ci := 10) (v := .int 14) (C := RX10) (T := TX10) (N := 44) hx hb hts inlX10 hown hK hP 0 rfl rfl 19 (by decide) (hts _ k_298) (fun _ h9 => h9) rfl dX10_write_12 ?_
  refine lv_aload_n hx hb dX10_write_15 rfl (lv_at hl 2 rfl) ?_
  refine lv_iload_n hx hb dX10_write_16 rfl (lv_at hl 0 rfl) ?_
  refine va_iald hx hb hK hP 1 0 rfl rfl (show ¬ ((2 : Int32) < 0 ∨ 10 ≤ (2 : Int32).toNatClampNeg) by decide) dX10_write_17 ?_
  refine lv_topi (fun x352 _ => ?_)
  refine va_iast hx hb hK hP hD hS 2 0 rfl rfl (show ¬ ((14 : Int32) < 0 ∨ 1336 ≤ (14 : Int32).toNatClampNeg) by decide) dX10_write_18 (fun H locs hP hD hS => ?_)
  obtain ⟨f353, hP, hD⟩ : ∃ f353, va_P D vwCl [(h0, .inr (10, (.int v1 :: .int v2 :: .ref h2 :: .ref h1 :: .ref h3 :: .ref h4 :: .ref h5 :: .ref h6 :: .ref h7 :: .ref h8 :: .ref h9 :: .ref h10 :: .int v3 :: .ref h11 :: .ref h12 :: .ref h13 :: .ref h14 :: .int v4 :: .int v5 :: .int 14 :: .ref h15 :: .ref h16 :: .ref h17 :: .int v6 :: .ref h18 :: .int v7 :: .ref h19 :: .ref h20 :: .int v8 :: .ref h21 :: .ref h22 :: .int v9 :: .int v10 :: .int v11 :: .int v12 :: .int v13 :: .int v14 :: .int v15 :: .int v16 :: .ref h23 :: .long v17 :: .long v18 :: .long v19 :: .long v20 :: []))), (h1, .inl (G.1, 10, .inl v21)), (h14, .inl (G.1, 1336, .inl f353))] H ∧ va_D A [(h0, .inr (10, (.int v1 :: .int v2 :: .ref h2 :: .ref h1 :: .ref h3 :: .ref h4 :: .ref h5 :: .ref h6 :: .ref h7 :: .ref h8 :: .ref h9 :: .ref h10 :: .int v3 :: .ref h11 :: .ref h12 :: .ref h13 :: .ref h14 :: .int v4 :: .int v5 :: .int 14 :: .ref h15 :: .ref h16 :: .ref h17 :: .int v6 :: .ref h18 :: .int v7 :: .ref h19 :: .ref h20 :: .int v8 :: .ref h21 :: .ref h22 :: .int v9 :: .int v10 :: .int v11 :: .int v12 :: .int v13 :: .int v14 :: .int v15 :: .int v16 :: .ref h23 :: .long v17 :: .long v18 :: .long v19 :: .long v20 :: []))), (h1, .inl (G.1, 10, .inl v21)), (h14, .inl (G.1, 1336, .inl f353))] := ⟨_, hP, hD⟩
  refine lv_aload_n hx hb dX10_write_19 rfl (lv_at hl 1 rfl) ?_
  refine lv_dup hx hb dX10_write_20 rfl ?_
  refine va_get (D := D) (ci := 10) (v := .int 14) (C := RX10) (T := TX10) (N := 44) hx hb hts inlX10 hown hK hP 0 rfl rfl 19 (by decide) (hts _ k_298) (fun _ h9 => h9) rfl dX10_write_21 ?_
  refine lv_iconst (v := 1) hx hb dX10_write_24 (by decide) ?_
  refine lv_iadd hx hb dX10_write_25 ?_
  refine ow_i (y := 15) (by decide) ?_
  refine va_put (D := D) (ci := 10) (v := .int 15) (ty := .int) (C := RX10) (T := TX10) (N := 44) hx hb hts inlX10 tyX10 tyX10_ok nmX10 hown hK hP hD hS 0 rfl rfl 19 (by decide) (hts _ k_298) (fun _ h9 => h9) rfl (tyX10_ok 19 (by decide)) rfl rfl (Nat.le_of_ble_eq_true rfl) dX10_write_26 (fun H locs hP hD hS => ?_)
  have hP : va_P D vwCl [(h0, .inr (10, (.int v1 :: .int v2 :: .ref h2 :: .ref h1 :: .ref h3 :: .ref h4 :: .ref h5 :: .ref h6 :: .ref h7 :: .ref h8 :: .ref h9 :: .ref h10 :: .int v3 :: .ref h11 :: .ref h12 :: .ref h13 :: .ref h14 :: .int v4 :: .int v5 :: .int 15 :: .ref h15 :: .ref h16 :: .ref h17 :: .int v6 :: .ref h18 :: .int v7 :: .ref h19 :: .ref h20 :: .int v8 :: .ref h21 :: .ref h22 :: .int v9 :: .int v10 :: .int v11 :: .int v12 :: .int v13 :: .int v14 :: .int v15 :: .int v16 :: .ref h23 :: .long v17 :: .long v18 :: .long v19 :: .long v20 :: []))), (h1, .inl (G.1, 10, .inl v21)), (h14, .inl (G.1, 1336, .inl f353))] H := hP
  have hD : va_D A [(h0, .inr (10, (.int v1 :: .int v2 :: .ref h2 :: .ref h1 :: .ref h3 :: .ref h4 :: .ref h5 :: .ref h6 :: .ref h7 :: .ref h8 :: .ref h9 :: .ref h10 :: .int v3 :: .ref h11 :: .ref h12 :: .ref h13 :: .ref h14 :: .int v4 :: .int v5 :: .int 15 :: .ref h15 :: .ref h16 :: .ref h17 :: .int v6 :: .ref h18 :: .int v7 :: .ref h19 :: .ref h20 :: .int v8 :: .ref h21 :: .ref h22 :: .int v9 :: .int v10 :: .int v11 :: .int v12 :: .int v13 :: .int v14 :: .int v15 :: .int v16 :: .ref h23 :: .long v17 :: .long v18 :: .long v19 :: .long v20 :: []))), (h1, .inl (G.1, 10, .inl v21)), (h14, .inl (G.1, 1336, .inl f353))] := hD
  refine lv_iinc (v := 3) (lv' := [(3, .int 3), (0, .ref h0), (1, .ref h1), (2, .int 10)]) hx hb dX10_write_29 hl (k := 0) rfl (by decide) (by decide) rfl (fun ls hl => ?_)
  refine lv_goto (tgt := 2) hx hb dX10_write_32 (by decide) ?_
  refine lv_iload_n hx hb dX10_write_2 rfl (lv_at hl 0 rfl) ?_
  refine lv_iload_n hx hb dX10_write_3 rfl (lv_at hl 3 rfl) ?_
  refine lv_icmp_ge (tgt := 35) hx hb dX10_write_4 (by decide) (fun h9 => absurd h9 (by decide)) (fun _ => ?_)
  refine lv_aload_n hx hb dX10_write_7 rfl (lv_at hl 1 rfl) ?_
  refine va_get (D := D) (ci := 10) (v := .ref h14) (C := RX10) (T := TX10) (N := 44) hx hb hts inlX10 hown hK hP 0 rfl rfl 16 (by decide) (hts _ k_105) (fun _ h9 => h9) rfl dX10_write_8 ?_
  refine lv_aload_n hx hb dX10_write_11 rfl (lv_at hl 1 rfl) ?_
  refine va_get (D := D) (ci := 10) (v := .int 15) (C := RX10) (T := TX10) (N := 44) hx hb hts inlX10 hown hK hP 0 rfl rfl 19 (by decide) (hts _ k_298) (fun _ h9 => h9) rfl dX10_write_12 ?_
  refine lv_aload_n hx hb dX10_write_15 rfl (lv_at hl 2 rfl) ?_
  refine lv_iload_n hx hb dX10_write_16 rfl (lv_at hl 0 rfl) ?_
  refine va_iald hx hb hK hP 1 0 rfl rfl (show ¬ ((3 : Int32) < 0 ∨ 10 ≤ (3 : Int32).toNatClampNeg) by decide) dX10_write_17 ?_
  refine lv_topi (fun x354 _ => ?_)
  refine va_iast hx hb hK hP hD hS 2 0 rfl rfl (show ¬ ((15 : Int32) < 0 ∨ 1336 ≤ (15 : Int32).toNatClampNeg) by decide) dX10_write_18 (fun H locs hP hD hS => ?_)
  obtain ⟨f355, hP, hD⟩ : ∃ f355, va_P D vwCl [(h0, .inr (10, (.int v1 :: .int v2 :: .ref h2 :: .ref h1 :: .ref h3 :: .ref h4 :: .ref h5 :: .ref h6 :: .ref h7 :: .ref h8 :: .ref h9 :: .ref h10 :: .int v3 :: .ref h11 :: .ref h12 :: .ref h13 :: .ref h14 :: .int v4 :: .int v5 :: .int 15 :: .ref h15 :: .ref h16 :: .ref h17 :: .int v6 :: .ref h18 :: .int v7 :: .ref h19 :: .ref h20 :: .int v8 :: .ref h21 :: .ref h22 :: .int v9 :: .int v10 :: .int v11 :: .int v12 :: .int v13 :: .int v14 :: .int v15 :: .int v16 :: .ref h23 :: .long v17 :: .long v18 :: .long v19 :: .long v20 :: []))), (h1, .inl (G.1, 10, .inl v21)), (h14, .inl (G.1, 1336, .inl f355))] H ∧ va_D A [(h0, .inr (10, (.int v1 :: .int v2 :: .ref h2 :: .ref h1 :: .ref h3 :: .ref h4 :: .ref h5 :: .ref h6 :: .ref h7 :: .ref h8 :: .ref h9 :: .ref h10 :: .int v3 :: .ref h11 :: .ref h12 :: .ref h13 :: .ref h14 :: .int v4 :: .int v5 :: .int 15 :: .ref h15 :: .ref h16 :: .ref h17 :: .int v6 :: .ref h18 :: .int v7 :: .ref h19 :: .ref h20 :: .int v8 :: .ref h21 :: .ref h22 :: .int v9 :: .int v10 :: .int v11 :: .int v12 :: .int v13 :: .int v14 :: .int v15 :: .int v16 :: .ref h23 :: .long v17 :: .long v18 :: .long v19 :: .long v20 :: []))), (h1, .inl (G.1, 10, .inl v21)), (h14, .inl (G.1, 1336, .inl f355))] := ⟨_, hP, hD⟩
  refine lv_aload_n hx hb dX10_write_19 rfl (lv_at hl 1 rfl) ?_
  refine lv_dup hx hb dX10_write_20 rfl ?_
  refine va_get (D := D) (ci := 10) (v := .int 15) (C := RX10) (T := TX10) (N := 44) hx hb hts inlX10 hown hK hP 0 rfl rfl 19 (by decide) (hts _ k_298) (fun _ h9 => h9) rfl dX10_write_21 ?_
  refine lv_iconst (v := 1) hx hb dX10_write_24 (by decide) ?_
  refine lv_iadd hx hb dX10_write_25 ?_
  refine ow_i (y := 16) (by decide) ?_
  refine va_put (D := D) (ci := 10) (v := .int 16) (ty := .int) (C := RX10) (T := TX10) (N := 44) hx hb hts inlX10 tyX10 tyX10_ok nmX10 hown hK hP hD hS 0 rfl rfl 19 (by decide) (hts _ k_298) (fun _ h9 => h9) rfl (tyX10_ok 19 (by decide)) rfl rfl (Nat.le_of_ble_eq_true rfl) dX10_write_26 (fun H locs hP hD hS => ?_)
  have hP : va_P D vwCl [(h0, .inr (10, (.int v1 :: .int v2 :: .ref h2 :: .ref h1 :: .ref h3 :: .ref h4 :: .ref h5 :: .ref h6 :: .ref h7 :: .ref h8 :: .ref h9 :: .ref h10 :: .int v3 :: .ref h11 :: .ref h12 :: .ref h13 :: .ref h14 :: .int v4 :: .int v5 :: .int 16 :: .ref h15 :: .ref h16 :: .ref h17 :: .int v6 :: .ref h18 :: .int v7 :: .ref h19 :: .ref h20 :: .int v8 :: .ref h21 :: .ref h22 :: .int v9 :: .int v10 :: .int v11 :: .int v12 :: .int v13 :: .int v14 :: .int v15 :: .int v16 :: .ref h23 :: .long v17 :: .long v18 :: .long v19 :: .long v20 :: []))), (h1, .inl (G.1, 10, .inl v21)), (h14, .inl (G.1, 1336, .inl f355))] H := hP
  have hD : va_D A [(h0, .inr (10, (.int v1 :: .int v2 :: .ref h2 :: .ref h1 :: .ref h3 :: .ref h4 :: .ref h5 :: .ref h6 :: .ref h7 :: .ref h8 :: .ref h9 :: .ref h10 :: .int v3 :: .ref h11 :: .ref h12 :: .ref h13 :: .ref h14 :: .int v4 :: .int v5 :: .int 16 :: .ref h15 :: .ref h16 :: .ref h17 :: .int v6 :: .ref h18 :: .int v7 :: .ref h19 :: .ref h20 :: .int v8 :: .ref h21 :: .ref h22 :: .int v9 :: .int v10 :: .int v11 :: .int v12 :: .int v13 :: .int v14 :: .int v15 :: .int v16 :: .ref h23 :: .long v17 :: .long v18 :: .long v19 :: .long v20 :: []))), (h1, .inl (G.1, 10, .inl v21)), (h14, .inl (G.1, 1336, .inl f355))] := hD
  refine lv_iinc (v := 4) (lv' := [(3, .int 4), (0, .ref h0), (1, .ref h1), (2, .int 10)]) hx hb dX10_write_29 hl (k := 0) rfl (by decide) (by decide) rfl (fun ls hl => ?_)
  refine lv_goto (tgt := 2) hx hb dX10_write_32 (by decide) ?_
  refine lv_iload_n hx hb dX10_write_2 rfl (lv_at hl 0 rfl) ?_
  refine lv_iload_n hx hb dX10_write_3 rfl (lv_at hl 3 rfl) ?_
  refine lv_icmp_ge (tgt := 35) hx hb dX10_write_4 (by decide) (fun h9 => absurd h9 (by decide)) (fun _ => ?_)
  refine lv_aload_n hx hb dX10_write_7 rfl (lv_at hl 1 rfl) ?_
  refine va_get (D := D) (ci := 10) (v := .ref h14) (C := RX10) (T := TX10) (N := 44) hx hb hts inlX10 hown hK hP 0 rfl rfl 16 (by decide) (hts _ k_105) (fun _ h9 => h9) rfl dX10_write_8 ?_
  refine lv_aload_n hx hb dX10_write_11 rfl (lv_at hl 1 rfl) ?_
  refine va_get (D := D) (ci := 10) (v := .int 16) (C := RX10) (T := TX10) (N := 44) hx hb hts inlX10 hown hK hP 0 rfl rfl 19 (by decide) (hts _ k_298) (fun _ h9 => h9) rfl dX10_write_12 ?_
  refine lv_aload_n hx hb dX10_write_15 rfl (lv_at hl 2 rfl) ?_
  refine lv_iload_n hx hb dX10_write_16 rfl (lv_at hl 0 rfl) ?_
  refine va_iald hx hb hK hP 1 0 rfl rfl (show ¬ ((4 : Int32) < 0 ∨ 10 ≤ (4 : Int32).toNatClampNeg) by decide) dX10_write_17 ?_
  refine lv_topi (fun x356 _ => ?_)
  refine va_iast hx hb hK hP hD hS 2 0 rfl rfl (show ¬ ((16 : Int32) < 0 ∨ 1336 ≤ (16 : Int32).toNatClampNeg) by decide) dX10_write_18 (fun H locs hP hD hS => ?_)
  obtain ⟨f357, hP, hD⟩ : ∃ f357, va_P D vwCl [(h0, .inr (10, (.int v1 :: .int v2 :: .ref h2 :: .ref h1 :: .ref h3 :: .ref h4 :: .ref h5 :: .ref h6 :: .ref h7 :: .ref h8 :: .ref h9 :: .ref h10 :: .int v3 :: .ref h11 :: .ref h12 :: .ref h13 :: .ref h14 :: .int v4 :: .int v5 :: .int 16 :: .ref h15 :: .ref h16 :: .ref h17 :: .int v6 :: .ref h18 :: .int v7 :: .ref h19 :: .ref h20 :: .int v8 :: .ref h21 :: .ref h22 :: .int v9 :: .int v10 :: .int v11 :: .int v12 :: .int v13 :: .int v14 :: .int v15 :: .int v16 :: .ref h23 :: .long v17 :: .long v18 :: .long v19 :: .long v20 :: []))), (h1, .inl (G.1, 10, .inl v21)), (h14, .inl (G.1, 1336, .inl f357))] H ∧ va_D A [(h0, .inr (10, (.int v1 :: .int v2 :: .ref h2 :: .ref h1 :: .ref h3 :: .ref h4 :: .ref h5 :: .ref h6 :: .ref h7 :: .ref h8 :: .ref h9 :: .ref h10 :: .int v3 :: .ref h11 :: .ref h12 :: .ref h13 :: .ref h14 :: .int v4 :: .int v5 :: .int 16 :: .ref h15 :: .ref h16 :: .ref h17 :: .int v6 :: .ref h18 :: .int v7 :: .ref h19 :: .ref h20 :: .int v8 :: .ref h21 :: .ref h22 :: .int v9 :: .int v10 :: .int v11 :: .int v12 :: .int v13 :: .int v14 :: .int v15 :: .int v16 :: .ref h23 :: .long v17 :: .long v18 :: .long v19 :: .long v20 :: []))), (h1, .inl (G.1, 10, .inl v21)), (h14, .inl (G.1, 1336, .inl f357))] := ⟨_, hP, hD⟩
  refine lv_aload_n hx hb dX10_write_19 rfl (lv_at hl 1 rfl) ?_
  refine lv_dup hx hb dX10_write_20 rfl ?_
  refine va_get (D := D) (ci := 10) (v := .int 16) (C := RX10) (T := TX10) (N := 44) hx hb hts inlX10 hown hK hP 0 rfl rfl 19 (by decide) (hts _ k_298) (fun _ h9 => h9) rfl dX10_write_21 ?_
  refine lv_iconst (v := 1) hx hb dX10_write_24 (by decide) ?_
  refine lv_iadd hx hb dX10_write_25 ?_
  refine ow_i (y := 17) (by decide) ?_
  refine va_put (D := D) (ci := 10) (v := .int 17) (ty := .int) (C := RX10) (T := TX10) (N := 44) hx hb hts inlX10 tyX10 tyX10_ok nmX10 hown hK hP hD hS 0 rfl rfl 19 (by decide) (hts _ k_298) (fun _ h9 => h9) rfl (tyX10_ok 19 (by decide)) rfl rfl (Nat.le_of_ble_eq_true rfl) dX10_write_26 (fun H locs hP hD hS => ?_)
  have hP : va_P D vwCl [(h0, .inr (10, (.int v1 :: .int v2 :: .ref h2 :: .ref h1 :: .ref h3 :: .ref h4 :: .ref h5 :: .ref h6 :: .ref h7 :: .ref h8 :: .ref h9 :: .ref h10 :: .int v3 :: .ref h11 :: .ref h12 :: .ref h13 :: .ref h14 :: .int v4 :: .int v5 :: .int 17 :: .ref h15 :: .ref h16 :: .ref h17 :: .int v6 :: .ref h18 :: .int v7 :: .ref h19 :: .ref h20 :: .int v8 :: .ref h21 :: .ref h22 :: .int v9 :: .int v10 :: .int v11 :: .int v12 :: .int v13 :: .int v14 :: .int v15 :: .int v16 :: .ref h23 :: .long v17 :: .long v18 :: .long v19 :: .long v20 :: []))), (h1, .inl (G.1, 10, .inl v21)), (h14, .inl (G.1, 1336, .inl f357))] H := hP
  have hD : va_D A [(h0, .inr (10, (.int v1 :: .int v2 :: .ref h2 :: .ref h1 :: .ref h3 :: .ref h4 :: .ref h5 :: .ref h6 :: .ref h7 :: .ref h8 :: .ref h9 :: .ref h10 :: .int v3 :: .ref h11 :: .ref h12 :: .ref h13 :: .ref h14 :: .int v4 :: .int v5 :: .int 17 :: .ref h15 :: .ref h16 :: .ref h17 :: .int v6 :: .ref h18 :: .int v7 :: .ref h19 :: .ref h20 :: .int v8 :: .ref h21 :: .ref h22 :: .int v9 :: .int v10 :: .int v11 :: .int v12 :: .int v13 :: .int v14 :: .int v15 :: .int v16 :: .ref h23 :: .long v17 :: .long v18 :: .long v19 :: .long v20 :: []))), (h1, .inl (G.1, 10, .inl v21)), (h14, .inl (G.1, 1336, .inl f357))] := hD
  refine lv_iinc (v := 5) (lv' := [(3, .int 5), (0, .ref h0), (1, .ref h1), (2, .int 10)]) hx hb dX10_write_29 hl (k := 0) rfl (by decide) (by decide) rfl (fun ls hl => ?_)
  refine lv_goto (tgt := 2) hx hb dX10_write_32 (by decide) ?_
  refine lv_iload_n hx hb dX10_write_2 rfl (lv_at hl 0 rfl) ?_
  refine lv_iload_n hx hb dX10_write_3 rfl (lv_at hl 3 rfl) ?_
  refine lv_icmp_ge (tgt := 35) hx hb dX10_write_4 (by decide) (fun h9 => absurd h9 (by decide)) (fun _ => ?_)
  refine lv_aload_n hx hb dX10_write_7 rfl (lv_at hl 1 rfl) ?_
  refine va_get (D := D) (ci := 10) (v := .ref h14) (C := RX10) (T := TX10) (N := 44) hx hb hts inlX10 hown hK hP 0 rfl rfl 16 (by decide) (hts _ k_105) (fun _ h9 => h9) rfl dX10_write_8 ?_
  refine lv_aload_n hx hb dX10_write_11 rfl (lv_at hl 1 rfl) ?_
  refine va_get (D := D) (ci := 10) (v := .int 17) (C := RX10) (T := TX10) (N := 44) hx hb hts inlX10 hown hK hP 0 rfl rfl 19 (by decide) (hts _ k_298) (fun _ h9 => h9) rfl dX10_write_12 ?_
  refine lv_aload_n hx hb dX10_write_15 rfl (lv_at hl 2 rfl) ?_
  refine lv_iload_n hx hb dX10_write_16 rfl (lv_at hl 0 rfl) ?_
  refine va_iald hx hb hK hP 1 0 rfl rfl (show ¬ ((5 : Int32) < 0 ∨ 10 ≤ (5 : Int32).toNatClampNeg) by decide) dX10_write_17 ?_
  refine lv_topi (fun x358 _ => ?_)
  refine va_iast hx hb hK hP hD hS 2 0 rfl rfl (show ¬ ((17 : Int32) < 0 ∨ 1336 ≤ (17 : Int32).toNatClampNeg) by decide) dX10_write_18 (fun H locs hP hD hS => ?_)
  obtain ⟨f359, hP, hD⟩ : ∃ f359, va_P D vwCl [(h0, .inr (10, (.int v1 :: .int v2 :: .ref h2 :: .ref h1 :: .ref h3 :: .ref h4 :: .ref h5 :: .ref h6 :: .ref h7 :: .ref h8 :: .ref h9 :: .ref h10 :: .int v3 :: .ref h11 :: .ref h12 :: .ref h13 :: .ref h14 :: .int v4 :: .int v5 :: .int 17 :: .ref h15 :: .ref h16 :: .ref h17 :: .int v6 :: .ref h18 :: .int v7 :: .ref h19 :: .ref h20 :: .int v8 :: .ref h21 :: .ref h22 :: .int v9 :: .int v10 :: .int v11 :: .int v12 :: .int v13 :: .int v14 :: .int v15 :: .int v16 :: .ref h23 :: .long v17 :: .long v18 :: .long v19 :: .long v20 :: []))), (h1, .inl (G.1, 10, .inl v21)), (h14, .inl (G.1, 1336, .inl f359))] H ∧ va_D A [(h0, .inr (10, (.int v1 :: .int v2 :: .ref h2 :: .ref h1 :: .ref h3 :: .ref h4 :: .ref h5 :: .ref h6 :: .ref h7 :: .ref h8 :: .ref h9 :: .ref h10 :: .int v3 :: .ref h11 :: .ref h12 :: .ref h13 :: .ref h14 :: .int v4 :: .int v5 :: .int 17 :: .ref h15 :: .ref h16 :: .ref h17 :: .int v6 :: .ref h18 :: .int v7 :: .ref h19 :: .ref h20 :: .int v8 :: .ref h21 :: .ref h22 :: .int v9 :: .int v10 :: .int v11 :: .int v12 :: .int v13 :: .int v14 :: .int v15 :: .int v16 :: .ref h23 :: .long v17 :: .long v18 :: .long v19 :: .long v20 :: []))), (h1, .inl (G.1, 10, .inl v21)), (h14, .inl (G.1, 1336, .inl f359))] := ⟨_, hP, hD⟩
  refine lv_aload_n hx hb dX10_write_19 rfl (lv_at hl 1 rfl) ?_
  refine lv_dup hx hb dX10_write_20 rfl ?_
  refine va_get (D := D) (ci := 10) (v := .int 17) (C := RX10) (T := TX10) (N := 44) hx hb hts inlX10 hown hK hP 0 rfl rfl 19 (by decide) (hts _ k_298) (fun _ h9 => h9) rfl dX10_write_21 ?_
  refine lv_iconst (v := 1) hx hb dX10_write_24 (by decide) ?_
  refine lv_iadd hx hb dX10_write_25 ?_
  refine ow_i (y := 18) (by decide) ?_
  refine va_put (D := D) (ci := 10) (v := .int 18) (ty := .int) (C := RX10) (T := TX10) (N := 44) hx hb hts inlX10 tyX10 tyX10_ok nmX10 hown hK hP hD hS 0 rfl rfl 19 (by decide) (hts _ k_298) (fun _ h9 => h9) rfl (tyX10_ok 19 (by decide)) rfl rfl (Nat.le_of_ble_eq_true rfl) dX10_write_26 (fun H locs hP hD hS => ?_)
  have hP : va_P D vwCl [(h0, .inr (10, (.int v1 :: .int v2 :: .ref h2 :: .ref h1 :: .ref h3 :: .ref h4 :: .ref h5 :: .ref h6 :: .ref h7 :: .ref h8 :: .ref h9 :: .ref h10 :: .int v3 :: .ref h11 :: .ref h12 :: .ref h13 :: .ref h14 :: .int v4 :: .int v5 :: .int 18 :: .ref h15 :: .ref h16 :: .ref h17 :: .int v6 :: .ref h18 :: .int v7 :: .ref h19 :: .ref h20 :: .int v8 :: .ref h21 :: .ref h22 :: .int v9 :: .int v10 :: .int v11 :: .int v12 :: .int v13 :: .int v14 :: .int v15 :: .int v16 :: .ref h23 :: .long v17 :: .long v18 :: .long v19 :: .long v20 :: []))), (h1, .inl (G.1, 10, .inl v21)), (h14, .inl (G.1, 1336, .inl f359))] H := hP
  have hD : va_D A [(h0, .inr (10, (.int v1 :: .int v2 :: .ref h2 :: .ref h1 :: .ref h3 :: .ref h4 :: .ref h5 :: .ref h6 :: .ref h7 :: .ref h8 :: .ref h9 :: .ref h10 :: .int v3 :: .ref h11 :: .ref h12 :: .ref h13 :: .ref h14 :: .int v4 :: .int v5 :: .int 18 :: .ref h15 :: .ref h16 :: .ref h17 :: .int v6 :: .ref h18 :: .int v7 :: .ref h19 :: .ref h20 :: .int v8 :: .ref h21 :: .ref h22 :: .int v9 :: .int v10 :: .int v11 :: .int v12 :: .int v13 :: .int v14 :: .int v15 :: .int v16 :: .ref h23 :: .long v17 :: .long v18 :: .long v19 :: .long v20 :: []))), (h1, .inl (G.1, 10, .inl v21)), (h14, .inl (G.1, 1336, .inl f359))] := hD
  refine lv_iinc (v := 6) (lv' := [(3, .int 6), (0, .ref h0), (1, .ref h1), (2, .int 10)]) hx hb dX10_write_29 hl (k := 0) rfl (by decide) (by decide) rfl (fun ls hl => ?_)
  refine lv_goto (tgt := 2) hx hb dX10_write_32 (by decide) ?_
  refine lv_iload_n hx hb dX10_write_2 rfl (lv_at hl 0 rfl) ?_
  refine lv_iload_n hx hb dX10_write_3 rfl (lv_at hl 3 rfl) ?_
  refine lv_icmp_ge (tgt := 35) hx hb dX10_write_4 (by decide) (fun h9 => absurd h9 (by decide)) (fun _ => ?_)
  refine lv_aload_n hx hb dX10_write_7 rfl (lv_at hl 1 rfl) ?_
  refine va_get (D := D) (ci := 10) (v := .ref h14) (C := RX10) (T := TX10) (N := 44) hx hb hts inlX10 hown hK hP 0 rfl rfl 16 (by decide) (hts _ k_105) (fun _ h9 => h9) rfl dX10_write_8 ?_
  refine lv_aload_n hx hb dX10_write_11 rfl (lv_at hl 1 rfl) ?_
  refine va_get (D := D) (ci := 10) (v := .int 18) (C := RX10) (T := TX10) (N := 44) hx hb hts inlX10 hown hK hP 0 rfl rfl 19 (by decide) (hts _ k_298) (fun _ h9 => h9) rfl dX10_write_12 ?_
  refine lv_aload_n hx hb dX10_write_15 rfl (lv_at hl 2 rfl) ?_
  refine lv_iload_n hx hb dX10_write_16 rfl (lv_at hl 0 rfl) ?_
  refine va_iald hx hb hK hP 1 0 rfl rfl (show ¬ ((6 : Int32) < 0 ∨ 10 ≤ (6 : Int32).toNatClampNeg) by decide) dX10_write_17 ?_
  refine lv_topi (fun x360 _ => ?_)
  refine va_iast hx hb hK hP hD hS 2 0 rfl rfl (show ¬ ((18 : Int32) < 0 ∨ 1336 ≤ (18 : Int32).toNatClampNeg) by decide) dX10_write_18 (fun H locs hP hD hS => ?_)
  obtain ⟨f361, hP, hD⟩ : ∃ f361, va_P D vwCl [(h0, .inr (10, (.int v1 :: .int v2 :: .ref h2 :: .ref h1 :: .ref h3 :: .ref h4 :: .ref h5 :: .ref h6 :: .ref h7 :: .ref h8 :: .ref h9 :: .ref h10 :: .int v3 :: .ref h11 :: .ref h12 :: .ref h13 :: .ref h14 :: .int v4 :: .int v5 :: .int 18 :: .ref h15 :: .ref h16 :: .ref h17 :: .int v6 :: .ref h18 :: .int v7 :: .ref h19 :: .ref h20 :: .int v8 :: .ref h21 :: .ref h22 :: .int v9 :: .int v10 :: .int v11 :: .int v12 :: .int v13 :: .int v14 :: .int v15 :: .int v16 :: .ref h23 :: .long v17 :: .long v18 :: .long v19 :: .long v20 :: []))), (h1, .inl (G.1, 10, .inl v21)), (h14, .inl (G.1, 1336, .inl f361))] H ∧ va_D A [(h0, .inr (10, (.int v1 :: .int v2 :: .ref h2 :: .ref h1 :: .ref h3 :: .ref h4 :: .ref h5 :: .ref h6 :: .ref h7 :: .ref h8 :: .ref h9 :: .ref h10 :: .int v3 :: .ref h11 :: .ref h12 :: .ref h13 :: .ref h14 :: .int v4 :: .int v5 :: .int 18 :: .ref h15 :: .ref h16 :: .ref h17 :: .int v6 :: .ref h18 :: .int v7 :: .ref h19 :: .ref h20 :: .int v8 :: .ref h21 :: .ref h22 :: .int v9 :: .int v10 :: .int v11 :: .int v12 :: .int v13 :: .int v14 :: .int v15 :: .int v16 :: .ref h23 :: .long v17 :: .long v18 :: .long v19 :: .long v20 :: []))), (h1, .inl (G.1, 10, .inl v21)), (h14, .inl (G.1, 1336, .inl f361))] := ⟨_, hP, hD⟩
  refine lv_aload_n hx hb dX10_write_19 rfl (lv_at hl 1 rfl) ?_
  refine lv_dup hx hb dX10_write_20 rfl ?_
  refine va_get (D := D) (ci := 10) (v := .int 18) (C := RX10) (T := TX10) (N := 44) hx hb hts inlX10 hown hK hP 0 rfl rfl 19 (by decide) (hts _ k_298) (fun _ h9 => h9) rfl dX10_write_21 ?_
  refine lv_iconst (v := 1) hx hb dX10_write_24 (by decide) ?_
  refine lv_iadd hx hb dX10_write_25 ?_
  refine ow_i (y := 19) (by decide) ?_
  refine va_put (D := D) (ci := 10) (v := .int 19) (ty := .int) (C := RX10) (T := TX10) (N := 44) hx hb hts inlX10 tyX10 tyX10_ok nmX10 hown hK hP hD hS 0 rfl rfl 19 (by decide) (hts _ k_298) (fun _ h9 => h9) rfl (tyX10_ok 19 (by decide)) rfl rfl (Nat.le_of_ble_eq_true rfl) dX10_write_26 (fun H locs hP hD hS => ?_)
  have hP : va_P D vwCl [(h0, .inr (10, (.int v1 :: .int v2 :: .ref h2 :: .ref h1 :: .ref h3 :: .ref h4 :: .ref h5 :: .ref h6 :: .ref h7 :: .ref h8 :: .ref h9 :: .ref h10 :: .int v3 :: .ref h11 :: .ref h12 :: .ref h13 :: .ref h14 :: .int v4 :: .int v5 :: .int 19 :: .ref h15 :: .ref h16 :: .ref h17 :: .int v6 :: .ref h18 :: .int v7 :: .ref h19 :: .ref h20 :: .int v8 :: .ref h21 :: .ref h22 :: .int v9 :: .int v10 :: .int v11 :: .int v12 :: .int v13 :: .int v14 :: .int v15 :: .int v16 :: .ref h23 :: .long v17 :: .long v18 :: .long v19 :: .long v20 :: []))), (h1, .inl (G.1, 10, .inl v21)), (h14, .inl (G.1, 1336, .inl f361))] H := hP
  have hD : va_D A [(h0, .inr (10, (.int v1 :: .int v2 :: .ref h2 :: .ref h1 :: .ref h3 :: .ref h4 :: .ref h5 :: .ref h6 :: .ref h7 :: .ref h8 :: .ref h9 :: .ref h10 :: .int v3 :: .ref h11 :: .ref h12 :: .ref h13 :: .ref h14 :: .int v4 :: .int v5 :: .int 19 :: .ref h15 :: .ref h16 :: .ref h17 :: .int v6 :: .ref h18 :: .int v7 :: .ref h19 :: .ref h20 :: .int v8 :: .ref h21 :: .ref h22 :: .int v9 :: .int v10 :: .int v11 :: .int v12 :: .int v13 :: .int v14 :: .int v15 :: .int v16 :: .ref h23 :: .long v17 :: .long v18 :: .long v19 :: .long v20 :: []))), (h1, .inl (G.1, 10, .inl v21)), (h14, .inl (G.1, 1336, .inl f361))] := hD
  refine lv_iinc (v := 7) (lv' := [(3, .int 7), (0, .ref h0), (1, .ref h1), (2, .int 10)]) hx hb dX10_write_29 hl (k := 0) rfl (by decide) (by decide) rfl (fun ls hl => ?_)
  refine lv_goto (tgt := 2) hx hb dX10_write_32 (by decide) ?_
  refine lv_iload_n hx hb dX10_write_2 rfl (lv_at hl 0 rfl) ?_
  refine lv_iload_n hx hb dX10_write_3 rfl (lv_at hl 3 rfl) ?_
  refine lv_icmp_ge (tgt := 35) hx hb dX10_write_4 (by decide) (fun h9 => absurd h9 (by decide)) (fun _ => ?_)
  refine lv_aload_n hx hb dX10_write_7 rfl (lv_at hl 1 rfl) ?_
  refine va_get (D := D) (ci := 10) (v := .ref h14) (C := RX10) (T := TX10) (N := 44) hx hb hts inlX10 hown hK hP 0 rfl rfl 16 (by decide) (hts _ k_105) (fun _ h9 => h9) rfl dX10_write_8 ?_
  refine lv_aload_n hx hb dX10_write_11 rfl (lv_at hl 1 rfl) ?_
  refine va_get (D := D) (ci := 10) (v := .int 19) (C := RX10) (T := TX10) (N := 44) hx hb hts inlX10 hown hK hP 0 rfl rfl 19 (by decide) (hts _ k_298) (fun _ h9 => h9) rfl dX10_write_12 ?_
  refine lv_aload_n hx hb dX10_write_15 rfl (lv_at hl 2 rfl) ?_
  refine lv_iload_n hx hb dX10_write_16 rfl (lv_at hl 0 rfl) ?_
  refine va_iald hx hb hK hP 1 0 rfl rfl (show ¬ ((7 : Int32) < 0 ∨ 10 ≤ (7 : Int32).toNatClampNeg) by decide) dX10_write_17 ?_
  refine lv_topi (fun x362 _ => ?_)
  refine va_iast hx hb hK hP hD hS 2 0 rfl rfl (show ¬ ((19 : Int32) < 0 ∨ 1336 ≤ (19 : Int32).toNatClampNeg) by decide) dX10_write_18 (fun H locs hP hD hS => ?_)
  obtain ⟨f363, hP, hD⟩ : ∃ f363, va_P D vwCl [(h0, .inr (10, (.int v1 :: .int v2 :: .ref h2 :: .ref h1 :: .ref h3 :: .ref h4 :: .ref h5 :: .ref h6 :: .ref h7 :: .ref h8 :: .ref h9 :: .ref h10 :: .int v3 :: .ref h11 :: .ref h12 :: .ref h13 :: .ref h14 :: .int v4 :: .int v5 :: .int 19 :: .ref h15 :: .ref h16 :: .ref h17 :: .int v6 :: .ref h18 :: .int v7 :: .ref h19 :: .ref h20 :: .int v8 :: .ref h21 :: .ref h22 :: .int v9 :: .int v10 :: .int v11 :: .int v12 :: .int v13 :: .int v14 :: .int v15 :: .int v16 :: .ref h23 :: .long v17 :: .long v18 :: .long v19 :: .long v20 :: []))), (h1, .inl (G.1, 10, .inl v21)), (h14, .inl (G.1, 1336, .inl f363))] H ∧ va_D A [(h0, .inr (10, (.int v1 :: .int v2 :: .ref h2 :: .ref h1 :: .ref h3 :: .ref h4 :: .ref h5 :: .ref h6 :: .ref h7 :: .ref h8 :: .ref h9 :: .ref h10 :: .int v3 :: .ref h11 :: .ref h12 :: .ref h13 :: .ref h14 :: .int v4 :: .int v5 :: .int 19 :: .ref h15 :: .ref h16 :: .ref h17 :: .int v6 :: .ref h18 :: .int v7 :: .ref h19 :: .ref h20 :: .int v8 :: .ref h21 :: .ref h22 :: .int v9 :: .int v10 :: .int v11 :: .int v12 :: .int v13 :: .int v14 :: .int v15 :: .int v16 :: .ref h23 :: .long v17 :: .long v18 :: .long v19 :: .long v20 :: []))), (h1, .inl (G.1, 10, .inl v21)), (h14, .inl (G.1, 1336, .inl f363))] := ⟨_, hP, hD⟩
  refine lv_aload_n hx hb dX10_write_19 rfl (lv_at hl 1 rfl) ?_
  refine lv_dup hx hb dX10_write_20 rfl ?_
  refine va_get (D := D) (ci := 10) (v := .int 19) (C := RX10) (T := TX10) (N := 44) hx hb hts inlX10 hown hK hP 0 rfl rfl 19 (by decide) (hts _ k_298) (fun _ h9 => h9) rfl dX10_write_21 ?_
  refine lv_iconst (v := 1) hx hb dX10_write_24 (by decide) ?_
  refine lv_iadd hx hb dX10_write_25 ?_
  refine ow_i (y := 20) (by decide) ?_
  refine va_put (D := D) (ci := 10) (v := .int 20) (ty := .int) (C := RX10) (T := TX10) (N := 44) hx hb hts inlX10 tyX10 tyX10_ok nmX10 hown hK hP hD hS 0 rfl rfl 19 (by decide) (hts _ k_298) (fun _ h9 => h9) rfl (tyX10_ok 19 (by decide)) rfl rfl (Nat.le_of_ble_eq_true rfl) dX10_write_26 (fun H locs hP hD hS => ?_)
  have hP : va_P D vwCl [(h0, .inr (10, (.int v1 :: .int v2 :: .ref h2 :: .ref h1 :: .ref h3 :: .ref h4 :: .ref h5 :: .ref h6 :: .ref h7 :: .ref h8 :: .ref h9 :: .ref h10 :: .int v3 :: .ref h11 :: .ref h12 :: .ref h13 :: .ref h14 :: .int v4 :: .int v5 :: .int 20 :: .ref h15 :: .ref h16 :: .ref h17 :: .int v6 :: .ref h18 :: .int v7 :: .ref h19 :: .ref h20 :: .int v8 :: .ref h21 :: .ref h22 :: .int v9 :: .int v10 :: .int v11 :: .int v12 :: .int v13 :: .int v14 :: .int v15 :: .int v16 :: .ref h23 :: .long v17 :: .long v18 :: .long v19 :: .long v20 :: []))), (h1, .inl (G.1, 10, .inl v21)), (h14, .inl (G.1, 1336, .inl f363))] H := hP
  have hD : va_D A [(h0, .inr (10, (.int v1 :: .int v2 :: .ref h2 :: .ref h1 :: .ref h3 :: .ref h4 :: .ref h5 :: .ref h6 :: .ref h7 :: .ref h8 :: .ref h9 :: .ref h10 :: .int v3 :: .ref h11 :: .ref h12 :: .ref h13 :: .ref h14 :: .int v4 :: .int v5 :: .int 20 :: .ref h15 :: .ref h16 :: .ref h17 :: .int v6 :: .ref h18 :: .int v7 :: .ref h19 :: .ref h20 :: .int v8 :: .ref h21 :: .ref h22 :: .int v9 :: .int v10 :: .int v11 :: .int v12 :: .int v13 :: .int v14 :: .int v15 :: .int v16 :: .ref h23 :: .long v17 :: .long v18 :: .long v19 :: .long v20 :: []))), (h1, .inl (G.1, 10, .inl v21)), (h14, .inl (G.1, 1336, .inl f363))] := hD
  refine lv_iinc (v := 8) (lv' := [(3, .int 8), (0, .ref h0), (1, .ref h1), (2, .int 10)]) hx hb dX10_write_29 hl (k := 0) rfl (by decide) (by decide) rfl (fun ls hl => ?_)
  refine lv_goto (tgt := 2) hx hb dX10_write_32 (by decide) ?_
  refine lv_iload_n hx hb dX10_write_2 rfl (lv_at hl 0 rfl) ?_
  refine lv_iload_n hx hb dX10_write_3 rfl (lv_at hl 3 rfl) ?_
  refine lv_icmp_ge (tgt := 35) hx hb dX10_write_4 (by decide) (fun h9 => absurd h9 (by decide)) (fun _ => ?_)
  refine lv_aload_n hx hb dX10_write_7 rfl (lv_at hl 1 rfl) ?_
  refine va_get (D := D) (ci := 10) (v := .ref h14) (C := RX10) (T := TX10) (N := 44) hx hb hts inlX10 hown hK hP 0 rfl rfl 16 (by decide) (hts _ k_105) (fun _ h9 => h9) rfl dX10_write_8 ?_
  refine lv_aload_n hx hb dX10_write_11 rfl (lv_at hl 1 rfl) ?_
  refine va_get (D := D) (ci := 10) (v := .int 20) (C := RX10) (T := TX10) (N := 44) hx hb hts inlX10 hown hK hP 0 rfl rfl 19 (by decide) (hts _ k_298) (fun _ h9 => h9) rfl dX10_write_12 ?_
  refine lv_aload_n hx hb dX10_write_15 rfl (lv_at hl 2 rfl) ?_
  refine lv_iload_n hx hb dX10_write_16 rfl (lv_at hl 0 rfl) ?_
  refine va_iald hx hb hK hP 1 0 rfl rfl (show ¬ ((8 : Int32) < 0 ∨ 10 ≤ (8 : Int32).toNatClampNeg) by decide) dX10_write_17 ?_
  refine lv_topi (fun x364 _ => ?_)
  refine va_iast hx hb hK hP hD hS 2 0 rfl rfl (show ¬ ((20 : Int32) < 0 ∨ 1336 ≤ (20 : Int32).toNatClampNeg) by decide) dX10_write_18 (fun H locs hP hD hS => ?_)
  obtain ⟨f365, hP, hD⟩ : ∃ f365, va_P D vwCl [(h0, .inr (10, (.int v1 :: .int v2 :: .ref h2 :: .ref h1 :: .ref h3 :: .ref h4 :: .ref h5 :: .ref h6 :: .ref h7 :: .ref h8 :: .ref h9 :: .ref h10 :: .int v3 :: .ref h11 :: .ref h12 :: .ref h13 :: .ref h14 :: .int v4 :: .int v5 :: .int 20 :: .ref h15 :: .ref h16 :: .ref h17 :: .int v6 :: .ref h18 :: .int v7 :: .ref h19 :: .ref h20 :: .int v8 :: .ref h21 :: .ref h22 :: .int v9 :: .int v10 :: .int v11 :: .int v12 :: .int v13 :: .int v14 :: .int v15 :: .int v16 :: .ref h23 :: .long v17 :: .long v18 :: .long v19 :: .long v20 :: []))), (h1, .inl (G.1, 10, .inl v21)), (h14, .inl (G.1, 1336, .inl f365))] H ∧ va_D A [(h0, .inr (10, (.int v1 :: .int v2 :: .ref h2 :: .ref h1 :: .ref h3 :: .ref h4 :: .ref h5 :: .ref h6 :: .ref h7 :: .ref h8 :: .ref h9 :: .ref h10 :: .int v3 :: .ref h11 :: .ref h12 :: .ref h13 :: .ref h14 :: .int v4 :: .int v5 :: .int 20 :: .ref h15 :: .ref h16 :: .ref h17 :: .int v6 :: .ref h18 :: .int v7 :: .ref h19 :: .ref h20 :: .int v8 :: .ref h21 :: .ref h22 :: .int v9 :: .int v10 :: .int v11 :: .int v12 :: .int v13 :: .int v14 :: .int v15 :: .int v16 :: .ref h23 :: .long v17 :: .long v18 :: .long v19 :: .long v20 :: []))), (h1, .inl (G.1, 10, .inl v21)), (h14, .inl (G.1, 1336, .inl f365))] := ⟨_, hP, hD⟩
  refine lv_aload_n hx hb dX10_write_19 rfl (lv_at hl 1 rfl) ?_
  refine lv_dup hx hb dX10_write_20 rfl ?_
  refine va_get (D := D) (ci := 10) (v := .int 20) (C := RX10) (T := TX10) (N := 44) hx hb hts inlX10 hown hK hP 0 rfl rfl 19 (by decide) (hts _ k_298) (fun _ h9 => h9) rfl dX10_write_21 ?_
  refine lv_iconst (v := 1) hx hb dX10_write_24 (by decide) ?_
  refine lv_iadd hx hb dX10_write_25 ?_
  refine ow_i (y := 21) (by decide) ?_
  refine va_put (D := D) (ci := 10) (v := .int 21) (ty := .int) (C := RX10) (T := TX10) (N := 44) hx hb hts inlX10 tyX10 tyX10_ok nmX10 hown hK hP hD hS 0 rfl rfl 19 (by decide) (hts _ k_298) (fun _ h9 => h9) rfl (tyX10_ok 19 (by decide)) rfl rfl (Nat.le_of_ble_eq_true rfl) dX10_write_26 (fun H locs hP hD hS => ?_)
  have hP : va_P D vwCl [(h0, .inr (10, (.int v1 :: .int v2 :: .ref h2 :: .ref h1 :: .ref h3 :: .ref h4 :: .ref h5 :: .ref h6 :: .ref h7 :: .ref h8 :: .ref h9 :: .ref h10 :: .int v3 :: .ref h11 :: .ref h12 :: .ref h13 :: .ref h14 :: .int v4 :: .int v5 :: .int 21 :: .ref h15 :: .ref h16 :: .ref h17 :: .int v6 :: .ref h18 :: .int v7 :: .ref h19 :: .ref h20 :: .int v8 :: .ref h21 :: .ref h22 :: .int v9 :: .int v10 :: .int v11 :: .int v12 :: .int v13 :: .int v14 :: .int v15 :: .int v16 :: .ref h23 :: .long v17 :: .long v18 :: .long v19 :: .long v20 :: []))), (h1, .inl (G.1, 10, .inl v21)), (h14, .inl (G.1, 1336, .inl f365))] H := hP
  have hD : va_D A [(h0, .inr (10, (.int v1 :: .int v2 :: .ref h2 :: .ref h1 :: .ref h3 :: .ref h4 :: .ref h5 :: .ref h6 :: .ref h7 :: .ref h8 :: .ref h9 :: .ref h10 :: .int v3 :: .ref h11 :: .ref h12 :: .ref h13 :: .ref h14 :: .int v4 :: .int v5 :: .int 21 :: .ref h15 :: .ref h16 :: .ref h17 :: .int v6 :: .ref h18 :: .int v7 :: .ref h19 :: .ref h20 :: .int v8 :: .ref h21 :: .ref h22 :: .int v9 :: .int v10 :: .int v11 :: .int v12 :: .int v13 :: .int v14 :: .int v15 :: .int v16 :: .ref h23 :: .long v17 :: .long v18 :: .long v19 :: .long v20 :: []))), (h1, .inl (G.1, 10, .inl v21)), (h14, .inl (G.1, 1336, .inl f365))] := hD
  refine lv_iinc (v := 9) (lv' := [(3, .int 9), (0, .ref h0), (1, .ref h1), (2, .int 10)]) hx hb dX10_write_29 hl (k := 0) rfl (by decide) (by decide) rfl (fun ls hl => ?_)
  refine lv_goto (tgt := 2) hx hb dX10_write_32 (by decide) ?_
  refine lv_iload_n hx hb dX10_write_2 rfl (lv_at hl 0 rfl) ?_
  refine lv_iload_n hx hb dX10_write_3 rfl (lv_at hl 3 rfl) ?_
  refine lv_icmp_ge (tgt := 35) hx hb dX10_write_4 (by decide) (fun h9 => absurd h9 (by decide)) (fun _ => ?_)
  refine lv_aload_n hx hb dX10_write_7 rfl (lv_at hl 1 rfl) ?_
  refine va_get (D := D) (ci := 10) (v := .ref h14) (C := RX10) (T := TX10) (N := 44) hx hb hts inlX10 hown hK hP 0 rfl rfl 16 (by decide) (hts _ k_105) (fun _ h9 => h9) rfl dX10_write_8 ?_
  refine lv_aload_n hx hb dX10_write_11 rfl (lv_at hl 1 rfl) ?_
  refine va_get (D := D) (ci := 10) (v := .int 21) (C := RX10) (T := TX10) (N := 44) hx hb hts inlX10 hown hK hP 0 rfl rfl 19 (by decide) (hts _ k_298) (fun _ h9 => h9) rfl dX10_write_12 ?_
  refine lv_aload_n hx hb dX10_write_15 rfl (lv_at hl 2 rfl) ?_
  refine lv_iload_n hx hb dX10_write_16 rfl (lv_at hl 0 rfl) ?_
  refine va_iald hx hb hK hP 1 0 rfl rfl (show ¬ ((9 : Int32) < 0 ∨ 10 ≤ (9 : Int32).toNatClampNeg) by decide) dX10_write_17 ?_
  refine lv_topi (fun x366 _ => ?_)
  refine va_iast hx hb hK hP hD hS 2 0 rfl rfl (show ¬ ((21 : Int32) < 0 ∨ 1336 ≤ (21 : Int32).toNatClampNeg) by decide) dX10_write_18 (fun H locs hP hD hS => ?_)
  obtain ⟨f367, hP, hD⟩ : ∃ f367, va_P D vwCl [(h0, .inr (10, (.int v1 :: .int v2 :: .ref h2 :: .ref h1 :: .ref h3 :: .ref h4 :: .ref h5 :: .ref h6 :: .ref h7 :: .ref h8 :: .ref h9 :: .ref h10 :: .int v3 :: .ref h11 :: .ref h12 :: .ref h13 :: .ref h14 :: .int v4 :: .int v5 :: .int 21 :: .ref h15 :: .ref h16 :: .ref h17 :: .int v6 :: .ref h18 :: .int v7 :: .ref h19 :: .ref h20 :: .int v8 :: .ref h21 :: .ref h22 :: .int v9 :: .int v10 :: .int v11 :: .int v12 :: .int v13 :: .int v14 :: .int v15 :: .int v16 :: .ref h23 :: .long v17 :: .long v18 :: .long v19 :: .long v20 :: []))), (h1, .inl (G.1, 10, .inl v21)), (h14, .inl (G.1, 1336, .inl f367))] H ∧ va_D A [(h0, .inr (10, (.int v1 :: .int v2 :: .ref h2 :: .ref h1 :: .ref h3 :: .ref h4 :: .ref h5 :: .ref h6 :: .ref h7 :: .ref h8 :: .ref h9 :: .ref h10 :: .int v3 :: .ref h11 :: .ref h12 :: .ref h13 :: .ref h14 :: .int v4 :: .int v5 :: .int 21 :: .ref h15 :: .ref h16 :: .ref h17 :: .int v6 :: .ref h18 :: .int v7 :: .ref h19 :: .ref h20 :: .int v8 :: .ref h21 :: .ref h22 :: .int v9 :: .int v10 :: .int v11 :: .int v12 :: .int v13 :: .int v14 :: .int v15 :: .int v16 :: .ref h23 :: .long v17 :: .long v18 :: .long v19 :: .long v20 :: []))), (h1, .inl (G.1, 10, .inl v21)), (h14, .inl (G.1, 1336, .inl f367))] := ⟨_, hP, hD⟩
  refine lv_aload_n hx hb dX10_write_19 rfl (lv_at hl 1 rfl) ?_
  refine lv_dup hx hb dX10_write_20 rfl ?_
  refine va_get (D := D) (ci := 10) (v := .int 21) (C := RX10) (T := TX10) (N := 44) hx hb hts inlX10 hown hK hP 0 rfl rfl 19 (by decide) (hts _ k_298) (fun _ h9 => h9) rfl dX10_write_21 ?_
  refine lv_iconst (v := 1) hx hb dX10_write_24 (by decide) ?_
  refine lv_iadd hx hb dX10_write_25 ?_
  refine ow_i (y := 22) (by decide) ?_
  refine va_put (D := D) (ci := 10) (v := .int 22) (ty := .int) (C := RX10) (T := TX10) (N := 44) hx hb hts inlX10 tyX10 tyX10_ok nmX10 hown hK hP hD hS 0 rfl rfl 19 (by decide) (hts _ k_298) (fun _ h9 => h9) rfl (tyX10_ok 19 (by decide)) rfl rfl (Nat.le_of_ble_eq_true rfl) dX10_write_26 (fun H locs hP hD hS => ?_)
  have hP : va_P D vwCl [(h0, .inr (10, (.int v1 :: .int v2 :: .ref h2 :: .ref h1 :: .ref h3 :: .ref h4 :: .ref h5 :: .ref h6 :: .ref h7 :: .ref h8 :: .ref h9 :: .ref h10 :: .int v3 :: .ref h11 :: .ref h12 :: .ref h13 :: .ref h14 :: .int v4 :: .int v5 :: .int 22 :: .ref h15 :: .ref h16 :: .ref h17 :: .int v6 :: .ref h18 :: .int v7 :: .ref h19 :: .ref h20 :: .int v8 :: .ref h21 :: .ref h22 :: .int v9 :: .int v10 :: .int v11 :: .int v12 :: .int v13 :: .int v14 :: .int v15 :: .int v16 :: .ref h23 :: .long v17 :: .long v18 :: .long v19 :: .long v20 :: []))), (h1, .inl (G.1, 10, .inl v21)), (h14, .inl (G.1, 1336, .inl f367))] H := hP
  have hD : va_D A [(h0, .inr (10, (.int v1 :: .int v2 :: .ref h2 :: .ref h1 :: .ref h3 :: .ref h4 :: .ref h5 :: .ref h6 :: .ref h7 :: .ref h8 :: .ref h9 :: .ref h10 :: .int v3 :: .ref h11 :: .ref h12 :: .ref h13 :: .ref h14 :: .int v4 :: .int v5 :: .int 22 :: .ref h15 :: .ref h16 :: .ref h17 :: .int v6 :: .ref h18 :: .int v7 :: .ref h19 :: .ref h20 :: .int v8 :: .ref h21 :: .ref h22 :: .int v9 :: .int v10 :: .int v11 :: .int v12 :: .int v13 :: .int v14 :: .int v15 :: .int v16 :: .ref h23 :: .long v17 :: .long v18 :: .long v19 :: .long v20 :: []))), (h1, .inl (G.1, 10, .inl v21)), (h14, .inl (G.1, 1336, .inl f367))] := hD
  refine lv_iinc (v := 10) (lv' := [(3, .int 10), (0, .ref h0), (1, .ref h1), (2, .int 10)]) hx hb dX10_write_29 hl (k := 0) rfl (by decide) (by decide) rfl (fun ls hl => ?_)
  refine lv_goto (tgt := 2) hx hb dX10_write_32 (by decide) ?_
  refine lv_iload_n hx hb dX10_write_2 rfl (lv_at hl 0 rfl) ?_
  refine lv_iload_n hx hb dX10_write_3 rfl (lv_at hl 3 rfl) ?_
  refine lv_icmp_ge (tgt := 35) hx hb dX10_write_4 (by decide) (fun _ => ?_) (fun h9 => absurd h9 (by decide))
  exact ow_vret (u := [(h0, .inr (10, (.int v1 :: .int v2 :: .ref h2 :: .ref h1 :: .ref h3 :: .ref h4 :: .ref h5 :: .ref h6 :: .ref h7 :: .ref h8 :: .ref h9 :: .ref h10 :: .int v3 :: .ref h11 :: .ref h12 :: .ref h13 :: .ref h14 :: .int v4 :: .int v5 :: .int 22 :: .ref h15 :: .ref h16 :: .ref h17 :: .int v6 :: .ref h18 :: .int v7 :: .ref h19 :: .ref h20 :: .int v8 :: .ref h21 :: .ref h22 :: .int v9 :: .int v10 :: .int v11 :: .int v12 :: .int v13 :: .int v14 :: .int v15 :: .int v16 :: .ref h23 :: .long v17 :: .long v18 :: .long v19 :: .long v20 :: []))), (h1, .inl (G.1, 10, .inl v21)), (h14, .inl (G.1, 1336, .inl f367))]) hx hb hr hlocks hP hD hS [0, 1, 2] (by decide) rfl dX10_write_35 ⟨trivial, f367, rfl⟩
