theorem in_X7_isSort_X7 : ∀ w ∈ u_ws RX7 TX7 18, w ∈ wsX7_isSort := fun w h => (List.mem_cons_of_mem _ (List.mem_append_right _ h))
set_option maxRecDepth 100000 in
set_option maxHeartbeats 4000000 in
/-- Town.isSort of a town without: 0 -/
theorem c_X7_isSort (l : Launch) (D : va_G) (cy : Nat → ClassId) (t0 : Nat) (ft : List Value) (p0 : Int32) (e1 : ft[0]? = some (.int 0)) : Cti l D cy yX7_isSort wsX7_isSort ({ frames := 0, cells := 0, slots := 0, locals := 0 } : Room) [.ref t0, .int p0] [(t0, .inr (7, ft))] myT (fun (r : Int32) (w : va_W) => r = 0 ∧ w = [(t0, .inr (7, ft))]) := by
  refine ofI (cc := cX7_isSort) (maxL := 2) (ret := (some .boolean)) (by decide) rfl (Nat.le_of_ble_eq_true rfl) ?_
  intro p e s m args below meth c A ls hx hb hr hts hown hlocks hml hin hK hP hD hS hA hX hl
  have hown : s.vm.findClass RX7 = some m.cls := hown
  have hl : lv_has ls 2 [(0, .ref t0), (1, .int p0)] := hl
  refine lv_iload_n hx hb dX7_isSort_0 rfl (lv_at hl 1 rfl) ?_
  refine lv_if_lt (tgt := 16) hx hb dX7_isSort_1 (by decide) (fun c_1 => ?_) (fun c_1 => ?_)
  · refine lv_iconst (v := 0) hx hb dX7_isSort_16 (by decide) ?_
    exact endI hx hb hr hlocks [(t0, .inr (7, ft))] rfl ⟨rfl, rfl⟩ hP hD hS (Nat.le_of_ble_eq_true rfl) (Nat.le_of_ble_eq_true rfl) dX7_isSort_17
  · refine lv_iload_n hx hb dX7_isSort_4 rfl (lv_at hl 1 rfl) ?_
    refine lv_aload_n hx hb dX7_isSort_5 rfl (lv_at hl 0 rfl) ?_
    refine va_get (ci := 7) (v := .int 0) (C := RX7) (T := TX7) (N := 18) hx hb hts in_X7_isSort_X7 hown hK hP 0 rfl rfl 0 (by decide) (hts (.fieldLink RX7 49 "HallTables$Town" "sorts" "I") (List.mem_of_getElem? (i := 1) rfl)) (fun _ h9 => h9) e1 dX7_isSort_6 ?_
    refine lv_icmp_ge (tgt := 16) hx hb dX7_isSort_9 (by decide) (fun _ => ?_) (fun c9 => absurd (Int32.not_lt.mp c_1) c9)
    refine lv_iconst (v := 0) hx hb dX7_isSort_16 (by decide) ?_
    exact endI hx hb hr hlocks [(t0, .inr (7, ft))] rfl ⟨rfl, rfl⟩ hP hD hS (Nat.le_of_ble_eq_true rfl) (Nat.le_of_ble_eq_true rfl) dX7_isSort_17

theorem in_X7_isHouse_X7 : ∀ w ∈ u_ws RX7 TX7 18, w ∈ wsX7_isHouse := fun w h => (List.mem_cons_of_mem _ (List.mem_append_right _ h))
set_option maxRecDepth 100000 in
set_option maxHeartbeats 4000000 in
/-- Town.isHouse of a town without: 0 -/
theorem c_X7_isHouse (l : Launch) (D : va_G) (cy : Nat → ClassId) (t0 : Nat) (ft : List Value) (p0 : Int32) (e1 : ft[1]? = some (.int 0)) : Cti l D cy yX7_isHouse wsX7_isHouse ({ frames := 0, cells := 0, slots := 0, locals := 0 } : Room) [.ref t0, .int p0] [(t0, .inr (7, ft))] myT (fun (r : Int32) (w : va_W) => r = 0 ∧ w = [(t0, .inr (7, ft))]) := by
  refine ofI (cc := cX7_isHouse) (maxL := 2) (ret := (some .boolean)) (by decide) rfl (Nat.le_of_ble_eq_true rfl) ?_
  intro p e s m args below meth c A ls hx hb hr hts hown hlocks hml hin hK hP hD hS hA hX hl
  have hown : s.vm.findClass RX7 = some m.cls := hown
  have hl : lv_has ls 2 [(0, .ref t0), (1, .int p0)] := hl
  refine lv_iload_n hx hb dX7_isHouse_0 rfl (lv_at hl 1 rfl) ?_
  refine lv_if_lt (tgt := 16) hx hb dX7_isHouse_1 (by decide) (fun c_1 => ?_) (fun c_1 => ?_)
  · refine lv_iconst (v := 0) hx hb dX7_isHouse_16 (by decide) ?_
    exact endI hx hb hr hlocks [(t0, .inr (7, ft))] rfl ⟨rfl, rfl⟩ hP hD hS (Nat.le_of_ble_eq_true rfl) (Nat.le_of_ble_eq_true rfl) dX7_isHouse_17
  · refine lv_iload_n hx hb dX7_isHouse_4 rfl (lv_at hl 1 rfl) ?_
    refine lv_aload_n hx hb dX7_isHouse_5 rfl (lv_at hl 0 rfl) ?_
    refine va_get (ci := 7) (v := .int 0) (C := RX7) (T := TX7) (N := 18) hx hb hts in_X7_isHouse_X7 hown hK hP 0 rfl rfl 1 (by decide) (hts (.fieldLink RX7 53 "HallTables$Town" "houses" "I") (List.mem_of_getElem? (i := 1) rfl)) (fun _ h9 => h9) e1 dX7_isHouse_6 ?_
    refine lv_icmp_ge (tgt := 16) hx hb dX7_isHouse_9 (by decide) (fun _ => ?_) (fun c9 => absurd (Int32.not_lt.mp c_1) c9)
    refine lv_iconst (v := 0) hx hb dX7_isHouse_16 (by decide) ?_
    exact endI hx hb hr hlocks [(t0, .inr (7, ft))] rfl ⟨rfl, rfl⟩ hP hD hS (Nat.le_of_ble_eq_true rfl) (Nat.le_of_ble_eq_true rfl) dX7_isHouse_17

theorem in_X7_isMan_X7 : ∀ w ∈ u_ws RX7 TX7 18, w ∈ wsX7_isMan := fun w h => (List.mem_cons_of_mem _ (List.mem_append_right _ h))
set_option maxRecDepth 100000 in
set_option maxHeartbeats 4000000 in
/-- Town.isMan of a town without: 0 -/
theorem c_X7_isMan (l : Launch) (D : va_G) (cy : Nat → ClassId) (t0 : Nat) (ft : List Value) (p0 : Int32) (e1 : ft[3]? = some (.int 0)) : Cti l D cy yX7_isMan wsX7_isMan ({ frames := 0, cells := 0, slots := 0, locals := 0 } : Room) [.ref t0, .int p0] [(t0, .inr (7, ft))] myT (fun (r : Int32) (w : va_W) => r = 0 ∧ w = [(t0, .inr (7, ft))]) := by
  refine ofI (cc := cX7_isMan) (maxL := 2) (ret := (some .boolean)) (by decide) rfl (Nat.le_of_ble_eq_true rfl) ?_
  intro p e s m args below meth c A ls hx hb hr hts hown hlocks hml hin hK hP hD hS hA hX hl
  have hown : s.vm.findClass RX7 = some m.cls := hown
  have hl : lv_has ls 2 [(0, .ref t0), (1, .int p0)] := hl
  refine lv_iload_n hx hb dX7_isMan_0 rfl (lv_at hl 1 rfl) ?_
  refine lv_if_lt (tgt := 16) hx hb dX7_isMan_1 (by decide) (fun c_1 => ?_) (fun c_1 => ?_)
  · refine lv_iconst (v := 0) hx hb dX7_isMan_16 (by decide) ?_
    exact endI hx hb hr hlocks [(t0, .inr (7, ft))] rfl ⟨rfl, rfl⟩ hP hD hS (Nat.le_of_ble_eq_true rfl) (Nat.le_of_ble_eq_true rfl) dX7_isMan_17
  · refine lv_iload_n hx hb dX7_isMan_4 rfl (lv_at hl 1 rfl) ?_
    refine lv_aload_n hx hb dX7_isMan_5 rfl (lv_at hl 0 rfl) ?_
    refine va_get (ci := 7) (v := .int 0) (C := RX7) (T := TX7) (N := 18) hx hb hts in_X7_isMan_X7 hown hK hP 0 rfl rfl 3 (by decide) (hts (.fieldLink RX7 59 "HallTables$Town" "men" "I") (List.mem_of_getElem? (i := 1) rfl)) (fun _ h9 => h9) e1 dX7_isMan_6 ?_
    refine lv_icmp_ge (tgt := 16) hx hb dX7_isMan_9 (by decide) (fun _ => ?_) (fun c9 => absurd (Int32.not_lt.mp c_1) c9)
    refine lv_iconst (v := 0) hx hb dX7_isMan_16 (by decide) ?_
    exact endI hx hb hr hlocks [(t0, .inr (7, ft))] rfl ⟨rfl, rfl⟩ hP hD hS (Nat.le_of_ble_eq_true rfl) (Nat.le_of_ble_eq_true rfl) dX7_isMan_17

theorem in_X11_isWay_X11 : ∀ w ∈ u_ws RX11 TX11 11, w ∈ wsX11_isWay := fun w h => (List.mem_cons_of_mem _ (List.mem_append_right _ h))
set_option maxRecDepth 100000 in
set_option maxHeartbeats 4000000 in
/-- isWay on a new object: 0 -/
theorem c_X11_isWay (l : Launch) (D : va_G) (cy : Nat → ClassId) (h0 : Nat) (fs : List Value) (t0 : Nat) (ft : List Value) (p0 : Int32) (p1 : Int32) (p2 : Int32) (p3 : Int32) (e2 : fs[10]? = some (.ref t0)) (e_isMan : ft[3]? = some (.int 0)) : Cti l D cy yX11_isWay wsX11_isWay ({ frames := 1, cells := 0, slots := 0, locals := 21 } : Room) [.ref h0, .int p0, .int p1, .int p2, .int p3] [(h0, .inr (11, fs)), (t0, .inr (7, ft))] myT (fun (r : Int32) (w : va_W) => r = 0 ∧ w = [(h0, .inr (11, fs)), (t0, .inr (7, ft))]) := by
  refine ofI (cc := cX11_isWay) (maxL := 5) (ret := (some .boolean)) (by decide) rfl (Nat.le_of_ble_eq_true rfl) ?_
  intro p e s m args below meth c A ls hx hb hr hts hown hlocks hml hin hK hP hD hS hA hX hl
  have hown : s.vm.findClass RX11 = some m.cls := hown
  have hl : lv_has ls 5 [(0, .ref h0), (1, .int p0), (2, .int p1), (3, .int p2), (4, .int p3)] := hl
  refine lv_aload_n hx hb dX11_isWay_0 rfl (lv_at hl 0 rfl) ?_
  refine va_get (ci := 11) (v := .ref t0) (C := RX11) (T := TX11) (N := 11) hx hb hts in_X11_isWay_X11 hown hK hP 0 rfl rfl 10 (by decide) (hts (.fieldLink RX11 77 "HallTables" "town" "LHallTables$Town;") (List.mem_of_getElem? (i := 1) rfl)) (fun _ h9 => h9) e2 dX11_isWay_1 ?_
  refine lv_iload_n hx hb dX11_isWay_4 rfl (lv_at hl 1 rfl) ?_
  refine cVi (As := [.int p0]) (rest := []) (wr := [(h0, .inr (11, fs))]) ⟨hx, hb, hml, hown, hts⟩ (c_X7_isMan l D cy t0 ft p0 e_isMan) (cwV 1 hts gX11_isWay_X7_isMan rfl rfl rfl (by decide +kernel) ⟨Nat.le_of_ble_eq_true rfl, Nat.le_of_ble_eq_true rfl⟩) hK hP hD hS hA [1] [0] ⟨rfl, rfl, by decide +kernel, by decide +kernel, by decide +kernel⟩ 0 7 rfl rfl myX_T rfl hl.1 rfl (Nat.le_of_ble_eq_true rfl) dX11_isWay_5 ⟨Nat.le_of_ble_eq_true rfl, Nat.le_of_ble_eq_true rfl⟩ (fun r_1 w_2 H locs hw hP hD hS => ?_)
  obtain ⟨rfl, rfl⟩ := hw
  have hP : va_P D vwCl [(h0, .inr (11, fs)), (t0, .inr (7, ft))] H := hP
  have hD : va_D A [(h0, .inr (11, fs)), (t0, .inr (7, ft))] := hD
  refine lv_if_eq (tgt := 50) hx hb dX11_isWay_8 (by decide) (fun _ => ?_) (fun c9 => absurd (by decide) c9)
  refine lv_iconst (v := 0) hx hb dX11_isWay_50 (by decide) ?_
  exact endI hx hb hr hlocks [(h0, .inr (11, fs)), (t0, .inr (7, ft))] rfl ⟨rfl, rfl⟩ hP hD hS (Nat.le_of_ble_eq_true rfl) (Nat.le_of_ble_eq_true rfl) dX11_isWay_51

theorem in_X11_door_X11 : ∀ w ∈ u_ws RX11 TX11 11, w ∈ wsX11_door := fun w h => (List.mem_cons_of_mem _ (List.mem_append_right _ h))
set_option maxRecDepth 100000 in
set_option maxHeartbeats 4000000 in
/-- door on a new object: (-1) -/
theorem c_X11_door (l : Launch) (D : va_G) (cy : Nat → ClassId) (h0 : Nat) (fs : List Value) (t0 : Nat) (ft : List Value) (p0 : Int32) (p1 : Int32) (e2 : fs[10]? = some (.ref t0)) (e_isHouse : ft[1]? = some (.int 0)) : Cti l D cy yX11_door wsX11_door ({ frames := 1, cells := 0, slots := 0, locals := 21 } : Room) [.ref h0, .int p0, .int p1] [(h0, .inr (11, fs)), (t0, .inr (7, ft))] myT (fun (r : Int32) (w : va_W) => r = (-1) ∧ w = []) := by
  refine ofI (cc := cX11_door) (maxL := 3) (ret := (some .int)) (by decide) rfl (Nat.le_of_ble_eq_true rfl) ?_
  intro p e s m args below meth c A ls hx hb hr hts hown hlocks hml hin hK hP hD hS hA hX hl
  have hown : s.vm.findClass RX11 = some m.cls := hown
  have hl : lv_has ls 3 [(0, .ref h0), (1, .int p0), (2, .int p1)] := hl
  refine lv_aload_n hx hb dX11_door_0 rfl (lv_at hl 0 rfl) ?_
  refine va_get (ci := 11) (v := .ref t0) (C := RX11) (T := TX11) (N := 11) hx hb hts in_X11_door_X11 hown hK hP 0 rfl rfl 10 (by decide) (hts (.fieldLink RX11 77 "HallTables" "town" "LHallTables$Town;") (List.mem_of_getElem? (i := 1) rfl)) (fun _ h9 => h9) e2 dX11_door_1 ?_
  refine lv_iload_n hx hb dX11_door_4 rfl (lv_at hl 1 rfl) ?_
  refine cVi (As := [.int p0]) (rest := []) (wr := [(h0, .inr (11, fs))]) ⟨hx, hb, hml, hown, hts⟩ (c_X7_isHouse l D cy t0 ft p0 e_isHouse) (cwV 1 hts gX11_door_X7_isHouse rfl rfl rfl (by decide +kernel) ⟨Nat.le_of_ble_eq_true rfl, Nat.le_of_ble_eq_true rfl⟩) hK hP hD hS hA [1] [0] ⟨rfl, rfl, by decide +kernel, by decide +kernel, by decide +kernel⟩ 0 7 rfl rfl myX_T rfl hl.1 rfl (Nat.le_of_ble_eq_true rfl) dX11_door_5 ⟨Nat.le_of_ble_eq_true rfl, Nat.le_of_ble_eq_true rfl⟩ (fun r_1 w_2 H locs hw hP hD hS => ?_)
  obtain ⟨rfl, rfl⟩ := hw
  have hP : va_P D vwCl [(h0, .inr (11, fs)), (t0, .inr (7, ft))] H := hP
  have hD : va_D A [(h0, .inr (11, fs)), (t0, .inr (7, ft))] := hD
  refine lv_if_eq (tgt := 27) hx hb dX11_door_8 (by decide) (fun _ => ?_) (fun c9 => absurd (by decide) c9)
  refine lv_iconst (v := (-1)) hx hb dX11_door_27 (by decide) ?_
  have hP := hP.sub (ws' := []) [] rfl
  have hD := hD.sub (ws' := []) [] (by decide +kernel) rfl
  exact endI hx hb hr hlocks [] rfl ⟨rfl, rfl⟩ hP hD hS (Nat.le_of_ble_eq_true rfl) (Nat.le_of_ble_eq_true rfl) dX11_door_28

theorem in_X11_worth_X11 : ∀ w ∈ u_ws RX11 TX11 11, w ∈ wsX11_worth := fun w h => (List.mem_cons_of_mem _ (List.mem_append_right _ h))
set_option maxRecDepth 100000 in
set_option maxHeartbeats 4000000 in
/-- worth on a new object: (-1) -/
theorem c_X11_worth (l : Launch) (D : va_G) (cy : Nat → ClassId) (h0 : Nat) (fs : List Value) (t0 : Nat) (ft : List Value) (p0 : Int32) (p1 : Int32) (e2 : fs[10]? = some (.ref t0)) (e_isSort : ft[0]? = some (.int 0)) : Cti l D cy yX11_worth wsX11_worth ({ frames := 1, cells := 0, slots := 0, locals := 21 } : Room) [.ref h0, .int p0, .int p1] [(h0, .inr (11, fs)), (t0, .inr (7, ft))] myT (fun (r : Int32) (w : va_W) => r = (-1) ∧ w = []) := by
  refine ofI (cc := cX11_worth) (maxL := 3) (ret := (some .int)) (by decide) rfl (Nat.le_of_ble_eq_true rfl) ?_
  intro p e s m args below meth c A ls hx hb hr hts hown hlocks hml hin hK hP hD hS hA hX hl
  have hown : s.vm.findClass RX11 = some m.cls := hown
  have hl : lv_has ls 3 [(0, .ref h0), (1, .int p0), (2, .int p1)] := hl
  refine lv_aload_n hx hb dX11_worth_0 rfl (lv_at hl 0 rfl) ?_
  refine va_get (ci := 11) (v := .ref t0) (C := RX11) (T := TX11) (N := 11) hx hb hts in_X11_worth_X11 hown hK hP 0 rfl rfl 10 (by decide) (hts (.fieldLink RX11 77 "HallTables" "town" "LHallTables$Town;") (List.mem_of_getElem? (i := 1) rfl)) (fun _ h9 => h9) e2 dX11_worth_1 ?_
  refine lv_iload_n hx hb dX11_worth_4 rfl (lv_at hl 2 rfl) ?_
  refine cVi (As := [.int p1]) (rest := []) (wr := [(h0, .inr (11, fs))]) ⟨hx, hb, hml, hown, hts⟩ (c_X7_isSort l D cy t0 ft p1 e_isSort) (cwV 1 hts gX11_worth_X7_isSort rfl rfl rfl (by decide +kernel) ⟨Nat.le_of_ble_eq_true rfl, Nat.le_of_ble_eq_true rfl⟩) hK hP hD hS hA [1] [0] ⟨rfl, rfl, by decide +kernel, by decide +kernel, by decide +kernel⟩ 0 7 rfl rfl myX_T rfl hl.1 rfl (Nat.le_of_ble_eq_true rfl) dX11_worth_5 ⟨Nat.le_of_ble_eq_true rfl, Nat.le_of_ble_eq_true rfl⟩ (fun r_1 w_2 H locs hw hP hD hS => ?_)
  obtain ⟨rfl, rfl⟩ := hw
  have hP : va_P D vwCl [(h0, .inr (11, fs)), (t0, .inr (7, ft))] H := hP
  have hD : va_D A [(h0, .inr (11, fs)), (t0, .inr (7, ft))] := hD
  refine lv_if_eq (tgt := 27) hx hb dX11_worth_8 (by decide) (fun _ => ?_) (fun c9 => absurd (by decide) c9)
  refine lv_iconst (v := (-1)) hx hb dX11_worth_27 (by decide) ?_
  have hP := hP.sub (ws' := []) [] rfl
  have hD := hD.sub (ws' := []) [] (by decide +kernel) rfl
  exact endI hx hb hr hlocks [] rfl ⟨rfl, rfl⟩ hP hD hS (Nat.le_of_ble_eq_true rfl) (Nat.le_of_ble_eq_true rfl) dX11_worth_28

theorem in_X11_table_X11 : ∀ w ∈ u_ws RX11 TX11 11, w ∈ wsX11_table := fun w h => (List.mem_cons_of_mem _ (List.mem_append_right _ h))
set_option maxRecDepth 100000 in
set_option maxHeartbeats 4000000 in
/-- table on a new object: (-1) -/
theorem c_X11_table (l : Launch) (D : va_G) (cy : Nat → ClassId) (h0 : Nat) (fs : List Value) (t0 : Nat) (ft : List Value) (p0 : Int32) (p1 : Int32) (e2 : fs[10]? = some (.ref t0)) (e_isHouse : ft[1]? = some (.int 0)) : Cti l D cy yX11_table wsX11_table ({ frames := 1, cells := 0, slots := 0, locals := 21 } : Room) [.ref h0, .int p0, .int p1] [(h0, .inr (11, fs)), (t0, .inr (7, ft))] myT (fun (r : Int32) (w : va_W) => r = (-1) ∧ w = []) := by
  refine ofI (cc := cX11_table) (maxL := 3) (ret := (some .int)) (by decide) rfl (Nat.le_of_ble_eq_true rfl) ?_
  intro p e s m args below meth c A ls hx hb hr hts hown hlocks hml hin hK hP hD hS hA hX hl
  have hown : s.vm.findClass RX11 = some m.cls := hown
  have hl : lv_has ls 3 [(0, .ref h0), (1, .int p0), (2, .int p1)] := hl
  refine lv_aload_n hx hb dX11_table_0 rfl (lv_at hl 0 rfl) ?_
  refine va_get (ci := 11) (v := .ref t0) (C := RX11) (T := TX11) (N := 11) hx hb hts in_X11_table_X11 hown hK hP 0 rfl rfl 10 (by decide) (hts (.fieldLink RX11 77 "HallTables" "town" "LHallTables$Town;") (List.mem_of_getElem? (i := 1) rfl)) (fun _ h9 => h9) e2 dX11_table_1 ?_
  refine lv_iload_n hx hb dX11_table_4 rfl (lv_at hl 1 rfl) ?_
  refine cVi (As := [.int p0]) (rest := []) (wr := [(h0, .inr (11, fs))]) ⟨hx, hb, hml, hown, hts⟩ (c_X7_isHouse l D cy t0 ft p0 e_isHouse) (cwV 1 hts gX11_table_X7_isHouse rfl rfl rfl (by decide +kernel) ⟨Nat.le_of_ble_eq_true rfl, Nat.le_of_ble_eq_true rfl⟩) hK hP hD hS hA [1] [0] ⟨rfl, rfl, by decide +kernel, by decide +kernel, by decide +kernel⟩ 0 7 rfl rfl myX_T rfl hl.1 rfl (Nat.le_of_ble_eq_true rfl) dX11_table_5 ⟨Nat.le_of_ble_eq_true rfl, Nat.le_of_ble_eq_true rfl⟩ (fun r_1 w_2 H locs hw hP hD hS => ?_)
  obtain ⟨rfl, rfl⟩ := hw
  have hP : va_P D vwCl [(h0, .inr (11, fs)), (t0, .inr (7, ft))] H := hP
  have hD : va_D A [(h0, .inr (11, fs)), (t0, .inr (7, ft))] := hD
  refine lv_if_eq (tgt := 22) hx hb dX11_table_8 (by decide) (fun _ => ?_) (fun c9 => absurd (by decide) c9)
  refine lv_iconst (v := (-1)) hx hb dX11_table_22 (by decide) ?_
  have hP := hP.sub (ws' := []) [] rfl
  have hD := hD.sub (ws' := []) [] (by decide +kernel) rfl
  exact endI hx hb hr hlocks [] rfl ⟨rfl, rfl⟩ hP hD hS (Nat.le_of_ble_eq_true rfl) (Nat.le_of_ble_eq_true rfl) dX11_table_23

theorem in_X11_man_X11 : ∀ w ∈ u_ws RX11 TX11 11, w ∈ wsX11_man := fun w h => (List.mem_cons_of_mem _ (List.mem_append_right _ h))
set_option maxRecDepth 100000 in
set_option maxHeartbeats 4000000 in
/-- man on a new object: (-1) -/
theorem c_X11_man (l : Launch) (D : va_G) (cy : Nat → ClassId) (h0 : Nat) (fs : List Value) (t0 : Nat) (ft : List Value) (p0 : Int32) (p1 : Int32) (e2 : fs[10]? = some (.ref t0)) (e_isMan : ft[3]? = some (.int 0)) : Cti l D cy yX11_man wsX11_man ({ frames := 1, cells := 0, slots := 0, locals := 21 } : Room) [.ref h0, .int p0, .int p1] [(h0, .inr (11, fs)), (t0, .inr (7, ft))] myT (fun (r : Int32) (w : va_W) => r = (-1) ∧ w = []) := by
  refine ofI (cc := cX11_man) (maxL := 3) (ret := (some .int)) (by decide) rfl (Nat.le_of_ble_eq_true rfl) ?_
  intro p e s m args below meth c A ls hx hb hr hts hown hlocks hml hin hK hP hD hS hA hX hl
  have hown : s.vm.findClass RX11 = some m.cls := hown
  have hl : lv_has ls 3 [(0, .ref h0), (1, .int p0), (2, .int p1)] := hl
  refine lv_aload_n hx hb dX11_man_0 rfl (lv_at hl 0 rfl) ?_
  refine va_get (ci := 11) (v := .ref t0) (C := RX11) (T := TX11) (N := 11) hx hb hts in_X11_man_X11 hown hK hP 0 rfl rfl 10 (by decide) (hts (.fieldLink RX11 77 "HallTables" "town" "LHallTables$Town;") (List.mem_of_getElem? (i := 1) rfl)) (fun _ h9 => h9) e2 dX11_man_1 ?_
  refine lv_iload_n hx hb dX11_man_4 rfl (lv_at hl 1 rfl) ?_
  refine cVi (As := [.int p0]) (rest := []) (wr := [(h0, .inr (11, fs))]) ⟨hx, hb, hml, hown, hts⟩ (c_X7_isMan l D cy t0 ft p0 e_isMan) (cwV 1 hts gX11_man_X7_isMan rfl rfl rfl (by decide +kernel) ⟨Nat.le_of_ble_eq_true rfl, Nat.le_of_ble_eq_true rfl⟩) hK hP hD hS hA [1] [0] ⟨rfl, rfl, by decide +kernel, by decide +kernel, by decide +kernel⟩ 0 7 rfl rfl myX_T rfl hl.1 rfl (Nat.le_of_ble_eq_true rfl) dX11_man_5 ⟨Nat.le_of_ble_eq_true rfl, Nat.le_of_ble_eq_true rfl⟩ (fun r_1 w_2 H locs hw hP hD hS => ?_)
  obtain ⟨rfl, rfl⟩ := hw
  have hP : va_P D vwCl [(h0, .inr (11, fs)), (t0, .inr (7, ft))] H := hP
  have hD : va_D A [(h0, .inr (11, fs)), (t0, .inr (7, ft))] := hD
  refine lv_if_ne (tgt := 13) hx hb dX11_man_8 (by decide) (fun c9 => absurd (by decide) c9) (fun _ => ?_)
  refine lv_iconst (v := (-1)) hx hb dX11_man_11 (by decide) ?_
  have hP := hP.sub (ws' := []) [] rfl
  have hD := hD.sub (ws' := []) [] (by decide +kernel) rfl
  exact endI hx hb hr hlocks [] rfl ⟨rfl, rfl⟩ hP hD hS (Nat.le_of_ble_eq_true rfl) (Nat.le_of_ble_eq_true rfl) dX11_man_12

theorem in_X11_has_X11 : ∀ w ∈ u_ws RX11 TX11 11, w ∈ wsX11_has := fun w h => (List.mem_cons_of_mem _ (List.mem_append_right _ h))
set_option maxRecDepth 100000 in
set_option maxHeartbeats 4000000 in
/-- has on a new object: (-1) -/
theorem c_X11_has (l : Launch) (D : va_G) (cy : Nat → ClassId) (h0 : Nat) (fs : List Value) (t0 : Nat) (ft : List Value) (p0 : Int32) (p1 : Int32) (e2 : fs[10]? = some (.ref t0)) (e_isMan : ft[3]? = some (.int 0)) : Cti l D cy yX11_has wsX11_has ({ frames := 1, cells := 0, slots := 0, locals := 21 } : Room) [.ref h0, .int p0, .int p1] [(h0, .inr (11, fs)), (t0, .inr (7, ft))] myT (fun (r : Int32) (w : va_W) => r = (-1) ∧ w = []) := by
  refine ofI (cc := cX11_has) (maxL := 3) (ret := (some .int)) (by decide) rfl (Nat.le_of_ble_eq_true rfl) ?_
  intro p e s m args below meth c A ls hx hb hr hts hown hlocks hml hin hK hP hD hS hA hX hl
  have hown : s.vm.findClass RX11 = some m.cls := hown
  have hl : lv_has ls 3 [(0, .ref h0), (1, .int p0), (2, .int p1)] := hl
  refine lv_aload_n hx hb dX11_has_0 rfl (lv_at hl 0 rfl) ?_
  refine va_get (ci := 11) (v := .ref t0) (C := RX11) (T := TX11) (N := 11) hx hb hts in_X11_has_X11 hown hK hP 0 rfl rfl 10 (by decide) (hts (.fieldLink RX11 77 "HallTables" "town" "LHallTables$Town;") (List.mem_of_getElem? (i := 1) rfl)) (fun _ h9 => h9) e2 dX11_has_1 ?_
  refine lv_iload_n hx hb dX11_has_4 rfl (lv_at hl 1 rfl) ?_
  refine cVi (As := [.int p0]) (rest := []) (wr := [(h0, .inr (11, fs))]) ⟨hx, hb, hml, hown, hts⟩ (c_X7_isMan l D cy t0 ft p0 e_isMan) (cwV 1 hts gX11_has_X7_isMan rfl rfl rfl (by decide +kernel) ⟨Nat.le_of_ble_eq_true rfl, Nat.le_of_ble_eq_true rfl⟩) hK hP hD hS hA [1] [0] ⟨rfl, rfl, by decide +kernel, by decide +kernel, by decide +kernel⟩ 0 7 rfl rfl myX_T rfl hl.1 rfl (Nat.le_of_ble_eq_true rfl) dX11_has_5 ⟨Nat.le_of_ble_eq_true rfl, Nat.le_of_ble_eq_true rfl⟩ (fun r_1 w_2 H locs hw hP hD hS => ?_)
  obtain ⟨rfl, rfl⟩ := hw
  have hP : va_P D vwCl [(h0, .inr (11, fs)), (t0, .inr (7, ft))] H := hP
  have hD : va_D A [(h0, .inr (11, fs)), (t0, .inr (7, ft))] := hD
  refine lv_if_eq (tgt := 22) hx hb dX11_has_8 (by decide) (fun _ => ?_) (fun c9 => absurd (by decide) c9)
  refine lv_iconst (v := (-1)) hx hb dX11_has_22 (by decide) ?_
  have hP := hP.sub (ws' := []) [] rfl
  have hD := hD.sub (ws' := []) [] (by decide +kernel) rfl
  exact endI hx hb hr hlocks [] rfl ⟨rfl, rfl⟩ hP hD hS (Nat.le_of_ble_eq_true rfl) (Nat.le_of_ble_eq_true rfl) dX11_has_23

theorem in_X11_may_X11 : ∀ w ∈ u_ws RX11 TX11 11, w ∈ wsX11_may := fun w h => (List.mem_cons_of_mem _ (List.mem_append_right _ h))
set_option maxRecDepth 100000 in
set_option maxHeartbeats 4000000 in
/-- may on a new object: (-1) -/
theorem c_X11_may (l : Launch) (D : va_G) (cy : Nat → ClassId) (h0 : Nat) (fs : List Value) (t0 : Nat) (ft : List Value) (p0 : Int32) (p1 : Int32) (p2 : Int32) (e2 : fs[10]? = some (.ref t0)) (e_isMan : ft[3]? = some (.int 0)) : Cti l D cy yX11_may wsX11_may ({ frames := 1, cells := 0, slots := 0, locals := 21 } : Room) [.ref h0, .int p0, .int p1, .int p2] [(h0, .inr (11, fs)), (t0, .inr (7, ft))] myT (fun (r : Int32) (w : va_W) => r = (-1) ∧ w = []) := by
  refine ofI (cc := cX11_may) (maxL := 4) (ret := (some .int)) (by decide) rfl (Nat.le_of_ble_eq_true rfl) ?_
  intro p e s m args below meth c A ls hx hb hr hts hown hlocks hml hin hK hP hD hS hA hX hl
  have hown : s.vm.findClass RX11 = some m.cls := hown
  have hl : lv_has ls 4 [(0, .ref h0), (1, .int p0), (2, .int p1), (3, .int p2)] := hl
  refine lv_aload_n hx hb dX11_may_0 rfl (lv_at hl 0 rfl) ?_
  refine va_get (ci := 11) (v := .ref t0) (C := RX11) (T := TX11) (N := 11) hx hb hts in_X11_may_X11 hown hK hP 0 rfl rfl 10 (by decide) (hts (.fieldLink RX11 77 "HallTables" "town" "LHallTables$Town;") (List.mem_of_getElem? (i := 1) rfl)) (fun _ h9 => h9) e2 dX11_may_1 ?_
  refine lv_iload_n hx hb dX11_may_4 rfl (lv_at hl 1 rfl) ?_
  refine cVi (As := [.int p0]) (rest := []) (wr := [(h0, .inr (11, fs))]) ⟨hx, hb, hml, hown, hts⟩ (c_X7_isMan l D cy t0 ft p0 e_isMan) (cwV 1 hts gX11_may_X7_isMan rfl rfl rfl (by decide +kernel) ⟨Nat.le_of_ble_eq_true rfl, Nat.le_of_ble_eq_true rfl⟩) hK hP hD hS hA [1] [0] ⟨rfl, rfl, by decide +kernel, by decide +kernel, by decide +kernel⟩ 0 7 rfl rfl myX_T rfl hl.1 rfl (Nat.le_of_ble_eq_true rfl) dX11_may_5 ⟨Nat.le_of_ble_eq_true rfl, Nat.le_of_ble_eq_true rfl⟩ (fun r_1 w_2 H locs hw hP hD hS => ?_)
  obtain ⟨rfl, rfl⟩ := hw
  have hP : va_P D vwCl [(h0, .inr (11, fs)), (t0, .inr (7, ft))] H := hP
  have hD : va_D A [(h0, .inr (11, fs)), (t0, .inr (7, ft))] := hD
  refine lv_if_eq (tgt := 46) hx hb dX11_may_8 (by decide) (fun _ => ?_) (fun c9 => absurd (by decide) c9)
  refine lv_iconst (v := (-1)) hx hb dX11_may_46 (by decide) ?_
  have hP := hP.sub (ws' := []) [] rfl
  have hD := hD.sub (ws' := []) [] (by decide +kernel) rfl
  exact endI hx hb hr hlocks [] rfl ⟨rfl, rfl⟩ hP hD hS (Nat.le_of_ble_eq_true rfl) (Nat.le_of_ble_eq_true rfl) dX11_may_47

theorem in_X11_go_X11 : ∀ w ∈ u_ws RX11 TX11 11, w ∈ wsX11_go := fun w h => (List.mem_cons_of_mem _ (List.mem_append_right _ h))
set_option maxRecDepth 100000 in
set_option maxHeartbeats 4000000 in
/-- go on a new object: (-1) -/
theorem c_X11_go (l : Launch) (D : va_G) (cy : Nat → ClassId) (h0 : Nat) (fs : List Value) (t0 : Nat) (ft : List Value) (p0 : Int32) (p1 : Int32) (p2 : Int32) (e2 : fs[10]? = some (.ref t0)) (e_isMan : ft[3]? = some (.int 0)) : Cti l D cy yX11_go wsX11_go ({ frames := 1, cells := 0, slots := 0, locals := 21 } : Room) [.ref h0, .int p0, .int p1, .int p2] [(h0, .inr (11, fs)), (t0, .inr (7, ft))] myT (fun (r : Int32) (w : va_W) => r = (-1) ∧ w = []) := by
  refine ofI (cc := cX11_go) (maxL := 7) (ret := (some .int)) (by decide) rfl (Nat.le_of_ble_eq_true rfl) ?_
  intro p e s m args below meth c A ls hx hb hr hts hown hlocks hml hin hK hP hD hS hA hX hl
  have hown : s.vm.findClass RX11 = some m.cls := hown
  have hl : lv_has ls 7 [(0, .ref h0), (1, .int p0), (2, .int p1), (3, .int p2)] := hl
  refine lv_aload_n hx hb dX11_go_0 rfl (lv_at hl 0 rfl) ?_
  refine va_get (ci := 11) (v := .ref t0) (C := RX11) (T := TX11) (N := 11) hx hb hts in_X11_go_X11 hown hK hP 0 rfl rfl 10 (by decide) (hts (.fieldLink RX11 77 "HallTables" "town" "LHallTables$Town;") (List.mem_of_getElem? (i := 1) rfl)) (fun _ h9 => h9) e2 dX11_go_1 ?_
  refine lv_iload_n hx hb dX11_go_4 rfl (lv_at hl 1 rfl) ?_
  refine cVi (As := [.int p0]) (rest := []) (wr := [(h0, .inr (11, fs))]) ⟨hx, hb, hml, hown, hts⟩ (c_X7_isMan l D cy t0 ft p0 e_isMan) (cwV 1 hts gX11_go_X7_isMan rfl rfl rfl (by decide +kernel) ⟨Nat.le_of_ble_eq_true rfl, Nat.le_of_ble_eq_true rfl⟩) hK hP hD hS hA [1] [0] ⟨rfl, rfl, by decide +kernel, by decide +kernel, by decide +kernel⟩ 0 7 rfl rfl myX_T rfl hl.1 rfl (Nat.le_of_ble_eq_true rfl) dX11_go_5 ⟨Nat.le_of_ble_eq_true rfl, Nat.le_of_ble_eq_true rfl⟩ (fun r_1 w_2 H locs hw hP hD hS => ?_)
  obtain ⟨rfl, rfl⟩ := hw
  have hP : va_P D vwCl [(h0, .inr (11, fs)), (t0, .inr (7, ft))] H := hP
  have hD : va_D A [(h0, .inr (11, fs)), (t0, .inr (7, ft))] := hD
  refine lv_if_eq (tgt := 38) hx hb dX11_go_8 (by decide) (fun _ => ?_) (fun c9 => absurd (by decide) c9)
  refine lv_iconst (v := (-1)) hx hb dX11_go_38 (by decide) ?_
  have hP := hP.sub (ws' := []) [] rfl
  have hD := hD.sub (ws' := []) [] (by decide +kernel) rfl
  exact endI hx hb hr hlocks [] rfl ⟨rfl, rfl⟩ hP hD hS (Nat.le_of_ble_eq_true rfl) (Nat.le_of_ble_eq_true rfl) dX11_go_39

theorem in_X11_buy_X11 : ∀ w ∈ u_ws RX11 TX11 11, w ∈ wsX11_buy := fun w h => (List.mem_cons_of_mem _ (List.mem_append_right _ h))
set_option maxRecDepth 100000 in
set_option maxHeartbeats 4000000 in
/-- buy on a new object: (-1) -/
theorem c_X11_buy (l : Launch) (D : va_G) (cy : Nat → ClassId) (h0 : Nat) (fs : List Value) (t0 : Nat) (ft : List Value) (p0 : Int32) (p1 : Int32) (e2 : fs[10]? = some (.ref t0)) (e_isMan : ft[3]? = some (.int 0)) : Cti l D cy yX11_buy wsX11_buy ({ frames := 1, cells := 0, slots := 0, locals := 21 } : Room) [.ref h0, .int p0, .int p1] [(h0, .inr (11, fs)), (t0, .inr (7, ft))] myT (fun (r : Int32) (w : va_W) => r = (-1) ∧ w = []) := by
  refine ofI (cc := cX11_buy) (maxL := 3) (ret := (some .int)) (by decide) rfl (Nat.le_of_ble_eq_true rfl) ?_
  intro p e s m args below meth c A ls hx hb hr hts hown hlocks hml hin hK hP hD hS hA hX hl
  have hown : s.vm.findClass RX11 = some m.cls := hown
  have hl : lv_has ls 3 [(0, .ref h0), (1, .int p0), (2, .int p1)] := hl
  refine lv_aload_n hx hb dX11_buy_0 rfl (lv_at hl 0 rfl) ?_
  refine va_get (ci := 11) (v := .ref t0) (C := RX11) (T := TX11) (N := 11) hx hb hts in_X11_buy_X11 hown hK hP 0 rfl rfl 10 (by decide) (hts (.fieldLink RX11 77 "HallTables" "town" "LHallTables$Town;") (List.mem_of_getElem? (i := 1) rfl)) (fun _ h9 => h9) e2 dX11_buy_1 ?_
  refine lv_iload_n hx hb dX11_buy_4 rfl (lv_at hl 1 rfl) ?_
  refine cVi (As := [.int p0]) (rest := []) (wr := [(h0, .inr (11, fs))]) ⟨hx, hb, hml, hown, hts⟩ (c_X7_isMan l D cy t0 ft p0 e_isMan) (cwV 1 hts gX11_buy_X7_isMan rfl rfl rfl (by decide +kernel) ⟨Nat.le_of_ble_eq_true rfl, Nat.le_of_ble_eq_true rfl⟩) hK hP hD hS hA [1] [0] ⟨rfl, rfl, by decide +kernel, by decide +kernel, by decide +kernel⟩ 0 7 rfl rfl myX_T rfl hl.1 rfl (Nat.le_of_ble_eq_true rfl) dX11_buy_5 ⟨Nat.le_of_ble_eq_true rfl, Nat.le_of_ble_eq_true rfl⟩ (fun r_1 w_2 H locs hw hP hD hS => ?_)
  obtain ⟨rfl, rfl⟩ := hw
  have hP : va_P D vwCl [(h0, .inr (11, fs)), (t0, .inr (7, ft))] H := hP
  have hD : va_D A [(h0, .inr (11, fs)), (t0, .inr (7, ft))] := hD
  refine lv_if_eq (tgt := 22) hx hb dX11_buy_8 (by decide) (fun _ => ?_) (fun c9 => absurd (by decide) c9)
  refine lv_iconst (v := (-1)) hx hb dX11_buy_22 (by decide) ?_
  have hP := hP.sub (ws' := []) [] rfl
  have hD := hD.sub (ws' := []) [] (by decide +kernel) rfl
  exact endI hx hb hr hlocks [] rfl ⟨rfl, rfl⟩ hP hD hS (Nat.le_of_ble_eq_true rfl) (Nat.le_of_ble_eq_true rfl) dX11_buy_23

set_option maxRecDepth 100000 in
set_option maxHeartbeats 4000000 in
/-- way on a new object: (-1) -/
theorem c_X11_way (l : Launch) (D : va_G) (cy : Nat → ClassId) (h0 : Nat) (fs : List Value) (t0 : Nat) (ft : List Value) (p0 : Int32) (p1 : Int32) (p2 : Int32) (p3 : Int32) (p4 : Int32) (e2 : fs[10]? = some (.ref t0)) (e_isMan : ft[3]? = some (.int 0)) : Cti l D cy yX11_way wsX11_way ({ frames := 2, cells := 0, slots := 0, locals := 45 } : Room) [.ref h0, .int p0, .int p1, .int p2, .int p3, .int p4] [(h0, .inr (11, fs)), (t0, .inr (7, ft))] myT (fun (r : Int32) (w : va_W) => r = (-1) ∧ w = []) := by
  refine ofI (cc := cX11_way) (maxL := 6) (ret := (some .int)) (by decide) rfl (Nat.le_of_ble_eq_true rfl) ?_
  intro p e s m args below meth c A ls hx hb hr hts hown hlocks hml hin hK hP hD hS hA hX hl
  have hown : s.vm.findClass RX11 = some m.cls := hown
  have hl : lv_has ls 6 [(0, .ref h0), (1, .int p0), (2, .int p1), (3, .int p2), (4, .int p3), (5, .int p4)] := hl
  refine lv_aload_n hx hb dX11_way_0 rfl (lv_at hl 0 rfl) ?_
  refine lv_iload_n hx hb dX11_way_1 rfl (lv_at hl 1 rfl) ?_
  refine lv_iload_n hx hb dX11_way_2 rfl (lv_at hl 2 rfl) ?_
  refine lv_iload_n hx hb dX11_way_3 rfl (lv_at hl 3 rfl) ?_
  refine lv_iload hx hb dX11_way_4 (lv_at hl 4 rfl) ?_
  refine cVi (As := [.int p0, .int p1, .int p2, .int p3]) (rest := []) (wr := []) ⟨hx, hb, hml, hown, hts⟩ (c_X11_isWay l D cy h0 fs t0 ft p0 p1 p2 p3 e2 e_isMan) (cwV 4 hts gX11_way_X11_isWay rfl rfl rfl (by decide +kernel) ⟨Nat.le_of_ble_eq_true rfl, Nat.le_of_ble_eq_true rfl⟩) hK hP hD hS hA [0, 1] [] ⟨rfl, rfl, by decide +kernel, by decide +kernel, by decide +kernel⟩ 0 11 rfl rfl myX_T rfl hl.1 rfl (Nat.le_of_ble_eq_true rfl) dX11_way_6 ⟨Nat.le_of_ble_eq_true rfl, Nat.le_of_ble_eq_true rfl⟩ (fun r_1 w_2 H locs hw hP hD hS => ?_)
  obtain ⟨rfl, rfl⟩ := hw
  have hP : va_P D vwCl [(h0, .inr (11, fs)), (t0, .inr (7, ft))] H := hP
  have hD : va_D A [(h0, .inr (11, fs)), (t0, .inr (7, ft))] := hD
  refine lv_if_eq (tgt := 23) hx hb dX11_way_9 (by decide) (fun _ => ?_) (fun c9 => absurd (by decide) c9)
  refine lv_iconst (v := (-1)) hx hb dX11_way_23 (by decide) ?_
  have hP := hP.sub (ws' := []) [] rfl
  have hD := hD.sub (ws' := []) [] (by decide +kernel) rfl
  exact endI hx hb hr hlocks [] rfl ⟨rfl, rfl⟩ hP hD hS (Nat.le_of_ble_eq_true rfl) (Nat.le_of_ble_eq_true rfl) dX11_way_24

set_option maxRecDepth 100000 in
set_option maxHeartbeats 4000000 in
/-- step on a new object: (-1) -/
theorem c_X11_step (l : Launch) (D : va_G) (cy : Nat → ClassId) (h0 : Nat) (fs : List Value) (t0 : Nat) (ft : List Value) (p0 : Int32) (p1 : Int32) (p2 : Int32) (p3 : Int32) (p4 : Int32) (e2 : fs[10]? = some (.ref t0)) (e_isMan : ft[3]? = some (.int 0)) : Cti l D cy yX11_step wsX11_step ({ frames := 2, cells := 0, slots := 0, locals := 45 } : Room) [.ref h0, .int p0, .int p1, .int p2, .int p3, .int p4] [(h0, .inr (11, fs)), (t0, .inr (7, ft))] myT (fun (r : Int32) (w : va_W) => r = (-1) ∧ w = []) := by
  refine ofI (cc := cX11_step) (maxL := 6) (ret := (some .int)) (by decide) rfl (Nat.le_of_ble_eq_true rfl) ?_
  intro p e s m args below meth c A ls hx hb hr hts hown hlocks hml hin hK hP hD hS hA hX hl
  have hown : s.vm.findClass RX11 = some m.cls := hown
  have hl : lv_has ls 6 [(0, .ref h0), (1, .int p0), (2, .int p1), (3, .int p2), (4, .int p3), (5, .int p4)] := hl
  refine lv_aload_n hx hb dX11_step_0 rfl (lv_at hl 0 rfl) ?_
  refine lv_iload_n hx hb dX11_step_1 rfl (lv_at hl 1 rfl) ?_
  refine lv_iload_n hx hb dX11_step_2 rfl (lv_at hl 2 rfl) ?_
  refine lv_iload_n hx hb dX11_step_3 rfl (lv_at hl 3 rfl) ?_
  refine lv_iload hx hb dX11_step_4 (lv_at hl 4 rfl) ?_
  refine cVi (As := [.int p0, .int p1, .int p2, .int p3]) (rest := []) (wr := []) ⟨hx, hb, hml, hown, hts⟩ (c_X11_isWay l D cy h0 fs t0 ft p0 p1 p2 p3 e2 e_isMan) (cwV 4 hts gX11_step_X11_isWay rfl rfl rfl (by decide +kernel) ⟨Nat.le_of_ble_eq_true rfl, Nat.le_of_ble_eq_true rfl⟩) hK hP hD hS hA [0, 1] [] ⟨rfl, rfl, by decide +kernel, by decide +kernel, by decide +kernel⟩ 0 11 rfl rfl myX_T rfl hl.1 rfl (Nat.le_of_ble_eq_true rfl) dX11_step_6 ⟨Nat.le_of_ble_eq_true rfl, Nat.le_of_ble_eq_true rfl⟩ (fun r_1 w_2 H locs hw hP hD hS => ?_)
  obtain ⟨rfl, rfl⟩ := hw
  have hP : va_P D vwCl [(h0, .inr (11, fs)), (t0, .inr (7, ft))] H := hP
  have hD : va_D A [(h0, .inr (11, fs)), (t0, .inr (7, ft))] := hD
  refine lv_if_eq (tgt := 17) hx hb dX11_step_9 (by decide) (fun _ => ?_) (fun c9 => absurd (by decide) c9)
  refine lv_iconst (v := (-1)) hx hb dX11_step_17 (by decide) ?_
  have hP := hP.sub (ws' := []) [] rfl
  have hD := hD.sub (ws' := []) [] (by decide +kernel) rfl
  exact endI hx hb hr hlocks [] rfl ⟨rfl, rfl⟩ hP hD hS (Nat.le_of_ble_eq_true rfl) (Nat.le_of_ble_eq_true rfl) dX11_step_18

theorem in_X11_rid_X11 : ∀ w ∈ u_ws RX11 TX11 11, w ∈ wsX11_rid := fun w h => (List.mem_cons_of_mem _ (List.mem_append_right _ h))
set_option maxRecDepth 100000 in
set_option maxHeartbeats 4000000 in
/-- rid on a new object: (-1) -/
theorem c_X11_rid (l : Launch) (D : va_G) (cy : Nat → ClassId) (h0 : Nat) (fs : List Value) (t0 : Nat) (ft : List Value) (p0 : Int32) (p1 : Int32) (p2 : Int32) (p3 : Int32) (e2 : fs[10]? = some (.ref t0)) (e_isMan : ft[3]? = some (.int 0)) : Cti l D cy yX11_rid wsX11_rid ({ frames := 1, cells := 0, slots := 0, locals := 21 } : Room) [.ref h0, .int p0, .int p1, .int p2, .int p3] [(h0, .inr (11, fs)), (t0, .inr (7, ft))] myT (fun (r : Int32) (w : va_W) => r = (-1) ∧ w = []) := by
  refine ofI (cc := cX11_rid) (maxL := 5) (ret := (some .int)) (by decide) rfl (Nat.le_of_ble_eq_true rfl) ?_
  intro p e s m args below meth c A ls hx hb hr hts hown hlocks hml hin hK hP hD hS hA hX hl
  have hown : s.vm.findClass RX11 = some m.cls := hown
  have hl : lv_has ls 5 [(0, .ref h0), (1, .int p0), (2, .int p1), (3, .int p2), (4, .int p3)] := hl
  refine lv_aload_n hx hb dX11_rid_0 rfl (lv_at hl 0 rfl) ?_
  refine va_get (ci := 11) (v := .ref t0) (C := RX11) (T := TX11) (N := 11) hx hb hts in_X11_rid_X11 hown hK hP 0 rfl rfl 10 (by decide) (hts (.fieldLink RX11 77 "HallTables" "town" "LHallTables$Town;") (List.mem_of_getElem? (i := 1) rfl)) (fun _ h9 => h9) e2 dX11_rid_1 ?_
  refine lv_iload_n hx hb dX11_rid_4 rfl (lv_at hl 1 rfl) ?_
  refine cVi (As := [.int p0]) (rest := []) (wr := [(h0, .inr (11, fs))]) ⟨hx, hb, hml, hown, hts⟩ (c_X7_isMan l D cy t0 ft p0 e_isMan) (cwV 1 hts gX11_rid_X7_isMan rfl rfl rfl (by decide +kernel) ⟨Nat.le_of_ble_eq_true rfl, Nat.le_of_ble_eq_true rfl⟩) hK hP hD hS hA [1] [0] ⟨rfl, rfl, by decide +kernel, by decide +kernel, by decide +kernel⟩ 0 7 rfl rfl myX_T rfl hl.1 rfl (Nat.le_of_ble_eq_true rfl) dX11_rid_5 ⟨Nat.le_of_ble_eq_true rfl, Nat.le_of_ble_eq_true rfl⟩ (fun r_1 w_2 H locs hw hP hD hS => ?_)
  obtain ⟨rfl, rfl⟩ := hw
  have hP : va_P D vwCl [(h0, .inr (11, fs)), (t0, .inr (7, ft))] H := hP
  have hD : va_D A [(h0, .inr (11, fs)), (t0, .inr (7, ft))] := hD
  refine lv_if_eq (tgt := 40) hx hb dX11_rid_8 (by decide) (fun _ => ?_) (fun c9 => absurd (by decide) c9)
  refine lv_iconst (v := (-1)) hx hb dX11_rid_40 (by decide) ?_
  have hP := hP.sub (ws' := []) [] rfl
  have hD := hD.sub (ws' := []) [] (by decide +kernel) rfl
  exact endI hx hb hr hlocks [] rfl ⟨rfl, rfl⟩ hP hD hS (Nat.le_of_ble_eq_true rfl) (Nat.le_of_ble_eq_true rfl) dX11_rid_41

theorem in_X11_get_X11 : ∀ w ∈ u_ws RX11 TX11 11, w ∈ wsX11_get := fun w h => (List.mem_cons_of_mem _ (List.mem_append_right _ h))
set_option maxRecDepth 100000 in
set_option maxHeartbeats 4000000 in
/-- get on a new object: (-1) -/
theorem c_X11_get (l : Launch) (D : va_G) (cy : Nat → ClassId) (h0 : Nat) (fs : List Value) (t0 : Nat) (ft : List Value) (p0 : Int32) (p1 : Int32) (e2 : fs[10]? = some (.ref t0)) (e_isMan : ft[3]? = some (.int 0)) : Cti l D cy yX11_get wsX11_get ({ frames := 1, cells := 0, slots := 0, locals := 21 } : Room) [.ref h0, .int p0, .int p1] [(h0, .inr (11, fs)), (t0, .inr (7, ft))] myT (fun (r : Int32) (w : va_W) => r = (-1) ∧ w = []) := by
  refine ofI (cc := cX11_get) (maxL := 3) (ret := (some .int)) (by decide) rfl (Nat.le_of_ble_eq_true rfl) ?_
  intro p e s m args below meth c A ls hx hb hr hts hown hlocks hml hin hK hP hD hS hA hX hl
  have hown : s.vm.findClass RX11 = some m.cls := hown
  have hl : lv_has ls 3 [(0, .ref h0), (1, .int p0), (2, .int p1)] := hl
  refine lv_aload_n hx hb dX11_get_0 rfl (lv_at hl 0 rfl) ?_
  refine va_get (ci := 11) (v := .ref t0) (C := RX11) (T := TX11) (N := 11) hx hb hts in_X11_get_X11 hown hK hP 0 rfl rfl 10 (by decide) (hts (.fieldLink RX11 77 "HallTables" "town" "LHallTables$Town;") (List.mem_of_getElem? (i := 1) rfl)) (fun _ h9 => h9) e2 dX11_get_1 ?_
  refine lv_iload_n hx hb dX11_get_4 rfl (lv_at hl 1 rfl) ?_
  refine cVi (As := [.int p0]) (rest := []) (wr := [(h0, .inr (11, fs))]) ⟨hx, hb, hml, hown, hts⟩ (c_X7_isMan l D cy t0 ft p0 e_isMan) (cwV 1 hts gX11_get_X7_isMan rfl rfl rfl (by decide +kernel) ⟨Nat.le_of_ble_eq_true rfl, Nat.le_of_ble_eq_true rfl⟩) hK hP hD hS hA [1] [0] ⟨rfl, rfl, by decide +kernel, by decide +kernel, by decide +kernel⟩ 0 7 rfl rfl myX_T rfl hl.1 rfl (Nat.le_of_ble_eq_true rfl) dX11_get_5 ⟨Nat.le_of_ble_eq_true rfl, Nat.le_of_ble_eq_true rfl⟩ (fun r_1 w_2 H locs hw hP hD hS => ?_)
  obtain ⟨rfl, rfl⟩ := hw
  have hP : va_P D vwCl [(h0, .inr (11, fs)), (t0, .inr (7, ft))] H := hP
  have hD : va_D A [(h0, .inr (11, fs)), (t0, .inr (7, ft))] := hD
  refine lv_if_eq (tgt := 22) hx hb dX11_get_8 (by decide) (fun _ => ?_) (fun c9 => absurd (by decide) c9)
  refine lv_iconst (v := (-1)) hx hb dX11_get_22 (by decide) ?_
  have hP := hP.sub (ws' := []) [] rfl
  have hD := hD.sub (ws' := []) [] (by decide +kernel) rfl
  exact endI hx hb hr hlocks [] rfl ⟨rfl, rfl⟩ hP hD hS (Nat.le_of_ble_eq_true rfl) (Nat.le_of_ble_eq_true rfl) dX11_get_23

theorem in_X11_inReach_X11 : ∀ w ∈ u_ws RX11 TX11 11, w ∈ wsX11_inReach := fun w h => (List.mem_cons_of_mem _ (List.mem_append_right _ h))
set_option maxRecDepth 100000 in
set_option maxHeartbeats 4000000 in
/-- inReach on a new object: (-1) -/
theorem c_X11_inReach (l : Launch) (D : va_G) (cy : Nat → ClassId) (h0 : Nat) (fs : List Value) (t0 : Nat) (ft : List Value) (p0 : Int32) (e2 : fs[10]? = some (.ref t0)) (e_isMan : ft[3]? = some (.int 0)) : Cti l D cy yX11_inReach wsX11_inReach ({ frames := 1, cells := 0, slots := 0, locals := 21 } : Room) [.ref h0, .int p0] [(h0, .inr (11, fs)), (t0, .inr (7, ft))] myT (fun (r : Int32) (w : va_W) => r = (-1) ∧ w = []) := by
  refine ofI (cc := cX11_inReach) (maxL := 2) (ret := (some .int)) (by decide) rfl (Nat.le_of_ble_eq_true rfl) ?_
  intro p e s m args below meth c A ls hx hb hr hts hown hlocks hml hin hK hP hD hS hA hX hl
  have hown : s.vm.findClass RX11 = some m.cls := hown
  have hl : lv_has ls 2 [(0, .ref h0), (1, .int p0)] := hl
  refine lv_aload_n hx hb dX11_inReach_0 rfl (lv_at hl 0 rfl) ?_
  refine va_get (ci := 11) (v := .ref t0) (C := RX11) (T := TX11) (N := 11) hx hb hts in_X11_inReach_X11 hown hK hP 0 rfl rfl 10 (by decide) (hts (.fieldLink RX11 77 "HallTables" "town" "LHallTables$Town;") (List.mem_of_getElem? (i := 1) rfl)) (fun _ h9 => h9) e2 dX11_inReach_1 ?_
  refine lv_iload_n hx hb dX11_inReach_4 rfl (lv_at hl 1 rfl) ?_
  refine cVi (As := [.int p0]) (rest := []) (wr := [(h0, .inr (11, fs))]) ⟨hx, hb, hml, hown, hts⟩ (c_X7_isMan l D cy t0 ft p0 e_isMan) (cwV 1 hts gX11_inReach_X7_isMan rfl rfl rfl (by decide +kernel) ⟨Nat.le_of_ble_eq_true rfl, Nat.le_of_ble_eq_true rfl⟩) hK hP hD hS hA [1] [0] ⟨rfl, rfl, by decide +kernel, by decide +kernel, by decide +kernel⟩ 0 7 rfl rfl myX_T rfl hl.1 rfl (Nat.le_of_ble_eq_true rfl) dX11_inReach_5 ⟨Nat.le_of_ble_eq_true rfl, Nat.le_of_ble_eq_true rfl⟩ (fun r_1 w_2 H locs hw hP hD hS => ?_)
  obtain ⟨rfl, rfl⟩ := hw
  have hP : va_P D vwCl [(h0, .inr (11, fs)), (t0, .inr (7, ft))] H := hP
  have hD : va_D A [(h0, .inr (11, fs)), (t0, .inr (7, ft))] := hD
  refine lv_if_ne (tgt := 13) hx hb dX11_inReach_8 (by decide) (fun c9 => absurd (by decide) c9) (fun _ => ?_)
  refine lv_iconst (v := (-1)) hx hb dX11_inReach_11 (by decide) ?_
  have hP := hP.sub (ws' := []) [] rfl
  have hD := hD.sub (ws' := []) [] (by decide +kernel) rfl
  exact endI hx hb hr hlocks [] rfl ⟨rfl, rfl⟩ hP hD hS (Nat.le_of_ble_eq_true rfl) (Nat.le_of_ble_eq_true rfl) dX11_inReach_12

theorem in_X11_most_X11 : ∀ w ∈ u_ws RX11 TX11 11, w ∈ wsX11_most := fun w h => (List.mem_cons_of_mem _ (List.mem_append_right _ h))
set_option maxRecDepth 100000 in
set_option maxHeartbeats 4000000 in
/-- most on a new object: (-1) -/
theorem c_X11_most (l : Launch) (D : va_G) (cy : Nat → ClassId) (h0 : Nat) (fs : List Value) (t0 : Nat) (ft : List Value) (p0 : Int32) (p1 : Int32) (e2 : fs[10]? = some (.ref t0)) (e_isMan : ft[3]? = some (.int 0)) : Cti l D cy yX11_most wsX11_most ({ frames := 1, cells := 0, slots := 0, locals := 21 } : Room) [.ref h0, .int p0, .int p1] [(h0, .inr (11, fs)), (t0, .inr (7, ft))] myT (fun (r : Int32) (w : va_W) => r = (-1) ∧ w = []) := by
  refine ofI (cc := cX11_most) (maxL := 3) (ret := (some .int)) (by decide) rfl (Nat.le_of_ble_eq_true rfl) ?_
  intro p e s m args below meth c A ls hx hb hr hts hown hlocks hml hin hK hP hD hS hA hX hl
  have hown : s.vm.findClass RX11 = some m.cls := hown
  have hl : lv_has ls 3 [(0, .ref h0), (1, .int p0), (2, .int p1)] := hl
  refine lv_aload_n hx hb dX11_most_0 rfl (lv_at hl 0 rfl) ?_
  refine va_get (ci := 11) (v := .ref t0) (C := RX11) (T := TX11) (N := 11) hx hb hts in_X11_most_X11 hown hK hP 0 rfl rfl 10 (by decide) (hts (.fieldLink RX11 77 "HallTables" "town" "LHallTables$Town;") (List.mem_of_getElem? (i := 1) rfl)) (fun _ h9 => h9) e2 dX11_most_1 ?_
  refine lv_iload_n hx hb dX11_most_4 rfl (lv_at hl 1 rfl) ?_
  refine cVi (As := [.int p0]) (rest := []) (wr := [(h0, .inr (11, fs))]) ⟨hx, hb, hml, hown, hts⟩ (c_X7_isMan l D cy t0 ft p0 e_isMan) (cwV 1 hts gX11_most_X7_isMan rfl rfl rfl (by decide +kernel) ⟨Nat.le_of_ble_eq_true rfl, Nat.le_of_ble_eq_true rfl⟩) hK hP hD hS hA [1] [0] ⟨rfl, rfl, by decide +kernel, by decide +kernel, by decide +kernel⟩ 0 7 rfl rfl myX_T rfl hl.1 rfl (Nat.le_of_ble_eq_true rfl) dX11_most_5 ⟨Nat.le_of_ble_eq_true rfl, Nat.le_of_ble_eq_true rfl⟩ (fun r_1 w_2 H locs hw hP hD hS => ?_)
  obtain ⟨rfl, rfl⟩ := hw
  have hP : va_P D vwCl [(h0, .inr (11, fs)), (t0, .inr (7, ft))] H := hP
  have hD : va_D A [(h0, .inr (11, fs)), (t0, .inr (7, ft))] := hD
  refine lv_if_eq (tgt := 22) hx hb dX11_most_8 (by decide) (fun _ => ?_) (fun c9 => absurd (by decide) c9)
  refine lv_iconst (v := (-1)) hx hb dX11_most_22 (by decide) ?_
  have hP := hP.sub (ws' := []) [] rfl
  have hD := hD.sub (ws' := []) [] (by decide +kernel) rfl
  exact endI hx hb hr hlocks [] rfl ⟨rfl, rfl⟩ hP hD hS (Nat.le_of_ble_eq_true rfl) (Nat.le_of_ble_eq_true rfl) dX11_most_23

theorem in_X11_meet_X11 : ∀ w ∈ u_ws RX11 TX11 11, w ∈ wsX11_meet := fun w h => (List.mem_cons_of_mem _ (List.mem_append_right _ h))
set_option maxRecDepth 100000 in
set_option maxHeartbeats 4000000 in
/-- meet on a new object: (-1) -/
theorem c_X11_meet (l : Launch) (D : va_G) (cy : Nat → ClassId) (h0 : Nat) (fs : List Value) (t0 : Nat) (ft : List Value) (p0 : Int32) (p1 : Int32) (p2 : Int32) (e2 : fs[10]? = some (.ref t0)) (e_isMan : ft[3]? = some (.int 0)) : Cti l D cy yX11_meet wsX11_meet ({ frames := 1, cells := 0, slots := 0, locals := 21 } : Room) [.ref h0, .int p0, .int p1, .int p2] [(h0, .inr (11, fs)), (t0, .inr (7, ft))] myT (fun (r : Int32) (w : va_W) => r = (-1) ∧ w = []) := by
  refine ofI (cc := cX11_meet) (maxL := 7) (ret := (some .int)) (by decide) rfl (Nat.le_of_ble_eq_true rfl) ?_
  intro p e s m args below meth c A ls hx hb hr hts hown hlocks hml hin hK hP hD hS hA hX hl
  have hown : s.vm.findClass RX11 = some m.cls := hown
  have hl : lv_has ls 7 [(0, .ref h0), (1, .int p0), (2, .int p1), (3, .int p2)] := hl
  refine lv_aload_n hx hb dX11_meet_0 rfl (lv_at hl 0 rfl) ?_
  refine va_get (ci := 11) (v := .ref t0) (C := RX11) (T := TX11) (N := 11) hx hb hts in_X11_meet_X11 hown hK hP 0 rfl rfl 10 (by decide) (hts (.fieldLink RX11 77 "HallTables" "town" "LHallTables$Town;") (List.mem_of_getElem? (i := 1) rfl)) (fun _ h9 => h9) e2 dX11_meet_1 ?_
  refine lv_iload_n hx hb dX11_meet_4 rfl (lv_at hl 1 rfl) ?_
  refine cVi (As := [.int p0]) (rest := []) (wr := [(h0, .inr (11, fs))]) ⟨hx, hb, hml, hown, hts⟩ (c_X7_isMan l D cy t0 ft p0 e_isMan) (cwV 1 hts gX11_meet_X7_isMan rfl rfl rfl (by decide +kernel) ⟨Nat.le_of_ble_eq_true rfl, Nat.le_of_ble_eq_true rfl⟩) hK hP hD hS hA [1] [0] ⟨rfl, rfl, by decide +kernel, by decide +kernel, by decide +kernel⟩ 0 7 rfl rfl myX_T rfl hl.1 rfl (Nat.le_of_ble_eq_true rfl) dX11_meet_5 ⟨Nat.le_of_ble_eq_true rfl, Nat.le_of_ble_eq_true rfl⟩ (fun r_1 w_2 H locs hw hP hD hS => ?_)
  obtain ⟨rfl, rfl⟩ := hw
  have hP : va_P D vwCl [(h0, .inr (11, fs)), (t0, .inr (7, ft))] H := hP
  have hD : va_D A [(h0, .inr (11, fs)), (t0, .inr (7, ft))] := hD
  refine lv_if_eq (tgt := 36) hx hb dX11_meet_8 (by decide) (fun _ => ?_) (fun c9 => absurd (by decide) c9)
  refine lv_iconst (v := (-1)) hx hb dX11_meet_36 (by decide) ?_
  have hP := hP.sub (ws' := []) [] rfl
  have hD := hD.sub (ws' := []) [] (by decide +kernel) rfl
  exact endI hx hb hr hlocks [] rfl ⟨rfl, rfl⟩ hP hD hS (Nat.le_of_ble_eq_true rfl) (Nat.le_of_ble_eq_true rfl) dX11_meet_37

theorem in_X11_round_X11 : ∀ w ∈ u_ws RX11 TX11 11, w ∈ wsX11_round := fun w h => (List.mem_cons_of_mem _ (List.mem_append_right _ h))
set_option maxRecDepth 100000 in
set_option maxHeartbeats 4000000 in
/-- round on a new object: (-1) -/
theorem c_X11_round (l : Launch) (D : va_G) (cy : Nat → ClassId) (h0 : Nat) (fs : List Value) (t0 : Nat) (ft : List Value) (p0 : Int32) (p1 : Int32) (e2 : fs[10]? = some (.ref t0)) (e_isMan : ft[3]? = some (.int 0)) : Cti l D cy yX11_round wsX11_round ({ frames := 1, cells := 0, slots := 0, locals := 21 } : Room) [.ref h0, .int p0, .int p1] [(h0, .inr (11, fs)), (t0, .inr (7, ft))] myT (fun (r : Int32) (w : va_W) => r = (-1) ∧ w = []) := by
  refine ofI (cc := cX11_round) (maxL := 3) (ret := (some .int)) (by decide) rfl (Nat.le_of_ble_eq_true rfl) ?_
  intro p e s m args below meth c A ls hx hb hr hts hown hlocks hml hin hK hP hD hS hA hX hl
  have hown : s.vm.findClass RX11 = some m.cls := hown
  have hl : lv_has ls 3 [(0, .ref h0), (1, .int p0), (2, .int p1)] := hl
  refine lv_aload_n hx hb dX11_round_0 rfl (lv_at hl 0 rfl) ?_
  refine va_get (ci := 11) (v := .ref t0) (C := RX11) (T := TX11) (N := 11) hx hb hts in_X11_round_X11 hown hK hP 0 rfl rfl 10 (by decide) (hts (.fieldLink RX11 77 "HallTables" "town" "LHallTables$Town;") (List.mem_of_getElem? (i := 1) rfl)) (fun _ h9 => h9) e2 dX11_round_1 ?_
  refine lv_iload_n hx hb dX11_round_4 rfl (lv_at hl 1 rfl) ?_
  refine cVi (As := [.int p0]) (rest := []) (wr := [(h0, .inr (11, fs))]) ⟨hx, hb, hml, hown, hts⟩ (c_X7_isMan l D cy t0 ft p0 e_isMan) (cwV 1 hts gX11_round_X7_isMan rfl rfl rfl (by decide +kernel) ⟨Nat.le_of_ble_eq_true rfl, Nat.le_of_ble_eq_true rfl⟩) hK hP hD hS hA [1] [0] ⟨rfl, rfl, by decide +kernel, by decide +kernel, by decide +kernel⟩ 0 7 rfl rfl myX_T rfl hl.1 rfl (Nat.le_of_ble_eq_true rfl) dX11_round_5 ⟨Nat.le_of_ble_eq_true rfl, Nat.le_of_ble_eq_true rfl⟩ (fun r_1 w_2 H locs hw hP hD hS => ?_)
  obtain ⟨rfl, rfl⟩ := hw
  have hP : va_P D vwCl [(h0, .inr (11, fs)), (t0, .inr (7, ft))] H := hP
  have hD : va_D A [(h0, .inr (11, fs)), (t0, .inr (7, ft))] := hD
  refine lv_if_eq (tgt := 28) hx hb dX11_round_8 (by decide) (fun _ => ?_) (fun c9 => absurd (by decide) c9)
  refine lv_iconst (v := (-1)) hx hb dX11_round_28 (by decide) ?_
  have hP := hP.sub (ws' := []) [] rfl
  have hD := hD.sub (ws' := []) [] (by decide +kernel) rfl
  exact endI hx hb hr hlocks [] rfl ⟨rfl, rfl⟩ hP hD hS (Nat.le_of_ble_eq_true rfl) (Nat.le_of_ble_eq_true rfl) dX11_round_29

theorem in_X11_carried_X11 : ∀ w ∈ u_ws RX11 TX11 11, w ∈ wsX11_carried := fun w h => (List.mem_cons_of_mem _ (List.mem_append_right _ h))
set_option maxRecDepth 100000 in
set_option maxHeartbeats 4000000 in
/-- carried on a new object: (-1) -/
theorem c_X11_carried (l : Launch) (D : va_G) (cy : Nat → ClassId) (h0 : Nat) (fs : List Value) (t0 : Nat) (ft : List Value) (p0 : Int32) (p1 : Int32) (e2 : fs[10]? = some (.ref t0)) (e_isSort : ft[0]? = some (.int 0)) : Cti l D cy yX11_carried wsX11_carried ({ frames := 1, cells := 0, slots := 0, locals := 21 } : Room) [.ref h0, .int p0, .int p1] [(h0, .inr (11, fs)), (t0, .inr (7, ft))] myT (fun (r : Int32) (w : va_W) => r = (-1) ∧ w = []) := by
  refine ofI (cc := cX11_carried) (maxL := 3) (ret := (some .int)) (by decide) rfl (Nat.le_of_ble_eq_true rfl) ?_
  intro p e s m args below meth c A ls hx hb hr hts hown hlocks hml hin hK hP hD hS hA hX hl
  have hown : s.vm.findClass RX11 = some m.cls := hown
  have hl : lv_has ls 3 [(0, .ref h0), (1, .int p0), (2, .int p1)] := hl
  refine lv_aload_n hx hb dX11_carried_0 rfl (lv_at hl 0 rfl) ?_
  refine va_get (ci := 11) (v := .ref t0) (C := RX11) (T := TX11) (N := 11) hx hb hts in_X11_carried_X11 hown hK hP 0 rfl rfl 10 (by decide) (hts (.fieldLink RX11 77 "HallTables" "town" "LHallTables$Town;") (List.mem_of_getElem? (i := 1) rfl)) (fun _ h9 => h9) e2 dX11_carried_1 ?_
  refine lv_iload_n hx hb dX11_carried_4 rfl (lv_at hl 1 rfl) ?_
  refine cVi (As := [.int p0]) (rest := []) (wr := [(h0, .inr (11, fs))]) ⟨hx, hb, hml, hown, hts⟩ (c_X7_isSort l D cy t0 ft p0 e_isSort) (cwV 1 hts gX11_carried_X7_isSort rfl rfl rfl (by decide +kernel) ⟨Nat.le_of_ble_eq_true rfl, Nat.le_of_ble_eq_true rfl⟩) hK hP hD hS hA [1] [0] ⟨rfl, rfl, by decide +kernel, by decide +kernel, by decide +kernel⟩ 0 7 rfl rfl myX_T rfl hl.1 rfl (Nat.le_of_ble_eq_true rfl) dX11_carried_5 ⟨Nat.le_of_ble_eq_true rfl, Nat.le_of_ble_eq_true rfl⟩ (fun r_1 w_2 H locs hw hP hD hS => ?_)
  obtain ⟨rfl, rfl⟩ := hw
  have hP : va_P D vwCl [(h0, .inr (11, fs)), (t0, .inr (7, ft))] H := hP
  have hD : va_D A [(h0, .inr (11, fs)), (t0, .inr (7, ft))] := hD
  refine lv_if_eq (tgt := 22) hx hb dX11_carried_8 (by decide) (fun _ => ?_) (fun c9 => absurd (by decide) c9)
  refine lv_iconst (v := (-1)) hx hb dX11_carried_22 (by decide) ?_
  have hP := hP.sub (ws' := []) [] rfl
  have hD := hD.sub (ws' := []) [] (by decide +kernel) rfl
  exact endI hx hb hr hlocks [] rfl ⟨rfl, rfl⟩ hP hD hS (Nat.le_of_ble_eq_true rfl) (Nat.le_of_ble_eq_true rfl) dX11_carried_23

theorem in_X11_helps_X11 : ∀ w ∈ u_ws RX11 TX11 11, w ∈ wsX11_helps := fun w h => (List.mem_cons_of_mem _ (List.mem_append_right _ h))
set_option maxRecDepth 100000 in
set_option maxHeartbeats 4000000 in
/-- helps on a new object: (-1) -/
theorem c_X11_helps (l : Launch) (D : va_G) (cy : Nat → ClassId) (h0 : Nat) (fs : List Value) (t0 : Nat) (ft : List Value) (p0 : Int32) (p1 : Int32) (p2 : Int32) (e2 : fs[10]? = some (.ref t0)) (e_isSort : ft[0]? = some (.int 0)) : Cti l D cy yX11_helps wsX11_helps ({ frames := 1, cells := 0, slots := 0, locals := 21 } : Room) [.ref h0, .int p0, .int p1, .int p2] [(h0, .inr (11, fs)), (t0, .inr (7, ft))] myT (fun (r : Int32) (w : va_W) => r = (-1) ∧ w = []) := by
  refine ofI (cc := cX11_helps) (maxL := 4) (ret := (some .int)) (by decide) rfl (Nat.le_of_ble_eq_true rfl) ?_
  intro p e s m args below meth c A ls hx hb hr hts hown hlocks hml hin hK hP hD hS hA hX hl
  have hown : s.vm.findClass RX11 = some m.cls := hown
  have hl : lv_has ls 4 [(0, .ref h0), (1, .int p0), (2, .int p1), (3, .int p2)] := hl
  refine lv_aload_n hx hb dX11_helps_0 rfl (lv_at hl 0 rfl) ?_
  refine va_get (ci := 11) (v := .ref t0) (C := RX11) (T := TX11) (N := 11) hx hb hts in_X11_helps_X11 hown hK hP 0 rfl rfl 10 (by decide) (hts (.fieldLink RX11 77 "HallTables" "town" "LHallTables$Town;") (List.mem_of_getElem? (i := 1) rfl)) (fun _ h9 => h9) e2 dX11_helps_1 ?_
  refine lv_iload_n hx hb dX11_helps_4 rfl (lv_at hl 1 rfl) ?_
  refine cVi (As := [.int p0]) (rest := []) (wr := [(h0, .inr (11, fs))]) ⟨hx, hb, hml, hown, hts⟩ (c_X7_isSort l D cy t0 ft p0 e_isSort) (cwV 1 hts gX11_helps_X7_isSort rfl rfl rfl (by decide +kernel) ⟨Nat.le_of_ble_eq_true rfl, Nat.le_of_ble_eq_true rfl⟩) hK hP hD hS hA [1] [0] ⟨rfl, rfl, by decide +kernel, by decide +kernel, by decide +kernel⟩ 0 7 rfl rfl myX_T rfl hl.1 rfl (Nat.le_of_ble_eq_true rfl) dX11_helps_5 ⟨Nat.le_of_ble_eq_true rfl, Nat.le_of_ble_eq_true rfl⟩ (fun r_1 w_2 H locs hw hP hD hS => ?_)
  obtain ⟨rfl, rfl⟩ := hw
  have hP : va_P D vwCl [(h0, .inr (11, fs)), (t0, .inr (7, ft))] H := hP
  have hD : va_D A [(h0, .inr (11, fs)), (t0, .inr (7, ft))] := hD
  refine lv_if_eq (tgt := 31) hx hb dX11_helps_8 (by decide) (fun _ => ?_) (fun c9 => absurd (by decide) c9)
  refine lv_iconst (v := (-1)) hx hb dX11_helps_31 (by decide) ?_
  have hP := hP.sub (ws' := []) [] rfl
  have hD := hD.sub (ws' := []) [] (by decide +kernel) rfl
  exact endI hx hb hr hlocks [] rfl ⟨rfl, rfl⟩ hP hD hS (Nat.le_of_ble_eq_true rfl) (Nat.le_of_ble_eq_true rfl) dX11_helps_32

theorem in_X11_turned_X11 : ∀ w ∈ u_ws RX11 TX11 11, w ∈ wsX11_turned := fun w h => (List.mem_cons_of_mem _ (List.mem_append_right _ h))
set_option maxRecDepth 100000 in
set_option maxHeartbeats 4000000 in
/-- turned on a new object: (-1) -/
theorem c_X11_turned (l : Launch) (D : va_G) (cy : Nat → ClassId) (h0 : Nat) (fs : List Value) (t0 : Nat) (ft : List Value) (p0 : Int32) (p1 : Int32) (e2 : fs[10]? = some (.ref t0)) (e_isSort : ft[0]? = some (.int 0)) : Cti l D cy yX11_turned wsX11_turned ({ frames := 1, cells := 0, slots := 0, locals := 21 } : Room) [.ref h0, .int p0, .int p1] [(h0, .inr (11, fs)), (t0, .inr (7, ft))] myT (fun (r : Int32) (w : va_W) => r = (-1) ∧ w = []) := by
  refine ofI (cc := cX11_turned) (maxL := 3) (ret := (some .int)) (by decide) rfl (Nat.le_of_ble_eq_true rfl) ?_
  intro p e s m args below meth c A ls hx hb hr hts hown hlocks hml hin hK hP hD hS hA hX hl
  have hown : s.vm.findClass RX11 = some m.cls := hown
  have hl : lv_has ls 3 [(0, .ref h0), (1, .int p0), (2, .int p1)] := hl
  refine lv_aload_n hx hb dX11_turned_0 rfl (lv_at hl 0 rfl) ?_
  refine va_get (ci := 11) (v := .ref t0) (C := RX11) (T := TX11) (N := 11) hx hb hts in_X11_turned_X11 hown hK hP 0 rfl rfl 10 (by decide) (hts (.fieldLink RX11 77 "HallTables" "town" "LHallTables$Town;") (List.mem_of_getElem? (i := 1) rfl)) (fun _ h9 => h9) e2 dX11_turned_1 ?_
  refine lv_iload_n hx hb dX11_turned_4 rfl (lv_at hl 1 rfl) ?_
  refine cVi (As := [.int p0]) (rest := []) (wr := [(h0, .inr (11, fs))]) ⟨hx, hb, hml, hown, hts⟩ (c_X7_isSort l D cy t0 ft p0 e_isSort) (cwV 1 hts gX11_turned_X7_isSort rfl rfl rfl (by decide +kernel) ⟨Nat.le_of_ble_eq_true rfl, Nat.le_of_ble_eq_true rfl⟩) hK hP hD hS hA [1] [0] ⟨rfl, rfl, by decide +kernel, by decide +kernel, by decide +kernel⟩ 0 7 rfl rfl myX_T rfl hl.1 rfl (Nat.le_of_ble_eq_true rfl) dX11_turned_5 ⟨Nat.le_of_ble_eq_true rfl, Nat.le_of_ble_eq_true rfl⟩ (fun r_1 w_2 H locs hw hP hD hS => ?_)
  obtain ⟨rfl, rfl⟩ := hw
  have hP : va_P D vwCl [(h0, .inr (11, fs)), (t0, .inr (7, ft))] H := hP
  have hD : va_D A [(h0, .inr (11, fs)), (t0, .inr (7, ft))] := hD
  refine lv_if_eq (tgt := 22) hx hb dX11_turned_8 (by decide) (fun _ => ?_) (fun c9 => absurd (by decide) c9)
  refine lv_iconst (v := (-1)) hx hb dX11_turned_22 (by decide) ?_
  have hP := hP.sub (ws' := []) [] rfl
  have hD := hD.sub (ws' := []) [] (by decide +kernel) rfl
  exact endI hx hb hr hlocks [] rfl ⟨rfl, rfl⟩ hP hD hS (Nat.le_of_ble_eq_true rfl) (Nat.le_of_ble_eq_true rfl) dX11_turned_23

theorem in_X11_see_X11 : ∀ w ∈ u_ws RX11 TX11 11, w ∈ wsX11_see := fun w h => (List.mem_cons_of_mem _ (List.mem_append_right _ h))
set_option maxRecDepth 100000 in
set_option maxHeartbeats 4000000 in
/-- see on a new object: (-1) -/
theorem c_X11_see (l : Launch) (D : va_G) (cy : Nat → ClassId) (h0 : Nat) (fs : List Value) (t0 : Nat) (ft : List Value) (p0 : Int32) (p1 : Int32) (p2 : Int32) (e2 : fs[10]? = some (.ref t0)) (e_isHouse : ft[1]? = some (.int 0)) : Cti l D cy yX11_see wsX11_see ({ frames := 1, cells := 0, slots := 0, locals := 21 } : Room) [.ref h0, .int p0, .int p1, .int p2] [(h0, .inr (11, fs)), (t0, .inr (7, ft))] myT (fun (r : Int32) (w : va_W) => r = (-1) ∧ w = []) := by
  refine ofI (cc := cX11_see) (maxL := 4) (ret := (some .int)) (by decide) rfl (Nat.le_of_ble_eq_true rfl) ?_
  intro p e s m args below meth c A ls hx hb hr hts hown hlocks hml hin hK hP hD hS hA hX hl
  have hown : s.vm.findClass RX11 = some m.cls := hown
  have hl : lv_has ls 4 [(0, .ref h0), (1, .int p0), (2, .int p1), (3, .int p2)] := hl
  refine lv_aload_n hx hb dX11_see_0 rfl (lv_at hl 0 rfl) ?_
  refine va_get (ci := 11) (v := .ref t0) (C := RX11) (T := TX11) (N := 11) hx hb hts in_X11_see_X11 hown hK hP 0 rfl rfl 10 (by decide) (hts (.fieldLink RX11 77 "HallTables" "town" "LHallTables$Town;") (List.mem_of_getElem? (i := 1) rfl)) (fun _ h9 => h9) e2 dX11_see_1 ?_
  refine lv_iload_n hx hb dX11_see_4 rfl (lv_at hl 1 rfl) ?_
  refine cVi (As := [.int p0]) (rest := []) (wr := [(h0, .inr (11, fs))]) ⟨hx, hb, hml, hown, hts⟩ (c_X7_isHouse l D cy t0 ft p0 e_isHouse) (cwV 1 hts gX11_see_X7_isHouse rfl rfl rfl (by decide +kernel) ⟨Nat.le_of_ble_eq_true rfl, Nat.le_of_ble_eq_true rfl⟩) hK hP hD hS hA [1] [0] ⟨rfl, rfl, by decide +kernel, by decide +kernel, by decide +kernel⟩ 0 7 rfl rfl myX_T rfl hl.1 rfl (Nat.le_of_ble_eq_true rfl) dX11_see_5 ⟨Nat.le_of_ble_eq_true rfl, Nat.le_of_ble_eq_true rfl⟩ (fun r_1 w_2 H locs hw hP hD hS => ?_)
  obtain ⟨rfl, rfl⟩ := hw
  have hP : va_P D vwCl [(h0, .inr (11, fs)), (t0, .inr (7, ft))] H := hP
  have hD : va_D A [(h0, .inr (11, fs)), (t0, .inr (7, ft))] := hD
  refine lv_if_eq (tgt := 32) hx hb dX11_see_8 (by decide) (fun _ => ?_) (fun c9 => absurd (by decide) c9)
  refine lv_iconst (v := (-1)) hx hb dX11_see_32 (by decide) ?_
  have hP := hP.sub (ws' := []) [] rfl
  have hD := hD.sub (ws' := []) [] (by decide +kernel) rfl
  exact endI hx hb hr hlocks [] rfl ⟨rfl, rfl⟩ hP hD hS (Nat.le_of_ble_eq_true rfl) (Nat.le_of_ble_eq_true rfl) dX11_see_33

theorem in_X11_visitors_X11 : ∀ w ∈ u_ws RX11 TX11 11, w ∈ wsX11_visitors := fun w h => (List.mem_cons_of_mem _ (List.mem_append_right _ h))
set_option maxRecDepth 100000 in
set_option maxHeartbeats 4000000 in
/-- visitors on a new object: (-1) -/
theorem c_X11_visitors (l : Launch) (D : va_G) (cy : Nat → ClassId) (h0 : Nat) (fs : List Value) (t0 : Nat) (ft : List Value) (p0 : Int32) (p1 : Int32) (p2 : Int32) (e2 : fs[10]? = some (.ref t0)) (e_isHouse : ft[1]? = some (.int 0)) : Cti l D cy yX11_visitors wsX11_visitors ({ frames := 1, cells := 0, slots := 0, locals := 21 } : Room) [.ref h0, .int p0, .int p1, .int p2] [(h0, .inr (11, fs)), (t0, .inr (7, ft))] myT (fun (r : Int32) (w : va_W) => r = (-1) ∧ w = []) := by
  refine ofI (cc := cX11_visitors) (maxL := 10) (ret := (some .int)) (by decide) rfl (Nat.le_of_ble_eq_true rfl) ?_
  intro p e s m args below meth c A ls hx hb hr hts hown hlocks hml hin hK hP hD hS hA hX hl
  have hown : s.vm.findClass RX11 = some m.cls := hown
  have hl : lv_has ls 10 [(0, .ref h0), (1, .int p0), (2, .int p1), (3, .int p2)] := hl
  refine lv_aload_n hx hb dX11_visitors_0 rfl (lv_at hl 0 rfl) ?_
  refine va_get (ci := 11) (v := .ref t0) (C := RX11) (T := TX11) (N := 11) hx hb hts in_X11_visitors_X11 hown hK hP 0 rfl rfl 10 (by decide) (hts (.fieldLink RX11 77 "HallTables" "town" "LHallTables$Town;") (List.mem_of_getElem? (i := 1) rfl)) (fun _ h9 => h9) e2 dX11_visitors_1 ?_
  refine lv_iload_n hx hb dX11_visitors_4 rfl (lv_at hl 1 rfl) ?_
  refine cVi (As := [.int p0]) (rest := []) (wr := [(h0, .inr (11, fs))]) ⟨hx, hb, hml, hown, hts⟩ (c_X7_isHouse l D cy t0 ft p0 e_isHouse) (cwV 1 hts gX11_visitors_X7_isHouse rfl rfl rfl (by decide +kernel) ⟨Nat.le_of_ble_eq_true rfl, Nat.le_of_ble_eq_true rfl⟩) hK hP hD hS hA [1] [0] ⟨rfl, rfl, by decide +kernel, by decide +kernel, by decide +kernel⟩ 0 7 rfl rfl myX_T rfl hl.1 rfl (Nat.le_of_ble_eq_true rfl) dX11_visitors_5 ⟨Nat.le_of_ble_eq_true rfl, Nat.le_of_ble_eq_true rfl⟩ (fun r_1 w_2 H locs hw hP hD hS => ?_)
  obtain ⟨rfl, rfl⟩ := hw
  have hP : va_P D vwCl [(h0, .inr (11, fs)), (t0, .inr (7, ft))] H := hP
  have hD : va_D A [(h0, .inr (11, fs)), (t0, .inr (7, ft))] := hD
  refine lv_if_eq (tgt := 22) hx hb dX11_visitors_8 (by decide) (fun _ => ?_) (fun c9 => absurd (by decide) c9)
  refine lv_iconst (v := (-1)) hx hb dX11_visitors_22 (by decide) ?_
  have hP := hP.sub (ws' := []) [] rfl
  have hD := hD.sub (ws' := []) [] (by decide +kernel) rfl
  exact endI hx hb hr hlocks [] rfl ⟨rfl, rfl⟩ hP hD hS (Nat.le_of_ble_eq_true rfl) (Nat.le_of_ble_eq_true rfl) dX11_visitors_23

theorem in_X11_riches_X11 : ∀ w ∈ u_ws RX11 TX11 11, w ∈ wsX11_riches := fun w h => (List.mem_cons_of_mem _ (List.mem_append_right _ h))
theorem in_X11_riches_X7 : ∀ w ∈ u_ws RX7 TX7 18, w ∈ wsX11_riches := fun w h => (List.mem_cons_of_mem _ (List.mem_append_left _ (List.mem_append_right _ h)))
set_option maxRecDepth 100000 in
set_option maxHeartbeats 4000000 in
/-- riches on a new object: richesV p0 -/
theorem c_X11_riches (l : Launch) (D : va_G) (cy : Nat → ClassId) (h0 : Nat) (fs : List Value) (t0 : Nat) (ft : List Value) (p0 : Int32) (e2 : fs[10]? = some (.ref t0)) (e_isHouse : ft[1]? = some (.int 0)) : Cti l D cy yX11_riches wsX11_riches ({ frames := 1, cells := 0, slots := 0, locals := 21 } : Room) [.ref h0, .int p0] [(h0, .inr (11, fs)), (t0, .inr (7, ft))] myT (fun (r : Int32) (w : va_W) => r = richesV p0 ∧ w = []) := by
  refine ofI (cc := cX11_riches) (maxL := 6) (ret := (some .int)) (by decide) rfl (Nat.le_of_ble_eq_true rfl) ?_
  intro p e s m args below meth c A ls hx hb hr hts hown hlocks hml hin hK hP hD hS hA hX hl
  have hown : s.vm.findClass RX11 = some m.cls := hown
  have hl : lv_has ls 6 [(0, .ref h0), (1, .int p0)] := hl
  refine lv_iload_n hx hb dX11_riches_0 rfl (lv_at hl 1 rfl) ?_
  refine lv_iconst (v := (-1)) hx hb dX11_riches_1 (by decide) ?_
  refine lv_icmp_eq (tgt := 26) hx hb dX11_riches_2 (by decide) (fun c_1 => ?_) (fun c_1 => ?_)
  · refine lv_bipush (v := (-2)) hx hb dX11_riches_26 (by decide) ?_
    refine lv_istore_n (lv' := [(2, .int (-2)), (0, .ref h0), (1, .int p0)]) hx hb dX11_riches_28 rfl hl (by decide) rfl (fun ls hl => ?_)
    refine lv_iconst (v := 0) hx hb dX11_riches_29 (by decide) ?_
    refine lv_istore_n (lv' := [(3, .int 0), (2, .int (-2)), (0, .ref h0), (1, .int p0)]) hx hb dX11_riches_30 rfl hl (by decide) rfl (fun ls hl => ?_)
    refine lv_iconst (v := 0) hx hb dX11_riches_31 (by decide) ?_
    refine lv_istore (lv' := [(4, .int 0), (3, .int 0), (2, .int (-2)), (0, .ref h0), (1, .int p0)]) hx hb dX11_riches_32 hl (by decide) rfl (fun ls hl => ?_)
    refine lv_iload hx hb dX11_riches_34 (lv_at hl 0 rfl) ?_
    refine lv_aload_n hx hb dX11_riches_36 rfl (lv_at hl 3 rfl) ?_
    refine va_get (ci := 11) (v := .ref t0) (C := RX11) (T := TX11) (N := 11) hx hb hts in_X11_riches_X11 hown hK hP 0 rfl rfl 10 (by decide) (hts (.fieldLink RX11 77 "HallTables" "town" "LHallTables$Town;") (List.mem_of_getElem? (i := 1) rfl)) (fun _ h9 => h9) e2 dX11_riches_37 ?_
    refine va_get (ci := 7) (v := .int 0) (C := RX7) (T := TX7) (N := 18) hx hb hts in_X11_riches_X7 hown hK hP 1 rfl rfl 1 (by decide) (hts (.fieldLink RX11 245 "HallTables$Town" "houses" "I") (List.mem_of_getElem? (i := 2) rfl)) (fun _ h9 => h9) e_isHouse dX11_riches_40 ?_
    refine lv_icmp_ge (tgt := 78) hx hb dX11_riches_43 (by decide) (fun _ => ?_) (fun c9 => absurd (by decide) c9)
    refine lv_iload_n hx hb dX11_riches_78 rfl (lv_at hl 2 rfl) ?_
    have hP := hP.sub (ws' := []) [] rfl
    have hD := hD.sub (ws' := []) [] (by decide +kernel) rfl
    exact endI hx hb hr hlocks [] rfl ⟨(if_pos c_1).symm, rfl⟩ hP hD hS (Nat.le_of_ble_eq_true rfl) (Nat.le_of_ble_eq_true rfl) dX11_riches_79
  · refine lv_aload_n hx hb dX11_riches_5 rfl (lv_at hl 0 rfl) ?_
    refine va_get (ci := 11) (v := .ref t0) (C := RX11) (T := TX11) (N := 11) hx hb hts in_X11_riches_X11 hown hK hP 0 rfl rfl 10 (by decide) (hts (.fieldLink RX11 77 "HallTables" "town" "LHallTables$Town;") (List.mem_of_getElem? (i := 1) rfl)) (fun _ h9 => h9) e2 dX11_riches_6 ?_
    refine lv_iload_n hx hb dX11_riches_9 rfl (lv_at hl 1 rfl) ?_
    refine cVi (As := [.int p0]) (rest := []) (wr := [(h0, .inr (11, fs))]) ⟨hx, hb, hml, hown, hts⟩ (c_X7_isHouse l D cy t0 ft p0 e_isHouse) (cwV 1 hts gX11_riches_X7_isHouse rfl rfl rfl (by decide +kernel) ⟨Nat.le_of_ble_eq_true rfl, Nat.le_of_ble_eq_true rfl⟩) hK hP hD hS hA [1] [0] ⟨rfl, rfl, by decide +kernel, by decide +kernel, by decide +kernel⟩ 0 7 rfl rfl myX_T rfl hl.1 rfl (Nat.le_of_ble_eq_true rfl) dX11_riches_10 ⟨Nat.le_of_ble_eq_true rfl, Nat.le_of_ble_eq_true rfl⟩ (fun r_2 w_3 H locs hw hP hD hS => ?_)
    obtain ⟨rfl, rfl⟩ := hw
    have hP : va_P D vwCl [(h0, .inr (11, fs)), (t0, .inr (7, ft))] H := hP
    have hD : va_D A [(h0, .inr (11, fs)), (t0, .inr (7, ft))] := hD
    refine lv_if_eq (tgt := 24) hx hb dX11_riches_13 (by decide) (fun _ => ?_) (fun c9 => absurd (by decide) c9)
    refine lv_iconst (v := (-1)) hx hb dX11_riches_24 (by decide) ?_
    have hP := hP.sub (ws' := []) [] rfl
    have hD := hD.sub (ws' := []) [] (by decide +kernel) rfl
    exact endI hx hb hr hlocks [] rfl ⟨(if_neg c_1).symm, rfl⟩ hP hD hS (Nat.le_of_ble_eq_true rfl) (Nat.le_of_ble_eq_true rfl) dX11_riches_25

set_option maxRecDepth 100000 in
set_option maxHeartbeats 4000000 in
/-- in(v, 0, -1): 0 -/
theorem c_X12_in0 (l : Launch) (D : va_G) (cy : Nat → ClassId) (p0 : Int32) : Cti l D cy yX12_in wsX12_in ({ frames := 0, cells := 0, slots := 0, locals := 0 } : Room) [.int p0, .int 0, .int (-1)] [] myT (fun (r : Int32) (w : va_W) => r = 0 ∧ w = []) := by
  refine ofI (cc := cX12_in) (maxL := 3) (ret := (some .boolean)) (by decide) rfl (Nat.le_of_ble_eq_true rfl) ?_
  intro p e s m args below meth c A ls hx hb hr hts hown hlocks hml hin hK hP hD hS hA hX hl
  have hown : s.vm.findClass RX12 = some m.cls := hown
  have hl : lv_has ls 3 [(0, .int p0), (1, .int 0), (2, .int (-1))] := hl
  refine lv_iload_n hx hb dX12_in_0 rfl (lv_at hl 0 rfl) ?_
  refine lv_iload_n hx hb dX12_in_1 rfl (lv_at hl 1 rfl) ?_
  refine lv_icmp_lt (tgt := 14) hx hb dX12_in_2 (by decide) (fun c_1 => ?_) (fun c_1 => ?_)
  · refine lv_iconst (v := 0) hx hb dX12_in_14 (by decide) ?_
    exact endI hx hb hr hlocks [] rfl ⟨rfl, rfl⟩ hP hD hS (Nat.le_of_ble_eq_true rfl) (Nat.le_of_ble_eq_true rfl) dX12_in_15
  · refine lv_iload_n hx hb dX12_in_5 rfl (lv_at hl 0 rfl) ?_
    refine lv_iload_n hx hb dX12_in_6 rfl (lv_at hl 2 rfl) ?_
    refine lv_icmp_gt (tgt := 14) hx hb dX12_in_7 (by decide) (fun _ => ?_) (fun c9 => absurd (i_neg1 c_1) c9)
    refine lv_iconst (v := 0) hx hb dX12_in_14 (by decide) ?_
    exact endI hx hb hr hlocks [] rfl ⟨rfl, rfl⟩ hP hD hS (Nat.le_of_ble_eq_true rfl) (Nat.le_of_ble_eq_true rfl) dX12_in_15

set_option maxRecDepth 100000 in
set_option maxHeartbeats 4000000 in
/-- in(v, a, b) -/
theorem c_X12_in (l : Launch) (D : va_G) (cy : Nat → ClassId) (p0 : Int32) (p1 : Int32) (p2 : Int32) : Cti l D cy yX12_in wsX12_in ({ frames := 0, cells := 0, slots := 0, locals := 0 } : Room) [.int p0, .int p1, .int p2] [] myT (fun (r : Int32) (w : va_W) => r = inV p0 p1 p2 ∧ w = []) := by
  refine ofI (cc := cX12_in) (maxL := 3) (ret := (some .boolean)) (by decide) rfl (Nat.le_of_ble_eq_true rfl) ?_
  intro p e s m args below meth c A ls hx hb hr hts hown hlocks hml hin hK hP hD hS hA hX hl
  have hown : s.vm.findClass RX12 = some m.cls := hown
  have hl : lv_has ls 3 [(0, .int p0), (1, .int p1), (2, .int p2)] := hl
  refine lv_iload_n hx hb dX12_in_0 rfl (lv_at hl 0 rfl) ?_
  refine lv_iload_n hx hb dX12_in_1 rfl (lv_at hl 1 rfl) ?_
  refine lv_icmp_lt (tgt := 14) hx hb dX12_in_2 (by decide) (fun c_1 => ?_) (fun c_1 => ?_)
  · refine lv_iconst (v := 0) hx hb dX12_in_14 (by decide) ?_
    exact endI hx hb hr hlocks [] rfl ⟨(inV_0a c_1), rfl⟩ hP hD hS (Nat.le_of_ble_eq_true rfl) (Nat.le_of_ble_eq_true rfl) dX12_in_15
  · refine lv_iload_n hx hb dX12_in_5 rfl (lv_at hl 0 rfl) ?_
    refine lv_iload_n hx hb dX12_in_6 rfl (lv_at hl 2 rfl) ?_
    refine lv_icmp_gt (tgt := 14) hx hb dX12_in_7 (by decide) (fun c_2 => ?_) (fun c_2 => ?_)
    · refine lv_iconst (v := 0) hx hb dX12_in_14 (by decide) ?_
      exact endI hx hb hr hlocks [] rfl ⟨(inV_0b c_2), rfl⟩ hP hD hS (Nat.le_of_ble_eq_true rfl) (Nat.le_of_ble_eq_true rfl) dX12_in_15
    · refine lv_iconst (v := 1) hx hb dX12_in_10 (by decide) ?_
      refine lv_goto (tgt := 15) hx hb dX12_in_11 (by decide) ?_
      exact endI hx hb hr hlocks [] rfl ⟨(inV_1 c_1 c_2), rfl⟩ hP hD hS (Nat.le_of_ble_eq_true rfl) (Nat.le_of_ble_eq_true rfl) dX12_in_15

theorem in_X12_isSort_X12 : ∀ w ∈ u_ws RX12 TX12 90, w ∈ wsX12_isSort := fun w h => (List.mem_cons_of_mem _ (List.mem_append_right _ h))
set_option maxRecDepth 100000 in
set_option maxHeartbeats 4000000 in
/-- isSort of a town without: 0 -/
theorem c_X12_isSort (l : Launch) (D : va_G) (cy : Nat → ClassId) (m0 : Nat) (fm : List Value) (aso : Nat) (gso : Nat → Int32) (p0 : Int32) (e_live : fm[18]? = some (.int 0)) (e_aso : fm[24]? = some (.ref aso)) (z_aso : ∀ j : Nat, j < 2 → gso j = 0) : Cti l D cy yX12_isSort wsX12_isSort ({ frames := 1, cells := 0, slots := 0, locals := 22 } : Room) [.ref m0, .int p0] [(m0, .inr (12, fm)), (aso, .inl (cy 0, 2, .inl gso))] myT (fun (r : Int32) (w : va_W) => r = 0 ∧ w = [(m0, .inr (12, fm)), (aso, .inl (cy 0, 2, .inl gso))]) := by
  refine ofI (cc := cX12_isSort) (maxL := 2) (ret := (some .boolean)) (by decide) rfl (Nat.le_of_ble_eq_true rfl) ?_
  intro p e s m args below meth c A ls hx hb hr hts hown hlocks hml hin hK hP hD hS hA hX hl
  have hown : s.vm.findClass RX12 = some m.cls := hown
  have hl : lv_has ls 2 [(0, .ref m0), (1, .int p0)] := hl
  refine lv_iload_n hx hb dX12_isSort_0 rfl (lv_at hl 1 rfl) ?_
  refine lv_iconst (v := 0) hx hb dX12_isSort_1 (by decide) ?_
  refine lv_aload_n hx hb dX12_isSort_2 rfl (lv_at hl 0 rfl) ?_
  refine va_get (ci := 12) (v := .ref aso) (C := RX12) (T := TX12) (N := 90) hx hb hts in_X12_isSort_X12 hown hK hP 0 rfl rfl 24 (by decide) (hts (.fieldLink RX12 49 "HallTablesModel" "sorts" "[I") (List.mem_of_getElem? (i := 1) rfl)) (fun _ h9 => h9) e_aso dX12_isSort_3 ?_
  refine lv_aload_n hx hb dX12_isSort_6 rfl (lv_at hl 0 rfl) ?_
  refine va_get (ci := 12) (v := .int 0) (C := RX12) (T := TX12) (N := 90) hx hb hts in_X12_isSort_X12 hown hK hP 0 rfl rfl 18 (by decide) (hts (.fieldLink RX12 266 "HallTablesModel" "live" "I") (List.mem_of_getElem? (i := 2) rfl)) (fun _ h9 => h9) e_live dX12_isSort_7 ?_
  refine aI hx hb hK hP 1 rfl 0 rfl (Nat.le_of_ble_eq_true rfl) (Nat.le_of_ble_eq_true rfl) dX12_isSort_10 ?_
  refine tpI (v := 0) (z_aso 0 (Nat.le_of_ble_eq_true rfl)) ?_
  refine lv_iconst (v := 1) hx hb dX12_isSort_11 (by decide) ?_
  refine lv_isub hx hb dX12_isSort_12 ?_
  refine tpI (v := (-1)) (by decide) ?_
  refine cSi (As := [.int p0, .int 0, .int (-1)]) (rest := []) (wr := [(m0, .inr (12, fm)), (aso, .inl (cy 0, 2, .inl gso))]) ⟨hx, hb, hml, hown, hts⟩ (c_X12_in0 l D cy p0 ) (va_cwS 3 hts gX12_isSort_X12_in rfl rfl rfl (by decide +kernel) ⟨Nat.le_of_ble_eq_true rfl, Nat.le_of_ble_eq_true rfl⟩) hK hP hD hS hA [] [0, 1] ⟨rfl, rfl, by decide +kernel, by decide +kernel, by decide +kernel⟩ myX_T rfl hl.1 rfl (Nat.le_of_ble_eq_true rfl) dX12_isSort_13 ⟨Nat.le_of_ble_eq_true rfl, Nat.le_of_ble_eq_true rfl⟩ (fun r_1 w_2 H locs hw hP hD hS => ?_)
  obtain ⟨rfl, rfl⟩ := hw
  have hP : va_P D vwCl [(m0, .inr (12, fm)), (aso, .inl (cy 0, 2, .inl gso))] H := hP
  have hD : va_D A [(m0, .inr (12, fm)), (aso, .inl (cy 0, 2, .inl gso))] := hD
  exact endI hx hb hr hlocks [(m0, .inr (12, fm)), (aso, .inl (cy 0, 2, .inl gso))] rfl ⟨rfl, rfl⟩ hP hD hS (Nat.le_of_ble_eq_true rfl) (Nat.le_of_ble_eq_true rfl) dX12_isSort_16

theorem in_X12_isHouse_X12 : ∀ w ∈ u_ws RX12 TX12 90, w ∈ wsX12_isHouse := fun w h => (List.mem_cons_of_mem _ (List.mem_append_right _ h))
set_option maxRecDepth 100000 in
set_option maxHeartbeats 4000000 in
/-- isHouse of a town without: 0 -/
theorem c_X12_isHouse (l : Launch) (D : va_G) (cy : Nat → ClassId) (m0 : Nat) (fm : List Value) (aho : Nat) (gho : Nat → Int32) (p0 : Int32) (e_live : fm[18]? = some (.int 0)) (e_aho : fm[26]? = some (.ref aho)) (z_aho : ∀ j : Nat, j < 2 → gho j = 0) : Cti l D cy yX12_isHouse wsX12_isHouse ({ frames := 1, cells := 0, slots := 0, locals := 22 } : Room) [.ref m0, .int p0] [(m0, .inr (12, fm)), (aho, .inl (cy 0, 2, .inl gho))] myT (fun (r : Int32) (w : va_W) => r = 0 ∧ w = [(m0, .inr (12, fm)), (aho, .inl (cy 0, 2, .inl gho))]) := by
  refine ofI (cc := cX12_isHouse) (maxL := 2) (ret := (some .boolean)) (by decide) rfl (Nat.le_of_ble_eq_true rfl) ?_
  intro p e s m args below meth c A ls hx hb hr hts hown hlocks hml hin hK hP hD hS hA hX hl
  have hown : s.vm.findClass RX12 = some m.cls := hown
  have hl : lv_has ls 2 [(0, .ref m0), (1, .int p0)] := hl
  refine lv_iload_n hx hb dX12_isHouse_0 rfl (lv_at hl 1 rfl) ?_
  refine lv_iconst (v := 0) hx hb dX12_isHouse_1 (by decide) ?_
  refine lv_aload_n hx hb dX12_isHouse_2 rfl (lv_at hl 0 rfl) ?_
  refine va_get (ci := 12) (v := .ref aho) (C := RX12) (T := TX12) (N := 90) hx hb hts in_X12_isHouse_X12 hown hK hP 0 rfl rfl 26 (by decide) (hts (.fieldLink RX12 55 "HallTablesModel" "houses" "[I") (List.mem_of_getElem? (i := 1) rfl)) (fun _ h9 => h9) e_aho dX12_isHouse_3 ?_
  refine lv_aload_n hx hb dX12_isHouse_6 rfl (lv_at hl 0 rfl) ?_
  refine va_get (ci := 12) (v := .int 0) (C := RX12) (T := TX12) (N := 90) hx hb hts in_X12_isHouse_X12 hown hK hP 0 rfl rfl 18 (by decide) (hts (.fieldLink RX12 266 "HallTablesModel" "live" "I") (List.mem_of_getElem? (i := 2) rfl)) (fun _ h9 => h9) e_live dX12_isHouse_7 ?_
  refine aI hx hb hK hP 1 rfl 0 rfl (Nat.le_of_ble_eq_true rfl) (Nat.le_of_ble_eq_true rfl) dX12_isHouse_10 ?_
  refine tpI (v := 0) (z_aho 0 (Nat.le_of_ble_eq_true rfl)) ?_
  refine lv_iconst (v := 1) hx hb dX12_isHouse_11 (by decide) ?_
  refine lv_isub hx hb dX12_isHouse_12 ?_
  refine tpI (v := (-1)) (by decide) ?_
  refine cSi (As := [.int p0, .int 0, .int (-1)]) (rest := []) (wr := [(m0, .inr (12, fm)), (aho, .inl (cy 0, 2, .inl gho))]) ⟨hx, hb, hml, hown, hts⟩ (c_X12_in0 l D cy p0 ) (va_cwS 3 hts gX12_isHouse_X12_in rfl rfl rfl (by decide +kernel) ⟨Nat.le_of_ble_eq_true rfl, Nat.le_of_ble_eq_true rfl⟩) hK hP hD hS hA [] [0, 1] ⟨rfl, rfl, by decide +kernel, by decide +kernel, by decide +kernel⟩ myX_T rfl hl.1 rfl (Nat.le_of_ble_eq_true rfl) dX12_isHouse_13 ⟨Nat.le_of_ble_eq_true rfl, Nat.le_of_ble_eq_true rfl⟩ (fun r_1 w_2 H locs hw hP hD hS => ?_)
  obtain ⟨rfl, rfl⟩ := hw
  have hP : va_P D vwCl [(m0, .inr (12, fm)), (aho, .inl (cy 0, 2, .inl gho))] H := hP
  have hD : va_D A [(m0, .inr (12, fm)), (aho, .inl (cy 0, 2, .inl gho))] := hD
  exact endI hx hb hr hlocks [(m0, .inr (12, fm)), (aho, .inl (cy 0, 2, .inl gho))] rfl ⟨rfl, rfl⟩ hP hD hS (Nat.le_of_ble_eq_true rfl) (Nat.le_of_ble_eq_true rfl) dX12_isHouse_16

theorem in_X12_isMan_X12 : ∀ w ∈ u_ws RX12 TX12 90, w ∈ wsX12_isMan := fun w h => (List.mem_cons_of_mem _ (List.mem_append_right _ h))
set_option maxRecDepth 100000 in
set_option maxHeartbeats 4000000 in
/-- isMan of a town without: 0 -/
theorem c_X12_isMan (l : Launch) (D : va_G) (cy : Nat → ClassId) (m0 : Nat) (fm : List Value) (ame : Nat) (gme : Nat → Int32) (p0 : Int32) (e_live : fm[18]? = some (.int 0)) (e_ame : fm[32]? = some (.ref ame)) (z_ame : ∀ j : Nat, j < 2 → gme j = 0) : Cti l D cy yX12_isMan wsX12_isMan ({ frames := 1, cells := 0, slots := 0, locals := 22 } : Room) [.ref m0, .int p0] [(m0, .inr (12, fm)), (ame, .inl (cy 0, 2, .inl gme))] myT (fun (r : Int32) (w : va_W) => r = 0 ∧ w = [(m0, .inr (12, fm)), (ame, .inl (cy 0, 2, .inl gme))]) := by
  refine ofI (cc := cX12_isMan) (maxL := 2) (ret := (some .boolean)) (by decide) rfl (Nat.le_of_ble_eq_true rfl) ?_
  intro p e s m args below meth c A ls hx hb hr hts hown hlocks hml hin hK hP hD hS hA hX hl
  have hown : s.vm.findClass RX12 = some m.cls := hown
  have hl : lv_has ls 2 [(0, .ref m0), (1, .int p0)] := hl
  refine lv_iload_n hx hb dX12_isMan_0 rfl (lv_at hl 1 rfl) ?_
  refine lv_iconst (v := 0) hx hb dX12_isMan_1 (by decide) ?_
  refine lv_aload_n hx hb dX12_isMan_2 rfl (lv_at hl 0 rfl) ?_
  refine va_get (ci := 12) (v := .ref ame) (C := RX12) (T := TX12) (N := 90) hx hb hts in_X12_isMan_X12 hown hK hP 0 rfl rfl 32 (by decide) (hts (.fieldLink RX12 74 "HallTablesModel" "men" "[I") (List.mem_of_getElem? (i := 1) rfl)) (fun _ h9 => h9) e_ame dX12_isMan_3 ?_
  refine lv_aload_n hx hb dX12_isMan_6 rfl (lv_at hl 0 rfl) ?_
  refine va_get (ci := 12) (v := .int 0) (C := RX12) (T := TX12) (N := 90) hx hb hts in_X12_isMan_X12 hown hK hP 0 rfl rfl 18 (by decide) (hts (.fieldLink RX12 266 "HallTablesModel" "live" "I") (List.mem_of_getElem? (i := 2) rfl)) (fun _ h9 => h9) e_live dX12_isMan_7 ?_
  refine aI hx hb hK hP 1 rfl 0 rfl (Nat.le_of_ble_eq_true rfl) (Nat.le_of_ble_eq_true rfl) dX12_isMan_10 ?_
  refine tpI (v := 0) (z_ame 0 (Nat.le_of_ble_eq_true rfl)) ?_
  refine lv_iconst (v := 1) hx hb dX12_isMan_11 (by decide) ?_
  refine lv_isub hx hb dX12_isMan_12 ?_
  refine tpI (v := (-1)) (by decide) ?_
  refine cSi (As := [.int p0, .int 0, .int (-1)]) (rest := []) (wr := [(m0, .inr (12, fm)), (ame, .inl (cy 0, 2, .inl gme))]) ⟨hx, hb, hml, hown, hts⟩ (c_X12_in0 l D cy p0 ) (va_cwS 3 hts gX12_isMan_X12_in rfl rfl rfl (by decide +kernel) ⟨Nat.le_of_ble_eq_true rfl, Nat.le_of_ble_eq_true rfl⟩) hK hP hD hS hA [] [0, 1] ⟨rfl, rfl, by decide +kernel, by decide +kernel, by decide +kernel⟩ myX_T rfl hl.1 rfl (Nat.le_of_ble_eq_true rfl) dX12_isMan_13 ⟨Nat.le_of_ble_eq_true rfl, Nat.le_of_ble_eq_true rfl⟩ (fun r_1 w_2 H locs hw hP hD hS => ?_)
  obtain ⟨rfl, rfl⟩ := hw
  have hP : va_P D vwCl [(m0, .inr (12, fm)), (ame, .inl (cy 0, 2, .inl gme))] H := hP
  have hD : va_D A [(m0, .inr (12, fm)), (ame, .inl (cy 0, 2, .inl gme))] := hD
  exact endI hx hb hr hlocks [(m0, .inr (12, fm)), (ame, .inl (cy 0, 2, .inl gme))] rfl ⟨rfl, rfl⟩ hP hD hS (Nat.le_of_ble_eq_true rfl) (Nat.le_of_ble_eq_true rfl) dX12_isMan_16

set_option maxRecDepth 100000 in
set_option maxHeartbeats 4000000 in
/-- the reference: canAsk on a new object: 0 -/
theorem c_X12_canAsk (l : Launch) (D : va_G) (cy : Nat → ClassId) (m0 : Nat) (fm : List Value) (ame : Nat) (gme : Nat → Int32) (p0 : Int32) (p1 : Int32) (p2 : Int32) (p3 : Int32) (e_live : fm[18]? = some (.int 0)) (e_ame : fm[32]? = some (.ref ame)) (z_ame : ∀ j : Nat, j < 2 → gme j = 0) : Cti l D cy yX12_canAsk wsX12_canAsk ({ frames := 2, cells := 0, slots := 0, locals := 43 } : Room) [.ref m0, .int p0, .int p1, .int p2, .int p3] [(m0, .inr (12, fm)), (ame, .inl (cy 0, 2, .inl gme))] myT (fun (r : Int32) (w : va_W) => r = 0 ∧ w = [(m0, .inr (12, fm)), (ame, .inl (cy 0, 2, .inl gme))]) := by
  refine ofI (cc := cX12_canAsk) (maxL := 5) (ret := (some .boolean)) (by decide) rfl (Nat.le_of_ble_eq_true rfl) ?_
  intro p e s m args below meth c A ls hx hb hr hts hown hlocks hml hin hK hP hD hS hA hX hl
  have hown : s.vm.findClass RX12 = some m.cls := hown
  have hl : lv_has ls 5 [(0, .ref m0), (1, .int p0), (2, .int p1), (3, .int p2), (4, .int p3)] := hl
  refine lv_aload_n hx hb dX12_canAsk_0 rfl (lv_at hl 0 rfl) ?_
  refine lv_iload_n hx hb dX12_canAsk_1 rfl (lv_at hl 1 rfl) ?_
  refine cVi (As := [.int p0]) (rest := []) (wr := []) ⟨hx, hb, hml, hown, hts⟩ (c_X12_isMan l D cy m0 fm ame gme p0 e_live e_ame z_ame) (cwV 1 hts gX12_canAsk_X12_isMan rfl rfl rfl (by decide +kernel) ⟨Nat.le_of_ble_eq_true rfl, Nat.le_of_ble_eq_true rfl⟩) hK hP hD hS hA [0, 1] [] ⟨rfl, rfl, by decide +kernel, by decide +kernel, by decide +kernel⟩ 0 12 rfl rfl myX_T rfl hl.1 rfl (Nat.le_of_ble_eq_true rfl) dX12_canAsk_2 ⟨Nat.le_of_ble_eq_true rfl, Nat.le_of_ble_eq_true rfl⟩ (fun r_1 w_2 H locs hw hP hD hS => ?_)
  obtain ⟨rfl, rfl⟩ := hw
  have hP : va_P D vwCl [(m0, .inr (12, fm)), (ame, .inl (cy 0, 2, .inl gme))] H := hP
  have hD : va_D A [(m0, .inr (12, fm)), (ame, .inl (cy 0, 2, .inl gme))] := hD
  refine lv_if_eq (tgt := 43) hx hb dX12_canAsk_5 (by decide) (fun _ => ?_) (fun c9 => absurd (by decide) c9)
  refine lv_iconst (v := 0) hx hb dX12_canAsk_43 (by decide) ?_
  exact endI hx hb hr hlocks [(m0, .inr (12, fm)), (ame, .inl (cy 0, 2, .inl gme))] rfl ⟨rfl, rfl⟩ hP hD hS (Nat.le_of_ble_eq_true rfl) (Nat.le_of_ble_eq_true rfl) dX12_canAsk_44

set_option maxRecDepth 100000 in
set_option maxHeartbeats 4000000 in
/-- the reference: door on a new object: (-1) -/
theorem c_X12_door (l : Launch) (D : va_G) (cy : Nat → ClassId) (m0 : Nat) (fm : List Value) (aho : Nat) (gho : Nat → Int32) (p0 : Int32) (p1 : Int32) (e_live : fm[18]? = some (.int 0)) (e_aho : fm[26]? = some (.ref aho)) (z_aho : ∀ j : Nat, j < 2 → gho j = 0) : Cti l D cy yX12_door wsX12_door ({ frames := 2, cells := 0, slots := 0, locals := 43 } : Room) [.ref m0, .int p0, .int p1] [(m0, .inr (12, fm)), (aho, .inl (cy 0, 2, .inl gho))] myT (fun (r : Int32) (w : va_W) => r = (-1) ∧ w = []) := by
  refine ofI (cc := cX12_door) (maxL := 3) (ret := (some .int)) (by decide) rfl (Nat.le_of_ble_eq_true rfl) ?_
  intro p e s m args below meth c A ls hx hb hr hts hown hlocks hml hin hK hP hD hS hA hX hl
  have hown : s.vm.findClass RX12 = some m.cls := hown
  have hl : lv_has ls 3 [(0, .ref m0), (1, .int p0), (2, .int p1)] := hl
  refine lv_aload_n hx hb dX12_door_0 rfl (lv_at hl 0 rfl) ?_
  refine lv_iload_n hx hb dX12_door_1 rfl (lv_at hl 1 rfl) ?_
  refine cVi (As := [.int p0]) (rest := []) (wr := []) ⟨hx, hb, hml, hown, hts⟩ (c_X12_isHouse l D cy m0 fm aho gho p0 e_live e_aho z_aho) (cwV 1 hts gX12_door_X12_isHouse rfl rfl rfl (by decide +kernel) ⟨Nat.le_of_ble_eq_true rfl, Nat.le_of_ble_eq_true rfl⟩) hK hP hD hS hA [0, 1] [] ⟨rfl, rfl, by decide +kernel, by decide +kernel, by decide +kernel⟩ 0 12 rfl rfl myX_T rfl hl.1 rfl (Nat.le_of_ble_eq_true rfl) dX12_door_2 ⟨Nat.le_of_ble_eq_true rfl, Nat.le_of_ble_eq_true rfl⟩ (fun r_1 w_2 H locs hw hP hD hS => ?_)
  obtain ⟨rfl, rfl⟩ := hw
  have hP : va_P D vwCl [(m0, .inr (12, fm)), (aho, .inl (cy 0, 2, .inl gho))] H := hP
  have hD : va_D A [(m0, .inr (12, fm)), (aho, .inl (cy 0, 2, .inl gho))] := hD
  refine lv_if_eq (tgt := 30) hx hb dX12_door_5 (by decide) (fun _ => ?_) (fun c9 => absurd (by decide) c9)
  refine lv_iconst (v := (-1)) hx hb dX12_door_30 (by decide) ?_
  have hP := hP.sub (ws' := []) [] rfl
  have hD := hD.sub (ws' := []) [] (by decide +kernel) rfl
  exact endI hx hb hr hlocks [] rfl ⟨rfl, rfl⟩ hP hD hS (Nat.le_of_ble_eq_true rfl) (Nat.le_of_ble_eq_true rfl) dX12_door_31

set_option maxRecDepth 100000 in
set_option maxHeartbeats 4000000 in
/-- the reference: worth on a new object: (-1) -/
theorem c_X12_worth (l : Launch) (D : va_G) (cy : Nat → ClassId) (m0 : Nat) (fm : List Value) (aso : Nat) (gso : Nat → Int32) (p0 : Int32) (p1 : Int32) (e_live : fm[18]? = some (.int 0)) (e_aso : fm[24]? = some (.ref aso)) (z_aso : ∀ j : Nat, j < 2 → gso j = 0) : Cti l D cy yX12_worth wsX12_worth ({ frames := 2, cells := 0, slots := 0, locals := 43 } : Room) [.ref m0, .int p0, .int p1] [(m0, .inr (12, fm)), (aso, .inl (cy 0, 2, .inl gso))] myT (fun (r : Int32) (w : va_W) => r = (-1) ∧ w = []) := by
  refine ofI (cc := cX12_worth) (maxL := 3) (ret := (some .int)) (by decide) rfl (Nat.le_of_ble_eq_true rfl) ?_
  intro p e s m args below meth c A ls hx hb hr hts hown hlocks hml hin hK hP hD hS hA hX hl
  have hown : s.vm.findClass RX12 = some m.cls := hown
  have hl : lv_has ls 3 [(0, .ref m0), (1, .int p0), (2, .int p1)] := hl
  refine lv_aload_n hx hb dX12_worth_0 rfl (lv_at hl 0 rfl) ?_
  refine lv_iload_n hx hb dX12_worth_1 rfl (lv_at hl 2 rfl) ?_
  refine cVi (As := [.int p1]) (rest := []) (wr := []) ⟨hx, hb, hml, hown, hts⟩ (c_X12_isSort l D cy m0 fm aso gso p1 e_live e_aso z_aso) (cwV 1 hts gX12_worth_X12_isSort rfl rfl rfl (by decide +kernel) ⟨Nat.le_of_ble_eq_true rfl, Nat.le_of_ble_eq_true rfl⟩) hK hP hD hS hA [0, 1] [] ⟨rfl, rfl, by decide +kernel, by decide +kernel, by decide +kernel⟩ 0 12 rfl rfl myX_T rfl hl.1 rfl (Nat.le_of_ble_eq_true rfl) dX12_worth_2 ⟨Nat.le_of_ble_eq_true rfl, Nat.le_of_ble_eq_true rfl⟩ (fun r_1 w_2 H locs hw hP hD hS => ?_)
  obtain ⟨rfl, rfl⟩ := hw
  have hP : va_P D vwCl [(m0, .inr (12, fm)), (aso, .inl (cy 0, 2, .inl gso))] H := hP
  have hD : va_D A [(m0, .inr (12, fm)), (aso, .inl (cy 0, 2, .inl gso))] := hD
  refine lv_if_eq (tgt := 21) hx hb dX12_worth_5 (by decide) (fun _ => ?_) (fun c9 => absurd (by decide) c9)
  refine lv_iconst (v := (-1)) hx hb dX12_worth_21 (by decide) ?_
  have hP := hP.sub (ws' := []) [] rfl
  have hD := hD.sub (ws' := []) [] (by decide +kernel) rfl
  exact endI hx hb hr hlocks [] rfl ⟨rfl, rfl⟩ hP hD hS (Nat.le_of_ble_eq_true rfl) (Nat.le_of_ble_eq_true rfl) dX12_worth_22

set_option maxRecDepth 100000 in
set_option maxHeartbeats 4000000 in
/-- the reference: table on a new object: (-1) -/
theorem c_X12_table (l : Launch) (D : va_G) (cy : Nat → ClassId) (m0 : Nat) (fm : List Value) (aho : Nat) (gho : Nat → Int32) (p0 : Int32) (p1 : Int32) (e_live : fm[18]? = some (.int 0)) (e_aho : fm[26]? = some (.ref aho)) (z_aho : ∀ j : Nat, j < 2 → gho j = 0) : Cti l D cy yX12_table wsX12_table ({ frames := 2, cells := 0, slots := 0, locals := 43 } : Room) [.ref m0, .int p0, .int p1] [(m0, .inr (12, fm)), (aho, .inl (cy 0, 2, .inl gho))] myT (fun (r : Int32) (w : va_W) => r = (-1) ∧ w = []) := by
  refine ofI (cc := cX12_table) (maxL := 3) (ret := (some .int)) (by decide) rfl (Nat.le_of_ble_eq_true rfl) ?_
  intro p e s m args below meth c A ls hx hb hr hts hown hlocks hml hin hK hP hD hS hA hX hl
  have hown : s.vm.findClass RX12 = some m.cls := hown
  have hl : lv_has ls 3 [(0, .ref m0), (1, .int p0), (2, .int p1)] := hl
  refine lv_aload_n hx hb dX12_table_0 rfl (lv_at hl 0 rfl) ?_
  refine lv_iload_n hx hb dX12_table_1 rfl (lv_at hl 1 rfl) ?_
  refine cVi (As := [.int p0]) (rest := []) (wr := []) ⟨hx, hb, hml, hown, hts⟩ (c_X12_isHouse l D cy m0 fm aho gho p0 e_live e_aho z_aho) (cwV 1 hts gX12_table_X12_isHouse rfl rfl rfl (by decide +kernel) ⟨Nat.le_of_ble_eq_true rfl, Nat.le_of_ble_eq_true rfl⟩) hK hP hD hS hA [0, 1] [] ⟨rfl, rfl, by decide +kernel, by decide +kernel, by decide +kernel⟩ 0 12 rfl rfl myX_T rfl hl.1 rfl (Nat.le_of_ble_eq_true rfl) dX12_table_2 ⟨Nat.le_of_ble_eq_true rfl, Nat.le_of_ble_eq_true rfl⟩ (fun r_1 w_2 H locs hw hP hD hS => ?_)
  obtain ⟨rfl, rfl⟩ := hw
  have hP : va_P D vwCl [(m0, .inr (12, fm)), (aho, .inl (cy 0, 2, .inl gho))] H := hP
  have hD : va_D A [(m0, .inr (12, fm)), (aho, .inl (cy 0, 2, .inl gho))] := hD
  refine lv_if_eq (tgt := 29) hx hb dX12_table_5 (by decide) (fun _ => ?_) (fun c9 => absurd (by decide) c9)
  refine lv_iconst (v := (-1)) hx hb dX12_table_29 (by decide) ?_
  have hP := hP.sub (ws' := []) [] rfl
  have hD := hD.sub (ws' := []) [] (by decide +kernel) rfl
  exact endI hx hb hr hlocks [] rfl ⟨rfl, rfl⟩ hP hD hS (Nat.le_of_ble_eq_true rfl) (Nat.le_of_ble_eq_true rfl) dX12_table_30

set_option maxRecDepth 100000 in
set_option maxHeartbeats 4000000 in
/-- the reference: man on a new object: (-1) -/
theorem c_X12_man (l : Launch) (D : va_G) (cy : Nat → ClassId) (m0 : Nat) (fm : List Value) (ame : Nat) (gme : Nat → Int32) (p0 : Int32) (p1 : Int32) (e_live : fm[18]? = some (.int 0)) (e_ame : fm[32]? = some (.ref ame)) (z_ame : ∀ j : Nat, j < 2 → gme j = 0) : Cti l D cy yX12_man wsX12_man ({ frames := 2, cells := 0, slots := 0, locals := 43 } : Room) [.ref m0, .int p0, .int p1] [(m0, .inr (12, fm)), (ame, .inl (cy 0, 2, .inl gme))] myT (fun (r : Int32) (w : va_W) => r = (-1) ∧ w = []) := by
  refine ofI (cc := cX12_man) (maxL := 3) (ret := (some .int)) (by decide) rfl (Nat.le_of_ble_eq_true rfl) ?_
  intro p e s m args below meth c A ls hx hb hr hts hown hlocks hml hin hK hP hD hS hA hX hl
  have hown : s.vm.findClass RX12 = some m.cls := hown
  have hl : lv_has ls 3 [(0, .ref m0), (1, .int p0), (2, .int p1)] := hl
  refine lv_aload_n hx hb dX12_man_0 rfl (lv_at hl 0 rfl) ?_
  refine lv_iload_n hx hb dX12_man_1 rfl (lv_at hl 1 rfl) ?_
  refine cVi (As := [.int p0]) (rest := []) (wr := []) ⟨hx, hb, hml, hown, hts⟩ (c_X12_isMan l D cy m0 fm ame gme p0 e_live e_ame z_ame) (cwV 1 hts gX12_man_X12_isMan rfl rfl rfl (by decide +kernel) ⟨Nat.le_of_ble_eq_true rfl, Nat.le_of_ble_eq_true rfl⟩) hK hP hD hS hA [0, 1] [] ⟨rfl, rfl, by decide +kernel, by decide +kernel, by decide +kernel⟩ 0 12 rfl rfl myX_T rfl hl.1 rfl (Nat.le_of_ble_eq_true rfl) dX12_man_2 ⟨Nat.le_of_ble_eq_true rfl, Nat.le_of_ble_eq_true rfl⟩ (fun r_1 w_2 H locs hw hP hD hS => ?_)
  obtain ⟨rfl, rfl⟩ := hw
  have hP : va_P D vwCl [(m0, .inr (12, fm)), (ame, .inl (cy 0, 2, .inl gme))] H := hP
  have hD : va_D A [(m0, .inr (12, fm)), (ame, .inl (cy 0, 2, .inl gme))] := hD
  refine lv_if_ne (tgt := 10) hx hb dX12_man_5 (by decide) (fun c9 => absurd (by decide) c9) (fun _ => ?_)
  refine lv_iconst (v := (-1)) hx hb dX12_man_8 (by decide) ?_
  have hP := hP.sub (ws' := []) [] rfl
  have hD := hD.sub (ws' := []) [] (by decide +kernel) rfl
  exact endI hx hb hr hlocks [] rfl ⟨rfl, rfl⟩ hP hD hS (Nat.le_of_ble_eq_true rfl) (Nat.le_of_ble_eq_true rfl) dX12_man_9

set_option maxRecDepth 100000 in
set_option maxHeartbeats 4000000 in
/-- the reference: has on a new object: (-1) -/
theorem c_X12_has (l : Launch) (D : va_G) (cy : Nat → ClassId) (m0 : Nat) (fm : List Value) (ame : Nat) (gme : Nat → Int32) (p0 : Int32) (p1 : Int32) (e_live : fm[18]? = some (.int 0)) (e_ame : fm[32]? = some (.ref ame)) (z_ame : ∀ j : Nat, j < 2 → gme j = 0) : Cti l D cy yX12_has wsX12_has ({ frames := 2, cells := 0, slots := 0, locals := 43 } : Room) [.ref m0, .int p0, .int p1] [(m0, .inr (12, fm)), (ame, .inl (cy 0, 2, .inl gme))] myT (fun (r : Int32) (w : va_W) => r = (-1) ∧ w = []) := by
  refine ofI (cc := cX12_has) (maxL := 3) (ret := (some .int)) (by decide) rfl (Nat.le_of_ble_eq_true rfl) ?_
  intro p e s m args below meth c A ls hx hb hr hts hown hlocks hml hin hK hP hD hS hA hX hl
  have hown : s.vm.findClass RX12 = some m.cls := hown
  have hl : lv_has ls 3 [(0, .ref m0), (1, .int p0), (2, .int p1)] := hl
  refine lv_aload_n hx hb dX12_has_0 rfl (lv_at hl 0 rfl) ?_
  refine lv_iload_n hx hb dX12_has_1 rfl (lv_at hl 1 rfl) ?_
  refine cVi (As := [.int p0]) (rest := []) (wr := []) ⟨hx, hb, hml, hown, hts⟩ (c_X12_isMan l D cy m0 fm ame gme p0 e_live e_ame z_ame) (cwV 1 hts gX12_has_X12_isMan rfl rfl rfl (by decide +kernel) ⟨Nat.le_of_ble_eq_true rfl, Nat.le_of_ble_eq_true rfl⟩) hK hP hD hS hA [0, 1] [] ⟨rfl, rfl, by decide +kernel, by decide +kernel, by decide +kernel⟩ 0 12 rfl rfl myX_T rfl hl.1 rfl (Nat.le_of_ble_eq_true rfl) dX12_has_2 ⟨Nat.le_of_ble_eq_true rfl, Nat.le_of_ble_eq_true rfl⟩ (fun r_1 w_2 H locs hw hP hD hS => ?_)
  obtain ⟨rfl, rfl⟩ := hw
  have hP : va_P D vwCl [(m0, .inr (12, fm)), (ame, .inl (cy 0, 2, .inl gme))] H := hP
  have hD : va_D A [(m0, .inr (12, fm)), (ame, .inl (cy 0, 2, .inl gme))] := hD
  refine lv_if_eq (tgt := 28) hx hb dX12_has_5 (by decide) (fun _ => ?_) (fun c9 => absurd (by decide) c9)
  refine lv_iconst (v := (-1)) hx hb dX12_has_28 (by decide) ?_
  have hP := hP.sub (ws' := []) [] rfl
  have hD := hD.sub (ws' := []) [] (by decide +kernel) rfl
  exact endI hx hb hr hlocks [] rfl ⟨rfl, rfl⟩ hP hD hS (Nat.le_of_ble_eq_true rfl) (Nat.le_of_ble_eq_true rfl) dX12_has_29

set_option maxRecDepth 100000 in
set_option maxHeartbeats 4000000 in
/-- the reference: may on a new object: (-1) -/
theorem c_X12_may (l : Launch) (D : va_G) (cy : Nat → ClassId) (m0 : Nat) (fm : List Value) (ame : Nat) (gme : Nat → Int32) (p0 : Int32) (p1 : Int32) (p2 : Int32) (e_live : fm[18]? = some (.int 0)) (e_ame : fm[32]? = some (.ref ame)) (z_ame : ∀ j : Nat, j < 2 → gme j = 0) : Cti l D cy yX12_may wsX12_may ({ frames := 2, cells := 0, slots := 0, locals := 43 } : Room) [.ref m0, .int p0, .int p1, .int p2] [(m0, .inr (12, fm)), (ame, .inl (cy 0, 2, .inl gme))] myT (fun (r : Int32) (w : va_W) => r = (-1) ∧ w = []) := by
  refine ofI (cc := cX12_may) (maxL := 4) (ret := (some .int)) (by decide) rfl (Nat.le_of_ble_eq_true rfl) ?_
  intro p e s m args below meth c A ls hx hb hr hts hown hlocks hml hin hK hP hD hS hA hX hl
  have hown : s.vm.findClass RX12 = some m.cls := hown
  have hl : lv_has ls 4 [(0, .ref m0), (1, .int p0), (2, .int p1), (3, .int p2)] := hl
  refine lv_aload_n hx hb dX12_may_0 rfl (lv_at hl 0 rfl) ?_
  refine lv_iload_n hx hb dX12_may_1 rfl (lv_at hl 1 rfl) ?_
  refine cVi (As := [.int p0]) (rest := []) (wr := []) ⟨hx, hb, hml, hown, hts⟩ (c_X12_isMan l D cy m0 fm ame gme p0 e_live e_ame z_ame) (cwV 1 hts gX12_may_X12_isMan rfl rfl rfl (by decide +kernel) ⟨Nat.le_of_ble_eq_true rfl, Nat.le_of_ble_eq_true rfl⟩) hK hP hD hS hA [0, 1] [] ⟨rfl, rfl, by decide +kernel, by decide +kernel, by decide +kernel⟩ 0 12 rfl rfl myX_T rfl hl.1 rfl (Nat.le_of_ble_eq_true rfl) dX12_may_2 ⟨Nat.le_of_ble_eq_true rfl, Nat.le_of_ble_eq_true rfl⟩ (fun r_1 w_2 H locs hw hP hD hS => ?_)
  obtain ⟨rfl, rfl⟩ := hw
  have hP : va_P D vwCl [(m0, .inr (12, fm)), (ame, .inl (cy 0, 2, .inl gme))] H := hP
  have hD : va_D A [(m0, .inr (12, fm)), (ame, .inl (cy 0, 2, .inl gme))] := hD
  refine lv_if_eq (tgt := 33) hx hb dX12_may_5 (by decide) (fun _ => ?_) (fun c9 => absurd (by decide) c9)
  refine lv_iconst (v := (-1)) hx hb dX12_may_33 (by decide) ?_
  have hP := hP.sub (ws' := []) [] rfl
  have hD := hD.sub (ws' := []) [] (by decide +kernel) rfl
  exact endI hx hb hr hlocks [] rfl ⟨rfl, rfl⟩ hP hD hS (Nat.le_of_ble_eq_true rfl) (Nat.le_of_ble_eq_true rfl) dX12_may_34

set_option maxRecDepth 100000 in
set_option maxHeartbeats 4000000 in
/-- the reference: go on a new object: (-1) -/
theorem c_X12_go (l : Launch) (D : va_G) (cy : Nat → ClassId) (m0 : Nat) (fm : List Value) (ame : Nat) (gme : Nat → Int32) (p0 : Int32) (p1 : Int32) (p2 : Int32) (e_live : fm[18]? = some (.int 0)) (e_ame : fm[32]? = some (.ref ame)) (z_ame : ∀ j : Nat, j < 2 → gme j = 0) : Cti l D cy yX12_go wsX12_go ({ frames := 2, cells := 0, slots := 0, locals := 43 } : Room) [.ref m0, .int p0, .int p1, .int p2] [(m0, .inr (12, fm)), (ame, .inl (cy 0, 2, .inl gme))] myT (fun (r : Int32) (w : va_W) => r = (-1) ∧ w = []) := by
  refine ofI (cc := cX12_go) (maxL := 6) (ret := (some .int)) (by decide) rfl (Nat.le_of_ble_eq_true rfl) ?_
  intro p e s m args below meth c A ls hx hb hr hts hown hlocks hml hin hK hP hD hS hA hX hl
  have hown : s.vm.findClass RX12 = some m.cls := hown
  have hl : lv_has ls 6 [(0, .ref m0), (1, .int p0), (2, .int p1), (3, .int p2)] := hl
  refine lv_aload_n hx hb dX12_go_0 rfl (lv_at hl 0 rfl) ?_
  refine lv_iload_n hx hb dX12_go_1 rfl (lv_at hl 1 rfl) ?_
  refine cVi (As := [.int p0]) (rest := []) (wr := []) ⟨hx, hb, hml, hown, hts⟩ (c_X12_isMan l D cy m0 fm ame gme p0 e_live e_ame z_ame) (cwV 1 hts gX12_go_X12_isMan rfl rfl rfl (by decide +kernel) ⟨Nat.le_of_ble_eq_true rfl, Nat.le_of_ble_eq_true rfl⟩) hK hP hD hS hA [0, 1] [] ⟨rfl, rfl, by decide +kernel, by decide +kernel, by decide +kernel⟩ 0 12 rfl rfl myX_T rfl hl.1 rfl (Nat.le_of_ble_eq_true rfl) dX12_go_2 ⟨Nat.le_of_ble_eq_true rfl, Nat.le_of_ble_eq_true rfl⟩ (fun r_1 w_2 H locs hw hP hD hS => ?_)
  obtain ⟨rfl, rfl⟩ := hw
  have hP : va_P D vwCl [(m0, .inr (12, fm)), (ame, .inl (cy 0, 2, .inl gme))] H := hP
  have hD : va_D A [(m0, .inr (12, fm)), (ame, .inl (cy 0, 2, .inl gme))] := hD
  refine lv_if_eq (tgt := 29) hx hb dX12_go_5 (by decide) (fun _ => ?_) (fun c9 => absurd (by decide) c9)
  refine lv_iconst (v := (-1)) hx hb dX12_go_29 (by decide) ?_
  have hP := hP.sub (ws' := []) [] rfl
  have hD := hD.sub (ws' := []) [] (by decide +kernel) rfl
  exact endI hx hb hr hlocks [] rfl ⟨rfl, rfl⟩ hP hD hS (Nat.le_of_ble_eq_true rfl) (Nat.le_of_ble_eq_true rfl) dX12_go_30

set_option maxRecDepth 100000 in
set_option maxHeartbeats 4000000 in
/-- the reference: buy on a new object: (-1) -/
theorem c_X12_buy (l : Launch) (D : va_G) (cy : Nat → ClassId) (m0 : Nat) (fm : List Value) (ame : Nat) (gme : Nat → Int32) (p0 : Int32) (p1 : Int32) (e_live : fm[18]? = some (.int 0)) (e_ame : fm[32]? = some (.ref ame)) (z_ame : ∀ j : Nat, j < 2 → gme j = 0) : Cti l D cy yX12_buy wsX12_buy ({ frames := 2, cells := 0, slots := 0, locals := 43 } : Room) [.ref m0, .int p0, .int p1] [(m0, .inr (12, fm)), (ame, .inl (cy 0, 2, .inl gme))] myT (fun (r : Int32) (w : va_W) => r = (-1) ∧ w = []) := by
  refine ofI (cc := cX12_buy) (maxL := 3) (ret := (some .int)) (by decide) rfl (Nat.le_of_ble_eq_true rfl) ?_
  intro p e s m args below meth c A ls hx hb hr hts hown hlocks hml hin hK hP hD hS hA hX hl
  have hown : s.vm.findClass RX12 = some m.cls := hown
  have hl : lv_has ls 3 [(0, .ref m0), (1, .int p0), (2, .int p1)] := hl
  refine lv_aload_n hx hb dX12_buy_0 rfl (lv_at hl 0 rfl) ?_
  refine lv_iload_n hx hb dX12_buy_1 rfl (lv_at hl 1 rfl) ?_
  refine cVi (As := [.int p0]) (rest := []) (wr := []) ⟨hx, hb, hml, hown, hts⟩ (c_X12_isMan l D cy m0 fm ame gme p0 e_live e_ame z_ame) (cwV 1 hts gX12_buy_X12_isMan rfl rfl rfl (by decide +kernel) ⟨Nat.le_of_ble_eq_true rfl, Nat.le_of_ble_eq_true rfl⟩) hK hP hD hS hA [0, 1] [] ⟨rfl, rfl, by decide +kernel, by decide +kernel, by decide +kernel⟩ 0 12 rfl rfl myX_T rfl hl.1 rfl (Nat.le_of_ble_eq_true rfl) dX12_buy_2 ⟨Nat.le_of_ble_eq_true rfl, Nat.le_of_ble_eq_true rfl⟩ (fun r_1 w_2 H locs hw hP hD hS => ?_)
  obtain ⟨rfl, rfl⟩ := hw
  have hP : va_P D vwCl [(m0, .inr (12, fm)), (ame, .inl (cy 0, 2, .inl gme))] H := hP
  have hD : va_D A [(m0, .inr (12, fm)), (ame, .inl (cy 0, 2, .inl gme))] := hD
  refine lv_if_eq (tgt := 16) hx hb dX12_buy_5 (by decide) (fun _ => ?_) (fun c9 => absurd (by decide) c9)
  refine lv_iconst (v := (-1)) hx hb dX12_buy_16 (by decide) ?_
  have hP := hP.sub (ws' := []) [] rfl
  have hD := hD.sub (ws' := []) [] (by decide +kernel) rfl
  exact endI hx hb hr hlocks [] rfl ⟨rfl, rfl⟩ hP hD hS (Nat.le_of_ble_eq_true rfl) (Nat.le_of_ble_eq_true rfl) dX12_buy_17

set_option maxRecDepth 100000 in
set_option maxHeartbeats 4000000 in
/-- the reference: way on a new object: (-1) -/
theorem c_X12_way (l : Launch) (D : va_G) (cy : Nat → ClassId) (m0 : Nat) (fm : List Value) (ame : Nat) (gme : Nat → Int32) (p0 : Int32) (p1 : Int32) (p2 : Int32) (p3 : Int32) (p4 : Int32) (e_live : fm[18]? = some (.int 0)) (e_ame : fm[32]? = some (.ref ame)) (z_ame : ∀ j : Nat, j < 2 → gme j = 0) : Cti l D cy yX12_way wsX12_way ({ frames := 3, cells := 0, slots := 0, locals := 67 } : Room) [.ref m0, .int p0, .int p1, .int p2, .int p3, .int p4] [(m0, .inr (12, fm)), (ame, .inl (cy 0, 2, .inl gme))] myT (fun (r : Int32) (w : va_W) => r = (-1) ∧ w = []) := by
  refine ofI (cc := cX12_way) (maxL := 6) (ret := (some .int)) (by decide) rfl (Nat.le_of_ble_eq_true rfl) ?_
  intro p e s m args below meth c A ls hx hb hr hts hown hlocks hml hin hK hP hD hS hA hX hl
  have hown : s.vm.findClass RX12 = some m.cls := hown
  have hl : lv_has ls 6 [(0, .ref m0), (1, .int p0), (2, .int p1), (3, .int p2), (4, .int p3), (5, .int p4)] := hl
  refine lv_aload_n hx hb dX12_way_0 rfl (lv_at hl 0 rfl) ?_
  refine lv_iload_n hx hb dX12_way_1 rfl (lv_at hl 1 rfl) ?_
  refine lv_iload_n hx hb dX12_way_2 rfl (lv_at hl 2 rfl) ?_
  refine lv_iload_n hx hb dX12_way_3 rfl (lv_at hl 3 rfl) ?_
  refine lv_iload hx hb dX12_way_4 (lv_at hl 4 rfl) ?_
  refine cVi (As := [.int p0, .int p1, .int p2, .int p3]) (rest := []) (wr := []) ⟨hx, hb, hml, hown, hts⟩ (c_X12_canAsk l D cy m0 fm ame gme p0 p1 p2 p3 e_live e_ame z_ame) (cwV 4 hts gX12_way_X12_canAsk rfl rfl rfl (by decide +kernel) ⟨Nat.le_of_ble_eq_true rfl, Nat.le_of_ble_eq_true rfl⟩) hK hP hD hS hA [0, 1] [] ⟨rfl, rfl, by decide +kernel, by decide +kernel, by decide +kernel⟩ 0 12 rfl rfl myX_T rfl hl.1 rfl (Nat.le_of_ble_eq_true rfl) dX12_way_6 ⟨Nat.le_of_ble_eq_true rfl, Nat.le_of_ble_eq_true rfl⟩ (fun r_1 w_2 H locs hw hP hD hS => ?_)
  obtain ⟨rfl, rfl⟩ := hw
  have hP : va_P D vwCl [(m0, .inr (12, fm)), (ame, .inl (cy 0, 2, .inl gme))] H := hP
  have hD : va_D A [(m0, .inr (12, fm)), (ame, .inl (cy 0, 2, .inl gme))] := hD
  refine lv_if_eq (tgt := 22) hx hb dX12_way_9 (by decide) (fun _ => ?_) (fun c9 => absurd (by decide) c9)
  refine lv_iconst (v := (-1)) hx hb dX12_way_22 (by decide) ?_
  have hP := hP.sub (ws' := []) [] rfl
  have hD := hD.sub (ws' := []) [] (by decide +kernel) rfl
  exact endI hx hb hr hlocks [] rfl ⟨rfl, rfl⟩ hP hD hS (Nat.le_of_ble_eq_true rfl) (Nat.le_of_ble_eq_true rfl) dX12_way_23

set_option maxRecDepth 100000 in
set_option maxHeartbeats 4000000 in
/-- the reference: step on a new object: (-1) -/
theorem c_X12_step (l : Launch) (D : va_G) (cy : Nat → ClassId) (m0 : Nat) (fm : List Value) (ame : Nat) (gme : Nat → Int32) (p0 : Int32) (p1 : Int32) (p2 : Int32) (p3 : Int32) (p4 : Int32) (e_live : fm[18]? = some (.int 0)) (e_ame : fm[32]? = some (.ref ame)) (z_ame : ∀ j : Nat, j < 2 → gme j = 0) : Cti l D cy yX12_step wsX12_step ({ frames := 3, cells := 0, slots := 0, locals := 67 } : Room) [.ref m0, .int p0, .int p1, .int p2, .int p3, .int p4] [(m0, .inr (12, fm)), (ame, .inl (cy 0, 2, .inl gme))] myT (fun (r : Int32) (w : va_W) => r = (-1) ∧ w = []) := by
  refine ofI (cc := cX12_step) (maxL := 6) (ret := (some .int)) (by decide) rfl (Nat.le_of_ble_eq_true rfl) ?_
  intro p e s m args below meth c A ls hx hb hr hts hown hlocks hml hin hK hP hD hS hA hX hl
  have hown : s.vm.findClass RX12 = some m.cls := hown
  have hl : lv_has ls 6 [(0, .ref m0), (1, .int p0), (2, .int p1), (3, .int p2), (4, .int p3), (5, .int p4)] := hl
  refine lv_aload_n hx hb dX12_step_0 rfl (lv_at hl 0 rfl) ?_
  refine lv_iload_n hx hb dX12_step_1 rfl (lv_at hl 1 rfl) ?_
  refine lv_iload_n hx hb dX12_step_2 rfl (lv_at hl 2 rfl) ?_
  refine lv_iload_n hx hb dX12_step_3 rfl (lv_at hl 3 rfl) ?_
  refine lv_iload hx hb dX12_step_4 (lv_at hl 4 rfl) ?_
  refine cVi (As := [.int p0, .int p1, .int p2, .int p3]) (rest := []) (wr := []) ⟨hx, hb, hml, hown, hts⟩ (c_X12_canAsk l D cy m0 fm ame gme p0 p1 p2 p3 e_live e_ame z_ame) (cwV 4 hts gX12_step_X12_canAsk rfl rfl rfl (by decide +kernel) ⟨Nat.le_of_ble_eq_true rfl, Nat.le_of_ble_eq_true rfl⟩) hK hP hD hS hA [0, 1] [] ⟨rfl, rfl, by decide +kernel, by decide +kernel, by decide +kernel⟩ 0 12 rfl rfl myX_T rfl hl.1 rfl (Nat.le_of_ble_eq_true rfl) dX12_step_6 ⟨Nat.le_of_ble_eq_true rfl, Nat.le_of_ble_eq_true rfl⟩ (fun r_1 w_2 H locs hw hP hD hS => ?_)
  obtain ⟨rfl, rfl⟩ := hw
  have hP : va_P D vwCl [(m0, .inr (12, fm)), (ame, .inl (cy 0, 2, .inl gme))] H := hP
  have hD : va_D A [(m0, .inr (12, fm)), (ame, .inl (cy 0, 2, .inl gme))] := hD
  refine lv_if_ne (tgt := 14) hx hb dX12_step_9 (by decide) (fun c9 => absurd (by decide) c9) (fun _ => ?_)
  refine lv_iconst (v := (-1)) hx hb dX12_step_12 (by decide) ?_
  have hP := hP.sub (ws' := []) [] rfl
  have hD := hD.sub (ws' := []) [] (by decide +kernel) rfl
  exact endI hx hb hr hlocks [] rfl ⟨rfl, rfl⟩ hP hD hS (Nat.le_of_ble_eq_true rfl) (Nat.le_of_ble_eq_true rfl) dX12_step_13

set_option maxRecDepth 100000 in
set_option maxHeartbeats 4000000 in
/-- the reference: rid on a new object: (-1) -/
theorem c_X12_rid (l : Launch) (D : va_G) (cy : Nat → ClassId) (m0 : Nat) (fm : List Value) (ame : Nat) (gme : Nat → Int32) (p0 : Int32) (p1 : Int32) (p2 : Int32) (p3 : Int32) (e_live : fm[18]? = some (.int 0)) (e_ame : fm[32]? = some (.ref ame)) (z_ame : ∀ j : Nat, j < 2 → gme j = 0) : Cti l D cy yX12_rid wsX12_rid ({ frames := 2, cells := 0, slots := 0, locals := 43 } : Room) [.ref m0, .int p0, .int p1, .int p2, .int p3] [(m0, .inr (12, fm)), (ame, .inl (cy 0, 2, .inl gme))] myT (fun (r : Int32) (w : va_W) => r = (-1) ∧ w = []) := by
  refine ofI (cc := cX12_rid) (maxL := 5) (ret := (some .int)) (by decide) rfl (Nat.le_of_ble_eq_true rfl) ?_
  intro p e s m args below meth c A ls hx hb hr hts hown hlocks hml hin hK hP hD hS hA hX hl
  have hown : s.vm.findClass RX12 = some m.cls := hown
  have hl : lv_has ls 5 [(0, .ref m0), (1, .int p0), (2, .int p1), (3, .int p2), (4, .int p3)] := hl
  refine lv_aload_n hx hb dX12_rid_0 rfl (lv_at hl 0 rfl) ?_
  refine lv_iload_n hx hb dX12_rid_1 rfl (lv_at hl 1 rfl) ?_
  refine cVi (As := [.int p0]) (rest := []) (wr := []) ⟨hx, hb, hml, hown, hts⟩ (c_X12_isMan l D cy m0 fm ame gme p0 e_live e_ame z_ame) (cwV 1 hts gX12_rid_X12_isMan rfl rfl rfl (by decide +kernel) ⟨Nat.le_of_ble_eq_true rfl, Nat.le_of_ble_eq_true rfl⟩) hK hP hD hS hA [0, 1] [] ⟨rfl, rfl, by decide +kernel, by decide +kernel, by decide +kernel⟩ 0 12 rfl rfl myX_T rfl hl.1 rfl (Nat.le_of_ble_eq_true rfl) dX12_rid_2 ⟨Nat.le_of_ble_eq_true rfl, Nat.le_of_ble_eq_true rfl⟩ (fun r_1 w_2 H locs hw hP hD hS => ?_)
  obtain ⟨rfl, rfl⟩ := hw
  have hP : va_P D vwCl [(m0, .inr (12, fm)), (ame, .inl (cy 0, 2, .inl gme))] H := hP
  have hD : va_D A [(m0, .inr (12, fm)), (ame, .inl (cy 0, 2, .inl gme))] := hD
  refine lv_if_eq (tgt := 35) hx hb dX12_rid_5 (by decide) (fun _ => ?_) (fun c9 => absurd (by decide) c9)
  refine lv_iconst (v := (-1)) hx hb dX12_rid_35 (by decide) ?_
  have hP := hP.sub (ws' := []) [] rfl
  have hD := hD.sub (ws' := []) [] (by decide +kernel) rfl
  exact endI hx hb hr hlocks [] rfl ⟨rfl, rfl⟩ hP hD hS (Nat.le_of_ble_eq_true rfl) (Nat.le_of_ble_eq_true rfl) dX12_rid_36

set_option maxRecDepth 100000 in
set_option maxHeartbeats 4000000 in
/-- the reference: get on a new object: (-1) -/
theorem c_X12_get (l : Launch) (D : va_G) (cy : Nat → ClassId) (m0 : Nat) (fm : List Value) (ame : Nat) (gme : Nat → Int32) (p0 : Int32) (p1 : Int32) (e_live : fm[18]? = some (.int 0)) (e_ame : fm[32]? = some (.ref ame)) (z_ame : ∀ j : Nat, j < 2 → gme j = 0) : Cti l D cy yX12_get wsX12_get ({ frames := 2, cells := 0, slots := 0, locals := 43 } : Room) [.ref m0, .int p0, .int p1] [(m0, .inr (12, fm)), (ame, .inl (cy 0, 2, .inl gme))] myT (fun (r : Int32) (w : va_W) => r = (-1) ∧ w = []) := by
  refine ofI (cc := cX12_get) (maxL := 3) (ret := (some .int)) (by decide) rfl (Nat.le_of_ble_eq_true rfl) ?_
  intro p e s m args below meth c A ls hx hb hr hts hown hlocks hml hin hK hP hD hS hA hX hl
  have hown : s.vm.findClass RX12 = some m.cls := hown
  have hl : lv_has ls 3 [(0, .ref m0), (1, .int p0), (2, .int p1)] := hl
  refine lv_aload_n hx hb dX12_get_0 rfl (lv_at hl 0 rfl) ?_
  refine lv_iload_n hx hb dX12_get_1 rfl (lv_at hl 1 rfl) ?_
  refine cVi (As := [.int p0]) (rest := []) (wr := []) ⟨hx, hb, hml, hown, hts⟩ (c_X12_isMan l D cy m0 fm ame gme p0 e_live e_ame z_ame) (cwV 1 hts gX12_get_X12_isMan rfl rfl rfl (by decide +kernel) ⟨Nat.le_of_ble_eq_true rfl, Nat.le_of_ble_eq_true rfl⟩) hK hP hD hS hA [0, 1] [] ⟨rfl, rfl, by decide +kernel, by decide +kernel, by decide +kernel⟩ 0 12 rfl rfl myX_T rfl hl.1 rfl (Nat.le_of_ble_eq_true rfl) dX12_get_2 ⟨Nat.le_of_ble_eq_true rfl, Nat.le_of_ble_eq_true rfl⟩ (fun r_1 w_2 H locs hw hP hD hS => ?_)
  obtain ⟨rfl, rfl⟩ := hw
  have hP : va_P D vwCl [(m0, .inr (12, fm)), (ame, .inl (cy 0, 2, .inl gme))] H := hP
  have hD : va_D A [(m0, .inr (12, fm)), (ame, .inl (cy 0, 2, .inl gme))] := hD
  refine lv_if_eq (tgt := 16) hx hb dX12_get_5 (by decide) (fun _ => ?_) (fun c9 => absurd (by decide) c9)
  refine lv_iconst (v := (-1)) hx hb dX12_get_16 (by decide) ?_
  have hP := hP.sub (ws' := []) [] rfl
  have hD := hD.sub (ws' := []) [] (by decide +kernel) rfl
  exact endI hx hb hr hlocks [] rfl ⟨rfl, rfl⟩ hP hD hS (Nat.le_of_ble_eq_true rfl) (Nat.le_of_ble_eq_true rfl) dX12_get_17

set_option maxRecDepth 100000 in
set_option maxHeartbeats 4000000 in
/-- the reference: inReach on a new object: (-1) -/
theorem c_X12_inReach (l : Launch) (D : va_G) (cy : Nat → ClassId) (m0 : Nat) (fm : List Value) (ame : Nat) (gme : Nat → Int32) (p0 : Int32) (e_live : fm[18]? = some (.int 0)) (e_ame : fm[32]? = some (.ref ame)) (z_ame : ∀ j : Nat, j < 2 → gme j = 0) : Cti l D cy yX12_inReach wsX12_inReach ({ frames := 2, cells := 0, slots := 0, locals := 43 } : Room) [.ref m0, .int p0] [(m0, .inr (12, fm)), (ame, .inl (cy 0, 2, .inl gme))] myT (fun (r : Int32) (w : va_W) => r = (-1) ∧ w = []) := by
  refine ofI (cc := cX12_inReach) (maxL := 4) (ret := (some .int)) (by decide) rfl (Nat.le_of_ble_eq_true rfl) ?_
  intro p e s m args below meth c A ls hx hb hr hts hown hlocks hml hin hK hP hD hS hA hX hl
  have hown : s.vm.findClass RX12 = some m.cls := hown
  have hl : lv_has ls 4 [(0, .ref m0), (1, .int p0)] := hl
  refine lv_aload_n hx hb dX12_inReach_0 rfl (lv_at hl 0 rfl) ?_
  refine lv_iload_n hx hb dX12_inReach_1 rfl (lv_at hl 1 rfl) ?_
  refine cVi (As := [.int p0]) (rest := []) (wr := []) ⟨hx, hb, hml, hown, hts⟩ (c_X12_isMan l D cy m0 fm ame gme p0 e_live e_ame z_ame) (cwV 1 hts gX12_inReach_X12_isMan rfl rfl rfl (by decide +kernel) ⟨Nat.le_of_ble_eq_true rfl, Nat.le_of_ble_eq_true rfl⟩) hK hP hD hS hA [0, 1] [] ⟨rfl, rfl, by decide +kernel, by decide +kernel, by decide +kernel⟩ 0 12 rfl rfl myX_T rfl hl.1 rfl (Nat.le_of_ble_eq_true rfl) dX12_inReach_2 ⟨Nat.le_of_ble_eq_true rfl, Nat.le_of_ble_eq_true rfl⟩ (fun r_1 w_2 H locs hw hP hD hS => ?_)
  obtain ⟨rfl, rfl⟩ := hw
  have hP : va_P D vwCl [(m0, .inr (12, fm)), (ame, .inl (cy 0, 2, .inl gme))] H := hP
  have hD : va_D A [(m0, .inr (12, fm)), (ame, .inl (cy 0, 2, .inl gme))] := hD
  refine lv_if_ne (tgt := 10) hx hb dX12_inReach_5 (by decide) (fun c9 => absurd (by decide) c9) (fun _ => ?_)
  refine lv_iconst (v := (-1)) hx hb dX12_inReach_8 (by decide) ?_
  have hP := hP.sub (ws' := []) [] rfl
  have hD := hD.sub (ws' := []) [] (by decide +kernel) rfl
  exact endI hx hb hr hlocks [] rfl ⟨rfl, rfl⟩ hP hD hS (Nat.le_of_ble_eq_true rfl) (Nat.le_of_ble_eq_true rfl) dX12_inReach_9

set_option maxRecDepth 100000 in
set_option maxHeartbeats 4000000 in
/-- the reference: most on a new object: (-1) -/
theorem c_X12_most (l : Launch) (D : va_G) (cy : Nat → ClassId) (m0 : Nat) (fm : List Value) (ame : Nat) (gme : Nat → Int32) (p0 : Int32) (p1 : Int32) (e_live : fm[18]? = some (.int 0)) (e_ame : fm[32]? = some (.ref ame)) (z_ame : ∀ j : Nat, j < 2 → gme j = 0) : Cti l D cy yX12_most wsX12_most ({ frames := 2, cells := 0, slots := 0, locals := 43 } : Room) [.ref m0, .int p0, .int p1] [(m0, .inr (12, fm)), (ame, .inl (cy 0, 2, .inl gme))] myT (fun (r : Int32) (w : va_W) => r = (-1) ∧ w = []) := by
  refine ofI (cc := cX12_most) (maxL := 3) (ret := (some .int)) (by decide) rfl (Nat.le_of_ble_eq_true rfl) ?_
  intro p e s m args below meth c A ls hx hb hr hts hown hlocks hml hin hK hP hD hS hA hX hl
  have hown : s.vm.findClass RX12 = some m.cls := hown
  have hl : lv_has ls 3 [(0, .ref m0), (1, .int p0), (2, .int p1)] := hl
  refine lv_aload_n hx hb dX12_most_0 rfl (lv_at hl 0 rfl) ?_
  refine lv_iload_n hx hb dX12_most_1 rfl (lv_at hl 1 rfl) ?_
  refine cVi (As := [.int p0]) (rest := []) (wr := []) ⟨hx, hb, hml, hown, hts⟩ (c_X12_isMan l D cy m0 fm ame gme p0 e_live e_ame z_ame) (cwV 1 hts gX12_most_X12_isMan rfl rfl rfl (by decide +kernel) ⟨Nat.le_of_ble_eq_true rfl, Nat.le_of_ble_eq_true rfl⟩) hK hP hD hS hA [0, 1] [] ⟨rfl, rfl, by decide +kernel, by decide +kernel, by decide +kernel⟩ 0 12 rfl rfl myX_T rfl hl.1 rfl (Nat.le_of_ble_eq_true rfl) dX12_most_2 ⟨Nat.le_of_ble_eq_true rfl, Nat.le_of_ble_eq_true rfl⟩ (fun r_1 w_2 H locs hw hP hD hS => ?_)
  obtain ⟨rfl, rfl⟩ := hw
  have hP : va_P D vwCl [(m0, .inr (12, fm)), (ame, .inl (cy 0, 2, .inl gme))] H := hP
  have hD : va_D A [(m0, .inr (12, fm)), (ame, .inl (cy 0, 2, .inl gme))] := hD
  refine lv_if_eq (tgt := 16) hx hb dX12_most_5 (by decide) (fun _ => ?_) (fun c9 => absurd (by decide) c9)
  refine lv_iconst (v := (-1)) hx hb dX12_most_16 (by decide) ?_
  have hP := hP.sub (ws' := []) [] rfl
  have hD := hD.sub (ws' := []) [] (by decide +kernel) rfl
  exact endI hx hb hr hlocks [] rfl ⟨rfl, rfl⟩ hP hD hS (Nat.le_of_ble_eq_true rfl) (Nat.le_of_ble_eq_true rfl) dX12_most_17

set_option maxRecDepth 100000 in
set_option maxHeartbeats 4000000 in
/-- the reference: meet on a new object: (-1) -/
theorem c_X12_meet (l : Launch) (D : va_G) (cy : Nat → ClassId) (m0 : Nat) (fm : List Value) (ame : Nat) (gme : Nat → Int32) (p0 : Int32) (p1 : Int32) (p2 : Int32) (e_live : fm[18]? = some (.int 0)) (e_ame : fm[32]? = some (.ref ame)) (z_ame : ∀ j : Nat, j < 2 → gme j = 0) : Cti l D cy yX12_meet wsX12_meet ({ frames := 2, cells := 0, slots := 0, locals := 43 } : Room) [.ref m0, .int p0, .int p1, .int p2] [(m0, .inr (12, fm)), (ame, .inl (cy 0, 2, .inl gme))] myT (fun (r : Int32) (w : va_W) => r = (-1) ∧ w = []) := by
  refine ofI (cc := cX12_meet) (maxL := 9) (ret := (some .int)) (by decide) rfl (Nat.le_of_ble_eq_true rfl) ?_
  intro p e s m args below meth c A ls hx hb hr hts hown hlocks hml hin hK hP hD hS hA hX hl
  have hown : s.vm.findClass RX12 = some m.cls := hown
  have hl : lv_has ls 9 [(0, .ref m0), (1, .int p0), (2, .int p1), (3, .int p2)] := hl
  refine lv_aload_n hx hb dX12_meet_0 rfl (lv_at hl 0 rfl) ?_
  refine lv_iload_n hx hb dX12_meet_1 rfl (lv_at hl 1 rfl) ?_
  refine cVi (As := [.int p0]) (rest := []) (wr := []) ⟨hx, hb, hml, hown, hts⟩ (c_X12_isMan l D cy m0 fm ame gme p0 e_live e_ame z_ame) (cwV 1 hts gX12_meet_X12_isMan rfl rfl rfl (by decide +kernel) ⟨Nat.le_of_ble_eq_true rfl, Nat.le_of_ble_eq_true rfl⟩) hK hP hD hS hA [0, 1] [] ⟨rfl, rfl, by decide +kernel, by decide +kernel, by decide +kernel⟩ 0 12 rfl rfl myX_T rfl hl.1 rfl (Nat.le_of_ble_eq_true rfl) dX12_meet_2 ⟨Nat.le_of_ble_eq_true rfl, Nat.le_of_ble_eq_true rfl⟩ (fun r_1 w_2 H locs hw hP hD hS => ?_)
  obtain ⟨rfl, rfl⟩ := hw
  have hP : va_P D vwCl [(m0, .inr (12, fm)), (ame, .inl (cy 0, 2, .inl gme))] H := hP
  have hD : va_D A [(m0, .inr (12, fm)), (ame, .inl (cy 0, 2, .inl gme))] := hD
  refine lv_if_eq (tgt := 30) hx hb dX12_meet_5 (by decide) (fun _ => ?_) (fun c9 => absurd (by decide) c9)
  refine lv_iconst (v := (-1)) hx hb dX12_meet_30 (by decide) ?_
  have hP := hP.sub (ws' := []) [] rfl
  have hD := hD.sub (ws' := []) [] (by decide +kernel) rfl
  exact endI hx hb hr hlocks [] rfl ⟨rfl, rfl⟩ hP hD hS (Nat.le_of_ble_eq_true rfl) (Nat.le_of_ble_eq_true rfl) dX12_meet_31

set_option maxRecDepth 100000 in
set_option maxHeartbeats 4000000 in
/-- the reference: round on a new object: (-1) -/
theorem c_X12_round (l : Launch) (D : va_G) (cy : Nat → ClassId) (m0 : Nat) (fm : List Value) (ame : Nat) (gme : Nat → Int32) (p0 : Int32) (p1 : Int32) (e_live : fm[18]? = some (.int 0)) (e_ame : fm[32]? = some (.ref ame)) (z_ame : ∀ j : Nat, j < 2 → gme j = 0) : Cti l D cy yX12_round wsX12_round ({ frames := 2, cells := 0, slots := 0, locals := 43 } : Room) [.ref m0, .int p0, .int p1] [(m0, .inr (12, fm)), (ame, .inl (cy 0, 2, .inl gme))] myT (fun (r : Int32) (w : va_W) => r = (-1) ∧ w = []) := by
  refine ofI (cc := cX12_round) (maxL := 7) (ret := (some .int)) (by decide) rfl (Nat.le_of_ble_eq_true rfl) ?_
  intro p e s m args below meth c A ls hx hb hr hts hown hlocks hml hin hK hP hD hS hA hX hl
  have hown : s.vm.findClass RX12 = some m.cls := hown
  have hl : lv_has ls 7 [(0, .ref m0), (1, .int p0), (2, .int p1)] := hl
  refine lv_aload_n hx hb dX12_round_0 rfl (lv_at hl 0 rfl) ?_
  refine lv_iload_n hx hb dX12_round_1 rfl (lv_at hl 1 rfl) ?_
  refine cVi (As := [.int p0]) (rest := []) (wr := []) ⟨hx, hb, hml, hown, hts⟩ (c_X12_isMan l D cy m0 fm ame gme p0 e_live e_ame z_ame) (cwV 1 hts gX12_round_X12_isMan rfl rfl rfl (by decide +kernel) ⟨Nat.le_of_ble_eq_true rfl, Nat.le_of_ble_eq_true rfl⟩) hK hP hD hS hA [0, 1] [] ⟨rfl, rfl, by decide +kernel, by decide +kernel, by decide +kernel⟩ 0 12 rfl rfl myX_T rfl hl.1 rfl (Nat.le_of_ble_eq_true rfl) dX12_round_2 ⟨Nat.le_of_ble_eq_true rfl, Nat.le_of_ble_eq_true rfl⟩ (fun r_1 w_2 H locs hw hP hD hS => ?_)
  obtain ⟨rfl, rfl⟩ := hw
  have hP : va_P D vwCl [(m0, .inr (12, fm)), (ame, .inl (cy 0, 2, .inl gme))] H := hP
  have hD : va_D A [(m0, .inr (12, fm)), (ame, .inl (cy 0, 2, .inl gme))] := hD
  refine lv_if_eq (tgt := 29) hx hb dX12_round_5 (by decide) (fun _ => ?_) (fun c9 => absurd (by decide) c9)
  refine lv_iconst (v := (-1)) hx hb dX12_round_29 (by decide) ?_
  have hP := hP.sub (ws' := []) [] rfl
  have hD := hD.sub (ws' := []) [] (by decide +kernel) rfl
  exact endI hx hb hr hlocks [] rfl ⟨rfl, rfl⟩ hP hD hS (Nat.le_of_ble_eq_true rfl) (Nat.le_of_ble_eq_true rfl) dX12_round_30

set_option maxRecDepth 100000 in
set_option maxHeartbeats 4000000 in
/-- the reference: carried on a new object: (-1) -/
theorem c_X12_carried (l : Launch) (D : va_G) (cy : Nat → ClassId) (m0 : Nat) (fm : List Value) (aso : Nat) (gso : Nat → Int32) (p0 : Int32) (p1 : Int32) (e_live : fm[18]? = some (.int 0)) (e_aso : fm[24]? = some (.ref aso)) (z_aso : ∀ j : Nat, j < 2 → gso j = 0) : Cti l D cy yX12_carried wsX12_carried ({ frames := 2, cells := 0, slots := 0, locals := 43 } : Room) [.ref m0, .int p0, .int p1] [(m0, .inr (12, fm)), (aso, .inl (cy 0, 2, .inl gso))] myT (fun (r : Int32) (w : va_W) => r = (-1) ∧ w = []) := by
  refine ofI (cc := cX12_carried) (maxL := 3) (ret := (some .int)) (by decide) rfl (Nat.le_of_ble_eq_true rfl) ?_
  intro p e s m args below meth c A ls hx hb hr hts hown hlocks hml hin hK hP hD hS hA hX hl
  have hown : s.vm.findClass RX12 = some m.cls := hown
  have hl : lv_has ls 3 [(0, .ref m0), (1, .int p0), (2, .int p1)] := hl
  refine lv_aload_n hx hb dX12_carried_0 rfl (lv_at hl 0 rfl) ?_
  refine lv_iload_n hx hb dX12_carried_1 rfl (lv_at hl 1 rfl) ?_
  refine cVi (As := [.int p0]) (rest := []) (wr := []) ⟨hx, hb, hml, hown, hts⟩ (c_X12_isSort l D cy m0 fm aso gso p0 e_live e_aso z_aso) (cwV 1 hts gX12_carried_X12_isSort rfl rfl rfl (by decide +kernel) ⟨Nat.le_of_ble_eq_true rfl, Nat.le_of_ble_eq_true rfl⟩) hK hP hD hS hA [0, 1] [] ⟨rfl, rfl, by decide +kernel, by decide +kernel, by decide +kernel⟩ 0 12 rfl rfl myX_T rfl hl.1 rfl (Nat.le_of_ble_eq_true rfl) dX12_carried_2 ⟨Nat.le_of_ble_eq_true rfl, Nat.le_of_ble_eq_true rfl⟩ (fun r_1 w_2 H locs hw hP hD hS => ?_)
  obtain ⟨rfl, rfl⟩ := hw
  have hP : va_P D vwCl [(m0, .inr (12, fm)), (aso, .inl (cy 0, 2, .inl gso))] H := hP
  have hD : va_D A [(m0, .inr (12, fm)), (aso, .inl (cy 0, 2, .inl gso))] := hD
  refine lv_if_eq (tgt := 16) hx hb dX12_carried_5 (by decide) (fun _ => ?_) (fun c9 => absurd (by decide) c9)
  refine lv_iconst (v := (-1)) hx hb dX12_carried_16 (by decide) ?_
  have hP := hP.sub (ws' := []) [] rfl
  have hD := hD.sub (ws' := []) [] (by decide +kernel) rfl
  exact endI hx hb hr hlocks [] rfl ⟨rfl, rfl⟩ hP hD hS (Nat.le_of_ble_eq_true rfl) (Nat.le_of_ble_eq_true rfl) dX12_carried_17

set_option maxRecDepth 100000 in
set_option maxHeartbeats 4000000 in
/-- the reference: helps on a new object: (-1) -/
theorem c_X12_helps (l : Launch) (D : va_G) (cy : Nat → ClassId) (m0 : Nat) (fm : List Value) (aso : Nat) (gso : Nat → Int32) (p0 : Int32) (p1 : Int32) (p2 : Int32) (e_live : fm[18]? = some (.int 0)) (e_aso : fm[24]? = some (.ref aso)) (z_aso : ∀ j : Nat, j < 2 → gso j = 0) : Cti l D cy yX12_helps wsX12_helps ({ frames := 2, cells := 0, slots := 0, locals := 43 } : Room) [.ref m0, .int p0, .int p1, .int p2] [(m0, .inr (12, fm)), (aso, .inl (cy 0, 2, .inl gso))] myT (fun (r : Int32) (w : va_W) => r = (-1) ∧ w = []) := by
  refine ofI (cc := cX12_helps) (maxL := 10) (ret := (some .int)) (by decide) rfl (Nat.le_of_ble_eq_true rfl) ?_
  intro p e s m args below meth c A ls hx hb hr hts hown hlocks hml hin hK hP hD hS hA hX hl
  have hown : s.vm.findClass RX12 = some m.cls := hown
  have hl : lv_has ls 10 [(0, .ref m0), (1, .int p0), (2, .int p1), (3, .int p2)] := hl
  refine lv_aload_n hx hb dX12_helps_0 rfl (lv_at hl 0 rfl) ?_
  refine lv_iload_n hx hb dX12_helps_1 rfl (lv_at hl 1 rfl) ?_
  refine cVi (As := [.int p0]) (rest := []) (wr := []) ⟨hx, hb, hml, hown, hts⟩ (c_X12_isSort l D cy m0 fm aso gso p0 e_live e_aso z_aso) (cwV 1 hts gX12_helps_X12_isSort rfl rfl rfl (by decide +kernel) ⟨Nat.le_of_ble_eq_true rfl, Nat.le_of_ble_eq_true rfl⟩) hK hP hD hS hA [0, 1] [] ⟨rfl, rfl, by decide +kernel, by decide +kernel, by decide +kernel⟩ 0 12 rfl rfl myX_T rfl hl.1 rfl (Nat.le_of_ble_eq_true rfl) dX12_helps_2 ⟨Nat.le_of_ble_eq_true rfl, Nat.le_of_ble_eq_true rfl⟩ (fun r_1 w_2 H locs hw hP hD hS => ?_)
  obtain ⟨rfl, rfl⟩ := hw
  have hP : va_P D vwCl [(m0, .inr (12, fm)), (aso, .inl (cy 0, 2, .inl gso))] H := hP
  have hD : va_D A [(m0, .inr (12, fm)), (aso, .inl (cy 0, 2, .inl gso))] := hD
  refine lv_if_eq (tgt := 25) hx hb dX12_helps_5 (by decide) (fun _ => ?_) (fun c9 => absurd (by decide) c9)
  refine lv_iconst (v := (-1)) hx hb dX12_helps_25 (by decide) ?_
  have hP := hP.sub (ws' := []) [] rfl
  have hD := hD.sub (ws' := []) [] (by decide +kernel) rfl
  exact endI hx hb hr hlocks [] rfl ⟨rfl, rfl⟩ hP hD hS (Nat.le_of_ble_eq_true rfl) (Nat.le_of_ble_eq_true rfl) dX12_helps_26

set_option maxRecDepth 100000 in
set_option maxHeartbeats 4000000 in
/-- the reference: turned on a new object: (-1) -/
theorem c_X12_turned (l : Launch) (D : va_G) (cy : Nat → ClassId) (m0 : Nat) (fm : List Value) (aso : Nat) (gso : Nat → Int32) (p0 : Int32) (p1 : Int32) (e_live : fm[18]? = some (.int 0)) (e_aso : fm[24]? = some (.ref aso)) (z_aso : ∀ j : Nat, j < 2 → gso j = 0) : Cti l D cy yX12_turned wsX12_turned ({ frames := 2, cells := 0, slots := 0, locals := 43 } : Room) [.ref m0, .int p0, .int p1] [(m0, .inr (12, fm)), (aso, .inl (cy 0, 2, .inl gso))] myT (fun (r : Int32) (w : va_W) => r = (-1) ∧ w = []) := by
  refine ofI (cc := cX12_turned) (maxL := 8) (ret := (some .int)) (by decide) rfl (Nat.le_of_ble_eq_true rfl) ?_
  intro p e s m args below meth c A ls hx hb hr hts hown hlocks hml hin hK hP hD hS hA hX hl
  have hown : s.vm.findClass RX12 = some m.cls := hown
  have hl : lv_has ls 8 [(0, .ref m0), (1, .int p0), (2, .int p1)] := hl
  refine lv_aload_n hx hb dX12_turned_0 rfl (lv_at hl 0 rfl) ?_
  refine lv_iload_n hx hb dX12_turned_1 rfl (lv_at hl 1 rfl) ?_
  refine cVi (As := [.int p0]) (rest := []) (wr := []) ⟨hx, hb, hml, hown, hts⟩ (c_X12_isSort l D cy m0 fm aso gso p0 e_live e_aso z_aso) (cwV 1 hts gX12_turned_X12_isSort rfl rfl rfl (by decide +kernel) ⟨Nat.le_of_ble_eq_true rfl, Nat.le_of_ble_eq_true rfl⟩) hK hP hD hS hA [0, 1] [] ⟨rfl, rfl, by decide +kernel, by decide +kernel, by decide +kernel⟩ 0 12 rfl rfl myX_T rfl hl.1 rfl (Nat.le_of_ble_eq_true rfl) dX12_turned_2 ⟨Nat.le_of_ble_eq_true rfl, Nat.le_of_ble_eq_true rfl⟩ (fun r_1 w_2 H locs hw hP hD hS => ?_)
  obtain ⟨rfl, rfl⟩ := hw
  have hP : va_P D vwCl [(m0, .inr (12, fm)), (aso, .inl (cy 0, 2, .inl gso))] H := hP
  have hD : va_D A [(m0, .inr (12, fm)), (aso, .inl (cy 0, 2, .inl gso))] := hD
  refine lv_if_eq (tgt := 16) hx hb dX12_turned_5 (by decide) (fun _ => ?_) (fun c9 => absurd (by decide) c9)
  refine lv_iconst (v := (-1)) hx hb dX12_turned_16 (by decide) ?_
  have hP := hP.sub (ws' := []) [] rfl
  have hD := hD.sub (ws' := []) [] (by decide +kernel) rfl
  exact endI hx hb hr hlocks [] rfl ⟨rfl, rfl⟩ hP hD hS (Nat.le_of_ble_eq_true rfl) (Nat.le_of_ble_eq_true rfl) dX12_turned_17

set_option maxRecDepth 100000 in
set_option maxHeartbeats 4000000 in
/-- the reference: visitors on a new object: (-1) -/
theorem c_X12_visitors (l : Launch) (D : va_G) (cy : Nat → ClassId) (m0 : Nat) (fm : List Value) (aho : Nat) (gho : Nat → Int32) (p0 : Int32) (p1 : Int32) (p2 : Int32) (e_live : fm[18]? = some (.int 0)) (e_aho : fm[26]? = some (.ref aho)) (z_aho : ∀ j : Nat, j < 2 → gho j = 0) : Cti l D cy yX12_visitors wsX12_visitors ({ frames := 2, cells := 0, slots := 0, locals := 43 } : Room) [.ref m0, .int p0, .int p1, .int p2] [(m0, .inr (12, fm)), (aho, .inl (cy 0, 2, .inl gho))] myT (fun (r : Int32) (w : va_W) => r = (-1) ∧ w = []) := by
  refine ofI (cc := cX12_visitors) (maxL := 6) (ret := (some .int)) (by decide) rfl (Nat.le_of_ble_eq_true rfl) ?_
  intro p e s m args below meth c A ls hx hb hr hts hown hlocks hml hin hK hP hD hS hA hX hl
  have hown : s.vm.findClass RX12 = some m.cls := hown
  have hl : lv_has ls 6 [(0, .ref m0), (1, .int p0), (2, .int p1), (3, .int p2)] := hl
  refine lv_aload_n hx hb dX12_visitors_0 rfl (lv_at hl 0 rfl) ?_
  refine lv_iload_n hx hb dX12_visitors_1 rfl (lv_at hl 1 rfl) ?_
  refine cVi (As := [.int p0]) (rest := []) (wr := []) ⟨hx, hb, hml, hown, hts⟩ (c_X12_isHouse l D cy m0 fm aho gho p0 e_live e_aho z_aho) (cwV 1 hts gX12_visitors_X12_isHouse rfl rfl rfl (by decide +kernel) ⟨Nat.le_of_ble_eq_true rfl, Nat.le_of_ble_eq_true rfl⟩) hK hP hD hS hA [0, 1] [] ⟨rfl, rfl, by decide +kernel, by decide +kernel, by decide +kernel⟩ 0 12 rfl rfl myX_T rfl hl.1 rfl (Nat.le_of_ble_eq_true rfl) dX12_visitors_2 ⟨Nat.le_of_ble_eq_true rfl, Nat.le_of_ble_eq_true rfl⟩ (fun r_1 w_2 H locs hw hP hD hS => ?_)
  obtain ⟨rfl, rfl⟩ := hw
  have hP : va_P D vwCl [(m0, .inr (12, fm)), (aho, .inl (cy 0, 2, .inl gho))] H := hP
  have hD : va_D A [(m0, .inr (12, fm)), (aho, .inl (cy 0, 2, .inl gho))] := hD
  refine lv_if_eq (tgt := 20) hx hb dX12_visitors_5 (by decide) (fun _ => ?_) (fun c9 => absurd (by decide) c9)
  refine lv_iconst (v := (-1)) hx hb dX12_visitors_20 (by decide) ?_
  have hP := hP.sub (ws' := []) [] rfl
  have hD := hD.sub (ws' := []) [] (by decide +kernel) rfl
  exact endI hx hb hr hlocks [] rfl ⟨rfl, rfl⟩ hP hD hS (Nat.le_of_ble_eq_true rfl) (Nat.le_of_ble_eq_true rfl) dX12_visitors_21

theorem in_X12_riches_X12 : ∀ w ∈ u_ws RX12 TX12 90, w ∈ wsX12_riches := fun w h => (List.mem_cons_of_mem _ (List.mem_append_right _ h))
set_option maxRecDepth 100000 in
set_option maxHeartbeats 4000000 in
/-- the reference: riches on a new object: richesV p0 -/
theorem c_X12_riches (l : Launch) (D : va_G) (cy : Nat → ClassId) (m0 : Nat) (fm : List Value) (aho : Nat) (gho : Nat → Int32) (p0 : Int32) (e_live : fm[18]? = some (.int 0)) (e_aho : fm[26]? = some (.ref aho)) (z_aho : ∀ j : Nat, j < 2 → gho j = 0) : Cti l D cy yX12_riches wsX12_riches ({ frames := 2, cells := 0, slots := 0, locals := 43 } : Room) [.ref m0, .int p0] [(m0, .inr (12, fm)), (aho, .inl (cy 0, 2, .inl gho))] myT (fun (r : Int32) (w : va_W) => r = richesV p0 ∧ w = []) := by
  refine ofI (cc := cX12_riches) (maxL := 4) (ret := (some .int)) (by decide) rfl (Nat.le_of_ble_eq_true rfl) ?_
  intro p e s m args below meth c A ls hx hb hr hts hown hlocks hml hin hK hP hD hS hA hX hl
  have hown : s.vm.findClass RX12 = some m.cls := hown
  have hl : lv_has ls 4 [(0, .ref m0), (1, .int p0)] := hl
  refine lv_iload_n hx hb dX12_riches_0 rfl (lv_at hl 1 rfl) ?_
  refine lv_iconst (v := (-1)) hx hb dX12_riches_1 (by decide) ?_
  refine lv_icmp_eq (tgt := 23) hx hb dX12_riches_2 (by decide) (fun c_1 => ?_) (fun c_1 => ?_)
  · refine lv_bipush (v := (-2)) hx hb dX12_riches_23 (by decide) ?_
    refine lv_istore_n (lv' := [(2, .int (-2)), (0, .ref m0), (1, .int p0)]) hx hb dX12_riches_25 rfl hl (by decide) rfl (fun ls hl => ?_)
    refine lv_iconst (v := 0) hx hb dX12_riches_26 (by decide) ?_
    refine lv_istore_n (lv' := [(3, .int 0), (2, .int (-2)), (0, .ref m0), (1, .int p0)]) hx hb dX12_riches_27 rfl hl (by decide) rfl (fun ls hl => ?_)
    refine lv_iload_n hx hb dX12_riches_28 rfl (lv_at hl 0 rfl) ?_
    refine lv_aload_n hx hb dX12_riches_29 rfl (lv_at hl 2 rfl) ?_
    refine va_get (ci := 12) (v := .ref aho) (C := RX12) (T := TX12) (N := 90) hx hb hts in_X12_riches_X12 hown hK hP 0 rfl rfl 26 (by decide) (hts (.fieldLink RX12 55 "HallTablesModel" "houses" "[I") (List.mem_of_getElem? (i := 1) rfl)) (fun _ h9 => h9) e_aho dX12_riches_30 ?_
    refine lv_aload_n hx hb dX12_riches_33 rfl (lv_at hl 2 rfl) ?_
    refine va_get (ci := 12) (v := .int 0) (C := RX12) (T := TX12) (N := 90) hx hb hts in_X12_riches_X12 hown hK hP 0 rfl rfl 18 (by decide) (hts (.fieldLink RX12 266 "HallTablesModel" "live" "I") (List.mem_of_getElem? (i := 2) rfl)) (fun _ h9 => h9) e_live dX12_riches_34 ?_
    refine aI hx hb hK hP 1 rfl 0 rfl (Nat.le_of_ble_eq_true rfl) (Nat.le_of_ble_eq_true rfl) dX12_riches_37 ?_
    refine tpI (v := 0) (z_aho 0 (Nat.le_of_ble_eq_true rfl)) ?_
    refine lv_icmp_ge (tgt := 66) hx hb dX12_riches_38 (by decide) (fun _ => ?_) (fun c9 => absurd (by decide) c9)
    refine lv_iload_n hx hb dX12_riches_66 rfl (lv_at hl 1 rfl) ?_
    have hP := hP.sub (ws' := []) [] rfl
    have hD := hD.sub (ws' := []) [] (by decide +kernel) rfl
    exact endI hx hb hr hlocks [] rfl ⟨(if_pos c_1).symm, rfl⟩ hP hD hS (Nat.le_of_ble_eq_true rfl) (Nat.le_of_ble_eq_true rfl) dX12_riches_67
  · refine lv_aload_n hx hb dX12_riches_5 rfl (lv_at hl 0 rfl) ?_
    refine lv_iload_n hx hb dX12_riches_6 rfl (lv_at hl 1 rfl) ?_
    refine cVi (As := [.int p0]) (rest := []) (wr := []) ⟨hx, hb, hml, hown, hts⟩ (c_X12_isHouse l D cy m0 fm aho gho p0 e_live e_aho z_aho) (cwV 1 hts gX12_riches_X12_isHouse rfl rfl rfl (by decide +kernel) ⟨Nat.le_of_ble_eq_true rfl, Nat.le_of_ble_eq_true rfl⟩) hK hP hD hS hA [0, 1] [] ⟨rfl, rfl, by decide +kernel, by decide +kernel, by decide +kernel⟩ 0 12 rfl rfl myX_T rfl hl.1 rfl (Nat.le_of_ble_eq_true rfl) dX12_riches_7 ⟨Nat.le_of_ble_eq_true rfl, Nat.le_of_ble_eq_true rfl⟩ (fun r_2 w_3 H locs hw hP hD hS => ?_)
    obtain ⟨rfl, rfl⟩ := hw
    have hP : va_P D vwCl [(m0, .inr (12, fm)), (aho, .inl (cy 0, 2, .inl gho))] H := hP
    have hD : va_D A [(m0, .inr (12, fm)), (aho, .inl (cy 0, 2, .inl gho))] := hD
    refine lv_if_eq (tgt := 21) hx hb dX12_riches_10 (by decide) (fun _ => ?_) (fun c9 => absurd (by decide) c9)
    refine lv_iconst (v := (-1)) hx hb dX12_riches_21 (by decide) ?_
    have hP := hP.sub (ws' := []) [] rfl
    have hD := hD.sub (ws' := []) [] (by decide +kernel) rfl
    exact endI hx hb hr hlocks [] rfl ⟨(if_neg c_1).symm, rfl⟩ hP hD hS (Nat.le_of_ble_eq_true rfl) (Nat.le_of_ble_eq_true rfl) dX12_riches_22
