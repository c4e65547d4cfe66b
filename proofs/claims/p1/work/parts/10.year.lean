theorem in_X0_live_X0 : ∀ w ∈ u_ws RX0 TX0 7, w ∈ wsX0_live := fun w h => (List.mem_cons_of_mem _ (List.mem_append_left _ (List.mem_append_left _ (List.mem_append_right _ h))))
theorem in_X0_live_X7 : ∀ w ∈ u_ws RX7 TX7 18, w ∈ wsX0_live := fun w h => (List.mem_cons_of_mem _ (List.mem_append_right _ h))
set_option maxRecDepth 100000 in
set_option maxHeartbeats 4000000 in
/-- live without men: nothing happens -/
theorem c_X0_live (l : Launch) (D : va_G) (cy : Nat → ClassId) (c0 : Nat) (cm : Nat) (ch : Nat) (cs : Nat) (csa : Nat) (csb : Nat) (csc : Nat) (csd : Nat) (cse : Nat) (n0 : Nat) (n0a : Nat) (n0b : Nat) (n0c : Nat) (n0d : Nat) (n0e : Nat) (t0 : Nat) (ft : List Value) (fc0 : Nat → Int32) (fc1 : Nat → Int32) (fc2 : Nat → Int32) (fc3 : Nat → Int32) (fc4 : Nat → Int32) (fn0 : Nat → Int32) (fn1 : Nat → Int32) (fn2 : Nat → Int32) (fn3 : Nat → Int32) (fn4 : Nat → Int32) (p0 : Int32) (k9 : Nat) (e_men : ft[3]? = some (.int 0)) (hk9 : k9 < 2 ^ 31) : Ctv l D cy yX0_live wsX0_live ({ frames := 2, cells := 0, slots := 0, locals := 101 } : Room) [.ref c0, .ref t0, .ref n0, .int p0, .int (nI k9)] [(c0, .inr (0, [.ref cs, .int 0, .int 0, .int 0, .int 0, .ref cm, .ref ch])), (cs, .inr (4, [.int 0, .int 0, .ref csa, .ref csb, .ref csc, .ref csd, .ref cse])), (n0, .inr (4, [.int 0, .int 0, .ref n0a, .ref n0b, .ref n0c, .ref n0d, .ref n0e])), (t0, .inr (7, ft)), (csa, .inl (cy 0, 6, .inl fc0)), (csb, .inl (cy 0, 6, .inl fc1)), (csc, .inl (cy 0, 6, .inl fc2)), (csd, .inl (cy 0, 6, .inl fc3)), (cse, .inl (cy 0, 50, .inl fc4)), (n0a, .inl (cy 0, 6, .inl fn0)), (n0b, .inl (cy 0, 6, .inl fn1)), (n0c, .inl (cy 0, 6, .inl fn2)), (n0d, .inl (cy 0, 6, .inl fn3)), (n0e, .inl (cy 0, 50, .inl fn4))] myT (fun (w : va_W) => w = [(c0, .inr (0, [.ref cs, .int 0, .int 0, .int 0, .int 0, .ref cm, .ref ch])), (cs, .inr (4, [.int 0, .int 0, .ref csa, .ref csb, .ref csc, .ref csd, .ref cse])), (t0, .inr (7, ft))]) := by
  refine ofV (cc := cX0_live) (maxL := 9) (ret := none) (by decide) rfl (Nat.le_of_ble_eq_true rfl) ?_
  intro p e s m args below meth c A ls hx hb hr hts hown hlocks hml hin hK hP hD hS hA hX hl
  have hown : s.vm.findClass RX0 = some m.cls := hown
  have hl : lv_has ls 9 [(0, .ref c0), (1, .ref t0), (2, .ref n0), (3, .int p0), (4, .int (nI k9))] := hl
  refine lv_aload_n hx hb dX0_live_0 rfl (lv_at hl 0 rfl) ?_
  refine va_get (ci := 0) (v := .ref cs) (C := RX0) (T := TX0) (N := 7) hx hb hts in_X0_live_X0 hown hK hP 0 rfl rfl 0 (by decide) (hts (.fieldLink RX0 12 "HallTables$Chance" "stand" "LHallTables$Stand;") (List.mem_of_getElem? (i := 1) rfl)) (fun _ h9 => h9) rfl dX0_live_1 ?_
  refine lv_aload_n hx hb dX0_live_4 rfl (lv_at hl 2 rfl) ?_
  refine cVv (As := [.ref n0]) (rest := []) (wr := [(c0, .inr (0, [.ref cs, .int 0, .int 0, .int 0, .int 0, .ref cm, .ref ch])), (t0, .inr (7, ft))]) ⟨hx, hb, hml, hown, hts⟩ (c_X4_copyOf l D cy cs csa csb csc csd cse n0 n0a n0b n0c n0d n0e fc0 fc1 fc2 fc3 fc4 fn0 fn1 fn2 fn3 fn4 ) (cwV 1 hts gX0_live_X4_copyOf rfl rfl rfl (by decide +kernel) ⟨Nat.le_of_ble_eq_true rfl, Nat.le_of_ble_eq_true rfl⟩) hK hP hD hS hA [1, 2, 4, 5, 6, 7, 8, 9, 10, 11, 12, 13] [0, 3] ⟨rfl, rfl, by decide +kernel, by decide +kernel, by decide +kernel⟩ 0 4 rfl rfl myX_T rfl hl.1 rfl (Nat.le_of_ble_eq_true rfl) dX0_live_5 ⟨Nat.le_of_ble_eq_true rfl, Nat.le_of_ble_eq_true rfl⟩ (fun w_1 H locs hw hP hD hS => ?_)
  obtain ⟨fm_2, fm_3, fm_4, fm_5, fm_6, rfl⟩ := hw
  have hP : va_P D vwCl [(c0, .inr (0, [.ref cs, .int 0, .int 0, .int 0, .int 0, .ref cm, .ref ch])), (t0, .inr (7, ft)), (cs, .inr (4, [.int 0, .int 0, .ref csa, .ref csb, .ref csc, .ref csd, .ref cse])), (n0, .inr (4, [.int 0, .int 0, .ref n0a, .ref n0b, .ref n0c, .ref n0d, .ref n0e])), (csa, .inl (cy 0, 6, .inl fm_2)), (csb, .inl (cy 0, 6, .inl fm_3)), (csc, .inl (cy 0, 6, .inl fm_4)), (csd, .inl (cy 0, 6, .inl fm_5)), (cse, .inl (cy 0, 50, .inl fm_6)), (n0a, .inl (cy 0, 6, .inl fn0)), (n0b, .inl (cy 0, 6, .inl fn1)), (n0c, .inl (cy 0, 6, .inl fn2)), (n0d, .inl (cy 0, 6, .inl fn3)), (n0e, .inl (cy 0, 50, .inl fn4))] H := hP
  have hD : va_D A [(c0, .inr (0, [.ref cs, .int 0, .int 0, .int 0, .int 0, .ref cm, .ref ch])), (t0, .inr (7, ft)), (cs, .inr (4, [.int 0, .int 0, .ref csa, .ref csb, .ref csc, .ref csd, .ref cse])), (n0, .inr (4, [.int 0, .int 0, .ref n0a, .ref n0b, .ref n0c, .ref n0d, .ref n0e])), (csa, .inl (cy 0, 6, .inl fm_2)), (csb, .inl (cy 0, 6, .inl fm_3)), (csc, .inl (cy 0, 6, .inl fm_4)), (csd, .inl (cy 0, 6, .inl fm_5)), (cse, .inl (cy 0, 50, .inl fm_6)), (n0a, .inl (cy 0, 6, .inl fn0)), (n0b, .inl (cy 0, 6, .inl fn1)), (n0c, .inl (cy 0, 6, .inl fn2)), (n0d, .inl (cy 0, 6, .inl fn3)), (n0e, .inl (cy 0, 50, .inl fn4))] := hD
  refine lv_aload_n hx hb dX0_live_8 rfl (lv_at hl 0 rfl) ?_
  refine lv_iconst (v := 0) hx hb dX0_live_9 (by decide) ?_
  refine va_put (ci := 0) (v := .int 0) (ty := .int) (C := RX0) (T := TX0) (N := 7) hx hb hts in_X0_live_X0 tyX0 tyX0_ok nmX0 hown hK hP hD hS 0 rfl rfl 1 (by decide) (hts (.fieldLink RX0 34 "HallTables$Chance" "steps" "I") (List.mem_of_getElem? (i := 2) rfl)) (fun _ h9 => h9) rfl (by decide +kernel) rfl rfl (Nat.le_of_ble_eq_true rfl) dX0_live_10 (fun H locs hP hD hS => ?_)
  have hP : va_P D vwCl [(c0, .inr (0, [.ref cs, .int 0, .int 0, .int 0, .int 0, .ref cm, .ref ch])), (t0, .inr (7, ft)), (cs, .inr (4, [.int 0, .int 0, .ref csa, .ref csb, .ref csc, .ref csd, .ref cse])), (n0, .inr (4, [.int 0, .int 0, .ref n0a, .ref n0b, .ref n0c, .ref n0d, .ref n0e])), (csa, .inl (cy 0, 6, .inl fm_2)), (csb, .inl (cy 0, 6, .inl fm_3)), (csc, .inl (cy 0, 6, .inl fm_4)), (csd, .inl (cy 0, 6, .inl fm_5)), (cse, .inl (cy 0, 50, .inl fm_6)), (n0a, .inl (cy 0, 6, .inl fn0)), (n0b, .inl (cy 0, 6, .inl fn1)), (n0c, .inl (cy 0, 6, .inl fn2)), (n0d, .inl (cy 0, 6, .inl fn3)), (n0e, .inl (cy 0, 50, .inl fn4))] H := hP
  have hD : va_D A [(c0, .inr (0, [.ref cs, .int 0, .int 0, .int 0, .int 0, .ref cm, .ref ch])), (t0, .inr (7, ft)), (cs, .inr (4, [.int 0, .int 0, .ref csa, .ref csb, .ref csc, .ref csd, .ref cse])), (n0, .inr (4, [.int 0, .int 0, .ref n0a, .ref n0b, .ref n0c, .ref n0d, .ref n0e])), (csa, .inl (cy 0, 6, .inl fm_2)), (csb, .inl (cy 0, 6, .inl fm_3)), (csc, .inl (cy 0, 6, .inl fm_4)), (csd, .inl (cy 0, 6, .inl fm_5)), (cse, .inl (cy 0, 50, .inl fm_6)), (n0a, .inl (cy 0, 6, .inl fn0)), (n0b, .inl (cy 0, 6, .inl fn1)), (n0c, .inl (cy 0, 6, .inl fn2)), (n0d, .inl (cy 0, 6, .inl fn3)), (n0e, .inl (cy 0, 50, .inl fn4))] := hD
  refine lv_aload_n hx hb dX0_live_13 rfl (lv_at hl 0 rfl) ?_
  refine lv_iconst (v := 0) hx hb dX0_live_14 (by decide) ?_
  refine va_put (ci := 0) (v := .int 0) (ty := .int) (C := RX0) (T := TX0) (N := 7) hx hb hts in_X0_live_X0 tyX0 tyX0_ok nmX0 hown hK hP hD hS 0 rfl rfl 2 (by decide) (hts (.fieldLink RX0 38 "HallTables$Chance" "loss" "I") (List.mem_of_getElem? (i := 3) rfl)) (fun _ h9 => h9) rfl (by decide +kernel) rfl rfl (Nat.le_of_ble_eq_true rfl) dX0_live_15 (fun H locs hP hD hS => ?_)
  have hP : va_P D vwCl [(c0, .inr (0, [.ref cs, .int 0, .int 0, .int 0, .int 0, .ref cm, .ref ch])), (t0, .inr (7, ft)), (cs, .inr (4, [.int 0, .int 0, .ref csa, .ref csb, .ref csc, .ref csd, .ref cse])), (n0, .inr (4, [.int 0, .int 0, .ref n0a, .ref n0b, .ref n0c, .ref n0d, .ref n0e])), (csa, .inl (cy 0, 6, .inl fm_2)), (csb, .inl (cy 0, 6, .inl fm_3)), (csc, .inl (cy 0, 6, .inl fm_4)), (csd, .inl (cy 0, 6, .inl fm_5)), (cse, .inl (cy 0, 50, .inl fm_6)), (n0a, .inl (cy 0, 6, .inl fn0)), (n0b, .inl (cy 0, 6, .inl fn1)), (n0c, .inl (cy 0, 6, .inl fn2)), (n0d, .inl (cy 0, 6, .inl fn3)), (n0e, .inl (cy 0, 50, .inl fn4))] H := hP
  have hD : va_D A [(c0, .inr (0, [.ref cs, .int 0, .int 0, .int 0, .int 0, .ref cm, .ref ch])), (t0, .inr (7, ft)), (cs, .inr (4, [.int 0, .int 0, .ref csa, .ref csb, .ref csc, .ref csd, .ref cse])), (n0, .inr (4, [.int 0, .int 0, .ref n0a, .ref n0b, .ref n0c, .ref n0d, .ref n0e])), (csa, .inl (cy 0, 6, .inl fm_2)), (csb, .inl (cy 0, 6, .inl fm_3)), (csc, .inl (cy 0, 6, .inl fm_4)), (csd, .inl (cy 0, 6, .inl fm_5)), (cse, .inl (cy 0, 50, .inl fm_6)), (n0a, .inl (cy 0, 6, .inl fn0)), (n0b, .inl (cy 0, 6, .inl fn1)), (n0c, .inl (cy 0, 6, .inl fn2)), (n0d, .inl (cy 0, 6, .inl fn3)), (n0e, .inl (cy 0, 50, .inl fn4))] := hD
  refine lv_iconst (v := 0) hx hb dX0_live_18 (by decide) ?_
  refine lv_istore (lv' := [(5, .int 0), (0, .ref c0), (1, .ref t0), (2, .ref n0), (3, .int p0), (4, .int (nI k9))]) hx hb dX0_live_19 hl (by decide) rfl (fun ls hl => ?_)
  have lp_10 : ∀ (n_8 i_7 : Nat) (H : Heap) (locs : List Loc) (ls : Array Slot), i_7 + n_8 = k9 → va_P D vwCl [(c0, .inr (0, [.ref cs, .int 0, .int 0, .int 0, .int 0, .ref cm, .ref ch])), (t0, .inr (7, ft)), (cs, .inr (4, [.int 0, .int 0, .ref csa, .ref csb, .ref csc, .ref csd, .ref cse])), (n0, .inr (4, [.int 0, .int 0, .ref n0a, .ref n0b, .ref n0c, .ref n0d, .ref n0e])), (csa, .inl (cy 0, 6, .inl fm_2)), (csb, .inl (cy 0, 6, .inl fm_3)), (csc, .inl (cy 0, 6, .inl fm_4)), (csd, .inl (cy 0, 6, .inl fm_5)), (cse, .inl (cy 0, 50, .inl fm_6)), (n0a, .inl (cy 0, 6, .inl fn0)), (n0b, .inl (cy 0, 6, .inl fn1)), (n0c, .inl (cy 0, 6, .inl fn2)), (n0d, .inl (cy 0, 6, .inl fn3)), (n0e, .inl (cy 0, 50, .inl fn4))] H → va_D A [(c0, .inr (0, [.ref cs, .int 0, .int 0, .int 0, .int 0, .ref cm, .ref ch])), (t0, .inr (7, ft)), (cs, .inr (4, [.int 0, .int 0, .ref csa, .ref csb, .ref csc, .ref csd, .ref cse])), (n0, .inr (4, [.int 0, .int 0, .ref n0a, .ref n0b, .ref n0c, .ref n0d, .ref n0e])), (csa, .inl (cy 0, 6, .inl fm_2)), (csb, .inl (cy 0, 6, .inl fm_3)), (csc, .inl (cy 0, 6, .inl fm_4)), (csd, .inl (cy 0, 6, .inl fm_5)), (cse, .inl (cy 0, 50, .inl fm_6)), (n0a, .inl (cy 0, 6, .inl fn0)), (n0b, .inl (cy 0, 6, .inl fn1)), (n0c, .inl (cy 0, 6, .inl fn2)), (n0d, .inl (cy 0, 6, .inl fn3)), (n0e, .inl (cy 0, 50, .inl fn4))] → va_S A s.heap H locs → lv_has ls 9 [(5, .int (nI i_7)), (0, .ref c0), (1, .ref t0), (2, .ref n0), (3, .int p0), (4, .int (nI k9))] → W p l e ({ frames := 2, cells := 0, slots := 0, locals := 101 } : Room) s m args below meth c H locs 0 0 (MQ below (myQv D A (fun (w : va_W) => w = [(c0, .inr (0, [.ref cs, .int 0, .int 0, .int 0, .int 0, .ref cm, .ref ch])), (cs, .inr (4, [.int 0, .int 0, .ref csa, .ref csb, .ref csc, .ref csd, .ref cse])), (t0, .inr (7, ft))])) args s ({ frames := 2, cells := 0, slots := 0, locals := 101 } : Room).cells ({ frames := 2, cells := 0, slots := 0, locals := 101 } : Room).slots A) (F0 m 21 ls []) := by
    intro n_8
    induction n_8 with
    | zero =>
      intro i_7 H locs ls hi_11 hP hD hS hl
      refine lv_iload hx hb dX0_live_21 (lv_at hl 0 rfl) ?_
      refine lv_iload hx hb dX0_live_23 (lv_at hl 5 rfl) ?_
      refine lv_icmp_ge (tgt := 116) hx hb dX0_live_25 (by decide) (fun _ => ?_) (fun c9 => absurd (nI_le (a := k9) (b := i_7) (by omega) (by omega)) c9)
      have hP := hP.sub (ws' := [(c0, .inr (0, [.ref cs, .int 0, .int 0, .int 0, .int 0, .ref cm, .ref ch])), (cs, .inr (4, [.int 0, .int 0, .ref csa, .ref csb, .ref csc, .ref csd, .ref cse])), (t0, .inr (7, ft))]) [0, 2, 1] rfl
      have hD := hD.sub (ws' := [(c0, .inr (0, [.ref cs, .int 0, .int 0, .int 0, .int 0, .ref cm, .ref ch])), (cs, .inr (4, [.int 0, .int 0, .ref csa, .ref csb, .ref csc, .ref csd, .ref cse])), (t0, .inr (7, ft))]) [0, 2, 1] (by decide +kernel) rfl
      exact endV hx hb hr hlocks [(c0, .inr (0, [.ref cs, .int 0, .int 0, .int 0, .int 0, .ref cm, .ref ch])), (cs, .inr (4, [.int 0, .int 0, .ref csa, .ref csb, .ref csc, .ref csd, .ref cse])), (t0, .inr (7, ft))] rfl hP hD hS (Nat.le_of_ble_eq_true rfl) (Nat.le_of_ble_eq_true rfl) dX0_live_116
    | succ n_8 ih_9 =>
      intro i_7 H locs ls hi_11 hP hD hS hl
      refine lv_iload hx hb dX0_live_21 (lv_at hl 0 rfl) ?_
      refine lv_iload hx hb dX0_live_23 (lv_at hl 5 rfl) ?_
      refine lv_icmp_ge (tgt := 116) hx hb dX0_live_25 (by decide) (fun c9 => absurd c9 (nI_ge (a := i_7) (b := k9) (by omega) hk9)) (fun _ => ?_)
      refine lv_iconst (v := 0) hx hb dX0_live_28 (by decide) ?_
      refine lv_istore (lv' := [(6, .int 0), (5, .int (nI i_7)), (0, .ref c0), (1, .ref t0), (2, .ref n0), (3, .int p0), (4, .int (nI k9))]) hx hb dX0_live_29 hl (by decide) rfl (fun ls hl => ?_)
      refine lv_iload hx hb dX0_live_31 (lv_at hl 0 rfl) ?_
      refine lv_aload_n hx hb dX0_live_33 rfl (lv_at hl 3 rfl) ?_
      refine va_get (ci := 7) (v := .int 0) (C := RX7) (T := TX7) (N := 18) hx hb hts in_X0_live_X7 hown hK hP 1 rfl rfl 3 (by decide) (hts (.fieldLink RX0 41 "HallTables$Town" "men" "I") (List.mem_of_getElem? (i := 4) rfl)) (fun _ h9 => h9) e_men dX0_live_34 ?_
      refine lv_icmp_ge (tgt := 110) hx hb dX0_live_37 (by decide) (fun _ => ?_) (fun c9 => absurd (by decide) c9)
      refine lv_iinc (v := nI (i_7 + 1)) (lv' := [(5, .int (nI (i_7 + 1))), (6, .int 0), (0, .ref c0), (1, .ref t0), (2, .ref n0), (3, .int p0), (4, .int (nI k9))]) hx hb dX0_live_110 hl (k := 1) rfl (nI_1 i_7) (by decide) rfl (fun ls hl => ?_)
      refine lv_goto (tgt := 21) hx hb dX0_live_113 (by decide) ?_
      exact ih_9 (i_7 + 1) H locs ls (by omega) hP hD hS (lv_sub hl [0, 2, 3, 4, 5, 6] rfl)
  exact lp_10 k9 0 _ _ _ (by omega) hP hD hS hl

theorem in_X11_year_X11 : ∀ w ∈ u_ws RX11 TX11 11, w ∈ wsX11_year := fun w h => (List.mem_cons_of_mem _ (List.mem_append_right _ h))
theorem in_X11_year_X0 : ∀ w ∈ u_ws RX0 TX0 7, w ∈ wsX11_year := fun w h => (List.mem_cons_of_mem _ (List.mem_append_left _ (List.mem_append_left _ (List.mem_append_left _ (List.mem_append_right _ h)))))
set_option maxRecDepth 100000 in
set_option maxHeartbeats 4000000 in
/-- year on a new object: 0, or NONE -/
theorem c_X11_year (l : Launch) (D : va_G) (cy : Nat → ClassId) (h0 : Nat) (fs : List Value) (c0 : Nat) (cm : Nat) (ch : Nat) (cs : Nat) (csa : Nat) (csb : Nat) (csc : Nat) (csd : Nat) (cse : Nat) (n0 : Nat) (n0a : Nat) (n0b : Nat) (n0c : Nat) (n0d : Nat) (n0e : Nat) (t0 : Nat) (ft : List Value) (fc0 : Nat → Int32) (fc1 : Nat → Int32) (fc2 : Nat → Int32) (fc3 : Nat → Int32) (fc4 : Nat → Int32) (fn0 : Nat → Int32) (fn1 : Nat → Int32) (fn2 : Nat → Int32) (fn3 : Nat → Int32) (fn4 : Nat → Int32) (p0 : Int32) (p1 : Int32) (p2 : Int32) (e_n : fs[2]? = some (.ref n0)) (e_c : fs[8]? = some (.ref c0)) (e_t : fs[10]? = some (.ref t0)) (e_men : ft[3]? = some (.int 0)) : Cti l D cy yX11_year wsX11_year ({ frames := 3, cells := 0, slots := 0, locals := 129 } : Room) [.ref h0, .int p0, .int p1, .int p2] [(h0, .inr (11, fs)), (c0, .inr (0, [.ref cs, .int 0, .int 0, .int 0, .int 0, .ref cm, .ref ch])), (cs, .inr (4, [.int 0, .int 0, .ref csa, .ref csb, .ref csc, .ref csd, .ref cse])), (n0, .inr (4, [.int 0, .int 0, .ref n0a, .ref n0b, .ref n0c, .ref n0d, .ref n0e])), (t0, .inr (7, ft)), (csa, .inl (cy 0, 6, .inl fc0)), (csb, .inl (cy 0, 6, .inl fc1)), (csc, .inl (cy 0, 6, .inl fc2)), (csd, .inl (cy 0, 6, .inl fc3)), (cse, .inl (cy 0, 50, .inl fc4)), (n0a, .inl (cy 0, 6, .inl fn0)), (n0b, .inl (cy 0, 6, .inl fn1)), (n0c, .inl (cy 0, 6, .inl fn2)), (n0d, .inl (cy 0, 6, .inl fn3)), (n0e, .inl (cy 0, 50, .inl fn4))] myT (fun (r : Int32) (w : va_W) => r = yearV p1 p2 ∧ w = []) := by
  refine ofI (cc := cX11_year) (maxL := 4) (ret := (some .int)) (by decide) rfl (Nat.le_of_ble_eq_true rfl) ?_
  intro p e s m args below meth c A ls hx hb hr hts hown hlocks hml hin hK hP hD hS hA hX hl
  have hown : s.vm.findClass RX11 = some m.cls := hown
  have hl : lv_has ls 4 [(0, .ref h0), (1, .int p0), (2, .int p1), (3, .int p2)] := hl
  refine lv_iload_n hx hb dX11_year_0 rfl (lv_at hl 2 rfl) ?_
  refine lv_iconst (v := 1) hx hb dX11_year_1 (by decide) ?_
  refine lv_icmp_lt (tgt := 21) hx hb dX11_year_2 (by decide) (fun c_1 => ?_) (fun c_1 => ?_)
  · refine lv_iconst (v := (-1)) hx hb dX11_year_21 (by decide) ?_
    have hP := hP.sub (ws' := []) [] rfl
    have hD := hD.sub (ws' := []) [] (by decide +kernel) rfl
    exact endI hx hb hr hlocks [] rfl ⟨(yearV_a c_1), rfl⟩ hP hD hS (Nat.le_of_ble_eq_true rfl) (Nat.le_of_ble_eq_true rfl) dX11_year_22
  · refine lv_iload_n hx hb dX11_year_5 rfl (lv_at hl 2 rfl) ?_
    refine lv_sipush (v := 400) hx hb dX11_year_6 (by decide) ?_
    refine lv_icmp_gt (tgt := 21) hx hb dX11_year_9 (by decide) (fun c_2 => ?_) (fun c_2 => ?_)
    · refine lv_iconst (v := (-1)) hx hb dX11_year_21 (by decide) ?_
      have hP := hP.sub (ws' := []) [] rfl
      have hD := hD.sub (ws' := []) [] (by decide +kernel) rfl
      exact endI hx hb hr hlocks [] rfl ⟨(yearV_b c_2), rfl⟩ hP hD hS (Nat.le_of_ble_eq_true rfl) (Nat.le_of_ble_eq_true rfl) dX11_year_22
    · refine lv_iload_n hx hb dX11_year_12 rfl (lv_at hl 3 rfl) ?_
      refine lv_if_lt (tgt := 21) hx hb dX11_year_13 (by decide) (fun c_3 => ?_) (fun c_3 => ?_)
      · refine lv_iconst (v := (-1)) hx hb dX11_year_21 (by decide) ?_
        have hP := hP.sub (ws' := []) [] rfl
        have hD := hD.sub (ws' := []) [] (by decide +kernel) rfl
        exact endI hx hb hr hlocks [] rfl ⟨(yearV_c c_3), rfl⟩ hP hD hS (Nat.le_of_ble_eq_true rfl) (Nat.le_of_ble_eq_true rfl) dX11_year_22
      · refine lv_iload_n hx hb dX11_year_16 rfl (lv_at hl 3 rfl) ?_
        refine lv_iconst (v := 3) hx hb dX11_year_17 (by decide) ?_
        refine lv_icmp_le (tgt := 23) hx hb dX11_year_18 (by decide) (fun c_4 => ?_) (fun c_4 => ?_)
        · obtain ⟨k_5, hk_6, rfl⟩ := nI_of (nn1 c_1)
          rcases rng4 c_3 c_4 with rfl | rfl | rfl | rfl
          · refine lv_aload_n hx hb dX11_year_23 rfl (lv_at hl 0 rfl) ?_
            refine va_get (ci := 11) (v := .ref c0) (C := RX11) (T := TX11) (N := 11) hx hb hts in_X11_year_X11 hown hK hP 0 rfl rfl 8 (by decide) (hts (.fieldLink RX11 63 "HallTables" "chance" "LHallTables$Chance;") (List.mem_of_getElem? (i := 1) rfl)) (fun _ h9 => h9) e_c dX11_year_24 ?_
            refine lv_aload_n hx hb dX11_year_27 rfl (lv_at hl 0 rfl) ?_
            refine va_get (ci := 11) (v := .ref t0) (C := RX11) (T := TX11) (N := 11) hx hb hts in_X11_year_X11 hown hK hP 0 rfl rfl 10 (by decide) (hts (.fieldLink RX11 77 "HallTables" "town" "LHallTables$Town;") (List.mem_of_getElem? (i := 2) rfl)) (fun _ h9 => h9) e_t dX11_year_28 ?_
            refine lv_aload_n hx hb dX11_year_31 rfl (lv_at hl 0 rfl) ?_
            refine va_get (ci := 11) (v := .ref n0) (C := RX11) (T := TX11) (N := 11) hx hb hts in_X11_year_X11 hown hK hP 0 rfl rfl 2 (by decide) (hts (.fieldLink RX11 24 "HallTables" "now" "LHallTables$Stand;") (List.mem_of_getElem? (i := 3) rfl)) (fun _ h9 => h9) e_n dX11_year_32 ?_
            refine lv_iload_n hx hb dX11_year_35 rfl (lv_at hl 1 rfl) ?_
            refine lv_iload_n hx hb dX11_year_36 rfl (lv_at hl 2 rfl) ?_
            refine cVv (As := [.ref t0, .ref n0, .int p0, .int (nI k_5)]) (rest := []) (wr := [(h0, .inr (11, fs))]) ⟨hx, hb, hml, hown, hts⟩ (c_X0_live l D cy c0 cm ch cs csa csb csc csd cse n0 n0a n0b n0c n0d n0e t0 ft fc0 fc1 fc2 fc3 fc4 fn0 fn1 fn2 fn3 fn4 p0 k_5 e_men hk_6) (cwV 4 hts gX11_year_X0_live rfl rfl rfl (by decide +kernel) ⟨Nat.le_of_ble_eq_true rfl, Nat.le_of_ble_eq_true rfl⟩) hK hP hD hS hA [1, 2, 3, 4, 5, 6, 7, 8, 9, 10, 11, 12, 13, 14] [0] ⟨rfl, rfl, by decide +kernel, by decide +kernel, by decide +kernel⟩ 0 0 rfl rfl myX_T rfl hl.1 rfl (Nat.le_of_ble_eq_true rfl) dX11_year_37 ⟨Nat.le_of_ble_eq_true rfl, Nat.le_of_ble_eq_true rfl⟩ (fun w_7 H locs hw hP hD hS => ?_)
            obtain rfl := hw
            have hP : va_P D vwCl [(h0, .inr (11, fs)), (c0, .inr (0, [.ref cs, .int 0, .int 0, .int 0, .int 0, .ref cm, .ref ch])), (cs, .inr (4, [.int 0, .int 0, .ref csa, .ref csb, .ref csc, .ref csd, .ref cse])), (t0, .inr (7, ft))] H := hP
            have hD : va_D A [(h0, .inr (11, fs)), (c0, .inr (0, [.ref cs, .int 0, .int 0, .int 0, .int 0, .ref cm, .ref ch])), (cs, .inr (4, [.int 0, .int 0, .ref csa, .ref csb, .ref csc, .ref csd, .ref cse])), (t0, .inr (7, ft))] := hD
            refine lv_iload_n hx hb dX11_year_40 rfl (lv_at hl 3 rfl) ?_
            refine lv_tableIn (off := 27) (tgt := 68) hx hb dX11_year_41 (by decide) (by decide) (by decide) (by decide) ?_
            refine lv_aload_n hx hb dX11_year_68 rfl (lv_at hl 0 rfl) ?_
            refine va_get (ci := 11) (v := .ref c0) (C := RX11) (T := TX11) (N := 11) hx hb hts in_X11_year_X11 hown hK hP 0 rfl rfl 8 (by decide) (hts (.fieldLink RX11 63 "HallTables" "chance" "LHallTables$Chance;") (List.mem_of_getElem? (i := 1) rfl)) (fun _ h9 => h9) e_c dX11_year_69 ?_
            refine va_get (ci := 0) (v := .int 0) (C := RX0) (T := TX0) (N := 7) hx hb hts in_X11_year_X0 hown hK hP 1 rfl rfl 1 (by decide) (hts (.fieldLink RX11 276 "HallTables$Chance" "steps" "I") (List.mem_of_getElem? (i := 4) rfl)) (fun _ h9 => h9) rfl dX11_year_72 ?_
            have hP := hP.sub (ws' := []) [] rfl
            have hD := hD.sub (ws' := []) [] (by decide +kernel) rfl
            exact endI hx hb hr hlocks [] rfl ⟨(yearV_ok c_1 c_2 c_3 c_4), rfl⟩ hP hD hS (Nat.le_of_ble_eq_true rfl) (Nat.le_of_ble_eq_true rfl) dX11_year_75
          · refine lv_aload_n hx hb dX11_year_23 rfl (lv_at hl 0 rfl) ?_
            refine va_get (ci := 11) (v := .ref c0) (C := RX11) (T := TX11) (N := 11) hx hb hts in_X11_year_X11 hown hK hP 0 rfl rfl 8 (by decide) (hts (.fieldLink RX11 63 "HallTables" "chance" "LHallTables$Chance;") (List.mem_of_getElem? (i := 1) rfl)) (fun _ h9 => h9) e_c dX11_year_24 ?_
            refine lv_aload_n hx hb dX11_year_27 rfl (lv_at hl 0 rfl) ?_
            refine va_get (ci := 11) (v := .ref t0) (C := RX11) (T := TX11) (N := 11) hx hb hts in_X11_year_X11 hown hK hP 0 rfl rfl 10 (by decide) (hts (.fieldLink RX11 77 "HallTables" "town" "LHallTables$Town;") (List.mem_of_getElem? (i := 2) rfl)) (fun _ h9 => h9) e_t dX11_year_28 ?_
            refine lv_aload_n hx hb dX11_year_31 rfl (lv_at hl 0 rfl) ?_
            refine va_get (ci := 11) (v := .ref n0) (C := RX11) (T := TX11) (N := 11) hx hb hts in_X11_year_X11 hown hK hP 0 rfl rfl 2 (by decide) (hts (.fieldLink RX11 24 "HallTables" "now" "LHallTables$Stand;") (List.mem_of_getElem? (i := 3) rfl)) (fun _ h9 => h9) e_n dX11_year_32 ?_
            refine lv_iload_n hx hb dX11_year_35 rfl (lv_at hl 1 rfl) ?_
            refine lv_iload_n hx hb dX11_year_36 rfl (lv_at hl 2 rfl) ?_
            refine cVv (As := [.ref t0, .ref n0, .int p0, .int (nI k_5)]) (rest := []) (wr := [(h0, .inr (11, fs))]) ⟨hx, hb, hml, hown, hts⟩ (c_X0_live l D cy c0 cm ch cs csa csb csc csd cse n0 n0a n0b n0c n0d n0e t0 ft fc0 fc1 fc2 fc3 fc4 fn0 fn1 fn2 fn3 fn4 p0 k_5 e_men hk_6) (cwV 4 hts gX11_year_X0_live rfl rfl rfl (by decide +kernel) ⟨Nat.le_of_ble_eq_true rfl, Nat.le_of_ble_eq_true rfl⟩) hK hP hD hS hA [1, 2, 3, 4, 5, 6, 7, 8, 9, 10, 11, 12, 13, 14] [0] ⟨rfl, rfl, by decide +kernel, by decide +kernel, by decide +kernel⟩ 0 0 rfl rfl myX_T rfl hl.1 rfl (Nat.le_of_ble_eq_true rfl) dX11_year_37 ⟨Nat.le_of_ble_eq_true rfl, Nat.le_of_ble_eq_true rfl⟩ (fun w_8 H locs hw hP hD hS => ?_)
            obtain rfl := hw
            have hP : va_P D vwCl [(h0, .inr (11, fs)), (c0, .inr (0, [.ref cs, .int 0, .int 0, .int 0, .int 0, .ref cm, .ref ch])), (cs, .inr (4, [.int 0, .int 0, .ref csa, .ref csb, .ref csc, .ref csd, .ref cse])), (t0, .inr (7, ft))] H := hP
            have hD : va_D A [(h0, .inr (11, fs)), (c0, .inr (0, [.ref cs, .int 0, .int 0, .int 0, .int 0, .ref cm, .ref ch])), (cs, .inr (4, [.int 0, .int 0, .ref csa, .ref csb, .ref csc, .ref csd, .ref cse])), (t0, .inr (7, ft))] := hD
            refine lv_iload_n hx hb dX11_year_40 rfl (lv_at hl 3 rfl) ?_
            refine lv_tableIn (off := 35) (tgt := 76) hx hb dX11_year_41 (by decide) (by decide) (by decide) (by decide) ?_
            refine lv_aload_n hx hb dX11_year_76 rfl (lv_at hl 0 rfl) ?_
            refine va_get (ci := 11) (v := .ref c0) (C := RX11) (T := TX11) (N := 11) hx hb hts in_X11_year_X11 hown hK hP 0 rfl rfl 8 (by decide) (hts (.fieldLink RX11 63 "HallTables" "chance" "LHallTables$Chance;") (List.mem_of_getElem? (i := 1) rfl)) (fun _ h9 => h9) e_c dX11_year_77 ?_
            refine va_get (ci := 0) (v := .int 0) (C := RX0) (T := TX0) (N := 7) hx hb hts in_X11_year_X0 hown hK hP 1 rfl rfl 2 (by decide) (hts (.fieldLink RX11 279 "HallTables$Chance" "loss" "I") (List.mem_of_getElem? (i := 5) rfl)) (fun _ h9 => h9) rfl dX11_year_80 ?_
            have hP := hP.sub (ws' := []) [] rfl
            have hD := hD.sub (ws' := []) [] (by decide +kernel) rfl
            exact endI hx hb hr hlocks [] rfl ⟨(yearV_ok c_1 c_2 c_3 c_4), rfl⟩ hP hD hS (Nat.le_of_ble_eq_true rfl) (Nat.le_of_ble_eq_true rfl) dX11_year_83
          · refine lv_aload_n hx hb dX11_year_23 rfl (lv_at hl 0 rfl) ?_
            refine va_get (ci := 11) (v := .ref c0) (C := RX11) (T := TX11) (N := 11) hx hb hts in_X11_year_X11 hown hK hP 0 rfl rfl 8 (by decide) (hts (.fieldLink RX11 63 "HallTables" "chance" "LHallTables$Chance;") (List.mem_of_getElem? (i := 1) rfl)) (fun _ h9 => h9) e_c dX11_year_24 ?_
            refine lv_aload_n hx hb dX11_year_27 rfl (lv_at hl 0 rfl) ?_
            refine va_get (ci := 11) (v := .ref t0) (C := RX11) (T := TX11) (N := 11) hx hb hts in_X11_year_X11 hown hK hP 0 rfl rfl 10 (by decide) (hts (.fieldLink RX11 77 "HallTables" "town" "LHallTables$Town;") (List.mem_of_getElem? (i := 2) rfl)) (fun _ h9 => h9) e_t dX11_year_28 ?_
            refine lv_aload_n hx hb dX11_year_31 rfl (lv_at hl 0 rfl) ?_
            refine va_get (ci := 11) (v := .ref n0) (C := RX11) (T := TX11) (N := 11) hx hb hts in_X11_year_X11 hown hK hP 0 rfl rfl 2 (by decide) (hts (.fieldLink RX11 24 "HallTables" "now" "LHallTables$Stand;") (List.mem_of_getElem? (i := 3) rfl)) (fun _ h9 => h9) e_n dX11_year_32 ?_
            refine lv_iload_n hx hb dX11_year_35 rfl (lv_at hl 1 rfl) ?_
            refine lv_iload_n hx hb dX11_year_36 rfl (lv_at hl 2 rfl) ?_
            refine cVv (As := [.ref t0, .ref n0, .int p0, .int (nI k_5)]) (rest := []) (wr := [(h0, .inr (11, fs))]) ⟨hx, hb, hml, hown, hts⟩ (c_X0_live l D cy c0 cm ch cs csa csb csc csd cse n0 n0a n0b n0c n0d n0e t0 ft fc0 fc1 fc2 fc3 fc4 fn0 fn1 fn2 fn3 fn4 p0 k_5 e_men hk_6) (cwV 4 hts gX11_year_X0_live rfl rfl rfl (by decide +kernel) ⟨Nat.le_of_ble_eq_true rfl, Nat.le_of_ble_eq_true rfl⟩) hK hP hD hS hA [1, 2, 3, 4, 5, 6, 7, 8, 9, 10, 11, 12, 13, 14] [0] ⟨rfl, rfl, by decide +kernel, by decide +kernel, by decide +kernel⟩ 0 0 rfl rfl myX_T rfl hl.1 rfl (Nat.le_of_ble_eq_true rfl) dX11_year_37 ⟨Nat.le_of_ble_eq_true rfl, Nat.le_of_ble_eq_true rfl⟩ (fun w_9 H locs hw hP hD hS => ?_)
            obtain rfl := hw
            have hP : va_P D vwCl [(h0, .inr (11, fs)), (c0, .inr (0, [.ref cs, .int 0, .int 0, .int 0, .int 0, .ref cm, .ref ch])), (cs, .inr (4, [.int 0, .int 0, .ref csa, .ref csb, .ref csc, .ref csd, .ref cse])), (t0, .inr (7, ft))] H := hP
            have hD : va_D A [(h0, .inr (11, fs)), (c0, .inr (0, [.ref cs, .int 0, .int 0, .int 0, .int 0, .ref cm, .ref ch])), (cs, .inr (4, [.int 0, .int 0, .ref csa, .ref csb, .ref csc, .ref csd, .ref cse])), (t0, .inr (7, ft))] := hD
            refine lv_iload_n hx hb dX11_year_40 rfl (lv_at hl 3 rfl) ?_
            refine lv_tableIn (off := 43) (tgt := 84) hx hb dX11_year_41 (by decide) (by decide) (by decide) (by decide) ?_
            refine lv_aload_n hx hb dX11_year_84 rfl (lv_at hl 0 rfl) ?_
            refine va_get (ci := 11) (v := .ref c0) (C := RX11) (T := TX11) (N := 11) hx hb hts in_X11_year_X11 hown hK hP 0 rfl rfl 8 (by decide) (hts (.fieldLink RX11 63 "HallTables" "chance" "LHallTables$Chance;") (List.mem_of_getElem? (i := 1) rfl)) (fun _ h9 => h9) e_c dX11_year_85 ?_
            refine va_get (ci := 0) (v := .ref cs) (C := RX0) (T := TX0) (N := 7) hx hb hts in_X11_year_X0 hown hK hP 1 rfl rfl 0 (by decide) (hts (.fieldLink RX11 281 "HallTables$Chance" "stand" "LHallTables$Stand;") (List.mem_of_getElem? (i := 6) rfl)) (fun _ h9 => h9) rfl dX11_year_88 ?_
            refine cVi (As := []) (rest := []) (wr := [(h0, .inr (11, fs)), (c0, .inr (0, [.ref cs, .int 0, .int 0, .int 0, .int 0, .ref cm, .ref ch])), (t0, .inr (7, ft))]) ⟨hx, hb, hml, hown, hts⟩ (c_X4_thingsCarried l D cy cs ([.int 0, .int 0, .ref csa, .ref csb, .ref csc, .ref csd, .ref cse]) rfl) (cwV 0 hts gX11_year_X4_thingsCarried rfl rfl rfl (by decide +kernel) ⟨Nat.le_of_ble_eq_true rfl, Nat.le_of_ble_eq_true rfl⟩) hK hP hD hS hA [2] [0, 1, 3] ⟨rfl, rfl, by decide +kernel, by decide +kernel, by decide +kernel⟩ 0 4 rfl rfl myX_T rfl hl.1 rfl (Nat.le_of_ble_eq_true rfl) dX11_year_91 ⟨Nat.le_of_ble_eq_true rfl, Nat.le_of_ble_eq_true rfl⟩ (fun r_10 w_11 H locs hw hP hD hS => ?_)
            obtain ⟨rfl, rfl⟩ := hw
            have hP : va_P D vwCl [(h0, .inr (11, fs)), (c0, .inr (0, [.ref cs, .int 0, .int 0, .int 0, .int 0, .ref cm, .ref ch])), (t0, .inr (7, ft))] H := hP
            have hD : va_D A [(h0, .inr (11, fs)), (c0, .inr (0, [.ref cs, .int 0, .int 0, .int 0, .int 0, .ref cm, .ref ch])), (t0, .inr (7, ft))] := hD
            have hP := hP.sub (ws' := []) [] rfl
            have hD := hD.sub (ws' := []) [] (by decide +kernel) rfl
            exact endI hx hb hr hlocks [] rfl ⟨(yearV_ok c_1 c_2 c_3 c_4), rfl⟩ hP hD hS (Nat.le_of_ble_eq_true rfl) (Nat.le_of_ble_eq_true rfl) dX11_year_94
          · refine lv_aload_n hx hb dX11_year_23 rfl (lv_at hl 0 rfl) ?_
            refine va_get (ci := 11) (v := .ref c0) (C := RX11) (T := TX11) (N := 11) hx hb hts in_X11_year_X11 hown hK hP 0 rfl rfl 8 (by decide) (hts (.fieldLink RX11 63 "HallTables" "chance" "LHallTables$Chance;") (List.mem_of_getElem? (i := 1) rfl)) (fun _ h9 => h9) e_c dX11_year_24 ?_
            refine lv_aload_n hx hb dX11_year_27 rfl (lv_at hl 0 rfl) ?_
            refine va_get (ci := 11) (v := .ref t0) (C := RX11) (T := TX11) (N := 11) hx hb hts in_X11_year_X11 hown hK hP 0 rfl rfl 10 (by decide) (hts (.fieldLink RX11 77 "HallTables" "town" "LHallTables$Town;") (List.mem_of_getElem? (i := 2) rfl)) (fun _ h9 => h9) e_t dX11_year_28 ?_
            refine lv_aload_n hx hb dX11_year_31 rfl (lv_at hl 0 rfl) ?_
            refine va_get (ci := 11) (v := .ref n0) (C := RX11) (T := TX11) (N := 11) hx hb hts in_X11_year_X11 hown hK hP 0 rfl rfl 2 (by decide) (hts (.fieldLink RX11 24 "HallTables" "now" "LHallTables$Stand;") (List.mem_of_getElem? (i := 3) rfl)) (fun _ h9 => h9) e_n dX11_year_32 ?_
            refine lv_iload_n hx hb dX11_year_35 rfl (lv_at hl 1 rfl) ?_
            refine lv_iload_n hx hb dX11_year_36 rfl (lv_at hl 2 rfl) ?_
            refine cVv (As := [.ref t0, .ref n0, .int p0, .int (nI k_5)]) (rest := []) (wr := [(h0, .inr (11, fs))]) ⟨hx, hb, hml, hown, hts⟩ (c_X0_live l D cy c0 cm ch cs csa csb csc csd cse n0 n0a n0b n0c n0d n0e t0 ft fc0 fc1 fc2 fc3 fc4 fn0 fn1 fn2 fn3 fn4 p0 k_5 e_men hk_6) (cwV 4 hts gX11_year_X0_live rfl rfl rfl (by decide +kernel) ⟨Nat.le_of_ble_eq_true rfl, Nat.le_of_ble_eq_true rfl⟩) hK hP hD hS hA [1, 2, 3, 4, 5, 6, 7, 8, 9, 10, 11, 12, 13, 14] [0] ⟨rfl, rfl, by decide +kernel, by decide +kernel, by decide +kernel⟩ 0 0 rfl rfl myX_T rfl hl.1 rfl (Nat.le_of_ble_eq_true rfl) dX11_year_37 ⟨Nat.le_of_ble_eq_true rfl, Nat.le_of_ble_eq_true rfl⟩ (fun w_12 H locs hw hP hD hS => ?_)
            obtain rfl := hw
            have hP : va_P D vwCl [(h0, .inr (11, fs)), (c0, .inr (0, [.ref cs, .int 0, .int 0, .int 0, .int 0, .ref cm, .ref ch])), (cs, .inr (4, [.int 0, .int 0, .ref csa, .ref csb, .ref csc, .ref csd, .ref cse])), (t0, .inr (7, ft))] H := hP
            have hD : va_D A [(h0, .inr (11, fs)), (c0, .inr (0, [.ref cs, .int 0, .int 0, .int 0, .int 0, .ref cm, .ref ch])), (cs, .inr (4, [.int 0, .int 0, .ref csa, .ref csb, .ref csc, .ref csd, .ref cse])), (t0, .inr (7, ft))] := hD
            refine lv_iload_n hx hb dX11_year_40 rfl (lv_at hl 3 rfl) ?_
            refine lv_tableOut (tgt := 95) hx hb dX11_year_41 (by decide) (by decide) ?_
            refine lv_aload_n hx hb dX11_year_95 rfl (lv_at hl 0 rfl) ?_
            refine va_get (ci := 11) (v := .ref c0) (C := RX11) (T := TX11) (N := 11) hx hb hts in_X11_year_X11 hown hK hP 0 rfl rfl 8 (by decide) (hts (.fieldLink RX11 63 "HallTables" "chance" "LHallTables$Chance;") (List.mem_of_getElem? (i := 1) rfl)) (fun _ h9 => h9) e_c dX11_year_96 ?_
            refine va_get (ci := 0) (v := .ref cs) (C := RX0) (T := TX0) (N := 7) hx hb hts in_X11_year_X0 hown hK hP 1 rfl rfl 0 (by decide) (hts (.fieldLink RX11 281 "HallTables$Chance" "stand" "LHallTables$Stand;") (List.mem_of_getElem? (i := 6) rfl)) (fun _ h9 => h9) rfl dX11_year_99 ?_
            refine lv_aload_n hx hb dX11_year_102 rfl (lv_at hl 0 rfl) ?_
            refine va_get (ci := 11) (v := .ref t0) (C := RX11) (T := TX11) (N := 11) hx hb hts in_X11_year_X11 hown hK hP 0 rfl rfl 10 (by decide) (hts (.fieldLink RX11 77 "HallTables" "town" "LHallTables$Town;") (List.mem_of_getElem? (i := 2) rfl)) (fun _ h9 => h9) e_t dX11_year_103 ?_
            refine cVi (As := [.ref t0]) (rest := []) (wr := [(h0, .inr (11, fs)), (c0, .inr (0, [.ref cs, .int 0, .int 0, .int 0, .int 0, .ref cm, .ref ch])), (t0, .inr (7, ft))]) ⟨hx, hb, hml, hown, hts⟩ (c_X4_menAtHome l D cy cs ([.int 0, .int 0, .ref csa, .ref csb, .ref csc, .ref csd, .ref cse]) t0 rfl) (cwV 1 hts gX11_year_X4_menAtHome rfl rfl rfl (by decide +kernel) ⟨Nat.le_of_ble_eq_true rfl, Nat.le_of_ble_eq_true rfl⟩) hK hP hD hS hA [2] [0, 1, 3] ⟨rfl, rfl, by decide +kernel, by decide +kernel, by decide +kernel⟩ 0 4 rfl rfl myX_T rfl hl.1 rfl (Nat.le_of_ble_eq_true rfl) dX11_year_106 ⟨Nat.le_of_ble_eq_true rfl, Nat.le_of_ble_eq_true rfl⟩ (fun r_13 w_14 H locs hw hP hD hS => ?_)
            obtain ⟨rfl, rfl⟩ := hw
            have hP : va_P D vwCl [(h0, .inr (11, fs)), (c0, .inr (0, [.ref cs, .int 0, .int 0, .int 0, .int 0, .ref cm, .ref ch])), (t0, .inr (7, ft))] H := hP
            have hD : va_D A [(h0, .inr (11, fs)), (c0, .inr (0, [.ref cs, .int 0, .int 0, .int 0, .int 0, .ref cm, .ref ch])), (t0, .inr (7, ft))] := hD
            have hP := hP.sub (ws' := []) [] rfl
            have hD := hD.sub (ws' := []) [] (by decide +kernel) rfl
            exact endI hx hb hr hlocks [] rfl ⟨(yearV_ok c_1 c_2 c_3 c_4), rfl⟩ hP hD hS (Nat.le_of_ble_eq_true rfl) (Nat.le_of_ble_eq_true rfl) dX11_year_109
        · refine lv_iconst (v := (-1)) hx hb dX11_year_21 (by decide) ?_
          have hP := hP.sub (ws' := []) [] rfl
          have hD := hD.sub (ws' := []) [] (by decide +kernel) rfl
          exact endI hx hb hr hlocks [] rfl ⟨(yearV_d c_4), rfl⟩ hP hD hS (Nat.le_of_ble_eq_true rfl) (Nat.le_of_ble_eq_true rfl) dX11_year_22

theorem in_X0_payAll_X0 : ∀ w ∈ u_ws RX0 TX0 7, w ∈ wsX0_payAll := fun w h => (List.mem_cons_of_mem _ (List.mem_append_left _ (List.mem_append_left _ (List.mem_append_right _ h))))
theorem in_X0_payAll_X7 : ∀ w ∈ u_ws RX7 TX7 18, w ∈ wsX0_payAll := fun w h => (List.mem_cons_of_mem _ (List.mem_append_right _ h))
set_option maxRecDepth 100000 in
set_option maxHeartbeats 4000000 in
/-- payAll without calls: nothing is paid -/
theorem c_X0_payAll (l : Launch) (D : va_G) (cy : Nat → ClassId) (c0 : Nat) (cm : Nat) (ch : Nat) (cs : Nat) (csa : Nat) (csb : Nat) (csc : Nat) (csd : Nat) (cse : Nat) (t0 : Nat) (ft : List Value) (tta : Nat) (tho : Nat) (tha : Nat) (fta : Nat → Int32) (fho : Nat → Int32) (fha : Nat → Int32) (fc0 : Nat → Int32) (fc1 : Nat → Int32) (fc2 : Nat → Int32) (fc3 : Nat → Int32) (fc4 : Nat → Int32) (e_men : ft[3]? = some (.int 0)) (e_calls : ft[4]? = some (.int 0)) (e_ta : ft[13]? = some (.ref tta)) (e_ho : ft[14]? = some (.ref tho)) (e_ha : ft[15]? = some (.ref tha)) : Ctv l D cy yX0_payAll wsX0_payAll ({ frames := 2, cells := 0, slots := 0, locals := 101 } : Room) [.ref c0, .ref t0] [(c0, .inr (0, [.ref cs, .int 0, .int 0, .int 0, .int 0, .ref cm, .ref ch])), (cs, .inr (4, [.int 0, .int 0, .ref csa, .ref csb, .ref csc, .ref csd, .ref cse])), (t0, .inr (7, ft)), (tta, .inl (cy 0, 50, .inl fta)), (tho, .inl (cy 0, 6, .inl fho)), (tha, .inl (cy 0, 6, .inl fha)), (csa, .inl (cy 0, 6, .inl fc0)), (csb, .inl (cy 0, 6, .inl fc1)), (csc, .inl (cy 0, 6, .inl fc2)), (csd, .inl (cy 0, 6, .inl fc3)), (cse, .inl (cy 0, 50, .inl fc4))] myT (fun (w : va_W) => w = [(c0, .inr (0, [.ref cs, .int 0, .int 0, .int 0, .int 0, .ref cm, .ref ch])), (cs, .inr (4, [.int 0, .int 0, .ref csa, .ref csb, .ref csc, .ref csd, .ref cse]))]) := by
  refine ofV (cc := cX0_payAll) (maxL := 3) (ret := none) (by decide) rfl (Nat.le_of_ble_eq_true rfl) ?_
  intro p e s m args below meth c A ls hx hb hr hts hown hlocks hml hin hK hP hD hS hA hX hl
  have hown : s.vm.findClass RX0 = some m.cls := hown
  have hl : lv_has ls 3 [(0, .ref c0), (1, .ref t0)] := hl
  refine lv_aload_n hx hb dX0_payAll_0 rfl (lv_at hl 0 rfl) ?_
  refine va_get (ci := 0) (v := .ref cs) (C := RX0) (T := TX0) (N := 7) hx hb hts in_X0_payAll_X0 hown hK hP 0 rfl rfl 0 (by decide) (hts (.fieldLink RX0 12 "HallTables$Chance" "stand" "LHallTables$Stand;") (List.mem_of_getElem? (i := 1) rfl)) (fun _ h9 => h9) rfl dX0_payAll_1 ?_
  refine lv_aload_n hx hb dX0_payAll_4 rfl (lv_at hl 1 rfl) ?_
  refine cVv (As := [.ref t0]) (rest := []) (wr := [(c0, .inr (0, [.ref cs, .int 0, .int 0, .int 0, .int 0, .ref cm, .ref ch]))]) ⟨hx, hb, hml, hown, hts⟩ (c_X4_begin l D cy cs csa csb csc csd cse t0 ft tta tho tha fta fho fha fc0 fc1 fc2 fc3 fc4 e_men e_ta e_ho e_ha) (cwV 1 hts gX0_payAll_X4_begin rfl rfl rfl (by decide +kernel) ⟨Nat.le_of_ble_eq_true rfl, Nat.le_of_ble_eq_true rfl⟩) hK hP hD hS hA [1, 2, 3, 4, 5, 6, 7, 8, 9, 10] [0] ⟨rfl, rfl, by decide +kernel, by decide +kernel, by decide +kernel⟩ 0 4 rfl rfl myX_T rfl hl.1 rfl (Nat.le_of_ble_eq_true rfl) dX0_payAll_5 ⟨Nat.le_of_ble_eq_true rfl, Nat.le_of_ble_eq_true rfl⟩ (fun w_1 H locs hw hP hD hS => ?_)
  obtain ⟨fm_2, fm_3, fm_4, fm_5, fm_6, rfl⟩ := hw
  have hP : va_P D vwCl [(c0, .inr (0, [.ref cs, .int 0, .int 0, .int 0, .int 0, .ref cm, .ref ch])), (cs, .inr (4, [.int 0, .int 0, .ref csa, .ref csb, .ref csc, .ref csd, .ref cse])), (t0, .inr (7, ft)), (tta, .inl (cy 0, 50, .inl fta)), (tho, .inl (cy 0, 6, .inl fho)), (tha, .inl (cy 0, 6, .inl fha)), (csa, .inl (cy 0, 6, .inl fm_2)), (csb, .inl (cy 0, 6, .inl fm_3)), (csc, .inl (cy 0, 6, .inl fm_4)), (csd, .inl (cy 0, 6, .inl fm_5)), (cse, .inl (cy 0, 50, .inl fm_6))] H := hP
  have hD : va_D A [(c0, .inr (0, [.ref cs, .int 0, .int 0, .int 0, .int 0, .ref cm, .ref ch])), (cs, .inr (4, [.int 0, .int 0, .ref csa, .ref csb, .ref csc, .ref csd, .ref cse])), (t0, .inr (7, ft)), (tta, .inl (cy 0, 50, .inl fta)), (tho, .inl (cy 0, 6, .inl fho)), (tha, .inl (cy 0, 6, .inl fha)), (csa, .inl (cy 0, 6, .inl fm_2)), (csb, .inl (cy 0, 6, .inl fm_3)), (csc, .inl (cy 0, 6, .inl fm_4)), (csd, .inl (cy 0, 6, .inl fm_5)), (cse, .inl (cy 0, 50, .inl fm_6))] := hD
  refine lv_aload_n hx hb dX0_payAll_8 rfl (lv_at hl 0 rfl) ?_
  refine lv_iconst (v := 0) hx hb dX0_payAll_9 (by decide) ?_
  refine va_put (ci := 0) (v := .int 0) (ty := .int) (C := RX0) (T := TX0) (N := 7) hx hb hts in_X0_payAll_X0 tyX0 tyX0_ok nmX0 hown hK hP hD hS 0 rfl rfl 1 (by decide) (hts (.fieldLink RX0 34 "HallTables$Chance" "steps" "I") (List.mem_of_getElem? (i := 2) rfl)) (fun _ h9 => h9) rfl (by decide +kernel) rfl rfl (Nat.le_of_ble_eq_true rfl) dX0_payAll_10 (fun H locs hP hD hS => ?_)
  have hP : va_P D vwCl [(c0, .inr (0, [.ref cs, .int 0, .int 0, .int 0, .int 0, .ref cm, .ref ch])), (cs, .inr (4, [.int 0, .int 0, .ref csa, .ref csb, .ref csc, .ref csd, .ref cse])), (t0, .inr (7, ft)), (tta, .inl (cy 0, 50, .inl fta)), (tho, .inl (cy 0, 6, .inl fho)), (tha, .inl (cy 0, 6, .inl fha)), (csa, .inl (cy 0, 6, .inl fm_2)), (csb, .inl (cy 0, 6, .inl fm_3)), (csc, .inl (cy 0, 6, .inl fm_4)), (csd, .inl (cy 0, 6, .inl fm_5)), (cse, .inl (cy 0, 50, .inl fm_6))] H := hP
  have hD : va_D A [(c0, .inr (0, [.ref cs, .int 0, .int 0, .int 0, .int 0, .ref cm, .ref ch])), (cs, .inr (4, [.int 0, .int 0, .ref csa, .ref csb, .ref csc, .ref csd, .ref cse])), (t0, .inr (7, ft)), (tta, .inl (cy 0, 50, .inl fta)), (tho, .inl (cy 0, 6, .inl fho)), (tha, .inl (cy 0, 6, .inl fha)), (csa, .inl (cy 0, 6, .inl fm_2)), (csb, .inl (cy 0, 6, .inl fm_3)), (csc, .inl (cy 0, 6, .inl fm_4)), (csd, .inl (cy 0, 6, .inl fm_5)), (cse, .inl (cy 0, 50, .inl fm_6))] := hD
  refine lv_aload_n hx hb dX0_payAll_13 rfl (lv_at hl 0 rfl) ?_
  refine lv_iconst (v := 0) hx hb dX0_payAll_14 (by decide) ?_
  refine va_put (ci := 0) (v := .int 0) (ty := .int) (C := RX0) (T := TX0) (N := 7) hx hb hts in_X0_payAll_X0 tyX0 tyX0_ok nmX0 hown hK hP hD hS 0 rfl rfl 2 (by decide) (hts (.fieldLink RX0 38 "HallTables$Chance" "loss" "I") (List.mem_of_getElem? (i := 3) rfl)) (fun _ h9 => h9) rfl (by decide +kernel) rfl rfl (Nat.le_of_ble_eq_true rfl) dX0_payAll_15 (fun H locs hP hD hS => ?_)
  have hP : va_P D vwCl [(c0, .inr (0, [.ref cs, .int 0, .int 0, .int 0, .int 0, .ref cm, .ref ch])), (cs, .inr (4, [.int 0, .int 0, .ref csa, .ref csb, .ref csc, .ref csd, .ref cse])), (t0, .inr (7, ft)), (tta, .inl (cy 0, 50, .inl fta)), (tho, .inl (cy 0, 6, .inl fho)), (tha, .inl (cy 0, 6, .inl fha)), (csa, .inl (cy 0, 6, .inl fm_2)), (csb, .inl (cy 0, 6, .inl fm_3)), (csc, .inl (cy 0, 6, .inl fm_4)), (csd, .inl (cy 0, 6, .inl fm_5)), (cse, .inl (cy 0, 50, .inl fm_6))] H := hP
  have hD : va_D A [(c0, .inr (0, [.ref cs, .int 0, .int 0, .int 0, .int 0, .ref cm, .ref ch])), (cs, .inr (4, [.int 0, .int 0, .ref csa, .ref csb, .ref csc, .ref csd, .ref cse])), (t0, .inr (7, ft)), (tta, .inl (cy 0, 50, .inl fta)), (tho, .inl (cy 0, 6, .inl fho)), (tha, .inl (cy 0, 6, .inl fha)), (csa, .inl (cy 0, 6, .inl fm_2)), (csb, .inl (cy 0, 6, .inl fm_3)), (csc, .inl (cy 0, 6, .inl fm_4)), (csd, .inl (cy 0, 6, .inl fm_5)), (cse, .inl (cy 0, 50, .inl fm_6))] := hD
  refine lv_aload_n hx hb dX0_payAll_18 rfl (lv_at hl 0 rfl) ?_
  refine lv_iconst (v := 0) hx hb dX0_payAll_19 (by decide) ?_
  refine va_put (ci := 0) (v := .int 0) (ty := .int) (C := RX0) (T := TX0) (N := 7) hx hb hts in_X0_payAll_X0 tyX0 tyX0_ok nmX0 hown hK hP hD hS 0 rfl rfl 3 (by decide) (hts (.fieldLink RX0 91 "HallTables$Chance" "dropped" "I") (List.mem_of_getElem? (i := 4) rfl)) (fun _ h9 => h9) rfl (by decide +kernel) rfl rfl (Nat.le_of_ble_eq_true rfl) dX0_payAll_20 (fun H locs hP hD hS => ?_)
  have hP : va_P D vwCl [(c0, .inr (0, [.ref cs, .int 0, .int 0, .int 0, .int 0, .ref cm, .ref ch])), (cs, .inr (4, [.int 0, .int 0, .ref csa, .ref csb, .ref csc, .ref csd, .ref cse])), (t0, .inr (7, ft)), (tta, .inl (cy 0, 50, .inl fta)), (tho, .inl (cy 0, 6, .inl fho)), (tha, .inl (cy 0, 6, .inl fha)), (csa, .inl (cy 0, 6, .inl fm_2)), (csb, .inl (cy 0, 6, .inl fm_3)), (csc, .inl (cy 0, 6, .inl fm_4)), (csd, .inl (cy 0, 6, .inl fm_5)), (cse, .inl (cy 0, 50, .inl fm_6))] H := hP
  have hD : va_D A [(c0, .inr (0, [.ref cs, .int 0, .int 0, .int 0, .int 0, .ref cm, .ref ch])), (cs, .inr (4, [.int 0, .int 0, .ref csa, .ref csb, .ref csc, .ref csd, .ref cse])), (t0, .inr (7, ft)), (tta, .inl (cy 0, 50, .inl fta)), (tho, .inl (cy 0, 6, .inl fho)), (tha, .inl (cy 0, 6, .inl fha)), (csa, .inl (cy 0, 6, .inl fm_2)), (csb, .inl (cy 0, 6, .inl fm_3)), (csc, .inl (cy 0, 6, .inl fm_4)), (csd, .inl (cy 0, 6, .inl fm_5)), (cse, .inl (cy 0, 50, .inl fm_6))] := hD
  refine lv_aload_n hx hb dX0_payAll_23 rfl (lv_at hl 0 rfl) ?_
  refine lv_iconst (v := 0) hx hb dX0_payAll_24 (by decide) ?_
  refine va_put (ci := 0) (v := .int 0) (ty := .int) (C := RX0) (T := TX0) (N := 7) hx hb hts in_X0_payAll_X0 tyX0 tyX0_ok nmX0 hown hK hP hD hS 0 rfl rfl 4 (by decide) (hts (.fieldLink RX0 94 "HallTables$Chance" "owed" "I") (List.mem_of_getElem? (i := 5) rfl)) (fun _ h9 => h9) rfl (by decide +kernel) rfl rfl (Nat.le_of_ble_eq_true rfl) dX0_payAll_25 (fun H locs hP hD hS => ?_)
  have hP : va_P D vwCl [(c0, .inr (0, [.ref cs, .int 0, .int 0, .int 0, .int 0, .ref cm, .ref ch])), (cs, .inr (4, [.int 0, .int 0, .ref csa, .ref csb, .ref csc, .ref csd, .ref cse])), (t0, .inr (7, ft)), (tta, .inl (cy 0, 50, .inl fta)), (tho, .inl (cy 0, 6, .inl fho)), (tha, .inl (cy 0, 6, .inl fha)), (csa, .inl (cy 0, 6, .inl fm_2)), (csb, .inl (cy 0, 6, .inl fm_3)), (csc, .inl (cy 0, 6, .inl fm_4)), (csd, .inl (cy 0, 6, .inl fm_5)), (cse, .inl (cy 0, 50, .inl fm_6))] H := hP
  have hD : va_D A [(c0, .inr (0, [.ref cs, .int 0, .int 0, .int 0, .int 0, .ref cm, .ref ch])), (cs, .inr (4, [.int 0, .int 0, .ref csa, .ref csb, .ref csc, .ref csd, .ref cse])), (t0, .inr (7, ft)), (tta, .inl (cy 0, 50, .inl fta)), (tho, .inl (cy 0, 6, .inl fho)), (tha, .inl (cy 0, 6, .inl fha)), (csa, .inl (cy 0, 6, .inl fm_2)), (csb, .inl (cy 0, 6, .inl fm_3)), (csc, .inl (cy 0, 6, .inl fm_4)), (csd, .inl (cy 0, 6, .inl fm_5)), (cse, .inl (cy 0, 50, .inl fm_6))] := hD
  refine lv_iconst (v := 0) hx hb dX0_payAll_28 (by decide) ?_
  refine lv_istore_n (lv' := [(2, .int 0), (0, .ref c0), (1, .ref t0)]) hx hb dX0_payAll_29 rfl hl (by decide) rfl (fun ls hl => ?_)
  refine lv_iload_n hx hb dX0_payAll_30 rfl (lv_at hl 0 rfl) ?_
  refine lv_aload_n hx hb dX0_payAll_31 rfl (lv_at hl 2 rfl) ?_
  refine va_get (ci := 7) (v := .int 0) (C := RX7) (T := TX7) (N := 18) hx hb hts in_X0_payAll_X7 hown hK hP 2 rfl rfl 4 (by decide) (hts (.fieldLink RX0 97 "HallTables$Town" "calls" "I") (List.mem_of_getElem? (i := 6) rfl)) (fun _ h9 => h9) e_calls dX0_payAll_32 ?_
  refine lv_icmp_ge (tgt := 60) hx hb dX0_payAll_35 (by decide) (fun _ => ?_) (fun c9 => absurd (by decide) c9)
  refine lv_iconst (v := 0) hx hb dX0_payAll_60 (by decide) ?_
  refine lv_istore_n (lv' := [(2, .int 0), (0, .ref c0), (1, .ref t0)]) hx hb dX0_payAll_61 rfl hl (by decide) rfl (fun ls hl => ?_)
  refine lv_iload_n hx hb dX0_payAll_62 rfl (lv_at hl 0 rfl) ?_
  refine lv_aload_n hx hb dX0_payAll_63 rfl (lv_at hl 1 rfl) ?_
  refine va_get (ci := 0) (v := .int 0) (C := RX0) (T := TX0) (N := 7) hx hb hts in_X0_payAll_X0 hown hK hP 0 rfl rfl 4 (by decide) (hts (.fieldLink RX0 94 "HallTables$Chance" "owed" "I") (List.mem_of_getElem? (i := 5) rfl)) (fun _ h9 => h9) rfl dX0_payAll_64 ?_
  refine lv_icmp_ge (tgt := 99) hx hb dX0_payAll_67 (by decide) (fun _ => ?_) (fun c9 => absurd (by decide) c9)
  have hP := hP.sub (ws' := [(c0, .inr (0, [.ref cs, .int 0, .int 0, .int 0, .int 0, .ref cm, .ref ch])), (cs, .inr (4, [.int 0, .int 0, .ref csa, .ref csb, .ref csc, .ref csd, .ref cse]))]) [0, 1] rfl
  have hD := hD.sub (ws' := [(c0, .inr (0, [.ref cs, .int 0, .int 0, .int 0, .int 0, .ref cm, .ref ch])), (cs, .inr (4, [.int 0, .int 0, .ref csa, .ref csb, .ref csc, .ref csd, .ref cse]))]) [0, 1] (by decide +kernel) rfl
  exact endV hx hb hr hlocks [(c0, .inr (0, [.ref cs, .int 0, .int 0, .int 0, .int 0, .ref cm, .ref ch])), (cs, .inr (4, [.int 0, .int 0, .ref csa, .ref csb, .ref csc, .ref csd, .ref cse]))] rfl hP hD hS (Nat.le_of_ble_eq_true rfl) (Nat.le_of_ble_eq_true rfl) dX0_payAll_99

theorem in_X11_rest_X11 : ∀ w ∈ u_ws RX11 TX11 11, w ∈ wsX11_rest := fun w h => (List.mem_cons_of_mem _ (List.mem_append_right _ h))
theorem in_X11_rest_X0 : ∀ w ∈ u_ws RX0 TX0 7, w ∈ wsX11_rest := fun w h => (List.mem_cons_of_mem _ (List.mem_append_left _ (List.mem_append_left _ (List.mem_append_left _ (List.mem_append_right _ h)))))
set_option maxRecDepth 100000 in
set_option maxHeartbeats 4000000 in
/-- rest on a new object: 0 for 0 .. 2, else NONE -/
theorem c_X11_rest (l : Launch) (D : va_G) (cy : Nat → ClassId) (h0 : Nat) (fs : List Value) (c0 : Nat) (cm : Nat) (ch : Nat) (cs : Nat) (csa : Nat) (csb : Nat) (csc : Nat) (csd : Nat) (cse : Nat) (t0 : Nat) (ft : List Value) (tta : Nat) (tho : Nat) (tha : Nat) (fta : Nat → Int32) (fho : Nat → Int32) (fha : Nat → Int32) (fc0 : Nat → Int32) (fc1 : Nat → Int32) (fc2 : Nat → Int32) (fc3 : Nat → Int32) (fc4 : Nat → Int32) (p0 : Int32) (e_c : fs[8]? = some (.ref c0)) (e_t : fs[10]? = some (.ref t0)) (e_men : ft[3]? = some (.int 0)) (e_calls : ft[4]? = some (.int 0)) (e_ta : ft[13]? = some (.ref tta)) (e_ho : ft[14]? = some (.ref tho)) (e_ha : ft[15]? = some (.ref tha)) : Cti l D cy yX11_rest wsX11_rest ({ frames := 3, cells := 0, slots := 0, locals := 123 } : Room) [.ref h0, .int p0] [(h0, .inr (11, fs)), (c0, .inr (0, [.ref cs, .int 0, .int 0, .int 0, .int 0, .ref cm, .ref ch])), (cs, .inr (4, [.int 0, .int 0, .ref csa, .ref csb, .ref csc, .ref csd, .ref cse])), (t0, .inr (7, ft)), (tta, .inl (cy 0, 50, .inl fta)), (tho, .inl (cy 0, 6, .inl fho)), (tha, .inl (cy 0, 6, .inl fha)), (csa, .inl (cy 0, 6, .inl fc0)), (csb, .inl (cy 0, 6, .inl fc1)), (csc, .inl (cy 0, 6, .inl fc2)), (csd, .inl (cy 0, 6, .inl fc3)), (cse, .inl (cy 0, 50, .inl fc4))] myT (fun (r : Int32) (w : va_W) => r = restV p0 ∧ w = []) := by
  refine ofI (cc := cX11_rest) (maxL := 2) (ret := (some .int)) (by decide) rfl (Nat.le_of_ble_eq_true rfl) ?_
  intro p e s m args below meth c A ls hx hb hr hts hown hlocks hml hin hK hP hD hS hA hX hl
  have hown : s.vm.findClass RX11 = some m.cls := hown
  have hl : lv_has ls 2 [(0, .ref h0), (1, .int p0)] := hl
  refine lv_iload_n hx hb dX11_rest_0 rfl (lv_at hl 1 rfl) ?_
  refine lv_if_lt (tgt := 9) hx hb dX11_rest_1 (by decide) (fun c_1 => ?_) (fun c_1 => ?_)
  · refine lv_iconst (v := (-1)) hx hb dX11_rest_9 (by decide) ?_
    have hP := hP.sub (ws' := []) [] rfl
    have hD := hD.sub (ws' := []) [] (by decide +kernel) rfl
    exact endI hx hb hr hlocks [] rfl ⟨(restV_a c_1), rfl⟩ hP hD hS (Nat.le_of_ble_eq_true rfl) (Nat.le_of_ble_eq_true rfl) dX11_rest_10
  · refine lv_iload_n hx hb dX11_rest_4 rfl (lv_at hl 1 rfl) ?_
    refine lv_iconst (v := 2) hx hb dX11_rest_5 (by decide) ?_
    refine lv_icmp_le (tgt := 11) hx hb dX11_rest_6 (by decide) (fun c_2 => ?_) (fun c_2 => ?_)
    · rcases (rng3c c_1 c_2) with rfl | rfl | rfl
      · refine lv_aload_n hx hb dX11_rest_11 rfl (lv_at hl 0 rfl) ?_
        refine va_get (ci := 11) (v := .ref c0) (C := RX11) (T := TX11) (N := 11) hx hb hts in_X11_rest_X11 hown hK hP 0 rfl rfl 8 (by decide) (hts (.fieldLink RX11 63 "HallTables" "chance" "LHallTables$Chance;") (List.mem_of_getElem? (i := 1) rfl)) (fun _ h9 => h9) e_c dX11_rest_12 ?_
        refine lv_aload_n hx hb dX11_rest_15 rfl (lv_at hl 0 rfl) ?_
        refine va_get (ci := 11) (v := .ref t0) (C := RX11) (T := TX11) (N := 11) hx hb hts in_X11_rest_X11 hown hK hP 0 rfl rfl 10 (by decide) (hts (.fieldLink RX11 77 "HallTables" "town" "LHallTables$Town;") (List.mem_of_getElem? (i := 2) rfl)) (fun _ h9 => h9) e_t dX11_rest_16 ?_
        refine cVv (As := [.ref t0]) (rest := []) (wr := [(h0, .inr (11, fs))]) ⟨hx, hb, hml, hown, hts⟩ (c_X0_payAll l D cy c0 cm ch cs csa csb csc csd cse t0 ft tta tho tha fta fho fha fc0 fc1 fc2 fc3 fc4 e_men e_calls e_ta e_ho e_ha) (cwV 1 hts gX11_rest_X0_payAll rfl rfl rfl (by decide +kernel) ⟨Nat.le_of_ble_eq_true rfl, Nat.le_of_ble_eq_true rfl⟩) hK hP hD hS hA [1, 2, 3, 4, 5, 6, 7, 8, 9, 10, 11] [0] ⟨rfl, rfl, by decide +kernel, by decide +kernel, by decide +kernel⟩ 0 0 rfl rfl myX_T rfl hl.1 rfl (Nat.le_of_ble_eq_true rfl) dX11_rest_19 ⟨Nat.le_of_ble_eq_true rfl, Nat.le_of_ble_eq_true rfl⟩ (fun w_3 H locs hw hP hD hS => ?_)
        obtain rfl := hw
        have hP : va_P D vwCl [(h0, .inr (11, fs)), (c0, .inr (0, [.ref cs, .int 0, .int 0, .int 0, .int 0, .ref cm, .ref ch])), (cs, .inr (4, [.int 0, .int 0, .ref csa, .ref csb, .ref csc, .ref csd, .ref cse]))] H := hP
        have hD : va_D A [(h0, .inr (11, fs)), (c0, .inr (0, [.ref cs, .int 0, .int 0, .int 0, .int 0, .ref cm, .ref ch])), (cs, .inr (4, [.int 0, .int 0, .ref csa, .ref csb, .ref csc, .ref csd, .ref cse]))] := hD
        refine lv_iload_n hx hb dX11_rest_22 rfl (lv_at hl 1 rfl) ?_
        refine lv_lookup (off := 25) (tgt := 48) hx hb dX11_rest_23 (by decide) (by decide) (by decide) ?_
        refine lv_aload_n hx hb dX11_rest_48 rfl (lv_at hl 0 rfl) ?_
        refine va_get (ci := 11) (v := .ref c0) (C := RX11) (T := TX11) (N := 11) hx hb hts in_X11_rest_X11 hown hK hP 0 rfl rfl 8 (by decide) (hts (.fieldLink RX11 63 "HallTables" "chance" "LHallTables$Chance;") (List.mem_of_getElem? (i := 1) rfl)) (fun _ h9 => h9) e_c dX11_rest_49 ?_
        refine va_get (ci := 0) (v := .int 0) (C := RX0) (T := TX0) (N := 7) hx hb hts in_X11_rest_X0 hown hK hP 1 rfl rfl 1 (by decide) (hts (.fieldLink RX11 276 "HallTables$Chance" "steps" "I") (List.mem_of_getElem? (i := 3) rfl)) (fun _ h9 => h9) rfl dX11_rest_52 ?_
        have hP := hP.sub (ws' := []) [] rfl
        have hD := hD.sub (ws' := []) [] (by decide +kernel) rfl
        exact endI hx hb hr hlocks [] rfl ⟨(by decide), rfl⟩ hP hD hS (Nat.le_of_ble_eq_true rfl) (Nat.le_of_ble_eq_true rfl) dX11_rest_55
      · refine lv_aload_n hx hb dX11_rest_11 rfl (lv_at hl 0 rfl) ?_
        refine va_get (ci := 11) (v := .ref c0) (C := RX11) (T := TX11) (N := 11) hx hb hts in_X11_rest_X11 hown hK hP 0 rfl rfl 8 (by decide) (hts (.fieldLink RX11 63 "HallTables" "chance" "LHallTables$Chance;") (List.mem_of_getElem? (i := 1) rfl)) (fun _ h9 => h9) e_c dX11_rest_12 ?_
        refine lv_aload_n hx hb dX11_rest_15 rfl (lv_at hl 0 rfl) ?_
        refine va_get (ci := 11) (v := .ref t0) (C := RX11) (T := TX11) (N := 11) hx hb hts in_X11_rest_X11 hown hK hP 0 rfl rfl 10 (by decide) (hts (.fieldLink RX11 77 "HallTables" "town" "LHallTables$Town;") (List.mem_of_getElem? (i := 2) rfl)) (fun _ h9 => h9) e_t dX11_rest_16 ?_
        refine cVv (As := [.ref t0]) (rest := []) (wr := [(h0, .inr (11, fs))]) ⟨hx, hb, hml, hown, hts⟩ (c_X0_payAll l D cy c0 cm ch cs csa csb csc csd cse t0 ft tta tho tha fta fho fha fc0 fc1 fc2 fc3 fc4 e_men e_calls e_ta e_ho e_ha) (cwV 1 hts gX11_rest_X0_payAll rfl rfl rfl (by decide +kernel) ⟨Nat.le_of_ble_eq_true rfl, Nat.le_of_ble_eq_true rfl⟩) hK hP hD hS hA [1, 2, 3, 4, 5, 6, 7, 8, 9, 10, 11] [0] ⟨rfl, rfl, by decide +kernel, by decide +kernel, by decide +kernel⟩ 0 0 rfl rfl myX_T rfl hl.1 rfl (Nat.le_of_ble_eq_true rfl) dX11_rest_19 ⟨Nat.le_of_ble_eq_true rfl, Nat.le_of_ble_eq_true rfl⟩ (fun w_4 H locs hw hP hD hS => ?_)
        obtain rfl := hw
        have hP : va_P D vwCl [(h0, .inr (11, fs)), (c0, .inr (0, [.ref cs, .int 0, .int 0, .int 0, .int 0, .ref cm, .ref ch])), (cs, .inr (4, [.int 0, .int 0, .ref csa, .ref csb, .ref csc, .ref csd, .ref cse]))] H := hP
        have hD : va_D A [(h0, .inr (11, fs)), (c0, .inr (0, [.ref cs, .int 0, .int 0, .int 0, .int 0, .ref cm, .ref ch])), (cs, .inr (4, [.int 0, .int 0, .ref csa, .ref csb, .ref csc, .ref csd, .ref cse]))] := hD
        refine lv_iload_n hx hb dX11_rest_22 rfl (lv_at hl 1 rfl) ?_
        refine lv_lookup (off := 33) (tgt := 56) hx hb dX11_rest_23 (by decide) (by decide) (by decide) ?_
        refine lv_aload_n hx hb dX11_rest_56 rfl (lv_at hl 0 rfl) ?_
        refine va_get (ci := 11) (v := .ref c0) (C := RX11) (T := TX11) (N := 11) hx hb hts in_X11_rest_X11 hown hK hP 0 rfl rfl 8 (by decide) (hts (.fieldLink RX11 63 "HallTables" "chance" "LHallTables$Chance;") (List.mem_of_getElem? (i := 1) rfl)) (fun _ h9 => h9) e_c dX11_rest_57 ?_
        refine va_get (ci := 0) (v := .int 0) (C := RX0) (T := TX0) (N := 7) hx hb hts in_X11_rest_X0 hown hK hP 1 rfl rfl 3 (by decide) (hts (.fieldLink RX11 294 "HallTables$Chance" "dropped" "I") (List.mem_of_getElem? (i := 4) rfl)) (fun _ h9 => h9) rfl dX11_rest_60 ?_
        have hP := hP.sub (ws' := []) [] rfl
        have hD := hD.sub (ws' := []) [] (by decide +kernel) rfl
        exact endI hx hb hr hlocks [] rfl ⟨(by decide), rfl⟩ hP hD hS (Nat.le_of_ble_eq_true rfl) (Nat.le_of_ble_eq_true rfl) dX11_rest_63
      · refine lv_aload_n hx hb dX11_rest_11 rfl (lv_at hl 0 rfl) ?_
        refine va_get (ci := 11) (v := .ref c0) (C := RX11) (T := TX11) (N := 11) hx hb hts in_X11_rest_X11 hown hK hP 0 rfl rfl 8 (by decide) (hts (.fieldLink RX11 63 "HallTables" "chance" "LHallTables$Chance;") (List.mem_of_getElem? (i := 1) rfl)) (fun _ h9 => h9) e_c dX11_rest_12 ?_
        refine lv_aload_n hx hb dX11_rest_15 rfl (lv_at hl 0 rfl) ?_
        refine va_get (ci := 11) (v := .ref t0) (C := RX11) (T := TX11) (N := 11) hx hb hts in_X11_rest_X11 hown hK hP 0 rfl rfl 10 (by decide) (hts (.fieldLink RX11 77 "HallTables" "town" "LHallTables$Town;") (List.mem_of_getElem? (i := 2) rfl)) (fun _ h9 => h9) e_t dX11_rest_16 ?_
        refine cVv (As := [.ref t0]) (rest := []) (wr := [(h0, .inr (11, fs))]) ⟨hx, hb, hml, hown, hts⟩ (c_X0_payAll l D cy c0 cm ch cs csa csb csc csd cse t0 ft tta tho tha fta fho fha fc0 fc1 fc2 fc3 fc4 e_men e_calls e_ta e_ho e_ha) (cwV 1 hts gX11_rest_X0_payAll rfl rfl rfl (by decide +kernel) ⟨Nat.le_of_ble_eq_true rfl, Nat.le_of_ble_eq_true rfl⟩) hK hP hD hS hA [1, 2, 3, 4, 5, 6, 7, 8, 9, 10, 11] [0] ⟨rfl, rfl, by decide +kernel, by decide +kernel, by decide +kernel⟩ 0 0 rfl rfl myX_T rfl hl.1 rfl (Nat.le_of_ble_eq_true rfl) dX11_rest_19 ⟨Nat.le_of_ble_eq_true rfl, Nat.le_of_ble_eq_true rfl⟩ (fun w_5 H locs hw hP hD hS => ?_)
        obtain rfl := hw
        have hP : va_P D vwCl [(h0, .inr (11, fs)), (c0, .inr (0, [.ref cs, .int 0, .int 0, .int 0, .int 0, .ref cm, .ref ch])), (cs, .inr (4, [.int 0, .int 0, .ref csa, .ref csb, .ref csc, .ref csd, .ref cse]))] H := hP
        have hD : va_D A [(h0, .inr (11, fs)), (c0, .inr (0, [.ref cs, .int 0, .int 0, .int 0, .int 0, .ref cm, .ref ch])), (cs, .inr (4, [.int 0, .int 0, .ref csa, .ref csb, .ref csc, .ref csd, .ref cse]))] := hD
        refine lv_iload_n hx hb dX11_rest_22 rfl (lv_at hl 1 rfl) ?_
        refine lv_lookup (off := 41) (tgt := 64) hx hb dX11_rest_23 (by decide) (by decide) (by decide) ?_
        refine lv_aload_n hx hb dX11_rest_64 rfl (lv_at hl 0 rfl) ?_
        refine va_get (ci := 11) (v := .ref c0) (C := RX11) (T := TX11) (N := 11) hx hb hts in_X11_rest_X11 hown hK hP 0 rfl rfl 8 (by decide) (hts (.fieldLink RX11 63 "HallTables" "chance" "LHallTables$Chance;") (List.mem_of_getElem? (i := 1) rfl)) (fun _ h9 => h9) e_c dX11_rest_65 ?_
        refine va_get (ci := 0) (v := .ref cs) (C := RX0) (T := TX0) (N := 7) hx hb hts in_X11_rest_X0 hown hK hP 1 rfl rfl 0 (by decide) (hts (.fieldLink RX11 281 "HallTables$Chance" "stand" "LHallTables$Stand;") (List.mem_of_getElem? (i := 5) rfl)) (fun _ h9 => h9) rfl dX11_rest_68 ?_
        refine cVi (As := []) (rest := []) (wr := [(h0, .inr (11, fs)), (c0, .inr (0, [.ref cs, .int 0, .int 0, .int 0, .int 0, .ref cm, .ref ch]))]) ⟨hx, hb, hml, hown, hts⟩ (c_X4_thingsCarried l D cy cs ([.int 0, .int 0, .ref csa, .ref csb, .ref csc, .ref csd, .ref cse]) rfl) (cwV 0 hts gX11_rest_X4_thingsCarried rfl rfl rfl (by decide +kernel) ⟨Nat.le_of_ble_eq_true rfl, Nat.le_of_ble_eq_true rfl⟩) hK hP hD hS hA [2] [0, 1] ⟨rfl, rfl, by decide +kernel, by decide +kernel, by decide +kernel⟩ 0 4 rfl rfl myX_T rfl hl.1 rfl (Nat.le_of_ble_eq_true rfl) dX11_rest_71 ⟨Nat.le_of_ble_eq_true rfl, Nat.le_of_ble_eq_true rfl⟩ (fun r_6 w_7 H locs hw hP hD hS => ?_)
        obtain ⟨rfl, rfl⟩ := hw
        have hP : va_P D vwCl [(h0, .inr (11, fs)), (c0, .inr (0, [.ref cs, .int 0, .int 0, .int 0, .int 0, .ref cm, .ref ch]))] H := hP
        have hD : va_D A [(h0, .inr (11, fs)), (c0, .inr (0, [.ref cs, .int 0, .int 0, .int 0, .int 0, .ref cm, .ref ch]))] := hD
        have hP := hP.sub (ws' := []) [] rfl
        have hD := hD.sub (ws' := []) [] (by decide +kernel) rfl
        exact endI hx hb hr hlocks [] rfl ⟨(by decide), rfl⟩ hP hD hS (Nat.le_of_ble_eq_true rfl) (Nat.le_of_ble_eq_true rfl) dX11_rest_74
    · refine lv_iconst (v := (-1)) hx hb dX11_rest_9 (by decide) ?_
      have hP := hP.sub (ws' := []) [] rfl
      have hD := hD.sub (ws' := []) [] (by decide +kernel) rfl
      exact endI hx hb hr hlocks [] rfl ⟨(restV_b c_2), rfl⟩ hP hD hS (Nat.le_of_ble_eq_true rfl) (Nat.le_of_ble_eq_true rfl) dX11_rest_10
