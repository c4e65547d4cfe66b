set_option maxRecDepth 100000 in
set_option maxHeartbeats 4000000 in
/-- Arrays.fill over ints -/
theorem c_fill (l : Launch) (D : va_G) (cy : Nat → ClassId) (a0 : Nat) (n0 : Nat) (f0 : Nat → Int32) (v0 : Int32) (hn0 : n0 < 2 ^ 31) : Ctv l D cy yJ7_fill_53178 wsJ7_fill_53178 ({ frames := 0, cells := 0, slots := 0, locals := 0 } : Room) [.ref a0, .int v0] [(a0, .inl (cy 0, n0, .inl f0))] myT (fun (w : va_W) => ∃ (f1 : Nat → Int32), (∀ j : Nat, j < n0 → f1 j = v0) ∧ w = [(a0, .inl (cy 0, n0, .inl f1))]) := by
  refine ofV (cc := cJ7_fill_53178) (maxL := 4) (ret := none) (by decide) rfl (Nat.le_of_ble_eq_true rfl) ?_
  intro p e s m args below meth c A ls hx hb hr hts hown hlocks hml hin hK hP hD hS hA hX hl
  have hown : s.vm.findClass RJ7 = some m.cls := hown
  have hl : lv_has ls 4 [(0, .ref a0), (1, .int v0)] := hl
  refine lv_iconst (v := 0) hx hb dJ7_fill_53178_0 (by decide) ?_
  refine lv_istore_n (lv' := [(2, .int 0), (0, .ref a0), (1, .int v0)]) hx hb dJ7_fill_53178_1 rfl hl (by decide) rfl (fun ls hl => ?_)
  refine lv_aload_n hx hb dJ7_fill_53178_2 rfl (lv_at hl 1 rfl) ?_
  refine aLen hx hb hK hP 0 0 rfl rfl dJ7_fill_53178_3 ?_
  refine tpI (v := nI n0) rfl ?_
  refine lv_istore_n (lv' := [(3, .int (nI n0)), (2, .int 0), (0, .ref a0), (1, .int v0)]) hx hb dJ7_fill_53178_4 rfl hl (by decide) rfl (fun ls hl => ?_)
  have lp_4 : ∀ (n_2 i_1 : Nat) (g_6 : Nat → Int32) (H : Heap) (locs : List Loc) (ls : Array Slot), i_1 + n_2 = n0 → (∀ j : Nat, j < i_1 → g_6 j = v0) → va_P D vwCl [(a0, .inl (cy 0, n0, .inl g_6))] H → va_D A [(a0, .inl (cy 0, n0, .inl g_6))] → va_S A s.heap H locs → lv_has ls 4 [(3, .int (nI n0)), (2, .int (nI i_1)), (0, .ref a0), (1, .int v0)] → W p l e ({ frames := 0, cells := 0, slots := 0, locals := 0 } : Room) s m args below meth c H locs 0 0 (MQ below (myQv D A (fun (w : va_W) => ∃ (f1 : Nat → Int32), (∀ j : Nat, j < n0 → f1 j = v0) ∧ w = [(a0, .inl (cy 0, n0, .inl f1))])) args s ({ frames := 0, cells := 0, slots := 0, locals := 0 } : Room).cells ({ frames := 0, cells := 0, slots := 0, locals := 0 } : Room).slots A) (F0 m 5 ls []) := by
    intro n_2
    induction n_2 with
    | zero =>
      intro i_1 g_6 H locs ls hi_5 hg_7 hP hD hS hl
      refine lv_iload_n hx hb dJ7_fill_53178_5 rfl (lv_at hl 1 rfl) ?_
      refine lv_iload_n hx hb dJ7_fill_53178_6 rfl (lv_at hl 0 rfl) ?_
      refine lv_icmp_ge (tgt := 20) hx hb dJ7_fill_53178_7 (by decide) (fun _ => ?_) (fun c9 => absurd (nI_le (a := n0) (b := i_1) (by omega) (by omega)) c9)
      exact endV hx hb hr hlocks [(a0, .inl (cy 0, n0, .inl g_6))] ⟨g_6, (fun j h => hg_7 j (by omega)), rfl⟩ hP hD hS (Nat.le_of_ble_eq_true rfl) (Nat.le_of_ble_eq_true rfl) dJ7_fill_53178_20
    | succ n_2 ih_3 =>
      intro i_1 g_6 H locs ls hi_5 hg_7 hP hD hS hl
      refine lv_iload_n hx hb dJ7_fill_53178_5 rfl (lv_at hl 1 rfl) ?_
      refine lv_iload_n hx hb dJ7_fill_53178_6 rfl (lv_at hl 0 rfl) ?_
      refine lv_icmp_ge (tgt := 20) hx hb dJ7_fill_53178_7 (by decide) (fun c9 => absurd c9 (nI_ge (a := i_1) (b := n0) (by omega) hn0)) (fun _ => ?_)
      refine lv_aload_n hx hb dJ7_fill_53178_10 rfl (lv_at hl 2 rfl) ?_
      refine lv_iload_n hx hb dJ7_fill_53178_11 rfl (lv_at hl 1 rfl) ?_
      refine lv_iload_n hx hb dJ7_fill_53178_12 rfl (lv_at hl 3 rfl) ?_
      refine sI hx hb hK hP hD hS 0 rfl i_1 rfl (by omega) hn0 dJ7_fill_53178_13 (fun H locs hP hD hS => ?_)
      have hP : va_P D vwCl [(a0, .inl (cy 0, n0, .inl (upd g_6 i_1 v0)))] H := hP
      have hD : va_D A [(a0, .inl (cy 0, n0, .inl (upd g_6 i_1 v0)))] := hD
      have hg_8 := fillstep (v := v0) hg_7
      refine lv_iinc (v := nI (i_1 + 1)) (lv' := [(2, .int (nI (i_1 + 1))), (3, .int (nI n0)), (0, .ref a0), (1, .int v0)]) hx hb dJ7_fill_53178_14 hl (k := 1) rfl (nI_1 i_1) (by decide) rfl (fun ls hl => ?_)
      refine lv_goto (tgt := 5) hx hb dJ7_fill_53178_17 (by decide) ?_
      exact ih_3 (i_1 + 1) (upd g_6 i_1 v0) H locs ls (by omega) hg_8 hP hD hS (lv_sub hl [1, 0, 2, 3] rfl)
  exact lp_4 n0 0 f0 _ _ _ (by omega) (fun j h => absurd h (Nat.not_lt_zero j)) hP hD hS hl

set_option maxRecDepth 100000 in
set_option maxHeartbeats 4000000 in
/-- Arrays.fill over longs -/
theorem c_fillL (l : Launch) (D : va_G) (cy : Nat → ClassId) (a0 : Nat) (n0 : Nat) (f0 : Nat → Int64) (v0 : Int64) (hn0 : n0 < 2 ^ 31) : Ctv l D cy yJ7_fill_d0a16 wsJ7_fill_d0a16 ({ frames := 0, cells := 0, slots := 0, locals := 0 } : Room) [.ref a0, .long v0] [(a0, .inl (cy 1, n0, .inr (.inl f0)))] myT (fun (w : va_W) => ∃ (f1 : Nat → Int64), w = [(a0, .inl (cy 1, n0, .inr (.inl f1)))]) := by
  refine ofV (cc := cJ7_fill_d0a16) (maxL := 5) (ret := none) (by decide) rfl (Nat.le_of_ble_eq_true rfl) ?_
  intro p e s m args below meth c A ls hx hb hr hts hown hlocks hml hin hK hP hD hS hA hX hl
  have hown : s.vm.findClass RJ7 = some m.cls := hown
  have hl : lv_has ls 5 [(0, .ref a0), (1, .long v0)] := hl
  refine lv_iconst (v := 0) hx hb dJ7_fill_d0a16_0 (by decide) ?_
  refine lv_istore_n (lv' := [(3, .int 0), (0, .ref a0), (1, .long v0)]) hx hb dJ7_fill_d0a16_1 rfl hl (by decide) rfl (fun ls hl => ?_)
  refine lv_aload_n hx hb dJ7_fill_d0a16_2 rfl (lv_at hl 1 rfl) ?_
  refine aLen hx hb hK hP 0 1 rfl rfl dJ7_fill_d0a16_3 ?_
  refine tpI (v := nI n0) rfl ?_
  refine lv_istore (lv' := [(4, .int (nI n0)), (3, .int 0), (0, .ref a0), (1, .long v0)]) hx hb dJ7_fill_d0a16_4 hl (by decide) rfl (fun ls hl => ?_)
  have lp_4 : ∀ (n_2 i_1 : Nat) (g_6 : Nat → Int64) (H : Heap) (locs : List Loc) (ls : Array Slot), i_1 + n_2 = n0 → va_P D vwCl [(a0, .inl (cy 1, n0, .inr (.inl g_6)))] H → va_D A [(a0, .inl (cy 1, n0, .inr (.inl g_6)))] → va_S A s.heap H locs → lv_has ls 5 [(4, .int (nI n0)), (3, .int (nI i_1)), (0, .ref a0), (1, .long v0)] → W p l e ({ frames := 0, cells := 0, slots := 0, locals := 0 } : Room) s m args below meth c H locs 0 0 (MQ below (myQv D A (fun (w : va_W) => ∃ (f1 : Nat → Int64), w = [(a0, .inl (cy 1, n0, .inr (.inl f1)))])) args s ({ frames := 0, cells := 0, slots := 0, locals := 0 } : Room).cells ({ frames := 0, cells := 0, slots := 0, locals := 0 } : Room).slots A) (F0 m 6 ls []) := by
    intro n_2
    induction n_2 with
    | zero =>
      intro i_1 g_6 H locs ls hi_5 hP hD hS hl
      refine lv_iload_n hx hb dJ7_fill_d0a16_6 rfl (lv_at hl 1 rfl) ?_
      refine lv_iload hx hb dJ7_fill_d0a16_7 (lv_at hl 0 rfl) ?_
      refine lv_icmp_ge (tgt := 22) hx hb dJ7_fill_d0a16_9 (by decide) (fun _ => ?_) (fun c9 => absurd (nI_le (a := n0) (b := i_1) (by omega) (by omega)) c9)
      exact endV hx hb hr hlocks [(a0, .inl (cy 1, n0, .inr (.inl g_6)))] ⟨g_6, rfl⟩ hP hD hS (Nat.le_of_ble_eq_true rfl) (Nat.le_of_ble_eq_true rfl) dJ7_fill_d0a16_22
    | succ n_2 ih_3 =>
      intro i_1 g_6 H locs ls hi_5 hP hD hS hl
      refine lv_iload_n hx hb dJ7_fill_d0a16_6 rfl (lv_at hl 1 rfl) ?_
      refine lv_iload hx hb dJ7_fill_d0a16_7 (lv_at hl 0 rfl) ?_
      refine lv_icmp_ge (tgt := 22) hx hb dJ7_fill_d0a16_9 (by decide) (fun c9 => absurd c9 (nI_ge (a := i_1) (b := n0) (by omega) hn0)) (fun _ => ?_)
      refine lv_aload_n hx hb dJ7_fill_d0a16_12 rfl (lv_at hl 2 rfl) ?_
      refine lv_iload_n hx hb dJ7_fill_d0a16_13 rfl (lv_at hl 1 rfl) ?_
      refine lv_lload_n hx hb dJ7_fill_d0a16_14 rfl (lv_at hl 3 rfl) ?_
      refine sJ hx hb hK hP hD hS 0 rfl i_1 rfl (by omega) hn0 dJ7_fill_d0a16_15 (fun H locs hP hD hS => ?_)
      have hP : va_P D vwCl [(a0, .inl (cy 1, n0, .inr (.inl (vp_updL g_6 i_1 v0))))] H := hP
      have hD : va_D A [(a0, .inl (cy 1, n0, .inr (.inl (vp_updL g_6 i_1 v0))))] := hD
      obtain ⟨f_7, ef_7⟩ : ∃ z, z = vp_updL g_6 i_1 v0 := ⟨_, rfl⟩
      rw [← ef_7] at hP hD
      refine lv_iinc (v := nI (i_1 + 1)) (lv' := [(3, .int (nI (i_1 + 1))), (4, .int (nI n0)), (0, .ref a0), (1, .long v0)]) hx hb dJ7_fill_d0a16_16 hl (k := 1) rfl (nI_1 i_1) (by decide) rfl (fun ls hl => ?_)
      refine lv_goto (tgt := 6) hx hb dJ7_fill_d0a16_19 (by decide) ?_
      exact ih_3 (i_1 + 1) f_7 H locs ls (by omega) hP hD hS (lv_sub hl [1, 0, 2, 3] rfl)
  exact lp_4 n0 0 f0 _ _ _ (by omega) hP hD hS hl

theorem in_X6_hasRoomFor_X6 : ∀ w ∈ u_ws RX6 TX6 12, w ∈ wsX6_hasRoomFor := fun w h => (List.mem_cons_of_mem _ (List.mem_append_right _ h))
set_option maxRecDepth 100000 in
set_option maxHeartbeats 4000000 in
/-- hasRoomFor(20) of an empty tape: 1 -/
theorem c_X6_hasRoomFor (l : Launch) (D : va_G) (cy : Nat → ClassId) (x0 : Nat) (xb : Nat) (xk : Nat) (xv : Nat) (xp : Nat) (xt : Nat) (xw : Nat) : Cti l D cy yX6_hasRoomFor wsX6_hasRoomFor ({ frames := 0, cells := 0, slots := 0, locals := 0 } : Room) [.ref x0, .int 20] [(x0, .inr (6, [.int 0, .int 0, .int 0, .int (-1), .int 0, .long 0, .ref xb, .ref xk, .ref xv, .ref xp, .ref xt, .ref xw]))] myT (fun (r : Int32) (w : va_W) => r = 1 ∧ w = [(x0, .inr (6, [.int 0, .int 0, .int 0, .int (-1), .int 0, .long 0, .ref xb, .ref xk, .ref xv, .ref xp, .ref xt, .ref xw]))]) := by
  refine ofI (cc := cX6_hasRoomFor) (maxL := 2) (ret := (some .boolean)) (by decide) rfl (Nat.le_of_ble_eq_true rfl) ?_
  intro p e s m args below meth c A ls hx hb hr hts hown hlocks hml hin hK hP hD hS hA hX hl
  have hown : s.vm.findClass RX6 = some m.cls := hown
  have hl : lv_has ls 2 [(0, .ref x0), (1, .int 20)] := hl
  refine lv_aload_n hx hb dX6_hasRoomFor_0 rfl (lv_at hl 0 rfl) ?_
  refine va_get (ci := 6) (v := .int 0) (C := RX6) (T := TX6) (N := 12) hx hb hts in_X6_hasRoomFor_X6 hown hK hP 0 rfl rfl 0 (by decide) (hts (.fieldLink RX6 64 "HallTables$Text" "length" "I") (List.mem_of_getElem? (i := 1) rfl)) (fun _ h9 => h9) rfl dX6_hasRoomFor_1 ?_
  refine lv_iload_n hx hb dX6_hasRoomFor_4 rfl (lv_at hl 1 rfl) ?_
  refine lv_iadd hx hb dX6_hasRoomFor_5 ?_
  refine tpI (v := 20) (by decide) ?_
  refine lv_sipush (v := 2000) hx hb dX6_hasRoomFor_6 (by decide) ?_
  refine lv_icmp_gt (tgt := 16) hx hb dX6_hasRoomFor_9 (by decide) (fun c9 => absurd c9 (by decide)) (fun _ => ?_)
  refine lv_iconst (v := 1) hx hb dX6_hasRoomFor_12 (by decide) ?_
  refine lv_goto (tgt := 17) hx hb dX6_hasRoomFor_13 (by decide) ?_
  exact endI hx hb hr hlocks [(x0, .inr (6, [.int 0, .int 0, .int 0, .int (-1), .int 0, .long 0, .ref xb, .ref xk, .ref xv, .ref xp, .ref xt, .ref xw]))] rfl ⟨rfl, rfl⟩ hP hD hS (Nat.le_of_ble_eq_true rfl) (Nat.le_of_ble_eq_true rfl) dX6_hasRoomFor_17

theorem in_X6_append_X6 : ∀ w ∈ u_ws RX6 TX6 12, w ∈ wsX6_append := fun w h => (List.mem_cons_of_mem _ (List.mem_append_right _ h))
set_option maxRecDepth 100000 in
set_option maxHeartbeats 4000000 in
/-- append at length 0 -/
theorem c_X6_append_0 (l : Launch) (D : va_G) (cy : Nat → ClassId) (x0 : Nat) (xb : Nat) (xk : Nat) (xv : Nat) (xp : Nat) (xt : Nat) (xw : Nat) (fb : Nat → Int32) (p0 : Int32) : Ctv l D cy yX6_append wsX6_append ({ frames := 0, cells := 0, slots := 0, locals := 0 } : Room) [.ref x0, .int p0] [(x0, .inr (6, [.int 0, .int 0, .int 0, .int (-1), .int 0, .long 0, .ref xb, .ref xk, .ref xv, .ref xp, .ref xt, .ref xw])), (xb, .inl (cy 2, 2000, .inl fb))] myT (fun (w : va_W) => ∃ (fb1 : Nat → Int32), w = [(x0, .inr (6, [.int 4, .int 0, .int 0, .int (-1), .int 0, .long 0, .ref xb, .ref xk, .ref xv, .ref xp, .ref xt, .ref xw])), (xb, .inl (cy 2, 2000, .inl fb1))]) := by
  refine ofV (cc := cX6_append) (maxL := 3) (ret := none) (by decide) rfl (Nat.le_of_ble_eq_true rfl) ?_
  intro p e s m args below meth c A ls hx hb hr hts hown hlocks hml hin hK hP hD hS hA hX hl
  have hown : s.vm.findClass RX6 = some m.cls := hown
  have hl : lv_has ls 3 [(0, .ref x0), (1, .int p0)] := hl
  refine lv_bipush (v := 24) hx hb dX6_append_0 (by decide) ?_
  refine lv_istore_n (lv' := [(2, .int 24), (0, .ref x0), (1, .int p0)]) hx hb dX6_append_2 rfl hl (by decide) rfl (fun ls hl => ?_)
  refine lv_iload_n hx hb dX6_append_3 rfl (lv_at hl 0 rfl) ?_
  refine lv_if_lt (tgt := 46) hx hb dX6_append_4 (by decide) (fun c9 => absurd c9 (by decide)) (fun _ => ?_)
  refine lv_aload_n hx hb dX6_append_7 rfl (lv_at hl 1 rfl) ?_
  refine va_get (ci := 6) (v := .int 0) (C := RX6) (T := TX6) (N := 12) hx hb hts in_X6_append_X6 hown hK hP 0 rfl rfl 0 (by decide) (hts (.fieldLink RX6 64 "HallTables$Text" "length" "I") (List.mem_of_getElem? (i := 1) rfl)) (fun _ h9 => h9) rfl dX6_append_8 ?_
  refine lv_sipush (v := 2000) hx hb dX6_append_11 (by decide) ?_
  refine lv_icmp_ge (tgt := 46) hx hb dX6_append_14 (by decide) (fun c9 => absurd c9 (by decide)) (fun _ => ?_)
  refine lv_aload_n hx hb dX6_append_17 rfl (lv_at hl 1 rfl) ?_
  refine va_get (ci := 6) (v := .ref xb) (C := RX6) (T := TX6) (N := 12) hx hb hts in_X6_append_X6 hown hK hP 0 rfl rfl 6 (by decide) (hts (.fieldLink RX6 15 "HallTables$Text" "bytes" "[B") (List.mem_of_getElem? (i := 2) rfl)) (fun _ h9 => h9) rfl dX6_append_18 ?_
  refine lv_aload_n hx hb dX6_append_21 rfl (lv_at hl 1 rfl) ?_
  refine va_get (ci := 6) (v := .int 0) (C := RX6) (T := TX6) (N := 12) hx hb hts in_X6_append_X6 hown hK hP 0 rfl rfl 0 (by decide) (hts (.fieldLink RX6 64 "HallTables$Text" "length" "I") (List.mem_of_getElem? (i := 1) rfl)) (fun _ h9 => h9) rfl dX6_append_22 ?_
  refine lv_iload_n hx hb dX6_append_25 rfl (lv_at hl 2 rfl) ?_
  refine lv_iload_n hx hb dX6_append_26 rfl (lv_at hl 0 rfl) ?_
  refine lv_ishr hx hb dX6_append_27 ?_
  refine lv_topi (fun v_1 ev_1 => ?_)
  refine lv_i2b hx hb dX6_append_28 rfl ?_
  refine lv_topi (fun v_2 ev_2 => ?_)
  refine sB hx hb hK hP hD hS 1 rfl 0 rfl (Nat.le_of_ble_eq_true rfl) (Nat.le_of_ble_eq_true rfl) dX6_append_29 (fun H locs hP hD hS => ?_)
  have hP : va_P D vwCl [(x0, .inr (6, [.int 0, .int 0, .int 0, .int (-1), .int 0, .long 0, .ref xb, .ref xk, .ref xv, .ref xp, .ref xt, .ref xw])), (xb, .inl (cy 2, 2000, .inl (upd fb 0 (vp_nar .byte v_2))))] H := hP
  have hD : va_D A [(x0, .inr (6, [.int 0, .int 0, .int 0, .int (-1), .int 0, .long 0, .ref xb, .ref xk, .ref xv, .ref xp, .ref xt, .ref xw])), (xb, .inl (cy 2, 2000, .inl (upd fb 0 (vp_nar .byte v_2))))] := hD
  obtain ⟨f_3, ef_3⟩ : ∃ z, z = upd fb 0 (vp_nar .byte v_2) := ⟨_, rfl⟩
  rw [← ef_3] at hP hD
  refine lv_aload_n hx hb dX6_append_30 rfl (lv_at hl 1 rfl) ?_
  refine lv_dup hx hb dX6_append_31 rfl ?_
  refine va_get (ci := 6) (v := .int 0) (C := RX6) (T := TX6) (N := 12) hx hb hts in_X6_append_X6 hown hK hP 0 rfl rfl 0 (by decide) (hts (.fieldLink RX6 64 "HallTables$Text" "length" "I") (List.mem_of_getElem? (i := 1) rfl)) (fun _ h9 => h9) rfl dX6_append_32 ?_
  refine lv_iconst (v := 1) hx hb dX6_append_35 (by decide) ?_
  refine lv_iadd hx hb dX6_append_36 ?_
  refine tpI (v := 1) (by decide) ?_
  refine va_put (ci := 6) (v := .int 1) (ty := .int) (C := RX6) (T := TX6) (N := 12) hx hb hts in_X6_append_X6 tyX6 tyX6_ok nmX6 hown hK hP hD hS 0 rfl rfl 0 (by decide) (hts (.fieldLink RX6 64 "HallTables$Text" "length" "I") (List.mem_of_getElem? (i := 1) rfl)) (fun _ h9 => h9) rfl (by decide +kernel) rfl rfl (Nat.le_of_ble_eq_true rfl) dX6_append_37 (fun H locs hP hD hS => ?_)
  have hP : va_P D vwCl [(x0, .inr (6, [.int 1, .int 0, .int 0, .int (-1), .int 0, .long 0, .ref xb, .ref xk, .ref xv, .ref xp, .ref xt, .ref xw])), (xb, .inl (cy 2, 2000, .inl f_3))] H := hP
  have hD : va_D A [(x0, .inr (6, [.int 1, .int 0, .int 0, .int (-1), .int 0, .long 0, .ref xb, .ref xk, .ref xv, .ref xp, .ref xt, .ref xw])), (xb, .inl (cy 2, 2000, .inl f_3))] := hD
  refine lv_iinc (v := 16) (lv' := [(2, .int 16), (0, .ref x0), (1, .int p0)]) hx hb dX6_append_40 hl (k := 0) rfl (by decide) (by decide) rfl (fun ls hl => ?_)
  refine lv_goto (tgt := 3) hx hb dX6_append_43 (by decide) ?_
  refine lv_iload_n hx hb dX6_append_3 rfl (lv_at hl 0 rfl) ?_
  refine lv_if_lt (tgt := 46) hx hb dX6_append_4 (by decide) (fun c9 => absurd c9 (by decide)) (fun _ => ?_)
  refine lv_aload_n hx hb dX6_append_7 rfl (lv_at hl 1 rfl) ?_
  refine va_get (ci := 6) (v := .int 1) (C := RX6) (T := TX6) (N := 12) hx hb hts in_X6_append_X6 hown hK hP 0 rfl rfl 0 (by decide) (hts (.fieldLink RX6 64 "HallTables$Text" "length" "I") (List.mem_of_getElem? (i := 1) rfl)) (fun _ h9 => h9) rfl dX6_append_8 ?_
  refine lv_sipush (v := 2000) hx hb dX6_append_11 (by decide) ?_
  refine lv_icmp_ge (tgt := 46) hx hb dX6_append_14 (by decide) (fun c9 => absurd c9 (by decide)) (fun _ => ?_)
  refine lv_aload_n hx hb dX6_append_17 rfl (lv_at hl 1 rfl) ?_
  refine va_get (ci := 6) (v := .ref xb) (C := RX6) (T := TX6) (N := 12) hx hb hts in_X6_append_X6 hown hK hP 0 rfl rfl 6 (by decide) (hts (.fieldLink RX6 15 "HallTables$Text" "bytes" "[B") (List.mem_of_getElem? (i := 2) rfl)) (fun _ h9 => h9) rfl dX6_append_18 ?_
  refine lv_aload_n hx hb dX6_append_21 rfl (lv_at hl 1 rfl) ?_
  refine va_get (ci := 6) (v := .int 1) (C := RX6) (T := TX6) (N := 12) hx hb hts in_X6_append_X6 hown hK hP 0 rfl rfl 0 (by decide) (hts (.fieldLink RX6 64 "HallTables$Text" "length" "I") (List.mem_of_getElem? (i := 1) rfl)) (fun _ h9 => h9) rfl dX6_append_22 ?_
  refine lv_iload_n hx hb dX6_append_25 rfl (lv_at hl 2 rfl) ?_
  refine lv_iload_n hx hb dX6_append_26 rfl (lv_at hl 0 rfl) ?_
  refine lv_ishr hx hb dX6_append_27 ?_
  refine lv_topi (fun v_4 ev_4 => ?_)
  refine lv_i2b hx hb dX6_append_28 rfl ?_
  refine lv_topi (fun v_5 ev_5 => ?_)
  refine sB hx hb hK hP hD hS 1 rfl 1 rfl (Nat.le_of_ble_eq_true rfl) (Nat.le_of_ble_eq_true rfl) dX6_append_29 (fun H locs hP hD hS => ?_)
  have hP : va_P D vwCl [(x0, .inr (6, [.int 1, .int 0, .int 0, .int (-1), .int 0, .long 0, .ref xb, .ref xk, .ref xv, .ref xp, .ref xt, .ref xw])), (xb, .inl (cy 2, 2000, .inl (upd f_3 1 (vp_nar .byte v_5))))] H := hP
  have hD : va_D A [(x0, .inr (6, [.int 1, .int 0, .int 0, .int (-1), .int 0, .long 0, .ref xb, .ref xk, .ref xv, .ref xp, .ref xt, .ref xw])), (xb, .inl (cy 2, 2000, .inl (upd f_3 1 (vp_nar .byte v_5))))] := hD
  obtain ⟨f_6, ef_6⟩ : ∃ z, z = upd f_3 1 (vp_nar .byte v_5) := ⟨_, rfl⟩
  rw [← ef_6] at hP hD
  refine lv_aload_n hx hb dX6_append_30 rfl (lv_at hl 1 rfl) ?_
  refine lv_dup hx hb dX6_append_31 rfl ?_
  refine va_get (ci := 6) (v := .int 1) (C := RX6) (T := TX6) (N := 12) hx hb hts in_X6_append_X6 hown hK hP 0 rfl rfl 0 (by decide) (hts (.fieldLink RX6 64 "HallTables$Text" "length" "I") (List.mem_of_getElem? (i := 1) rfl)) (fun _ h9 => h9) rfl dX6_append_32 ?_
  refine lv_iconst (v := 1) hx hb dX6_append_35 (by decide) ?_
  refine lv_iadd hx hb dX6_append_36 ?_
  refine tpI (v := 2) (by decide) ?_
  refine va_put (ci := 6) (v := .int 2) (ty := .int) (C := RX6) (T := TX6) (N := 12) hx hb hts in_X6_append_X6 tyX6 tyX6_ok nmX6 hown hK hP hD hS 0 rfl rfl 0 (by decide) (hts (.fieldLink RX6 64 "HallTables$Text" "length" "I") (List.mem_of_getElem? (i := 1) rfl)) (fun _ h9 => h9) rfl (by decide +kernel) rfl rfl (Nat.le_of_ble_eq_true rfl) dX6_append_37 (fun H locs hP hD hS => ?_)
  have hP : va_P D vwCl [(x0, .inr (6, [.int 2, .int 0, .int 0, .int (-1), .int 0, .long 0, .ref xb, .ref xk, .ref xv, .ref xp, .ref xt, .ref xw])), (xb, .inl (cy 2, 2000, .inl f_6))] H := hP
  have hD : va_D A [(x0, .inr (6, [.int 2, .int 0, .int 0, .int (-1), .int 0, .long 0, .ref xb, .ref xk, .ref xv, .ref xp, .ref xt, .ref xw])), (xb, .inl (cy 2, 2000, .inl f_6))] := hD
  refine lv_iinc (v := 8) (lv' := [(2, .int 8), (0, .ref x0), (1, .int p0)]) hx hb dX6_append_40 hl (k := 0) rfl (by decide) (by decide) rfl (fun ls hl => ?_)
  refine lv_goto (tgt := 3) hx hb dX6_append_43 (by decide) ?_
  refine lv_iload_n hx hb dX6_append_3 rfl (lv_at hl 0 rfl) ?_
  refine lv_if_lt (tgt := 46) hx hb dX6_append_4 (by decide) (fun c9 => absurd c9 (by decide)) (fun _ => ?_)
  refine lv_aload_n hx hb dX6_append_7 rfl (lv_at hl 1 rfl) ?_
  refine va_get (ci := 6) (v := .int 2) (C := RX6) (T := TX6) (N := 12) hx hb hts in_X6_append_X6 hown hK hP 0 rfl rfl 0 (by decide) (hts (.fieldLink RX6 64 "HallTables$Text" "length" "I") (List.mem_of_getElem? (i := 1) rfl)) (fun _ h9 => h9) rfl dX6_append_8 ?_
  refine lv_sipush (v := 2000) hx hb dX6_append_11 (by decide) ?_
  refine lv_icmp_ge (tgt := 46) hx hb dX6_append_14 (by decide) (fun c9 => absurd c9 (by decide)) (fun _ => ?_)
  refine lv_aload_n hx hb dX6_append_17 rfl (lv_at hl 1 rfl) ?_
  refine va_get (ci := 6) (v := .ref xb) (C := RX6) (T := TX6) (N := 12) hx hb hts in_X6_append_X6 hown hK hP 0 rfl rfl 6 (by decide) (hts (.fieldLink RX6 15 "HallTables$Text" "bytes" "[B") (List.mem_of_getElem? (i := 2) rfl)) (fun _ h9 => h9) rfl dX6_append_18 ?_
  refine lv_aload_n hx hb dX6_append_21 rfl (lv_at hl 1 rfl) ?_
  refine va_get (ci := 6) (v := .int 2) (C := RX6) (T := TX6) (N := 12) hx hb hts in_X6_append_X6 hown hK hP 0 rfl rfl 0 (by decide) (hts (.fieldLink RX6 64 "HallTables$Text" "length" "I") (List.mem_of_getElem? (i := 1) rfl)) (fun _ h9 => h9) rfl dX6_append_22 ?_
  refine lv_iload_n hx hb dX6_append_25 rfl (lv_at hl 2 rfl) ?_
  refine lv_iload_n hx hb dX6_append_26 rfl (lv_at hl 0 rfl) ?_
  refine lv_ishr hx hb dX6_append_27 ?_
  refine lv_topi (fun v_7 ev_7 => ?_)
  refine lv_i2b hx hb dX6_append_28 rfl ?_
  refine lv_topi (fun v_8 ev_8 => ?_)
  refine sB hx hb hK hP hD hS 1 rfl 2 rfl (Nat.le_of_ble_eq_true rfl) (Nat.le_of_ble_eq_true rfl) dX6_append_29 (fun H locs hP hD hS => ?_)
  have hP : va_P D vwCl [(x0, .inr (6, [.int 2, .int 0, .int 0, .int (-1), .int 0, .long 0, .ref xb, .ref xk, .ref xv, .ref xp, .ref xt, .ref xw])), (xb, .inl (cy 2, 2000, .inl (upd f_6 2 (vp_nar .byte v_8))))] H := hP
  have hD : va_D A [(x0, .inr (6, [.int 2, .int 0, .int 0, .int (-1), .int 0, .long 0, .ref xb, .ref xk, .ref xv, .ref xp, .ref xt, .ref xw])), (xb, .inl (cy 2, 2000, .inl (upd f_6 2 (vp_nar .byte v_8))))] := hD
  obtain ⟨f_9, ef_9⟩ : ∃ z, z = upd f_6 2 (vp_nar .byte v_8) := ⟨_, rfl⟩
  rw [← ef_9] at hP hD
  refine lv_aload_n hx hb dX6_append_30 rfl (lv_at hl 1 rfl) ?_
  refine lv_dup hx hb dX6_append_31 rfl ?_
  refine va_get (ci := 6) (v := .int 2) (C := RX6) (T := TX6) (N := 12) hx hb hts in_X6_append_X6 hown hK hP 0 rfl rfl 0 (by decide) (hts (.fieldLink RX6 64 "HallTables$Text" "length" "I") (List.mem_of_getElem? (i := 1) rfl)) (fun _ h9 => h9) rfl dX6_append_32 ?_
  refine lv_iconst (v := 1) hx hb dX6_append_35 (by decide) ?_
  refine lv_iadd hx hb dX6_append_36 ?_
  refine tpI (v := 3) (by decide) ?_
  refine va_put (ci := 6) (v := .int 3) (ty := .int) (C := RX6) (T := TX6) (N := 12) hx hb hts in_X6_append_X6 tyX6 tyX6_ok nmX6 hown hK hP hD hS 0 rfl rfl 0 (by decide) (hts (.fieldLink RX6 64 "HallTables$Text" "length" "I") (List.mem_of_getElem? (i := 1) rfl)) (fun _ h9 => h9) rfl (by decide +kernel) rfl rfl (Nat.le_of_ble_eq_true rfl) dX6_append_37 (fun H locs hP hD hS => ?_)
  have hP : va_P D vwCl [(x0, .inr (6, [.int 3, .int 0, .int 0, .int (-1), .int 0, .long 0, .ref xb, .ref xk, .ref xv, .ref xp, .ref xt, .ref xw])), (xb, .inl (cy 2, 2000, .inl f_9))] H := hP
  have hD : va_D A [(x0, .inr (6, [.int 3, .int 0, .int 0, .int (-1), .int 0, .long 0, .ref xb, .ref xk, .ref xv, .ref xp, .ref xt, .ref xw])), (xb, .inl (cy 2, 2000, .inl f_9))] := hD
  refine lv_iinc (v := 0) (lv' := [(2, .int 0), (0, .ref x0), (1, .int p0)]) hx hb dX6_append_40 hl (k := 0) rfl (by decide) (by decide) rfl (fun ls hl => ?_)
  refine lv_goto (tgt := 3) hx hb dX6_append_43 (by decide) ?_
  refine lv_iload_n hx hb dX6_append_3 rfl (lv_at hl 0 rfl) ?_
  refine lv_if_lt (tgt := 46) hx hb dX6_append_4 (by decide) (fun c9 => absurd c9 (by decide)) (fun _ => ?_)
  refine lv_aload_n hx hb dX6_append_7 rfl (lv_at hl 1 rfl) ?_
  refine va_get (ci := 6) (v := .int 3) (C := RX6) (T := TX6) (N := 12) hx hb hts in_X6_append_X6 hown hK hP 0 rfl rfl 0 (by decide) (hts (.fieldLink RX6 64 "HallTables$Text" "length" "I") (List.mem_of_getElem? (i := 1) rfl)) (fun _ h9 => h9) rfl dX6_append_8 ?_
  refine lv_sipush (v := 2000) hx hb dX6_append_11 (by decide) ?_
  refine lv_icmp_ge (tgt := 46) hx hb dX6_append_14 (by decide) (fun c9 => absurd c9 (by decide)) (fun _ => ?_)
  refine lv_aload_n hx hb dX6_append_17 rfl (lv_at hl 1 rfl) ?_
  refine va_get (ci := 6) (v := .ref xb) (C := RX6) (T := TX6) (N := 12) hx hb hts in_X6_append_X6 hown hK hP 0 rfl rfl 6 (by decide) (hts (.fieldLink RX6 15 "HallTables$Text" "bytes" "[B") (List.mem_of_getElem? (i := 2) rfl)) (fun _ h9 => h9) rfl dX6_append_18 ?_
  refine lv_aload_n hx hb dX6_append_21 rfl (lv_at hl 1 rfl) ?_
  refine va_get (ci := 6) (v := .int 3) (C := RX6) (T := TX6) (N := 12) hx hb hts in_X6_append_X6 hown hK hP 0 rfl rfl 0 (by decide) (hts (.fieldLink RX6 64 "HallTables$Text" "length" "I") (List.mem_of_getElem? (i := 1) rfl)) (fun _ h9 => h9) rfl dX6_append_22 ?_
  refine lv_iload_n hx hb dX6_append_25 rfl (lv_at hl 2 rfl) ?_
  refine lv_iload_n hx hb dX6_append_26 rfl (lv_at hl 0 rfl) ?_
  refine lv_ishr hx hb dX6_append_27 ?_
  refine lv_topi (fun v_10 ev_10 => ?_)
  refine lv_i2b hx hb dX6_append_28 rfl ?_
  refine lv_topi (fun v_11 ev_11 => ?_)
  refine sB hx hb hK hP hD hS 1 rfl 3 rfl (Nat.le_of_ble_eq_true rfl) (Nat.le_of_ble_eq_true rfl) dX6_append_29 (fun H locs hP hD hS => ?_)
  have hP : va_P D vwCl [(x0, .inr (6, [.int 3, .int 0, .int 0, .int (-1), .int 0, .long 0, .ref xb, .ref xk, .ref xv, .ref xp, .ref xt, .ref xw])), (xb, .inl (cy 2, 2000, .inl (upd f_9 3 (vp_nar .byte v_11))))] H := hP
  have hD : va_D A [(x0, .inr (6, [.int 3, .int 0, .int 0, .int (-1), .int 0, .long 0, .ref xb, .ref xk, .ref xv, .ref xp, .ref xt, .ref xw])), (xb, .inl (cy 2, 2000, .inl (upd f_9 3 (vp_nar .byte v_11))))] := hD
  obtain ⟨f_12, ef_12⟩ : ∃ z, z = upd f_9 3 (vp_nar .byte v_11) := ⟨_, rfl⟩
  rw [← ef_12] at hP hD
  refine lv_aload_n hx hb dX6_append_30 rfl (lv_at hl 1 rfl) ?_
  refine lv_dup hx hb dX6_append_31 rfl ?_
  refine va_get (ci := 6) (v := .int 3) (C := RX6) (T := TX6) (N := 12) hx hb hts in_X6_append_X6 hown hK hP 0 rfl rfl 0 (by decide) (hts (.fieldLink RX6 64 "HallTables$Text" "length" "I") (List.mem_of_getElem? (i := 1) rfl)) (fun _ h9 => h9) rfl dX6_append_32 ?_
  refine lv_iconst (v := 1) hx hb dX6_append_35 (by decide) ?_
  refine lv_iadd hx hb dX6_append_36 ?_
  refine tpI (v := 4) (by decide) ?_
  refine va_put (ci := 6) (v := .int 4) (ty := .int) (C := RX6) (T := TX6) (N := 12) hx hb hts in_X6_append_X6 tyX6 tyX6_ok nmX6 hown hK hP hD hS 0 rfl rfl 0 (by decide) (hts (.fieldLink RX6 64 "HallTables$Text" "length" "I") (List.mem_of_getElem? (i := 1) rfl)) (fun _ h9 => h9) rfl (by decide +kernel) rfl rfl (Nat.le_of_ble_eq_true rfl) dX6_append_37 (fun H locs hP hD hS => ?_)
  have hP : va_P D vwCl [(x0, .inr (6, [.int 4, .int 0, .int 0, .int (-1), .int 0, .long 0, .ref xb, .ref xk, .ref xv, .ref xp, .ref xt, .ref xw])), (xb, .inl (cy 2, 2000, .inl f_12))] H := hP
  have hD : va_D A [(x0, .inr (6, [.int 4, .int 0, .int 0, .int (-1), .int 0, .long 0, .ref xb, .ref xk, .ref xv, .ref xp, .ref xt, .ref xw])), (xb, .inl (cy 2, 2000, .inl f_12))] := hD
  refine lv_iinc (v := (-8)) (lv' := [(2, .int (-8)), (0, .ref x0), (1, .int p0)]) hx hb dX6_append_40 hl (k := 0) rfl (by decide) (by decide) rfl (fun ls hl => ?_)
  refine lv_goto (tgt := 3) hx hb dX6_append_43 (by decide) ?_
  refine lv_iload_n hx hb dX6_append_3 rfl (lv_at hl 0 rfl) ?_
  refine lv_if_lt (tgt := 46) hx hb dX6_append_4 (by decide) (fun _ => ?_) (fun c9 => absurd (by decide) c9)
  exact endV hx hb hr hlocks [(x0, .inr (6, [.int 4, .int 0, .int 0, .int (-1), .int 0, .long 0, .ref xb, .ref xk, .ref xv, .ref xp, .ref xt, .ref xw])), (xb, .inl (cy 2, 2000, .inl f_12))] ⟨f_12, rfl⟩ hP hD hS (Nat.le_of_ble_eq_true rfl) (Nat.le_of_ble_eq_true rfl) dX6_append_46

set_option maxRecDepth 100000 in
set_option maxHeartbeats 4000000 in
/-- append at length 4 -/
theorem c_X6_append_4 (l : Launch) (D : va_G) (cy : Nat → ClassId) (x0 : Nat) (xb : Nat) (xk : Nat) (xv : Nat) (xp : Nat) (xt : Nat) (xw : Nat) (fb : Nat → Int32) (p0 : Int32) : Ctv l D cy yX6_append wsX6_append ({ frames := 0, cells := 0, slots := 0, locals := 0 } : Room) [.ref x0, .int p0] [(x0, .inr (6, [.int 4, .int 0, .int 0, .int (-1), .int 0, .long 0, .ref xb, .ref xk, .ref xv, .ref xp, .ref xt, .ref xw])), (xb, .inl (cy 2, 2000, .inl fb))] myT (fun (w : va_W) => ∃ (fb1 : Nat → Int32), w = [(x0, .inr (6, [.int 8, .int 0, .int 0, .int (-1), .int 0, .long 0, .ref xb, .ref xk, .ref xv, .ref xp, .ref xt, .ref xw])), (xb, .inl (cy 2, 2000, .inl fb1))]) := by
  refine ofV (cc := cX6_append) (maxL := 3) (ret := none) (by decide) rfl (Nat.le_of_ble_eq_true rfl) ?_
  intro p e s m args below meth c A ls hx hb hr hts hown hlocks hml hin hK hP hD hS hA hX hl
  have hown : s.vm.findClass RX6 = some m.cls := hown
  have hl : lv_has ls 3 [(0, .ref x0), (1, .int p0)] := hl
  refine lv_bipush (v := 24) hx hb dX6_append_0 (by decide) ?_
  refine lv_istore_n (lv' := [(2, .int 24), (0, .ref x0), (1, .int p0)]) hx hb dX6_append_2 rfl hl (by decide) rfl (fun ls hl => ?_)
  refine lv_iload_n hx hb dX6_append_3 rfl (lv_at hl 0 rfl) ?_
  refine lv_if_lt (tgt := 46) hx hb dX6_append_4 (by decide) (fun c9 => absurd c9 (by decide)) (fun _ => ?_)
  refine lv_aload_n hx hb dX6_append_7 rfl (lv_at hl 1 rfl) ?_
  refine va_get (ci := 6) (v := .int 4) (C := RX6) (T := TX6) (N := 12) hx hb hts in_X6_append_X6 hown hK hP 0 rfl rfl 0 (by decide) (hts (.fieldLink RX6 64 "HallTables$Text" "length" "I") (List.mem_of_getElem? (i := 1) rfl)) (fun _ h9 => h9) rfl dX6_append_8 ?_
  refine lv_sipush (v := 2000) hx hb dX6_append_11 (by decide) ?_
  refine lv_icmp_ge (tgt := 46) hx hb dX6_append_14 (by decide) (fun c9 => absurd c9 (by decide)) (fun _ => ?_)
  refine lv_aload_n hx hb dX6_append_17 rfl (lv_at hl 1 rfl) ?_
  refine va_get (ci := 6) (v := .ref xb) (C := RX6) (T := TX6) (N := 12) hx hb hts in_X6_append_X6 hown hK hP 0 rfl rfl 6 (by decide) (hts (.fieldLink RX6 15 "HallTables$Text" "bytes" "[B") (List.mem_of_getElem? (i := 2) rfl)) (fun _ h9 => h9) rfl dX6_append_18 ?_
  refine lv_aload_n hx hb dX6_append_21 rfl (lv_at hl 1 rfl) ?_
  refine va_get (ci := 6) (v := .int 4) (C := RX6) (T := TX6) (N := 12) hx hb hts in_X6_append_X6 hown hK hP 0 rfl rfl 0 (by decide) (hts (.fieldLink RX6 64 "HallTables$Text" "length" "I") (List.mem_of_getElem? (i := 1) rfl)) (fun _ h9 => h9) rfl dX6_append_22 ?_
  refine lv_iload_n hx hb dX6_append_25 rfl (lv_at hl 2 rfl) ?_
  refine lv_iload_n hx hb dX6_append_26 rfl (lv_at hl 0 rfl) ?_
  refine lv_ishr hx hb dX6_append_27 ?_
  refine lv_topi (fun v_1 ev_1 => ?_)
  refine lv_i2b hx hb dX6_append_28 rfl ?_
  refine lv_topi (fun v_2 ev_2 => ?_)
  refine sB hx hb hK hP hD hS 1 rfl 4 rfl (Nat.le_of_ble_eq_true rfl) (Nat.le_of_ble_eq_true rfl) dX6_append_29 (fun H locs hP hD hS => ?_)
  have hP : va_P D vwCl [(x0, .inr (6, [.int 4, .int 0, .int 0, .int (-1), .int 0, .long 0, .ref xb, .ref xk, .ref xv, .ref xp, .ref xt, .ref xw])), (xb, .inl (cy 2, 2000, .inl (upd fb 4 (vp_nar .byte v_2))))] H := hP
  have hD : va_D A [(x0, .inr (6, [.int 4, .int 0, .int 0, .int (-1), .int 0, .long 0, .ref xb, .ref xk, .ref xv, .ref xp, .ref xt, .ref xw])), (xb, .inl (cy 2, 2000, .inl (upd fb 4 (vp_nar .byte v_2))))] := hD
  obtain ⟨f_3, ef_3⟩ : ∃ z, z = upd fb 4 (vp_nar .byte v_2) := ⟨_, rfl⟩
  rw [← ef_3] at hP hD
  refine lv_aload_n hx hb dX6_append_30 rfl (lv_at hl 1 rfl) ?_
  refine lv_dup hx hb dX6_append_31 rfl ?_
  refine va_get (ci := 6) (v := .int 4) (C := RX6) (T := TX6) (N := 12) hx hb hts in_X6_append_X6 hown hK hP 0 rfl rfl 0 (by decide) (hts (.fieldLink RX6 64 "HallTables$Text" "length" "I") (List.mem_of_getElem? (i := 1) rfl)) (fun _ h9 => h9) rfl dX6_append_32 ?_
  refine lv_iconst (v := 1) hx hb dX6_append_35 (by decide) ?_
  refine lv_iadd hx hb dX6_append_36 ?_
  refine tpI (v := 5) (by decide) ?_
  refine va_put (ci := 6) (v := .int 5) (ty := .int) (C := RX6) (T := TX6) (N := 12) hx hb hts in_X6_append_X6 tyX6 tyX6_ok nmX6 hown hK hP hD hS 0 rfl rfl 0 (by decide) (hts (.fieldLink RX6 64 "HallTables$Text" "length" "I") (List.mem_of_getElem? (i := 1) rfl)) (fun _ h9 => h9) rfl (by decide +kernel) rfl rfl (Nat.le_of_ble_eq_true rfl) dX6_append_37 (fun H locs hP hD hS => ?_)
  have hP : va_P D vwCl [(x0, .inr (6, [.int 5, .int 0, .int 0, .int (-1), .int 0, .long 0, .ref xb, .ref xk, .ref xv, .ref xp, .ref xt, .ref xw])), (xb, .inl (cy 2, 2000, .inl f_3))] H := hP
  have hD : va_D A [(x0, .inr (6, [.int 5, .int 0, .int 0, .int (-1), .int 0, .long 0, .ref xb, .ref xk, .ref xv, .ref xp, .ref xt, .ref xw])), (xb, .inl (cy 2, 2000, .inl f_3))] := hD
  refine lv_iinc (v := 16) (lv' := [(2, .int 16), (0, .ref x0), (1, .int p0)]) hx hb dX6_append_40 hl (k := 0) rfl (by decide) (by decide) rfl (fun ls hl => ?_)
  refine lv_goto (tgt := 3) hx hb dX6_append_43 (by decide) ?_
  refine lv_iload_n hx hb dX6_append_3 rfl (lv_at hl 0 rfl) ?_
  refine lv_if_lt (tgt := 46) hx hb dX6_append_4 (by decide) (fun c9 => absurd c9 (by decide)) (fun _ => ?_)
  refine lv_aload_n hx hb dX6_append_7 rfl (lv_at hl 1 rfl) ?_
  refine va_get (ci := 6) (v := .int 5) (C := RX6) (T := TX6) (N := 12) hx hb hts in_X6_append_X6 hown hK hP 0 rfl rfl 0 (by decide) (hts (.fieldLink RX6 64 "HallTables$Text" "length" "I") (List.mem_of_getElem? (i := 1) rfl)) (fun _ h9 => h9) rfl dX6_append_8 ?_
  refine lv_sipush (v := 2000) hx hb dX6_append_11 (by decide) ?_
  refine lv_icmp_ge (tgt := 46) hx hb dX6_append_14 (by decide) (fun c9 => absurd c9 (by decide)) (fun _ => ?_)
  refine lv_aload_n hx hb dX6_append_17 rfl (lv_at hl 1 rfl) ?_
  refine va_get (ci := 6) (v := .ref xb) (C := RX6) (T := TX6) (N := 12) hx hb hts in_X6_append_X6 hown hK hP 0 rfl rfl 6 (by decide) (hts (.fieldLink RX6 15 "HallTables$Text" "bytes" "[B") (List.mem_of_getElem? (i := 2) rfl)) (fun _ h9 => h9) rfl dX6_append_18 ?_
  refine lv_aload_n hx hb dX6_append_21 rfl (lv_at hl 1 rfl) ?_
  refine va_get (ci := 6) (v := .int 5) (C := RX6) (T := TX6) (N := 12) hx hb hts in_X6_append_X6 hown hK hP 0 rfl rfl 0 (by decide) (hts (.fieldLink RX6 64 "HallTables$Text" "length" "I") (List.mem_of_getElem? (i := 1) rfl)) (fun _ h9 => h9) rfl dX6_append_22 ?_
  refine lv_iload_n hx hb dX6_append_25 rfl (lv_at hl 2 rfl) ?_
  refine lv_iload_n hx hb dX6_append_26 rfl (lv_at hl 0 rfl) ?_
  refine lv_ishr hx hb dX6_append_27 ?_
  refine lv_topi (fun v_4 ev_4 => ?_)
  refine lv_i2b hx hb dX6_append_28 rfl ?_
  refine lv_topi (fun v_5 ev_5 => ?_)
  refine sB hx hb hK hP hD hS 1 rfl 5 rfl (Nat.le_of_ble_eq_true rfl) (Nat.le_of_ble_eq_true rfl) dX6_append_29 (fun H locs hP hD hS => ?_)
  have hP : va_P D vwCl [(x0, .inr (6, [.int 5, .int 0, .int 0, .int (-1), .int 0, .long 0, .ref xb, .ref xk, .ref xv, .ref xp, .ref xt, .ref xw])), (xb, .inl (cy 2, 2000, .inl (upd f_3 5 (vp_nar .byte v_5))))] H := hP
  have hD : va_D A [(x0, .inr (6, [.int 5, .int 0, .int 0, .int (-1), .int 0, .long 0, .ref xb, .ref xk, .ref xv, .ref xp, .ref xt, .ref xw])), (xb, .inl (cy 2, 2000, .inl (upd f_3 5 (vp_nar .byte v_5))))] := hD
  obtain ⟨f_6, ef_6⟩ : ∃ z, z = upd f_3 5 (vp_nar .byte v_5) := ⟨_, rfl⟩
  rw [← ef_6] at hP hD
  refine lv_aload_n hx hb dX6_append_30 rfl (lv_at hl 1 rfl) ?_
  refine lv_dup hx hb dX6_append_31 rfl ?_
  refine va_get (ci := 6) (v := .int 5) (C := RX6) (T := TX6) (N := 12) hx hb hts in_X6_append_X6 hown hK hP 0 rfl rfl 0 (by decide) (hts (.fieldLink RX6 64 "HallTables$Text" "length" "I") (List.mem_of_getElem? (i := 1) rfl)) (fun _ h9 => h9) rfl dX6_append_32 ?_
  refine lv_iconst (v := 1) hx hb dX6_append_35 (by decide) ?_
  refine lv_iadd hx hb dX6_append_36 ?_
  refine tpI (v := 6) (by decide) ?_
  refine va_put (ci := 6) (v := .int 6) (ty := .int) (C := RX6) (T := TX6) (N := 12) hx hb hts in_X6_append_X6 tyX6 tyX6_ok nmX6 hown hK hP hD hS 0 rfl rfl 0 (by decide) (hts (.fieldLink RX6 64 "HallTables$Text" "length" "I") (List.mem_of_getElem? (i := 1) rfl)) (fun _ h9 => h9) rfl (by decide +kernel) rfl rfl (Nat.le_of_ble_eq_true rfl) dX6_append_37 (fun H locs hP hD hS => ?_)
  have hP : va_P D vwCl [(x0, .inr (6, [.int 6, .int 0, .int 0, .int (-1), .int 0, .long 0, .ref xb, .ref xk, .ref xv, .ref xp, .ref xt, .ref xw])), (xb, .inl (cy 2, 2000, .inl f_6))] H := hP
  have hD : va_D A [(x0, .inr (6, [.int 6, .int 0, .int 0, .int (-1), .int 0, .long 0, .ref xb, .ref xk, .ref xv, .ref xp, .ref xt, .ref xw])), (xb, .inl (cy 2, 2000, .inl f_6))] := hD
  refine lv_iinc (v := 8) (lv' := [(2, .int 8), (0, .ref x0), (1, .int p0)]) hx hb dX6_append_40 hl (k := 0) rfl (by decide) (by decide) rfl (fun ls hl => ?_)
  refine lv_goto (tgt := 3) hx hb dX6_append_43 (by decide) ?_
  refine lv_iload_n hx hb dX6_append_3 rfl (lv_at hl 0 rfl) ?_
  refine lv_if_lt (tgt := 46) hx hb dX6_append_4 (by decide) (fun c9 => absurd c9 (by decide)) (fun _ => ?_)
  refine lv_aload_n hx hb dX6_append_7 rfl (lv_at hl 1 rfl) ?_
  refine va_get (ci := 6) (v := .int 6) (C := RX6) (T := TX6) (N := 12) hx hb hts in_X6_append_X6 hown hK hP 0 rfl rfl 0 (by decide) (hts (.fieldLink RX6 64 "HallTables$Text" "length" "I") (List.mem_of_getElem? (i := 1) rfl)) (fun _ h9 => h9) rfl dX6_append_8 ?_
  refine lv_sipush (v := 2000) hx hb dX6_append_11 (by decide) ?_
  refine lv_icmp_ge (tgt := 46) hx hb dX6_append_14 (by decide) (fun c9 => absurd c9 (by decide)) (fun _ => ?_)
  refine lv_aload_n hx hb dX6_append_17 rfl (lv_at hl 1 rfl) ?_
  refine va_get (ci := 6) (v := .ref xb) (C := RX6) (T := TX6) (N := 12) hx hb hts in_X6_append_X6 hown hK hP 0 rfl rfl 6 (by decide) (hts (.fieldLink RX6 15 "HallTables$Text" "bytes" "[B") (List.mem_of_getElem? (i := 2) rfl)) (fun _ h9 => h9) rfl dX6_append_18 ?_
  refine lv_aload_n hx hb dX6_append_21 rfl (lv_at hl 1 rfl) ?_
  refine va_get (ci := 6) (v := .int 6) (C := RX6) (T := TX6) (N := 12) hx hb hts in_X6_append_X6 hown hK hP 0 rfl rfl 0 (by decide) (hts (.fieldLink RX6 64 "HallTables$Text" "length" "I") (List.mem_of_getElem? (i := 1) rfl)) (fun _ h9 => h9) rfl dX6_append_22 ?_
  refine lv_iload_n hx hb dX6_append_25 rfl (lv_at hl 2 rfl) ?_
  refine lv_iload_n hx hb dX6_append_26 rfl (lv_at hl 0 rfl) ?_
  refine lv_ishr hx hb dX6_append_27 ?_
  refine lv_topi (fun v_7 ev_7 => ?_)
  refine lv_i2b hx hb dX6_append_28 rfl ?_
  refine lv_topi (fun v_8 ev_8 => ?_)
  refine sB hx hb hK hP hD hS 1 rfl 6 rfl (Nat.le_of_ble_eq_true rfl) (Nat.le_of_ble_eq_true rfl) dX6_append_29 (fun H locs hP hD hS => ?_)
  have hP : va_P D vwCl [(x0, .inr (6, [.int 6, .int 0, .int 0, .int (-1), .int 0, .long 0, .ref xb, .ref xk, .ref xv, .ref xp, .ref xt, .ref xw])), (xb, .inl (cy 2, 2000, .inl (upd f_6 6 (vp_nar .byte v_8))))] H := hP
  have hD : va_D A [(x0, .inr (6, [.int 6, .int 0, .int 0, .int (-1), .int 0, .long 0, .ref xb, .ref xk, .ref xv, .ref xp, .ref xt, .ref xw])), (xb, .inl (cy 2, 2000, .inl (upd f_6 6 (vp_nar .byte v_8))))] := hD
  obtain ⟨f_9, ef_9⟩ : ∃ z, z = upd f_6 6 (vp_nar .byte v_8) := ⟨_, rfl⟩
  rw [← ef_9] at hP hD
  refine lv_aload_n hx hb dX6_append_30 rfl (lv_at hl 1 rfl) ?_
  refine lv_dup hx hb dX6_append_31 rfl ?_
  refine va_get (ci := 6) (v := .int 6) (C := RX6) (T := TX6) (N := 12) hx hb hts in_X6_append_X6 hown hK hP 0 rfl rfl 0 (by decide) (hts (.fieldLink RX6 64 "HallTables$Text" "length" "I") (List.mem_of_getElem? (i := 1) rfl)) (fun _ h9 => h9) rfl dX6_append_32 ?_
  refine lv_iconst (v := 1) hx hb dX6_append_35 (by decide) ?_
  refine lv_iadd hx hb dX6_append_36 ?_
  refine tpI (v := 7) (by decide) ?_
  refine va_put (ci := 6) (v := .int 7) (ty := .int) (C := RX6) (T := TX6) (N := 12) hx hb hts in_X6_append_X6 tyX6 tyX6_ok nmX6 hown hK hP hD hS 0 rfl rfl 0 (by decide) (hts (.fieldLink RX6 64 "HallTables$Text" "length" "I") (List.mem_of_getElem? (i := 1) rfl)) (fun _ h9 => h9) rfl (by decide +kernel) rfl rfl (Nat.le_of_ble_eq_true rfl) dX6_append_37 (fun H locs hP hD hS => ?_)
  have hP : va_P D vwCl [(x0, .inr (6, [.int 7, .int 0, .int 0, .int (-1), .int 0, .long 0, .ref xb, .ref xk, .ref xv, .ref xp, .ref xt, .ref xw])), (xb, .inl (cy 2, 2000, .inl f_9))] H := hP
  have hD : va_D A [(x0, .inr (6, [.int 7, .int 0, .int 0, .int (-1), .int 0, .long 0, .ref xb, .ref xk, .ref xv, .ref xp, .ref xt, .ref xw])), (xb, .inl (cy 2, 2000, .inl f_9))] := hD
  refine lv_iinc (v := 0) (lv' := [(2, .int 0), (0, .ref x0), (1, .int p0)]) hx hb dX6_append_40 hl (k := 0) rfl (by decide) (by decide) rfl (fun ls hl => ?_)
  refine lv_goto (tgt := 3) hx hb dX6_append_43 (by decide) ?_
  refine lv_iload_n hx hb dX6_append_3 rfl (lv_at hl 0 rfl) ?_
  refine lv_if_lt (tgt := 46) hx hb dX6_append_4 (by decide) (fun c9 => absurd c9 (by decide)) (fun _ => ?_)
  refine lv_aload_n hx hb dX6_append_7 rfl (lv_at hl 1 rfl) ?_
  refine va_get (ci := 6) (v := .int 7) (C := RX6) (T := TX6) (N := 12) hx hb hts in_X6_append_X6 hown hK hP 0 rfl rfl 0 (by decide) (hts (.fieldLink RX6 64 "HallTables$Text" "length" "I") (List.mem_of_getElem? (i := 1) rfl)) (fun _ h9 => h9) rfl dX6_append_8 ?_
  refine lv_sipush (v := 2000) hx hb dX6_append_11 (by decide) ?_
  refine lv_icmp_ge (tgt := 46) hx hb dX6_append_14 (by decide) (fun c9 => absurd c9 (by decide)) (fun _ => ?_)
  refine lv_aload_n hx hb dX6_append_17 rfl (lv_at hl 1 rfl) ?_
  refine va_get (ci := 6) (v := .ref xb) (C := RX6) (T := TX6) (N := 12) hx hb hts in_X6_append_X6 hown hK hP 0 rfl rfl 6 (by decide) (hts (.fieldLink RX6 15 "HallTables$Text" "bytes" "[B") (List.mem_of_getElem? (i := 2) rfl)) (fun _ h9 => h9) rfl dX6_append_18 ?_
  refine lv_aload_n hx hb dX6_append_21 rfl (lv_at hl 1 rfl) ?_
  refine va_get (ci := 6) (v := .int 7) (C := RX6) (T := TX6) (N := 12) hx hb hts in_X6_append_X6 hown hK hP 0 rfl rfl 0 (by decide) (hts (.fieldLink RX6 64 "HallTables$Text" "length" "I") (List.mem_of_getElem? (i := 1) rfl)) (fun _ h9 => h9) rfl dX6_append_22 ?_
  refine lv_iload_n hx hb dX6_append_25 rfl (lv_at hl 2 rfl) ?_
  refine lv_iload_n hx hb dX6_append_26 rfl (lv_at hl 0 rfl) ?_
  refine lv_ishr hx hb dX6_append_27 ?_
  refine lv_topi (fun v_10 ev_10 => ?_)
  refine lv_i2b hx hb dX6_append_28 rfl ?_
  refine lv_topi (fun v_11 ev_11 => ?_)
  refine sB hx hb hK hP hD hS 1 rfl 7 rfl (Nat.le_of_ble_eq_true rfl) (Nat.le_of_ble_eq_true rfl) dX6_append_29 (fun H locs hP hD hS => ?_)
  have hP : va_P D vwCl [(x0, .inr (6, [.int 7, .int 0, .int 0, .int (-1), .int 0, .long 0, .ref xb, .ref xk, .ref xv, .ref xp, .ref xt, .ref xw])), (xb, .inl (cy 2, 2000, .inl (upd f_9 7 (vp_nar .byte v_11))))] H := hP
  have hD : va_D A [(x0, .inr (6, [.int 7, .int 0, .int 0, .int (-1), .int 0, .long 0, .ref xb, .ref xk, .ref xv, .ref xp, .ref xt, .ref xw])), (xb, .inl (cy 2, 2000, .inl (upd f_9 7 (vp_nar .byte v_11))))] := hD
  obtain ⟨f_12, ef_12⟩ : ∃ z, z = upd f_9 7 (vp_nar .byte v_11) := ⟨_, rfl⟩
  rw [← ef_12] at hP hD
  refine lv_aload_n hx hb dX6_append_30 rfl (lv_at hl 1 rfl) ?_
  refine lv_dup hx hb dX6_append_31 rfl ?_
  refine va_get (ci := 6) (v := .int 7) (C := RX6) (T := TX6) (N := 12) hx hb hts in_X6_append_X6 hown hK hP 0 rfl rfl 0 (by decide) (hts (.fieldLink RX6 64 "HallTables$Text" "length" "I") (List.mem_of_getElem? (i := 1) rfl)) (fun _ h9 => h9) rfl dX6_append_32 ?_
  refine lv_iconst (v := 1) hx hb dX6_append_35 (by decide) ?_
  refine lv_iadd hx hb dX6_append_36 ?_
  refine tpI (v := 8) (by decide) ?_
  refine va_put (ci := 6) (v := .int 8) (ty := .int) (C := RX6) (T := TX6) (N := 12) hx hb hts in_X6_append_X6 tyX6 tyX6_ok nmX6 hown hK hP hD hS 0 rfl rfl 0 (by decide) (hts (.fieldLink RX6 64 "HallTables$Text" "length" "I") (List.mem_of_getElem? (i := 1) rfl)) (fun _ h9 => h9) rfl (by decide +kernel) rfl rfl (Nat.le_of_ble_eq_true rfl) dX6_append_37 (fun H locs hP hD hS => ?_)
  have hP : va_P D vwCl [(x0, .inr (6, [.int 8, .int 0, .int 0, .int (-1), .int 0, .long 0, .ref xb, .ref xk, .ref xv, .ref xp, .ref xt, .ref xw])), (xb, .inl (cy 2, 2000, .inl f_12))] H := hP
  have hD : va_D A [(x0, .inr (6, [.int 8, .int 0, .int 0, .int (-1), .int 0, .long 0, .ref xb, .ref xk, .ref xv, .ref xp, .ref xt, .ref xw])), (xb, .inl (cy 2, 2000, .inl f_12))] := hD
  refine lv_iinc (v := (-8)) (lv' := [(2, .int (-8)), (0, .ref x0), (1, .int p0)]) hx hb dX6_append_40 hl (k := 0) rfl (by decide) (by decide) rfl (fun ls hl => ?_)
  refine lv_goto (tgt := 3) hx hb dX6_append_43 (by decide) ?_
  refine lv_iload_n hx hb dX6_append_3 rfl (lv_at hl 0 rfl) ?_
  refine lv_if_lt (tgt := 46) hx hb dX6_append_4 (by decide) (fun _ => ?_) (fun c9 => absurd (by decide) c9)
  exact endV hx hb hr hlocks [(x0, .inr (6, [.int 8, .int 0, .int 0, .int (-1), .int 0, .long 0, .ref xb, .ref xk, .ref xv, .ref xp, .ref xt, .ref xw])), (xb, .inl (cy 2, 2000, .inl f_12))] ⟨f_12, rfl⟩ hP hD hS (Nat.le_of_ble_eq_true rfl) (Nat.le_of_ble_eq_true rfl) dX6_append_46

set_option maxRecDepth 100000 in
set_option maxHeartbeats 4000000 in
/-- append at length 8 -/
theorem c_X6_append_8 (l : Launch) (D : va_G) (cy : Nat → ClassId) (x0 : Nat) (xb : Nat) (xk : Nat) (xv : Nat) (xp : Nat) (xt : Nat) (xw : Nat) (fb : Nat → Int32) (p0 : Int32) : Ctv l D cy yX6_append wsX6_append ({ frames := 0, cells := 0, slots := 0, locals := 0 } : Room) [.ref x0, .int p0] [(x0, .inr (6, [.int 8, .int 0, .int 0, .int (-1), .int 0, .long 0, .ref xb, .ref xk, .ref xv, .ref xp, .ref xt, .ref xw])), (xb, .inl (cy 2, 2000, .inl fb))] myT (fun (w : va_W) => ∃ (fb1 : Nat → Int32), w = [(x0, .inr (6, [.int 12, .int 0, .int 0, .int (-1), .int 0, .long 0, .ref xb, .ref xk, .ref xv, .ref xp, .ref xt, .ref xw])), (xb, .inl (cy 2, 2000, .inl fb1))]) := by
  refine ofV (cc := cX6_append) (maxL := 3) (ret := none) (by decide) rfl (Nat.le_of_ble_eq_true rfl) ?_
  intro p e s m args below meth c A ls hx hb hr hts hown hlocks hml hin hK hP hD hS hA hX hl
  have hown : s.vm.findClass RX6 = some m.cls := hown
  have hl : lv_has ls 3 [(0, .ref x0), (1, .int p0)] := hl
  refine lv_bipush (v := 24) hx hb dX6_append_0 (by decide) ?_
  refine lv_istore_n (lv' := [(2, .int 24), (0, .ref x0), (1, .int p0)]) hx hb dX6_append_2 rfl hl (by decide) rfl (fun ls hl => ?_)
  refine lv_iload_n hx hb dX6_append_3 rfl (lv_at hl 0 rfl) ?_
  refine lv_if_lt (tgt := 46) hx hb dX6_append_4 (by decide) (fun c9 => absurd c9 (by decide)) (fun _ => ?_)
  refine lv_aload_n hx hb dX6_append_7 rfl (lv_at hl 1 rfl) ?_
  refine va_get (ci := 6) (v := .int 8) (C := RX6) (T := TX6) (N := 12) hx hb hts in_X6_append_X6 hown hK hP 0 rfl rfl 0 (by decide) (hts (.fieldLink RX6 64 "HallTables$Text" "length" "I") (List.mem_of_getElem? (i := 1) rfl)) (fun _ h9 => h9) rfl dX6_append_8 ?_
  refine lv_sipush (v := 2000) hx hb dX6_append_11 (by decide) ?_
  refine lv_icmp_ge (tgt := 46) hx hb dX6_append_14 (by decide) (fun c9 => absurd c9 (by decide)) (fun _ => ?_)
  refine lv_aload_n hx hb dX6_append_17 rfl (lv_at hl 1 rfl) ?_
  refine va_get (ci := 6) (v := .ref xb) (C := RX6) (T := TX6) (N := 12) hx hb hts in_X6_append_X6 hown hK hP 0 rfl rfl 6 (by decide) (hts (.fieldLink RX6 15 "HallTables$Text" "bytes" "[B") (List.mem_of_getElem? (i := 2) rfl)) (fun _ h9 => h9) rfl dX6_append_18 ?_
  refine lv_aload_n hx hb dX6_append_21 rfl (lv_at hl 1 rfl) ?_
  refine va_get (ci := 6) (v := .int 8) (C := RX6) (T := TX6) (N := 12) hx hb hts in_X6_append_X6 hown hK hP 0 rfl rfl 0 (by decide) (hts (.fieldLink RX6 64 "HallTables$Text" "length" "I") (List.mem_of_getElem? (i := 1) rfl)) (fun _ h9 => h9) rfl dX6_append_22 ?_
  refine lv_iload_n hx hb dX6_append_25 rfl (lv_at hl 2 rfl) ?_
  refine lv_iload_n hx hb dX6_append_26 rfl (lv_at hl 0 rfl) ?_
  refine lv_ishr hx hb dX6_append_27 ?_
  refine lv_topi (fun v_1 ev_1 => ?_)
  refine lv_i2b hx hb dX6_append_28 rfl ?_
  refine lv_topi (fun v_2 ev_2 => ?_)
  refine sB hx hb hK hP hD hS 1 rfl 8 rfl (Nat.le_of_ble_eq_true rfl) (Nat.le_of_ble_eq_true rfl) dX6_append_29 (fun H locs hP hD hS => ?_)
  have hP : va_P D vwCl [(x0, .inr (6, [.int 8, .int 0, .int 0, .int (-1), .int 0, .long 0, .ref xb, .ref xk, .ref xv, .ref xp, .ref xt, .ref xw])), (xb, .inl (cy 2, 2000, .inl (upd fb 8 (vp_nar .byte v_2))))] H := hP
  have hD : va_D A [(x0, .inr (6, [.int 8, .int 0, .int 0, .int (-1), .int 0, .long 0, .ref xb, .ref xk, .ref xv, .ref xp, .ref xt, .ref xw])), (xb, .inl (cy 2, 2000, .inl (upd fb 8 (vp_nar .byte v_2))))] := hD
  obtain ⟨f_3, ef_3⟩ : ∃ z, z = upd fb 8 (vp_nar .byte v_2) := ⟨_, rfl⟩
  rw [← ef_3] at hP hD
  refine lv_aload_n hx hb dX6_append_30 rfl (lv_at hl 1 rfl) ?_
  refine lv_dup hx hb dX6_append_31 rfl ?_
  refine va_get (ci := 6) (v := .int 8) (C := RX6) (T := TX6) (N := 12) hx hb hts in_X6_append_X6 hown hK hP 0 rfl rfl 0 (by decide) (hts (.fieldLink RX6 64 "HallTables$Text" "length" "I") (List.mem_of_getElem? (i := 1) rfl)) (fun _ h9 => h9) rfl dX6_append_32 ?_
  refine lv_iconst (v := 1) hx hb dX6_append_35 (by decide) ?_
  refine lv_iadd hx hb dX6_append_36 ?_
  refine tpI (v := 9) (by decide) ?_
  refine va_put (ci := 6) (v := .int 9) (ty := .int) (C := RX6) (T := TX6) (N := 12) hx hb hts in_X6_append_X6 tyX6 tyX6_ok nmX6 hown hK hP hD hS 0 rfl rfl 0 (by decide) (hts (.fieldLink RX6 64 "HallTables$Text" "length" "I") (List.mem_of_getElem? (i := 1) rfl)) (fun _ h9 => h9) rfl (by decide +kernel) rfl rfl (Nat.le_of_ble_eq_true rfl) dX6_append_37 (fun H locs hP hD hS => ?_)
  have hP : va_P D vwCl [(x0, .inr (6, [.int 9, .int 0, .int 0, .int (-1), .int 0, .long 0, .ref xb, .ref xk, .ref xv, .ref xp, .ref xt, .ref xw])), (xb, .inl (cy 2, 2000, .inl f_3))] H := hP
  have hD : va_D A [(x0, .inr (6, [.int 9, .int 0, .int 0, .int (-1), .int 0, .long 0, .ref xb, .ref xk, .ref xv, .ref xp, .ref xt, .ref xw])), (xb, .inl (cy 2, 2000, .inl f_3))] := hD
  refine lv_iinc (v := 16) (lv' := [(2, .int 16), (0, .ref x0), (1, .int p0)]) hx hb dX6_append_40 hl (k := 0) rfl (by decide) (by decide) rfl (fun ls hl => ?_)
  refine lv_goto (tgt := 3) hx hb dX6_append_43 (by decide) ?_
  refine lv_iload_n hx hb dX6_append_3 rfl (lv_at hl 0 rfl) ?_
  refine lv_if_lt (tgt := 46) hx hb dX6_append_4 (by decide) (fun c9 => absurd c9 (by decide)) (fun _ => ?_)
  refine lv_aload_n hx hb dX6_append_7 rfl (lv_at hl 1 rfl) ?_
  refine va_get (ci := 6) (v := .int 9) (C := RX6) (T := TX6) (N := 12) hx hb hts in_X6_append_X6 hown hK hP 0 rfl rfl 0 (by decide) (hts (.fieldLink RX6 64 "HallTables$Text" "length" "I") (List.mem_of_getElem? (i := 1) rfl)) (fun _ h9 => h9) rfl dX6_append_8 ?_
  refine lv_sipush (v := 2000) hx hb dX6_append_11 (by decide) ?_
  refine lv_icmp_ge (tgt := 46) hx hb dX6_append_14 (by decide) (fun c9 => absurd c9 (by decide)) (fun _ => ?_)
  refine lv_aload_n hx hb dX6_append_17 rfl (lv_at hl 1 rfl) ?_
  refine va_get (ci := 6) (v := .ref xb) (C := RX6) (T := TX6) (N := 12) hx hb hts in_X6_append_X6 hown hK hP 0 rfl rfl 6 (by decide) (hts (.fieldLink RX6 15 "HallTables$Text" "bytes" "[B") (List.mem_of_getElem? (i := 2) rfl)) (fun _ h9 => h9) rfl dX6_append_18 ?_
  refine lv_aload_n hx hb dX6_append_21 rfl (lv_at hl 1 rfl) ?_
  refine va_get (ci := 6) (v := .int 9) (C := RX6) (T := TX6) (N := 12) hx hb hts in_X6_append_X6 hown hK hP 0 rfl rfl 0 (by decide) (hts (.fieldLink RX6 64 "HallTables$Text" "length" "I") (List.mem_of_getElem? (i := 1) rfl)) (fun _ h9 => h9) rfl dX6_append_22 ?_
  refine lv_iload_n hx hb dX6_append_25 rfl (lv_at hl 2 rfl) ?_
  refine lv_iload_n hx hb dX6_append_26 rfl (lv_at hl 0 rfl) ?_
  refine lv_ishr hx hb dX6_append_27 ?_
  refine lv_topi (fun v_4 ev_4 => ?_)
  refine lv_i2b hx hb dX6_append_28 rfl ?_
  refine lv_topi (fun v_5 ev_5 => ?_)
  refine sB hx hb hK hP hD hS 1 rfl 9 rfl (Nat.le_of_ble_eq_true rfl) (Nat.le_of_ble_eq_true rfl) dX6_append_29 (fun H locs hP hD hS => ?_)
  have hP : va_P D vwCl [(x0, .inr (6, [.int 9, .int 0, .int 0, .int (-1), .int 0, .long 0, .ref xb, .ref xk, .ref xv, .ref xp, .ref xt, .ref xw])), (xb, .inl (cy 2, 2000, .inl (upd f_3 9 (vp_nar .byte v_5))))] H := hP
  have hD : va_D A [(x0, .inr (6, [.int 9, .int 0, .int 0, .int (-1), .int 0, .long 0, .ref xb, .ref xk, .ref xv, .ref xp, .ref xt, .ref xw])), (xb, .inl (cy 2, 2000, .inl (upd f_3 9 (vp_nar .byte v_5))))] := hD
  obtain ⟨f_6, ef_6⟩ : ∃ z, z = upd f_3 9 (vp_nar .byte v_5) := ⟨_, rfl⟩
  rw [← ef_6] at hP hD
  refine lv_aload_n hx hb dX6_append_30 rfl (lv_at hl 1 rfl) ?_
  refine lv_dup hx hb dX6_append_31 rfl ?_
  refine va_get (ci := 6) (v := .int 9) (C := RX6) (T := TX6) (N := 12) hx hb hts in_X6_append_X6 hown hK hP 0 rfl rfl 0 (by decide) (hts (.fieldLink RX6 64 "HallTables$Text" "length" "I") (List.mem_of_getElem? (i := 1) rfl)) (fun _ h9 => h9) rfl dX6_append_32 ?_
  refine lv_iconst (v := 1) hx hb dX6_append_35 (by decide) ?_
  refine lv_iadd hx hb dX6_append_36 ?_
  refine tpI (v := 10) (by decide) ?_
  refine va_put (ci := 6) (v := .int 10) (ty := .int) (C := RX6) (T := TX6) (N := 12) hx hb hts in_X6_append_X6 tyX6 tyX6_ok nmX6 hown hK hP hD hS 0 rfl rfl 0 (by decide) (hts (.fieldLink RX6 64 "HallTables$Text" "length" "I") (List.mem_of_getElem? (i := 1) rfl)) (fun _ h9 => h9) rfl (by decide +kernel) rfl rfl (Nat.le_of_ble_eq_true rfl) dX6_append_37 (fun H locs hP hD hS => ?_)
  have hP : va_P D vwCl [(x0, .inr (6, [.int 10, .int 0, .int 0, .int (-1), .int 0, .long 0, .ref xb, .ref xk, .ref xv, .ref xp, .ref xt, .ref xw])), (xb, .inl (cy 2, 2000, .inl f_6))] H := hP
  have hD : va_D A [(x0, .inr (6, [.int 10, .int 0, .int 0, .int (-1), .int 0, .long 0, .ref xb, .ref xk, .ref xv, .ref xp, .ref xt, .ref xw])), (xb, .inl (cy 2, 2000, .inl f_6))] := hD
  refine lv_iinc (v := 8) (lv' := [(2, .int 8), (0, .ref x0), (1, .int p0)]) hx hb dX6_append_40 hl (k := 0) rfl (by decide) (by decide) rfl (fun ls hl => ?_)
  refine lv_goto (tgt := 3) hx hb dX6_append_43 (by decide) ?_
  refine lv_iload_n hx hb dX6_append_3 rfl (lv_at hl 0 rfl) ?_
  refine lv_if_lt (tgt := 46) hx hb dX6_append_4 (by decide) (fun c9 => absurd c9 (by decide)) (fun _ => ?_)
  refine lv_aload_n hx hb dX6_append_7 rfl (lv_at hl 1 rfl) ?_
  refine va_get (ci := 6) (v := .int 10) (C := RX6) (T := TX6) (N := 12) hx hb hts in_X6_append_X6 hown hK hP 0 rfl rfl 0 (by decide) (hts (.fieldLink RX6 64 "HallTables$Text" "length" "I") (List.mem_of_getElem? (i := 1) rfl)) (fun _ h9 => h9) rfl dX6_append_8 ?_
  refine lv_sipush (v := 2000) hx hb dX6_append_11 (by decide) ?_
  refine lv_icmp_ge (tgt := 46) hx hb dX6_append_14 (by decide) (fun c9 => absurd c9 (by decide)) (fun _ => ?_)
  refine lv_aload_n hx hb dX6_append_17 rfl (lv_at hl 1 rfl) ?_
  refine va_get (ci := 6) (v := .ref xb) (C := RX6) (T := TX6) (N := 12) hx hb hts in_X6_append_X6 hown hK hP 0 rfl rfl 6 (by decide) (hts (.fieldLink RX6 15 "HallTables$Text" "bytes" "[B") (List.mem_of_getElem? (i := 2) rfl)) (fun _ h9 => h9) rfl dX6_append_18 ?_
  refine lv_aload_n hx hb dX6_append_21 rfl (lv_at hl 1 rfl) ?_
  refine va_get (ci := 6) (v := .int 10) (C := RX6) (T := TX6) (N := 12) hx hb hts in_X6_append_X6 hown hK hP 0 rfl rfl 0 (by decide) (hts (.fieldLink RX6 64 "HallTables$Text" "length" "I") (List.mem_of_getElem? (i := 1) rfl)) (fun _ h9 => h9) rfl dX6_append_22 ?_
  refine lv_iload_n hx hb dX6_append_25 rfl (lv_at hl 2 rfl) ?_
  refine lv_iload_n hx hb dX6_append_26 rfl (lv_at hl 0 rfl) ?_
  refine lv_ishr hx hb dX6_append_27 ?_
  refine lv_topi (fun v_7 ev_7 => ?_)
  refine lv_i2b hx hb dX6_append_28 rfl ?_
  refine lv_topi (fun v_8 ev_8 => ?_)
  refine sB hx hb hK hP hD hS 1 rfl 10 rfl (Nat.le_of_ble_eq_true rfl) (Nat.le_of_ble_eq_true rfl) dX6_append_29 (fun H locs hP hD hS => ?_)
  have hP : va_P D vwCl [(x0, .inr (6, [.int 10, .int 0, .int 0, .int (-1), .int 0, .long 0, .ref xb, .ref xk, .ref xv, .ref xp, .ref xt, .ref xw])), (xb, .inl (cy 2, 2000, .inl (upd f_6 10 (vp_nar .byte v_8))))] H := hP
  have hD : va_D A [(x0, .inr (6, [.int 10, .int 0, .int 0, .int (-1), .int 0, .long 0, .ref xb, .ref xk, .ref xv, .ref xp, .ref xt, .ref xw])), (xb, .inl (cy 2, 2000, .inl (upd f_6 10 (vp_nar .byte v_8))))] := hD
  obtain ⟨f_9, ef_9⟩ : ∃ z, z = upd f_6 10 (vp_nar .byte v_8) := ⟨_, rfl⟩
  rw [← ef_9] at hP hD
  refine lv_aload_n hx hb dX6_append_30 rfl (lv_at hl 1 rfl) ?_
  refine lv_dup hx hb dX6_append_31 rfl ?_
  refine va_get (ci := 6) (v := .int 10) (C := RX6) (T := TX6) (N := 12) hx hb hts in_X6_append_X6 hown hK hP 0 rfl rfl 0 (by decide) (hts (.fieldLink RX6 64 "HallTables$Text" "length" "I") (List.mem_of_getElem? (i := 1) rfl)) (fun _ h9 => h9) rfl dX6_append_32 ?_
  refine lv_iconst (v := 1) hx hb dX6_append_35 (by decide) ?_
  refine lv_iadd hx hb dX6_append_36 ?_
  refine tpI (v := 11) (by decide) ?_
  refine va_put (ci := 6) (v := .int 11) (ty := .int) (C := RX6) (T := TX6) (N := 12) hx hb hts in_X6_append_X6 tyX6 tyX6_ok nmX6 hown hK hP hD hS 0 rfl rfl 0 (by decide) (hts (.fieldLink RX6 64 "HallTables$Text" "length" "I") (List.mem_of_getElem? (i := 1) rfl)) (fun _ h9 => h9) rfl (by decide +kernel) rfl rfl (Nat.le_of_ble_eq_true rfl) dX6_append_37 (fun H locs hP hD hS => ?_)
  have hP : va_P D vwCl [(x0, .inr (6, [.int 11, .int 0, .int 0, .int (-1), .int 0, .long 0, .ref xb, .ref xk, .ref xv, .ref xp, .ref xt, .ref xw])), (xb, .inl (cy 2, 2000, .inl f_9))] H := hP
  have hD : va_D A [(x0, .inr (6, [.int 11, .int 0, .int 0, .int (-1), .int 0, .long 0, .ref xb, .ref xk, .ref xv, .ref xp, .ref xt, .ref xw])), (xb, .inl (cy 2, 2000, .inl f_9))] := hD
  refine lv_iinc (v := 0) (lv' := [(2, .int 0), (0, .ref x0), (1, .int p0)]) hx hb dX6_append_40 hl (k := 0) rfl (by decide) (by decide) rfl (fun ls hl => ?_)
  refine lv_goto (tgt := 3) hx hb dX6_append_43 (by decide) ?_
  refine lv_iload_n hx hb dX6_append_3 rfl (lv_at hl 0 rfl) ?_
  refine lv_if_lt (tgt := 46) hx hb dX6_append_4 (by decide) (fun c9 => absurd c9 (by decide)) (fun _ => ?_)
  refine lv_aload_n hx hb dX6_append_7 rfl (lv_at hl 1 rfl) ?_
  refine va_get (ci := 6) (v := .int 11) (C := RX6) (T := TX6) (N := 12) hx hb hts in_X6_append_X6 hown hK hP 0 rfl rfl 0 (by decide) (hts (.fieldLink RX6 64 "HallTables$Text" "length" "I") (List.mem_of_getElem? (i := 1) rfl)) (fun _ h9 => h9) rfl dX6_append_8 ?_
  refine lv_sipush (v := 2000) hx hb dX6_append_11 (by decide) ?_
  refine lv_icmp_ge (tgt := 46) hx hb dX6_append_14 (by decide) (fun c9 => absurd c9 (by decide)) (fun _ => ?_)
  refine lv_aload_n hx hb dX6_append_17 rfl (lv_at hl 1 rfl) ?_
  refine va_get (ci := 6) (v := .ref xb) (C := RX6) (T := TX6) (N := 12) hx hb hts in_X6_append_X6 hown hK hP 0 rfl rfl 6 (by decide) (hts (.fieldLink RX6 15 "HallTables$Text" "bytes" "[B") (List.mem_of_getElem? (i := 2) rfl)) (fun _ h9 => h9) rfl dX6_append_18 ?_
  refine lv_aload_n hx hb dX6_append_21 rfl (lv_at hl 1 rfl) ?_
  refine va_get (ci := 6) (v := .int 11) (C := RX6) (T := TX6) (N := 12) hx hb hts in_X6_append_X6 hown hK hP 0 rfl rfl 0 (by decide) (hts (.fieldLink RX6 64 "HallTables$Text" "length" "I") (List.mem_of_getElem? (i := 1) rfl)) (fun _ h9 => h9) rfl dX6_append_22 ?_
  refine lv_iload_n hx hb dX6_append_25 rfl (lv_at hl 2 rfl) ?_
  refine lv_iload_n hx hb dX6_append_26 rfl (lv_at hl 0 rfl) ?_
  refine lv_ishr hx hb dX6_append_27 ?_
  refine lv_topi (fun v_10 ev_10 => ?_)
  refine lv_i2b hx hb dX6_append_28 rfl ?_
  refine lv_topi (fun v_11 ev_11 => ?_)
  refine sB hx hb hK hP hD hS 1 rfl 11 rfl (Nat.le_of_ble_eq_true rfl) (Nat.le_of_ble_eq_true rfl) dX6_append_29 (fun H locs hP hD hS => ?_)
  have hP : va_P D vwCl [(x0, .inr (6, [.int 11, .int 0, .int 0, .int (-1), .int 0, .long 0, .ref xb, .ref xk, .ref xv, .ref xp, .ref xt, .ref xw])), (xb, .inl (cy 2, 2000, .inl (upd f_9 11 (vp_nar .byte v_11))))] H := hP
  have hD : va_D A [(x0, .inr (6, [.int 11, .int 0, .int 0, .int (-1), .int 0, .long 0, .ref xb, .ref xk, .ref xv, .ref xp, .ref xt, .ref xw])), (xb, .inl (cy 2, 2000, .inl (upd f_9 11 (vp_nar .byte v_11))))] := hD
  obtain ⟨f_12, ef_12⟩ : ∃ z, z = upd f_9 11 (vp_nar .byte v_11) := ⟨_, rfl⟩
  rw [← ef_12] at hP hD
  refine lv_aload_n hx hb dX6_append_30 rfl (lv_at hl 1 rfl) ?_
  refine lv_dup hx hb dX6_append_31 rfl ?_
  refine va_get (ci := 6) (v := .int 11) (C := RX6) (T := TX6) (N := 12) hx hb hts in_X6_append_X6 hown hK hP 0 rfl rfl 0 (by decide) (hts (.fieldLink RX6 64 "HallTables$Text" "length" "I") (List.mem_of_getElem? (i := 1) rfl)) (fun _ h9 => h9) rfl dX6_append_32 ?_
  refine lv_iconst (v := 1) hx hb dX6_append_35 (by decide) ?_
  refine lv_iadd hx hb dX6_append_36 ?_
  refine tpI (v := 12) (by decide) ?_
  refine va_put (ci := 6) (v := .int 12) (ty := .int) (C := RX6) (T := TX6) (N := 12) hx hb hts in_X6_append_X6 tyX6 tyX6_ok nmX6 hown hK hP hD hS 0 rfl rfl 0 (by decide) (hts (.fieldLink RX6 64 "HallTables$Text" "length" "I") (List.mem_of_getElem? (i := 1) rfl)) (fun _ h9 => h9) rfl (by decide +kernel) rfl rfl (Nat.le_of_ble_eq_true rfl) dX6_append_37 (fun H locs hP hD hS => ?_)
  have hP : va_P D vwCl [(x0, .inr (6, [.int 12, .int 0, .int 0, .int (-1), .int 0, .long 0, .ref xb, .ref xk, .ref xv, .ref xp, .ref xt, .ref xw])), (xb, .inl (cy 2, 2000, .inl f_12))] H := hP
  have hD : va_D A [(x0, .inr (6, [.int 12, .int 0, .int 0, .int (-1), .int 0, .long 0, .ref xb, .ref xk, .ref xv, .ref xp, .ref xt, .ref xw])), (xb, .inl (cy 2, 2000, .inl f_12))] := hD
  refine lv_iinc (v := (-8)) (lv' := [(2, .int (-8)), (0, .ref x0), (1, .int p0)]) hx hb dX6_append_40 hl (k := 0) rfl (by decide) (by decide) rfl (fun ls hl => ?_)
  refine lv_goto (tgt := 3) hx hb dX6_append_43 (by decide) ?_
  refine lv_iload_n hx hb dX6_append_3 rfl (lv_at hl 0 rfl) ?_
  refine lv_if_lt (tgt := 46) hx hb dX6_append_4 (by decide) (fun _ => ?_) (fun c9 => absurd (by decide) c9)
  exact endV hx hb hr hlocks [(x0, .inr (6, [.int 12, .int 0, .int 0, .int (-1), .int 0, .long 0, .ref xb, .ref xk, .ref xv, .ref xp, .ref xt, .ref xw])), (xb, .inl (cy 2, 2000, .inl f_12))] ⟨f_12, rfl⟩ hP hD hS (Nat.le_of_ble_eq_true rfl) (Nat.le_of_ble_eq_true rfl) dX6_append_46

set_option maxRecDepth 100000 in
set_option maxHeartbeats 4000000 in
/-- append at length 12 -/
theorem c_X6_append_12 (l : Launch) (D : va_G) (cy : Nat → ClassId) (x0 : Nat) (xb : Nat) (xk : Nat) (xv : Nat) (xp : Nat) (xt : Nat) (xw : Nat) (fb : Nat → Int32) (p0 : Int32) : Ctv l D cy yX6_append wsX6_append ({ frames := 0, cells := 0, slots := 0, locals := 0 } : Room) [.ref x0, .int p0] [(x0, .inr (6, [.int 12, .int 0, .int 0, .int (-1), .int 0, .long 0, .ref xb, .ref xk, .ref xv, .ref xp, .ref xt, .ref xw])), (xb, .inl (cy 2, 2000, .inl fb))] myT (fun (w : va_W) => ∃ (fb1 : Nat → Int32), w = [(x0, .inr (6, [.int 16, .int 0, .int 0, .int (-1), .int 0, .long 0, .ref xb, .ref xk, .ref xv, .ref xp, .ref xt, .ref xw])), (xb, .inl (cy 2, 2000, .inl fb1))]) := by
  refine ofV (cc := cX6_append) (maxL := 3) (ret := none) (by decide) rfl (Nat.le_of_ble_eq_true rfl) ?_
  intro p e s m args below meth c A ls hx hb hr hts hown hlocks hml hin hK hP hD hS hA hX hl
  have hown : s.vm.findClass RX6 = some m.cls := hown
  have hl : lv_has ls 3 [(0, .ref x0), (1, .int p0)] := hl
  refine lv_bipush (v := 24) hx hb dX6_append_0 (by decide) ?_
  refine lv_istore_n (lv' := [(2, .int 24), (0, .ref x0), (1, .int p0)]) hx hb dX6_append_2 rfl hl (by decide) rfl (fun ls hl => ?_)
  refine lv_iload_n hx hb dX6_append_3 rfl (lv_at hl 0 rfl) ?_
  refine lv_if_lt (tgt := 46) hx hb dX6_append_4 (by decide) (fun c9 => absurd c9 (by decide)) (fun _ => ?_)
  refine lv_aload_n hx hb dX6_append_7 rfl (lv_at hl 1 rfl) ?_
  refine va_get (ci := 6) (v := .int 12) (C := RX6) (T := TX6) (N := 12) hx hb hts in_X6_append_X6 hown hK hP 0 rfl rfl 0 (by decide) (hts (.fieldLink RX6 64 "HallTables$Text" "length" "I") (List.mem_of_getElem? (i := 1) rfl)) (fun _ h9 => h9) rfl dX6_append_8 ?_
  refine lv_sipush (v := 2000) hx hb dX6_append_11 (by decide) ?_
  refine lv_icmp_ge (tgt := 46) hx hb dX6_append_14 (by decide) (fun c9 => absurd c9 (by decide)) (fun _ => ?_)
  refine lv_aload_n hx hb dX6_append_17 rfl (lv_at hl 1 rfl) ?_
  refine va_get (ci := 6) (v := .ref xb) (C := RX6) (T := TX6) (N := 12) hx hb hts in_X6_append_X6 hown hK hP 0 rfl rfl 6 (by decide) (hts (.fieldLink RX6 15 "HallTables$Text" "bytes" "[B") (List.mem_of_getElem? (i := 2) rfl)) (fun _ h9 => h9) rfl dX6_append_18 ?_
  refine lv_aload_n hx hb dX6_append_21 rfl (lv_at hl 1 rfl) ?_
  refine va_get (ci := 6) (v := .int 12) (C := RX6) (T := TX6) (N := 12) hx hb hts in_X6_append_X6 hown hK hP 0 rfl rfl 0 (by decide) (hts (.fieldLink RX6 64 "HallTables$Text" "length" "I") (List.mem_of_getElem? (i := 1) rfl)) (fun _ h9 => h9) rfl dX6_append_22 ?_
  refine lv_iload_n hx hb dX6_append_25 rfl (lv_at hl 2 rfl) ?_
  refine lv_iload_n hx hb dX6_append_26 rfl (lv_at hl 0 rfl) ?_
  refine lv_ishr hx hb dX6_append_27 ?_
  refine lv_topi (fun v_1 ev_1 => ?_)
  refine lv_i2b hx hb dX6_append_28 rfl ?_
  refine lv_topi (fun v_2 ev_2 => ?_)
  refine sB hx hb hK hP hD hS 1 rfl 12 rfl (Nat.le_of_ble_eq_true rfl) (Nat.le_of_ble_eq_true rfl) dX6_append_29 (fun H locs hP hD hS => ?_)
  have hP : va_P D vwCl [(x0, .inr (6, [.int 12, .int 0, .int 0, .int (-1), .int 0, .long 0, .ref xb, .ref xk, .ref xv, .ref xp, .ref xt, .ref xw])), (xb, .inl (cy 2, 2000, .inl (upd fb 12 (vp_nar .byte v_2))))] H := hP
  have hD : va_D A [(x0, .inr (6, [.int 12, .int 0, .int 0, .int (-1), .int 0, .long 0, .ref xb, .ref xk, .ref xv, .ref xp, .ref xt, .ref xw])), (xb, .inl (cy 2, 2000, .inl (upd fb 12 (vp_nar .byte v_2))))] := hD
  obtain ⟨f_3, ef_3⟩ : ∃ z, z = upd fb 12 (vp_nar .byte v_2) := ⟨_, rfl⟩
  rw [← ef_3] at hP hD
  refine lv_aload_n hx hb dX6_append_30 rfl (lv_at hl 1 rfl) ?_
  refine lv_dup hx hb dX6_append_31 rfl ?_
  refine va_get (ci := 6) (v := .int 12) (C := RX6) (T := TX6) (N := 12) hx hb hts in_X6_append_X6 hown hK hP 0 rfl rfl 0 (by decide) (hts (.fieldLink RX6 64 "HallTables$Text" "length" "I") (List.mem_of_getElem? (i := 1) rfl)) (fun _ h9 => h9) rfl dX6_append_32 ?_
  refine lv_iconst (v := 1) hx hb dX6_append_35 (by decide) ?_
  refine lv_iadd hx hb dX6_append_36 ?_
  refine tpI (v := 13) (by decide) ?_
  refine va_put (ci := 6) (v := .int 13) (ty := .int) (C := RX6) (T := TX6) (N := 12) hx hb hts in_X6_append_X6 tyX6 tyX6_ok nmX6 hown hK hP hD hS 0 rfl rfl 0 (by decide) (hts (.fieldLink RX6 64 "HallTables$Text" "length" "I") (List.mem_of_getElem? (i := 1) rfl)) (fun _ h9 => h9) rfl (by decide +kernel) rfl rfl (Nat.le_of_ble_eq_true rfl) dX6_append_37 (fun H locs hP hD hS => ?_)
  have hP : va_P D vwCl [(x0, .inr (6, [.int 13, .int 0, .int 0, .int (-1), .int 0, .long 0, .ref xb, .ref xk, .ref xv, .ref xp, .ref xt, .ref xw])), (xb, .inl (cy 2, 2000, .inl f_3))] H := hP
  have hD : va_D A [(x0, .inr (6, [.int 13, .int 0, .int 0, .int (-1), .int 0, .long 0, .ref xb, .ref xk, .ref xv, .ref xp, .ref xt, .ref xw])), (xb, .inl (cy 2, 2000, .inl f_3))] := hD
  refine lv_iinc (v := 16) (lv' := [(2, .int 16), (0, .ref x0), (1, .int p0)]) hx hb dX6_append_40 hl (k := 0) rfl (by decide) (by decide) rfl (fun ls hl => ?_)
  refine lv_goto (tgt := 3) hx hb dX6_append_43 (by decide) ?_
  refine lv_iload_n hx hb dX6_append_3 rfl (lv_at hl 0 rfl) ?_
  refine lv_if_lt (tgt := 46) hx hb dX6_append_4 (by decide) (fun c9 => absurd c9 (by decide)) (fun _ => ?_)
  refine lv_aload_n hx hb dX6_append_7 rfl (lv_at hl 1 rfl) ?_
  refine va_get (ci := 6) (v := .int 13) (C := RX6) (T := TX6) (N := 12) hx hb hts in_X6_append_X6 hown hK hP 0 rfl rfl 0 (by decide) (hts (.fieldLink RX6 64 "HallTables$Text" "length" "I") (List.mem_of_getElem? (i := 1) rfl)) (fun _ h9 => h9) rfl dX6_append_8 ?_
  refine lv_sipush (v := 2000) hx hb dX6_append_11 (by decide) ?_
  refine lv_icmp_ge (tgt := 46) hx hb dX6_append_14 (by decide) (fun c9 => absurd c9 (by decide)) (fun _ => ?_)
  refine lv_aload_n hx hb dX6_append_17 rfl (lv_at hl 1 rfl) ?_
  refine va_get (ci := 6) (v := .ref xb) (C := RX6) (T := TX6) (N := 12) hx hb hts in_X6_append_X6 hown hK hP 0 rfl rfl 6 (by decide) (hts (.fieldLink RX6 15 "HallTables$Text" "bytes" "[B") (List.mem_of_getElem? (i := 2) rfl)) (fun _ h9 => h9) rfl dX6_append_18 ?_
  refine lv_aload_n hx hb dX6_append_21 rfl (lv_at hl 1 rfl) ?_
  refine va_get (ci := 6) (v := .int 13) (C := RX6) (T := TX6) (N := 12) hx hb hts in_X6_append_X6 hown hK hP 0 rfl rfl 0 (by decide) (hts (.fieldLink RX6 64 "HallTables$Text" "length" "I") (List.mem_of_getElem? (i := 1) rfl)) (fun _ h9 => h9) rfl dX6_append_22 ?_
  refine lv_iload_n hx hb dX6_append_25 rfl (lv_at hl 2 rfl) ?_
  refine lv_iload_n hx hb dX6_append_26 rfl (lv_at hl 0 rfl) ?_
  refine lv_ishr hx hb dX6_append_27 ?_
  refine lv_topi (fun v_4 ev_4 => ?_)
  refine lv_i2b hx hb dX6_append_28 rfl ?_
  refine lv_topi (fun v_5 ev_5 => ?_)
  refine sB hx hb hK hP hD hS 1 rfl 13 rfl (Nat.le_of_ble_eq_true rfl) (Nat.le_of_ble_eq_true rfl) dX6_append_29 (fun H locs hP hD hS => ?_)
  have hP : va_P D vwCl [(x0, .inr (6, [.int 13, .int 0, .int 0, .int (-1), .int 0, .long 0, .ref xb, .ref xk, .ref xv, .ref xp, .ref xt, .ref xw])), (xb, .inl (cy 2, 2000, .inl (upd f_3 13 (vp_nar .byte v_5))))] H := hP
  have hD : va_D A [(x0, .inr (6, [.int 13, .int 0, .int 0, .int (-1), .int 0, .long 0, .ref xb, .ref xk, .ref xv, .ref xp, .ref xt, .ref xw])), (xb, .inl (cy 2, 2000, .inl (upd f_3 13 (vp_nar .byte v_5))))] := hD
  obtain ⟨f_6, ef_6⟩ : ∃ z, z = upd f_3 13 (vp_nar .byte v_5) := ⟨_, rfl⟩
  rw [← ef_6] at hP hD
  refine lv_aload_n hx hb dX6_append_30 rfl (lv_at hl 1 rfl) ?_
  refine lv_dup hx hb dX6_append_31 rfl ?_
  refine va_get (ci := 6) (v := .int 13) (C := RX6) (T := TX6) (N := 12) hx hb hts in_X6_append_X6 hown hK hP 0 rfl rfl 0 (by decide) (hts (.fieldLink RX6 64 "HallTables$Text" "length" "I") (List.mem_of_getElem? (i := 1) rfl)) (fun _ h9 => h9) rfl dX6_append_32 ?_
  refine lv_iconst (v := 1) hx hb dX6_append_35 (by decide) ?_
  refine lv_iadd hx hb dX6_append_36 ?_
  refine tpI (v := 14) (by decide) ?_
  refine va_put (ci := 6) (v := .int 14) (ty := .int) (C := RX6) (T := TX6) (N := 12) hx hb hts in_X6_append_X6 tyX6 tyX6_ok nmX6 hown hK hP hD hS 0 rfl rfl 0 (by decide) (hts (.fieldLink RX6 64 "HallTables$Text" "length" "I") (List.mem_of_getElem? (i := 1) rfl)) (fun _ h9 => h9) rfl (by decide +kernel) rfl rfl (Nat.le_of_ble_eq_true rfl) dX6_append_37 (fun H locs hP hD hS => ?_)
  have hP : va_P D vwCl [(x0, .inr (6, [.int 14, .int 0, .int 0, .int (-1), .int 0, .long 0, .ref xb, .ref xk, .ref xv, .ref xp, .ref xt, .ref xw])), (xb, .inl (cy 2, 2000, .inl f_6))] H := hP
  have hD : va_D A [(x0, .inr (6, [.int 14, .int 0, .int 0, .int (-1), .int 0, .long 0, .ref xb, .ref xk, .ref xv, .ref xp, .ref xt, .ref xw])), (xb, .inl (cy 2, 2000, .inl f_6))] := hD
  refine lv_iinc (v := 8) (lv' := [(2, .int 8), (0, .ref x0), (1, .int p0)]) hx hb dX6_append_40 hl (k := 0) rfl (by decide) (by decide) rfl (fun ls hl => ?_)
  refine lv_goto (tgt := 3) hx hb dX6_append_43 (by decide) ?_
  refine lv_iload_n hx hb dX6_append_3 rfl (lv_at hl 0 rfl) ?_
  refine lv_if_lt (tgt := 46) hx hb dX6_append_4 (by decide) (fun c9 => absurd c9 (by decide)) (fun _ => ?_)
  refine lv_aload_n hx hb dX6_append_7 rfl (lv_at hl 1 rfl) ?_
  refine va_get (ci := 6) (v := .int 14) (C := RX6) (T := TX6) (N := 12) hx hb hts in_X6_append_X6 hown hK hP 0 rfl rfl 0 (by decide) (hts (.fieldLink RX6 64 "HallTables$Text" "length" "I") (List.mem_of_getElem? (i := 1) rfl)) (fun _ h9 => h9) rfl dX6_append_8 ?_
  refine lv_sipush (v := 2000) hx hb dX6_append_11 (by decide) ?_
  refine lv_icmp_ge (tgt := 46) hx hb dX6_append_14 (by decide) (fun c9 => absurd c9 (by decide)) (fun _ => ?_)
  refine lv_aload_n hx hb dX6_append_17 rfl (lv_at hl 1 rfl) ?_
  refine va_get (ci := 6) (v := .ref xb) (C := RX6) (T := TX6) (N := 12) hx hb hts in_X6_append_X6 hown hK hP 0 rfl rfl 6 (by decide) (hts (.fieldLink RX6 15 "HallTables$Text" "bytes" "[B") (List.mem_of_getElem? (i := 2) rfl)) (fun _ h9 => h9) rfl dX6_append_18 ?_
  refine lv_aload_n hx hb dX6_append_21 rfl (lv_at hl 1 rfl) ?_
  refine va_get (ci := 6) (v := .int 14) (C := RX6) (T := TX6) (N := 12) hx hb hts in_X6_append_X6 hown hK hP 0 rfl rfl 0 (by decide) (hts (.fieldLink RX6 64 "HallTables$Text" "length" "I") (List.mem_of_getElem? (i := 1) rfl)) (fun _ h9 => h9) rfl dX6_append_22 ?_
  refine lv_iload_n hx hb dX6_append_25 rfl (lv_at hl 2 rfl) ?_
  refine lv_iload_n hx hb dX6_append_26 rfl (lv_at hl 0 rfl) ?_
  refine lv_ishr hx hb dX6_append_27 ?_
  refine lv_topi (fun v_7 ev_7 => ?_)
  refine lv_i2b hx hb dX6_append_28 rfl ?_
  refine lv_topi (fun v_8 ev_8 => ?_)
  refine sB hx hb hK hP hD hS 1 rfl 14 rfl (Nat.le_of_ble_eq_true rfl) (Nat.le_of_ble_eq_true rfl) dX6_append_29 (fun H locs hP hD hS => ?_)
  have hP : va_P D vwCl [(x0, .inr (6, [.int 14, .int 0, .int 0, .int (-1), .int 0, .long 0, .ref xb, .ref xk, .ref xv, .ref xp, .ref xt, .ref xw])), (xb, .inl (cy 2, 2000, .inl (upd f_6 14 (vp_nar .byte v_8))))] H := hP
  have hD : va_D A [(x0, .inr (6, [.int 14, .int 0, .int 0, .int (-1), .int 0, .long 0, .ref xb, .ref xk, .ref xv, .ref xp, .ref xt, .ref xw])), (xb, .inl (cy 2, 2000, .inl (upd f_6 14 (vp_nar .byte v_8))))] := hD
  obtain ⟨f_9, ef_9⟩ : ∃ z, z = upd f_6 14 (vp_nar .byte v_8) := ⟨_, rfl⟩
  rw [← ef_9] at hP hD
  refine lv_aload_n hx hb dX6_append_30 rfl (lv_at hl 1 rfl) ?_
  refine lv_dup hx hb dX6_append_31 rfl ?_
  refine va_get (ci := 6) (v := .int 14) (C := RX6) (T := TX6) (N := 12) hx hb hts in_X6_append_X6 hown hK hP 0 rfl rfl 0 (by decide) (hts (.fieldLink RX6 64 "HallTables$Text" "length" "I") (List.mem_of_getElem? (i := 1) rfl)) (fun _ h9 => h9) rfl dX6_append_32 ?_
  refine lv_iconst (v := 1) hx hb dX6_append_35 (by decide) ?_
  refine lv_iadd hx hb dX6_append_36 ?_
  refine tpI (v := 15) (by decide) ?_
  refine va_put (ci := 6) (v := .int 15) (ty := .int) (C := RX6) (T := TX6) (N := 12) hx hb hts in_X6_append_X6 tyX6 tyX6_ok nmX6 hown hK hP hD hS 0 rfl rfl 0 (by decide) (hts (.fieldLink RX6 64 "HallTables$Text" "length" "I") (List.mem_of_getElem? (i := 1) rfl)) (fun _ h9 => h9) rfl (by decide +kernel) rfl rfl (Nat.le_of_ble_eq_true rfl) dX6_append_37 (fun H locs hP hD hS => ?_)
  have hP : va_P D vwCl [(x0, .inr (6, [.int 15, .int 0, .int 0, .int (-1), .int 0, .long 0, .ref xb, .ref xk, .ref xv, .ref xp, .ref xt, .ref xw])), (xb, .inl (cy 2, 2000, .inl f_9))] H := hP
  have hD : va_D A [(x0, .inr (6, [.int 15, .int 0, .int 0, .int (-1), .int 0, .long 0, .ref xb, .ref xk, .ref xv, .ref xp, .ref xt, .ref xw])), (xb, .inl (cy 2, 2000, .inl f_9))] := hD
  refine lv_iinc (v := 0) (lv' := [(2, .int 0), (0, .ref x0), (1, .int p0)]) hx hb dX6_append_40 hl (k := 0) rfl (by decide) (by decide) rfl (fun ls hl => ?_)
  refine lv_goto (tgt := 3) hx hb dX6_append_43 (by decide) ?_
  refine lv_iload_n hx hb dX6_append_3 rfl (lv_at hl 0 rfl) ?_
  refine lv_if_lt (tgt := 46) hx hb dX6_append_4 (by decide) (fun c9 => absurd c9 (by decide)) (fun _ => ?_)
  refine lv_aload_n hx hb dX6_append_7 rfl (lv_at hl 1 rfl) ?_
  refine va_get (ci := 6) (v := .int 15) (C := RX6) (T := TX6) (N := 12) hx hb hts in_X6_append_X6 hown hK hP 0 rfl rfl 0 (by decide) (hts (.fieldLink RX6 64 "HallTables$Text" "length" "I") (List.mem_of_getElem? (i := 1) rfl)) (fun _ h9 => h9) rfl dX6_append_8 ?_
  refine lv_sipush (v := 2000) hx hb dX6_append_11 (by decide) ?_
  refine lv_icmp_ge (tgt := 46) hx hb dX6_append_14 (by decide) (fun c9 => absurd c9 (by decide)) (fun _ => ?_)
  refine lv_aload_n hx hb dX6_append_17 rfl (lv_at hl 1 rfl) ?_
  refine va_get (ci := 6) (v := .ref xb) (C := RX6) (T := TX6) (N := 12) hx hb hts in_X6_append_X6 hown hK hP 0 rfl rfl 6 (by decide) (hts (.fieldLink RX6 15 "HallTables$Text" "bytes" "[B") (List.mem_of_getElem? (i := 2) rfl)) (fun _ h9 => h9) rfl dX6_append_18 ?_
  refine lv_aload_n hx hb dX6_append_21 rfl (lv_at hl 1 rfl) ?_
  refine va_get (ci := 6) (v := .int 15) (C := RX6) (T := TX6) (N := 12) hx hb hts in_X6_append_X6 hown hK hP 0 rfl rfl 0 (by decide) (hts (.fieldLink RX6 64 "HallTables$Text" "length" "I") (List.mem_of_getElem? (i := 1) rfl)) (fun _ h9 => h9) rfl dX6_append_22 ?_
  refine lv_iload_n hx hb dX6_append_25 rfl (lv_at hl 2 rfl) ?_
  refine lv_iload_n hx hb dX6_append_26 rfl (lv_at hl 0 rfl) ?_
  refine lv_ishr hx hb dX6_append_27 ?_
  refine lv_topi (fun v_10 ev_10 => ?_)
  refine lv_i2b hx hb dX6_append_28 rfl ?_
  refine lv_topi (fun v_11 ev_11 => ?_)
  refine sB hx hb hK hP hD hS 1 rfl 15 rfl (Nat.le_of_ble_eq_true rfl) (Nat.le_of_ble_eq_true rfl) dX6_append_29 (fun H locs hP hD hS => ?_)
  have hP : va_P D vwCl [(x0, .inr (6, [.int 15, .int 0, .int 0, .int (-1), .int 0, .long 0, .ref xb, .ref xk, .ref xv, .ref xp, .ref xt, .ref xw])), (xb, .inl (cy 2, 2000, .inl (upd f_9 15 (vp_nar .byte v_11))))] H := hP
  have hD : va_D A [(x0, .inr (6, [.int 15, .int 0, .int 0, .int (-1), .int 0, .long 0, .ref xb, .ref xk, .ref xv, .ref xp, .ref xt, .ref xw])), (xb, .inl (cy 2, 2000, .inl (upd f_9 15 (vp_nar .byte v_11))))] := hD
  obtain ⟨f_12, ef_12⟩ : ∃ z, z = upd f_9 15 (vp_nar .byte v_11) := ⟨_, rfl⟩
  rw [← ef_12] at hP hD
  refine lv_aload_n hx hb dX6_append_30 rfl (lv_at hl 1 rfl) ?_
  refine lv_dup hx hb dX6_append_31 rfl ?_
  refine va_get (ci := 6) (v := .int 15) (C := RX6) (T := TX6) (N := 12) hx hb hts in_X6_append_X6 hown hK hP 0 rfl rfl 0 (by decide) (hts (.fieldLink RX6 64 "HallTables$Text" "length" "I") (List.mem_of_getElem? (i := 1) rfl)) (fun _ h9 => h9) rfl dX6_append_32 ?_
  refine lv_iconst (v := 1) hx hb dX6_append_35 (by decide) ?_
  refine lv_iadd hx hb dX6_append_36 ?_
  refine tpI (v := 16) (by decide) ?_
  refine va_put (ci := 6) (v := .int 16) (ty := .int) (C := RX6) (T := TX6) (N := 12) hx hb hts in_X6_append_X6 tyX6 tyX6_ok nmX6 hown hK hP hD hS 0 rfl rfl 0 (by decide) (hts (.fieldLink RX6 64 "HallTables$Text" "length" "I") (List.mem_of_getElem? (i := 1) rfl)) (fun _ h9 => h9) rfl (by decide +kernel) rfl rfl (Nat.le_of_ble_eq_true rfl) dX6_append_37 (fun H locs hP hD hS => ?_)
  have hP : va_P D vwCl [(x0, .inr (6, [.int 16, .int 0, .int 0, .int (-1), .int 0, .long 0, .ref xb, .ref xk, .ref xv, .ref xp, .ref xt, .ref xw])), (xb, .inl (cy 2, 2000, .inl f_12))] H := hP
  have hD : va_D A [(x0, .inr (6, [.int 16, .int 0, .int 0, .int (-1), .int 0, .long 0, .ref xb, .ref xk, .ref xv, .ref xp, .ref xt, .ref xw])), (xb, .inl (cy 2, 2000, .inl f_12))] := hD
  refine lv_iinc (v := (-8)) (lv' := [(2, .int (-8)), (0, .ref x0), (1, .int p0)]) hx hb dX6_append_40 hl (k := 0) rfl (by decide) (by decide) rfl (fun ls hl => ?_)
  refine lv_goto (tgt := 3) hx hb dX6_append_43 (by decide) ?_
  refine lv_iload_n hx hb dX6_append_3 rfl (lv_at hl 0 rfl) ?_
  refine lv_if_lt (tgt := 46) hx hb dX6_append_4 (by decide) (fun _ => ?_) (fun c9 => absurd (by decide) c9)
  exact endV hx hb hr hlocks [(x0, .inr (6, [.int 16, .int 0, .int 0, .int (-1), .int 0, .long 0, .ref xb, .ref xk, .ref xv, .ref xp, .ref xt, .ref xw])), (xb, .inl (cy 2, 2000, .inl f_12))] ⟨f_12, rfl⟩ hP hD hS (Nat.le_of_ble_eq_true rfl) (Nat.le_of_ble_eq_true rfl) dX6_append_46

set_option maxRecDepth 100000 in
set_option maxHeartbeats 4000000 in
/-- append at length 16 -/
theorem c_X6_append_16 (l : Launch) (D : va_G) (cy : Nat → ClassId) (x0 : Nat) (xb : Nat) (xk : Nat) (xv : Nat) (xp : Nat) (xt : Nat) (xw : Nat) (fb : Nat → Int32) (p0 : Int32) : Ctv l D cy yX6_append wsX6_append ({ frames := 0, cells := 0, slots := 0, locals := 0 } : Room) [.ref x0, .int p0] [(x0, .inr (6, [.int 16, .int 0, .int 0, .int (-1), .int 0, .long 0, .ref xb, .ref xk, .ref xv, .ref xp, .ref xt, .ref xw])), (xb, .inl (cy 2, 2000, .inl fb))] myT (fun (w : va_W) => ∃ (fb1 : Nat → Int32), w = [(x0, .inr (6, [.int 20, .int 0, .int 0, .int (-1), .int 0, .long 0, .ref xb, .ref xk, .ref xv, .ref xp, .ref xt, .ref xw])), (xb, .inl (cy 2, 2000, .inl fb1))]) := by
  refine ofV (cc := cX6_append) (maxL := 3) (ret := none) (by decide) rfl (Nat.le_of_ble_eq_true rfl) ?_
  intro p e s m args below meth c A ls hx hb hr hts hown hlocks hml hin hK hP hD hS hA hX hl
  have hown : s.vm.findClass RX6 = some m.cls := hown
  have hl : lv_has ls 3 [(0, .ref x0), (1, .int p0)] := hl
  refine lv_bipush (v := 24) hx hb dX6_append_0 (by decide) ?_
  refine lv_istore_n (lv' := [(2, .int 24), (0, .ref x0), (1, .int p0)]) hx hb dX6_append_2 rfl hl (by decide) rfl (fun ls hl => ?_)
  refine lv_iload_n hx hb dX6_append_3 rfl (lv_at hl 0 rfl) ?_
  refine lv_if_lt (tgt := 46) hx hb dX6_append_4 (by decide) (fun c9 => absurd c9 (by decide)) (fun _ => ?_)
  refine lv_aload_n hx hb dX6_append_7 rfl (lv_at hl 1 rfl) ?_
  refine va_get (ci := 6) (v := .int 16) (C := RX6) (T := TX6) (N := 12) hx hb hts in_X6_append_X6 hown hK hP 0 rfl rfl 0 (by decide) (hts (.fieldLink RX6 64 "HallTables$Text" "length" "I") (List.mem_of_getElem? (i := 1) rfl)) (fun _ h9 => h9) rfl dX6_append_8 ?_
  refine lv_sipush (v := 2000) hx hb dX6_append_11 (by decide) ?_
  refine lv_icmp_ge (tgt := 46) hx hb dX6_append_14 (by decide) (fun c9 => absurd c9 (by decide)) (fun _ => ?_)
  refine lv_aload_n hx hb dX6_append_17 rfl (lv_at hl 1 rfl) ?_
  refine va_get (ci := 6) (v := .ref xb) (C := RX6) (T := TX6) (N := 12) hx hb hts in_X6_append_X6 hown hK hP 0 rfl rfl 6 (by decide) (hts (.fieldLink RX6 15 "HallTables$Text" "bytes" "[B") (List.mem_of_getElem? (i := 2) rfl)) (fun _ h9 => h9) rfl dX6_append_18 ?_
  refine lv_aload_n hx hb dX6_append_21 rfl (lv_at hl 1 rfl) ?_
  refine va_get (ci := 6) (v := .int 16) (C := RX6) (T := TX6) (N := 12) hx hb hts in_X6_append_X6 hown hK hP 0 rfl rfl 0 (by decide) (hts (.fieldLink RX6 64 "HallTables$Text" "length" "I") (List.mem_of_getElem? (i := 1) rfl)) (fun _ h9 => h9) rfl dX6_append_22 ?_
  refine lv_iload_n hx hb dX6_append_25 rfl (lv_at hl 2 rfl) ?_
  refine lv_iload_n hx hb dX6_append_26 rfl (lv_at hl 0 rfl) ?_
  refine lv_ishr hx hb dX6_append_27 ?_
  refine lv_topi (fun v_1 ev_1 => ?_)
  refine lv_i2b hx hb dX6_append_28 rfl ?_
  refine lv_topi (fun v_2 ev_2 => ?_)
  refine sB hx hb hK hP hD hS 1 rfl 16 rfl (Nat.le_of_ble_eq_true rfl) (Nat.le_of_ble_eq_true rfl) dX6_append_29 (fun H locs hP hD hS => ?_)
  have hP : va_P D vwCl [(x0, .inr (6, [.int 16, .int 0, .int 0, .int (-1), .int 0, .long 0, .ref xb, .ref xk, .ref xv, .ref xp, .ref xt, .ref xw])), (xb, .inl (cy 2, 2000, .inl (upd fb 16 (vp_nar .byte v_2))))] H := hP
  have hD : va_D A [(x0, .inr (6, [.int 16, .int 0, .int 0, .int (-1), .int 0, .long 0, .ref xb, .ref xk, .ref xv, .ref xp, .ref xt, .ref xw])), (xb, .inl (cy 2, 2000, .inl (upd fb 16 (vp_nar .byte v_2))))] := hD
  obtain ⟨f_3, ef_3⟩ : ∃ z, z = upd fb 16 (vp_nar .byte v_2) := ⟨_, rfl⟩
  rw [← ef_3] at hP hD
  refine lv_aload_n hx hb dX6_append_30 rfl (lv_at hl 1 rfl) ?_
  refine lv_dup hx hb dX6_append_31 rfl ?_
  refine va_get (ci := 6) (v := .int 16) (C := RX6) (T := TX6) (N := 12) hx hb hts in_X6_append_X6 hown hK hP 0 rfl rfl 0 (by decide) (hts (.fieldLink RX6 64 "HallTables$Text" "length" "I") (List.mem_of_getElem? (i := 1) rfl)) (fun _ h9 => h9) rfl dX6_append_32 ?_
  refine lv_iconst (v := 1) hx hb dX6_append_35 (by decide) ?_
  refine lv_iadd hx hb dX6_append_36 ?_
  refine tpI (v := 17) (by decide) ?_
  refine va_put (ci := 6) (v := .int 17) (ty := .int) (C := RX6) (T := TX6) (N := 12) hx hb hts in_X6_append_X6 tyX6 tyX6_ok nmX6 hown hK hP hD hS 0 rfl rfl 0 (by decide) (hts (.fieldLink RX6 64 "HallTables$Text" "length" "I") (List.mem_of_getElem? (i := 1) rfl)) (fun _ h9 => h9) rfl (by decide +kernel) rfl rfl (Nat.le_of_ble_eq_true rfl) dX6_append_37 (fun H locs hP hD hS => ?_)
  have hP : va_P D vwCl [(x0, .inr (6, [.int 17, .int 0, .int 0, .int (-1), .int 0, .long 0, .ref xb, .ref xk, .ref xv, .ref xp, .ref xt, .ref xw])), (xb, .inl (cy 2, 2000, .inl f_3))] H := hP
  have hD : va_D A [(x0, .inr (6, [.int 17, .int 0, .int 0, .int (-1), .int 0, .long 0, .ref xb, .ref xk, .ref xv, .ref xp, .ref xt, .ref xw])), (xb, .inl (cy 2, 2000, .inl f_3))] := hD
  refine lv_iinc (v := 16) (lv' := [(2, .int 16), (0, .ref x0), (1, .int p0)]) hx hb dX6_append_40 hl (k := 0) rfl (by decide) (by decide) rfl (fun ls hl => ?_)
  refine lv_goto (tgt := 3) hx hb dX6_append_43 (by decide) ?_
  refine lv_iload_n hx hb dX6_append_3 rfl (lv_at hl 0 rfl) ?_
  refine lv_if_lt (tgt := 46) hx hb dX6_append_4 (by decide) (fun c9 => absurd c9 (by decide)) (fun _ => ?_)
  refine lv_aload_n hx hb dX6_append_7 rfl (lv_at hl 1 rfl) ?_
  refine va_get (ci := 6) (v := .int 17) (C := RX6) (T := TX6) (N := 12) hx hb hts in_X6_append_X6 hown hK hP 0 rfl rfl 0 (by decide) (hts (.fieldLink RX6 64 "HallTables$Text" "length" "I") (List.mem_of_getElem? (i := 1) rfl)) (fun _ h9 => h9) rfl dX6_append_8 ?_
  refine lv_sipush (v := 2000) hx hb dX6_append_11 (by decide) ?_
  refine lv_icmp_ge (tgt := 46) hx hb dX6_append_14 (by decide) (fun c9 => absurd c9 (by decide)) (fun _ => ?_)
  refine lv_aload_n hx hb dX6_append_17 rfl (lv_at hl 1 rfl) ?_
  refine va_get (ci := 6) (v := .ref xb) (C := RX6) (T := TX6) (N := 12) hx hb hts in_X6_append_X6 hown hK hP 0 rfl rfl 6 (by decide) (hts (.fieldLink RX6 15 "HallTables$Text" "bytes" "[B") (List.mem_of_getElem? (i := 2) rfl)) (fun _ h9 => h9) rfl dX6_append_18 ?_
  refine lv_aload_n hx hb dX6_append_21 rfl (lv_at hl 1 rfl) ?_
  refine va_get (ci := 6) (v := .int 17) (C := RX6) (T := TX6) (N := 12) hx hb hts in_X6_append_X6 hown hK hP 0 rfl rfl 0 (by decide) (hts (.fieldLink RX6 64 "HallTables$Text" "length" "I") (List.mem_of_getElem? (i := 1) rfl)) (fun _ h9 => h9) rfl dX6_append_22 ?_
  refine lv_iload_n hx hb dX6_append_25 rfl (lv_at hl 2 rfl) ?_
  refine lv_iload_n hx hb dX6_append_26 rfl (lv_at hl 0 rfl) ?_
  refine lv_ishr hx hb dX6_append_27 ?_
  refine lv_topi (fun v_4 ev_4 => ?_)
  refine lv_i2b hx hb dX6_append_28 rfl ?_
  refine lv_topi (fun v_5 ev_5 => ?_)
  refine sB hx hb hK hP hD hS 1 rfl 17 rfl (Nat.le_of_ble_eq_true rfl) (Nat.le_of_ble_eq_true rfl) dX6_append_29 (fun H locs hP hD hS => ?_)
  have hP : va_P D vwCl [(x0, .inr (6, [.int 17, .int 0, .int 0, .int (-1), .int 0, .long 0, .ref xb, .ref xk, .ref xv, .ref xp, .ref xt, .ref xw])), (xb, .inl (cy 2, 2000, .inl (upd f_3 17 (vp_nar .byte v_5))))] H := hP
  have hD : va_D A [(x0, .inr (6, [.int 17, .int 0, .int 0, .int (-1), .int 0, .long 0, .ref xb, .ref xk, .ref xv, .ref xp, .ref xt, .ref xw])), (xb, .inl (cy 2, 2000, .inl (upd f_3 17 (vp_nar .byte v_5))))] := hD
  obtain ⟨f_6, ef_6⟩ : ∃ z, z = upd f_3 17 (vp_nar .byte v_5) := ⟨_, rfl⟩
  rw [← ef_6] at hP hD
  refine lv_aload_n hx hb dX6_append_30 rfl (lv_at hl 1 rfl) ?_
  refine lv_dup hx hb dX6_append_31 rfl ?_
  refine va_get (ci := 6) (v := .int 17) (C := RX6) (T := TX6) (N := 12) hx hb hts in_X6_append_X6 hown hK hP 0 rfl rfl 0 (by decide) (hts (.fieldLink RX6 64 "HallTables$Text" "length" "I") (List.mem_of_getElem? (i := 1) rfl)) (fun _ h9 => h9) rfl dX6_append_32 ?_
  refine lv_iconst (v := 1) hx hb dX6_append_35 (by decide) ?_
  refine lv_iadd hx hb dX6_append_36 ?_
  refine tpI (v := 18) (by decide) ?_
  refine va_put (ci := 6) (v := .int 18) (ty := .int) (C := RX6) (T := TX6) (N := 12) hx hb hts in_X6_append_X6 tyX6 tyX6_ok nmX6 hown hK hP hD hS 0 rfl rfl 0 (by decide) (hts (.fieldLink RX6 64 "HallTables$Text" "length" "I") (List.mem_of_getElem? (i := 1) rfl)) (fun _ h9 => h9) rfl (by decide +kernel) rfl rfl (Nat.le_of_ble_eq_true rfl) dX6_append_37 (fun H locs hP hD hS => ?_)
  have hP : va_P D vwCl [(x0, .inr (6, [.int 18, .int 0, .int 0, .int (-1), .int 0, .long 0, .ref xb, .ref xk, .ref xv, .ref xp, .ref xt, .ref xw])), (xb, .inl (cy 2, 2000, .inl f_6))] H := hP
  have hD : va_D A [(x0, .inr (6, [.int 18, .int 0, .int 0, .int (-1), .int 0, .long 0, .ref xb, .ref xk, .ref xv, .ref xp, .ref xt, .ref xw])), (xb, .inl (cy 2, 2000, .inl f_6))] := hD
  refine lv_iinc (v := 8) (lv' := [(2, .int 8), (0, .ref x0), (1, .int p0)]) hx hb dX6_append_40 hl (k := 0) rfl (by decide) (by decide) rfl (fun ls hl => ?_)
  refine lv_goto (tgt := 3) hx hb dX6_append_43 (by decide) ?_
  refine lv_iload_n hx hb dX6_append_3 rfl (lv_at hl 0 rfl) ?_
  refine lv_if_lt (tgt := 46) hx hb dX6_append_4 (by decide) (fun c9 => absurd c9 (by decide)) (fun _ => ?_)
  refine lv_aload_n hx hb dX6_append_7 rfl (lv_at hl 1 rfl) ?_
  refine va_get (ci := 6) (v := .int 18) (C := RX6) (T := TX6) (N := 12) hx hb hts in_X6_append_X6 hown hK hP 0 rfl rfl 0 (by decide) (hts (.fieldLink RX6 64 "HallTables$Text" "length" "I") (List.mem_of_getElem? (i := 1) rfl)) (fun _ h9 => h9) rfl dX6_append_8 ?_
  refine lv_sipush (v := 2000) hx hb dX6_append_11 (by decide) ?_
  refine lv_icmp_ge (tgt := 46) hx hb dX6_append_14 (by decide) (fun c9 => absurd c9 (by decide)) (fun _ => ?_)
  refine lv_aload_n hx hb dX6_append_17 rfl (lv_at hl 1 rfl) ?_
  refine va_get (ci := 6) (v := .ref xb) (C := RX6) (T := TX6) (N := 12) hx hb hts in_X6_append_X6 hown hK hP 0 rfl rfl 6 (by decide) (hts (.fieldLink RX6 15 "HallTables$Text" "bytes" "[B") (List.mem_of_getElem? (i := 2) rfl)) (fun _ h9 => h9) rfl dX6_append_18 ?_
  refine lv_aload_n hx hb dX6_append_21 rfl (lv_at hl 1 rfl) ?_
  refine va_get (ci := 6) (v := .int 18) (C := RX6) (T := TX6) (N := 12) hx hb hts in_X6_append_X6 hown hK hP 0 rfl rfl 0 (by decide) (hts (.fieldLink RX6 64 "HallTables$Text" "length" "I") (List.mem_of_getElem? (i := 1) rfl)) (fun _ h9 => h9) rfl dX6_append_22 ?_
  refine lv_iload_n hx hb dX6_append_25 rfl (lv_at hl 2 rfl) ?_
  refine lv_iload_n hx hb dX6_append_26 rfl (lv_at hl 0 rfl) ?_
  refine lv_ishr hx hb dX6_append_27 ?_
  refine lv_topi (fun v_7 ev_7 => ?_)
  refine lv_i2b hx hb dX6_append_28 rfl ?_
  refine lv_topi (fun v_8 ev_8 => ?_)
  refine sB hx hb hK hP hD hS 1 rfl 18 rfl (Nat.le_of_ble_eq_true rfl) (Nat.le_of_ble_eq_true rfl) dX6_append_29 (fun H locs hP hD hS => ?_)
  have hP : va_P D vwCl [(x0, .inr (6, [.int 18, .int 0, .int 0, .int (-1), .int 0, .long 0, .ref xb, .ref xk, .ref xv, .ref xp, .ref xt, .ref xw])), (xb, .inl (cy 2, 2000, .inl (upd f_6 18 (vp_nar .byte v_8))))] H := hP
  have hD : va_D A [(x0, .inr (6, [.int 18, .int 0, .int 0, .int (-1), .int 0, .long 0, .ref xb, .ref xk, .ref xv, .ref xp, .ref xt, .ref xw])), (xb, .inl (cy 2, 2000, .inl (upd f_6 18 (vp_nar .byte v_8))))] := hD
  obtain ⟨f_9, ef_9⟩ : ∃ z, z = upd f_6 18 (vp_nar .byte v_8) := ⟨_, rfl⟩
  rw [← ef_9] at hP hD
  refine lv_aload_n hx hb dX6_append_30 rfl (lv_at hl 1 rfl) ?_
  refine lv_dup hx hb dX6_append_31 rfl ?_
  refine va_get (ci := 6) (v := .int 18) (C := RX6) (T := TX6) (N := 12) hx hb hts in_X6_append_X6 hown hK hP 0 rfl rfl 0 (by decide) (hts (.fieldLink RX6 64 "HallTables$Text" "length" "I") (List.mem_of_getElem? (i := 1) rfl)) (fun _ h9 => h9) rfl dX6_append_32 ?_
  refine lv_iconst (v := 1) hx hb dX6_append_35 (by decide) ?_
  refine lv_iadd hx hb dX6_append_36 ?_
  refine tpI (v := 19) (by decide) ?_
  refine va_put (ci := 6) (v := .int 19) (ty := .int) (C := RX6) (T := TX6) (N := 12) hx hb hts in_X6_append_X6 tyX6 tyX6_ok nmX6 hown hK hP hD hS 0 rfl rfl 0 (by decide) (hts (.fieldLink RX6 64 "HallTables$Text" "length" "I") (List.mem_of_getElem? (i := 1) rfl)) (fun _ h9 => h9) rfl (by decide +kernel) rfl rfl (Nat.le_of_ble_eq_true rfl) dX6_append_37 (fun H locs hP hD hS => ?_)
  have hP : va_P D vwCl [(x0, .inr (6, [.int 19, .int 0, .int 0, .int (-1), .int 0, .long 0, .ref xb, .ref xk, .ref xv, .ref xp, .ref xt, .ref xw])), (xb, .inl (cy 2, 2000, .inl f_9))] H := hP
  have hD : va_D A [(x0, .inr (6, [.int 19, .int 0, .int 0, .int (-1), .int 0, .long 0, .ref xb, .ref xk, .ref xv, .ref xp, .ref xt, .ref xw])), (xb, .inl (cy 2, 2000, .inl f_9))] := hD
  refine lv_iinc (v := 0) (lv' := [(2, .int 0), (0, .ref x0), (1, .int p0)]) hx hb dX6_append_40 hl (k := 0) rfl (by decide) (by decide) rfl (fun ls hl => ?_)
  refine lv_goto (tgt := 3) hx hb dX6_append_43 (by decide) ?_
  refine lv_iload_n hx hb dX6_append_3 rfl (lv_at hl 0 rfl) ?_
  refine lv_if_lt (tgt := 46) hx hb dX6_append_4 (by decide) (fun c9 => absurd c9 (by decide)) (fun _ => ?_)
  refine lv_aload_n hx hb dX6_append_7 rfl (lv_at hl 1 rfl) ?_
  refine va_get (ci := 6) (v := .int 19) (C := RX6) (T := TX6) (N := 12) hx hb hts in_X6_append_X6 hown hK hP 0 rfl rfl 0 (by decide) (hts (.fieldLink RX6 64 "HallTables$Text" "length" "I") (List.mem_of_getElem? (i := 1) rfl)) (fun _ h9 => h9) rfl dX6_append_8 ?_
  refine lv_sipush (v := 2000) hx hb dX6_append_11 (by decide) ?_
  refine lv_icmp_ge (tgt := 46) hx hb dX6_append_14 (by decide) (fun c9 => absurd c9 (by decide)) (fun _ => ?_)
  refine lv_aload_n hx hb dX6_append_17 rfl (lv_at hl 1 rfl) ?_
  refine va_get (ci := 6) (v := .ref xb) (C := RX6) (T := TX6) (N := 12) hx hb hts in_X6_append_X6 hown hK hP 0 rfl rfl 6 (by decide) (hts (.fieldLink RX6 15 "HallTables$Text" "bytes" "[B") (List.mem_of_getElem? (i := 2) rfl)) (fun _ h9 => h9) rfl dX6_append_18 ?_
  refine lv_aload_n hx hb dX6_append_21 rfl (lv_at hl 1 rfl) ?_
  refine va_get (ci := 6) (v := .int 19) (C := RX6) (T := TX6) (N := 12) hx hb hts in_X6_append_X6 hown hK hP 0 rfl rfl 0 (by decide) (hts (.fieldLink RX6 64 "HallTables$Text" "length" "I") (List.mem_of_getElem? (i := 1) rfl)) (fun _ h9 => h9) rfl dX6_append_22 ?_
  refine lv_iload_n hx hb dX6_append_25 rfl (lv_at hl 2 rfl) ?_
  refine lv_iload_n hx hb dX6_append_26 rfl (lv_at hl 0 rfl) ?_
  refine lv_ishr hx hb dX6_append_27 ?_
  refine lv_topi (fun v_10 ev_10 => ?_)
  refine lv_i2b hx hb dX6_append_28 rfl ?_
  refine lv_topi (fun v_11 ev_11 => ?_)
  refine sB hx hb hK hP hD hS 1 rfl 19 rfl (Nat.le_of_ble_eq_true rfl) (Nat.le_of_ble_eq_true rfl) dX6_append_29 (fun H locs hP hD hS => ?_)
  have hP : va_P D vwCl [(x0, .inr (6, [.int 19, .int 0, .int 0, .int (-1), .int 0, .long 0, .ref xb, .ref xk, .ref xv, .ref xp, .ref xt, .ref xw])), (xb, .inl (cy 2, 2000, .inl (upd f_9 19 (vp_nar .byte v_11))))] H := hP
  have hD : va_D A [(x0, .inr (6, [.int 19, .int 0, .int 0, .int (-1), .int 0, .long 0, .ref xb, .ref xk, .ref xv, .ref xp, .ref xt, .ref xw])), (xb, .inl (cy 2, 2000, .inl (upd f_9 19 (vp_nar .byte v_11))))] := hD
  obtain ⟨f_12, ef_12⟩ : ∃ z, z = upd f_9 19 (vp_nar .byte v_11) := ⟨_, rfl⟩
  rw [← ef_12] at hP hD
  refine lv_aload_n hx hb dX6_append_30 rfl (lv_at hl 1 rfl) ?_
  refine lv_dup hx hb dX6_append_31 rfl ?_
  refine va_get (ci := 6) (v := .int 19) (C := RX6) (T := TX6) (N := 12) hx hb hts in_X6_append_X6 hown hK hP 0 rfl rfl 0 (by decide) (hts (.fieldLink RX6 64 "HallTables$Text" "length" "I") (List.mem_of_getElem? (i := 1) rfl)) (fun _ h9 => h9) rfl dX6_append_32 ?_
  refine lv_iconst (v := 1) hx hb dX6_append_35 (by decide) ?_
  refine lv_iadd hx hb dX6_append_36 ?_
  refine tpI (v := 20) (by decide) ?_
  refine va_put (ci := 6) (v := .int 20) (ty := .int) (C := RX6) (T := TX6) (N := 12) hx hb hts in_X6_append_X6 tyX6 tyX6_ok nmX6 hown hK hP hD hS 0 rfl rfl 0 (by decide) (hts (.fieldLink RX6 64 "HallTables$Text" "length" "I") (List.mem_of_getElem? (i := 1) rfl)) (fun _ h9 => h9) rfl (by decide +kernel) rfl rfl (Nat.le_of_ble_eq_true rfl) dX6_append_37 (fun H locs hP hD hS => ?_)
  have hP : va_P D vwCl [(x0, .inr (6, [.int 20, .int 0, .int 0, .int (-1), .int 0, .long 0, .ref xb, .ref xk, .ref xv, .ref xp, .ref xt, .ref xw])), (xb, .inl (cy 2, 2000, .inl f_12))] H := hP
  have hD : va_D A [(x0, .inr (6, [.int 20, .int 0, .int 0, .int (-1), .int 0, .long 0, .ref xb, .ref xk, .ref xv, .ref xp, .ref xt, .ref xw])), (xb, .inl (cy 2, 2000, .inl f_12))] := hD
  refine lv_iinc (v := (-8)) (lv' := [(2, .int (-8)), (0, .ref x0), (1, .int p0)]) hx hb dX6_append_40 hl (k := 0) rfl (by decide) (by decide) rfl (fun ls hl => ?_)
  refine lv_goto (tgt := 3) hx hb dX6_append_43 (by decide) ?_
  refine lv_iload_n hx hb dX6_append_3 rfl (lv_at hl 0 rfl) ?_
  refine lv_if_lt (tgt := 46) hx hb dX6_append_4 (by decide) (fun _ => ?_) (fun c9 => absurd (by decide) c9)
  exact endV hx hb hr hlocks [(x0, .inr (6, [.int 20, .int 0, .int 0, .int (-1), .int 0, .long 0, .ref xb, .ref xk, .ref xv, .ref xp, .ref xt, .ref xw])), (xb, .inl (cy 2, 2000, .inl f_12))] ⟨f_12, rfl⟩ hP hD hS (Nat.le_of_ble_eq_true rfl) (Nat.le_of_ble_eq_true rfl) dX6_append_46

theorem in_X11_feed_X11 : ∀ w ∈ u_ws RX11 TX11 11, w ∈ wsX11_feed := fun w h => (List.mem_cons_of_mem _ (List.mem_append_right _ h))
theorem in_X11_feed_X6 : ∀ w ∈ u_ws RX6 TX6 12, w ∈ wsX11_feed := fun w h => (List.mem_cons_of_mem _ (List.mem_append_left _ (List.mem_append_right _ h)))
set_option maxRecDepth 100000 in
set_option maxHeartbeats 4000000 in
/-- feed on a new object: 20 -/
theorem c_X11_feed (l : Launch) (D : va_G) (cy : Nat → ClassId) (h0 : Nat) (fs : List Value) (x0 : Nat) (xb : Nat) (xk : Nat) (xv : Nat) (xp : Nat) (xt : Nat) (xw : Nat) (fb : Nat → Int32) (p0 : Int32) (p1 : Int32) (p2 : Int32) (p3 : Int32) (p4 : Int32) (e_x : fs[1]? = some (.ref x0)) : Cti l D cy yX11_feed wsX11_feed ({ frames := 1, cells := 0, slots := 0, locals := 22 } : Room) [.ref h0, .int p0, .int p1, .int p2, .int p3, .int p4] [(h0, .inr (11, fs)), (x0, .inr (6, [.int 0, .int 0, .int 0, .int (-1), .int 0, .long 0, .ref xb, .ref xk, .ref xv, .ref xp, .ref xt, .ref xw])), (xb, .inl (cy 2, 2000, .inl fb))] myT (fun (r : Int32) (w : va_W) => r = 20 ∧ w = []) := by
  refine ofI (cc := cX11_feed) (maxL := 6) (ret := (some .int)) (by decide) rfl (Nat.le_of_ble_eq_true rfl) ?_
  intro p e s m args below meth c A ls hx hb hr hts hown hlocks hml hin hK hP hD hS hA hX hl
  have hown : s.vm.findClass RX11 = some m.cls := hown
  have hl : lv_has ls 6 [(0, .ref h0), (1, .int p0), (2, .int p1), (3, .int p2), (4, .int p3), (5, .int p4)] := hl
  refine lv_aload_n hx hb dX11_feed_0 rfl (lv_at hl 0 rfl) ?_
  refine va_get (ci := 11) (v := .ref x0) (C := RX11) (T := TX11) (N := 11) hx hb hts in_X11_feed_X11 hown hK hP 0 rfl rfl 1 (by decide) (hts (.fieldLink RX11 20 "HallTables" "text" "LHallTables$Text;") (List.mem_of_getElem? (i := 1) rfl)) (fun _ h9 => h9) e_x dX11_feed_1 ?_
  refine lv_bipush (v := 20) hx hb dX11_feed_4 (by decide) ?_
  refine cVi (As := [.int 20]) (rest := []) (wr := [(h0, .inr (11, fs)), (xb, .inl (cy 2, 2000, .inl fb))]) ⟨hx, hb, hml, hown, hts⟩ (c_X6_hasRoomFor l D cy x0 xb xk xv xp xt xw ) (cwV 1 hts gX11_feed_X6_hasRoomFor rfl rfl rfl (by decide +kernel) ⟨Nat.le_of_ble_eq_true rfl, Nat.le_of_ble_eq_true rfl⟩) hK hP hD hS hA [1] [0, 2] ⟨rfl, rfl, by decide +kernel, by decide +kernel, by decide +kernel⟩ 0 6 rfl rfl myX_T rfl hl.1 rfl (Nat.le_of_ble_eq_true rfl) dX11_feed_6 ⟨Nat.le_of_ble_eq_true rfl, Nat.le_of_ble_eq_true rfl⟩ (fun r_1 w_2 H locs hw hP hD hS => ?_)
  obtain ⟨rfl, rfl⟩ := hw
  have hP : va_P D vwCl [(h0, .inr (11, fs)), (xb, .inl (cy 2, 2000, .inl fb)), (x0, .inr (6, [.int 0, .int 0, .int 0, .int (-1), .int 0, .long 0, .ref xb, .ref xk, .ref xv, .ref xp, .ref xt, .ref xw]))] H := hP
  have hD : va_D A [(h0, .inr (11, fs)), (xb, .inl (cy 2, 2000, .inl fb)), (x0, .inr (6, [.int 0, .int 0, .int 0, .int (-1), .int 0, .long 0, .ref xb, .ref xk, .ref xv, .ref xp, .ref xt, .ref xw]))] := hD
  refine lv_if_ne (tgt := 14) hx hb dX11_feed_9 (by decide) (fun _ => ?_) (fun c9 => absurd c9 (by decide))
  refine lv_aload_n hx hb dX11_feed_14 rfl (lv_at hl 0 rfl) ?_
  refine va_get (ci := 11) (v := .ref x0) (C := RX11) (T := TX11) (N := 11) hx hb hts in_X11_feed_X11 hown hK hP 0 rfl rfl 1 (by decide) (hts (.fieldLink RX11 20 "HallTables" "text" "LHallTables$Text;") (List.mem_of_getElem? (i := 1) rfl)) (fun _ h9 => h9) e_x dX11_feed_15 ?_
  refine lv_iload_n hx hb dX11_feed_18 rfl (lv_at hl 1 rfl) ?_
  refine cVv (As := [.int p0]) (rest := []) (wr := [(h0, .inr (11, fs))]) ⟨hx, hb, hml, hown, hts⟩ (c_X6_append_0 l D cy x0 xb xk xv xp xt xw fb p0 ) (cwV 1 hts gX11_feed_X6_append rfl rfl rfl (by decide +kernel) ⟨Nat.le_of_ble_eq_true rfl, Nat.le_of_ble_eq_true rfl⟩) hK hP hD hS hA [2, 1] [0] ⟨rfl, rfl, by decide +kernel, by decide +kernel, by decide +kernel⟩ 0 6 rfl rfl myX_T rfl hl.1 rfl (Nat.le_of_ble_eq_true rfl) dX11_feed_19 ⟨Nat.le_of_ble_eq_true rfl, Nat.le_of_ble_eq_true rfl⟩ (fun w_3 H locs hw hP hD hS => ?_)
  obtain ⟨fb_4, rfl⟩ := hw
  have hP : va_P D vwCl [(h0, .inr (11, fs)), (x0, .inr (6, [.int 4, .int 0, .int 0, .int (-1), .int 0, .long 0, .ref xb, .ref xk, .ref xv, .ref xp, .ref xt, .ref xw])), (xb, .inl (cy 2, 2000, .inl fb_4))] H := hP
  have hD : va_D A [(h0, .inr (11, fs)), (x0, .inr (6, [.int 4, .int 0, .int 0, .int (-1), .int 0, .long 0, .ref xb, .ref xk, .ref xv, .ref xp, .ref xt, .ref xw])), (xb, .inl (cy 2, 2000, .inl fb_4))] := hD
  refine lv_aload_n hx hb dX11_feed_22 rfl (lv_at hl 0 rfl) ?_
  refine va_get (ci := 11) (v := .ref x0) (C := RX11) (T := TX11) (N := 11) hx hb hts in_X11_feed_X11 hown hK hP 0 rfl rfl 1 (by decide) (hts (.fieldLink RX11 20 "HallTables" "text" "LHallTables$Text;") (List.mem_of_getElem? (i := 1) rfl)) (fun _ h9 => h9) e_x dX11_feed_23 ?_
  refine lv_iload_n hx hb dX11_feed_26 rfl (lv_at hl 2 rfl) ?_
  refine cVv (As := [.int p1]) (rest := []) (wr := [(h0, .inr (11, fs))]) ⟨hx, hb, hml, hown, hts⟩ (c_X6_append_4 l D cy x0 xb xk xv xp xt xw fb_4 p1 ) (cwV 1 hts gX11_feed_X6_append rfl rfl rfl (by decide +kernel) ⟨Nat.le_of_ble_eq_true rfl, Nat.le_of_ble_eq_true rfl⟩) hK hP hD hS hA [1, 2] [0] ⟨rfl, rfl, by decide +kernel, by decide +kernel, by decide +kernel⟩ 0 6 rfl rfl myX_T rfl hl.1 rfl (Nat.le_of_ble_eq_true rfl) dX11_feed_27 ⟨Nat.le_of_ble_eq_true rfl, Nat.le_of_ble_eq_true rfl⟩ (fun w_5 H locs hw hP hD hS => ?_)
  obtain ⟨fb_6, rfl⟩ := hw
  have hP : va_P D vwCl [(h0, .inr (11, fs)), (x0, .inr (6, [.int 8, .int 0, .int 0, .int (-1), .int 0, .long 0, .ref xb, .ref xk, .ref xv, .ref xp, .ref xt, .ref xw])), (xb, .inl (cy 2, 2000, .inl fb_6))] H := hP
  have hD : va_D A [(h0, .inr (11, fs)), (x0, .inr (6, [.int 8, .int 0, .int 0, .int (-1), .int 0, .long 0, .ref xb, .ref xk, .ref xv, .ref xp, .ref xt, .ref xw])), (xb, .inl (cy 2, 2000, .inl fb_6))] := hD
  refine lv_aload_n hx hb dX11_feed_30 rfl (lv_at hl 0 rfl) ?_
  refine va_get (ci := 11) (v := .ref x0) (C := RX11) (T := TX11) (N := 11) hx hb hts in_X11_feed_X11 hown hK hP 0 rfl rfl 1 (by decide) (hts (.fieldLink RX11 20 "HallTables" "text" "LHallTables$Text;") (List.mem_of_getElem? (i := 1) rfl)) (fun _ h9 => h9) e_x dX11_feed_31 ?_
  refine lv_iload_n hx hb dX11_feed_34 rfl (lv_at hl 3 rfl) ?_
  refine cVv (As := [.int p2]) (rest := []) (wr := [(h0, .inr (11, fs))]) ⟨hx, hb, hml, hown, hts⟩ (c_X6_append_8 l D cy x0 xb xk xv xp xt xw fb_6 p2 ) (cwV 1 hts gX11_feed_X6_append rfl rfl rfl (by decide +kernel) ⟨Nat.le_of_ble_eq_true rfl, Nat.le_of_ble_eq_true rfl⟩) hK hP hD hS hA [1, 2] [0] ⟨rfl, rfl, by decide +kernel, by decide +kernel, by decide +kernel⟩ 0 6 rfl rfl myX_T rfl hl.1 rfl (Nat.le_of_ble_eq_true rfl) dX11_feed_35 ⟨Nat.le_of_ble_eq_true rfl, Nat.le_of_ble_eq_true rfl⟩ (fun w_7 H locs hw hP hD hS => ?_)
  obtain ⟨fb_8, rfl⟩ := hw
  have hP : va_P D vwCl [(h0, .inr (11, fs)), (x0, .inr (6, [.int 12, .int 0, .int 0, .int (-1), .int 0, .long 0, .ref xb, .ref xk, .ref xv, .ref xp, .ref xt, .ref xw])), (xb, .inl (cy 2, 2000, .inl fb_8))] H := hP
  have hD : va_D A [(h0, .inr (11, fs)), (x0, .inr (6, [.int 12, .int 0, .int 0, .int (-1), .int 0, .long 0, .ref xb, .ref xk, .ref xv, .ref xp, .ref xt, .ref xw])), (xb, .inl (cy 2, 2000, .inl fb_8))] := hD
  refine lv_aload_n hx hb dX11_feed_38 rfl (lv_at hl 0 rfl) ?_
  refine va_get (ci := 11) (v := .ref x0) (C := RX11) (T := TX11) (N := 11) hx hb hts in_X11_feed_X11 hown hK hP 0 rfl rfl 1 (by decide) (hts (.fieldLink RX11 20 "HallTables" "text" "LHallTables$Text;") (List.mem_of_getElem? (i := 1) rfl)) (fun _ h9 => h9) e_x dX11_feed_39 ?_
  refine lv_iload hx hb dX11_feed_42 (lv_at hl 4 rfl) ?_
  refine cVv (As := [.int p3]) (rest := []) (wr := [(h0, .inr (11, fs))]) ⟨hx, hb, hml, hown, hts⟩ (c_X6_append_12 l D cy x0 xb xk xv xp xt xw fb_8 p3 ) (cwV 1 hts gX11_feed_X6_append rfl rfl rfl (by decide +kernel) ⟨Nat.le_of_ble_eq_true rfl, Nat.le_of_ble_eq_true rfl⟩) hK hP hD hS hA [1, 2] [0] ⟨rfl, rfl, by decide +kernel, by decide +kernel, by decide +kernel⟩ 0 6 rfl rfl myX_T rfl hl.1 rfl (Nat.le_of_ble_eq_true rfl) dX11_feed_44 ⟨Nat.le_of_ble_eq_true rfl, Nat.le_of_ble_eq_true rfl⟩ (fun w_9 H locs hw hP hD hS => ?_)
  obtain ⟨fb_10, rfl⟩ := hw
  have hP : va_P D vwCl [(h0, .inr (11, fs)), (x0, .inr (6, [.int 16, .int 0, .int 0, .int (-1), .int 0, .long 0, .ref xb, .ref xk, .ref xv, .ref xp, .ref xt, .ref xw])), (xb, .inl (cy 2, 2000, .inl fb_10))] H := hP
  have hD : va_D A [(h0, .inr (11, fs)), (x0, .inr (6, [.int 16, .int 0, .int 0, .int (-1), .int 0, .long 0, .ref xb, .ref xk, .ref xv, .ref xp, .ref xt, .ref xw])), (xb, .inl (cy 2, 2000, .inl fb_10))] := hD
  refine lv_aload_n hx hb dX11_feed_47 rfl (lv_at hl 0 rfl) ?_
  refine va_get (ci := 11) (v := .ref x0) (C := RX11) (T := TX11) (N := 11) hx hb hts in_X11_feed_X11 hown hK hP 0 rfl rfl 1 (by decide) (hts (.fieldLink RX11 20 "HallTables" "text" "LHallTables$Text;") (List.mem_of_getElem? (i := 1) rfl)) (fun _ h9 => h9) e_x dX11_feed_48 ?_
  refine lv_iload hx hb dX11_feed_51 (lv_at hl 5 rfl) ?_
  refine cVv (As := [.int p4]) (rest := []) (wr := [(h0, .inr (11, fs))]) ⟨hx, hb, hml, hown, hts⟩ (c_X6_append_16 l D cy x0 xb xk xv xp xt xw fb_10 p4 ) (cwV 1 hts gX11_feed_X6_append rfl rfl rfl (by decide +kernel) ⟨Nat.le_of_ble_eq_true rfl, Nat.le_of_ble_eq_true rfl⟩) hK hP hD hS hA [1, 2] [0] ⟨rfl, rfl, by decide +kernel, by decide +kernel, by decide +kernel⟩ 0 6 rfl rfl myX_T rfl hl.1 rfl (Nat.le_of_ble_eq_true rfl) dX11_feed_53 ⟨Nat.le_of_ble_eq_true rfl, Nat.le_of_ble_eq_true rfl⟩ (fun w_11 H locs hw hP hD hS => ?_)
  obtain ⟨fb_12, rfl⟩ := hw
  have hP : va_P D vwCl [(h0, .inr (11, fs)), (x0, .inr (6, [.int 20, .int 0, .int 0, .int (-1), .int 0, .long 0, .ref xb, .ref xk, .ref xv, .ref xp, .ref xt, .ref xw])), (xb, .inl (cy 2, 2000, .inl fb_12))] H := hP
  have hD : va_D A [(h0, .inr (11, fs)), (x0, .inr (6, [.int 20, .int 0, .int 0, .int (-1), .int 0, .long 0, .ref xb, .ref xk, .ref xv, .ref xp, .ref xt, .ref xw])), (xb, .inl (cy 2, 2000, .inl fb_12))] := hD
  refine lv_aload_n hx hb dX11_feed_56 rfl (lv_at hl 0 rfl) ?_
  refine va_get (ci := 11) (v := .ref x0) (C := RX11) (T := TX11) (N := 11) hx hb hts in_X11_feed_X11 hown hK hP 0 rfl rfl 1 (by decide) (hts (.fieldLink RX11 20 "HallTables" "text" "LHallTables$Text;") (List.mem_of_getElem? (i := 1) rfl)) (fun _ h9 => h9) e_x dX11_feed_57 ?_
  refine va_get (ci := 6) (v := .int 20) (C := RX6) (T := TX6) (N := 12) hx hb hts in_X11_feed_X6 hown hK hP 1 rfl rfl 0 (by decide) (hts (.fieldLink RX11 91 "HallTables$Text" "length" "I") (List.mem_of_getElem? (i := 2) rfl)) (fun _ h9 => h9) rfl dX11_feed_60 ?_
  have hP := hP.sub (ws' := []) [] rfl
  have hD := hD.sub (ws' := []) [] (by decide +kernel) rfl
  exact endI hx hb hr hlocks [] rfl ⟨rfl, rfl⟩ hP hD hS (Nat.le_of_ble_eq_true rfl) (Nat.le_of_ble_eq_true rfl) dX11_feed_63

theorem in_X11_back_X11 : ∀ w ∈ u_ws RX11 TX11 11, w ∈ wsX11_back := fun w h => (List.mem_cons_of_mem _ (List.mem_append_right _ h))
theorem in_X11_back_X6 : ∀ w ∈ u_ws RX6 TX6 12, w ∈ wsX11_back := fun w h => (List.mem_cons_of_mem _ (List.mem_append_left _ (List.mem_append_right _ h)))
set_option maxRecDepth 100000 in
set_option maxHeartbeats 4000000 in
/-- back(n) on a new object: 0 for n = 0, else NONE -/
theorem c_X11_back (l : Launch) (D : va_G) (cy : Nat → ClassId) (h0 : Nat) (fs : List Value) (x0 : Nat) (xb : Nat) (xk : Nat) (xv : Nat) (xp : Nat) (xt : Nat) (xw : Nat) (p0 : Int32) (e_x : fs[1]? = some (.ref x0)) : Cti l D cy yX11_back wsX11_back ({ frames := 0, cells := 0, slots := 0, locals := 0 } : Room) [.ref h0, .int p0] [(h0, .inr (11, fs)), (x0, .inr (6, [.int 0, .int 0, .int 0, .int (-1), .int 0, .long 0, .ref xb, .ref xk, .ref xv, .ref xp, .ref xt, .ref xw]))] myT (fun (r : Int32) (w : va_W) => r = backV p0 ∧ w = []) := by
  refine ofI (cc := cX11_back) (maxL := 2) (ret := (some .int)) (by decide) rfl (Nat.le_of_ble_eq_true rfl) ?_
  intro p e s m args below meth c A ls hx hb hr hts hown hlocks hml hin hK hP hD hS hA hX hl
  have hown : s.vm.findClass RX11 = some m.cls := hown
  have hl : lv_has ls 2 [(0, .ref h0), (1, .int p0)] := hl
  refine lv_iload_n hx hb dX11_back_0 rfl (lv_at hl 1 rfl) ?_
  refine lv_if_lt (tgt := 15) hx hb dX11_back_1 (by decide) (fun c_1 => ?_) (fun c_1 => ?_)
  · refine lv_iconst (v := (-1)) hx hb dX11_back_15 (by decide) ?_
    have hP := hP.sub (ws' := []) [] rfl
    have hD := hD.sub (ws' := []) [] (by decide +kernel) rfl
    exact endI hx hb hr hlocks [] rfl ⟨(backV_a c_1), rfl⟩ hP hD hS (Nat.le_of_ble_eq_true rfl) (Nat.le_of_ble_eq_true rfl) dX11_back_16
  · refine lv_iload_n hx hb dX11_back_4 rfl (lv_at hl 1 rfl) ?_
    refine lv_aload_n hx hb dX11_back_5 rfl (lv_at hl 0 rfl) ?_
    refine va_get (ci := 11) (v := .ref x0) (C := RX11) (T := TX11) (N := 11) hx hb hts in_X11_back_X11 hown hK hP 0 rfl rfl 1 (by decide) (hts (.fieldLink RX11 20 "HallTables" "text" "LHallTables$Text;") (List.mem_of_getElem? (i := 1) rfl)) (fun _ h9 => h9) e_x dX11_back_6 ?_
    refine va_get (ci := 6) (v := .int 0) (C := RX6) (T := TX6) (N := 12) hx hb hts in_X11_back_X6 hown hK hP 1 rfl rfl 0 (by decide) (hts (.fieldLink RX11 91 "HallTables$Text" "length" "I") (List.mem_of_getElem? (i := 2) rfl)) (fun _ h9 => h9) rfl dX11_back_9 ?_
    refine lv_icmp_le (tgt := 17) hx hb dX11_back_12 (by decide) (fun c_2 => ?_) (fun c_2 => ?_)
    · refine lv_aload_n hx hb dX11_back_17 rfl (lv_at hl 0 rfl) ?_
      refine va_get (ci := 11) (v := .ref x0) (C := RX11) (T := TX11) (N := 11) hx hb hts in_X11_back_X11 hown hK hP 0 rfl rfl 1 (by decide) (hts (.fieldLink RX11 20 "HallTables" "text" "LHallTables$Text;") (List.mem_of_getElem? (i := 1) rfl)) (fun _ h9 => h9) e_x dX11_back_18 ?_
      refine lv_dup hx hb dX11_back_21 rfl ?_
      refine va_get (ci := 6) (v := .int 0) (C := RX6) (T := TX6) (N := 12) hx hb hts in_X11_back_X6 hown hK hP 1 rfl rfl 0 (by decide) (hts (.fieldLink RX11 91 "HallTables$Text" "length" "I") (List.mem_of_getElem? (i := 2) rfl)) (fun _ h9 => h9) rfl dX11_back_22 ?_
      refine lv_iload_n hx hb dX11_back_25 rfl (lv_at hl 1 rfl) ?_
      refine lv_isub hx hb dX11_back_26 ?_
      refine tpI (v := (backV p0)) (backV_p c_1 c_2) ?_
      refine va_put (ci := 6) (v := .int (backV p0)) (ty := .int) (C := RX6) (T := TX6) (N := 12) hx hb hts in_X11_back_X6 tyX6 tyX6_ok nmX6 hown hK hP hD hS 1 rfl rfl 0 (by decide) (hts (.fieldLink RX11 91 "HallTables$Text" "length" "I") (List.mem_of_getElem? (i := 2) rfl)) (fun _ h9 => h9) rfl (by decide +kernel) rfl rfl (Nat.le_of_ble_eq_true rfl) dX11_back_27 (fun H locs hP hD hS => ?_)
      have hP : va_P D vwCl [(h0, .inr (11, fs)), (x0, .inr (6, [.int (backV p0), .int 0, .int 0, .int (-1), .int 0, .long 0, .ref xb, .ref xk, .ref xv, .ref xp, .ref xt, .ref xw]))] H := hP
      have hD : va_D A [(h0, .inr (11, fs)), (x0, .inr (6, [.int (backV p0), .int 0, .int 0, .int (-1), .int 0, .long 0, .ref xb, .ref xk, .ref xv, .ref xp, .ref xt, .ref xw]))] := hD
      refine lv_aload_n hx hb dX11_back_30 rfl (lv_at hl 0 rfl) ?_
      refine va_get (ci := 11) (v := .ref x0) (C := RX11) (T := TX11) (N := 11) hx hb hts in_X11_back_X11 hown hK hP 0 rfl rfl 1 (by decide) (hts (.fieldLink RX11 20 "HallTables" "text" "LHallTables$Text;") (List.mem_of_getElem? (i := 1) rfl)) (fun _ h9 => h9) e_x dX11_back_31 ?_
      refine va_get (ci := 6) (v := .int (backV p0)) (C := RX6) (T := TX6) (N := 12) hx hb hts in_X11_back_X6 hown hK hP 1 rfl rfl 0 (by decide) (hts (.fieldLink RX11 91 "HallTables$Text" "length" "I") (List.mem_of_getElem? (i := 2) rfl)) (fun _ h9 => h9) rfl dX11_back_34 ?_
      have hP := hP.sub (ws' := []) [] rfl
      have hD := hD.sub (ws' := []) [] (by decide +kernel) rfl
      exact endI hx hb hr hlocks [] rfl ⟨rfl, rfl⟩ hP hD hS (Nat.le_of_ble_eq_true rfl) (Nat.le_of_ble_eq_true rfl) dX11_back_37
    · refine lv_iconst (v := (-1)) hx hb dX11_back_15 (by decide) ?_
      have hP := hP.sub (ws' := []) [] rfl
      have hD := hD.sub (ws' := []) [] (by decide +kernel) rfl
      exact endI hx hb hr hlocks [] rfl ⟨(backV_b c_2), rfl⟩ hP hD hS (Nat.le_of_ble_eq_true rfl) (Nat.le_of_ble_eq_true rfl) dX11_back_16

theorem in_X11_place_X11 : ∀ w ∈ u_ws RX11 TX11 11, w ∈ wsX11_place := fun w h => (List.mem_cons_of_mem _ (List.mem_append_right _ h))
theorem in_X11_place_X6 : ∀ w ∈ u_ws RX6 TX6 12, w ∈ wsX11_place := fun w h => (List.mem_cons_of_mem _ (List.mem_append_left _ (List.mem_append_right _ h)))
set_option maxRecDepth 100000 in
set_option maxHeartbeats 4000000 in
/-- place on a new object: NONE -/
theorem c_X11_place (l : Launch) (D : va_G) (cy : Nat → ClassId) (h0 : Nat) (fs : List Value) (x0 : Nat) (xb : Nat) (xk : Nat) (xv : Nat) (xp : Nat) (xt : Nat) (xw : Nat) (e_x : fs[1]? = some (.ref x0)) : Cti l D cy yX11_place wsX11_place ({ frames := 0, cells := 0, slots := 0, locals := 0 } : Room) [.ref h0] [(h0, .inr (11, fs)), (x0, .inr (6, [.int 0, .int 0, .int 0, .int (-1), .int 0, .long 0, .ref xb, .ref xk, .ref xv, .ref xp, .ref xt, .ref xw]))] myT (fun (r : Int32) (w : va_W) => r = (-1) ∧ w = []) := by
  refine ofI (cc := cX11_place) (maxL := 1) (ret := (some .int)) (by decide) rfl (Nat.le_of_ble_eq_true rfl) ?_
  intro p e s m args below meth c A ls hx hb hr hts hown hlocks hml hin hK hP hD hS hA hX hl
  have hown : s.vm.findClass RX11 = some m.cls := hown
  have hl : lv_has ls 1 [(0, .ref h0)] := hl
  refine lv_aload_n hx hb dX11_place_0 rfl (lv_at hl 0 rfl) ?_
  refine va_get (ci := 11) (v := .ref x0) (C := RX11) (T := TX11) (N := 11) hx hb hts in_X11_place_X11 hown hK hP 0 rfl rfl 1 (by decide) (hts (.fieldLink RX11 20 "HallTables" "text" "LHallTables$Text;") (List.mem_of_getElem? (i := 1) rfl)) (fun _ h9 => h9) e_x dX11_place_1 ?_
  refine va_get (ci := 6) (v := .int (-1)) (C := RX6) (T := TX6) (N := 12) hx hb hts in_X11_place_X6 hown hK hP 1 rfl rfl 3 (by decide) (hts (.fieldLink RX11 126 "HallTables$Text" "faultPlace" "I") (List.mem_of_getElem? (i := 2) rfl)) (fun _ h9 => h9) rfl dX11_place_4 ?_
  have hP := hP.sub (ws' := []) [] rfl
  have hD := hD.sub (ws' := []) [] (by decide +kernel) rfl
  exact endI hx hb hr hlocks [] rfl ⟨rfl, rfl⟩ hP hD hS (Nat.le_of_ble_eq_true rfl) (Nat.le_of_ble_eq_true rfl) dX11_place_7

theorem in_X8_takeLast_X8 : ∀ w ∈ u_ws RX8 TX8 6, w ∈ wsX8_takeLast := fun w h => (List.mem_cons_of_mem _ (List.mem_append_right _ h))
set_option maxRecDepth 100000 in
set_option maxHeartbeats 4000000 in
/-- takeLast of none: NONE -/
theorem c_X8_takeLast (l : Launch) (D : va_G) (cy : Nat → ClassId) (k0 : Nat) (fk : List Value) (e_k0 : fk[0]? = some (.int 0)) : Cti l D cy yX8_takeLast wsX8_takeLast ({ frames := 0, cells := 0, slots := 0, locals := 0 } : Room) [.ref k0] [(k0, .inr (8, fk))] myT (fun (r : Int32) (w : va_W) => r = (-1) ∧ w = [(k0, .inr (8, fk))]) := by
  refine ofI (cc := cX8_takeLast) (maxL := 1) (ret := (some .int)) (by decide) rfl (Nat.le_of_ble_eq_true rfl) ?_
  intro p e s m args below meth c A ls hx hb hr hts hown hlocks hml hin hK hP hD hS hA hX hl
  have hown : s.vm.findClass RX8 = some m.cls := hown
  have hl : lv_has ls 1 [(0, .ref k0)] := hl
  refine lv_aload_n hx hb dX8_takeLast_0 rfl (lv_at hl 0 rfl) ?_
  refine va_get (ci := 8) (v := .int 0) (C := RX8) (T := TX8) (N := 6) hx hb hts in_X8_takeLast_X8 hown hK hP 0 rfl rfl 0 (by decide) (hts (.fieldLink RX8 24 "HallTables$Track" "count" "I") (List.mem_of_getElem? (i := 1) rfl)) (fun _ h9 => h9) e_k0 dX8_takeLast_1 ?_
  refine lv_if_ne (tgt := 9) hx hb dX8_takeLast_4 (by decide) (fun c9 => absurd (by decide) c9) (fun _ => ?_)
  refine lv_iconst (v := (-1)) hx hb dX8_takeLast_7 (by decide) ?_
  exact endI hx hb hr hlocks [(k0, .inr (8, fk))] rfl ⟨rfl, rfl⟩ hP hD hS (Nat.le_of_ble_eq_true rfl) (Nat.le_of_ble_eq_true rfl) dX8_takeLast_8

theorem in_X11_undo_X11 : ∀ w ∈ u_ws RX11 TX11 11, w ∈ wsX11_undo := fun w h => (List.mem_cons_of_mem _ (List.mem_append_right _ h))
set_option maxRecDepth 100000 in
set_option maxHeartbeats 4000000 in
/-- undo on a new object: false -/
theorem c_X11_undo (l : Launch) (D : va_G) (cy : Nat → ClassId) (h0 : Nat) (fs : List Value) (k0 : Nat) (fk : List Value) (e_k : fs[4]? = some (.ref k0)) (e_k0 : fk[0]? = some (.int 0)) : Cti l D cy yX11_undo wsX11_undo ({ frames := 1, cells := 0, slots := 0, locals := 20 } : Room) [.ref h0] [(h0, .inr (11, fs)), (k0, .inr (8, fk))] myT (fun (r : Int32) (w : va_W) => r = 0 ∧ w = []) := by
  refine ofI (cc := cX11_undo) (maxL := 2) (ret := (some .boolean)) (by decide) rfl (Nat.le_of_ble_eq_true rfl) ?_
  intro p e s m args below meth c A ls hx hb hr hts hown hlocks hml hin hK hP hD hS hA hX hl
  have hown : s.vm.findClass RX11 = some m.cls := hown
  have hl : lv_has ls 2 [(0, .ref h0)] := hl
  refine lv_aload_n hx hb dX11_undo_0 rfl (lv_at hl 0 rfl) ?_
  refine va_get (ci := 11) (v := .ref k0) (C := RX11) (T := TX11) (N := 11) hx hb hts in_X11_undo_X11 hown hK hP 0 rfl rfl 4 (by decide) (hts (.fieldLink RX11 35 "HallTables" "track" "LHallTables$Track;") (List.mem_of_getElem? (i := 1) rfl)) (fun _ h9 => h9) e_k dX11_undo_1 ?_
  refine cVi (As := []) (rest := []) (wr := [(h0, .inr (11, fs))]) ⟨hx, hb, hml, hown, hts⟩ (c_X8_takeLast l D cy k0 fk e_k0) (cwV 0 hts gX11_undo_X8_takeLast rfl rfl rfl (by decide +kernel) ⟨Nat.le_of_ble_eq_true rfl, Nat.le_of_ble_eq_true rfl⟩) hK hP hD hS hA [1] [0] ⟨rfl, rfl, by decide +kernel, by decide +kernel, by decide +kernel⟩ 0 8 rfl rfl myX_T rfl hl.1 rfl (Nat.le_of_ble_eq_true rfl) dX11_undo_4 ⟨Nat.le_of_ble_eq_true rfl, Nat.le_of_ble_eq_true rfl⟩ (fun r_1 w_2 H locs hw hP hD hS => ?_)
  obtain ⟨rfl, rfl⟩ := hw
  have hP : va_P D vwCl [(h0, .inr (11, fs)), (k0, .inr (8, fk))] H := hP
  have hD : va_D A [(h0, .inr (11, fs)), (k0, .inr (8, fk))] := hD
  refine lv_istore_n (lv' := [(1, .int (-1)), (0, .ref h0)]) hx hb dX11_undo_7 rfl hl (by decide) rfl (fun ls hl => ?_)
  refine lv_iload_n hx hb dX11_undo_8 rfl (lv_at hl 0 rfl) ?_
  refine lv_iconst (v := (-1)) hx hb dX11_undo_9 (by decide) ?_
  refine lv_icmp_ne (tgt := 15) hx hb dX11_undo_10 (by decide) (fun c9 => absurd (by decide) c9) (fun _ => ?_)
  refine lv_iconst (v := 0) hx hb dX11_undo_13 (by decide) ?_
  have hP := hP.sub (ws' := []) [] rfl
  have hD := hD.sub (ws' := []) [] (by decide +kernel) rfl
  exact endI hx hb hr hlocks [] rfl ⟨rfl, rfl⟩ hP hD hS (Nat.le_of_ble_eq_true rfl) (Nat.le_of_ble_eq_true rfl) dX11_undo_14

theorem in_X9_clear_X9 : ∀ w ∈ u_ws RX9 TX9 8, w ∈ wsX9_clear := fun w h => (List.mem_cons_of_mem _ (List.mem_append_right _ h))
set_option maxRecDepth 100000 in
set_option maxHeartbeats 4000000 in
/-- Visits.clear -/
theorem c_X9_clear (l : Launch) (D : va_G) (cy : Nat → ClassId) (v0 : Nat) (fv : List Value) (e_v0 : fv[0]? = some (.int 0)) : Ctv l D cy yX9_clear wsX9_clear ({ frames := 0, cells := 0, slots := 0, locals := 0 } : Room) [.ref v0] [(v0, .inr (9, fv))] myT (fun (w : va_W) => w = [(v0, .inr (9, (fv.set 0 (.int 0))))]) := by
  refine ofV (cc := cX9_clear) (maxL := 1) (ret := none) (by decide) rfl (Nat.le_of_ble_eq_true rfl) ?_
  intro p e s m args below meth c A ls hx hb hr hts hown hlocks hml hin hK hP hD hS hA hX hl
  have hown : s.vm.findClass RX9 = some m.cls := hown
  have hl : lv_has ls 1 [(0, .ref v0)] := hl
  refine lv_aload_n hx hb dX9_clear_0 rfl (lv_at hl 0 rfl) ?_
  refine lv_iconst (v := 0) hx hb dX9_clear_1 (by decide) ?_
  refine va_put (ci := 9) (v := .int 0) (ty := .int) (C := RX9) (T := TX9) (N := 8) hx hb hts in_X9_clear_X9 tyX9 tyX9_ok nmX9 hown hK hP hD hS 0 rfl rfl 0 (by decide) (hts (.fieldLink RX9 31 "HallTables$Visits" "seen" "I") (List.mem_of_getElem? (i := 1) rfl)) (fun _ h9 => h9) rfl (by decide +kernel) rfl rfl (lt_of_at e_v0) dX9_clear_2 (fun H locs hP hD hS => ?_)
  have hP : va_P D vwCl [(v0, .inr (9, (fv.set 0 (.int 0))))] H := hP
  have hD : va_D A [(v0, .inr (9, (fv.set 0 (.int 0))))] := hD
  exact endV hx hb hr hlocks [(v0, .inr (9, (fv.set 0 (.int 0))))] rfl hP hD hS (Nat.le_of_ble_eq_true rfl) (Nat.le_of_ble_eq_true rfl) dX9_clear_5

theorem in_X11_forget_X11 : ∀ w ∈ u_ws RX11 TX11 11, w ∈ wsX11_forget := fun w h => (List.mem_cons_of_mem _ (List.mem_append_right _ h))
theorem in_X11_forget_X9 : ∀ w ∈ u_ws RX9 TX9 8, w ∈ wsX11_forget := fun w h => (List.mem_cons_of_mem _ (List.mem_append_left _ (List.mem_append_right _ h)))
set_option maxRecDepth 100000 in
set_option maxHeartbeats 4000000 in
/-- forget on a new object: 0 -/
theorem c_X11_forget (l : Launch) (D : va_G) (cy : Nat → ClassId) (h0 : Nat) (fs : List Value) (v0 : Nat) (fv : List Value) (e_v : fs[9]? = some (.ref v0)) (e_v0 : fv[0]? = some (.int 0)) : Cti l D cy yX11_forget wsX11_forget ({ frames := 1, cells := 0, slots := 0, locals := 20 } : Room) [.ref h0] [(h0, .inr (11, fs)), (v0, .inr (9, fv))] myT (fun (r : Int32) (w : va_W) => r = 0 ∧ w = []) := by
  refine ofI (cc := cX11_forget) (maxL := 2) (ret := (some .int)) (by decide) rfl (Nat.le_of_ble_eq_true rfl) ?_
  intro p e s m args below meth c A ls hx hb hr hts hown hlocks hml hin hK hP hD hS hA hX hl
  have hown : s.vm.findClass RX11 = some m.cls := hown
  have hl : lv_has ls 2 [(0, .ref h0)] := hl
  refine lv_aload_n hx hb dX11_forget_0 rfl (lv_at hl 0 rfl) ?_
  refine va_get (ci := 11) (v := .ref v0) (C := RX11) (T := TX11) (N := 11) hx hb hts in_X11_forget_X11 hown hK hP 0 rfl rfl 9 (by decide) (hts (.fieldLink RX11 70 "HallTables" "visits" "LHallTables$Visits;") (List.mem_of_getElem? (i := 1) rfl)) (fun _ h9 => h9) e_v dX11_forget_1 ?_
  refine va_get (ci := 9) (v := .int 0) (C := RX9) (T := TX9) (N := 8) hx hb hts in_X11_forget_X9 hown hK hP 1 rfl rfl 0 (by decide) (hts (.fieldLink RX11 301 "HallTables$Visits" "seen" "I") (List.mem_of_getElem? (i := 2) rfl)) (fun _ h9 => h9) e_v0 dX11_forget_4 ?_
  refine lv_istore_n (lv' := [(1, .int 0), (0, .ref h0)]) hx hb dX11_forget_7 rfl hl (by decide) rfl (fun ls hl => ?_)
  refine lv_aload_n hx hb dX11_forget_8 rfl (lv_at hl 1 rfl) ?_
  refine va_get (ci := 11) (v := .ref v0) (C := RX11) (T := TX11) (N := 11) hx hb hts in_X11_forget_X11 hown hK hP 0 rfl rfl 9 (by decide) (hts (.fieldLink RX11 70 "HallTables" "visits" "LHallTables$Visits;") (List.mem_of_getElem? (i := 1) rfl)) (fun _ h9 => h9) e_v dX11_forget_9 ?_
  refine cVv (As := []) (rest := []) (wr := [(h0, .inr (11, fs))]) ⟨hx, hb, hml, hown, hts⟩ (c_X9_clear l D cy v0 fv e_v0) (cwV 0 hts gX11_forget_X9_clear rfl rfl rfl (by decide +kernel) ⟨Nat.le_of_ble_eq_true rfl, Nat.le_of_ble_eq_true rfl⟩) hK hP hD hS hA [1] [0] ⟨rfl, rfl, by decide +kernel, by decide +kernel, by decide +kernel⟩ 0 9 rfl rfl myX_T rfl hl.1 rfl (Nat.le_of_ble_eq_true rfl) dX11_forget_12 ⟨Nat.le_of_ble_eq_true rfl, Nat.le_of_ble_eq_true rfl⟩ (fun w_1 H locs hw hP hD hS => ?_)
  obtain rfl := hw
  have hP : va_P D vwCl [(h0, .inr (11, fs)), (v0, .inr (9, (fv.set 0 (.int 0))))] H := hP
  have hD : va_D A [(h0, .inr (11, fs)), (v0, .inr (9, (fv.set 0 (.int 0))))] := hD
  refine lv_iload_n hx hb dX11_forget_15 rfl (lv_at hl 0 rfl) ?_
  have hP := hP.sub (ws' := []) [] rfl
  have hD := hD.sub (ws' := []) [] (by decide +kernel) rfl
  exact endI hx hb hr hlocks [] rfl ⟨rfl, rfl⟩ hP hD hS (Nat.le_of_ble_eq_true rfl) (Nat.le_of_ble_eq_true rfl) dX11_forget_16

theorem in_X9_isKnown_X9 : ∀ w ∈ u_ws RX9 TX9 8, w ∈ wsX9_isKnown := fun w h => (List.mem_cons_of_mem _ (List.mem_append_right _ h))
set_option maxRecDepth 100000 in
set_option maxHeartbeats 4000000 in
/-- isKnown(k): k = 0 -/
theorem c_X9_isKnown (l : Launch) (D : va_G) (cy : Nat → ClassId) (v0 : Nat) (fv : List Value) (p0 : Int32) (e_v0 : fv[0]? = some (.int 0)) : Cti l D cy yX9_isKnown wsX9_isKnown ({ frames := 0, cells := 0, slots := 0, locals := 0 } : Room) [.ref v0, .int p0] [(v0, .inr (9, fv))] myT (fun (r : Int32) (w : va_W) => r = inV p0 0 0 ∧ w = [(v0, .inr (9, fv))]) := by
  refine ofI (cc := cX9_isKnown) (maxL := 2) (ret := (some .boolean)) (by decide) rfl (Nat.le_of_ble_eq_true rfl) ?_
  intro p e s m args below meth c A ls hx hb hr hts hown hlocks hml hin hK hP hD hS hA hX hl
  have hown : s.vm.findClass RX9 = some m.cls := hown
  have hl : lv_has ls 2 [(0, .ref v0), (1, .int p0)] := hl
  refine lv_iload_n hx hb dX9_isKnown_0 rfl (lv_at hl 1 rfl) ?_
  refine lv_if_lt (tgt := 16) hx hb dX9_isKnown_1 (by decide) (fun c_1 => ?_) (fun c_1 => ?_)
  · refine lv_iconst (v := 0) hx hb dX9_isKnown_16 (by decide) ?_
    exact endI hx hb hr hlocks [(v0, .inr (9, fv))] rfl ⟨(inV_0a c_1), rfl⟩ hP hD hS (Nat.le_of_ble_eq_true rfl) (Nat.le_of_ble_eq_true rfl) dX9_isKnown_17
  · refine lv_iload_n hx hb dX9_isKnown_4 rfl (lv_at hl 1 rfl) ?_
    refine lv_aload_n hx hb dX9_isKnown_5 rfl (lv_at hl 0 rfl) ?_
    refine va_get (ci := 9) (v := .int 0) (C := RX9) (T := TX9) (N := 8) hx hb hts in_X9_isKnown_X9 hown hK hP 0 rfl rfl 0 (by decide) (hts (.fieldLink RX9 31 "HallTables$Visits" "seen" "I") (List.mem_of_getElem? (i := 1) rfl)) (fun _ h9 => h9) e_v0 dX9_isKnown_6 ?_
    refine lv_icmp_gt (tgt := 16) hx hb dX9_isKnown_9 (by decide) (fun c_2 => ?_) (fun c_2 => ?_)
    · refine lv_iconst (v := 0) hx hb dX9_isKnown_16 (by decide) ?_
      exact endI hx hb hr hlocks [(v0, .inr (9, fv))] rfl ⟨(inV_0b c_2), rfl⟩ hP hD hS (Nat.le_of_ble_eq_true rfl) (Nat.le_of_ble_eq_true rfl) dX9_isKnown_17
    · refine lv_iconst (v := 1) hx hb dX9_isKnown_12 (by decide) ?_
      refine lv_goto (tgt := 17) hx hb dX9_isKnown_13 (by decide) ?_
      exact endI hx hb hr hlocks [(v0, .inr (9, fv))] rfl ⟨(inV_1 c_1 c_2), rfl⟩ hP hD hS (Nat.le_of_ble_eq_true rfl) (Nat.le_of_ble_eq_true rfl) dX9_isKnown_17

theorem in_X9_know_X9 : ∀ w ∈ u_ws RX9 TX9 8, w ∈ wsX9_know := fun w h => (List.mem_cons_of_mem _ (List.mem_append_right _ h))
theorem in_X9_know_X7 : ∀ w ∈ u_ws RX7 TX7 18, w ∈ wsX9_know := fun w h => (List.mem_cons_of_mem _ (List.mem_append_left _ (List.mem_append_right _ h)))
set_option maxRecDepth 100000 in
set_option maxHeartbeats 4000000 in
/-- know(town, 0) of a town without men: 1, and parts is 1 -/
theorem c_X9_know (l : Launch) (D : va_G) (cy : Nat → ClassId) (v0 : Nat) (v1 : Nat) (v2 : Nat) (v3 : Nat) (v4 : Nat) (v6 : Nat) (v7 : Nat) (t0 : Nat) (ft : List Value) (fkn : Nat → Int32) (fwe : Nat → Int32) (e_isMan : ft[3]? = some (.int 0)) : Cti l D cy yX9_know wsX9_know ({ frames := 1, cells := 0, slots := 0, locals := 40 } : Room) [.ref v0, .ref t0, .int 0] [(v0, .inr (9, [.int 0, .ref v1, .ref v2, .ref v3, .ref v4, .int 0, .ref v6, .ref v7])), (t0, .inr (7, ft)), (v3, .inl (cy 0, 50, .inl fkn)), (v4, .inl (cy 0, 50, .inl fwe))] myT (fun (r : Int32) (w : va_W) => ∃ (fkn1 : Nat → Int32), ∃ (fwe1 : Nat → Int32), r = 1 ∧ w = [(v0, .inr (9, [.int 0, .ref v1, .ref v2, .ref v3, .ref v4, .int 1, .ref v6, .ref v7])), (t0, .inr (7, ft)), (v3, .inl (cy 0, 50, .inl fkn1)), (v4, .inl (cy 0, 50, .inl fwe1))]) := by
  refine ofI (cc := cX9_know) (maxL := 5) (ret := (some .boolean)) (by decide) rfl (Nat.le_of_ble_eq_true rfl) ?_
  intro p e s m args below meth c A ls hx hb hr hts hown hlocks hml hin hK hP hD hS hA hX hl
  have hown : s.vm.findClass RX9 = some m.cls := hown
  have hl : lv_has ls 5 [(0, .ref v0), (1, .ref t0), (2, .int 0)] := hl
  refine lv_aload_n hx hb dX9_know_0 rfl (lv_at hl 0 rfl) ?_
  refine va_get (ci := 9) (v := .ref v3) (C := RX9) (T := TX9) (N := 8) hx hb hts in_X9_know_X9 hown hK hP 0 rfl rfl 3 (by decide) (hts (.fieldLink RX9 18 "HallTables$Visits" "known" "[I") (List.mem_of_getElem? (i := 1) rfl)) (fun _ h9 => h9) rfl dX9_know_1 ?_
  refine lv_iconst (v := (-1)) hx hb dX9_know_4 (by decide) ?_
  refine cSv (As := [.ref v3, .int (-1)]) (rest := []) (wr := [(v0, .inr (9, [.int 0, .ref v1, .ref v2, .ref v3, .ref v4, .int 0, .ref v6, .ref v7])), (t0, .inr (7, ft)), (v4, .inl (cy 0, 50, .inl fwe))]) ⟨hx, hb, hml, hown, hts⟩ (c_fill l D cy v3 50 fkn (-1) (Nat.le_of_ble_eq_true rfl)) (va_cwS 2 hts gX9_know_J7_fill_53178 rfl rfl rfl (by decide +kernel) ⟨Nat.le_of_ble_eq_true rfl, Nat.le_of_ble_eq_true rfl⟩) hK hP hD hS hA [2] [0, 1, 3] ⟨rfl, rfl, by decide +kernel, by decide +kernel, by decide +kernel⟩ myX_T rfl hl.1 rfl (Nat.le_of_ble_eq_true rfl) dX9_know_5 ⟨Nat.le_of_ble_eq_true rfl, Nat.le_of_ble_eq_true rfl⟩ (fun w_1 H locs hw hP hD hS => ?_)
  obtain ⟨f_2, h_3, rfl⟩ := hw
  have hP : va_P D vwCl [(v0, .inr (9, [.int 0, .ref v1, .ref v2, .ref v3, .ref v4, .int 0, .ref v6, .ref v7])), (t0, .inr (7, ft)), (v4, .inl (cy 0, 50, .inl fwe)), (v3, .inl (cy 0, 50, .inl f_2))] H := hP
  have hD : va_D A [(v0, .inr (9, [.int 0, .ref v1, .ref v2, .ref v3, .ref v4, .int 0, .ref v6, .ref v7])), (t0, .inr (7, ft)), (v4, .inl (cy 0, 50, .inl fwe)), (v3, .inl (cy 0, 50, .inl f_2))] := hD
  refine lv_iconst (v := 0) hx hb dX9_know_8 (by decide) ?_
  refine lv_istore_n (lv' := [(3, .int 0), (0, .ref v0), (1, .ref t0), (2, .int 0)]) hx hb dX9_know_9 rfl hl (by decide) rfl (fun ls hl => ?_)
  refine lv_iload_n hx hb dX9_know_10 rfl (lv_at hl 0 rfl) ?_
  refine lv_iload_n hx hb dX9_know_11 rfl (lv_at hl 3 rfl) ?_
  refine lv_icmp_ge (tgt := 44) hx hb dX9_know_12 (by decide) (fun _ => ?_) (fun c9 => absurd (by decide) c9)
  refine lv_iconst (v := 0) hx hb dX9_know_44 (by decide) ?_
  refine lv_istore_n (lv' := [(3, .int 0), (0, .ref v0), (1, .ref t0), (2, .int 0)]) hx hb dX9_know_45 rfl hl (by decide) rfl (fun ls hl => ?_)
  refine lv_aload_n hx hb dX9_know_46 rfl (lv_at hl 1 rfl) ?_
  refine lv_iconst (v := 1) hx hb dX9_know_47 (by decide) ?_
  refine va_put (ci := 9) (v := .int 1) (ty := .int) (C := RX9) (T := TX9) (N := 8) hx hb hts in_X9_know_X9 tyX9 tyX9_ok nmX9 hown hK hP hD hS 0 rfl rfl 5 (by decide) (hts (.fieldLink RX9 47 "HallTables$Visits" "parts" "I") (List.mem_of_getElem? (i := 2) rfl)) (fun _ h9 => h9) rfl (by decide +kernel) rfl rfl (Nat.le_of_ble_eq_true rfl) dX9_know_48 (fun H locs hP hD hS => ?_)
  have hP : va_P D vwCl [(v0, .inr (9, [.int 0, .ref v1, .ref v2, .ref v3, .ref v4, .int 1, .ref v6, .ref v7])), (t0, .inr (7, ft)), (v4, .inl (cy 0, 50, .inl fwe)), (v3, .inl (cy 0, 50, .inl f_2))] H := hP
  have hD : va_D A [(v0, .inr (9, [.int 0, .ref v1, .ref v2, .ref v3, .ref v4, .int 1, .ref v6, .ref v7])), (t0, .inr (7, ft)), (v4, .inl (cy 0, 50, .inl fwe)), (v3, .inl (cy 0, 50, .inl f_2))] := hD
  refine lv_iconst (v := 0) hx hb dX9_know_51 (by decide) ?_
  refine lv_istore (lv' := [(4, .int 0), (3, .int 0), (0, .ref v0), (1, .ref t0), (2, .int 0)]) hx hb dX9_know_52 hl (by decide) rfl (fun ls hl => ?_)
  have lp_7 : ∀ (n_5 i_4 : Nat) (g_9 : Nat → Int32) (H : Heap) (locs : List Loc) (ls : Array Slot), i_4 + n_5 = 50 → va_P D vwCl [(v0, .inr (9, [.int 0, .ref v1, .ref v2, .ref v3, .ref v4, .int 1, .ref v6, .ref v7])), (t0, .inr (7, ft)), (v4, .inl (cy 0, 50, .inl g_9)), (v3, .inl (cy 0, 50, .inl f_2))] H → va_D A [(v0, .inr (9, [.int 0, .ref v1, .ref v2, .ref v3, .ref v4, .int 1, .ref v6, .ref v7])), (t0, .inr (7, ft)), (v4, .inl (cy 0, 50, .inl g_9)), (v3, .inl (cy 0, 50, .inl f_2))] → va_S A s.heap H locs → lv_has ls 5 [(4, .int (nI i_4)), (3, .int 0), (0, .ref v0), (1, .ref t0), (2, .int 0)] → W p l e ({ frames := 1, cells := 0, slots := 0, locals := 40 } : Room) s m args below meth c H locs 0 0 (MQ below (myQi D A (fun (r : Int32) (w : va_W) => ∃ (fkn1 : Nat → Int32), ∃ (fwe1 : Nat → Int32), r = 1 ∧ w = [(v0, .inr (9, [.int 0, .ref v1, .ref v2, .ref v3, .ref v4, .int 1, .ref v6, .ref v7])), (t0, .inr (7, ft)), (v3, .inl (cy 0, 50, .inl fkn1)), (v4, .inl (cy 0, 50, .inl fwe1))])) args s ({ frames := 1, cells := 0, slots := 0, locals := 40 } : Room).cells ({ frames := 1, cells := 0, slots := 0, locals := 40 } : Room).slots A) (F0 m 54 ls []) := by
    intro n_5
    induction n_5 with
    | zero =>
      intro i_4 g_9 H locs ls hi_8 hP hD hS hl
      obtain rfl : i_4 = 50 := by omega
      refine lv_iload hx hb dX9_know_54 (lv_at hl 0 rfl) ?_
      refine lv_aload_n hx hb dX9_know_56 rfl (lv_at hl 2 rfl) ?_
      refine va_get (ci := 9) (v := .ref v3) (C := RX9) (T := TX9) (N := 8) hx hb hts in_X9_know_X9 hown hK hP 0 rfl rfl 3 (by decide) (hts (.fieldLink RX9 18 "HallTables$Visits" "known" "[I") (List.mem_of_getElem? (i := 1) rfl)) (fun _ h9 => h9) rfl dX9_know_57 ?_
      refine aLen hx hb hK hP 3 0 rfl rfl dX9_know_60 ?_
      refine tpI (v := 50) rfl ?_
      refine lv_icmp_ge (tgt := 127) hx hb dX9_know_61 (by decide) (fun _ => ?_) (fun c9 => absurd (by decide) c9)
      refine lv_aload_n hx hb dX9_know_127 rfl (lv_at hl 2 rfl) ?_
      refine va_get (ci := 9) (v := .int 1) (C := RX9) (T := TX9) (N := 8) hx hb hts in_X9_know_X9 hown hK hP 0 rfl rfl 5 (by decide) (hts (.fieldLink RX9 47 "HallTables$Visits" "parts" "I") (List.mem_of_getElem? (i := 2) rfl)) (fun _ h9 => h9) rfl dX9_know_128 ?_
      refine lv_bipush (v := 64) hx hb dX9_know_131 (by decide) ?_
      refine lv_icmp_gt (tgt := 140) hx hb dX9_know_133 (by decide) (fun c9 => absurd c9 (by decide)) (fun _ => ?_)
      refine lv_iconst (v := 1) hx hb dX9_know_136 (by decide) ?_
      refine lv_goto (tgt := 141) hx hb dX9_know_137 (by decide) ?_
      have hP := hP.sub (ws' := [(v0, .inr (9, [.int 0, .ref v1, .ref v2, .ref v3, .ref v4, .int 1, .ref v6, .ref v7])), (t0, .inr (7, ft)), (v3, .inl (cy 0, 50, .inl f_2)), (v4, .inl (cy 0, 50, .inl g_9))]) [0, 1, 3, 2] rfl
      have hD := hD.sub (ws' := [(v0, .inr (9, [.int 0, .ref v1, .ref v2, .ref v3, .ref v4, .int 1, .ref v6, .ref v7])), (t0, .inr (7, ft)), (v3, .inl (cy 0, 50, .inl f_2)), (v4, .inl (cy 0, 50, .inl g_9))]) [0, 1, 3, 2] (by decide +kernel) rfl
      exact endI hx hb hr hlocks [(v0, .inr (9, [.int 0, .ref v1, .ref v2, .ref v3, .ref v4, .int 1, .ref v6, .ref v7])), (t0, .inr (7, ft)), (v3, .inl (cy 0, 50, .inl f_2)), (v4, .inl (cy 0, 50, .inl g_9))] rfl ⟨f_2, g_9, rfl, rfl⟩ hP hD hS (Nat.le_of_ble_eq_true rfl) (Nat.le_of_ble_eq_true rfl) dX9_know_141
    | succ n_5 ih_6 =>
      intro i_4 g_9 H locs ls hi_8 hP hD hS hl
      refine lv_iload hx hb dX9_know_54 (lv_at hl 0 rfl) ?_
      refine lv_aload_n hx hb dX9_know_56 rfl (lv_at hl 2 rfl) ?_
      refine va_get (ci := 9) (v := .ref v3) (C := RX9) (T := TX9) (N := 8) hx hb hts in_X9_know_X9 hown hK hP 0 rfl rfl 3 (by decide) (hts (.fieldLink RX9 18 "HallTables$Visits" "known" "[I") (List.mem_of_getElem? (i := 1) rfl)) (fun _ h9 => h9) rfl dX9_know_57 ?_
      refine aLen hx hb hK hP 3 0 rfl rfl dX9_know_60 ?_
      refine tpI (v := 50) rfl ?_
      refine lv_icmp_ge (tgt := 127) hx hb dX9_know_61 (by decide) (fun c9 => absurd c9 (nI_ge (a := i_4) (b := 50) (by omega) (Nat.le_of_ble_eq_true rfl))) (fun _ => ?_)
      refine lv_iload_n hx hb dX9_know_64 rfl (lv_at hl 1 rfl) ?_
      refine lv_aload_n hx hb dX9_know_65 rfl (lv_at hl 2 rfl) ?_
      refine va_get (ci := 9) (v := .ref v3) (C := RX9) (T := TX9) (N := 8) hx hb hts in_X9_know_X9 hown hK hP 0 rfl rfl 3 (by decide) (hts (.fieldLink RX9 18 "HallTables$Visits" "known" "[I") (List.mem_of_getElem? (i := 1) rfl)) (fun _ h9 => h9) rfl dX9_know_66 ?_
      refine lv_iload hx hb dX9_know_69 (lv_at hl 0 rfl) ?_
      refine aI hx hb hK hP 3 rfl i_4 rfl (by omega) (Nat.le_of_ble_eq_true rfl) dX9_know_71 ?_
      refine tpI (v := (-1)) (h_3 i_4 (by omega)) ?_
      refine lv_iconst (v := 0) hx hb dX9_know_72 (by decide) ?_
      refine va_mmax hx hb (by rw [hml]; exact hl.1.symm) hown (hts (.methodLink RX9 50 Lib.Math.max.name) (List.mem_of_getElem? (i := 3) rfl)) (hts (.static Lib.Math.max.name) (List.mem_of_getElem? (i := 4) rfl)) (hts (.initialized "java/lang/Math") (List.mem_of_getElem? (i := 5) rfl)) (hts (.code Lib.Math.max.name Lib.Math.max.code 2 (some .int)) (List.mem_of_getElem? (i := 6) rfl)) (Nat.le_of_ble_eq_true rfl) (Nat.le_of_ble_eq_true rfl) (Nat.le_of_ble_eq_true rfl) (Nat.le_of_ble_eq_true rfl) dX9_know_73 ?_
      refine tpI (v := 0) (by decide) ?_
      refine lv_iadd hx hb dX9_know_76 ?_
      refine tpI (v := 0) (by decide) ?_
      refine lv_istore_n (lv' := [(3, .int 0), (4, .int (nI i_4)), (0, .ref v0), (1, .ref t0), (2, .int 0)]) hx hb dX9_know_77 rfl hl (by decide) rfl (fun ls hl => ?_)
      refine lv_iload_n hx hb dX9_know_78 rfl (lv_at hl 0 rfl) ?_
      refine lv_aload_n hx hb dX9_know_79 rfl (lv_at hl 3 rfl) ?_
      refine va_get (ci := 7) (v := .int 0) (C := RX7) (T := TX7) (N := 18) hx hb hts in_X9_know_X7 hown hK hP 1 rfl rfl 3 (by decide) (hts (.fieldLink RX9 55 "HallTables$Town" "men" "I") (List.mem_of_getElem? (i := 7) rfl)) (fun _ h9 => h9) e_isMan dX9_know_80 ?_
      refine lv_icmp_le (tgt := 88) hx hb dX9_know_83 (by decide) (fun _ => ?_) (fun c9 => absurd (by decide) c9)
      refine lv_aload_n hx hb dX9_know_88 rfl (lv_at hl 2 rfl) ?_
      refine va_get (ci := 9) (v := .ref v4) (C := RX9) (T := TX9) (N := 8) hx hb hts in_X9_know_X9 hown hK hP 0 rfl rfl 4 (by decide) (hts (.fieldLink RX9 21 "HallTables$Visits" "weight" "[I") (List.mem_of_getElem? (i := 8) rfl)) (fun _ h9 => h9) rfl dX9_know_89 ?_
      refine lv_iload hx hb dX9_know_92 (lv_at hl 1 rfl) ?_
      refine lv_aload_n hx hb dX9_know_94 rfl (lv_at hl 2 rfl) ?_
      refine va_get (ci := 9) (v := .int 1) (C := RX9) (T := TX9) (N := 8) hx hb hts in_X9_know_X9 hown hK hP 0 rfl rfl 5 (by decide) (hts (.fieldLink RX9 47 "HallTables$Visits" "parts" "I") (List.mem_of_getElem? (i := 2) rfl)) (fun _ h9 => h9) rfl dX9_know_95 ?_
      refine sI hx hb hK hP hD hS 2 rfl i_4 rfl (by omega) (Nat.le_of_ble_eq_true rfl) dX9_know_98 (fun H locs hP hD hS => ?_)
      have hP : va_P D vwCl [(v0, .inr (9, [.int 0, .ref v1, .ref v2, .ref v3, .ref v4, .int 1, .ref v6, .ref v7])), (t0, .inr (7, ft)), (v4, .inl (cy 0, 50, .inl (upd g_9 i_4 1))), (v3, .inl (cy 0, 50, .inl f_2))] H := hP
      have hD : va_D A [(v0, .inr (9, [.int 0, .ref v1, .ref v2, .ref v3, .ref v4, .int 1, .ref v6, .ref v7])), (t0, .inr (7, ft)), (v4, .inl (cy 0, 50, .inl (upd g_9 i_4 1))), (v3, .inl (cy 0, 50, .inl f_2))] := hD
      obtain ⟨f_10, ef_10⟩ : ∃ z, z = upd g_9 i_4 1 := ⟨_, rfl⟩
      rw [← ef_10] at hP hD
      refine lv_aload_n hx hb dX9_know_99 rfl (lv_at hl 2 rfl) ?_
      refine lv_dup hx hb dX9_know_100 rfl ?_
      refine va_get (ci := 9) (v := .int 1) (C := RX9) (T := TX9) (N := 8) hx hb hts in_X9_know_X9 hown hK hP 0 rfl rfl 5 (by decide) (hts (.fieldLink RX9 47 "HallTables$Visits" "parts" "I") (List.mem_of_getElem? (i := 2) rfl)) (fun _ h9 => h9) rfl dX9_know_101 ?_
      refine lv_aload_n hx hb dX9_know_104 rfl (lv_at hl 2 rfl) ?_
      refine va_get (ci := 9) (v := .ref v3) (C := RX9) (T := TX9) (N := 8) hx hb hts in_X9_know_X9 hown hK hP 0 rfl rfl 3 (by decide) (hts (.fieldLink RX9 18 "HallTables$Visits" "known" "[I") (List.mem_of_getElem? (i := 1) rfl)) (fun _ h9 => h9) rfl dX9_know_105 ?_
      refine lv_iload hx hb dX9_know_108 (lv_at hl 1 rfl) ?_
      refine aI hx hb hK hP 3 rfl i_4 rfl (by omega) (Nat.le_of_ble_eq_true rfl) dX9_know_110 ?_
      refine tpI (v := (-1)) (h_3 i_4 (by omega)) ?_
      refine lv_iconst (v := 0) hx hb dX9_know_111 (by decide) ?_
      refine va_mmax hx hb (by rw [hml]; exact hl.1.symm) hown (hts (.methodLink RX9 50 Lib.Math.max.name) (List.mem_of_getElem? (i := 3) rfl)) (hts (.static Lib.Math.max.name) (List.mem_of_getElem? (i := 4) rfl)) (hts (.initialized "java/lang/Math") (List.mem_of_getElem? (i := 5) rfl)) (hts (.code Lib.Math.max.name Lib.Math.max.code 2 (some .int)) (List.mem_of_getElem? (i := 6) rfl)) (Nat.le_of_ble_eq_true rfl) (Nat.le_of_ble_eq_true rfl) (Nat.le_of_ble_eq_true rfl) (Nat.le_of_ble_eq_true rfl) dX9_know_112 ?_
      refine tpI (v := 0) (by decide) ?_
      refine lv_iconst (v := 1) hx hb dX9_know_115 (by decide) ?_
      refine lv_iadd hx hb dX9_know_116 ?_
      refine tpI (v := 1) (by decide) ?_
      refine lv_imul hx hb dX9_know_117 ?_
      refine tpI (v := 1) (by decide) ?_
      refine va_put (ci := 9) (v := .int 1) (ty := .int) (C := RX9) (T := TX9) (N := 8) hx hb hts in_X9_know_X9 tyX9 tyX9_ok nmX9 hown hK hP hD hS 0 rfl rfl 5 (by decide) (hts (.fieldLink RX9 47 "HallTables$Visits" "parts" "I") (List.mem_of_getElem? (i := 2) rfl)) (fun _ h9 => h9) rfl (by decide +kernel) rfl rfl (Nat.le_of_ble_eq_true rfl) dX9_know_118 (fun H locs hP hD hS => ?_)
      have hP : va_P D vwCl [(v0, .inr (9, [.int 0, .ref v1, .ref v2, .ref v3, .ref v4, .int 1, .ref v6, .ref v7])), (t0, .inr (7, ft)), (v4, .inl (cy 0, 50, .inl f_10)), (v3, .inl (cy 0, 50, .inl f_2))] H := hP
      have hD : va_D A [(v0, .inr (9, [.int 0, .ref v1, .ref v2, .ref v3, .ref v4, .int 1, .ref v6, .ref v7])), (t0, .inr (7, ft)), (v4, .inl (cy 0, 50, .inl f_10)), (v3, .inl (cy 0, 50, .inl f_2))] := hD
      refine lv_iinc (v := nI (i_4 + 1)) (lv' := [(4, .int (nI (i_4 + 1))), (3, .int 0), (0, .ref v0), (1, .ref t0), (2, .int 0)]) hx hb dX9_know_121 hl (k := 1) rfl (nI_1 i_4) (by decide) rfl (fun ls hl => ?_)
      refine lv_goto (tgt := 54) hx hb dX9_know_124 (by decide) ?_
      exact ih_6 (i_4 + 1) f_10 H locs ls (by omega) hP hD hS (lv_sub hl [0, 1, 2, 3, 4] rfl)
  exact lp_7 50 0 fwe _ _ _ (by omega) hP hD hS hl

theorem in_X9_ways_X9 : ∀ w ∈ u_ws RX9 TX9 8, w ∈ wsX9_ways := fun w h => (List.mem_cons_of_mem _ (List.mem_append_right _ h))
theorem in_X9_ways_X7 : ∀ w ∈ u_ws RX7 TX7 18, w ∈ wsX9_ways := fun w h => (List.mem_cons_of_mem _ (List.mem_append_left _ (List.mem_append_right _ h)))
set_option maxRecDepth 100000 in
set_option maxHeartbeats 4000000 in
/-- ways of a town without men: 1 -/
theorem c_X9_ways (l : Launch) (D : va_G) (cy : Nat → ClassId) (v0 : Nat) (v1 : Nat) (v2 : Nat) (v3 : Nat) (v4 : Nat) (v6 : Nat) (v7 : Nat) (t0 : Nat) (ft : List Value) (fhe : Nat → Int64) (e_isMan : ft[3]? = some (.int 0)) : Ctl l D cy yX9_ways wsX9_ways ({ frames := 1, cells := 0, slots := 0, locals := 24 } : Room) [.ref v0, .ref t0, .int (-1), .int (-1)] [(v0, .inr (9, [.int 0, .ref v1, .ref v2, .ref v3, .ref v4, .int 1, .ref v6, .ref v7])), (t0, .inr (7, ft)), (v6, .inl (cy 1, 64, .inr (.inl fhe)))] myT (fun (r : Int64) (w : va_W) => r = 1 ∧ w = []) := by
  refine ofL (cc := cX9_ways) (maxL := 6) (ret := (some .long)) (by decide) rfl (Nat.le_of_ble_eq_true rfl) ?_
  intro p e s m args below meth c A ls hx hb hr hts hown hlocks hml hin hK hP hD hS hA hX hl
  have hown : s.vm.findClass RX9 = some m.cls := hown
  have hl : lv_has ls 6 [(0, .ref v0), (1, .ref t0), (2, .int (-1)), (3, .int (-1))] := hl
  refine lv_aload_n hx hb dX9_ways_0 rfl (lv_at hl 0 rfl) ?_
  refine va_get (ci := 9) (v := .ref v6) (C := RX9) (T := TX9) (N := 8) hx hb hts in_X9_ways_X9 hown hK hP 0 rfl rfl 6 (by decide) (hts (.fieldLink RX9 24 "HallTables$Visits" "here" "[J") (List.mem_of_getElem? (i := 1) rfl)) (fun _ h9 => h9) rfl dX9_ways_1 ?_
  refine lv_lconst (v := 0) hx hb dX9_ways_4 (by decide) ?_
  refine cSv (As := [.ref v6, .long 0]) (rest := []) (wr := [(v0, .inr (9, [.int 0, .ref v1, .ref v2, .ref v3, .ref v4, .int 1, .ref v6, .ref v7])), (t0, .inr (7, ft))]) ⟨hx, hb, hml, hown, hts⟩ (c_fillL l D cy v6 64 fhe 0 (Nat.le_of_ble_eq_true rfl)) (va_cwS 2 hts gX9_ways_J7_fill_d0a16 rfl rfl rfl (by decide +kernel) ⟨Nat.le_of_ble_eq_true rfl, Nat.le_of_ble_eq_true rfl⟩) hK hP hD hS hA [2] [0, 1] ⟨rfl, rfl, by decide +kernel, by decide +kernel, by decide +kernel⟩ myX_T rfl hl.1 rfl (Nat.le_of_ble_eq_true rfl) dX9_ways_5 ⟨Nat.le_of_ble_eq_true rfl, Nat.le_of_ble_eq_true rfl⟩ (fun w_1 H locs hw hP hD hS => ?_)
  obtain ⟨f_2, rfl⟩ := hw
  have hP : va_P D vwCl [(v0, .inr (9, [.int 0, .ref v1, .ref v2, .ref v3, .ref v4, .int 1, .ref v6, .ref v7])), (t0, .inr (7, ft)), (v6, .inl (cy 1, 64, .inr (.inl f_2)))] H := hP
  have hD : va_D A [(v0, .inr (9, [.int 0, .ref v1, .ref v2, .ref v3, .ref v4, .int 1, .ref v6, .ref v7])), (t0, .inr (7, ft)), (v6, .inl (cy 1, 64, .inr (.inl f_2)))] := hD
  refine lv_aload_n hx hb dX9_ways_8 rfl (lv_at hl 0 rfl) ?_
  refine va_get (ci := 9) (v := .ref v6) (C := RX9) (T := TX9) (N := 8) hx hb hts in_X9_ways_X9 hown hK hP 0 rfl rfl 6 (by decide) (hts (.fieldLink RX9 24 "HallTables$Visits" "here" "[J") (List.mem_of_getElem? (i := 1) rfl)) (fun _ h9 => h9) rfl dX9_ways_9 ?_
  refine lv_iconst (v := 0) hx hb dX9_ways_12 (by decide) ?_
  refine lv_lconst (v := 1) hx hb dX9_ways_13 (by decide) ?_
  refine sJ hx hb hK hP hD hS 2 rfl 0 rfl (Nat.le_of_ble_eq_true rfl) (Nat.le_of_ble_eq_true rfl) dX9_ways_14 (fun H locs hP hD hS => ?_)
  have hP : va_P D vwCl [(v0, .inr (9, [.int 0, .ref v1, .ref v2, .ref v3, .ref v4, .int 1, .ref v6, .ref v7])), (t0, .inr (7, ft)), (v6, .inl (cy 1, 64, .inr (.inl (vp_updL f_2 0 1))))] H := hP
  have hD : va_D A [(v0, .inr (9, [.int 0, .ref v1, .ref v2, .ref v3, .ref v4, .int 1, .ref v6, .ref v7])), (t0, .inr (7, ft)), (v6, .inl (cy 1, 64, .inr (.inl (vp_updL f_2 0 1))))] := hD
  refine lv_iconst (v := 0) hx hb dX9_ways_15 (by decide) ?_
  refine lv_istore (lv' := [(4, .int 0), (0, .ref v0), (1, .ref t0), (2, .int (-1)), (3, .int (-1))]) hx hb dX9_ways_16 hl (by decide) rfl (fun ls hl => ?_)
  refine lv_iload hx hb dX9_ways_18 (lv_at hl 0 rfl) ?_
  refine lv_aload_n hx hb dX9_ways_20 rfl (lv_at hl 2 rfl) ?_
  refine va_get (ci := 7) (v := .int 0) (C := RX7) (T := TX7) (N := 18) hx hb hts in_X9_ways_X7 hown hK hP 1 rfl rfl 3 (by decide) (hts (.fieldLink RX9 55 "HallTables$Town" "men" "I") (List.mem_of_getElem? (i := 2) rfl)) (fun _ h9 => h9) e_isMan dX9_ways_21 ?_
  refine lv_icmp_ge (tgt := 145) hx hb dX9_ways_24 (by decide) (fun _ => ?_) (fun c9 => absurd (by decide) c9)
  refine lv_aload_n hx hb dX9_ways_145 rfl (lv_at hl 1 rfl) ?_
  refine va_get (ci := 9) (v := .ref v6) (C := RX9) (T := TX9) (N := 8) hx hb hts in_X9_ways_X9 hown hK hP 0 rfl rfl 6 (by decide) (hts (.fieldLink RX9 24 "HallTables$Visits" "here" "[J") (List.mem_of_getElem? (i := 1) rfl)) (fun _ h9 => h9) rfl dX9_ways_146 ?_
  refine lv_aload_n hx hb dX9_ways_149 rfl (lv_at hl 1 rfl) ?_
  refine va_get (ci := 9) (v := .int 1) (C := RX9) (T := TX9) (N := 8) hx hb hts in_X9_ways_X9 hown hK hP 0 rfl rfl 5 (by decide) (hts (.fieldLink RX9 47 "HallTables$Visits" "parts" "I") (List.mem_of_getElem? (i := 3) rfl)) (fun _ h9 => h9) rfl dX9_ways_150 ?_
  refine lv_iconst (v := 1) hx hb dX9_ways_153 (by decide) ?_
  refine lv_isub hx hb dX9_ways_154 ?_
  refine tpI (v := 0) (by decide) ?_
  refine aJ hx hb hK hP 2 rfl 0 rfl (Nat.le_of_ble_eq_true rfl) (Nat.le_of_ble_eq_true rfl) dX9_ways_155 ?_
  refine tpL (v := 1) pk_uLs ?_
  have hP := hP.sub (ws' := []) [] rfl
  have hD := hD.sub (ws' := []) [] (by decide +kernel) rfl
  exact endL hx hb hr hlocks [] ⟨rfl, rfl⟩ hP hD hS (Nat.le_of_ble_eq_true rfl) (Nat.le_of_ble_eq_true rfl) dX9_ways_156
