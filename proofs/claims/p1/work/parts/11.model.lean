theorem in_X12_put_X12 : ∀ w ∈ u_ws RX12 TX12 90, w ∈ wsX12_put := fun w h => (List.mem_cons_of_mem _ (List.mem_append_right _ h))
set_option maxRecDepth 100000 in
set_option maxHeartbeats 4000000 in
/-- put at 0 -/
theorem c_X12_put_0 (l : Launch) (D : va_G) (cy : Nat → ClassId) (m0 : Nat) (fm : List Value) (ata : Nat) (gta : Nat → Int32) (p0 : Int32) (e_m1 : fm[1]? = some (.ref ata)) (e_m2 : fm[2]? = some (.int 0)) : Ctv l D cy yX12_put wsX12_put ({ frames := 0, cells := 0, slots := 0, locals := 0 } : Room) [.ref m0, .int p0] [(m0, .inr (12, fm)), (ata, .inl (cy 2, 2000, .inl gta))] myT (fun (w : va_W) => ∃ (gta1 : Nat → Int32), w = [(m0, .inr (12, ((((fm.set 2 (.int 1)).set 2 (.int 2)).set 2 (.int 3)).set 2 (.int 4)))), (ata, .inl (cy 2, 2000, .inl gta1))]) := by
  refine ofV (cc := cX12_put) (maxL := 3) (ret := none) (by decide) rfl (Nat.le_of_ble_eq_true rfl) ?_
  intro p e s m args below meth c A ls hx hb hr hts hown hlocks hml hin hK hP hD hS hA hX hl
  have hown : s.vm.findClass RX12 = some m.cls := hown
  have hl : lv_has ls 3 [(0, .ref m0), (1, .int p0)] := hl
  refine lv_bipush (v := 24) hx hb dX12_put_0 (by decide) ?_
  refine lv_istore_n (lv' := [(2, .int 24), (0, .ref m0), (1, .int p0)]) hx hb dX12_put_2 rfl hl (by decide) rfl (fun ls hl => ?_)
  refine lv_iload_n hx hb dX12_put_3 rfl (lv_at hl 0 rfl) ?_
  refine lv_if_lt (tgt := 36) hx hb dX12_put_4 (by decide) (fun c9 => absurd c9 (by decide)) (fun _ => ?_)
  refine lv_aload_n hx hb dX12_put_7 rfl (lv_at hl 1 rfl) ?_
  refine va_get (ci := 12) (v := .ref ata) (C := RX12) (T := TX12) (N := 90) hx hb hts in_X12_put_X12 hown hK hP 0 rfl rfl 1 (by decide) (hts (.fieldLink RX12 13 "HallTablesModel" "tape" "[B") (List.mem_of_getElem? (i := 1) rfl)) (fun _ h9 => h9) e_m1 dX12_put_8 ?_
  refine lv_aload_n hx hb dX12_put_11 rfl (lv_at hl 1 rfl) ?_
  refine va_get (ci := 12) (v := .int 0) (C := RX12) (T := TX12) (N := 90) hx hb hts in_X12_put_X12 hown hK hP 0 rfl rfl 2 (by decide) (hts (.fieldLink RX12 202 "HallTablesModel" "taped" "I") (List.mem_of_getElem? (i := 2) rfl)) (fun _ h9 => h9) e_m2 dX12_put_12 ?_
  refine lv_iload_n hx hb dX12_put_15 rfl (lv_at hl 2 rfl) ?_
  refine lv_iload_n hx hb dX12_put_16 rfl (lv_at hl 0 rfl) ?_
  refine lv_ishr hx hb dX12_put_17 ?_
  refine lv_topi (fun v_1 ev_1 => ?_)
  refine lv_i2b hx hb dX12_put_18 rfl ?_
  refine lv_topi (fun v_2 ev_2 => ?_)
  refine sB hx hb hK hP hD hS 1 rfl 0 rfl (Nat.le_of_ble_eq_true rfl) (Nat.le_of_ble_eq_true rfl) dX12_put_19 (fun H locs hP hD hS => ?_)
  have hP : va_P D vwCl [(m0, .inr (12, fm)), (ata, .inl (cy 2, 2000, .inl (upd gta 0 (vp_nar .byte v_2))))] H := hP
  have hD : va_D A [(m0, .inr (12, fm)), (ata, .inl (cy 2, 2000, .inl (upd gta 0 (vp_nar .byte v_2))))] := hD
  obtain ⟨f_3, ef_3⟩ : ∃ z, z = upd gta 0 (vp_nar .byte v_2) := ⟨_, rfl⟩
  rw [← ef_3] at hP hD
  refine lv_aload_n hx hb dX12_put_20 rfl (lv_at hl 1 rfl) ?_
  refine lv_dup hx hb dX12_put_21 rfl ?_
  refine va_get (ci := 12) (v := .int 0) (C := RX12) (T := TX12) (N := 90) hx hb hts in_X12_put_X12 hown hK hP 0 rfl rfl 2 (by decide) (hts (.fieldLink RX12 202 "HallTablesModel" "taped" "I") (List.mem_of_getElem? (i := 2) rfl)) (fun _ h9 => h9) e_m2 dX12_put_22 ?_
  refine lv_iconst (v := 1) hx hb dX12_put_25 (by decide) ?_
  refine lv_iadd hx hb dX12_put_26 ?_
  refine tpI (v := 1) (by decide) ?_
  refine va_put (ci := 12) (v := .int 1) (ty := .int) (C := RX12) (T := TX12) (N := 90) hx hb hts in_X12_put_X12 tyX12 tyX12_ok nmX12 hown hK hP hD hS 0 rfl rfl 2 (by decide) (hts (.fieldLink RX12 202 "HallTablesModel" "taped" "I") (List.mem_of_getElem? (i := 2) rfl)) (fun _ h9 => h9) rfl (by decide +kernel) rfl rfl (lt_of_at e_m2) dX12_put_27 (fun H locs hP hD hS => ?_)
  have hP : va_P D vwCl [(m0, .inr (12, (fm.set 2 (.int 1)))), (ata, .inl (cy 2, 2000, .inl f_3))] H := hP
  have hD : va_D A [(m0, .inr (12, (fm.set 2 (.int 1)))), (ata, .inl (cy 2, 2000, .inl f_3))] := hD
  refine lv_iinc (v := 16) (lv' := [(2, .int 16), (0, .ref m0), (1, .int p0)]) hx hb dX12_put_30 hl (k := 0) rfl (by decide) (by decide) rfl (fun ls hl => ?_)
  refine lv_goto (tgt := 3) hx hb dX12_put_33 (by decide) ?_
  refine lv_iload_n hx hb dX12_put_3 rfl (lv_at hl 0 rfl) ?_
  refine lv_if_lt (tgt := 36) hx hb dX12_put_4 (by decide) (fun c9 => absurd c9 (by decide)) (fun _ => ?_)
  refine lv_aload_n hx hb dX12_put_7 rfl (lv_at hl 1 rfl) ?_
  refine va_get (ci := 12) (v := .ref ata) (C := RX12) (T := TX12) (N := 90) hx hb hts in_X12_put_X12 hown hK hP 0 rfl rfl 1 (by decide) (hts (.fieldLink RX12 13 "HallTablesModel" "tape" "[B") (List.mem_of_getElem? (i := 1) rfl)) (fun _ h9 => h9) (setk e_m1 (by decide)) dX12_put_8 ?_
  refine lv_aload_n hx hb dX12_put_11 rfl (lv_at hl 1 rfl) ?_
  refine va_get (ci := 12) (v := .int 1) (C := RX12) (T := TX12) (N := 90) hx hb hts in_X12_put_X12 hown hK hP 0 rfl rfl 2 (by decide) (hts (.fieldLink RX12 202 "HallTablesModel" "taped" "I") (List.mem_of_getElem? (i := 2) rfl)) (fun _ h9 => h9) (setk_same e_m2) dX12_put_12 ?_
  refine lv_iload_n hx hb dX12_put_15 rfl (lv_at hl 2 rfl) ?_
  refine lv_iload_n hx hb dX12_put_16 rfl (lv_at hl 0 rfl) ?_
  refine lv_ishr hx hb dX12_put_17 ?_
  refine lv_topi (fun v_4 ev_4 => ?_)
  refine lv_i2b hx hb dX12_put_18 rfl ?_
  refine lv_topi (fun v_5 ev_5 => ?_)
  refine sB hx hb hK hP hD hS 1 rfl 1 rfl (Nat.le_of_ble_eq_true rfl) (Nat.le_of_ble_eq_true rfl) dX12_put_19 (fun H locs hP hD hS => ?_)
  have hP : va_P D vwCl [(m0, .inr (12, (fm.set 2 (.int 1)))), (ata, .inl (cy 2, 2000, .inl (upd f_3 1 (vp_nar .byte v_5))))] H := hP
  have hD : va_D A [(m0, .inr (12, (fm.set 2 (.int 1)))), (ata, .inl (cy 2, 2000, .inl (upd f_3 1 (vp_nar .byte v_5))))] := hD
  obtain ⟨f_6, ef_6⟩ : ∃ z, z = upd f_3 1 (vp_nar .byte v_5) := ⟨_, rfl⟩
  rw [← ef_6] at hP hD
  refine lv_aload_n hx hb dX12_put_20 rfl (lv_at hl 1 rfl) ?_
  refine lv_dup hx hb dX12_put_21 rfl ?_
  refine va_get (ci := 12) (v := .int 1) (C := RX12) (T := TX12) (N := 90) hx hb hts in_X12_put_X12 hown hK hP 0 rfl rfl 2 (by decide) (hts (.fieldLink RX12 202 "HallTablesModel" "taped" "I") (List.mem_of_getElem? (i := 2) rfl)) (fun _ h9 => h9) (setk_same e_m2) dX12_put_22 ?_
  refine lv_iconst (v := 1) hx hb dX12_put_25 (by decide) ?_
  refine lv_iadd hx hb dX12_put_26 ?_
  refine tpI (v := 2) (by decide) ?_
  refine va_put (ci := 12) (v := .int 2) (ty := .int) (C := RX12) (T := TX12) (N := 90) hx hb hts in_X12_put_X12 tyX12 tyX12_ok nmX12 hown hK hP hD hS 0 rfl rfl 2 (by decide) (hts (.fieldLink RX12 202 "HallTablesModel" "taped" "I") (List.mem_of_getElem? (i := 2) rfl)) (fun _ h9 => h9) rfl (by decide +kernel) rfl rfl (lt_of_at (setk_same e_m2)) dX12_put_27 (fun H locs hP hD hS => ?_)
  have hP : va_P D vwCl [(m0, .inr (12, ((fm.set 2 (.int 1)).set 2 (.int 2)))), (ata, .inl (cy 2, 2000, .inl f_6))] H := hP
  have hD : va_D A [(m0, .inr (12, ((fm.set 2 (.int 1)).set 2 (.int 2)))), (ata, .inl (cy 2, 2000, .inl f_6))] := hD
  refine lv_iinc (v := 8) (lv' := [(2, .int 8), (0, .ref m0), (1, .int p0)]) hx hb dX12_put_30 hl (k := 0) rfl (by decide) (by decide) rfl (fun ls hl => ?_)
  refine lv_goto (tgt := 3) hx hb dX12_put_33 (by decide) ?_
  refine lv_iload_n hx hb dX12_put_3 rfl (lv_at hl 0 rfl) ?_
  refine lv_if_lt (tgt := 36) hx hb dX12_put_4 (by decide) (fun c9 => absurd c9 (by decide)) (fun _ => ?_)
  refine lv_aload_n hx hb dX12_put_7 rfl (lv_at hl 1 rfl) ?_
  refine va_get (ci := 12) (v := .ref ata) (C := RX12) (T := TX12) (N := 90) hx hb hts in_X12_put_X12 hown hK hP 0 rfl rfl 1 (by decide) (hts (.fieldLink RX12 13 "HallTablesModel" "tape" "[B") (List.mem_of_getElem? (i := 1) rfl)) (fun _ h9 => h9) (setk (setk e_m1 (by decide)) (by decide)) dX12_put_8 ?_
  refine lv_aload_n hx hb dX12_put_11 rfl (lv_at hl 1 rfl) ?_
  refine va_get (ci := 12) (v := .int 2) (C := RX12) (T := TX12) (N := 90) hx hb hts in_X12_put_X12 hown hK hP 0 rfl rfl 2 (by decide) (hts (.fieldLink RX12 202 "HallTablesModel" "taped" "I") (List.mem_of_getElem? (i := 2) rfl)) (fun _ h9 => h9) (setk_same (setk_same e_m2)) dX12_put_12 ?_
  refine lv_iload_n hx hb dX12_put_15 rfl (lv_at hl 2 rfl) ?_
  refine lv_iload_n hx hb dX12_put_16 rfl (lv_at hl 0 rfl) ?_
  refine lv_ishr hx hb dX12_put_17 ?_
  refine lv_topi (fun v_7 ev_7 => ?_)
  refine lv_i2b hx hb dX12_put_18 rfl ?_
  refine lv_topi (fun v_8 ev_8 => ?_)
  refine sB hx hb hK hP hD hS 1 rfl 2 rfl (Nat.le_of_ble_eq_true rfl) (Nat.le_of_ble_eq_true rfl) dX12_put_19 (fun H locs hP hD hS => ?_)
  have hP : va_P D vwCl [(m0, .inr (12, ((fm.set 2 (.int 1)).set 2 (.int 2)))), (ata, .inl (cy 2, 2000, .inl (upd f_6 2 (vp_nar .byte v_8))))] H := hP
  have hD : va_D A [(m0, .inr (12, ((fm.set 2 (.int 1)).set 2 (.int 2)))), (ata, .inl (cy 2, 2000, .inl (upd f_6 2 (vp_nar .byte v_8))))] := hD
  obtain ⟨f_9, ef_9⟩ : ∃ z, z = upd f_6 2 (vp_nar .byte v_8) := ⟨_, rfl⟩
  rw [← ef_9] at hP hD
  refine lv_aload_n hx hb dX12_put_20 rfl (lv_at hl 1 rfl) ?_
  refine lv_dup hx hb dX12_put_21 rfl ?_
  refine va_get (ci := 12) (v := .int 2) (C := RX12) (T := TX12) (N := 90) hx hb hts in_X12_put_X12 hown hK hP 0 rfl rfl 2 (by decide) (hts (.fieldLink RX12 202 "HallTablesModel" "taped" "I") (List.mem_of_getElem? (i := 2) rfl)) (fun _ h9 => h9) (setk_same (setk_same e_m2)) dX12_put_22 ?_
  refine lv_iconst (v := 1) hx hb dX12_put_25 (by decide) ?_
  refine lv_iadd hx hb dX12_put_26 ?_
  refine tpI (v := 3) (by decide) ?_
  refine va_put (ci := 12) (v := .int 3) (ty := .int) (C := RX12) (T := TX12) (N := 90) hx hb hts in_X12_put_X12 tyX12 tyX12_ok nmX12 hown hK hP hD hS 0 rfl rfl 2 (by decide) (hts (.fieldLink RX12 202 "HallTablesModel" "taped" "I") (List.mem_of_getElem? (i := 2) rfl)) (fun _ h9 => h9) rfl (by decide +kernel) rfl rfl (lt_of_at (setk_same (setk_same e_m2))) dX12_put_27 (fun H locs hP hD hS => ?_)
  have hP : va_P D vwCl [(m0, .inr (12, (((fm.set 2 (.int 1)).set 2 (.int 2)).set 2 (.int 3)))), (ata, .inl (cy 2, 2000, .inl f_9))] H := hP
  have hD : va_D A [(m0, .inr (12, (((fm.set 2 (.int 1)).set 2 (.int 2)).set 2 (.int 3)))), (ata, .inl (cy 2, 2000, .inl f_9))] := hD
  refine lv_iinc (v := 0) (lv' := [(2, .int 0), (0, .ref m0), (1, .int p0)]) hx hb dX12_put_30 hl (k := 0) rfl (by decide) (by decide) rfl (fun ls hl => ?_)
  refine lv_goto (tgt := 3) hx hb dX12_put_33 (by decide) ?_
  refine lv_iload_n hx hb dX12_put_3 rfl (lv_at hl 0 rfl) ?_
  refine lv_if_lt (tgt := 36) hx hb dX12_put_4 (by decide) (fun c9 => absurd c9 (by decide)) (fun _ => ?_)
  refine lv_aload_n hx hb dX12_put_7 rfl (lv_at hl 1 rfl) ?_
  refine va_get (ci := 12) (v := .ref ata) (C := RX12) (T := TX12) (N := 90) hx hb hts in_X12_put_X12 hown hK hP 0 rfl rfl 1 (by decide) (hts (.fieldLink RX12 13 "HallTablesModel" "tape" "[B") (List.mem_of_getElem? (i := 1) rfl)) (fun _ h9 => h9) (setk (setk (setk e_m1 (by decide)) (by decide)) (by decide)) dX12_put_8 ?_
  refine lv_aload_n hx hb dX12_put_11 rfl (lv_at hl 1 rfl) ?_
  refine va_get (ci := 12) (v := .int 3) (C := RX12) (T := TX12) (N := 90) hx hb hts in_X12_put_X12 hown hK hP 0 rfl rfl 2 (by decide) (hts (.fieldLink RX12 202 "HallTablesModel" "taped" "I") (List.mem_of_getElem? (i := 2) rfl)) (fun _ h9 => h9) (setk_same (setk_same (setk_same e_m2))) dX12_put_12 ?_
  refine lv_iload_n hx hb dX12_put_15 rfl (lv_at hl 2 rfl) ?_
  refine lv_iload_n hx hb dX12_put_16 rfl (lv_at hl 0 rfl) ?_
  refine lv_ishr hx hb dX12_put_17 ?_
  refine lv_topi (fun v_10 ev_10 => ?_)
  refine lv_i2b hx hb dX12_put_18 rfl ?_
  refine lv_topi (fun v_11 ev_11 => ?_)
  refine sB hx hb hK hP hD hS 1 rfl 3 rfl (Nat.le_of_ble_eq_true rfl) (Nat.le_of_ble_eq_true rfl) dX12_put_19 (fun H locs hP hD hS => ?_)
  have hP : va_P D vwCl [(m0, .inr (12, (((fm.set 2 (.int 1)).set 2 (.int 2)).set 2 (.int 3)))), (ata, .inl (cy 2, 2000, .inl (upd f_9 3 (vp_nar .byte v_11))))] H := hP
  have hD : va_D A [(m0, .inr (12, (((fm.set 2 (.int 1)).set 2 (.int 2)).set 2 (.int 3)))), (ata, .inl (cy 2, 2000, .inl (upd f_9 3 (vp_nar .byte v_11))))] := hD
  obtain ⟨f_12, ef_12⟩ : ∃ z, z = upd f_9 3 (vp_nar .byte v_11) := ⟨_, rfl⟩
  rw [← ef_12] at hP hD
  refine lv_aload_n hx hb dX12_put_20 rfl (lv_at hl 1 rfl) ?_
  refine lv_dup hx hb dX12_put_21 rfl ?_
  refine va_get (ci := 12) (v := .int 3) (C := RX12) (T := TX12) (N := 90) hx hb hts in_X12_put_X12 hown hK hP 0 rfl rfl 2 (by decide) (hts (.fieldLink RX12 202 "HallTablesModel" "taped" "I") (List.mem_of_getElem? (i := 2) rfl)) (fun _ h9 => h9) (setk_same (setk_same (setk_same e_m2))) dX12_put_22 ?_
  refine lv_iconst (v := 1) hx hb dX12_put_25 (by decide) ?_
  refine lv_iadd hx hb dX12_put_26 ?_
  refine tpI (v := 4) (by decide) ?_
  refine va_put (ci := 12) (v := .int 4) (ty := .int) (C := RX12) (T := TX12) (N := 90) hx hb hts in_X12_put_X12 tyX12 tyX12_ok nmX12 hown hK hP hD hS 0 rfl rfl 2 (by decide) (hts (.fieldLink RX12 202 "HallTablesModel" "taped" "I") (List.mem_of_getElem? (i := 2) rfl)) (fun _ h9 => h9) rfl (by decide +kernel) rfl rfl (lt_of_at (setk_same (setk_same (setk_same e_m2)))) dX12_put_27 (fun H locs hP hD hS => ?_)
  have hP : va_P D vwCl [(m0, .inr (12, ((((fm.set 2 (.int 1)).set 2 (.int 2)).set 2 (.int 3)).set 2 (.int 4)))), (ata, .inl (cy 2, 2000, .inl f_12))] H := hP
  have hD : va_D A [(m0, .inr (12, ((((fm.set 2 (.int 1)).set 2 (.int 2)).set 2 (.int 3)).set 2 (.int 4)))), (ata, .inl (cy 2, 2000, .inl f_12))] := hD
  refine lv_iinc (v := (-8)) (lv' := [(2, .int (-8)), (0, .ref m0), (1, .int p0)]) hx hb dX12_put_30 hl (k := 0) rfl (by decide) (by decide) rfl (fun ls hl => ?_)
  refine lv_goto (tgt := 3) hx hb dX12_put_33 (by decide) ?_
  refine lv_iload_n hx hb dX12_put_3 rfl (lv_at hl 0 rfl) ?_
  refine lv_if_lt (tgt := 36) hx hb dX12_put_4 (by decide) (fun _ => ?_) (fun c9 => absurd (by decide) c9)
  exact endV hx hb hr hlocks [(m0, .inr (12, ((((fm.set 2 (.int 1)).set 2 (.int 2)).set 2 (.int 3)).set 2 (.int 4)))), (ata, .inl (cy 2, 2000, .inl f_12))] ⟨f_12, rfl⟩ hP hD hS (Nat.le_of_ble_eq_true rfl) (Nat.le_of_ble_eq_true rfl) dX12_put_36

set_option maxRecDepth 100000 in
set_option maxHeartbeats 4000000 in
/-- put at 4 -/
theorem c_X12_put_4 (l : Launch) (D : va_G) (cy : Nat → ClassId) (m0 : Nat) (fm : List Value) (ata : Nat) (gta : Nat → Int32) (p0 : Int32) (e_m1 : fm[1]? = some (.ref ata)) (e_m2 : fm[2]? = some (.int 4)) : Ctv l D cy yX12_put wsX12_put ({ frames := 0, cells := 0, slots := 0, locals := 0 } : Room) [.ref m0, .int p0] [(m0, .inr (12, fm)), (ata, .inl (cy 2, 2000, .inl gta))] myT (fun (w : va_W) => ∃ (gta1 : Nat → Int32), w = [(m0, .inr (12, ((((fm.set 2 (.int 5)).set 2 (.int 6)).set 2 (.int 7)).set 2 (.int 8)))), (ata, .inl (cy 2, 2000, .inl gta1))]) := by
  refine ofV (cc := cX12_put) (maxL := 3) (ret := none) (by decide) rfl (Nat.le_of_ble_eq_true rfl) ?_
  intro p e s m args below meth c A ls hx hb hr hts hown hlocks hml hin hK hP hD hS hA hX hl
  have hown : s.vm.findClass RX12 = some m.cls := hown
  have hl : lv_has ls 3 [(0, .ref m0), (1, .int p0)] := hl
  refine lv_bipush (v := 24) hx hb dX12_put_0 (by decide) ?_
  refine lv_istore_n (lv' := [(2, .int 24), (0, .ref m0), (1, .int p0)]) hx hb dX12_put_2 rfl hl (by decide) rfl (fun ls hl => ?_)
  refine lv_iload_n hx hb dX12_put_3 rfl (lv_at hl 0 rfl) ?_
  refine lv_if_lt (tgt := 36) hx hb dX12_put_4 (by decide) (fun c9 => absurd c9 (by decide)) (fun _ => ?_)
  refine lv_aload_n hx hb dX12_put_7 rfl (lv_at hl 1 rfl) ?_
  refine va_get (ci := 12) (v := .ref ata) (C := RX12) (T := TX12) (N := 90) hx hb hts in_X12_put_X12 hown hK hP 0 rfl rfl 1 (by decide) (hts (.fieldLink RX12 13 "HallTablesModel" "tape" "[B") (List.mem_of_getElem? (i := 1) rfl)) (fun _ h9 => h9) e_m1 dX12_put_8 ?_
  refine lv_aload_n hx hb dX12_put_11 rfl (lv_at hl 1 rfl) ?_
  refine va_get (ci := 12) (v := .int 4) (C := RX12) (T := TX12) (N := 90) hx hb hts in_X12_put_X12 hown hK hP 0 rfl rfl 2 (by decide) (hts (.fieldLink RX12 202 "HallTablesModel" "taped" "I") (List.mem_of_getElem? (i := 2) rfl)) (fun _ h9 => h9) e_m2 dX12_put_12 ?_
  refine lv_iload_n hx hb dX12_put_15 rfl (lv_at hl 2 rfl) ?_
  refine lv_iload_n hx hb dX12_put_16 rfl (lv_at hl 0 rfl) ?_
  refine lv_ishr hx hb dX12_put_17 ?_
  refine lv_topi (fun v_1 ev_1 => ?_)
  refine lv_i2b hx hb dX12_put_18 rfl ?_
  refine lv_topi (fun v_2 ev_2 => ?_)
  refine sB hx hb hK hP hD hS 1 rfl 4 rfl (Nat.le_of_ble_eq_true rfl) (Nat.le_of_ble_eq_true rfl) dX12_put_19 (fun H locs hP hD hS => ?_)
  have hP : va_P D vwCl [(m0, .inr (12, fm)), (ata, .inl (cy 2, 2000, .inl (upd gta 4 (vp_nar .byte v_2))))] H := hP
  have hD : va_D A [(m0, .inr (12, fm)), (ata, .inl (cy 2, 2000, .inl (upd gta 4 (vp_nar .byte v_2))))] := hD
  obtain ⟨f_3, ef_3⟩ : ∃ z, z = upd gta 4 (vp_nar .byte v_2) := ⟨_, rfl⟩
  rw [← ef_3] at hP hD
  refine lv_aload_n hx hb dX12_put_20 rfl (lv_at hl 1 rfl) ?_
  refine lv_dup hx hb dX12_put_21 rfl ?_
  refine va_get (ci := 12) (v := .int 4) (C := RX12) (T := TX12) (N := 90) hx hb hts in_X12_put_X12 hown hK hP 0 rfl rfl 2 (by decide) (hts (.fieldLink RX12 202 "HallTablesModel" "taped" "I") (List.mem_of_getElem? (i := 2) rfl)) (fun _ h9 => h9) e_m2 dX12_put_22 ?_
  refine lv_iconst (v := 1) hx hb dX12_put_25 (by decide) ?_
  refine lv_iadd hx hb dX12_put_26 ?_
  refine tpI (v := 5) (by decide) ?_
  refine va_put (ci := 12) (v := .int 5) (ty := .int) (C := RX12) (T := TX12) (N := 90) hx hb hts in_X12_put_X12 tyX12 tyX12_ok nmX12 hown hK hP hD hS 0 rfl rfl 2 (by decide) (hts (.fieldLink RX12 202 "HallTablesModel" "taped" "I") (List.mem_of_getElem? (i := 2) rfl)) (fun _ h9 => h9) rfl (by decide +kernel) rfl rfl (lt_of_at e_m2) dX12_put_27 (fun H locs hP hD hS => ?_)
  have hP : va_P D vwCl [(m0, .inr (12, (fm.set 2 (.int 5)))), (ata, .inl (cy 2, 2000, .inl f_3))] H := hP
  have hD : va_D A [(m0, .inr (12, (fm.set 2 (.int 5)))), (ata, .inl (cy 2, 2000, .inl f_3))] := hD
  refine lv_iinc (v := 16) (lv' := [(2, .int 16), (0, .ref m0), (1, .int p0)]) hx hb dX12_put_30 hl (k := 0) rfl (by decide) (by decide) rfl (fun ls hl => ?_)
  refine lv_goto (tgt := 3) hx hb dX12_put_33 (by decide) ?_
  refine lv_iload_n hx hb dX12_put_3 rfl (lv_at hl 0 rfl) ?_
  refine lv_if_lt (tgt := 36) hx hb dX12_put_4 (by decide) (fun c9 => absurd c9 (by decide)) (fun _ => ?_)
  refine lv_aload_n hx hb dX12_put_7 rfl (lv_at hl 1 rfl) ?_
  refine va_get (ci := 12) (v := .ref ata) (C := RX12) (T := TX12) (N := 90) hx hb hts in_X12_put_X12 hown hK hP 0 rfl rfl 1 (by decide) (hts (.fieldLink RX12 13 "HallTablesModel" "tape" "[B") (List.mem_of_getElem? (i := 1) rfl)) (fun _ h9 => h9) (setk e_m1 (by decide)) dX12_put_8 ?_
  refine lv_aload_n hx hb dX12_put_11 rfl (lv_at hl 1 rfl) ?_
  refine va_get (ci := 12) (v := .int 5) (C := RX12) (T := TX12) (N := 90) hx hb hts in_X12_put_X12 hown hK hP 0 rfl rfl 2 (by decide) (hts (.fieldLink RX12 202 "HallTablesModel" "taped" "I") (List.mem_of_getElem? (i := 2) rfl)) (fun _ h9 => h9) (setk_same e_m2) dX12_put_12 ?_
  refine lv_iload_n hx hb dX12_put_15 rfl (lv_at hl 2 rfl) ?_
  refine lv_iload_n hx hb dX12_put_16 rfl (lv_at hl 0 rfl) ?_
  refine lv_ishr hx hb dX12_put_17 ?_
  refine lv_topi (fun v_4 ev_4 => ?_)
  refine lv_i2b hx hb dX12_put_18 rfl ?_
  refine lv_topi (fun v_5 ev_5 => ?_)
  refine sB hx hb hK hP hD hS 1 rfl 5 rfl (Nat.le_of_ble_eq_true rfl) (Nat.le_of_ble_eq_true rfl) dX12_put_19 (fun H locs hP hD hS => ?_)
  have hP : va_P D vwCl [(m0, .inr (12, (fm.set 2 (.int 5)))), (ata, .inl (cy 2, 2000, .inl (upd f_3 5 (vp_nar .byte v_5))))] H := hP
  have hD : va_D A [(m0, .inr (12, (fm.set 2 (.int 5)))), (ata, .inl (cy 2, 2000, .inl (upd f_3 5 (vp_nar .byte v_5))))] := hD
  obtain ⟨f_6, ef_6⟩ : ∃ z, z = upd f_3 5 (vp_nar .byte v_5) := ⟨_, rfl⟩
  rw [← ef_6] at hP hD
  refine lv_aload_n hx hb dX12_put_20 rfl (lv_at hl 1 rfl) ?_
  refine lv_dup hx hb dX12_put_21 rfl ?_
  refine va_get (ci := 12) (v := .int 5) (C := RX12) (T := TX12) (N := 90) hx hb hts in_X12_put_X12 hown hK hP 0 rfl rfl 2 (by decide) (hts (.fieldLink RX12 202 "HallTablesModel" "taped" "I") (List.mem_of_getElem? (i := 2) rfl)) (fun _ h9 => h9) (setk_same e_m2) dX12_put_22 ?_
  refine lv_iconst (v := 1) hx hb dX12_put_25 (by decide) ?_
  refine lv_iadd hx hb dX12_put_26 ?_
  refine tpI (v := 6) (by decide) ?_
  refine va_put (ci := 12) (v := .int 6) (ty := .int) (C := RX12) (T := TX12) (N := 90) hx hb hts in_X12_put_X12 tyX12 tyX12_ok nmX12 hown hK hP hD hS 0 rfl rfl 2 (by decide) (hts (.fieldLink RX12 202 "HallTablesModel" "taped" "I") (List.mem_of_getElem? (i := 2) rfl)) (fun _ h9 => h9) rfl (by decide +kernel) rfl rfl (lt_of_at (setk_same e_m2)) dX12_put_27 (fun H locs hP hD hS => ?_)
  have hP : va_P D vwCl [(m0, .inr (12, ((fm.set 2 (.int 5)).set 2 (.int 6)))), (ata, .inl (cy 2, 2000, .inl f_6))] H := hP
  have hD : va_D A [(m0, .inr (12, ((fm.set 2 (.int 5)).set 2 (.int 6)))), (ata, .inl (cy 2, 2000, .inl f_6))] := hD
  refine lv_iinc (v := 8) (lv' := [(2, .int 8), (0, .ref m0), (1, .int p0)]) hx hb dX12_put_30 hl (k := 0) rfl (by decide) (by decide) rfl (fun ls hl => ?_)
  refine lv_goto (tgt := 3) hx hb dX12_put_33 (by decide) ?_
  refine lv_iload_n hx hb dX12_put_3 rfl (lv_at hl 0 rfl) ?_
  refine lv_if_lt (tgt := 36) hx hb dX12_put_4 (by decide) (fun c9 => absurd c9 (by decide)) (fun _ => ?_)
  refine lv_aload_n hx hb dX12_put_7 rfl (lv_at hl 1 rfl) ?_
  refine va_get (ci := 12) (v := .ref ata) (C := RX12) (T := TX12) (N := 90) hx hb hts in_X12_put_X12 hown hK hP 0 rfl rfl 1 (by decide) (hts (.fieldLink RX12 13 "HallTablesModel" "tape" "[B") (List.mem_of_getElem? (i := 1) rfl)) (fun _ h9 => h9) (setk (setk e_m1 (by decide)) (by decide)) dX12_put_8 ?_
  refine lv_aload_n hx hb dX12_put_11 rfl (lv_at hl 1 rfl) ?_
  refine va_get (ci := 12) (v := .int 6) (C := RX12) (T := TX12) (N := 90) hx hb hts in_X12_put_X12 hown hK hP 0 rfl rfl 2 (by decide) (hts (.fieldLink RX12 202 "HallTablesModel" "taped" "I") (List.mem_of_getElem? (i := 2) rfl)) (fun _ h9 => h9) (setk_same (setk_same e_m2)) dX12_put_12 ?_
  refine lv_iload_n hx hb dX12_put_15 rfl (lv_at hl 2 rfl) ?_
  refine lv_iload_n hx hb dX12_put_16 rfl (lv_at hl 0 rfl) ?_
  refine lv_ishr hx hb dX12_put_17 ?_
  refine lv_topi (fun v_7 ev_7 => ?_)
  refine lv_i2b hx hb dX12_put_18 rfl ?_
  refine lv_topi (fun v_8 ev_8 => ?_)
  refine sB hx hb hK hP hD hS 1 rfl 6 rfl (Nat.le_of_ble_eq_true rfl) (Nat.le_of_ble_eq_true rfl) dX12_put_19 (fun H locs hP hD hS => ?_)
  have hP : va_P D vwCl [(m0, .inr (12, ((fm.set 2 (.int 5)).set 2 (.int 6)))), (ata, .inl (cy 2, 2000, .inl (upd f_6 6 (vp_nar .byte v_8))))] H := hP
  have hD : va_D A [(m0, .inr (12, ((fm.set 2 (.int 5)).set 2 (.int 6)))), (ata, .inl (cy 2, 2000, .inl (upd f_6 6 (vp_nar .byte v_8))))] := hD
  obtain ⟨f_9, ef_9⟩ : ∃ z, z = upd f_6 6 (vp_nar .byte v_8) := ⟨_, rfl⟩
  rw [← ef_9] at hP hD
  refine lv_aload_n hx hb dX12_put_20 rfl (lv_at hl 1 rfl) ?_
  refine lv_dup hx hb dX12_put_21 rfl ?_
  refine va_get (ci := 12) (v := .int 6) (C := RX12) (T := TX12) (N := 90) hx hb hts in_X12_put_X12 hown hK hP 0 rfl rfl 2 (by decide) (hts (.fieldLink RX12 202 "HallTablesModel" "taped" "I") (List.mem_of_getElem? (i := 2) rfl)) (fun _ h9 => h9) (setk_same (setk_same e_m2)) dX12_put_22 ?_
  refine lv_iconst (v := 1) hx hb dX12_put_25 (by decide) ?_
  refine lv_iadd hx hb dX12_put_26 ?_
  refine tpI (v := 7) (by decide) ?_
  refine va_put (ci := 12) (v := .int 7) (ty := .int) (C := RX12) (T := TX12) (N := 90) hx hb hts in_X12_put_X12 tyX12 tyX12_ok nmX12 hown hK hP hD hS 0 rfl rfl 2 (by decide) (hts (.fieldLink RX12 202 "HallTablesModel" "taped" "I") (List.mem_of_getElem? (i := 2) rfl)) (fun _ h9 => h9) rfl (by decide +kernel) rfl rfl (lt_of_at (setk_same (setk_same e_m2))) dX12_put_27 (fun H locs hP hD hS => ?_)
  have hP : va_P D vwCl [(m0, .inr (12, (((fm.set 2 (.int 5)).set 2 (.int 6)).set 2 (.int 7)))), (ata, .inl (cy 2, 2000, .inl f_9))] H := hP
  have hD : va_D A [(m0, .inr (12, (((fm.set 2 (.int 5)).set 2 (.int 6)).set 2 (.int 7)))), (ata, .inl (cy 2, 2000, .inl f_9))] := hD
  refine lv_iinc (v := 0) (lv' := [(2, .int 0), (0, .ref m0), (1, .int p0)]) hx hb dX12_put_30 hl (k := 0) rfl (by decide) (by decide) rfl (fun ls hl => ?_)
  refine lv_goto (tgt := 3) hx hb dX12_put_33 (by decide) ?_
  refine lv_iload_n hx hb dX12_put_3 rfl (lv_at hl 0 rfl) ?_
  refine lv_if_lt (tgt := 36) hx hb dX12_put_4 (by decide) (fun c9 => absurd c9 (by decide)) (fun _ => ?_)
  refine lv_aload_n hx hb dX12_put_7 rfl (lv_at hl 1 rfl) ?_
  refine va_get (ci := 12) (v := .ref ata) (C := RX12) (T := TX12) (N := 90) hx hb hts in_X12_put_X12 hown hK hP 0 rfl rfl 1 (by decide) (hts (.fieldLink RX12 13 "HallTablesModel" "tape" "[B") (List.mem_of_getElem? (i := 1) rfl)) (fun _ h9 => h9) (setk (setk (setk e_m1 (by decide)) (by decide)) (by decide)) dX12_put_8 ?_
  refine lv_aload_n hx hb dX12_put_11 rfl (lv_at hl 1 rfl) ?_
  refine va_get (ci := 12) (v := .int 7) (C := RX12) (T := TX12) (N := 90) hx hb hts in_X12_put_X12 hown hK hP 0 rfl rfl 2 (by decide) (hts (.fieldLink RX12 202 "HallTablesModel" "taped" "I") (List.mem_of_getElem? (i := 2) rfl)) (fun _ h9 => h9) (setk_same (setk_same (setk_same e_m2))) dX12_put_12 ?_
  refine lv_iload_n hx hb dX12_put_15 rfl (lv_at hl 2 rfl) ?_
  refine lv_iload_n hx hb dX12_put_16 rfl (lv_at hl 0 rfl) ?_
  refine lv_ishr hx hb dX12_put_17 ?_
  refine lv_topi (fun v_10 ev_10 => ?_)
  refine lv_i2b hx hb dX12_put_18 rfl ?_
  refine lv_topi (fun v_11 ev_11 => ?_)
  refine sB hx hb hK hP hD hS 1 rfl 7 rfl (Nat.le_of_ble_eq_true rfl) (Nat.le_of_ble_eq_true rfl) dX12_put_19 (fun H locs hP hD hS => ?_)
  have hP : va_P D vwCl [(m0, .inr (12, (((fm.set 2 (.int 5)).set 2 (.int 6)).set 2 (.int 7)))), (ata, .inl (cy 2, 2000, .inl (upd f_9 7 (vp_nar .byte v_11))))] H := hP
  have hD : va_D A [(m0, .inr (12, (((fm.set 2 (.int 5)).set 2 (.int 6)).set 2 (.int 7)))), (ata, .inl (cy 2, 2000, .inl (upd f_9 7 (vp_nar .byte v_11))))] := hD
  obtain ⟨f_12, ef_12⟩ : ∃ z, z = upd f_9 7 (vp_nar .byte v_11) := ⟨_, rfl⟩
  rw [← ef_12] at hP hD
  refine lv_aload_n hx hb dX12_put_20 rfl (lv_at hl 1 rfl) ?_
  refine lv_dup hx hb dX12_put_21 rfl ?_
  refine va_get (ci := 12) (v := .int 7) (C := RX12) (T := TX12) (N := 90) hx hb hts in_X12_put_X12 hown hK hP 0 rfl rfl 2 (by decide) (hts (.fieldLink RX12 202 "HallTablesModel" "taped" "I") (List.mem_of_getElem? (i := 2) rfl)) (fun _ h9 => h9) (setk_same (setk_same (setk_same e_m2))) dX12_put_22 ?_
  refine lv_iconst (v := 1) hx hb dX12_put_25 (by decide) ?_
  refine lv_iadd hx hb dX12_put_26 ?_
  refine tpI (v := 8) (by decide) ?_
  refine va_put (ci := 12) (v := .int 8) (ty := .int) (C := RX12) (T := TX12) (N := 90) hx hb hts in_X12_put_X12 tyX12 tyX12_ok nmX12 hown hK hP hD hS 0 rfl rfl 2 (by decide) (hts (.fieldLink RX12 202 "HallTablesModel" "taped" "I") (List.mem_of_getElem? (i := 2) rfl)) (fun _ h9 => h9) rfl (by decide +kernel) rfl rfl (lt_of_at (setk_same (setk_same (setk_same e_m2)))) dX12_put_27 (fun H locs hP hD hS => ?_)
  have hP : va_P D vwCl [(m0, .inr (12, ((((fm.set 2 (.int 5)).set 2 (.int 6)).set 2 (.int 7)).set 2 (.int 8)))), (ata, .inl (cy 2, 2000, .inl f_12))] H := hP
  have hD : va_D A [(m0, .inr (12, ((((fm.set 2 (.int 5)).set 2 (.int 6)).set 2 (.int 7)).set 2 (.int 8)))), (ata, .inl (cy 2, 2000, .inl f_12))] := hD
  refine lv_iinc (v := (-8)) (lv' := [(2, .int (-8)), (0, .ref m0), (1, .int p0)]) hx hb dX12_put_30 hl (k := 0) rfl (by decide) (by decide) rfl (fun ls hl => ?_)
  refine lv_goto (tgt := 3) hx hb dX12_put_33 (by decide) ?_
  refine lv_iload_n hx hb dX12_put_3 rfl (lv_at hl 0 rfl) ?_
  refine lv_if_lt (tgt := 36) hx hb dX12_put_4 (by decide) (fun _ => ?_) (fun c9 => absurd (by decide) c9)
  exact endV hx hb hr hlocks [(m0, .inr (12, ((((fm.set 2 (.int 5)).set 2 (.int 6)).set 2 (.int 7)).set 2 (.int 8)))), (ata, .inl (cy 2, 2000, .inl f_12))] ⟨f_12, rfl⟩ hP hD hS (Nat.le_of_ble_eq_true rfl) (Nat.le_of_ble_eq_true rfl) dX12_put_36

set_option maxRecDepth 100000 in
set_option maxHeartbeats 4000000 in
/-- put at 8 -/
theorem c_X12_put_8 (l : Launch) (D : va_G) (cy : Nat → ClassId) (m0 : Nat) (fm : List Value) (ata : Nat) (gta : Nat → Int32) (p0 : Int32) (e_m1 : fm[1]? = some (.ref ata)) (e_m2 : fm[2]? = some (.int 8)) : Ctv l D cy yX12_put wsX12_put ({ frames := 0, cells := 0, slots := 0, locals := 0 } : Room) [.ref m0, .int p0] [(m0, .inr (12, fm)), (ata, .inl (cy 2, 2000, .inl gta))] myT (fun (w : va_W) => ∃ (gta1 : Nat → Int32), w = [(m0, .inr (12, ((((fm.set 2 (.int 9)).set 2 (.int 10)).set 2 (.int 11)).set 2 (.int 12)))), (ata, .inl (cy 2, 2000, .inl gta1))]) := by
  refine ofV (cc := cX12_put) (maxL := 3) (ret := none) (by decide) rfl (Nat.le_of_ble_eq_true rfl) ?_
  intro p e s m args below meth c A ls hx hb hr hts hown hlocks hml hin hK hP hD hS hA hX hl
  have hown : s.vm.findClass RX12 = some m.cls := hown
  have hl : lv_has ls 3 [(0, .ref m0), (1, .int p0)] := hl
  refine lv_bipush (v := 24) hx hb dX12_put_0 (by decide) ?_
  refine lv_istore_n (lv' := [(2, .int 24), (0, .ref m0), (1, .int p0)]) hx hb dX12_put_2 rfl hl (by decide) rfl (fun ls hl => ?_)
  refine lv_iload_n hx hb dX12_put_3 rfl (lv_at hl 0 rfl) ?_
  refine lv_if_lt (tgt := 36) hx hb dX12_put_4 (by decide) (fun c9 => absurd c9 (by decide)) (fun _ => ?_)
  refine lv_aload_n hx hb dX12_put_7 rfl (lv_at hl 1 rfl) ?_
  refine va_get (ci := 12) (v := .ref ata) (C := RX12) (T := TX12) (N := 90) hx hb hts in_X12_put_X12 hown hK hP 0 rfl rfl 1 (by decide) (hts (.fieldLink RX12 13 "HallTablesModel" "tape" "[B") (List.mem_of_getElem? (i := 1) rfl)) (fun _ h9 => h9) e_m1 dX12_put_8 ?_
  refine lv_aload_n hx hb dX12_put_11 rfl (lv_at hl 1 rfl) ?_
  refine va_get (ci := 12) (v := .int 8) (C := RX12) (T := TX12) (N := 90) hx hb hts in_X12_put_X12 hown hK hP 0 rfl rfl 2 (by decide) (hts (.fieldLink RX12 202 "HallTablesModel" "taped" "I") (List.mem_of_getElem? (i := 2) rfl)) (fun _ h9 => h9) e_m2 dX12_put_12 ?_
  refine lv_iload_n hx hb dX12_put_15 rfl (lv_at hl 2 rfl) ?_
  refine lv_iload_n hx hb dX12_put_16 rfl (lv_at hl 0 rfl) ?_
  refine lv_ishr hx hb dX12_put_17 ?_
  refine lv_topi (fun v_1 ev_1 => ?_)
  refine lv_i2b hx hb dX12_put_18 rfl ?_
  refine lv_topi (fun v_2 ev_2 => ?_)
  refine sB hx hb hK hP hD hS 1 rfl 8 rfl (Nat.le_of_ble_eq_true rfl) (Nat.le_of_ble_eq_true rfl) dX12_put_19 (fun H locs hP hD hS => ?_)
  have hP : va_P D vwCl [(m0, .inr (12, fm)), (ata, .inl (cy 2, 2000, .inl (upd gta 8 (vp_nar .byte v_2))))] H := hP
  have hD : va_D A [(m0, .inr (12, fm)), (ata, .inl (cy 2, 2000, .inl (upd gta 8 (vp_nar .byte v_2))))] := hD
  obtain ⟨f_3, ef_3⟩ : ∃ z, z = upd gta 8 (vp_nar .byte v_2) := ⟨_, rfl⟩
  rw [← ef_3] at hP hD
  refine lv_aload_n hx hb dX12_put_20 rfl (lv_at hl 1 rfl) ?_
  refine lv_dup hx hb dX12_put_21 rfl ?_
  refine va_get (ci := 12) (v := .int 8) (C := RX12) (T := TX12) (N := 90) hx hb hts in_X12_put_X12 hown hK hP 0 rfl rfl 2 (by decide) (hts (.fieldLink RX12 202 "HallTablesModel" "taped" "I") (List.mem_of_getElem? (i := 2) rfl)) (fun _ h9 => h9) e_m2 dX12_put_22 ?_
  refine lv_iconst (v := 1) hx hb dX12_put_25 (by decide) ?_
  refine lv_iadd hx hb dX12_put_26 ?_
  refine tpI (v := 9) (by decide) ?_
  refine va_put (ci := 12) (v := .int 9) (ty := .int) (C := RX12) (T := TX12) (N := 90) hx hb hts in_X12_put_X12 tyX12 tyX12_ok nmX12 hown hK hP hD hS 0 rfl rfl 2 (by decide) (hts (.fieldLink RX12 202 "HallTablesModel" "taped" "I") (List.mem_of_getElem? (i := 2) rfl)) (fun _ h9 => h9) rfl (by decide +kernel) rfl rfl (lt_of_at e_m2) dX12_put_27 (fun H locs hP hD hS => ?_)
  have hP : va_P D vwCl [(m0, .inr (12, (fm.set 2 (.int 9)))), (ata, .inl (cy 2, 2000, .inl f_3))] H := hP
  have hD : va_D A [(m0, .inr (12, (fm.set 2 (.int 9)))), (ata, .inl (cy 2, 2000, .inl f_3))] := hD
  refine lv_iinc (v := 16) (lv' := [(2, .int 16), (0, .ref m0), (1, .int p0)]) hx hb dX12_put_30 hl (k := 0) rfl (by decide) (by decide) rfl (fun ls hl => ?_)
  refine lv_goto (tgt := 3) hx hb dX12_put_33 (by decide) ?_
  refine lv_iload_n hx hb dX12_put_3 rfl (lv_at hl 0 rfl) ?_
  refine lv_if_lt (tgt := 36) hx hb dX12_put_4 (by decide) (fun c9 => absurd c9 (by decide)) (fun _ => ?_)
  refine lv_aload_n hx hb dX12_put_7 rfl (lv_at hl 1 rfl) ?_
  refine va_get (ci := 12) (v := .ref ata) (C := RX12) (T := TX12) (N := 90) hx hb hts in_X12_put_X12 hown hK hP 0 rfl rfl 1 (by decide) (hts (.fieldLink RX12 13 "HallTablesModel" "tape" "[B") (List.mem_of_getElem? (i := 1) rfl)) (fun _ h9 => h9) (setk e_m1 (by decide)) dX12_put_8 ?_
  refine lv_aload_n hx hb dX12_put_11 rfl (lv_at hl 1 rfl) ?_
  refine va_get (ci := 12) (v := .int 9) (C := RX12) (T := TX12) (N := 90) hx hb hts in_X12_put_X12 hown hK hP 0 rfl rfl 2 (by decide) (hts (.fieldLink RX12 202 "HallTablesModel" "taped" "I") (List.mem_of_getElem? (i := 2) rfl)) (fun _ h9 => h9) (setk_same e_m2) dX12_put_12 ?_
  refine lv_iload_n hx hb dX12_put_15 rfl (lv_at hl 2 rfl) ?_
  refine lv_iload_n hx hb dX12_put_16 rfl (lv_at hl 0 rfl) ?_
  refine lv_ishr hx hb dX12_put_17 ?_
  refine lv_topi (fun v_4 ev_4 => ?_)
  refine lv_i2b hx hb dX12_put_18 rfl ?_
  refine lv_topi (fun v_5 ev_5 => ?_)
  refine sB hx hb hK hP hD hS 1 rfl 9 rfl (Nat.le_of_ble_eq_true rfl) (Nat.le_of_ble_eq_true rfl) dX12_put_19 (fun H locs hP hD hS => ?_)
  have hP : va_P D vwCl [(m0, .inr (12, (fm.set 2 (.int 9)))), (ata, .inl (cy 2, 2000, .inl (upd f_3 9 (vp_nar .byte v_5))))] H := hP
  have hD : va_D A [(m0, .inr (12, (fm.set 2 (.int 9)))), (ata, .inl (cy 2, 2000, .inl (upd f_3 9 (vp_nar .byte v_5))))] := hD
  obtain ⟨f_6, ef_6⟩ : ∃ z, z = upd f_3 9 (vp_nar .byte v_5) := ⟨_, rfl⟩
  rw [← ef_6] at hP hD
  refine lv_aload_n hx hb dX12_put_20 rfl (lv_at hl 1 rfl) ?_
  refine lv_dup hx hb dX12_put_21 rfl ?_
  refine va_get (ci := 12) (v := .int 9) (C := RX12) (T := TX12) (N := 90) hx hb hts in_X12_put_X12 hown hK hP 0 rfl rfl 2 (by decide) (hts (.fieldLink RX12 202 "HallTablesModel" "taped" "I") (List.mem_of_getElem? (i := 2) rfl)) (fun _ h9 => h9) (setk_same e_m2) dX12_put_22 ?_
  refine lv_iconst (v := 1) hx hb dX12_put_25 (by decide) ?_
  refine lv_iadd hx hb dX12_put_26 ?_
  refine tpI (v := 10) (by decide) ?_
  refine va_put (ci := 12) (v := .int 10) (ty := .int) (C := RX12) (T := TX12) (N := 90) hx hb hts in_X12_put_X12 tyX12 tyX12_ok nmX12 hown hK hP hD hS 0 rfl rfl 2 (by decide) (hts (.fieldLink RX12 202 "HallTablesModel" "taped" "I") (List.mem_of_getElem? (i := 2) rfl)) (fun _ h9 => h9) rfl (by decide +kernel) rfl rfl (lt_of_at (setk_same e_m2)) dX12_put_27 (fun H locs hP hD hS => ?_)
  have hP : va_P D vwCl [(m0, .inr (12, ((fm.set 2 (.int 9)).set 2 (.int 10)))), (ata, .inl (cy 2, 2000, .inl f_6))] H := hP
  have hD : va_D A [(m0, .inr (12, ((fm.set 2 (.int 9)).set 2 (.int 10)))), (ata, .inl (cy 2, 2000, .inl f_6))] := hD
  refine lv_iinc (v := 8) (lv' := [(2, .int 8), (0, .ref m0), (1, .int p0)]) hx hb dX12_put_30 hl (k := 0) rfl (by decide) (by decide) rfl (fun ls hl => ?_)
  refine lv_goto (tgt := 3) hx hb dX12_put_33 (by decide) ?_
  refine lv_iload_n hx hb dX12_put_3 rfl (lv_at hl 0 rfl) ?_
  refine lv_if_lt (tgt := 36) hx hb dX12_put_4 (by decide) (fun c9 => absurd c9 (by decide)) (fun _ => ?_)
  refine lv_aload_n hx hb dX12_put_7 rfl (lv_at hl 1 rfl) ?_
  refine va_get (ci := 12) (v := .ref ata) (C := RX12) (T := TX12) (N := 90) hx hb hts in_X12_put_X12 hown hK hP 0 rfl rfl 1 (by decide) (hts (.fieldLink RX12 13 "HallTablesModel" "tape" "[B") (List.mem_of_getElem? (i := 1) rfl)) (fun _ h9 => h9) (setk (setk e_m1 (by decide)) (by decide)) dX12_put_8 ?_
  refine lv_aload_n hx hb dX12_put_11 rfl (lv_at hl 1 rfl) ?_
  refine va_get (ci := 12) (v := .int 10) (C := RX12) (T := TX12) (N := 90) hx hb hts in_X12_put_X12 hown hK hP 0 rfl rfl 2 (by decide) (hts (.fieldLink RX12 202 "HallTablesModel" "taped" "I") (List.mem_of_getElem? (i := 2) rfl)) (fun _ h9 => h9) (setk_same (setk_same e_m2)) dX12_put_12 ?_
  refine lv_iload_n hx hb dX12_put_15 rfl (lv_at hl 2 rfl) ?_
  refine lv_iload_n hx hb dX12_put_16 rfl (lv_at hl 0 rfl) ?_
  refine lv_ishr hx hb dX12_put_17 ?_
  refine lv_topi (fun v_7 ev_7 => ?_)
  refine lv_i2b hx hb dX12_put_18 rfl ?_
  refine lv_topi (fun v_8 ev_8 => ?_)
  refine sB hx hb hK hP hD hS 1 rfl 10 rfl (Nat.le_of_ble_eq_true rfl) (Nat.le_of_ble_eq_true rfl) dX12_put_19 (fun H locs hP hD hS => ?_)
  have hP : va_P D vwCl [(m0, .inr (12, ((fm.set 2 (.int 9)).set 2 (.int 10)))), (ata, .inl (cy 2, 2000, .inl (upd f_6 10 (vp_nar .byte v_8))))] H := hP
  have hD : va_D A [(m0, .inr (12, ((fm.set 2 (.int 9)).set 2 (.int 10)))), (ata, .inl (cy 2, 2000, .inl (upd f_6 10 (vp_nar .byte v_8))))] := hD
  obtain ⟨f_9, ef_9⟩ : ∃ z, z = upd f_6 10 (vp_nar .byte v_8) := ⟨_, rfl⟩
  rw [← ef_9] at hP hD
  refine lv_aload_n hx hb dX12_put_20 rfl (lv_at hl 1 rfl) ?_
  refine lv_dup hx hb dX12_put_21 rfl ?_
  refine va_get (ci := 12) (v := .int 10) (C := RX12) (T := TX12) (N := 90) hx hb hts in_X12_put_X12 hown hK hP 0 rfl rfl 2 (by decide) (hts (.fieldLink RX12 202 "HallTablesModel" "taped" "I") (List.mem_of_getElem? (i := 2) rfl)) (fun _ h9 => h9) (setk_same (setk_same e_m2)) dX12_put_22 ?_
  refine lv_iconst (v := 1) hx hb dX12_put_25 (by decide) ?_
  refine lv_iadd hx hb dX12_put_26 ?_
  refine tpI (v := 11) (by decide) ?_
  refine va_put (ci := 12) (v := .int 11) (ty := .int) (C := RX12) (T := TX12) (N := 90) hx hb hts in_X12_put_X12 tyX12 tyX12_ok nmX12 hown hK hP hD hS 0 rfl rfl 2 (by decide) (hts (.fieldLink RX12 202 "HallTablesModel" "taped" "I") (List.mem_of_getElem? (i := 2) rfl)) (fun _ h9 => h9) rfl (by decide +kernel) rfl rfl (lt_of_at (setk_same (setk_same e_m2))) dX12_put_27 (fun H locs hP hD hS => ?_)
  have hP : va_P D vwCl [(m0, .inr (12, (((fm.set 2 (.int 9)).set 2 (.int 10)).set 2 (.int 11)))), (ata, .inl (cy 2, 2000, .inl f_9))] H := hP
  have hD : va_D A [(m0, .inr (12, (((fm.set 2 (.int 9)).set 2 (.int 10)).set 2 (.int 11)))), (ata, .inl (cy 2, 2000, .inl f_9))] := hD
  refine lv_iinc (v := 0) (lv' := [(2, .int 0), (0, .ref m0), (1, .int p0)]) hx hb dX12_put_30 hl (k := 0) rfl (by decide) (by decide) rfl (fun ls hl => ?_)
  refine lv_goto (tgt := 3) hx hb dX12_put_33 (by decide) ?_
  refine lv_iload_n hx hb dX12_put_3 rfl (lv_at hl 0 rfl) ?_
  refine lv_if_lt (tgt := 36) hx hb dX12_put_4 (by decide) (fun c9 => absurd c9 (by decide)) (fun _ => ?_)
  refine lv_aload_n hx hb dX12_put_7 rfl (lv_at hl 1 rfl) ?_
  refine va_get (ci := 12) (v := .ref ata) (C := RX12) (T := TX12) (N := 90) hx hb hts in_X12_put_X12 hown hK hP 0 rfl rfl 1 (by decide) (hts (.fieldLink RX12 13 "HallTablesModel" "tape" "[B") (List.mem_of_getElem? (i := 1) rfl)) (fun _ h9 => h9) (setk (setk (setk e_m1 (by decide)) (by decide)) (by decide)) dX12_put_8 ?_
  refine lv_aload_n hx hb dX12_put_11 rfl (lv_at hl 1 rfl) ?_
  refine va_get (ci := 12) (v := .int 11) (C := RX12) (T := TX12) (N := 90) hx hb hts in_X12_put_X12 hown hK hP 0 rfl rfl 2 (by decide) (hts (.fieldLink RX12 202 "HallTablesModel" "taped" "I") (List.mem_of_getElem? (i := 2) rfl)) (fun _ h9 => h9) (setk_same (setk_same (setk_same e_m2))) dX12_put_12 ?_
  refine lv_iload_n hx hb dX12_put_15 rfl (lv_at hl 2 rfl) ?_
  refine lv_iload_n hx hb dX12_put_16 rfl (lv_at hl 0 rfl) ?_
  refine lv_ishr hx hb dX12_put_17 ?_
  refine lv_topi (fun v_10 ev_10 => ?_)
  refine lv_i2b hx hb dX12_put_18 rfl ?_
  refine lv_topi (fun v_11 ev_11 => ?_)
  refine sB hx hb hK hP hD hS 1 rfl 11 rfl (Nat.le_of_ble_eq_true rfl) (Nat.le_of_ble_eq_true rfl) dX12_put_19 (fun H locs hP hD hS => ?_)
  have hP : va_P D vwCl [(m0, .inr (12, (((fm.set 2 (.int 9)).set 2 (.int 10)).set 2 (.int 11)))), (ata, .inl (cy 2, 2000, .inl (upd f_9 11 (vp_nar .byte v_11))))] H := hP
  have hD : va_D A [(m0, .inr (12, (((fm.set 2 (.int 9)).set 2 (.int 10)).set 2 (.int 11)))), (ata, .inl (cy 2, 2000, .inl (upd f_9 11 (vp_nar .byte v_11))))] := hD
  obtain ⟨f_12, ef_12⟩ : ∃ z, z = upd f_9 11 (vp_nar .byte v_11) := ⟨_, rfl⟩
  rw [← ef_12] at hP hD
  refine lv_aload_n hx hb dX12_put_20 rfl (lv_at hl 1 rfl) ?_
  refine lv_dup hx hb dX12_put_21 rfl ?_
  refine va_get (ci := 12) (v := .int 11) (C := RX12) (T := TX12) (N := 90) hx hb hts in_X12_put_X12 hown hK hP 0 rfl rfl 2 (by decide) (hts (.fieldLink RX12 202 "HallTablesModel" "taped" "I") (List.mem_of_getElem? (i := 2) rfl)) (fun _ h9 => h9) (setk_same (setk_same (setk_same e_m2))) dX12_put_22 ?_
  refine lv_iconst (v := 1) hx hb dX12_put_25 (by decide) ?_
  refine lv_iadd hx hb dX12_put_26 ?_
  refine tpI (v := 12) (by decide) ?_
  refine va_put (ci := 12) (v := .int 12) (ty := .int) (C := RX12) (T := TX12) (N := 90) hx hb hts in_X12_put_X12 tyX12 tyX12_ok nmX12 hown hK hP hD hS 0 rfl rfl 2 (by decide) (hts (.fieldLink RX12 202 "HallTablesModel" "taped" "I") (List.mem_of_getElem? (i := 2) rfl)) (fun _ h9 => h9) rfl (by decide +kernel) rfl rfl (lt_of_at (setk_same (setk_same (setk_same e_m2)))) dX12_put_27 (fun H locs hP hD hS => ?_)
  have hP : va_P D vwCl [(m0, .inr (12, ((((fm.set 2 (.int 9)).set 2 (.int 10)).set 2 (.int 11)).set 2 (.int 12)))), (ata, .inl (cy 2, 2000, .inl f_12))] H := hP
  have hD : va_D A [(m0, .inr (12, ((((fm.set 2 (.int 9)).set 2 (.int 10)).set 2 (.int 11)).set 2 (.int 12)))), (ata, .inl (cy 2, 2000, .inl f_12))] := hD
  refine lv_iinc (v := (-8)) (lv' := [(2, .int (-8)), (0, .ref m0), (1, .int p0)]) hx hb dX12_put_30 hl (k := 0) rfl (by decide) (by decide) rfl (fun ls hl => ?_)
  refine lv_goto (tgt := 3) hx hb dX12_put_33 (by decide) ?_
  refine lv_iload_n hx hb dX12_put_3 rfl (lv_at hl 0 rfl) ?_
  refine lv_if_lt (tgt := 36) hx hb dX12_put_4 (by decide) (fun _ => ?_) (fun c9 => absurd (by decide) c9)
  exact endV hx hb hr hlocks [(m0, .inr (12, ((((fm.set 2 (.int 9)).set 2 (.int 10)).set 2 (.int 11)).set 2 (.int 12)))), (ata, .inl (cy 2, 2000, .inl f_12))] ⟨f_12, rfl⟩ hP hD hS (Nat.le_of_ble_eq_true rfl) (Nat.le_of_ble_eq_true rfl) dX12_put_36

set_option maxRecDepth 100000 in
set_option maxHeartbeats 4000000 in
/-- put at 12 -/
theorem c_X12_put_12 (l : Launch) (D : va_G) (cy : Nat → ClassId) (m0 : Nat) (fm : List Value) (ata : Nat) (gta : Nat → Int32) (p0 : Int32) (e_m1 : fm[1]? = some (.ref ata)) (e_m2 : fm[2]? = some (.int 12)) : Ctv l D cy yX12_put wsX12_put ({ frames := 0, cells := 0, slots := 0, locals := 0 } : Room) [.ref m0, .int p0] [(m0, .inr (12, fm)), (ata, .inl (cy 2, 2000, .inl gta))] myT (fun (w : va_W) => ∃ (gta1 : Nat → Int32), w = [(m0, .inr (12, ((((fm.set 2 (.int 13)).set 2 (.int 14)).set 2 (.int 15)).set 2 (.int 16)))), (ata, .inl (cy 2, 2000, .inl gta1))]) := by
  refine ofV (cc := cX12_put) (maxL := 3) (ret := none) (by decide) rfl (Nat.le_of_ble_eq_true rfl) ?_
  intro p e s m args below meth c A ls hx hb hr hts hown hlocks hml hin hK hP hD hS hA hX hl
  have hown : s.vm.findClass RX12 = some m.cls := hown
  have hl : lv_has ls 3 [(0, .ref m0), (1, .int p0)] := hl
  refine lv_bipush (v := 24) hx hb dX12_put_0 (by decide) ?_
  refine lv_istore_n (lv' := [(2, .int 24), (0, .ref m0), (1, .int p0)]) hx hb dX12_put_2 rfl hl (by decide) rfl (fun ls hl => ?_)
  refine lv_iload_n hx hb dX12_put_3 rfl (lv_at hl 0 rfl) ?_
  refine lv_if_lt (tgt := 36) hx hb dX12_put_4 (by decide) (fun c9 => absurd c9 (by decide)) (fun _ => ?_)
  refine lv_aload_n hx hb dX12_put_7 rfl (lv_at hl 1 rfl) ?_
  refine va_get (ci := 12) (v := .ref ata) (C := RX12) (T := TX12) (N := 90) hx hb hts in_X12_put_X12 hown hK hP 0 rfl rfl 1 (by decide) (hts (.fieldLink RX12 13 "HallTablesModel" "tape" "[B") (List.mem_of_getElem? (i := 1) rfl)) (fun _ h9 => h9) e_m1 dX12_put_8 ?_
  refine lv_aload_n hx hb dX12_put_11 rfl (lv_at hl 1 rfl) ?_
  refine va_get (ci := 12) (v := .int 12) (C := RX12) (T := TX12) (N := 90) hx hb hts in_X12_put_X12 hown hK hP 0 rfl rfl 2 (by decide) (hts (.fieldLink RX12 202 "HallTablesModel" "taped" "I") (List.mem_of_getElem? (i := 2) rfl)) (fun _ h9 => h9) e_m2 dX12_put_12 ?_
  refine lv_iload_n hx hb dX12_put_15 rfl (lv_at hl 2 rfl) ?_
  refine lv_iload_n hx hb dX12_put_16 rfl (lv_at hl 0 rfl) ?_
  refine lv_ishr hx hb dX12_put_17 ?_
  refine lv_topi (fun v_1 ev_1 => ?_)
  refine lv_i2b hx hb dX12_put_18 rfl ?_
  refine lv_topi (fun v_2 ev_2 => ?_)
  refine sB hx hb hK hP hD hS 1 rfl 12 rfl (Nat.le_of_ble_eq_true rfl) (Nat.le_of_ble_eq_true rfl) dX12_put_19 (fun H locs hP hD hS => ?_)
  have hP : va_P D vwCl [(m0, .inr (12, fm)), (ata, .inl (cy 2, 2000, .inl (upd gta 12 (vp_nar .byte v_2))))] H := hP
  have hD : va_D A [(m0, .inr (12, fm)), (ata, .inl (cy 2, 2000, .inl (upd gta 12 (vp_nar .byte v_2))))] := hD
  obtain ⟨f_3, ef_3⟩ : ∃ z, z = upd gta 12 (vp_nar .byte v_2) := ⟨_, rfl⟩
  rw [← ef_3] at hP hD
  refine lv_aload_n hx hb dX12_put_20 rfl (lv_at hl 1 rfl) ?_
  refine lv_dup hx hb dX12_put_21 rfl ?_
  refine va_get (ci := 12) (v := .int 12) (C := RX12) (T := TX12) (N := 90) hx hb hts in_X12_put_X12 hown hK hP 0 rfl rfl 2 (by decide) (hts (.fieldLink RX12 202 "HallTablesModel" "taped" "I") (List.mem_of_getElem? (i := 2) rfl)) (fun _ h9 => h9) e_m2 dX12_put_22 ?_
  refine lv_iconst (v := 1) hx hb dX12_put_25 (by decide) ?_
  refine lv_iadd hx hb dX12_put_26 ?_
  refine tpI (v := 13) (by decide) ?_
  refine va_put (ci := 12) (v := .int 13) (ty := .int) (C := RX12) (T := TX12) (N := 90) hx hb hts in_X12_put_X12 tyX12 tyX12_ok nmX12 hown hK hP hD hS 0 rfl rfl 2 (by decide) (hts (.fieldLink RX12 202 "HallTablesModel" "taped" "I") (List.mem_of_getElem? (i := 2) rfl)) (fun _ h9 => h9) rfl (by decide +kernel) rfl rfl (lt_of_at e_m2) dX12_put_27 (fun H locs hP hD hS => ?_)
  have hP : va_P D vwCl [(m0, .inr (12, (fm.set 2 (.int 13)))), (ata, .inl (cy 2, 2000, .inl f_3))] H := hP
  have hD : va_D A [(m0, .inr (12, (fm.set 2 (.int 13)))), (ata, .inl (cy 2, 2000, .inl f_3))] := hD
  refine lv_iinc (v := 16) (lv' := [(2, .int 16), (0, .ref m0), (1, .int p0)]) hx hb dX12_put_30 hl (k := 0) rfl (by decide) (by decide) rfl (fun ls hl => ?_)
  refine lv_goto (tgt := 3) hx hb dX12_put_33 (by decide) ?_
  refine lv_iload_n hx hb dX12_put_3 rfl (lv_at hl 0 rfl) ?_
  refine lv_if_lt (tgt := 36) hx hb dX12_put_4 (by decide) (fun c9 => absurd c9 (by decide)) (fun _ => ?_)
  refine lv_aload_n hx hb dX12_put_7 rfl (lv_at hl 1 rfl) ?_
  refine va_get (ci := 12) (v := .ref ata) (C := RX12) (T := TX12) (N := 90) hx hb hts in_X12_put_X12 hown hK hP 0 rfl rfl 1 (by decide) (hts (.fieldLink RX12 13 "HallTablesModel" "tape" "[B") (List.mem_of_getElem? (i := 1) rfl)) (fun _ h9 => h9) (setk e_m1 (by decide)) dX12_put_8 ?_
  refine lv_aload_n hx hb dX12_put_11 rfl (lv_at hl 1 rfl) ?_
  refine va_get (ci := 12) (v := .int 13) (C := RX12) (T := TX12) (N := 90) hx hb hts in_X12_put_X12 hown hK hP 0 rfl rfl 2 (by decide) (hts (.fieldLink RX12 202 "HallTablesModel" "taped" "I") (List.mem_of_getElem? (i := 2) rfl)) (fun _ h9 => h9) (setk_same e_m2) dX12_put_12 ?_
  refine lv_iload_n hx hb dX12_put_15 rfl (lv_at hl 2 rfl) ?_
  refine lv_iload_n hx hb dX12_put_16 rfl (lv_at hl 0 rfl) ?_
  refine lv_ishr hx hb dX12_put_17 ?_
  refine lv_topi (fun v_4 ev_4 => ?_)
  refine lv_i2b hx hb dX12_put_18 rfl ?_
  refine lv_topi (fun v_5 ev_5 => ?_)
  refine sB hx hb hK hP hD hS 1 rfl 13 rfl (Nat.le_of_ble_eq_true rfl) (Nat.le_of_ble_eq_true rfl) dX12_put_19 (fun H locs hP hD hS => ?_)
  have hP : va_P D vwCl [(m0, .inr (12, (fm.set 2 (.int 13)))), (ata, .inl (cy 2, 2000, .inl (upd f_3 13 (vp_nar .byte v_5))))] H := hP
  have hD : va_D A [(m0, .inr (12, (fm.set 2 (.int 13)))), (ata, .inl (cy 2, 2000, .inl (upd f_3 13 (vp_nar .byte v_5))))] := hD
  obtain ⟨f_6, ef_6⟩ : ∃ z, z = upd f_3 13 (vp_nar .byte v_5) := ⟨_, rfl⟩
  rw [← ef_6] at hP hD
  refine lv_aload_n hx hb dX12_put_20 rfl (lv_at hl 1 rfl) ?_
  refine lv_dup hx hb dX12_put_21 rfl ?_
  refine va_get (ci := 12) (v := .int 13) (C := RX12) (T := TX12) (N := 90) hx hb hts in_X12_put_X12 hown hK hP 0 rfl rfl 2 (by decide) (hts (.fieldLink RX12 202 "HallTablesModel" "taped" "I") (List.mem_of_getElem? (i := 2) rfl)) (fun _ h9 => h9) (setk_same e_m2) dX12_put_22 ?_
  refine lv_iconst (v := 1) hx hb dX12_put_25 (by decide) ?_
  refine lv_iadd hx hb dX12_put_26 ?_
  refine tpI (v := 14) (by decide) ?_
  refine va_put (ci := 12) (v := .int 14) (ty := .int) (C := RX12) (T := TX12) (N := 90) hx hb hts in_X12_put_X12 tyX12 tyX12_ok nmX12 hown hK hP hD hS 0 rfl rfl 2 (by decide) (hts (.fieldLink RX12 202 "HallTablesModel" "taped" "I") (List.mem_of_getElem? (i := 2) rfl)) (fun _ h9 => h9) rfl (by decide +kernel) rfl rfl (lt_of_at (setk_same e_m2)) dX12_put_27 (fun H locs hP hD hS => ?_)
  have hP : va_P D vwCl [(m0, .inr (12, ((fm.set 2 (.int 13)).set 2 (.int 14)))), (ata, .inl (cy 2, 2000, .inl f_6))] H := hP
  have hD : va_D A [(m0, .inr (12, ((fm.set 2 (.int 13)).set 2 (.int 14)))), (ata, .inl (cy 2, 2000, .inl f_6))] := hD
  refine lv_iinc (v := 8) (lv' := [(2, .int 8), (0, .ref m0), (1, .int p0)]) hx hb dX12_put_30 hl (k := 0) rfl (by decide) (by decide) rfl (fun ls hl => ?_)
  refine lv_goto (tgt := 3) hx hb dX12_put_33 (by decide) ?_
  refine lv_iload_n hx hb dX12_put_3 rfl (lv_at hl 0 rfl) ?_
  refine lv_if_lt (tgt := 36) hx hb dX12_put_4 (by decide) (fun c9 => absurd c9 (by decide)) (fun _ => ?_)
  refine lv_aload_n hx hb dX12_put_7 rfl (lv_at hl 1 rfl) ?_
  refine va_get (ci := 12) (v := .ref ata) (C := RX12) (T := TX12) (N := 90) hx hb hts in_X12_put_X12 hown hK hP 0 rfl rfl 1 (by decide) (hts (.fieldLink RX12 13 "HallTablesModel" "tape" "[B") (List.mem_of_getElem? (i := 1) rfl)) (fun _ h9 => h9) (setk (setk e_m1 (by decide)) (by decide)) dX12_put_8 ?_
  refine lv_aload_n hx hb dX12_put_11 rfl (lv_at hl 1 rfl) ?_
  refine va_get (ci := 12) (v := .int 14) (C := RX12) (T := TX12) (N := 90) hx hb hts in_X12_put_X12 hown hK hP 0 rfl rfl 2 (by decide) (hts (.fieldLink RX12 202 "HallTablesModel" "taped" "I") (List.mem_of_getElem? (i := 2) rfl)) (fun _ h9 => h9) (setk_same (setk_same e_m2)) dX12_put_12 ?_
  refine lv_iload_n hx hb dX12_put_15 rfl (lv_at hl 2 rfl) ?_
  refine lv_iload_n hx hb dX12_put_16 rfl (lv_at hl 0 rfl) ?_
  refine lv_ishr hx hb dX12_put_17 ?_
  refine lv_topi (fun v_7 ev_7 => ?_)
  refine lv_i2b hx hb dX12_put_18 rfl ?_
  refine lv_topi (fun v_8 ev_8 => ?_)
  refine sB hx hb hK hP hD hS 1 rfl 14 rfl (Nat.le_of_ble_eq_true rfl) (Nat.le_of_ble_eq_true rfl) dX12_put_19 (fun H locs hP hD hS => ?_)
  have hP : va_P D vwCl [(m0, .inr (12, ((fm.set 2 (.int 13)).set 2 (.int 14)))), (ata, .inl (cy 2, 2000, .inl (upd f_6 14 (vp_nar .byte v_8))))] H := hP
  have hD : va_D A [(m0, .inr (12, ((fm.set 2 (.int 13)).set 2 (.int 14)))), (ata, .inl (cy 2, 2000, .inl (upd f_6 14 (vp_nar .byte v_8))))] := hD
  obtain ⟨f_9, ef_9⟩ : ∃ z, z = upd f_6 14 (vp_nar .byte v_8) := ⟨_, rfl⟩
  rw [← ef_9] at hP hD
  refine lv_aload_n hx hb dX12_put_20 rfl (lv_at hl 1 rfl) ?_
  refine lv_dup hx hb dX12_put_21 rfl ?_
  refine va_get (ci := 12) (v := .int 14) (C := RX12) (T := TX12) (N := 90) hx hb hts in_X12_put_X12 hown hK hP 0 rfl rfl 2 (by decide) (hts (.fieldLink RX12 202 "HallTablesModel" "taped" "I") (List.mem_of_getElem? (i := 2) rfl)) (fun _ h9 => h9) (setk_same (setk_same e_m2)) dX12_put_22 ?_
  refine lv_iconst (v := 1) hx hb dX12_put_25 (by decide) ?_
  refine lv_iadd hx hb dX12_put_26 ?_
  refine tpI (v := 15) (by decide) ?_
  refine va_put (ci := 12) (v := .int 15) (ty := .int) (C := RX12) (T := TX12) (N := 90) hx hb hts in_X12_put_X12 tyX12 tyX12_ok nmX12 hown hK hP hD hS 0 rfl rfl 2 (by decide) (hts (.fieldLink RX12 202 "HallTablesModel" "taped" "I") (List.mem_of_getElem? (i := 2) rfl)) (fun _ h9 => h9) rfl (by decide +kernel) rfl rfl (lt_of_at (setk_same (setk_same e_m2))) dX12_put_27 (fun H locs hP hD hS => ?_)
  have hP : va_P D vwCl [(m0, .inr (12, (((fm.set 2 (.int 13)).set 2 (.int 14)).set 2 (.int 15)))), (ata, .inl (cy 2, 2000, .inl f_9))] H := hP
  have hD : va_D A [(m0, .inr (12, (((fm.set 2 (.int 13)).set 2 (.int 14)).set 2 (.int 15)))), (ata, .inl (cy 2, 2000, .inl f_9))] := hD
  refine lv_iinc (v := 0) (lv' := [(2, .int 0), (0, .ref m0), (1, .int p0)]) hx hb dX12_put_30 hl (k := 0) rfl (by decide) (by decide) rfl (fun ls hl => ?_)
  refine lv_goto (tgt := 3) hx hb dX12_put_33 (by decide) ?_
  refine lv_iload_n hx hb dX12_put_3 rfl (lv_at hl 0 rfl) ?_
  refine lv_if_lt (tgt := 36) hx hb dX12_put_4 (by decide) (fun c9 => absurd c9 (by decide)) (fun _ => ?_)
  refine lv_aload_n hx hb dX12_put_7 rfl (lv_at hl 1 rfl) ?_
  refine va_get (ci := 12) (v := .ref ata) (C := RX12) (T := TX12) (N := 90) hx hb hts in_X12_put_X12 hown hK hP 0 rfl rfl 1 (by decide) (hts (.fieldLink RX12 13 "HallTablesModel" "tape" "[B") (List.mem_of_getElem? (i := 1) rfl)) (fun _ h9 => h9) (setk (setk (setk e_m1 (by decide)) (by decide)) (by decide)) dX12_put_8 ?_
  refine lv_aload_n hx hb dX12_put_11 rfl (lv_at hl 1 rfl) ?_
  refine va_get (ci := 12) (v := .int 15) (C := RX12) (T := TX12) (N := 90) hx hb hts in_X12_put_X12 hown hK hP 0 rfl rfl 2 (by decide) (hts (.fieldLink RX12 202 "HallTablesModel" "taped" "I") (List.mem_of_getElem? (i := 2) rfl)) (fun _ h9 => h9) (setk_same (setk_same (setk_same e_m2))) dX12_put_12 ?_
  refine lv_iload_n hx hb dX12_put_15 rfl (lv_at hl 2 rfl) ?_
  refine lv_iload_n hx hb dX12_put_16 rfl (lv_at hl 0 rfl) ?_
  refine lv_ishr hx hb dX12_put_17 ?_
  refine lv_topi (fun v_10 ev_10 => ?_)
  refine lv_i2b hx hb dX12_put_18 rfl ?_
  refine lv_topi (fun v_11 ev_11 => ?_)
  refine sB hx hb hK hP hD hS 1 rfl 15 rfl (Nat.le_of_ble_eq_true rfl) (Nat.le_of_ble_eq_true rfl) dX12_put_19 (fun H locs hP hD hS => ?_)
  have hP : va_P D vwCl [(m0, .inr (12, (((fm.set 2 (.int 13)).set 2 (.int 14)).set 2 (.int 15)))), (ata, .inl (cy 2, 2000, .inl (upd f_9 15 (vp_nar .byte v_11))))] H := hP
  have hD : va_D A [(m0, .inr (12, (((fm.set 2 (.int 13)).set 2 (.int 14)).set 2 (.int 15)))), (ata, .inl (cy 2, 2000, .inl (upd f_9 15 (vp_nar .byte v_11))))] := hD
  obtain ⟨f_12, ef_12⟩ : ∃ z, z = upd f_9 15 (vp_nar .byte v_11) := ⟨_, rfl⟩
  rw [← ef_12] at hP hD
  refine lv_aload_n hx hb dX12_put_20 rfl (lv_at hl 1 rfl) ?_
  refine lv_dup hx hb dX12_put_21 rfl ?_
  refine va_get (ci := 12) (v := .int 15) (C := RX12) (T := TX12) (N := 90) hx hb hts in_X12_put_X12 hown hK hP 0 rfl rfl 2 (by decide) (hts (.fieldLink RX12 202 "HallTablesModel" "taped" "I") (List.mem_of_getElem? (i := 2) rfl)) (fun _ h9 => h9) (setk_same (setk_same (setk_same e_m2))) dX12_put_22 ?_
  refine lv_iconst (v := 1) hx hb dX12_put_25 (by decide) ?_
  refine lv_iadd hx hb dX12_put_26 ?_
  refine tpI (v := 16) (by decide) ?_
  refine va_put (ci := 12) (v := .int 16) (ty := .int) (C := RX12) (T := TX12) (N := 90) hx hb hts in_X12_put_X12 tyX12 tyX12_ok nmX12 hown hK hP hD hS 0 rfl rfl 2 (by decide) (hts (.fieldLink RX12 202 "HallTablesModel" "taped" "I") (List.mem_of_getElem? (i := 2) rfl)) (fun _ h9 => h9) rfl (by decide +kernel) rfl rfl (lt_of_at (setk_same (setk_same (setk_same e_m2)))) dX12_put_27 (fun H locs hP hD hS => ?_)
  have hP : va_P D vwCl [(m0, .inr (12, ((((fm.set 2 (.int 13)).set 2 (.int 14)).set 2 (.int 15)).set 2 (.int 16)))), (ata, .inl (cy 2, 2000, .inl f_12))] H := hP
  have hD : va_D A [(m0, .inr (12, ((((fm.set 2 (.int 13)).set 2 (.int 14)).set 2 (.int 15)).set 2 (.int 16)))), (ata, .inl (cy 2, 2000, .inl f_12))] := hD
  refine lv_iinc (v := (-8)) (lv' := [(2, .int (-8)), (0, .ref m0), (1, .int p0)]) hx hb dX12_put_30 hl (k := 0) rfl (by decide) (by decide) rfl (fun ls hl => ?_)
  refine lv_goto (tgt := 3) hx hb dX12_put_33 (by decide) ?_
  refine lv_iload_n hx hb dX12_put_3 rfl (lv_at hl 0 rfl) ?_
  refine lv_if_lt (tgt := 36) hx hb dX12_put_4 (by decide) (fun _ => ?_) (fun c9 => absurd (by decide) c9)
  exact endV hx hb hr hlocks [(m0, .inr (12, ((((fm.set 2 (.int 13)).set 2 (.int 14)).set 2 (.int 15)).set 2 (.int 16)))), (ata, .inl (cy 2, 2000, .inl f_12))] ⟨f_12, rfl⟩ hP hD hS (Nat.le_of_ble_eq_true rfl) (Nat.le_of_ble_eq_true rfl) dX12_put_36

set_option maxRecDepth 100000 in
set_option maxHeartbeats 4000000 in
/-- put at 16 -/
theorem c_X12_put_16 (l : Launch) (D : va_G) (cy : Nat → ClassId) (m0 : Nat) (fm : List Value) (ata : Nat) (gta : Nat → Int32) (p0 : Int32) (e_m1 : fm[1]? = some (.ref ata)) (e_m2 : fm[2]? = some (.int 16)) : Ctv l D cy yX12_put wsX12_put ({ frames := 0, cells := 0, slots := 0, locals := 0 } : Room) [.ref m0, .int p0] [(m0, .inr (12, fm)), (ata, .inl (cy 2, 2000, .inl gta))] myT (fun (w : va_W) => ∃ (gta1 : Nat → Int32), w = [(m0, .inr (12, ((((fm.set 2 (.int 17)).set 2 (.int 18)).set 2 (.int 19)).set 2 (.int 20)))), (ata, .inl (cy 2, 2000, .inl gta1))]) := by
  refine ofV (cc := cX12_put) (maxL := 3) (ret := none) (by decide) rfl (Nat.le_of_ble_eq_true rfl) ?_
  intro p e s m args below meth c A ls hx hb hr hts hown hlocks hml hin hK hP hD hS hA hX hl
  have hown : s.vm.findClass RX12 = some m.cls := hown
  have hl : lv_has ls 3 [(0, .ref m0), (1, .int p0)] := hl
  refine lv_bipush (v := 24) hx hb dX12_put_0 (by decide) ?_
  refine lv_istore_n (lv' := [(2, .int 24), (0, .ref m0), (1, .int p0)]) hx hb dX12_put_2 rfl hl (by decide) rfl (fun ls hl => ?_)
  refine lv_iload_n hx hb dX12_put_3 rfl (lv_at hl 0 rfl) ?_
  refine lv_if_lt (tgt := 36) hx hb dX12_put_4 (by decide) (fun c9 => absurd c9 (by decide)) (fun _ => ?_)
  refine lv_aload_n hx hb dX12_put_7 rfl (lv_at hl 1 rfl) ?_
  refine va_get (ci := 12) (v := .ref ata) (C := RX12) (T := TX12) (N := 90) hx hb hts in_X12_put_X12 hown hK hP 0 rfl rfl 1 (by decide) (hts (.fieldLink RX12 13 "HallTablesModel" "tape" "[B") (List.mem_of_getElem? (i := 1) rfl)) (fun _ h9 => h9) e_m1 dX12_put_8 ?_
  refine lv_aload_n hx hb dX12_put_11 rfl (lv_at hl 1 rfl) ?_
  refine va_get (ci := 12) (v := .int 16) (C := RX12) (T := TX12) (N := 90) hx hb hts in_X12_put_X12 hown hK hP 0 rfl rfl 2 (by decide) (hts (.fieldLink RX12 202 "HallTablesModel" "taped" "I") (List.mem_of_getElem? (i := 2) rfl)) (fun _ h9 => h9) e_m2 dX12_put_12 ?_
  refine lv_iload_n hx hb dX12_put_15 rfl (lv_at hl 2 rfl) ?_
  refine lv_iload_n hx hb dX12_put_16 rfl (lv_at hl 0 rfl) ?_
  refine lv_ishr hx hb dX12_put_17 ?_
  refine lv_topi (fun v_1 ev_1 => ?_)
  refine lv_i2b hx hb dX12_put_18 rfl ?_
  refine lv_topi (fun v_2 ev_2 => ?_)
  refine sB hx hb hK hP hD hS 1 rfl 16 rfl (Nat.le_of_ble_eq_true rfl) (Nat.le_of_ble_eq_true rfl) dX12_put_19 (fun H locs hP hD hS => ?_)
  have hP : va_P D vwCl [(m0, .inr (12, fm)), (ata, .inl (cy 2, 2000, .inl (upd gta 16 (vp_nar .byte v_2))))] H := hP
  have hD : va_D A [(m0, .inr (12, fm)), (ata, .inl (cy 2, 2000, .inl (upd gta 16 (vp_nar .byte v_2))))] := hD
  obtain ⟨f_3, ef_3⟩ : ∃ z, z = upd gta 16 (vp_nar .byte v_2) := ⟨_, rfl⟩
  rw [← ef_3] at hP hD
  refine lv_aload_n hx hb dX12_put_20 rfl (lv_at hl 1 rfl) ?_
  refine lv_dup hx hb dX12_put_21 rfl ?_
  refine va_get (ci := 12) (v := .int 16) (C := RX12) (T := TX12) (N := 90) hx hb hts in_X12_put_X12 hown hK hP 0 rfl rfl 2 (by decide) (hts (.fieldLink RX12 202 "HallTablesModel" "taped" "I") (List.mem_of_getElem? (i := 2) rfl)) (fun _ h9 => h9) e_m2 dX12_put_22 ?_
  refine lv_iconst (v := 1) hx hb dX12_put_25 (by decide) ?_
  refine lv_iadd hx hb dX12_put_26 ?_
  refine tpI (v := 17) (by decide) ?_
  refine va_put (ci := 12) (v := .int 17) (ty := .int) (C := RX12) (T := TX12) (N := 90) hx hb hts in_X12_put_X12 tyX12 tyX12_ok nmX12 hown hK hP hD hS 0 rfl rfl 2 (by decide) (hts (.fieldLink RX12 202 "HallTablesModel" "taped" "I") (List.mem_of_getElem? (i := 2) rfl)) (fun _ h9 => h9) rfl (by decide +kernel) rfl rfl (lt_of_at e_m2) dX12_put_27 (fun H locs hP hD hS => ?_)
  have hP : va_P D vwCl [(m0, .inr (12, (fm.set 2 (.int 17)))), (ata, .inl (cy 2, 2000, .inl f_3))] H := hP
  have hD : va_D A [(m0, .inr (12, (fm.set 2 (.int 17)))), (ata, .inl (cy 2, 2000, .inl f_3))] := hD
  refine lv_iinc (v := 16) (lv' := [(2, .int 16), (0, .ref m0), (1, .int p0)]) hx hb dX12_put_30 hl (k := 0) rfl (by decide) (by decide) rfl (fun ls hl => ?_)
  refine lv_goto (tgt := 3) hx hb dX12_put_33 (by decide) ?_
  refine lv_iload_n hx hb dX12_put_3 rfl (lv_at hl 0 rfl) ?_
  refine lv_if_lt (tgt := 36) hx hb dX12_put_4 (by decide) (fun c9 => absurd c9 (by decide)) (fun _ => ?_)
  refine lv_aload_n hx hb dX12_put_7 rfl (lv_at hl 1 rfl) ?_
  refine va_get (ci := 12) (v := .ref ata) (C := RX12) (T := TX12) (N := 90) hx hb hts in_X12_put_X12 hown hK hP 0 rfl rfl 1 (by decide) (hts (.fieldLink RX12 13 "HallTablesModel" "tape" "[B") (List.mem_of_getElem? (i := 1) rfl)) (fun _ h9 => h9) (setk e_m1 (by decide)) dX12_put_8 ?_
  refine lv_aload_n hx hb dX12_put_11 rfl (lv_at hl 1 rfl) ?_
  refine va_get (ci := 12) (v := .int 17) (C := RX12) (T := TX12) (N := 90) hx hb hts in_X12_put_X12 hown hK hP 0 rfl rfl 2 (by decide) (hts (.fieldLink RX12 202 "HallTablesModel" "taped" "I") (List.mem_of_getElem? (i := 2) rfl)) (fun _ h9 => h9) (setk_same e_m2) dX12_put_12 ?_
  refine lv_iload_n hx hb dX12_put_15 rfl (lv_at hl 2 rfl) ?_
  refine lv_iload_n hx hb dX12_put_16 rfl (lv_at hl 0 rfl) ?_
  refine lv_ishr hx hb dX12_put_17 ?_
  refine lv_topi (fun v_4 ev_4 => ?_)
  refine lv_i2b hx hb dX12_put_18 rfl ?_
  refine lv_topi (fun v_5 ev_5 => ?_)
  refine sB hx hb hK hP hD hS 1 rfl 17 rfl (Nat.le_of_ble_eq_true rfl) (Nat.le_of_ble_eq_true rfl) dX12_put_19 (fun H locs hP hD hS => ?_)
  have hP : va_P D vwCl [(m0, .inr (12, (fm.set 2 (.int 17)))), (ata, .inl (cy 2, 2000, .inl (upd f_3 17 (vp_nar .byte v_5))))] H := hP
  have hD : va_D A [(m0, .inr (12, (fm.set 2 (.int 17)))), (ata, .inl (cy 2, 2000, .inl (upd f_3 17 (vp_nar .byte v_5))))] := hD
  obtain ⟨f_6, ef_6⟩ : ∃ z, z = upd f_3 17 (vp_nar .byte v_5) := ⟨_, rfl⟩
  rw [← ef_6] at hP hD
  refine lv_aload_n hx hb dX12_put_20 rfl (lv_at hl 1 rfl) ?_
  refine lv_dup hx hb dX12_put_21 rfl ?_
  refine va_get (ci := 12) (v := .int 17) (C := RX12) (T := TX12) (N := 90) hx hb hts in_X12_put_X12 hown hK hP 0 rfl rfl 2 (by decide) (hts (.fieldLink RX12 202 "HallTablesModel" "taped" "I") (List.mem_of_getElem? (i := 2) rfl)) (fun _ h9 => h9) (setk_same e_m2) dX12_put_22 ?_
  refine lv_iconst (v := 1) hx hb dX12_put_25 (by decide) ?_
  refine lv_iadd hx hb dX12_put_26 ?_
  refine tpI (v := 18) (by decide) ?_
  refine va_put (ci := 12) (v := .int 18) (ty := .int) (C := RX12) (T := TX12) (N := 90) hx hb hts in_X12_put_X12 tyX12 tyX12_ok nmX12 hown hK hP hD hS 0 rfl rfl 2 (by decide) (hts (.fieldLink RX12 202 "HallTablesModel" "taped" "I") (List.mem_of_getElem? (i := 2) rfl)) (fun _ h9 => h9) rfl (by decide +kernel) rfl rfl (lt_of_at (setk_same e_m2)) dX12_put_27 (fun H locs hP hD hS => ?_)
  have hP : va_P D vwCl [(m0, .inr (12, ((fm.set 2 (.int 17)).set 2 (.int 18)))), (ata, .inl (cy 2, 2000, .inl f_6))] H := hP
  have hD : va_D A [(m0, .inr (12, ((fm.set 2 (.int 17)).set 2 (.int 18)))), (ata, .inl (cy 2, 2000, .inl f_6))] := hD
  refine lv_iinc (v := 8) (lv' := [(2, .int 8), (0, .ref m0), (1, .int p0)]) hx hb dX12_put_30 hl (k := 0) rfl (by decide) (by decide) rfl (fun ls hl => ?_)
  refine lv_goto (tgt := 3) hx hb dX12_put_33 (by decide) ?_
  refine lv_iload_n hx hb dX12_put_3 rfl (lv_at hl 0 rfl) ?_
  refine lv_if_lt (tgt := 36) hx hb dX12_put_4 (by decide) (fun c9 => absurd c9 (by decide)) (fun _ => ?_)
  refine lv_aload_n hx hb dX12_put_7 rfl (lv_at hl 1 rfl) ?_
  refine va_get (ci := 12) (v := .ref ata) (C := RX12) (T := TX12) (N := 90) hx hb hts in_X12_put_X12 hown hK hP 0 rfl rfl 1 (by decide) (hts (.fieldLink RX12 13 "HallTablesModel" "tape" "[B") (List.mem_of_getElem? (i := 1) rfl)) (fun _ h9 => h9) (setk (setk e_m1 (by decide)) (by decide)) dX12_put_8 ?_
  refine lv_aload_n hx hb dX12_put_11 rfl (lv_at hl 1 rfl) ?_
  refine va_get (ci := 12) (v := .int 18) (C := RX12) (T := TX12) (N := 90) hx hb hts in_X12_put_X12 hown hK hP 0 rfl rfl 2 (by decide) (hts (.fieldLink RX12 202 "HallTablesModel" "taped" "I") (List.mem_of_getElem? (i := 2) rfl)) (fun _ h9 => h9) (setk_same (setk_same e_m2)) dX12_put_12 ?_
  refine lv_iload_n hx hb dX12_put_15 rfl (lv_at hl 2 rfl) ?_
  refine lv_iload_n hx hb dX12_put_16 rfl (lv_at hl 0 rfl) ?_
  refine lv_ishr hx hb dX12_put_17 ?_
  refine lv_topi (fun v_7 ev_7 => ?_)
  refine lv_i2b hx hb dX12_put_18 rfl ?_
  refine lv_topi (fun v_8 ev_8 => ?_)
  refine sB hx hb hK hP hD hS 1 rfl 18 rfl (Nat.le_of_ble_eq_true rfl) (Nat.le_of_ble_eq_true rfl) dX12_put_19 (fun H locs hP hD hS => ?_)
  have hP : va_P D vwCl [(m0, .inr (12, ((fm.set 2 (.int 17)).set 2 (.int 18)))), (ata, .inl (cy 2, 2000, .inl (upd f_6 18 (vp_nar .byte v_8))))] H := hP
  have hD : va_D A [(m0, .inr (12, ((fm.set 2 (.int 17)).set 2 (.int 18)))), (ata, .inl (cy 2, 2000, .inl (upd f_6 18 (vp_nar .byte v_8))))] := hD
  obtain ⟨f_9, ef_9⟩ : ∃ z, z = upd f_6 18 (vp_nar .byte v_8) := ⟨_, rfl⟩
  rw [← ef_9] at hP hD
  refine lv_aload_n hx hb dX12_put_20 rfl (lv_at hl 1 rfl) ?_
  refine lv_dup hx hb dX12_put_21 rfl ?_
  refine va_get (ci := 12) (v := .int 18) (C := RX12) (T := TX12) (N := 90) hx hb hts in_X12_put_X12 hown hK hP 0 rfl rfl 2 (by decide) (hts (.fieldLink RX12 202 "HallTablesModel" "taped" "I") (List.mem_of_getElem? (i := 2) rfl)) (fun _ h9 => h9) (setk_same (setk_same e_m2)) dX12_put_22 ?_
  refine lv_iconst (v := 1) hx hb dX12_put_25 (by decide) ?_
  refine lv_iadd hx hb dX12_put_26 ?_
  refine tpI (v := 19) (by decide) ?_
  refine va_put (ci := 12) (v := .int 19) (ty := .int) (C := RX12) (T := TX12) (N := 90) hx hb hts in_X12_put_X12 tyX12 tyX12_ok nmX12 hown hK hP hD hS 0 rfl rfl 2 (by decide) (hts (.fieldLink RX12 202 "HallTablesModel" "taped" "I") (List.mem_of_getElem? (i := 2) rfl)) (fun _ h9 => h9) rfl (by decide +kernel) rfl rfl (lt_of_at (setk_same (setk_same e_m2))) dX12_put_27 (fun H locs hP hD hS => ?_)
  have hP : va_P D vwCl [(m0, .inr (12, (((fm.set 2 (.int 17)).set 2 (.int 18)).set 2 (.int 19)))), (ata, .inl (cy 2, 2000, .inl f_9))] H := hP
  have hD : va_D A [(m0, .inr (12, (((fm.set 2 (.int 17)).set 2 (.int 18)).set 2 (.int 19)))), (ata, .inl (cy 2, 2000, .inl f_9))] := hD
  refine lv_iinc (v := 0) (lv' := [(2, .int 0), (0, .ref m0), (1, .int p0)]) hx hb dX12_put_30 hl (k := 0) rfl (by decide) (by decide) rfl (fun ls hl => ?_)
  refine lv_goto (tgt := 3) hx hb dX12_put_33 (by decide) ?_
  refine lv_iload_n hx hb dX12_put_3 rfl (lv_at hl 0 rfl) ?_
  refine lv_if_lt (tgt := 36) hx hb dX12_put_4 (by decide) (fun c9 => absurd c9 (by decide)) (fun _ => ?_)
  refine lv_aload_n hx hb dX12_put_7 rfl (lv_at hl 1 rfl) ?_
  refine va_get (ci := 12) (v := .ref ata) (C := RX12) (T := TX12) (N := 90) hx hb hts in_X12_put_X12 hown hK hP 0 rfl rfl 1 (by decide) (hts (.fieldLink RX12 13 "HallTablesModel" "tape" "[B") (List.mem_of_getElem? (i := 1) rfl)) (fun _ h9 => h9) (setk (setk (setk e_m1 (by decide)) (by decide)) (by decide)) dX12_put_8 ?_
  refine lv_aload_n hx hb dX12_put_11 rfl (lv_at hl 1 rfl) ?_
  refine va_get (ci := 12) (v := .int 19) (C := RX12) (T := TX12) (N := 90) hx hb hts in_X12_put_X12 hown hK hP 0 rfl rfl 2 (by decide) (hts (.fieldLink RX12 202 "HallTablesModel" "taped" "I") (List.mem_of_getElem? (i := 2) rfl)) (fun _ h9 => h9) (setk_same (setk_same (setk_same e_m2))) dX12_put_12 ?_
  refine lv_iload_n hx hb dX12_put_15 rfl (lv_at hl 2 rfl) ?_
  refine lv_iload_n hx hb dX12_put_16 rfl (lv_at hl 0 rfl) ?_
  refine lv_ishr hx hb dX12_put_17 ?_
  refine lv_topi (fun v_10 ev_10 => ?_)
  refine lv_i2b hx hb dX12_put_18 rfl ?_
  refine lv_topi (fun v_11 ev_11 => ?_)
  refine sB hx hb hK hP hD hS 1 rfl 19 rfl (Nat.le_of_ble_eq_true rfl) (Nat.le_of_ble_eq_true rfl) dX12_put_19 (fun H locs hP hD hS => ?_)
  have hP : va_P D vwCl [(m0, .inr (12, (((fm.set 2 (.int 17)).set 2 (.int 18)).set 2 (.int 19)))), (ata, .inl (cy 2, 2000, .inl (upd f_9 19 (vp_nar .byte v_11))))] H := hP
  have hD : va_D A [(m0, .inr (12, (((fm.set 2 (.int 17)).set 2 (.int 18)).set 2 (.int 19)))), (ata, .inl (cy 2, 2000, .inl (upd f_9 19 (vp_nar .byte v_11))))] := hD
  obtain ⟨f_12, ef_12⟩ : ∃ z, z = upd f_9 19 (vp_nar .byte v_11) := ⟨_, rfl⟩
  rw [← ef_12] at hP hD
  refine lv_aload_n hx hb dX12_put_20 rfl (lv_at hl 1 rfl) ?_
  refine lv_dup hx hb dX12_put_21 rfl ?_
  refine va_get (ci := 12) (v := .int 19) (C := RX12) (T := TX12) (N := 90) hx hb hts in_X12_put_X12 hown hK hP 0 rfl rfl 2 (by decide) (hts (.fieldLink RX12 202 "HallTablesModel" "taped" "I") (List.mem_of_getElem? (i := 2) rfl)) (fun _ h9 => h9) (setk_same (setk_same (setk_same e_m2))) dX12_put_22 ?_
  refine lv_iconst (v := 1) hx hb dX12_put_25 (by decide) ?_
  refine lv_iadd hx hb dX12_put_26 ?_
  refine tpI (v := 20) (by decide) ?_
  refine va_put (ci := 12) (v := .int 20) (ty := .int) (C := RX12) (T := TX12) (N := 90) hx hb hts in_X12_put_X12 tyX12 tyX12_ok nmX12 hown hK hP hD hS 0 rfl rfl 2 (by decide) (hts (.fieldLink RX12 202 "HallTablesModel" "taped" "I") (List.mem_of_getElem? (i := 2) rfl)) (fun _ h9 => h9) rfl (by decide +kernel) rfl rfl (lt_of_at (setk_same (setk_same (setk_same e_m2)))) dX12_put_27 (fun H locs hP hD hS => ?_)
  have hP : va_P D vwCl [(m0, .inr (12, ((((fm.set 2 (.int 17)).set 2 (.int 18)).set 2 (.int 19)).set 2 (.int 20)))), (ata, .inl (cy 2, 2000, .inl f_12))] H := hP
  have hD : va_D A [(m0, .inr (12, ((((fm.set 2 (.int 17)).set 2 (.int 18)).set 2 (.int 19)).set 2 (.int 20)))), (ata, .inl (cy 2, 2000, .inl f_12))] := hD
  refine lv_iinc (v := (-8)) (lv' := [(2, .int (-8)), (0, .ref m0), (1, .int p0)]) hx hb dX12_put_30 hl (k := 0) rfl (by decide) (by decide) rfl (fun ls hl => ?_)
  refine lv_goto (tgt := 3) hx hb dX12_put_33 (by decide) ?_
  refine lv_iload_n hx hb dX12_put_3 rfl (lv_at hl 0 rfl) ?_
  refine lv_if_lt (tgt := 36) hx hb dX12_put_4 (by decide) (fun _ => ?_) (fun c9 => absurd (by decide) c9)
  exact endV hx hb hr hlocks [(m0, .inr (12, ((((fm.set 2 (.int 17)).set 2 (.int 18)).set 2 (.int 19)).set 2 (.int 20)))), (ata, .inl (cy 2, 2000, .inl f_12))] ⟨f_12, rfl⟩ hP hD hS (Nat.le_of_ble_eq_true rfl) (Nat.le_of_ble_eq_true rfl) dX12_put_36

theorem in_X12_feed_X12 : ∀ w ∈ u_ws RX12 TX12 90, w ∈ wsX12_feed := fun w h => (List.mem_cons_of_mem _ (List.mem_append_right _ h))
set_option maxRecDepth 100000 in
set_option maxHeartbeats 4000000 in
/-- the reference: feed on a new object: 20 -/
theorem c_X12_feed (l : Launch) (D : va_G) (cy : Nat → ClassId) (m0 : Nat) (fm : List Value) (ata : Nat) (gta : Nat → Int32) (p0 : Int32) (p1 : Int32) (p2 : Int32) (p3 : Int32) (p4 : Int32) (e_m1 : fm[1]? = some (.ref ata)) (e_m2 : fm[2]? = some (.int 0)) : Cti l D cy yX12_feed wsX12_feed ({ frames := 1, cells := 0, slots := 0, locals := 22 } : Room) [.ref m0, .int p0, .int p1, .int p2, .int p3, .int p4] [(m0, .inr (12, fm)), (ata, .inl (cy 2, 2000, .inl gta))] myT (fun (r : Int32) (w : va_W) => r = 20 ∧ w = []) := by
  refine ofI (cc := cX12_feed) (maxL := 6) (ret := (some .int)) (by decide) rfl (Nat.le_of_ble_eq_true rfl) ?_
  intro p e s m args below meth c A ls hx hb hr hts hown hlocks hml hin hK hP hD hS hA hX hl
  have hown : s.vm.findClass RX12 = some m.cls := hown
  have hl : lv_has ls 6 [(0, .ref m0), (1, .int p0), (2, .int p1), (3, .int p2), (4, .int p3), (5, .int p4)] := hl
  refine lv_aload_n hx hb dX12_feed_0 rfl (lv_at hl 0 rfl) ?_
  refine va_get (ci := 12) (v := .int 0) (C := RX12) (T := TX12) (N := 90) hx hb hts in_X12_feed_X12 hown hK hP 0 rfl rfl 2 (by decide) (hts (.fieldLink RX12 202 "HallTablesModel" "taped" "I") (List.mem_of_getElem? (i := 1) rfl)) (fun _ h9 => h9) e_m2 dX12_feed_1 ?_
  refine lv_bipush (v := 20) hx hb dX12_feed_4 (by decide) ?_
  refine lv_iadd hx hb dX12_feed_6 ?_
  refine tpI (v := 20) (by decide) ?_
  refine lv_sipush (v := 2000) hx hb dX12_feed_7 (by decide) ?_
  refine lv_icmp_le (tgt := 15) hx hb dX12_feed_10 (by decide) (fun _ => ?_) (fun c9 => absurd (by decide) c9)
  refine lv_aload_n hx hb dX12_feed_15 rfl (lv_at hl 0 rfl) ?_
  refine lv_iload_n hx hb dX12_feed_16 rfl (lv_at hl 1 rfl) ?_
  refine cVv (As := [.int p0]) (rest := []) (wr := []) ⟨hx, hb, hml, hown, hts⟩ (c_X12_put_0 l D cy m0 fm ata gta p0 e_m1 e_m2) (cwV 1 hts gX12_feed_X12_put rfl rfl rfl (by decide +kernel) ⟨Nat.le_of_ble_eq_true rfl, Nat.le_of_ble_eq_true rfl⟩) hK hP hD hS hA [0, 1] [] ⟨rfl, rfl, by decide +kernel, by decide +kernel, by decide +kernel⟩ 0 12 rfl rfl myX_T rfl hl.1 rfl (Nat.le_of_ble_eq_true rfl) dX12_feed_17 ⟨Nat.le_of_ble_eq_true rfl, Nat.le_of_ble_eq_true rfl⟩ (fun w_1 H locs hw hP hD hS => ?_)
  obtain ⟨gta_2, rfl⟩ := hw
  have hP : va_P D vwCl [(m0, .inr (12, ((((fm.set 2 (.int 1)).set 2 (.int 2)).set 2 (.int 3)).set 2 (.int 4)))), (ata, .inl (cy 2, 2000, .inl gta_2))] H := hP
  have hD : va_D A [(m0, .inr (12, ((((fm.set 2 (.int 1)).set 2 (.int 2)).set 2 (.int 3)).set 2 (.int 4)))), (ata, .inl (cy 2, 2000, .inl gta_2))] := hD
  refine lv_aload_n hx hb dX12_feed_20 rfl (lv_at hl 0 rfl) ?_
  refine lv_iload_n hx hb dX12_feed_21 rfl (lv_at hl 2 rfl) ?_
  refine cVv (As := [.int p1]) (rest := []) (wr := []) ⟨hx, hb, hml, hown, hts⟩ (c_X12_put_4 l D cy m0 ((((fm.set 2 (.int 1)).set 2 (.int 2)).set 2 (.int 3)).set 2 (.int 4)) ata gta_2 p1 (setk (setk (setk (setk e_m1 (by decide)) (by decide)) (by decide)) (by decide)) (setk_same (setk_same (setk_same (setk_same e_m2))))) (cwV 1 hts gX12_feed_X12_put rfl rfl rfl (by decide +kernel) ⟨Nat.le_of_ble_eq_true rfl, Nat.le_of_ble_eq_true rfl⟩) hK hP hD hS hA [0, 1] [] ⟨rfl, rfl, by decide +kernel, by decide +kernel, by decide +kernel⟩ 0 12 rfl rfl myX_T rfl hl.1 rfl (Nat.le_of_ble_eq_true rfl) dX12_feed_22 ⟨Nat.le_of_ble_eq_true rfl, Nat.le_of_ble_eq_true rfl⟩ (fun w_3 H locs hw hP hD hS => ?_)
  obtain ⟨gta_4, rfl⟩ := hw
  have hP : va_P D vwCl [(m0, .inr (12, ((((((((fm.set 2 (.int 1)).set 2 (.int 2)).set 2 (.int 3)).set 2 (.int 4)).set 2 (.int 5)).set 2 (.int 6)).set 2 (.int 7)).set 2 (.int 8)))), (ata, .inl (cy 2, 2000, .inl gta_4))] H := hP
  have hD : va_D A [(m0, .inr (12, ((((((((fm.set 2 (.int 1)).set 2 (.int 2)).set 2 (.int 3)).set 2 (.int 4)).set 2 (.int 5)).set 2 (.int 6)).set 2 (.int 7)).set 2 (.int 8)))), (ata, .inl (cy 2, 2000, .inl gta_4))] := hD
  refine lv_aload_n hx hb dX12_feed_25 rfl (lv_at hl 0 rfl) ?_
  refine lv_iload_n hx hb dX12_feed_26 rfl (lv_at hl 3 rfl) ?_
  refine cVv (As := [.int p2]) (rest := []) (wr := []) ⟨hx, hb, hml, hown, hts⟩ (c_X12_put_8 l D cy m0 ((((((((fm.set 2 (.int 1)).set 2 (.int 2)).set 2 (.int 3)).set 2 (.int 4)).set 2 (.int 5)).set 2 (.int 6)).set 2 (.int 7)).set 2 (.int 8)) ata gta_4 p2 (setk (setk (setk (setk (setk (setk (setk (setk e_m1 (by decide)) (by decide)) (by decide)) (by decide)) (by decide)) (by decide)) (by decide)) (by decide)) (setk_same (setk_same (setk_same (setk_same (setk_same (setk_same (setk_same (setk_same e_m2))))))))) (cwV 1 hts gX12_feed_X12_put rfl rfl rfl (by decide +kernel) ⟨Nat.le_of_ble_eq_true rfl, Nat.le_of_ble_eq_true rfl⟩) hK hP hD hS hA [0, 1] [] ⟨rfl, rfl, by decide +kernel, by decide +kernel, by decide +kernel⟩ 0 12 rfl rfl myX_T rfl hl.1 rfl (Nat.le_of_ble_eq_true rfl) dX12_feed_27 ⟨Nat.le_of_ble_eq_true rfl, Nat.le_of_ble_eq_true rfl⟩ (fun w_5 H locs hw hP hD hS => ?_)
  obtain ⟨gta_6, rfl⟩ := hw
  have hP : va_P D vwCl [(m0, .inr (12, ((((((((((((fm.set 2 (.int 1)).set 2 (.int 2)).set 2 (.int 3)).set 2 (.int 4)).set 2 (.int 5)).set 2 (.int 6)).set 2 (.int 7)).set 2 (.int 8)).set 2 (.int 9)).set 2 (.int 10)).set 2 (.int 11)).set 2 (.int 12)))), (ata, .inl (cy 2, 2000, .inl gta_6))] H := hP
  have hD : va_D A [(m0, .inr (12, ((((((((((((fm.set 2 (.int 1)).set 2 (.int 2)).set 2 (.int 3)).set 2 (.int 4)).set 2 (.int 5)).set 2 (.int 6)).set 2 (.int 7)).set 2 (.int 8)).set 2 (.int 9)).set 2 (.int 10)).set 2 (.int 11)).set 2 (.int 12)))), (ata, .inl (cy 2, 2000, .inl gta_6))] := hD
  refine lv_aload_n hx hb dX12_feed_30 rfl (lv_at hl 0 rfl) ?_
  refine lv_iload hx hb dX12_feed_31 (lv_at hl 4 rfl) ?_
  refine cVv (As := [.int p3]) (rest := []) (wr := []) ⟨hx, hb, hml, hown, hts⟩ (c_X12_put_12 l D cy m0 ((((((((((((fm.set 2 (.int 1)).set 2 (.int 2)).set 2 (.int 3)).set 2 (.int 4)).set 2 (.int 5)).set 2 (.int 6)).set 2 (.int 7)).set 2 (.int 8)).set 2 (.int 9)).set 2 (.int 10)).set 2 (.int 11)).set 2 (.int 12)) ata gta_6 p3 (setk (setk (setk (setk (setk (setk (setk (setk (setk (setk (setk (setk e_m1 (by decide)) (by decide)) (by decide)) (by decide)) (by decide)) (by decide)) (by decide)) (by decide)) (by decide)) (by decide)) (by decide)) (by decide)) (setk_same (setk_same (setk_same (setk_same (setk_same (setk_same (setk_same (setk_same (setk_same (setk_same (setk_same (setk_same e_m2))))))))))))) (cwV 1 hts gX12_feed_X12_put rfl rfl rfl (by decide +kernel) ⟨Nat.le_of_ble_eq_true rfl, Nat.le_of_ble_eq_true rfl⟩) hK hP hD hS hA [0, 1] [] ⟨rfl, rfl, by decide +kernel, by decide +kernel, by decide +kernel⟩ 0 12 rfl rfl myX_T rfl hl.1 rfl (Nat.le_of_ble_eq_true rfl) dX12_feed_33 ⟨Nat.le_of_ble_eq_true rfl, Nat.le_of_ble_eq_true rfl⟩ (fun w_7 H locs hw hP hD hS => ?_)
  obtain ⟨gta_8, rfl⟩ := hw
  have hP : va_P D vwCl [(m0, .inr (12, ((((((((((((((((fm.set 2 (.int 1)).set 2 (.int 2)).set 2 (.int 3)).set 2 (.int 4)).set 2 (.int 5)).set 2 (.int 6)).set 2 (.int 7)).set 2 (.int 8)).set 2 (.int 9)).set 2 (.int 10)).set 2 (.int 11)).set 2 (.int 12)).set 2 (.int 13)).set 2 (.int 14)).set 2 (.int 15)).set 2 (.int 16)))), (ata, .inl (cy 2, 2000, .inl gta_8))] H := hP
  have hD : va_D A [(m0, .inr (12, ((((((((((((((((fm.set 2 (.int 1)).set 2 (.int 2)).set 2 (.int 3)).set 2 (.int 4)).set 2 (.int 5)).set 2 (.int 6)).set 2 (.int 7)).set 2 (.int 8)).set 2 (.int 9)).set 2 (.int 10)).set 2 (.int 11)).set 2 (.int 12)).set 2 (.int 13)).set 2 (.int 14)).set 2 (.int 15)).set 2 (.int 16)))), (ata, .inl (cy 2, 2000, .inl gta_8))] := hD
  refine lv_aload_n hx hb dX12_feed_36 rfl (lv_at hl 0 rfl) ?_
  refine lv_iload hx hb dX12_feed_37 (lv_at hl 5 rfl) ?_
  refine cVv (As := [.int p4]) (rest := []) (wr := []) ⟨hx, hb, hml, hown, hts⟩ (c_X12_put_16 l D cy m0 ((((((((((((((((fm.set 2 (.int 1)).set 2 (.int 2)).set 2 (.int 3)).set 2 (.int 4)).set 2 (.int 5)).set 2 (.int 6)).set 2 (.int 7)).set 2 (.int 8)).set 2 (.int 9)).set 2 (.int 10)).set 2 (.int 11)).set 2 (.int 12)).set 2 (.int 13)).set 2 (.int 14)).set 2 (.int 15)).set 2 (.int 16)) ata gta_8 p4 (setk (setk (setk (setk (setk (setk (setk (setk (setk (setk (setk (setk (setk (setk (setk (setk e_m1 (by decide)) (by decide)) (by decide)) (by decide)) (by decide)) (by decide)) (by decide)) (by decide)) (by decide)) (by decide)) (by decide)) (by decide)) (by decide)) (by decide)) (by decide)) (by decide)) (setk_same (setk_same (setk_same (setk_same (setk_same (setk_same (setk_same (setk_same (setk_same (setk_same (setk_same (setk_same (setk_same (setk_same (setk_same (setk_same e_m2))))))))))))))))) (cwV 1 hts gX12_feed_X12_put rfl rfl rfl (by decide +kernel) ⟨Nat.le_of_ble_eq_true rfl, Nat.le_of_ble_eq_true rfl⟩) hK hP hD hS hA [0, 1] [] ⟨rfl, rfl, by decide +kernel, by decide +kernel, by decide +kernel⟩ 0 12 rfl rfl myX_T rfl hl.1 rfl (Nat.le_of_ble_eq_true rfl) dX12_feed_39 ⟨Nat.le_of_ble_eq_true rfl, Nat.le_of_ble_eq_true rfl⟩ (fun w_9 H locs hw hP hD hS => ?_)
  obtain ⟨gta_10, rfl⟩ := hw
  have hP : va_P D vwCl [(m0, .inr (12, ((((((((((((((((((((fm.set 2 (.int 1)).set 2 (.int 2)).set 2 (.int 3)).set 2 (.int 4)).set 2 (.int 5)).set 2 (.int 6)).set 2 (.int 7)).set 2 (.int 8)).set 2 (.int 9)).set 2 (.int 10)).set 2 (.int 11)).set 2 (.int 12)).set 2 (.int 13)).set 2 (.int 14)).set 2 (.int 15)).set 2 (.int 16)).set 2 (.int 17)).set 2 (.int 18)).set 2 (.int 19)).set 2 (.int 20)))), (ata, .inl (cy 2, 2000, .inl gta_10))] H := hP
  have hD : va_D A [(m0, .inr (12, ((((((((((((((((((((fm.set 2 (.int 1)).set 2 (.int 2)).set 2 (.int 3)).set 2 (.int 4)).set 2 (.int 5)).set 2 (.int 6)).set 2 (.int 7)).set 2 (.int 8)).set 2 (.int 9)).set 2 (.int 10)).set 2 (.int 11)).set 2 (.int 12)).set 2 (.int 13)).set 2 (.int 14)).set 2 (.int 15)).set 2 (.int 16)).set 2 (.int 17)).set 2 (.int 18)).set 2 (.int 19)).set 2 (.int 20)))), (ata, .inl (cy 2, 2000, .inl gta_10))] := hD
  refine lv_aload_n hx hb dX12_feed_42 rfl (lv_at hl 0 rfl) ?_
  refine va_get (ci := 12) (v := .int 20) (C := RX12) (T := TX12) (N := 90) hx hb hts in_X12_feed_X12 hown hK hP 0 rfl rfl 2 (by decide) (hts (.fieldLink RX12 202 "HallTablesModel" "taped" "I") (List.mem_of_getElem? (i := 1) rfl)) (fun _ h9 => h9) (setk_same (setk_same (setk_same (setk_same (setk_same (setk_same (setk_same (setk_same (setk_same (setk_same (setk_same (setk_same (setk_same (setk_same (setk_same (setk_same (setk_same (setk_same (setk_same (setk_same e_m2)))))))))))))))))))) dX12_feed_43 ?_
  have hP := hP.sub (ws' := []) [] rfl
  have hD := hD.sub (ws' := []) [] (by decide +kernel) rfl
  exact endI hx hb hr hlocks [] rfl ⟨rfl, rfl⟩ hP hD hS (Nat.le_of_ble_eq_true rfl) (Nat.le_of_ble_eq_true rfl) dX12_feed_46

theorem in_X12_back_X12 : ∀ w ∈ u_ws RX12 TX12 90, w ∈ wsX12_back := fun w h => (List.mem_cons_of_mem _ (List.mem_append_right _ h))
set_option maxRecDepth 100000 in
set_option maxHeartbeats 4000000 in
/-- the reference: back on a new object -/
theorem c_X12_back (l : Launch) (D : va_G) (cy : Nat → ClassId) (m0 : Nat) (fm : List Value) (p0 : Int32) (e_m2 : fm[2]? = some (.int 0)) : Cti l D cy yX12_back wsX12_back ({ frames := 0, cells := 0, slots := 0, locals := 0 } : Room) [.ref m0, .int p0] [(m0, .inr (12, fm))] myT (fun (r : Int32) (w : va_W) => r = backV p0 ∧ w = []) := by
  refine ofI (cc := cX12_back) (maxL := 2) (ret := (some .int)) (by decide) rfl (Nat.le_of_ble_eq_true rfl) ?_
  intro p e s m args below meth c A ls hx hb hr hts hown hlocks hml hin hK hP hD hS hA hX hl
  have hown : s.vm.findClass RX12 = some m.cls := hown
  have hl : lv_has ls 2 [(0, .ref m0), (1, .int p0)] := hl
  refine lv_iload_n hx hb dX12_back_0 rfl (lv_at hl 1 rfl) ?_
  refine lv_if_lt (tgt := 12) hx hb dX12_back_1 (by decide) (fun c_1 => ?_) (fun c_1 => ?_)
  · refine lv_iconst (v := (-1)) hx hb dX12_back_12 (by decide) ?_
    have hP := hP.sub (ws' := []) [] rfl
    have hD := hD.sub (ws' := []) [] (by decide +kernel) rfl
    exact endI hx hb hr hlocks [] rfl ⟨(backV_a c_1), rfl⟩ hP hD hS (Nat.le_of_ble_eq_true rfl) (Nat.le_of_ble_eq_true rfl) dX12_back_13
  · refine lv_iload_n hx hb dX12_back_4 rfl (lv_at hl 1 rfl) ?_
    refine lv_aload_n hx hb dX12_back_5 rfl (lv_at hl 0 rfl) ?_
    refine va_get (ci := 12) (v := .int 0) (C := RX12) (T := TX12) (N := 90) hx hb hts in_X12_back_X12 hown hK hP 0 rfl rfl 2 (by decide) (hts (.fieldLink RX12 202 "HallTablesModel" "taped" "I") (List.mem_of_getElem? (i := 1) rfl)) (fun _ h9 => h9) e_m2 dX12_back_6 ?_
    refine lv_icmp_le (tgt := 14) hx hb dX12_back_9 (by decide) (fun c_2 => ?_) (fun c_2 => ?_)
    · refine lv_aload_n hx hb dX12_back_14 rfl (lv_at hl 0 rfl) ?_
      refine lv_dup hx hb dX12_back_15 rfl ?_
      refine va_get (ci := 12) (v := .int 0) (C := RX12) (T := TX12) (N := 90) hx hb hts in_X12_back_X12 hown hK hP 0 rfl rfl 2 (by decide) (hts (.fieldLink RX12 202 "HallTablesModel" "taped" "I") (List.mem_of_getElem? (i := 1) rfl)) (fun _ h9 => h9) e_m2 dX12_back_16 ?_
      refine lv_iload_n hx hb dX12_back_19 rfl (lv_at hl 1 rfl) ?_
      refine lv_isub hx hb dX12_back_20 ?_
      refine tpI (v := (backV p0)) (backV_p c_1 c_2) ?_
      refine va_put (ci := 12) (v := .int (backV p0)) (ty := .int) (C := RX12) (T := TX12) (N := 90) hx hb hts in_X12_back_X12 tyX12 tyX12_ok nmX12 hown hK hP hD hS 0 rfl rfl 2 (by decide) (hts (.fieldLink RX12 202 "HallTablesModel" "taped" "I") (List.mem_of_getElem? (i := 1) rfl)) (fun _ h9 => h9) rfl (by decide +kernel) rfl rfl (lt_of_at e_m2) dX12_back_21 (fun H locs hP hD hS => ?_)
      have hP : va_P D vwCl [(m0, .inr (12, (fm.set 2 (.int (backV p0)))))] H := hP
      have hD : va_D A [(m0, .inr (12, (fm.set 2 (.int (backV p0)))))] := hD
      refine lv_aload_n hx hb dX12_back_24 rfl (lv_at hl 0 rfl) ?_
      refine va_get (ci := 12) (v := .int (backV p0)) (C := RX12) (T := TX12) (N := 90) hx hb hts in_X12_back_X12 hown hK hP 0 rfl rfl 2 (by decide) (hts (.fieldLink RX12 202 "HallTablesModel" "taped" "I") (List.mem_of_getElem? (i := 1) rfl)) (fun _ h9 => h9) (setk_same e_m2) dX12_back_25 ?_
      have hP := hP.sub (ws' := []) [] rfl
      have hD := hD.sub (ws' := []) [] (by decide +kernel) rfl
      exact endI hx hb hr hlocks [] rfl ⟨rfl, rfl⟩ hP hD hS (Nat.le_of_ble_eq_true rfl) (Nat.le_of_ble_eq_true rfl) dX12_back_28
    · refine lv_iconst (v := (-1)) hx hb dX12_back_12 (by decide) ?_
      have hP := hP.sub (ws' := []) [] rfl
      have hD := hD.sub (ws' := []) [] (by decide +kernel) rfl
      exact endI hx hb hr hlocks [] rfl ⟨(backV_b c_2), rfl⟩ hP hD hS (Nat.le_of_ble_eq_true rfl) (Nat.le_of_ble_eq_true rfl) dX12_back_13

theorem in_X12_place_X12 : ∀ w ∈ u_ws RX12 TX12 90, w ∈ wsX12_place := fun w h => (List.mem_cons_of_mem _ (List.mem_append_right _ h))
set_option maxRecDepth 100000 in
set_option maxHeartbeats 4000000 in
/-- the reference: place on a new object -/
theorem c_X12_place (l : Launch) (D : va_G) (cy : Nat → ClassId) (m0 : Nat) (fm : List Value) (e_m17 : fm[17]? = some (.int (-1))) : Cti l D cy yX12_place wsX12_place ({ frames := 0, cells := 0, slots := 0, locals := 0 } : Room) [.ref m0] [(m0, .inr (12, fm))] myT (fun (r : Int32) (w : va_W) => r = (-1) ∧ w = []) := by
  refine ofI (cc := cX12_place) (maxL := 1) (ret := (some .int)) (by decide) rfl (Nat.le_of_ble_eq_true rfl) ?_
  intro p e s m args below meth c A ls hx hb hr hts hown hlocks hml hin hK hP hD hS hA hX hl
  have hown : s.vm.findClass RX12 = some m.cls := hown
  have hl : lv_has ls 1 [(0, .ref m0)] := hl
  refine lv_aload_n hx hb dX12_place_0 rfl (lv_at hl 0 rfl) ?_
  refine va_get (ci := 12) (v := .int (-1)) (C := RX12) (T := TX12) (N := 90) hx hb hts in_X12_place_X12 hown hK hP 0 rfl rfl 17 (by decide) (hts (.fieldLink RX12 37 "HallTablesModel" "place" "I") (List.mem_of_getElem? (i := 1) rfl)) (fun _ h9 => h9) e_m17 dX12_place_1 ?_
  have hP := hP.sub (ws' := []) [] rfl
  have hD := hD.sub (ws' := []) [] (by decide +kernel) rfl
  exact endI hx hb hr hlocks [] rfl ⟨rfl, rfl⟩ hP hD hS (Nat.le_of_ble_eq_true rfl) (Nat.le_of_ble_eq_true rfl) dX12_place_4

theorem in_X12_undo_X12 : ∀ w ∈ u_ws RX12 TX12 90, w ∈ wsX12_undo := fun w h => (List.mem_cons_of_mem _ (List.mem_append_right _ h))
set_option maxRecDepth 100000 in
set_option maxHeartbeats 4000000 in
/-- the reference: undo on a new object -/
theorem c_X12_undo (l : Launch) (D : va_G) (cy : Nat → ClassId) (m0 : Nat) (fm : List Value) (e_m40 : fm[40]? = some (.int 0)) : Cti l D cy yX12_undo wsX12_undo ({ frames := 0, cells := 0, slots := 0, locals := 0 } : Room) [.ref m0] [(m0, .inr (12, fm))] myT (fun (r : Int32) (w : va_W) => r = 0 ∧ w = []) := by
  refine ofI (cc := cX12_undo) (maxL := 2) (ret := (some .boolean)) (by decide) rfl (Nat.le_of_ble_eq_true rfl) ?_
  intro p e s m args below meth c A ls hx hb hr hts hown hlocks hml hin hK hP hD hS hA hX hl
  have hown : s.vm.findClass RX12 = some m.cls := hown
  have hl : lv_has ls 2 [(0, .ref m0)] := hl
  refine lv_aload_n hx hb dX12_undo_0 rfl (lv_at hl 0 rfl) ?_
  refine va_get (ci := 12) (v := .int 0) (C := RX12) (T := TX12) (N := 90) hx hb hts in_X12_undo_X12 hown hK hP 0 rfl rfl 40 (by decide) (hts (.fieldLink RX12 281 "HallTablesModel" "undos" "I") (List.mem_of_getElem? (i := 1) rfl)) (fun _ h9 => h9) e_m40 dX12_undo_1 ?_
  refine lv_if_ne (tgt := 9) hx hb dX12_undo_4 (by decide) (fun c9 => absurd (by decide) c9) (fun _ => ?_)
  refine lv_iconst (v := 0) hx hb dX12_undo_7 (by decide) ?_
  have hP := hP.sub (ws' := []) [] rfl
  have hD := hD.sub (ws' := []) [] (by decide +kernel) rfl
  exact endI hx hb hr hlocks [] rfl ⟨rfl, rfl⟩ hP hD hS (Nat.le_of_ble_eq_true rfl) (Nat.le_of_ble_eq_true rfl) dX12_undo_8

theorem in_X12_forget_X12 : ∀ w ∈ u_ws RX12 TX12 90, w ∈ wsX12_forget := fun w h => (List.mem_cons_of_mem _ (List.mem_append_right _ h))
set_option maxRecDepth 100000 in
set_option maxHeartbeats 4000000 in
/-- the reference: forget on a new object -/
theorem c_X12_forget (l : Launch) (D : va_G) (cy : Nat → ClassId) (m0 : Nat) (fm : List Value) (e_m73 : fm[73]? = some (.int 0)) : Cti l D cy yX12_forget wsX12_forget ({ frames := 0, cells := 0, slots := 0, locals := 0 } : Room) [.ref m0] [(m0, .inr (12, fm))] myT (fun (r : Int32) (w : va_W) => r = 0 ∧ w = []) := by
  refine ofI (cc := cX12_forget) (maxL := 2) (ret := (some .int)) (by decide) rfl (Nat.le_of_ble_eq_true rfl) ?_
  intro p e s m args below meth c A ls hx hb hr hts hown hlocks hml hin hK hP hD hS hA hX hl
  have hown : s.vm.findClass RX12 = some m.cls := hown
  have hl : lv_has ls 2 [(0, .ref m0)] := hl
  refine lv_aload_n hx hb dX12_forget_0 rfl (lv_at hl 0 rfl) ?_
  refine va_get (ci := 12) (v := .int 0) (C := RX12) (T := TX12) (N := 90) hx hb hts in_X12_forget_X12 hown hK hP 0 rfl rfl 73 (by decide) (hts (.fieldLink RX12 284 "HallTablesModel" "seen" "I") (List.mem_of_getElem? (i := 1) rfl)) (fun _ h9 => h9) e_m73 dX12_forget_1 ?_
  refine lv_istore_n (lv' := [(1, .int 0), (0, .ref m0)]) hx hb dX12_forget_4 rfl hl (by decide) rfl (fun ls hl => ?_)
  refine lv_aload_n hx hb dX12_forget_5 rfl (lv_at hl 1 rfl) ?_
  refine lv_iconst (v := 0) hx hb dX12_forget_6 (by decide) ?_
  refine va_put (ci := 12) (v := .int 0) (ty := .int) (C := RX12) (T := TX12) (N := 90) hx hb hts in_X12_forget_X12 tyX12 tyX12_ok nmX12 hown hK hP hD hS 0 rfl rfl 73 (by decide) (hts (.fieldLink RX12 284 "HallTablesModel" "seen" "I") (List.mem_of_getElem? (i := 1) rfl)) (fun _ h9 => h9) rfl (by decide +kernel) rfl rfl (lt_of_at e_m73) dX12_forget_7 (fun H locs hP hD hS => ?_)
  have hP : va_P D vwCl [(m0, .inr (12, (fm.set 73 (.int 0))))] H := hP
  have hD : va_D A [(m0, .inr (12, (fm.set 73 (.int 0))))] := hD
  refine lv_iload_n hx hb dX12_forget_10 rfl (lv_at hl 0 rfl) ?_
  have hP := hP.sub (ws' := []) [] rfl
  have hD := hD.sub (ws' := []) [] (by decide +kernel) rfl
  exact endI hx hb hr hlocks [] rfl ⟨rfl, rfl⟩ hP hD hS (Nat.le_of_ble_eq_true rfl) (Nat.le_of_ble_eq_true rfl) dX12_forget_11

theorem in_X12_see_X12 : ∀ w ∈ u_ws RX12 TX12 90, w ∈ wsX12_see := fun w h => (List.mem_cons_of_mem _ (List.mem_append_right _ h))
set_option maxRecDepth 100000 in
set_option maxHeartbeats 4000000 in
/-- the reference: see on a new object -/
theorem c_X12_see (l : Launch) (D : va_G) (cy : Nat → ClassId) (m0 : Nat) (fm : List Value) (aho : Nat) (gho : Nat → Int32) (p0 : Int32) (p1 : Int32) (p2 : Int32) (e_live : fm[18]? = some (.int 0)) (e_aho : fm[26]? = some (.ref aho)) (e_m73 : fm[73]? = some (.int 0)) (z_aho : ∀ j : Nat, j < 2 → gho j = 0) : Cti l D cy yX12_see wsX12_see ({ frames := 2, cells := 0, slots := 0, locals := 43 } : Room) [.ref m0, .int p0, .int p1, .int p2] [(m0, .inr (12, fm)), (aho, .inl (cy 0, 2, .inl gho))] myT (fun (r : Int32) (w : va_W) => r = (-1) ∧ w = []) := by
  refine ofI (cc := cX12_see) (maxL := 4) (ret := (some .int)) (by decide) rfl (Nat.le_of_ble_eq_true rfl) ?_
  intro p e s m args below meth c A ls hx hb hr hts hown hlocks hml hin hK hP hD hS hA hX hl
  have hown : s.vm.findClass RX12 = some m.cls := hown
  have hl : lv_has ls 4 [(0, .ref m0), (1, .int p0), (2, .int p1), (3, .int p2)] := hl
  refine lv_aload_n hx hb dX12_see_0 rfl (lv_at hl 0 rfl) ?_
  refine va_get (ci := 12) (v := .int 0) (C := RX12) (T := TX12) (N := 90) hx hb hts in_X12_see_X12 hown hK hP 0 rfl rfl 73 (by decide) (hts (.fieldLink RX12 284 "HallTablesModel" "seen" "I") (List.mem_of_getElem? (i := 1) rfl)) (fun _ h9 => h9) e_m73 dX12_see_1 ?_
  refine lv_bipush (v := 30) hx hb dX12_see_4 (by decide) ?_
  refine lv_icmp_eq (tgt := 35) hx hb dX12_see_6 (by decide) (fun c9 => absurd c9 (by decide)) (fun _ => ?_)
  refine lv_aload_n hx hb dX12_see_9 rfl (lv_at hl 0 rfl) ?_
  refine lv_iload_n hx hb dX12_see_10 rfl (lv_at hl 1 rfl) ?_
  refine cVi (As := [.int p0]) (rest := []) (wr := []) ⟨hx, hb, hml, hown, hts⟩ (c_X12_isHouse l D cy m0 fm aho gho p0 e_live e_aho z_aho) (cwV 1 hts gX12_see_X12_isHouse rfl rfl rfl (by decide +kernel) ⟨Nat.le_of_ble_eq_true rfl, Nat.le_of_ble_eq_true rfl⟩) hK hP hD hS hA [0, 1] [] ⟨rfl, rfl, by decide +kernel, by decide +kernel, by decide +kernel⟩ 0 12 rfl rfl myX_T rfl hl.1 rfl (Nat.le_of_ble_eq_true rfl) dX12_see_11 ⟨Nat.le_of_ble_eq_true rfl, Nat.le_of_ble_eq_true rfl⟩ (fun r_1 w_2 H locs hw hP hD hS => ?_)
  obtain ⟨rfl, rfl⟩ := hw
  have hP : va_P D vwCl [(m0, .inr (12, fm)), (aho, .inl (cy 0, 2, .inl gho))] H := hP
  have hD : va_D A [(m0, .inr (12, fm)), (aho, .inl (cy 0, 2, .inl gho))] := hD
  refine lv_if_eq (tgt := 35) hx hb dX12_see_14 (by decide) (fun _ => ?_) (fun c9 => absurd (by decide) c9)
  refine lv_iconst (v := (-1)) hx hb dX12_see_35 (by decide) ?_
  have hP := hP.sub (ws' := []) [] rfl
  have hD := hD.sub (ws' := []) [] (by decide +kernel) rfl
  exact endI hx hb hr hlocks [] rfl ⟨rfl, rfl⟩ hP hD hS (Nat.le_of_ble_eq_true rfl) (Nat.le_of_ble_eq_true rfl) dX12_see_36

theorem in_X12_byteAt_X12 : ∀ w ∈ u_ws RX12 TX12 90, w ∈ wsX12_byteAt := fun w h => (List.mem_cons_of_mem _ (List.mem_append_right _ h))
set_option maxRecDepth 100000 in
set_option maxHeartbeats 4000000 in
/-- byteAt(0) of an empty text: 0 -/
theorem c_X12_byteAt (l : Launch) (D : va_G) (cy : Nat → ClassId) (m0 : Nat) (fm : List Value) (e_m4 : fm[4]? = some (.int 0)) : Cti l D cy yX12_byteAt wsX12_byteAt ({ frames := 0, cells := 0, slots := 0, locals := 0 } : Room) [.ref m0, .int 0] [(m0, .inr (12, fm))] myT (fun (r : Int32) (w : va_W) => r = 0 ∧ w = [(m0, .inr (12, fm))]) := by
  refine ofI (cc := cX12_byteAt) (maxL := 2) (ret := (some .int)) (by decide) rfl (Nat.le_of_ble_eq_true rfl) ?_
  intro p e s m args below meth c A ls hx hb hr hts hown hlocks hml hin hK hP hD hS hA hX hl
  have hown : s.vm.findClass RX12 = some m.cls := hown
  have hl : lv_has ls 2 [(0, .ref m0), (1, .int 0)] := hl
  refine lv_iload_n hx hb dX12_byteAt_0 rfl (lv_at hl 1 rfl) ?_
  refine lv_aload_n hx hb dX12_byteAt_1 rfl (lv_at hl 0 rfl) ?_
  refine va_get (ci := 12) (v := .int 0) (C := RX12) (T := TX12) (N := 90) hx hb hts in_X12_byteAt_X12 hown hK hP 0 rfl rfl 4 (by decide) (hts (.fieldLink RX12 209 "HallTablesModel" "size" "I") (List.mem_of_getElem? (i := 1) rfl)) (fun _ h9 => h9) e_m4 dX12_byteAt_2 ?_
  refine lv_icmp_ge (tgt := 21) hx hb dX12_byteAt_5 (by decide) (fun _ => ?_) (fun c9 => absurd (by decide) c9)
  refine lv_iconst (v := 0) hx hb dX12_byteAt_21 (by decide) ?_
  exact endI hx hb hr hlocks [(m0, .inr (12, fm))] rfl ⟨rfl, rfl⟩ hP hD hS (Nat.le_of_ble_eq_true rfl) (Nat.le_of_ble_eq_true rfl) dX12_byteAt_22

theorem in_X12_token_X12 : ∀ w ∈ u_ws RX12 TX12 90, w ∈ wsX12_token := fun w h => (List.mem_cons_of_mem _ (List.mem_append_right _ h))
set_option maxRecDepth 100000 in
set_option maxHeartbeats 4000000 in
/-- token(END, 0, 0, 0) as the first -/
theorem c_X12_token (l : Launch) (D : va_G) (cy : Nat → ClassId) (m0 : Nat) (fm : List Value) (ak : Nat) (ap : Nat) (av : Nat) (an : Nat) (gk : Nat → Int32) (gp : Nat → Int32) (gv : Nat → Int32) (gn : Nat → Int64) (e_m5 : fm[5]? = some (.ref ak)) (e_m6 : fm[6]? = some (.ref ap)) (e_m7 : fm[7]? = some (.ref av)) (e_m8 : fm[8]? = some (.ref an)) (e_m10 : fm[10]? = some (.int 0)) (z_k : ∀ j : Nat, j < 403 → gk j = 0) : Ctv l D cy yX12_token wsX12_token ({ frames := 0, cells := 0, slots := 0, locals := 0 } : Room) [.ref m0, .int 0, .int 0, .int 0, .long 0] [(m0, .inr (12, fm)), (ak, .inl (cy 0, 403, .inl gk)), (ap, .inl (cy 0, 403, .inl gp)), (av, .inl (cy 0, 403, .inl gv)), (an, .inl (cy 1, 403, .inr (.inl gn)))] myT (fun (w : va_W) => ∃ (gk1 : Nat → Int32), ∃ (gp1 : Nat → Int32), ∃ (gv1 : Nat → Int32), ∃ (gn1 : Nat → Int64), (∀ j : Nat, j < 403 → gk1 j = 0) ∧ w = [(m0, .inr (12, (fm.set 10 (.int 1)))), (ak, .inl (cy 0, 403, .inl gk1)), (ap, .inl (cy 0, 403, .inl gp1)), (av, .inl (cy 0, 403, .inl gv1)), (an, .inl (cy 1, 403, .inr (.inl gn1)))]) := by
  refine ofV (cc := cX12_token) (maxL := 6) (ret := none) (by decide) rfl (Nat.le_of_ble_eq_true rfl) ?_
  intro p e s m args below meth c A ls hx hb hr hts hown hlocks hml hin hK hP hD hS hA hX hl
  have hown : s.vm.findClass RX12 = some m.cls := hown
  have hl : lv_has ls 6 [(0, .ref m0), (1, .int 0), (2, .int 0), (3, .int 0), (4, .long 0)] := hl
  refine lv_aload_n hx hb dX12_token_0 rfl (lv_at hl 0 rfl) ?_
  refine va_get (ci := 12) (v := .ref ak) (C := RX12) (T := TX12) (N := 90) hx hb hts in_X12_token_X12 hown hK hP 0 rfl rfl 5 (by decide) (hts (.fieldLink RX12 20 "HallTablesModel" "tKind" "[I") (List.mem_of_getElem? (i := 1) rfl)) (fun _ h9 => h9) e_m5 dX12_token_1 ?_
  refine lv_aload_n hx hb dX12_token_4 rfl (lv_at hl 0 rfl) ?_
  refine va_get (ci := 12) (v := .int 0) (C := RX12) (T := TX12) (N := 90) hx hb hts in_X12_token_X12 hown hK hP 0 rfl rfl 10 (by decide) (hts (.fieldLink RX12 214 "HallTablesModel" "tokens" "I") (List.mem_of_getElem? (i := 2) rfl)) (fun _ h9 => h9) e_m10 dX12_token_5 ?_
  refine lv_iload_n hx hb dX12_token_8 rfl (lv_at hl 1 rfl) ?_
  refine sI hx hb hK hP hD hS 1 rfl 0 rfl (Nat.le_of_ble_eq_true rfl) (Nat.le_of_ble_eq_true rfl) dX12_token_9 (fun H locs hP hD hS => ?_)
  have hP : va_P D vwCl [(m0, .inr (12, fm)), (ak, .inl (cy 0, 403, .inl (upd gk 0 0))), (ap, .inl (cy 0, 403, .inl gp)), (av, .inl (cy 0, 403, .inl gv)), (an, .inl (cy 1, 403, .inr (.inl gn)))] H := hP
  have hD : va_D A [(m0, .inr (12, fm)), (ak, .inl (cy 0, 403, .inl (upd gk 0 0))), (ap, .inl (cy 0, 403, .inl gp)), (av, .inl (cy 0, 403, .inl gv)), (an, .inl (cy 1, 403, .inr (.inl gn)))] := hD
  have hz_2 := updall (k := 0) z_k
  obtain ⟨f_1, ef_1⟩ : ∃ z, z = upd gk 0 0 := ⟨_, rfl⟩
  rw [← ef_1] at hP hD hz_2
  refine lv_aload_n hx hb dX12_token_10 rfl (lv_at hl 0 rfl) ?_
  refine va_get (ci := 12) (v := .ref ap) (C := RX12) (T := TX12) (N := 90) hx hb hts in_X12_token_X12 hown hK hP 0 rfl rfl 6 (by decide) (hts (.fieldLink RX12 24 "HallTablesModel" "tPlace" "[I") (List.mem_of_getElem? (i := 3) rfl)) (fun _ h9 => h9) e_m6 dX12_token_11 ?_
  refine lv_aload_n hx hb dX12_token_14 rfl (lv_at hl 0 rfl) ?_
  refine va_get (ci := 12) (v := .int 0) (C := RX12) (T := TX12) (N := 90) hx hb hts in_X12_token_X12 hown hK hP 0 rfl rfl 10 (by decide) (hts (.fieldLink RX12 214 "HallTablesModel" "tokens" "I") (List.mem_of_getElem? (i := 2) rfl)) (fun _ h9 => h9) e_m10 dX12_token_15 ?_
  refine lv_iload_n hx hb dX12_token_18 rfl (lv_at hl 2 rfl) ?_
  refine sI hx hb hK hP hD hS 2 rfl 0 rfl (Nat.le_of_ble_eq_true rfl) (Nat.le_of_ble_eq_true rfl) dX12_token_19 (fun H locs hP hD hS => ?_)
  have hP : va_P D vwCl [(m0, .inr (12, fm)), (ak, .inl (cy 0, 403, .inl f_1)), (ap, .inl (cy 0, 403, .inl (upd gp 0 0))), (av, .inl (cy 0, 403, .inl gv)), (an, .inl (cy 1, 403, .inr (.inl gn)))] H := hP
  have hD : va_D A [(m0, .inr (12, fm)), (ak, .inl (cy 0, 403, .inl f_1)), (ap, .inl (cy 0, 403, .inl (upd gp 0 0))), (av, .inl (cy 0, 403, .inl gv)), (an, .inl (cy 1, 403, .inr (.inl gn)))] := hD
  obtain ⟨f_3, ef_3⟩ : ∃ z, z = upd gp 0 0 := ⟨_, rfl⟩
  rw [← ef_3] at hP hD
  refine lv_aload_n hx hb dX12_token_20 rfl (lv_at hl 0 rfl) ?_
  refine va_get (ci := 12) (v := .ref av) (C := RX12) (T := TX12) (N := 90) hx hb hts in_X12_token_X12 hown hK hP 0 rfl rfl 7 (by decide) (hts (.fieldLink RX12 27 "HallTablesModel" "tValue" "[I") (List.mem_of_getElem? (i := 4) rfl)) (fun _ h9 => h9) e_m7 dX12_token_21 ?_
  refine lv_aload_n hx hb dX12_token_24 rfl (lv_at hl 0 rfl) ?_
  refine va_get (ci := 12) (v := .int 0) (C := RX12) (T := TX12) (N := 90) hx hb hts in_X12_token_X12 hown hK hP 0 rfl rfl 10 (by decide) (hts (.fieldLink RX12 214 "HallTablesModel" "tokens" "I") (List.mem_of_getElem? (i := 2) rfl)) (fun _ h9 => h9) e_m10 dX12_token_25 ?_
  refine lv_iload_n hx hb dX12_token_28 rfl (lv_at hl 3 rfl) ?_
  refine sI hx hb hK hP hD hS 3 rfl 0 rfl (Nat.le_of_ble_eq_true rfl) (Nat.le_of_ble_eq_true rfl) dX12_token_29 (fun H locs hP hD hS => ?_)
  have hP : va_P D vwCl [(m0, .inr (12, fm)), (ak, .inl (cy 0, 403, .inl f_1)), (ap, .inl (cy 0, 403, .inl f_3)), (av, .inl (cy 0, 403, .inl (upd gv 0 0))), (an, .inl (cy 1, 403, .inr (.inl gn)))] H := hP
  have hD : va_D A [(m0, .inr (12, fm)), (ak, .inl (cy 0, 403, .inl f_1)), (ap, .inl (cy 0, 403, .inl f_3)), (av, .inl (cy 0, 403, .inl (upd gv 0 0))), (an, .inl (cy 1, 403, .inr (.inl gn)))] := hD
  obtain ⟨f_4, ef_4⟩ : ∃ z, z = upd gv 0 0 := ⟨_, rfl⟩
  rw [← ef_4] at hP hD
  refine lv_aload_n hx hb dX12_token_30 rfl (lv_at hl 0 rfl) ?_
  refine va_get (ci := 12) (v := .ref an) (C := RX12) (T := TX12) (N := 90) hx hb hts in_X12_token_X12 hown hK hP 0 rfl rfl 8 (by decide) (hts (.fieldLink RX12 30 "HallTablesModel" "tName" "[J") (List.mem_of_getElem? (i := 5) rfl)) (fun _ h9 => h9) e_m8 dX12_token_31 ?_
  refine lv_aload_n hx hb dX12_token_34 rfl (lv_at hl 0 rfl) ?_
  refine va_get (ci := 12) (v := .int 0) (C := RX12) (T := TX12) (N := 90) hx hb hts in_X12_token_X12 hown hK hP 0 rfl rfl 10 (by decide) (hts (.fieldLink RX12 214 "HallTablesModel" "tokens" "I") (List.mem_of_getElem? (i := 2) rfl)) (fun _ h9 => h9) e_m10 dX12_token_35 ?_
  refine lv_lload hx hb dX12_token_38 (lv_at hl 4 rfl) ?_
  refine sJ hx hb hK hP hD hS 4 rfl 0 rfl (Nat.le_of_ble_eq_true rfl) (Nat.le_of_ble_eq_true rfl) dX12_token_40 (fun H locs hP hD hS => ?_)
  have hP : va_P D vwCl [(m0, .inr (12, fm)), (ak, .inl (cy 0, 403, .inl f_1)), (ap, .inl (cy 0, 403, .inl f_3)), (av, .inl (cy 0, 403, .inl f_4)), (an, .inl (cy 1, 403, .inr (.inl (vp_updL gn 0 0))))] H := hP
  have hD : va_D A [(m0, .inr (12, fm)), (ak, .inl (cy 0, 403, .inl f_1)), (ap, .inl (cy 0, 403, .inl f_3)), (av, .inl (cy 0, 403, .inl f_4)), (an, .inl (cy 1, 403, .inr (.inl (vp_updL gn 0 0))))] := hD
  obtain ⟨f_5, ef_5⟩ : ∃ z, z = vp_updL gn 0 0 := ⟨_, rfl⟩
  rw [← ef_5] at hP hD
  refine lv_aload_n hx hb dX12_token_41 rfl (lv_at hl 0 rfl) ?_
  refine lv_dup hx hb dX12_token_42 rfl ?_
  refine va_get (ci := 12) (v := .int 0) (C := RX12) (T := TX12) (N := 90) hx hb hts in_X12_token_X12 hown hK hP 0 rfl rfl 10 (by decide) (hts (.fieldLink RX12 214 "HallTablesModel" "tokens" "I") (List.mem_of_getElem? (i := 2) rfl)) (fun _ h9 => h9) e_m10 dX12_token_43 ?_
  refine lv_iconst (v := 1) hx hb dX12_token_46 (by decide) ?_
  refine lv_iadd hx hb dX12_token_47 ?_
  refine tpI (v := 1) (by decide) ?_
  refine va_put (ci := 12) (v := .int 1) (ty := .int) (C := RX12) (T := TX12) (N := 90) hx hb hts in_X12_token_X12 tyX12 tyX12_ok nmX12 hown hK hP hD hS 0 rfl rfl 10 (by decide) (hts (.fieldLink RX12 214 "HallTablesModel" "tokens" "I") (List.mem_of_getElem? (i := 2) rfl)) (fun _ h9 => h9) rfl (by decide +kernel) rfl rfl (lt_of_at e_m10) dX12_token_48 (fun H locs hP hD hS => ?_)
  have hP : va_P D vwCl [(m0, .inr (12, (fm.set 10 (.int 1)))), (ak, .inl (cy 0, 403, .inl f_1)), (ap, .inl (cy 0, 403, .inl f_3)), (av, .inl (cy 0, 403, .inl f_4)), (an, .inl (cy 1, 403, .inr (.inl f_5)))] H := hP
  have hD : va_D A [(m0, .inr (12, (fm.set 10 (.int 1)))), (ak, .inl (cy 0, 403, .inl f_1)), (ap, .inl (cy 0, 403, .inl f_3)), (av, .inl (cy 0, 403, .inl f_4)), (an, .inl (cy 1, 403, .inr (.inl f_5)))] := hD
  exact endV hx hb hr hlocks [(m0, .inr (12, (fm.set 10 (.int 1)))), (ak, .inl (cy 0, 403, .inl f_1)), (ap, .inl (cy 0, 403, .inl f_3)), (av, .inl (cy 0, 403, .inl f_4)), (an, .inl (cy 1, 403, .inr (.inl f_5)))] ⟨f_1, f_3, f_4, f_5, hz_2, rfl⟩ hP hD hS (Nat.le_of_ble_eq_true rfl) (Nat.le_of_ble_eq_true rfl) dX12_token_51

theorem in_X12_cut_X12 : ∀ w ∈ u_ws RX12 TX12 90, w ∈ wsX12_cut := fun w h => (List.mem_cons_of_mem _ (List.mem_append_right _ h))
set_option maxRecDepth 100000 in
set_option maxHeartbeats 4000000 in
/-- cut of an empty text -/
theorem c_X12_cut (l : Launch) (D : va_G) (cy : Nat → ClassId) (m0 : Nat) (fm : List Value) (ak : Nat) (ap : Nat) (av : Nat) (an : Nat) (gk : Nat → Int32) (gp : Nat → Int32) (gv : Nat → Int32) (gn : Nat → Int64) (e_m5 : fm[5]? = some (.ref ak)) (e_m6 : fm[6]? = some (.ref ap)) (e_m7 : fm[7]? = some (.ref av)) (e_m8 : fm[8]? = some (.ref an)) (e_m4 : fm[4]? = some (.int 0)) (e_m10 : fm[10]? = some (.int 0)) (z_k : ∀ j : Nat, j < 403 → gk j = 0) : Ctv l D cy yX12_cut wsX12_cut ({ frames := 1, cells := 0, slots := 0, locals := 25 } : Room) [.ref m0] [(m0, .inr (12, fm)), (ak, .inl (cy 0, 403, .inl gk)), (ap, .inl (cy 0, 403, .inl gp)), (av, .inl (cy 0, 403, .inl gv)), (an, .inl (cy 1, 403, .inr (.inl gn)))] myT (fun (w : va_W) => ∃ (gk1 : Nat → Int32), ∃ (gp1 : Nat → Int32), ∃ (gv1 : Nat → Int32), ∃ (gn1 : Nat → Int64), (∀ j : Nat, j < 403 → gk1 j = 0) ∧ w = [(m0, .inr (12, ((fm.set 10 (.int 0)).set 10 (.int 1)))), (ak, .inl (cy 0, 403, .inl gk1)), (ap, .inl (cy 0, 403, .inl gp1)), (av, .inl (cy 0, 403, .inl gv1)), (an, .inl (cy 1, 403, .inr (.inl gn1)))]) := by
  refine ofV (cc := cX12_cut) (maxL := 8) (ret := none) (by decide) rfl (Nat.le_of_ble_eq_true rfl) ?_
  intro p e s m args below meth c A ls hx hb hr hts hown hlocks hml hin hK hP hD hS hA hX hl
  have hown : s.vm.findClass RX12 = some m.cls := hown
  have hl : lv_has ls 8 [(0, .ref m0)] := hl
  refine lv_aload_n hx hb dX12_cut_0 rfl (lv_at hl 0 rfl) ?_
  refine lv_iconst (v := 0) hx hb dX12_cut_1 (by decide) ?_
  refine va_put (ci := 12) (v := .int 0) (ty := .int) (C := RX12) (T := TX12) (N := 90) hx hb hts in_X12_cut_X12 tyX12 tyX12_ok nmX12 hown hK hP hD hS 0 rfl rfl 10 (by decide) (hts (.fieldLink RX12 214 "HallTablesModel" "tokens" "I") (List.mem_of_getElem? (i := 1) rfl)) (fun _ h9 => h9) rfl (by decide +kernel) rfl rfl (lt_of_at e_m10) dX12_cut_2 (fun H locs hP hD hS => ?_)
  have hP : va_P D vwCl [(m0, .inr (12, (fm.set 10 (.int 0)))), (ak, .inl (cy 0, 403, .inl gk)), (ap, .inl (cy 0, 403, .inl gp)), (av, .inl (cy 0, 403, .inl gv)), (an, .inl (cy 1, 403, .inr (.inl gn)))] H := hP
  have hD : va_D A [(m0, .inr (12, (fm.set 10 (.int 0)))), (ak, .inl (cy 0, 403, .inl gk)), (ap, .inl (cy 0, 403, .inl gp)), (av, .inl (cy 0, 403, .inl gv)), (an, .inl (cy 1, 403, .inr (.inl gn)))] := hD
  refine lv_iconst (v := 0) hx hb dX12_cut_5 (by decide) ?_
  refine lv_istore_n (lv' := [(1, .int 0), (0, .ref m0)]) hx hb dX12_cut_6 rfl hl (by decide) rfl (fun ls hl => ?_)
  refine lv_aload_n hx hb dX12_cut_7 rfl (lv_at hl 1 rfl) ?_
  refine va_get (ci := 12) (v := .int 0) (C := RX12) (T := TX12) (N := 90) hx hb hts in_X12_cut_X12 hown hK hP 0 rfl rfl 10 (by decide) (hts (.fieldLink RX12 214 "HallTablesModel" "tokens" "I") (List.mem_of_getElem? (i := 1) rfl)) (fun _ h9 => h9) (setk_same e_m10) dX12_cut_8 ?_
  refine lv_sipush (v := 400) hx hb dX12_cut_11 (by decide) ?_
  refine lv_icmp_gt (tgt := 294) hx hb dX12_cut_14 (by decide) (fun c9 => absurd c9 (by decide)) (fun _ => ?_)
  refine lv_aload_n hx hb dX12_cut_17 rfl (lv_at hl 1 rfl) ?_
  refine lv_iload_n hx hb dX12_cut_18 rfl (lv_at hl 0 rfl) ?_
  refine cVi (As := [.int 0]) (rest := []) (wr := [(ak, .inl (cy 0, 403, .inl gk)), (ap, .inl (cy 0, 403, .inl gp)), (av, .inl (cy 0, 403, .inl gv)), (an, .inl (cy 1, 403, .inr (.inl gn)))]) ⟨hx, hb, hml, hown, hts⟩ (c_X12_byteAt l D cy m0 (fm.set 10 (.int 0)) (setk e_m4 (by decide))) (cwV 1 hts gX12_cut_X12_byteAt rfl rfl rfl (by decide +kernel) ⟨Nat.le_of_ble_eq_true rfl, Nat.le_of_ble_eq_true rfl⟩) hK hP hD hS hA [0] [1, 2, 3, 4] ⟨rfl, rfl, by decide +kernel, by decide +kernel, by decide +kernel⟩ 0 12 rfl rfl myX_T rfl hl.1 rfl (Nat.le_of_ble_eq_true rfl) dX12_cut_19 ⟨Nat.le_of_ble_eq_true rfl, Nat.le_of_ble_eq_true rfl⟩ (fun r_1 w_2 H locs hw hP hD hS => ?_)
  obtain ⟨rfl, rfl⟩ := hw
  have hP : va_P D vwCl [(ak, .inl (cy 0, 403, .inl gk)), (ap, .inl (cy 0, 403, .inl gp)), (av, .inl (cy 0, 403, .inl gv)), (an, .inl (cy 1, 403, .inr (.inl gn))), (m0, .inr (12, (fm.set 10 (.int 0))))] H := hP
  have hD : va_D A [(ak, .inl (cy 0, 403, .inl gk)), (ap, .inl (cy 0, 403, .inl gp)), (av, .inl (cy 0, 403, .inl gv)), (an, .inl (cy 1, 403, .inr (.inl gn))), (m0, .inr (12, (fm.set 10 (.int 0))))] := hD
  refine lv_istore_n (lv' := [(2, .int 0), (1, .int 0), (0, .ref m0)]) hx hb dX12_cut_22 rfl hl (by decide) rfl (fun ls hl => ?_)
  refine lv_iload_n hx hb dX12_cut_23 rfl (lv_at hl 1 rfl) ?_
  refine lv_aload_n hx hb dX12_cut_24 rfl (lv_at hl 2 rfl) ?_
  refine va_get (ci := 12) (v := .int 0) (C := RX12) (T := TX12) (N := 90) hx hb hts in_X12_cut_X12 hown hK hP 4 rfl rfl 4 (by decide) (hts (.fieldLink RX12 209 "HallTablesModel" "size" "I") (List.mem_of_getElem? (i := 2) rfl)) (fun _ h9 => h9) (setk e_m4 (by decide)) dX12_cut_25 ?_
  refine lv_icmp_lt (tgt := 43) hx hb dX12_cut_28 (by decide) (fun c9 => absurd c9 (by decide)) (fun _ => ?_)
  refine lv_aload_n hx hb dX12_cut_31 rfl (lv_at hl 2 rfl) ?_
  refine lv_iconst (v := 0) hx hb dX12_cut_32 (by decide) ?_
  refine lv_aload_n hx hb dX12_cut_33 rfl (lv_at hl 2 rfl) ?_
  refine va_get (ci := 12) (v := .int 0) (C := RX12) (T := TX12) (N := 90) hx hb hts in_X12_cut_X12 hown hK hP 4 rfl rfl 4 (by decide) (hts (.fieldLink RX12 209 "HallTablesModel" "size" "I") (List.mem_of_getElem? (i := 2) rfl)) (fun _ h9 => h9) (setk e_m4 (by decide)) dX12_cut_34 ?_
  refine lv_iconst (v := 0) hx hb dX12_cut_37 (by decide) ?_
  refine lv_lconst (v := 0) hx hb dX12_cut_38 (by decide) ?_
  refine cVv (As := [.int 0, .int 0, .int 0, .long 0]) (rest := []) (wr := []) ⟨hx, hb, hml, hown, hts⟩ (c_X12_token l D cy m0 (fm.set 10 (.int 0)) ak ap av an gk gp gv gn (setk e_m5 (by decide)) (setk e_m6 (by decide)) (setk e_m7 (by decide)) (setk e_m8 (by decide)) (setk_same e_m10) z_k) (cwV 4 hts gX12_cut_X12_token rfl rfl rfl (by decide +kernel) ⟨Nat.le_of_ble_eq_true rfl, Nat.le_of_ble_eq_true rfl⟩) hK hP hD hS hA [4, 0, 1, 2, 3] [] ⟨rfl, rfl, by decide +kernel, by decide +kernel, by decide +kernel⟩ 0 12 rfl rfl myX_T rfl hl.1 rfl (Nat.le_of_ble_eq_true rfl) dX12_cut_39 ⟨Nat.le_of_ble_eq_true rfl, Nat.le_of_ble_eq_true rfl⟩ (fun w_3 H locs hw hP hD hS => ?_)
  obtain ⟨gk_4, gp_5, gv_6, gn_7, h_8, rfl⟩ := hw
  have hP : va_P D vwCl [(m0, .inr (12, ((fm.set 10 (.int 0)).set 10 (.int 1)))), (ak, .inl (cy 0, 403, .inl gk_4)), (ap, .inl (cy 0, 403, .inl gp_5)), (av, .inl (cy 0, 403, .inl gv_6)), (an, .inl (cy 1, 403, .inr (.inl gn_7)))] H := hP
  have hD : va_D A [(m0, .inr (12, ((fm.set 10 (.int 0)).set 10 (.int 1)))), (ak, .inl (cy 0, 403, .inl gk_4)), (ap, .inl (cy 0, 403, .inl gp_5)), (av, .inl (cy 0, 403, .inl gv_6)), (an, .inl (cy 1, 403, .inr (.inl gn_7)))] := hD
  exact endV hx hb hr hlocks [(m0, .inr (12, ((fm.set 10 (.int 0)).set 10 (.int 1)))), (ak, .inl (cy 0, 403, .inl gk_4)), (ap, .inl (cy 0, 403, .inl gp_5)), (av, .inl (cy 0, 403, .inl gv_6)), (an, .inl (cy 1, 403, .inr (.inl gn_7)))] ⟨gk_4, gp_5, gv_6, gn_7, h_8, rfl⟩ hP hD hS (Nat.le_of_ble_eq_true rfl) (Nat.le_of_ble_eq_true rfl) dX12_cut_42

theorem in_X12_is_X12 : ∀ w ∈ u_ws RX12 TX12 90, w ∈ wsX12_is := fun w h => (List.mem_cons_of_mem _ (List.mem_append_right _ h))
set_option maxRecDepth 100000 in
set_option maxHeartbeats 4000000 in
/-- is(END): 1 -/
theorem c_X12_is (l : Launch) (D : va_G) (cy : Nat → ClassId) (m0 : Nat) (fm : List Value) (ak : Nat) (gk : Nat → Int32) (e_m5 : fm[5]? = some (.ref ak)) (e_m11 : fm[11]? = some (.int 0)) (e_m13 : fm[13]? = some (.int 0)) (z_k : ∀ j : Nat, j < 403 → gk j = 0) : Cti l D cy yX12_is wsX12_is ({ frames := 0, cells := 0, slots := 0, locals := 0 } : Room) [.ref m0, .int 0] [(m0, .inr (12, fm)), (ak, .inl (cy 0, 403, .inl gk))] myT (fun (r : Int32) (w : va_W) => r = 1 ∧ w = [(m0, .inr (12, fm)), (ak, .inl (cy 0, 403, .inl gk))]) := by
  refine ofI (cc := cX12_is) (maxL := 2) (ret := (some .boolean)) (by decide) rfl (Nat.le_of_ble_eq_true rfl) ?_
  intro p e s m args below meth c A ls hx hb hr hts hown hlocks hml hin hK hP hD hS hA hX hl
  have hown : s.vm.findClass RX12 = some m.cls := hown
  have hl : lv_has ls 2 [(0, .ref m0), (1, .int 0)] := hl
  refine lv_aload_n hx hb dX12_is_0 rfl (lv_at hl 0 rfl) ?_
  refine va_get (ci := 12) (v := .int 0) (C := RX12) (T := TX12) (N := 90) hx hb hts in_X12_is_X12 hown hK hP 0 rfl rfl 13 (by decide) (hts (.fieldLink RX12 236 "HallTablesModel" "fault" "I") (List.mem_of_getElem? (i := 1) rfl)) (fun _ h9 => h9) e_m13 dX12_is_1 ?_
  refine lv_if_ne (tgt := 24) hx hb dX12_is_4 (by decide) (fun c9 => absurd (by decide) c9) (fun _ => ?_)
  refine lv_aload_n hx hb dX12_is_7 rfl (lv_at hl 0 rfl) ?_
  refine va_get (ci := 12) (v := .ref ak) (C := RX12) (T := TX12) (N := 90) hx hb hts in_X12_is_X12 hown hK hP 0 rfl rfl 5 (by decide) (hts (.fieldLink RX12 20 "HallTablesModel" "tKind" "[I") (List.mem_of_getElem? (i := 2) rfl)) (fun _ h9 => h9) e_m5 dX12_is_8 ?_
  refine lv_aload_n hx hb dX12_is_11 rfl (lv_at hl 0 rfl) ?_
  refine va_get (ci := 12) (v := .int 0) (C := RX12) (T := TX12) (N := 90) hx hb hts in_X12_is_X12 hown hK hP 0 rfl rfl 11 (by decide) (hts (.fieldLink RX12 239 "HallTablesModel" "t" "I") (List.mem_of_getElem? (i := 3) rfl)) (fun _ h9 => h9) e_m11 dX12_is_12 ?_
  refine aI hx hb hK hP 1 rfl 0 rfl (Nat.le_of_ble_eq_true rfl) (Nat.le_of_ble_eq_true rfl) dX12_is_15 ?_
  refine tpI (v := 0) (z_k 0 (Nat.le_of_ble_eq_true rfl)) ?_
  refine lv_iload_n hx hb dX12_is_16 rfl (lv_at hl 1 rfl) ?_
  refine lv_icmp_ne (tgt := 24) hx hb dX12_is_17 (by decide) (fun c9 => absurd (by decide) c9) (fun _ => ?_)
  refine lv_iconst (v := 1) hx hb dX12_is_20 (by decide) ?_
  refine lv_goto (tgt := 25) hx hb dX12_is_21 (by decide) ?_
  exact endI hx hb hr hlocks [(m0, .inr (12, fm)), (ak, .inl (cy 0, 403, .inl gk))] rfl ⟨rfl, rfl⟩ hP hD hS (Nat.le_of_ble_eq_true rfl) (Nat.le_of_ble_eq_true rfl) dX12_is_25

theorem in_X12_begins_X12 : ∀ w ∈ u_ws RX12 TX12 90, w ∈ wsX12_begins := fun w h => (List.mem_cons_of_mem _ (List.mem_append_right _ h))
set_option maxRecDepth 100000 in
set_option maxHeartbeats 4000000 in
/-- begins without men, live = 1 -/
theorem c_X12_begins (l : Launch) (D : va_G) (cy : Nat → ClassId) (m0 : Nat) (fm : List Value) (aha : Nat) (ame : Nat) (ano : Nat) (gha : Nat → Int32) (gme : Nat → Int32) (gno : Nat → Int32) (e_m28 : fm[28]? = some (.ref aha)) (e_m32 : fm[32]? = some (.ref ame)) (e_m39 : fm[39]? = some (.ref ano)) (e_m18 : fm[18]? = some (.int 1)) (z_me : ∀ j : Nat, j < 2 → gme j = 0) : Ctv l D cy yX12_begins wsX12_begins ({ frames := 0, cells := 0, slots := 0, locals := 0 } : Room) [.ref m0] [(m0, .inr (12, fm)), (aha, .inl (cy 0, 100, .inl gha)), (ame, .inl (cy 0, 2, .inl gme)), (ano, .inl (cy 0, 80, .inl gno))] myT (fun (w : va_W) => ∃ (gno1 : Nat → Int32), w = [(m0, .inr (12, fm)), (aha, .inl (cy 0, 100, .inl gha)), (ame, .inl (cy 0, 2, .inl gme)), (ano, .inl (cy 0, 80, .inl gno1))]) := by
  refine ofV (cc := cX12_begins) (maxL := 2) (ret := none) (by decide) rfl (Nat.le_of_ble_eq_true rfl) ?_
  intro p e s m args below meth c A ls hx hb hr hts hown hlocks hml hin hK hP hD hS hA hX hl
  have hown : s.vm.findClass RX12 = some m.cls := hown
  have hl : lv_has ls 2 [(0, .ref m0)] := hl
  refine lv_iconst (v := 0) hx hb dX12_begins_0 (by decide) ?_
  refine lv_istore_n (lv' := [(1, .int 0), (0, .ref m0)]) hx hb dX12_begins_1 rfl hl (by decide) rfl (fun ls hl => ?_)
  have lp_4 : ∀ (n_2 i_1 : Nat) (g_6 : Nat → Int32) (H : Heap) (locs : List Loc) (ls : Array Slot), i_1 + n_2 = 80 → va_P D vwCl [(m0, .inr (12, fm)), (aha, .inl (cy 0, 100, .inl gha)), (ame, .inl (cy 0, 2, .inl gme)), (ano, .inl (cy 0, 80, .inl g_6))] H → va_D A [(m0, .inr (12, fm)), (aha, .inl (cy 0, 100, .inl gha)), (ame, .inl (cy 0, 2, .inl gme)), (ano, .inl (cy 0, 80, .inl g_6))] → va_S A s.heap H locs → lv_has ls 2 [(1, .int (nI i_1)), (0, .ref m0)] → W p l e ({ frames := 0, cells := 0, slots := 0, locals := 0 } : Room) s m args below meth c H locs 0 0 (MQ below (myQv D A (fun (w : va_W) => ∃ (gno1 : Nat → Int32), w = [(m0, .inr (12, fm)), (aha, .inl (cy 0, 100, .inl gha)), (ame, .inl (cy 0, 2, .inl gme)), (ano, .inl (cy 0, 80, .inl gno1))])) args s ({ frames := 0, cells := 0, slots := 0, locals := 0 } : Room).cells ({ frames := 0, cells := 0, slots := 0, locals := 0 } : Room).slots A) (F0 m 2 ls []) := by
    intro n_2
    induction n_2 with
    | zero =>
      intro i_1 g_6 H locs ls hi_5 hP hD hS hl
      obtain rfl : i_1 = 80 := by omega
      refine lv_iload_n hx hb dX12_begins_2 rfl (lv_at hl 0 rfl) ?_
      refine lv_bipush (v := 80) hx hb dX12_begins_3 (by decide) ?_
      refine lv_icmp_ge (tgt := 21) hx hb dX12_begins_5 (by decide) (fun _ => ?_) (fun c9 => absurd (by decide) c9)
      refine lv_iconst (v := 0) hx hb dX12_begins_21 (by decide) ?_
      refine lv_istore_n (lv' := [(1, .int 0), (0, .ref m0)]) hx hb dX12_begins_22 rfl hl (by decide) rfl (fun ls hl => ?_)
      have lp_10 : ∀ (n_8 i_7 : Nat) (g_12 : Nat → Int32) (H : Heap) (locs : List Loc) (ls : Array Slot), i_7 + n_8 = 50 → va_P D vwCl [(m0, .inr (12, fm)), (aha, .inl (cy 0, 100, .inl gha)), (ame, .inl (cy 0, 2, .inl gme)), (ano, .inl (cy 0, 80, .inl g_12))] H → va_D A [(m0, .inr (12, fm)), (aha, .inl (cy 0, 100, .inl gha)), (ame, .inl (cy 0, 2, .inl gme)), (ano, .inl (cy 0, 80, .inl g_12))] → va_S A s.heap H locs → lv_has ls 2 [(1, .int (nI i_7)), (0, .ref m0)] → W p l e ({ frames := 0, cells := 0, slots := 0, locals := 0 } : Room) s m args below meth c H locs 0 0 (MQ below (myQv D A (fun (w : va_W) => ∃ (gno1 : Nat → Int32), w = [(m0, .inr (12, fm)), (aha, .inl (cy 0, 100, .inl gha)), (ame, .inl (cy 0, 2, .inl gme)), (ano, .inl (cy 0, 80, .inl gno1))])) args s ({ frames := 0, cells := 0, slots := 0, locals := 0 } : Room).cells ({ frames := 0, cells := 0, slots := 0, locals := 0 } : Room).slots A) (F0 m 23 ls []) := by
        intro n_8
        induction n_8 with
        | zero =>
          intro i_7 g_12 H locs ls hi_11 hP hD hS hl
          obtain rfl : i_7 = 50 := by omega
          refine lv_iload_n hx hb dX12_begins_23 rfl (lv_at hl 0 rfl) ?_
          refine lv_bipush (v := 50) hx hb dX12_begins_24 (by decide) ?_
          refine lv_icmp_ge (tgt := 55) hx hb dX12_begins_26 (by decide) (fun _ => ?_) (fun c9 => absurd (by decide) c9)
          refine lv_iconst (v := 0) hx hb dX12_begins_55 (by decide) ?_
          refine lv_istore_n (lv' := [(1, .int 0), (0, .ref m0)]) hx hb dX12_begins_56 rfl hl (by decide) rfl (fun ls hl => ?_)
          refine lv_iload_n hx hb dX12_begins_57 rfl (lv_at hl 0 rfl) ?_
          refine lv_aload_n hx hb dX12_begins_58 rfl (lv_at hl 1 rfl) ?_
          refine va_get (ci := 12) (v := .ref ame) (C := RX12) (T := TX12) (N := 90) hx hb hts in_X12_begins_X12 hown hK hP 0 rfl rfl 32 (by decide) (hts (.fieldLink RX12 74 "HallTablesModel" "men" "[I") (List.mem_of_getElem? (i := 4) rfl)) (fun _ h9 => h9) e_m32 dX12_begins_59 ?_
          refine lv_aload_n hx hb dX12_begins_62 rfl (lv_at hl 1 rfl) ?_
          refine va_get (ci := 12) (v := .int 1) (C := RX12) (T := TX12) (N := 90) hx hb hts in_X12_begins_X12 hown hK hP 0 rfl rfl 18 (by decide) (hts (.fieldLink RX12 266 "HallTablesModel" "live" "I") (List.mem_of_getElem? (i := 3) rfl)) (fun _ h9 => h9) e_m18 dX12_begins_63 ?_
          refine aI hx hb hK hP 2 rfl 1 rfl (Nat.le_of_ble_eq_true rfl) (Nat.le_of_ble_eq_true rfl) dX12_begins_66 ?_
          refine tpI (v := 0) (z_me 1 (Nat.le_of_ble_eq_true rfl)) ?_
          refine lv_icmp_ge (tgt := 104) hx hb dX12_begins_67 (by decide) (fun _ => ?_) (fun c9 => absurd (by decide) c9)
          exact endV hx hb hr hlocks [(m0, .inr (12, fm)), (aha, .inl (cy 0, 100, .inl gha)), (ame, .inl (cy 0, 2, .inl gme)), (ano, .inl (cy 0, 80, .inl g_12))] ⟨g_12, rfl⟩ hP hD hS (Nat.le_of_ble_eq_true rfl) (Nat.le_of_ble_eq_true rfl) dX12_begins_104
        | succ n_8 ih_9 =>
          intro i_7 g_12 H locs ls hi_11 hP hD hS hl
          refine lv_iload_n hx hb dX12_begins_23 rfl (lv_at hl 0 rfl) ?_
          refine lv_bipush (v := 50) hx hb dX12_begins_24 (by decide) ?_
          refine lv_icmp_ge (tgt := 55) hx hb dX12_begins_26 (by decide) (fun c9 => absurd c9 (nI_ge (a := i_7) (b := 50) (by omega) (Nat.le_of_ble_eq_true rfl))) (fun _ => ?_)
          refine lv_aload_n hx hb dX12_begins_29 rfl (lv_at hl 1 rfl) ?_
          refine va_get (ci := 12) (v := .ref ano) (C := RX12) (T := TX12) (N := 90) hx hb hts in_X12_begins_X12 hown hK hP 0 rfl rfl 39 (by decide) (hts (.fieldLink RX12 95 "HallTablesModel" "now" "[I") (List.mem_of_getElem? (i := 1) rfl)) (fun _ h9 => h9) e_m39 dX12_begins_30 ?_
          refine lv_iload_n hx hb dX12_begins_33 rfl (lv_at hl 0 rfl) ?_
          refine lv_aload_n hx hb dX12_begins_34 rfl (lv_at hl 1 rfl) ?_
          refine va_get (ci := 12) (v := .ref aha) (C := RX12) (T := TX12) (N := 90) hx hb hts in_X12_begins_X12 hown hK hP 0 rfl rfl 28 (by decide) (hts (.fieldLink RX12 61 "HallTablesModel" "hallHas" "[I") (List.mem_of_getElem? (i := 2) rfl)) (fun _ h9 => h9) e_m28 dX12_begins_35 ?_
          refine lv_bipush (v := 50) hx hb dX12_begins_38 (by decide) ?_
          refine lv_aload_n hx hb dX12_begins_40 rfl (lv_at hl 1 rfl) ?_
          refine va_get (ci := 12) (v := .int 1) (C := RX12) (T := TX12) (N := 90) hx hb hts in_X12_begins_X12 hown hK hP 0 rfl rfl 18 (by decide) (hts (.fieldLink RX12 266 "HallTablesModel" "live" "I") (List.mem_of_getElem? (i := 3) rfl)) (fun _ h9 => h9) e_m18 dX12_begins_41 ?_
          refine lv_imul hx hb dX12_begins_44 ?_
          refine tpI (v := 50) (by decide) ?_
          refine lv_iload_n hx hb dX12_begins_45 rfl (lv_at hl 0 rfl) ?_
          refine lv_iadd hx hb dX12_begins_46 ?_
          refine tpI (v := nI (50 + i_7)) (nI_add 50 i_7) ?_
          refine aI hx hb hK hP 1 rfl (50 + i_7) rfl (by omega) (Nat.le_of_ble_eq_true rfl) dX12_begins_47 ?_
          refine lv_topi (fun v_13 ev_13 => ?_)
          refine sI hx hb hK hP hD hS 3 rfl i_7 rfl (by omega) (Nat.le_of_ble_eq_true rfl) dX12_begins_48 (fun H locs hP hD hS => ?_)
          have hP : va_P D vwCl [(m0, .inr (12, fm)), (aha, .inl (cy 0, 100, .inl gha)), (ame, .inl (cy 0, 2, .inl gme)), (ano, .inl (cy 0, 80, .inl (upd g_12 i_7 v_13)))] H := hP
          have hD : va_D A [(m0, .inr (12, fm)), (aha, .inl (cy 0, 100, .inl gha)), (ame, .inl (cy 0, 2, .inl gme)), (ano, .inl (cy 0, 80, .inl (upd g_12 i_7 v_13)))] := hD
          obtain ⟨f_14, ef_14⟩ : ∃ z, z = upd g_12 i_7 v_13 := ⟨_, rfl⟩
          rw [← ef_14] at hP hD
          refine lv_iinc (v := nI (i_7 + 1)) (lv' := [(1, .int (nI (i_7 + 1))), (0, .ref m0)]) hx hb dX12_begins_49 hl (k := 0) rfl (nI_1 i_7) (by decide) rfl (fun ls hl => ?_)
          refine lv_goto (tgt := 23) hx hb dX12_begins_52 (by decide) ?_
          exact ih_9 (i_7 + 1) f_14 H locs ls (by omega) hP hD hS (lv_sub hl [0, 1] rfl)
      exact lp_10 50 0 g_6 _ _ _ (by omega) hP hD hS hl
    | succ n_2 ih_3 =>
      intro i_1 g_6 H locs ls hi_5 hP hD hS hl
      refine lv_iload_n hx hb dX12_begins_2 rfl (lv_at hl 0 rfl) ?_
      refine lv_bipush (v := 80) hx hb dX12_begins_3 (by decide) ?_
      refine lv_icmp_ge (tgt := 21) hx hb dX12_begins_5 (by decide) (fun c9 => absurd c9 (nI_ge (a := i_1) (b := 80) (by omega) (Nat.le_of_ble_eq_true rfl))) (fun _ => ?_)
      refine lv_aload_n hx hb dX12_begins_8 rfl (lv_at hl 1 rfl) ?_
      refine va_get (ci := 12) (v := .ref ano) (C := RX12) (T := TX12) (N := 90) hx hb hts in_X12_begins_X12 hown hK hP 0 rfl rfl 39 (by decide) (hts (.fieldLink RX12 95 "HallTablesModel" "now" "[I") (List.mem_of_getElem? (i := 1) rfl)) (fun _ h9 => h9) e_m39 dX12_begins_9 ?_
      refine lv_iload_n hx hb dX12_begins_12 rfl (lv_at hl 0 rfl) ?_
      refine lv_iconst (v := 0) hx hb dX12_begins_13 (by decide) ?_
      refine sI hx hb hK hP hD hS 3 rfl i_1 rfl (by omega) (Nat.le_of_ble_eq_true rfl) dX12_begins_14 (fun H locs hP hD hS => ?_)
      have hP : va_P D vwCl [(m0, .inr (12, fm)), (aha, .inl (cy 0, 100, .inl gha)), (ame, .inl (cy 0, 2, .inl gme)), (ano, .inl (cy 0, 80, .inl (upd g_6 i_1 0)))] H := hP
      have hD : va_D A [(m0, .inr (12, fm)), (aha, .inl (cy 0, 100, .inl gha)), (ame, .inl (cy 0, 2, .inl gme)), (ano, .inl (cy 0, 80, .inl (upd g_6 i_1 0)))] := hD
      obtain ⟨f_15, ef_15⟩ : ∃ z, z = upd g_6 i_1 0 := ⟨_, rfl⟩
      rw [← ef_15] at hP hD
      refine lv_iinc (v := nI (i_1 + 1)) (lv' := [(1, .int (nI (i_1 + 1))), (0, .ref m0)]) hx hb dX12_begins_15 hl (k := 0) rfl (nI_1 i_1) (by decide) rfl (fun ls hl => ?_)
      refine lv_goto (tgt := 2) hx hb dX12_begins_18 (by decide) ?_
      exact ih_3 (i_1 + 1) f_15 H locs ls (by omega) hP hD hS (lv_sub hl [0, 1] rfl)
  exact lp_4 80 0 gno _ _ _ (by omega) hP hD hS hl

theorem in_X12_read_X12 : ∀ w ∈ u_ws RX12 TX12 90, w ∈ wsX12_read := fun w h => (List.mem_cons_of_mem _ (List.mem_append_right _ h))
set_option maxRecDepth 100000 in
set_option maxHeartbeats 4000000 in
/-- the reference: read on a new object: 0 -/
theorem c_X12_read (l : Launch) (D : va_G) (cy : Nat → ClassId) (m0 : Nat) (fm : List Value) (ak : Nat) (ap : Nat) (av : Nat) (an : Nat) (gk : Nat → Int32) (gp : Nat → Int32) (gv : Nat → Int32) (gn : Nat → Int64) (aso : Nat) (aho : Nat) (ado : Nat) (ame : Nat) (ala : Nat) (aca : Nat) (awo : Nat) (aha : Nat) (ase : Nat) (ami : Nat) (ano : Nat) (ahe : Nat) (gso : Nat → Int32) (gho : Nat → Int32) (gdo : Nat → Int32) (gme : Nat → Int32) (gla : Nat → Int32) (gca : Nat → Int32) (gwo : Nat → Int32) (gha : Nat → Int32) (gse : Nat → Int32) (gmi : Nat → Int32) (gno : Nat → Int32) (ghe : Nat → Int32) (e_m2 : fm[2]? = some (.int 0)) (e_m4 : fm[4]? = some (.int 0)) (e_m10 : fm[10]? = some (.int 0)) (e_m11 : fm[11]? = some (.int 0)) (e_m12 : fm[12]? = some (.int 0)) (e_m13 : fm[13]? = some (.int 0)) (e_m15 : fm[15]? = some (.int 0)) (e_m17 : fm[17]? = some (.int (-1))) (e_m18 : fm[18]? = some (.int 0)) (e_m19 : fm[19]? = some (.int 0)) (e_m20 : fm[20]? = some (.int 0)) (e_m40 : fm[40]? = some (.int 0)) (e_m73 : fm[73]? = some (.int 0)) (e_m5 : fm[5]? = some (.ref ak)) (e_m6 : fm[6]? = some (.ref ap)) (e_m7 : fm[7]? = some (.ref av)) (e_m8 : fm[8]? = some (.ref an)) (e_m24 : fm[24]? = some (.ref aso)) (e_m26 : fm[26]? = some (.ref aho)) (e_m30 : fm[30]? = some (.ref ado)) (e_m32 : fm[32]? = some (.ref ame)) (e_m35 : fm[35]? = some (.ref ala)) (e_m36 : fm[36]? = some (.ref aca)) (e_m27 : fm[27]? = some (.ref awo)) (e_m28 : fm[28]? = some (.ref aha)) (e_m29 : fm[29]? = some (.ref ase)) (e_m31 : fm[31]? = some (.ref ami)) (e_m39 : fm[39]? = some (.ref ano)) (e_m88 : fm[88]? = some (.ref ahe)) (z_k : ∀ j : Nat, j < 403 → gk j = 0) (z_aso : ∀ j : Nat, j < 2 → gso j = 0) (z_aho : ∀ j : Nat, j < 2 → gho j = 0) (z_ado : ∀ j : Nat, j < 2 → gdo j = 0) (z_ame : ∀ j : Nat, j < 2 → gme j = 0) (z_ala : ∀ j : Nat, j < 2 → gla j = 0) (z_aca : ∀ j : Nat, j < 2 → gca j = 0) : Cti l D cy yX12_read wsX12_read ({ frames := 2, cells := 0, slots := 0, locals := 52 } : Room) [.ref m0] [(m0, .inr (12, fm)), (ak, .inl (cy 0, 403, .inl gk)), (ap, .inl (cy 0, 403, .inl gp)), (av, .inl (cy 0, 403, .inl gv)), (an, .inl (cy 1, 403, .inr (.inl gn))), (aso, .inl (cy 0, 2, .inl gso)), (aho, .inl (cy 0, 2, .inl gho)), (ado, .inl (cy 0, 2, .inl gdo)), (ame, .inl (cy 0, 2, .inl gme)), (ala, .inl (cy 0, 2, .inl gla)), (aca, .inl (cy 0, 2, .inl gca)), (awo, .inl (cy 0, 100, .inl gwo)), (aha, .inl (cy 0, 100, .inl gha)), (ase, .inl (cy 3, 100, .inl gse)), (ami, .inl (cy 0, 200, .inl gmi)), (ano, .inl (cy 0, 80, .inl gno)), (ahe, .inl (cy 3, 3, .inl ghe))] myT (fun (r : Int32) (w : va_W) => r = 0 ∧ w = []) := by
  refine ofI (cc := cX12_read) (maxL := 2) (ret := (some .int)) (by decide) rfl (Nat.le_of_ble_eq_true rfl) ?_
  intro p e s m args below meth c A ls hx hb hr hts hown hlocks hml hin hK hP hD hS hA hX hl
  have hown : s.vm.findClass RX12 = some m.cls := hown
  have hl : lv_has ls 2 [(0, .ref m0)] := hl
  refine lv_aload_n hx hb dX12_read_0 rfl (lv_at hl 0 rfl) ?_
  refine lv_aload_n hx hb dX12_read_1 rfl (lv_at hl 0 rfl) ?_
  refine va_get (ci := 12) (v := .int 0) (C := RX12) (T := TX12) (N := 90) hx hb hts in_X12_read_X12 hown hK hP 0 rfl rfl 2 (by decide) (hts (.fieldLink RX12 202 "HallTablesModel" "taped" "I") (List.mem_of_getElem? (i := 1) rfl)) (fun _ h9 => h9) e_m2 dX12_read_2 ?_
  refine va_put (ci := 12) (v := .int 0) (ty := .int) (C := RX12) (T := TX12) (N := 90) hx hb hts in_X12_read_X12 tyX12 tyX12_ok nmX12 hown hK hP hD hS 0 rfl rfl 4 (by decide) (hts (.fieldLink RX12 209 "HallTablesModel" "size" "I") (List.mem_of_getElem? (i := 2) rfl)) (fun _ h9 => h9) rfl (by decide +kernel) rfl rfl (lt_of_at e_m4) dX12_read_5 (fun H locs hP hD hS => ?_)
  have hP : va_P D vwCl [(m0, .inr (12, (fm.set 4 (.int 0)))), (ak, .inl (cy 0, 403, .inl gk)), (ap, .inl (cy 0, 403, .inl gp)), (av, .inl (cy 0, 403, .inl gv)), (an, .inl (cy 1, 403, .inr (.inl gn))), (aso, .inl (cy 0, 2, .inl gso)), (aho, .inl (cy 0, 2, .inl gho)), (ado, .inl (cy 0, 2, .inl gdo)), (ame, .inl (cy 0, 2, .inl gme)), (ala, .inl (cy 0, 2, .inl gla)), (aca, .inl (cy 0, 2, .inl gca)), (awo, .inl (cy 0, 100, .inl gwo)), (aha, .inl (cy 0, 100, .inl gha)), (ase, .inl (cy 3, 100, .inl gse)), (ami, .inl (cy 0, 200, .inl gmi)), (ano, .inl (cy 0, 80, .inl gno)), (ahe, .inl (cy 3, 3, .inl ghe))] H := hP
  have hD : va_D A [(m0, .inr (12, (fm.set 4 (.int 0)))), (ak, .inl (cy 0, 403, .inl gk)), (ap, .inl (cy 0, 403, .inl gp)), (av, .inl (cy 0, 403, .inl gv)), (an, .inl (cy 1, 403, .inr (.inl gn))), (aso, .inl (cy 0, 2, .inl gso)), (aho, .inl (cy 0, 2, .inl gho)), (ado, .inl (cy 0, 2, .inl gdo)), (ame, .inl (cy 0, 2, .inl gme)), (ala, .inl (cy 0, 2, .inl gla)), (aca, .inl (cy 0, 2, .inl gca)), (awo, .inl (cy 0, 100, .inl gwo)), (aha, .inl (cy 0, 100, .inl gha)), (ase, .inl (cy 3, 100, .inl gse)), (ami, .inl (cy 0, 200, .inl gmi)), (ano, .inl (cy 0, 80, .inl gno)), (ahe, .inl (cy 3, 3, .inl ghe))] := hD
  refine lv_iconst (v := 0) hx hb dX12_read_8 (by decide) ?_
  refine lv_istore_n (lv' := [(1, .int 0), (0, .ref m0)]) hx hb dX12_read_9 rfl hl (by decide) rfl (fun ls hl => ?_)
  refine lv_iload_n hx hb dX12_read_10 rfl (lv_at hl 0 rfl) ?_
  refine lv_aload_n hx hb dX12_read_11 rfl (lv_at hl 1 rfl) ?_
  refine va_get (ci := 12) (v := .int 0) (C := RX12) (T := TX12) (N := 90) hx hb hts in_X12_read_X12 hown hK hP 0 rfl rfl 4 (by decide) (hts (.fieldLink RX12 209 "HallTablesModel" "size" "I") (List.mem_of_getElem? (i := 2) rfl)) (fun _ h9 => h9) (setk_same e_m4) dX12_read_12 ?_
  refine lv_icmp_ge (tgt := 36) hx hb dX12_read_15 (by decide) (fun _ => ?_) (fun c9 => absurd (by decide) c9)
  refine lv_aload_n hx hb dX12_read_36 rfl (lv_at hl 1 rfl) ?_
  refine lv_iconst (v := 0) hx hb dX12_read_37 (by decide) ?_
  refine va_put (ci := 12) (v := .int 0) (ty := .int) (C := RX12) (T := TX12) (N := 90) hx hb hts in_X12_read_X12 tyX12 tyX12_ok nmX12 hown hK hP hD hS 0 rfl rfl 2 (by decide) (hts (.fieldLink RX12 202 "HallTablesModel" "taped" "I") (List.mem_of_getElem? (i := 1) rfl)) (fun _ h9 => h9) rfl (by decide +kernel) rfl rfl (lt_of_at (setk e_m2 (by decide))) dX12_read_38 (fun H locs hP hD hS => ?_)
  have hP : va_P D vwCl [(m0, .inr (12, ((fm.set 4 (.int 0)).set 2 (.int 0)))), (ak, .inl (cy 0, 403, .inl gk)), (ap, .inl (cy 0, 403, .inl gp)), (av, .inl (cy 0, 403, .inl gv)), (an, .inl (cy 1, 403, .inr (.inl gn))), (aso, .inl (cy 0, 2, .inl gso)), (aho, .inl (cy 0, 2, .inl gho)), (ado, .inl (cy 0, 2, .inl gdo)), (ame, .inl (cy 0, 2, .inl gme)), (ala, .inl (cy 0, 2, .inl gla)), (aca, .inl (cy 0, 2, .inl gca)), (awo, .inl (cy 0, 100, .inl gwo)), (aha, .inl (cy 0, 100, .inl gha)), (ase, .inl (cy 3, 100, .inl gse)), (ami, .inl (cy 0, 200, .inl gmi)), (ano, .inl (cy 0, 80, .inl gno)), (ahe, .inl (cy 3, 3, .inl ghe))] H := hP
  have hD : va_D A [(m0, .inr (12, ((fm.set 4 (.int 0)).set 2 (.int 0)))), (ak, .inl (cy 0, 403, .inl gk)), (ap, .inl (cy 0, 403, .inl gp)), (av, .inl (cy 0, 403, .inl gv)), (an, .inl (cy 1, 403, .inr (.inl gn))), (aso, .inl (cy 0, 2, .inl gso)), (aho, .inl (cy 0, 2, .inl gho)), (ado, .inl (cy 0, 2, .inl gdo)), (ame, .inl (cy 0, 2, .inl gme)), (ala, .inl (cy 0, 2, .inl gla)), (aca, .inl (cy 0, 2, .inl gca)), (awo, .inl (cy 0, 100, .inl gwo)), (aha, .inl (cy 0, 100, .inl gha)), (ase, .inl (cy 3, 100, .inl gse)), (ami, .inl (cy 0, 200, .inl gmi)), (ano, .inl (cy 0, 80, .inl gno)), (ahe, .inl (cy 3, 3, .inl ghe))] := hD
  refine lv_aload_n hx hb dX12_read_41 rfl (lv_at hl 1 rfl) ?_
  refine cVv (As := []) (rest := []) (wr := [(aso, .inl (cy 0, 2, .inl gso)), (aho, .inl (cy 0, 2, .inl gho)), (ado, .inl (cy 0, 2, .inl gdo)), (ame, .inl (cy 0, 2, .inl gme)), (ala, .inl (cy 0, 2, .inl gla)), (aca, .inl (cy 0, 2, .inl gca)), (awo, .inl (cy 0, 100, .inl gwo)), (aha, .inl (cy 0, 100, .inl gha)), (ase, .inl (cy 3, 100, .inl gse)), (ami, .inl (cy 0, 200, .inl gmi)), (ano, .inl (cy 0, 80, .inl gno)), (ahe, .inl (cy 3, 3, .inl ghe))]) ⟨hx, hb, hml, hown, hts⟩ (c_X12_cut l D cy m0 ((fm.set 4 (.int 0)).set 2 (.int 0)) ak ap av an gk gp gv gn (setk (setk e_m5 (by decide)) (by decide)) (setk (setk e_m6 (by decide)) (by decide)) (setk (setk e_m7 (by decide)) (by decide)) (setk (setk e_m8 (by decide)) (by decide)) (setk (setk_same e_m4) (by decide)) (setk (setk e_m10 (by decide)) (by decide)) z_k) (cwV 0 hts gX12_read_X12_cut rfl rfl rfl (by decide +kernel) ⟨Nat.le_of_ble_eq_true rfl, Nat.le_of_ble_eq_true rfl⟩) hK hP hD hS hA [0, 1, 2, 3, 4] [5, 6, 7, 8, 9, 10, 11, 12, 13, 14, 15, 16] ⟨rfl, rfl, by decide +kernel, by decide +kernel, by decide +kernel⟩ 0 12 rfl rfl myX_T rfl hl.1 rfl (Nat.le_of_ble_eq_true rfl) dX12_read_42 ⟨Nat.le_of_ble_eq_true rfl, Nat.le_of_ble_eq_true rfl⟩ (fun w_1 H locs hw hP hD hS => ?_)
  obtain ⟨gk_2, gp_3, gv_4, gn_5, h_6, rfl⟩ := hw
  have hP : va_P D vwCl [(aso, .inl (cy 0, 2, .inl gso)), (aho, .inl (cy 0, 2, .inl gho)), (ado, .inl (cy 0, 2, .inl gdo)), (ame, .inl (cy 0, 2, .inl gme)), (ala, .inl (cy 0, 2, .inl gla)), (aca, .inl (cy 0, 2, .inl gca)), (awo, .inl (cy 0, 100, .inl gwo)), (aha, .inl (cy 0, 100, .inl gha)), (ase, .inl (cy 3, 100, .inl gse)), (ami, .inl (cy 0, 200, .inl gmi)), (ano, .inl (cy 0, 80, .inl gno)), (ahe, .inl (cy 3, 3, .inl ghe)), (m0, .inr (12, ((((fm.set 4 (.int 0)).set 2 (.int 0)).set 10 (.int 0)).set 10 (.int 1)))), (ak, .inl (cy 0, 403, .inl gk_2)), (ap, .inl (cy 0, 403, .inl gp_3)), (av, .inl (cy 0, 403, .inl gv_4)), (an, .inl (cy 1, 403, .inr (.inl gn_5)))] H := hP
  have hD : va_D A [(aso, .inl (cy 0, 2, .inl gso)), (aho, .inl (cy 0, 2, .inl gho)), (ado, .inl (cy 0, 2, .inl gdo)), (ame, .inl (cy 0, 2, .inl gme)), (ala, .inl (cy 0, 2, .inl gla)), (aca, .inl (cy 0, 2, .inl gca)), (awo, .inl (cy 0, 100, .inl gwo)), (aha, .inl (cy 0, 100, .inl gha)), (ase, .inl (cy 3, 100, .inl gse)), (ami, .inl (cy 0, 200, .inl gmi)), (ano, .inl (cy 0, 80, .inl gno)), (ahe, .inl (cy 3, 3, .inl ghe)), (m0, .inr (12, ((((fm.set 4 (.int 0)).set 2 (.int 0)).set 10 (.int 0)).set 10 (.int 1)))), (ak, .inl (cy 0, 403, .inl gk_2)), (ap, .inl (cy 0, 403, .inl gp_3)), (av, .inl (cy 0, 403, .inl gv_4)), (an, .inl (cy 1, 403, .inr (.inl gn_5)))] := hD
  refine lv_aload_n hx hb dX12_read_45 rfl (lv_at hl 1 rfl) ?_
  refine lv_iconst (v := 0) hx hb dX12_read_46 (by decide) ?_
  refine va_put (ci := 12) (v := .int 0) (ty := .int) (C := RX12) (T := TX12) (N := 90) hx hb hts in_X12_read_X12 tyX12 tyX12_ok nmX12 hown hK hP hD hS 12 rfl rfl 11 (by decide) (hts (.fieldLink RX12 239 "HallTablesModel" "t" "I") (List.mem_of_getElem? (i := 3) rfl)) (fun _ h9 => h9) rfl (by decide +kernel) rfl rfl (lt_of_at (setk (setk (setk (setk e_m11 (by decide)) (by decide)) (by decide)) (by decide))) dX12_read_47 (fun H locs hP hD hS => ?_)
  have hP : va_P D vwCl [(aso, .inl (cy 0, 2, .inl gso)), (aho, .inl (cy 0, 2, .inl gho)), (ado, .inl (cy 0, 2, .inl gdo)), (ame, .inl (cy 0, 2, .inl gme)), (ala, .inl (cy 0, 2, .inl gla)), (aca, .inl (cy 0, 2, .inl gca)), (awo, .inl (cy 0, 100, .inl gwo)), (aha, .inl (cy 0, 100, .inl gha)), (ase, .inl (cy 3, 100, .inl gse)), (ami, .inl (cy 0, 200, .inl gmi)), (ano, .inl (cy 0, 80, .inl gno)), (ahe, .inl (cy 3, 3, .inl ghe)), (m0, .inr (12, (((((fm.set 4 (.int 0)).set 2 (.int 0)).set 10 (.int 0)).set 10 (.int 1)).set 11 (.int 0)))), (ak, .inl (cy 0, 403, .inl gk_2)), (ap, .inl (cy 0, 403, .inl gp_3)), (av, .inl (cy 0, 403, .inl gv_4)), (an, .inl (cy 1, 403, .inr (.inl gn_5)))] H := hP
  have hD : va_D A [(aso, .inl (cy 0, 2, .inl gso)), (aho, .inl (cy 0, 2, .inl gho)), (ado, .inl (cy 0, 2, .inl gdo)), (ame, .inl (cy 0, 2, .inl gme)), (ala, .inl (cy 0, 2, .inl gla)), (aca, .inl (cy 0, 2, .inl gca)), (awo, .inl (cy 0, 100, .inl gwo)), (aha, .inl (cy 0, 100, .inl gha)), (ase, .inl (cy 3, 100, .inl gse)), (ami, .inl (cy 0, 200, .inl gmi)), (ano, .inl (cy 0, 80, .inl gno)), (ahe, .inl (cy 3, 3, .inl ghe)), (m0, .inr (12, (((((fm.set 4 (.int 0)).set 2 (.int 0)).set 10 (.int 0)).set 10 (.int 1)).set 11 (.int 0)))), (ak, .inl (cy 0, 403, .inl gk_2)), (ap, .inl (cy 0, 403, .inl gp_3)), (av, .inl (cy 0, 403, .inl gv_4)), (an, .inl (cy 1, 403, .inr (.inl gn_5)))] := hD
  refine lv_aload_n hx hb dX12_read_50 rfl (lv_at hl 1 rfl) ?_
  refine lv_iconst (v := 0) hx hb dX12_read_51 (by decide) ?_
  refine va_put (ci := 12) (v := .int 0) (ty := .int) (C := RX12) (T := TX12) (N := 90) hx hb hts in_X12_read_X12 tyX12 tyX12_ok nmX12 hown hK hP hD hS 12 rfl rfl 12 (by decide) (hts (.fieldLink RX12 263 "HallTablesModel" "open" "I") (List.mem_of_getElem? (i := 4) rfl)) (fun _ h9 => h9) rfl (by decide +kernel) rfl rfl (lt_of_at (setk (setk (setk (setk (setk e_m12 (by decide)) (by decide)) (by decide)) (by decide)) (by decide))) dX12_read_52 (fun H locs hP hD hS => ?_)
  have hP : va_P D vwCl [(aso, .inl (cy 0, 2, .inl gso)), (aho, .inl (cy 0, 2, .inl gho)), (ado, .inl (cy 0, 2, .inl gdo)), (ame, .inl (cy 0, 2, .inl gme)), (ala, .inl (cy 0, 2, .inl gla)), (aca, .inl (cy 0, 2, .inl gca)), (awo, .inl (cy 0, 100, .inl gwo)), (aha, .inl (cy 0, 100, .inl gha)), (ase, .inl (cy 3, 100, .inl gse)), (ami, .inl (cy 0, 200, .inl gmi)), (ano, .inl (cy 0, 80, .inl gno)), (ahe, .inl (cy 3, 3, .inl ghe)), (m0, .inr (12, ((((((fm.set 4 (.int 0)).set 2 (.int 0)).set 10 (.int 0)).set 10 (.int 1)).set 11 (.int 0)).set 12 (.int 0)))), (ak, .inl (cy 0, 403, .inl gk_2)), (ap, .inl (cy 0, 403, .inl gp_3)), (av, .inl (cy 0, 403, .inl gv_4)), (an, .inl (cy 1, 403, .inr (.inl gn_5)))] H := hP
  have hD : va_D A [(aso, .inl (cy 0, 2, .inl gso)), (aho, .inl (cy 0, 2, .inl gho)), (ado, .inl (cy 0, 2, .inl gdo)), (ame, .inl (cy 0, 2, .inl gme)), (ala, .inl (cy 0, 2, .inl gla)), (aca, .inl (cy 0, 2, .inl gca)), (awo, .inl (cy 0, 100, .inl gwo)), (aha, .inl (cy 0, 100, .inl gha)), (ase, .inl (cy 3, 100, .inl gse)), (ami, .inl (cy 0, 200, .inl gmi)), (ano, .inl (cy 0, 80, .inl gno)), (ahe, .inl (cy 3, 3, .inl ghe)), (m0, .inr (12, ((((((fm.set 4 (.int 0)).set 2 (.int 0)).set 10 (.int 0)).set 10 (.int 1)).set 11 (.int 0)).set 12 (.int 0)))), (ak, .inl (cy 0, 403, .inl gk_2)), (ap, .inl (cy 0, 403, .inl gp_3)), (av, .inl (cy 0, 403, .inl gv_4)), (an, .inl (cy 1, 403, .inr (.inl gn_5)))] := hD
  refine lv_aload_n hx hb dX12_read_55 rfl (lv_at hl 1 rfl) ?_
  refine lv_iconst (v := 0) hx hb dX12_read_56 (by decide) ?_
  refine va_put (ci := 12) (v := .int 0) (ty := .int) (C := RX12) (T := TX12) (N := 90) hx hb hts in_X12_read_X12 tyX12 tyX12_ok nmX12 hown hK hP hD hS 12 rfl rfl 13 (by decide) (hts (.fieldLink RX12 236 "HallTablesModel" "fault" "I") (List.mem_of_getElem? (i := 5) rfl)) (fun _ h9 => h9) rfl (by decide +kernel) rfl rfl (lt_of_at (setk (setk (setk (setk (setk (setk e_m13 (by decide)) (by decide)) (by decide)) (by decide)) (by decide)) (by decide))) dX12_read_57 (fun H locs hP hD hS => ?_)
  have hP : va_P D vwCl [(aso, .inl (cy 0, 2, .inl gso)), (aho, .inl (cy 0, 2, .inl gho)), (ado, .inl (cy 0, 2, .inl gdo)), (ame, .inl (cy 0, 2, .inl gme)), (ala, .inl (cy 0, 2, .inl gla)), (aca, .inl (cy 0, 2, .inl gca)), (awo, .inl (cy 0, 100, .inl gwo)), (aha, .inl (cy 0, 100, .inl gha)), (ase, .inl (cy 3, 100, .inl gse)), (ami, .inl (cy 0, 200, .inl gmi)), (ano, .inl (cy 0, 80, .inl gno)), (ahe, .inl (cy 3, 3, .inl ghe)), (m0, .inr (12, (((((((fm.set 4 (.int 0)).set 2 (.int 0)).set 10 (.int 0)).set 10 (.int 1)).set 11 (.int 0)).set 12 (.int 0)).set 13 (.int 0)))), (ak, .inl (cy 0, 403, .inl gk_2)), (ap, .inl (cy 0, 403, .inl gp_3)), (av, .inl (cy 0, 403, .inl gv_4)), (an, .inl (cy 1, 403, .inr (.inl gn_5)))] H := hP
  have hD : va_D A [(aso, .inl (cy 0, 2, .inl gso)), (aho, .inl (cy 0, 2, .inl gho)), (ado, .inl (cy 0, 2, .inl gdo)), (ame, .inl (cy 0, 2, .inl gme)), (ala, .inl (cy 0, 2, .inl gla)), (aca, .inl (cy 0, 2, .inl gca)), (awo, .inl (cy 0, 100, .inl gwo)), (aha, .inl (cy 0, 100, .inl gha)), (ase, .inl (cy 3, 100, .inl gse)), (ami, .inl (cy 0, 200, .inl gmi)), (ano, .inl (cy 0, 80, .inl gno)), (ahe, .inl (cy 3, 3, .inl ghe)), (m0, .inr (12, (((((((fm.set 4 (.int 0)).set 2 (.int 0)).set 10 (.int 0)).set 10 (.int 1)).set 11 (.int 0)).set 12 (.int 0)).set 13 (.int 0)))), (ak, .inl (cy 0, 403, .inl gk_2)), (ap, .inl (cy 0, 403, .inl gp_3)), (av, .inl (cy 0, 403, .inl gv_4)), (an, .inl (cy 1, 403, .inr (.inl gn_5)))] := hD
  refine lv_aload_n hx hb dX12_read_60 rfl (lv_at hl 1 rfl) ?_
  refine lv_iconst (v := 0) hx hb dX12_read_61 (by decide) ?_
  refine va_put (ci := 12) (v := .int 0) (ty := .int) (C := RX12) (T := TX12) (N := 90) hx hb hts in_X12_read_X12 tyX12 tyX12_ok nmX12 hown hK hP hD hS 12 rfl rfl 15 (by decide) (hts (.fieldLink RX12 245 "HallTablesModel" "worst" "I") (List.mem_of_getElem? (i := 6) rfl)) (fun _ h9 => h9) rfl (by decide +kernel) rfl rfl (lt_of_at (setk (setk (setk (setk (setk (setk (setk e_m15 (by decide)) (by decide)) (by decide)) (by decide)) (by decide)) (by decide)) (by decide))) dX12_read_62 (fun H locs hP hD hS => ?_)
  have hP : va_P D vwCl [(aso, .inl (cy 0, 2, .inl gso)), (aho, .inl (cy 0, 2, .inl gho)), (ado, .inl (cy 0, 2, .inl gdo)), (ame, .inl (cy 0, 2, .inl gme)), (ala, .inl (cy 0, 2, .inl gla)), (aca, .inl (cy 0, 2, .inl gca)), (awo, .inl (cy 0, 100, .inl gwo)), (aha, .inl (cy 0, 100, .inl gha)), (ase, .inl (cy 3, 100, .inl gse)), (ami, .inl (cy 0, 200, .inl gmi)), (ano, .inl (cy 0, 80, .inl gno)), (ahe, .inl (cy 3, 3, .inl ghe)), (m0, .inr (12, ((((((((fm.set 4 (.int 0)).set 2 (.int 0)).set 10 (.int 0)).set 10 (.int 1)).set 11 (.int 0)).set 12 (.int 0)).set 13 (.int 0)).set 15 (.int 0)))), (ak, .inl (cy 0, 403, .inl gk_2)), (ap, .inl (cy 0, 403, .inl gp_3)), (av, .inl (cy 0, 403, .inl gv_4)), (an, .inl (cy 1, 403, .inr (.inl gn_5)))] H := hP
  have hD : va_D A [(aso, .inl (cy 0, 2, .inl gso)), (aho, .inl (cy 0, 2, .inl gho)), (ado, .inl (cy 0, 2, .inl gdo)), (ame, .inl (cy 0, 2, .inl gme)), (ala, .inl (cy 0, 2, .inl gla)), (aca, .inl (cy 0, 2, .inl gca)), (awo, .inl (cy 0, 100, .inl gwo)), (aha, .inl (cy 0, 100, .inl gha)), (ase, .inl (cy 3, 100, .inl gse)), (ami, .inl (cy 0, 200, .inl gmi)), (ano, .inl (cy 0, 80, .inl gno)), (ahe, .inl (cy 3, 3, .inl ghe)), (m0, .inr (12, ((((((((fm.set 4 (.int 0)).set 2 (.int 0)).set 10 (.int 0)).set 10 (.int 1)).set 11 (.int 0)).set 12 (.int 0)).set 13 (.int 0)).set 15 (.int 0)))), (ak, .inl (cy 0, 403, .inl gk_2)), (ap, .inl (cy 0, 403, .inl gp_3)), (av, .inl (cy 0, 403, .inl gv_4)), (an, .inl (cy 1, 403, .inr (.inl gn_5)))] := hD
  refine lv_aload_n hx hb dX12_read_65 rfl (lv_at hl 1 rfl) ?_
  refine lv_iconst (v := 1) hx hb dX12_read_66 (by decide) ?_
  refine lv_aload_n hx hb dX12_read_67 rfl (lv_at hl 1 rfl) ?_
  refine va_get (ci := 12) (v := .int 0) (C := RX12) (T := TX12) (N := 90) hx hb hts in_X12_read_X12 hown hK hP 12 rfl rfl 18 (by decide) (hts (.fieldLink RX12 266 "HallTablesModel" "live" "I") (List.mem_of_getElem? (i := 7) rfl)) (fun _ h9 => h9) (setk (setk (setk (setk (setk (setk (setk (setk e_m18 (by decide)) (by decide)) (by decide)) (by decide)) (by decide)) (by decide)) (by decide)) (by decide)) dX12_read_68 ?_
  refine lv_isub hx hb dX12_read_71 ?_
  refine tpI (v := 1) (by decide) ?_
  refine va_put (ci := 12) (v := .int 1) (ty := .int) (C := RX12) (T := TX12) (N := 90) hx hb hts in_X12_read_X12 tyX12 tyX12_ok nmX12 hown hK hP hD hS 12 rfl rfl 19 (by decide) (hts (.fieldLink RX12 269 "HallTablesModel" "side" "I") (List.mem_of_getElem? (i := 8) rfl)) (fun _ h9 => h9) rfl (by decide +kernel) rfl rfl (lt_of_at (setk (setk (setk (setk (setk (setk (setk (setk e_m19 (by decide)) (by decide)) (by decide)) (by decide)) (by decide)) (by decide)) (by decide)) (by decide))) dX12_read_72 (fun H locs hP hD hS => ?_)
  have hP : va_P D vwCl [(aso, .inl (cy 0, 2, .inl gso)), (aho, .inl (cy 0, 2, .inl gho)), (ado, .inl (cy 0, 2, .inl gdo)), (ame, .inl (cy 0, 2, .inl gme)), (ala, .inl (cy 0, 2, .inl gla)), (aca, .inl (cy 0, 2, .inl gca)), (awo, .inl (cy 0, 100, .inl gwo)), (aha, .inl (cy 0, 100, .inl gha)), (ase, .inl (cy 3, 100, .inl gse)), (ami, .inl (cy 0, 200, .inl gmi)), (ano, .inl (cy 0, 80, .inl gno)), (ahe, .inl (cy 3, 3, .inl ghe)), (m0, .inr (12, (((((((((fm.set 4 (.int 0)).set 2 (.int 0)).set 10 (.int 0)).set 10 (.int 1)).set 11 (.int 0)).set 12 (.int 0)).set 13 (.int 0)).set 15 (.int 0)).set 19 (.int 1)))), (ak, .inl (cy 0, 403, .inl gk_2)), (ap, .inl (cy 0, 403, .inl gp_3)), (av, .inl (cy 0, 403, .inl gv_4)), (an, .inl (cy 1, 403, .inr (.inl gn_5)))] H := hP
  have hD : va_D A [(aso, .inl (cy 0, 2, .inl gso)), (aho, .inl (cy 0, 2, .inl gho)), (ado, .inl (cy 0, 2, .inl gdo)), (ame, .inl (cy 0, 2, .inl gme)), (ala, .inl (cy 0, 2, .inl gla)), (aca, .inl (cy 0, 2, .inl gca)), (awo, .inl (cy 0, 100, .inl gwo)), (aha, .inl (cy 0, 100, .inl gha)), (ase, .inl (cy 3, 100, .inl gse)), (ami, .inl (cy 0, 200, .inl gmi)), (ano, .inl (cy 0, 80, .inl gno)), (ahe, .inl (cy 3, 3, .inl ghe)), (m0, .inr (12, (((((((((fm.set 4 (.int 0)).set 2 (.int 0)).set 10 (.int 0)).set 10 (.int 1)).set 11 (.int 0)).set 12 (.int 0)).set 13 (.int 0)).set 15 (.int 0)).set 19 (.int 1)))), (ak, .inl (cy 0, 403, .inl gk_2)), (ap, .inl (cy 0, 403, .inl gp_3)), (av, .inl (cy 0, 403, .inl gv_4)), (an, .inl (cy 1, 403, .inr (.inl gn_5)))] := hD
  refine lv_aload_n hx hb dX12_read_75 rfl (lv_at hl 1 rfl) ?_
  refine lv_iconst (v := 0) hx hb dX12_read_76 (by decide) ?_
  refine va_put (ci := 12) (v := .int 0) (ty := .int) (C := RX12) (T := TX12) (N := 90) hx hb hts in_X12_read_X12 tyX12 tyX12_ok nmX12 hown hK hP hD hS 12 rfl rfl 20 (by decide) (hts (.fieldLink RX12 272 "HallTablesModel" "names" "I") (List.mem_of_getElem? (i := 9) rfl)) (fun _ h9 => h9) rfl (by decide +kernel) rfl rfl (lt_of_at (setk (setk (setk (setk (setk (setk (setk (setk (setk e_m20 (by decide)) (by decide)) (by decide)) (by decide)) (by decide)) (by decide)) (by decide)) (by decide)) (by decide))) dX12_read_77 (fun H locs hP hD hS => ?_)
  have hP : va_P D vwCl [(aso, .inl (cy 0, 2, .inl gso)), (aho, .inl (cy 0, 2, .inl gho)), (ado, .inl (cy 0, 2, .inl gdo)), (ame, .inl (cy 0, 2, .inl gme)), (ala, .inl (cy 0, 2, .inl gla)), (aca, .inl (cy 0, 2, .inl gca)), (awo, .inl (cy 0, 100, .inl gwo)), (aha, .inl (cy 0, 100, .inl gha)), (ase, .inl (cy 3, 100, .inl gse)), (ami, .inl (cy 0, 200, .inl gmi)), (ano, .inl (cy 0, 80, .inl gno)), (ahe, .inl (cy 3, 3, .inl ghe)), (m0, .inr (12, ((((((((((fm.set 4 (.int 0)).set 2 (.int 0)).set 10 (.int 0)).set 10 (.int 1)).set 11 (.int 0)).set 12 (.int 0)).set 13 (.int 0)).set 15 (.int 0)).set 19 (.int 1)).set 20 (.int 0)))), (ak, .inl (cy 0, 403, .inl gk_2)), (ap, .inl (cy 0, 403, .inl gp_3)), (av, .inl (cy 0, 403, .inl gv_4)), (an, .inl (cy 1, 403, .inr (.inl gn_5)))] H := hP
  have hD : va_D A [(aso, .inl (cy 0, 2, .inl gso)), (aho, .inl (cy 0, 2, .inl gho)), (ado, .inl (cy 0, 2, .inl gdo)), (ame, .inl (cy 0, 2, .inl gme)), (ala, .inl (cy 0, 2, .inl gla)), (aca, .inl (cy 0, 2, .inl gca)), (awo, .inl (cy 0, 100, .inl gwo)), (aha, .inl (cy 0, 100, .inl gha)), (ase, .inl (cy 3, 100, .inl gse)), (ami, .inl (cy 0, 200, .inl gmi)), (ano, .inl (cy 0, 80, .inl gno)), (ahe, .inl (cy 3, 3, .inl ghe)), (m0, .inr (12, ((((((((((fm.set 4 (.int 0)).set 2 (.int 0)).set 10 (.int 0)).set 10 (.int 1)).set 11 (.int 0)).set 12 (.int 0)).set 13 (.int 0)).set 15 (.int 0)).set 19 (.int 1)).set 20 (.int 0)))), (ak, .inl (cy 0, 403, .inl gk_2)), (ap, .inl (cy 0, 403, .inl gp_3)), (av, .inl (cy 0, 403, .inl gv_4)), (an, .inl (cy 1, 403, .inr (.inl gn_5)))] := hD
  refine lv_aload_n hx hb dX12_read_80 rfl (lv_at hl 1 rfl) ?_
  refine va_get (ci := 12) (v := .ref aso) (C := RX12) (T := TX12) (N := 90) hx hb hts in_X12_read_X12 hown hK hP 12 rfl rfl 24 (by decide) (hts (.fieldLink RX12 49 "HallTablesModel" "sorts" "[I") (List.mem_of_getElem? (i := 10) rfl)) (fun _ h9 => h9) (setk (setk (setk (setk (setk (setk (setk (setk (setk (setk e_m24 (by decide)) (by decide)) (by decide)) (by decide)) (by decide)) (by decide)) (by decide)) (by decide)) (by decide)) (by decide)) dX12_read_81 ?_
  refine lv_aload_n hx hb dX12_read_84 rfl (lv_at hl 1 rfl) ?_
  refine va_get (ci := 12) (v := .int 1) (C := RX12) (T := TX12) (N := 90) hx hb hts in_X12_read_X12 hown hK hP 12 rfl rfl 19 (by decide) (hts (.fieldLink RX12 269 "HallTablesModel" "side" "I") (List.mem_of_getElem? (i := 8) rfl)) (fun _ h9 => h9) (setk (setk_same (setk (setk (setk (setk (setk (setk (setk (setk e_m19 (by decide)) (by decide)) (by decide)) (by decide)) (by decide)) (by decide)) (by decide)) (by decide))) (by decide)) dX12_read_85 ?_
  refine lv_iconst (v := 0) hx hb dX12_read_88 (by decide) ?_
  refine sI hx hb hK hP hD hS 0 rfl 1 rfl (Nat.le_of_ble_eq_true rfl) (Nat.le_of_ble_eq_true rfl) dX12_read_89 (fun H locs hP hD hS => ?_)
  have hP : va_P D vwCl [(aso, .inl (cy 0, 2, .inl (upd gso 1 0))), (aho, .inl (cy 0, 2, .inl gho)), (ado, .inl (cy 0, 2, .inl gdo)), (ame, .inl (cy 0, 2, .inl gme)), (ala, .inl (cy 0, 2, .inl gla)), (aca, .inl (cy 0, 2, .inl gca)), (awo, .inl (cy 0, 100, .inl gwo)), (aha, .inl (cy 0, 100, .inl gha)), (ase, .inl (cy 3, 100, .inl gse)), (ami, .inl (cy 0, 200, .inl gmi)), (ano, .inl (cy 0, 80, .inl gno)), (ahe, .inl (cy 3, 3, .inl ghe)), (m0, .inr (12, ((((((((((fm.set 4 (.int 0)).set 2 (.int 0)).set 10 (.int 0)).set 10 (.int 1)).set 11 (.int 0)).set 12 (.int 0)).set 13 (.int 0)).set 15 (.int 0)).set 19 (.int 1)).set 20 (.int 0)))), (ak, .inl (cy 0, 403, .inl gk_2)), (ap, .inl (cy 0, 403, .inl gp_3)), (av, .inl (cy 0, 403, .inl gv_4)), (an, .inl (cy 1, 403, .inr (.inl gn_5)))] H := hP
  have hD : va_D A [(aso, .inl (cy 0, 2, .inl (upd gso 1 0))), (aho, .inl (cy 0, 2, .inl gho)), (ado, .inl (cy 0, 2, .inl gdo)), (ame, .inl (cy 0, 2, .inl gme)), (ala, .inl (cy 0, 2, .inl gla)), (aca, .inl (cy 0, 2, .inl gca)), (awo, .inl (cy 0, 100, .inl gwo)), (aha, .inl (cy 0, 100, .inl gha)), (ase, .inl (cy 3, 100, .inl gse)), (ami, .inl (cy 0, 200, .inl gmi)), (ano, .inl (cy 0, 80, .inl gno)), (ahe, .inl (cy 3, 3, .inl ghe)), (m0, .inr (12, ((((((((((fm.set 4 (.int 0)).set 2 (.int 0)).set 10 (.int 0)).set 10 (.int 1)).set 11 (.int 0)).set 12 (.int 0)).set 13 (.int 0)).set 15 (.int 0)).set 19 (.int 1)).set 20 (.int 0)))), (ak, .inl (cy 0, 403, .inl gk_2)), (ap, .inl (cy 0, 403, .inl gp_3)), (av, .inl (cy 0, 403, .inl gv_4)), (an, .inl (cy 1, 403, .inr (.inl gn_5)))] := hD
  have hz_8 := updall (k := 1) z_aso
  obtain ⟨f_7, ef_7⟩ : ∃ z, z = upd gso 1 0 := ⟨_, rfl⟩
  rw [← ef_7] at hP hD hz_8
  refine lv_aload_n hx hb dX12_read_90 rfl (lv_at hl 1 rfl) ?_
  refine va_get (ci := 12) (v := .ref aho) (C := RX12) (T := TX12) (N := 90) hx hb hts in_X12_read_X12 hown hK hP 12 rfl rfl 26 (by decide) (hts (.fieldLink RX12 55 "HallTablesModel" "houses" "[I") (List.mem_of_getElem? (i := 11) rfl)) (fun _ h9 => h9) (setk (setk (setk (setk (setk (setk (setk (setk (setk (setk e_m26 (by decide)) (by decide)) (by decide)) (by decide)) (by decide)) (by decide)) (by decide)) (by decide)) (by decide)) (by decide)) dX12_read_91 ?_
  refine lv_aload_n hx hb dX12_read_94 rfl (lv_at hl 1 rfl) ?_
  refine va_get (ci := 12) (v := .int 1) (C := RX12) (T := TX12) (N := 90) hx hb hts in_X12_read_X12 hown hK hP 12 rfl rfl 19 (by decide) (hts (.fieldLink RX12 269 "HallTablesModel" "side" "I") (List.mem_of_getElem? (i := 8) rfl)) (fun _ h9 => h9) (setk (setk_same (setk (setk (setk (setk (setk (setk (setk (setk e_m19 (by decide)) (by decide)) (by decide)) (by decide)) (by decide)) (by decide)) (by decide)) (by decide))) (by decide)) dX12_read_95 ?_
  refine lv_iconst (v := 0) hx hb dX12_read_98 (by decide) ?_
  refine sI hx hb hK hP hD hS 1 rfl 1 rfl (Nat.le_of_ble_eq_true rfl) (Nat.le_of_ble_eq_true rfl) dX12_read_99 (fun H locs hP hD hS => ?_)
  have hP : va_P D vwCl [(aso, .inl (cy 0, 2, .inl f_7)), (aho, .inl (cy 0, 2, .inl (upd gho 1 0))), (ado, .inl (cy 0, 2, .inl gdo)), (ame, .inl (cy 0, 2, .inl gme)), (ala, .inl (cy 0, 2, .inl gla)), (aca, .inl (cy 0, 2, .inl gca)), (awo, .inl (cy 0, 100, .inl gwo)), (aha, .inl (cy 0, 100, .inl gha)), (ase, .inl (cy 3, 100, .inl gse)), (ami, .inl (cy 0, 200, .inl gmi)), (ano, .inl (cy 0, 80, .inl gno)), (ahe, .inl (cy 3, 3, .inl ghe)), (m0, .inr (12, ((((((((((fm.set 4 (.int 0)).set 2 (.int 0)).set 10 (.int 0)).set 10 (.int 1)).set 11 (.int 0)).set 12 (.int 0)).set 13 (.int 0)).set 15 (.int 0)).set 19 (.int 1)).set 20 (.int 0)))), (ak, .inl (cy 0, 403, .inl gk_2)), (ap, .inl (cy 0, 403, .inl gp_3)), (av, .inl (cy 0, 403, .inl gv_4)), (an, .inl (cy 1, 403, .inr (.inl gn_5)))] H := hP
  have hD : va_D A [(aso, .inl (cy 0, 2, .inl f_7)), (aho, .inl (cy 0, 2, .inl (upd gho 1 0))), (ado, .inl (cy 0, 2, .inl gdo)), (ame, .inl (cy 0, 2, .inl gme)), (ala, .inl (cy 0, 2, .inl gla)), (aca, .inl (cy 0, 2, .inl gca)), (awo, .inl (cy 0, 100, .inl gwo)), (aha, .inl (cy 0, 100, .inl gha)), (ase, .inl (cy 3, 100, .inl gse)), (ami, .inl (cy 0, 200, .inl gmi)), (ano, .inl (cy 0, 80, .inl gno)), (ahe, .inl (cy 3, 3, .inl ghe)), (m0, .inr (12, ((((((((((fm.set 4 (.int 0)).set 2 (.int 0)).set 10 (.int 0)).set 10 (.int 1)).set 11 (.int 0)).set 12 (.int 0)).set 13 (.int 0)).set 15 (.int 0)).set 19 (.int 1)).set 20 (.int 0)))), (ak, .inl (cy 0, 403, .inl gk_2)), (ap, .inl (cy 0, 403, .inl gp_3)), (av, .inl (cy 0, 403, .inl gv_4)), (an, .inl (cy 1, 403, .inr (.inl gn_5)))] := hD
  have hz_10 := updall (k := 1) z_aho
  obtain ⟨f_9, ef_9⟩ : ∃ z, z = upd gho 1 0 := ⟨_, rfl⟩
  rw [← ef_9] at hP hD hz_10
  refine lv_aload_n hx hb dX12_read_100 rfl (lv_at hl 1 rfl) ?_
  refine va_get (ci := 12) (v := .ref ado) (C := RX12) (T := TX12) (N := 90) hx hb hts in_X12_read_X12 hown hK hP 12 rfl rfl 30 (by decide) (hts (.fieldLink RX12 68 "HallTablesModel" "doors" "[I") (List.mem_of_getElem? (i := 12) rfl)) (fun _ h9 => h9) (setk (setk (setk (setk (setk (setk (setk (setk (setk (setk e_m30 (by decide)) (by decide)) (by decide)) (by decide)) (by decide)) (by decide)) (by decide)) (by decide)) (by decide)) (by decide)) dX12_read_101 ?_
  refine lv_aload_n hx hb dX12_read_104 rfl (lv_at hl 1 rfl) ?_
  refine va_get (ci := 12) (v := .int 1) (C := RX12) (T := TX12) (N := 90) hx hb hts in_X12_read_X12 hown hK hP 12 rfl rfl 19 (by decide) (hts (.fieldLink RX12 269 "HallTablesModel" "side" "I") (List.mem_of_getElem? (i := 8) rfl)) (fun _ h9 => h9) (setk (setk_same (setk (setk (setk (setk (setk (setk (setk (setk e_m19 (by decide)) (by decide)) (by decide)) (by decide)) (by decide)) (by decide)) (by decide)) (by decide))) (by decide)) dX12_read_105 ?_
  refine lv_iconst (v := 0) hx hb dX12_read_108 (by decide) ?_
  refine sI hx hb hK hP hD hS 2 rfl 1 rfl (Nat.le_of_ble_eq_true rfl) (Nat.le_of_ble_eq_true rfl) dX12_read_109 (fun H locs hP hD hS => ?_)
  have hP : va_P D vwCl [(aso, .inl (cy 0, 2, .inl f_7)), (aho, .inl (cy 0, 2, .inl f_9)), (ado, .inl (cy 0, 2, .inl (upd gdo 1 0))), (ame, .inl (cy 0, 2, .inl gme)), (ala, .inl (cy 0, 2, .inl gla)), (aca, .inl (cy 0, 2, .inl gca)), (awo, .inl (cy 0, 100, .inl gwo)), (aha, .inl (cy 0, 100, .inl gha)), (ase, .inl (cy 3, 100, .inl gse)), (ami, .inl (cy 0, 200, .inl gmi)), (ano, .inl (cy 0, 80, .inl gno)), (ahe, .inl (cy 3, 3, .inl ghe)), (m0, .inr (12, ((((((((((fm.set 4 (.int 0)).set 2 (.int 0)).set 10 (.int 0)).set 10 (.int 1)).set 11 (.int 0)).set 12 (.int 0)).set 13 (.int 0)).set 15 (.int 0)).set 19 (.int 1)).set 20 (.int 0)))), (ak, .inl (cy 0, 403, .inl gk_2)), (ap, .inl (cy 0, 403, .inl gp_3)), (av, .inl (cy 0, 403, .inl gv_4)), (an, .inl (cy 1, 403, .inr (.inl gn_5)))] H := hP
  have hD : va_D A [(aso, .inl (cy 0, 2, .inl f_7)), (aho, .inl (cy 0, 2, .inl f_9)), (ado, .inl (cy 0, 2, .inl (upd gdo 1 0))), (ame, .inl (cy 0, 2, .inl gme)), (ala, .inl (cy 0, 2, .inl gla)), (aca, .inl (cy 0, 2, .inl gca)), (awo, .inl (cy 0, 100, .inl gwo)), (aha, .inl (cy 0, 100, .inl gha)), (ase, .inl (cy 3, 100, .inl gse)), (ami, .inl (cy 0, 200, .inl gmi)), (ano, .inl (cy 0, 80, .inl gno)), (ahe, .inl (cy 3, 3, .inl ghe)), (m0, .inr (12, ((((((((((fm.set 4 (.int 0)).set 2 (.int 0)).set 10 (.int 0)).set 10 (.int 1)).set 11 (.int 0)).set 12 (.int 0)).set 13 (.int 0)).set 15 (.int 0)).set 19 (.int 1)).set 20 (.int 0)))), (ak, .inl (cy 0, 403, .inl gk_2)), (ap, .inl (cy 0, 403, .inl gp_3)), (av, .inl (cy 0, 403, .inl gv_4)), (an, .inl (cy 1, 403, .inr (.inl gn_5)))] := hD
  have hz_12 := updall (k := 1) z_ado
  obtain ⟨f_11, ef_11⟩ : ∃ z, z = upd gdo 1 0 := ⟨_, rfl⟩
  rw [← ef_11] at hP hD hz_12
  refine lv_aload_n hx hb dX12_read_110 rfl (lv_at hl 1 rfl) ?_
  refine va_get (ci := 12) (v := .ref ame) (C := RX12) (T := TX12) (N := 90) hx hb hts in_X12_read_X12 hown hK hP 12 rfl rfl 32 (by decide) (hts (.fieldLink RX12 74 "HallTablesModel" "men" "[I") (List.mem_of_getElem? (i := 13) rfl)) (fun _ h9 => h9) (setk (setk (setk (setk (setk (setk (setk (setk (setk (setk e_m32 (by decide)) (by decide)) (by decide)) (by decide)) (by decide)) (by decide)) (by decide)) (by decide)) (by decide)) (by decide)) dX12_read_111 ?_
  refine lv_aload_n hx hb dX12_read_114 rfl (lv_at hl 1 rfl) ?_
  refine va_get (ci := 12) (v := .int 1) (C := RX12) (T := TX12) (N := 90) hx hb hts in_X12_read_X12 hown hK hP 12 rfl rfl 19 (by decide) (hts (.fieldLink RX12 269 "HallTablesModel" "side" "I") (List.mem_of_getElem? (i := 8) rfl)) (fun _ h9 => h9) (setk (setk_same (setk (setk (setk (setk (setk (setk (setk (setk e_m19 (by decide)) (by decide)) (by decide)) (by decide)) (by decide)) (by decide)) (by decide)) (by decide))) (by decide)) dX12_read_115 ?_
  refine lv_iconst (v := 0) hx hb dX12_read_118 (by decide) ?_
  refine sI hx hb hK hP hD hS 3 rfl 1 rfl (Nat.le_of_ble_eq_true rfl) (Nat.le_of_ble_eq_true rfl) dX12_read_119 (fun H locs hP hD hS => ?_)
  have hP : va_P D vwCl [(aso, .inl (cy 0, 2, .inl f_7)), (aho, .inl (cy 0, 2, .inl f_9)), (ado, .inl (cy 0, 2, .inl f_11)), (ame, .inl (cy 0, 2, .inl (upd gme 1 0))), (ala, .inl (cy 0, 2, .inl gla)), (aca, .inl (cy 0, 2, .inl gca)), (awo, .inl (cy 0, 100, .inl gwo)), (aha, .inl (cy 0, 100, .inl gha)), (ase, .inl (cy 3, 100, .inl gse)), (ami, .inl (cy 0, 200, .inl gmi)), (ano, .inl (cy 0, 80, .inl gno)), (ahe, .inl (cy 3, 3, .inl ghe)), (m0, .inr (12, ((((((((((fm.set 4 (.int 0)).set 2 (.int 0)).set 10 (.int 0)).set 10 (.int 1)).set 11 (.int 0)).set 12 (.int 0)).set 13 (.int 0)).set 15 (.int 0)).set 19 (.int 1)).set 20 (.int 0)))), (ak, .inl (cy 0, 403, .inl gk_2)), (ap, .inl (cy 0, 403, .inl gp_3)), (av, .inl (cy 0, 403, .inl gv_4)), (an, .inl (cy 1, 403, .inr (.inl gn_5)))] H := hP
  have hD : va_D A [(aso, .inl (cy 0, 2, .inl f_7)), (aho, .inl (cy 0, 2, .inl f_9)), (ado, .inl (cy 0, 2, .inl f_11)), (ame, .inl (cy 0, 2, .inl (upd gme 1 0))), (ala, .inl (cy 0, 2, .inl gla)), (aca, .inl (cy 0, 2, .inl gca)), (awo, .inl (cy 0, 100, .inl gwo)), (aha, .inl (cy 0, 100, .inl gha)), (ase, .inl (cy 3, 100, .inl gse)), (ami, .inl (cy 0, 200, .inl gmi)), (ano, .inl (cy 0, 80, .inl gno)), (ahe, .inl (cy 3, 3, .inl ghe)), (m0, .inr (12, ((((((((((fm.set 4 (.int 0)).set 2 (.int 0)).set 10 (.int 0)).set 10 (.int 1)).set 11 (.int 0)).set 12 (.int 0)).set 13 (.int 0)).set 15 (.int 0)).set 19 (.int 1)).set 20 (.int 0)))), (ak, .inl (cy 0, 403, .inl gk_2)), (ap, .inl (cy 0, 403, .inl gp_3)), (av, .inl (cy 0, 403, .inl gv_4)), (an, .inl (cy 1, 403, .inr (.inl gn_5)))] := hD
  have hz_14 := updall (k := 1) z_ame
  obtain ⟨f_13, ef_13⟩ : ∃ z, z = upd gme 1 0 := ⟨_, rfl⟩
  rw [← ef_13] at hP hD hz_14
  refine lv_aload_n hx hb dX12_read_120 rfl (lv_at hl 1 rfl) ?_
  refine va_get (ci := 12) (v := .ref ala) (C := RX12) (T := TX12) (N := 90) hx hb hts in_X12_read_X12 hown hK hP 12 rfl rfl 35 (by decide) (hts (.fieldLink RX12 83 "HallTablesModel" "laws" "[I") (List.mem_of_getElem? (i := 14) rfl)) (fun _ h9 => h9) (setk (setk (setk (setk (setk (setk (setk (setk (setk (setk e_m35 (by decide)) (by decide)) (by decide)) (by decide)) (by decide)) (by decide)) (by decide)) (by decide)) (by decide)) (by decide)) dX12_read_121 ?_
  refine lv_aload_n hx hb dX12_read_124 rfl (lv_at hl 1 rfl) ?_
  refine va_get (ci := 12) (v := .int 1) (C := RX12) (T := TX12) (N := 90) hx hb hts in_X12_read_X12 hown hK hP 12 rfl rfl 19 (by decide) (hts (.fieldLink RX12 269 "HallTablesModel" "side" "I") (List.mem_of_getElem? (i := 8) rfl)) (fun _ h9 => h9) (setk (setk_same (setk (setk (setk (setk (setk (setk (setk (setk e_m19 (by decide)) (by decide)) (by decide)) (by decide)) (by decide)) (by decide)) (by decide)) (by decide))) (by decide)) dX12_read_125 ?_
  refine lv_iconst (v := 0) hx hb dX12_read_128 (by decide) ?_
  refine sI hx hb hK hP hD hS 4 rfl 1 rfl (Nat.le_of_ble_eq_true rfl) (Nat.le_of_ble_eq_true rfl) dX12_read_129 (fun H locs hP hD hS => ?_)
  have hP : va_P D vwCl [(aso, .inl (cy 0, 2, .inl f_7)), (aho, .inl (cy 0, 2, .inl f_9)), (ado, .inl (cy 0, 2, .inl f_11)), (ame, .inl (cy 0, 2, .inl f_13)), (ala, .inl (cy 0, 2, .inl (upd gla 1 0))), (aca, .inl (cy 0, 2, .inl gca)), (awo, .inl (cy 0, 100, .inl gwo)), (aha, .inl (cy 0, 100, .inl gha)), (ase, .inl (cy 3, 100, .inl gse)), (ami, .inl (cy 0, 200, .inl gmi)), (ano, .inl (cy 0, 80, .inl gno)), (ahe, .inl (cy 3, 3, .inl ghe)), (m0, .inr (12, ((((((((((fm.set 4 (.int 0)).set 2 (.int 0)).set 10 (.int 0)).set 10 (.int 1)).set 11 (.int 0)).set 12 (.int 0)).set 13 (.int 0)).set 15 (.int 0)).set 19 (.int 1)).set 20 (.int 0)))), (ak, .inl (cy 0, 403, .inl gk_2)), (ap, .inl (cy 0, 403, .inl gp_3)), (av, .inl (cy 0, 403, .inl gv_4)), (an, .inl (cy 1, 403, .inr (.inl gn_5)))] H := hP
  have hD : va_D A [(aso, .inl (cy 0, 2, .inl f_7)), (aho, .inl (cy 0, 2, .inl f_9)), (ado, .inl (cy 0, 2, .inl f_11)), (ame, .inl (cy 0, 2, .inl f_13)), (ala, .inl (cy 0, 2, .inl (upd gla 1 0))), (aca, .inl (cy 0, 2, .inl gca)), (awo, .inl (cy 0, 100, .inl gwo)), (aha, .inl (cy 0, 100, .inl gha)), (ase, .inl (cy 3, 100, .inl gse)), (ami, .inl (cy 0, 200, .inl gmi)), (ano, .inl (cy 0, 80, .inl gno)), (ahe, .inl (cy 3, 3, .inl ghe)), (m0, .inr (12, ((((((((((fm.set 4 (.int 0)).set 2 (.int 0)).set 10 (.int 0)).set 10 (.int 1)).set 11 (.int 0)).set 12 (.int 0)).set 13 (.int 0)).set 15 (.int 0)).set 19 (.int 1)).set 20 (.int 0)))), (ak, .inl (cy 0, 403, .inl gk_2)), (ap, .inl (cy 0, 403, .inl gp_3)), (av, .inl (cy 0, 403, .inl gv_4)), (an, .inl (cy 1, 403, .inr (.inl gn_5)))] := hD
  have hz_16 := updall (k := 1) z_ala
  obtain ⟨f_15, ef_15⟩ : ∃ z, z = upd gla 1 0 := ⟨_, rfl⟩
  rw [← ef_15] at hP hD hz_16
  refine lv_aload_n hx hb dX12_read_130 rfl (lv_at hl 1 rfl) ?_
  refine va_get (ci := 12) (v := .ref aca) (C := RX12) (T := TX12) (N := 90) hx hb hts in_X12_read_X12 hown hK hP 12 rfl rfl 36 (by decide) (hts (.fieldLink RX12 86 "HallTablesModel" "calls" "[I") (List.mem_of_getElem? (i := 15) rfl)) (fun _ h9 => h9) (setk (setk (setk (setk (setk (setk (setk (setk (setk (setk e_m36 (by decide)) (by decide)) (by decide)) (by decide)) (by decide)) (by decide)) (by decide)) (by decide)) (by decide)) (by decide)) dX12_read_131 ?_
  refine lv_aload_n hx hb dX12_read_134 rfl (lv_at hl 1 rfl) ?_
  refine va_get (ci := 12) (v := .int 1) (C := RX12) (T := TX12) (N := 90) hx hb hts in_X12_read_X12 hown hK hP 12 rfl rfl 19 (by decide) (hts (.fieldLink RX12 269 "HallTablesModel" "side" "I") (List.mem_of_getElem? (i := 8) rfl)) (fun _ h9 => h9) (setk (setk_same (setk (setk (setk (setk (setk (setk (setk (setk e_m19 (by decide)) (by decide)) (by decide)) (by decide)) (by decide)) (by decide)) (by decide)) (by decide))) (by decide)) dX12_read_135 ?_
  refine lv_iconst (v := 0) hx hb dX12_read_138 (by decide) ?_
  refine sI hx hb hK hP hD hS 5 rfl 1 rfl (Nat.le_of_ble_eq_true rfl) (Nat.le_of_ble_eq_true rfl) dX12_read_139 (fun H locs hP hD hS => ?_)
  have hP : va_P D vwCl [(aso, .inl (cy 0, 2, .inl f_7)), (aho, .inl (cy 0, 2, .inl f_9)), (ado, .inl (cy 0, 2, .inl f_11)), (ame, .inl (cy 0, 2, .inl f_13)), (ala, .inl (cy 0, 2, .inl f_15)), (aca, .inl (cy 0, 2, .inl (upd gca 1 0))), (awo, .inl (cy 0, 100, .inl gwo)), (aha, .inl (cy 0, 100, .inl gha)), (ase, .inl (cy 3, 100, .inl gse)), (ami, .inl (cy 0, 200, .inl gmi)), (ano, .inl (cy 0, 80, .inl gno)), (ahe, .inl (cy 3, 3, .inl ghe)), (m0, .inr (12, ((((((((((fm.set 4 (.int 0)).set 2 (.int 0)).set 10 (.int 0)).set 10 (.int 1)).set 11 (.int 0)).set 12 (.int 0)).set 13 (.int 0)).set 15 (.int 0)).set 19 (.int 1)).set 20 (.int 0)))), (ak, .inl (cy 0, 403, .inl gk_2)), (ap, .inl (cy 0, 403, .inl gp_3)), (av, .inl (cy 0, 403, .inl gv_4)), (an, .inl (cy 1, 403, .inr (.inl gn_5)))] H := hP
  have hD : va_D A [(aso, .inl (cy 0, 2, .inl f_7)), (aho, .inl (cy 0, 2, .inl f_9)), (ado, .inl (cy 0, 2, .inl f_11)), (ame, .inl (cy 0, 2, .inl f_13)), (ala, .inl (cy 0, 2, .inl f_15)), (aca, .inl (cy 0, 2, .inl (upd gca 1 0))), (awo, .inl (cy 0, 100, .inl gwo)), (aha, .inl (cy 0, 100, .inl gha)), (ase, .inl (cy 3, 100, .inl gse)), (ami, .inl (cy 0, 200, .inl gmi)), (ano, .inl (cy 0, 80, .inl gno)), (ahe, .inl (cy 3, 3, .inl ghe)), (m0, .inr (12, ((((((((((fm.set 4 (.int 0)).set 2 (.int 0)).set 10 (.int 0)).set 10 (.int 1)).set 11 (.int 0)).set 12 (.int 0)).set 13 (.int 0)).set 15 (.int 0)).set 19 (.int 1)).set 20 (.int 0)))), (ak, .inl (cy 0, 403, .inl gk_2)), (ap, .inl (cy 0, 403, .inl gp_3)), (av, .inl (cy 0, 403, .inl gv_4)), (an, .inl (cy 1, 403, .inr (.inl gn_5)))] := hD
  have hz_18 := updall (k := 1) z_aca
  obtain ⟨f_17, ef_17⟩ : ∃ z, z = upd gca 1 0 := ⟨_, rfl⟩
  rw [← ef_17] at hP hD hz_18
  refine lv_iconst (v := 0) hx hb dX12_read_140 (by decide) ?_
  refine lv_istore_n (lv' := [(1, .int 0), (0, .ref m0)]) hx hb dX12_read_141 rfl hl (by decide) rfl (fun ls hl => ?_)
  have lp_22 : ∀ (n_20 i_19 : Nat) (g_24 : Nat → Int32) (g_25 : Nat → Int32) (g_26 : Nat → Int32) (H : Heap) (locs : List Loc) (ls : Array Slot), i_19 + n_20 = 50 → va_P D vwCl [(aso, .inl (cy 0, 2, .inl f_7)), (aho, .inl (cy 0, 2, .inl f_9)), (ado, .inl (cy 0, 2, .inl f_11)), (ame, .inl (cy 0, 2, .inl f_13)), (ala, .inl (cy 0, 2, .inl f_15)), (aca, .inl (cy 0, 2, .inl f_17)), (awo, .inl (cy 0, 100, .inl g_24)), (aha, .inl (cy 0, 100, .inl g_25)), (ase, .inl (cy 3, 100, .inl g_26)), (ami, .inl (cy 0, 200, .inl gmi)), (ano, .inl (cy 0, 80, .inl gno)), (ahe, .inl (cy 3, 3, .inl ghe)), (m0, .inr (12, ((((((((((fm.set 4 (.int 0)).set 2 (.int 0)).set 10 (.int 0)).set 10 (.int 1)).set 11 (.int 0)).set 12 (.int 0)).set 13 (.int 0)).set 15 (.int 0)).set 19 (.int 1)).set 20 (.int 0)))), (ak, .inl (cy 0, 403, .inl gk_2)), (ap, .inl (cy 0, 403, .inl gp_3)), (av, .inl (cy 0, 403, .inl gv_4)), (an, .inl (cy 1, 403, .inr (.inl gn_5)))] H → va_D A [(aso, .inl (cy 0, 2, .inl f_7)), (aho, .inl (cy 0, 2, .inl f_9)), (ado, .inl (cy 0, 2, .inl f_11)), (ame, .inl (cy 0, 2, .inl f_13)), (ala, .inl (cy 0, 2, .inl f_15)), (aca, .inl (cy 0, 2, .inl f_17)), (awo, .inl (cy 0, 100, .inl g_24)), (aha, .inl (cy 0, 100, .inl g_25)), (ase, .inl (cy 3, 100, .inl g_26)), (ami, .inl (cy 0, 200, .inl gmi)), (ano, .inl (cy 0, 80, .inl gno)), (ahe, .inl (cy 3, 3, .inl ghe)), (m0, .inr (12, ((((((((((fm.set 4 (.int 0)).set 2 (.int 0)).set 10 (.int 0)).set 10 (.int 1)).set 11 (.int 0)).set 12 (.int 0)).set 13 (.int 0)).set 15 (.int 0)).set 19 (.int 1)).set 20 (.int 0)))), (ak, .inl (cy 0, 403, .inl gk_2)), (ap, .inl (cy 0, 403, .inl gp_3)), (av, .inl (cy 0, 403, .inl gv_4)), (an, .inl (cy 1, 403, .inr (.inl gn_5)))] → va_S A s.heap H locs → lv_has ls 2 [(1, .int (nI i_19)), (0, .ref m0)] → W p l e ({ frames := 2, cells := 0, slots := 0, locals := 52 } : Room) s m args below meth c H locs 0 0 (MQ below (myQi D A (fun (r : Int32) (w : va_W) => r = 0 ∧ w = [])) args s ({ frames := 2, cells := 0, slots := 0, locals := 52 } : Room).cells ({ frames := 2, cells := 0, slots := 0, locals := 52 } : Room).slots A) (F0 m 142 ls []) := by
    intro n_20
    induction n_20 with
    | zero =>
      intro i_19 g_24 g_25 g_26 H locs ls hi_23 hP hD hS hl
      obtain rfl : i_19 = 50 := by omega
      refine lv_iload_n hx hb dX12_read_142 rfl (lv_at hl 0 rfl) ?_
      refine lv_bipush (v := 50) hx hb dX12_read_143 (by decide) ?_
      refine lv_icmp_ge (tgt := 199) hx hb dX12_read_145 (by decide) (fun _ => ?_) (fun c9 => absurd (by decide) c9)
      refine lv_iconst (v := 0) hx hb dX12_read_199 (by decide) ?_
      refine lv_istore_n (lv' := [(1, .int 0), (0, .ref m0)]) hx hb dX12_read_200 rfl hl (by decide) rfl (fun ls hl => ?_)
      have lp_30 : ∀ (n_28 i_27 : Nat) (g_32 : Nat → Int32) (H : Heap) (locs : List Loc) (ls : Array Slot), i_27 + n_28 = 100 → va_P D vwCl [(aso, .inl (cy 0, 2, .inl f_7)), (aho, .inl (cy 0, 2, .inl f_9)), (ado, .inl (cy 0, 2, .inl f_11)), (ame, .inl (cy 0, 2, .inl f_13)), (ala, .inl (cy 0, 2, .inl f_15)), (aca, .inl (cy 0, 2, .inl f_17)), (awo, .inl (cy 0, 100, .inl g_24)), (aha, .inl (cy 0, 100, .inl g_25)), (ase, .inl (cy 3, 100, .inl g_26)), (ami, .inl (cy 0, 200, .inl g_32)), (ano, .inl (cy 0, 80, .inl gno)), (ahe, .inl (cy 3, 3, .inl ghe)), (m0, .inr (12, ((((((((((fm.set 4 (.int 0)).set 2 (.int 0)).set 10 (.int 0)).set 10 (.int 1)).set 11 (.int 0)).set 12 (.int 0)).set 13 (.int 0)).set 15 (.int 0)).set 19 (.int 1)).set 20 (.int 0)))), (ak, .inl (cy 0, 403, .inl gk_2)), (ap, .inl (cy 0, 403, .inl gp_3)), (av, .inl (cy 0, 403, .inl gv_4)), (an, .inl (cy 1, 403, .inr (.inl gn_5)))] H → va_D A [(aso, .inl (cy 0, 2, .inl f_7)), (aho, .inl (cy 0, 2, .inl f_9)), (ado, .inl (cy 0, 2, .inl f_11)), (ame, .inl (cy 0, 2, .inl f_13)), (ala, .inl (cy 0, 2, .inl f_15)), (aca, .inl (cy 0, 2, .inl f_17)), (awo, .inl (cy 0, 100, .inl g_24)), (aha, .inl (cy 0, 100, .inl g_25)), (ase, .inl (cy 3, 100, .inl g_26)), (ami, .inl (cy 0, 200, .inl g_32)), (ano, .inl (cy 0, 80, .inl gno)), (ahe, .inl (cy 3, 3, .inl ghe)), (m0, .inr (12, ((((((((((fm.set 4 (.int 0)).set 2 (.int 0)).set 10 (.int 0)).set 10 (.int 1)).set 11 (.int 0)).set 12 (.int 0)).set 13 (.int 0)).set 15 (.int 0)).set 19 (.int 1)).set 20 (.int 0)))), (ak, .inl (cy 0, 403, .inl gk_2)), (ap, .inl (cy 0, 403, .inl gp_3)), (av, .inl (cy 0, 403, .inl gv_4)), (an, .inl (cy 1, 403, .inr (.inl gn_5)))] → va_S A s.heap H locs → lv_has ls 2 [(1, .int (nI i_27)), (0, .ref m0)] → W p l e ({ frames := 2, cells := 0, slots := 0, locals := 52 } : Room) s m args below meth c H locs 0 0 (MQ below (myQi D A (fun (r : Int32) (w : va_W) => r = 0 ∧ w = [])) args s ({ frames := 2, cells := 0, slots := 0, locals := 52 } : Room).cells ({ frames := 2, cells := 0, slots := 0, locals := 52 } : Room).slots A) (F0 m 201 ls []) := by
        intro n_28
        induction n_28 with
        | zero =>
          intro i_27 g_32 H locs ls hi_31 hP hD hS hl
          obtain rfl : i_27 = 100 := by omega
          refine lv_iload_n hx hb dX12_read_201 rfl (lv_at hl 0 rfl) ?_
          refine lv_bipush (v := 100) hx hb dX12_read_202 (by decide) ?_
          refine lv_icmp_ge (tgt := 228) hx hb dX12_read_204 (by decide) (fun _ => ?_) (fun c9 => absurd (by decide) c9)
          refine lv_aload_n hx hb dX12_read_228 rfl (lv_at hl 1 rfl) ?_
          refine va_get (ci := 12) (v := .int 0) (C := RX12) (T := TX12) (N := 90) hx hb hts in_X12_read_X12 hown hK hP 12 rfl rfl 13 (by decide) (hts (.fieldLink RX12 236 "HallTablesModel" "fault" "I") (List.mem_of_getElem? (i := 5) rfl)) (fun _ h9 => h9) (setk (setk (setk (setk_same (setk (setk (setk (setk (setk (setk e_m13 (by decide)) (by decide)) (by decide)) (by decide)) (by decide)) (by decide))) (by decide)) (by decide)) (by decide)) dX12_read_229 ?_
          refine lv_if_ne (tgt := 250) hx hb dX12_read_232 (by decide) (fun c9 => absurd (by decide) c9) (fun _ => ?_)
          refine lv_aload_n hx hb dX12_read_235 rfl (lv_at hl 1 rfl) ?_
          refine lv_iconst (v := 0) hx hb dX12_read_236 (by decide) ?_
          refine cVi (As := [.int 0]) (rest := []) (wr := [(aso, .inl (cy 0, 2, .inl f_7)), (aho, .inl (cy 0, 2, .inl f_9)), (ado, .inl (cy 0, 2, .inl f_11)), (ame, .inl (cy 0, 2, .inl f_13)), (ala, .inl (cy 0, 2, .inl f_15)), (aca, .inl (cy 0, 2, .inl f_17)), (awo, .inl (cy 0, 100, .inl g_24)), (aha, .inl (cy 0, 100, .inl g_25)), (ase, .inl (cy 3, 100, .inl g_26)), (ami, .inl (cy 0, 200, .inl g_32)), (ano, .inl (cy 0, 80, .inl gno)), (ahe, .inl (cy 3, 3, .inl ghe)), (ap, .inl (cy 0, 403, .inl gp_3)), (av, .inl (cy 0, 403, .inl gv_4)), (an, .inl (cy 1, 403, .inr (.inl gn_5)))]) ⟨hx, hb, hml, hown, hts⟩ (c_X12_is l D cy m0 ((((((((((fm.set 4 (.int 0)).set 2 (.int 0)).set 10 (.int 0)).set 10 (.int 1)).set 11 (.int 0)).set 12 (.int 0)).set 13 (.int 0)).set 15 (.int 0)).set 19 (.int 1)).set 20 (.int 0)) ak gk_2 (setk (setk (setk (setk (setk (setk (setk (setk (setk (setk e_m5 (by decide)) (by decide)) (by decide)) (by decide)) (by decide)) (by decide)) (by decide)) (by decide)) (by decide)) (by decide)) (setk (setk (setk (setk (setk (setk_same (setk (setk (setk (setk e_m11 (by decide)) (by decide)) (by decide)) (by decide))) (by decide)) (by decide)) (by decide)) (by decide)) (by decide)) (setk (setk (setk (setk_same (setk (setk (setk (setk (setk (setk e_m13 (by decide)) (by decide)) (by decide)) (by decide)) (by decide)) (by decide))) (by decide)) (by decide)) (by decide)) h_6) (cwV 1 hts gX12_read_X12_is rfl rfl rfl (by decide +kernel) ⟨Nat.le_of_ble_eq_true rfl, Nat.le_of_ble_eq_true rfl⟩) hK hP hD hS hA [12, 13] [0, 1, 2, 3, 4, 5, 6, 7, 8, 9, 10, 11, 14, 15, 16] ⟨rfl, rfl, by decide +kernel, by decide +kernel, by decide +kernel⟩ 0 12 rfl rfl myX_T rfl hl.1 rfl (Nat.le_of_ble_eq_true rfl) dX12_read_237 ⟨Nat.le_of_ble_eq_true rfl, Nat.le_of_ble_eq_true rfl⟩ (fun r_33 w_34 H locs hw hP hD hS => ?_)
          obtain ⟨rfl, rfl⟩ := hw
          have hP : va_P D vwCl [(aso, .inl (cy 0, 2, .inl f_7)), (aho, .inl (cy 0, 2, .inl f_9)), (ado, .inl (cy 0, 2, .inl f_11)), (ame, .inl (cy 0, 2, .inl f_13)), (ala, .inl (cy 0, 2, .inl f_15)), (aca, .inl (cy 0, 2, .inl f_17)), (awo, .inl (cy 0, 100, .inl g_24)), (aha, .inl (cy 0, 100, .inl g_25)), (ase, .inl (cy 3, 100, .inl g_26)), (ami, .inl (cy 0, 200, .inl g_32)), (ano, .inl (cy 0, 80, .inl gno)), (ahe, .inl (cy 3, 3, .inl ghe)), (ap, .inl (cy 0, 403, .inl gp_3)), (av, .inl (cy 0, 403, .inl gv_4)), (an, .inl (cy 1, 403, .inr (.inl gn_5))), (m0, .inr (12, ((((((((((fm.set 4 (.int 0)).set 2 (.int 0)).set 10 (.int 0)).set 10 (.int 1)).set 11 (.int 0)).set 12 (.int 0)).set 13 (.int 0)).set 15 (.int 0)).set 19 (.int 1)).set 20 (.int 0)))), (ak, .inl (cy 0, 403, .inl gk_2))] H := hP
          have hD : va_D A [(aso, .inl (cy 0, 2, .inl f_7)), (aho, .inl (cy 0, 2, .inl f_9)), (ado, .inl (cy 0, 2, .inl f_11)), (ame, .inl (cy 0, 2, .inl f_13)), (ala, .inl (cy 0, 2, .inl f_15)), (aca, .inl (cy 0, 2, .inl f_17)), (awo, .inl (cy 0, 100, .inl g_24)), (aha, .inl (cy 0, 100, .inl g_25)), (ase, .inl (cy 3, 100, .inl g_26)), (ami, .inl (cy 0, 200, .inl g_32)), (ano, .inl (cy 0, 80, .inl gno)), (ahe, .inl (cy 3, 3, .inl ghe)), (ap, .inl (cy 0, 403, .inl gp_3)), (av, .inl (cy 0, 403, .inl gv_4)), (an, .inl (cy 1, 403, .inr (.inl gn_5))), (m0, .inr (12, ((((((((((fm.set 4 (.int 0)).set 2 (.int 0)).set 10 (.int 0)).set 10 (.int 1)).set 11 (.int 0)).set 12 (.int 0)).set 13 (.int 0)).set 15 (.int 0)).set 19 (.int 1)).set 20 (.int 0)))), (ak, .inl (cy 0, 403, .inl gk_2))] := hD
          refine lv_if_ne (tgt := 250) hx hb dX12_read_240 (by decide) (fun _ => ?_) (fun c9 => absurd c9 (by decide))
          refine lv_aload_n hx hb dX12_read_250 rfl (lv_at hl 1 rfl) ?_
          refine lv_aload_n hx hb dX12_read_251 rfl (lv_at hl 1 rfl) ?_
          refine va_get (ci := 12) (v := .int 0) (C := RX12) (T := TX12) (N := 90) hx hb hts in_X12_read_X12 hown hK hP 15 rfl rfl 13 (by decide) (hts (.fieldLink RX12 236 "HallTablesModel" "fault" "I") (List.mem_of_getElem? (i := 5) rfl)) (fun _ h9 => h9) (setk (setk (setk (setk_same (setk (setk (setk (setk (setk (setk e_m13 (by decide)) (by decide)) (by decide)) (by decide)) (by decide)) (by decide))) (by decide)) (by decide)) (by decide)) dX12_read_252 ?_
          refine lv_if_le (tgt := 265) hx hb dX12_read_255 (by decide) (fun _ => ?_) (fun c9 => absurd (by decide) c9)
          refine lv_aload_n hx hb dX12_read_265 rfl (lv_at hl 1 rfl) ?_
          refine va_get (ci := 12) (v := .int 0) (C := RX12) (T := TX12) (N := 90) hx hb hts in_X12_read_X12 hown hK hP 15 rfl rfl 15 (by decide) (hts (.fieldLink RX12 245 "HallTablesModel" "worst" "I") (List.mem_of_getElem? (i := 6) rfl)) (fun _ h9 => h9) (setk (setk (setk_same (setk (setk (setk (setk (setk (setk (setk e_m15 (by decide)) (by decide)) (by decide)) (by decide)) (by decide)) (by decide)) (by decide))) (by decide)) (by decide)) dX12_read_266 ?_
          refine lv_if_le (tgt := 279) hx hb dX12_read_269 (by decide) (fun _ => ?_) (fun c9 => absurd (by decide) c9)
          refine lv_iconst (v := (-1)) hx hb dX12_read_279 (by decide) ?_
          refine va_put (ci := 12) (v := .int (-1)) (ty := .int) (C := RX12) (T := TX12) (N := 90) hx hb hts in_X12_read_X12 tyX12 tyX12_ok nmX12 hown hK hP hD hS 15 rfl rfl 17 (by decide) (hts (.fieldLink RX12 37 "HallTablesModel" "place" "I") (List.mem_of_getElem? (i := 20) rfl)) (fun _ h9 => h9) rfl (by decide +kernel) rfl rfl (lt_of_at (setk (setk (setk (setk (setk (setk (setk (setk (setk (setk e_m17 (by decide)) (by decide)) (by decide)) (by decide)) (by decide)) (by decide)) (by decide)) (by decide)) (by decide)) (by decide))) dX12_read_280 (fun H locs hP hD hS => ?_)
          have hP : va_P D vwCl [(aso, .inl (cy 0, 2, .inl f_7)), (aho, .inl (cy 0, 2, .inl f_9)), (ado, .inl (cy 0, 2, .inl f_11)), (ame, .inl (cy 0, 2, .inl f_13)), (ala, .inl (cy 0, 2, .inl f_15)), (aca, .inl (cy 0, 2, .inl f_17)), (awo, .inl (cy 0, 100, .inl g_24)), (aha, .inl (cy 0, 100, .inl g_25)), (ase, .inl (cy 3, 100, .inl g_26)), (ami, .inl (cy 0, 200, .inl g_32)), (ano, .inl (cy 0, 80, .inl gno)), (ahe, .inl (cy 3, 3, .inl ghe)), (ap, .inl (cy 0, 403, .inl gp_3)), (av, .inl (cy 0, 403, .inl gv_4)), (an, .inl (cy 1, 403, .inr (.inl gn_5))), (m0, .inr (12, (((((((((((fm.set 4 (.int 0)).set 2 (.int 0)).set 10 (.int 0)).set 10 (.int 1)).set 11 (.int 0)).set 12 (.int 0)).set 13 (.int 0)).set 15 (.int 0)).set 19 (.int 1)).set 20 (.int 0)).set 17 (.int (-1))))), (ak, .inl (cy 0, 403, .inl gk_2))] H := hP
          have hD : va_D A [(aso, .inl (cy 0, 2, .inl f_7)), (aho, .inl (cy 0, 2, .inl f_9)), (ado, .inl (cy 0, 2, .inl f_11)), (ame, .inl (cy 0, 2, .inl f_13)), (ala, .inl (cy 0, 2, .inl f_15)), (aca, .inl (cy 0, 2, .inl f_17)), (awo, .inl (cy 0, 100, .inl g_24)), (aha, .inl (cy 0, 100, .inl g_25)), (ase, .inl (cy 3, 100, .inl g_26)), (ami, .inl (cy 0, 200, .inl g_32)), (ano, .inl (cy 0, 80, .inl gno)), (ahe, .inl (cy 3, 3, .inl ghe)), (ap, .inl (cy 0, 403, .inl gp_3)), (av, .inl (cy 0, 403, .inl gv_4)), (an, .inl (cy 1, 403, .inr (.inl gn_5))), (m0, .inr (12, (((((((((((fm.set 4 (.int 0)).set 2 (.int 0)).set 10 (.int 0)).set 10 (.int 1)).set 11 (.int 0)).set 12 (.int 0)).set 13 (.int 0)).set 15 (.int 0)).set 19 (.int 1)).set 20 (.int 0)).set 17 (.int (-1))))), (ak, .inl (cy 0, 403, .inl gk_2))] := hD
          refine lv_aload_n hx hb dX12_read_283 rfl (lv_at hl 1 rfl) ?_
          refine va_get (ci := 12) (v := .int 0) (C := RX12) (T := TX12) (N := 90) hx hb hts in_X12_read_X12 hown hK hP 15 rfl rfl 13 (by decide) (hts (.fieldLink RX12 236 "HallTablesModel" "fault" "I") (List.mem_of_getElem? (i := 5) rfl)) (fun _ h9 => h9) (setk (setk (setk (setk (setk_same (setk (setk (setk (setk (setk (setk e_m13 (by decide)) (by decide)) (by decide)) (by decide)) (by decide)) (by decide))) (by decide)) (by decide)) (by decide)) (by decide)) dX12_read_284 ?_
          refine lv_if_le (tgt := 295) hx hb dX12_read_287 (by decide) (fun _ => ?_) (fun c9 => absurd (by decide) c9)
          refine lv_aload_n hx hb dX12_read_295 rfl (lv_at hl 1 rfl) ?_
          refine va_get (ci := 12) (v := .int 0) (C := RX12) (T := TX12) (N := 90) hx hb hts in_X12_read_X12 hown hK hP 15 rfl rfl 15 (by decide) (hts (.fieldLink RX12 245 "HallTablesModel" "worst" "I") (List.mem_of_getElem? (i := 6) rfl)) (fun _ h9 => h9) (setk (setk (setk (setk_same (setk (setk (setk (setk (setk (setk (setk e_m15 (by decide)) (by decide)) (by decide)) (by decide)) (by decide)) (by decide)) (by decide))) (by decide)) (by decide)) (by decide)) dX12_read_296 ?_
          refine lv_if_le (tgt := 307) hx hb dX12_read_299 (by decide) (fun _ => ?_) (fun c9 => absurd (by decide) c9)
          refine lv_aload_n hx hb dX12_read_307 rfl (lv_at hl 1 rfl) ?_
          refine lv_aload_n hx hb dX12_read_308 rfl (lv_at hl 1 rfl) ?_
          refine va_get (ci := 12) (v := .int 1) (C := RX12) (T := TX12) (N := 90) hx hb hts in_X12_read_X12 hown hK hP 15 rfl rfl 19 (by decide) (hts (.fieldLink RX12 269 "HallTablesModel" "side" "I") (List.mem_of_getElem? (i := 8) rfl)) (fun _ h9 => h9) (setk (setk (setk_same (setk (setk (setk (setk (setk (setk (setk (setk e_m19 (by decide)) (by decide)) (by decide)) (by decide)) (by decide)) (by decide)) (by decide)) (by decide))) (by decide)) (by decide)) dX12_read_309 ?_
          refine va_put (ci := 12) (v := .int 1) (ty := .int) (C := RX12) (T := TX12) (N := 90) hx hb hts in_X12_read_X12 tyX12 tyX12_ok nmX12 hown hK hP hD hS 15 rfl rfl 18 (by decide) (hts (.fieldLink RX12 266 "HallTablesModel" "live" "I") (List.mem_of_getElem? (i := 7) rfl)) (fun _ h9 => h9) rfl (by decide +kernel) rfl rfl (lt_of_at (setk (setk (setk (setk (setk (setk (setk (setk (setk (setk (setk e_m18 (by decide)) (by decide)) (by decide)) (by decide)) (by decide)) (by decide)) (by decide)) (by decide)) (by decide)) (by decide)) (by decide))) dX12_read_312 (fun H locs hP hD hS => ?_)
          have hP : va_P D vwCl [(aso, .inl (cy 0, 2, .inl f_7)), (aho, .inl (cy 0, 2, .inl f_9)), (ado, .inl (cy 0, 2, .inl f_11)), (ame, .inl (cy 0, 2, .inl f_13)), (ala, .inl (cy 0, 2, .inl f_15)), (aca, .inl (cy 0, 2, .inl f_17)), (awo, .inl (cy 0, 100, .inl g_24)), (aha, .inl (cy 0, 100, .inl g_25)), (ase, .inl (cy 3, 100, .inl g_26)), (ami, .inl (cy 0, 200, .inl g_32)), (ano, .inl (cy 0, 80, .inl gno)), (ahe, .inl (cy 3, 3, .inl ghe)), (ap, .inl (cy 0, 403, .inl gp_3)), (av, .inl (cy 0, 403, .inl gv_4)), (an, .inl (cy 1, 403, .inr (.inl gn_5))), (m0, .inr (12, ((((((((((((fm.set 4 (.int 0)).set 2 (.int 0)).set 10 (.int 0)).set 10 (.int 1)).set 11 (.int 0)).set 12 (.int 0)).set 13 (.int 0)).set 15 (.int 0)).set 19 (.int 1)).set 20 (.int 0)).set 17 (.int (-1))).set 18 (.int 1)))), (ak, .inl (cy 0, 403, .inl gk_2))] H := hP
          have hD : va_D A [(aso, .inl (cy 0, 2, .inl f_7)), (aho, .inl (cy 0, 2, .inl f_9)), (ado, .inl (cy 0, 2, .inl f_11)), (ame, .inl (cy 0, 2, .inl f_13)), (ala, .inl (cy 0, 2, .inl f_15)), (aca, .inl (cy 0, 2, .inl f_17)), (awo, .inl (cy 0, 100, .inl g_24)), (aha, .inl (cy 0, 100, .inl g_25)), (ase, .inl (cy 3, 100, .inl g_26)), (ami, .inl (cy 0, 200, .inl g_32)), (ano, .inl (cy 0, 80, .inl gno)), (ahe, .inl (cy 3, 3, .inl ghe)), (ap, .inl (cy 0, 403, .inl gp_3)), (av, .inl (cy 0, 403, .inl gv_4)), (an, .inl (cy 1, 403, .inr (.inl gn_5))), (m0, .inr (12, ((((((((((((fm.set 4 (.int 0)).set 2 (.int 0)).set 10 (.int 0)).set 10 (.int 1)).set 11 (.int 0)).set 12 (.int 0)).set 13 (.int 0)).set 15 (.int 0)).set 19 (.int 1)).set 20 (.int 0)).set 17 (.int (-1))).set 18 (.int 1)))), (ak, .inl (cy 0, 403, .inl gk_2))] := hD
          refine lv_aload_n hx hb dX12_read_315 rfl (lv_at hl 1 rfl) ?_
          refine cVv (As := []) (rest := []) (wr := [(aso, .inl (cy 0, 2, .inl f_7)), (aho, .inl (cy 0, 2, .inl f_9)), (ado, .inl (cy 0, 2, .inl f_11)), (ala, .inl (cy 0, 2, .inl f_15)), (aca, .inl (cy 0, 2, .inl f_17)), (awo, .inl (cy 0, 100, .inl g_24)), (ase, .inl (cy 3, 100, .inl g_26)), (ami, .inl (cy 0, 200, .inl g_32)), (ahe, .inl (cy 3, 3, .inl ghe)), (ap, .inl (cy 0, 403, .inl gp_3)), (av, .inl (cy 0, 403, .inl gv_4)), (an, .inl (cy 1, 403, .inr (.inl gn_5))), (ak, .inl (cy 0, 403, .inl gk_2))]) ⟨hx, hb, hml, hown, hts⟩ (c_X12_begins l D cy m0 ((((((((((((fm.set 4 (.int 0)).set 2 (.int 0)).set 10 (.int 0)).set 10 (.int 1)).set 11 (.int 0)).set 12 (.int 0)).set 13 (.int 0)).set 15 (.int 0)).set 19 (.int 1)).set 20 (.int 0)).set 17 (.int (-1))).set 18 (.int 1)) aha ame ano g_25 f_13 gno (setk (setk (setk (setk (setk (setk (setk (setk (setk (setk (setk (setk e_m28 (by decide)) (by decide)) (by decide)) (by decide)) (by decide)) (by decide)) (by decide)) (by decide)) (by decide)) (by decide)) (by decide)) (by decide)) (setk (setk (setk (setk (setk (setk (setk (setk (setk (setk (setk (setk e_m32 (by decide)) (by decide)) (by decide)) (by decide)) (by decide)) (by decide)) (by decide)) (by decide)) (by decide)) (by decide)) (by decide)) (by decide)) (setk (setk (setk (setk (setk (setk (setk (setk (setk (setk (setk (setk e_m39 (by decide)) (by decide)) (by decide)) (by decide)) (by decide)) (by decide)) (by decide)) (by decide)) (by decide)) (by decide)) (by decide)) (by decide)) (setk_same (setk (setk (setk (setk (setk (setk (setk (setk (setk (setk (setk e_m18 (by decide)) (by decide)) (by decide)) (by decide)) (by decide)) (by decide)) (by decide)) (by decide)) (by decide)) (by decide)) (by decide))) hz_14) (cwV 0 hts gX12_read_X12_begins rfl rfl rfl (by decide +kernel) ⟨Nat.le_of_ble_eq_true rfl, Nat.le_of_ble_eq_true rfl⟩) hK hP hD hS hA [15, 7, 3, 10] [0, 1, 2, 4, 5, 6, 8, 9, 11, 12, 13, 14, 16] ⟨rfl, rfl, by decide +kernel, by decide +kernel, by decide +kernel⟩ 0 12 rfl rfl myX_T rfl hl.1 rfl (Nat.le_of_ble_eq_true rfl) dX12_read_316 ⟨Nat.le_of_ble_eq_true rfl, Nat.le_of_ble_eq_true rfl⟩ (fun w_35 H locs hw hP hD hS => ?_)
          obtain ⟨gno_36, rfl⟩ := hw
          have hP : va_P D vwCl [(aso, .inl (cy 0, 2, .inl f_7)), (aho, .inl (cy 0, 2, .inl f_9)), (ado, .inl (cy 0, 2, .inl f_11)), (ala, .inl (cy 0, 2, .inl f_15)), (aca, .inl (cy 0, 2, .inl f_17)), (awo, .inl (cy 0, 100, .inl g_24)), (ase, .inl (cy 3, 100, .inl g_26)), (ami, .inl (cy 0, 200, .inl g_32)), (ahe, .inl (cy 3, 3, .inl ghe)), (ap, .inl (cy 0, 403, .inl gp_3)), (av, .inl (cy 0, 403, .inl gv_4)), (an, .inl (cy 1, 403, .inr (.inl gn_5))), (ak, .inl (cy 0, 403, .inl gk_2)), (m0, .inr (12, ((((((((((((fm.set 4 (.int 0)).set 2 (.int 0)).set 10 (.int 0)).set 10 (.int 1)).set 11 (.int 0)).set 12 (.int 0)).set 13 (.int 0)).set 15 (.int 0)).set 19 (.int 1)).set 20 (.int 0)).set 17 (.int (-1))).set 18 (.int 1)))), (aha, .inl (cy 0, 100, .inl g_25)), (ame, .inl (cy 0, 2, .inl f_13)), (ano, .inl (cy 0, 80, .inl gno_36))] H := hP
          have hD : va_D A [(aso, .inl (cy 0, 2, .inl f_7)), (aho, .inl (cy 0, 2, .inl f_9)), (ado, .inl (cy 0, 2, .inl f_11)), (ala, .inl (cy 0, 2, .inl f_15)), (aca, .inl (cy 0, 2, .inl f_17)), (awo, .inl (cy 0, 100, .inl g_24)), (ase, .inl (cy 3, 100, .inl g_26)), (ami, .inl (cy 0, 200, .inl g_32)), (ahe, .inl (cy 3, 3, .inl ghe)), (ap, .inl (cy 0, 403, .inl gp_3)), (av, .inl (cy 0, 403, .inl gv_4)), (an, .inl (cy 1, 403, .inr (.inl gn_5))), (ak, .inl (cy 0, 403, .inl gk_2)), (m0, .inr (12, ((((((((((((fm.set 4 (.int 0)).set 2 (.int 0)).set 10 (.int 0)).set 10 (.int 1)).set 11 (.int 0)).set 12 (.int 0)).set 13 (.int 0)).set 15 (.int 0)).set 19 (.int 1)).set 20 (.int 0)).set 17 (.int (-1))).set 18 (.int 1)))), (aha, .inl (cy 0, 100, .inl g_25)), (ame, .inl (cy 0, 2, .inl f_13)), (ano, .inl (cy 0, 80, .inl gno_36))] := hD
          refine lv_aload_n hx hb dX12_read_319 rfl (lv_at hl 1 rfl) ?_
          refine lv_iconst (v := 0) hx hb dX12_read_320 (by decide) ?_
          refine va_put (ci := 12) (v := .int 0) (ty := .int) (C := RX12) (T := TX12) (N := 90) hx hb hts in_X12_read_X12 tyX12 tyX12_ok nmX12 hown hK hP hD hS 13 rfl rfl 40 (by decide) (hts (.fieldLink RX12 281 "HallTablesModel" "undos" "I") (List.mem_of_getElem? (i := 21) rfl)) (fun _ h9 => h9) rfl (by decide +kernel) rfl rfl (lt_of_at (setk (setk (setk (setk (setk (setk (setk (setk (setk (setk (setk (setk e_m40 (by decide)) (by decide)) (by decide)) (by decide)) (by decide)) (by decide)) (by decide)) (by decide)) (by decide)) (by decide)) (by decide)) (by decide))) dX12_read_321 (fun H locs hP hD hS => ?_)
          have hP : va_P D vwCl [(aso, .inl (cy 0, 2, .inl f_7)), (aho, .inl (cy 0, 2, .inl f_9)), (ado, .inl (cy 0, 2, .inl f_11)), (ala, .inl (cy 0, 2, .inl f_15)), (aca, .inl (cy 0, 2, .inl f_17)), (awo, .inl (cy 0, 100, .inl g_24)), (ase, .inl (cy 3, 100, .inl g_26)), (ami, .inl (cy 0, 200, .inl g_32)), (ahe, .inl (cy 3, 3, .inl ghe)), (ap, .inl (cy 0, 403, .inl gp_3)), (av, .inl (cy 0, 403, .inl gv_4)), (an, .inl (cy 1, 403, .inr (.inl gn_5))), (ak, .inl (cy 0, 403, .inl gk_2)), (m0, .inr (12, (((((((((((((fm.set 4 (.int 0)).set 2 (.int 0)).set 10 (.int 0)).set 10 (.int 1)).set 11 (.int 0)).set 12 (.int 0)).set 13 (.int 0)).set 15 (.int 0)).set 19 (.int 1)).set 20 (.int 0)).set 17 (.int (-1))).set 18 (.int 1)).set 40 (.int 0)))), (aha, .inl (cy 0, 100, .inl g_25)), (ame, .inl (cy 0, 2, .inl f_13)), (ano, .inl (cy 0, 80, .inl gno_36))] H := hP
          have hD : va_D A [(aso, .inl (cy 0, 2, .inl f_7)), (aho, .inl (cy 0, 2, .inl f_9)), (ado, .inl (cy 0, 2, .inl f_11)), (ala, .inl (cy 0, 2, .inl f_15)), (aca, .inl (cy 0, 2, .inl f_17)), (awo, .inl (cy 0, 100, .inl g_24)), (ase, .inl (cy 3, 100, .inl g_26)), (ami, .inl (cy 0, 200, .inl g_32)), (ahe, .inl (cy 3, 3, .inl ghe)), (ap, .inl (cy 0, 403, .inl gp_3)), (av, .inl (cy 0, 403, .inl gv_4)), (an, .inl (cy 1, 403, .inr (.inl gn_5))), (ak, .inl (cy 0, 403, .inl gk_2)), (m0, .inr (12, (((((((((((((fm.set 4 (.int 0)).set 2 (.int 0)).set 10 (.int 0)).set 10 (.int 1)).set 11 (.int 0)).set 12 (.int 0)).set 13 (.int 0)).set 15 (.int 0)).set 19 (.int 1)).set 20 (.int 0)).set 17 (.int (-1))).set 18 (.int 1)).set 40 (.int 0)))), (aha, .inl (cy 0, 100, .inl g_25)), (ame, .inl (cy 0, 2, .inl f_13)), (ano, .inl (cy 0, 80, .inl gno_36))] := hD
          refine lv_aload_n hx hb dX12_read_324 rfl (lv_at hl 1 rfl) ?_
          refine lv_iconst (v := 0) hx hb dX12_read_325 (by decide) ?_
          refine va_put (ci := 12) (v := .int 0) (ty := .int) (C := RX12) (T := TX12) (N := 90) hx hb hts in_X12_read_X12 tyX12 tyX12_ok nmX12 hown hK hP hD hS 13 rfl rfl 73 (by decide) (hts (.fieldLink RX12 284 "HallTablesModel" "seen" "I") (List.mem_of_getElem? (i := 22) rfl)) (fun _ h9 => h9) rfl (by decide +kernel) rfl rfl (lt_of_at (setk (setk (setk (setk (setk (setk (setk (setk (setk (setk (setk (setk (setk e_m73 (by decide)) (by decide)) (by decide)) (by decide)) (by decide)) (by decide)) (by decide)) (by decide)) (by decide)) (by decide)) (by decide)) (by decide)) (by decide))) dX12_read_326 (fun H locs hP hD hS => ?_)
          have hP : va_P D vwCl [(aso, .inl (cy 0, 2, .inl f_7)), (aho, .inl (cy 0, 2, .inl f_9)), (ado, .inl (cy 0, 2, .inl f_11)), (ala, .inl (cy 0, 2, .inl f_15)), (aca, .inl (cy 0, 2, .inl f_17)), (awo, .inl (cy 0, 100, .inl g_24)), (ase, .inl (cy 3, 100, .inl g_26)), (ami, .inl (cy 0, 200, .inl g_32)), (ahe, .inl (cy 3, 3, .inl ghe)), (ap, .inl (cy 0, 403, .inl gp_3)), (av, .inl (cy 0, 403, .inl gv_4)), (an, .inl (cy 1, 403, .inr (.inl gn_5))), (ak, .inl (cy 0, 403, .inl gk_2)), (m0, .inr (12, ((((((((((((((fm.set 4 (.int 0)).set 2 (.int 0)).set 10 (.int 0)).set 10 (.int 1)).set 11 (.int 0)).set 12 (.int 0)).set 13 (.int 0)).set 15 (.int 0)).set 19 (.int 1)).set 20 (.int 0)).set 17 (.int (-1))).set 18 (.int 1)).set 40 (.int 0)).set 73 (.int 0)))), (aha, .inl (cy 0, 100, .inl g_25)), (ame, .inl (cy 0, 2, .inl f_13)), (ano, .inl (cy 0, 80, .inl gno_36))] H := hP
          have hD : va_D A [(aso, .inl (cy 0, 2, .inl f_7)), (aho, .inl (cy 0, 2, .inl f_9)), (ado, .inl (cy 0, 2, .inl f_11)), (ala, .inl (cy 0, 2, .inl f_15)), (aca, .inl (cy 0, 2, .inl f_17)), (awo, .inl (cy 0, 100, .inl g_24)), (ase, .inl (cy 3, 100, .inl g_26)), (ami, .inl (cy 0, 200, .inl g_32)), (ahe, .inl (cy 3, 3, .inl ghe)), (ap, .inl (cy 0, 403, .inl gp_3)), (av, .inl (cy 0, 403, .inl gv_4)), (an, .inl (cy 1, 403, .inr (.inl gn_5))), (ak, .inl (cy 0, 403, .inl gk_2)), (m0, .inr (12, ((((((((((((((fm.set 4 (.int 0)).set 2 (.int 0)).set 10 (.int 0)).set 10 (.int 1)).set 11 (.int 0)).set 12 (.int 0)).set 13 (.int 0)).set 15 (.int 0)).set 19 (.int 1)).set 20 (.int 0)).set 17 (.int (-1))).set 18 (.int 1)).set 40 (.int 0)).set 73 (.int 0)))), (aha, .inl (cy 0, 100, .inl g_25)), (ame, .inl (cy 0, 2, .inl f_13)), (ano, .inl (cy 0, 80, .inl gno_36))] := hD
          refine lv_iconst (v := 0) hx hb dX12_read_329 (by decide) ?_
          refine lv_istore_n (lv' := [(1, .int 0), (0, .ref m0)]) hx hb dX12_read_330 rfl hl (by decide) rfl (fun ls hl => ?_)
          refine lv_iload_n hx hb dX12_read_331 rfl (lv_at hl 0 rfl) ?_
          refine lv_iconst (v := 3) hx hb dX12_read_332 (by decide) ?_
          refine lv_icmp_ge (tgt := 349) hx hb dX12_read_333 (by decide) (fun c9 => absurd c9 (by decide)) (fun _ => ?_)
          refine lv_aload_n hx hb dX12_read_336 rfl (lv_at hl 1 rfl) ?_
          refine va_get (ci := 12) (v := .ref ahe) (C := RX12) (T := TX12) (N := 90) hx hb hts in_X12_read_X12 hown hK hP 13 rfl rfl 88 (by decide) (hts (.fieldLink RX12 188 "HallTablesModel" "isHeld" "[Z") (List.mem_of_getElem? (i := 23) rfl)) (fun _ h9 => h9) (setk (setk (setk (setk (setk (setk (setk (setk (setk (setk (setk (setk (setk (setk e_m88 (by decide)) (by decide)) (by decide)) (by decide)) (by decide)) (by decide)) (by decide)) (by decide)) (by decide)) (by decide)) (by decide)) (by decide)) (by decide)) (by decide)) dX12_read_337 ?_
          refine lv_iload_n hx hb dX12_read_340 rfl (lv_at hl 0 rfl) ?_
          refine lv_iconst (v := 0) hx hb dX12_read_341 (by decide) ?_
          refine sZ hx hb hK hP hD hS 8 rfl 0 rfl (Nat.le_of_ble_eq_true rfl) (Nat.le_of_ble_eq_true rfl) dX12_read_342 (fun H locs hP hD hS => ?_)
          have hP : va_P D vwCl [(aso, .inl (cy 0, 2, .inl f_7)), (aho, .inl (cy 0, 2, .inl f_9)), (ado, .inl (cy 0, 2, .inl f_11)), (ala, .inl (cy 0, 2, .inl f_15)), (aca, .inl (cy 0, 2, .inl f_17)), (awo, .inl (cy 0, 100, .inl g_24)), (ase, .inl (cy 3, 100, .inl g_26)), (ami, .inl (cy 0, 200, .inl g_32)), (ahe, .inl (cy 3, 3, .inl (upd ghe 0 (vp_nar .boolean 0)))), (ap, .inl (cy 0, 403, .inl gp_3)), (av, .inl (cy 0, 403, .inl gv_4)), (an, .inl (cy 1, 403, .inr (.inl gn_5))), (ak, .inl (cy 0, 403, .inl gk_2)), (m0, .inr (12, ((((((((((((((fm.set 4 (.int 0)).set 2 (.int 0)).set 10 (.int 0)).set 10 (.int 1)).set 11 (.int 0)).set 12 (.int 0)).set 13 (.int 0)).set 15 (.int 0)).set 19 (.int 1)).set 20 (.int 0)).set 17 (.int (-1))).set 18 (.int 1)).set 40 (.int 0)).set 73 (.int 0)))), (aha, .inl (cy 0, 100, .inl g_25)), (ame, .inl (cy 0, 2, .inl f_13)), (ano, .inl (cy 0, 80, .inl gno_36))] H := hP
          have hD : va_D A [(aso, .inl (cy 0, 2, .inl f_7)), (aho, .inl (cy 0, 2, .inl f_9)), (ado, .inl (cy 0, 2, .inl f_11)), (ala, .inl (cy 0, 2, .inl f_15)), (aca, .inl (cy 0, 2, .inl f_17)), (awo, .inl (cy 0, 100, .inl g_24)), (ase, .inl (cy 3, 100, .inl g_26)), (ami, .inl (cy 0, 200, .inl g_32)), (ahe, .inl (cy 3, 3, .inl (upd ghe 0 (vp_nar .boolean 0)))), (ap, .inl (cy 0, 403, .inl gp_3)), (av, .inl (cy 0, 403, .inl gv_4)), (an, .inl (cy 1, 403, .inr (.inl gn_5))), (ak, .inl (cy 0, 403, .inl gk_2)), (m0, .inr (12, ((((((((((((((fm.set 4 (.int 0)).set 2 (.int 0)).set 10 (.int 0)).set 10 (.int 1)).set 11 (.int 0)).set 12 (.int 0)).set 13 (.int 0)).set 15 (.int 0)).set 19 (.int 1)).set 20 (.int 0)).set 17 (.int (-1))).set 18 (.int 1)).set 40 (.int 0)).set 73 (.int 0)))), (aha, .inl (cy 0, 100, .inl g_25)), (ame, .inl (cy 0, 2, .inl f_13)), (ano, .inl (cy 0, 80, .inl gno_36))] := hD
          obtain ⟨f_37, ef_37⟩ : ∃ z, z = upd ghe 0 (vp_nar .boolean 0) := ⟨_, rfl⟩
          rw [← ef_37] at hP hD
          refine lv_iinc (v := 1) (lv' := [(1, .int 1), (0, .ref m0)]) hx hb dX12_read_343 hl (k := 0) rfl (by decide) (by decide) rfl (fun ls hl => ?_)
          refine lv_goto (tgt := 331) hx hb dX12_read_346 (by decide) ?_
          refine lv_iload_n hx hb dX12_read_331 rfl (lv_at hl 0 rfl) ?_
          refine lv_iconst (v := 3) hx hb dX12_read_332 (by decide) ?_
          refine lv_icmp_ge (tgt := 349) hx hb dX12_read_333 (by decide) (fun c9 => absurd c9 (by decide)) (fun _ => ?_)
          refine lv_aload_n hx hb dX12_read_336 rfl (lv_at hl 1 rfl) ?_
          refine va_get (ci := 12) (v := .ref ahe) (C := RX12) (T := TX12) (N := 90) hx hb hts in_X12_read_X12 hown hK hP 13 rfl rfl 88 (by decide) (hts (.fieldLink RX12 188 "HallTablesModel" "isHeld" "[Z") (List.mem_of_getElem? (i := 23) rfl)) (fun _ h9 => h9) (setk (setk (setk (setk (setk (setk (setk (setk (setk (setk (setk (setk (setk (setk e_m88 (by decide)) (by decide)) (by decide)) (by decide)) (by decide)) (by decide)) (by decide)) (by decide)) (by decide)) (by decide)) (by decide)) (by decide)) (by decide)) (by decide)) dX12_read_337 ?_
          refine lv_iload_n hx hb dX12_read_340 rfl (lv_at hl 0 rfl) ?_
          refine lv_iconst (v := 0) hx hb dX12_read_341 (by decide) ?_
          refine sZ hx hb hK hP hD hS 8 rfl 1 rfl (Nat.le_of_ble_eq_true rfl) (Nat.le_of_ble_eq_true rfl) dX12_read_342 (fun H locs hP hD hS => ?_)
          have hP : va_P D vwCl [(aso, .inl (cy 0, 2, .inl f_7)), (aho, .inl (cy 0, 2, .inl f_9)), (ado, .inl (cy 0, 2, .inl f_11)), (ala, .inl (cy 0, 2, .inl f_15)), (aca, .inl (cy 0, 2, .inl f_17)), (awo, .inl (cy 0, 100, .inl g_24)), (ase, .inl (cy 3, 100, .inl g_26)), (ami, .inl (cy 0, 200, .inl g_32)), (ahe, .inl (cy 3, 3, .inl (upd f_37 1 (vp_nar .boolean 0)))), (ap, .inl (cy 0, 403, .inl gp_3)), (av, .inl (cy 0, 403, .inl gv_4)), (an, .inl (cy 1, 403, .inr (.inl gn_5))), (ak, .inl (cy 0, 403, .inl gk_2)), (m0, .inr (12, ((((((((((((((fm.set 4 (.int 0)).set 2 (.int 0)).set 10 (.int 0)).set 10 (.int 1)).set 11 (.int 0)).set 12 (.int 0)).set 13 (.int 0)).set 15 (.int 0)).set 19 (.int 1)).set 20 (.int 0)).set 17 (.int (-1))).set 18 (.int 1)).set 40 (.int 0)).set 73 (.int 0)))), (aha, .inl (cy 0, 100, .inl g_25)), (ame, .inl (cy 0, 2, .inl f_13)), (ano, .inl (cy 0, 80, .inl gno_36))] H := hP
          have hD : va_D A [(aso, .inl (cy 0, 2, .inl f_7)), (aho, .inl (cy 0, 2, .inl f_9)), (ado, .inl (cy 0, 2, .inl f_11)), (ala, .inl (cy 0, 2, .inl f_15)), (aca, .inl (cy 0, 2, .inl f_17)), (awo, .inl (cy 0, 100, .inl g_24)), (ase, .inl (cy 3, 100, .inl g_26)), (ami, .inl (cy 0, 200, .inl g_32)), (ahe, .inl (cy 3, 3, .inl (upd f_37 1 (vp_nar .boolean 0)))), (ap, .inl (cy 0, 403, .inl gp_3)), (av, .inl (cy 0, 403, .inl gv_4)), (an, .inl (cy 1, 403, .inr (.inl gn_5))), (ak, .inl (cy 0, 403, .inl gk_2)), (m0, .inr (12, ((((((((((((((fm.set 4 (.int 0)).set 2 (.int 0)).set 10 (.int 0)).set 10 (.int 1)).set 11 (.int 0)).set 12 (.int 0)).set 13 (.int 0)).set 15 (.int 0)).set 19 (.int 1)).set 20 (.int 0)).set 17 (.int (-1))).set 18 (.int 1)).set 40 (.int 0)).set 73 (.int 0)))), (aha, .inl (cy 0, 100, .inl g_25)), (ame, .inl (cy 0, 2, .inl f_13)), (ano, .inl (cy 0, 80, .inl gno_36))] := hD
          obtain ⟨f_38, ef_38⟩ : ∃ z, z = upd f_37 1 (vp_nar .boolean 0) := ⟨_, rfl⟩
          rw [← ef_38] at hP hD
          refine lv_iinc (v := 2) (lv' := [(1, .int 2), (0, .ref m0)]) hx hb dX12_read_343 hl (k := 0) rfl (by decide) (by decide) rfl (fun ls hl => ?_)
          refine lv_goto (tgt := 331) hx hb dX12_read_346 (by decide) ?_
          refine lv_iload_n hx hb dX12_read_331 rfl (lv_at hl 0 rfl) ?_
          refine lv_iconst (v := 3) hx hb dX12_read_332 (by decide) ?_
          refine lv_icmp_ge (tgt := 349) hx hb dX12_read_333 (by decide) (fun c9 => absurd c9 (by decide)) (fun _ => ?_)
          refine lv_aload_n hx hb dX12_read_336 rfl (lv_at hl 1 rfl) ?_
          refine va_get (ci := 12) (v := .ref ahe) (C := RX12) (T := TX12) (N := 90) hx hb hts in_X12_read_X12 hown hK hP 13 rfl rfl 88 (by decide) (hts (.fieldLink RX12 188 "HallTablesModel" "isHeld" "[Z") (List.mem_of_getElem? (i := 23) rfl)) (fun _ h9 => h9) (setk (setk (setk (setk (setk (setk (setk (setk (setk (setk (setk (setk (setk (setk e_m88 (by decide)) (by decide)) (by decide)) (by decide)) (by decide)) (by decide)) (by decide)) (by decide)) (by decide)) (by decide)) (by decide)) (by decide)) (by decide)) (by decide)) dX12_read_337 ?_
          refine lv_iload_n hx hb dX12_read_340 rfl (lv_at hl 0 rfl) ?_
          refine lv_iconst (v := 0) hx hb dX12_read_341 (by decide) ?_
          refine sZ hx hb hK hP hD hS 8 rfl 2 rfl (Nat.le_of_ble_eq_true rfl) (Nat.le_of_ble_eq_true rfl) dX12_read_342 (fun H locs hP hD hS => ?_)
          have hP : va_P D vwCl [(aso, .inl (cy 0, 2, .inl f_7)), (aho, .inl (cy 0, 2, .inl f_9)), (ado, .inl (cy 0, 2, .inl f_11)), (ala, .inl (cy 0, 2, .inl f_15)), (aca, .inl (cy 0, 2, .inl f_17)), (awo, .inl (cy 0, 100, .inl g_24)), (ase, .inl (cy 3, 100, .inl g_26)), (ami, .inl (cy 0, 200, .inl g_32)), (ahe, .inl (cy 3, 3, .inl (upd f_38 2 (vp_nar .boolean 0)))), (ap, .inl (cy 0, 403, .inl gp_3)), (av, .inl (cy 0, 403, .inl gv_4)), (an, .inl (cy 1, 403, .inr (.inl gn_5))), (ak, .inl (cy 0, 403, .inl gk_2)), (m0, .inr (12, ((((((((((((((fm.set 4 (.int 0)).set 2 (.int 0)).set 10 (.int 0)).set 10 (.int 1)).set 11 (.int 0)).set 12 (.int 0)).set 13 (.int 0)).set 15 (.int 0)).set 19 (.int 1)).set 20 (.int 0)).set 17 (.int (-1))).set 18 (.int 1)).set 40 (.int 0)).set 73 (.int 0)))), (aha, .inl (cy 0, 100, .inl g_25)), (ame, .inl (cy 0, 2, .inl f_13)), (ano, .inl (cy 0, 80, .inl gno_36))] H := hP
          have hD : va_D A [(aso, .inl (cy 0, 2, .inl f_7)), (aho, .inl (cy 0, 2, .inl f_9)), (ado, .inl (cy 0, 2, .inl f_11)), (ala, .inl (cy 0, 2, .inl f_15)), (aca, .inl (cy 0, 2, .inl f_17)), (awo, .inl (cy 0, 100, .inl g_24)), (ase, .inl (cy 3, 100, .inl g_26)), (ami, .inl (cy 0, 200, .inl g_32)), (ahe, .inl (cy 3, 3, .inl (upd f_38 2 (vp_nar .boolean 0)))), (ap, .inl (cy 0, 403, .inl gp_3)), (av, .inl (cy 0, 403, .inl gv_4)), (an, .inl (cy 1, 403, .inr (.inl gn_5))), (ak, .inl (cy 0, 403, .inl gk_2)), (m0, .inr (12, ((((((((((((((fm.set 4 (.int 0)).set 2 (.int 0)).set 10 (.int 0)).set 10 (.int 1)).set 11 (.int 0)).set 12 (.int 0)).set 13 (.int 0)).set 15 (.int 0)).set 19 (.int 1)).set 20 (.int 0)).set 17 (.int (-1))).set 18 (.int 1)).set 40 (.int 0)).set 73 (.int 0)))), (aha, .inl (cy 0, 100, .inl g_25)), (ame, .inl (cy 0, 2, .inl f_13)), (ano, .inl (cy 0, 80, .inl gno_36))] := hD
          obtain ⟨f_39, ef_39⟩ : ∃ z, z = upd f_38 2 (vp_nar .boolean 0) := ⟨_, rfl⟩
          rw [← ef_39] at hP hD
          refine lv_iinc (v := 3) (lv' := [(1, .int 3), (0, .ref m0)]) hx hb dX12_read_343 hl (k := 0) rfl (by decide) (by decide) rfl (fun ls hl => ?_)
          refine lv_goto (tgt := 331) hx hb dX12_read_346 (by decide) ?_
          refine lv_iload_n hx hb dX12_read_331 rfl (lv_at hl 0 rfl) ?_
          refine lv_iconst (v := 3) hx hb dX12_read_332 (by decide) ?_
          refine lv_icmp_ge (tgt := 349) hx hb dX12_read_333 (by decide) (fun _ => ?_) (fun c9 => absurd (by decide) c9)
          refine lv_iconst (v := 0) hx hb dX12_read_349 (by decide) ?_
          have hP := hP.sub (ws' := []) [] rfl
          have hD := hD.sub (ws' := []) [] (by decide +kernel) rfl
          exact endI hx hb hr hlocks [] rfl ⟨rfl, rfl⟩ hP hD hS (Nat.le_of_ble_eq_true rfl) (Nat.le_of_ble_eq_true rfl) dX12_read_350
        | succ n_28 ih_29 =>
          intro i_27 g_32 H locs ls hi_31 hP hD hS hl
          refine lv_iload_n hx hb dX12_read_201 rfl (lv_at hl 0 rfl) ?_
          refine lv_bipush (v := 100) hx hb dX12_read_202 (by decide) ?_
          refine lv_icmp_ge (tgt := 228) hx hb dX12_read_204 (by decide) (fun c9 => absurd c9 (nI_ge (a := i_27) (b := 100) (by omega) (Nat.le_of_ble_eq_true rfl))) (fun _ => ?_)
          refine lv_aload_n hx hb dX12_read_207 rfl (lv_at hl 1 rfl) ?_
          refine va_get (ci := 12) (v := .ref ami) (C := RX12) (T := TX12) (N := 90) hx hb hts in_X12_read_X12 hown hK hP 12 rfl rfl 31 (by decide) (hts (.fieldLink RX12 71 "HallTablesModel" "minutes" "[I") (List.mem_of_getElem? (i := 19) rfl)) (fun _ h9 => h9) (setk (setk (setk (setk (setk (setk (setk (setk (setk (setk e_m31 (by decide)) (by decide)) (by decide)) (by decide)) (by decide)) (by decide)) (by decide)) (by decide)) (by decide)) (by decide)) dX12_read_208 ?_
          refine lv_bipush (v := 100) hx hb dX12_read_211 (by decide) ?_
          refine lv_aload_n hx hb dX12_read_213 rfl (lv_at hl 1 rfl) ?_
          refine va_get (ci := 12) (v := .int 1) (C := RX12) (T := TX12) (N := 90) hx hb hts in_X12_read_X12 hown hK hP 12 rfl rfl 19 (by decide) (hts (.fieldLink RX12 269 "HallTablesModel" "side" "I") (List.mem_of_getElem? (i := 8) rfl)) (fun _ h9 => h9) (setk (setk_same (setk (setk (setk (setk (setk (setk (setk (setk e_m19 (by decide)) (by decide)) (by decide)) (by decide)) (by decide)) (by decide)) (by decide)) (by decide))) (by decide)) dX12_read_214 ?_
          refine lv_imul hx hb dX12_read_217 ?_
          refine tpI (v := 100) (by decide) ?_
          refine lv_iload_n hx hb dX12_read_218 rfl (lv_at hl 0 rfl) ?_
          refine lv_iadd hx hb dX12_read_219 ?_
          refine tpI (v := nI (100 + i_27)) (nI_add 100 i_27) ?_
          refine lv_iconst (v := 0) hx hb dX12_read_220 (by decide) ?_
          refine sI hx hb hK hP hD hS 9 rfl (100 + i_27) rfl (by omega) (Nat.le_of_ble_eq_true rfl) dX12_read_221 (fun H locs hP hD hS => ?_)
          have hP : va_P D vwCl [(aso, .inl (cy 0, 2, .inl f_7)), (aho, .inl (cy 0, 2, .inl f_9)), (ado, .inl (cy 0, 2, .inl f_11)), (ame, .inl (cy 0, 2, .inl f_13)), (ala, .inl (cy 0, 2, .inl f_15)), (aca, .inl (cy 0, 2, .inl f_17)), (awo, .inl (cy 0, 100, .inl g_24)), (aha, .inl (cy 0, 100, .inl g_25)), (ase, .inl (cy 3, 100, .inl g_26)), (ami, .inl (cy 0, 200, .inl (upd g_32 (100 + i_27) 0))), (ano, .inl (cy 0, 80, .inl gno)), (ahe, .inl (cy 3, 3, .inl ghe)), (m0, .inr (12, ((((((((((fm.set 4 (.int 0)).set 2 (.int 0)).set 10 (.int 0)).set 10 (.int 1)).set 11 (.int 0)).set 12 (.int 0)).set 13 (.int 0)).set 15 (.int 0)).set 19 (.int 1)).set 20 (.int 0)))), (ak, .inl (cy 0, 403, .inl gk_2)), (ap, .inl (cy 0, 403, .inl gp_3)), (av, .inl (cy 0, 403, .inl gv_4)), (an, .inl (cy 1, 403, .inr (.inl gn_5)))] H := hP
          have hD : va_D A [(aso, .inl (cy 0, 2, .inl f_7)), (aho, .inl (cy 0, 2, .inl f_9)), (ado, .inl (cy 0, 2, .inl f_11)), (ame, .inl (cy 0, 2, .inl f_13)), (ala, .inl (cy 0, 2, .inl f_15)), (aca, .inl (cy 0, 2, .inl f_17)), (awo, .inl (cy 0, 100, .inl g_24)), (aha, .inl (cy 0, 100, .inl g_25)), (ase, .inl (cy 3, 100, .inl g_26)), (ami, .inl (cy 0, 200, .inl (upd g_32 (100 + i_27) 0))), (ano, .inl (cy 0, 80, .inl gno)), (ahe, .inl (cy 3, 3, .inl ghe)), (m0, .inr (12, ((((((((((fm.set 4 (.int 0)).set 2 (.int 0)).set 10 (.int 0)).set 10 (.int 1)).set 11 (.int 0)).set 12 (.int 0)).set 13 (.int 0)).set 15 (.int 0)).set 19 (.int 1)).set 20 (.int 0)))), (ak, .inl (cy 0, 403, .inl gk_2)), (ap, .inl (cy 0, 403, .inl gp_3)), (av, .inl (cy 0, 403, .inl gv_4)), (an, .inl (cy 1, 403, .inr (.inl gn_5)))] := hD
          obtain ⟨f_40, ef_40⟩ : ∃ z, z = upd g_32 (100 + i_27) 0 := ⟨_, rfl⟩
          rw [← ef_40] at hP hD
          refine lv_iinc (v := nI (i_27 + 1)) (lv' := [(1, .int (nI (i_27 + 1))), (0, .ref m0)]) hx hb dX12_read_222 hl (k := 0) rfl (nI_1 i_27) (by decide) rfl (fun ls hl => ?_)
          refine lv_goto (tgt := 201) hx hb dX12_read_225 (by decide) ?_
          exact ih_29 (i_27 + 1) f_40 H locs ls (by omega) hP hD hS (lv_sub hl [0, 1] rfl)
      exact lp_30 100 0 gmi _ _ _ (by omega) hP hD hS hl
    | succ n_20 ih_21 =>
      intro i_19 g_24 g_25 g_26 H locs ls hi_23 hP hD hS hl
      refine lv_iload_n hx hb dX12_read_142 rfl (lv_at hl 0 rfl) ?_
      refine lv_bipush (v := 50) hx hb dX12_read_143 (by decide) ?_
      refine lv_icmp_ge (tgt := 199) hx hb dX12_read_145 (by decide) (fun c9 => absurd c9 (nI_ge (a := i_19) (b := 50) (by omega) (Nat.le_of_ble_eq_true rfl))) (fun _ => ?_)
      refine lv_aload_n hx hb dX12_read_148 rfl (lv_at hl 1 rfl) ?_
      refine va_get (ci := 12) (v := .ref awo) (C := RX12) (T := TX12) (N := 90) hx hb hts in_X12_read_X12 hown hK hP 12 rfl rfl 27 (by decide) (hts (.fieldLink RX12 58 "HallTablesModel" "worthAt" "[I") (List.mem_of_getElem? (i := 16) rfl)) (fun _ h9 => h9) (setk (setk (setk (setk (setk (setk (setk (setk (setk (setk e_m27 (by decide)) (by decide)) (by decide)) (by decide)) (by decide)) (by decide)) (by decide)) (by decide)) (by decide)) (by decide)) dX12_read_149 ?_
      refine lv_bipush (v := 50) hx hb dX12_read_152 (by decide) ?_
      refine lv_aload_n hx hb dX12_read_154 rfl (lv_at hl 1 rfl) ?_
      refine va_get (ci := 12) (v := .int 1) (C := RX12) (T := TX12) (N := 90) hx hb hts in_X12_read_X12 hown hK hP 12 rfl rfl 19 (by decide) (hts (.fieldLink RX12 269 "HallTablesModel" "side" "I") (List.mem_of_getElem? (i := 8) rfl)) (fun _ h9 => h9) (setk (setk_same (setk (setk (setk (setk (setk (setk (setk (setk e_m19 (by decide)) (by decide)) (by decide)) (by decide)) (by decide)) (by decide)) (by decide)) (by decide))) (by decide)) dX12_read_155 ?_
      refine lv_imul hx hb dX12_read_158 ?_
      refine tpI (v := 50) (by decide) ?_
      refine lv_iload_n hx hb dX12_read_159 rfl (lv_at hl 0 rfl) ?_
      refine lv_iadd hx hb dX12_read_160 ?_
      refine tpI (v := nI (50 + i_19)) (nI_add 50 i_19) ?_
      refine lv_iconst (v := (-1)) hx hb dX12_read_161 (by decide) ?_
      refine sI hx hb hK hP hD hS 6 rfl (50 + i_19) rfl (by omega) (Nat.le_of_ble_eq_true rfl) dX12_read_162 (fun H locs hP hD hS => ?_)
      have hP : va_P D vwCl [(aso, .inl (cy 0, 2, .inl f_7)), (aho, .inl (cy 0, 2, .inl f_9)), (ado, .inl (cy 0, 2, .inl f_11)), (ame, .inl (cy 0, 2, .inl f_13)), (ala, .inl (cy 0, 2, .inl f_15)), (aca, .inl (cy 0, 2, .inl f_17)), (awo, .inl (cy 0, 100, .inl (upd g_24 (50 + i_19) (-1)))), (aha, .inl (cy 0, 100, .inl g_25)), (ase, .inl (cy 3, 100, .inl g_26)), (ami, .inl (cy 0, 200, .inl gmi)), (ano, .inl (cy 0, 80, .inl gno)), (ahe, .inl (cy 3, 3, .inl ghe)), (m0, .inr (12, ((((((((((fm.set 4 (.int 0)).set 2 (.int 0)).set 10 (.int 0)).set 10 (.int 1)).set 11 (.int 0)).set 12 (.int 0)).set 13 (.int 0)).set 15 (.int 0)).set 19 (.int 1)).set 20 (.int 0)))), (ak, .inl (cy 0, 403, .inl gk_2)), (ap, .inl (cy 0, 403, .inl gp_3)), (av, .inl (cy 0, 403, .inl gv_4)), (an, .inl (cy 1, 403, .inr (.inl gn_5)))] H := hP
      have hD : va_D A [(aso, .inl (cy 0, 2, .inl f_7)), (aho, .inl (cy 0, 2, .inl f_9)), (ado, .inl (cy 0, 2, .inl f_11)), (ame, .inl (cy 0, 2, .inl f_13)), (ala, .inl (cy 0, 2, .inl f_15)), (aca, .inl (cy 0, 2, .inl f_17)), (awo, .inl (cy 0, 100, .inl (upd g_24 (50 + i_19) (-1)))), (aha, .inl (cy 0, 100, .inl g_25)), (ase, .inl (cy 3, 100, .inl g_26)), (ami, .inl (cy 0, 200, .inl gmi)), (ano, .inl (cy 0, 80, .inl gno)), (ahe, .inl (cy 3, 3, .inl ghe)), (m0, .inr (12, ((((((((((fm.set 4 (.int 0)).set 2 (.int 0)).set 10 (.int 0)).set 10 (.int 1)).set 11 (.int 0)).set 12 (.int 0)).set 13 (.int 0)).set 15 (.int 0)).set 19 (.int 1)).set 20 (.int 0)))), (ak, .inl (cy 0, 403, .inl gk_2)), (ap, .inl (cy 0, 403, .inl gp_3)), (av, .inl (cy 0, 403, .inl gv_4)), (an, .inl (cy 1, 403, .inr (.inl gn_5)))] := hD
      obtain ⟨f_41, ef_41⟩ : ∃ z, z = upd g_24 (50 + i_19) (-1) := ⟨_, rfl⟩
      rw [← ef_41] at hP hD
      refine lv_aload_n hx hb dX12_read_163 rfl (lv_at hl 1 rfl) ?_
      refine va_get (ci := 12) (v := .ref aha) (C := RX12) (T := TX12) (N := 90) hx hb hts in_X12_read_X12 hown hK hP 12 rfl rfl 28 (by decide) (hts (.fieldLink RX12 61 "HallTablesModel" "hallHas" "[I") (List.mem_of_getElem? (i := 17) rfl)) (fun _ h9 => h9) (setk (setk (setk (setk (setk (setk (setk (setk (setk (setk e_m28 (by decide)) (by decide)) (by decide)) (by decide)) (by decide)) (by decide)) (by decide)) (by decide)) (by decide)) (by decide)) dX12_read_164 ?_
      refine lv_bipush (v := 50) hx hb dX12_read_167 (by decide) ?_
      refine lv_aload_n hx hb dX12_read_169 rfl (lv_at hl 1 rfl) ?_
      refine va_get (ci := 12) (v := .int 1) (C := RX12) (T := TX12) (N := 90) hx hb hts in_X12_read_X12 hown hK hP 12 rfl rfl 19 (by decide) (hts (.fieldLink RX12 269 "HallTablesModel" "side" "I") (List.mem_of_getElem? (i := 8) rfl)) (fun _ h9 => h9) (setk (setk_same (setk (setk (setk (setk (setk (setk (setk (setk e_m19 (by decide)) (by decide)) (by decide)) (by decide)) (by decide)) (by decide)) (by decide)) (by decide))) (by decide)) dX12_read_170 ?_
      refine lv_imul hx hb dX12_read_173 ?_
      refine tpI (v := 50) (by decide) ?_
      refine lv_iload_n hx hb dX12_read_174 rfl (lv_at hl 0 rfl) ?_
      refine lv_iadd hx hb dX12_read_175 ?_
      refine tpI (v := nI (50 + i_19)) (nI_add 50 i_19) ?_
      refine lv_iconst (v := 0) hx hb dX12_read_176 (by decide) ?_
      refine sI hx hb hK hP hD hS 7 rfl (50 + i_19) rfl (by omega) (Nat.le_of_ble_eq_true rfl) dX12_read_177 (fun H locs hP hD hS => ?_)
      have hP : va_P D vwCl [(aso, .inl (cy 0, 2, .inl f_7)), (aho, .inl (cy 0, 2, .inl f_9)), (ado, .inl (cy 0, 2, .inl f_11)), (ame, .inl (cy 0, 2, .inl f_13)), (ala, .inl (cy 0, 2, .inl f_15)), (aca, .inl (cy 0, 2, .inl f_17)), (awo, .inl (cy 0, 100, .inl f_41)), (aha, .inl (cy 0, 100, .inl (upd g_25 (50 + i_19) 0))), (ase, .inl (cy 3, 100, .inl g_26)), (ami, .inl (cy 0, 200, .inl gmi)), (ano, .inl (cy 0, 80, .inl gno)), (ahe, .inl (cy 3, 3, .inl ghe)), (m0, .inr (12, ((((((((((fm.set 4 (.int 0)).set 2 (.int 0)).set 10 (.int 0)).set 10 (.int 1)).set 11 (.int 0)).set 12 (.int 0)).set 13 (.int 0)).set 15 (.int 0)).set 19 (.int 1)).set 20 (.int 0)))), (ak, .inl (cy 0, 403, .inl gk_2)), (ap, .inl (cy 0, 403, .inl gp_3)), (av, .inl (cy 0, 403, .inl gv_4)), (an, .inl (cy 1, 403, .inr (.inl gn_5)))] H := hP
      have hD : va_D A [(aso, .inl (cy 0, 2, .inl f_7)), (aho, .inl (cy 0, 2, .inl f_9)), (ado, .inl (cy 0, 2, .inl f_11)), (ame, .inl (cy 0, 2, .inl f_13)), (ala, .inl (cy 0, 2, .inl f_15)), (aca, .inl (cy 0, 2, .inl f_17)), (awo, .inl (cy 0, 100, .inl f_41)), (aha, .inl (cy 0, 100, .inl (upd g_25 (50 + i_19) 0))), (ase, .inl (cy 3, 100, .inl g_26)), (ami, .inl (cy 0, 200, .inl gmi)), (ano, .inl (cy 0, 80, .inl gno)), (ahe, .inl (cy 3, 3, .inl ghe)), (m0, .inr (12, ((((((((((fm.set 4 (.int 0)).set 2 (.int 0)).set 10 (.int 0)).set 10 (.int 1)).set 11 (.int 0)).set 12 (.int 0)).set 13 (.int 0)).set 15 (.int 0)).set 19 (.int 1)).set 20 (.int 0)))), (ak, .inl (cy 0, 403, .inl gk_2)), (ap, .inl (cy 0, 403, .inl gp_3)), (av, .inl (cy 0, 403, .inl gv_4)), (an, .inl (cy 1, 403, .inr (.inl gn_5)))] := hD
      obtain ⟨f_42, ef_42⟩ : ∃ z, z = upd g_25 (50 + i_19) 0 := ⟨_, rfl⟩
      rw [← ef_42] at hP hD
      refine lv_aload_n hx hb dX12_read_178 rfl (lv_at hl 1 rfl) ?_
      refine va_get (ci := 12) (v := .ref ase) (C := RX12) (T := TX12) (N := 90) hx hb hts in_X12_read_X12 hown hK hP 12 rfl rfl 29 (by decide) (hts (.fieldLink RX12 64 "HallTablesModel" "sells" "[Z") (List.mem_of_getElem? (i := 18) rfl)) (fun _ h9 => h9) (setk (setk (setk (setk (setk (setk (setk (setk (setk (setk e_m29 (by decide)) (by decide)) (by decide)) (by decide)) (by decide)) (by decide)) (by decide)) (by decide)) (by decide)) (by decide)) dX12_read_179 ?_
      refine lv_bipush (v := 50) hx hb dX12_read_182 (by decide) ?_
      refine lv_aload_n hx hb dX12_read_184 rfl (lv_at hl 1 rfl) ?_
      refine va_get (ci := 12) (v := .int 1) (C := RX12) (T := TX12) (N := 90) hx hb hts in_X12_read_X12 hown hK hP 12 rfl rfl 19 (by decide) (hts (.fieldLink RX12 269 "HallTablesModel" "side" "I") (List.mem_of_getElem? (i := 8) rfl)) (fun _ h9 => h9) (setk (setk_same (setk (setk (setk (setk (setk (setk (setk (setk e_m19 (by decide)) (by decide)) (by decide)) (by decide)) (by decide)) (by decide)) (by decide)) (by decide))) (by decide)) dX12_read_185 ?_
      refine lv_imul hx hb dX12_read_188 ?_
      refine tpI (v := 50) (by decide) ?_
      refine lv_iload_n hx hb dX12_read_189 rfl (lv_at hl 0 rfl) ?_
      refine lv_iadd hx hb dX12_read_190 ?_
      refine tpI (v := nI (50 + i_19)) (nI_add 50 i_19) ?_
      refine lv_iconst (v := 0) hx hb dX12_read_191 (by decide) ?_
      refine sZ hx hb hK hP hD hS 8 rfl (50 + i_19) rfl (by omega) (Nat.le_of_ble_eq_true rfl) dX12_read_192 (fun H locs hP hD hS => ?_)
      have hP : va_P D vwCl [(aso, .inl (cy 0, 2, .inl f_7)), (aho, .inl (cy 0, 2, .inl f_9)), (ado, .inl (cy 0, 2, .inl f_11)), (ame, .inl (cy 0, 2, .inl f_13)), (ala, .inl (cy 0, 2, .inl f_15)), (aca, .inl (cy 0, 2, .inl f_17)), (awo, .inl (cy 0, 100, .inl f_41)), (aha, .inl (cy 0, 100, .inl f_42)), (ase, .inl (cy 3, 100, .inl (upd g_26 (50 + i_19) (vp_nar .boolean 0)))), (ami, .inl (cy 0, 200, .inl gmi)), (ano, .inl (cy 0, 80, .inl gno)), (ahe, .inl (cy 3, 3, .inl ghe)), (m0, .inr (12, ((((((((((fm.set 4 (.int 0)).set 2 (.int 0)).set 10 (.int 0)).set 10 (.int 1)).set 11 (.int 0)).set 12 (.int 0)).set 13 (.int 0)).set 15 (.int 0)).set 19 (.int 1)).set 20 (.int 0)))), (ak, .inl (cy 0, 403, .inl gk_2)), (ap, .inl (cy 0, 403, .inl gp_3)), (av, .inl (cy 0, 403, .inl gv_4)), (an, .inl (cy 1, 403, .inr (.inl gn_5)))] H := hP
      have hD : va_D A [(aso, .inl (cy 0, 2, .inl f_7)), (aho, .inl (cy 0, 2, .inl f_9)), (ado, .inl (cy 0, 2, .inl f_11)), (ame, .inl (cy 0, 2, .inl f_13)), (ala, .inl (cy 0, 2, .inl f_15)), (aca, .inl (cy 0, 2, .inl f_17)), (awo, .inl (cy 0, 100, .inl f_41)), (aha, .inl (cy 0, 100, .inl f_42)), (ase, .inl (cy 3, 100, .inl (upd g_26 (50 + i_19) (vp_nar .boolean 0)))), (ami, .inl (cy 0, 200, .inl gmi)), (ano, .inl (cy 0, 80, .inl gno)), (ahe, .inl (cy 3, 3, .inl ghe)), (m0, .inr (12, ((((((((((fm.set 4 (.int 0)).set 2 (.int 0)).set 10 (.int 0)).set 10 (.int 1)).set 11 (.int 0)).set 12 (.int 0)).set 13 (.int 0)).set 15 (.int 0)).set 19 (.int 1)).set 20 (.int 0)))), (ak, .inl (cy 0, 403, .inl gk_2)), (ap, .inl (cy 0, 403, .inl gp_3)), (av, .inl (cy 0, 403, .inl gv_4)), (an, .inl (cy 1, 403, .inr (.inl gn_5)))] := hD
      obtain ⟨f_43, ef_43⟩ : ∃ z, z = upd g_26 (50 + i_19) (vp_nar .boolean 0) := ⟨_, rfl⟩
      rw [← ef_43] at hP hD
      refine lv_iinc (v := nI (i_19 + 1)) (lv' := [(1, .int (nI (i_19 + 1))), (0, .ref m0)]) hx hb dX12_read_193 hl (k := 0) rfl (nI_1 i_19) (by decide) rfl (fun ls hl => ?_)
      refine lv_goto (tgt := 142) hx hb dX12_read_196 (by decide) ?_
      exact ih_21 (i_19 + 1) f_41 f_42 f_43 H locs ls (by omega) hP hD hS (lv_sub hl [0, 1] rfl)
  exact lp_22 50 0 gwo gha gse _ _ _ (by omega) hP hD hS hl

theorem in_X12_knows_X12 : ∀ w ∈ u_ws RX12 TX12 90, w ∈ wsX12_knows := fun w h => (List.mem_cons_of_mem _ (List.mem_append_right _ h))
set_option maxRecDepth 100000 in
set_option maxHeartbeats 4000000 in
/-- knows(0, 0) without men -/
theorem c_X12_knows (l : Launch) (D : va_G) (cy : Nat → ClassId) (m0 : Nat) (fm : List Value) (ane : Nat) (ame : Nat) (gne : Nat → Int32) (gme : Nat → Int32) (e_m77 : fm[77]? = some (.ref ane)) (e_m32 : fm[32]? = some (.ref ame)) (e_m18 : fm[18]? = some (.int 0)) (e_m79 : fm[79]? = some (.int 0)) (e_m80 : fm[80]? = some (.int 0)) (z_me : ∀ j : Nat, j < 2 → gme j = 0) : Ctv l D cy yX12_knows wsX12_knows ({ frames := 0, cells := 0, slots := 0, locals := 0 } : Room) [.ref m0, .int 0, .int 0] [(m0, .inr (12, fm)), (ane, .inl (cy 0, 50, .inl gne)), (ame, .inl (cy 0, 2, .inl gme))] myT (fun (w : va_W) => ∃ (gne1 : Nat → Int32), w = [(m0, .inr (12, ((fm.set 79 (.int 0)).set 80 (.int 0)))), (ane, .inl (cy 0, 50, .inl gne1)), (ame, .inl (cy 0, 2, .inl gme))]) := by
  refine ofV (cc := cX12_knows) (maxL := 8) (ret := none) (by decide) rfl (Nat.le_of_ble_eq_true rfl) ?_
  intro p e s m args below meth c A ls hx hb hr hts hown hlocks hml hin hK hP hD hS hA hX hl
  have hown : s.vm.findClass RX12 = some m.cls := hown
  have hl : lv_has ls 8 [(0, .ref m0), (1, .int 0), (2, .int 0)] := hl
  refine lv_iconst (v := 0) hx hb dX12_knows_0 (by decide) ?_
  refine lv_istore_n (lv' := [(3, .int 0), (0, .ref m0), (1, .int 0), (2, .int 0)]) hx hb dX12_knows_1 rfl hl (by decide) rfl (fun ls hl => ?_)
  have lp_4 : ∀ (n_2 i_1 : Nat) (g_6 : Nat → Int32) (H : Heap) (locs : List Loc) (ls : Array Slot), i_1 + n_2 = 50 → (∀ j : Nat, j < i_1 → g_6 j = (-1)) → va_P D vwCl [(m0, .inr (12, fm)), (ane, .inl (cy 0, 50, .inl g_6)), (ame, .inl (cy 0, 2, .inl gme))] H → va_D A [(m0, .inr (12, fm)), (ane, .inl (cy 0, 50, .inl g_6)), (ame, .inl (cy 0, 2, .inl gme))] → va_S A s.heap H locs → lv_has ls 8 [(3, .int (nI i_1)), (0, .ref m0), (1, .int 0), (2, .int 0)] → W p l e ({ frames := 0, cells := 0, slots := 0, locals := 0 } : Room) s m args below meth c H locs 0 0 (MQ below (myQv D A (fun (w : va_W) => ∃ (gne1 : Nat → Int32), w = [(m0, .inr (12, ((fm.set 79 (.int 0)).set 80 (.int 0)))), (ane, .inl (cy 0, 50, .inl gne1)), (ame, .inl (cy 0, 2, .inl gme))])) args s ({ frames := 0, cells := 0, slots := 0, locals := 0 } : Room).cells ({ frames := 0, cells := 0, slots := 0, locals := 0 } : Room).slots A) (F0 m 2 ls []) := by
    intro n_2
    induction n_2 with
    | zero =>
      intro i_1 g_6 H locs ls hi_5 hg_7 hP hD hS hl
      obtain rfl : i_1 = 50 := by omega
      refine lv_iload_n hx hb dX12_knows_2 rfl (lv_at hl 0 rfl) ?_
      refine lv_bipush (v := 50) hx hb dX12_knows_3 (by decide) ?_
      refine lv_icmp_ge (tgt := 21) hx hb dX12_knows_5 (by decide) (fun _ => ?_) (fun c9 => absurd (by decide) c9)
      refine lv_iconst (v := 0) hx hb dX12_knows_21 (by decide) ?_
      refine lv_istore_n (lv' := [(3, .int 0), (0, .ref m0), (1, .int 0), (2, .int 0)]) hx hb dX12_knows_22 rfl hl (by decide) rfl (fun ls hl => ?_)
      refine lv_iload_n hx hb dX12_knows_23 rfl (lv_at hl 0 rfl) ?_
      refine lv_iload_n hx hb dX12_knows_24 rfl (lv_at hl 2 rfl) ?_
      refine lv_icmp_ge (tgt := 60) hx hb dX12_knows_25 (by decide) (fun _ => ?_) (fun c9 => absurd (by decide) c9)
      refine lv_aload_n hx hb dX12_knows_60 rfl (lv_at hl 1 rfl) ?_
      refine lv_iconst (v := 0) hx hb dX12_knows_61 (by decide) ?_
      refine va_put (ci := 12) (v := .int 0) (ty := .int) (C := RX12) (T := TX12) (N := 90) hx hb hts in_X12_knows_X12 tyX12 tyX12_ok nmX12 hown hK hP hD hS 0 rfl rfl 79 (by decide) (hts (.fieldLink RX12 522 "HallTablesModel" "kinds" "I") (List.mem_of_getElem? (i := 2) rfl)) (fun _ h9 => h9) rfl (by decide +kernel) rfl rfl (lt_of_at e_m79) dX12_knows_62 (fun H locs hP hD hS => ?_)
      have hP : va_P D vwCl [(m0, .inr (12, (fm.set 79 (.int 0)))), (ane, .inl (cy 0, 50, .inl g_6)), (ame, .inl (cy 0, 2, .inl gme))] H := hP
      have hD : va_D A [(m0, .inr (12, (fm.set 79 (.int 0)))), (ane, .inl (cy 0, 50, .inl g_6)), (ame, .inl (cy 0, 2, .inl gme))] := hD
      refine lv_aload_n hx hb dX12_knows_65 rfl (lv_at hl 1 rfl) ?_
      refine lv_iconst (v := 0) hx hb dX12_knows_66 (by decide) ?_
      refine va_put (ci := 12) (v := .int 0) (ty := .int) (C := RX12) (T := TX12) (N := 90) hx hb hts in_X12_knows_X12 tyX12 tyX12_ok nmX12 hown hK hP hD hS 0 rfl rfl 80 (by decide) (hts (.fieldLink RX12 525 "HallTablesModel" "needAll" "I") (List.mem_of_getElem? (i := 3) rfl)) (fun _ h9 => h9) rfl (by decide +kernel) rfl rfl (lt_of_at (setk e_m80 (by decide))) dX12_knows_67 (fun H locs hP hD hS => ?_)
      have hP : va_P D vwCl [(m0, .inr (12, ((fm.set 79 (.int 0)).set 80 (.int 0)))), (ane, .inl (cy 0, 50, .inl g_6)), (ame, .inl (cy 0, 2, .inl gme))] H := hP
      have hD : va_D A [(m0, .inr (12, ((fm.set 79 (.int 0)).set 80 (.int 0)))), (ane, .inl (cy 0, 50, .inl g_6)), (ame, .inl (cy 0, 2, .inl gme))] := hD
      refine lv_iconst (v := 0) hx hb dX12_knows_70 (by decide) ?_
      refine lv_istore_n (lv' := [(3, .int 0), (0, .ref m0), (1, .int 0), (2, .int 0)]) hx hb dX12_knows_71 rfl hl (by decide) rfl (fun ls hl => ?_)
      have lp_11 : ∀ (n_9 i_8 : Nat) (H : Heap) (locs : List Loc) (ls : Array Slot), i_8 + n_9 = 50 → va_P D vwCl [(m0, .inr (12, ((fm.set 79 (.int 0)).set 80 (.int 0)))), (ane, .inl (cy 0, 50, .inl g_6)), (ame, .inl (cy 0, 2, .inl gme))] H → va_D A [(m0, .inr (12, ((fm.set 79 (.int 0)).set 80 (.int 0)))), (ane, .inl (cy 0, 50, .inl g_6)), (ame, .inl (cy 0, 2, .inl gme))] → va_S A s.heap H locs → lv_has ls 8 [(3, .int (nI i_8)), (0, .ref m0), (1, .int 0), (2, .int 0)] → W p l e ({ frames := 0, cells := 0, slots := 0, locals := 0 } : Room) s m args below meth c H locs 0 0 (MQ below (myQv D A (fun (w : va_W) => ∃ (gne1 : Nat → Int32), w = [(m0, .inr (12, ((fm.set 79 (.int 0)).set 80 (.int 0)))), (ane, .inl (cy 0, 50, .inl gne1)), (ame, .inl (cy 0, 2, .inl gme))])) args s ({ frames := 0, cells := 0, slots := 0, locals := 0 } : Room).cells ({ frames := 0, cells := 0, slots := 0, locals := 0 } : Room).slots A) (F0 m 72 ls []) := by
        intro n_9
        induction n_9 with
        | zero =>
          intro i_8 H locs ls hi_12 hP hD hS hl
          obtain rfl : i_8 = 50 := by omega
          refine lv_iload_n hx hb dX12_knows_72 rfl (lv_at hl 0 rfl) ?_
          refine lv_bipush (v := 50) hx hb dX12_knows_73 (by decide) ?_
          refine lv_icmp_ge (tgt := 141) hx hb dX12_knows_75 (by decide) (fun _ => ?_) (fun c9 => absurd (by decide) c9)
          refine lv_iconst (v := 0) hx hb dX12_knows_141 (by decide) ?_
          refine lv_istore_n (lv' := [(3, .int 0), (0, .ref m0), (1, .int 0), (2, .int 0)]) hx hb dX12_knows_142 rfl hl (by decide) rfl (fun ls hl => ?_)
          refine lv_iload_n hx hb dX12_knows_143 rfl (lv_at hl 0 rfl) ?_
          refine lv_aload_n hx hb dX12_knows_144 rfl (lv_at hl 1 rfl) ?_
          refine va_get (ci := 12) (v := .ref ame) (C := RX12) (T := TX12) (N := 90) hx hb hts in_X12_knows_X12 hown hK hP 0 rfl rfl 32 (by decide) (hts (.fieldLink RX12 74 "HallTablesModel" "men" "[I") (List.mem_of_getElem? (i := 4) rfl)) (fun _ h9 => h9) (setk (setk e_m32 (by decide)) (by decide)) dX12_knows_145 ?_
          refine lv_aload_n hx hb dX12_knows_148 rfl (lv_at hl 1 rfl) ?_
          refine va_get (ci := 12) (v := .int 0) (C := RX12) (T := TX12) (N := 90) hx hb hts in_X12_knows_X12 hown hK hP 0 rfl rfl 18 (by decide) (hts (.fieldLink RX12 266 "HallTablesModel" "live" "I") (List.mem_of_getElem? (i := 5) rfl)) (fun _ h9 => h9) (setk (setk e_m18 (by decide)) (by decide)) dX12_knows_149 ?_
          refine aI hx hb hK hP 2 rfl 0 rfl (Nat.le_of_ble_eq_true rfl) (Nat.le_of_ble_eq_true rfl) dX12_knows_152 ?_
          refine tpI (v := 0) (z_me 0 (Nat.le_of_ble_eq_true rfl)) ?_
          refine lv_icmp_ge (tgt := 357) hx hb dX12_knows_153 (by decide) (fun _ => ?_) (fun c9 => absurd (by decide) c9)
          exact endV hx hb hr hlocks [(m0, .inr (12, ((fm.set 79 (.int 0)).set 80 (.int 0)))), (ane, .inl (cy 0, 50, .inl g_6)), (ame, .inl (cy 0, 2, .inl gme))] ⟨g_6, rfl⟩ hP hD hS (Nat.le_of_ble_eq_true rfl) (Nat.le_of_ble_eq_true rfl) dX12_knows_357
        | succ n_9 ih_10 =>
          intro i_8 H locs ls hi_12 hP hD hS hl
          refine lv_iload_n hx hb dX12_knows_72 rfl (lv_at hl 0 rfl) ?_
          refine lv_bipush (v := 50) hx hb dX12_knows_73 (by decide) ?_
          refine lv_icmp_ge (tgt := 141) hx hb dX12_knows_75 (by decide) (fun c9 => absurd c9 (nI_ge (a := i_8) (b := 50) (by omega) (Nat.le_of_ble_eq_true rfl))) (fun _ => ?_)
          refine lv_aload_n hx hb dX12_knows_78 rfl (lv_at hl 1 rfl) ?_
          refine va_get (ci := 12) (v := .ref ane) (C := RX12) (T := TX12) (N := 90) hx hb hts in_X12_knows_X12 hown hK hP 0 rfl rfl 77 (by decide) (hts (.fieldLink RX12 164 "HallTablesModel" "need" "[I") (List.mem_of_getElem? (i := 1) rfl)) (fun _ h9 => h9) (setk (setk e_m77 (by decide)) (by decide)) dX12_knows_79 ?_
          refine lv_iload_n hx hb dX12_knows_82 rfl (lv_at hl 0 rfl) ?_
          refine aI hx hb hK hP 1 rfl i_8 rfl (by omega) (Nat.le_of_ble_eq_true rfl) dX12_knows_83 ?_
          refine tpI (v := (-1)) (hg_7 i_8 (by omega)) ?_
          refine lv_iconst (v := 1) hx hb dX12_knows_84 (by decide) ?_
          refine lv_icmp_ge (tgt := 91) hx hb dX12_knows_85 (by decide) (fun c9 => absurd c9 (by decide)) (fun _ => ?_)
          refine lv_goto (tgt := 135) hx hb dX12_knows_88 (by decide) ?_
          refine lv_iinc (v := nI (i_8 + 1)) (lv' := [(3, .int (nI (i_8 + 1))), (0, .ref m0), (1, .int 0), (2, .int 0)]) hx hb dX12_knows_135 hl (k := 0) rfl (nI_1 i_8) (by decide) rfl (fun ls hl => ?_)
          refine lv_goto (tgt := 72) hx hb dX12_knows_138 (by decide) ?_
          exact ih_10 (i_8 + 1) H locs ls (by omega) hP hD hS (lv_sub hl [0, 1, 2, 3] rfl)
      exact lp_11 50 0 _ _ _ (by omega) hP hD hS hl
    | succ n_2 ih_3 =>
      intro i_1 g_6 H locs ls hi_5 hg_7 hP hD hS hl
      refine lv_iload_n hx hb dX12_knows_2 rfl (lv_at hl 0 rfl) ?_
      refine lv_bipush (v := 50) hx hb dX12_knows_3 (by decide) ?_
      refine lv_icmp_ge (tgt := 21) hx hb dX12_knows_5 (by decide) (fun c9 => absurd c9 (nI_ge (a := i_1) (b := 50) (by omega) (Nat.le_of_ble_eq_true rfl))) (fun _ => ?_)
      refine lv_aload_n hx hb dX12_knows_8 rfl (lv_at hl 1 rfl) ?_
      refine va_get (ci := 12) (v := .ref ane) (C := RX12) (T := TX12) (N := 90) hx hb hts in_X12_knows_X12 hown hK hP 0 rfl rfl 77 (by decide) (hts (.fieldLink RX12 164 "HallTablesModel" "need" "[I") (List.mem_of_getElem? (i := 1) rfl)) (fun _ h9 => h9) e_m77 dX12_knows_9 ?_
      refine lv_iload_n hx hb dX12_knows_12 rfl (lv_at hl 0 rfl) ?_
      refine lv_iconst (v := (-1)) hx hb dX12_knows_13 (by decide) ?_
      refine sI hx hb hK hP hD hS 1 rfl i_1 rfl (by omega) (Nat.le_of_ble_eq_true rfl) dX12_knows_14 (fun H locs hP hD hS => ?_)
      have hP : va_P D vwCl [(m0, .inr (12, fm)), (ane, .inl (cy 0, 50, .inl (upd g_6 i_1 (-1)))), (ame, .inl (cy 0, 2, .inl gme))] H := hP
      have hD : va_D A [(m0, .inr (12, fm)), (ane, .inl (cy 0, 50, .inl (upd g_6 i_1 (-1)))), (ame, .inl (cy 0, 2, .inl gme))] := hD
      have hg_13 := fillstep (v := (-1)) hg_7
      refine lv_iinc (v := nI (i_1 + 1)) (lv' := [(3, .int (nI (i_1 + 1))), (0, .ref m0), (1, .int 0), (2, .int 0)]) hx hb dX12_knows_15 hl (k := 0) rfl (nI_1 i_1) (by decide) rfl (fun ls hl => ?_)
      refine lv_goto (tgt := 2) hx hb dX12_knows_18 (by decide) ?_
      exact ih_3 (i_1 + 1) (upd g_6 i_1 (-1)) H locs ls (by omega) hg_13 hP hD hS (lv_sub hl [0, 1, 2, 3] rfl)
  exact lp_4 50 0 gne _ _ _ (by omega) (fun j h => absurd h (Nat.not_lt_zero j)) hP hD hS hl

theorem in_X12_isAllMet_X12 : ∀ w ∈ u_ws RX12 TX12 90, w ∈ wsX12_isAllMet := fun w h => (List.mem_cons_of_mem _ (List.mem_append_right _ h))
set_option maxRecDepth 100000 in
set_option maxHeartbeats 4000000 in
/-- isAllMet without men and kinds: 1 -/
theorem c_X12_isAllMet (l : Launch) (D : va_G) (cy : Nat → ClassId) (m0 : Nat) (fm : List Value) (amt : Nat) (ame : Nat) (gmt : Nat → Int32) (gme : Nat → Int32) (e_m87 : fm[87]? = some (.ref amt)) (e_m32 : fm[32]? = some (.ref ame)) (e_m18 : fm[18]? = some (.int 0)) (e_m79 : fm[79]? = some (.int 0)) (z_me : ∀ j : Nat, j < 2 → gme j = 0) : Cti l D cy yX12_isAllMet wsX12_isAllMet ({ frames := 0, cells := 0, slots := 0, locals := 0 } : Room) [.ref m0] [(m0, .inr (12, fm)), (amt, .inl (cy 0, 8, .inl gmt)), (ame, .inl (cy 0, 2, .inl gme))] myT (fun (r : Int32) (w : va_W) => ∃ (gmt1 : Nat → Int32), r = 1 ∧ w = [(m0, .inr (12, fm)), (amt, .inl (cy 0, 8, .inl gmt1)), (ame, .inl (cy 0, 2, .inl gme))]) := by
  refine ofI (cc := cX12_isAllMet) (maxL := 2) (ret := (some .boolean)) (by decide) rfl (Nat.le_of_ble_eq_true rfl) ?_
  intro p e s m args below meth c A ls hx hb hr hts hown hlocks hml hin hK hP hD hS hA hX hl
  have hown : s.vm.findClass RX12 = some m.cls := hown
  have hl : lv_has ls 2 [(0, .ref m0)] := hl
  refine lv_iconst (v := 0) hx hb dX12_isAllMet_0 (by decide) ?_
  refine lv_istore_n (lv' := [(1, .int 0), (0, .ref m0)]) hx hb dX12_isAllMet_1 rfl hl (by decide) rfl (fun ls hl => ?_)
  refine lv_iload_n hx hb dX12_isAllMet_2 rfl (lv_at hl 0 rfl) ?_
  refine lv_bipush (v := 8) hx hb dX12_isAllMet_3 (by decide) ?_
  refine lv_icmp_ge (tgt := 21) hx hb dX12_isAllMet_5 (by decide) (fun c9 => absurd c9 (by decide)) (fun _ => ?_)
  refine lv_aload_n hx hb dX12_isAllMet_8 rfl (lv_at hl 1 rfl) ?_
  refine va_get (ci := 12) (v := .ref amt) (C := RX12) (T := TX12) (N := 90) hx hb hts in_X12_isAllMet_X12 hown hK hP 0 rfl rfl 87 (by decide) (hts (.fieldLink RX12 185 "HallTablesModel" "met" "[I") (List.mem_of_getElem? (i := 1) rfl)) (fun _ h9 => h9) e_m87 dX12_isAllMet_9 ?_
  refine lv_iload_n hx hb dX12_isAllMet_12 rfl (lv_at hl 0 rfl) ?_
  refine lv_iconst (v := 0) hx hb dX12_isAllMet_13 (by decide) ?_
  refine sI hx hb hK hP hD hS 1 rfl 0 rfl (Nat.le_of_ble_eq_true rfl) (Nat.le_of_ble_eq_true rfl) dX12_isAllMet_14 (fun H locs hP hD hS => ?_)
  have hP : va_P D vwCl [(m0, .inr (12, fm)), (amt, .inl (cy 0, 8, .inl (upd gmt 0 0))), (ame, .inl (cy 0, 2, .inl gme))] H := hP
  have hD : va_D A [(m0, .inr (12, fm)), (amt, .inl (cy 0, 8, .inl (upd gmt 0 0))), (ame, .inl (cy 0, 2, .inl gme))] := hD
  obtain ⟨f_1, ef_1⟩ : ∃ z, z = upd gmt 0 0 := ⟨_, rfl⟩
  rw [← ef_1] at hP hD
  refine lv_iinc (v := 1) (lv' := [(1, .int 1), (0, .ref m0)]) hx hb dX12_isAllMet_15 hl (k := 0) rfl (by decide) (by decide) rfl (fun ls hl => ?_)
  refine lv_goto (tgt := 2) hx hb dX12_isAllMet_18 (by decide) ?_
  refine lv_iload_n hx hb dX12_isAllMet_2 rfl (lv_at hl 0 rfl) ?_
  refine lv_bipush (v := 8) hx hb dX12_isAllMet_3 (by decide) ?_
  refine lv_icmp_ge (tgt := 21) hx hb dX12_isAllMet_5 (by decide) (fun c9 => absurd c9 (by decide)) (fun _ => ?_)
  refine lv_aload_n hx hb dX12_isAllMet_8 rfl (lv_at hl 1 rfl) ?_
  refine va_get (ci := 12) (v := .ref amt) (C := RX12) (T := TX12) (N := 90) hx hb hts in_X12_isAllMet_X12 hown hK hP 0 rfl rfl 87 (by decide) (hts (.fieldLink RX12 185 "HallTablesModel" "met" "[I") (List.mem_of_getElem? (i := 1) rfl)) (fun _ h9 => h9) e_m87 dX12_isAllMet_9 ?_
  refine lv_iload_n hx hb dX12_isAllMet_12 rfl (lv_at hl 0 rfl) ?_
  refine lv_iconst (v := 0) hx hb dX12_isAllMet_13 (by decide) ?_
  refine sI hx hb hK hP hD hS 1 rfl 1 rfl (Nat.le_of_ble_eq_true rfl) (Nat.le_of_ble_eq_true rfl) dX12_isAllMet_14 (fun H locs hP hD hS => ?_)
  have hP : va_P D vwCl [(m0, .inr (12, fm)), (amt, .inl (cy 0, 8, .inl (upd f_1 1 0))), (ame, .inl (cy 0, 2, .inl gme))] H := hP
  have hD : va_D A [(m0, .inr (12, fm)), (amt, .inl (cy 0, 8, .inl (upd f_1 1 0))), (ame, .inl (cy 0, 2, .inl gme))] := hD
  obtain ⟨f_2, ef_2⟩ : ∃ z, z = upd f_1 1 0 := ⟨_, rfl⟩
  rw [← ef_2] at hP hD
  refine lv_iinc (v := 2) (lv' := [(1, .int 2), (0, .ref m0)]) hx hb dX12_isAllMet_15 hl (k := 0) rfl (by decide) (by decide) rfl (fun ls hl => ?_)
  refine lv_goto (tgt := 2) hx hb dX12_isAllMet_18 (by decide) ?_
  refine lv_iload_n hx hb dX12_isAllMet_2 rfl (lv_at hl 0 rfl) ?_
  refine lv_bipush (v := 8) hx hb dX12_isAllMet_3 (by decide) ?_
  refine lv_icmp_ge (tgt := 21) hx hb dX12_isAllMet_5 (by decide) (fun c9 => absurd c9 (by decide)) (fun _ => ?_)
  refine lv_aload_n hx hb dX12_isAllMet_8 rfl (lv_at hl 1 rfl) ?_
  refine va_get (ci := 12) (v := .ref amt) (C := RX12) (T := TX12) (N := 90) hx hb hts in_X12_isAllMet_X12 hown hK hP 0 rfl rfl 87 (by decide) (hts (.fieldLink RX12 185 "HallTablesModel" "met" "[I") (List.mem_of_getElem? (i := 1) rfl)) (fun _ h9 => h9) e_m87 dX12_isAllMet_9 ?_
  refine lv_iload_n hx hb dX12_isAllMet_12 rfl (lv_at hl 0 rfl) ?_
  refine lv_iconst (v := 0) hx hb dX12_isAllMet_13 (by decide) ?_
  refine sI hx hb hK hP hD hS 1 rfl 2 rfl (Nat.le_of_ble_eq_true rfl) (Nat.le_of_ble_eq_true rfl) dX12_isAllMet_14 (fun H locs hP hD hS => ?_)
  have hP : va_P D vwCl [(m0, .inr (12, fm)), (amt, .inl (cy 0, 8, .inl (upd f_2 2 0))), (ame, .inl (cy 0, 2, .inl gme))] H := hP
  have hD : va_D A [(m0, .inr (12, fm)), (amt, .inl (cy 0, 8, .inl (upd f_2 2 0))), (ame, .inl (cy 0, 2, .inl gme))] := hD
  obtain ⟨f_3, ef_3⟩ : ∃ z, z = upd f_2 2 0 := ⟨_, rfl⟩
  rw [← ef_3] at hP hD
  refine lv_iinc (v := 3) (lv' := [(1, .int 3), (0, .ref m0)]) hx hb dX12_isAllMet_15 hl (k := 0) rfl (by decide) (by decide) rfl (fun ls hl => ?_)
  refine lv_goto (tgt := 2) hx hb dX12_isAllMet_18 (by decide) ?_
  refine lv_iload_n hx hb dX12_isAllMet_2 rfl (lv_at hl 0 rfl) ?_
  refine lv_bipush (v := 8) hx hb dX12_isAllMet_3 (by decide) ?_
  refine lv_icmp_ge (tgt := 21) hx hb dX12_isAllMet_5 (by decide) (fun c9 => absurd c9 (by decide)) (fun _ => ?_)
  refine lv_aload_n hx hb dX12_isAllMet_8 rfl (lv_at hl 1 rfl) ?_
  refine va_get (ci := 12) (v := .ref amt) (C := RX12) (T := TX12) (N := 90) hx hb hts in_X12_isAllMet_X12 hown hK hP 0 rfl rfl 87 (by decide) (hts (.fieldLink RX12 185 "HallTablesModel" "met" "[I") (List.mem_of_getElem? (i := 1) rfl)) (fun _ h9 => h9) e_m87 dX12_isAllMet_9 ?_
  refine lv_iload_n hx hb dX12_isAllMet_12 rfl (lv_at hl 0 rfl) ?_
  refine lv_iconst (v := 0) hx hb dX12_isAllMet_13 (by decide) ?_
  refine sI hx hb hK hP hD hS 1 rfl 3 rfl (Nat.le_of_ble_eq_true rfl) (Nat.le_of_ble_eq_true rfl) dX12_isAllMet_14 (fun H locs hP hD hS => ?_)
  have hP : va_P D vwCl [(m0, .inr (12, fm)), (amt, .inl (cy 0, 8, .inl (upd f_3 3 0))), (ame, .inl (cy 0, 2, .inl gme))] H := hP
  have hD : va_D A [(m0, .inr (12, fm)), (amt, .inl (cy 0, 8, .inl (upd f_3 3 0))), (ame, .inl (cy 0, 2, .inl gme))] := hD
  obtain ⟨f_4, ef_4⟩ : ∃ z, z = upd f_3 3 0 := ⟨_, rfl⟩
  rw [← ef_4] at hP hD
  refine lv_iinc (v := 4) (lv' := [(1, .int 4), (0, .ref m0)]) hx hb dX12_isAllMet_15 hl (k := 0) rfl (by decide) (by decide) rfl (fun ls hl => ?_)
  refine lv_goto (tgt := 2) hx hb dX12_isAllMet_18 (by decide) ?_
  refine lv_iload_n hx hb dX12_isAllMet_2 rfl (lv_at hl 0 rfl) ?_
  refine lv_bipush (v := 8) hx hb dX12_isAllMet_3 (by decide) ?_
  refine lv_icmp_ge (tgt := 21) hx hb dX12_isAllMet_5 (by decide) (fun c9 => absurd c9 (by decide)) (fun _ => ?_)
  refine lv_aload_n hx hb dX12_isAllMet_8 rfl (lv_at hl 1 rfl) ?_
  refine va_get (ci := 12) (v := .ref amt) (C := RX12) (T := TX12) (N := 90) hx hb hts in_X12_isAllMet_X12 hown hK hP 0 rfl rfl 87 (by decide) (hts (.fieldLink RX12 185 "HallTablesModel" "met" "[I") (List.mem_of_getElem? (i := 1) rfl)) (fun _ h9 => h9) e_m87 dX12_isAllMet_9 ?_
  refine lv_iload_n hx hb dX12_isAllMet_12 rfl (lv_at hl 0 rfl) ?_
  refine lv_iconst (v := 0) hx hb dX12_isAllMet_13 (by decide) ?_
  refine sI hx hb hK hP hD hS 1 rfl 4 rfl (Nat.le_of_ble_eq_true rfl) (Nat.le_of_ble_eq_true rfl) dX12_isAllMet_14 (fun H locs hP hD hS => ?_)
  have hP : va_P D vwCl [(m0, .inr (12, fm)), (amt, .inl (cy 0, 8, .inl (upd f_4 4 0))), (ame, .inl (cy 0, 2, .inl gme))] H := hP
  have hD : va_D A [(m0, .inr (12, fm)), (amt, .inl (cy 0, 8, .inl (upd f_4 4 0))), (ame, .inl (cy 0, 2, .inl gme))] := hD
  obtain ⟨f_5, ef_5⟩ : ∃ z, z = upd f_4 4 0 := ⟨_, rfl⟩
  rw [← ef_5] at hP hD
  refine lv_iinc (v := 5) (lv' := [(1, .int 5), (0, .ref m0)]) hx hb dX12_isAllMet_15 hl (k := 0) rfl (by decide) (by decide) rfl (fun ls hl => ?_)
  refine lv_goto (tgt := 2) hx hb dX12_isAllMet_18 (by decide) ?_
  refine lv_iload_n hx hb dX12_isAllMet_2 rfl (lv_at hl 0 rfl) ?_
  refine lv_bipush (v := 8) hx hb dX12_isAllMet_3 (by decide) ?_
  refine lv_icmp_ge (tgt := 21) hx hb dX12_isAllMet_5 (by decide) (fun c9 => absurd c9 (by decide)) (fun _ => ?_)
  refine lv_aload_n hx hb dX12_isAllMet_8 rfl (lv_at hl 1 rfl) ?_
  refine va_get (ci := 12) (v := .ref amt) (C := RX12) (T := TX12) (N := 90) hx hb hts in_X12_isAllMet_X12 hown hK hP 0 rfl rfl 87 (by decide) (hts (.fieldLink RX12 185 "HallTablesModel" "met" "[I") (List.mem_of_getElem? (i := 1) rfl)) (fun _ h9 => h9) e_m87 dX12_isAllMet_9 ?_
  refine lv_iload_n hx hb dX12_isAllMet_12 rfl (lv_at hl 0 rfl) ?_
  refine lv_iconst (v := 0) hx hb dX12_isAllMet_13 (by decide) ?_
  refine sI hx hb hK hP hD hS 1 rfl 5 rfl (Nat.le_of_ble_eq_true rfl) (Nat.le_of_ble_eq_true rfl) dX12_isAllMet_14 (fun H locs hP hD hS => ?_)
  have hP : va_P D vwCl [(m0, .inr (12, fm)), (amt, .inl (cy 0, 8, .inl (upd f_5 5 0))), (ame, .inl (cy 0, 2, .inl gme))] H := hP
  have hD : va_D A [(m0, .inr (12, fm)), (amt, .inl (cy 0, 8, .inl (upd f_5 5 0))), (ame, .inl (cy 0, 2, .inl gme))] := hD
  obtain ⟨f_6, ef_6⟩ : ∃ z, z = upd f_5 5 0 := ⟨_, rfl⟩
  rw [← ef_6] at hP hD
  refine lv_iinc (v := 6) (lv' := [(1, .int 6), (0, .ref m0)]) hx hb dX12_isAllMet_15 hl (k := 0) rfl (by decide) (by decide) rfl (fun ls hl => ?_)
  refine lv_goto (tgt := 2) hx hb dX12_isAllMet_18 (by decide) ?_
  refine lv_iload_n hx hb dX12_isAllMet_2 rfl (lv_at hl 0 rfl) ?_
  refine lv_bipush (v := 8) hx hb dX12_isAllMet_3 (by decide) ?_
  refine lv_icmp_ge (tgt := 21) hx hb dX12_isAllMet_5 (by decide) (fun c9 => absurd c9 (by decide)) (fun _ => ?_)
  refine lv_aload_n hx hb dX12_isAllMet_8 rfl (lv_at hl 1 rfl) ?_
  refine va_get (ci := 12) (v := .ref amt) (C := RX12) (T := TX12) (N := 90) hx hb hts in_X12_isAllMet_X12 hown hK hP 0 rfl rfl 87 (by decide) (hts (.fieldLink RX12 185 "HallTablesModel" "met" "[I") (List.mem_of_getElem? (i := 1) rfl)) (fun _ h9 => h9) e_m87 dX12_isAllMet_9 ?_
  refine lv_iload_n hx hb dX12_isAllMet_12 rfl (lv_at hl 0 rfl) ?_
  refine lv_iconst (v := 0) hx hb dX12_isAllMet_13 (by decide) ?_
  refine sI hx hb hK hP hD hS 1 rfl 6 rfl (Nat.le_of_ble_eq_true rfl) (Nat.le_of_ble_eq_true rfl) dX12_isAllMet_14 (fun H locs hP hD hS => ?_)
  have hP : va_P D vwCl [(m0, .inr (12, fm)), (amt, .inl (cy 0, 8, .inl (upd f_6 6 0))), (ame, .inl (cy 0, 2, .inl gme))] H := hP
  have hD : va_D A [(m0, .inr (12, fm)), (amt, .inl (cy 0, 8, .inl (upd f_6 6 0))), (ame, .inl (cy 0, 2, .inl gme))] := hD
  obtain ⟨f_7, ef_7⟩ : ∃ z, z = upd f_6 6 0 := ⟨_, rfl⟩
  rw [← ef_7] at hP hD
  refine lv_iinc (v := 7) (lv' := [(1, .int 7), (0, .ref m0)]) hx hb dX12_isAllMet_15 hl (k := 0) rfl (by decide) (by decide) rfl (fun ls hl => ?_)
  refine lv_goto (tgt := 2) hx hb dX12_isAllMet_18 (by decide) ?_
  refine lv_iload_n hx hb dX12_isAllMet_2 rfl (lv_at hl 0 rfl) ?_
  refine lv_bipush (v := 8) hx hb dX12_isAllMet_3 (by decide) ?_
  refine lv_icmp_ge (tgt := 21) hx hb dX12_isAllMet_5 (by decide) (fun c9 => absurd c9 (by decide)) (fun _ => ?_)
  refine lv_aload_n hx hb dX12_isAllMet_8 rfl (lv_at hl 1 rfl) ?_
  refine va_get (ci := 12) (v := .ref amt) (C := RX12) (T := TX12) (N := 90) hx hb hts in_X12_isAllMet_X12 hown hK hP 0 rfl rfl 87 (by decide) (hts (.fieldLink RX12 185 "HallTablesModel" "met" "[I") (List.mem_of_getElem? (i := 1) rfl)) (fun _ h9 => h9) e_m87 dX12_isAllMet_9 ?_
  refine lv_iload_n hx hb dX12_isAllMet_12 rfl (lv_at hl 0 rfl) ?_
  refine lv_iconst (v := 0) hx hb dX12_isAllMet_13 (by decide) ?_
  refine sI hx hb hK hP hD hS 1 rfl 7 rfl (Nat.le_of_ble_eq_true rfl) (Nat.le_of_ble_eq_true rfl) dX12_isAllMet_14 (fun H locs hP hD hS => ?_)
  have hP : va_P D vwCl [(m0, .inr (12, fm)), (amt, .inl (cy 0, 8, .inl (upd f_7 7 0))), (ame, .inl (cy 0, 2, .inl gme))] H := hP
  have hD : va_D A [(m0, .inr (12, fm)), (amt, .inl (cy 0, 8, .inl (upd f_7 7 0))), (ame, .inl (cy 0, 2, .inl gme))] := hD
  obtain ⟨f_8, ef_8⟩ : ∃ z, z = upd f_7 7 0 := ⟨_, rfl⟩
  rw [← ef_8] at hP hD
  refine lv_iinc (v := 8) (lv' := [(1, .int 8), (0, .ref m0)]) hx hb dX12_isAllMet_15 hl (k := 0) rfl (by decide) (by decide) rfl (fun ls hl => ?_)
  refine lv_goto (tgt := 2) hx hb dX12_isAllMet_18 (by decide) ?_
  refine lv_iload_n hx hb dX12_isAllMet_2 rfl (lv_at hl 0 rfl) ?_
  refine lv_bipush (v := 8) hx hb dX12_isAllMet_3 (by decide) ?_
  refine lv_icmp_ge (tgt := 21) hx hb dX12_isAllMet_5 (by decide) (fun _ => ?_) (fun c9 => absurd (by decide) c9)
  refine lv_iconst (v := 0) hx hb dX12_isAllMet_21 (by decide) ?_
  refine lv_istore_n (lv' := [(1, .int 0), (0, .ref m0)]) hx hb dX12_isAllMet_22 rfl hl (by decide) rfl (fun ls hl => ?_)
  refine lv_iload_n hx hb dX12_isAllMet_23 rfl (lv_at hl 0 rfl) ?_
  refine lv_aload_n hx hb dX12_isAllMet_24 rfl (lv_at hl 1 rfl) ?_
  refine va_get (ci := 12) (v := .ref ame) (C := RX12) (T := TX12) (N := 90) hx hb hts in_X12_isAllMet_X12 hown hK hP 0 rfl rfl 32 (by decide) (hts (.fieldLink RX12 74 "HallTablesModel" "men" "[I") (List.mem_of_getElem? (i := 2) rfl)) (fun _ h9 => h9) e_m32 dX12_isAllMet_25 ?_
  refine lv_aload_n hx hb dX12_isAllMet_28 rfl (lv_at hl 1 rfl) ?_
  refine va_get (ci := 12) (v := .int 0) (C := RX12) (T := TX12) (N := 90) hx hb hts in_X12_isAllMet_X12 hown hK hP 0 rfl rfl 18 (by decide) (hts (.fieldLink RX12 266 "HallTablesModel" "live" "I") (List.mem_of_getElem? (i := 3) rfl)) (fun _ h9 => h9) e_m18 dX12_isAllMet_29 ?_
  refine aI hx hb hK hP 2 rfl 0 rfl (Nat.le_of_ble_eq_true rfl) (Nat.le_of_ble_eq_true rfl) dX12_isAllMet_32 ?_
  refine tpI (v := 0) (z_me 0 (Nat.le_of_ble_eq_true rfl)) ?_
  refine lv_icmp_ge (tgt := 94) hx hb dX12_isAllMet_33 (by decide) (fun _ => ?_) (fun c9 => absurd (by decide) c9)
  refine lv_iconst (v := 0) hx hb dX12_isAllMet_94 (by decide) ?_
  refine lv_istore_n (lv' := [(1, .int 0), (0, .ref m0)]) hx hb dX12_isAllMet_95 rfl hl (by decide) rfl (fun ls hl => ?_)
  refine lv_iload_n hx hb dX12_isAllMet_96 rfl (lv_at hl 0 rfl) ?_
  refine lv_aload_n hx hb dX12_isAllMet_97 rfl (lv_at hl 1 rfl) ?_
  refine va_get (ci := 12) (v := .int 0) (C := RX12) (T := TX12) (N := 90) hx hb hts in_X12_isAllMet_X12 hown hK hP 0 rfl rfl 79 (by decide) (hts (.fieldLink RX12 522 "HallTablesModel" "kinds" "I") (List.mem_of_getElem? (i := 4) rfl)) (fun _ h9 => h9) e_m79 dX12_isAllMet_98 ?_
  refine lv_icmp_ge (tgt := 132) hx hb dX12_isAllMet_101 (by decide) (fun _ => ?_) (fun c9 => absurd (by decide) c9)
  refine lv_iconst (v := 1) hx hb dX12_isAllMet_132 (by decide) ?_
  exact endI hx hb hr hlocks [(m0, .inr (12, fm)), (amt, .inl (cy 0, 8, .inl f_8)), (ame, .inl (cy 0, 2, .inl gme))] rfl ⟨f_8, rfl, rfl⟩ hP hD hS (Nat.le_of_ble_eq_true rfl) (Nat.le_of_ble_eq_true rfl) dX12_isAllMet_133

theorem in_X12_adds_X12 : ∀ w ∈ u_ws RX12 TX12 90, w ∈ wsX12_adds := fun w h => (List.mem_cons_of_mem _ (List.mem_append_right _ h))
set_option maxRecDepth 100000 in
set_option maxHeartbeats 4000000 in
/-- adds without men: one more -/
theorem c_X12_adds (l : Launch) (D : va_G) (cy : Nat → ClassId) (m0 : Nat) (fm : List Value) (ame : Nat) (gme : Nat → Int32) (e_m32 : fm[32]? = some (.ref ame)) (e_m18 : fm[18]? = some (.int 0)) (e_m85 : fm[85]? = some (.long 0)) (z_me : ∀ j : Nat, j < 2 → gme j = 0) : Ctv l D cy yX12_adds wsX12_adds ({ frames := 0, cells := 0, slots := 0, locals := 0 } : Room) [.ref m0, .int 0] [(m0, .inr (12, fm)), (ame, .inl (cy 0, 2, .inl gme))] myT (fun (w : va_W) => w = [(m0, .inr (12, (fm.set 85 (.long 1)))), (ame, .inl (cy 0, 2, .inl gme))]) := by
  refine ofV (cc := cX12_adds) (maxL := 5) (ret := none) (by decide) rfl (Nat.le_of_ble_eq_true rfl) ?_
  intro p e s m args below meth c A ls hx hb hr hts hown hlocks hml hin hK hP hD hS hA hX hl
  have hown : s.vm.findClass RX12 = some m.cls := hown
  have hl : lv_has ls 5 [(0, .ref m0), (1, .int 0)] := hl
  refine lv_lconst (v := 1) hx hb dX12_adds_0 (by decide) ?_
  refine lv_lstore_n (lv' := [(2, .long 1), (0, .ref m0), (1, .int 0)]) hx hb dX12_adds_1 rfl hl (by decide) rfl (fun ls hl => ?_)
  refine lv_iconst (v := 0) hx hb dX12_adds_2 (by decide) ?_
  refine lv_istore (lv' := [(4, .int 0), (2, .long 1), (0, .ref m0), (1, .int 0)]) hx hb dX12_adds_3 hl (by decide) rfl (fun ls hl => ?_)
  refine lv_iload hx hb dX12_adds_5 (lv_at hl 0 rfl) ?_
  refine lv_aload_n hx hb dX12_adds_7 rfl (lv_at hl 2 rfl) ?_
  refine va_get (ci := 12) (v := .ref ame) (C := RX12) (T := TX12) (N := 90) hx hb hts in_X12_adds_X12 hown hK hP 0 rfl rfl 32 (by decide) (hts (.fieldLink RX12 74 "HallTablesModel" "men" "[I") (List.mem_of_getElem? (i := 1) rfl)) (fun _ h9 => h9) e_m32 dX12_adds_8 ?_
  refine lv_aload_n hx hb dX12_adds_11 rfl (lv_at hl 2 rfl) ?_
  refine va_get (ci := 12) (v := .int 0) (C := RX12) (T := TX12) (N := 90) hx hb hts in_X12_adds_X12 hown hK hP 0 rfl rfl 18 (by decide) (hts (.fieldLink RX12 266 "HallTablesModel" "live" "I") (List.mem_of_getElem? (i := 2) rfl)) (fun _ h9 => h9) e_m18 dX12_adds_12 ?_
  refine aI hx hb hK hP 1 rfl 0 rfl (Nat.le_of_ble_eq_true rfl) (Nat.le_of_ble_eq_true rfl) dX12_adds_15 ?_
  refine tpI (v := 0) (z_me 0 (Nat.le_of_ble_eq_true rfl)) ?_
  refine lv_icmp_ge (tgt := 45) hx hb dX12_adds_16 (by decide) (fun _ => ?_) (fun c9 => absurd (by decide) c9)
  refine lv_aload_n hx hb dX12_adds_45 rfl (lv_at hl 2 rfl) ?_
  refine lv_dup hx hb dX12_adds_46 rfl ?_
  refine va_get (ci := 12) (v := .long 0) (C := RX12) (T := TX12) (N := 90) hx hb hts in_X12_adds_X12 hown hK hP 0 rfl rfl 85 (by decide) (hts (.fieldLink RX12 531 "HallTablesModel" "fitAll" "J") (List.mem_of_getElem? (i := 3) rfl)) (fun _ h9 => h9) e_m85 dX12_adds_47 ?_
  refine lv_lload_n hx hb dX12_adds_50 rfl (lv_at hl 1 rfl) ?_
  refine lv_ladd hx hb dX12_adds_51 ?_
  refine tpL (v := 1) (by decide) ?_
  refine va_put (ci := 12) (v := .long 1) (ty := .long) (C := RX12) (T := TX12) (N := 90) hx hb hts in_X12_adds_X12 tyX12 tyX12_ok nmX12 hown hK hP hD hS 0 rfl rfl 85 (by decide) (hts (.fieldLink RX12 531 "HallTablesModel" "fitAll" "J") (List.mem_of_getElem? (i := 3) rfl)) (fun _ h9 => h9) rfl (by decide +kernel) rfl rfl (lt_of_at e_m85) dX12_adds_52 (fun H locs hP hD hS => ?_)
  have hP : va_P D vwCl [(m0, .inr (12, (fm.set 85 (.long 1)))), (ame, .inl (cy 0, 2, .inl gme))] H := hP
  have hD : va_D A [(m0, .inr (12, (fm.set 85 (.long 1)))), (ame, .inl (cy 0, 2, .inl gme))] := hD
  refine lv_iconst (v := 0) hx hb dX12_adds_55 (by decide) ?_
  refine lv_istore (lv' := [(4, .int 0), (2, .long 1), (0, .ref m0), (1, .int 0)]) hx hb dX12_adds_56 hl (by decide) rfl (fun ls hl => ?_)
  refine lv_iload hx hb dX12_adds_58 (lv_at hl 0 rfl) ?_
  refine lv_aload_n hx hb dX12_adds_60 rfl (lv_at hl 2 rfl) ?_
  refine va_get (ci := 12) (v := .ref ame) (C := RX12) (T := TX12) (N := 90) hx hb hts in_X12_adds_X12 hown hK hP 0 rfl rfl 32 (by decide) (hts (.fieldLink RX12 74 "HallTablesModel" "men" "[I") (List.mem_of_getElem? (i := 1) rfl)) (fun _ h9 => h9) (setk e_m32 (by decide)) dX12_adds_61 ?_
  refine lv_aload_n hx hb dX12_adds_64 rfl (lv_at hl 2 rfl) ?_
  refine va_get (ci := 12) (v := .int 0) (C := RX12) (T := TX12) (N := 90) hx hb hts in_X12_adds_X12 hown hK hP 0 rfl rfl 18 (by decide) (hts (.fieldLink RX12 266 "HallTablesModel" "live" "I") (List.mem_of_getElem? (i := 2) rfl)) (fun _ h9 => h9) (setk e_m18 (by decide)) dX12_adds_65 ?_
  refine aI hx hb hK hP 1 rfl 0 rfl (Nat.le_of_ble_eq_true rfl) (Nat.le_of_ble_eq_true rfl) dX12_adds_68 ?_
  refine tpI (v := 0) (z_me 0 (Nat.le_of_ble_eq_true rfl)) ?_
  refine lv_icmp_ge (tgt := 149) hx hb dX12_adds_69 (by decide) (fun _ => ?_) (fun c9 => absurd (by decide) c9)
  exact endV hx hb hr hlocks [(m0, .inr (12, (fm.set 85 (.long 1)))), (ame, .inl (cy 0, 2, .inl gme))] rfl hP hD hS (Nat.le_of_ble_eq_true rfl) (Nat.le_of_ble_eq_true rfl) dX12_adds_149

theorem in_X12_counts_X12 : ∀ w ∈ u_ws RX12 TX12 90, w ∈ wsX12_counts := fun w h => (List.mem_cons_of_mem _ (List.mem_append_right _ h))
set_option maxRecDepth 100000 in
set_option maxHeartbeats 4000000 in
/-- counts(0, 0) without men: one -/
theorem c_X12_counts (l : Launch) (D : va_G) (cy : Nat → ClassId) (m0 : Nat) (fm : List Value) (ane : Nat) (ame : Nat) (amt : Nat) (afi : Nat) (acs : Nat) (gne : Nat → Int32) (gme : Nat → Int32) (gmt : Nat → Int32) (gcs : Nat → Int32) (gfi : Nat → Int64) (e_m77 : fm[77]? = some (.ref ane)) (e_m32 : fm[32]? = some (.ref ame)) (e_m18 : fm[18]? = some (.int 0)) (e_m79 : fm[79]? = some (.int 0)) (e_m80 : fm[80]? = some (.int 0)) (e_m87 : fm[87]? = some (.ref amt)) (e_m85 : fm[85]? = some (.long 0)) (e_m86 : fm[86]? = some (.ref afi)) (e_m84 : fm[84]? = some (.ref acs)) (z_me : ∀ j : Nat, j < 2 → gme j = 0) : Ctv l D cy yX12_counts wsX12_counts ({ frames := 1, cells := 0, slots := 0, locals := 27 } : Room) [.ref m0, .int 0, .int 0] [(m0, .inr (12, fm)), (ane, .inl (cy 0, 50, .inl gne)), (ame, .inl (cy 0, 2, .inl gme)), (amt, .inl (cy 0, 8, .inl gmt)), (afi, .inl (cy 1, 6, .inr (.inl gfi))), (acs, .inl (cy 0, 6, .inl gcs))] myT (fun (w : va_W) => w = [(m0, .inr (12, ((((fm.set 79 (.int 0)).set 80 (.int 0)).set 85 (.long 0)).set 85 (.long 1))))]) := by
  refine ofV (cc := cX12_counts) (maxL := 5) (ret := none) (by decide) rfl (Nat.le_of_ble_eq_true rfl) ?_
  intro p e s m args below meth c A ls hx hb hr hts hown hlocks hml hin hK hP hD hS hA hX hl
  have hown : s.vm.findClass RX12 = some m.cls := hown
  have hl : lv_has ls 5 [(0, .ref m0), (1, .int 0), (2, .int 0)] := hl
  refine lv_aload_n hx hb dX12_counts_0 rfl (lv_at hl 0 rfl) ?_
  refine lv_iload_n hx hb dX12_counts_1 rfl (lv_at hl 1 rfl) ?_
  refine lv_iload_n hx hb dX12_counts_2 rfl (lv_at hl 2 rfl) ?_
  refine cVv (As := [.int 0, .int 0]) (rest := []) (wr := [(amt, .inl (cy 0, 8, .inl gmt)), (afi, .inl (cy 1, 6, .inr (.inl gfi))), (acs, .inl (cy 0, 6, .inl gcs))]) ⟨hx, hb, hml, hown, hts⟩ (c_X12_knows l D cy m0 fm ane ame gne gme e_m77 e_m32 e_m18 e_m79 e_m80 z_me) (cwV 2 hts gX12_counts_X12_knows rfl rfl rfl (by decide +kernel) ⟨Nat.le_of_ble_eq_true rfl, Nat.le_of_ble_eq_true rfl⟩) hK hP hD hS hA [0, 1, 2] [3, 4, 5] ⟨rfl, rfl, by decide +kernel, by decide +kernel, by decide +kernel⟩ 0 12 rfl rfl myX_T rfl hl.1 rfl (Nat.le_of_ble_eq_true rfl) dX12_counts_3 ⟨Nat.le_of_ble_eq_true rfl, Nat.le_of_ble_eq_true rfl⟩ (fun w_1 H locs hw hP hD hS => ?_)
  obtain ⟨gne_2, rfl⟩ := hw
  have hP : va_P D vwCl [(amt, .inl (cy 0, 8, .inl gmt)), (afi, .inl (cy 1, 6, .inr (.inl gfi))), (acs, .inl (cy 0, 6, .inl gcs)), (m0, .inr (12, ((fm.set 79 (.int 0)).set 80 (.int 0)))), (ane, .inl (cy 0, 50, .inl gne_2)), (ame, .inl (cy 0, 2, .inl gme))] H := hP
  have hD : va_D A [(amt, .inl (cy 0, 8, .inl gmt)), (afi, .inl (cy 1, 6, .inr (.inl gfi))), (acs, .inl (cy 0, 6, .inl gcs)), (m0, .inr (12, ((fm.set 79 (.int 0)).set 80 (.int 0)))), (ane, .inl (cy 0, 50, .inl gne_2)), (ame, .inl (cy 0, 2, .inl gme))] := hD
  refine lv_aload_n hx hb dX12_counts_6 rfl (lv_at hl 0 rfl) ?_
  refine lv_lconst (v := 0) hx hb dX12_counts_7 (by decide) ?_
  refine va_put (ci := 12) (v := .long 0) (ty := .long) (C := RX12) (T := TX12) (N := 90) hx hb hts in_X12_counts_X12 tyX12 tyX12_ok nmX12 hown hK hP hD hS 3 rfl rfl 85 (by decide) (hts (.fieldLink RX12 531 "HallTablesModel" "fitAll" "J") (List.mem_of_getElem? (i := 1) rfl)) (fun _ h9 => h9) rfl (by decide +kernel) rfl rfl (lt_of_at (setk (setk e_m85 (by decide)) (by decide))) dX12_counts_8 (fun H locs hP hD hS => ?_)
  have hP : va_P D vwCl [(amt, .inl (cy 0, 8, .inl gmt)), (afi, .inl (cy 1, 6, .inr (.inl gfi))), (acs, .inl (cy 0, 6, .inl gcs)), (m0, .inr (12, (((fm.set 79 (.int 0)).set 80 (.int 0)).set 85 (.long 0)))), (ane, .inl (cy 0, 50, .inl gne_2)), (ame, .inl (cy 0, 2, .inl gme))] H := hP
  have hD : va_D A [(amt, .inl (cy 0, 8, .inl gmt)), (afi, .inl (cy 1, 6, .inr (.inl gfi))), (acs, .inl (cy 0, 6, .inl gcs)), (m0, .inr (12, (((fm.set 79 (.int 0)).set 80 (.int 0)).set 85 (.long 0)))), (ane, .inl (cy 0, 50, .inl gne_2)), (ame, .inl (cy 0, 2, .inl gme))] := hD
  refine lv_iconst (v := 0) hx hb dX12_counts_11 (by decide) ?_
  refine lv_istore_n (lv' := [(3, .int 0), (0, .ref m0), (1, .int 0), (2, .int 0)]) hx hb dX12_counts_12 rfl hl (by decide) rfl (fun ls hl => ?_)
  refine lv_iload_n hx hb dX12_counts_13 rfl (lv_at hl 0 rfl) ?_
  refine lv_bipush (v := 6) hx hb dX12_counts_14 (by decide) ?_
  refine lv_icmp_ge (tgt := 39) hx hb dX12_counts_16 (by decide) (fun c9 => absurd c9 (by decide)) (fun _ => ?_)
  refine lv_aload_n hx hb dX12_counts_19 rfl (lv_at hl 1 rfl) ?_
  refine va_get (ci := 12) (v := .ref afi) (C := RX12) (T := TX12) (N := 90) hx hb hts in_X12_counts_X12 hown hK hP 3 rfl rfl 86 (by decide) (hts (.fieldLink RX12 182 "HallTablesModel" "fitThere" "[J") (List.mem_of_getElem? (i := 2) rfl)) (fun _ h9 => h9) (setk (setk (setk e_m86 (by decide)) (by decide)) (by decide)) dX12_counts_20 ?_
  refine lv_iload_n hx hb dX12_counts_23 rfl (lv_at hl 0 rfl) ?_
  refine lv_lconst (v := 0) hx hb dX12_counts_24 (by decide) ?_
  refine sJ hx hb hK hP hD hS 1 rfl 0 rfl (Nat.le_of_ble_eq_true rfl) (Nat.le_of_ble_eq_true rfl) dX12_counts_25 (fun H locs hP hD hS => ?_)
  have hP : va_P D vwCl [(amt, .inl (cy 0, 8, .inl gmt)), (afi, .inl (cy 1, 6, .inr (.inl (vp_updL gfi 0 0)))), (acs, .inl (cy 0, 6, .inl gcs)), (m0, .inr (12, (((fm.set 79 (.int 0)).set 80 (.int 0)).set 85 (.long 0)))), (ane, .inl (cy 0, 50, .inl gne_2)), (ame, .inl (cy 0, 2, .inl gme))] H := hP
  have hD : va_D A [(amt, .inl (cy 0, 8, .inl gmt)), (afi, .inl (cy 1, 6, .inr (.inl (vp_updL gfi 0 0)))), (acs, .inl (cy 0, 6, .inl gcs)), (m0, .inr (12, (((fm.set 79 (.int 0)).set 80 (.int 0)).set 85 (.long 0)))), (ane, .inl (cy 0, 50, .inl gne_2)), (ame, .inl (cy 0, 2, .inl gme))] := hD
  obtain ⟨f_3, ef_3⟩ : ∃ z, z = vp_updL gfi 0 0 := ⟨_, rfl⟩
  rw [← ef_3] at hP hD
  refine lv_aload_n hx hb dX12_counts_26 rfl (lv_at hl 1 rfl) ?_
  refine va_get (ci := 12) (v := .ref acs) (C := RX12) (T := TX12) (N := 90) hx hb hts in_X12_counts_X12 hown hK hP 3 rfl rfl 84 (by decide) (hts (.fieldLink RX12 179 "HallTablesModel" "chosen" "[I") (List.mem_of_getElem? (i := 3) rfl)) (fun _ h9 => h9) (setk (setk (setk e_m84 (by decide)) (by decide)) (by decide)) dX12_counts_27 ?_
  refine lv_iload_n hx hb dX12_counts_30 rfl (lv_at hl 0 rfl) ?_
  refine lv_iconst (v := 0) hx hb dX12_counts_31 (by decide) ?_
  refine sI hx hb hK hP hD hS 2 rfl 0 rfl (Nat.le_of_ble_eq_true rfl) (Nat.le_of_ble_eq_true rfl) dX12_counts_32 (fun H locs hP hD hS => ?_)
  have hP : va_P D vwCl [(amt, .inl (cy 0, 8, .inl gmt)), (afi, .inl (cy 1, 6, .inr (.inl f_3))), (acs, .inl (cy 0, 6, .inl (upd gcs 0 0))), (m0, .inr (12, (((fm.set 79 (.int 0)).set 80 (.int 0)).set 85 (.long 0)))), (ane, .inl (cy 0, 50, .inl gne_2)), (ame, .inl (cy 0, 2, .inl gme))] H := hP
  have hD : va_D A [(amt, .inl (cy 0, 8, .inl gmt)), (afi, .inl (cy 1, 6, .inr (.inl f_3))), (acs, .inl (cy 0, 6, .inl (upd gcs 0 0))), (m0, .inr (12, (((fm.set 79 (.int 0)).set 80 (.int 0)).set 85 (.long 0)))), (ane, .inl (cy 0, 50, .inl gne_2)), (ame, .inl (cy 0, 2, .inl gme))] := hD
  obtain ⟨f_4, ef_4⟩ : ∃ z, z = upd gcs 0 0 := ⟨_, rfl⟩
  rw [← ef_4] at hP hD
  refine lv_iinc (v := 1) (lv' := [(3, .int 1), (0, .ref m0), (1, .int 0), (2, .int 0)]) hx hb dX12_counts_33 hl (k := 0) rfl (by decide) (by decide) rfl (fun ls hl => ?_)
  refine lv_goto (tgt := 13) hx hb dX12_counts_36 (by decide) ?_
  refine lv_iload_n hx hb dX12_counts_13 rfl (lv_at hl 0 rfl) ?_
  refine lv_bipush (v := 6) hx hb dX12_counts_14 (by decide) ?_
  refine lv_icmp_ge (tgt := 39) hx hb dX12_counts_16 (by decide) (fun c9 => absurd c9 (by decide)) (fun _ => ?_)
  refine lv_aload_n hx hb dX12_counts_19 rfl (lv_at hl 1 rfl) ?_
  refine va_get (ci := 12) (v := .ref afi) (C := RX12) (T := TX12) (N := 90) hx hb hts in_X12_counts_X12 hown hK hP 3 rfl rfl 86 (by decide) (hts (.fieldLink RX12 182 "HallTablesModel" "fitThere" "[J") (List.mem_of_getElem? (i := 2) rfl)) (fun _ h9 => h9) (setk (setk (setk e_m86 (by decide)) (by decide)) (by decide)) dX12_counts_20 ?_
  refine lv_iload_n hx hb dX12_counts_23 rfl (lv_at hl 0 rfl) ?_
  refine lv_lconst (v := 0) hx hb dX12_counts_24 (by decide) ?_
  refine sJ hx hb hK hP hD hS 1 rfl 1 rfl (Nat.le_of_ble_eq_true rfl) (Nat.le_of_ble_eq_true rfl) dX12_counts_25 (fun H locs hP hD hS => ?_)
  have hP : va_P D vwCl [(amt, .inl (cy 0, 8, .inl gmt)), (afi, .inl (cy 1, 6, .inr (.inl (vp_updL f_3 1 0)))), (acs, .inl (cy 0, 6, .inl f_4)), (m0, .inr (12, (((fm.set 79 (.int 0)).set 80 (.int 0)).set 85 (.long 0)))), (ane, .inl (cy 0, 50, .inl gne_2)), (ame, .inl (cy 0, 2, .inl gme))] H := hP
  have hD : va_D A [(amt, .inl (cy 0, 8, .inl gmt)), (afi, .inl (cy 1, 6, .inr (.inl (vp_updL f_3 1 0)))), (acs, .inl (cy 0, 6, .inl f_4)), (m0, .inr (12, (((fm.set 79 (.int 0)).set 80 (.int 0)).set 85 (.long 0)))), (ane, .inl (cy 0, 50, .inl gne_2)), (ame, .inl (cy 0, 2, .inl gme))] := hD
  obtain ⟨f_5, ef_5⟩ : ∃ z, z = vp_updL f_3 1 0 := ⟨_, rfl⟩
  rw [← ef_5] at hP hD
  refine lv_aload_n hx hb dX12_counts_26 rfl (lv_at hl 1 rfl) ?_
  refine va_get (ci := 12) (v := .ref acs) (C := RX12) (T := TX12) (N := 90) hx hb hts in_X12_counts_X12 hown hK hP 3 rfl rfl 84 (by decide) (hts (.fieldLink RX12 179 "HallTablesModel" "chosen" "[I") (List.mem_of_getElem? (i := 3) rfl)) (fun _ h9 => h9) (setk (setk (setk e_m84 (by decide)) (by decide)) (by decide)) dX12_counts_27 ?_
  refine lv_iload_n hx hb dX12_counts_30 rfl (lv_at hl 0 rfl) ?_
  refine lv_iconst (v := 0) hx hb dX12_counts_31 (by decide) ?_
  refine sI hx hb hK hP hD hS 2 rfl 1 rfl (Nat.le_of_ble_eq_true rfl) (Nat.le_of_ble_eq_true rfl) dX12_counts_32 (fun H locs hP hD hS => ?_)
  have hP : va_P D vwCl [(amt, .inl (cy 0, 8, .inl gmt)), (afi, .inl (cy 1, 6, .inr (.inl f_5))), (acs, .inl (cy 0, 6, .inl (upd f_4 1 0))), (m0, .inr (12, (((fm.set 79 (.int 0)).set 80 (.int 0)).set 85 (.long 0)))), (ane, .inl (cy 0, 50, .inl gne_2)), (ame, .inl (cy 0, 2, .inl gme))] H := hP
  have hD : va_D A [(amt, .inl (cy 0, 8, .inl gmt)), (afi, .inl (cy 1, 6, .inr (.inl f_5))), (acs, .inl (cy 0, 6, .inl (upd f_4 1 0))), (m0, .inr (12, (((fm.set 79 (.int 0)).set 80 (.int 0)).set 85 (.long 0)))), (ane, .inl (cy 0, 50, .inl gne_2)), (ame, .inl (cy 0, 2, .inl gme))] := hD
  obtain ⟨f_6, ef_6⟩ : ∃ z, z = upd f_4 1 0 := ⟨_, rfl⟩
  rw [← ef_6] at hP hD
  refine lv_iinc (v := 2) (lv' := [(3, .int 2), (0, .ref m0), (1, .int 0), (2, .int 0)]) hx hb dX12_counts_33 hl (k := 0) rfl (by decide) (by decide) rfl (fun ls hl => ?_)
  refine lv_goto (tgt := 13) hx hb dX12_counts_36 (by decide) ?_
  refine lv_iload_n hx hb dX12_counts_13 rfl (lv_at hl 0 rfl) ?_
  refine lv_bipush (v := 6) hx hb dX12_counts_14 (by decide) ?_
  refine lv_icmp_ge (tgt := 39) hx hb dX12_counts_16 (by decide) (fun c9 => absurd c9 (by decide)) (fun _ => ?_)
  refine lv_aload_n hx hb dX12_counts_19 rfl (lv_at hl 1 rfl) ?_
  refine va_get (ci := 12) (v := .ref afi) (C := RX12) (T := TX12) (N := 90) hx hb hts in_X12_counts_X12 hown hK hP 3 rfl rfl 86 (by decide) (hts (.fieldLink RX12 182 "HallTablesModel" "fitThere" "[J") (List.mem_of_getElem? (i := 2) rfl)) (fun _ h9 => h9) (setk (setk (setk e_m86 (by decide)) (by decide)) (by decide)) dX12_counts_20 ?_
  refine lv_iload_n hx hb dX12_counts_23 rfl (lv_at hl 0 rfl) ?_
  refine lv_lconst (v := 0) hx hb dX12_counts_24 (by decide) ?_
  refine sJ hx hb hK hP hD hS 1 rfl 2 rfl (Nat.le_of_ble_eq_true rfl) (Nat.le_of_ble_eq_true rfl) dX12_counts_25 (fun H locs hP hD hS => ?_)
  have hP : va_P D vwCl [(amt, .inl (cy 0, 8, .inl gmt)), (afi, .inl (cy 1, 6, .inr (.inl (vp_updL f_5 2 0)))), (acs, .inl (cy 0, 6, .inl f_6)), (m0, .inr (12, (((fm.set 79 (.int 0)).set 80 (.int 0)).set 85 (.long 0)))), (ane, .inl (cy 0, 50, .inl gne_2)), (ame, .inl (cy 0, 2, .inl gme))] H := hP
  have hD : va_D A [(amt, .inl (cy 0, 8, .inl gmt)), (afi, .inl (cy 1, 6, .inr (.inl (vp_updL f_5 2 0)))), (acs, .inl (cy 0, 6, .inl f_6)), (m0, .inr (12, (((fm.set 79 (.int 0)).set 80 (.int 0)).set 85 (.long 0)))), (ane, .inl (cy 0, 50, .inl gne_2)), (ame, .inl (cy 0, 2, .inl gme))] := hD
  obtain ⟨f_7, ef_7⟩ : ∃ z, z = vp_updL f_5 2 0 := ⟨_, rfl⟩
  rw [← ef_7] at hP hD
  refine lv_aload_n hx hb dX12_counts_26 rfl (lv_at hl 1 rfl) ?_
  refine va_get (ci := 12) (v := .ref acs) (C := RX12) (T := TX12) (N := 90) hx hb hts in_X12_counts_X12 hown hK hP 3 rfl rfl 84 (by decide) (hts (.fieldLink RX12 179 "HallTablesModel" "chosen" "[I") (List.mem_of_getElem? (i := 3) rfl)) (fun _ h9 => h9) (setk (setk (setk e_m84 (by decide)) (by decide)) (by decide)) dX12_counts_27 ?_
  refine lv_iload_n hx hb dX12_counts_30 rfl (lv_at hl 0 rfl) ?_
  refine lv_iconst (v := 0) hx hb dX12_counts_31 (by decide) ?_
  refine sI hx hb hK hP hD hS 2 rfl 2 rfl (Nat.le_of_ble_eq_true rfl) (Nat.le_of_ble_eq_true rfl) dX12_counts_32 (fun H locs hP hD hS => ?_)
  have hP : va_P D vwCl [(amt, .inl (cy 0, 8, .inl gmt)), (afi, .inl (cy 1, 6, .inr (.inl f_7))), (acs, .inl (cy 0, 6, .inl (upd f_6 2 0))), (m0, .inr (12, (((fm.set 79 (.int 0)).set 80 (.int 0)).set 85 (.long 0)))), (ane, .inl (cy 0, 50, .inl gne_2)), (ame, .inl (cy 0, 2, .inl gme))] H := hP
  have hD : va_D A [(amt, .inl (cy 0, 8, .inl gmt)), (afi, .inl (cy 1, 6, .inr (.inl f_7))), (acs, .inl (cy 0, 6, .inl (upd f_6 2 0))), (m0, .inr (12, (((fm.set 79 (.int 0)).set 80 (.int 0)).set 85 (.long 0)))), (ane, .inl (cy 0, 50, .inl gne_2)), (ame, .inl (cy 0, 2, .inl gme))] := hD
  obtain ⟨f_8, ef_8⟩ : ∃ z, z = upd f_6 2 0 := ⟨_, rfl⟩
  rw [← ef_8] at hP hD
  refine lv_iinc (v := 3) (lv' := [(3, .int 3), (0, .ref m0), (1, .int 0), (2, .int 0)]) hx hb dX12_counts_33 hl (k := 0) rfl (by decide) (by decide) rfl (fun ls hl => ?_)
  refine lv_goto (tgt := 13) hx hb dX12_counts_36 (by decide) ?_
  refine lv_iload_n hx hb dX12_counts_13 rfl (lv_at hl 0 rfl) ?_
  refine lv_bipush (v := 6) hx hb dX12_counts_14 (by decide) ?_
  refine lv_icmp_ge (tgt := 39) hx hb dX12_counts_16 (by decide) (fun c9 => absurd c9 (by decide)) (fun _ => ?_)
  refine lv_aload_n hx hb dX12_counts_19 rfl (lv_at hl 1 rfl) ?_
  refine va_get (ci := 12) (v := .ref afi) (C := RX12) (T := TX12) (N := 90) hx hb hts in_X12_counts_X12 hown hK hP 3 rfl rfl 86 (by decide) (hts (.fieldLink RX12 182 "HallTablesModel" "fitThere" "[J") (List.mem_of_getElem? (i := 2) rfl)) (fun _ h9 => h9) (setk (setk (setk e_m86 (by decide)) (by decide)) (by decide)) dX12_counts_20 ?_
  refine lv_iload_n hx hb dX12_counts_23 rfl (lv_at hl 0 rfl) ?_
  refine lv_lconst (v := 0) hx hb dX12_counts_24 (by decide) ?_
  refine sJ hx hb hK hP hD hS 1 rfl 3 rfl (Nat.le_of_ble_eq_true rfl) (Nat.le_of_ble_eq_true rfl) dX12_counts_25 (fun H locs hP hD hS => ?_)
  have hP : va_P D vwCl [(amt, .inl (cy 0, 8, .inl gmt)), (afi, .inl (cy 1, 6, .inr (.inl (vp_updL f_7 3 0)))), (acs, .inl (cy 0, 6, .inl f_8)), (m0, .inr (12, (((fm.set 79 (.int 0)).set 80 (.int 0)).set 85 (.long 0)))), (ane, .inl (cy 0, 50, .inl gne_2)), (ame, .inl (cy 0, 2, .inl gme))] H := hP
  have hD : va_D A [(amt, .inl (cy 0, 8, .inl gmt)), (afi, .inl (cy 1, 6, .inr (.inl (vp_updL f_7 3 0)))), (acs, .inl (cy 0, 6, .inl f_8)), (m0, .inr (12, (((fm.set 79 (.int 0)).set 80 (.int 0)).set 85 (.long 0)))), (ane, .inl (cy 0, 50, .inl gne_2)), (ame, .inl (cy 0, 2, .inl gme))] := hD
  obtain ⟨f_9, ef_9⟩ : ∃ z, z = vp_updL f_7 3 0 := ⟨_, rfl⟩
  rw [← ef_9] at hP hD
  refine lv_aload_n hx hb dX12_counts_26 rfl (lv_at hl 1 rfl) ?_
  refine va_get (ci := 12) (v := .ref acs) (C := RX12) (T := TX12) (N := 90) hx hb hts in_X12_counts_X12 hown hK hP 3 rfl rfl 84 (by decide) (hts (.fieldLink RX12 179 "HallTablesModel" "chosen" "[I") (List.mem_of_getElem? (i := 3) rfl)) (fun _ h9 => h9) (setk (setk (setk e_m84 (by decide)) (by decide)) (by decide)) dX12_counts_27 ?_
  refine lv_iload_n hx hb dX12_counts_30 rfl (lv_at hl 0 rfl) ?_
  refine lv_iconst (v := 0) hx hb dX12_counts_31 (by decide) ?_
  refine sI hx hb hK hP hD hS 2 rfl 3 rfl (Nat.le_of_ble_eq_true rfl) (Nat.le_of_ble_eq_true rfl) dX12_counts_32 (fun H locs hP hD hS => ?_)
  have hP : va_P D vwCl [(amt, .inl (cy 0, 8, .inl gmt)), (afi, .inl (cy 1, 6, .inr (.inl f_9))), (acs, .inl (cy 0, 6, .inl (upd f_8 3 0))), (m0, .inr (12, (((fm.set 79 (.int 0)).set 80 (.int 0)).set 85 (.long 0)))), (ane, .inl (cy 0, 50, .inl gne_2)), (ame, .inl (cy 0, 2, .inl gme))] H := hP
  have hD : va_D A [(amt, .inl (cy 0, 8, .inl gmt)), (afi, .inl (cy 1, 6, .inr (.inl f_9))), (acs, .inl (cy 0, 6, .inl (upd f_8 3 0))), (m0, .inr (12, (((fm.set 79 (.int 0)).set 80 (.int 0)).set 85 (.long 0)))), (ane, .inl (cy 0, 50, .inl gne_2)), (ame, .inl (cy 0, 2, .inl gme))] := hD
  obtain ⟨f_10, ef_10⟩ : ∃ z, z = upd f_8 3 0 := ⟨_, rfl⟩
  rw [← ef_10] at hP hD
  refine lv_iinc (v := 4) (lv' := [(3, .int 4), (0, .ref m0), (1, .int 0), (2, .int 0)]) hx hb dX12_counts_33 hl (k := 0) rfl (by decide) (by decide) rfl (fun ls hl => ?_)
  refine lv_goto (tgt := 13) hx hb dX12_counts_36 (by decide) ?_
  refine lv_iload_n hx hb dX12_counts_13 rfl (lv_at hl 0 rfl) ?_
  refine lv_bipush (v := 6) hx hb dX12_counts_14 (by decide) ?_
  refine lv_icmp_ge (tgt := 39) hx hb dX12_counts_16 (by decide) (fun c9 => absurd c9 (by decide)) (fun _ => ?_)
  refine lv_aload_n hx hb dX12_counts_19 rfl (lv_at hl 1 rfl) ?_
  refine va_get (ci := 12) (v := .ref afi) (C := RX12) (T := TX12) (N := 90) hx hb hts in_X12_counts_X12 hown hK hP 3 rfl rfl 86 (by decide) (hts (.fieldLink RX12 182 "HallTablesModel" "fitThere" "[J") (List.mem_of_getElem? (i := 2) rfl)) (fun _ h9 => h9) (setk (setk (setk e_m86 (by decide)) (by decide)) (by decide)) dX12_counts_20 ?_
  refine lv_iload_n hx hb dX12_counts_23 rfl (lv_at hl 0 rfl) ?_
  refine lv_lconst (v := 0) hx hb dX12_counts_24 (by decide) ?_
  refine sJ hx hb hK hP hD hS 1 rfl 4 rfl (Nat.le_of_ble_eq_true rfl) (Nat.le_of_ble_eq_true rfl) dX12_counts_25 (fun H locs hP hD hS => ?_)
  have hP : va_P D vwCl [(amt, .inl (cy 0, 8, .inl gmt)), (afi, .inl (cy 1, 6, .inr (.inl (vp_updL f_9 4 0)))), (acs, .inl (cy 0, 6, .inl f_10)), (m0, .inr (12, (((fm.set 79 (.int 0)).set 80 (.int 0)).set 85 (.long 0)))), (ane, .inl (cy 0, 50, .inl gne_2)), (ame, .inl (cy 0, 2, .inl gme))] H := hP
  have hD : va_D A [(amt, .inl (cy 0, 8, .inl gmt)), (afi, .inl (cy 1, 6, .inr (.inl (vp_updL f_9 4 0)))), (acs, .inl (cy 0, 6, .inl f_10)), (m0, .inr (12, (((fm.set 79 (.int 0)).set 80 (.int 0)).set 85 (.long 0)))), (ane, .inl (cy 0, 50, .inl gne_2)), (ame, .inl (cy 0, 2, .inl gme))] := hD
  obtain ⟨f_11, ef_11⟩ : ∃ z, z = vp_updL f_9 4 0 := ⟨_, rfl⟩
  rw [← ef_11] at hP hD
  refine lv_aload_n hx hb dX12_counts_26 rfl (lv_at hl 1 rfl) ?_
  refine va_get (ci := 12) (v := .ref acs) (C := RX12) (T := TX12) (N := 90) hx hb hts in_X12_counts_X12 hown hK hP 3 rfl rfl 84 (by decide) (hts (.fieldLink RX12 179 "HallTablesModel" "chosen" "[I") (List.mem_of_getElem? (i := 3) rfl)) (fun _ h9 => h9) (setk (setk (setk e_m84 (by decide)) (by decide)) (by decide)) dX12_counts_27 ?_
  refine lv_iload_n hx hb dX12_counts_30 rfl (lv_at hl 0 rfl) ?_
  refine lv_iconst (v := 0) hx hb dX12_counts_31 (by decide) ?_
  refine sI hx hb hK hP hD hS 2 rfl 4 rfl (Nat.le_of_ble_eq_true rfl) (Nat.le_of_ble_eq_true rfl) dX12_counts_32 (fun H locs hP hD hS => ?_)
  have hP : va_P D vwCl [(amt, .inl (cy 0, 8, .inl gmt)), (afi, .inl (cy 1, 6, .inr (.inl f_11))), (acs, .inl (cy 0, 6, .inl (upd f_10 4 0))), (m0, .inr (12, (((fm.set 79 (.int 0)).set 80 (.int 0)).set 85 (.long 0)))), (ane, .inl (cy 0, 50, .inl gne_2)), (ame, .inl (cy 0, 2, .inl gme))] H := hP
  have hD : va_D A [(amt, .inl (cy 0, 8, .inl gmt)), (afi, .inl (cy 1, 6, .inr (.inl f_11))), (acs, .inl (cy 0, 6, .inl (upd f_10 4 0))), (m0, .inr (12, (((fm.set 79 (.int 0)).set 80 (.int 0)).set 85 (.long 0)))), (ane, .inl (cy 0, 50, .inl gne_2)), (ame, .inl (cy 0, 2, .inl gme))] := hD
  obtain ⟨f_12, ef_12⟩ : ∃ z, z = upd f_10 4 0 := ⟨_, rfl⟩
  rw [← ef_12] at hP hD
  refine lv_iinc (v := 5) (lv' := [(3, .int 5), (0, .ref m0), (1, .int 0), (2, .int 0)]) hx hb dX12_counts_33 hl (k := 0) rfl (by decide) (by decide) rfl (fun ls hl => ?_)
  refine lv_goto (tgt := 13) hx hb dX12_counts_36 (by decide) ?_
  refine lv_iload_n hx hb dX12_counts_13 rfl (lv_at hl 0 rfl) ?_
  refine lv_bipush (v := 6) hx hb dX12_counts_14 (by decide) ?_
  refine lv_icmp_ge (tgt := 39) hx hb dX12_counts_16 (by decide) (fun c9 => absurd c9 (by decide)) (fun _ => ?_)
  refine lv_aload_n hx hb dX12_counts_19 rfl (lv_at hl 1 rfl) ?_
  refine va_get (ci := 12) (v := .ref afi) (C := RX12) (T := TX12) (N := 90) hx hb hts in_X12_counts_X12 hown hK hP 3 rfl rfl 86 (by decide) (hts (.fieldLink RX12 182 "HallTablesModel" "fitThere" "[J") (List.mem_of_getElem? (i := 2) rfl)) (fun _ h9 => h9) (setk (setk (setk e_m86 (by decide)) (by decide)) (by decide)) dX12_counts_20 ?_
  refine lv_iload_n hx hb dX12_counts_23 rfl (lv_at hl 0 rfl) ?_
  refine lv_lconst (v := 0) hx hb dX12_counts_24 (by decide) ?_
  refine sJ hx hb hK hP hD hS 1 rfl 5 rfl (Nat.le_of_ble_eq_true rfl) (Nat.le_of_ble_eq_true rfl) dX12_counts_25 (fun H locs hP hD hS => ?_)
  have hP : va_P D vwCl [(amt, .inl (cy 0, 8, .inl gmt)), (afi, .inl (cy 1, 6, .inr (.inl (vp_updL f_11 5 0)))), (acs, .inl (cy 0, 6, .inl f_12)), (m0, .inr (12, (((fm.set 79 (.int 0)).set 80 (.int 0)).set 85 (.long 0)))), (ane, .inl (cy 0, 50, .inl gne_2)), (ame, .inl (cy 0, 2, .inl gme))] H := hP
  have hD : va_D A [(amt, .inl (cy 0, 8, .inl gmt)), (afi, .inl (cy 1, 6, .inr (.inl (vp_updL f_11 5 0)))), (acs, .inl (cy 0, 6, .inl f_12)), (m0, .inr (12, (((fm.set 79 (.int 0)).set 80 (.int 0)).set 85 (.long 0)))), (ane, .inl (cy 0, 50, .inl gne_2)), (ame, .inl (cy 0, 2, .inl gme))] := hD
  obtain ⟨f_13, ef_13⟩ : ∃ z, z = vp_updL f_11 5 0 := ⟨_, rfl⟩
  rw [← ef_13] at hP hD
  refine lv_aload_n hx hb dX12_counts_26 rfl (lv_at hl 1 rfl) ?_
  refine va_get (ci := 12) (v := .ref acs) (C := RX12) (T := TX12) (N := 90) hx hb hts in_X12_counts_X12 hown hK hP 3 rfl rfl 84 (by decide) (hts (.fieldLink RX12 179 "HallTablesModel" "chosen" "[I") (List.mem_of_getElem? (i := 3) rfl)) (fun _ h9 => h9) (setk (setk (setk e_m84 (by decide)) (by decide)) (by decide)) dX12_counts_27 ?_
  refine lv_iload_n hx hb dX12_counts_30 rfl (lv_at hl 0 rfl) ?_
  refine lv_iconst (v := 0) hx hb dX12_counts_31 (by decide) ?_
  refine sI hx hb hK hP hD hS 2 rfl 5 rfl (Nat.le_of_ble_eq_true rfl) (Nat.le_of_ble_eq_true rfl) dX12_counts_32 (fun H locs hP hD hS => ?_)
  have hP : va_P D vwCl [(amt, .inl (cy 0, 8, .inl gmt)), (afi, .inl (cy 1, 6, .inr (.inl f_13))), (acs, .inl (cy 0, 6, .inl (upd f_12 5 0))), (m0, .inr (12, (((fm.set 79 (.int 0)).set 80 (.int 0)).set 85 (.long 0)))), (ane, .inl (cy 0, 50, .inl gne_2)), (ame, .inl (cy 0, 2, .inl gme))] H := hP
  have hD : va_D A [(amt, .inl (cy 0, 8, .inl gmt)), (afi, .inl (cy 1, 6, .inr (.inl f_13))), (acs, .inl (cy 0, 6, .inl (upd f_12 5 0))), (m0, .inr (12, (((fm.set 79 (.int 0)).set 80 (.int 0)).set 85 (.long 0)))), (ane, .inl (cy 0, 50, .inl gne_2)), (ame, .inl (cy 0, 2, .inl gme))] := hD
  obtain ⟨f_14, ef_14⟩ : ∃ z, z = upd f_12 5 0 := ⟨_, rfl⟩
  rw [← ef_14] at hP hD
  refine lv_iinc (v := 6) (lv' := [(3, .int 6), (0, .ref m0), (1, .int 0), (2, .int 0)]) hx hb dX12_counts_33 hl (k := 0) rfl (by decide) (by decide) rfl (fun ls hl => ?_)
  refine lv_goto (tgt := 13) hx hb dX12_counts_36 (by decide) ?_
  refine lv_iload_n hx hb dX12_counts_13 rfl (lv_at hl 0 rfl) ?_
  refine lv_bipush (v := 6) hx hb dX12_counts_14 (by decide) ?_
  refine lv_icmp_ge (tgt := 39) hx hb dX12_counts_16 (by decide) (fun _ => ?_) (fun c9 => absurd (by decide) c9)
  refine lv_aload_n hx hb dX12_counts_39 rfl (lv_at hl 1 rfl) ?_
  refine va_get (ci := 12) (v := .int 0) (C := RX12) (T := TX12) (N := 90) hx hb hts in_X12_counts_X12 hown hK hP 3 rfl rfl 80 (by decide) (hts (.fieldLink RX12 525 "HallTablesModel" "needAll" "I") (List.mem_of_getElem? (i := 4) rfl)) (fun _ h9 => h9) (setk (setk_same (setk e_m80 (by decide))) (by decide)) dX12_counts_40 ?_
  refine lv_aload_n hx hb dX12_counts_43 rfl (lv_at hl 1 rfl) ?_
  refine va_get (ci := 12) (v := .ref ame) (C := RX12) (T := TX12) (N := 90) hx hb hts in_X12_counts_X12 hown hK hP 3 rfl rfl 32 (by decide) (hts (.fieldLink RX12 74 "HallTablesModel" "men" "[I") (List.mem_of_getElem? (i := 5) rfl)) (fun _ h9 => h9) (setk (setk (setk e_m32 (by decide)) (by decide)) (by decide)) dX12_counts_44 ?_
  refine lv_aload_n hx hb dX12_counts_47 rfl (lv_at hl 1 rfl) ?_
  refine va_get (ci := 12) (v := .int 0) (C := RX12) (T := TX12) (N := 90) hx hb hts in_X12_counts_X12 hown hK hP 3 rfl rfl 18 (by decide) (hts (.fieldLink RX12 266 "HallTablesModel" "live" "I") (List.mem_of_getElem? (i := 6) rfl)) (fun _ h9 => h9) (setk (setk (setk e_m18 (by decide)) (by decide)) (by decide)) dX12_counts_48 ?_
  refine aI hx hb hK hP 5 rfl 0 rfl (Nat.le_of_ble_eq_true rfl) (Nat.le_of_ble_eq_true rfl) dX12_counts_51 ?_
  refine tpI (v := 0) (z_me 0 (Nat.le_of_ble_eq_true rfl)) ?_
  refine lv_icmp_le (tgt := 56) hx hb dX12_counts_52 (by decide) (fun _ => ?_) (fun c9 => absurd (by decide) c9)
  refine lv_iconst (v := 1) hx hb dX12_counts_56 (by decide) ?_
  refine lv_istore_n (lv' := [(3, .int 1), (0, .ref m0), (1, .int 0), (2, .int 0)]) hx hb dX12_counts_57 rfl hl (by decide) rfl (fun ls hl => ?_)
  refine lv_iload_n hx hb dX12_counts_58 rfl (lv_at hl 0 rfl) ?_
  refine lv_if_eq (tgt := 157) hx hb dX12_counts_59 (by decide) (fun c9 => absurd c9 (by decide)) (fun _ => ?_)
  refine lv_aload_n hx hb dX12_counts_62 rfl (lv_at hl 1 rfl) ?_
  refine cVi (As := []) (rest := []) (wr := [(afi, .inl (cy 1, 6, .inr (.inl f_13))), (acs, .inl (cy 0, 6, .inl f_14)), (ane, .inl (cy 0, 50, .inl gne_2))]) ⟨hx, hb, hml, hown, hts⟩ (c_X12_isAllMet l D cy m0 (((fm.set 79 (.int 0)).set 80 (.int 0)).set 85 (.long 0)) amt ame gmt gme (setk (setk (setk e_m87 (by decide)) (by decide)) (by decide)) (setk (setk (setk e_m32 (by decide)) (by decide)) (by decide)) (setk (setk (setk e_m18 (by decide)) (by decide)) (by decide)) (setk (setk (setk_same e_m79) (by decide)) (by decide)) z_me) (cwV 0 hts gX12_counts_X12_isAllMet rfl rfl rfl (by decide +kernel) ⟨Nat.le_of_ble_eq_true rfl, Nat.le_of_ble_eq_true rfl⟩) hK hP hD hS hA [3, 0, 5] [1, 2, 4] ⟨rfl, rfl, by decide +kernel, by decide +kernel, by decide +kernel⟩ 0 12 rfl rfl myX_T rfl hl.1 rfl (Nat.le_of_ble_eq_true rfl) dX12_counts_63 ⟨Nat.le_of_ble_eq_true rfl, Nat.le_of_ble_eq_true rfl⟩ (fun r_15 w_16 H locs hw hP hD hS => ?_)
  obtain ⟨gmt_17, rfl, rfl⟩ := hw
  have hP : va_P D vwCl [(afi, .inl (cy 1, 6, .inr (.inl f_13))), (acs, .inl (cy 0, 6, .inl f_14)), (ane, .inl (cy 0, 50, .inl gne_2)), (m0, .inr (12, (((fm.set 79 (.int 0)).set 80 (.int 0)).set 85 (.long 0)))), (amt, .inl (cy 0, 8, .inl gmt_17)), (ame, .inl (cy 0, 2, .inl gme))] H := hP
  have hD : va_D A [(afi, .inl (cy 1, 6, .inr (.inl f_13))), (acs, .inl (cy 0, 6, .inl f_14)), (ane, .inl (cy 0, 50, .inl gne_2)), (m0, .inr (12, (((fm.set 79 (.int 0)).set 80 (.int 0)).set 85 (.long 0)))), (amt, .inl (cy 0, 8, .inl gmt_17)), (ame, .inl (cy 0, 2, .inl gme))] := hD
  refine lv_if_eq (tgt := 74) hx hb dX12_counts_66 (by decide) (fun c9 => absurd c9 (by decide)) (fun _ => ?_)
  refine lv_aload_n hx hb dX12_counts_69 rfl (lv_at hl 1 rfl) ?_
  refine lv_iload_n hx hb dX12_counts_70 rfl (lv_at hl 3 rfl) ?_
  refine cVv (As := [.int 0]) (rest := []) (wr := [(afi, .inl (cy 1, 6, .inr (.inl f_13))), (acs, .inl (cy 0, 6, .inl f_14)), (ane, .inl (cy 0, 50, .inl gne_2)), (amt, .inl (cy 0, 8, .inl gmt_17))]) ⟨hx, hb, hml, hown, hts⟩ (c_X12_adds l D cy m0 (((fm.set 79 (.int 0)).set 80 (.int 0)).set 85 (.long 0)) ame gme (setk (setk (setk e_m32 (by decide)) (by decide)) (by decide)) (setk (setk (setk e_m18 (by decide)) (by decide)) (by decide)) (setk_same (setk (setk e_m85 (by decide)) (by decide))) z_me) (cwV 1 hts gX12_counts_X12_adds rfl rfl rfl (by decide +kernel) ⟨Nat.le_of_ble_eq_true rfl, Nat.le_of_ble_eq_true rfl⟩) hK hP hD hS hA [3, 5] [0, 1, 2, 4] ⟨rfl, rfl, by decide +kernel, by decide +kernel, by decide +kernel⟩ 0 12 rfl rfl myX_T rfl hl.1 rfl (Nat.le_of_ble_eq_true rfl) dX12_counts_71 ⟨Nat.le_of_ble_eq_true rfl, Nat.le_of_ble_eq_true rfl⟩ (fun w_18 H locs hw hP hD hS => ?_)
  obtain rfl := hw
  have hP : va_P D vwCl [(afi, .inl (cy 1, 6, .inr (.inl f_13))), (acs, .inl (cy 0, 6, .inl f_14)), (ane, .inl (cy 0, 50, .inl gne_2)), (amt, .inl (cy 0, 8, .inl gmt_17)), (m0, .inr (12, ((((fm.set 79 (.int 0)).set 80 (.int 0)).set 85 (.long 0)).set 85 (.long 1)))), (ame, .inl (cy 0, 2, .inl gme))] H := hP
  have hD : va_D A [(afi, .inl (cy 1, 6, .inr (.inl f_13))), (acs, .inl (cy 0, 6, .inl f_14)), (ane, .inl (cy 0, 50, .inl gne_2)), (amt, .inl (cy 0, 8, .inl gmt_17)), (m0, .inr (12, ((((fm.set 79 (.int 0)).set 80 (.int 0)).set 85 (.long 0)).set 85 (.long 1)))), (ame, .inl (cy 0, 2, .inl gme))] := hD
  refine lv_iconst (v := 0) hx hb dX12_counts_74 (by decide) ?_
  refine lv_istore (lv' := [(4, .int 0), (3, .int 1), (0, .ref m0), (1, .int 0), (2, .int 0)]) hx hb dX12_counts_75 hl (by decide) rfl (fun ls hl => ?_)
  refine lv_iload hx hb dX12_counts_77 (lv_at hl 0 rfl) ?_
  refine lv_aload_n hx hb dX12_counts_79 rfl (lv_at hl 2 rfl) ?_
  refine va_get (ci := 12) (v := .ref ame) (C := RX12) (T := TX12) (N := 90) hx hb hts in_X12_counts_X12 hown hK hP 4 rfl rfl 32 (by decide) (hts (.fieldLink RX12 74 "HallTablesModel" "men" "[I") (List.mem_of_getElem? (i := 5) rfl)) (fun _ h9 => h9) (setk (setk (setk (setk e_m32 (by decide)) (by decide)) (by decide)) (by decide)) dX12_counts_80 ?_
  refine lv_aload_n hx hb dX12_counts_83 rfl (lv_at hl 2 rfl) ?_
  refine va_get (ci := 12) (v := .int 0) (C := RX12) (T := TX12) (N := 90) hx hb hts in_X12_counts_X12 hown hK hP 4 rfl rfl 18 (by decide) (hts (.fieldLink RX12 266 "HallTablesModel" "live" "I") (List.mem_of_getElem? (i := 6) rfl)) (fun _ h9 => h9) (setk (setk (setk (setk e_m18 (by decide)) (by decide)) (by decide)) (by decide)) dX12_counts_84 ?_
  refine aI hx hb hK hP 5 rfl 0 rfl (Nat.le_of_ble_eq_true rfl) (Nat.le_of_ble_eq_true rfl) dX12_counts_87 ?_
  refine tpI (v := 0) (z_me 0 (Nat.le_of_ble_eq_true rfl)) ?_
  refine lv_icmp_ge (tgt := 119) hx hb dX12_counts_88 (by decide) (fun _ => ?_) (fun c9 => absurd (by decide) c9)
  refine lv_iload hx hb dX12_counts_119 (lv_at hl 0 rfl) ?_
  refine lv_aload_n hx hb dX12_counts_121 rfl (lv_at hl 2 rfl) ?_
  refine va_get (ci := 12) (v := .ref ame) (C := RX12) (T := TX12) (N := 90) hx hb hts in_X12_counts_X12 hown hK hP 4 rfl rfl 32 (by decide) (hts (.fieldLink RX12 74 "HallTablesModel" "men" "[I") (List.mem_of_getElem? (i := 5) rfl)) (fun _ h9 => h9) (setk (setk (setk (setk e_m32 (by decide)) (by decide)) (by decide)) (by decide)) dX12_counts_122 ?_
  refine lv_aload_n hx hb dX12_counts_125 rfl (lv_at hl 2 rfl) ?_
  refine va_get (ci := 12) (v := .int 0) (C := RX12) (T := TX12) (N := 90) hx hb hts in_X12_counts_X12 hown hK hP 4 rfl rfl 18 (by decide) (hts (.fieldLink RX12 266 "HallTablesModel" "live" "I") (List.mem_of_getElem? (i := 6) rfl)) (fun _ h9 => h9) (setk (setk (setk (setk e_m18 (by decide)) (by decide)) (by decide)) (by decide)) dX12_counts_126 ?_
  refine aI hx hb hK hP 5 rfl 0 rfl (Nat.le_of_ble_eq_true rfl) (Nat.le_of_ble_eq_true rfl) dX12_counts_129 ?_
  refine tpI (v := 0) (z_me 0 (Nat.le_of_ble_eq_true rfl)) ?_
  refine lv_icmp_ge (tgt := 137) hx hb dX12_counts_130 (by decide) (fun _ => ?_) (fun c9 => absurd (by decide) c9)
  refine lv_iconst (v := 0) hx hb dX12_counts_137 (by decide) ?_
  refine lv_istore_n (lv' := [(3, .int 0), (4, .int 0), (0, .ref m0), (1, .int 0), (2, .int 0)]) hx hb dX12_counts_138 rfl hl (by decide) rfl (fun ls hl => ?_)
  refine lv_iload_n hx hb dX12_counts_139 rfl (lv_at hl 0 rfl) ?_
  refine lv_if_eq (tgt := 154) hx hb dX12_counts_140 (by decide) (fun _ => ?_) (fun c9 => absurd (by decide) c9)
  refine lv_goto (tgt := 58) hx hb dX12_counts_154 (by decide) ?_
  refine lv_iload_n hx hb dX12_counts_58 rfl (lv_at hl 0 rfl) ?_
  refine lv_if_eq (tgt := 157) hx hb dX12_counts_59 (by decide) (fun _ => ?_) (fun c9 => absurd (by decide) c9)
  have hP := hP.sub (ws' := [(m0, .inr (12, ((((fm.set 79 (.int 0)).set 80 (.int 0)).set 85 (.long 0)).set 85 (.long 1))))]) [4] rfl
  have hD := hD.sub (ws' := [(m0, .inr (12, ((((fm.set 79 (.int 0)).set 80 (.int 0)).set 85 (.long 0)).set 85 (.long 1))))]) [4] (by decide +kernel) rfl
  exact endV hx hb hr hlocks [(m0, .inr (12, ((((fm.set 79 (.int 0)).set 80 (.int 0)).set 85 (.long 0)).set 85 (.long 1))))] rfl hP hD hS (Nat.le_of_ble_eq_true rfl) (Nat.le_of_ble_eq_true rfl) dX12_counts_157

theorem in_X12_fits_X12 : ∀ w ∈ u_ws RX12 TX12 90, w ∈ wsX12_fits := fun w h => (List.mem_cons_of_mem _ (List.mem_append_right _ h))
set_option maxRecDepth 100000 in
set_option maxHeartbeats 4000000 in
/-- the reference: fits on a new object -/
theorem c_X12_fits (l : Launch) (D : va_G) (cy : Nat → ClassId) (m0 : Nat) (fm : List Value) (ane : Nat) (ame : Nat) (amt : Nat) (afi : Nat) (acs : Nat) (gne : Nat → Int32) (gme : Nat → Int32) (gmt : Nat → Int32) (gcs : Nat → Int32) (gfi : Nat → Int64) (p0 : Int32) (e_m77 : fm[77]? = some (.ref ane)) (e_m32 : fm[32]? = some (.ref ame)) (e_m18 : fm[18]? = some (.int 0)) (e_m79 : fm[79]? = some (.int 0)) (e_m80 : fm[80]? = some (.int 0)) (e_m87 : fm[87]? = some (.ref amt)) (e_m85 : fm[85]? = some (.long 0)) (e_m86 : fm[86]? = some (.ref afi)) (e_m84 : fm[84]? = some (.ref acs)) (e_m73 : fm[73]? = some (.int 0)) (z_me : ∀ j : Nat, j < 2 → gme j = 0) : Ctl l D cy yX12_fits wsX12_fits ({ frames := 2, cells := 0, slots := 0, locals := 51 } : Room) [.ref m0, .int p0] [(m0, .inr (12, fm)), (ane, .inl (cy 0, 50, .inl gne)), (ame, .inl (cy 0, 2, .inl gme)), (amt, .inl (cy 0, 8, .inl gmt)), (afi, .inl (cy 1, 6, .inr (.inl gfi))), (acs, .inl (cy 0, 6, .inl gcs))] myT (fun (r : Int64) (w : va_W) => r = fitsV p0 ∧ w = []) := by
  refine ofL (cc := cX12_fits) (maxL := 2) (ret := (some .long)) (by decide) rfl (Nat.le_of_ble_eq_true rfl) ?_
  intro p e s m args below meth c A ls hx hb hr hts hown hlocks hml hin hK hP hD hS hA hX hl
  have hown : s.vm.findClass RX12 = some m.cls := hown
  have hl : lv_has ls 2 [(0, .ref m0), (1, .int p0)] := hl
  refine lv_iload_n hx hb dX12_fits_0 rfl (lv_at hl 1 rfl) ?_
  refine lv_iconst (v := 0) hx hb dX12_fits_1 (by decide) ?_
  refine lv_aload_n hx hb dX12_fits_2 rfl (lv_at hl 0 rfl) ?_
  refine va_get (ci := 12) (v := .int 0) (C := RX12) (T := TX12) (N := 90) hx hb hts in_X12_fits_X12 hown hK hP 0 rfl rfl 73 (by decide) (hts (.fieldLink RX12 284 "HallTablesModel" "seen" "I") (List.mem_of_getElem? (i := 1) rfl)) (fun _ h9 => h9) e_m73 dX12_fits_3 ?_
  refine cSi (As := [.int p0, .int 0, .int 0]) (rest := []) (wr := [(m0, .inr (12, fm)), (ane, .inl (cy 0, 50, .inl gne)), (ame, .inl (cy 0, 2, .inl gme)), (amt, .inl (cy 0, 8, .inl gmt)), (afi, .inl (cy 1, 6, .inr (.inl gfi))), (acs, .inl (cy 0, 6, .inl gcs))]) ⟨hx, hb, hml, hown, hts⟩ (c_X12_in l D cy p0 0 0 ) (va_cwS 3 hts gX12_fits_X12_in rfl rfl rfl (by decide +kernel) ⟨Nat.le_of_ble_eq_true rfl, Nat.le_of_ble_eq_true rfl⟩) hK hP hD hS hA [] [0, 1, 2, 3, 4, 5] ⟨rfl, rfl, by decide +kernel, by decide +kernel, by decide +kernel⟩ myX_T rfl hl.1 rfl (Nat.le_of_ble_eq_true rfl) dX12_fits_6 ⟨Nat.le_of_ble_eq_true rfl, Nat.le_of_ble_eq_true rfl⟩ (fun r_1 w_2 H locs hw hP hD hS => ?_)
  obtain ⟨rfl, rfl⟩ := hw
  have hP : va_P D vwCl [(m0, .inr (12, fm)), (ane, .inl (cy 0, 50, .inl gne)), (ame, .inl (cy 0, 2, .inl gme)), (amt, .inl (cy 0, 8, .inl gmt)), (afi, .inl (cy 1, 6, .inr (.inl gfi))), (acs, .inl (cy 0, 6, .inl gcs))] H := hP
  have hD : va_D A [(m0, .inr (12, fm)), (ane, .inl (cy 0, 50, .inl gne)), (ame, .inl (cy 0, 2, .inl gme)), (amt, .inl (cy 0, 8, .inl gmt)), (afi, .inl (cy 1, 6, .inr (.inl gfi))), (acs, .inl (cy 0, 6, .inl gcs))] := hD
  refine lv_if_ne (tgt := 16) hx hb dX12_fits_9 (by decide) (fun c_3 => ?_) (fun c_3 => ?_)
  · obtain rfl : p0 = 0 := fits_0 c_3
    refine lv_aload_n hx hb dX12_fits_16 rfl (lv_at hl 0 rfl) ?_
    refine lv_iload_n hx hb dX12_fits_17 rfl (lv_at hl 1 rfl) ?_
    refine lv_iconst (v := 0) hx hb dX12_fits_18 (by decide) ?_
    refine cVv (As := [.int 0, .int 0]) (rest := []) (wr := []) ⟨hx, hb, hml, hown, hts⟩ (c_X12_counts l D cy m0 fm ane ame amt afi acs gne gme gmt gcs gfi e_m77 e_m32 e_m18 e_m79 e_m80 e_m87 e_m85 e_m86 e_m84 z_me) (cwV 2 hts gX12_fits_X12_counts rfl rfl rfl (by decide +kernel) ⟨Nat.le_of_ble_eq_true rfl, Nat.le_of_ble_eq_true rfl⟩) hK hP hD hS hA [0, 1, 2, 3, 4, 5] [] ⟨rfl, rfl, by decide +kernel, by decide +kernel, by decide +kernel⟩ 0 12 rfl rfl myX_T rfl hl.1 rfl (Nat.le_of_ble_eq_true rfl) dX12_fits_19 ⟨Nat.le_of_ble_eq_true rfl, Nat.le_of_ble_eq_true rfl⟩ (fun w_4 H locs hw hP hD hS => ?_)
    obtain rfl := hw
    have hP : va_P D vwCl [(m0, .inr (12, ((((fm.set 79 (.int 0)).set 80 (.int 0)).set 85 (.long 0)).set 85 (.long 1))))] H := hP
    have hD : va_D A [(m0, .inr (12, ((((fm.set 79 (.int 0)).set 80 (.int 0)).set 85 (.long 0)).set 85 (.long 1))))] := hD
    refine lv_aload_n hx hb dX12_fits_22 rfl (lv_at hl 0 rfl) ?_
    refine va_get (ci := 12) (v := .long 1) (C := RX12) (T := TX12) (N := 90) hx hb hts in_X12_fits_X12 hown hK hP 0 rfl rfl 85 (by decide) (hts (.fieldLink RX12 531 "HallTablesModel" "fitAll" "J") (List.mem_of_getElem? (i := 3) rfl)) (fun _ h9 => h9) (setk_same (setk_same (setk (setk e_m85 (by decide)) (by decide)))) dX12_fits_23 ?_
    have hP := hP.sub (ws' := []) [] rfl
    have hD := hD.sub (ws' := []) [] (by decide +kernel) rfl
    exact endL hx hb hr hlocks [] ⟨rfl, rfl⟩ hP hD hS (Nat.le_of_ble_eq_true rfl) (Nat.le_of_ble_eq_true rfl) dX12_fits_26
  · refine lv_ldc2 hx hb hown (hts (.constantLong RX12 541 (-1)) (List.mem_of_getElem? (i := 2) rfl)) dX12_fits_12 ?_
    refine tpL (v := (-1)) rfl ?_
    have hP := hP.sub (ws' := []) [] rfl
    have hD := hD.sub (ws' := []) [] (by decide +kernel) rfl
    exact endL hx hb hr hlocks [] ⟨(fitsV_n c_3), rfl⟩ hP hD hS (Nat.le_of_ble_eq_true rfl) (Nat.le_of_ble_eq_true rfl) dX12_fits_15

theorem in_X12_hold_X12 : ∀ w ∈ u_ws RX12 TX12 90, w ∈ wsX12_hold := fun w h => (List.mem_cons_of_mem _ (List.mem_append_right _ h))
set_option maxRecDepth 100000 in
set_option maxHeartbeats 4000000 in
/-- the reference: hold on a new object -/
theorem c_X12_hold (l : Launch) (D : va_G) (cy : Nat → ClassId) (m0 : Nat) (fm : List Value) (ano : Nat) (ahe : Nat) (ahd : Nat) (gno : Nat → Int32) (ghe : Nat → Int32) (ghd : Nat → Int32) (p0 : Int32) (e_m39 : fm[39]? = some (.ref ano)) (e_m88 : fm[88]? = some (.ref ahe)) (e_m89 : fm[89]? = some (.ref ahd)) : Cti l D cy yX12_hold wsX12_hold ({ frames := 1, cells := 0, slots := 0, locals := 22 } : Room) [.ref m0, .int p0] [(m0, .inr (12, fm)), (ano, .inl (cy 0, 80, .inl gno)), (ahe, .inl (cy 3, 3, .inl ghe)), (ahd, .inl (cy 0, 240, .inl ghd))] myT (fun (r : Int32) (w : va_W) => r = inV p0 0 2 ∧ w = []) := by
  refine ofI (cc := cX12_hold) (maxL := 3) (ret := (some .boolean)) (by decide) rfl (Nat.le_of_ble_eq_true rfl) ?_
  intro p e s m args below meth c A ls hx hb hr hts hown hlocks hml hin hK hP hD hS hA hX hl
  have hown : s.vm.findClass RX12 = some m.cls := hown
  have hl : lv_has ls 3 [(0, .ref m0), (1, .int p0)] := hl
  refine lv_iload_n hx hb dX12_hold_0 rfl (lv_at hl 1 rfl) ?_
  refine lv_iconst (v := 0) hx hb dX12_hold_1 (by decide) ?_
  refine lv_iconst (v := 2) hx hb dX12_hold_2 (by decide) ?_
  refine cSi (As := [.int p0, .int 0, .int 2]) (rest := []) (wr := [(m0, .inr (12, fm)), (ano, .inl (cy 0, 80, .inl gno)), (ahe, .inl (cy 3, 3, .inl ghe)), (ahd, .inl (cy 0, 240, .inl ghd))]) ⟨hx, hb, hml, hown, hts⟩ (c_X12_in l D cy p0 0 2 ) (va_cwS 3 hts gX12_hold_X12_in rfl rfl rfl (by decide +kernel) ⟨Nat.le_of_ble_eq_true rfl, Nat.le_of_ble_eq_true rfl⟩) hK hP hD hS hA [] [0, 1, 2, 3] ⟨rfl, rfl, by decide +kernel, by decide +kernel, by decide +kernel⟩ myX_T rfl hl.1 rfl (Nat.le_of_ble_eq_true rfl) dX12_hold_3 ⟨Nat.le_of_ble_eq_true rfl, Nat.le_of_ble_eq_true rfl⟩ (fun r_1 w_2 H locs hw hP hD hS => ?_)
  obtain ⟨rfl, rfl⟩ := hw
  have hP : va_P D vwCl [(m0, .inr (12, fm)), (ano, .inl (cy 0, 80, .inl gno)), (ahe, .inl (cy 3, 3, .inl ghe)), (ahd, .inl (cy 0, 240, .inl ghd))] H := hP
  have hD : va_D A [(m0, .inr (12, fm)), (ano, .inl (cy 0, 80, .inl gno)), (ahe, .inl (cy 3, 3, .inl ghe)), (ahd, .inl (cy 0, 240, .inl ghd))] := hD
  refine lv_if_ne (tgt := 11) hx hb dX12_hold_6 (by decide) (fun c_3 => ?_) (fun c_3 => ?_)
  · rcases (rng3b c_3) with rfl | rfl | rfl
    · refine lv_aload_n hx hb dX12_hold_11 rfl (lv_at hl 0 rfl) ?_
      refine va_get (ci := 12) (v := .ref ahe) (C := RX12) (T := TX12) (N := 90) hx hb hts in_X12_hold_X12 hown hK hP 0 rfl rfl 88 (by decide) (hts (.fieldLink RX12 188 "HallTablesModel" "isHeld" "[Z") (List.mem_of_getElem? (i := 1) rfl)) (fun _ h9 => h9) e_m88 dX12_hold_12 ?_
      refine lv_iload_n hx hb dX12_hold_15 rfl (lv_at hl 1 rfl) ?_
      refine lv_iconst (v := 1) hx hb dX12_hold_16 (by decide) ?_
      refine sZ hx hb hK hP hD hS 2 rfl 0 rfl (Nat.le_of_ble_eq_true rfl) (Nat.le_of_ble_eq_true rfl) dX12_hold_17 (fun H locs hP hD hS => ?_)
      have hP : va_P D vwCl [(m0, .inr (12, fm)), (ano, .inl (cy 0, 80, .inl gno)), (ahe, .inl (cy 3, 3, .inl (upd ghe 0 (vp_nar .boolean 1)))), (ahd, .inl (cy 0, 240, .inl ghd))] H := hP
      have hD : va_D A [(m0, .inr (12, fm)), (ano, .inl (cy 0, 80, .inl gno)), (ahe, .inl (cy 3, 3, .inl (upd ghe 0 (vp_nar .boolean 1)))), (ahd, .inl (cy 0, 240, .inl ghd))] := hD
      obtain ⟨f_4, ef_4⟩ : ∃ z, z = upd ghe 0 (vp_nar .boolean 1) := ⟨_, rfl⟩
      rw [← ef_4] at hP hD
      refine lv_iconst (v := 0) hx hb dX12_hold_18 (by decide) ?_
      refine lv_istore_n (lv' := [(2, .int 0), (0, .ref m0), (1, .int 0)]) hx hb dX12_hold_19 rfl hl (by decide) rfl (fun ls hl => ?_)
      have lp_8 : ∀ (n_6 i_5 : Nat) (g_10 : Nat → Int32) (H : Heap) (locs : List Loc) (ls : Array Slot), i_5 + n_6 = 80 → va_P D vwCl [(m0, .inr (12, fm)), (ano, .inl (cy 0, 80, .inl gno)), (ahe, .inl (cy 3, 3, .inl f_4)), (ahd, .inl (cy 0, 240, .inl g_10))] H → va_D A [(m0, .inr (12, fm)), (ano, .inl (cy 0, 80, .inl gno)), (ahe, .inl (cy 3, 3, .inl f_4)), (ahd, .inl (cy 0, 240, .inl g_10))] → va_S A s.heap H locs → lv_has ls 3 [(2, .int (nI i_5)), (0, .ref m0), (1, .int 0)] → W p l e ({ frames := 1, cells := 0, slots := 0, locals := 22 } : Room) s m args below meth c H locs 0 0 (MQ below (myQi D A (fun (r : Int32) (w : va_W) => r = inV 0 0 2 ∧ w = [])) args s ({ frames := 1, cells := 0, slots := 0, locals := 22 } : Room).cells ({ frames := 1, cells := 0, slots := 0, locals := 22 } : Room).slots A) (F0 m 20 ls []) := by
        intro n_6
        induction n_6 with
        | zero =>
          intro i_5 g_10 H locs ls hi_9 hP hD hS hl
          obtain rfl : i_5 = 80 := by omega
          refine lv_iload_n hx hb dX12_hold_20 rfl (lv_at hl 0 rfl) ?_
          refine lv_bipush (v := 80) hx hb dX12_hold_21 (by decide) ?_
          refine lv_icmp_ge (tgt := 49) hx hb dX12_hold_23 (by decide) (fun _ => ?_) (fun c9 => absurd (by decide) c9)
          refine lv_iconst (v := 1) hx hb dX12_hold_49 (by decide) ?_
          have hP := hP.sub (ws' := []) [] rfl
          have hD := hD.sub (ws' := []) [] (by decide +kernel) rfl
          exact endI hx hb hr hlocks [] rfl ⟨(by decide), rfl⟩ hP hD hS (Nat.le_of_ble_eq_true rfl) (Nat.le_of_ble_eq_true rfl) dX12_hold_50
        | succ n_6 ih_7 =>
          intro i_5 g_10 H locs ls hi_9 hP hD hS hl
          refine lv_iload_n hx hb dX12_hold_20 rfl (lv_at hl 0 rfl) ?_
          refine lv_bipush (v := 80) hx hb dX12_hold_21 (by decide) ?_
          refine lv_icmp_ge (tgt := 49) hx hb dX12_hold_23 (by decide) (fun c9 => absurd c9 (nI_ge (a := i_5) (b := 80) (by omega) (Nat.le_of_ble_eq_true rfl))) (fun _ => ?_)
          refine lv_aload_n hx hb dX12_hold_26 rfl (lv_at hl 1 rfl) ?_
          refine va_get (ci := 12) (v := .ref ahd) (C := RX12) (T := TX12) (N := 90) hx hb hts in_X12_hold_X12 hown hK hP 0 rfl rfl 89 (by decide) (hts (.fieldLink RX12 191 "HallTablesModel" "held" "[I") (List.mem_of_getElem? (i := 2) rfl)) (fun _ h9 => h9) e_m89 dX12_hold_27 ?_
          refine lv_bipush (v := 80) hx hb dX12_hold_30 (by decide) ?_
          refine lv_iload_n hx hb dX12_hold_32 rfl (lv_at hl 2 rfl) ?_
          refine lv_imul hx hb dX12_hold_33 ?_
          refine tpI (v := 0) (by decide) ?_
          refine lv_iload_n hx hb dX12_hold_34 rfl (lv_at hl 0 rfl) ?_
          refine lv_iadd hx hb dX12_hold_35 ?_
          refine tpI (v := nI (0 + i_5)) (nI_add 0 i_5) ?_
          refine lv_aload_n hx hb dX12_hold_36 rfl (lv_at hl 1 rfl) ?_
          refine va_get (ci := 12) (v := .ref ano) (C := RX12) (T := TX12) (N := 90) hx hb hts in_X12_hold_X12 hown hK hP 0 rfl rfl 39 (by decide) (hts (.fieldLink RX12 95 "HallTablesModel" "now" "[I") (List.mem_of_getElem? (i := 3) rfl)) (fun _ h9 => h9) e_m39 dX12_hold_37 ?_
          refine lv_iload_n hx hb dX12_hold_40 rfl (lv_at hl 0 rfl) ?_
          refine aI hx hb hK hP 1 rfl i_5 rfl (by omega) (Nat.le_of_ble_eq_true rfl) dX12_hold_41 ?_
          refine lv_topi (fun v_11 ev_11 => ?_)
          refine sI hx hb hK hP hD hS 3 rfl (0 + i_5) rfl (by omega) (Nat.le_of_ble_eq_true rfl) dX12_hold_42 (fun H locs hP hD hS => ?_)
          have hP : va_P D vwCl [(m0, .inr (12, fm)), (ano, .inl (cy 0, 80, .inl gno)), (ahe, .inl (cy 3, 3, .inl f_4)), (ahd, .inl (cy 0, 240, .inl (upd g_10 (0 + i_5) v_11)))] H := hP
          have hD : va_D A [(m0, .inr (12, fm)), (ano, .inl (cy 0, 80, .inl gno)), (ahe, .inl (cy 3, 3, .inl f_4)), (ahd, .inl (cy 0, 240, .inl (upd g_10 (0 + i_5) v_11)))] := hD
          obtain ⟨f_12, ef_12⟩ : ∃ z, z = upd g_10 (0 + i_5) v_11 := ⟨_, rfl⟩
          rw [← ef_12] at hP hD
          refine lv_iinc (v := nI (i_5 + 1)) (lv' := [(2, .int (nI (i_5 + 1))), (0, .ref m0), (1, .int 0)]) hx hb dX12_hold_43 hl (k := 0) rfl (nI_1 i_5) (by decide) rfl (fun ls hl => ?_)
          refine lv_goto (tgt := 20) hx hb dX12_hold_46 (by decide) ?_
          exact ih_7 (i_5 + 1) f_12 H locs ls (by omega) hP hD hS (lv_sub hl [0, 1, 2] rfl)
      exact lp_8 80 0 ghd _ _ _ (by omega) hP hD hS hl
    · refine lv_aload_n hx hb dX12_hold_11 rfl (lv_at hl 0 rfl) ?_
      refine va_get (ci := 12) (v := .ref ahe) (C := RX12) (T := TX12) (N := 90) hx hb hts in_X12_hold_X12 hown hK hP 0 rfl rfl 88 (by decide) (hts (.fieldLink RX12 188 "HallTablesModel" "isHeld" "[Z") (List.mem_of_getElem? (i := 1) rfl)) (fun _ h9 => h9) e_m88 dX12_hold_12 ?_
      refine lv_iload_n hx hb dX12_hold_15 rfl (lv_at hl 1 rfl) ?_
      refine lv_iconst (v := 1) hx hb dX12_hold_16 (by decide) ?_
      refine sZ hx hb hK hP hD hS 2 rfl 1 rfl (Nat.le_of_ble_eq_true rfl) (Nat.le_of_ble_eq_true rfl) dX12_hold_17 (fun H locs hP hD hS => ?_)
      have hP : va_P D vwCl [(m0, .inr (12, fm)), (ano, .inl (cy 0, 80, .inl gno)), (ahe, .inl (cy 3, 3, .inl (upd ghe 1 (vp_nar .boolean 1)))), (ahd, .inl (cy 0, 240, .inl ghd))] H := hP
      have hD : va_D A [(m0, .inr (12, fm)), (ano, .inl (cy 0, 80, .inl gno)), (ahe, .inl (cy 3, 3, .inl (upd ghe 1 (vp_nar .boolean 1)))), (ahd, .inl (cy 0, 240, .inl ghd))] := hD
      obtain ⟨f_13, ef_13⟩ : ∃ z, z = upd ghe 1 (vp_nar .boolean 1) := ⟨_, rfl⟩
      rw [← ef_13] at hP hD
      refine lv_iconst (v := 0) hx hb dX12_hold_18 (by decide) ?_
      refine lv_istore_n (lv' := [(2, .int 0), (0, .ref m0), (1, .int 1)]) hx hb dX12_hold_19 rfl hl (by decide) rfl (fun ls hl => ?_)
      have lp_17 : ∀ (n_15 i_14 : Nat) (g_19 : Nat → Int32) (H : Heap) (locs : List Loc) (ls : Array Slot), i_14 + n_15 = 80 → va_P D vwCl [(m0, .inr (12, fm)), (ano, .inl (cy 0, 80, .inl gno)), (ahe, .inl (cy 3, 3, .inl f_13)), (ahd, .inl (cy 0, 240, .inl g_19))] H → va_D A [(m0, .inr (12, fm)), (ano, .inl (cy 0, 80, .inl gno)), (ahe, .inl (cy 3, 3, .inl f_13)), (ahd, .inl (cy 0, 240, .inl g_19))] → va_S A s.heap H locs → lv_has ls 3 [(2, .int (nI i_14)), (0, .ref m0), (1, .int 1)] → W p l e ({ frames := 1, cells := 0, slots := 0, locals := 22 } : Room) s m args below meth c H locs 0 0 (MQ below (myQi D A (fun (r : Int32) (w : va_W) => r = inV 1 0 2 ∧ w = [])) args s ({ frames := 1, cells := 0, slots := 0, locals := 22 } : Room).cells ({ frames := 1, cells := 0, slots := 0, locals := 22 } : Room).slots A) (F0 m 20 ls []) := by
        intro n_15
        induction n_15 with
        | zero =>
          intro i_14 g_19 H locs ls hi_18 hP hD hS hl
          obtain rfl : i_14 = 80 := by omega
          refine lv_iload_n hx hb dX12_hold_20 rfl (lv_at hl 0 rfl) ?_
          refine lv_bipush (v := 80) hx hb dX12_hold_21 (by decide) ?_
          refine lv_icmp_ge (tgt := 49) hx hb dX12_hold_23 (by decide) (fun _ => ?_) (fun c9 => absurd (by decide) c9)
          refine lv_iconst (v := 1) hx hb dX12_hold_49 (by decide) ?_
          have hP := hP.sub (ws' := []) [] rfl
          have hD := hD.sub (ws' := []) [] (by decide +kernel) rfl
          exact endI hx hb hr hlocks [] rfl ⟨(by decide), rfl⟩ hP hD hS (Nat.le_of_ble_eq_true rfl) (Nat.le_of_ble_eq_true rfl) dX12_hold_50
        | succ n_15 ih_16 =>
          intro i_14 g_19 H locs ls hi_18 hP hD hS hl
          refine lv_iload_n hx hb dX12_hold_20 rfl (lv_at hl 0 rfl) ?_
          refine lv_bipush (v := 80) hx hb dX12_hold_21 (by decide) ?_
          refine lv_icmp_ge (tgt := 49) hx hb dX12_hold_23 (by decide) (fun c9 => absurd c9 (nI_ge (a := i_14) (b := 80) (by omega) (Nat.le_of_ble_eq_true rfl))) (fun _ => ?_)
          refine lv_aload_n hx hb dX12_hold_26 rfl (lv_at hl 1 rfl) ?_
          refine va_get (ci := 12) (v := .ref ahd) (C := RX12) (T := TX12) (N := 90) hx hb hts in_X12_hold_X12 hown hK hP 0 rfl rfl 89 (by decide) (hts (.fieldLink RX12 191 "HallTablesModel" "held" "[I") (List.mem_of_getElem? (i := 2) rfl)) (fun _ h9 => h9) e_m89 dX12_hold_27 ?_
          refine lv_bipush (v := 80) hx hb dX12_hold_30 (by decide) ?_
          refine lv_iload_n hx hb dX12_hold_32 rfl (lv_at hl 2 rfl) ?_
          refine lv_imul hx hb dX12_hold_33 ?_
          refine tpI (v := 80) (by decide) ?_
          refine lv_iload_n hx hb dX12_hold_34 rfl (lv_at hl 0 rfl) ?_
          refine lv_iadd hx hb dX12_hold_35 ?_
          refine tpI (v := nI (80 + i_14)) (nI_add 80 i_14) ?_
          refine lv_aload_n hx hb dX12_hold_36 rfl (lv_at hl 1 rfl) ?_
          refine va_get (ci := 12) (v := .ref ano) (C := RX12) (T := TX12) (N := 90) hx hb hts in_X12_hold_X12 hown hK hP 0 rfl rfl 39 (by decide) (hts (.fieldLink RX12 95 "HallTablesModel" "now" "[I") (List.mem_of_getElem? (i := 3) rfl)) (fun _ h9 => h9) e_m39 dX12_hold_37 ?_
          refine lv_iload_n hx hb dX12_hold_40 rfl (lv_at hl 0 rfl) ?_
          refine aI hx hb hK hP 1 rfl i_14 rfl (by omega) (Nat.le_of_ble_eq_true rfl) dX12_hold_41 ?_
          refine lv_topi (fun v_20 ev_20 => ?_)
          refine sI hx hb hK hP hD hS 3 rfl (80 + i_14) rfl (by omega) (Nat.le_of_ble_eq_true rfl) dX12_hold_42 (fun H locs hP hD hS => ?_)
          have hP : va_P D vwCl [(m0, .inr (12, fm)), (ano, .inl (cy 0, 80, .inl gno)), (ahe, .inl (cy 3, 3, .inl f_13)), (ahd, .inl (cy 0, 240, .inl (upd g_19 (80 + i_14) v_20)))] H := hP
          have hD : va_D A [(m0, .inr (12, fm)), (ano, .inl (cy 0, 80, .inl gno)), (ahe, .inl (cy 3, 3, .inl f_13)), (ahd, .inl (cy 0, 240, .inl (upd g_19 (80 + i_14) v_20)))] := hD
          obtain ⟨f_21, ef_21⟩ : ∃ z, z = upd g_19 (80 + i_14) v_20 := ⟨_, rfl⟩
          rw [← ef_21] at hP hD
          refine lv_iinc (v := nI (i_14 + 1)) (lv' := [(2, .int (nI (i_14 + 1))), (0, .ref m0), (1, .int 1)]) hx hb dX12_hold_43 hl (k := 0) rfl (nI_1 i_14) (by decide) rfl (fun ls hl => ?_)
          refine lv_goto (tgt := 20) hx hb dX12_hold_46 (by decide) ?_
          exact ih_16 (i_14 + 1) f_21 H locs ls (by omega) hP hD hS (lv_sub hl [0, 1, 2] rfl)
      exact lp_17 80 0 ghd _ _ _ (by omega) hP hD hS hl
    · refine lv_aload_n hx hb dX12_hold_11 rfl (lv_at hl 0 rfl) ?_
      refine va_get (ci := 12) (v := .ref ahe) (C := RX12) (T := TX12) (N := 90) hx hb hts in_X12_hold_X12 hown hK hP 0 rfl rfl 88 (by decide) (hts (.fieldLink RX12 188 "HallTablesModel" "isHeld" "[Z") (List.mem_of_getElem? (i := 1) rfl)) (fun _ h9 => h9) e_m88 dX12_hold_12 ?_
      refine lv_iload_n hx hb dX12_hold_15 rfl (lv_at hl 1 rfl) ?_
      refine lv_iconst (v := 1) hx hb dX12_hold_16 (by decide) ?_
      refine sZ hx hb hK hP hD hS 2 rfl 2 rfl (Nat.le_of_ble_eq_true rfl) (Nat.le_of_ble_eq_true rfl) dX12_hold_17 (fun H locs hP hD hS => ?_)
      have hP : va_P D vwCl [(m0, .inr (12, fm)), (ano, .inl (cy 0, 80, .inl gno)), (ahe, .inl (cy 3, 3, .inl (upd ghe 2 (vp_nar .boolean 1)))), (ahd, .inl (cy 0, 240, .inl ghd))] H := hP
      have hD : va_D A [(m0, .inr (12, fm)), (ano, .inl (cy 0, 80, .inl gno)), (ahe, .inl (cy 3, 3, .inl (upd ghe 2 (vp_nar .boolean 1)))), (ahd, .inl (cy 0, 240, .inl ghd))] := hD
      obtain ⟨f_22, ef_22⟩ : ∃ z, z = upd ghe 2 (vp_nar .boolean 1) := ⟨_, rfl⟩
      rw [← ef_22] at hP hD
      refine lv_iconst (v := 0) hx hb dX12_hold_18 (by decide) ?_
      refine lv_istore_n (lv' := [(2, .int 0), (0, .ref m0), (1, .int 2)]) hx hb dX12_hold_19 rfl hl (by decide) rfl (fun ls hl => ?_)
      have lp_26 : ∀ (n_24 i_23 : Nat) (g_28 : Nat → Int32) (H : Heap) (locs : List Loc) (ls : Array Slot), i_23 + n_24 = 80 → va_P D vwCl [(m0, .inr (12, fm)), (ano, .inl (cy 0, 80, .inl gno)), (ahe, .inl (cy 3, 3, .inl f_22)), (ahd, .inl (cy 0, 240, .inl g_28))] H → va_D A [(m0, .inr (12, fm)), (ano, .inl (cy 0, 80, .inl gno)), (ahe, .inl (cy 3, 3, .inl f_22)), (ahd, .inl (cy 0, 240, .inl g_28))] → va_S A s.heap H locs → lv_has ls 3 [(2, .int (nI i_23)), (0, .ref m0), (1, .int 2)] → W p l e ({ frames := 1, cells := 0, slots := 0, locals := 22 } : Room) s m args below meth c H locs 0 0 (MQ below (myQi D A (fun (r : Int32) (w : va_W) => r = inV 2 0 2 ∧ w = [])) args s ({ frames := 1, cells := 0, slots := 0, locals := 22 } : Room).cells ({ frames := 1, cells := 0, slots := 0, locals := 22 } : Room).slots A) (F0 m 20 ls []) := by
        intro n_24
        induction n_24 with
        | zero =>
          intro i_23 g_28 H locs ls hi_27 hP hD hS hl
          obtain rfl : i_23 = 80 := by omega
          refine lv_iload_n hx hb dX12_hold_20 rfl (lv_at hl 0 rfl) ?_
          refine lv_bipush (v := 80) hx hb dX12_hold_21 (by decide) ?_
          refine lv_icmp_ge (tgt := 49) hx hb dX12_hold_23 (by decide) (fun _ => ?_) (fun c9 => absurd (by decide) c9)
          refine lv_iconst (v := 1) hx hb dX12_hold_49 (by decide) ?_
          have hP := hP.sub (ws' := []) [] rfl
          have hD := hD.sub (ws' := []) [] (by decide +kernel) rfl
          exact endI hx hb hr hlocks [] rfl ⟨(by decide), rfl⟩ hP hD hS (Nat.le_of_ble_eq_true rfl) (Nat.le_of_ble_eq_true rfl) dX12_hold_50
        | succ n_24 ih_25 =>
          intro i_23 g_28 H locs ls hi_27 hP hD hS hl
          refine lv_iload_n hx hb dX12_hold_20 rfl (lv_at hl 0 rfl) ?_
          refine lv_bipush (v := 80) hx hb dX12_hold_21 (by decide) ?_
          refine lv_icmp_ge (tgt := 49) hx hb dX12_hold_23 (by decide) (fun c9 => absurd c9 (nI_ge (a := i_23) (b := 80) (by omega) (Nat.le_of_ble_eq_true rfl))) (fun _ => ?_)
          refine lv_aload_n hx hb dX12_hold_26 rfl (lv_at hl 1 rfl) ?_
          refine va_get (ci := 12) (v := .ref ahd) (C := RX12) (T := TX12) (N := 90) hx hb hts in_X12_hold_X12 hown hK hP 0 rfl rfl 89 (by decide) (hts (.fieldLink RX12 191 "HallTablesModel" "held" "[I") (List.mem_of_getElem? (i := 2) rfl)) (fun _ h9 => h9) e_m89 dX12_hold_27 ?_
          refine lv_bipush (v := 80) hx hb dX12_hold_30 (by decide) ?_
          refine lv_iload_n hx hb dX12_hold_32 rfl (lv_at hl 2 rfl) ?_
          refine lv_imul hx hb dX12_hold_33 ?_
          refine tpI (v := 160) (by decide) ?_
          refine lv_iload_n hx hb dX12_hold_34 rfl (lv_at hl 0 rfl) ?_
          refine lv_iadd hx hb dX12_hold_35 ?_
          refine tpI (v := nI (160 + i_23)) (nI_add 160 i_23) ?_
          refine lv_aload_n hx hb dX12_hold_36 rfl (lv_at hl 1 rfl) ?_
          refine va_get (ci := 12) (v := .ref ano) (C := RX12) (T := TX12) (N := 90) hx hb hts in_X12_hold_X12 hown hK hP 0 rfl rfl 39 (by decide) (hts (.fieldLink RX12 95 "HallTablesModel" "now" "[I") (List.mem_of_getElem? (i := 3) rfl)) (fun _ h9 => h9) e_m39 dX12_hold_37 ?_
          refine lv_iload_n hx hb dX12_hold_40 rfl (lv_at hl 0 rfl) ?_
          refine aI hx hb hK hP 1 rfl i_23 rfl (by omega) (Nat.le_of_ble_eq_true rfl) dX12_hold_41 ?_
          refine lv_topi (fun v_29 ev_29 => ?_)
          refine sI hx hb hK hP hD hS 3 rfl (160 + i_23) rfl (by omega) (Nat.le_of_ble_eq_true rfl) dX12_hold_42 (fun H locs hP hD hS => ?_)
          have hP : va_P D vwCl [(m0, .inr (12, fm)), (ano, .inl (cy 0, 80, .inl gno)), (ahe, .inl (cy 3, 3, .inl f_22)), (ahd, .inl (cy 0, 240, .inl (upd g_28 (160 + i_23) v_29)))] H := hP
          have hD : va_D A [(m0, .inr (12, fm)), (ano, .inl (cy 0, 80, .inl gno)), (ahe, .inl (cy 3, 3, .inl f_22)), (ahd, .inl (cy 0, 240, .inl (upd g_28 (160 + i_23) v_29)))] := hD
          obtain ⟨f_30, ef_30⟩ : ∃ z, z = upd g_28 (160 + i_23) v_29 := ⟨_, rfl⟩
          rw [← ef_30] at hP hD
          refine lv_iinc (v := nI (i_23 + 1)) (lv' := [(2, .int (nI (i_23 + 1))), (0, .ref m0), (1, .int 2)]) hx hb dX12_hold_43 hl (k := 0) rfl (nI_1 i_23) (by decide) rfl (fun ls hl => ?_)
          refine lv_goto (tgt := 20) hx hb dX12_hold_46 (by decide) ?_
          exact ih_25 (i_23 + 1) f_30 H locs ls (by omega) hP hD hS (lv_sub hl [0, 1, 2] rfl)
      exact lp_26 80 0 ghd _ _ _ (by omega) hP hD hS hl
  · refine lv_iconst (v := 0) hx hb dX12_hold_9 (by decide) ?_
    have hP := hP.sub (ws' := []) [] rfl
    have hD := hD.sub (ws' := []) [] (by decide +kernel) rfl
    exact endI hx hb hr hlocks [] rfl ⟨c_3.symm, rfl⟩ hP hD hS (Nat.le_of_ble_eq_true rfl) (Nat.le_of_ble_eq_true rfl) dX12_hold_10

theorem in_X12_restore_X12 : ∀ w ∈ u_ws RX12 TX12 90, w ∈ wsX12_restore := fun w h => (List.mem_cons_of_mem _ (List.mem_append_right _ h))
set_option maxRecDepth 100000 in
set_option maxHeartbeats 4000000 in
/-- the reference: restore on a new object -/
theorem c_X12_restore (l : Launch) (D : va_G) (cy : Nat → ClassId) (m0 : Nat) (fm : List Value) (ahe : Nat) (ghe : Nat → Int32) (p0 : Int32) (e_m88 : fm[88]? = some (.ref ahe)) (z_he : ∀ j : Nat, j < 3 → ghe j = 0) : Cti l D cy yX12_restore wsX12_restore ({ frames := 1, cells := 0, slots := 0, locals := 22 } : Room) [.ref m0, .int p0] [(m0, .inr (12, fm)), (ahe, .inl (cy 3, 3, .inl ghe))] myT (fun (r : Int32) (w : va_W) => r = 0 ∧ w = []) := by
  refine ofI (cc := cX12_restore) (maxL := 3) (ret := (some .boolean)) (by decide) rfl (Nat.le_of_ble_eq_true rfl) ?_
  intro p e s m args below meth c A ls hx hb hr hts hown hlocks hml hin hK hP hD hS hA hX hl
  have hown : s.vm.findClass RX12 = some m.cls := hown
  have hl : lv_has ls 3 [(0, .ref m0), (1, .int p0)] := hl
  refine lv_iload_n hx hb dX12_restore_0 rfl (lv_at hl 1 rfl) ?_
  refine lv_iconst (v := 0) hx hb dX12_restore_1 (by decide) ?_
  refine lv_iconst (v := 2) hx hb dX12_restore_2 (by decide) ?_
  refine cSi (As := [.int p0, .int 0, .int 2]) (rest := []) (wr := [(m0, .inr (12, fm)), (ahe, .inl (cy 3, 3, .inl ghe))]) ⟨hx, hb, hml, hown, hts⟩ (c_X12_in l D cy p0 0 2 ) (va_cwS 3 hts gX12_restore_X12_in rfl rfl rfl (by decide +kernel) ⟨Nat.le_of_ble_eq_true rfl, Nat.le_of_ble_eq_true rfl⟩) hK hP hD hS hA [] [0, 1] ⟨rfl, rfl, by decide +kernel, by decide +kernel, by decide +kernel⟩ myX_T rfl hl.1 rfl (Nat.le_of_ble_eq_true rfl) dX12_restore_3 ⟨Nat.le_of_ble_eq_true rfl, Nat.le_of_ble_eq_true rfl⟩ (fun r_1 w_2 H locs hw hP hD hS => ?_)
  obtain ⟨rfl, rfl⟩ := hw
  have hP : va_P D vwCl [(m0, .inr (12, fm)), (ahe, .inl (cy 3, 3, .inl ghe))] H := hP
  have hD : va_D A [(m0, .inr (12, fm)), (ahe, .inl (cy 3, 3, .inl ghe))] := hD
  refine lv_if_eq (tgt := 18) hx hb dX12_restore_6 (by decide) (fun c_3 => ?_) (fun c_3 => ?_)
  · refine lv_iconst (v := 0) hx hb dX12_restore_18 (by decide) ?_
    have hP := hP.sub (ws' := []) [] rfl
    have hD := hD.sub (ws' := []) [] (by decide +kernel) rfl
    exact endI hx hb hr hlocks [] rfl ⟨rfl, rfl⟩ hP hD hS (Nat.le_of_ble_eq_true rfl) (Nat.le_of_ble_eq_true rfl) dX12_restore_19
  · rcases (rng3b c_3) with rfl | rfl | rfl
    · refine lv_aload_n hx hb dX12_restore_9 rfl (lv_at hl 0 rfl) ?_
      refine va_get (ci := 12) (v := .ref ahe) (C := RX12) (T := TX12) (N := 90) hx hb hts in_X12_restore_X12 hown hK hP 0 rfl rfl 88 (by decide) (hts (.fieldLink RX12 188 "HallTablesModel" "isHeld" "[Z") (List.mem_of_getElem? (i := 1) rfl)) (fun _ h9 => h9) e_m88 dX12_restore_10 ?_
      refine lv_iload_n hx hb dX12_restore_13 rfl (lv_at hl 1 rfl) ?_
      refine aZ hx hb hK hP 1 rfl 0 rfl (Nat.le_of_ble_eq_true rfl) (Nat.le_of_ble_eq_true rfl) dX12_restore_14 ?_
      refine tpI (v := 0) (z_he 0 (Nat.le_of_ble_eq_true rfl)) ?_
      refine lv_if_ne (tgt := 20) hx hb dX12_restore_15 (by decide) (fun c9 => absurd (by decide) c9) (fun _ => ?_)
      refine lv_iconst (v := 0) hx hb dX12_restore_18 (by decide) ?_
      have hP := hP.sub (ws' := []) [] rfl
      have hD := hD.sub (ws' := []) [] (by decide +kernel) rfl
      exact endI hx hb hr hlocks [] rfl ⟨rfl, rfl⟩ hP hD hS (Nat.le_of_ble_eq_true rfl) (Nat.le_of_ble_eq_true rfl) dX12_restore_19
    · refine lv_aload_n hx hb dX12_restore_9 rfl (lv_at hl 0 rfl) ?_
      refine va_get (ci := 12) (v := .ref ahe) (C := RX12) (T := TX12) (N := 90) hx hb hts in_X12_restore_X12 hown hK hP 0 rfl rfl 88 (by decide) (hts (.fieldLink RX12 188 "HallTablesModel" "isHeld" "[Z") (List.mem_of_getElem? (i := 1) rfl)) (fun _ h9 => h9) e_m88 dX12_restore_10 ?_
      refine lv_iload_n hx hb dX12_restore_13 rfl (lv_at hl 1 rfl) ?_
      refine aZ hx hb hK hP 1 rfl 1 rfl (Nat.le_of_ble_eq_true rfl) (Nat.le_of_ble_eq_true rfl) dX12_restore_14 ?_
      refine tpI (v := 0) (z_he 1 (Nat.le_of_ble_eq_true rfl)) ?_
      refine lv_if_ne (tgt := 20) hx hb dX12_restore_15 (by decide) (fun c9 => absurd (by decide) c9) (fun _ => ?_)
      refine lv_iconst (v := 0) hx hb dX12_restore_18 (by decide) ?_
      have hP := hP.sub (ws' := []) [] rfl
      have hD := hD.sub (ws' := []) [] (by decide +kernel) rfl
      exact endI hx hb hr hlocks [] rfl ⟨rfl, rfl⟩ hP hD hS (Nat.le_of_ble_eq_true rfl) (Nat.le_of_ble_eq_true rfl) dX12_restore_19
    · refine lv_aload_n hx hb dX12_restore_9 rfl (lv_at hl 0 rfl) ?_
      refine va_get (ci := 12) (v := .ref ahe) (C := RX12) (T := TX12) (N := 90) hx hb hts in_X12_restore_X12 hown hK hP 0 rfl rfl 88 (by decide) (hts (.fieldLink RX12 188 "HallTablesModel" "isHeld" "[Z") (List.mem_of_getElem? (i := 1) rfl)) (fun _ h9 => h9) e_m88 dX12_restore_10 ?_
      refine lv_iload_n hx hb dX12_restore_13 rfl (lv_at hl 1 rfl) ?_
      refine aZ hx hb hK hP 1 rfl 2 rfl (Nat.le_of_ble_eq_true rfl) (Nat.le_of_ble_eq_true rfl) dX12_restore_14 ?_
      refine tpI (v := 0) (z_he 2 (Nat.le_of_ble_eq_true rfl)) ?_
      refine lv_if_ne (tgt := 20) hx hb dX12_restore_15 (by decide) (fun c9 => absurd (by decide) c9) (fun _ => ?_)
      refine lv_iconst (v := 0) hx hb dX12_restore_18 (by decide) ?_
      have hP := hP.sub (ws' := []) [] rfl
      have hD := hD.sub (ws' := []) [] (by decide +kernel) rfl
      exact endI hx hb hr hlocks [] rfl ⟨rfl, rfl⟩ hP hD hS (Nat.le_of_ble_eq_true rfl) (Nat.le_of_ble_eq_true rfl) dX12_restore_19

theorem in_X12_count_X12 : ∀ w ∈ u_ws RX12 TX12 90, w ∈ wsX12_count := fun w h => (List.mem_cons_of_mem _ (List.mem_append_right _ h))
set_option maxRecDepth 100000 in
set_option maxHeartbeats 4000000 in
/-- the reference: count on a new object -/
theorem c_X12_count (l : Launch) (D : va_G) (cy : Nat → ClassId) (m0 : Nat) (fm : List Value) (aso : Nat) (aho : Nat) (ado : Nat) (ame : Nat) (ala : Nat) (aca : Nat) (ano : Nat) (ahe : Nat) (gso : Nat → Int32) (gho : Nat → Int32) (gdo : Nat → Int32) (gme : Nat → Int32) (gla : Nat → Int32) (gca : Nat → Int32) (gno : Nat → Int32) (ghe : Nat → Int32) (p0 : Int32) (e_live : fm[18]? = some (.int 0)) (e_m2 : fm[2]? = some (.int 0)) (e_m40 : fm[40]? = some (.int 0)) (e_m73 : fm[73]? = some (.int 0)) (e_m24 : fm[24]? = some (.ref aso)) (e_m26 : fm[26]? = some (.ref aho)) (e_m30 : fm[30]? = some (.ref ado)) (e_m32 : fm[32]? = some (.ref ame)) (e_m35 : fm[35]? = some (.ref ala)) (e_m36 : fm[36]? = some (.ref aca)) (e_m39 : fm[39]? = some (.ref ano)) (e_m88 : fm[88]? = some (.ref ahe)) (z_aso : ∀ j : Nat, j < 2 → gso j = 0) (z_aho : ∀ j : Nat, j < 2 → gho j = 0) (z_ado : ∀ j : Nat, j < 2 → gdo j = 0) (z_ame : ∀ j : Nat, j < 2 → gme j = 0) (z_ala : ∀ j : Nat, j < 2 → gla j = 0) (z_aca : ∀ j : Nat, j < 2 → gca j = 0) (z_ano : ∀ j : Nat, j < 80 → gno j = 0) (z_ahe : ∀ j : Nat, j < 3 → ghe j = 0) : Cti l D cy yX12_count wsX12_count ({ frames := 0, cells := 0, slots := 0, locals := 0 } : Room) [.ref m0, .int p0] [(m0, .inr (12, fm)), (aso, .inl (cy 0, 2, .inl gso)), (aho, .inl (cy 0, 2, .inl gho)), (ado, .inl (cy 0, 2, .inl gdo)), (ame, .inl (cy 0, 2, .inl gme)), (ala, .inl (cy 0, 2, .inl gla)), (aca, .inl (cy 0, 2, .inl gca)), (ano, .inl (cy 0, 80, .inl gno)), (ahe, .inl (cy 3, 3, .inl ghe))] myT (fun (r : Int32) (w : va_W) => r = countV p0 ∧ w = []) := by
  refine ofI (cc := cX12_count) (maxL := 4) (ret := (some .int)) (by decide) rfl (Nat.le_of_ble_eq_true rfl) ?_
  intro p e s m args below meth c A ls hx hb hr hts hown hlocks hml hin hK hP hD hS hA hX hl
  have hown : s.vm.findClass RX12 = some m.cls := hown
  have hl : lv_has ls 4 [(0, .ref m0), (1, .int p0)] := hl
  refine lv_iload_n hx hb dX12_count_0 rfl (lv_at hl 1 rfl) ?_
  rcases pk_ix p0 (n := 12) (Nat.le_of_ble_eq_true rfl) with h0_ | h0_ | ⟨j_, hj_, rfl⟩
  · refine lv_tableOut (tgt := 247) hx hb dX12_count_1 (Or.inl (sw_lo h0_)) (by decide) ?_
    refine lv_iconst (v := (-1)) hx hb dX12_count_247 (by decide) ?_
    have hP := hP.sub (ws' := []) [] rfl
    have hD := hD.sub (ws' := []) [] (by decide +kernel) rfl
    exact endI hx hb hr hlocks [] rfl ⟨(countV_lo h0_), rfl⟩ hP hD hS (Nat.le_of_ble_eq_true rfl) (Nat.le_of_ble_eq_true rfl) dX12_count_248
  · refine lv_tableOut (tgt := 247) hx hb dX12_count_1 (Or.inr (sw_hi (by decide) h0_)) (by decide) ?_
    refine lv_iconst (v := (-1)) hx hb dX12_count_247 (by decide) ?_
    have hP := hP.sub (ws' := []) [] rfl
    have hD := hD.sub (ws' := []) [] (by decide +kernel) rfl
    exact endI hx hb hr hlocks [] rfl ⟨(countV_hi h0_), rfl⟩ hP hD hS (Nat.le_of_ble_eq_true rfl) (Nat.le_of_ble_eq_true rfl) dX12_count_248
  · rcases (show j_ = 0 ∨ j_ = 1 ∨ j_ = 2 ∨ j_ = 3 ∨ j_ = 4 ∨ j_ = 5 ∨ j_ = 6 ∨ j_ = 7 ∨ j_ = 8 ∨ j_ = 9 ∨ j_ = 10 ∨ j_ = 11 by omega) with rfl | rfl | rfl | rfl | rfl | rfl | rfl | rfl | rfl | rfl | rfl | rfl
    · refine lv_tableIn (off := 63) (tgt := 64) hx hb dX12_count_1 (by decide) (by decide) (by decide) (by decide) ?_
      refine lv_aload_n hx hb dX12_count_64 rfl (lv_at hl 0 rfl) ?_
      refine va_get (ci := 12) (v := .ref aso) (C := RX12) (T := TX12) (N := 90) hx hb hts in_X12_count_X12 hown hK hP 0 rfl rfl 24 (by decide) (hts (.fieldLink RX12 49 "HallTablesModel" "sorts" "[I") (List.mem_of_getElem? (i := 1) rfl)) (fun _ h9 => h9) e_m24 dX12_count_65 ?_
      refine lv_aload_n hx hb dX12_count_68 rfl (lv_at hl 0 rfl) ?_
      refine va_get (ci := 12) (v := .int 0) (C := RX12) (T := TX12) (N := 90) hx hb hts in_X12_count_X12 hown hK hP 0 rfl rfl 18 (by decide) (hts (.fieldLink RX12 266 "HallTablesModel" "live" "I") (List.mem_of_getElem? (i := 2) rfl)) (fun _ h9 => h9) e_live dX12_count_69 ?_
      refine aI hx hb hK hP 1 rfl 0 rfl (Nat.le_of_ble_eq_true rfl) (Nat.le_of_ble_eq_true rfl) dX12_count_72 ?_
      refine tpI (v := 0) (z_aso 0 (Nat.le_of_ble_eq_true rfl)) ?_
      have hP := hP.sub (ws' := []) [] rfl
      have hD := hD.sub (ws' := []) [] (by decide +kernel) rfl
      exact endI hx hb hr hlocks [] rfl ⟨(by decide), rfl⟩ hP hD hS (Nat.le_of_ble_eq_true rfl) (Nat.le_of_ble_eq_true rfl) dX12_count_73
    · refine lv_tableIn (off := 73) (tgt := 74) hx hb dX12_count_1 (by decide) (by decide) (by decide) (by decide) ?_
      refine lv_aload_n hx hb dX12_count_74 rfl (lv_at hl 0 rfl) ?_
      refine va_get (ci := 12) (v := .ref aho) (C := RX12) (T := TX12) (N := 90) hx hb hts in_X12_count_X12 hown hK hP 0 rfl rfl 26 (by decide) (hts (.fieldLink RX12 55 "HallTablesModel" "houses" "[I") (List.mem_of_getElem? (i := 3) rfl)) (fun _ h9 => h9) e_m26 dX12_count_75 ?_
      refine lv_aload_n hx hb dX12_count_78 rfl (lv_at hl 0 rfl) ?_
      refine va_get (ci := 12) (v := .int 0) (C := RX12) (T := TX12) (N := 90) hx hb hts in_X12_count_X12 hown hK hP 0 rfl rfl 18 (by decide) (hts (.fieldLink RX12 266 "HallTablesModel" "live" "I") (List.mem_of_getElem? (i := 2) rfl)) (fun _ h9 => h9) e_live dX12_count_79 ?_
      refine aI hx hb hK hP 2 rfl 0 rfl (Nat.le_of_ble_eq_true rfl) (Nat.le_of_ble_eq_true rfl) dX12_count_82 ?_
      refine tpI (v := 0) (z_aho 0 (Nat.le_of_ble_eq_true rfl)) ?_
      have hP := hP.sub (ws' := []) [] rfl
      have hD := hD.sub (ws' := []) [] (by decide +kernel) rfl
      exact endI hx hb hr hlocks [] rfl ⟨(by decide), rfl⟩ hP hD hS (Nat.le_of_ble_eq_true rfl) (Nat.le_of_ble_eq_true rfl) dX12_count_83
    · refine lv_tableIn (off := 83) (tgt := 84) hx hb dX12_count_1 (by decide) (by decide) (by decide) (by decide) ?_
      refine lv_aload_n hx hb dX12_count_84 rfl (lv_at hl 0 rfl) ?_
      refine va_get (ci := 12) (v := .ref ado) (C := RX12) (T := TX12) (N := 90) hx hb hts in_X12_count_X12 hown hK hP 0 rfl rfl 30 (by decide) (hts (.fieldLink RX12 68 "HallTablesModel" "doors" "[I") (List.mem_of_getElem? (i := 4) rfl)) (fun _ h9 => h9) e_m30 dX12_count_85 ?_
      refine lv_aload_n hx hb dX12_count_88 rfl (lv_at hl 0 rfl) ?_
      refine va_get (ci := 12) (v := .int 0) (C := RX12) (T := TX12) (N := 90) hx hb hts in_X12_count_X12 hown hK hP 0 rfl rfl 18 (by decide) (hts (.fieldLink RX12 266 "HallTablesModel" "live" "I") (List.mem_of_getElem? (i := 2) rfl)) (fun _ h9 => h9) e_live dX12_count_89 ?_
      refine aI hx hb hK hP 3 rfl 0 rfl (Nat.le_of_ble_eq_true rfl) (Nat.le_of_ble_eq_true rfl) dX12_count_92 ?_
      refine tpI (v := 0) (z_ado 0 (Nat.le_of_ble_eq_true rfl)) ?_
      have hP := hP.sub (ws' := []) [] rfl
      have hD := hD.sub (ws' := []) [] (by decide +kernel) rfl
      exact endI hx hb hr hlocks [] rfl ⟨(by decide), rfl⟩ hP hD hS (Nat.le_of_ble_eq_true rfl) (Nat.le_of_ble_eq_true rfl) dX12_count_93
    · refine lv_tableIn (off := 93) (tgt := 94) hx hb dX12_count_1 (by decide) (by decide) (by decide) (by decide) ?_
      refine lv_aload_n hx hb dX12_count_94 rfl (lv_at hl 0 rfl) ?_
      refine va_get (ci := 12) (v := .ref ame) (C := RX12) (T := TX12) (N := 90) hx hb hts in_X12_count_X12 hown hK hP 0 rfl rfl 32 (by decide) (hts (.fieldLink RX12 74 "HallTablesModel" "men" "[I") (List.mem_of_getElem? (i := 5) rfl)) (fun _ h9 => h9) e_m32 dX12_count_95 ?_
      refine lv_aload_n hx hb dX12_count_98 rfl (lv_at hl 0 rfl) ?_
      refine va_get (ci := 12) (v := .int 0) (C := RX12) (T := TX12) (N := 90) hx hb hts in_X12_count_X12 hown hK hP 0 rfl rfl 18 (by decide) (hts (.fieldLink RX12 266 "HallTablesModel" "live" "I") (List.mem_of_getElem? (i := 2) rfl)) (fun _ h9 => h9) e_live dX12_count_99 ?_
      refine aI hx hb hK hP 4 rfl 0 rfl (Nat.le_of_ble_eq_true rfl) (Nat.le_of_ble_eq_true rfl) dX12_count_102 ?_
      refine tpI (v := 0) (z_ame 0 (Nat.le_of_ble_eq_true rfl)) ?_
      have hP := hP.sub (ws' := []) [] rfl
      have hD := hD.sub (ws' := []) [] (by decide +kernel) rfl
      exact endI hx hb hr hlocks [] rfl ⟨(by decide), rfl⟩ hP hD hS (Nat.le_of_ble_eq_true rfl) (Nat.le_of_ble_eq_true rfl) dX12_count_103
    · refine lv_tableIn (off := 103) (tgt := 104) hx hb dX12_count_1 (by decide) (by decide) (by decide) (by decide) ?_
      refine lv_aload_n hx hb dX12_count_104 rfl (lv_at hl 0 rfl) ?_
      refine va_get (ci := 12) (v := .ref aca) (C := RX12) (T := TX12) (N := 90) hx hb hts in_X12_count_X12 hown hK hP 0 rfl rfl 36 (by decide) (hts (.fieldLink RX12 86 "HallTablesModel" "calls" "[I") (List.mem_of_getElem? (i := 6) rfl)) (fun _ h9 => h9) e_m36 dX12_count_105 ?_
      refine lv_aload_n hx hb dX12_count_108 rfl (lv_at hl 0 rfl) ?_
      refine va_get (ci := 12) (v := .int 0) (C := RX12) (T := TX12) (N := 90) hx hb hts in_X12_count_X12 hown hK hP 0 rfl rfl 18 (by decide) (hts (.fieldLink RX12 266 "HallTablesModel" "live" "I") (List.mem_of_getElem? (i := 2) rfl)) (fun _ h9 => h9) e_live dX12_count_109 ?_
      refine aI hx hb hK hP 6 rfl 0 rfl (Nat.le_of_ble_eq_true rfl) (Nat.le_of_ble_eq_true rfl) dX12_count_112 ?_
      refine tpI (v := 0) (z_aca 0 (Nat.le_of_ble_eq_true rfl)) ?_
      have hP := hP.sub (ws' := []) [] rfl
      have hD := hD.sub (ws' := []) [] (by decide +kernel) rfl
      exact endI hx hb hr hlocks [] rfl ⟨(by decide), rfl⟩ hP hD hS (Nat.le_of_ble_eq_true rfl) (Nat.le_of_ble_eq_true rfl) dX12_count_113
    · refine lv_tableIn (off := 113) (tgt := 114) hx hb dX12_count_1 (by decide) (by decide) (by decide) (by decide) ?_
      refine lv_aload_n hx hb dX12_count_114 rfl (lv_at hl 0 rfl) ?_
      refine va_get (ci := 12) (v := .ref ala) (C := RX12) (T := TX12) (N := 90) hx hb hts in_X12_count_X12 hown hK hP 0 rfl rfl 35 (by decide) (hts (.fieldLink RX12 83 "HallTablesModel" "laws" "[I") (List.mem_of_getElem? (i := 7) rfl)) (fun _ h9 => h9) e_m35 dX12_count_115 ?_
      refine lv_aload_n hx hb dX12_count_118 rfl (lv_at hl 0 rfl) ?_
      refine va_get (ci := 12) (v := .int 0) (C := RX12) (T := TX12) (N := 90) hx hb hts in_X12_count_X12 hown hK hP 0 rfl rfl 18 (by decide) (hts (.fieldLink RX12 266 "HallTablesModel" "live" "I") (List.mem_of_getElem? (i := 2) rfl)) (fun _ h9 => h9) e_live dX12_count_119 ?_
      refine aI hx hb hK hP 5 rfl 0 rfl (Nat.le_of_ble_eq_true rfl) (Nat.le_of_ble_eq_true rfl) dX12_count_122 ?_
      refine tpI (v := 0) (z_ala 0 (Nat.le_of_ble_eq_true rfl)) ?_
      have hP := hP.sub (ws' := []) [] rfl
      have hD := hD.sub (ws' := []) [] (by decide +kernel) rfl
      exact endI hx hb hr hlocks [] rfl ⟨(by decide), rfl⟩ hP hD hS (Nat.le_of_ble_eq_true rfl) (Nat.le_of_ble_eq_true rfl) dX12_count_123
    · refine lv_tableIn (off := 123) (tgt := 124) hx hb dX12_count_1 (by decide) (by decide) (by decide) (by decide) ?_
      refine lv_aload_n hx hb dX12_count_124 rfl (lv_at hl 0 rfl) ?_
      refine va_get (ci := 12) (v := .int 0) (C := RX12) (T := TX12) (N := 90) hx hb hts in_X12_count_X12 hown hK hP 0 rfl rfl 2 (by decide) (hts (.fieldLink RX12 202 "HallTablesModel" "taped" "I") (List.mem_of_getElem? (i := 8) rfl)) (fun _ h9 => h9) e_m2 dX12_count_125 ?_
      have hP := hP.sub (ws' := []) [] rfl
      have hD := hD.sub (ws' := []) [] (by decide +kernel) rfl
      exact endI hx hb hr hlocks [] rfl ⟨(by decide), rfl⟩ hP hD hS (Nat.le_of_ble_eq_true rfl) (Nat.le_of_ble_eq_true rfl) dX12_count_128
    · refine lv_tableIn (off := 128) (tgt := 129) hx hb dX12_count_1 (by decide) (by decide) (by decide) (by decide) ?_
      refine lv_aload_n hx hb dX12_count_129 rfl (lv_at hl 0 rfl) ?_
      refine va_get (ci := 12) (v := .int 0) (C := RX12) (T := TX12) (N := 90) hx hb hts in_X12_count_X12 hown hK hP 0 rfl rfl 40 (by decide) (hts (.fieldLink RX12 281 "HallTablesModel" "undos" "I") (List.mem_of_getElem? (i := 9) rfl)) (fun _ h9 => h9) e_m40 dX12_count_130 ?_
      have hP := hP.sub (ws' := []) [] rfl
      have hD := hD.sub (ws' := []) [] (by decide +kernel) rfl
      exact endI hx hb hr hlocks [] rfl ⟨(by decide), rfl⟩ hP hD hS (Nat.le_of_ble_eq_true rfl) (Nat.le_of_ble_eq_true rfl) dX12_count_133
    · refine lv_tableIn (off := 133) (tgt := 134) hx hb dX12_count_1 (by decide) (by decide) (by decide) (by decide) ?_
      refine lv_aload_n hx hb dX12_count_134 rfl (lv_at hl 0 rfl) ?_
      refine va_get (ci := 12) (v := .int 0) (C := RX12) (T := TX12) (N := 90) hx hb hts in_X12_count_X12 hown hK hP 0 rfl rfl 73 (by decide) (hts (.fieldLink RX12 284 "HallTablesModel" "seen" "I") (List.mem_of_getElem? (i := 10) rfl)) (fun _ h9 => h9) e_m73 dX12_count_135 ?_
      have hP := hP.sub (ws' := []) [] rfl
      have hD := hD.sub (ws' := []) [] (by decide +kernel) rfl
      exact endI hx hb hr hlocks [] rfl ⟨(by decide), rfl⟩ hP hD hS (Nat.le_of_ble_eq_true rfl) (Nat.le_of_ble_eq_true rfl) dX12_count_138
    · refine lv_tableIn (off := 138) (tgt := 139) hx hb dX12_count_1 (by decide) (by decide) (by decide) (by decide) ?_
      refine lv_aload_n hx hb dX12_count_139 rfl (lv_at hl 0 rfl) ?_
      refine va_get (ci := 12) (v := .ref ahe) (C := RX12) (T := TX12) (N := 90) hx hb hts in_X12_count_X12 hown hK hP 0 rfl rfl 88 (by decide) (hts (.fieldLink RX12 188 "HallTablesModel" "isHeld" "[Z") (List.mem_of_getElem? (i := 11) rfl)) (fun _ h9 => h9) e_m88 dX12_count_140 ?_
      refine lv_iconst (v := 0) hx hb dX12_count_143 (by decide) ?_
      refine aZ hx hb hK hP 8 rfl 0 rfl (Nat.le_of_ble_eq_true rfl) (Nat.le_of_ble_eq_true rfl) dX12_count_144 ?_
      refine tpI (v := 0) (z_ahe 0 (Nat.le_of_ble_eq_true rfl)) ?_
      refine lv_if_eq (tgt := 152) hx hb dX12_count_145 (by decide) (fun _ => ?_) (fun c9 => absurd (by decide) c9)
      refine lv_iconst (v := 0) hx hb dX12_count_152 (by decide) ?_
      refine lv_aload_n hx hb dX12_count_153 rfl (lv_at hl 0 rfl) ?_
      refine va_get (ci := 12) (v := .ref ahe) (C := RX12) (T := TX12) (N := 90) hx hb hts in_X12_count_X12 hown hK hP 0 rfl rfl 88 (by decide) (hts (.fieldLink RX12 188 "HallTablesModel" "isHeld" "[Z") (List.mem_of_getElem? (i := 11) rfl)) (fun _ h9 => h9) e_m88 dX12_count_154 ?_
      refine lv_iconst (v := 1) hx hb dX12_count_157 (by decide) ?_
      refine aZ hx hb hK hP 8 rfl 1 rfl (Nat.le_of_ble_eq_true rfl) (Nat.le_of_ble_eq_true rfl) dX12_count_158 ?_
      refine tpI (v := 0) (z_ahe 1 (Nat.le_of_ble_eq_true rfl)) ?_
      refine lv_if_eq (tgt := 166) hx hb dX12_count_159 (by decide) (fun _ => ?_) (fun c9 => absurd (by decide) c9)
      refine lv_iconst (v := 0) hx hb dX12_count_166 (by decide) ?_
      refine lv_iadd hx hb dX12_count_167 ?_
      refine tpI (v := 0) (by decide) ?_
      refine lv_aload_n hx hb dX12_count_168 rfl (lv_at hl 0 rfl) ?_
      refine va_get (ci := 12) (v := .ref ahe) (C := RX12) (T := TX12) (N := 90) hx hb hts in_X12_count_X12 hown hK hP 0 rfl rfl 88 (by decide) (hts (.fieldLink RX12 188 "HallTablesModel" "isHeld" "[Z") (List.mem_of_getElem? (i := 11) rfl)) (fun _ h9 => h9) e_m88 dX12_count_169 ?_
      refine lv_iconst (v := 2) hx hb dX12_count_172 (by decide) ?_
      refine aZ hx hb hK hP 8 rfl 2 rfl (Nat.le_of_ble_eq_true rfl) (Nat.le_of_ble_eq_true rfl) dX12_count_173 ?_
      refine tpI (v := 0) (z_ahe 2 (Nat.le_of_ble_eq_true rfl)) ?_
      refine lv_if_eq (tgt := 181) hx hb dX12_count_174 (by decide) (fun _ => ?_) (fun c9 => absurd (by decide) c9)
      refine lv_iconst (v := 0) hx hb dX12_count_181 (by decide) ?_
      refine lv_iadd hx hb dX12_count_182 ?_
      refine tpI (v := 0) (by decide) ?_
      have hP := hP.sub (ws' := []) [] rfl
      have hD := hD.sub (ws' := []) [] (by decide +kernel) rfl
      exact endI hx hb hr hlocks [] rfl ⟨(by decide), rfl⟩ hP hD hS (Nat.le_of_ble_eq_true rfl) (Nat.le_of_ble_eq_true rfl) dX12_count_183
    · refine lv_tableIn (off := 183) (tgt := 184) hx hb dX12_count_1 (by decide) (by decide) (by decide) (by decide) ?_
      refine lv_iconst (v := 0) hx hb dX12_count_184 (by decide) ?_
      refine lv_istore_n (lv' := [(2, .int 0), (0, .ref m0), (1, .int (nI 10))]) hx hb dX12_count_185 rfl hl (by decide) rfl (fun ls hl => ?_)
      refine lv_iconst (v := 0) hx hb dX12_count_186 (by decide) ?_
      refine lv_istore_n (lv' := [(3, .int 0), (2, .int 0), (0, .ref m0), (1, .int (nI 10))]) hx hb dX12_count_187 rfl hl (by decide) rfl (fun ls hl => ?_)
      have lp_4 : ∀ (n_2 i_1 : Nat) (H : Heap) (locs : List Loc) (ls : Array Slot), i_1 + n_2 = 50 → va_P D vwCl [(m0, .inr (12, fm)), (aso, .inl (cy 0, 2, .inl gso)), (aho, .inl (cy 0, 2, .inl gho)), (ado, .inl (cy 0, 2, .inl gdo)), (ame, .inl (cy 0, 2, .inl gme)), (ala, .inl (cy 0, 2, .inl gla)), (aca, .inl (cy 0, 2, .inl gca)), (ano, .inl (cy 0, 80, .inl gno)), (ahe, .inl (cy 3, 3, .inl ghe))] H → va_D A [(m0, .inr (12, fm)), (aso, .inl (cy 0, 2, .inl gso)), (aho, .inl (cy 0, 2, .inl gho)), (ado, .inl (cy 0, 2, .inl gdo)), (ame, .inl (cy 0, 2, .inl gme)), (ala, .inl (cy 0, 2, .inl gla)), (aca, .inl (cy 0, 2, .inl gca)), (ano, .inl (cy 0, 80, .inl gno)), (ahe, .inl (cy 3, 3, .inl ghe))] → va_S A s.heap H locs → lv_has ls 4 [(3, .int (nI i_1)), (2, .int 0), (0, .ref m0), (1, .int (nI 10))] → W p l e ({ frames := 0, cells := 0, slots := 0, locals := 0 } : Room) s m args below meth c H locs 0 0 (MQ below (myQi D A (fun (r : Int32) (w : va_W) => r = countV (nI 10) ∧ w = [])) args s ({ frames := 0, cells := 0, slots := 0, locals := 0 } : Room).cells ({ frames := 0, cells := 0, slots := 0, locals := 0 } : Room).slots A) (F0 m 188 ls []) := by
        intro n_2
        induction n_2 with
        | zero =>
          intro i_1 H locs ls hi_5 hP hD hS hl
          obtain rfl : i_1 = 50 := by omega
          refine lv_iload_n hx hb dX12_count_188 rfl (lv_at hl 0 rfl) ?_
          refine lv_bipush (v := 50) hx hb dX12_count_189 (by decide) ?_
          refine lv_icmp_ge (tgt := 209) hx hb dX12_count_191 (by decide) (fun _ => ?_) (fun c9 => absurd (by decide) c9)
          refine lv_iload_n hx hb dX12_count_209 rfl (lv_at hl 1 rfl) ?_
          have hP := hP.sub (ws' := []) [] rfl
          have hD := hD.sub (ws' := []) [] (by decide +kernel) rfl
          exact endI hx hb hr hlocks [] rfl ⟨(by decide), rfl⟩ hP hD hS (Nat.le_of_ble_eq_true rfl) (Nat.le_of_ble_eq_true rfl) dX12_count_210
        | succ n_2 ih_3 =>
          intro i_1 H locs ls hi_5 hP hD hS hl
          refine lv_iload_n hx hb dX12_count_188 rfl (lv_at hl 0 rfl) ?_
          refine lv_bipush (v := 50) hx hb dX12_count_189 (by decide) ?_
          refine lv_icmp_ge (tgt := 209) hx hb dX12_count_191 (by decide) (fun c9 => absurd c9 (nI_ge (a := i_1) (b := 50) (by omega) (Nat.le_of_ble_eq_true rfl))) (fun _ => ?_)
          refine lv_iload_n hx hb dX12_count_194 rfl (lv_at hl 1 rfl) ?_
          refine lv_aload_n hx hb dX12_count_195 rfl (lv_at hl 2 rfl) ?_
          refine va_get (ci := 12) (v := .ref ano) (C := RX12) (T := TX12) (N := 90) hx hb hts in_X12_count_X12 hown hK hP 0 rfl rfl 39 (by decide) (hts (.fieldLink RX12 95 "HallTablesModel" "now" "[I") (List.mem_of_getElem? (i := 12) rfl)) (fun _ h9 => h9) e_m39 dX12_count_196 ?_
          refine lv_iload_n hx hb dX12_count_199 rfl (lv_at hl 0 rfl) ?_
          refine aI hx hb hK hP 7 rfl i_1 rfl (by omega) (Nat.le_of_ble_eq_true rfl) dX12_count_200 ?_
          refine tpI (v := 0) (z_ano i_1 (by omega)) ?_
          refine lv_iadd hx hb dX12_count_201 ?_
          refine tpI (v := 0) (by decide) ?_
          refine lv_istore_n (lv' := [(2, .int 0), (3, .int (nI i_1)), (0, .ref m0), (1, .int (nI 10))]) hx hb dX12_count_202 rfl hl (by decide) rfl (fun ls hl => ?_)
          refine lv_iinc (v := nI (i_1 + 1)) (lv' := [(3, .int (nI (i_1 + 1))), (2, .int 0), (0, .ref m0), (1, .int (nI 10))]) hx hb dX12_count_203 hl (k := 1) rfl (nI_1 i_1) (by decide) rfl (fun ls hl => ?_)
          refine lv_goto (tgt := 188) hx hb dX12_count_206 (by decide) ?_
          exact ih_3 (i_1 + 1) H locs ls (by omega) hP hD hS (lv_sub hl [0, 1, 2, 3] rfl)
      exact lp_4 50 0 _ _ _ (by omega) hP hD hS hl
    · refine lv_tableIn (off := 210) (tgt := 211) hx hb dX12_count_1 (by decide) (by decide) (by decide) (by decide) ?_
      refine lv_iconst (v := 0) hx hb dX12_count_211 (by decide) ?_
      refine lv_istore_n (lv' := [(2, .int 0), (0, .ref m0), (1, .int (nI 11))]) hx hb dX12_count_212 rfl hl (by decide) rfl (fun ls hl => ?_)
      refine lv_iconst (v := 0) hx hb dX12_count_213 (by decide) ?_
      refine lv_istore_n (lv' := [(3, .int 0), (2, .int 0), (0, .ref m0), (1, .int (nI 11))]) hx hb dX12_count_214 rfl hl (by decide) rfl (fun ls hl => ?_)
      refine lv_iload_n hx hb dX12_count_215 rfl (lv_at hl 0 rfl) ?_
      refine lv_aload_n hx hb dX12_count_216 rfl (lv_at hl 2 rfl) ?_
      refine va_get (ci := 12) (v := .ref ame) (C := RX12) (T := TX12) (N := 90) hx hb hts in_X12_count_X12 hown hK hP 0 rfl rfl 32 (by decide) (hts (.fieldLink RX12 74 "HallTablesModel" "men" "[I") (List.mem_of_getElem? (i := 5) rfl)) (fun _ h9 => h9) e_m32 dX12_count_217 ?_
      refine lv_aload_n hx hb dX12_count_220 rfl (lv_at hl 2 rfl) ?_
      refine va_get (ci := 12) (v := .int 0) (C := RX12) (T := TX12) (N := 90) hx hb hts in_X12_count_X12 hown hK hP 0 rfl rfl 18 (by decide) (hts (.fieldLink RX12 266 "HallTablesModel" "live" "I") (List.mem_of_getElem? (i := 2) rfl)) (fun _ h9 => h9) e_live dX12_count_221 ?_
      refine aI hx hb hK hP 4 rfl 0 rfl (Nat.le_of_ble_eq_true rfl) (Nat.le_of_ble_eq_true rfl) dX12_count_224 ?_
      refine tpI (v := 0) (z_ame 0 (Nat.le_of_ble_eq_true rfl)) ?_
      refine lv_icmp_ge (tgt := 245) hx hb dX12_count_225 (by decide) (fun _ => ?_) (fun c9 => absurd (by decide) c9)
      refine lv_iload_n hx hb dX12_count_245 rfl (lv_at hl 1 rfl) ?_
      have hP := hP.sub (ws' := []) [] rfl
      have hD := hD.sub (ws' := []) [] (by decide +kernel) rfl
      exact endI hx hb hr hlocks [] rfl ⟨(by decide), rfl⟩ hP hD hS (Nat.le_of_ble_eq_true rfl) (Nat.le_of_ble_eq_true rfl) dX12_count_246

theorem in_X12_year_X12 : ∀ w ∈ u_ws RX12 TX12 90, w ∈ wsX12_year := fun w h => (List.mem_cons_of_mem _ (List.mem_append_right _ h))
set_option maxRecDepth 100000 in
set_option maxHeartbeats 4000000 in
/-- the reference: year on a new object -/
theorem c_X12_year (l : Launch) (D : va_G) (cy : Nat → ClassId) (m0 : Nat) (fm : List Value) (ame : Nat) (gme : Nat → Int32) (p0 : Int32) (p1 : Int32) (p2 : Int32) (e_m32 : fm[32]? = some (.ref ame)) (e_m18 : fm[18]? = some (.int 0)) (z_me : ∀ j : Nat, j < 2 → gme j = 0) : Cti l D cy yX12_year wsX12_year ({ frames := 1, cells := 0, slots := 0, locals := 22 } : Room) [.ref m0, .int p0, .int p1, .int p2] [(m0, .inr (12, fm)), (ame, .inl (cy 0, 2, .inl gme))] myT (fun (r : Int32) (w : va_W) => r = yearV p1 p2 ∧ w = []) := by
  refine ofI (cc := cX12_year) (maxL := 10) (ret := (some .int)) (by decide) rfl (Nat.le_of_ble_eq_true rfl) ?_
  intro p e s m args below meth c A ls hx hb hr hts hown hlocks hml hin hK hP hD hS hA hX hl
  have hown : s.vm.findClass RX12 = some m.cls := hown
  have hl : lv_has ls 10 [(0, .ref m0), (1, .int p0), (2, .int p1), (3, .int p2)] := hl
  refine lv_iload_n hx hb dX12_year_0 rfl (lv_at hl 2 rfl) ?_
  refine lv_iconst (v := 1) hx hb dX12_year_1 (by decide) ?_
  refine lv_sipush (v := 400) hx hb dX12_year_2 (by decide) ?_
  refine cSi (As := [.int p1, .int 1, .int 400]) (rest := []) (wr := [(m0, .inr (12, fm)), (ame, .inl (cy 0, 2, .inl gme))]) ⟨hx, hb, hml, hown, hts⟩ (c_X12_in l D cy p1 1 400 ) (va_cwS 3 hts gX12_year_X12_in rfl rfl rfl (by decide +kernel) ⟨Nat.le_of_ble_eq_true rfl, Nat.le_of_ble_eq_true rfl⟩) hK hP hD hS hA [] [0, 1] ⟨rfl, rfl, by decide +kernel, by decide +kernel, by decide +kernel⟩ myX_T rfl hl.1 rfl (Nat.le_of_ble_eq_true rfl) dX12_year_5 ⟨Nat.le_of_ble_eq_true rfl, Nat.le_of_ble_eq_true rfl⟩ (fun r_1 w_2 H locs hw hP hD hS => ?_)
  obtain ⟨rfl, rfl⟩ := hw
  have hP : va_P D vwCl [(m0, .inr (12, fm)), (ame, .inl (cy 0, 2, .inl gme))] H := hP
  have hD : va_D A [(m0, .inr (12, fm)), (ame, .inl (cy 0, 2, .inl gme))] := hD
  refine lv_if_eq (tgt := 20) hx hb dX12_year_8 (by decide) (fun c_3 => ?_) (fun c_3 => ?_)
  · refine lv_iconst (v := (-1)) hx hb dX12_year_20 (by decide) ?_
    have hP := hP.sub (ws' := []) [] rfl
    have hD := hD.sub (ws' := []) [] (by decide +kernel) rfl
    exact endI hx hb hr hlocks [] rfl ⟨(yearV_m1 c_3), rfl⟩ hP hD hS (Nat.le_of_ble_eq_true rfl) (Nat.le_of_ble_eq_true rfl) dX12_year_21
  · refine lv_iload_n hx hb dX12_year_11 rfl (lv_at hl 3 rfl) ?_
    refine lv_iconst (v := 0) hx hb dX12_year_12 (by decide) ?_
    refine lv_iconst (v := 3) hx hb dX12_year_13 (by decide) ?_
    refine cSi (As := [.int p2, .int 0, .int 3]) (rest := []) (wr := [(m0, .inr (12, fm)), (ame, .inl (cy 0, 2, .inl gme))]) ⟨hx, hb, hml, hown, hts⟩ (c_X12_in l D cy p2 0 3 ) (va_cwS 3 hts gX12_year_X12_in rfl rfl rfl (by decide +kernel) ⟨Nat.le_of_ble_eq_true rfl, Nat.le_of_ble_eq_true rfl⟩) hK hP hD hS hA [] [0, 1] ⟨rfl, rfl, by decide +kernel, by decide +kernel, by decide +kernel⟩ myX_T rfl hl.1 rfl (Nat.le_of_ble_eq_true rfl) dX12_year_14 ⟨Nat.le_of_ble_eq_true rfl, Nat.le_of_ble_eq_true rfl⟩ (fun r_4 w_5 H locs hw hP hD hS => ?_)
    obtain ⟨rfl, rfl⟩ := hw
    have hP : va_P D vwCl [(m0, .inr (12, fm)), (ame, .inl (cy 0, 2, .inl gme))] H := hP
    have hD : va_D A [(m0, .inr (12, fm)), (ame, .inl (cy 0, 2, .inl gme))] := hD
    refine lv_if_ne (tgt := 22) hx hb dX12_year_17 (by decide) (fun c_6 => ?_) (fun c_6 => ?_)
    · obtain ⟨k_7, hk_8, rfl⟩ := nI_of (nn400 c_3)
      refine lv_iconst (v := 0) hx hb dX12_year_22 (by decide) ?_
      refine lv_istore (lv' := [(4, .int 0), (0, .ref m0), (1, .int p0), (2, .int (nI k_7)), (3, .int p2)]) hx hb dX12_year_23 hl (by decide) rfl (fun ls hl => ?_)
      refine lv_iconst (v := 0) hx hb dX12_year_25 (by decide) ?_
      refine lv_istore (lv' := [(5, .int 0), (4, .int 0), (0, .ref m0), (1, .int p0), (2, .int (nI k_7)), (3, .int p2)]) hx hb dX12_year_26 hl (by decide) rfl (fun ls hl => ?_)
      refine lv_iconst (v := 0) hx hb dX12_year_28 (by decide) ?_
      refine lv_istore (lv' := [(6, .int 0), (5, .int 0), (4, .int 0), (0, .ref m0), (1, .int p0), (2, .int (nI k_7)), (3, .int p2)]) hx hb dX12_year_29 hl (by decide) rfl (fun ls hl => ?_)
      refine lv_iload hx hb dX12_year_31 (lv_at hl 0 rfl) ?_
      refine lv_aload_n hx hb dX12_year_33 rfl (lv_at hl 3 rfl) ?_
      refine va_get (ci := 12) (v := .ref ame) (C := RX12) (T := TX12) (N := 90) hx hb hts in_X12_year_X12 hown hK hP 0 rfl rfl 32 (by decide) (hts (.fieldLink RX12 74 "HallTablesModel" "men" "[I") (List.mem_of_getElem? (i := 1) rfl)) (fun _ h9 => h9) e_m32 dX12_year_34 ?_
      refine lv_aload_n hx hb dX12_year_37 rfl (lv_at hl 3 rfl) ?_
      refine va_get (ci := 12) (v := .int 0) (C := RX12) (T := TX12) (N := 90) hx hb hts in_X12_year_X12 hown hK hP 0 rfl rfl 18 (by decide) (hts (.fieldLink RX12 266 "HallTablesModel" "live" "I") (List.mem_of_getElem? (i := 2) rfl)) (fun _ h9 => h9) e_m18 dX12_year_38 ?_
      refine aI hx hb hK hP 1 rfl 0 rfl (Nat.le_of_ble_eq_true rfl) (Nat.le_of_ble_eq_true rfl) dX12_year_41 ?_
      refine tpI (v := 0) (z_me 0 (Nat.le_of_ble_eq_true rfl)) ?_
      refine lv_icmp_ge (tgt := 77) hx hb dX12_year_42 (by decide) (fun _ => ?_) (fun c9 => absurd (by decide) c9)
      refine lv_iconst (v := 0) hx hb dX12_year_77 (by decide) ?_
      refine lv_istore (lv' := [(6, .int 0), (5, .int 0), (4, .int 0), (0, .ref m0), (1, .int p0), (2, .int (nI k_7)), (3, .int p2)]) hx hb dX12_year_78 hl (by decide) rfl (fun ls hl => ?_)
      have lp_12 : ∀ (n_10 i_9 : Nat) (H : Heap) (locs : List Loc) (ls : Array Slot), i_9 + n_10 = k_7 → va_P D vwCl [(m0, .inr (12, fm)), (ame, .inl (cy 0, 2, .inl gme))] H → va_D A [(m0, .inr (12, fm)), (ame, .inl (cy 0, 2, .inl gme))] → va_S A s.heap H locs → lv_has ls 10 [(6, .int (nI i_9)), (5, .int 0), (4, .int 0), (0, .ref m0), (1, .int p0), (2, .int (nI k_7)), (3, .int p2)] → W p l e ({ frames := 1, cells := 0, slots := 0, locals := 22 } : Room) s m args below meth c H locs 0 0 (MQ below (myQi D A (fun (r : Int32) (w : va_W) => r = yearV (nI k_7) p2 ∧ w = [])) args s ({ frames := 1, cells := 0, slots := 0, locals := 22 } : Room).cells ({ frames := 1, cells := 0, slots := 0, locals := 22 } : Room).slots A) (F0 m 80 ls []) := by
        intro n_10
        induction n_10 with
        | zero =>
          intro i_9 H locs ls hi_13 hP hD hS hl
          refine lv_iload hx hb dX12_year_80 (lv_at hl 0 rfl) ?_
          refine lv_iload_n hx hb dX12_year_82 rfl (lv_at hl 5 rfl) ?_
          refine lv_icmp_ge (tgt := 253) hx hb dX12_year_83 (by decide) (fun _ => ?_) (fun c9 => absurd (nI_le (a := k_7) (b := i_9) (by omega) (by omega)) c9)
          refine lv_iload_n hx hb dX12_year_253 rfl (lv_at hl 6 rfl) ?_
          refine lv_if_ne (tgt := 260) hx hb dX12_year_254 (by decide) (fun c_14 => ?_) (fun c_14 => ?_)
          · refine lv_iload_n hx hb dX12_year_260 rfl (lv_at hl 6 rfl) ?_
            refine lv_iconst (v := 1) hx hb dX12_year_261 (by decide) ?_
            refine lv_icmp_ne (tgt := 268) hx hb dX12_year_262 (by decide) (fun c_15 => ?_) (fun c_15 => ?_)
            · refine lv_iconst (v := 0) hx hb dX12_year_268 (by decide) ?_
              refine lv_istore (lv' := [(6, .int 0), (5, .int 0), (4, .int 0), (0, .ref m0), (1, .int p0), (2, .int (nI k_7)), (3, .int p2)]) hx hb dX12_year_269 hl (by decide) rfl (fun ls hl => ?_)
              refine lv_iconst (v := 0) hx hb dX12_year_271 (by decide) ?_
              refine lv_istore (lv' := [(7, .int 0), (6, .int 0), (5, .int 0), (4, .int 0), (0, .ref m0), (1, .int p0), (2, .int (nI k_7)), (3, .int p2)]) hx hb dX12_year_272 hl (by decide) rfl (fun ls hl => ?_)
              refine lv_iconst (v := 0) hx hb dX12_year_274 (by decide) ?_
              refine lv_istore (lv' := [(8, .int 0), (7, .int 0), (6, .int 0), (5, .int 0), (4, .int 0), (0, .ref m0), (1, .int p0), (2, .int (nI k_7)), (3, .int p2)]) hx hb dX12_year_275 hl (by decide) rfl (fun ls hl => ?_)
              refine lv_iload hx hb dX12_year_277 (lv_at hl 0 rfl) ?_
              refine lv_aload_n hx hb dX12_year_279 rfl (lv_at hl 5 rfl) ?_
              refine va_get (ci := 12) (v := .ref ame) (C := RX12) (T := TX12) (N := 90) hx hb hts in_X12_year_X12 hown hK hP 0 rfl rfl 32 (by decide) (hts (.fieldLink RX12 74 "HallTablesModel" "men" "[I") (List.mem_of_getElem? (i := 1) rfl)) (fun _ h9 => h9) e_m32 dX12_year_280 ?_
              refine lv_aload_n hx hb dX12_year_283 rfl (lv_at hl 5 rfl) ?_
              refine va_get (ci := 12) (v := .int 0) (C := RX12) (T := TX12) (N := 90) hx hb hts in_X12_year_X12 hown hK hP 0 rfl rfl 18 (by decide) (hts (.fieldLink RX12 266 "HallTablesModel" "live" "I") (List.mem_of_getElem? (i := 2) rfl)) (fun _ h9 => h9) e_m18 dX12_year_284 ?_
              refine aI hx hb hK hP 1 rfl 0 rfl (Nat.le_of_ble_eq_true rfl) (Nat.le_of_ble_eq_true rfl) dX12_year_287 ?_
              refine tpI (v := 0) (z_me 0 (Nat.le_of_ble_eq_true rfl)) ?_
              refine lv_icmp_ge (tgt := 331) hx hb dX12_year_288 (by decide) (fun _ => ?_) (fun c9 => absurd (by decide) c9)
              refine lv_iload_n hx hb dX12_year_331 rfl (lv_at hl 8 rfl) ?_
              refine lv_iconst (v := 2) hx hb dX12_year_332 (by decide) ?_
              refine lv_icmp_ne (tgt := 341) hx hb dX12_year_333 (by decide) (fun c_16 => ?_) (fun c_16 => ?_)
              · refine lv_iload hx hb dX12_year_341 (lv_at hl 1 rfl) ?_
                have hP := hP.sub (ws' := []) [] rfl
                have hD := hD.sub (ws' := []) [] (by decide +kernel) rfl
                exact endI hx hb hr hlocks [] rfl ⟨(yearV_mok c_3 c_6), rfl⟩ hP hD hS (Nat.le_of_ble_eq_true rfl) (Nat.le_of_ble_eq_true rfl) dX12_year_343
              · refine lv_iload hx hb dX12_year_336 (lv_at hl 2 rfl) ?_
                refine lv_goto (tgt := 343) hx hb dX12_year_338 (by decide) ?_
                have hP := hP.sub (ws' := []) [] rfl
                have hD := hD.sub (ws' := []) [] (by decide +kernel) rfl
                exact endI hx hb hr hlocks [] rfl ⟨(yearV_mok c_3 c_6), rfl⟩ hP hD hS (Nat.le_of_ble_eq_true rfl) (Nat.le_of_ble_eq_true rfl) dX12_year_343
            · refine lv_iload hx hb dX12_year_265 (lv_at hl 1 rfl) ?_
              have hP := hP.sub (ws' := []) [] rfl
              have hD := hD.sub (ws' := []) [] (by decide +kernel) rfl
              exact endI hx hb hr hlocks [] rfl ⟨(yearV_mok c_3 c_6), rfl⟩ hP hD hS (Nat.le_of_ble_eq_true rfl) (Nat.le_of_ble_eq_true rfl) dX12_year_267
          · refine lv_iload hx hb dX12_year_257 (lv_at hl 2 rfl) ?_
            have hP := hP.sub (ws' := []) [] rfl
            have hD := hD.sub (ws' := []) [] (by decide +kernel) rfl
            exact endI hx hb hr hlocks [] rfl ⟨(yearV_mok c_3 c_6), rfl⟩ hP hD hS (Nat.le_of_ble_eq_true rfl) (Nat.le_of_ble_eq_true rfl) dX12_year_259
        | succ n_10 ih_11 =>
          intro i_9 H locs ls hi_13 hP hD hS hl
          refine lv_iload hx hb dX12_year_80 (lv_at hl 0 rfl) ?_
          refine lv_iload_n hx hb dX12_year_82 rfl (lv_at hl 5 rfl) ?_
          refine lv_icmp_ge (tgt := 253) hx hb dX12_year_83 (by decide) (fun c9 => absurd c9 (nI_ge (a := i_9) (b := k_7) (by omega) hk_8)) (fun _ => ?_)
          refine lv_iconst (v := 0) hx hb dX12_year_86 (by decide) ?_
          refine lv_istore (lv' := [(7, .int 0), (6, .int (nI i_9)), (5, .int 0), (4, .int 0), (0, .ref m0), (1, .int p0), (2, .int (nI k_7)), (3, .int p2)]) hx hb dX12_year_87 hl (by decide) rfl (fun ls hl => ?_)
          refine lv_iload hx hb dX12_year_89 (lv_at hl 0 rfl) ?_
          refine lv_aload_n hx hb dX12_year_91 rfl (lv_at hl 4 rfl) ?_
          refine va_get (ci := 12) (v := .ref ame) (C := RX12) (T := TX12) (N := 90) hx hb hts in_X12_year_X12 hown hK hP 0 rfl rfl 32 (by decide) (hts (.fieldLink RX12 74 "HallTablesModel" "men" "[I") (List.mem_of_getElem? (i := 1) rfl)) (fun _ h9 => h9) e_m32 dX12_year_92 ?_
          refine lv_aload_n hx hb dX12_year_95 rfl (lv_at hl 4 rfl) ?_
          refine va_get (ci := 12) (v := .int 0) (C := RX12) (T := TX12) (N := 90) hx hb hts in_X12_year_X12 hown hK hP 0 rfl rfl 18 (by decide) (hts (.fieldLink RX12 266 "HallTablesModel" "live" "I") (List.mem_of_getElem? (i := 2) rfl)) (fun _ h9 => h9) e_m18 dX12_year_96 ?_
          refine aI hx hb hK hP 1 rfl 0 rfl (Nat.le_of_ble_eq_true rfl) (Nat.le_of_ble_eq_true rfl) dX12_year_99 ?_
          refine tpI (v := 0) (z_me 0 (Nat.le_of_ble_eq_true rfl)) ?_
          refine lv_icmp_ge (tgt := 247) hx hb dX12_year_100 (by decide) (fun _ => ?_) (fun c9 => absurd (by decide) c9)
          refine lv_iinc (v := nI (i_9 + 1)) (lv' := [(6, .int (nI (i_9 + 1))), (7, .int 0), (5, .int 0), (4, .int 0), (0, .ref m0), (1, .int p0), (2, .int (nI k_7)), (3, .int p2)]) hx hb dX12_year_247 hl (k := 1) rfl (nI_1 i_9) (by decide) rfl (fun ls hl => ?_)
          refine lv_goto (tgt := 80) hx hb dX12_year_250 (by decide) ?_
          exact ih_11 (i_9 + 1) H locs ls (by omega) hP hD hS (lv_sub hl [0, 2, 3, 4, 5, 6, 7] rfl)
      exact lp_12 k_7 0 _ _ _ (by omega) hP hD hS hl
    · refine lv_iconst (v := (-1)) hx hb dX12_year_20 (by decide) ?_
      have hP := hP.sub (ws' := []) [] rfl
      have hD := hD.sub (ws' := []) [] (by decide +kernel) rfl
      exact endI hx hb hr hlocks [] rfl ⟨(yearV_m2 c_6), rfl⟩ hP hD hS (Nat.le_of_ble_eq_true rfl) (Nat.le_of_ble_eq_true rfl) dX12_year_21

theorem in_X12_rest_X12 : ∀ w ∈ u_ws RX12 TX12 90, w ∈ wsX12_rest := fun w h => (List.mem_cons_of_mem _ (List.mem_append_right _ h))
set_option maxRecDepth 100000 in
set_option maxHeartbeats 4000000 in
/-- the reference: rest on a new object -/
theorem c_X12_rest (l : Launch) (D : va_G) (cy : Nat → ClassId) (m0 : Nat) (fm : List Value) (ame : Nat) (aca : Nat) (gme : Nat → Int32) (gca : Nat → Int32) (p0 : Int32) (e_m32 : fm[32]? = some (.ref ame)) (e_m18 : fm[18]? = some (.int 0)) (e_m36 : fm[36]? = some (.ref aca)) (z_me : ∀ j : Nat, j < 2 → gme j = 0) (z_ca : ∀ j : Nat, j < 2 → gca j = 0) : Cti l D cy yX12_rest wsX12_rest ({ frames := 1, cells := 0, slots := 0, locals := 22 } : Room) [.ref m0, .int p0] [(m0, .inr (12, fm)), (ame, .inl (cy 0, 2, .inl gme)), (aca, .inl (cy 0, 2, .inl gca))] myT (fun (r : Int32) (w : va_W) => r = restV p0 ∧ w = []) := by
  refine ofI (cc := cX12_rest) (maxL := 10) (ret := (some .int)) (by decide) rfl (Nat.le_of_ble_eq_true rfl) ?_
  intro p e s m args below meth c A ls hx hb hr hts hown hlocks hml hin hK hP hD hS hA hX hl
  have hown : s.vm.findClass RX12 = some m.cls := hown
  have hl : lv_has ls 10 [(0, .ref m0), (1, .int p0)] := hl
  refine lv_iload_n hx hb dX12_rest_0 rfl (lv_at hl 1 rfl) ?_
  refine lv_iconst (v := 0) hx hb dX12_rest_1 (by decide) ?_
  refine lv_iconst (v := 2) hx hb dX12_rest_2 (by decide) ?_
  refine cSi (As := [.int p0, .int 0, .int 2]) (rest := []) (wr := [(m0, .inr (12, fm)), (ame, .inl (cy 0, 2, .inl gme)), (aca, .inl (cy 0, 2, .inl gca))]) ⟨hx, hb, hml, hown, hts⟩ (c_X12_in l D cy p0 0 2 ) (va_cwS 3 hts gX12_rest_X12_in rfl rfl rfl (by decide +kernel) ⟨Nat.le_of_ble_eq_true rfl, Nat.le_of_ble_eq_true rfl⟩) hK hP hD hS hA [] [0, 1, 2] ⟨rfl, rfl, by decide +kernel, by decide +kernel, by decide +kernel⟩ myX_T rfl hl.1 rfl (Nat.le_of_ble_eq_true rfl) dX12_rest_3 ⟨Nat.le_of_ble_eq_true rfl, Nat.le_of_ble_eq_true rfl⟩ (fun r_1 w_2 H locs hw hP hD hS => ?_)
  obtain ⟨rfl, rfl⟩ := hw
  have hP : va_P D vwCl [(m0, .inr (12, fm)), (ame, .inl (cy 0, 2, .inl gme)), (aca, .inl (cy 0, 2, .inl gca))] H := hP
  have hD : va_D A [(m0, .inr (12, fm)), (ame, .inl (cy 0, 2, .inl gme)), (aca, .inl (cy 0, 2, .inl gca))] := hD
  refine lv_if_ne (tgt := 11) hx hb dX12_rest_6 (by decide) (fun c_3 => ?_) (fun c_3 => ?_)
  · rcases (rng3b c_3) with rfl | rfl | rfl
    · refine lv_aload_n hx hb dX12_rest_11 rfl (lv_at hl 0 rfl) ?_
      refine va_get (ci := 12) (v := .ref aca) (C := RX12) (T := TX12) (N := 90) hx hb hts in_X12_rest_X12 hown hK hP 0 rfl rfl 36 (by decide) (hts (.fieldLink RX12 86 "HallTablesModel" "calls" "[I") (List.mem_of_getElem? (i := 1) rfl)) (fun _ h9 => h9) e_m36 dX12_rest_12 ?_
      refine lv_aload_n hx hb dX12_rest_15 rfl (lv_at hl 0 rfl) ?_
      refine va_get (ci := 12) (v := .int 0) (C := RX12) (T := TX12) (N := 90) hx hb hts in_X12_rest_X12 hown hK hP 0 rfl rfl 18 (by decide) (hts (.fieldLink RX12 266 "HallTablesModel" "live" "I") (List.mem_of_getElem? (i := 2) rfl)) (fun _ h9 => h9) e_m18 dX12_rest_16 ?_
      refine aI hx hb hK hP 2 rfl 0 rfl (Nat.le_of_ble_eq_true rfl) (Nat.le_of_ble_eq_true rfl) dX12_rest_19 ?_
      refine tpI (v := 0) (z_ca 0 (Nat.le_of_ble_eq_true rfl)) ?_
      refine lv_istore_n (lv' := [(2, .int 0), (0, .ref m0), (1, .int 0)]) hx hb dX12_rest_20 rfl hl (by decide) rfl (fun ls hl => ?_)
      refine lv_iconst (v := 0) hx hb dX12_rest_21 (by decide) ?_
      refine lv_istore_n (lv' := [(3, .int 0), (2, .int 0), (0, .ref m0), (1, .int 0)]) hx hb dX12_rest_22 rfl hl (by decide) rfl (fun ls hl => ?_)
      refine lv_iconst (v := 0) hx hb dX12_rest_23 (by decide) ?_
      refine lv_istore (lv' := [(4, .int 0), (3, .int 0), (2, .int 0), (0, .ref m0), (1, .int 0)]) hx hb dX12_rest_24 hl (by decide) rfl (fun ls hl => ?_)
      refine lv_iconst (v := 0) hx hb dX12_rest_26 (by decide) ?_
      refine lv_istore (lv' := [(5, .int 0), (4, .int 0), (3, .int 0), (2, .int 0), (0, .ref m0), (1, .int 0)]) hx hb dX12_rest_27 hl (by decide) rfl (fun ls hl => ?_)
      refine lv_iload hx hb dX12_rest_29 (lv_at hl 0 rfl) ?_
      refine lv_aload_n hx hb dX12_rest_31 rfl (lv_at hl 4 rfl) ?_
      refine va_get (ci := 12) (v := .ref ame) (C := RX12) (T := TX12) (N := 90) hx hb hts in_X12_rest_X12 hown hK hP 0 rfl rfl 32 (by decide) (hts (.fieldLink RX12 74 "HallTablesModel" "men" "[I") (List.mem_of_getElem? (i := 3) rfl)) (fun _ h9 => h9) e_m32 dX12_rest_32 ?_
      refine lv_aload_n hx hb dX12_rest_35 rfl (lv_at hl 4 rfl) ?_
      refine va_get (ci := 12) (v := .int 0) (C := RX12) (T := TX12) (N := 90) hx hb hts in_X12_rest_X12 hown hK hP 0 rfl rfl 18 (by decide) (hts (.fieldLink RX12 266 "HallTablesModel" "live" "I") (List.mem_of_getElem? (i := 2) rfl)) (fun _ h9 => h9) e_m18 dX12_rest_36 ?_
      refine aI hx hb hK hP 1 rfl 0 rfl (Nat.le_of_ble_eq_true rfl) (Nat.le_of_ble_eq_true rfl) dX12_rest_39 ?_
      refine tpI (v := 0) (z_me 0 (Nat.le_of_ble_eq_true rfl)) ?_
      refine lv_icmp_ge (tgt := 62) hx hb dX12_rest_40 (by decide) (fun _ => ?_) (fun c9 => absurd (by decide) c9)
      refine lv_iconst (v := 0) hx hb dX12_rest_62 (by decide) ?_
      refine lv_istore (lv' := [(5, .int 0), (4, .int 0), (3, .int 0), (2, .int 0), (0, .ref m0), (1, .int 0)]) hx hb dX12_rest_63 hl (by decide) rfl (fun ls hl => ?_)
      refine lv_iload hx hb dX12_rest_65 (lv_at hl 0 rfl) ?_
      refine lv_iload_n hx hb dX12_rest_67 rfl (lv_at hl 3 rfl) ?_
      refine lv_icmp_ge (tgt := 121) hx hb dX12_rest_68 (by decide) (fun _ => ?_) (fun c9 => absurd (by decide) c9)
      refine lv_iconst (v := 0) hx hb dX12_rest_121 (by decide) ?_
      refine lv_istore (lv' := [(5, .int 0), (4, .int 0), (3, .int 0), (2, .int 0), (0, .ref m0), (1, .int 0)]) hx hb dX12_rest_122 hl (by decide) rfl (fun ls hl => ?_)
      refine lv_iload hx hb dX12_rest_124 (lv_at hl 0 rfl) ?_
      refine lv_iload_n hx hb dX12_rest_126 rfl (lv_at hl 3 rfl) ?_
      refine lv_icmp_ge (tgt := 284) hx hb dX12_rest_127 (by decide) (fun _ => ?_) (fun c9 => absurd (by decide) c9)
      refine lv_iload_n hx hb dX12_rest_284 rfl (lv_at hl 5 rfl) ?_
      refine lv_if_ne (tgt := 290) hx hb dX12_rest_285 (by decide) (fun c9 => absurd (by decide) c9) (fun _ => ?_)
      refine lv_iload_n hx hb dX12_rest_288 rfl (lv_at hl 2 rfl) ?_
      have hP := hP.sub (ws' := []) [] rfl
      have hD := hD.sub (ws' := []) [] (by decide +kernel) rfl
      exact endI hx hb hr hlocks [] rfl ⟨(by decide), rfl⟩ hP hD hS (Nat.le_of_ble_eq_true rfl) (Nat.le_of_ble_eq_true rfl) dX12_rest_289
    · refine lv_aload_n hx hb dX12_rest_11 rfl (lv_at hl 0 rfl) ?_
      refine va_get (ci := 12) (v := .ref aca) (C := RX12) (T := TX12) (N := 90) hx hb hts in_X12_rest_X12 hown hK hP 0 rfl rfl 36 (by decide) (hts (.fieldLink RX12 86 "HallTablesModel" "calls" "[I") (List.mem_of_getElem? (i := 1) rfl)) (fun _ h9 => h9) e_m36 dX12_rest_12 ?_
      refine lv_aload_n hx hb dX12_rest_15 rfl (lv_at hl 0 rfl) ?_
      refine va_get (ci := 12) (v := .int 0) (C := RX12) (T := TX12) (N := 90) hx hb hts in_X12_rest_X12 hown hK hP 0 rfl rfl 18 (by decide) (hts (.fieldLink RX12 266 "HallTablesModel" "live" "I") (List.mem_of_getElem? (i := 2) rfl)) (fun _ h9 => h9) e_m18 dX12_rest_16 ?_
      refine aI hx hb hK hP 2 rfl 0 rfl (Nat.le_of_ble_eq_true rfl) (Nat.le_of_ble_eq_true rfl) dX12_rest_19 ?_
      refine tpI (v := 0) (z_ca 0 (Nat.le_of_ble_eq_true rfl)) ?_
      refine lv_istore_n (lv' := [(2, .int 0), (0, .ref m0), (1, .int 1)]) hx hb dX12_rest_20 rfl hl (by decide) rfl (fun ls hl => ?_)
      refine lv_iconst (v := 0) hx hb dX12_rest_21 (by decide) ?_
      refine lv_istore_n (lv' := [(3, .int 0), (2, .int 0), (0, .ref m0), (1, .int 1)]) hx hb dX12_rest_22 rfl hl (by decide) rfl (fun ls hl => ?_)
      refine lv_iconst (v := 0) hx hb dX12_rest_23 (by decide) ?_
      refine lv_istore (lv' := [(4, .int 0), (3, .int 0), (2, .int 0), (0, .ref m0), (1, .int 1)]) hx hb dX12_rest_24 hl (by decide) rfl (fun ls hl => ?_)
      refine lv_iconst (v := 0) hx hb dX12_rest_26 (by decide) ?_
      refine lv_istore (lv' := [(5, .int 0), (4, .int 0), (3, .int 0), (2, .int 0), (0, .ref m0), (1, .int 1)]) hx hb dX12_rest_27 hl (by decide) rfl (fun ls hl => ?_)
      refine lv_iload hx hb dX12_rest_29 (lv_at hl 0 rfl) ?_
      refine lv_aload_n hx hb dX12_rest_31 rfl (lv_at hl 4 rfl) ?_
      refine va_get (ci := 12) (v := .ref ame) (C := RX12) (T := TX12) (N := 90) hx hb hts in_X12_rest_X12 hown hK hP 0 rfl rfl 32 (by decide) (hts (.fieldLink RX12 74 "HallTablesModel" "men" "[I") (List.mem_of_getElem? (i := 3) rfl)) (fun _ h9 => h9) e_m32 dX12_rest_32 ?_
      refine lv_aload_n hx hb dX12_rest_35 rfl (lv_at hl 4 rfl) ?_
      refine va_get (ci := 12) (v := .int 0) (C := RX12) (T := TX12) (N := 90) hx hb hts in_X12_rest_X12 hown hK hP 0 rfl rfl 18 (by decide) (hts (.fieldLink RX12 266 "HallTablesModel" "live" "I") (List.mem_of_getElem? (i := 2) rfl)) (fun _ h9 => h9) e_m18 dX12_rest_36 ?_
      refine aI hx hb hK hP 1 rfl 0 rfl (Nat.le_of_ble_eq_true rfl) (Nat.le_of_ble_eq_true rfl) dX12_rest_39 ?_
      refine tpI (v := 0) (z_me 0 (Nat.le_of_ble_eq_true rfl)) ?_
      refine lv_icmp_ge (tgt := 62) hx hb dX12_rest_40 (by decide) (fun _ => ?_) (fun c9 => absurd (by decide) c9)
      refine lv_iconst (v := 0) hx hb dX12_rest_62 (by decide) ?_
      refine lv_istore (lv' := [(5, .int 0), (4, .int 0), (3, .int 0), (2, .int 0), (0, .ref m0), (1, .int 1)]) hx hb dX12_rest_63 hl (by decide) rfl (fun ls hl => ?_)
      refine lv_iload hx hb dX12_rest_65 (lv_at hl 0 rfl) ?_
      refine lv_iload_n hx hb dX12_rest_67 rfl (lv_at hl 3 rfl) ?_
      refine lv_icmp_ge (tgt := 121) hx hb dX12_rest_68 (by decide) (fun _ => ?_) (fun c9 => absurd (by decide) c9)
      refine lv_iconst (v := 0) hx hb dX12_rest_121 (by decide) ?_
      refine lv_istore (lv' := [(5, .int 0), (4, .int 0), (3, .int 0), (2, .int 0), (0, .ref m0), (1, .int 1)]) hx hb dX12_rest_122 hl (by decide) rfl (fun ls hl => ?_)
      refine lv_iload hx hb dX12_rest_124 (lv_at hl 0 rfl) ?_
      refine lv_iload_n hx hb dX12_rest_126 rfl (lv_at hl 3 rfl) ?_
      refine lv_icmp_ge (tgt := 284) hx hb dX12_rest_127 (by decide) (fun _ => ?_) (fun c9 => absurd (by decide) c9)
      refine lv_iload_n hx hb dX12_rest_284 rfl (lv_at hl 5 rfl) ?_
      refine lv_if_ne (tgt := 290) hx hb dX12_rest_285 (by decide) (fun _ => ?_) (fun c9 => absurd c9 (by decide))
      refine lv_iload_n hx hb dX12_rest_290 rfl (lv_at hl 5 rfl) ?_
      refine lv_iconst (v := 1) hx hb dX12_rest_291 (by decide) ?_
      refine lv_icmp_ne (tgt := 298) hx hb dX12_rest_292 (by decide) (fun c9 => absurd (by decide) c9) (fun _ => ?_)
      refine lv_iload hx hb dX12_rest_295 (lv_at hl 1 rfl) ?_
      have hP := hP.sub (ws' := []) [] rfl
      have hD := hD.sub (ws' := []) [] (by decide +kernel) rfl
      exact endI hx hb hr hlocks [] rfl ⟨(by decide), rfl⟩ hP hD hS (Nat.le_of_ble_eq_true rfl) (Nat.le_of_ble_eq_true rfl) dX12_rest_297
    · refine lv_aload_n hx hb dX12_rest_11 rfl (lv_at hl 0 rfl) ?_
      refine va_get (ci := 12) (v := .ref aca) (C := RX12) (T := TX12) (N := 90) hx hb hts in_X12_rest_X12 hown hK hP 0 rfl rfl 36 (by decide) (hts (.fieldLink RX12 86 "HallTablesModel" "calls" "[I") (List.mem_of_getElem? (i := 1) rfl)) (fun _ h9 => h9) e_m36 dX12_rest_12 ?_
      refine lv_aload_n hx hb dX12_rest_15 rfl (lv_at hl 0 rfl) ?_
      refine va_get (ci := 12) (v := .int 0) (C := RX12) (T := TX12) (N := 90) hx hb hts in_X12_rest_X12 hown hK hP 0 rfl rfl 18 (by decide) (hts (.fieldLink RX12 266 "HallTablesModel" "live" "I") (List.mem_of_getElem? (i := 2) rfl)) (fun _ h9 => h9) e_m18 dX12_rest_16 ?_
      refine aI hx hb hK hP 2 rfl 0 rfl (Nat.le_of_ble_eq_true rfl) (Nat.le_of_ble_eq_true rfl) dX12_rest_19 ?_
      refine tpI (v := 0) (z_ca 0 (Nat.le_of_ble_eq_true rfl)) ?_
      refine lv_istore_n (lv' := [(2, .int 0), (0, .ref m0), (1, .int 2)]) hx hb dX12_rest_20 rfl hl (by decide) rfl (fun ls hl => ?_)
      refine lv_iconst (v := 0) hx hb dX12_rest_21 (by decide) ?_
      refine lv_istore_n (lv' := [(3, .int 0), (2, .int 0), (0, .ref m0), (1, .int 2)]) hx hb dX12_rest_22 rfl hl (by decide) rfl (fun ls hl => ?_)
      refine lv_iconst (v := 0) hx hb dX12_rest_23 (by decide) ?_
      refine lv_istore (lv' := [(4, .int 0), (3, .int 0), (2, .int 0), (0, .ref m0), (1, .int 2)]) hx hb dX12_rest_24 hl (by decide) rfl (fun ls hl => ?_)
      refine lv_iconst (v := 0) hx hb dX12_rest_26 (by decide) ?_
      refine lv_istore (lv' := [(5, .int 0), (4, .int 0), (3, .int 0), (2, .int 0), (0, .ref m0), (1, .int 2)]) hx hb dX12_rest_27 hl (by decide) rfl (fun ls hl => ?_)
      refine lv_iload hx hb dX12_rest_29 (lv_at hl 0 rfl) ?_
      refine lv_aload_n hx hb dX12_rest_31 rfl (lv_at hl 4 rfl) ?_
      refine va_get (ci := 12) (v := .ref ame) (C := RX12) (T := TX12) (N := 90) hx hb hts in_X12_rest_X12 hown hK hP 0 rfl rfl 32 (by decide) (hts (.fieldLink RX12 74 "HallTablesModel" "men" "[I") (List.mem_of_getElem? (i := 3) rfl)) (fun _ h9 => h9) e_m32 dX12_rest_32 ?_
      refine lv_aload_n hx hb dX12_rest_35 rfl (lv_at hl 4 rfl) ?_
      refine va_get (ci := 12) (v := .int 0) (C := RX12) (T := TX12) (N := 90) hx hb hts in_X12_rest_X12 hown hK hP 0 rfl rfl 18 (by decide) (hts (.fieldLink RX12 266 "HallTablesModel" "live" "I") (List.mem_of_getElem? (i := 2) rfl)) (fun _ h9 => h9) e_m18 dX12_rest_36 ?_
      refine aI hx hb hK hP 1 rfl 0 rfl (Nat.le_of_ble_eq_true rfl) (Nat.le_of_ble_eq_true rfl) dX12_rest_39 ?_
      refine tpI (v := 0) (z_me 0 (Nat.le_of_ble_eq_true rfl)) ?_
      refine lv_icmp_ge (tgt := 62) hx hb dX12_rest_40 (by decide) (fun _ => ?_) (fun c9 => absurd (by decide) c9)
      refine lv_iconst (v := 0) hx hb dX12_rest_62 (by decide) ?_
      refine lv_istore (lv' := [(5, .int 0), (4, .int 0), (3, .int 0), (2, .int 0), (0, .ref m0), (1, .int 2)]) hx hb dX12_rest_63 hl (by decide) rfl (fun ls hl => ?_)
      refine lv_iload hx hb dX12_rest_65 (lv_at hl 0 rfl) ?_
      refine lv_iload_n hx hb dX12_rest_67 rfl (lv_at hl 3 rfl) ?_
      refine lv_icmp_ge (tgt := 121) hx hb dX12_rest_68 (by decide) (fun _ => ?_) (fun c9 => absurd (by decide) c9)
      refine lv_iconst (v := 0) hx hb dX12_rest_121 (by decide) ?_
      refine lv_istore (lv' := [(5, .int 0), (4, .int 0), (3, .int 0), (2, .int 0), (0, .ref m0), (1, .int 2)]) hx hb dX12_rest_122 hl (by decide) rfl (fun ls hl => ?_)
      refine lv_iload hx hb dX12_rest_124 (lv_at hl 0 rfl) ?_
      refine lv_iload_n hx hb dX12_rest_126 rfl (lv_at hl 3 rfl) ?_
      refine lv_icmp_ge (tgt := 284) hx hb dX12_rest_127 (by decide) (fun _ => ?_) (fun c9 => absurd (by decide) c9)
      refine lv_iload_n hx hb dX12_rest_284 rfl (lv_at hl 5 rfl) ?_
      refine lv_if_ne (tgt := 290) hx hb dX12_rest_285 (by decide) (fun _ => ?_) (fun c9 => absurd c9 (by decide))
      refine lv_iload_n hx hb dX12_rest_290 rfl (lv_at hl 5 rfl) ?_
      refine lv_iconst (v := 1) hx hb dX12_rest_291 (by decide) ?_
      refine lv_icmp_ne (tgt := 298) hx hb dX12_rest_292 (by decide) (fun _ => ?_) (fun c9 => absurd c9 (by decide))
      refine lv_iconst (v := 0) hx hb dX12_rest_298 (by decide) ?_
      refine lv_istore (lv' := [(5, .int 0), (4, .int 0), (3, .int 0), (2, .int 0), (0, .ref m0), (1, .int 2)]) hx hb dX12_rest_299 hl (by decide) rfl (fun ls hl => ?_)
      refine lv_iconst (v := 0) hx hb dX12_rest_301 (by decide) ?_
      refine lv_istore (lv' := [(6, .int 0), (5, .int 0), (4, .int 0), (3, .int 0), (2, .int 0), (0, .ref m0), (1, .int 2)]) hx hb dX12_rest_302 hl (by decide) rfl (fun ls hl => ?_)
      refine lv_iload hx hb dX12_rest_304 (lv_at hl 0 rfl) ?_
      refine lv_aload_n hx hb dX12_rest_306 rfl (lv_at hl 5 rfl) ?_
      refine va_get (ci := 12) (v := .ref ame) (C := RX12) (T := TX12) (N := 90) hx hb hts in_X12_rest_X12 hown hK hP 0 rfl rfl 32 (by decide) (hts (.fieldLink RX12 74 "HallTablesModel" "men" "[I") (List.mem_of_getElem? (i := 3) rfl)) (fun _ h9 => h9) e_m32 dX12_rest_307 ?_
      refine lv_aload_n hx hb dX12_rest_310 rfl (lv_at hl 5 rfl) ?_
      refine va_get (ci := 12) (v := .int 0) (C := RX12) (T := TX12) (N := 90) hx hb hts in_X12_rest_X12 hown hK hP 0 rfl rfl 18 (by decide) (hts (.fieldLink RX12 266 "HallTablesModel" "live" "I") (List.mem_of_getElem? (i := 2) rfl)) (fun _ h9 => h9) e_m18 dX12_rest_311 ?_
      refine aI hx hb hK hP 1 rfl 0 rfl (Nat.le_of_ble_eq_true rfl) (Nat.le_of_ble_eq_true rfl) dX12_rest_314 ?_
      refine tpI (v := 0) (z_me 0 (Nat.le_of_ble_eq_true rfl)) ?_
      refine lv_icmp_ge (tgt := 339) hx hb dX12_rest_315 (by decide) (fun _ => ?_) (fun c9 => absurd (by decide) c9)
      refine lv_iload hx hb dX12_rest_339 (lv_at hl 1 rfl) ?_
      have hP := hP.sub (ws' := []) [] rfl
      have hD := hD.sub (ws' := []) [] (by decide +kernel) rfl
      exact endI hx hb hr hlocks [] rfl ⟨(by decide), rfl⟩ hP hD hS (Nat.le_of_ble_eq_true rfl) (Nat.le_of_ble_eq_true rfl) dX12_rest_341
  · refine lv_iconst (v := (-1)) hx hb dX12_rest_9 (by decide) ?_
    have hP := hP.sub (ws' := []) [] rfl
    have hD := hD.sub (ws' := []) [] (by decide +kernel) rfl
    exact endI hx hb hr hlocks [] rfl ⟨(restV_m c_3), rfl⟩ hP hD hS (Nat.le_of_ble_eq_true rfl) (Nat.le_of_ble_eq_true rfl) dX12_rest_10
