set_option maxRecDepth 100000 in
set_option maxHeartbeats 4000000 in
/-- Preconditions.checkIndex in range -/
theorem c_J3_check_n (l : Launch) (D : va_G) (cy : Nat → ClassId) (k1 : Nat) (n1 : Nat) (hk1 : k1 < n1) (hn1 : n1 < 2 ^ 31) : Cti l D cy yJ3_checkIndex_8e157 wsJ3_checkIndex_8e157 ({ frames := 0, cells := 0, slots := 0, locals := 0 } : Room) [.int (nI k1), .int (nI n1), .null] [] myT (fun (r : Int32) (w : va_W) => r = nI k1 ∧ w = []) := by
  refine ofI (cc := cJ3_checkIndex_8e157) (maxL := 3) (ret := (some .int)) (by decide) rfl (Nat.le_of_ble_eq_true rfl) ?_
  intro p e s m args below meth c A ls hx hb hr hts hown hlocks hml hin hK hP hD hS hA hX hl
  have hown : s.vm.findClass RJ3 = some m.cls := hown
  have hl : lv_has ls 3 [(0, .int (nI k1)), (1, .int (nI n1)), (2, .null)] := hl
  refine lv_iload_n hx hb dJ3_checkIndex_8e157_0 rfl (lv_at hl 0 rfl) ?_
  refine lv_if_lt (tgt := 9) hx hb dJ3_checkIndex_8e157_1 (by decide) (fun c9 => absurd c9 (nI_pos (by omega))) (fun _ => ?_)
  refine lv_iload_n hx hb dJ3_checkIndex_8e157_4 rfl (lv_at hl 0 rfl) ?_
  refine lv_iload_n hx hb dJ3_checkIndex_8e157_5 rfl (lv_at hl 1 rfl) ?_
  refine lv_icmp_lt (tgt := 16) hx hb dJ3_checkIndex_8e157_6 (by decide) (fun _ => ?_) (fun c9 => absurd (nI_lt hk1 hn1) c9)
  refine lv_iload_n hx hb dJ3_checkIndex_8e157_16 rfl (lv_at hl 0 rfl) ?_
  exact endI hx hb hr hlocks [] rfl ⟨rfl, rfl⟩ hP hD hS (Nat.le_of_ble_eq_true rfl) (Nat.le_of_ble_eq_true rfl) dJ3_checkIndex_8e157_17

set_option maxRecDepth 100000 in
set_option maxHeartbeats 4000000 in
/-- Preconditions.checkIndex in range -/
theorem c_J3_check_r (l : Launch) (D : va_G) (cy : Nat → ClassId) (k1 : Nat) (n1 : Nat) (t9 : Nat) (hk1 : k1 < n1) (hn1 : n1 < 2 ^ 31) : Cti l D cy yJ3_checkIndex_8e157 wsJ3_checkIndex_8e157 ({ frames := 0, cells := 0, slots := 0, locals := 0 } : Room) [.int (nI k1), .int (nI n1), .ref t9] [] myT (fun (r : Int32) (w : va_W) => r = nI k1 ∧ w = []) := by
  refine ofI (cc := cJ3_checkIndex_8e157) (maxL := 3) (ret := (some .int)) (by decide) rfl (Nat.le_of_ble_eq_true rfl) ?_
  intro p e s m args below meth c A ls hx hb hr hts hown hlocks hml hin hK hP hD hS hA hX hl
  have hown : s.vm.findClass RJ3 = some m.cls := hown
  have hl : lv_has ls 3 [(0, .int (nI k1)), (1, .int (nI n1)), (2, .ref t9)] := hl
  refine lv_iload_n hx hb dJ3_checkIndex_8e157_0 rfl (lv_at hl 0 rfl) ?_
  refine lv_if_lt (tgt := 9) hx hb dJ3_checkIndex_8e157_1 (by decide) (fun c9 => absurd c9 (nI_pos (by omega))) (fun _ => ?_)
  refine lv_iload_n hx hb dJ3_checkIndex_8e157_4 rfl (lv_at hl 0 rfl) ?_
  refine lv_iload_n hx hb dJ3_checkIndex_8e157_5 rfl (lv_at hl 1 rfl) ?_
  refine lv_icmp_lt (tgt := 16) hx hb dJ3_checkIndex_8e157_6 (by decide) (fun _ => ?_) (fun c9 => absurd (nI_lt hk1 hn1) c9)
  refine lv_iload_n hx hb dJ3_checkIndex_8e157_16 rfl (lv_at hl 0 rfl) ?_
  exact endI hx hb hr hlocks [] rfl ⟨rfl, rfl⟩ hP hD hS (Nat.le_of_ble_eq_true rfl) (Nat.le_of_ble_eq_true rfl) dJ3_checkIndex_8e157_17

set_option maxRecDepth 100000 in
set_option maxHeartbeats 4000000 in
/-- String.checkIndex in range -/
theorem c_J0_check (l : Launch) (D : va_G) (cy : Nat → ClassId) (adK : Nat → Nat) (adV : Nat → Nat) (k1 : Nat) (n1 : Nat) (hk1 : k1 < n1) (hn1 : n1 < 2 ^ 31) : Ctv l D cy yJ0_checkIndex_df160 wsJ0_checkIndex_df160 ({ frames := 1, cells := 0, slots := 0, locals := 22 } : Room) [.int (nI k1), .int (nI n1)] [] (SX adK adV) (fun (w : va_W) => w = []) := by
  refine ofV (cc := cJ0_checkIndex_df160) (maxL := 2) (ret := none) (by decide) rfl (Nat.le_of_ble_eq_true rfl) ?_
  intro p e s m args below meth c A ls hx hb hr hts hown hlocks hml hin hK hP hD hS hA hX hl
  have hown : s.vm.findClass RJ0 = some m.cls := hown
  have hl : lv_has ls 2 [(0, .int (nI k1)), (1, .int (nI n1))] := hl
  refine lv_iload_n hx hb dJ0_checkIndex_df160_0 rfl (lv_at hl 0 rfl) ?_
  refine lv_iload_n hx hb dJ0_checkIndex_df160_1 rfl (lv_at hl 1 rfl) ?_
  rcases hX.2.2.2.2.2 with hZ_ | ⟨t_1, hZ_⟩
  · refine va_gets hx hb hZ_ hS hown (hts (.fieldLink RJ0 1053 "jdk/internal/util/Preconditions" "SIOOBE_FORMATTER" "Ljava/util/function/BiFunction;") (List.mem_of_getElem? (i := 1) rfl)) (fun _ h9 => h9) dJ0_checkIndex_df160_2 ?_
    refine cSi (As := [.int (nI k1), .int (nI n1), .null]) (rest := []) (wr := []) ⟨hx, hb, hml, hown, hts⟩ (c_J3_check_n l D cy k1 n1 hk1 hn1) (va_cwS 3 hts gJ0_checkIndex_df160_J3_checkIndex_8e157 rfl rfl rfl (by decide +kernel) ⟨Nat.le_of_ble_eq_true rfl, Nat.le_of_ble_eq_true rfl⟩) hK hP hD hS hA [] [] ⟨rfl, rfl, by decide +kernel, by decide +kernel, by decide +kernel⟩ myX_T rfl hl.1 rfl (Nat.le_of_ble_eq_true rfl) dJ0_checkIndex_df160_5 ⟨Nat.le_of_ble_eq_true rfl, Nat.le_of_ble_eq_true rfl⟩ (fun r_2 w_3 H locs hw hP hD hS => ?_)
    obtain ⟨rfl, rfl⟩ := hw
    have hP : va_P D vwCl [] H := hP
    have hD : va_D A [] := hD
    refine lv_pop hx hb dJ0_checkIndex_df160_8 rfl ?_
    exact endV hx hb hr hlocks [] rfl hP hD hS (Nat.le_of_ble_eq_true rfl) (Nat.le_of_ble_eq_true rfl) dJ0_checkIndex_df160_9
  · refine va_gets hx hb hZ_ hS hown (hts (.fieldLink RJ0 1053 "jdk/internal/util/Preconditions" "SIOOBE_FORMATTER" "Ljava/util/function/BiFunction;") (List.mem_of_getElem? (i := 1) rfl)) (fun _ h9 => h9) dJ0_checkIndex_df160_2 ?_
    refine cSi (As := [.int (nI k1), .int (nI n1), .ref t_1]) (rest := []) (wr := []) ⟨hx, hb, hml, hown, hts⟩ (c_J3_check_r l D cy k1 n1 t_1 hk1 hn1) (va_cwS 3 hts gJ0_checkIndex_df160_J3_checkIndex_8e157 rfl rfl rfl (by decide +kernel) ⟨Nat.le_of_ble_eq_true rfl, Nat.le_of_ble_eq_true rfl⟩) hK hP hD hS hA [] [] ⟨rfl, rfl, by decide +kernel, by decide +kernel, by decide +kernel⟩ myX_T rfl hl.1 rfl (Nat.le_of_ble_eq_true rfl) dJ0_checkIndex_df160_5 ⟨Nat.le_of_ble_eq_true rfl, Nat.le_of_ble_eq_true rfl⟩ (fun r_4 w_5 H locs hw hP hD hS => ?_)
    obtain ⟨rfl, rfl⟩ := hw
    have hP : va_P D vwCl [] H := hP
    have hD : va_D A [] := hD
    refine lv_pop hx hb dJ0_checkIndex_df160_8 rfl ?_
    exact endV hx hb hr hlocks [] rfl hP hD hS (Nat.le_of_ble_eq_true rfl) (Nat.le_of_ble_eq_true rfl) dJ0_checkIndex_df160_9

set_option maxRecDepth 100000 in
set_option maxHeartbeats 4000000 in
/-- StringLatin1.charAt of a constant -/
theorem c_J1_charAt (l : Launch) (D : va_G) (cy : Nat → ClassId) (adK : Nat → Nat) (adV : Nat → Nat) (i0 : Nat) (k1 : Nat) (hi0 : i0 < 12) (hk1 : k1 < lenS.getD i0 0) : Cti l D cy yJ1_charAt_3b067 wsJ1_charAt_3b067 ({ frames := 2, cells := 0, slots := 0, locals := 43 } : Room) [.ref (adV i0), .int (nI k1)] [] (SX adK adV) (fun (r : Int32) (w : va_W) => (narrow .char (.int r) = .int r) ∧ w = []) := by
  refine ofI (cc := cJ1_charAt_3b067) (maxL := 2) (ret := (some .char)) (by decide) rfl (Nat.le_of_ble_eq_true rfl) ?_
  intro p e s m args below meth c A ls hx hb hr hts hown hlocks hml hin hK hP hD hS hA hX hl
  have hown : s.vm.findClass RJ1 = some m.cls := hown
  have hl : lv_has ls 2 [(0, .ref (adV i0)), (1, .int (nI k1))] := hl
  refine lv_iload_n hx hb dJ1_charAt_3b067_0 rfl (lv_at hl 1 rfl) ?_
  refine lv_aload_n hx hb dJ1_charAt_3b067_1 rfl (lv_at hl 0 rfl) ?_
  refine va_tlen hx hb (hX.2.2.1.1 i0 hi0).2.2.2 hS (v := nI (lenS.getD i0 0)) rfl dJ1_charAt_3b067_2 ?_
  refine cSv (As := [.int (nI k1), .int (nI (lenS.getD i0 0))]) (rest := []) (wr := []) ⟨hx, hb, hml, hown, hts⟩ (c_J0_check l D cy adK adV k1 (lenS.getD i0 0) hk1 (lenS_lt i0)) (va_cwS 2 hts gJ1_charAt_3b067_J0_checkIndex_df160 rfl rfl rfl (by decide +kernel) ⟨Nat.le_of_ble_eq_true rfl, Nat.le_of_ble_eq_true rfl⟩) hK hP hD hS hA [] [] ⟨rfl, rfl, by decide +kernel, by decide +kernel, by decide +kernel⟩ (myX_S hX hS (va_free hD hS hA [] rfl)) rfl hl.1 rfl (Nat.le_of_ble_eq_true rfl) dJ1_charAt_3b067_3 ⟨Nat.le_of_ble_eq_true rfl, Nat.le_of_ble_eq_true rfl⟩ (fun w_1 H locs hw hP hD hS => ?_)
  obtain rfl := hw
  have hP : va_P D vwCl [] H := hP
  have hD : va_D A [] := hD
  refine lv_aload_n hx hb dJ1_charAt_3b067_6 rfl (lv_at hl 0 rfl) ?_
  refine lv_iload_n hx hb dJ1_charAt_3b067_7 rfl (lv_at hl 1 rfl) ?_
  refine va_tb hx hb (hX.2.2.1.1 i0 hi0).2.2.2 hS (vp_in_nI hk1 (lenS_lt i0)) rfl dJ1_charAt_3b067_8 ?_
  refine lv_topi (fun v_2 ev_2 => ?_)
  refine lv_sipush (v := 255) hx hb dJ1_charAt_3b067_9 (by decide) ?_
  refine lv_iand hx hb dJ1_charAt_3b067_12 ?_
  refine lv_topi (fun v_3 ev_3 => ?_)
  refine lv_i2c hx hb dJ1_charAt_3b067_13 rfl ?_
  refine lv_topi (fun v_4 ev_4 => ?_)
  have hn_ : narrow .char (.int v_4) = .int v_4 := by rw [ev_4]; exact pk_nc _
  exact endI hx hb hr hlocks [] hn_ ⟨hn_, rfl⟩ hP hD hS (Nat.le_of_ble_eq_true rfl) (Nat.le_of_ble_eq_true rfl) dJ1_charAt_3b067_14

set_option maxRecDepth 100000 in
set_option maxHeartbeats 4000000 in
/-- isLatin1 of a constant: true -/
theorem c_J0_isLatin1 (l : Launch) (D : va_G) (cy : Nat → ClassId) (adK : Nat → Nat) (adV : Nat → Nat) (i0 : Nat) (hi0 : i0 < 12) : Cti l D cy yJ0_isLatin1_aae02 wsJ0_isLatin1_aae02 ({ frames := 0, cells := 0, slots := 0, locals := 0 } : Room) [.ref (adK i0)] [] (SX adK adV) (fun (r : Int32) (w : va_W) => r = 1 ∧ w = []) := by
  refine ofI (cc := cJ0_isLatin1_aae02) (maxL := 1) (ret := (some .boolean)) (by decide) rfl (Nat.le_of_ble_eq_true rfl) ?_
  intro p e s m args below meth c A ls hx hb hr hts hown hlocks hml hin hK hP hD hS hA hX hl
  have hown : s.vm.findClass RJ0 = some m.cls := hown
  have hl : lv_has ls 1 [(0, .ref (adK i0))] := hl
  refine va_gets hx hb hX.2.2.2.2.1 hS hown (hts (.fieldLink RJ0 38 "java/lang/String" "COMPACT_STRINGS" "Z") (List.mem_of_getElem? (i := 1) rfl)) (fun _ h9 => h9) dJ0_isLatin1_aae02_0 ?_
  refine lv_if_eq (tgt := 17) hx hb dJ0_isLatin1_aae02_3 (by decide) (fun c9 => absurd c9 (by decide)) (fun _ => ?_)
  refine lv_aload_n hx hb dJ0_isLatin1_aae02_6 rfl (lv_at hl 0 rfl) ?_
  refine vk_getf hx hb (hX.2.2.1.1 i0 hi0).2.1 hS hown (hts (.fieldLink RJ0 15 "java/lang/String" "coder" "B") (List.mem_of_getElem? (i := 2) rfl)) (fun _ h9 => h9) dJ0_isLatin1_aae02_7 ?_
  refine lv_if_ne (tgt := 17) hx hb dJ0_isLatin1_aae02_10 (by decide) (fun c9 => absurd (by decide) c9) (fun _ => ?_)
  refine lv_iconst (v := 1) hx hb dJ0_isLatin1_aae02_13 (by decide) ?_
  refine lv_goto (tgt := 18) hx hb dJ0_isLatin1_aae02_14 (by decide) ?_
  exact endI hx hb hr hlocks [] rfl ⟨rfl, rfl⟩ hP hD hS (Nat.le_of_ble_eq_true rfl) (Nat.le_of_ble_eq_true rfl) dJ0_isLatin1_aae02_18

set_option maxRecDepth 100000 in
set_option maxHeartbeats 4000000 in
/-- coder of a constant: 0 -/
theorem c_J0_coder (l : Launch) (D : va_G) (cy : Nat → ClassId) (adK : Nat → Nat) (adV : Nat → Nat) (i0 : Nat) (hi0 : i0 < 12) : Cti l D cy yJ0_coder_7d493 wsJ0_coder_7d493 ({ frames := 0, cells := 0, slots := 0, locals := 0 } : Room) [.ref (adK i0)] [] (SX adK adV) (fun (r : Int32) (w : va_W) => r = 0 ∧ w = []) := by
  refine ofI (cc := cJ0_coder_7d493) (maxL := 1) (ret := (some .byte)) (by decide) rfl (Nat.le_of_ble_eq_true rfl) ?_
  intro p e s m args below meth c A ls hx hb hr hts hown hlocks hml hin hK hP hD hS hA hX hl
  have hown : s.vm.findClass RJ0 = some m.cls := hown
  have hl : lv_has ls 1 [(0, .ref (adK i0))] := hl
  refine va_gets hx hb hX.2.2.2.2.1 hS hown (hts (.fieldLink RJ0 38 "java/lang/String" "COMPACT_STRINGS" "Z") (List.mem_of_getElem? (i := 1) rfl)) (fun _ h9 => h9) dJ0_coder_7d493_0 ?_
  refine lv_if_eq (tgt := 13) hx hb dJ0_coder_7d493_3 (by decide) (fun c9 => absurd c9 (by decide)) (fun _ => ?_)
  refine lv_aload_n hx hb dJ0_coder_7d493_6 rfl (lv_at hl 0 rfl) ?_
  refine vk_getf hx hb (hX.2.2.1.1 i0 hi0).2.1 hS hown (hts (.fieldLink RJ0 15 "java/lang/String" "coder" "B") (List.mem_of_getElem? (i := 2) rfl)) (fun _ h9 => h9) dJ0_coder_7d493_7 ?_
  refine lv_goto (tgt := 14) hx hb dJ0_coder_7d493_10 (by decide) ?_
  exact endI hx hb hr hlocks [] rfl ⟨rfl, rfl⟩ hP hD hS (Nat.le_of_ble_eq_true rfl) (Nat.le_of_ble_eq_true rfl) dJ0_coder_7d493_14

set_option maxRecDepth 100000 in
set_option maxHeartbeats 4000000 in
/-- length of a constant -/
theorem c_J0_length (l : Launch) (D : va_G) (cy : Nat → ClassId) (adK : Nat → Nat) (adV : Nat → Nat) (i0 : Nat) (hi0 : i0 < 12) : Cti l D cy yJ0_length_8abf5 wsJ0_length_8abf5 ({ frames := 1, cells := 0, slots := 0, locals := 20 } : Room) [.ref (adK i0)] [] (SX adK adV) (fun (r : Int32) (w : va_W) => r = nI (lenS.getD i0 0) ∧ w = []) := by
  refine ofI (cc := cJ0_length_8abf5) (maxL := 1) (ret := (some .int)) (by decide) rfl (Nat.le_of_ble_eq_true rfl) ?_
  intro p e s m args below meth c A ls hx hb hr hts hown hlocks hml hin hK hP hD hS hA hX hl
  have hown : s.vm.findClass RJ0 = some m.cls := hown
  have hl : lv_has ls 1 [(0, .ref (adK i0))] := hl
  refine lv_aload_n hx hb dJ0_length_8abf5_0 rfl (lv_at hl 0 rfl) ?_
  refine vk_getf hx hb (hX.2.2.1.1 i0 hi0).2.2.1 hS hown (hts (.fieldLink RJ0 9 "java/lang/String" "value" "[B") (List.mem_of_getElem? (i := 1) rfl)) (fun _ h9 => h9) dJ0_length_8abf5_1 ?_
  refine va_tlen hx hb (hX.2.2.1.1 i0 hi0).2.2.2 hS (v := nI (lenS.getD i0 0)) rfl dJ0_length_8abf5_4 ?_
  refine lv_aload_n hx hb dJ0_length_8abf5_5 rfl (lv_at hl 0 rfl) ?_
  refine cWi (As := []) (rest := [.int (nI (lenS.getD i0 0))]) (wr := []) ⟨hx, hb, hml, hown, hts⟩ (c_J0_coder l D cy adK adV i0 hi0) (cwV 0 hts gJ0_length_8abf5_J0_coder_7d493 rfl rfl rfl (by decide +kernel) ⟨Nat.le_of_ble_eq_true rfl, Nat.le_of_ble_eq_true rfl⟩) hK hP hD hS hA [] [] ⟨rfl, rfl, by decide +kernel, by decide +kernel, by decide +kernel⟩ (vk_recv hX.2.2.1 hi0 hS) (myX_S hX hS (va_free hD hS hA [] rfl)) rfl hl.1 rfl (Nat.le_of_ble_eq_true rfl) dJ0_length_8abf5_6 ⟨Nat.le_of_ble_eq_true rfl, Nat.le_of_ble_eq_true rfl⟩ (fun r_1 w_2 H locs hw hP hD hS => ?_)
  obtain ⟨rfl, rfl⟩ := hw
  have hP : va_P D vwCl [] H := hP
  have hD : va_D A [] := hD
  refine lv_ishr hx hb dJ0_length_8abf5_9 ?_
  refine tpI (v := nI (lenS.getD i0 0)) (sc_shr0 (lenS_lt i0)) ?_
  exact endI hx hb hr hlocks [] rfl ⟨rfl, rfl⟩ hP hD hS (Nat.le_of_ble_eq_true rfl) (Nat.le_of_ble_eq_true rfl) dJ0_length_8abf5_10

set_option maxRecDepth 100000 in
set_option maxHeartbeats 4000000 in
/-- charAt of a constant -/
theorem c_J0_charAt (l : Launch) (D : va_G) (cy : Nat → ClassId) (adK : Nat → Nat) (adV : Nat → Nat) (i0 : Nat) (k1 : Nat) (hi0 : i0 < 12) (hk1 : k1 < lenS.getD i0 0) : Cti l D cy yJ0_charAt_5068e wsJ0_charAt_5068e ({ frames := 3, cells := 0, slots := 0, locals := 64 } : Room) [.ref (adK i0), .int (nI k1)] [] (SX adK adV) (fun (r : Int32) (w : va_W) => (narrow .char (.int r) = .int r) ∧ w = []) := by
  refine ofI (cc := cJ0_charAt_5068e) (maxL := 2) (ret := (some .char)) (by decide) rfl (Nat.le_of_ble_eq_true rfl) ?_
  intro p e s m args below meth c A ls hx hb hr hts hown hlocks hml hin hK hP hD hS hA hX hl
  have hown : s.vm.findClass RJ0 = some m.cls := hown
  have hl : lv_has ls 2 [(0, .ref (adK i0)), (1, .int (nI k1))] := hl
  refine lv_aload_n hx hb dJ0_charAt_5068e_0 rfl (lv_at hl 0 rfl) ?_
  refine cWi (As := []) (rest := []) (wr := []) ⟨hx, hb, hml, hown, hts⟩ (c_J0_isLatin1 l D cy adK adV i0 hi0) (cwV 0 hts gJ0_charAt_5068e_J0_isLatin1_aae02 rfl rfl rfl (by decide +kernel) ⟨Nat.le_of_ble_eq_true rfl, Nat.le_of_ble_eq_true rfl⟩) hK hP hD hS hA [] [] ⟨rfl, rfl, by decide +kernel, by decide +kernel, by decide +kernel⟩ (vk_recv hX.2.2.1 hi0 hS) (myX_S hX hS (va_free hD hS hA [] rfl)) rfl hl.1 rfl (Nat.le_of_ble_eq_true rfl) dJ0_charAt_5068e_1 ⟨Nat.le_of_ble_eq_true rfl, Nat.le_of_ble_eq_true rfl⟩ (fun r_1 w_2 H locs hw hP hD hS => ?_)
  obtain ⟨rfl, rfl⟩ := hw
  have hP : va_P D vwCl [] H := hP
  have hD : va_D A [] := hD
  refine lv_if_eq (tgt := 16) hx hb dJ0_charAt_5068e_4 (by decide) (fun c9 => absurd c9 (by decide)) (fun _ => ?_)
  refine lv_aload_n hx hb dJ0_charAt_5068e_7 rfl (lv_at hl 0 rfl) ?_
  refine vk_getf hx hb (hX.2.2.1.1 i0 hi0).2.2.1 hS hown (hts (.fieldLink RJ0 9 "java/lang/String" "value" "[B") (List.mem_of_getElem? (i := 1) rfl)) (fun _ h9 => h9) dJ0_charAt_5068e_8 ?_
  refine lv_iload_n hx hb dJ0_charAt_5068e_11 rfl (lv_at hl 1 rfl) ?_
  refine cSi (As := [.ref (adV i0), .int (nI k1)]) (rest := []) (wr := []) ⟨hx, hb, hml, hown, hts⟩ (c_J1_charAt l D cy adK adV i0 k1 hi0 hk1) (va_cwS 2 hts gJ0_charAt_5068e_J1_charAt_3b067 rfl rfl rfl (by decide +kernel) ⟨Nat.le_of_ble_eq_true rfl, Nat.le_of_ble_eq_true rfl⟩) hK hP hD hS hA [] [] ⟨rfl, rfl, by decide +kernel, by decide +kernel, by decide +kernel⟩ (myX_S hX hS (va_free hD hS hA [] rfl)) rfl hl.1 rfl (Nat.le_of_ble_eq_true rfl) dJ0_charAt_5068e_12 ⟨Nat.le_of_ble_eq_true rfl, Nat.le_of_ble_eq_true rfl⟩ (fun r_3 w_4 H locs hw hP hD hS => ?_)
  obtain ⟨h_5, rfl⟩ := hw
  have hP : va_P D vwCl [] H := hP
  have hD : va_D A [] := hD
  exact endI hx hb hr hlocks [] h_5 ⟨h_5, rfl⟩ hP hD hS (Nat.le_of_ble_eq_true rfl) (Nat.le_of_ble_eq_true rfl) dJ0_charAt_5068e_15

set_option maxRecDepth 100000 in
set_option maxHeartbeats 4000000 in
/-- codeWith: some number -/
theorem c_X6_codeWith (l : Launch) (D : va_G) (cy : Nat → ClassId) (p0 : Int64) (p1 : Int32) : Ctl l D cy yX6_codeWith wsX6_codeWith ({ frames := 0, cells := 0, slots := 0, locals := 0 } : Room) [.long p0, .int p1] [] myT (fun (r : Int64) (w : va_W) => w = []) := by
  refine ofL (cc := cX6_codeWith) (maxL := 3) (ret := (some .long)) (by decide) rfl (Nat.le_of_ble_eq_true rfl) ?_
  intro p e s m args below meth c A ls hx hb hr hts hown hlocks hml hin hK hP hD hS hA hX hl
  have hown : s.vm.findClass RX6 = some m.cls := hown
  have hl : lv_has ls 3 [(0, .long p0), (2, .int p1)] := hl
  refine lv_lload_n hx hb dX6_codeWith_0 rfl (lv_at hl 0 rfl) ?_
  refine lv_ldc2 hx hb hown (hts (.constantLong RX6 159 (27)) (List.mem_of_getElem? (i := 1) rfl)) dX6_codeWith_1 ?_
  refine tpL (v := 27) rfl ?_
  refine lv_lmul hx hb dX6_codeWith_4 ?_
  refine lv_topl (fun v_1 ev_1 => ?_)
  refine lv_iload_n hx hb dX6_codeWith_5 rfl (lv_at hl 1 rfl) ?_
  refine lv_bipush (v := 97) hx hb dX6_codeWith_6 (by decide) ?_
  refine lv_isub hx hb dX6_codeWith_8 ?_
  refine lv_topi (fun v_2 ev_2 => ?_)
  refine lv_iconst (v := 1) hx hb dX6_codeWith_9 (by decide) ?_
  refine lv_iadd hx hb dX6_codeWith_10 ?_
  refine lv_topi (fun v_3 ev_3 => ?_)
  refine lv_i2l hx hb dX6_codeWith_11 rfl ?_
  refine lv_topl (fun v_4 ev_4 => ?_)
  refine lv_ladd hx hb dX6_codeWith_12 ?_
  refine lv_topl (fun v_5 ev_5 => ?_)
  exact endL hx hb hr hlocks [] rfl hP hD hS (Nat.le_of_ble_eq_true rfl) (Nat.le_of_ble_eq_true rfl) dX6_codeWith_13

set_option maxRecDepth 100000 in
set_option maxHeartbeats 4000000 in
/-- code of a constant: some number -/
theorem c_X6_code (l : Launch) (D : va_G) (cy : Nat → ClassId) (adK : Nat → Nat) (adV : Nat → Nat) (i0 : Nat) (hi0 : i0 < 12) : Ctl l D cy yX6_code wsX6_code ({ frames := 4, cells := 0, slots := 0, locals := 85 } : Room) [.ref (adK i0)] [] (SX adK adV) (fun (r : Int64) (w : va_W) => w = []) := by
  refine ofL (cc := cX6_code) (maxL := 4) (ret := (some .long)) (by decide) rfl (Nat.le_of_ble_eq_true rfl) ?_
  intro p e s m args below meth c A ls hx hb hr hts hown hlocks hml hin hK hP hD hS hA hX hl
  have hown : s.vm.findClass RX6 = some m.cls := hown
  have hl : lv_has ls 4 [(0, .ref (adK i0))] := hl
  have hlen := lenS_lt i0
  refine lv_lconst (v := 0) hx hb dX6_code_0 (by decide) ?_
  refine lv_lstore_n (lv' := [(1, .long 0), (0, .ref (adK i0))]) hx hb dX6_code_1 rfl hl (by decide) rfl (fun ls hl => ?_)
  refine lv_iconst (v := 0) hx hb dX6_code_2 (by decide) ?_
  refine lv_istore_n (lv' := [(3, .int 0), (1, .long 0), (0, .ref (adK i0))]) hx hb dX6_code_3 rfl hl (by decide) rfl (fun ls hl => ?_)
  have lp_4 : ∀ (n_2 i_1 : Nat) (x_6 : Int64) (H : Heap) (locs : List Loc) (ls : Array Slot), i_1 + n_2 = (lenS.getD i0 0) → va_P D vwCl [] H → va_D A [] → va_S A s.heap H locs → lv_has ls 4 [(3, .int (nI i_1)), (1, .long x_6), (0, .ref (adK i0))] → W p l e ({ frames := 4, cells := 0, slots := 0, locals := 85 } : Room) s m args below meth c H locs 0 0 (MQ below (myQl D A (fun (r : Int64) (w : va_W) => w = [])) args s ({ frames := 4, cells := 0, slots := 0, locals := 85 } : Room).cells ({ frames := 4, cells := 0, slots := 0, locals := 85 } : Room).slots A) (F0 m 4 ls []) := by
    intro n_2
    induction n_2 with
    | zero =>
      intro i_1 x_6 H locs ls hi_5 hP hD hS hl
      refine lv_iload_n hx hb dX6_code_4 rfl (lv_at hl 0 rfl) ?_
      refine lv_aload_n hx hb dX6_code_5 rfl (lv_at hl 2 rfl) ?_
      refine cWi (As := []) (rest := [.int (nI i_1)]) (wr := []) ⟨hx, hb, hml, hown, hts⟩ (c_J0_length l D cy adK adV i0 hi0) (cwV 0 hts gX6_code_J0_length_8abf5 rfl rfl rfl (by decide +kernel) ⟨Nat.le_of_ble_eq_true rfl, Nat.le_of_ble_eq_true rfl⟩) hK hP hD hS hA [] [] ⟨rfl, rfl, by decide +kernel, by decide +kernel, by decide +kernel⟩ (vk_recv hX.2.2.1 hi0 hS) (myX_S hX hS (va_free hD hS hA [] rfl)) rfl hl.1 rfl (Nat.le_of_ble_eq_true rfl) dX6_code_6 ⟨Nat.le_of_ble_eq_true rfl, Nat.le_of_ble_eq_true rfl⟩ (fun r_7 w_8 H locs hw hP hD hS => ?_)
      obtain ⟨rfl, rfl⟩ := hw
      have hP : va_P D vwCl [] H := hP
      have hD : va_D A [] := hD
      refine lv_icmp_ge (tgt := 28) hx hb dX6_code_9 (by decide) (fun _ => ?_) (fun c9 => absurd (nI_le (a := (lenS.getD i0 0)) (b := i_1) (by omega) (by omega)) c9)
      refine lv_lload_n hx hb dX6_code_28 rfl (lv_at hl 1 rfl) ?_
      exact endL hx hb hr hlocks [] rfl hP hD hS (Nat.le_of_ble_eq_true rfl) (Nat.le_of_ble_eq_true rfl) dX6_code_29
    | succ n_2 ih_3 =>
      intro i_1 x_6 H locs ls hi_5 hP hD hS hl
      refine lv_iload_n hx hb dX6_code_4 rfl (lv_at hl 0 rfl) ?_
      refine lv_aload_n hx hb dX6_code_5 rfl (lv_at hl 2 rfl) ?_
      refine cWi (As := []) (rest := [.int (nI i_1)]) (wr := []) ⟨hx, hb, hml, hown, hts⟩ (c_J0_length l D cy adK adV i0 hi0) (cwV 0 hts gX6_code_J0_length_8abf5 rfl rfl rfl (by decide +kernel) ⟨Nat.le_of_ble_eq_true rfl, Nat.le_of_ble_eq_true rfl⟩) hK hP hD hS hA [] [] ⟨rfl, rfl, by decide +kernel, by decide +kernel, by decide +kernel⟩ (vk_recv hX.2.2.1 hi0 hS) (myX_S hX hS (va_free hD hS hA [] rfl)) rfl hl.1 rfl (Nat.le_of_ble_eq_true rfl) dX6_code_6 ⟨Nat.le_of_ble_eq_true rfl, Nat.le_of_ble_eq_true rfl⟩ (fun r_9 w_10 H locs hw hP hD hS => ?_)
      obtain ⟨rfl, rfl⟩ := hw
      have hP : va_P D vwCl [] H := hP
      have hD : va_D A [] := hD
      refine lv_icmp_ge (tgt := 28) hx hb dX6_code_9 (by decide) (fun c9 => absurd c9 (nI_ge (a := i_1) (b := (lenS.getD i0 0)) (by omega) hlen)) (fun _ => ?_)
      refine lv_lload_n hx hb dX6_code_12 rfl (lv_at hl 1 rfl) ?_
      refine lv_aload_n hx hb dX6_code_13 rfl (lv_at hl 2 rfl) ?_
      refine lv_iload_n hx hb dX6_code_14 rfl (lv_at hl 0 rfl) ?_
      refine cWi (As := [.int (nI i_1)]) (rest := [.long x_6]) (wr := []) ⟨hx, hb, hml, hown, hts⟩ (c_J0_charAt l D cy adK adV i0 i_1 hi0 (by omega)) (cwV 1 hts gX6_code_J0_charAt_5068e rfl rfl rfl (by decide +kernel) ⟨Nat.le_of_ble_eq_true rfl, Nat.le_of_ble_eq_true rfl⟩) hK hP hD hS hA [] [] ⟨rfl, rfl, by decide +kernel, by decide +kernel, by decide +kernel⟩ (vk_recv hX.2.2.1 hi0 hS) (myX_S hX hS (va_free hD hS hA [] rfl)) rfl hl.1 rfl (Nat.le_of_ble_eq_true rfl) dX6_code_15 ⟨Nat.le_of_ble_eq_true rfl, Nat.le_of_ble_eq_true rfl⟩ (fun r_11 w_12 H locs hw hP hD hS => ?_)
      obtain ⟨h_13, rfl⟩ := hw
      have hP : va_P D vwCl [] H := hP
      have hD : va_D A [] := hD
      refine cSl (As := [.long x_6, .int r_11]) (rest := []) (wr := []) ⟨hx, hb, hml, hown, hts⟩ (c_X6_codeWith l D cy x_6 r_11 ) (va_cwS 2 hts gX6_code_X6_codeWith rfl rfl rfl (by decide +kernel) ⟨Nat.le_of_ble_eq_true rfl, Nat.le_of_ble_eq_true rfl⟩) hK hP hD hS hA [] [] ⟨rfl, rfl, by decide +kernel, by decide +kernel, by decide +kernel⟩ myX_T rfl hl.1 rfl (Nat.le_of_ble_eq_true rfl) dX6_code_18 ⟨Nat.le_of_ble_eq_true rfl, Nat.le_of_ble_eq_true rfl⟩ (fun r_14 w_15 H locs hw hP hD hS => ?_)
      obtain rfl := hw
      have hP : va_P D vwCl [] H := hP
      have hD : va_D A [] := hD
      refine lv_lstore_n (lv' := [(1, .long r_14), (3, .int (nI i_1)), (0, .ref (adK i0))]) hx hb dX6_code_21 rfl hl (by decide) rfl (fun ls hl => ?_)
      refine lv_iinc (v := nI (i_1 + 1)) (lv' := [(3, .int (nI (i_1 + 1))), (1, .long r_14), (0, .ref (adK i0))]) hx hb dX6_code_22 hl (k := 1) rfl (nI_1 i_1) (by decide) rfl (fun ls hl => ?_)
      refine lv_goto (tgt := 4) hx hb dX6_code_25 (by decide) ?_
      exact ih_3 (i_1 + 1) r_14 H locs ls (by omega) hP hD hS (lv_sub hl [0, 1, 2] rfl)
  exact lp_4 (lenS.getD i0 0) 0 0 _ _ _ (by omega) hP hD hS hl
