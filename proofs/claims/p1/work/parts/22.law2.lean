set_option maxRecDepth 100000 in
set_option maxHeartbeats 4000000 in
/-- the law's case 17: X11_inReach -/
theorem law_case_17 {p : Program} {l : Launch} {e : Env} {s : State} {m : MethodId} {below : List Frame} {meth : Method} {c : Code} {D : va_G} {cy : Nat → ClassId} {A : Nat → Prop} {b : Nat} {xs : Nat → Int32} (C0 : lw_At p s m meth c b 6 xs) (hA : ∀ q, s.heap.size ≤ q → A q) (hA2 : ∀ q, A q → s.heap.size ≤ q) (hK : myK D cy s) (h0 : Nat) (fs : List Value) (t0 : Nat) (ft : List Value) (m0 : Nat) (fm : List Value) (ame : Nat) (gme : Nat → Int32) (e2 : fs[10]? = some (.ref t0)) (e_isMan : ft[3]? = some (.int 0)) (e_live : fm[18]? = some (.int 0)) (e_ame : fm[32]? = some (.ref ame)) (z_ame : ∀ j : Nat, j < 2 → gme j = 0) {H : Heap} {locs : List Loc} {ls : Array Slot} (hP : va_P D vwCl [(h0, .inr (11, fs)), (t0, .inr (7, ft)), (m0, .inr (12, fm)), (ame, .inl (cy 0, 2, .inl gme))] H) (hD : va_D A [(h0, .inr (11, fs)), (t0, .inr (7, ft)), (m0, .inr (12, fm)), (ame, .inl (cy 0, 2, .inl gme))]) (hS : va_S A s.heap H locs) (hl : lv_has ls 4 [(0, .ref b), (1, .ref h0), (2, .ref m0), (3, .int 0)]) : W p l e room_1 s m #[Value.ref b] below meth c H locs 189 143992 (lw_Z below #[Value.ref b] s) (F0 m 805 ls []) := by
  obtain ⟨hx, hb, hr, hml, hown, hts0, hX0, hbl, hlocks, hgv⟩ := id C0
  have hts := fun w h => hts0 w (wsL_law_in w h)
  have hown : s.vm.findClass RL = some m.cls := hown
  have hbA : ¬ A b := fun h => absurd hbl (Nat.not_lt.mpr (hA2 b h))
  refine lv_aload_n hx hb dL_law_805 rfl (lv_at hl 1 rfl) ?_
  refine lv_aload_n hx hb dL_law_806 rfl (lv_at hl 0 rfl) ?_
  refine lv_iload_n hx hb dL_law_807 rfl (lv_at hl 3 rfl) ?_
  refine lv_iconst (v := 1) hx hb dL_law_808 (by decide) ?_
  refine lv_iadd hx hb dL_law_809 ?_
  refine tpI (v := 1) (by decide) ?_
  refine va_sld hx hb hX0 hbl hbA hS (vp_in_nI (n := 1) (N := 6) (by decide) (by decide)) dL_law_810 ?_
  refine tpI (v := xs 1) rfl ?_
  refine cVi (As := [.int (xs 1)]) (rest := []) (wr := [(m0, .inr (12, fm)), (ame, .inl (cy 0, 2, .inl gme))]) ⟨hx, hb, hml, hown, hts⟩ (c_X11_inReach l D cy h0 fs t0 ft (xs 1) e2 e_isMan) (cwV 1 hts gL_law_X11_inReach rfl rfl rfl (by decide +kernel) ⟨Nat.le_of_ble_eq_true rfl, Nat.le_of_ble_eq_true rfl⟩) hK hP hD hS hA [0, 1] [2, 3] ⟨rfl, rfl, by decide +kernel, by decide +kernel, by decide +kernel⟩ 0 11 rfl rfl myX_T rfl hl.1 rfl (Nat.le_of_ble_eq_true rfl) dL_law_811 ⟨Nat.le_of_ble_eq_true rfl, Nat.le_of_ble_eq_true rfl⟩ (fun r_1 w_2 H locs hw hP hD hS => ?_)
  obtain ⟨rfl, rfl⟩ := hw
  have hP : va_P D vwCl [(m0, .inr (12, fm)), (ame, .inl (cy 0, 2, .inl gme))] H := hP
  have hD : va_D A [(m0, .inr (12, fm)), (ame, .inl (cy 0, 2, .inl gme))] := hD
  refine lv_aload_n hx hb dL_law_814 rfl (lv_at hl 2 rfl) ?_
  refine lv_aload_n hx hb dL_law_815 rfl (lv_at hl 0 rfl) ?_
  refine lv_iload_n hx hb dL_law_816 rfl (lv_at hl 3 rfl) ?_
  refine lv_iconst (v := 1) hx hb dL_law_817 (by decide) ?_
  refine lv_iadd hx hb dL_law_818 ?_
  refine tpI (v := 1) (by decide) ?_
  refine va_sld hx hb hX0 hbl hbA hS (vp_in_nI (n := 1) (N := 6) (by decide) (by decide)) dL_law_819 ?_
  refine tpI (v := xs 1) rfl ?_
  refine cVi (As := [.int (xs 1)]) (rest := [.int (-1)]) (wr := []) ⟨hx, hb, hml, hown, hts⟩ (c_X12_inReach l D cy m0 fm ame gme (xs 1) e_live e_ame z_ame) (cwV 1 hts gL_law_X12_inReach rfl rfl rfl (by decide +kernel) ⟨Nat.le_of_ble_eq_true rfl, Nat.le_of_ble_eq_true rfl⟩) hK hP hD hS hA [0, 1] [] ⟨rfl, rfl, by decide +kernel, by decide +kernel, by decide +kernel⟩ 0 12 rfl rfl myX_T rfl hl.1 rfl (Nat.le_of_ble_eq_true rfl) dL_law_820 ⟨Nat.le_of_ble_eq_true rfl, Nat.le_of_ble_eq_true rfl⟩ (fun r_3 w_4 H locs hw hP hD hS => ?_)
  obtain ⟨rfl, rfl⟩ := hw
  have hP : va_P D vwCl [] H := hP
  have hD : va_D A [] := hD
  refine lv_icmp_eq (tgt := 1343) hx hb dL_law_823 (by decide) (fun _ => ?_) (fun c9 => absurd rfl c9)
  refine lv_iinc (v := 6) (lv' := [(3, .int 6), (0, .ref b), (1, .ref h0), (2, .ref m0)]) hx hb dL_law_1343 hl (k := 3) rfl (by decide) (by decide) rfl (fun ls hl => ?_)
  refine lv_goto (tgt := 18) hx hb dL_law_1346 (by decide) ?_
  refine lv_iload_n hx hb dL_law_18 rfl (lv_at hl 0 rfl) ?_
  refine lv_aload_n hx hb dL_law_19 rfl (lv_at hl 1 rfl) ?_
  refine va_slen hx hb hX0 hbl hbA hS dL_law_20 ?_
  refine tpI (v := 6) rfl ?_
  refine lv_bipush (v := 6) hx hb dL_law_21 (by decide) ?_
  refine lv_isub hx hb dL_law_23 ?_
  refine tpI (v := 0) (by decide) ?_
  refine lv_icmp_gt (tgt := 1349) hx hb dL_law_24 (by decide) (fun _ => ?_) (fun c9 => absurd (by decide) c9)
  refine lv_iconst (v := 1) hx hb dL_law_1349 (by decide) ?_
  refine va_forget (fun q hq => hA2 _ (hS.2.2 q hq)) ?_
  refine W.widen (k := 600000) (n := 7302250) (Nat.le_of_ble_eq_true rfl) (Nat.le_of_ble_eq_true rfl) ?_
  exact lw_ret hx hb hr hlocks dL_law_1350

set_option maxRecDepth 100000 in
set_option maxHeartbeats 4000000 in
/-- the law's case 18: X11_most -/
theorem law_case_18 {p : Program} {l : Launch} {e : Env} {s : State} {m : MethodId} {below : List Frame} {meth : Method} {c : Code} {D : va_G} {cy : Nat → ClassId} {A : Nat → Prop} {b : Nat} {xs : Nat → Int32} (C0 : lw_At p s m meth c b 6 xs) (hA : ∀ q, s.heap.size ≤ q → A q) (hA2 : ∀ q, A q → s.heap.size ≤ q) (hK : myK D cy s) (h0 : Nat) (fs : List Value) (t0 : Nat) (ft : List Value) (m0 : Nat) (fm : List Value) (ame : Nat) (gme : Nat → Int32) (e2 : fs[10]? = some (.ref t0)) (e_isMan : ft[3]? = some (.int 0)) (e_live : fm[18]? = some (.int 0)) (e_ame : fm[32]? = some (.ref ame)) (z_ame : ∀ j : Nat, j < 2 → gme j = 0) {H : Heap} {locs : List Loc} {ls : Array Slot} (hP : va_P D vwCl [(h0, .inr (11, fs)), (t0, .inr (7, ft)), (m0, .inr (12, fm)), (ame, .inl (cy 0, 2, .inl gme))] H) (hD : va_D A [(h0, .inr (11, fs)), (t0, .inr (7, ft)), (m0, .inr (12, fm)), (ame, .inl (cy 0, 2, .inl gme))]) (hS : va_S A s.heap H locs) (hl : lv_has ls 4 [(0, .ref b), (1, .ref h0), (2, .ref m0), (3, .int 0)]) : W p l e room_1 s m #[Value.ref b] below meth c H locs 189 143992 (lw_Z below #[Value.ref b] s) (F0 m 828 ls []) := by
  obtain ⟨hx, hb, hr, hml, hown, hts0, hX0, hbl, hlocks, hgv⟩ := id C0
  have hts := fun w h => hts0 w (wsL_law_in w h)
  have hown : s.vm.findClass RL = some m.cls := hown
  have hbA : ¬ A b := fun h => absurd hbl (Nat.not_lt.mpr (hA2 b h))
  refine lv_aload_n hx hb dL_law_828 rfl (lv_at hl 1 rfl) ?_
  refine lv_aload_n hx hb dL_law_829 rfl (lv_at hl 0 rfl) ?_
  refine lv_iload_n hx hb dL_law_830 rfl (lv_at hl 3 rfl) ?_
  refine lv_iconst (v := 1) hx hb dL_law_831 (by decide) ?_
  refine lv_iadd hx hb dL_law_832 ?_
  refine tpI (v := 1) (by decide) ?_
  refine va_sld hx hb hX0 hbl hbA hS (vp_in_nI (n := 1) (N := 6) (by decide) (by decide)) dL_law_833 ?_
  refine tpI (v := xs 1) rfl ?_
  refine lv_aload_n hx hb dL_law_834 rfl (lv_at hl 0 rfl) ?_
  refine lv_iload_n hx hb dL_law_835 rfl (lv_at hl 3 rfl) ?_
  refine lv_iconst (v := 2) hx hb dL_law_836 (by decide) ?_
  refine lv_iadd hx hb dL_law_837 ?_
  refine tpI (v := 2) (by decide) ?_
  refine va_sld hx hb hX0 hbl hbA hS (vp_in_nI (n := 2) (N := 6) (by decide) (by decide)) dL_law_838 ?_
  refine tpI (v := xs 2) rfl ?_
  refine cVi (As := [.int (xs 1), .int (xs 2)]) (rest := []) (wr := [(m0, .inr (12, fm)), (ame, .inl (cy 0, 2, .inl gme))]) ⟨hx, hb, hml, hown, hts⟩ (c_X11_most l D cy h0 fs t0 ft (xs 1) (xs 2) e2 e_isMan) (cwV 2 hts gL_law_X11_most rfl rfl rfl (by decide +kernel) ⟨Nat.le_of_ble_eq_true rfl, Nat.le_of_ble_eq_true rfl⟩) hK hP hD hS hA [0, 1] [2, 3] ⟨rfl, rfl, by decide +kernel, by decide +kernel, by decide +kernel⟩ 0 11 rfl rfl myX_T rfl hl.1 rfl (Nat.le_of_ble_eq_true rfl) dL_law_839 ⟨Nat.le_of_ble_eq_true rfl, Nat.le_of_ble_eq_true rfl⟩ (fun r_1 w_2 H locs hw hP hD hS => ?_)
  obtain ⟨rfl, rfl⟩ := hw
  have hP : va_P D vwCl [(m0, .inr (12, fm)), (ame, .inl (cy 0, 2, .inl gme))] H := hP
  have hD : va_D A [(m0, .inr (12, fm)), (ame, .inl (cy 0, 2, .inl gme))] := hD
  refine lv_aload_n hx hb dL_law_842 rfl (lv_at hl 2 rfl) ?_
  refine lv_aload_n hx hb dL_law_843 rfl (lv_at hl 0 rfl) ?_
  refine lv_iload_n hx hb dL_law_844 rfl (lv_at hl 3 rfl) ?_
  refine lv_iconst (v := 1) hx hb dL_law_845 (by decide) ?_
  refine lv_iadd hx hb dL_law_846 ?_
  refine tpI (v := 1) (by decide) ?_
  refine va_sld hx hb hX0 hbl hbA hS (vp_in_nI (n := 1) (N := 6) (by decide) (by decide)) dL_law_847 ?_
  refine tpI (v := xs 1) rfl ?_
  refine lv_aload_n hx hb dL_law_848 rfl (lv_at hl 0 rfl) ?_
  refine lv_iload_n hx hb dL_law_849 rfl (lv_at hl 3 rfl) ?_
  refine lv_iconst (v := 2) hx hb dL_law_850 (by decide) ?_
  refine lv_iadd hx hb dL_law_851 ?_
  refine tpI (v := 2) (by decide) ?_
  refine va_sld hx hb hX0 hbl hbA hS (vp_in_nI (n := 2) (N := 6) (by decide) (by decide)) dL_law_852 ?_
  refine tpI (v := xs 2) rfl ?_
  refine cVi (As := [.int (xs 1), .int (xs 2)]) (rest := [.int (-1)]) (wr := []) ⟨hx, hb, hml, hown, hts⟩ (c_X12_most l D cy m0 fm ame gme (xs 1) (xs 2) e_live e_ame z_ame) (cwV 2 hts gL_law_X12_most rfl rfl rfl (by decide +kernel) ⟨Nat.le_of_ble_eq_true rfl, Nat.le_of_ble_eq_true rfl⟩) hK hP hD hS hA [0, 1] [] ⟨rfl, rfl, by decide +kernel, by decide +kernel, by decide +kernel⟩ 0 12 rfl rfl myX_T rfl hl.1 rfl (Nat.le_of_ble_eq_true rfl) dL_law_853 ⟨Nat.le_of_ble_eq_true rfl, Nat.le_of_ble_eq_true rfl⟩ (fun r_3 w_4 H locs hw hP hD hS => ?_)
  obtain ⟨rfl, rfl⟩ := hw
  have hP : va_P D vwCl [] H := hP
  have hD : va_D A [] := hD
  refine lv_icmp_eq (tgt := 1343) hx hb dL_law_856 (by decide) (fun _ => ?_) (fun c9 => absurd rfl c9)
  refine lv_iinc (v := 6) (lv' := [(3, .int 6), (0, .ref b), (1, .ref h0), (2, .ref m0)]) hx hb dL_law_1343 hl (k := 3) rfl (by decide) (by decide) rfl (fun ls hl => ?_)
  refine lv_goto (tgt := 18) hx hb dL_law_1346 (by decide) ?_
  refine lv_iload_n hx hb dL_law_18 rfl (lv_at hl 0 rfl) ?_
  refine lv_aload_n hx hb dL_law_19 rfl (lv_at hl 1 rfl) ?_
  refine va_slen hx hb hX0 hbl hbA hS dL_law_20 ?_
  refine tpI (v := 6) rfl ?_
  refine lv_bipush (v := 6) hx hb dL_law_21 (by decide) ?_
  refine lv_isub hx hb dL_law_23 ?_
  refine tpI (v := 0) (by decide) ?_
  refine lv_icmp_gt (tgt := 1349) hx hb dL_law_24 (by decide) (fun _ => ?_) (fun c9 => absurd (by decide) c9)
  refine lv_iconst (v := 1) hx hb dL_law_1349 (by decide) ?_
  refine va_forget (fun q hq => hA2 _ (hS.2.2 q hq)) ?_
  refine W.widen (k := 600000) (n := 7302250) (Nat.le_of_ble_eq_true rfl) (Nat.le_of_ble_eq_true rfl) ?_
  exact lw_ret hx hb hr hlocks dL_law_1350

set_option maxRecDepth 100000 in
set_option maxHeartbeats 4000000 in
/-- the law's case 19: X11_meet -/
theorem law_case_19 {p : Program} {l : Launch} {e : Env} {s : State} {m : MethodId} {below : List Frame} {meth : Method} {c : Code} {D : va_G} {cy : Nat → ClassId} {A : Nat → Prop} {b : Nat} {xs : Nat → Int32} (C0 : lw_At p s m meth c b 6 xs) (hA : ∀ q, s.heap.size ≤ q → A q) (hA2 : ∀ q, A q → s.heap.size ≤ q) (hK : myK D cy s) (h0 : Nat) (fs : List Value) (t0 : Nat) (ft : List Value) (m0 : Nat) (fm : List Value) (ame : Nat) (gme : Nat → Int32) (e2 : fs[10]? = some (.ref t0)) (e_isMan : ft[3]? = some (.int 0)) (e_live : fm[18]? = some (.int 0)) (e_ame : fm[32]? = some (.ref ame)) (z_ame : ∀ j : Nat, j < 2 → gme j = 0) {H : Heap} {locs : List Loc} {ls : Array Slot} (hP : va_P D vwCl [(h0, .inr (11, fs)), (t0, .inr (7, ft)), (m0, .inr (12, fm)), (ame, .inl (cy 0, 2, .inl gme))] H) (hD : va_D A [(h0, .inr (11, fs)), (t0, .inr (7, ft)), (m0, .inr (12, fm)), (ame, .inl (cy 0, 2, .inl gme))]) (hS : va_S A s.heap H locs) (hl : lv_has ls 4 [(0, .ref b), (1, .ref h0), (2, .ref m0), (3, .int 0)]) : W p l e room_1 s m #[Value.ref b] below meth c H locs 189 143992 (lw_Z below #[Value.ref b] s) (F0 m 861 ls []) := by
  obtain ⟨hx, hb, hr, hml, hown, hts0, hX0, hbl, hlocks, hgv⟩ := id C0
  have hts := fun w h => hts0 w (wsL_law_in w h)
  have hown : s.vm.findClass RL = some m.cls := hown
  have hbA : ¬ A b := fun h => absurd hbl (Nat.not_lt.mpr (hA2 b h))
  refine lv_aload_n hx hb dL_law_861 rfl (lv_at hl 1 rfl) ?_
  refine lv_aload_n hx hb dL_law_862 rfl (lv_at hl 0 rfl) ?_
  refine lv_iload_n hx hb dL_law_863 rfl (lv_at hl 3 rfl) ?_
  refine lv_iconst (v := 1) hx hb dL_law_864 (by decide) ?_
  refine lv_iadd hx hb dL_law_865 ?_
  refine tpI (v := 1) (by decide) ?_
  refine va_sld hx hb hX0 hbl hbA hS (vp_in_nI (n := 1) (N := 6) (by decide) (by decide)) dL_law_866 ?_
  refine tpI (v := xs 1) rfl ?_
  refine lv_aload_n hx hb dL_law_867 rfl (lv_at hl 0 rfl) ?_
  refine lv_iload_n hx hb dL_law_868 rfl (lv_at hl 3 rfl) ?_
  refine lv_iconst (v := 2) hx hb dL_law_869 (by decide) ?_
  refine lv_iadd hx hb dL_law_870 ?_
  refine tpI (v := 2) (by decide) ?_
  refine va_sld hx hb hX0 hbl hbA hS (vp_in_nI (n := 2) (N := 6) (by decide) (by decide)) dL_law_871 ?_
  refine tpI (v := xs 2) rfl ?_
  refine lv_aload_n hx hb dL_law_872 rfl (lv_at hl 0 rfl) ?_
  refine lv_iload_n hx hb dL_law_873 rfl (lv_at hl 3 rfl) ?_
  refine lv_iconst (v := 3) hx hb dL_law_874 (by decide) ?_
  refine lv_iadd hx hb dL_law_875 ?_
  refine tpI (v := 3) (by decide) ?_
  refine va_sld hx hb hX0 hbl hbA hS (vp_in_nI (n := 3) (N := 6) (by decide) (by decide)) dL_law_876 ?_
  refine tpI (v := xs 3) rfl ?_
  refine cVi (As := [.int (xs 1), .int (xs 2), .int (xs 3)]) (rest := []) (wr := [(m0, .inr (12, fm)), (ame, .inl (cy 0, 2, .inl gme))]) ⟨hx, hb, hml, hown, hts⟩ (c_X11_meet l D cy h0 fs t0 ft (xs 1) (xs 2) (xs 3) e2 e_isMan) (cwV 3 hts gL_law_X11_meet rfl rfl rfl (by decide +kernel) ⟨Nat.le_of_ble_eq_true rfl, Nat.le_of_ble_eq_true rfl⟩) hK hP hD hS hA [0, 1] [2, 3] ⟨rfl, rfl, by decide +kernel, by decide +kernel, by decide +kernel⟩ 0 11 rfl rfl myX_T rfl hl.1 rfl (Nat.le_of_ble_eq_true rfl) dL_law_877 ⟨Nat.le_of_ble_eq_true rfl, Nat.le_of_ble_eq_true rfl⟩ (fun r_1 w_2 H locs hw hP hD hS => ?_)
  obtain ⟨rfl, rfl⟩ := hw
  have hP : va_P D vwCl [(m0, .inr (12, fm)), (ame, .inl (cy 0, 2, .inl gme))] H := hP
  have hD : va_D A [(m0, .inr (12, fm)), (ame, .inl (cy 0, 2, .inl gme))] := hD
  refine lv_aload_n hx hb dL_law_880 rfl (lv_at hl 2 rfl) ?_
  refine lv_aload_n hx hb dL_law_881 rfl (lv_at hl 0 rfl) ?_
  refine lv_iload_n hx hb dL_law_882 rfl (lv_at hl 3 rfl) ?_
  refine lv_iconst (v := 1) hx hb dL_law_883 (by decide) ?_
  refine lv_iadd hx hb dL_law_884 ?_
  refine tpI (v := 1) (by decide) ?_
  refine va_sld hx hb hX0 hbl hbA hS (vp_in_nI (n := 1) (N := 6) (by decide) (by decide)) dL_law_885 ?_
  refine tpI (v := xs 1) rfl ?_
  refine lv_aload_n hx hb dL_law_886 rfl (lv_at hl 0 rfl) ?_
  refine lv_iload_n hx hb dL_law_887 rfl (lv_at hl 3 rfl) ?_
  refine lv_iconst (v := 2) hx hb dL_law_888 (by decide) ?_
  refine lv_iadd hx hb dL_law_889 ?_
  refine tpI (v := 2) (by decide) ?_
  refine va_sld hx hb hX0 hbl hbA hS (vp_in_nI (n := 2) (N := 6) (by decide) (by decide)) dL_law_890 ?_
  refine tpI (v := xs 2) rfl ?_
  refine lv_aload_n hx hb dL_law_891 rfl (lv_at hl 0 rfl) ?_
  refine lv_iload_n hx hb dL_law_892 rfl (lv_at hl 3 rfl) ?_
  refine lv_iconst (v := 3) hx hb dL_law_893 (by decide) ?_
  refine lv_iadd hx hb dL_law_894 ?_
  refine tpI (v := 3) (by decide) ?_
  refine va_sld hx hb hX0 hbl hbA hS (vp_in_nI (n := 3) (N := 6) (by decide) (by decide)) dL_law_895 ?_
  refine tpI (v := xs 3) rfl ?_
  refine cVi (As := [.int (xs 1), .int (xs 2), .int (xs 3)]) (rest := [.int (-1)]) (wr := []) ⟨hx, hb, hml, hown, hts⟩ (c_X12_meet l D cy m0 fm ame gme (xs 1) (xs 2) (xs 3) e_live e_ame z_ame) (cwV 3 hts gL_law_X12_meet rfl rfl rfl (by decide +kernel) ⟨Nat.le_of_ble_eq_true rfl, Nat.le_of_ble_eq_true rfl⟩) hK hP hD hS hA [0, 1] [] ⟨rfl, rfl, by decide +kernel, by decide +kernel, by decide +kernel⟩ 0 12 rfl rfl myX_T rfl hl.1 rfl (Nat.le_of_ble_eq_true rfl) dL_law_896 ⟨Nat.le_of_ble_eq_true rfl, Nat.le_of_ble_eq_true rfl⟩ (fun r_3 w_4 H locs hw hP hD hS => ?_)
  obtain ⟨rfl, rfl⟩ := hw
  have hP : va_P D vwCl [] H := hP
  have hD : va_D A [] := hD
  refine lv_icmp_eq (tgt := 1343) hx hb dL_law_899 (by decide) (fun _ => ?_) (fun c9 => absurd rfl c9)
  refine lv_iinc (v := 6) (lv' := [(3, .int 6), (0, .ref b), (1, .ref h0), (2, .ref m0)]) hx hb dL_law_1343 hl (k := 3) rfl (by decide) (by decide) rfl (fun ls hl => ?_)
  refine lv_goto (tgt := 18) hx hb dL_law_1346 (by decide) ?_
  refine lv_iload_n hx hb dL_law_18 rfl (lv_at hl 0 rfl) ?_
  refine lv_aload_n hx hb dL_law_19 rfl (lv_at hl 1 rfl) ?_
  refine va_slen hx hb hX0 hbl hbA hS dL_law_20 ?_
  refine tpI (v := 6) rfl ?_
  refine lv_bipush (v := 6) hx hb dL_law_21 (by decide) ?_
  refine lv_isub hx hb dL_law_23 ?_
  refine tpI (v := 0) (by decide) ?_
  refine lv_icmp_gt (tgt := 1349) hx hb dL_law_24 (by decide) (fun _ => ?_) (fun c9 => absurd (by decide) c9)
  refine lv_iconst (v := 1) hx hb dL_law_1349 (by decide) ?_
  refine va_forget (fun q hq => hA2 _ (hS.2.2 q hq)) ?_
  refine W.widen (k := 600000) (n := 7302250) (Nat.le_of_ble_eq_true rfl) (Nat.le_of_ble_eq_true rfl) ?_
  exact lw_ret hx hb hr hlocks dL_law_1350

set_option maxRecDepth 100000 in
set_option maxHeartbeats 4000000 in
/-- the law's case 20: X11_riches -/
theorem law_case_20 {p : Program} {l : Launch} {e : Env} {s : State} {m : MethodId} {below : List Frame} {meth : Method} {c : Code} {D : va_G} {cy : Nat → ClassId} {A : Nat → Prop} {b : Nat} {xs : Nat → Int32} (C0 : lw_At p s m meth c b 6 xs) (hA : ∀ q, s.heap.size ≤ q → A q) (hA2 : ∀ q, A q → s.heap.size ≤ q) (hK : myK D cy s) (h0 : Nat) (fs : List Value) (t0 : Nat) (ft : List Value) (m0 : Nat) (fm : List Value) (aho : Nat) (gho : Nat → Int32) (e2 : fs[10]? = some (.ref t0)) (e_isHouse : ft[1]? = some (.int 0)) (e_live : fm[18]? = some (.int 0)) (e_aho : fm[26]? = some (.ref aho)) (z_aho : ∀ j : Nat, j < 2 → gho j = 0) {H : Heap} {locs : List Loc} {ls : Array Slot} (hP : va_P D vwCl [(h0, .inr (11, fs)), (t0, .inr (7, ft)), (m0, .inr (12, fm)), (aho, .inl (cy 0, 2, .inl gho))] H) (hD : va_D A [(h0, .inr (11, fs)), (t0, .inr (7, ft)), (m0, .inr (12, fm)), (aho, .inl (cy 0, 2, .inl gho))]) (hS : va_S A s.heap H locs) (hl : lv_has ls 4 [(0, .ref b), (1, .ref h0), (2, .ref m0), (3, .int 0)]) : W p l e room_1 s m #[Value.ref b] below meth c H locs 189 143992 (lw_Z below #[Value.ref b] s) (F0 m 904 ls []) := by
  obtain ⟨hx, hb, hr, hml, hown, hts0, hX0, hbl, hlocks, hgv⟩ := id C0
  have hts := fun w h => hts0 w (wsL_law_in w h)
  have hown : s.vm.findClass RL = some m.cls := hown
  have hbA : ¬ A b := fun h => absurd hbl (Nat.not_lt.mpr (hA2 b h))
  refine lv_aload_n hx hb dL_law_904 rfl (lv_at hl 1 rfl) ?_
  refine lv_aload_n hx hb dL_law_905 rfl (lv_at hl 0 rfl) ?_
  refine lv_iload_n hx hb dL_law_906 rfl (lv_at hl 3 rfl) ?_
  refine lv_iconst (v := 1) hx hb dL_law_907 (by decide) ?_
  refine lv_iadd hx hb dL_law_908 ?_
  refine tpI (v := 1) (by decide) ?_
  refine va_sld hx hb hX0 hbl hbA hS (vp_in_nI (n := 1) (N := 6) (by decide) (by decide)) dL_law_909 ?_
  refine tpI (v := xs 1) rfl ?_
  refine cVi (As := [.int (xs 1)]) (rest := []) (wr := [(m0, .inr (12, fm)), (aho, .inl (cy 0, 2, .inl gho))]) ⟨hx, hb, hml, hown, hts⟩ (c_X11_riches l D cy h0 fs t0 ft (xs 1) e2 e_isHouse) (cwV 1 hts gL_law_X11_riches rfl rfl rfl (by decide +kernel) ⟨Nat.le_of_ble_eq_true rfl, Nat.le_of_ble_eq_true rfl⟩) hK hP hD hS hA [0, 1] [2, 3] ⟨rfl, rfl, by decide +kernel, by decide +kernel, by decide +kernel⟩ 0 11 rfl rfl myX_T rfl hl.1 rfl (Nat.le_of_ble_eq_true rfl) dL_law_910 ⟨Nat.le_of_ble_eq_true rfl, Nat.le_of_ble_eq_true rfl⟩ (fun r_1 w_2 H locs hw hP hD hS => ?_)
  obtain ⟨rfl, rfl⟩ := hw
  have hP : va_P D vwCl [(m0, .inr (12, fm)), (aho, .inl (cy 0, 2, .inl gho))] H := hP
  have hD : va_D A [(m0, .inr (12, fm)), (aho, .inl (cy 0, 2, .inl gho))] := hD
  refine lv_aload_n hx hb dL_law_913 rfl (lv_at hl 2 rfl) ?_
  refine lv_aload_n hx hb dL_law_914 rfl (lv_at hl 0 rfl) ?_
  refine lv_iload_n hx hb dL_law_915 rfl (lv_at hl 3 rfl) ?_
  refine lv_iconst (v := 1) hx hb dL_law_916 (by decide) ?_
  refine lv_iadd hx hb dL_law_917 ?_
  refine tpI (v := 1) (by decide) ?_
  refine va_sld hx hb hX0 hbl hbA hS (vp_in_nI (n := 1) (N := 6) (by decide) (by decide)) dL_law_918 ?_
  refine tpI (v := xs 1) rfl ?_
  refine cVi (As := [.int (xs 1)]) (rest := [.int (richesV (xs 1))]) (wr := []) ⟨hx, hb, hml, hown, hts⟩ (c_X12_riches l D cy m0 fm aho gho (xs 1) e_live e_aho z_aho) (cwV 1 hts gL_law_X12_riches rfl rfl rfl (by decide +kernel) ⟨Nat.le_of_ble_eq_true rfl, Nat.le_of_ble_eq_true rfl⟩) hK hP hD hS hA [0, 1] [] ⟨rfl, rfl, by decide +kernel, by decide +kernel, by decide +kernel⟩ 0 12 rfl rfl myX_T rfl hl.1 rfl (Nat.le_of_ble_eq_true rfl) dL_law_919 ⟨Nat.le_of_ble_eq_true rfl, Nat.le_of_ble_eq_true rfl⟩ (fun r_3 w_4 H locs hw hP hD hS => ?_)
  obtain ⟨rfl, rfl⟩ := hw
  have hP : va_P D vwCl [] H := hP
  have hD : va_D A [] := hD
  refine lv_icmp_eq (tgt := 1343) hx hb dL_law_922 (by decide) (fun _ => ?_) (fun c9 => absurd rfl c9)
  refine lv_iinc (v := 6) (lv' := [(3, .int 6), (0, .ref b), (1, .ref h0), (2, .ref m0)]) hx hb dL_law_1343 hl (k := 3) rfl (by decide) (by decide) rfl (fun ls hl => ?_)
  refine lv_goto (tgt := 18) hx hb dL_law_1346 (by decide) ?_
  refine lv_iload_n hx hb dL_law_18 rfl (lv_at hl 0 rfl) ?_
  refine lv_aload_n hx hb dL_law_19 rfl (lv_at hl 1 rfl) ?_
  refine va_slen hx hb hX0 hbl hbA hS dL_law_20 ?_
  refine tpI (v := 6) rfl ?_
  refine lv_bipush (v := 6) hx hb dL_law_21 (by decide) ?_
  refine lv_isub hx hb dL_law_23 ?_
  refine tpI (v := 0) (by decide) ?_
  refine lv_icmp_gt (tgt := 1349) hx hb dL_law_24 (by decide) (fun _ => ?_) (fun c9 => absurd (by decide) c9)
  refine lv_iconst (v := 1) hx hb dL_law_1349 (by decide) ?_
  refine va_forget (fun q hq => hA2 _ (hS.2.2 q hq)) ?_
  refine W.widen (k := 600000) (n := 7302250) (Nat.le_of_ble_eq_true rfl) (Nat.le_of_ble_eq_true rfl) ?_
  exact lw_ret hx hb hr hlocks dL_law_1350

set_option maxRecDepth 100000 in
set_option maxHeartbeats 4000000 in
/-- the law's case 21: X11_round -/
theorem law_case_21 {p : Program} {l : Launch} {e : Env} {s : State} {m : MethodId} {below : List Frame} {meth : Method} {c : Code} {D : va_G} {cy : Nat → ClassId} {A : Nat → Prop} {b : Nat} {xs : Nat → Int32} (C0 : lw_At p s m meth c b 6 xs) (hA : ∀ q, s.heap.size ≤ q → A q) (hA2 : ∀ q, A q → s.heap.size ≤ q) (hK : myK D cy s) (h0 : Nat) (fs : List Value) (t0 : Nat) (ft : List Value) (m0 : Nat) (fm : List Value) (ame : Nat) (gme : Nat → Int32) (e2 : fs[10]? = some (.ref t0)) (e_isMan : ft[3]? = some (.int 0)) (e_live : fm[18]? = some (.int 0)) (e_ame : fm[32]? = some (.ref ame)) (z_ame : ∀ j : Nat, j < 2 → gme j = 0) {H : Heap} {locs : List Loc} {ls : Array Slot} (hP : va_P D vwCl [(h0, .inr (11, fs)), (t0, .inr (7, ft)), (m0, .inr (12, fm)), (ame, .inl (cy 0, 2, .inl gme))] H) (hD : va_D A [(h0, .inr (11, fs)), (t0, .inr (7, ft)), (m0, .inr (12, fm)), (ame, .inl (cy 0, 2, .inl gme))]) (hS : va_S A s.heap H locs) (hl : lv_has ls 4 [(0, .ref b), (1, .ref h0), (2, .ref m0), (3, .int 0)]) : W p l e room_1 s m #[Value.ref b] below meth c H locs 189 143992 (lw_Z below #[Value.ref b] s) (F0 m 927 ls []) := by
  obtain ⟨hx, hb, hr, hml, hown, hts0, hX0, hbl, hlocks, hgv⟩ := id C0
  have hts := fun w h => hts0 w (wsL_law_in w h)
  have hown : s.vm.findClass RL = some m.cls := hown
  have hbA : ¬ A b := fun h => absurd hbl (Nat.not_lt.mpr (hA2 b h))
  refine lv_aload_n hx hb dL_law_927 rfl (lv_at hl 1 rfl) ?_
  refine lv_aload_n hx hb dL_law_928 rfl (lv_at hl 0 rfl) ?_
  refine lv_iload_n hx hb dL_law_929 rfl (lv_at hl 3 rfl) ?_
  refine lv_iconst (v := 1) hx hb dL_law_930 (by decide) ?_
  refine lv_iadd hx hb dL_law_931 ?_
  refine tpI (v := 1) (by decide) ?_
  refine va_sld hx hb hX0 hbl hbA hS (vp_in_nI (n := 1) (N := 6) (by decide) (by decide)) dL_law_932 ?_
  refine tpI (v := xs 1) rfl ?_
  refine lv_aload_n hx hb dL_law_933 rfl (lv_at hl 0 rfl) ?_
  refine lv_iload_n hx hb dL_law_934 rfl (lv_at hl 3 rfl) ?_
  refine lv_iconst (v := 2) hx hb dL_law_935 (by decide) ?_
  refine lv_iadd hx hb dL_law_936 ?_
  refine tpI (v := 2) (by decide) ?_
  refine va_sld hx hb hX0 hbl hbA hS (vp_in_nI (n := 2) (N := 6) (by decide) (by decide)) dL_law_937 ?_
  refine tpI (v := xs 2) rfl ?_
  refine cVi (As := [.int (xs 1), .int (xs 2)]) (rest := []) (wr := [(m0, .inr (12, fm)), (ame, .inl (cy 0, 2, .inl gme))]) ⟨hx, hb, hml, hown, hts⟩ (c_X11_round l D cy h0 fs t0 ft (xs 1) (xs 2) e2 e_isMan) (cwV 2 hts gL_law_X11_round rfl rfl rfl (by decide +kernel) ⟨Nat.le_of_ble_eq_true rfl, Nat.le_of_ble_eq_true rfl⟩) hK hP hD hS hA [0, 1] [2, 3] ⟨rfl, rfl, by decide +kernel, by decide +kernel, by decide +kernel⟩ 0 11 rfl rfl myX_T rfl hl.1 rfl (Nat.le_of_ble_eq_true rfl) dL_law_938 ⟨Nat.le_of_ble_eq_true rfl, Nat.le_of_ble_eq_true rfl⟩ (fun r_1 w_2 H locs hw hP hD hS => ?_)
  obtain ⟨rfl, rfl⟩ := hw
  have hP : va_P D vwCl [(m0, .inr (12, fm)), (ame, .inl (cy 0, 2, .inl gme))] H := hP
  have hD : va_D A [(m0, .inr (12, fm)), (ame, .inl (cy 0, 2, .inl gme))] := hD
  refine lv_aload_n hx hb dL_law_941 rfl (lv_at hl 2 rfl) ?_
  refine lv_aload_n hx hb dL_law_942 rfl (lv_at hl 0 rfl) ?_
  refine lv_iload_n hx hb dL_law_943 rfl (lv_at hl 3 rfl) ?_
  refine lv_iconst (v := 1) hx hb dL_law_944 (by decide) ?_
  refine lv_iadd hx hb dL_law_945 ?_
  refine tpI (v := 1) (by decide) ?_
  refine va_sld hx hb hX0 hbl hbA hS (vp_in_nI (n := 1) (N := 6) (by decide) (by decide)) dL_law_946 ?_
  refine tpI (v := xs 1) rfl ?_
  refine lv_aload_n hx hb dL_law_947 rfl (lv_at hl 0 rfl) ?_
  refine lv_iload_n hx hb dL_law_948 rfl (lv_at hl 3 rfl) ?_
  refine lv_iconst (v := 2) hx hb dL_law_949 (by decide) ?_
  refine lv_iadd hx hb dL_law_950 ?_
  refine tpI (v := 2) (by decide) ?_
  refine va_sld hx hb hX0 hbl hbA hS (vp_in_nI (n := 2) (N := 6) (by decide) (by decide)) dL_law_951 ?_
  refine tpI (v := xs 2) rfl ?_
  refine cVi (As := [.int (xs 1), .int (xs 2)]) (rest := [.int (-1)]) (wr := []) ⟨hx, hb, hml, hown, hts⟩ (c_X12_round l D cy m0 fm ame gme (xs 1) (xs 2) e_live e_ame z_ame) (cwV 2 hts gL_law_X12_round rfl rfl rfl (by decide +kernel) ⟨Nat.le_of_ble_eq_true rfl, Nat.le_of_ble_eq_true rfl⟩) hK hP hD hS hA [0, 1] [] ⟨rfl, rfl, by decide +kernel, by decide +kernel, by decide +kernel⟩ 0 12 rfl rfl myX_T rfl hl.1 rfl (Nat.le_of_ble_eq_true rfl) dL_law_952 ⟨Nat.le_of_ble_eq_true rfl, Nat.le_of_ble_eq_true rfl⟩ (fun r_3 w_4 H locs hw hP hD hS => ?_)
  obtain ⟨rfl, rfl⟩ := hw
  have hP : va_P D vwCl [] H := hP
  have hD : va_D A [] := hD
  refine lv_icmp_eq (tgt := 1343) hx hb dL_law_955 (by decide) (fun _ => ?_) (fun c9 => absurd rfl c9)
  refine lv_iinc (v := 6) (lv' := [(3, .int 6), (0, .ref b), (1, .ref h0), (2, .ref m0)]) hx hb dL_law_1343 hl (k := 3) rfl (by decide) (by decide) rfl (fun ls hl => ?_)
  refine lv_goto (tgt := 18) hx hb dL_law_1346 (by decide) ?_
  refine lv_iload_n hx hb dL_law_18 rfl (lv_at hl 0 rfl) ?_
  refine lv_aload_n hx hb dL_law_19 rfl (lv_at hl 1 rfl) ?_
  refine va_slen hx hb hX0 hbl hbA hS dL_law_20 ?_
  refine tpI (v := 6) rfl ?_
  refine lv_bipush (v := 6) hx hb dL_law_21 (by decide) ?_
  refine lv_isub hx hb dL_law_23 ?_
  refine tpI (v := 0) (by decide) ?_
  refine lv_icmp_gt (tgt := 1349) hx hb dL_law_24 (by decide) (fun _ => ?_) (fun c9 => absurd (by decide) c9)
  refine lv_iconst (v := 1) hx hb dL_law_1349 (by decide) ?_
  refine va_forget (fun q hq => hA2 _ (hS.2.2 q hq)) ?_
  refine W.widen (k := 600000) (n := 7302250) (Nat.le_of_ble_eq_true rfl) (Nat.le_of_ble_eq_true rfl) ?_
  exact lw_ret hx hb hr hlocks dL_law_1350

set_option maxRecDepth 100000 in
set_option maxHeartbeats 4000000 in
/-- the law's case 22: X11_carried -/
theorem law_case_22 {p : Program} {l : Launch} {e : Env} {s : State} {m : MethodId} {below : List Frame} {meth : Method} {c : Code} {D : va_G} {cy : Nat → ClassId} {A : Nat → Prop} {b : Nat} {xs : Nat → Int32} (C0 : lw_At p s m meth c b 6 xs) (hA : ∀ q, s.heap.size ≤ q → A q) (hA2 : ∀ q, A q → s.heap.size ≤ q) (hK : myK D cy s) (h0 : Nat) (fs : List Value) (t0 : Nat) (ft : List Value) (m0 : Nat) (fm : List Value) (aso : Nat) (gso : Nat → Int32) (e2 : fs[10]? = some (.ref t0)) (e_isSort : ft[0]? = some (.int 0)) (e_live : fm[18]? = some (.int 0)) (e_aso : fm[24]? = some (.ref aso)) (z_aso : ∀ j : Nat, j < 2 → gso j = 0) {H : Heap} {locs : List Loc} {ls : Array Slot} (hP : va_P D vwCl [(h0, .inr (11, fs)), (t0, .inr (7, ft)), (m0, .inr (12, fm)), (aso, .inl (cy 0, 2, .inl gso))] H) (hD : va_D A [(h0, .inr (11, fs)), (t0, .inr (7, ft)), (m0, .inr (12, fm)), (aso, .inl (cy 0, 2, .inl gso))]) (hS : va_S A s.heap H locs) (hl : lv_has ls 4 [(0, .ref b), (1, .ref h0), (2, .ref m0), (3, .int 0)]) : W p l e room_1 s m #[Value.ref b] below meth c H locs 189 143992 (lw_Z below #[Value.ref b] s) (F0 m 960 ls []) := by
  obtain ⟨hx, hb, hr, hml, hown, hts0, hX0, hbl, hlocks, hgv⟩ := id C0
  have hts := fun w h => hts0 w (wsL_law_in w h)
  have hown : s.vm.findClass RL = some m.cls := hown
  have hbA : ¬ A b := fun h => absurd hbl (Nat.not_lt.mpr (hA2 b h))
  refine lv_aload_n hx hb dL_law_960 rfl (lv_at hl 1 rfl) ?_
  refine lv_aload_n hx hb dL_law_961 rfl (lv_at hl 0 rfl) ?_
  refine lv_iload_n hx hb dL_law_962 rfl (lv_at hl 3 rfl) ?_
  refine lv_iconst (v := 1) hx hb dL_law_963 (by decide) ?_
  refine lv_iadd hx hb dL_law_964 ?_
  refine tpI (v := 1) (by decide) ?_
  refine va_sld hx hb hX0 hbl hbA hS (vp_in_nI (n := 1) (N := 6) (by decide) (by decide)) dL_law_965 ?_
  refine tpI (v := xs 1) rfl ?_
  refine lv_aload_n hx hb dL_law_966 rfl (lv_at hl 0 rfl) ?_
  refine lv_iload_n hx hb dL_law_967 rfl (lv_at hl 3 rfl) ?_
  refine lv_iconst (v := 2) hx hb dL_law_968 (by decide) ?_
  refine lv_iadd hx hb dL_law_969 ?_
  refine tpI (v := 2) (by decide) ?_
  refine va_sld hx hb hX0 hbl hbA hS (vp_in_nI (n := 2) (N := 6) (by decide) (by decide)) dL_law_970 ?_
  refine tpI (v := xs 2) rfl ?_
  refine cVi (As := [.int (xs 1), .int (xs 2)]) (rest := []) (wr := [(m0, .inr (12, fm)), (aso, .inl (cy 0, 2, .inl gso))]) ⟨hx, hb, hml, hown, hts⟩ (c_X11_carried l D cy h0 fs t0 ft (xs 1) (xs 2) e2 e_isSort) (cwV 2 hts gL_law_X11_carried rfl rfl rfl (by decide +kernel) ⟨Nat.le_of_ble_eq_true rfl, Nat.le_of_ble_eq_true rfl⟩) hK hP hD hS hA [0, 1] [2, 3] ⟨rfl, rfl, by decide +kernel, by decide +kernel, by decide +kernel⟩ 0 11 rfl rfl myX_T rfl hl.1 rfl (Nat.le_of_ble_eq_true rfl) dL_law_971 ⟨Nat.le_of_ble_eq_true rfl, Nat.le_of_ble_eq_true rfl⟩ (fun r_1 w_2 H locs hw hP hD hS => ?_)
  obtain ⟨rfl, rfl⟩ := hw
  have hP : va_P D vwCl [(m0, .inr (12, fm)), (aso, .inl (cy 0, 2, .inl gso))] H := hP
  have hD : va_D A [(m0, .inr (12, fm)), (aso, .inl (cy 0, 2, .inl gso))] := hD
  refine lv_aload_n hx hb dL_law_974 rfl (lv_at hl 2 rfl) ?_
  refine lv_aload_n hx hb dL_law_975 rfl (lv_at hl 0 rfl) ?_
  refine lv_iload_n hx hb dL_law_976 rfl (lv_at hl 3 rfl) ?_
  refine lv_iconst (v := 1) hx hb dL_law_977 (by decide) ?_
  refine lv_iadd hx hb dL_law_978 ?_
  refine tpI (v := 1) (by decide) ?_
  refine va_sld hx hb hX0 hbl hbA hS (vp_in_nI (n := 1) (N := 6) (by decide) (by decide)) dL_law_979 ?_
  refine tpI (v := xs 1) rfl ?_
  refine lv_aload_n hx hb dL_law_980 rfl (lv_at hl 0 rfl) ?_
  refine lv_iload_n hx hb dL_law_981 rfl (lv_at hl 3 rfl) ?_
  refine lv_iconst (v := 2) hx hb dL_law_982 (by decide) ?_
  refine lv_iadd hx hb dL_law_983 ?_
  refine tpI (v := 2) (by decide) ?_
  refine va_sld hx hb hX0 hbl hbA hS (vp_in_nI (n := 2) (N := 6) (by decide) (by decide)) dL_law_984 ?_
  refine tpI (v := xs 2) rfl ?_
  refine cVi (As := [.int (xs 1), .int (xs 2)]) (rest := [.int (-1)]) (wr := []) ⟨hx, hb, hml, hown, hts⟩ (c_X12_carried l D cy m0 fm aso gso (xs 1) (xs 2) e_live e_aso z_aso) (cwV 2 hts gL_law_X12_carried rfl rfl rfl (by decide +kernel) ⟨Nat.le_of_ble_eq_true rfl, Nat.le_of_ble_eq_true rfl⟩) hK hP hD hS hA [0, 1] [] ⟨rfl, rfl, by decide +kernel, by decide +kernel, by decide +kernel⟩ 0 12 rfl rfl myX_T rfl hl.1 rfl (Nat.le_of_ble_eq_true rfl) dL_law_985 ⟨Nat.le_of_ble_eq_true rfl, Nat.le_of_ble_eq_true rfl⟩ (fun r_3 w_4 H locs hw hP hD hS => ?_)
  obtain ⟨rfl, rfl⟩ := hw
  have hP : va_P D vwCl [] H := hP
  have hD : va_D A [] := hD
  refine lv_icmp_eq (tgt := 1343) hx hb dL_law_988 (by decide) (fun _ => ?_) (fun c9 => absurd rfl c9)
  refine lv_iinc (v := 6) (lv' := [(3, .int 6), (0, .ref b), (1, .ref h0), (2, .ref m0)]) hx hb dL_law_1343 hl (k := 3) rfl (by decide) (by decide) rfl (fun ls hl => ?_)
  refine lv_goto (tgt := 18) hx hb dL_law_1346 (by decide) ?_
  refine lv_iload_n hx hb dL_law_18 rfl (lv_at hl 0 rfl) ?_
  refine lv_aload_n hx hb dL_law_19 rfl (lv_at hl 1 rfl) ?_
  refine va_slen hx hb hX0 hbl hbA hS dL_law_20 ?_
  refine tpI (v := 6) rfl ?_
  refine lv_bipush (v := 6) hx hb dL_law_21 (by decide) ?_
  refine lv_isub hx hb dL_law_23 ?_
  refine tpI (v := 0) (by decide) ?_
  refine lv_icmp_gt (tgt := 1349) hx hb dL_law_24 (by decide) (fun _ => ?_) (fun c9 => absurd (by decide) c9)
  refine lv_iconst (v := 1) hx hb dL_law_1349 (by decide) ?_
  refine va_forget (fun q hq => hA2 _ (hS.2.2 q hq)) ?_
  refine W.widen (k := 600000) (n := 7302250) (Nat.le_of_ble_eq_true rfl) (Nat.le_of_ble_eq_true rfl) ?_
  exact lw_ret hx hb hr hlocks dL_law_1350

set_option maxRecDepth 100000 in
set_option maxHeartbeats 4000000 in
/-- the law's case 23: X11_helps -/
theorem law_case_23 {p : Program} {l : Launch} {e : Env} {s : State} {m : MethodId} {below : List Frame} {meth : Method} {c : Code} {D : va_G} {cy : Nat → ClassId} {A : Nat → Prop} {b : Nat} {xs : Nat → Int32} (C0 : lw_At p s m meth c b 6 xs) (hA : ∀ q, s.heap.size ≤ q → A q) (hA2 : ∀ q, A q → s.heap.size ≤ q) (hK : myK D cy s) (h0 : Nat) (fs : List Value) (t0 : Nat) (ft : List Value) (m0 : Nat) (fm : List Value) (aso : Nat) (gso : Nat → Int32) (e2 : fs[10]? = some (.ref t0)) (e_isSort : ft[0]? = some (.int 0)) (e_live : fm[18]? = some (.int 0)) (e_aso : fm[24]? = some (.ref aso)) (z_aso : ∀ j : Nat, j < 2 → gso j = 0) {H : Heap} {locs : List Loc} {ls : Array Slot} (hP : va_P D vwCl [(h0, .inr (11, fs)), (t0, .inr (7, ft)), (m0, .inr (12, fm)), (aso, .inl (cy 0, 2, .inl gso))] H) (hD : va_D A [(h0, .inr (11, fs)), (t0, .inr (7, ft)), (m0, .inr (12, fm)), (aso, .inl (cy 0, 2, .inl gso))]) (hS : va_S A s.heap H locs) (hl : lv_has ls 4 [(0, .ref b), (1, .ref h0), (2, .ref m0), (3, .int 0)]) : W p l e room_1 s m #[Value.ref b] below meth c H locs 189 143992 (lw_Z below #[Value.ref b] s) (F0 m 993 ls []) := by
  obtain ⟨hx, hb, hr, hml, hown, hts0, hX0, hbl, hlocks, hgv⟩ := id C0
  have hts := fun w h => hts0 w (wsL_law_in w h)
  have hown : s.vm.findClass RL = some m.cls := hown
  have hbA : ¬ A b := fun h => absurd hbl (Nat.not_lt.mpr (hA2 b h))
  refine lv_aload_n hx hb dL_law_993 rfl (lv_at hl 1 rfl) ?_
  refine lv_aload_n hx hb dL_law_994 rfl (lv_at hl 0 rfl) ?_
  refine lv_iload_n hx hb dL_law_995 rfl (lv_at hl 3 rfl) ?_
  refine lv_iconst (v := 1) hx hb dL_law_996 (by decide) ?_
  refine lv_iadd hx hb dL_law_997 ?_
  refine tpI (v := 1) (by decide) ?_
  refine va_sld hx hb hX0 hbl hbA hS (vp_in_nI (n := 1) (N := 6) (by decide) (by decide)) dL_law_998 ?_
  refine tpI (v := xs 1) rfl ?_
  refine lv_aload_n hx hb dL_law_999 rfl (lv_at hl 0 rfl) ?_
  refine lv_iload_n hx hb dL_law_1000 rfl (lv_at hl 3 rfl) ?_
  refine lv_iconst (v := 2) hx hb dL_law_1001 (by decide) ?_
  refine lv_iadd hx hb dL_law_1002 ?_
  refine tpI (v := 2) (by decide) ?_
  refine va_sld hx hb hX0 hbl hbA hS (vp_in_nI (n := 2) (N := 6) (by decide) (by decide)) dL_law_1003 ?_
  refine tpI (v := xs 2) rfl ?_
  refine lv_aload_n hx hb dL_law_1004 rfl (lv_at hl 0 rfl) ?_
  refine lv_iload_n hx hb dL_law_1005 rfl (lv_at hl 3 rfl) ?_
  refine lv_iconst (v := 3) hx hb dL_law_1006 (by decide) ?_
  refine lv_iadd hx hb dL_law_1007 ?_
  refine tpI (v := 3) (by decide) ?_
  refine va_sld hx hb hX0 hbl hbA hS (vp_in_nI (n := 3) (N := 6) (by decide) (by decide)) dL_law_1008 ?_
  refine tpI (v := xs 3) rfl ?_
  refine cVi (As := [.int (xs 1), .int (xs 2), .int (xs 3)]) (rest := []) (wr := [(m0, .inr (12, fm)), (aso, .inl (cy 0, 2, .inl gso))]) ⟨hx, hb, hml, hown, hts⟩ (c_X11_helps l D cy h0 fs t0 ft (xs 1) (xs 2) (xs 3) e2 e_isSort) (cwV 3 hts gL_law_X11_helps rfl rfl rfl (by decide +kernel) ⟨Nat.le_of_ble_eq_true rfl, Nat.le_of_ble_eq_true rfl⟩) hK hP hD hS hA [0, 1] [2, 3] ⟨rfl, rfl, by decide +kernel, by decide +kernel, by decide +kernel⟩ 0 11 rfl rfl myX_T rfl hl.1 rfl (Nat.le_of_ble_eq_true rfl) dL_law_1009 ⟨Nat.le_of_ble_eq_true rfl, Nat.le_of_ble_eq_true rfl⟩ (fun r_1 w_2 H locs hw hP hD hS => ?_)
  obtain ⟨rfl, rfl⟩ := hw
  have hP : va_P D vwCl [(m0, .inr (12, fm)), (aso, .inl (cy 0, 2, .inl gso))] H := hP
  have hD : va_D A [(m0, .inr (12, fm)), (aso, .inl (cy 0, 2, .inl gso))] := hD
  refine lv_aload_n hx hb dL_law_1012 rfl (lv_at hl 2 rfl) ?_
  refine lv_aload_n hx hb dL_law_1013 rfl (lv_at hl 0 rfl) ?_
  refine lv_iload_n hx hb dL_law_1014 rfl (lv_at hl 3 rfl) ?_
  refine lv_iconst (v := 1) hx hb dL_law_1015 (by decide) ?_
  refine lv_iadd hx hb dL_law_1016 ?_
  refine tpI (v := 1) (by decide) ?_
  refine va_sld hx hb hX0 hbl hbA hS (vp_in_nI (n := 1) (N := 6) (by decide) (by decide)) dL_law_1017 ?_
  refine tpI (v := xs 1) rfl ?_
  refine lv_aload_n hx hb dL_law_1018 rfl (lv_at hl 0 rfl) ?_
  refine lv_iload_n hx hb dL_law_1019 rfl (lv_at hl 3 rfl) ?_
  refine lv_iconst (v := 2) hx hb dL_law_1020 (by decide) ?_
  refine lv_iadd hx hb dL_law_1021 ?_
  refine tpI (v := 2) (by decide) ?_
  refine va_sld hx hb hX0 hbl hbA hS (vp_in_nI (n := 2) (N := 6) (by decide) (by decide)) dL_law_1022 ?_
  refine tpI (v := xs 2) rfl ?_
  refine lv_aload_n hx hb dL_law_1023 rfl (lv_at hl 0 rfl) ?_
  refine lv_iload_n hx hb dL_law_1024 rfl (lv_at hl 3 rfl) ?_
  refine lv_iconst (v := 3) hx hb dL_law_1025 (by decide) ?_
  refine lv_iadd hx hb dL_law_1026 ?_
  refine tpI (v := 3) (by decide) ?_
  refine va_sld hx hb hX0 hbl hbA hS (vp_in_nI (n := 3) (N := 6) (by decide) (by decide)) dL_law_1027 ?_
  refine tpI (v := xs 3) rfl ?_
  refine cVi (As := [.int (xs 1), .int (xs 2), .int (xs 3)]) (rest := [.int (-1)]) (wr := []) ⟨hx, hb, hml, hown, hts⟩ (c_X12_helps l D cy m0 fm aso gso (xs 1) (xs 2) (xs 3) e_live e_aso z_aso) (cwV 3 hts gL_law_X12_helps rfl rfl rfl (by decide +kernel) ⟨Nat.le_of_ble_eq_true rfl, Nat.le_of_ble_eq_true rfl⟩) hK hP hD hS hA [0, 1] [] ⟨rfl, rfl, by decide +kernel, by decide +kernel, by decide +kernel⟩ 0 12 rfl rfl myX_T rfl hl.1 rfl (Nat.le_of_ble_eq_true rfl) dL_law_1028 ⟨Nat.le_of_ble_eq_true rfl, Nat.le_of_ble_eq_true rfl⟩ (fun r_3 w_4 H locs hw hP hD hS => ?_)
  obtain ⟨rfl, rfl⟩ := hw
  have hP : va_P D vwCl [] H := hP
  have hD : va_D A [] := hD
  refine lv_icmp_eq (tgt := 1343) hx hb dL_law_1031 (by decide) (fun _ => ?_) (fun c9 => absurd rfl c9)
  refine lv_iinc (v := 6) (lv' := [(3, .int 6), (0, .ref b), (1, .ref h0), (2, .ref m0)]) hx hb dL_law_1343 hl (k := 3) rfl (by decide) (by decide) rfl (fun ls hl => ?_)
  refine lv_goto (tgt := 18) hx hb dL_law_1346 (by decide) ?_
  refine lv_iload_n hx hb dL_law_18 rfl (lv_at hl 0 rfl) ?_
  refine lv_aload_n hx hb dL_law_19 rfl (lv_at hl 1 rfl) ?_
  refine va_slen hx hb hX0 hbl hbA hS dL_law_20 ?_
  refine tpI (v := 6) rfl ?_
  refine lv_bipush (v := 6) hx hb dL_law_21 (by decide) ?_
  refine lv_isub hx hb dL_law_23 ?_
  refine tpI (v := 0) (by decide) ?_
  refine lv_icmp_gt (tgt := 1349) hx hb dL_law_24 (by decide) (fun _ => ?_) (fun c9 => absurd (by decide) c9)
  refine lv_iconst (v := 1) hx hb dL_law_1349 (by decide) ?_
  refine va_forget (fun q hq => hA2 _ (hS.2.2 q hq)) ?_
  refine W.widen (k := 600000) (n := 7302250) (Nat.le_of_ble_eq_true rfl) (Nat.le_of_ble_eq_true rfl) ?_
  exact lw_ret hx hb hr hlocks dL_law_1350

set_option maxRecDepth 100000 in
set_option maxHeartbeats 4000000 in
/-- the law's case 24: X11_turned -/
theorem law_case_24 {p : Program} {l : Launch} {e : Env} {s : State} {m : MethodId} {below : List Frame} {meth : Method} {c : Code} {D : va_G} {cy : Nat → ClassId} {A : Nat → Prop} {b : Nat} {xs : Nat → Int32} (C0 : lw_At p s m meth c b 6 xs) (hA : ∀ q, s.heap.size ≤ q → A q) (hA2 : ∀ q, A q → s.heap.size ≤ q) (hK : myK D cy s) (h0 : Nat) (fs : List Value) (t0 : Nat) (ft : List Value) (m0 : Nat) (fm : List Value) (aso : Nat) (gso : Nat → Int32) (e2 : fs[10]? = some (.ref t0)) (e_isSort : ft[0]? = some (.int 0)) (e_live : fm[18]? = some (.int 0)) (e_aso : fm[24]? = some (.ref aso)) (z_aso : ∀ j : Nat, j < 2 → gso j = 0) {H : Heap} {locs : List Loc} {ls : Array Slot} (hP : va_P D vwCl [(h0, .inr (11, fs)), (t0, .inr (7, ft)), (m0, .inr (12, fm)), (aso, .inl (cy 0, 2, .inl gso))] H) (hD : va_D A [(h0, .inr (11, fs)), (t0, .inr (7, ft)), (m0, .inr (12, fm)), (aso, .inl (cy 0, 2, .inl gso))]) (hS : va_S A s.heap H locs) (hl : lv_has ls 4 [(0, .ref b), (1, .ref h0), (2, .ref m0), (3, .int 0)]) : W p l e room_1 s m #[Value.ref b] below meth c H locs 189 143992 (lw_Z below #[Value.ref b] s) (F0 m 1036 ls []) := by
  obtain ⟨hx, hb, hr, hml, hown, hts0, hX0, hbl, hlocks, hgv⟩ := id C0
  have hts := fun w h => hts0 w (wsL_law_in w h)
  have hown : s.vm.findClass RL = some m.cls := hown
  have hbA : ¬ A b := fun h => absurd hbl (Nat.not_lt.mpr (hA2 b h))
  refine lv_aload_n hx hb dL_law_1036 rfl (lv_at hl 1 rfl) ?_
  refine lv_aload_n hx hb dL_law_1037 rfl (lv_at hl 0 rfl) ?_
  refine lv_iload_n hx hb dL_law_1038 rfl (lv_at hl 3 rfl) ?_
  refine lv_iconst (v := 1) hx hb dL_law_1039 (by decide) ?_
  refine lv_iadd hx hb dL_law_1040 ?_
  refine tpI (v := 1) (by decide) ?_
  refine va_sld hx hb hX0 hbl hbA hS (vp_in_nI (n := 1) (N := 6) (by decide) (by decide)) dL_law_1041 ?_
  refine tpI (v := xs 1) rfl ?_
  refine lv_aload_n hx hb dL_law_1042 rfl (lv_at hl 0 rfl) ?_
  refine lv_iload_n hx hb dL_law_1043 rfl (lv_at hl 3 rfl) ?_
  refine lv_iconst (v := 2) hx hb dL_law_1044 (by decide) ?_
  refine lv_iadd hx hb dL_law_1045 ?_
  refine tpI (v := 2) (by decide) ?_
  refine va_sld hx hb hX0 hbl hbA hS (vp_in_nI (n := 2) (N := 6) (by decide) (by decide)) dL_law_1046 ?_
  refine tpI (v := xs 2) rfl ?_
  refine cVi (As := [.int (xs 1), .int (xs 2)]) (rest := []) (wr := [(m0, .inr (12, fm)), (aso, .inl (cy 0, 2, .inl gso))]) ⟨hx, hb, hml, hown, hts⟩ (c_X11_turned l D cy h0 fs t0 ft (xs 1) (xs 2) e2 e_isSort) (cwV 2 hts gL_law_X11_turned rfl rfl rfl (by decide +kernel) ⟨Nat.le_of_ble_eq_true rfl, Nat.le_of_ble_eq_true rfl⟩) hK hP hD hS hA [0, 1] [2, 3] ⟨rfl, rfl, by decide +kernel, by decide +kernel, by decide +kernel⟩ 0 11 rfl rfl myX_T rfl hl.1 rfl (Nat.le_of_ble_eq_true rfl) dL_law_1047 ⟨Nat.le_of_ble_eq_true rfl, Nat.le_of_ble_eq_true rfl⟩ (fun r_1 w_2 H locs hw hP hD hS => ?_)
  obtain ⟨rfl, rfl⟩ := hw
  have hP : va_P D vwCl [(m0, .inr (12, fm)), (aso, .inl (cy 0, 2, .inl gso))] H := hP
  have hD : va_D A [(m0, .inr (12, fm)), (aso, .inl (cy 0, 2, .inl gso))] := hD
  refine lv_aload_n hx hb dL_law_1050 rfl (lv_at hl 2 rfl) ?_
  refine lv_aload_n hx hb dL_law_1051 rfl (lv_at hl 0 rfl) ?_
  refine lv_iload_n hx hb dL_law_1052 rfl (lv_at hl 3 rfl) ?_
  refine lv_iconst (v := 1) hx hb dL_law_1053 (by decide) ?_
  refine lv_iadd hx hb dL_law_1054 ?_
  refine tpI (v := 1) (by decide) ?_
  refine va_sld hx hb hX0 hbl hbA hS (vp_in_nI (n := 1) (N := 6) (by decide) (by decide)) dL_law_1055 ?_
  refine tpI (v := xs 1) rfl ?_
  refine lv_aload_n hx hb dL_law_1056 rfl (lv_at hl 0 rfl) ?_
  refine lv_iload_n hx hb dL_law_1057 rfl (lv_at hl 3 rfl) ?_
  refine lv_iconst (v := 2) hx hb dL_law_1058 (by decide) ?_
  refine lv_iadd hx hb dL_law_1059 ?_
  refine tpI (v := 2) (by decide) ?_
  refine va_sld hx hb hX0 hbl hbA hS (vp_in_nI (n := 2) (N := 6) (by decide) (by decide)) dL_law_1060 ?_
  refine tpI (v := xs 2) rfl ?_
  refine cVi (As := [.int (xs 1), .int (xs 2)]) (rest := [.int (-1)]) (wr := []) ⟨hx, hb, hml, hown, hts⟩ (c_X12_turned l D cy m0 fm aso gso (xs 1) (xs 2) e_live e_aso z_aso) (cwV 2 hts gL_law_X12_turned rfl rfl rfl (by decide +kernel) ⟨Nat.le_of_ble_eq_true rfl, Nat.le_of_ble_eq_true rfl⟩) hK hP hD hS hA [0, 1] [] ⟨rfl, rfl, by decide +kernel, by decide +kernel, by decide +kernel⟩ 0 12 rfl rfl myX_T rfl hl.1 rfl (Nat.le_of_ble_eq_true rfl) dL_law_1061 ⟨Nat.le_of_ble_eq_true rfl, Nat.le_of_ble_eq_true rfl⟩ (fun r_3 w_4 H locs hw hP hD hS => ?_)
  obtain ⟨rfl, rfl⟩ := hw
  have hP : va_P D vwCl [] H := hP
  have hD : va_D A [] := hD
  refine lv_icmp_eq (tgt := 1343) hx hb dL_law_1064 (by decide) (fun _ => ?_) (fun c9 => absurd rfl c9)
  refine lv_iinc (v := 6) (lv' := [(3, .int 6), (0, .ref b), (1, .ref h0), (2, .ref m0)]) hx hb dL_law_1343 hl (k := 3) rfl (by decide) (by decide) rfl (fun ls hl => ?_)
  refine lv_goto (tgt := 18) hx hb dL_law_1346 (by decide) ?_
  refine lv_iload_n hx hb dL_law_18 rfl (lv_at hl 0 rfl) ?_
  refine lv_aload_n hx hb dL_law_19 rfl (lv_at hl 1 rfl) ?_
  refine va_slen hx hb hX0 hbl hbA hS dL_law_20 ?_
  refine tpI (v := 6) rfl ?_
  refine lv_bipush (v := 6) hx hb dL_law_21 (by decide) ?_
  refine lv_isub hx hb dL_law_23 ?_
  refine tpI (v := 0) (by decide) ?_
  refine lv_icmp_gt (tgt := 1349) hx hb dL_law_24 (by decide) (fun _ => ?_) (fun c9 => absurd (by decide) c9)
  refine lv_iconst (v := 1) hx hb dL_law_1349 (by decide) ?_
  refine va_forget (fun q hq => hA2 _ (hS.2.2 q hq)) ?_
  refine W.widen (k := 600000) (n := 7302250) (Nat.le_of_ble_eq_true rfl) (Nat.le_of_ble_eq_true rfl) ?_
  exact lw_ret hx hb hr hlocks dL_law_1350

set_option maxRecDepth 100000 in
set_option maxHeartbeats 4000000 in
/-- the law's case 25: X11_year -/
theorem law_case_25 {p : Program} {l : Launch} {e : Env} {s : State} {m : MethodId} {below : List Frame} {meth : Method} {c : Code} {D : va_G} {cy : Nat → ClassId} {A : Nat → Prop} {b : Nat} {xs : Nat → Int32} (C0 : lw_At p s m meth c b 6 xs) (hA : ∀ q, s.heap.size ≤ q → A q) (hA2 : ∀ q, A q → s.heap.size ≤ q) (hK : myK D cy s) (h0 : Nat) (fs : List Value) (c0 : Nat) (cm : Nat) (ch : Nat) (cs : Nat) (csa : Nat) (csb : Nat) (csc : Nat) (csd : Nat) (cse : Nat) (n0 : Nat) (n0a : Nat) (n0b : Nat) (n0c : Nat) (n0d : Nat) (n0e : Nat) (t0 : Nat) (ft : List Value) (fc0 : Nat → Int32) (fc1 : Nat → Int32) (fc2 : Nat → Int32) (fc3 : Nat → Int32) (fc4 : Nat → Int32) (fn0 : Nat → Int32) (fn1 : Nat → Int32) (fn2 : Nat → Int32) (fn3 : Nat → Int32) (fn4 : Nat → Int32) (m0 : Nat) (fm : List Value) (ame : Nat) (gme : Nat → Int32) (e_n : fs[2]? = some (.ref n0)) (e_c : fs[8]? = some (.ref c0)) (e_t : fs[10]? = some (.ref t0)) (e_men : ft[3]? = some (.int 0)) (e_m32 : fm[32]? = some (.ref ame)) (e_m18 : fm[18]? = some (.int 0)) (z_me : ∀ j : Nat, j < 2 → gme j = 0) {H : Heap} {locs : List Loc} {ls : Array Slot} (hP : va_P D vwCl [(h0, .inr (11, fs)), (c0, .inr (0, [.ref cs, .int 0, .int 0, .int 0, .int 0, .ref cm, .ref ch])), (cs, .inr (4, [.int 0, .int 0, .ref csa, .ref csb, .ref csc, .ref csd, .ref cse])), (n0, .inr (4, [.int 0, .int 0, .ref n0a, .ref n0b, .ref n0c, .ref n0d, .ref n0e])), (t0, .inr (7, ft)), (csa, .inl (cy 0, 6, .inl fc0)), (csb, .inl (cy 0, 6, .inl fc1)), (csc, .inl (cy 0, 6, .inl fc2)), (csd, .inl (cy 0, 6, .inl fc3)), (cse, .inl (cy 0, 50, .inl fc4)), (n0a, .inl (cy 0, 6, .inl fn0)), (n0b, .inl (cy 0, 6, .inl fn1)), (n0c, .inl (cy 0, 6, .inl fn2)), (n0d, .inl (cy 0, 6, .inl fn3)), (n0e, .inl (cy 0, 50, .inl fn4)), (m0, .inr (12, fm)), (ame, .inl (cy 0, 2, .inl gme))] H) (hD : va_D A [(h0, .inr (11, fs)), (c0, .inr (0, [.ref cs, .int 0, .int 0, .int 0, .int 0, .ref cm, .ref ch])), (cs, .inr (4, [.int 0, .int 0, .ref csa, .ref csb, .ref csc, .ref csd, .ref cse])), (n0, .inr (4, [.int 0, .int 0, .ref n0a, .ref n0b, .ref n0c, .ref n0d, .ref n0e])), (t0, .inr (7, ft)), (csa, .inl (cy 0, 6, .inl fc0)), (csb, .inl (cy 0, 6, .inl fc1)), (csc, .inl (cy 0, 6, .inl fc2)), (csd, .inl (cy 0, 6, .inl fc3)), (cse, .inl (cy 0, 50, .inl fc4)), (n0a, .inl (cy 0, 6, .inl fn0)), (n0b, .inl (cy 0, 6, .inl fn1)), (n0c, .inl (cy 0, 6, .inl fn2)), (n0d, .inl (cy 0, 6, .inl fn3)), (n0e, .inl (cy 0, 50, .inl fn4)), (m0, .inr (12, fm)), (ame, .inl (cy 0, 2, .inl gme))]) (hS : va_S A s.heap H locs) (hl : lv_has ls 4 [(0, .ref b), (1, .ref h0), (2, .ref m0), (3, .int 0)]) : W p l e room_1 s m #[Value.ref b] below meth c H locs 189 143992 (lw_Z below #[Value.ref b] s) (F0 m 1069 ls []) := by
  obtain ⟨hx, hb, hr, hml, hown, hts0, hX0, hbl, hlocks, hgv⟩ := id C0
  have hts := fun w h => hts0 w (wsL_law_in w h)
  have hown : s.vm.findClass RL = some m.cls := hown
  have hbA : ¬ A b := fun h => absurd hbl (Nat.not_lt.mpr (hA2 b h))
  refine lv_aload_n hx hb dL_law_1069 rfl (lv_at hl 1 rfl) ?_
  refine lv_aload_n hx hb dL_law_1070 rfl (lv_at hl 0 rfl) ?_
  refine lv_iload_n hx hb dL_law_1071 rfl (lv_at hl 3 rfl) ?_
  refine lv_iconst (v := 1) hx hb dL_law_1072 (by decide) ?_
  refine lv_iadd hx hb dL_law_1073 ?_
  refine tpI (v := 1) (by decide) ?_
  refine va_sld hx hb hX0 hbl hbA hS (vp_in_nI (n := 1) (N := 6) (by decide) (by decide)) dL_law_1074 ?_
  refine tpI (v := xs 1) rfl ?_
  refine lv_aload_n hx hb dL_law_1075 rfl (lv_at hl 0 rfl) ?_
  refine lv_iload_n hx hb dL_law_1076 rfl (lv_at hl 3 rfl) ?_
  refine lv_iconst (v := 2) hx hb dL_law_1077 (by decide) ?_
  refine lv_iadd hx hb dL_law_1078 ?_
  refine tpI (v := 2) (by decide) ?_
  refine va_sld hx hb hX0 hbl hbA hS (vp_in_nI (n := 2) (N := 6) (by decide) (by decide)) dL_law_1079 ?_
  refine tpI (v := xs 2) rfl ?_
  refine lv_aload_n hx hb dL_law_1080 rfl (lv_at hl 0 rfl) ?_
  refine lv_iload_n hx hb dL_law_1081 rfl (lv_at hl 3 rfl) ?_
  refine lv_iconst (v := 3) hx hb dL_law_1082 (by decide) ?_
  refine lv_iadd hx hb dL_law_1083 ?_
  refine tpI (v := 3) (by decide) ?_
  refine va_sld hx hb hX0 hbl hbA hS (vp_in_nI (n := 3) (N := 6) (by decide) (by decide)) dL_law_1084 ?_
  refine tpI (v := xs 3) rfl ?_
  refine cVi (As := [.int (xs 1), .int (xs 2), .int (xs 3)]) (rest := []) (wr := [(m0, .inr (12, fm)), (ame, .inl (cy 0, 2, .inl gme))]) ⟨hx, hb, hml, hown, hts⟩ (c_X11_year l D cy h0 fs c0 cm ch cs csa csb csc csd cse n0 n0a n0b n0c n0d n0e t0 ft fc0 fc1 fc2 fc3 fc4 fn0 fn1 fn2 fn3 fn4 (xs 1) (xs 2) (xs 3) e_n e_c e_t e_men) (cwV 3 hts gL_law_X11_year rfl rfl rfl (by decide +kernel) ⟨Nat.le_of_ble_eq_true rfl, Nat.le_of_ble_eq_true rfl⟩) hK hP hD hS hA [0, 1, 2, 3, 4, 5, 6, 7, 8, 9, 10, 11, 12, 13, 14] [15, 16] ⟨rfl, rfl, by decide +kernel, by decide +kernel, by decide +kernel⟩ 0 11 rfl rfl myX_T rfl hl.1 rfl (Nat.le_of_ble_eq_true rfl) dL_law_1085 ⟨Nat.le_of_ble_eq_true rfl, Nat.le_of_ble_eq_true rfl⟩ (fun r_1 w_2 H locs hw hP hD hS => ?_)
  obtain ⟨rfl, rfl⟩ := hw
  have hP : va_P D vwCl [(m0, .inr (12, fm)), (ame, .inl (cy 0, 2, .inl gme))] H := hP
  have hD : va_D A [(m0, .inr (12, fm)), (ame, .inl (cy 0, 2, .inl gme))] := hD
  refine lv_aload_n hx hb dL_law_1088 rfl (lv_at hl 2 rfl) ?_
  refine lv_aload_n hx hb dL_law_1089 rfl (lv_at hl 0 rfl) ?_
  refine lv_iload_n hx hb dL_law_1090 rfl (lv_at hl 3 rfl) ?_
  refine lv_iconst (v := 1) hx hb dL_law_1091 (by decide) ?_
  refine lv_iadd hx hb dL_law_1092 ?_
  refine tpI (v := 1) (by decide) ?_
  refine va_sld hx hb hX0 hbl hbA hS (vp_in_nI (n := 1) (N := 6) (by decide) (by decide)) dL_law_1093 ?_
  refine tpI (v := xs 1) rfl ?_
  refine lv_aload_n hx hb dL_law_1094 rfl (lv_at hl 0 rfl) ?_
  refine lv_iload_n hx hb dL_law_1095 rfl (lv_at hl 3 rfl) ?_
  refine lv_iconst (v := 2) hx hb dL_law_1096 (by decide) ?_
  refine lv_iadd hx hb dL_law_1097 ?_
  refine tpI (v := 2) (by decide) ?_
  refine va_sld hx hb hX0 hbl hbA hS (vp_in_nI (n := 2) (N := 6) (by decide) (by decide)) dL_law_1098 ?_
  refine tpI (v := xs 2) rfl ?_
  refine lv_aload_n hx hb dL_law_1099 rfl (lv_at hl 0 rfl) ?_
  refine lv_iload_n hx hb dL_law_1100 rfl (lv_at hl 3 rfl) ?_
  refine lv_iconst (v := 3) hx hb dL_law_1101 (by decide) ?_
  refine lv_iadd hx hb dL_law_1102 ?_
  refine tpI (v := 3) (by decide) ?_
  refine va_sld hx hb hX0 hbl hbA hS (vp_in_nI (n := 3) (N := 6) (by decide) (by decide)) dL_law_1103 ?_
  refine tpI (v := xs 3) rfl ?_
  refine cVi (As := [.int (xs 1), .int (xs 2), .int (xs 3)]) (rest := [.int (yearV (xs 2) (xs 3))]) (wr := []) ⟨hx, hb, hml, hown, hts⟩ (c_X12_year l D cy m0 fm ame gme (xs 1) (xs 2) (xs 3) e_m32 e_m18 z_me) (cwV 3 hts gL_law_X12_year rfl rfl rfl (by decide +kernel) ⟨Nat.le_of_ble_eq_true rfl, Nat.le_of_ble_eq_true rfl⟩) hK hP hD hS hA [0, 1] [] ⟨rfl, rfl, by decide +kernel, by decide +kernel, by decide +kernel⟩ 0 12 rfl rfl myX_T rfl hl.1 rfl (Nat.le_of_ble_eq_true rfl) dL_law_1104 ⟨Nat.le_of_ble_eq_true rfl, Nat.le_of_ble_eq_true rfl⟩ (fun r_3 w_4 H locs hw hP hD hS => ?_)
  obtain ⟨rfl, rfl⟩ := hw
  have hP : va_P D vwCl [] H := hP
  have hD : va_D A [] := hD
  refine lv_icmp_eq (tgt := 1343) hx hb dL_law_1107 (by decide) (fun _ => ?_) (fun c9 => absurd rfl c9)
  refine lv_iinc (v := 6) (lv' := [(3, .int 6), (0, .ref b), (1, .ref h0), (2, .ref m0)]) hx hb dL_law_1343 hl (k := 3) rfl (by decide) (by decide) rfl (fun ls hl => ?_)
  refine lv_goto (tgt := 18) hx hb dL_law_1346 (by decide) ?_
  refine lv_iload_n hx hb dL_law_18 rfl (lv_at hl 0 rfl) ?_
  refine lv_aload_n hx hb dL_law_19 rfl (lv_at hl 1 rfl) ?_
  refine va_slen hx hb hX0 hbl hbA hS dL_law_20 ?_
  refine tpI (v := 6) rfl ?_
  refine lv_bipush (v := 6) hx hb dL_law_21 (by decide) ?_
  refine lv_isub hx hb dL_law_23 ?_
  refine tpI (v := 0) (by decide) ?_
  refine lv_icmp_gt (tgt := 1349) hx hb dL_law_24 (by decide) (fun _ => ?_) (fun c9 => absurd (by decide) c9)
  refine lv_iconst (v := 1) hx hb dL_law_1349 (by decide) ?_
  refine va_forget (fun q hq => hA2 _ (hS.2.2 q hq)) ?_
  refine W.widen (k := 600000) (n := 7302250) (Nat.le_of_ble_eq_true rfl) (Nat.le_of_ble_eq_true rfl) ?_
  exact lw_ret hx hb hr hlocks dL_law_1350

set_option maxRecDepth 100000 in
set_option maxHeartbeats 4000000 in
/-- the law's case 26: X11_rest -/
theorem law_case_26 {p : Program} {l : Launch} {e : Env} {s : State} {m : MethodId} {below : List Frame} {meth : Method} {c : Code} {D : va_G} {cy : Nat → ClassId} {A : Nat → Prop} {b : Nat} {xs : Nat → Int32} (C0 : lw_At p s m meth c b 6 xs) (hA : ∀ q, s.heap.size ≤ q → A q) (hA2 : ∀ q, A q → s.heap.size ≤ q) (hK : myK D cy s) (h0 : Nat) (fs : List Value) (c0 : Nat) (cm : Nat) (ch : Nat) (cs : Nat) (csa : Nat) (csb : Nat) (csc : Nat) (csd : Nat) (cse : Nat) (t0 : Nat) (ft : List Value) (tta : Nat) (tho : Nat) (tha : Nat) (fta : Nat → Int32) (fho : Nat → Int32) (fha : Nat → Int32) (fc0 : Nat → Int32) (fc1 : Nat → Int32) (fc2 : Nat → Int32) (fc3 : Nat → Int32) (fc4 : Nat → Int32) (m0 : Nat) (fm : List Value) (ame : Nat) (aca : Nat) (gme : Nat → Int32) (gca : Nat → Int32) (e_c : fs[8]? = some (.ref c0)) (e_t : fs[10]? = some (.ref t0)) (e_men : ft[3]? = some (.int 0)) (e_calls : ft[4]? = some (.int 0)) (e_ta : ft[13]? = some (.ref tta)) (e_ho : ft[14]? = some (.ref tho)) (e_ha : ft[15]? = some (.ref tha)) (e_m32 : fm[32]? = some (.ref ame)) (e_m18 : fm[18]? = some (.int 0)) (e_m36 : fm[36]? = some (.ref aca)) (z_me : ∀ j : Nat, j < 2 → gme j = 0) (z_ca : ∀ j : Nat, j < 2 → gca j = 0) {H : Heap} {locs : List Loc} {ls : Array Slot} (hP : va_P D vwCl [(h0, .inr (11, fs)), (c0, .inr (0, [.ref cs, .int 0, .int 0, .int 0, .int 0, .ref cm, .ref ch])), (cs, .inr (4, [.int 0, .int 0, .ref csa, .ref csb, .ref csc, .ref csd, .ref cse])), (t0, .inr (7, ft)), (tta, .inl (cy 0, 50, .inl fta)), (tho, .inl (cy 0, 6, .inl fho)), (tha, .inl (cy 0, 6, .inl fha)), (csa, .inl (cy 0, 6, .inl fc0)), (csb, .inl (cy 0, 6, .inl fc1)), (csc, .inl (cy 0, 6, .inl fc2)), (csd, .inl (cy 0, 6, .inl fc3)), (cse, .inl (cy 0, 50, .inl fc4)), (m0, .inr (12, fm)), (ame, .inl (cy 0, 2, .inl gme)), (aca, .inl (cy 0, 2, .inl gca))] H) (hD : va_D A [(h0, .inr (11, fs)), (c0, .inr (0, [.ref cs, .int 0, .int 0, .int 0, .int 0, .ref cm, .ref ch])), (cs, .inr (4, [.int 0, .int 0, .ref csa, .ref csb, .ref csc, .ref csd, .ref cse])), (t0, .inr (7, ft)), (tta, .inl (cy 0, 50, .inl fta)), (tho, .inl (cy 0, 6, .inl fho)), (tha, .inl (cy 0, 6, .inl fha)), (csa, .inl (cy 0, 6, .inl fc0)), (csb, .inl (cy 0, 6, .inl fc1)), (csc, .inl (cy 0, 6, .inl fc2)), (csd, .inl (cy 0, 6, .inl fc3)), (cse, .inl (cy 0, 50, .inl fc4)), (m0, .inr (12, fm)), (ame, .inl (cy 0, 2, .inl gme)), (aca, .inl (cy 0, 2, .inl gca))]) (hS : va_S A s.heap H locs) (hl : lv_has ls 4 [(0, .ref b), (1, .ref h0), (2, .ref m0), (3, .int 0)]) : W p l e room_1 s m #[Value.ref b] below meth c H locs 189 143992 (lw_Z below #[Value.ref b] s) (F0 m 1112 ls []) := by
  obtain ⟨hx, hb, hr, hml, hown, hts0, hX0, hbl, hlocks, hgv⟩ := id C0
  have hts := fun w h => hts0 w (wsL_law_in w h)
  have hown : s.vm.findClass RL = some m.cls := hown
  have hbA : ¬ A b := fun h => absurd hbl (Nat.not_lt.mpr (hA2 b h))
  refine lv_aload_n hx hb dL_law_1112 rfl (lv_at hl 1 rfl) ?_
  refine lv_aload_n hx hb dL_law_1113 rfl (lv_at hl 0 rfl) ?_
  refine lv_iload_n hx hb dL_law_1114 rfl (lv_at hl 3 rfl) ?_
  refine lv_iconst (v := 1) hx hb dL_law_1115 (by decide) ?_
  refine lv_iadd hx hb dL_law_1116 ?_
  refine tpI (v := 1) (by decide) ?_
  refine va_sld hx hb hX0 hbl hbA hS (vp_in_nI (n := 1) (N := 6) (by decide) (by decide)) dL_law_1117 ?_
  refine tpI (v := xs 1) rfl ?_
  refine cVi (As := [.int (xs 1)]) (rest := []) (wr := [(m0, .inr (12, fm)), (ame, .inl (cy 0, 2, .inl gme)), (aca, .inl (cy 0, 2, .inl gca))]) ⟨hx, hb, hml, hown, hts⟩ (c_X11_rest l D cy h0 fs c0 cm ch cs csa csb csc csd cse t0 ft tta tho tha fta fho fha fc0 fc1 fc2 fc3 fc4 (xs 1) e_c e_t e_men e_calls e_ta e_ho e_ha) (cwV 1 hts gL_law_X11_rest rfl rfl rfl (by decide +kernel) ⟨Nat.le_of_ble_eq_true rfl, Nat.le_of_ble_eq_true rfl⟩) hK hP hD hS hA [0, 1, 2, 3, 4, 5, 6, 7, 8, 9, 10, 11] [12, 13, 14] ⟨rfl, rfl, by decide +kernel, by decide +kernel, by decide +kernel⟩ 0 11 rfl rfl myX_T rfl hl.1 rfl (Nat.le_of_ble_eq_true rfl) dL_law_1118 ⟨Nat.le_of_ble_eq_true rfl, Nat.le_of_ble_eq_true rfl⟩ (fun r_1 w_2 H locs hw hP hD hS => ?_)
  obtain ⟨rfl, rfl⟩ := hw
  have hP : va_P D vwCl [(m0, .inr (12, fm)), (ame, .inl (cy 0, 2, .inl gme)), (aca, .inl (cy 0, 2, .inl gca))] H := hP
  have hD : va_D A [(m0, .inr (12, fm)), (ame, .inl (cy 0, 2, .inl gme)), (aca, .inl (cy 0, 2, .inl gca))] := hD
  refine lv_aload_n hx hb dL_law_1121 rfl (lv_at hl 2 rfl) ?_
  refine lv_aload_n hx hb dL_law_1122 rfl (lv_at hl 0 rfl) ?_
  refine lv_iload_n hx hb dL_law_1123 rfl (lv_at hl 3 rfl) ?_
  refine lv_iconst (v := 1) hx hb dL_law_1124 (by decide) ?_
  refine lv_iadd hx hb dL_law_1125 ?_
  refine tpI (v := 1) (by decide) ?_
  refine va_sld hx hb hX0 hbl hbA hS (vp_in_nI (n := 1) (N := 6) (by decide) (by decide)) dL_law_1126 ?_
  refine tpI (v := xs 1) rfl ?_
  refine cVi (As := [.int (xs 1)]) (rest := [.int (restV (xs 1))]) (wr := []) ⟨hx, hb, hml, hown, hts⟩ (c_X12_rest l D cy m0 fm ame aca gme gca (xs 1) e_m32 e_m18 e_m36 z_me z_ca) (cwV 1 hts gL_law_X12_rest rfl rfl rfl (by decide +kernel) ⟨Nat.le_of_ble_eq_true rfl, Nat.le_of_ble_eq_true rfl⟩) hK hP hD hS hA [0, 1, 2] [] ⟨rfl, rfl, by decide +kernel, by decide +kernel, by decide +kernel⟩ 0 12 rfl rfl myX_T rfl hl.1 rfl (Nat.le_of_ble_eq_true rfl) dL_law_1127 ⟨Nat.le_of_ble_eq_true rfl, Nat.le_of_ble_eq_true rfl⟩ (fun r_3 w_4 H locs hw hP hD hS => ?_)
  obtain ⟨rfl, rfl⟩ := hw
  have hP : va_P D vwCl [] H := hP
  have hD : va_D A [] := hD
  refine lv_icmp_eq (tgt := 1343) hx hb dL_law_1130 (by decide) (fun _ => ?_) (fun c9 => absurd rfl c9)
  refine lv_iinc (v := 6) (lv' := [(3, .int 6), (0, .ref b), (1, .ref h0), (2, .ref m0)]) hx hb dL_law_1343 hl (k := 3) rfl (by decide) (by decide) rfl (fun ls hl => ?_)
  refine lv_goto (tgt := 18) hx hb dL_law_1346 (by decide) ?_
  refine lv_iload_n hx hb dL_law_18 rfl (lv_at hl 0 rfl) ?_
  refine lv_aload_n hx hb dL_law_19 rfl (lv_at hl 1 rfl) ?_
  refine va_slen hx hb hX0 hbl hbA hS dL_law_20 ?_
  refine tpI (v := 6) rfl ?_
  refine lv_bipush (v := 6) hx hb dL_law_21 (by decide) ?_
  refine lv_isub hx hb dL_law_23 ?_
  refine tpI (v := 0) (by decide) ?_
  refine lv_icmp_gt (tgt := 1349) hx hb dL_law_24 (by decide) (fun _ => ?_) (fun c9 => absurd (by decide) c9)
  refine lv_iconst (v := 1) hx hb dL_law_1349 (by decide) ?_
  refine va_forget (fun q hq => hA2 _ (hS.2.2 q hq)) ?_
  refine W.widen (k := 600000) (n := 7302250) (Nat.le_of_ble_eq_true rfl) (Nat.le_of_ble_eq_true rfl) ?_
  exact lw_ret hx hb hr hlocks dL_law_1350

set_option maxRecDepth 100000 in
set_option maxHeartbeats 4000000 in
/-- the law's case 27: X11_see -/
theorem law_case_27 {p : Program} {l : Launch} {e : Env} {s : State} {m : MethodId} {below : List Frame} {meth : Method} {c : Code} {D : va_G} {cy : Nat → ClassId} {A : Nat → Prop} {b : Nat} {xs : Nat → Int32} (C0 : lw_At p s m meth c b 6 xs) (hA : ∀ q, s.heap.size ≤ q → A q) (hA2 : ∀ q, A q → s.heap.size ≤ q) (hK : myK D cy s) (h0 : Nat) (fs : List Value) (t0 : Nat) (ft : List Value) (m0 : Nat) (fm : List Value) (aho : Nat) (gho : Nat → Int32) (e2 : fs[10]? = some (.ref t0)) (e_isHouse : ft[1]? = some (.int 0)) (e_live : fm[18]? = some (.int 0)) (e_aho : fm[26]? = some (.ref aho)) (e_m73 : fm[73]? = some (.int 0)) (z_aho : ∀ j : Nat, j < 2 → gho j = 0) {H : Heap} {locs : List Loc} {ls : Array Slot} (hP : va_P D vwCl [(h0, .inr (11, fs)), (t0, .inr (7, ft)), (m0, .inr (12, fm)), (aho, .inl (cy 0, 2, .inl gho))] H) (hD : va_D A [(h0, .inr (11, fs)), (t0, .inr (7, ft)), (m0, .inr (12, fm)), (aho, .inl (cy 0, 2, .inl gho))]) (hS : va_S A s.heap H locs) (hl : lv_has ls 4 [(0, .ref b), (1, .ref h0), (2, .ref m0), (3, .int 0)]) : W p l e room_1 s m #[Value.ref b] below meth c H locs 189 143992 (lw_Z below #[Value.ref b] s) (F0 m 1135 ls []) := by
  obtain ⟨hx, hb, hr, hml, hown, hts0, hX0, hbl, hlocks, hgv⟩ := id C0
  have hts := fun w h => hts0 w (wsL_law_in w h)
  have hown : s.vm.findClass RL = some m.cls := hown
  have hbA : ¬ A b := fun h => absurd hbl (Nat.not_lt.mpr (hA2 b h))
  refine lv_aload_n hx hb dL_law_1135 rfl (lv_at hl 1 rfl) ?_
  refine lv_aload_n hx hb dL_law_1136 rfl (lv_at hl 0 rfl) ?_
  refine lv_iload_n hx hb dL_law_1137 rfl (lv_at hl 3 rfl) ?_
  refine lv_iconst (v := 1) hx hb dL_law_1138 (by decide) ?_
  refine lv_iadd hx hb dL_law_1139 ?_
  refine tpI (v := 1) (by decide) ?_
  refine va_sld hx hb hX0 hbl hbA hS (vp_in_nI (n := 1) (N := 6) (by decide) (by decide)) dL_law_1140 ?_
  refine tpI (v := xs 1) rfl ?_
  refine lv_aload_n hx hb dL_law_1141 rfl (lv_at hl 0 rfl) ?_
  refine lv_iload_n hx hb dL_law_1142 rfl (lv_at hl 3 rfl) ?_
  refine lv_iconst (v := 2) hx hb dL_law_1143 (by decide) ?_
  refine lv_iadd hx hb dL_law_1144 ?_
  refine tpI (v := 2) (by decide) ?_
  refine va_sld hx hb hX0 hbl hbA hS (vp_in_nI (n := 2) (N := 6) (by decide) (by decide)) dL_law_1145 ?_
  refine tpI (v := xs 2) rfl ?_
  refine lv_aload_n hx hb dL_law_1146 rfl (lv_at hl 0 rfl) ?_
  refine lv_iload_n hx hb dL_law_1147 rfl (lv_at hl 3 rfl) ?_
  refine lv_iconst (v := 3) hx hb dL_law_1148 (by decide) ?_
  refine lv_iadd hx hb dL_law_1149 ?_
  refine tpI (v := 3) (by decide) ?_
  refine va_sld hx hb hX0 hbl hbA hS (vp_in_nI (n := 3) (N := 6) (by decide) (by decide)) dL_law_1150 ?_
  refine tpI (v := xs 3) rfl ?_
  refine cVi (As := [.int (xs 1), .int (xs 2), .int (xs 3)]) (rest := []) (wr := [(m0, .inr (12, fm)), (aho, .inl (cy 0, 2, .inl gho))]) ⟨hx, hb, hml, hown, hts⟩ (c_X11_see l D cy h0 fs t0 ft (xs 1) (xs 2) (xs 3) e2 e_isHouse) (cwV 3 hts gL_law_X11_see rfl rfl rfl (by decide +kernel) ⟨Nat.le_of_ble_eq_true rfl, Nat.le_of_ble_eq_true rfl⟩) hK hP hD hS hA [0, 1] [2, 3] ⟨rfl, rfl, by decide +kernel, by decide +kernel, by decide +kernel⟩ 0 11 rfl rfl myX_T rfl hl.1 rfl (Nat.le_of_ble_eq_true rfl) dL_law_1151 ⟨Nat.le_of_ble_eq_true rfl, Nat.le_of_ble_eq_true rfl⟩ (fun r_1 w_2 H locs hw hP hD hS => ?_)
  obtain ⟨rfl, rfl⟩ := hw
  have hP : va_P D vwCl [(m0, .inr (12, fm)), (aho, .inl (cy 0, 2, .inl gho))] H := hP
  have hD : va_D A [(m0, .inr (12, fm)), (aho, .inl (cy 0, 2, .inl gho))] := hD
  refine lv_aload_n hx hb dL_law_1154 rfl (lv_at hl 2 rfl) ?_
  refine lv_aload_n hx hb dL_law_1155 rfl (lv_at hl 0 rfl) ?_
  refine lv_iload_n hx hb dL_law_1156 rfl (lv_at hl 3 rfl) ?_
  refine lv_iconst (v := 1) hx hb dL_law_1157 (by decide) ?_
  refine lv_iadd hx hb dL_law_1158 ?_
  refine tpI (v := 1) (by decide) ?_
  refine va_sld hx hb hX0 hbl hbA hS (vp_in_nI (n := 1) (N := 6) (by decide) (by decide)) dL_law_1159 ?_
  refine tpI (v := xs 1) rfl ?_
  refine lv_aload_n hx hb dL_law_1160 rfl (lv_at hl 0 rfl) ?_
  refine lv_iload_n hx hb dL_law_1161 rfl (lv_at hl 3 rfl) ?_
  refine lv_iconst (v := 2) hx hb dL_law_1162 (by decide) ?_
  refine lv_iadd hx hb dL_law_1163 ?_
  refine tpI (v := 2) (by decide) ?_
  refine va_sld hx hb hX0 hbl hbA hS (vp_in_nI (n := 2) (N := 6) (by decide) (by decide)) dL_law_1164 ?_
  refine tpI (v := xs 2) rfl ?_
  refine lv_aload_n hx hb dL_law_1165 rfl (lv_at hl 0 rfl) ?_
  refine lv_iload_n hx hb dL_law_1166 rfl (lv_at hl 3 rfl) ?_
  refine lv_iconst (v := 3) hx hb dL_law_1167 (by decide) ?_
  refine lv_iadd hx hb dL_law_1168 ?_
  refine tpI (v := 3) (by decide) ?_
  refine va_sld hx hb hX0 hbl hbA hS (vp_in_nI (n := 3) (N := 6) (by decide) (by decide)) dL_law_1169 ?_
  refine tpI (v := xs 3) rfl ?_
  refine cVi (As := [.int (xs 1), .int (xs 2), .int (xs 3)]) (rest := [.int (-1)]) (wr := []) ⟨hx, hb, hml, hown, hts⟩ (c_X12_see l D cy m0 fm aho gho (xs 1) (xs 2) (xs 3) e_live e_aho e_m73 z_aho) (cwV 3 hts gL_law_X12_see rfl rfl rfl (by decide +kernel) ⟨Nat.le_of_ble_eq_true rfl, Nat.le_of_ble_eq_true rfl⟩) hK hP hD hS hA [0, 1] [] ⟨rfl, rfl, by decide +kernel, by decide +kernel, by decide +kernel⟩ 0 12 rfl rfl myX_T rfl hl.1 rfl (Nat.le_of_ble_eq_true rfl) dL_law_1170 ⟨Nat.le_of_ble_eq_true rfl, Nat.le_of_ble_eq_true rfl⟩ (fun r_3 w_4 H locs hw hP hD hS => ?_)
  obtain ⟨rfl, rfl⟩ := hw
  have hP : va_P D vwCl [] H := hP
  have hD : va_D A [] := hD
  refine lv_icmp_eq (tgt := 1343) hx hb dL_law_1173 (by decide) (fun _ => ?_) (fun c9 => absurd rfl c9)
  refine lv_iinc (v := 6) (lv' := [(3, .int 6), (0, .ref b), (1, .ref h0), (2, .ref m0)]) hx hb dL_law_1343 hl (k := 3) rfl (by decide) (by decide) rfl (fun ls hl => ?_)
  refine lv_goto (tgt := 18) hx hb dL_law_1346 (by decide) ?_
  refine lv_iload_n hx hb dL_law_18 rfl (lv_at hl 0 rfl) ?_
  refine lv_aload_n hx hb dL_law_19 rfl (lv_at hl 1 rfl) ?_
  refine va_slen hx hb hX0 hbl hbA hS dL_law_20 ?_
  refine tpI (v := 6) rfl ?_
  refine lv_bipush (v := 6) hx hb dL_law_21 (by decide) ?_
  refine lv_isub hx hb dL_law_23 ?_
  refine tpI (v := 0) (by decide) ?_
  refine lv_icmp_gt (tgt := 1349) hx hb dL_law_24 (by decide) (fun _ => ?_) (fun c9 => absurd (by decide) c9)
  refine lv_iconst (v := 1) hx hb dL_law_1349 (by decide) ?_
  refine va_forget (fun q hq => hA2 _ (hS.2.2 q hq)) ?_
  refine W.widen (k := 600000) (n := 7302250) (Nat.le_of_ble_eq_true rfl) (Nat.le_of_ble_eq_true rfl) ?_
  exact lw_ret hx hb hr hlocks dL_law_1350

set_option maxRecDepth 100000 in
set_option maxHeartbeats 4000000 in
/-- the law's case 28: X11_forget -/
theorem law_case_28 {p : Program} {l : Launch} {e : Env} {s : State} {m : MethodId} {below : List Frame} {meth : Method} {c : Code} {D : va_G} {cy : Nat → ClassId} {A : Nat → Prop} {b : Nat} {xs : Nat → Int32} (C0 : lw_At p s m meth c b 6 xs) (hA : ∀ q, s.heap.size ≤ q → A q) (hA2 : ∀ q, A q → s.heap.size ≤ q) (hK : myK D cy s) (h0 : Nat) (fs : List Value) (v0 : Nat) (fv : List Value) (m0 : Nat) (fm : List Value) (e_v : fs[9]? = some (.ref v0)) (e_v0 : fv[0]? = some (.int 0)) (e_m73 : fm[73]? = some (.int 0)) {H : Heap} {locs : List Loc} {ls : Array Slot} (hP : va_P D vwCl [(h0, .inr (11, fs)), (v0, .inr (9, fv)), (m0, .inr (12, fm))] H) (hD : va_D A [(h0, .inr (11, fs)), (v0, .inr (9, fv)), (m0, .inr (12, fm))]) (hS : va_S A s.heap H locs) (hl : lv_has ls 4 [(0, .ref b), (1, .ref h0), (2, .ref m0), (3, .int 0)]) : W p l e room_1 s m #[Value.ref b] below meth c H locs 189 143992 (lw_Z below #[Value.ref b] s) (F0 m 1178 ls []) := by
  obtain ⟨hx, hb, hr, hml, hown, hts0, hX0, hbl, hlocks, hgv⟩ := id C0
  have hts := fun w h => hts0 w (wsL_law_in w h)
  have hown : s.vm.findClass RL = some m.cls := hown
  have hbA : ¬ A b := fun h => absurd hbl (Nat.not_lt.mpr (hA2 b h))
  refine lv_aload_n hx hb dL_law_1178 rfl (lv_at hl 1 rfl) ?_
  refine cVi (As := []) (rest := []) (wr := [(m0, .inr (12, fm))]) ⟨hx, hb, hml, hown, hts⟩ (c_X11_forget l D cy h0 fs v0 fv e_v e_v0) (cwV 0 hts gL_law_X11_forget rfl rfl rfl (by decide +kernel) ⟨Nat.le_of_ble_eq_true rfl, Nat.le_of_ble_eq_true rfl⟩) hK hP hD hS hA [0, 1] [2] ⟨rfl, rfl, by decide +kernel, by decide +kernel, by decide +kernel⟩ 0 11 rfl rfl myX_T rfl hl.1 rfl (Nat.le_of_ble_eq_true rfl) dL_law_1179 ⟨Nat.le_of_ble_eq_true rfl, Nat.le_of_ble_eq_true rfl⟩ (fun r_1 w_2 H locs hw hP hD hS => ?_)
  obtain ⟨rfl, rfl⟩ := hw
  have hP : va_P D vwCl [(m0, .inr (12, fm))] H := hP
  have hD : va_D A [(m0, .inr (12, fm))] := hD
  refine lv_aload_n hx hb dL_law_1182 rfl (lv_at hl 2 rfl) ?_
  refine cVi (As := []) (rest := [.int 0]) (wr := []) ⟨hx, hb, hml, hown, hts⟩ (c_X12_forget l D cy m0 fm e_m73) (cwV 0 hts gL_law_X12_forget rfl rfl rfl (by decide +kernel) ⟨Nat.le_of_ble_eq_true rfl, Nat.le_of_ble_eq_true rfl⟩) hK hP hD hS hA [0] [] ⟨rfl, rfl, by decide +kernel, by decide +kernel, by decide +kernel⟩ 0 12 rfl rfl myX_T rfl hl.1 rfl (Nat.le_of_ble_eq_true rfl) dL_law_1183 ⟨Nat.le_of_ble_eq_true rfl, Nat.le_of_ble_eq_true rfl⟩ (fun r_3 w_4 H locs hw hP hD hS => ?_)
  obtain ⟨rfl, rfl⟩ := hw
  have hP : va_P D vwCl [] H := hP
  have hD : va_D A [] := hD
  refine lv_icmp_eq (tgt := 1343) hx hb dL_law_1186 (by decide) (fun _ => ?_) (fun c9 => absurd rfl c9)
  refine lv_iinc (v := 6) (lv' := [(3, .int 6), (0, .ref b), (1, .ref h0), (2, .ref m0)]) hx hb dL_law_1343 hl (k := 3) rfl (by decide) (by decide) rfl (fun ls hl => ?_)
  refine lv_goto (tgt := 18) hx hb dL_law_1346 (by decide) ?_
  refine lv_iload_n hx hb dL_law_18 rfl (lv_at hl 0 rfl) ?_
  refine lv_aload_n hx hb dL_law_19 rfl (lv_at hl 1 rfl) ?_
  refine va_slen hx hb hX0 hbl hbA hS dL_law_20 ?_
  refine tpI (v := 6) rfl ?_
  refine lv_bipush (v := 6) hx hb dL_law_21 (by decide) ?_
  refine lv_isub hx hb dL_law_23 ?_
  refine tpI (v := 0) (by decide) ?_
  refine lv_icmp_gt (tgt := 1349) hx hb dL_law_24 (by decide) (fun _ => ?_) (fun c9 => absurd (by decide) c9)
  refine lv_iconst (v := 1) hx hb dL_law_1349 (by decide) ?_
  refine va_forget (fun q hq => hA2 _ (hS.2.2 q hq)) ?_
  refine W.widen (k := 600000) (n := 7302250) (Nat.le_of_ble_eq_true rfl) (Nat.le_of_ble_eq_true rfl) ?_
  exact lw_ret hx hb hr hlocks dL_law_1350

set_option maxRecDepth 100000 in
set_option maxHeartbeats 4000000 in
/-- the law's case 29: X11_fits -/
theorem law_case_29 {p : Program} {l : Launch} {e : Env} {s : State} {m : MethodId} {below : List Frame} {meth : Method} {c : Code} {D : va_G} {cy : Nat → ClassId} {A : Nat → Prop} {b : Nat} {xs : Nat → Int32} (C0 : lw_At p s m meth c b 6 xs) (hA : ∀ q, s.heap.size ≤ q → A q) (hA2 : ∀ q, A q → s.heap.size ≤ q) (hK : myK D cy s) (h0 : Nat) (fs : List Value) (v0 : Nat) (v1 : Nat) (v2 : Nat) (v3 : Nat) (v4 : Nat) (v6 : Nat) (v7 : Nat) (t0 : Nat) (ft : List Value) (fkn : Nat → Int32) (fwe : Nat → Int32) (fhe : Nat → Int64) (m0 : Nat) (fm : List Value) (ane : Nat) (ame : Nat) (amt : Nat) (afi : Nat) (acs : Nat) (gne : Nat → Int32) (gme : Nat → Int32) (gmt : Nat → Int32) (gcs : Nat → Int32) (gfi : Nat → Int64) (e_v : fs[9]? = some (.ref v0)) (e_t : fs[10]? = some (.ref t0)) (e_isMan : ft[3]? = some (.int 0)) (e_m77 : fm[77]? = some (.ref ane)) (e_m32 : fm[32]? = some (.ref ame)) (e_m18 : fm[18]? = some (.int 0)) (e_m79 : fm[79]? = some (.int 0)) (e_m80 : fm[80]? = some (.int 0)) (e_m87 : fm[87]? = some (.ref amt)) (e_m85 : fm[85]? = some (.long 0)) (e_m86 : fm[86]? = some (.ref afi)) (e_m84 : fm[84]? = some (.ref acs)) (e_m73 : fm[73]? = some (.int 0)) (z_me : ∀ j : Nat, j < 2 → gme j = 0) {H : Heap} {locs : List Loc} {ls : Array Slot} (hP : va_P D vwCl [(h0, .inr (11, fs)), (v0, .inr (9, [.int 0, .ref v1, .ref v2, .ref v3, .ref v4, .int 0, .ref v6, .ref v7])), (t0, .inr (7, ft)), (v3, .inl (cy 0, 50, .inl fkn)), (v4, .inl (cy 0, 50, .inl fwe)), (v6, .inl (cy 1, 64, .inr (.inl fhe))), (m0, .inr (12, fm)), (ane, .inl (cy 0, 50, .inl gne)), (ame, .inl (cy 0, 2, .inl gme)), (amt, .inl (cy 0, 8, .inl gmt)), (afi, .inl (cy 1, 6, .inr (.inl gfi))), (acs, .inl (cy 0, 6, .inl gcs))] H) (hD : va_D A [(h0, .inr (11, fs)), (v0, .inr (9, [.int 0, .ref v1, .ref v2, .ref v3, .ref v4, .int 0, .ref v6, .ref v7])), (t0, .inr (7, ft)), (v3, .inl (cy 0, 50, .inl fkn)), (v4, .inl (cy 0, 50, .inl fwe)), (v6, .inl (cy 1, 64, .inr (.inl fhe))), (m0, .inr (12, fm)), (ane, .inl (cy 0, 50, .inl gne)), (ame, .inl (cy 0, 2, .inl gme)), (amt, .inl (cy 0, 8, .inl gmt)), (afi, .inl (cy 1, 6, .inr (.inl gfi))), (acs, .inl (cy 0, 6, .inl gcs))]) (hS : va_S A s.heap H locs) (hl : lv_has ls 4 [(0, .ref b), (1, .ref h0), (2, .ref m0), (3, .int 0)]) : W p l e room_1 s m #[Value.ref b] below meth c H locs 189 143992 (lw_Z below #[Value.ref b] s) (F0 m 1191 ls []) := by
  obtain ⟨hx, hb, hr, hml, hown, hts0, hX0, hbl, hlocks, hgv⟩ := id C0
  have hts := fun w h => hts0 w (wsL_law_in w h)
  have hown : s.vm.findClass RL = some m.cls := hown
  have hbA : ¬ A b := fun h => absurd hbl (Nat.not_lt.mpr (hA2 b h))
  refine lv_aload_n hx hb dL_law_1191 rfl (lv_at hl 1 rfl) ?_
  refine lv_aload_n hx hb dL_law_1192 rfl (lv_at hl 0 rfl) ?_
  refine lv_iload_n hx hb dL_law_1193 rfl (lv_at hl 3 rfl) ?_
  refine lv_iconst (v := 1) hx hb dL_law_1194 (by decide) ?_
  refine lv_iadd hx hb dL_law_1195 ?_
  refine tpI (v := 1) (by decide) ?_
  refine va_sld hx hb hX0 hbl hbA hS (vp_in_nI (n := 1) (N := 6) (by decide) (by decide)) dL_law_1196 ?_
  refine tpI (v := xs 1) rfl ?_
  refine cVl (As := [.int (xs 1)]) (rest := []) (wr := [(m0, .inr (12, fm)), (ane, .inl (cy 0, 50, .inl gne)), (ame, .inl (cy 0, 2, .inl gme)), (amt, .inl (cy 0, 8, .inl gmt)), (afi, .inl (cy 1, 6, .inr (.inl gfi))), (acs, .inl (cy 0, 6, .inl gcs))]) ⟨hx, hb, hml, hown, hts⟩ (c_X11_fits l D cy h0 fs v0 v1 v2 v3 v4 v6 v7 t0 ft fkn fwe fhe (xs 1) e_v e_t e_isMan) (cwV 1 hts gL_law_X11_fits rfl rfl rfl (by decide +kernel) ⟨Nat.le_of_ble_eq_true rfl, Nat.le_of_ble_eq_true rfl⟩) hK hP hD hS hA [0, 1, 2, 3, 4, 5] [6, 7, 8, 9, 10, 11] ⟨rfl, rfl, by decide +kernel, by decide +kernel, by decide +kernel⟩ 0 11 rfl rfl myX_T rfl hl.1 rfl (Nat.le_of_ble_eq_true rfl) dL_law_1197 ⟨Nat.le_of_ble_eq_true rfl, Nat.le_of_ble_eq_true rfl⟩ (fun r_1 w_2 H locs hw hP hD hS => ?_)
  obtain ⟨rfl, rfl⟩ := hw
  have hP : va_P D vwCl [(m0, .inr (12, fm)), (ane, .inl (cy 0, 50, .inl gne)), (ame, .inl (cy 0, 2, .inl gme)), (amt, .inl (cy 0, 8, .inl gmt)), (afi, .inl (cy 1, 6, .inr (.inl gfi))), (acs, .inl (cy 0, 6, .inl gcs))] H := hP
  have hD : va_D A [(m0, .inr (12, fm)), (ane, .inl (cy 0, 50, .inl gne)), (ame, .inl (cy 0, 2, .inl gme)), (amt, .inl (cy 0, 8, .inl gmt)), (afi, .inl (cy 1, 6, .inr (.inl gfi))), (acs, .inl (cy 0, 6, .inl gcs))] := hD
  refine lv_aload_n hx hb dL_law_1200 rfl (lv_at hl 2 rfl) ?_
  refine lv_aload_n hx hb dL_law_1201 rfl (lv_at hl 0 rfl) ?_
  refine lv_iload_n hx hb dL_law_1202 rfl (lv_at hl 3 rfl) ?_
  refine lv_iconst (v := 1) hx hb dL_law_1203 (by decide) ?_
  refine lv_iadd hx hb dL_law_1204 ?_
  refine tpI (v := 1) (by decide) ?_
  refine va_sld hx hb hX0 hbl hbA hS (vp_in_nI (n := 1) (N := 6) (by decide) (by decide)) dL_law_1205 ?_
  refine tpI (v := xs 1) rfl ?_
  refine cVl (As := [.int (xs 1)]) (rest := [.long (fitsV (xs 1))]) (wr := []) ⟨hx, hb, hml, hown, hts⟩ (c_X12_fits l D cy m0 fm ane ame amt afi acs gne gme gmt gcs gfi (xs 1) e_m77 e_m32 e_m18 e_m79 e_m80 e_m87 e_m85 e_m86 e_m84 e_m73 z_me) (cwV 1 hts gL_law_X12_fits rfl rfl rfl (by decide +kernel) ⟨Nat.le_of_ble_eq_true rfl, Nat.le_of_ble_eq_true rfl⟩) hK hP hD hS hA [0, 1, 2, 3, 4, 5] [] ⟨rfl, rfl, by decide +kernel, by decide +kernel, by decide +kernel⟩ 0 12 rfl rfl myX_T rfl hl.1 rfl (Nat.le_of_ble_eq_true rfl) dL_law_1206 ⟨Nat.le_of_ble_eq_true rfl, Nat.le_of_ble_eq_true rfl⟩ (fun r_3 w_4 H locs hw hP hD hS => ?_)
  obtain ⟨rfl, rfl⟩ := hw
  have hP : va_P D vwCl [] H := hP
  have hD : va_D A [] := hD
  refine W.lcmp hx hb dL_law_1209 ?_
  refine tpI (v := 0) (by simp [lg_cmp]) ?_
  refine lv_if_eq (tgt := 1343) hx hb dL_law_1210 (by decide) (fun _ => ?_) (fun c9 => absurd (by decide) c9)
  refine lv_iinc (v := 6) (lv' := [(3, .int 6), (0, .ref b), (1, .ref h0), (2, .ref m0)]) hx hb dL_law_1343 hl (k := 3) rfl (by decide) (by decide) rfl (fun ls hl => ?_)
  refine lv_goto (tgt := 18) hx hb dL_law_1346 (by decide) ?_
  refine lv_iload_n hx hb dL_law_18 rfl (lv_at hl 0 rfl) ?_
  refine lv_aload_n hx hb dL_law_19 rfl (lv_at hl 1 rfl) ?_
  refine va_slen hx hb hX0 hbl hbA hS dL_law_20 ?_
  refine tpI (v := 6) rfl ?_
  refine lv_bipush (v := 6) hx hb dL_law_21 (by decide) ?_
  refine lv_isub hx hb dL_law_23 ?_
  refine tpI (v := 0) (by decide) ?_
  refine lv_icmp_gt (tgt := 1349) hx hb dL_law_24 (by decide) (fun _ => ?_) (fun c9 => absurd (by decide) c9)
  refine lv_iconst (v := 1) hx hb dL_law_1349 (by decide) ?_
  refine va_forget (fun q hq => hA2 _ (hS.2.2 q hq)) ?_
  refine W.widen (k := 600000) (n := 7302250) (Nat.le_of_ble_eq_true rfl) (Nat.le_of_ble_eq_true rfl) ?_
  exact lw_ret hx hb hr hlocks dL_law_1350

set_option maxRecDepth 100000 in
set_option maxHeartbeats 4000000 in
/-- the law's case 30: X11_visitors -/
theorem law_case_30 {p : Program} {l : Launch} {e : Env} {s : State} {m : MethodId} {below : List Frame} {meth : Method} {c : Code} {D : va_G} {cy : Nat → ClassId} {A : Nat → Prop} {b : Nat} {xs : Nat → Int32} (C0 : lw_At p s m meth c b 6 xs) (hA : ∀ q, s.heap.size ≤ q → A q) (hA2 : ∀ q, A q → s.heap.size ≤ q) (hK : myK D cy s) (h0 : Nat) (fs : List Value) (t0 : Nat) (ft : List Value) (m0 : Nat) (fm : List Value) (aho : Nat) (gho : Nat → Int32) (e2 : fs[10]? = some (.ref t0)) (e_isHouse : ft[1]? = some (.int 0)) (e_live : fm[18]? = some (.int 0)) (e_aho : fm[26]? = some (.ref aho)) (z_aho : ∀ j : Nat, j < 2 → gho j = 0) {H : Heap} {locs : List Loc} {ls : Array Slot} (hP : va_P D vwCl [(h0, .inr (11, fs)), (t0, .inr (7, ft)), (m0, .inr (12, fm)), (aho, .inl (cy 0, 2, .inl gho))] H) (hD : va_D A [(h0, .inr (11, fs)), (t0, .inr (7, ft)), (m0, .inr (12, fm)), (aho, .inl (cy 0, 2, .inl gho))]) (hS : va_S A s.heap H locs) (hl : lv_has ls 4 [(0, .ref b), (1, .ref h0), (2, .ref m0), (3, .int 0)]) : W p l e room_1 s m #[Value.ref b] below meth c H locs 189 143992 (lw_Z below #[Value.ref b] s) (F0 m 1215 ls []) := by
  obtain ⟨hx, hb, hr, hml, hown, hts0, hX0, hbl, hlocks, hgv⟩ := id C0
  have hts := fun w h => hts0 w (wsL_law_in w h)
  have hown : s.vm.findClass RL = some m.cls := hown
  have hbA : ¬ A b := fun h => absurd hbl (Nat.not_lt.mpr (hA2 b h))
  refine lv_aload_n hx hb dL_law_1215 rfl (lv_at hl 1 rfl) ?_
  refine lv_aload_n hx hb dL_law_1216 rfl (lv_at hl 0 rfl) ?_
  refine lv_iload_n hx hb dL_law_1217 rfl (lv_at hl 3 rfl) ?_
  refine lv_iconst (v := 1) hx hb dL_law_1218 (by decide) ?_
  refine lv_iadd hx hb dL_law_1219 ?_
  refine tpI (v := 1) (by decide) ?_
  refine va_sld hx hb hX0 hbl hbA hS (vp_in_nI (n := 1) (N := 6) (by decide) (by decide)) dL_law_1220 ?_
  refine tpI (v := xs 1) rfl ?_
  refine lv_aload_n hx hb dL_law_1221 rfl (lv_at hl 0 rfl) ?_
  refine lv_iload_n hx hb dL_law_1222 rfl (lv_at hl 3 rfl) ?_
  refine lv_iconst (v := 2) hx hb dL_law_1223 (by decide) ?_
  refine lv_iadd hx hb dL_law_1224 ?_
  refine tpI (v := 2) (by decide) ?_
  refine va_sld hx hb hX0 hbl hbA hS (vp_in_nI (n := 2) (N := 6) (by decide) (by decide)) dL_law_1225 ?_
  refine tpI (v := xs 2) rfl ?_
  refine lv_aload_n hx hb dL_law_1226 rfl (lv_at hl 0 rfl) ?_
  refine lv_iload_n hx hb dL_law_1227 rfl (lv_at hl 3 rfl) ?_
  refine lv_iconst (v := 3) hx hb dL_law_1228 (by decide) ?_
  refine lv_iadd hx hb dL_law_1229 ?_
  refine tpI (v := 3) (by decide) ?_
  refine va_sld hx hb hX0 hbl hbA hS (vp_in_nI (n := 3) (N := 6) (by decide) (by decide)) dL_law_1230 ?_
  refine tpI (v := xs 3) rfl ?_
  refine lv_if_eq (tgt := 1238) hx hb dL_law_1231 (by decide) (fun c_1 => ?_) (fun c_1 => ?_)
  · refine lv_iconst (v := 0) hx hb dL_law_1238 (by decide) ?_
    refine cVi (As := [.int (xs 1), .int (xs 2), .int 0]) (rest := []) (wr := [(m0, .inr (12, fm)), (aho, .inl (cy 0, 2, .inl gho))]) ⟨hx, hb, hml, hown, hts⟩ (c_X11_visitors l D cy h0 fs t0 ft (xs 1) (xs 2) 0 e2 e_isHouse) (cwV 3 hts gL_law_X11_visitors rfl rfl rfl (by decide +kernel) ⟨Nat.le_of_ble_eq_true rfl, Nat.le_of_ble_eq_true rfl⟩) hK hP hD hS hA [0, 1] [2, 3] ⟨rfl, rfl, by decide +kernel, by decide +kernel, by decide +kernel⟩ 0 11 rfl rfl myX_T rfl hl.1 rfl (Nat.le_of_ble_eq_true rfl) dL_law_1239 ⟨Nat.le_of_ble_eq_true rfl, Nat.le_of_ble_eq_true rfl⟩ (fun r_2 w_3 H locs hw hP hD hS => ?_)
    obtain ⟨rfl, rfl⟩ := hw
    have hP : va_P D vwCl [(m0, .inr (12, fm)), (aho, .inl (cy 0, 2, .inl gho))] H := hP
    have hD : va_D A [(m0, .inr (12, fm)), (aho, .inl (cy 0, 2, .inl gho))] := hD
    refine lv_aload_n hx hb dL_law_1242 rfl (lv_at hl 2 rfl) ?_
    refine lv_aload_n hx hb dL_law_1243 rfl (lv_at hl 0 rfl) ?_
    refine lv_iload_n hx hb dL_law_1244 rfl (lv_at hl 3 rfl) ?_
    refine lv_iconst (v := 1) hx hb dL_law_1245 (by decide) ?_
    refine lv_iadd hx hb dL_law_1246 ?_
    refine tpI (v := 1) (by decide) ?_
    refine va_sld hx hb hX0 hbl hbA hS (vp_in_nI (n := 1) (N := 6) (by decide) (by decide)) dL_law_1247 ?_
    refine tpI (v := xs 1) rfl ?_
    refine lv_aload_n hx hb dL_law_1248 rfl (lv_at hl 0 rfl) ?_
    refine lv_iload_n hx hb dL_law_1249 rfl (lv_at hl 3 rfl) ?_
    refine lv_iconst (v := 2) hx hb dL_law_1250 (by decide) ?_
    refine lv_iadd hx hb dL_law_1251 ?_
    refine tpI (v := 2) (by decide) ?_
    refine va_sld hx hb hX0 hbl hbA hS (vp_in_nI (n := 2) (N := 6) (by decide) (by decide)) dL_law_1252 ?_
    refine tpI (v := xs 2) rfl ?_
    refine lv_aload_n hx hb dL_law_1253 rfl (lv_at hl 0 rfl) ?_
    refine lv_iload_n hx hb dL_law_1254 rfl (lv_at hl 3 rfl) ?_
    refine lv_iconst (v := 3) hx hb dL_law_1255 (by decide) ?_
    refine lv_iadd hx hb dL_law_1256 ?_
    refine tpI (v := 3) (by decide) ?_
    refine va_sld hx hb hX0 hbl hbA hS (vp_in_nI (n := 3) (N := 6) (by decide) (by decide)) dL_law_1257 ?_
    refine tpI (v := xs 3) rfl ?_
    refine lv_if_eq (tgt := 1265) hx hb dL_law_1258 (by decide) (fun _ => ?_) (fun c9 => absurd c_1 c9)
    refine lv_iconst (v := 0) hx hb dL_law_1265 (by decide) ?_
    refine cVi (As := [.int (xs 1), .int (xs 2), .int 0]) (rest := [.int (-1)]) (wr := []) ⟨hx, hb, hml, hown, hts⟩ (c_X12_visitors l D cy m0 fm aho gho (xs 1) (xs 2) 0 e_live e_aho z_aho) (cwV 3 hts gL_law_X12_visitors rfl rfl rfl (by decide +kernel) ⟨Nat.le_of_ble_eq_true rfl, Nat.le_of_ble_eq_true rfl⟩) hK hP hD hS hA [0, 1] [] ⟨rfl, rfl, by decide +kernel, by decide +kernel, by decide +kernel⟩ 0 12 rfl rfl myX_T rfl hl.1 rfl (Nat.le_of_ble_eq_true rfl) dL_law_1266 ⟨Nat.le_of_ble_eq_true rfl, Nat.le_of_ble_eq_true rfl⟩ (fun r_4 w_5 H locs hw hP hD hS => ?_)
    obtain ⟨rfl, rfl⟩ := hw
    have hP : va_P D vwCl [] H := hP
    have hD : va_D A [] := hD
    refine lv_icmp_eq (tgt := 1343) hx hb dL_law_1269 (by decide) (fun _ => ?_) (fun c9 => absurd rfl c9)
    refine lv_iinc (v := 6) (lv' := [(3, .int 6), (0, .ref b), (1, .ref h0), (2, .ref m0)]) hx hb dL_law_1343 hl (k := 3) rfl (by decide) (by decide) rfl (fun ls hl => ?_)
    refine lv_goto (tgt := 18) hx hb dL_law_1346 (by decide) ?_
    refine lv_iload_n hx hb dL_law_18 rfl (lv_at hl 0 rfl) ?_
    refine lv_aload_n hx hb dL_law_19 rfl (lv_at hl 1 rfl) ?_
    refine va_slen hx hb hX0 hbl hbA hS dL_law_20 ?_
    refine tpI (v := 6) rfl ?_
    refine lv_bipush (v := 6) hx hb dL_law_21 (by decide) ?_
    refine lv_isub hx hb dL_law_23 ?_
    refine tpI (v := 0) (by decide) ?_
    refine lv_icmp_gt (tgt := 1349) hx hb dL_law_24 (by decide) (fun _ => ?_) (fun c9 => absurd (by decide) c9)
    refine lv_iconst (v := 1) hx hb dL_law_1349 (by decide) ?_
    refine va_forget (fun q hq => hA2 _ (hS.2.2 q hq)) ?_
    refine W.widen (k := 600000) (n := 7302250) (Nat.le_of_ble_eq_true rfl) (Nat.le_of_ble_eq_true rfl) ?_
    exact lw_ret hx hb hr hlocks dL_law_1350
  · refine lv_iconst (v := 1) hx hb dL_law_1234 (by decide) ?_
    refine lv_goto (tgt := 1239) hx hb dL_law_1235 (by decide) ?_
    refine cVi (As := [.int (xs 1), .int (xs 2), .int 1]) (rest := []) (wr := [(m0, .inr (12, fm)), (aho, .inl (cy 0, 2, .inl gho))]) ⟨hx, hb, hml, hown, hts⟩ (c_X11_visitors l D cy h0 fs t0 ft (xs 1) (xs 2) 1 e2 e_isHouse) (cwV 3 hts gL_law_X11_visitors rfl rfl rfl (by decide +kernel) ⟨Nat.le_of_ble_eq_true rfl, Nat.le_of_ble_eq_true rfl⟩) hK hP hD hS hA [0, 1] [2, 3] ⟨rfl, rfl, by decide +kernel, by decide +kernel, by decide +kernel⟩ 0 11 rfl rfl myX_T rfl hl.1 rfl (Nat.le_of_ble_eq_true rfl) dL_law_1239 ⟨Nat.le_of_ble_eq_true rfl, Nat.le_of_ble_eq_true rfl⟩ (fun r_6 w_7 H locs hw hP hD hS => ?_)
    obtain ⟨rfl, rfl⟩ := hw
    have hP : va_P D vwCl [(m0, .inr (12, fm)), (aho, .inl (cy 0, 2, .inl gho))] H := hP
    have hD : va_D A [(m0, .inr (12, fm)), (aho, .inl (cy 0, 2, .inl gho))] := hD
    refine lv_aload_n hx hb dL_law_1242 rfl (lv_at hl 2 rfl) ?_
    refine lv_aload_n hx hb dL_law_1243 rfl (lv_at hl 0 rfl) ?_
    refine lv_iload_n hx hb dL_law_1244 rfl (lv_at hl 3 rfl) ?_
    refine lv_iconst (v := 1) hx hb dL_law_1245 (by decide) ?_
    refine lv_iadd hx hb dL_law_1246 ?_
    refine tpI (v := 1) (by decide) ?_
    refine va_sld hx hb hX0 hbl hbA hS (vp_in_nI (n := 1) (N := 6) (by decide) (by decide)) dL_law_1247 ?_
    refine tpI (v := xs 1) rfl ?_
    refine lv_aload_n hx hb dL_law_1248 rfl (lv_at hl 0 rfl) ?_
    refine lv_iload_n hx hb dL_law_1249 rfl (lv_at hl 3 rfl) ?_
    refine lv_iconst (v := 2) hx hb dL_law_1250 (by decide) ?_
    refine lv_iadd hx hb dL_law_1251 ?_
    refine tpI (v := 2) (by decide) ?_
    refine va_sld hx hb hX0 hbl hbA hS (vp_in_nI (n := 2) (N := 6) (by decide) (by decide)) dL_law_1252 ?_
    refine tpI (v := xs 2) rfl ?_
    refine lv_aload_n hx hb dL_law_1253 rfl (lv_at hl 0 rfl) ?_
    refine lv_iload_n hx hb dL_law_1254 rfl (lv_at hl 3 rfl) ?_
    refine lv_iconst (v := 3) hx hb dL_law_1255 (by decide) ?_
    refine lv_iadd hx hb dL_law_1256 ?_
    refine tpI (v := 3) (by decide) ?_
    refine va_sld hx hb hX0 hbl hbA hS (vp_in_nI (n := 3) (N := 6) (by decide) (by decide)) dL_law_1257 ?_
    refine tpI (v := xs 3) rfl ?_
    refine lv_if_eq (tgt := 1265) hx hb dL_law_1258 (by decide) (fun c9 => absurd c9 c_1) (fun _ => ?_)
    refine lv_iconst (v := 1) hx hb dL_law_1261 (by decide) ?_
    refine lv_goto (tgt := 1266) hx hb dL_law_1262 (by decide) ?_
    refine cVi (As := [.int (xs 1), .int (xs 2), .int 1]) (rest := [.int (-1)]) (wr := []) ⟨hx, hb, hml, hown, hts⟩ (c_X12_visitors l D cy m0 fm aho gho (xs 1) (xs 2) 1 e_live e_aho z_aho) (cwV 3 hts gL_law_X12_visitors rfl rfl rfl (by decide +kernel) ⟨Nat.le_of_ble_eq_true rfl, Nat.le_of_ble_eq_true rfl⟩) hK hP hD hS hA [0, 1] [] ⟨rfl, rfl, by decide +kernel, by decide +kernel, by decide +kernel⟩ 0 12 rfl rfl myX_T rfl hl.1 rfl (Nat.le_of_ble_eq_true rfl) dL_law_1266 ⟨Nat.le_of_ble_eq_true rfl, Nat.le_of_ble_eq_true rfl⟩ (fun r_8 w_9 H locs hw hP hD hS => ?_)
    obtain ⟨rfl, rfl⟩ := hw
    have hP : va_P D vwCl [] H := hP
    have hD : va_D A [] := hD
    refine lv_icmp_eq (tgt := 1343) hx hb dL_law_1269 (by decide) (fun _ => ?_) (fun c9 => absurd rfl c9)
    refine lv_iinc (v := 6) (lv' := [(3, .int 6), (0, .ref b), (1, .ref h0), (2, .ref m0)]) hx hb dL_law_1343 hl (k := 3) rfl (by decide) (by decide) rfl (fun ls hl => ?_)
    refine lv_goto (tgt := 18) hx hb dL_law_1346 (by decide) ?_
    refine lv_iload_n hx hb dL_law_18 rfl (lv_at hl 0 rfl) ?_
    refine lv_aload_n hx hb dL_law_19 rfl (lv_at hl 1 rfl) ?_
    refine va_slen hx hb hX0 hbl hbA hS dL_law_20 ?_
    refine tpI (v := 6) rfl ?_
    refine lv_bipush (v := 6) hx hb dL_law_21 (by decide) ?_
    refine lv_isub hx hb dL_law_23 ?_
    refine tpI (v := 0) (by decide) ?_
    refine lv_icmp_gt (tgt := 1349) hx hb dL_law_24 (by decide) (fun _ => ?_) (fun c9 => absurd (by decide) c9)
    refine lv_iconst (v := 1) hx hb dL_law_1349 (by decide) ?_
    refine va_forget (fun q hq => hA2 _ (hS.2.2 q hq)) ?_
    refine W.widen (k := 600000) (n := 7302250) (Nat.le_of_ble_eq_true rfl) (Nat.le_of_ble_eq_true rfl) ?_
    exact lw_ret hx hb hr hlocks dL_law_1350

set_option maxRecDepth 100000 in
set_option maxHeartbeats 4000000 in
/-- the law's case 31: X11_hold -/
theorem law_case_31 {p : Program} {l : Launch} {e : Env} {s : State} {m : MethodId} {below : List Frame} {meth : Method} {c : Code} {D : va_G} {cy : Nat → ClassId} {A : Nat → Prop} {b : Nat} {xs : Nat → Int32} (C0 : lw_At p s m meth c b 6 xs) (hA : ∀ q, s.heap.size ≤ q → A q) (hA2 : ∀ q, A q → s.heap.size ≤ q) (hK : myK D cy s) (h0 : Nat) (fs : List Value) (z0 : Nat) (fz : Nat → Option Nat) (s0 : Nat) (s0a : Nat) (s0b : Nat) (s0c : Nat) (s0d : Nat) (s0e : Nat) (s1 : Nat) (s1a : Nat) (s1b : Nat) (s1c : Nat) (s1d : Nat) (s1e : Nat) (s2 : Nat) (s2a : Nat) (s2b : Nat) (s2c : Nat) (s2d : Nat) (s2e : Nat) (gs00 : Nat → Int32) (gs01 : Nat → Int32) (gs02 : Nat → Int32) (gs03 : Nat → Int32) (gs04 : Nat → Int32) (gs10 : Nat → Int32) (gs11 : Nat → Int32) (gs12 : Nat → Int32) (gs13 : Nat → Int32) (gs14 : Nat → Int32) (gs20 : Nat → Int32) (gs21 : Nat → Int32) (gs22 : Nat → Int32) (gs23 : Nat → Int32) (gs24 : Nat → Int32) (n0 : Nat) (n0a : Nat) (n0b : Nat) (n0c : Nat) (n0d : Nat) (n0e : Nat) (fn0 : Nat → Int32) (fn1 : Nat → Int32) (fn2 : Nat → Int32) (fn3 : Nat → Int32) (fn4 : Nat → Int32) (m0 : Nat) (fm : List Value) (ano : Nat) (ahe : Nat) (ahd : Nat) (gno : Nat → Int32) (ghe : Nat → Int32) (ghd : Nat → Int32) (e_n : fs[2]? = some (.ref n0)) (e_z : fs[3]? = some (.ref z0)) (hz0 : fz 0 = some s0) (hz1 : fz 1 = some s1) (hz2 : fz 2 = some s2) (e_m39 : fm[39]? = some (.ref ano)) (e_m88 : fm[88]? = some (.ref ahe)) (e_m89 : fm[89]? = some (.ref ahd)) {H : Heap} {locs : List Loc} {ls : Array Slot} (hP : va_P D vwCl [(h0, .inr (11, fs)), (z0, .inl (cy 4, 3, .inr (.inr (.inr (.inr fz))))), (s0, .inr (4, [.int 0, .int 0, .ref s0a, .ref s0b, .ref s0c, .ref s0d, .ref s0e])), (s1, .inr (4, [.int 0, .int 0, .ref s1a, .ref s1b, .ref s1c, .ref s1d, .ref s1e])), (s2, .inr (4, [.int 0, .int 0, .ref s2a, .ref s2b, .ref s2c, .ref s2d, .ref s2e])), (s0a, .inl (cy 0, 6, .inl gs00)), (s0b, .inl (cy 0, 6, .inl gs01)), (s0c, .inl (cy 0, 6, .inl gs02)), (s0d, .inl (cy 0, 6, .inl gs03)), (s0e, .inl (cy 0, 50, .inl gs04)), (s1a, .inl (cy 0, 6, .inl gs10)), (s1b, .inl (cy 0, 6, .inl gs11)), (s1c, .inl (cy 0, 6, .inl gs12)), (s1d, .inl (cy 0, 6, .inl gs13)), (s1e, .inl (cy 0, 50, .inl gs14)), (s2a, .inl (cy 0, 6, .inl gs20)), (s2b, .inl (cy 0, 6, .inl gs21)), (s2c, .inl (cy 0, 6, .inl gs22)), (s2d, .inl (cy 0, 6, .inl gs23)), (s2e, .inl (cy 0, 50, .inl gs24)), (n0, .inr (4, [.int 0, .int 0, .ref n0a, .ref n0b, .ref n0c, .ref n0d, .ref n0e])), (n0a, .inl (cy 0, 6, .inl fn0)), (n0b, .inl (cy 0, 6, .inl fn1)), (n0c, .inl (cy 0, 6, .inl fn2)), (n0d, .inl (cy 0, 6, .inl fn3)), (n0e, .inl (cy 0, 50, .inl fn4)), (m0, .inr (12, fm)), (ano, .inl (cy 0, 80, .inl gno)), (ahe, .inl (cy 3, 3, .inl ghe)), (ahd, .inl (cy 0, 240, .inl ghd))] H) (hD : va_D A [(h0, .inr (11, fs)), (z0, .inl (cy 4, 3, .inr (.inr (.inr (.inr fz))))), (s0, .inr (4, [.int 0, .int 0, .ref s0a, .ref s0b, .ref s0c, .ref s0d, .ref s0e])), (s1, .inr (4, [.int 0, .int 0, .ref s1a, .ref s1b, .ref s1c, .ref s1d, .ref s1e])), (s2, .inr (4, [.int 0, .int 0, .ref s2a, .ref s2b, .ref s2c, .ref s2d, .ref s2e])), (s0a, .inl (cy 0, 6, .inl gs00)), (s0b, .inl (cy 0, 6, .inl gs01)), (s0c, .inl (cy 0, 6, .inl gs02)), (s0d, .inl (cy 0, 6, .inl gs03)), (s0e, .inl (cy 0, 50, .inl gs04)), (s1a, .inl (cy 0, 6, .inl gs10)), (s1b, .inl (cy 0, 6, .inl gs11)), (s1c, .inl (cy 0, 6, .inl gs12)), (s1d, .inl (cy 0, 6, .inl gs13)), (s1e, .inl (cy 0, 50, .inl gs14)), (s2a, .inl (cy 0, 6, .inl gs20)), (s2b, .inl (cy 0, 6, .inl gs21)), (s2c, .inl (cy 0, 6, .inl gs22)), (s2d, .inl (cy 0, 6, .inl gs23)), (s2e, .inl (cy 0, 50, .inl gs24)), (n0, .inr (4, [.int 0, .int 0, .ref n0a, .ref n0b, .ref n0c, .ref n0d, .ref n0e])), (n0a, .inl (cy 0, 6, .inl fn0)), (n0b, .inl (cy 0, 6, .inl fn1)), (n0c, .inl (cy 0, 6, .inl fn2)), (n0d, .inl (cy 0, 6, .inl fn3)), (n0e, .inl (cy 0, 50, .inl fn4)), (m0, .inr (12, fm)), (ano, .inl (cy 0, 80, .inl gno)), (ahe, .inl (cy 3, 3, .inl ghe)), (ahd, .inl (cy 0, 240, .inl ghd))]) (hS : va_S A s.heap H locs) (hl : lv_has ls 4 [(0, .ref b), (1, .ref h0), (2, .ref m0), (3, .int 0)]) : W p l e room_1 s m #[Value.ref b] below meth c H locs 189 143992 (lw_Z below #[Value.ref b] s) (F0 m 1274 ls []) := by
  obtain ⟨hx, hb, hr, hml, hown, hts0, hX0, hbl, hlocks, hgv⟩ := id C0
  have hts := fun w h => hts0 w (wsL_law_in w h)
  have hown : s.vm.findClass RL = some m.cls := hown
  have hbA : ¬ A b := fun h => absurd hbl (Nat.not_lt.mpr (hA2 b h))
  refine lv_aload_n hx hb dL_law_1274 rfl (lv_at hl 1 rfl) ?_
  refine lv_aload_n hx hb dL_law_1275 rfl (lv_at hl 0 rfl) ?_
  refine lv_iload_n hx hb dL_law_1276 rfl (lv_at hl 3 rfl) ?_
  refine lv_iconst (v := 1) hx hb dL_law_1277 (by decide) ?_
  refine lv_iadd hx hb dL_law_1278 ?_
  refine tpI (v := 1) (by decide) ?_
  refine va_sld hx hb hX0 hbl hbA hS (vp_in_nI (n := 1) (N := 6) (by decide) (by decide)) dL_law_1279 ?_
  refine tpI (v := xs 1) rfl ?_
  refine cVi (As := [.int (xs 1)]) (rest := []) (wr := [(m0, .inr (12, fm)), (ano, .inl (cy 0, 80, .inl gno)), (ahe, .inl (cy 3, 3, .inl ghe)), (ahd, .inl (cy 0, 240, .inl ghd))]) ⟨hx, hb, hml, hown, hts⟩ (c_X11_hold l D cy h0 fs z0 fz s0 s0a s0b s0c s0d s0e s1 s1a s1b s1c s1d s1e s2 s2a s2b s2c s2d s2e gs00 gs01 gs02 gs03 gs04 gs10 gs11 gs12 gs13 gs14 gs20 gs21 gs22 gs23 gs24 n0 n0a n0b n0c n0d n0e fn0 fn1 fn2 fn3 fn4 (xs 1) e_n e_z hz0 hz1 hz2) (cwV 1 hts gL_law_X11_hold rfl rfl rfl (by decide +kernel) ⟨Nat.le_of_ble_eq_true rfl, Nat.le_of_ble_eq_true rfl⟩) hK hP hD hS hA [0, 1, 2, 3, 4, 5, 6, 7, 8, 9, 10, 11, 12, 13, 14, 15, 16, 17, 18, 19, 20, 21, 22, 23, 24, 25] [26, 27, 28, 29] ⟨rfl, rfl, by decide +kernel, by decide +kernel, by decide +kernel⟩ 0 11 rfl rfl myX_T rfl hl.1 rfl (Nat.le_of_ble_eq_true rfl) dL_law_1280 ⟨Nat.le_of_ble_eq_true rfl, Nat.le_of_ble_eq_true rfl⟩ (fun r_1 w_2 H locs hw hP hD hS => ?_)
  obtain ⟨rfl, rfl⟩ := hw
  have hP : va_P D vwCl [(m0, .inr (12, fm)), (ano, .inl (cy 0, 80, .inl gno)), (ahe, .inl (cy 3, 3, .inl ghe)), (ahd, .inl (cy 0, 240, .inl ghd))] H := hP
  have hD : va_D A [(m0, .inr (12, fm)), (ano, .inl (cy 0, 80, .inl gno)), (ahe, .inl (cy 3, 3, .inl ghe)), (ahd, .inl (cy 0, 240, .inl ghd))] := hD
  refine lv_aload_n hx hb dL_law_1283 rfl (lv_at hl 2 rfl) ?_
  refine lv_aload_n hx hb dL_law_1284 rfl (lv_at hl 0 rfl) ?_
  refine lv_iload_n hx hb dL_law_1285 rfl (lv_at hl 3 rfl) ?_
  refine lv_iconst (v := 1) hx hb dL_law_1286 (by decide) ?_
  refine lv_iadd hx hb dL_law_1287 ?_
  refine tpI (v := 1) (by decide) ?_
  refine va_sld hx hb hX0 hbl hbA hS (vp_in_nI (n := 1) (N := 6) (by decide) (by decide)) dL_law_1288 ?_
  refine tpI (v := xs 1) rfl ?_
  refine cVi (As := [.int (xs 1)]) (rest := [.int (inV (xs 1) 0 2)]) (wr := []) ⟨hx, hb, hml, hown, hts⟩ (c_X12_hold l D cy m0 fm ano ahe ahd gno ghe ghd (xs 1) e_m39 e_m88 e_m89) (cwV 1 hts gL_law_X12_hold rfl rfl rfl (by decide +kernel) ⟨Nat.le_of_ble_eq_true rfl, Nat.le_of_ble_eq_true rfl⟩) hK hP hD hS hA [0, 1, 2, 3] [] ⟨rfl, rfl, by decide +kernel, by decide +kernel, by decide +kernel⟩ 0 12 rfl rfl myX_T rfl hl.1 rfl (Nat.le_of_ble_eq_true rfl) dL_law_1289 ⟨Nat.le_of_ble_eq_true rfl, Nat.le_of_ble_eq_true rfl⟩ (fun r_3 w_4 H locs hw hP hD hS => ?_)
  obtain ⟨rfl, rfl⟩ := hw
  have hP : va_P D vwCl [] H := hP
  have hD : va_D A [] := hD
  refine lv_icmp_eq (tgt := 1343) hx hb dL_law_1292 (by decide) (fun _ => ?_) (fun c9 => absurd rfl c9)
  refine lv_iinc (v := 6) (lv' := [(3, .int 6), (0, .ref b), (1, .ref h0), (2, .ref m0)]) hx hb dL_law_1343 hl (k := 3) rfl (by decide) (by decide) rfl (fun ls hl => ?_)
  refine lv_goto (tgt := 18) hx hb dL_law_1346 (by decide) ?_
  refine lv_iload_n hx hb dL_law_18 rfl (lv_at hl 0 rfl) ?_
  refine lv_aload_n hx hb dL_law_19 rfl (lv_at hl 1 rfl) ?_
  refine va_slen hx hb hX0 hbl hbA hS dL_law_20 ?_
  refine tpI (v := 6) rfl ?_
  refine lv_bipush (v := 6) hx hb dL_law_21 (by decide) ?_
  refine lv_isub hx hb dL_law_23 ?_
  refine tpI (v := 0) (by decide) ?_
  refine lv_icmp_gt (tgt := 1349) hx hb dL_law_24 (by decide) (fun _ => ?_) (fun c9 => absurd (by decide) c9)
  refine lv_iconst (v := 1) hx hb dL_law_1349 (by decide) ?_
  refine va_forget (fun q hq => hA2 _ (hS.2.2 q hq)) ?_
  refine W.widen (k := 600000) (n := 7302250) (Nat.le_of_ble_eq_true rfl) (Nat.le_of_ble_eq_true rfl) ?_
  exact lw_ret hx hb hr hlocks dL_law_1350

set_option maxRecDepth 100000 in
set_option maxHeartbeats 4000000 in
/-- the law's case 32: X11_restore -/
theorem law_case_32 {p : Program} {l : Launch} {e : Env} {s : State} {m : MethodId} {below : List Frame} {meth : Method} {c : Code} {D : va_G} {cy : Nat → ClassId} {A : Nat → Prop} {b : Nat} {xs : Nat → Int32} (C0 : lw_At p s m meth c b 6 xs) (hA : ∀ q, s.heap.size ≤ q → A q) (hA2 : ∀ q, A q → s.heap.size ≤ q) (hK : myK D cy s) (h0 : Nat) (fs : List Value) (z0 : Nat) (fz : Nat → Option Nat) (s0 : Nat) (s1 : Nat) (s2 : Nat) (fs0 : List Value) (fs1 : List Value) (fs2 : List Value) (m0 : Nat) (fm : List Value) (ahe : Nat) (ghe : Nat → Int32) (e_z : fs[3]? = some (.ref z0)) (hz0 : fz 0 = some s0) (hz1 : fz 1 = some s1) (hz2 : fz 2 = some s2) (e_s0 : fs0[0]? = some (.int 0)) (e_s1 : fs1[0]? = some (.int 0)) (e_s2 : fs2[0]? = some (.int 0)) (e_m88 : fm[88]? = some (.ref ahe)) (z_he : ∀ j : Nat, j < 3 → ghe j = 0) {H : Heap} {locs : List Loc} {ls : Array Slot} (hP : va_P D vwCl [(h0, .inr (11, fs)), (z0, .inl (cy 4, 3, .inr (.inr (.inr (.inr fz))))), (s0, .inr (4, fs0)), (s1, .inr (4, fs1)), (s2, .inr (4, fs2)), (m0, .inr (12, fm)), (ahe, .inl (cy 3, 3, .inl ghe))] H) (hD : va_D A [(h0, .inr (11, fs)), (z0, .inl (cy 4, 3, .inr (.inr (.inr (.inr fz))))), (s0, .inr (4, fs0)), (s1, .inr (4, fs1)), (s2, .inr (4, fs2)), (m0, .inr (12, fm)), (ahe, .inl (cy 3, 3, .inl ghe))]) (hS : va_S A s.heap H locs) (hl : lv_has ls 4 [(0, .ref b), (1, .ref h0), (2, .ref m0), (3, .int 0)]) : W p l e room_1 s m #[Value.ref b] below meth c H locs 189 143992 (lw_Z below #[Value.ref b] s) (F0 m 1297 ls []) := by
  obtain ⟨hx, hb, hr, hml, hown, hts0, hX0, hbl, hlocks, hgv⟩ := id C0
  have hts := fun w h => hts0 w (wsL_law_in w h)
  have hown : s.vm.findClass RL = some m.cls := hown
  have hbA : ¬ A b := fun h => absurd hbl (Nat.not_lt.mpr (hA2 b h))
  refine lv_aload_n hx hb dL_law_1297 rfl (lv_at hl 1 rfl) ?_
  refine lv_aload_n hx hb dL_law_1298 rfl (lv_at hl 0 rfl) ?_
  refine lv_iload_n hx hb dL_law_1299 rfl (lv_at hl 3 rfl) ?_
  refine lv_iconst (v := 1) hx hb dL_law_1300 (by decide) ?_
  refine lv_iadd hx hb dL_law_1301 ?_
  refine tpI (v := 1) (by decide) ?_
  refine va_sld hx hb hX0 hbl hbA hS (vp_in_nI (n := 1) (N := 6) (by decide) (by decide)) dL_law_1302 ?_
  refine tpI (v := xs 1) rfl ?_
  refine cVi (As := [.int (xs 1)]) (rest := []) (wr := [(m0, .inr (12, fm)), (ahe, .inl (cy 3, 3, .inl ghe))]) ⟨hx, hb, hml, hown, hts⟩ (c_X11_restore l D cy h0 fs z0 fz s0 s1 s2 fs0 fs1 fs2 (xs 1) e_z hz0 hz1 hz2 e_s0 e_s1 e_s2) (cwV 1 hts gL_law_X11_restore rfl rfl rfl (by decide +kernel) ⟨Nat.le_of_ble_eq_true rfl, Nat.le_of_ble_eq_true rfl⟩) hK hP hD hS hA [0, 1, 2, 3, 4] [5, 6] ⟨rfl, rfl, by decide +kernel, by decide +kernel, by decide +kernel⟩ 0 11 rfl rfl myX_T rfl hl.1 rfl (Nat.le_of_ble_eq_true rfl) dL_law_1303 ⟨Nat.le_of_ble_eq_true rfl, Nat.le_of_ble_eq_true rfl⟩ (fun r_1 w_2 H locs hw hP hD hS => ?_)
  obtain ⟨rfl, rfl⟩ := hw
  have hP : va_P D vwCl [(m0, .inr (12, fm)), (ahe, .inl (cy 3, 3, .inl ghe))] H := hP
  have hD : va_D A [(m0, .inr (12, fm)), (ahe, .inl (cy 3, 3, .inl ghe))] := hD
  refine lv_aload_n hx hb dL_law_1306 rfl (lv_at hl 2 rfl) ?_
  refine lv_aload_n hx hb dL_law_1307 rfl (lv_at hl 0 rfl) ?_
  refine lv_iload_n hx hb dL_law_1308 rfl (lv_at hl 3 rfl) ?_
  refine lv_iconst (v := 1) hx hb dL_law_1309 (by decide) ?_
  refine lv_iadd hx hb dL_law_1310 ?_
  refine tpI (v := 1) (by decide) ?_
  refine va_sld hx hb hX0 hbl hbA hS (vp_in_nI (n := 1) (N := 6) (by decide) (by decide)) dL_law_1311 ?_
  refine tpI (v := xs 1) rfl ?_
  refine cVi (As := [.int (xs 1)]) (rest := [.int 0]) (wr := []) ⟨hx, hb, hml, hown, hts⟩ (c_X12_restore l D cy m0 fm ahe ghe (xs 1) e_m88 z_he) (cwV 1 hts gL_law_X12_restore rfl rfl rfl (by decide +kernel) ⟨Nat.le_of_ble_eq_true rfl, Nat.le_of_ble_eq_true rfl⟩) hK hP hD hS hA [0, 1] [] ⟨rfl, rfl, by decide +kernel, by decide +kernel, by decide +kernel⟩ 0 12 rfl rfl myX_T rfl hl.1 rfl (Nat.le_of_ble_eq_true rfl) dL_law_1312 ⟨Nat.le_of_ble_eq_true rfl, Nat.le_of_ble_eq_true rfl⟩ (fun r_3 w_4 H locs hw hP hD hS => ?_)
  obtain ⟨rfl, rfl⟩ := hw
  have hP : va_P D vwCl [] H := hP
  have hD : va_D A [] := hD
  refine lv_icmp_eq (tgt := 1343) hx hb dL_law_1315 (by decide) (fun _ => ?_) (fun c9 => absurd rfl c9)
  refine lv_iinc (v := 6) (lv' := [(3, .int 6), (0, .ref b), (1, .ref h0), (2, .ref m0)]) hx hb dL_law_1343 hl (k := 3) rfl (by decide) (by decide) rfl (fun ls hl => ?_)
  refine lv_goto (tgt := 18) hx hb dL_law_1346 (by decide) ?_
  refine lv_iload_n hx hb dL_law_18 rfl (lv_at hl 0 rfl) ?_
  refine lv_aload_n hx hb dL_law_19 rfl (lv_at hl 1 rfl) ?_
  refine va_slen hx hb hX0 hbl hbA hS dL_law_20 ?_
  refine tpI (v := 6) rfl ?_
  refine lv_bipush (v := 6) hx hb dL_law_21 (by decide) ?_
  refine lv_isub hx hb dL_law_23 ?_
  refine tpI (v := 0) (by decide) ?_
  refine lv_icmp_gt (tgt := 1349) hx hb dL_law_24 (by decide) (fun _ => ?_) (fun c9 => absurd (by decide) c9)
  refine lv_iconst (v := 1) hx hb dL_law_1349 (by decide) ?_
  refine va_forget (fun q hq => hA2 _ (hS.2.2 q hq)) ?_
  refine W.widen (k := 600000) (n := 7302250) (Nat.le_of_ble_eq_true rfl) (Nat.le_of_ble_eq_true rfl) ?_
  exact lw_ret hx hb hr hlocks dL_law_1350

set_option maxRecDepth 100000 in
set_option maxHeartbeats 4000000 in
/-- the law's case 33: X11_count -/
theorem law_case_33 {p : Program} {l : Launch} {e : Env} {s : State} {m : MethodId} {below : List Frame} {meth : Method} {c : Code} {D : va_G} {cy : Nat → ClassId} {A : Nat → Prop} {b : Nat} {xs : Nat → Int32} (C0 : lw_At p s m meth c b 6 xs) (hA : ∀ q, s.heap.size ≤ q → A q) (hA2 : ∀ q, A q → s.heap.size ≤ q) (hK : myK D cy s) (h0 : Nat) (fs : List Value) (x0 : Nat) (fx : List Value) (n0 : Nat) (fn : List Value) (n0e : Nat) (fn4 : Nat → Int32) (z0 : Nat) (fz : Nat → Option Nat) (s0 : Nat) (s1 : Nat) (s2 : Nat) (fs0 : List Value) (fs1 : List Value) (fs2 : List Value) (k0 : Nat) (fk : List Value) (v0 : Nat) (fv : List Value) (t0 : Nat) (ft : List Value) (m0 : Nat) (fm : List Value) (aso : Nat) (aho : Nat) (ado : Nat) (ame : Nat) (ala : Nat) (aca : Nat) (ano : Nat) (ahe : Nat) (gso : Nat → Int32) (gho : Nat → Int32) (gdo : Nat → Int32) (gme : Nat → Int32) (gla : Nat → Int32) (gca : Nat → Int32) (gno : Nat → Int32) (ghe : Nat → Int32) (e_1 : fs[1]? = some (.ref x0)) (e_2 : fs[2]? = some (.ref n0)) (e_3 : fs[3]? = some (.ref z0)) (e_4 : fs[4]? = some (.ref k0)) (e_9 : fs[9]? = some (.ref v0)) (e_10 : fs[10]? = some (.ref t0)) (e_x0 : fx[0]? = some (.int 0)) (e_men : fn[1]? = some (.int 0)) (e_tab : fn[6]? = some (.ref n0e)) (hta : ∀ j : Nat, j < 50 → fn4 j = 0) (hz0 : fz 0 = some s0) (hz1 : fz 1 = some s1) (hz2 : fz 2 = some s2) (e_s0 : fs0[0]? = some (.int 0)) (e_s1 : fs1[0]? = some (.int 0)) (e_s2 : fs2[0]? = some (.int 0)) (e_k0 : fk[0]? = some (.int 0)) (e_v0 : fv[0]? = some (.int 0)) (e_t0 : ft[0]? = some (.int 0)) (e_t1 : ft[1]? = some (.int 0)) (e_t2 : ft[2]? = some (.int 0)) (e_t3 : ft[3]? = some (.int 0)) (e_t4 : ft[4]? = some (.int 0)) (e_t5 : ft[5]? = some (.int 0)) (e_live : fm[18]? = some (.int 0)) (e_m2 : fm[2]? = some (.int 0)) (e_m40 : fm[40]? = some (.int 0)) (e_m73 : fm[73]? = some (.int 0)) (e_m24 : fm[24]? = some (.ref aso)) (e_m26 : fm[26]? = some (.ref aho)) (e_m30 : fm[30]? = some (.ref ado)) (e_m32 : fm[32]? = some (.ref ame)) (e_m35 : fm[35]? = some (.ref ala)) (e_m36 : fm[36]? = some (.ref aca)) (e_m39 : fm[39]? = some (.ref ano)) (e_m88 : fm[88]? = some (.ref ahe)) (z_aso : ∀ j : Nat, j < 2 → gso j = 0) (z_aho : ∀ j : Nat, j < 2 → gho j = 0) (z_ado : ∀ j : Nat, j < 2 → gdo j = 0) (z_ame : ∀ j : Nat, j < 2 → gme j = 0) (z_ala : ∀ j : Nat, j < 2 → gla j = 0) (z_aca : ∀ j : Nat, j < 2 → gca j = 0) (z_ano : ∀ j : Nat, j < 80 → gno j = 0) (z_ahe : ∀ j : Nat, j < 3 → ghe j = 0) {H : Heap} {locs : List Loc} {ls : Array Slot} (hP : va_P D vwCl [(h0, .inr (11, fs)), (x0, .inr (6, fx)), (n0, .inr (4, fn)), (n0e, .inl (cy 0, 50, .inl fn4)), (z0, .inl (cy 4, 3, .inr (.inr (.inr (.inr fz))))), (s0, .inr (4, fs0)), (s1, .inr (4, fs1)), (s2, .inr (4, fs2)), (k0, .inr (8, fk)), (v0, .inr (9, fv)), (t0, .inr (7, ft)), (m0, .inr (12, fm)), (aso, .inl (cy 0, 2, .inl gso)), (aho, .inl (cy 0, 2, .inl gho)), (ado, .inl (cy 0, 2, .inl gdo)), (ame, .inl (cy 0, 2, .inl gme)), (ala, .inl (cy 0, 2, .inl gla)), (aca, .inl (cy 0, 2, .inl gca)), (ano, .inl (cy 0, 80, .inl gno)), (ahe, .inl (cy 3, 3, .inl ghe))] H) (hD : va_D A [(h0, .inr (11, fs)), (x0, .inr (6, fx)), (n0, .inr (4, fn)), (n0e, .inl (cy 0, 50, .inl fn4)), (z0, .inl (cy 4, 3, .inr (.inr (.inr (.inr fz))))), (s0, .inr (4, fs0)), (s1, .inr (4, fs1)), (s2, .inr (4, fs2)), (k0, .inr (8, fk)), (v0, .inr (9, fv)), (t0, .inr (7, ft)), (m0, .inr (12, fm)), (aso, .inl (cy 0, 2, .inl gso)), (aho, .inl (cy 0, 2, .inl gho)), (ado, .inl (cy 0, 2, .inl gdo)), (ame, .inl (cy 0, 2, .inl gme)), (ala, .inl (cy 0, 2, .inl gla)), (aca, .inl (cy 0, 2, .inl gca)), (ano, .inl (cy 0, 80, .inl gno)), (ahe, .inl (cy 3, 3, .inl ghe))]) (hS : va_S A s.heap H locs) (hl : lv_has ls 4 [(0, .ref b), (1, .ref h0), (2, .ref m0), (3, .int 0)]) : W p l e room_1 s m #[Value.ref b] below meth c H locs 189 143992 (lw_Z below #[Value.ref b] s) (F0 m 1320 ls []) := by
  obtain ⟨hx, hb, hr, hml, hown, hts0, hX0, hbl, hlocks, hgv⟩ := id C0
  have hts := fun w h => hts0 w (wsL_law_in w h)
  have hown : s.vm.findClass RL = some m.cls := hown
  have hbA : ¬ A b := fun h => absurd hbl (Nat.not_lt.mpr (hA2 b h))
  refine lv_aload_n hx hb dL_law_1320 rfl (lv_at hl 1 rfl) ?_
  refine lv_aload_n hx hb dL_law_1321 rfl (lv_at hl 0 rfl) ?_
  refine lv_iload_n hx hb dL_law_1322 rfl (lv_at hl 3 rfl) ?_
  refine lv_iconst (v := 1) hx hb dL_law_1323 (by decide) ?_
  refine lv_iadd hx hb dL_law_1324 ?_
  refine tpI (v := 1) (by decide) ?_
  refine va_sld hx hb hX0 hbl hbA hS (vp_in_nI (n := 1) (N := 6) (by decide) (by decide)) dL_law_1325 ?_
  refine tpI (v := xs 1) rfl ?_
  refine cVi (As := [.int (xs 1)]) (rest := []) (wr := [(m0, .inr (12, fm)), (aso, .inl (cy 0, 2, .inl gso)), (aho, .inl (cy 0, 2, .inl gho)), (ado, .inl (cy 0, 2, .inl gdo)), (ame, .inl (cy 0, 2, .inl gme)), (ala, .inl (cy 0, 2, .inl gla)), (aca, .inl (cy 0, 2, .inl gca)), (ano, .inl (cy 0, 80, .inl gno)), (ahe, .inl (cy 3, 3, .inl ghe))]) ⟨hx, hb, hml, hown, hts⟩ (c_X11_count l D cy h0 fs x0 fx n0 fn n0e fn4 z0 fz s0 s1 s2 fs0 fs1 fs2 k0 fk v0 fv t0 ft (xs 1) e_1 e_2 e_3 e_4 e_9 e_10 e_x0 e_men e_tab hta hz0 hz1 hz2 e_s0 e_s1 e_s2 e_k0 e_v0 e_t0 e_t1 e_t2 e_t3 e_t4 e_t5) (cwV 1 hts gL_law_X11_count rfl rfl rfl (by decide +kernel) ⟨Nat.le_of_ble_eq_true rfl, Nat.le_of_ble_eq_true rfl⟩) hK hP hD hS hA [0, 1, 2, 3, 4, 5, 6, 7, 8, 9, 10] [11, 12, 13, 14, 15, 16, 17, 18, 19] ⟨rfl, rfl, by decide +kernel, by decide +kernel, by decide +kernel⟩ 0 11 rfl rfl myX_T rfl hl.1 rfl (Nat.le_of_ble_eq_true rfl) dL_law_1326 ⟨Nat.le_of_ble_eq_true rfl, Nat.le_of_ble_eq_true rfl⟩ (fun r_1 w_2 H locs hw hP hD hS => ?_)
  obtain ⟨rfl, rfl⟩ := hw
  have hP : va_P D vwCl [(m0, .inr (12, fm)), (aso, .inl (cy 0, 2, .inl gso)), (aho, .inl (cy 0, 2, .inl gho)), (ado, .inl (cy 0, 2, .inl gdo)), (ame, .inl (cy 0, 2, .inl gme)), (ala, .inl (cy 0, 2, .inl gla)), (aca, .inl (cy 0, 2, .inl gca)), (ano, .inl (cy 0, 80, .inl gno)), (ahe, .inl (cy 3, 3, .inl ghe))] H := hP
  have hD : va_D A [(m0, .inr (12, fm)), (aso, .inl (cy 0, 2, .inl gso)), (aho, .inl (cy 0, 2, .inl gho)), (ado, .inl (cy 0, 2, .inl gdo)), (ame, .inl (cy 0, 2, .inl gme)), (ala, .inl (cy 0, 2, .inl gla)), (aca, .inl (cy 0, 2, .inl gca)), (ano, .inl (cy 0, 80, .inl gno)), (ahe, .inl (cy 3, 3, .inl ghe))] := hD
  refine lv_aload_n hx hb dL_law_1329 rfl (lv_at hl 2 rfl) ?_
  refine lv_aload_n hx hb dL_law_1330 rfl (lv_at hl 0 rfl) ?_
  refine lv_iload_n hx hb dL_law_1331 rfl (lv_at hl 3 rfl) ?_
  refine lv_iconst (v := 1) hx hb dL_law_1332 (by decide) ?_
  refine lv_iadd hx hb dL_law_1333 ?_
  refine tpI (v := 1) (by decide) ?_
  refine va_sld hx hb hX0 hbl hbA hS (vp_in_nI (n := 1) (N := 6) (by decide) (by decide)) dL_law_1334 ?_
  refine tpI (v := xs 1) rfl ?_
  refine cVi (As := [.int (xs 1)]) (rest := [.int (countV (xs 1))]) (wr := []) ⟨hx, hb, hml, hown, hts⟩ (c_X12_count l D cy m0 fm aso aho ado ame ala aca ano ahe gso gho gdo gme gla gca gno ghe (xs 1) e_live e_m2 e_m40 e_m73 e_m24 e_m26 e_m30 e_m32 e_m35 e_m36 e_m39 e_m88 z_aso z_aho z_ado z_ame z_ala z_aca z_ano z_ahe) (cwV 1 hts gL_law_X12_count rfl rfl rfl (by decide +kernel) ⟨Nat.le_of_ble_eq_true rfl, Nat.le_of_ble_eq_true rfl⟩) hK hP hD hS hA [0, 1, 2, 3, 4, 5, 6, 7, 8] [] ⟨rfl, rfl, by decide +kernel, by decide +kernel, by decide +kernel⟩ 0 12 rfl rfl myX_T rfl hl.1 rfl (Nat.le_of_ble_eq_true rfl) dL_law_1335 ⟨Nat.le_of_ble_eq_true rfl, Nat.le_of_ble_eq_true rfl⟩ (fun r_3 w_4 H locs hw hP hD hS => ?_)
  obtain ⟨rfl, rfl⟩ := hw
  have hP : va_P D vwCl [] H := hP
  have hD : va_D A [] := hD
  refine lv_icmp_eq (tgt := 1343) hx hb dL_law_1338 (by decide) (fun _ => ?_) (fun c9 => absurd rfl c9)
  refine lv_iinc (v := 6) (lv' := [(3, .int 6), (0, .ref b), (1, .ref h0), (2, .ref m0)]) hx hb dL_law_1343 hl (k := 3) rfl (by decide) (by decide) rfl (fun ls hl => ?_)
  refine lv_goto (tgt := 18) hx hb dL_law_1346 (by decide) ?_
  refine lv_iload_n hx hb dL_law_18 rfl (lv_at hl 0 rfl) ?_
  refine lv_aload_n hx hb dL_law_19 rfl (lv_at hl 1 rfl) ?_
  refine va_slen hx hb hX0 hbl hbA hS dL_law_20 ?_
  refine tpI (v := 6) rfl ?_
  refine lv_bipush (v := 6) hx hb dL_law_21 (by decide) ?_
  refine lv_isub hx hb dL_law_23 ?_
  refine tpI (v := 0) (by decide) ?_
  refine lv_icmp_gt (tgt := 1349) hx hb dL_law_24 (by decide) (fun _ => ?_) (fun c9 => absurd (by decide) c9)
  refine lv_iconst (v := 1) hx hb dL_law_1349 (by decide) ?_
  refine va_forget (fun q hq => hA2 _ (hS.2.2 q hq)) ?_
  refine W.widen (k := 600000) (n := 7302250) (Nat.le_of_ble_eq_true rfl) (Nat.le_of_ble_eq_true rfl) ?_
  exact lw_ret hx hb hr hlocks dL_law_1350
