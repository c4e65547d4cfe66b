/-! the start: the classes, the array classes, the String constants and statics that the constructors need -/
def tmS (i : Nat) : Term := .string RX6 (idxS.getD i 0)
def lw_c : Cond := Jvm.Cond.and given_1 narrow_1
set_option maxRecDepth 100000 in
theorem s_ex : ∀ i, i < 12 → Cond.exactly (tmS i) "java/lang/String" ∈ flatC lw_c := by decide +kernel
set_option maxRecDepth 100000 in
theorem s_co : ∀ i, i < 12 → Cond.eq (.field (tmS i) "java/lang/String" "coder" "B") (.int 0) ∈ flatC lw_c := by decide +kernel
set_option maxRecDepth 100000 in
theorem s_ar : ∀ i, i < 12 → Cond.arrayOf (.field (tmS i) "java/lang/String" "value" "[B") .byte ∈ flatC lw_c := by decide +kernel
set_option maxRecDepth 100000 in
theorem s_le : ∀ i, i < 12 → Cond.eq (.length (.field (tmS i) "java/lang/String" "value" "[B")) (.int (Int32.ofNat (lenS.getD i 0))) ∈ flatC lw_c := by decide +kernel
set_option maxRecDepth 100000 in
theorem s_el : ∀ i, i < 12 → ∀ j, j < lenS.getD i 0 → Cond.eq (.elem (.field (tmS i) "java/lang/String" "value" "[B") (.int (Int32.ofNat j))) (.int ((bytS.getD i []).getD j 0)) ∈ flatC lw_c := by decide +kernel
set_option maxRecDepth 100000 in
theorem s_nl0 : ∀ j, j < 12 → 0 < j → (Cond.not (Cond.eq (tmS 0) (tmS j)) ∈ flatC lw_c ∨ Cond.not (Cond.eq (tmS j) (tmS 0)) ∈ flatC lw_c) := by decide +kernel
set_option maxRecDepth 100000 in
theorem s_nl1 : ∀ j, j < 12 → 1 < j → (Cond.not (Cond.eq (tmS 1) (tmS j)) ∈ flatC lw_c ∨ Cond.not (Cond.eq (tmS j) (tmS 1)) ∈ flatC lw_c) := by decide +kernel
set_option maxRecDepth 100000 in
theorem s_nl2 : ∀ j, j < 12 → 2 < j → (Cond.not (Cond.eq (tmS 2) (tmS j)) ∈ flatC lw_c ∨ Cond.not (Cond.eq (tmS j) (tmS 2)) ∈ flatC lw_c) := by decide +kernel
set_option maxRecDepth 100000 in
theorem s_nl3 : ∀ j, j < 12 → 3 < j → (Cond.not (Cond.eq (tmS 3) (tmS j)) ∈ flatC lw_c ∨ Cond.not (Cond.eq (tmS j) (tmS 3)) ∈ flatC lw_c) := by decide +kernel
set_option maxRecDepth 100000 in
theorem s_nl4 : ∀ j, j < 12 → 4 < j → (Cond.not (Cond.eq (tmS 4) (tmS j)) ∈ flatC lw_c ∨ Cond.not (Cond.eq (tmS j) (tmS 4)) ∈ flatC lw_c) := by decide +kernel
set_option maxRecDepth 100000 in
theorem s_nl5 : ∀ j, j < 12 → 5 < j → (Cond.not (Cond.eq (tmS 5) (tmS j)) ∈ flatC lw_c ∨ Cond.not (Cond.eq (tmS j) (tmS 5)) ∈ flatC lw_c) := by decide +kernel
set_option maxRecDepth 100000 in
theorem s_nl6 : ∀ j, j < 12 → 6 < j → (Cond.not (Cond.eq (tmS 6) (tmS j)) ∈ flatC lw_c ∨ Cond.not (Cond.eq (tmS j) (tmS 6)) ∈ flatC lw_c) := by decide +kernel
set_option maxRecDepth 100000 in
theorem s_nl7 : ∀ j, j < 12 → 7 < j → (Cond.not (Cond.eq (tmS 7) (tmS j)) ∈ flatC lw_c ∨ Cond.not (Cond.eq (tmS j) (tmS 7)) ∈ flatC lw_c) := by decide +kernel
set_option maxRecDepth 100000 in
theorem s_nl8 : ∀ j, j < 12 → 8 < j → (Cond.not (Cond.eq (tmS 8) (tmS j)) ∈ flatC lw_c ∨ Cond.not (Cond.eq (tmS j) (tmS 8)) ∈ flatC lw_c) := by decide +kernel
set_option maxRecDepth 100000 in
theorem s_nl9 : ∀ j, j < 12 → 9 < j → (Cond.not (Cond.eq (tmS 9) (tmS j)) ∈ flatC lw_c ∨ Cond.not (Cond.eq (tmS j) (tmS 9)) ∈ flatC lw_c) := by decide +kernel
set_option maxRecDepth 100000 in
theorem s_nl10 : ∀ j, j < 12 → 10 < j → (Cond.not (Cond.eq (tmS 10) (tmS j)) ∈ flatC lw_c ∨ Cond.not (Cond.eq (tmS j) (tmS 10)) ∈ flatC lw_c) := by decide +kernel
theorem s_nl : ∀ i, i < 12 → ∀ j, j < 12 → i < j → (Cond.not (Cond.eq (tmS i) (tmS j)) ∈ flatC lw_c ∨ Cond.not (Cond.eq (tmS j) (tmS i)) ∈ flatC lw_c) := fun i hi j hj h => match i, hi, h with
  | 0, _, h => s_nl0 j hj h
  | 1, _, h => s_nl1 j hj h
  | 2, _, h => s_nl2 j hj h
  | 3, _, h => s_nl3 j hj h
  | 4, _, h => s_nl4 j hj h
  | 5, _, h => s_nl5 j hj h
  | 6, _, h => s_nl6 j hj h
  | 7, _, h => s_nl7 j hj h
  | 8, _, h => s_nl8 j hj h
  | 9, _, h => s_nl9 j hj h
  | 10, _, h => s_nl10 j hj h
  | k + 11, _, h => absurd h (by omega)
theorem s_ne : ∀ i, i < 12 → ∀ j, j < 12 → i ≠ j → (Cond.not (Cond.eq (tmS i) (tmS j)) ∈ flatC lw_c ∨ Cond.not (Cond.eq (tmS j) (tmS i)) ∈ flatC lw_c) := fun i hi j hj h => (Nat.lt_or_gt_of_ne h).elim (fun q => s_nl i hi j hj q) (fun q => (s_nl j hj i hi q).symm)
set_option maxRecDepth 100000 in
theorem s_rf : ∀ i, i < 12 → Cond.stringRef RX6 (idxS.getD i 0) (txS.getD i "") ∈ tables_1 := by decide +kernel
set_option maxRecDepth 100000 in
theorem s_nest : ∀ w ∈ nests, w ∈ tables_1 := by decide +kernel
set_option maxRecDepth 100000 in
theorem s_cs : Cond.eq (.static "java/lang/String" "COMPACT_STRINGS" "Z") (.int 1) ∈ flatC lw_c := by decide +kernel
set_option maxRecDepth 100000 in
theorem s_fm : Cond.isRef (.static "jdk/internal/util/Preconditions" "SIOOBE_FORMATTER" "Ljava/util/function/BiFunction;") ∈ flatC lw_c := by decide +kernel
theorem tbl_in {w : Cond} (h : w ∈ tables_1) : w ∈ lw_tbl := List.mem_append_right _ h
set_option maxHeartbeats 4000000 in
set_option maxRecDepth 100000 in
theorem entry_SX {s : State} {b : Addr} (hts : ∀ w ∈ lw_tbl, w.before #[Value.ref b] s = true) (hgv : lw_c.before #[Value.ref b] s = true) : ∃ adK adV : Nat → Nat, SX adK adV (fun q : Nat => s.heap.size ≤ q) s := by
  have hs := flat_of_before _ hgv
  have hA : ∀ a : Nat, a < s.heap.size → ¬ (fun q : Nat => s.heap.size ≤ q) a := fun a h => Nat.not_le.mpr h
  obtain ⟨adK, adV, h1, h2⟩ := vk_Sof (N := 12) (tm := tmS) (len := lenS) (byt := bytS) (A := fun q : Nat => s.heap.size ≤ q) (fun i _ => lenS_lt i) (fun i hi => hs _ (s_ex i hi)) (fun i hi => hs _ (s_co i hi)) (fun i hi => hs _ (s_ar i hi)) (fun i hi => hs _ (s_le i hi)) (fun i hi j hj => hs _ (s_el i hi j hj)) (fun i j hi hj h => (s_ne i hi j hj h).imp (fun q => hs _ q) (fun q => hs _ q)) hA
  refine ⟨adK, adV, va_AO.of (A := #[Value.ref b]) (hts _ (tbl_in (by decide +kernel))), fun w hw => va_Nw.of (A := #[Value.ref b]) ?_ (hts w (tbl_in (s_nest w hw))), h1, fun i hi => vk_R.of (A := #[Value.ref b]) (hts _ (tbl_in (s_rf i hi))) (h2 i hi), ?_, ?_⟩
  · simp only [nests, List.mem_cons, List.not_mem_nil, or_false] at hw
    rcases hw with rfl | rfl | rfl | rfl | rfl | rfl | rfl | rfl | rfl | rfl | rfl | rfl | rfl | rfl | rfl <;> rfl
  · exact va_Zof (args := #[Value.ref b]) (hts _ (tbl_in (by decide +kernel))) (hts (.initialized "java/lang/String") (tbl_in (by decide +kernel))) (va_eqi (hs _ s_cs)) hA
  · exact va_Zqof (args := #[Value.ref b]) (hts _ (tbl_in (by decide +kernel))) (hts (.initialized "jdk/internal/util/Preconditions") (tbl_in (by decide +kernel))) (hs _ s_fm) hA
set_option maxHeartbeats 4000000 in
set_option maxRecDepth 100000 in
theorem entry_K {s : State} {b : Addr} (hts0 : ∀ w ∈ lw_tbl, w.before #[Value.ref b] s = true) : ∃ (D : va_G) (cy : Nat → ClassId), myK D cy s := by
  have hts := fun w h => hts0 w (wsL_law_in w h)
  obtain ⟨c0, iS0, hKn0⟩ := u_known (C := RX0) (T := TX0) (N := 7) (n := 7) hts inlX0 (hts (.instantiable RX0 7) (List.mem_of_getElem? (i := 336) rfl))
  obtain ⟨c1, iS1, hKn1⟩ := u_known (C := RX1) (T := TX1) (N := 13) (n := 13) hts inlX1 (hts (.instantiable RX1 13) (List.mem_of_getElem? (i := 323) rfl))
  obtain ⟨c2, iS2, hKn2⟩ := u_known (C := RX2) (T := TX2) (N := 4) (n := 4) hts inlX2 (hts (.instantiable RX2 4) (List.mem_of_getElem? (i := 298) rfl))
  obtain ⟨c3, iS3, hKn3⟩ := u_known (C := RX3) (T := TX3) (N := 5) (n := 5) hts inlX3 (hts (.instantiable RX3 5) (List.mem_of_getElem? (i := 315) rfl))
  obtain ⟨c4, iS4, hKn4⟩ := u_known (C := RX4) (T := TX4) (N := 7) (n := 7) hts inlX4 (hts (.instantiable RX4 7) (List.mem_of_getElem? (i := 272) rfl))
  obtain ⟨c5, iS5, hKn5⟩ := u_known (C := RX5) (T := TX5) (N := 3) (n := 3) hts inlX5 (hts (.instantiable RX5 3) (List.mem_of_getElem? (i := 183) rfl))
  obtain ⟨c6, iS6, hKn6⟩ := u_known (C := RX6) (T := TX6) (N := 12) (n := 12) hts inlX6 (hts (.instantiable RX6 12) (List.mem_of_getElem? (i := 187) rfl))
  obtain ⟨c7, iS7, hKn7⟩ := u_known (C := RX7) (T := TX7) (N := 18) (n := 18) hts inlX7 (hts (.instantiable RX7 18) (List.mem_of_getElem? (i := 233) rfl))
  obtain ⟨c8, iS8, hKn8⟩ := u_known (C := RX8) (T := TX8) (N := 6) (n := 6) hts inlX8 (hts (.instantiable RX8 6) (List.mem_of_getElem? (i := 283) rfl))
  obtain ⟨c9, iS9, hKn9⟩ := u_known (C := RX9) (T := TX9) (N := 8) (n := 8) hts inlX9 (hts (.instantiable RX9 8) (List.mem_of_getElem? (i := 352) rfl))
  obtain ⟨c10, iS10, hKn10⟩ := u_known (C := RX10) (T := TX10) (N := 18) (n := 18) hts inlX10 (hts (.instantiable RX10 18) (List.mem_of_getElem? (i := 293) rfl))
  obtain ⟨c11, iS11, hKn11⟩ := u_known (C := RX11) (T := TX11) (N := 11) (n := 11) hts inlX11 (hts (.instantiable RX11 11) (List.mem_of_getElem? (i := 177) rfl))
  obtain ⟨c12, iS12, hKn12⟩ := u_known (C := RX12) (T := TX12) (N := 90) (n := 90) hts inlX12 (hts (.instantiable RX12 90) (List.mem_of_getElem? (i := 574) rfl))
  obtain ⟨a0, kA0, cm0, f0, g0, h0⟩ := Cond.arrayClass_spec (hts (.arrayClass .int) (List.mem_of_getElem? (i := 230) rfl))
  obtain ⟨a1, kA1, cm1, f1, g1, h1⟩ := Cond.arrayClass_spec (hts (.arrayClass .long) (List.mem_of_getElem? (i := 231) rfl))
  obtain ⟨a2, kA2, cm2, f2, g2, h2⟩ := Cond.arrayClass_spec (hts (.arrayClass .byte) (List.mem_of_getElem? (i := 229) rfl))
  obtain ⟨a3, kA3, cm3, f3, g3, h3⟩ := Cond.arrayClass_spec (hts (.arrayClass .boolean) (List.mem_of_getElem? (i := 657) rfl))
  obtain ⟨cm4, a4, kA4, p4, -, g4, h4, f4⟩ := Cond.arrayOver_spec (hts0 (.arrayOver (.object "HallTables$Stand")) (tbl_in (by decide +kernel)))
  refine ⟨(fun k => [c0, c1, c2, c3, c4, c5, c6, c7, c8, c9, c10, c11, c12].getD k 0, fun k => [iS0, iS1, iS2, iS3, iS4, iS5, iS6, iS7, iS8, iS9, iS10, iS11, iS12].getD k iS0), fun k => [a0, a1, a2, a3, a4].getD k 0, fun k q hq => ?_, fun k q hq => ?_⟩
  · match k, hq with
    | 0, hq => cases hq; exact hKn0
    | 1, hq => cases hq; exact hKn1
    | 2, hq => cases hq; exact hKn2
    | 3, hq => cases hq; exact hKn3
    | 4, hq => cases hq; exact hKn4
    | 5, hq => cases hq; exact hKn5
    | 6, hq => cases hq; exact hKn6
    | 7, hq => cases hq; exact hKn7
    | 8, hq => cases hq; exact hKn8
    | 9, hq => cases hq; exact hKn9
    | 10, hq => cases hq; exact hKn10
    | 11, hq => cases hq; exact hKn11
    | 12, hq => cases hq; exact hKn12
    | k + 13, hq => simp [vwCl] at hq
  · match k, hq with
    | 0, hq => cases hq; exact ⟨fun n z => ⟨(fun k h => by cases h), kA0, g0, cm0, h0⟩, f0⟩
    | 1, hq => cases hq; exact ⟨fun n z => ⟨(fun k h => by cases h), kA1, g1, cm1, h1⟩, f1⟩
    | 2, hq => cases hq; exact ⟨fun n z => ⟨(fun k h => by cases h), kA2, g2, cm2, h2⟩, f2⟩
    | 3, hq => cases hq; exact ⟨fun n z => ⟨(fun k h => by cases h), kA3, g3, cm3, h3⟩, f3⟩
    | 4, hq => cases hq; exact ⟨fun n z => ⟨(fun k h => by cases h), kA4, g4, cm4, h4⟩, kA4, cm4, g4, h4, p4, f4⟩
    | k + 5, hq => simp [myTy] at hq
