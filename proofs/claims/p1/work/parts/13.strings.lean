/-! what the constructors need beside their cells: nest mates, the array class of Stand, the String constants of Text -/
def nests : List Cond := [.methodLinkNest RX11 9 yX5_init "HallTables", .methodLinkNest RX5 11 yX6_init "HallTables", .methodLinkNest RX5 20 yX7_init "HallTables", .methodLinkNest RX11 23 yX4_init "HallTables", .methodLinkNest RX11 34 yX8_init "HallTables", .methodLinkNest RX11 41 yX10_init "HallTables", .methodLinkNest RX10 20 yX7_init "HallTables", .methodLinkNest RX10 30 yX2_init "HallTables", .methodLinkNest RX11 48 yX3_init "HallTables", .methodLinkNest RX3 20 yX7_init "HallTables", .methodLinkNest RX11 55 yX1_init "HallTables", .methodLinkNest RX11 62 yX0_init "HallTables", .methodLinkNest RX0 11 yX4_init "HallTables", .methodLinkNest RX11 69 yX9_init "HallTables", .methodLinkNest RX11 76 yX7_init "HallTables"]
theorem nests_warm {s U : State} (hW : s.WarmedH U.vm) (h : ∀ w ∈ nests, va_Nw w s) : ∀ w ∈ nests, va_Nw w U := by
  intro w hw
  have h1 := h w hw
  simp only [nests, List.mem_cons, List.not_mem_nil, or_false] at hw
  rcases hw with rfl | rfl | rfl | rfl | rfl | rfl | rfl | rfl | rfl | rfl | rfl | rfl | rfl | rfl | rfl <;> exact va_Nw.warmM hW h1
def lenS : List Nat := [4, 5, 4, 5, 4, 4, 3, 3, 4, 3, 7, 8]
def bytS : List (List Int32) := [[115, 111, 114, 116], [104, 111, 117, 115, 101], [100, 111, 111, 114], [119, 111, 114, 116, 104], [115, 104, 111, 112], [104, 97, 108, 108], [109, 97, 110], [108, 97, 119], [99, 97, 108, 108], [97, 110, 121], [100, 101, 97, 114, 101, 115, 116], [99, 104, 101, 97, 112, 101, 115, 116]]
def idxS : List Nat := [33, 39, 41, 43, 45, 47, 49, 51, 53, 55, 57, 59]
def txS : List String := ["sort", "house", "doo\x72", "worth", "shop", "hall", "man", "law", "call", "any", "dearest", "cheapest"]
theorem lenS_lt (i : Nat) : lenS.getD i 0 < 2 ^ 31 := match i with
  | 0 => Nat.le_of_ble_eq_true rfl
  | 1 => Nat.le_of_ble_eq_true rfl
  | 2 => Nat.le_of_ble_eq_true rfl
  | 3 => Nat.le_of_ble_eq_true rfl
  | 4 => Nat.le_of_ble_eq_true rfl
  | 5 => Nat.le_of_ble_eq_true rfl
  | 6 => Nat.le_of_ble_eq_true rfl
  | 7 => Nat.le_of_ble_eq_true rfl
  | 8 => Nat.le_of_ble_eq_true rfl
  | 9 => Nat.le_of_ble_eq_true rfl
  | 10 => Nat.le_of_ble_eq_true rfl
  | 11 => Nat.le_of_ble_eq_true rfl
  | k + 12 => (show (0 : Nat) < 2 ^ 31 from Nat.le_of_ble_eq_true rfl)
def SX (adK adV : Nat → Nat) (A : Nat → Prop) (U : State) : Prop :=
  va_AO "HallTables$Stand" U ∧ (∀ w ∈ nests, va_Nw w U) ∧ vk_S 12 lenS bytS adK adV A U U.heap ∧ (∀ i : Nat, i < 12 → vk_R RX6 (idxS.getD i 0) (txS.getD i "") (adK i) U) ∧ va_Z "java/lang/String" "COMPACT_STRINGS" "Z" (.int 1) A U U.heap ∧ va_Zq "jdk/internal/util/Preconditions" "SIOOBE_FORMATTER" "Ljava/util/function/BiFunction;" A U U.heap
theorem SX.blind {adK adV : Nat → Nat} (B : Nat → Prop) (U : State) (g : JFrame) (mk : MethodId) (a : Array Value) (h : SX adK adV B U) : SX adK adV B (U.calling g mk a) := by
  obtain ⟨h1, h2, h3, h4, h5, h6⟩ := h
  have hv : U.vm.Alike (U.calling g mk a).vm := Vm.Alike.refl U.vm
  refine ⟨va_AO.moved hv h1, fun w hw => ?_, vk_S.moved (u := U) hv h3, fun i hi => vk_R.same (u := U) rfl (h4 i hi), va_Z.moved (u := U) hv h5, va_Zq.moved (u := U) hv h6⟩
  have h9 := h2 w hw
  simp only [nests, List.mem_cons, List.not_mem_nil, or_false] at hw
  rcases hw with rfl | rfl | rfl | rfl | rfl | rfl | rfl | rfl | rfl | rfl | rfl | rfl | rfl | rfl | rfl <;> exact va_Nw.same (u := U) rfl rfl h9
theorem SX.tr {adK adV : Nat → Nat} {A A' : Nat → Prop} {s U : State} (h : SX adK adV A s) (hW : s.WarmedH U.vm) (hA : ∀ q, A' q → A q) (hq : ∀ q : Nat, q < s.heap.size → ¬ A q → U.heap[q]? = s.heap[q]?) : SX adK adV A' U := by
  obtain ⟨h1, h2, h3, h4, h5, h6⟩ := h
  exact ⟨va_AO.moved hW.alike h1, nests_warm hW h2, (vk_S.moved hW.alike (h3.kept hq)).narrow hA, fun i hi => vk_R.warm hW (h4 i hi), (va_Z.moved hW.alike (h5.kept hq)).narrow hA, (va_Zq.moved hW.alike (h6.kept hq)).narrow hA⟩
theorem myX_S {adK adV : Nat → Nat} {A : Nat → Prop} {s : State} {H : Heap} {locs : List Loc} {w0 : va_W} (hX : SX adK adV A s) (hS : va_S A s.heap H locs) (hF : ∀ q, va_A w0 H.size q → A q) : myX (SX adK adV) s H w0 :=
  ⟨fun B U g mk a h => SX.blind B U g mk a h, fun U hU hW => SX.tr hX hW hF (by rw [hU]; exact hS.2.1)⟩
section MYW
variable {p : Program} {l : Launch} {e : Env} {R : Room} {s : State} {m : MethodId} {args : Array Value} {below : List Frame} {meth : Method} {c : Code} {H : Heap} {locs : List Loc} {cells slots : Nat} {Q : State → Prop}
variable {y : MethodName} {bytes cc : ByteArray} {maxL nL n index : Nat} {ret : Option FieldType} {ws : List Cond} {rm : Room} {Ts : List Cond} {own C host : String} {b : Addr} {As rest st0 : List Value} {pc : Nat} {ls : Array Slot} {D : va_G} {cy : Nat → ClassId} {A : Nat → Prop} {wld w0 wr : va_W} {PX : (Nat → Prop) → State → Prop}
theorem cWi {post : Int32 → va_W → Prop} (S : CallFix p m c cc nL s args Ts own) (hM : Cti l D cy y ws rm (.ref b :: As) w0 PX post) (cw : CallW R s args own C index y bytes maxL ret ws rm rm.cells rm.slots n) (hK : myK D cy s) (hP : va_P D vwCl wld H) (hD : va_D A wld) (hS : va_S A s.heap H locs) (hA : ∀ q, s.heap.size ≤ q → A q) (isC isR : List Nat) (hJ : myJ wld w0 wr isC isR) (hrv : ∃ cell : Cell, H[b]? = some cell ∧ cell.vm.isStatics = false ∧ s.vm.findClass C = some cell.cls) (hX : myX PX s H w0) (hn : As.length = n) (hsize : ls.size = nL) (hst : st0 = As.reverse ++ .ref b :: rest) (hW : (rest.map fun v => v.category).sum ≤ 8) (hdg : decode cc pc = .ok (.invokevirtual index, 3)) (hf : cells + rm.cells ≤ R.cells ∧ slots + rm.slots ≤ R.slots)
    (kk : ∀ (r : Int32) (w : va_W) (H1 : Heap) (locs1 : List Loc), post r w → va_P D vwCl (wr ++ w) H1 → va_D A (wr ++ w) → va_S A s.heap H1 locs1 → W p l e R s m args below meth c H1 locs1 (cells + rm.cells) (slots + rm.slots) Q (F0 m (pc + 3) ls (.int r :: rest))) : W p l e R s m args below meth c H locs cells slots Q (F0 m pc ls st0) := by
  obtain ⟨hC, hR, hnC, hnR, hdis⟩ := hJ
  have hPc : va_P D vwCl w0 H := va_PM hP isC hC
  have hDc : va_D A w0 := hD.sub isC hnC hC
  have hFc := va_free hD hS hA isC hC
  refine va_calli (va_runV S (hM H.size) cw ⟨fun a U g mk q => ⟨q.1, q.2.1, q.2.2.1, va_K.moved (u := U) (U := U.calling g mk a) (Vm.Alike.refl U.vm) q.2.2.2.1, q.2.2.2.2.1, hX.1 _ _ _ _ _ q.2.2.2.2.2⟩, hrv, fun U hU hW => ⟨rfl, by rw [hU], by rw [hU]; exact hPc, va_K.moved hW.alike hK, hDc.weaken (fun _ _ _ _ => trivial), hX.2 U hU hW⟩⟩ rfl hn hsize hst (lv_room hW) hdg hf) hS (fun q _ h => hFc q h) hFc (fun r u t H1 locs1 ht hvm hw hB hz1 hk1 hS1 => ?_)
  obtain ⟨hP1, hD1⟩ := hB
  rw [ht] at hP1
  obtain ⟨hP2, hD2⟩ := va_join (wr := wr) (w1 := u) hP hD isC isR hC hR hnR hdis hk1 hFc hP1 hD1
  exact kk r u H1 locs1 hw hP2 hD2 hS1
end MYW
